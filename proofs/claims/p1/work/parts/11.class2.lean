theorem bRg_cases (v : Int32) (n : Nat) (hn : n < 2147483647) : (bRg v 0 (nI n) = 0 ∧ v < 0) ∨ (bRg v 0 (nI n) = 0 ∧ ¬ v < 0 ∧ nI n < v) ∨ ∃ j : Nat, j ≤ n ∧ v = nI j ∧ bRg (nI j) 0 (nI n) = 1 := by
  unfold bRg
  rcases rg_cases v n hn with h | ⟨h, h2⟩ | ⟨j, hj, rfl⟩
  · exact Or.inl ⟨if_pos h, h⟩
  · exact Or.inr (Or.inl ⟨by rw [if_neg h, if_pos h2], h, h2⟩)
  · exact Or.inr (Or.inr ⟨j, hj, rfl, by rw [if_neg (nI_pos (by omega)), if_neg (nI_nlt hj (by omega))]⟩)
def vWy (j : Nat) : Int64 := if j = 0 then 1 else 0
def vTm (t n : Int32) : Int64 := if bRg t 0 n = 0 then -1 else vWy t.toNatClampNeg
theorem vTm_out {t n : Int32} (h : bRg t 0 n = 0) : vTm t n = -1 := if_pos h
theorem vTm_in {j : Nat} {n : Int32} (hj : j < 2147483648) (h : bRg (nI j) 0 n = 1) : vTm (nI j) n = vWy j := by
  unfold vTm
  rw [h, nI_clamp hj]
  rfl
def vCan (t p : Int32) : Int32 := if bRg t 0 60 = 0 then -1 else if bRg p 0 59 = 0 then -1 else 0
theorem vCan_1 {t p : Int32} (h : bRg t 0 60 = 0) : vCan t p = -1 := if_pos h
theorem vCan_2 {t p : Int32} (h : bRg p 0 59 = 0) : vCan t p = -1 := by
  unfold vCan
  rw [if_pos h]
  split <;> rfl
theorem vCan_3 {t p : Int32} (h : bRg t 0 60 = 1) (h2 : bRg p 0 59 = 1) : vCan t p = 0 := by
  unfold vCan
  rw [h, h2]
  rfl
theorem dX11_lies_0 : decode cX11_lies 0 = .ok (.iload_n 1, 1) := by decide +kernel
theorem dX11_lies_1 : decode cX11_lies 1 = .ok (.ifCond .lt 29, 3) := by decide +kernel
theorem dX11_lies_30 : decode cX11_lies 30 = .ok (.iconst (-1), 1) := by decide +kernel
theorem dX11_lies_31 : decode cX11_lies 31 = .ok (.ireturn, 1) := by decide +kernel
theorem dX11_lies_4 : decode cX11_lies 4 = .ok (.iload_n 1, 1) := by decide +kernel
theorem dX11_lies_5 : decode cX11_lies 5 = .ok (.aload_n 0, 1) := by decide +kernel
theorem dX11_lies_6 : decode cX11_lies 6 = .ok (.getfield 143, 3) := by decide +kernel
theorem dX11_lies_9 : decode cX11_lies 9 = .ok (.if_icmp .ge 21, 3) := by decide +kernel
theorem dX11_cobble_0 : decode cX11_cobble 0 = .ok (.aload_n 0, 1) := by decide +kernel
theorem dX11_cobble_1 : decode cX11_cobble 1 = .ok (.getfield 26, 3) := by decide +kernel
theorem dX11_cobble_4 : decode cX11_cobble 4 = .ok (.iload_n 1, 1) := by decide +kernel
theorem dX11_cobble_5 : decode cX11_cobble 5 = .ok (.invokevirtual 273, 3) := by decide +kernel
theorem tw_1067 : Cond.methodLink RX11 273 yX5_hasStep ∈ TT := nx_mem 1067 (by decide +kernel) (by decide +kernel)
theorem dX11_cobble_8 : decode cX11_cobble 8 = .ok (.ifCond .eq 15, 3) := by decide +kernel
theorem dX11_cobble_23 : decode cX11_cobble 23 = .ok (.iconst (-1), 1) := by decide +kernel
theorem dX11_cobble_24 : decode cX11_cobble 24 = .ok (.ireturn, 1) := by decide +kernel
theorem dX11_sound_0 : decode cX11_sound 0 = .ok (.aload_n 0, 1) := by decide +kernel
theorem dX11_sound_1 : decode cX11_sound 1 = .ok (.getfield 26, 3) := by decide +kernel
theorem dX11_sound_4 : decode cX11_sound 4 = .ok (.iload_n 1, 1) := by decide +kernel
theorem dX11_sound_5 : decode cX11_sound 5 = .ok (.invokevirtual 169, 3) := by decide +kernel
theorem dX11_sound_8 : decode cX11_sound 8 = .ok (.ifCond .eq 13, 3) := by decide +kernel
theorem dX11_sound_21 : decode cX11_sound 21 = .ok (.iconst (-1), 1) := by decide +kernel
theorem dX11_sound_22 : decode cX11_sound 22 = .ok (.ireturn, 1) := by decide +kernel
theorem dX8_takeBack_0 : decode cX8_takeBack 0 = .ok (.iload_n 1, 1) := by decide +kernel
theorem dX8_takeBack_1 : decode cX8_takeBack 1 = .ok (.ifCond .lt 22, 3) := by decide +kernel
theorem dX8_takeBack_23 : decode cX8_takeBack 23 = .ok (.iconst 0, 1) := by decide +kernel
theorem dX8_takeBack_24 : decode cX8_takeBack 24 = .ok (.ireturn, 1) := by decide +kernel
theorem dX8_takeBack_4 : decode cX8_takeBack 4 = .ok (.iload_n 1, 1) := by decide +kernel
theorem dX8_takeBack_5 : decode cX8_takeBack 5 = .ok (.aload_n 0, 1) := by decide +kernel
theorem dX8_takeBack_6 : decode cX8_takeBack 6 = .ok (.getfield 30, 3) := by decide +kernel
theorem tw_333 : Cond.fieldLink RX8 30 "LimpCode$Sounds" "count" "I" ∈ TT := nx_mem 333 (by decide +kernel) (by decide +kernel)
theorem dX8_takeBack_9 : decode cX8_takeBack 9 = .ok (.if_icmp .ge 14, 3) := by decide +kernel
theorem dX11_untell_0 : decode cX11_untell 0 = .ok (.aload_n 0, 1) := by decide +kernel
theorem dX11_untell_1 : decode cX11_untell 1 = .ok (.getfield 54, 3) := by decide +kernel
theorem dX11_untell_4 : decode cX11_untell 4 = .ok (.iload_n 1, 1) := by decide +kernel
theorem dX11_untell_5 : decode cX11_untell 5 = .ok (.aload_n 0, 1) := by decide +kernel
theorem dX11_untell_6 : decode cX11_untell 6 = .ok (.getfield 276, 3) := by decide +kernel
theorem tw_493 : Cond.fieldLink RX11 276 "LimpCode" "timeOfDay" "I" ∈ TT := nx_mem 493 (by decide +kernel) (by decide +kernel)
theorem dX11_untell_9 : decode cX11_untell 9 = .ok (.invokevirtual 282, 3) := by decide +kernel
theorem tw_1081 : Cond.methodLink RX11 282 yX8_takeBack ∈ TT := nx_mem 1081 (by decide +kernel) (by decide +kernel)
theorem tw_1082 : Cond.instanceMethod yX8_takeBack ∈ TT := nx_mem 1082 (by decide +kernel) (by decide +kernel)
theorem tw_1083 : Cond.selects RX8 yX8_takeBack yX8_takeBack ∈ TT := nx_mem 1083 (by decide +kernel) (by decide +kernel)
theorem tw_1084 : Cond.code yX8_takeBack cX8_takeBack 3 (some .boolean) ∈ TT := nx_mem 1084 (by decide +kernel) (by decide +kernel)
theorem dX11_untell_12 : decode cX11_untell 12 = .ok (.ireturn, 1) := by decide +kernel
theorem dX11_later_0 : decode cX11_later 0 = .ok (.iload_n 1, 1) := by decide +kernel
theorem dX11_later_1 : decode cX11_later 1 = .ok (.ifCond .lt 22, 3) := by decide +kernel
theorem dX11_later_23 : decode cX11_later 23 = .ok (.iconst (-1), 1) := by decide +kernel
theorem dX11_later_24 : decode cX11_later 24 = .ok (.ireturn, 1) := by decide +kernel
theorem dX11_later_4 : decode cX11_later 4 = .ok (.iload_n 1, 1) := by decide +kernel
theorem dX11_later_5 : decode cX11_later 5 = .ok (.sipush 1000, 3) := by decide +kernel
theorem dX11_later_8 : decode cX11_later 8 = .ok (.if_icmp .gt 15, 3) := by decide +kernel
theorem dX11_later_11 : decode cX11_later 11 = .ok (.aload_n 0, 1) := by decide +kernel
theorem dX11_later_12 : decode cX11_later 12 = .ok (.getfield 276, 3) := by decide +kernel
theorem dX11_later_15 : decode cX11_later 15 = .ok (.iload_n 1, 1) := by decide +kernel
theorem dX11_later_16 : decode cX11_later 16 = .ok (.iadd, 1) := by decide +kernel
theorem dX11_later_17 : decode cX11_later 17 = .ok (.ldc_w 285, 3) := by decide +kernel
theorem tw_1089 : Cond.constant RX11 285 100000 ∈ TT := nx_mem 1089 (by decide +kernel) (by decide +kernel)
theorem dX11_later_20 : decode cX11_later 20 = .ok (.if_icmp .le 5, 3) := by decide +kernel
theorem dX11_later_25 : decode cX11_later 25 = .ok (.aload_n 0, 1) := by decide +kernel
theorem dX11_later_26 : decode cX11_later 26 = .ok (.dup, 1) := by decide +kernel
theorem dX11_later_27 : decode cX11_later 27 = .ok (.getfield 276, 3) := by decide +kernel
theorem dX11_later_30 : decode cX11_later 30 = .ok (.iload_n 1, 1) := by decide +kernel
theorem dX11_later_31 : decode cX11_later 31 = .ok (.iadd, 1) := by decide +kernel
theorem dX11_later_32 : decode cX11_later 32 = .ok (.putfield 276, 3) := by decide +kernel
theorem dX11_later_35 : decode cX11_later 35 = .ok (.aload_n 0, 1) := by decide +kernel
theorem dX11_later_36 : decode cX11_later 36 = .ok (.getfield 276, 3) := by decide +kernel
theorem dX11_later_39 : decode cX11_later 39 = .ok (.ireturn, 1) := by decide +kernel
theorem dX2_takenBy_0 : decode cX2_takenBy 0 = .ok (.iconst 0, 1) := by decide +kernel
theorem dX2_takenBy_1 : decode cX2_takenBy 1 = .ok (.istore_n 3, 1) := by decide +kernel
theorem dX2_takenBy_2 : decode cX2_takenBy 2 = .ok (.iconst 0, 1) := by decide +kernel
theorem dX2_takenBy_3 : decode cX2_takenBy 3 = .ok (.istore 4, 2) := by decide +kernel
theorem dX2_takenBy_5 : decode cX2_takenBy 5 = .ok (.iconst 0, 1) := by decide +kernel
theorem dX2_takenBy_6 : decode cX2_takenBy 6 = .ok (.istore 5, 2) := by decide +kernel
theorem dX2_takenBy_8 : decode cX2_takenBy 8 = .ok (.iload 5, 2) := by decide +kernel
theorem dX2_takenBy_10 : decode cX2_takenBy 10 = .ok (.aload_n 0, 1) := by decide +kernel
theorem dX2_takenBy_11 : decode cX2_takenBy 11 = .ok (.getfield 32, 3) := by decide +kernel
theorem dX2_takenBy_14 : decode cX2_takenBy 14 = .ok (.if_icmp .ge 55, 3) := by decide +kernel
theorem dX2_takenBy_69 : decode cX2_takenBy 69 = .ok (.iload_n 3, 1) := by decide +kernel
theorem dX2_takenBy_70 : decode cX2_takenBy 70 = .ok (.ireturn, 1) := by decide +kernel
theorem dX11_commonDivisor_0 : decode cX11_commonDivisor 0 = .ok (.iload_n 0, 1) := by decide +kernel
theorem dX11_commonDivisor_1 : decode cX11_commonDivisor 1 = .ok (.istore_n 2, 1) := by decide +kernel
theorem dX11_commonDivisor_2 : decode cX11_commonDivisor 2 = .ok (.iload_n 1, 1) := by decide +kernel
theorem dX11_commonDivisor_3 : decode cX11_commonDivisor 3 = .ok (.istore_n 3, 1) := by decide +kernel
theorem dX11_commonDivisor_4 : decode cX11_commonDivisor 4 = .ok (.iconst 0, 1) := by decide +kernel
theorem dX11_commonDivisor_5 : decode cX11_commonDivisor 5 = .ok (.istore 4, 2) := by decide +kernel
theorem dX11_commonDivisor_7 : decode cX11_commonDivisor 7 = .ok (.iload 4, 2) := by decide +kernel
theorem dX11_commonDivisor_9 : decode cX11_commonDivisor 9 = .ok (.bipush 60, 2) := by decide +kernel
theorem dX11_commonDivisor_11 : decode cX11_commonDivisor 11 = .ok (.if_icmp .ge 23, 3) := by decide +kernel
theorem dX11_commonDivisor_14 : decode cX11_commonDivisor 14 = .ok (.iload_n 3, 1) := by decide +kernel
theorem dX11_commonDivisor_15 : decode cX11_commonDivisor 15 = .ok (.ifCond .eq 19, 3) := by decide +kernel
theorem dX11_commonDivisor_34 : decode cX11_commonDivisor 34 = .ok (.iload_n 2, 1) := by decide +kernel
theorem dX11_commonDivisor_35 : decode cX11_commonDivisor 35 = .ok (.ireturn, 1) := by decide +kernel
theorem dX11_limp_0 : decode cX11_limp 0 = .ok (.iload_n 1, 1) := by decide +kernel
theorem dX11_limp_1 : decode cX11_limp 1 = .ok (.ifCond .eq 10, 3) := by decide +kernel
theorem dX11_limp_11 : decode cX11_limp 11 = .ok (.aload_n 0, 1) := by decide +kernel
theorem dX11_limp_12 : decode cX11_limp 12 = .ok (.getfield 36, 3) := by decide +kernel
theorem dX11_limp_15 : decode cX11_limp 15 = .ok (.aload_n 0, 1) := by decide +kernel
theorem dX11_limp_16 : decode cX11_limp 16 = .ok (.getfield 26, 3) := by decide +kernel
theorem dX11_limp_19 : decode cX11_limp 19 = .ok (.iconst 0, 1) := by decide +kernel
theorem dX11_limp_20 : decode cX11_limp 20 = .ok (.invokevirtual 259, 3) := by decide +kernel
theorem tw_1053 : Cond.methodLink RX11 259 yX2_takenBy ∈ TT := nx_mem 1053 (by decide +kernel) (by decide +kernel)
theorem tw_1054 : Cond.instanceMethod yX2_takenBy ∈ TT := nx_mem 1054 (by decide +kernel) (by decide +kernel)
theorem tw_1055 : Cond.selects RX2 yX2_takenBy yX2_takenBy ∈ TT := nx_mem 1055 (by decide +kernel) (by decide +kernel)
theorem tw_1056 : Cond.code yX2_takenBy cX2_takenBy 7 (some .int) ∈ TT := nx_mem 1056 (by decide +kernel) (by decide +kernel)
theorem dX11_limp_23 : decode cX11_limp 23 = .ok (.istore_n 2, 1) := by decide +kernel
theorem dX11_limp_24 : decode cX11_limp 24 = .ok (.aload_n 0, 1) := by decide +kernel
theorem dX11_limp_25 : decode cX11_limp 25 = .ok (.getfield 36, 3) := by decide +kernel
theorem dX11_limp_28 : decode cX11_limp 28 = .ok (.aload_n 0, 1) := by decide +kernel
theorem dX11_limp_29 : decode cX11_limp 29 = .ok (.getfield 26, 3) := by decide +kernel
theorem dX11_limp_32 : decode cX11_limp 32 = .ok (.iconst 1, 1) := by decide +kernel
theorem dX11_limp_33 : decode cX11_limp 33 = .ok (.invokevirtual 259, 3) := by decide +kernel
theorem dX11_limp_36 : decode cX11_limp 36 = .ok (.istore_n 3, 1) := by decide +kernel
theorem dX11_limp_37 : decode cX11_limp 37 = .ok (.iload_n 2, 1) := by decide +kernel
theorem dX11_limp_38 : decode cX11_limp 38 = .ok (.iload_n 3, 1) := by decide +kernel
theorem dX11_limp_39 : decode cX11_limp 39 = .ok (.isub, 1) := by decide +kernel
theorem dX11_limp_40 : decode cX11_limp 40 = .ok (.invokestatic 263, 3) := by decide +kernel
theorem tw_1057 : Cond.methodLink RX11 263 yJ9_abs_0f7a4 ∈ TT := nx_mem 1057 (by decide +kernel) (by decide +kernel)
theorem tw_1058 : Cond.static yJ9_abs_0f7a4 ∈ TT := nx_mem 1058 (by decide +kernel) (by decide +kernel)
theorem tw_105 : Cond.initialized RJ9 ∈ TT := nx_mem 105 (by decide +kernel) (by decide +kernel)
theorem tw_1059 : Cond.code yJ9_abs_0f7a4 cJ9_abs_0f7a4 1 (some .int) ∈ TT := nx_mem 1059 (by decide +kernel) (by decide +kernel)
theorem dX11_limp_43 : decode cX11_limp 43 = .ok (.iload_n 2, 1) := by decide +kernel
theorem dX11_limp_44 : decode cX11_limp 44 = .ok (.iload_n 3, 1) := by decide +kernel
theorem dX11_limp_45 : decode cX11_limp 45 = .ok (.iadd, 1) := by decide +kernel
theorem dX11_limp_46 : decode cX11_limp 46 = .ok (.invokestatic 269, 3) := by decide +kernel
theorem tw_1060 : Cond.methodLink RX11 269 yX11_commonDivisor ∈ TT := nx_mem 1060 (by decide +kernel) (by decide +kernel)
theorem tw_1061 : Cond.static yX11_commonDivisor ∈ TT := nx_mem 1061 (by decide +kernel) (by decide +kernel)
theorem tw_1062 : Cond.code yX11_commonDivisor cX11_commonDivisor 6 (some .int) ∈ TT := nx_mem 1062 (by decide +kernel) (by decide +kernel)
theorem dX11_limp_49 : decode cX11_limp 49 = .ok (.istore 4, 2) := by decide +kernel
theorem dX11_limp_51 : decode cX11_limp 51 = .ok (.iload 4, 2) := by decide +kernel
theorem dX11_limp_53 : decode cX11_limp 53 = .ok (.ifCond .ne 5, 3) := by decide +kernel
theorem dX11_limp_56 : decode cX11_limp 56 = .ok (.iload_n 1, 1) := by decide +kernel
theorem dX11_limp_57 : decode cX11_limp 57 = .ok (.ireturn, 1) := by decide +kernel
theorem dX11_limp_4 : decode cX11_limp 4 = .ok (.iload_n 1, 1) := by decide +kernel
theorem dX11_limp_5 : decode cX11_limp 5 = .ok (.iconst 1, 1) := by decide +kernel
theorem dX11_limp_6 : decode cX11_limp 6 = .ok (.if_icmp .eq 5, 3) := by decide +kernel
theorem dX11_limp_9 : decode cX11_limp 9 = .ok (.iconst (-1), 1) := by decide +kernel
theorem dX11_limp_10 : decode cX11_limp 10 = .ok (.ireturn, 1) := by decide +kernel
theorem dX11_about_0 : decode cX11_about 0 = .ok (.iload_n 1, 1) := by decide +kernel
theorem dX11_about_1 : decode cX11_about 1 = .ok (.tableswitch 157 0 11 #[63, 71, 79, 87, 95, 103, 111, 121, 131, 139, 144, 152], 63) := by decide +kernel
theorem dX11_about_64 : decode cX11_about 64 = .ok (.aload_n 0, 1) := by decide +kernel
theorem dX11_about_65 : decode cX11_about 65 = .ok (.getfield 26, 3) := by decide +kernel
theorem dX11_about_68 : decode cX11_about 68 = .ok (.getfield 306, 3) := by decide +kernel
theorem tw_221 : Cond.fieldLink RX11 306 "LimpCode$School" "stepCount" "I" ∈ TT := nx_mem 221 (by decide +kernel) (by decide +kernel)
theorem dX11_about_71 : decode cX11_about 71 = .ok (.ireturn, 1) := by decide +kernel
theorem dX11_about_72 : decode cX11_about 72 = .ok (.aload_n 0, 1) := by decide +kernel
theorem dX11_about_73 : decode cX11_about 73 = .ok (.getfield 26, 3) := by decide +kernel
theorem dX11_about_76 : decode cX11_about 76 = .ok (.getfield 126, 3) := by decide +kernel
theorem tw_225 : Cond.fieldLink RX11 126 "LimpCode$School" "letterCount" "I" ∈ TT := nx_mem 225 (by decide +kernel) (by decide +kernel)
theorem dX11_about_79 : decode cX11_about 79 = .ok (.ireturn, 1) := by decide +kernel
theorem dX11_about_80 : decode cX11_about 80 = .ok (.aload_n 0, 1) := by decide +kernel
theorem dX11_about_81 : decode cX11_about 81 = .ok (.getfield 26, 3) := by decide +kernel
theorem dX11_about_84 : decode cX11_about 84 = .ok (.getfield 309, 3) := by decide +kernel
theorem tw_231 : Cond.fieldLink RX11 309 "LimpCode$School" "earCount" "I" ∈ TT := nx_mem 231 (by decide +kernel) (by decide +kernel)
theorem dX11_about_87 : decode cX11_about 87 = .ok (.ireturn, 1) := by decide +kernel
theorem dX11_about_88 : decode cX11_about 88 = .ok (.aload_n 0, 1) := by decide +kernel
theorem dX11_about_89 : decode cX11_about 89 = .ok (.getfield 36, 3) := by decide +kernel
theorem dX11_about_92 : decode cX11_about 92 = .ok (.getfield 156, 3) := by decide +kernel
theorem dX11_about_95 : decode cX11_about 95 = .ok (.ireturn, 1) := by decide +kernel
theorem dX11_about_96 : decode cX11_about 96 = .ok (.aload_n 0, 1) := by decide +kernel
theorem dX11_about_97 : decode cX11_about 97 = .ok (.getfield 36, 3) := by decide +kernel
theorem dX11_about_100 : decode cX11_about 100 = .ok (.getfield 312, 3) := by decide +kernel
theorem tw_275 : Cond.fieldLink RX11 312 "LimpCode$Earnest" "size" "I" ∈ TT := nx_mem 275 (by decide +kernel) (by decide +kernel)
theorem dX11_about_103 : decode cX11_about 103 = .ok (.ireturn, 1) := by decide +kernel
theorem dX11_about_104 : decode cX11_about 104 = .ok (.aload_n 0, 1) := by decide +kernel
theorem dX11_about_105 : decode cX11_about 105 = .ok (.getfield 36, 3) := by decide +kernel
theorem dX11_about_108 : decode cX11_about 108 = .ok (.getfield 313, 3) := by decide +kernel
theorem tw_279 : Cond.fieldLink RX11 313 "LimpCode$Earnest" "foot" "I" ∈ TT := nx_mem 279 (by decide +kernel) (by decide +kernel)
theorem dX11_about_111 : decode cX11_about 111 = .ok (.ireturn, 1) := by decide +kernel
theorem dX11_about_112 : decode cX11_about 112 = .ok (.aload_n 0, 1) := by decide +kernel
theorem dX11_about_113 : decode cX11_about 113 = .ok (.getfield 46, 3) := by decide +kernel
theorem dX11_about_116 : decode cX11_about 116 = .ok (.iconst 0, 1) := by decide +kernel
theorem dX11_about_117 : decode cX11_about 117 = .ok (.aaload, 1) := by decide +kernel
theorem dX11_about_118 : decode cX11_about 118 = .ok (.getfield 226, 3) := by decide +kernel
theorem dX11_about_121 : decode cX11_about 121 = .ok (.ireturn, 1) := by decide +kernel
theorem dX11_about_122 : decode cX11_about 122 = .ok (.aload_n 0, 1) := by decide +kernel
theorem dX11_about_123 : decode cX11_about 123 = .ok (.getfield 46, 3) := by decide +kernel
theorem dX11_about_126 : decode cX11_about 126 = .ok (.iconst 1, 1) := by decide +kernel
theorem dX11_about_127 : decode cX11_about 127 = .ok (.aaload, 1) := by decide +kernel
theorem dX11_about_128 : decode cX11_about 128 = .ok (.getfield 226, 3) := by decide +kernel
theorem dX11_about_131 : decode cX11_about 131 = .ok (.ireturn, 1) := by decide +kernel
theorem dX11_about_132 : decode cX11_about 132 = .ok (.aload_n 0, 1) := by decide +kernel
theorem dX11_about_133 : decode cX11_about 133 = .ok (.getfield 54, 3) := by decide +kernel
theorem dX11_about_136 : decode cX11_about 136 = .ok (.getfield 140, 3) := by decide +kernel
theorem tw_334 : Cond.fieldLink RX11 140 "LimpCode$Sounds" "count" "I" ∈ TT := nx_mem 334 (by decide +kernel) (by decide +kernel)
theorem dX11_about_139 : decode cX11_about 139 = .ok (.ireturn, 1) := by decide +kernel
theorem dX11_about_140 : decode cX11_about 140 = .ok (.aload_n 0, 1) := by decide +kernel
theorem dX11_about_141 : decode cX11_about 141 = .ok (.getfield 276, 3) := by decide +kernel
theorem dX11_about_144 : decode cX11_about 144 = .ok (.ireturn, 1) := by decide +kernel
theorem dX11_about_145 : decode cX11_about 145 = .ok (.aload_n 0, 1) := by decide +kernel
theorem dX11_about_146 : decode cX11_about 146 = .ok (.getfield 12, 3) := by decide +kernel
theorem dX11_about_149 : decode cX11_about 149 = .ok (.getfield 115, 3) := by decide +kernel
theorem dX11_about_152 : decode cX11_about 152 = .ok (.ireturn, 1) := by decide +kernel
theorem dX11_about_153 : decode cX11_about 153 = .ok (.aload_n 0, 1) := by decide +kernel
theorem dX11_about_154 : decode cX11_about 154 = .ok (.getfield 143, 3) := by decide +kernel
theorem dX11_about_157 : decode cX11_about 157 = .ok (.ireturn, 1) := by decide +kernel
theorem dX11_about_158 : decode cX11_about 158 = .ok (.iconst (-1), 1) := by decide +kernel
theorem dX11_about_159 : decode cX11_about 159 = .ok (.ireturn, 1) := by decide +kernel
theorem dX2_copyFrom_0 : decode cX2_copyFrom 0 = .ok (.aload_n 1, 1) := by decide +kernel
theorem dX2_copyFrom_1 : decode cX2_copyFrom 1 = .ok (.getfield 9, 3) := by decide +kernel
theorem dX2_copyFrom_4 : decode cX2_copyFrom 4 = .ok (.iconst 0, 1) := by decide +kernel
theorem dX2_copyFrom_5 : decode cX2_copyFrom 5 = .ok (.aload_n 0, 1) := by decide +kernel
theorem dX2_copyFrom_6 : decode cX2_copyFrom 6 = .ok (.getfield 9, 3) := by decide +kernel
theorem dX2_copyFrom_9 : decode cX2_copyFrom 9 = .ok (.iconst 0, 1) := by decide +kernel
theorem dX2_copyFrom_10 : decode cX2_copyFrom 10 = .ok (.bipush 60, 2) := by decide +kernel
theorem dX2_copyFrom_12 : decode cX2_copyFrom 12 = .ok (.invokestatic 26, 3) := by decide +kernel
theorem tw_739 : Cond.methodLink RX2 26 arraycopyName ∈ TT := nx_mem 739 (by decide +kernel) (by decide +kernel)
theorem tw_741 : Cond.native arraycopyName ∈ TT := nx_mem 741 (by decide +kernel) (by decide +kernel)
theorem tw_740 : Cond.static arraycopyName ∈ TT := nx_mem 740 (by decide +kernel) (by decide +kernel)
theorem tw_104 : Cond.initialized "java/lang/System" ∈ TT := nx_mem 104 (by decide +kernel) (by decide +kernel)
theorem dX2_copyFrom_15 : decode cX2_copyFrom 15 = .ok (.aload_n 1, 1) := by decide +kernel
theorem dX2_copyFrom_16 : decode cX2_copyFrom 16 = .ok (.getfield 15, 3) := by decide +kernel
theorem dX2_copyFrom_19 : decode cX2_copyFrom 19 = .ok (.iconst 0, 1) := by decide +kernel
theorem dX2_copyFrom_20 : decode cX2_copyFrom 20 = .ok (.aload_n 0, 1) := by decide +kernel
theorem dX2_copyFrom_21 : decode cX2_copyFrom 21 = .ok (.getfield 15, 3) := by decide +kernel
theorem dX2_copyFrom_24 : decode cX2_copyFrom 24 = .ok (.iconst 0, 1) := by decide +kernel
theorem dX2_copyFrom_25 : decode cX2_copyFrom 25 = .ok (.bipush 6, 2) := by decide +kernel
theorem dX2_copyFrom_27 : decode cX2_copyFrom 27 = .ok (.invokestatic 26, 3) := by decide +kernel
theorem dX2_copyFrom_30 : decode cX2_copyFrom 30 = .ok (.aload_n 0, 1) := by decide +kernel
theorem dX2_copyFrom_31 : decode cX2_copyFrom 31 = .ok (.aload_n 1, 1) := by decide +kernel
theorem dX2_copyFrom_32 : decode cX2_copyFrom 32 = .ok (.getfield 32, 3) := by decide +kernel
theorem dX2_copyFrom_35 : decode cX2_copyFrom 35 = .ok (.putfield 32, 3) := by decide +kernel
theorem dX2_copyFrom_38 : decode cX2_copyFrom 38 = .ok (.aload_n 0, 1) := by decide +kernel
theorem dX2_copyFrom_39 : decode cX2_copyFrom 39 = .ok (.aload_n 1, 1) := by decide +kernel
theorem dX2_copyFrom_40 : decode cX2_copyFrom 40 = .ok (.getfield 36, 3) := by decide +kernel
theorem dX2_copyFrom_43 : decode cX2_copyFrom 43 = .ok (.putfield 36, 3) := by decide +kernel
theorem dX2_copyFrom_46 : decode cX2_copyFrom 46 = .ok (.aload_n 0, 1) := by decide +kernel
theorem dX2_copyFrom_47 : decode cX2_copyFrom 47 = .ok (.aload_n 1, 1) := by decide +kernel
theorem dX2_copyFrom_48 : decode cX2_copyFrom 48 = .ok (.getfield 39, 3) := by decide +kernel
theorem dX2_copyFrom_51 : decode cX2_copyFrom 51 = .ok (.putfield 39, 3) := by decide +kernel
theorem dX2_copyFrom_54 : decode cX2_copyFrom 54 = .ok (.return_, 1) := by decide +kernel
theorem dX11_image_0 : decode cX11_image 0 = .ok (.iload_n 1, 1) := by decide +kernel
theorem dX11_image_1 : decode cX11_image 1 = .ok (.invokestatic 299, 3) := by decide +kernel
theorem tw_1131 : Cond.methodLink RX11 299 yX11_isBox ∈ TT := nx_mem 1131 (by decide +kernel) (by decide +kernel)
theorem tw_1132 : Cond.static yX11_isBox ∈ TT := nx_mem 1132 (by decide +kernel) (by decide +kernel)
theorem tw_1133 : Cond.code yX11_isBox cX11_isBox 1 (some .boolean) ∈ TT := nx_mem 1133 (by decide +kernel) (by decide +kernel)
theorem dX11_image_4 : decode cX11_image 4 = .ok (.ifCond .ne 5, 3) := by decide +kernel
theorem dX11_image_9 : decode cX11_image 9 = .ok (.aload_n 0, 1) := by decide +kernel
theorem dX11_image_10 : decode cX11_image 10 = .ok (.getfield 40, 3) := by decide +kernel
theorem dX11_image_13 : decode cX11_image 13 = .ok (.iload_n 1, 1) := by decide +kernel
theorem dX11_image_14 : decode cX11_image 14 = .ok (.aaload, 1) := by decide +kernel
theorem dX11_image_15 : decode cX11_image 15 = .ok (.aload_n 0, 1) := by decide +kernel
theorem dX11_image_16 : decode cX11_image 16 = .ok (.getfield 36, 3) := by decide +kernel
theorem dX11_image_19 : decode cX11_image 19 = .ok (.invokevirtual 302, 3) := by decide +kernel
theorem tw_1134 : Cond.methodLink RX11 302 yX2_copyFrom ∈ TT := nx_mem 1134 (by decide +kernel) (by decide +kernel)
theorem tw_1135 : Cond.instanceMethod yX2_copyFrom ∈ TT := nx_mem 1135 (by decide +kernel) (by decide +kernel)
theorem tw_1136 : Cond.selects RX2 yX2_copyFrom yX2_copyFrom ∈ TT := nx_mem 1136 (by decide +kernel) (by decide +kernel)
theorem tw_1137 : Cond.code yX2_copyFrom cX2_copyFrom 2 none ∈ TT := nx_mem 1137 (by decide +kernel) (by decide +kernel)
theorem dX11_image_22 : decode cX11_image 22 = .ok (.aload_n 0, 1) := by decide +kernel
theorem dX11_image_23 : decode cX11_image 23 = .ok (.getfield 40, 3) := by decide +kernel
theorem dX11_image_26 : decode cX11_image 26 = .ok (.iload_n 1, 1) := by decide +kernel
theorem dX11_image_27 : decode cX11_image 27 = .ok (.aaload, 1) := by decide +kernel
theorem dX11_image_28 : decode cX11_image 28 = .ok (.iconst 1, 1) := by decide +kernel
theorem dX11_image_29 : decode cX11_image 29 = .ok (.putfield 133, 3) := by decide +kernel
theorem tw_280 : Cond.fieldLink RX11 133 "LimpCode$Earnest" "kept" "Z" ∈ TT := nx_mem 280 (by decide +kernel) (by decide +kernel)
theorem dX11_image_32 : decode cX11_image 32 = .ok (.aload_n 0, 1) := by decide +kernel
theorem dX11_image_33 : decode cX11_image 33 = .ok (.getfield 36, 3) := by decide +kernel
theorem dX11_image_36 : decode cX11_image 36 = .ok (.getfield 156, 3) := by decide +kernel
theorem dX11_image_39 : decode cX11_image 39 = .ok (.ireturn, 1) := by decide +kernel
theorem dX11_image_7 : decode cX11_image 7 = .ok (.iconst (-1), 1) := by decide +kernel
theorem dX11_image_8 : decode cX11_image 8 = .ok (.ireturn, 1) := by decide +kernel
theorem dX11_back_0 : decode cX11_back 0 = .ok (.iload_n 1, 1) := by decide +kernel
theorem dX11_back_1 : decode cX11_back 1 = .ok (.invokestatic 299, 3) := by decide +kernel
theorem dX11_back_4 : decode cX11_back 4 = .ok (.ifCond .eq 15, 3) := by decide +kernel
theorem dX11_back_7 : decode cX11_back 7 = .ok (.aload_n 0, 1) := by decide +kernel
theorem dX11_back_8 : decode cX11_back 8 = .ok (.getfield 40, 3) := by decide +kernel
theorem dX11_back_11 : decode cX11_back 11 = .ok (.iload_n 1, 1) := by decide +kernel
theorem dX11_back_12 : decode cX11_back 12 = .ok (.aaload, 1) := by decide +kernel
theorem dX11_back_13 : decode cX11_back 13 = .ok (.getfield 133, 3) := by decide +kernel
theorem dX11_back_16 : decode cX11_back 16 = .ok (.ifCond .ne 5, 3) := by decide +kernel
theorem dX11_back_19 : decode cX11_back 19 = .ok (.iconst (-1), 1) := by decide +kernel
theorem dX11_back_20 : decode cX11_back 20 = .ok (.ireturn, 1) := by decide +kernel
theorem dX9_byteAt_0 : decode cX9_byteAt 0 = .ok (.iload_n 1, 1) := by decide +kernel
theorem dX9_byteAt_1 : decode cX9_byteAt 1 = .ok (.ifCond .lt 29, 3) := by decide +kernel
theorem dX9_byteAt_4 : decode cX9_byteAt 4 = .ok (.iload_n 1, 1) := by decide +kernel
theorem dX9_byteAt_5 : decode cX9_byteAt 5 = .ok (.aload_n 0, 1) := by decide +kernel
theorem dX9_byteAt_6 : decode cX9_byteAt 6 = .ok (.getfield 15, 3) := by decide +kernel
theorem dX9_byteAt_9 : decode cX9_byteAt 9 = .ok (.if_icmp .ge 21, 3) := by decide +kernel
theorem dX9_byteAt_30 : decode cX9_byteAt 30 = .ok (.iconst 0, 1) := by decide +kernel
theorem dX9_byteAt_31 : decode cX9_byteAt 31 = .ok (.ireturn, 1) := by decide +kernel
theorem dX9_readNext_0 : decode cX9_readNext 0 = .ok (.aload_n 0, 1) := by decide +kernel
theorem dX9_readNext_1 : decode cX9_readNext 1 = .ok (.aload_n 0, 1) := by decide +kernel
theorem dX9_readNext_2 : decode cX9_readNext 2 = .ok (.getfield 19, 3) := by decide +kernel
theorem tw_128 : Cond.fieldLink RX9 19 "LimpCode$Tape" "behind" "I" ∈ TT := nx_mem 128 (by decide +kernel) (by decide +kernel)
theorem dX9_readNext_5 : decode cX9_readNext 5 = .ok (.putfield 25, 3) := by decide +kernel
theorem tw_126 : Cond.fieldLink RX9 25 "LimpCode$Tape" "place" "I" ∈ TT := nx_mem 126 (by decide +kernel) (by decide +kernel)
theorem dX9_readNext_8 : decode cX9_readNext 8 = .ok (.aload_n 0, 1) := by decide +kernel
theorem dX9_readNext_9 : decode cX9_readNext 9 = .ok (.getfield 25, 3) := by decide +kernel
theorem dX9_readNext_12 : decode cX9_readNext 12 = .ok (.aload_n 0, 1) := by decide +kernel
theorem dX9_readNext_13 : decode cX9_readNext 13 = .ok (.getfield 15, 3) := by decide +kernel
theorem dX9_readNext_16 : decode cX9_readNext 16 = .ok (.if_icmp .ge 30, 3) := by decide +kernel
theorem dX9_readNext_46 : decode cX9_readNext 46 = .ok (.aload_n 0, 1) := by decide +kernel
theorem dX9_readNext_47 : decode cX9_readNext 47 = .ok (.aload_n 0, 1) := by decide +kernel
theorem dX9_readNext_48 : decode cX9_readNext 48 = .ok (.getfield 25, 3) := by decide +kernel
theorem dX9_readNext_51 : decode cX9_readNext 51 = .ok (.putfield 19, 3) := by decide +kernel
theorem dX9_readNext_54 : decode cX9_readNext 54 = .ok (.aload_n 0, 1) := by decide +kernel
theorem dX9_readNext_55 : decode cX9_readNext 55 = .ok (.aload_n 0, 1) := by decide +kernel
theorem dX9_readNext_56 : decode cX9_readNext 56 = .ok (.getfield 25, 3) := by decide +kernel
theorem dX9_readNext_59 : decode cX9_readNext 59 = .ok (.invokevirtual 28, 3) := by decide +kernel
theorem tw_569 : Cond.methodLink RX9 28 yX9_byteAt ∈ TT := nx_mem 569 (by decide +kernel) (by decide +kernel)
theorem tw_571 : Cond.instanceMethod yX9_byteAt ∈ TT := nx_mem 571 (by decide +kernel) (by decide +kernel)
theorem tw_0 : Cond.selects RX9 yX9_byteAt yX9_byteAt ∈ TT := nx_mem 0 (by decide +kernel) (by decide +kernel)
theorem tw_572 : Cond.code yX9_byteAt cX9_byteAt 2 (some .int) ∈ TT := nx_mem 572 (by decide +kernel) (by decide +kernel)
theorem dX9_readNext_62 : decode cX9_readNext 62 = .ok (.istore_n 1, 1) := by decide +kernel
theorem dX9_readNext_63 : decode cX9_readNext 63 = .ok (.aload_n 0, 1) := by decide +kernel
theorem dX9_readNext_64 : decode cX9_readNext 64 = .ok (.getfield 25, 3) := by decide +kernel
theorem dX9_readNext_67 : decode cX9_readNext 67 = .ok (.aload_n 0, 1) := by decide +kernel
theorem dX9_readNext_68 : decode cX9_readNext 68 = .ok (.getfield 15, 3) := by decide +kernel
theorem dX9_readNext_71 : decode cX9_readNext 71 = .ok (.if_icmp .lt 11, 3) := by decide +kernel
theorem dX9_readNext_74 : decode cX9_readNext 74 = .ok (.aload_n 0, 1) := by decide +kernel
theorem dX9_readNext_75 : decode cX9_readNext 75 = .ok (.iconst 0, 1) := by decide +kernel
theorem dX9_readNext_76 : decode cX9_readNext 76 = .ok (.putfield 36, 3) := by decide +kernel
theorem tw_125 : Cond.fieldLink RX9 36 "LimpCode$Tape" "kind" "I" ∈ TT := nx_mem 125 (by decide +kernel) (by decide +kernel)
theorem dX9_readNext_79 : decode cX9_readNext 79 = .ok (.goto 60, 3) := by decide +kernel
theorem dX9_readNext_139 : decode cX9_readNext 139 = .ok (.return_, 1) := by decide +kernel
theorem dX9_rewind_0 : decode cX9_rewind 0 = .ok (.aload_n 0, 1) := by decide +kernel
theorem dX9_rewind_1 : decode cX9_rewind 1 = .ok (.iconst 0, 1) := by decide +kernel
theorem dX9_rewind_2 : decode cX9_rewind 2 = .ok (.putfield 19, 3) := by decide +kernel
theorem dX9_rewind_5 : decode cX9_rewind 5 = .ok (.aload_n 0, 1) := by decide +kernel
theorem dX9_rewind_6 : decode cX9_rewind 6 = .ok (.invokevirtual 22, 3) := by decide +kernel
theorem tw_565 : Cond.methodLink RX9 22 yX9_readNext ∈ TT := nx_mem 565 (by decide +kernel) (by decide +kernel)
theorem tw_566 : Cond.instanceMethod yX9_readNext ∈ TT := nx_mem 566 (by decide +kernel) (by decide +kernel)
theorem tw_567 : Cond.selects RX9 yX9_readNext yX9_readNext ∈ TT := nx_mem 567 (by decide +kernel) (by decide +kernel)
theorem tw_568 : Cond.code yX9_readNext cX9_readNext 2 none ∈ TT := nx_mem 568 (by decide +kernel) (by decide +kernel)
theorem dX9_rewind_9 : decode cX9_rewind 9 = .ok (.return_, 1) := by decide +kernel
theorem dX5_clear_0 : decode cX5_clear 0 = .ok (.aload_n 0, 1) := by decide +kernel
theorem dX5_clear_1 : decode cX5_clear 1 = .ok (.iconst 0, 1) := by decide +kernel
theorem dX5_clear_2 : decode cX5_clear 2 = .ok (.putfield 51, 3) := by decide +kernel
theorem dX5_clear_5 : decode cX5_clear 5 = .ok (.aload_n 0, 1) := by decide +kernel
theorem dX5_clear_6 : decode cX5_clear 6 = .ok (.iconst 0, 1) := by decide +kernel
theorem dX5_clear_7 : decode cX5_clear 7 = .ok (.putfield 55, 3) := by decide +kernel
theorem dX5_clear_10 : decode cX5_clear 10 = .ok (.aload_n 0, 1) := by decide +kernel
theorem dX5_clear_11 : decode cX5_clear 11 = .ok (.iconst 0, 1) := by decide +kernel
theorem dX5_clear_12 : decode cX5_clear 12 = .ok (.putfield 58, 3) := by decide +kernel
theorem dX5_clear_15 : decode cX5_clear 15 = .ok (.return_, 1) := by decide +kernel
theorem dX6_readSchool_0 : decode cX6_readSchool 0 = .ok (.aload_n 0, 1) := by decide +kernel
theorem dX6_readSchool_1 : decode cX6_readSchool 1 = .ok (.iconst 0, 1) := by decide +kernel
theorem dX6_readSchool_2 : decode cX6_readSchool 2 = .ok (.putfield 15, 3) := by decide +kernel
theorem tw_155 : Cond.fieldLink RX6 15 "LimpCode$SchoolReader" "fault" "I" ∈ TT := nx_mem 155 (by decide +kernel) (by decide +kernel)
theorem dX6_readSchool_5 : decode cX6_readSchool 5 = .ok (.aload_n 0, 1) := by decide +kernel
theorem dX6_readSchool_6 : decode cX6_readSchool 6 = .ok (.iconst (-1), 1) := by decide +kernel
theorem dX6_readSchool_7 : decode cX6_readSchool 7 = .ok (.putfield 9, 3) := by decide +kernel
theorem dX6_readSchool_10 : decode cX6_readSchool 10 = .ok (.aload_n 2, 1) := by decide +kernel
theorem dX6_readSchool_11 : decode cX6_readSchool 11 = .ok (.invokevirtual 18, 3) := by decide +kernel
theorem tw_557 : Cond.methodLink RX6 18 yX5_clear ∈ TT := nx_mem 557 (by decide +kernel) (by decide +kernel)
theorem tw_558 : Cond.instanceMethod yX5_clear ∈ TT := nx_mem 558 (by decide +kernel) (by decide +kernel)
theorem tw_559 : Cond.selects RX5 yX5_clear yX5_clear ∈ TT := nx_mem 559 (by decide +kernel) (by decide +kernel)
theorem tw_560 : Cond.code yX5_clear cX5_clear 1 none ∈ TT := nx_mem 560 (by decide +kernel) (by decide +kernel)
theorem dX6_readSchool_14 : decode cX6_readSchool 14 = .ok (.aload_n 1, 1) := by decide +kernel
theorem dX6_readSchool_15 : decode cX6_readSchool 15 = .ok (.invokevirtual 23, 3) := by decide +kernel
theorem tw_561 : Cond.methodLink RX6 23 yX9_rewind ∈ TT := nx_mem 561 (by decide +kernel) (by decide +kernel)
theorem tw_562 : Cond.instanceMethod yX9_rewind ∈ TT := nx_mem 562 (by decide +kernel) (by decide +kernel)
theorem tw_563 : Cond.selects RX9 yX9_rewind yX9_rewind ∈ TT := nx_mem 563 (by decide +kernel) (by decide +kernel)
theorem tw_564 : Cond.code yX9_rewind cX9_rewind 1 none ∈ TT := nx_mem 564 (by decide +kernel) (by decide +kernel)
theorem dX6_readSchool_18 : decode cX6_readSchool 18 = .ok (.iconst 1, 1) := by decide +kernel
theorem dX6_readSchool_19 : decode cX6_readSchool 19 = .ok (.istore_n 3, 1) := by decide +kernel
theorem dX6_readSchool_20 : decode cX6_readSchool 20 = .ok (.iconst 0, 1) := by decide +kernel
theorem dX6_readSchool_21 : decode cX6_readSchool 21 = .ok (.istore 4, 2) := by decide +kernel
theorem dX6_readSchool_23 : decode cX6_readSchool 23 = .ok (.iload 4, 2) := by decide +kernel
theorem dX6_readSchool_25 : decode cX6_readSchool 25 = .ok (.sipush 1600, 3) := by decide +kernel
theorem dX6_readSchool_28 : decode cX6_readSchool 28 = .ok (.if_icmp .ge 84, 3) := by decide +kernel
theorem dX6_readSchool_31 : decode cX6_readSchool 31 = .ok (.iload_n 3, 1) := by decide +kernel
theorem dX6_readSchool_32 : decode cX6_readSchool 32 = .ok (.ifCond .eq 80, 3) := by decide +kernel
theorem dX6_readSchool_35 : decode cX6_readSchool 35 = .ok (.aload_n 1, 1) := by decide +kernel
theorem dX6_readSchool_36 : decode cX6_readSchool 36 = .ok (.getfield 28, 3) := by decide +kernel
theorem tw_124 : Cond.fieldLink RX6 28 "LimpCode$Tape" "kind" "I" ∈ TT := nx_mem 124 (by decide +kernel) (by decide +kernel)
theorem dX6_readSchool_39 : decode cX6_readSchool 39 = .ok (.ifCond .eq 73, 3) := by decide +kernel
theorem dX6_readSchool_112 : decode cX6_readSchool 112 = .ok (.iload_n 3, 1) := by decide +kernel
theorem dX6_readSchool_113 : decode cX6_readSchool 113 = .ok (.ireturn, 1) := by decide +kernel
theorem dX2_begin_0 : decode cX2_begin 0 = .ok (.aload_n 0, 1) := by decide +kernel
theorem dX2_begin_1 : decode cX2_begin 1 = .ok (.invokevirtual 18, 3) := by decide +kernel
theorem tw_735 : Cond.methodLink RX2 18 yX2_standStill ∈ TT := nx_mem 735 (by decide +kernel) (by decide +kernel)
theorem dX2_begin_4 : decode cX2_begin 4 = .ok (.aload_n 1, 1) := by decide +kernel
theorem dX2_begin_5 : decode cX2_begin 5 = .ok (.getfield 21, 3) := by decide +kernel
theorem tw_183 : Cond.fieldLink RX2 21 "LimpCode$School" "toldLoud" "[I" ∈ TT := nx_mem 183 (by decide +kernel) (by decide +kernel)
theorem dX2_begin_8 : decode cX2_begin 8 = .ok (.iconst 0, 1) := by decide +kernel
theorem dX2_begin_9 : decode cX2_begin 9 = .ok (.aload_n 0, 1) := by decide +kernel
theorem dX2_begin_10 : decode cX2_begin 10 = .ok (.getfield 15, 3) := by decide +kernel
theorem dX2_begin_13 : decode cX2_begin 13 = .ok (.iconst 0, 1) := by decide +kernel
theorem dX2_begin_14 : decode cX2_begin 14 = .ok (.bipush 6, 2) := by decide +kernel
theorem dX2_begin_16 : decode cX2_begin 16 = .ok (.invokestatic 26, 3) := by decide +kernel
theorem dX2_begin_19 : decode cX2_begin 19 = .ok (.return_, 1) := by decide +kernel
theorem dX11_forgetAllOfOldSchool_0 : decode cX11_forgetAllOfOldSchool 0 = .ok (.aload_n 0, 1) := by decide +kernel
theorem dX11_forgetAllOfOldSchool_1 : decode cX11_forgetAllOfOldSchool 1 = .ok (.getfield 36, 3) := by decide +kernel
theorem dX11_forgetAllOfOldSchool_4 : decode cX11_forgetAllOfOldSchool 4 = .ok (.aload_n 0, 1) := by decide +kernel
theorem dX11_forgetAllOfOldSchool_5 : decode cX11_forgetAllOfOldSchool 5 = .ok (.getfield 26, 3) := by decide +kernel
theorem dX11_forgetAllOfOldSchool_8 : decode cX11_forgetAllOfOldSchool 8 = .ok (.invokevirtual 129, 3) := by decide +kernel
theorem tw_731 : Cond.methodLink RX11 129 yX2_begin ∈ TT := nx_mem 731 (by decide +kernel) (by decide +kernel)
theorem tw_732 : Cond.instanceMethod yX2_begin ∈ TT := nx_mem 732 (by decide +kernel) (by decide +kernel)
theorem tw_733 : Cond.selects RX2 yX2_begin yX2_begin ∈ TT := nx_mem 733 (by decide +kernel) (by decide +kernel)
theorem tw_734 : Cond.code yX2_begin cX2_begin 2 none ∈ TT := nx_mem 734 (by decide +kernel) (by decide +kernel)
theorem dX11_forgetAllOfOldSchool_11 : decode cX11_forgetAllOfOldSchool 11 = .ok (.iconst 0, 1) := by decide +kernel
theorem dX11_forgetAllOfOldSchool_12 : decode cX11_forgetAllOfOldSchool 12 = .ok (.istore_n 1, 1) := by decide +kernel
theorem dX11_forgetAllOfOldSchool_13 : decode cX11_forgetAllOfOldSchool 13 = .ok (.iload_n 1, 1) := by decide +kernel
theorem dX11_forgetAllOfOldSchool_14 : decode cX11_forgetAllOfOldSchool 14 = .ok (.iconst 3, 1) := by decide +kernel
theorem dX11_forgetAllOfOldSchool_15 : decode cX11_forgetAllOfOldSchool 15 = .ok (.if_icmp .ge 19, 3) := by decide +kernel
theorem dX11_forgetAllOfOldSchool_18 : decode cX11_forgetAllOfOldSchool 18 = .ok (.aload_n 0, 1) := by decide +kernel
theorem dX11_forgetAllOfOldSchool_19 : decode cX11_forgetAllOfOldSchool 19 = .ok (.getfield 40, 3) := by decide +kernel
theorem dX11_forgetAllOfOldSchool_22 : decode cX11_forgetAllOfOldSchool 22 = .ok (.iload_n 1, 1) := by decide +kernel
theorem dX11_forgetAllOfOldSchool_23 : decode cX11_forgetAllOfOldSchool 23 = .ok (.aaload, 1) := by decide +kernel
theorem dX11_forgetAllOfOldSchool_24 : decode cX11_forgetAllOfOldSchool 24 = .ok (.iconst 0, 1) := by decide +kernel
theorem dX11_forgetAllOfOldSchool_25 : decode cX11_forgetAllOfOldSchool 25 = .ok (.putfield 133, 3) := by decide +kernel
theorem dX11_forgetAllOfOldSchool_28 : decode cX11_forgetAllOfOldSchool 28 = .ok (.iinc 1 1, 3) := by decide +kernel
theorem dX11_forgetAllOfOldSchool_31 : decode cX11_forgetAllOfOldSchool 31 = .ok (.goto (-18), 3) := by decide +kernel
theorem dX11_forgetAllOfOldSchool_34 : decode cX11_forgetAllOfOldSchool 34 = .ok (.iconst 0, 1) := by decide +kernel
theorem dX11_forgetAllOfOldSchool_35 : decode cX11_forgetAllOfOldSchool 35 = .ok (.istore_n 1, 1) := by decide +kernel
theorem dX11_forgetAllOfOldSchool_36 : decode cX11_forgetAllOfOldSchool 36 = .ok (.iload_n 1, 1) := by decide +kernel
theorem dX11_forgetAllOfOldSchool_37 : decode cX11_forgetAllOfOldSchool 37 = .ok (.iconst 2, 1) := by decide +kernel
theorem dX11_forgetAllOfOldSchool_38 : decode cX11_forgetAllOfOldSchool 38 = .ok (.if_icmp .ge 18, 3) := by decide +kernel
theorem dX11_forgetAllOfOldSchool_41 : decode cX11_forgetAllOfOldSchool 41 = .ok (.aload_n 0, 1) := by decide +kernel
theorem dX11_forgetAllOfOldSchool_42 : decode cX11_forgetAllOfOldSchool 42 = .ok (.getfield 46, 3) := by decide +kernel
theorem dX11_forgetAllOfOldSchool_45 : decode cX11_forgetAllOfOldSchool 45 = .ok (.iload_n 1, 1) := by decide +kernel
theorem dX11_forgetAllOfOldSchool_46 : decode cX11_forgetAllOfOldSchool 46 = .ok (.aaload, 1) := by decide +kernel
theorem dX11_forgetAllOfOldSchool_47 : decode cX11_forgetAllOfOldSchool 47 = .ok (.invokevirtual 137, 3) := by decide +kernel
theorem dX11_forgetAllOfOldSchool_50 : decode cX11_forgetAllOfOldSchool 50 = .ok (.iinc 1 1, 3) := by decide +kernel
theorem dX11_forgetAllOfOldSchool_53 : decode cX11_forgetAllOfOldSchool 53 = .ok (.goto (-17), 3) := by decide +kernel
theorem dX11_forgetAllOfOldSchool_56 : decode cX11_forgetAllOfOldSchool 56 = .ok (.aload_n 0, 1) := by decide +kernel
theorem dX11_forgetAllOfOldSchool_57 : decode cX11_forgetAllOfOldSchool 57 = .ok (.getfield 54, 3) := by decide +kernel
theorem dX11_forgetAllOfOldSchool_60 : decode cX11_forgetAllOfOldSchool 60 = .ok (.iconst 0, 1) := by decide +kernel
theorem dX11_forgetAllOfOldSchool_61 : decode cX11_forgetAllOfOldSchool 61 = .ok (.putfield 140, 3) := by decide +kernel
theorem dX11_forgetAllOfOldSchool_64 : decode cX11_forgetAllOfOldSchool 64 = .ok (.aload_n 0, 1) := by decide +kernel
theorem dX11_forgetAllOfOldSchool_65 : decode cX11_forgetAllOfOldSchool 65 = .ok (.iconst 0, 1) := by decide +kernel
theorem dX11_forgetAllOfOldSchool_66 : decode cX11_forgetAllOfOldSchool 66 = .ok (.putfield 143, 3) := by decide +kernel
theorem dX11_forgetAllOfOldSchool_69 : decode cX11_forgetAllOfOldSchool 69 = .ok (.return_, 1) := by decide +kernel
theorem dX11_school_0 : decode cX11_school 0 = .ok (.aload_n 0, 1) := by decide +kernel
theorem dX11_school_1 : decode cX11_school 1 = .ok (.getfield 19, 3) := by decide +kernel
theorem dX11_school_4 : decode cX11_school 4 = .ok (.aload_n 0, 1) := by decide +kernel
theorem dX11_school_5 : decode cX11_school 5 = .ok (.getfield 12, 3) := by decide +kernel
theorem dX11_school_8 : decode cX11_school 8 = .ok (.aload_n 0, 1) := by decide +kernel
theorem dX11_school_9 : decode cX11_school 9 = .ok (.getfield 30, 3) := by decide +kernel
theorem dX11_school_12 : decode cX11_school 12 = .ok (.invokevirtual 119, 3) := by decide +kernel
theorem tw_553 : Cond.methodLink RX11 119 yX6_readSchool ∈ TT := nx_mem 553 (by decide +kernel) (by decide +kernel)
theorem tw_554 : Cond.instanceMethod yX6_readSchool ∈ TT := nx_mem 554 (by decide +kernel) (by decide +kernel)
theorem tw_555 : Cond.selects RX6 yX6_readSchool yX6_readSchool ∈ TT := nx_mem 555 (by decide +kernel) (by decide +kernel)
theorem tw_556 : Cond.code yX6_readSchool cX6_readSchool 5 (some .boolean) ∈ TT := nx_mem 556 (by decide +kernel) (by decide +kernel)
theorem dX11_school_15 : decode cX11_school 15 = .ok (.istore_n 1, 1) := by decide +kernel
theorem dX11_school_16 : decode cX11_school 16 = .ok (.aload_n 0, 1) := by decide +kernel
theorem dX11_school_17 : decode cX11_school 17 = .ok (.getfield 12, 3) := by decide +kernel
theorem dX11_school_20 : decode cX11_school 20 = .ok (.iconst 0, 1) := by decide +kernel
theorem dX11_school_21 : decode cX11_school 21 = .ok (.putfield 115, 3) := by decide +kernel
theorem dX11_school_24 : decode cX11_school 24 = .ok (.iload_n 1, 1) := by decide +kernel
theorem dX11_school_25 : decode cX11_school 25 = .ok (.ifCond .ne 5, 3) := by decide +kernel
theorem dX11_school_30 : decode cX11_school 30 = .ok (.aload_n 0, 1) := by decide +kernel
theorem dX11_school_31 : decode cX11_school 31 = .ok (.getfield 26, 3) := by decide +kernel
theorem dX11_school_34 : decode cX11_school 34 = .ok (.astore_n 2, 1) := by decide +kernel
theorem dX11_school_35 : decode cX11_school 35 = .ok (.aload_n 0, 1) := by decide +kernel
theorem dX11_school_36 : decode cX11_school 36 = .ok (.aload_n 0, 1) := by decide +kernel
theorem dX11_school_37 : decode cX11_school 37 = .ok (.getfield 30, 3) := by decide +kernel
theorem dX11_school_40 : decode cX11_school 40 = .ok (.putfield 26, 3) := by decide +kernel
theorem dX11_school_43 : decode cX11_school 43 = .ok (.aload_n 0, 1) := by decide +kernel
theorem dX11_school_44 : decode cX11_school 44 = .ok (.aload_n 2, 1) := by decide +kernel
theorem dX11_school_45 : decode cX11_school 45 = .ok (.putfield 30, 3) := by decide +kernel
theorem dX11_school_48 : decode cX11_school 48 = .ok (.aload_n 0, 1) := by decide +kernel
theorem dX11_school_49 : decode cX11_school 49 = .ok (.invokevirtual 123, 3) := by decide +kernel
theorem tw_727 : Cond.methodLink RX11 123 yX11_forgetAllOfOldSchool ∈ TT := nx_mem 727 (by decide +kernel) (by decide +kernel)
theorem tw_729 : Cond.instanceMethod yX11_forgetAllOfOldSchool ∈ TT := nx_mem 729 (by decide +kernel) (by decide +kernel)
theorem tw_14 : Cond.selects RX11 yX11_forgetAllOfOldSchool yX11_forgetAllOfOldSchool ∈ TT := nx_mem 14 (by decide +kernel) (by decide +kernel)
theorem tw_730 : Cond.code yX11_forgetAllOfOldSchool cX11_forgetAllOfOldSchool 2 none ∈ TT := nx_mem 730 (by decide +kernel) (by decide +kernel)
theorem dX11_school_52 : decode cX11_school 52 = .ok (.aload_n 0, 1) := by decide +kernel
theorem dX11_school_53 : decode cX11_school 53 = .ok (.getfield 26, 3) := by decide +kernel
theorem dX11_school_56 : decode cX11_school 56 = .ok (.getfield 126, 3) := by decide +kernel
theorem dX11_school_59 : decode cX11_school 59 = .ok (.ireturn, 1) := by decide +kernel
set_option maxHeartbeats 4000000 in
set_option maxRecDepth 100000 in
theorem c_X11_lies (l : Launch) (g : va_G) (kA : Nat → ClassId) (h0 : Nat) (u : Nat → Nat) (e : Int32)  : CtI l yX11_lies cX11_lies 2 (some .int) 3 0 0 g kA [.ref h0, .int e] [(h0, .inr (11, [.ref (u 0), .ref (u 1), .ref (u 2), .ref (u 3), .ref (u 4), .ref (u 5), .ref (u 6), .ref (u 7), .ref (u 8), .ref (u 9), .ref (u 10), .ref (u 11), .ref (u 12), .ref (u 13), .ref (u 14), .ref (u 15), .ref (u 16), .int 0, .int 0]))] (S := Unit) (fun (r : Int32) (_ : Unit) => r = (-1)) (fun (_ : Unit) => []) := by
  refine nx_startI (by decide +kernel) (Nat.le_of_ble_eq_true rfl) ?_
  intro x hnm h hq
  have h : Ok x cX11_lies RX11 kA (rmC 3 0 0) 2 := h
  show J x [(h0, .inr (11, [.ref (u 0), .ref (u 1), .ref (u 2), .ref (u 3), .ref (u 4), .ref (u 5), .ref (u 6), .ref (u 7), .ref (u 8), .ref (u 9), .ref (u 10), .ref (u 11), .ref (u 12), .ref (u 13), .ref (u 14), .ref (u 15), .ref (u 16), .int 0, .int 0]))] [(0, .ref h0), (1, .int e)] 0 0 0 []
  refine j_iload_n h 1 rfl rfl dX11_lies_0 ?_
  refine j_if_lt h 30 dX11_lies_1 (by decide) (fun z261 => ?_) (fun z261 => ?_)
  · refine j_iconst (v := (-1)) h (by decide) dX11_lies_30 ?_
    exact j_iret h hq dX11_lies_31 () [] rfl rfl (by decide) (by first | rfl | simp only [z261, ↓reduceIte]) (Nat.le_of_ble_eq_true rfl) (Nat.le_of_ble_eq_true rfl)
  · refine j_iload_n h 1 rfl rfl dX11_lies_4 ?_
    refine j_aload_n h 0 rfl rfl dX11_lies_5 ?_
    refine j_get h iw_X11 0 rfl rfl 17 (by decide) tw_492 rfl dX11_lies_6 ?_
    refine j_icmp_ge h 30 dX11_lies_9 (by decide) (fun _ => ?_) (fun q => absurd (Int32.not_lt.mp z261) q)
    refine j_iconst (v := (-1)) h (by decide) dX11_lies_30 ?_
    exact j_iret h hq dX11_lies_31 () [] rfl rfl (by decide) (by first | rfl | simp only [z261, ↓reduceIte]) (Nat.le_of_ble_eq_true rfl) (Nat.le_of_ble_eq_true rfl)
set_option maxHeartbeats 4000000 in
set_option maxRecDepth 100000 in
theorem c_X11_cobble (l : Launch) (g : va_G) (kA : Nat → ClassId) (h0 : Nat) (u : Nat → Nat) (a : Int32) (b : Int32)  : CtI l yX11_cobble cX11_cobble 4 (some .int) 3 0 0 g kA [.ref h0, .int a, .int b] [(h0, .inr (11, [.ref (u 0), .ref (u 1), .ref (u 2), .ref (u 3), .ref (u 4), .ref (u 5), .ref (u 6), .ref (u 7), .ref (u 8), .ref (u 9), .ref (u 10), .ref (u 11), .ref (u 12), .ref (u 13), .ref (u 14), .ref (u 15), .ref (u 16), .int 0, .int 0])), ((u 2), .inr (5, [.ref (u 18), .ref (u 19), .ref (u 20), .ref (u 21), .ref (u 22), .ref (u 23), .ref (u 24), .ref (u 25), .ref (u 26), .ref (u 27), .ref (u 28), .ref (u 29), .int 0, .int 0, .int 0]))] (S := Unit) (fun (r : Int32) (_ : Unit) => r = (-1)) (fun (_ : Unit) => []) := by
  refine nx_startI (by decide +kernel) (Nat.le_of_ble_eq_true rfl) ?_
  intro x hnm h hq
  have h : Ok x cX11_cobble RX11 kA (rmC 3 0 0) 4 := h
  show J x [(h0, .inr (11, [.ref (u 0), .ref (u 1), .ref (u 2), .ref (u 3), .ref (u 4), .ref (u 5), .ref (u 6), .ref (u 7), .ref (u 8), .ref (u 9), .ref (u 10), .ref (u 11), .ref (u 12), .ref (u 13), .ref (u 14), .ref (u 15), .ref (u 16), .int 0, .int 0])), ((u 2), .inr (5, [.ref (u 18), .ref (u 19), .ref (u 20), .ref (u 21), .ref (u 22), .ref (u 23), .ref (u 24), .ref (u 25), .ref (u 26), .ref (u 27), .ref (u 28), .ref (u 29), .int 0, .int 0, .int 0]))] [(0, .ref h0), (1, .int a), (2, .int b)] 0 0 0 []
  refine j_aload_n h 0 rfl rfl dX11_cobble_0 ?_
  refine j_get h iw_X11 0 rfl rfl 2 (by decide) tw_477 rfl dX11_cobble_1 ?_
  refine j_iload_n h 1 rfl rfl dX11_cobble_4 ?_
  refine j_callVi (np := 1) (isC := [1]) (isR := [0]) (wc := [((u 2), .inr (5, [.ref (u 18), .ref (u 19), .ref (u 20), .ref (u 21), .ref (u 22), .ref (u 23), .ref (u 24), .ref (u 25), .ref (u 26), .ref (u 27), .ref (u 28), .ref (u 29), .int 0, .int 0, .int 0]))]) (wr := [(h0, .inr (11, [.ref (u 0), .ref (u 1), .ref (u 2), .ref (u 3), .ref (u 4), .ref (u 5), .ref (u 6), .ref (u 7), .ref (u 8), .ref (u 9), .ref (u 10), .ref (u 11), .ref (u 12), .ref (u 13), .ref (u 14), .ref (u 15), .ref (u 16), .int 0, .int 0]))]) (rest := []) (As := [.int a]) (q0 := 0) h (c_X5_hasStep _ _ kA (u 2) (u 18) (u 19) (u 20) (u 21) (u 22) (u 23) (u 24) (u 25) (u 26) (u 27) (u 28) (u 29) a ) tw_1067 tw_713 tw_714 tw_90 tw_715 (by decide +kernel) rfl ⟨Nat.le_of_ble_eq_true rfl, Nat.le_of_ble_eq_true rfl⟩ rfl rfl rfl (by decide) rfl rfl (by decide) (by decide) (Nat.le_of_ble_eq_true rfl) rfl ⟨Nat.le_of_ble_eq_true rfl, Nat.le_of_ble_eq_true rfl⟩ dX11_cobble_5 ?_
  rintro r _ e262
  subst e262
  show J x [(h0, .inr (11, [.ref (u 0), .ref (u 1), .ref (u 2), .ref (u 3), .ref (u 4), .ref (u 5), .ref (u 6), .ref (u 7), .ref (u 8), .ref (u 9), .ref (u 10), .ref (u 11), .ref (u 12), .ref (u 13), .ref (u 14), .ref (u 15), .ref (u 16), .int 0, .int 0])), ((u 2), .inr (5, [.ref (u 18), .ref (u 19), .ref (u 20), .ref (u 21), .ref (u 22), .ref (u 23), .ref (u 24), .ref (u 25), .ref (u 26), .ref (u 27), .ref (u 28), .ref (u 29), .int 0, .int 0, .int 0]))] [(0, .ref h0), (1, .int a), (2, .int b)] 0 0 8 [.int 0]
  refine j_if_eq h 23 dX11_cobble_8 (by decide) (fun _ => ?_) (fun q => absurd (by decide) q)
  refine j_iconst (v := (-1)) h (by decide) dX11_cobble_23 ?_
  exact j_iret h hq dX11_cobble_24 () [] rfl rfl (by decide) (by first | rfl | simp only [↓reduceIte]) (Nat.le_of_ble_eq_true rfl) (Nat.le_of_ble_eq_true rfl)
set_option maxHeartbeats 4000000 in
set_option maxRecDepth 100000 in
theorem c_X11_sound (l : Launch) (g : va_G) (kA : Nat → ClassId) (h0 : Nat) (u : Nat → Nat) (a : Int32) (b : Int32) (d : Int32) (e : Int32)  : CtI l yX11_sound cX11_sound 5 (some .int) 3 0 0 g kA [.ref h0, .int a, .int b, .int d, .int e] [(h0, .inr (11, [.ref (u 0), .ref (u 1), .ref (u 2), .ref (u 3), .ref (u 4), .ref (u 5), .ref (u 6), .ref (u 7), .ref (u 8), .ref (u 9), .ref (u 10), .ref (u 11), .ref (u 12), .ref (u 13), .ref (u 14), .ref (u 15), .ref (u 16), .int 0, .int 0])), ((u 2), .inr (5, [.ref (u 18), .ref (u 19), .ref (u 20), .ref (u 21), .ref (u 22), .ref (u 23), .ref (u 24), .ref (u 25), .ref (u 26), .ref (u 27), .ref (u 28), .ref (u 29), .int 0, .int 0, .int 0]))] (S := Unit) (fun (r : Int32) (_ : Unit) => r = (-1)) (fun (_ : Unit) => []) := by
  refine nx_startI (by decide +kernel) (Nat.le_of_ble_eq_true rfl) ?_
  intro x hnm h hq
  have h : Ok x cX11_sound RX11 kA (rmC 3 0 0) 5 := h
  show J x [(h0, .inr (11, [.ref (u 0), .ref (u 1), .ref (u 2), .ref (u 3), .ref (u 4), .ref (u 5), .ref (u 6), .ref (u 7), .ref (u 8), .ref (u 9), .ref (u 10), .ref (u 11), .ref (u 12), .ref (u 13), .ref (u 14), .ref (u 15), .ref (u 16), .int 0, .int 0])), ((u 2), .inr (5, [.ref (u 18), .ref (u 19), .ref (u 20), .ref (u 21), .ref (u 22), .ref (u 23), .ref (u 24), .ref (u 25), .ref (u 26), .ref (u 27), .ref (u 28), .ref (u 29), .int 0, .int 0, .int 0]))] [(0, .ref h0), (1, .int a), (2, .int b), (3, .int d), (4, .int e)] 0 0 0 []
  refine j_aload_n h 0 rfl rfl dX11_sound_0 ?_
  refine j_get h iw_X11 0 rfl rfl 2 (by decide) tw_477 rfl dX11_sound_1 ?_
  refine j_iload_n h 1 rfl rfl dX11_sound_4 ?_
  refine j_callVi (np := 1) (isC := [1]) (isR := [0]) (wc := [((u 2), .inr (5, [.ref (u 18), .ref (u 19), .ref (u 20), .ref (u 21), .ref (u 22), .ref (u 23), .ref (u 24), .ref (u 25), .ref (u 26), .ref (u 27), .ref (u 28), .ref (u 29), .int 0, .int 0, .int 0]))]) (wr := [(h0, .inr (11, [.ref (u 0), .ref (u 1), .ref (u 2), .ref (u 3), .ref (u 4), .ref (u 5), .ref (u 6), .ref (u 7), .ref (u 8), .ref (u 9), .ref (u 10), .ref (u 11), .ref (u 12), .ref (u 13), .ref (u 14), .ref (u 15), .ref (u 16), .int 0, .int 0]))]) (rest := []) (As := [.int a]) (q0 := 0) h (c_X5_hasEar _ _ kA (u 2) (u 18) (u 19) (u 20) (u 21) (u 22) (u 23) (u 24) (u 25) (u 26) (u 27) (u 28) (u 29) a ) tw_789 tw_790 tw_791 tw_90 tw_792 (by decide +kernel) rfl ⟨Nat.le_of_ble_eq_true rfl, Nat.le_of_ble_eq_true rfl⟩ rfl rfl rfl (by decide) rfl rfl (by decide) (by decide) (Nat.le_of_ble_eq_true rfl) rfl ⟨Nat.le_of_ble_eq_true rfl, Nat.le_of_ble_eq_true rfl⟩ dX11_sound_5 ?_
  rintro r _ e263
  subst e263
  show J x [(h0, .inr (11, [.ref (u 0), .ref (u 1), .ref (u 2), .ref (u 3), .ref (u 4), .ref (u 5), .ref (u 6), .ref (u 7), .ref (u 8), .ref (u 9), .ref (u 10), .ref (u 11), .ref (u 12), .ref (u 13), .ref (u 14), .ref (u 15), .ref (u 16), .int 0, .int 0])), ((u 2), .inr (5, [.ref (u 18), .ref (u 19), .ref (u 20), .ref (u 21), .ref (u 22), .ref (u 23), .ref (u 24), .ref (u 25), .ref (u 26), .ref (u 27), .ref (u 28), .ref (u 29), .int 0, .int 0, .int 0]))] [(0, .ref h0), (1, .int a), (2, .int b), (3, .int d), (4, .int e)] 0 0 8 [.int 0]
  refine j_if_eq h 21 dX11_sound_8 (by decide) (fun _ => ?_) (fun q => absurd (by decide) q)
  refine j_iconst (v := (-1)) h (by decide) dX11_sound_21 ?_
  exact j_iret h hq dX11_sound_22 () [] rfl rfl (by decide) (by first | rfl | simp only [↓reduceIte]) (Nat.le_of_ble_eq_true rfl) (Nat.le_of_ble_eq_true rfl)
set_option maxHeartbeats 4000000 in
set_option maxRecDepth 100000 in
theorem c_X8_takeBack (l : Launch) (g : va_G) (kA : Nat → ClassId) (h0 : Nat) (a0 : Nat) (a1 : Nat) (a2 : Nat) (a3 : Nat) (a4 : Nat) (a5 : Nat) (e : Int32)  : CtI l yX8_takeBack cX8_takeBack 3 (some .boolean) 2 0 0 g kA [.ref h0, .int e, .int 0] [(h0, .inr (8, [.ref a0, .ref a1, .ref a2, .ref a3, .ref a4, .ref a5, .int 0]))] (S := Unit) (fun (r : Int32) (_ : Unit) => r = 0) (fun (_ : Unit) => [(h0, .inr (8, [.ref a0, .ref a1, .ref a2, .ref a3, .ref a4, .ref a5, .int 0]))]) := by
  refine nx_startI (by decide +kernel) (Nat.le_of_ble_eq_true rfl) ?_
  intro x hnm h hq
  have h : Ok x cX8_takeBack RX8 kA (rmC 2 0 0) 3 := h
  show J x [(h0, .inr (8, [.ref a0, .ref a1, .ref a2, .ref a3, .ref a4, .ref a5, .int 0]))] [(0, .ref h0), (1, .int e), (2, .int 0)] 0 0 0 []
  refine j_iload_n h 1 rfl rfl dX8_takeBack_0 ?_
  refine j_if_lt h 23 dX8_takeBack_1 (by decide) (fun z264 => ?_) (fun z264 => ?_)
  · refine j_iconst (v := 0) h (by decide) dX8_takeBack_23 ?_
    exact j_zret h hq rfl dX8_takeBack_24 () [0] rfl rfl (by decide) (by first | rfl | simp only [z264, ↓reduceIte]) (Nat.le_of_ble_eq_true rfl) (Nat.le_of_ble_eq_true rfl)
  · refine j_iload_n h 1 rfl rfl dX8_takeBack_4 ?_
    refine j_aload_n h 0 rfl rfl dX8_takeBack_5 ?_
    refine j_get h iw_X8 0 rfl rfl 6 (by decide) tw_333 rfl dX8_takeBack_6 ?_
    refine j_icmp_ge h 23 dX8_takeBack_9 (by decide) (fun _ => ?_) (fun q => absurd (Int32.not_lt.mp z264) q)
    refine j_iconst (v := 0) h (by decide) dX8_takeBack_23 ?_
    exact j_zret h hq rfl dX8_takeBack_24 () [0] rfl rfl (by decide) (by first | rfl | simp only [z264, ↓reduceIte]) (Nat.le_of_ble_eq_true rfl) (Nat.le_of_ble_eq_true rfl)
set_option maxHeartbeats 4000000 in
set_option maxRecDepth 100000 in
theorem c_X11_untell (l : Launch) (g : va_G) (kA : Nat → ClassId) (h0 : Nat) (u : Nat → Nat) (e : Int32)  : CtI l yX11_untell cX11_untell 2 (some .boolean) 3 0 0 g kA [.ref h0, .int e] [(h0, .inr (11, [.ref (u 0), .ref (u 1), .ref (u 2), .ref (u 3), .ref (u 4), .ref (u 5), .ref (u 6), .ref (u 7), .ref (u 8), .ref (u 9), .ref (u 10), .ref (u 11), .ref (u 12), .ref (u 13), .ref (u 14), .ref (u 15), .ref (u 16), .int 0, .int 0])), ((u 7), .inr (8, [.ref (u 57), .ref (u 58), .ref (u 59), .ref (u 60), .ref (u 61), .ref (u 62), .int 0]))] (S := Unit) (fun (r : Int32) (_ : Unit) => r = 0) (fun (_ : Unit) => []) := by
  refine nx_startI (by decide +kernel) (Nat.le_of_ble_eq_true rfl) ?_
  intro x hnm h hq
  have h : Ok x cX11_untell RX11 kA (rmC 3 0 0) 2 := h
  show J x [(h0, .inr (11, [.ref (u 0), .ref (u 1), .ref (u 2), .ref (u 3), .ref (u 4), .ref (u 5), .ref (u 6), .ref (u 7), .ref (u 8), .ref (u 9), .ref (u 10), .ref (u 11), .ref (u 12), .ref (u 13), .ref (u 14), .ref (u 15), .ref (u 16), .int 0, .int 0])), ((u 7), .inr (8, [.ref (u 57), .ref (u 58), .ref (u 59), .ref (u 60), .ref (u 61), .ref (u 62), .int 0]))] [(0, .ref h0), (1, .int e)] 0 0 0 []
  refine j_aload_n h 0 rfl rfl dX11_untell_0 ?_
  refine j_get h iw_X11 0 rfl rfl 7 (by decide) tw_482 rfl dX11_untell_1 ?_
  refine j_iload_n h 1 rfl rfl dX11_untell_4 ?_
  refine j_aload_n h 0 rfl rfl dX11_untell_5 ?_
  refine j_get h iw_X11 0 rfl rfl 18 (by decide) tw_493 rfl dX11_untell_6 ?_
  refine j_callVi (np := 2) (isC := [1]) (isR := [0]) (wc := [((u 7), .inr (8, [.ref (u 57), .ref (u 58), .ref (u 59), .ref (u 60), .ref (u 61), .ref (u 62), .int 0]))]) (wr := [(h0, .inr (11, [.ref (u 0), .ref (u 1), .ref (u 2), .ref (u 3), .ref (u 4), .ref (u 5), .ref (u 6), .ref (u 7), .ref (u 8), .ref (u 9), .ref (u 10), .ref (u 11), .ref (u 12), .ref (u 13), .ref (u 14), .ref (u 15), .ref (u 16), .int 0, .int 0]))]) (rest := []) (As := [.int e, .int 0]) (q0 := 0) h (c_X8_takeBack _ _ kA (u 7) (u 57) (u 58) (u 59) (u 60) (u 61) (u 62) e ) tw_1081 tw_1082 tw_1083 tw_93 tw_1084 (by decide +kernel) rfl ⟨Nat.le_of_ble_eq_true rfl, Nat.le_of_ble_eq_true rfl⟩ rfl rfl rfl (by decide) rfl rfl (by decide) (by decide) (Nat.le_of_ble_eq_true rfl) rfl ⟨Nat.le_of_ble_eq_true rfl, Nat.le_of_ble_eq_true rfl⟩ dX11_untell_9 ?_
  rintro r _ e265
  subst e265
  show J x [(h0, .inr (11, [.ref (u 0), .ref (u 1), .ref (u 2), .ref (u 3), .ref (u 4), .ref (u 5), .ref (u 6), .ref (u 7), .ref (u 8), .ref (u 9), .ref (u 10), .ref (u 11), .ref (u 12), .ref (u 13), .ref (u 14), .ref (u 15), .ref (u 16), .int 0, .int 0])), ((u 7), .inr (8, [.ref (u 57), .ref (u 58), .ref (u 59), .ref (u 60), .ref (u 61), .ref (u 62), .int 0]))] [(0, .ref h0), (1, .int e)] 0 0 12 [.int 0]
  exact j_zret h hq rfl dX11_untell_12 () [] rfl rfl (by decide) (by first | rfl | simp only [↓reduceIte]) (Nat.le_of_ble_eq_true rfl) (Nat.le_of_ble_eq_true rfl)
set_option maxHeartbeats 4000000 in
set_option maxRecDepth 100000 in
theorem c_X11_later (l : Launch) (g : va_G) (kA : Nat → ClassId) (h0 : Nat) (u : Nat → Nat) (b : Int32)  : CtI l yX11_later cX11_later 2 (some .int) 3 0 0 g kA [.ref h0, .int b] [(h0, .inr (11, [.ref (u 0), .ref (u 1), .ref (u 2), .ref (u 3), .ref (u 4), .ref (u 5), .ref (u 6), .ref (u 7), .ref (u 8), .ref (u 9), .ref (u 10), .ref (u 11), .ref (u 12), .ref (u 13), .ref (u 14), .ref (u 15), .ref (u 16), .int 0, .int 0]))] (S := Unit) (fun (r : Int32) (_ : Unit) => r = vLater b) (fun (_ : Unit) => []) := by
  refine nx_startI (by decide +kernel) (Nat.le_of_ble_eq_true rfl) ?_
  intro x hnm h hq
  have h : Ok x cX11_later RX11 kA (rmC 3 0 0) 2 := h
  show J x [(h0, .inr (11, [.ref (u 0), .ref (u 1), .ref (u 2), .ref (u 3), .ref (u 4), .ref (u 5), .ref (u 6), .ref (u 7), .ref (u 8), .ref (u 9), .ref (u 10), .ref (u 11), .ref (u 12), .ref (u 13), .ref (u 14), .ref (u 15), .ref (u 16), .int 0, .int 0]))] [(0, .ref h0), (1, .int b)] 0 0 0 []
  refine j_iload_n h 1 rfl rfl dX11_later_0 ?_
  refine j_if_lt h 23 dX11_later_1 (by decide) (fun z266 => ?_) (fun z266 => ?_)
  · refine j_iconst (v := (-1)) h (by decide) dX11_later_23 ?_
    exact j_iret h hq dX11_later_24 () [] rfl rfl (by decide) (by first | rfl | (unfold vLater; simp only [z266, ↓reduceIte]; done) | (subst_vars; decide)) (Nat.le_of_ble_eq_true rfl) (Nat.le_of_ble_eq_true rfl)
  · refine j_iload_n h 1 rfl rfl dX11_later_4 ?_
    refine j_sipush (v := 1000) h (by decide) dX11_later_5 ?_
    refine j_icmp_gt h 23 dX11_later_8 (by decide) (fun z267 => ?_) (fun z267 => ?_)
    · refine j_iconst (v := (-1)) h (by decide) dX11_later_23 ?_
      exact j_iret h hq dX11_later_24 () [] rfl rfl (by decide) (by first | rfl | (unfold vLater; simp only [z266, z267, ↓reduceIte]; done) | (subst_vars; decide)) (Nat.le_of_ble_eq_true rfl) (Nat.le_of_ble_eq_true rfl)
    · refine j_aload_n h 0 rfl rfl dX11_later_11 ?_
      refine j_get h iw_X11 0 rfl rfl 18 (by decide) tw_493 rfl dX11_later_12 ?_
      refine j_iload_n h 1 rfl rfl dX11_later_15 ?_
      refine j_iadd h dX11_later_16 ?_
      refine j_top (b := b) (Int32.zero_add b) ?_
      refine j_ldcw h tw_1089 dX11_later_17 ?_
      refine j_icmp_le h 25 dX11_later_20 (by decide) (fun z268 => ?_) (fun z268 => ?_)
      · refine j_aload_n h 0 rfl rfl dX11_later_25 ?_
        refine j_dup h rfl dX11_later_26 ?_
        refine j_get h iw_X11 0 rfl rfl 18 (by decide) tw_493 rfl dX11_later_27 ?_
        refine j_iload_n h 1 rfl rfl dX11_later_30 ?_
        refine j_iadd h dX11_later_31 ?_
        refine j_top (b := b) (Int32.zero_add b) ?_
        refine j_put (ws' := [(h0, .inr (11, [.ref (u 0), .ref (u 1), .ref (u 2), .ref (u 3), .ref (u 4), .ref (u 5), .ref (u 6), .ref (u 7), .ref (u 8), .ref (u 9), .ref (u 10), .ref (u 11), .ref (u 12), .ref (u 13), .ref (u 14), .ref (u 15), .ref (u 16), .int 0, .int b]))]) h iw_X11 tyX11 tyX11_ok nmX11 0 rfl rfl 18 (by decide) tw_493 rfl rfl rfl (Nat.le_of_ble_eq_true rfl) dX11_later_32 rfl ?_
        refine j_aload_n h 0 rfl rfl dX11_later_35 ?_
        refine j_get h iw_X11 0 rfl rfl 18 (by decide) tw_493 rfl dX11_later_36 ?_
        exact j_iret h hq dX11_later_39 () [] rfl rfl (by decide) (by first | rfl | (unfold vLater; simp only [z266, z267, z268, ↓reduceIte]; done) | (subst_vars; decide)) (Nat.le_of_ble_eq_true rfl) (Nat.le_of_ble_eq_true rfl)
      · refine j_iconst (v := (-1)) h (by decide) dX11_later_23 ?_
        exact j_iret h hq dX11_later_24 () [] rfl rfl (by decide) (by first | rfl | (unfold vLater; simp only [z266, z267, z268, ↓reduceIte]; done) | (subst_vars; decide)) (Nat.le_of_ble_eq_true rfl) (Nat.le_of_ble_eq_true rfl)
set_option maxHeartbeats 4000000 in
set_option maxRecDepth 100000 in
theorem c_X2_takenBy (l : Launch) (g : va_G) (kA : Nat → ClassId) (h0 : Nat) (a0 : Nat) (a1 : Nat) (s : Nat) (e : Int32)  : CtI l yX2_takenBy cX2_takenBy 7 (some .int) 2 0 0 g kA [.ref h0, .ref s, .int e] [(h0, .inr (2, [.ref a0, .ref a1, .int 0, .int 0, .int 0, .int 0]))] (S := Unit) (fun (r : Int32) (_ : Unit) => r = 0) (fun (_ : Unit) => [(h0, .inr (2, [.ref a0, .ref a1, .int 0, .int 0, .int 0, .int 0]))]) := by
  refine nx_startI (by decide +kernel) (Nat.le_of_ble_eq_true rfl) ?_
  intro x hnm h hq
  have h : Ok x cX2_takenBy RX2 kA (rmC 2 0 0) 7 := h
  show J x [(h0, .inr (2, [.ref a0, .ref a1, .int 0, .int 0, .int 0, .int 0]))] [(0, .ref h0), (1, .ref s), (2, .int e)] 0 0 0 []
  refine j_iconst (v := 0) h (by decide) dX2_takenBy_0 ?_
  refine j_istore_n (lv' := [(3, .int 0), (0, .ref h0), (1, .ref s), (2, .int e)]) h dX2_takenBy_1 rfl (by decide) rfl ?_
  refine j_iconst (v := 0) h (by decide) dX2_takenBy_2 ?_
  refine j_istore (lv' := [(4, .int 0), (3, .int 0), (0, .ref h0), (1, .ref s), (2, .int e)]) h dX2_takenBy_3 (by decide) rfl ?_
  refine j_iconst (v := 0) h (by decide) dX2_takenBy_5 ?_
  refine j_istore (lv' := [(5, .int 0), (4, .int 0), (3, .int 0), (0, .ref h0), (1, .ref s), (2, .int e)]) h dX2_takenBy_6 (by decide) rfl ?_
  refine j_iload h 0 rfl dX2_takenBy_8 ?_
  refine j_aload_n h 3 rfl rfl dX2_takenBy_10 ?_
  refine j_get h iw_X2 0 rfl rfl 2 (by decide) tw_274 rfl dX2_takenBy_11 ?_
  refine j_icmp_ge h 69 dX2_takenBy_14 (by decide) (fun _ => ?_) (fun q => absurd (by decide) q)
  refine j_iload_n h 2 rfl rfl dX2_takenBy_69 ?_
  exact j_iret h hq dX2_takenBy_70 () [0] rfl rfl (by decide) (by first | rfl | simp only [↓reduceIte]) (Nat.le_of_ble_eq_true rfl) (Nat.le_of_ble_eq_true rfl)
set_option maxHeartbeats 4000000 in
set_option maxRecDepth 100000 in
theorem c_X11_commonDivisor (l : Launch) (g : va_G) (kA : Nat → ClassId)   : CtI l yX11_commonDivisor cX11_commonDivisor 6 (some .int) 2 0 0 g kA [.int 0, .int 0] [] (S := Unit) (fun (r : Int32) (_ : Unit) => r = 0) (fun (_ : Unit) => []) := by
  refine nx_startI (by decide +kernel) (Nat.le_of_ble_eq_true rfl) ?_
  intro x hnm h hq
  have h : Ok x cX11_commonDivisor RX11 kA (rmC 2 0 0) 6 := h
  show J x [] [(0, .int 0), (1, .int 0)] 0 0 0 []
  refine j_iload_n h 0 rfl rfl dX11_commonDivisor_0 ?_
  refine j_istore_n (lv' := [(2, .int 0), (0, .int 0), (1, .int 0)]) h dX11_commonDivisor_1 rfl (by decide) rfl ?_
  refine j_iload_n h 2 rfl rfl dX11_commonDivisor_2 ?_
  refine j_istore_n (lv' := [(3, .int 0), (2, .int 0), (0, .int 0), (1, .int 0)]) h dX11_commonDivisor_3 rfl (by decide) rfl ?_
  refine j_iconst (v := 0) h (by decide) dX11_commonDivisor_4 ?_
  refine j_istore (lv' := [(4, .int 0), (3, .int 0), (2, .int 0), (0, .int 0), (1, .int 0)]) h dX11_commonDivisor_5 (by decide) rfl ?_
  refine j_iload h 0 rfl dX11_commonDivisor_7 ?_
  refine j_bipush (v := 60) h (by decide) dX11_commonDivisor_9 ?_
  refine j_icmp_ge h 34 dX11_commonDivisor_11 (by decide) (fun q => absurd q (by decide)) (fun _ => ?_)
  refine j_iload_n h 1 rfl rfl dX11_commonDivisor_14 ?_
  refine j_if_eq h 34 dX11_commonDivisor_15 (by decide) (fun _ => ?_) (fun q => absurd (by decide) q)
  refine j_iload_n h 2 rfl rfl dX11_commonDivisor_34 ?_
  exact j_iret h hq dX11_commonDivisor_35 () [] rfl rfl (by decide) (by first | rfl | simp only [↓reduceIte]) (Nat.le_of_ble_eq_true rfl) (Nat.le_of_ble_eq_true rfl)
set_option maxHeartbeats 4000000 in
set_option maxRecDepth 100000 in
theorem c_X11_limp (l : Launch) (g : va_G) (kA : Nat → ClassId) (h0 : Nat) (u : Nat → Nat) (w : Int32)  : CtI l yX11_limp cX11_limp 5 (some .int) 3 0 0 g kA [.ref h0, .int w] [(h0, .inr (11, [.ref (u 0), .ref (u 1), .ref (u 2), .ref (u 3), .ref (u 4), .ref (u 5), .ref (u 6), .ref (u 7), .ref (u 8), .ref (u 9), .ref (u 10), .ref (u 11), .ref (u 12), .ref (u 13), .ref (u 14), .ref (u 15), .ref (u 16), .int 0, .int 0])), ((u 4), .inr (2, [.ref (u 42), .ref (u 43), .int 0, .int 0, .int 0, .int 0]))] (S := Unit) (fun (r : Int32) (_ : Unit) => r = vLimp w) (fun (_ : Unit) => []) := by
  refine nx_startI (by decide +kernel) (Nat.le_of_ble_eq_true rfl) ?_
  intro x hnm h hq
  have h : Ok x cX11_limp RX11 kA (rmC 3 0 0) 5 := h
  show J x [(h0, .inr (11, [.ref (u 0), .ref (u 1), .ref (u 2), .ref (u 3), .ref (u 4), .ref (u 5), .ref (u 6), .ref (u 7), .ref (u 8), .ref (u 9), .ref (u 10), .ref (u 11), .ref (u 12), .ref (u 13), .ref (u 14), .ref (u 15), .ref (u 16), .int 0, .int 0])), ((u 4), .inr (2, [.ref (u 42), .ref (u 43), .int 0, .int 0, .int 0, .int 0]))] [(0, .ref h0), (1, .int w)] 0 0 0 []
  rcases b01_cases w with rfl | rfl | hT
  · refine j_iload_n h 1 rfl rfl dX11_limp_0 ?_
    refine j_if_eq h 11 dX11_limp_1 (by decide) (fun _ => ?_) (fun q => absurd (by decide) q)
    refine j_aload_n h 0 rfl rfl dX11_limp_11 ?_
    refine j_get h iw_X11 0 rfl rfl 4 (by decide) tw_479 rfl dX11_limp_12 ?_
    refine j_aload_n h 0 rfl rfl dX11_limp_15 ?_
    refine j_get h iw_X11 0 rfl rfl 2 (by decide) tw_477 rfl dX11_limp_16 ?_
    refine j_iconst (v := 0) h (by decide) dX11_limp_19 ?_
    refine j_callVi (np := 2) (isC := [1]) (isR := [0]) (wc := [((u 4), .inr (2, [.ref (u 42), .ref (u 43), .int 0, .int 0, .int 0, .int 0]))]) (wr := [(h0, .inr (11, [.ref (u 0), .ref (u 1), .ref (u 2), .ref (u 3), .ref (u 4), .ref (u 5), .ref (u 6), .ref (u 7), .ref (u 8), .ref (u 9), .ref (u 10), .ref (u 11), .ref (u 12), .ref (u 13), .ref (u 14), .ref (u 15), .ref (u 16), .int 0, .int 0]))]) (rest := []) (As := [.ref (u 2), .int 0]) (q0 := 0) h (c_X2_takenBy _ _ kA (u 4) (u 42) (u 43) (u 2) 0 ) tw_1053 tw_1054 tw_1055 tw_91 tw_1056 (by decide +kernel) rfl ⟨Nat.le_of_ble_eq_true rfl, Nat.le_of_ble_eq_true rfl⟩ rfl rfl rfl (by decide) rfl rfl (by decide) (by decide) (Nat.le_of_ble_eq_true rfl) rfl ⟨Nat.le_of_ble_eq_true rfl, Nat.le_of_ble_eq_true rfl⟩ dX11_limp_20 ?_
    rintro r _ e269
    subst e269
    show J x [(h0, .inr (11, [.ref (u 0), .ref (u 1), .ref (u 2), .ref (u 3), .ref (u 4), .ref (u 5), .ref (u 6), .ref (u 7), .ref (u 8), .ref (u 9), .ref (u 10), .ref (u 11), .ref (u 12), .ref (u 13), .ref (u 14), .ref (u 15), .ref (u 16), .int 0, .int 0])), ((u 4), .inr (2, [.ref (u 42), .ref (u 43), .int 0, .int 0, .int 0, .int 0]))] [(0, .ref h0), (1, .int 0)] 0 0 23 [.int 0]
    refine j_istore_n (lv' := [(2, .int 0), (0, .ref h0), (1, .int 0)]) h dX11_limp_23 rfl (by decide) rfl ?_
    refine j_aload_n h 1 rfl rfl dX11_limp_24 ?_
    refine j_get h iw_X11 0 rfl rfl 4 (by decide) tw_479 rfl dX11_limp_25 ?_
    refine j_aload_n h 1 rfl rfl dX11_limp_28 ?_
    refine j_get h iw_X11 0 rfl rfl 2 (by decide) tw_477 rfl dX11_limp_29 ?_
    refine j_iconst (v := 1) h (by decide) dX11_limp_32 ?_
    refine j_callVi (np := 2) (isC := [1]) (isR := [0]) (wc := [((u 4), .inr (2, [.ref (u 42), .ref (u 43), .int 0, .int 0, .int 0, .int 0]))]) (wr := [(h0, .inr (11, [.ref (u 0), .ref (u 1), .ref (u 2), .ref (u 3), .ref (u 4), .ref (u 5), .ref (u 6), .ref (u 7), .ref (u 8), .ref (u 9), .ref (u 10), .ref (u 11), .ref (u 12), .ref (u 13), .ref (u 14), .ref (u 15), .ref (u 16), .int 0, .int 0]))]) (rest := []) (As := [.ref (u 2), .int 1]) (q0 := 0) h (c_X2_takenBy _ _ kA (u 4) (u 42) (u 43) (u 2) 1 ) tw_1053 tw_1054 tw_1055 tw_91 tw_1056 (by decide +kernel) rfl ⟨Nat.le_of_ble_eq_true rfl, Nat.le_of_ble_eq_true rfl⟩ rfl rfl rfl (by decide) rfl rfl (by decide) (by decide) (Nat.le_of_ble_eq_true rfl) rfl ⟨Nat.le_of_ble_eq_true rfl, Nat.le_of_ble_eq_true rfl⟩ dX11_limp_33 ?_
    rintro r _ e270
    subst e270
    show J x [(h0, .inr (11, [.ref (u 0), .ref (u 1), .ref (u 2), .ref (u 3), .ref (u 4), .ref (u 5), .ref (u 6), .ref (u 7), .ref (u 8), .ref (u 9), .ref (u 10), .ref (u 11), .ref (u 12), .ref (u 13), .ref (u 14), .ref (u 15), .ref (u 16), .int 0, .int 0])), ((u 4), .inr (2, [.ref (u 42), .ref (u 43), .int 0, .int 0, .int 0, .int 0]))] [(2, .int 0), (0, .ref h0), (1, .int 0)] 0 0 36 [.int 0]
    refine j_istore_n (lv' := [(3, .int 0), (2, .int 0), (0, .ref h0), (1, .int 0)]) h dX11_limp_36 rfl (by decide) rfl ?_
    refine j_iload_n h 1 rfl rfl dX11_limp_37 ?_
    refine j_iload_n h 0 rfl rfl dX11_limp_38 ?_
    refine j_isub h dX11_limp_39 ?_
    refine j_top (b := 0) (by decide) ?_
    refine j_mabs h tw_1057 tw_1058 tw_105 tw_1059 (Nat.le_of_ble_eq_true rfl) (Nat.le_of_ble_eq_true rfl) (Nat.le_of_ble_eq_true rfl) (Nat.le_of_ble_eq_true rfl) (Nat.le_of_ble_eq_true rfl) dX11_limp_40 ?_
    refine j_top (b := 0) (by decide) ?_
    refine j_iload_n h 1 rfl rfl dX11_limp_43 ?_
    refine j_iload_n h 0 rfl rfl dX11_limp_44 ?_
    refine j_iadd h dX11_limp_45 ?_
    refine j_top (b := 0) (by decide) ?_
    refine j_callSi (np := 2) (isC := []) (isR := [0, 1]) (wc := []) (wr := [(h0, .inr (11, [.ref (u 0), .ref (u 1), .ref (u 2), .ref (u 3), .ref (u 4), .ref (u 5), .ref (u 6), .ref (u 7), .ref (u 8), .ref (u 9), .ref (u 10), .ref (u 11), .ref (u 12), .ref (u 13), .ref (u 14), .ref (u 15), .ref (u 16), .int 0, .int 0])), ((u 4), .inr (2, [.ref (u 42), .ref (u 43), .int 0, .int 0, .int 0, .int 0]))]) (rest := []) (As := [.int 0, .int 0]) h (c_X11_commonDivisor _ _ kA  ) tw_1060 tw_1061 tw_87 tw_1062 (by decide +kernel) rfl ⟨Nat.le_of_ble_eq_true rfl, Nat.le_of_ble_eq_true rfl⟩ rfl (by decide) rfl rfl (by decide) (by decide) (Nat.le_of_ble_eq_true rfl) rfl ⟨Nat.le_of_ble_eq_true rfl, Nat.le_of_ble_eq_true rfl⟩ dX11_limp_46 ?_
    rintro r _ e271
    subst e271
    show J x [(h0, .inr (11, [.ref (u 0), .ref (u 1), .ref (u 2), .ref (u 3), .ref (u 4), .ref (u 5), .ref (u 6), .ref (u 7), .ref (u 8), .ref (u 9), .ref (u 10), .ref (u 11), .ref (u 12), .ref (u 13), .ref (u 14), .ref (u 15), .ref (u 16), .int 0, .int 0])), ((u 4), .inr (2, [.ref (u 42), .ref (u 43), .int 0, .int 0, .int 0, .int 0]))] [(3, .int 0), (2, .int 0), (0, .ref h0), (1, .int 0)] 0 0 49 [.int 0]
    refine j_istore (lv' := [(4, .int 0), (3, .int 0), (2, .int 0), (0, .ref h0), (1, .int 0)]) h dX11_limp_49 (by decide) rfl ?_
    refine j_iload h 0 rfl dX11_limp_51 ?_
    refine j_if_ne h 58 dX11_limp_53 (by decide) (fun q => absurd (by decide) q) (fun _ => ?_)
    refine j_iload_n h 4 rfl rfl dX11_limp_56 ?_
    exact j_iret h hq dX11_limp_57 () [] rfl rfl (by decide) (by decide) (Nat.le_of_ble_eq_true rfl) (Nat.le_of_ble_eq_true rfl)
  · refine j_iload_n h 1 rfl rfl dX11_limp_0 ?_
    refine j_if_eq h 11 dX11_limp_1 (by decide) (fun q => absurd q (by decide)) (fun _ => ?_)
    refine j_iload_n h 1 rfl rfl dX11_limp_4 ?_
    refine j_iconst (v := 1) h (by decide) dX11_limp_5 ?_
    refine j_icmp_eq h 11 dX11_limp_6 (by decide) (fun _ => ?_) (fun q => absurd (by decide) q)
    refine j_aload_n h 0 rfl rfl dX11_limp_11 ?_
    refine j_get h iw_X11 0 rfl rfl 4 (by decide) tw_479 rfl dX11_limp_12 ?_
    refine j_aload_n h 0 rfl rfl dX11_limp_15 ?_
    refine j_get h iw_X11 0 rfl rfl 2 (by decide) tw_477 rfl dX11_limp_16 ?_
    refine j_iconst (v := 0) h (by decide) dX11_limp_19 ?_
    refine j_callVi (np := 2) (isC := [1]) (isR := [0]) (wc := [((u 4), .inr (2, [.ref (u 42), .ref (u 43), .int 0, .int 0, .int 0, .int 0]))]) (wr := [(h0, .inr (11, [.ref (u 0), .ref (u 1), .ref (u 2), .ref (u 3), .ref (u 4), .ref (u 5), .ref (u 6), .ref (u 7), .ref (u 8), .ref (u 9), .ref (u 10), .ref (u 11), .ref (u 12), .ref (u 13), .ref (u 14), .ref (u 15), .ref (u 16), .int 0, .int 0]))]) (rest := []) (As := [.ref (u 2), .int 0]) (q0 := 0) h (c_X2_takenBy _ _ kA (u 4) (u 42) (u 43) (u 2) 0 ) tw_1053 tw_1054 tw_1055 tw_91 tw_1056 (by decide +kernel) rfl ⟨Nat.le_of_ble_eq_true rfl, Nat.le_of_ble_eq_true rfl⟩ rfl rfl rfl (by decide) rfl rfl (by decide) (by decide) (Nat.le_of_ble_eq_true rfl) rfl ⟨Nat.le_of_ble_eq_true rfl, Nat.le_of_ble_eq_true rfl⟩ dX11_limp_20 ?_
    rintro r _ e272
    subst e272
    show J x [(h0, .inr (11, [.ref (u 0), .ref (u 1), .ref (u 2), .ref (u 3), .ref (u 4), .ref (u 5), .ref (u 6), .ref (u 7), .ref (u 8), .ref (u 9), .ref (u 10), .ref (u 11), .ref (u 12), .ref (u 13), .ref (u 14), .ref (u 15), .ref (u 16), .int 0, .int 0])), ((u 4), .inr (2, [.ref (u 42), .ref (u 43), .int 0, .int 0, .int 0, .int 0]))] [(0, .ref h0), (1, .int 1)] 0 0 23 [.int 0]
    refine j_istore_n (lv' := [(2, .int 0), (0, .ref h0), (1, .int 1)]) h dX11_limp_23 rfl (by decide) rfl ?_
    refine j_aload_n h 1 rfl rfl dX11_limp_24 ?_
    refine j_get h iw_X11 0 rfl rfl 4 (by decide) tw_479 rfl dX11_limp_25 ?_
    refine j_aload_n h 1 rfl rfl dX11_limp_28 ?_
    refine j_get h iw_X11 0 rfl rfl 2 (by decide) tw_477 rfl dX11_limp_29 ?_
    refine j_iconst (v := 1) h (by decide) dX11_limp_32 ?_
    refine j_callVi (np := 2) (isC := [1]) (isR := [0]) (wc := [((u 4), .inr (2, [.ref (u 42), .ref (u 43), .int 0, .int 0, .int 0, .int 0]))]) (wr := [(h0, .inr (11, [.ref (u 0), .ref (u 1), .ref (u 2), .ref (u 3), .ref (u 4), .ref (u 5), .ref (u 6), .ref (u 7), .ref (u 8), .ref (u 9), .ref (u 10), .ref (u 11), .ref (u 12), .ref (u 13), .ref (u 14), .ref (u 15), .ref (u 16), .int 0, .int 0]))]) (rest := []) (As := [.ref (u 2), .int 1]) (q0 := 0) h (c_X2_takenBy _ _ kA (u 4) (u 42) (u 43) (u 2) 1 ) tw_1053 tw_1054 tw_1055 tw_91 tw_1056 (by decide +kernel) rfl ⟨Nat.le_of_ble_eq_true rfl, Nat.le_of_ble_eq_true rfl⟩ rfl rfl rfl (by decide) rfl rfl (by decide) (by decide) (Nat.le_of_ble_eq_true rfl) rfl ⟨Nat.le_of_ble_eq_true rfl, Nat.le_of_ble_eq_true rfl⟩ dX11_limp_33 ?_
    rintro r _ e273
    subst e273
    show J x [(h0, .inr (11, [.ref (u 0), .ref (u 1), .ref (u 2), .ref (u 3), .ref (u 4), .ref (u 5), .ref (u 6), .ref (u 7), .ref (u 8), .ref (u 9), .ref (u 10), .ref (u 11), .ref (u 12), .ref (u 13), .ref (u 14), .ref (u 15), .ref (u 16), .int 0, .int 0])), ((u 4), .inr (2, [.ref (u 42), .ref (u 43), .int 0, .int 0, .int 0, .int 0]))] [(2, .int 0), (0, .ref h0), (1, .int 1)] 0 0 36 [.int 0]
    refine j_istore_n (lv' := [(3, .int 0), (2, .int 0), (0, .ref h0), (1, .int 1)]) h dX11_limp_36 rfl (by decide) rfl ?_
    refine j_iload_n h 1 rfl rfl dX11_limp_37 ?_
    refine j_iload_n h 0 rfl rfl dX11_limp_38 ?_
    refine j_isub h dX11_limp_39 ?_
    refine j_top (b := 0) (by decide) ?_
    refine j_mabs h tw_1057 tw_1058 tw_105 tw_1059 (Nat.le_of_ble_eq_true rfl) (Nat.le_of_ble_eq_true rfl) (Nat.le_of_ble_eq_true rfl) (Nat.le_of_ble_eq_true rfl) (Nat.le_of_ble_eq_true rfl) dX11_limp_40 ?_
    refine j_top (b := 0) (by decide) ?_
    refine j_iload_n h 1 rfl rfl dX11_limp_43 ?_
    refine j_iload_n h 0 rfl rfl dX11_limp_44 ?_
    refine j_iadd h dX11_limp_45 ?_
    refine j_top (b := 0) (by decide) ?_
    refine j_callSi (np := 2) (isC := []) (isR := [0, 1]) (wc := []) (wr := [(h0, .inr (11, [.ref (u 0), .ref (u 1), .ref (u 2), .ref (u 3), .ref (u 4), .ref (u 5), .ref (u 6), .ref (u 7), .ref (u 8), .ref (u 9), .ref (u 10), .ref (u 11), .ref (u 12), .ref (u 13), .ref (u 14), .ref (u 15), .ref (u 16), .int 0, .int 0])), ((u 4), .inr (2, [.ref (u 42), .ref (u 43), .int 0, .int 0, .int 0, .int 0]))]) (rest := []) (As := [.int 0, .int 0]) h (c_X11_commonDivisor _ _ kA  ) tw_1060 tw_1061 tw_87 tw_1062 (by decide +kernel) rfl ⟨Nat.le_of_ble_eq_true rfl, Nat.le_of_ble_eq_true rfl⟩ rfl (by decide) rfl rfl (by decide) (by decide) (Nat.le_of_ble_eq_true rfl) rfl ⟨Nat.le_of_ble_eq_true rfl, Nat.le_of_ble_eq_true rfl⟩ dX11_limp_46 ?_
    rintro r _ e274
    subst e274
    show J x [(h0, .inr (11, [.ref (u 0), .ref (u 1), .ref (u 2), .ref (u 3), .ref (u 4), .ref (u 5), .ref (u 6), .ref (u 7), .ref (u 8), .ref (u 9), .ref (u 10), .ref (u 11), .ref (u 12), .ref (u 13), .ref (u 14), .ref (u 15), .ref (u 16), .int 0, .int 0])), ((u 4), .inr (2, [.ref (u 42), .ref (u 43), .int 0, .int 0, .int 0, .int 0]))] [(3, .int 0), (2, .int 0), (0, .ref h0), (1, .int 1)] 0 0 49 [.int 0]
    refine j_istore (lv' := [(4, .int 0), (3, .int 0), (2, .int 0), (0, .ref h0), (1, .int 1)]) h dX11_limp_49 (by decide) rfl ?_
    refine j_iload h 0 rfl dX11_limp_51 ?_
    refine j_if_ne h 58 dX11_limp_53 (by decide) (fun q => absurd (by decide) q) (fun _ => ?_)
    refine j_iload_n h 4 rfl rfl dX11_limp_56 ?_
    exact j_iret h hq dX11_limp_57 () [] rfl rfl (by decide) (by decide) (Nat.le_of_ble_eq_true rfl) (Nat.le_of_ble_eq_true rfl)
  · refine j_iload_n h 1 rfl rfl dX11_limp_0 ?_
    refine j_if_eq h 11 dX11_limp_1 (by decide) (fun q => absurd q (hT.1)) (fun _ => ?_)
    refine j_iload_n h 1 rfl rfl dX11_limp_4 ?_
    refine j_iconst (v := 1) h (by decide) dX11_limp_5 ?_
    refine j_icmp_eq h 11 dX11_limp_6 (by decide) (fun q => absurd q (hT.2)) (fun _ => ?_)
    refine j_iconst (v := (-1)) h (by decide) dX11_limp_9 ?_
    exact j_iret h hq dX11_limp_10 () [] rfl rfl (by decide) (by unfold vLimp; rw [if_neg hT.1, if_neg hT.2]) (Nat.le_of_ble_eq_true rfl) (Nat.le_of_ble_eq_true rfl)
set_option maxHeartbeats 4000000 in
set_option maxRecDepth 100000 in
theorem c_X11_about (l : Launch) (g : va_G) (kA : Nat → ClassId) (h0 : Nat) (u : Nat → Nat) (w : Int32)  : CtI l yX11_about cX11_about 2 (some .int) 3 0 0 g kA [.ref h0, .int w] [(h0, .inr (11, [.ref (u 0), .ref (u 1), .ref (u 2), .ref (u 3), .ref (u 4), .ref (u 5), .ref (u 6), .ref (u 7), .ref (u 8), .ref (u 9), .ref (u 10), .ref (u 11), .ref (u 12), .ref (u 13), .ref (u 14), .ref (u 15), .ref (u 16), .int 0, .int 0])), ((u 2), .inr (5, [.ref (u 18), .ref (u 19), .ref (u 20), .ref (u 21), .ref (u 22), .ref (u 23), .ref (u 24), .ref (u 25), .ref (u 26), .ref (u 27), .ref (u 28), .ref (u 29), .int 0, .int 0, .int 0])), ((u 4), .inr (2, [.ref (u 42), .ref (u 43), .int 0, .int 0, .int 0, .int 0])), ((u 6), .inl (kA 5, 2, .inr (.inr (.inr (.inr (va_up (va_up (fun _ => none) 0 (some (u 53))) 1 (some (u 54)))))))), ((u 53), .inr (10, [.ref (u 55), .int 0, .int 0, .int 0])), ((u 54), .inr (10, [.ref (u 56), .int 0, .int 0, .int 0])), ((u 7), .inr (8, [.ref (u 57), .ref (u 58), .ref (u 59), .ref (u 60), .ref (u 61), .ref (u 62), .int 0])), ((u 0), .inr (9, [.ref (u 17), .int 0, .int 0, .int 0, .int 0, .long 0, .int 0]))] (S := Unit) (fun (r : Int32) (_ : Unit) => r = vAb w) (fun (_ : Unit) => []) := by
  refine nx_startI (by decide +kernel) (Nat.le_of_ble_eq_true rfl) ?_
  intro x hnm h hq
  have h : Ok x cX11_about RX11 kA (rmC 3 0 0) 2 := h
  show J x [(h0, .inr (11, [.ref (u 0), .ref (u 1), .ref (u 2), .ref (u 3), .ref (u 4), .ref (u 5), .ref (u 6), .ref (u 7), .ref (u 8), .ref (u 9), .ref (u 10), .ref (u 11), .ref (u 12), .ref (u 13), .ref (u 14), .ref (u 15), .ref (u 16), .int 0, .int 0])), ((u 2), .inr (5, [.ref (u 18), .ref (u 19), .ref (u 20), .ref (u 21), .ref (u 22), .ref (u 23), .ref (u 24), .ref (u 25), .ref (u 26), .ref (u 27), .ref (u 28), .ref (u 29), .int 0, .int 0, .int 0])), ((u 4), .inr (2, [.ref (u 42), .ref (u 43), .int 0, .int 0, .int 0, .int 0])), ((u 6), .inl (kA 5, 2, .inr (.inr (.inr (.inr (va_up (va_up (fun _ => none) 0 (some (u 53))) 1 (some (u 54)))))))), ((u 53), .inr (10, [.ref (u 55), .int 0, .int 0, .int 0])), ((u 54), .inr (10, [.ref (u 56), .int 0, .int 0, .int 0])), ((u 7), .inr (8, [.ref (u 57), .ref (u 58), .ref (u 59), .ref (u 60), .ref (u 61), .ref (u 62), .int 0])), ((u 0), .inr (9, [.ref (u 17), .int 0, .int 0, .int 0, .int 0, .long 0, .int 0]))] [(0, .ref h0), (1, .int w)] 0 0 0 []
  rcases ab_cases w with rfl | rfl | rfl | rfl | rfl | rfl | rfl | rfl | rfl | rfl | rfl | rfl | hT
  · refine j_iload_n h 1 rfl rfl dX11_about_0 ?_
    refine j_tabIn h 64 dX11_about_1 (by decide) (by decide) rfl (by decide) ?_
    refine j_aload_n h 0 rfl rfl dX11_about_64 ?_
    refine j_get h iw_X11 0 rfl rfl 2 (by decide) tw_477 rfl dX11_about_65 ?_
    refine j_get h iw_X5 1 rfl rfl 12 (by decide) tw_221 rfl dX11_about_68 ?_
    exact j_iret h hq dX11_about_71 () [] rfl rfl (by decide) (by decide) (Nat.le_of_ble_eq_true rfl) (Nat.le_of_ble_eq_true rfl)
  · refine j_iload_n h 1 rfl rfl dX11_about_0 ?_
    refine j_tabIn h 72 dX11_about_1 (by decide) (by decide) rfl (by decide) ?_
    refine j_aload_n h 0 rfl rfl dX11_about_72 ?_
    refine j_get h iw_X11 0 rfl rfl 2 (by decide) tw_477 rfl dX11_about_73 ?_
    refine j_get h iw_X5 1 rfl rfl 13 (by decide) tw_225 rfl dX11_about_76 ?_
    exact j_iret h hq dX11_about_79 () [] rfl rfl (by decide) (by decide) (Nat.le_of_ble_eq_true rfl) (Nat.le_of_ble_eq_true rfl)
  · refine j_iload_n h 1 rfl rfl dX11_about_0 ?_
    refine j_tabIn h 80 dX11_about_1 (by decide) (by decide) rfl (by decide) ?_
    refine j_aload_n h 0 rfl rfl dX11_about_80 ?_
    refine j_get h iw_X11 0 rfl rfl 2 (by decide) tw_477 rfl dX11_about_81 ?_
    refine j_get h iw_X5 1 rfl rfl 14 (by decide) tw_231 rfl dX11_about_84 ?_
    exact j_iret h hq dX11_about_87 () [] rfl rfl (by decide) (by decide) (Nat.le_of_ble_eq_true rfl) (Nat.le_of_ble_eq_true rfl)
  · refine j_iload_n h 1 rfl rfl dX11_about_0 ?_
    refine j_tabIn h 88 dX11_about_1 (by decide) (by decide) rfl (by decide) ?_
    refine j_aload_n h 0 rfl rfl dX11_about_88 ?_
    refine j_get h iw_X11 0 rfl rfl 4 (by decide) tw_479 rfl dX11_about_89 ?_
    refine j_get h iw_X2 2 rfl rfl 3 (by decide) tw_277 rfl dX11_about_92 ?_
    exact j_iret h hq dX11_about_95 () [] rfl rfl (by decide) (by decide) (Nat.le_of_ble_eq_true rfl) (Nat.le_of_ble_eq_true rfl)
  · refine j_iload_n h 1 rfl rfl dX11_about_0 ?_
    refine j_tabIn h 96 dX11_about_1 (by decide) (by decide) rfl (by decide) ?_
    refine j_aload_n h 0 rfl rfl dX11_about_96 ?_
    refine j_get h iw_X11 0 rfl rfl 4 (by decide) tw_479 rfl dX11_about_97 ?_
    refine j_get h iw_X2 2 rfl rfl 2 (by decide) tw_275 rfl dX11_about_100 ?_
    exact j_iret h hq dX11_about_103 () [] rfl rfl (by decide) (by decide) (Nat.le_of_ble_eq_true rfl) (Nat.le_of_ble_eq_true rfl)
  · refine j_iload_n h 1 rfl rfl dX11_about_0 ?_
    refine j_tabIn h 104 dX11_about_1 (by decide) (by decide) rfl (by decide) ?_
    refine j_aload_n h 0 rfl rfl dX11_about_104 ?_
    refine j_get h iw_X11 0 rfl rfl 4 (by decide) tw_479 rfl dX11_about_105 ?_
    refine j_get h iw_X2 2 rfl rfl 4 (by decide) tw_279 rfl dX11_about_108 ?_
    exact j_iret h hq dX11_about_111 () [] rfl rfl (by decide) (by decide) (Nat.le_of_ble_eq_true rfl) (Nat.le_of_ble_eq_true rfl)
  · refine j_iload_n h 1 rfl rfl dX11_about_0 ?_
    refine j_tabIn h 112 dX11_about_1 (by decide) (by decide) rfl (by decide) ?_
    refine j_aload_n h 0 rfl rfl dX11_about_112 ?_
    refine j_get h iw_X11 0 rfl rfl 6 (by decide) tw_481 rfl dX11_about_113 ?_
    refine j_iconst (v := 0) h (by decide) dX11_about_116 ?_
    refine j_aldO h 3 5 rfl rfl 0 (by decide) (by decide) (by decide) (rfl) dX11_about_117 ?_
    refine j_get h iw_X10 4 rfl rfl 1 (by decide) tw_308 rfl dX11_about_118 ?_
    exact j_iret h hq dX11_about_121 () [] rfl rfl (by decide) (by decide) (Nat.le_of_ble_eq_true rfl) (Nat.le_of_ble_eq_true rfl)
  · refine j_iload_n h 1 rfl rfl dX11_about_0 ?_
    refine j_tabIn h 122 dX11_about_1 (by decide) (by decide) rfl (by decide) ?_
    refine j_aload_n h 0 rfl rfl dX11_about_122 ?_
    refine j_get h iw_X11 0 rfl rfl 6 (by decide) tw_481 rfl dX11_about_123 ?_
    refine j_iconst (v := 1) h (by decide) dX11_about_126 ?_
    refine j_aldO h 3 5 rfl rfl 1 (by decide) (by decide) (by decide) (rfl) dX11_about_127 ?_
    refine j_get h iw_X10 5 rfl rfl 1 (by decide) tw_308 rfl dX11_about_128 ?_
    exact j_iret h hq dX11_about_131 () [] rfl rfl (by decide) (by decide) (Nat.le_of_ble_eq_true rfl) (Nat.le_of_ble_eq_true rfl)
  · refine j_iload_n h 1 rfl rfl dX11_about_0 ?_
    refine j_tabIn h 132 dX11_about_1 (by decide) (by decide) rfl (by decide) ?_
    refine j_aload_n h 0 rfl rfl dX11_about_132 ?_
    refine j_get h iw_X11 0 rfl rfl 7 (by decide) tw_482 rfl dX11_about_133 ?_
    refine j_get h iw_X8 6 rfl rfl 6 (by decide) tw_334 rfl dX11_about_136 ?_
    exact j_iret h hq dX11_about_139 () [] rfl rfl (by decide) (by decide) (Nat.le_of_ble_eq_true rfl) (Nat.le_of_ble_eq_true rfl)
  · refine j_iload_n h 1 rfl rfl dX11_about_0 ?_
    refine j_tabIn h 140 dX11_about_1 (by decide) (by decide) rfl (by decide) ?_
    refine j_aload_n h 0 rfl rfl dX11_about_140 ?_
    refine j_get h iw_X11 0 rfl rfl 18 (by decide) tw_493 rfl dX11_about_141 ?_
    exact j_iret h hq dX11_about_144 () [] rfl rfl (by decide) (by decide) (Nat.le_of_ble_eq_true rfl) (Nat.le_of_ble_eq_true rfl)
  · refine j_iload_n h 1 rfl rfl dX11_about_0 ?_
    refine j_tabIn h 145 dX11_about_1 (by decide) (by decide) rfl (by decide) ?_
    refine j_aload_n h 0 rfl rfl dX11_about_145 ?_
    refine j_get h iw_X11 0 rfl rfl 0 (by decide) tw_475 rfl dX11_about_146 ?_
    refine j_get h iw_X9 7 rfl rfl 1 (by decide) tw_123 rfl dX11_about_149 ?_
    exact j_iret h hq dX11_about_152 () [] rfl rfl (by decide) (by decide) (Nat.le_of_ble_eq_true rfl) (Nat.le_of_ble_eq_true rfl)
  · refine j_iload_n h 1 rfl rfl dX11_about_0 ?_
    refine j_tabIn h 153 dX11_about_1 (by decide) (by decide) rfl (by decide) ?_
    refine j_aload_n h 0 rfl rfl dX11_about_153 ?_
    refine j_get h iw_X11 0 rfl rfl 17 (by decide) tw_492 rfl dX11_about_154 ?_
    exact j_iret h hq dX11_about_157 () [] rfl rfl (by decide) (by decide) (Nat.le_of_ble_eq_true rfl) (Nat.le_of_ble_eq_true rfl)
  · refine j_iload_n h 1 rfl rfl dX11_about_0 ?_
    refine j_tabOut h 158 dX11_about_1 hT (by decide) ?_
    refine j_iconst (v := (-1)) h (by decide) dX11_about_158 ?_
    exact j_iret h hq dX11_about_159 () [] rfl rfl (by decide) (by unfold vAb; rw [if_pos hT]) (Nat.le_of_ble_eq_true rfl) (Nat.le_of_ble_eq_true rfl)
set_option maxHeartbeats 4000000 in
set_option maxRecDepth 100000 in
theorem c_X2_copyFrom (l : Launch) (g : va_G) (kA : Nat → ClassId) (h0 : Nat) (a0 : Nat) (a1 : Nat) (o : Nat) (o0 : Nat) (o1 : Nat)  : CtV l yX2_copyFrom cX2_copyFrom 2 (none) 2 0 0 g kA [.ref h0, .ref o] [(h0, .inr (2, [.ref a0, .ref a1, .int 0, .int 0, .int 0, .int 0])), (a0, .inl (kA 1, 60, .inl (fun _ => 0))), (a1, .inl (kA 1, 6, .inl (fun _ => 0))), (o, .inr (2, [.ref o0, .ref o1, .int 0, .int 0, .int 0, .int 0])), (o0, .inl (kA 1, 60, .inl (fun _ => 0))), (o1, .inl (kA 1, 6, .inl (fun _ => 0)))] (S := Unit) (fun (_ : Unit) => True) (fun (_ : Unit) => [(h0, .inr (2, [.ref a0, .ref a1, .int 0, .int 0, .int 0, .int 0])), (o, .inr (2, [.ref o0, .ref o1, .int 0, .int 0, .int 0, .int 0]))]) := by
  refine nx_startV (by decide +kernel) (Nat.le_of_ble_eq_true rfl) ?_
  intro x hnm h hq
  have h : Ok x cX2_copyFrom RX2 kA (rmC 2 0 0) 2 := h
  show J x [(h0, .inr (2, [.ref a0, .ref a1, .int 0, .int 0, .int 0, .int 0])), (a0, .inl (kA 1, 60, .inl (fun _ => 0))), (a1, .inl (kA 1, 6, .inl (fun _ => 0))), (o, .inr (2, [.ref o0, .ref o1, .int 0, .int 0, .int 0, .int 0])), (o0, .inl (kA 1, 60, .inl (fun _ => 0))), (o1, .inl (kA 1, 6, .inl (fun _ => 0)))] [(0, .ref h0), (1, .ref o)] 0 0 0 []
  refine j_aload_n h 1 rfl rfl dX2_copyFrom_0 ?_
  refine j_get h iw_X2 3 rfl rfl 0 (by decide) tw_271 rfl dX2_copyFrom_1 ?_
  refine j_iconst (v := 0) h (by decide) dX2_copyFrom_4 ?_
  refine j_aload_n h 0 rfl rfl dX2_copyFrom_5 ?_
  refine j_get h iw_X2 0 rfl rfl 0 (by decide) tw_271 rfl dX2_copyFrom_6 ?_
  refine j_iconst (v := 0) h (by decide) dX2_copyFrom_9 ?_
  refine j_bipush (v := 60) h (by decide) dX2_copyFrom_10 ?_
  refine j_copyi (ws' := [(h0, .inr (2, [.ref a0, .ref a1, .int 0, .int 0, .int 0, .int 0])), (a0, .inl (kA 1, 60, .inl (va_cpy (fun _ => 0) (fun _ => 0) 0 0 60))), (a1, .inl (kA 1, 6, .inl (fun _ => 0))), (o, .inr (2, [.ref o0, .ref o1, .int 0, .int 0, .int 0, .int 0])), (o0, .inl (kA 1, 60, .inl (fun _ => 0))), (o1, .inl (kA 1, 6, .inl (fun _ => 0)))]) h tw_739 tw_741 tw_740 tw_104 4 1 rfl rfl 0 0 60 (by decide) (by decide) (by decide) (by decide) (by decide) (by decide) (by decide) (Nat.le_of_ble_eq_true rfl) (Nat.le_of_ble_eq_true rfl) (Nat.le_of_ble_eq_true rfl) dX2_copyFrom_12 rfl ?_
  refine j_aload_n h 1 rfl rfl dX2_copyFrom_15 ?_
  refine j_get h iw_X2 3 rfl rfl 1 (by decide) tw_272 rfl dX2_copyFrom_16 ?_
  refine j_iconst (v := 0) h (by decide) dX2_copyFrom_19 ?_
  refine j_aload_n h 0 rfl rfl dX2_copyFrom_20 ?_
  refine j_get h iw_X2 0 rfl rfl 1 (by decide) tw_272 rfl dX2_copyFrom_21 ?_
  refine j_iconst (v := 0) h (by decide) dX2_copyFrom_24 ?_
  refine j_bipush (v := 6) h (by decide) dX2_copyFrom_25 ?_
  refine j_copyi (ws' := [(h0, .inr (2, [.ref a0, .ref a1, .int 0, .int 0, .int 0, .int 0])), (a0, .inl (kA 1, 60, .inl (va_cpy (fun _ => 0) (fun _ => 0) 0 0 60))), (a1, .inl (kA 1, 6, .inl (va_cpy (fun _ => 0) (fun _ => 0) 0 0 6))), (o, .inr (2, [.ref o0, .ref o1, .int 0, .int 0, .int 0, .int 0])), (o0, .inl (kA 1, 60, .inl (fun _ => 0))), (o1, .inl (kA 1, 6, .inl (fun _ => 0)))]) h tw_739 tw_741 tw_740 tw_104 5 2 rfl rfl 0 0 6 (by decide) (by decide) (by decide) (by decide) (by decide) (by decide) (by decide) (Nat.le_of_ble_eq_true rfl) (Nat.le_of_ble_eq_true rfl) (Nat.le_of_ble_eq_true rfl) dX2_copyFrom_27 rfl ?_
  refine j_aload_n h 0 rfl rfl dX2_copyFrom_30 ?_
  refine j_aload_n h 1 rfl rfl dX2_copyFrom_31 ?_
  refine j_get h iw_X2 3 rfl rfl 2 (by decide) tw_274 rfl dX2_copyFrom_32 ?_
  refine j_put (ws' := [(h0, .inr (2, [.ref a0, .ref a1, .int 0, .int 0, .int 0, .int 0])), (a0, .inl (kA 1, 60, .inl (va_cpy (fun _ => 0) (fun _ => 0) 0 0 60))), (a1, .inl (kA 1, 6, .inl (va_cpy (fun _ => 0) (fun _ => 0) 0 0 6))), (o, .inr (2, [.ref o0, .ref o1, .int 0, .int 0, .int 0, .int 0])), (o0, .inl (kA 1, 60, .inl (fun _ => 0))), (o1, .inl (kA 1, 6, .inl (fun _ => 0)))]) h iw_X2 tyX2 tyX2_ok nmX2 0 rfl rfl 2 (by decide) tw_274 rfl rfl rfl (Nat.le_of_ble_eq_true rfl) dX2_copyFrom_35 rfl ?_
  refine j_aload_n h 0 rfl rfl dX2_copyFrom_38 ?_
  refine j_aload_n h 1 rfl rfl dX2_copyFrom_39 ?_
  refine j_get h iw_X2 3 rfl rfl 3 (by decide) tw_276 rfl dX2_copyFrom_40 ?_
  refine j_put (ws' := [(h0, .inr (2, [.ref a0, .ref a1, .int 0, .int 0, .int 0, .int 0])), (a0, .inl (kA 1, 60, .inl (va_cpy (fun _ => 0) (fun _ => 0) 0 0 60))), (a1, .inl (kA 1, 6, .inl (va_cpy (fun _ => 0) (fun _ => 0) 0 0 6))), (o, .inr (2, [.ref o0, .ref o1, .int 0, .int 0, .int 0, .int 0])), (o0, .inl (kA 1, 60, .inl (fun _ => 0))), (o1, .inl (kA 1, 6, .inl (fun _ => 0)))]) h iw_X2 tyX2 tyX2_ok nmX2 0 rfl rfl 3 (by decide) tw_276 rfl rfl rfl (Nat.le_of_ble_eq_true rfl) dX2_copyFrom_43 rfl ?_
  refine j_aload_n h 0 rfl rfl dX2_copyFrom_46 ?_
  refine j_aload_n h 1 rfl rfl dX2_copyFrom_47 ?_
  refine j_get h iw_X2 3 rfl rfl 4 (by decide) tw_278 rfl dX2_copyFrom_48 ?_
  refine j_put (ws' := [(h0, .inr (2, [.ref a0, .ref a1, .int 0, .int 0, .int 0, .int 0])), (a0, .inl (kA 1, 60, .inl (va_cpy (fun _ => 0) (fun _ => 0) 0 0 60))), (a1, .inl (kA 1, 6, .inl (va_cpy (fun _ => 0) (fun _ => 0) 0 0 6))), (o, .inr (2, [.ref o0, .ref o1, .int 0, .int 0, .int 0, .int 0])), (o0, .inl (kA 1, 60, .inl (fun _ => 0))), (o1, .inl (kA 1, 6, .inl (fun _ => 0)))]) h iw_X2 tyX2 tyX2_ok nmX2 0 rfl rfl 4 (by decide) tw_278 rfl rfl rfl (Nat.le_of_ble_eq_true rfl) dX2_copyFrom_51 rfl ?_
  exact j_vret h hq dX2_copyFrom_54 () [0, 3] rfl rfl (by decide) trivial (Nat.le_of_ble_eq_true rfl) (Nat.le_of_ble_eq_true rfl)
set_option maxHeartbeats 4000000 in
set_option maxRecDepth 100000 in
theorem c_X11_image (l : Launch) (g : va_G) (kA : Nat → ClassId) (h0 : Nat) (u : Nat → Nat) (t : Int32)  : CtI l yX11_image cX11_image 2 (some .int) 3 0 0 g kA [.ref h0, .int t] [(h0, .inr (11, [.ref (u 0), .ref (u 1), .ref (u 2), .ref (u 3), .ref (u 4), .ref (u 5), .ref (u 6), .ref (u 7), .ref (u 8), .ref (u 9), .ref (u 10), .ref (u 11), .ref (u 12), .ref (u 13), .ref (u 14), .ref (u 15), .ref (u 16), .int 0, .int 0])), ((u 4), .inr (2, [.ref (u 42), .ref (u 43), .int 0, .int 0, .int 0, .int 0])), ((u 42), .inl (kA 1, 60, .inl (fun _ => 0))), ((u 43), .inl (kA 1, 6, .inl (fun _ => 0))), ((u 5), .inl (kA 4, 3, .inr (.inr (.inr (.inr (va_up (va_up (va_up (fun _ => none) 0 (some (u 44))) 1 (some (u 45))) 2 (some (u 46)))))))), ((u 44), .inr (2, [.ref (u 47), .ref (u 48), .int 0, .int 0, .int 0, .int 0])), ((u 47), .inl (kA 1, 60, .inl (fun _ => 0))), ((u 48), .inl (kA 1, 6, .inl (fun _ => 0))), ((u 45), .inr (2, [.ref (u 49), .ref (u 50), .int 0, .int 0, .int 0, .int 0])), ((u 49), .inl (kA 1, 60, .inl (fun _ => 0))), ((u 50), .inl (kA 1, 6, .inl (fun _ => 0))), ((u 46), .inr (2, [.ref (u 51), .ref (u 52), .int 0, .int 0, .int 0, .int 0])), ((u 51), .inl (kA 1, 60, .inl (fun _ => 0))), ((u 52), .inl (kA 1, 6, .inl (fun _ => 0)))] (S := Unit) (fun (r : Int32) (_ : Unit) => r = vBox t) (fun (_ : Unit) => []) := by
  refine nx_startI (by decide +kernel) (Nat.le_of_ble_eq_true rfl) ?_
  intro x hnm h hq
  have h : Ok x cX11_image RX11 kA (rmC 3 0 0) 2 := h
  show J x [(h0, .inr (11, [.ref (u 0), .ref (u 1), .ref (u 2), .ref (u 3), .ref (u 4), .ref (u 5), .ref (u 6), .ref (u 7), .ref (u 8), .ref (u 9), .ref (u 10), .ref (u 11), .ref (u 12), .ref (u 13), .ref (u 14), .ref (u 15), .ref (u 16), .int 0, .int 0])), ((u 4), .inr (2, [.ref (u 42), .ref (u 43), .int 0, .int 0, .int 0, .int 0])), ((u 42), .inl (kA 1, 60, .inl (fun _ => 0))), ((u 43), .inl (kA 1, 6, .inl (fun _ => 0))), ((u 5), .inl (kA 4, 3, .inr (.inr (.inr (.inr (va_up (va_up (va_up (fun _ => none) 0 (some (u 44))) 1 (some (u 45))) 2 (some (u 46)))))))), ((u 44), .inr (2, [.ref (u 47), .ref (u 48), .int 0, .int 0, .int 0, .int 0])), ((u 47), .inl (kA 1, 60, .inl (fun _ => 0))), ((u 48), .inl (kA 1, 6, .inl (fun _ => 0))), ((u 45), .inr (2, [.ref (u 49), .ref (u 50), .int 0, .int 0, .int 0, .int 0])), ((u 49), .inl (kA 1, 60, .inl (fun _ => 0))), ((u 50), .inl (kA 1, 6, .inl (fun _ => 0))), ((u 46), .inr (2, [.ref (u 51), .ref (u 52), .int 0, .int 0, .int 0, .int 0])), ((u 51), .inl (kA 1, 60, .inl (fun _ => 0))), ((u 52), .inl (kA 1, 6, .inl (fun _ => 0)))] [(0, .ref h0), (1, .int t)] 0 0 0 []
  rcases bBx_cases t with rfl | rfl | rfl | hT
  · refine j_iload_n h 1 rfl rfl dX11_image_0 ?_
    refine j_callSi (np := 1) (isC := []) (isR := [0, 1, 2, 3, 4, 5, 6, 7, 8, 9, 10, 11, 12, 13]) (wc := []) (wr := [(h0, .inr (11, [.ref (u 0), .ref (u 1), .ref (u 2), .ref (u 3), .ref (u 4), .ref (u 5), .ref (u 6), .ref (u 7), .ref (u 8), .ref (u 9), .ref (u 10), .ref (u 11), .ref (u 12), .ref (u 13), .ref (u 14), .ref (u 15), .ref (u 16), .int 0, .int 0])), ((u 4), .inr (2, [.ref (u 42), .ref (u 43), .int 0, .int 0, .int 0, .int 0])), ((u 42), .inl (kA 1, 60, .inl (fun _ => 0))), ((u 43), .inl (kA 1, 6, .inl (fun _ => 0))), ((u 5), .inl (kA 4, 3, .inr (.inr (.inr (.inr (va_up (va_up (va_up (fun _ => none) 0 (some (u 44))) 1 (some (u 45))) 2 (some (u 46)))))))), ((u 44), .inr (2, [.ref (u 47), .ref (u 48), .int 0, .int 0, .int 0, .int 0])), ((u 47), .inl (kA 1, 60, .inl (fun _ => 0))), ((u 48), .inl (kA 1, 6, .inl (fun _ => 0))), ((u 45), .inr (2, [.ref (u 49), .ref (u 50), .int 0, .int 0, .int 0, .int 0])), ((u 49), .inl (kA 1, 60, .inl (fun _ => 0))), ((u 50), .inl (kA 1, 6, .inl (fun _ => 0))), ((u 46), .inr (2, [.ref (u 51), .ref (u 52), .int 0, .int 0, .int 0, .int 0])), ((u 51), .inl (kA 1, 60, .inl (fun _ => 0))), ((u 52), .inl (kA 1, 6, .inl (fun _ => 0)))]) (rest := []) (As := [.int 0]) h (c_X11_isBox _ _ kA 0 ) tw_1131 tw_1132 tw_87 tw_1133 (by decide +kernel) rfl ⟨Nat.le_of_ble_eq_true rfl, Nat.le_of_ble_eq_true rfl⟩ rfl (by decide) rfl rfl (by decide) (by decide) (Nat.le_of_ble_eq_true rfl) rfl ⟨Nat.le_of_ble_eq_true rfl, Nat.le_of_ble_eq_true rfl⟩ dX11_image_1 ?_
    rintro r _ e275
    subst e275
    show J x [(h0, .inr (11, [.ref (u 0), .ref (u 1), .ref (u 2), .ref (u 3), .ref (u 4), .ref (u 5), .ref (u 6), .ref (u 7), .ref (u 8), .ref (u 9), .ref (u 10), .ref (u 11), .ref (u 12), .ref (u 13), .ref (u 14), .ref (u 15), .ref (u 16), .int 0, .int 0])), ((u 4), .inr (2, [.ref (u 42), .ref (u 43), .int 0, .int 0, .int 0, .int 0])), ((u 42), .inl (kA 1, 60, .inl (fun _ => 0))), ((u 43), .inl (kA 1, 6, .inl (fun _ => 0))), ((u 5), .inl (kA 4, 3, .inr (.inr (.inr (.inr (va_up (va_up (va_up (fun _ => none) 0 (some (u 44))) 1 (some (u 45))) 2 (some (u 46)))))))), ((u 44), .inr (2, [.ref (u 47), .ref (u 48), .int 0, .int 0, .int 0, .int 0])), ((u 47), .inl (kA 1, 60, .inl (fun _ => 0))), ((u 48), .inl (kA 1, 6, .inl (fun _ => 0))), ((u 45), .inr (2, [.ref (u 49), .ref (u 50), .int 0, .int 0, .int 0, .int 0])), ((u 49), .inl (kA 1, 60, .inl (fun _ => 0))), ((u 50), .inl (kA 1, 6, .inl (fun _ => 0))), ((u 46), .inr (2, [.ref (u 51), .ref (u 52), .int 0, .int 0, .int 0, .int 0])), ((u 51), .inl (kA 1, 60, .inl (fun _ => 0))), ((u 52), .inl (kA 1, 6, .inl (fun _ => 0)))] [(0, .ref h0), (1, .int 0)] 0 0 4 [.int (bBx 0)]
    refine j_top (b := 1) (by decide) ?_
    refine j_if_ne h 9 dX11_image_4 (by decide) (fun _ => ?_) (fun q => absurd q (by decide))
    refine j_aload_n h 0 rfl rfl dX11_image_9 ?_
    refine j_get h iw_X11 0 rfl rfl 5 (by decide) tw_480 rfl dX11_image_10 ?_
    refine j_iload_n h 1 rfl rfl dX11_image_13 ?_
    refine j_aldO h 4 4 rfl rfl 0 (by decide) (by decide) (by decide) (rfl) dX11_image_14 ?_
    refine j_aload_n h 0 rfl rfl dX11_image_15 ?_
    refine j_get h iw_X11 0 rfl rfl 4 (by decide) tw_479 rfl dX11_image_16 ?_
    refine j_callVv (np := 1) (isC := [5, 6, 7, 1, 2, 3]) (isR := [0, 4, 8, 9, 10, 11, 12, 13]) (wc := [((u 44), .inr (2, [.ref (u 47), .ref (u 48), .int 0, .int 0, .int 0, .int 0])), ((u 47), .inl (kA 1, 60, .inl (fun _ => 0))), ((u 48), .inl (kA 1, 6, .inl (fun _ => 0))), ((u 4), .inr (2, [.ref (u 42), .ref (u 43), .int 0, .int 0, .int 0, .int 0])), ((u 42), .inl (kA 1, 60, .inl (fun _ => 0))), ((u 43), .inl (kA 1, 6, .inl (fun _ => 0)))]) (wr := [(h0, .inr (11, [.ref (u 0), .ref (u 1), .ref (u 2), .ref (u 3), .ref (u 4), .ref (u 5), .ref (u 6), .ref (u 7), .ref (u 8), .ref (u 9), .ref (u 10), .ref (u 11), .ref (u 12), .ref (u 13), .ref (u 14), .ref (u 15), .ref (u 16), .int 0, .int 0])), ((u 5), .inl (kA 4, 3, .inr (.inr (.inr (.inr (va_up (va_up (va_up (fun _ => none) 0 (some (u 44))) 1 (some (u 45))) 2 (some (u 46)))))))), ((u 45), .inr (2, [.ref (u 49), .ref (u 50), .int 0, .int 0, .int 0, .int 0])), ((u 49), .inl (kA 1, 60, .inl (fun _ => 0))), ((u 50), .inl (kA 1, 6, .inl (fun _ => 0))), ((u 46), .inr (2, [.ref (u 51), .ref (u 52), .int 0, .int 0, .int 0, .int 0])), ((u 51), .inl (kA 1, 60, .inl (fun _ => 0))), ((u 52), .inl (kA 1, 6, .inl (fun _ => 0)))]) (rest := []) (As := [.ref (u 4)]) (q0 := 0) h (c_X2_copyFrom _ _ kA (u 44) (u 47) (u 48) (u 4) (u 42) (u 43) ) tw_1134 tw_1135 tw_1136 tw_91 tw_1137 (by decide +kernel) rfl ⟨Nat.le_of_ble_eq_true rfl, Nat.le_of_ble_eq_true rfl⟩ rfl rfl rfl (by decide) rfl rfl (by decide) (by decide) (Nat.le_of_ble_eq_true rfl) rfl ⟨Nat.le_of_ble_eq_true rfl, Nat.le_of_ble_eq_true rfl⟩ dX11_image_19 ?_
    rintro _ e276
    show J x [(h0, .inr (11, [.ref (u 0), .ref (u 1), .ref (u 2), .ref (u 3), .ref (u 4), .ref (u 5), .ref (u 6), .ref (u 7), .ref (u 8), .ref (u 9), .ref (u 10), .ref (u 11), .ref (u 12), .ref (u 13), .ref (u 14), .ref (u 15), .ref (u 16), .int 0, .int 0])), ((u 5), .inl (kA 4, 3, .inr (.inr (.inr (.inr (va_up (va_up (va_up (fun _ => none) 0 (some (u 44))) 1 (some (u 45))) 2 (some (u 46)))))))), ((u 45), .inr (2, [.ref (u 49), .ref (u 50), .int 0, .int 0, .int 0, .int 0])), ((u 49), .inl (kA 1, 60, .inl (fun _ => 0))), ((u 50), .inl (kA 1, 6, .inl (fun _ => 0))), ((u 46), .inr (2, [.ref (u 51), .ref (u 52), .int 0, .int 0, .int 0, .int 0])), ((u 51), .inl (kA 1, 60, .inl (fun _ => 0))), ((u 52), .inl (kA 1, 6, .inl (fun _ => 0))), ((u 44), .inr (2, [.ref (u 47), .ref (u 48), .int 0, .int 0, .int 0, .int 0])), ((u 4), .inr (2, [.ref (u 42), .ref (u 43), .int 0, .int 0, .int 0, .int 0]))] [(0, .ref h0), (1, .int 0)] 0 0 22 []
    refine j_aload_n h 0 rfl rfl dX11_image_22 ?_
    refine j_get h iw_X11 0 rfl rfl 5 (by decide) tw_480 rfl dX11_image_23 ?_
    refine j_iload_n h 1 rfl rfl dX11_image_26 ?_
    refine j_aldO h 1 4 rfl rfl 0 (by decide) (by decide) (by decide) (rfl) dX11_image_27 ?_
    refine j_iconst (v := 1) h (by decide) dX11_image_28 ?_
    refine j_put (ws' := [(h0, .inr (11, [.ref (u 0), .ref (u 1), .ref (u 2), .ref (u 3), .ref (u 4), .ref (u 5), .ref (u 6), .ref (u 7), .ref (u 8), .ref (u 9), .ref (u 10), .ref (u 11), .ref (u 12), .ref (u 13), .ref (u 14), .ref (u 15), .ref (u 16), .int 0, .int 0])), ((u 5), .inl (kA 4, 3, .inr (.inr (.inr (.inr (va_up (va_up (va_up (fun _ => none) 0 (some (u 44))) 1 (some (u 45))) 2 (some (u 46)))))))), ((u 45), .inr (2, [.ref (u 49), .ref (u 50), .int 0, .int 0, .int 0, .int 0])), ((u 49), .inl (kA 1, 60, .inl (fun _ => 0))), ((u 50), .inl (kA 1, 6, .inl (fun _ => 0))), ((u 46), .inr (2, [.ref (u 51), .ref (u 52), .int 0, .int 0, .int 0, .int 0])), ((u 51), .inl (kA 1, 60, .inl (fun _ => 0))), ((u 52), .inl (kA 1, 6, .inl (fun _ => 0))), ((u 44), .inr (2, [.ref (u 47), .ref (u 48), .int 0, .int 0, .int 0, .int 1])), ((u 4), .inr (2, [.ref (u 42), .ref (u 43), .int 0, .int 0, .int 0, .int 0]))]) h iw_X2 tyX2 tyX2_ok nmX2 8 rfl rfl 5 (by decide) tw_280 rfl rfl rfl (Nat.le_of_ble_eq_true rfl) dX11_image_29 rfl ?_
    refine j_aload_n h 0 rfl rfl dX11_image_32 ?_
    refine j_get h iw_X11 0 rfl rfl 4 (by decide) tw_479 rfl dX11_image_33 ?_
    refine j_get h iw_X2 9 rfl rfl 3 (by decide) tw_277 rfl dX11_image_36 ?_
    exact j_iret h hq dX11_image_39 () [] rfl rfl (by decide) (by decide) (Nat.le_of_ble_eq_true rfl) (Nat.le_of_ble_eq_true rfl)
  · refine j_iload_n h 1 rfl rfl dX11_image_0 ?_
    refine j_callSi (np := 1) (isC := []) (isR := [0, 1, 2, 3, 4, 5, 6, 7, 8, 9, 10, 11, 12, 13]) (wc := []) (wr := [(h0, .inr (11, [.ref (u 0), .ref (u 1), .ref (u 2), .ref (u 3), .ref (u 4), .ref (u 5), .ref (u 6), .ref (u 7), .ref (u 8), .ref (u 9), .ref (u 10), .ref (u 11), .ref (u 12), .ref (u 13), .ref (u 14), .ref (u 15), .ref (u 16), .int 0, .int 0])), ((u 4), .inr (2, [.ref (u 42), .ref (u 43), .int 0, .int 0, .int 0, .int 0])), ((u 42), .inl (kA 1, 60, .inl (fun _ => 0))), ((u 43), .inl (kA 1, 6, .inl (fun _ => 0))), ((u 5), .inl (kA 4, 3, .inr (.inr (.inr (.inr (va_up (va_up (va_up (fun _ => none) 0 (some (u 44))) 1 (some (u 45))) 2 (some (u 46)))))))), ((u 44), .inr (2, [.ref (u 47), .ref (u 48), .int 0, .int 0, .int 0, .int 0])), ((u 47), .inl (kA 1, 60, .inl (fun _ => 0))), ((u 48), .inl (kA 1, 6, .inl (fun _ => 0))), ((u 45), .inr (2, [.ref (u 49), .ref (u 50), .int 0, .int 0, .int 0, .int 0])), ((u 49), .inl (kA 1, 60, .inl (fun _ => 0))), ((u 50), .inl (kA 1, 6, .inl (fun _ => 0))), ((u 46), .inr (2, [.ref (u 51), .ref (u 52), .int 0, .int 0, .int 0, .int 0])), ((u 51), .inl (kA 1, 60, .inl (fun _ => 0))), ((u 52), .inl (kA 1, 6, .inl (fun _ => 0)))]) (rest := []) (As := [.int 1]) h (c_X11_isBox _ _ kA 1 ) tw_1131 tw_1132 tw_87 tw_1133 (by decide +kernel) rfl ⟨Nat.le_of_ble_eq_true rfl, Nat.le_of_ble_eq_true rfl⟩ rfl (by decide) rfl rfl (by decide) (by decide) (Nat.le_of_ble_eq_true rfl) rfl ⟨Nat.le_of_ble_eq_true rfl, Nat.le_of_ble_eq_true rfl⟩ dX11_image_1 ?_
    rintro r _ e277
    subst e277
    show J x [(h0, .inr (11, [.ref (u 0), .ref (u 1), .ref (u 2), .ref (u 3), .ref (u 4), .ref (u 5), .ref (u 6), .ref (u 7), .ref (u 8), .ref (u 9), .ref (u 10), .ref (u 11), .ref (u 12), .ref (u 13), .ref (u 14), .ref (u 15), .ref (u 16), .int 0, .int 0])), ((u 4), .inr (2, [.ref (u 42), .ref (u 43), .int 0, .int 0, .int 0, .int 0])), ((u 42), .inl (kA 1, 60, .inl (fun _ => 0))), ((u 43), .inl (kA 1, 6, .inl (fun _ => 0))), ((u 5), .inl (kA 4, 3, .inr (.inr (.inr (.inr (va_up (va_up (va_up (fun _ => none) 0 (some (u 44))) 1 (some (u 45))) 2 (some (u 46)))))))), ((u 44), .inr (2, [.ref (u 47), .ref (u 48), .int 0, .int 0, .int 0, .int 0])), ((u 47), .inl (kA 1, 60, .inl (fun _ => 0))), ((u 48), .inl (kA 1, 6, .inl (fun _ => 0))), ((u 45), .inr (2, [.ref (u 49), .ref (u 50), .int 0, .int 0, .int 0, .int 0])), ((u 49), .inl (kA 1, 60, .inl (fun _ => 0))), ((u 50), .inl (kA 1, 6, .inl (fun _ => 0))), ((u 46), .inr (2, [.ref (u 51), .ref (u 52), .int 0, .int 0, .int 0, .int 0])), ((u 51), .inl (kA 1, 60, .inl (fun _ => 0))), ((u 52), .inl (kA 1, 6, .inl (fun _ => 0)))] [(0, .ref h0), (1, .int 1)] 0 0 4 [.int (bBx 1)]
    refine j_top (b := 1) (by decide) ?_
    refine j_if_ne h 9 dX11_image_4 (by decide) (fun _ => ?_) (fun q => absurd q (by decide))
    refine j_aload_n h 0 rfl rfl dX11_image_9 ?_
    refine j_get h iw_X11 0 rfl rfl 5 (by decide) tw_480 rfl dX11_image_10 ?_
    refine j_iload_n h 1 rfl rfl dX11_image_13 ?_
    refine j_aldO h 4 4 rfl rfl 1 (by decide) (by decide) (by decide) (rfl) dX11_image_14 ?_
    refine j_aload_n h 0 rfl rfl dX11_image_15 ?_
    refine j_get h iw_X11 0 rfl rfl 4 (by decide) tw_479 rfl dX11_image_16 ?_
    refine j_callVv (np := 1) (isC := [8, 9, 10, 1, 2, 3]) (isR := [0, 4, 5, 6, 7, 11, 12, 13]) (wc := [((u 45), .inr (2, [.ref (u 49), .ref (u 50), .int 0, .int 0, .int 0, .int 0])), ((u 49), .inl (kA 1, 60, .inl (fun _ => 0))), ((u 50), .inl (kA 1, 6, .inl (fun _ => 0))), ((u 4), .inr (2, [.ref (u 42), .ref (u 43), .int 0, .int 0, .int 0, .int 0])), ((u 42), .inl (kA 1, 60, .inl (fun _ => 0))), ((u 43), .inl (kA 1, 6, .inl (fun _ => 0)))]) (wr := [(h0, .inr (11, [.ref (u 0), .ref (u 1), .ref (u 2), .ref (u 3), .ref (u 4), .ref (u 5), .ref (u 6), .ref (u 7), .ref (u 8), .ref (u 9), .ref (u 10), .ref (u 11), .ref (u 12), .ref (u 13), .ref (u 14), .ref (u 15), .ref (u 16), .int 0, .int 0])), ((u 5), .inl (kA 4, 3, .inr (.inr (.inr (.inr (va_up (va_up (va_up (fun _ => none) 0 (some (u 44))) 1 (some (u 45))) 2 (some (u 46)))))))), ((u 44), .inr (2, [.ref (u 47), .ref (u 48), .int 0, .int 0, .int 0, .int 0])), ((u 47), .inl (kA 1, 60, .inl (fun _ => 0))), ((u 48), .inl (kA 1, 6, .inl (fun _ => 0))), ((u 46), .inr (2, [.ref (u 51), .ref (u 52), .int 0, .int 0, .int 0, .int 0])), ((u 51), .inl (kA 1, 60, .inl (fun _ => 0))), ((u 52), .inl (kA 1, 6, .inl (fun _ => 0)))]) (rest := []) (As := [.ref (u 4)]) (q0 := 0) h (c_X2_copyFrom _ _ kA (u 45) (u 49) (u 50) (u 4) (u 42) (u 43) ) tw_1134 tw_1135 tw_1136 tw_91 tw_1137 (by decide +kernel) rfl ⟨Nat.le_of_ble_eq_true rfl, Nat.le_of_ble_eq_true rfl⟩ rfl rfl rfl (by decide) rfl rfl (by decide) (by decide) (Nat.le_of_ble_eq_true rfl) rfl ⟨Nat.le_of_ble_eq_true rfl, Nat.le_of_ble_eq_true rfl⟩ dX11_image_19 ?_
    rintro _ e278
    show J x [(h0, .inr (11, [.ref (u 0), .ref (u 1), .ref (u 2), .ref (u 3), .ref (u 4), .ref (u 5), .ref (u 6), .ref (u 7), .ref (u 8), .ref (u 9), .ref (u 10), .ref (u 11), .ref (u 12), .ref (u 13), .ref (u 14), .ref (u 15), .ref (u 16), .int 0, .int 0])), ((u 5), .inl (kA 4, 3, .inr (.inr (.inr (.inr (va_up (va_up (va_up (fun _ => none) 0 (some (u 44))) 1 (some (u 45))) 2 (some (u 46)))))))), ((u 44), .inr (2, [.ref (u 47), .ref (u 48), .int 0, .int 0, .int 0, .int 0])), ((u 47), .inl (kA 1, 60, .inl (fun _ => 0))), ((u 48), .inl (kA 1, 6, .inl (fun _ => 0))), ((u 46), .inr (2, [.ref (u 51), .ref (u 52), .int 0, .int 0, .int 0, .int 0])), ((u 51), .inl (kA 1, 60, .inl (fun _ => 0))), ((u 52), .inl (kA 1, 6, .inl (fun _ => 0))), ((u 45), .inr (2, [.ref (u 49), .ref (u 50), .int 0, .int 0, .int 0, .int 0])), ((u 4), .inr (2, [.ref (u 42), .ref (u 43), .int 0, .int 0, .int 0, .int 0]))] [(0, .ref h0), (1, .int 1)] 0 0 22 []
    refine j_aload_n h 0 rfl rfl dX11_image_22 ?_
    refine j_get h iw_X11 0 rfl rfl 5 (by decide) tw_480 rfl dX11_image_23 ?_
    refine j_iload_n h 1 rfl rfl dX11_image_26 ?_
    refine j_aldO h 1 4 rfl rfl 1 (by decide) (by decide) (by decide) (rfl) dX11_image_27 ?_
    refine j_iconst (v := 1) h (by decide) dX11_image_28 ?_
    refine j_put (ws' := [(h0, .inr (11, [.ref (u 0), .ref (u 1), .ref (u 2), .ref (u 3), .ref (u 4), .ref (u 5), .ref (u 6), .ref (u 7), .ref (u 8), .ref (u 9), .ref (u 10), .ref (u 11), .ref (u 12), .ref (u 13), .ref (u 14), .ref (u 15), .ref (u 16), .int 0, .int 0])), ((u 5), .inl (kA 4, 3, .inr (.inr (.inr (.inr (va_up (va_up (va_up (fun _ => none) 0 (some (u 44))) 1 (some (u 45))) 2 (some (u 46)))))))), ((u 44), .inr (2, [.ref (u 47), .ref (u 48), .int 0, .int 0, .int 0, .int 0])), ((u 47), .inl (kA 1, 60, .inl (fun _ => 0))), ((u 48), .inl (kA 1, 6, .inl (fun _ => 0))), ((u 46), .inr (2, [.ref (u 51), .ref (u 52), .int 0, .int 0, .int 0, .int 0])), ((u 51), .inl (kA 1, 60, .inl (fun _ => 0))), ((u 52), .inl (kA 1, 6, .inl (fun _ => 0))), ((u 45), .inr (2, [.ref (u 49), .ref (u 50), .int 0, .int 0, .int 0, .int 1])), ((u 4), .inr (2, [.ref (u 42), .ref (u 43), .int 0, .int 0, .int 0, .int 0]))]) h iw_X2 tyX2 tyX2_ok nmX2 8 rfl rfl 5 (by decide) tw_280 rfl rfl rfl (Nat.le_of_ble_eq_true rfl) dX11_image_29 rfl ?_
    refine j_aload_n h 0 rfl rfl dX11_image_32 ?_
    refine j_get h iw_X11 0 rfl rfl 4 (by decide) tw_479 rfl dX11_image_33 ?_
    refine j_get h iw_X2 9 rfl rfl 3 (by decide) tw_277 rfl dX11_image_36 ?_
    exact j_iret h hq dX11_image_39 () [] rfl rfl (by decide) (by decide) (Nat.le_of_ble_eq_true rfl) (Nat.le_of_ble_eq_true rfl)
  · refine j_iload_n h 1 rfl rfl dX11_image_0 ?_
    refine j_callSi (np := 1) (isC := []) (isR := [0, 1, 2, 3, 4, 5, 6, 7, 8, 9, 10, 11, 12, 13]) (wc := []) (wr := [(h0, .inr (11, [.ref (u 0), .ref (u 1), .ref (u 2), .ref (u 3), .ref (u 4), .ref (u 5), .ref (u 6), .ref (u 7), .ref (u 8), .ref (u 9), .ref (u 10), .ref (u 11), .ref (u 12), .ref (u 13), .ref (u 14), .ref (u 15), .ref (u 16), .int 0, .int 0])), ((u 4), .inr (2, [.ref (u 42), .ref (u 43), .int 0, .int 0, .int 0, .int 0])), ((u 42), .inl (kA 1, 60, .inl (fun _ => 0))), ((u 43), .inl (kA 1, 6, .inl (fun _ => 0))), ((u 5), .inl (kA 4, 3, .inr (.inr (.inr (.inr (va_up (va_up (va_up (fun _ => none) 0 (some (u 44))) 1 (some (u 45))) 2 (some (u 46)))))))), ((u 44), .inr (2, [.ref (u 47), .ref (u 48), .int 0, .int 0, .int 0, .int 0])), ((u 47), .inl (kA 1, 60, .inl (fun _ => 0))), ((u 48), .inl (kA 1, 6, .inl (fun _ => 0))), ((u 45), .inr (2, [.ref (u 49), .ref (u 50), .int 0, .int 0, .int 0, .int 0])), ((u 49), .inl (kA 1, 60, .inl (fun _ => 0))), ((u 50), .inl (kA 1, 6, .inl (fun _ => 0))), ((u 46), .inr (2, [.ref (u 51), .ref (u 52), .int 0, .int 0, .int 0, .int 0])), ((u 51), .inl (kA 1, 60, .inl (fun _ => 0))), ((u 52), .inl (kA 1, 6, .inl (fun _ => 0)))]) (rest := []) (As := [.int 2]) h (c_X11_isBox _ _ kA 2 ) tw_1131 tw_1132 tw_87 tw_1133 (by decide +kernel) rfl ⟨Nat.le_of_ble_eq_true rfl, Nat.le_of_ble_eq_true rfl⟩ rfl (by decide) rfl rfl (by decide) (by decide) (Nat.le_of_ble_eq_true rfl) rfl ⟨Nat.le_of_ble_eq_true rfl, Nat.le_of_ble_eq_true rfl⟩ dX11_image_1 ?_
    rintro r _ e279
    subst e279
    show J x [(h0, .inr (11, [.ref (u 0), .ref (u 1), .ref (u 2), .ref (u 3), .ref (u 4), .ref (u 5), .ref (u 6), .ref (u 7), .ref (u 8), .ref (u 9), .ref (u 10), .ref (u 11), .ref (u 12), .ref (u 13), .ref (u 14), .ref (u 15), .ref (u 16), .int 0, .int 0])), ((u 4), .inr (2, [.ref (u 42), .ref (u 43), .int 0, .int 0, .int 0, .int 0])), ((u 42), .inl (kA 1, 60, .inl (fun _ => 0))), ((u 43), .inl (kA 1, 6, .inl (fun _ => 0))), ((u 5), .inl (kA 4, 3, .inr (.inr (.inr (.inr (va_up (va_up (va_up (fun _ => none) 0 (some (u 44))) 1 (some (u 45))) 2 (some (u 46)))))))), ((u 44), .inr (2, [.ref (u 47), .ref (u 48), .int 0, .int 0, .int 0, .int 0])), ((u 47), .inl (kA 1, 60, .inl (fun _ => 0))), ((u 48), .inl (kA 1, 6, .inl (fun _ => 0))), ((u 45), .inr (2, [.ref (u 49), .ref (u 50), .int 0, .int 0, .int 0, .int 0])), ((u 49), .inl (kA 1, 60, .inl (fun _ => 0))), ((u 50), .inl (kA 1, 6, .inl (fun _ => 0))), ((u 46), .inr (2, [.ref (u 51), .ref (u 52), .int 0, .int 0, .int 0, .int 0])), ((u 51), .inl (kA 1, 60, .inl (fun _ => 0))), ((u 52), .inl (kA 1, 6, .inl (fun _ => 0)))] [(0, .ref h0), (1, .int 2)] 0 0 4 [.int (bBx 2)]
    refine j_top (b := 1) (by decide) ?_
    refine j_if_ne h 9 dX11_image_4 (by decide) (fun _ => ?_) (fun q => absurd q (by decide))
    refine j_aload_n h 0 rfl rfl dX11_image_9 ?_
    refine j_get h iw_X11 0 rfl rfl 5 (by decide) tw_480 rfl dX11_image_10 ?_
    refine j_iload_n h 1 rfl rfl dX11_image_13 ?_
    refine j_aldO h 4 4 rfl rfl 2 (by decide) (by decide) (by decide) (rfl) dX11_image_14 ?_
    refine j_aload_n h 0 rfl rfl dX11_image_15 ?_
    refine j_get h iw_X11 0 rfl rfl 4 (by decide) tw_479 rfl dX11_image_16 ?_
    refine j_callVv (np := 1) (isC := [11, 12, 13, 1, 2, 3]) (isR := [0, 4, 5, 6, 7, 8, 9, 10]) (wc := [((u 46), .inr (2, [.ref (u 51), .ref (u 52), .int 0, .int 0, .int 0, .int 0])), ((u 51), .inl (kA 1, 60, .inl (fun _ => 0))), ((u 52), .inl (kA 1, 6, .inl (fun _ => 0))), ((u 4), .inr (2, [.ref (u 42), .ref (u 43), .int 0, .int 0, .int 0, .int 0])), ((u 42), .inl (kA 1, 60, .inl (fun _ => 0))), ((u 43), .inl (kA 1, 6, .inl (fun _ => 0)))]) (wr := [(h0, .inr (11, [.ref (u 0), .ref (u 1), .ref (u 2), .ref (u 3), .ref (u 4), .ref (u 5), .ref (u 6), .ref (u 7), .ref (u 8), .ref (u 9), .ref (u 10), .ref (u 11), .ref (u 12), .ref (u 13), .ref (u 14), .ref (u 15), .ref (u 16), .int 0, .int 0])), ((u 5), .inl (kA 4, 3, .inr (.inr (.inr (.inr (va_up (va_up (va_up (fun _ => none) 0 (some (u 44))) 1 (some (u 45))) 2 (some (u 46)))))))), ((u 44), .inr (2, [.ref (u 47), .ref (u 48), .int 0, .int 0, .int 0, .int 0])), ((u 47), .inl (kA 1, 60, .inl (fun _ => 0))), ((u 48), .inl (kA 1, 6, .inl (fun _ => 0))), ((u 45), .inr (2, [.ref (u 49), .ref (u 50), .int 0, .int 0, .int 0, .int 0])), ((u 49), .inl (kA 1, 60, .inl (fun _ => 0))), ((u 50), .inl (kA 1, 6, .inl (fun _ => 0)))]) (rest := []) (As := [.ref (u 4)]) (q0 := 0) h (c_X2_copyFrom _ _ kA (u 46) (u 51) (u 52) (u 4) (u 42) (u 43) ) tw_1134 tw_1135 tw_1136 tw_91 tw_1137 (by decide +kernel) rfl ⟨Nat.le_of_ble_eq_true rfl, Nat.le_of_ble_eq_true rfl⟩ rfl rfl rfl (by decide) rfl rfl (by decide) (by decide) (Nat.le_of_ble_eq_true rfl) rfl ⟨Nat.le_of_ble_eq_true rfl, Nat.le_of_ble_eq_true rfl⟩ dX11_image_19 ?_
    rintro _ e280
    show J x [(h0, .inr (11, [.ref (u 0), .ref (u 1), .ref (u 2), .ref (u 3), .ref (u 4), .ref (u 5), .ref (u 6), .ref (u 7), .ref (u 8), .ref (u 9), .ref (u 10), .ref (u 11), .ref (u 12), .ref (u 13), .ref (u 14), .ref (u 15), .ref (u 16), .int 0, .int 0])), ((u 5), .inl (kA 4, 3, .inr (.inr (.inr (.inr (va_up (va_up (va_up (fun _ => none) 0 (some (u 44))) 1 (some (u 45))) 2 (some (u 46)))))))), ((u 44), .inr (2, [.ref (u 47), .ref (u 48), .int 0, .int 0, .int 0, .int 0])), ((u 47), .inl (kA 1, 60, .inl (fun _ => 0))), ((u 48), .inl (kA 1, 6, .inl (fun _ => 0))), ((u 45), .inr (2, [.ref (u 49), .ref (u 50), .int 0, .int 0, .int 0, .int 0])), ((u 49), .inl (kA 1, 60, .inl (fun _ => 0))), ((u 50), .inl (kA 1, 6, .inl (fun _ => 0))), ((u 46), .inr (2, [.ref (u 51), .ref (u 52), .int 0, .int 0, .int 0, .int 0])), ((u 4), .inr (2, [.ref (u 42), .ref (u 43), .int 0, .int 0, .int 0, .int 0]))] [(0, .ref h0), (1, .int 2)] 0 0 22 []
    refine j_aload_n h 0 rfl rfl dX11_image_22 ?_
    refine j_get h iw_X11 0 rfl rfl 5 (by decide) tw_480 rfl dX11_image_23 ?_
    refine j_iload_n h 1 rfl rfl dX11_image_26 ?_
    refine j_aldO h 1 4 rfl rfl 2 (by decide) (by decide) (by decide) (rfl) dX11_image_27 ?_
    refine j_iconst (v := 1) h (by decide) dX11_image_28 ?_
    refine j_put (ws' := [(h0, .inr (11, [.ref (u 0), .ref (u 1), .ref (u 2), .ref (u 3), .ref (u 4), .ref (u 5), .ref (u 6), .ref (u 7), .ref (u 8), .ref (u 9), .ref (u 10), .ref (u 11), .ref (u 12), .ref (u 13), .ref (u 14), .ref (u 15), .ref (u 16), .int 0, .int 0])), ((u 5), .inl (kA 4, 3, .inr (.inr (.inr (.inr (va_up (va_up (va_up (fun _ => none) 0 (some (u 44))) 1 (some (u 45))) 2 (some (u 46)))))))), ((u 44), .inr (2, [.ref (u 47), .ref (u 48), .int 0, .int 0, .int 0, .int 0])), ((u 47), .inl (kA 1, 60, .inl (fun _ => 0))), ((u 48), .inl (kA 1, 6, .inl (fun _ => 0))), ((u 45), .inr (2, [.ref (u 49), .ref (u 50), .int 0, .int 0, .int 0, .int 0])), ((u 49), .inl (kA 1, 60, .inl (fun _ => 0))), ((u 50), .inl (kA 1, 6, .inl (fun _ => 0))), ((u 46), .inr (2, [.ref (u 51), .ref (u 52), .int 0, .int 0, .int 0, .int 1])), ((u 4), .inr (2, [.ref (u 42), .ref (u 43), .int 0, .int 0, .int 0, .int 0]))]) h iw_X2 tyX2 tyX2_ok nmX2 8 rfl rfl 5 (by decide) tw_280 rfl rfl rfl (Nat.le_of_ble_eq_true rfl) dX11_image_29 rfl ?_
    refine j_aload_n h 0 rfl rfl dX11_image_32 ?_
    refine j_get h iw_X11 0 rfl rfl 4 (by decide) tw_479 rfl dX11_image_33 ?_
    refine j_get h iw_X2 9 rfl rfl 3 (by decide) tw_277 rfl dX11_image_36 ?_
    exact j_iret h hq dX11_image_39 () [] rfl rfl (by decide) (by decide) (Nat.le_of_ble_eq_true rfl) (Nat.le_of_ble_eq_true rfl)
  · refine j_iload_n h 1 rfl rfl dX11_image_0 ?_
    refine j_callSi (np := 1) (isC := []) (isR := [0, 1, 2, 3, 4, 5, 6, 7, 8, 9, 10, 11, 12, 13]) (wc := []) (wr := [(h0, .inr (11, [.ref (u 0), .ref (u 1), .ref (u 2), .ref (u 3), .ref (u 4), .ref (u 5), .ref (u 6), .ref (u 7), .ref (u 8), .ref (u 9), .ref (u 10), .ref (u 11), .ref (u 12), .ref (u 13), .ref (u 14), .ref (u 15), .ref (u 16), .int 0, .int 0])), ((u 4), .inr (2, [.ref (u 42), .ref (u 43), .int 0, .int 0, .int 0, .int 0])), ((u 42), .inl (kA 1, 60, .inl (fun _ => 0))), ((u 43), .inl (kA 1, 6, .inl (fun _ => 0))), ((u 5), .inl (kA 4, 3, .inr (.inr (.inr (.inr (va_up (va_up (va_up (fun _ => none) 0 (some (u 44))) 1 (some (u 45))) 2 (some (u 46)))))))), ((u 44), .inr (2, [.ref (u 47), .ref (u 48), .int 0, .int 0, .int 0, .int 0])), ((u 47), .inl (kA 1, 60, .inl (fun _ => 0))), ((u 48), .inl (kA 1, 6, .inl (fun _ => 0))), ((u 45), .inr (2, [.ref (u 49), .ref (u 50), .int 0, .int 0, .int 0, .int 0])), ((u 49), .inl (kA 1, 60, .inl (fun _ => 0))), ((u 50), .inl (kA 1, 6, .inl (fun _ => 0))), ((u 46), .inr (2, [.ref (u 51), .ref (u 52), .int 0, .int 0, .int 0, .int 0])), ((u 51), .inl (kA 1, 60, .inl (fun _ => 0))), ((u 52), .inl (kA 1, 6, .inl (fun _ => 0)))]) (rest := []) (As := [.int t]) h (c_X11_isBox _ _ kA t ) tw_1131 tw_1132 tw_87 tw_1133 (by decide +kernel) rfl ⟨Nat.le_of_ble_eq_true rfl, Nat.le_of_ble_eq_true rfl⟩ rfl (by decide) rfl rfl (by decide) (by decide) (Nat.le_of_ble_eq_true rfl) rfl ⟨Nat.le_of_ble_eq_true rfl, Nat.le_of_ble_eq_true rfl⟩ dX11_image_1 ?_
    rintro r _ e281
    subst e281
    show J x [(h0, .inr (11, [.ref (u 0), .ref (u 1), .ref (u 2), .ref (u 3), .ref (u 4), .ref (u 5), .ref (u 6), .ref (u 7), .ref (u 8), .ref (u 9), .ref (u 10), .ref (u 11), .ref (u 12), .ref (u 13), .ref (u 14), .ref (u 15), .ref (u 16), .int 0, .int 0])), ((u 4), .inr (2, [.ref (u 42), .ref (u 43), .int 0, .int 0, .int 0, .int 0])), ((u 42), .inl (kA 1, 60, .inl (fun _ => 0))), ((u 43), .inl (kA 1, 6, .inl (fun _ => 0))), ((u 5), .inl (kA 4, 3, .inr (.inr (.inr (.inr (va_up (va_up (va_up (fun _ => none) 0 (some (u 44))) 1 (some (u 45))) 2 (some (u 46)))))))), ((u 44), .inr (2, [.ref (u 47), .ref (u 48), .int 0, .int 0, .int 0, .int 0])), ((u 47), .inl (kA 1, 60, .inl (fun _ => 0))), ((u 48), .inl (kA 1, 6, .inl (fun _ => 0))), ((u 45), .inr (2, [.ref (u 49), .ref (u 50), .int 0, .int 0, .int 0, .int 0])), ((u 49), .inl (kA 1, 60, .inl (fun _ => 0))), ((u 50), .inl (kA 1, 6, .inl (fun _ => 0))), ((u 46), .inr (2, [.ref (u 51), .ref (u 52), .int 0, .int 0, .int 0, .int 0])), ((u 51), .inl (kA 1, 60, .inl (fun _ => 0))), ((u 52), .inl (kA 1, 6, .inl (fun _ => 0)))] [(0, .ref h0), (1, .int t)] 0 0 4 [.int (bBx t)]
    refine j_top (b := 0) (hT) ?_
    refine j_if_ne h 9 dX11_image_4 (by decide) (fun q => absurd (by decide) q) (fun _ => ?_)
    refine j_iconst (v := (-1)) h (by decide) dX11_image_7 ?_
    exact j_iret h hq dX11_image_8 () [] rfl rfl (by decide) (by unfold vBox; simp only [hT, ↓reduceIte]) (Nat.le_of_ble_eq_true rfl) (Nat.le_of_ble_eq_true rfl)
set_option maxHeartbeats 4000000 in
set_option maxRecDepth 100000 in
theorem c_X11_back (l : Launch) (g : va_G) (kA : Nat → ClassId) (h0 : Nat) (u : Nat → Nat) (t : Int32)  : CtI l yX11_back cX11_back 2 (some .int) 3 0 0 g kA [.ref h0, .int t] [(h0, .inr (11, [.ref (u 0), .ref (u 1), .ref (u 2), .ref (u 3), .ref (u 4), .ref (u 5), .ref (u 6), .ref (u 7), .ref (u 8), .ref (u 9), .ref (u 10), .ref (u 11), .ref (u 12), .ref (u 13), .ref (u 14), .ref (u 15), .ref (u 16), .int 0, .int 0])), ((u 5), .inl (kA 4, 3, .inr (.inr (.inr (.inr (va_up (va_up (va_up (fun _ => none) 0 (some (u 44))) 1 (some (u 45))) 2 (some (u 46)))))))), ((u 44), .inr (2, [.ref (u 47), .ref (u 48), .int 0, .int 0, .int 0, .int 0])), ((u 45), .inr (2, [.ref (u 49), .ref (u 50), .int 0, .int 0, .int 0, .int 0])), ((u 46), .inr (2, [.ref (u 51), .ref (u 52), .int 0, .int 0, .int 0, .int 0]))] (S := Unit) (fun (r : Int32) (_ : Unit) => r = (-1)) (fun (_ : Unit) => []) := by
  refine nx_startI (by decide +kernel) (Nat.le_of_ble_eq_true rfl) ?_
  intro x hnm h hq
  have h : Ok x cX11_back RX11 kA (rmC 3 0 0) 2 := h
  show J x [(h0, .inr (11, [.ref (u 0), .ref (u 1), .ref (u 2), .ref (u 3), .ref (u 4), .ref (u 5), .ref (u 6), .ref (u 7), .ref (u 8), .ref (u 9), .ref (u 10), .ref (u 11), .ref (u 12), .ref (u 13), .ref (u 14), .ref (u 15), .ref (u 16), .int 0, .int 0])), ((u 5), .inl (kA 4, 3, .inr (.inr (.inr (.inr (va_up (va_up (va_up (fun _ => none) 0 (some (u 44))) 1 (some (u 45))) 2 (some (u 46)))))))), ((u 44), .inr (2, [.ref (u 47), .ref (u 48), .int 0, .int 0, .int 0, .int 0])), ((u 45), .inr (2, [.ref (u 49), .ref (u 50), .int 0, .int 0, .int 0, .int 0])), ((u 46), .inr (2, [.ref (u 51), .ref (u 52), .int 0, .int 0, .int 0, .int 0]))] [(0, .ref h0), (1, .int t)] 0 0 0 []
  rcases bBx_cases t with rfl | rfl | rfl | hT
  · refine j_iload_n h 1 rfl rfl dX11_back_0 ?_
    refine j_callSi (np := 1) (isC := []) (isR := [0, 1, 2, 3, 4]) (wc := []) (wr := [(h0, .inr (11, [.ref (u 0), .ref (u 1), .ref (u 2), .ref (u 3), .ref (u 4), .ref (u 5), .ref (u 6), .ref (u 7), .ref (u 8), .ref (u 9), .ref (u 10), .ref (u 11), .ref (u 12), .ref (u 13), .ref (u 14), .ref (u 15), .ref (u 16), .int 0, .int 0])), ((u 5), .inl (kA 4, 3, .inr (.inr (.inr (.inr (va_up (va_up (va_up (fun _ => none) 0 (some (u 44))) 1 (some (u 45))) 2 (some (u 46)))))))), ((u 44), .inr (2, [.ref (u 47), .ref (u 48), .int 0, .int 0, .int 0, .int 0])), ((u 45), .inr (2, [.ref (u 49), .ref (u 50), .int 0, .int 0, .int 0, .int 0])), ((u 46), .inr (2, [.ref (u 51), .ref (u 52), .int 0, .int 0, .int 0, .int 0]))]) (rest := []) (As := [.int 0]) h (c_X11_isBox _ _ kA 0 ) tw_1131 tw_1132 tw_87 tw_1133 (by decide +kernel) rfl ⟨Nat.le_of_ble_eq_true rfl, Nat.le_of_ble_eq_true rfl⟩ rfl (by decide) rfl rfl (by decide) (by decide) (Nat.le_of_ble_eq_true rfl) rfl ⟨Nat.le_of_ble_eq_true rfl, Nat.le_of_ble_eq_true rfl⟩ dX11_back_1 ?_
    rintro r _ e282
    subst e282
    show J x [(h0, .inr (11, [.ref (u 0), .ref (u 1), .ref (u 2), .ref (u 3), .ref (u 4), .ref (u 5), .ref (u 6), .ref (u 7), .ref (u 8), .ref (u 9), .ref (u 10), .ref (u 11), .ref (u 12), .ref (u 13), .ref (u 14), .ref (u 15), .ref (u 16), .int 0, .int 0])), ((u 5), .inl (kA 4, 3, .inr (.inr (.inr (.inr (va_up (va_up (va_up (fun _ => none) 0 (some (u 44))) 1 (some (u 45))) 2 (some (u 46)))))))), ((u 44), .inr (2, [.ref (u 47), .ref (u 48), .int 0, .int 0, .int 0, .int 0])), ((u 45), .inr (2, [.ref (u 49), .ref (u 50), .int 0, .int 0, .int 0, .int 0])), ((u 46), .inr (2, [.ref (u 51), .ref (u 52), .int 0, .int 0, .int 0, .int 0]))] [(0, .ref h0), (1, .int 0)] 0 0 4 [.int (bBx 0)]
    refine j_top (b := 1) (by decide) ?_
    refine j_if_eq h 19 dX11_back_4 (by decide) (fun q => absurd q (by decide)) (fun _ => ?_)
    refine j_aload_n h 0 rfl rfl dX11_back_7 ?_
    refine j_get h iw_X11 0 rfl rfl 5 (by decide) tw_480 rfl dX11_back_8 ?_
    refine j_iload_n h 1 rfl rfl dX11_back_11 ?_
    refine j_aldO h 1 4 rfl rfl 0 (by decide) (by decide) (by decide) (rfl) dX11_back_12 ?_
    refine j_get h iw_X2 2 rfl rfl 5 (by decide) tw_280 rfl dX11_back_13 ?_
    refine j_if_ne h 21 dX11_back_16 (by decide) (fun q => absurd (by decide) q) (fun _ => ?_)
    refine j_iconst (v := (-1)) h (by decide) dX11_back_19 ?_
    exact j_iret h hq dX11_back_20 () [] rfl rfl (by decide) rfl (Nat.le_of_ble_eq_true rfl) (Nat.le_of_ble_eq_true rfl)
  · refine j_iload_n h 1 rfl rfl dX11_back_0 ?_
    refine j_callSi (np := 1) (isC := []) (isR := [0, 1, 2, 3, 4]) (wc := []) (wr := [(h0, .inr (11, [.ref (u 0), .ref (u 1), .ref (u 2), .ref (u 3), .ref (u 4), .ref (u 5), .ref (u 6), .ref (u 7), .ref (u 8), .ref (u 9), .ref (u 10), .ref (u 11), .ref (u 12), .ref (u 13), .ref (u 14), .ref (u 15), .ref (u 16), .int 0, .int 0])), ((u 5), .inl (kA 4, 3, .inr (.inr (.inr (.inr (va_up (va_up (va_up (fun _ => none) 0 (some (u 44))) 1 (some (u 45))) 2 (some (u 46)))))))), ((u 44), .inr (2, [.ref (u 47), .ref (u 48), .int 0, .int 0, .int 0, .int 0])), ((u 45), .inr (2, [.ref (u 49), .ref (u 50), .int 0, .int 0, .int 0, .int 0])), ((u 46), .inr (2, [.ref (u 51), .ref (u 52), .int 0, .int 0, .int 0, .int 0]))]) (rest := []) (As := [.int 1]) h (c_X11_isBox _ _ kA 1 ) tw_1131 tw_1132 tw_87 tw_1133 (by decide +kernel) rfl ⟨Nat.le_of_ble_eq_true rfl, Nat.le_of_ble_eq_true rfl⟩ rfl (by decide) rfl rfl (by decide) (by decide) (Nat.le_of_ble_eq_true rfl) rfl ⟨Nat.le_of_ble_eq_true rfl, Nat.le_of_ble_eq_true rfl⟩ dX11_back_1 ?_
    rintro r _ e283
    subst e283
    show J x [(h0, .inr (11, [.ref (u 0), .ref (u 1), .ref (u 2), .ref (u 3), .ref (u 4), .ref (u 5), .ref (u 6), .ref (u 7), .ref (u 8), .ref (u 9), .ref (u 10), .ref (u 11), .ref (u 12), .ref (u 13), .ref (u 14), .ref (u 15), .ref (u 16), .int 0, .int 0])), ((u 5), .inl (kA 4, 3, .inr (.inr (.inr (.inr (va_up (va_up (va_up (fun _ => none) 0 (some (u 44))) 1 (some (u 45))) 2 (some (u 46)))))))), ((u 44), .inr (2, [.ref (u 47), .ref (u 48), .int 0, .int 0, .int 0, .int 0])), ((u 45), .inr (2, [.ref (u 49), .ref (u 50), .int 0, .int 0, .int 0, .int 0])), ((u 46), .inr (2, [.ref (u 51), .ref (u 52), .int 0, .int 0, .int 0, .int 0]))] [(0, .ref h0), (1, .int 1)] 0 0 4 [.int (bBx 1)]
    refine j_top (b := 1) (by decide) ?_
    refine j_if_eq h 19 dX11_back_4 (by decide) (fun q => absurd q (by decide)) (fun _ => ?_)
    refine j_aload_n h 0 rfl rfl dX11_back_7 ?_
    refine j_get h iw_X11 0 rfl rfl 5 (by decide) tw_480 rfl dX11_back_8 ?_
    refine j_iload_n h 1 rfl rfl dX11_back_11 ?_
    refine j_aldO h 1 4 rfl rfl 1 (by decide) (by decide) (by decide) (rfl) dX11_back_12 ?_
    refine j_get h iw_X2 3 rfl rfl 5 (by decide) tw_280 rfl dX11_back_13 ?_
    refine j_if_ne h 21 dX11_back_16 (by decide) (fun q => absurd (by decide) q) (fun _ => ?_)
    refine j_iconst (v := (-1)) h (by decide) dX11_back_19 ?_
    exact j_iret h hq dX11_back_20 () [] rfl rfl (by decide) rfl (Nat.le_of_ble_eq_true rfl) (Nat.le_of_ble_eq_true rfl)
  · refine j_iload_n h 1 rfl rfl dX11_back_0 ?_
    refine j_callSi (np := 1) (isC := []) (isR := [0, 1, 2, 3, 4]) (wc := []) (wr := [(h0, .inr (11, [.ref (u 0), .ref (u 1), .ref (u 2), .ref (u 3), .ref (u 4), .ref (u 5), .ref (u 6), .ref (u 7), .ref (u 8), .ref (u 9), .ref (u 10), .ref (u 11), .ref (u 12), .ref (u 13), .ref (u 14), .ref (u 15), .ref (u 16), .int 0, .int 0])), ((u 5), .inl (kA 4, 3, .inr (.inr (.inr (.inr (va_up (va_up (va_up (fun _ => none) 0 (some (u 44))) 1 (some (u 45))) 2 (some (u 46)))))))), ((u 44), .inr (2, [.ref (u 47), .ref (u 48), .int 0, .int 0, .int 0, .int 0])), ((u 45), .inr (2, [.ref (u 49), .ref (u 50), .int 0, .int 0, .int 0, .int 0])), ((u 46), .inr (2, [.ref (u 51), .ref (u 52), .int 0, .int 0, .int 0, .int 0]))]) (rest := []) (As := [.int 2]) h (c_X11_isBox _ _ kA 2 ) tw_1131 tw_1132 tw_87 tw_1133 (by decide +kernel) rfl ⟨Nat.le_of_ble_eq_true rfl, Nat.le_of_ble_eq_true rfl⟩ rfl (by decide) rfl rfl (by decide) (by decide) (Nat.le_of_ble_eq_true rfl) rfl ⟨Nat.le_of_ble_eq_true rfl, Nat.le_of_ble_eq_true rfl⟩ dX11_back_1 ?_
    rintro r _ e284
    subst e284
    show J x [(h0, .inr (11, [.ref (u 0), .ref (u 1), .ref (u 2), .ref (u 3), .ref (u 4), .ref (u 5), .ref (u 6), .ref (u 7), .ref (u 8), .ref (u 9), .ref (u 10), .ref (u 11), .ref (u 12), .ref (u 13), .ref (u 14), .ref (u 15), .ref (u 16), .int 0, .int 0])), ((u 5), .inl (kA 4, 3, .inr (.inr (.inr (.inr (va_up (va_up (va_up (fun _ => none) 0 (some (u 44))) 1 (some (u 45))) 2 (some (u 46)))))))), ((u 44), .inr (2, [.ref (u 47), .ref (u 48), .int 0, .int 0, .int 0, .int 0])), ((u 45), .inr (2, [.ref (u 49), .ref (u 50), .int 0, .int 0, .int 0, .int 0])), ((u 46), .inr (2, [.ref (u 51), .ref (u 52), .int 0, .int 0, .int 0, .int 0]))] [(0, .ref h0), (1, .int 2)] 0 0 4 [.int (bBx 2)]
    refine j_top (b := 1) (by decide) ?_
    refine j_if_eq h 19 dX11_back_4 (by decide) (fun q => absurd q (by decide)) (fun _ => ?_)
    refine j_aload_n h 0 rfl rfl dX11_back_7 ?_
    refine j_get h iw_X11 0 rfl rfl 5 (by decide) tw_480 rfl dX11_back_8 ?_
    refine j_iload_n h 1 rfl rfl dX11_back_11 ?_
    refine j_aldO h 1 4 rfl rfl 2 (by decide) (by decide) (by decide) (rfl) dX11_back_12 ?_
    refine j_get h iw_X2 4 rfl rfl 5 (by decide) tw_280 rfl dX11_back_13 ?_
    refine j_if_ne h 21 dX11_back_16 (by decide) (fun q => absurd (by decide) q) (fun _ => ?_)
    refine j_iconst (v := (-1)) h (by decide) dX11_back_19 ?_
    exact j_iret h hq dX11_back_20 () [] rfl rfl (by decide) rfl (Nat.le_of_ble_eq_true rfl) (Nat.le_of_ble_eq_true rfl)
  · refine j_iload_n h 1 rfl rfl dX11_back_0 ?_
    refine j_callSi (np := 1) (isC := []) (isR := [0, 1, 2, 3, 4]) (wc := []) (wr := [(h0, .inr (11, [.ref (u 0), .ref (u 1), .ref (u 2), .ref (u 3), .ref (u 4), .ref (u 5), .ref (u 6), .ref (u 7), .ref (u 8), .ref (u 9), .ref (u 10), .ref (u 11), .ref (u 12), .ref (u 13), .ref (u 14), .ref (u 15), .ref (u 16), .int 0, .int 0])), ((u 5), .inl (kA 4, 3, .inr (.inr (.inr (.inr (va_up (va_up (va_up (fun _ => none) 0 (some (u 44))) 1 (some (u 45))) 2 (some (u 46)))))))), ((u 44), .inr (2, [.ref (u 47), .ref (u 48), .int 0, .int 0, .int 0, .int 0])), ((u 45), .inr (2, [.ref (u 49), .ref (u 50), .int 0, .int 0, .int 0, .int 0])), ((u 46), .inr (2, [.ref (u 51), .ref (u 52), .int 0, .int 0, .int 0, .int 0]))]) (rest := []) (As := [.int t]) h (c_X11_isBox _ _ kA t ) tw_1131 tw_1132 tw_87 tw_1133 (by decide +kernel) rfl ⟨Nat.le_of_ble_eq_true rfl, Nat.le_of_ble_eq_true rfl⟩ rfl (by decide) rfl rfl (by decide) (by decide) (Nat.le_of_ble_eq_true rfl) rfl ⟨Nat.le_of_ble_eq_true rfl, Nat.le_of_ble_eq_true rfl⟩ dX11_back_1 ?_
    rintro r _ e285
    subst e285
    show J x [(h0, .inr (11, [.ref (u 0), .ref (u 1), .ref (u 2), .ref (u 3), .ref (u 4), .ref (u 5), .ref (u 6), .ref (u 7), .ref (u 8), .ref (u 9), .ref (u 10), .ref (u 11), .ref (u 12), .ref (u 13), .ref (u 14), .ref (u 15), .ref (u 16), .int 0, .int 0])), ((u 5), .inl (kA 4, 3, .inr (.inr (.inr (.inr (va_up (va_up (va_up (fun _ => none) 0 (some (u 44))) 1 (some (u 45))) 2 (some (u 46)))))))), ((u 44), .inr (2, [.ref (u 47), .ref (u 48), .int 0, .int 0, .int 0, .int 0])), ((u 45), .inr (2, [.ref (u 49), .ref (u 50), .int 0, .int 0, .int 0, .int 0])), ((u 46), .inr (2, [.ref (u 51), .ref (u 52), .int 0, .int 0, .int 0, .int 0]))] [(0, .ref h0), (1, .int t)] 0 0 4 [.int (bBx t)]
    refine j_top (b := 0) (hT) ?_
    refine j_if_eq h 19 dX11_back_4 (by decide) (fun _ => ?_) (fun q => absurd (by decide) q)
    refine j_iconst (v := (-1)) h (by decide) dX11_back_19 ?_
    exact j_iret h hq dX11_back_20 () [] rfl rfl (by decide) rfl (Nat.le_of_ble_eq_true rfl) (Nat.le_of_ble_eq_true rfl)
set_option maxHeartbeats 4000000 in
set_option maxRecDepth 100000 in
theorem c_X9_byteAt (l : Launch) (g : va_G) (kA : Nat → ClassId) (h0 : Nat) (a0 : Nat)  : CtI l yX9_byteAt cX9_byteAt 2 (some .int) 1 0 0 g kA [.ref h0, .int 0] [(h0, .inr (9, [.ref a0, .int 0, .int 0, .int 0, .int 0, .long 0, .int 0]))] (S := Unit) (fun (r : Int32) (_ : Unit) => r = 0) (fun (_ : Unit) => [(h0, .inr (9, [.ref a0, .int 0, .int 0, .int 0, .int 0, .long 0, .int 0]))]) := by
  refine nx_startI (by decide +kernel) (Nat.le_of_ble_eq_true rfl) ?_
  intro x hnm h hq
  have h : Ok x cX9_byteAt RX9 kA (rmC 1 0 0) 2 := h
  show J x [(h0, .inr (9, [.ref a0, .int 0, .int 0, .int 0, .int 0, .long 0, .int 0]))] [(0, .ref h0), (1, .int 0)] 0 0 0 []
  refine j_iload_n h 1 rfl rfl dX9_byteAt_0 ?_
  refine j_if_lt h 30 dX9_byteAt_1 (by decide) (fun q => absurd q (by decide)) (fun _ => ?_)
  refine j_iload_n h 1 rfl rfl dX9_byteAt_4 ?_
  refine j_aload_n h 0 rfl rfl dX9_byteAt_5 ?_
  refine j_get h iw_X9 0 rfl rfl 1 (by decide) tw_122 rfl dX9_byteAt_6 ?_
  refine j_icmp_ge h 30 dX9_byteAt_9 (by decide) (fun _ => ?_) (fun q => absurd (by decide) q)
  refine j_iconst (v := 0) h (by decide) dX9_byteAt_30 ?_
  exact j_iret h hq dX9_byteAt_31 () [0] rfl rfl (by decide) (by first | rfl | simp only [↓reduceIte]) (Nat.le_of_ble_eq_true rfl) (Nat.le_of_ble_eq_true rfl)
set_option maxHeartbeats 4000000 in
set_option maxRecDepth 100000 in
theorem c_X9_readNext (l : Launch) (g : va_G) (kA : Nat → ClassId) (h0 : Nat) (a0 : Nat)  : CtV l yX9_readNext cX9_readNext 2 (none) 2 0 0 g kA [.ref h0] [(h0, .inr (9, [.ref a0, .int 0, .int 0, .int 0, .int 0, .long 0, .int 0]))] (S := Unit) (fun (_ : Unit) => True) (fun (_ : Unit) => [(h0, .inr (9, [.ref a0, .int 0, .int 0, .int 0, .int 0, .long 0, .int 0]))]) := by
  refine nx_startV (by decide +kernel) (Nat.le_of_ble_eq_true rfl) ?_
  intro x hnm h hq
  have h : Ok x cX9_readNext RX9 kA (rmC 2 0 0) 2 := h
  show J x [(h0, .inr (9, [.ref a0, .int 0, .int 0, .int 0, .int 0, .long 0, .int 0]))] [(0, .ref h0)] 0 0 0 []
  refine j_aload_n h 0 rfl rfl dX9_readNext_0 ?_
  refine j_aload_n h 0 rfl rfl dX9_readNext_1 ?_
  refine j_get h iw_X9 0 rfl rfl 4 (by decide) tw_128 rfl dX9_readNext_2 ?_
  refine j_put (ws' := [(h0, .inr (9, [.ref a0, .int 0, .int 0, .int 0, .int 0, .long 0, .int 0]))]) h iw_X9 tyX9 tyX9_ok nmX9 0 rfl rfl 3 (by decide) tw_126 rfl rfl rfl (Nat.le_of_ble_eq_true rfl) dX9_readNext_5 rfl ?_
  refine j_aload_n h 0 rfl rfl dX9_readNext_8 ?_
  refine j_get h iw_X9 0 rfl rfl 3 (by decide) tw_126 rfl dX9_readNext_9 ?_
  refine j_aload_n h 0 rfl rfl dX9_readNext_12 ?_
  refine j_get h iw_X9 0 rfl rfl 1 (by decide) tw_122 rfl dX9_readNext_13 ?_
  refine j_icmp_ge h 46 dX9_readNext_16 (by decide) (fun _ => ?_) (fun q => absurd (by decide) q)
  refine j_aload_n h 0 rfl rfl dX9_readNext_46 ?_
  refine j_aload_n h 0 rfl rfl dX9_readNext_47 ?_
  refine j_get h iw_X9 0 rfl rfl 3 (by decide) tw_126 rfl dX9_readNext_48 ?_
  refine j_put (ws' := [(h0, .inr (9, [.ref a0, .int 0, .int 0, .int 0, .int 0, .long 0, .int 0]))]) h iw_X9 tyX9 tyX9_ok nmX9 0 rfl rfl 4 (by decide) tw_128 rfl rfl rfl (Nat.le_of_ble_eq_true rfl) dX9_readNext_51 rfl ?_
  refine j_aload_n h 0 rfl rfl dX9_readNext_54 ?_
  refine j_aload_n h 0 rfl rfl dX9_readNext_55 ?_
  refine j_get h iw_X9 0 rfl rfl 3 (by decide) tw_126 rfl dX9_readNext_56 ?_
  refine j_callVi (np := 1) (isC := [0]) (isR := []) (wc := [(h0, .inr (9, [.ref a0, .int 0, .int 0, .int 0, .int 0, .long 0, .int 0]))]) (wr := []) (rest := []) (As := [.int 0]) (q0 := 0) h (c_X9_byteAt _ _ kA h0 a0 ) tw_569 tw_571 tw_0 tw_88 tw_572 (by decide +kernel) rfl ⟨Nat.le_of_ble_eq_true rfl, Nat.le_of_ble_eq_true rfl⟩ rfl rfl rfl (by decide) rfl rfl (by decide) (by decide) (Nat.le_of_ble_eq_true rfl) rfl ⟨Nat.le_of_ble_eq_true rfl, Nat.le_of_ble_eq_true rfl⟩ dX9_readNext_59 ?_
  rintro r _ e286
  subst e286
  show J x [(h0, .inr (9, [.ref a0, .int 0, .int 0, .int 0, .int 0, .long 0, .int 0]))] [(0, .ref h0)] 0 0 62 [.int 0]
  refine j_istore_n (lv' := [(1, .int 0), (0, .ref h0)]) h dX9_readNext_62 rfl (by decide) rfl ?_
  refine j_aload_n h 1 rfl rfl dX9_readNext_63 ?_
  refine j_get h iw_X9 0 rfl rfl 3 (by decide) tw_126 rfl dX9_readNext_64 ?_
  refine j_aload_n h 1 rfl rfl dX9_readNext_67 ?_
  refine j_get h iw_X9 0 rfl rfl 1 (by decide) tw_122 rfl dX9_readNext_68 ?_
  refine j_icmp_lt h 82 dX9_readNext_71 (by decide) (fun q => absurd q (by decide)) (fun _ => ?_)
  refine j_aload_n h 1 rfl rfl dX9_readNext_74 ?_
  refine j_iconst (v := 0) h (by decide) dX9_readNext_75 ?_
  refine j_put (ws' := [(h0, .inr (9, [.ref a0, .int 0, .int 0, .int 0, .int 0, .long 0, .int 0]))]) h iw_X9 tyX9 tyX9_ok nmX9 0 rfl rfl 2 (by decide) tw_125 rfl rfl rfl (Nat.le_of_ble_eq_true rfl) dX9_readNext_76 rfl ?_
  refine j_goto h 139 dX9_readNext_79 (by decide) ?_
  exact j_vret h hq dX9_readNext_139 () [0] rfl rfl (by decide) trivial (Nat.le_of_ble_eq_true rfl) (Nat.le_of_ble_eq_true rfl)
set_option maxHeartbeats 4000000 in
set_option maxRecDepth 100000 in
theorem c_X9_rewind (l : Launch) (g : va_G) (kA : Nat → ClassId) (h0 : Nat) (a0 : Nat)  : CtV l yX9_rewind cX9_rewind 1 (none) 3 0 0 g kA [.ref h0] [(h0, .inr (9, [.ref a0, .int 0, .int 0, .int 0, .int 0, .long 0, .int 0]))] (S := Unit) (fun (_ : Unit) => True) (fun (_ : Unit) => [(h0, .inr (9, [.ref a0, .int 0, .int 0, .int 0, .int 0, .long 0, .int 0]))]) := by
  refine nx_startV (by decide +kernel) (Nat.le_of_ble_eq_true rfl) ?_
  intro x hnm h hq
  have h : Ok x cX9_rewind RX9 kA (rmC 3 0 0) 1 := h
  show J x [(h0, .inr (9, [.ref a0, .int 0, .int 0, .int 0, .int 0, .long 0, .int 0]))] [(0, .ref h0)] 0 0 0 []
  refine j_aload_n h 0 rfl rfl dX9_rewind_0 ?_
  refine j_iconst (v := 0) h (by decide) dX9_rewind_1 ?_
  refine j_put (ws' := [(h0, .inr (9, [.ref a0, .int 0, .int 0, .int 0, .int 0, .long 0, .int 0]))]) h iw_X9 tyX9 tyX9_ok nmX9 0 rfl rfl 4 (by decide) tw_128 rfl rfl rfl (Nat.le_of_ble_eq_true rfl) dX9_rewind_2 rfl ?_
  refine j_aload_n h 0 rfl rfl dX9_rewind_5 ?_
  refine j_callVv (np := 0) (isC := [0]) (isR := []) (wc := [(h0, .inr (9, [.ref a0, .int 0, .int 0, .int 0, .int 0, .long 0, .int 0]))]) (wr := []) (rest := []) (As := []) (q0 := 0) h (c_X9_readNext _ _ kA h0 a0 ) tw_565 tw_566 tw_567 tw_88 tw_568 (by decide +kernel) rfl ⟨Nat.le_of_ble_eq_true rfl, Nat.le_of_ble_eq_true rfl⟩ rfl rfl rfl (by decide) rfl rfl (by decide) (by decide) (Nat.le_of_ble_eq_true rfl) rfl ⟨Nat.le_of_ble_eq_true rfl, Nat.le_of_ble_eq_true rfl⟩ dX9_rewind_6 ?_
  rintro _ e287
  show J x [(h0, .inr (9, [.ref a0, .int 0, .int 0, .int 0, .int 0, .long 0, .int 0]))] [(0, .ref h0)] 0 0 9 []
  exact j_vret h hq dX9_rewind_9 () [0] rfl rfl (by decide) trivial (Nat.le_of_ble_eq_true rfl) (Nat.le_of_ble_eq_true rfl)
set_option maxHeartbeats 4000000 in
set_option maxRecDepth 100000 in
theorem c_X5_clear (l : Launch) (g : va_G) (kA : Nat → ClassId) (h0 : Nat) (a0 : Nat) (a1 : Nat) (a2 : Nat) (a3 : Nat) (a4 : Nat) (a5 : Nat) (a6 : Nat) (a7 : Nat) (a8 : Nat) (a9 : Nat) (a10 : Nat) (a11 : Nat)  : CtV l yX5_clear cX5_clear 1 (none) 1 0 0 g kA [.ref h0] [(h0, .inr (5, [.ref a0, .ref a1, .ref a2, .ref a3, .ref a4, .ref a5, .ref a6, .ref a7, .ref a8, .ref a9, .ref a10, .ref a11, .int 0, .int 0, .int 0]))] (S := Unit) (fun (_ : Unit) => True) (fun (_ : Unit) => [(h0, .inr (5, [.ref a0, .ref a1, .ref a2, .ref a3, .ref a4, .ref a5, .ref a6, .ref a7, .ref a8, .ref a9, .ref a10, .ref a11, .int 0, .int 0, .int 0]))]) := by
  refine nx_startV (by decide +kernel) (Nat.le_of_ble_eq_true rfl) ?_
  intro x hnm h hq
  have h : Ok x cX5_clear RX5 kA (rmC 1 0 0) 1 := h
  show J x [(h0, .inr (5, [.ref a0, .ref a1, .ref a2, .ref a3, .ref a4, .ref a5, .ref a6, .ref a7, .ref a8, .ref a9, .ref a10, .ref a11, .int 0, .int 0, .int 0]))] [(0, .ref h0)] 0 0 0 []
  refine j_aload_n h 0 rfl rfl dX5_clear_0 ?_
  refine j_iconst (v := 0) h (by decide) dX5_clear_1 ?_
  refine j_put (ws' := [(h0, .inr (5, [.ref a0, .ref a1, .ref a2, .ref a3, .ref a4, .ref a5, .ref a6, .ref a7, .ref a8, .ref a9, .ref a10, .ref a11, .int 0, .int 0, .int 0]))]) h iw_X5 tyX5 tyX5_ok nmX5 0 rfl rfl 12 (by decide) tw_217 rfl rfl rfl (Nat.le_of_ble_eq_true rfl) dX5_clear_2 rfl ?_
  refine j_aload_n h 0 rfl rfl dX5_clear_5 ?_
  refine j_iconst (v := 0) h (by decide) dX5_clear_6 ?_
  refine j_put (ws' := [(h0, .inr (5, [.ref a0, .ref a1, .ref a2, .ref a3, .ref a4, .ref a5, .ref a6, .ref a7, .ref a8, .ref a9, .ref a10, .ref a11, .int 0, .int 0, .int 0]))]) h iw_X5 tyX5 tyX5_ok nmX5 0 rfl rfl 13 (by decide) tw_222 rfl rfl rfl (Nat.le_of_ble_eq_true rfl) dX5_clear_7 rfl ?_
  refine j_aload_n h 0 rfl rfl dX5_clear_10 ?_
  refine j_iconst (v := 0) h (by decide) dX5_clear_11 ?_
  refine j_put (ws' := [(h0, .inr (5, [.ref a0, .ref a1, .ref a2, .ref a3, .ref a4, .ref a5, .ref a6, .ref a7, .ref a8, .ref a9, .ref a10, .ref a11, .int 0, .int 0, .int 0]))]) h iw_X5 tyX5 tyX5_ok nmX5 0 rfl rfl 14 (by decide) tw_228 rfl rfl rfl (Nat.le_of_ble_eq_true rfl) dX5_clear_12 rfl ?_
  exact j_vret h hq dX5_clear_15 () [0] rfl rfl (by decide) trivial (Nat.le_of_ble_eq_true rfl) (Nat.le_of_ble_eq_true rfl)
set_option maxHeartbeats 4000000 in
set_option maxRecDepth 100000 in
theorem c_X6_readSchool (l : Launch) (g : va_G) (kA : Nat → ClassId) (h0 : Nat) (t : Nat) (d0 : Nat) (s : Nat) (c0 : Nat) (c1 : Nat) (c2 : Nat) (c3 : Nat) (c4 : Nat) (c5 : Nat) (c6 : Nat) (c7 : Nat) (c8 : Nat) (c9 : Nat) (c10 : Nat) (c11 : Nat)  : CtI l yX6_readSchool cX6_readSchool 5 (some .boolean) 4 0 0 g kA [.ref h0, .ref t, .ref s] [(h0, .inr (6, [.int 0, .int (-1), .int 0])), (t, .inr (9, [.ref d0, .int 0, .int 0, .int 0, .int 0, .long 0, .int 0])), (s, .inr (5, [.ref c0, .ref c1, .ref c2, .ref c3, .ref c4, .ref c5, .ref c6, .ref c7, .ref c8, .ref c9, .ref c10, .ref c11, .int 0, .int 0, .int 0]))] (S := Unit) (fun (r : Int32) (_ : Unit) => r = 1) (fun (_ : Unit) => [(h0, .inr (6, [.int 0, .int (-1), .int 0])), (t, .inr (9, [.ref d0, .int 0, .int 0, .int 0, .int 0, .long 0, .int 0])), (s, .inr (5, [.ref c0, .ref c1, .ref c2, .ref c3, .ref c4, .ref c5, .ref c6, .ref c7, .ref c8, .ref c9, .ref c10, .ref c11, .int 0, .int 0, .int 0]))]) := by
  refine nx_startI (by decide +kernel) (Nat.le_of_ble_eq_true rfl) ?_
  intro x hnm h hq
  have h : Ok x cX6_readSchool RX6 kA (rmC 4 0 0) 5 := h
  show J x [(h0, .inr (6, [.int 0, .int (-1), .int 0])), (t, .inr (9, [.ref d0, .int 0, .int 0, .int 0, .int 0, .long 0, .int 0])), (s, .inr (5, [.ref c0, .ref c1, .ref c2, .ref c3, .ref c4, .ref c5, .ref c6, .ref c7, .ref c8, .ref c9, .ref c10, .ref c11, .int 0, .int 0, .int 0]))] [(0, .ref h0), (1, .ref t), (2, .ref s)] 0 0 0 []
  refine j_aload_n h 0 rfl rfl dX6_readSchool_0 ?_
  refine j_iconst (v := 0) h (by decide) dX6_readSchool_1 ?_
  refine j_put (ws' := [(h0, .inr (6, [.int 0, .int (-1), .int 0])), (t, .inr (9, [.ref d0, .int 0, .int 0, .int 0, .int 0, .long 0, .int 0])), (s, .inr (5, [.ref c0, .ref c1, .ref c2, .ref c3, .ref c4, .ref c5, .ref c6, .ref c7, .ref c8, .ref c9, .ref c10, .ref c11, .int 0, .int 0, .int 0]))]) h iw_X6 tyX6 tyX6_ok nmX6 0 rfl rfl 0 (by decide) tw_155 rfl rfl rfl (Nat.le_of_ble_eq_true rfl) dX6_readSchool_2 rfl ?_
  refine j_aload_n h 0 rfl rfl dX6_readSchool_5 ?_
  refine j_iconst (v := (-1)) h (by decide) dX6_readSchool_6 ?_
  refine j_put (ws' := [(h0, .inr (6, [.int 0, .int (-1), .int 0])), (t, .inr (9, [.ref d0, .int 0, .int 0, .int 0, .int 0, .long 0, .int 0])), (s, .inr (5, [.ref c0, .ref c1, .ref c2, .ref c3, .ref c4, .ref c5, .ref c6, .ref c7, .ref c8, .ref c9, .ref c10, .ref c11, .int 0, .int 0, .int 0]))]) h iw_X6 tyX6 tyX6_ok nmX6 0 rfl rfl 1 (by decide) tw_157 rfl rfl rfl (Nat.le_of_ble_eq_true rfl) dX6_readSchool_7 rfl ?_
  refine j_aload_n h 2 rfl rfl dX6_readSchool_10 ?_
  refine j_callVv (np := 0) (isC := [2]) (isR := [0, 1]) (wc := [(s, .inr (5, [.ref c0, .ref c1, .ref c2, .ref c3, .ref c4, .ref c5, .ref c6, .ref c7, .ref c8, .ref c9, .ref c10, .ref c11, .int 0, .int 0, .int 0]))]) (wr := [(h0, .inr (6, [.int 0, .int (-1), .int 0])), (t, .inr (9, [.ref d0, .int 0, .int 0, .int 0, .int 0, .long 0, .int 0]))]) (rest := []) (As := []) (q0 := 0) h (c_X5_clear _ _ kA s c0 c1 c2 c3 c4 c5 c6 c7 c8 c9 c10 c11 ) tw_557 tw_558 tw_559 tw_90 tw_560 (by decide +kernel) rfl ⟨Nat.le_of_ble_eq_true rfl, Nat.le_of_ble_eq_true rfl⟩ rfl rfl rfl (by decide) rfl rfl (by decide) (by decide) (Nat.le_of_ble_eq_true rfl) rfl ⟨Nat.le_of_ble_eq_true rfl, Nat.le_of_ble_eq_true rfl⟩ dX6_readSchool_11 ?_
  rintro _ e288
  show J x [(h0, .inr (6, [.int 0, .int (-1), .int 0])), (t, .inr (9, [.ref d0, .int 0, .int 0, .int 0, .int 0, .long 0, .int 0])), (s, .inr (5, [.ref c0, .ref c1, .ref c2, .ref c3, .ref c4, .ref c5, .ref c6, .ref c7, .ref c8, .ref c9, .ref c10, .ref c11, .int 0, .int 0, .int 0]))] [(0, .ref h0), (1, .ref t), (2, .ref s)] 0 0 14 []
  refine j_aload_n h 1 rfl rfl dX6_readSchool_14 ?_
  refine j_callVv (np := 0) (isC := [1]) (isR := [0, 2]) (wc := [(t, .inr (9, [.ref d0, .int 0, .int 0, .int 0, .int 0, .long 0, .int 0]))]) (wr := [(h0, .inr (6, [.int 0, .int (-1), .int 0])), (s, .inr (5, [.ref c0, .ref c1, .ref c2, .ref c3, .ref c4, .ref c5, .ref c6, .ref c7, .ref c8, .ref c9, .ref c10, .ref c11, .int 0, .int 0, .int 0]))]) (rest := []) (As := []) (q0 := 0) h (c_X9_rewind _ _ kA t d0 ) tw_561 tw_562 tw_563 tw_88 tw_564 (by decide +kernel) rfl ⟨Nat.le_of_ble_eq_true rfl, Nat.le_of_ble_eq_true rfl⟩ rfl rfl rfl (by decide) rfl rfl (by decide) (by decide) (Nat.le_of_ble_eq_true rfl) rfl ⟨Nat.le_of_ble_eq_true rfl, Nat.le_of_ble_eq_true rfl⟩ dX6_readSchool_15 ?_
  rintro _ e289
  show J x [(h0, .inr (6, [.int 0, .int (-1), .int 0])), (s, .inr (5, [.ref c0, .ref c1, .ref c2, .ref c3, .ref c4, .ref c5, .ref c6, .ref c7, .ref c8, .ref c9, .ref c10, .ref c11, .int 0, .int 0, .int 0])), (t, .inr (9, [.ref d0, .int 0, .int 0, .int 0, .int 0, .long 0, .int 0]))] [(0, .ref h0), (1, .ref t), (2, .ref s)] 0 0 18 []
  refine j_iconst (v := 1) h (by decide) dX6_readSchool_18 ?_
  refine j_istore_n (lv' := [(3, .int 1), (0, .ref h0), (1, .ref t), (2, .ref s)]) h dX6_readSchool_19 rfl (by decide) rfl ?_
  refine j_iconst (v := 0) h (by decide) dX6_readSchool_20 ?_
  refine j_istore (lv' := [(4, .int 0), (3, .int 1), (0, .ref h0), (1, .ref t), (2, .ref s)]) h dX6_readSchool_21 (by decide) rfl ?_
  refine j_iload h 0 rfl dX6_readSchool_23 ?_
  refine j_sipush (v := 1600) h (by decide) dX6_readSchool_25 ?_
  refine j_icmp_ge h 112 dX6_readSchool_28 (by decide) (fun q => absurd q (by decide)) (fun _ => ?_)
  refine j_iload_n h 1 rfl rfl dX6_readSchool_31 ?_
  refine j_if_eq h 112 dX6_readSchool_32 (by decide) (fun q => absurd q (by decide)) (fun _ => ?_)
  refine j_aload_n h 3 rfl rfl dX6_readSchool_35 ?_
  refine j_get h iw_X9 2 rfl rfl 2 (by decide) tw_124 rfl dX6_readSchool_36 ?_
  refine j_if_eq h 112 dX6_readSchool_39 (by decide) (fun _ => ?_) (fun q => absurd (by decide) q)
  refine j_iload_n h 1 rfl rfl dX6_readSchool_112 ?_
  exact j_zret h hq rfl dX6_readSchool_113 () [0, 2, 1] rfl rfl (by decide) (by first | rfl | simp only [↓reduceIte]) (Nat.le_of_ble_eq_true rfl) (Nat.le_of_ble_eq_true rfl)
set_option maxHeartbeats 4000000 in
set_option maxRecDepth 100000 in
theorem c_X2_begin (l : Launch) (g : va_G) (kA : Nat → ClassId) (h0 : Nat) (a0 : Nat) (a1 : Nat) (s : Nat) (c0 : Nat) (c1 : Nat) (c2 : Nat) (c3 : Nat) (c4 : Nat) (c5 : Nat) (c6 : Nat) (c7 : Nat) (c8 : Nat) (c9 : Nat) (c10 : Nat) (c11 : Nat)  : CtV l yX2_begin cX2_begin 2 (none) 3 0 0 g kA [.ref h0, .ref s] [(h0, .inr (2, [.ref a0, .ref a1, .int 0, .int 0, .int 0, .int 0])), (a1, .inl (kA 1, 6, .inl (fun _ => 0))), (s, .inr (5, [.ref c0, .ref c1, .ref c2, .ref c3, .ref c4, .ref c5, .ref c6, .ref c7, .ref c8, .ref c9, .ref c10, .ref c11, .int 0, .int 0, .int 0])), (c2, .inl (kA 1, 6, .inl (fun _ => 0)))] (S := Unit) (fun (_ : Unit) => True) (fun (_ : Unit) => [(h0, .inr (2, [.ref a0, .ref a1, .int 0, .int 0, .int 0, .int 0])), (s, .inr (5, [.ref c0, .ref c1, .ref c2, .ref c3, .ref c4, .ref c5, .ref c6, .ref c7, .ref c8, .ref c9, .ref c10, .ref c11, .int 0, .int 0, .int 0]))]) := by
  refine nx_startV (by decide +kernel) (Nat.le_of_ble_eq_true rfl) ?_
  intro x hnm h hq
  have h : Ok x cX2_begin RX2 kA (rmC 3 0 0) 2 := h
  show J x [(h0, .inr (2, [.ref a0, .ref a1, .int 0, .int 0, .int 0, .int 0])), (a1, .inl (kA 1, 6, .inl (fun _ => 0))), (s, .inr (5, [.ref c0, .ref c1, .ref c2, .ref c3, .ref c4, .ref c5, .ref c6, .ref c7, .ref c8, .ref c9, .ref c10, .ref c11, .int 0, .int 0, .int 0])), (c2, .inl (kA 1, 6, .inl (fun _ => 0)))] [(0, .ref h0), (1, .ref s)] 0 0 0 []
  refine j_aload_n h 0 rfl rfl dX2_begin_0 ?_
  refine j_callVv (np := 0) (isC := [0]) (isR := [1, 2, 3]) (wc := [(h0, .inr (2, [.ref a0, .ref a1, .int 0, .int 0, .int 0, .int 0]))]) (wr := [(a1, .inl (kA 1, 6, .inl (fun _ => 0))), (s, .inr (5, [.ref c0, .ref c1, .ref c2, .ref c3, .ref c4, .ref c5, .ref c6, .ref c7, .ref c8, .ref c9, .ref c10, .ref c11, .int 0, .int 0, .int 0])), (c2, .inl (kA 1, 6, .inl (fun _ => 0)))]) (rest := []) (As := []) (q0 := 0) h (c_X2_standStill _ _ kA h0 a0 a1 ) tw_735 tw_736 tw_737 tw_91 tw_738 (by decide +kernel) rfl ⟨Nat.le_of_ble_eq_true rfl, Nat.le_of_ble_eq_true rfl⟩ rfl rfl rfl (by decide) rfl rfl (by decide) (by decide) (Nat.le_of_ble_eq_true rfl) rfl ⟨Nat.le_of_ble_eq_true rfl, Nat.le_of_ble_eq_true rfl⟩ dX2_begin_1 ?_
  rintro _ e290
  show J x [(a1, .inl (kA 1, 6, .inl (fun _ => 0))), (s, .inr (5, [.ref c0, .ref c1, .ref c2, .ref c3, .ref c4, .ref c5, .ref c6, .ref c7, .ref c8, .ref c9, .ref c10, .ref c11, .int 0, .int 0, .int 0])), (c2, .inl (kA 1, 6, .inl (fun _ => 0))), (h0, .inr (2, [.ref a0, .ref a1, .int 0, .int 0, .int 0, .int 0]))] [(0, .ref h0), (1, .ref s)] 0 0 4 []
  refine j_aload_n h 1 rfl rfl dX2_begin_4 ?_
  refine j_get h iw_X5 1 rfl rfl 2 (by decide) tw_183 rfl dX2_begin_5 ?_
  refine j_iconst (v := 0) h (by decide) dX2_begin_8 ?_
  refine j_aload_n h 0 rfl rfl dX2_begin_9 ?_
  refine j_get h iw_X2 3 rfl rfl 1 (by decide) tw_272 rfl dX2_begin_10 ?_
  refine j_iconst (v := 0) h (by decide) dX2_begin_13 ?_
  refine j_bipush (v := 6) h (by decide) dX2_begin_14 ?_
  refine j_copyi (ws' := [(a1, .inl (kA 1, 6, .inl (va_cpy (fun _ => 0) (fun _ => 0) 0 0 6))), (s, .inr (5, [.ref c0, .ref c1, .ref c2, .ref c3, .ref c4, .ref c5, .ref c6, .ref c7, .ref c8, .ref c9, .ref c10, .ref c11, .int 0, .int 0, .int 0])), (c2, .inl (kA 1, 6, .inl (fun _ => 0))), (h0, .inr (2, [.ref a0, .ref a1, .int 0, .int 0, .int 0, .int 0]))]) h tw_739 tw_741 tw_740 tw_104 2 0 rfl rfl 0 0 6 (by decide) (by decide) (by decide) (by decide) (by decide) (by decide) (by decide) (Nat.le_of_ble_eq_true rfl) (Nat.le_of_ble_eq_true rfl) (Nat.le_of_ble_eq_true rfl) dX2_begin_16 rfl ?_
  exact j_vret h hq dX2_begin_19 () [3, 1] rfl rfl (by decide) trivial (Nat.le_of_ble_eq_true rfl) (Nat.le_of_ble_eq_true rfl)
set_option maxHeartbeats 4000000 in
set_option maxRecDepth 100000 in
theorem c_X11_forget (l : Launch) (g : va_G) (kA : Nat → ClassId) (h0 : Nat) (u : Nat → Nat)  : CtV l yX11_forgetAllOfOldSchool cX11_forgetAllOfOldSchool 2 (none) 4 0 0 g kA [.ref h0] [(h0, .inr (11, [.ref (u 0), .ref (u 1), .ref (u 3), .ref (u 2), .ref (u 4), .ref (u 5), .ref (u 6), .ref (u 7), .ref (u 8), .ref (u 9), .ref (u 10), .ref (u 11), .ref (u 12), .ref (u 13), .ref (u 14), .ref (u 15), .ref (u 16), .int 0, .int 0])), ((u 3), .inr (5, [.ref (u 30), .ref (u 31), .ref (u 32), .ref (u 33), .ref (u 34), .ref (u 35), .ref (u 36), .ref (u 37), .ref (u 38), .ref (u 39), .ref (u 40), .ref (u 41), .int 0, .int 0, .int 0])), ((u 32), .inl (kA 1, 6, .inl (fun _ => 0))), ((u 4), .inr (2, [.ref (u 42), .ref (u 43), .int 0, .int 0, .int 0, .int 0])), ((u 43), .inl (kA 1, 6, .inl (fun _ => 0))), ((u 5), .inl (kA 4, 3, .inr (.inr (.inr (.inr (va_up (va_up (va_up (fun _ => none) 0 (some (u 44))) 1 (some (u 45))) 2 (some (u 46)))))))), ((u 44), .inr (2, [.ref (u 47), .ref (u 48), .int 0, .int 0, .int 0, .int 0])), ((u 45), .inr (2, [.ref (u 49), .ref (u 50), .int 0, .int 0, .int 0, .int 0])), ((u 46), .inr (2, [.ref (u 51), .ref (u 52), .int 0, .int 0, .int 0, .int 0])), ((u 6), .inl (kA 5, 2, .inr (.inr (.inr (.inr (va_up (va_up (fun _ => none) 0 (some (u 53))) 1 (some (u 54)))))))), ((u 53), .inr (10, [.ref (u 55), .int 0, .int 0, .int 0])), ((u 54), .inr (10, [.ref (u 56), .int 0, .int 0, .int 0])), ((u 7), .inr (8, [.ref (u 57), .ref (u 58), .ref (u 59), .ref (u 60), .ref (u 61), .ref (u 62), .int 0]))] (S := Unit) (fun (_ : Unit) => True) (fun (_ : Unit) => [(h0, .inr (11, [.ref (u 0), .ref (u 1), .ref (u 3), .ref (u 2), .ref (u 4), .ref (u 5), .ref (u 6), .ref (u 7), .ref (u 8), .ref (u 9), .ref (u 10), .ref (u 11), .ref (u 12), .ref (u 13), .ref (u 14), .ref (u 15), .ref (u 16), .int 0, .int 0])), ((u 3), .inr (5, [.ref (u 30), .ref (u 31), .ref (u 32), .ref (u 33), .ref (u 34), .ref (u 35), .ref (u 36), .ref (u 37), .ref (u 38), .ref (u 39), .ref (u 40), .ref (u 41), .int 0, .int 0, .int 0]))]) := by
  refine nx_startV (by decide +kernel) (Nat.le_of_ble_eq_true rfl) ?_
  intro x hnm h hq
  have h : Ok x cX11_forgetAllOfOldSchool RX11 kA (rmC 4 0 0) 2 := h
  show J x [(h0, .inr (11, [.ref (u 0), .ref (u 1), .ref (u 3), .ref (u 2), .ref (u 4), .ref (u 5), .ref (u 6), .ref (u 7), .ref (u 8), .ref (u 9), .ref (u 10), .ref (u 11), .ref (u 12), .ref (u 13), .ref (u 14), .ref (u 15), .ref (u 16), .int 0, .int 0])), ((u 3), .inr (5, [.ref (u 30), .ref (u 31), .ref (u 32), .ref (u 33), .ref (u 34), .ref (u 35), .ref (u 36), .ref (u 37), .ref (u 38), .ref (u 39), .ref (u 40), .ref (u 41), .int 0, .int 0, .int 0])), ((u 32), .inl (kA 1, 6, .inl (fun _ => 0))), ((u 4), .inr (2, [.ref (u 42), .ref (u 43), .int 0, .int 0, .int 0, .int 0])), ((u 43), .inl (kA 1, 6, .inl (fun _ => 0))), ((u 5), .inl (kA 4, 3, .inr (.inr (.inr (.inr (va_up (va_up (va_up (fun _ => none) 0 (some (u 44))) 1 (some (u 45))) 2 (some (u 46)))))))), ((u 44), .inr (2, [.ref (u 47), .ref (u 48), .int 0, .int 0, .int 0, .int 0])), ((u 45), .inr (2, [.ref (u 49), .ref (u 50), .int 0, .int 0, .int 0, .int 0])), ((u 46), .inr (2, [.ref (u 51), .ref (u 52), .int 0, .int 0, .int 0, .int 0])), ((u 6), .inl (kA 5, 2, .inr (.inr (.inr (.inr (va_up (va_up (fun _ => none) 0 (some (u 53))) 1 (some (u 54)))))))), ((u 53), .inr (10, [.ref (u 55), .int 0, .int 0, .int 0])), ((u 54), .inr (10, [.ref (u 56), .int 0, .int 0, .int 0])), ((u 7), .inr (8, [.ref (u 57), .ref (u 58), .ref (u 59), .ref (u 60), .ref (u 61), .ref (u 62), .int 0]))] [(0, .ref h0)] 0 0 0 []
  refine j_aload_n h 0 rfl rfl dX11_forgetAllOfOldSchool_0 ?_
  refine j_get h iw_X11 0 rfl rfl 4 (by decide) tw_479 rfl dX11_forgetAllOfOldSchool_1 ?_
  refine j_aload_n h 0 rfl rfl dX11_forgetAllOfOldSchool_4 ?_
  refine j_get h iw_X11 0 rfl rfl 2 (by decide) tw_477 rfl dX11_forgetAllOfOldSchool_5 ?_
  refine j_callVv (np := 1) (isC := [3, 4, 1, 2]) (isR := [0, 5, 6, 7, 8, 9, 10, 11, 12]) (wc := [((u 4), .inr (2, [.ref (u 42), .ref (u 43), .int 0, .int 0, .int 0, .int 0])), ((u 43), .inl (kA 1, 6, .inl (fun _ => 0))), ((u 3), .inr (5, [.ref (u 30), .ref (u 31), .ref (u 32), .ref (u 33), .ref (u 34), .ref (u 35), .ref (u 36), .ref (u 37), .ref (u 38), .ref (u 39), .ref (u 40), .ref (u 41), .int 0, .int 0, .int 0])), ((u 32), .inl (kA 1, 6, .inl (fun _ => 0)))]) (wr := [(h0, .inr (11, [.ref (u 0), .ref (u 1), .ref (u 3), .ref (u 2), .ref (u 4), .ref (u 5), .ref (u 6), .ref (u 7), .ref (u 8), .ref (u 9), .ref (u 10), .ref (u 11), .ref (u 12), .ref (u 13), .ref (u 14), .ref (u 15), .ref (u 16), .int 0, .int 0])), ((u 5), .inl (kA 4, 3, .inr (.inr (.inr (.inr (va_up (va_up (va_up (fun _ => none) 0 (some (u 44))) 1 (some (u 45))) 2 (some (u 46)))))))), ((u 44), .inr (2, [.ref (u 47), .ref (u 48), .int 0, .int 0, .int 0, .int 0])), ((u 45), .inr (2, [.ref (u 49), .ref (u 50), .int 0, .int 0, .int 0, .int 0])), ((u 46), .inr (2, [.ref (u 51), .ref (u 52), .int 0, .int 0, .int 0, .int 0])), ((u 6), .inl (kA 5, 2, .inr (.inr (.inr (.inr (va_up (va_up (fun _ => none) 0 (some (u 53))) 1 (some (u 54)))))))), ((u 53), .inr (10, [.ref (u 55), .int 0, .int 0, .int 0])), ((u 54), .inr (10, [.ref (u 56), .int 0, .int 0, .int 0])), ((u 7), .inr (8, [.ref (u 57), .ref (u 58), .ref (u 59), .ref (u 60), .ref (u 61), .ref (u 62), .int 0]))]) (rest := []) (As := [.ref (u 3)]) (q0 := 0) h (c_X2_begin _ _ kA (u 4) (u 42) (u 43) (u 3) (u 30) (u 31) (u 32) (u 33) (u 34) (u 35) (u 36) (u 37) (u 38) (u 39) (u 40) (u 41) ) tw_731 tw_732 tw_733 tw_91 tw_734 (by decide +kernel) rfl ⟨Nat.le_of_ble_eq_true rfl, Nat.le_of_ble_eq_true rfl⟩ rfl rfl rfl (by decide) rfl rfl (by decide) (by decide) (Nat.le_of_ble_eq_true rfl) rfl ⟨Nat.le_of_ble_eq_true rfl, Nat.le_of_ble_eq_true rfl⟩ dX11_forgetAllOfOldSchool_8 ?_
  rintro _ e291
  show J x [(h0, .inr (11, [.ref (u 0), .ref (u 1), .ref (u 3), .ref (u 2), .ref (u 4), .ref (u 5), .ref (u 6), .ref (u 7), .ref (u 8), .ref (u 9), .ref (u 10), .ref (u 11), .ref (u 12), .ref (u 13), .ref (u 14), .ref (u 15), .ref (u 16), .int 0, .int 0])), ((u 5), .inl (kA 4, 3, .inr (.inr (.inr (.inr (va_up (va_up (va_up (fun _ => none) 0 (some (u 44))) 1 (some (u 45))) 2 (some (u 46)))))))), ((u 44), .inr (2, [.ref (u 47), .ref (u 48), .int 0, .int 0, .int 0, .int 0])), ((u 45), .inr (2, [.ref (u 49), .ref (u 50), .int 0, .int 0, .int 0, .int 0])), ((u 46), .inr (2, [.ref (u 51), .ref (u 52), .int 0, .int 0, .int 0, .int 0])), ((u 6), .inl (kA 5, 2, .inr (.inr (.inr (.inr (va_up (va_up (fun _ => none) 0 (some (u 53))) 1 (some (u 54)))))))), ((u 53), .inr (10, [.ref (u 55), .int 0, .int 0, .int 0])), ((u 54), .inr (10, [.ref (u 56), .int 0, .int 0, .int 0])), ((u 7), .inr (8, [.ref (u 57), .ref (u 58), .ref (u 59), .ref (u 60), .ref (u 61), .ref (u 62), .int 0])), ((u 4), .inr (2, [.ref (u 42), .ref (u 43), .int 0, .int 0, .int 0, .int 0])), ((u 3), .inr (5, [.ref (u 30), .ref (u 31), .ref (u 32), .ref (u 33), .ref (u 34), .ref (u 35), .ref (u 36), .ref (u 37), .ref (u 38), .ref (u 39), .ref (u 40), .ref (u 41), .int 0, .int 0, .int 0]))] [(0, .ref h0)] 0 0 11 []
  refine j_iconst (v := 0) h (by decide) dX11_forgetAllOfOldSchool_11 ?_
  refine j_istore_n (lv' := [(1, .int 0), (0, .ref h0)]) h dX11_forgetAllOfOldSchool_12 rfl (by decide) rfl ?_
  refine j_iload_n h 0 rfl rfl dX11_forgetAllOfOldSchool_13 ?_
  refine j_iconst (v := 3) h (by decide) dX11_forgetAllOfOldSchool_14 ?_
  refine j_icmp_ge h 34 dX11_forgetAllOfOldSchool_15 (by decide) (fun q => absurd q (by decide)) (fun _ => ?_)
  refine j_aload_n h 1 rfl rfl dX11_forgetAllOfOldSchool_18 ?_
  refine j_get h iw_X11 0 rfl rfl 5 (by decide) tw_480 rfl dX11_forgetAllOfOldSchool_19 ?_
  refine j_iload_n h 0 rfl rfl dX11_forgetAllOfOldSchool_22 ?_
  refine j_aldO h 1 4 rfl rfl 0 (by decide) (by decide) (by decide) (rfl) dX11_forgetAllOfOldSchool_23 ?_
  refine j_iconst (v := 0) h (by decide) dX11_forgetAllOfOldSchool_24 ?_
  refine j_put (ws' := [(h0, .inr (11, [.ref (u 0), .ref (u 1), .ref (u 3), .ref (u 2), .ref (u 4), .ref (u 5), .ref (u 6), .ref (u 7), .ref (u 8), .ref (u 9), .ref (u 10), .ref (u 11), .ref (u 12), .ref (u 13), .ref (u 14), .ref (u 15), .ref (u 16), .int 0, .int 0])), ((u 5), .inl (kA 4, 3, .inr (.inr (.inr (.inr (va_up (va_up (va_up (fun _ => none) 0 (some (u 44))) 1 (some (u 45))) 2 (some (u 46)))))))), ((u 44), .inr (2, [.ref (u 47), .ref (u 48), .int 0, .int 0, .int 0, .int 0])), ((u 45), .inr (2, [.ref (u 49), .ref (u 50), .int 0, .int 0, .int 0, .int 0])), ((u 46), .inr (2, [.ref (u 51), .ref (u 52), .int 0, .int 0, .int 0, .int 0])), ((u 6), .inl (kA 5, 2, .inr (.inr (.inr (.inr (va_up (va_up (fun _ => none) 0 (some (u 53))) 1 (some (u 54)))))))), ((u 53), .inr (10, [.ref (u 55), .int 0, .int 0, .int 0])), ((u 54), .inr (10, [.ref (u 56), .int 0, .int 0, .int 0])), ((u 7), .inr (8, [.ref (u 57), .ref (u 58), .ref (u 59), .ref (u 60), .ref (u 61), .ref (u 62), .int 0])), ((u 4), .inr (2, [.ref (u 42), .ref (u 43), .int 0, .int 0, .int 0, .int 0])), ((u 3), .inr (5, [.ref (u 30), .ref (u 31), .ref (u 32), .ref (u 33), .ref (u 34), .ref (u 35), .ref (u 36), .ref (u 37), .ref (u 38), .ref (u 39), .ref (u 40), .ref (u 41), .int 0, .int 0, .int 0]))]) h iw_X2 tyX2 tyX2_ok nmX2 2 rfl rfl 5 (by decide) tw_280 rfl rfl rfl (Nat.le_of_ble_eq_true rfl) dX11_forgetAllOfOldSchool_25 rfl ?_
  refine j_iinc (v := 1) (lv' := [(1, .int 1), (0, .ref h0)]) h dX11_forgetAllOfOldSchool_28 0 rfl (by decide) (by decide) rfl ?_
  refine j_goto h 13 dX11_forgetAllOfOldSchool_31 (by decide) ?_
  refine j_iload_n h 0 rfl rfl dX11_forgetAllOfOldSchool_13 ?_
  refine j_iconst (v := 3) h (by decide) dX11_forgetAllOfOldSchool_14 ?_
  refine j_icmp_ge h 34 dX11_forgetAllOfOldSchool_15 (by decide) (fun q => absurd q (by decide)) (fun _ => ?_)
  refine j_aload_n h 1 rfl rfl dX11_forgetAllOfOldSchool_18 ?_
  refine j_get h iw_X11 0 rfl rfl 5 (by decide) tw_480 rfl dX11_forgetAllOfOldSchool_19 ?_
  refine j_iload_n h 0 rfl rfl dX11_forgetAllOfOldSchool_22 ?_
  refine j_aldO h 1 4 rfl rfl 1 (by decide) (by decide) (by decide) (rfl) dX11_forgetAllOfOldSchool_23 ?_
  refine j_iconst (v := 0) h (by decide) dX11_forgetAllOfOldSchool_24 ?_
  refine j_put (ws' := [(h0, .inr (11, [.ref (u 0), .ref (u 1), .ref (u 3), .ref (u 2), .ref (u 4), .ref (u 5), .ref (u 6), .ref (u 7), .ref (u 8), .ref (u 9), .ref (u 10), .ref (u 11), .ref (u 12), .ref (u 13), .ref (u 14), .ref (u 15), .ref (u 16), .int 0, .int 0])), ((u 5), .inl (kA 4, 3, .inr (.inr (.inr (.inr (va_up (va_up (va_up (fun _ => none) 0 (some (u 44))) 1 (some (u 45))) 2 (some (u 46)))))))), ((u 44), .inr (2, [.ref (u 47), .ref (u 48), .int 0, .int 0, .int 0, .int 0])), ((u 45), .inr (2, [.ref (u 49), .ref (u 50), .int 0, .int 0, .int 0, .int 0])), ((u 46), .inr (2, [.ref (u 51), .ref (u 52), .int 0, .int 0, .int 0, .int 0])), ((u 6), .inl (kA 5, 2, .inr (.inr (.inr (.inr (va_up (va_up (fun _ => none) 0 (some (u 53))) 1 (some (u 54)))))))), ((u 53), .inr (10, [.ref (u 55), .int 0, .int 0, .int 0])), ((u 54), .inr (10, [.ref (u 56), .int 0, .int 0, .int 0])), ((u 7), .inr (8, [.ref (u 57), .ref (u 58), .ref (u 59), .ref (u 60), .ref (u 61), .ref (u 62), .int 0])), ((u 4), .inr (2, [.ref (u 42), .ref (u 43), .int 0, .int 0, .int 0, .int 0])), ((u 3), .inr (5, [.ref (u 30), .ref (u 31), .ref (u 32), .ref (u 33), .ref (u 34), .ref (u 35), .ref (u 36), .ref (u 37), .ref (u 38), .ref (u 39), .ref (u 40), .ref (u 41), .int 0, .int 0, .int 0]))]) h iw_X2 tyX2 tyX2_ok nmX2 3 rfl rfl 5 (by decide) tw_280 rfl rfl rfl (Nat.le_of_ble_eq_true rfl) dX11_forgetAllOfOldSchool_25 rfl ?_
  refine j_iinc (v := 2) (lv' := [(1, .int 2), (0, .ref h0)]) h dX11_forgetAllOfOldSchool_28 0 rfl (by decide) (by decide) rfl ?_
  refine j_goto h 13 dX11_forgetAllOfOldSchool_31 (by decide) ?_
  refine j_iload_n h 0 rfl rfl dX11_forgetAllOfOldSchool_13 ?_
  refine j_iconst (v := 3) h (by decide) dX11_forgetAllOfOldSchool_14 ?_
  refine j_icmp_ge h 34 dX11_forgetAllOfOldSchool_15 (by decide) (fun q => absurd q (by decide)) (fun _ => ?_)
  refine j_aload_n h 1 rfl rfl dX11_forgetAllOfOldSchool_18 ?_
  refine j_get h iw_X11 0 rfl rfl 5 (by decide) tw_480 rfl dX11_forgetAllOfOldSchool_19 ?_
  refine j_iload_n h 0 rfl rfl dX11_forgetAllOfOldSchool_22 ?_
  refine j_aldO h 1 4 rfl rfl 2 (by decide) (by decide) (by decide) (rfl) dX11_forgetAllOfOldSchool_23 ?_
  refine j_iconst (v := 0) h (by decide) dX11_forgetAllOfOldSchool_24 ?_
  refine j_put (ws' := [(h0, .inr (11, [.ref (u 0), .ref (u 1), .ref (u 3), .ref (u 2), .ref (u 4), .ref (u 5), .ref (u 6), .ref (u 7), .ref (u 8), .ref (u 9), .ref (u 10), .ref (u 11), .ref (u 12), .ref (u 13), .ref (u 14), .ref (u 15), .ref (u 16), .int 0, .int 0])), ((u 5), .inl (kA 4, 3, .inr (.inr (.inr (.inr (va_up (va_up (va_up (fun _ => none) 0 (some (u 44))) 1 (some (u 45))) 2 (some (u 46)))))))), ((u 44), .inr (2, [.ref (u 47), .ref (u 48), .int 0, .int 0, .int 0, .int 0])), ((u 45), .inr (2, [.ref (u 49), .ref (u 50), .int 0, .int 0, .int 0, .int 0])), ((u 46), .inr (2, [.ref (u 51), .ref (u 52), .int 0, .int 0, .int 0, .int 0])), ((u 6), .inl (kA 5, 2, .inr (.inr (.inr (.inr (va_up (va_up (fun _ => none) 0 (some (u 53))) 1 (some (u 54)))))))), ((u 53), .inr (10, [.ref (u 55), .int 0, .int 0, .int 0])), ((u 54), .inr (10, [.ref (u 56), .int 0, .int 0, .int 0])), ((u 7), .inr (8, [.ref (u 57), .ref (u 58), .ref (u 59), .ref (u 60), .ref (u 61), .ref (u 62), .int 0])), ((u 4), .inr (2, [.ref (u 42), .ref (u 43), .int 0, .int 0, .int 0, .int 0])), ((u 3), .inr (5, [.ref (u 30), .ref (u 31), .ref (u 32), .ref (u 33), .ref (u 34), .ref (u 35), .ref (u 36), .ref (u 37), .ref (u 38), .ref (u 39), .ref (u 40), .ref (u 41), .int 0, .int 0, .int 0]))]) h iw_X2 tyX2 tyX2_ok nmX2 4 rfl rfl 5 (by decide) tw_280 rfl rfl rfl (Nat.le_of_ble_eq_true rfl) dX11_forgetAllOfOldSchool_25 rfl ?_
  refine j_iinc (v := 3) (lv' := [(1, .int 3), (0, .ref h0)]) h dX11_forgetAllOfOldSchool_28 0 rfl (by decide) (by decide) rfl ?_
  refine j_goto h 13 dX11_forgetAllOfOldSchool_31 (by decide) ?_
  refine j_iload_n h 0 rfl rfl dX11_forgetAllOfOldSchool_13 ?_
  refine j_iconst (v := 3) h (by decide) dX11_forgetAllOfOldSchool_14 ?_
  refine j_icmp_ge h 34 dX11_forgetAllOfOldSchool_15 (by decide) (fun _ => ?_) (fun q => absurd (by decide) q)
  refine j_iconst (v := 0) h (by decide) dX11_forgetAllOfOldSchool_34 ?_
  refine j_istore_n (lv' := [(1, .int 0), (0, .ref h0)]) h dX11_forgetAllOfOldSchool_35 rfl (by decide) rfl ?_
  refine j_iload_n h 0 rfl rfl dX11_forgetAllOfOldSchool_36 ?_
  refine j_iconst (v := 2) h (by decide) dX11_forgetAllOfOldSchool_37 ?_
  refine j_icmp_ge h 56 dX11_forgetAllOfOldSchool_38 (by decide) (fun q => absurd q (by decide)) (fun _ => ?_)
  refine j_aload_n h 1 rfl rfl dX11_forgetAllOfOldSchool_41 ?_
  refine j_get h iw_X11 0 rfl rfl 6 (by decide) tw_481 rfl dX11_forgetAllOfOldSchool_42 ?_
  refine j_iload_n h 0 rfl rfl dX11_forgetAllOfOldSchool_45 ?_
  refine j_aldO h 5 5 rfl rfl 0 (by decide) (by decide) (by decide) (rfl) dX11_forgetAllOfOldSchool_46 ?_
  refine j_callVv (np := 0) (isC := [6]) (isR := [0, 1, 2, 3, 4, 5, 7, 8, 9, 10]) (wc := [((u 53), .inr (10, [.ref (u 55), .int 0, .int 0, .int 0]))]) (wr := [(h0, .inr (11, [.ref (u 0), .ref (u 1), .ref (u 3), .ref (u 2), .ref (u 4), .ref (u 5), .ref (u 6), .ref (u 7), .ref (u 8), .ref (u 9), .ref (u 10), .ref (u 11), .ref (u 12), .ref (u 13), .ref (u 14), .ref (u 15), .ref (u 16), .int 0, .int 0])), ((u 5), .inl (kA 4, 3, .inr (.inr (.inr (.inr (va_up (va_up (va_up (fun _ => none) 0 (some (u 44))) 1 (some (u 45))) 2 (some (u 46)))))))), ((u 44), .inr (2, [.ref (u 47), .ref (u 48), .int 0, .int 0, .int 0, .int 0])), ((u 45), .inr (2, [.ref (u 49), .ref (u 50), .int 0, .int 0, .int 0, .int 0])), ((u 46), .inr (2, [.ref (u 51), .ref (u 52), .int 0, .int 0, .int 0, .int 0])), ((u 6), .inl (kA 5, 2, .inr (.inr (.inr (.inr (va_up (va_up (fun _ => none) 0 (some (u 53))) 1 (some (u 54)))))))), ((u 54), .inr (10, [.ref (u 56), .int 0, .int 0, .int 0])), ((u 7), .inr (8, [.ref (u 57), .ref (u 58), .ref (u 59), .ref (u 60), .ref (u 61), .ref (u 62), .int 0])), ((u 4), .inr (2, [.ref (u 42), .ref (u 43), .int 0, .int 0, .int 0, .int 0])), ((u 3), .inr (5, [.ref (u 30), .ref (u 31), .ref (u 32), .ref (u 33), .ref (u 34), .ref (u 35), .ref (u 36), .ref (u 37), .ref (u 38), .ref (u 39), .ref (u 40), .ref (u 41), .int 0, .int 0, .int 0]))]) (rest := []) (As := []) (q0 := 0) h (c_X10_clear _ _ kA (u 53) (u 55) ) tw_742 tw_743 tw_744 tw_92 tw_745 (by decide +kernel) rfl ⟨Nat.le_of_ble_eq_true rfl, Nat.le_of_ble_eq_true rfl⟩ rfl rfl rfl (by decide) rfl rfl (by decide) (by decide) (Nat.le_of_ble_eq_true rfl) rfl ⟨Nat.le_of_ble_eq_true rfl, Nat.le_of_ble_eq_true rfl⟩ dX11_forgetAllOfOldSchool_47 ?_
  rintro _ e292
  show J x [(h0, .inr (11, [.ref (u 0), .ref (u 1), .ref (u 3), .ref (u 2), .ref (u 4), .ref (u 5), .ref (u 6), .ref (u 7), .ref (u 8), .ref (u 9), .ref (u 10), .ref (u 11), .ref (u 12), .ref (u 13), .ref (u 14), .ref (u 15), .ref (u 16), .int 0, .int 0])), ((u 5), .inl (kA 4, 3, .inr (.inr (.inr (.inr (va_up (va_up (va_up (fun _ => none) 0 (some (u 44))) 1 (some (u 45))) 2 (some (u 46)))))))), ((u 44), .inr (2, [.ref (u 47), .ref (u 48), .int 0, .int 0, .int 0, .int 0])), ((u 45), .inr (2, [.ref (u 49), .ref (u 50), .int 0, .int 0, .int 0, .int 0])), ((u 46), .inr (2, [.ref (u 51), .ref (u 52), .int 0, .int 0, .int 0, .int 0])), ((u 6), .inl (kA 5, 2, .inr (.inr (.inr (.inr (va_up (va_up (fun _ => none) 0 (some (u 53))) 1 (some (u 54)))))))), ((u 54), .inr (10, [.ref (u 56), .int 0, .int 0, .int 0])), ((u 7), .inr (8, [.ref (u 57), .ref (u 58), .ref (u 59), .ref (u 60), .ref (u 61), .ref (u 62), .int 0])), ((u 4), .inr (2, [.ref (u 42), .ref (u 43), .int 0, .int 0, .int 0, .int 0])), ((u 3), .inr (5, [.ref (u 30), .ref (u 31), .ref (u 32), .ref (u 33), .ref (u 34), .ref (u 35), .ref (u 36), .ref (u 37), .ref (u 38), .ref (u 39), .ref (u 40), .ref (u 41), .int 0, .int 0, .int 0])), ((u 53), .inr (10, [.ref (u 55), .int 0, .int 0, .int 0]))] [(1, .int 0), (0, .ref h0)] 0 0 50 []
  refine j_iinc (v := 1) (lv' := [(1, .int 1), (0, .ref h0)]) h dX11_forgetAllOfOldSchool_50 0 rfl (by decide) (by decide) rfl ?_
  refine j_goto h 36 dX11_forgetAllOfOldSchool_53 (by decide) ?_
  refine j_iload_n h 0 rfl rfl dX11_forgetAllOfOldSchool_36 ?_
  refine j_iconst (v := 2) h (by decide) dX11_forgetAllOfOldSchool_37 ?_
  refine j_icmp_ge h 56 dX11_forgetAllOfOldSchool_38 (by decide) (fun q => absurd q (by decide)) (fun _ => ?_)
  refine j_aload_n h 1 rfl rfl dX11_forgetAllOfOldSchool_41 ?_
  refine j_get h iw_X11 0 rfl rfl 6 (by decide) tw_481 rfl dX11_forgetAllOfOldSchool_42 ?_
  refine j_iload_n h 0 rfl rfl dX11_forgetAllOfOldSchool_45 ?_
  refine j_aldO h 5 5 rfl rfl 1 (by decide) (by decide) (by decide) (rfl) dX11_forgetAllOfOldSchool_46 ?_
  refine j_callVv (np := 0) (isC := [6]) (isR := [0, 1, 2, 3, 4, 5, 7, 8, 9, 10]) (wc := [((u 54), .inr (10, [.ref (u 56), .int 0, .int 0, .int 0]))]) (wr := [(h0, .inr (11, [.ref (u 0), .ref (u 1), .ref (u 3), .ref (u 2), .ref (u 4), .ref (u 5), .ref (u 6), .ref (u 7), .ref (u 8), .ref (u 9), .ref (u 10), .ref (u 11), .ref (u 12), .ref (u 13), .ref (u 14), .ref (u 15), .ref (u 16), .int 0, .int 0])), ((u 5), .inl (kA 4, 3, .inr (.inr (.inr (.inr (va_up (va_up (va_up (fun _ => none) 0 (some (u 44))) 1 (some (u 45))) 2 (some (u 46)))))))), ((u 44), .inr (2, [.ref (u 47), .ref (u 48), .int 0, .int 0, .int 0, .int 0])), ((u 45), .inr (2, [.ref (u 49), .ref (u 50), .int 0, .int 0, .int 0, .int 0])), ((u 46), .inr (2, [.ref (u 51), .ref (u 52), .int 0, .int 0, .int 0, .int 0])), ((u 6), .inl (kA 5, 2, .inr (.inr (.inr (.inr (va_up (va_up (fun _ => none) 0 (some (u 53))) 1 (some (u 54)))))))), ((u 7), .inr (8, [.ref (u 57), .ref (u 58), .ref (u 59), .ref (u 60), .ref (u 61), .ref (u 62), .int 0])), ((u 4), .inr (2, [.ref (u 42), .ref (u 43), .int 0, .int 0, .int 0, .int 0])), ((u 3), .inr (5, [.ref (u 30), .ref (u 31), .ref (u 32), .ref (u 33), .ref (u 34), .ref (u 35), .ref (u 36), .ref (u 37), .ref (u 38), .ref (u 39), .ref (u 40), .ref (u 41), .int 0, .int 0, .int 0])), ((u 53), .inr (10, [.ref (u 55), .int 0, .int 0, .int 0]))]) (rest := []) (As := []) (q0 := 0) h (c_X10_clear _ _ kA (u 54) (u 56) ) tw_742 tw_743 tw_744 tw_92 tw_745 (by decide +kernel) rfl ⟨Nat.le_of_ble_eq_true rfl, Nat.le_of_ble_eq_true rfl⟩ rfl rfl rfl (by decide) rfl rfl (by decide) (by decide) (Nat.le_of_ble_eq_true rfl) rfl ⟨Nat.le_of_ble_eq_true rfl, Nat.le_of_ble_eq_true rfl⟩ dX11_forgetAllOfOldSchool_47 ?_
  rintro _ e293
  show J x [(h0, .inr (11, [.ref (u 0), .ref (u 1), .ref (u 3), .ref (u 2), .ref (u 4), .ref (u 5), .ref (u 6), .ref (u 7), .ref (u 8), .ref (u 9), .ref (u 10), .ref (u 11), .ref (u 12), .ref (u 13), .ref (u 14), .ref (u 15), .ref (u 16), .int 0, .int 0])), ((u 5), .inl (kA 4, 3, .inr (.inr (.inr (.inr (va_up (va_up (va_up (fun _ => none) 0 (some (u 44))) 1 (some (u 45))) 2 (some (u 46)))))))), ((u 44), .inr (2, [.ref (u 47), .ref (u 48), .int 0, .int 0, .int 0, .int 0])), ((u 45), .inr (2, [.ref (u 49), .ref (u 50), .int 0, .int 0, .int 0, .int 0])), ((u 46), .inr (2, [.ref (u 51), .ref (u 52), .int 0, .int 0, .int 0, .int 0])), ((u 6), .inl (kA 5, 2, .inr (.inr (.inr (.inr (va_up (va_up (fun _ => none) 0 (some (u 53))) 1 (some (u 54)))))))), ((u 7), .inr (8, [.ref (u 57), .ref (u 58), .ref (u 59), .ref (u 60), .ref (u 61), .ref (u 62), .int 0])), ((u 4), .inr (2, [.ref (u 42), .ref (u 43), .int 0, .int 0, .int 0, .int 0])), ((u 3), .inr (5, [.ref (u 30), .ref (u 31), .ref (u 32), .ref (u 33), .ref (u 34), .ref (u 35), .ref (u 36), .ref (u 37), .ref (u 38), .ref (u 39), .ref (u 40), .ref (u 41), .int 0, .int 0, .int 0])), ((u 53), .inr (10, [.ref (u 55), .int 0, .int 0, .int 0])), ((u 54), .inr (10, [.ref (u 56), .int 0, .int 0, .int 0]))] [(1, .int 1), (0, .ref h0)] 0 0 50 []
  refine j_iinc (v := 2) (lv' := [(1, .int 2), (0, .ref h0)]) h dX11_forgetAllOfOldSchool_50 0 rfl (by decide) (by decide) rfl ?_
  refine j_goto h 36 dX11_forgetAllOfOldSchool_53 (by decide) ?_
  refine j_iload_n h 0 rfl rfl dX11_forgetAllOfOldSchool_36 ?_
  refine j_iconst (v := 2) h (by decide) dX11_forgetAllOfOldSchool_37 ?_
  refine j_icmp_ge h 56 dX11_forgetAllOfOldSchool_38 (by decide) (fun _ => ?_) (fun q => absurd (by decide) q)
  refine j_aload_n h 1 rfl rfl dX11_forgetAllOfOldSchool_56 ?_
  refine j_get h iw_X11 0 rfl rfl 7 (by decide) tw_482 rfl dX11_forgetAllOfOldSchool_57 ?_
  refine j_iconst (v := 0) h (by decide) dX11_forgetAllOfOldSchool_60 ?_
  refine j_put (ws' := [(h0, .inr (11, [.ref (u 0), .ref (u 1), .ref (u 3), .ref (u 2), .ref (u 4), .ref (u 5), .ref (u 6), .ref (u 7), .ref (u 8), .ref (u 9), .ref (u 10), .ref (u 11), .ref (u 12), .ref (u 13), .ref (u 14), .ref (u 15), .ref (u 16), .int 0, .int 0])), ((u 5), .inl (kA 4, 3, .inr (.inr (.inr (.inr (va_up (va_up (va_up (fun _ => none) 0 (some (u 44))) 1 (some (u 45))) 2 (some (u 46)))))))), ((u 44), .inr (2, [.ref (u 47), .ref (u 48), .int 0, .int 0, .int 0, .int 0])), ((u 45), .inr (2, [.ref (u 49), .ref (u 50), .int 0, .int 0, .int 0, .int 0])), ((u 46), .inr (2, [.ref (u 51), .ref (u 52), .int 0, .int 0, .int 0, .int 0])), ((u 6), .inl (kA 5, 2, .inr (.inr (.inr (.inr (va_up (va_up (fun _ => none) 0 (some (u 53))) 1 (some (u 54)))))))), ((u 7), .inr (8, [.ref (u 57), .ref (u 58), .ref (u 59), .ref (u 60), .ref (u 61), .ref (u 62), .int 0])), ((u 4), .inr (2, [.ref (u 42), .ref (u 43), .int 0, .int 0, .int 0, .int 0])), ((u 3), .inr (5, [.ref (u 30), .ref (u 31), .ref (u 32), .ref (u 33), .ref (u 34), .ref (u 35), .ref (u 36), .ref (u 37), .ref (u 38), .ref (u 39), .ref (u 40), .ref (u 41), .int 0, .int 0, .int 0])), ((u 53), .inr (10, [.ref (u 55), .int 0, .int 0, .int 0])), ((u 54), .inr (10, [.ref (u 56), .int 0, .int 0, .int 0]))]) h iw_X8 tyX8 tyX8_ok nmX8 6 rfl rfl 6 (by decide) tw_334 rfl rfl rfl (Nat.le_of_ble_eq_true rfl) dX11_forgetAllOfOldSchool_61 rfl ?_
  refine j_aload_n h 1 rfl rfl dX11_forgetAllOfOldSchool_64 ?_
  refine j_iconst (v := 0) h (by decide) dX11_forgetAllOfOldSchool_65 ?_
  refine j_put (ws' := [(h0, .inr (11, [.ref (u 0), .ref (u 1), .ref (u 3), .ref (u 2), .ref (u 4), .ref (u 5), .ref (u 6), .ref (u 7), .ref (u 8), .ref (u 9), .ref (u 10), .ref (u 11), .ref (u 12), .ref (u 13), .ref (u 14), .ref (u 15), .ref (u 16), .int 0, .int 0])), ((u 5), .inl (kA 4, 3, .inr (.inr (.inr (.inr (va_up (va_up (va_up (fun _ => none) 0 (some (u 44))) 1 (some (u 45))) 2 (some (u 46)))))))), ((u 44), .inr (2, [.ref (u 47), .ref (u 48), .int 0, .int 0, .int 0, .int 0])), ((u 45), .inr (2, [.ref (u 49), .ref (u 50), .int 0, .int 0, .int 0, .int 0])), ((u 46), .inr (2, [.ref (u 51), .ref (u 52), .int 0, .int 0, .int 0, .int 0])), ((u 6), .inl (kA 5, 2, .inr (.inr (.inr (.inr (va_up (va_up (fun _ => none) 0 (some (u 53))) 1 (some (u 54)))))))), ((u 7), .inr (8, [.ref (u 57), .ref (u 58), .ref (u 59), .ref (u 60), .ref (u 61), .ref (u 62), .int 0])), ((u 4), .inr (2, [.ref (u 42), .ref (u 43), .int 0, .int 0, .int 0, .int 0])), ((u 3), .inr (5, [.ref (u 30), .ref (u 31), .ref (u 32), .ref (u 33), .ref (u 34), .ref (u 35), .ref (u 36), .ref (u 37), .ref (u 38), .ref (u 39), .ref (u 40), .ref (u 41), .int 0, .int 0, .int 0])), ((u 53), .inr (10, [.ref (u 55), .int 0, .int 0, .int 0])), ((u 54), .inr (10, [.ref (u 56), .int 0, .int 0, .int 0]))]) h iw_X11 tyX11 tyX11_ok nmX11 0 rfl rfl 17 (by decide) tw_492 rfl rfl rfl (Nat.le_of_ble_eq_true rfl) dX11_forgetAllOfOldSchool_66 rfl ?_
  exact j_vret h hq dX11_forgetAllOfOldSchool_69 () [0, 8] rfl rfl (by decide) trivial (Nat.le_of_ble_eq_true rfl) (Nat.le_of_ble_eq_true rfl)
set_option maxHeartbeats 4000000 in
set_option maxRecDepth 100000 in
theorem c_X11_school (l : Launch) (g : va_G) (kA : Nat → ClassId) (h0 : Nat) (u : Nat → Nat)  : CtI l yX11_school cX11_school 3 (some .int) 5 0 0 g kA [.ref h0] [(h0, .inr (11, [.ref (u 0), .ref (u 1), .ref (u 2), .ref (u 3), .ref (u 4), .ref (u 5), .ref (u 6), .ref (u 7), .ref (u 8), .ref (u 9), .ref (u 10), .ref (u 11), .ref (u 12), .ref (u 13), .ref (u 14), .ref (u 15), .ref (u 16), .int 0, .int 0])), ((u 0), .inr (9, [.ref (u 17), .int 0, .int 0, .int 0, .int 0, .long 0, .int 0])), ((u 1), .inr (6, [.int 0, .int (-1), .int 0])), ((u 3), .inr (5, [.ref (u 30), .ref (u 31), .ref (u 32), .ref (u 33), .ref (u 34), .ref (u 35), .ref (u 36), .ref (u 37), .ref (u 38), .ref (u 39), .ref (u 40), .ref (u 41), .int 0, .int 0, .int 0])), ((u 32), .inl (kA 1, 6, .inl (fun _ => 0))), ((u 4), .inr (2, [.ref (u 42), .ref (u 43), .int 0, .int 0, .int 0, .int 0])), ((u 43), .inl (kA 1, 6, .inl (fun _ => 0))), ((u 5), .inl (kA 4, 3, .inr (.inr (.inr (.inr (va_up (va_up (va_up (fun _ => none) 0 (some (u 44))) 1 (some (u 45))) 2 (some (u 46)))))))), ((u 44), .inr (2, [.ref (u 47), .ref (u 48), .int 0, .int 0, .int 0, .int 0])), ((u 45), .inr (2, [.ref (u 49), .ref (u 50), .int 0, .int 0, .int 0, .int 0])), ((u 46), .inr (2, [.ref (u 51), .ref (u 52), .int 0, .int 0, .int 0, .int 0])), ((u 6), .inl (kA 5, 2, .inr (.inr (.inr (.inr (va_up (va_up (fun _ => none) 0 (some (u 53))) 1 (some (u 54)))))))), ((u 53), .inr (10, [.ref (u 55), .int 0, .int 0, .int 0])), ((u 54), .inr (10, [.ref (u 56), .int 0, .int 0, .int 0])), ((u 7), .inr (8, [.ref (u 57), .ref (u 58), .ref (u 59), .ref (u 60), .ref (u 61), .ref (u 62), .int 0]))] (S := Unit) (fun (r : Int32) (_ : Unit) => r = 0) (fun (_ : Unit) => []) := by
  refine nx_startI (by decide +kernel) (Nat.le_of_ble_eq_true rfl) ?_
  intro x hnm h hq
  have h : Ok x cX11_school RX11 kA (rmC 5 0 0) 3 := h
  show J x [(h0, .inr (11, [.ref (u 0), .ref (u 1), .ref (u 2), .ref (u 3), .ref (u 4), .ref (u 5), .ref (u 6), .ref (u 7), .ref (u 8), .ref (u 9), .ref (u 10), .ref (u 11), .ref (u 12), .ref (u 13), .ref (u 14), .ref (u 15), .ref (u 16), .int 0, .int 0])), ((u 0), .inr (9, [.ref (u 17), .int 0, .int 0, .int 0, .int 0, .long 0, .int 0])), ((u 1), .inr (6, [.int 0, .int (-1), .int 0])), ((u 3), .inr (5, [.ref (u 30), .ref (u 31), .ref (u 32), .ref (u 33), .ref (u 34), .ref (u 35), .ref (u 36), .ref (u 37), .ref (u 38), .ref (u 39), .ref (u 40), .ref (u 41), .int 0, .int 0, .int 0])), ((u 32), .inl (kA 1, 6, .inl (fun _ => 0))), ((u 4), .inr (2, [.ref (u 42), .ref (u 43), .int 0, .int 0, .int 0, .int 0])), ((u 43), .inl (kA 1, 6, .inl (fun _ => 0))), ((u 5), .inl (kA 4, 3, .inr (.inr (.inr (.inr (va_up (va_up (va_up (fun _ => none) 0 (some (u 44))) 1 (some (u 45))) 2 (some (u 46)))))))), ((u 44), .inr (2, [.ref (u 47), .ref (u 48), .int 0, .int 0, .int 0, .int 0])), ((u 45), .inr (2, [.ref (u 49), .ref (u 50), .int 0, .int 0, .int 0, .int 0])), ((u 46), .inr (2, [.ref (u 51), .ref (u 52), .int 0, .int 0, .int 0, .int 0])), ((u 6), .inl (kA 5, 2, .inr (.inr (.inr (.inr (va_up (va_up (fun _ => none) 0 (some (u 53))) 1 (some (u 54)))))))), ((u 53), .inr (10, [.ref (u 55), .int 0, .int 0, .int 0])), ((u 54), .inr (10, [.ref (u 56), .int 0, .int 0, .int 0])), ((u 7), .inr (8, [.ref (u 57), .ref (u 58), .ref (u 59), .ref (u 60), .ref (u 61), .ref (u 62), .int 0]))] [(0, .ref h0)] 0 0 0 []
  refine j_aload_n h 0 rfl rfl dX11_school_0 ?_
  refine j_get h iw_X11 0 rfl rfl 1 (by decide) tw_476 rfl dX11_school_1 ?_
  refine j_aload_n h 0 rfl rfl dX11_school_4 ?_
  refine j_get h iw_X11 0 rfl rfl 0 (by decide) tw_475 rfl dX11_school_5 ?_
  refine j_aload_n h 0 rfl rfl dX11_school_8 ?_
  refine j_get h iw_X11 0 rfl rfl 3 (by decide) tw_478 rfl dX11_school_9 ?_
  refine j_callVi (np := 2) (isC := [2, 1, 3]) (isR := [0, 4, 5, 6, 7, 8, 9, 10, 11, 12, 13, 14]) (wc := [((u 1), .inr (6, [.int 0, .int (-1), .int 0])), ((u 0), .inr (9, [.ref (u 17), .int 0, .int 0, .int 0, .int 0, .long 0, .int 0])), ((u 3), .inr (5, [.ref (u 30), .ref (u 31), .ref (u 32), .ref (u 33), .ref (u 34), .ref (u 35), .ref (u 36), .ref (u 37), .ref (u 38), .ref (u 39), .ref (u 40), .ref (u 41), .int 0, .int 0, .int 0]))]) (wr := [(h0, .inr (11, [.ref (u 0), .ref (u 1), .ref (u 2), .ref (u 3), .ref (u 4), .ref (u 5), .ref (u 6), .ref (u 7), .ref (u 8), .ref (u 9), .ref (u 10), .ref (u 11), .ref (u 12), .ref (u 13), .ref (u 14), .ref (u 15), .ref (u 16), .int 0, .int 0])), ((u 32), .inl (kA 1, 6, .inl (fun _ => 0))), ((u 4), .inr (2, [.ref (u 42), .ref (u 43), .int 0, .int 0, .int 0, .int 0])), ((u 43), .inl (kA 1, 6, .inl (fun _ => 0))), ((u 5), .inl (kA 4, 3, .inr (.inr (.inr (.inr (va_up (va_up (va_up (fun _ => none) 0 (some (u 44))) 1 (some (u 45))) 2 (some (u 46)))))))), ((u 44), .inr (2, [.ref (u 47), .ref (u 48), .int 0, .int 0, .int 0, .int 0])), ((u 45), .inr (2, [.ref (u 49), .ref (u 50), .int 0, .int 0, .int 0, .int 0])), ((u 46), .inr (2, [.ref (u 51), .ref (u 52), .int 0, .int 0, .int 0, .int 0])), ((u 6), .inl (kA 5, 2, .inr (.inr (.inr (.inr (va_up (va_up (fun _ => none) 0 (some (u 53))) 1 (some (u 54)))))))), ((u 53), .inr (10, [.ref (u 55), .int 0, .int 0, .int 0])), ((u 54), .inr (10, [.ref (u 56), .int 0, .int 0, .int 0])), ((u 7), .inr (8, [.ref (u 57), .ref (u 58), .ref (u 59), .ref (u 60), .ref (u 61), .ref (u 62), .int 0]))]) (rest := []) (As := [.ref (u 0), .ref (u 3)]) (q0 := 0) h (c_X6_readSchool _ _ kA (u 1) (u 0) (u 17) (u 3) (u 30) (u 31) (u 32) (u 33) (u 34) (u 35) (u 36) (u 37) (u 38) (u 39) (u 40) (u 41) ) tw_553 tw_554 tw_555 tw_89 tw_556 (by decide +kernel) rfl ⟨Nat.le_of_ble_eq_true rfl, Nat.le_of_ble_eq_true rfl⟩ rfl rfl rfl (by decide) rfl rfl (by decide) (by decide) (Nat.le_of_ble_eq_true rfl) rfl ⟨Nat.le_of_ble_eq_true rfl, Nat.le_of_ble_eq_true rfl⟩ dX11_school_12 ?_
  rintro r _ e294
  subst e294
  show J x [(h0, .inr (11, [.ref (u 0), .ref (u 1), .ref (u 2), .ref (u 3), .ref (u 4), .ref (u 5), .ref (u 6), .ref (u 7), .ref (u 8), .ref (u 9), .ref (u 10), .ref (u 11), .ref (u 12), .ref (u 13), .ref (u 14), .ref (u 15), .ref (u 16), .int 0, .int 0])), ((u 32), .inl (kA 1, 6, .inl (fun _ => 0))), ((u 4), .inr (2, [.ref (u 42), .ref (u 43), .int 0, .int 0, .int 0, .int 0])), ((u 43), .inl (kA 1, 6, .inl (fun _ => 0))), ((u 5), .inl (kA 4, 3, .inr (.inr (.inr (.inr (va_up (va_up (va_up (fun _ => none) 0 (some (u 44))) 1 (some (u 45))) 2 (some (u 46)))))))), ((u 44), .inr (2, [.ref (u 47), .ref (u 48), .int 0, .int 0, .int 0, .int 0])), ((u 45), .inr (2, [.ref (u 49), .ref (u 50), .int 0, .int 0, .int 0, .int 0])), ((u 46), .inr (2, [.ref (u 51), .ref (u 52), .int 0, .int 0, .int 0, .int 0])), ((u 6), .inl (kA 5, 2, .inr (.inr (.inr (.inr (va_up (va_up (fun _ => none) 0 (some (u 53))) 1 (some (u 54)))))))), ((u 53), .inr (10, [.ref (u 55), .int 0, .int 0, .int 0])), ((u 54), .inr (10, [.ref (u 56), .int 0, .int 0, .int 0])), ((u 7), .inr (8, [.ref (u 57), .ref (u 58), .ref (u 59), .ref (u 60), .ref (u 61), .ref (u 62), .int 0])), ((u 1), .inr (6, [.int 0, .int (-1), .int 0])), ((u 0), .inr (9, [.ref (u 17), .int 0, .int 0, .int 0, .int 0, .long 0, .int 0])), ((u 3), .inr (5, [.ref (u 30), .ref (u 31), .ref (u 32), .ref (u 33), .ref (u 34), .ref (u 35), .ref (u 36), .ref (u 37), .ref (u 38), .ref (u 39), .ref (u 40), .ref (u 41), .int 0, .int 0, .int 0]))] [(0, .ref h0)] 0 0 15 [.int 1]
  refine j_istore_n (lv' := [(1, .int 1), (0, .ref h0)]) h dX11_school_15 rfl (by decide) rfl ?_
  refine j_aload_n h 1 rfl rfl dX11_school_16 ?_
  refine j_get h iw_X11 0 rfl rfl 0 (by decide) tw_475 rfl dX11_school_17 ?_
  refine j_iconst (v := 0) h (by decide) dX11_school_20 ?_
  refine j_put (ws' := [(h0, .inr (11, [.ref (u 0), .ref (u 1), .ref (u 2), .ref (u 3), .ref (u 4), .ref (u 5), .ref (u 6), .ref (u 7), .ref (u 8), .ref (u 9), .ref (u 10), .ref (u 11), .ref (u 12), .ref (u 13), .ref (u 14), .ref (u 15), .ref (u 16), .int 0, .int 0])), ((u 32), .inl (kA 1, 6, .inl (fun _ => 0))), ((u 4), .inr (2, [.ref (u 42), .ref (u 43), .int 0, .int 0, .int 0, .int 0])), ((u 43), .inl (kA 1, 6, .inl (fun _ => 0))), ((u 5), .inl (kA 4, 3, .inr (.inr (.inr (.inr (va_up (va_up (va_up (fun _ => none) 0 (some (u 44))) 1 (some (u 45))) 2 (some (u 46)))))))), ((u 44), .inr (2, [.ref (u 47), .ref (u 48), .int 0, .int 0, .int 0, .int 0])), ((u 45), .inr (2, [.ref (u 49), .ref (u 50), .int 0, .int 0, .int 0, .int 0])), ((u 46), .inr (2, [.ref (u 51), .ref (u 52), .int 0, .int 0, .int 0, .int 0])), ((u 6), .inl (kA 5, 2, .inr (.inr (.inr (.inr (va_up (va_up (fun _ => none) 0 (some (u 53))) 1 (some (u 54)))))))), ((u 53), .inr (10, [.ref (u 55), .int 0, .int 0, .int 0])), ((u 54), .inr (10, [.ref (u 56), .int 0, .int 0, .int 0])), ((u 7), .inr (8, [.ref (u 57), .ref (u 58), .ref (u 59), .ref (u 60), .ref (u 61), .ref (u 62), .int 0])), ((u 1), .inr (6, [.int 0, .int (-1), .int 0])), ((u 0), .inr (9, [.ref (u 17), .int 0, .int 0, .int 0, .int 0, .long 0, .int 0])), ((u 3), .inr (5, [.ref (u 30), .ref (u 31), .ref (u 32), .ref (u 33), .ref (u 34), .ref (u 35), .ref (u 36), .ref (u 37), .ref (u 38), .ref (u 39), .ref (u 40), .ref (u 41), .int 0, .int 0, .int 0]))]) h iw_X9 tyX9 tyX9_ok nmX9 13 rfl rfl 1 (by decide) tw_123 rfl rfl rfl (Nat.le_of_ble_eq_true rfl) dX11_school_21 rfl ?_
  refine j_iload_n h 0 rfl rfl dX11_school_24 ?_
  refine j_if_ne h 30 dX11_school_25 (by decide) (fun _ => ?_) (fun q => absurd q (by decide))
  refine j_aload_n h 1 rfl rfl dX11_school_30 ?_
  refine j_get h iw_X11 0 rfl rfl 2 (by decide) tw_477 rfl dX11_school_31 ?_
  refine j_astore_n (lv' := [(2, .ref (u 2)), (1, .int 1), (0, .ref h0)]) h dX11_school_34 rfl (by decide) rfl ?_
  refine j_aload_n h 2 rfl rfl dX11_school_35 ?_
  refine j_aload_n h 2 rfl rfl dX11_school_36 ?_
  refine j_get h iw_X11 0 rfl rfl 3 (by decide) tw_478 rfl dX11_school_37 ?_
  refine j_put (ws' := [(h0, .inr (11, [.ref (u 0), .ref (u 1), .ref (u 3), .ref (u 3), .ref (u 4), .ref (u 5), .ref (u 6), .ref (u 7), .ref (u 8), .ref (u 9), .ref (u 10), .ref (u 11), .ref (u 12), .ref (u 13), .ref (u 14), .ref (u 15), .ref (u 16), .int 0, .int 0])), ((u 32), .inl (kA 1, 6, .inl (fun _ => 0))), ((u 4), .inr (2, [.ref (u 42), .ref (u 43), .int 0, .int 0, .int 0, .int 0])), ((u 43), .inl (kA 1, 6, .inl (fun _ => 0))), ((u 5), .inl (kA 4, 3, .inr (.inr (.inr (.inr (va_up (va_up (va_up (fun _ => none) 0 (some (u 44))) 1 (some (u 45))) 2 (some (u 46)))))))), ((u 44), .inr (2, [.ref (u 47), .ref (u 48), .int 0, .int 0, .int 0, .int 0])), ((u 45), .inr (2, [.ref (u 49), .ref (u 50), .int 0, .int 0, .int 0, .int 0])), ((u 46), .inr (2, [.ref (u 51), .ref (u 52), .int 0, .int 0, .int 0, .int 0])), ((u 6), .inl (kA 5, 2, .inr (.inr (.inr (.inr (va_up (va_up (fun _ => none) 0 (some (u 53))) 1 (some (u 54)))))))), ((u 53), .inr (10, [.ref (u 55), .int 0, .int 0, .int 0])), ((u 54), .inr (10, [.ref (u 56), .int 0, .int 0, .int 0])), ((u 7), .inr (8, [.ref (u 57), .ref (u 58), .ref (u 59), .ref (u 60), .ref (u 61), .ref (u 62), .int 0])), ((u 1), .inr (6, [.int 0, .int (-1), .int 0])), ((u 0), .inr (9, [.ref (u 17), .int 0, .int 0, .int 0, .int 0, .long 0, .int 0])), ((u 3), .inr (5, [.ref (u 30), .ref (u 31), .ref (u 32), .ref (u 33), .ref (u 34), .ref (u 35), .ref (u 36), .ref (u 37), .ref (u 38), .ref (u 39), .ref (u 40), .ref (u 41), .int 0, .int 0, .int 0]))]) h iw_X11 tyX11 tyX11_ok nmX11 0 rfl rfl 2 (by decide) tw_477 rfl rfl rfl (Nat.le_of_ble_eq_true rfl) dX11_school_40 rfl ?_
  refine j_aload_n h 2 rfl rfl dX11_school_43 ?_
  refine j_aload_n h 0 rfl rfl dX11_school_44 ?_
  refine j_put (ws' := [(h0, .inr (11, [.ref (u 0), .ref (u 1), .ref (u 3), .ref (u 2), .ref (u 4), .ref (u 5), .ref (u 6), .ref (u 7), .ref (u 8), .ref (u 9), .ref (u 10), .ref (u 11), .ref (u 12), .ref (u 13), .ref (u 14), .ref (u 15), .ref (u 16), .int 0, .int 0])), ((u 32), .inl (kA 1, 6, .inl (fun _ => 0))), ((u 4), .inr (2, [.ref (u 42), .ref (u 43), .int 0, .int 0, .int 0, .int 0])), ((u 43), .inl (kA 1, 6, .inl (fun _ => 0))), ((u 5), .inl (kA 4, 3, .inr (.inr (.inr (.inr (va_up (va_up (va_up (fun _ => none) 0 (some (u 44))) 1 (some (u 45))) 2 (some (u 46)))))))), ((u 44), .inr (2, [.ref (u 47), .ref (u 48), .int 0, .int 0, .int 0, .int 0])), ((u 45), .inr (2, [.ref (u 49), .ref (u 50), .int 0, .int 0, .int 0, .int 0])), ((u 46), .inr (2, [.ref (u 51), .ref (u 52), .int 0, .int 0, .int 0, .int 0])), ((u 6), .inl (kA 5, 2, .inr (.inr (.inr (.inr (va_up (va_up (fun _ => none) 0 (some (u 53))) 1 (some (u 54)))))))), ((u 53), .inr (10, [.ref (u 55), .int 0, .int 0, .int 0])), ((u 54), .inr (10, [.ref (u 56), .int 0, .int 0, .int 0])), ((u 7), .inr (8, [.ref (u 57), .ref (u 58), .ref (u 59), .ref (u 60), .ref (u 61), .ref (u 62), .int 0])), ((u 1), .inr (6, [.int 0, .int (-1), .int 0])), ((u 0), .inr (9, [.ref (u 17), .int 0, .int 0, .int 0, .int 0, .long 0, .int 0])), ((u 3), .inr (5, [.ref (u 30), .ref (u 31), .ref (u 32), .ref (u 33), .ref (u 34), .ref (u 35), .ref (u 36), .ref (u 37), .ref (u 38), .ref (u 39), .ref (u 40), .ref (u 41), .int 0, .int 0, .int 0]))]) h iw_X11 tyX11 tyX11_ok nmX11 0 rfl rfl 3 (by decide) tw_478 rfl rfl rfl (Nat.le_of_ble_eq_true rfl) dX11_school_45 rfl ?_
  refine j_aload_n h 2 rfl rfl dX11_school_48 ?_
  refine j_callVv (np := 0) (isC := [0, 14, 1, 2, 3, 4, 5, 6, 7, 8, 9, 10, 11]) (isR := [12, 13]) (wc := [(h0, .inr (11, [.ref (u 0), .ref (u 1), .ref (u 3), .ref (u 2), .ref (u 4), .ref (u 5), .ref (u 6), .ref (u 7), .ref (u 8), .ref (u 9), .ref (u 10), .ref (u 11), .ref (u 12), .ref (u 13), .ref (u 14), .ref (u 15), .ref (u 16), .int 0, .int 0])), ((u 3), .inr (5, [.ref (u 30), .ref (u 31), .ref (u 32), .ref (u 33), .ref (u 34), .ref (u 35), .ref (u 36), .ref (u 37), .ref (u 38), .ref (u 39), .ref (u 40), .ref (u 41), .int 0, .int 0, .int 0])), ((u 32), .inl (kA 1, 6, .inl (fun _ => 0))), ((u 4), .inr (2, [.ref (u 42), .ref (u 43), .int 0, .int 0, .int 0, .int 0])), ((u 43), .inl (kA 1, 6, .inl (fun _ => 0))), ((u 5), .inl (kA 4, 3, .inr (.inr (.inr (.inr (va_up (va_up (va_up (fun _ => none) 0 (some (u 44))) 1 (some (u 45))) 2 (some (u 46)))))))), ((u 44), .inr (2, [.ref (u 47), .ref (u 48), .int 0, .int 0, .int 0, .int 0])), ((u 45), .inr (2, [.ref (u 49), .ref (u 50), .int 0, .int 0, .int 0, .int 0])), ((u 46), .inr (2, [.ref (u 51), .ref (u 52), .int 0, .int 0, .int 0, .int 0])), ((u 6), .inl (kA 5, 2, .inr (.inr (.inr (.inr (va_up (va_up (fun _ => none) 0 (some (u 53))) 1 (some (u 54)))))))), ((u 53), .inr (10, [.ref (u 55), .int 0, .int 0, .int 0])), ((u 54), .inr (10, [.ref (u 56), .int 0, .int 0, .int 0])), ((u 7), .inr (8, [.ref (u 57), .ref (u 58), .ref (u 59), .ref (u 60), .ref (u 61), .ref (u 62), .int 0]))]) (wr := [((u 1), .inr (6, [.int 0, .int (-1), .int 0])), ((u 0), .inr (9, [.ref (u 17), .int 0, .int 0, .int 0, .int 0, .long 0, .int 0]))]) (rest := []) (As := []) (q0 := 0) h (c_X11_forget _ _ kA h0 u ) tw_727 tw_729 tw_14 tw_87 tw_730 (by decide +kernel) rfl ⟨Nat.le_of_ble_eq_true rfl, Nat.le_of_ble_eq_true rfl⟩ rfl rfl rfl (by decide) rfl rfl (by decide) (by decide) (Nat.le_of_ble_eq_true rfl) rfl ⟨Nat.le_of_ble_eq_true rfl, Nat.le_of_ble_eq_true rfl⟩ dX11_school_49 ?_
  rintro _ e295
  show J x [((u 1), .inr (6, [.int 0, .int (-1), .int 0])), ((u 0), .inr (9, [.ref (u 17), .int 0, .int 0, .int 0, .int 0, .long 0, .int 0])), (h0, .inr (11, [.ref (u 0), .ref (u 1), .ref (u 3), .ref (u 2), .ref (u 4), .ref (u 5), .ref (u 6), .ref (u 7), .ref (u 8), .ref (u 9), .ref (u 10), .ref (u 11), .ref (u 12), .ref (u 13), .ref (u 14), .ref (u 15), .ref (u 16), .int 0, .int 0])), ((u 3), .inr (5, [.ref (u 30), .ref (u 31), .ref (u 32), .ref (u 33), .ref (u 34), .ref (u 35), .ref (u 36), .ref (u 37), .ref (u 38), .ref (u 39), .ref (u 40), .ref (u 41), .int 0, .int 0, .int 0]))] [(2, .ref (u 2)), (1, .int 1), (0, .ref h0)] 0 0 52 []
  refine j_aload_n h 2 rfl rfl dX11_school_52 ?_
  refine j_get h iw_X11 2 rfl rfl 2 (by decide) tw_477 rfl dX11_school_53 ?_
  refine j_get h iw_X5 3 rfl rfl 13 (by decide) tw_225 rfl dX11_school_56 ?_
  exact j_iret h hq dX11_school_59 () [] rfl rfl (by decide) (by first | rfl | simp only [↓reduceIte]) (Nat.le_of_ble_eq_true rfl) (Nat.le_of_ble_eq_true rfl)
