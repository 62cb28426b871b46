theorem tsum_s {tk row : Nat → Int32} {j k t S : Nat} (hS : S = tsum tk row j) (hr : row j = nI k) (hk : k < 2147483648) (ht : tk k = nI t) (h9 : t < 2147483648) : S + t = tsum tk row (j + 1) := by
  show _ = tsum tk row j + (tk (row j).toNatClampNeg).toNatClampNeg
  rw [hr, nI_clamp hk, ht, nI_clamp h9, hS]
theorem upG_s {f : Nat → Nat → Int32} {r k : Nat} {v : Int32} : upG f r k v r k = v := by
  unfold upG
  rw [if_pos rfl, pk_us]
theorem upG_k {f : Nat → Nat → Int32} {r k j : Nat} {v : Int32} (h : j ≠ k) : upG f r k v r j = f r j := by
  unfold upG
  rw [if_pos rfl, pk_un h]
theorem upG_r {f : Nat → Nat → Int32} {r s k : Nat} {v : Int32} (h : s ≠ r) : upG f r k v s = f s := if_neg h
theorem ml_la {l a b : Nat} {la : Nat → Nat → Int32} (hl : FtOk l la) (ha : a ≤ 2) (hb : b ≤ 2) : FtOk (l + 1) (upG (upG la l 0 (pm a)) l 1 (pm b)) := by
  intro i f hi hf
  by_cases e : i = l
  · subst e
    rcases (show f = 0 ∨ f = 1 by omega) with rfl | rfl
    · exact ⟨a, ha, by rw [upG_k (by decide), upG_s]⟩
    · exact ⟨b, hb, upG_s⟩
  · rw [upG_r e, upG_r e]
    exact hl i f (by omega) hf
theorem dX5_clear_0 : decode cX5_clear 0 = .ok (.aload_n 0, 1) := by decide +kernel
theorem dX5_clear_1 : decode cX5_clear 1 = .ok (.iconst 0, 1) := by decide +kernel
theorem dX5_clear_2 : decode cX5_clear 2 = .ok (.putfield 51, 3) := by decide +kernel
theorem dX5_clear_5 : decode cX5_clear 5 = .ok (.aload_n 0, 1) := by decide +kernel
theorem dX5_clear_6 : decode cX5_clear 6 = .ok (.iconst 0, 1) := by decide +kernel
theorem dX5_clear_7 : decode cX5_clear 7 = .ok (.putfield 55, 3) := by decide +kernel
theorem dX5_clear_10 : decode cX5_clear 10 = .ok (.aload_n 0, 1) := by decide +kernel
theorem dX5_clear_11 : decode cX5_clear 11 = .ok (.iconst 0, 1) := by decide +kernel
theorem dX5_clear_12 : decode cX5_clear 12 = .ok (.putfield 58, 3) := by decide +kernel
theorem dX5_clear_15 : decode cX5_clear 15 = .ok (.return_, 1) := by decide +kernel
theorem dX5_measureLetter_0 : decode cX5_measureLetter 0 = .ok (.iconst 0, 1) := by decide +kernel
theorem dX5_measureLetter_1 : decode cX5_measureLetter 1 = .ok (.istore_n 2, 1) := by decide +kernel
theorem dX5_measureLetter_2 : decode cX5_measureLetter 2 = .ok (.iconst 0, 1) := by decide +kernel
theorem dX5_measureLetter_3 : decode cX5_measureLetter 3 = .ok (.istore_n 3, 1) := by decide +kernel
theorem dX5_measureLetter_4 : decode cX5_measureLetter 4 = .ok (.iconst 1, 1) := by decide +kernel
theorem dX5_measureLetter_5 : decode cX5_measureLetter 5 = .ok (.istore 4, 2) := by decide +kernel
theorem dX5_measureLetter_7 : decode cX5_measureLetter 7 = .ok (.iconst 0, 1) := by decide +kernel
theorem dX5_measureLetter_8 : decode cX5_measureLetter 8 = .ok (.istore 5, 2) := by decide +kernel
theorem dX5_measureLetter_10 : decode cX5_measureLetter 10 = .ok (.iload 5, 2) := by decide +kernel
theorem dX5_measureLetter_12 : decode cX5_measureLetter 12 = .ok (.aload_n 0, 1) := by decide +kernel
theorem dX5_measureLetter_13 : decode cX5_measureLetter 13 = .ok (.getfield 28, 3) := by decide +kernel
theorem tw_191 : Cond.fieldLink RX5 28 "LimpCode$School" "letterSizes" "[I" ∈ TT := nx_mem 191 (by decide +kernel) (by decide +kernel)
theorem dX5_measureLetter_16 : decode cX5_measureLetter 16 = .ok (.iload_n 1, 1) := by decide +kernel
theorem dX5_measureLetter_17 : decode cX5_measureLetter 17 = .ok (.iaload, 1) := by decide +kernel
theorem dX5_measureLetter_18 : decode cX5_measureLetter 18 = .ok (.if_icmp .ge 67, 3) := by decide +kernel
theorem dX5_measureLetter_85 : decode cX5_measureLetter 85 = .ok (.aload_n 0, 1) := by decide +kernel
theorem dX5_measureLetter_86 : decode cX5_measureLetter 86 = .ok (.getfield 36, 3) := by decide +kernel
theorem tw_199 : Cond.fieldLink RX5 36 "LimpCode$School" "letterTakes" "[I" ∈ TT := nx_mem 199 (by decide +kernel) (by decide +kernel)
theorem dX5_measureLetter_89 : decode cX5_measureLetter 89 = .ok (.iload_n 1, 1) := by decide +kernel
theorem dX5_measureLetter_90 : decode cX5_measureLetter 90 = .ok (.iload_n 2, 1) := by decide +kernel
theorem dX5_measureLetter_91 : decode cX5_measureLetter 91 = .ok (.iastore, 1) := by decide +kernel
theorem dX5_measureLetter_92 : decode cX5_measureLetter 92 = .ok (.aload_n 0, 1) := by decide +kernel
theorem dX5_measureLetter_93 : decode cX5_measureLetter 93 = .ok (.getfield 39, 3) := by decide +kernel
theorem tw_204 : Cond.fieldLink RX5 39 "LimpCode$School" "letterAfter" "[[I" ∈ TT := nx_mem 204 (by decide +kernel) (by decide +kernel)
theorem dX5_measureLetter_96 : decode cX5_measureLetter 96 = .ok (.iload_n 1, 1) := by decide +kernel
theorem dX5_measureLetter_97 : decode cX5_measureLetter 97 = .ok (.aaload, 1) := by decide +kernel
theorem dX5_measureLetter_98 : decode cX5_measureLetter 98 = .ok (.iconst 0, 1) := by decide +kernel
theorem dX5_measureLetter_99 : decode cX5_measureLetter 99 = .ok (.iload_n 3, 1) := by decide +kernel
theorem dX5_measureLetter_100 : decode cX5_measureLetter 100 = .ok (.iastore, 1) := by decide +kernel
theorem dX5_measureLetter_101 : decode cX5_measureLetter 101 = .ok (.aload_n 0, 1) := by decide +kernel
theorem dX5_measureLetter_102 : decode cX5_measureLetter 102 = .ok (.getfield 39, 3) := by decide +kernel
theorem dX5_measureLetter_105 : decode cX5_measureLetter 105 = .ok (.iload_n 1, 1) := by decide +kernel
theorem dX5_measureLetter_106 : decode cX5_measureLetter 106 = .ok (.aaload, 1) := by decide +kernel
theorem dX5_measureLetter_107 : decode cX5_measureLetter 107 = .ok (.iconst 1, 1) := by decide +kernel
theorem dX5_measureLetter_108 : decode cX5_measureLetter 108 = .ok (.iload 4, 2) := by decide +kernel
theorem dX5_measureLetter_110 : decode cX5_measureLetter 110 = .ok (.iastore, 1) := by decide +kernel
theorem dX5_measureLetter_111 : decode cX5_measureLetter 111 = .ok (.return_, 1) := by decide +kernel
theorem dX5_measureLetter_21 : decode cX5_measureLetter 21 = .ok (.aload_n 0, 1) := by decide +kernel
theorem dX5_measureLetter_22 : decode cX5_measureLetter 22 = .ok (.getfield 33, 3) := by decide +kernel
theorem tw_195 : Cond.fieldLink RX5 33 "LimpCode$School" "letterRows" "[[I" ∈ TT := nx_mem 195 (by decide +kernel) (by decide +kernel)
theorem dX5_measureLetter_25 : decode cX5_measureLetter 25 = .ok (.iload_n 1, 1) := by decide +kernel
theorem dX5_measureLetter_26 : decode cX5_measureLetter 26 = .ok (.aaload, 1) := by decide +kernel
theorem dX5_measureLetter_27 : decode cX5_measureLetter 27 = .ok (.iload 5, 2) := by decide +kernel
theorem dX5_measureLetter_29 : decode cX5_measureLetter 29 = .ok (.iaload, 1) := by decide +kernel
theorem dX5_measureLetter_30 : decode cX5_measureLetter 30 = .ok (.istore 6, 2) := by decide +kernel
theorem dX5_measureLetter_32 : decode cX5_measureLetter 32 = .ok (.iload_n 2, 1) := by decide +kernel
theorem dX5_measureLetter_33 : decode cX5_measureLetter 33 = .ok (.aload_n 0, 1) := by decide +kernel
theorem dX5_measureLetter_34 : decode cX5_measureLetter 34 = .ok (.getfield 15, 3) := by decide +kernel
theorem tw_177 : Cond.fieldLink RX5 15 "LimpCode$School" "takes" "[I" ∈ TT := nx_mem 177 (by decide +kernel) (by decide +kernel)
theorem dX5_measureLetter_37 : decode cX5_measureLetter 37 = .ok (.iload 6, 2) := by decide +kernel
theorem dX5_measureLetter_39 : decode cX5_measureLetter 39 = .ok (.iaload, 1) := by decide +kernel
theorem dX5_measureLetter_40 : decode cX5_measureLetter 40 = .ok (.iadd, 1) := by decide +kernel
theorem dX5_measureLetter_41 : decode cX5_measureLetter 41 = .ok (.istore_n 2, 1) := by decide +kernel
theorem dX5_measureLetter_42 : decode cX5_measureLetter 42 = .ok (.iload_n 3, 1) := by decide +kernel
theorem dX5_measureLetter_43 : decode cX5_measureLetter 43 = .ok (.iconst (-1), 1) := by decide +kernel
theorem dX5_measureLetter_44 : decode cX5_measureLetter 44 = .ok (.if_icmp .ne 7, 3) := by decide +kernel
theorem dX5_measureLetter_51 : decode cX5_measureLetter 51 = .ok (.aload_n 0, 1) := by decide +kernel
theorem dX5_measureLetter_52 : decode cX5_measureLetter 52 = .ok (.iload 6, 2) := by decide +kernel
theorem dX5_measureLetter_54 : decode cX5_measureLetter 54 = .ok (.iload_n 3, 1) := by decide +kernel
theorem dX5_measureLetter_55 : decode cX5_measureLetter 55 = .ok (.invokevirtual 74, 3) := by decide +kernel
theorem tw_708 : Cond.methodLink RX5 74 yX5_footAfter ∈ TT := nx_mem 708 (by decide +kernel) (by decide +kernel)
theorem dX5_measureLetter_58 : decode cX5_measureLetter 58 = .ok (.istore_n 3, 1) := by decide +kernel
theorem dX5_measureLetter_59 : decode cX5_measureLetter 59 = .ok (.iload 4, 2) := by decide +kernel
theorem dX5_measureLetter_61 : decode cX5_measureLetter 61 = .ok (.iconst (-1), 1) := by decide +kernel
theorem dX5_measureLetter_62 : decode cX5_measureLetter 62 = .ok (.if_icmp .ne 7, 3) := by decide +kernel
theorem dX5_measureLetter_69 : decode cX5_measureLetter 69 = .ok (.aload_n 0, 1) := by decide +kernel
theorem dX5_measureLetter_70 : decode cX5_measureLetter 70 = .ok (.iload 6, 2) := by decide +kernel
theorem dX5_measureLetter_72 : decode cX5_measureLetter 72 = .ok (.iload 4, 2) := by decide +kernel
theorem dX5_measureLetter_74 : decode cX5_measureLetter 74 = .ok (.invokevirtual 74, 3) := by decide +kernel
theorem dX5_measureLetter_77 : decode cX5_measureLetter 77 = .ok (.istore 4, 2) := by decide +kernel
theorem dX5_measureLetter_79 : decode cX5_measureLetter 79 = .ok (.iinc 5 1, 3) := by decide +kernel
theorem dX5_measureLetter_82 : decode cX5_measureLetter 82 = .ok (.goto (-72), 3) := by decide +kernel
theorem dX5_measureLetter_47 : decode cX5_measureLetter 47 = .ok (.iconst (-1), 1) := by decide +kernel
theorem dX5_measureLetter_48 : decode cX5_measureLetter 48 = .ok (.goto 10, 3) := by decide +kernel
theorem dX5_measureLetter_65 : decode cX5_measureLetter 65 = .ok (.iconst (-1), 1) := by decide +kernel
theorem dX5_measureLetter_66 : decode cX5_measureLetter 66 = .ok (.goto 11, 3) := by decide +kernel
theorem dX5_hearLetter_0 : decode cX5_hearLetter 0 = .ok (.iload 5, 2) := by decide +kernel
theorem dX5_hearLetter_2 : decode cX5_hearLetter 2 = .ok (.istore 6, 2) := by decide +kernel
theorem dX5_hearLetter_4 : decode cX5_hearLetter 4 = .ok (.iconst 0, 1) := by decide +kernel
theorem dX5_hearLetter_5 : decode cX5_hearLetter 5 = .ok (.istore 7, 2) := by decide +kernel
theorem dX5_hearLetter_7 : decode cX5_hearLetter 7 = .ok (.aload_n 0, 1) := by decide +kernel
theorem dX5_hearLetter_8 : decode cX5_hearLetter 8 = .ok (.iload_n 1, 1) := by decide +kernel
theorem dX5_hearLetter_9 : decode cX5_hearLetter 9 = .ok (.invokevirtual 77, 3) := by decide +kernel
theorem tw_906 : Cond.methodLink RX5 77 yX5_hasLetter ∈ TT := nx_mem 906 (by decide +kernel) (by decide +kernel)
theorem dX5_hearLetter_12 : decode cX5_hearLetter 12 = .ok (.ifCond .eq 56, 3) := by decide +kernel
theorem dX5_hearLetter_68 : decode cX5_hearLetter 68 = .ok (.iload 6, 2) := by decide +kernel
theorem dX5_hearLetter_70 : decode cX5_hearLetter 70 = .ok (.ireturn, 1) := by decide +kernel
theorem dX5_hearLetter_15 : decode cX5_hearLetter 15 = .ok (.iload 7, 2) := by decide +kernel
theorem dX5_hearLetter_17 : decode cX5_hearLetter 17 = .ok (.aload_n 0, 1) := by decide +kernel
theorem dX5_hearLetter_18 : decode cX5_hearLetter 18 = .ok (.getfield 28, 3) := by decide +kernel
theorem dX5_hearLetter_21 : decode cX5_hearLetter 21 = .ok (.iload_n 1, 1) := by decide +kernel
theorem dX5_hearLetter_22 : decode cX5_hearLetter 22 = .ok (.iaload, 1) := by decide +kernel
theorem dX5_hearLetter_23 : decode cX5_hearLetter 23 = .ok (.if_icmp .ge 45, 3) := by decide +kernel
theorem dX5_hearLetter_26 : decode cX5_hearLetter 26 = .ok (.aload_n 0, 1) := by decide +kernel
theorem dX5_hearLetter_27 : decode cX5_hearLetter 27 = .ok (.getfield 33, 3) := by decide +kernel
theorem dX5_hearLetter_30 : decode cX5_hearLetter 30 = .ok (.iload_n 1, 1) := by decide +kernel
theorem dX5_hearLetter_31 : decode cX5_hearLetter 31 = .ok (.aaload, 1) := by decide +kernel
theorem dX5_hearLetter_32 : decode cX5_hearLetter 32 = .ok (.iload 7, 2) := by decide +kernel
theorem dX5_hearLetter_34 : decode cX5_hearLetter 34 = .ok (.iaload, 1) := by decide +kernel
theorem dX5_hearLetter_35 : decode cX5_hearLetter 35 = .ok (.istore 8, 2) := by decide +kernel
theorem dX5_hearLetter_37 : decode cX5_hearLetter 37 = .ok (.aload 4, 2) := by decide +kernel
theorem dX5_hearLetter_39 : decode cX5_hearLetter 39 = .ok (.iload 6, 2) := by decide +kernel
theorem dX5_hearLetter_41 : decode cX5_hearLetter 41 = .ok (.aload_n 0, 1) := by decide +kernel
theorem dX5_hearLetter_42 : decode cX5_hearLetter 42 = .ok (.aload_n 2, 1) := by decide +kernel
theorem dX5_hearLetter_43 : decode cX5_hearLetter 43 = .ok (.iload 8, 2) := by decide +kernel
theorem dX5_hearLetter_45 : decode cX5_hearLetter 45 = .ok (.iaload, 1) := by decide +kernel
theorem dX5_hearLetter_46 : decode cX5_hearLetter 46 = .ok (.iload_n 3, 1) := by decide +kernel
theorem dX5_hearLetter_47 : decode cX5_hearLetter 47 = .ok (.invokevirtual 80, 3) := by decide +kernel
theorem tw_907 : Cond.methodLink RX5 80 yX5_heardBelow ∈ TT := nx_mem 907 (by decide +kernel) (by decide +kernel)
theorem dX5_hearLetter_50 : decode cX5_hearLetter 50 = .ok (.aload_n 0, 1) := by decide +kernel
theorem dX5_hearLetter_51 : decode cX5_hearLetter 51 = .ok (.getfield 15, 3) := by decide +kernel
theorem dX5_hearLetter_54 : decode cX5_hearLetter 54 = .ok (.iload 8, 2) := by decide +kernel
theorem dX5_hearLetter_56 : decode cX5_hearLetter 56 = .ok (.iaload, 1) := by decide +kernel
theorem dX5_hearLetter_57 : decode cX5_hearLetter 57 = .ok (.invokestatic 83, 3) := by decide +kernel
theorem dX5_hearLetter_60 : decode cX5_hearLetter 60 = .ok (.istore 6, 2) := by decide +kernel
theorem dX5_hearLetter_62 : decode cX5_hearLetter 62 = .ok (.iinc 7 1, 3) := by decide +kernel
theorem dX5_hearLetter_65 : decode cX5_hearLetter 65 = .ok (.goto (-58), 3) := by decide +kernel
theorem dX10_hearText_0 : decode cX10_hearText 0 = .ok (.iconst 0, 1) := by decide +kernel
theorem dX10_hearText_1 : decode cX10_hearText 1 = .ok (.istore 5, 2) := by decide +kernel
theorem dX10_hearText_3 : decode cX10_hearText 3 = .ok (.iconst 0, 1) := by decide +kernel
theorem dX10_hearText_4 : decode cX10_hearText 4 = .ok (.istore 6, 2) := by decide +kernel
theorem dX10_hearText_6 : decode cX10_hearText 6 = .ok (.iload 6, 2) := by decide +kernel
theorem dX10_hearText_8 : decode cX10_hearText 8 = .ok (.aload_n 0, 1) := by decide +kernel
theorem dX10_hearText_9 : decode cX10_hearText 9 = .ok (.getfield 15, 3) := by decide +kernel
theorem dX10_hearText_12 : decode cX10_hearText 12 = .ok (.if_icmp .ge 28, 3) := by decide +kernel
theorem dX10_hearText_40 : decode cX10_hearText 40 = .ok (.return_, 1) := by decide +kernel
theorem dX10_hearText_15 : decode cX10_hearText 15 = .ok (.aload_n 1, 1) := by decide +kernel
theorem dX10_hearText_16 : decode cX10_hearText 16 = .ok (.aload_n 0, 1) := by decide +kernel
theorem dX10_hearText_17 : decode cX10_hearText 17 = .ok (.getfield 9, 3) := by decide +kernel
theorem dX10_hearText_20 : decode cX10_hearText 20 = .ok (.iload 6, 2) := by decide +kernel
theorem dX10_hearText_22 : decode cX10_hearText 22 = .ok (.iaload, 1) := by decide +kernel
theorem dX10_hearText_23 : decode cX10_hearText 23 = .ok (.aload_n 2, 1) := by decide +kernel
theorem dX10_hearText_24 : decode cX10_hearText 24 = .ok (.iload_n 3, 1) := by decide +kernel
theorem dX10_hearText_25 : decode cX10_hearText 25 = .ok (.aload 4, 2) := by decide +kernel
theorem dX10_hearText_27 : decode cX10_hearText 27 = .ok (.iload 5, 2) := by decide +kernel
theorem dX10_hearText_29 : decode cX10_hearText 29 = .ok (.invokevirtual 38, 3) := by decide +kernel
theorem tw_972 : Cond.methodLink RX10 38 yX5_hearLetter ∈ TT := nx_mem 972 (by decide +kernel) (by decide +kernel)
theorem tw_903 : Cond.instanceMethod yX5_hearLetter ∈ TT := nx_mem 903 (by decide +kernel) (by decide +kernel)
theorem tw_904 : Cond.selects RX5 yX5_hearLetter yX5_hearLetter ∈ TT := nx_mem 904 (by decide +kernel) (by decide +kernel)
theorem tw_905 : Cond.code yX5_hearLetter cX5_hearLetter 9 (some .int) ∈ TT := nx_mem 905 (by decide +kernel) (by decide +kernel)
theorem dX10_hearText_32 : decode cX10_hearText 32 = .ok (.istore 5, 2) := by decide +kernel
theorem dX10_hearText_34 : decode cX10_hearText 34 = .ok (.iinc 6 1, 3) := by decide +kernel
theorem dX10_hearText_37 : decode cX10_hearText 37 = .ok (.goto (-31), 3) := by decide +kernel
set_option maxHeartbeats 4000000 in
set_option maxRecDepth 100000 in
theorem s_X5_clear (lau : Launch) (gg : va_G) (kA : Nat → ClassId) (s : Nat) (s0 : Nat) (s1 : Nat) (s2 : Nat) (s3 : Nat) (s4 : Nat) (s5 : Nat) (s6 : Nat) (s7 : Nat) (s8 : Nat) (s9 : Nat) (s10 : Nat) (s11 : Nat) (nv : Int32) (lv : Int32) (ev : Int32)  : CtV lau yX5_clear cX5_clear 1 (none) 1 0 0 gg kA [.ref s] (mflat [(s, .inl (.inr (5, [.ref s0, .ref s1, .ref s2, .ref s3, .ref s4, .ref s5, .ref s6, .ref s7, .ref s8, .ref s9, .ref s10, .ref s11, .int nv, .int lv, .int ev])))]) (S := Unit) (fun (_ : Unit) => True) (fun (_ : Unit) => mflat [(s, .inl (.inr (5, [.ref s0, .ref s1, .ref s2, .ref s3, .ref s4, .ref s5, .ref s6, .ref s7, .ref s8, .ref s9, .ref s10, .ref s11, .int 0, .int 0, .int 0])))]) := by
  refine nx_startV (by decide +kernel) (Nat.le_of_ble_eq_true rfl) ?_
  intro x hnm h hq
  have h : Ok x cX5_clear RX5 kA (rmC 1 0 0) 1 := h
  show J x (mflat [(s, .inl (.inr (5, [.ref s0, .ref s1, .ref s2, .ref s3, .ref s4, .ref s5, .ref s6, .ref s7, .ref s8, .ref s9, .ref s10, .ref s11, .int nv, .int lv, .int ev])))]) [(0, .ref s)] 0 0 0 []
  refine j_aload_n h 0 rfl rfl dX5_clear_0 ?_
  refine j_iconst (v := 0) h (by decide) dX5_clear_1 ?_
  refine jm_put (w' := [(s, .inl (.inr (5, [.ref s0, .ref s1, .ref s2, .ref s3, .ref s4, .ref s5, .ref s6, .ref s7, .ref s8, .ref s9, .ref s10, .ref s11, .int 0, .int lv, .int ev])))]) h iw_X5 tyX5 tyX5_ok nmX5 0 rfl rfl 12 (by decide +kernel) tw_217 rfl rfl rfl (Nat.le_of_ble_eq_true rfl) dX5_clear_2 rfl ?_
  refine j_aload_n h 0 rfl rfl dX5_clear_5 ?_
  refine j_iconst (v := 0) h (by decide) dX5_clear_6 ?_
  refine jm_put (w' := [(s, .inl (.inr (5, [.ref s0, .ref s1, .ref s2, .ref s3, .ref s4, .ref s5, .ref s6, .ref s7, .ref s8, .ref s9, .ref s10, .ref s11, .int 0, .int 0, .int ev])))]) h iw_X5 tyX5 tyX5_ok nmX5 0 rfl rfl 13 (by decide +kernel) tw_222 rfl rfl rfl (Nat.le_of_ble_eq_true rfl) dX5_clear_7 rfl ?_
  refine j_aload_n h 0 rfl rfl dX5_clear_10 ?_
  refine j_iconst (v := 0) h (by decide) dX5_clear_11 ?_
  refine jm_put (w' := [(s, .inl (.inr (5, [.ref s0, .ref s1, .ref s2, .ref s3, .ref s4, .ref s5, .ref s6, .ref s7, .ref s8, .ref s9, .ref s10, .ref s11, .int 0, .int 0, .int 0])))]) h iw_X5 tyX5 tyX5_ok nmX5 0 rfl rfl 14 (by decide +kernel) tw_228 rfl rfl rfl (Nat.le_of_ble_eq_true rfl) dX5_clear_12 rfl ?_
  exact jm_vret h hq dX5_clear_15 () [0] rfl (by decide) trivial (Nat.le_of_ble_eq_true rfl) (Nat.le_of_ble_eq_true rfl)
set_option maxHeartbeats 4000000 in
set_option maxRecDepth 100000 in
theorem s_X11_putStepG (lau : Launch) (gg : va_G) (kA : Nat → ClassId) (g : Nat) (rx : Nat) (fr : Nat) (hh : Int32) (tk : Nat) (gf : Nat → Nat → Int32) (hr : rx < 10) (hfr : fr ≤ 45) (htk : tk ≤ 9) : CtI lau yX11_putStep cX11_putStep 6 (some .int) 1 0 0 gg kA [.ref (g + 1 + rx), .int (nI fr), .int hh, .int (nI tk)] (mflat [(g, .inr (kA 6, kA 1, 10, 45, .inl gf))]) (S := Nat × (Nat → Nat → Int32)) (fun (r : Int32) ((y_r, y_g) : Nat × (Nat → Nat → Int32)) => r = nI y_r ∧ (y_r ≤ 45) ∧ (fr ≤ y_r)) (fun ((y_r, y_g) : Nat × (Nat → Nat → Int32)) => mflat [(g, .inr (kA 6, kA 1, 10, 45, .inl y_g))]) := by
  refine nx_startI (by decide +kernel) (Nat.le_of_ble_eq_true rfl) ?_
  intro x hnm h hq
  have h : Ok x cX11_putStep RX11 kA (rmC 1 0 0) 6 := h
  show J x (mflat [(g, .inr (kA 6, kA 1, 10, 45, .inl gf))]) [(0, .ref (g + 1 + rx)), (1, .int (nI fr)), (2, .int hh), (3, .int (nI tk))] 0 0 0 []
  refine j_iload_n h 1 rfl rfl dX11_putStep_0 ?_
  refine j_iload_n h 3 rfl rfl dX11_putStep_1 ?_
  refine j_iadd h dX11_putStep_2 ?_
  refine j_top (b := nI (fr + tk)) (nI_add fr tk) ?_
  refine j_aload_n h 0 rfl rfl dX11_putStep_3 ?_
  refine jm_glen (v := 45) h 0 1 rfl rfl rx (by omega) rfl dX11_putStep_4 ?_
  refine j_mmin h tw_808 tw_809 tw_105 tw_810 (Nat.le_of_ble_eq_true rfl) (Nat.le_of_ble_eq_true rfl) (Nat.le_of_ble_eq_true rfl) (Nat.le_of_ble_eq_true rfl) (Nat.le_of_ble_eq_true rfl) dX11_putStep_5 ?_
  refine j_top (b := nI (min (fr + tk) 45)) (nx_min (a := (fr + tk)) (b := 45) (by omega) (by omega)) ?_
  refine j_istore (lv' := [(4, .int (nI (min (fr + tk) 45))), (0, .ref (g + 1 + rx)), (1, .int (nI fr)), (2, .int hh), (3, .int (nI tk))]) h dX11_putStep_8 (by decide) rfl ?_
  refine j_iload_n h 2 rfl rfl dX11_putStep_10 ?_
  refine j_istore (lv' := [(5, .int (nI fr)), (4, .int (nI (min (fr + tk) 45))), (0, .ref (g + 1 + rx)), (1, .int (nI fr)), (2, .int hh), (3, .int (nI tk))]) h dX11_putStep_11 (by decide) rfl ?_
  have lp13_42 : ∀ (m13_42 : Nat), ∀ (v5_13_42 : Nat) (fg_13_42 : Nat → Nat → Int32), (v5_13_42 ≤ 100000) → 100001 - v5_13_42 < m13_42 → J x (mflat [(g, .inr (kA 6, kA 1, 10, 45, .inl fg_13_42))]) [(5, .int (nI v5_13_42)), (4, .int (nI (min (fr + tk) 45))), (0, .ref (g + 1 + rx)), (1, .int (nI fr)), (2, .int hh), (3, .int (nI tk))] 0 0 13 [] := by
    intro m13_42
    induction m13_42 with
    | zero =>
      intro v5_13_42 fg_13_42 i13_42_0 hm13_42
      exact absurd hm13_42 (Nat.not_lt_zero _)
    | succ m13_42 ih13_42 =>
      intro v5_13_42 fg_13_42 i13_42_0 hm13_42
      refine j_iload h 0 rfl dX11_putStep_13 ?_
      refine j_iload h 1 rfl dX11_putStep_15 ?_
      refine j_icmp_ge h 41 dX11_putStep_17 (by decide) (fun z691 => ?_) (fun z691 => ?_)
      · have z691n : (min (fr + tk) 45) ≤ v5_13_42 := (nI_leI (a := (min (fr + tk) 45)) (b := v5_13_42) (by omega) (by omega)).mp z691
        refine j_iload h 1 rfl dX11_putStep_41 ?_
        exact jm_iret h hq dX11_putStep_43 ((min (fr + tk) 45), fg_13_42) [0] rfl (by decide) ⟨rfl, (show (min (fr + tk) 45) ≤ 45 by first | assumption | omega), (show fr ≤ (min (fr + tk) 45) by first | assumption | omega)⟩ (Nat.le_of_ble_eq_true rfl) (Nat.le_of_ble_eq_true rfl)
      · have z691n : ¬ (min (fr + tk) 45) ≤ v5_13_42 := fun q9 => z691 ((nI_leI (a := (min (fr + tk) 45)) (b := v5_13_42) (by omega) (by omega)).mpr q9)
        refine j_aload_n h 2 rfl rfl dX11_putStep_20 ?_
        refine j_iload h 0 rfl dX11_putStep_21 ?_
        refine j_iload h 0 rfl dX11_putStep_23 ?_
        refine j_iload_n h 3 rfl rfl dX11_putStep_25 ?_
        refine j_icmp_ne h 33 dX11_putStep_26 (by decide) (fun z692 => ?_) (fun z692 => ?_)
        · have z692n : ¬ v5_13_42 = fr := fun q9 => z692 ((nI_eq (a := v5_13_42) (b := fr) (by omega) (by omega)).mpr q9)
          refine j_iconst (v := 0) h (by decide) dX11_putStep_33 ?_
          refine jm_gast (w' := [(g, .inr (kA 6, kA 1, 10, 45, .inl (upG fg_13_42 rx v5_13_42 0)))]) h 0 rfl rx (by omega) v5_13_42 rfl (by omega) (by omega) dX11_putStep_34 rfl ?_
          refine j_iinc (v := nI (v5_13_42 + 1)) (lv' := [(5, .int (nI (v5_13_42 + 1))), (4, .int (nI (min (fr + tk) 45))), (0, .ref (g + 1 + rx)), (1, .int (nI fr)), (2, .int hh), (3, .int (nI tk))]) h dX11_putStep_35 0 rfl (nI_add v5_13_42 1) (by decide) rfl ?_
          refine j_goto h 13 dX11_putStep_38 (by decide) ?_
          refine jm_sub [0] (w' := [(g, .inr (kA 6, kA 1, 10, 45, .inl (upG fg_13_42 rx v5_13_42 0)))]) rfl (by decide +kernel) [0, 1, 2, 3, 4, 5] (lv' := [(5, .int (nI (v5_13_42 + 1))), (4, .int (nI (min (fr + tk) 45))), (0, .ref (g + 1 + rx)), (1, .int (nI fr)), (2, .int hh), (3, .int (nI tk))]) rfl ?_
          exact ih13_42 (v5_13_42 + 1) (upG fg_13_42 rx v5_13_42 0) (show (v5_13_42 + 1) ≤ 100000 by first | assumption | omega) (show 100001 - (v5_13_42 + 1) < m13_42 by first | exact Nat.lt_of_lt_of_le (Nat.sub_lt_sub_left (Nat.lt_of_le_of_lt (show v5_13_42 ≤ 100000 by assumption) (Nat.lt_succ_self 100000)) (Nat.lt_succ_self v5_13_42)) (Nat.le_of_lt_succ hm13_42) | omega)
        · have z692n : v5_13_42 = fr := (nI_eq (a := v5_13_42) (b := fr) (by omega) (by omega)).mp z692
          refine j_iload_n h 4 rfl rfl dX11_putStep_29 ?_
          refine j_goto h 34 dX11_putStep_30 (by decide) ?_
          refine jm_gast (w' := [(g, .inr (kA 6, kA 1, 10, 45, .inl (upG fg_13_42 rx v5_13_42 hh)))]) h 0 rfl rx (by omega) v5_13_42 rfl (by omega) (by omega) dX11_putStep_34 rfl ?_
          refine j_iinc (v := nI (v5_13_42 + 1)) (lv' := [(5, .int (nI (v5_13_42 + 1))), (4, .int (nI (min (fr + tk) 45))), (0, .ref (g + 1 + rx)), (1, .int (nI fr)), (2, .int hh), (3, .int (nI tk))]) h dX11_putStep_35 0 rfl (nI_add v5_13_42 1) (by decide) rfl ?_
          refine j_goto h 13 dX11_putStep_38 (by decide) ?_
          refine jm_sub [0] (w' := [(g, .inr (kA 6, kA 1, 10, 45, .inl (upG fg_13_42 rx v5_13_42 hh)))]) rfl (by decide +kernel) [0, 1, 2, 3, 4, 5] (lv' := [(5, .int (nI (v5_13_42 + 1))), (4, .int (nI (min (fr + tk) 45))), (0, .ref (g + 1 + rx)), (1, .int (nI fr)), (2, .int hh), (3, .int (nI tk))]) rfl ?_
          exact ih13_42 (v5_13_42 + 1) (upG fg_13_42 rx v5_13_42 hh) (show (v5_13_42 + 1) ≤ 100000 by first | assumption | omega) (show 100001 - (v5_13_42 + 1) < m13_42 by first | exact Nat.lt_of_lt_of_le (Nat.sub_lt_sub_left (Nat.lt_of_le_of_lt (show v5_13_42 ≤ 100000 by assumption) (Nat.lt_succ_self 100000)) (Nat.lt_succ_self v5_13_42)) (Nat.le_of_lt_succ hm13_42) | omega)
  refine jm_sub [0] (w' := [(g, .inr (kA 6, kA 1, 10, 45, .inl gf))]) rfl (by decide +kernel) [0, 1, 2, 3, 4, 5] (lv' := [(5, .int (nI fr)), (4, .int (nI (min (fr + tk) 45))), (0, .ref (g + 1 + rx)), (1, .int (nI fr)), (2, .int hh), (3, .int (nI tk))]) rfl ?_
  exact lp13_42 (100001 - fr + 1) fr gf (show fr ≤ 100000 by first | assumption | omega) (Nat.lt_succ_self _)
set_option maxHeartbeats 4000000 in
set_option maxRecDepth 100000 in
theorem s_X5_hearLetter (lau : Launch) (gg : va_G) (kA : Nat → ClassId) (s : Nat) (k : Nat) (lo : Nat) (er : Int32) (r0 : Nat) (fr : Nat) (s0 : Nat) (s1 : Nat) (s2 : Nat) (s3 : Nat) (s4 : Nat) (s5 : Nat) (s6 : Nat) (s7 : Nat) (s8 : Nat) (s9 : Nat) (s10 : Nat) (s11 : Nat) (sn : Nat) (sl : Nat) (se : Nat) (sc1 : Nat → Int32) (sc5 : Nat → Int32) (sc6 : Nat → Nat → Int32) (sc10 : Nat → Int32) (lof : Nat → Int32) (n0 : Nat) (f : Nat → Int32) (hsn : sn ≤ 6) (hsl : sl ≤ 10) (hse : se ≤ 4) (hstk : TkOk sn sc1) (hssz : SzOk sl sc5) (hsrw : RwOk sl sn sc5 sc6) (hk : k < sl) (hn0 : n0 ≤ 60) (hfr : fr ≤ n0) : CtI lau yX5_hearLetter cX5_hearLetter 9 (some .int) 3 0 0 gg kA [.ref s, .int (nI k), .ref lo, .int er, .ref r0, .int (nI fr)] (mflat [(s, .inl (.inr (5, [.ref s0, .ref s1, .ref s2, .ref s3, .ref s4, .ref s5, .ref s6, .ref s7, .ref s8, .ref s9, .ref s10, .ref s11, .int (nI sn), .int (nI sl), .int (nI se)]))), (s1, .inl (.inl (kA 1, 6, .inl sc1))), (s5, .inl (.inl (kA 1, 10, .inl sc5))), (s6, .inr (kA 6, kA 1, 10, 5, .inl sc6)), (s10, .inl (.inl (kA 1, 4, .inl sc10))), (lo, .inl (.inl (kA 1, 6, .inl lof))), (r0, .inl (.inl (kA 1, n0, .inl f)))]) (S := Nat × (Nat → Int32)) (fun (r : Int32) ((y_r, y_r0) : Nat × (Nat → Int32)) => r = nI y_r ∧ (y_r ≤ n0)) (fun ((y_r, y_r0) : Nat × (Nat → Int32)) => mflat [(s, .inl (.inr (5, [.ref s0, .ref s1, .ref s2, .ref s3, .ref s4, .ref s5, .ref s6, .ref s7, .ref s8, .ref s9, .ref s10, .ref s11, .int (nI sn), .int (nI sl), .int (nI se)]))), (s1, .inl (.inl (kA 1, 6, .inl sc1))), (s5, .inl (.inl (kA 1, 10, .inl sc5))), (s6, .inr (kA 6, kA 1, 10, 5, .inl sc6)), (s10, .inl (.inl (kA 1, 4, .inl sc10))), (lo, .inl (.inl (kA 1, 6, .inl lof))), (r0, .inl (.inl (kA 1, n0, .inl y_r0)))]) := by
  refine nx_startI (by decide +kernel) (Nat.le_of_ble_eq_true rfl) ?_
  intro x hnm h hq
  have h : Ok x cX5_hearLetter RX5 kA (rmC 3 0 0) 9 := h
  show J x (mflat [(s, .inl (.inr (5, [.ref s0, .ref s1, .ref s2, .ref s3, .ref s4, .ref s5, .ref s6, .ref s7, .ref s8, .ref s9, .ref s10, .ref s11, .int (nI sn), .int (nI sl), .int (nI se)]))), (s1, .inl (.inl (kA 1, 6, .inl sc1))), (s5, .inl (.inl (kA 1, 10, .inl sc5))), (s6, .inr (kA 6, kA 1, 10, 5, .inl sc6)), (s10, .inl (.inl (kA 1, 4, .inl sc10))), (lo, .inl (.inl (kA 1, 6, .inl lof))), (r0, .inl (.inl (kA 1, n0, .inl f)))]) [(0, .ref s), (1, .int (nI k)), (2, .ref lo), (3, .int er), (4, .ref r0), (5, .int (nI fr))] 0 0 0 []
  refine j_iload h 5 rfl dX5_hearLetter_0 ?_
  refine j_istore (lv' := [(6, .int (nI fr)), (0, .ref s), (1, .int (nI k)), (2, .ref lo), (3, .int er), (4, .ref r0), (5, .int (nI fr))]) h dX5_hearLetter_2 (by decide) rfl ?_
  refine j_iconst (v := 0) h (by decide) dX5_hearLetter_4 ?_
  refine j_istore (lv' := [(7, .int 0), (6, .int (nI fr)), (0, .ref s), (1, .int (nI k)), (2, .ref lo), (3, .int er), (4, .ref r0), (5, .int (nI fr))]) h dX5_hearLetter_5 (by decide) rfl ?_
  have lp7_48 : ∀ (m7_48 : Nat), ∀ (v7_7_48 : Nat) (v6_7_48 : Nat) (fr0_7_48 : Nat → Int32), (v6_7_48 ≤ n0) → (v7_7_48 ≤ 100000) → (v6_7_48 ≤ 100000) → 100001 - v7_7_48 < m7_48 → J x (mflat [(s, .inl (.inr (5, [.ref s0, .ref s1, .ref s2, .ref s3, .ref s4, .ref s5, .ref s6, .ref s7, .ref s8, .ref s9, .ref s10, .ref s11, .int (nI sn), .int (nI sl), .int (nI se)]))), (s1, .inl (.inl (kA 1, 6, .inl sc1))), (s5, .inl (.inl (kA 1, 10, .inl sc5))), (s6, .inr (kA 6, kA 1, 10, 5, .inl sc6)), (s10, .inl (.inl (kA 1, 4, .inl sc10))), (lo, .inl (.inl (kA 1, 6, .inl lof))), (r0, .inl (.inl (kA 1, n0, .inl fr0_7_48)))]) [(7, .int (nI v7_7_48)), (6, .int (nI v6_7_48)), (0, .ref s), (1, .int (nI k)), (2, .ref lo), (3, .int er), (4, .ref r0), (5, .int (nI fr))] 0 0 7 [] := by
    intro m7_48
    induction m7_48 with
    | zero =>
      intro v7_7_48 v6_7_48 fr0_7_48 i7_48_0 i7_48_1 i7_48_2 hm7_48
      exact absurd hm7_48 (Nat.not_lt_zero _)
    | succ m7_48 ih7_48 =>
      intro v7_7_48 v6_7_48 fr0_7_48 i7_48_0 i7_48_1 i7_48_2 hm7_48
      refine j_aload_n h 2 rfl rfl dX5_hearLetter_7 ?_
      refine j_iload_n h 3 rfl rfl dX5_hearLetter_8 ?_
      refine jm_callVi (np := 1) (isC := [0]) (isR := [1, 2, 3, 4, 5, 6]) (wc := [(s, .inl (.inr (5, [.ref s0, .ref s1, .ref s2, .ref s3, .ref s4, .ref s5, .ref s6, .ref s7, .ref s8, .ref s9, .ref s10, .ref s11, .int (nI sn), .int (nI sl), .int (nI se)])))]) (wr := [(s1, .inl (.inl (kA 1, 6, .inl sc1))), (s5, .inl (.inl (kA 1, 10, .inl sc5))), (s6, .inr (kA 6, kA 1, 10, 5, .inl sc6)), (s10, .inl (.inl (kA 1, 4, .inl sc10))), (lo, .inl (.inl (kA 1, 6, .inl lof))), (r0, .inl (.inl (kA 1, n0, .inl fr0_7_48)))]) (rest := []) (As := [.int (nI k)]) (q0 := 0) h (s_X5_hasLetter _ _ kA s (nI k) s0 s1 s2 s3 s4 s5 s6 s7 s8 s9 s10 s11 (nI sn) (nI sl) (nI se) ) tw_906 tw_776 tw_777 tw_90 tw_778 (by decide +kernel) rfl ⟨Nat.le_of_ble_eq_true rfl, Nat.le_of_ble_eq_true rfl⟩ rfl rfl (by decide +kernel) rfl rfl (by decide +kernel) (by decide +kernel) (Nat.le_of_ble_eq_true rfl) rfl ⟨Nat.le_of_ble_eq_true rfl, Nat.le_of_ble_eq_true rfl⟩ dX5_hearLetter_9 ?_
      rintro r819 _ e818
      have p820 := e818
      subst p820
      show J x (mflat [(s1, .inl (.inl (kA 1, 6, .inl sc1))), (s5, .inl (.inl (kA 1, 10, .inl sc5))), (s6, .inr (kA 6, kA 1, 10, 5, .inl sc6)), (s10, .inl (.inl (kA 1, 4, .inl sc10))), (lo, .inl (.inl (kA 1, 6, .inl lof))), (r0, .inl (.inl (kA 1, n0, .inl fr0_7_48))), (s, .inl (.inr (5, [.ref s0, .ref s1, .ref s2, .ref s3, .ref s4, .ref s5, .ref s6, .ref s7, .ref s8, .ref s9, .ref s10, .ref s11, .int (nI sn), .int (nI sl), .int (nI se)])))]) [(7, .int (nI v7_7_48)), (6, .int (nI v6_7_48)), (0, .ref s), (1, .int (nI k)), (2, .ref lo), (3, .int er), (4, .ref r0), (5, .int (nI fr))] 0 0 12 [.int (bIx (nI k) (nI sl))]
      rcases bIxn k sl (by omega) (by omega) with ⟨hj821, hT⟩ | ⟨hj821, hT⟩
      · refine j_top (b := 0) hT ?_
        show J x (mflat [(s1, .inl (.inl (kA 1, 6, .inl sc1))), (s5, .inl (.inl (kA 1, 10, .inl sc5))), (s6, .inr (kA 6, kA 1, 10, 5, .inl sc6)), (s10, .inl (.inl (kA 1, 4, .inl sc10))), (lo, .inl (.inl (kA 1, 6, .inl lof))), (r0, .inl (.inl (kA 1, n0, .inl fr0_7_48))), (s, .inl (.inr (5, [.ref s0, .ref s1, .ref s2, .ref s3, .ref s4, .ref s5, .ref s6, .ref s7, .ref s8, .ref s9, .ref s10, .ref s11, .int (nI sn), .int (nI sl), .int (nI se)])))]) [(7, .int (nI v7_7_48)), (6, .int (nI v6_7_48)), (0, .ref s), (1, .int (nI k)), (2, .ref lo), (3, .int er), (4, .ref r0), (5, .int (nI fr))] 0 0 12 [.int 0]
        refine j_if_eq h 68 dX5_hearLetter_12 (by decide) (fun _ => ?_) (fun q => absurd (by decide) q)
        refine j_iload h 1 rfl dX5_hearLetter_68 ?_
        exact jm_iret h hq dX5_hearLetter_70 (v6_7_48, fr0_7_48) [6, 0, 1, 2, 3, 4, 5] rfl (by decide) ⟨rfl, (show v6_7_48 ≤ n0 by first | assumption | omega)⟩ (Nat.le_of_ble_eq_true rfl) (Nat.le_of_ble_eq_true rfl)
      · refine j_top (b := 1) hT ?_
        show J x (mflat [(s1, .inl (.inl (kA 1, 6, .inl sc1))), (s5, .inl (.inl (kA 1, 10, .inl sc5))), (s6, .inr (kA 6, kA 1, 10, 5, .inl sc6)), (s10, .inl (.inl (kA 1, 4, .inl sc10))), (lo, .inl (.inl (kA 1, 6, .inl lof))), (r0, .inl (.inl (kA 1, n0, .inl fr0_7_48))), (s, .inl (.inr (5, [.ref s0, .ref s1, .ref s2, .ref s3, .ref s4, .ref s5, .ref s6, .ref s7, .ref s8, .ref s9, .ref s10, .ref s11, .int (nI sn), .int (nI sl), .int (nI se)])))]) [(7, .int (nI v7_7_48)), (6, .int (nI v6_7_48)), (0, .ref s), (1, .int (nI k)), (2, .ref lo), (3, .int er), (4, .ref r0), (5, .int (nI fr))] 0 0 12 [.int 1]
        refine j_if_eq h 68 dX5_hearLetter_12 (by decide) (fun q => absurd q (by decide)) (fun _ => ?_)
        refine j_iload h 0 rfl dX5_hearLetter_15 ?_
        refine j_aload_n h 2 rfl rfl dX5_hearLetter_17 ?_
        refine jm_get h iw_X5 6 rfl rfl 5 (by decide +kernel) tw_191 rfl dX5_hearLetter_18 ?_
        refine j_iload_n h 3 rfl rfl dX5_hearLetter_21 ?_
        refine jm_iald h 1 rfl k rfl (by omega) (by omega) dX5_hearLetter_22 ?_
        obtain ⟨t822, u823, u824, u825⟩ := (show SzOk sl sc5 by assumption) k (by omega)
        refine j_top (b := nI t822) (u825) ?_
        refine j_icmp_ge h 68 dX5_hearLetter_23 (by decide) (fun z826 => ?_) (fun z826 => ?_)
        · have z826n : t822 ≤ v7_7_48 := (nI_leI (a := t822) (b := v7_7_48) (by omega) (by omega)).mp z826
          refine j_iload h 1 rfl dX5_hearLetter_68 ?_
          exact jm_iret h hq dX5_hearLetter_70 (v6_7_48, fr0_7_48) [6, 0, 1, 2, 3, 4, 5] rfl (by decide) ⟨rfl, (show v6_7_48 ≤ n0 by first | assumption | omega)⟩ (Nat.le_of_ble_eq_true rfl) (Nat.le_of_ble_eq_true rfl)
        · have z826n : ¬ t822 ≤ v7_7_48 := fun q9 => z826 ((nI_leI (a := t822) (b := v7_7_48) (by omega) (by omega)).mpr q9)
          refine j_aload_n h 2 rfl rfl dX5_hearLetter_26 ?_
          refine jm_get h iw_X5 6 rfl rfl 6 (by decide +kernel) tw_195 rfl dX5_hearLetter_27 ?_
          refine j_iload_n h 3 rfl rfl dX5_hearLetter_30 ?_
          refine jm_gout h 2 6 rfl rfl k rfl (by omega) (by omega) dX5_hearLetter_31 ?_
          refine j_iload h 0 rfl dX5_hearLetter_32 ?_
          refine jm_gald h 2 rfl k (by omega) v7_7_48 rfl (by omega) (by omega) dX5_hearLetter_34 ?_
          obtain ⟨t827, u828, u829⟩ := (show RwOk sl sn sc5 sc6 by assumption) k v7_7_48 t822 (by omega) u825 (by omega) (by omega)
          refine j_top (b := nI t827) (u829) ?_
          refine j_istore (lv' := [(8, .int (nI t827)), (7, .int (nI v7_7_48)), (6, .int (nI v6_7_48)), (0, .ref s), (1, .int (nI k)), (2, .ref lo), (3, .int er), (4, .ref r0), (5, .int (nI fr))]) h dX5_hearLetter_35 (by decide) rfl ?_
          refine j_aload h 7 rfl dX5_hearLetter_37 ?_
          refine j_iload h 2 rfl dX5_hearLetter_39 ?_
          refine j_aload_n h 3 rfl rfl dX5_hearLetter_41 ?_
          refine j_aload_n h 5 rfl rfl dX5_hearLetter_42 ?_
          refine j_iload h 0 rfl dX5_hearLetter_43 ?_
          refine jm_iald h 4 rfl t827 rfl (by omega) (by omega) dX5_hearLetter_45 ?_
          refine j_iload_n h 6 rfl rfl dX5_hearLetter_46 ?_
          refine jm_callVi (np := 2) (isC := [6, 3]) (isR := [0, 1, 2, 4, 5]) (wc := [(s, .inl (.inr (5, [.ref s0, .ref s1, .ref s2, .ref s3, .ref s4, .ref s5, .ref s6, .ref s7, .ref s8, .ref s9, .ref s10, .ref s11, .int (nI sn), .int (nI sl), .int (nI se)]))), (s10, .inl (.inl (kA 1, 4, .inl sc10)))]) (wr := [(s1, .inl (.inl (kA 1, 6, .inl sc1))), (s5, .inl (.inl (kA 1, 10, .inl sc5))), (s6, .inr (kA 6, kA 1, 10, 5, .inl sc6)), (lo, .inl (.inl (kA 1, 6, .inl lof))), (r0, .inl (.inl (kA 1, n0, .inl fr0_7_48)))]) (rest := [.int (nI v6_7_48), .ref r0]) (As := [.int (lof t827), .int er]) (q0 := 0) h (s_X5_heardBelow _ _ kA s (lof t827) er s0 s1 s2 s3 s4 s5 s6 s7 s8 s9 s10 s11 sn sl se sc10 (show sn ≤ 6 by first | assumption | omega) (show sl ≤ 10 by first | assumption | omega) (show se ≤ 4 by first | assumption | omega)) tw_907 tw_798 tw_799 tw_90 tw_800 (by decide +kernel) rfl ⟨Nat.le_of_ble_eq_true rfl, Nat.le_of_ble_eq_true rfl⟩ rfl rfl (by decide +kernel) rfl rfl (by decide +kernel) (by decide +kernel) (Nat.le_of_ble_eq_true rfl) rfl ⟨Nat.le_of_ble_eq_true rfl, Nat.le_of_ble_eq_true rfl⟩ dX5_hearLetter_47 ?_
          rintro r831 _ e830
          show J x (mflat [(s1, .inl (.inl (kA 1, 6, .inl sc1))), (s5, .inl (.inl (kA 1, 10, .inl sc5))), (s6, .inr (kA 6, kA 1, 10, 5, .inl sc6)), (lo, .inl (.inl (kA 1, 6, .inl lof))), (r0, .inl (.inl (kA 1, n0, .inl fr0_7_48))), (s, .inl (.inr (5, [.ref s0, .ref s1, .ref s2, .ref s3, .ref s4, .ref s5, .ref s6, .ref s7, .ref s8, .ref s9, .ref s10, .ref s11, .int (nI sn), .int (nI sl), .int (nI se)]))), (s10, .inl (.inl (kA 1, 4, .inl sc10)))]) [(8, .int (nI t827)), (7, .int (nI v7_7_48)), (6, .int (nI v6_7_48)), (0, .ref s), (1, .int (nI k)), (2, .ref lo), (3, .int er), (4, .ref r0), (5, .int (nI fr))] 0 0 50 [.int r831, .int (nI v6_7_48), .ref r0]
          refine j_aload_n h 3 rfl rfl dX5_hearLetter_50 ?_
          refine jm_get h iw_X5 5 rfl rfl 1 (by decide +kernel) tw_177 rfl dX5_hearLetter_51 ?_
          refine j_iload h 0 rfl dX5_hearLetter_54 ?_
          refine jm_iald h 0 rfl t827 rfl (by omega) (by omega) dX5_hearLetter_56 ?_
          obtain ⟨t832, u833, u834, u835⟩ := (show TkOk sn sc1 by assumption) t827 (by omega)
          refine j_top (b := nI t832) (u835) ?_
          refine jm_callSNi (np := 4) (isC := [4]) (isR := [0, 1, 2, 3, 5, 6]) (wc := [(r0, .inl (.inl (kA 1, n0, .inl fr0_7_48)))]) (wr := [(s1, .inl (.inl (kA 1, 6, .inl sc1))), (s5, .inl (.inl (kA 1, 10, .inl sc5))), (s6, .inr (kA 6, kA 1, 10, 5, .inl sc6)), (lo, .inl (.inl (kA 1, 6, .inl lof))), (s, .inl (.inr (5, [.ref s0, .ref s1, .ref s2, .ref s3, .ref s4, .ref s5, .ref s6, .ref s7, .ref s8, .ref s9, .ref s10, .ref s11, .int (nI sn), .int (nI sl), .int (nI se)]))), (s10, .inl (.inl (kA 1, 4, .inl sc10)))]) (rest := []) (As := [.ref r0, .int (nI v6_7_48), .int r831, .int (nI t832)]) h (s_X11_putStep _ _ kA r0 v6_7_48 r831 t832 n0 fr0_7_48 (show n0 ≤ 60 by first | assumption | omega) (show v6_7_48 ≤ n0 by first | assumption | omega) (show t832 ≤ 9 by first | assumption | omega)) (by decide +kernel) tw_806 tw_87 tw_807 (by decide +kernel) rfl ⟨Nat.le_of_ble_eq_true rfl, Nat.le_of_ble_eq_true rfl⟩ (by decide +kernel) rfl rfl (by decide +kernel) (by decide +kernel) (Nat.le_of_ble_eq_true rfl) rfl ⟨Nat.le_of_ble_eq_true rfl, Nat.le_of_ble_eq_true rfl⟩ dX5_hearLetter_57 ?_
          rintro r839 ⟨q836, q837⟩ e838
          obtain ⟨p840, p841, p842⟩ := e838
          subst p840
          replace p841 : q836 ≤ n0 := p841
          replace p842 : v6_7_48 ≤ q836 := p842
          show J x (mflat [(s1, .inl (.inl (kA 1, 6, .inl sc1))), (s5, .inl (.inl (kA 1, 10, .inl sc5))), (s6, .inr (kA 6, kA 1, 10, 5, .inl sc6)), (lo, .inl (.inl (kA 1, 6, .inl lof))), (s, .inl (.inr (5, [.ref s0, .ref s1, .ref s2, .ref s3, .ref s4, .ref s5, .ref s6, .ref s7, .ref s8, .ref s9, .ref s10, .ref s11, .int (nI sn), .int (nI sl), .int (nI se)]))), (s10, .inl (.inl (kA 1, 4, .inl sc10))), (r0, .inl (.inl (kA 1, n0, .inl q837)))]) [(8, .int (nI t827)), (7, .int (nI v7_7_48)), (6, .int (nI v6_7_48)), (0, .ref s), (1, .int (nI k)), (2, .ref lo), (3, .int er), (4, .ref r0), (5, .int (nI fr))] 0 0 60 [.int (nI q836)]
          refine j_istore (lv' := [(6, .int (nI q836)), (8, .int (nI t827)), (7, .int (nI v7_7_48)), (0, .ref s), (1, .int (nI k)), (2, .ref lo), (3, .int er), (4, .ref r0), (5, .int (nI fr))]) h dX5_hearLetter_60 (by decide) rfl ?_
          refine j_iinc (v := nI (v7_7_48 + 1)) (lv' := [(7, .int (nI (v7_7_48 + 1))), (6, .int (nI q836)), (8, .int (nI t827)), (0, .ref s), (1, .int (nI k)), (2, .ref lo), (3, .int er), (4, .ref r0), (5, .int (nI fr))]) h dX5_hearLetter_62 2 rfl (nI_add v7_7_48 1) (by decide) rfl ?_
          refine j_goto h 7 dX5_hearLetter_65 (by decide) ?_
          refine jm_sub [4, 0, 1, 2, 5, 3, 6] (w' := [(s, .inl (.inr (5, [.ref s0, .ref s1, .ref s2, .ref s3, .ref s4, .ref s5, .ref s6, .ref s7, .ref s8, .ref s9, .ref s10, .ref s11, .int (nI sn), .int (nI sl), .int (nI se)]))), (s1, .inl (.inl (kA 1, 6, .inl sc1))), (s5, .inl (.inl (kA 1, 10, .inl sc5))), (s6, .inr (kA 6, kA 1, 10, 5, .inl sc6)), (s10, .inl (.inl (kA 1, 4, .inl sc10))), (lo, .inl (.inl (kA 1, 6, .inl lof))), (r0, .inl (.inl (kA 1, n0, .inl q837)))]) rfl (by decide +kernel) [0, 1, 3, 4, 5, 6, 7, 8] (lv' := [(7, .int (nI (v7_7_48 + 1))), (6, .int (nI q836)), (0, .ref s), (1, .int (nI k)), (2, .ref lo), (3, .int er), (4, .ref r0), (5, .int (nI fr))]) rfl ?_
          exact ih7_48 (v7_7_48 + 1) q836 q837 (show q836 ≤ n0 by first | assumption | omega) (show (v7_7_48 + 1) ≤ 100000 by first | assumption | omega) (show q836 ≤ 100000 by first | assumption | omega) (show 100001 - (v7_7_48 + 1) < m7_48 by first | exact Nat.lt_of_lt_of_le (Nat.sub_lt_sub_left (Nat.lt_of_le_of_lt (show v7_7_48 ≤ 100000 by assumption) (Nat.lt_succ_self 100000)) (Nat.lt_succ_self v7_7_48)) (Nat.le_of_lt_succ hm7_48) | omega)
  refine jm_sub [0, 1, 2, 3, 4, 5, 6] (w' := [(s, .inl (.inr (5, [.ref s0, .ref s1, .ref s2, .ref s3, .ref s4, .ref s5, .ref s6, .ref s7, .ref s8, .ref s9, .ref s10, .ref s11, .int (nI sn), .int (nI sl), .int (nI se)]))), (s1, .inl (.inl (kA 1, 6, .inl sc1))), (s5, .inl (.inl (kA 1, 10, .inl sc5))), (s6, .inr (kA 6, kA 1, 10, 5, .inl sc6)), (s10, .inl (.inl (kA 1, 4, .inl sc10))), (lo, .inl (.inl (kA 1, 6, .inl lof))), (r0, .inl (.inl (kA 1, n0, .inl f)))]) rfl (by decide +kernel) [0, 1, 2, 3, 4, 5, 6, 7] (lv' := [(7, .int 0), (6, .int (nI fr)), (0, .ref s), (1, .int (nI k)), (2, .ref lo), (3, .int er), (4, .ref r0), (5, .int (nI fr))]) rfl ?_
  exact lp7_48 (100001 - 0 + 1) 0 fr f (show fr ≤ n0 by first | assumption | omega) (show 0 ≤ 100000 by first | assumption | omega) (show fr ≤ 100000 by first | assumption | omega) (Nat.lt_succ_self _)
set_option maxHeartbeats 4000000 in
set_option maxRecDepth 100000 in
theorem s_X5_hearLetterG (lau : Launch) (gg : va_G) (kA : Nat → ClassId) (s : Nat) (k : Nat) (lo : Nat) (er : Int32) (g : Nat) (rx : Nat) (fr : Nat) (s0 : Nat) (s1 : Nat) (s2 : Nat) (s3 : Nat) (s4 : Nat) (s5 : Nat) (s6 : Nat) (s7 : Nat) (s8 : Nat) (s9 : Nat) (s10 : Nat) (s11 : Nat) (sn : Nat) (sl : Nat) (se : Nat) (sc1 : Nat → Int32) (sc5 : Nat → Int32) (sc6 : Nat → Nat → Int32) (sc10 : Nat → Int32) (lof : Nat → Int32) (gf : Nat → Nat → Int32) (hsn : sn ≤ 6) (hsl : sl ≤ 10) (hse : se ≤ 4) (hstk : TkOk sn sc1) (hssz : SzOk sl sc5) (hsrw : RwOk sl sn sc5 sc6) (hk : k < sl) (hr : rx < 10) (hfr : fr ≤ 45) : CtI lau yX5_hearLetter cX5_hearLetter 9 (some .int) 3 0 0 gg kA [.ref s, .int (nI k), .ref lo, .int er, .ref (g + 1 + rx), .int (nI fr)] (mflat [(s, .inl (.inr (5, [.ref s0, .ref s1, .ref s2, .ref s3, .ref s4, .ref s5, .ref s6, .ref s7, .ref s8, .ref s9, .ref s10, .ref s11, .int (nI sn), .int (nI sl), .int (nI se)]))), (s1, .inl (.inl (kA 1, 6, .inl sc1))), (s5, .inl (.inl (kA 1, 10, .inl sc5))), (s6, .inr (kA 6, kA 1, 10, 5, .inl sc6)), (s10, .inl (.inl (kA 1, 4, .inl sc10))), (lo, .inl (.inl (kA 1, 6, .inl lof))), (g, .inr (kA 6, kA 1, 10, 45, .inl gf))]) (S := Nat × (Nat → Nat → Int32)) (fun (r : Int32) ((y_r, y_g) : Nat × (Nat → Nat → Int32)) => r = nI y_r ∧ (y_r ≤ 45)) (fun ((y_r, y_g) : Nat × (Nat → Nat → Int32)) => mflat [(s, .inl (.inr (5, [.ref s0, .ref s1, .ref s2, .ref s3, .ref s4, .ref s5, .ref s6, .ref s7, .ref s8, .ref s9, .ref s10, .ref s11, .int (nI sn), .int (nI sl), .int (nI se)]))), (s1, .inl (.inl (kA 1, 6, .inl sc1))), (s5, .inl (.inl (kA 1, 10, .inl sc5))), (s6, .inr (kA 6, kA 1, 10, 5, .inl sc6)), (s10, .inl (.inl (kA 1, 4, .inl sc10))), (lo, .inl (.inl (kA 1, 6, .inl lof))), (g, .inr (kA 6, kA 1, 10, 45, .inl y_g))]) := by
  refine nx_startI (by decide +kernel) (Nat.le_of_ble_eq_true rfl) ?_
  intro x hnm h hq
  have h : Ok x cX5_hearLetter RX5 kA (rmC 3 0 0) 9 := h
  show J x (mflat [(s, .inl (.inr (5, [.ref s0, .ref s1, .ref s2, .ref s3, .ref s4, .ref s5, .ref s6, .ref s7, .ref s8, .ref s9, .ref s10, .ref s11, .int (nI sn), .int (nI sl), .int (nI se)]))), (s1, .inl (.inl (kA 1, 6, .inl sc1))), (s5, .inl (.inl (kA 1, 10, .inl sc5))), (s6, .inr (kA 6, kA 1, 10, 5, .inl sc6)), (s10, .inl (.inl (kA 1, 4, .inl sc10))), (lo, .inl (.inl (kA 1, 6, .inl lof))), (g, .inr (kA 6, kA 1, 10, 45, .inl gf))]) [(0, .ref s), (1, .int (nI k)), (2, .ref lo), (3, .int er), (4, .ref (g + 1 + rx)), (5, .int (nI fr))] 0 0 0 []
  refine j_iload h 5 rfl dX5_hearLetter_0 ?_
  refine j_istore (lv' := [(6, .int (nI fr)), (0, .ref s), (1, .int (nI k)), (2, .ref lo), (3, .int er), (4, .ref (g + 1 + rx)), (5, .int (nI fr))]) h dX5_hearLetter_2 (by decide) rfl ?_
  refine j_iconst (v := 0) h (by decide) dX5_hearLetter_4 ?_
  refine j_istore (lv' := [(7, .int 0), (6, .int (nI fr)), (0, .ref s), (1, .int (nI k)), (2, .ref lo), (3, .int er), (4, .ref (g + 1 + rx)), (5, .int (nI fr))]) h dX5_hearLetter_5 (by decide) rfl ?_
  have lp7_54 : ∀ (m7_54 : Nat), ∀ (v7_7_54 : Nat) (v6_7_54 : Nat) (fg_7_54 : Nat → Nat → Int32), (v6_7_54 ≤ 45) → (v7_7_54 ≤ 100000) → (v6_7_54 ≤ 100000) → 100001 - v7_7_54 < m7_54 → J x (mflat [(s, .inl (.inr (5, [.ref s0, .ref s1, .ref s2, .ref s3, .ref s4, .ref s5, .ref s6, .ref s7, .ref s8, .ref s9, .ref s10, .ref s11, .int (nI sn), .int (nI sl), .int (nI se)]))), (s1, .inl (.inl (kA 1, 6, .inl sc1))), (s5, .inl (.inl (kA 1, 10, .inl sc5))), (s6, .inr (kA 6, kA 1, 10, 5, .inl sc6)), (s10, .inl (.inl (kA 1, 4, .inl sc10))), (lo, .inl (.inl (kA 1, 6, .inl lof))), (g, .inr (kA 6, kA 1, 10, 45, .inl fg_7_54))]) [(7, .int (nI v7_7_54)), (6, .int (nI v6_7_54)), (0, .ref s), (1, .int (nI k)), (2, .ref lo), (3, .int er), (4, .ref (g + 1 + rx)), (5, .int (nI fr))] 0 0 7 [] := by
    intro m7_54
    induction m7_54 with
    | zero =>
      intro v7_7_54 v6_7_54 fg_7_54 i7_54_0 i7_54_1 i7_54_2 hm7_54
      exact absurd hm7_54 (Nat.not_lt_zero _)
    | succ m7_54 ih7_54 =>
      intro v7_7_54 v6_7_54 fg_7_54 i7_54_0 i7_54_1 i7_54_2 hm7_54
      refine j_aload_n h 2 rfl rfl dX5_hearLetter_7 ?_
      refine j_iload_n h 3 rfl rfl dX5_hearLetter_8 ?_
      refine jm_callVi (np := 1) (isC := [0]) (isR := [1, 2, 3, 4, 5, 6]) (wc := [(s, .inl (.inr (5, [.ref s0, .ref s1, .ref s2, .ref s3, .ref s4, .ref s5, .ref s6, .ref s7, .ref s8, .ref s9, .ref s10, .ref s11, .int (nI sn), .int (nI sl), .int (nI se)])))]) (wr := [(s1, .inl (.inl (kA 1, 6, .inl sc1))), (s5, .inl (.inl (kA 1, 10, .inl sc5))), (s6, .inr (kA 6, kA 1, 10, 5, .inl sc6)), (s10, .inl (.inl (kA 1, 4, .inl sc10))), (lo, .inl (.inl (kA 1, 6, .inl lof))), (g, .inr (kA 6, kA 1, 10, 45, .inl fg_7_54))]) (rest := []) (As := [.int (nI k)]) (q0 := 0) h (s_X5_hasLetter _ _ kA s (nI k) s0 s1 s2 s3 s4 s5 s6 s7 s8 s9 s10 s11 (nI sn) (nI sl) (nI se) ) tw_906 tw_776 tw_777 tw_90 tw_778 (by decide +kernel) rfl ⟨Nat.le_of_ble_eq_true rfl, Nat.le_of_ble_eq_true rfl⟩ rfl rfl (by decide +kernel) rfl rfl (by decide +kernel) (by decide +kernel) (Nat.le_of_ble_eq_true rfl) rfl ⟨Nat.le_of_ble_eq_true rfl, Nat.le_of_ble_eq_true rfl⟩ dX5_hearLetter_9 ?_
      rintro r969 _ e968
      have p970 := e968
      subst p970
      show J x (mflat [(s1, .inl (.inl (kA 1, 6, .inl sc1))), (s5, .inl (.inl (kA 1, 10, .inl sc5))), (s6, .inr (kA 6, kA 1, 10, 5, .inl sc6)), (s10, .inl (.inl (kA 1, 4, .inl sc10))), (lo, .inl (.inl (kA 1, 6, .inl lof))), (g, .inr (kA 6, kA 1, 10, 45, .inl fg_7_54)), (s, .inl (.inr (5, [.ref s0, .ref s1, .ref s2, .ref s3, .ref s4, .ref s5, .ref s6, .ref s7, .ref s8, .ref s9, .ref s10, .ref s11, .int (nI sn), .int (nI sl), .int (nI se)])))]) [(7, .int (nI v7_7_54)), (6, .int (nI v6_7_54)), (0, .ref s), (1, .int (nI k)), (2, .ref lo), (3, .int er), (4, .ref (g + 1 + rx)), (5, .int (nI fr))] 0 0 12 [.int (bIx (nI k) (nI sl))]
      rcases bIxn k sl (by omega) (by omega) with ⟨hj971, hT⟩ | ⟨hj971, hT⟩
      · refine j_top (b := 0) hT ?_
        show J x (mflat [(s1, .inl (.inl (kA 1, 6, .inl sc1))), (s5, .inl (.inl (kA 1, 10, .inl sc5))), (s6, .inr (kA 6, kA 1, 10, 5, .inl sc6)), (s10, .inl (.inl (kA 1, 4, .inl sc10))), (lo, .inl (.inl (kA 1, 6, .inl lof))), (g, .inr (kA 6, kA 1, 10, 45, .inl fg_7_54)), (s, .inl (.inr (5, [.ref s0, .ref s1, .ref s2, .ref s3, .ref s4, .ref s5, .ref s6, .ref s7, .ref s8, .ref s9, .ref s10, .ref s11, .int (nI sn), .int (nI sl), .int (nI se)])))]) [(7, .int (nI v7_7_54)), (6, .int (nI v6_7_54)), (0, .ref s), (1, .int (nI k)), (2, .ref lo), (3, .int er), (4, .ref (g + 1 + rx)), (5, .int (nI fr))] 0 0 12 [.int 0]
        refine j_if_eq h 68 dX5_hearLetter_12 (by decide) (fun _ => ?_) (fun q => absurd (by decide) q)
        refine j_iload h 1 rfl dX5_hearLetter_68 ?_
        exact jm_iret h hq dX5_hearLetter_70 (v6_7_54, fg_7_54) [6, 0, 1, 2, 3, 4, 5] rfl (by decide) ⟨rfl, (show v6_7_54 ≤ 45 by first | assumption | omega)⟩ (Nat.le_of_ble_eq_true rfl) (Nat.le_of_ble_eq_true rfl)
      · refine j_top (b := 1) hT ?_
        show J x (mflat [(s1, .inl (.inl (kA 1, 6, .inl sc1))), (s5, .inl (.inl (kA 1, 10, .inl sc5))), (s6, .inr (kA 6, kA 1, 10, 5, .inl sc6)), (s10, .inl (.inl (kA 1, 4, .inl sc10))), (lo, .inl (.inl (kA 1, 6, .inl lof))), (g, .inr (kA 6, kA 1, 10, 45, .inl fg_7_54)), (s, .inl (.inr (5, [.ref s0, .ref s1, .ref s2, .ref s3, .ref s4, .ref s5, .ref s6, .ref s7, .ref s8, .ref s9, .ref s10, .ref s11, .int (nI sn), .int (nI sl), .int (nI se)])))]) [(7, .int (nI v7_7_54)), (6, .int (nI v6_7_54)), (0, .ref s), (1, .int (nI k)), (2, .ref lo), (3, .int er), (4, .ref (g + 1 + rx)), (5, .int (nI fr))] 0 0 12 [.int 1]
        refine j_if_eq h 68 dX5_hearLetter_12 (by decide) (fun q => absurd q (by decide)) (fun _ => ?_)
        refine j_iload h 0 rfl dX5_hearLetter_15 ?_
        refine j_aload_n h 2 rfl rfl dX5_hearLetter_17 ?_
        refine jm_get h iw_X5 6 rfl rfl 5 (by decide +kernel) tw_191 rfl dX5_hearLetter_18 ?_
        refine j_iload_n h 3 rfl rfl dX5_hearLetter_21 ?_
        refine jm_iald h 1 rfl k rfl (by omega) (by omega) dX5_hearLetter_22 ?_
        obtain ⟨t972, u973, u974, u975⟩ := (show SzOk sl sc5 by assumption) k (by omega)
        refine j_top (b := nI t972) (u975) ?_
        refine j_icmp_ge h 68 dX5_hearLetter_23 (by decide) (fun z976 => ?_) (fun z976 => ?_)
        · have z976n : t972 ≤ v7_7_54 := (nI_leI (a := t972) (b := v7_7_54) (by omega) (by omega)).mp z976
          refine j_iload h 1 rfl dX5_hearLetter_68 ?_
          exact jm_iret h hq dX5_hearLetter_70 (v6_7_54, fg_7_54) [6, 0, 1, 2, 3, 4, 5] rfl (by decide) ⟨rfl, (show v6_7_54 ≤ 45 by first | assumption | omega)⟩ (Nat.le_of_ble_eq_true rfl) (Nat.le_of_ble_eq_true rfl)
        · have z976n : ¬ t972 ≤ v7_7_54 := fun q9 => z976 ((nI_leI (a := t972) (b := v7_7_54) (by omega) (by omega)).mpr q9)
          refine j_aload_n h 2 rfl rfl dX5_hearLetter_26 ?_
          refine jm_get h iw_X5 6 rfl rfl 6 (by decide +kernel) tw_195 rfl dX5_hearLetter_27 ?_
          refine j_iload_n h 3 rfl rfl dX5_hearLetter_30 ?_
          refine jm_gout h 2 6 rfl rfl k rfl (by omega) (by omega) dX5_hearLetter_31 ?_
          refine j_iload h 0 rfl dX5_hearLetter_32 ?_
          refine jm_gald h 2 rfl k (by omega) v7_7_54 rfl (by omega) (by omega) dX5_hearLetter_34 ?_
          obtain ⟨t977, u978, u979⟩ := (show RwOk sl sn sc5 sc6 by assumption) k v7_7_54 t972 (by omega) u975 (by omega) (by omega)
          refine j_top (b := nI t977) (u979) ?_
          refine j_istore (lv' := [(8, .int (nI t977)), (7, .int (nI v7_7_54)), (6, .int (nI v6_7_54)), (0, .ref s), (1, .int (nI k)), (2, .ref lo), (3, .int er), (4, .ref (g + 1 + rx)), (5, .int (nI fr))]) h dX5_hearLetter_35 (by decide) rfl ?_
          refine j_aload h 7 rfl dX5_hearLetter_37 ?_
          refine j_iload h 2 rfl dX5_hearLetter_39 ?_
          refine j_aload_n h 3 rfl rfl dX5_hearLetter_41 ?_
          refine j_aload_n h 5 rfl rfl dX5_hearLetter_42 ?_
          refine j_iload h 0 rfl dX5_hearLetter_43 ?_
          refine jm_iald h 4 rfl t977 rfl (by omega) (by omega) dX5_hearLetter_45 ?_
          refine j_iload_n h 6 rfl rfl dX5_hearLetter_46 ?_
          refine jm_callVi (np := 2) (isC := [6, 3]) (isR := [0, 1, 2, 4, 5]) (wc := [(s, .inl (.inr (5, [.ref s0, .ref s1, .ref s2, .ref s3, .ref s4, .ref s5, .ref s6, .ref s7, .ref s8, .ref s9, .ref s10, .ref s11, .int (nI sn), .int (nI sl), .int (nI se)]))), (s10, .inl (.inl (kA 1, 4, .inl sc10)))]) (wr := [(s1, .inl (.inl (kA 1, 6, .inl sc1))), (s5, .inl (.inl (kA 1, 10, .inl sc5))), (s6, .inr (kA 6, kA 1, 10, 5, .inl sc6)), (lo, .inl (.inl (kA 1, 6, .inl lof))), (g, .inr (kA 6, kA 1, 10, 45, .inl fg_7_54))]) (rest := [.int (nI v6_7_54), .ref (g + 1 + rx)]) (As := [.int (lof t977), .int er]) (q0 := 0) h (s_X5_heardBelow _ _ kA s (lof t977) er s0 s1 s2 s3 s4 s5 s6 s7 s8 s9 s10 s11 sn sl se sc10 (show sn ≤ 6 by first | assumption | omega) (show sl ≤ 10 by first | assumption | omega) (show se ≤ 4 by first | assumption | omega)) tw_907 tw_798 tw_799 tw_90 tw_800 (by decide +kernel) rfl ⟨Nat.le_of_ble_eq_true rfl, Nat.le_of_ble_eq_true rfl⟩ rfl rfl (by decide +kernel) rfl rfl (by decide +kernel) (by decide +kernel) (Nat.le_of_ble_eq_true rfl) rfl ⟨Nat.le_of_ble_eq_true rfl, Nat.le_of_ble_eq_true rfl⟩ dX5_hearLetter_47 ?_
          rintro r981 _ e980
          show J x (mflat [(s1, .inl (.inl (kA 1, 6, .inl sc1))), (s5, .inl (.inl (kA 1, 10, .inl sc5))), (s6, .inr (kA 6, kA 1, 10, 5, .inl sc6)), (lo, .inl (.inl (kA 1, 6, .inl lof))), (g, .inr (kA 6, kA 1, 10, 45, .inl fg_7_54)), (s, .inl (.inr (5, [.ref s0, .ref s1, .ref s2, .ref s3, .ref s4, .ref s5, .ref s6, .ref s7, .ref s8, .ref s9, .ref s10, .ref s11, .int (nI sn), .int (nI sl), .int (nI se)]))), (s10, .inl (.inl (kA 1, 4, .inl sc10)))]) [(8, .int (nI t977)), (7, .int (nI v7_7_54)), (6, .int (nI v6_7_54)), (0, .ref s), (1, .int (nI k)), (2, .ref lo), (3, .int er), (4, .ref (g + 1 + rx)), (5, .int (nI fr))] 0 0 50 [.int r981, .int (nI v6_7_54), .ref (g + 1 + rx)]
          refine j_aload_n h 3 rfl rfl dX5_hearLetter_50 ?_
          refine jm_get h iw_X5 5 rfl rfl 1 (by decide +kernel) tw_177 rfl dX5_hearLetter_51 ?_
          refine j_iload h 0 rfl dX5_hearLetter_54 ?_
          refine jm_iald h 0 rfl t977 rfl (by omega) (by omega) dX5_hearLetter_56 ?_
          obtain ⟨t982, u983, u984, u985⟩ := (show TkOk sn sc1 by assumption) t977 (by omega)
          refine j_top (b := nI t982) (u985) ?_
          refine jm_callSNi (np := 4) (isC := [4]) (isR := [0, 1, 2, 3, 5, 6]) (wc := [(g, .inr (kA 6, kA 1, 10, 45, .inl fg_7_54))]) (wr := [(s1, .inl (.inl (kA 1, 6, .inl sc1))), (s5, .inl (.inl (kA 1, 10, .inl sc5))), (s6, .inr (kA 6, kA 1, 10, 5, .inl sc6)), (lo, .inl (.inl (kA 1, 6, .inl lof))), (s, .inl (.inr (5, [.ref s0, .ref s1, .ref s2, .ref s3, .ref s4, .ref s5, .ref s6, .ref s7, .ref s8, .ref s9, .ref s10, .ref s11, .int (nI sn), .int (nI sl), .int (nI se)]))), (s10, .inl (.inl (kA 1, 4, .inl sc10)))]) (rest := []) (As := [.ref (g + 1 + rx), .int (nI v6_7_54), .int r981, .int (nI t982)]) h (s_X11_putStepG _ _ kA g rx v6_7_54 r981 t982 fg_7_54 (show rx < 10 by first | assumption | omega) (show v6_7_54 ≤ 45 by first | assumption | omega) (show t982 ≤ 9 by first | assumption | omega)) (by decide +kernel) tw_806 tw_87 tw_807 (by decide +kernel) rfl ⟨Nat.le_of_ble_eq_true rfl, Nat.le_of_ble_eq_true rfl⟩ (by decide +kernel) rfl rfl (by decide +kernel) (by decide +kernel) (Nat.le_of_ble_eq_true rfl) rfl ⟨Nat.le_of_ble_eq_true rfl, Nat.le_of_ble_eq_true rfl⟩ dX5_hearLetter_57 ?_
          rintro r989 ⟨q986, q987⟩ e988
          obtain ⟨p990, p991, p992⟩ := e988
          subst p990
          replace p991 : q986 ≤ 45 := p991
          replace p992 : v6_7_54 ≤ q986 := p992
          show J x (mflat [(s1, .inl (.inl (kA 1, 6, .inl sc1))), (s5, .inl (.inl (kA 1, 10, .inl sc5))), (s6, .inr (kA 6, kA 1, 10, 5, .inl sc6)), (lo, .inl (.inl (kA 1, 6, .inl lof))), (s, .inl (.inr (5, [.ref s0, .ref s1, .ref s2, .ref s3, .ref s4, .ref s5, .ref s6, .ref s7, .ref s8, .ref s9, .ref s10, .ref s11, .int (nI sn), .int (nI sl), .int (nI se)]))), (s10, .inl (.inl (kA 1, 4, .inl sc10))), (g, .inr (kA 6, kA 1, 10, 45, .inl q987))]) [(8, .int (nI t977)), (7, .int (nI v7_7_54)), (6, .int (nI v6_7_54)), (0, .ref s), (1, .int (nI k)), (2, .ref lo), (3, .int er), (4, .ref (g + 1 + rx)), (5, .int (nI fr))] 0 0 60 [.int (nI q986)]
          refine j_istore (lv' := [(6, .int (nI q986)), (8, .int (nI t977)), (7, .int (nI v7_7_54)), (0, .ref s), (1, .int (nI k)), (2, .ref lo), (3, .int er), (4, .ref (g + 1 + rx)), (5, .int (nI fr))]) h dX5_hearLetter_60 (by decide) rfl ?_
          refine j_iinc (v := nI (v7_7_54 + 1)) (lv' := [(7, .int (nI (v7_7_54 + 1))), (6, .int (nI q986)), (8, .int (nI t977)), (0, .ref s), (1, .int (nI k)), (2, .ref lo), (3, .int er), (4, .ref (g + 1 + rx)), (5, .int (nI fr))]) h dX5_hearLetter_62 2 rfl (nI_add v7_7_54 1) (by decide) rfl ?_
          refine j_goto h 7 dX5_hearLetter_65 (by decide) ?_
          refine jm_sub [4, 0, 1, 2, 5, 3, 6] (w' := [(s, .inl (.inr (5, [.ref s0, .ref s1, .ref s2, .ref s3, .ref s4, .ref s5, .ref s6, .ref s7, .ref s8, .ref s9, .ref s10, .ref s11, .int (nI sn), .int (nI sl), .int (nI se)]))), (s1, .inl (.inl (kA 1, 6, .inl sc1))), (s5, .inl (.inl (kA 1, 10, .inl sc5))), (s6, .inr (kA 6, kA 1, 10, 5, .inl sc6)), (s10, .inl (.inl (kA 1, 4, .inl sc10))), (lo, .inl (.inl (kA 1, 6, .inl lof))), (g, .inr (kA 6, kA 1, 10, 45, .inl q987))]) rfl (by decide +kernel) [0, 1, 3, 4, 5, 6, 7, 8] (lv' := [(7, .int (nI (v7_7_54 + 1))), (6, .int (nI q986)), (0, .ref s), (1, .int (nI k)), (2, .ref lo), (3, .int er), (4, .ref (g + 1 + rx)), (5, .int (nI fr))]) rfl ?_
          exact ih7_54 (v7_7_54 + 1) q986 q987 (show q986 ≤ 45 by first | assumption | omega) (show (v7_7_54 + 1) ≤ 100000 by first | assumption | omega) (show q986 ≤ 100000 by first | assumption | omega) (show 100001 - (v7_7_54 + 1) < m7_54 by first | exact Nat.lt_of_lt_of_le (Nat.sub_lt_sub_left (Nat.lt_of_le_of_lt (show v7_7_54 ≤ 100000 by assumption) (Nat.lt_succ_self 100000)) (Nat.lt_succ_self v7_7_54)) (Nat.le_of_lt_succ hm7_54) | omega)
  refine jm_sub [0, 1, 2, 3, 4, 5, 6] (w' := [(s, .inl (.inr (5, [.ref s0, .ref s1, .ref s2, .ref s3, .ref s4, .ref s5, .ref s6, .ref s7, .ref s8, .ref s9, .ref s10, .ref s11, .int (nI sn), .int (nI sl), .int (nI se)]))), (s1, .inl (.inl (kA 1, 6, .inl sc1))), (s5, .inl (.inl (kA 1, 10, .inl sc5))), (s6, .inr (kA 6, kA 1, 10, 5, .inl sc6)), (s10, .inl (.inl (kA 1, 4, .inl sc10))), (lo, .inl (.inl (kA 1, 6, .inl lof))), (g, .inr (kA 6, kA 1, 10, 45, .inl gf))]) rfl (by decide +kernel) [0, 1, 2, 3, 4, 5, 6, 7] (lv' := [(7, .int 0), (6, .int (nI fr)), (0, .ref s), (1, .int (nI k)), (2, .ref lo), (3, .int er), (4, .ref (g + 1 + rx)), (5, .int (nI fr))]) rfl ?_
  exact lp7_54 (100001 - 0 + 1) 0 fr gf (show fr ≤ 45 by first | assumption | omega) (show 0 ≤ 100000 by first | assumption | omega) (show fr ≤ 100000 by first | assumption | omega) (Nat.lt_succ_self _)
set_option maxHeartbeats 4000000 in
set_option maxRecDepth 100000 in
theorem s_X10_hearText (lau : Launch) (gg : va_G) (kA : Nat → ClassId) (t : Nat) (s : Nat) (lo : Nat) (er : Int32) (o : Nat) (t0 : Nat) (tsz : Nat) (ttm : Nat) (tft : Nat) (trow : Nat → Int32) (s0 : Nat) (s1 : Nat) (s2 : Nat) (s3 : Nat) (s4 : Nat) (s5 : Nat) (s6 : Nat) (s7 : Nat) (s8 : Nat) (s9 : Nat) (s10 : Nat) (s11 : Nat) (sn : Nat) (sl : Nat) (se : Nat) (sc1 : Nat → Int32) (sc5 : Nat → Int32) (sc6 : Nat → Nat → Int32) (sc10 : Nat → Int32) (lof : Nat → Int32) (of : Nat → Int32) (hsn : sn ≤ 6) (hsl : sl ≤ 10) (hse : se ≤ 4) (hstk : TkOk sn sc1) (hssz : SzOk sl sc5) (hsrw : RwOk sl sn sc5 sc6) (htsz : tsz ≤ 60) (httm : ttm ≤ 60) (htft : tft ≤ 1) (htro : RoOk sl tsz trow) : CtV lau yX10_hearText cX10_hearText 7 (none) 4 0 0 gg kA [.ref t, .ref s, .ref lo, .int er, .ref o] (mflat [(t, .inl (.inr (10, [.ref t0, .int (nI tsz), .int (nI ttm), .int (nI tft)]))), (t0, .inl (.inl (kA 1, 60, .inl trow))), (s, .inl (.inr (5, [.ref s0, .ref s1, .ref s2, .ref s3, .ref s4, .ref s5, .ref s6, .ref s7, .ref s8, .ref s9, .ref s10, .ref s11, .int (nI sn), .int (nI sl), .int (nI se)]))), (s1, .inl (.inl (kA 1, 6, .inl sc1))), (s5, .inl (.inl (kA 1, 10, .inl sc5))), (s6, .inr (kA 6, kA 1, 10, 5, .inl sc6)), (s10, .inl (.inl (kA 1, 4, .inl sc10))), (lo, .inl (.inl (kA 1, 6, .inl lof))), (o, .inl (.inl (kA 1, 60, .inl of)))]) (S := (Nat → Int32)) (fun (y_o : (Nat → Int32)) => True) (fun (y_o : (Nat → Int32)) => mflat [(t, .inl (.inr (10, [.ref t0, .int (nI tsz), .int (nI ttm), .int (nI tft)]))), (t0, .inl (.inl (kA 1, 60, .inl trow))), (s, .inl (.inr (5, [.ref s0, .ref s1, .ref s2, .ref s3, .ref s4, .ref s5, .ref s6, .ref s7, .ref s8, .ref s9, .ref s10, .ref s11, .int (nI sn), .int (nI sl), .int (nI se)]))), (s1, .inl (.inl (kA 1, 6, .inl sc1))), (s5, .inl (.inl (kA 1, 10, .inl sc5))), (s6, .inr (kA 6, kA 1, 10, 5, .inl sc6)), (s10, .inl (.inl (kA 1, 4, .inl sc10))), (lo, .inl (.inl (kA 1, 6, .inl lof))), (o, .inl (.inl (kA 1, 60, .inl y_o)))]) := by
  refine nx_startV (by decide +kernel) (Nat.le_of_ble_eq_true rfl) ?_
  intro x hnm h hq
  have h : Ok x cX10_hearText RX10 kA (rmC 4 0 0) 7 := h
  show J x (mflat [(t, .inl (.inr (10, [.ref t0, .int (nI tsz), .int (nI ttm), .int (nI tft)]))), (t0, .inl (.inl (kA 1, 60, .inl trow))), (s, .inl (.inr (5, [.ref s0, .ref s1, .ref s2, .ref s3, .ref s4, .ref s5, .ref s6, .ref s7, .ref s8, .ref s9, .ref s10, .ref s11, .int (nI sn), .int (nI sl), .int (nI se)]))), (s1, .inl (.inl (kA 1, 6, .inl sc1))), (s5, .inl (.inl (kA 1, 10, .inl sc5))), (s6, .inr (kA 6, kA 1, 10, 5, .inl sc6)), (s10, .inl (.inl (kA 1, 4, .inl sc10))), (lo, .inl (.inl (kA 1, 6, .inl lof))), (o, .inl (.inl (kA 1, 60, .inl of)))]) [(0, .ref t), (1, .ref s), (2, .ref lo), (3, .int er), (4, .ref o)] 0 0 0 []
  refine j_iconst (v := 0) h (by decide) dX10_hearText_0 ?_
  refine j_istore (lv' := [(5, .int 0), (0, .ref t), (1, .ref s), (2, .ref lo), (3, .int er), (4, .ref o)]) h dX10_hearText_1 (by decide) rfl ?_
  refine j_iconst (v := 0) h (by decide) dX10_hearText_3 ?_
  refine j_istore (lv' := [(6, .int 0), (5, .int 0), (0, .ref t), (1, .ref s), (2, .ref lo), (3, .int er), (4, .ref o)]) h dX10_hearText_4 (by decide) rfl ?_
  have lp6_60 : ∀ (m6_60 : Nat), ∀ (v6_6_60 : Nat) (v5_6_60 : Nat) (fo_6_60 : Nat → Int32), (v5_6_60 ≤ 60) → (v6_6_60 ≤ 100000) → (v5_6_60 ≤ 100000) → 100001 - v6_6_60 < m6_60 → J x (mflat [(t, .inl (.inr (10, [.ref t0, .int (nI tsz), .int (nI ttm), .int (nI tft)]))), (t0, .inl (.inl (kA 1, 60, .inl trow))), (s, .inl (.inr (5, [.ref s0, .ref s1, .ref s2, .ref s3, .ref s4, .ref s5, .ref s6, .ref s7, .ref s8, .ref s9, .ref s10, .ref s11, .int (nI sn), .int (nI sl), .int (nI se)]))), (s1, .inl (.inl (kA 1, 6, .inl sc1))), (s5, .inl (.inl (kA 1, 10, .inl sc5))), (s6, .inr (kA 6, kA 1, 10, 5, .inl sc6)), (s10, .inl (.inl (kA 1, 4, .inl sc10))), (lo, .inl (.inl (kA 1, 6, .inl lof))), (o, .inl (.inl (kA 1, 60, .inl fo_6_60)))]) [(6, .int (nI v6_6_60)), (5, .int (nI v5_6_60)), (0, .ref t), (1, .ref s), (2, .ref lo), (3, .int er), (4, .ref o)] 0 0 6 [] := by
    intro m6_60
    induction m6_60 with
    | zero =>
      intro v6_6_60 v5_6_60 fo_6_60 i6_60_0 i6_60_1 i6_60_2 hm6_60
      exact absurd hm6_60 (Nat.not_lt_zero _)
    | succ m6_60 ih6_60 =>
      intro v6_6_60 v5_6_60 fo_6_60 i6_60_0 i6_60_1 i6_60_2 hm6_60
      refine j_iload h 0 rfl dX10_hearText_6 ?_
      refine j_aload_n h 2 rfl rfl dX10_hearText_8 ?_
      refine jm_get h iw_X10 0 rfl rfl 1 (by decide +kernel) tw_305 rfl dX10_hearText_9 ?_
      refine j_icmp_ge h 40 dX10_hearText_12 (by decide) (fun z1043 => ?_) (fun z1043 => ?_)
      · have z1043n : tsz ≤ v6_6_60 := (nI_leI (a := tsz) (b := v6_6_60) (by omega) (by omega)).mp z1043
        exact jm_vret h hq dX10_hearText_40 fo_6_60 [0, 1, 2, 3, 4, 5, 6, 7, 8] rfl (by decide) trivial (Nat.le_of_ble_eq_true rfl) (Nat.le_of_ble_eq_true rfl)
      · have z1043n : ¬ tsz ≤ v6_6_60 := fun q9 => z1043 ((nI_leI (a := tsz) (b := v6_6_60) (by omega) (by omega)).mpr q9)
        refine j_aload_n h 3 rfl rfl dX10_hearText_15 ?_
        refine j_aload_n h 2 rfl rfl dX10_hearText_16 ?_
        refine jm_get h iw_X10 0 rfl rfl 0 (by decide +kernel) tw_302 rfl dX10_hearText_17 ?_
        refine j_iload h 0 rfl dX10_hearText_20 ?_
        refine jm_iald h 1 rfl v6_6_60 rfl (by omega) (by omega) dX10_hearText_22 ?_
        obtain ⟨t1044, u1045, u1046⟩ := (show RoOk sl tsz trow by assumption) v6_6_60 (by omega)
        refine j_top (b := nI t1044) (u1046) ?_
        refine j_aload_n h 4 rfl rfl dX10_hearText_23 ?_
        refine j_iload_n h 5 rfl rfl dX10_hearText_24 ?_
        refine j_aload h 6 rfl dX10_hearText_25 ?_
        refine j_iload h 1 rfl dX10_hearText_27 ?_
        refine jm_callVi (np := 5) (isC := [2, 3, 4, 5, 6, 7, 8]) (isR := [0, 1]) (wc := [(s, .inl (.inr (5, [.ref s0, .ref s1, .ref s2, .ref s3, .ref s4, .ref s5, .ref s6, .ref s7, .ref s8, .ref s9, .ref s10, .ref s11, .int (nI sn), .int (nI sl), .int (nI se)]))), (s1, .inl (.inl (kA 1, 6, .inl sc1))), (s5, .inl (.inl (kA 1, 10, .inl sc5))), (s6, .inr (kA 6, kA 1, 10, 5, .inl sc6)), (s10, .inl (.inl (kA 1, 4, .inl sc10))), (lo, .inl (.inl (kA 1, 6, .inl lof))), (o, .inl (.inl (kA 1, 60, .inl fo_6_60)))]) (wr := [(t, .inl (.inr (10, [.ref t0, .int (nI tsz), .int (nI ttm), .int (nI tft)]))), (t0, .inl (.inl (kA 1, 60, .inl trow)))]) (rest := []) (As := [.int (nI t1044), .ref lo, .int er, .ref o, .int (nI v5_6_60)]) (q0 := 0) h (s_X5_hearLetter _ _ kA s t1044 lo er o v5_6_60 s0 s1 s2 s3 s4 s5 s6 s7 s8 s9 s10 s11 sn sl se sc1 sc5 sc6 sc10 lof 60 fo_6_60 (show sn ≤ 6 by first | assumption | omega) (show sl ≤ 10 by first | assumption | omega) (show se ≤ 4 by first | assumption | omega) (show TkOk sn sc1 by first | assumption | omega) (show SzOk sl sc5 by first | assumption | omega) (show RwOk sl sn sc5 sc6 by first | assumption | omega) (show t1044 < sl by first | assumption | omega) (show 60 ≤ 60 by first | assumption | omega) (show v5_6_60 ≤ 60 by first | assumption | omega)) tw_972 tw_903 tw_904 tw_90 tw_905 (by decide +kernel) rfl ⟨Nat.le_of_ble_eq_true rfl, Nat.le_of_ble_eq_true rfl⟩ rfl rfl (by decide +kernel) rfl rfl (by decide +kernel) (by decide +kernel) (Nat.le_of_ble_eq_true rfl) rfl ⟨Nat.le_of_ble_eq_true rfl, Nat.le_of_ble_eq_true rfl⟩ dX10_hearText_29 ?_
        rintro r1050 ⟨q1047, q1048⟩ e1049
        obtain ⟨p1051, p1052⟩ := e1049
        subst p1051
        replace p1052 : q1047 ≤ 60 := p1052
        show J x (mflat [(t, .inl (.inr (10, [.ref t0, .int (nI tsz), .int (nI ttm), .int (nI tft)]))), (t0, .inl (.inl (kA 1, 60, .inl trow))), (s, .inl (.inr (5, [.ref s0, .ref s1, .ref s2, .ref s3, .ref s4, .ref s5, .ref s6, .ref s7, .ref s8, .ref s9, .ref s10, .ref s11, .int (nI sn), .int (nI sl), .int (nI se)]))), (s1, .inl (.inl (kA 1, 6, .inl sc1))), (s5, .inl (.inl (kA 1, 10, .inl sc5))), (s6, .inr (kA 6, kA 1, 10, 5, .inl sc6)), (s10, .inl (.inl (kA 1, 4, .inl sc10))), (lo, .inl (.inl (kA 1, 6, .inl lof))), (o, .inl (.inl (kA 1, 60, .inl q1048)))]) [(6, .int (nI v6_6_60)), (5, .int (nI v5_6_60)), (0, .ref t), (1, .ref s), (2, .ref lo), (3, .int er), (4, .ref o)] 0 0 32 [.int (nI q1047)]
        refine j_istore (lv' := [(5, .int (nI q1047)), (6, .int (nI v6_6_60)), (0, .ref t), (1, .ref s), (2, .ref lo), (3, .int er), (4, .ref o)]) h dX10_hearText_32 (by decide) rfl ?_
        refine j_iinc (v := nI (v6_6_60 + 1)) (lv' := [(6, .int (nI (v6_6_60 + 1))), (5, .int (nI q1047)), (0, .ref t), (1, .ref s), (2, .ref lo), (3, .int er), (4, .ref o)]) h dX10_hearText_34 1 rfl (nI_add v6_6_60 1) (by decide) rfl ?_
        refine j_goto h 6 dX10_hearText_37 (by decide) ?_
        refine jm_sub [0, 1, 2, 3, 4, 5, 6, 7, 8] (w' := [(t, .inl (.inr (10, [.ref t0, .int (nI tsz), .int (nI ttm), .int (nI tft)]))), (t0, .inl (.inl (kA 1, 60, .inl trow))), (s, .inl (.inr (5, [.ref s0, .ref s1, .ref s2, .ref s3, .ref s4, .ref s5, .ref s6, .ref s7, .ref s8, .ref s9, .ref s10, .ref s11, .int (nI sn), .int (nI sl), .int (nI se)]))), (s1, .inl (.inl (kA 1, 6, .inl sc1))), (s5, .inl (.inl (kA 1, 10, .inl sc5))), (s6, .inr (kA 6, kA 1, 10, 5, .inl sc6)), (s10, .inl (.inl (kA 1, 4, .inl sc10))), (lo, .inl (.inl (kA 1, 6, .inl lof))), (o, .inl (.inl (kA 1, 60, .inl q1048)))]) rfl (by decide +kernel) [0, 1, 2, 3, 4, 5, 6] (lv' := [(6, .int (nI (v6_6_60 + 1))), (5, .int (nI q1047)), (0, .ref t), (1, .ref s), (2, .ref lo), (3, .int er), (4, .ref o)]) rfl ?_
        exact ih6_60 (v6_6_60 + 1) q1047 q1048 (show q1047 ≤ 60 by first | assumption | omega) (show (v6_6_60 + 1) ≤ 100000 by first | assumption | omega) (show q1047 ≤ 100000 by first | assumption | omega) (show 100001 - (v6_6_60 + 1) < m6_60 by first | exact Nat.lt_of_lt_of_le (Nat.sub_lt_sub_left (Nat.lt_of_le_of_lt (show v6_6_60 ≤ 100000 by assumption) (Nat.lt_succ_self 100000)) (Nat.lt_succ_self v6_6_60)) (Nat.le_of_lt_succ hm6_60) | omega)
  refine jm_sub [0, 1, 2, 3, 4, 5, 6, 7, 8] (w' := [(t, .inl (.inr (10, [.ref t0, .int (nI tsz), .int (nI ttm), .int (nI tft)]))), (t0, .inl (.inl (kA 1, 60, .inl trow))), (s, .inl (.inr (5, [.ref s0, .ref s1, .ref s2, .ref s3, .ref s4, .ref s5, .ref s6, .ref s7, .ref s8, .ref s9, .ref s10, .ref s11, .int (nI sn), .int (nI sl), .int (nI se)]))), (s1, .inl (.inl (kA 1, 6, .inl sc1))), (s5, .inl (.inl (kA 1, 10, .inl sc5))), (s6, .inr (kA 6, kA 1, 10, 5, .inl sc6)), (s10, .inl (.inl (kA 1, 4, .inl sc10))), (lo, .inl (.inl (kA 1, 6, .inl lof))), (o, .inl (.inl (kA 1, 60, .inl of)))]) rfl (by decide +kernel) [0, 1, 2, 3, 4, 5, 6] (lv' := [(6, .int 0), (5, .int 0), (0, .ref t), (1, .ref s), (2, .ref lo), (3, .int er), (4, .ref o)]) rfl ?_
  exact lp6_60 (100001 - 0 + 1) 0 0 of (show 0 ≤ 60 by first | assumption | omega) (show 0 ≤ 100000 by first | assumption | omega) (show 0 ≤ 100000 by first | assumption | omega) (Nat.lt_succ_self _)
