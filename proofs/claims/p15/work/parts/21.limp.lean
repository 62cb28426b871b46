def q2 (a b : Nat) : Nat → Option Nat
  | 0 => some a
  | 1 => some b
  | _ => none
def q3 (a b c : Nat) : Nat → Option Nat
  | 0 => some a
  | 1 => some b
  | 2 => some c
  | _ => none
theorem LtOk_of {n : Nat} {tk : Nat → Int32} (h : TkOk n tk) : LtOk n tk := fun i hi => by
  obtain ⟨k, h1, h2, e⟩ := h i hi
  exact ⟨k, h1, by omega, e⟩
def fedS (s : Nat) : Nat := if s + 20 ≤ 1600 then s + 20 else s
def fedR (s : Nat) : Nat := if s + 20 ≤ 1600 then s + 21 else 0
def endS (s : Nat) (n : Int32) : Nat := if n < 0 then s else if nI s < n then s else n.toNatClampNeg
def endR (s : Nat) (n : Int32) : Int32 := if n < 0 then -1 else if nI s < n then -1 else n
theorem end_neg {s : Nat} {n : Int32} (h : n < 0) : endS s n = s ∧ endR s n = -1 := ⟨if_pos h, if_pos h⟩
theorem end_big {s j : Nat} (h : s < j) (hj : j < 2147483648) : endS s (nI j) = s ∧ endR s (nI j) = -1 := by
  unfold endS endR
  rw [if_neg (nI_pos hj), if_neg (nI_pos hj), if_pos (nI_lt h hj), if_pos (nI_lt h hj)]
  exact ⟨rfl, rfl⟩
theorem end_ok {s j : Nat} (h : j ≤ s) (hs : s < 2147483648) : endS s (nI j) = j ∧ endR s (nI j) = nI j := by
  unfold endS endR
  rw [if_neg (nI_pos (by omega)), if_neg (nI_pos (by omega)), if_neg (nI_nlt h hs), if_neg (nI_nlt h hs), nI_clamp (by omega)]
  exact ⟨rfl, rfl⟩
def latS (s : Nat) (n : Int32) : Nat := if n < 0 then s else if nI 1000 < n then s else if 100000 < s + n.toNatClampNeg then s else s + n.toNatClampNeg
def latR (s : Nat) (n : Int32) : Int32 := if n < 0 then -1 else if nI 1000 < n then -1 else if 100000 < s + n.toNatClampNeg then -1 else nI (s + n.toNatClampNeg)
theorem lat_neg {s : Nat} {n : Int32} (h : n < 0) : latS s n = s ∧ latR s n = -1 := ⟨if_pos h, if_pos h⟩
theorem lat_big {s j : Nat} (h : 1000 < j) (hj : j < 2147483648) : latS s (nI j) = s ∧ latR s (nI j) = -1 := by
  unfold latS latR
  rw [if_neg (nI_pos hj), if_neg (nI_pos hj), if_pos (nI_lt h hj), if_pos (nI_lt h hj)]
  exact ⟨rfl, rfl⟩
theorem lat_ovr {s j : Nat} (h : 100000 < s + j) (hj : j ≤ 1000) (hs : s < 2147483648) : latS s (nI j) = s ∧ latR s (nI j) = -1 := by
  unfold latS latR
  rw [if_neg (nI_pos (by omega)), if_neg (nI_pos (by omega)), if_neg (nI_nlt hj (by decide)), if_neg (nI_nlt hj (by decide)), nI_clamp (by omega), if_pos h, if_pos h]
  exact ⟨rfl, rfl⟩
theorem lat_ok {s j : Nat} (h : s + j ≤ 100000) (hj : j ≤ 1000) (hs : s < 2147483648) : latS s (nI j) = s + j ∧ latR s (nI j) = nI (s + j) := by
  unfold latS latR
  rw [if_neg (nI_pos (by omega)), if_neg (nI_pos (by omega)), if_neg (nI_nlt hj (by decide)), if_neg (nI_nlt hj (by decide)), nI_clamp (by omega), if_neg (by omega), if_neg (by omega)]
  exact ⟨rfl, rfl⟩
theorem dX11_isText_0 : decode cX11_isText 0 = .ok (.iload_n 0, 1) := by decide +kernel
theorem dX11_isText_1 : decode cX11_isText 1 = .ok (.ifCond .lt 12, 3) := by decide +kernel
theorem dX11_isText_13 : decode cX11_isText 13 = .ok (.iconst 0, 1) := by decide +kernel
theorem dX11_isText_14 : decode cX11_isText 14 = .ok (.ireturn, 1) := by decide +kernel
theorem dX11_isText_4 : decode cX11_isText 4 = .ok (.iload_n 0, 1) := by decide +kernel
theorem dX11_isText_5 : decode cX11_isText 5 = .ok (.iconst 2, 1) := by decide +kernel
theorem dX11_isText_6 : decode cX11_isText 6 = .ok (.if_icmp .ge 7, 3) := by decide +kernel
theorem dX11_isText_9 : decode cX11_isText 9 = .ok (.iconst 1, 1) := by decide +kernel
theorem dX11_isText_10 : decode cX11_isText 10 = .ok (.goto 4, 3) := by decide +kernel
theorem dX11_isBox_0 : decode cX11_isBox 0 = .ok (.iload_n 0, 1) := by decide +kernel
theorem dX11_isBox_1 : decode cX11_isBox 1 = .ok (.ifCond .lt 12, 3) := by decide +kernel
theorem dX11_isBox_13 : decode cX11_isBox 13 = .ok (.iconst 0, 1) := by decide +kernel
theorem dX11_isBox_14 : decode cX11_isBox 14 = .ok (.ireturn, 1) := by decide +kernel
theorem dX11_isBox_4 : decode cX11_isBox 4 = .ok (.iload_n 0, 1) := by decide +kernel
theorem dX11_isBox_5 : decode cX11_isBox 5 = .ok (.iconst 3, 1) := by decide +kernel
theorem dX11_isBox_6 : decode cX11_isBox 6 = .ok (.if_icmp .ge 7, 3) := by decide +kernel
theorem dX11_isBox_9 : decode cX11_isBox 9 = .ok (.iconst 1, 1) := by decide +kernel
theorem dX11_isBox_10 : decode cX11_isBox 10 = .ok (.goto 4, 3) := by decide +kernel
theorem dX11_commonDivisor_0 : decode cX11_commonDivisor 0 = .ok (.iload_n 0, 1) := by decide +kernel
theorem dX11_commonDivisor_1 : decode cX11_commonDivisor 1 = .ok (.istore_n 2, 1) := by decide +kernel
theorem dX11_commonDivisor_2 : decode cX11_commonDivisor 2 = .ok (.iload_n 1, 1) := by decide +kernel
theorem dX11_commonDivisor_3 : decode cX11_commonDivisor 3 = .ok (.istore_n 3, 1) := by decide +kernel
theorem dX11_commonDivisor_4 : decode cX11_commonDivisor 4 = .ok (.iconst 0, 1) := by decide +kernel
theorem dX11_commonDivisor_5 : decode cX11_commonDivisor 5 = .ok (.istore 4, 2) := by decide +kernel
theorem dX11_commonDivisor_7 : decode cX11_commonDivisor 7 = .ok (.iload 4, 2) := by decide +kernel
theorem dX11_commonDivisor_9 : decode cX11_commonDivisor 9 = .ok (.bipush 60, 2) := by decide +kernel
theorem dX11_commonDivisor_11 : decode cX11_commonDivisor 11 = .ok (.if_icmp .ge 23, 3) := by decide +kernel
theorem dX11_commonDivisor_14 : decode cX11_commonDivisor 14 = .ok (.iload_n 3, 1) := by decide +kernel
theorem dX11_commonDivisor_15 : decode cX11_commonDivisor 15 = .ok (.ifCond .eq 19, 3) := by decide +kernel
theorem dX11_commonDivisor_34 : decode cX11_commonDivisor 34 = .ok (.iload_n 2, 1) := by decide +kernel
theorem dX11_commonDivisor_35 : decode cX11_commonDivisor 35 = .ok (.ireturn, 1) := by decide +kernel
theorem dX11_commonDivisor_18 : decode cX11_commonDivisor 18 = .ok (.iload_n 2, 1) := by decide +kernel
theorem dX11_commonDivisor_19 : decode cX11_commonDivisor 19 = .ok (.iload_n 3, 1) := by decide +kernel
theorem dX11_commonDivisor_20 : decode cX11_commonDivisor 20 = .ok (.irem, 1) := by decide +kernel
theorem dX11_commonDivisor_21 : decode cX11_commonDivisor 21 = .ok (.istore 5, 2) := by decide +kernel
theorem dX11_commonDivisor_23 : decode cX11_commonDivisor 23 = .ok (.iload_n 3, 1) := by decide +kernel
theorem dX11_commonDivisor_24 : decode cX11_commonDivisor 24 = .ok (.istore_n 2, 1) := by decide +kernel
theorem dX11_commonDivisor_25 : decode cX11_commonDivisor 25 = .ok (.iload 5, 2) := by decide +kernel
theorem dX11_commonDivisor_27 : decode cX11_commonDivisor 27 = .ok (.istore_n 3, 1) := by decide +kernel
theorem dX11_commonDivisor_28 : decode cX11_commonDivisor 28 = .ok (.iinc 4 1, 3) := by decide +kernel
theorem dX11_commonDivisor_31 : decode cX11_commonDivisor 31 = .ok (.goto (-24), 3) := by decide +kernel
theorem dX11_areUnlikeEars_0 : decode cX11_areUnlikeEars 0 = .ok (.aload_n 0, 1) := by decide +kernel
theorem dX11_areUnlikeEars_1 : decode cX11_areUnlikeEars 1 = .ok (.getfield 26, 3) := by decide +kernel
theorem iw_X11 : ∀ w ∈ u_ws RX11 TX11 19, w ∈ TT := nx_mems _ [494, 496, 498, 500, 502, 504, 506, 508, 510, 512, 514, 516, 518, 520, 522, 524, 526, 528, 530] (by decide +kernel) (by decide +kernel)
theorem tw_477 : Cond.fieldLink RX11 26 "LimpCode" "now" "LLimpCode$School;" ∈ TT := nx_mem 477 (by decide +kernel) (by decide +kernel)
theorem dX11_areUnlikeEars_4 : decode cX11_areUnlikeEars 4 = .ok (.iload_n 1, 1) := by decide +kernel
theorem dX11_areUnlikeEars_5 : decode cX11_areUnlikeEars 5 = .ok (.invokevirtual 169, 3) := by decide +kernel
theorem tw_789 : Cond.methodLink RX11 169 yX5_hasEar ∈ TT := nx_mem 789 (by decide +kernel) (by decide +kernel)
theorem dX11_areUnlikeEars_8 : decode cX11_areUnlikeEars 8 = .ok (.ifCond .eq 23, 3) := by decide +kernel
theorem dX11_areUnlikeEars_31 : decode cX11_areUnlikeEars 31 = .ok (.iconst 0, 1) := by decide +kernel
theorem dX11_areUnlikeEars_32 : decode cX11_areUnlikeEars 32 = .ok (.ireturn, 1) := by decide +kernel
theorem dX11_areUnlikeEars_11 : decode cX11_areUnlikeEars 11 = .ok (.aload_n 0, 1) := by decide +kernel
theorem dX11_areUnlikeEars_12 : decode cX11_areUnlikeEars 12 = .ok (.getfield 26, 3) := by decide +kernel
theorem dX11_areUnlikeEars_15 : decode cX11_areUnlikeEars 15 = .ok (.iload_n 2, 1) := by decide +kernel
theorem dX11_areUnlikeEars_16 : decode cX11_areUnlikeEars 16 = .ok (.invokevirtual 169, 3) := by decide +kernel
theorem dX11_areUnlikeEars_19 : decode cX11_areUnlikeEars 19 = .ok (.ifCond .eq 12, 3) := by decide +kernel
theorem dX11_areUnlikeEars_22 : decode cX11_areUnlikeEars 22 = .ok (.iload_n 1, 1) := by decide +kernel
theorem dX11_areUnlikeEars_23 : decode cX11_areUnlikeEars 23 = .ok (.iload_n 2, 1) := by decide +kernel
theorem dX11_areUnlikeEars_24 : decode cX11_areUnlikeEars 24 = .ok (.if_icmp .eq 7, 3) := by decide +kernel
theorem dX11_areUnlikeEars_27 : decode cX11_areUnlikeEars 27 = .ok (.iconst 1, 1) := by decide +kernel
theorem dX11_areUnlikeEars_28 : decode cX11_areUnlikeEars 28 = .ok (.goto 4, 3) := by decide +kernel
theorem dX11_feed_0 : decode cX11_feed 0 = .ok (.aload_n 0, 1) := by decide +kernel
theorem dX11_feed_1 : decode cX11_feed 1 = .ok (.getfield 12, 3) := by decide +kernel
theorem tw_475 : Cond.fieldLink RX11 12 "LimpCode" "tape" "LLimpCode$Tape;" ∈ TT := nx_mem 475 (by decide +kernel) (by decide +kernel)
theorem dX11_feed_4 : decode cX11_feed 4 = .ok (.bipush 20, 2) := by decide +kernel
theorem dX11_feed_6 : decode cX11_feed 6 = .ok (.invokevirtual 108, 3) := by decide +kernel
theorem tw_537 : Cond.methodLink RX11 108 yX9_hasRoomFor ∈ TT := nx_mem 537 (by decide +kernel) (by decide +kernel)
theorem tw_538 : Cond.instanceMethod yX9_hasRoomFor ∈ TT := nx_mem 538 (by decide +kernel) (by decide +kernel)
theorem tw_539 : Cond.selects RX9 yX9_hasRoomFor yX9_hasRoomFor ∈ TT := nx_mem 539 (by decide +kernel) (by decide +kernel)
theorem tw_540 : Cond.code yX9_hasRoomFor cX9_hasRoomFor 2 (some .boolean) ∈ TT := nx_mem 540 (by decide +kernel) (by decide +kernel)
theorem dX11_feed_9 : decode cX11_feed 9 = .ok (.ifCond .ne 5, 3) := by decide +kernel
theorem dX11_feed_14 : decode cX11_feed 14 = .ok (.aload_n 0, 1) := by decide +kernel
theorem dX11_feed_15 : decode cX11_feed 15 = .ok (.getfield 12, 3) := by decide +kernel
theorem dX11_feed_18 : decode cX11_feed 18 = .ok (.iload_n 1, 1) := by decide +kernel
theorem dX11_feed_19 : decode cX11_feed 19 = .ok (.invokevirtual 112, 3) := by decide +kernel
theorem tw_541 : Cond.methodLink RX11 112 yX9_put ∈ TT := nx_mem 541 (by decide +kernel) (by decide +kernel)
theorem tw_542 : Cond.instanceMethod yX9_put ∈ TT := nx_mem 542 (by decide +kernel) (by decide +kernel)
theorem tw_543 : Cond.selects RX9 yX9_put yX9_put ∈ TT := nx_mem 543 (by decide +kernel) (by decide +kernel)
theorem tw_544 : Cond.code yX9_put cX9_put 3 none ∈ TT := nx_mem 544 (by decide +kernel) (by decide +kernel)
theorem dX11_feed_22 : decode cX11_feed 22 = .ok (.aload_n 0, 1) := by decide +kernel
theorem dX11_feed_23 : decode cX11_feed 23 = .ok (.getfield 12, 3) := by decide +kernel
theorem dX11_feed_26 : decode cX11_feed 26 = .ok (.iload_n 2, 1) := by decide +kernel
theorem dX11_feed_27 : decode cX11_feed 27 = .ok (.invokevirtual 112, 3) := by decide +kernel
theorem dX11_feed_30 : decode cX11_feed 30 = .ok (.aload_n 0, 1) := by decide +kernel
theorem dX11_feed_31 : decode cX11_feed 31 = .ok (.getfield 12, 3) := by decide +kernel
theorem dX11_feed_34 : decode cX11_feed 34 = .ok (.iload_n 3, 1) := by decide +kernel
theorem dX11_feed_35 : decode cX11_feed 35 = .ok (.invokevirtual 112, 3) := by decide +kernel
theorem dX11_feed_38 : decode cX11_feed 38 = .ok (.aload_n 0, 1) := by decide +kernel
theorem dX11_feed_39 : decode cX11_feed 39 = .ok (.getfield 12, 3) := by decide +kernel
theorem dX11_feed_42 : decode cX11_feed 42 = .ok (.iload 4, 2) := by decide +kernel
theorem dX11_feed_44 : decode cX11_feed 44 = .ok (.invokevirtual 112, 3) := by decide +kernel
theorem dX11_feed_47 : decode cX11_feed 47 = .ok (.aload_n 0, 1) := by decide +kernel
theorem dX11_feed_48 : decode cX11_feed 48 = .ok (.getfield 12, 3) := by decide +kernel
theorem dX11_feed_51 : decode cX11_feed 51 = .ok (.iload 5, 2) := by decide +kernel
theorem dX11_feed_53 : decode cX11_feed 53 = .ok (.invokevirtual 112, 3) := by decide +kernel
theorem dX11_feed_56 : decode cX11_feed 56 = .ok (.aload_n 0, 1) := by decide +kernel
theorem dX11_feed_57 : decode cX11_feed 57 = .ok (.getfield 12, 3) := by decide +kernel
theorem dX11_feed_60 : decode cX11_feed 60 = .ok (.getfield 115, 3) := by decide +kernel
theorem tw_123 : Cond.fieldLink RX11 115 "LimpCode$Tape" "size" "I" ∈ TT := nx_mem 123 (by decide +kernel) (by decide +kernel)
theorem dX11_feed_63 : decode cX11_feed 63 = .ok (.ireturn, 1) := by decide +kernel
theorem dX11_feed_12 : decode cX11_feed 12 = .ok (.iconst (-1), 1) := by decide +kernel
theorem dX11_feed_13 : decode cX11_feed 13 = .ok (.ireturn, 1) := by decide +kernel
theorem dX11_end_0 : decode cX11_end 0 = .ok (.iload_n 1, 1) := by decide +kernel
theorem dX11_end_1 : decode cX11_end 1 = .ok (.ifCond .lt 14, 3) := by decide +kernel
theorem dX11_end_15 : decode cX11_end 15 = .ok (.iconst (-1), 1) := by decide +kernel
theorem dX11_end_16 : decode cX11_end 16 = .ok (.ireturn, 1) := by decide +kernel
theorem dX11_end_4 : decode cX11_end 4 = .ok (.iload_n 1, 1) := by decide +kernel
theorem dX11_end_5 : decode cX11_end 5 = .ok (.aload_n 0, 1) := by decide +kernel
theorem dX11_end_6 : decode cX11_end 6 = .ok (.getfield 12, 3) := by decide +kernel
theorem dX11_end_9 : decode cX11_end 9 = .ok (.getfield 115, 3) := by decide +kernel
theorem dX11_end_12 : decode cX11_end 12 = .ok (.if_icmp .le 5, 3) := by decide +kernel
theorem dX11_end_17 : decode cX11_end 17 = .ok (.aload_n 0, 1) := by decide +kernel
theorem dX11_end_18 : decode cX11_end 18 = .ok (.getfield 12, 3) := by decide +kernel
theorem dX11_end_21 : decode cX11_end 21 = .ok (.iload_n 1, 1) := by decide +kernel
theorem dX11_end_22 : decode cX11_end 22 = .ok (.putfield 115, 3) := by decide +kernel
theorem dX11_end_25 : decode cX11_end 25 = .ok (.iload_n 1, 1) := by decide +kernel
theorem dX11_end_26 : decode cX11_end 26 = .ok (.ireturn, 1) := by decide +kernel
theorem dX11_later_0 : decode cX11_later 0 = .ok (.iload_n 1, 1) := by decide +kernel
theorem dX11_later_1 : decode cX11_later 1 = .ok (.ifCond .lt 22, 3) := by decide +kernel
theorem dX11_later_23 : decode cX11_later 23 = .ok (.iconst (-1), 1) := by decide +kernel
theorem dX11_later_24 : decode cX11_later 24 = .ok (.ireturn, 1) := by decide +kernel
theorem dX11_later_4 : decode cX11_later 4 = .ok (.iload_n 1, 1) := by decide +kernel
theorem dX11_later_5 : decode cX11_later 5 = .ok (.sipush 1000, 3) := by decide +kernel
theorem dX11_later_8 : decode cX11_later 8 = .ok (.if_icmp .gt 15, 3) := by decide +kernel
theorem dX11_later_11 : decode cX11_later 11 = .ok (.aload_n 0, 1) := by decide +kernel
theorem dX11_later_12 : decode cX11_later 12 = .ok (.getfield 276, 3) := by decide +kernel
theorem tw_493 : Cond.fieldLink RX11 276 "LimpCode" "timeOfDay" "I" ∈ TT := nx_mem 493 (by decide +kernel) (by decide +kernel)
theorem dX11_later_15 : decode cX11_later 15 = .ok (.iload_n 1, 1) := by decide +kernel
theorem dX11_later_16 : decode cX11_later 16 = .ok (.iadd, 1) := by decide +kernel
theorem dX11_later_17 : decode cX11_later 17 = .ok (.ldc_w 285, 3) := by decide +kernel
theorem tw_1089 : Cond.constant RX11 285 100000 ∈ TT := nx_mem 1089 (by decide +kernel) (by decide +kernel)
theorem dX11_later_20 : decode cX11_later 20 = .ok (.if_icmp .le 5, 3) := by decide +kernel
theorem dX11_later_25 : decode cX11_later 25 = .ok (.aload_n 0, 1) := by decide +kernel
theorem dX11_later_26 : decode cX11_later 26 = .ok (.dup, 1) := by decide +kernel
theorem dX11_later_27 : decode cX11_later 27 = .ok (.getfield 276, 3) := by decide +kernel
theorem dX11_later_30 : decode cX11_later 30 = .ok (.iload_n 1, 1) := by decide +kernel
theorem dX11_later_31 : decode cX11_later 31 = .ok (.iadd, 1) := by decide +kernel
theorem dX11_later_32 : decode cX11_later 32 = .ok (.putfield 276, 3) := by decide +kernel
theorem dX11_later_35 : decode cX11_later 35 = .ok (.aload_n 0, 1) := by decide +kernel
theorem dX11_later_36 : decode cX11_later 36 = .ok (.getfield 276, 3) := by decide +kernel
theorem dX11_later_39 : decode cX11_later 39 = .ok (.ireturn, 1) := by decide +kernel
theorem dX11_fault_0 : decode cX11_fault 0 = .ok (.iload_n 1, 1) := by decide +kernel
theorem dX11_fault_1 : decode cX11_fault 1 = .ok (.ifCond .ne 11, 3) := by decide +kernel
theorem dX11_fault_12 : decode cX11_fault 12 = .ok (.iload_n 1, 1) := by decide +kernel
theorem dX11_fault_13 : decode cX11_fault 13 = .ok (.iconst 1, 1) := by decide +kernel
theorem dX11_fault_14 : decode cX11_fault 14 = .ok (.if_icmp .ne 13, 3) := by decide +kernel
theorem dX11_fault_27 : decode cX11_fault 27 = .ok (.iconst (-1), 1) := by decide +kernel
theorem dX11_fault_28 : decode cX11_fault 28 = .ok (.ireturn, 1) := by decide +kernel
theorem dX11_fault_17 : decode cX11_fault 17 = .ok (.aload_n 0, 1) := by decide +kernel
theorem dX11_fault_18 : decode cX11_fault 18 = .ok (.getfield 19, 3) := by decide +kernel
theorem tw_476 : Cond.fieldLink RX11 19 "LimpCode" "reader" "LLimpCode$SchoolReader;" ∈ TT := nx_mem 476 (by decide +kernel) (by decide +kernel)
theorem dX11_fault_21 : decode cX11_fault 21 = .ok (.getfield 149, 3) := by decide +kernel
theorem tw_158 : Cond.fieldLink RX11 149 "LimpCode$SchoolReader" "faultPlace" "I" ∈ TT := nx_mem 158 (by decide +kernel) (by decide +kernel)
theorem dX11_fault_24 : decode cX11_fault 24 = .ok (.goto 4, 3) := by decide +kernel
theorem dX11_fault_4 : decode cX11_fault 4 = .ok (.aload_n 0, 1) := by decide +kernel
theorem dX11_fault_5 : decode cX11_fault 5 = .ok (.getfield 19, 3) := by decide +kernel
theorem dX11_fault_8 : decode cX11_fault 8 = .ok (.getfield 146, 3) := by decide +kernel
theorem tw_156 : Cond.fieldLink RX11 146 "LimpCode$SchoolReader" "fault" "I" ∈ TT := nx_mem 156 (by decide +kernel) (by decide +kernel)
theorem dX11_fault_11 : decode cX11_fault 11 = .ok (.ireturn, 1) := by decide +kernel
theorem dX11_step_0 : decode cX11_step 0 = .ok (.aload_n 0, 1) := by decide +kernel
theorem dX11_step_1 : decode cX11_step 1 = .ok (.getfield 36, 3) := by decide +kernel
theorem tw_479 : Cond.fieldLink RX11 36 "LimpCode" "earnest" "LLimpCode$Earnest;" ∈ TT := nx_mem 479 (by decide +kernel) (by decide +kernel)
theorem dX11_step_4 : decode cX11_step 4 = .ok (.aload_n 0, 1) := by decide +kernel
theorem dX11_step_5 : decode cX11_step 5 = .ok (.getfield 26, 3) := by decide +kernel
theorem dX11_step_8 : decode cX11_step 8 = .ok (.iload_n 1, 1) := by decide +kernel
theorem dX11_step_9 : decode cX11_step 9 = .ok (.invokevirtual 152, 3) := by decide +kernel
theorem tw_754 : Cond.methodLink RX11 152 yX2_walkOn ∈ TT := nx_mem 754 (by decide +kernel) (by decide +kernel)
theorem dX11_step_12 : decode cX11_step 12 = .ok (.ifCond .eq 13, 3) := by decide +kernel
theorem dX11_step_25 : decode cX11_step 25 = .ok (.iconst (-1), 1) := by decide +kernel
theorem dX11_step_26 : decode cX11_step 26 = .ok (.ireturn, 1) := by decide +kernel
theorem dX11_step_15 : decode cX11_step 15 = .ok (.aload_n 0, 1) := by decide +kernel
theorem dX11_step_16 : decode cX11_step 16 = .ok (.getfield 36, 3) := by decide +kernel
theorem dX11_step_19 : decode cX11_step 19 = .ok (.getfield 156, 3) := by decide +kernel
theorem tw_277 : Cond.fieldLink RX11 156 "LimpCode$Earnest" "time" "I" ∈ TT := nx_mem 277 (by decide +kernel) (by decide +kernel)
theorem dX11_step_22 : decode cX11_step 22 = .ok (.goto 4, 3) := by decide +kernel
theorem dX11_say_0 : decode cX11_say 0 = .ok (.iload_n 1, 1) := by decide +kernel
theorem dX11_say_1 : decode cX11_say 1 = .ok (.invokestatic 159, 3) := by decide +kernel
theorem tw_764 : Cond.methodLink RX11 159 yX11_isText ∈ TT := nx_mem 764 (by decide +kernel) (by decide +kernel)
theorem tw_765 : Cond.static yX11_isText ∈ TT := nx_mem 765 (by decide +kernel) (by decide +kernel)
theorem tw_766 : Cond.code yX11_isText cX11_isText 1 (some .boolean) ∈ TT := nx_mem 766 (by decide +kernel) (by decide +kernel)
theorem dX11_say_4 : decode cX11_say 4 = .ok (.ifCond .ne 5, 3) := by decide +kernel
theorem dX11_say_7 : decode cX11_say 7 = .ok (.iconst (-1), 1) := by decide +kernel
theorem dX11_say_8 : decode cX11_say 8 = .ok (.ireturn, 1) := by decide +kernel
theorem dX11_say_9 : decode cX11_say 9 = .ok (.aload_n 0, 1) := by decide +kernel
theorem dX11_say_10 : decode cX11_say 10 = .ok (.getfield 36, 3) := by decide +kernel
theorem dX11_say_13 : decode cX11_say 13 = .ok (.aload_n 0, 1) := by decide +kernel
theorem dX11_say_14 : decode cX11_say 14 = .ok (.getfield 26, 3) := by decide +kernel
theorem dX11_say_17 : decode cX11_say 17 = .ok (.aload_n 0, 1) := by decide +kernel
theorem dX11_say_18 : decode cX11_say 18 = .ok (.getfield 46, 3) := by decide +kernel
theorem tw_481 : Cond.fieldLink RX11 46 "LimpCode" "texts" "[LLimpCode$Text;" ∈ TT := nx_mem 481 (by decide +kernel) (by decide +kernel)
theorem dX11_say_21 : decode cX11_say 21 = .ok (.iload_n 1, 1) := by decide +kernel
theorem dX11_say_22 : decode cX11_say 22 = .ok (.aaload, 1) := by decide +kernel
theorem dX11_say_23 : decode cX11_say 23 = .ok (.invokevirtual 162, 3) := by decide +kernel
theorem tw_767 : Cond.methodLink RX11 162 yX2_walkAll ∈ TT := nx_mem 767 (by decide +kernel) (by decide +kernel)
theorem tw_768 : Cond.instanceMethod yX2_walkAll ∈ TT := nx_mem 768 (by decide +kernel) (by decide +kernel)
theorem tw_769 : Cond.selects RX2 yX2_walkAll yX2_walkAll ∈ TT := nx_mem 769 (by decide +kernel) (by decide +kernel)
theorem tw_770 : Cond.code yX2_walkAll cX2_walkAll 7 (some .boolean) ∈ TT := nx_mem 770 (by decide +kernel) (by decide +kernel)
theorem dX11_say_26 : decode cX11_say 26 = .ok (.ifCond .eq 13, 3) := by decide +kernel
theorem dX11_say_39 : decode cX11_say 39 = .ok (.iconst (-1), 1) := by decide +kernel
theorem dX11_say_40 : decode cX11_say 40 = .ok (.ireturn, 1) := by decide +kernel
theorem dX11_say_29 : decode cX11_say 29 = .ok (.aload_n 0, 1) := by decide +kernel
theorem dX11_say_30 : decode cX11_say 30 = .ok (.getfield 36, 3) := by decide +kernel
theorem dX11_say_33 : decode cX11_say 33 = .ok (.getfield 156, 3) := by decide +kernel
theorem dX11_say_36 : decode cX11_say 36 = .ok (.goto 4, 3) := by decide +kernel
theorem dX11_stop_0 : decode cX11_stop 0 = .ok (.aload_n 0, 1) := by decide +kernel
theorem dX11_stop_1 : decode cX11_stop 1 = .ok (.getfield 36, 3) := by decide +kernel
theorem dX11_stop_4 : decode cX11_stop 4 = .ok (.getfield 156, 3) := by decide +kernel
theorem dX11_stop_7 : decode cX11_stop 7 = .ok (.istore_n 1, 1) := by decide +kernel
theorem dX11_stop_8 : decode cX11_stop 8 = .ok (.aload_n 0, 1) := by decide +kernel
theorem dX11_stop_9 : decode cX11_stop 9 = .ok (.getfield 36, 3) := by decide +kernel
theorem dX11_stop_12 : decode cX11_stop 12 = .ok (.invokevirtual 166, 3) := by decide +kernel
theorem tw_784 : Cond.methodLink RX11 166 yX2_standStill ∈ TT := nx_mem 784 (by decide +kernel) (by decide +kernel)
theorem dX11_stop_15 : decode cX11_stop 15 = .ok (.iload_n 1, 1) := by decide +kernel
theorem dX11_stop_16 : decode cX11_stop 16 = .ok (.ireturn, 1) := by decide +kernel
theorem dX11_heard_0 : decode cX11_heard 0 = .ok (.aload_n 0, 1) := by decide +kernel
theorem dX11_heard_1 : decode cX11_heard 1 = .ok (.getfield 26, 3) := by decide +kernel
theorem dX11_heard_4 : decode cX11_heard 4 = .ok (.iload_n 1, 1) := by decide +kernel
theorem dX11_heard_5 : decode cX11_heard 5 = .ok (.invokevirtual 169, 3) := by decide +kernel
theorem dX11_heard_8 : decode cX11_heard 8 = .ok (.ifCond .eq 18, 3) := by decide +kernel
theorem dX11_heard_26 : decode cX11_heard 26 = .ok (.iconst (-1), 1) := by decide +kernel
theorem dX11_heard_27 : decode cX11_heard 27 = .ok (.ireturn, 1) := by decide +kernel
theorem dX11_heard_11 : decode cX11_heard 11 = .ok (.iload_n 2, 1) := by decide +kernel
theorem dX11_heard_12 : decode cX11_heard 12 = .ok (.ifCond .lt 14, 3) := by decide +kernel
theorem dX11_heard_15 : decode cX11_heard 15 = .ok (.iload_n 2, 1) := by decide +kernel
theorem dX11_heard_16 : decode cX11_heard 16 = .ok (.aload_n 0, 1) := by decide +kernel
theorem dX11_heard_17 : decode cX11_heard 17 = .ok (.getfield 36, 3) := by decide +kernel
theorem dX11_heard_20 : decode cX11_heard 20 = .ok (.getfield 156, 3) := by decide +kernel
theorem dX11_heard_23 : decode cX11_heard 23 = .ok (.if_icmp .lt 5, 3) := by decide +kernel
theorem dX11_heard_28 : decode cX11_heard 28 = .ok (.aload_n 0, 1) := by decide +kernel
theorem dX11_heard_29 : decode cX11_heard 29 = .ok (.getfield 36, 3) := by decide +kernel
theorem dX11_heard_32 : decode cX11_heard 32 = .ok (.aload_n 0, 1) := by decide +kernel
theorem dX11_heard_33 : decode cX11_heard 33 = .ok (.getfield 26, 3) := by decide +kernel
theorem dX11_heard_36 : decode cX11_heard 36 = .ok (.iload_n 1, 1) := by decide +kernel
theorem dX11_heard_37 : decode cX11_heard 37 = .ok (.aload_n 0, 1) := by decide +kernel
theorem dX11_heard_38 : decode cX11_heard 38 = .ok (.getfield 98, 3) := by decide +kernel
theorem tw_489 : Cond.fieldLink RX11 98 "LimpCode" "firstHeard" "[I" ∈ TT := nx_mem 489 (by decide +kernel) (by decide +kernel)
theorem dX11_heard_41 : decode cX11_heard 41 = .ok (.invokevirtual 172, 3) := by decide +kernel
theorem tw_793 : Cond.methodLink RX11 172 yX2_hearWalk ∈ TT := nx_mem 793 (by decide +kernel) (by decide +kernel)
theorem tw_794 : Cond.instanceMethod yX2_hearWalk ∈ TT := nx_mem 794 (by decide +kernel) (by decide +kernel)
theorem tw_795 : Cond.selects RX2 yX2_hearWalk yX2_hearWalk ∈ TT := nx_mem 795 (by decide +kernel) (by decide +kernel)
theorem tw_796 : Cond.code yX2_hearWalk cX2_hearWalk 7 none ∈ TT := nx_mem 796 (by decide +kernel) (by decide +kernel)
theorem dX11_heard_44 : decode cX11_heard 44 = .ok (.aload_n 0, 1) := by decide +kernel
theorem dX11_heard_45 : decode cX11_heard 45 = .ok (.getfield 98, 3) := by decide +kernel
theorem dX11_heard_48 : decode cX11_heard 48 = .ok (.iload_n 2, 1) := by decide +kernel
theorem dX11_heard_49 : decode cX11_heard 49 = .ok (.iaload, 1) := by decide +kernel
theorem dX11_heard_50 : decode cX11_heard 50 = .ok (.ireturn, 1) := by decide +kernel
theorem dX11_stuck_0 : decode cX11_stuck 0 = .ok (.aload_n 0, 1) := by decide +kernel
theorem dX11_stuck_1 : decode cX11_stuck 1 = .ok (.getfield 26, 3) := by decide +kernel
theorem dX11_stuck_4 : decode cX11_stuck 4 = .ok (.iload_n 1, 1) := by decide +kernel
theorem dX11_stuck_5 : decode cX11_stuck 5 = .ok (.invokevirtual 169, 3) := by decide +kernel
theorem dX11_stuck_8 : decode cX11_stuck 8 = .ok (.ifCond .ne 6, 3) := by decide +kernel
theorem dX11_stuck_11 : decode cX11_stuck 11 = .ok (.bipush (-2), 2) := by decide +kernel
theorem dX11_stuck_13 : decode cX11_stuck 13 = .ok (.ireturn, 1) := by decide +kernel
theorem dX11_stuck_14 : decode cX11_stuck 14 = .ok (.aload_n 0, 1) := by decide +kernel
theorem dX11_stuck_15 : decode cX11_stuck 15 = .ok (.getfield 36, 3) := by decide +kernel
theorem dX11_stuck_18 : decode cX11_stuck 18 = .ok (.aload_n 0, 1) := by decide +kernel
theorem dX11_stuck_19 : decode cX11_stuck 19 = .ok (.getfield 26, 3) := by decide +kernel
theorem dX11_stuck_22 : decode cX11_stuck 22 = .ok (.iload_n 1, 1) := by decide +kernel
theorem dX11_stuck_23 : decode cX11_stuck 23 = .ok (.aload_n 0, 1) := by decide +kernel
theorem dX11_stuck_24 : decode cX11_stuck 24 = .ok (.getfield 98, 3) := by decide +kernel
theorem dX11_stuck_27 : decode cX11_stuck 27 = .ok (.invokevirtual 172, 3) := by decide +kernel
theorem dX11_stuck_30 : decode cX11_stuck 30 = .ok (.aload_n 0, 1) := by decide +kernel
theorem dX11_stuck_31 : decode cX11_stuck 31 = .ok (.getfield 80, 3) := by decide +kernel
theorem tw_486 : Cond.fieldLink RX11 80 "LimpCode" "listener" "LLimpCode$Listener;" ∈ TT := nx_mem 486 (by decide +kernel) (by decide +kernel)
theorem dX11_stuck_34 : decode cX11_stuck 34 = .ok (.aload_n 0, 1) := by decide +kernel
theorem dX11_stuck_35 : decode cX11_stuck 35 = .ok (.getfield 26, 3) := by decide +kernel
theorem dX11_stuck_38 : decode cX11_stuck 38 = .ok (.aload_n 0, 1) := by decide +kernel
theorem dX11_stuck_39 : decode cX11_stuck 39 = .ok (.getfield 36, 3) := by decide +kernel
theorem dX11_stuck_42 : decode cX11_stuck 42 = .ok (.getfield 185, 3) := by decide +kernel
theorem tw_273 : Cond.fieldLink RX11 185 "LimpCode$Earnest" "loud" "[I" ∈ TT := nx_mem 273 (by decide +kernel) (by decide +kernel)
theorem dX11_stuck_45 : decode cX11_stuck 45 = .ok (.iload_n 1, 1) := by decide +kernel
theorem dX11_stuck_46 : decode cX11_stuck 46 = .ok (.invokevirtual 203, 3) := by decide +kernel
theorem tw_896 : Cond.methodLink RX11 203 yX4_learn ∈ TT := nx_mem 896 (by decide +kernel) (by decide +kernel)
theorem tw_897 : Cond.instanceMethod yX4_learn ∈ TT := nx_mem 897 (by decide +kernel) (by decide +kernel)
theorem tw_898 : Cond.selects RX4 yX4_learn yX4_learn ∈ TT := nx_mem 898 (by decide +kernel) (by decide +kernel)
theorem tw_899 : Cond.code yX4_learn cX4_learn 5 none ∈ TT := nx_mem 899 (by decide +kernel) (by decide +kernel)
theorem dX11_stuck_49 : decode cX11_stuck 49 = .ok (.aload_n 0, 1) := by decide +kernel
theorem dX11_stuck_50 : decode cX11_stuck 50 = .ok (.getfield 80, 3) := by decide +kernel
theorem dX11_stuck_53 : decode cX11_stuck 53 = .ok (.aload_n 0, 1) := by decide +kernel
theorem dX11_stuck_54 : decode cX11_stuck 54 = .ok (.getfield 26, 3) := by decide +kernel
theorem dX11_stuck_57 : decode cX11_stuck 57 = .ok (.aload_n 0, 1) := by decide +kernel
theorem dX11_stuck_58 : decode cX11_stuck 58 = .ok (.getfield 98, 3) := by decide +kernel
theorem dX11_stuck_61 : decode cX11_stuck 61 = .ok (.aload_n 0, 1) := by decide +kernel
theorem dX11_stuck_62 : decode cX11_stuck 62 = .ok (.getfield 36, 3) := by decide +kernel
theorem dX11_stuck_65 : decode cX11_stuck 65 = .ok (.getfield 156, 3) := by decide +kernel
theorem dX11_stuck_68 : decode cX11_stuck 68 = .ok (.invokevirtual 207, 3) := by decide +kernel
theorem tw_909 : Cond.methodLink RX11 207 yX4_firstUnheard ∈ TT := nx_mem 909 (by decide +kernel) (by decide +kernel)
theorem tw_910 : Cond.instanceMethod yX4_firstUnheard ∈ TT := nx_mem 910 (by decide +kernel) (by decide +kernel)
theorem tw_911 : Cond.selects RX4 yX4_firstUnheard yX4_firstUnheard ∈ TT := nx_mem 911 (by decide +kernel) (by decide +kernel)
theorem tw_912 : Cond.code yX4_firstUnheard cX4_firstUnheard 7 (some .int) ∈ TT := nx_mem 912 (by decide +kernel) (by decide +kernel)
theorem dX11_stuck_71 : decode cX11_stuck 71 = .ok (.ireturn, 1) := by decide +kernel
theorem dX11_alike_0 : decode cX11_alike 0 = .ok (.aload_n 0, 1) := by decide +kernel
theorem dX11_alike_1 : decode cX11_alike 1 = .ok (.getfield 26, 3) := by decide +kernel
theorem dX11_alike_4 : decode cX11_alike 4 = .ok (.iload_n 1, 1) := by decide +kernel
theorem dX11_alike_5 : decode cX11_alike 5 = .ok (.invokevirtual 169, 3) := by decide +kernel
theorem dX11_alike_8 : decode cX11_alike 8 = .ok (.ifCond .eq 25, 3) := by decide +kernel
theorem dX11_alike_33 : decode cX11_alike 33 = .ok (.iconst (-1), 1) := by decide +kernel
theorem dX11_alike_34 : decode cX11_alike 34 = .ok (.ireturn, 1) := by decide +kernel
theorem dX11_alike_11 : decode cX11_alike 11 = .ok (.aload_n 0, 1) := by decide +kernel
theorem dX11_alike_12 : decode cX11_alike 12 = .ok (.getfield 26, 3) := by decide +kernel
theorem dX11_alike_15 : decode cX11_alike 15 = .ok (.iload_n 2, 1) := by decide +kernel
theorem dX11_alike_16 : decode cX11_alike 16 = .ok (.invokevirtual 211, 3) := by decide +kernel
theorem tw_938 : Cond.methodLink RX11 211 yX5_hasLetter ∈ TT := nx_mem 938 (by decide +kernel) (by decide +kernel)
theorem dX11_alike_19 : decode cX11_alike 19 = .ok (.ifCond .eq 14, 3) := by decide +kernel
theorem dX11_alike_22 : decode cX11_alike 22 = .ok (.aload_n 0, 1) := by decide +kernel
theorem dX11_alike_23 : decode cX11_alike 23 = .ok (.getfield 26, 3) := by decide +kernel
theorem dX11_alike_26 : decode cX11_alike 26 = .ok (.iload_n 3, 1) := by decide +kernel
theorem dX11_alike_27 : decode cX11_alike 27 = .ok (.invokevirtual 211, 3) := by decide +kernel
theorem dX11_alike_30 : decode cX11_alike 30 = .ok (.ifCond .ne 5, 3) := by decide +kernel
theorem dX11_alike_35 : decode cX11_alike 35 = .ok (.iload 4, 2) := by decide +kernel
theorem dX11_alike_37 : decode cX11_alike 37 = .ok (.ifCond .eq 11, 3) := by decide +kernel
theorem dX11_alike_48 : decode cX11_alike 48 = .ok (.aload_n 0, 1) := by decide +kernel
theorem dX11_alike_49 : decode cX11_alike 49 = .ok (.getfield 26, 3) := by decide +kernel
theorem dX11_alike_52 : decode cX11_alike 52 = .ok (.getfield 214, 3) := by decide +kernel
theorem tw_208 : Cond.fieldLink RX11 214 "LimpCode$School" "letterAfter" "[[I" ∈ TT := nx_mem 208 (by decide +kernel) (by decide +kernel)
theorem dX11_alike_55 : decode cX11_alike 55 = .ok (.iload_n 2, 1) := by decide +kernel
theorem dX11_alike_56 : decode cX11_alike 56 = .ok (.aaload, 1) := by decide +kernel
theorem dX11_alike_57 : decode cX11_alike 57 = .ok (.iload 4, 2) := by decide +kernel
theorem dX11_alike_59 : decode cX11_alike 59 = .ok (.iaload, 1) := by decide +kernel
theorem dX11_alike_60 : decode cX11_alike 60 = .ok (.iconst (-1), 1) := by decide +kernel
theorem dX11_alike_61 : decode cX11_alike 61 = .ok (.if_icmp .eq 19, 3) := by decide +kernel
theorem dX11_alike_80 : decode cX11_alike 80 = .ok (.iconst 0, 1) := by decide +kernel
theorem dX11_alike_81 : decode cX11_alike 81 = .ok (.ireturn, 1) := by decide +kernel
theorem dX11_alike_64 : decode cX11_alike 64 = .ok (.aload_n 0, 1) := by decide +kernel
theorem dX11_alike_65 : decode cX11_alike 65 = .ok (.getfield 26, 3) := by decide +kernel
theorem dX11_alike_68 : decode cX11_alike 68 = .ok (.getfield 214, 3) := by decide +kernel
theorem dX11_alike_71 : decode cX11_alike 71 = .ok (.iload_n 3, 1) := by decide +kernel
theorem dX11_alike_72 : decode cX11_alike 72 = .ok (.aaload, 1) := by decide +kernel
theorem dX11_alike_73 : decode cX11_alike 73 = .ok (.iload 4, 2) := by decide +kernel
theorem dX11_alike_75 : decode cX11_alike 75 = .ok (.iaload, 1) := by decide +kernel
theorem dX11_alike_76 : decode cX11_alike 76 = .ok (.iconst (-1), 1) := by decide +kernel
theorem dX11_alike_77 : decode cX11_alike 77 = .ok (.if_icmp .ne 5, 3) := by decide +kernel
theorem dX11_alike_82 : decode cX11_alike 82 = .ok (.aload_n 0, 1) := by decide +kernel
theorem dX11_alike_83 : decode cX11_alike 83 = .ok (.getfield 80, 3) := by decide +kernel
theorem dX11_alike_86 : decode cX11_alike 86 = .ok (.aload_n 0, 1) := by decide +kernel
theorem dX11_alike_87 : decode cX11_alike 87 = .ok (.getfield 26, 3) := by decide +kernel
theorem dX11_alike_90 : decode cX11_alike 90 = .ok (.aload_n 0, 1) := by decide +kernel
theorem dX11_alike_91 : decode cX11_alike 91 = .ok (.getfield 36, 3) := by decide +kernel
theorem dX11_alike_94 : decode cX11_alike 94 = .ok (.getfield 185, 3) := by decide +kernel
theorem dX11_alike_97 : decode cX11_alike 97 = .ok (.iload_n 1, 1) := by decide +kernel
theorem dX11_alike_98 : decode cX11_alike 98 = .ok (.invokevirtual 203, 3) := by decide +kernel
theorem dX11_alike_101 : decode cX11_alike 101 = .ok (.aload_n 0, 1) := by decide +kernel
theorem dX11_alike_102 : decode cX11_alike 102 = .ok (.getfield 80, 3) := by decide +kernel
theorem dX11_alike_105 : decode cX11_alike 105 = .ok (.aload_n 0, 1) := by decide +kernel
theorem dX11_alike_106 : decode cX11_alike 106 = .ok (.getfield 26, 3) := by decide +kernel
theorem dX11_alike_109 : decode cX11_alike 109 = .ok (.iload_n 2, 1) := by decide +kernel
theorem dX11_alike_110 : decode cX11_alike 110 = .ok (.iload_n 3, 1) := by decide +kernel
theorem dX11_alike_111 : decode cX11_alike 111 = .ok (.invokevirtual 218, 3) := by decide +kernel
theorem tw_939 : Cond.methodLink RX11 218 yX4_soundsSame ∈ TT := nx_mem 939 (by decide +kernel) (by decide +kernel)
theorem tw_940 : Cond.instanceMethod yX4_soundsSame ∈ TT := nx_mem 940 (by decide +kernel) (by decide +kernel)
theorem tw_941 : Cond.selects RX4 yX4_soundsSame yX4_soundsSame ∈ TT := nx_mem 941 (by decide +kernel) (by decide +kernel)
theorem tw_942 : Cond.code yX4_soundsSame cX4_soundsSame 5 (some .boolean) ∈ TT := nx_mem 942 (by decide +kernel) (by decide +kernel)
theorem dX11_alike_114 : decode cX11_alike 114 = .ok (.ifCond .eq 7, 3) := by decide +kernel
theorem dX11_alike_121 : decode cX11_alike 121 = .ok (.iconst 0, 1) := by decide +kernel
theorem dX11_alike_122 : decode cX11_alike 122 = .ok (.ireturn, 1) := by decide +kernel
theorem dX11_alike_117 : decode cX11_alike 117 = .ok (.iconst 1, 1) := by decide +kernel
theorem dX11_alike_118 : decode cX11_alike 118 = .ok (.goto 4, 3) := by decide +kernel
theorem dX11_alike_40 : decode cX11_alike 40 = .ok (.iload 4, 2) := by decide +kernel
theorem dX11_alike_42 : decode cX11_alike 42 = .ok (.iconst 1, 1) := by decide +kernel
theorem dX11_alike_43 : decode cX11_alike 43 = .ok (.if_icmp .eq 5, 3) := by decide +kernel
theorem dX11_alike_46 : decode cX11_alike 46 = .ok (.iconst (-1), 1) := by decide +kernel
theorem dX11_alike_47 : decode cX11_alike 47 = .ok (.ireturn, 1) := by decide +kernel
theorem dX11_tell_0 : decode cX11_tell 0 = .ok (.iload_n 1, 1) := by decide +kernel
theorem dX11_tell_1 : decode cX11_tell 1 = .ok (.invokestatic 159, 3) := by decide +kernel
theorem dX11_tell_4 : decode cX11_tell 4 = .ok (.ifCond .ne 5, 3) := by decide +kernel
theorem dX11_tell_7 : decode cX11_tell 7 = .ok (.iconst (-1), 1) := by decide +kernel
theorem dX11_tell_8 : decode cX11_tell 8 = .ok (.ireturn, 1) := by decide +kernel
theorem dX11_tell_9 : decode cX11_tell 9 = .ok (.aload_n 0, 1) := by decide +kernel
theorem dX11_tell_10 : decode cX11_tell 10 = .ok (.getfield 46, 3) := by decide +kernel
theorem dX11_tell_13 : decode cX11_tell 13 = .ok (.iload_n 1, 1) := by decide +kernel
theorem dX11_tell_14 : decode cX11_tell 14 = .ok (.aaload, 1) := by decide +kernel
theorem dX11_tell_15 : decode cX11_tell 15 = .ok (.aload_n 0, 1) := by decide +kernel
theorem dX11_tell_16 : decode cX11_tell 16 = .ok (.getfield 26, 3) := by decide +kernel
theorem dX11_tell_19 : decode cX11_tell 19 = .ok (.iload_n 2, 1) := by decide +kernel
theorem dX11_tell_20 : decode cX11_tell 20 = .ok (.invokevirtual 222, 3) := by decide +kernel
theorem tw_947 : Cond.methodLink RX11 222 yX10_add ∈ TT := nx_mem 947 (by decide +kernel) (by decide +kernel)
theorem tw_948 : Cond.instanceMethod yX10_add ∈ TT := nx_mem 948 (by decide +kernel) (by decide +kernel)
theorem tw_949 : Cond.selects RX10 yX10_add yX10_add ∈ TT := nx_mem 949 (by decide +kernel) (by decide +kernel)
theorem tw_92 : Cond.initialized RX10 ∈ TT := nx_mem 92 (by decide +kernel) (by decide +kernel)
theorem tw_950 : Cond.code yX10_add cX10_add 4 (some .boolean) ∈ TT := nx_mem 950 (by decide +kernel) (by decide +kernel)
theorem dX11_tell_23 : decode cX11_tell 23 = .ok (.ifCond .eq 15, 3) := by decide +kernel
theorem dX11_tell_38 : decode cX11_tell 38 = .ok (.iconst (-1), 1) := by decide +kernel
theorem dX11_tell_39 : decode cX11_tell 39 = .ok (.ireturn, 1) := by decide +kernel
theorem dX11_tell_26 : decode cX11_tell 26 = .ok (.aload_n 0, 1) := by decide +kernel
theorem dX11_tell_27 : decode cX11_tell 27 = .ok (.getfield 46, 3) := by decide +kernel
theorem dX11_tell_30 : decode cX11_tell 30 = .ok (.iload_n 1, 1) := by decide +kernel
theorem dX11_tell_31 : decode cX11_tell 31 = .ok (.aaload, 1) := by decide +kernel
theorem dX11_tell_32 : decode cX11_tell 32 = .ok (.getfield 225, 3) := by decide +kernel
theorem tw_310 : Cond.fieldLink RX11 225 "LimpCode$Text" "time" "I" ∈ TT := nx_mem 310 (by decide +kernel) (by decide +kernel)
theorem dX11_tell_35 : decode cX11_tell 35 = .ok (.goto 4, 3) := by decide +kernel
theorem dX11_hush_0 : decode cX11_hush 0 = .ok (.iload_n 1, 1) := by decide +kernel
theorem dX11_hush_1 : decode cX11_hush 1 = .ok (.invokestatic 159, 3) := by decide +kernel
theorem dX11_hush_4 : decode cX11_hush 4 = .ok (.ifCond .ne 5, 3) := by decide +kernel
theorem dX11_hush_7 : decode cX11_hush 7 = .ok (.iconst (-1), 1) := by decide +kernel
theorem dX11_hush_8 : decode cX11_hush 8 = .ok (.ireturn, 1) := by decide +kernel
theorem dX11_hush_9 : decode cX11_hush 9 = .ok (.aload_n 0, 1) := by decide +kernel
theorem dX11_hush_10 : decode cX11_hush 10 = .ok (.getfield 46, 3) := by decide +kernel
theorem dX11_hush_13 : decode cX11_hush 13 = .ok (.iload_n 1, 1) := by decide +kernel
theorem dX11_hush_14 : decode cX11_hush 14 = .ok (.aaload, 1) := by decide +kernel
theorem dX11_hush_15 : decode cX11_hush 15 = .ok (.getfield 226, 3) := by decide +kernel
theorem tw_308 : Cond.fieldLink RX11 226 "LimpCode$Text" "size" "I" ∈ TT := nx_mem 308 (by decide +kernel) (by decide +kernel)
theorem dX11_hush_18 : decode cX11_hush 18 = .ok (.istore_n 2, 1) := by decide +kernel
theorem dX11_hush_19 : decode cX11_hush 19 = .ok (.aload_n 0, 1) := by decide +kernel
theorem dX11_hush_20 : decode cX11_hush 20 = .ok (.getfield 46, 3) := by decide +kernel
theorem dX11_hush_23 : decode cX11_hush 23 = .ok (.iload_n 1, 1) := by decide +kernel
theorem dX11_hush_24 : decode cX11_hush 24 = .ok (.aaload, 1) := by decide +kernel
theorem dX11_hush_25 : decode cX11_hush 25 = .ok (.invokevirtual 137, 3) := by decide +kernel
theorem tw_742 : Cond.methodLink RX11 137 yX10_clear ∈ TT := nx_mem 742 (by decide +kernel) (by decide +kernel)
theorem tw_743 : Cond.instanceMethod yX10_clear ∈ TT := nx_mem 743 (by decide +kernel) (by decide +kernel)
theorem tw_744 : Cond.selects RX10 yX10_clear yX10_clear ∈ TT := nx_mem 744 (by decide +kernel) (by decide +kernel)
theorem tw_745 : Cond.code yX10_clear cX10_clear 1 none ∈ TT := nx_mem 745 (by decide +kernel) (by decide +kernel)
theorem dX11_hush_28 : decode cX11_hush 28 = .ok (.iload_n 2, 1) := by decide +kernel
theorem dX11_hush_29 : decode cX11_hush 29 = .ok (.ireturn, 1) := by decide +kernel
theorem dX11_lies_0 : decode cX11_lies 0 = .ok (.iload_n 1, 1) := by decide +kernel
theorem dX11_lies_1 : decode cX11_lies 1 = .ok (.ifCond .lt 29, 3) := by decide +kernel
theorem dX11_lies_30 : decode cX11_lies 30 = .ok (.iconst (-1), 1) := by decide +kernel
theorem dX11_lies_31 : decode cX11_lies 31 = .ok (.ireturn, 1) := by decide +kernel
theorem dX11_lies_4 : decode cX11_lies 4 = .ok (.iload_n 1, 1) := by decide +kernel
theorem dX11_lies_5 : decode cX11_lies 5 = .ok (.aload_n 0, 1) := by decide +kernel
theorem dX11_lies_6 : decode cX11_lies 6 = .ok (.getfield 143, 3) := by decide +kernel
theorem tw_492 : Cond.fieldLink RX11 143 "LimpCode" "lyingSize" "I" ∈ TT := nx_mem 492 (by decide +kernel) (by decide +kernel)
theorem dX11_lies_9 : decode cX11_lies 9 = .ok (.if_icmp .ge 21, 3) := by decide +kernel
theorem dX11_lies_12 : decode cX11_lies 12 = .ok (.iload_n 1, 1) := by decide +kernel
theorem dX11_lies_13 : decode cX11_lies 13 = .ok (.aload_n 0, 1) := by decide +kernel
theorem dX11_lies_14 : decode cX11_lies 14 = .ok (.getfield 105, 3) := by decide +kernel
theorem tw_491 : Cond.fieldLink RX11 105 "LimpCode" "lying" "[I" ∈ TT := nx_mem 491 (by decide +kernel) (by decide +kernel)
theorem dX11_lies_17 : decode cX11_lies 17 = .ok (.arraylength, 1) := by decide +kernel
theorem dX11_lies_18 : decode cX11_lies 18 = .ok (.if_icmp .ge 12, 3) := by decide +kernel
theorem dX11_lies_21 : decode cX11_lies 21 = .ok (.aload_n 0, 1) := by decide +kernel
theorem dX11_lies_22 : decode cX11_lies 22 = .ok (.getfield 105, 3) := by decide +kernel
theorem dX11_lies_25 : decode cX11_lies 25 = .ok (.iload_n 1, 1) := by decide +kernel
theorem dX11_lies_26 : decode cX11_lies 26 = .ok (.iaload, 1) := by decide +kernel
theorem dX11_lies_27 : decode cX11_lies 27 = .ok (.goto 4, 3) := by decide +kernel
theorem dX11_limp_0 : decode cX11_limp 0 = .ok (.iload_n 1, 1) := by decide +kernel
theorem dX11_limp_1 : decode cX11_limp 1 = .ok (.ifCond .eq 10, 3) := by decide +kernel
theorem dX11_limp_11 : decode cX11_limp 11 = .ok (.aload_n 0, 1) := by decide +kernel
theorem dX11_limp_12 : decode cX11_limp 12 = .ok (.getfield 36, 3) := by decide +kernel
theorem dX11_limp_15 : decode cX11_limp 15 = .ok (.aload_n 0, 1) := by decide +kernel
theorem dX11_limp_16 : decode cX11_limp 16 = .ok (.getfield 26, 3) := by decide +kernel
theorem dX11_limp_19 : decode cX11_limp 19 = .ok (.iconst 0, 1) := by decide +kernel
theorem dX11_limp_20 : decode cX11_limp 20 = .ok (.invokevirtual 259, 3) := by decide +kernel
theorem tw_1053 : Cond.methodLink RX11 259 yX2_takenBy ∈ TT := nx_mem 1053 (by decide +kernel) (by decide +kernel)
theorem tw_1054 : Cond.instanceMethod yX2_takenBy ∈ TT := nx_mem 1054 (by decide +kernel) (by decide +kernel)
theorem tw_1055 : Cond.selects RX2 yX2_takenBy yX2_takenBy ∈ TT := nx_mem 1055 (by decide +kernel) (by decide +kernel)
theorem tw_1056 : Cond.code yX2_takenBy cX2_takenBy 7 (some .int) ∈ TT := nx_mem 1056 (by decide +kernel) (by decide +kernel)
theorem dX11_limp_23 : decode cX11_limp 23 = .ok (.istore_n 2, 1) := by decide +kernel
theorem dX11_limp_24 : decode cX11_limp 24 = .ok (.aload_n 0, 1) := by decide +kernel
theorem dX11_limp_25 : decode cX11_limp 25 = .ok (.getfield 36, 3) := by decide +kernel
theorem dX11_limp_28 : decode cX11_limp 28 = .ok (.aload_n 0, 1) := by decide +kernel
theorem dX11_limp_29 : decode cX11_limp 29 = .ok (.getfield 26, 3) := by decide +kernel
theorem dX11_limp_32 : decode cX11_limp 32 = .ok (.iconst 1, 1) := by decide +kernel
theorem dX11_limp_33 : decode cX11_limp 33 = .ok (.invokevirtual 259, 3) := by decide +kernel
theorem dX11_limp_36 : decode cX11_limp 36 = .ok (.istore_n 3, 1) := by decide +kernel
theorem dX11_limp_37 : decode cX11_limp 37 = .ok (.iload_n 2, 1) := by decide +kernel
theorem dX11_limp_38 : decode cX11_limp 38 = .ok (.iload_n 3, 1) := by decide +kernel
theorem dX11_limp_39 : decode cX11_limp 39 = .ok (.isub, 1) := by decide +kernel
theorem dX11_limp_40 : decode cX11_limp 40 = .ok (.invokestatic 263, 3) := by decide +kernel
theorem tw_1057 : Cond.methodLink RX11 263 yJ9_abs_0f7a4 ∈ TT := nx_mem 1057 (by decide +kernel) (by decide +kernel)
theorem tw_1058 : Cond.static yJ9_abs_0f7a4 ∈ TT := nx_mem 1058 (by decide +kernel) (by decide +kernel)
theorem tw_1059 : Cond.code yJ9_abs_0f7a4 cJ9_abs_0f7a4 1 (some .int) ∈ TT := nx_mem 1059 (by decide +kernel) (by decide +kernel)
theorem dX11_limp_43 : decode cX11_limp 43 = .ok (.iload_n 2, 1) := by decide +kernel
theorem dX11_limp_44 : decode cX11_limp 44 = .ok (.iload_n 3, 1) := by decide +kernel
theorem dX11_limp_45 : decode cX11_limp 45 = .ok (.iadd, 1) := by decide +kernel
theorem dX11_limp_46 : decode cX11_limp 46 = .ok (.invokestatic 269, 3) := by decide +kernel
theorem tw_1060 : Cond.methodLink RX11 269 yX11_commonDivisor ∈ TT := nx_mem 1060 (by decide +kernel) (by decide +kernel)
theorem tw_1061 : Cond.static yX11_commonDivisor ∈ TT := nx_mem 1061 (by decide +kernel) (by decide +kernel)
theorem tw_1062 : Cond.code yX11_commonDivisor cX11_commonDivisor 6 (some .int) ∈ TT := nx_mem 1062 (by decide +kernel) (by decide +kernel)
theorem dX11_limp_49 : decode cX11_limp 49 = .ok (.istore 4, 2) := by decide +kernel
theorem dX11_limp_51 : decode cX11_limp 51 = .ok (.iload 4, 2) := by decide +kernel
theorem dX11_limp_53 : decode cX11_limp 53 = .ok (.ifCond .ne 5, 3) := by decide +kernel
theorem dX11_limp_58 : decode cX11_limp 58 = .ok (.iload_n 1, 1) := by decide +kernel
theorem dX11_limp_59 : decode cX11_limp 59 = .ok (.ifCond .ne 12, 3) := by decide +kernel
theorem dX11_limp_62 : decode cX11_limp 62 = .ok (.iload_n 2, 1) := by decide +kernel
theorem dX11_limp_63 : decode cX11_limp 63 = .ok (.iload_n 3, 1) := by decide +kernel
theorem dX11_limp_64 : decode cX11_limp 64 = .ok (.isub, 1) := by decide +kernel
theorem dX11_limp_65 : decode cX11_limp 65 = .ok (.iload 4, 2) := by decide +kernel
theorem dX11_limp_67 : decode cX11_limp 67 = .ok (.idiv, 1) := by decide +kernel
theorem dX11_limp_68 : decode cX11_limp 68 = .ok (.goto 9, 3) := by decide +kernel
theorem dX11_limp_77 : decode cX11_limp 77 = .ok (.ireturn, 1) := by decide +kernel
theorem dX11_limp_56 : decode cX11_limp 56 = .ok (.iload_n 1, 1) := by decide +kernel
theorem dX11_limp_57 : decode cX11_limp 57 = .ok (.ireturn, 1) := by decide +kernel
theorem dX11_limp_4 : decode cX11_limp 4 = .ok (.iload_n 1, 1) := by decide +kernel
theorem dX11_limp_5 : decode cX11_limp 5 = .ok (.iconst 1, 1) := by decide +kernel
theorem dX11_limp_6 : decode cX11_limp 6 = .ok (.if_icmp .eq 5, 3) := by decide +kernel
theorem dX11_limp_71 : decode cX11_limp 71 = .ok (.iload_n 2, 1) := by decide +kernel
theorem dX11_limp_72 : decode cX11_limp 72 = .ok (.iload_n 3, 1) := by decide +kernel
theorem dX11_limp_73 : decode cX11_limp 73 = .ok (.iadd, 1) := by decide +kernel
theorem dX11_limp_74 : decode cX11_limp 74 = .ok (.iload 4, 2) := by decide +kernel
theorem dX11_limp_76 : decode cX11_limp 76 = .ok (.idiv, 1) := by decide +kernel
theorem dX11_limp_9 : decode cX11_limp 9 = .ok (.iconst (-1), 1) := by decide +kernel
theorem dX11_limp_10 : decode cX11_limp 10 = .ok (.ireturn, 1) := by decide +kernel
theorem dX11_cobble_0 : decode cX11_cobble 0 = .ok (.aload_n 0, 1) := by decide +kernel
theorem dX11_cobble_1 : decode cX11_cobble 1 = .ok (.getfield 26, 3) := by decide +kernel
theorem dX11_cobble_4 : decode cX11_cobble 4 = .ok (.iload_n 1, 1) := by decide +kernel
theorem dX11_cobble_5 : decode cX11_cobble 5 = .ok (.invokevirtual 273, 3) := by decide +kernel
theorem tw_1067 : Cond.methodLink RX11 273 yX5_hasStep ∈ TT := nx_mem 1067 (by decide +kernel) (by decide +kernel)
theorem dX11_cobble_8 : decode cX11_cobble 8 = .ok (.ifCond .eq 15, 3) := by decide +kernel
theorem dX11_cobble_23 : decode cX11_cobble 23 = .ok (.iconst (-1), 1) := by decide +kernel
theorem dX11_cobble_24 : decode cX11_cobble 24 = .ok (.ireturn, 1) := by decide +kernel
theorem dX11_cobble_11 : decode cX11_cobble 11 = .ok (.iload_n 2, 1) := by decide +kernel
theorem dX11_cobble_12 : decode cX11_cobble 12 = .ok (.bipush (-9), 2) := by decide +kernel
theorem dX11_cobble_14 : decode cX11_cobble 14 = .ok (.if_icmp .lt 9, 3) := by decide +kernel
theorem dX11_cobble_17 : decode cX11_cobble 17 = .ok (.iload_n 2, 1) := by decide +kernel
theorem dX11_cobble_18 : decode cX11_cobble 18 = .ok (.bipush 9, 2) := by decide +kernel
theorem dX11_cobble_20 : decode cX11_cobble 20 = .ok (.if_icmp .le 5, 3) := by decide +kernel
theorem dX11_cobble_25 : decode cX11_cobble 25 = .ok (.aload_n 0, 1) := by decide +kernel
theorem dX11_cobble_26 : decode cX11_cobble 26 = .ok (.getfield 36, 3) := by decide +kernel
theorem dX11_cobble_29 : decode cX11_cobble 29 = .ok (.getfield 185, 3) := by decide +kernel
theorem dX11_cobble_32 : decode cX11_cobble 32 = .ok (.iload_n 1, 1) := by decide +kernel
theorem dX11_cobble_33 : decode cX11_cobble 33 = .ok (.iaload, 1) := by decide +kernel
theorem dX11_cobble_34 : decode cX11_cobble 34 = .ok (.iload_n 2, 1) := by decide +kernel
theorem dX11_cobble_35 : decode cX11_cobble 35 = .ok (.iadd, 1) := by decide +kernel
theorem dX11_cobble_36 : decode cX11_cobble 36 = .ok (.istore_n 3, 1) := by decide +kernel
theorem dX11_cobble_37 : decode cX11_cobble 37 = .ok (.iload_n 3, 1) := by decide +kernel
theorem dX11_cobble_38 : decode cX11_cobble 38 = .ok (.ifCond .lt 9, 3) := by decide +kernel
theorem dX11_cobble_47 : decode cX11_cobble 47 = .ok (.iconst (-1), 1) := by decide +kernel
theorem dX11_cobble_48 : decode cX11_cobble 48 = .ok (.ireturn, 1) := by decide +kernel
theorem dX11_cobble_41 : decode cX11_cobble 41 = .ok (.iload_n 3, 1) := by decide +kernel
theorem dX11_cobble_42 : decode cX11_cobble 42 = .ok (.bipush 9, 2) := by decide +kernel
theorem dX11_cobble_44 : decode cX11_cobble 44 = .ok (.if_icmp .le 5, 3) := by decide +kernel
theorem dX11_cobble_49 : decode cX11_cobble 49 = .ok (.aload_n 0, 1) := by decide +kernel
theorem dX11_cobble_50 : decode cX11_cobble 50 = .ok (.getfield 36, 3) := by decide +kernel
theorem dX11_cobble_53 : decode cX11_cobble 53 = .ok (.getfield 185, 3) := by decide +kernel
theorem dX11_cobble_56 : decode cX11_cobble 56 = .ok (.iload_n 1, 1) := by decide +kernel
theorem dX11_cobble_57 : decode cX11_cobble 57 = .ok (.iload_n 3, 1) := by decide +kernel
theorem dX11_cobble_58 : decode cX11_cobble 58 = .ok (.iastore, 1) := by decide +kernel
theorem dX11_cobble_59 : decode cX11_cobble 59 = .ok (.iload_n 3, 1) := by decide +kernel
theorem dX11_cobble_60 : decode cX11_cobble 60 = .ok (.ireturn, 1) := by decide +kernel
theorem dX11_sound_0 : decode cX11_sound 0 = .ok (.aload_n 0, 1) := by decide +kernel
theorem dX11_sound_1 : decode cX11_sound 1 = .ok (.getfield 26, 3) := by decide +kernel
theorem dX11_sound_4 : decode cX11_sound 4 = .ok (.iload_n 1, 1) := by decide +kernel
theorem dX11_sound_5 : decode cX11_sound 5 = .ok (.invokevirtual 169, 3) := by decide +kernel
theorem dX11_sound_8 : decode cX11_sound 8 = .ok (.ifCond .eq 13, 3) := by decide +kernel
theorem dX11_sound_21 : decode cX11_sound 21 = .ok (.iconst (-1), 1) := by decide +kernel
theorem dX11_sound_22 : decode cX11_sound 22 = .ok (.ireturn, 1) := by decide +kernel
theorem dX11_sound_11 : decode cX11_sound 11 = .ok (.iload_n 2, 1) := by decide +kernel
theorem dX11_sound_12 : decode cX11_sound 12 = .ok (.ifCond .lt 9, 3) := by decide +kernel
theorem dX11_sound_15 : decode cX11_sound 15 = .ok (.iload_n 2, 1) := by decide +kernel
theorem dX11_sound_16 : decode cX11_sound 16 = .ok (.bipush 60, 2) := by decide +kernel
theorem dX11_sound_18 : decode cX11_sound 18 = .ok (.if_icmp .lt 5, 3) := by decide +kernel
theorem dX11_sound_23 : decode cX11_sound 23 = .ok (.iload_n 3, 1) := by decide +kernel
theorem dX11_sound_24 : decode cX11_sound 24 = .ok (.ifCond .lt 16, 3) := by decide +kernel
theorem dX11_sound_40 : decode cX11_sound 40 = .ok (.iconst (-1), 1) := by decide +kernel
theorem dX11_sound_41 : decode cX11_sound 41 = .ok (.ireturn, 1) := by decide +kernel
theorem dX11_sound_27 : decode cX11_sound 27 = .ok (.iload 4, 2) := by decide +kernel
theorem dX11_sound_29 : decode cX11_sound 29 = .ok (.bipush 9, 2) := by decide +kernel
theorem dX11_sound_31 : decode cX11_sound 31 = .ok (.if_icmp .gt 9, 3) := by decide +kernel
theorem dX11_sound_34 : decode cX11_sound 34 = .ok (.iload 4, 2) := by decide +kernel
theorem dX11_sound_36 : decode cX11_sound 36 = .ok (.iload_n 3, 1) := by decide +kernel
theorem dX11_sound_37 : decode cX11_sound 37 = .ok (.if_icmp .ge 5, 3) := by decide +kernel
theorem dX11_sound_42 : decode cX11_sound 42 = .ok (.aload_n 0, 1) := by decide +kernel
theorem dX11_sound_43 : decode cX11_sound 43 = .ok (.getfield 54, 3) := by decide +kernel
theorem tw_482 : Cond.fieldLink RX11 54 "LimpCode" "sounds" "LLimpCode$Sounds;" ∈ TT := nx_mem 482 (by decide +kernel) (by decide +kernel)
theorem dX11_sound_46 : decode cX11_sound 46 = .ok (.iload_n 1, 1) := by decide +kernel
theorem dX11_sound_47 : decode cX11_sound 47 = .ok (.iload_n 2, 1) := by decide +kernel
theorem dX11_sound_48 : decode cX11_sound 48 = .ok (.iload_n 3, 1) := by decide +kernel
theorem dX11_sound_49 : decode cX11_sound 49 = .ok (.iload 4, 2) := by decide +kernel
theorem dX11_sound_51 : decode cX11_sound 51 = .ok (.aload_n 0, 1) := by decide +kernel
theorem dX11_sound_52 : decode cX11_sound 52 = .ok (.getfield 276, 3) := by decide +kernel
theorem dX11_sound_55 : decode cX11_sound 55 = .ok (.invokevirtual 279, 3) := by decide +kernel
theorem tw_1072 : Cond.methodLink RX11 279 yX8_add ∈ TT := nx_mem 1072 (by decide +kernel) (by decide +kernel)
theorem tw_1073 : Cond.instanceMethod yX8_add ∈ TT := nx_mem 1073 (by decide +kernel) (by decide +kernel)
theorem tw_1074 : Cond.selects RX8 yX8_add yX8_add ∈ TT := nx_mem 1074 (by decide +kernel) (by decide +kernel)
theorem tw_93 : Cond.initialized RX8 ∈ TT := nx_mem 93 (by decide +kernel) (by decide +kernel)
theorem tw_1075 : Cond.code yX8_add cX8_add 6 (some .int) ∈ TT := nx_mem 1075 (by decide +kernel) (by decide +kernel)
theorem dX11_sound_58 : decode cX11_sound 58 = .ok (.ireturn, 1) := by decide +kernel
theorem dX11_untell_0 : decode cX11_untell 0 = .ok (.aload_n 0, 1) := by decide +kernel
theorem dX11_untell_1 : decode cX11_untell 1 = .ok (.getfield 54, 3) := by decide +kernel
theorem dX11_untell_4 : decode cX11_untell 4 = .ok (.iload_n 1, 1) := by decide +kernel
theorem dX11_untell_5 : decode cX11_untell 5 = .ok (.aload_n 0, 1) := by decide +kernel
theorem dX11_untell_6 : decode cX11_untell 6 = .ok (.getfield 276, 3) := by decide +kernel
theorem dX11_untell_9 : decode cX11_untell 9 = .ok (.invokevirtual 282, 3) := by decide +kernel
theorem tw_1081 : Cond.methodLink RX11 282 yX8_takeBack ∈ TT := nx_mem 1081 (by decide +kernel) (by decide +kernel)
theorem tw_1082 : Cond.instanceMethod yX8_takeBack ∈ TT := nx_mem 1082 (by decide +kernel) (by decide +kernel)
theorem tw_1083 : Cond.selects RX8 yX8_takeBack yX8_takeBack ∈ TT := nx_mem 1083 (by decide +kernel) (by decide +kernel)
theorem tw_1084 : Cond.code yX8_takeBack cX8_takeBack 3 (some .boolean) ∈ TT := nx_mem 1084 (by decide +kernel) (by decide +kernel)
theorem dX11_untell_12 : decode cX11_untell 12 = .ok (.ireturn, 1) := by decide +kernel
theorem dX11_dealt_0 : decode cX11_dealt 0 = .ok (.aload_n 0, 1) := by decide +kernel
theorem dX11_dealt_1 : decode cX11_dealt 1 = .ok (.aload_n 0, 1) := by decide +kernel
theorem dX11_dealt_2 : decode cX11_dealt 2 = .ok (.getfield 26, 3) := by decide +kernel
theorem dX11_dealt_5 : decode cX11_dealt 5 = .ok (.getfield 126, 3) := by decide +kernel
theorem tw_225 : Cond.fieldLink RX11 126 "LimpCode$School" "letterCount" "I" ∈ TT := nx_mem 225 (by decide +kernel) (by decide +kernel)
theorem dX11_dealt_8 : decode cX11_dealt 8 = .ok (.putfield 143, 3) := by decide +kernel
theorem dX11_dealt_11 : decode cX11_dealt 11 = .ok (.aload_n 0, 1) := by decide +kernel
theorem dX11_dealt_12 : decode cX11_dealt 12 = .ok (.getfield 94, 3) := by decide +kernel
theorem tw_488 : Cond.fieldLink RX11 94 "LimpCode" "deal" "LLimpCode$Deal;" ∈ TT := nx_mem 488 (by decide +kernel) (by decide +kernel)
theorem dX11_dealt_15 : decode cX11_dealt 15 = .ok (.aload_n 0, 1) := by decide +kernel
theorem dX11_dealt_16 : decode cX11_dealt 16 = .ok (.getfield 26, 3) := by decide +kernel
theorem dX11_dealt_19 : decode cX11_dealt 19 = .ok (.aload_n 0, 1) := by decide +kernel
theorem dX11_dealt_20 : decode cX11_dealt 20 = .ok (.getfield 46, 3) := by decide +kernel
theorem dX11_dealt_23 : decode cX11_dealt 23 = .ok (.iconst 0, 1) := by decide +kernel
theorem dX11_dealt_24 : decode cX11_dealt 24 = .ok (.aaload, 1) := by decide +kernel
theorem dX11_dealt_25 : decode cX11_dealt 25 = .ok (.aload_n 0, 1) := by decide +kernel
theorem dX11_dealt_26 : decode cX11_dealt 26 = .ok (.getfield 105, 3) := by decide +kernel
theorem dX11_dealt_29 : decode cX11_dealt 29 = .ok (.invokevirtual 255, 3) := by decide +kernel
theorem tw_1029 : Cond.methodLink RX11 255 yX1_dealRows ∈ TT := nx_mem 1029 (by decide +kernel) (by decide +kernel)
theorem tw_1030 : Cond.instanceMethod yX1_dealRows ∈ TT := nx_mem 1030 (by decide +kernel) (by decide +kernel)
theorem tw_1031 : Cond.selects RX1 yX1_dealRows yX1_dealRows ∈ TT := nx_mem 1031 (by decide +kernel) (by decide +kernel)
theorem tw_1032 : Cond.code yX1_dealRows cX1_dealRows 8 (some .int) ∈ TT := nx_mem 1032 (by decide +kernel) (by decide +kernel)
theorem dX11_dealt_32 : decode cX11_dealt 32 = .ok (.ireturn, 1) := by decide +kernel
theorem dX11_image_0 : decode cX11_image 0 = .ok (.iload_n 1, 1) := by decide +kernel
theorem dX11_image_1 : decode cX11_image 1 = .ok (.invokestatic 299, 3) := by decide +kernel
theorem tw_1131 : Cond.methodLink RX11 299 yX11_isBox ∈ TT := nx_mem 1131 (by decide +kernel) (by decide +kernel)
theorem tw_1132 : Cond.static yX11_isBox ∈ TT := nx_mem 1132 (by decide +kernel) (by decide +kernel)
theorem tw_1133 : Cond.code yX11_isBox cX11_isBox 1 (some .boolean) ∈ TT := nx_mem 1133 (by decide +kernel) (by decide +kernel)
theorem dX11_image_4 : decode cX11_image 4 = .ok (.ifCond .ne 5, 3) := by decide +kernel
theorem dX11_image_7 : decode cX11_image 7 = .ok (.iconst (-1), 1) := by decide +kernel
theorem dX11_image_8 : decode cX11_image 8 = .ok (.ireturn, 1) := by decide +kernel
theorem dX11_image_9 : decode cX11_image 9 = .ok (.aload_n 0, 1) := by decide +kernel
theorem dX11_image_10 : decode cX11_image 10 = .ok (.getfield 40, 3) := by decide +kernel
theorem tw_480 : Cond.fieldLink RX11 40 "LimpCode" "boxes" "[LLimpCode$Earnest;" ∈ TT := nx_mem 480 (by decide +kernel) (by decide +kernel)
theorem dX11_image_13 : decode cX11_image 13 = .ok (.iload_n 1, 1) := by decide +kernel
theorem dX11_image_14 : decode cX11_image 14 = .ok (.aaload, 1) := by decide +kernel
theorem dX11_image_15 : decode cX11_image 15 = .ok (.aload_n 0, 1) := by decide +kernel
theorem dX11_image_16 : decode cX11_image 16 = .ok (.getfield 36, 3) := by decide +kernel
theorem dX11_image_19 : decode cX11_image 19 = .ok (.invokevirtual 302, 3) := by decide +kernel
theorem tw_1134 : Cond.methodLink RX11 302 yX2_copyFrom ∈ TT := nx_mem 1134 (by decide +kernel) (by decide +kernel)
theorem tw_1135 : Cond.instanceMethod yX2_copyFrom ∈ TT := nx_mem 1135 (by decide +kernel) (by decide +kernel)
theorem tw_1136 : Cond.selects RX2 yX2_copyFrom yX2_copyFrom ∈ TT := nx_mem 1136 (by decide +kernel) (by decide +kernel)
theorem tw_1137 : Cond.code yX2_copyFrom cX2_copyFrom 2 none ∈ TT := nx_mem 1137 (by decide +kernel) (by decide +kernel)
theorem dX11_image_22 : decode cX11_image 22 = .ok (.aload_n 0, 1) := by decide +kernel
theorem dX11_image_23 : decode cX11_image 23 = .ok (.getfield 40, 3) := by decide +kernel
theorem dX11_image_26 : decode cX11_image 26 = .ok (.iload_n 1, 1) := by decide +kernel
theorem dX11_image_27 : decode cX11_image 27 = .ok (.aaload, 1) := by decide +kernel
theorem dX11_image_28 : decode cX11_image 28 = .ok (.iconst 1, 1) := by decide +kernel
theorem dX11_image_29 : decode cX11_image 29 = .ok (.putfield 133, 3) := by decide +kernel
theorem tw_280 : Cond.fieldLink RX11 133 "LimpCode$Earnest" "kept" "Z" ∈ TT := nx_mem 280 (by decide +kernel) (by decide +kernel)
theorem dX11_image_32 : decode cX11_image 32 = .ok (.aload_n 0, 1) := by decide +kernel
theorem dX11_image_33 : decode cX11_image 33 = .ok (.getfield 36, 3) := by decide +kernel
theorem dX11_image_36 : decode cX11_image 36 = .ok (.getfield 156, 3) := by decide +kernel
theorem dX11_image_39 : decode cX11_image 39 = .ok (.ireturn, 1) := by decide +kernel
theorem dX11_back_0 : decode cX11_back 0 = .ok (.iload_n 1, 1) := by decide +kernel
theorem dX11_back_1 : decode cX11_back 1 = .ok (.invokestatic 299, 3) := by decide +kernel
theorem dX11_back_4 : decode cX11_back 4 = .ok (.ifCond .eq 15, 3) := by decide +kernel
theorem dX11_back_19 : decode cX11_back 19 = .ok (.iconst (-1), 1) := by decide +kernel
theorem dX11_back_20 : decode cX11_back 20 = .ok (.ireturn, 1) := by decide +kernel
theorem dX11_back_7 : decode cX11_back 7 = .ok (.aload_n 0, 1) := by decide +kernel
theorem dX11_back_8 : decode cX11_back 8 = .ok (.getfield 40, 3) := by decide +kernel
theorem dX11_back_11 : decode cX11_back 11 = .ok (.iload_n 1, 1) := by decide +kernel
theorem dX11_back_12 : decode cX11_back 12 = .ok (.aaload, 1) := by decide +kernel
theorem dX11_back_13 : decode cX11_back 13 = .ok (.getfield 133, 3) := by decide +kernel
theorem dX11_back_16 : decode cX11_back 16 = .ok (.ifCond .ne 5, 3) := by decide +kernel
theorem dX11_back_21 : decode cX11_back 21 = .ok (.aload_n 0, 1) := by decide +kernel
theorem dX11_back_22 : decode cX11_back 22 = .ok (.getfield 36, 3) := by decide +kernel
theorem dX11_back_25 : decode cX11_back 25 = .ok (.aload_n 0, 1) := by decide +kernel
theorem dX11_back_26 : decode cX11_back 26 = .ok (.getfield 40, 3) := by decide +kernel
theorem dX11_back_29 : decode cX11_back 29 = .ok (.iload_n 1, 1) := by decide +kernel
theorem dX11_back_30 : decode cX11_back 30 = .ok (.aaload, 1) := by decide +kernel
theorem dX11_back_31 : decode cX11_back 31 = .ok (.invokevirtual 302, 3) := by decide +kernel
theorem dX11_back_34 : decode cX11_back 34 = .ok (.aload_n 0, 1) := by decide +kernel
theorem dX11_back_35 : decode cX11_back 35 = .ok (.getfield 36, 3) := by decide +kernel
theorem dX11_back_38 : decode cX11_back 38 = .ok (.getfield 156, 3) := by decide +kernel
theorem dX11_back_41 : decode cX11_back 41 = .ok (.ireturn, 1) := by decide +kernel
theorem dX11_about_0 : decode cX11_about 0 = .ok (.iload_n 1, 1) := by decide +kernel
theorem dX11_about_1 : decode cX11_about 1 = .ok (.tableswitch 157 0 11 #[63, 71, 79, 87, 95, 103, 111, 121, 131, 139, 144, 152], 63) := by decide +kernel
theorem dX11_about_158 : decode cX11_about 158 = .ok (.iconst (-1), 1) := by decide +kernel
theorem dX11_about_159 : decode cX11_about 159 = .ok (.ireturn, 1) := by decide +kernel
theorem dX11_about_64 : decode cX11_about 64 = .ok (.aload_n 0, 1) := by decide +kernel
theorem dX11_about_65 : decode cX11_about 65 = .ok (.getfield 26, 3) := by decide +kernel
theorem dX11_about_68 : decode cX11_about 68 = .ok (.getfield 306, 3) := by decide +kernel
theorem tw_221 : Cond.fieldLink RX11 306 "LimpCode$School" "stepCount" "I" ∈ TT := nx_mem 221 (by decide +kernel) (by decide +kernel)
theorem dX11_about_71 : decode cX11_about 71 = .ok (.ireturn, 1) := by decide +kernel
theorem dX11_about_72 : decode cX11_about 72 = .ok (.aload_n 0, 1) := by decide +kernel
theorem dX11_about_73 : decode cX11_about 73 = .ok (.getfield 26, 3) := by decide +kernel
theorem dX11_about_76 : decode cX11_about 76 = .ok (.getfield 126, 3) := by decide +kernel
theorem dX11_about_79 : decode cX11_about 79 = .ok (.ireturn, 1) := by decide +kernel
theorem dX11_about_80 : decode cX11_about 80 = .ok (.aload_n 0, 1) := by decide +kernel
theorem dX11_about_81 : decode cX11_about 81 = .ok (.getfield 26, 3) := by decide +kernel
theorem dX11_about_84 : decode cX11_about 84 = .ok (.getfield 309, 3) := by decide +kernel
theorem tw_231 : Cond.fieldLink RX11 309 "LimpCode$School" "earCount" "I" ∈ TT := nx_mem 231 (by decide +kernel) (by decide +kernel)
theorem dX11_about_87 : decode cX11_about 87 = .ok (.ireturn, 1) := by decide +kernel
theorem dX11_about_88 : decode cX11_about 88 = .ok (.aload_n 0, 1) := by decide +kernel
theorem dX11_about_89 : decode cX11_about 89 = .ok (.getfield 36, 3) := by decide +kernel
theorem dX11_about_92 : decode cX11_about 92 = .ok (.getfield 156, 3) := by decide +kernel
theorem dX11_about_95 : decode cX11_about 95 = .ok (.ireturn, 1) := by decide +kernel
theorem dX11_about_96 : decode cX11_about 96 = .ok (.aload_n 0, 1) := by decide +kernel
theorem dX11_about_97 : decode cX11_about 97 = .ok (.getfield 36, 3) := by decide +kernel
theorem dX11_about_100 : decode cX11_about 100 = .ok (.getfield 312, 3) := by decide +kernel
theorem tw_275 : Cond.fieldLink RX11 312 "LimpCode$Earnest" "size" "I" ∈ TT := nx_mem 275 (by decide +kernel) (by decide +kernel)
theorem dX11_about_103 : decode cX11_about 103 = .ok (.ireturn, 1) := by decide +kernel
theorem dX11_about_104 : decode cX11_about 104 = .ok (.aload_n 0, 1) := by decide +kernel
theorem dX11_about_105 : decode cX11_about 105 = .ok (.getfield 36, 3) := by decide +kernel
theorem dX11_about_108 : decode cX11_about 108 = .ok (.getfield 313, 3) := by decide +kernel
theorem tw_279 : Cond.fieldLink RX11 313 "LimpCode$Earnest" "foot" "I" ∈ TT := nx_mem 279 (by decide +kernel) (by decide +kernel)
theorem dX11_about_111 : decode cX11_about 111 = .ok (.ireturn, 1) := by decide +kernel
theorem dX11_about_112 : decode cX11_about 112 = .ok (.aload_n 0, 1) := by decide +kernel
theorem dX11_about_113 : decode cX11_about 113 = .ok (.getfield 46, 3) := by decide +kernel
theorem dX11_about_116 : decode cX11_about 116 = .ok (.iconst 0, 1) := by decide +kernel
theorem dX11_about_117 : decode cX11_about 117 = .ok (.aaload, 1) := by decide +kernel
theorem dX11_about_118 : decode cX11_about 118 = .ok (.getfield 226, 3) := by decide +kernel
theorem dX11_about_121 : decode cX11_about 121 = .ok (.ireturn, 1) := by decide +kernel
theorem dX11_about_122 : decode cX11_about 122 = .ok (.aload_n 0, 1) := by decide +kernel
theorem dX11_about_123 : decode cX11_about 123 = .ok (.getfield 46, 3) := by decide +kernel
theorem dX11_about_126 : decode cX11_about 126 = .ok (.iconst 1, 1) := by decide +kernel
theorem dX11_about_127 : decode cX11_about 127 = .ok (.aaload, 1) := by decide +kernel
theorem dX11_about_128 : decode cX11_about 128 = .ok (.getfield 226, 3) := by decide +kernel
theorem dX11_about_131 : decode cX11_about 131 = .ok (.ireturn, 1) := by decide +kernel
theorem dX11_about_132 : decode cX11_about 132 = .ok (.aload_n 0, 1) := by decide +kernel
theorem dX11_about_133 : decode cX11_about 133 = .ok (.getfield 54, 3) := by decide +kernel
theorem dX11_about_136 : decode cX11_about 136 = .ok (.getfield 140, 3) := by decide +kernel
theorem tw_334 : Cond.fieldLink RX11 140 "LimpCode$Sounds" "count" "I" ∈ TT := nx_mem 334 (by decide +kernel) (by decide +kernel)
theorem dX11_about_139 : decode cX11_about 139 = .ok (.ireturn, 1) := by decide +kernel
theorem dX11_about_140 : decode cX11_about 140 = .ok (.aload_n 0, 1) := by decide +kernel
theorem dX11_about_141 : decode cX11_about 141 = .ok (.getfield 276, 3) := by decide +kernel
theorem dX11_about_144 : decode cX11_about 144 = .ok (.ireturn, 1) := by decide +kernel
theorem dX11_about_145 : decode cX11_about 145 = .ok (.aload_n 0, 1) := by decide +kernel
theorem dX11_about_146 : decode cX11_about 146 = .ok (.getfield 12, 3) := by decide +kernel
theorem dX11_about_149 : decode cX11_about 149 = .ok (.getfield 115, 3) := by decide +kernel
theorem dX11_about_152 : decode cX11_about 152 = .ok (.ireturn, 1) := by decide +kernel
theorem dX11_about_153 : decode cX11_about 153 = .ok (.aload_n 0, 1) := by decide +kernel
theorem dX11_about_154 : decode cX11_about 154 = .ok (.getfield 143, 3) := by decide +kernel
theorem dX11_about_157 : decode cX11_about 157 = .ok (.ireturn, 1) := by decide +kernel
set_option maxHeartbeats 4000000 in
set_option maxRecDepth 100000 in
theorem s_X11_isText (lau : Launch) (gg : va_G) (kA : Nat → ClassId) (e : Int32)  : CtI lau yX11_isText cX11_isText 1 (some .boolean) 1 0 0 gg kA [.int e] (mflat []) (S := Unit) (fun (r : Int32) (_ : Unit) => r = bIx e 2) (fun (_ : Unit) => mflat []) := by
  refine nx_startI (by decide +kernel) (Nat.le_of_ble_eq_true rfl) ?_
  intro x hnm h hq
  have h : Ok x cX11_isText RX11 kA (rmC 1 0 0) 1 := h
  show J x (mflat []) [(0, .int e)] 0 0 0 []
  refine j_iload_n h 0 rfl rfl dX11_isText_0 ?_
  refine j_if_lt h 13 dX11_isText_1 (by decide) (fun z8538 => ?_) (fun z8538 => ?_)
  · show J x (mflat []) [(0, .int e)] 0 0 13 []
    refine j_iconst (v := 0) h (by decide) dX11_isText_13 ?_
    exact jm_zret h hq rfl dX11_isText_14 () [] rfl (by decide) (by first | rfl | (unfold bIx; simp only [z8538, ↓reduceIte]; done) | (subst_vars; decide)) (Nat.le_of_ble_eq_true rfl) (Nat.le_of_ble_eq_true rfl)
  · obtain ⟨j8539, hj8539, rfl⟩ := nI_of z8538
    show J x (mflat []) [(0, .int (nI j8539))] 0 0 4 []
    refine j_iload_n h 0 rfl rfl dX11_isText_4 ?_
    refine j_iconst (v := 2) h (by decide) dX11_isText_5 ?_
    refine j_icmp_ge h 13 dX11_isText_6 (by decide) (fun z8540 => ?_) (fun z8540 => ?_)
    · have z8540n : 2 ≤ j8539 := (nI_leI (a := 2) (b := j8539) (by omega) (by omega)).mp z8540
      refine j_iconst (v := 0) h (by decide) dX11_isText_13 ?_
      exact jm_zret h hq rfl dX11_isText_14 () [] rfl (by decide) (by first | rfl | (unfold bIx; simp only [z8538, z8540, ↓reduceIte]; done) | (subst_vars; decide)) (Nat.le_of_ble_eq_true rfl) (Nat.le_of_ble_eq_true rfl)
    · have z8540n : ¬ 2 ≤ j8539 := fun q9 => z8540 ((nI_leI (a := 2) (b := j8539) (by omega) (by omega)).mpr q9)
      refine j_iconst (v := 1) h (by decide) dX11_isText_9 ?_
      refine j_goto h 14 dX11_isText_10 (by decide) ?_
      exact jm_zret h hq rfl dX11_isText_14 () [] rfl (by decide) (by first | rfl | (unfold bIx; simp only [z8538, z8540, ↓reduceIte]; done) | (subst_vars; decide)) (Nat.le_of_ble_eq_true rfl) (Nat.le_of_ble_eq_true rfl)
set_option maxHeartbeats 4000000 in
set_option maxRecDepth 100000 in
theorem s_X11_isBox (lau : Launch) (gg : va_G) (kA : Nat → ClassId) (e : Int32)  : CtI lau yX11_isBox cX11_isBox 1 (some .boolean) 1 0 0 gg kA [.int e] (mflat []) (S := Unit) (fun (r : Int32) (_ : Unit) => r = bIx e 3) (fun (_ : Unit) => mflat []) := by
  refine nx_startI (by decide +kernel) (Nat.le_of_ble_eq_true rfl) ?_
  intro x hnm h hq
  have h : Ok x cX11_isBox RX11 kA (rmC 1 0 0) 1 := h
  show J x (mflat []) [(0, .int e)] 0 0 0 []
  refine j_iload_n h 0 rfl rfl dX11_isBox_0 ?_
  refine j_if_lt h 13 dX11_isBox_1 (by decide) (fun z8544 => ?_) (fun z8544 => ?_)
  · show J x (mflat []) [(0, .int e)] 0 0 13 []
    refine j_iconst (v := 0) h (by decide) dX11_isBox_13 ?_
    exact jm_zret h hq rfl dX11_isBox_14 () [] rfl (by decide) (by first | rfl | (unfold bIx; simp only [z8544, ↓reduceIte]; done) | (subst_vars; decide)) (Nat.le_of_ble_eq_true rfl) (Nat.le_of_ble_eq_true rfl)
  · obtain ⟨j8545, hj8545, rfl⟩ := nI_of z8544
    show J x (mflat []) [(0, .int (nI j8545))] 0 0 4 []
    refine j_iload_n h 0 rfl rfl dX11_isBox_4 ?_
    refine j_iconst (v := 3) h (by decide) dX11_isBox_5 ?_
    refine j_icmp_ge h 13 dX11_isBox_6 (by decide) (fun z8546 => ?_) (fun z8546 => ?_)
    · have z8546n : 3 ≤ j8545 := (nI_leI (a := 3) (b := j8545) (by omega) (by omega)).mp z8546
      refine j_iconst (v := 0) h (by decide) dX11_isBox_13 ?_
      exact jm_zret h hq rfl dX11_isBox_14 () [] rfl (by decide) (by first | rfl | (unfold bIx; simp only [z8544, z8546, ↓reduceIte]; done) | (subst_vars; decide)) (Nat.le_of_ble_eq_true rfl) (Nat.le_of_ble_eq_true rfl)
    · have z8546n : ¬ 3 ≤ j8545 := fun q9 => z8546 ((nI_leI (a := 3) (b := j8545) (by omega) (by omega)).mpr q9)
      refine j_iconst (v := 1) h (by decide) dX11_isBox_9 ?_
      refine j_goto h 14 dX11_isBox_10 (by decide) ?_
      exact jm_zret h hq rfl dX11_isBox_14 () [] rfl (by decide) (by first | rfl | (unfold bIx; simp only [z8544, z8546, ↓reduceIte]; done) | (subst_vars; decide)) (Nat.le_of_ble_eq_true rfl) (Nat.le_of_ble_eq_true rfl)
set_option maxHeartbeats 4000000 in
set_option maxRecDepth 100000 in
theorem s_X11_commonDivisor (lau : Launch) (gg : va_G) (kA : Nat → ClassId) (a : Int32) (b : Int32)  : CtI lau yX11_commonDivisor cX11_commonDivisor 6 (some .int) 1 0 0 gg kA [.int a, .int b] (mflat []) (S := Unit) (fun (r : Int32) (_ : Unit) => True) (fun (_ : Unit) => mflat []) := by
  refine nx_startI (by decide +kernel) (Nat.le_of_ble_eq_true rfl) ?_
  intro x hnm h hq
  have h : Ok x cX11_commonDivisor RX11 kA (rmC 1 0 0) 6 := h
  show J x (mflat []) [(0, .int a), (1, .int b)] 0 0 0 []
  refine j_iload_n h 0 rfl rfl dX11_commonDivisor_0 ?_
  refine j_istore_n (lv' := [(2, .int a), (0, .int a), (1, .int b)]) h dX11_commonDivisor_1 rfl (by decide) rfl ?_
  refine j_iload_n h 2 rfl rfl dX11_commonDivisor_2 ?_
  refine j_istore_n (lv' := [(3, .int b), (2, .int a), (0, .int a), (1, .int b)]) h dX11_commonDivisor_3 rfl (by decide) rfl ?_
  refine j_iconst (v := 0) h (by decide) dX11_commonDivisor_4 ?_
  refine j_istore (lv' := [(4, .int 0), (3, .int b), (2, .int a), (0, .int a), (1, .int b)]) h dX11_commonDivisor_5 (by decide) rfl ?_
  have lp7_788 : ∀ (m7_788 : Nat), ∀ (v4_7_788 : Nat) (v3_7_788 : Int32) (v2_7_788 : Int32), (v4_7_788 ≤ 100000) → 100001 - v4_7_788 < m7_788 → J x (mflat []) [(4, .int (nI v4_7_788)), (3, .int v3_7_788), (2, .int v2_7_788), (0, .int a), (1, .int b)] 0 0 7 [] := by
    intro m7_788
    induction m7_788 with
    | zero =>
      intro v4_7_788 v3_7_788 v2_7_788 i7_788_0 hm7_788
      exact absurd hm7_788 (Nat.not_lt_zero _)
    | succ m7_788 ih7_788 =>
      intro v4_7_788 v3_7_788 v2_7_788 i7_788_0 hm7_788
      refine j_iload h 0 rfl dX11_commonDivisor_7 ?_
      refine j_bipush (v := 60) h (by decide) dX11_commonDivisor_9 ?_
      refine j_icmp_ge h 34 dX11_commonDivisor_11 (by decide) (fun z8555 => ?_) (fun z8555 => ?_)
      · have z8555n : 60 ≤ v4_7_788 := (nI_leI (a := 60) (b := v4_7_788) (by omega) (by omega)).mp z8555
        refine j_iload_n h 2 rfl rfl dX11_commonDivisor_34 ?_
        exact jm_iret h hq dX11_commonDivisor_35 () [] rfl (by decide) trivial (Nat.le_of_ble_eq_true rfl) (Nat.le_of_ble_eq_true rfl)
      · have z8555n : ¬ 60 ≤ v4_7_788 := fun q9 => z8555 ((nI_leI (a := 60) (b := v4_7_788) (by omega) (by omega)).mpr q9)
        refine j_iload_n h 1 rfl rfl dX11_commonDivisor_14 ?_
        refine j_if_eq h 34 dX11_commonDivisor_15 (by decide) (fun z8556 => ?_) (fun z8556 => ?_)
        · subst z8556
          show J x (mflat []) [(4, .int (nI v4_7_788)), (3, .int 0), (2, .int v2_7_788), (0, .int a), (1, .int b)] 0 0 34 []
          refine j_iload_n h 2 rfl rfl dX11_commonDivisor_34 ?_
          exact jm_iret h hq dX11_commonDivisor_35 () [] rfl (by decide) trivial (Nat.le_of_ble_eq_true rfl) (Nat.le_of_ble_eq_true rfl)
        · show J x (mflat []) [(4, .int (nI v4_7_788)), (3, .int v3_7_788), (2, .int v2_7_788), (0, .int a), (1, .int b)] 0 0 18 []
          refine j_iload_n h 2 rfl rfl dX11_commonDivisor_18 ?_
          refine j_iload_n h 1 rfl rfl dX11_commonDivisor_19 ?_
          refine j_irem h (by assumption) dX11_commonDivisor_20 ?_
          refine j_istore (lv' := [(5, .int (v2_7_788 - v2_7_788 / v3_7_788 * v3_7_788)), (4, .int (nI v4_7_788)), (3, .int v3_7_788), (2, .int v2_7_788), (0, .int a), (1, .int b)]) h dX11_commonDivisor_21 (by decide) rfl ?_
          refine j_iload_n h 2 rfl rfl dX11_commonDivisor_23 ?_
          refine j_istore_n (lv' := [(2, .int v3_7_788), (5, .int (v2_7_788 - v2_7_788 / v3_7_788 * v3_7_788)), (4, .int (nI v4_7_788)), (3, .int v3_7_788), (0, .int a), (1, .int b)]) h dX11_commonDivisor_24 rfl (by decide) rfl ?_
          refine j_iload h 1 rfl dX11_commonDivisor_25 ?_
          refine j_istore_n (lv' := [(3, .int (v2_7_788 - v2_7_788 / v3_7_788 * v3_7_788)), (2, .int v3_7_788), (5, .int (v2_7_788 - v2_7_788 / v3_7_788 * v3_7_788)), (4, .int (nI v4_7_788)), (0, .int a), (1, .int b)]) h dX11_commonDivisor_27 rfl (by decide) rfl ?_
          refine j_iinc (v := nI (v4_7_788 + 1)) (lv' := [(4, .int (nI (v4_7_788 + 1))), (3, .int (v2_7_788 - v2_7_788 / v3_7_788 * v3_7_788)), (2, .int v3_7_788), (5, .int (v2_7_788 - v2_7_788 / v3_7_788 * v3_7_788)), (0, .int a), (1, .int b)]) h dX11_commonDivisor_28 3 rfl (nI_add v4_7_788 1) (by decide) rfl ?_
          refine j_goto h 7 dX11_commonDivisor_31 (by decide) ?_
          refine jm_sub [] (w' := []) rfl (by decide +kernel) [0, 1, 2, 4, 5] (lv' := [(4, .int (nI (v4_7_788 + 1))), (3, .int (v2_7_788 - v2_7_788 / v3_7_788 * v3_7_788)), (2, .int v3_7_788), (0, .int a), (1, .int b)]) rfl ?_
          exact ih7_788 (v4_7_788 + 1) (v2_7_788 - v2_7_788 / v3_7_788 * v3_7_788) v3_7_788 (show (v4_7_788 + 1) ≤ 100000 by first | assumption | omega) (show 100001 - (v4_7_788 + 1) < m7_788 by first | exact Nat.lt_of_lt_of_le (Nat.sub_lt_sub_left (Nat.lt_of_le_of_lt (show v4_7_788 ≤ 100000 by assumption) (Nat.lt_succ_self 100000)) (Nat.lt_succ_self v4_7_788)) (Nat.le_of_lt_succ hm7_788) | omega)
  refine jm_sub [] (w' := []) rfl (by decide +kernel) [0, 1, 2, 3, 4] (lv' := [(4, .int 0), (3, .int b), (2, .int a), (0, .int a), (1, .int b)]) rfl ?_
  exact lp7_788 (100001 - 0 + 1) 0 b a (show 0 ≤ 100000 by first | assumption | omega) (Nat.lt_succ_self _)
set_option maxHeartbeats 4000000 in
set_option maxRecDepth 100000 in
theorem s_X11_areUnlikeEars (lau : Launch) (gg : va_G) (kA : Nat → ClassId) (L : Nat) (a : Int32) (bv : Int32) (t : Nat) (rd : Nat) (s : Nat) (zz : Nat) (b : Nat) (bx : Nat) (tx : Nat) (so : Nat) (bd : Nat) (g : Nat) (gq : Nat) (v : Nat) (sk : Nat) (d : Nat) (fh : Nat) (sh : Nat) (ly : Nat) (lsz : Int32) (tod : Nat) (s0 : Nat) (s1 : Nat) (s2 : Nat) (s3 : Nat) (s4 : Nat) (s5 : Nat) (s6 : Nat) (s7 : Nat) (s8 : Nat) (s9 : Nat) (s10 : Nat) (s11 : Nat) (sn : Nat) (sl : Nat) (se : Nat) (htod : tod ≤ 100000) (hsn : sn ≤ 6) (hsl : sl ≤ 10) (hse : se ≤ 4) : CtI lau yX11_areUnlikeEars cX11_areUnlikeEars 3 (some .boolean) 2 0 0 gg kA [.ref L, .int a, .int bv] (mflat [(L, .inl (.inr (11, [.ref t, .ref rd, .ref s, .ref zz, .ref b, .ref bx, .ref tx, .ref so, .ref bd, .ref g, .ref gq, .ref v, .ref sk, .ref d, .ref fh, .ref sh, .ref ly, .int lsz, .int (nI tod)]))), (s, .inl (.inr (5, [.ref s0, .ref s1, .ref s2, .ref s3, .ref s4, .ref s5, .ref s6, .ref s7, .ref s8, .ref s9, .ref s10, .ref s11, .int (nI sn), .int (nI sl), .int (nI se)])))]) (S := Nat) (fun (r : Int32) (y_r : Nat) => r = nI y_r ∧ (y_r ≤ 1)) (fun (y_r : Nat) => mflat [(L, .inl (.inr (11, [.ref t, .ref rd, .ref s, .ref zz, .ref b, .ref bx, .ref tx, .ref so, .ref bd, .ref g, .ref gq, .ref v, .ref sk, .ref d, .ref fh, .ref sh, .ref ly, .int lsz, .int (nI tod)]))), (s, .inl (.inr (5, [.ref s0, .ref s1, .ref s2, .ref s3, .ref s4, .ref s5, .ref s6, .ref s7, .ref s8, .ref s9, .ref s10, .ref s11, .int (nI sn), .int (nI sl), .int (nI se)])))]) := by
  refine nx_startI (by decide +kernel) (Nat.le_of_ble_eq_true rfl) ?_
  intro x hnm h hq
  have h : Ok x cX11_areUnlikeEars RX11 kA (rmC 2 0 0) 3 := h
  show J x (mflat [(L, .inl (.inr (11, [.ref t, .ref rd, .ref s, .ref zz, .ref b, .ref bx, .ref tx, .ref so, .ref bd, .ref g, .ref gq, .ref v, .ref sk, .ref d, .ref fh, .ref sh, .ref ly, .int lsz, .int (nI tod)]))), (s, .inl (.inr (5, [.ref s0, .ref s1, .ref s2, .ref s3, .ref s4, .ref s5, .ref s6, .ref s7, .ref s8, .ref s9, .ref s10, .ref s11, .int (nI sn), .int (nI sl), .int (nI se)])))]) [(0, .ref L), (1, .int a), (2, .int bv)] 0 0 0 []
  refine j_aload_n h 0 rfl rfl dX11_areUnlikeEars_0 ?_
  refine jm_get h iw_X11 0 rfl rfl 2 (by decide +kernel) tw_477 rfl dX11_areUnlikeEars_1 ?_
  refine j_iload_n h 1 rfl rfl dX11_areUnlikeEars_4 ?_
  refine jm_callVi (np := 1) (isC := [1]) (isR := [0]) (wc := [(s, .inl (.inr (5, [.ref s0, .ref s1, .ref s2, .ref s3, .ref s4, .ref s5, .ref s6, .ref s7, .ref s8, .ref s9, .ref s10, .ref s11, .int (nI sn), .int (nI sl), .int (nI se)])))]) (wr := [(L, .inl (.inr (11, [.ref t, .ref rd, .ref s, .ref zz, .ref b, .ref bx, .ref tx, .ref so, .ref bd, .ref g, .ref gq, .ref v, .ref sk, .ref d, .ref fh, .ref sh, .ref ly, .int lsz, .int (nI tod)])))]) (rest := []) (As := [.int a]) (q0 := 0) h (s_X5_hasEar _ _ kA s a s0 s1 s2 s3 s4 s5 s6 s7 s8 s9 s10 s11 (nI sn) (nI sl) (nI se) ) tw_789 tw_790 tw_791 tw_90 tw_792 (by decide +kernel) rfl ⟨Nat.le_of_ble_eq_true rfl, Nat.le_of_ble_eq_true rfl⟩ rfl rfl (by decide +kernel) rfl rfl (by decide +kernel) (by decide +kernel) (Nat.le_of_ble_eq_true rfl) rfl ⟨Nat.le_of_ble_eq_true rfl, Nat.le_of_ble_eq_true rfl⟩ dX11_areUnlikeEars_5 ?_
  rintro r8567 _ e8566
  have p8568 := e8566
  subst p8568
  show J x (mflat [(L, .inl (.inr (11, [.ref t, .ref rd, .ref s, .ref zz, .ref b, .ref bx, .ref tx, .ref so, .ref bd, .ref g, .ref gq, .ref v, .ref sk, .ref d, .ref fh, .ref sh, .ref ly, .int lsz, .int (nI tod)]))), (s, .inl (.inr (5, [.ref s0, .ref s1, .ref s2, .ref s3, .ref s4, .ref s5, .ref s6, .ref s7, .ref s8, .ref s9, .ref s10, .ref s11, .int (nI sn), .int (nI sl), .int (nI se)])))]) [(0, .ref L), (1, .int a), (2, .int bv)] 0 0 8 [.int (bIx a (nI se))]
  rcases bIx_cases a se (by omega) with hTj8569 | ⟨j8569, hj8569, rfl, hBj8569⟩
  · refine j_top (b := 0) hTj8569 ?_
    show J x (mflat [(L, .inl (.inr (11, [.ref t, .ref rd, .ref s, .ref zz, .ref b, .ref bx, .ref tx, .ref so, .ref bd, .ref g, .ref gq, .ref v, .ref sk, .ref d, .ref fh, .ref sh, .ref ly, .int lsz, .int (nI tod)]))), (s, .inl (.inr (5, [.ref s0, .ref s1, .ref s2, .ref s3, .ref s4, .ref s5, .ref s6, .ref s7, .ref s8, .ref s9, .ref s10, .ref s11, .int (nI sn), .int (nI sl), .int (nI se)])))]) [(0, .ref L), (1, .int a), (2, .int bv)] 0 0 8 [.int 0]
    refine j_if_eq h 31 dX11_areUnlikeEars_8 (by decide) (fun _ => ?_) (fun q => absurd (by decide) q)
    refine j_iconst (v := 0) h (by decide) dX11_areUnlikeEars_31 ?_
    exact jm_zret h hq rfl dX11_areUnlikeEars_32 0 [0, 1] rfl (by decide) ⟨rfl, (show 0 ≤ 1 by first | assumption | omega)⟩ (Nat.le_of_ble_eq_true rfl) (Nat.le_of_ble_eq_true rfl)
  · refine j_top (b := 1) hBj8569 ?_
    show J x (mflat [(L, .inl (.inr (11, [.ref t, .ref rd, .ref s, .ref zz, .ref b, .ref bx, .ref tx, .ref so, .ref bd, .ref g, .ref gq, .ref v, .ref sk, .ref d, .ref fh, .ref sh, .ref ly, .int lsz, .int (nI tod)]))), (s, .inl (.inr (5, [.ref s0, .ref s1, .ref s2, .ref s3, .ref s4, .ref s5, .ref s6, .ref s7, .ref s8, .ref s9, .ref s10, .ref s11, .int (nI sn), .int (nI sl), .int (nI se)])))]) [(0, .ref L), (1, .int (nI j8569)), (2, .int bv)] 0 0 8 [.int 1]
    refine j_if_eq h 31 dX11_areUnlikeEars_8 (by decide) (fun q => absurd q (by decide)) (fun _ => ?_)
    refine j_aload_n h 0 rfl rfl dX11_areUnlikeEars_11 ?_
    refine jm_get h iw_X11 0 rfl rfl 2 (by decide +kernel) tw_477 rfl dX11_areUnlikeEars_12 ?_
    refine j_iload_n h 2 rfl rfl dX11_areUnlikeEars_15 ?_
    refine jm_callVi (np := 1) (isC := [1]) (isR := [0]) (wc := [(s, .inl (.inr (5, [.ref s0, .ref s1, .ref s2, .ref s3, .ref s4, .ref s5, .ref s6, .ref s7, .ref s8, .ref s9, .ref s10, .ref s11, .int (nI sn), .int (nI sl), .int (nI se)])))]) (wr := [(L, .inl (.inr (11, [.ref t, .ref rd, .ref s, .ref zz, .ref b, .ref bx, .ref tx, .ref so, .ref bd, .ref g, .ref gq, .ref v, .ref sk, .ref d, .ref fh, .ref sh, .ref ly, .int lsz, .int (nI tod)])))]) (rest := []) (As := [.int bv]) (q0 := 0) h (s_X5_hasEar _ _ kA s bv s0 s1 s2 s3 s4 s5 s6 s7 s8 s9 s10 s11 (nI sn) (nI sl) (nI se) ) tw_789 tw_790 tw_791 tw_90 tw_792 (by decide +kernel) rfl ⟨Nat.le_of_ble_eq_true rfl, Nat.le_of_ble_eq_true rfl⟩ rfl rfl (by decide +kernel) rfl rfl (by decide +kernel) (by decide +kernel) (Nat.le_of_ble_eq_true rfl) rfl ⟨Nat.le_of_ble_eq_true rfl, Nat.le_of_ble_eq_true rfl⟩ dX11_areUnlikeEars_16 ?_
    rintro r8571 _ e8570
    have p8572 := e8570
    subst p8572
    show J x (mflat [(L, .inl (.inr (11, [.ref t, .ref rd, .ref s, .ref zz, .ref b, .ref bx, .ref tx, .ref so, .ref bd, .ref g, .ref gq, .ref v, .ref sk, .ref d, .ref fh, .ref sh, .ref ly, .int lsz, .int (nI tod)]))), (s, .inl (.inr (5, [.ref s0, .ref s1, .ref s2, .ref s3, .ref s4, .ref s5, .ref s6, .ref s7, .ref s8, .ref s9, .ref s10, .ref s11, .int (nI sn), .int (nI sl), .int (nI se)])))]) [(0, .ref L), (1, .int (nI j8569)), (2, .int bv)] 0 0 19 [.int (bIx bv (nI se))]
    rcases bIx_cases bv se (by omega) with hTj8573 | ⟨j8573, hj8573, rfl, hBj8573⟩
    · refine j_top (b := 0) hTj8573 ?_
      show J x (mflat [(L, .inl (.inr (11, [.ref t, .ref rd, .ref s, .ref zz, .ref b, .ref bx, .ref tx, .ref so, .ref bd, .ref g, .ref gq, .ref v, .ref sk, .ref d, .ref fh, .ref sh, .ref ly, .int lsz, .int (nI tod)]))), (s, .inl (.inr (5, [.ref s0, .ref s1, .ref s2, .ref s3, .ref s4, .ref s5, .ref s6, .ref s7, .ref s8, .ref s9, .ref s10, .ref s11, .int (nI sn), .int (nI sl), .int (nI se)])))]) [(0, .ref L), (1, .int (nI j8569)), (2, .int bv)] 0 0 19 [.int 0]
      refine j_if_eq h 31 dX11_areUnlikeEars_19 (by decide) (fun _ => ?_) (fun q => absurd (by decide) q)
      refine j_iconst (v := 0) h (by decide) dX11_areUnlikeEars_31 ?_
      exact jm_zret h hq rfl dX11_areUnlikeEars_32 0 [0, 1] rfl (by decide) ⟨rfl, (show 0 ≤ 1 by first | assumption | omega)⟩ (Nat.le_of_ble_eq_true rfl) (Nat.le_of_ble_eq_true rfl)
    · refine j_top (b := 1) hBj8573 ?_
      show J x (mflat [(L, .inl (.inr (11, [.ref t, .ref rd, .ref s, .ref zz, .ref b, .ref bx, .ref tx, .ref so, .ref bd, .ref g, .ref gq, .ref v, .ref sk, .ref d, .ref fh, .ref sh, .ref ly, .int lsz, .int (nI tod)]))), (s, .inl (.inr (5, [.ref s0, .ref s1, .ref s2, .ref s3, .ref s4, .ref s5, .ref s6, .ref s7, .ref s8, .ref s9, .ref s10, .ref s11, .int (nI sn), .int (nI sl), .int (nI se)])))]) [(0, .ref L), (1, .int (nI j8569)), (2, .int (nI j8573))] 0 0 19 [.int 1]
      refine j_if_eq h 31 dX11_areUnlikeEars_19 (by decide) (fun q => absurd q (by decide)) (fun _ => ?_)
      refine j_iload_n h 1 rfl rfl dX11_areUnlikeEars_22 ?_
      refine j_iload_n h 2 rfl rfl dX11_areUnlikeEars_23 ?_
      refine j_icmp_eq h 31 dX11_areUnlikeEars_24 (by decide) (fun z8574 => ?_) (fun z8574 => ?_)
      · have z8574n : j8569 = j8573 := (nI_eq (a := j8569) (b := j8573) (by omega) (by omega)).mp z8574
        refine j_iconst (v := 0) h (by decide) dX11_areUnlikeEars_31 ?_
        exact jm_zret h hq rfl dX11_areUnlikeEars_32 0 [0, 1] rfl (by decide) ⟨rfl, (show 0 ≤ 1 by first | assumption | omega)⟩ (Nat.le_of_ble_eq_true rfl) (Nat.le_of_ble_eq_true rfl)
      · have z8574n : ¬ j8569 = j8573 := fun q9 => z8574 ((nI_eq (a := j8569) (b := j8573) (by omega) (by omega)).mpr q9)
        refine j_iconst (v := 1) h (by decide) dX11_areUnlikeEars_27 ?_
        refine j_goto h 32 dX11_areUnlikeEars_28 (by decide) ?_
        exact jm_zret h hq rfl dX11_areUnlikeEars_32 1 [0, 1] rfl (by decide) ⟨rfl, (show 1 ≤ 1 by first | assumption | omega)⟩ (Nat.le_of_ble_eq_true rfl) (Nat.le_of_ble_eq_true rfl)
set_option maxHeartbeats 4000000 in
set_option maxRecDepth 100000 in
theorem s_X11_end (lau : Launch) (gg : va_G) (kA : Nat → ClassId) (L : Nat) (n : Int32) (t : Nat) (rd : Nat) (s : Nat) (zz : Nat) (b : Nat) (bx : Nat) (tx : Nat) (so : Nat) (bd : Nat) (g : Nat) (gq : Nat) (v : Nat) (sk : Nat) (d : Nat) (fh : Nat) (sh : Nat) (ly : Nat) (lsz : Int32) (tod : Nat) (t0 : Nat) (tsz : Nat) (tkd : Int32) (tpl : Int32) (tbh : Int32) (twd : Int64) (tnu : Int32) (htsz : tsz ≤ 1600) (htod : tod ≤ 100000) : CtI lau yX11_end cX11_end 2 (some .int) 1 0 0 gg kA [.ref L, .int n] (mflat [(L, .inl (.inr (11, [.ref t, .ref rd, .ref s, .ref zz, .ref b, .ref bx, .ref tx, .ref so, .ref bd, .ref g, .ref gq, .ref v, .ref sk, .ref d, .ref fh, .ref sh, .ref ly, .int lsz, .int (nI tod)]))), (t, .inl (.inr (9, [.ref t0, .int (nI tsz), .int tkd, .int tpl, .int tbh, .long twd, .int tnu])))]) (S := Nat) (fun (r : Int32) (y_t_1 : Nat) => (r = endR tsz n) ∧ (y_t_1 = endS tsz n)) (fun (y_t_1 : Nat) => mflat [(L, .inl (.inr (11, [.ref t, .ref rd, .ref s, .ref zz, .ref b, .ref bx, .ref tx, .ref so, .ref bd, .ref g, .ref gq, .ref v, .ref sk, .ref d, .ref fh, .ref sh, .ref ly, .int lsz, .int (nI tod)]))), (t, .inl (.inr (9, [.ref t0, .int (nI y_t_1), .int tkd, .int tpl, .int tbh, .long twd, .int tnu])))]) := by
  refine nx_startI (by decide +kernel) (Nat.le_of_ble_eq_true rfl) ?_
  intro x hnm h hq
  have h : Ok x cX11_end RX11 kA (rmC 1 0 0) 2 := h
  show J x (mflat [(L, .inl (.inr (11, [.ref t, .ref rd, .ref s, .ref zz, .ref b, .ref bx, .ref tx, .ref so, .ref bd, .ref g, .ref gq, .ref v, .ref sk, .ref d, .ref fh, .ref sh, .ref ly, .int lsz, .int (nI tod)]))), (t, .inl (.inr (9, [.ref t0, .int (nI tsz), .int tkd, .int tpl, .int tbh, .long twd, .int tnu])))]) [(0, .ref L), (1, .int n)] 0 0 0 []
  refine j_iload_n h 1 rfl rfl dX11_end_0 ?_
  refine j_if_lt h 15 dX11_end_1 (by decide) (fun z8642 => ?_) (fun z8642 => ?_)
  · show J x (mflat [(L, .inl (.inr (11, [.ref t, .ref rd, .ref s, .ref zz, .ref b, .ref bx, .ref tx, .ref so, .ref bd, .ref g, .ref gq, .ref v, .ref sk, .ref d, .ref fh, .ref sh, .ref ly, .int lsz, .int (nI tod)]))), (t, .inl (.inr (9, [.ref t0, .int (nI tsz), .int tkd, .int tpl, .int tbh, .long twd, .int tnu])))]) [(0, .ref L), (1, .int n)] 0 0 15 []
    refine j_iconst (v := (-1)) h (by decide) dX11_end_15 ?_
    exact jm_iret h hq dX11_end_16 tsz [0, 1] rfl (by decide) ⟨(show (-1) = endR tsz n from (end_neg (by assumption)).2.symm), (show tsz = endS tsz n from (end_neg (by assumption)).1.symm)⟩ (Nat.le_of_ble_eq_true rfl) (Nat.le_of_ble_eq_true rfl)
  · obtain ⟨j8643, hj8643, rfl⟩ := nI_of z8642
    show J x (mflat [(L, .inl (.inr (11, [.ref t, .ref rd, .ref s, .ref zz, .ref b, .ref bx, .ref tx, .ref so, .ref bd, .ref g, .ref gq, .ref v, .ref sk, .ref d, .ref fh, .ref sh, .ref ly, .int lsz, .int (nI tod)]))), (t, .inl (.inr (9, [.ref t0, .int (nI tsz), .int tkd, .int tpl, .int tbh, .long twd, .int tnu])))]) [(0, .ref L), (1, .int (nI j8643))] 0 0 4 []
    refine j_iload_n h 1 rfl rfl dX11_end_4 ?_
    refine j_aload_n h 0 rfl rfl dX11_end_5 ?_
    refine jm_get h iw_X11 0 rfl rfl 0 (by decide +kernel) tw_475 rfl dX11_end_6 ?_
    refine jm_get h iw_X9 1 rfl rfl 1 (by decide +kernel) tw_123 rfl dX11_end_9 ?_
    refine j_icmp_le h 17 dX11_end_12 (by decide) (fun z8644 => ?_) (fun z8644 => ?_)
    · have z8644n : j8643 ≤ tsz := (nI_leI (a := j8643) (b := tsz) (by omega) (by omega)).mp z8644
      refine j_aload_n h 0 rfl rfl dX11_end_17 ?_
      refine jm_get h iw_X11 0 rfl rfl 0 (by decide +kernel) tw_475 rfl dX11_end_18 ?_
      refine j_iload_n h 1 rfl rfl dX11_end_21 ?_
      refine jm_put (w' := [(L, .inl (.inr (11, [.ref t, .ref rd, .ref s, .ref zz, .ref b, .ref bx, .ref tx, .ref so, .ref bd, .ref g, .ref gq, .ref v, .ref sk, .ref d, .ref fh, .ref sh, .ref ly, .int lsz, .int (nI tod)]))), (t, .inl (.inr (9, [.ref t0, .int (nI j8643), .int tkd, .int tpl, .int tbh, .long twd, .int tnu])))]) h iw_X9 tyX9 tyX9_ok nmX9 1 rfl rfl 1 (by decide +kernel) tw_123 rfl rfl rfl (Nat.le_of_ble_eq_true rfl) dX11_end_22 rfl ?_
      refine j_iload_n h 1 rfl rfl dX11_end_25 ?_
      exact jm_iret h hq dX11_end_26 j8643 [0, 1] rfl (by decide) ⟨(show (nI j8643) = endR tsz (nI j8643) from (end_ok (by omega) (by omega)).2.symm), (show j8643 = endS tsz (nI j8643) from (end_ok (by omega) (by omega)).1.symm)⟩ (Nat.le_of_ble_eq_true rfl) (Nat.le_of_ble_eq_true rfl)
    · have z8644n : ¬ j8643 ≤ tsz := fun q9 => z8644 ((nI_leI (a := j8643) (b := tsz) (by omega) (by omega)).mpr q9)
      refine j_iconst (v := (-1)) h (by decide) dX11_end_15 ?_
      exact jm_iret h hq dX11_end_16 tsz [0, 1] rfl (by decide) ⟨(show (-1) = endR tsz (nI j8643) from (end_big (by omega) (by omega)).2.symm), (show tsz = endS tsz (nI j8643) from (end_big (by omega) (by omega)).1.symm)⟩ (Nat.le_of_ble_eq_true rfl) (Nat.le_of_ble_eq_true rfl)
set_option maxHeartbeats 4000000 in
set_option maxRecDepth 100000 in
theorem s_X11_later (lau : Launch) (gg : va_G) (kA : Nat → ClassId) (L : Nat) (n : Int32) (t : Nat) (rd : Nat) (s : Nat) (zz : Nat) (b : Nat) (bx : Nat) (tx : Nat) (so : Nat) (bd : Nat) (g : Nat) (gq : Nat) (v : Nat) (sk : Nat) (d : Nat) (fh : Nat) (sh : Nat) (ly : Nat) (lsz : Int32) (tod : Nat) (htod : tod ≤ 100000) : CtI lau yX11_later cX11_later 2 (some .int) 1 0 0 gg kA [.ref L, .int n] (mflat [(L, .inl (.inr (11, [.ref t, .ref rd, .ref s, .ref zz, .ref b, .ref bx, .ref tx, .ref so, .ref bd, .ref g, .ref gq, .ref v, .ref sk, .ref d, .ref fh, .ref sh, .ref ly, .int lsz, .int (nI tod)])))]) (S := Nat) (fun (r : Int32) (y_L_18 : Nat) => (r = latR tod n) ∧ (y_L_18 = latS tod n)) (fun (y_L_18 : Nat) => mflat [(L, .inl (.inr (11, [.ref t, .ref rd, .ref s, .ref zz, .ref b, .ref bx, .ref tx, .ref so, .ref bd, .ref g, .ref gq, .ref v, .ref sk, .ref d, .ref fh, .ref sh, .ref ly, .int lsz, .int (nI y_L_18)])))]) := by
  refine nx_startI (by decide +kernel) (Nat.le_of_ble_eq_true rfl) ?_
  intro x hnm h hq
  have h : Ok x cX11_later RX11 kA (rmC 1 0 0) 2 := h
  show J x (mflat [(L, .inl (.inr (11, [.ref t, .ref rd, .ref s, .ref zz, .ref b, .ref bx, .ref tx, .ref so, .ref bd, .ref g, .ref gq, .ref v, .ref sk, .ref d, .ref fh, .ref sh, .ref ly, .int lsz, .int (nI tod)])))]) [(0, .ref L), (1, .int n)] 0 0 0 []
  refine j_iload_n h 1 rfl rfl dX11_later_0 ?_
  refine j_if_lt h 23 dX11_later_1 (by decide) (fun z8649 => ?_) (fun z8649 => ?_)
  · show J x (mflat [(L, .inl (.inr (11, [.ref t, .ref rd, .ref s, .ref zz, .ref b, .ref bx, .ref tx, .ref so, .ref bd, .ref g, .ref gq, .ref v, .ref sk, .ref d, .ref fh, .ref sh, .ref ly, .int lsz, .int (nI tod)])))]) [(0, .ref L), (1, .int n)] 0 0 23 []
    refine j_iconst (v := (-1)) h (by decide) dX11_later_23 ?_
    exact jm_iret h hq dX11_later_24 tod [0] rfl (by decide) ⟨(show (-1) = latR tod n from (lat_neg (by assumption)).2.symm), (show tod = latS tod n from (lat_neg (by assumption)).1.symm)⟩ (Nat.le_of_ble_eq_true rfl) (Nat.le_of_ble_eq_true rfl)
  · obtain ⟨j8650, hj8650, rfl⟩ := nI_of z8649
    show J x (mflat [(L, .inl (.inr (11, [.ref t, .ref rd, .ref s, .ref zz, .ref b, .ref bx, .ref tx, .ref so, .ref bd, .ref g, .ref gq, .ref v, .ref sk, .ref d, .ref fh, .ref sh, .ref ly, .int lsz, .int (nI tod)])))]) [(0, .ref L), (1, .int (nI j8650))] 0 0 4 []
    refine j_iload_n h 1 rfl rfl dX11_later_4 ?_
    refine j_sipush (v := 1000) h (by decide) dX11_later_5 ?_
    refine j_icmp_gt h 23 dX11_later_8 (by decide) (fun z8651 => ?_) (fun z8651 => ?_)
    · have z8651n : 1000 < j8650 := (nI_ltI (a := 1000) (b := j8650) (by omega) (by omega)).mp z8651
      refine j_iconst (v := (-1)) h (by decide) dX11_later_23 ?_
      exact jm_iret h hq dX11_later_24 tod [0] rfl (by decide) ⟨(show (-1) = latR tod (nI j8650) from (lat_big (by omega) (by omega)).2.symm), (show tod = latS tod (nI j8650) from (lat_big (by omega) (by omega)).1.symm)⟩ (Nat.le_of_ble_eq_true rfl) (Nat.le_of_ble_eq_true rfl)
    · have z8651n : ¬ 1000 < j8650 := fun q9 => z8651 ((nI_ltI (a := 1000) (b := j8650) (by omega) (by omega)).mpr q9)
      refine j_aload_n h 0 rfl rfl dX11_later_11 ?_
      refine jm_get h iw_X11 0 rfl rfl 18 (by decide +kernel) tw_493 rfl dX11_later_12 ?_
      refine j_iload_n h 1 rfl rfl dX11_later_15 ?_
      refine j_iadd h dX11_later_16 ?_
      refine j_top (b := nI (tod + j8650)) (nI_add tod j8650) ?_
      refine j_ldcw h tw_1089 dX11_later_17 ?_
      refine j_icmp_le h 25 dX11_later_20 (by decide) (fun z8652 => ?_) (fun z8652 => ?_)
      · have z8652n : (tod + j8650) ≤ 100000 := (nI_leI (a := (tod + j8650)) (b := 100000) (by omega) (by omega)).mp z8652
        refine j_aload_n h 0 rfl rfl dX11_later_25 ?_
        refine j_dup h rfl dX11_later_26 ?_
        refine jm_get h iw_X11 0 rfl rfl 18 (by decide +kernel) tw_493 rfl dX11_later_27 ?_
        refine j_iload_n h 1 rfl rfl dX11_later_30 ?_
        refine j_iadd h dX11_later_31 ?_
        refine j_top (b := nI (tod + j8650)) (nI_add tod j8650) ?_
        refine jm_put (w' := [(L, .inl (.inr (11, [.ref t, .ref rd, .ref s, .ref zz, .ref b, .ref bx, .ref tx, .ref so, .ref bd, .ref g, .ref gq, .ref v, .ref sk, .ref d, .ref fh, .ref sh, .ref ly, .int lsz, .int (nI (tod + j8650))])))]) h iw_X11 tyX11 tyX11_ok nmX11 0 rfl rfl 18 (by decide +kernel) tw_493 rfl rfl rfl (Nat.le_of_ble_eq_true rfl) dX11_later_32 rfl ?_
        refine j_aload_n h 0 rfl rfl dX11_later_35 ?_
        refine jm_get h iw_X11 0 rfl rfl 18 (by decide +kernel) tw_493 rfl dX11_later_36 ?_
        exact jm_iret h hq dX11_later_39 (tod + j8650) [0] rfl (by decide) ⟨(show (nI (tod + j8650)) = latR tod (nI j8650) from (lat_ok (by omega) (by omega) (by omega)).2.symm), (show (tod + j8650) = latS tod (nI j8650) from (lat_ok (by omega) (by omega) (by omega)).1.symm)⟩ (Nat.le_of_ble_eq_true rfl) (Nat.le_of_ble_eq_true rfl)
      · have z8652n : ¬ (tod + j8650) ≤ 100000 := fun q9 => z8652 ((nI_leI (a := (tod + j8650)) (b := 100000) (by omega) (by omega)).mpr q9)
        refine j_iconst (v := (-1)) h (by decide) dX11_later_23 ?_
        exact jm_iret h hq dX11_later_24 tod [0] rfl (by decide) ⟨(show (-1) = latR tod (nI j8650) from (lat_ovr (by omega) (by omega) (by omega)).2.symm), (show tod = latS tod (nI j8650) from (lat_ovr (by omega) (by omega) (by omega)).1.symm)⟩ (Nat.le_of_ble_eq_true rfl) (Nat.le_of_ble_eq_true rfl)
set_option maxHeartbeats 4000000 in
set_option maxRecDepth 100000 in
theorem s_X11_heard (lau : Launch) (gg : va_G) (kA : Nat → ClassId) (L : Nat) (er : Int32) (mo : Int32) (t : Nat) (rd : Nat) (s : Nat) (zz : Nat) (b : Nat) (bx : Nat) (tx : Nat) (so : Nat) (bd : Nat) (g : Nat) (gq : Nat) (v : Nat) (sk : Nat) (d : Nat) (fh : Nat) (sh : Nat) (ly : Nat) (lsz : Int32) (tod : Nat) (fhf : Nat → Int32) (s0 : Nat) (s1 : Nat) (s2 : Nat) (s3 : Nat) (s4 : Nat) (s5 : Nat) (s6 : Nat) (s7 : Nat) (s8 : Nat) (s9 : Nat) (s10 : Nat) (s11 : Nat) (sn : Nat) (sl : Nat) (se : Nat) (sc1 : Nat → Int32) (sc10 : Nat → Int32) (b0 : Nat) (b1 : Nat) (bsz : Nat) (btm : Nat) (bft : Nat) (bkp : Int32) (brow : Nat → Int32) (blo : Nat → Int32) (htod : tod ≤ 100000) (hsn : sn ≤ 6) (hsl : sl ≤ 10) (hse : se ≤ 4) (hstk : TkOk sn sc1) (hbsz : bsz ≤ 60) (hbtm : btm ≤ 60) (hbft : bft ≤ 1) (hbro : RoOk sn bsz brow) : CtI lau yX11_heard cX11_heard 3 (some .int) 4 0 0 gg kA [.ref L, .int er, .int mo] (mflat [(L, .inl (.inr (11, [.ref t, .ref rd, .ref s, .ref zz, .ref b, .ref bx, .ref tx, .ref so, .ref bd, .ref g, .ref gq, .ref v, .ref sk, .ref d, .ref fh, .ref sh, .ref ly, .int lsz, .int (nI tod)]))), (fh, .inl (.inl (kA 1, 60, .inl fhf))), (s, .inl (.inr (5, [.ref s0, .ref s1, .ref s2, .ref s3, .ref s4, .ref s5, .ref s6, .ref s7, .ref s8, .ref s9, .ref s10, .ref s11, .int (nI sn), .int (nI sl), .int (nI se)]))), (s1, .inl (.inl (kA 1, 6, .inl sc1))), (s10, .inl (.inl (kA 1, 4, .inl sc10))), (b, .inl (.inr (2, [.ref b0, .ref b1, .int (nI bsz), .int (nI btm), .int (nI bft), .int bkp]))), (b0, .inl (.inl (kA 1, 60, .inl brow))), (b1, .inl (.inl (kA 1, 6, .inl blo)))]) (S := (Nat → Int32)) (fun (r : Int32) (y_fh : (Nat → Int32)) => True) (fun (y_fh : (Nat → Int32)) => mflat [(L, .inl (.inr (11, [.ref t, .ref rd, .ref s, .ref zz, .ref b, .ref bx, .ref tx, .ref so, .ref bd, .ref g, .ref gq, .ref v, .ref sk, .ref d, .ref fh, .ref sh, .ref ly, .int lsz, .int (nI tod)]))), (fh, .inl (.inl (kA 1, 60, .inl y_fh))), (s, .inl (.inr (5, [.ref s0, .ref s1, .ref s2, .ref s3, .ref s4, .ref s5, .ref s6, .ref s7, .ref s8, .ref s9, .ref s10, .ref s11, .int (nI sn), .int (nI sl), .int (nI se)]))), (s1, .inl (.inl (kA 1, 6, .inl sc1))), (s10, .inl (.inl (kA 1, 4, .inl sc10))), (b, .inl (.inr (2, [.ref b0, .ref b1, .int (nI bsz), .int (nI btm), .int (nI bft), .int bkp]))), (b0, .inl (.inl (kA 1, 60, .inl brow))), (b1, .inl (.inl (kA 1, 6, .inl blo)))]) := by
  refine nx_startI (by decide +kernel) (Nat.le_of_ble_eq_true rfl) ?_
  intro x hnm h hq
  have h : Ok x cX11_heard RX11 kA (rmC 4 0 0) 3 := h
  show J x (mflat [(L, .inl (.inr (11, [.ref t, .ref rd, .ref s, .ref zz, .ref b, .ref bx, .ref tx, .ref so, .ref bd, .ref g, .ref gq, .ref v, .ref sk, .ref d, .ref fh, .ref sh, .ref ly, .int lsz, .int (nI tod)]))), (fh, .inl (.inl (kA 1, 60, .inl fhf))), (s, .inl (.inr (5, [.ref s0, .ref s1, .ref s2, .ref s3, .ref s4, .ref s5, .ref s6, .ref s7, .ref s8, .ref s9, .ref s10, .ref s11, .int (nI sn), .int (nI sl), .int (nI se)]))), (s1, .inl (.inl (kA 1, 6, .inl sc1))), (s10, .inl (.inl (kA 1, 4, .inl sc10))), (b, .inl (.inr (2, [.ref b0, .ref b1, .int (nI bsz), .int (nI btm), .int (nI bft), .int bkp]))), (b0, .inl (.inl (kA 1, 60, .inl brow))), (b1, .inl (.inl (kA 1, 6, .inl blo)))]) [(0, .ref L), (1, .int er), (2, .int mo)] 0 0 0 []
  refine j_aload_n h 0 rfl rfl dX11_heard_0 ?_
  refine jm_get h iw_X11 0 rfl rfl 2 (by decide +kernel) tw_477 rfl dX11_heard_1 ?_
  refine j_iload_n h 1 rfl rfl dX11_heard_4 ?_
  refine jm_callVi (np := 1) (isC := [2]) (isR := [0, 1, 3, 4, 5, 6, 7]) (wc := [(s, .inl (.inr (5, [.ref s0, .ref s1, .ref s2, .ref s3, .ref s4, .ref s5, .ref s6, .ref s7, .ref s8, .ref s9, .ref s10, .ref s11, .int (nI sn), .int (nI sl), .int (nI se)])))]) (wr := [(L, .inl (.inr (11, [.ref t, .ref rd, .ref s, .ref zz, .ref b, .ref bx, .ref tx, .ref so, .ref bd, .ref g, .ref gq, .ref v, .ref sk, .ref d, .ref fh, .ref sh, .ref ly, .int lsz, .int (nI tod)]))), (fh, .inl (.inl (kA 1, 60, .inl fhf))), (s1, .inl (.inl (kA 1, 6, .inl sc1))), (s10, .inl (.inl (kA 1, 4, .inl sc10))), (b, .inl (.inr (2, [.ref b0, .ref b1, .int (nI bsz), .int (nI btm), .int (nI bft), .int bkp]))), (b0, .inl (.inl (kA 1, 60, .inl brow))), (b1, .inl (.inl (kA 1, 6, .inl blo)))]) (rest := []) (As := [.int er]) (q0 := 0) h (s_X5_hasEar _ _ kA s er s0 s1 s2 s3 s4 s5 s6 s7 s8 s9 s10 s11 (nI sn) (nI sl) (nI se) ) tw_789 tw_790 tw_791 tw_90 tw_792 (by decide +kernel) rfl ⟨Nat.le_of_ble_eq_true rfl, Nat.le_of_ble_eq_true rfl⟩ rfl rfl (by decide +kernel) rfl rfl (by decide +kernel) (by decide +kernel) (Nat.le_of_ble_eq_true rfl) rfl ⟨Nat.le_of_ble_eq_true rfl, Nat.le_of_ble_eq_true rfl⟩ dX11_heard_5 ?_
  rintro r8766 _ e8765
  have p8767 := e8765
  subst p8767
  show J x (mflat [(L, .inl (.inr (11, [.ref t, .ref rd, .ref s, .ref zz, .ref b, .ref bx, .ref tx, .ref so, .ref bd, .ref g, .ref gq, .ref v, .ref sk, .ref d, .ref fh, .ref sh, .ref ly, .int lsz, .int (nI tod)]))), (fh, .inl (.inl (kA 1, 60, .inl fhf))), (s1, .inl (.inl (kA 1, 6, .inl sc1))), (s10, .inl (.inl (kA 1, 4, .inl sc10))), (b, .inl (.inr (2, [.ref b0, .ref b1, .int (nI bsz), .int (nI btm), .int (nI bft), .int bkp]))), (b0, .inl (.inl (kA 1, 60, .inl brow))), (b1, .inl (.inl (kA 1, 6, .inl blo))), (s, .inl (.inr (5, [.ref s0, .ref s1, .ref s2, .ref s3, .ref s4, .ref s5, .ref s6, .ref s7, .ref s8, .ref s9, .ref s10, .ref s11, .int (nI sn), .int (nI sl), .int (nI se)])))]) [(0, .ref L), (1, .int er), (2, .int mo)] 0 0 8 [.int (bIx er (nI se))]
  rcases bIx_cases er se (by omega) with hTj8768 | ⟨j8768, hj8768, rfl, hBj8768⟩
  · refine j_top (b := 0) hTj8768 ?_
    show J x (mflat [(L, .inl (.inr (11, [.ref t, .ref rd, .ref s, .ref zz, .ref b, .ref bx, .ref tx, .ref so, .ref bd, .ref g, .ref gq, .ref v, .ref sk, .ref d, .ref fh, .ref sh, .ref ly, .int lsz, .int (nI tod)]))), (fh, .inl (.inl (kA 1, 60, .inl fhf))), (s1, .inl (.inl (kA 1, 6, .inl sc1))), (s10, .inl (.inl (kA 1, 4, .inl sc10))), (b, .inl (.inr (2, [.ref b0, .ref b1, .int (nI bsz), .int (nI btm), .int (nI bft), .int bkp]))), (b0, .inl (.inl (kA 1, 60, .inl brow))), (b1, .inl (.inl (kA 1, 6, .inl blo))), (s, .inl (.inr (5, [.ref s0, .ref s1, .ref s2, .ref s3, .ref s4, .ref s5, .ref s6, .ref s7, .ref s8, .ref s9, .ref s10, .ref s11, .int (nI sn), .int (nI sl), .int (nI se)])))]) [(0, .ref L), (1, .int er), (2, .int mo)] 0 0 8 [.int 0]
    refine j_if_eq h 26 dX11_heard_8 (by decide) (fun _ => ?_) (fun q => absurd (by decide) q)
    refine j_iconst (v := (-1)) h (by decide) dX11_heard_26 ?_
    exact jm_iret h hq dX11_heard_27 fhf [0, 1, 7, 2, 3, 4, 5, 6] rfl (by decide) trivial (Nat.le_of_ble_eq_true rfl) (Nat.le_of_ble_eq_true rfl)
  · refine j_top (b := 1) hBj8768 ?_
    show J x (mflat [(L, .inl (.inr (11, [.ref t, .ref rd, .ref s, .ref zz, .ref b, .ref bx, .ref tx, .ref so, .ref bd, .ref g, .ref gq, .ref v, .ref sk, .ref d, .ref fh, .ref sh, .ref ly, .int lsz, .int (nI tod)]))), (fh, .inl (.inl (kA 1, 60, .inl fhf))), (s1, .inl (.inl (kA 1, 6, .inl sc1))), (s10, .inl (.inl (kA 1, 4, .inl sc10))), (b, .inl (.inr (2, [.ref b0, .ref b1, .int (nI bsz), .int (nI btm), .int (nI bft), .int bkp]))), (b0, .inl (.inl (kA 1, 60, .inl brow))), (b1, .inl (.inl (kA 1, 6, .inl blo))), (s, .inl (.inr (5, [.ref s0, .ref s1, .ref s2, .ref s3, .ref s4, .ref s5, .ref s6, .ref s7, .ref s8, .ref s9, .ref s10, .ref s11, .int (nI sn), .int (nI sl), .int (nI se)])))]) [(0, .ref L), (1, .int (nI j8768)), (2, .int mo)] 0 0 8 [.int 1]
    refine j_if_eq h 26 dX11_heard_8 (by decide) (fun q => absurd q (by decide)) (fun _ => ?_)
    refine j_iload_n h 2 rfl rfl dX11_heard_11 ?_
    refine j_if_lt h 26 dX11_heard_12 (by decide) (fun z8769 => ?_) (fun z8769 => ?_)
    · show J x (mflat [(L, .inl (.inr (11, [.ref t, .ref rd, .ref s, .ref zz, .ref b, .ref bx, .ref tx, .ref so, .ref bd, .ref g, .ref gq, .ref v, .ref sk, .ref d, .ref fh, .ref sh, .ref ly, .int lsz, .int (nI tod)]))), (fh, .inl (.inl (kA 1, 60, .inl fhf))), (s1, .inl (.inl (kA 1, 6, .inl sc1))), (s10, .inl (.inl (kA 1, 4, .inl sc10))), (b, .inl (.inr (2, [.ref b0, .ref b1, .int (nI bsz), .int (nI btm), .int (nI bft), .int bkp]))), (b0, .inl (.inl (kA 1, 60, .inl brow))), (b1, .inl (.inl (kA 1, 6, .inl blo))), (s, .inl (.inr (5, [.ref s0, .ref s1, .ref s2, .ref s3, .ref s4, .ref s5, .ref s6, .ref s7, .ref s8, .ref s9, .ref s10, .ref s11, .int (nI sn), .int (nI sl), .int (nI se)])))]) [(0, .ref L), (1, .int (nI j8768)), (2, .int mo)] 0 0 26 []
      refine j_iconst (v := (-1)) h (by decide) dX11_heard_26 ?_
      exact jm_iret h hq dX11_heard_27 fhf [0, 1, 7, 2, 3, 4, 5, 6] rfl (by decide) trivial (Nat.le_of_ble_eq_true rfl) (Nat.le_of_ble_eq_true rfl)
    · obtain ⟨j8770, hj8770, rfl⟩ := nI_of z8769
      show J x (mflat [(L, .inl (.inr (11, [.ref t, .ref rd, .ref s, .ref zz, .ref b, .ref bx, .ref tx, .ref so, .ref bd, .ref g, .ref gq, .ref v, .ref sk, .ref d, .ref fh, .ref sh, .ref ly, .int lsz, .int (nI tod)]))), (fh, .inl (.inl (kA 1, 60, .inl fhf))), (s1, .inl (.inl (kA 1, 6, .inl sc1))), (s10, .inl (.inl (kA 1, 4, .inl sc10))), (b, .inl (.inr (2, [.ref b0, .ref b1, .int (nI bsz), .int (nI btm), .int (nI bft), .int bkp]))), (b0, .inl (.inl (kA 1, 60, .inl brow))), (b1, .inl (.inl (kA 1, 6, .inl blo))), (s, .inl (.inr (5, [.ref s0, .ref s1, .ref s2, .ref s3, .ref s4, .ref s5, .ref s6, .ref s7, .ref s8, .ref s9, .ref s10, .ref s11, .int (nI sn), .int (nI sl), .int (nI se)])))]) [(0, .ref L), (1, .int (nI j8768)), (2, .int (nI j8770))] 0 0 15 []
      refine j_iload_n h 2 rfl rfl dX11_heard_15 ?_
      refine j_aload_n h 0 rfl rfl dX11_heard_16 ?_
      refine jm_get h iw_X11 0 rfl rfl 4 (by decide +kernel) tw_479 rfl dX11_heard_17 ?_
      refine jm_get h iw_X2 4 rfl rfl 3 (by decide +kernel) tw_277 rfl dX11_heard_20 ?_
      refine j_icmp_lt h 28 dX11_heard_23 (by decide) (fun z8771 => ?_) (fun z8771 => ?_)
      · have z8771n : j8770 < btm := (nI_ltI (a := j8770) (b := btm) (by omega) (by omega)).mp z8771
        refine j_aload_n h 0 rfl rfl dX11_heard_28 ?_
        refine jm_get h iw_X11 0 rfl rfl 4 (by decide +kernel) tw_479 rfl dX11_heard_29 ?_
        refine j_aload_n h 0 rfl rfl dX11_heard_32 ?_
        refine jm_get h iw_X11 0 rfl rfl 2 (by decide +kernel) tw_477 rfl dX11_heard_33 ?_
        refine j_iload_n h 1 rfl rfl dX11_heard_36 ?_
        refine j_aload_n h 0 rfl rfl dX11_heard_37 ?_
        refine jm_get h iw_X11 0 rfl rfl 14 (by decide +kernel) tw_489 rfl dX11_heard_38 ?_
        refine jm_callVv (np := 3) (isC := [4, 5, 6, 7, 2, 3, 1]) (isR := [0]) (wc := [(b, .inl (.inr (2, [.ref b0, .ref b1, .int (nI bsz), .int (nI btm), .int (nI bft), .int bkp]))), (b0, .inl (.inl (kA 1, 60, .inl brow))), (b1, .inl (.inl (kA 1, 6, .inl blo))), (s, .inl (.inr (5, [.ref s0, .ref s1, .ref s2, .ref s3, .ref s4, .ref s5, .ref s6, .ref s7, .ref s8, .ref s9, .ref s10, .ref s11, .int (nI sn), .int (nI sl), .int (nI se)]))), (s1, .inl (.inl (kA 1, 6, .inl sc1))), (s10, .inl (.inl (kA 1, 4, .inl sc10))), (fh, .inl (.inl (kA 1, 60, .inl fhf)))]) (wr := [(L, .inl (.inr (11, [.ref t, .ref rd, .ref s, .ref zz, .ref b, .ref bx, .ref tx, .ref so, .ref bd, .ref g, .ref gq, .ref v, .ref sk, .ref d, .ref fh, .ref sh, .ref ly, .int lsz, .int (nI tod)])))]) (rest := []) (As := [.ref s, .int (nI j8768), .ref fh]) (q0 := 0) h (s_X2_hearWalk _ _ kA b s (nI j8768) fh b0 b1 bsz btm bft bkp brow blo s0 s1 s2 s3 s4 s5 s6 s7 s8 s9 s10 s11 sn sl se sc1 sc10 fhf (show sn ≤ 6 by first | assumption | omega) (show sl ≤ 10 by first | assumption | omega) (show se ≤ 4 by first | assumption | omega) (show TkOk sn sc1 by first | assumption | (intro _; assumption) | omega) (show bsz ≤ 60 by first | assumption | omega) (show btm ≤ 60 by first | assumption | omega) (show bft ≤ 1 by first | assumption | omega) (show RoOk sn bsz brow by first | assumption | exact RoOk_mono (by assumption) (by omega) | exact RoOk_step (by assumption) (by omega) | exact RoOk_zero _ _ | (intro _; assumption) | omega)) tw_793 tw_794 tw_795 tw_91 tw_796 (by decide +kernel) rfl ⟨Nat.le_of_ble_eq_true rfl, Nat.le_of_ble_eq_true rfl⟩ rfl rfl (by decide +kernel) rfl rfl (by decide +kernel) (by decide +kernel) (Nat.le_of_ble_eq_true rfl) rfl ⟨Nat.le_of_ble_eq_true rfl, Nat.le_of_ble_eq_true rfl⟩ dX11_heard_41 ?_
        rintro q8772 e8773
        show J x (mflat [(L, .inl (.inr (11, [.ref t, .ref rd, .ref s, .ref zz, .ref b, .ref bx, .ref tx, .ref so, .ref bd, .ref g, .ref gq, .ref v, .ref sk, .ref d, .ref fh, .ref sh, .ref ly, .int lsz, .int (nI tod)]))), (b, .inl (.inr (2, [.ref b0, .ref b1, .int (nI bsz), .int (nI btm), .int (nI bft), .int bkp]))), (b0, .inl (.inl (kA 1, 60, .inl brow))), (b1, .inl (.inl (kA 1, 6, .inl blo))), (s, .inl (.inr (5, [.ref s0, .ref s1, .ref s2, .ref s3, .ref s4, .ref s5, .ref s6, .ref s7, .ref s8, .ref s9, .ref s10, .ref s11, .int (nI sn), .int (nI sl), .int (nI se)]))), (s1, .inl (.inl (kA 1, 6, .inl sc1))), (s10, .inl (.inl (kA 1, 4, .inl sc10))), (fh, .inl (.inl (kA 1, 60, .inl q8772)))]) [(0, .ref L), (1, .int (nI j8768)), (2, .int (nI j8770))] 0 0 44 []
        refine j_aload_n h 0 rfl rfl dX11_heard_44 ?_
        refine jm_get h iw_X11 0 rfl rfl 14 (by decide +kernel) tw_489 rfl dX11_heard_45 ?_
        refine j_iload_n h 2 rfl rfl dX11_heard_48 ?_
        refine jm_iald h 7 rfl j8770 rfl (by omega) (by omega) dX11_heard_49 ?_
        exact jm_iret h hq dX11_heard_50 q8772 [0, 7, 4, 5, 6, 1, 2, 3] rfl (by decide) trivial (Nat.le_of_ble_eq_true rfl) (Nat.le_of_ble_eq_true rfl)
      · have z8771n : ¬ j8770 < btm := fun q9 => z8771 ((nI_ltI (a := j8770) (b := btm) (by omega) (by omega)).mpr q9)
        refine j_iconst (v := (-1)) h (by decide) dX11_heard_26 ?_
        exact jm_iret h hq dX11_heard_27 fhf [0, 1, 7, 2, 3, 4, 5, 6] rfl (by decide) trivial (Nat.le_of_ble_eq_true rfl) (Nat.le_of_ble_eq_true rfl)
set_option maxHeartbeats 4000000 in
set_option maxRecDepth 100000 in
theorem s_X11_stuck (lau : Launch) (gg : va_G) (kA : Nat → ClassId) (L : Nat) (er : Int32) (t : Nat) (rd : Nat) (s : Nat) (zz : Nat) (b : Nat) (bx : Nat) (tx : Nat) (so : Nat) (bd : Nat) (g : Nat) (gq : Nat) (v : Nat) (sk : Nat) (d : Nat) (fh : Nat) (sh : Nat) (ly : Nat) (lsz : Int32) (tod : Nat) (fhf : Nat → Int32) (s0 : Nat) (s1 : Nat) (s2 : Nat) (s3 : Nat) (s4 : Nat) (s5 : Nat) (s6 : Nat) (s7 : Nat) (s8 : Nat) (s9 : Nat) (s10 : Nat) (s11 : Nat) (sn : Nat) (sl : Nat) (se : Nat) (sc1 : Nat → Int32) (sc5 : Nat → Int32) (sc6 : Nat → Nat → Int32) (sc7 : Nat → Int32) (sc8 : Nat → Nat → Int32) (sc10 : Nat → Int32) (sc11 : Nat → Int32) (b0 : Nat) (b1 : Nat) (bsz : Nat) (btm : Nat) (bft : Nat) (bkp : Int32) (brow : Nat → Int32) (blo : Nat → Int32) (v0 : Nat) (v1 : Nat) (v2 : Nat) (v3 : Nat) (vbk : Int32) (vls : Nat → Nat → Int32) (vss : Nat → Int32) (vrd : Nat → Int64) (htod : tod ≤ 100000) (hsn : sn ≤ 6) (hsl : sl ≤ 10) (hse : se ≤ 4) (hstk : TkOk sn sc1) (hssz : SzOk sl sc5) (hsrw : RwOk sl sn sc5 sc6) (hslt : LtOk sl sc7) (hsla : FtOk sl sc8) (hsls : LsOk sl sc5 sc6 sc1 sc7) (hbsz : bsz ≤ 60) (hbtm : btm ≤ 60) (hbft : bft ≤ 1) (hbro : RoOk sn bsz brow) : CtI lau yX11_stuck cX11_stuck 2 (some .int) 5 0 0 gg kA [.ref L, .int er] (mflat [(L, .inl (.inr (11, [.ref t, .ref rd, .ref s, .ref zz, .ref b, .ref bx, .ref tx, .ref so, .ref bd, .ref g, .ref gq, .ref v, .ref sk, .ref d, .ref fh, .ref sh, .ref ly, .int lsz, .int (nI tod)]))), (fh, .inl (.inl (kA 1, 60, .inl fhf))), (s, .inl (.inr (5, [.ref s0, .ref s1, .ref s2, .ref s3, .ref s4, .ref s5, .ref s6, .ref s7, .ref s8, .ref s9, .ref s10, .ref s11, .int (nI sn), .int (nI sl), .int (nI se)]))), (s1, .inl (.inl (kA 1, 6, .inl sc1))), (s5, .inl (.inl (kA 1, 10, .inl sc5))), (s6, .inr (kA 6, kA 1, 10, 5, .inl sc6)), (s7, .inl (.inl (kA 1, 10, .inl sc7))), (s8, .inr (kA 6, kA 1, 10, 2, .inl sc8)), (s10, .inl (.inl (kA 1, 4, .inl sc10))), (s11, .inl (.inl (kA 1, 4, .inl sc11))), (b, .inl (.inr (2, [.ref b0, .ref b1, .int (nI bsz), .int (nI btm), .int (nI bft), .int bkp]))), (b0, .inl (.inl (kA 1, 60, .inl brow))), (b1, .inl (.inl (kA 1, 6, .inl blo))), (v, .inl (.inr (4, [.ref v0, .ref v1, .ref v2, .ref v3, .int vbk]))), (v0, .inr (kA 6, kA 1, 10, 45, .inl vls)), (v1, .inl (.inl (kA 1, 6, .inl vss))), (v3, .inl (.inl (kA 2, 2, .inr (.inl vrd))))]) (S := (Nat → Int32) × Int32 × (Nat → Nat → Int32) × (Nat → Int32) × (Nat → Int64)) (fun (r : Int32) ((y_fh, y_v_4, y_v0, y_v1, y_v3) : (Nat → Int32) × Int32 × (Nat → Nat → Int32) × (Nat → Int32) × (Nat → Int64)) => True) (fun ((y_fh, y_v_4, y_v0, y_v1, y_v3) : (Nat → Int32) × Int32 × (Nat → Nat → Int32) × (Nat → Int32) × (Nat → Int64)) => mflat [(L, .inl (.inr (11, [.ref t, .ref rd, .ref s, .ref zz, .ref b, .ref bx, .ref tx, .ref so, .ref bd, .ref g, .ref gq, .ref v, .ref sk, .ref d, .ref fh, .ref sh, .ref ly, .int lsz, .int (nI tod)]))), (fh, .inl (.inl (kA 1, 60, .inl y_fh))), (s, .inl (.inr (5, [.ref s0, .ref s1, .ref s2, .ref s3, .ref s4, .ref s5, .ref s6, .ref s7, .ref s8, .ref s9, .ref s10, .ref s11, .int (nI sn), .int (nI sl), .int (nI se)]))), (s1, .inl (.inl (kA 1, 6, .inl sc1))), (s5, .inl (.inl (kA 1, 10, .inl sc5))), (s6, .inr (kA 6, kA 1, 10, 5, .inl sc6)), (s7, .inl (.inl (kA 1, 10, .inl sc7))), (s8, .inr (kA 6, kA 1, 10, 2, .inl sc8)), (s10, .inl (.inl (kA 1, 4, .inl sc10))), (s11, .inl (.inl (kA 1, 4, .inl sc11))), (b, .inl (.inr (2, [.ref b0, .ref b1, .int (nI bsz), .int (nI btm), .int (nI bft), .int bkp]))), (b0, .inl (.inl (kA 1, 60, .inl brow))), (b1, .inl (.inl (kA 1, 6, .inl blo))), (v, .inl (.inr (4, [.ref v0, .ref v1, .ref v2, .ref v3, .int y_v_4]))), (v0, .inr (kA 6, kA 1, 10, 45, .inl y_v0)), (v1, .inl (.inl (kA 1, 6, .inl y_v1))), (v3, .inl (.inl (kA 2, 2, .inr (.inl y_v3))))]) := by
  refine nx_startI (by decide +kernel) (Nat.le_of_ble_eq_true rfl) ?_
  intro x hnm h hq
  have h : Ok x cX11_stuck RX11 kA (rmC 5 0 0) 2 := h
  show J x (mflat [(L, .inl (.inr (11, [.ref t, .ref rd, .ref s, .ref zz, .ref b, .ref bx, .ref tx, .ref so, .ref bd, .ref g, .ref gq, .ref v, .ref sk, .ref d, .ref fh, .ref sh, .ref ly, .int lsz, .int (nI tod)]))), (fh, .inl (.inl (kA 1, 60, .inl fhf))), (s, .inl (.inr (5, [.ref s0, .ref s1, .ref s2, .ref s3, .ref s4, .ref s5, .ref s6, .ref s7, .ref s8, .ref s9, .ref s10, .ref s11, .int (nI sn), .int (nI sl), .int (nI se)]))), (s1, .inl (.inl (kA 1, 6, .inl sc1))), (s5, .inl (.inl (kA 1, 10, .inl sc5))), (s6, .inr (kA 6, kA 1, 10, 5, .inl sc6)), (s7, .inl (.inl (kA 1, 10, .inl sc7))), (s8, .inr (kA 6, kA 1, 10, 2, .inl sc8)), (s10, .inl (.inl (kA 1, 4, .inl sc10))), (s11, .inl (.inl (kA 1, 4, .inl sc11))), (b, .inl (.inr (2, [.ref b0, .ref b1, .int (nI bsz), .int (nI btm), .int (nI bft), .int bkp]))), (b0, .inl (.inl (kA 1, 60, .inl brow))), (b1, .inl (.inl (kA 1, 6, .inl blo))), (v, .inl (.inr (4, [.ref v0, .ref v1, .ref v2, .ref v3, .int vbk]))), (v0, .inr (kA 6, kA 1, 10, 45, .inl vls)), (v1, .inl (.inl (kA 1, 6, .inl vss))), (v3, .inl (.inl (kA 2, 2, .inr (.inl vrd))))]) [(0, .ref L), (1, .int er)] 0 0 0 []
  refine j_aload_n h 0 rfl rfl dX11_stuck_0 ?_
  refine jm_get h iw_X11 0 rfl rfl 2 (by decide +kernel) tw_477 rfl dX11_stuck_1 ?_
  refine j_iload_n h 1 rfl rfl dX11_stuck_4 ?_
  refine jm_callVi (np := 1) (isC := [2]) (isR := [0, 1, 3, 4, 5, 6, 7, 8, 9, 10, 11, 12, 13, 14, 15, 16]) (wc := [(s, .inl (.inr (5, [.ref s0, .ref s1, .ref s2, .ref s3, .ref s4, .ref s5, .ref s6, .ref s7, .ref s8, .ref s9, .ref s10, .ref s11, .int (nI sn), .int (nI sl), .int (nI se)])))]) (wr := [(L, .inl (.inr (11, [.ref t, .ref rd, .ref s, .ref zz, .ref b, .ref bx, .ref tx, .ref so, .ref bd, .ref g, .ref gq, .ref v, .ref sk, .ref d, .ref fh, .ref sh, .ref ly, .int lsz, .int (nI tod)]))), (fh, .inl (.inl (kA 1, 60, .inl fhf))), (s1, .inl (.inl (kA 1, 6, .inl sc1))), (s5, .inl (.inl (kA 1, 10, .inl sc5))), (s6, .inr (kA 6, kA 1, 10, 5, .inl sc6)), (s7, .inl (.inl (kA 1, 10, .inl sc7))), (s8, .inr (kA 6, kA 1, 10, 2, .inl sc8)), (s10, .inl (.inl (kA 1, 4, .inl sc10))), (s11, .inl (.inl (kA 1, 4, .inl sc11))), (b, .inl (.inr (2, [.ref b0, .ref b1, .int (nI bsz), .int (nI btm), .int (nI bft), .int bkp]))), (b0, .inl (.inl (kA 1, 60, .inl brow))), (b1, .inl (.inl (kA 1, 6, .inl blo))), (v, .inl (.inr (4, [.ref v0, .ref v1, .ref v2, .ref v3, .int vbk]))), (v0, .inr (kA 6, kA 1, 10, 45, .inl vls)), (v1, .inl (.inl (kA 1, 6, .inl vss))), (v3, .inl (.inl (kA 2, 2, .inr (.inl vrd))))]) (rest := []) (As := [.int er]) (q0 := 0) h (s_X5_hasEar _ _ kA s er s0 s1 s2 s3 s4 s5 s6 s7 s8 s9 s10 s11 (nI sn) (nI sl) (nI se) ) tw_789 tw_790 tw_791 tw_90 tw_792 (by decide +kernel) rfl ⟨Nat.le_of_ble_eq_true rfl, Nat.le_of_ble_eq_true rfl⟩ rfl rfl (by decide +kernel) rfl rfl (by decide +kernel) (by decide +kernel) (Nat.le_of_ble_eq_true rfl) rfl ⟨Nat.le_of_ble_eq_true rfl, Nat.le_of_ble_eq_true rfl⟩ dX11_stuck_5 ?_
  rintro r8792 _ e8791
  have p8793 := e8791
  subst p8793
  show J x (mflat [(L, .inl (.inr (11, [.ref t, .ref rd, .ref s, .ref zz, .ref b, .ref bx, .ref tx, .ref so, .ref bd, .ref g, .ref gq, .ref v, .ref sk, .ref d, .ref fh, .ref sh, .ref ly, .int lsz, .int (nI tod)]))), (fh, .inl (.inl (kA 1, 60, .inl fhf))), (s1, .inl (.inl (kA 1, 6, .inl sc1))), (s5, .inl (.inl (kA 1, 10, .inl sc5))), (s6, .inr (kA 6, kA 1, 10, 5, .inl sc6)), (s7, .inl (.inl (kA 1, 10, .inl sc7))), (s8, .inr (kA 6, kA 1, 10, 2, .inl sc8)), (s10, .inl (.inl (kA 1, 4, .inl sc10))), (s11, .inl (.inl (kA 1, 4, .inl sc11))), (b, .inl (.inr (2, [.ref b0, .ref b1, .int (nI bsz), .int (nI btm), .int (nI bft), .int bkp]))), (b0, .inl (.inl (kA 1, 60, .inl brow))), (b1, .inl (.inl (kA 1, 6, .inl blo))), (v, .inl (.inr (4, [.ref v0, .ref v1, .ref v2, .ref v3, .int vbk]))), (v0, .inr (kA 6, kA 1, 10, 45, .inl vls)), (v1, .inl (.inl (kA 1, 6, .inl vss))), (v3, .inl (.inl (kA 2, 2, .inr (.inl vrd)))), (s, .inl (.inr (5, [.ref s0, .ref s1, .ref s2, .ref s3, .ref s4, .ref s5, .ref s6, .ref s7, .ref s8, .ref s9, .ref s10, .ref s11, .int (nI sn), .int (nI sl), .int (nI se)])))]) [(0, .ref L), (1, .int er)] 0 0 8 [.int (bIx er (nI se))]
  rcases bIx_cases er se (by omega) with hTj8794 | ⟨j8794, hj8794, rfl, hBj8794⟩
  · refine j_top (b := 0) hTj8794 ?_
    show J x (mflat [(L, .inl (.inr (11, [.ref t, .ref rd, .ref s, .ref zz, .ref b, .ref bx, .ref tx, .ref so, .ref bd, .ref g, .ref gq, .ref v, .ref sk, .ref d, .ref fh, .ref sh, .ref ly, .int lsz, .int (nI tod)]))), (fh, .inl (.inl (kA 1, 60, .inl fhf))), (s1, .inl (.inl (kA 1, 6, .inl sc1))), (s5, .inl (.inl (kA 1, 10, .inl sc5))), (s6, .inr (kA 6, kA 1, 10, 5, .inl sc6)), (s7, .inl (.inl (kA 1, 10, .inl sc7))), (s8, .inr (kA 6, kA 1, 10, 2, .inl sc8)), (s10, .inl (.inl (kA 1, 4, .inl sc10))), (s11, .inl (.inl (kA 1, 4, .inl sc11))), (b, .inl (.inr (2, [.ref b0, .ref b1, .int (nI bsz), .int (nI btm), .int (nI bft), .int bkp]))), (b0, .inl (.inl (kA 1, 60, .inl brow))), (b1, .inl (.inl (kA 1, 6, .inl blo))), (v, .inl (.inr (4, [.ref v0, .ref v1, .ref v2, .ref v3, .int vbk]))), (v0, .inr (kA 6, kA 1, 10, 45, .inl vls)), (v1, .inl (.inl (kA 1, 6, .inl vss))), (v3, .inl (.inl (kA 2, 2, .inr (.inl vrd)))), (s, .inl (.inr (5, [.ref s0, .ref s1, .ref s2, .ref s3, .ref s4, .ref s5, .ref s6, .ref s7, .ref s8, .ref s9, .ref s10, .ref s11, .int (nI sn), .int (nI sl), .int (nI se)])))]) [(0, .ref L), (1, .int er)] 0 0 8 [.int 0]
    refine j_if_ne h 14 dX11_stuck_8 (by decide) (fun q => absurd (by decide) q) (fun _ => ?_)
    refine j_bipush (v := (-2)) h (by decide) dX11_stuck_11 ?_
    exact jm_iret h hq dX11_stuck_13 (fhf, vbk, vls, vss, vrd) [0, 1, 16, 2, 3, 4, 5, 6, 7, 8, 9, 10, 11, 12, 13, 14, 15] rfl (by decide) trivial (Nat.le_of_ble_eq_true rfl) (Nat.le_of_ble_eq_true rfl)
  · refine j_top (b := 1) hBj8794 ?_
    show J x (mflat [(L, .inl (.inr (11, [.ref t, .ref rd, .ref s, .ref zz, .ref b, .ref bx, .ref tx, .ref so, .ref bd, .ref g, .ref gq, .ref v, .ref sk, .ref d, .ref fh, .ref sh, .ref ly, .int lsz, .int (nI tod)]))), (fh, .inl (.inl (kA 1, 60, .inl fhf))), (s1, .inl (.inl (kA 1, 6, .inl sc1))), (s5, .inl (.inl (kA 1, 10, .inl sc5))), (s6, .inr (kA 6, kA 1, 10, 5, .inl sc6)), (s7, .inl (.inl (kA 1, 10, .inl sc7))), (s8, .inr (kA 6, kA 1, 10, 2, .inl sc8)), (s10, .inl (.inl (kA 1, 4, .inl sc10))), (s11, .inl (.inl (kA 1, 4, .inl sc11))), (b, .inl (.inr (2, [.ref b0, .ref b1, .int (nI bsz), .int (nI btm), .int (nI bft), .int bkp]))), (b0, .inl (.inl (kA 1, 60, .inl brow))), (b1, .inl (.inl (kA 1, 6, .inl blo))), (v, .inl (.inr (4, [.ref v0, .ref v1, .ref v2, .ref v3, .int vbk]))), (v0, .inr (kA 6, kA 1, 10, 45, .inl vls)), (v1, .inl (.inl (kA 1, 6, .inl vss))), (v3, .inl (.inl (kA 2, 2, .inr (.inl vrd)))), (s, .inl (.inr (5, [.ref s0, .ref s1, .ref s2, .ref s3, .ref s4, .ref s5, .ref s6, .ref s7, .ref s8, .ref s9, .ref s10, .ref s11, .int (nI sn), .int (nI sl), .int (nI se)])))]) [(0, .ref L), (1, .int (nI j8794))] 0 0 8 [.int 1]
    refine j_if_ne h 14 dX11_stuck_8 (by decide) (fun _ => ?_) (fun q => absurd q (by decide))
    refine j_aload_n h 0 rfl rfl dX11_stuck_14 ?_
    refine jm_get h iw_X11 0 rfl rfl 4 (by decide +kernel) tw_479 rfl dX11_stuck_15 ?_
    refine j_aload_n h 0 rfl rfl dX11_stuck_18 ?_
    refine jm_get h iw_X11 0 rfl rfl 2 (by decide +kernel) tw_477 rfl dX11_stuck_19 ?_
    refine j_iload_n h 1 rfl rfl dX11_stuck_22 ?_
    refine j_aload_n h 0 rfl rfl dX11_stuck_23 ?_
    refine jm_get h iw_X11 0 rfl rfl 14 (by decide +kernel) tw_489 rfl dX11_stuck_24 ?_
    refine jm_callVv (np := 3) (isC := [9, 10, 11, 16, 2, 7, 1]) (isR := [0, 3, 4, 5, 6, 8, 12, 13, 14, 15]) (wc := [(b, .inl (.inr (2, [.ref b0, .ref b1, .int (nI bsz), .int (nI btm), .int (nI bft), .int bkp]))), (b0, .inl (.inl (kA 1, 60, .inl brow))), (b1, .inl (.inl (kA 1, 6, .inl blo))), (s, .inl (.inr (5, [.ref s0, .ref s1, .ref s2, .ref s3, .ref s4, .ref s5, .ref s6, .ref s7, .ref s8, .ref s9, .ref s10, .ref s11, .int (nI sn), .int (nI sl), .int (nI se)]))), (s1, .inl (.inl (kA 1, 6, .inl sc1))), (s10, .inl (.inl (kA 1, 4, .inl sc10))), (fh, .inl (.inl (kA 1, 60, .inl fhf)))]) (wr := [(L, .inl (.inr (11, [.ref t, .ref rd, .ref s, .ref zz, .ref b, .ref bx, .ref tx, .ref so, .ref bd, .ref g, .ref gq, .ref v, .ref sk, .ref d, .ref fh, .ref sh, .ref ly, .int lsz, .int (nI tod)]))), (s5, .inl (.inl (kA 1, 10, .inl sc5))), (s6, .inr (kA 6, kA 1, 10, 5, .inl sc6)), (s7, .inl (.inl (kA 1, 10, .inl sc7))), (s8, .inr (kA 6, kA 1, 10, 2, .inl sc8)), (s11, .inl (.inl (kA 1, 4, .inl sc11))), (v, .inl (.inr (4, [.ref v0, .ref v1, .ref v2, .ref v3, .int vbk]))), (v0, .inr (kA 6, kA 1, 10, 45, .inl vls)), (v1, .inl (.inl (kA 1, 6, .inl vss))), (v3, .inl (.inl (kA 2, 2, .inr (.inl vrd))))]) (rest := []) (As := [.ref s, .int (nI j8794), .ref fh]) (q0 := 0) h (s_X2_hearWalk _ _ kA b s (nI j8794) fh b0 b1 bsz btm bft bkp brow blo s0 s1 s2 s3 s4 s5 s6 s7 s8 s9 s10 s11 sn sl se sc1 sc10 fhf (show sn ≤ 6 by first | assumption | omega) (show sl ≤ 10 by first | assumption | omega) (show se ≤ 4 by first | assumption | omega) (show TkOk sn sc1 by first | assumption | (intro _; assumption) | omega) (show bsz ≤ 60 by first | assumption | omega) (show btm ≤ 60 by first | assumption | omega) (show bft ≤ 1 by first | assumption | omega) (show RoOk sn bsz brow by first | assumption | exact RoOk_mono (by assumption) (by omega) | exact RoOk_step (by assumption) (by omega) | exact RoOk_zero _ _ | (intro _; assumption) | omega)) tw_793 tw_794 tw_795 tw_91 tw_796 (by decide +kernel) rfl ⟨Nat.le_of_ble_eq_true rfl, Nat.le_of_ble_eq_true rfl⟩ rfl rfl (by decide +kernel) rfl rfl (by decide +kernel) (by decide +kernel) (Nat.le_of_ble_eq_true rfl) rfl ⟨Nat.le_of_ble_eq_true rfl, Nat.le_of_ble_eq_true rfl⟩ dX11_stuck_27 ?_
    rintro q8795 e8796
    show J x (mflat [(L, .inl (.inr (11, [.ref t, .ref rd, .ref s, .ref zz, .ref b, .ref bx, .ref tx, .ref so, .ref bd, .ref g, .ref gq, .ref v, .ref sk, .ref d, .ref fh, .ref sh, .ref ly, .int lsz, .int (nI tod)]))), (s5, .inl (.inl (kA 1, 10, .inl sc5))), (s6, .inr (kA 6, kA 1, 10, 5, .inl sc6)), (s7, .inl (.inl (kA 1, 10, .inl sc7))), (s8, .inr (kA 6, kA 1, 10, 2, .inl sc8)), (s11, .inl (.inl (kA 1, 4, .inl sc11))), (v, .inl (.inr (4, [.ref v0, .ref v1, .ref v2, .ref v3, .int vbk]))), (v0, .inr (kA 6, kA 1, 10, 45, .inl vls)), (v1, .inl (.inl (kA 1, 6, .inl vss))), (v3, .inl (.inl (kA 2, 2, .inr (.inl vrd)))), (b, .inl (.inr (2, [.ref b0, .ref b1, .int (nI bsz), .int (nI btm), .int (nI bft), .int bkp]))), (b0, .inl (.inl (kA 1, 60, .inl brow))), (b1, .inl (.inl (kA 1, 6, .inl blo))), (s, .inl (.inr (5, [.ref s0, .ref s1, .ref s2, .ref s3, .ref s4, .ref s5, .ref s6, .ref s7, .ref s8, .ref s9, .ref s10, .ref s11, .int (nI sn), .int (nI sl), .int (nI se)]))), (s1, .inl (.inl (kA 1, 6, .inl sc1))), (s10, .inl (.inl (kA 1, 4, .inl sc10))), (fh, .inl (.inl (kA 1, 60, .inl q8795)))]) [(0, .ref L), (1, .int (nI j8794))] 0 0 30 []
    refine j_aload_n h 0 rfl rfl dX11_stuck_30 ?_
    refine jm_get h iw_X11 0 rfl rfl 11 (by decide +kernel) tw_486 rfl dX11_stuck_31 ?_
    refine j_aload_n h 0 rfl rfl dX11_stuck_34 ?_
    refine jm_get h iw_X11 0 rfl rfl 2 (by decide +kernel) tw_477 rfl dX11_stuck_35 ?_
    refine j_aload_n h 0 rfl rfl dX11_stuck_38 ?_
    refine jm_get h iw_X11 0 rfl rfl 4 (by decide +kernel) tw_479 rfl dX11_stuck_39 ?_
    refine jm_get h iw_X2 10 rfl rfl 1 (by decide +kernel) tw_273 rfl dX11_stuck_42 ?_
    refine j_iload_n h 1 rfl rfl dX11_stuck_45 ?_
    refine jm_callVv (np := 3) (isC := [6, 7, 8, 9, 13, 14, 1, 2, 15, 5, 12]) (isR := [0, 3, 4, 10, 11, 16]) (wc := [(v, .inl (.inr (4, [.ref v0, .ref v1, .ref v2, .ref v3, .int vbk]))), (v0, .inr (kA 6, kA 1, 10, 45, .inl vls)), (v1, .inl (.inl (kA 1, 6, .inl vss))), (v3, .inl (.inl (kA 2, 2, .inr (.inl vrd)))), (s, .inl (.inr (5, [.ref s0, .ref s1, .ref s2, .ref s3, .ref s4, .ref s5, .ref s6, .ref s7, .ref s8, .ref s9, .ref s10, .ref s11, .int (nI sn), .int (nI sl), .int (nI se)]))), (s1, .inl (.inl (kA 1, 6, .inl sc1))), (s5, .inl (.inl (kA 1, 10, .inl sc5))), (s6, .inr (kA 6, kA 1, 10, 5, .inl sc6)), (s10, .inl (.inl (kA 1, 4, .inl sc10))), (s11, .inl (.inl (kA 1, 4, .inl sc11))), (b1, .inl (.inl (kA 1, 6, .inl blo)))]) (wr := [(L, .inl (.inr (11, [.ref t, .ref rd, .ref s, .ref zz, .ref b, .ref bx, .ref tx, .ref so, .ref bd, .ref g, .ref gq, .ref v, .ref sk, .ref d, .ref fh, .ref sh, .ref ly, .int lsz, .int (nI tod)]))), (s7, .inl (.inl (kA 1, 10, .inl sc7))), (s8, .inr (kA 6, kA 1, 10, 2, .inl sc8)), (b, .inl (.inr (2, [.ref b0, .ref b1, .int (nI bsz), .int (nI btm), .int (nI bft), .int bkp]))), (b0, .inl (.inl (kA 1, 60, .inl brow))), (fh, .inl (.inl (kA 1, 60, .inl q8795)))]) (rest := []) (As := [.ref s, .ref b1, .int (nI j8794)]) (q0 := 0) h (s_X4_learn _ _ kA v s b1 (nI j8794) v0 v1 v2 v3 vbk vls vss vrd s0 s1 s2 s3 s4 s5 s6 s7 s8 s9 s10 s11 sn sl se sc1 sc5 sc6 sc10 sc11 blo (show sn ≤ 6 by first | assumption | omega) (show sl ≤ 10 by first | assumption | omega) (show se ≤ 4 by first | assumption | omega) (show TkOk sn sc1 by first | assumption | (intro _; assumption) | omega) (show SzOk sl sc5 by first | assumption | (intro _; assumption) | omega) (show RwOk sl sn sc5 sc6 by first | assumption | (intro _; assumption) | omega)) tw_896 tw_897 tw_898 tw_96 tw_899 (by decide +kernel) rfl ⟨Nat.le_of_ble_eq_true rfl, Nat.le_of_ble_eq_true rfl⟩ rfl rfl (by decide +kernel) rfl rfl (by decide +kernel) (by decide +kernel) (Nat.le_of_ble_eq_true rfl) rfl ⟨Nat.le_of_ble_eq_true rfl, Nat.le_of_ble_eq_true rfl⟩ dX11_stuck_46 ?_
    rintro ⟨q8798, q8799, q8800, q8801⟩ e8802
    show J x (mflat [(L, .inl (.inr (11, [.ref t, .ref rd, .ref s, .ref zz, .ref b, .ref bx, .ref tx, .ref so, .ref bd, .ref g, .ref gq, .ref v, .ref sk, .ref d, .ref fh, .ref sh, .ref ly, .int lsz, .int (nI tod)]))), (s7, .inl (.inl (kA 1, 10, .inl sc7))), (s8, .inr (kA 6, kA 1, 10, 2, .inl sc8)), (b, .inl (.inr (2, [.ref b0, .ref b1, .int (nI bsz), .int (nI btm), .int (nI bft), .int bkp]))), (b0, .inl (.inl (kA 1, 60, .inl brow))), (fh, .inl (.inl (kA 1, 60, .inl q8795))), (v, .inl (.inr (4, [.ref v0, .ref v1, .ref v2, .ref v3, .int q8798]))), (v0, .inr (kA 6, kA 1, 10, 45, .inl q8799)), (v1, .inl (.inl (kA 1, 6, .inl q8800))), (v3, .inl (.inl (kA 2, 2, .inr (.inl q8801)))), (s, .inl (.inr (5, [.ref s0, .ref s1, .ref s2, .ref s3, .ref s4, .ref s5, .ref s6, .ref s7, .ref s8, .ref s9, .ref s10, .ref s11, .int (nI sn), .int (nI sl), .int (nI se)]))), (s1, .inl (.inl (kA 1, 6, .inl sc1))), (s5, .inl (.inl (kA 1, 10, .inl sc5))), (s6, .inr (kA 6, kA 1, 10, 5, .inl sc6)), (s10, .inl (.inl (kA 1, 4, .inl sc10))), (s11, .inl (.inl (kA 1, 4, .inl sc11))), (b1, .inl (.inl (kA 1, 6, .inl blo)))]) [(0, .ref L), (1, .int (nI j8794))] 0 0 49 []
    refine j_aload_n h 0 rfl rfl dX11_stuck_49 ?_
    refine jm_get h iw_X11 0 rfl rfl 11 (by decide +kernel) tw_486 rfl dX11_stuck_50 ?_
    refine j_aload_n h 0 rfl rfl dX11_stuck_53 ?_
    refine jm_get h iw_X11 0 rfl rfl 2 (by decide +kernel) tw_477 rfl dX11_stuck_54 ?_
    refine j_aload_n h 0 rfl rfl dX11_stuck_57 ?_
    refine jm_get h iw_X11 0 rfl rfl 14 (by decide +kernel) tw_489 rfl dX11_stuck_58 ?_
    refine j_aload_n h 0 rfl rfl dX11_stuck_61 ?_
    refine jm_get h iw_X11 0 rfl rfl 4 (by decide +kernel) tw_479 rfl dX11_stuck_62 ?_
    refine jm_get h iw_X2 3 rfl rfl 3 (by decide +kernel) tw_277 rfl dX11_stuck_65 ?_
    refine jm_callVi (np := 3) (isC := [6, 7, 9, 10, 1, 2, 5]) (isR := [0, 3, 4, 8, 11, 12, 13, 14, 15, 16]) (wc := [(v, .inl (.inr (4, [.ref v0, .ref v1, .ref v2, .ref v3, .int q8798]))), (v0, .inr (kA 6, kA 1, 10, 45, .inl q8799)), (v3, .inl (.inl (kA 2, 2, .inr (.inl q8801)))), (s, .inl (.inr (5, [.ref s0, .ref s1, .ref s2, .ref s3, .ref s4, .ref s5, .ref s6, .ref s7, .ref s8, .ref s9, .ref s10, .ref s11, .int (nI sn), .int (nI sl), .int (nI se)]))), (s7, .inl (.inl (kA 1, 10, .inl sc7))), (s8, .inr (kA 6, kA 1, 10, 2, .inl sc8)), (fh, .inl (.inl (kA 1, 60, .inl q8795)))]) (wr := [(L, .inl (.inr (11, [.ref t, .ref rd, .ref s, .ref zz, .ref b, .ref bx, .ref tx, .ref so, .ref bd, .ref g, .ref gq, .ref v, .ref sk, .ref d, .ref fh, .ref sh, .ref ly, .int lsz, .int (nI tod)]))), (b, .inl (.inr (2, [.ref b0, .ref b1, .int (nI bsz), .int (nI btm), .int (nI bft), .int bkp]))), (b0, .inl (.inl (kA 1, 60, .inl brow))), (v1, .inl (.inl (kA 1, 6, .inl q8800))), (s1, .inl (.inl (kA 1, 6, .inl sc1))), (s5, .inl (.inl (kA 1, 10, .inl sc5))), (s6, .inr (kA 6, kA 1, 10, 5, .inl sc6)), (s10, .inl (.inl (kA 1, 4, .inl sc10))), (s11, .inl (.inl (kA 1, 4, .inl sc11))), (b1, .inl (.inl (kA 1, 6, .inl blo)))]) (rest := []) (As := [.ref s, .ref fh, .int (nI btm)]) (q0 := 0) h (s_X4_firstUnheard _ _ kA v s fh btm v0 v1 v2 v3 q8798 q8799 q8801 s0 s1 s2 s3 s4 s5 s6 s7 s8 s9 s10 s11 sn sl se sc7 sc8 q8795 (show sn ≤ 6 by first | assumption | omega) (show sl ≤ 10 by first | assumption | omega) (show se ≤ 4 by first | assumption | omega) (show LtOk sl sc7 by first | assumption | exact LtOk_of (by assumption) | (intro _; assumption) | omega) (show FtOk sl sc8 by first | assumption | (intro _; assumption) | omega) (show btm ≤ 60 by first | assumption | omega)) tw_909 tw_910 tw_911 tw_96 tw_912 (by decide +kernel) rfl ⟨Nat.le_of_ble_eq_true rfl, Nat.le_of_ble_eq_true rfl⟩ rfl rfl (by decide +kernel) rfl rfl (by decide +kernel) (by decide +kernel) (Nat.le_of_ble_eq_true rfl) rfl ⟨Nat.le_of_ble_eq_true rfl, Nat.le_of_ble_eq_true rfl⟩ dX11_stuck_68 ?_
    rintro r8806 q8804 e8805
    show J x (mflat [(L, .inl (.inr (11, [.ref t, .ref rd, .ref s, .ref zz, .ref b, .ref bx, .ref tx, .ref so, .ref bd, .ref g, .ref gq, .ref v, .ref sk, .ref d, .ref fh, .ref sh, .ref ly, .int lsz, .int (nI tod)]))), (b, .inl (.inr (2, [.ref b0, .ref b1, .int (nI bsz), .int (nI btm), .int (nI bft), .int bkp]))), (b0, .inl (.inl (kA 1, 60, .inl brow))), (v1, .inl (.inl (kA 1, 6, .inl q8800))), (s1, .inl (.inl (kA 1, 6, .inl sc1))), (s5, .inl (.inl (kA 1, 10, .inl sc5))), (s6, .inr (kA 6, kA 1, 10, 5, .inl sc6)), (s10, .inl (.inl (kA 1, 4, .inl sc10))), (s11, .inl (.inl (kA 1, 4, .inl sc11))), (b1, .inl (.inl (kA 1, 6, .inl blo))), (v, .inl (.inr (4, [.ref v0, .ref v1, .ref v2, .ref v3, .int q8798]))), (v0, .inr (kA 6, kA 1, 10, 45, .inl q8799)), (v3, .inl (.inl (kA 2, 2, .inr (.inl q8804)))), (s, .inl (.inr (5, [.ref s0, .ref s1, .ref s2, .ref s3, .ref s4, .ref s5, .ref s6, .ref s7, .ref s8, .ref s9, .ref s10, .ref s11, .int (nI sn), .int (nI sl), .int (nI se)]))), (s7, .inl (.inl (kA 1, 10, .inl sc7))), (s8, .inr (kA 6, kA 1, 10, 2, .inl sc8)), (fh, .inl (.inl (kA 1, 60, .inl q8795)))]) [(0, .ref L), (1, .int (nI j8794))] 0 0 71 [.int r8806]
    exact jm_iret h hq dX11_stuck_71 (q8795, q8798, q8799, q8800, q8804) [0, 16, 13, 4, 5, 6, 14, 15, 7, 8, 1, 2, 9, 10, 11, 3, 12] rfl (by decide) trivial (Nat.le_of_ble_eq_true rfl) (Nat.le_of_ble_eq_true rfl)
set_option maxHeartbeats 4000000 in
set_option maxRecDepth 100000 in
theorem s_X11_alike (lau : Launch) (gg : va_G) (kA : Nat → ClassId) (L : Nat) (er : Int32) (a : Int32) (c : Int32) (fo : Int32) (t : Nat) (rd : Nat) (s : Nat) (zz : Nat) (b : Nat) (bx : Nat) (tx : Nat) (so : Nat) (bd : Nat) (g : Nat) (gq : Nat) (v : Nat) (sk : Nat) (d : Nat) (fh : Nat) (sh : Nat) (ly : Nat) (lsz : Int32) (tod : Nat) (s0 : Nat) (s1 : Nat) (s2 : Nat) (s3 : Nat) (s4 : Nat) (s5 : Nat) (s6 : Nat) (s7 : Nat) (s8 : Nat) (s9 : Nat) (s10 : Nat) (s11 : Nat) (sn : Nat) (sl : Nat) (se : Nat) (sc1 : Nat → Int32) (sc5 : Nat → Int32) (sc6 : Nat → Nat → Int32) (sc7 : Nat → Int32) (sc8 : Nat → Nat → Int32) (sc10 : Nat → Int32) (sc11 : Nat → Int32) (b0 : Nat) (b1 : Nat) (bsz : Nat) (btm : Nat) (bft : Nat) (bkp : Int32) (blo : Nat → Int32) (v0 : Nat) (v1 : Nat) (v2 : Nat) (v3 : Nat) (vbk : Int32) (vls : Nat → Nat → Int32) (vss : Nat → Int32) (vrd : Nat → Int64) (htod : tod ≤ 100000) (hsn : sn ≤ 6) (hsl : sl ≤ 10) (hse : se ≤ 4) (hstk : TkOk sn sc1) (hssz : SzOk sl sc5) (hsrw : RwOk sl sn sc5 sc6) (hslt : LtOk sl sc7) (hsla : FtOk sl sc8) (hsls : LsOk sl sc5 sc6 sc1 sc7) (hbsz : bsz ≤ 60) (hbtm : btm ≤ 60) (hbft : bft ≤ 1) : CtI lau yX11_alike cX11_alike 5 (some .int) 5 0 0 gg kA [.ref L, .int er, .int a, .int c, .int fo] (mflat [(L, .inl (.inr (11, [.ref t, .ref rd, .ref s, .ref zz, .ref b, .ref bx, .ref tx, .ref so, .ref bd, .ref g, .ref gq, .ref v, .ref sk, .ref d, .ref fh, .ref sh, .ref ly, .int lsz, .int (nI tod)]))), (s, .inl (.inr (5, [.ref s0, .ref s1, .ref s2, .ref s3, .ref s4, .ref s5, .ref s6, .ref s7, .ref s8, .ref s9, .ref s10, .ref s11, .int (nI sn), .int (nI sl), .int (nI se)]))), (s1, .inl (.inl (kA 1, 6, .inl sc1))), (s5, .inl (.inl (kA 1, 10, .inl sc5))), (s6, .inr (kA 6, kA 1, 10, 5, .inl sc6)), (s7, .inl (.inl (kA 1, 10, .inl sc7))), (s8, .inr (kA 6, kA 1, 10, 2, .inl sc8)), (s10, .inl (.inl (kA 1, 4, .inl sc10))), (s11, .inl (.inl (kA 1, 4, .inl sc11))), (b, .inl (.inr (2, [.ref b0, .ref b1, .int (nI bsz), .int (nI btm), .int (nI bft), .int bkp]))), (b1, .inl (.inl (kA 1, 6, .inl blo))), (v, .inl (.inr (4, [.ref v0, .ref v1, .ref v2, .ref v3, .int vbk]))), (v0, .inr (kA 6, kA 1, 10, 45, .inl vls)), (v1, .inl (.inl (kA 1, 6, .inl vss))), (v3, .inl (.inl (kA 2, 2, .inr (.inl vrd))))]) (S := Int32 × (Nat → Nat → Int32) × (Nat → Int32) × (Nat → Int64)) (fun (r : Int32) ((y_v_4, y_v0, y_v1, y_v3) : Int32 × (Nat → Nat → Int32) × (Nat → Int32) × (Nat → Int64)) => True) (fun ((y_v_4, y_v0, y_v1, y_v3) : Int32 × (Nat → Nat → Int32) × (Nat → Int32) × (Nat → Int64)) => mflat [(L, .inl (.inr (11, [.ref t, .ref rd, .ref s, .ref zz, .ref b, .ref bx, .ref tx, .ref so, .ref bd, .ref g, .ref gq, .ref v, .ref sk, .ref d, .ref fh, .ref sh, .ref ly, .int lsz, .int (nI tod)]))), (s, .inl (.inr (5, [.ref s0, .ref s1, .ref s2, .ref s3, .ref s4, .ref s5, .ref s6, .ref s7, .ref s8, .ref s9, .ref s10, .ref s11, .int (nI sn), .int (nI sl), .int (nI se)]))), (s1, .inl (.inl (kA 1, 6, .inl sc1))), (s5, .inl (.inl (kA 1, 10, .inl sc5))), (s6, .inr (kA 6, kA 1, 10, 5, .inl sc6)), (s7, .inl (.inl (kA 1, 10, .inl sc7))), (s8, .inr (kA 6, kA 1, 10, 2, .inl sc8)), (s10, .inl (.inl (kA 1, 4, .inl sc10))), (s11, .inl (.inl (kA 1, 4, .inl sc11))), (b, .inl (.inr (2, [.ref b0, .ref b1, .int (nI bsz), .int (nI btm), .int (nI bft), .int bkp]))), (b1, .inl (.inl (kA 1, 6, .inl blo))), (v, .inl (.inr (4, [.ref v0, .ref v1, .ref v2, .ref v3, .int y_v_4]))), (v0, .inr (kA 6, kA 1, 10, 45, .inl y_v0)), (v1, .inl (.inl (kA 1, 6, .inl y_v1))), (v3, .inl (.inl (kA 2, 2, .inr (.inl y_v3))))]) := by
  refine nx_startI (by decide +kernel) (Nat.le_of_ble_eq_true rfl) ?_
  intro x hnm h hq
  have h : Ok x cX11_alike RX11 kA (rmC 5 0 0) 5 := h
  show J x (mflat [(L, .inl (.inr (11, [.ref t, .ref rd, .ref s, .ref zz, .ref b, .ref bx, .ref tx, .ref so, .ref bd, .ref g, .ref gq, .ref v, .ref sk, .ref d, .ref fh, .ref sh, .ref ly, .int lsz, .int (nI tod)]))), (s, .inl (.inr (5, [.ref s0, .ref s1, .ref s2, .ref s3, .ref s4, .ref s5, .ref s6, .ref s7, .ref s8, .ref s9, .ref s10, .ref s11, .int (nI sn), .int (nI sl), .int (nI se)]))), (s1, .inl (.inl (kA 1, 6, .inl sc1))), (s5, .inl (.inl (kA 1, 10, .inl sc5))), (s6, .inr (kA 6, kA 1, 10, 5, .inl sc6)), (s7, .inl (.inl (kA 1, 10, .inl sc7))), (s8, .inr (kA 6, kA 1, 10, 2, .inl sc8)), (s10, .inl (.inl (kA 1, 4, .inl sc10))), (s11, .inl (.inl (kA 1, 4, .inl sc11))), (b, .inl (.inr (2, [.ref b0, .ref b1, .int (nI bsz), .int (nI btm), .int (nI bft), .int bkp]))), (b1, .inl (.inl (kA 1, 6, .inl blo))), (v, .inl (.inr (4, [.ref v0, .ref v1, .ref v2, .ref v3, .int vbk]))), (v0, .inr (kA 6, kA 1, 10, 45, .inl vls)), (v1, .inl (.inl (kA 1, 6, .inl vss))), (v3, .inl (.inl (kA 2, 2, .inr (.inl vrd))))]) [(0, .ref L), (1, .int er), (2, .int a), (3, .int c), (4, .int fo)] 0 0 0 []
  refine j_aload_n h 0 rfl rfl dX11_alike_0 ?_
  refine jm_get h iw_X11 0 rfl rfl 2 (by decide +kernel) tw_477 rfl dX11_alike_1 ?_
  refine j_iload_n h 1 rfl rfl dX11_alike_4 ?_
  refine jm_callVi (np := 1) (isC := [1]) (isR := [0, 2, 3, 4, 5, 6, 7, 8, 9, 10, 11, 12, 13, 14]) (wc := [(s, .inl (.inr (5, [.ref s0, .ref s1, .ref s2, .ref s3, .ref s4, .ref s5, .ref s6, .ref s7, .ref s8, .ref s9, .ref s10, .ref s11, .int (nI sn), .int (nI sl), .int (nI se)])))]) (wr := [(L, .inl (.inr (11, [.ref t, .ref rd, .ref s, .ref zz, .ref b, .ref bx, .ref tx, .ref so, .ref bd, .ref g, .ref gq, .ref v, .ref sk, .ref d, .ref fh, .ref sh, .ref ly, .int lsz, .int (nI tod)]))), (s1, .inl (.inl (kA 1, 6, .inl sc1))), (s5, .inl (.inl (kA 1, 10, .inl sc5))), (s6, .inr (kA 6, kA 1, 10, 5, .inl sc6)), (s7, .inl (.inl (kA 1, 10, .inl sc7))), (s8, .inr (kA 6, kA 1, 10, 2, .inl sc8)), (s10, .inl (.inl (kA 1, 4, .inl sc10))), (s11, .inl (.inl (kA 1, 4, .inl sc11))), (b, .inl (.inr (2, [.ref b0, .ref b1, .int (nI bsz), .int (nI btm), .int (nI bft), .int bkp]))), (b1, .inl (.inl (kA 1, 6, .inl blo))), (v, .inl (.inr (4, [.ref v0, .ref v1, .ref v2, .ref v3, .int vbk]))), (v0, .inr (kA 6, kA 1, 10, 45, .inl vls)), (v1, .inl (.inl (kA 1, 6, .inl vss))), (v3, .inl (.inl (kA 2, 2, .inr (.inl vrd))))]) (rest := []) (As := [.int er]) (q0 := 0) h (s_X5_hasEar _ _ kA s er s0 s1 s2 s3 s4 s5 s6 s7 s8 s9 s10 s11 (nI sn) (nI sl) (nI se) ) tw_789 tw_790 tw_791 tw_90 tw_792 (by decide +kernel) rfl ⟨Nat.le_of_ble_eq_true rfl, Nat.le_of_ble_eq_true rfl⟩ rfl rfl (by decide +kernel) rfl rfl (by decide +kernel) (by decide +kernel) (Nat.le_of_ble_eq_true rfl) rfl ⟨Nat.le_of_ble_eq_true rfl, Nat.le_of_ble_eq_true rfl⟩ dX11_alike_5 ?_
  rintro r8862 _ e8861
  have p8863 := e8861
  subst p8863
  show J x (mflat [(L, .inl (.inr (11, [.ref t, .ref rd, .ref s, .ref zz, .ref b, .ref bx, .ref tx, .ref so, .ref bd, .ref g, .ref gq, .ref v, .ref sk, .ref d, .ref fh, .ref sh, .ref ly, .int lsz, .int (nI tod)]))), (s1, .inl (.inl (kA 1, 6, .inl sc1))), (s5, .inl (.inl (kA 1, 10, .inl sc5))), (s6, .inr (kA 6, kA 1, 10, 5, .inl sc6)), (s7, .inl (.inl (kA 1, 10, .inl sc7))), (s8, .inr (kA 6, kA 1, 10, 2, .inl sc8)), (s10, .inl (.inl (kA 1, 4, .inl sc10))), (s11, .inl (.inl (kA 1, 4, .inl sc11))), (b, .inl (.inr (2, [.ref b0, .ref b1, .int (nI bsz), .int (nI btm), .int (nI bft), .int bkp]))), (b1, .inl (.inl (kA 1, 6, .inl blo))), (v, .inl (.inr (4, [.ref v0, .ref v1, .ref v2, .ref v3, .int vbk]))), (v0, .inr (kA 6, kA 1, 10, 45, .inl vls)), (v1, .inl (.inl (kA 1, 6, .inl vss))), (v3, .inl (.inl (kA 2, 2, .inr (.inl vrd)))), (s, .inl (.inr (5, [.ref s0, .ref s1, .ref s2, .ref s3, .ref s4, .ref s5, .ref s6, .ref s7, .ref s8, .ref s9, .ref s10, .ref s11, .int (nI sn), .int (nI sl), .int (nI se)])))]) [(0, .ref L), (1, .int er), (2, .int a), (3, .int c), (4, .int fo)] 0 0 8 [.int (bIx er (nI se))]
  rcases bIx_cases er se (by omega) with hTj8864 | ⟨j8864, hj8864, rfl, hBj8864⟩
  · refine j_top (b := 0) hTj8864 ?_
    show J x (mflat [(L, .inl (.inr (11, [.ref t, .ref rd, .ref s, .ref zz, .ref b, .ref bx, .ref tx, .ref so, .ref bd, .ref g, .ref gq, .ref v, .ref sk, .ref d, .ref fh, .ref sh, .ref ly, .int lsz, .int (nI tod)]))), (s1, .inl (.inl (kA 1, 6, .inl sc1))), (s5, .inl (.inl (kA 1, 10, .inl sc5))), (s6, .inr (kA 6, kA 1, 10, 5, .inl sc6)), (s7, .inl (.inl (kA 1, 10, .inl sc7))), (s8, .inr (kA 6, kA 1, 10, 2, .inl sc8)), (s10, .inl (.inl (kA 1, 4, .inl sc10))), (s11, .inl (.inl (kA 1, 4, .inl sc11))), (b, .inl (.inr (2, [.ref b0, .ref b1, .int (nI bsz), .int (nI btm), .int (nI bft), .int bkp]))), (b1, .inl (.inl (kA 1, 6, .inl blo))), (v, .inl (.inr (4, [.ref v0, .ref v1, .ref v2, .ref v3, .int vbk]))), (v0, .inr (kA 6, kA 1, 10, 45, .inl vls)), (v1, .inl (.inl (kA 1, 6, .inl vss))), (v3, .inl (.inl (kA 2, 2, .inr (.inl vrd)))), (s, .inl (.inr (5, [.ref s0, .ref s1, .ref s2, .ref s3, .ref s4, .ref s5, .ref s6, .ref s7, .ref s8, .ref s9, .ref s10, .ref s11, .int (nI sn), .int (nI sl), .int (nI se)])))]) [(0, .ref L), (1, .int er), (2, .int a), (3, .int c), (4, .int fo)] 0 0 8 [.int 0]
    refine j_if_eq h 33 dX11_alike_8 (by decide) (fun _ => ?_) (fun q => absurd (by decide) q)
    refine j_iconst (v := (-1)) h (by decide) dX11_alike_33 ?_
    exact jm_iret h hq dX11_alike_34 (vbk, vls, vss, vrd) [0, 14, 1, 2, 3, 4, 5, 6, 7, 8, 9, 10, 11, 12, 13] rfl (by decide) trivial (Nat.le_of_ble_eq_true rfl) (Nat.le_of_ble_eq_true rfl)
  · refine j_top (b := 1) hBj8864 ?_
    show J x (mflat [(L, .inl (.inr (11, [.ref t, .ref rd, .ref s, .ref zz, .ref b, .ref bx, .ref tx, .ref so, .ref bd, .ref g, .ref gq, .ref v, .ref sk, .ref d, .ref fh, .ref sh, .ref ly, .int lsz, .int (nI tod)]))), (s1, .inl (.inl (kA 1, 6, .inl sc1))), (s5, .inl (.inl (kA 1, 10, .inl sc5))), (s6, .inr (kA 6, kA 1, 10, 5, .inl sc6)), (s7, .inl (.inl (kA 1, 10, .inl sc7))), (s8, .inr (kA 6, kA 1, 10, 2, .inl sc8)), (s10, .inl (.inl (kA 1, 4, .inl sc10))), (s11, .inl (.inl (kA 1, 4, .inl sc11))), (b, .inl (.inr (2, [.ref b0, .ref b1, .int (nI bsz), .int (nI btm), .int (nI bft), .int bkp]))), (b1, .inl (.inl (kA 1, 6, .inl blo))), (v, .inl (.inr (4, [.ref v0, .ref v1, .ref v2, .ref v3, .int vbk]))), (v0, .inr (kA 6, kA 1, 10, 45, .inl vls)), (v1, .inl (.inl (kA 1, 6, .inl vss))), (v3, .inl (.inl (kA 2, 2, .inr (.inl vrd)))), (s, .inl (.inr (5, [.ref s0, .ref s1, .ref s2, .ref s3, .ref s4, .ref s5, .ref s6, .ref s7, .ref s8, .ref s9, .ref s10, .ref s11, .int (nI sn), .int (nI sl), .int (nI se)])))]) [(0, .ref L), (1, .int (nI j8864)), (2, .int a), (3, .int c), (4, .int fo)] 0 0 8 [.int 1]
    refine j_if_eq h 33 dX11_alike_8 (by decide) (fun q => absurd q (by decide)) (fun _ => ?_)
    refine j_aload_n h 0 rfl rfl dX11_alike_11 ?_
    refine jm_get h iw_X11 0 rfl rfl 2 (by decide +kernel) tw_477 rfl dX11_alike_12 ?_
    refine j_iload_n h 2 rfl rfl dX11_alike_15 ?_
    refine jm_callVi (np := 1) (isC := [14]) (isR := [0, 1, 2, 3, 4, 5, 6, 7, 8, 9, 10, 11, 12, 13]) (wc := [(s, .inl (.inr (5, [.ref s0, .ref s1, .ref s2, .ref s3, .ref s4, .ref s5, .ref s6, .ref s7, .ref s8, .ref s9, .ref s10, .ref s11, .int (nI sn), .int (nI sl), .int (nI se)])))]) (wr := [(L, .inl (.inr (11, [.ref t, .ref rd, .ref s, .ref zz, .ref b, .ref bx, .ref tx, .ref so, .ref bd, .ref g, .ref gq, .ref v, .ref sk, .ref d, .ref fh, .ref sh, .ref ly, .int lsz, .int (nI tod)]))), (s1, .inl (.inl (kA 1, 6, .inl sc1))), (s5, .inl (.inl (kA 1, 10, .inl sc5))), (s6, .inr (kA 6, kA 1, 10, 5, .inl sc6)), (s7, .inl (.inl (kA 1, 10, .inl sc7))), (s8, .inr (kA 6, kA 1, 10, 2, .inl sc8)), (s10, .inl (.inl (kA 1, 4, .inl sc10))), (s11, .inl (.inl (kA 1, 4, .inl sc11))), (b, .inl (.inr (2, [.ref b0, .ref b1, .int (nI bsz), .int (nI btm), .int (nI bft), .int bkp]))), (b1, .inl (.inl (kA 1, 6, .inl blo))), (v, .inl (.inr (4, [.ref v0, .ref v1, .ref v2, .ref v3, .int vbk]))), (v0, .inr (kA 6, kA 1, 10, 45, .inl vls)), (v1, .inl (.inl (kA 1, 6, .inl vss))), (v3, .inl (.inl (kA 2, 2, .inr (.inl vrd))))]) (rest := []) (As := [.int a]) (q0 := 0) h (s_X5_hasLetter _ _ kA s a s0 s1 s2 s3 s4 s5 s6 s7 s8 s9 s10 s11 (nI sn) (nI sl) (nI se) ) tw_938 tw_776 tw_777 tw_90 tw_778 (by decide +kernel) rfl ⟨Nat.le_of_ble_eq_true rfl, Nat.le_of_ble_eq_true rfl⟩ rfl rfl (by decide +kernel) rfl rfl (by decide +kernel) (by decide +kernel) (Nat.le_of_ble_eq_true rfl) rfl ⟨Nat.le_of_ble_eq_true rfl, Nat.le_of_ble_eq_true rfl⟩ dX11_alike_16 ?_
    rintro r8866 _ e8865
    have p8867 := e8865
    subst p8867
    show J x (mflat [(L, .inl (.inr (11, [.ref t, .ref rd, .ref s, .ref zz, .ref b, .ref bx, .ref tx, .ref so, .ref bd, .ref g, .ref gq, .ref v, .ref sk, .ref d, .ref fh, .ref sh, .ref ly, .int lsz, .int (nI tod)]))), (s1, .inl (.inl (kA 1, 6, .inl sc1))), (s5, .inl (.inl (kA 1, 10, .inl sc5))), (s6, .inr (kA 6, kA 1, 10, 5, .inl sc6)), (s7, .inl (.inl (kA 1, 10, .inl sc7))), (s8, .inr (kA 6, kA 1, 10, 2, .inl sc8)), (s10, .inl (.inl (kA 1, 4, .inl sc10))), (s11, .inl (.inl (kA 1, 4, .inl sc11))), (b, .inl (.inr (2, [.ref b0, .ref b1, .int (nI bsz), .int (nI btm), .int (nI bft), .int bkp]))), (b1, .inl (.inl (kA 1, 6, .inl blo))), (v, .inl (.inr (4, [.ref v0, .ref v1, .ref v2, .ref v3, .int vbk]))), (v0, .inr (kA 6, kA 1, 10, 45, .inl vls)), (v1, .inl (.inl (kA 1, 6, .inl vss))), (v3, .inl (.inl (kA 2, 2, .inr (.inl vrd)))), (s, .inl (.inr (5, [.ref s0, .ref s1, .ref s2, .ref s3, .ref s4, .ref s5, .ref s6, .ref s7, .ref s8, .ref s9, .ref s10, .ref s11, .int (nI sn), .int (nI sl), .int (nI se)])))]) [(0, .ref L), (1, .int (nI j8864)), (2, .int a), (3, .int c), (4, .int fo)] 0 0 19 [.int (bIx a (nI sl))]
    rcases bIx_cases a sl (by omega) with hTj8868 | ⟨j8868, hj8868, rfl, hBj8868⟩
    · refine j_top (b := 0) hTj8868 ?_
      show J x (mflat [(L, .inl (.inr (11, [.ref t, .ref rd, .ref s, .ref zz, .ref b, .ref bx, .ref tx, .ref so, .ref bd, .ref g, .ref gq, .ref v, .ref sk, .ref d, .ref fh, .ref sh, .ref ly, .int lsz, .int (nI tod)]))), (s1, .inl (.inl (kA 1, 6, .inl sc1))), (s5, .inl (.inl (kA 1, 10, .inl sc5))), (s6, .inr (kA 6, kA 1, 10, 5, .inl sc6)), (s7, .inl (.inl (kA 1, 10, .inl sc7))), (s8, .inr (kA 6, kA 1, 10, 2, .inl sc8)), (s10, .inl (.inl (kA 1, 4, .inl sc10))), (s11, .inl (.inl (kA 1, 4, .inl sc11))), (b, .inl (.inr (2, [.ref b0, .ref b1, .int (nI bsz), .int (nI btm), .int (nI bft), .int bkp]))), (b1, .inl (.inl (kA 1, 6, .inl blo))), (v, .inl (.inr (4, [.ref v0, .ref v1, .ref v2, .ref v3, .int vbk]))), (v0, .inr (kA 6, kA 1, 10, 45, .inl vls)), (v1, .inl (.inl (kA 1, 6, .inl vss))), (v3, .inl (.inl (kA 2, 2, .inr (.inl vrd)))), (s, .inl (.inr (5, [.ref s0, .ref s1, .ref s2, .ref s3, .ref s4, .ref s5, .ref s6, .ref s7, .ref s8, .ref s9, .ref s10, .ref s11, .int (nI sn), .int (nI sl), .int (nI se)])))]) [(0, .ref L), (1, .int (nI j8864)), (2, .int a), (3, .int c), (4, .int fo)] 0 0 19 [.int 0]
      refine j_if_eq h 33 dX11_alike_19 (by decide) (fun _ => ?_) (fun q => absurd (by decide) q)
      refine j_iconst (v := (-1)) h (by decide) dX11_alike_33 ?_
      exact jm_iret h hq dX11_alike_34 (vbk, vls, vss, vrd) [0, 14, 1, 2, 3, 4, 5, 6, 7, 8, 9, 10, 11, 12, 13] rfl (by decide) trivial (Nat.le_of_ble_eq_true rfl) (Nat.le_of_ble_eq_true rfl)
    · refine j_top (b := 1) hBj8868 ?_
      show J x (mflat [(L, .inl (.inr (11, [.ref t, .ref rd, .ref s, .ref zz, .ref b, .ref bx, .ref tx, .ref so, .ref bd, .ref g, .ref gq, .ref v, .ref sk, .ref d, .ref fh, .ref sh, .ref ly, .int lsz, .int (nI tod)]))), (s1, .inl (.inl (kA 1, 6, .inl sc1))), (s5, .inl (.inl (kA 1, 10, .inl sc5))), (s6, .inr (kA 6, kA 1, 10, 5, .inl sc6)), (s7, .inl (.inl (kA 1, 10, .inl sc7))), (s8, .inr (kA 6, kA 1, 10, 2, .inl sc8)), (s10, .inl (.inl (kA 1, 4, .inl sc10))), (s11, .inl (.inl (kA 1, 4, .inl sc11))), (b, .inl (.inr (2, [.ref b0, .ref b1, .int (nI bsz), .int (nI btm), .int (nI bft), .int bkp]))), (b1, .inl (.inl (kA 1, 6, .inl blo))), (v, .inl (.inr (4, [.ref v0, .ref v1, .ref v2, .ref v3, .int vbk]))), (v0, .inr (kA 6, kA 1, 10, 45, .inl vls)), (v1, .inl (.inl (kA 1, 6, .inl vss))), (v3, .inl (.inl (kA 2, 2, .inr (.inl vrd)))), (s, .inl (.inr (5, [.ref s0, .ref s1, .ref s2, .ref s3, .ref s4, .ref s5, .ref s6, .ref s7, .ref s8, .ref s9, .ref s10, .ref s11, .int (nI sn), .int (nI sl), .int (nI se)])))]) [(0, .ref L), (1, .int (nI j8864)), (2, .int (nI j8868)), (3, .int c), (4, .int fo)] 0 0 19 [.int 1]
      refine j_if_eq h 33 dX11_alike_19 (by decide) (fun q => absurd q (by decide)) (fun _ => ?_)
      refine j_aload_n h 0 rfl rfl dX11_alike_22 ?_
      refine jm_get h iw_X11 0 rfl rfl 2 (by decide +kernel) tw_477 rfl dX11_alike_23 ?_
      refine j_iload_n h 3 rfl rfl dX11_alike_26 ?_
      refine jm_callVi (np := 1) (isC := [14]) (isR := [0, 1, 2, 3, 4, 5, 6, 7, 8, 9, 10, 11, 12, 13]) (wc := [(s, .inl (.inr (5, [.ref s0, .ref s1, .ref s2, .ref s3, .ref s4, .ref s5, .ref s6, .ref s7, .ref s8, .ref s9, .ref s10, .ref s11, .int (nI sn), .int (nI sl), .int (nI se)])))]) (wr := [(L, .inl (.inr (11, [.ref t, .ref rd, .ref s, .ref zz, .ref b, .ref bx, .ref tx, .ref so, .ref bd, .ref g, .ref gq, .ref v, .ref sk, .ref d, .ref fh, .ref sh, .ref ly, .int lsz, .int (nI tod)]))), (s1, .inl (.inl (kA 1, 6, .inl sc1))), (s5, .inl (.inl (kA 1, 10, .inl sc5))), (s6, .inr (kA 6, kA 1, 10, 5, .inl sc6)), (s7, .inl (.inl (kA 1, 10, .inl sc7))), (s8, .inr (kA 6, kA 1, 10, 2, .inl sc8)), (s10, .inl (.inl (kA 1, 4, .inl sc10))), (s11, .inl (.inl (kA 1, 4, .inl sc11))), (b, .inl (.inr (2, [.ref b0, .ref b1, .int (nI bsz), .int (nI btm), .int (nI bft), .int bkp]))), (b1, .inl (.inl (kA 1, 6, .inl blo))), (v, .inl (.inr (4, [.ref v0, .ref v1, .ref v2, .ref v3, .int vbk]))), (v0, .inr (kA 6, kA 1, 10, 45, .inl vls)), (v1, .inl (.inl (kA 1, 6, .inl vss))), (v3, .inl (.inl (kA 2, 2, .inr (.inl vrd))))]) (rest := []) (As := [.int c]) (q0 := 0) h (s_X5_hasLetter _ _ kA s c s0 s1 s2 s3 s4 s5 s6 s7 s8 s9 s10 s11 (nI sn) (nI sl) (nI se) ) tw_938 tw_776 tw_777 tw_90 tw_778 (by decide +kernel) rfl ⟨Nat.le_of_ble_eq_true rfl, Nat.le_of_ble_eq_true rfl⟩ rfl rfl (by decide +kernel) rfl rfl (by decide +kernel) (by decide +kernel) (Nat.le_of_ble_eq_true rfl) rfl ⟨Nat.le_of_ble_eq_true rfl, Nat.le_of_ble_eq_true rfl⟩ dX11_alike_27 ?_
      rintro r8870 _ e8869
      have p8871 := e8869
      subst p8871
      show J x (mflat [(L, .inl (.inr (11, [.ref t, .ref rd, .ref s, .ref zz, .ref b, .ref bx, .ref tx, .ref so, .ref bd, .ref g, .ref gq, .ref v, .ref sk, .ref d, .ref fh, .ref sh, .ref ly, .int lsz, .int (nI tod)]))), (s1, .inl (.inl (kA 1, 6, .inl sc1))), (s5, .inl (.inl (kA 1, 10, .inl sc5))), (s6, .inr (kA 6, kA 1, 10, 5, .inl sc6)), (s7, .inl (.inl (kA 1, 10, .inl sc7))), (s8, .inr (kA 6, kA 1, 10, 2, .inl sc8)), (s10, .inl (.inl (kA 1, 4, .inl sc10))), (s11, .inl (.inl (kA 1, 4, .inl sc11))), (b, .inl (.inr (2, [.ref b0, .ref b1, .int (nI bsz), .int (nI btm), .int (nI bft), .int bkp]))), (b1, .inl (.inl (kA 1, 6, .inl blo))), (v, .inl (.inr (4, [.ref v0, .ref v1, .ref v2, .ref v3, .int vbk]))), (v0, .inr (kA 6, kA 1, 10, 45, .inl vls)), (v1, .inl (.inl (kA 1, 6, .inl vss))), (v3, .inl (.inl (kA 2, 2, .inr (.inl vrd)))), (s, .inl (.inr (5, [.ref s0, .ref s1, .ref s2, .ref s3, .ref s4, .ref s5, .ref s6, .ref s7, .ref s8, .ref s9, .ref s10, .ref s11, .int (nI sn), .int (nI sl), .int (nI se)])))]) [(0, .ref L), (1, .int (nI j8864)), (2, .int (nI j8868)), (3, .int c), (4, .int fo)] 0 0 30 [.int (bIx c (nI sl))]
      rcases bIx_cases c sl (by omega) with hTj8872 | ⟨j8872, hj8872, rfl, hBj8872⟩
      · refine j_top (b := 0) hTj8872 ?_
        show J x (mflat [(L, .inl (.inr (11, [.ref t, .ref rd, .ref s, .ref zz, .ref b, .ref bx, .ref tx, .ref so, .ref bd, .ref g, .ref gq, .ref v, .ref sk, .ref d, .ref fh, .ref sh, .ref ly, .int lsz, .int (nI tod)]))), (s1, .inl (.inl (kA 1, 6, .inl sc1))), (s5, .inl (.inl (kA 1, 10, .inl sc5))), (s6, .inr (kA 6, kA 1, 10, 5, .inl sc6)), (s7, .inl (.inl (kA 1, 10, .inl sc7))), (s8, .inr (kA 6, kA 1, 10, 2, .inl sc8)), (s10, .inl (.inl (kA 1, 4, .inl sc10))), (s11, .inl (.inl (kA 1, 4, .inl sc11))), (b, .inl (.inr (2, [.ref b0, .ref b1, .int (nI bsz), .int (nI btm), .int (nI bft), .int bkp]))), (b1, .inl (.inl (kA 1, 6, .inl blo))), (v, .inl (.inr (4, [.ref v0, .ref v1, .ref v2, .ref v3, .int vbk]))), (v0, .inr (kA 6, kA 1, 10, 45, .inl vls)), (v1, .inl (.inl (kA 1, 6, .inl vss))), (v3, .inl (.inl (kA 2, 2, .inr (.inl vrd)))), (s, .inl (.inr (5, [.ref s0, .ref s1, .ref s2, .ref s3, .ref s4, .ref s5, .ref s6, .ref s7, .ref s8, .ref s9, .ref s10, .ref s11, .int (nI sn), .int (nI sl), .int (nI se)])))]) [(0, .ref L), (1, .int (nI j8864)), (2, .int (nI j8868)), (3, .int c), (4, .int fo)] 0 0 30 [.int 0]
        refine j_if_ne h 35 dX11_alike_30 (by decide) (fun q => absurd (by decide) q) (fun _ => ?_)
        refine j_iconst (v := (-1)) h (by decide) dX11_alike_33 ?_
        exact jm_iret h hq dX11_alike_34 (vbk, vls, vss, vrd) [0, 14, 1, 2, 3, 4, 5, 6, 7, 8, 9, 10, 11, 12, 13] rfl (by decide) trivial (Nat.le_of_ble_eq_true rfl) (Nat.le_of_ble_eq_true rfl)
      · refine j_top (b := 1) hBj8872 ?_
        show J x (mflat [(L, .inl (.inr (11, [.ref t, .ref rd, .ref s, .ref zz, .ref b, .ref bx, .ref tx, .ref so, .ref bd, .ref g, .ref gq, .ref v, .ref sk, .ref d, .ref fh, .ref sh, .ref ly, .int lsz, .int (nI tod)]))), (s1, .inl (.inl (kA 1, 6, .inl sc1))), (s5, .inl (.inl (kA 1, 10, .inl sc5))), (s6, .inr (kA 6, kA 1, 10, 5, .inl sc6)), (s7, .inl (.inl (kA 1, 10, .inl sc7))), (s8, .inr (kA 6, kA 1, 10, 2, .inl sc8)), (s10, .inl (.inl (kA 1, 4, .inl sc10))), (s11, .inl (.inl (kA 1, 4, .inl sc11))), (b, .inl (.inr (2, [.ref b0, .ref b1, .int (nI bsz), .int (nI btm), .int (nI bft), .int bkp]))), (b1, .inl (.inl (kA 1, 6, .inl blo))), (v, .inl (.inr (4, [.ref v0, .ref v1, .ref v2, .ref v3, .int vbk]))), (v0, .inr (kA 6, kA 1, 10, 45, .inl vls)), (v1, .inl (.inl (kA 1, 6, .inl vss))), (v3, .inl (.inl (kA 2, 2, .inr (.inl vrd)))), (s, .inl (.inr (5, [.ref s0, .ref s1, .ref s2, .ref s3, .ref s4, .ref s5, .ref s6, .ref s7, .ref s8, .ref s9, .ref s10, .ref s11, .int (nI sn), .int (nI sl), .int (nI se)])))]) [(0, .ref L), (1, .int (nI j8864)), (2, .int (nI j8868)), (3, .int (nI j8872)), (4, .int fo)] 0 0 30 [.int 1]
        refine j_if_ne h 35 dX11_alike_30 (by decide) (fun _ => ?_) (fun q => absurd q (by decide))
        refine j_iload h 4 rfl dX11_alike_35 ?_
        refine j_if_eq h 48 dX11_alike_37 (by decide) (fun z8873 => ?_) (fun z8873 => ?_)
        · subst z8873
          show J x (mflat [(L, .inl (.inr (11, [.ref t, .ref rd, .ref s, .ref zz, .ref b, .ref bx, .ref tx, .ref so, .ref bd, .ref g, .ref gq, .ref v, .ref sk, .ref d, .ref fh, .ref sh, .ref ly, .int lsz, .int (nI tod)]))), (s1, .inl (.inl (kA 1, 6, .inl sc1))), (s5, .inl (.inl (kA 1, 10, .inl sc5))), (s6, .inr (kA 6, kA 1, 10, 5, .inl sc6)), (s7, .inl (.inl (kA 1, 10, .inl sc7))), (s8, .inr (kA 6, kA 1, 10, 2, .inl sc8)), (s10, .inl (.inl (kA 1, 4, .inl sc10))), (s11, .inl (.inl (kA 1, 4, .inl sc11))), (b, .inl (.inr (2, [.ref b0, .ref b1, .int (nI bsz), .int (nI btm), .int (nI bft), .int bkp]))), (b1, .inl (.inl (kA 1, 6, .inl blo))), (v, .inl (.inr (4, [.ref v0, .ref v1, .ref v2, .ref v3, .int vbk]))), (v0, .inr (kA 6, kA 1, 10, 45, .inl vls)), (v1, .inl (.inl (kA 1, 6, .inl vss))), (v3, .inl (.inl (kA 2, 2, .inr (.inl vrd)))), (s, .inl (.inr (5, [.ref s0, .ref s1, .ref s2, .ref s3, .ref s4, .ref s5, .ref s6, .ref s7, .ref s8, .ref s9, .ref s10, .ref s11, .int (nI sn), .int (nI sl), .int (nI se)])))]) [(0, .ref L), (1, .int (nI j8864)), (2, .int (nI j8868)), (3, .int (nI j8872)), (4, .int 0)] 0 0 48 []
          refine j_aload_n h 0 rfl rfl dX11_alike_48 ?_
          refine jm_get h iw_X11 0 rfl rfl 2 (by decide +kernel) tw_477 rfl dX11_alike_49 ?_
          refine jm_get h iw_X5 14 rfl rfl 8 (by decide +kernel) tw_208 rfl dX11_alike_52 ?_
          refine j_iload_n h 2 rfl rfl dX11_alike_55 ?_
          refine jm_gout h 5 6 rfl rfl j8868 rfl (by omega) (by omega) dX11_alike_56 ?_
          refine j_iload h 4 rfl dX11_alike_57 ?_
          refine jm_gald h 5 rfl j8868 (by omega) 0 (by decide +kernel) (by decide +kernel) (by omega) dX11_alike_59 ?_
          obtain ⟨t8874, u8875, u8876⟩ := (show FtOk sl sc8 by assumption) j8868 0 (by omega) (by omega)
          refine j_top (b := pm t8874) (u8876) ?_
          refine j_iconst (v := (-1)) h (by decide) dX11_alike_60 ?_
          rcases t8874 with _ | j8877
          · show J x (mflat [(L, .inl (.inr (11, [.ref t, .ref rd, .ref s, .ref zz, .ref b, .ref bx, .ref tx, .ref so, .ref bd, .ref g, .ref gq, .ref v, .ref sk, .ref d, .ref fh, .ref sh, .ref ly, .int lsz, .int (nI tod)]))), (s1, .inl (.inl (kA 1, 6, .inl sc1))), (s5, .inl (.inl (kA 1, 10, .inl sc5))), (s6, .inr (kA 6, kA 1, 10, 5, .inl sc6)), (s7, .inl (.inl (kA 1, 10, .inl sc7))), (s8, .inr (kA 6, kA 1, 10, 2, .inl sc8)), (s10, .inl (.inl (kA 1, 4, .inl sc10))), (s11, .inl (.inl (kA 1, 4, .inl sc11))), (b, .inl (.inr (2, [.ref b0, .ref b1, .int (nI bsz), .int (nI btm), .int (nI bft), .int bkp]))), (b1, .inl (.inl (kA 1, 6, .inl blo))), (v, .inl (.inr (4, [.ref v0, .ref v1, .ref v2, .ref v3, .int vbk]))), (v0, .inr (kA 6, kA 1, 10, 45, .inl vls)), (v1, .inl (.inl (kA 1, 6, .inl vss))), (v3, .inl (.inl (kA 2, 2, .inr (.inl vrd)))), (s, .inl (.inr (5, [.ref s0, .ref s1, .ref s2, .ref s3, .ref s4, .ref s5, .ref s6, .ref s7, .ref s8, .ref s9, .ref s10, .ref s11, .int (nI sn), .int (nI sl), .int (nI se)])))]) [(0, .ref L), (1, .int (nI j8864)), (2, .int (nI j8868)), (3, .int (nI j8872)), (4, .int 0)] 0 0 61 [.int (-1), .int (-1)]
            refine j_icmp_eq h 80 dX11_alike_61 (by decide) (fun _ => ?_) (fun q => absurd (by decide) q)
            refine j_iconst (v := 0) h (by decide) dX11_alike_80 ?_
            exact jm_iret h hq dX11_alike_81 (vbk, vls, vss, vrd) [0, 14, 1, 2, 3, 4, 5, 6, 7, 8, 9, 10, 11, 12, 13] rfl (by decide) trivial (Nat.le_of_ble_eq_true rfl) (Nat.le_of_ble_eq_true rfl)
          · show J x (mflat [(L, .inl (.inr (11, [.ref t, .ref rd, .ref s, .ref zz, .ref b, .ref bx, .ref tx, .ref so, .ref bd, .ref g, .ref gq, .ref v, .ref sk, .ref d, .ref fh, .ref sh, .ref ly, .int lsz, .int (nI tod)]))), (s1, .inl (.inl (kA 1, 6, .inl sc1))), (s5, .inl (.inl (kA 1, 10, .inl sc5))), (s6, .inr (kA 6, kA 1, 10, 5, .inl sc6)), (s7, .inl (.inl (kA 1, 10, .inl sc7))), (s8, .inr (kA 6, kA 1, 10, 2, .inl sc8)), (s10, .inl (.inl (kA 1, 4, .inl sc10))), (s11, .inl (.inl (kA 1, 4, .inl sc11))), (b, .inl (.inr (2, [.ref b0, .ref b1, .int (nI bsz), .int (nI btm), .int (nI bft), .int bkp]))), (b1, .inl (.inl (kA 1, 6, .inl blo))), (v, .inl (.inr (4, [.ref v0, .ref v1, .ref v2, .ref v3, .int vbk]))), (v0, .inr (kA 6, kA 1, 10, 45, .inl vls)), (v1, .inl (.inl (kA 1, 6, .inl vss))), (v3, .inl (.inl (kA 2, 2, .inr (.inl vrd)))), (s, .inl (.inr (5, [.ref s0, .ref s1, .ref s2, .ref s3, .ref s4, .ref s5, .ref s6, .ref s7, .ref s8, .ref s9, .ref s10, .ref s11, .int (nI sn), .int (nI sl), .int (nI se)])))]) [(0, .ref L), (1, .int (nI j8864)), (2, .int (nI j8868)), (3, .int (nI j8872)), (4, .int 0)] 0 0 61 [.int (-1), .int (nI j8877)]
            refine j_icmp_eq h 80 dX11_alike_61 (by decide) (fun q => absurd q (nI_m1 (by omega))) (fun _ => ?_)
            refine j_aload_n h 0 rfl rfl dX11_alike_64 ?_
            refine jm_get h iw_X11 0 rfl rfl 2 (by decide +kernel) tw_477 rfl dX11_alike_65 ?_
            refine jm_get h iw_X5 14 rfl rfl 8 (by decide +kernel) tw_208 rfl dX11_alike_68 ?_
            refine j_iload_n h 3 rfl rfl dX11_alike_71 ?_
            refine jm_gout h 5 6 rfl rfl j8872 rfl (by omega) (by omega) dX11_alike_72 ?_
            refine j_iload h 4 rfl dX11_alike_73 ?_
            refine jm_gald h 5 rfl j8872 (by omega) 0 (by decide +kernel) (by decide +kernel) (by omega) dX11_alike_75 ?_
            obtain ⟨t8878, u8879, u8880⟩ := (show FtOk sl sc8 by assumption) j8872 0 (by omega) (by omega)
            refine j_top (b := pm t8878) (u8880) ?_
            refine j_iconst (v := (-1)) h (by decide) dX11_alike_76 ?_
            rcases t8878 with _ | j8881
            · show J x (mflat [(L, .inl (.inr (11, [.ref t, .ref rd, .ref s, .ref zz, .ref b, .ref bx, .ref tx, .ref so, .ref bd, .ref g, .ref gq, .ref v, .ref sk, .ref d, .ref fh, .ref sh, .ref ly, .int lsz, .int (nI tod)]))), (s1, .inl (.inl (kA 1, 6, .inl sc1))), (s5, .inl (.inl (kA 1, 10, .inl sc5))), (s6, .inr (kA 6, kA 1, 10, 5, .inl sc6)), (s7, .inl (.inl (kA 1, 10, .inl sc7))), (s8, .inr (kA 6, kA 1, 10, 2, .inl sc8)), (s10, .inl (.inl (kA 1, 4, .inl sc10))), (s11, .inl (.inl (kA 1, 4, .inl sc11))), (b, .inl (.inr (2, [.ref b0, .ref b1, .int (nI bsz), .int (nI btm), .int (nI bft), .int bkp]))), (b1, .inl (.inl (kA 1, 6, .inl blo))), (v, .inl (.inr (4, [.ref v0, .ref v1, .ref v2, .ref v3, .int vbk]))), (v0, .inr (kA 6, kA 1, 10, 45, .inl vls)), (v1, .inl (.inl (kA 1, 6, .inl vss))), (v3, .inl (.inl (kA 2, 2, .inr (.inl vrd)))), (s, .inl (.inr (5, [.ref s0, .ref s1, .ref s2, .ref s3, .ref s4, .ref s5, .ref s6, .ref s7, .ref s8, .ref s9, .ref s10, .ref s11, .int (nI sn), .int (nI sl), .int (nI se)])))]) [(0, .ref L), (1, .int (nI j8864)), (2, .int (nI j8868)), (3, .int (nI j8872)), (4, .int 0)] 0 0 77 [.int (-1), .int (-1)]
              refine j_icmp_ne h 82 dX11_alike_77 (by decide) (fun q => absurd (by decide) q) (fun _ => ?_)
              refine j_iconst (v := 0) h (by decide) dX11_alike_80 ?_
              exact jm_iret h hq dX11_alike_81 (vbk, vls, vss, vrd) [0, 14, 1, 2, 3, 4, 5, 6, 7, 8, 9, 10, 11, 12, 13] rfl (by decide) trivial (Nat.le_of_ble_eq_true rfl) (Nat.le_of_ble_eq_true rfl)
            · show J x (mflat [(L, .inl (.inr (11, [.ref t, .ref rd, .ref s, .ref zz, .ref b, .ref bx, .ref tx, .ref so, .ref bd, .ref g, .ref gq, .ref v, .ref sk, .ref d, .ref fh, .ref sh, .ref ly, .int lsz, .int (nI tod)]))), (s1, .inl (.inl (kA 1, 6, .inl sc1))), (s5, .inl (.inl (kA 1, 10, .inl sc5))), (s6, .inr (kA 6, kA 1, 10, 5, .inl sc6)), (s7, .inl (.inl (kA 1, 10, .inl sc7))), (s8, .inr (kA 6, kA 1, 10, 2, .inl sc8)), (s10, .inl (.inl (kA 1, 4, .inl sc10))), (s11, .inl (.inl (kA 1, 4, .inl sc11))), (b, .inl (.inr (2, [.ref b0, .ref b1, .int (nI bsz), .int (nI btm), .int (nI bft), .int bkp]))), (b1, .inl (.inl (kA 1, 6, .inl blo))), (v, .inl (.inr (4, [.ref v0, .ref v1, .ref v2, .ref v3, .int vbk]))), (v0, .inr (kA 6, kA 1, 10, 45, .inl vls)), (v1, .inl (.inl (kA 1, 6, .inl vss))), (v3, .inl (.inl (kA 2, 2, .inr (.inl vrd)))), (s, .inl (.inr (5, [.ref s0, .ref s1, .ref s2, .ref s3, .ref s4, .ref s5, .ref s6, .ref s7, .ref s8, .ref s9, .ref s10, .ref s11, .int (nI sn), .int (nI sl), .int (nI se)])))]) [(0, .ref L), (1, .int (nI j8864)), (2, .int (nI j8868)), (3, .int (nI j8872)), (4, .int 0)] 0 0 77 [.int (-1), .int (nI j8881)]
              refine j_icmp_ne h 82 dX11_alike_77 (by decide) (fun _ => ?_) (fun q => absurd q (nI_m1 (by omega)))
              refine j_aload_n h 0 rfl rfl dX11_alike_82 ?_
              refine jm_get h iw_X11 0 rfl rfl 11 (by decide +kernel) tw_486 rfl dX11_alike_83 ?_
              refine j_aload_n h 0 rfl rfl dX11_alike_86 ?_
              refine jm_get h iw_X11 0 rfl rfl 2 (by decide +kernel) tw_477 rfl dX11_alike_87 ?_
              refine j_aload_n h 0 rfl rfl dX11_alike_90 ?_
              refine jm_get h iw_X11 0 rfl rfl 4 (by decide +kernel) tw_479 rfl dX11_alike_91 ?_
              refine jm_get h iw_X2 8 rfl rfl 1 (by decide +kernel) tw_273 rfl dX11_alike_94 ?_
              refine j_iload_n h 1 rfl rfl dX11_alike_97 ?_
              refine jm_callVv (np := 3) (isC := [10, 11, 12, 13, 14, 1, 2, 3, 6, 7, 9]) (isR := [0, 4, 5, 8]) (wc := [(v, .inl (.inr (4, [.ref v0, .ref v1, .ref v2, .ref v3, .int vbk]))), (v0, .inr (kA 6, kA 1, 10, 45, .inl vls)), (v1, .inl (.inl (kA 1, 6, .inl vss))), (v3, .inl (.inl (kA 2, 2, .inr (.inl vrd)))), (s, .inl (.inr (5, [.ref s0, .ref s1, .ref s2, .ref s3, .ref s4, .ref s5, .ref s6, .ref s7, .ref s8, .ref s9, .ref s10, .ref s11, .int (nI sn), .int (nI sl), .int (nI se)]))), (s1, .inl (.inl (kA 1, 6, .inl sc1))), (s5, .inl (.inl (kA 1, 10, .inl sc5))), (s6, .inr (kA 6, kA 1, 10, 5, .inl sc6)), (s10, .inl (.inl (kA 1, 4, .inl sc10))), (s11, .inl (.inl (kA 1, 4, .inl sc11))), (b1, .inl (.inl (kA 1, 6, .inl blo)))]) (wr := [(L, .inl (.inr (11, [.ref t, .ref rd, .ref s, .ref zz, .ref b, .ref bx, .ref tx, .ref so, .ref bd, .ref g, .ref gq, .ref v, .ref sk, .ref d, .ref fh, .ref sh, .ref ly, .int lsz, .int (nI tod)]))), (s7, .inl (.inl (kA 1, 10, .inl sc7))), (s8, .inr (kA 6, kA 1, 10, 2, .inl sc8)), (b, .inl (.inr (2, [.ref b0, .ref b1, .int (nI bsz), .int (nI btm), .int (nI bft), .int bkp])))]) (rest := []) (As := [.ref s, .ref b1, .int (nI j8864)]) (q0 := 0) h (s_X4_learn _ _ kA v s b1 (nI j8864) v0 v1 v2 v3 vbk vls vss vrd s0 s1 s2 s3 s4 s5 s6 s7 s8 s9 s10 s11 sn sl se sc1 sc5 sc6 sc10 sc11 blo (show sn ≤ 6 by first | assumption | omega) (show sl ≤ 10 by first | assumption | omega) (show se ≤ 4 by first | assumption | omega) (show TkOk sn sc1 by first | assumption | (intro _; assumption) | omega) (show SzOk sl sc5 by first | assumption | (intro _; assumption) | omega) (show RwOk sl sn sc5 sc6 by first | assumption | (intro _; assumption) | omega)) tw_896 tw_897 tw_898 tw_96 tw_899 (by decide +kernel) rfl ⟨Nat.le_of_ble_eq_true rfl, Nat.le_of_ble_eq_true rfl⟩ rfl rfl (by decide +kernel) rfl rfl (by decide +kernel) (by decide +kernel) (Nat.le_of_ble_eq_true rfl) rfl ⟨Nat.le_of_ble_eq_true rfl, Nat.le_of_ble_eq_true rfl⟩ dX11_alike_98 ?_
              rintro ⟨q8882, q8883, q8884, q8885⟩ e8886
              show J x (mflat [(L, .inl (.inr (11, [.ref t, .ref rd, .ref s, .ref zz, .ref b, .ref bx, .ref tx, .ref so, .ref bd, .ref g, .ref gq, .ref v, .ref sk, .ref d, .ref fh, .ref sh, .ref ly, .int lsz, .int (nI tod)]))), (s7, .inl (.inl (kA 1, 10, .inl sc7))), (s8, .inr (kA 6, kA 1, 10, 2, .inl sc8)), (b, .inl (.inr (2, [.ref b0, .ref b1, .int (nI bsz), .int (nI btm), .int (nI bft), .int bkp]))), (v, .inl (.inr (4, [.ref v0, .ref v1, .ref v2, .ref v3, .int q8882]))), (v0, .inr (kA 6, kA 1, 10, 45, .inl q8883)), (v1, .inl (.inl (kA 1, 6, .inl q8884))), (v3, .inl (.inl (kA 2, 2, .inr (.inl q8885)))), (s, .inl (.inr (5, [.ref s0, .ref s1, .ref s2, .ref s3, .ref s4, .ref s5, .ref s6, .ref s7, .ref s8, .ref s9, .ref s10, .ref s11, .int (nI sn), .int (nI sl), .int (nI se)]))), (s1, .inl (.inl (kA 1, 6, .inl sc1))), (s5, .inl (.inl (kA 1, 10, .inl sc5))), (s6, .inr (kA 6, kA 1, 10, 5, .inl sc6)), (s10, .inl (.inl (kA 1, 4, .inl sc10))), (s11, .inl (.inl (kA 1, 4, .inl sc11))), (b1, .inl (.inl (kA 1, 6, .inl blo)))]) [(0, .ref L), (1, .int (nI j8864)), (2, .int (nI j8868)), (3, .int (nI j8872)), (4, .int 0)] 0 0 101 []
              refine j_aload_n h 0 rfl rfl dX11_alike_101 ?_
              refine jm_get h iw_X11 0 rfl rfl 11 (by decide +kernel) tw_486 rfl dX11_alike_102 ?_
              refine j_aload_n h 0 rfl rfl dX11_alike_105 ?_
              refine jm_get h iw_X11 0 rfl rfl 2 (by decide +kernel) tw_477 rfl dX11_alike_106 ?_
              refine j_iload_n h 2 rfl rfl dX11_alike_109 ?_
              refine j_iload_n h 3 rfl rfl dX11_alike_110 ?_
              refine jm_callVi (np := 3) (isC := [4, 5, 8, 1]) (isR := [0, 2, 3, 6, 7, 9, 10, 11, 12, 13, 14]) (wc := [(v, .inl (.inr (4, [.ref v0, .ref v1, .ref v2, .ref v3, .int q8882]))), (v0, .inr (kA 6, kA 1, 10, 45, .inl q8883)), (s, .inl (.inr (5, [.ref s0, .ref s1, .ref s2, .ref s3, .ref s4, .ref s5, .ref s6, .ref s7, .ref s8, .ref s9, .ref s10, .ref s11, .int (nI sn), .int (nI sl), .int (nI se)]))), (s7, .inl (.inl (kA 1, 10, .inl sc7)))]) (wr := [(L, .inl (.inr (11, [.ref t, .ref rd, .ref s, .ref zz, .ref b, .ref bx, .ref tx, .ref so, .ref bd, .ref g, .ref gq, .ref v, .ref sk, .ref d, .ref fh, .ref sh, .ref ly, .int lsz, .int (nI tod)]))), (s8, .inr (kA 6, kA 1, 10, 2, .inl sc8)), (b, .inl (.inr (2, [.ref b0, .ref b1, .int (nI bsz), .int (nI btm), .int (nI bft), .int bkp]))), (v1, .inl (.inl (kA 1, 6, .inl q8884))), (v3, .inl (.inl (kA 2, 2, .inr (.inl q8885)))), (s1, .inl (.inl (kA 1, 6, .inl sc1))), (s5, .inl (.inl (kA 1, 10, .inl sc5))), (s6, .inr (kA 6, kA 1, 10, 5, .inl sc6)), (s10, .inl (.inl (kA 1, 4, .inl sc10))), (s11, .inl (.inl (kA 1, 4, .inl sc11))), (b1, .inl (.inl (kA 1, 6, .inl blo)))]) (rest := []) (As := [.ref s, .int (nI j8868), .int (nI j8872)]) (q0 := 0) h (s_X4_soundsSame _ _ kA v s j8868 j8872 v0 v1 v2 v3 q8882 q8883 s0 s1 s2 s3 s4 s5 s6 s7 s8 s9 s10 s11 sn sl se sc7 (show sn ≤ 6 by first | assumption | omega) (show sl ≤ 10 by first | assumption | omega) (show se ≤ 4 by first | assumption | omega) (show LtOk sl sc7 by first | assumption | exact LtOk_of (by assumption) | (intro _; assumption) | omega) (show j8868 < sl by first | assumption | omega) (show j8872 < sl by first | assumption | omega)) tw_939 tw_940 tw_941 tw_96 tw_942 (by decide +kernel) rfl ⟨Nat.le_of_ble_eq_true rfl, Nat.le_of_ble_eq_true rfl⟩ rfl rfl (by decide +kernel) rfl rfl (by decide +kernel) (by decide +kernel) (Nat.le_of_ble_eq_true rfl) rfl ⟨Nat.le_of_ble_eq_true rfl, Nat.le_of_ble_eq_true rfl⟩ dX11_alike_111 ?_
              rintro r8890 q8888 e8889
              obtain ⟨p8891, p8892⟩ := e8889
              subst p8891
              replace p8892 : q8888 ≤ 1 := p8892
              show J x (mflat [(L, .inl (.inr (11, [.ref t, .ref rd, .ref s, .ref zz, .ref b, .ref bx, .ref tx, .ref so, .ref bd, .ref g, .ref gq, .ref v, .ref sk, .ref d, .ref fh, .ref sh, .ref ly, .int lsz, .int (nI tod)]))), (s8, .inr (kA 6, kA 1, 10, 2, .inl sc8)), (b, .inl (.inr (2, [.ref b0, .ref b1, .int (nI bsz), .int (nI btm), .int (nI bft), .int bkp]))), (v1, .inl (.inl (kA 1, 6, .inl q8884))), (v3, .inl (.inl (kA 2, 2, .inr (.inl q8885)))), (s1, .inl (.inl (kA 1, 6, .inl sc1))), (s5, .inl (.inl (kA 1, 10, .inl sc5))), (s6, .inr (kA 6, kA 1, 10, 5, .inl sc6)), (s10, .inl (.inl (kA 1, 4, .inl sc10))), (s11, .inl (.inl (kA 1, 4, .inl sc11))), (b1, .inl (.inl (kA 1, 6, .inl blo))), (v, .inl (.inr (4, [.ref v0, .ref v1, .ref v2, .ref v3, .int q8882]))), (v0, .inr (kA 6, kA 1, 10, 45, .inl q8883)), (s, .inl (.inr (5, [.ref s0, .ref s1, .ref s2, .ref s3, .ref s4, .ref s5, .ref s6, .ref s7, .ref s8, .ref s9, .ref s10, .ref s11, .int (nI sn), .int (nI sl), .int (nI se)]))), (s7, .inl (.inl (kA 1, 10, .inl sc7)))]) [(0, .ref L), (1, .int (nI j8864)), (2, .int (nI j8868)), (3, .int (nI j8872)), (4, .int 0)] 0 0 114 [.int (nI q8888)]
              refine j_if_eq h 121 dX11_alike_114 (by decide) (fun z8893 => ?_) (fun z8893 => ?_)
              · have z8893n : q8888 = 0 := (nI_eq (a := q8888) (b := 0) (by omega) (by omega)).mp z8893
                refine j_iconst (v := 0) h (by decide) dX11_alike_121 ?_
                exact jm_iret h hq dX11_alike_122 (q8882, q8883, q8884, q8885) [0, 13, 5, 6, 7, 14, 1, 8, 9, 2, 10, 11, 12, 3, 4] rfl (by decide) trivial (Nat.le_of_ble_eq_true rfl) (Nat.le_of_ble_eq_true rfl)
              · have z8893n : ¬ q8888 = 0 := fun q9 => z8893 ((nI_eq (a := q8888) (b := 0) (by omega) (by omega)).mpr q9)
                refine j_iconst (v := 1) h (by decide) dX11_alike_117 ?_
                refine j_goto h 122 dX11_alike_118 (by decide) ?_
                exact jm_iret h hq dX11_alike_122 (q8882, q8883, q8884, q8885) [0, 13, 5, 6, 7, 14, 1, 8, 9, 2, 10, 11, 12, 3, 4] rfl (by decide) trivial (Nat.le_of_ble_eq_true rfl) (Nat.le_of_ble_eq_true rfl)
        · show J x (mflat [(L, .inl (.inr (11, [.ref t, .ref rd, .ref s, .ref zz, .ref b, .ref bx, .ref tx, .ref so, .ref bd, .ref g, .ref gq, .ref v, .ref sk, .ref d, .ref fh, .ref sh, .ref ly, .int lsz, .int (nI tod)]))), (s1, .inl (.inl (kA 1, 6, .inl sc1))), (s5, .inl (.inl (kA 1, 10, .inl sc5))), (s6, .inr (kA 6, kA 1, 10, 5, .inl sc6)), (s7, .inl (.inl (kA 1, 10, .inl sc7))), (s8, .inr (kA 6, kA 1, 10, 2, .inl sc8)), (s10, .inl (.inl (kA 1, 4, .inl sc10))), (s11, .inl (.inl (kA 1, 4, .inl sc11))), (b, .inl (.inr (2, [.ref b0, .ref b1, .int (nI bsz), .int (nI btm), .int (nI bft), .int bkp]))), (b1, .inl (.inl (kA 1, 6, .inl blo))), (v, .inl (.inr (4, [.ref v0, .ref v1, .ref v2, .ref v3, .int vbk]))), (v0, .inr (kA 6, kA 1, 10, 45, .inl vls)), (v1, .inl (.inl (kA 1, 6, .inl vss))), (v3, .inl (.inl (kA 2, 2, .inr (.inl vrd)))), (s, .inl (.inr (5, [.ref s0, .ref s1, .ref s2, .ref s3, .ref s4, .ref s5, .ref s6, .ref s7, .ref s8, .ref s9, .ref s10, .ref s11, .int (nI sn), .int (nI sl), .int (nI se)])))]) [(0, .ref L), (1, .int (nI j8864)), (2, .int (nI j8868)), (3, .int (nI j8872)), (4, .int fo)] 0 0 40 []
          refine j_iload h 4 rfl dX11_alike_40 ?_
          refine j_iconst (v := 1) h (by decide) dX11_alike_42 ?_
          refine j_icmp_eq h 48 dX11_alike_43 (by decide) (fun z8894 => ?_) (fun z8894 => ?_)
          · subst z8894
            show J x (mflat [(L, .inl (.inr (11, [.ref t, .ref rd, .ref s, .ref zz, .ref b, .ref bx, .ref tx, .ref so, .ref bd, .ref g, .ref gq, .ref v, .ref sk, .ref d, .ref fh, .ref sh, .ref ly, .int lsz, .int (nI tod)]))), (s1, .inl (.inl (kA 1, 6, .inl sc1))), (s5, .inl (.inl (kA 1, 10, .inl sc5))), (s6, .inr (kA 6, kA 1, 10, 5, .inl sc6)), (s7, .inl (.inl (kA 1, 10, .inl sc7))), (s8, .inr (kA 6, kA 1, 10, 2, .inl sc8)), (s10, .inl (.inl (kA 1, 4, .inl sc10))), (s11, .inl (.inl (kA 1, 4, .inl sc11))), (b, .inl (.inr (2, [.ref b0, .ref b1, .int (nI bsz), .int (nI btm), .int (nI bft), .int bkp]))), (b1, .inl (.inl (kA 1, 6, .inl blo))), (v, .inl (.inr (4, [.ref v0, .ref v1, .ref v2, .ref v3, .int vbk]))), (v0, .inr (kA 6, kA 1, 10, 45, .inl vls)), (v1, .inl (.inl (kA 1, 6, .inl vss))), (v3, .inl (.inl (kA 2, 2, .inr (.inl vrd)))), (s, .inl (.inr (5, [.ref s0, .ref s1, .ref s2, .ref s3, .ref s4, .ref s5, .ref s6, .ref s7, .ref s8, .ref s9, .ref s10, .ref s11, .int (nI sn), .int (nI sl), .int (nI se)])))]) [(0, .ref L), (1, .int (nI j8864)), (2, .int (nI j8868)), (3, .int (nI j8872)), (4, .int 1)] 0 0 48 []
            refine j_aload_n h 0 rfl rfl dX11_alike_48 ?_
            refine jm_get h iw_X11 0 rfl rfl 2 (by decide +kernel) tw_477 rfl dX11_alike_49 ?_
            refine jm_get h iw_X5 14 rfl rfl 8 (by decide +kernel) tw_208 rfl dX11_alike_52 ?_
            refine j_iload_n h 2 rfl rfl dX11_alike_55 ?_
            refine jm_gout h 5 6 rfl rfl j8868 rfl (by omega) (by omega) dX11_alike_56 ?_
            refine j_iload h 4 rfl dX11_alike_57 ?_
            refine jm_gald h 5 rfl j8868 (by omega) 1 (by decide +kernel) (by decide +kernel) (by omega) dX11_alike_59 ?_
            obtain ⟨t8895, u8896, u8897⟩ := (show FtOk sl sc8 by assumption) j8868 1 (by omega) (by omega)
            refine j_top (b := pm t8895) (u8897) ?_
            refine j_iconst (v := (-1)) h (by decide) dX11_alike_60 ?_
            rcases t8895 with _ | j8898
            · show J x (mflat [(L, .inl (.inr (11, [.ref t, .ref rd, .ref s, .ref zz, .ref b, .ref bx, .ref tx, .ref so, .ref bd, .ref g, .ref gq, .ref v, .ref sk, .ref d, .ref fh, .ref sh, .ref ly, .int lsz, .int (nI tod)]))), (s1, .inl (.inl (kA 1, 6, .inl sc1))), (s5, .inl (.inl (kA 1, 10, .inl sc5))), (s6, .inr (kA 6, kA 1, 10, 5, .inl sc6)), (s7, .inl (.inl (kA 1, 10, .inl sc7))), (s8, .inr (kA 6, kA 1, 10, 2, .inl sc8)), (s10, .inl (.inl (kA 1, 4, .inl sc10))), (s11, .inl (.inl (kA 1, 4, .inl sc11))), (b, .inl (.inr (2, [.ref b0, .ref b1, .int (nI bsz), .int (nI btm), .int (nI bft), .int bkp]))), (b1, .inl (.inl (kA 1, 6, .inl blo))), (v, .inl (.inr (4, [.ref v0, .ref v1, .ref v2, .ref v3, .int vbk]))), (v0, .inr (kA 6, kA 1, 10, 45, .inl vls)), (v1, .inl (.inl (kA 1, 6, .inl vss))), (v3, .inl (.inl (kA 2, 2, .inr (.inl vrd)))), (s, .inl (.inr (5, [.ref s0, .ref s1, .ref s2, .ref s3, .ref s4, .ref s5, .ref s6, .ref s7, .ref s8, .ref s9, .ref s10, .ref s11, .int (nI sn), .int (nI sl), .int (nI se)])))]) [(0, .ref L), (1, .int (nI j8864)), (2, .int (nI j8868)), (3, .int (nI j8872)), (4, .int 1)] 0 0 61 [.int (-1), .int (-1)]
              refine j_icmp_eq h 80 dX11_alike_61 (by decide) (fun _ => ?_) (fun q => absurd (by decide) q)
              refine j_iconst (v := 0) h (by decide) dX11_alike_80 ?_
              exact jm_iret h hq dX11_alike_81 (vbk, vls, vss, vrd) [0, 14, 1, 2, 3, 4, 5, 6, 7, 8, 9, 10, 11, 12, 13] rfl (by decide) trivial (Nat.le_of_ble_eq_true rfl) (Nat.le_of_ble_eq_true rfl)
            · show J x (mflat [(L, .inl (.inr (11, [.ref t, .ref rd, .ref s, .ref zz, .ref b, .ref bx, .ref tx, .ref so, .ref bd, .ref g, .ref gq, .ref v, .ref sk, .ref d, .ref fh, .ref sh, .ref ly, .int lsz, .int (nI tod)]))), (s1, .inl (.inl (kA 1, 6, .inl sc1))), (s5, .inl (.inl (kA 1, 10, .inl sc5))), (s6, .inr (kA 6, kA 1, 10, 5, .inl sc6)), (s7, .inl (.inl (kA 1, 10, .inl sc7))), (s8, .inr (kA 6, kA 1, 10, 2, .inl sc8)), (s10, .inl (.inl (kA 1, 4, .inl sc10))), (s11, .inl (.inl (kA 1, 4, .inl sc11))), (b, .inl (.inr (2, [.ref b0, .ref b1, .int (nI bsz), .int (nI btm), .int (nI bft), .int bkp]))), (b1, .inl (.inl (kA 1, 6, .inl blo))), (v, .inl (.inr (4, [.ref v0, .ref v1, .ref v2, .ref v3, .int vbk]))), (v0, .inr (kA 6, kA 1, 10, 45, .inl vls)), (v1, .inl (.inl (kA 1, 6, .inl vss))), (v3, .inl (.inl (kA 2, 2, .inr (.inl vrd)))), (s, .inl (.inr (5, [.ref s0, .ref s1, .ref s2, .ref s3, .ref s4, .ref s5, .ref s6, .ref s7, .ref s8, .ref s9, .ref s10, .ref s11, .int (nI sn), .int (nI sl), .int (nI se)])))]) [(0, .ref L), (1, .int (nI j8864)), (2, .int (nI j8868)), (3, .int (nI j8872)), (4, .int 1)] 0 0 61 [.int (-1), .int (nI j8898)]
              refine j_icmp_eq h 80 dX11_alike_61 (by decide) (fun q => absurd q (nI_m1 (by omega))) (fun _ => ?_)
              refine j_aload_n h 0 rfl rfl dX11_alike_64 ?_
              refine jm_get h iw_X11 0 rfl rfl 2 (by decide +kernel) tw_477 rfl dX11_alike_65 ?_
              refine jm_get h iw_X5 14 rfl rfl 8 (by decide +kernel) tw_208 rfl dX11_alike_68 ?_
              refine j_iload_n h 3 rfl rfl dX11_alike_71 ?_
              refine jm_gout h 5 6 rfl rfl j8872 rfl (by omega) (by omega) dX11_alike_72 ?_
              refine j_iload h 4 rfl dX11_alike_73 ?_
              refine jm_gald h 5 rfl j8872 (by omega) 1 (by decide +kernel) (by decide +kernel) (by omega) dX11_alike_75 ?_
              obtain ⟨t8899, u8900, u8901⟩ := (show FtOk sl sc8 by assumption) j8872 1 (by omega) (by omega)
              refine j_top (b := pm t8899) (u8901) ?_
              refine j_iconst (v := (-1)) h (by decide) dX11_alike_76 ?_
              rcases t8899 with _ | j8902
              · show J x (mflat [(L, .inl (.inr (11, [.ref t, .ref rd, .ref s, .ref zz, .ref b, .ref bx, .ref tx, .ref so, .ref bd, .ref g, .ref gq, .ref v, .ref sk, .ref d, .ref fh, .ref sh, .ref ly, .int lsz, .int (nI tod)]))), (s1, .inl (.inl (kA 1, 6, .inl sc1))), (s5, .inl (.inl (kA 1, 10, .inl sc5))), (s6, .inr (kA 6, kA 1, 10, 5, .inl sc6)), (s7, .inl (.inl (kA 1, 10, .inl sc7))), (s8, .inr (kA 6, kA 1, 10, 2, .inl sc8)), (s10, .inl (.inl (kA 1, 4, .inl sc10))), (s11, .inl (.inl (kA 1, 4, .inl sc11))), (b, .inl (.inr (2, [.ref b0, .ref b1, .int (nI bsz), .int (nI btm), .int (nI bft), .int bkp]))), (b1, .inl (.inl (kA 1, 6, .inl blo))), (v, .inl (.inr (4, [.ref v0, .ref v1, .ref v2, .ref v3, .int vbk]))), (v0, .inr (kA 6, kA 1, 10, 45, .inl vls)), (v1, .inl (.inl (kA 1, 6, .inl vss))), (v3, .inl (.inl (kA 2, 2, .inr (.inl vrd)))), (s, .inl (.inr (5, [.ref s0, .ref s1, .ref s2, .ref s3, .ref s4, .ref s5, .ref s6, .ref s7, .ref s8, .ref s9, .ref s10, .ref s11, .int (nI sn), .int (nI sl), .int (nI se)])))]) [(0, .ref L), (1, .int (nI j8864)), (2, .int (nI j8868)), (3, .int (nI j8872)), (4, .int 1)] 0 0 77 [.int (-1), .int (-1)]
                refine j_icmp_ne h 82 dX11_alike_77 (by decide) (fun q => absurd (by decide) q) (fun _ => ?_)
                refine j_iconst (v := 0) h (by decide) dX11_alike_80 ?_
                exact jm_iret h hq dX11_alike_81 (vbk, vls, vss, vrd) [0, 14, 1, 2, 3, 4, 5, 6, 7, 8, 9, 10, 11, 12, 13] rfl (by decide) trivial (Nat.le_of_ble_eq_true rfl) (Nat.le_of_ble_eq_true rfl)
              · show J x (mflat [(L, .inl (.inr (11, [.ref t, .ref rd, .ref s, .ref zz, .ref b, .ref bx, .ref tx, .ref so, .ref bd, .ref g, .ref gq, .ref v, .ref sk, .ref d, .ref fh, .ref sh, .ref ly, .int lsz, .int (nI tod)]))), (s1, .inl (.inl (kA 1, 6, .inl sc1))), (s5, .inl (.inl (kA 1, 10, .inl sc5))), (s6, .inr (kA 6, kA 1, 10, 5, .inl sc6)), (s7, .inl (.inl (kA 1, 10, .inl sc7))), (s8, .inr (kA 6, kA 1, 10, 2, .inl sc8)), (s10, .inl (.inl (kA 1, 4, .inl sc10))), (s11, .inl (.inl (kA 1, 4, .inl sc11))), (b, .inl (.inr (2, [.ref b0, .ref b1, .int (nI bsz), .int (nI btm), .int (nI bft), .int bkp]))), (b1, .inl (.inl (kA 1, 6, .inl blo))), (v, .inl (.inr (4, [.ref v0, .ref v1, .ref v2, .ref v3, .int vbk]))), (v0, .inr (kA 6, kA 1, 10, 45, .inl vls)), (v1, .inl (.inl (kA 1, 6, .inl vss))), (v3, .inl (.inl (kA 2, 2, .inr (.inl vrd)))), (s, .inl (.inr (5, [.ref s0, .ref s1, .ref s2, .ref s3, .ref s4, .ref s5, .ref s6, .ref s7, .ref s8, .ref s9, .ref s10, .ref s11, .int (nI sn), .int (nI sl), .int (nI se)])))]) [(0, .ref L), (1, .int (nI j8864)), (2, .int (nI j8868)), (3, .int (nI j8872)), (4, .int 1)] 0 0 77 [.int (-1), .int (nI j8902)]
                refine j_icmp_ne h 82 dX11_alike_77 (by decide) (fun _ => ?_) (fun q => absurd q (nI_m1 (by omega)))
                refine j_aload_n h 0 rfl rfl dX11_alike_82 ?_
                refine jm_get h iw_X11 0 rfl rfl 11 (by decide +kernel) tw_486 rfl dX11_alike_83 ?_
                refine j_aload_n h 0 rfl rfl dX11_alike_86 ?_
                refine jm_get h iw_X11 0 rfl rfl 2 (by decide +kernel) tw_477 rfl dX11_alike_87 ?_
                refine j_aload_n h 0 rfl rfl dX11_alike_90 ?_
                refine jm_get h iw_X11 0 rfl rfl 4 (by decide +kernel) tw_479 rfl dX11_alike_91 ?_
                refine jm_get h iw_X2 8 rfl rfl 1 (by decide +kernel) tw_273 rfl dX11_alike_94 ?_
                refine j_iload_n h 1 rfl rfl dX11_alike_97 ?_
                refine jm_callVv (np := 3) (isC := [10, 11, 12, 13, 14, 1, 2, 3, 6, 7, 9]) (isR := [0, 4, 5, 8]) (wc := [(v, .inl (.inr (4, [.ref v0, .ref v1, .ref v2, .ref v3, .int vbk]))), (v0, .inr (kA 6, kA 1, 10, 45, .inl vls)), (v1, .inl (.inl (kA 1, 6, .inl vss))), (v3, .inl (.inl (kA 2, 2, .inr (.inl vrd)))), (s, .inl (.inr (5, [.ref s0, .ref s1, .ref s2, .ref s3, .ref s4, .ref s5, .ref s6, .ref s7, .ref s8, .ref s9, .ref s10, .ref s11, .int (nI sn), .int (nI sl), .int (nI se)]))), (s1, .inl (.inl (kA 1, 6, .inl sc1))), (s5, .inl (.inl (kA 1, 10, .inl sc5))), (s6, .inr (kA 6, kA 1, 10, 5, .inl sc6)), (s10, .inl (.inl (kA 1, 4, .inl sc10))), (s11, .inl (.inl (kA 1, 4, .inl sc11))), (b1, .inl (.inl (kA 1, 6, .inl blo)))]) (wr := [(L, .inl (.inr (11, [.ref t, .ref rd, .ref s, .ref zz, .ref b, .ref bx, .ref tx, .ref so, .ref bd, .ref g, .ref gq, .ref v, .ref sk, .ref d, .ref fh, .ref sh, .ref ly, .int lsz, .int (nI tod)]))), (s7, .inl (.inl (kA 1, 10, .inl sc7))), (s8, .inr (kA 6, kA 1, 10, 2, .inl sc8)), (b, .inl (.inr (2, [.ref b0, .ref b1, .int (nI bsz), .int (nI btm), .int (nI bft), .int bkp])))]) (rest := []) (As := [.ref s, .ref b1, .int (nI j8864)]) (q0 := 0) h (s_X4_learn _ _ kA v s b1 (nI j8864) v0 v1 v2 v3 vbk vls vss vrd s0 s1 s2 s3 s4 s5 s6 s7 s8 s9 s10 s11 sn sl se sc1 sc5 sc6 sc10 sc11 blo (show sn ≤ 6 by first | assumption | omega) (show sl ≤ 10 by first | assumption | omega) (show se ≤ 4 by first | assumption | omega) (show TkOk sn sc1 by first | assumption | (intro _; assumption) | omega) (show SzOk sl sc5 by first | assumption | (intro _; assumption) | omega) (show RwOk sl sn sc5 sc6 by first | assumption | (intro _; assumption) | omega)) tw_896 tw_897 tw_898 tw_96 tw_899 (by decide +kernel) rfl ⟨Nat.le_of_ble_eq_true rfl, Nat.le_of_ble_eq_true rfl⟩ rfl rfl (by decide +kernel) rfl rfl (by decide +kernel) (by decide +kernel) (Nat.le_of_ble_eq_true rfl) rfl ⟨Nat.le_of_ble_eq_true rfl, Nat.le_of_ble_eq_true rfl⟩ dX11_alike_98 ?_
                rintro ⟨q8903, q8904, q8905, q8906⟩ e8907
                show J x (mflat [(L, .inl (.inr (11, [.ref t, .ref rd, .ref s, .ref zz, .ref b, .ref bx, .ref tx, .ref so, .ref bd, .ref g, .ref gq, .ref v, .ref sk, .ref d, .ref fh, .ref sh, .ref ly, .int lsz, .int (nI tod)]))), (s7, .inl (.inl (kA 1, 10, .inl sc7))), (s8, .inr (kA 6, kA 1, 10, 2, .inl sc8)), (b, .inl (.inr (2, [.ref b0, .ref b1, .int (nI bsz), .int (nI btm), .int (nI bft), .int bkp]))), (v, .inl (.inr (4, [.ref v0, .ref v1, .ref v2, .ref v3, .int q8903]))), (v0, .inr (kA 6, kA 1, 10, 45, .inl q8904)), (v1, .inl (.inl (kA 1, 6, .inl q8905))), (v3, .inl (.inl (kA 2, 2, .inr (.inl q8906)))), (s, .inl (.inr (5, [.ref s0, .ref s1, .ref s2, .ref s3, .ref s4, .ref s5, .ref s6, .ref s7, .ref s8, .ref s9, .ref s10, .ref s11, .int (nI sn), .int (nI sl), .int (nI se)]))), (s1, .inl (.inl (kA 1, 6, .inl sc1))), (s5, .inl (.inl (kA 1, 10, .inl sc5))), (s6, .inr (kA 6, kA 1, 10, 5, .inl sc6)), (s10, .inl (.inl (kA 1, 4, .inl sc10))), (s11, .inl (.inl (kA 1, 4, .inl sc11))), (b1, .inl (.inl (kA 1, 6, .inl blo)))]) [(0, .ref L), (1, .int (nI j8864)), (2, .int (nI j8868)), (3, .int (nI j8872)), (4, .int 1)] 0 0 101 []
                refine j_aload_n h 0 rfl rfl dX11_alike_101 ?_
                refine jm_get h iw_X11 0 rfl rfl 11 (by decide +kernel) tw_486 rfl dX11_alike_102 ?_
                refine j_aload_n h 0 rfl rfl dX11_alike_105 ?_
                refine jm_get h iw_X11 0 rfl rfl 2 (by decide +kernel) tw_477 rfl dX11_alike_106 ?_
                refine j_iload_n h 2 rfl rfl dX11_alike_109 ?_
                refine j_iload_n h 3 rfl rfl dX11_alike_110 ?_
                refine jm_callVi (np := 3) (isC := [4, 5, 8, 1]) (isR := [0, 2, 3, 6, 7, 9, 10, 11, 12, 13, 14]) (wc := [(v, .inl (.inr (4, [.ref v0, .ref v1, .ref v2, .ref v3, .int q8903]))), (v0, .inr (kA 6, kA 1, 10, 45, .inl q8904)), (s, .inl (.inr (5, [.ref s0, .ref s1, .ref s2, .ref s3, .ref s4, .ref s5, .ref s6, .ref s7, .ref s8, .ref s9, .ref s10, .ref s11, .int (nI sn), .int (nI sl), .int (nI se)]))), (s7, .inl (.inl (kA 1, 10, .inl sc7)))]) (wr := [(L, .inl (.inr (11, [.ref t, .ref rd, .ref s, .ref zz, .ref b, .ref bx, .ref tx, .ref so, .ref bd, .ref g, .ref gq, .ref v, .ref sk, .ref d, .ref fh, .ref sh, .ref ly, .int lsz, .int (nI tod)]))), (s8, .inr (kA 6, kA 1, 10, 2, .inl sc8)), (b, .inl (.inr (2, [.ref b0, .ref b1, .int (nI bsz), .int (nI btm), .int (nI bft), .int bkp]))), (v1, .inl (.inl (kA 1, 6, .inl q8905))), (v3, .inl (.inl (kA 2, 2, .inr (.inl q8906)))), (s1, .inl (.inl (kA 1, 6, .inl sc1))), (s5, .inl (.inl (kA 1, 10, .inl sc5))), (s6, .inr (kA 6, kA 1, 10, 5, .inl sc6)), (s10, .inl (.inl (kA 1, 4, .inl sc10))), (s11, .inl (.inl (kA 1, 4, .inl sc11))), (b1, .inl (.inl (kA 1, 6, .inl blo)))]) (rest := []) (As := [.ref s, .int (nI j8868), .int (nI j8872)]) (q0 := 0) h (s_X4_soundsSame _ _ kA v s j8868 j8872 v0 v1 v2 v3 q8903 q8904 s0 s1 s2 s3 s4 s5 s6 s7 s8 s9 s10 s11 sn sl se sc7 (show sn ≤ 6 by first | assumption | omega) (show sl ≤ 10 by first | assumption | omega) (show se ≤ 4 by first | assumption | omega) (show LtOk sl sc7 by first | assumption | exact LtOk_of (by assumption) | (intro _; assumption) | omega) (show j8868 < sl by first | assumption | omega) (show j8872 < sl by first | assumption | omega)) tw_939 tw_940 tw_941 tw_96 tw_942 (by decide +kernel) rfl ⟨Nat.le_of_ble_eq_true rfl, Nat.le_of_ble_eq_true rfl⟩ rfl rfl (by decide +kernel) rfl rfl (by decide +kernel) (by decide +kernel) (Nat.le_of_ble_eq_true rfl) rfl ⟨Nat.le_of_ble_eq_true rfl, Nat.le_of_ble_eq_true rfl⟩ dX11_alike_111 ?_
                rintro r8911 q8909 e8910
                obtain ⟨p8912, p8913⟩ := e8910
                subst p8912
                replace p8913 : q8909 ≤ 1 := p8913
                show J x (mflat [(L, .inl (.inr (11, [.ref t, .ref rd, .ref s, .ref zz, .ref b, .ref bx, .ref tx, .ref so, .ref bd, .ref g, .ref gq, .ref v, .ref sk, .ref d, .ref fh, .ref sh, .ref ly, .int lsz, .int (nI tod)]))), (s8, .inr (kA 6, kA 1, 10, 2, .inl sc8)), (b, .inl (.inr (2, [.ref b0, .ref b1, .int (nI bsz), .int (nI btm), .int (nI bft), .int bkp]))), (v1, .inl (.inl (kA 1, 6, .inl q8905))), (v3, .inl (.inl (kA 2, 2, .inr (.inl q8906)))), (s1, .inl (.inl (kA 1, 6, .inl sc1))), (s5, .inl (.inl (kA 1, 10, .inl sc5))), (s6, .inr (kA 6, kA 1, 10, 5, .inl sc6)), (s10, .inl (.inl (kA 1, 4, .inl sc10))), (s11, .inl (.inl (kA 1, 4, .inl sc11))), (b1, .inl (.inl (kA 1, 6, .inl blo))), (v, .inl (.inr (4, [.ref v0, .ref v1, .ref v2, .ref v3, .int q8903]))), (v0, .inr (kA 6, kA 1, 10, 45, .inl q8904)), (s, .inl (.inr (5, [.ref s0, .ref s1, .ref s2, .ref s3, .ref s4, .ref s5, .ref s6, .ref s7, .ref s8, .ref s9, .ref s10, .ref s11, .int (nI sn), .int (nI sl), .int (nI se)]))), (s7, .inl (.inl (kA 1, 10, .inl sc7)))]) [(0, .ref L), (1, .int (nI j8864)), (2, .int (nI j8868)), (3, .int (nI j8872)), (4, .int 1)] 0 0 114 [.int (nI q8909)]
                refine j_if_eq h 121 dX11_alike_114 (by decide) (fun z8914 => ?_) (fun z8914 => ?_)
                · have z8914n : q8909 = 0 := (nI_eq (a := q8909) (b := 0) (by omega) (by omega)).mp z8914
                  refine j_iconst (v := 0) h (by decide) dX11_alike_121 ?_
                  exact jm_iret h hq dX11_alike_122 (q8903, q8904, q8905, q8906) [0, 13, 5, 6, 7, 14, 1, 8, 9, 2, 10, 11, 12, 3, 4] rfl (by decide) trivial (Nat.le_of_ble_eq_true rfl) (Nat.le_of_ble_eq_true rfl)
                · have z8914n : ¬ q8909 = 0 := fun q9 => z8914 ((nI_eq (a := q8909) (b := 0) (by omega) (by omega)).mpr q9)
                  refine j_iconst (v := 1) h (by decide) dX11_alike_117 ?_
                  refine j_goto h 122 dX11_alike_118 (by decide) ?_
                  exact jm_iret h hq dX11_alike_122 (q8903, q8904, q8905, q8906) [0, 13, 5, 6, 7, 14, 1, 8, 9, 2, 10, 11, 12, 3, 4] rfl (by decide) trivial (Nat.le_of_ble_eq_true rfl) (Nat.le_of_ble_eq_true rfl)
          · show J x (mflat [(L, .inl (.inr (11, [.ref t, .ref rd, .ref s, .ref zz, .ref b, .ref bx, .ref tx, .ref so, .ref bd, .ref g, .ref gq, .ref v, .ref sk, .ref d, .ref fh, .ref sh, .ref ly, .int lsz, .int (nI tod)]))), (s1, .inl (.inl (kA 1, 6, .inl sc1))), (s5, .inl (.inl (kA 1, 10, .inl sc5))), (s6, .inr (kA 6, kA 1, 10, 5, .inl sc6)), (s7, .inl (.inl (kA 1, 10, .inl sc7))), (s8, .inr (kA 6, kA 1, 10, 2, .inl sc8)), (s10, .inl (.inl (kA 1, 4, .inl sc10))), (s11, .inl (.inl (kA 1, 4, .inl sc11))), (b, .inl (.inr (2, [.ref b0, .ref b1, .int (nI bsz), .int (nI btm), .int (nI bft), .int bkp]))), (b1, .inl (.inl (kA 1, 6, .inl blo))), (v, .inl (.inr (4, [.ref v0, .ref v1, .ref v2, .ref v3, .int vbk]))), (v0, .inr (kA 6, kA 1, 10, 45, .inl vls)), (v1, .inl (.inl (kA 1, 6, .inl vss))), (v3, .inl (.inl (kA 2, 2, .inr (.inl vrd)))), (s, .inl (.inr (5, [.ref s0, .ref s1, .ref s2, .ref s3, .ref s4, .ref s5, .ref s6, .ref s7, .ref s8, .ref s9, .ref s10, .ref s11, .int (nI sn), .int (nI sl), .int (nI se)])))]) [(0, .ref L), (1, .int (nI j8864)), (2, .int (nI j8868)), (3, .int (nI j8872)), (4, .int fo)] 0 0 46 []
            refine j_iconst (v := (-1)) h (by decide) dX11_alike_46 ?_
            exact jm_iret h hq dX11_alike_47 (vbk, vls, vss, vrd) [0, 14, 1, 2, 3, 4, 5, 6, 7, 8, 9, 10, 11, 12, 13] rfl (by decide) trivial (Nat.le_of_ble_eq_true rfl) (Nat.le_of_ble_eq_true rfl)
set_option maxHeartbeats 4000000 in
set_option maxRecDepth 100000 in
theorem s_X11_lies (lau : Launch) (gg : va_G) (kA : Nat → ClassId) (L : Nat) (i : Int32) (t : Nat) (rd : Nat) (s : Nat) (zz : Nat) (b : Nat) (bx : Nat) (tx : Nat) (so : Nat) (bd : Nat) (g : Nat) (gq : Nat) (v : Nat) (sk : Nat) (d : Nat) (fh : Nat) (sh : Nat) (ly : Nat) (lsz : Int32) (tod : Nat) (lyf : Nat → Int32) (htod : tod ≤ 100000) : CtI lau yX11_lies cX11_lies 2 (some .int) 1 0 0 gg kA [.ref L, .int i] (mflat [(L, .inl (.inr (11, [.ref t, .ref rd, .ref s, .ref zz, .ref b, .ref bx, .ref tx, .ref so, .ref bd, .ref g, .ref gq, .ref v, .ref sk, .ref d, .ref fh, .ref sh, .ref ly, .int lsz, .int (nI tod)]))), (ly, .inl (.inl (kA 1, 60, .inl lyf)))]) (S := Unit) (fun (r : Int32) (_ : Unit) => True) (fun (_ : Unit) => mflat [(L, .inl (.inr (11, [.ref t, .ref rd, .ref s, .ref zz, .ref b, .ref bx, .ref tx, .ref so, .ref bd, .ref g, .ref gq, .ref v, .ref sk, .ref d, .ref fh, .ref sh, .ref ly, .int lsz, .int (nI tod)]))), (ly, .inl (.inl (kA 1, 60, .inl lyf)))]) := by
  refine nx_startI (by decide +kernel) (Nat.le_of_ble_eq_true rfl) ?_
  intro x hnm h hq
  have h : Ok x cX11_lies RX11 kA (rmC 1 0 0) 2 := h
  show J x (mflat [(L, .inl (.inr (11, [.ref t, .ref rd, .ref s, .ref zz, .ref b, .ref bx, .ref tx, .ref so, .ref bd, .ref g, .ref gq, .ref v, .ref sk, .ref d, .ref fh, .ref sh, .ref ly, .int lsz, .int (nI tod)]))), (ly, .inl (.inl (kA 1, 60, .inl lyf)))]) [(0, .ref L), (1, .int i)] 0 0 0 []
  refine j_iload_n h 1 rfl rfl dX11_lies_0 ?_
  refine j_if_lt h 30 dX11_lies_1 (by decide) (fun z8999 => ?_) (fun z8999 => ?_)
  · show J x (mflat [(L, .inl (.inr (11, [.ref t, .ref rd, .ref s, .ref zz, .ref b, .ref bx, .ref tx, .ref so, .ref bd, .ref g, .ref gq, .ref v, .ref sk, .ref d, .ref fh, .ref sh, .ref ly, .int lsz, .int (nI tod)]))), (ly, .inl (.inl (kA 1, 60, .inl lyf)))]) [(0, .ref L), (1, .int i)] 0 0 30 []
    refine j_iconst (v := (-1)) h (by decide) dX11_lies_30 ?_
    exact jm_iret h hq dX11_lies_31 () [0, 1] rfl (by decide) trivial (Nat.le_of_ble_eq_true rfl) (Nat.le_of_ble_eq_true rfl)
  · obtain ⟨j9000, hj9000, rfl⟩ := nI_of z8999
    show J x (mflat [(L, .inl (.inr (11, [.ref t, .ref rd, .ref s, .ref zz, .ref b, .ref bx, .ref tx, .ref so, .ref bd, .ref g, .ref gq, .ref v, .ref sk, .ref d, .ref fh, .ref sh, .ref ly, .int lsz, .int (nI tod)]))), (ly, .inl (.inl (kA 1, 60, .inl lyf)))]) [(0, .ref L), (1, .int (nI j9000))] 0 0 4 []
    refine j_iload_n h 1 rfl rfl dX11_lies_4 ?_
    refine j_aload_n h 0 rfl rfl dX11_lies_5 ?_
    refine jm_get h iw_X11 0 rfl rfl 17 (by decide +kernel) tw_492 rfl dX11_lies_6 ?_
    refine j_icmp_ge h 30 dX11_lies_9 (by decide) (fun z9001 => ?_) (fun z9001 => ?_)
    · show J x (mflat [(L, .inl (.inr (11, [.ref t, .ref rd, .ref s, .ref zz, .ref b, .ref bx, .ref tx, .ref so, .ref bd, .ref g, .ref gq, .ref v, .ref sk, .ref d, .ref fh, .ref sh, .ref ly, .int lsz, .int (nI tod)]))), (ly, .inl (.inl (kA 1, 60, .inl lyf)))]) [(0, .ref L), (1, .int (nI j9000))] 0 0 30 []
      refine j_iconst (v := (-1)) h (by decide) dX11_lies_30 ?_
      exact jm_iret h hq dX11_lies_31 () [0, 1] rfl (by decide) trivial (Nat.le_of_ble_eq_true rfl) (Nat.le_of_ble_eq_true rfl)
    · show J x (mflat [(L, .inl (.inr (11, [.ref t, .ref rd, .ref s, .ref zz, .ref b, .ref bx, .ref tx, .ref so, .ref bd, .ref g, .ref gq, .ref v, .ref sk, .ref d, .ref fh, .ref sh, .ref ly, .int lsz, .int (nI tod)]))), (ly, .inl (.inl (kA 1, 60, .inl lyf)))]) [(0, .ref L), (1, .int (nI j9000))] 0 0 12 []
      refine j_iload_n h 1 rfl rfl dX11_lies_12 ?_
      refine j_aload_n h 0 rfl rfl dX11_lies_13 ?_
      refine jm_get h iw_X11 0 rfl rfl 16 (by decide +kernel) tw_491 rfl dX11_lies_14 ?_
      refine jm_alen (v := 60) h 1 1 rfl rfl rfl dX11_lies_17 ?_
      refine j_icmp_ge h 30 dX11_lies_18 (by decide) (fun z9002 => ?_) (fun z9002 => ?_)
      · have z9002n : 60 ≤ j9000 := (nI_leI (a := 60) (b := j9000) (by omega) (by omega)).mp z9002
        refine j_iconst (v := (-1)) h (by decide) dX11_lies_30 ?_
        exact jm_iret h hq dX11_lies_31 () [0, 1] rfl (by decide) trivial (Nat.le_of_ble_eq_true rfl) (Nat.le_of_ble_eq_true rfl)
      · have z9002n : ¬ 60 ≤ j9000 := fun q9 => z9002 ((nI_leI (a := 60) (b := j9000) (by omega) (by omega)).mpr q9)
        refine j_aload_n h 0 rfl rfl dX11_lies_21 ?_
        refine jm_get h iw_X11 0 rfl rfl 16 (by decide +kernel) tw_491 rfl dX11_lies_22 ?_
        refine j_iload_n h 1 rfl rfl dX11_lies_25 ?_
        refine jm_iald h 1 rfl j9000 rfl (by omega) (by omega) dX11_lies_26 ?_
        refine j_goto h 31 dX11_lies_27 (by decide) ?_
        exact jm_iret h hq dX11_lies_31 () [0, 1] rfl (by decide) trivial (Nat.le_of_ble_eq_true rfl) (Nat.le_of_ble_eq_true rfl)
set_option maxHeartbeats 4000000 in
set_option maxRecDepth 100000 in
theorem s_X11_limp (lau : Launch) (gg : va_G) (kA : Nat → ClassId) (L : Nat) (wh : Int32) (t : Nat) (rd : Nat) (s : Nat) (zz : Nat) (b : Nat) (bx : Nat) (tx : Nat) (so : Nat) (bd : Nat) (g : Nat) (gq : Nat) (v : Nat) (sk : Nat) (d : Nat) (fh : Nat) (sh : Nat) (ly : Nat) (lsz : Int32) (tod : Nat) (s0 : Nat) (s1 : Nat) (s2 : Nat) (s3 : Nat) (s4 : Nat) (s5 : Nat) (s6 : Nat) (s7 : Nat) (s8 : Nat) (s9 : Nat) (s10 : Nat) (s11 : Nat) (sn : Nat) (sl : Nat) (se : Nat) (sc1 : Nat → Int32) (sc3 : Nat → Int32) (b0 : Nat) (b1 : Nat) (bsz : Nat) (btm : Nat) (bft : Nat) (bkp : Int32) (brow : Nat → Int32) (htod : tod ≤ 100000) (hsn : sn ≤ 6) (hsl : sl ≤ 10) (hse : se ≤ 4) (hstk : TkOk sn sc1) (hbsz : bsz ≤ 60) (hbtm : btm ≤ 60) (hbft : bft ≤ 1) (hbro : RoOk sn bsz brow) : CtI lau yX11_limp cX11_limp 5 (some .int) 2 0 0 gg kA [.ref L, .int wh] (mflat [(L, .inl (.inr (11, [.ref t, .ref rd, .ref s, .ref zz, .ref b, .ref bx, .ref tx, .ref so, .ref bd, .ref g, .ref gq, .ref v, .ref sk, .ref d, .ref fh, .ref sh, .ref ly, .int lsz, .int (nI tod)]))), (s, .inl (.inr (5, [.ref s0, .ref s1, .ref s2, .ref s3, .ref s4, .ref s5, .ref s6, .ref s7, .ref s8, .ref s9, .ref s10, .ref s11, .int (nI sn), .int (nI sl), .int (nI se)]))), (s1, .inl (.inl (kA 1, 6, .inl sc1))), (s3, .inl (.inl (kA 1, 6, .inl sc3))), (b, .inl (.inr (2, [.ref b0, .ref b1, .int (nI bsz), .int (nI btm), .int (nI bft), .int bkp]))), (b0, .inl (.inl (kA 1, 60, .inl brow)))]) (S := Unit) (fun (r : Int32) (_ : Unit) => True) (fun (_ : Unit) => mflat [(L, .inl (.inr (11, [.ref t, .ref rd, .ref s, .ref zz, .ref b, .ref bx, .ref tx, .ref so, .ref bd, .ref g, .ref gq, .ref v, .ref sk, .ref d, .ref fh, .ref sh, .ref ly, .int lsz, .int (nI tod)]))), (s, .inl (.inr (5, [.ref s0, .ref s1, .ref s2, .ref s3, .ref s4, .ref s5, .ref s6, .ref s7, .ref s8, .ref s9, .ref s10, .ref s11, .int (nI sn), .int (nI sl), .int (nI se)]))), (s1, .inl (.inl (kA 1, 6, .inl sc1))), (s3, .inl (.inl (kA 1, 6, .inl sc3))), (b, .inl (.inr (2, [.ref b0, .ref b1, .int (nI bsz), .int (nI btm), .int (nI bft), .int bkp]))), (b0, .inl (.inl (kA 1, 60, .inl brow)))]) := by
  refine nx_startI (by decide +kernel) (Nat.le_of_ble_eq_true rfl) ?_
  intro x hnm h hq
  have h : Ok x cX11_limp RX11 kA (rmC 2 0 0) 5 := h
  show J x (mflat [(L, .inl (.inr (11, [.ref t, .ref rd, .ref s, .ref zz, .ref b, .ref bx, .ref tx, .ref so, .ref bd, .ref g, .ref gq, .ref v, .ref sk, .ref d, .ref fh, .ref sh, .ref ly, .int lsz, .int (nI tod)]))), (s, .inl (.inr (5, [.ref s0, .ref s1, .ref s2, .ref s3, .ref s4, .ref s5, .ref s6, .ref s7, .ref s8, .ref s9, .ref s10, .ref s11, .int (nI sn), .int (nI sl), .int (nI se)]))), (s1, .inl (.inl (kA 1, 6, .inl sc1))), (s3, .inl (.inl (kA 1, 6, .inl sc3))), (b, .inl (.inr (2, [.ref b0, .ref b1, .int (nI bsz), .int (nI btm), .int (nI bft), .int bkp]))), (b0, .inl (.inl (kA 1, 60, .inl brow)))]) [(0, .ref L), (1, .int wh)] 0 0 0 []
  refine j_iload_n h 1 rfl rfl dX11_limp_0 ?_
  refine j_if_eq h 11 dX11_limp_1 (by decide) (fun z9019 => ?_) (fun z9019 => ?_)
  · subst z9019
    show J x (mflat [(L, .inl (.inr (11, [.ref t, .ref rd, .ref s, .ref zz, .ref b, .ref bx, .ref tx, .ref so, .ref bd, .ref g, .ref gq, .ref v, .ref sk, .ref d, .ref fh, .ref sh, .ref ly, .int lsz, .int (nI tod)]))), (s, .inl (.inr (5, [.ref s0, .ref s1, .ref s2, .ref s3, .ref s4, .ref s5, .ref s6, .ref s7, .ref s8, .ref s9, .ref s10, .ref s11, .int (nI sn), .int (nI sl), .int (nI se)]))), (s1, .inl (.inl (kA 1, 6, .inl sc1))), (s3, .inl (.inl (kA 1, 6, .inl sc3))), (b, .inl (.inr (2, [.ref b0, .ref b1, .int (nI bsz), .int (nI btm), .int (nI bft), .int bkp]))), (b0, .inl (.inl (kA 1, 60, .inl brow)))]) [(0, .ref L), (1, .int 0)] 0 0 11 []
    refine j_aload_n h 0 rfl rfl dX11_limp_11 ?_
    refine jm_get h iw_X11 0 rfl rfl 4 (by decide +kernel) tw_479 rfl dX11_limp_12 ?_
    refine j_aload_n h 0 rfl rfl dX11_limp_15 ?_
    refine jm_get h iw_X11 0 rfl rfl 2 (by decide +kernel) tw_477 rfl dX11_limp_16 ?_
    refine j_iconst (v := 0) h (by decide) dX11_limp_19 ?_
    refine jm_callVi (np := 2) (isC := [4, 5, 1, 2, 3]) (isR := [0]) (wc := [(b, .inl (.inr (2, [.ref b0, .ref b1, .int (nI bsz), .int (nI btm), .int (nI bft), .int bkp]))), (b0, .inl (.inl (kA 1, 60, .inl brow))), (s, .inl (.inr (5, [.ref s0, .ref s1, .ref s2, .ref s3, .ref s4, .ref s5, .ref s6, .ref s7, .ref s8, .ref s9, .ref s10, .ref s11, .int (nI sn), .int (nI sl), .int (nI se)]))), (s1, .inl (.inl (kA 1, 6, .inl sc1))), (s3, .inl (.inl (kA 1, 6, .inl sc3)))]) (wr := [(L, .inl (.inr (11, [.ref t, .ref rd, .ref s, .ref zz, .ref b, .ref bx, .ref tx, .ref so, .ref bd, .ref g, .ref gq, .ref v, .ref sk, .ref d, .ref fh, .ref sh, .ref ly, .int lsz, .int (nI tod)])))]) (rest := []) (As := [.ref s, .int 0]) (q0 := 0) h (s_X2_takenBy _ _ kA b s 0 b0 b1 bsz btm bft bkp brow s0 s1 s2 s3 s4 s5 s6 s7 s8 s9 s10 s11 sn sl se sc1 sc3 (show sn ≤ 6 by first | assumption | omega) (show sl ≤ 10 by first | assumption | omega) (show se ≤ 4 by first | assumption | omega) (show TkOk sn sc1 by first | assumption | (intro _; assumption) | omega) (show bsz ≤ 60 by first | assumption | omega) (show btm ≤ 60 by first | assumption | omega) (show bft ≤ 1 by first | assumption | omega) (show RoOk sn bsz brow by first | assumption | exact RoOk_mono (by assumption) (by omega) | exact RoOk_step (by assumption) (by omega) | exact RoOk_zero _ _ | (intro _; assumption) | omega)) tw_1053 tw_1054 tw_1055 tw_91 tw_1056 (by decide +kernel) rfl ⟨Nat.le_of_ble_eq_true rfl, Nat.le_of_ble_eq_true rfl⟩ rfl rfl (by decide +kernel) rfl rfl (by decide +kernel) (by decide +kernel) (Nat.le_of_ble_eq_true rfl) rfl ⟨Nat.le_of_ble_eq_true rfl, Nat.le_of_ble_eq_true rfl⟩ dX11_limp_20 ?_
    rintro r9021 _ e9020
    show J x (mflat [(L, .inl (.inr (11, [.ref t, .ref rd, .ref s, .ref zz, .ref b, .ref bx, .ref tx, .ref so, .ref bd, .ref g, .ref gq, .ref v, .ref sk, .ref d, .ref fh, .ref sh, .ref ly, .int lsz, .int (nI tod)]))), (b, .inl (.inr (2, [.ref b0, .ref b1, .int (nI bsz), .int (nI btm), .int (nI bft), .int bkp]))), (b0, .inl (.inl (kA 1, 60, .inl brow))), (s, .inl (.inr (5, [.ref s0, .ref s1, .ref s2, .ref s3, .ref s4, .ref s5, .ref s6, .ref s7, .ref s8, .ref s9, .ref s10, .ref s11, .int (nI sn), .int (nI sl), .int (nI se)]))), (s1, .inl (.inl (kA 1, 6, .inl sc1))), (s3, .inl (.inl (kA 1, 6, .inl sc3)))]) [(0, .ref L), (1, .int 0)] 0 0 23 [.int r9021]
    refine j_istore_n (lv' := [(2, .int r9021), (0, .ref L), (1, .int 0)]) h dX11_limp_23 rfl (by decide) rfl ?_
    refine j_aload_n h 1 rfl rfl dX11_limp_24 ?_
    refine jm_get h iw_X11 0 rfl rfl 4 (by decide +kernel) tw_479 rfl dX11_limp_25 ?_
    refine j_aload_n h 1 rfl rfl dX11_limp_28 ?_
    refine jm_get h iw_X11 0 rfl rfl 2 (by decide +kernel) tw_477 rfl dX11_limp_29 ?_
    refine j_iconst (v := 1) h (by decide) dX11_limp_32 ?_
    refine jm_callVi (np := 2) (isC := [1, 2, 3, 4, 5]) (isR := [0]) (wc := [(b, .inl (.inr (2, [.ref b0, .ref b1, .int (nI bsz), .int (nI btm), .int (nI bft), .int bkp]))), (b0, .inl (.inl (kA 1, 60, .inl brow))), (s, .inl (.inr (5, [.ref s0, .ref s1, .ref s2, .ref s3, .ref s4, .ref s5, .ref s6, .ref s7, .ref s8, .ref s9, .ref s10, .ref s11, .int (nI sn), .int (nI sl), .int (nI se)]))), (s1, .inl (.inl (kA 1, 6, .inl sc1))), (s3, .inl (.inl (kA 1, 6, .inl sc3)))]) (wr := [(L, .inl (.inr (11, [.ref t, .ref rd, .ref s, .ref zz, .ref b, .ref bx, .ref tx, .ref so, .ref bd, .ref g, .ref gq, .ref v, .ref sk, .ref d, .ref fh, .ref sh, .ref ly, .int lsz, .int (nI tod)])))]) (rest := []) (As := [.ref s, .int 1]) (q0 := 0) h (s_X2_takenBy _ _ kA b s 1 b0 b1 bsz btm bft bkp brow s0 s1 s2 s3 s4 s5 s6 s7 s8 s9 s10 s11 sn sl se sc1 sc3 (show sn ≤ 6 by first | assumption | omega) (show sl ≤ 10 by first | assumption | omega) (show se ≤ 4 by first | assumption | omega) (show TkOk sn sc1 by first | assumption | (intro _; assumption) | omega) (show bsz ≤ 60 by first | assumption | omega) (show btm ≤ 60 by first | assumption | omega) (show bft ≤ 1 by first | assumption | omega) (show RoOk sn bsz brow by first | assumption | exact RoOk_mono (by assumption) (by omega) | exact RoOk_step (by assumption) (by omega) | exact RoOk_zero _ _ | (intro _; assumption) | omega)) tw_1053 tw_1054 tw_1055 tw_91 tw_1056 (by decide +kernel) rfl ⟨Nat.le_of_ble_eq_true rfl, Nat.le_of_ble_eq_true rfl⟩ rfl rfl (by decide +kernel) rfl rfl (by decide +kernel) (by decide +kernel) (Nat.le_of_ble_eq_true rfl) rfl ⟨Nat.le_of_ble_eq_true rfl, Nat.le_of_ble_eq_true rfl⟩ dX11_limp_33 ?_
    rintro r9023 _ e9022
    show J x (mflat [(L, .inl (.inr (11, [.ref t, .ref rd, .ref s, .ref zz, .ref b, .ref bx, .ref tx, .ref so, .ref bd, .ref g, .ref gq, .ref v, .ref sk, .ref d, .ref fh, .ref sh, .ref ly, .int lsz, .int (nI tod)]))), (b, .inl (.inr (2, [.ref b0, .ref b1, .int (nI bsz), .int (nI btm), .int (nI bft), .int bkp]))), (b0, .inl (.inl (kA 1, 60, .inl brow))), (s, .inl (.inr (5, [.ref s0, .ref s1, .ref s2, .ref s3, .ref s4, .ref s5, .ref s6, .ref s7, .ref s8, .ref s9, .ref s10, .ref s11, .int (nI sn), .int (nI sl), .int (nI se)]))), (s1, .inl (.inl (kA 1, 6, .inl sc1))), (s3, .inl (.inl (kA 1, 6, .inl sc3)))]) [(2, .int r9021), (0, .ref L), (1, .int 0)] 0 0 36 [.int r9023]
    refine j_istore_n (lv' := [(3, .int r9023), (2, .int r9021), (0, .ref L), (1, .int 0)]) h dX11_limp_36 rfl (by decide) rfl ?_
    refine j_iload_n h 1 rfl rfl dX11_limp_37 ?_
    refine j_iload_n h 0 rfl rfl dX11_limp_38 ?_
    refine j_isub h dX11_limp_39 ?_
    refine j_mabs h tw_1057 tw_1058 tw_105 tw_1059 (Nat.le_of_ble_eq_true rfl) (Nat.le_of_ble_eq_true rfl) (Nat.le_of_ble_eq_true rfl) (Nat.le_of_ble_eq_true rfl) (Nat.le_of_ble_eq_true rfl) dX11_limp_40 ?_
    refine j_iload_n h 1 rfl rfl dX11_limp_43 ?_
    refine j_iload_n h 0 rfl rfl dX11_limp_44 ?_
    refine j_iadd h dX11_limp_45 ?_
    refine jm_callSi (np := 2) (isC := []) (isR := [0, 1, 2, 3, 4, 5]) (wc := []) (wr := [(L, .inl (.inr (11, [.ref t, .ref rd, .ref s, .ref zz, .ref b, .ref bx, .ref tx, .ref so, .ref bd, .ref g, .ref gq, .ref v, .ref sk, .ref d, .ref fh, .ref sh, .ref ly, .int lsz, .int (nI tod)]))), (b, .inl (.inr (2, [.ref b0, .ref b1, .int (nI bsz), .int (nI btm), .int (nI bft), .int bkp]))), (b0, .inl (.inl (kA 1, 60, .inl brow))), (s, .inl (.inr (5, [.ref s0, .ref s1, .ref s2, .ref s3, .ref s4, .ref s5, .ref s6, .ref s7, .ref s8, .ref s9, .ref s10, .ref s11, .int (nI sn), .int (nI sl), .int (nI se)]))), (s1, .inl (.inl (kA 1, 6, .inl sc1))), (s3, .inl (.inl (kA 1, 6, .inl sc3)))]) (rest := []) (As := [.int (if 0 ≤ (r9021 - r9023) then r9021 - r9023 else 0 - (r9021 - r9023)), .int (r9021 + r9023)]) h (s_X11_commonDivisor _ _ kA (if 0 ≤ (r9021 - r9023) then r9021 - r9023 else 0 - (r9021 - r9023)) (r9021 + r9023) ) tw_1060 tw_1061 tw_87 tw_1062 (by decide +kernel) rfl ⟨Nat.le_of_ble_eq_true rfl, Nat.le_of_ble_eq_true rfl⟩ (by decide +kernel) rfl rfl (by decide +kernel) (by decide +kernel) (Nat.le_of_ble_eq_true rfl) rfl ⟨Nat.le_of_ble_eq_true rfl, Nat.le_of_ble_eq_true rfl⟩ dX11_limp_46 ?_
    rintro r9025 _ e9024
    show J x (mflat [(L, .inl (.inr (11, [.ref t, .ref rd, .ref s, .ref zz, .ref b, .ref bx, .ref tx, .ref so, .ref bd, .ref g, .ref gq, .ref v, .ref sk, .ref d, .ref fh, .ref sh, .ref ly, .int lsz, .int (nI tod)]))), (b, .inl (.inr (2, [.ref b0, .ref b1, .int (nI bsz), .int (nI btm), .int (nI bft), .int bkp]))), (b0, .inl (.inl (kA 1, 60, .inl brow))), (s, .inl (.inr (5, [.ref s0, .ref s1, .ref s2, .ref s3, .ref s4, .ref s5, .ref s6, .ref s7, .ref s8, .ref s9, .ref s10, .ref s11, .int (nI sn), .int (nI sl), .int (nI se)]))), (s1, .inl (.inl (kA 1, 6, .inl sc1))), (s3, .inl (.inl (kA 1, 6, .inl sc3)))]) [(3, .int r9023), (2, .int r9021), (0, .ref L), (1, .int 0)] 0 0 49 [.int r9025]
    refine j_istore (lv' := [(4, .int r9025), (3, .int r9023), (2, .int r9021), (0, .ref L), (1, .int 0)]) h dX11_limp_49 (by decide) rfl ?_
    refine j_iload h 0 rfl dX11_limp_51 ?_
    refine j_if_ne h 58 dX11_limp_53 (by decide) (fun z9026 => ?_) (fun z9026 => ?_)
    · show J x (mflat [(L, .inl (.inr (11, [.ref t, .ref rd, .ref s, .ref zz, .ref b, .ref bx, .ref tx, .ref so, .ref bd, .ref g, .ref gq, .ref v, .ref sk, .ref d, .ref fh, .ref sh, .ref ly, .int lsz, .int (nI tod)]))), (b, .inl (.inr (2, [.ref b0, .ref b1, .int (nI bsz), .int (nI btm), .int (nI bft), .int bkp]))), (b0, .inl (.inl (kA 1, 60, .inl brow))), (s, .inl (.inr (5, [.ref s0, .ref s1, .ref s2, .ref s3, .ref s4, .ref s5, .ref s6, .ref s7, .ref s8, .ref s9, .ref s10, .ref s11, .int (nI sn), .int (nI sl), .int (nI se)]))), (s1, .inl (.inl (kA 1, 6, .inl sc1))), (s3, .inl (.inl (kA 1, 6, .inl sc3)))]) [(4, .int r9025), (3, .int r9023), (2, .int r9021), (0, .ref L), (1, .int 0)] 0 0 58 []
      refine j_iload_n h 4 rfl rfl dX11_limp_58 ?_
      refine j_if_ne h 71 dX11_limp_59 (by decide) (fun q => absurd (by decide) q) (fun _ => ?_)
      refine j_iload_n h 2 rfl rfl dX11_limp_62 ?_
      refine j_iload_n h 1 rfl rfl dX11_limp_63 ?_
      refine j_isub h dX11_limp_64 ?_
      refine j_iload h 0 rfl dX11_limp_65 ?_
      refine j_idiv h (by assumption) dX11_limp_67 ?_
      refine j_goto h 77 dX11_limp_68 (by decide) ?_
      exact jm_iret h hq dX11_limp_77 () [0, 3, 4, 5, 1, 2] rfl (by decide) trivial (Nat.le_of_ble_eq_true rfl) (Nat.le_of_ble_eq_true rfl)
    · subst z9026
      show J x (mflat [(L, .inl (.inr (11, [.ref t, .ref rd, .ref s, .ref zz, .ref b, .ref bx, .ref tx, .ref so, .ref bd, .ref g, .ref gq, .ref v, .ref sk, .ref d, .ref fh, .ref sh, .ref ly, .int lsz, .int (nI tod)]))), (b, .inl (.inr (2, [.ref b0, .ref b1, .int (nI bsz), .int (nI btm), .int (nI bft), .int bkp]))), (b0, .inl (.inl (kA 1, 60, .inl brow))), (s, .inl (.inr (5, [.ref s0, .ref s1, .ref s2, .ref s3, .ref s4, .ref s5, .ref s6, .ref s7, .ref s8, .ref s9, .ref s10, .ref s11, .int (nI sn), .int (nI sl), .int (nI se)]))), (s1, .inl (.inl (kA 1, 6, .inl sc1))), (s3, .inl (.inl (kA 1, 6, .inl sc3)))]) [(4, .int 0), (3, .int r9023), (2, .int r9021), (0, .ref L), (1, .int 0)] 0 0 56 []
      refine j_iload_n h 4 rfl rfl dX11_limp_56 ?_
      exact jm_iret h hq dX11_limp_57 () [0, 3, 4, 5, 1, 2] rfl (by decide) trivial (Nat.le_of_ble_eq_true rfl) (Nat.le_of_ble_eq_true rfl)
  · show J x (mflat [(L, .inl (.inr (11, [.ref t, .ref rd, .ref s, .ref zz, .ref b, .ref bx, .ref tx, .ref so, .ref bd, .ref g, .ref gq, .ref v, .ref sk, .ref d, .ref fh, .ref sh, .ref ly, .int lsz, .int (nI tod)]))), (s, .inl (.inr (5, [.ref s0, .ref s1, .ref s2, .ref s3, .ref s4, .ref s5, .ref s6, .ref s7, .ref s8, .ref s9, .ref s10, .ref s11, .int (nI sn), .int (nI sl), .int (nI se)]))), (s1, .inl (.inl (kA 1, 6, .inl sc1))), (s3, .inl (.inl (kA 1, 6, .inl sc3))), (b, .inl (.inr (2, [.ref b0, .ref b1, .int (nI bsz), .int (nI btm), .int (nI bft), .int bkp]))), (b0, .inl (.inl (kA 1, 60, .inl brow)))]) [(0, .ref L), (1, .int wh)] 0 0 4 []
    refine j_iload_n h 1 rfl rfl dX11_limp_4 ?_
    refine j_iconst (v := 1) h (by decide) dX11_limp_5 ?_
    refine j_icmp_eq h 11 dX11_limp_6 (by decide) (fun z9027 => ?_) (fun z9027 => ?_)
    · subst z9027
      show J x (mflat [(L, .inl (.inr (11, [.ref t, .ref rd, .ref s, .ref zz, .ref b, .ref bx, .ref tx, .ref so, .ref bd, .ref g, .ref gq, .ref v, .ref sk, .ref d, .ref fh, .ref sh, .ref ly, .int lsz, .int (nI tod)]))), (s, .inl (.inr (5, [.ref s0, .ref s1, .ref s2, .ref s3, .ref s4, .ref s5, .ref s6, .ref s7, .ref s8, .ref s9, .ref s10, .ref s11, .int (nI sn), .int (nI sl), .int (nI se)]))), (s1, .inl (.inl (kA 1, 6, .inl sc1))), (s3, .inl (.inl (kA 1, 6, .inl sc3))), (b, .inl (.inr (2, [.ref b0, .ref b1, .int (nI bsz), .int (nI btm), .int (nI bft), .int bkp]))), (b0, .inl (.inl (kA 1, 60, .inl brow)))]) [(0, .ref L), (1, .int 1)] 0 0 11 []
      refine j_aload_n h 0 rfl rfl dX11_limp_11 ?_
      refine jm_get h iw_X11 0 rfl rfl 4 (by decide +kernel) tw_479 rfl dX11_limp_12 ?_
      refine j_aload_n h 0 rfl rfl dX11_limp_15 ?_
      refine jm_get h iw_X11 0 rfl rfl 2 (by decide +kernel) tw_477 rfl dX11_limp_16 ?_
      refine j_iconst (v := 0) h (by decide) dX11_limp_19 ?_
      refine jm_callVi (np := 2) (isC := [4, 5, 1, 2, 3]) (isR := [0]) (wc := [(b, .inl (.inr (2, [.ref b0, .ref b1, .int (nI bsz), .int (nI btm), .int (nI bft), .int bkp]))), (b0, .inl (.inl (kA 1, 60, .inl brow))), (s, .inl (.inr (5, [.ref s0, .ref s1, .ref s2, .ref s3, .ref s4, .ref s5, .ref s6, .ref s7, .ref s8, .ref s9, .ref s10, .ref s11, .int (nI sn), .int (nI sl), .int (nI se)]))), (s1, .inl (.inl (kA 1, 6, .inl sc1))), (s3, .inl (.inl (kA 1, 6, .inl sc3)))]) (wr := [(L, .inl (.inr (11, [.ref t, .ref rd, .ref s, .ref zz, .ref b, .ref bx, .ref tx, .ref so, .ref bd, .ref g, .ref gq, .ref v, .ref sk, .ref d, .ref fh, .ref sh, .ref ly, .int lsz, .int (nI tod)])))]) (rest := []) (As := [.ref s, .int 0]) (q0 := 0) h (s_X2_takenBy _ _ kA b s 0 b0 b1 bsz btm bft bkp brow s0 s1 s2 s3 s4 s5 s6 s7 s8 s9 s10 s11 sn sl se sc1 sc3 (show sn ≤ 6 by first | assumption | omega) (show sl ≤ 10 by first | assumption | omega) (show se ≤ 4 by first | assumption | omega) (show TkOk sn sc1 by first | assumption | (intro _; assumption) | omega) (show bsz ≤ 60 by first | assumption | omega) (show btm ≤ 60 by first | assumption | omega) (show bft ≤ 1 by first | assumption | omega) (show RoOk sn bsz brow by first | assumption | exact RoOk_mono (by assumption) (by omega) | exact RoOk_step (by assumption) (by omega) | exact RoOk_zero _ _ | (intro _; assumption) | omega)) tw_1053 tw_1054 tw_1055 tw_91 tw_1056 (by decide +kernel) rfl ⟨Nat.le_of_ble_eq_true rfl, Nat.le_of_ble_eq_true rfl⟩ rfl rfl (by decide +kernel) rfl rfl (by decide +kernel) (by decide +kernel) (Nat.le_of_ble_eq_true rfl) rfl ⟨Nat.le_of_ble_eq_true rfl, Nat.le_of_ble_eq_true rfl⟩ dX11_limp_20 ?_
      rintro r9029 _ e9028
      show J x (mflat [(L, .inl (.inr (11, [.ref t, .ref rd, .ref s, .ref zz, .ref b, .ref bx, .ref tx, .ref so, .ref bd, .ref g, .ref gq, .ref v, .ref sk, .ref d, .ref fh, .ref sh, .ref ly, .int lsz, .int (nI tod)]))), (b, .inl (.inr (2, [.ref b0, .ref b1, .int (nI bsz), .int (nI btm), .int (nI bft), .int bkp]))), (b0, .inl (.inl (kA 1, 60, .inl brow))), (s, .inl (.inr (5, [.ref s0, .ref s1, .ref s2, .ref s3, .ref s4, .ref s5, .ref s6, .ref s7, .ref s8, .ref s9, .ref s10, .ref s11, .int (nI sn), .int (nI sl), .int (nI se)]))), (s1, .inl (.inl (kA 1, 6, .inl sc1))), (s3, .inl (.inl (kA 1, 6, .inl sc3)))]) [(0, .ref L), (1, .int 1)] 0 0 23 [.int r9029]
      refine j_istore_n (lv' := [(2, .int r9029), (0, .ref L), (1, .int 1)]) h dX11_limp_23 rfl (by decide) rfl ?_
      refine j_aload_n h 1 rfl rfl dX11_limp_24 ?_
      refine jm_get h iw_X11 0 rfl rfl 4 (by decide +kernel) tw_479 rfl dX11_limp_25 ?_
      refine j_aload_n h 1 rfl rfl dX11_limp_28 ?_
      refine jm_get h iw_X11 0 rfl rfl 2 (by decide +kernel) tw_477 rfl dX11_limp_29 ?_
      refine j_iconst (v := 1) h (by decide) dX11_limp_32 ?_
      refine jm_callVi (np := 2) (isC := [1, 2, 3, 4, 5]) (isR := [0]) (wc := [(b, .inl (.inr (2, [.ref b0, .ref b1, .int (nI bsz), .int (nI btm), .int (nI bft), .int bkp]))), (b0, .inl (.inl (kA 1, 60, .inl brow))), (s, .inl (.inr (5, [.ref s0, .ref s1, .ref s2, .ref s3, .ref s4, .ref s5, .ref s6, .ref s7, .ref s8, .ref s9, .ref s10, .ref s11, .int (nI sn), .int (nI sl), .int (nI se)]))), (s1, .inl (.inl (kA 1, 6, .inl sc1))), (s3, .inl (.inl (kA 1, 6, .inl sc3)))]) (wr := [(L, .inl (.inr (11, [.ref t, .ref rd, .ref s, .ref zz, .ref b, .ref bx, .ref tx, .ref so, .ref bd, .ref g, .ref gq, .ref v, .ref sk, .ref d, .ref fh, .ref sh, .ref ly, .int lsz, .int (nI tod)])))]) (rest := []) (As := [.ref s, .int 1]) (q0 := 0) h (s_X2_takenBy _ _ kA b s 1 b0 b1 bsz btm bft bkp brow s0 s1 s2 s3 s4 s5 s6 s7 s8 s9 s10 s11 sn sl se sc1 sc3 (show sn ≤ 6 by first | assumption | omega) (show sl ≤ 10 by first | assumption | omega) (show se ≤ 4 by first | assumption | omega) (show TkOk sn sc1 by first | assumption | (intro _; assumption) | omega) (show bsz ≤ 60 by first | assumption | omega) (show btm ≤ 60 by first | assumption | omega) (show bft ≤ 1 by first | assumption | omega) (show RoOk sn bsz brow by first | assumption | exact RoOk_mono (by assumption) (by omega) | exact RoOk_step (by assumption) (by omega) | exact RoOk_zero _ _ | (intro _; assumption) | omega)) tw_1053 tw_1054 tw_1055 tw_91 tw_1056 (by decide +kernel) rfl ⟨Nat.le_of_ble_eq_true rfl, Nat.le_of_ble_eq_true rfl⟩ rfl rfl (by decide +kernel) rfl rfl (by decide +kernel) (by decide +kernel) (Nat.le_of_ble_eq_true rfl) rfl ⟨Nat.le_of_ble_eq_true rfl, Nat.le_of_ble_eq_true rfl⟩ dX11_limp_33 ?_
      rintro r9031 _ e9030
      show J x (mflat [(L, .inl (.inr (11, [.ref t, .ref rd, .ref s, .ref zz, .ref b, .ref bx, .ref tx, .ref so, .ref bd, .ref g, .ref gq, .ref v, .ref sk, .ref d, .ref fh, .ref sh, .ref ly, .int lsz, .int (nI tod)]))), (b, .inl (.inr (2, [.ref b0, .ref b1, .int (nI bsz), .int (nI btm), .int (nI bft), .int bkp]))), (b0, .inl (.inl (kA 1, 60, .inl brow))), (s, .inl (.inr (5, [.ref s0, .ref s1, .ref s2, .ref s3, .ref s4, .ref s5, .ref s6, .ref s7, .ref s8, .ref s9, .ref s10, .ref s11, .int (nI sn), .int (nI sl), .int (nI se)]))), (s1, .inl (.inl (kA 1, 6, .inl sc1))), (s3, .inl (.inl (kA 1, 6, .inl sc3)))]) [(2, .int r9029), (0, .ref L), (1, .int 1)] 0 0 36 [.int r9031]
      refine j_istore_n (lv' := [(3, .int r9031), (2, .int r9029), (0, .ref L), (1, .int 1)]) h dX11_limp_36 rfl (by decide) rfl ?_
      refine j_iload_n h 1 rfl rfl dX11_limp_37 ?_
      refine j_iload_n h 0 rfl rfl dX11_limp_38 ?_
      refine j_isub h dX11_limp_39 ?_
      refine j_mabs h tw_1057 tw_1058 tw_105 tw_1059 (Nat.le_of_ble_eq_true rfl) (Nat.le_of_ble_eq_true rfl) (Nat.le_of_ble_eq_true rfl) (Nat.le_of_ble_eq_true rfl) (Nat.le_of_ble_eq_true rfl) dX11_limp_40 ?_
      refine j_iload_n h 1 rfl rfl dX11_limp_43 ?_
      refine j_iload_n h 0 rfl rfl dX11_limp_44 ?_
      refine j_iadd h dX11_limp_45 ?_
      refine jm_callSi (np := 2) (isC := []) (isR := [0, 1, 2, 3, 4, 5]) (wc := []) (wr := [(L, .inl (.inr (11, [.ref t, .ref rd, .ref s, .ref zz, .ref b, .ref bx, .ref tx, .ref so, .ref bd, .ref g, .ref gq, .ref v, .ref sk, .ref d, .ref fh, .ref sh, .ref ly, .int lsz, .int (nI tod)]))), (b, .inl (.inr (2, [.ref b0, .ref b1, .int (nI bsz), .int (nI btm), .int (nI bft), .int bkp]))), (b0, .inl (.inl (kA 1, 60, .inl brow))), (s, .inl (.inr (5, [.ref s0, .ref s1, .ref s2, .ref s3, .ref s4, .ref s5, .ref s6, .ref s7, .ref s8, .ref s9, .ref s10, .ref s11, .int (nI sn), .int (nI sl), .int (nI se)]))), (s1, .inl (.inl (kA 1, 6, .inl sc1))), (s3, .inl (.inl (kA 1, 6, .inl sc3)))]) (rest := []) (As := [.int (if 0 ≤ (r9029 - r9031) then r9029 - r9031 else 0 - (r9029 - r9031)), .int (r9029 + r9031)]) h (s_X11_commonDivisor _ _ kA (if 0 ≤ (r9029 - r9031) then r9029 - r9031 else 0 - (r9029 - r9031)) (r9029 + r9031) ) tw_1060 tw_1061 tw_87 tw_1062 (by decide +kernel) rfl ⟨Nat.le_of_ble_eq_true rfl, Nat.le_of_ble_eq_true rfl⟩ (by decide +kernel) rfl rfl (by decide +kernel) (by decide +kernel) (Nat.le_of_ble_eq_true rfl) rfl ⟨Nat.le_of_ble_eq_true rfl, Nat.le_of_ble_eq_true rfl⟩ dX11_limp_46 ?_
      rintro r9033 _ e9032
      show J x (mflat [(L, .inl (.inr (11, [.ref t, .ref rd, .ref s, .ref zz, .ref b, .ref bx, .ref tx, .ref so, .ref bd, .ref g, .ref gq, .ref v, .ref sk, .ref d, .ref fh, .ref sh, .ref ly, .int lsz, .int (nI tod)]))), (b, .inl (.inr (2, [.ref b0, .ref b1, .int (nI bsz), .int (nI btm), .int (nI bft), .int bkp]))), (b0, .inl (.inl (kA 1, 60, .inl brow))), (s, .inl (.inr (5, [.ref s0, .ref s1, .ref s2, .ref s3, .ref s4, .ref s5, .ref s6, .ref s7, .ref s8, .ref s9, .ref s10, .ref s11, .int (nI sn), .int (nI sl), .int (nI se)]))), (s1, .inl (.inl (kA 1, 6, .inl sc1))), (s3, .inl (.inl (kA 1, 6, .inl sc3)))]) [(3, .int r9031), (2, .int r9029), (0, .ref L), (1, .int 1)] 0 0 49 [.int r9033]
      refine j_istore (lv' := [(4, .int r9033), (3, .int r9031), (2, .int r9029), (0, .ref L), (1, .int 1)]) h dX11_limp_49 (by decide) rfl ?_
      refine j_iload h 0 rfl dX11_limp_51 ?_
      refine j_if_ne h 58 dX11_limp_53 (by decide) (fun z9034 => ?_) (fun z9034 => ?_)
      · show J x (mflat [(L, .inl (.inr (11, [.ref t, .ref rd, .ref s, .ref zz, .ref b, .ref bx, .ref tx, .ref so, .ref bd, .ref g, .ref gq, .ref v, .ref sk, .ref d, .ref fh, .ref sh, .ref ly, .int lsz, .int (nI tod)]))), (b, .inl (.inr (2, [.ref b0, .ref b1, .int (nI bsz), .int (nI btm), .int (nI bft), .int bkp]))), (b0, .inl (.inl (kA 1, 60, .inl brow))), (s, .inl (.inr (5, [.ref s0, .ref s1, .ref s2, .ref s3, .ref s4, .ref s5, .ref s6, .ref s7, .ref s8, .ref s9, .ref s10, .ref s11, .int (nI sn), .int (nI sl), .int (nI se)]))), (s1, .inl (.inl (kA 1, 6, .inl sc1))), (s3, .inl (.inl (kA 1, 6, .inl sc3)))]) [(4, .int r9033), (3, .int r9031), (2, .int r9029), (0, .ref L), (1, .int 1)] 0 0 58 []
        refine j_iload_n h 4 rfl rfl dX11_limp_58 ?_
        refine j_if_ne h 71 dX11_limp_59 (by decide) (fun _ => ?_) (fun q => absurd q (by decide))
        refine j_iload_n h 2 rfl rfl dX11_limp_71 ?_
        refine j_iload_n h 1 rfl rfl dX11_limp_72 ?_
        refine j_iadd h dX11_limp_73 ?_
        refine j_iload h 0 rfl dX11_limp_74 ?_
        refine j_idiv h (by assumption) dX11_limp_76 ?_
        exact jm_iret h hq dX11_limp_77 () [0, 3, 4, 5, 1, 2] rfl (by decide) trivial (Nat.le_of_ble_eq_true rfl) (Nat.le_of_ble_eq_true rfl)
      · subst z9034
        show J x (mflat [(L, .inl (.inr (11, [.ref t, .ref rd, .ref s, .ref zz, .ref b, .ref bx, .ref tx, .ref so, .ref bd, .ref g, .ref gq, .ref v, .ref sk, .ref d, .ref fh, .ref sh, .ref ly, .int lsz, .int (nI tod)]))), (b, .inl (.inr (2, [.ref b0, .ref b1, .int (nI bsz), .int (nI btm), .int (nI bft), .int bkp]))), (b0, .inl (.inl (kA 1, 60, .inl brow))), (s, .inl (.inr (5, [.ref s0, .ref s1, .ref s2, .ref s3, .ref s4, .ref s5, .ref s6, .ref s7, .ref s8, .ref s9, .ref s10, .ref s11, .int (nI sn), .int (nI sl), .int (nI se)]))), (s1, .inl (.inl (kA 1, 6, .inl sc1))), (s3, .inl (.inl (kA 1, 6, .inl sc3)))]) [(4, .int 0), (3, .int r9031), (2, .int r9029), (0, .ref L), (1, .int 1)] 0 0 56 []
        refine j_iload_n h 4 rfl rfl dX11_limp_56 ?_
        exact jm_iret h hq dX11_limp_57 () [0, 3, 4, 5, 1, 2] rfl (by decide) trivial (Nat.le_of_ble_eq_true rfl) (Nat.le_of_ble_eq_true rfl)
    · show J x (mflat [(L, .inl (.inr (11, [.ref t, .ref rd, .ref s, .ref zz, .ref b, .ref bx, .ref tx, .ref so, .ref bd, .ref g, .ref gq, .ref v, .ref sk, .ref d, .ref fh, .ref sh, .ref ly, .int lsz, .int (nI tod)]))), (s, .inl (.inr (5, [.ref s0, .ref s1, .ref s2, .ref s3, .ref s4, .ref s5, .ref s6, .ref s7, .ref s8, .ref s9, .ref s10, .ref s11, .int (nI sn), .int (nI sl), .int (nI se)]))), (s1, .inl (.inl (kA 1, 6, .inl sc1))), (s3, .inl (.inl (kA 1, 6, .inl sc3))), (b, .inl (.inr (2, [.ref b0, .ref b1, .int (nI bsz), .int (nI btm), .int (nI bft), .int bkp]))), (b0, .inl (.inl (kA 1, 60, .inl brow)))]) [(0, .ref L), (1, .int wh)] 0 0 9 []
      refine j_iconst (v := (-1)) h (by decide) dX11_limp_9 ?_
      exact jm_iret h hq dX11_limp_10 () [0, 1, 2, 3, 4, 5] rfl (by decide) trivial (Nat.le_of_ble_eq_true rfl) (Nat.le_of_ble_eq_true rfl)
set_option maxHeartbeats 4000000 in
set_option maxRecDepth 100000 in
theorem s_X11_dealt (lau : Launch) (gg : va_G) (kA : Nat → ClassId) (L : Nat) (t : Nat) (rd : Nat) (s : Nat) (zz : Nat) (b : Nat) (bx : Nat) (tx : Nat) (so : Nat) (bd : Nat) (g : Nat) (gq : Nat) (v : Nat) (sk : Nat) (d : Nat) (fh : Nat) (sh : Nat) (ly : Nat) (lsz : Int32) (tod : Nat) (lyf : Nat → Int32) (s0 : Nat) (s1 : Nat) (s2 : Nat) (s3 : Nat) (s4 : Nat) (s5 : Nat) (s6 : Nat) (s7 : Nat) (s8 : Nat) (s9 : Nat) (s10 : Nat) (s11 : Nat) (sn : Nat) (sl : Nat) (se : Nat) (sc7 : Nat → Int32) (pa : Nat) (pa0 : Nat) (pasz : Nat) (patm : Nat) (paft : Nat) (parow : Nat → Int32) (pb : Nat) (pb0 : Nat) (pbsz : Nat) (pbtm : Nat) (pbft : Nat) (d0 : Nat) (d1 : Nat) (d2 : Nat) (d3 : Nat) (dus : Nat → Int32) (dru : Nat → Int32) (drt : Nat → Int32) (dgv : Nat → Int32) (htod : tod ≤ 100000) (hsn : sn ≤ 6) (hsl : sl ≤ 10) (hse : se ≤ 4) (hslt : LtOk sl sc7) (hpasz : pasz ≤ 60) (hpatm : patm ≤ 60) (hpaft : paft ≤ 1) (hparo : RoOk sl pasz parow) (hpbsz : pbsz ≤ 60) (hpbtm : pbtm ≤ 60) (hpbft : pbft ≤ 1) : CtI lau yX11_dealt cX11_dealt 1 (some .int) 5 0 0 gg kA [.ref L] (mflat [(L, .inl (.inr (11, [.ref t, .ref rd, .ref s, .ref zz, .ref b, .ref bx, .ref tx, .ref so, .ref bd, .ref g, .ref gq, .ref v, .ref sk, .ref d, .ref fh, .ref sh, .ref ly, .int lsz, .int (nI tod)]))), (tx, .inl (.inl (kA 5, 2, .inr (.inr (.inr (.inr (q2 pa pb))))))), (ly, .inl (.inl (kA 1, 60, .inl lyf))), (s, .inl (.inr (5, [.ref s0, .ref s1, .ref s2, .ref s3, .ref s4, .ref s5, .ref s6, .ref s7, .ref s8, .ref s9, .ref s10, .ref s11, .int (nI sn), .int (nI sl), .int (nI se)]))), (s7, .inl (.inl (kA 1, 10, .inl sc7))), (pa, .inl (.inr (10, [.ref pa0, .int (nI pasz), .int (nI patm), .int (nI paft)]))), (pa0, .inl (.inl (kA 1, 60, .inl parow))), (pb, .inl (.inr (10, [.ref pb0, .int (nI pbsz), .int (nI pbtm), .int (nI pbft)]))), (d, .inl (.inr (1, [.ref d0, .ref d1, .ref d2, .ref d3]))), (d0, .inl (.inl (kA 1, 10, .inl dus))), (d1, .inl (.inl (kA 1, 10, .inl dru))), (d2, .inl (.inl (kA 1, 10, .inl drt))), (d3, .inl (.inl (kA 3, 10, .inl dgv)))]) (S := (Nat → Int32) × (Nat → Int32) × (Nat → Int32) × (Nat → Int32) × (Nat → Int32)) (fun (r : Int32) ((y_ly, y_d0, y_d1, y_d2, y_d3) : (Nat → Int32) × (Nat → Int32) × (Nat → Int32) × (Nat → Int32) × (Nat → Int32)) => True) (fun ((y_ly, y_d0, y_d1, y_d2, y_d3) : (Nat → Int32) × (Nat → Int32) × (Nat → Int32) × (Nat → Int32) × (Nat → Int32)) => mflat [(L, .inl (.inr (11, [.ref t, .ref rd, .ref s, .ref zz, .ref b, .ref bx, .ref tx, .ref so, .ref bd, .ref g, .ref gq, .ref v, .ref sk, .ref d, .ref fh, .ref sh, .ref ly, .int (nI sl), .int (nI tod)]))), (tx, .inl (.inl (kA 5, 2, .inr (.inr (.inr (.inr (q2 pa pb))))))), (ly, .inl (.inl (kA 1, 60, .inl y_ly))), (s, .inl (.inr (5, [.ref s0, .ref s1, .ref s2, .ref s3, .ref s4, .ref s5, .ref s6, .ref s7, .ref s8, .ref s9, .ref s10, .ref s11, .int (nI sn), .int (nI sl), .int (nI se)]))), (s7, .inl (.inl (kA 1, 10, .inl sc7))), (pa, .inl (.inr (10, [.ref pa0, .int (nI pasz), .int (nI patm), .int (nI paft)]))), (pa0, .inl (.inl (kA 1, 60, .inl parow))), (pb, .inl (.inr (10, [.ref pb0, .int (nI pbsz), .int (nI pbtm), .int (nI pbft)]))), (d, .inl (.inr (1, [.ref d0, .ref d1, .ref d2, .ref d3]))), (d0, .inl (.inl (kA 1, 10, .inl y_d0))), (d1, .inl (.inl (kA 1, 10, .inl y_d1))), (d2, .inl (.inl (kA 1, 10, .inl y_d2))), (d3, .inl (.inl (kA 3, 10, .inl y_d3)))]) := by
  refine nx_startI (by decide +kernel) (Nat.le_of_ble_eq_true rfl) ?_
  intro x hnm h hq
  have h : Ok x cX11_dealt RX11 kA (rmC 5 0 0) 1 := h
  show J x (mflat [(L, .inl (.inr (11, [.ref t, .ref rd, .ref s, .ref zz, .ref b, .ref bx, .ref tx, .ref so, .ref bd, .ref g, .ref gq, .ref v, .ref sk, .ref d, .ref fh, .ref sh, .ref ly, .int lsz, .int (nI tod)]))), (tx, .inl (.inl (kA 5, 2, .inr (.inr (.inr (.inr (q2 pa pb))))))), (ly, .inl (.inl (kA 1, 60, .inl lyf))), (s, .inl (.inr (5, [.ref s0, .ref s1, .ref s2, .ref s3, .ref s4, .ref s5, .ref s6, .ref s7, .ref s8, .ref s9, .ref s10, .ref s11, .int (nI sn), .int (nI sl), .int (nI se)]))), (s7, .inl (.inl (kA 1, 10, .inl sc7))), (pa, .inl (.inr (10, [.ref pa0, .int (nI pasz), .int (nI patm), .int (nI paft)]))), (pa0, .inl (.inl (kA 1, 60, .inl parow))), (pb, .inl (.inr (10, [.ref pb0, .int (nI pbsz), .int (nI pbtm), .int (nI pbft)]))), (d, .inl (.inr (1, [.ref d0, .ref d1, .ref d2, .ref d3]))), (d0, .inl (.inl (kA 1, 10, .inl dus))), (d1, .inl (.inl (kA 1, 10, .inl dru))), (d2, .inl (.inl (kA 1, 10, .inl drt))), (d3, .inl (.inl (kA 3, 10, .inl dgv)))]) [(0, .ref L)] 0 0 0 []
  refine j_aload_n h 0 rfl rfl dX11_dealt_0 ?_
  refine j_aload_n h 0 rfl rfl dX11_dealt_1 ?_
  refine jm_get h iw_X11 0 rfl rfl 2 (by decide +kernel) tw_477 rfl dX11_dealt_2 ?_
  refine jm_get h iw_X5 3 rfl rfl 13 (by decide +kernel) tw_225 rfl dX11_dealt_5 ?_
  refine jm_put (w' := [(L, .inl (.inr (11, [.ref t, .ref rd, .ref s, .ref zz, .ref b, .ref bx, .ref tx, .ref so, .ref bd, .ref g, .ref gq, .ref v, .ref sk, .ref d, .ref fh, .ref sh, .ref ly, .int (nI sl), .int (nI tod)]))), (tx, .inl (.inl (kA 5, 2, .inr (.inr (.inr (.inr (q2 pa pb))))))), (ly, .inl (.inl (kA 1, 60, .inl lyf))), (s, .inl (.inr (5, [.ref s0, .ref s1, .ref s2, .ref s3, .ref s4, .ref s5, .ref s6, .ref s7, .ref s8, .ref s9, .ref s10, .ref s11, .int (nI sn), .int (nI sl), .int (nI se)]))), (s7, .inl (.inl (kA 1, 10, .inl sc7))), (pa, .inl (.inr (10, [.ref pa0, .int (nI pasz), .int (nI patm), .int (nI paft)]))), (pa0, .inl (.inl (kA 1, 60, .inl parow))), (pb, .inl (.inr (10, [.ref pb0, .int (nI pbsz), .int (nI pbtm), .int (nI pbft)]))), (d, .inl (.inr (1, [.ref d0, .ref d1, .ref d2, .ref d3]))), (d0, .inl (.inl (kA 1, 10, .inl dus))), (d1, .inl (.inl (kA 1, 10, .inl dru))), (d2, .inl (.inl (kA 1, 10, .inl drt))), (d3, .inl (.inl (kA 3, 10, .inl dgv)))]) h iw_X11 tyX11 tyX11_ok nmX11 0 rfl rfl 17 (by decide +kernel) tw_492 rfl rfl rfl (Nat.le_of_ble_eq_true rfl) dX11_dealt_8 rfl ?_
  refine j_aload_n h 0 rfl rfl dX11_dealt_11 ?_
  refine jm_get h iw_X11 0 rfl rfl 13 (by decide +kernel) tw_488 rfl dX11_dealt_12 ?_
  refine j_aload_n h 0 rfl rfl dX11_dealt_15 ?_
  refine jm_get h iw_X11 0 rfl rfl 2 (by decide +kernel) tw_477 rfl dX11_dealt_16 ?_
  refine j_aload_n h 0 rfl rfl dX11_dealt_19 ?_
  refine jm_get h iw_X11 0 rfl rfl 6 (by decide +kernel) tw_481 rfl dX11_dealt_20 ?_
  refine j_iconst (v := 0) h (by decide) dX11_dealt_23 ?_
  refine jm_aldO h 1 5 rfl rfl 0 (by decide +kernel) (by decide +kernel) (by decide +kernel) (rfl) dX11_dealt_24 ?_
  refine j_aload_n h 0 rfl rfl dX11_dealt_25 ?_
  refine jm_get h iw_X11 0 rfl rfl 16 (by decide +kernel) tw_491 rfl dX11_dealt_26 ?_
  refine jm_callVi (np := 3) (isC := [8, 9, 10, 11, 12, 3, 4, 5, 6, 2]) (isR := [0, 1, 7]) (wc := [(d, .inl (.inr (1, [.ref d0, .ref d1, .ref d2, .ref d3]))), (d0, .inl (.inl (kA 1, 10, .inl dus))), (d1, .inl (.inl (kA 1, 10, .inl dru))), (d2, .inl (.inl (kA 1, 10, .inl drt))), (d3, .inl (.inl (kA 3, 10, .inl dgv))), (s, .inl (.inr (5, [.ref s0, .ref s1, .ref s2, .ref s3, .ref s4, .ref s5, .ref s6, .ref s7, .ref s8, .ref s9, .ref s10, .ref s11, .int (nI sn), .int (nI sl), .int (nI se)]))), (s7, .inl (.inl (kA 1, 10, .inl sc7))), (pa, .inl (.inr (10, [.ref pa0, .int (nI pasz), .int (nI patm), .int (nI paft)]))), (pa0, .inl (.inl (kA 1, 60, .inl parow))), (ly, .inl (.inl (kA 1, 60, .inl lyf)))]) (wr := [(L, .inl (.inr (11, [.ref t, .ref rd, .ref s, .ref zz, .ref b, .ref bx, .ref tx, .ref so, .ref bd, .ref g, .ref gq, .ref v, .ref sk, .ref d, .ref fh, .ref sh, .ref ly, .int (nI sl), .int (nI tod)]))), (tx, .inl (.inl (kA 5, 2, .inr (.inr (.inr (.inr (q2 pa pb))))))), (pb, .inl (.inr (10, [.ref pb0, .int (nI pbsz), .int (nI pbtm), .int (nI pbft)])))]) (rest := []) (As := [.ref s, .ref pa, .ref ly]) (q0 := 0) h (s_X1_dealRows _ _ kA d s pa ly d0 d1 d2 d3 dus dru drt dgv s0 s1 s2 s3 s4 s5 s6 s7 s8 s9 s10 s11 sn sl se sc7 pa0 pasz patm paft parow lyf (show sn ≤ 6 by first | assumption | omega) (show sl ≤ 10 by first | assumption | omega) (show se ≤ 4 by first | assumption | omega) (show LtOk sl sc7 by first | assumption | exact LtOk_of (by assumption) | (intro _; assumption) | omega) (show pasz ≤ 60 by first | assumption | omega) (show patm ≤ 60 by first | assumption | omega) (show paft ≤ 1 by first | assumption | omega) (show RoOk sl pasz parow by first | assumption | exact RoOk_mono (by assumption) (by omega) | exact RoOk_step (by assumption) (by omega) | exact RoOk_zero _ _ | (intro _; assumption) | omega)) tw_1029 tw_1030 tw_1031 tw_98 tw_1032 (by decide +kernel) rfl ⟨Nat.le_of_ble_eq_true rfl, Nat.le_of_ble_eq_true rfl⟩ rfl rfl (by decide +kernel) rfl rfl (by decide +kernel) (by decide +kernel) (Nat.le_of_ble_eq_true rfl) rfl ⟨Nat.le_of_ble_eq_true rfl, Nat.le_of_ble_eq_true rfl⟩ dX11_dealt_29 ?_
  rintro r9118 ⟨q9112, q9113, q9114, q9115, q9116⟩ e9117
  show J x (mflat [(L, .inl (.inr (11, [.ref t, .ref rd, .ref s, .ref zz, .ref b, .ref bx, .ref tx, .ref so, .ref bd, .ref g, .ref gq, .ref v, .ref sk, .ref d, .ref fh, .ref sh, .ref ly, .int (nI sl), .int (nI tod)]))), (tx, .inl (.inl (kA 5, 2, .inr (.inr (.inr (.inr (q2 pa pb))))))), (pb, .inl (.inr (10, [.ref pb0, .int (nI pbsz), .int (nI pbtm), .int (nI pbft)]))), (d, .inl (.inr (1, [.ref d0, .ref d1, .ref d2, .ref d3]))), (d0, .inl (.inl (kA 1, 10, .inl q9112))), (d1, .inl (.inl (kA 1, 10, .inl q9113))), (d2, .inl (.inl (kA 1, 10, .inl q9114))), (d3, .inl (.inl (kA 3, 10, .inl q9115))), (s, .inl (.inr (5, [.ref s0, .ref s1, .ref s2, .ref s3, .ref s4, .ref s5, .ref s6, .ref s7, .ref s8, .ref s9, .ref s10, .ref s11, .int (nI sn), .int (nI sl), .int (nI se)]))), (s7, .inl (.inl (kA 1, 10, .inl sc7))), (pa, .inl (.inr (10, [.ref pa0, .int (nI pasz), .int (nI patm), .int (nI paft)]))), (pa0, .inl (.inl (kA 1, 60, .inl parow))), (ly, .inl (.inl (kA 1, 60, .inl q9116)))]) [(0, .ref L)] 0 0 32 [.int r9118]
  exact jm_iret h hq dX11_dealt_32 (q9116, q9112, q9113, q9114, q9115) [0, 1, 12, 8, 9, 10, 11, 2, 3, 4, 5, 6, 7] rfl (by decide) trivial (Nat.le_of_ble_eq_true rfl) (Nat.le_of_ble_eq_true rfl)
set_option maxHeartbeats 4000000 in
set_option maxRecDepth 100000 in
theorem s_X11_about (lau : Launch) (gg : va_G) (kA : Nat → ClassId) (L : Nat) (wh : Int32) (t : Nat) (rd : Nat) (s : Nat) (zz : Nat) (b : Nat) (bx : Nat) (tx : Nat) (so : Nat) (bd : Nat) (g : Nat) (gq : Nat) (v : Nat) (sk : Nat) (d : Nat) (fh : Nat) (sh : Nat) (ly : Nat) (lsz : Int32) (tod : Nat) (t0 : Nat) (tsz : Nat) (tkd : Int32) (tpl : Int32) (tbh : Int32) (twd : Int64) (tnu : Int32) (s0 : Nat) (s1 : Nat) (s2 : Nat) (s3 : Nat) (s4 : Nat) (s5 : Nat) (s6 : Nat) (s7 : Nat) (s8 : Nat) (s9 : Nat) (s10 : Nat) (s11 : Nat) (sn : Nat) (sl : Nat) (se : Nat) (b0 : Nat) (b1 : Nat) (bsz : Nat) (btm : Nat) (bft : Nat) (bkp : Int32) (pa : Nat) (pa0 : Nat) (pasz : Nat) (patm : Nat) (paft : Nat) (pb : Nat) (pb0 : Nat) (pbsz : Nat) (pbtm : Nat) (pbft : Nat) (so0 : Nat) (so1 : Nat) (so2 : Nat) (so3 : Nat) (so4 : Nat) (so5 : Nat) (son : Nat) (htsz : tsz ≤ 1600) (htod : tod ≤ 100000) (hsn : sn ≤ 6) (hsl : sl ≤ 10) (hse : se ≤ 4) (hbsz : bsz ≤ 60) (hbtm : btm ≤ 60) (hbft : bft ≤ 1) (hpasz : pasz ≤ 60) (hpatm : patm ≤ 60) (hpaft : paft ≤ 1) (hpbsz : pbsz ≤ 60) (hpbtm : pbtm ≤ 60) (hpbft : pbft ≤ 1) (hson : son ≤ 30) : CtI lau yX11_about cX11_about 2 (some .int) 1 0 0 gg kA [.ref L, .int wh] (mflat [(L, .inl (.inr (11, [.ref t, .ref rd, .ref s, .ref zz, .ref b, .ref bx, .ref tx, .ref so, .ref bd, .ref g, .ref gq, .ref v, .ref sk, .ref d, .ref fh, .ref sh, .ref ly, .int lsz, .int (nI tod)]))), (tx, .inl (.inl (kA 5, 2, .inr (.inr (.inr (.inr (q2 pa pb))))))), (t, .inl (.inr (9, [.ref t0, .int (nI tsz), .int tkd, .int tpl, .int tbh, .long twd, .int tnu]))), (s, .inl (.inr (5, [.ref s0, .ref s1, .ref s2, .ref s3, .ref s4, .ref s5, .ref s6, .ref s7, .ref s8, .ref s9, .ref s10, .ref s11, .int (nI sn), .int (nI sl), .int (nI se)]))), (b, .inl (.inr (2, [.ref b0, .ref b1, .int (nI bsz), .int (nI btm), .int (nI bft), .int bkp]))), (pa, .inl (.inr (10, [.ref pa0, .int (nI pasz), .int (nI patm), .int (nI paft)]))), (pb, .inl (.inr (10, [.ref pb0, .int (nI pbsz), .int (nI pbtm), .int (nI pbft)]))), (so, .inl (.inr (8, [.ref so0, .ref so1, .ref so2, .ref so3, .ref so4, .ref so5, .int (nI son)])))]) (S := Unit) (fun (r : Int32) (_ : Unit) => True) (fun (_ : Unit) => mflat [(L, .inl (.inr (11, [.ref t, .ref rd, .ref s, .ref zz, .ref b, .ref bx, .ref tx, .ref so, .ref bd, .ref g, .ref gq, .ref v, .ref sk, .ref d, .ref fh, .ref sh, .ref ly, .int lsz, .int (nI tod)]))), (tx, .inl (.inl (kA 5, 2, .inr (.inr (.inr (.inr (q2 pa pb))))))), (t, .inl (.inr (9, [.ref t0, .int (nI tsz), .int tkd, .int tpl, .int tbh, .long twd, .int tnu]))), (s, .inl (.inr (5, [.ref s0, .ref s1, .ref s2, .ref s3, .ref s4, .ref s5, .ref s6, .ref s7, .ref s8, .ref s9, .ref s10, .ref s11, .int (nI sn), .int (nI sl), .int (nI se)]))), (b, .inl (.inr (2, [.ref b0, .ref b1, .int (nI bsz), .int (nI btm), .int (nI bft), .int bkp]))), (pa, .inl (.inr (10, [.ref pa0, .int (nI pasz), .int (nI patm), .int (nI paft)]))), (pb, .inl (.inr (10, [.ref pb0, .int (nI pbsz), .int (nI pbtm), .int (nI pbft)]))), (so, .inl (.inr (8, [.ref so0, .ref so1, .ref so2, .ref so3, .ref so4, .ref so5, .int (nI son)])))]) := by
  refine nx_startI (by decide +kernel) (Nat.le_of_ble_eq_true rfl) ?_
  intro x hnm h hq
  have h : Ok x cX11_about RX11 kA (rmC 1 0 0) 2 := h
  show J x (mflat [(L, .inl (.inr (11, [.ref t, .ref rd, .ref s, .ref zz, .ref b, .ref bx, .ref tx, .ref so, .ref bd, .ref g, .ref gq, .ref v, .ref sk, .ref d, .ref fh, .ref sh, .ref ly, .int lsz, .int (nI tod)]))), (tx, .inl (.inl (kA 5, 2, .inr (.inr (.inr (.inr (q2 pa pb))))))), (t, .inl (.inr (9, [.ref t0, .int (nI tsz), .int tkd, .int tpl, .int tbh, .long twd, .int tnu]))), (s, .inl (.inr (5, [.ref s0, .ref s1, .ref s2, .ref s3, .ref s4, .ref s5, .ref s6, .ref s7, .ref s8, .ref s9, .ref s10, .ref s11, .int (nI sn), .int (nI sl), .int (nI se)]))), (b, .inl (.inr (2, [.ref b0, .ref b1, .int (nI bsz), .int (nI btm), .int (nI bft), .int bkp]))), (pa, .inl (.inr (10, [.ref pa0, .int (nI pasz), .int (nI patm), .int (nI paft)]))), (pb, .inl (.inr (10, [.ref pb0, .int (nI pbsz), .int (nI pbtm), .int (nI pbft)]))), (so, .inl (.inr (8, [.ref so0, .ref so1, .ref so2, .ref so3, .ref so4, .ref so5, .int (nI son)])))]) [(0, .ref L), (1, .int wh)] 0 0 0 []
  refine j_iload_n h 1 rfl rfl dX11_about_0 ?_
  by_cases z9214 : wh.toInt < 0 ∨ 11 < wh.toInt
  · refine j_tabOut h 158 dX11_about_1 z9214 (by decide) ?_
    refine j_iconst (v := (-1)) h (by decide) dX11_about_158 ?_
    exact jm_iret h hq dX11_about_159 () [0, 1, 2, 3, 4, 5, 6, 7] rfl (by decide) trivial (Nat.le_of_ble_eq_true rfl) (Nat.le_of_ble_eq_true rfl)
  · rcases (tab_cases11 z9214) with rfl | rfl | rfl | rfl | rfl | rfl | rfl | rfl | rfl | rfl | rfl | rfl
    · show J x (mflat [(L, .inl (.inr (11, [.ref t, .ref rd, .ref s, .ref zz, .ref b, .ref bx, .ref tx, .ref so, .ref bd, .ref g, .ref gq, .ref v, .ref sk, .ref d, .ref fh, .ref sh, .ref ly, .int lsz, .int (nI tod)]))), (tx, .inl (.inl (kA 5, 2, .inr (.inr (.inr (.inr (q2 pa pb))))))), (t, .inl (.inr (9, [.ref t0, .int (nI tsz), .int tkd, .int tpl, .int tbh, .long twd, .int tnu]))), (s, .inl (.inr (5, [.ref s0, .ref s1, .ref s2, .ref s3, .ref s4, .ref s5, .ref s6, .ref s7, .ref s8, .ref s9, .ref s10, .ref s11, .int (nI sn), .int (nI sl), .int (nI se)]))), (b, .inl (.inr (2, [.ref b0, .ref b1, .int (nI bsz), .int (nI btm), .int (nI bft), .int bkp]))), (pa, .inl (.inr (10, [.ref pa0, .int (nI pasz), .int (nI patm), .int (nI paft)]))), (pb, .inl (.inr (10, [.ref pb0, .int (nI pbsz), .int (nI pbtm), .int (nI pbft)]))), (so, .inl (.inr (8, [.ref so0, .ref so1, .ref so2, .ref so3, .ref so4, .ref so5, .int (nI son)])))]) [(0, .ref L), (1, .int 0)] 0 0 1 [.int 0]
      refine j_tabIn h 64 dX11_about_1 (by decide) (by decide) rfl (by decide) ?_
      refine j_aload_n h 0 rfl rfl dX11_about_64 ?_
      refine jm_get h iw_X11 0 rfl rfl 2 (by decide +kernel) tw_477 rfl dX11_about_65 ?_
      refine jm_get h iw_X5 3 rfl rfl 12 (by decide +kernel) tw_221 rfl dX11_about_68 ?_
      exact jm_iret h hq dX11_about_71 () [0, 1, 2, 3, 4, 5, 6, 7] rfl (by decide) trivial (Nat.le_of_ble_eq_true rfl) (Nat.le_of_ble_eq_true rfl)
    · show J x (mflat [(L, .inl (.inr (11, [.ref t, .ref rd, .ref s, .ref zz, .ref b, .ref bx, .ref tx, .ref so, .ref bd, .ref g, .ref gq, .ref v, .ref sk, .ref d, .ref fh, .ref sh, .ref ly, .int lsz, .int (nI tod)]))), (tx, .inl (.inl (kA 5, 2, .inr (.inr (.inr (.inr (q2 pa pb))))))), (t, .inl (.inr (9, [.ref t0, .int (nI tsz), .int tkd, .int tpl, .int tbh, .long twd, .int tnu]))), (s, .inl (.inr (5, [.ref s0, .ref s1, .ref s2, .ref s3, .ref s4, .ref s5, .ref s6, .ref s7, .ref s8, .ref s9, .ref s10, .ref s11, .int (nI sn), .int (nI sl), .int (nI se)]))), (b, .inl (.inr (2, [.ref b0, .ref b1, .int (nI bsz), .int (nI btm), .int (nI bft), .int bkp]))), (pa, .inl (.inr (10, [.ref pa0, .int (nI pasz), .int (nI patm), .int (nI paft)]))), (pb, .inl (.inr (10, [.ref pb0, .int (nI pbsz), .int (nI pbtm), .int (nI pbft)]))), (so, .inl (.inr (8, [.ref so0, .ref so1, .ref so2, .ref so3, .ref so4, .ref so5, .int (nI son)])))]) [(0, .ref L), (1, .int 1)] 0 0 1 [.int 1]
      refine j_tabIn h 72 dX11_about_1 (by decide) (by decide) rfl (by decide) ?_
      refine j_aload_n h 0 rfl rfl dX11_about_72 ?_
      refine jm_get h iw_X11 0 rfl rfl 2 (by decide +kernel) tw_477 rfl dX11_about_73 ?_
      refine jm_get h iw_X5 3 rfl rfl 13 (by decide +kernel) tw_225 rfl dX11_about_76 ?_
      exact jm_iret h hq dX11_about_79 () [0, 1, 2, 3, 4, 5, 6, 7] rfl (by decide) trivial (Nat.le_of_ble_eq_true rfl) (Nat.le_of_ble_eq_true rfl)
    · show J x (mflat [(L, .inl (.inr (11, [.ref t, .ref rd, .ref s, .ref zz, .ref b, .ref bx, .ref tx, .ref so, .ref bd, .ref g, .ref gq, .ref v, .ref sk, .ref d, .ref fh, .ref sh, .ref ly, .int lsz, .int (nI tod)]))), (tx, .inl (.inl (kA 5, 2, .inr (.inr (.inr (.inr (q2 pa pb))))))), (t, .inl (.inr (9, [.ref t0, .int (nI tsz), .int tkd, .int tpl, .int tbh, .long twd, .int tnu]))), (s, .inl (.inr (5, [.ref s0, .ref s1, .ref s2, .ref s3, .ref s4, .ref s5, .ref s6, .ref s7, .ref s8, .ref s9, .ref s10, .ref s11, .int (nI sn), .int (nI sl), .int (nI se)]))), (b, .inl (.inr (2, [.ref b0, .ref b1, .int (nI bsz), .int (nI btm), .int (nI bft), .int bkp]))), (pa, .inl (.inr (10, [.ref pa0, .int (nI pasz), .int (nI patm), .int (nI paft)]))), (pb, .inl (.inr (10, [.ref pb0, .int (nI pbsz), .int (nI pbtm), .int (nI pbft)]))), (so, .inl (.inr (8, [.ref so0, .ref so1, .ref so2, .ref so3, .ref so4, .ref so5, .int (nI son)])))]) [(0, .ref L), (1, .int 2)] 0 0 1 [.int 2]
      refine j_tabIn h 80 dX11_about_1 (by decide) (by decide) rfl (by decide) ?_
      refine j_aload_n h 0 rfl rfl dX11_about_80 ?_
      refine jm_get h iw_X11 0 rfl rfl 2 (by decide +kernel) tw_477 rfl dX11_about_81 ?_
      refine jm_get h iw_X5 3 rfl rfl 14 (by decide +kernel) tw_231 rfl dX11_about_84 ?_
      exact jm_iret h hq dX11_about_87 () [0, 1, 2, 3, 4, 5, 6, 7] rfl (by decide) trivial (Nat.le_of_ble_eq_true rfl) (Nat.le_of_ble_eq_true rfl)
    · show J x (mflat [(L, .inl (.inr (11, [.ref t, .ref rd, .ref s, .ref zz, .ref b, .ref bx, .ref tx, .ref so, .ref bd, .ref g, .ref gq, .ref v, .ref sk, .ref d, .ref fh, .ref sh, .ref ly, .int lsz, .int (nI tod)]))), (tx, .inl (.inl (kA 5, 2, .inr (.inr (.inr (.inr (q2 pa pb))))))), (t, .inl (.inr (9, [.ref t0, .int (nI tsz), .int tkd, .int tpl, .int tbh, .long twd, .int tnu]))), (s, .inl (.inr (5, [.ref s0, .ref s1, .ref s2, .ref s3, .ref s4, .ref s5, .ref s6, .ref s7, .ref s8, .ref s9, .ref s10, .ref s11, .int (nI sn), .int (nI sl), .int (nI se)]))), (b, .inl (.inr (2, [.ref b0, .ref b1, .int (nI bsz), .int (nI btm), .int (nI bft), .int bkp]))), (pa, .inl (.inr (10, [.ref pa0, .int (nI pasz), .int (nI patm), .int (nI paft)]))), (pb, .inl (.inr (10, [.ref pb0, .int (nI pbsz), .int (nI pbtm), .int (nI pbft)]))), (so, .inl (.inr (8, [.ref so0, .ref so1, .ref so2, .ref so3, .ref so4, .ref so5, .int (nI son)])))]) [(0, .ref L), (1, .int 3)] 0 0 1 [.int 3]
      refine j_tabIn h 88 dX11_about_1 (by decide) (by decide) rfl (by decide) ?_
      refine j_aload_n h 0 rfl rfl dX11_about_88 ?_
      refine jm_get h iw_X11 0 rfl rfl 4 (by decide +kernel) tw_479 rfl dX11_about_89 ?_
      refine jm_get h iw_X2 4 rfl rfl 3 (by decide +kernel) tw_277 rfl dX11_about_92 ?_
      exact jm_iret h hq dX11_about_95 () [0, 1, 2, 3, 4, 5, 6, 7] rfl (by decide) trivial (Nat.le_of_ble_eq_true rfl) (Nat.le_of_ble_eq_true rfl)
    · show J x (mflat [(L, .inl (.inr (11, [.ref t, .ref rd, .ref s, .ref zz, .ref b, .ref bx, .ref tx, .ref so, .ref bd, .ref g, .ref gq, .ref v, .ref sk, .ref d, .ref fh, .ref sh, .ref ly, .int lsz, .int (nI tod)]))), (tx, .inl (.inl (kA 5, 2, .inr (.inr (.inr (.inr (q2 pa pb))))))), (t, .inl (.inr (9, [.ref t0, .int (nI tsz), .int tkd, .int tpl, .int tbh, .long twd, .int tnu]))), (s, .inl (.inr (5, [.ref s0, .ref s1, .ref s2, .ref s3, .ref s4, .ref s5, .ref s6, .ref s7, .ref s8, .ref s9, .ref s10, .ref s11, .int (nI sn), .int (nI sl), .int (nI se)]))), (b, .inl (.inr (2, [.ref b0, .ref b1, .int (nI bsz), .int (nI btm), .int (nI bft), .int bkp]))), (pa, .inl (.inr (10, [.ref pa0, .int (nI pasz), .int (nI patm), .int (nI paft)]))), (pb, .inl (.inr (10, [.ref pb0, .int (nI pbsz), .int (nI pbtm), .int (nI pbft)]))), (so, .inl (.inr (8, [.ref so0, .ref so1, .ref so2, .ref so3, .ref so4, .ref so5, .int (nI son)])))]) [(0, .ref L), (1, .int 4)] 0 0 1 [.int 4]
      refine j_tabIn h 96 dX11_about_1 (by decide) (by decide) rfl (by decide) ?_
      refine j_aload_n h 0 rfl rfl dX11_about_96 ?_
      refine jm_get h iw_X11 0 rfl rfl 4 (by decide +kernel) tw_479 rfl dX11_about_97 ?_
      refine jm_get h iw_X2 4 rfl rfl 2 (by decide +kernel) tw_275 rfl dX11_about_100 ?_
      exact jm_iret h hq dX11_about_103 () [0, 1, 2, 3, 4, 5, 6, 7] rfl (by decide) trivial (Nat.le_of_ble_eq_true rfl) (Nat.le_of_ble_eq_true rfl)
    · show J x (mflat [(L, .inl (.inr (11, [.ref t, .ref rd, .ref s, .ref zz, .ref b, .ref bx, .ref tx, .ref so, .ref bd, .ref g, .ref gq, .ref v, .ref sk, .ref d, .ref fh, .ref sh, .ref ly, .int lsz, .int (nI tod)]))), (tx, .inl (.inl (kA 5, 2, .inr (.inr (.inr (.inr (q2 pa pb))))))), (t, .inl (.inr (9, [.ref t0, .int (nI tsz), .int tkd, .int tpl, .int tbh, .long twd, .int tnu]))), (s, .inl (.inr (5, [.ref s0, .ref s1, .ref s2, .ref s3, .ref s4, .ref s5, .ref s6, .ref s7, .ref s8, .ref s9, .ref s10, .ref s11, .int (nI sn), .int (nI sl), .int (nI se)]))), (b, .inl (.inr (2, [.ref b0, .ref b1, .int (nI bsz), .int (nI btm), .int (nI bft), .int bkp]))), (pa, .inl (.inr (10, [.ref pa0, .int (nI pasz), .int (nI patm), .int (nI paft)]))), (pb, .inl (.inr (10, [.ref pb0, .int (nI pbsz), .int (nI pbtm), .int (nI pbft)]))), (so, .inl (.inr (8, [.ref so0, .ref so1, .ref so2, .ref so3, .ref so4, .ref so5, .int (nI son)])))]) [(0, .ref L), (1, .int 5)] 0 0 1 [.int 5]
      refine j_tabIn h 104 dX11_about_1 (by decide) (by decide) rfl (by decide) ?_
      refine j_aload_n h 0 rfl rfl dX11_about_104 ?_
      refine jm_get h iw_X11 0 rfl rfl 4 (by decide +kernel) tw_479 rfl dX11_about_105 ?_
      refine jm_get h iw_X2 4 rfl rfl 4 (by decide +kernel) tw_279 rfl dX11_about_108 ?_
      exact jm_iret h hq dX11_about_111 () [0, 1, 2, 3, 4, 5, 6, 7] rfl (by decide) trivial (Nat.le_of_ble_eq_true rfl) (Nat.le_of_ble_eq_true rfl)
    · show J x (mflat [(L, .inl (.inr (11, [.ref t, .ref rd, .ref s, .ref zz, .ref b, .ref bx, .ref tx, .ref so, .ref bd, .ref g, .ref gq, .ref v, .ref sk, .ref d, .ref fh, .ref sh, .ref ly, .int lsz, .int (nI tod)]))), (tx, .inl (.inl (kA 5, 2, .inr (.inr (.inr (.inr (q2 pa pb))))))), (t, .inl (.inr (9, [.ref t0, .int (nI tsz), .int tkd, .int tpl, .int tbh, .long twd, .int tnu]))), (s, .inl (.inr (5, [.ref s0, .ref s1, .ref s2, .ref s3, .ref s4, .ref s5, .ref s6, .ref s7, .ref s8, .ref s9, .ref s10, .ref s11, .int (nI sn), .int (nI sl), .int (nI se)]))), (b, .inl (.inr (2, [.ref b0, .ref b1, .int (nI bsz), .int (nI btm), .int (nI bft), .int bkp]))), (pa, .inl (.inr (10, [.ref pa0, .int (nI pasz), .int (nI patm), .int (nI paft)]))), (pb, .inl (.inr (10, [.ref pb0, .int (nI pbsz), .int (nI pbtm), .int (nI pbft)]))), (so, .inl (.inr (8, [.ref so0, .ref so1, .ref so2, .ref so3, .ref so4, .ref so5, .int (nI son)])))]) [(0, .ref L), (1, .int 6)] 0 0 1 [.int 6]
      refine j_tabIn h 112 dX11_about_1 (by decide) (by decide) rfl (by decide) ?_
      refine j_aload_n h 0 rfl rfl dX11_about_112 ?_
      refine jm_get h iw_X11 0 rfl rfl 6 (by decide +kernel) tw_481 rfl dX11_about_113 ?_
      refine j_iconst (v := 0) h (by decide) dX11_about_116 ?_
      refine jm_aldO h 1 5 rfl rfl 0 (by decide +kernel) (by decide +kernel) (by decide +kernel) (rfl) dX11_about_117 ?_
      refine jm_get h iw_X10 5 rfl rfl 1 (by decide +kernel) tw_308 rfl dX11_about_118 ?_
      exact jm_iret h hq dX11_about_121 () [0, 1, 2, 3, 4, 5, 6, 7] rfl (by decide) trivial (Nat.le_of_ble_eq_true rfl) (Nat.le_of_ble_eq_true rfl)
    · show J x (mflat [(L, .inl (.inr (11, [.ref t, .ref rd, .ref s, .ref zz, .ref b, .ref bx, .ref tx, .ref so, .ref bd, .ref g, .ref gq, .ref v, .ref sk, .ref d, .ref fh, .ref sh, .ref ly, .int lsz, .int (nI tod)]))), (tx, .inl (.inl (kA 5, 2, .inr (.inr (.inr (.inr (q2 pa pb))))))), (t, .inl (.inr (9, [.ref t0, .int (nI tsz), .int tkd, .int tpl, .int tbh, .long twd, .int tnu]))), (s, .inl (.inr (5, [.ref s0, .ref s1, .ref s2, .ref s3, .ref s4, .ref s5, .ref s6, .ref s7, .ref s8, .ref s9, .ref s10, .ref s11, .int (nI sn), .int (nI sl), .int (nI se)]))), (b, .inl (.inr (2, [.ref b0, .ref b1, .int (nI bsz), .int (nI btm), .int (nI bft), .int bkp]))), (pa, .inl (.inr (10, [.ref pa0, .int (nI pasz), .int (nI patm), .int (nI paft)]))), (pb, .inl (.inr (10, [.ref pb0, .int (nI pbsz), .int (nI pbtm), .int (nI pbft)]))), (so, .inl (.inr (8, [.ref so0, .ref so1, .ref so2, .ref so3, .ref so4, .ref so5, .int (nI son)])))]) [(0, .ref L), (1, .int 7)] 0 0 1 [.int 7]
      refine j_tabIn h 122 dX11_about_1 (by decide) (by decide) rfl (by decide) ?_
      refine j_aload_n h 0 rfl rfl dX11_about_122 ?_
      refine jm_get h iw_X11 0 rfl rfl 6 (by decide +kernel) tw_481 rfl dX11_about_123 ?_
      refine j_iconst (v := 1) h (by decide) dX11_about_126 ?_
      refine jm_aldO h 1 5 rfl rfl 1 (by decide +kernel) (by decide +kernel) (by decide +kernel) (rfl) dX11_about_127 ?_
      refine jm_get h iw_X10 6 rfl rfl 1 (by decide +kernel) tw_308 rfl dX11_about_128 ?_
      exact jm_iret h hq dX11_about_131 () [0, 1, 2, 3, 4, 5, 6, 7] rfl (by decide) trivial (Nat.le_of_ble_eq_true rfl) (Nat.le_of_ble_eq_true rfl)
    · show J x (mflat [(L, .inl (.inr (11, [.ref t, .ref rd, .ref s, .ref zz, .ref b, .ref bx, .ref tx, .ref so, .ref bd, .ref g, .ref gq, .ref v, .ref sk, .ref d, .ref fh, .ref sh, .ref ly, .int lsz, .int (nI tod)]))), (tx, .inl (.inl (kA 5, 2, .inr (.inr (.inr (.inr (q2 pa pb))))))), (t, .inl (.inr (9, [.ref t0, .int (nI tsz), .int tkd, .int tpl, .int tbh, .long twd, .int tnu]))), (s, .inl (.inr (5, [.ref s0, .ref s1, .ref s2, .ref s3, .ref s4, .ref s5, .ref s6, .ref s7, .ref s8, .ref s9, .ref s10, .ref s11, .int (nI sn), .int (nI sl), .int (nI se)]))), (b, .inl (.inr (2, [.ref b0, .ref b1, .int (nI bsz), .int (nI btm), .int (nI bft), .int bkp]))), (pa, .inl (.inr (10, [.ref pa0, .int (nI pasz), .int (nI patm), .int (nI paft)]))), (pb, .inl (.inr (10, [.ref pb0, .int (nI pbsz), .int (nI pbtm), .int (nI pbft)]))), (so, .inl (.inr (8, [.ref so0, .ref so1, .ref so2, .ref so3, .ref so4, .ref so5, .int (nI son)])))]) [(0, .ref L), (1, .int 8)] 0 0 1 [.int 8]
      refine j_tabIn h 132 dX11_about_1 (by decide) (by decide) rfl (by decide) ?_
      refine j_aload_n h 0 rfl rfl dX11_about_132 ?_
      refine jm_get h iw_X11 0 rfl rfl 7 (by decide +kernel) tw_482 rfl dX11_about_133 ?_
      refine jm_get h iw_X8 7 rfl rfl 6 (by decide +kernel) tw_334 rfl dX11_about_136 ?_
      exact jm_iret h hq dX11_about_139 () [0, 1, 2, 3, 4, 5, 6, 7] rfl (by decide) trivial (Nat.le_of_ble_eq_true rfl) (Nat.le_of_ble_eq_true rfl)
    · show J x (mflat [(L, .inl (.inr (11, [.ref t, .ref rd, .ref s, .ref zz, .ref b, .ref bx, .ref tx, .ref so, .ref bd, .ref g, .ref gq, .ref v, .ref sk, .ref d, .ref fh, .ref sh, .ref ly, .int lsz, .int (nI tod)]))), (tx, .inl (.inl (kA 5, 2, .inr (.inr (.inr (.inr (q2 pa pb))))))), (t, .inl (.inr (9, [.ref t0, .int (nI tsz), .int tkd, .int tpl, .int tbh, .long twd, .int tnu]))), (s, .inl (.inr (5, [.ref s0, .ref s1, .ref s2, .ref s3, .ref s4, .ref s5, .ref s6, .ref s7, .ref s8, .ref s9, .ref s10, .ref s11, .int (nI sn), .int (nI sl), .int (nI se)]))), (b, .inl (.inr (2, [.ref b0, .ref b1, .int (nI bsz), .int (nI btm), .int (nI bft), .int bkp]))), (pa, .inl (.inr (10, [.ref pa0, .int (nI pasz), .int (nI patm), .int (nI paft)]))), (pb, .inl (.inr (10, [.ref pb0, .int (nI pbsz), .int (nI pbtm), .int (nI pbft)]))), (so, .inl (.inr (8, [.ref so0, .ref so1, .ref so2, .ref so3, .ref so4, .ref so5, .int (nI son)])))]) [(0, .ref L), (1, .int 9)] 0 0 1 [.int 9]
      refine j_tabIn h 140 dX11_about_1 (by decide) (by decide) rfl (by decide) ?_
      refine j_aload_n h 0 rfl rfl dX11_about_140 ?_
      refine jm_get h iw_X11 0 rfl rfl 18 (by decide +kernel) tw_493 rfl dX11_about_141 ?_
      exact jm_iret h hq dX11_about_144 () [0, 1, 2, 3, 4, 5, 6, 7] rfl (by decide) trivial (Nat.le_of_ble_eq_true rfl) (Nat.le_of_ble_eq_true rfl)
    · show J x (mflat [(L, .inl (.inr (11, [.ref t, .ref rd, .ref s, .ref zz, .ref b, .ref bx, .ref tx, .ref so, .ref bd, .ref g, .ref gq, .ref v, .ref sk, .ref d, .ref fh, .ref sh, .ref ly, .int lsz, .int (nI tod)]))), (tx, .inl (.inl (kA 5, 2, .inr (.inr (.inr (.inr (q2 pa pb))))))), (t, .inl (.inr (9, [.ref t0, .int (nI tsz), .int tkd, .int tpl, .int tbh, .long twd, .int tnu]))), (s, .inl (.inr (5, [.ref s0, .ref s1, .ref s2, .ref s3, .ref s4, .ref s5, .ref s6, .ref s7, .ref s8, .ref s9, .ref s10, .ref s11, .int (nI sn), .int (nI sl), .int (nI se)]))), (b, .inl (.inr (2, [.ref b0, .ref b1, .int (nI bsz), .int (nI btm), .int (nI bft), .int bkp]))), (pa, .inl (.inr (10, [.ref pa0, .int (nI pasz), .int (nI patm), .int (nI paft)]))), (pb, .inl (.inr (10, [.ref pb0, .int (nI pbsz), .int (nI pbtm), .int (nI pbft)]))), (so, .inl (.inr (8, [.ref so0, .ref so1, .ref so2, .ref so3, .ref so4, .ref so5, .int (nI son)])))]) [(0, .ref L), (1, .int 10)] 0 0 1 [.int 10]
      refine j_tabIn h 145 dX11_about_1 (by decide) (by decide) rfl (by decide) ?_
      refine j_aload_n h 0 rfl rfl dX11_about_145 ?_
      refine jm_get h iw_X11 0 rfl rfl 0 (by decide +kernel) tw_475 rfl dX11_about_146 ?_
      refine jm_get h iw_X9 2 rfl rfl 1 (by decide +kernel) tw_123 rfl dX11_about_149 ?_
      exact jm_iret h hq dX11_about_152 () [0, 1, 2, 3, 4, 5, 6, 7] rfl (by decide) trivial (Nat.le_of_ble_eq_true rfl) (Nat.le_of_ble_eq_true rfl)
    · show J x (mflat [(L, .inl (.inr (11, [.ref t, .ref rd, .ref s, .ref zz, .ref b, .ref bx, .ref tx, .ref so, .ref bd, .ref g, .ref gq, .ref v, .ref sk, .ref d, .ref fh, .ref sh, .ref ly, .int lsz, .int (nI tod)]))), (tx, .inl (.inl (kA 5, 2, .inr (.inr (.inr (.inr (q2 pa pb))))))), (t, .inl (.inr (9, [.ref t0, .int (nI tsz), .int tkd, .int tpl, .int tbh, .long twd, .int tnu]))), (s, .inl (.inr (5, [.ref s0, .ref s1, .ref s2, .ref s3, .ref s4, .ref s5, .ref s6, .ref s7, .ref s8, .ref s9, .ref s10, .ref s11, .int (nI sn), .int (nI sl), .int (nI se)]))), (b, .inl (.inr (2, [.ref b0, .ref b1, .int (nI bsz), .int (nI btm), .int (nI bft), .int bkp]))), (pa, .inl (.inr (10, [.ref pa0, .int (nI pasz), .int (nI patm), .int (nI paft)]))), (pb, .inl (.inr (10, [.ref pb0, .int (nI pbsz), .int (nI pbtm), .int (nI pbft)]))), (so, .inl (.inr (8, [.ref so0, .ref so1, .ref so2, .ref so3, .ref so4, .ref so5, .int (nI son)])))]) [(0, .ref L), (1, .int 11)] 0 0 1 [.int 11]
      refine j_tabIn h 153 dX11_about_1 (by decide) (by decide) rfl (by decide) ?_
      refine j_aload_n h 0 rfl rfl dX11_about_153 ?_
      refine jm_get h iw_X11 0 rfl rfl 17 (by decide +kernel) tw_492 rfl dX11_about_154 ?_
      exact jm_iret h hq dX11_about_157 () [0, 1, 2, 3, 4, 5, 6, 7] rfl (by decide) trivial (Nat.le_of_ble_eq_true rfl) (Nat.le_of_ble_eq_true rfl)
