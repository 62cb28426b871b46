def bRg (v lo hi : Int32) : Int32 := if v < lo then 0 else if hi < v then 0 else 1
theorem bRg_e (v : Int32) : bRg v 0 (-1) = 0 := by
  unfold bRg
  by_cases h : v < 0
  · rw [if_pos h]
  · rw [if_neg h]
    by_cases h2 : -1 < v
    · rw [if_pos h2]
    · have h3 : v ≤ -1 := Int32.not_lt.mp h2
      have h4 : (0 : Int32) ≤ v := Int32.not_lt.mp h
      exact absurd (Int32.le_trans h4 h3) (by decide)
theorem rg_cases (v : Int32) (n : Nat) (hn : n < 2147483647) : v < 0 ∨ (¬ v < 0 ∧ nI n < v) ∨ ∃ j : Nat, j ≤ n ∧ v = nI j := by
  by_cases h : v < 0
  · exact Or.inl h
  · obtain ⟨j, hj, rfl⟩ := nI_of h
    rcases Nat.lt_or_ge n j with q | q
    · exact Or.inr (Or.inl ⟨h, nI_lt q hj⟩)
    · exact Or.inr (Or.inr ⟨j, q, rfl⟩)
def bTx (t : Int32) : Int32 := if t < 0 then 0 else if 2 ≤ t then 0 else 1
theorem bTx_cases (t : Int32) : t = 0 ∨ t = 1 ∨ bTx t = 0 := by
  unfold bTx
  rcases rg_cases t 1 (by decide) with h | ⟨h, h2⟩ | ⟨j, hj, rfl⟩
  · exact Or.inr (Or.inr (if_pos h))
  · obtain ⟨j, hj, rfl⟩ := nI_of h
    have hj2 : 2 ≤ j := by
      rcases Nat.lt_or_ge j 2 with q | q
      · exact absurd h2 (nI_nlt (by omega) (by decide))
      · exact q
    refine Or.inr (Or.inr ?_)
    rw [if_neg h]
    exact if_pos (nI_le (a := 2) hj2 hj)
  · rcases (show j = 0 ∨ j = 1 by omega) with rfl | rfl
    · exact Or.inl rfl
    · exact Or.inr (Or.inl rfl)
def bBx (t : Int32) : Int32 := if t < 0 then 0 else if 3 ≤ t then 0 else 1
theorem bBx_cases (t : Int32) : t = 0 ∨ t = 1 ∨ t = 2 ∨ bBx t = 0 := by
  unfold bBx
  rcases rg_cases t 2 (by decide) with h | ⟨h, h2⟩ | ⟨j, hj, rfl⟩
  · exact Or.inr (Or.inr (Or.inr (if_pos h)))
  · obtain ⟨j, hj, rfl⟩ := nI_of h
    have hj2 : 3 ≤ j := by
      rcases Nat.lt_or_ge j 3 with q | q
      · exact absurd h2 (nI_nlt (by omega) (by decide))
      · exact q
    refine Or.inr (Or.inr (Or.inr ?_))
    rw [if_neg h]
    exact if_pos (nI_le (a := 3) hj2 hj)
  · rcases (show j = 0 ∨ j = 1 ∨ j = 2 by omega) with rfl | rfl | rfl
    · exact Or.inl rfl
    · exact Or.inr (Or.inl rfl)
    · exact Or.inr (Or.inr (Or.inl rfl))
theorem b01_cases (w : Int32) : w = 0 ∨ w = 1 ∨ (¬ w = 0 ∧ ¬ w = 1) := by
  by_cases h : w = 0
  · exact Or.inl h
  · by_cases h1 : w = 1
    · exact Or.inr (Or.inl h1)
    · exact Or.inr (Or.inr ⟨h, h1⟩)
theorem ab_cases (w : Int32) : w = 0 ∨ w = 1 ∨ w = 2 ∨ w = 3 ∨ w = 4 ∨ w = 5 ∨ w = 6 ∨ w = 7 ∨ w = 8 ∨ w = 9 ∨ w = 10 ∨ w = 11 ∨ (w.toInt < 0 ∨ 11 < w.toInt) := by
  by_cases h : w.toInt < 0
  · simp only [h, true_or, or_true]
  · by_cases h2 : 11 < w.toInt
    · simp only [h2, or_true]
    · have key : ∀ k : Int32, w.toInt = k.toInt → w = k := fun k e => Int32.toInt_inj.mp e
      have h3 : w.toInt = 0 ∨ w.toInt = 1 ∨ w.toInt = 2 ∨ w.toInt = 3 ∨ w.toInt = 4 ∨ w.toInt = 5 ∨ w.toInt = 6 ∨ w.toInt = 7 ∨ w.toInt = 8 ∨ w.toInt = 9 ∨ w.toInt = 10 ∨ w.toInt = 11 := by omega
      rcases h3 with e | e | e | e | e | e | e | e | e | e | e | e
      · exact Or.inl (key 0 e)
      · exact Or.inr (Or.inl (key 1 e))
      · exact Or.inr (Or.inr (Or.inl (key 2 e)))
      · exact Or.inr (Or.inr (Or.inr (Or.inl (key 3 e))))
      · exact Or.inr (Or.inr (Or.inr (Or.inr (Or.inl (key 4 e)))))
      · exact Or.inr (Or.inr (Or.inr (Or.inr (Or.inr (Or.inl (key 5 e))))))
      · exact Or.inr (Or.inr (Or.inr (Or.inr (Or.inr (Or.inr (Or.inl (key 6 e)))))))
      · exact Or.inr (Or.inr (Or.inr (Or.inr (Or.inr (Or.inr (Or.inr (Or.inl (key 7 e))))))))
      · exact Or.inr (Or.inr (Or.inr (Or.inr (Or.inr (Or.inr (Or.inr (Or.inr (Or.inl (key 8 e)))))))))
      · exact Or.inr (Or.inr (Or.inr (Or.inr (Or.inr (Or.inr (Or.inr (Or.inr (Or.inr (Or.inl (key 9 e))))))))))
      · exact Or.inr (Or.inr (Or.inr (Or.inr (Or.inr (Or.inr (Or.inr (Or.inr (Or.inr (Or.inr (Or.inl (key 10 e)))))))))))
      · exact Or.inr (Or.inr (Or.inr (Or.inr (Or.inr (Or.inr (Or.inr (Or.inr (Or.inr (Or.inr (Or.inr (Or.inl (key 11 e))))))))))))
def vEnd (n : Int32) : Int32 := if n < 0 then -1 else if n ≤ 0 then n else -1
def vFault (w : Int32) : Int32 := if w = 0 then 0 else -1
def vTxt (t : Int32) : Int32 := if bTx t = 0 then -1 else 0
def vBox (t : Int32) : Int32 := if bBx t = 0 then -1 else 0
def vLimp (w : Int32) : Int32 := if w = 0 then 0 else if w = 1 then 1 else -1
def vLater (b : Int32) : Int32 := if b < 0 then -1 else if 1000 < b then -1 else if b ≤ 100000 then b else -1
def vAb (w : Int32) : Int32 := if w.toInt < 0 ∨ 11 < w.toInt then -1 else 0
theorem dX5_hasStep_0 : decode cX5_hasStep 0 = .ok (.iload_n 1, 1) := by decide +kernel
theorem dX5_hasStep_1 : decode cX5_hasStep 1 = .ok (.ifCond .lt 15, 3) := by decide +kernel
theorem dX5_hasStep_16 : decode cX5_hasStep 16 = .ok (.iconst 0, 1) := by decide +kernel
theorem dX5_hasStep_17 : decode cX5_hasStep 17 = .ok (.ireturn, 1) := by decide +kernel
theorem dX5_hasStep_4 : decode cX5_hasStep 4 = .ok (.iload_n 1, 1) := by decide +kernel
theorem dX5_hasStep_5 : decode cX5_hasStep 5 = .ok (.aload_n 0, 1) := by decide +kernel
theorem dX5_hasStep_6 : decode cX5_hasStep 6 = .ok (.getfield 51, 3) := by decide +kernel
theorem tw_217 : Cond.fieldLink RX5 51 "LimpCode$School" "stepCount" "I" ∈ TT := nx_mem 217 (by decide +kernel) (by decide +kernel)
theorem dX5_hasStep_9 : decode cX5_hasStep 9 = .ok (.if_icmp .ge 7, 3) := by decide +kernel
theorem dX5_hasLetter_0 : decode cX5_hasLetter 0 = .ok (.iload_n 1, 1) := by decide +kernel
theorem dX5_hasLetter_1 : decode cX5_hasLetter 1 = .ok (.ifCond .lt 15, 3) := by decide +kernel
theorem dX5_hasLetter_16 : decode cX5_hasLetter 16 = .ok (.iconst 0, 1) := by decide +kernel
theorem dX5_hasLetter_17 : decode cX5_hasLetter 17 = .ok (.ireturn, 1) := by decide +kernel
theorem dX5_hasLetter_4 : decode cX5_hasLetter 4 = .ok (.iload_n 1, 1) := by decide +kernel
theorem dX5_hasLetter_5 : decode cX5_hasLetter 5 = .ok (.aload_n 0, 1) := by decide +kernel
theorem dX5_hasLetter_6 : decode cX5_hasLetter 6 = .ok (.getfield 55, 3) := by decide +kernel
theorem tw_222 : Cond.fieldLink RX5 55 "LimpCode$School" "letterCount" "I" ∈ TT := nx_mem 222 (by decide +kernel) (by decide +kernel)
theorem dX5_hasLetter_9 : decode cX5_hasLetter 9 = .ok (.if_icmp .ge 7, 3) := by decide +kernel
theorem dX5_hasEar_0 : decode cX5_hasEar 0 = .ok (.iload_n 1, 1) := by decide +kernel
theorem dX5_hasEar_1 : decode cX5_hasEar 1 = .ok (.ifCond .lt 15, 3) := by decide +kernel
theorem dX5_hasEar_16 : decode cX5_hasEar 16 = .ok (.iconst 0, 1) := by decide +kernel
theorem dX5_hasEar_17 : decode cX5_hasEar 17 = .ok (.ireturn, 1) := by decide +kernel
theorem dX5_hasEar_4 : decode cX5_hasEar 4 = .ok (.iload_n 1, 1) := by decide +kernel
theorem dX5_hasEar_5 : decode cX5_hasEar 5 = .ok (.aload_n 0, 1) := by decide +kernel
theorem dX5_hasEar_6 : decode cX5_hasEar 6 = .ok (.getfield 58, 3) := by decide +kernel
theorem tw_228 : Cond.fieldLink RX5 58 "LimpCode$School" "earCount" "I" ∈ TT := nx_mem 228 (by decide +kernel) (by decide +kernel)
theorem dX5_hasEar_9 : decode cX5_hasEar 9 = .ok (.if_icmp .ge 7, 3) := by decide +kernel
theorem dX11_isText_0 : decode cX11_isText 0 = .ok (.iload_n 0, 1) := by decide +kernel
theorem dX11_isText_1 : decode cX11_isText 1 = .ok (.ifCond .lt 12, 3) := by decide +kernel
theorem dX11_isText_13 : decode cX11_isText 13 = .ok (.iconst 0, 1) := by decide +kernel
theorem dX11_isText_14 : decode cX11_isText 14 = .ok (.ireturn, 1) := by decide +kernel
theorem dX11_isText_4 : decode cX11_isText 4 = .ok (.iload_n 0, 1) := by decide +kernel
theorem dX11_isText_5 : decode cX11_isText 5 = .ok (.iconst 2, 1) := by decide +kernel
theorem dX11_isText_6 : decode cX11_isText 6 = .ok (.if_icmp .ge 7, 3) := by decide +kernel
theorem dX11_isText_9 : decode cX11_isText 9 = .ok (.iconst 1, 1) := by decide +kernel
theorem dX11_isText_10 : decode cX11_isText 10 = .ok (.goto 4, 3) := by decide +kernel
theorem dX11_isBox_0 : decode cX11_isBox 0 = .ok (.iload_n 0, 1) := by decide +kernel
theorem dX11_isBox_1 : decode cX11_isBox 1 = .ok (.ifCond .lt 12, 3) := by decide +kernel
theorem dX11_isBox_13 : decode cX11_isBox 13 = .ok (.iconst 0, 1) := by decide +kernel
theorem dX11_isBox_14 : decode cX11_isBox 14 = .ok (.ireturn, 1) := by decide +kernel
theorem dX11_isBox_4 : decode cX11_isBox 4 = .ok (.iload_n 0, 1) := by decide +kernel
theorem dX11_isBox_5 : decode cX11_isBox 5 = .ok (.iconst 3, 1) := by decide +kernel
theorem dX11_isBox_6 : decode cX11_isBox 6 = .ok (.if_icmp .ge 7, 3) := by decide +kernel
theorem dX11_isBox_9 : decode cX11_isBox 9 = .ok (.iconst 1, 1) := by decide +kernel
theorem dX11_isBox_10 : decode cX11_isBox 10 = .ok (.goto 4, 3) := by decide +kernel
theorem dX9_put_0 : decode cX9_put 0 = .ok (.bipush 24, 2) := by decide +kernel
theorem dX9_put_2 : decode cX9_put 2 = .ok (.istore_n 2, 1) := by decide +kernel
theorem dX9_put_3 : decode cX9_put 3 = .ok (.iload_n 2, 1) := by decide +kernel
theorem dX9_put_4 : decode cX9_put 4 = .ok (.ifCond .lt 44, 3) := by decide +kernel
theorem dX9_put_7 : decode cX9_put 7 = .ok (.aload_n 0, 1) := by decide +kernel
theorem dX9_put_8 : decode cX9_put 8 = .ok (.getfield 15, 3) := by decide +kernel
theorem dX9_put_11 : decode cX9_put 11 = .ok (.aload_n 0, 1) := by decide +kernel
theorem dX9_put_12 : decode cX9_put 12 = .ok (.getfield 9, 3) := by decide +kernel
theorem dX9_put_15 : decode cX9_put 15 = .ok (.arraylength, 1) := by decide +kernel
theorem dX9_put_16 : decode cX9_put 16 = .ok (.if_icmp .ge 26, 3) := by decide +kernel
theorem dX9_put_19 : decode cX9_put 19 = .ok (.aload_n 0, 1) := by decide +kernel
theorem dX9_put_20 : decode cX9_put 20 = .ok (.getfield 9, 3) := by decide +kernel
theorem dX9_put_23 : decode cX9_put 23 = .ok (.aload_n 0, 1) := by decide +kernel
theorem dX9_put_24 : decode cX9_put 24 = .ok (.getfield 15, 3) := by decide +kernel
theorem dX9_put_27 : decode cX9_put 27 = .ok (.iload_n 1, 1) := by decide +kernel
theorem dX9_put_28 : decode cX9_put 28 = .ok (.iload_n 2, 1) := by decide +kernel
theorem dX9_put_29 : decode cX9_put 29 = .ok (.ishr, 1) := by decide +kernel
theorem dX9_put_30 : decode cX9_put 30 = .ok (.i2b, 1) := by decide +kernel
theorem dX9_put_31 : decode cX9_put 31 = .ok (.bastore, 1) := by decide +kernel
theorem dX9_put_32 : decode cX9_put 32 = .ok (.aload_n 0, 1) := by decide +kernel
theorem dX9_put_33 : decode cX9_put 33 = .ok (.dup, 1) := by decide +kernel
theorem dX9_put_34 : decode cX9_put 34 = .ok (.getfield 15, 3) := by decide +kernel
theorem dX9_put_37 : decode cX9_put 37 = .ok (.iconst 1, 1) := by decide +kernel
theorem dX9_put_38 : decode cX9_put 38 = .ok (.iadd, 1) := by decide +kernel
theorem dX9_put_39 : decode cX9_put 39 = .ok (.putfield 15, 3) := by decide +kernel
theorem dX9_put_42 : decode cX9_put 42 = .ok (.iinc 2 (-8), 3) := by decide +kernel
theorem dX9_put_45 : decode cX9_put 45 = .ok (.goto (-42), 3) := by decide +kernel
theorem dX9_put_48 : decode cX9_put 48 = .ok (.return_, 1) := by decide +kernel
theorem dX11_feed_0 : decode cX11_feed 0 = .ok (.aload_n 0, 1) := by decide +kernel
theorem dX11_feed_1 : decode cX11_feed 1 = .ok (.getfield 12, 3) := by decide +kernel
theorem dX11_feed_4 : decode cX11_feed 4 = .ok (.bipush 20, 2) := by decide +kernel
theorem dX11_feed_6 : decode cX11_feed 6 = .ok (.invokevirtual 108, 3) := by decide +kernel
theorem tw_537 : Cond.methodLink RX11 108 yX9_hasRoomFor ∈ TT := nx_mem 537 (by decide +kernel) (by decide +kernel)
theorem tw_538 : Cond.instanceMethod yX9_hasRoomFor ∈ TT := nx_mem 538 (by decide +kernel) (by decide +kernel)
theorem tw_539 : Cond.selects RX9 yX9_hasRoomFor yX9_hasRoomFor ∈ TT := nx_mem 539 (by decide +kernel) (by decide +kernel)
theorem tw_540 : Cond.code yX9_hasRoomFor cX9_hasRoomFor 2 (some .boolean) ∈ TT := nx_mem 540 (by decide +kernel) (by decide +kernel)
theorem dX11_feed_9 : decode cX11_feed 9 = .ok (.ifCond .ne 5, 3) := by decide +kernel
theorem dX11_feed_14 : decode cX11_feed 14 = .ok (.aload_n 0, 1) := by decide +kernel
theorem dX11_feed_15 : decode cX11_feed 15 = .ok (.getfield 12, 3) := by decide +kernel
theorem dX11_feed_18 : decode cX11_feed 18 = .ok (.iload_n 1, 1) := by decide +kernel
theorem dX11_feed_19 : decode cX11_feed 19 = .ok (.invokevirtual 112, 3) := by decide +kernel
theorem tw_541 : Cond.methodLink RX11 112 yX9_put ∈ TT := nx_mem 541 (by decide +kernel) (by decide +kernel)
theorem tw_542 : Cond.instanceMethod yX9_put ∈ TT := nx_mem 542 (by decide +kernel) (by decide +kernel)
theorem tw_543 : Cond.selects RX9 yX9_put yX9_put ∈ TT := nx_mem 543 (by decide +kernel) (by decide +kernel)
theorem tw_544 : Cond.code yX9_put cX9_put 3 none ∈ TT := nx_mem 544 (by decide +kernel) (by decide +kernel)
theorem dX11_feed_22 : decode cX11_feed 22 = .ok (.aload_n 0, 1) := by decide +kernel
theorem dX11_feed_23 : decode cX11_feed 23 = .ok (.getfield 12, 3) := by decide +kernel
theorem dX11_feed_26 : decode cX11_feed 26 = .ok (.iload_n 2, 1) := by decide +kernel
theorem dX11_feed_27 : decode cX11_feed 27 = .ok (.invokevirtual 112, 3) := by decide +kernel
theorem dX11_feed_30 : decode cX11_feed 30 = .ok (.aload_n 0, 1) := by decide +kernel
theorem dX11_feed_31 : decode cX11_feed 31 = .ok (.getfield 12, 3) := by decide +kernel
theorem dX11_feed_34 : decode cX11_feed 34 = .ok (.iload_n 3, 1) := by decide +kernel
theorem dX11_feed_35 : decode cX11_feed 35 = .ok (.invokevirtual 112, 3) := by decide +kernel
theorem dX11_feed_38 : decode cX11_feed 38 = .ok (.aload_n 0, 1) := by decide +kernel
theorem dX11_feed_39 : decode cX11_feed 39 = .ok (.getfield 12, 3) := by decide +kernel
theorem dX11_feed_42 : decode cX11_feed 42 = .ok (.iload 4, 2) := by decide +kernel
theorem dX11_feed_44 : decode cX11_feed 44 = .ok (.invokevirtual 112, 3) := by decide +kernel
theorem dX11_feed_47 : decode cX11_feed 47 = .ok (.aload_n 0, 1) := by decide +kernel
theorem dX11_feed_48 : decode cX11_feed 48 = .ok (.getfield 12, 3) := by decide +kernel
theorem dX11_feed_51 : decode cX11_feed 51 = .ok (.iload 5, 2) := by decide +kernel
theorem dX11_feed_53 : decode cX11_feed 53 = .ok (.invokevirtual 112, 3) := by decide +kernel
theorem dX11_feed_56 : decode cX11_feed 56 = .ok (.aload_n 0, 1) := by decide +kernel
theorem dX11_feed_57 : decode cX11_feed 57 = .ok (.getfield 12, 3) := by decide +kernel
theorem dX11_feed_60 : decode cX11_feed 60 = .ok (.getfield 115, 3) := by decide +kernel
theorem tw_123 : Cond.fieldLink RX11 115 "LimpCode$Tape" "size" "I" ∈ TT := nx_mem 123 (by decide +kernel) (by decide +kernel)
theorem dX11_feed_63 : decode cX11_feed 63 = .ok (.ireturn, 1) := by decide +kernel
theorem dX11_end_0 : decode cX11_end 0 = .ok (.iload_n 1, 1) := by decide +kernel
theorem dX11_end_1 : decode cX11_end 1 = .ok (.ifCond .lt 14, 3) := by decide +kernel
theorem dX11_end_15 : decode cX11_end 15 = .ok (.iconst (-1), 1) := by decide +kernel
theorem dX11_end_16 : decode cX11_end 16 = .ok (.ireturn, 1) := by decide +kernel
theorem dX11_end_4 : decode cX11_end 4 = .ok (.iload_n 1, 1) := by decide +kernel
theorem dX11_end_5 : decode cX11_end 5 = .ok (.aload_n 0, 1) := by decide +kernel
theorem dX11_end_6 : decode cX11_end 6 = .ok (.getfield 12, 3) := by decide +kernel
theorem dX11_end_9 : decode cX11_end 9 = .ok (.getfield 115, 3) := by decide +kernel
theorem dX11_end_12 : decode cX11_end 12 = .ok (.if_icmp .le 5, 3) := by decide +kernel
theorem dX11_end_17 : decode cX11_end 17 = .ok (.aload_n 0, 1) := by decide +kernel
theorem dX11_end_18 : decode cX11_end 18 = .ok (.getfield 12, 3) := by decide +kernel
theorem dX11_end_21 : decode cX11_end 21 = .ok (.iload_n 1, 1) := by decide +kernel
theorem dX11_end_22 : decode cX11_end 22 = .ok (.putfield 115, 3) := by decide +kernel
theorem dX11_end_25 : decode cX11_end 25 = .ok (.iload_n 1, 1) := by decide +kernel
theorem dX11_end_26 : decode cX11_end 26 = .ok (.ireturn, 1) := by decide +kernel
theorem dX11_fault_0 : decode cX11_fault 0 = .ok (.iload_n 1, 1) := by decide +kernel
theorem dX11_fault_1 : decode cX11_fault 1 = .ok (.ifCond .ne 11, 3) := by decide +kernel
theorem dX11_fault_12 : decode cX11_fault 12 = .ok (.iload_n 1, 1) := by decide +kernel
theorem dX11_fault_13 : decode cX11_fault 13 = .ok (.iconst 1, 1) := by decide +kernel
theorem dX11_fault_14 : decode cX11_fault 14 = .ok (.if_icmp .ne 13, 3) := by decide +kernel
theorem dX11_fault_27 : decode cX11_fault 27 = .ok (.iconst (-1), 1) := by decide +kernel
theorem dX11_fault_28 : decode cX11_fault 28 = .ok (.ireturn, 1) := by decide +kernel
theorem dX11_fault_17 : decode cX11_fault 17 = .ok (.aload_n 0, 1) := by decide +kernel
theorem dX11_fault_18 : decode cX11_fault 18 = .ok (.getfield 19, 3) := by decide +kernel
theorem dX11_fault_21 : decode cX11_fault 21 = .ok (.getfield 149, 3) := by decide +kernel
theorem tw_158 : Cond.fieldLink RX11 149 "LimpCode$SchoolReader" "faultPlace" "I" ∈ TT := nx_mem 158 (by decide +kernel) (by decide +kernel)
theorem dX11_fault_24 : decode cX11_fault 24 = .ok (.goto 4, 3) := by decide +kernel
theorem dX11_fault_4 : decode cX11_fault 4 = .ok (.aload_n 0, 1) := by decide +kernel
theorem dX11_fault_5 : decode cX11_fault 5 = .ok (.getfield 19, 3) := by decide +kernel
theorem dX11_fault_8 : decode cX11_fault 8 = .ok (.getfield 146, 3) := by decide +kernel
theorem tw_156 : Cond.fieldLink RX11 146 "LimpCode$SchoolReader" "fault" "I" ∈ TT := nx_mem 156 (by decide +kernel) (by decide +kernel)
theorem dX11_fault_11 : decode cX11_fault 11 = .ok (.ireturn, 1) := by decide +kernel
theorem dX2_walkOn_0 : decode cX2_walkOn 0 = .ok (.aload_n 1, 1) := by decide +kernel
theorem dX2_walkOn_1 : decode cX2_walkOn 1 = .ok (.iload_n 2, 1) := by decide +kernel
theorem dX2_walkOn_2 : decode cX2_walkOn 2 = .ok (.invokevirtual 42, 3) := by decide +kernel
theorem tw_758 : Cond.methodLink RX2 42 yX5_hasStep ∈ TT := nx_mem 758 (by decide +kernel) (by decide +kernel)
theorem tw_713 : Cond.instanceMethod yX5_hasStep ∈ TT := nx_mem 713 (by decide +kernel) (by decide +kernel)
theorem tw_714 : Cond.selects RX5 yX5_hasStep yX5_hasStep ∈ TT := nx_mem 714 (by decide +kernel) (by decide +kernel)
theorem tw_715 : Cond.code yX5_hasStep cX5_hasStep 2 (some .boolean) ∈ TT := nx_mem 715 (by decide +kernel) (by decide +kernel)
theorem dX2_walkOn_5 : decode cX2_walkOn 5 = .ok (.ifCond .eq 15, 3) := by decide +kernel
theorem dX2_walkOn_20 : decode cX2_walkOn 20 = .ok (.iconst 0, 1) := by decide +kernel
theorem dX2_walkOn_21 : decode cX2_walkOn 21 = .ok (.ireturn, 1) := by decide +kernel
theorem dX11_step_0 : decode cX11_step 0 = .ok (.aload_n 0, 1) := by decide +kernel
theorem dX11_step_1 : decode cX11_step 1 = .ok (.getfield 36, 3) := by decide +kernel
theorem dX11_step_4 : decode cX11_step 4 = .ok (.aload_n 0, 1) := by decide +kernel
theorem dX11_step_5 : decode cX11_step 5 = .ok (.getfield 26, 3) := by decide +kernel
theorem dX11_step_8 : decode cX11_step 8 = .ok (.iload_n 1, 1) := by decide +kernel
theorem dX11_step_9 : decode cX11_step 9 = .ok (.invokevirtual 152, 3) := by decide +kernel
theorem tw_754 : Cond.methodLink RX11 152 yX2_walkOn ∈ TT := nx_mem 754 (by decide +kernel) (by decide +kernel)
theorem tw_755 : Cond.instanceMethod yX2_walkOn ∈ TT := nx_mem 755 (by decide +kernel) (by decide +kernel)
theorem tw_756 : Cond.selects RX2 yX2_walkOn yX2_walkOn ∈ TT := nx_mem 756 (by decide +kernel) (by decide +kernel)
theorem tw_757 : Cond.code yX2_walkOn cX2_walkOn 4 (some .boolean) ∈ TT := nx_mem 757 (by decide +kernel) (by decide +kernel)
theorem dX11_step_12 : decode cX11_step 12 = .ok (.ifCond .eq 13, 3) := by decide +kernel
theorem dX11_step_25 : decode cX11_step 25 = .ok (.iconst (-1), 1) := by decide +kernel
theorem dX11_step_26 : decode cX11_step 26 = .ok (.ireturn, 1) := by decide +kernel
theorem dX2_walkAll_0 : decode cX2_walkAll 0 = .ok (.aload_n 0, 1) := by decide +kernel
theorem dX2_walkAll_1 : decode cX2_walkAll 1 = .ok (.getfield 32, 3) := by decide +kernel
theorem tw_274 : Cond.fieldLink RX2 32 "LimpCode$Earnest" "size" "I" ∈ TT := nx_mem 274 (by decide +kernel) (by decide +kernel)
theorem dX2_walkAll_4 : decode cX2_walkAll 4 = .ok (.istore_n 3, 1) := by decide +kernel
theorem dX2_walkAll_5 : decode cX2_walkAll 5 = .ok (.aload_n 0, 1) := by decide +kernel
theorem dX2_walkAll_6 : decode cX2_walkAll 6 = .ok (.getfield 36, 3) := by decide +kernel
theorem tw_276 : Cond.fieldLink RX2 36 "LimpCode$Earnest" "time" "I" ∈ TT := nx_mem 276 (by decide +kernel) (by decide +kernel)
theorem dX2_walkAll_9 : decode cX2_walkAll 9 = .ok (.istore 4, 2) := by decide +kernel
theorem dX2_walkAll_11 : decode cX2_walkAll 11 = .ok (.aload_n 0, 1) := by decide +kernel
theorem dX2_walkAll_12 : decode cX2_walkAll 12 = .ok (.getfield 39, 3) := by decide +kernel
theorem tw_278 : Cond.fieldLink RX2 39 "LimpCode$Earnest" "foot" "I" ∈ TT := nx_mem 278 (by decide +kernel) (by decide +kernel)
theorem dX2_walkAll_15 : decode cX2_walkAll 15 = .ok (.istore 5, 2) := by decide +kernel
theorem dX2_walkAll_17 : decode cX2_walkAll 17 = .ok (.iconst 0, 1) := by decide +kernel
theorem dX2_walkAll_18 : decode cX2_walkAll 18 = .ok (.istore 6, 2) := by decide +kernel
theorem dX2_walkAll_20 : decode cX2_walkAll 20 = .ok (.iload 6, 2) := by decide +kernel
theorem dX2_walkAll_22 : decode cX2_walkAll 22 = .ok (.aload_n 2, 1) := by decide +kernel
theorem dX2_walkAll_23 : decode cX2_walkAll 23 = .ok (.getfield 53, 3) := by decide +kernel
theorem tw_307 : Cond.fieldLink RX2 53 "LimpCode$Text" "size" "I" ∈ TT := nx_mem 307 (by decide +kernel) (by decide +kernel)
theorem dX2_walkAll_26 : decode cX2_walkAll 26 = .ok (.if_icmp .ge 43, 3) := by decide +kernel
theorem dX2_walkAll_69 : decode cX2_walkAll 69 = .ok (.iconst 1, 1) := by decide +kernel
theorem dX2_walkAll_70 : decode cX2_walkAll 70 = .ok (.ireturn, 1) := by decide +kernel
theorem dX11_say_0 : decode cX11_say 0 = .ok (.iload_n 1, 1) := by decide +kernel
theorem dX11_say_1 : decode cX11_say 1 = .ok (.invokestatic 159, 3) := by decide +kernel
theorem tw_764 : Cond.methodLink RX11 159 yX11_isText ∈ TT := nx_mem 764 (by decide +kernel) (by decide +kernel)
theorem tw_765 : Cond.static yX11_isText ∈ TT := nx_mem 765 (by decide +kernel) (by decide +kernel)
theorem tw_87 : Cond.initialized RX11 ∈ TT := nx_mem 87 (by decide +kernel) (by decide +kernel)
theorem tw_766 : Cond.code yX11_isText cX11_isText 1 (some .boolean) ∈ TT := nx_mem 766 (by decide +kernel) (by decide +kernel)
theorem dX11_say_4 : decode cX11_say 4 = .ok (.ifCond .ne 5, 3) := by decide +kernel
theorem dX11_say_9 : decode cX11_say 9 = .ok (.aload_n 0, 1) := by decide +kernel
theorem dX11_say_10 : decode cX11_say 10 = .ok (.getfield 36, 3) := by decide +kernel
theorem dX11_say_13 : decode cX11_say 13 = .ok (.aload_n 0, 1) := by decide +kernel
theorem dX11_say_14 : decode cX11_say 14 = .ok (.getfield 26, 3) := by decide +kernel
theorem dX11_say_17 : decode cX11_say 17 = .ok (.aload_n 0, 1) := by decide +kernel
theorem dX11_say_18 : decode cX11_say 18 = .ok (.getfield 46, 3) := by decide +kernel
theorem dX11_say_21 : decode cX11_say 21 = .ok (.iload_n 1, 1) := by decide +kernel
theorem dX11_say_22 : decode cX11_say 22 = .ok (.aaload, 1) := by decide +kernel
theorem dX11_say_23 : decode cX11_say 23 = .ok (.invokevirtual 162, 3) := by decide +kernel
theorem tw_767 : Cond.methodLink RX11 162 yX2_walkAll ∈ TT := nx_mem 767 (by decide +kernel) (by decide +kernel)
theorem tw_768 : Cond.instanceMethod yX2_walkAll ∈ TT := nx_mem 768 (by decide +kernel) (by decide +kernel)
theorem tw_769 : Cond.selects RX2 yX2_walkAll yX2_walkAll ∈ TT := nx_mem 769 (by decide +kernel) (by decide +kernel)
theorem tw_770 : Cond.code yX2_walkAll cX2_walkAll 7 (some .boolean) ∈ TT := nx_mem 770 (by decide +kernel) (by decide +kernel)
theorem dX11_say_26 : decode cX11_say 26 = .ok (.ifCond .eq 13, 3) := by decide +kernel
theorem dX11_say_29 : decode cX11_say 29 = .ok (.aload_n 0, 1) := by decide +kernel
theorem dX11_say_30 : decode cX11_say 30 = .ok (.getfield 36, 3) := by decide +kernel
theorem dX11_say_33 : decode cX11_say 33 = .ok (.getfield 156, 3) := by decide +kernel
theorem tw_277 : Cond.fieldLink RX11 156 "LimpCode$Earnest" "time" "I" ∈ TT := nx_mem 277 (by decide +kernel) (by decide +kernel)
theorem dX11_say_36 : decode cX11_say 36 = .ok (.goto 4, 3) := by decide +kernel
theorem dX11_say_40 : decode cX11_say 40 = .ok (.ireturn, 1) := by decide +kernel
theorem dX11_say_7 : decode cX11_say 7 = .ok (.iconst (-1), 1) := by decide +kernel
theorem dX11_say_8 : decode cX11_say 8 = .ok (.ireturn, 1) := by decide +kernel
theorem dX2_standStill_0 : decode cX2_standStill 0 = .ok (.aload_n 0, 1) := by decide +kernel
theorem dX2_standStill_1 : decode cX2_standStill 1 = .ok (.iconst 0, 1) := by decide +kernel
theorem dX2_standStill_2 : decode cX2_standStill 2 = .ok (.putfield 32, 3) := by decide +kernel
theorem dX2_standStill_5 : decode cX2_standStill 5 = .ok (.aload_n 0, 1) := by decide +kernel
theorem dX2_standStill_6 : decode cX2_standStill 6 = .ok (.iconst 0, 1) := by decide +kernel
theorem dX2_standStill_7 : decode cX2_standStill 7 = .ok (.putfield 36, 3) := by decide +kernel
theorem dX2_standStill_10 : decode cX2_standStill 10 = .ok (.aload_n 0, 1) := by decide +kernel
theorem dX2_standStill_11 : decode cX2_standStill 11 = .ok (.iconst 0, 1) := by decide +kernel
theorem dX2_standStill_12 : decode cX2_standStill 12 = .ok (.putfield 39, 3) := by decide +kernel
theorem dX2_standStill_15 : decode cX2_standStill 15 = .ok (.return_, 1) := by decide +kernel
theorem dX11_stop_0 : decode cX11_stop 0 = .ok (.aload_n 0, 1) := by decide +kernel
theorem dX11_stop_1 : decode cX11_stop 1 = .ok (.getfield 36, 3) := by decide +kernel
theorem dX11_stop_4 : decode cX11_stop 4 = .ok (.getfield 156, 3) := by decide +kernel
theorem dX11_stop_7 : decode cX11_stop 7 = .ok (.istore_n 1, 1) := by decide +kernel
theorem dX11_stop_8 : decode cX11_stop 8 = .ok (.aload_n 0, 1) := by decide +kernel
theorem dX11_stop_9 : decode cX11_stop 9 = .ok (.getfield 36, 3) := by decide +kernel
theorem dX11_stop_12 : decode cX11_stop 12 = .ok (.invokevirtual 166, 3) := by decide +kernel
theorem tw_784 : Cond.methodLink RX11 166 yX2_standStill ∈ TT := nx_mem 784 (by decide +kernel) (by decide +kernel)
theorem tw_736 : Cond.instanceMethod yX2_standStill ∈ TT := nx_mem 736 (by decide +kernel) (by decide +kernel)
theorem tw_737 : Cond.selects RX2 yX2_standStill yX2_standStill ∈ TT := nx_mem 737 (by decide +kernel) (by decide +kernel)
theorem tw_738 : Cond.code yX2_standStill cX2_standStill 1 none ∈ TT := nx_mem 738 (by decide +kernel) (by decide +kernel)
theorem dX11_stop_15 : decode cX11_stop 15 = .ok (.iload_n 1, 1) := by decide +kernel
theorem dX11_stop_16 : decode cX11_stop 16 = .ok (.ireturn, 1) := by decide +kernel
theorem dX11_heard_0 : decode cX11_heard 0 = .ok (.aload_n 0, 1) := by decide +kernel
theorem dX11_heard_1 : decode cX11_heard 1 = .ok (.getfield 26, 3) := by decide +kernel
theorem dX11_heard_4 : decode cX11_heard 4 = .ok (.iload_n 1, 1) := by decide +kernel
theorem dX11_heard_5 : decode cX11_heard 5 = .ok (.invokevirtual 169, 3) := by decide +kernel
theorem tw_789 : Cond.methodLink RX11 169 yX5_hasEar ∈ TT := nx_mem 789 (by decide +kernel) (by decide +kernel)
theorem tw_790 : Cond.instanceMethod yX5_hasEar ∈ TT := nx_mem 790 (by decide +kernel) (by decide +kernel)
theorem tw_791 : Cond.selects RX5 yX5_hasEar yX5_hasEar ∈ TT := nx_mem 791 (by decide +kernel) (by decide +kernel)
theorem tw_792 : Cond.code yX5_hasEar cX5_hasEar 2 (some .boolean) ∈ TT := nx_mem 792 (by decide +kernel) (by decide +kernel)
theorem dX11_heard_8 : decode cX11_heard 8 = .ok (.ifCond .eq 18, 3) := by decide +kernel
theorem dX11_heard_26 : decode cX11_heard 26 = .ok (.iconst (-1), 1) := by decide +kernel
theorem dX11_heard_27 : decode cX11_heard 27 = .ok (.ireturn, 1) := by decide +kernel
theorem dX11_reads_0 : decode cX11_reads 0 = .ok (.aload_n 0, 1) := by decide +kernel
theorem dX11_reads_1 : decode cX11_reads 1 = .ok (.iconst 0, 1) := by decide +kernel
theorem dX11_reads_2 : decode cX11_reads 2 = .ok (.putfield 143, 3) := by decide +kernel
theorem tw_492 : Cond.fieldLink RX11 143 "LimpCode" "lyingSize" "I" ∈ TT := nx_mem 492 (by decide +kernel) (by decide +kernel)
theorem dX11_reads_5 : decode cX11_reads 5 = .ok (.aload_n 0, 1) := by decide +kernel
theorem dX11_reads_6 : decode cX11_reads 6 = .ok (.getfield 26, 3) := by decide +kernel
theorem dX11_reads_9 : decode cX11_reads 9 = .ok (.iload_n 1, 1) := by decide +kernel
theorem dX11_reads_10 : decode cX11_reads 10 = .ok (.invokevirtual 169, 3) := by decide +kernel
theorem dX11_reads_13 : decode cX11_reads 13 = .ok (.ifCond .eq 12, 3) := by decide +kernel
theorem dX11_reads_25 : decode cX11_reads 25 = .ok (.ldc2_w 176, 3) := by decide +kernel
theorem tw_815 : Cond.constantLong RX11 176 (-1) ∈ TT := nx_mem 815 (by decide +kernel) (by decide +kernel)
theorem dX11_reads_28 : decode cX11_reads 28 = .ok (.lreturn, 1) := by decide +kernel
theorem dX11_stuck_0 : decode cX11_stuck 0 = .ok (.aload_n 0, 1) := by decide +kernel
theorem dX11_stuck_1 : decode cX11_stuck 1 = .ok (.getfield 26, 3) := by decide +kernel
theorem dX11_stuck_4 : decode cX11_stuck 4 = .ok (.iload_n 1, 1) := by decide +kernel
theorem dX11_stuck_5 : decode cX11_stuck 5 = .ok (.invokevirtual 169, 3) := by decide +kernel
theorem dX11_stuck_8 : decode cX11_stuck 8 = .ok (.ifCond .ne 6, 3) := by decide +kernel
theorem dX11_stuck_11 : decode cX11_stuck 11 = .ok (.bipush (-2), 2) := by decide +kernel
theorem dX11_stuck_13 : decode cX11_stuck 13 = .ok (.ireturn, 1) := by decide +kernel
theorem dX11_alike_0 : decode cX11_alike 0 = .ok (.aload_n 0, 1) := by decide +kernel
theorem dX11_alike_1 : decode cX11_alike 1 = .ok (.getfield 26, 3) := by decide +kernel
theorem dX11_alike_4 : decode cX11_alike 4 = .ok (.iload_n 1, 1) := by decide +kernel
theorem dX11_alike_5 : decode cX11_alike 5 = .ok (.invokevirtual 169, 3) := by decide +kernel
theorem dX11_alike_8 : decode cX11_alike 8 = .ok (.ifCond .eq 25, 3) := by decide +kernel
theorem dX11_alike_33 : decode cX11_alike 33 = .ok (.iconst (-1), 1) := by decide +kernel
theorem dX11_alike_34 : decode cX11_alike 34 = .ok (.ireturn, 1) := by decide +kernel
theorem dX10_add_0 : decode cX10_add 0 = .ok (.aload_n 1, 1) := by decide +kernel
theorem dX10_add_1 : decode cX10_add 1 = .ok (.iload_n 2, 1) := by decide +kernel
theorem dX10_add_2 : decode cX10_add 2 = .ok (.invokevirtual 25, 3) := by decide +kernel
theorem tw_951 : Cond.methodLink RX10 25 yX5_hasLetter ∈ TT := nx_mem 951 (by decide +kernel) (by decide +kernel)
theorem tw_776 : Cond.instanceMethod yX5_hasLetter ∈ TT := nx_mem 776 (by decide +kernel) (by decide +kernel)
theorem tw_777 : Cond.selects RX5 yX5_hasLetter yX5_hasLetter ∈ TT := nx_mem 777 (by decide +kernel) (by decide +kernel)
theorem tw_778 : Cond.code yX5_hasLetter cX5_hasLetter 2 (some .boolean) ∈ TT := nx_mem 778 (by decide +kernel) (by decide +kernel)
theorem dX10_add_5 : decode cX10_add 5 = .ok (.ifCond .eq 15, 3) := by decide +kernel
theorem dX10_add_20 : decode cX10_add 20 = .ok (.iconst 0, 1) := by decide +kernel
theorem dX10_add_21 : decode cX10_add 21 = .ok (.ireturn, 1) := by decide +kernel
theorem dX11_tell_0 : decode cX11_tell 0 = .ok (.iload_n 1, 1) := by decide +kernel
theorem dX11_tell_1 : decode cX11_tell 1 = .ok (.invokestatic 159, 3) := by decide +kernel
theorem dX11_tell_4 : decode cX11_tell 4 = .ok (.ifCond .ne 5, 3) := by decide +kernel
theorem dX11_tell_9 : decode cX11_tell 9 = .ok (.aload_n 0, 1) := by decide +kernel
theorem dX11_tell_10 : decode cX11_tell 10 = .ok (.getfield 46, 3) := by decide +kernel
theorem dX11_tell_13 : decode cX11_tell 13 = .ok (.iload_n 1, 1) := by decide +kernel
theorem dX11_tell_14 : decode cX11_tell 14 = .ok (.aaload, 1) := by decide +kernel
theorem dX11_tell_15 : decode cX11_tell 15 = .ok (.aload_n 0, 1) := by decide +kernel
theorem dX11_tell_16 : decode cX11_tell 16 = .ok (.getfield 26, 3) := by decide +kernel
theorem dX11_tell_19 : decode cX11_tell 19 = .ok (.iload_n 2, 1) := by decide +kernel
theorem dX11_tell_20 : decode cX11_tell 20 = .ok (.invokevirtual 222, 3) := by decide +kernel
theorem tw_947 : Cond.methodLink RX11 222 yX10_add ∈ TT := nx_mem 947 (by decide +kernel) (by decide +kernel)
theorem tw_948 : Cond.instanceMethod yX10_add ∈ TT := nx_mem 948 (by decide +kernel) (by decide +kernel)
theorem tw_949 : Cond.selects RX10 yX10_add yX10_add ∈ TT := nx_mem 949 (by decide +kernel) (by decide +kernel)
theorem tw_950 : Cond.code yX10_add cX10_add 4 (some .boolean) ∈ TT := nx_mem 950 (by decide +kernel) (by decide +kernel)
theorem dX11_tell_23 : decode cX11_tell 23 = .ok (.ifCond .eq 15, 3) := by decide +kernel
theorem dX11_tell_38 : decode cX11_tell 38 = .ok (.iconst (-1), 1) := by decide +kernel
theorem dX11_tell_39 : decode cX11_tell 39 = .ok (.ireturn, 1) := by decide +kernel
theorem dX11_tell_7 : decode cX11_tell 7 = .ok (.iconst (-1), 1) := by decide +kernel
theorem dX11_tell_8 : decode cX11_tell 8 = .ok (.ireturn, 1) := by decide +kernel
theorem dX10_clear_0 : decode cX10_clear 0 = .ok (.aload_n 0, 1) := by decide +kernel
theorem dX10_clear_1 : decode cX10_clear 1 = .ok (.iconst 0, 1) := by decide +kernel
theorem dX10_clear_2 : decode cX10_clear 2 = .ok (.putfield 15, 3) := by decide +kernel
theorem tw_305 : Cond.fieldLink RX10 15 "LimpCode$Text" "size" "I" ∈ TT := nx_mem 305 (by decide +kernel) (by decide +kernel)
theorem dX10_clear_5 : decode cX10_clear 5 = .ok (.aload_n 0, 1) := by decide +kernel
theorem dX10_clear_6 : decode cX10_clear 6 = .ok (.iconst 0, 1) := by decide +kernel
theorem dX10_clear_7 : decode cX10_clear 7 = .ok (.putfield 19, 3) := by decide +kernel
theorem tw_309 : Cond.fieldLink RX10 19 "LimpCode$Text" "time" "I" ∈ TT := nx_mem 309 (by decide +kernel) (by decide +kernel)
theorem dX10_clear_10 : decode cX10_clear 10 = .ok (.aload_n 0, 1) := by decide +kernel
theorem dX10_clear_11 : decode cX10_clear 11 = .ok (.iconst 0, 1) := by decide +kernel
theorem dX10_clear_12 : decode cX10_clear 12 = .ok (.putfield 22, 3) := by decide +kernel
theorem tw_311 : Cond.fieldLink RX10 22 "LimpCode$Text" "foot" "I" ∈ TT := nx_mem 311 (by decide +kernel) (by decide +kernel)
theorem dX10_clear_15 : decode cX10_clear 15 = .ok (.return_, 1) := by decide +kernel
theorem dX11_hush_0 : decode cX11_hush 0 = .ok (.iload_n 1, 1) := by decide +kernel
theorem dX11_hush_1 : decode cX11_hush 1 = .ok (.invokestatic 159, 3) := by decide +kernel
theorem dX11_hush_4 : decode cX11_hush 4 = .ok (.ifCond .ne 5, 3) := by decide +kernel
theorem dX11_hush_9 : decode cX11_hush 9 = .ok (.aload_n 0, 1) := by decide +kernel
theorem dX11_hush_10 : decode cX11_hush 10 = .ok (.getfield 46, 3) := by decide +kernel
theorem dX11_hush_13 : decode cX11_hush 13 = .ok (.iload_n 1, 1) := by decide +kernel
theorem dX11_hush_14 : decode cX11_hush 14 = .ok (.aaload, 1) := by decide +kernel
theorem dX11_hush_15 : decode cX11_hush 15 = .ok (.getfield 226, 3) := by decide +kernel
theorem tw_308 : Cond.fieldLink RX11 226 "LimpCode$Text" "size" "I" ∈ TT := nx_mem 308 (by decide +kernel) (by decide +kernel)
theorem dX11_hush_18 : decode cX11_hush 18 = .ok (.istore_n 2, 1) := by decide +kernel
theorem dX11_hush_19 : decode cX11_hush 19 = .ok (.aload_n 0, 1) := by decide +kernel
theorem dX11_hush_20 : decode cX11_hush 20 = .ok (.getfield 46, 3) := by decide +kernel
theorem dX11_hush_23 : decode cX11_hush 23 = .ok (.iload_n 1, 1) := by decide +kernel
theorem dX11_hush_24 : decode cX11_hush 24 = .ok (.aaload, 1) := by decide +kernel
theorem dX11_hush_25 : decode cX11_hush 25 = .ok (.invokevirtual 137, 3) := by decide +kernel
theorem tw_742 : Cond.methodLink RX11 137 yX10_clear ∈ TT := nx_mem 742 (by decide +kernel) (by decide +kernel)
theorem tw_743 : Cond.instanceMethod yX10_clear ∈ TT := nx_mem 743 (by decide +kernel) (by decide +kernel)
theorem tw_744 : Cond.selects RX10 yX10_clear yX10_clear ∈ TT := nx_mem 744 (by decide +kernel) (by decide +kernel)
theorem tw_745 : Cond.code yX10_clear cX10_clear 1 none ∈ TT := nx_mem 745 (by decide +kernel) (by decide +kernel)
theorem dX11_hush_28 : decode cX11_hush 28 = .ok (.iload_n 2, 1) := by decide +kernel
theorem dX11_hush_29 : decode cX11_hush 29 = .ok (.ireturn, 1) := by decide +kernel
theorem dX11_hush_7 : decode cX11_hush 7 = .ok (.iconst (-1), 1) := by decide +kernel
theorem dX11_hush_8 : decode cX11_hush 8 = .ok (.ireturn, 1) := by decide +kernel
theorem dX11_areUnlikeEars_0 : decode cX11_areUnlikeEars 0 = .ok (.aload_n 0, 1) := by decide +kernel
theorem dX11_areUnlikeEars_1 : decode cX11_areUnlikeEars 1 = .ok (.getfield 26, 3) := by decide +kernel
theorem dX11_areUnlikeEars_4 : decode cX11_areUnlikeEars 4 = .ok (.iload_n 1, 1) := by decide +kernel
theorem dX11_areUnlikeEars_5 : decode cX11_areUnlikeEars 5 = .ok (.invokevirtual 169, 3) := by decide +kernel
theorem dX11_areUnlikeEars_8 : decode cX11_areUnlikeEars 8 = .ok (.ifCond .eq 23, 3) := by decide +kernel
theorem dX11_areUnlikeEars_31 : decode cX11_areUnlikeEars 31 = .ok (.iconst 0, 1) := by decide +kernel
theorem dX11_areUnlikeEars_32 : decode cX11_areUnlikeEars 32 = .ok (.ireturn, 1) := by decide +kernel
theorem dX11_doubled_0 : decode cX11_doubled 0 = .ok (.aload_n 0, 1) := by decide +kernel
theorem dX11_doubled_1 : decode cX11_doubled 1 = .ok (.iconst 0, 1) := by decide +kernel
theorem dX11_doubled_2 : decode cX11_doubled 2 = .ok (.putfield 143, 3) := by decide +kernel
theorem dX11_doubled_5 : decode cX11_doubled 5 = .ok (.aload_n 0, 1) := by decide +kernel
theorem dX11_doubled_6 : decode cX11_doubled 6 = .ok (.iload_n 1, 1) := by decide +kernel
theorem dX11_doubled_7 : decode cX11_doubled 7 = .ok (.iload_n 2, 1) := by decide +kernel
theorem dX11_doubled_8 : decode cX11_doubled 8 = .ok (.invokevirtual 227, 3) := by decide +kernel
theorem tw_960 : Cond.methodLink RX11 227 yX11_areUnlikeEars ∈ TT := nx_mem 960 (by decide +kernel) (by decide +kernel)
theorem tw_962 : Cond.instanceMethod yX11_areUnlikeEars ∈ TT := nx_mem 962 (by decide +kernel) (by decide +kernel)
theorem tw_26 : Cond.selects RX11 yX11_areUnlikeEars yX11_areUnlikeEars ∈ TT := nx_mem 26 (by decide +kernel) (by decide +kernel)
theorem tw_963 : Cond.code yX11_areUnlikeEars cX11_areUnlikeEars 3 (some .boolean) ∈ TT := nx_mem 963 (by decide +kernel) (by decide +kernel)
theorem dX11_doubled_11 : decode cX11_doubled 11 = .ok (.ifCond .ne 7, 3) := by decide +kernel
theorem dX11_doubled_14 : decode cX11_doubled 14 = .ok (.ldc2_w 176, 3) := by decide +kernel
theorem dX11_doubled_17 : decode cX11_doubled 17 = .ok (.lreturn, 1) := by decide +kernel
theorem dX11_secret_0 : decode cX11_secret 0 = .ok (.aload_n 0, 1) := by decide +kernel
theorem dX11_secret_1 : decode cX11_secret 1 = .ok (.iconst 0, 1) := by decide +kernel
theorem dX11_secret_2 : decode cX11_secret 2 = .ok (.putfield 143, 3) := by decide +kernel
theorem dX11_secret_5 : decode cX11_secret 5 = .ok (.aload_n 0, 1) := by decide +kernel
theorem dX11_secret_6 : decode cX11_secret 6 = .ok (.iload_n 1, 1) := by decide +kernel
theorem dX11_secret_7 : decode cX11_secret 7 = .ok (.iload_n 2, 1) := by decide +kernel
theorem dX11_secret_8 : decode cX11_secret 8 = .ok (.invokevirtual 227, 3) := by decide +kernel
theorem dX11_secret_11 : decode cX11_secret 11 = .ok (.ifCond .eq 13, 3) := by decide +kernel
theorem dX11_secret_24 : decode cX11_secret 24 = .ok (.iconst (-1), 1) := by decide +kernel
theorem dX11_secret_25 : decode cX11_secret 25 = .ok (.ireturn, 1) := by decide +kernel
set_option maxHeartbeats 4000000 in
set_option maxRecDepth 100000 in
theorem c_X5_hasStep (l : Launch) (g : va_G) (kA : Nat → ClassId) (h0 : Nat) (a0 : Nat) (a1 : Nat) (a2 : Nat) (a3 : Nat) (a4 : Nat) (a5 : Nat) (a6 : Nat) (a7 : Nat) (a8 : Nat) (a9 : Nat) (a10 : Nat) (a11 : Nat) (e : Int32)  : CtI l yX5_hasStep cX5_hasStep 2 (some .boolean) 1 0 0 g kA [.ref h0, .int e] [(h0, .inr (5, [.ref a0, .ref a1, .ref a2, .ref a3, .ref a4, .ref a5, .ref a6, .ref a7, .ref a8, .ref a9, .ref a10, .ref a11, .int 0, .int 0, .int 0]))] (S := Unit) (fun (r : Int32) (_ : Unit) => r = 0) (fun (_ : Unit) => [(h0, .inr (5, [.ref a0, .ref a1, .ref a2, .ref a3, .ref a4, .ref a5, .ref a6, .ref a7, .ref a8, .ref a9, .ref a10, .ref a11, .int 0, .int 0, .int 0]))]) := by
  refine nx_startI (by decide +kernel) (Nat.le_of_ble_eq_true rfl) ?_
  intro x hnm h hq
  have h : Ok x cX5_hasStep RX5 kA (rmC 1 0 0) 2 := h
  show J x [(h0, .inr (5, [.ref a0, .ref a1, .ref a2, .ref a3, .ref a4, .ref a5, .ref a6, .ref a7, .ref a8, .ref a9, .ref a10, .ref a11, .int 0, .int 0, .int 0]))] [(0, .ref h0), (1, .int e)] 0 0 0 []
  refine j_iload_n h 1 rfl rfl dX5_hasStep_0 ?_
  refine j_if_lt h 16 dX5_hasStep_1 (by decide) (fun z213 => ?_) (fun z213 => ?_)
  · refine j_iconst (v := 0) h (by decide) dX5_hasStep_16 ?_
    exact j_zret h hq rfl dX5_hasStep_17 () [0] rfl rfl (by decide) (by first | rfl | simp only [z213, ↓reduceIte]) (Nat.le_of_ble_eq_true rfl) (Nat.le_of_ble_eq_true rfl)
  · refine j_iload_n h 1 rfl rfl dX5_hasStep_4 ?_
    refine j_aload_n h 0 rfl rfl dX5_hasStep_5 ?_
    refine j_get h iw_X5 0 rfl rfl 12 (by decide) tw_217 rfl dX5_hasStep_6 ?_
    refine j_icmp_ge h 16 dX5_hasStep_9 (by decide) (fun _ => ?_) (fun q => absurd (Int32.not_lt.mp z213) q)
    refine j_iconst (v := 0) h (by decide) dX5_hasStep_16 ?_
    exact j_zret h hq rfl dX5_hasStep_17 () [0] rfl rfl (by decide) (by first | rfl | simp only [z213, ↓reduceIte]) (Nat.le_of_ble_eq_true rfl) (Nat.le_of_ble_eq_true rfl)
set_option maxHeartbeats 4000000 in
set_option maxRecDepth 100000 in
theorem c_X5_hasLetter (l : Launch) (g : va_G) (kA : Nat → ClassId) (h0 : Nat) (a0 : Nat) (a1 : Nat) (a2 : Nat) (a3 : Nat) (a4 : Nat) (a5 : Nat) (a6 : Nat) (a7 : Nat) (a8 : Nat) (a9 : Nat) (a10 : Nat) (a11 : Nat) (e : Int32)  : CtI l yX5_hasLetter cX5_hasLetter 2 (some .boolean) 1 0 0 g kA [.ref h0, .int e] [(h0, .inr (5, [.ref a0, .ref a1, .ref a2, .ref a3, .ref a4, .ref a5, .ref a6, .ref a7, .ref a8, .ref a9, .ref a10, .ref a11, .int 0, .int 0, .int 0]))] (S := Unit) (fun (r : Int32) (_ : Unit) => r = 0) (fun (_ : Unit) => [(h0, .inr (5, [.ref a0, .ref a1, .ref a2, .ref a3, .ref a4, .ref a5, .ref a6, .ref a7, .ref a8, .ref a9, .ref a10, .ref a11, .int 0, .int 0, .int 0]))]) := by
  refine nx_startI (by decide +kernel) (Nat.le_of_ble_eq_true rfl) ?_
  intro x hnm h hq
  have h : Ok x cX5_hasLetter RX5 kA (rmC 1 0 0) 2 := h
  show J x [(h0, .inr (5, [.ref a0, .ref a1, .ref a2, .ref a3, .ref a4, .ref a5, .ref a6, .ref a7, .ref a8, .ref a9, .ref a10, .ref a11, .int 0, .int 0, .int 0]))] [(0, .ref h0), (1, .int e)] 0 0 0 []
  refine j_iload_n h 1 rfl rfl dX5_hasLetter_0 ?_
  refine j_if_lt h 16 dX5_hasLetter_1 (by decide) (fun z214 => ?_) (fun z214 => ?_)
  · refine j_iconst (v := 0) h (by decide) dX5_hasLetter_16 ?_
    exact j_zret h hq rfl dX5_hasLetter_17 () [0] rfl rfl (by decide) (by first | rfl | simp only [z214, ↓reduceIte]) (Nat.le_of_ble_eq_true rfl) (Nat.le_of_ble_eq_true rfl)
  · refine j_iload_n h 1 rfl rfl dX5_hasLetter_4 ?_
    refine j_aload_n h 0 rfl rfl dX5_hasLetter_5 ?_
    refine j_get h iw_X5 0 rfl rfl 13 (by decide) tw_222 rfl dX5_hasLetter_6 ?_
    refine j_icmp_ge h 16 dX5_hasLetter_9 (by decide) (fun _ => ?_) (fun q => absurd (Int32.not_lt.mp z214) q)
    refine j_iconst (v := 0) h (by decide) dX5_hasLetter_16 ?_
    exact j_zret h hq rfl dX5_hasLetter_17 () [0] rfl rfl (by decide) (by first | rfl | simp only [z214, ↓reduceIte]) (Nat.le_of_ble_eq_true rfl) (Nat.le_of_ble_eq_true rfl)
set_option maxHeartbeats 4000000 in
set_option maxRecDepth 100000 in
theorem c_X5_hasEar (l : Launch) (g : va_G) (kA : Nat → ClassId) (h0 : Nat) (a0 : Nat) (a1 : Nat) (a2 : Nat) (a3 : Nat) (a4 : Nat) (a5 : Nat) (a6 : Nat) (a7 : Nat) (a8 : Nat) (a9 : Nat) (a10 : Nat) (a11 : Nat) (e : Int32)  : CtI l yX5_hasEar cX5_hasEar 2 (some .boolean) 1 0 0 g kA [.ref h0, .int e] [(h0, .inr (5, [.ref a0, .ref a1, .ref a2, .ref a3, .ref a4, .ref a5, .ref a6, .ref a7, .ref a8, .ref a9, .ref a10, .ref a11, .int 0, .int 0, .int 0]))] (S := Unit) (fun (r : Int32) (_ : Unit) => r = 0) (fun (_ : Unit) => [(h0, .inr (5, [.ref a0, .ref a1, .ref a2, .ref a3, .ref a4, .ref a5, .ref a6, .ref a7, .ref a8, .ref a9, .ref a10, .ref a11, .int 0, .int 0, .int 0]))]) := by
  refine nx_startI (by decide +kernel) (Nat.le_of_ble_eq_true rfl) ?_
  intro x hnm h hq
  have h : Ok x cX5_hasEar RX5 kA (rmC 1 0 0) 2 := h
  show J x [(h0, .inr (5, [.ref a0, .ref a1, .ref a2, .ref a3, .ref a4, .ref a5, .ref a6, .ref a7, .ref a8, .ref a9, .ref a10, .ref a11, .int 0, .int 0, .int 0]))] [(0, .ref h0), (1, .int e)] 0 0 0 []
  refine j_iload_n h 1 rfl rfl dX5_hasEar_0 ?_
  refine j_if_lt h 16 dX5_hasEar_1 (by decide) (fun z215 => ?_) (fun z215 => ?_)
  · refine j_iconst (v := 0) h (by decide) dX5_hasEar_16 ?_
    exact j_zret h hq rfl dX5_hasEar_17 () [0] rfl rfl (by decide) (by first | rfl | simp only [z215, ↓reduceIte]) (Nat.le_of_ble_eq_true rfl) (Nat.le_of_ble_eq_true rfl)
  · refine j_iload_n h 1 rfl rfl dX5_hasEar_4 ?_
    refine j_aload_n h 0 rfl rfl dX5_hasEar_5 ?_
    refine j_get h iw_X5 0 rfl rfl 14 (by decide) tw_228 rfl dX5_hasEar_6 ?_
    refine j_icmp_ge h 16 dX5_hasEar_9 (by decide) (fun _ => ?_) (fun q => absurd (Int32.not_lt.mp z215) q)
    refine j_iconst (v := 0) h (by decide) dX5_hasEar_16 ?_
    exact j_zret h hq rfl dX5_hasEar_17 () [0] rfl rfl (by decide) (by first | rfl | simp only [z215, ↓reduceIte]) (Nat.le_of_ble_eq_true rfl) (Nat.le_of_ble_eq_true rfl)
set_option maxHeartbeats 4000000 in
set_option maxRecDepth 100000 in
theorem c_X11_isText (l : Launch) (g : va_G) (kA : Nat → ClassId) (t : Int32)  : CtI l yX11_isText cX11_isText 1 (some .boolean) 1 0 0 g kA [.int t] [] (S := Unit) (fun (r : Int32) (_ : Unit) => r = bTx t) (fun (_ : Unit) => []) := by
  refine nx_startI (by decide +kernel) (Nat.le_of_ble_eq_true rfl) ?_
  intro x hnm h hq
  have h : Ok x cX11_isText RX11 kA (rmC 1 0 0) 1 := h
  show J x [] [(0, .int t)] 0 0 0 []
  refine j_iload_n h 0 rfl rfl dX11_isText_0 ?_
  refine j_if_lt h 13 dX11_isText_1 (by decide) (fun z216 => ?_) (fun z216 => ?_)
  · refine j_iconst (v := 0) h (by decide) dX11_isText_13 ?_
    exact j_zret h hq rfl dX11_isText_14 () [] rfl rfl (by decide) (by first | rfl | (unfold bTx; simp only [z216, ↓reduceIte]; done) | (subst_vars; decide)) (Nat.le_of_ble_eq_true rfl) (Nat.le_of_ble_eq_true rfl)
  · refine j_iload_n h 0 rfl rfl dX11_isText_4 ?_
    refine j_iconst (v := 2) h (by decide) dX11_isText_5 ?_
    refine j_icmp_ge h 13 dX11_isText_6 (by decide) (fun z217 => ?_) (fun z217 => ?_)
    · refine j_iconst (v := 0) h (by decide) dX11_isText_13 ?_
      exact j_zret h hq rfl dX11_isText_14 () [] rfl rfl (by decide) (by first | rfl | (unfold bTx; simp only [z216, z217, ↓reduceIte]; done) | (subst_vars; decide)) (Nat.le_of_ble_eq_true rfl) (Nat.le_of_ble_eq_true rfl)
    · refine j_iconst (v := 1) h (by decide) dX11_isText_9 ?_
      refine j_goto h 14 dX11_isText_10 (by decide) ?_
      exact j_zret h hq rfl dX11_isText_14 () [] rfl rfl (by decide) (by first | rfl | (unfold bTx; simp only [z216, z217, ↓reduceIte]; done) | (subst_vars; decide)) (Nat.le_of_ble_eq_true rfl) (Nat.le_of_ble_eq_true rfl)
set_option maxHeartbeats 4000000 in
set_option maxRecDepth 100000 in
theorem c_X11_isBox (l : Launch) (g : va_G) (kA : Nat → ClassId) (t : Int32)  : CtI l yX11_isBox cX11_isBox 1 (some .boolean) 1 0 0 g kA [.int t] [] (S := Unit) (fun (r : Int32) (_ : Unit) => r = bBx t) (fun (_ : Unit) => []) := by
  refine nx_startI (by decide +kernel) (Nat.le_of_ble_eq_true rfl) ?_
  intro x hnm h hq
  have h : Ok x cX11_isBox RX11 kA (rmC 1 0 0) 1 := h
  show J x [] [(0, .int t)] 0 0 0 []
  refine j_iload_n h 0 rfl rfl dX11_isBox_0 ?_
  refine j_if_lt h 13 dX11_isBox_1 (by decide) (fun z218 => ?_) (fun z218 => ?_)
  · refine j_iconst (v := 0) h (by decide) dX11_isBox_13 ?_
    exact j_zret h hq rfl dX11_isBox_14 () [] rfl rfl (by decide) (by first | rfl | (unfold bBx; simp only [z218, ↓reduceIte]; done) | (subst_vars; decide)) (Nat.le_of_ble_eq_true rfl) (Nat.le_of_ble_eq_true rfl)
  · refine j_iload_n h 0 rfl rfl dX11_isBox_4 ?_
    refine j_iconst (v := 3) h (by decide) dX11_isBox_5 ?_
    refine j_icmp_ge h 13 dX11_isBox_6 (by decide) (fun z219 => ?_) (fun z219 => ?_)
    · refine j_iconst (v := 0) h (by decide) dX11_isBox_13 ?_
      exact j_zret h hq rfl dX11_isBox_14 () [] rfl rfl (by decide) (by first | rfl | (unfold bBx; simp only [z218, z219, ↓reduceIte]; done) | (subst_vars; decide)) (Nat.le_of_ble_eq_true rfl) (Nat.le_of_ble_eq_true rfl)
    · refine j_iconst (v := 1) h (by decide) dX11_isBox_9 ?_
      refine j_goto h 14 dX11_isBox_10 (by decide) ?_
      exact j_zret h hq rfl dX11_isBox_14 () [] rfl rfl (by decide) (by first | rfl | (unfold bBx; simp only [z218, z219, ↓reduceIte]; done) | (subst_vars; decide)) (Nat.le_of_ble_eq_true rfl) (Nat.le_of_ble_eq_true rfl)
set_option maxHeartbeats 4000000 in
set_option maxRecDepth 100000 in
theorem c_X9_put0 (l : Launch) (g : va_G) (kA : Nat → ClassId) (h0 : Nat) (a0 : Nat) (f : Nat → Int32) (v : Int32)  : CtV l yX9_put cX9_put 3 (none) 1 0 0 g kA [.ref h0, .int v] [(h0, .inr (9, [.ref a0, .int 0, .int 0, .int 0, .int 0, .long 0, .int 0])), (a0, .inl (kA 0, 1600, .inl f))] (S := (Nat → Int32)) (fun (f1 : (Nat → Int32)) => True) (fun (f1 : (Nat → Int32)) => [(h0, .inr (9, [.ref a0, .int 4, .int 0, .int 0, .int 0, .long 0, .int 0])), (a0, .inl (kA 0, 1600, .inl f1))]) := by
  refine nx_startV (by decide +kernel) (Nat.le_of_ble_eq_true rfl) ?_
  intro x hnm h hq
  have h : Ok x cX9_put RX9 kA (rmC 1 0 0) 3 := h
  show J x [(h0, .inr (9, [.ref a0, .int 0, .int 0, .int 0, .int 0, .long 0, .int 0])), (a0, .inl (kA 0, 1600, .inl f))] [(0, .ref h0), (1, .int v)] 0 0 0 []
  refine j_bipush (v := 24) h (by decide) dX9_put_0 ?_
  refine j_istore_n (lv' := [(2, .int 24), (0, .ref h0), (1, .int v)]) h dX9_put_2 rfl (by decide) rfl ?_
  refine j_iload_n h 0 rfl rfl dX9_put_3 ?_
  refine j_if_lt h 48 dX9_put_4 (by decide) (fun q => absurd q (by decide)) (fun _ => ?_)
  refine j_aload_n h 1 rfl rfl dX9_put_7 ?_
  refine j_get h iw_X9 0 rfl rfl 1 (by decide) tw_122 rfl dX9_put_8 ?_
  refine j_aload_n h 1 rfl rfl dX9_put_11 ?_
  refine j_get h iw_X9 0 rfl rfl 0 (by decide) tw_121 rfl dX9_put_12 ?_
  refine j_alen (v := 1600) h 1 0 rfl rfl rfl dX9_put_15 ?_
  refine j_icmp_ge h 42 dX9_put_16 (by decide) (fun q => absurd q (by decide)) (fun _ => ?_)
  refine j_aload_n h 1 rfl rfl dX9_put_19 ?_
  refine j_get h iw_X9 0 rfl rfl 0 (by decide) tw_121 rfl dX9_put_20 ?_
  refine j_aload_n h 1 rfl rfl dX9_put_23 ?_
  refine j_get h iw_X9 0 rfl rfl 1 (by decide) tw_122 rfl dX9_put_24 ?_
  refine j_iload_n h 2 rfl rfl dX9_put_27 ?_
  refine j_iload_n h 0 rfl rfl dX9_put_28 ?_
  refine j_ishr h dX9_put_29 ?_
  refine j_i2b h dX9_put_30 ?_
  refine j_bast (ws' := [(h0, .inr (9, [.ref a0, .int 0, .int 0, .int 0, .int 0, .long 0, .int 0])), (a0, .inl (kA 0, 1600, .inl (upd f 0 (vp_nar .byte ((v >>> (24 &&& 31)).toInt8.toInt32)))))]) h 1 rfl 0 (by decide) (by decide) (by decide) dX9_put_31 rfl ?_
  refine j_aload_n h 1 rfl rfl dX9_put_32 ?_
  refine j_dup h rfl dX9_put_33 ?_
  refine j_get h iw_X9 0 rfl rfl 1 (by decide) tw_122 rfl dX9_put_34 ?_
  refine j_iconst (v := 1) h (by decide) dX9_put_37 ?_
  refine j_iadd h dX9_put_38 ?_
  refine j_top (b := 1) (by decide) ?_
  refine j_put (ws' := [(h0, .inr (9, [.ref a0, .int 1, .int 0, .int 0, .int 0, .long 0, .int 0])), (a0, .inl (kA 0, 1600, .inl (upd f 0 (vp_nar .byte ((v >>> (24 &&& 31)).toInt8.toInt32)))))]) h iw_X9 tyX9 tyX9_ok nmX9 0 rfl rfl 1 (by decide) tw_122 rfl rfl rfl (Nat.le_of_ble_eq_true rfl) dX9_put_39 rfl ?_
  refine j_iinc (v := 16) (lv' := [(2, .int 16), (0, .ref h0), (1, .int v)]) h dX9_put_42 0 rfl (by decide) (by decide) rfl ?_
  refine j_goto h 3 dX9_put_45 (by decide) ?_
  refine j_iload_n h 0 rfl rfl dX9_put_3 ?_
  refine j_if_lt h 48 dX9_put_4 (by decide) (fun q => absurd q (by decide)) (fun _ => ?_)
  refine j_aload_n h 1 rfl rfl dX9_put_7 ?_
  refine j_get h iw_X9 0 rfl rfl 1 (by decide) tw_122 rfl dX9_put_8 ?_
  refine j_aload_n h 1 rfl rfl dX9_put_11 ?_
  refine j_get h iw_X9 0 rfl rfl 0 (by decide) tw_121 rfl dX9_put_12 ?_
  refine j_alen (v := 1600) h 1 0 rfl rfl rfl dX9_put_15 ?_
  refine j_icmp_ge h 42 dX9_put_16 (by decide) (fun q => absurd q (by decide)) (fun _ => ?_)
  refine j_aload_n h 1 rfl rfl dX9_put_19 ?_
  refine j_get h iw_X9 0 rfl rfl 0 (by decide) tw_121 rfl dX9_put_20 ?_
  refine j_aload_n h 1 rfl rfl dX9_put_23 ?_
  refine j_get h iw_X9 0 rfl rfl 1 (by decide) tw_122 rfl dX9_put_24 ?_
  refine j_iload_n h 2 rfl rfl dX9_put_27 ?_
  refine j_iload_n h 0 rfl rfl dX9_put_28 ?_
  refine j_ishr h dX9_put_29 ?_
  refine j_i2b h dX9_put_30 ?_
  refine j_bast (ws' := [(h0, .inr (9, [.ref a0, .int 1, .int 0, .int 0, .int 0, .long 0, .int 0])), (a0, .inl (kA 0, 1600, .inl (upd (upd f 0 (vp_nar .byte ((v >>> (24 &&& 31)).toInt8.toInt32))) 1 (vp_nar .byte ((v >>> (16 &&& 31)).toInt8.toInt32)))))]) h 1 rfl 1 (by decide) (by decide) (by decide) dX9_put_31 rfl ?_
  refine j_aload_n h 1 rfl rfl dX9_put_32 ?_
  refine j_dup h rfl dX9_put_33 ?_
  refine j_get h iw_X9 0 rfl rfl 1 (by decide) tw_122 rfl dX9_put_34 ?_
  refine j_iconst (v := 1) h (by decide) dX9_put_37 ?_
  refine j_iadd h dX9_put_38 ?_
  refine j_top (b := 2) (by decide) ?_
  refine j_put (ws' := [(h0, .inr (9, [.ref a0, .int 2, .int 0, .int 0, .int 0, .long 0, .int 0])), (a0, .inl (kA 0, 1600, .inl (upd (upd f 0 (vp_nar .byte ((v >>> (24 &&& 31)).toInt8.toInt32))) 1 (vp_nar .byte ((v >>> (16 &&& 31)).toInt8.toInt32)))))]) h iw_X9 tyX9 tyX9_ok nmX9 0 rfl rfl 1 (by decide) tw_122 rfl rfl rfl (Nat.le_of_ble_eq_true rfl) dX9_put_39 rfl ?_
  refine j_iinc (v := 8) (lv' := [(2, .int 8), (0, .ref h0), (1, .int v)]) h dX9_put_42 0 rfl (by decide) (by decide) rfl ?_
  refine j_goto h 3 dX9_put_45 (by decide) ?_
  refine j_iload_n h 0 rfl rfl dX9_put_3 ?_
  refine j_if_lt h 48 dX9_put_4 (by decide) (fun q => absurd q (by decide)) (fun _ => ?_)
  refine j_aload_n h 1 rfl rfl dX9_put_7 ?_
  refine j_get h iw_X9 0 rfl rfl 1 (by decide) tw_122 rfl dX9_put_8 ?_
  refine j_aload_n h 1 rfl rfl dX9_put_11 ?_
  refine j_get h iw_X9 0 rfl rfl 0 (by decide) tw_121 rfl dX9_put_12 ?_
  refine j_alen (v := 1600) h 1 0 rfl rfl rfl dX9_put_15 ?_
  refine j_icmp_ge h 42 dX9_put_16 (by decide) (fun q => absurd q (by decide)) (fun _ => ?_)
  refine j_aload_n h 1 rfl rfl dX9_put_19 ?_
  refine j_get h iw_X9 0 rfl rfl 0 (by decide) tw_121 rfl dX9_put_20 ?_
  refine j_aload_n h 1 rfl rfl dX9_put_23 ?_
  refine j_get h iw_X9 0 rfl rfl 1 (by decide) tw_122 rfl dX9_put_24 ?_
  refine j_iload_n h 2 rfl rfl dX9_put_27 ?_
  refine j_iload_n h 0 rfl rfl dX9_put_28 ?_
  refine j_ishr h dX9_put_29 ?_
  refine j_i2b h dX9_put_30 ?_
  refine j_bast (ws' := [(h0, .inr (9, [.ref a0, .int 2, .int 0, .int 0, .int 0, .long 0, .int 0])), (a0, .inl (kA 0, 1600, .inl (upd (upd (upd f 0 (vp_nar .byte ((v >>> (24 &&& 31)).toInt8.toInt32))) 1 (vp_nar .byte ((v >>> (16 &&& 31)).toInt8.toInt32))) 2 (vp_nar .byte ((v >>> (8 &&& 31)).toInt8.toInt32)))))]) h 1 rfl 2 (by decide) (by decide) (by decide) dX9_put_31 rfl ?_
  refine j_aload_n h 1 rfl rfl dX9_put_32 ?_
  refine j_dup h rfl dX9_put_33 ?_
  refine j_get h iw_X9 0 rfl rfl 1 (by decide) tw_122 rfl dX9_put_34 ?_
  refine j_iconst (v := 1) h (by decide) dX9_put_37 ?_
  refine j_iadd h dX9_put_38 ?_
  refine j_top (b := 3) (by decide) ?_
  refine j_put (ws' := [(h0, .inr (9, [.ref a0, .int 3, .int 0, .int 0, .int 0, .long 0, .int 0])), (a0, .inl (kA 0, 1600, .inl (upd (upd (upd f 0 (vp_nar .byte ((v >>> (24 &&& 31)).toInt8.toInt32))) 1 (vp_nar .byte ((v >>> (16 &&& 31)).toInt8.toInt32))) 2 (vp_nar .byte ((v >>> (8 &&& 31)).toInt8.toInt32)))))]) h iw_X9 tyX9 tyX9_ok nmX9 0 rfl rfl 1 (by decide) tw_122 rfl rfl rfl (Nat.le_of_ble_eq_true rfl) dX9_put_39 rfl ?_
  refine j_iinc (v := 0) (lv' := [(2, .int 0), (0, .ref h0), (1, .int v)]) h dX9_put_42 0 rfl (by decide) (by decide) rfl ?_
  refine j_goto h 3 dX9_put_45 (by decide) ?_
  refine j_iload_n h 0 rfl rfl dX9_put_3 ?_
  refine j_if_lt h 48 dX9_put_4 (by decide) (fun q => absurd q (by decide)) (fun _ => ?_)
  refine j_aload_n h 1 rfl rfl dX9_put_7 ?_
  refine j_get h iw_X9 0 rfl rfl 1 (by decide) tw_122 rfl dX9_put_8 ?_
  refine j_aload_n h 1 rfl rfl dX9_put_11 ?_
  refine j_get h iw_X9 0 rfl rfl 0 (by decide) tw_121 rfl dX9_put_12 ?_
  refine j_alen (v := 1600) h 1 0 rfl rfl rfl dX9_put_15 ?_
  refine j_icmp_ge h 42 dX9_put_16 (by decide) (fun q => absurd q (by decide)) (fun _ => ?_)
  refine j_aload_n h 1 rfl rfl dX9_put_19 ?_
  refine j_get h iw_X9 0 rfl rfl 0 (by decide) tw_121 rfl dX9_put_20 ?_
  refine j_aload_n h 1 rfl rfl dX9_put_23 ?_
  refine j_get h iw_X9 0 rfl rfl 1 (by decide) tw_122 rfl dX9_put_24 ?_
  refine j_iload_n h 2 rfl rfl dX9_put_27 ?_
  refine j_iload_n h 0 rfl rfl dX9_put_28 ?_
  refine j_ishr h dX9_put_29 ?_
  refine j_i2b h dX9_put_30 ?_
  refine j_bast (ws' := [(h0, .inr (9, [.ref a0, .int 3, .int 0, .int 0, .int 0, .long 0, .int 0])), (a0, .inl (kA 0, 1600, .inl (upd (upd (upd (upd f 0 (vp_nar .byte ((v >>> (24 &&& 31)).toInt8.toInt32))) 1 (vp_nar .byte ((v >>> (16 &&& 31)).toInt8.toInt32))) 2 (vp_nar .byte ((v >>> (8 &&& 31)).toInt8.toInt32))) 3 (vp_nar .byte ((v >>> (0 &&& 31)).toInt8.toInt32)))))]) h 1 rfl 3 (by decide) (by decide) (by decide) dX9_put_31 rfl ?_
  refine j_aload_n h 1 rfl rfl dX9_put_32 ?_
  refine j_dup h rfl dX9_put_33 ?_
  refine j_get h iw_X9 0 rfl rfl 1 (by decide) tw_122 rfl dX9_put_34 ?_
  refine j_iconst (v := 1) h (by decide) dX9_put_37 ?_
  refine j_iadd h dX9_put_38 ?_
  refine j_top (b := 4) (by decide) ?_
  refine j_put (ws' := [(h0, .inr (9, [.ref a0, .int 4, .int 0, .int 0, .int 0, .long 0, .int 0])), (a0, .inl (kA 0, 1600, .inl (upd (upd (upd (upd f 0 (vp_nar .byte ((v >>> (24 &&& 31)).toInt8.toInt32))) 1 (vp_nar .byte ((v >>> (16 &&& 31)).toInt8.toInt32))) 2 (vp_nar .byte ((v >>> (8 &&& 31)).toInt8.toInt32))) 3 (vp_nar .byte ((v >>> (0 &&& 31)).toInt8.toInt32)))))]) h iw_X9 tyX9 tyX9_ok nmX9 0 rfl rfl 1 (by decide) tw_122 rfl rfl rfl (Nat.le_of_ble_eq_true rfl) dX9_put_39 rfl ?_
  refine j_iinc (v := (-8)) (lv' := [(2, .int (-8)), (0, .ref h0), (1, .int v)]) h dX9_put_42 0 rfl (by decide) (by decide) rfl ?_
  refine j_goto h 3 dX9_put_45 (by decide) ?_
  refine j_iload_n h 0 rfl rfl dX9_put_3 ?_
  refine j_if_lt h 48 dX9_put_4 (by decide) (fun _ => ?_) (fun q => absurd (by decide) q)
  exact j_vret h hq dX9_put_48 (upd (upd (upd (upd f 0 (vp_nar .byte ((v >>> (24 &&& 31)).toInt8.toInt32))) 1 (vp_nar .byte ((v >>> (16 &&& 31)).toInt8.toInt32))) 2 (vp_nar .byte ((v >>> (8 &&& 31)).toInt8.toInt32))) 3 (vp_nar .byte ((v >>> (0 &&& 31)).toInt8.toInt32))) [0, 1] rfl rfl (by decide) trivial (Nat.le_of_ble_eq_true rfl) (Nat.le_of_ble_eq_true rfl)
set_option maxHeartbeats 4000000 in
set_option maxRecDepth 100000 in
theorem c_X9_put4 (l : Launch) (g : va_G) (kA : Nat → ClassId) (h0 : Nat) (a0 : Nat) (f : Nat → Int32) (v : Int32)  : CtV l yX9_put cX9_put 3 (none) 1 0 0 g kA [.ref h0, .int v] [(h0, .inr (9, [.ref a0, .int 4, .int 0, .int 0, .int 0, .long 0, .int 0])), (a0, .inl (kA 0, 1600, .inl f))] (S := (Nat → Int32)) (fun (f1 : (Nat → Int32)) => True) (fun (f1 : (Nat → Int32)) => [(h0, .inr (9, [.ref a0, .int 8, .int 0, .int 0, .int 0, .long 0, .int 0])), (a0, .inl (kA 0, 1600, .inl f1))]) := by
  refine nx_startV (by decide +kernel) (Nat.le_of_ble_eq_true rfl) ?_
  intro x hnm h hq
  have h : Ok x cX9_put RX9 kA (rmC 1 0 0) 3 := h
  show J x [(h0, .inr (9, [.ref a0, .int 4, .int 0, .int 0, .int 0, .long 0, .int 0])), (a0, .inl (kA 0, 1600, .inl f))] [(0, .ref h0), (1, .int v)] 0 0 0 []
  refine j_bipush (v := 24) h (by decide) dX9_put_0 ?_
  refine j_istore_n (lv' := [(2, .int 24), (0, .ref h0), (1, .int v)]) h dX9_put_2 rfl (by decide) rfl ?_
  refine j_iload_n h 0 rfl rfl dX9_put_3 ?_
  refine j_if_lt h 48 dX9_put_4 (by decide) (fun q => absurd q (by decide)) (fun _ => ?_)
  refine j_aload_n h 1 rfl rfl dX9_put_7 ?_
  refine j_get h iw_X9 0 rfl rfl 1 (by decide) tw_122 rfl dX9_put_8 ?_
  refine j_aload_n h 1 rfl rfl dX9_put_11 ?_
  refine j_get h iw_X9 0 rfl rfl 0 (by decide) tw_121 rfl dX9_put_12 ?_
  refine j_alen (v := 1600) h 1 0 rfl rfl rfl dX9_put_15 ?_
  refine j_icmp_ge h 42 dX9_put_16 (by decide) (fun q => absurd q (by decide)) (fun _ => ?_)
  refine j_aload_n h 1 rfl rfl dX9_put_19 ?_
  refine j_get h iw_X9 0 rfl rfl 0 (by decide) tw_121 rfl dX9_put_20 ?_
  refine j_aload_n h 1 rfl rfl dX9_put_23 ?_
  refine j_get h iw_X9 0 rfl rfl 1 (by decide) tw_122 rfl dX9_put_24 ?_
  refine j_iload_n h 2 rfl rfl dX9_put_27 ?_
  refine j_iload_n h 0 rfl rfl dX9_put_28 ?_
  refine j_ishr h dX9_put_29 ?_
  refine j_i2b h dX9_put_30 ?_
  refine j_bast (ws' := [(h0, .inr (9, [.ref a0, .int 4, .int 0, .int 0, .int 0, .long 0, .int 0])), (a0, .inl (kA 0, 1600, .inl (upd f 4 (vp_nar .byte ((v >>> (24 &&& 31)).toInt8.toInt32)))))]) h 1 rfl 4 (by decide) (by decide) (by decide) dX9_put_31 rfl ?_
  refine j_aload_n h 1 rfl rfl dX9_put_32 ?_
  refine j_dup h rfl dX9_put_33 ?_
  refine j_get h iw_X9 0 rfl rfl 1 (by decide) tw_122 rfl dX9_put_34 ?_
  refine j_iconst (v := 1) h (by decide) dX9_put_37 ?_
  refine j_iadd h dX9_put_38 ?_
  refine j_top (b := 5) (by decide) ?_
  refine j_put (ws' := [(h0, .inr (9, [.ref a0, .int 5, .int 0, .int 0, .int 0, .long 0, .int 0])), (a0, .inl (kA 0, 1600, .inl (upd f 4 (vp_nar .byte ((v >>> (24 &&& 31)).toInt8.toInt32)))))]) h iw_X9 tyX9 tyX9_ok nmX9 0 rfl rfl 1 (by decide) tw_122 rfl rfl rfl (Nat.le_of_ble_eq_true rfl) dX9_put_39 rfl ?_
  refine j_iinc (v := 16) (lv' := [(2, .int 16), (0, .ref h0), (1, .int v)]) h dX9_put_42 0 rfl (by decide) (by decide) rfl ?_
  refine j_goto h 3 dX9_put_45 (by decide) ?_
  refine j_iload_n h 0 rfl rfl dX9_put_3 ?_
  refine j_if_lt h 48 dX9_put_4 (by decide) (fun q => absurd q (by decide)) (fun _ => ?_)
  refine j_aload_n h 1 rfl rfl dX9_put_7 ?_
  refine j_get h iw_X9 0 rfl rfl 1 (by decide) tw_122 rfl dX9_put_8 ?_
  refine j_aload_n h 1 rfl rfl dX9_put_11 ?_
  refine j_get h iw_X9 0 rfl rfl 0 (by decide) tw_121 rfl dX9_put_12 ?_
  refine j_alen (v := 1600) h 1 0 rfl rfl rfl dX9_put_15 ?_
  refine j_icmp_ge h 42 dX9_put_16 (by decide) (fun q => absurd q (by decide)) (fun _ => ?_)
  refine j_aload_n h 1 rfl rfl dX9_put_19 ?_
  refine j_get h iw_X9 0 rfl rfl 0 (by decide) tw_121 rfl dX9_put_20 ?_
  refine j_aload_n h 1 rfl rfl dX9_put_23 ?_
  refine j_get h iw_X9 0 rfl rfl 1 (by decide) tw_122 rfl dX9_put_24 ?_
  refine j_iload_n h 2 rfl rfl dX9_put_27 ?_
  refine j_iload_n h 0 rfl rfl dX9_put_28 ?_
  refine j_ishr h dX9_put_29 ?_
  refine j_i2b h dX9_put_30 ?_
  refine j_bast (ws' := [(h0, .inr (9, [.ref a0, .int 5, .int 0, .int 0, .int 0, .long 0, .int 0])), (a0, .inl (kA 0, 1600, .inl (upd (upd f 4 (vp_nar .byte ((v >>> (24 &&& 31)).toInt8.toInt32))) 5 (vp_nar .byte ((v >>> (16 &&& 31)).toInt8.toInt32)))))]) h 1 rfl 5 (by decide) (by decide) (by decide) dX9_put_31 rfl ?_
  refine j_aload_n h 1 rfl rfl dX9_put_32 ?_
  refine j_dup h rfl dX9_put_33 ?_
  refine j_get h iw_X9 0 rfl rfl 1 (by decide) tw_122 rfl dX9_put_34 ?_
  refine j_iconst (v := 1) h (by decide) dX9_put_37 ?_
  refine j_iadd h dX9_put_38 ?_
  refine j_top (b := 6) (by decide) ?_
  refine j_put (ws' := [(h0, .inr (9, [.ref a0, .int 6, .int 0, .int 0, .int 0, .long 0, .int 0])), (a0, .inl (kA 0, 1600, .inl (upd (upd f 4 (vp_nar .byte ((v >>> (24 &&& 31)).toInt8.toInt32))) 5 (vp_nar .byte ((v >>> (16 &&& 31)).toInt8.toInt32)))))]) h iw_X9 tyX9 tyX9_ok nmX9 0 rfl rfl 1 (by decide) tw_122 rfl rfl rfl (Nat.le_of_ble_eq_true rfl) dX9_put_39 rfl ?_
  refine j_iinc (v := 8) (lv' := [(2, .int 8), (0, .ref h0), (1, .int v)]) h dX9_put_42 0 rfl (by decide) (by decide) rfl ?_
  refine j_goto h 3 dX9_put_45 (by decide) ?_
  refine j_iload_n h 0 rfl rfl dX9_put_3 ?_
  refine j_if_lt h 48 dX9_put_4 (by decide) (fun q => absurd q (by decide)) (fun _ => ?_)
  refine j_aload_n h 1 rfl rfl dX9_put_7 ?_
  refine j_get h iw_X9 0 rfl rfl 1 (by decide) tw_122 rfl dX9_put_8 ?_
  refine j_aload_n h 1 rfl rfl dX9_put_11 ?_
  refine j_get h iw_X9 0 rfl rfl 0 (by decide) tw_121 rfl dX9_put_12 ?_
  refine j_alen (v := 1600) h 1 0 rfl rfl rfl dX9_put_15 ?_
  refine j_icmp_ge h 42 dX9_put_16 (by decide) (fun q => absurd q (by decide)) (fun _ => ?_)
  refine j_aload_n h 1 rfl rfl dX9_put_19 ?_
  refine j_get h iw_X9 0 rfl rfl 0 (by decide) tw_121 rfl dX9_put_20 ?_
  refine j_aload_n h 1 rfl rfl dX9_put_23 ?_
  refine j_get h iw_X9 0 rfl rfl 1 (by decide) tw_122 rfl dX9_put_24 ?_
  refine j_iload_n h 2 rfl rfl dX9_put_27 ?_
  refine j_iload_n h 0 rfl rfl dX9_put_28 ?_
  refine j_ishr h dX9_put_29 ?_
  refine j_i2b h dX9_put_30 ?_
  refine j_bast (ws' := [(h0, .inr (9, [.ref a0, .int 6, .int 0, .int 0, .int 0, .long 0, .int 0])), (a0, .inl (kA 0, 1600, .inl (upd (upd (upd f 4 (vp_nar .byte ((v >>> (24 &&& 31)).toInt8.toInt32))) 5 (vp_nar .byte ((v >>> (16 &&& 31)).toInt8.toInt32))) 6 (vp_nar .byte ((v >>> (8 &&& 31)).toInt8.toInt32)))))]) h 1 rfl 6 (by decide) (by decide) (by decide) dX9_put_31 rfl ?_
  refine j_aload_n h 1 rfl rfl dX9_put_32 ?_
  refine j_dup h rfl dX9_put_33 ?_
  refine j_get h iw_X9 0 rfl rfl 1 (by decide) tw_122 rfl dX9_put_34 ?_
  refine j_iconst (v := 1) h (by decide) dX9_put_37 ?_
  refine j_iadd h dX9_put_38 ?_
  refine j_top (b := 7) (by decide) ?_
  refine j_put (ws' := [(h0, .inr (9, [.ref a0, .int 7, .int 0, .int 0, .int 0, .long 0, .int 0])), (a0, .inl (kA 0, 1600, .inl (upd (upd (upd f 4 (vp_nar .byte ((v >>> (24 &&& 31)).toInt8.toInt32))) 5 (vp_nar .byte ((v >>> (16 &&& 31)).toInt8.toInt32))) 6 (vp_nar .byte ((v >>> (8 &&& 31)).toInt8.toInt32)))))]) h iw_X9 tyX9 tyX9_ok nmX9 0 rfl rfl 1 (by decide) tw_122 rfl rfl rfl (Nat.le_of_ble_eq_true rfl) dX9_put_39 rfl ?_
  refine j_iinc (v := 0) (lv' := [(2, .int 0), (0, .ref h0), (1, .int v)]) h dX9_put_42 0 rfl (by decide) (by decide) rfl ?_
  refine j_goto h 3 dX9_put_45 (by decide) ?_
  refine j_iload_n h 0 rfl rfl dX9_put_3 ?_
  refine j_if_lt h 48 dX9_put_4 (by decide) (fun q => absurd q (by decide)) (fun _ => ?_)
  refine j_aload_n h 1 rfl rfl dX9_put_7 ?_
  refine j_get h iw_X9 0 rfl rfl 1 (by decide) tw_122 rfl dX9_put_8 ?_
  refine j_aload_n h 1 rfl rfl dX9_put_11 ?_
  refine j_get h iw_X9 0 rfl rfl 0 (by decide) tw_121 rfl dX9_put_12 ?_
  refine j_alen (v := 1600) h 1 0 rfl rfl rfl dX9_put_15 ?_
  refine j_icmp_ge h 42 dX9_put_16 (by decide) (fun q => absurd q (by decide)) (fun _ => ?_)
  refine j_aload_n h 1 rfl rfl dX9_put_19 ?_
  refine j_get h iw_X9 0 rfl rfl 0 (by decide) tw_121 rfl dX9_put_20 ?_
  refine j_aload_n h 1 rfl rfl dX9_put_23 ?_
  refine j_get h iw_X9 0 rfl rfl 1 (by decide) tw_122 rfl dX9_put_24 ?_
  refine j_iload_n h 2 rfl rfl dX9_put_27 ?_
  refine j_iload_n h 0 rfl rfl dX9_put_28 ?_
  refine j_ishr h dX9_put_29 ?_
  refine j_i2b h dX9_put_30 ?_
  refine j_bast (ws' := [(h0, .inr (9, [.ref a0, .int 7, .int 0, .int 0, .int 0, .long 0, .int 0])), (a0, .inl (kA 0, 1600, .inl (upd (upd (upd (upd f 4 (vp_nar .byte ((v >>> (24 &&& 31)).toInt8.toInt32))) 5 (vp_nar .byte ((v >>> (16 &&& 31)).toInt8.toInt32))) 6 (vp_nar .byte ((v >>> (8 &&& 31)).toInt8.toInt32))) 7 (vp_nar .byte ((v >>> (0 &&& 31)).toInt8.toInt32)))))]) h 1 rfl 7 (by decide) (by decide) (by decide) dX9_put_31 rfl ?_
  refine j_aload_n h 1 rfl rfl dX9_put_32 ?_
  refine j_dup h rfl dX9_put_33 ?_
  refine j_get h iw_X9 0 rfl rfl 1 (by decide) tw_122 rfl dX9_put_34 ?_
  refine j_iconst (v := 1) h (by decide) dX9_put_37 ?_
  refine j_iadd h dX9_put_38 ?_
  refine j_top (b := 8) (by decide) ?_
  refine j_put (ws' := [(h0, .inr (9, [.ref a0, .int 8, .int 0, .int 0, .int 0, .long 0, .int 0])), (a0, .inl (kA 0, 1600, .inl (upd (upd (upd (upd f 4 (vp_nar .byte ((v >>> (24 &&& 31)).toInt8.toInt32))) 5 (vp_nar .byte ((v >>> (16 &&& 31)).toInt8.toInt32))) 6 (vp_nar .byte ((v >>> (8 &&& 31)).toInt8.toInt32))) 7 (vp_nar .byte ((v >>> (0 &&& 31)).toInt8.toInt32)))))]) h iw_X9 tyX9 tyX9_ok nmX9 0 rfl rfl 1 (by decide) tw_122 rfl rfl rfl (Nat.le_of_ble_eq_true rfl) dX9_put_39 rfl ?_
  refine j_iinc (v := (-8)) (lv' := [(2, .int (-8)), (0, .ref h0), (1, .int v)]) h dX9_put_42 0 rfl (by decide) (by decide) rfl ?_
  refine j_goto h 3 dX9_put_45 (by decide) ?_
  refine j_iload_n h 0 rfl rfl dX9_put_3 ?_
  refine j_if_lt h 48 dX9_put_4 (by decide) (fun _ => ?_) (fun q => absurd (by decide) q)
  exact j_vret h hq dX9_put_48 (upd (upd (upd (upd f 4 (vp_nar .byte ((v >>> (24 &&& 31)).toInt8.toInt32))) 5 (vp_nar .byte ((v >>> (16 &&& 31)).toInt8.toInt32))) 6 (vp_nar .byte ((v >>> (8 &&& 31)).toInt8.toInt32))) 7 (vp_nar .byte ((v >>> (0 &&& 31)).toInt8.toInt32))) [0, 1] rfl rfl (by decide) trivial (Nat.le_of_ble_eq_true rfl) (Nat.le_of_ble_eq_true rfl)
set_option maxHeartbeats 4000000 in
set_option maxRecDepth 100000 in
theorem c_X9_put8 (l : Launch) (g : va_G) (kA : Nat → ClassId) (h0 : Nat) (a0 : Nat) (f : Nat → Int32) (v : Int32)  : CtV l yX9_put cX9_put 3 (none) 1 0 0 g kA [.ref h0, .int v] [(h0, .inr (9, [.ref a0, .int 8, .int 0, .int 0, .int 0, .long 0, .int 0])), (a0, .inl (kA 0, 1600, .inl f))] (S := (Nat → Int32)) (fun (f1 : (Nat → Int32)) => True) (fun (f1 : (Nat → Int32)) => [(h0, .inr (9, [.ref a0, .int 12, .int 0, .int 0, .int 0, .long 0, .int 0])), (a0, .inl (kA 0, 1600, .inl f1))]) := by
  refine nx_startV (by decide +kernel) (Nat.le_of_ble_eq_true rfl) ?_
  intro x hnm h hq
  have h : Ok x cX9_put RX9 kA (rmC 1 0 0) 3 := h
  show J x [(h0, .inr (9, [.ref a0, .int 8, .int 0, .int 0, .int 0, .long 0, .int 0])), (a0, .inl (kA 0, 1600, .inl f))] [(0, .ref h0), (1, .int v)] 0 0 0 []
  refine j_bipush (v := 24) h (by decide) dX9_put_0 ?_
  refine j_istore_n (lv' := [(2, .int 24), (0, .ref h0), (1, .int v)]) h dX9_put_2 rfl (by decide) rfl ?_
  refine j_iload_n h 0 rfl rfl dX9_put_3 ?_
  refine j_if_lt h 48 dX9_put_4 (by decide) (fun q => absurd q (by decide)) (fun _ => ?_)
  refine j_aload_n h 1 rfl rfl dX9_put_7 ?_
  refine j_get h iw_X9 0 rfl rfl 1 (by decide) tw_122 rfl dX9_put_8 ?_
  refine j_aload_n h 1 rfl rfl dX9_put_11 ?_
  refine j_get h iw_X9 0 rfl rfl 0 (by decide) tw_121 rfl dX9_put_12 ?_
  refine j_alen (v := 1600) h 1 0 rfl rfl rfl dX9_put_15 ?_
  refine j_icmp_ge h 42 dX9_put_16 (by decide) (fun q => absurd q (by decide)) (fun _ => ?_)
  refine j_aload_n h 1 rfl rfl dX9_put_19 ?_
  refine j_get h iw_X9 0 rfl rfl 0 (by decide) tw_121 rfl dX9_put_20 ?_
  refine j_aload_n h 1 rfl rfl dX9_put_23 ?_
  refine j_get h iw_X9 0 rfl rfl 1 (by decide) tw_122 rfl dX9_put_24 ?_
  refine j_iload_n h 2 rfl rfl dX9_put_27 ?_
  refine j_iload_n h 0 rfl rfl dX9_put_28 ?_
  refine j_ishr h dX9_put_29 ?_
  refine j_i2b h dX9_put_30 ?_
  refine j_bast (ws' := [(h0, .inr (9, [.ref a0, .int 8, .int 0, .int 0, .int 0, .long 0, .int 0])), (a0, .inl (kA 0, 1600, .inl (upd f 8 (vp_nar .byte ((v >>> (24 &&& 31)).toInt8.toInt32)))))]) h 1 rfl 8 (by decide) (by decide) (by decide) dX9_put_31 rfl ?_
  refine j_aload_n h 1 rfl rfl dX9_put_32 ?_
  refine j_dup h rfl dX9_put_33 ?_
  refine j_get h iw_X9 0 rfl rfl 1 (by decide) tw_122 rfl dX9_put_34 ?_
  refine j_iconst (v := 1) h (by decide) dX9_put_37 ?_
  refine j_iadd h dX9_put_38 ?_
  refine j_top (b := 9) (by decide) ?_
  refine j_put (ws' := [(h0, .inr (9, [.ref a0, .int 9, .int 0, .int 0, .int 0, .long 0, .int 0])), (a0, .inl (kA 0, 1600, .inl (upd f 8 (vp_nar .byte ((v >>> (24 &&& 31)).toInt8.toInt32)))))]) h iw_X9 tyX9 tyX9_ok nmX9 0 rfl rfl 1 (by decide) tw_122 rfl rfl rfl (Nat.le_of_ble_eq_true rfl) dX9_put_39 rfl ?_
  refine j_iinc (v := 16) (lv' := [(2, .int 16), (0, .ref h0), (1, .int v)]) h dX9_put_42 0 rfl (by decide) (by decide) rfl ?_
  refine j_goto h 3 dX9_put_45 (by decide) ?_
  refine j_iload_n h 0 rfl rfl dX9_put_3 ?_
  refine j_if_lt h 48 dX9_put_4 (by decide) (fun q => absurd q (by decide)) (fun _ => ?_)
  refine j_aload_n h 1 rfl rfl dX9_put_7 ?_
  refine j_get h iw_X9 0 rfl rfl 1 (by decide) tw_122 rfl dX9_put_8 ?_
  refine j_aload_n h 1 rfl rfl dX9_put_11 ?_
  refine j_get h iw_X9 0 rfl rfl 0 (by decide) tw_121 rfl dX9_put_12 ?_
  refine j_alen (v := 1600) h 1 0 rfl rfl rfl dX9_put_15 ?_
  refine j_icmp_ge h 42 dX9_put_16 (by decide) (fun q => absurd q (by decide)) (fun _ => ?_)
  refine j_aload_n h 1 rfl rfl dX9_put_19 ?_
  refine j_get h iw_X9 0 rfl rfl 0 (by decide) tw_121 rfl dX9_put_20 ?_
  refine j_aload_n h 1 rfl rfl dX9_put_23 ?_
  refine j_get h iw_X9 0 rfl rfl 1 (by decide) tw_122 rfl dX9_put_24 ?_
  refine j_iload_n h 2 rfl rfl dX9_put_27 ?_
  refine j_iload_n h 0 rfl rfl dX9_put_28 ?_
  refine j_ishr h dX9_put_29 ?_
  refine j_i2b h dX9_put_30 ?_
  refine j_bast (ws' := [(h0, .inr (9, [.ref a0, .int 9, .int 0, .int 0, .int 0, .long 0, .int 0])), (a0, .inl (kA 0, 1600, .inl (upd (upd f 8 (vp_nar .byte ((v >>> (24 &&& 31)).toInt8.toInt32))) 9 (vp_nar .byte ((v >>> (16 &&& 31)).toInt8.toInt32)))))]) h 1 rfl 9 (by decide) (by decide) (by decide) dX9_put_31 rfl ?_
  refine j_aload_n h 1 rfl rfl dX9_put_32 ?_
  refine j_dup h rfl dX9_put_33 ?_
  refine j_get h iw_X9 0 rfl rfl 1 (by decide) tw_122 rfl dX9_put_34 ?_
  refine j_iconst (v := 1) h (by decide) dX9_put_37 ?_
  refine j_iadd h dX9_put_38 ?_
  refine j_top (b := 10) (by decide) ?_
  refine j_put (ws' := [(h0, .inr (9, [.ref a0, .int 10, .int 0, .int 0, .int 0, .long 0, .int 0])), (a0, .inl (kA 0, 1600, .inl (upd (upd f 8 (vp_nar .byte ((v >>> (24 &&& 31)).toInt8.toInt32))) 9 (vp_nar .byte ((v >>> (16 &&& 31)).toInt8.toInt32)))))]) h iw_X9 tyX9 tyX9_ok nmX9 0 rfl rfl 1 (by decide) tw_122 rfl rfl rfl (Nat.le_of_ble_eq_true rfl) dX9_put_39 rfl ?_
  refine j_iinc (v := 8) (lv' := [(2, .int 8), (0, .ref h0), (1, .int v)]) h dX9_put_42 0 rfl (by decide) (by decide) rfl ?_
  refine j_goto h 3 dX9_put_45 (by decide) ?_
  refine j_iload_n h 0 rfl rfl dX9_put_3 ?_
  refine j_if_lt h 48 dX9_put_4 (by decide) (fun q => absurd q (by decide)) (fun _ => ?_)
  refine j_aload_n h 1 rfl rfl dX9_put_7 ?_
  refine j_get h iw_X9 0 rfl rfl 1 (by decide) tw_122 rfl dX9_put_8 ?_
  refine j_aload_n h 1 rfl rfl dX9_put_11 ?_
  refine j_get h iw_X9 0 rfl rfl 0 (by decide) tw_121 rfl dX9_put_12 ?_
  refine j_alen (v := 1600) h 1 0 rfl rfl rfl dX9_put_15 ?_
  refine j_icmp_ge h 42 dX9_put_16 (by decide) (fun q => absurd q (by decide)) (fun _ => ?_)
  refine j_aload_n h 1 rfl rfl dX9_put_19 ?_
  refine j_get h iw_X9 0 rfl rfl 0 (by decide) tw_121 rfl dX9_put_20 ?_
  refine j_aload_n h 1 rfl rfl dX9_put_23 ?_
  refine j_get h iw_X9 0 rfl rfl 1 (by decide) tw_122 rfl dX9_put_24 ?_
  refine j_iload_n h 2 rfl rfl dX9_put_27 ?_
  refine j_iload_n h 0 rfl rfl dX9_put_28 ?_
  refine j_ishr h dX9_put_29 ?_
  refine j_i2b h dX9_put_30 ?_
  refine j_bast (ws' := [(h0, .inr (9, [.ref a0, .int 10, .int 0, .int 0, .int 0, .long 0, .int 0])), (a0, .inl (kA 0, 1600, .inl (upd (upd (upd f 8 (vp_nar .byte ((v >>> (24 &&& 31)).toInt8.toInt32))) 9 (vp_nar .byte ((v >>> (16 &&& 31)).toInt8.toInt32))) 10 (vp_nar .byte ((v >>> (8 &&& 31)).toInt8.toInt32)))))]) h 1 rfl 10 (by decide) (by decide) (by decide) dX9_put_31 rfl ?_
  refine j_aload_n h 1 rfl rfl dX9_put_32 ?_
  refine j_dup h rfl dX9_put_33 ?_
  refine j_get h iw_X9 0 rfl rfl 1 (by decide) tw_122 rfl dX9_put_34 ?_
  refine j_iconst (v := 1) h (by decide) dX9_put_37 ?_
  refine j_iadd h dX9_put_38 ?_
  refine j_top (b := 11) (by decide) ?_
  refine j_put (ws' := [(h0, .inr (9, [.ref a0, .int 11, .int 0, .int 0, .int 0, .long 0, .int 0])), (a0, .inl (kA 0, 1600, .inl (upd (upd (upd f 8 (vp_nar .byte ((v >>> (24 &&& 31)).toInt8.toInt32))) 9 (vp_nar .byte ((v >>> (16 &&& 31)).toInt8.toInt32))) 10 (vp_nar .byte ((v >>> (8 &&& 31)).toInt8.toInt32)))))]) h iw_X9 tyX9 tyX9_ok nmX9 0 rfl rfl 1 (by decide) tw_122 rfl rfl rfl (Nat.le_of_ble_eq_true rfl) dX9_put_39 rfl ?_
  refine j_iinc (v := 0) (lv' := [(2, .int 0), (0, .ref h0), (1, .int v)]) h dX9_put_42 0 rfl (by decide) (by decide) rfl ?_
  refine j_goto h 3 dX9_put_45 (by decide) ?_
  refine j_iload_n h 0 rfl rfl dX9_put_3 ?_
  refine j_if_lt h 48 dX9_put_4 (by decide) (fun q => absurd q (by decide)) (fun _ => ?_)
  refine j_aload_n h 1 rfl rfl dX9_put_7 ?_
  refine j_get h iw_X9 0 rfl rfl 1 (by decide) tw_122 rfl dX9_put_8 ?_
  refine j_aload_n h 1 rfl rfl dX9_put_11 ?_
  refine j_get h iw_X9 0 rfl rfl 0 (by decide) tw_121 rfl dX9_put_12 ?_
  refine j_alen (v := 1600) h 1 0 rfl rfl rfl dX9_put_15 ?_
  refine j_icmp_ge h 42 dX9_put_16 (by decide) (fun q => absurd q (by decide)) (fun _ => ?_)
  refine j_aload_n h 1 rfl rfl dX9_put_19 ?_
  refine j_get h iw_X9 0 rfl rfl 0 (by decide) tw_121 rfl dX9_put_20 ?_
  refine j_aload_n h 1 rfl rfl dX9_put_23 ?_
  refine j_get h iw_X9 0 rfl rfl 1 (by decide) tw_122 rfl dX9_put_24 ?_
  refine j_iload_n h 2 rfl rfl dX9_put_27 ?_
  refine j_iload_n h 0 rfl rfl dX9_put_28 ?_
  refine j_ishr h dX9_put_29 ?_
  refine j_i2b h dX9_put_30 ?_
  refine j_bast (ws' := [(h0, .inr (9, [.ref a0, .int 11, .int 0, .int 0, .int 0, .long 0, .int 0])), (a0, .inl (kA 0, 1600, .inl (upd (upd (upd (upd f 8 (vp_nar .byte ((v >>> (24 &&& 31)).toInt8.toInt32))) 9 (vp_nar .byte ((v >>> (16 &&& 31)).toInt8.toInt32))) 10 (vp_nar .byte ((v >>> (8 &&& 31)).toInt8.toInt32))) 11 (vp_nar .byte ((v >>> (0 &&& 31)).toInt8.toInt32)))))]) h 1 rfl 11 (by decide) (by decide) (by decide) dX9_put_31 rfl ?_
  refine j_aload_n h 1 rfl rfl dX9_put_32 ?_
  refine j_dup h rfl dX9_put_33 ?_
  refine j_get h iw_X9 0 rfl rfl 1 (by decide) tw_122 rfl dX9_put_34 ?_
  refine j_iconst (v := 1) h (by decide) dX9_put_37 ?_
  refine j_iadd h dX9_put_38 ?_
  refine j_top (b := 12) (by decide) ?_
  refine j_put (ws' := [(h0, .inr (9, [.ref a0, .int 12, .int 0, .int 0, .int 0, .long 0, .int 0])), (a0, .inl (kA 0, 1600, .inl (upd (upd (upd (upd f 8 (vp_nar .byte ((v >>> (24 &&& 31)).toInt8.toInt32))) 9 (vp_nar .byte ((v >>> (16 &&& 31)).toInt8.toInt32))) 10 (vp_nar .byte ((v >>> (8 &&& 31)).toInt8.toInt32))) 11 (vp_nar .byte ((v >>> (0 &&& 31)).toInt8.toInt32)))))]) h iw_X9 tyX9 tyX9_ok nmX9 0 rfl rfl 1 (by decide) tw_122 rfl rfl rfl (Nat.le_of_ble_eq_true rfl) dX9_put_39 rfl ?_
  refine j_iinc (v := (-8)) (lv' := [(2, .int (-8)), (0, .ref h0), (1, .int v)]) h dX9_put_42 0 rfl (by decide) (by decide) rfl ?_
  refine j_goto h 3 dX9_put_45 (by decide) ?_
  refine j_iload_n h 0 rfl rfl dX9_put_3 ?_
  refine j_if_lt h 48 dX9_put_4 (by decide) (fun _ => ?_) (fun q => absurd (by decide) q)
  exact j_vret h hq dX9_put_48 (upd (upd (upd (upd f 8 (vp_nar .byte ((v >>> (24 &&& 31)).toInt8.toInt32))) 9 (vp_nar .byte ((v >>> (16 &&& 31)).toInt8.toInt32))) 10 (vp_nar .byte ((v >>> (8 &&& 31)).toInt8.toInt32))) 11 (vp_nar .byte ((v >>> (0 &&& 31)).toInt8.toInt32))) [0, 1] rfl rfl (by decide) trivial (Nat.le_of_ble_eq_true rfl) (Nat.le_of_ble_eq_true rfl)
set_option maxHeartbeats 4000000 in
set_option maxRecDepth 100000 in
theorem c_X9_put12 (l : Launch) (g : va_G) (kA : Nat → ClassId) (h0 : Nat) (a0 : Nat) (f : Nat → Int32) (v : Int32)  : CtV l yX9_put cX9_put 3 (none) 1 0 0 g kA [.ref h0, .int v] [(h0, .inr (9, [.ref a0, .int 12, .int 0, .int 0, .int 0, .long 0, .int 0])), (a0, .inl (kA 0, 1600, .inl f))] (S := (Nat → Int32)) (fun (f1 : (Nat → Int32)) => True) (fun (f1 : (Nat → Int32)) => [(h0, .inr (9, [.ref a0, .int 16, .int 0, .int 0, .int 0, .long 0, .int 0])), (a0, .inl (kA 0, 1600, .inl f1))]) := by
  refine nx_startV (by decide +kernel) (Nat.le_of_ble_eq_true rfl) ?_
  intro x hnm h hq
  have h : Ok x cX9_put RX9 kA (rmC 1 0 0) 3 := h
  show J x [(h0, .inr (9, [.ref a0, .int 12, .int 0, .int 0, .int 0, .long 0, .int 0])), (a0, .inl (kA 0, 1600, .inl f))] [(0, .ref h0), (1, .int v)] 0 0 0 []
  refine j_bipush (v := 24) h (by decide) dX9_put_0 ?_
  refine j_istore_n (lv' := [(2, .int 24), (0, .ref h0), (1, .int v)]) h dX9_put_2 rfl (by decide) rfl ?_
  refine j_iload_n h 0 rfl rfl dX9_put_3 ?_
  refine j_if_lt h 48 dX9_put_4 (by decide) (fun q => absurd q (by decide)) (fun _ => ?_)
  refine j_aload_n h 1 rfl rfl dX9_put_7 ?_
  refine j_get h iw_X9 0 rfl rfl 1 (by decide) tw_122 rfl dX9_put_8 ?_
  refine j_aload_n h 1 rfl rfl dX9_put_11 ?_
  refine j_get h iw_X9 0 rfl rfl 0 (by decide) tw_121 rfl dX9_put_12 ?_
  refine j_alen (v := 1600) h 1 0 rfl rfl rfl dX9_put_15 ?_
  refine j_icmp_ge h 42 dX9_put_16 (by decide) (fun q => absurd q (by decide)) (fun _ => ?_)
  refine j_aload_n h 1 rfl rfl dX9_put_19 ?_
  refine j_get h iw_X9 0 rfl rfl 0 (by decide) tw_121 rfl dX9_put_20 ?_
  refine j_aload_n h 1 rfl rfl dX9_put_23 ?_
  refine j_get h iw_X9 0 rfl rfl 1 (by decide) tw_122 rfl dX9_put_24 ?_
  refine j_iload_n h 2 rfl rfl dX9_put_27 ?_
  refine j_iload_n h 0 rfl rfl dX9_put_28 ?_
  refine j_ishr h dX9_put_29 ?_
  refine j_i2b h dX9_put_30 ?_
  refine j_bast (ws' := [(h0, .inr (9, [.ref a0, .int 12, .int 0, .int 0, .int 0, .long 0, .int 0])), (a0, .inl (kA 0, 1600, .inl (upd f 12 (vp_nar .byte ((v >>> (24 &&& 31)).toInt8.toInt32)))))]) h 1 rfl 12 (by decide) (by decide) (by decide) dX9_put_31 rfl ?_
  refine j_aload_n h 1 rfl rfl dX9_put_32 ?_
  refine j_dup h rfl dX9_put_33 ?_
  refine j_get h iw_X9 0 rfl rfl 1 (by decide) tw_122 rfl dX9_put_34 ?_
  refine j_iconst (v := 1) h (by decide) dX9_put_37 ?_
  refine j_iadd h dX9_put_38 ?_
  refine j_top (b := 13) (by decide) ?_
  refine j_put (ws' := [(h0, .inr (9, [.ref a0, .int 13, .int 0, .int 0, .int 0, .long 0, .int 0])), (a0, .inl (kA 0, 1600, .inl (upd f 12 (vp_nar .byte ((v >>> (24 &&& 31)).toInt8.toInt32)))))]) h iw_X9 tyX9 tyX9_ok nmX9 0 rfl rfl 1 (by decide) tw_122 rfl rfl rfl (Nat.le_of_ble_eq_true rfl) dX9_put_39 rfl ?_
  refine j_iinc (v := 16) (lv' := [(2, .int 16), (0, .ref h0), (1, .int v)]) h dX9_put_42 0 rfl (by decide) (by decide) rfl ?_
  refine j_goto h 3 dX9_put_45 (by decide) ?_
  refine j_iload_n h 0 rfl rfl dX9_put_3 ?_
  refine j_if_lt h 48 dX9_put_4 (by decide) (fun q => absurd q (by decide)) (fun _ => ?_)
  refine j_aload_n h 1 rfl rfl dX9_put_7 ?_
  refine j_get h iw_X9 0 rfl rfl 1 (by decide) tw_122 rfl dX9_put_8 ?_
  refine j_aload_n h 1 rfl rfl dX9_put_11 ?_
  refine j_get h iw_X9 0 rfl rfl 0 (by decide) tw_121 rfl dX9_put_12 ?_
  refine j_alen (v := 1600) h 1 0 rfl rfl rfl dX9_put_15 ?_
  refine j_icmp_ge h 42 dX9_put_16 (by decide) (fun q => absurd q (by decide)) (fun _ => ?_)
  refine j_aload_n h 1 rfl rfl dX9_put_19 ?_
  refine j_get h iw_X9 0 rfl rfl 0 (by decide) tw_121 rfl dX9_put_20 ?_
  refine j_aload_n h 1 rfl rfl dX9_put_23 ?_
  refine j_get h iw_X9 0 rfl rfl 1 (by decide) tw_122 rfl dX9_put_24 ?_
  refine j_iload_n h 2 rfl rfl dX9_put_27 ?_
  refine j_iload_n h 0 rfl rfl dX9_put_28 ?_
  refine j_ishr h dX9_put_29 ?_
  refine j_i2b h dX9_put_30 ?_
  refine j_bast (ws' := [(h0, .inr (9, [.ref a0, .int 13, .int 0, .int 0, .int 0, .long 0, .int 0])), (a0, .inl (kA 0, 1600, .inl (upd (upd f 12 (vp_nar .byte ((v >>> (24 &&& 31)).toInt8.toInt32))) 13 (vp_nar .byte ((v >>> (16 &&& 31)).toInt8.toInt32)))))]) h 1 rfl 13 (by decide) (by decide) (by decide) dX9_put_31 rfl ?_
  refine j_aload_n h 1 rfl rfl dX9_put_32 ?_
  refine j_dup h rfl dX9_put_33 ?_
  refine j_get h iw_X9 0 rfl rfl 1 (by decide) tw_122 rfl dX9_put_34 ?_
  refine j_iconst (v := 1) h (by decide) dX9_put_37 ?_
  refine j_iadd h dX9_put_38 ?_
  refine j_top (b := 14) (by decide) ?_
  refine j_put (ws' := [(h0, .inr (9, [.ref a0, .int 14, .int 0, .int 0, .int 0, .long 0, .int 0])), (a0, .inl (kA 0, 1600, .inl (upd (upd f 12 (vp_nar .byte ((v >>> (24 &&& 31)).toInt8.toInt32))) 13 (vp_nar .byte ((v >>> (16 &&& 31)).toInt8.toInt32)))))]) h iw_X9 tyX9 tyX9_ok nmX9 0 rfl rfl 1 (by decide) tw_122 rfl rfl rfl (Nat.le_of_ble_eq_true rfl) dX9_put_39 rfl ?_
  refine j_iinc (v := 8) (lv' := [(2, .int 8), (0, .ref h0), (1, .int v)]) h dX9_put_42 0 rfl (by decide) (by decide) rfl ?_
  refine j_goto h 3 dX9_put_45 (by decide) ?_
  refine j_iload_n h 0 rfl rfl dX9_put_3 ?_
  refine j_if_lt h 48 dX9_put_4 (by decide) (fun q => absurd q (by decide)) (fun _ => ?_)
  refine j_aload_n h 1 rfl rfl dX9_put_7 ?_
  refine j_get h iw_X9 0 rfl rfl 1 (by decide) tw_122 rfl dX9_put_8 ?_
  refine j_aload_n h 1 rfl rfl dX9_put_11 ?_
  refine j_get h iw_X9 0 rfl rfl 0 (by decide) tw_121 rfl dX9_put_12 ?_
  refine j_alen (v := 1600) h 1 0 rfl rfl rfl dX9_put_15 ?_
  refine j_icmp_ge h 42 dX9_put_16 (by decide) (fun q => absurd q (by decide)) (fun _ => ?_)
  refine j_aload_n h 1 rfl rfl dX9_put_19 ?_
  refine j_get h iw_X9 0 rfl rfl 0 (by decide) tw_121 rfl dX9_put_20 ?_
  refine j_aload_n h 1 rfl rfl dX9_put_23 ?_
  refine j_get h iw_X9 0 rfl rfl 1 (by decide) tw_122 rfl dX9_put_24 ?_
  refine j_iload_n h 2 rfl rfl dX9_put_27 ?_
  refine j_iload_n h 0 rfl rfl dX9_put_28 ?_
  refine j_ishr h dX9_put_29 ?_
  refine j_i2b h dX9_put_30 ?_
  refine j_bast (ws' := [(h0, .inr (9, [.ref a0, .int 14, .int 0, .int 0, .int 0, .long 0, .int 0])), (a0, .inl (kA 0, 1600, .inl (upd (upd (upd f 12 (vp_nar .byte ((v >>> (24 &&& 31)).toInt8.toInt32))) 13 (vp_nar .byte ((v >>> (16 &&& 31)).toInt8.toInt32))) 14 (vp_nar .byte ((v >>> (8 &&& 31)).toInt8.toInt32)))))]) h 1 rfl 14 (by decide) (by decide) (by decide) dX9_put_31 rfl ?_
  refine j_aload_n h 1 rfl rfl dX9_put_32 ?_
  refine j_dup h rfl dX9_put_33 ?_
  refine j_get h iw_X9 0 rfl rfl 1 (by decide) tw_122 rfl dX9_put_34 ?_
  refine j_iconst (v := 1) h (by decide) dX9_put_37 ?_
  refine j_iadd h dX9_put_38 ?_
  refine j_top (b := 15) (by decide) ?_
  refine j_put (ws' := [(h0, .inr (9, [.ref a0, .int 15, .int 0, .int 0, .int 0, .long 0, .int 0])), (a0, .inl (kA 0, 1600, .inl (upd (upd (upd f 12 (vp_nar .byte ((v >>> (24 &&& 31)).toInt8.toInt32))) 13 (vp_nar .byte ((v >>> (16 &&& 31)).toInt8.toInt32))) 14 (vp_nar .byte ((v >>> (8 &&& 31)).toInt8.toInt32)))))]) h iw_X9 tyX9 tyX9_ok nmX9 0 rfl rfl 1 (by decide) tw_122 rfl rfl rfl (Nat.le_of_ble_eq_true rfl) dX9_put_39 rfl ?_
  refine j_iinc (v := 0) (lv' := [(2, .int 0), (0, .ref h0), (1, .int v)]) h dX9_put_42 0 rfl (by decide) (by decide) rfl ?_
  refine j_goto h 3 dX9_put_45 (by decide) ?_
  refine j_iload_n h 0 rfl rfl dX9_put_3 ?_
  refine j_if_lt h 48 dX9_put_4 (by decide) (fun q => absurd q (by decide)) (fun _ => ?_)
  refine j_aload_n h 1 rfl rfl dX9_put_7 ?_
  refine j_get h iw_X9 0 rfl rfl 1 (by decide) tw_122 rfl dX9_put_8 ?_
  refine j_aload_n h 1 rfl rfl dX9_put_11 ?_
  refine j_get h iw_X9 0 rfl rfl 0 (by decide) tw_121 rfl dX9_put_12 ?_
  refine j_alen (v := 1600) h 1 0 rfl rfl rfl dX9_put_15 ?_
  refine j_icmp_ge h 42 dX9_put_16 (by decide) (fun q => absurd q (by decide)) (fun _ => ?_)
  refine j_aload_n h 1 rfl rfl dX9_put_19 ?_
  refine j_get h iw_X9 0 rfl rfl 0 (by decide) tw_121 rfl dX9_put_20 ?_
  refine j_aload_n h 1 rfl rfl dX9_put_23 ?_
  refine j_get h iw_X9 0 rfl rfl 1 (by decide) tw_122 rfl dX9_put_24 ?_
  refine j_iload_n h 2 rfl rfl dX9_put_27 ?_
  refine j_iload_n h 0 rfl rfl dX9_put_28 ?_
  refine j_ishr h dX9_put_29 ?_
  refine j_i2b h dX9_put_30 ?_
  refine j_bast (ws' := [(h0, .inr (9, [.ref a0, .int 15, .int 0, .int 0, .int 0, .long 0, .int 0])), (a0, .inl (kA 0, 1600, .inl (upd (upd (upd (upd f 12 (vp_nar .byte ((v >>> (24 &&& 31)).toInt8.toInt32))) 13 (vp_nar .byte ((v >>> (16 &&& 31)).toInt8.toInt32))) 14 (vp_nar .byte ((v >>> (8 &&& 31)).toInt8.toInt32))) 15 (vp_nar .byte ((v >>> (0 &&& 31)).toInt8.toInt32)))))]) h 1 rfl 15 (by decide) (by decide) (by decide) dX9_put_31 rfl ?_
  refine j_aload_n h 1 rfl rfl dX9_put_32 ?_
  refine j_dup h rfl dX9_put_33 ?_
  refine j_get h iw_X9 0 rfl rfl 1 (by decide) tw_122 rfl dX9_put_34 ?_
  refine j_iconst (v := 1) h (by decide) dX9_put_37 ?_
  refine j_iadd h dX9_put_38 ?_
  refine j_top (b := 16) (by decide) ?_
  refine j_put (ws' := [(h0, .inr (9, [.ref a0, .int 16, .int 0, .int 0, .int 0, .long 0, .int 0])), (a0, .inl (kA 0, 1600, .inl (upd (upd (upd (upd f 12 (vp_nar .byte ((v >>> (24 &&& 31)).toInt8.toInt32))) 13 (vp_nar .byte ((v >>> (16 &&& 31)).toInt8.toInt32))) 14 (vp_nar .byte ((v >>> (8 &&& 31)).toInt8.toInt32))) 15 (vp_nar .byte ((v >>> (0 &&& 31)).toInt8.toInt32)))))]) h iw_X9 tyX9 tyX9_ok nmX9 0 rfl rfl 1 (by decide) tw_122 rfl rfl rfl (Nat.le_of_ble_eq_true rfl) dX9_put_39 rfl ?_
  refine j_iinc (v := (-8)) (lv' := [(2, .int (-8)), (0, .ref h0), (1, .int v)]) h dX9_put_42 0 rfl (by decide) (by decide) rfl ?_
  refine j_goto h 3 dX9_put_45 (by decide) ?_
  refine j_iload_n h 0 rfl rfl dX9_put_3 ?_
  refine j_if_lt h 48 dX9_put_4 (by decide) (fun _ => ?_) (fun q => absurd (by decide) q)
  exact j_vret h hq dX9_put_48 (upd (upd (upd (upd f 12 (vp_nar .byte ((v >>> (24 &&& 31)).toInt8.toInt32))) 13 (vp_nar .byte ((v >>> (16 &&& 31)).toInt8.toInt32))) 14 (vp_nar .byte ((v >>> (8 &&& 31)).toInt8.toInt32))) 15 (vp_nar .byte ((v >>> (0 &&& 31)).toInt8.toInt32))) [0, 1] rfl rfl (by decide) trivial (Nat.le_of_ble_eq_true rfl) (Nat.le_of_ble_eq_true rfl)
set_option maxHeartbeats 4000000 in
set_option maxRecDepth 100000 in
theorem c_X9_put16 (l : Launch) (g : va_G) (kA : Nat → ClassId) (h0 : Nat) (a0 : Nat) (f : Nat → Int32) (v : Int32)  : CtV l yX9_put cX9_put 3 (none) 1 0 0 g kA [.ref h0, .int v] [(h0, .inr (9, [.ref a0, .int 16, .int 0, .int 0, .int 0, .long 0, .int 0])), (a0, .inl (kA 0, 1600, .inl f))] (S := (Nat → Int32)) (fun (f1 : (Nat → Int32)) => True) (fun (f1 : (Nat → Int32)) => [(h0, .inr (9, [.ref a0, .int 20, .int 0, .int 0, .int 0, .long 0, .int 0])), (a0, .inl (kA 0, 1600, .inl f1))]) := by
  refine nx_startV (by decide +kernel) (Nat.le_of_ble_eq_true rfl) ?_
  intro x hnm h hq
  have h : Ok x cX9_put RX9 kA (rmC 1 0 0) 3 := h
  show J x [(h0, .inr (9, [.ref a0, .int 16, .int 0, .int 0, .int 0, .long 0, .int 0])), (a0, .inl (kA 0, 1600, .inl f))] [(0, .ref h0), (1, .int v)] 0 0 0 []
  refine j_bipush (v := 24) h (by decide) dX9_put_0 ?_
  refine j_istore_n (lv' := [(2, .int 24), (0, .ref h0), (1, .int v)]) h dX9_put_2 rfl (by decide) rfl ?_
  refine j_iload_n h 0 rfl rfl dX9_put_3 ?_
  refine j_if_lt h 48 dX9_put_4 (by decide) (fun q => absurd q (by decide)) (fun _ => ?_)
  refine j_aload_n h 1 rfl rfl dX9_put_7 ?_
  refine j_get h iw_X9 0 rfl rfl 1 (by decide) tw_122 rfl dX9_put_8 ?_
  refine j_aload_n h 1 rfl rfl dX9_put_11 ?_
  refine j_get h iw_X9 0 rfl rfl 0 (by decide) tw_121 rfl dX9_put_12 ?_
  refine j_alen (v := 1600) h 1 0 rfl rfl rfl dX9_put_15 ?_
  refine j_icmp_ge h 42 dX9_put_16 (by decide) (fun q => absurd q (by decide)) (fun _ => ?_)
  refine j_aload_n h 1 rfl rfl dX9_put_19 ?_
  refine j_get h iw_X9 0 rfl rfl 0 (by decide) tw_121 rfl dX9_put_20 ?_
  refine j_aload_n h 1 rfl rfl dX9_put_23 ?_
  refine j_get h iw_X9 0 rfl rfl 1 (by decide) tw_122 rfl dX9_put_24 ?_
  refine j_iload_n h 2 rfl rfl dX9_put_27 ?_
  refine j_iload_n h 0 rfl rfl dX9_put_28 ?_
  refine j_ishr h dX9_put_29 ?_
  refine j_i2b h dX9_put_30 ?_
  refine j_bast (ws' := [(h0, .inr (9, [.ref a0, .int 16, .int 0, .int 0, .int 0, .long 0, .int 0])), (a0, .inl (kA 0, 1600, .inl (upd f 16 (vp_nar .byte ((v >>> (24 &&& 31)).toInt8.toInt32)))))]) h 1 rfl 16 (by decide) (by decide) (by decide) dX9_put_31 rfl ?_
  refine j_aload_n h 1 rfl rfl dX9_put_32 ?_
  refine j_dup h rfl dX9_put_33 ?_
  refine j_get h iw_X9 0 rfl rfl 1 (by decide) tw_122 rfl dX9_put_34 ?_
  refine j_iconst (v := 1) h (by decide) dX9_put_37 ?_
  refine j_iadd h dX9_put_38 ?_
  refine j_top (b := 17) (by decide) ?_
  refine j_put (ws' := [(h0, .inr (9, [.ref a0, .int 17, .int 0, .int 0, .int 0, .long 0, .int 0])), (a0, .inl (kA 0, 1600, .inl (upd f 16 (vp_nar .byte ((v >>> (24 &&& 31)).toInt8.toInt32)))))]) h iw_X9 tyX9 tyX9_ok nmX9 0 rfl rfl 1 (by decide) tw_122 rfl rfl rfl (Nat.le_of_ble_eq_true rfl) dX9_put_39 rfl ?_
  refine j_iinc (v := 16) (lv' := [(2, .int 16), (0, .ref h0), (1, .int v)]) h dX9_put_42 0 rfl (by decide) (by decide) rfl ?_
  refine j_goto h 3 dX9_put_45 (by decide) ?_
  refine j_iload_n h 0 rfl rfl dX9_put_3 ?_
  refine j_if_lt h 48 dX9_put_4 (by decide) (fun q => absurd q (by decide)) (fun _ => ?_)
  refine j_aload_n h 1 rfl rfl dX9_put_7 ?_
  refine j_get h iw_X9 0 rfl rfl 1 (by decide) tw_122 rfl dX9_put_8 ?_
  refine j_aload_n h 1 rfl rfl dX9_put_11 ?_
  refine j_get h iw_X9 0 rfl rfl 0 (by decide) tw_121 rfl dX9_put_12 ?_
  refine j_alen (v := 1600) h 1 0 rfl rfl rfl dX9_put_15 ?_
  refine j_icmp_ge h 42 dX9_put_16 (by decide) (fun q => absurd q (by decide)) (fun _ => ?_)
  refine j_aload_n h 1 rfl rfl dX9_put_19 ?_
  refine j_get h iw_X9 0 rfl rfl 0 (by decide) tw_121 rfl dX9_put_20 ?_
  refine j_aload_n h 1 rfl rfl dX9_put_23 ?_
  refine j_get h iw_X9 0 rfl rfl 1 (by decide) tw_122 rfl dX9_put_24 ?_
  refine j_iload_n h 2 rfl rfl dX9_put_27 ?_
  refine j_iload_n h 0 rfl rfl dX9_put_28 ?_
  refine j_ishr h dX9_put_29 ?_
  refine j_i2b h dX9_put_30 ?_
  refine j_bast (ws' := [(h0, .inr (9, [.ref a0, .int 17, .int 0, .int 0, .int 0, .long 0, .int 0])), (a0, .inl (kA 0, 1600, .inl (upd (upd f 16 (vp_nar .byte ((v >>> (24 &&& 31)).toInt8.toInt32))) 17 (vp_nar .byte ((v >>> (16 &&& 31)).toInt8.toInt32)))))]) h 1 rfl 17 (by decide) (by decide) (by decide) dX9_put_31 rfl ?_
  refine j_aload_n h 1 rfl rfl dX9_put_32 ?_
  refine j_dup h rfl dX9_put_33 ?_
  refine j_get h iw_X9 0 rfl rfl 1 (by decide) tw_122 rfl dX9_put_34 ?_
  refine j_iconst (v := 1) h (by decide) dX9_put_37 ?_
  refine j_iadd h dX9_put_38 ?_
  refine j_top (b := 18) (by decide) ?_
  refine j_put (ws' := [(h0, .inr (9, [.ref a0, .int 18, .int 0, .int 0, .int 0, .long 0, .int 0])), (a0, .inl (kA 0, 1600, .inl (upd (upd f 16 (vp_nar .byte ((v >>> (24 &&& 31)).toInt8.toInt32))) 17 (vp_nar .byte ((v >>> (16 &&& 31)).toInt8.toInt32)))))]) h iw_X9 tyX9 tyX9_ok nmX9 0 rfl rfl 1 (by decide) tw_122 rfl rfl rfl (Nat.le_of_ble_eq_true rfl) dX9_put_39 rfl ?_
  refine j_iinc (v := 8) (lv' := [(2, .int 8), (0, .ref h0), (1, .int v)]) h dX9_put_42 0 rfl (by decide) (by decide) rfl ?_
  refine j_goto h 3 dX9_put_45 (by decide) ?_
  refine j_iload_n h 0 rfl rfl dX9_put_3 ?_
  refine j_if_lt h 48 dX9_put_4 (by decide) (fun q => absurd q (by decide)) (fun _ => ?_)
  refine j_aload_n h 1 rfl rfl dX9_put_7 ?_
  refine j_get h iw_X9 0 rfl rfl 1 (by decide) tw_122 rfl dX9_put_8 ?_
  refine j_aload_n h 1 rfl rfl dX9_put_11 ?_
  refine j_get h iw_X9 0 rfl rfl 0 (by decide) tw_121 rfl dX9_put_12 ?_
  refine j_alen (v := 1600) h 1 0 rfl rfl rfl dX9_put_15 ?_
  refine j_icmp_ge h 42 dX9_put_16 (by decide) (fun q => absurd q (by decide)) (fun _ => ?_)
  refine j_aload_n h 1 rfl rfl dX9_put_19 ?_
  refine j_get h iw_X9 0 rfl rfl 0 (by decide) tw_121 rfl dX9_put_20 ?_
  refine j_aload_n h 1 rfl rfl dX9_put_23 ?_
  refine j_get h iw_X9 0 rfl rfl 1 (by decide) tw_122 rfl dX9_put_24 ?_
  refine j_iload_n h 2 rfl rfl dX9_put_27 ?_
  refine j_iload_n h 0 rfl rfl dX9_put_28 ?_
  refine j_ishr h dX9_put_29 ?_
  refine j_i2b h dX9_put_30 ?_
  refine j_bast (ws' := [(h0, .inr (9, [.ref a0, .int 18, .int 0, .int 0, .int 0, .long 0, .int 0])), (a0, .inl (kA 0, 1600, .inl (upd (upd (upd f 16 (vp_nar .byte ((v >>> (24 &&& 31)).toInt8.toInt32))) 17 (vp_nar .byte ((v >>> (16 &&& 31)).toInt8.toInt32))) 18 (vp_nar .byte ((v >>> (8 &&& 31)).toInt8.toInt32)))))]) h 1 rfl 18 (by decide) (by decide) (by decide) dX9_put_31 rfl ?_
  refine j_aload_n h 1 rfl rfl dX9_put_32 ?_
  refine j_dup h rfl dX9_put_33 ?_
  refine j_get h iw_X9 0 rfl rfl 1 (by decide) tw_122 rfl dX9_put_34 ?_
  refine j_iconst (v := 1) h (by decide) dX9_put_37 ?_
  refine j_iadd h dX9_put_38 ?_
  refine j_top (b := 19) (by decide) ?_
  refine j_put (ws' := [(h0, .inr (9, [.ref a0, .int 19, .int 0, .int 0, .int 0, .long 0, .int 0])), (a0, .inl (kA 0, 1600, .inl (upd (upd (upd f 16 (vp_nar .byte ((v >>> (24 &&& 31)).toInt8.toInt32))) 17 (vp_nar .byte ((v >>> (16 &&& 31)).toInt8.toInt32))) 18 (vp_nar .byte ((v >>> (8 &&& 31)).toInt8.toInt32)))))]) h iw_X9 tyX9 tyX9_ok nmX9 0 rfl rfl 1 (by decide) tw_122 rfl rfl rfl (Nat.le_of_ble_eq_true rfl) dX9_put_39 rfl ?_
  refine j_iinc (v := 0) (lv' := [(2, .int 0), (0, .ref h0), (1, .int v)]) h dX9_put_42 0 rfl (by decide) (by decide) rfl ?_
  refine j_goto h 3 dX9_put_45 (by decide) ?_
  refine j_iload_n h 0 rfl rfl dX9_put_3 ?_
  refine j_if_lt h 48 dX9_put_4 (by decide) (fun q => absurd q (by decide)) (fun _ => ?_)
  refine j_aload_n h 1 rfl rfl dX9_put_7 ?_
  refine j_get h iw_X9 0 rfl rfl 1 (by decide) tw_122 rfl dX9_put_8 ?_
  refine j_aload_n h 1 rfl rfl dX9_put_11 ?_
  refine j_get h iw_X9 0 rfl rfl 0 (by decide) tw_121 rfl dX9_put_12 ?_
  refine j_alen (v := 1600) h 1 0 rfl rfl rfl dX9_put_15 ?_
  refine j_icmp_ge h 42 dX9_put_16 (by decide) (fun q => absurd q (by decide)) (fun _ => ?_)
  refine j_aload_n h 1 rfl rfl dX9_put_19 ?_
  refine j_get h iw_X9 0 rfl rfl 0 (by decide) tw_121 rfl dX9_put_20 ?_
  refine j_aload_n h 1 rfl rfl dX9_put_23 ?_
  refine j_get h iw_X9 0 rfl rfl 1 (by decide) tw_122 rfl dX9_put_24 ?_
  refine j_iload_n h 2 rfl rfl dX9_put_27 ?_
  refine j_iload_n h 0 rfl rfl dX9_put_28 ?_
  refine j_ishr h dX9_put_29 ?_
  refine j_i2b h dX9_put_30 ?_
  refine j_bast (ws' := [(h0, .inr (9, [.ref a0, .int 19, .int 0, .int 0, .int 0, .long 0, .int 0])), (a0, .inl (kA 0, 1600, .inl (upd (upd (upd (upd f 16 (vp_nar .byte ((v >>> (24 &&& 31)).toInt8.toInt32))) 17 (vp_nar .byte ((v >>> (16 &&& 31)).toInt8.toInt32))) 18 (vp_nar .byte ((v >>> (8 &&& 31)).toInt8.toInt32))) 19 (vp_nar .byte ((v >>> (0 &&& 31)).toInt8.toInt32)))))]) h 1 rfl 19 (by decide) (by decide) (by decide) dX9_put_31 rfl ?_
  refine j_aload_n h 1 rfl rfl dX9_put_32 ?_
  refine j_dup h rfl dX9_put_33 ?_
  refine j_get h iw_X9 0 rfl rfl 1 (by decide) tw_122 rfl dX9_put_34 ?_
  refine j_iconst (v := 1) h (by decide) dX9_put_37 ?_
  refine j_iadd h dX9_put_38 ?_
  refine j_top (b := 20) (by decide) ?_
  refine j_put (ws' := [(h0, .inr (9, [.ref a0, .int 20, .int 0, .int 0, .int 0, .long 0, .int 0])), (a0, .inl (kA 0, 1600, .inl (upd (upd (upd (upd f 16 (vp_nar .byte ((v >>> (24 &&& 31)).toInt8.toInt32))) 17 (vp_nar .byte ((v >>> (16 &&& 31)).toInt8.toInt32))) 18 (vp_nar .byte ((v >>> (8 &&& 31)).toInt8.toInt32))) 19 (vp_nar .byte ((v >>> (0 &&& 31)).toInt8.toInt32)))))]) h iw_X9 tyX9 tyX9_ok nmX9 0 rfl rfl 1 (by decide) tw_122 rfl rfl rfl (Nat.le_of_ble_eq_true rfl) dX9_put_39 rfl ?_
  refine j_iinc (v := (-8)) (lv' := [(2, .int (-8)), (0, .ref h0), (1, .int v)]) h dX9_put_42 0 rfl (by decide) (by decide) rfl ?_
  refine j_goto h 3 dX9_put_45 (by decide) ?_
  refine j_iload_n h 0 rfl rfl dX9_put_3 ?_
  refine j_if_lt h 48 dX9_put_4 (by decide) (fun _ => ?_) (fun q => absurd (by decide) q)
  exact j_vret h hq dX9_put_48 (upd (upd (upd (upd f 16 (vp_nar .byte ((v >>> (24 &&& 31)).toInt8.toInt32))) 17 (vp_nar .byte ((v >>> (16 &&& 31)).toInt8.toInt32))) 18 (vp_nar .byte ((v >>> (8 &&& 31)).toInt8.toInt32))) 19 (vp_nar .byte ((v >>> (0 &&& 31)).toInt8.toInt32))) [0, 1] rfl rfl (by decide) trivial (Nat.le_of_ble_eq_true rfl) (Nat.le_of_ble_eq_true rfl)
set_option maxHeartbeats 4000000 in
set_option maxRecDepth 100000 in
theorem c_X11_feed (l : Launch) (g : va_G) (kA : Nat → ClassId) (h0 : Nat) (u : Nat → Nat) (a : Int32) (b : Int32) (c : Int32) (d : Int32) (e : Int32)  : CtI l yX11_feed cX11_feed 6 (some .int) 3 0 0 g kA [.ref h0, .int a, .int b, .int c, .int d, .int e] [(h0, .inr (11, [.ref (u 0), .ref (u 1), .ref (u 2), .ref (u 3), .ref (u 4), .ref (u 5), .ref (u 6), .ref (u 7), .ref (u 8), .ref (u 9), .ref (u 10), .ref (u 11), .ref (u 12), .ref (u 13), .ref (u 14), .ref (u 15), .ref (u 16), .int 0, .int 0])), ((u 0), .inr (9, [.ref (u 17), .int 0, .int 0, .int 0, .int 0, .long 0, .int 0])), ((u 17), .inl (kA 0, 1600, .inl (fun _ => 0)))] (S := Unit) (fun (r : Int32) (_ : Unit) => r = 20) (fun (_ : Unit) => []) := by
  refine nx_startI (by decide +kernel) (Nat.le_of_ble_eq_true rfl) ?_
  intro x hnm h hq
  have h : Ok x cX11_feed RX11 kA (rmC 3 0 0) 6 := h
  show J x [(h0, .inr (11, [.ref (u 0), .ref (u 1), .ref (u 2), .ref (u 3), .ref (u 4), .ref (u 5), .ref (u 6), .ref (u 7), .ref (u 8), .ref (u 9), .ref (u 10), .ref (u 11), .ref (u 12), .ref (u 13), .ref (u 14), .ref (u 15), .ref (u 16), .int 0, .int 0])), ((u 0), .inr (9, [.ref (u 17), .int 0, .int 0, .int 0, .int 0, .long 0, .int 0])), ((u 17), .inl (kA 0, 1600, .inl (fun _ => 0)))] [(0, .ref h0), (1, .int a), (2, .int b), (3, .int c), (4, .int d), (5, .int e)] 0 0 0 []
  refine j_aload_n h 0 rfl rfl dX11_feed_0 ?_
  refine j_get h iw_X11 0 rfl rfl 0 (by decide) tw_475 rfl dX11_feed_1 ?_
  refine j_bipush (v := 20) h (by decide) dX11_feed_4 ?_
  refine j_callVi (np := 1) (isC := [1, 2]) (isR := [0]) (wc := [((u 0), .inr (9, [.ref (u 17), .int 0, .int 0, .int 0, .int 0, .long 0, .int 0])), ((u 17), .inl (kA 0, 1600, .inl (fun _ => 0)))]) (wr := [(h0, .inr (11, [.ref (u 0), .ref (u 1), .ref (u 2), .ref (u 3), .ref (u 4), .ref (u 5), .ref (u 6), .ref (u 7), .ref (u 8), .ref (u 9), .ref (u 10), .ref (u 11), .ref (u 12), .ref (u 13), .ref (u 14), .ref (u 15), .ref (u 16), .int 0, .int 0]))]) (rest := []) (As := [.int 20]) (q0 := 0) h (c_X9_hasRoomFor _ _ kA (u 0) (u 17) (fun _ => 0) 0 0 0 0 0 ) tw_537 tw_538 tw_539 tw_88 tw_540 (by decide +kernel) rfl ⟨Nat.le_of_ble_eq_true rfl, Nat.le_of_ble_eq_true rfl⟩ rfl rfl rfl (by decide) rfl rfl (by decide) (by decide) (Nat.le_of_ble_eq_true rfl) rfl ⟨Nat.le_of_ble_eq_true rfl, Nat.le_of_ble_eq_true rfl⟩ dX11_feed_6 ?_
  rintro r _ e220
  subst e220
  show J x [(h0, .inr (11, [.ref (u 0), .ref (u 1), .ref (u 2), .ref (u 3), .ref (u 4), .ref (u 5), .ref (u 6), .ref (u 7), .ref (u 8), .ref (u 9), .ref (u 10), .ref (u 11), .ref (u 12), .ref (u 13), .ref (u 14), .ref (u 15), .ref (u 16), .int 0, .int 0])), ((u 0), .inr (9, [.ref (u 17), .int 0, .int 0, .int 0, .int 0, .long 0, .int 0])), ((u 17), .inl (kA 0, 1600, .inl (fun _ => 0)))] [(0, .ref h0), (1, .int a), (2, .int b), (3, .int c), (4, .int d), (5, .int e)] 0 0 9 [.int 1]
  refine j_if_ne h 14 dX11_feed_9 (by decide) (fun _ => ?_) (fun q => absurd q (by decide))
  refine j_aload_n h 0 rfl rfl dX11_feed_14 ?_
  refine j_get h iw_X11 0 rfl rfl 0 (by decide) tw_475 rfl dX11_feed_15 ?_
  refine j_iload_n h 1 rfl rfl dX11_feed_18 ?_
  refine j_callVv (np := 1) (isC := [1, 2]) (isR := [0]) (wc := [((u 0), .inr (9, [.ref (u 17), .int 0, .int 0, .int 0, .int 0, .long 0, .int 0])), ((u 17), .inl (kA 0, 1600, .inl (fun _ => 0)))]) (wr := [(h0, .inr (11, [.ref (u 0), .ref (u 1), .ref (u 2), .ref (u 3), .ref (u 4), .ref (u 5), .ref (u 6), .ref (u 7), .ref (u 8), .ref (u 9), .ref (u 10), .ref (u 11), .ref (u 12), .ref (u 13), .ref (u 14), .ref (u 15), .ref (u 16), .int 0, .int 0]))]) (rest := []) (As := [.int a]) (q0 := 0) h (c_X9_put0 _ _ kA (u 0) (u 17) (fun _ => 0) a ) tw_541 tw_542 tw_543 tw_88 tw_544 (by decide +kernel) rfl ⟨Nat.le_of_ble_eq_true rfl, Nat.le_of_ble_eq_true rfl⟩ rfl rfl rfl (by decide) rfl rfl (by decide) (by decide) (Nat.le_of_ble_eq_true rfl) rfl ⟨Nat.le_of_ble_eq_true rfl, Nat.le_of_ble_eq_true rfl⟩ dX11_feed_19 ?_
  rintro q221 e222
  show J x [(h0, .inr (11, [.ref (u 0), .ref (u 1), .ref (u 2), .ref (u 3), .ref (u 4), .ref (u 5), .ref (u 6), .ref (u 7), .ref (u 8), .ref (u 9), .ref (u 10), .ref (u 11), .ref (u 12), .ref (u 13), .ref (u 14), .ref (u 15), .ref (u 16), .int 0, .int 0])), ((u 0), .inr (9, [.ref (u 17), .int 4, .int 0, .int 0, .int 0, .long 0, .int 0])), ((u 17), .inl (kA 0, 1600, .inl q221))] [(0, .ref h0), (1, .int a), (2, .int b), (3, .int c), (4, .int d), (5, .int e)] 0 0 22 []
  refine j_aload_n h 0 rfl rfl dX11_feed_22 ?_
  refine j_get h iw_X11 0 rfl rfl 0 (by decide) tw_475 rfl dX11_feed_23 ?_
  refine j_iload_n h 2 rfl rfl dX11_feed_26 ?_
  refine j_callVv (np := 1) (isC := [1, 2]) (isR := [0]) (wc := [((u 0), .inr (9, [.ref (u 17), .int 4, .int 0, .int 0, .int 0, .long 0, .int 0])), ((u 17), .inl (kA 0, 1600, .inl q221))]) (wr := [(h0, .inr (11, [.ref (u 0), .ref (u 1), .ref (u 2), .ref (u 3), .ref (u 4), .ref (u 5), .ref (u 6), .ref (u 7), .ref (u 8), .ref (u 9), .ref (u 10), .ref (u 11), .ref (u 12), .ref (u 13), .ref (u 14), .ref (u 15), .ref (u 16), .int 0, .int 0]))]) (rest := []) (As := [.int b]) (q0 := 0) h (c_X9_put4 _ _ kA (u 0) (u 17) q221 b ) tw_541 tw_542 tw_543 tw_88 tw_544 (by decide +kernel) rfl ⟨Nat.le_of_ble_eq_true rfl, Nat.le_of_ble_eq_true rfl⟩ rfl rfl rfl (by decide) rfl rfl (by decide) (by decide) (Nat.le_of_ble_eq_true rfl) rfl ⟨Nat.le_of_ble_eq_true rfl, Nat.le_of_ble_eq_true rfl⟩ dX11_feed_27 ?_
  rintro q223 e224
  show J x [(h0, .inr (11, [.ref (u 0), .ref (u 1), .ref (u 2), .ref (u 3), .ref (u 4), .ref (u 5), .ref (u 6), .ref (u 7), .ref (u 8), .ref (u 9), .ref (u 10), .ref (u 11), .ref (u 12), .ref (u 13), .ref (u 14), .ref (u 15), .ref (u 16), .int 0, .int 0])), ((u 0), .inr (9, [.ref (u 17), .int 8, .int 0, .int 0, .int 0, .long 0, .int 0])), ((u 17), .inl (kA 0, 1600, .inl q223))] [(0, .ref h0), (1, .int a), (2, .int b), (3, .int c), (4, .int d), (5, .int e)] 0 0 30 []
  refine j_aload_n h 0 rfl rfl dX11_feed_30 ?_
  refine j_get h iw_X11 0 rfl rfl 0 (by decide) tw_475 rfl dX11_feed_31 ?_
  refine j_iload_n h 3 rfl rfl dX11_feed_34 ?_
  refine j_callVv (np := 1) (isC := [1, 2]) (isR := [0]) (wc := [((u 0), .inr (9, [.ref (u 17), .int 8, .int 0, .int 0, .int 0, .long 0, .int 0])), ((u 17), .inl (kA 0, 1600, .inl q223))]) (wr := [(h0, .inr (11, [.ref (u 0), .ref (u 1), .ref (u 2), .ref (u 3), .ref (u 4), .ref (u 5), .ref (u 6), .ref (u 7), .ref (u 8), .ref (u 9), .ref (u 10), .ref (u 11), .ref (u 12), .ref (u 13), .ref (u 14), .ref (u 15), .ref (u 16), .int 0, .int 0]))]) (rest := []) (As := [.int c]) (q0 := 0) h (c_X9_put8 _ _ kA (u 0) (u 17) q223 c ) tw_541 tw_542 tw_543 tw_88 tw_544 (by decide +kernel) rfl ⟨Nat.le_of_ble_eq_true rfl, Nat.le_of_ble_eq_true rfl⟩ rfl rfl rfl (by decide) rfl rfl (by decide) (by decide) (Nat.le_of_ble_eq_true rfl) rfl ⟨Nat.le_of_ble_eq_true rfl, Nat.le_of_ble_eq_true rfl⟩ dX11_feed_35 ?_
  rintro q225 e226
  show J x [(h0, .inr (11, [.ref (u 0), .ref (u 1), .ref (u 2), .ref (u 3), .ref (u 4), .ref (u 5), .ref (u 6), .ref (u 7), .ref (u 8), .ref (u 9), .ref (u 10), .ref (u 11), .ref (u 12), .ref (u 13), .ref (u 14), .ref (u 15), .ref (u 16), .int 0, .int 0])), ((u 0), .inr (9, [.ref (u 17), .int 12, .int 0, .int 0, .int 0, .long 0, .int 0])), ((u 17), .inl (kA 0, 1600, .inl q225))] [(0, .ref h0), (1, .int a), (2, .int b), (3, .int c), (4, .int d), (5, .int e)] 0 0 38 []
  refine j_aload_n h 0 rfl rfl dX11_feed_38 ?_
  refine j_get h iw_X11 0 rfl rfl 0 (by decide) tw_475 rfl dX11_feed_39 ?_
  refine j_iload h 4 rfl dX11_feed_42 ?_
  refine j_callVv (np := 1) (isC := [1, 2]) (isR := [0]) (wc := [((u 0), .inr (9, [.ref (u 17), .int 12, .int 0, .int 0, .int 0, .long 0, .int 0])), ((u 17), .inl (kA 0, 1600, .inl q225))]) (wr := [(h0, .inr (11, [.ref (u 0), .ref (u 1), .ref (u 2), .ref (u 3), .ref (u 4), .ref (u 5), .ref (u 6), .ref (u 7), .ref (u 8), .ref (u 9), .ref (u 10), .ref (u 11), .ref (u 12), .ref (u 13), .ref (u 14), .ref (u 15), .ref (u 16), .int 0, .int 0]))]) (rest := []) (As := [.int d]) (q0 := 0) h (c_X9_put12 _ _ kA (u 0) (u 17) q225 d ) tw_541 tw_542 tw_543 tw_88 tw_544 (by decide +kernel) rfl ⟨Nat.le_of_ble_eq_true rfl, Nat.le_of_ble_eq_true rfl⟩ rfl rfl rfl (by decide) rfl rfl (by decide) (by decide) (Nat.le_of_ble_eq_true rfl) rfl ⟨Nat.le_of_ble_eq_true rfl, Nat.le_of_ble_eq_true rfl⟩ dX11_feed_44 ?_
  rintro q227 e228
  show J x [(h0, .inr (11, [.ref (u 0), .ref (u 1), .ref (u 2), .ref (u 3), .ref (u 4), .ref (u 5), .ref (u 6), .ref (u 7), .ref (u 8), .ref (u 9), .ref (u 10), .ref (u 11), .ref (u 12), .ref (u 13), .ref (u 14), .ref (u 15), .ref (u 16), .int 0, .int 0])), ((u 0), .inr (9, [.ref (u 17), .int 16, .int 0, .int 0, .int 0, .long 0, .int 0])), ((u 17), .inl (kA 0, 1600, .inl q227))] [(0, .ref h0), (1, .int a), (2, .int b), (3, .int c), (4, .int d), (5, .int e)] 0 0 47 []
  refine j_aload_n h 0 rfl rfl dX11_feed_47 ?_
  refine j_get h iw_X11 0 rfl rfl 0 (by decide) tw_475 rfl dX11_feed_48 ?_
  refine j_iload h 5 rfl dX11_feed_51 ?_
  refine j_callVv (np := 1) (isC := [1, 2]) (isR := [0]) (wc := [((u 0), .inr (9, [.ref (u 17), .int 16, .int 0, .int 0, .int 0, .long 0, .int 0])), ((u 17), .inl (kA 0, 1600, .inl q227))]) (wr := [(h0, .inr (11, [.ref (u 0), .ref (u 1), .ref (u 2), .ref (u 3), .ref (u 4), .ref (u 5), .ref (u 6), .ref (u 7), .ref (u 8), .ref (u 9), .ref (u 10), .ref (u 11), .ref (u 12), .ref (u 13), .ref (u 14), .ref (u 15), .ref (u 16), .int 0, .int 0]))]) (rest := []) (As := [.int e]) (q0 := 0) h (c_X9_put16 _ _ kA (u 0) (u 17) q227 e ) tw_541 tw_542 tw_543 tw_88 tw_544 (by decide +kernel) rfl ⟨Nat.le_of_ble_eq_true rfl, Nat.le_of_ble_eq_true rfl⟩ rfl rfl rfl (by decide) rfl rfl (by decide) (by decide) (Nat.le_of_ble_eq_true rfl) rfl ⟨Nat.le_of_ble_eq_true rfl, Nat.le_of_ble_eq_true rfl⟩ dX11_feed_53 ?_
  rintro q229 e230
  show J x [(h0, .inr (11, [.ref (u 0), .ref (u 1), .ref (u 2), .ref (u 3), .ref (u 4), .ref (u 5), .ref (u 6), .ref (u 7), .ref (u 8), .ref (u 9), .ref (u 10), .ref (u 11), .ref (u 12), .ref (u 13), .ref (u 14), .ref (u 15), .ref (u 16), .int 0, .int 0])), ((u 0), .inr (9, [.ref (u 17), .int 20, .int 0, .int 0, .int 0, .long 0, .int 0])), ((u 17), .inl (kA 0, 1600, .inl q229))] [(0, .ref h0), (1, .int a), (2, .int b), (3, .int c), (4, .int d), (5, .int e)] 0 0 56 []
  refine j_aload_n h 0 rfl rfl dX11_feed_56 ?_
  refine j_get h iw_X11 0 rfl rfl 0 (by decide) tw_475 rfl dX11_feed_57 ?_
  refine j_get h iw_X9 1 rfl rfl 1 (by decide) tw_123 rfl dX11_feed_60 ?_
  exact j_iret h hq dX11_feed_63 () [] rfl rfl (by decide) (by first | rfl | simp only [↓reduceIte]) (Nat.le_of_ble_eq_true rfl) (Nat.le_of_ble_eq_true rfl)
set_option maxHeartbeats 4000000 in
set_option maxRecDepth 100000 in
theorem c_X11_end (l : Launch) (g : va_G) (kA : Nat → ClassId) (h0 : Nat) (u : Nat → Nat) (n : Int32)  : CtI l yX11_end cX11_end 2 (some .int) 3 0 0 g kA [.ref h0, .int n] [(h0, .inr (11, [.ref (u 0), .ref (u 1), .ref (u 2), .ref (u 3), .ref (u 4), .ref (u 5), .ref (u 6), .ref (u 7), .ref (u 8), .ref (u 9), .ref (u 10), .ref (u 11), .ref (u 12), .ref (u 13), .ref (u 14), .ref (u 15), .ref (u 16), .int 0, .int 0])), ((u 0), .inr (9, [.ref (u 17), .int 0, .int 0, .int 0, .int 0, .long 0, .int 0]))] (S := Unit) (fun (r : Int32) (_ : Unit) => r = vEnd n) (fun (_ : Unit) => []) := by
  refine nx_startI (by decide +kernel) (Nat.le_of_ble_eq_true rfl) ?_
  intro x hnm h hq
  have h : Ok x cX11_end RX11 kA (rmC 3 0 0) 2 := h
  show J x [(h0, .inr (11, [.ref (u 0), .ref (u 1), .ref (u 2), .ref (u 3), .ref (u 4), .ref (u 5), .ref (u 6), .ref (u 7), .ref (u 8), .ref (u 9), .ref (u 10), .ref (u 11), .ref (u 12), .ref (u 13), .ref (u 14), .ref (u 15), .ref (u 16), .int 0, .int 0])), ((u 0), .inr (9, [.ref (u 17), .int 0, .int 0, .int 0, .int 0, .long 0, .int 0]))] [(0, .ref h0), (1, .int n)] 0 0 0 []
  refine j_iload_n h 1 rfl rfl dX11_end_0 ?_
  refine j_if_lt h 15 dX11_end_1 (by decide) (fun z231 => ?_) (fun z231 => ?_)
  · refine j_iconst (v := (-1)) h (by decide) dX11_end_15 ?_
    exact j_iret h hq dX11_end_16 () [] rfl rfl (by decide) (by first | rfl | (unfold vEnd; simp only [z231, ↓reduceIte]; done) | (subst_vars; decide)) (Nat.le_of_ble_eq_true rfl) (Nat.le_of_ble_eq_true rfl)
  · refine j_iload_n h 1 rfl rfl dX11_end_4 ?_
    refine j_aload_n h 0 rfl rfl dX11_end_5 ?_
    refine j_get h iw_X11 0 rfl rfl 0 (by decide) tw_475 rfl dX11_end_6 ?_
    refine j_get h iw_X9 1 rfl rfl 1 (by decide) tw_123 rfl dX11_end_9 ?_
    refine j_icmp_le h 17 dX11_end_12 (by decide) (fun z232 => ?_) (fun z232 => ?_)
    · refine j_aload_n h 0 rfl rfl dX11_end_17 ?_
      refine j_get h iw_X11 0 rfl rfl 0 (by decide) tw_475 rfl dX11_end_18 ?_
      refine j_iload_n h 1 rfl rfl dX11_end_21 ?_
      refine j_put (ws' := [(h0, .inr (11, [.ref (u 0), .ref (u 1), .ref (u 2), .ref (u 3), .ref (u 4), .ref (u 5), .ref (u 6), .ref (u 7), .ref (u 8), .ref (u 9), .ref (u 10), .ref (u 11), .ref (u 12), .ref (u 13), .ref (u 14), .ref (u 15), .ref (u 16), .int 0, .int 0])), ((u 0), .inr (9, [.ref (u 17), .int n, .int 0, .int 0, .int 0, .long 0, .int 0]))]) h iw_X9 tyX9 tyX9_ok nmX9 1 rfl rfl 1 (by decide) tw_123 rfl rfl rfl (Nat.le_of_ble_eq_true rfl) dX11_end_22 rfl ?_
      refine j_iload_n h 1 rfl rfl dX11_end_25 ?_
      exact j_iret h hq dX11_end_26 () [] rfl rfl (by decide) (by first | rfl | (unfold vEnd; simp only [z231, z232, ↓reduceIte]; done) | (subst_vars; decide)) (Nat.le_of_ble_eq_true rfl) (Nat.le_of_ble_eq_true rfl)
    · refine j_iconst (v := (-1)) h (by decide) dX11_end_15 ?_
      exact j_iret h hq dX11_end_16 () [] rfl rfl (by decide) (by first | rfl | (unfold vEnd; simp only [z231, z232, ↓reduceIte]; done) | (subst_vars; decide)) (Nat.le_of_ble_eq_true rfl) (Nat.le_of_ble_eq_true rfl)
set_option maxHeartbeats 4000000 in
set_option maxRecDepth 100000 in
theorem c_X11_fault (l : Launch) (g : va_G) (kA : Nat → ClassId) (h0 : Nat) (u : Nat → Nat) (w : Int32)  : CtI l yX11_fault cX11_fault 2 (some .int) 3 0 0 g kA [.ref h0, .int w] [(h0, .inr (11, [.ref (u 0), .ref (u 1), .ref (u 2), .ref (u 3), .ref (u 4), .ref (u 5), .ref (u 6), .ref (u 7), .ref (u 8), .ref (u 9), .ref (u 10), .ref (u 11), .ref (u 12), .ref (u 13), .ref (u 14), .ref (u 15), .ref (u 16), .int 0, .int 0])), ((u 1), .inr (6, [.int 0, .int (-1), .int 0]))] (S := Unit) (fun (r : Int32) (_ : Unit) => r = vFault w) (fun (_ : Unit) => []) := by
  refine nx_startI (by decide +kernel) (Nat.le_of_ble_eq_true rfl) ?_
  intro x hnm h hq
  have h : Ok x cX11_fault RX11 kA (rmC 3 0 0) 2 := h
  show J x [(h0, .inr (11, [.ref (u 0), .ref (u 1), .ref (u 2), .ref (u 3), .ref (u 4), .ref (u 5), .ref (u 6), .ref (u 7), .ref (u 8), .ref (u 9), .ref (u 10), .ref (u 11), .ref (u 12), .ref (u 13), .ref (u 14), .ref (u 15), .ref (u 16), .int 0, .int 0])), ((u 1), .inr (6, [.int 0, .int (-1), .int 0]))] [(0, .ref h0), (1, .int w)] 0 0 0 []
  refine j_iload_n h 1 rfl rfl dX11_fault_0 ?_
  refine j_if_ne h 12 dX11_fault_1 (by decide) (fun z233 => ?_) (fun z233 => ?_)
  · refine j_iload_n h 1 rfl rfl dX11_fault_12 ?_
    refine j_iconst (v := 1) h (by decide) dX11_fault_13 ?_
    refine j_icmp_ne h 27 dX11_fault_14 (by decide) (fun z234 => ?_) (fun z234 => ?_)
    · refine j_iconst (v := (-1)) h (by decide) dX11_fault_27 ?_
      exact j_iret h hq dX11_fault_28 () [] rfl rfl (by decide) (by first | rfl | (unfold vFault; simp only [z233, z234, ↓reduceIte]; done) | (subst_vars; decide)) (Nat.le_of_ble_eq_true rfl) (Nat.le_of_ble_eq_true rfl)
    · refine j_aload_n h 0 rfl rfl dX11_fault_17 ?_
      refine j_get h iw_X11 0 rfl rfl 1 (by decide) tw_476 rfl dX11_fault_18 ?_
      refine j_get h iw_X6 1 rfl rfl 1 (by decide) tw_158 rfl dX11_fault_21 ?_
      refine j_goto h 28 dX11_fault_24 (by decide) ?_
      exact j_iret h hq dX11_fault_28 () [] rfl rfl (by decide) (by first | rfl | (unfold vFault; simp only [z233, z234, ↓reduceIte]; done) | (subst_vars; decide)) (Nat.le_of_ble_eq_true rfl) (Nat.le_of_ble_eq_true rfl)
  · refine j_aload_n h 0 rfl rfl dX11_fault_4 ?_
    refine j_get h iw_X11 0 rfl rfl 1 (by decide) tw_476 rfl dX11_fault_5 ?_
    refine j_get h iw_X6 1 rfl rfl 0 (by decide) tw_156 rfl dX11_fault_8 ?_
    exact j_iret h hq dX11_fault_11 () [] rfl rfl (by decide) (by first | rfl | (unfold vFault; simp only [z233, ↓reduceIte]; done) | (subst_vars; decide)) (Nat.le_of_ble_eq_true rfl) (Nat.le_of_ble_eq_true rfl)
set_option maxHeartbeats 4000000 in
set_option maxRecDepth 100000 in
theorem c_X2_walkOn (l : Launch) (g : va_G) (kA : Nat → ClassId) (h0 : Nat) (a0 : Nat) (a1 : Nat) (s : Nat) (c0 : Nat) (c1 : Nat) (c2 : Nat) (c3 : Nat) (c4 : Nat) (c5 : Nat) (c6 : Nat) (c7 : Nat) (c8 : Nat) (c9 : Nat) (c10 : Nat) (c11 : Nat) (e : Int32)  : CtI l yX2_walkOn cX2_walkOn 4 (some .boolean) 2 0 0 g kA [.ref h0, .ref s, .int e] [(h0, .inr (2, [.ref a0, .ref a1, .int 0, .int 0, .int 0, .int 0])), (s, .inr (5, [.ref c0, .ref c1, .ref c2, .ref c3, .ref c4, .ref c5, .ref c6, .ref c7, .ref c8, .ref c9, .ref c10, .ref c11, .int 0, .int 0, .int 0]))] (S := Unit) (fun (r : Int32) (_ : Unit) => r = 0) (fun (_ : Unit) => [(h0, .inr (2, [.ref a0, .ref a1, .int 0, .int 0, .int 0, .int 0])), (s, .inr (5, [.ref c0, .ref c1, .ref c2, .ref c3, .ref c4, .ref c5, .ref c6, .ref c7, .ref c8, .ref c9, .ref c10, .ref c11, .int 0, .int 0, .int 0]))]) := by
  refine nx_startI (by decide +kernel) (Nat.le_of_ble_eq_true rfl) ?_
  intro x hnm h hq
  have h : Ok x cX2_walkOn RX2 kA (rmC 2 0 0) 4 := h
  show J x [(h0, .inr (2, [.ref a0, .ref a1, .int 0, .int 0, .int 0, .int 0])), (s, .inr (5, [.ref c0, .ref c1, .ref c2, .ref c3, .ref c4, .ref c5, .ref c6, .ref c7, .ref c8, .ref c9, .ref c10, .ref c11, .int 0, .int 0, .int 0]))] [(0, .ref h0), (1, .ref s), (2, .int e)] 0 0 0 []
  refine j_aload_n h 1 rfl rfl dX2_walkOn_0 ?_
  refine j_iload_n h 2 rfl rfl dX2_walkOn_1 ?_
  refine j_callVi (np := 1) (isC := [1]) (isR := [0]) (wc := [(s, .inr (5, [.ref c0, .ref c1, .ref c2, .ref c3, .ref c4, .ref c5, .ref c6, .ref c7, .ref c8, .ref c9, .ref c10, .ref c11, .int 0, .int 0, .int 0]))]) (wr := [(h0, .inr (2, [.ref a0, .ref a1, .int 0, .int 0, .int 0, .int 0]))]) (rest := []) (As := [.int e]) (q0 := 0) h (c_X5_hasStep _ _ kA s c0 c1 c2 c3 c4 c5 c6 c7 c8 c9 c10 c11 e ) tw_758 tw_713 tw_714 tw_90 tw_715 (by decide +kernel) rfl ⟨Nat.le_of_ble_eq_true rfl, Nat.le_of_ble_eq_true rfl⟩ rfl rfl rfl (by decide) rfl rfl (by decide) (by decide) (Nat.le_of_ble_eq_true rfl) rfl ⟨Nat.le_of_ble_eq_true rfl, Nat.le_of_ble_eq_true rfl⟩ dX2_walkOn_2 ?_
  rintro r _ e235
  subst e235
  show J x [(h0, .inr (2, [.ref a0, .ref a1, .int 0, .int 0, .int 0, .int 0])), (s, .inr (5, [.ref c0, .ref c1, .ref c2, .ref c3, .ref c4, .ref c5, .ref c6, .ref c7, .ref c8, .ref c9, .ref c10, .ref c11, .int 0, .int 0, .int 0]))] [(0, .ref h0), (1, .ref s), (2, .int e)] 0 0 5 [.int 0]
  refine j_if_eq h 20 dX2_walkOn_5 (by decide) (fun _ => ?_) (fun q => absurd (by decide) q)
  refine j_iconst (v := 0) h (by decide) dX2_walkOn_20 ?_
  exact j_zret h hq rfl dX2_walkOn_21 () [0, 1] rfl rfl (by decide) (by first | rfl | simp only [↓reduceIte]) (Nat.le_of_ble_eq_true rfl) (Nat.le_of_ble_eq_true rfl)
set_option maxHeartbeats 4000000 in
set_option maxRecDepth 100000 in
theorem c_X11_step (l : Launch) (g : va_G) (kA : Nat → ClassId) (h0 : Nat) (u : Nat → Nat) (e : Int32)  : CtI l yX11_step cX11_step 2 (some .int) 3 0 0 g kA [.ref h0, .int e] [(h0, .inr (11, [.ref (u 0), .ref (u 1), .ref (u 2), .ref (u 3), .ref (u 4), .ref (u 5), .ref (u 6), .ref (u 7), .ref (u 8), .ref (u 9), .ref (u 10), .ref (u 11), .ref (u 12), .ref (u 13), .ref (u 14), .ref (u 15), .ref (u 16), .int 0, .int 0])), ((u 4), .inr (2, [.ref (u 42), .ref (u 43), .int 0, .int 0, .int 0, .int 0])), ((u 2), .inr (5, [.ref (u 18), .ref (u 19), .ref (u 20), .ref (u 21), .ref (u 22), .ref (u 23), .ref (u 24), .ref (u 25), .ref (u 26), .ref (u 27), .ref (u 28), .ref (u 29), .int 0, .int 0, .int 0]))] (S := Unit) (fun (r : Int32) (_ : Unit) => r = (-1)) (fun (_ : Unit) => []) := by
  refine nx_startI (by decide +kernel) (Nat.le_of_ble_eq_true rfl) ?_
  intro x hnm h hq
  have h : Ok x cX11_step RX11 kA (rmC 3 0 0) 2 := h
  show J x [(h0, .inr (11, [.ref (u 0), .ref (u 1), .ref (u 2), .ref (u 3), .ref (u 4), .ref (u 5), .ref (u 6), .ref (u 7), .ref (u 8), .ref (u 9), .ref (u 10), .ref (u 11), .ref (u 12), .ref (u 13), .ref (u 14), .ref (u 15), .ref (u 16), .int 0, .int 0])), ((u 4), .inr (2, [.ref (u 42), .ref (u 43), .int 0, .int 0, .int 0, .int 0])), ((u 2), .inr (5, [.ref (u 18), .ref (u 19), .ref (u 20), .ref (u 21), .ref (u 22), .ref (u 23), .ref (u 24), .ref (u 25), .ref (u 26), .ref (u 27), .ref (u 28), .ref (u 29), .int 0, .int 0, .int 0]))] [(0, .ref h0), (1, .int e)] 0 0 0 []
  refine j_aload_n h 0 rfl rfl dX11_step_0 ?_
  refine j_get h iw_X11 0 rfl rfl 4 (by decide) tw_479 rfl dX11_step_1 ?_
  refine j_aload_n h 0 rfl rfl dX11_step_4 ?_
  refine j_get h iw_X11 0 rfl rfl 2 (by decide) tw_477 rfl dX11_step_5 ?_
  refine j_iload_n h 1 rfl rfl dX11_step_8 ?_
  refine j_callVi (np := 2) (isC := [1, 2]) (isR := [0]) (wc := [((u 4), .inr (2, [.ref (u 42), .ref (u 43), .int 0, .int 0, .int 0, .int 0])), ((u 2), .inr (5, [.ref (u 18), .ref (u 19), .ref (u 20), .ref (u 21), .ref (u 22), .ref (u 23), .ref (u 24), .ref (u 25), .ref (u 26), .ref (u 27), .ref (u 28), .ref (u 29), .int 0, .int 0, .int 0]))]) (wr := [(h0, .inr (11, [.ref (u 0), .ref (u 1), .ref (u 2), .ref (u 3), .ref (u 4), .ref (u 5), .ref (u 6), .ref (u 7), .ref (u 8), .ref (u 9), .ref (u 10), .ref (u 11), .ref (u 12), .ref (u 13), .ref (u 14), .ref (u 15), .ref (u 16), .int 0, .int 0]))]) (rest := []) (As := [.ref (u 2), .int e]) (q0 := 0) h (c_X2_walkOn _ _ kA (u 4) (u 42) (u 43) (u 2) (u 18) (u 19) (u 20) (u 21) (u 22) (u 23) (u 24) (u 25) (u 26) (u 27) (u 28) (u 29) e ) tw_754 tw_755 tw_756 tw_91 tw_757 (by decide +kernel) rfl ⟨Nat.le_of_ble_eq_true rfl, Nat.le_of_ble_eq_true rfl⟩ rfl rfl rfl (by decide) rfl rfl (by decide) (by decide) (Nat.le_of_ble_eq_true rfl) rfl ⟨Nat.le_of_ble_eq_true rfl, Nat.le_of_ble_eq_true rfl⟩ dX11_step_9 ?_
  rintro r _ e236
  subst e236
  show J x [(h0, .inr (11, [.ref (u 0), .ref (u 1), .ref (u 2), .ref (u 3), .ref (u 4), .ref (u 5), .ref (u 6), .ref (u 7), .ref (u 8), .ref (u 9), .ref (u 10), .ref (u 11), .ref (u 12), .ref (u 13), .ref (u 14), .ref (u 15), .ref (u 16), .int 0, .int 0])), ((u 4), .inr (2, [.ref (u 42), .ref (u 43), .int 0, .int 0, .int 0, .int 0])), ((u 2), .inr (5, [.ref (u 18), .ref (u 19), .ref (u 20), .ref (u 21), .ref (u 22), .ref (u 23), .ref (u 24), .ref (u 25), .ref (u 26), .ref (u 27), .ref (u 28), .ref (u 29), .int 0, .int 0, .int 0]))] [(0, .ref h0), (1, .int e)] 0 0 12 [.int 0]
  refine j_if_eq h 25 dX11_step_12 (by decide) (fun _ => ?_) (fun q => absurd (by decide) q)
  refine j_iconst (v := (-1)) h (by decide) dX11_step_25 ?_
  exact j_iret h hq dX11_step_26 () [] rfl rfl (by decide) (by first | rfl | simp only [↓reduceIte]) (Nat.le_of_ble_eq_true rfl) (Nat.le_of_ble_eq_true rfl)
set_option maxHeartbeats 4000000 in
set_option maxRecDepth 100000 in
theorem c_X2_walkAll (l : Launch) (g : va_G) (kA : Nat → ClassId) (h0 : Nat) (a0 : Nat) (a1 : Nat) (s : Nat) (t : Nat) (t0 : Nat)  : CtI l yX2_walkAll cX2_walkAll 7 (some .boolean) 2 0 0 g kA [.ref h0, .ref s, .ref t] [(h0, .inr (2, [.ref a0, .ref a1, .int 0, .int 0, .int 0, .int 0])), (t, .inr (10, [.ref t0, .int 0, .int 0, .int 0]))] (S := Unit) (fun (r : Int32) (_ : Unit) => r = 1) (fun (_ : Unit) => [(h0, .inr (2, [.ref a0, .ref a1, .int 0, .int 0, .int 0, .int 0])), (t, .inr (10, [.ref t0, .int 0, .int 0, .int 0]))]) := by
  refine nx_startI (by decide +kernel) (Nat.le_of_ble_eq_true rfl) ?_
  intro x hnm h hq
  have h : Ok x cX2_walkAll RX2 kA (rmC 2 0 0) 7 := h
  show J x [(h0, .inr (2, [.ref a0, .ref a1, .int 0, .int 0, .int 0, .int 0])), (t, .inr (10, [.ref t0, .int 0, .int 0, .int 0]))] [(0, .ref h0), (1, .ref s), (2, .ref t)] 0 0 0 []
  refine j_aload_n h 0 rfl rfl dX2_walkAll_0 ?_
  refine j_get h iw_X2 0 rfl rfl 2 (by decide) tw_274 rfl dX2_walkAll_1 ?_
  refine j_istore_n (lv' := [(3, .int 0), (0, .ref h0), (1, .ref s), (2, .ref t)]) h dX2_walkAll_4 rfl (by decide) rfl ?_
  refine j_aload_n h 1 rfl rfl dX2_walkAll_5 ?_
  refine j_get h iw_X2 0 rfl rfl 3 (by decide) tw_276 rfl dX2_walkAll_6 ?_
  refine j_istore (lv' := [(4, .int 0), (3, .int 0), (0, .ref h0), (1, .ref s), (2, .ref t)]) h dX2_walkAll_9 (by decide) rfl ?_
  refine j_aload_n h 2 rfl rfl dX2_walkAll_11 ?_
  refine j_get h iw_X2 0 rfl rfl 4 (by decide) tw_278 rfl dX2_walkAll_12 ?_
  refine j_istore (lv' := [(5, .int 0), (4, .int 0), (3, .int 0), (0, .ref h0), (1, .ref s), (2, .ref t)]) h dX2_walkAll_15 (by decide) rfl ?_
  refine j_iconst (v := 0) h (by decide) dX2_walkAll_17 ?_
  refine j_istore (lv' := [(6, .int 0), (5, .int 0), (4, .int 0), (3, .int 0), (0, .ref h0), (1, .ref s), (2, .ref t)]) h dX2_walkAll_18 (by decide) rfl ?_
  refine j_iload h 0 rfl dX2_walkAll_20 ?_
  refine j_aload_n h 6 rfl rfl dX2_walkAll_22 ?_
  refine j_get h iw_X10 1 rfl rfl 1 (by decide) tw_307 rfl dX2_walkAll_23 ?_
  refine j_icmp_ge h 69 dX2_walkAll_26 (by decide) (fun _ => ?_) (fun q => absurd (by decide) q)
  refine j_iconst (v := 1) h (by decide) dX2_walkAll_69 ?_
  exact j_zret h hq rfl dX2_walkAll_70 () [0, 1] rfl rfl (by decide) (by first | rfl | simp only [↓reduceIte]) (Nat.le_of_ble_eq_true rfl) (Nat.le_of_ble_eq_true rfl)
set_option maxHeartbeats 4000000 in
set_option maxRecDepth 100000 in
theorem c_X11_say (l : Launch) (g : va_G) (kA : Nat → ClassId) (h0 : Nat) (u : Nat → Nat) (t : Int32)  : CtI l yX11_say cX11_say 2 (some .int) 3 0 0 g kA [.ref h0, .int t] [(h0, .inr (11, [.ref (u 0), .ref (u 1), .ref (u 2), .ref (u 3), .ref (u 4), .ref (u 5), .ref (u 6), .ref (u 7), .ref (u 8), .ref (u 9), .ref (u 10), .ref (u 11), .ref (u 12), .ref (u 13), .ref (u 14), .ref (u 15), .ref (u 16), .int 0, .int 0])), ((u 6), .inl (kA 5, 2, .inr (.inr (.inr (.inr (va_up (va_up (fun _ => none) 0 (some (u 53))) 1 (some (u 54)))))))), ((u 53), .inr (10, [.ref (u 55), .int 0, .int 0, .int 0])), ((u 54), .inr (10, [.ref (u 56), .int 0, .int 0, .int 0])), ((u 4), .inr (2, [.ref (u 42), .ref (u 43), .int 0, .int 0, .int 0, .int 0]))] (S := Unit) (fun (r : Int32) (_ : Unit) => r = vTxt t) (fun (_ : Unit) => []) := by
  refine nx_startI (by decide +kernel) (Nat.le_of_ble_eq_true rfl) ?_
  intro x hnm h hq
  have h : Ok x cX11_say RX11 kA (rmC 3 0 0) 2 := h
  show J x [(h0, .inr (11, [.ref (u 0), .ref (u 1), .ref (u 2), .ref (u 3), .ref (u 4), .ref (u 5), .ref (u 6), .ref (u 7), .ref (u 8), .ref (u 9), .ref (u 10), .ref (u 11), .ref (u 12), .ref (u 13), .ref (u 14), .ref (u 15), .ref (u 16), .int 0, .int 0])), ((u 6), .inl (kA 5, 2, .inr (.inr (.inr (.inr (va_up (va_up (fun _ => none) 0 (some (u 53))) 1 (some (u 54)))))))), ((u 53), .inr (10, [.ref (u 55), .int 0, .int 0, .int 0])), ((u 54), .inr (10, [.ref (u 56), .int 0, .int 0, .int 0])), ((u 4), .inr (2, [.ref (u 42), .ref (u 43), .int 0, .int 0, .int 0, .int 0]))] [(0, .ref h0), (1, .int t)] 0 0 0 []
  rcases bTx_cases t with rfl | rfl | hT
  · refine j_iload_n h 1 rfl rfl dX11_say_0 ?_
    refine j_callSi (np := 1) (isC := []) (isR := [0, 1, 2, 3, 4]) (wc := []) (wr := [(h0, .inr (11, [.ref (u 0), .ref (u 1), .ref (u 2), .ref (u 3), .ref (u 4), .ref (u 5), .ref (u 6), .ref (u 7), .ref (u 8), .ref (u 9), .ref (u 10), .ref (u 11), .ref (u 12), .ref (u 13), .ref (u 14), .ref (u 15), .ref (u 16), .int 0, .int 0])), ((u 6), .inl (kA 5, 2, .inr (.inr (.inr (.inr (va_up (va_up (fun _ => none) 0 (some (u 53))) 1 (some (u 54)))))))), ((u 53), .inr (10, [.ref (u 55), .int 0, .int 0, .int 0])), ((u 54), .inr (10, [.ref (u 56), .int 0, .int 0, .int 0])), ((u 4), .inr (2, [.ref (u 42), .ref (u 43), .int 0, .int 0, .int 0, .int 0]))]) (rest := []) (As := [.int 0]) h (c_X11_isText _ _ kA 0 ) tw_764 tw_765 tw_87 tw_766 (by decide +kernel) rfl ⟨Nat.le_of_ble_eq_true rfl, Nat.le_of_ble_eq_true rfl⟩ rfl (by decide) rfl rfl (by decide) (by decide) (Nat.le_of_ble_eq_true rfl) rfl ⟨Nat.le_of_ble_eq_true rfl, Nat.le_of_ble_eq_true rfl⟩ dX11_say_1 ?_
    rintro r _ e237
    subst e237
    show J x [(h0, .inr (11, [.ref (u 0), .ref (u 1), .ref (u 2), .ref (u 3), .ref (u 4), .ref (u 5), .ref (u 6), .ref (u 7), .ref (u 8), .ref (u 9), .ref (u 10), .ref (u 11), .ref (u 12), .ref (u 13), .ref (u 14), .ref (u 15), .ref (u 16), .int 0, .int 0])), ((u 6), .inl (kA 5, 2, .inr (.inr (.inr (.inr (va_up (va_up (fun _ => none) 0 (some (u 53))) 1 (some (u 54)))))))), ((u 53), .inr (10, [.ref (u 55), .int 0, .int 0, .int 0])), ((u 54), .inr (10, [.ref (u 56), .int 0, .int 0, .int 0])), ((u 4), .inr (2, [.ref (u 42), .ref (u 43), .int 0, .int 0, .int 0, .int 0]))] [(0, .ref h0), (1, .int 0)] 0 0 4 [.int (bTx 0)]
    refine j_top (b := 1) (by decide) ?_
    refine j_if_ne h 9 dX11_say_4 (by decide) (fun _ => ?_) (fun q => absurd q (by decide))
    refine j_aload_n h 0 rfl rfl dX11_say_9 ?_
    refine j_get h iw_X11 0 rfl rfl 4 (by decide) tw_479 rfl dX11_say_10 ?_
    refine j_aload_n h 0 rfl rfl dX11_say_13 ?_
    refine j_get h iw_X11 0 rfl rfl 2 (by decide) tw_477 rfl dX11_say_14 ?_
    refine j_aload_n h 0 rfl rfl dX11_say_17 ?_
    refine j_get h iw_X11 0 rfl rfl 6 (by decide) tw_481 rfl dX11_say_18 ?_
    refine j_iload_n h 1 rfl rfl dX11_say_21 ?_
    refine j_aldO h 1 5 rfl rfl 0 (by decide) (by decide) (by decide) (rfl) dX11_say_22 ?_
    refine j_callVi (np := 2) (isC := [4, 2]) (isR := [0, 1, 3]) (wc := [((u 4), .inr (2, [.ref (u 42), .ref (u 43), .int 0, .int 0, .int 0, .int 0])), ((u 53), .inr (10, [.ref (u 55), .int 0, .int 0, .int 0]))]) (wr := [(h0, .inr (11, [.ref (u 0), .ref (u 1), .ref (u 2), .ref (u 3), .ref (u 4), .ref (u 5), .ref (u 6), .ref (u 7), .ref (u 8), .ref (u 9), .ref (u 10), .ref (u 11), .ref (u 12), .ref (u 13), .ref (u 14), .ref (u 15), .ref (u 16), .int 0, .int 0])), ((u 6), .inl (kA 5, 2, .inr (.inr (.inr (.inr (va_up (va_up (fun _ => none) 0 (some (u 53))) 1 (some (u 54)))))))), ((u 54), .inr (10, [.ref (u 56), .int 0, .int 0, .int 0]))]) (rest := []) (As := [.ref (u 2), .ref (u 53)]) (q0 := 0) h (c_X2_walkAll _ _ kA (u 4) (u 42) (u 43) (u 2) (u 53) (u 55) ) tw_767 tw_768 tw_769 tw_91 tw_770 (by decide +kernel) rfl ⟨Nat.le_of_ble_eq_true rfl, Nat.le_of_ble_eq_true rfl⟩ rfl rfl rfl (by decide) rfl rfl (by decide) (by decide) (Nat.le_of_ble_eq_true rfl) rfl ⟨Nat.le_of_ble_eq_true rfl, Nat.le_of_ble_eq_true rfl⟩ dX11_say_23 ?_
    rintro r _ e238
    subst e238
    show J x [(h0, .inr (11, [.ref (u 0), .ref (u 1), .ref (u 2), .ref (u 3), .ref (u 4), .ref (u 5), .ref (u 6), .ref (u 7), .ref (u 8), .ref (u 9), .ref (u 10), .ref (u 11), .ref (u 12), .ref (u 13), .ref (u 14), .ref (u 15), .ref (u 16), .int 0, .int 0])), ((u 6), .inl (kA 5, 2, .inr (.inr (.inr (.inr (va_up (va_up (fun _ => none) 0 (some (u 53))) 1 (some (u 54)))))))), ((u 54), .inr (10, [.ref (u 56), .int 0, .int 0, .int 0])), ((u 4), .inr (2, [.ref (u 42), .ref (u 43), .int 0, .int 0, .int 0, .int 0])), ((u 53), .inr (10, [.ref (u 55), .int 0, .int 0, .int 0]))] [(0, .ref h0), (1, .int 0)] 0 0 26 [.int 1]
    refine j_if_eq h 39 dX11_say_26 (by decide) (fun q => absurd q (by decide)) (fun _ => ?_)
    refine j_aload_n h 0 rfl rfl dX11_say_29 ?_
    refine j_get h iw_X11 0 rfl rfl 4 (by decide) tw_479 rfl dX11_say_30 ?_
    refine j_get h iw_X2 3 rfl rfl 3 (by decide) tw_277 rfl dX11_say_33 ?_
    refine j_goto h 40 dX11_say_36 (by decide) ?_
    exact j_iret h hq dX11_say_40 () [] rfl rfl (by decide) (by decide) (Nat.le_of_ble_eq_true rfl) (Nat.le_of_ble_eq_true rfl)
  · refine j_iload_n h 1 rfl rfl dX11_say_0 ?_
    refine j_callSi (np := 1) (isC := []) (isR := [0, 1, 2, 3, 4]) (wc := []) (wr := [(h0, .inr (11, [.ref (u 0), .ref (u 1), .ref (u 2), .ref (u 3), .ref (u 4), .ref (u 5), .ref (u 6), .ref (u 7), .ref (u 8), .ref (u 9), .ref (u 10), .ref (u 11), .ref (u 12), .ref (u 13), .ref (u 14), .ref (u 15), .ref (u 16), .int 0, .int 0])), ((u 6), .inl (kA 5, 2, .inr (.inr (.inr (.inr (va_up (va_up (fun _ => none) 0 (some (u 53))) 1 (some (u 54)))))))), ((u 53), .inr (10, [.ref (u 55), .int 0, .int 0, .int 0])), ((u 54), .inr (10, [.ref (u 56), .int 0, .int 0, .int 0])), ((u 4), .inr (2, [.ref (u 42), .ref (u 43), .int 0, .int 0, .int 0, .int 0]))]) (rest := []) (As := [.int 1]) h (c_X11_isText _ _ kA 1 ) tw_764 tw_765 tw_87 tw_766 (by decide +kernel) rfl ⟨Nat.le_of_ble_eq_true rfl, Nat.le_of_ble_eq_true rfl⟩ rfl (by decide) rfl rfl (by decide) (by decide) (Nat.le_of_ble_eq_true rfl) rfl ⟨Nat.le_of_ble_eq_true rfl, Nat.le_of_ble_eq_true rfl⟩ dX11_say_1 ?_
    rintro r _ e239
    subst e239
    show J x [(h0, .inr (11, [.ref (u 0), .ref (u 1), .ref (u 2), .ref (u 3), .ref (u 4), .ref (u 5), .ref (u 6), .ref (u 7), .ref (u 8), .ref (u 9), .ref (u 10), .ref (u 11), .ref (u 12), .ref (u 13), .ref (u 14), .ref (u 15), .ref (u 16), .int 0, .int 0])), ((u 6), .inl (kA 5, 2, .inr (.inr (.inr (.inr (va_up (va_up (fun _ => none) 0 (some (u 53))) 1 (some (u 54)))))))), ((u 53), .inr (10, [.ref (u 55), .int 0, .int 0, .int 0])), ((u 54), .inr (10, [.ref (u 56), .int 0, .int 0, .int 0])), ((u 4), .inr (2, [.ref (u 42), .ref (u 43), .int 0, .int 0, .int 0, .int 0]))] [(0, .ref h0), (1, .int 1)] 0 0 4 [.int (bTx 1)]
    refine j_top (b := 1) (by decide) ?_
    refine j_if_ne h 9 dX11_say_4 (by decide) (fun _ => ?_) (fun q => absurd q (by decide))
    refine j_aload_n h 0 rfl rfl dX11_say_9 ?_
    refine j_get h iw_X11 0 rfl rfl 4 (by decide) tw_479 rfl dX11_say_10 ?_
    refine j_aload_n h 0 rfl rfl dX11_say_13 ?_
    refine j_get h iw_X11 0 rfl rfl 2 (by decide) tw_477 rfl dX11_say_14 ?_
    refine j_aload_n h 0 rfl rfl dX11_say_17 ?_
    refine j_get h iw_X11 0 rfl rfl 6 (by decide) tw_481 rfl dX11_say_18 ?_
    refine j_iload_n h 1 rfl rfl dX11_say_21 ?_
    refine j_aldO h 1 5 rfl rfl 1 (by decide) (by decide) (by decide) (rfl) dX11_say_22 ?_
    refine j_callVi (np := 2) (isC := [4, 3]) (isR := [0, 1, 2]) (wc := [((u 4), .inr (2, [.ref (u 42), .ref (u 43), .int 0, .int 0, .int 0, .int 0])), ((u 54), .inr (10, [.ref (u 56), .int 0, .int 0, .int 0]))]) (wr := [(h0, .inr (11, [.ref (u 0), .ref (u 1), .ref (u 2), .ref (u 3), .ref (u 4), .ref (u 5), .ref (u 6), .ref (u 7), .ref (u 8), .ref (u 9), .ref (u 10), .ref (u 11), .ref (u 12), .ref (u 13), .ref (u 14), .ref (u 15), .ref (u 16), .int 0, .int 0])), ((u 6), .inl (kA 5, 2, .inr (.inr (.inr (.inr (va_up (va_up (fun _ => none) 0 (some (u 53))) 1 (some (u 54)))))))), ((u 53), .inr (10, [.ref (u 55), .int 0, .int 0, .int 0]))]) (rest := []) (As := [.ref (u 2), .ref (u 54)]) (q0 := 0) h (c_X2_walkAll _ _ kA (u 4) (u 42) (u 43) (u 2) (u 54) (u 56) ) tw_767 tw_768 tw_769 tw_91 tw_770 (by decide +kernel) rfl ⟨Nat.le_of_ble_eq_true rfl, Nat.le_of_ble_eq_true rfl⟩ rfl rfl rfl (by decide) rfl rfl (by decide) (by decide) (Nat.le_of_ble_eq_true rfl) rfl ⟨Nat.le_of_ble_eq_true rfl, Nat.le_of_ble_eq_true rfl⟩ dX11_say_23 ?_
    rintro r _ e240
    subst e240
    show J x [(h0, .inr (11, [.ref (u 0), .ref (u 1), .ref (u 2), .ref (u 3), .ref (u 4), .ref (u 5), .ref (u 6), .ref (u 7), .ref (u 8), .ref (u 9), .ref (u 10), .ref (u 11), .ref (u 12), .ref (u 13), .ref (u 14), .ref (u 15), .ref (u 16), .int 0, .int 0])), ((u 6), .inl (kA 5, 2, .inr (.inr (.inr (.inr (va_up (va_up (fun _ => none) 0 (some (u 53))) 1 (some (u 54)))))))), ((u 53), .inr (10, [.ref (u 55), .int 0, .int 0, .int 0])), ((u 4), .inr (2, [.ref (u 42), .ref (u 43), .int 0, .int 0, .int 0, .int 0])), ((u 54), .inr (10, [.ref (u 56), .int 0, .int 0, .int 0]))] [(0, .ref h0), (1, .int 1)] 0 0 26 [.int 1]
    refine j_if_eq h 39 dX11_say_26 (by decide) (fun q => absurd q (by decide)) (fun _ => ?_)
    refine j_aload_n h 0 rfl rfl dX11_say_29 ?_
    refine j_get h iw_X11 0 rfl rfl 4 (by decide) tw_479 rfl dX11_say_30 ?_
    refine j_get h iw_X2 3 rfl rfl 3 (by decide) tw_277 rfl dX11_say_33 ?_
    refine j_goto h 40 dX11_say_36 (by decide) ?_
    exact j_iret h hq dX11_say_40 () [] rfl rfl (by decide) (by decide) (Nat.le_of_ble_eq_true rfl) (Nat.le_of_ble_eq_true rfl)
  · refine j_iload_n h 1 rfl rfl dX11_say_0 ?_
    refine j_callSi (np := 1) (isC := []) (isR := [0, 1, 2, 3, 4]) (wc := []) (wr := [(h0, .inr (11, [.ref (u 0), .ref (u 1), .ref (u 2), .ref (u 3), .ref (u 4), .ref (u 5), .ref (u 6), .ref (u 7), .ref (u 8), .ref (u 9), .ref (u 10), .ref (u 11), .ref (u 12), .ref (u 13), .ref (u 14), .ref (u 15), .ref (u 16), .int 0, .int 0])), ((u 6), .inl (kA 5, 2, .inr (.inr (.inr (.inr (va_up (va_up (fun _ => none) 0 (some (u 53))) 1 (some (u 54)))))))), ((u 53), .inr (10, [.ref (u 55), .int 0, .int 0, .int 0])), ((u 54), .inr (10, [.ref (u 56), .int 0, .int 0, .int 0])), ((u 4), .inr (2, [.ref (u 42), .ref (u 43), .int 0, .int 0, .int 0, .int 0]))]) (rest := []) (As := [.int t]) h (c_X11_isText _ _ kA t ) tw_764 tw_765 tw_87 tw_766 (by decide +kernel) rfl ⟨Nat.le_of_ble_eq_true rfl, Nat.le_of_ble_eq_true rfl⟩ rfl (by decide) rfl rfl (by decide) (by decide) (Nat.le_of_ble_eq_true rfl) rfl ⟨Nat.le_of_ble_eq_true rfl, Nat.le_of_ble_eq_true rfl⟩ dX11_say_1 ?_
    rintro r _ e241
    subst e241
    show J x [(h0, .inr (11, [.ref (u 0), .ref (u 1), .ref (u 2), .ref (u 3), .ref (u 4), .ref (u 5), .ref (u 6), .ref (u 7), .ref (u 8), .ref (u 9), .ref (u 10), .ref (u 11), .ref (u 12), .ref (u 13), .ref (u 14), .ref (u 15), .ref (u 16), .int 0, .int 0])), ((u 6), .inl (kA 5, 2, .inr (.inr (.inr (.inr (va_up (va_up (fun _ => none) 0 (some (u 53))) 1 (some (u 54)))))))), ((u 53), .inr (10, [.ref (u 55), .int 0, .int 0, .int 0])), ((u 54), .inr (10, [.ref (u 56), .int 0, .int 0, .int 0])), ((u 4), .inr (2, [.ref (u 42), .ref (u 43), .int 0, .int 0, .int 0, .int 0]))] [(0, .ref h0), (1, .int t)] 0 0 4 [.int (bTx t)]
    refine j_top (b := 0) (hT) ?_
    refine j_if_ne h 9 dX11_say_4 (by decide) (fun q => absurd (by decide) q) (fun _ => ?_)
    refine j_iconst (v := (-1)) h (by decide) dX11_say_7 ?_
    exact j_iret h hq dX11_say_8 () [] rfl rfl (by decide) (by unfold vTxt; simp only [hT, ↓reduceIte]) (Nat.le_of_ble_eq_true rfl) (Nat.le_of_ble_eq_true rfl)
set_option maxHeartbeats 4000000 in
set_option maxRecDepth 100000 in
theorem c_X2_standStill (l : Launch) (g : va_G) (kA : Nat → ClassId) (h0 : Nat) (a0 : Nat) (a1 : Nat)  : CtV l yX2_standStill cX2_standStill 1 (none) 2 0 0 g kA [.ref h0] [(h0, .inr (2, [.ref a0, .ref a1, .int 0, .int 0, .int 0, .int 0]))] (S := Unit) (fun (_ : Unit) => True) (fun (_ : Unit) => [(h0, .inr (2, [.ref a0, .ref a1, .int 0, .int 0, .int 0, .int 0]))]) := by
  refine nx_startV (by decide +kernel) (Nat.le_of_ble_eq_true rfl) ?_
  intro x hnm h hq
  have h : Ok x cX2_standStill RX2 kA (rmC 2 0 0) 1 := h
  show J x [(h0, .inr (2, [.ref a0, .ref a1, .int 0, .int 0, .int 0, .int 0]))] [(0, .ref h0)] 0 0 0 []
  refine j_aload_n h 0 rfl rfl dX2_standStill_0 ?_
  refine j_iconst (v := 0) h (by decide) dX2_standStill_1 ?_
  refine j_put (ws' := [(h0, .inr (2, [.ref a0, .ref a1, .int 0, .int 0, .int 0, .int 0]))]) h iw_X2 tyX2 tyX2_ok nmX2 0 rfl rfl 2 (by decide) tw_274 rfl rfl rfl (Nat.le_of_ble_eq_true rfl) dX2_standStill_2 rfl ?_
  refine j_aload_n h 0 rfl rfl dX2_standStill_5 ?_
  refine j_iconst (v := 0) h (by decide) dX2_standStill_6 ?_
  refine j_put (ws' := [(h0, .inr (2, [.ref a0, .ref a1, .int 0, .int 0, .int 0, .int 0]))]) h iw_X2 tyX2 tyX2_ok nmX2 0 rfl rfl 3 (by decide) tw_276 rfl rfl rfl (Nat.le_of_ble_eq_true rfl) dX2_standStill_7 rfl ?_
  refine j_aload_n h 0 rfl rfl dX2_standStill_10 ?_
  refine j_iconst (v := 0) h (by decide) dX2_standStill_11 ?_
  refine j_put (ws' := [(h0, .inr (2, [.ref a0, .ref a1, .int 0, .int 0, .int 0, .int 0]))]) h iw_X2 tyX2 tyX2_ok nmX2 0 rfl rfl 4 (by decide) tw_278 rfl rfl rfl (Nat.le_of_ble_eq_true rfl) dX2_standStill_12 rfl ?_
  exact j_vret h hq dX2_standStill_15 () [0] rfl rfl (by decide) trivial (Nat.le_of_ble_eq_true rfl) (Nat.le_of_ble_eq_true rfl)
set_option maxHeartbeats 4000000 in
set_option maxRecDepth 100000 in
theorem c_X11_stop (l : Launch) (g : va_G) (kA : Nat → ClassId) (h0 : Nat) (u : Nat → Nat)  : CtI l yX11_stop cX11_stop 2 (some .int) 3 0 0 g kA [.ref h0] [(h0, .inr (11, [.ref (u 0), .ref (u 1), .ref (u 2), .ref (u 3), .ref (u 4), .ref (u 5), .ref (u 6), .ref (u 7), .ref (u 8), .ref (u 9), .ref (u 10), .ref (u 11), .ref (u 12), .ref (u 13), .ref (u 14), .ref (u 15), .ref (u 16), .int 0, .int 0])), ((u 4), .inr (2, [.ref (u 42), .ref (u 43), .int 0, .int 0, .int 0, .int 0]))] (S := Unit) (fun (r : Int32) (_ : Unit) => r = 0) (fun (_ : Unit) => []) := by
  refine nx_startI (by decide +kernel) (Nat.le_of_ble_eq_true rfl) ?_
  intro x hnm h hq
  have h : Ok x cX11_stop RX11 kA (rmC 3 0 0) 2 := h
  show J x [(h0, .inr (11, [.ref (u 0), .ref (u 1), .ref (u 2), .ref (u 3), .ref (u 4), .ref (u 5), .ref (u 6), .ref (u 7), .ref (u 8), .ref (u 9), .ref (u 10), .ref (u 11), .ref (u 12), .ref (u 13), .ref (u 14), .ref (u 15), .ref (u 16), .int 0, .int 0])), ((u 4), .inr (2, [.ref (u 42), .ref (u 43), .int 0, .int 0, .int 0, .int 0]))] [(0, .ref h0)] 0 0 0 []
  refine j_aload_n h 0 rfl rfl dX11_stop_0 ?_
  refine j_get h iw_X11 0 rfl rfl 4 (by decide) tw_479 rfl dX11_stop_1 ?_
  refine j_get h iw_X2 1 rfl rfl 3 (by decide) tw_277 rfl dX11_stop_4 ?_
  refine j_istore_n (lv' := [(1, .int 0), (0, .ref h0)]) h dX11_stop_7 rfl (by decide) rfl ?_
  refine j_aload_n h 1 rfl rfl dX11_stop_8 ?_
  refine j_get h iw_X11 0 rfl rfl 4 (by decide) tw_479 rfl dX11_stop_9 ?_
  refine j_callVv (np := 0) (isC := [1]) (isR := [0]) (wc := [((u 4), .inr (2, [.ref (u 42), .ref (u 43), .int 0, .int 0, .int 0, .int 0]))]) (wr := [(h0, .inr (11, [.ref (u 0), .ref (u 1), .ref (u 2), .ref (u 3), .ref (u 4), .ref (u 5), .ref (u 6), .ref (u 7), .ref (u 8), .ref (u 9), .ref (u 10), .ref (u 11), .ref (u 12), .ref (u 13), .ref (u 14), .ref (u 15), .ref (u 16), .int 0, .int 0]))]) (rest := []) (As := []) (q0 := 0) h (c_X2_standStill _ _ kA (u 4) (u 42) (u 43) ) tw_784 tw_736 tw_737 tw_91 tw_738 (by decide +kernel) rfl ⟨Nat.le_of_ble_eq_true rfl, Nat.le_of_ble_eq_true rfl⟩ rfl rfl rfl (by decide) rfl rfl (by decide) (by decide) (Nat.le_of_ble_eq_true rfl) rfl ⟨Nat.le_of_ble_eq_true rfl, Nat.le_of_ble_eq_true rfl⟩ dX11_stop_12 ?_
  rintro _ e242
  show J x [(h0, .inr (11, [.ref (u 0), .ref (u 1), .ref (u 2), .ref (u 3), .ref (u 4), .ref (u 5), .ref (u 6), .ref (u 7), .ref (u 8), .ref (u 9), .ref (u 10), .ref (u 11), .ref (u 12), .ref (u 13), .ref (u 14), .ref (u 15), .ref (u 16), .int 0, .int 0])), ((u 4), .inr (2, [.ref (u 42), .ref (u 43), .int 0, .int 0, .int 0, .int 0]))] [(1, .int 0), (0, .ref h0)] 0 0 15 []
  refine j_iload_n h 0 rfl rfl dX11_stop_15 ?_
  exact j_iret h hq dX11_stop_16 () [] rfl rfl (by decide) (by first | rfl | simp only [↓reduceIte]) (Nat.le_of_ble_eq_true rfl) (Nat.le_of_ble_eq_true rfl)
set_option maxHeartbeats 4000000 in
set_option maxRecDepth 100000 in
theorem c_X11_heard (l : Launch) (g : va_G) (kA : Nat → ClassId) (h0 : Nat) (u : Nat → Nat) (e : Int32) (m : Int32)  : CtI l yX11_heard cX11_heard 3 (some .int) 3 0 0 g kA [.ref h0, .int e, .int m] [(h0, .inr (11, [.ref (u 0), .ref (u 1), .ref (u 2), .ref (u 3), .ref (u 4), .ref (u 5), .ref (u 6), .ref (u 7), .ref (u 8), .ref (u 9), .ref (u 10), .ref (u 11), .ref (u 12), .ref (u 13), .ref (u 14), .ref (u 15), .ref (u 16), .int 0, .int 0])), ((u 2), .inr (5, [.ref (u 18), .ref (u 19), .ref (u 20), .ref (u 21), .ref (u 22), .ref (u 23), .ref (u 24), .ref (u 25), .ref (u 26), .ref (u 27), .ref (u 28), .ref (u 29), .int 0, .int 0, .int 0]))] (S := Unit) (fun (r : Int32) (_ : Unit) => r = (-1)) (fun (_ : Unit) => []) := by
  refine nx_startI (by decide +kernel) (Nat.le_of_ble_eq_true rfl) ?_
  intro x hnm h hq
  have h : Ok x cX11_heard RX11 kA (rmC 3 0 0) 3 := h
  show J x [(h0, .inr (11, [.ref (u 0), .ref (u 1), .ref (u 2), .ref (u 3), .ref (u 4), .ref (u 5), .ref (u 6), .ref (u 7), .ref (u 8), .ref (u 9), .ref (u 10), .ref (u 11), .ref (u 12), .ref (u 13), .ref (u 14), .ref (u 15), .ref (u 16), .int 0, .int 0])), ((u 2), .inr (5, [.ref (u 18), .ref (u 19), .ref (u 20), .ref (u 21), .ref (u 22), .ref (u 23), .ref (u 24), .ref (u 25), .ref (u 26), .ref (u 27), .ref (u 28), .ref (u 29), .int 0, .int 0, .int 0]))] [(0, .ref h0), (1, .int e), (2, .int m)] 0 0 0 []
  refine j_aload_n h 0 rfl rfl dX11_heard_0 ?_
  refine j_get h iw_X11 0 rfl rfl 2 (by decide) tw_477 rfl dX11_heard_1 ?_
  refine j_iload_n h 1 rfl rfl dX11_heard_4 ?_
  refine j_callVi (np := 1) (isC := [1]) (isR := [0]) (wc := [((u 2), .inr (5, [.ref (u 18), .ref (u 19), .ref (u 20), .ref (u 21), .ref (u 22), .ref (u 23), .ref (u 24), .ref (u 25), .ref (u 26), .ref (u 27), .ref (u 28), .ref (u 29), .int 0, .int 0, .int 0]))]) (wr := [(h0, .inr (11, [.ref (u 0), .ref (u 1), .ref (u 2), .ref (u 3), .ref (u 4), .ref (u 5), .ref (u 6), .ref (u 7), .ref (u 8), .ref (u 9), .ref (u 10), .ref (u 11), .ref (u 12), .ref (u 13), .ref (u 14), .ref (u 15), .ref (u 16), .int 0, .int 0]))]) (rest := []) (As := [.int e]) (q0 := 0) h (c_X5_hasEar _ _ kA (u 2) (u 18) (u 19) (u 20) (u 21) (u 22) (u 23) (u 24) (u 25) (u 26) (u 27) (u 28) (u 29) e ) tw_789 tw_790 tw_791 tw_90 tw_792 (by decide +kernel) rfl ⟨Nat.le_of_ble_eq_true rfl, Nat.le_of_ble_eq_true rfl⟩ rfl rfl rfl (by decide) rfl rfl (by decide) (by decide) (Nat.le_of_ble_eq_true rfl) rfl ⟨Nat.le_of_ble_eq_true rfl, Nat.le_of_ble_eq_true rfl⟩ dX11_heard_5 ?_
  rintro r _ e243
  subst e243
  show J x [(h0, .inr (11, [.ref (u 0), .ref (u 1), .ref (u 2), .ref (u 3), .ref (u 4), .ref (u 5), .ref (u 6), .ref (u 7), .ref (u 8), .ref (u 9), .ref (u 10), .ref (u 11), .ref (u 12), .ref (u 13), .ref (u 14), .ref (u 15), .ref (u 16), .int 0, .int 0])), ((u 2), .inr (5, [.ref (u 18), .ref (u 19), .ref (u 20), .ref (u 21), .ref (u 22), .ref (u 23), .ref (u 24), .ref (u 25), .ref (u 26), .ref (u 27), .ref (u 28), .ref (u 29), .int 0, .int 0, .int 0]))] [(0, .ref h0), (1, .int e), (2, .int m)] 0 0 8 [.int 0]
  refine j_if_eq h 26 dX11_heard_8 (by decide) (fun _ => ?_) (fun q => absurd (by decide) q)
  refine j_iconst (v := (-1)) h (by decide) dX11_heard_26 ?_
  exact j_iret h hq dX11_heard_27 () [] rfl rfl (by decide) (by first | rfl | simp only [↓reduceIte]) (Nat.le_of_ble_eq_true rfl) (Nat.le_of_ble_eq_true rfl)
set_option maxHeartbeats 4000000 in
set_option maxRecDepth 100000 in
theorem c_X11_reads (l : Launch) (g : va_G) (kA : Nat → ClassId) (h0 : Nat) (u : Nat → Nat) (e : Int32) (m : Int32)  : CtL l yX11_reads cX11_reads 3 (some .long) 3 0 0 g kA [.ref h0, .int e, .int m] [(h0, .inr (11, [.ref (u 0), .ref (u 1), .ref (u 2), .ref (u 3), .ref (u 4), .ref (u 5), .ref (u 6), .ref (u 7), .ref (u 8), .ref (u 9), .ref (u 10), .ref (u 11), .ref (u 12), .ref (u 13), .ref (u 14), .ref (u 15), .ref (u 16), .int 0, .int 0])), ((u 2), .inr (5, [.ref (u 18), .ref (u 19), .ref (u 20), .ref (u 21), .ref (u 22), .ref (u 23), .ref (u 24), .ref (u 25), .ref (u 26), .ref (u 27), .ref (u 28), .ref (u 29), .int 0, .int 0, .int 0]))] (S := Unit) (fun (r : Int64) (_ : Unit) => r = (-1)) (fun (_ : Unit) => []) := by
  refine nx_startL (by decide +kernel) (Nat.le_of_ble_eq_true rfl) ?_
  intro x hnm h hq
  have h : Ok x cX11_reads RX11 kA (rmC 3 0 0) 3 := h
  show J x [(h0, .inr (11, [.ref (u 0), .ref (u 1), .ref (u 2), .ref (u 3), .ref (u 4), .ref (u 5), .ref (u 6), .ref (u 7), .ref (u 8), .ref (u 9), .ref (u 10), .ref (u 11), .ref (u 12), .ref (u 13), .ref (u 14), .ref (u 15), .ref (u 16), .int 0, .int 0])), ((u 2), .inr (5, [.ref (u 18), .ref (u 19), .ref (u 20), .ref (u 21), .ref (u 22), .ref (u 23), .ref (u 24), .ref (u 25), .ref (u 26), .ref (u 27), .ref (u 28), .ref (u 29), .int 0, .int 0, .int 0]))] [(0, .ref h0), (1, .int e), (2, .int m)] 0 0 0 []
  refine j_aload_n h 0 rfl rfl dX11_reads_0 ?_
  refine j_iconst (v := 0) h (by decide) dX11_reads_1 ?_
  refine j_put (ws' := [(h0, .inr (11, [.ref (u 0), .ref (u 1), .ref (u 2), .ref (u 3), .ref (u 4), .ref (u 5), .ref (u 6), .ref (u 7), .ref (u 8), .ref (u 9), .ref (u 10), .ref (u 11), .ref (u 12), .ref (u 13), .ref (u 14), .ref (u 15), .ref (u 16), .int 0, .int 0])), ((u 2), .inr (5, [.ref (u 18), .ref (u 19), .ref (u 20), .ref (u 21), .ref (u 22), .ref (u 23), .ref (u 24), .ref (u 25), .ref (u 26), .ref (u 27), .ref (u 28), .ref (u 29), .int 0, .int 0, .int 0]))]) h iw_X11 tyX11 tyX11_ok nmX11 0 rfl rfl 17 (by decide) tw_492 rfl rfl rfl (Nat.le_of_ble_eq_true rfl) dX11_reads_2 rfl ?_
  refine j_aload_n h 0 rfl rfl dX11_reads_5 ?_
  refine j_get h iw_X11 0 rfl rfl 2 (by decide) tw_477 rfl dX11_reads_6 ?_
  refine j_iload_n h 1 rfl rfl dX11_reads_9 ?_
  refine j_callVi (np := 1) (isC := [1]) (isR := [0]) (wc := [((u 2), .inr (5, [.ref (u 18), .ref (u 19), .ref (u 20), .ref (u 21), .ref (u 22), .ref (u 23), .ref (u 24), .ref (u 25), .ref (u 26), .ref (u 27), .ref (u 28), .ref (u 29), .int 0, .int 0, .int 0]))]) (wr := [(h0, .inr (11, [.ref (u 0), .ref (u 1), .ref (u 2), .ref (u 3), .ref (u 4), .ref (u 5), .ref (u 6), .ref (u 7), .ref (u 8), .ref (u 9), .ref (u 10), .ref (u 11), .ref (u 12), .ref (u 13), .ref (u 14), .ref (u 15), .ref (u 16), .int 0, .int 0]))]) (rest := []) (As := [.int e]) (q0 := 0) h (c_X5_hasEar _ _ kA (u 2) (u 18) (u 19) (u 20) (u 21) (u 22) (u 23) (u 24) (u 25) (u 26) (u 27) (u 28) (u 29) e ) tw_789 tw_790 tw_791 tw_90 tw_792 (by decide +kernel) rfl ⟨Nat.le_of_ble_eq_true rfl, Nat.le_of_ble_eq_true rfl⟩ rfl rfl rfl (by decide) rfl rfl (by decide) (by decide) (Nat.le_of_ble_eq_true rfl) rfl ⟨Nat.le_of_ble_eq_true rfl, Nat.le_of_ble_eq_true rfl⟩ dX11_reads_10 ?_
  rintro r _ e244
  subst e244
  show J x [(h0, .inr (11, [.ref (u 0), .ref (u 1), .ref (u 2), .ref (u 3), .ref (u 4), .ref (u 5), .ref (u 6), .ref (u 7), .ref (u 8), .ref (u 9), .ref (u 10), .ref (u 11), .ref (u 12), .ref (u 13), .ref (u 14), .ref (u 15), .ref (u 16), .int 0, .int 0])), ((u 2), .inr (5, [.ref (u 18), .ref (u 19), .ref (u 20), .ref (u 21), .ref (u 22), .ref (u 23), .ref (u 24), .ref (u 25), .ref (u 26), .ref (u 27), .ref (u 28), .ref (u 29), .int 0, .int 0, .int 0]))] [(0, .ref h0), (1, .int e), (2, .int m)] 0 0 13 [.int 0]
  refine j_if_eq h 25 dX11_reads_13 (by decide) (fun _ => ?_) (fun q => absurd (by decide) q)
  refine j_ldc2 h tw_815 dX11_reads_25 ?_
  exact j_lret h hq dX11_reads_28 () [] rfl rfl (by decide) (by first | rfl | simp only [↓reduceIte]) (Nat.le_of_ble_eq_true rfl) (Nat.le_of_ble_eq_true rfl)
set_option maxHeartbeats 4000000 in
set_option maxRecDepth 100000 in
theorem c_X11_stuck (l : Launch) (g : va_G) (kA : Nat → ClassId) (h0 : Nat) (u : Nat → Nat) (e : Int32)  : CtI l yX11_stuck cX11_stuck 2 (some .int) 3 0 0 g kA [.ref h0, .int e] [(h0, .inr (11, [.ref (u 0), .ref (u 1), .ref (u 2), .ref (u 3), .ref (u 4), .ref (u 5), .ref (u 6), .ref (u 7), .ref (u 8), .ref (u 9), .ref (u 10), .ref (u 11), .ref (u 12), .ref (u 13), .ref (u 14), .ref (u 15), .ref (u 16), .int 0, .int 0])), ((u 2), .inr (5, [.ref (u 18), .ref (u 19), .ref (u 20), .ref (u 21), .ref (u 22), .ref (u 23), .ref (u 24), .ref (u 25), .ref (u 26), .ref (u 27), .ref (u 28), .ref (u 29), .int 0, .int 0, .int 0]))] (S := Unit) (fun (r : Int32) (_ : Unit) => r = (-2)) (fun (_ : Unit) => []) := by
  refine nx_startI (by decide +kernel) (Nat.le_of_ble_eq_true rfl) ?_
  intro x hnm h hq
  have h : Ok x cX11_stuck RX11 kA (rmC 3 0 0) 2 := h
  show J x [(h0, .inr (11, [.ref (u 0), .ref (u 1), .ref (u 2), .ref (u 3), .ref (u 4), .ref (u 5), .ref (u 6), .ref (u 7), .ref (u 8), .ref (u 9), .ref (u 10), .ref (u 11), .ref (u 12), .ref (u 13), .ref (u 14), .ref (u 15), .ref (u 16), .int 0, .int 0])), ((u 2), .inr (5, [.ref (u 18), .ref (u 19), .ref (u 20), .ref (u 21), .ref (u 22), .ref (u 23), .ref (u 24), .ref (u 25), .ref (u 26), .ref (u 27), .ref (u 28), .ref (u 29), .int 0, .int 0, .int 0]))] [(0, .ref h0), (1, .int e)] 0 0 0 []
  refine j_aload_n h 0 rfl rfl dX11_stuck_0 ?_
  refine j_get h iw_X11 0 rfl rfl 2 (by decide) tw_477 rfl dX11_stuck_1 ?_
  refine j_iload_n h 1 rfl rfl dX11_stuck_4 ?_
  refine j_callVi (np := 1) (isC := [1]) (isR := [0]) (wc := [((u 2), .inr (5, [.ref (u 18), .ref (u 19), .ref (u 20), .ref (u 21), .ref (u 22), .ref (u 23), .ref (u 24), .ref (u 25), .ref (u 26), .ref (u 27), .ref (u 28), .ref (u 29), .int 0, .int 0, .int 0]))]) (wr := [(h0, .inr (11, [.ref (u 0), .ref (u 1), .ref (u 2), .ref (u 3), .ref (u 4), .ref (u 5), .ref (u 6), .ref (u 7), .ref (u 8), .ref (u 9), .ref (u 10), .ref (u 11), .ref (u 12), .ref (u 13), .ref (u 14), .ref (u 15), .ref (u 16), .int 0, .int 0]))]) (rest := []) (As := [.int e]) (q0 := 0) h (c_X5_hasEar _ _ kA (u 2) (u 18) (u 19) (u 20) (u 21) (u 22) (u 23) (u 24) (u 25) (u 26) (u 27) (u 28) (u 29) e ) tw_789 tw_790 tw_791 tw_90 tw_792 (by decide +kernel) rfl ⟨Nat.le_of_ble_eq_true rfl, Nat.le_of_ble_eq_true rfl⟩ rfl rfl rfl (by decide) rfl rfl (by decide) (by decide) (Nat.le_of_ble_eq_true rfl) rfl ⟨Nat.le_of_ble_eq_true rfl, Nat.le_of_ble_eq_true rfl⟩ dX11_stuck_5 ?_
  rintro r _ e245
  subst e245
  show J x [(h0, .inr (11, [.ref (u 0), .ref (u 1), .ref (u 2), .ref (u 3), .ref (u 4), .ref (u 5), .ref (u 6), .ref (u 7), .ref (u 8), .ref (u 9), .ref (u 10), .ref (u 11), .ref (u 12), .ref (u 13), .ref (u 14), .ref (u 15), .ref (u 16), .int 0, .int 0])), ((u 2), .inr (5, [.ref (u 18), .ref (u 19), .ref (u 20), .ref (u 21), .ref (u 22), .ref (u 23), .ref (u 24), .ref (u 25), .ref (u 26), .ref (u 27), .ref (u 28), .ref (u 29), .int 0, .int 0, .int 0]))] [(0, .ref h0), (1, .int e)] 0 0 8 [.int 0]
  refine j_if_ne h 14 dX11_stuck_8 (by decide) (fun q => absurd (by decide) q) (fun _ => ?_)
  refine j_bipush (v := (-2)) h (by decide) dX11_stuck_11 ?_
  exact j_iret h hq dX11_stuck_13 () [] rfl rfl (by decide) (by first | rfl | simp only [↓reduceIte]) (Nat.le_of_ble_eq_true rfl) (Nat.le_of_ble_eq_true rfl)
set_option maxHeartbeats 4000000 in
set_option maxRecDepth 100000 in
theorem c_X11_alike (l : Launch) (g : va_G) (kA : Nat → ClassId) (h0 : Nat) (u : Nat → Nat) (e : Int32) (m : Int32) (n : Int32) (f : Int32)  : CtI l yX11_alike cX11_alike 5 (some .int) 3 0 0 g kA [.ref h0, .int e, .int m, .int n, .int f] [(h0, .inr (11, [.ref (u 0), .ref (u 1), .ref (u 2), .ref (u 3), .ref (u 4), .ref (u 5), .ref (u 6), .ref (u 7), .ref (u 8), .ref (u 9), .ref (u 10), .ref (u 11), .ref (u 12), .ref (u 13), .ref (u 14), .ref (u 15), .ref (u 16), .int 0, .int 0])), ((u 2), .inr (5, [.ref (u 18), .ref (u 19), .ref (u 20), .ref (u 21), .ref (u 22), .ref (u 23), .ref (u 24), .ref (u 25), .ref (u 26), .ref (u 27), .ref (u 28), .ref (u 29), .int 0, .int 0, .int 0]))] (S := Unit) (fun (r : Int32) (_ : Unit) => r = (-1)) (fun (_ : Unit) => []) := by
  refine nx_startI (by decide +kernel) (Nat.le_of_ble_eq_true rfl) ?_
  intro x hnm h hq
  have h : Ok x cX11_alike RX11 kA (rmC 3 0 0) 5 := h
  show J x [(h0, .inr (11, [.ref (u 0), .ref (u 1), .ref (u 2), .ref (u 3), .ref (u 4), .ref (u 5), .ref (u 6), .ref (u 7), .ref (u 8), .ref (u 9), .ref (u 10), .ref (u 11), .ref (u 12), .ref (u 13), .ref (u 14), .ref (u 15), .ref (u 16), .int 0, .int 0])), ((u 2), .inr (5, [.ref (u 18), .ref (u 19), .ref (u 20), .ref (u 21), .ref (u 22), .ref (u 23), .ref (u 24), .ref (u 25), .ref (u 26), .ref (u 27), .ref (u 28), .ref (u 29), .int 0, .int 0, .int 0]))] [(0, .ref h0), (1, .int e), (2, .int m), (3, .int n), (4, .int f)] 0 0 0 []
  refine j_aload_n h 0 rfl rfl dX11_alike_0 ?_
  refine j_get h iw_X11 0 rfl rfl 2 (by decide) tw_477 rfl dX11_alike_1 ?_
  refine j_iload_n h 1 rfl rfl dX11_alike_4 ?_
  refine j_callVi (np := 1) (isC := [1]) (isR := [0]) (wc := [((u 2), .inr (5, [.ref (u 18), .ref (u 19), .ref (u 20), .ref (u 21), .ref (u 22), .ref (u 23), .ref (u 24), .ref (u 25), .ref (u 26), .ref (u 27), .ref (u 28), .ref (u 29), .int 0, .int 0, .int 0]))]) (wr := [(h0, .inr (11, [.ref (u 0), .ref (u 1), .ref (u 2), .ref (u 3), .ref (u 4), .ref (u 5), .ref (u 6), .ref (u 7), .ref (u 8), .ref (u 9), .ref (u 10), .ref (u 11), .ref (u 12), .ref (u 13), .ref (u 14), .ref (u 15), .ref (u 16), .int 0, .int 0]))]) (rest := []) (As := [.int e]) (q0 := 0) h (c_X5_hasEar _ _ kA (u 2) (u 18) (u 19) (u 20) (u 21) (u 22) (u 23) (u 24) (u 25) (u 26) (u 27) (u 28) (u 29) e ) tw_789 tw_790 tw_791 tw_90 tw_792 (by decide +kernel) rfl ⟨Nat.le_of_ble_eq_true rfl, Nat.le_of_ble_eq_true rfl⟩ rfl rfl rfl (by decide) rfl rfl (by decide) (by decide) (Nat.le_of_ble_eq_true rfl) rfl ⟨Nat.le_of_ble_eq_true rfl, Nat.le_of_ble_eq_true rfl⟩ dX11_alike_5 ?_
  rintro r _ e246
  subst e246
  show J x [(h0, .inr (11, [.ref (u 0), .ref (u 1), .ref (u 2), .ref (u 3), .ref (u 4), .ref (u 5), .ref (u 6), .ref (u 7), .ref (u 8), .ref (u 9), .ref (u 10), .ref (u 11), .ref (u 12), .ref (u 13), .ref (u 14), .ref (u 15), .ref (u 16), .int 0, .int 0])), ((u 2), .inr (5, [.ref (u 18), .ref (u 19), .ref (u 20), .ref (u 21), .ref (u 22), .ref (u 23), .ref (u 24), .ref (u 25), .ref (u 26), .ref (u 27), .ref (u 28), .ref (u 29), .int 0, .int 0, .int 0]))] [(0, .ref h0), (1, .int e), (2, .int m), (3, .int n), (4, .int f)] 0 0 8 [.int 0]
  refine j_if_eq h 33 dX11_alike_8 (by decide) (fun _ => ?_) (fun q => absurd (by decide) q)
  refine j_iconst (v := (-1)) h (by decide) dX11_alike_33 ?_
  exact j_iret h hq dX11_alike_34 () [] rfl rfl (by decide) (by first | rfl | simp only [↓reduceIte]) (Nat.le_of_ble_eq_true rfl) (Nat.le_of_ble_eq_true rfl)
set_option maxHeartbeats 4000000 in
set_option maxRecDepth 100000 in
theorem c_X10_add (l : Launch) (g : va_G) (kA : Nat → ClassId) (h0 : Nat) (a0 : Nat) (s : Nat) (c0 : Nat) (c1 : Nat) (c2 : Nat) (c3 : Nat) (c4 : Nat) (c5 : Nat) (c6 : Nat) (c7 : Nat) (c8 : Nat) (c9 : Nat) (c10 : Nat) (c11 : Nat) (e : Int32)  : CtI l yX10_add cX10_add 4 (some .boolean) 2 0 0 g kA [.ref h0, .ref s, .int e] [(h0, .inr (10, [.ref a0, .int 0, .int 0, .int 0])), (s, .inr (5, [.ref c0, .ref c1, .ref c2, .ref c3, .ref c4, .ref c5, .ref c6, .ref c7, .ref c8, .ref c9, .ref c10, .ref c11, .int 0, .int 0, .int 0]))] (S := Unit) (fun (r : Int32) (_ : Unit) => r = 0) (fun (_ : Unit) => [(h0, .inr (10, [.ref a0, .int 0, .int 0, .int 0])), (s, .inr (5, [.ref c0, .ref c1, .ref c2, .ref c3, .ref c4, .ref c5, .ref c6, .ref c7, .ref c8, .ref c9, .ref c10, .ref c11, .int 0, .int 0, .int 0]))]) := by
  refine nx_startI (by decide +kernel) (Nat.le_of_ble_eq_true rfl) ?_
  intro x hnm h hq
  have h : Ok x cX10_add RX10 kA (rmC 2 0 0) 4 := h
  show J x [(h0, .inr (10, [.ref a0, .int 0, .int 0, .int 0])), (s, .inr (5, [.ref c0, .ref c1, .ref c2, .ref c3, .ref c4, .ref c5, .ref c6, .ref c7, .ref c8, .ref c9, .ref c10, .ref c11, .int 0, .int 0, .int 0]))] [(0, .ref h0), (1, .ref s), (2, .int e)] 0 0 0 []
  refine j_aload_n h 1 rfl rfl dX10_add_0 ?_
  refine j_iload_n h 2 rfl rfl dX10_add_1 ?_
  refine j_callVi (np := 1) (isC := [1]) (isR := [0]) (wc := [(s, .inr (5, [.ref c0, .ref c1, .ref c2, .ref c3, .ref c4, .ref c5, .ref c6, .ref c7, .ref c8, .ref c9, .ref c10, .ref c11, .int 0, .int 0, .int 0]))]) (wr := [(h0, .inr (10, [.ref a0, .int 0, .int 0, .int 0]))]) (rest := []) (As := [.int e]) (q0 := 0) h (c_X5_hasLetter _ _ kA s c0 c1 c2 c3 c4 c5 c6 c7 c8 c9 c10 c11 e ) tw_951 tw_776 tw_777 tw_90 tw_778 (by decide +kernel) rfl ⟨Nat.le_of_ble_eq_true rfl, Nat.le_of_ble_eq_true rfl⟩ rfl rfl rfl (by decide) rfl rfl (by decide) (by decide) (Nat.le_of_ble_eq_true rfl) rfl ⟨Nat.le_of_ble_eq_true rfl, Nat.le_of_ble_eq_true rfl⟩ dX10_add_2 ?_
  rintro r _ e247
  subst e247
  show J x [(h0, .inr (10, [.ref a0, .int 0, .int 0, .int 0])), (s, .inr (5, [.ref c0, .ref c1, .ref c2, .ref c3, .ref c4, .ref c5, .ref c6, .ref c7, .ref c8, .ref c9, .ref c10, .ref c11, .int 0, .int 0, .int 0]))] [(0, .ref h0), (1, .ref s), (2, .int e)] 0 0 5 [.int 0]
  refine j_if_eq h 20 dX10_add_5 (by decide) (fun _ => ?_) (fun q => absurd (by decide) q)
  refine j_iconst (v := 0) h (by decide) dX10_add_20 ?_
  exact j_zret h hq rfl dX10_add_21 () [0, 1] rfl rfl (by decide) (by first | rfl | simp only [↓reduceIte]) (Nat.le_of_ble_eq_true rfl) (Nat.le_of_ble_eq_true rfl)
set_option maxHeartbeats 4000000 in
set_option maxRecDepth 100000 in
theorem c_X11_tell (l : Launch) (g : va_G) (kA : Nat → ClassId) (h0 : Nat) (u : Nat → Nat) (t : Int32) (e : Int32)  : CtI l yX11_tell cX11_tell 3 (some .int) 3 0 0 g kA [.ref h0, .int t, .int e] [(h0, .inr (11, [.ref (u 0), .ref (u 1), .ref (u 2), .ref (u 3), .ref (u 4), .ref (u 5), .ref (u 6), .ref (u 7), .ref (u 8), .ref (u 9), .ref (u 10), .ref (u 11), .ref (u 12), .ref (u 13), .ref (u 14), .ref (u 15), .ref (u 16), .int 0, .int 0])), ((u 6), .inl (kA 5, 2, .inr (.inr (.inr (.inr (va_up (va_up (fun _ => none) 0 (some (u 53))) 1 (some (u 54)))))))), ((u 53), .inr (10, [.ref (u 55), .int 0, .int 0, .int 0])), ((u 54), .inr (10, [.ref (u 56), .int 0, .int 0, .int 0])), ((u 2), .inr (5, [.ref (u 18), .ref (u 19), .ref (u 20), .ref (u 21), .ref (u 22), .ref (u 23), .ref (u 24), .ref (u 25), .ref (u 26), .ref (u 27), .ref (u 28), .ref (u 29), .int 0, .int 0, .int 0]))] (S := Unit) (fun (r : Int32) (_ : Unit) => r = (-1)) (fun (_ : Unit) => []) := by
  refine nx_startI (by decide +kernel) (Nat.le_of_ble_eq_true rfl) ?_
  intro x hnm h hq
  have h : Ok x cX11_tell RX11 kA (rmC 3 0 0) 3 := h
  show J x [(h0, .inr (11, [.ref (u 0), .ref (u 1), .ref (u 2), .ref (u 3), .ref (u 4), .ref (u 5), .ref (u 6), .ref (u 7), .ref (u 8), .ref (u 9), .ref (u 10), .ref (u 11), .ref (u 12), .ref (u 13), .ref (u 14), .ref (u 15), .ref (u 16), .int 0, .int 0])), ((u 6), .inl (kA 5, 2, .inr (.inr (.inr (.inr (va_up (va_up (fun _ => none) 0 (some (u 53))) 1 (some (u 54)))))))), ((u 53), .inr (10, [.ref (u 55), .int 0, .int 0, .int 0])), ((u 54), .inr (10, [.ref (u 56), .int 0, .int 0, .int 0])), ((u 2), .inr (5, [.ref (u 18), .ref (u 19), .ref (u 20), .ref (u 21), .ref (u 22), .ref (u 23), .ref (u 24), .ref (u 25), .ref (u 26), .ref (u 27), .ref (u 28), .ref (u 29), .int 0, .int 0, .int 0]))] [(0, .ref h0), (1, .int t), (2, .int e)] 0 0 0 []
  rcases bTx_cases t with rfl | rfl | hT
  · refine j_iload_n h 1 rfl rfl dX11_tell_0 ?_
    refine j_callSi (np := 1) (isC := []) (isR := [0, 1, 2, 3, 4]) (wc := []) (wr := [(h0, .inr (11, [.ref (u 0), .ref (u 1), .ref (u 2), .ref (u 3), .ref (u 4), .ref (u 5), .ref (u 6), .ref (u 7), .ref (u 8), .ref (u 9), .ref (u 10), .ref (u 11), .ref (u 12), .ref (u 13), .ref (u 14), .ref (u 15), .ref (u 16), .int 0, .int 0])), ((u 6), .inl (kA 5, 2, .inr (.inr (.inr (.inr (va_up (va_up (fun _ => none) 0 (some (u 53))) 1 (some (u 54)))))))), ((u 53), .inr (10, [.ref (u 55), .int 0, .int 0, .int 0])), ((u 54), .inr (10, [.ref (u 56), .int 0, .int 0, .int 0])), ((u 2), .inr (5, [.ref (u 18), .ref (u 19), .ref (u 20), .ref (u 21), .ref (u 22), .ref (u 23), .ref (u 24), .ref (u 25), .ref (u 26), .ref (u 27), .ref (u 28), .ref (u 29), .int 0, .int 0, .int 0]))]) (rest := []) (As := [.int 0]) h (c_X11_isText _ _ kA 0 ) tw_764 tw_765 tw_87 tw_766 (by decide +kernel) rfl ⟨Nat.le_of_ble_eq_true rfl, Nat.le_of_ble_eq_true rfl⟩ rfl (by decide) rfl rfl (by decide) (by decide) (Nat.le_of_ble_eq_true rfl) rfl ⟨Nat.le_of_ble_eq_true rfl, Nat.le_of_ble_eq_true rfl⟩ dX11_tell_1 ?_
    rintro r _ e248
    subst e248
    show J x [(h0, .inr (11, [.ref (u 0), .ref (u 1), .ref (u 2), .ref (u 3), .ref (u 4), .ref (u 5), .ref (u 6), .ref (u 7), .ref (u 8), .ref (u 9), .ref (u 10), .ref (u 11), .ref (u 12), .ref (u 13), .ref (u 14), .ref (u 15), .ref (u 16), .int 0, .int 0])), ((u 6), .inl (kA 5, 2, .inr (.inr (.inr (.inr (va_up (va_up (fun _ => none) 0 (some (u 53))) 1 (some (u 54)))))))), ((u 53), .inr (10, [.ref (u 55), .int 0, .int 0, .int 0])), ((u 54), .inr (10, [.ref (u 56), .int 0, .int 0, .int 0])), ((u 2), .inr (5, [.ref (u 18), .ref (u 19), .ref (u 20), .ref (u 21), .ref (u 22), .ref (u 23), .ref (u 24), .ref (u 25), .ref (u 26), .ref (u 27), .ref (u 28), .ref (u 29), .int 0, .int 0, .int 0]))] [(0, .ref h0), (1, .int 0), (2, .int e)] 0 0 4 [.int (bTx 0)]
    refine j_top (b := 1) (by decide) ?_
    refine j_if_ne h 9 dX11_tell_4 (by decide) (fun _ => ?_) (fun q => absurd q (by decide))
    refine j_aload_n h 0 rfl rfl dX11_tell_9 ?_
    refine j_get h iw_X11 0 rfl rfl 6 (by decide) tw_481 rfl dX11_tell_10 ?_
    refine j_iload_n h 1 rfl rfl dX11_tell_13 ?_
    refine j_aldO h 1 5 rfl rfl 0 (by decide) (by decide) (by decide) (rfl) dX11_tell_14 ?_
    refine j_aload_n h 0 rfl rfl dX11_tell_15 ?_
    refine j_get h iw_X11 0 rfl rfl 2 (by decide) tw_477 rfl dX11_tell_16 ?_
    refine j_iload_n h 2 rfl rfl dX11_tell_19 ?_
    refine j_callVi (np := 2) (isC := [2, 4]) (isR := [0, 1, 3]) (wc := [((u 53), .inr (10, [.ref (u 55), .int 0, .int 0, .int 0])), ((u 2), .inr (5, [.ref (u 18), .ref (u 19), .ref (u 20), .ref (u 21), .ref (u 22), .ref (u 23), .ref (u 24), .ref (u 25), .ref (u 26), .ref (u 27), .ref (u 28), .ref (u 29), .int 0, .int 0, .int 0]))]) (wr := [(h0, .inr (11, [.ref (u 0), .ref (u 1), .ref (u 2), .ref (u 3), .ref (u 4), .ref (u 5), .ref (u 6), .ref (u 7), .ref (u 8), .ref (u 9), .ref (u 10), .ref (u 11), .ref (u 12), .ref (u 13), .ref (u 14), .ref (u 15), .ref (u 16), .int 0, .int 0])), ((u 6), .inl (kA 5, 2, .inr (.inr (.inr (.inr (va_up (va_up (fun _ => none) 0 (some (u 53))) 1 (some (u 54)))))))), ((u 54), .inr (10, [.ref (u 56), .int 0, .int 0, .int 0]))]) (rest := []) (As := [.ref (u 2), .int e]) (q0 := 0) h (c_X10_add _ _ kA (u 53) (u 55) (u 2) (u 18) (u 19) (u 20) (u 21) (u 22) (u 23) (u 24) (u 25) (u 26) (u 27) (u 28) (u 29) e ) tw_947 tw_948 tw_949 tw_92 tw_950 (by decide +kernel) rfl ⟨Nat.le_of_ble_eq_true rfl, Nat.le_of_ble_eq_true rfl⟩ rfl rfl rfl (by decide) rfl rfl (by decide) (by decide) (Nat.le_of_ble_eq_true rfl) rfl ⟨Nat.le_of_ble_eq_true rfl, Nat.le_of_ble_eq_true rfl⟩ dX11_tell_20 ?_
    rintro r _ e249
    subst e249
    show J x [(h0, .inr (11, [.ref (u 0), .ref (u 1), .ref (u 2), .ref (u 3), .ref (u 4), .ref (u 5), .ref (u 6), .ref (u 7), .ref (u 8), .ref (u 9), .ref (u 10), .ref (u 11), .ref (u 12), .ref (u 13), .ref (u 14), .ref (u 15), .ref (u 16), .int 0, .int 0])), ((u 6), .inl (kA 5, 2, .inr (.inr (.inr (.inr (va_up (va_up (fun _ => none) 0 (some (u 53))) 1 (some (u 54)))))))), ((u 54), .inr (10, [.ref (u 56), .int 0, .int 0, .int 0])), ((u 53), .inr (10, [.ref (u 55), .int 0, .int 0, .int 0])), ((u 2), .inr (5, [.ref (u 18), .ref (u 19), .ref (u 20), .ref (u 21), .ref (u 22), .ref (u 23), .ref (u 24), .ref (u 25), .ref (u 26), .ref (u 27), .ref (u 28), .ref (u 29), .int 0, .int 0, .int 0]))] [(0, .ref h0), (1, .int 0), (2, .int e)] 0 0 23 [.int 0]
    refine j_if_eq h 38 dX11_tell_23 (by decide) (fun _ => ?_) (fun q => absurd (by decide) q)
    refine j_iconst (v := (-1)) h (by decide) dX11_tell_38 ?_
    exact j_iret h hq dX11_tell_39 () [] rfl rfl (by decide) rfl (Nat.le_of_ble_eq_true rfl) (Nat.le_of_ble_eq_true rfl)
  · refine j_iload_n h 1 rfl rfl dX11_tell_0 ?_
    refine j_callSi (np := 1) (isC := []) (isR := [0, 1, 2, 3, 4]) (wc := []) (wr := [(h0, .inr (11, [.ref (u 0), .ref (u 1), .ref (u 2), .ref (u 3), .ref (u 4), .ref (u 5), .ref (u 6), .ref (u 7), .ref (u 8), .ref (u 9), .ref (u 10), .ref (u 11), .ref (u 12), .ref (u 13), .ref (u 14), .ref (u 15), .ref (u 16), .int 0, .int 0])), ((u 6), .inl (kA 5, 2, .inr (.inr (.inr (.inr (va_up (va_up (fun _ => none) 0 (some (u 53))) 1 (some (u 54)))))))), ((u 53), .inr (10, [.ref (u 55), .int 0, .int 0, .int 0])), ((u 54), .inr (10, [.ref (u 56), .int 0, .int 0, .int 0])), ((u 2), .inr (5, [.ref (u 18), .ref (u 19), .ref (u 20), .ref (u 21), .ref (u 22), .ref (u 23), .ref (u 24), .ref (u 25), .ref (u 26), .ref (u 27), .ref (u 28), .ref (u 29), .int 0, .int 0, .int 0]))]) (rest := []) (As := [.int 1]) h (c_X11_isText _ _ kA 1 ) tw_764 tw_765 tw_87 tw_766 (by decide +kernel) rfl ⟨Nat.le_of_ble_eq_true rfl, Nat.le_of_ble_eq_true rfl⟩ rfl (by decide) rfl rfl (by decide) (by decide) (Nat.le_of_ble_eq_true rfl) rfl ⟨Nat.le_of_ble_eq_true rfl, Nat.le_of_ble_eq_true rfl⟩ dX11_tell_1 ?_
    rintro r _ e250
    subst e250
    show J x [(h0, .inr (11, [.ref (u 0), .ref (u 1), .ref (u 2), .ref (u 3), .ref (u 4), .ref (u 5), .ref (u 6), .ref (u 7), .ref (u 8), .ref (u 9), .ref (u 10), .ref (u 11), .ref (u 12), .ref (u 13), .ref (u 14), .ref (u 15), .ref (u 16), .int 0, .int 0])), ((u 6), .inl (kA 5, 2, .inr (.inr (.inr (.inr (va_up (va_up (fun _ => none) 0 (some (u 53))) 1 (some (u 54)))))))), ((u 53), .inr (10, [.ref (u 55), .int 0, .int 0, .int 0])), ((u 54), .inr (10, [.ref (u 56), .int 0, .int 0, .int 0])), ((u 2), .inr (5, [.ref (u 18), .ref (u 19), .ref (u 20), .ref (u 21), .ref (u 22), .ref (u 23), .ref (u 24), .ref (u 25), .ref (u 26), .ref (u 27), .ref (u 28), .ref (u 29), .int 0, .int 0, .int 0]))] [(0, .ref h0), (1, .int 1), (2, .int e)] 0 0 4 [.int (bTx 1)]
    refine j_top (b := 1) (by decide) ?_
    refine j_if_ne h 9 dX11_tell_4 (by decide) (fun _ => ?_) (fun q => absurd q (by decide))
    refine j_aload_n h 0 rfl rfl dX11_tell_9 ?_
    refine j_get h iw_X11 0 rfl rfl 6 (by decide) tw_481 rfl dX11_tell_10 ?_
    refine j_iload_n h 1 rfl rfl dX11_tell_13 ?_
    refine j_aldO h 1 5 rfl rfl 1 (by decide) (by decide) (by decide) (rfl) dX11_tell_14 ?_
    refine j_aload_n h 0 rfl rfl dX11_tell_15 ?_
    refine j_get h iw_X11 0 rfl rfl 2 (by decide) tw_477 rfl dX11_tell_16 ?_
    refine j_iload_n h 2 rfl rfl dX11_tell_19 ?_
    refine j_callVi (np := 2) (isC := [3, 4]) (isR := [0, 1, 2]) (wc := [((u 54), .inr (10, [.ref (u 56), .int 0, .int 0, .int 0])), ((u 2), .inr (5, [.ref (u 18), .ref (u 19), .ref (u 20), .ref (u 21), .ref (u 22), .ref (u 23), .ref (u 24), .ref (u 25), .ref (u 26), .ref (u 27), .ref (u 28), .ref (u 29), .int 0, .int 0, .int 0]))]) (wr := [(h0, .inr (11, [.ref (u 0), .ref (u 1), .ref (u 2), .ref (u 3), .ref (u 4), .ref (u 5), .ref (u 6), .ref (u 7), .ref (u 8), .ref (u 9), .ref (u 10), .ref (u 11), .ref (u 12), .ref (u 13), .ref (u 14), .ref (u 15), .ref (u 16), .int 0, .int 0])), ((u 6), .inl (kA 5, 2, .inr (.inr (.inr (.inr (va_up (va_up (fun _ => none) 0 (some (u 53))) 1 (some (u 54)))))))), ((u 53), .inr (10, [.ref (u 55), .int 0, .int 0, .int 0]))]) (rest := []) (As := [.ref (u 2), .int e]) (q0 := 0) h (c_X10_add _ _ kA (u 54) (u 56) (u 2) (u 18) (u 19) (u 20) (u 21) (u 22) (u 23) (u 24) (u 25) (u 26) (u 27) (u 28) (u 29) e ) tw_947 tw_948 tw_949 tw_92 tw_950 (by decide +kernel) rfl ⟨Nat.le_of_ble_eq_true rfl, Nat.le_of_ble_eq_true rfl⟩ rfl rfl rfl (by decide) rfl rfl (by decide) (by decide) (Nat.le_of_ble_eq_true rfl) rfl ⟨Nat.le_of_ble_eq_true rfl, Nat.le_of_ble_eq_true rfl⟩ dX11_tell_20 ?_
    rintro r _ e251
    subst e251
    show J x [(h0, .inr (11, [.ref (u 0), .ref (u 1), .ref (u 2), .ref (u 3), .ref (u 4), .ref (u 5), .ref (u 6), .ref (u 7), .ref (u 8), .ref (u 9), .ref (u 10), .ref (u 11), .ref (u 12), .ref (u 13), .ref (u 14), .ref (u 15), .ref (u 16), .int 0, .int 0])), ((u 6), .inl (kA 5, 2, .inr (.inr (.inr (.inr (va_up (va_up (fun _ => none) 0 (some (u 53))) 1 (some (u 54)))))))), ((u 53), .inr (10, [.ref (u 55), .int 0, .int 0, .int 0])), ((u 54), .inr (10, [.ref (u 56), .int 0, .int 0, .int 0])), ((u 2), .inr (5, [.ref (u 18), .ref (u 19), .ref (u 20), .ref (u 21), .ref (u 22), .ref (u 23), .ref (u 24), .ref (u 25), .ref (u 26), .ref (u 27), .ref (u 28), .ref (u 29), .int 0, .int 0, .int 0]))] [(0, .ref h0), (1, .int 1), (2, .int e)] 0 0 23 [.int 0]
    refine j_if_eq h 38 dX11_tell_23 (by decide) (fun _ => ?_) (fun q => absurd (by decide) q)
    refine j_iconst (v := (-1)) h (by decide) dX11_tell_38 ?_
    exact j_iret h hq dX11_tell_39 () [] rfl rfl (by decide) rfl (Nat.le_of_ble_eq_true rfl) (Nat.le_of_ble_eq_true rfl)
  · refine j_iload_n h 1 rfl rfl dX11_tell_0 ?_
    refine j_callSi (np := 1) (isC := []) (isR := [0, 1, 2, 3, 4]) (wc := []) (wr := [(h0, .inr (11, [.ref (u 0), .ref (u 1), .ref (u 2), .ref (u 3), .ref (u 4), .ref (u 5), .ref (u 6), .ref (u 7), .ref (u 8), .ref (u 9), .ref (u 10), .ref (u 11), .ref (u 12), .ref (u 13), .ref (u 14), .ref (u 15), .ref (u 16), .int 0, .int 0])), ((u 6), .inl (kA 5, 2, .inr (.inr (.inr (.inr (va_up (va_up (fun _ => none) 0 (some (u 53))) 1 (some (u 54)))))))), ((u 53), .inr (10, [.ref (u 55), .int 0, .int 0, .int 0])), ((u 54), .inr (10, [.ref (u 56), .int 0, .int 0, .int 0])), ((u 2), .inr (5, [.ref (u 18), .ref (u 19), .ref (u 20), .ref (u 21), .ref (u 22), .ref (u 23), .ref (u 24), .ref (u 25), .ref (u 26), .ref (u 27), .ref (u 28), .ref (u 29), .int 0, .int 0, .int 0]))]) (rest := []) (As := [.int t]) h (c_X11_isText _ _ kA t ) tw_764 tw_765 tw_87 tw_766 (by decide +kernel) rfl ⟨Nat.le_of_ble_eq_true rfl, Nat.le_of_ble_eq_true rfl⟩ rfl (by decide) rfl rfl (by decide) (by decide) (Nat.le_of_ble_eq_true rfl) rfl ⟨Nat.le_of_ble_eq_true rfl, Nat.le_of_ble_eq_true rfl⟩ dX11_tell_1 ?_
    rintro r _ e252
    subst e252
    show J x [(h0, .inr (11, [.ref (u 0), .ref (u 1), .ref (u 2), .ref (u 3), .ref (u 4), .ref (u 5), .ref (u 6), .ref (u 7), .ref (u 8), .ref (u 9), .ref (u 10), .ref (u 11), .ref (u 12), .ref (u 13), .ref (u 14), .ref (u 15), .ref (u 16), .int 0, .int 0])), ((u 6), .inl (kA 5, 2, .inr (.inr (.inr (.inr (va_up (va_up (fun _ => none) 0 (some (u 53))) 1 (some (u 54)))))))), ((u 53), .inr (10, [.ref (u 55), .int 0, .int 0, .int 0])), ((u 54), .inr (10, [.ref (u 56), .int 0, .int 0, .int 0])), ((u 2), .inr (5, [.ref (u 18), .ref (u 19), .ref (u 20), .ref (u 21), .ref (u 22), .ref (u 23), .ref (u 24), .ref (u 25), .ref (u 26), .ref (u 27), .ref (u 28), .ref (u 29), .int 0, .int 0, .int 0]))] [(0, .ref h0), (1, .int t), (2, .int e)] 0 0 4 [.int (bTx t)]
    refine j_top (b := 0) (hT) ?_
    refine j_if_ne h 9 dX11_tell_4 (by decide) (fun q => absurd (by decide) q) (fun _ => ?_)
    refine j_iconst (v := (-1)) h (by decide) dX11_tell_7 ?_
    exact j_iret h hq dX11_tell_8 () [] rfl rfl (by decide) rfl (Nat.le_of_ble_eq_true rfl) (Nat.le_of_ble_eq_true rfl)
set_option maxHeartbeats 4000000 in
set_option maxRecDepth 100000 in
theorem c_X10_clear (l : Launch) (g : va_G) (kA : Nat → ClassId) (h0 : Nat) (a0 : Nat)  : CtV l yX10_clear cX10_clear 1 (none) 2 0 0 g kA [.ref h0] [(h0, .inr (10, [.ref a0, .int 0, .int 0, .int 0]))] (S := Unit) (fun (_ : Unit) => True) (fun (_ : Unit) => [(h0, .inr (10, [.ref a0, .int 0, .int 0, .int 0]))]) := by
  refine nx_startV (by decide +kernel) (Nat.le_of_ble_eq_true rfl) ?_
  intro x hnm h hq
  have h : Ok x cX10_clear RX10 kA (rmC 2 0 0) 1 := h
  show J x [(h0, .inr (10, [.ref a0, .int 0, .int 0, .int 0]))] [(0, .ref h0)] 0 0 0 []
  refine j_aload_n h 0 rfl rfl dX10_clear_0 ?_
  refine j_iconst (v := 0) h (by decide) dX10_clear_1 ?_
  refine j_put (ws' := [(h0, .inr (10, [.ref a0, .int 0, .int 0, .int 0]))]) h iw_X10 tyX10 tyX10_ok nmX10 0 rfl rfl 1 (by decide) tw_305 rfl rfl rfl (Nat.le_of_ble_eq_true rfl) dX10_clear_2 rfl ?_
  refine j_aload_n h 0 rfl rfl dX10_clear_5 ?_
  refine j_iconst (v := 0) h (by decide) dX10_clear_6 ?_
  refine j_put (ws' := [(h0, .inr (10, [.ref a0, .int 0, .int 0, .int 0]))]) h iw_X10 tyX10 tyX10_ok nmX10 0 rfl rfl 2 (by decide) tw_309 rfl rfl rfl (Nat.le_of_ble_eq_true rfl) dX10_clear_7 rfl ?_
  refine j_aload_n h 0 rfl rfl dX10_clear_10 ?_
  refine j_iconst (v := 0) h (by decide) dX10_clear_11 ?_
  refine j_put (ws' := [(h0, .inr (10, [.ref a0, .int 0, .int 0, .int 0]))]) h iw_X10 tyX10 tyX10_ok nmX10 0 rfl rfl 3 (by decide) tw_311 rfl rfl rfl (Nat.le_of_ble_eq_true rfl) dX10_clear_12 rfl ?_
  exact j_vret h hq dX10_clear_15 () [0] rfl rfl (by decide) trivial (Nat.le_of_ble_eq_true rfl) (Nat.le_of_ble_eq_true rfl)
set_option maxHeartbeats 4000000 in
set_option maxRecDepth 100000 in
theorem c_X11_hush (l : Launch) (g : va_G) (kA : Nat → ClassId) (h0 : Nat) (u : Nat → Nat) (t : Int32)  : CtI l yX11_hush cX11_hush 3 (some .int) 3 0 0 g kA [.ref h0, .int t] [(h0, .inr (11, [.ref (u 0), .ref (u 1), .ref (u 2), .ref (u 3), .ref (u 4), .ref (u 5), .ref (u 6), .ref (u 7), .ref (u 8), .ref (u 9), .ref (u 10), .ref (u 11), .ref (u 12), .ref (u 13), .ref (u 14), .ref (u 15), .ref (u 16), .int 0, .int 0])), ((u 6), .inl (kA 5, 2, .inr (.inr (.inr (.inr (va_up (va_up (fun _ => none) 0 (some (u 53))) 1 (some (u 54)))))))), ((u 53), .inr (10, [.ref (u 55), .int 0, .int 0, .int 0])), ((u 54), .inr (10, [.ref (u 56), .int 0, .int 0, .int 0]))] (S := Unit) (fun (r : Int32) (_ : Unit) => r = vTxt t) (fun (_ : Unit) => []) := by
  refine nx_startI (by decide +kernel) (Nat.le_of_ble_eq_true rfl) ?_
  intro x hnm h hq
  have h : Ok x cX11_hush RX11 kA (rmC 3 0 0) 3 := h
  show J x [(h0, .inr (11, [.ref (u 0), .ref (u 1), .ref (u 2), .ref (u 3), .ref (u 4), .ref (u 5), .ref (u 6), .ref (u 7), .ref (u 8), .ref (u 9), .ref (u 10), .ref (u 11), .ref (u 12), .ref (u 13), .ref (u 14), .ref (u 15), .ref (u 16), .int 0, .int 0])), ((u 6), .inl (kA 5, 2, .inr (.inr (.inr (.inr (va_up (va_up (fun _ => none) 0 (some (u 53))) 1 (some (u 54)))))))), ((u 53), .inr (10, [.ref (u 55), .int 0, .int 0, .int 0])), ((u 54), .inr (10, [.ref (u 56), .int 0, .int 0, .int 0]))] [(0, .ref h0), (1, .int t)] 0 0 0 []
  rcases bTx_cases t with rfl | rfl | hT
  · refine j_iload_n h 1 rfl rfl dX11_hush_0 ?_
    refine j_callSi (np := 1) (isC := []) (isR := [0, 1, 2, 3]) (wc := []) (wr := [(h0, .inr (11, [.ref (u 0), .ref (u 1), .ref (u 2), .ref (u 3), .ref (u 4), .ref (u 5), .ref (u 6), .ref (u 7), .ref (u 8), .ref (u 9), .ref (u 10), .ref (u 11), .ref (u 12), .ref (u 13), .ref (u 14), .ref (u 15), .ref (u 16), .int 0, .int 0])), ((u 6), .inl (kA 5, 2, .inr (.inr (.inr (.inr (va_up (va_up (fun _ => none) 0 (some (u 53))) 1 (some (u 54)))))))), ((u 53), .inr (10, [.ref (u 55), .int 0, .int 0, .int 0])), ((u 54), .inr (10, [.ref (u 56), .int 0, .int 0, .int 0]))]) (rest := []) (As := [.int 0]) h (c_X11_isText _ _ kA 0 ) tw_764 tw_765 tw_87 tw_766 (by decide +kernel) rfl ⟨Nat.le_of_ble_eq_true rfl, Nat.le_of_ble_eq_true rfl⟩ rfl (by decide) rfl rfl (by decide) (by decide) (Nat.le_of_ble_eq_true rfl) rfl ⟨Nat.le_of_ble_eq_true rfl, Nat.le_of_ble_eq_true rfl⟩ dX11_hush_1 ?_
    rintro r _ e253
    subst e253
    show J x [(h0, .inr (11, [.ref (u 0), .ref (u 1), .ref (u 2), .ref (u 3), .ref (u 4), .ref (u 5), .ref (u 6), .ref (u 7), .ref (u 8), .ref (u 9), .ref (u 10), .ref (u 11), .ref (u 12), .ref (u 13), .ref (u 14), .ref (u 15), .ref (u 16), .int 0, .int 0])), ((u 6), .inl (kA 5, 2, .inr (.inr (.inr (.inr (va_up (va_up (fun _ => none) 0 (some (u 53))) 1 (some (u 54)))))))), ((u 53), .inr (10, [.ref (u 55), .int 0, .int 0, .int 0])), ((u 54), .inr (10, [.ref (u 56), .int 0, .int 0, .int 0]))] [(0, .ref h0), (1, .int 0)] 0 0 4 [.int (bTx 0)]
    refine j_top (b := 1) (by decide) ?_
    refine j_if_ne h 9 dX11_hush_4 (by decide) (fun _ => ?_) (fun q => absurd q (by decide))
    refine j_aload_n h 0 rfl rfl dX11_hush_9 ?_
    refine j_get h iw_X11 0 rfl rfl 6 (by decide) tw_481 rfl dX11_hush_10 ?_
    refine j_iload_n h 1 rfl rfl dX11_hush_13 ?_
    refine j_aldO h 1 5 rfl rfl 0 (by decide) (by decide) (by decide) (rfl) dX11_hush_14 ?_
    refine j_get h iw_X10 2 rfl rfl 1 (by decide) tw_308 rfl dX11_hush_15 ?_
    refine j_istore_n (lv' := [(2, .int 0), (0, .ref h0), (1, .int 0)]) h dX11_hush_18 rfl (by decide) rfl ?_
    refine j_aload_n h 1 rfl rfl dX11_hush_19 ?_
    refine j_get h iw_X11 0 rfl rfl 6 (by decide) tw_481 rfl dX11_hush_20 ?_
    refine j_iload_n h 2 rfl rfl dX11_hush_23 ?_
    refine j_aldO h 1 5 rfl rfl 0 (by decide) (by decide) (by decide) (rfl) dX11_hush_24 ?_
    refine j_callVv (np := 0) (isC := [2]) (isR := [0, 1, 3]) (wc := [((u 53), .inr (10, [.ref (u 55), .int 0, .int 0, .int 0]))]) (wr := [(h0, .inr (11, [.ref (u 0), .ref (u 1), .ref (u 2), .ref (u 3), .ref (u 4), .ref (u 5), .ref (u 6), .ref (u 7), .ref (u 8), .ref (u 9), .ref (u 10), .ref (u 11), .ref (u 12), .ref (u 13), .ref (u 14), .ref (u 15), .ref (u 16), .int 0, .int 0])), ((u 6), .inl (kA 5, 2, .inr (.inr (.inr (.inr (va_up (va_up (fun _ => none) 0 (some (u 53))) 1 (some (u 54)))))))), ((u 54), .inr (10, [.ref (u 56), .int 0, .int 0, .int 0]))]) (rest := []) (As := []) (q0 := 0) h (c_X10_clear _ _ kA (u 53) (u 55) ) tw_742 tw_743 tw_744 tw_92 tw_745 (by decide +kernel) rfl ⟨Nat.le_of_ble_eq_true rfl, Nat.le_of_ble_eq_true rfl⟩ rfl rfl rfl (by decide) rfl rfl (by decide) (by decide) (Nat.le_of_ble_eq_true rfl) rfl ⟨Nat.le_of_ble_eq_true rfl, Nat.le_of_ble_eq_true rfl⟩ dX11_hush_25 ?_
    rintro _ e254
    show J x [(h0, .inr (11, [.ref (u 0), .ref (u 1), .ref (u 2), .ref (u 3), .ref (u 4), .ref (u 5), .ref (u 6), .ref (u 7), .ref (u 8), .ref (u 9), .ref (u 10), .ref (u 11), .ref (u 12), .ref (u 13), .ref (u 14), .ref (u 15), .ref (u 16), .int 0, .int 0])), ((u 6), .inl (kA 5, 2, .inr (.inr (.inr (.inr (va_up (va_up (fun _ => none) 0 (some (u 53))) 1 (some (u 54)))))))), ((u 54), .inr (10, [.ref (u 56), .int 0, .int 0, .int 0])), ((u 53), .inr (10, [.ref (u 55), .int 0, .int 0, .int 0]))] [(2, .int 0), (0, .ref h0), (1, .int 0)] 0 0 28 []
    refine j_iload_n h 0 rfl rfl dX11_hush_28 ?_
    exact j_iret h hq dX11_hush_29 () [] rfl rfl (by decide) (by decide) (Nat.le_of_ble_eq_true rfl) (Nat.le_of_ble_eq_true rfl)
  · refine j_iload_n h 1 rfl rfl dX11_hush_0 ?_
    refine j_callSi (np := 1) (isC := []) (isR := [0, 1, 2, 3]) (wc := []) (wr := [(h0, .inr (11, [.ref (u 0), .ref (u 1), .ref (u 2), .ref (u 3), .ref (u 4), .ref (u 5), .ref (u 6), .ref (u 7), .ref (u 8), .ref (u 9), .ref (u 10), .ref (u 11), .ref (u 12), .ref (u 13), .ref (u 14), .ref (u 15), .ref (u 16), .int 0, .int 0])), ((u 6), .inl (kA 5, 2, .inr (.inr (.inr (.inr (va_up (va_up (fun _ => none) 0 (some (u 53))) 1 (some (u 54)))))))), ((u 53), .inr (10, [.ref (u 55), .int 0, .int 0, .int 0])), ((u 54), .inr (10, [.ref (u 56), .int 0, .int 0, .int 0]))]) (rest := []) (As := [.int 1]) h (c_X11_isText _ _ kA 1 ) tw_764 tw_765 tw_87 tw_766 (by decide +kernel) rfl ⟨Nat.le_of_ble_eq_true rfl, Nat.le_of_ble_eq_true rfl⟩ rfl (by decide) rfl rfl (by decide) (by decide) (Nat.le_of_ble_eq_true rfl) rfl ⟨Nat.le_of_ble_eq_true rfl, Nat.le_of_ble_eq_true rfl⟩ dX11_hush_1 ?_
    rintro r _ e255
    subst e255
    show J x [(h0, .inr (11, [.ref (u 0), .ref (u 1), .ref (u 2), .ref (u 3), .ref (u 4), .ref (u 5), .ref (u 6), .ref (u 7), .ref (u 8), .ref (u 9), .ref (u 10), .ref (u 11), .ref (u 12), .ref (u 13), .ref (u 14), .ref (u 15), .ref (u 16), .int 0, .int 0])), ((u 6), .inl (kA 5, 2, .inr (.inr (.inr (.inr (va_up (va_up (fun _ => none) 0 (some (u 53))) 1 (some (u 54)))))))), ((u 53), .inr (10, [.ref (u 55), .int 0, .int 0, .int 0])), ((u 54), .inr (10, [.ref (u 56), .int 0, .int 0, .int 0]))] [(0, .ref h0), (1, .int 1)] 0 0 4 [.int (bTx 1)]
    refine j_top (b := 1) (by decide) ?_
    refine j_if_ne h 9 dX11_hush_4 (by decide) (fun _ => ?_) (fun q => absurd q (by decide))
    refine j_aload_n h 0 rfl rfl dX11_hush_9 ?_
    refine j_get h iw_X11 0 rfl rfl 6 (by decide) tw_481 rfl dX11_hush_10 ?_
    refine j_iload_n h 1 rfl rfl dX11_hush_13 ?_
    refine j_aldO h 1 5 rfl rfl 1 (by decide) (by decide) (by decide) (rfl) dX11_hush_14 ?_
    refine j_get h iw_X10 3 rfl rfl 1 (by decide) tw_308 rfl dX11_hush_15 ?_
    refine j_istore_n (lv' := [(2, .int 0), (0, .ref h0), (1, .int 1)]) h dX11_hush_18 rfl (by decide) rfl ?_
    refine j_aload_n h 1 rfl rfl dX11_hush_19 ?_
    refine j_get h iw_X11 0 rfl rfl 6 (by decide) tw_481 rfl dX11_hush_20 ?_
    refine j_iload_n h 2 rfl rfl dX11_hush_23 ?_
    refine j_aldO h 1 5 rfl rfl 1 (by decide) (by decide) (by decide) (rfl) dX11_hush_24 ?_
    refine j_callVv (np := 0) (isC := [3]) (isR := [0, 1, 2]) (wc := [((u 54), .inr (10, [.ref (u 56), .int 0, .int 0, .int 0]))]) (wr := [(h0, .inr (11, [.ref (u 0), .ref (u 1), .ref (u 2), .ref (u 3), .ref (u 4), .ref (u 5), .ref (u 6), .ref (u 7), .ref (u 8), .ref (u 9), .ref (u 10), .ref (u 11), .ref (u 12), .ref (u 13), .ref (u 14), .ref (u 15), .ref (u 16), .int 0, .int 0])), ((u 6), .inl (kA 5, 2, .inr (.inr (.inr (.inr (va_up (va_up (fun _ => none) 0 (some (u 53))) 1 (some (u 54)))))))), ((u 53), .inr (10, [.ref (u 55), .int 0, .int 0, .int 0]))]) (rest := []) (As := []) (q0 := 0) h (c_X10_clear _ _ kA (u 54) (u 56) ) tw_742 tw_743 tw_744 tw_92 tw_745 (by decide +kernel) rfl ⟨Nat.le_of_ble_eq_true rfl, Nat.le_of_ble_eq_true rfl⟩ rfl rfl rfl (by decide) rfl rfl (by decide) (by decide) (Nat.le_of_ble_eq_true rfl) rfl ⟨Nat.le_of_ble_eq_true rfl, Nat.le_of_ble_eq_true rfl⟩ dX11_hush_25 ?_
    rintro _ e256
    show J x [(h0, .inr (11, [.ref (u 0), .ref (u 1), .ref (u 2), .ref (u 3), .ref (u 4), .ref (u 5), .ref (u 6), .ref (u 7), .ref (u 8), .ref (u 9), .ref (u 10), .ref (u 11), .ref (u 12), .ref (u 13), .ref (u 14), .ref (u 15), .ref (u 16), .int 0, .int 0])), ((u 6), .inl (kA 5, 2, .inr (.inr (.inr (.inr (va_up (va_up (fun _ => none) 0 (some (u 53))) 1 (some (u 54)))))))), ((u 53), .inr (10, [.ref (u 55), .int 0, .int 0, .int 0])), ((u 54), .inr (10, [.ref (u 56), .int 0, .int 0, .int 0]))] [(2, .int 0), (0, .ref h0), (1, .int 1)] 0 0 28 []
    refine j_iload_n h 0 rfl rfl dX11_hush_28 ?_
    exact j_iret h hq dX11_hush_29 () [] rfl rfl (by decide) (by decide) (Nat.le_of_ble_eq_true rfl) (Nat.le_of_ble_eq_true rfl)
  · refine j_iload_n h 1 rfl rfl dX11_hush_0 ?_
    refine j_callSi (np := 1) (isC := []) (isR := [0, 1, 2, 3]) (wc := []) (wr := [(h0, .inr (11, [.ref (u 0), .ref (u 1), .ref (u 2), .ref (u 3), .ref (u 4), .ref (u 5), .ref (u 6), .ref (u 7), .ref (u 8), .ref (u 9), .ref (u 10), .ref (u 11), .ref (u 12), .ref (u 13), .ref (u 14), .ref (u 15), .ref (u 16), .int 0, .int 0])), ((u 6), .inl (kA 5, 2, .inr (.inr (.inr (.inr (va_up (va_up (fun _ => none) 0 (some (u 53))) 1 (some (u 54)))))))), ((u 53), .inr (10, [.ref (u 55), .int 0, .int 0, .int 0])), ((u 54), .inr (10, [.ref (u 56), .int 0, .int 0, .int 0]))]) (rest := []) (As := [.int t]) h (c_X11_isText _ _ kA t ) tw_764 tw_765 tw_87 tw_766 (by decide +kernel) rfl ⟨Nat.le_of_ble_eq_true rfl, Nat.le_of_ble_eq_true rfl⟩ rfl (by decide) rfl rfl (by decide) (by decide) (Nat.le_of_ble_eq_true rfl) rfl ⟨Nat.le_of_ble_eq_true rfl, Nat.le_of_ble_eq_true rfl⟩ dX11_hush_1 ?_
    rintro r _ e257
    subst e257
    show J x [(h0, .inr (11, [.ref (u 0), .ref (u 1), .ref (u 2), .ref (u 3), .ref (u 4), .ref (u 5), .ref (u 6), .ref (u 7), .ref (u 8), .ref (u 9), .ref (u 10), .ref (u 11), .ref (u 12), .ref (u 13), .ref (u 14), .ref (u 15), .ref (u 16), .int 0, .int 0])), ((u 6), .inl (kA 5, 2, .inr (.inr (.inr (.inr (va_up (va_up (fun _ => none) 0 (some (u 53))) 1 (some (u 54)))))))), ((u 53), .inr (10, [.ref (u 55), .int 0, .int 0, .int 0])), ((u 54), .inr (10, [.ref (u 56), .int 0, .int 0, .int 0]))] [(0, .ref h0), (1, .int t)] 0 0 4 [.int (bTx t)]
    refine j_top (b := 0) (hT) ?_
    refine j_if_ne h 9 dX11_hush_4 (by decide) (fun q => absurd (by decide) q) (fun _ => ?_)
    refine j_iconst (v := (-1)) h (by decide) dX11_hush_7 ?_
    exact j_iret h hq dX11_hush_8 () [] rfl rfl (by decide) (by unfold vTxt; simp only [hT, ↓reduceIte]) (Nat.le_of_ble_eq_true rfl) (Nat.le_of_ble_eq_true rfl)
set_option maxHeartbeats 4000000 in
set_option maxRecDepth 100000 in
theorem c_X11_areUnlikeEars (l : Launch) (g : va_G) (kA : Nat → ClassId) (h0 : Nat) (u : Nat → Nat) (a : Int32) (b : Int32)  : CtI l yX11_areUnlikeEars cX11_areUnlikeEars 3 (some .boolean) 2 0 0 g kA [.ref h0, .int a, .int b] [(h0, .inr (11, [.ref (u 0), .ref (u 1), .ref (u 2), .ref (u 3), .ref (u 4), .ref (u 5), .ref (u 6), .ref (u 7), .ref (u 8), .ref (u 9), .ref (u 10), .ref (u 11), .ref (u 12), .ref (u 13), .ref (u 14), .ref (u 15), .ref (u 16), .int 0, .int 0])), ((u 2), .inr (5, [.ref (u 18), .ref (u 19), .ref (u 20), .ref (u 21), .ref (u 22), .ref (u 23), .ref (u 24), .ref (u 25), .ref (u 26), .ref (u 27), .ref (u 28), .ref (u 29), .int 0, .int 0, .int 0]))] (S := Unit) (fun (r : Int32) (_ : Unit) => r = 0) (fun (_ : Unit) => [(h0, .inr (11, [.ref (u 0), .ref (u 1), .ref (u 2), .ref (u 3), .ref (u 4), .ref (u 5), .ref (u 6), .ref (u 7), .ref (u 8), .ref (u 9), .ref (u 10), .ref (u 11), .ref (u 12), .ref (u 13), .ref (u 14), .ref (u 15), .ref (u 16), .int 0, .int 0])), ((u 2), .inr (5, [.ref (u 18), .ref (u 19), .ref (u 20), .ref (u 21), .ref (u 22), .ref (u 23), .ref (u 24), .ref (u 25), .ref (u 26), .ref (u 27), .ref (u 28), .ref (u 29), .int 0, .int 0, .int 0]))]) := by
  refine nx_startI (by decide +kernel) (Nat.le_of_ble_eq_true rfl) ?_
  intro x hnm h hq
  have h : Ok x cX11_areUnlikeEars RX11 kA (rmC 2 0 0) 3 := h
  show J x [(h0, .inr (11, [.ref (u 0), .ref (u 1), .ref (u 2), .ref (u 3), .ref (u 4), .ref (u 5), .ref (u 6), .ref (u 7), .ref (u 8), .ref (u 9), .ref (u 10), .ref (u 11), .ref (u 12), .ref (u 13), .ref (u 14), .ref (u 15), .ref (u 16), .int 0, .int 0])), ((u 2), .inr (5, [.ref (u 18), .ref (u 19), .ref (u 20), .ref (u 21), .ref (u 22), .ref (u 23), .ref (u 24), .ref (u 25), .ref (u 26), .ref (u 27), .ref (u 28), .ref (u 29), .int 0, .int 0, .int 0]))] [(0, .ref h0), (1, .int a), (2, .int b)] 0 0 0 []
  refine j_aload_n h 0 rfl rfl dX11_areUnlikeEars_0 ?_
  refine j_get h iw_X11 0 rfl rfl 2 (by decide) tw_477 rfl dX11_areUnlikeEars_1 ?_
  refine j_iload_n h 1 rfl rfl dX11_areUnlikeEars_4 ?_
  refine j_callVi (np := 1) (isC := [1]) (isR := [0]) (wc := [((u 2), .inr (5, [.ref (u 18), .ref (u 19), .ref (u 20), .ref (u 21), .ref (u 22), .ref (u 23), .ref (u 24), .ref (u 25), .ref (u 26), .ref (u 27), .ref (u 28), .ref (u 29), .int 0, .int 0, .int 0]))]) (wr := [(h0, .inr (11, [.ref (u 0), .ref (u 1), .ref (u 2), .ref (u 3), .ref (u 4), .ref (u 5), .ref (u 6), .ref (u 7), .ref (u 8), .ref (u 9), .ref (u 10), .ref (u 11), .ref (u 12), .ref (u 13), .ref (u 14), .ref (u 15), .ref (u 16), .int 0, .int 0]))]) (rest := []) (As := [.int a]) (q0 := 0) h (c_X5_hasEar _ _ kA (u 2) (u 18) (u 19) (u 20) (u 21) (u 22) (u 23) (u 24) (u 25) (u 26) (u 27) (u 28) (u 29) a ) tw_789 tw_790 tw_791 tw_90 tw_792 (by decide +kernel) rfl ⟨Nat.le_of_ble_eq_true rfl, Nat.le_of_ble_eq_true rfl⟩ rfl rfl rfl (by decide) rfl rfl (by decide) (by decide) (Nat.le_of_ble_eq_true rfl) rfl ⟨Nat.le_of_ble_eq_true rfl, Nat.le_of_ble_eq_true rfl⟩ dX11_areUnlikeEars_5 ?_
  rintro r _ e258
  subst e258
  show J x [(h0, .inr (11, [.ref (u 0), .ref (u 1), .ref (u 2), .ref (u 3), .ref (u 4), .ref (u 5), .ref (u 6), .ref (u 7), .ref (u 8), .ref (u 9), .ref (u 10), .ref (u 11), .ref (u 12), .ref (u 13), .ref (u 14), .ref (u 15), .ref (u 16), .int 0, .int 0])), ((u 2), .inr (5, [.ref (u 18), .ref (u 19), .ref (u 20), .ref (u 21), .ref (u 22), .ref (u 23), .ref (u 24), .ref (u 25), .ref (u 26), .ref (u 27), .ref (u 28), .ref (u 29), .int 0, .int 0, .int 0]))] [(0, .ref h0), (1, .int a), (2, .int b)] 0 0 8 [.int 0]
  refine j_if_eq h 31 dX11_areUnlikeEars_8 (by decide) (fun _ => ?_) (fun q => absurd (by decide) q)
  refine j_iconst (v := 0) h (by decide) dX11_areUnlikeEars_31 ?_
  exact j_zret h hq rfl dX11_areUnlikeEars_32 () [0, 1] rfl rfl (by decide) (by first | rfl | simp only [↓reduceIte]) (Nat.le_of_ble_eq_true rfl) (Nat.le_of_ble_eq_true rfl)
set_option maxHeartbeats 4000000 in
set_option maxRecDepth 100000 in
theorem c_X11_doubled (l : Launch) (g : va_G) (kA : Nat → ClassId) (h0 : Nat) (u : Nat → Nat) (a : Int32) (b : Int32)  : CtL l yX11_doubled cX11_doubled 3 (some .long) 3 0 0 g kA [.ref h0, .int a, .int b] [(h0, .inr (11, [.ref (u 0), .ref (u 1), .ref (u 2), .ref (u 3), .ref (u 4), .ref (u 5), .ref (u 6), .ref (u 7), .ref (u 8), .ref (u 9), .ref (u 10), .ref (u 11), .ref (u 12), .ref (u 13), .ref (u 14), .ref (u 15), .ref (u 16), .int 0, .int 0])), ((u 2), .inr (5, [.ref (u 18), .ref (u 19), .ref (u 20), .ref (u 21), .ref (u 22), .ref (u 23), .ref (u 24), .ref (u 25), .ref (u 26), .ref (u 27), .ref (u 28), .ref (u 29), .int 0, .int 0, .int 0]))] (S := Unit) (fun (r : Int64) (_ : Unit) => r = (-1)) (fun (_ : Unit) => []) := by
  refine nx_startL (by decide +kernel) (Nat.le_of_ble_eq_true rfl) ?_
  intro x hnm h hq
  have h : Ok x cX11_doubled RX11 kA (rmC 3 0 0) 3 := h
  show J x [(h0, .inr (11, [.ref (u 0), .ref (u 1), .ref (u 2), .ref (u 3), .ref (u 4), .ref (u 5), .ref (u 6), .ref (u 7), .ref (u 8), .ref (u 9), .ref (u 10), .ref (u 11), .ref (u 12), .ref (u 13), .ref (u 14), .ref (u 15), .ref (u 16), .int 0, .int 0])), ((u 2), .inr (5, [.ref (u 18), .ref (u 19), .ref (u 20), .ref (u 21), .ref (u 22), .ref (u 23), .ref (u 24), .ref (u 25), .ref (u 26), .ref (u 27), .ref (u 28), .ref (u 29), .int 0, .int 0, .int 0]))] [(0, .ref h0), (1, .int a), (2, .int b)] 0 0 0 []
  refine j_aload_n h 0 rfl rfl dX11_doubled_0 ?_
  refine j_iconst (v := 0) h (by decide) dX11_doubled_1 ?_
  refine j_put (ws' := [(h0, .inr (11, [.ref (u 0), .ref (u 1), .ref (u 2), .ref (u 3), .ref (u 4), .ref (u 5), .ref (u 6), .ref (u 7), .ref (u 8), .ref (u 9), .ref (u 10), .ref (u 11), .ref (u 12), .ref (u 13), .ref (u 14), .ref (u 15), .ref (u 16), .int 0, .int 0])), ((u 2), .inr (5, [.ref (u 18), .ref (u 19), .ref (u 20), .ref (u 21), .ref (u 22), .ref (u 23), .ref (u 24), .ref (u 25), .ref (u 26), .ref (u 27), .ref (u 28), .ref (u 29), .int 0, .int 0, .int 0]))]) h iw_X11 tyX11 tyX11_ok nmX11 0 rfl rfl 17 (by decide) tw_492 rfl rfl rfl (Nat.le_of_ble_eq_true rfl) dX11_doubled_2 rfl ?_
  refine j_aload_n h 0 rfl rfl dX11_doubled_5 ?_
  refine j_iload_n h 1 rfl rfl dX11_doubled_6 ?_
  refine j_iload_n h 2 rfl rfl dX11_doubled_7 ?_
  refine j_callVi (np := 2) (isC := [0, 1]) (isR := []) (wc := [(h0, .inr (11, [.ref (u 0), .ref (u 1), .ref (u 2), .ref (u 3), .ref (u 4), .ref (u 5), .ref (u 6), .ref (u 7), .ref (u 8), .ref (u 9), .ref (u 10), .ref (u 11), .ref (u 12), .ref (u 13), .ref (u 14), .ref (u 15), .ref (u 16), .int 0, .int 0])), ((u 2), .inr (5, [.ref (u 18), .ref (u 19), .ref (u 20), .ref (u 21), .ref (u 22), .ref (u 23), .ref (u 24), .ref (u 25), .ref (u 26), .ref (u 27), .ref (u 28), .ref (u 29), .int 0, .int 0, .int 0]))]) (wr := []) (rest := []) (As := [.int a, .int b]) (q0 := 0) h (c_X11_areUnlikeEars _ _ kA h0 u a b ) tw_960 tw_962 tw_26 tw_87 tw_963 (by decide +kernel) rfl ⟨Nat.le_of_ble_eq_true rfl, Nat.le_of_ble_eq_true rfl⟩ rfl rfl rfl (by decide) rfl rfl (by decide) (by decide) (Nat.le_of_ble_eq_true rfl) rfl ⟨Nat.le_of_ble_eq_true rfl, Nat.le_of_ble_eq_true rfl⟩ dX11_doubled_8 ?_
  rintro r _ e259
  subst e259
  show J x [(h0, .inr (11, [.ref (u 0), .ref (u 1), .ref (u 2), .ref (u 3), .ref (u 4), .ref (u 5), .ref (u 6), .ref (u 7), .ref (u 8), .ref (u 9), .ref (u 10), .ref (u 11), .ref (u 12), .ref (u 13), .ref (u 14), .ref (u 15), .ref (u 16), .int 0, .int 0])), ((u 2), .inr (5, [.ref (u 18), .ref (u 19), .ref (u 20), .ref (u 21), .ref (u 22), .ref (u 23), .ref (u 24), .ref (u 25), .ref (u 26), .ref (u 27), .ref (u 28), .ref (u 29), .int 0, .int 0, .int 0]))] [(0, .ref h0), (1, .int a), (2, .int b)] 0 0 11 [.int 0]
  refine j_if_ne h 18 dX11_doubled_11 (by decide) (fun q => absurd (by decide) q) (fun _ => ?_)
  refine j_ldc2 h tw_815 dX11_doubled_14 ?_
  exact j_lret h hq dX11_doubled_17 () [] rfl rfl (by decide) (by first | rfl | simp only [↓reduceIte]) (Nat.le_of_ble_eq_true rfl) (Nat.le_of_ble_eq_true rfl)
set_option maxHeartbeats 4000000 in
set_option maxRecDepth 100000 in
theorem c_X11_secret (l : Launch) (g : va_G) (kA : Nat → ClassId) (h0 : Nat) (u : Nat → Nat) (a : Int32) (b : Int32) (c : Int32)  : CtI l yX11_secret cX11_secret 7 (some .int) 3 0 0 g kA [.ref h0, .int a, .int b, .int c] [(h0, .inr (11, [.ref (u 0), .ref (u 1), .ref (u 2), .ref (u 3), .ref (u 4), .ref (u 5), .ref (u 6), .ref (u 7), .ref (u 8), .ref (u 9), .ref (u 10), .ref (u 11), .ref (u 12), .ref (u 13), .ref (u 14), .ref (u 15), .ref (u 16), .int 0, .int 0])), ((u 2), .inr (5, [.ref (u 18), .ref (u 19), .ref (u 20), .ref (u 21), .ref (u 22), .ref (u 23), .ref (u 24), .ref (u 25), .ref (u 26), .ref (u 27), .ref (u 28), .ref (u 29), .int 0, .int 0, .int 0]))] (S := Unit) (fun (r : Int32) (_ : Unit) => r = (-1)) (fun (_ : Unit) => []) := by
  refine nx_startI (by decide +kernel) (Nat.le_of_ble_eq_true rfl) ?_
  intro x hnm h hq
  have h : Ok x cX11_secret RX11 kA (rmC 3 0 0) 7 := h
  show J x [(h0, .inr (11, [.ref (u 0), .ref (u 1), .ref (u 2), .ref (u 3), .ref (u 4), .ref (u 5), .ref (u 6), .ref (u 7), .ref (u 8), .ref (u 9), .ref (u 10), .ref (u 11), .ref (u 12), .ref (u 13), .ref (u 14), .ref (u 15), .ref (u 16), .int 0, .int 0])), ((u 2), .inr (5, [.ref (u 18), .ref (u 19), .ref (u 20), .ref (u 21), .ref (u 22), .ref (u 23), .ref (u 24), .ref (u 25), .ref (u 26), .ref (u 27), .ref (u 28), .ref (u 29), .int 0, .int 0, .int 0]))] [(0, .ref h0), (1, .int a), (2, .int b), (3, .int c)] 0 0 0 []
  refine j_aload_n h 0 rfl rfl dX11_secret_0 ?_
  refine j_iconst (v := 0) h (by decide) dX11_secret_1 ?_
  refine j_put (ws' := [(h0, .inr (11, [.ref (u 0), .ref (u 1), .ref (u 2), .ref (u 3), .ref (u 4), .ref (u 5), .ref (u 6), .ref (u 7), .ref (u 8), .ref (u 9), .ref (u 10), .ref (u 11), .ref (u 12), .ref (u 13), .ref (u 14), .ref (u 15), .ref (u 16), .int 0, .int 0])), ((u 2), .inr (5, [.ref (u 18), .ref (u 19), .ref (u 20), .ref (u 21), .ref (u 22), .ref (u 23), .ref (u 24), .ref (u 25), .ref (u 26), .ref (u 27), .ref (u 28), .ref (u 29), .int 0, .int 0, .int 0]))]) h iw_X11 tyX11 tyX11_ok nmX11 0 rfl rfl 17 (by decide) tw_492 rfl rfl rfl (Nat.le_of_ble_eq_true rfl) dX11_secret_2 rfl ?_
  refine j_aload_n h 0 rfl rfl dX11_secret_5 ?_
  refine j_iload_n h 1 rfl rfl dX11_secret_6 ?_
  refine j_iload_n h 2 rfl rfl dX11_secret_7 ?_
  refine j_callVi (np := 2) (isC := [0, 1]) (isR := []) (wc := [(h0, .inr (11, [.ref (u 0), .ref (u 1), .ref (u 2), .ref (u 3), .ref (u 4), .ref (u 5), .ref (u 6), .ref (u 7), .ref (u 8), .ref (u 9), .ref (u 10), .ref (u 11), .ref (u 12), .ref (u 13), .ref (u 14), .ref (u 15), .ref (u 16), .int 0, .int 0])), ((u 2), .inr (5, [.ref (u 18), .ref (u 19), .ref (u 20), .ref (u 21), .ref (u 22), .ref (u 23), .ref (u 24), .ref (u 25), .ref (u 26), .ref (u 27), .ref (u 28), .ref (u 29), .int 0, .int 0, .int 0]))]) (wr := []) (rest := []) (As := [.int a, .int b]) (q0 := 0) h (c_X11_areUnlikeEars _ _ kA h0 u a b ) tw_960 tw_962 tw_26 tw_87 tw_963 (by decide +kernel) rfl ⟨Nat.le_of_ble_eq_true rfl, Nat.le_of_ble_eq_true rfl⟩ rfl rfl rfl (by decide) rfl rfl (by decide) (by decide) (Nat.le_of_ble_eq_true rfl) rfl ⟨Nat.le_of_ble_eq_true rfl, Nat.le_of_ble_eq_true rfl⟩ dX11_secret_8 ?_
  rintro r _ e260
  subst e260
  show J x [(h0, .inr (11, [.ref (u 0), .ref (u 1), .ref (u 2), .ref (u 3), .ref (u 4), .ref (u 5), .ref (u 6), .ref (u 7), .ref (u 8), .ref (u 9), .ref (u 10), .ref (u 11), .ref (u 12), .ref (u 13), .ref (u 14), .ref (u 15), .ref (u 16), .int 0, .int 0])), ((u 2), .inr (5, [.ref (u 18), .ref (u 19), .ref (u 20), .ref (u 21), .ref (u 22), .ref (u 23), .ref (u 24), .ref (u 25), .ref (u 26), .ref (u 27), .ref (u 28), .ref (u 29), .int 0, .int 0, .int 0]))] [(0, .ref h0), (1, .int a), (2, .int b), (3, .int c)] 0 0 11 [.int 0]
  refine j_if_eq h 24 dX11_secret_11 (by decide) (fun _ => ?_) (fun q => absurd (by decide) q)
  refine j_iconst (v := (-1)) h (by decide) dX11_secret_24 ?_
  exact j_iret h hq dX11_secret_25 () [] rfl rfl (by decide) (by first | rfl | simp only [↓reduceIte]) (Nat.le_of_ble_eq_true rfl) (Nat.le_of_ble_eq_true rfl)
