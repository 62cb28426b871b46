theorem dX5_hasStep_0 : decode cX5_hasStep 0 = .ok (.iload_n 1, 1) := by decide +kernel
theorem dX5_hasStep_1 : decode cX5_hasStep 1 = .ok (.ifCond .lt 15, 3) := by decide +kernel
theorem dX5_hasStep_16 : decode cX5_hasStep 16 = .ok (.iconst 0, 1) := by decide +kernel
theorem dX5_hasStep_17 : decode cX5_hasStep 17 = .ok (.ireturn, 1) := by decide +kernel
theorem dX5_hasStep_4 : decode cX5_hasStep 4 = .ok (.iload_n 1, 1) := by decide +kernel
theorem dX5_hasStep_5 : decode cX5_hasStep 5 = .ok (.aload_n 0, 1) := by decide +kernel
theorem dX5_hasStep_6 : decode cX5_hasStep 6 = .ok (.getfield 51, 3) := by decide +kernel
theorem iw_X5 : ∀ w ∈ u_ws RX5 TX5 15, w ∈ TT := nx_mems _ [232, 234, 236, 238, 240, 242, 244, 246, 248, 250, 252, 254, 256, 258, 260] (by decide +kernel) (by decide +kernel)
theorem tw_217 : Cond.fieldLink RX5 51 "LimpCode$School" "stepCount" "I" ∈ TT := nx_mem 217 (by decide +kernel) (by decide +kernel)
theorem dX5_hasStep_9 : decode cX5_hasStep 9 = .ok (.if_icmp .ge 7, 3) := by decide +kernel
theorem dX5_hasStep_12 : decode cX5_hasStep 12 = .ok (.iconst 1, 1) := by decide +kernel
theorem dX5_hasStep_13 : decode cX5_hasStep 13 = .ok (.goto 4, 3) := by decide +kernel
theorem dX5_hasLetter_0 : decode cX5_hasLetter 0 = .ok (.iload_n 1, 1) := by decide +kernel
theorem dX5_hasLetter_1 : decode cX5_hasLetter 1 = .ok (.ifCond .lt 15, 3) := by decide +kernel
theorem dX5_hasLetter_16 : decode cX5_hasLetter 16 = .ok (.iconst 0, 1) := by decide +kernel
theorem dX5_hasLetter_17 : decode cX5_hasLetter 17 = .ok (.ireturn, 1) := by decide +kernel
theorem dX5_hasLetter_4 : decode cX5_hasLetter 4 = .ok (.iload_n 1, 1) := by decide +kernel
theorem dX5_hasLetter_5 : decode cX5_hasLetter 5 = .ok (.aload_n 0, 1) := by decide +kernel
theorem dX5_hasLetter_6 : decode cX5_hasLetter 6 = .ok (.getfield 55, 3) := by decide +kernel
theorem tw_222 : Cond.fieldLink RX5 55 "LimpCode$School" "letterCount" "I" ∈ TT := nx_mem 222 (by decide +kernel) (by decide +kernel)
theorem dX5_hasLetter_9 : decode cX5_hasLetter 9 = .ok (.if_icmp .ge 7, 3) := by decide +kernel
theorem dX5_hasLetter_12 : decode cX5_hasLetter 12 = .ok (.iconst 1, 1) := by decide +kernel
theorem dX5_hasLetter_13 : decode cX5_hasLetter 13 = .ok (.goto 4, 3) := by decide +kernel
theorem dX5_hasEar_0 : decode cX5_hasEar 0 = .ok (.iload_n 1, 1) := by decide +kernel
theorem dX5_hasEar_1 : decode cX5_hasEar 1 = .ok (.ifCond .lt 15, 3) := by decide +kernel
theorem dX5_hasEar_16 : decode cX5_hasEar 16 = .ok (.iconst 0, 1) := by decide +kernel
theorem dX5_hasEar_17 : decode cX5_hasEar 17 = .ok (.ireturn, 1) := by decide +kernel
theorem dX5_hasEar_4 : decode cX5_hasEar 4 = .ok (.iload_n 1, 1) := by decide +kernel
theorem dX5_hasEar_5 : decode cX5_hasEar 5 = .ok (.aload_n 0, 1) := by decide +kernel
theorem dX5_hasEar_6 : decode cX5_hasEar 6 = .ok (.getfield 58, 3) := by decide +kernel
theorem tw_228 : Cond.fieldLink RX5 58 "LimpCode$School" "earCount" "I" ∈ TT := nx_mem 228 (by decide +kernel) (by decide +kernel)
theorem dX5_hasEar_9 : decode cX5_hasEar 9 = .ok (.if_icmp .ge 7, 3) := by decide +kernel
theorem dX5_hasEar_12 : decode cX5_hasEar 12 = .ok (.iconst 1, 1) := by decide +kernel
theorem dX5_hasEar_13 : decode cX5_hasEar 13 = .ok (.goto 4, 3) := by decide +kernel
theorem dX5_footAfter_0 : decode cX5_footAfter 0 = .ok (.aload_n 0, 1) := by decide +kernel
theorem dX5_footAfter_1 : decode cX5_footAfter 1 = .ok (.iload_n 1, 1) := by decide +kernel
theorem dX5_footAfter_2 : decode cX5_footAfter 2 = .ok (.invokevirtual 61, 3) := by decide +kernel
theorem tw_712 : Cond.methodLink RX5 61 yX5_hasStep ∈ TT := nx_mem 712 (by decide +kernel) (by decide +kernel)
theorem tw_713 : Cond.instanceMethod yX5_hasStep ∈ TT := nx_mem 713 (by decide +kernel) (by decide +kernel)
theorem tw_714 : Cond.selects RX5 yX5_hasStep yX5_hasStep ∈ TT := nx_mem 714 (by decide +kernel) (by decide +kernel)
theorem tw_90 : Cond.initialized RX5 ∈ TT := nx_mem 90 (by decide +kernel) (by decide +kernel)
theorem tw_715 : Cond.code yX5_hasStep cX5_hasStep 2 (some .boolean) ∈ TT := nx_mem 715 (by decide +kernel) (by decide +kernel)
theorem dX5_footAfter_5 : decode cX5_footAfter 5 = .ok (.ifCond .ne 5, 3) := by decide +kernel
theorem dX5_footAfter_8 : decode cX5_footAfter 8 = .ok (.iconst (-1), 1) := by decide +kernel
theorem dX5_footAfter_9 : decode cX5_footAfter 9 = .ok (.ireturn, 1) := by decide +kernel
theorem dX5_footAfter_10 : decode cX5_footAfter 10 = .ok (.aload_n 0, 1) := by decide +kernel
theorem dX5_footAfter_11 : decode cX5_footAfter 11 = .ok (.getfield 22, 3) := by decide +kernel
theorem tw_185 : Cond.fieldLink RX5 22 "LimpCode$School" "sides" "[I" ∈ TT := nx_mem 185 (by decide +kernel) (by decide +kernel)
theorem dX5_footAfter_14 : decode cX5_footAfter 14 = .ok (.iload_n 1, 1) := by decide +kernel
theorem dX5_footAfter_15 : decode cX5_footAfter 15 = .ok (.iaload, 1) := by decide +kernel
theorem dX5_footAfter_16 : decode cX5_footAfter 16 = .ok (.istore_n 3, 1) := by decide +kernel
theorem dX5_footAfter_17 : decode cX5_footAfter 17 = .ok (.iload_n 3, 1) := by decide +kernel
theorem dX5_footAfter_18 : decode cX5_footAfter 18 = .ok (.iconst 3, 1) := by decide +kernel
theorem dX5_footAfter_19 : decode cX5_footAfter 19 = .ok (.if_icmp .ne 5, 3) := by decide +kernel
theorem dX5_footAfter_24 : decode cX5_footAfter 24 = .ok (.iload_n 3, 1) := by decide +kernel
theorem dX5_footAfter_25 : decode cX5_footAfter 25 = .ok (.iconst 2, 1) := by decide +kernel
theorem dX5_footAfter_26 : decode cX5_footAfter 26 = .ok (.if_icmp .eq 8, 3) := by decide +kernel
theorem dX5_footAfter_34 : decode cX5_footAfter 34 = .ok (.iconst 1, 1) := by decide +kernel
theorem dX5_footAfter_35 : decode cX5_footAfter 35 = .ok (.iload_n 2, 1) := by decide +kernel
theorem dX5_footAfter_36 : decode cX5_footAfter 36 = .ok (.isub, 1) := by decide +kernel
theorem dX5_footAfter_37 : decode cX5_footAfter 37 = .ok (.goto 4, 3) := by decide +kernel
theorem dX5_footAfter_41 : decode cX5_footAfter 41 = .ok (.ireturn, 1) := by decide +kernel
theorem dX5_footAfter_29 : decode cX5_footAfter 29 = .ok (.iload_n 3, 1) := by decide +kernel
theorem dX5_footAfter_30 : decode cX5_footAfter 30 = .ok (.iload_n 2, 1) := by decide +kernel
theorem dX5_footAfter_31 : decode cX5_footAfter 31 = .ok (.if_icmp .ne 9, 3) := by decide +kernel
theorem dX5_footAfter_40 : decode cX5_footAfter 40 = .ok (.iconst (-1), 1) := by decide +kernel
theorem dX5_footAfter_22 : decode cX5_footAfter 22 = .ok (.iload_n 2, 1) := by decide +kernel
theorem dX5_footAfter_23 : decode cX5_footAfter 23 = .ok (.ireturn, 1) := by decide +kernel
theorem dX5_heardBelow_0 : decode cX5_heardBelow 0 = .ok (.aload_n 0, 1) := by decide +kernel
theorem dX5_heardBelow_1 : decode cX5_heardBelow 1 = .ok (.iload_n 2, 1) := by decide +kernel
theorem dX5_heardBelow_2 : decode cX5_heardBelow 2 = .ok (.invokevirtual 65, 3) := by decide +kernel
theorem tw_801 : Cond.methodLink RX5 65 yX5_hasEar ∈ TT := nx_mem 801 (by decide +kernel) (by decide +kernel)
theorem tw_790 : Cond.instanceMethod yX5_hasEar ∈ TT := nx_mem 790 (by decide +kernel) (by decide +kernel)
theorem tw_791 : Cond.selects RX5 yX5_hasEar yX5_hasEar ∈ TT := nx_mem 791 (by decide +kernel) (by decide +kernel)
theorem tw_792 : Cond.code yX5_hasEar cX5_hasEar 2 (some .boolean) ∈ TT := nx_mem 792 (by decide +kernel) (by decide +kernel)
theorem dX5_heardBelow_5 : decode cX5_heardBelow 5 = .ok (.ifCond .eq 18, 3) := by decide +kernel
theorem dX5_heardBelow_23 : decode cX5_heardBelow 23 = .ok (.iconst 0, 1) := by decide +kernel
theorem dX5_heardBelow_24 : decode cX5_heardBelow 24 = .ok (.ireturn, 1) := by decide +kernel
theorem dX5_heardBelow_8 : decode cX5_heardBelow 8 = .ok (.iconst 0, 1) := by decide +kernel
theorem dX5_heardBelow_9 : decode cX5_heardBelow 9 = .ok (.iload_n 1, 1) := by decide +kernel
theorem dX5_heardBelow_10 : decode cX5_heardBelow 10 = .ok (.aload_n 0, 1) := by decide +kernel
theorem dX5_heardBelow_11 : decode cX5_heardBelow 11 = .ok (.getfield 45, 3) := by decide +kernel
theorem tw_211 : Cond.fieldLink RX5 45 "LimpCode$School" "floors" "[I" ∈ TT := nx_mem 211 (by decide +kernel) (by decide +kernel)
theorem dX5_heardBelow_14 : decode cX5_heardBelow 14 = .ok (.iload_n 2, 1) := by decide +kernel
theorem dX5_heardBelow_15 : decode cX5_heardBelow 15 = .ok (.iaload, 1) := by decide +kernel
theorem dX5_heardBelow_16 : decode cX5_heardBelow 16 = .ok (.isub, 1) := by decide +kernel
theorem dX5_heardBelow_17 : decode cX5_heardBelow 17 = .ok (.invokestatic 68, 3) := by decide +kernel
theorem tw_802 : Cond.methodLink RX5 68 yJ9_max_7cf53 ∈ TT := nx_mem 802 (by decide +kernel) (by decide +kernel)
theorem tw_803 : Cond.static yJ9_max_7cf53 ∈ TT := nx_mem 803 (by decide +kernel) (by decide +kernel)
theorem tw_105 : Cond.initialized RJ9 ∈ TT := nx_mem 105 (by decide +kernel) (by decide +kernel)
theorem tw_804 : Cond.code yJ9_max_7cf53 cJ9_max_7cf53 2 (some .int) ∈ TT := nx_mem 804 (by decide +kernel) (by decide +kernel)
theorem dX5_heardBelow_20 : decode cX5_heardBelow 20 = .ok (.goto 4, 3) := by decide +kernel
theorem dX11_putStep_0 : decode cX11_putStep 0 = .ok (.iload_n 1, 1) := by decide +kernel
theorem dX11_putStep_1 : decode cX11_putStep 1 = .ok (.iload_n 3, 1) := by decide +kernel
theorem dX11_putStep_2 : decode cX11_putStep 2 = .ok (.iadd, 1) := by decide +kernel
theorem dX11_putStep_3 : decode cX11_putStep 3 = .ok (.aload_n 0, 1) := by decide +kernel
theorem dX11_putStep_4 : decode cX11_putStep 4 = .ok (.arraylength, 1) := by decide +kernel
theorem dX11_putStep_5 : decode cX11_putStep 5 = .ok (.invokestatic 319, 3) := by decide +kernel
theorem tw_808 : Cond.methodLink RX11 319 yJ9_min_7cf53 ∈ TT := nx_mem 808 (by decide +kernel) (by decide +kernel)
theorem tw_809 : Cond.static yJ9_min_7cf53 ∈ TT := nx_mem 809 (by decide +kernel) (by decide +kernel)
theorem tw_810 : Cond.code yJ9_min_7cf53 cJ9_min_7cf53 2 (some .int) ∈ TT := nx_mem 810 (by decide +kernel) (by decide +kernel)
theorem dX11_putStep_8 : decode cX11_putStep 8 = .ok (.istore 4, 2) := by decide +kernel
theorem dX11_putStep_10 : decode cX11_putStep 10 = .ok (.iload_n 1, 1) := by decide +kernel
theorem dX11_putStep_11 : decode cX11_putStep 11 = .ok (.istore 5, 2) := by decide +kernel
theorem dX11_putStep_13 : decode cX11_putStep 13 = .ok (.iload 5, 2) := by decide +kernel
theorem dX11_putStep_15 : decode cX11_putStep 15 = .ok (.iload 4, 2) := by decide +kernel
theorem dX11_putStep_17 : decode cX11_putStep 17 = .ok (.if_icmp .ge 24, 3) := by decide +kernel
theorem dX11_putStep_41 : decode cX11_putStep 41 = .ok (.iload 4, 2) := by decide +kernel
theorem dX11_putStep_43 : decode cX11_putStep 43 = .ok (.ireturn, 1) := by decide +kernel
theorem dX11_putStep_20 : decode cX11_putStep 20 = .ok (.aload_n 0, 1) := by decide +kernel
theorem dX11_putStep_21 : decode cX11_putStep 21 = .ok (.iload 5, 2) := by decide +kernel
theorem dX11_putStep_23 : decode cX11_putStep 23 = .ok (.iload 5, 2) := by decide +kernel
theorem dX11_putStep_25 : decode cX11_putStep 25 = .ok (.iload_n 1, 1) := by decide +kernel
theorem dX11_putStep_26 : decode cX11_putStep 26 = .ok (.if_icmp .ne 7, 3) := by decide +kernel
theorem dX11_putStep_33 : decode cX11_putStep 33 = .ok (.iconst 0, 1) := by decide +kernel
theorem dX11_putStep_34 : decode cX11_putStep 34 = .ok (.iastore, 1) := by decide +kernel
theorem dX11_putStep_35 : decode cX11_putStep 35 = .ok (.iinc 5 1, 3) := by decide +kernel
theorem dX11_putStep_38 : decode cX11_putStep 38 = .ok (.goto (-25), 3) := by decide +kernel
theorem dX11_putStep_29 : decode cX11_putStep 29 = .ok (.iload_n 2, 1) := by decide +kernel
theorem dX11_putStep_30 : decode cX11_putStep 30 = .ok (.goto 4, 3) := by decide +kernel
set_option maxHeartbeats 4000000 in
set_option maxRecDepth 100000 in
theorem s_X5_hasStep (lau : Launch) (gg : va_G) (kA : Nat → ClassId) (s : Nat) (e : Int32) (s0 : Nat) (s1 : Nat) (s2 : Nat) (s3 : Nat) (s4 : Nat) (s5 : Nat) (s6 : Nat) (s7 : Nat) (s8 : Nat) (s9 : Nat) (s10 : Nat) (s11 : Nat) (nv : Int32) (lv : Int32) (ev : Int32)  : CtI lau yX5_hasStep cX5_hasStep 2 (some .boolean) 1 0 0 gg kA [.ref s, .int e] (mflat [(s, .inl (.inr (5, [.ref s0, .ref s1, .ref s2, .ref s3, .ref s4, .ref s5, .ref s6, .ref s7, .ref s8, .ref s9, .ref s10, .ref s11, .int nv, .int lv, .int ev])))]) (S := Unit) (fun (r : Int32) (_ : Unit) => r = bIx e nv) (fun (_ : Unit) => mflat [(s, .inl (.inr (5, [.ref s0, .ref s1, .ref s2, .ref s3, .ref s4, .ref s5, .ref s6, .ref s7, .ref s8, .ref s9, .ref s10, .ref s11, .int nv, .int lv, .int ev])))]) := by
  refine nx_startI (by decide +kernel) (Nat.le_of_ble_eq_true rfl) ?_
  intro x hnm h hq
  have h : Ok x cX5_hasStep RX5 kA (rmC 1 0 0) 2 := h
  show J x (mflat [(s, .inl (.inr (5, [.ref s0, .ref s1, .ref s2, .ref s3, .ref s4, .ref s5, .ref s6, .ref s7, .ref s8, .ref s9, .ref s10, .ref s11, .int nv, .int lv, .int ev])))]) [(0, .ref s), (1, .int e)] 0 0 0 []
  refine j_iload_n h 1 rfl rfl dX5_hasStep_0 ?_
  refine j_if_lt h 16 dX5_hasStep_1 (by decide) (fun z4 => ?_) (fun z4 => ?_)
  · show J x (mflat [(s, .inl (.inr (5, [.ref s0, .ref s1, .ref s2, .ref s3, .ref s4, .ref s5, .ref s6, .ref s7, .ref s8, .ref s9, .ref s10, .ref s11, .int nv, .int lv, .int ev])))]) [(0, .ref s), (1, .int e)] 0 0 16 []
    refine j_iconst (v := 0) h (by decide) dX5_hasStep_16 ?_
    exact jm_zret h hq rfl dX5_hasStep_17 () [0] rfl (by decide) (by first | rfl | (unfold bIx; simp only [z4, ↓reduceIte]; done) | (subst_vars; decide)) (Nat.le_of_ble_eq_true rfl) (Nat.le_of_ble_eq_true rfl)
  · obtain ⟨j5, hj5, rfl⟩ := nI_of z4
    show J x (mflat [(s, .inl (.inr (5, [.ref s0, .ref s1, .ref s2, .ref s3, .ref s4, .ref s5, .ref s6, .ref s7, .ref s8, .ref s9, .ref s10, .ref s11, .int nv, .int lv, .int ev])))]) [(0, .ref s), (1, .int (nI j5))] 0 0 4 []
    refine j_iload_n h 1 rfl rfl dX5_hasStep_4 ?_
    refine j_aload_n h 0 rfl rfl dX5_hasStep_5 ?_
    refine jm_get h iw_X5 0 rfl rfl 12 (by decide +kernel) tw_217 rfl dX5_hasStep_6 ?_
    refine j_icmp_ge h 16 dX5_hasStep_9 (by decide) (fun z6 => ?_) (fun z6 => ?_)
    · show J x (mflat [(s, .inl (.inr (5, [.ref s0, .ref s1, .ref s2, .ref s3, .ref s4, .ref s5, .ref s6, .ref s7, .ref s8, .ref s9, .ref s10, .ref s11, .int nv, .int lv, .int ev])))]) [(0, .ref s), (1, .int (nI j5))] 0 0 16 []
      refine j_iconst (v := 0) h (by decide) dX5_hasStep_16 ?_
      exact jm_zret h hq rfl dX5_hasStep_17 () [0] rfl (by decide) (by first | rfl | (unfold bIx; simp only [z4, z6, ↓reduceIte]; done) | (subst_vars; decide)) (Nat.le_of_ble_eq_true rfl) (Nat.le_of_ble_eq_true rfl)
    · show J x (mflat [(s, .inl (.inr (5, [.ref s0, .ref s1, .ref s2, .ref s3, .ref s4, .ref s5, .ref s6, .ref s7, .ref s8, .ref s9, .ref s10, .ref s11, .int nv, .int lv, .int ev])))]) [(0, .ref s), (1, .int (nI j5))] 0 0 12 []
      refine j_iconst (v := 1) h (by decide) dX5_hasStep_12 ?_
      refine j_goto h 17 dX5_hasStep_13 (by decide) ?_
      exact jm_zret h hq rfl dX5_hasStep_17 () [0] rfl (by decide) (by first | rfl | (unfold bIx; simp only [z4, z6, ↓reduceIte]; done) | (subst_vars; decide)) (Nat.le_of_ble_eq_true rfl) (Nat.le_of_ble_eq_true rfl)
set_option maxHeartbeats 4000000 in
set_option maxRecDepth 100000 in
theorem s_X5_hasLetter (lau : Launch) (gg : va_G) (kA : Nat → ClassId) (s : Nat) (e : Int32) (s0 : Nat) (s1 : Nat) (s2 : Nat) (s3 : Nat) (s4 : Nat) (s5 : Nat) (s6 : Nat) (s7 : Nat) (s8 : Nat) (s9 : Nat) (s10 : Nat) (s11 : Nat) (nv : Int32) (lv : Int32) (ev : Int32)  : CtI lau yX5_hasLetter cX5_hasLetter 2 (some .boolean) 1 0 0 gg kA [.ref s, .int e] (mflat [(s, .inl (.inr (5, [.ref s0, .ref s1, .ref s2, .ref s3, .ref s4, .ref s5, .ref s6, .ref s7, .ref s8, .ref s9, .ref s10, .ref s11, .int nv, .int lv, .int ev])))]) (S := Unit) (fun (r : Int32) (_ : Unit) => r = bIx e lv) (fun (_ : Unit) => mflat [(s, .inl (.inr (5, [.ref s0, .ref s1, .ref s2, .ref s3, .ref s4, .ref s5, .ref s6, .ref s7, .ref s8, .ref s9, .ref s10, .ref s11, .int nv, .int lv, .int ev])))]) := by
  refine nx_startI (by decide +kernel) (Nat.le_of_ble_eq_true rfl) ?_
  intro x hnm h hq
  have h : Ok x cX5_hasLetter RX5 kA (rmC 1 0 0) 2 := h
  show J x (mflat [(s, .inl (.inr (5, [.ref s0, .ref s1, .ref s2, .ref s3, .ref s4, .ref s5, .ref s6, .ref s7, .ref s8, .ref s9, .ref s10, .ref s11, .int nv, .int lv, .int ev])))]) [(0, .ref s), (1, .int e)] 0 0 0 []
  refine j_iload_n h 1 rfl rfl dX5_hasLetter_0 ?_
  refine j_if_lt h 16 dX5_hasLetter_1 (by decide) (fun z10 => ?_) (fun z10 => ?_)
  · show J x (mflat [(s, .inl (.inr (5, [.ref s0, .ref s1, .ref s2, .ref s3, .ref s4, .ref s5, .ref s6, .ref s7, .ref s8, .ref s9, .ref s10, .ref s11, .int nv, .int lv, .int ev])))]) [(0, .ref s), (1, .int e)] 0 0 16 []
    refine j_iconst (v := 0) h (by decide) dX5_hasLetter_16 ?_
    exact jm_zret h hq rfl dX5_hasLetter_17 () [0] rfl (by decide) (by first | rfl | (unfold bIx; simp only [z10, ↓reduceIte]; done) | (subst_vars; decide)) (Nat.le_of_ble_eq_true rfl) (Nat.le_of_ble_eq_true rfl)
  · obtain ⟨j11, hj11, rfl⟩ := nI_of z10
    show J x (mflat [(s, .inl (.inr (5, [.ref s0, .ref s1, .ref s2, .ref s3, .ref s4, .ref s5, .ref s6, .ref s7, .ref s8, .ref s9, .ref s10, .ref s11, .int nv, .int lv, .int ev])))]) [(0, .ref s), (1, .int (nI j11))] 0 0 4 []
    refine j_iload_n h 1 rfl rfl dX5_hasLetter_4 ?_
    refine j_aload_n h 0 rfl rfl dX5_hasLetter_5 ?_
    refine jm_get h iw_X5 0 rfl rfl 13 (by decide +kernel) tw_222 rfl dX5_hasLetter_6 ?_
    refine j_icmp_ge h 16 dX5_hasLetter_9 (by decide) (fun z12 => ?_) (fun z12 => ?_)
    · show J x (mflat [(s, .inl (.inr (5, [.ref s0, .ref s1, .ref s2, .ref s3, .ref s4, .ref s5, .ref s6, .ref s7, .ref s8, .ref s9, .ref s10, .ref s11, .int nv, .int lv, .int ev])))]) [(0, .ref s), (1, .int (nI j11))] 0 0 16 []
      refine j_iconst (v := 0) h (by decide) dX5_hasLetter_16 ?_
      exact jm_zret h hq rfl dX5_hasLetter_17 () [0] rfl (by decide) (by first | rfl | (unfold bIx; simp only [z10, z12, ↓reduceIte]; done) | (subst_vars; decide)) (Nat.le_of_ble_eq_true rfl) (Nat.le_of_ble_eq_true rfl)
    · show J x (mflat [(s, .inl (.inr (5, [.ref s0, .ref s1, .ref s2, .ref s3, .ref s4, .ref s5, .ref s6, .ref s7, .ref s8, .ref s9, .ref s10, .ref s11, .int nv, .int lv, .int ev])))]) [(0, .ref s), (1, .int (nI j11))] 0 0 12 []
      refine j_iconst (v := 1) h (by decide) dX5_hasLetter_12 ?_
      refine j_goto h 17 dX5_hasLetter_13 (by decide) ?_
      exact jm_zret h hq rfl dX5_hasLetter_17 () [0] rfl (by decide) (by first | rfl | (unfold bIx; simp only [z10, z12, ↓reduceIte]; done) | (subst_vars; decide)) (Nat.le_of_ble_eq_true rfl) (Nat.le_of_ble_eq_true rfl)
set_option maxHeartbeats 4000000 in
set_option maxRecDepth 100000 in
theorem s_X5_hasEar (lau : Launch) (gg : va_G) (kA : Nat → ClassId) (s : Nat) (e : Int32) (s0 : Nat) (s1 : Nat) (s2 : Nat) (s3 : Nat) (s4 : Nat) (s5 : Nat) (s6 : Nat) (s7 : Nat) (s8 : Nat) (s9 : Nat) (s10 : Nat) (s11 : Nat) (nv : Int32) (lv : Int32) (ev : Int32)  : CtI lau yX5_hasEar cX5_hasEar 2 (some .boolean) 1 0 0 gg kA [.ref s, .int e] (mflat [(s, .inl (.inr (5, [.ref s0, .ref s1, .ref s2, .ref s3, .ref s4, .ref s5, .ref s6, .ref s7, .ref s8, .ref s9, .ref s10, .ref s11, .int nv, .int lv, .int ev])))]) (S := Unit) (fun (r : Int32) (_ : Unit) => r = bIx e ev) (fun (_ : Unit) => mflat [(s, .inl (.inr (5, [.ref s0, .ref s1, .ref s2, .ref s3, .ref s4, .ref s5, .ref s6, .ref s7, .ref s8, .ref s9, .ref s10, .ref s11, .int nv, .int lv, .int ev])))]) := by
  refine nx_startI (by decide +kernel) (Nat.le_of_ble_eq_true rfl) ?_
  intro x hnm h hq
  have h : Ok x cX5_hasEar RX5 kA (rmC 1 0 0) 2 := h
  show J x (mflat [(s, .inl (.inr (5, [.ref s0, .ref s1, .ref s2, .ref s3, .ref s4, .ref s5, .ref s6, .ref s7, .ref s8, .ref s9, .ref s10, .ref s11, .int nv, .int lv, .int ev])))]) [(0, .ref s), (1, .int e)] 0 0 0 []
  refine j_iload_n h 1 rfl rfl dX5_hasEar_0 ?_
  refine j_if_lt h 16 dX5_hasEar_1 (by decide) (fun z16 => ?_) (fun z16 => ?_)
  · show J x (mflat [(s, .inl (.inr (5, [.ref s0, .ref s1, .ref s2, .ref s3, .ref s4, .ref s5, .ref s6, .ref s7, .ref s8, .ref s9, .ref s10, .ref s11, .int nv, .int lv, .int ev])))]) [(0, .ref s), (1, .int e)] 0 0 16 []
    refine j_iconst (v := 0) h (by decide) dX5_hasEar_16 ?_
    exact jm_zret h hq rfl dX5_hasEar_17 () [0] rfl (by decide) (by first | rfl | (unfold bIx; simp only [z16, ↓reduceIte]; done) | (subst_vars; decide)) (Nat.le_of_ble_eq_true rfl) (Nat.le_of_ble_eq_true rfl)
  · obtain ⟨j17, hj17, rfl⟩ := nI_of z16
    show J x (mflat [(s, .inl (.inr (5, [.ref s0, .ref s1, .ref s2, .ref s3, .ref s4, .ref s5, .ref s6, .ref s7, .ref s8, .ref s9, .ref s10, .ref s11, .int nv, .int lv, .int ev])))]) [(0, .ref s), (1, .int (nI j17))] 0 0 4 []
    refine j_iload_n h 1 rfl rfl dX5_hasEar_4 ?_
    refine j_aload_n h 0 rfl rfl dX5_hasEar_5 ?_
    refine jm_get h iw_X5 0 rfl rfl 14 (by decide +kernel) tw_228 rfl dX5_hasEar_6 ?_
    refine j_icmp_ge h 16 dX5_hasEar_9 (by decide) (fun z18 => ?_) (fun z18 => ?_)
    · show J x (mflat [(s, .inl (.inr (5, [.ref s0, .ref s1, .ref s2, .ref s3, .ref s4, .ref s5, .ref s6, .ref s7, .ref s8, .ref s9, .ref s10, .ref s11, .int nv, .int lv, .int ev])))]) [(0, .ref s), (1, .int (nI j17))] 0 0 16 []
      refine j_iconst (v := 0) h (by decide) dX5_hasEar_16 ?_
      exact jm_zret h hq rfl dX5_hasEar_17 () [0] rfl (by decide) (by first | rfl | (unfold bIx; simp only [z16, z18, ↓reduceIte]; done) | (subst_vars; decide)) (Nat.le_of_ble_eq_true rfl) (Nat.le_of_ble_eq_true rfl)
    · show J x (mflat [(s, .inl (.inr (5, [.ref s0, .ref s1, .ref s2, .ref s3, .ref s4, .ref s5, .ref s6, .ref s7, .ref s8, .ref s9, .ref s10, .ref s11, .int nv, .int lv, .int ev])))]) [(0, .ref s), (1, .int (nI j17))] 0 0 12 []
      refine j_iconst (v := 1) h (by decide) dX5_hasEar_12 ?_
      refine j_goto h 17 dX5_hasEar_13 (by decide) ?_
      exact jm_zret h hq rfl dX5_hasEar_17 () [0] rfl (by decide) (by first | rfl | (unfold bIx; simp only [z16, z18, ↓reduceIte]; done) | (subst_vars; decide)) (Nat.le_of_ble_eq_true rfl) (Nat.le_of_ble_eq_true rfl)
set_option maxHeartbeats 4000000 in
set_option maxRecDepth 100000 in
theorem s_X5_footAfter (lau : Launch) (gg : va_G) (kA : Nat → ClassId) (s : Nat) (k : Nat) (f : Nat) (s0 : Nat) (s1 : Nat) (s2 : Nat) (s3 : Nat) (s4 : Nat) (s5 : Nat) (s6 : Nat) (s7 : Nat) (s8 : Nat) (s9 : Nat) (s10 : Nat) (s11 : Nat) (sn : Nat) (sl : Nat) (se : Nat) (sc3 : Nat → Int32) (hsn : sn ≤ 6) (hsl : sl ≤ 10) (hse : se ≤ 4) (hk : k < sn) (hf : f ≤ 1) : CtI lau yX5_footAfter cX5_footAfter 4 (some .int) 2 0 0 gg kA [.ref s, .int (nI k), .int (nI f)] (mflat [(s, .inl (.inr (5, [.ref s0, .ref s1, .ref s2, .ref s3, .ref s4, .ref s5, .ref s6, .ref s7, .ref s8, .ref s9, .ref s10, .ref s11, .int (nI sn), .int (nI sl), .int (nI se)]))), (s3, .inl (.inl (kA 1, 6, .inl sc3)))]) (S := Nat) (fun (r : Int32) (y_r : Nat) => r = pm y_r ∧ (y_r ≤ 2)) (fun (y_r : Nat) => mflat [(s, .inl (.inr (5, [.ref s0, .ref s1, .ref s2, .ref s3, .ref s4, .ref s5, .ref s6, .ref s7, .ref s8, .ref s9, .ref s10, .ref s11, .int (nI sn), .int (nI sl), .int (nI se)]))), (s3, .inl (.inl (kA 1, 6, .inl sc3)))]) := by
  refine nx_startI (by decide +kernel) (Nat.le_of_ble_eq_true rfl) ?_
  intro x hnm h hq
  have h : Ok x cX5_footAfter RX5 kA (rmC 2 0 0) 4 := h
  show J x (mflat [(s, .inl (.inr (5, [.ref s0, .ref s1, .ref s2, .ref s3, .ref s4, .ref s5, .ref s6, .ref s7, .ref s8, .ref s9, .ref s10, .ref s11, .int (nI sn), .int (nI sl), .int (nI se)]))), (s3, .inl (.inl (kA 1, 6, .inl sc3)))]) [(0, .ref s), (1, .int (nI k)), (2, .int (nI f))] 0 0 0 []
  refine j_aload_n h 0 rfl rfl dX5_footAfter_0 ?_
  refine j_iload_n h 1 rfl rfl dX5_footAfter_1 ?_
  refine jm_callVi (np := 1) (isC := [0]) (isR := [1]) (wc := [(s, .inl (.inr (5, [.ref s0, .ref s1, .ref s2, .ref s3, .ref s4, .ref s5, .ref s6, .ref s7, .ref s8, .ref s9, .ref s10, .ref s11, .int (nI sn), .int (nI sl), .int (nI se)])))]) (wr := [(s3, .inl (.inl (kA 1, 6, .inl sc3)))]) (rest := []) (As := [.int (nI k)]) (q0 := 0) h (s_X5_hasStep _ _ kA s (nI k) s0 s1 s2 s3 s4 s5 s6 s7 s8 s9 s10 s11 (nI sn) (nI sl) (nI se) ) tw_712 tw_713 tw_714 tw_90 tw_715 (by decide +kernel) rfl ⟨Nat.le_of_ble_eq_true rfl, Nat.le_of_ble_eq_true rfl⟩ rfl rfl (by decide +kernel) rfl rfl (by decide +kernel) (by decide +kernel) (Nat.le_of_ble_eq_true rfl) rfl ⟨Nat.le_of_ble_eq_true rfl, Nat.le_of_ble_eq_true rfl⟩ dX5_footAfter_2 ?_
  rintro r27 _ e26
  have p28 := e26
  subst p28
  show J x (mflat [(s3, .inl (.inl (kA 1, 6, .inl sc3))), (s, .inl (.inr (5, [.ref s0, .ref s1, .ref s2, .ref s3, .ref s4, .ref s5, .ref s6, .ref s7, .ref s8, .ref s9, .ref s10, .ref s11, .int (nI sn), .int (nI sl), .int (nI se)])))]) [(0, .ref s), (1, .int (nI k)), (2, .int (nI f))] 0 0 5 [.int (bIx (nI k) (nI sn))]
  rcases bIxn k sn (by omega) (by omega) with ⟨hj29, hT⟩ | ⟨hj29, hT⟩
  · refine j_top (b := 0) hT ?_
    show J x (mflat [(s3, .inl (.inl (kA 1, 6, .inl sc3))), (s, .inl (.inr (5, [.ref s0, .ref s1, .ref s2, .ref s3, .ref s4, .ref s5, .ref s6, .ref s7, .ref s8, .ref s9, .ref s10, .ref s11, .int (nI sn), .int (nI sl), .int (nI se)])))]) [(0, .ref s), (1, .int (nI k)), (2, .int (nI f))] 0 0 5 [.int 0]
    refine j_if_ne h 10 dX5_footAfter_5 (by decide) (fun q => absurd (by decide) q) (fun _ => ?_)
    refine j_iconst (v := (-1)) h (by decide) dX5_footAfter_8 ?_
    exact jm_iret h hq dX5_footAfter_9 0 [1, 0] rfl (by decide) ⟨rfl, (show 0 ≤ 2 by first | assumption | omega)⟩ (Nat.le_of_ble_eq_true rfl) (Nat.le_of_ble_eq_true rfl)
  · refine j_top (b := 1) hT ?_
    show J x (mflat [(s3, .inl (.inl (kA 1, 6, .inl sc3))), (s, .inl (.inr (5, [.ref s0, .ref s1, .ref s2, .ref s3, .ref s4, .ref s5, .ref s6, .ref s7, .ref s8, .ref s9, .ref s10, .ref s11, .int (nI sn), .int (nI sl), .int (nI se)])))]) [(0, .ref s), (1, .int (nI k)), (2, .int (nI f))] 0 0 5 [.int 1]
    refine j_if_ne h 10 dX5_footAfter_5 (by decide) (fun _ => ?_) (fun q => absurd q (by decide))
    refine j_aload_n h 0 rfl rfl dX5_footAfter_10 ?_
    refine jm_get h iw_X5 1 rfl rfl 3 (by decide +kernel) tw_185 rfl dX5_footAfter_11 ?_
    refine j_iload_n h 1 rfl rfl dX5_footAfter_14 ?_
    refine jm_iald h 0 rfl k rfl (by omega) (by omega) dX5_footAfter_15 ?_
    refine j_istore_n (lv' := [(3, .int (sc3 k)), (0, .ref s), (1, .int (nI k)), (2, .int (nI f))]) h dX5_footAfter_16 rfl (by decide) rfl ?_
    refine j_iload_n h 0 rfl rfl dX5_footAfter_17 ?_
    refine j_iconst (v := 3) h (by decide) dX5_footAfter_18 ?_
    refine j_icmp_ne h 24 dX5_footAfter_19 (by decide) (fun z30 => ?_) (fun z30 => ?_)
    · show J x (mflat [(s3, .inl (.inl (kA 1, 6, .inl sc3))), (s, .inl (.inr (5, [.ref s0, .ref s1, .ref s2, .ref s3, .ref s4, .ref s5, .ref s6, .ref s7, .ref s8, .ref s9, .ref s10, .ref s11, .int (nI sn), .int (nI sl), .int (nI se)])))]) [(3, .int (sc3 k)), (0, .ref s), (1, .int (nI k)), (2, .int (nI f))] 0 0 24 []
      refine j_iload_n h 0 rfl rfl dX5_footAfter_24 ?_
      refine j_iconst (v := 2) h (by decide) dX5_footAfter_25 ?_
      refine j_icmp_eq h 34 dX5_footAfter_26 (by decide) (fun z31 => ?_) (fun z31 => ?_)
      · show J x (mflat [(s3, .inl (.inl (kA 1, 6, .inl sc3))), (s, .inl (.inr (5, [.ref s0, .ref s1, .ref s2, .ref s3, .ref s4, .ref s5, .ref s6, .ref s7, .ref s8, .ref s9, .ref s10, .ref s11, .int (nI sn), .int (nI sl), .int (nI se)])))]) [(3, .int (sc3 k)), (0, .ref s), (1, .int (nI k)), (2, .int (nI f))] 0 0 34 []
        refine j_iconst (v := 1) h (by decide) dX5_footAfter_34 ?_
        refine j_iload_n h 3 rfl rfl dX5_footAfter_35 ?_
        refine j_isub h dX5_footAfter_36 ?_
        refine j_top (b := nI (1 - f)) (pk_sub (a := 1) (b := f) (by omega)) ?_
        refine j_goto h 41 dX5_footAfter_37 (by decide) ?_
        exact jm_iret h hq dX5_footAfter_41 ((1 - f) + 1) [1, 0] rfl (by decide) ⟨rfl, (show ((1 - f) + 1) ≤ 2 by first | assumption | omega)⟩ (Nat.le_of_ble_eq_true rfl) (Nat.le_of_ble_eq_true rfl)
      · show J x (mflat [(s3, .inl (.inl (kA 1, 6, .inl sc3))), (s, .inl (.inr (5, [.ref s0, .ref s1, .ref s2, .ref s3, .ref s4, .ref s5, .ref s6, .ref s7, .ref s8, .ref s9, .ref s10, .ref s11, .int (nI sn), .int (nI sl), .int (nI se)])))]) [(3, .int (sc3 k)), (0, .ref s), (1, .int (nI k)), (2, .int (nI f))] 0 0 29 []
        refine j_iload_n h 0 rfl rfl dX5_footAfter_29 ?_
        refine j_iload_n h 3 rfl rfl dX5_footAfter_30 ?_
        refine j_icmp_ne h 40 dX5_footAfter_31 (by decide) (fun z32 => ?_) (fun z32 => ?_)
        · show J x (mflat [(s3, .inl (.inl (kA 1, 6, .inl sc3))), (s, .inl (.inr (5, [.ref s0, .ref s1, .ref s2, .ref s3, .ref s4, .ref s5, .ref s6, .ref s7, .ref s8, .ref s9, .ref s10, .ref s11, .int (nI sn), .int (nI sl), .int (nI se)])))]) [(3, .int (sc3 k)), (0, .ref s), (1, .int (nI k)), (2, .int (nI f))] 0 0 40 []
          refine j_iconst (v := (-1)) h (by decide) dX5_footAfter_40 ?_
          exact jm_iret h hq dX5_footAfter_41 0 [1, 0] rfl (by decide) ⟨rfl, (show 0 ≤ 2 by first | assumption | omega)⟩ (Nat.le_of_ble_eq_true rfl) (Nat.le_of_ble_eq_true rfl)
        · show J x (mflat [(s3, .inl (.inl (kA 1, 6, .inl sc3))), (s, .inl (.inr (5, [.ref s0, .ref s1, .ref s2, .ref s3, .ref s4, .ref s5, .ref s6, .ref s7, .ref s8, .ref s9, .ref s10, .ref s11, .int (nI sn), .int (nI sl), .int (nI se)])))]) [(3, .int (sc3 k)), (0, .ref s), (1, .int (nI k)), (2, .int (nI f))] 0 0 34 []
          refine j_iconst (v := 1) h (by decide) dX5_footAfter_34 ?_
          refine j_iload_n h 3 rfl rfl dX5_footAfter_35 ?_
          refine j_isub h dX5_footAfter_36 ?_
          refine j_top (b := nI (1 - f)) (pk_sub (a := 1) (b := f) (by omega)) ?_
          refine j_goto h 41 dX5_footAfter_37 (by decide) ?_
          exact jm_iret h hq dX5_footAfter_41 ((1 - f) + 1) [1, 0] rfl (by decide) ⟨rfl, (show ((1 - f) + 1) ≤ 2 by first | assumption | omega)⟩ (Nat.le_of_ble_eq_true rfl) (Nat.le_of_ble_eq_true rfl)
    · show J x (mflat [(s3, .inl (.inl (kA 1, 6, .inl sc3))), (s, .inl (.inr (5, [.ref s0, .ref s1, .ref s2, .ref s3, .ref s4, .ref s5, .ref s6, .ref s7, .ref s8, .ref s9, .ref s10, .ref s11, .int (nI sn), .int (nI sl), .int (nI se)])))]) [(3, .int (sc3 k)), (0, .ref s), (1, .int (nI k)), (2, .int (nI f))] 0 0 22 []
      refine j_iload_n h 3 rfl rfl dX5_footAfter_22 ?_
      exact jm_iret h hq dX5_footAfter_23 (f + 1) [1, 0] rfl (by decide) ⟨rfl, (show (f + 1) ≤ 2 by first | assumption | omega)⟩ (Nat.le_of_ble_eq_true rfl) (Nat.le_of_ble_eq_true rfl)
set_option maxHeartbeats 4000000 in
set_option maxRecDepth 100000 in
theorem s_X5_heardBelow (lau : Launch) (gg : va_G) (kA : Nat → ClassId) (s : Nat) (lo : Int32) (ear : Int32) (s0 : Nat) (s1 : Nat) (s2 : Nat) (s3 : Nat) (s4 : Nat) (s5 : Nat) (s6 : Nat) (s7 : Nat) (s8 : Nat) (s9 : Nat) (s10 : Nat) (s11 : Nat) (sn : Nat) (sl : Nat) (se : Nat) (sc10 : Nat → Int32) (hsn : sn ≤ 6) (hsl : sl ≤ 10) (hse : se ≤ 4) : CtI lau yX5_heardBelow cX5_heardBelow 3 (some .int) 2 0 0 gg kA [.ref s, .int lo, .int ear] (mflat [(s, .inl (.inr (5, [.ref s0, .ref s1, .ref s2, .ref s3, .ref s4, .ref s5, .ref s6, .ref s7, .ref s8, .ref s9, .ref s10, .ref s11, .int (nI sn), .int (nI sl), .int (nI se)]))), (s10, .inl (.inl (kA 1, 4, .inl sc10)))]) (S := Unit) (fun (r : Int32) (_ : Unit) => True) (fun (_ : Unit) => mflat [(s, .inl (.inr (5, [.ref s0, .ref s1, .ref s2, .ref s3, .ref s4, .ref s5, .ref s6, .ref s7, .ref s8, .ref s9, .ref s10, .ref s11, .int (nI sn), .int (nI sl), .int (nI se)]))), (s10, .inl (.inl (kA 1, 4, .inl sc10)))]) := by
  refine nx_startI (by decide +kernel) (Nat.le_of_ble_eq_true rfl) ?_
  intro x hnm h hq
  have h : Ok x cX5_heardBelow RX5 kA (rmC 2 0 0) 3 := h
  show J x (mflat [(s, .inl (.inr (5, [.ref s0, .ref s1, .ref s2, .ref s3, .ref s4, .ref s5, .ref s6, .ref s7, .ref s8, .ref s9, .ref s10, .ref s11, .int (nI sn), .int (nI sl), .int (nI se)]))), (s10, .inl (.inl (kA 1, 4, .inl sc10)))]) [(0, .ref s), (1, .int lo), (2, .int ear)] 0 0 0 []
  refine j_aload_n h 0 rfl rfl dX5_heardBelow_0 ?_
  refine j_iload_n h 2 rfl rfl dX5_heardBelow_1 ?_
  refine jm_callVi (np := 1) (isC := [0]) (isR := [1]) (wc := [(s, .inl (.inr (5, [.ref s0, .ref s1, .ref s2, .ref s3, .ref s4, .ref s5, .ref s6, .ref s7, .ref s8, .ref s9, .ref s10, .ref s11, .int (nI sn), .int (nI sl), .int (nI se)])))]) (wr := [(s10, .inl (.inl (kA 1, 4, .inl sc10)))]) (rest := []) (As := [.int ear]) (q0 := 0) h (s_X5_hasEar _ _ kA s ear s0 s1 s2 s3 s4 s5 s6 s7 s8 s9 s10 s11 (nI sn) (nI sl) (nI se) ) tw_801 tw_790 tw_791 tw_90 tw_792 (by decide +kernel) rfl ⟨Nat.le_of_ble_eq_true rfl, Nat.le_of_ble_eq_true rfl⟩ rfl rfl (by decide +kernel) rfl rfl (by decide +kernel) (by decide +kernel) (Nat.le_of_ble_eq_true rfl) rfl ⟨Nat.le_of_ble_eq_true rfl, Nat.le_of_ble_eq_true rfl⟩ dX5_heardBelow_2 ?_
  rintro r39 _ e38
  have p40 := e38
  subst p40
  show J x (mflat [(s10, .inl (.inl (kA 1, 4, .inl sc10))), (s, .inl (.inr (5, [.ref s0, .ref s1, .ref s2, .ref s3, .ref s4, .ref s5, .ref s6, .ref s7, .ref s8, .ref s9, .ref s10, .ref s11, .int (nI sn), .int (nI sl), .int (nI se)])))]) [(0, .ref s), (1, .int lo), (2, .int ear)] 0 0 5 [.int (bIx ear (nI se))]
  rcases bIx_cases ear se (by omega) with hTj41 | ⟨j41, hj41, rfl, hBj41⟩
  · refine j_top (b := 0) hTj41 ?_
    show J x (mflat [(s10, .inl (.inl (kA 1, 4, .inl sc10))), (s, .inl (.inr (5, [.ref s0, .ref s1, .ref s2, .ref s3, .ref s4, .ref s5, .ref s6, .ref s7, .ref s8, .ref s9, .ref s10, .ref s11, .int (nI sn), .int (nI sl), .int (nI se)])))]) [(0, .ref s), (1, .int lo), (2, .int ear)] 0 0 5 [.int 0]
    refine j_if_eq h 23 dX5_heardBelow_5 (by decide) (fun _ => ?_) (fun q => absurd (by decide) q)
    refine j_iconst (v := 0) h (by decide) dX5_heardBelow_23 ?_
    exact jm_iret h hq dX5_heardBelow_24 () [1, 0] rfl (by decide) trivial (Nat.le_of_ble_eq_true rfl) (Nat.le_of_ble_eq_true rfl)
  · refine j_top (b := 1) hBj41 ?_
    show J x (mflat [(s10, .inl (.inl (kA 1, 4, .inl sc10))), (s, .inl (.inr (5, [.ref s0, .ref s1, .ref s2, .ref s3, .ref s4, .ref s5, .ref s6, .ref s7, .ref s8, .ref s9, .ref s10, .ref s11, .int (nI sn), .int (nI sl), .int (nI se)])))]) [(0, .ref s), (1, .int lo), (2, .int (nI j41))] 0 0 5 [.int 1]
    refine j_if_eq h 23 dX5_heardBelow_5 (by decide) (fun q => absurd q (by decide)) (fun _ => ?_)
    refine j_iconst (v := 0) h (by decide) dX5_heardBelow_8 ?_
    refine j_iload_n h 1 rfl rfl dX5_heardBelow_9 ?_
    refine j_aload_n h 0 rfl rfl dX5_heardBelow_10 ?_
    refine jm_get h iw_X5 1 rfl rfl 10 (by decide +kernel) tw_211 rfl dX5_heardBelow_11 ?_
    refine j_iload_n h 2 rfl rfl dX5_heardBelow_14 ?_
    refine jm_iald h 0 rfl j41 rfl (by omega) (by omega) dX5_heardBelow_15 ?_
    refine j_isub h dX5_heardBelow_16 ?_
    refine j_mmax h tw_802 tw_803 tw_105 tw_804 (Nat.le_of_ble_eq_true rfl) (Nat.le_of_ble_eq_true rfl) (Nat.le_of_ble_eq_true rfl) (Nat.le_of_ble_eq_true rfl) (Nat.le_of_ble_eq_true rfl) dX5_heardBelow_17 ?_
    obtain ⟨j42, hj42, ej42⟩ := mx0' (lo - (sc10 j41))
    refine j_top (b := nI j42) (ej42) ?_
    refine j_goto h 24 dX5_heardBelow_20 (by decide) ?_
    exact jm_iret h hq dX5_heardBelow_24 () [1, 0] rfl (by decide) trivial (Nat.le_of_ble_eq_true rfl) (Nat.le_of_ble_eq_true rfl)
set_option maxHeartbeats 4000000 in
set_option maxRecDepth 100000 in
theorem s_X11_putStep (lau : Launch) (gg : va_G) (kA : Nat → ClassId) (r0 : Nat) (fr : Nat) (hh : Int32) (tk : Nat) (n0 : Nat) (f : Nat → Int32) (hn0 : n0 ≤ 60) (hfr : fr ≤ n0) (htk : tk ≤ 9) : CtI lau yX11_putStep cX11_putStep 6 (some .int) 1 0 0 gg kA [.ref r0, .int (nI fr), .int hh, .int (nI tk)] (mflat [(r0, .inl (.inl (kA 1, n0, .inl f)))]) (S := Nat × (Nat → Int32)) (fun (r : Int32) ((y_r, y_r0) : Nat × (Nat → Int32)) => r = nI y_r ∧ (y_r ≤ n0) ∧ (fr ≤ y_r)) (fun ((y_r, y_r0) : Nat × (Nat → Int32)) => mflat [(r0, .inl (.inl (kA 1, n0, .inl y_r0)))]) := by
  refine nx_startI (by decide +kernel) (Nat.le_of_ble_eq_true rfl) ?_
  intro x hnm h hq
  have h : Ok x cX11_putStep RX11 kA (rmC 1 0 0) 6 := h
  show J x (mflat [(r0, .inl (.inl (kA 1, n0, .inl f)))]) [(0, .ref r0), (1, .int (nI fr)), (2, .int hh), (3, .int (nI tk))] 0 0 0 []
  refine j_iload_n h 1 rfl rfl dX11_putStep_0 ?_
  refine j_iload_n h 3 rfl rfl dX11_putStep_1 ?_
  refine j_iadd h dX11_putStep_2 ?_
  refine j_top (b := nI (fr + tk)) (nI_add fr tk) ?_
  refine j_aload_n h 0 rfl rfl dX11_putStep_3 ?_
  refine jm_alen (v := nI n0) h 0 1 rfl rfl rfl dX11_putStep_4 ?_
  refine j_mmin h tw_808 tw_809 tw_105 tw_810 (Nat.le_of_ble_eq_true rfl) (Nat.le_of_ble_eq_true rfl) (Nat.le_of_ble_eq_true rfl) (Nat.le_of_ble_eq_true rfl) (Nat.le_of_ble_eq_true rfl) dX11_putStep_5 ?_
  refine j_top (b := nI (min (fr + tk) n0)) (nx_min (a := (fr + tk)) (b := n0) (by omega) (by omega)) ?_
  refine j_istore (lv' := [(4, .int (nI (min (fr + tk) n0))), (0, .ref r0), (1, .int (nI fr)), (2, .int hh), (3, .int (nI tk))]) h dX11_putStep_8 (by decide) rfl ?_
  refine j_iload_n h 2 rfl rfl dX11_putStep_10 ?_
  refine j_istore (lv' := [(5, .int (nI fr)), (4, .int (nI (min (fr + tk) n0))), (0, .ref r0), (1, .int (nI fr)), (2, .int hh), (3, .int (nI tk))]) h dX11_putStep_11 (by decide) rfl ?_
  have lp13_6 : ∀ (m13_6 : Nat), ∀ (v5_13_6 : Nat) (fr0_13_6 : Nat → Int32), (v5_13_6 ≤ 100000) → 100001 - v5_13_6 < m13_6 → J x (mflat [(r0, .inl (.inl (kA 1, n0, .inl fr0_13_6)))]) [(5, .int (nI v5_13_6)), (4, .int (nI (min (fr + tk) n0))), (0, .ref r0), (1, .int (nI fr)), (2, .int hh), (3, .int (nI tk))] 0 0 13 [] := by
    intro m13_6
    induction m13_6 with
    | zero =>
      intro v5_13_6 fr0_13_6 i13_6_0 hm13_6
      exact absurd hm13_6 (Nat.not_lt_zero _)
    | succ m13_6 ih13_6 =>
      intro v5_13_6 fr0_13_6 i13_6_0 hm13_6
      refine j_iload h 0 rfl dX11_putStep_13 ?_
      refine j_iload h 1 rfl dX11_putStep_15 ?_
      refine j_icmp_ge h 41 dX11_putStep_17 (by decide) (fun z53 => ?_) (fun z53 => ?_)
      · have z53n : (min (fr + tk) n0) ≤ v5_13_6 := (nI_leI (a := (min (fr + tk) n0)) (b := v5_13_6) (by omega) (by omega)).mp z53
        refine j_iload h 1 rfl dX11_putStep_41 ?_
        exact jm_iret h hq dX11_putStep_43 ((min (fr + tk) n0), fr0_13_6) [0] rfl (by decide) ⟨rfl, (show (min (fr + tk) n0) ≤ n0 by first | assumption | omega), (show fr ≤ (min (fr + tk) n0) by first | assumption | omega)⟩ (Nat.le_of_ble_eq_true rfl) (Nat.le_of_ble_eq_true rfl)
      · have z53n : ¬ (min (fr + tk) n0) ≤ v5_13_6 := fun q9 => z53 ((nI_leI (a := (min (fr + tk) n0)) (b := v5_13_6) (by omega) (by omega)).mpr q9)
        refine j_aload_n h 2 rfl rfl dX11_putStep_20 ?_
        refine j_iload h 0 rfl dX11_putStep_21 ?_
        refine j_iload h 0 rfl dX11_putStep_23 ?_
        refine j_iload_n h 3 rfl rfl dX11_putStep_25 ?_
        refine j_icmp_ne h 33 dX11_putStep_26 (by decide) (fun z54 => ?_) (fun z54 => ?_)
        · have z54n : ¬ v5_13_6 = fr := fun q9 => z54 ((nI_eq (a := v5_13_6) (b := fr) (by omega) (by omega)).mpr q9)
          refine j_iconst (v := 0) h (by decide) dX11_putStep_33 ?_
          refine jm_iast (w' := [(r0, .inl (.inl (kA 1, n0, .inl (upd fr0_13_6 v5_13_6 0))))]) h 0 rfl v5_13_6 rfl (by omega) (by omega) dX11_putStep_34 rfl ?_
          refine j_iinc (v := nI (v5_13_6 + 1)) (lv' := [(5, .int (nI (v5_13_6 + 1))), (4, .int (nI (min (fr + tk) n0))), (0, .ref r0), (1, .int (nI fr)), (2, .int hh), (3, .int (nI tk))]) h dX11_putStep_35 0 rfl (nI_add v5_13_6 1) (by decide) rfl ?_
          refine j_goto h 13 dX11_putStep_38 (by decide) ?_
          refine jm_sub [0] (w' := [(r0, .inl (.inl (kA 1, n0, .inl (upd fr0_13_6 v5_13_6 0))))]) rfl (by decide +kernel) [0, 1, 2, 3, 4, 5] (lv' := [(5, .int (nI (v5_13_6 + 1))), (4, .int (nI (min (fr + tk) n0))), (0, .ref r0), (1, .int (nI fr)), (2, .int hh), (3, .int (nI tk))]) rfl ?_
          exact ih13_6 (v5_13_6 + 1) (upd fr0_13_6 v5_13_6 0) (show (v5_13_6 + 1) ≤ 100000 by first | assumption | omega) (show 100001 - (v5_13_6 + 1) < m13_6 by first | exact Nat.lt_of_lt_of_le (Nat.sub_lt_sub_left (Nat.lt_of_le_of_lt (show v5_13_6 ≤ 100000 by assumption) (Nat.lt_succ_self 100000)) (Nat.lt_succ_self v5_13_6)) (Nat.le_of_lt_succ hm13_6) | omega)
        · have z54n : v5_13_6 = fr := (nI_eq (a := v5_13_6) (b := fr) (by omega) (by omega)).mp z54
          refine j_iload_n h 4 rfl rfl dX11_putStep_29 ?_
          refine j_goto h 34 dX11_putStep_30 (by decide) ?_
          refine jm_iast (w' := [(r0, .inl (.inl (kA 1, n0, .inl (upd fr0_13_6 v5_13_6 hh))))]) h 0 rfl v5_13_6 rfl (by omega) (by omega) dX11_putStep_34 rfl ?_
          refine j_iinc (v := nI (v5_13_6 + 1)) (lv' := [(5, .int (nI (v5_13_6 + 1))), (4, .int (nI (min (fr + tk) n0))), (0, .ref r0), (1, .int (nI fr)), (2, .int hh), (3, .int (nI tk))]) h dX11_putStep_35 0 rfl (nI_add v5_13_6 1) (by decide) rfl ?_
          refine j_goto h 13 dX11_putStep_38 (by decide) ?_
          refine jm_sub [0] (w' := [(r0, .inl (.inl (kA 1, n0, .inl (upd fr0_13_6 v5_13_6 hh))))]) rfl (by decide +kernel) [0, 1, 2, 3, 4, 5] (lv' := [(5, .int (nI (v5_13_6 + 1))), (4, .int (nI (min (fr + tk) n0))), (0, .ref r0), (1, .int (nI fr)), (2, .int hh), (3, .int (nI tk))]) rfl ?_
          exact ih13_6 (v5_13_6 + 1) (upd fr0_13_6 v5_13_6 hh) (show (v5_13_6 + 1) ≤ 100000 by first | assumption | omega) (show 100001 - (v5_13_6 + 1) < m13_6 by first | exact Nat.lt_of_lt_of_le (Nat.sub_lt_sub_left (Nat.lt_of_le_of_lt (show v5_13_6 ≤ 100000 by assumption) (Nat.lt_succ_self 100000)) (Nat.lt_succ_self v5_13_6)) (Nat.le_of_lt_succ hm13_6) | omega)
  refine jm_sub [0] (w' := [(r0, .inl (.inl (kA 1, n0, .inl f)))]) rfl (by decide +kernel) [0, 1, 2, 3, 4, 5] (lv' := [(5, .int (nI fr)), (4, .int (nI (min (fr + tk) n0))), (0, .ref r0), (1, .int (nI fr)), (2, .int hh), (3, .int (nI tk))]) rfl ?_
  exact lp13_6 (100001 - fr + 1) fr f (show fr ≤ 100000 by first | assumption | omega) (Nat.lt_succ_self _)
