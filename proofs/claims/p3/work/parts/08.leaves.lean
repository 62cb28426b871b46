theorem nx_defN {N : Nat} {ty : Nat → FieldType} {fs : List Value} (h : (List.range N).map (fun j => defaultValue (ty j)) = (List.range N).map (fun j => vp_V fs j)) : ∀ j, j < N → defaultValue (ty j) = vp_V fs j := fun j hj => List.map_inj_left.mp h j (List.mem_range.mpr hj)
def bIx (e m : Int32) : Int32 := if e < 0 then 0 else if m ≤ e then 0 else 1
theorem bIx_cases (e : Int32) (n : Nat) (hn : n < 2147483648) : bIx e (nI n) = 0 ∨ ∃ k : Nat, k < n ∧ e = nI k ∧ bIx (nI k) (nI n) = 1 := by
  unfold bIx
  by_cases h : e < 0
  · exact Or.inl (if_pos h)
  · obtain ⟨j, hj, rfl⟩ := nI_of h
    rcases Nat.lt_or_ge j n with q | q
    · refine Or.inr ⟨j, q, rfl, ?_⟩
      rw [if_neg h, if_neg (nI_ge q hn)]
    · refine Or.inl ?_
      rw [if_neg h, if_pos (nI_le q hj)]
def footA (s : Int32) (f : Nat) : Int32 := if s = 3 then nI f else if s = 2 then 1 - nI f else if s = nI f then 1 - nI f else -1
theorem footA_cases (s : Int32) {f : Nat} (hf : f ≤ 1) : footA s f = -1 ∨ ∃ g : Nat, g ≤ 1 ∧ footA s f = nI g := by
  have h1 : ∃ g : Nat, g ≤ 1 ∧ (1 : Int32) - nI f = nI g := by
    rcases (show f = 0 ∨ f = 1 by omega) with rfl | rfl
    · exact ⟨1, by decide, by decide⟩
    · exact ⟨0, by decide, by decide⟩
  unfold footA
  split
  · exact Or.inr ⟨f, hf, rfl⟩
  · split
    · exact Or.inr h1
    · split
      · exact Or.inr h1
      · exact Or.inl rfl
def hbV (fl : Nat → Int32) (e : Nat) (lo ear : Int32) : Int32 := if bIx ear (nI e) = 0 then 0 else if 0 < lo - fl ear.toNatClampNeg then lo - fl ear.toNatClampNeg else 0
theorem hbV_0 {fl : Nat → Int32} {e : Nat} {lo ear : Int32} (h : bIx ear (nI e) = 0) : hbV fl e lo ear = 0 := if_pos h
theorem hbV_1 {fl : Nat → Int32} {e k : Nat} {lo : Int32} (hk : k < 2147483648) (h : bIx (nI k) (nI e) = 1) : hbV fl e lo (nI k) = if 0 < lo - fl k then lo - fl k else 0 := by
  unfold hbV
  rw [h, nI_clamp hk]
  rfl
theorem dX5_hasStep_0 : decode cX5_hasStep 0 = .ok (.iload_n 1, 1) := by decide +kernel
theorem dX5_hasStep_1 : decode cX5_hasStep 1 = .ok (.ifCond .lt 15, 3) := by decide +kernel
theorem dX5_hasStep_16 : decode cX5_hasStep 16 = .ok (.iconst 0, 1) := by decide +kernel
theorem dX5_hasStep_17 : decode cX5_hasStep 17 = .ok (.ireturn, 1) := by decide +kernel
theorem dX5_hasStep_4 : decode cX5_hasStep 4 = .ok (.iload_n 1, 1) := by decide +kernel
theorem dX5_hasStep_5 : decode cX5_hasStep 5 = .ok (.aload_n 0, 1) := by decide +kernel
theorem dX5_hasStep_6 : decode cX5_hasStep 6 = .ok (.getfield 51, 3) := by decide +kernel
theorem iw_X5 : ∀ w ∈ u_ws RX5 TX5 15, w ∈ TT := nx_mems _ [232, 234, 236, 238, 240, 242, 244, 246, 248, 250, 252, 254, 256, 258, 260] (by decide +kernel) (by decide +kernel)
theorem tw_217 : Cond.fieldLink RX5 51 "LimpCode$School" "stepCount" "I" ∈ TT := nx_mem 217 (by decide +kernel) (by decide +kernel)
theorem dX5_hasStep_9 : decode cX5_hasStep 9 = .ok (.if_icmp .ge 7, 3) := by decide +kernel
theorem dX5_hasStep_12 : decode cX5_hasStep 12 = .ok (.iconst 1, 1) := by decide +kernel
theorem dX5_hasStep_13 : decode cX5_hasStep 13 = .ok (.goto 4, 3) := by decide +kernel
theorem dX5_hasLetter_0 : decode cX5_hasLetter 0 = .ok (.iload_n 1, 1) := by decide +kernel
theorem dX5_hasLetter_1 : decode cX5_hasLetter 1 = .ok (.ifCond .lt 15, 3) := by decide +kernel
theorem dX5_hasLetter_16 : decode cX5_hasLetter 16 = .ok (.iconst 0, 1) := by decide +kernel
theorem dX5_hasLetter_17 : decode cX5_hasLetter 17 = .ok (.ireturn, 1) := by decide +kernel
theorem dX5_hasLetter_4 : decode cX5_hasLetter 4 = .ok (.iload_n 1, 1) := by decide +kernel
theorem dX5_hasLetter_5 : decode cX5_hasLetter 5 = .ok (.aload_n 0, 1) := by decide +kernel
theorem dX5_hasLetter_6 : decode cX5_hasLetter 6 = .ok (.getfield 55, 3) := by decide +kernel
theorem tw_222 : Cond.fieldLink RX5 55 "LimpCode$School" "letterCount" "I" ∈ TT := nx_mem 222 (by decide +kernel) (by decide +kernel)
theorem dX5_hasLetter_9 : decode cX5_hasLetter 9 = .ok (.if_icmp .ge 7, 3) := by decide +kernel
theorem dX5_hasLetter_12 : decode cX5_hasLetter 12 = .ok (.iconst 1, 1) := by decide +kernel
theorem dX5_hasLetter_13 : decode cX5_hasLetter 13 = .ok (.goto 4, 3) := by decide +kernel
theorem dX5_hasEar_0 : decode cX5_hasEar 0 = .ok (.iload_n 1, 1) := by decide +kernel
theorem dX5_hasEar_1 : decode cX5_hasEar 1 = .ok (.ifCond .lt 15, 3) := by decide +kernel
theorem dX5_hasEar_16 : decode cX5_hasEar 16 = .ok (.iconst 0, 1) := by decide +kernel
theorem dX5_hasEar_17 : decode cX5_hasEar 17 = .ok (.ireturn, 1) := by decide +kernel
theorem dX5_hasEar_4 : decode cX5_hasEar 4 = .ok (.iload_n 1, 1) := by decide +kernel
theorem dX5_hasEar_5 : decode cX5_hasEar 5 = .ok (.aload_n 0, 1) := by decide +kernel
theorem dX5_hasEar_6 : decode cX5_hasEar 6 = .ok (.getfield 58, 3) := by decide +kernel
theorem tw_228 : Cond.fieldLink RX5 58 "LimpCode$School" "earCount" "I" ∈ TT := nx_mem 228 (by decide +kernel) (by decide +kernel)
theorem dX5_hasEar_9 : decode cX5_hasEar 9 = .ok (.if_icmp .ge 7, 3) := by decide +kernel
theorem dX5_hasEar_12 : decode cX5_hasEar 12 = .ok (.iconst 1, 1) := by decide +kernel
theorem dX5_hasEar_13 : decode cX5_hasEar 13 = .ok (.goto 4, 3) := by decide +kernel
theorem nx_b1 {k n : Nat} (hk : k < n) (hn : n < 2147483648) : bIx (nI k) (nI n) = 1 := by
  unfold bIx
  rw [if_neg (nI_pos (by omega)), if_neg (nI_ge hk hn)]
theorem dX5_footAfter_0 : decode cX5_footAfter 0 = .ok (.aload_n 0, 1) := by decide +kernel
theorem dX5_footAfter_1 : decode cX5_footAfter 1 = .ok (.iload_n 1, 1) := by decide +kernel
theorem dX5_footAfter_2 : decode cX5_footAfter 2 = .ok (.invokevirtual 61, 3) := by decide +kernel
theorem tw_712 : Cond.methodLink RX5 61 yX5_hasStep ∈ TT := nx_mem 712 (by decide +kernel) (by decide +kernel)
theorem tw_713 : Cond.instanceMethod yX5_hasStep ∈ TT := nx_mem 713 (by decide +kernel) (by decide +kernel)
theorem tw_714 : Cond.selects RX5 yX5_hasStep yX5_hasStep ∈ TT := nx_mem 714 (by decide +kernel) (by decide +kernel)
theorem tw_90 : Cond.initialized RX5 ∈ TT := nx_mem 90 (by decide +kernel) (by decide +kernel)
theorem tw_715 : Cond.code yX5_hasStep cX5_hasStep 2 (some .boolean) ∈ TT := nx_mem 715 (by decide +kernel) (by decide +kernel)
theorem dX5_footAfter_5 : decode cX5_footAfter 5 = .ok (.ifCond .ne 5, 3) := by decide +kernel
theorem dX5_footAfter_10 : decode cX5_footAfter 10 = .ok (.aload_n 0, 1) := by decide +kernel
theorem dX5_footAfter_11 : decode cX5_footAfter 11 = .ok (.getfield 22, 3) := by decide +kernel
theorem tw_185 : Cond.fieldLink RX5 22 "LimpCode$School" "sides" "[I" ∈ TT := nx_mem 185 (by decide +kernel) (by decide +kernel)
theorem dX5_footAfter_14 : decode cX5_footAfter 14 = .ok (.iload_n 1, 1) := by decide +kernel
theorem dX5_footAfter_15 : decode cX5_footAfter 15 = .ok (.iaload, 1) := by decide +kernel
theorem dX5_footAfter_16 : decode cX5_footAfter 16 = .ok (.istore_n 3, 1) := by decide +kernel
theorem dX5_footAfter_17 : decode cX5_footAfter 17 = .ok (.iload_n 3, 1) := by decide +kernel
theorem dX5_footAfter_18 : decode cX5_footAfter 18 = .ok (.iconst 3, 1) := by decide +kernel
theorem dX5_footAfter_19 : decode cX5_footAfter 19 = .ok (.if_icmp .ne 5, 3) := by decide +kernel
theorem dX5_footAfter_24 : decode cX5_footAfter 24 = .ok (.iload_n 3, 1) := by decide +kernel
theorem dX5_footAfter_25 : decode cX5_footAfter 25 = .ok (.iconst 2, 1) := by decide +kernel
theorem dX5_footAfter_26 : decode cX5_footAfter 26 = .ok (.if_icmp .eq 8, 3) := by decide +kernel
theorem dX5_footAfter_34 : decode cX5_footAfter 34 = .ok (.iconst 1, 1) := by decide +kernel
theorem dX5_footAfter_35 : decode cX5_footAfter 35 = .ok (.iload_n 2, 1) := by decide +kernel
theorem dX5_footAfter_36 : decode cX5_footAfter 36 = .ok (.isub, 1) := by decide +kernel
theorem dX5_footAfter_37 : decode cX5_footAfter 37 = .ok (.goto 4, 3) := by decide +kernel
theorem dX5_footAfter_41 : decode cX5_footAfter 41 = .ok (.ireturn, 1) := by decide +kernel
theorem dX5_footAfter_29 : decode cX5_footAfter 29 = .ok (.iload_n 3, 1) := by decide +kernel
theorem dX5_footAfter_30 : decode cX5_footAfter 30 = .ok (.iload_n 2, 1) := by decide +kernel
theorem dX5_footAfter_31 : decode cX5_footAfter 31 = .ok (.if_icmp .ne 9, 3) := by decide +kernel
theorem dX5_footAfter_40 : decode cX5_footAfter 40 = .ok (.iconst (-1), 1) := by decide +kernel
theorem dX5_footAfter_22 : decode cX5_footAfter 22 = .ok (.iload_n 2, 1) := by decide +kernel
theorem dX5_footAfter_23 : decode cX5_footAfter 23 = .ok (.ireturn, 1) := by decide +kernel
theorem dX5_heardBelow_0 : decode cX5_heardBelow 0 = .ok (.aload_n 0, 1) := by decide +kernel
theorem dX5_heardBelow_1 : decode cX5_heardBelow 1 = .ok (.iload_n 2, 1) := by decide +kernel
theorem dX5_heardBelow_2 : decode cX5_heardBelow 2 = .ok (.invokevirtual 65, 3) := by decide +kernel
theorem tw_801 : Cond.methodLink RX5 65 yX5_hasEar ∈ TT := nx_mem 801 (by decide +kernel) (by decide +kernel)
theorem tw_790 : Cond.instanceMethod yX5_hasEar ∈ TT := nx_mem 790 (by decide +kernel) (by decide +kernel)
theorem tw_791 : Cond.selects RX5 yX5_hasEar yX5_hasEar ∈ TT := nx_mem 791 (by decide +kernel) (by decide +kernel)
theorem tw_792 : Cond.code yX5_hasEar cX5_hasEar 2 (some .boolean) ∈ TT := nx_mem 792 (by decide +kernel) (by decide +kernel)
theorem dX5_heardBelow_5 : decode cX5_heardBelow 5 = .ok (.ifCond .eq 18, 3) := by decide +kernel
theorem dX5_heardBelow_23 : decode cX5_heardBelow 23 = .ok (.iconst 0, 1) := by decide +kernel
theorem dX5_heardBelow_24 : decode cX5_heardBelow 24 = .ok (.ireturn, 1) := by decide +kernel
theorem dX5_heardBelow_8 : decode cX5_heardBelow 8 = .ok (.iconst 0, 1) := by decide +kernel
theorem dX5_heardBelow_9 : decode cX5_heardBelow 9 = .ok (.iload_n 1, 1) := by decide +kernel
theorem dX5_heardBelow_10 : decode cX5_heardBelow 10 = .ok (.aload_n 0, 1) := by decide +kernel
theorem dX5_heardBelow_11 : decode cX5_heardBelow 11 = .ok (.getfield 45, 3) := by decide +kernel
theorem tw_211 : Cond.fieldLink RX5 45 "LimpCode$School" "floors" "[I" ∈ TT := nx_mem 211 (by decide +kernel) (by decide +kernel)
theorem dX5_heardBelow_14 : decode cX5_heardBelow 14 = .ok (.iload_n 2, 1) := by decide +kernel
theorem dX5_heardBelow_15 : decode cX5_heardBelow 15 = .ok (.iaload, 1) := by decide +kernel
theorem dX5_heardBelow_16 : decode cX5_heardBelow 16 = .ok (.isub, 1) := by decide +kernel
theorem dX5_heardBelow_17 : decode cX5_heardBelow 17 = .ok (.invokestatic 68, 3) := by decide +kernel
theorem tw_802 : Cond.methodLink RX5 68 yJ9_max_7cf53 ∈ TT := nx_mem 802 (by decide +kernel) (by decide +kernel)
theorem tw_803 : Cond.static yJ9_max_7cf53 ∈ TT := nx_mem 803 (by decide +kernel) (by decide +kernel)
theorem tw_105 : Cond.initialized RJ9 ∈ TT := nx_mem 105 (by decide +kernel) (by decide +kernel)
theorem tw_804 : Cond.code yJ9_max_7cf53 cJ9_max_7cf53 2 (some .int) ∈ TT := nx_mem 804 (by decide +kernel) (by decide +kernel)
theorem dX5_heardBelow_20 : decode cX5_heardBelow 20 = .ok (.goto 4, 3) := by decide +kernel
theorem nx_min {a b : Nat} (ha : a < 2147483648) (hb : b < 2147483648) : (if nI b < nI a then nI b else nI a) = nI (min a b) := by
  by_cases h : b < a
  · rw [if_pos (nI_lt h ha), Nat.min_eq_right (by omega)]
  · rw [if_neg (nI_nlt (by omega) hb), Nat.min_eq_left (by omega)]
theorem dX11_putStep_0 : decode cX11_putStep 0 = .ok (.iload_n 1, 1) := by decide +kernel
theorem dX11_putStep_1 : decode cX11_putStep 1 = .ok (.iload_n 3, 1) := by decide +kernel
theorem dX11_putStep_2 : decode cX11_putStep 2 = .ok (.iadd, 1) := by decide +kernel
theorem dX11_putStep_3 : decode cX11_putStep 3 = .ok (.aload_n 0, 1) := by decide +kernel
theorem dX11_putStep_4 : decode cX11_putStep 4 = .ok (.arraylength, 1) := by decide +kernel
theorem dX11_putStep_5 : decode cX11_putStep 5 = .ok (.invokestatic 319, 3) := by decide +kernel
theorem tw_808 : Cond.methodLink RX11 319 yJ9_min_7cf53 ∈ TT := nx_mem 808 (by decide +kernel) (by decide +kernel)
theorem tw_809 : Cond.static yJ9_min_7cf53 ∈ TT := nx_mem 809 (by decide +kernel) (by decide +kernel)
theorem tw_810 : Cond.code yJ9_min_7cf53 cJ9_min_7cf53 2 (some .int) ∈ TT := nx_mem 810 (by decide +kernel) (by decide +kernel)
theorem dX11_putStep_8 : decode cX11_putStep 8 = .ok (.istore 4, 2) := by decide +kernel
theorem dX11_putStep_10 : decode cX11_putStep 10 = .ok (.iload_n 1, 1) := by decide +kernel
theorem dX11_putStep_11 : decode cX11_putStep 11 = .ok (.istore 5, 2) := by decide +kernel
theorem dX11_putStep_13 : decode cX11_putStep 13 = .ok (.iload 5, 2) := by decide +kernel
theorem dX11_putStep_15 : decode cX11_putStep 15 = .ok (.iload 4, 2) := by decide +kernel
theorem dX11_putStep_17 : decode cX11_putStep 17 = .ok (.if_icmp .ge 24, 3) := by decide +kernel
theorem dX11_putStep_41 : decode cX11_putStep 41 = .ok (.iload 4, 2) := by decide +kernel
theorem dX11_putStep_43 : decode cX11_putStep 43 = .ok (.ireturn, 1) := by decide +kernel
theorem dX11_putStep_20 : decode cX11_putStep 20 = .ok (.aload_n 0, 1) := by decide +kernel
theorem dX11_putStep_21 : decode cX11_putStep 21 = .ok (.iload 5, 2) := by decide +kernel
theorem dX11_putStep_23 : decode cX11_putStep 23 = .ok (.iload 5, 2) := by decide +kernel
theorem dX11_putStep_25 : decode cX11_putStep 25 = .ok (.iload_n 1, 1) := by decide +kernel
theorem dX11_putStep_26 : decode cX11_putStep 26 = .ok (.if_icmp .ne 7, 3) := by decide +kernel
theorem dX11_putStep_33 : decode cX11_putStep 33 = .ok (.iconst 0, 1) := by decide +kernel
theorem dX11_putStep_34 : decode cX11_putStep 34 = .ok (.iastore, 1) := by decide +kernel
theorem dX11_putStep_35 : decode cX11_putStep 35 = .ok (.iinc 5 1, 3) := by decide +kernel
theorem dX11_putStep_38 : decode cX11_putStep 38 = .ok (.goto (-25), 3) := by decide +kernel
theorem dX11_putStep_29 : decode cX11_putStep 29 = .ok (.iload_n 2, 1) := by decide +kernel
theorem dX11_putStep_30 : decode cX11_putStep 30 = .ok (.goto 4, 3) := by decide +kernel
set_option maxHeartbeats 4000000 in
set_option maxRecDepth 100000 in
theorem g_X5_hasStep (lau : Launch) (gg : va_G) (kA : Nat → ClassId) (h0 : Nat) (a0 : Nat) (a1 : Nat) (a2 : Nat) (a3 : Nat) (a4 : Nat) (a5 : Nat) (a6 : Nat) (a7 : Nat) (a8 : Nat) (a9 : Nat) (a10 : Nat) (a11 : Nat) (nv : Int32) (lv : Int32) (ev : Int32) (e : Int32)  : CtI lau yX5_hasStep cX5_hasStep 2 (some .boolean) 1 0 0 gg kA [.ref h0, .int e] (mflat [(h0, .inl (.inr (5, [.ref a0, .ref a1, .ref a2, .ref a3, .ref a4, .ref a5, .ref a6, .ref a7, .ref a8, .ref a9, .ref a10, .ref a11, .int nv, .int lv, .int ev])))]) (S := Unit) (fun (r : Int32) (_ : Unit) => r = bIx e nv) (fun (_ : Unit) => mflat [(h0, .inl (.inr (5, [.ref a0, .ref a1, .ref a2, .ref a3, .ref a4, .ref a5, .ref a6, .ref a7, .ref a8, .ref a9, .ref a10, .ref a11, .int nv, .int lv, .int ev])))]) := by
  refine nx_startI (by decide +kernel) (Nat.le_of_ble_eq_true rfl) ?_
  intro x hnm h hq
  have h : Ok x cX5_hasStep RX5 kA (rmC 1 0 0) 2 := h
  show J x (mflat [(h0, .inl (.inr (5, [.ref a0, .ref a1, .ref a2, .ref a3, .ref a4, .ref a5, .ref a6, .ref a7, .ref a8, .ref a9, .ref a10, .ref a11, .int nv, .int lv, .int ev])))]) [(0, .ref h0), (1, .int e)] 0 0 0 []
  refine j_iload_n h 1 rfl rfl dX5_hasStep_0 ?_
  refine j_if_lt h 16 dX5_hasStep_1 (by decide) (fun z1 => ?_) (fun z1 => ?_)
  · refine j_iconst (v := 0) h (by decide) dX5_hasStep_16 ?_
    exact jm_zret h hq rfl dX5_hasStep_17 () [0] rfl (by decide) (by first | rfl | (unfold bIx; simp only [z1, ↓reduceIte]; done) | (subst_vars; decide)) (Nat.le_of_ble_eq_true rfl) (Nat.le_of_ble_eq_true rfl)
  · refine j_iload_n h 1 rfl rfl dX5_hasStep_4 ?_
    refine j_aload_n h 0 rfl rfl dX5_hasStep_5 ?_
    refine jm_get h iw_X5 0 rfl rfl 12 (by decide) tw_217 rfl dX5_hasStep_6 ?_
    refine j_icmp_ge h 16 dX5_hasStep_9 (by decide) (fun z2 => ?_) (fun z2 => ?_)
    · refine j_iconst (v := 0) h (by decide) dX5_hasStep_16 ?_
      exact jm_zret h hq rfl dX5_hasStep_17 () [0] rfl (by decide) (by first | rfl | (unfold bIx; simp only [z1, z2, ↓reduceIte]; done) | (subst_vars; decide)) (Nat.le_of_ble_eq_true rfl) (Nat.le_of_ble_eq_true rfl)
    · refine j_iconst (v := 1) h (by decide) dX5_hasStep_12 ?_
      refine j_goto h 17 dX5_hasStep_13 (by decide) ?_
      exact jm_zret h hq rfl dX5_hasStep_17 () [0] rfl (by decide) (by first | rfl | (unfold bIx; simp only [z1, z2, ↓reduceIte]; done) | (subst_vars; decide)) (Nat.le_of_ble_eq_true rfl) (Nat.le_of_ble_eq_true rfl)
set_option maxHeartbeats 4000000 in
set_option maxRecDepth 100000 in
theorem g_X5_hasLetter (lau : Launch) (gg : va_G) (kA : Nat → ClassId) (h0 : Nat) (a0 : Nat) (a1 : Nat) (a2 : Nat) (a3 : Nat) (a4 : Nat) (a5 : Nat) (a6 : Nat) (a7 : Nat) (a8 : Nat) (a9 : Nat) (a10 : Nat) (a11 : Nat) (nv : Int32) (lv : Int32) (ev : Int32) (e : Int32)  : CtI lau yX5_hasLetter cX5_hasLetter 2 (some .boolean) 1 0 0 gg kA [.ref h0, .int e] (mflat [(h0, .inl (.inr (5, [.ref a0, .ref a1, .ref a2, .ref a3, .ref a4, .ref a5, .ref a6, .ref a7, .ref a8, .ref a9, .ref a10, .ref a11, .int nv, .int lv, .int ev])))]) (S := Unit) (fun (r : Int32) (_ : Unit) => r = bIx e lv) (fun (_ : Unit) => mflat [(h0, .inl (.inr (5, [.ref a0, .ref a1, .ref a2, .ref a3, .ref a4, .ref a5, .ref a6, .ref a7, .ref a8, .ref a9, .ref a10, .ref a11, .int nv, .int lv, .int ev])))]) := by
  refine nx_startI (by decide +kernel) (Nat.le_of_ble_eq_true rfl) ?_
  intro x hnm h hq
  have h : Ok x cX5_hasLetter RX5 kA (rmC 1 0 0) 2 := h
  show J x (mflat [(h0, .inl (.inr (5, [.ref a0, .ref a1, .ref a2, .ref a3, .ref a4, .ref a5, .ref a6, .ref a7, .ref a8, .ref a9, .ref a10, .ref a11, .int nv, .int lv, .int ev])))]) [(0, .ref h0), (1, .int e)] 0 0 0 []
  refine j_iload_n h 1 rfl rfl dX5_hasLetter_0 ?_
  refine j_if_lt h 16 dX5_hasLetter_1 (by decide) (fun z3 => ?_) (fun z3 => ?_)
  · refine j_iconst (v := 0) h (by decide) dX5_hasLetter_16 ?_
    exact jm_zret h hq rfl dX5_hasLetter_17 () [0] rfl (by decide) (by first | rfl | (unfold bIx; simp only [z3, ↓reduceIte]; done) | (subst_vars; decide)) (Nat.le_of_ble_eq_true rfl) (Nat.le_of_ble_eq_true rfl)
  · refine j_iload_n h 1 rfl rfl dX5_hasLetter_4 ?_
    refine j_aload_n h 0 rfl rfl dX5_hasLetter_5 ?_
    refine jm_get h iw_X5 0 rfl rfl 13 (by decide) tw_222 rfl dX5_hasLetter_6 ?_
    refine j_icmp_ge h 16 dX5_hasLetter_9 (by decide) (fun z4 => ?_) (fun z4 => ?_)
    · refine j_iconst (v := 0) h (by decide) dX5_hasLetter_16 ?_
      exact jm_zret h hq rfl dX5_hasLetter_17 () [0] rfl (by decide) (by first | rfl | (unfold bIx; simp only [z3, z4, ↓reduceIte]; done) | (subst_vars; decide)) (Nat.le_of_ble_eq_true rfl) (Nat.le_of_ble_eq_true rfl)
    · refine j_iconst (v := 1) h (by decide) dX5_hasLetter_12 ?_
      refine j_goto h 17 dX5_hasLetter_13 (by decide) ?_
      exact jm_zret h hq rfl dX5_hasLetter_17 () [0] rfl (by decide) (by first | rfl | (unfold bIx; simp only [z3, z4, ↓reduceIte]; done) | (subst_vars; decide)) (Nat.le_of_ble_eq_true rfl) (Nat.le_of_ble_eq_true rfl)
set_option maxHeartbeats 4000000 in
set_option maxRecDepth 100000 in
theorem g_X5_hasEar (lau : Launch) (gg : va_G) (kA : Nat → ClassId) (h0 : Nat) (a0 : Nat) (a1 : Nat) (a2 : Nat) (a3 : Nat) (a4 : Nat) (a5 : Nat) (a6 : Nat) (a7 : Nat) (a8 : Nat) (a9 : Nat) (a10 : Nat) (a11 : Nat) (nv : Int32) (lv : Int32) (ev : Int32) (e : Int32)  : CtI lau yX5_hasEar cX5_hasEar 2 (some .boolean) 1 0 0 gg kA [.ref h0, .int e] (mflat [(h0, .inl (.inr (5, [.ref a0, .ref a1, .ref a2, .ref a3, .ref a4, .ref a5, .ref a6, .ref a7, .ref a8, .ref a9, .ref a10, .ref a11, .int nv, .int lv, .int ev])))]) (S := Unit) (fun (r : Int32) (_ : Unit) => r = bIx e ev) (fun (_ : Unit) => mflat [(h0, .inl (.inr (5, [.ref a0, .ref a1, .ref a2, .ref a3, .ref a4, .ref a5, .ref a6, .ref a7, .ref a8, .ref a9, .ref a10, .ref a11, .int nv, .int lv, .int ev])))]) := by
  refine nx_startI (by decide +kernel) (Nat.le_of_ble_eq_true rfl) ?_
  intro x hnm h hq
  have h : Ok x cX5_hasEar RX5 kA (rmC 1 0 0) 2 := h
  show J x (mflat [(h0, .inl (.inr (5, [.ref a0, .ref a1, .ref a2, .ref a3, .ref a4, .ref a5, .ref a6, .ref a7, .ref a8, .ref a9, .ref a10, .ref a11, .int nv, .int lv, .int ev])))]) [(0, .ref h0), (1, .int e)] 0 0 0 []
  refine j_iload_n h 1 rfl rfl dX5_hasEar_0 ?_
  refine j_if_lt h 16 dX5_hasEar_1 (by decide) (fun z5 => ?_) (fun z5 => ?_)
  · refine j_iconst (v := 0) h (by decide) dX5_hasEar_16 ?_
    exact jm_zret h hq rfl dX5_hasEar_17 () [0] rfl (by decide) (by first | rfl | (unfold bIx; simp only [z5, ↓reduceIte]; done) | (subst_vars; decide)) (Nat.le_of_ble_eq_true rfl) (Nat.le_of_ble_eq_true rfl)
  · refine j_iload_n h 1 rfl rfl dX5_hasEar_4 ?_
    refine j_aload_n h 0 rfl rfl dX5_hasEar_5 ?_
    refine jm_get h iw_X5 0 rfl rfl 14 (by decide) tw_228 rfl dX5_hasEar_6 ?_
    refine j_icmp_ge h 16 dX5_hasEar_9 (by decide) (fun z6 => ?_) (fun z6 => ?_)
    · refine j_iconst (v := 0) h (by decide) dX5_hasEar_16 ?_
      exact jm_zret h hq rfl dX5_hasEar_17 () [0] rfl (by decide) (by first | rfl | (unfold bIx; simp only [z5, z6, ↓reduceIte]; done) | (subst_vars; decide)) (Nat.le_of_ble_eq_true rfl) (Nat.le_of_ble_eq_true rfl)
    · refine j_iconst (v := 1) h (by decide) dX5_hasEar_12 ?_
      refine j_goto h 17 dX5_hasEar_13 (by decide) ?_
      exact jm_zret h hq rfl dX5_hasEar_17 () [0] rfl (by decide) (by first | rfl | (unfold bIx; simp only [z5, z6, ↓reduceIte]; done) | (subst_vars; decide)) (Nat.le_of_ble_eq_true rfl) (Nat.le_of_ble_eq_true rfl)
set_option maxHeartbeats 4000000 in
set_option maxRecDepth 100000 in
theorem g_X5_footAfter (lau : Launch) (gg : va_G) (kA : Nat → ClassId) (h0 : Nat) (a0 : Nat) (a1 : Nat) (a2 : Nat) (a3 : Nat) (a4 : Nat) (a5 : Nat) (a6 : Nat) (a7 : Nat) (a8 : Nat) (a9 : Nat) (a10 : Nat) (a11 : Nat) (n : Nat) (l : Nat) (e : Nat) (sd : Nat → Int32) (k : Nat) (f : Nat) (hn : n ≤ 6) (hk : k < n) (hf : f ≤ 1) : CtI lau yX5_footAfter cX5_footAfter 4 (some .int) 2 0 0 gg kA [.ref h0, .int (nI k), .int (nI f)] (mflat [(h0, .inl (.inr (5, [.ref a0, .ref a1, .ref a2, .ref a3, .ref a4, .ref a5, .ref a6, .ref a7, .ref a8, .ref a9, .ref a10, .ref a11, .int (nI n), .int (nI l), .int (nI e)]))), (a3, .inl (.inl (kA 1, 6, .inl sd)))]) (S := Unit) (fun (r : Int32) (_ : Unit) => r = footA (sd k) f) (fun (_ : Unit) => mflat [(h0, .inl (.inr (5, [.ref a0, .ref a1, .ref a2, .ref a3, .ref a4, .ref a5, .ref a6, .ref a7, .ref a8, .ref a9, .ref a10, .ref a11, .int (nI n), .int (nI l), .int (nI e)]))), (a3, .inl (.inl (kA 1, 6, .inl sd)))]) := by
  refine nx_startI (by decide +kernel) (Nat.le_of_ble_eq_true rfl) ?_
  intro x hnm h hq
  have h : Ok x cX5_footAfter RX5 kA (rmC 2 0 0) 4 := h
  show J x (mflat [(h0, .inl (.inr (5, [.ref a0, .ref a1, .ref a2, .ref a3, .ref a4, .ref a5, .ref a6, .ref a7, .ref a8, .ref a9, .ref a10, .ref a11, .int (nI n), .int (nI l), .int (nI e)]))), (a3, .inl (.inl (kA 1, 6, .inl sd)))]) [(0, .ref h0), (1, .int (nI k)), (2, .int (nI f))] 0 0 0 []
  refine j_aload_n h 0 rfl rfl dX5_footAfter_0 ?_
  refine j_iload_n h 1 rfl rfl dX5_footAfter_1 ?_
  refine jm_callVi (np := 1) (isC := [0]) (isR := [1]) (wc := [(h0, .inl (.inr (5, [.ref a0, .ref a1, .ref a2, .ref a3, .ref a4, .ref a5, .ref a6, .ref a7, .ref a8, .ref a9, .ref a10, .ref a11, .int (nI n), .int (nI l), .int (nI e)])))]) (wr := [(a3, .inl (.inl (kA 1, 6, .inl sd)))]) (rest := []) (As := [.int (nI k)]) (q0 := 0) h (g_X5_hasStep _ _ kA h0 a0 a1 a2 a3 a4 a5 a6 a7 a8 a9 a10 a11 (nI n) (nI l) (nI e) (nI k) ) tw_712 tw_713 tw_714 tw_90 tw_715 (by decide +kernel) rfl ⟨Nat.le_of_ble_eq_true rfl, Nat.le_of_ble_eq_true rfl⟩ rfl rfl (by decide) rfl rfl (by decide) (by decide) (Nat.le_of_ble_eq_true rfl) rfl ⟨Nat.le_of_ble_eq_true rfl, Nat.le_of_ble_eq_true rfl⟩ dX5_footAfter_2 ?_
  rintro r _ e7
  subst e7
  show J x (mflat [(a3, .inl (.inl (kA 1, 6, .inl sd))), (h0, .inl (.inr (5, [.ref a0, .ref a1, .ref a2, .ref a3, .ref a4, .ref a5, .ref a6, .ref a7, .ref a8, .ref a9, .ref a10, .ref a11, .int (nI n), .int (nI l), .int (nI e)])))]) [(0, .ref h0), (1, .int (nI k)), (2, .int (nI f))] 0 0 5 [.int (bIx (nI k) (nI n))]
  refine j_top (b := 1) (nx_b1 hk (by omega)) ?_
  refine j_if_ne h 10 dX5_footAfter_5 (by decide) (fun _ => ?_) (fun q => absurd q (by decide))
  refine j_aload_n h 0 rfl rfl dX5_footAfter_10 ?_
  refine jm_get h iw_X5 1 rfl rfl 3 (by decide) tw_185 rfl dX5_footAfter_11 ?_
  refine j_iload_n h 1 rfl rfl dX5_footAfter_14 ?_
  refine jm_iald h 0 rfl k rfl (by omega) (by omega) dX5_footAfter_15 ?_
  refine j_istore_n (lv' := [(3, .int (sd k)), (0, .ref h0), (1, .int (nI k)), (2, .int (nI f))]) h dX5_footAfter_16 rfl (by decide) rfl ?_
  refine j_iload_n h 0 rfl rfl dX5_footAfter_17 ?_
  refine j_iconst (v := 3) h (by decide) dX5_footAfter_18 ?_
  refine j_icmp_ne h 24 dX5_footAfter_19 (by decide) (fun z8 => ?_) (fun z8 => ?_)
  · refine j_iload_n h 0 rfl rfl dX5_footAfter_24 ?_
    refine j_iconst (v := 2) h (by decide) dX5_footAfter_25 ?_
    refine j_icmp_eq h 34 dX5_footAfter_26 (by decide) (fun z9 => ?_) (fun z9 => ?_)
    · refine j_iconst (v := 1) h (by decide) dX5_footAfter_34 ?_
      refine j_iload_n h 3 rfl rfl dX5_footAfter_35 ?_
      refine j_isub h dX5_footAfter_36 ?_
      refine j_goto h 41 dX5_footAfter_37 (by decide) ?_
      exact jm_iret h hq dX5_footAfter_41 () [1, 0] rfl (by decide) (by unfold footA; rw [if_neg z8, if_pos z9]) (Nat.le_of_ble_eq_true rfl) (Nat.le_of_ble_eq_true rfl)
    · refine j_iload_n h 0 rfl rfl dX5_footAfter_29 ?_
      refine j_iload_n h 3 rfl rfl dX5_footAfter_30 ?_
      refine j_icmp_ne h 40 dX5_footAfter_31 (by decide) (fun z10 => ?_) (fun z10 => ?_)
      · refine j_iconst (v := (-1)) h (by decide) dX5_footAfter_40 ?_
        exact jm_iret h hq dX5_footAfter_41 () [1, 0] rfl (by decide) (by unfold footA; rw [if_neg z8, if_neg z9, if_neg z10]) (Nat.le_of_ble_eq_true rfl) (Nat.le_of_ble_eq_true rfl)
      · refine j_iconst (v := 1) h (by decide) dX5_footAfter_34 ?_
        refine j_iload_n h 3 rfl rfl dX5_footAfter_35 ?_
        refine j_isub h dX5_footAfter_36 ?_
        refine j_goto h 41 dX5_footAfter_37 (by decide) ?_
        exact jm_iret h hq dX5_footAfter_41 () [1, 0] rfl (by decide) (by unfold footA; rw [if_neg z8, if_neg z9, if_pos z10]) (Nat.le_of_ble_eq_true rfl) (Nat.le_of_ble_eq_true rfl)
  · refine j_iload_n h 3 rfl rfl dX5_footAfter_22 ?_
    exact jm_iret h hq dX5_footAfter_23 () [1, 0] rfl (by decide) (by unfold footA; rw [if_pos z8]) (Nat.le_of_ble_eq_true rfl) (Nat.le_of_ble_eq_true rfl)
set_option maxHeartbeats 4000000 in
set_option maxRecDepth 100000 in
theorem g_X5_heardBelow (lau : Launch) (gg : va_G) (kA : Nat → ClassId) (h0 : Nat) (a0 : Nat) (a1 : Nat) (a2 : Nat) (a3 : Nat) (a4 : Nat) (a5 : Nat) (a6 : Nat) (a7 : Nat) (a8 : Nat) (a9 : Nat) (a10 : Nat) (a11 : Nat) (n : Nat) (l : Nat) (e : Nat) (fl : Nat → Int32) (lo : Int32) (ear : Int32) (he : e ≤ 4) : CtI lau yX5_heardBelow cX5_heardBelow 3 (some .int) 2 0 0 gg kA [.ref h0, .int lo, .int ear] (mflat [(h0, .inl (.inr (5, [.ref a0, .ref a1, .ref a2, .ref a3, .ref a4, .ref a5, .ref a6, .ref a7, .ref a8, .ref a9, .ref a10, .ref a11, .int (nI n), .int (nI l), .int (nI e)]))), (a10, .inl (.inl (kA 1, 4, .inl fl)))]) (S := Unit) (fun (r : Int32) (_ : Unit) => r = hbV fl e lo ear) (fun (_ : Unit) => mflat [(h0, .inl (.inr (5, [.ref a0, .ref a1, .ref a2, .ref a3, .ref a4, .ref a5, .ref a6, .ref a7, .ref a8, .ref a9, .ref a10, .ref a11, .int (nI n), .int (nI l), .int (nI e)]))), (a10, .inl (.inl (kA 1, 4, .inl fl)))]) := by
  refine nx_startI (by decide +kernel) (Nat.le_of_ble_eq_true rfl) ?_
  intro x hnm h hq
  have h : Ok x cX5_heardBelow RX5 kA (rmC 2 0 0) 3 := h
  show J x (mflat [(h0, .inl (.inr (5, [.ref a0, .ref a1, .ref a2, .ref a3, .ref a4, .ref a5, .ref a6, .ref a7, .ref a8, .ref a9, .ref a10, .ref a11, .int (nI n), .int (nI l), .int (nI e)]))), (a10, .inl (.inl (kA 1, 4, .inl fl)))]) [(0, .ref h0), (1, .int lo), (2, .int ear)] 0 0 0 []
  rcases bIx_cases ear e (by omega) with hT | ⟨k, hk, rfl, hB⟩
  · refine j_aload_n h 0 rfl rfl dX5_heardBelow_0 ?_
    refine j_iload_n h 2 rfl rfl dX5_heardBelow_1 ?_
    refine jm_callVi (np := 1) (isC := [0]) (isR := [1]) (wc := [(h0, .inl (.inr (5, [.ref a0, .ref a1, .ref a2, .ref a3, .ref a4, .ref a5, .ref a6, .ref a7, .ref a8, .ref a9, .ref a10, .ref a11, .int (nI n), .int (nI l), .int (nI e)])))]) (wr := [(a10, .inl (.inl (kA 1, 4, .inl fl)))]) (rest := []) (As := [.int ear]) (q0 := 0) h (g_X5_hasEar _ _ kA h0 a0 a1 a2 a3 a4 a5 a6 a7 a8 a9 a10 a11 (nI n) (nI l) (nI e) ear ) tw_801 tw_790 tw_791 tw_90 tw_792 (by decide +kernel) rfl ⟨Nat.le_of_ble_eq_true rfl, Nat.le_of_ble_eq_true rfl⟩ rfl rfl (by decide) rfl rfl (by decide) (by decide) (Nat.le_of_ble_eq_true rfl) rfl ⟨Nat.le_of_ble_eq_true rfl, Nat.le_of_ble_eq_true rfl⟩ dX5_heardBelow_2 ?_
    rintro r _ e11
    subst e11
    show J x (mflat [(a10, .inl (.inl (kA 1, 4, .inl fl))), (h0, .inl (.inr (5, [.ref a0, .ref a1, .ref a2, .ref a3, .ref a4, .ref a5, .ref a6, .ref a7, .ref a8, .ref a9, .ref a10, .ref a11, .int (nI n), .int (nI l), .int (nI e)])))]) [(0, .ref h0), (1, .int lo), (2, .int ear)] 0 0 5 [.int (bIx ear (nI e))]
    refine j_top (b := 0) (hT) ?_
    refine j_if_eq h 23 dX5_heardBelow_5 (by decide) (fun _ => ?_) (fun q => absurd (by decide) q)
    refine j_iconst (v := 0) h (by decide) dX5_heardBelow_23 ?_
    exact jm_iret h hq dX5_heardBelow_24 () [1, 0] rfl (by decide) (hbV_0 hT).symm (Nat.le_of_ble_eq_true rfl) (Nat.le_of_ble_eq_true rfl)
  · refine j_aload_n h 0 rfl rfl dX5_heardBelow_0 ?_
    refine j_iload_n h 2 rfl rfl dX5_heardBelow_1 ?_
    refine jm_callVi (np := 1) (isC := [0]) (isR := [1]) (wc := [(h0, .inl (.inr (5, [.ref a0, .ref a1, .ref a2, .ref a3, .ref a4, .ref a5, .ref a6, .ref a7, .ref a8, .ref a9, .ref a10, .ref a11, .int (nI n), .int (nI l), .int (nI e)])))]) (wr := [(a10, .inl (.inl (kA 1, 4, .inl fl)))]) (rest := []) (As := [.int (nI k)]) (q0 := 0) h (g_X5_hasEar _ _ kA h0 a0 a1 a2 a3 a4 a5 a6 a7 a8 a9 a10 a11 (nI n) (nI l) (nI e) (nI k) ) tw_801 tw_790 tw_791 tw_90 tw_792 (by decide +kernel) rfl ⟨Nat.le_of_ble_eq_true rfl, Nat.le_of_ble_eq_true rfl⟩ rfl rfl (by decide) rfl rfl (by decide) (by decide) (Nat.le_of_ble_eq_true rfl) rfl ⟨Nat.le_of_ble_eq_true rfl, Nat.le_of_ble_eq_true rfl⟩ dX5_heardBelow_2 ?_
    rintro r _ e12
    subst e12
    show J x (mflat [(a10, .inl (.inl (kA 1, 4, .inl fl))), (h0, .inl (.inr (5, [.ref a0, .ref a1, .ref a2, .ref a3, .ref a4, .ref a5, .ref a6, .ref a7, .ref a8, .ref a9, .ref a10, .ref a11, .int (nI n), .int (nI l), .int (nI e)])))]) [(0, .ref h0), (1, .int lo), (2, .int (nI k))] 0 0 5 [.int (bIx (nI k) (nI e))]
    refine j_top (b := 1) (hB) ?_
    refine j_if_eq h 23 dX5_heardBelow_5 (by decide) (fun q => absurd q (by decide)) (fun _ => ?_)
    refine j_iconst (v := 0) h (by decide) dX5_heardBelow_8 ?_
    refine j_iload_n h 1 rfl rfl dX5_heardBelow_9 ?_
    refine j_aload_n h 0 rfl rfl dX5_heardBelow_10 ?_
    refine jm_get h iw_X5 1 rfl rfl 10 (by decide) tw_211 rfl dX5_heardBelow_11 ?_
    refine j_iload_n h 2 rfl rfl dX5_heardBelow_14 ?_
    refine jm_iald h 0 rfl k rfl (by omega) (by omega) dX5_heardBelow_15 ?_
    refine j_isub h dX5_heardBelow_16 ?_
    refine j_mmax h tw_802 tw_803 tw_105 tw_804 (Nat.le_of_ble_eq_true rfl) (Nat.le_of_ble_eq_true rfl) (Nat.le_of_ble_eq_true rfl) (Nat.le_of_ble_eq_true rfl) (Nat.le_of_ble_eq_true rfl) dX5_heardBelow_17 ?_
    refine j_goto h 24 dX5_heardBelow_20 (by decide) ?_
    exact jm_iret h hq dX5_heardBelow_24 () [1, 0] rfl (by decide) (hbV_1 (by omega) hB).symm (Nat.le_of_ble_eq_true rfl) (Nat.le_of_ble_eq_true rfl)
set_option maxHeartbeats 4000000 in
set_option maxRecDepth 100000 in
theorem g_X11_putStep (lau : Launch) (gg : va_G) (kA : Nat → ClassId) (r0 : Nat) (n0 : Nat) (f : Nat → Int32) (fr : Nat) (hh : Int32) (tk : Nat) (hn0 : n0 ≤ 60) (hfr : fr ≤ n0) (htk : tk ≤ 9) : CtI lau yX11_putStep cX11_putStep 6 (some .int) 1 0 0 gg kA [.ref r0, .int (nI fr), .int hh, .int (nI tk)] (mflat [(r0, .inl (.inl (kA 1, n0, .inl f)))]) (S := Nat × (Nat → Int32)) (fun (r : Int32) ((b, f1) : Nat × (Nat → Int32)) => r = nI b ∧ b ≤ n0 ∧ fr ≤ b) (fun ((b, f1) : Nat × (Nat → Int32)) => mflat [(r0, .inl (.inl (kA 1, n0, .inl f1)))]) := by
  refine nx_startI (by decide +kernel) (Nat.le_of_ble_eq_true rfl) ?_
  intro x hnm h hq
  have h : Ok x cX11_putStep RX11 kA (rmC 1 0 0) 6 := h
  show J x (mflat [(r0, .inl (.inl (kA 1, n0, .inl f)))]) [(0, .ref r0), (1, .int (nI fr)), (2, .int hh), (3, .int (nI tk))] 0 0 0 []
  refine j_iload_n h 1 rfl rfl dX11_putStep_0 ?_
  refine j_iload_n h 3 rfl rfl dX11_putStep_1 ?_
  refine j_iadd h dX11_putStep_2 ?_
  refine j_top (b := nI (fr + tk)) (nI_add fr tk) ?_
  refine j_aload_n h 0 rfl rfl dX11_putStep_3 ?_
  refine jm_alen (v := nI n0) h 0 1 rfl rfl rfl dX11_putStep_4 ?_
  refine j_mmin h tw_808 tw_809 tw_105 tw_810 (Nat.le_of_ble_eq_true rfl) (Nat.le_of_ble_eq_true rfl) (Nat.le_of_ble_eq_true rfl) (Nat.le_of_ble_eq_true rfl) (Nat.le_of_ble_eq_true rfl) dX11_putStep_5 ?_
  refine j_top (b := nI (min (fr + tk) n0)) (nx_min (by omega) (by omega)) ?_
  refine j_istore (lv' := [(4, .int (nI (min (fr + tk) n0))), (0, .ref r0), (1, .int (nI fr)), (2, .int hh), (3, .int (nI tk))]) h dX11_putStep_8 (by decide) rfl ?_
  refine j_iload_n h 2 rfl rfl dX11_putStep_10 ?_
  refine j_istore (lv' := [(5, .int (nI fr)), (4, .int (nI (min (fr + tk) n0))), (0, .ref r0), (1, .int (nI fr)), (2, .int hh), (3, .int (nI tk))]) h dX11_putStep_11 (by decide) rfl ?_
  have lp13_1 : ∀ (n13_1 k13_1 : Nat), k13_1 + n13_1 = min (fr + tk) n0 → ∀ (f13_1_0 : Nat → Int32), (fr ≤ k13_1) → J x (mflat [(r0, .inl (.inl (kA 1, n0, .inl f13_1_0)))]) [(5, .int (nI k13_1)), (0, .ref r0), (1, .int (nI fr)), (2, .int hh), (3, .int (nI tk)), (4, .int (nI (min (fr + tk) n0)))] 0 0 13 [] := by
    intro n13_1
    induction n13_1 with
    | zero =>
      intro k13_1 hk13_1 f13_1_0 inv13_1
      have hN13_1 : min (fr + tk) n0 = k13_1 := by omega
      subst hN13_1
      refine j_iload h 0 rfl dX11_putStep_13 ?_
      refine j_iload h 5 rfl dX11_putStep_15 ?_
      refine j_icmp_ge h 41 dX11_putStep_17 (by decide) (fun _ => ?_) (fun q => absurd (Int32.le_refl _) q)
      refine j_iload h 5 rfl dX11_putStep_41 ?_
      exact jm_iret h hq dX11_putStep_43 (min (fr + tk) n0, f13_1_0) [0] rfl (by decide) ⟨rfl, Nat.min_le_right _ _, by omega⟩ (Nat.le_of_ble_eq_true rfl) (Nat.le_of_ble_eq_true rfl)
    | succ n13_1 ih13_1 =>
      intro k13_1 hk13_1 f13_1_0 inv13_1
      have hlt13_1 : k13_1 < min (fr + tk) n0 := by omega
      refine j_iload h 0 rfl dX11_putStep_13 ?_
      refine j_iload h 5 rfl dX11_putStep_15 ?_
      refine j_icmp_ge h 41 dX11_putStep_17 (by decide) (fun q => absurd q (nI_ge hlt13_1 (by omega))) (fun _ => ?_)
      refine j_aload_n h 1 rfl rfl dX11_putStep_20 ?_
      refine j_iload h 0 rfl dX11_putStep_21 ?_
      refine j_iload h 0 rfl dX11_putStep_23 ?_
      refine j_iload_n h 2 rfl rfl dX11_putStep_25 ?_
      refine j_icmp_ne h 33 dX11_putStep_26 (by decide) (fun z13 => ?_) (fun z13 => ?_)
      · have z13n : ¬ k13_1 = fr := fun q9 => z13 ((nI_eq (a := k13_1) (b := fr) (by omega) (by omega)).mpr q9)
        refine j_iconst (v := 0) h (by decide) dX11_putStep_33 ?_
        refine jm_iast (w' := [(r0, .inl (.inl (kA 1, n0, .inl (upd f13_1_0 k13_1 0))))]) h 0 rfl k13_1 rfl (by omega) (by omega) dX11_putStep_34 rfl ?_
        refine j_iinc (v := nI (k13_1 + 1)) (lv' := [(5, .int (nI (k13_1 + 1))), (0, .ref r0), (1, .int (nI fr)), (2, .int hh), (3, .int (nI tk)), (4, .int (nI (min (fr + tk) n0)))]) h dX11_putStep_35 0 rfl (nI_1 k13_1) (by decide) rfl ?_
        refine j_goto h 13 dX11_putStep_38 (by decide) ?_
        refine jm_sub [0] (w' := [(r0, .inl (.inl (kA 1, n0, .inl (upd f13_1_0 k13_1 0))))]) rfl (by decide) [0, 1, 2, 3, 4, 5] (lv' := [(5, .int (nI (k13_1 + 1))), (0, .ref r0), (1, .int (nI fr)), (2, .int hh), (3, .int (nI tk)), (4, .int (nI (min (fr + tk) n0)))]) rfl ?_
        exact ih13_1 (k13_1 + 1) (by omega) (upd f13_1_0 k13_1 0) (by omega)
      · have z13n : k13_1 = fr := (nI_eq (a := k13_1) (b := fr) (by omega) (by omega)).mp z13
        refine j_iload_n h 3 rfl rfl dX11_putStep_29 ?_
        refine j_goto h 34 dX11_putStep_30 (by decide) ?_
        refine jm_iast (w' := [(r0, .inl (.inl (kA 1, n0, .inl (upd f13_1_0 k13_1 hh))))]) h 0 rfl k13_1 rfl (by omega) (by omega) dX11_putStep_34 rfl ?_
        refine j_iinc (v := nI (k13_1 + 1)) (lv' := [(5, .int (nI (k13_1 + 1))), (0, .ref r0), (1, .int (nI fr)), (2, .int hh), (3, .int (nI tk)), (4, .int (nI (min (fr + tk) n0)))]) h dX11_putStep_35 0 rfl (nI_1 k13_1) (by decide) rfl ?_
        refine j_goto h 13 dX11_putStep_38 (by decide) ?_
        refine jm_sub [0] (w' := [(r0, .inl (.inl (kA 1, n0, .inl (upd f13_1_0 k13_1 hh))))]) rfl (by decide) [0, 1, 2, 3, 4, 5] (lv' := [(5, .int (nI (k13_1 + 1))), (0, .ref r0), (1, .int (nI fr)), (2, .int hh), (3, .int (nI tk)), (4, .int (nI (min (fr + tk) n0)))]) rfl ?_
        exact ih13_1 (k13_1 + 1) (by omega) (upd f13_1_0 k13_1 hh) (by omega)
  refine jm_sub [0] (w' := [(r0, .inl (.inl (kA 1, n0, .inl f)))]) rfl (by decide) [0, 2, 3, 4, 5, 1] (lv' := [(5, .int (nI fr)), (0, .ref r0), (1, .int (nI fr)), (2, .int hh), (3, .int (nI tk)), (4, .int (nI (min (fr + tk) n0)))]) rfl ?_
  exact lp13_1 (min (fr + tk) n0 - fr) fr (by omega) f (Nat.le_refl fr)
