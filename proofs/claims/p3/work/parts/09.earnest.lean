def EOk (n sz tm ft : Nat) (row : Nat → Int32) : Prop := sz ≤ 60 ∧ tm ≤ 60 ∧ ft ≤ 1 ∧ ∀ i, i < sz → ∃ k, k < n ∧ row i = nI k
def TkOk (n : Nat) (tk : Nat → Int32) : Prop := ∀ i, i < n → ∃ k, 1 ≤ k ∧ k ≤ 9 ∧ tk i = nI k
def SzOk (m : Nat) (sz : Nat → Int32) : Prop := ∀ i, i < m → ∃ k, k ≤ 5 ∧ sz i = nI k
def RwOk (m n : Nat) (sz : Nat → Int32) (rw : Nat → Nat → Int32) : Prop := ∀ i j c, i < m → sz i = nI c → c ≤ 5 → j < c → ∃ k, k < n ∧ rw i j = nI k
theorem EOk_step {n sz tm ft t g k : Nat} {row : Nat → Int32} (h : EOk n sz tm ft row) (h1 : sz < 60) (h2 : tm + t ≤ 60) (hg : g ≤ 1) (hk : k < n) : EOk n (sz + 1) (tm + t) g (upd row sz (nI k)) := by
  refine ⟨by omega, h2, hg, fun i hi => ?_⟩
  by_cases e : i = sz
  · subst e
    exact ⟨k, hk, pk_us⟩
  · rw [pk_un e]
    exact h.2.2.2 i (by omega)
theorem EOk_back {n sz tm ft sz' tm' ft' : Nat} {row row' : Nat → Int32} (h : EOk n sz tm ft row) (h' : EOk n sz' tm' ft' row') (hs : sz ≤ sz') : EOk n sz tm ft row' := ⟨h.1, h.2.1, h.2.2.1, fun i hi => h'.2.2.2 i (by omega)⟩
theorem nI_m1 {g : Nat} (h : g < 2147483648) : ¬ nI g = -1 := fun q => by
  have h1 := nI_pos (n := g) h
  rw [q] at h1
  exact h1 (by decide)
theorem dX2_standStill_0 : decode cX2_standStill 0 = .ok (.aload_n 0, 1) := by decide +kernel
theorem dX2_standStill_1 : decode cX2_standStill 1 = .ok (.iconst 0, 1) := by decide +kernel
theorem dX2_standStill_2 : decode cX2_standStill 2 = .ok (.putfield 32, 3) := by decide +kernel
theorem iw_X2 : ∀ w ∈ u_ws RX2 TX2 6, w ∈ TT := nx_mems _ [281, 283, 285, 287, 289, 291] (by decide +kernel) (by decide +kernel)
theorem tw_274 : Cond.fieldLink RX2 32 "LimpCode$Earnest" "size" "I" ∈ TT := nx_mem 274 (by decide +kernel) (by decide +kernel)
theorem dX2_standStill_5 : decode cX2_standStill 5 = .ok (.aload_n 0, 1) := by decide +kernel
theorem dX2_standStill_6 : decode cX2_standStill 6 = .ok (.iconst 0, 1) := by decide +kernel
theorem dX2_standStill_7 : decode cX2_standStill 7 = .ok (.putfield 36, 3) := by decide +kernel
theorem tw_276 : Cond.fieldLink RX2 36 "LimpCode$Earnest" "time" "I" ∈ TT := nx_mem 276 (by decide +kernel) (by decide +kernel)
theorem dX2_standStill_10 : decode cX2_standStill 10 = .ok (.aload_n 0, 1) := by decide +kernel
theorem dX2_standStill_11 : decode cX2_standStill 11 = .ok (.iconst 0, 1) := by decide +kernel
theorem dX2_standStill_12 : decode cX2_standStill 12 = .ok (.putfield 39, 3) := by decide +kernel
theorem tw_278 : Cond.fieldLink RX2 39 "LimpCode$Earnest" "foot" "I" ∈ TT := nx_mem 278 (by decide +kernel) (by decide +kernel)
theorem dX2_standStill_15 : decode cX2_standStill 15 = .ok (.return_, 1) := by decide +kernel
theorem dX2_walkOn_0 : decode cX2_walkOn 0 = .ok (.aload_n 1, 1) := by decide +kernel
theorem dX2_walkOn_1 : decode cX2_walkOn 1 = .ok (.iload_n 2, 1) := by decide +kernel
theorem dX2_walkOn_2 : decode cX2_walkOn 2 = .ok (.invokevirtual 42, 3) := by decide +kernel
theorem tw_758 : Cond.methodLink RX2 42 yX5_hasStep ∈ TT := nx_mem 758 (by decide +kernel) (by decide +kernel)
theorem dX2_walkOn_5 : decode cX2_walkOn 5 = .ok (.ifCond .eq 15, 3) := by decide +kernel
theorem dX2_walkOn_20 : decode cX2_walkOn 20 = .ok (.iconst 0, 1) := by decide +kernel
theorem dX2_walkOn_21 : decode cX2_walkOn 21 = .ok (.ireturn, 1) := by decide +kernel
theorem dX2_walkOn_8 : decode cX2_walkOn 8 = .ok (.aload_n 0, 1) := by decide +kernel
theorem dX2_walkOn_9 : decode cX2_walkOn 9 = .ok (.getfield 32, 3) := by decide +kernel
theorem dX2_walkOn_12 : decode cX2_walkOn 12 = .ok (.aload_n 0, 1) := by decide +kernel
theorem dX2_walkOn_13 : decode cX2_walkOn 13 = .ok (.getfield 9, 3) := by decide +kernel
theorem tw_271 : Cond.fieldLink RX2 9 "LimpCode$Earnest" "row" "[I" ∈ TT := nx_mem 271 (by decide +kernel) (by decide +kernel)
theorem dX2_walkOn_16 : decode cX2_walkOn 16 = .ok (.arraylength, 1) := by decide +kernel
theorem dX2_walkOn_17 : decode cX2_walkOn 17 = .ok (.if_icmp .lt 5, 3) := by decide +kernel
theorem dX2_walkOn_22 : decode cX2_walkOn 22 = .ok (.aload_n 1, 1) := by decide +kernel
theorem dX2_walkOn_23 : decode cX2_walkOn 23 = .ok (.iload_n 2, 1) := by decide +kernel
theorem dX2_walkOn_24 : decode cX2_walkOn 24 = .ok (.aload_n 0, 1) := by decide +kernel
theorem dX2_walkOn_25 : decode cX2_walkOn 25 = .ok (.getfield 39, 3) := by decide +kernel
theorem dX2_walkOn_28 : decode cX2_walkOn 28 = .ok (.invokevirtual 46, 3) := by decide +kernel
theorem tw_759 : Cond.methodLink RX2 46 yX5_footAfter ∈ TT := nx_mem 759 (by decide +kernel) (by decide +kernel)
theorem tw_709 : Cond.instanceMethod yX5_footAfter ∈ TT := nx_mem 709 (by decide +kernel) (by decide +kernel)
theorem tw_710 : Cond.selects RX5 yX5_footAfter yX5_footAfter ∈ TT := nx_mem 710 (by decide +kernel) (by decide +kernel)
theorem tw_711 : Cond.code yX5_footAfter cX5_footAfter 4 (some .int) ∈ TT := nx_mem 711 (by decide +kernel) (by decide +kernel)
theorem dX2_walkOn_31 : decode cX2_walkOn 31 = .ok (.istore_n 3, 1) := by decide +kernel
theorem dX2_walkOn_32 : decode cX2_walkOn 32 = .ok (.iload_n 3, 1) := by decide +kernel
theorem dX2_walkOn_33 : decode cX2_walkOn 33 = .ok (.iconst (-1), 1) := by decide +kernel
theorem dX2_walkOn_34 : decode cX2_walkOn 34 = .ok (.if_icmp .eq 19, 3) := by decide +kernel
theorem dX2_walkOn_53 : decode cX2_walkOn 53 = .ok (.iconst 0, 1) := by decide +kernel
theorem dX2_walkOn_54 : decode cX2_walkOn 54 = .ok (.ireturn, 1) := by decide +kernel
theorem dX2_walkOn_37 : decode cX2_walkOn 37 = .ok (.aload_n 0, 1) := by decide +kernel
theorem dX2_walkOn_38 : decode cX2_walkOn 38 = .ok (.getfield 36, 3) := by decide +kernel
theorem dX2_walkOn_41 : decode cX2_walkOn 41 = .ok (.aload_n 1, 1) := by decide +kernel
theorem dX2_walkOn_42 : decode cX2_walkOn 42 = .ok (.getfield 50, 3) := by decide +kernel
theorem tw_180 : Cond.fieldLink RX2 50 "LimpCode$School" "takes" "[I" ∈ TT := nx_mem 180 (by decide +kernel) (by decide +kernel)
theorem dX2_walkOn_45 : decode cX2_walkOn 45 = .ok (.iload_n 2, 1) := by decide +kernel
theorem dX2_walkOn_46 : decode cX2_walkOn 46 = .ok (.iaload, 1) := by decide +kernel
theorem dX2_walkOn_47 : decode cX2_walkOn 47 = .ok (.iadd, 1) := by decide +kernel
theorem dX2_walkOn_48 : decode cX2_walkOn 48 = .ok (.bipush 60, 2) := by decide +kernel
theorem dX2_walkOn_50 : decode cX2_walkOn 50 = .ok (.if_icmp .le 5, 3) := by decide +kernel
theorem dX2_walkOn_55 : decode cX2_walkOn 55 = .ok (.aload_n 0, 1) := by decide +kernel
theorem dX2_walkOn_56 : decode cX2_walkOn 56 = .ok (.getfield 9, 3) := by decide +kernel
theorem dX2_walkOn_59 : decode cX2_walkOn 59 = .ok (.aload_n 0, 1) := by decide +kernel
theorem dX2_walkOn_60 : decode cX2_walkOn 60 = .ok (.getfield 32, 3) := by decide +kernel
theorem dX2_walkOn_63 : decode cX2_walkOn 63 = .ok (.iload_n 2, 1) := by decide +kernel
theorem dX2_walkOn_64 : decode cX2_walkOn 64 = .ok (.iastore, 1) := by decide +kernel
theorem dX2_walkOn_65 : decode cX2_walkOn 65 = .ok (.aload_n 0, 1) := by decide +kernel
theorem dX2_walkOn_66 : decode cX2_walkOn 66 = .ok (.dup, 1) := by decide +kernel
theorem dX2_walkOn_67 : decode cX2_walkOn 67 = .ok (.getfield 32, 3) := by decide +kernel
theorem dX2_walkOn_70 : decode cX2_walkOn 70 = .ok (.iconst 1, 1) := by decide +kernel
theorem dX2_walkOn_71 : decode cX2_walkOn 71 = .ok (.iadd, 1) := by decide +kernel
theorem dX2_walkOn_72 : decode cX2_walkOn 72 = .ok (.putfield 32, 3) := by decide +kernel
theorem dX2_walkOn_75 : decode cX2_walkOn 75 = .ok (.aload_n 0, 1) := by decide +kernel
theorem dX2_walkOn_76 : decode cX2_walkOn 76 = .ok (.dup, 1) := by decide +kernel
theorem dX2_walkOn_77 : decode cX2_walkOn 77 = .ok (.getfield 36, 3) := by decide +kernel
theorem dX2_walkOn_80 : decode cX2_walkOn 80 = .ok (.aload_n 1, 1) := by decide +kernel
theorem dX2_walkOn_81 : decode cX2_walkOn 81 = .ok (.getfield 50, 3) := by decide +kernel
theorem dX2_walkOn_84 : decode cX2_walkOn 84 = .ok (.iload_n 2, 1) := by decide +kernel
theorem dX2_walkOn_85 : decode cX2_walkOn 85 = .ok (.iaload, 1) := by decide +kernel
theorem dX2_walkOn_86 : decode cX2_walkOn 86 = .ok (.iadd, 1) := by decide +kernel
theorem dX2_walkOn_87 : decode cX2_walkOn 87 = .ok (.putfield 36, 3) := by decide +kernel
theorem dX2_walkOn_90 : decode cX2_walkOn 90 = .ok (.aload_n 0, 1) := by decide +kernel
theorem dX2_walkOn_91 : decode cX2_walkOn 91 = .ok (.iload_n 3, 1) := by decide +kernel
theorem dX2_walkOn_92 : decode cX2_walkOn 92 = .ok (.putfield 39, 3) := by decide +kernel
theorem dX2_walkOn_95 : decode cX2_walkOn 95 = .ok (.iconst 1, 1) := by decide +kernel
theorem dX2_walkOn_96 : decode cX2_walkOn 96 = .ok (.ireturn, 1) := by decide +kernel
theorem dX2_walkLetter_0 : decode cX2_walkLetter 0 = .ok (.aload_n 1, 1) := by decide +kernel
theorem dX2_walkLetter_1 : decode cX2_walkLetter 1 = .ok (.iload_n 2, 1) := by decide +kernel
theorem dX2_walkLetter_2 : decode cX2_walkLetter 2 = .ok (.invokevirtual 61, 3) := by decide +kernel
theorem tw_775 : Cond.methodLink RX2 61 yX5_hasLetter ∈ TT := nx_mem 775 (by decide +kernel) (by decide +kernel)
theorem tw_776 : Cond.instanceMethod yX5_hasLetter ∈ TT := nx_mem 776 (by decide +kernel) (by decide +kernel)
theorem tw_777 : Cond.selects RX5 yX5_hasLetter yX5_hasLetter ∈ TT := nx_mem 777 (by decide +kernel) (by decide +kernel)
theorem tw_778 : Cond.code yX5_hasLetter cX5_hasLetter 2 (some .boolean) ∈ TT := nx_mem 778 (by decide +kernel) (by decide +kernel)
theorem dX2_walkLetter_5 : decode cX2_walkLetter 5 = .ok (.ifCond .ne 5, 3) := by decide +kernel
theorem dX2_walkLetter_8 : decode cX2_walkLetter 8 = .ok (.iconst 0, 1) := by decide +kernel
theorem dX2_walkLetter_9 : decode cX2_walkLetter 9 = .ok (.ireturn, 1) := by decide +kernel
theorem dX2_walkLetter_10 : decode cX2_walkLetter 10 = .ok (.iconst 0, 1) := by decide +kernel
theorem dX2_walkLetter_11 : decode cX2_walkLetter 11 = .ok (.istore_n 3, 1) := by decide +kernel
theorem dX2_walkLetter_12 : decode cX2_walkLetter 12 = .ok (.iload_n 3, 1) := by decide +kernel
theorem dX2_walkLetter_13 : decode cX2_walkLetter 13 = .ok (.aload_n 1, 1) := by decide +kernel
theorem dX2_walkLetter_14 : decode cX2_walkLetter 14 = .ok (.getfield 64, 3) := by decide +kernel
theorem tw_194 : Cond.fieldLink RX2 64 "LimpCode$School" "letterSizes" "[I" ∈ TT := nx_mem 194 (by decide +kernel) (by decide +kernel)
theorem dX2_walkLetter_17 : decode cX2_walkLetter 17 = .ok (.iload_n 2, 1) := by decide +kernel
theorem dX2_walkLetter_18 : decode cX2_walkLetter 18 = .ok (.iaload, 1) := by decide +kernel
theorem dX2_walkLetter_19 : decode cX2_walkLetter 19 = .ok (.if_icmp .ge 27, 3) := by decide +kernel
theorem dX2_walkLetter_46 : decode cX2_walkLetter 46 = .ok (.iconst 1, 1) := by decide +kernel
theorem dX2_walkLetter_47 : decode cX2_walkLetter 47 = .ok (.ireturn, 1) := by decide +kernel
theorem dX2_walkLetter_22 : decode cX2_walkLetter 22 = .ok (.aload_n 0, 1) := by decide +kernel
theorem dX2_walkLetter_23 : decode cX2_walkLetter 23 = .ok (.aload_n 1, 1) := by decide +kernel
theorem dX2_walkLetter_24 : decode cX2_walkLetter 24 = .ok (.aload_n 1, 1) := by decide +kernel
theorem dX2_walkLetter_25 : decode cX2_walkLetter 25 = .ok (.getfield 67, 3) := by decide +kernel
theorem tw_198 : Cond.fieldLink RX2 67 "LimpCode$School" "letterRows" "[[I" ∈ TT := nx_mem 198 (by decide +kernel) (by decide +kernel)
theorem dX2_walkLetter_28 : decode cX2_walkLetter 28 = .ok (.iload_n 2, 1) := by decide +kernel
theorem dX2_walkLetter_29 : decode cX2_walkLetter 29 = .ok (.aaload, 1) := by decide +kernel
theorem dX2_walkLetter_30 : decode cX2_walkLetter 30 = .ok (.iload_n 3, 1) := by decide +kernel
theorem dX2_walkLetter_31 : decode cX2_walkLetter 31 = .ok (.iaload, 1) := by decide +kernel
theorem dX2_walkLetter_32 : decode cX2_walkLetter 32 = .ok (.invokevirtual 71, 3) := by decide +kernel
theorem tw_779 : Cond.methodLink RX2 71 yX2_walkOn ∈ TT := nx_mem 779 (by decide +kernel) (by decide +kernel)
theorem tw_755 : Cond.instanceMethod yX2_walkOn ∈ TT := nx_mem 755 (by decide +kernel) (by decide +kernel)
theorem tw_756 : Cond.selects RX2 yX2_walkOn yX2_walkOn ∈ TT := nx_mem 756 (by decide +kernel) (by decide +kernel)
theorem tw_91 : Cond.initialized RX2 ∈ TT := nx_mem 91 (by decide +kernel) (by decide +kernel)
theorem tw_757 : Cond.code yX2_walkOn cX2_walkOn 4 (some .boolean) ∈ TT := nx_mem 757 (by decide +kernel) (by decide +kernel)
theorem dX2_walkLetter_35 : decode cX2_walkLetter 35 = .ok (.ifCond .ne 5, 3) := by decide +kernel
theorem dX2_walkLetter_38 : decode cX2_walkLetter 38 = .ok (.iconst 0, 1) := by decide +kernel
theorem dX2_walkLetter_39 : decode cX2_walkLetter 39 = .ok (.ireturn, 1) := by decide +kernel
theorem dX2_walkLetter_40 : decode cX2_walkLetter 40 = .ok (.iinc 3 1, 3) := by decide +kernel
theorem dX2_walkLetter_43 : decode cX2_walkLetter 43 = .ok (.goto (-31), 3) := by decide +kernel
set_option maxHeartbeats 4000000 in
set_option maxRecDepth 100000 in
theorem g_X2_standStill (lau : Launch) (gg : va_G) (kA : Nat → ClassId) (h0 : Nat) (a0 : Nat) (a1 : Nat) (sz : Int32) (tm : Int32) (ft : Int32) (kp : Int32)  : CtV lau yX2_standStill cX2_standStill 1 (none) 1 0 0 gg kA [.ref h0] (mflat [(h0, .inl (.inr (2, [.ref a0, .ref a1, .int sz, .int tm, .int ft, .int kp])))]) (S := Unit) (fun (_ : Unit) => True) (fun (_ : Unit) => mflat [(h0, .inl (.inr (2, [.ref a0, .ref a1, .int 0, .int 0, .int 0, .int kp])))]) := by
  refine nx_startV (by decide +kernel) (Nat.le_of_ble_eq_true rfl) ?_
  intro x hnm h hq
  have h : Ok x cX2_standStill RX2 kA (rmC 1 0 0) 1 := h
  show J x (mflat [(h0, .inl (.inr (2, [.ref a0, .ref a1, .int sz, .int tm, .int ft, .int kp])))]) [(0, .ref h0)] 0 0 0 []
  refine j_aload_n h 0 rfl rfl dX2_standStill_0 ?_
  refine j_iconst (v := 0) h (by decide) dX2_standStill_1 ?_
  refine jm_put (w' := [(h0, .inl (.inr (2, [.ref a0, .ref a1, .int 0, .int tm, .int ft, .int kp])))]) h iw_X2 tyX2 tyX2_ok nmX2 0 rfl rfl 2 (by decide) tw_274 rfl rfl rfl (Nat.le_of_ble_eq_true rfl) dX2_standStill_2 rfl ?_
  refine j_aload_n h 0 rfl rfl dX2_standStill_5 ?_
  refine j_iconst (v := 0) h (by decide) dX2_standStill_6 ?_
  refine jm_put (w' := [(h0, .inl (.inr (2, [.ref a0, .ref a1, .int 0, .int 0, .int ft, .int kp])))]) h iw_X2 tyX2 tyX2_ok nmX2 0 rfl rfl 3 (by decide) tw_276 rfl rfl rfl (Nat.le_of_ble_eq_true rfl) dX2_standStill_7 rfl ?_
  refine j_aload_n h 0 rfl rfl dX2_standStill_10 ?_
  refine j_iconst (v := 0) h (by decide) dX2_standStill_11 ?_
  refine jm_put (w' := [(h0, .inl (.inr (2, [.ref a0, .ref a1, .int 0, .int 0, .int 0, .int kp])))]) h iw_X2 tyX2 tyX2_ok nmX2 0 rfl rfl 4 (by decide) tw_278 rfl rfl rfl (Nat.le_of_ble_eq_true rfl) dX2_standStill_12 rfl ?_
  exact jm_vret h hq dX2_standStill_15 () [0] rfl (by decide) trivial (Nat.le_of_ble_eq_true rfl) (Nat.le_of_ble_eq_true rfl)
set_option maxHeartbeats 4000000 in
set_option maxRecDepth 100000 in
theorem g_X2_walkOn (lau : Launch) (gg : va_G) (kA : Nat → ClassId) (h0 : Nat) (a0 : Nat) (a1 : Nat) (s : Nat) (c0 : Nat) (c1 : Nat) (c2 : Nat) (c3 : Nat) (c4 : Nat) (c5 : Nat) (c6 : Nat) (c7 : Nat) (c8 : Nat) (c9 : Nat) (c10 : Nat) (c11 : Nat) (n : Nat) (l : Nat) (e : Nat) (sz : Nat) (tm : Nat) (ft : Nat) (kp : Int32) (row : Nat → Int32) (tk : Nat → Int32) (sd : Nat → Int32) (st0 : Int32) (hn : n ≤ 6) (htk : TkOk n tk) (hE : EOk n sz tm ft row) : CtI lau yX2_walkOn cX2_walkOn 4 (some .boolean) 3 0 0 gg kA [.ref h0, .ref s, .int st0] (mflat [(h0, .inl (.inr (2, [.ref a0, .ref a1, .int (nI sz), .int (nI tm), .int (nI ft), .int kp]))), (a0, .inl (.inl (kA 1, 60, .inl row))), (s, .inl (.inr (5, [.ref c0, .ref c1, .ref c2, .ref c3, .ref c4, .ref c5, .ref c6, .ref c7, .ref c8, .ref c9, .ref c10, .ref c11, .int (nI n), .int (nI l), .int (nI e)]))), (c1, .inl (.inl (kA 1, 6, .inl tk))), (c3, .inl (.inl (kA 1, 6, .inl sd)))]) (S := Nat × Nat × Nat × (Nat → Int32)) (fun (r : Int32) ((sz1, tm1, ft1, row1) : Nat × Nat × Nat × (Nat → Int32)) => (r = 0 ∨ r = 1) ∧ EOk n sz1 tm1 ft1 row1 ∧ sz ≤ sz1) (fun ((sz1, tm1, ft1, row1) : Nat × Nat × Nat × (Nat → Int32)) => mflat [(h0, .inl (.inr (2, [.ref a0, .ref a1, .int (nI sz1), .int (nI tm1), .int (nI ft1), .int kp]))), (a0, .inl (.inl (kA 1, 60, .inl row1))), (s, .inl (.inr (5, [.ref c0, .ref c1, .ref c2, .ref c3, .ref c4, .ref c5, .ref c6, .ref c7, .ref c8, .ref c9, .ref c10, .ref c11, .int (nI n), .int (nI l), .int (nI e)]))), (c1, .inl (.inl (kA 1, 6, .inl tk))), (c3, .inl (.inl (kA 1, 6, .inl sd)))]) := by
  refine nx_startI (by decide +kernel) (Nat.le_of_ble_eq_true rfl) ?_
  intro x hnm h hq
  have h : Ok x cX2_walkOn RX2 kA (rmC 3 0 0) 4 := h
  show J x (mflat [(h0, .inl (.inr (2, [.ref a0, .ref a1, .int (nI sz), .int (nI tm), .int (nI ft), .int kp]))), (a0, .inl (.inl (kA 1, 60, .inl row))), (s, .inl (.inr (5, [.ref c0, .ref c1, .ref c2, .ref c3, .ref c4, .ref c5, .ref c6, .ref c7, .ref c8, .ref c9, .ref c10, .ref c11, .int (nI n), .int (nI l), .int (nI e)]))), (c1, .inl (.inl (kA 1, 6, .inl tk))), (c3, .inl (.inl (kA 1, 6, .inl sd)))]) [(0, .ref h0), (1, .ref s), (2, .int st0)] 0 0 0 []
  obtain ⟨hsz, htm, hft, hrow⟩ := id hE
  rcases bIx_cases st0 n (by omega) with hT | ⟨k, hk, rfl, hB⟩
  · refine j_aload_n h 1 rfl rfl dX2_walkOn_0 ?_
    refine j_iload_n h 2 rfl rfl dX2_walkOn_1 ?_
    refine jm_callVi (np := 1) (isC := [2]) (isR := [0, 1, 3, 4]) (wc := [(s, .inl (.inr (5, [.ref c0, .ref c1, .ref c2, .ref c3, .ref c4, .ref c5, .ref c6, .ref c7, .ref c8, .ref c9, .ref c10, .ref c11, .int (nI n), .int (nI l), .int (nI e)])))]) (wr := [(h0, .inl (.inr (2, [.ref a0, .ref a1, .int (nI sz), .int (nI tm), .int (nI ft), .int kp]))), (a0, .inl (.inl (kA 1, 60, .inl row))), (c1, .inl (.inl (kA 1, 6, .inl tk))), (c3, .inl (.inl (kA 1, 6, .inl sd)))]) (rest := []) (As := [.int st0]) (q0 := 0) h (g_X5_hasStep _ _ kA s c0 c1 c2 c3 c4 c5 c6 c7 c8 c9 c10 c11 (nI n) (nI l) (nI e) st0 ) tw_758 tw_713 tw_714 tw_90 tw_715 (by decide +kernel) rfl ⟨Nat.le_of_ble_eq_true rfl, Nat.le_of_ble_eq_true rfl⟩ rfl rfl (by decide) rfl rfl (by decide) (by decide) (Nat.le_of_ble_eq_true rfl) rfl ⟨Nat.le_of_ble_eq_true rfl, Nat.le_of_ble_eq_true rfl⟩ dX2_walkOn_2 ?_
    rintro r _ e14
    subst e14
    show J x (mflat [(h0, .inl (.inr (2, [.ref a0, .ref a1, .int (nI sz), .int (nI tm), .int (nI ft), .int kp]))), (a0, .inl (.inl (kA 1, 60, .inl row))), (c1, .inl (.inl (kA 1, 6, .inl tk))), (c3, .inl (.inl (kA 1, 6, .inl sd))), (s, .inl (.inr (5, [.ref c0, .ref c1, .ref c2, .ref c3, .ref c4, .ref c5, .ref c6, .ref c7, .ref c8, .ref c9, .ref c10, .ref c11, .int (nI n), .int (nI l), .int (nI e)])))]) [(0, .ref h0), (1, .ref s), (2, .int st0)] 0 0 5 [.int (bIx st0 (nI n))]
    refine j_top (b := 0) (hT) ?_
    refine j_if_eq h 20 dX2_walkOn_5 (by decide) (fun _ => ?_) (fun q => absurd (by decide) q)
    refine j_iconst (v := 0) h (by decide) dX2_walkOn_20 ?_
    exact jm_zret h hq rfl dX2_walkOn_21 (sz, tm, ft, row) [0, 1, 4, 2, 3] rfl (by decide) ⟨Or.inl rfl, hE, Nat.le_refl _⟩ (Nat.le_of_ble_eq_true rfl) (Nat.le_of_ble_eq_true rfl)
  · obtain ⟨t, ht1, ht9, hte⟩ := htk k hk
    refine j_aload_n h 1 rfl rfl dX2_walkOn_0 ?_
    refine j_iload_n h 2 rfl rfl dX2_walkOn_1 ?_
    refine jm_callVi (np := 1) (isC := [2]) (isR := [0, 1, 3, 4]) (wc := [(s, .inl (.inr (5, [.ref c0, .ref c1, .ref c2, .ref c3, .ref c4, .ref c5, .ref c6, .ref c7, .ref c8, .ref c9, .ref c10, .ref c11, .int (nI n), .int (nI l), .int (nI e)])))]) (wr := [(h0, .inl (.inr (2, [.ref a0, .ref a1, .int (nI sz), .int (nI tm), .int (nI ft), .int kp]))), (a0, .inl (.inl (kA 1, 60, .inl row))), (c1, .inl (.inl (kA 1, 6, .inl tk))), (c3, .inl (.inl (kA 1, 6, .inl sd)))]) (rest := []) (As := [.int (nI k)]) (q0 := 0) h (g_X5_hasStep _ _ kA s c0 c1 c2 c3 c4 c5 c6 c7 c8 c9 c10 c11 (nI n) (nI l) (nI e) (nI k) ) tw_758 tw_713 tw_714 tw_90 tw_715 (by decide +kernel) rfl ⟨Nat.le_of_ble_eq_true rfl, Nat.le_of_ble_eq_true rfl⟩ rfl rfl (by decide) rfl rfl (by decide) (by decide) (Nat.le_of_ble_eq_true rfl) rfl ⟨Nat.le_of_ble_eq_true rfl, Nat.le_of_ble_eq_true rfl⟩ dX2_walkOn_2 ?_
    rintro r _ e15
    subst e15
    show J x (mflat [(h0, .inl (.inr (2, [.ref a0, .ref a1, .int (nI sz), .int (nI tm), .int (nI ft), .int kp]))), (a0, .inl (.inl (kA 1, 60, .inl row))), (c1, .inl (.inl (kA 1, 6, .inl tk))), (c3, .inl (.inl (kA 1, 6, .inl sd))), (s, .inl (.inr (5, [.ref c0, .ref c1, .ref c2, .ref c3, .ref c4, .ref c5, .ref c6, .ref c7, .ref c8, .ref c9, .ref c10, .ref c11, .int (nI n), .int (nI l), .int (nI e)])))]) [(0, .ref h0), (1, .ref s), (2, .int (nI k))] 0 0 5 [.int (bIx (nI k) (nI n))]
    refine j_top (b := 1) (hB) ?_
    refine j_if_eq h 20 dX2_walkOn_5 (by decide) (fun q => absurd q (by decide)) (fun _ => ?_)
    refine j_aload_n h 0 rfl rfl dX2_walkOn_8 ?_
    refine jm_get h iw_X2 0 rfl rfl 2 (by decide) tw_274 rfl dX2_walkOn_9 ?_
    refine j_aload_n h 0 rfl rfl dX2_walkOn_12 ?_
    refine jm_get h iw_X2 0 rfl rfl 0 (by decide) tw_271 rfl dX2_walkOn_13 ?_
    refine jm_alen (v := 60) h 1 1 rfl rfl rfl dX2_walkOn_16 ?_
    refine j_icmp_lt h 22 dX2_walkOn_17 (by decide) (fun z16 => ?_) (fun z16 => ?_)
    · have z16n : sz < 60 := (nI_ltI (a := sz) (b := 60) (by omega) (by omega)).mp z16
      refine j_aload_n h 1 rfl rfl dX2_walkOn_22 ?_
      refine j_iload_n h 2 rfl rfl dX2_walkOn_23 ?_
      refine j_aload_n h 0 rfl rfl dX2_walkOn_24 ?_
      refine jm_get h iw_X2 0 rfl rfl 4 (by decide) tw_278 rfl dX2_walkOn_25 ?_
      refine jm_callVi (np := 2) (isC := [4, 3]) (isR := [0, 1, 2]) (wc := [(s, .inl (.inr (5, [.ref c0, .ref c1, .ref c2, .ref c3, .ref c4, .ref c5, .ref c6, .ref c7, .ref c8, .ref c9, .ref c10, .ref c11, .int (nI n), .int (nI l), .int (nI e)]))), (c3, .inl (.inl (kA 1, 6, .inl sd)))]) (wr := [(h0, .inl (.inr (2, [.ref a0, .ref a1, .int (nI sz), .int (nI tm), .int (nI ft), .int kp]))), (a0, .inl (.inl (kA 1, 60, .inl row))), (c1, .inl (.inl (kA 1, 6, .inl tk)))]) (rest := []) (As := [.int (nI k), .int (nI ft)]) (q0 := 0) h (g_X5_footAfter _ _ kA s c0 c1 c2 c3 c4 c5 c6 c7 c8 c9 c10 c11 n l e sd k ft hn hk hft) tw_759 tw_709 tw_710 tw_90 tw_711 (by decide +kernel) rfl ⟨Nat.le_of_ble_eq_true rfl, Nat.le_of_ble_eq_true rfl⟩ rfl rfl (by decide) rfl rfl (by decide) (by decide) (Nat.le_of_ble_eq_true rfl) rfl ⟨Nat.le_of_ble_eq_true rfl, Nat.le_of_ble_eq_true rfl⟩ dX2_walkOn_28 ?_
      rintro r _ e17
      subst e17
      show J x (mflat [(h0, .inl (.inr (2, [.ref a0, .ref a1, .int (nI sz), .int (nI tm), .int (nI ft), .int kp]))), (a0, .inl (.inl (kA 1, 60, .inl row))), (c1, .inl (.inl (kA 1, 6, .inl tk))), (s, .inl (.inr (5, [.ref c0, .ref c1, .ref c2, .ref c3, .ref c4, .ref c5, .ref c6, .ref c7, .ref c8, .ref c9, .ref c10, .ref c11, .int (nI n), .int (nI l), .int (nI e)]))), (c3, .inl (.inl (kA 1, 6, .inl sd)))]) [(0, .ref h0), (1, .ref s), (2, .int (nI k))] 0 0 31 [.int (footA (sd k) ft)]
      rcases footA_cases (sd k) hft with hF | ⟨g, hg, hF⟩
      · refine j_top (b := -1) hF ?_
        refine j_istore_n (lv' := [(3, .int (-1)), (0, .ref h0), (1, .ref s), (2, .int (nI k))]) h dX2_walkOn_31 rfl (by decide) rfl ?_
        refine j_iload_n h 0 rfl rfl dX2_walkOn_32 ?_
        refine j_iconst (v := (-1)) h (by decide) dX2_walkOn_33 ?_
        refine j_icmp_eq h 53 dX2_walkOn_34 (by decide) (fun _ => ?_) (fun q => absurd (by decide) q)
        refine j_iconst (v := 0) h (by decide) dX2_walkOn_53 ?_
        exact jm_zret h hq rfl dX2_walkOn_54 (sz, tm, ft, row) [0, 1, 3, 2, 4] rfl (by decide) ⟨Or.inl rfl, hE, Nat.le_refl _⟩ (Nat.le_of_ble_eq_true rfl) (Nat.le_of_ble_eq_true rfl)
      · refine j_top (b := nI g) hF ?_
        refine j_istore_n (lv' := [(3, .int (nI g)), (0, .ref h0), (1, .ref s), (2, .int (nI k))]) h dX2_walkOn_31 rfl (by decide) rfl ?_
        refine j_iload_n h 0 rfl rfl dX2_walkOn_32 ?_
        refine j_iconst (v := (-1)) h (by decide) dX2_walkOn_33 ?_
        refine j_icmp_eq h 53 dX2_walkOn_34 (by decide) (fun q => absurd q (nI_m1 (by omega))) (fun _ => ?_)
        refine j_aload_n h 1 rfl rfl dX2_walkOn_37 ?_
        refine jm_get h iw_X2 0 rfl rfl 3 (by decide) tw_276 rfl dX2_walkOn_38 ?_
        refine j_aload_n h 2 rfl rfl dX2_walkOn_41 ?_
        refine jm_get h iw_X5 3 rfl rfl 1 (by decide) tw_180 rfl dX2_walkOn_42 ?_
        refine j_iload_n h 3 rfl rfl dX2_walkOn_45 ?_
        refine jm_iald h 2 rfl k rfl (by omega) (by omega) dX2_walkOn_46 ?_
        refine j_top (b := nI t) (hte) ?_
        refine j_iadd h dX2_walkOn_47 ?_
        refine j_top (b := nI (tm + t)) (nI_add tm t) ?_
        refine j_bipush (v := 60) h (by decide) dX2_walkOn_48 ?_
        refine j_icmp_le h 55 dX2_walkOn_50 (by decide) (fun z18 => ?_) (fun z18 => ?_)
        · have z18n : (tm + t) ≤ 60 := (nI_leI (a := (tm + t)) (b := 60) (by omega) (by omega)).mp z18
          refine j_aload_n h 1 rfl rfl dX2_walkOn_55 ?_
          refine jm_get h iw_X2 0 rfl rfl 0 (by decide) tw_271 rfl dX2_walkOn_56 ?_
          refine j_aload_n h 1 rfl rfl dX2_walkOn_59 ?_
          refine jm_get h iw_X2 0 rfl rfl 2 (by decide) tw_274 rfl dX2_walkOn_60 ?_
          refine j_iload_n h 3 rfl rfl dX2_walkOn_63 ?_
          refine jm_iast (w' := [(h0, .inl (.inr (2, [.ref a0, .ref a1, .int (nI sz), .int (nI tm), .int (nI ft), .int kp]))), (a0, .inl (.inl (kA 1, 60, .inl (upd row sz (nI k))))), (c1, .inl (.inl (kA 1, 6, .inl tk))), (s, .inl (.inr (5, [.ref c0, .ref c1, .ref c2, .ref c3, .ref c4, .ref c5, .ref c6, .ref c7, .ref c8, .ref c9, .ref c10, .ref c11, .int (nI n), .int (nI l), .int (nI e)]))), (c3, .inl (.inl (kA 1, 6, .inl sd)))]) h 1 rfl sz rfl (by omega) (by omega) dX2_walkOn_64 rfl ?_
          refine j_aload_n h 1 rfl rfl dX2_walkOn_65 ?_
          refine j_dup h rfl dX2_walkOn_66 ?_
          refine jm_get h iw_X2 0 rfl rfl 2 (by decide) tw_274 rfl dX2_walkOn_67 ?_
          refine j_iconst (v := 1) h (by decide) dX2_walkOn_70 ?_
          refine j_iadd h dX2_walkOn_71 ?_
          refine j_top (b := nI (sz + 1)) (nI_add sz 1) ?_
          refine jm_put (w' := [(h0, .inl (.inr (2, [.ref a0, .ref a1, .int (nI (sz + 1)), .int (nI tm), .int (nI ft), .int kp]))), (a0, .inl (.inl (kA 1, 60, .inl (upd row sz (nI k))))), (c1, .inl (.inl (kA 1, 6, .inl tk))), (s, .inl (.inr (5, [.ref c0, .ref c1, .ref c2, .ref c3, .ref c4, .ref c5, .ref c6, .ref c7, .ref c8, .ref c9, .ref c10, .ref c11, .int (nI n), .int (nI l), .int (nI e)]))), (c3, .inl (.inl (kA 1, 6, .inl sd)))]) h iw_X2 tyX2 tyX2_ok nmX2 0 rfl rfl 2 (by decide) tw_274 rfl rfl rfl (Nat.le_of_ble_eq_true rfl) dX2_walkOn_72 rfl ?_
          refine j_aload_n h 1 rfl rfl dX2_walkOn_75 ?_
          refine j_dup h rfl dX2_walkOn_76 ?_
          refine jm_get h iw_X2 0 rfl rfl 3 (by decide) tw_276 rfl dX2_walkOn_77 ?_
          refine j_aload_n h 2 rfl rfl dX2_walkOn_80 ?_
          refine jm_get h iw_X5 3 rfl rfl 1 (by decide) tw_180 rfl dX2_walkOn_81 ?_
          refine j_iload_n h 3 rfl rfl dX2_walkOn_84 ?_
          refine jm_iald h 2 rfl k rfl (by omega) (by omega) dX2_walkOn_85 ?_
          refine j_top (b := nI t) (hte) ?_
          refine j_iadd h dX2_walkOn_86 ?_
          refine j_top (b := nI (tm + t)) (nI_add tm t) ?_
          refine jm_put (w' := [(h0, .inl (.inr (2, [.ref a0, .ref a1, .int (nI (sz + 1)), .int (nI (tm + t)), .int (nI ft), .int kp]))), (a0, .inl (.inl (kA 1, 60, .inl (upd row sz (nI k))))), (c1, .inl (.inl (kA 1, 6, .inl tk))), (s, .inl (.inr (5, [.ref c0, .ref c1, .ref c2, .ref c3, .ref c4, .ref c5, .ref c6, .ref c7, .ref c8, .ref c9, .ref c10, .ref c11, .int (nI n), .int (nI l), .int (nI e)]))), (c3, .inl (.inl (kA 1, 6, .inl sd)))]) h iw_X2 tyX2 tyX2_ok nmX2 0 rfl rfl 3 (by decide) tw_276 rfl rfl rfl (Nat.le_of_ble_eq_true rfl) dX2_walkOn_87 rfl ?_
          refine j_aload_n h 1 rfl rfl dX2_walkOn_90 ?_
          refine j_iload_n h 0 rfl rfl dX2_walkOn_91 ?_
          refine jm_put (w' := [(h0, .inl (.inr (2, [.ref a0, .ref a1, .int (nI (sz + 1)), .int (nI (tm + t)), .int (nI g), .int kp]))), (a0, .inl (.inl (kA 1, 60, .inl (upd row sz (nI k))))), (c1, .inl (.inl (kA 1, 6, .inl tk))), (s, .inl (.inr (5, [.ref c0, .ref c1, .ref c2, .ref c3, .ref c4, .ref c5, .ref c6, .ref c7, .ref c8, .ref c9, .ref c10, .ref c11, .int (nI n), .int (nI l), .int (nI e)]))), (c3, .inl (.inl (kA 1, 6, .inl sd)))]) h iw_X2 tyX2 tyX2_ok nmX2 0 rfl rfl 4 (by decide) tw_278 rfl rfl rfl (Nat.le_of_ble_eq_true rfl) dX2_walkOn_92 rfl ?_
          refine j_iconst (v := 1) h (by decide) dX2_walkOn_95 ?_
          exact jm_zret h hq rfl dX2_walkOn_96 ((sz + 1), (tm + t), g, (upd row sz (nI k))) [0, 1, 3, 2, 4] rfl (by decide) ⟨Or.inr rfl, EOk_step hE (by omega) (by omega) hg hk, by omega⟩ (Nat.le_of_ble_eq_true rfl) (Nat.le_of_ble_eq_true rfl)
        · have z18n : ¬ (tm + t) ≤ 60 := fun q9 => z18 ((nI_leI (a := (tm + t)) (b := 60) (by omega) (by omega)).mpr q9)
          refine j_iconst (v := 0) h (by decide) dX2_walkOn_53 ?_
          exact jm_zret h hq rfl dX2_walkOn_54 (sz, tm, ft, row) [0, 1, 3, 2, 4] rfl (by decide) ⟨Or.inl rfl, hE, Nat.le_refl _⟩ (Nat.le_of_ble_eq_true rfl) (Nat.le_of_ble_eq_true rfl)
    · have z16n : ¬ sz < 60 := fun q9 => z16 ((nI_ltI (a := sz) (b := 60) (by omega) (by omega)).mpr q9)
      refine j_iconst (v := 0) h (by decide) dX2_walkOn_20 ?_
      exact jm_zret h hq rfl dX2_walkOn_21 (sz, tm, ft, row) [0, 1, 4, 2, 3] rfl (by decide) ⟨Or.inl rfl, hE, Nat.le_refl _⟩ (Nat.le_of_ble_eq_true rfl) (Nat.le_of_ble_eq_true rfl)
set_option maxHeartbeats 4000000 in
set_option maxRecDepth 100000 in
theorem g_X2_walkLetter (lau : Launch) (gg : va_G) (kA : Nat → ClassId) (h0 : Nat) (a0 : Nat) (a1 : Nat) (s : Nat) (c0 : Nat) (c1 : Nat) (c2 : Nat) (c3 : Nat) (c4 : Nat) (c5 : Nat) (c6 : Nat) (c7 : Nat) (c8 : Nat) (c9 : Nat) (c10 : Nat) (c11 : Nat) (n : Nat) (l : Nat) (e : Nat) (sz : Nat) (tm : Nat) (ft : Nat) (kp : Int32) (row : Nat → Int32) (tk : Nat → Int32) (sd : Nat → Int32) (szs : Nat → Int32) (rws : Nat → Nat → Int32) (lt : Int32) (hn : n ≤ 6) (hl : l ≤ 10) (htk : TkOk n tk) (hss : SzOk l szs) (hrw : RwOk l n szs rws) (hE : EOk n sz tm ft row) : CtI lau yX2_walkLetter cX2_walkLetter 4 (some .boolean) 4 0 0 gg kA [.ref h0, .ref s, .int lt] (mflat [(h0, .inl (.inr (2, [.ref a0, .ref a1, .int (nI sz), .int (nI tm), .int (nI ft), .int kp]))), (a0, .inl (.inl (kA 1, 60, .inl row))), (s, .inl (.inr (5, [.ref c0, .ref c1, .ref c2, .ref c3, .ref c4, .ref c5, .ref c6, .ref c7, .ref c8, .ref c9, .ref c10, .ref c11, .int (nI n), .int (nI l), .int (nI e)]))), (c1, .inl (.inl (kA 1, 6, .inl tk))), (c3, .inl (.inl (kA 1, 6, .inl sd))), (c5, .inl (.inl (kA 1, 10, .inl szs))), (c6, .inr (kA 6, kA 1, 10, 5, .inl rws))]) (S := Nat × Nat × Nat × (Nat → Int32)) (fun (r : Int32) ((sz1, tm1, ft1, row1) : Nat × Nat × Nat × (Nat → Int32)) => (r = 0 ∨ r = 1) ∧ EOk n sz1 tm1 ft1 row1 ∧ sz ≤ sz1) (fun ((sz1, tm1, ft1, row1) : Nat × Nat × Nat × (Nat → Int32)) => mflat [(h0, .inl (.inr (2, [.ref a0, .ref a1, .int (nI sz1), .int (nI tm1), .int (nI ft1), .int kp]))), (a0, .inl (.inl (kA 1, 60, .inl row1))), (s, .inl (.inr (5, [.ref c0, .ref c1, .ref c2, .ref c3, .ref c4, .ref c5, .ref c6, .ref c7, .ref c8, .ref c9, .ref c10, .ref c11, .int (nI n), .int (nI l), .int (nI e)]))), (c1, .inl (.inl (kA 1, 6, .inl tk))), (c3, .inl (.inl (kA 1, 6, .inl sd))), (c5, .inl (.inl (kA 1, 10, .inl szs))), (c6, .inr (kA 6, kA 1, 10, 5, .inl rws))]) := by
  refine nx_startI (by decide +kernel) (Nat.le_of_ble_eq_true rfl) ?_
  intro x hnm h hq
  have h : Ok x cX2_walkLetter RX2 kA (rmC 4 0 0) 4 := h
  show J x (mflat [(h0, .inl (.inr (2, [.ref a0, .ref a1, .int (nI sz), .int (nI tm), .int (nI ft), .int kp]))), (a0, .inl (.inl (kA 1, 60, .inl row))), (s, .inl (.inr (5, [.ref c0, .ref c1, .ref c2, .ref c3, .ref c4, .ref c5, .ref c6, .ref c7, .ref c8, .ref c9, .ref c10, .ref c11, .int (nI n), .int (nI l), .int (nI e)]))), (c1, .inl (.inl (kA 1, 6, .inl tk))), (c3, .inl (.inl (kA 1, 6, .inl sd))), (c5, .inl (.inl (kA 1, 10, .inl szs))), (c6, .inr (kA 6, kA 1, 10, 5, .inl rws))]) [(0, .ref h0), (1, .ref s), (2, .int lt)] 0 0 0 []
  rcases bIx_cases lt l (by omega) with hT | ⟨k, hk, rfl, hB⟩
  · refine j_aload_n h 1 rfl rfl dX2_walkLetter_0 ?_
    refine j_iload_n h 2 rfl rfl dX2_walkLetter_1 ?_
    refine jm_callVi (np := 1) (isC := [2]) (isR := [0, 1, 3, 4, 5, 6]) (wc := [(s, .inl (.inr (5, [.ref c0, .ref c1, .ref c2, .ref c3, .ref c4, .ref c5, .ref c6, .ref c7, .ref c8, .ref c9, .ref c10, .ref c11, .int (nI n), .int (nI l), .int (nI e)])))]) (wr := [(h0, .inl (.inr (2, [.ref a0, .ref a1, .int (nI sz), .int (nI tm), .int (nI ft), .int kp]))), (a0, .inl (.inl (kA 1, 60, .inl row))), (c1, .inl (.inl (kA 1, 6, .inl tk))), (c3, .inl (.inl (kA 1, 6, .inl sd))), (c5, .inl (.inl (kA 1, 10, .inl szs))), (c6, .inr (kA 6, kA 1, 10, 5, .inl rws))]) (rest := []) (As := [.int lt]) (q0 := 0) h (g_X5_hasLetter _ _ kA s c0 c1 c2 c3 c4 c5 c6 c7 c8 c9 c10 c11 (nI n) (nI l) (nI e) lt ) tw_775 tw_776 tw_777 tw_90 tw_778 (by decide +kernel) rfl ⟨Nat.le_of_ble_eq_true rfl, Nat.le_of_ble_eq_true rfl⟩ rfl rfl (by decide) rfl rfl (by decide) (by decide) (Nat.le_of_ble_eq_true rfl) rfl ⟨Nat.le_of_ble_eq_true rfl, Nat.le_of_ble_eq_true rfl⟩ dX2_walkLetter_2 ?_
    rintro r _ e19
    subst e19
    show J x (mflat [(h0, .inl (.inr (2, [.ref a0, .ref a1, .int (nI sz), .int (nI tm), .int (nI ft), .int kp]))), (a0, .inl (.inl (kA 1, 60, .inl row))), (c1, .inl (.inl (kA 1, 6, .inl tk))), (c3, .inl (.inl (kA 1, 6, .inl sd))), (c5, .inl (.inl (kA 1, 10, .inl szs))), (c6, .inr (kA 6, kA 1, 10, 5, .inl rws)), (s, .inl (.inr (5, [.ref c0, .ref c1, .ref c2, .ref c3, .ref c4, .ref c5, .ref c6, .ref c7, .ref c8, .ref c9, .ref c10, .ref c11, .int (nI n), .int (nI l), .int (nI e)])))]) [(0, .ref h0), (1, .ref s), (2, .int lt)] 0 0 5 [.int (bIx lt (nI l))]
    refine j_top (b := 0) (hT) ?_
    refine j_if_ne h 10 dX2_walkLetter_5 (by decide) (fun q => absurd (by decide) q) (fun _ => ?_)
    refine j_iconst (v := 0) h (by decide) dX2_walkLetter_8 ?_
    exact jm_zret h hq rfl dX2_walkLetter_9 (sz, tm, ft, row) [0, 1, 6, 2, 3, 4, 5] rfl (by decide) ⟨Or.inl rfl, hE, Nat.le_refl _⟩ (Nat.le_of_ble_eq_true rfl) (Nat.le_of_ble_eq_true rfl)
  · obtain ⟨c, hc5, hce⟩ := hss k hk
    refine j_aload_n h 1 rfl rfl dX2_walkLetter_0 ?_
    refine j_iload_n h 2 rfl rfl dX2_walkLetter_1 ?_
    refine jm_callVi (np := 1) (isC := [2]) (isR := [0, 1, 3, 4, 5, 6]) (wc := [(s, .inl (.inr (5, [.ref c0, .ref c1, .ref c2, .ref c3, .ref c4, .ref c5, .ref c6, .ref c7, .ref c8, .ref c9, .ref c10, .ref c11, .int (nI n), .int (nI l), .int (nI e)])))]) (wr := [(h0, .inl (.inr (2, [.ref a0, .ref a1, .int (nI sz), .int (nI tm), .int (nI ft), .int kp]))), (a0, .inl (.inl (kA 1, 60, .inl row))), (c1, .inl (.inl (kA 1, 6, .inl tk))), (c3, .inl (.inl (kA 1, 6, .inl sd))), (c5, .inl (.inl (kA 1, 10, .inl szs))), (c6, .inr (kA 6, kA 1, 10, 5, .inl rws))]) (rest := []) (As := [.int (nI k)]) (q0 := 0) h (g_X5_hasLetter _ _ kA s c0 c1 c2 c3 c4 c5 c6 c7 c8 c9 c10 c11 (nI n) (nI l) (nI e) (nI k) ) tw_775 tw_776 tw_777 tw_90 tw_778 (by decide +kernel) rfl ⟨Nat.le_of_ble_eq_true rfl, Nat.le_of_ble_eq_true rfl⟩ rfl rfl (by decide) rfl rfl (by decide) (by decide) (Nat.le_of_ble_eq_true rfl) rfl ⟨Nat.le_of_ble_eq_true rfl, Nat.le_of_ble_eq_true rfl⟩ dX2_walkLetter_2 ?_
    rintro r _ e20
    subst e20
    show J x (mflat [(h0, .inl (.inr (2, [.ref a0, .ref a1, .int (nI sz), .int (nI tm), .int (nI ft), .int kp]))), (a0, .inl (.inl (kA 1, 60, .inl row))), (c1, .inl (.inl (kA 1, 6, .inl tk))), (c3, .inl (.inl (kA 1, 6, .inl sd))), (c5, .inl (.inl (kA 1, 10, .inl szs))), (c6, .inr (kA 6, kA 1, 10, 5, .inl rws)), (s, .inl (.inr (5, [.ref c0, .ref c1, .ref c2, .ref c3, .ref c4, .ref c5, .ref c6, .ref c7, .ref c8, .ref c9, .ref c10, .ref c11, .int (nI n), .int (nI l), .int (nI e)])))]) [(0, .ref h0), (1, .ref s), (2, .int (nI k))] 0 0 5 [.int (bIx (nI k) (nI l))]
    refine j_top (b := 1) (hB) ?_
    refine j_if_ne h 10 dX2_walkLetter_5 (by decide) (fun _ => ?_) (fun q => absurd q (by decide))
    refine j_iconst (v := 0) h (by decide) dX2_walkLetter_10 ?_
    refine j_istore_n (lv' := [(3, .int 0), (0, .ref h0), (1, .ref s), (2, .int (nI k))]) h dX2_walkLetter_11 rfl (by decide) rfl ?_
    have lp12_2 : ∀ (n12_2 k12_2 : Nat), k12_2 + n12_2 = c → ∀ (f12_2_0 : Nat → Int32) (z12_2 : Nat) (t12_2 : Nat) (f12_2 : Nat), (EOk n z12_2 t12_2 f12_2 f12_2_0 ∧ sz ≤ z12_2) → J x (mflat [(h0, .inl (.inr (2, [.ref a0, .ref a1, .int (nI z12_2), .int (nI t12_2), .int (nI f12_2), .int kp]))), (a0, .inl (.inl (kA 1, 60, .inl f12_2_0))), (c1, .inl (.inl (kA 1, 6, .inl tk))), (c3, .inl (.inl (kA 1, 6, .inl sd))), (c5, .inl (.inl (kA 1, 10, .inl szs))), (c6, .inr (kA 6, kA 1, 10, 5, .inl rws)), (s, .inl (.inr (5, [.ref c0, .ref c1, .ref c2, .ref c3, .ref c4, .ref c5, .ref c6, .ref c7, .ref c8, .ref c9, .ref c10, .ref c11, .int (nI n), .int (nI l), .int (nI e)])))]) [(3, .int (nI k12_2)), (0, .ref h0), (1, .ref s), (2, .int (nI k))] 0 0 12 [] := by
      intro n12_2
      induction n12_2 with
      | zero =>
        intro k12_2 hk12_2 f12_2_0 z12_2 t12_2 f12_2 inv12_2
        have hN12_2 : c = k12_2 := by omega
        subst hN12_2
        refine j_iload_n h 0 rfl rfl dX2_walkLetter_12 ?_
        refine j_aload_n h 2 rfl rfl dX2_walkLetter_13 ?_
        refine jm_get h iw_X5 6 rfl rfl 5 (by decide) tw_194 rfl dX2_walkLetter_14 ?_
        refine j_iload_n h 3 rfl rfl dX2_walkLetter_17 ?_
        refine jm_iald h 4 rfl k rfl (by omega) (by omega) dX2_walkLetter_18 ?_
        refine j_top (b := nI c) (hce) ?_
        refine j_icmp_ge h 46 dX2_walkLetter_19 (by decide) (fun _ => ?_) (fun q => absurd (Int32.le_refl _) q)
        refine j_iconst (v := 1) h (by decide) dX2_walkLetter_46 ?_
        exact jm_zret h hq rfl dX2_walkLetter_47 (z12_2, t12_2, f12_2, f12_2_0) [0, 1, 6, 2, 3, 4, 5] rfl (by decide) ⟨Or.inr rfl, inv12_2.1, inv12_2.2⟩ (Nat.le_of_ble_eq_true rfl) (Nat.le_of_ble_eq_true rfl)
      | succ n12_2 ih12_2 =>
        intro k12_2 hk12_2 f12_2_0 z12_2 t12_2 f12_2 inv12_2
        have hlt12_2 : k12_2 < c := by omega
        refine j_iload_n h 0 rfl rfl dX2_walkLetter_12 ?_
        refine j_aload_n h 2 rfl rfl dX2_walkLetter_13 ?_
        refine jm_get h iw_X5 6 rfl rfl 5 (by decide) tw_194 rfl dX2_walkLetter_14 ?_
        refine j_iload_n h 3 rfl rfl dX2_walkLetter_17 ?_
        refine jm_iald h 4 rfl k rfl (by omega) (by omega) dX2_walkLetter_18 ?_
        refine j_top (b := nI c) (hce) ?_
        refine j_icmp_ge h 46 dX2_walkLetter_19 (by decide) (fun q => absurd q (nI_ge hlt12_2 (by omega))) (fun _ => ?_)
        refine j_aload_n h 1 rfl rfl dX2_walkLetter_22 ?_
        refine j_aload_n h 2 rfl rfl dX2_walkLetter_23 ?_
        refine j_aload_n h 2 rfl rfl dX2_walkLetter_24 ?_
        refine jm_get h iw_X5 6 rfl rfl 6 (by decide) tw_198 rfl dX2_walkLetter_25 ?_
        refine j_iload_n h 3 rfl rfl dX2_walkLetter_28 ?_
        refine jm_gout h 5 6 rfl rfl k rfl (by omega) (by omega) dX2_walkLetter_29 ?_
        refine j_iload_n h 0 rfl rfl dX2_walkLetter_30 ?_
        refine jm_gald h 5 rfl k (by omega) k12_2 rfl (by omega) (by omega) dX2_walkLetter_31 ?_
        obtain ⟨j21, hj22, hje23⟩ := hrw k k12_2 c hk hce hc5 (by omega)
        refine j_top (b := nI j21) (hje23) ?_
        refine jm_callVi (np := 2) (isC := [0, 1, 6, 2, 3]) (isR := [4, 5]) (wc := [(h0, .inl (.inr (2, [.ref a0, .ref a1, .int (nI z12_2), .int (nI t12_2), .int (nI f12_2), .int kp]))), (a0, .inl (.inl (kA 1, 60, .inl f12_2_0))), (s, .inl (.inr (5, [.ref c0, .ref c1, .ref c2, .ref c3, .ref c4, .ref c5, .ref c6, .ref c7, .ref c8, .ref c9, .ref c10, .ref c11, .int (nI n), .int (nI l), .int (nI e)]))), (c1, .inl (.inl (kA 1, 6, .inl tk))), (c3, .inl (.inl (kA 1, 6, .inl sd)))]) (wr := [(c5, .inl (.inl (kA 1, 10, .inl szs))), (c6, .inr (kA 6, kA 1, 10, 5, .inl rws))]) (rest := []) (As := [.ref s, .int (nI j21)]) (q0 := 0) h (g_X2_walkOn _ _ kA h0 a0 a1 s c0 c1 c2 c3 c4 c5 c6 c7 c8 c9 c10 c11 n l e z12_2 t12_2 f12_2 kp f12_2_0 tk sd (nI j21) hn htk inv12_2.1) tw_779 tw_755 tw_756 tw_91 tw_757 (by decide +kernel) rfl ⟨Nat.le_of_ble_eq_true rfl, Nat.le_of_ble_eq_true rfl⟩ rfl rfl (by decide) rfl rfl (by decide) (by decide) (Nat.le_of_ble_eq_true rfl) rfl ⟨Nat.le_of_ble_eq_true rfl, Nat.le_of_ble_eq_true rfl⟩ dX2_walkLetter_32 ?_
        rintro r29 ⟨q24, q25, q26, q27⟩ e28
        obtain ⟨hr32, hE30, hs31⟩ := e28
        show J x (mflat [(c5, .inl (.inl (kA 1, 10, .inl szs))), (c6, .inr (kA 6, kA 1, 10, 5, .inl rws)), (h0, .inl (.inr (2, [.ref a0, .ref a1, .int (nI q24), .int (nI q25), .int (nI q26), .int kp]))), (a0, .inl (.inl (kA 1, 60, .inl q27))), (s, .inl (.inr (5, [.ref c0, .ref c1, .ref c2, .ref c3, .ref c4, .ref c5, .ref c6, .ref c7, .ref c8, .ref c9, .ref c10, .ref c11, .int (nI n), .int (nI l), .int (nI e)]))), (c1, .inl (.inl (kA 1, 6, .inl tk))), (c3, .inl (.inl (kA 1, 6, .inl sd)))]) [(3, .int (nI k12_2)), (0, .ref h0), (1, .ref s), (2, .int (nI k))] 0 0 35 [.int r29]
        rcases hr32 with rfl | rfl
        · refine j_if_ne h 40 dX2_walkLetter_35 (by decide) (fun q => absurd (by decide) q) (fun _ => ?_)
          refine j_iconst (v := 0) h (by decide) dX2_walkLetter_38 ?_
          exact jm_zret h hq rfl dX2_walkLetter_39 (q24, q25, q26, q27) [2, 3, 4, 5, 6, 0, 1] rfl (by decide) ⟨Or.inl rfl, hE30, Nat.le_trans inv12_2.2 hs31⟩ (Nat.le_of_ble_eq_true rfl) (Nat.le_of_ble_eq_true rfl)
        · refine j_if_ne h 40 dX2_walkLetter_35 (by decide) (fun _ => ?_) (fun q => absurd q (by decide))
          refine j_iinc (v := nI (k12_2 + 1)) (lv' := [(3, .int (nI (k12_2 + 1))), (0, .ref h0), (1, .ref s), (2, .int (nI k))]) h dX2_walkLetter_40 0 rfl (nI_1 k12_2) (by decide) rfl ?_
          refine j_goto h 12 dX2_walkLetter_43 (by decide) ?_
          refine jm_sub [2, 3, 5, 6, 0, 1, 4] (w' := [(h0, .inl (.inr (2, [.ref a0, .ref a1, .int (nI q24), .int (nI q25), .int (nI q26), .int kp]))), (a0, .inl (.inl (kA 1, 60, .inl q27))), (c1, .inl (.inl (kA 1, 6, .inl tk))), (c3, .inl (.inl (kA 1, 6, .inl sd))), (c5, .inl (.inl (kA 1, 10, .inl szs))), (c6, .inr (kA 6, kA 1, 10, 5, .inl rws)), (s, .inl (.inr (5, [.ref c0, .ref c1, .ref c2, .ref c3, .ref c4, .ref c5, .ref c6, .ref c7, .ref c8, .ref c9, .ref c10, .ref c11, .int (nI n), .int (nI l), .int (nI e)])))]) rfl (by decide) [0, 1, 2, 3] (lv' := [(3, .int (nI (k12_2 + 1))), (0, .ref h0), (1, .ref s), (2, .int (nI k))]) rfl ?_
          exact ih12_2 (k12_2 + 1) (by omega) q27 q24 q25 q26 (⟨hE30, Nat.le_trans inv12_2.2 hs31⟩)
    refine jm_sub [0, 1, 2, 3, 4, 5, 6] (w' := [(h0, .inl (.inr (2, [.ref a0, .ref a1, .int (nI sz), .int (nI tm), .int (nI ft), .int kp]))), (a0, .inl (.inl (kA 1, 60, .inl row))), (c1, .inl (.inl (kA 1, 6, .inl tk))), (c3, .inl (.inl (kA 1, 6, .inl sd))), (c5, .inl (.inl (kA 1, 10, .inl szs))), (c6, .inr (kA 6, kA 1, 10, 5, .inl rws)), (s, .inl (.inr (5, [.ref c0, .ref c1, .ref c2, .ref c3, .ref c4, .ref c5, .ref c6, .ref c7, .ref c8, .ref c9, .ref c10, .ref c11, .int (nI n), .int (nI l), .int (nI e)])))]) rfl (by decide) [0, 1, 2, 3] (lv' := [(3, .int 0), (0, .ref h0), (1, .ref s), (2, .int (nI k))]) rfl ?_
    exact lp12_2 (c - 0) 0 (by omega) row sz tm ft (⟨hE, Nat.le_refl _⟩)
