section JSN
variable {x : Cx} {cc : ByteArray} {own : String} {kA : Nat → ClassId} {rm : Room} {nL : Nat} {ws : va_W} {w : mW} {lv : List (Nat × Value)} {cells slots pc : Nat} {st : List Value}
theorem j_callSNi (h : Ok x cc own kA rm nL) {S : Type} {post : Int32 → S → Prop} {w1 : S → va_W} {y : MethodName} {bc : ByteArray} {n k mc ms idx np : Nat} {rt : Option FieldType} {wc : va_W} {As rest : List Value} (hM : CtI x.1.2.1 y bc n rt k mc ms x.2.2.2.1.2.1 kA As wc post w1) (t1 : (own, idx, y) ∈ nNl) (t2 : Cond.static y ∈ TT) (t4 : Cond.initialized y.cls ∈ TT) (t5 : Cond.code y bc n rt ∈ TT)
    (hd : y.cls ≠ "java/lang/invoke/MethodHandle" ∧ y.cls ≠ "java/lang/invoke/VarHandle" ∧ (parseMethodDescriptor y.desc).map (fun d => d.parameters.length) = some np) (hlen : As.length = np) (hRm : k + 1 ≤ rm.frames ∧ 8 + (n + 11) + 40 * k ≤ rm.locals) (isC isR : List Nat) {wr : va_W} (hCf : isC.filterMap (fun i => ws[i]?) = wc) (hnC : va_nd isC = true) (hC : isC.map (fun i => ws[i]?) = wc.map some) (hR : isR.map (fun i => ws[i]?) = wr.map some) (hn : va_nd isR = true) (hdis : ∀ i ∈ isR, i ∉ isC) (hst : (rest.map fun v => v.category).sum ≤ 8) (hstk : st = As.reverse ++ rest) (hf : cells + mc ≤ rm.cells ∧ slots + ms ≤ rm.slots) (d : decode cc pc = .ok (.invokestatic idx, 3))
    (kk : ∀ (r : Int32) (u : S), post r u → J x (wr ++ w1 u) lv (cells + mc) (slots + ms) (pc + 3) (.int r :: rest)) : J x ws lv cells slots pc st := fun H locs ls hP hD hS hl => by
  refine j_afterI h hP hD hS hl (va_runSN (As := As) (rest := rest) (nL := x.2.2.2.1.2.2) (host := RX11) ⟨h.ex, h.by, h.ml, h.ow, h.ts⟩ (hM H.size) ⟨va_cnB np h.ts (gC t5 TT_good) rfl rfl rfl (h.nw.1 _ t1) (h.ts _ t4) hd (by rw [h.rr]; exact hRm), h.ts _ t2, trivial⟩ ⟨nPre_blind, fun U hU hW => ⟨rfl, by rw [hU], by rw [hU]; exact hP.sub isC hCf, va_K.moved hW.alike h.kk, (hD.sub isC hnC hC).weaken (fun _ _ _ _ => trivial), nNW.warm hW h.nw⟩⟩ rfl hlen hl.1 hstk (lv_room hst) d (by rw [h.rr]; exact hf)) isC isR hC hR hn hdis kk
theorem jm_callSNi (h : Ok x cc own kA rm nL) {S : Type} {post : Int32 → S → Prop} {w1 : S → mW} {y : MethodName} {bc : ByteArray} {n k mc ms idx np : Nat} {rt : Option FieldType} {wc : mW} {As rest : List Value} (hM : CtI x.1.2.1 y bc n rt k mc ms x.2.2.2.1.2.1 kA As (mflat wc) post (fun u => mflat (w1 u))) (t1 : (own, idx, y) ∈ nNl) (t2 : Cond.static y ∈ TT) (t4 : Cond.initialized y.cls ∈ TT) (t5 : Cond.code y bc n rt ∈ TT)
    (hd : y.cls ≠ "java/lang/invoke/MethodHandle" ∧ y.cls ≠ "java/lang/invoke/VarHandle" ∧ (parseMethodDescriptor y.desc).map (fun d => d.parameters.length) = some np) (hlen : As.length = np) (hRm : k + 1 ≤ rm.frames ∧ 8 + (n + 11) + 40 * k ≤ rm.locals) (isC isR : List Nat) {wr : mW} (hnC : va_nd isC = true) (hC : isC.map (fun i => w[i]?) = wc.map some) (hR : isR.map (fun i => w[i]?) = wr.map some) (hn : va_nd isR = true) (hdis : ∀ i ∈ isR, i ∉ isC) (hst : (rest.map fun v => v.category).sum ≤ 8) (hstk : st = As.reverse ++ rest) (hf : cells + mc ≤ rm.cells ∧ slots + ms ≤ rm.slots) (d : decode cc pc = .ok (.invokestatic idx, 3))
    (kk : ∀ (r : Int32) (u : S), post r u → J x (mflat (wr ++ w1 u)) lv (cells + mc) (slots + ms) (pc + 3) (.int r :: rest)) : J x (mflat w) lv cells slots pc st := j_callSNi h hM t1 t2 t4 t5 hd hlen hRm (isC.flatMap (mps w)) (isR.flatMap (mps w)) (map_filterMap (mps_map hC)) (mps_nd hC hnC) (mps_map hC) (mps_map hR) (mps_nd hR hn) (mps_dis hC hR hdis) hst hstk hf d (fun r u hp => by rw [← mflat_app]; exact kk r u hp)
end JSN
theorem dX2_hearWalk_0 : decode cX2_hearWalk 0 = .ok (.iconst 0, 1) := by decide +kernel
theorem dX2_hearWalk_1 : decode cX2_hearWalk 1 = .ok (.istore 4, 2) := by decide +kernel
theorem dX2_hearWalk_3 : decode cX2_hearWalk 3 = .ok (.iconst 0, 1) := by decide +kernel
theorem dX2_hearWalk_4 : decode cX2_hearWalk 4 = .ok (.istore 5, 2) := by decide +kernel
theorem dX2_hearWalk_6 : decode cX2_hearWalk 6 = .ok (.iload 5, 2) := by decide +kernel
theorem dX2_hearWalk_8 : decode cX2_hearWalk 8 = .ok (.aload_n 0, 1) := by decide +kernel
theorem dX2_hearWalk_9 : decode cX2_hearWalk 9 = .ok (.getfield 32, 3) := by decide +kernel
theorem dX2_hearWalk_12 : decode cX2_hearWalk 12 = .ok (.if_icmp .ge 45, 3) := by decide +kernel
theorem dX2_hearWalk_57 : decode cX2_hearWalk 57 = .ok (.return_, 1) := by decide +kernel
theorem dX2_hearWalk_15 : decode cX2_hearWalk 15 = .ok (.aload_n 0, 1) := by decide +kernel
theorem dX2_hearWalk_16 : decode cX2_hearWalk 16 = .ok (.getfield 9, 3) := by decide +kernel
theorem dX2_hearWalk_19 : decode cX2_hearWalk 19 = .ok (.iload 5, 2) := by decide +kernel
theorem dX2_hearWalk_21 : decode cX2_hearWalk 21 = .ok (.iaload, 1) := by decide +kernel
theorem dX2_hearWalk_22 : decode cX2_hearWalk 22 = .ok (.istore 6, 2) := by decide +kernel
theorem dX2_hearWalk_24 : decode cX2_hearWalk 24 = .ok (.aload_n 3, 1) := by decide +kernel
theorem dX2_hearWalk_25 : decode cX2_hearWalk 25 = .ok (.iload 4, 2) := by decide +kernel
theorem dX2_hearWalk_27 : decode cX2_hearWalk 27 = .ok (.aload_n 1, 1) := by decide +kernel
theorem dX2_hearWalk_28 : decode cX2_hearWalk 28 = .ok (.aload_n 0, 1) := by decide +kernel
theorem dX2_hearWalk_29 : decode cX2_hearWalk 29 = .ok (.getfield 15, 3) := by decide +kernel
theorem tw_272 : Cond.fieldLink RX2 15 "LimpCode$Earnest" "loud" "[I" ∈ TT := nx_mem 272 (by decide +kernel) (by decide +kernel)
theorem dX2_hearWalk_32 : decode cX2_hearWalk 32 = .ok (.iload 6, 2) := by decide +kernel
theorem dX2_hearWalk_34 : decode cX2_hearWalk 34 = .ok (.iaload, 1) := by decide +kernel
theorem dX2_hearWalk_35 : decode cX2_hearWalk 35 = .ok (.iload_n 2, 1) := by decide +kernel
theorem dX2_hearWalk_36 : decode cX2_hearWalk 36 = .ok (.invokevirtual 74, 3) := by decide +kernel
theorem tw_797 : Cond.methodLink RX2 74 yX5_heardBelow ∈ TT := nx_mem 797 (by decide +kernel) (by decide +kernel)
theorem tw_798 : Cond.instanceMethod yX5_heardBelow ∈ TT := nx_mem 798 (by decide +kernel) (by decide +kernel)
theorem tw_799 : Cond.selects RX5 yX5_heardBelow yX5_heardBelow ∈ TT := nx_mem 799 (by decide +kernel) (by decide +kernel)
theorem tw_800 : Cond.code yX5_heardBelow cX5_heardBelow 3 (some .int) ∈ TT := nx_mem 800 (by decide +kernel) (by decide +kernel)
theorem dX2_hearWalk_39 : decode cX2_hearWalk 39 = .ok (.aload_n 1, 1) := by decide +kernel
theorem dX2_hearWalk_40 : decode cX2_hearWalk 40 = .ok (.getfield 50, 3) := by decide +kernel
theorem dX2_hearWalk_43 : decode cX2_hearWalk 43 = .ok (.iload 6, 2) := by decide +kernel
theorem dX2_hearWalk_45 : decode cX2_hearWalk 45 = .ok (.iaload, 1) := by decide +kernel
theorem dX2_hearWalk_46 : decode cX2_hearWalk 46 = .ok (.invokestatic 77, 3) := by decide +kernel
theorem tw_806 : Cond.static yX11_putStep ∈ TT := nx_mem 806 (by decide +kernel) (by decide +kernel)
theorem tw_87 : Cond.initialized RX11 ∈ TT := nx_mem 87 (by decide +kernel) (by decide +kernel)
theorem tw_807 : Cond.code yX11_putStep cX11_putStep 6 (some .int) ∈ TT := nx_mem 807 (by decide +kernel) (by decide +kernel)
theorem dX2_hearWalk_49 : decode cX2_hearWalk 49 = .ok (.istore 4, 2) := by decide +kernel
theorem dX2_hearWalk_51 : decode cX2_hearWalk 51 = .ok (.iinc 5 1, 3) := by decide +kernel
theorem dX2_hearWalk_54 : decode cX2_hearWalk 54 = .ok (.goto (-48), 3) := by decide +kernel
set_option maxHeartbeats 4000000 in
set_option maxRecDepth 100000 in
theorem g_X2_hearWalk (lau : Launch) (gg : va_G) (kA : Nat → ClassId) (h0 : Nat) (a0 : Nat) (a1 : Nat) (s : Nat) (c0 : Nat) (c1 : Nat) (c2 : Nat) (c3 : Nat) (c4 : Nat) (c5 : Nat) (c6 : Nat) (c7 : Nat) (c8 : Nat) (c9 : Nat) (c10 : Nat) (c11 : Nat) (n : Nat) (l : Nat) (e : Nat) (sz : Nat) (tm : Int32) (ft : Int32) (kp : Int32) (row : Nat → Int32) (lo : Nat → Int32) (tk : Nat → Int32) (fl : Nat → Int32) (o : Nat) (f : Nat → Int32) (er : Int32) (hn : n ≤ 6) (he : e ≤ 4) (htk : TkOk n tk) (hsz : sz ≤ 60) (hrow : ∀ i, i < sz → ∃ k, k < n ∧ row i = nI k) : CtV lau yX2_hearWalk cX2_hearWalk 7 (none) 3 0 0 gg kA [.ref h0, .ref s, .int er, .ref o] (mflat [(h0, .inl (.inr (2, [.ref a0, .ref a1, .int (nI sz), .int tm, .int ft, .int kp]))), (a0, .inl (.inl (kA 1, 60, .inl row))), (a1, .inl (.inl (kA 1, 6, .inl lo))), (s, .inl (.inr (5, [.ref c0, .ref c1, .ref c2, .ref c3, .ref c4, .ref c5, .ref c6, .ref c7, .ref c8, .ref c9, .ref c10, .ref c11, .int (nI n), .int (nI l), .int (nI e)]))), (c1, .inl (.inl (kA 1, 6, .inl tk))), (c10, .inl (.inl (kA 1, 4, .inl fl))), (o, .inl (.inl (kA 1, 60, .inl f)))]) (S := (Nat → Int32)) (fun (f1 : (Nat → Int32)) => True) (fun (f1 : (Nat → Int32)) => mflat [(h0, .inl (.inr (2, [.ref a0, .ref a1, .int (nI sz), .int tm, .int ft, .int kp]))), (a0, .inl (.inl (kA 1, 60, .inl row))), (a1, .inl (.inl (kA 1, 6, .inl lo))), (s, .inl (.inr (5, [.ref c0, .ref c1, .ref c2, .ref c3, .ref c4, .ref c5, .ref c6, .ref c7, .ref c8, .ref c9, .ref c10, .ref c11, .int (nI n), .int (nI l), .int (nI e)]))), (c1, .inl (.inl (kA 1, 6, .inl tk))), (c10, .inl (.inl (kA 1, 4, .inl fl))), (o, .inl (.inl (kA 1, 60, .inl f1)))]) := by
  refine nx_startV (by decide +kernel) (Nat.le_of_ble_eq_true rfl) ?_
  intro x hnm h hq
  have h : Ok x cX2_hearWalk RX2 kA (rmC 3 0 0) 7 := h
  show J x (mflat [(h0, .inl (.inr (2, [.ref a0, .ref a1, .int (nI sz), .int tm, .int ft, .int kp]))), (a0, .inl (.inl (kA 1, 60, .inl row))), (a1, .inl (.inl (kA 1, 6, .inl lo))), (s, .inl (.inr (5, [.ref c0, .ref c1, .ref c2, .ref c3, .ref c4, .ref c5, .ref c6, .ref c7, .ref c8, .ref c9, .ref c10, .ref c11, .int (nI n), .int (nI l), .int (nI e)]))), (c1, .inl (.inl (kA 1, 6, .inl tk))), (c10, .inl (.inl (kA 1, 4, .inl fl))), (o, .inl (.inl (kA 1, 60, .inl f)))]) [(0, .ref h0), (1, .ref s), (2, .int er), (3, .ref o)] 0 0 0 []
  refine j_iconst (v := 0) h (by decide) dX2_hearWalk_0 ?_
  refine j_istore (lv' := [(4, .int 0), (0, .ref h0), (1, .ref s), (2, .int er), (3, .ref o)]) h dX2_hearWalk_1 (by decide) rfl ?_
  refine j_iconst (v := 0) h (by decide) dX2_hearWalk_3 ?_
  refine j_istore (lv' := [(5, .int 0), (4, .int 0), (0, .ref h0), (1, .ref s), (2, .int er), (3, .ref o)]) h dX2_hearWalk_4 (by decide) rfl ?_
  have lp6_3 : ∀ (n6_3 k6_3 : Nat), k6_3 + n6_3 = sz → ∀ (f6_3_0 : Nat → Int32) (at6_3 : Nat), (at6_3 ≤ 60) → J x (mflat [(h0, .inl (.inr (2, [.ref a0, .ref a1, .int (nI sz), .int tm, .int ft, .int kp]))), (a0, .inl (.inl (kA 1, 60, .inl row))), (a1, .inl (.inl (kA 1, 6, .inl lo))), (s, .inl (.inr (5, [.ref c0, .ref c1, .ref c2, .ref c3, .ref c4, .ref c5, .ref c6, .ref c7, .ref c8, .ref c9, .ref c10, .ref c11, .int (nI n), .int (nI l), .int (nI e)]))), (c1, .inl (.inl (kA 1, 6, .inl tk))), (c10, .inl (.inl (kA 1, 4, .inl fl))), (o, .inl (.inl (kA 1, 60, .inl f6_3_0)))]) [(5, .int (nI k6_3)), (4, .int (nI at6_3)), (0, .ref h0), (1, .ref s), (2, .int er), (3, .ref o)] 0 0 6 [] := by
    intro n6_3
    induction n6_3 with
    | zero =>
      intro k6_3 hk6_3 f6_3_0 at6_3 inv6_3
      have hN6_3 : sz = k6_3 := by omega
      subst hN6_3
      refine j_iload h 0 rfl dX2_hearWalk_6 ?_
      refine j_aload_n h 2 rfl rfl dX2_hearWalk_8 ?_
      refine jm_get h iw_X2 0 rfl rfl 2 (by decide) tw_274 rfl dX2_hearWalk_9 ?_
      refine j_icmp_ge h 57 dX2_hearWalk_12 (by decide) (fun _ => ?_) (fun q => absurd (Int32.le_refl _) q)
      exact jm_vret h hq dX2_hearWalk_57 f6_3_0 [0, 1, 2, 3, 4, 5, 6] rfl (by decide) trivial (Nat.le_of_ble_eq_true rfl) (Nat.le_of_ble_eq_true rfl)
    | succ n6_3 ih6_3 =>
      intro k6_3 hk6_3 f6_3_0 at6_3 inv6_3
      have hlt6_3 : k6_3 < sz := by omega
      refine j_iload h 0 rfl dX2_hearWalk_6 ?_
      refine j_aload_n h 2 rfl rfl dX2_hearWalk_8 ?_
      refine jm_get h iw_X2 0 rfl rfl 2 (by decide) tw_274 rfl dX2_hearWalk_9 ?_
      refine j_icmp_ge h 57 dX2_hearWalk_12 (by decide) (fun q => absurd q (nI_ge hlt6_3 (by omega))) (fun _ => ?_)
      refine j_aload_n h 2 rfl rfl dX2_hearWalk_15 ?_
      refine jm_get h iw_X2 0 rfl rfl 0 (by decide) tw_271 rfl dX2_hearWalk_16 ?_
      refine j_iload h 0 rfl dX2_hearWalk_19 ?_
      refine jm_iald h 1 rfl k6_3 rfl (by omega) (by omega) dX2_hearWalk_21 ?_
      obtain ⟨k, hk, hke⟩ := hrow k6_3 (by omega)
      obtain ⟨t, ht1, ht9, hte⟩ := htk k hk
      refine j_top (b := nI k) (hke) ?_
      refine j_istore (lv' := [(6, .int (nI k)), (5, .int (nI k6_3)), (4, .int (nI at6_3)), (0, .ref h0), (1, .ref s), (2, .int er), (3, .ref o)]) h dX2_hearWalk_22 (by decide) rfl ?_
      refine j_aload_n h 6 rfl rfl dX2_hearWalk_24 ?_
      refine j_iload h 2 rfl dX2_hearWalk_25 ?_
      refine j_aload_n h 4 rfl rfl dX2_hearWalk_27 ?_
      refine j_aload_n h 3 rfl rfl dX2_hearWalk_28 ?_
      refine jm_get h iw_X2 0 rfl rfl 1 (by decide) tw_272 rfl dX2_hearWalk_29 ?_
      refine j_iload h 0 rfl dX2_hearWalk_32 ?_
      refine jm_iald h 2 rfl k rfl (by omega) (by omega) dX2_hearWalk_34 ?_
      refine j_iload_n h 5 rfl rfl dX2_hearWalk_35 ?_
      refine jm_callVi (np := 2) (isC := [3, 5]) (isR := [0, 1, 2, 4, 6]) (wc := [(s, .inl (.inr (5, [.ref c0, .ref c1, .ref c2, .ref c3, .ref c4, .ref c5, .ref c6, .ref c7, .ref c8, .ref c9, .ref c10, .ref c11, .int (nI n), .int (nI l), .int (nI e)]))), (c10, .inl (.inl (kA 1, 4, .inl fl)))]) (wr := [(h0, .inl (.inr (2, [.ref a0, .ref a1, .int (nI sz), .int tm, .int ft, .int kp]))), (a0, .inl (.inl (kA 1, 60, .inl row))), (a1, .inl (.inl (kA 1, 6, .inl lo))), (c1, .inl (.inl (kA 1, 6, .inl tk))), (o, .inl (.inl (kA 1, 60, .inl f6_3_0)))]) (rest := [.int (nI at6_3), .ref o]) (As := [.int (lo k), .int er]) (q0 := 0) h (g_X5_heardBelow _ _ kA s c0 c1 c2 c3 c4 c5 c6 c7 c8 c9 c10 c11 n l e fl (lo k) er he) tw_797 tw_798 tw_799 tw_90 tw_800 (by decide +kernel) rfl ⟨Nat.le_of_ble_eq_true rfl, Nat.le_of_ble_eq_true rfl⟩ rfl rfl (by decide) rfl rfl (by decide) (by decide) (Nat.le_of_ble_eq_true rfl) rfl ⟨Nat.le_of_ble_eq_true rfl, Nat.le_of_ble_eq_true rfl⟩ dX2_hearWalk_36 ?_
      rintro r _ e33
      subst e33
      show J x (mflat [(h0, .inl (.inr (2, [.ref a0, .ref a1, .int (nI sz), .int tm, .int ft, .int kp]))), (a0, .inl (.inl (kA 1, 60, .inl row))), (a1, .inl (.inl (kA 1, 6, .inl lo))), (c1, .inl (.inl (kA 1, 6, .inl tk))), (o, .inl (.inl (kA 1, 60, .inl f6_3_0))), (s, .inl (.inr (5, [.ref c0, .ref c1, .ref c2, .ref c3, .ref c4, .ref c5, .ref c6, .ref c7, .ref c8, .ref c9, .ref c10, .ref c11, .int (nI n), .int (nI l), .int (nI e)]))), (c10, .inl (.inl (kA 1, 4, .inl fl)))]) [(6, .int (nI k)), (5, .int (nI k6_3)), (4, .int (nI at6_3)), (0, .ref h0), (1, .ref s), (2, .int er), (3, .ref o)] 0 0 39 [.int (hbV fl e (lo k) er), .int (nI at6_3), .ref o]
      refine j_aload_n h 4 rfl rfl dX2_hearWalk_39 ?_
      refine jm_get h iw_X5 5 rfl rfl 1 (by decide) tw_180 rfl dX2_hearWalk_40 ?_
      refine j_iload h 0 rfl dX2_hearWalk_43 ?_
      refine jm_iald h 3 rfl k rfl (by omega) (by omega) dX2_hearWalk_45 ?_
      refine j_top (b := nI t) (hte) ?_
      refine jm_callSNi (np := 4) (isC := [4]) (isR := [0, 1, 2, 3, 5, 6]) (wc := [(o, .inl (.inl (kA 1, 60, .inl f6_3_0)))]) (wr := [(h0, .inl (.inr (2, [.ref a0, .ref a1, .int (nI sz), .int tm, .int ft, .int kp]))), (a0, .inl (.inl (kA 1, 60, .inl row))), (a1, .inl (.inl (kA 1, 6, .inl lo))), (c1, .inl (.inl (kA 1, 6, .inl tk))), (s, .inl (.inr (5, [.ref c0, .ref c1, .ref c2, .ref c3, .ref c4, .ref c5, .ref c6, .ref c7, .ref c8, .ref c9, .ref c10, .ref c11, .int (nI n), .int (nI l), .int (nI e)]))), (c10, .inl (.inl (kA 1, 4, .inl fl)))]) (rest := []) (As := [.ref o, .int (nI at6_3), .int (hbV fl e (lo k) er), .int (nI t)]) h (g_X11_putStep _ _ kA o 60 f6_3_0 at6_3 (hbV fl e (lo k) er) t (by omega) (by omega) (by omega)) (by decide) tw_806 tw_87 tw_807 (by decide +kernel) rfl ⟨Nat.le_of_ble_eq_true rfl, Nat.le_of_ble_eq_true rfl⟩ (by decide) rfl rfl (by decide) (by decide) (Nat.le_of_ble_eq_true rfl) rfl ⟨Nat.le_of_ble_eq_true rfl, Nat.le_of_ble_eq_true rfl⟩ dX2_hearWalk_46 ?_
      rintro r37 ⟨q34, q35⟩ e36
      obtain ⟨e40, hb38, hc39⟩ := e36
      subst e40
      show J x (mflat [(h0, .inl (.inr (2, [.ref a0, .ref a1, .int (nI sz), .int tm, .int ft, .int kp]))), (a0, .inl (.inl (kA 1, 60, .inl row))), (a1, .inl (.inl (kA 1, 6, .inl lo))), (c1, .inl (.inl (kA 1, 6, .inl tk))), (s, .inl (.inr (5, [.ref c0, .ref c1, .ref c2, .ref c3, .ref c4, .ref c5, .ref c6, .ref c7, .ref c8, .ref c9, .ref c10, .ref c11, .int (nI n), .int (nI l), .int (nI e)]))), (c10, .inl (.inl (kA 1, 4, .inl fl))), (o, .inl (.inl (kA 1, 60, .inl q35)))]) [(6, .int (nI k)), (5, .int (nI k6_3)), (4, .int (nI at6_3)), (0, .ref h0), (1, .ref s), (2, .int er), (3, .ref o)] 0 0 49 [.int (nI q34)]
      refine j_istore (lv' := [(4, .int (nI q34)), (6, .int (nI k)), (5, .int (nI k6_3)), (0, .ref h0), (1, .ref s), (2, .int er), (3, .ref o)]) h dX2_hearWalk_49 (by decide) rfl ?_
      refine j_iinc (v := nI (k6_3 + 1)) (lv' := [(5, .int (nI (k6_3 + 1))), (4, .int (nI q34)), (6, .int (nI k)), (0, .ref h0), (1, .ref s), (2, .int er), (3, .ref o)]) h dX2_hearWalk_51 2 rfl (nI_1 k6_3) (by decide) rfl ?_
      refine j_goto h 6 dX2_hearWalk_54 (by decide) ?_
      refine jm_sub [0, 1, 2, 4, 3, 5, 6] (w' := [(h0, .inl (.inr (2, [.ref a0, .ref a1, .int (nI sz), .int tm, .int ft, .int kp]))), (a0, .inl (.inl (kA 1, 60, .inl row))), (a1, .inl (.inl (kA 1, 6, .inl lo))), (s, .inl (.inr (5, [.ref c0, .ref c1, .ref c2, .ref c3, .ref c4, .ref c5, .ref c6, .ref c7, .ref c8, .ref c9, .ref c10, .ref c11, .int (nI n), .int (nI l), .int (nI e)]))), (c1, .inl (.inl (kA 1, 6, .inl tk))), (c10, .inl (.inl (kA 1, 4, .inl fl))), (o, .inl (.inl (kA 1, 60, .inl q35)))]) rfl (by decide) [0, 1, 3, 4, 5, 6] (lv' := [(5, .int (nI (k6_3 + 1))), (4, .int (nI q34)), (0, .ref h0), (1, .ref s), (2, .int er), (3, .ref o)]) rfl ?_
      exact ih6_3 (k6_3 + 1) (by omega) q35 q34 (by omega)
  refine jm_sub [0, 1, 2, 3, 4, 5, 6] (w' := [(h0, .inl (.inr (2, [.ref a0, .ref a1, .int (nI sz), .int tm, .int ft, .int kp]))), (a0, .inl (.inl (kA 1, 60, .inl row))), (a1, .inl (.inl (kA 1, 6, .inl lo))), (s, .inl (.inr (5, [.ref c0, .ref c1, .ref c2, .ref c3, .ref c4, .ref c5, .ref c6, .ref c7, .ref c8, .ref c9, .ref c10, .ref c11, .int (nI n), .int (nI l), .int (nI e)]))), (c1, .inl (.inl (kA 1, 6, .inl tk))), (c10, .inl (.inl (kA 1, 4, .inl fl))), (o, .inl (.inl (kA 1, 60, .inl f)))]) rfl (by decide) [0, 1, 2, 3, 4, 5] (lv' := [(5, .int 0), (4, .int 0), (0, .ref h0), (1, .ref s), (2, .int er), (3, .ref o)]) rfl ?_
  exact lp6_3 (sz - 0) 0 (by omega) f 0 (by decide)
