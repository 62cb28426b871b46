def HuP (r : Int32) (sz : Nat) (row : Nat → Int32) (sz' tm' ft' : Nat) (row' : Nat → Int32) : Prop := r = nI sz ∧ sz' = 0 ∧ tm' = 0 ∧ ft' = 0 ∧ row' = row
def HuM (e r : Int32) (f45 f45' : Nat → Int32) : Prop := (∃ t, t < 2 ∧ e = nI t ∧ r = f45 t ∧ f45' = upd f45 t 0) ∨ ((∀ t, t < 2 → ¬ e = nI t) ∧ r = -1 ∧ f45' = f45)
section TB
variable {D : Nat → Nat → Nat} {asz atm aft bsz btm bft asz' atm' aft' bsz' btm' bft' L : Nat} {arow brow arow' brow' f44 f45 f44' f45' : Nat → Int32} {xa xb : Nat → Nat} {e lt r1 r2 : Int32}
def tw (a b : Nat) : Nat → Nat := fun t => if t = 0 then a else b
def tX (a b : Nat → Nat) : Nat → Nat → Nat := fun t => if t = 0 then a else b
theorem TxN_of (ca : TxC D asz atm aft arow xa) (ma : TxM asz f44 0 (f45 0) xa) (cb : TxC D bsz btm bft brow xb) (mb : TxM bsz f44 60 (f45 1) xb) (hD : DOk D) (hL : L = D 0 1) : TxN D (tw asz bsz) (tX xa xb) L f44 f45 := fun t ht => by
  rcases (show t = 0 ∨ t = 1 by omega) with rfl | rfl
  · have z := TxC_sz ca hD
    obtain ⟨c1, c2, c3, c4⟩ := ca
    refine ⟨show asz ≤ 60 by omega, ma.1, fun k hk => ⟨ma.2 k hk, by rw [hL]; exact (c1 k hk).2⟩, ?_, ?_⟩
    · show tkS (ltS D) xa asz ≤ 60
      omega
    · show ¬ txF D xa asz = 0
      omega
  · have z := TxC_sz cb hD
    obtain ⟨c1, c2, c3, c4⟩ := cb
    refine ⟨show bsz ≤ 60 by omega, mb.1, fun k hk => ⟨mb.2 k hk, by rw [hL]; exact (c1 k hk).2⟩, ?_, ?_⟩
    · show tkS (ltS D) xb bsz ≤ 60
      omega
    · show ¬ txF D xb bsz = 0
      omega
theorem tell_both (ca : TxC D asz atm aft arow xa) (ma : TxM asz f44 0 (f45 0) xa) (cb : TxC D bsz btm bft brow xb) (mb : TxM bsz f44 60 (f45 1) xb) (hD : DOk D) (hc : (e = 0 → TlP D r1 lt asz atm aft arow asz' atm' aft' arow' ∧ TxS bsz btm bft brow bsz' btm' bft' brow') ∧ (e = 1 → TlP D r1 lt bsz btm bft brow bsz' btm' bft' brow' ∧ TxS asz atm aft arow asz' atm' aft' arow') ∧ (¬ e = 0 → ¬ e = 1 → r1 = -1 ∧ TxS asz atm aft arow asz' atm' aft' arow' ∧ TxS bsz btm bft brow bsz' btm' bft' brow')) (hm : TlM D (tw asz bsz) (tX xa xb) e lt r2 f44 f45 f44' f45') : r1 = r2 ∧ TxB D asz' atm' aft' arow' f44' 0 (f45' 0) ∧ TxB D bsz' btm' bft' brow' f44' 60 (f45' 1) := by
  have za := TxC_sz ca hD
  have zb := TxC_sz cb hD
  have a60 := ca.2.2.2
  have b60 := cb.2.2.2
  have d10 := hD.2.1
  have Ta : TxB D asz atm aft arow f44 0 (f45 0) := ⟨xa, ca, ma⟩
  have Tb : TxB D bsz btm bft brow f44 60 (f45 1) := ⟨xb, cb, mb⟩
  have ea : tkS (ltS D) (tX xa xb 0) (tw asz bsz 0) = atm := ca.2.1.symm
  have fa : txF D (tX xa xb 0) (tw asz bsz 0) = aft + 1 := ca.2.2.1.symm
  have eb : tkS (ltS D) (tX xa xb 1) (tw asz bsz 1) = btm := cb.2.1.symm
  have fb : txF D (tX xa xb 1) (tw asz bsz 1) = bft + 1 := cb.2.2.1.symm
  by_cases e0 : e = 0
  · obtain ⟨tl, s1, s2, s3, s4⟩ := hc.1 e0
    subst s1 s2 s3 s4
    rcases tl with ⟨l, h1, h2, h3, h4, h5, h6, h7, h8, h9⟩ | ⟨no, h5, h6, h7, h8, h9⟩
    · rcases hm with ⟨t, l', k1, k2, k3, k4, k5, k6, k7, k8, k9⟩ | ⟨no, _⟩
      · have et : t = 0 := (nI_eq (a := t) (b := 0) (by omega) (by decide)).mp (k2.symm.trans e0)
        have el : l' = l := (nI_eq (by omega) (by omega)).mp (k4.symm.trans h2)
        subst et el
        have l1 := (ltS_b hD h1).1
        rw [ea] at k7
        rw [h5, k7, h6, h7, h9, k8, k9, pk_us, pk_un (by decide)]
        refine ⟨rfl, ?_, TxB_o Tb (Or.inl (show 60 * 0 + asz < 60 by omega)) (by omega)⟩
        have q := TxB_n ca ma h1 h4 h8
        rw [show 0 + asz = 60 * 0 + tw asz bsz' 0 from by show 0 + asz = 60 * 0 + asz; omega] at q
        exact q
      · have q := no 0 l (by decide) e0 h1 h2
        rw [ea, fa] at q
        rcases q with q | q
        · exact absurd q h3
        · omega
    · rcases hm with ⟨t, l', k1, k2, k3, k4, k5, k6, k7, k8, k9⟩ | ⟨_, k7, k8, k9⟩
      · have et : t = 0 := (nI_eq (a := t) (b := 0) (by omega) (by decide)).mp (k2.symm.trans e0)
        subst et
        rw [ea] at k6
        rw [fa] at k5
        rcases no l' k3 k4 with q | q
        · exact absurd q k5
        · omega
      · rw [h5, k7, h6, h7, h8, h9, k8, k9]
        exact ⟨rfl, Ta, Tb⟩
  · by_cases e1 : e = 1
    · obtain ⟨tl, s1, s2, s3, s4⟩ := hc.2.1 e1
      subst s1 s2 s3 s4
      rcases tl with ⟨l, h1, h2, h3, h4, h5, h6, h7, h8, h9⟩ | ⟨no, h5, h6, h7, h8, h9⟩
      · rcases hm with ⟨t, l', k1, k2, k3, k4, k5, k6, k7, k8, k9⟩ | ⟨no, _⟩
        · have et : t = 1 := (nI_eq (a := t) (b := 1) (by omega) (by decide)).mp (k2.symm.trans e1)
          have el : l' = l := (nI_eq (by omega) (by omega)).mp (k4.symm.trans h2)
          subst et el
          have l1 := (ltS_b hD h1).1
          rw [eb] at k7
          rw [h5, k7, h6, h7, h9, k8, k9, pk_us, pk_un (by decide)]
          refine ⟨rfl, TxB_o Ta (Or.inr (show 0 + 60 ≤ 60 * 1 + bsz by omega)) (by omega), ?_⟩
          have q := TxB_n cb mb h1 h4 h8
          rw [show 60 + bsz = 60 * 1 + tw asz' bsz 1 from by show 60 + bsz = 60 * 1 + bsz; omega] at q
          exact q
        · have q := no 1 l (by decide) e1 h1 h2
          rw [eb, fb] at q
          rcases q with q | q
          · exact absurd q h3
          · omega
      · rcases hm with ⟨t, l', k1, k2, k3, k4, k5, k6, k7, k8, k9⟩ | ⟨_, k7, k8, k9⟩
        · have et : t = 1 := (nI_eq (a := t) (b := 1) (by omega) (by decide)).mp (k2.symm.trans e1)
          subst et
          rw [eb] at k6
          rw [fb] at k5
          rcases no l' k3 k4 with q | q
          · exact absurd q k5
          · omega
        · rw [h5, k7, h6, h7, h8, h9, k8, k9]
          exact ⟨rfl, Ta, Tb⟩
    · obtain ⟨h5, ⟨s1, s2, s3, s4⟩, u1, u2, u3, u4⟩ := hc.2.2 e0 e1
      rcases hm with ⟨t, l', k1, k2, _⟩ | ⟨_, k7, k8, k9⟩
      · rcases (show t = 0 ∨ t = 1 by omega) with rfl | rfl
        · exact absurd k2 e0
        · exact absurd k2 e1
      · rw [h5, k7, s1, s2, s3, s4, u1, u2, u3, u4, k8, k9]
        exact ⟨rfl, Ta, Tb⟩
theorem hush_both (Ta : TxB D asz atm aft arow f44 0 (f45 0)) (Tb : TxB D bsz btm bft brow f44 60 (f45 1)) (hc : (e = 0 → HuP r1 asz arow asz' atm' aft' arow' ∧ TxS bsz btm bft brow bsz' btm' bft' brow') ∧ (e = 1 → HuP r1 bsz brow bsz' btm' bft' brow' ∧ TxS asz atm aft arow asz' atm' aft' arow') ∧ (¬ e = 0 → ¬ e = 1 → r1 = -1 ∧ TxS asz atm aft arow asz' atm' aft' arow' ∧ TxS bsz btm bft brow bsz' btm' bft' brow')) (hm : HuM e r2 f45 f45') : r1 = r2 ∧ TxB D asz' atm' aft' arow' f44 0 (f45' 0) ∧ TxB D bsz' btm' bft' brow' f44 60 (f45' 1) := by
  by_cases e0 : e = 0
  · obtain ⟨⟨h1, h2, h3, h4, h5⟩, s1, s2, s3, s4⟩ := hc.1 e0
    rcases hm with ⟨t, k1, k2, k3, k4⟩ | ⟨no, _⟩
    · have et : t = 0 := (nI_eq (a := t) (b := 0) (by omega) (by decide)).mp (k2.symm.trans e0)
      subst et
      rw [h1, h2, h3, h4, h5, s1, s2, s3, s4, k3, k4, pk_us, pk_un (by decide)]
      obtain ⟨x, _, m⟩ := id Ta
      exact ⟨m.1.symm, TxB_0 _ _, Tb⟩
    · exact absurd e0 (no 0 (by decide))
  · by_cases e1 : e = 1
    · obtain ⟨⟨h1, h2, h3, h4, h5⟩, s1, s2, s3, s4⟩ := hc.2.1 e1
      rcases hm with ⟨t, k1, k2, k3, k4⟩ | ⟨no, _⟩
      · have et : t = 1 := (nI_eq (a := t) (b := 1) (by omega) (by decide)).mp (k2.symm.trans e1)
        subst et
        rw [h1, h2, h3, h4, h5, s1, s2, s3, s4, k3, k4, pk_us, pk_un (by decide)]
        obtain ⟨x, _, m⟩ := id Tb
        exact ⟨m.1.symm, Ta, TxB_0 _ _⟩
      · exact absurd e1 (no 1 (by decide))
    · obtain ⟨h5, ⟨s1, s2, s3, s4⟩, u1, u2, u3, u4⟩ := hc.2.2 e0 e1
      rcases hm with ⟨t, k1, k2, _⟩ | ⟨_, k7, k9⟩
      · rcases (show t = 0 ∨ t = 1 by omega) with rfl | rfl
        · exact absurd k2 e0
        · exact absurd k2 e1
      · rw [h5, k7, s1, s2, s3, s4, u1, u2, u3, u4, k9]
        exact ⟨rfl, Ta, Tb⟩
end TB
set_option maxHeartbeats 4000000 in
set_option maxRecDepth 100000 in
theorem s_X11_hushF (lau : Launch) (gg : va_G) (kA : Nat → ClassId) (L : Nat) (e : Int32) (t : Nat) (rd : Nat) (s : Nat) (zz : Nat) (b : Nat) (bx : Nat) (tx : Nat) (so : Nat) (bd : Nat) (g : Nat) (gq : Nat) (v : Nat) (sk : Nat) (d : Nat) (fh : Nat) (sh : Nat) (ly : Nat) (lsz : Int32) (tod : Nat) (pa : Nat) (pa0 : Nat) (pasz : Nat) (patm : Nat) (paft : Nat) (parow : Nat → Int32) (pb : Nat) (pb0 : Nat) (pbsz : Nat) (pbtm : Nat) (pbft : Nat) (pbrow : Nat → Int32) (htod : tod ≤ 100000) (hpasz : pasz ≤ 60) (hpatm : patm ≤ 60) (hpaft : paft ≤ 1) (hpbsz : pbsz ≤ 60) (hpbtm : pbtm ≤ 60) (hpbft : pbft ≤ 1) : CtI lau yX11_hush cX11_hush 3 (some .int) 2 0 0 gg kA [.ref L, .int e] (mflat [(L, .inl (.inr (11, [.ref t, .ref rd, .ref s, .ref zz, .ref b, .ref bx, .ref tx, .ref so, .ref bd, .ref g, .ref gq, .ref v, .ref sk, .ref d, .ref fh, .ref sh, .ref ly, .int lsz, .int (nI tod)]))), (tx, .inl (.inl (kA 5, 2, .inr (.inr (.inr (.inr (q2 pa pb))))))), (pa, .inl (.inr (10, [.ref pa0, .int (nI pasz), .int (nI patm), .int (nI paft)]))), (pa0, .inl (.inl (kA 1, 60, .inl parow))), (pb, .inl (.inr (10, [.ref pb0, .int (nI pbsz), .int (nI pbtm), .int (nI pbft)]))), (pb0, .inl (.inl (kA 1, 60, .inl pbrow)))]) (S := Nat × Nat × Nat × Nat × Nat × Nat) (fun (r : Int32) ((y_pa_1, y_pa_2, y_pa_3, y_pb_1, y_pb_2, y_pb_3) : Nat × Nat × Nat × Nat × Nat × Nat) => (y_pa_1 ≤ pasz) ∧ (y_pa_2 ≤ patm) ∧ (y_pa_3 ≤ 1) ∧ (y_pb_1 ≤ pbsz) ∧ (y_pb_2 ≤ pbtm) ∧ (y_pb_3 ≤ 1) ∧ ((e = 0 → HuP r pasz parow y_pa_1 y_pa_2 y_pa_3 parow ∧ TxS pbsz pbtm pbft pbrow y_pb_1 y_pb_2 y_pb_3 pbrow) ∧ (e = 1 → HuP r pbsz pbrow y_pb_1 y_pb_2 y_pb_3 pbrow ∧ TxS pasz patm paft parow y_pa_1 y_pa_2 y_pa_3 parow) ∧ (¬ e = 0 → ¬ e = 1 → r = -1 ∧ TxS pasz patm paft parow y_pa_1 y_pa_2 y_pa_3 parow ∧ TxS pbsz pbtm pbft pbrow y_pb_1 y_pb_2 y_pb_3 pbrow))) (fun ((y_pa_1, y_pa_2, y_pa_3, y_pb_1, y_pb_2, y_pb_3) : Nat × Nat × Nat × Nat × Nat × Nat) => mflat [(L, .inl (.inr (11, [.ref t, .ref rd, .ref s, .ref zz, .ref b, .ref bx, .ref tx, .ref so, .ref bd, .ref g, .ref gq, .ref v, .ref sk, .ref d, .ref fh, .ref sh, .ref ly, .int lsz, .int (nI tod)]))), (tx, .inl (.inl (kA 5, 2, .inr (.inr (.inr (.inr (q2 pa pb))))))), (pa, .inl (.inr (10, [.ref pa0, .int (nI y_pa_1), .int (nI y_pa_2), .int (nI y_pa_3)]))), (pa0, .inl (.inl (kA 1, 60, .inl parow))), (pb, .inl (.inr (10, [.ref pb0, .int (nI y_pb_1), .int (nI y_pb_2), .int (nI y_pb_3)]))), (pb0, .inl (.inl (kA 1, 60, .inl pbrow)))]) := by
  refine nx_startI (by decide +kernel) (Nat.le_of_ble_eq_true rfl) ?_
  intro x hnm h hq
  have h : Ok x cX11_hush RX11 kA (rmC 2 0 0) 3 := h
  show J x (mflat [(L, .inl (.inr (11, [.ref t, .ref rd, .ref s, .ref zz, .ref b, .ref bx, .ref tx, .ref so, .ref bd, .ref g, .ref gq, .ref v, .ref sk, .ref d, .ref fh, .ref sh, .ref ly, .int lsz, .int (nI tod)]))), (tx, .inl (.inl (kA 5, 2, .inr (.inr (.inr (.inr (q2 pa pb))))))), (pa, .inl (.inr (10, [.ref pa0, .int (nI pasz), .int (nI patm), .int (nI paft)]))), (pa0, .inl (.inl (kA 1, 60, .inl parow))), (pb, .inl (.inr (10, [.ref pb0, .int (nI pbsz), .int (nI pbtm), .int (nI pbft)]))), (pb0, .inl (.inl (kA 1, 60, .inl pbrow)))]) [(0, .ref L), (1, .int e)] 0 0 0 []
  refine j_iload_n h 1 rfl rfl dX11_hush_0 ?_
  refine jm_callSi (np := 1) (isC := []) (isR := [0, 1, 2, 3, 4, 5]) (wc := []) (wr := [(L, .inl (.inr (11, [.ref t, .ref rd, .ref s, .ref zz, .ref b, .ref bx, .ref tx, .ref so, .ref bd, .ref g, .ref gq, .ref v, .ref sk, .ref d, .ref fh, .ref sh, .ref ly, .int lsz, .int (nI tod)]))), (tx, .inl (.inl (kA 5, 2, .inr (.inr (.inr (.inr (q2 pa pb))))))), (pa, .inl (.inr (10, [.ref pa0, .int (nI pasz), .int (nI patm), .int (nI paft)]))), (pa0, .inl (.inl (kA 1, 60, .inl parow))), (pb, .inl (.inr (10, [.ref pb0, .int (nI pbsz), .int (nI pbtm), .int (nI pbft)]))), (pb0, .inl (.inl (kA 1, 60, .inl pbrow)))]) (rest := []) (As := [.int e]) h (s_X11_isText _ _ kA e ) tw_764 tw_765 tw_87 tw_766 (by decide +kernel) rfl ⟨Nat.le_of_ble_eq_true rfl, Nat.le_of_ble_eq_true rfl⟩ (by decide +kernel) rfl rfl (by decide +kernel) (by decide +kernel) (Nat.le_of_ble_eq_true rfl) rfl ⟨Nat.le_of_ble_eq_true rfl, Nat.le_of_ble_eq_true rfl⟩ dX11_hush_1 ?_
  rintro r760010 _ e760009
  have p760011 := e760009
  subst p760011
  show J x (mflat [(L, .inl (.inr (11, [.ref t, .ref rd, .ref s, .ref zz, .ref b, .ref bx, .ref tx, .ref so, .ref bd, .ref g, .ref gq, .ref v, .ref sk, .ref d, .ref fh, .ref sh, .ref ly, .int lsz, .int (nI tod)]))), (tx, .inl (.inl (kA 5, 2, .inr (.inr (.inr (.inr (q2 pa pb))))))), (pa, .inl (.inr (10, [.ref pa0, .int (nI pasz), .int (nI patm), .int (nI paft)]))), (pa0, .inl (.inl (kA 1, 60, .inl parow))), (pb, .inl (.inr (10, [.ref pb0, .int (nI pbsz), .int (nI pbtm), .int (nI pbft)]))), (pb0, .inl (.inl (kA 1, 60, .inl pbrow)))]) [(0, .ref L), (1, .int e)] 0 0 4 [.int (bIx e 2)]
  rcases bIx_cases e 2 (by omega) with hTj760012 | ⟨j760012, hj760012, rfl, hBj760012⟩
  · refine j_top (b := 0) hTj760012 ?_
    show J x (mflat [(L, .inl (.inr (11, [.ref t, .ref rd, .ref s, .ref zz, .ref b, .ref bx, .ref tx, .ref so, .ref bd, .ref g, .ref gq, .ref v, .ref sk, .ref d, .ref fh, .ref sh, .ref ly, .int lsz, .int (nI tod)]))), (tx, .inl (.inl (kA 5, 2, .inr (.inr (.inr (.inr (q2 pa pb))))))), (pa, .inl (.inr (10, [.ref pa0, .int (nI pasz), .int (nI patm), .int (nI paft)]))), (pa0, .inl (.inl (kA 1, 60, .inl parow))), (pb, .inl (.inr (10, [.ref pb0, .int (nI pbsz), .int (nI pbtm), .int (nI pbft)]))), (pb0, .inl (.inl (kA 1, 60, .inl pbrow)))]) [(0, .ref L), (1, .int e)] 0 0 4 [.int 0]
    refine j_if_ne h 9 dX11_hush_4 (by decide) (fun q => absurd (by decide) q) (fun _ => ?_)
    refine j_iconst (v := (-1)) h (by decide) dX11_hush_7 ?_
    exact jm_iret h hq dX11_hush_8 (pasz, patm, paft, pbsz, pbtm, pbft) [0, 1, 2, 3, 4, 5] rfl (by decide) ⟨(show pasz ≤ pasz by first | assumption | omega), (show patm ≤ patm by first | assumption | omega), (show paft ≤ 1 by first | assumption | omega), (show pbsz ≤ pbsz by first | assumption | omega), (show pbtm ≤ pbtm by first | assumption | omega), (show pbft ≤ 1 by first | assumption | omega), (show (e = 0 → HuP (-1) pasz parow pasz patm paft parow ∧ TxS pbsz pbtm pbft pbrow pbsz pbtm pbft pbrow) ∧ (e = 1 → HuP (-1) pbsz pbrow pbsz pbtm pbft pbrow ∧ TxS pasz patm paft parow pasz patm paft parow) ∧ (¬ e = 0 → ¬ e = 1 → (-1) = -1 ∧ TxS pasz patm paft parow pasz patm paft parow ∧ TxS pbsz pbtm pbft pbrow pbsz pbtm pbft pbrow) from ⟨fun h9 => absurd (h9 ▸ hTj760012) (by decide), fun h9 => absurd (h9 ▸ hTj760012) (by decide), fun _ _ => ⟨rfl, ⟨rfl, rfl, rfl, rfl⟩, ⟨rfl, rfl, rfl, rfl⟩⟩⟩)⟩ (Nat.le_of_ble_eq_true rfl) (Nat.le_of_ble_eq_true rfl)
  · refine j_top (b := 1) hBj760012 ?_
    show J x (mflat [(L, .inl (.inr (11, [.ref t, .ref rd, .ref s, .ref zz, .ref b, .ref bx, .ref tx, .ref so, .ref bd, .ref g, .ref gq, .ref v, .ref sk, .ref d, .ref fh, .ref sh, .ref ly, .int lsz, .int (nI tod)]))), (tx, .inl (.inl (kA 5, 2, .inr (.inr (.inr (.inr (q2 pa pb))))))), (pa, .inl (.inr (10, [.ref pa0, .int (nI pasz), .int (nI patm), .int (nI paft)]))), (pa0, .inl (.inl (kA 1, 60, .inl parow))), (pb, .inl (.inr (10, [.ref pb0, .int (nI pbsz), .int (nI pbtm), .int (nI pbft)]))), (pb0, .inl (.inl (kA 1, 60, .inl pbrow)))]) [(0, .ref L), (1, .int (nI j760012))] 0 0 4 [.int 1]
    refine j_if_ne h 9 dX11_hush_4 (by decide) (fun _ => ?_) (fun q => absurd q (by decide))
    refine j_aload_n h 0 rfl rfl dX11_hush_9 ?_
    refine jm_get h iw_X11 0 rfl rfl 6 (by decide +kernel) tw_481 rfl dX11_hush_10 ?_
    refine j_iload_n h 1 rfl rfl dX11_hush_13 ?_
    rcases (show j760012 = 0 ∨ j760012 = 1 by omega) with rfl | rfl
    · show J x (mflat [(L, .inl (.inr (11, [.ref t, .ref rd, .ref s, .ref zz, .ref b, .ref bx, .ref tx, .ref so, .ref bd, .ref g, .ref gq, .ref v, .ref sk, .ref d, .ref fh, .ref sh, .ref ly, .int lsz, .int (nI tod)]))), (tx, .inl (.inl (kA 5, 2, .inr (.inr (.inr (.inr (q2 pa pb))))))), (pa, .inl (.inr (10, [.ref pa0, .int (nI pasz), .int (nI patm), .int (nI paft)]))), (pa0, .inl (.inl (kA 1, 60, .inl parow))), (pb, .inl (.inr (10, [.ref pb0, .int (nI pbsz), .int (nI pbtm), .int (nI pbft)]))), (pb0, .inl (.inl (kA 1, 60, .inl pbrow)))]) [(0, .ref L), (1, .int (nI 0))] 0 0 14 [.int (nI 0), .ref tx]
      refine jm_aldO h 1 5 rfl rfl 0 rfl (by omega) (by decide +kernel) (rfl) dX11_hush_14 ?_
      refine jm_get h iw_X10 2 rfl rfl 1 (by decide +kernel) tw_308 rfl dX11_hush_15 ?_
      refine j_istore_n (lv' := [(2, .int (nI pasz)), (0, .ref L), (1, .int (nI 0))]) h dX11_hush_18 rfl (by decide) rfl ?_
      refine j_aload_n h 1 rfl rfl dX11_hush_19 ?_
      refine jm_get h iw_X11 0 rfl rfl 6 (by decide +kernel) tw_481 rfl dX11_hush_20 ?_
      refine j_iload_n h 2 rfl rfl dX11_hush_23 ?_
      refine jm_aldO h 1 5 rfl rfl 0 rfl (by omega) (by decide +kernel) (rfl) dX11_hush_24 ?_
      refine jm_callVv (np := 0) (isC := [2]) (isR := [0, 1, 3, 4, 5]) (wc := [(pa, .inl (.inr (10, [.ref pa0, .int (nI pasz), .int (nI patm), .int (nI paft)])))]) (wr := [(L, .inl (.inr (11, [.ref t, .ref rd, .ref s, .ref zz, .ref b, .ref bx, .ref tx, .ref so, .ref bd, .ref g, .ref gq, .ref v, .ref sk, .ref d, .ref fh, .ref sh, .ref ly, .int lsz, .int (nI tod)]))), (tx, .inl (.inl (kA 5, 2, .inr (.inr (.inr (.inr (q2 pa pb))))))), (pa0, .inl (.inl (kA 1, 60, .inl parow))), (pb, .inl (.inr (10, [.ref pb0, .int (nI pbsz), .int (nI pbtm), .int (nI pbft)]))), (pb0, .inl (.inl (kA 1, 60, .inl pbrow)))]) (rest := []) (As := []) (q0 := 0) h (s_X10_clear _ _ kA pa pa0 (nI pasz) (nI patm) (nI paft) ) tw_742 tw_743 tw_744 tw_92 tw_745 (by decide +kernel) rfl ⟨Nat.le_of_ble_eq_true rfl, Nat.le_of_ble_eq_true rfl⟩ rfl rfl (by decide +kernel) rfl rfl (by decide +kernel) (by decide +kernel) (Nat.le_of_ble_eq_true rfl) rfl ⟨Nat.le_of_ble_eq_true rfl, Nat.le_of_ble_eq_true rfl⟩ dX11_hush_25 ?_
      rintro _ e760013
      show J x (mflat [(L, .inl (.inr (11, [.ref t, .ref rd, .ref s, .ref zz, .ref b, .ref bx, .ref tx, .ref so, .ref bd, .ref g, .ref gq, .ref v, .ref sk, .ref d, .ref fh, .ref sh, .ref ly, .int lsz, .int (nI tod)]))), (tx, .inl (.inl (kA 5, 2, .inr (.inr (.inr (.inr (q2 pa pb))))))), (pa0, .inl (.inl (kA 1, 60, .inl parow))), (pb, .inl (.inr (10, [.ref pb0, .int (nI pbsz), .int (nI pbtm), .int (nI pbft)]))), (pb0, .inl (.inl (kA 1, 60, .inl pbrow))), (pa, .inl (.inr (10, [.ref pa0, .int 0, .int 0, .int 0])))]) [(2, .int (nI pasz)), (0, .ref L), (1, .int (nI 0))] 0 0 28 []
      refine j_iload_n h 0 rfl rfl dX11_hush_28 ?_
      exact jm_iret h hq dX11_hush_29 (0, 0, 0, pbsz, pbtm, pbft) [0, 1, 5, 2, 3, 4] rfl (by decide) ⟨(show 0 ≤ pasz by first | assumption | omega), (show 0 ≤ patm by first | assumption | omega), (show 0 ≤ 1 by first | assumption | omega), (show pbsz ≤ pbsz by first | assumption | omega), (show pbtm ≤ pbtm by first | assumption | omega), (show pbft ≤ 1 by first | assumption | omega), (show ((nI 0) = 0 → HuP (nI pasz) pasz parow 0 0 0 parow ∧ TxS pbsz pbtm pbft pbrow pbsz pbtm pbft pbrow) ∧ ((nI 0) = 1 → HuP (nI pasz) pbsz pbrow pbsz pbtm pbft pbrow ∧ TxS pasz patm paft parow 0 0 0 parow) ∧ (¬ (nI 0) = 0 → ¬ (nI 0) = 1 → (nI pasz) = -1 ∧ TxS pasz patm paft parow 0 0 0 parow ∧ TxS pbsz pbtm pbft pbrow pbsz pbtm pbft pbrow) from ⟨fun _ => ⟨⟨rfl, rfl, rfl, rfl, rfl⟩, ⟨rfl, rfl, rfl, rfl⟩⟩, fun h9 => absurd h9 (by decide), fun h9 => absurd rfl h9⟩)⟩ (Nat.le_of_ble_eq_true rfl) (Nat.le_of_ble_eq_true rfl)
    · show J x (mflat [(L, .inl (.inr (11, [.ref t, .ref rd, .ref s, .ref zz, .ref b, .ref bx, .ref tx, .ref so, .ref bd, .ref g, .ref gq, .ref v, .ref sk, .ref d, .ref fh, .ref sh, .ref ly, .int lsz, .int (nI tod)]))), (tx, .inl (.inl (kA 5, 2, .inr (.inr (.inr (.inr (q2 pa pb))))))), (pa, .inl (.inr (10, [.ref pa0, .int (nI pasz), .int (nI patm), .int (nI paft)]))), (pa0, .inl (.inl (kA 1, 60, .inl parow))), (pb, .inl (.inr (10, [.ref pb0, .int (nI pbsz), .int (nI pbtm), .int (nI pbft)]))), (pb0, .inl (.inl (kA 1, 60, .inl pbrow)))]) [(0, .ref L), (1, .int (nI 1))] 0 0 14 [.int (nI 1), .ref tx]
      refine jm_aldO h 1 5 rfl rfl 1 rfl (by omega) (by decide +kernel) (rfl) dX11_hush_14 ?_
      refine jm_get h iw_X10 4 rfl rfl 1 (by decide +kernel) tw_308 rfl dX11_hush_15 ?_
      refine j_istore_n (lv' := [(2, .int (nI pbsz)), (0, .ref L), (1, .int (nI 1))]) h dX11_hush_18 rfl (by decide) rfl ?_
      refine j_aload_n h 1 rfl rfl dX11_hush_19 ?_
      refine jm_get h iw_X11 0 rfl rfl 6 (by decide +kernel) tw_481 rfl dX11_hush_20 ?_
      refine j_iload_n h 2 rfl rfl dX11_hush_23 ?_
      refine jm_aldO h 1 5 rfl rfl 1 rfl (by omega) (by decide +kernel) (rfl) dX11_hush_24 ?_
      refine jm_callVv (np := 0) (isC := [4]) (isR := [0, 1, 2, 3, 5]) (wc := [(pb, .inl (.inr (10, [.ref pb0, .int (nI pbsz), .int (nI pbtm), .int (nI pbft)])))]) (wr := [(L, .inl (.inr (11, [.ref t, .ref rd, .ref s, .ref zz, .ref b, .ref bx, .ref tx, .ref so, .ref bd, .ref g, .ref gq, .ref v, .ref sk, .ref d, .ref fh, .ref sh, .ref ly, .int lsz, .int (nI tod)]))), (tx, .inl (.inl (kA 5, 2, .inr (.inr (.inr (.inr (q2 pa pb))))))), (pa, .inl (.inr (10, [.ref pa0, .int (nI pasz), .int (nI patm), .int (nI paft)]))), (pa0, .inl (.inl (kA 1, 60, .inl parow))), (pb0, .inl (.inl (kA 1, 60, .inl pbrow)))]) (rest := []) (As := []) (q0 := 0) h (s_X10_clear _ _ kA pb pb0 (nI pbsz) (nI pbtm) (nI pbft) ) tw_742 tw_743 tw_744 tw_92 tw_745 (by decide +kernel) rfl ⟨Nat.le_of_ble_eq_true rfl, Nat.le_of_ble_eq_true rfl⟩ rfl rfl (by decide +kernel) rfl rfl (by decide +kernel) (by decide +kernel) (Nat.le_of_ble_eq_true rfl) rfl ⟨Nat.le_of_ble_eq_true rfl, Nat.le_of_ble_eq_true rfl⟩ dX11_hush_25 ?_
      rintro _ e760015
      show J x (mflat [(L, .inl (.inr (11, [.ref t, .ref rd, .ref s, .ref zz, .ref b, .ref bx, .ref tx, .ref so, .ref bd, .ref g, .ref gq, .ref v, .ref sk, .ref d, .ref fh, .ref sh, .ref ly, .int lsz, .int (nI tod)]))), (tx, .inl (.inl (kA 5, 2, .inr (.inr (.inr (.inr (q2 pa pb))))))), (pa, .inl (.inr (10, [.ref pa0, .int (nI pasz), .int (nI patm), .int (nI paft)]))), (pa0, .inl (.inl (kA 1, 60, .inl parow))), (pb0, .inl (.inl (kA 1, 60, .inl pbrow))), (pb, .inl (.inr (10, [.ref pb0, .int 0, .int 0, .int 0])))]) [(2, .int (nI pbsz)), (0, .ref L), (1, .int (nI 1))] 0 0 28 []
      refine j_iload_n h 0 rfl rfl dX11_hush_28 ?_
      exact jm_iret h hq dX11_hush_29 (pasz, patm, paft, 0, 0, 0) [0, 1, 2, 3, 5, 4] rfl (by decide) ⟨(show pasz ≤ pasz by first | assumption | omega), (show patm ≤ patm by first | assumption | omega), (show paft ≤ 1 by first | assumption | omega), (show 0 ≤ pbsz by first | assumption | omega), (show 0 ≤ pbtm by first | assumption | omega), (show 0 ≤ 1 by first | assumption | omega), (show ((nI 1) = 0 → HuP (nI pbsz) pasz parow pasz patm paft parow ∧ TxS pbsz pbtm pbft pbrow 0 0 0 pbrow) ∧ ((nI 1) = 1 → HuP (nI pbsz) pbsz pbrow 0 0 0 pbrow ∧ TxS pasz patm paft parow pasz patm paft parow) ∧ (¬ (nI 1) = 0 → ¬ (nI 1) = 1 → (nI pbsz) = -1 ∧ TxS pasz patm paft parow pasz patm paft parow ∧ TxS pbsz pbtm pbft pbrow 0 0 0 pbrow) from ⟨fun h9 => absurd h9 (by decide), fun _ => ⟨⟨rfl, rfl, rfl, rfl, rfl⟩, ⟨rfl, rfl, rfl, rfl⟩⟩, fun _ h9 => absurd rfl h9⟩)⟩ (Nat.le_of_ble_eq_true rfl) (Nat.le_of_ble_eq_true rfl)
set_option maxHeartbeats 4000000 in
set_option maxRecDepth 100000 in
theorem s_X12_hushF (lau : Launch) (gg : va_G) (kA : Nat → ClassId) (m : Nat) (e : Int32) (m0 : Nat) (mtp : Nat) (mfa : Nat) (mfp : Int32) (mat : Nat) (msz : Nat) (mso : Nat) (mpl : Int32) (mnu : Int32) (mwd : Int64) (m10 : Nat) (m11 : Nat) (m12 : Nat) (m13 : Nat) (m14 : Nat) (m15 : Nat) (m16 : Nat) (m17 : Nat) (m18 : Nat) (m19 : Nat) (m20 : Nat) (m21 : Nat) (m22 : Nat) (m23 : Nat) (m24 : Nat) (mns : Nat) (mnl : Nat) (mne : Nat) (mst : Nat) (mlt : Nat) (mer : Nat) (m31 : Nat) (m32 : Nat) (m33 : Nat) (m34 : Nat) (m35 : Nat) (mwm : Nat) (mwt : Nat) (mwf : Nat) (m39 : Nat) (m40 : Nat) (m41 : Nat) (mla : Nat) (m43 : Nat) (m44 : Nat) (m45 : Nat) (m46 : Nat) (m47 : Nat) (m48 : Nat) (mtm : Nat) (m50 : Nat) (m51 : Nat) (m52 : Nat) (m53 : Nat) (m54 : Nat) (m55 : Nat) (m56 : Nat) (m57 : Nat) (m58 : Nat) (m59 : Nat) (m60 : Nat) (m61 : Nat) (msn : Nat) (mti : Nat) (m64 : Nat) (m65 : Nat) (m66 : Nat) (m67 : Nat) (m68 : Nat) (m69 : Nat) (mc31 : Nat → Int32) (mc33 : Nat → Int32) (mc44 : Nat → Int32) (mc45 : Nat → Int32) (hmfa : mfa ≤ 5) (hmso : mso ≤ 100) (hmst : mst ≤ 6) (hmlt : mlt ≤ 10) (hmer : mer ≤ 4) (hmls : LtOk mlt mc31) (hmfb : FbOk (2 * mlt) mc33) (hmwm : mwm ≤ mwt) (hmwt : mwt ≤ 60) (hmwf : mwf ≤ 1) (hmtc : TcOk mlt mc33 mc44 mc45) (hmts : TsOk mc31 mc44 mc45) (hmsn : msn ≤ 30) (hmla : mla ≤ 60) (hmtp : mtp ≤ 1600) (hmti : mti ≤ 100000) (hmtm : mtm ≤ 60) : CtI lau yX12_hush cX12_hush 3 (some .int) 2 0 0 gg kA [.ref m, .int e] (mflat [(m, .inl (.inr (12, (.ref m0 :: .int (nI mtp) :: .int (nI mfa) :: .int mfp :: .int (nI mat) :: .int (nI msz) :: .int (nI mso) :: .int mpl :: .int mnu :: .long mwd :: .ref m10 :: .ref m11 :: .ref m12 :: .ref m13 :: .ref m14 :: .ref m15 :: .ref m16 :: .ref m17 :: .ref m18 :: .ref m19 :: .ref m20 :: .ref m21 :: .ref m22 :: .ref m23 :: .ref m24 :: .int (nI mns) :: .int (nI mnl) :: .int (nI mne) :: .int (nI mst) :: .int (nI mlt) :: .int (nI mer) :: .ref m31 :: .ref m32 :: .ref m33 :: .ref m34 :: .ref m35 :: .int (nI mwm) :: .int (nI mwt) :: .int (nI mwf) :: .ref m39 :: .ref m40 :: .ref m41 :: .int (nI mla) :: .ref m43 :: .ref m44 :: .ref m45 :: .ref m46 :: .ref m47 :: .ref m48 :: .int (nI mtm) :: .ref m50 :: .ref m51 :: .ref m52 :: .ref m53 :: .ref m54 :: .ref m55 :: .ref m56 :: .ref m57 :: .ref m58 :: .ref m59 :: .ref m60 :: .ref m61 :: .int (nI msn) :: .int (nI mti) :: .ref m64 :: .ref m65 :: .ref m66 :: .ref m67 :: .ref m68 :: .ref m69 :: [])))), (m31, .inl (.inl (kA 1, 10, .inl mc31))), (m33, .inl (.inl (kA 1, 20, .inl mc33))), (m44, .inl (.inl (kA 1, 120, .inl mc44))), (m45, .inl (.inl (kA 1, 2, .inl mc45)))]) (S := (Nat → Int32)) (fun (r : Int32) (y_m45 : (Nat → Int32)) => (TcOk mlt mc33 mc44 y_m45) ∧ (TsOk mc31 mc44 y_m45) ∧ (HuM e r mc45 y_m45)) (fun (y_m45 : (Nat → Int32)) => mflat [(m, .inl (.inr (12, (.ref m0 :: .int (nI mtp) :: .int (nI mfa) :: .int mfp :: .int (nI mat) :: .int (nI msz) :: .int (nI mso) :: .int mpl :: .int mnu :: .long mwd :: .ref m10 :: .ref m11 :: .ref m12 :: .ref m13 :: .ref m14 :: .ref m15 :: .ref m16 :: .ref m17 :: .ref m18 :: .ref m19 :: .ref m20 :: .ref m21 :: .ref m22 :: .ref m23 :: .ref m24 :: .int (nI mns) :: .int (nI mnl) :: .int (nI mne) :: .int (nI mst) :: .int (nI mlt) :: .int (nI mer) :: .ref m31 :: .ref m32 :: .ref m33 :: .ref m34 :: .ref m35 :: .int (nI mwm) :: .int (nI mwt) :: .int (nI mwf) :: .ref m39 :: .ref m40 :: .ref m41 :: .int (nI mla) :: .ref m43 :: .ref m44 :: .ref m45 :: .ref m46 :: .ref m47 :: .ref m48 :: .int (nI mtm) :: .ref m50 :: .ref m51 :: .ref m52 :: .ref m53 :: .ref m54 :: .ref m55 :: .ref m56 :: .ref m57 :: .ref m58 :: .ref m59 :: .ref m60 :: .ref m61 :: .int (nI msn) :: .int (nI mti) :: .ref m64 :: .ref m65 :: .ref m66 :: .ref m67 :: .ref m68 :: .ref m69 :: [])))), (m31, .inl (.inl (kA 1, 10, .inl mc31))), (m33, .inl (.inl (kA 1, 20, .inl mc33))), (m44, .inl (.inl (kA 1, 120, .inl mc44))), (m45, .inl (.inl (kA 1, 2, .inl y_m45)))]) := by
  refine nx_startI (by decide +kernel) (Nat.le_of_ble_eq_true rfl) ?_
  intro x hnm h hq
  have h : Ok x cX12_hush RX12 kA (rmC 2 0 0) 3 := h
  show J x (mflat [(m, .inl (.inr (12, (.ref m0 :: .int (nI mtp) :: .int (nI mfa) :: .int mfp :: .int (nI mat) :: .int (nI msz) :: .int (nI mso) :: .int mpl :: .int mnu :: .long mwd :: .ref m10 :: .ref m11 :: .ref m12 :: .ref m13 :: .ref m14 :: .ref m15 :: .ref m16 :: .ref m17 :: .ref m18 :: .ref m19 :: .ref m20 :: .ref m21 :: .ref m22 :: .ref m23 :: .ref m24 :: .int (nI mns) :: .int (nI mnl) :: .int (nI mne) :: .int (nI mst) :: .int (nI mlt) :: .int (nI mer) :: .ref m31 :: .ref m32 :: .ref m33 :: .ref m34 :: .ref m35 :: .int (nI mwm) :: .int (nI mwt) :: .int (nI mwf) :: .ref m39 :: .ref m40 :: .ref m41 :: .int (nI mla) :: .ref m43 :: .ref m44 :: .ref m45 :: .ref m46 :: .ref m47 :: .ref m48 :: .int (nI mtm) :: .ref m50 :: .ref m51 :: .ref m52 :: .ref m53 :: .ref m54 :: .ref m55 :: .ref m56 :: .ref m57 :: .ref m58 :: .ref m59 :: .ref m60 :: .ref m61 :: .int (nI msn) :: .int (nI mti) :: .ref m64 :: .ref m65 :: .ref m66 :: .ref m67 :: .ref m68 :: .ref m69 :: [])))), (m31, .inl (.inl (kA 1, 10, .inl mc31))), (m33, .inl (.inl (kA 1, 20, .inl mc33))), (m44, .inl (.inl (kA 1, 120, .inl mc44))), (m45, .inl (.inl (kA 1, 2, .inl mc45)))]) [(0, .ref m), (1, .int e)] 0 0 0 []
  refine j_iload_n h 1 rfl rfl dX12_hush_0 ?_
  refine jm_callSi (np := 1) (isC := []) (isR := [0, 1, 2, 3, 4]) (wc := []) (wr := [(m, .inl (.inr (12, (.ref m0 :: .int (nI mtp) :: .int (nI mfa) :: .int mfp :: .int (nI mat) :: .int (nI msz) :: .int (nI mso) :: .int mpl :: .int mnu :: .long mwd :: .ref m10 :: .ref m11 :: .ref m12 :: .ref m13 :: .ref m14 :: .ref m15 :: .ref m16 :: .ref m17 :: .ref m18 :: .ref m19 :: .ref m20 :: .ref m21 :: .ref m22 :: .ref m23 :: .ref m24 :: .int (nI mns) :: .int (nI mnl) :: .int (nI mne) :: .int (nI mst) :: .int (nI mlt) :: .int (nI mer) :: .ref m31 :: .ref m32 :: .ref m33 :: .ref m34 :: .ref m35 :: .int (nI mwm) :: .int (nI mwt) :: .int (nI mwf) :: .ref m39 :: .ref m40 :: .ref m41 :: .int (nI mla) :: .ref m43 :: .ref m44 :: .ref m45 :: .ref m46 :: .ref m47 :: .ref m48 :: .int (nI mtm) :: .ref m50 :: .ref m51 :: .ref m52 :: .ref m53 :: .ref m54 :: .ref m55 :: .ref m56 :: .ref m57 :: .ref m58 :: .ref m59 :: .ref m60 :: .ref m61 :: .int (nI msn) :: .int (nI mti) :: .ref m64 :: .ref m65 :: .ref m66 :: .ref m67 :: .ref m68 :: .ref m69 :: [])))), (m31, .inl (.inl (kA 1, 10, .inl mc31))), (m33, .inl (.inl (kA 1, 20, .inl mc33))), (m44, .inl (.inl (kA 1, 120, .inl mc44))), (m45, .inl (.inl (kA 1, 2, .inl mc45)))]) (rest := []) (As := [.int e]) h (s_X12_isTextF _ _ kA e ) tw_1494 tw_1495 tw_99 tw_1496 (by decide +kernel) rfl ⟨Nat.le_of_ble_eq_true rfl, Nat.le_of_ble_eq_true rfl⟩ (by decide +kernel) rfl rfl (by decide +kernel) (by decide +kernel) (Nat.le_of_ble_eq_true rfl) rfl ⟨Nat.le_of_ble_eq_true rfl, Nat.le_of_ble_eq_true rfl⟩ dX12_hush_1 ?_
  rintro r760032 _ e760031
  have p760033 := e760031
  subst p760033
  show J x (mflat [(m, .inl (.inr (12, (.ref m0 :: .int (nI mtp) :: .int (nI mfa) :: .int mfp :: .int (nI mat) :: .int (nI msz) :: .int (nI mso) :: .int mpl :: .int mnu :: .long mwd :: .ref m10 :: .ref m11 :: .ref m12 :: .ref m13 :: .ref m14 :: .ref m15 :: .ref m16 :: .ref m17 :: .ref m18 :: .ref m19 :: .ref m20 :: .ref m21 :: .ref m22 :: .ref m23 :: .ref m24 :: .int (nI mns) :: .int (nI mnl) :: .int (nI mne) :: .int (nI mst) :: .int (nI mlt) :: .int (nI mer) :: .ref m31 :: .ref m32 :: .ref m33 :: .ref m34 :: .ref m35 :: .int (nI mwm) :: .int (nI mwt) :: .int (nI mwf) :: .ref m39 :: .ref m40 :: .ref m41 :: .int (nI mla) :: .ref m43 :: .ref m44 :: .ref m45 :: .ref m46 :: .ref m47 :: .ref m48 :: .int (nI mtm) :: .ref m50 :: .ref m51 :: .ref m52 :: .ref m53 :: .ref m54 :: .ref m55 :: .ref m56 :: .ref m57 :: .ref m58 :: .ref m59 :: .ref m60 :: .ref m61 :: .int (nI msn) :: .int (nI mti) :: .ref m64 :: .ref m65 :: .ref m66 :: .ref m67 :: .ref m68 :: .ref m69 :: [])))), (m31, .inl (.inl (kA 1, 10, .inl mc31))), (m33, .inl (.inl (kA 1, 20, .inl mc33))), (m44, .inl (.inl (kA 1, 120, .inl mc44))), (m45, .inl (.inl (kA 1, 2, .inl mc45)))]) [(0, .ref m), (1, .int e)] 0 0 4 [.int (bIx e 2)]
  rcases bIx_cases e 2 (by omega) with hTj760034 | ⟨j760034, hj760034, rfl, hBj760034⟩
  · refine j_top (b := 0) hTj760034 ?_
    show J x (mflat [(m, .inl (.inr (12, (.ref m0 :: .int (nI mtp) :: .int (nI mfa) :: .int mfp :: .int (nI mat) :: .int (nI msz) :: .int (nI mso) :: .int mpl :: .int mnu :: .long mwd :: .ref m10 :: .ref m11 :: .ref m12 :: .ref m13 :: .ref m14 :: .ref m15 :: .ref m16 :: .ref m17 :: .ref m18 :: .ref m19 :: .ref m20 :: .ref m21 :: .ref m22 :: .ref m23 :: .ref m24 :: .int (nI mns) :: .int (nI mnl) :: .int (nI mne) :: .int (nI mst) :: .int (nI mlt) :: .int (nI mer) :: .ref m31 :: .ref m32 :: .ref m33 :: .ref m34 :: .ref m35 :: .int (nI mwm) :: .int (nI mwt) :: .int (nI mwf) :: .ref m39 :: .ref m40 :: .ref m41 :: .int (nI mla) :: .ref m43 :: .ref m44 :: .ref m45 :: .ref m46 :: .ref m47 :: .ref m48 :: .int (nI mtm) :: .ref m50 :: .ref m51 :: .ref m52 :: .ref m53 :: .ref m54 :: .ref m55 :: .ref m56 :: .ref m57 :: .ref m58 :: .ref m59 :: .ref m60 :: .ref m61 :: .int (nI msn) :: .int (nI mti) :: .ref m64 :: .ref m65 :: .ref m66 :: .ref m67 :: .ref m68 :: .ref m69 :: [])))), (m31, .inl (.inl (kA 1, 10, .inl mc31))), (m33, .inl (.inl (kA 1, 20, .inl mc33))), (m44, .inl (.inl (kA 1, 120, .inl mc44))), (m45, .inl (.inl (kA 1, 2, .inl mc45)))]) [(0, .ref m), (1, .int e)] 0 0 4 [.int 0]
    refine j_if_ne h 9 dX12_hush_4 (by decide) (fun q => absurd (by decide) q) (fun _ => ?_)
    refine j_iconst (v := (-1)) h (by decide) dX12_hush_7 ?_
    exact jm_iret h hq dX12_hush_8 mc45 [0, 1, 2, 3, 4] rfl (by decide) ⟨(show TcOk mlt mc33 mc44 mc45 by first | assumption | exact TcOk_cl (by assumption) | (intro h9; exact absurd h9 (by omega)) | (intro _; assumption) | omega), (show TsOk mc31 mc44 mc45 by first | assumption | exact TsOk_cl (by assumption) | (intro h9; exact absurd h9 (by omega)) | (intro _; assumption) | omega), (show HuM e (-1) mc45 mc45 from Or.inr ⟨fun t h9 h8 => bIx_no hTj760034 (k := t) h9 (by omega) h8, rfl, rfl⟩)⟩ (Nat.le_of_ble_eq_true rfl) (Nat.le_of_ble_eq_true rfl)
  · refine j_top (b := 1) hBj760034 ?_
    show J x (mflat [(m, .inl (.inr (12, (.ref m0 :: .int (nI mtp) :: .int (nI mfa) :: .int mfp :: .int (nI mat) :: .int (nI msz) :: .int (nI mso) :: .int mpl :: .int mnu :: .long mwd :: .ref m10 :: .ref m11 :: .ref m12 :: .ref m13 :: .ref m14 :: .ref m15 :: .ref m16 :: .ref m17 :: .ref m18 :: .ref m19 :: .ref m20 :: .ref m21 :: .ref m22 :: .ref m23 :: .ref m24 :: .int (nI mns) :: .int (nI mnl) :: .int (nI mne) :: .int (nI mst) :: .int (nI mlt) :: .int (nI mer) :: .ref m31 :: .ref m32 :: .ref m33 :: .ref m34 :: .ref m35 :: .int (nI mwm) :: .int (nI mwt) :: .int (nI mwf) :: .ref m39 :: .ref m40 :: .ref m41 :: .int (nI mla) :: .ref m43 :: .ref m44 :: .ref m45 :: .ref m46 :: .ref m47 :: .ref m48 :: .int (nI mtm) :: .ref m50 :: .ref m51 :: .ref m52 :: .ref m53 :: .ref m54 :: .ref m55 :: .ref m56 :: .ref m57 :: .ref m58 :: .ref m59 :: .ref m60 :: .ref m61 :: .int (nI msn) :: .int (nI mti) :: .ref m64 :: .ref m65 :: .ref m66 :: .ref m67 :: .ref m68 :: .ref m69 :: [])))), (m31, .inl (.inl (kA 1, 10, .inl mc31))), (m33, .inl (.inl (kA 1, 20, .inl mc33))), (m44, .inl (.inl (kA 1, 120, .inl mc44))), (m45, .inl (.inl (kA 1, 2, .inl mc45)))]) [(0, .ref m), (1, .int (nI j760034))] 0 0 4 [.int 1]
    refine j_if_ne h 9 dX12_hush_4 (by decide) (fun _ => ?_) (fun q => absurd q (by decide))
    obtain ⟨t760035, u760037, u760038, g760036, u760039, u760040, u760041⟩ := hmtc j760034 (by omega)
    have u760042 : ∀ k, k < t760035 → ∃ l, l < mlt ∧ mc44 (60 * j760034 + k) = nI l := TcOk_tx hmtc (by omega) u760038 u760037
    have u760043 := hmts j760034 t760035 (by omega) u760038 u760037
    have u760044 := (tsum_ge hmls (by omega) u760042 (Nat.le_refl t760035)).1
    refine j_aload_n h 0 rfl rfl dX12_hush_9 ?_
    refine jm_get h iw_X12 0 rfl rfl 45 (by decide +kernel) tw_1201 rfl dX12_hush_10 ?_
    refine j_iload_n h 1 rfl rfl dX12_hush_13 ?_
    refine jm_iald h 4 rfl j760034 rfl (by omega) (by omega) dX12_hush_14 ?_
    refine j_top (b := nI t760035) (u760038) ?_
    refine j_istore_n (lv' := [(2, .int (nI t760035)), (0, .ref m), (1, .int (nI j760034))]) h dX12_hush_15 rfl (by decide) rfl ?_
    refine j_aload_n h 1 rfl rfl dX12_hush_16 ?_
    refine jm_get h iw_X12 0 rfl rfl 45 (by decide +kernel) tw_1201 rfl dX12_hush_17 ?_
    refine j_iload_n h 2 rfl rfl dX12_hush_20 ?_
    refine j_iconst (v := 0) h (by decide) dX12_hush_21 ?_
    refine jm_iast (w' := [(m, .inl (.inr (12, (.ref m0 :: .int (nI mtp) :: .int (nI mfa) :: .int mfp :: .int (nI mat) :: .int (nI msz) :: .int (nI mso) :: .int mpl :: .int mnu :: .long mwd :: .ref m10 :: .ref m11 :: .ref m12 :: .ref m13 :: .ref m14 :: .ref m15 :: .ref m16 :: .ref m17 :: .ref m18 :: .ref m19 :: .ref m20 :: .ref m21 :: .ref m22 :: .ref m23 :: .ref m24 :: .int (nI mns) :: .int (nI mnl) :: .int (nI mne) :: .int (nI mst) :: .int (nI mlt) :: .int (nI mer) :: .ref m31 :: .ref m32 :: .ref m33 :: .ref m34 :: .ref m35 :: .int (nI mwm) :: .int (nI mwt) :: .int (nI mwf) :: .ref m39 :: .ref m40 :: .ref m41 :: .int (nI mla) :: .ref m43 :: .ref m44 :: .ref m45 :: .ref m46 :: .ref m47 :: .ref m48 :: .int (nI mtm) :: .ref m50 :: .ref m51 :: .ref m52 :: .ref m53 :: .ref m54 :: .ref m55 :: .ref m56 :: .ref m57 :: .ref m58 :: .ref m59 :: .ref m60 :: .ref m61 :: .int (nI msn) :: .int (nI mti) :: .ref m64 :: .ref m65 :: .ref m66 :: .ref m67 :: .ref m68 :: .ref m69 :: [])))), (m31, .inl (.inl (kA 1, 10, .inl mc31))), (m33, .inl (.inl (kA 1, 20, .inl mc33))), (m44, .inl (.inl (kA 1, 120, .inl mc44))), (m45, .inl (.inl (kA 1, 2, .inl (upd mc45 j760034 0))))]) h 4 rfl j760034 rfl (by omega) (by omega) dX12_hush_22 rfl ?_
    refine j_iload_n h 0 rfl rfl dX12_hush_23 ?_
    exact jm_iret h hq dX12_hush_24 (upd mc45 j760034 0) [0, 1, 2, 3, 4] rfl (by decide) ⟨(show TcOk mlt mc33 mc44 (upd mc45 j760034 0) by first | exact TcOk_cl (by assumption) | assumption | (intro h9; exact absurd h9 (by omega)) | (intro _; assumption) | omega), (show TsOk mc31 mc44 (upd mc45 j760034 0) by first | exact TsOk_cl (by assumption) | assumption | (intro h9; exact absurd h9 (by omega)) | (intro _; assumption) | omega), (show HuM (nI j760034) (nI t760035) mc45 (upd mc45 j760034 0) from Or.inl ⟨j760034, by omega, rfl, u760038.symm, rfl⟩)⟩ (Nat.le_of_ble_eq_true rfl) (Nat.le_of_ble_eq_true rfl)
