def hrN (E : Nat → Nat) (fl p : Nat) : Nat := if p = 0 then 0 else E (p - 1) - fl
def elo (f : Nat → Int32) : Nat → Nat := fun k => (f k).toNatClampNeg
/-- a step put into a row of moments, up to moment i -/
def PtR (f g : Nat → Int32) (a i : Nat) (v : Int32) : Prop := (∀ m, (m < a ∨ i ≤ m) → g m = f m) ∧ ∀ m, a ≤ m → m < i → g m = if m = a then v else 0
section HR
variable {D : Nat → Nat → Nat} {E x t : Nat → Nat} {n e tm a b i j m p q fl : Nat} {f g h2 : Nat → Int32} {v w er mo r1 r2 : Int32}
theorem hrN_s : hrN E fl (p + 1) = E p - fl := if_neg (Nat.succ_ne_zero p)
theorem hrN_0 : hrN E fl 0 = 0 := if_pos rfl
theorem LoR_e (h : LoR n f g) : ∀ k, k < n → f k = nI (elo f k) ∧ g k = nI (elo f k) ∧ elo f k ≤ 9 := fun k hk => by
  obtain ⟨v, h1, h2, h3⟩ := h k hk
  have e : elo f k = v := by
    show (f k).toNatClampNeg = v
    rw [h2, nI_clamp (by omega)]
  rw [e]
  exact ⟨h2, h3, h1⟩
theorem mx_neg (h : w < 0) (e : (if 0 < w then w else 0) = nI j) (hj : j < 2147483648) : j = 0 := by
  rw [if_neg (fun q => Int32.lt_irrefl (Int32.lt_trans q h))] at e
  exact ((nI_eq (a := 0) (b := j) (by decide) hj).mp e).symm
theorem PtR_0 (f : Nat → Int32) (a : Nat) (v : Int32) : PtR f f a a v := ⟨fun _ _ => rfl, fun m h1 h2 => by omega⟩
theorem PtR_n (h : PtR f g a i v) (ha : a ≤ i) (hw : w = if i = a then v else 0) : PtR f (upd g i w) a (i + 1) v := by
  refine ⟨fun m hm => ?_, fun m h1 h2 => ?_⟩
  · rw [pk_un (by omega)]
    exact h.1 m (by omega)
  · by_cases q : m = i
    · rw [q, pk_us]
      exact hw
    · rw [pk_un q]
      exact h.2 m h1 (by omega)
theorem bgn_ge : ∀ {n : Nat}, (∀ k, k < n → 1 ≤ t (x k)) → tkS t x n ≤ m → bgn t x n m = 0
  | 0, _, _ => rfl
  | n + 1, h, hm => by
    have e : tkS t x (n + 1) = tkS t x n + t (x n) := rfl
    have z := h n (Nat.lt_succ_self n)
    rw [bgn_n (by omega)]
    exact bgn_ge (fun k hk => h k (by omega)) (by omega)
end HR
set_option maxHeartbeats 4000000 in
set_option maxRecDepth 100000 in
theorem s_X5_heardBelowF (lau : Launch) (gg : va_G) (kA : Nat → ClassId) (s : Nat) (lo : Nat) (er : Nat) (s0 : Nat) (s1 : Nat) (s2 : Nat) (s3 : Nat) (s4 : Nat) (s5 : Nat) (s6 : Nat) (s7 : Nat) (s8 : Nat) (s9 : Nat) (s10 : Nat) (s11 : Nat) (sn : Nat) (sl : Nat) (se : Nat) (sc10 : Nat → Int32) (fl : Nat) (hse : se ≤ 4) (her : er < se) (hlo9 : lo ≤ 9) (hfl : sc10 er = nI fl) (hfl9 : fl ≤ 9) : CtI lau yX5_heardBelow cX5_heardBelow 3 (some .int) 2 0 0 gg kA [.ref s, .int (nI lo), .int (nI er)] (mflat [(s, .inl (.inr (5, [.ref s0, .ref s1, .ref s2, .ref s3, .ref s4, .ref s5, .ref s6, .ref s7, .ref s8, .ref s9, .ref s10, .ref s11, .int (nI sn), .int (nI sl), .int (nI se)]))), (s10, .inl (.inl (kA 1, 4, .inl sc10)))]) (S := Nat) (fun (r : Int32) (y_r : Nat) => r = nI y_r ∧ (y_r = lo - fl)) (fun (y_r : Nat) => mflat [(s, .inl (.inr (5, [.ref s0, .ref s1, .ref s2, .ref s3, .ref s4, .ref s5, .ref s6, .ref s7, .ref s8, .ref s9, .ref s10, .ref s11, .int (nI sn), .int (nI sl), .int (nI se)]))), (s10, .inl (.inl (kA 1, 4, .inl sc10)))]) := by
  refine nx_startI (by decide +kernel) (Nat.le_of_ble_eq_true rfl) ?_
  intro x hnm h hq
  have h : Ok x cX5_heardBelow RX5 kA (rmC 2 0 0) 3 := h
  show J x (mflat [(s, .inl (.inr (5, [.ref s0, .ref s1, .ref s2, .ref s3, .ref s4, .ref s5, .ref s6, .ref s7, .ref s8, .ref s9, .ref s10, .ref s11, .int (nI sn), .int (nI sl), .int (nI se)]))), (s10, .inl (.inl (kA 1, 4, .inl sc10)))]) [(0, .ref s), (1, .int (nI lo)), (2, .int (nI er))] 0 0 0 []
  refine j_aload_n h 0 rfl rfl dX5_heardBelow_0 ?_
  refine j_iload_n h 2 rfl rfl dX5_heardBelow_1 ?_
  refine jm_callVi (np := 1) (isC := [0]) (isR := [1]) (wc := [(s, .inl (.inr (5, [.ref s0, .ref s1, .ref s2, .ref s3, .ref s4, .ref s5, .ref s6, .ref s7, .ref s8, .ref s9, .ref s10, .ref s11, .int (nI sn), .int (nI sl), .int (nI se)])))]) (wr := [(s10, .inl (.inl (kA 1, 4, .inl sc10)))]) (rest := []) (As := [.int (nI er)]) (q0 := 0) h (s_X5_hasEar _ _ kA s (nI er) s0 s1 s2 s3 s4 s5 s6 s7 s8 s9 s10 s11 (nI sn) (nI sl) (nI se) ) tw_801 tw_790 tw_791 tw_90 tw_792 (by decide +kernel) rfl ⟨Nat.le_of_ble_eq_true rfl, Nat.le_of_ble_eq_true rfl⟩ rfl rfl (by decide +kernel) rfl rfl (by decide +kernel) (by decide +kernel) (Nat.le_of_ble_eq_true rfl) rfl ⟨Nat.le_of_ble_eq_true rfl, Nat.le_of_ble_eq_true rfl⟩ dX5_heardBelow_2 ?_
  rintro r797008 _ e797007
  have p797009 := e797007
  subst p797009
  show J x (mflat [(s10, .inl (.inl (kA 1, 4, .inl sc10))), (s, .inl (.inr (5, [.ref s0, .ref s1, .ref s2, .ref s3, .ref s4, .ref s5, .ref s6, .ref s7, .ref s8, .ref s9, .ref s10, .ref s11, .int (nI sn), .int (nI sl), .int (nI se)])))]) [(0, .ref s), (1, .int (nI lo)), (2, .int (nI er))] 0 0 5 [.int (bIx (nI er) (nI se))]
  rcases bIxn er se (by omega) (by omega) with ⟨hj797010, hT⟩ | ⟨hj797010, hT⟩
  · refine j_top (b := 0) hT ?_
    show J x (mflat [(s10, .inl (.inl (kA 1, 4, .inl sc10))), (s, .inl (.inr (5, [.ref s0, .ref s1, .ref s2, .ref s3, .ref s4, .ref s5, .ref s6, .ref s7, .ref s8, .ref s9, .ref s10, .ref s11, .int (nI sn), .int (nI sl), .int (nI se)])))]) [(0, .ref s), (1, .int (nI lo)), (2, .int (nI er))] 0 0 5 [.int 0]
    refine j_if_eq h 23 dX5_heardBelow_5 (by decide) (fun _ => ?_) (fun q => absurd (by decide) q)
    refine j_iconst (v := 0) h (by decide) dX5_heardBelow_23 ?_
    exact jm_iret h hq dX5_heardBelow_24 0 [1, 0] rfl (by decide) ⟨rfl, (show 0 = lo - fl from (by omega))⟩ (Nat.le_of_ble_eq_true rfl) (Nat.le_of_ble_eq_true rfl)
  · refine j_top (b := 1) hT ?_
    show J x (mflat [(s10, .inl (.inl (kA 1, 4, .inl sc10))), (s, .inl (.inr (5, [.ref s0, .ref s1, .ref s2, .ref s3, .ref s4, .ref s5, .ref s6, .ref s7, .ref s8, .ref s9, .ref s10, .ref s11, .int (nI sn), .int (nI sl), .int (nI se)])))]) [(0, .ref s), (1, .int (nI lo)), (2, .int (nI er))] 0 0 5 [.int 1]
    refine j_if_eq h 23 dX5_heardBelow_5 (by decide) (fun q => absurd q (by decide)) (fun _ => ?_)
    refine j_iconst (v := 0) h (by decide) dX5_heardBelow_8 ?_
    refine j_iload_n h 1 rfl rfl dX5_heardBelow_9 ?_
    refine j_aload_n h 0 rfl rfl dX5_heardBelow_10 ?_
    refine jm_get h iw_X5 1 rfl rfl 10 (by decide +kernel) tw_211 rfl dX5_heardBelow_11 ?_
    refine j_iload_n h 2 rfl rfl dX5_heardBelow_14 ?_
    refine jm_iald h 0 rfl er rfl (by omega) (by omega) dX5_heardBelow_15 ?_
    refine j_top (b := nI fl) (hfl) ?_
    refine j_isub h dX5_heardBelow_16 ?_
    by_cases z797011 : fl ≤ lo
    · refine j_top (b := nI (lo - fl)) (pk_sub (a := lo) (b := fl) (by omega)) ?_
      show J x (mflat [(s10, .inl (.inl (kA 1, 4, .inl sc10))), (s, .inl (.inr (5, [.ref s0, .ref s1, .ref s2, .ref s3, .ref s4, .ref s5, .ref s6, .ref s7, .ref s8, .ref s9, .ref s10, .ref s11, .int (nI sn), .int (nI sl), .int (nI se)])))]) [(0, .ref s), (1, .int (nI lo)), (2, .int (nI er))] 0 0 17 [.int (nI (lo - fl)), .int 0]
      refine j_mmax h tw_802 tw_803 tw_105 tw_804 (Nat.le_of_ble_eq_true rfl) (Nat.le_of_ble_eq_true rfl) (Nat.le_of_ble_eq_true rfl) (Nat.le_of_ble_eq_true rfl) (Nat.le_of_ble_eq_true rfl) dX5_heardBelow_17 ?_
      refine j_top (b := nI (max 0 (lo - fl))) (nx_max (a := 0) (b := (lo - fl)) (by omega) (by omega)) ?_
      refine j_goto h 24 dX5_heardBelow_20 (by decide) ?_
      exact jm_iret h hq dX5_heardBelow_24 (max 0 (lo - fl)) [1, 0] rfl (by decide) ⟨rfl, (show (max 0 (lo - fl)) = lo - fl from (by omega))⟩ (Nat.le_of_ble_eq_true rfl) (Nat.le_of_ble_eq_true rfl)
    · have hz797011 : (nI lo) - (nI fl) < 0 := pk_sneg (a := lo) (b := fl) (by omega) (by omega)
      show J x (mflat [(s10, .inl (.inl (kA 1, 4, .inl sc10))), (s, .inl (.inr (5, [.ref s0, .ref s1, .ref s2, .ref s3, .ref s4, .ref s5, .ref s6, .ref s7, .ref s8, .ref s9, .ref s10, .ref s11, .int (nI sn), .int (nI sl), .int (nI se)])))]) [(0, .ref s), (1, .int (nI lo)), (2, .int (nI er))] 0 0 17 [.int ((nI lo) - (nI fl)), .int 0]
      refine j_mmax h tw_802 tw_803 tw_105 tw_804 (Nat.le_of_ble_eq_true rfl) (Nat.le_of_ble_eq_true rfl) (Nat.le_of_ble_eq_true rfl) (Nat.le_of_ble_eq_true rfl) (Nat.le_of_ble_eq_true rfl) dX5_heardBelow_17 ?_
      obtain ⟨j797012, hj797012, ej797012⟩ := mx0' ((nI lo) - (nI fl))
      refine j_top (b := nI j797012) (ej797012) ?_
      refine j_goto h 24 dX5_heardBelow_20 (by decide) ?_
      exact jm_iret h hq dX5_heardBelow_24 j797012 [1, 0] rfl (by decide) ⟨rfl, (show j797012 = lo - fl from ((mx_neg hz797011 ej797012 hj797012).trans (by omega)))⟩ (Nat.le_of_ble_eq_true rfl) (Nat.le_of_ble_eq_true rfl)
set_option maxHeartbeats 4000000 in
set_option maxRecDepth 100000 in
theorem s_X11_putStepF (lau : Launch) (gg : va_G) (kA : Nat → ClassId) (r0 : Nat) (fr : Nat) (hh : Int32) (tk : Nat) (n0 : Nat) (f : Nat → Int32) (hn0 : n0 ≤ 60) (hfr : fr + tk ≤ n0) : CtI lau yX11_putStep cX11_putStep 6 (some .int) 1 0 0 gg kA [.ref r0, .int (nI fr), .int hh, .int (nI tk)] (mflat [(r0, .inl (.inl (kA 1, n0, .inl f)))]) (S := Nat × (Nat → Int32)) (fun (r : Int32) ((y_r, y_r0) : Nat × (Nat → Int32)) => r = nI y_r ∧ (y_r = fr + tk) ∧ (PtR f y_r0 fr (fr + tk) hh)) (fun ((y_r, y_r0) : Nat × (Nat → Int32)) => mflat [(r0, .inl (.inl (kA 1, n0, .inl y_r0)))]) := by
  refine nx_startI (by decide +kernel) (Nat.le_of_ble_eq_true rfl) ?_
  intro x hnm h hq
  have h : Ok x cX11_putStep RX11 kA (rmC 1 0 0) 6 := h
  show J x (mflat [(r0, .inl (.inl (kA 1, n0, .inl f)))]) [(0, .ref r0), (1, .int (nI fr)), (2, .int hh), (3, .int (nI tk))] 0 0 0 []
  refine j_iload_n h 1 rfl rfl dX11_putStep_0 ?_
  refine j_iload_n h 3 rfl rfl dX11_putStep_1 ?_
  refine j_iadd h dX11_putStep_2 ?_
  refine j_top (b := nI (fr + tk)) (nI_add fr tk) ?_
  refine j_aload_n h 0 rfl rfl dX11_putStep_3 ?_
  refine jm_alen (v := nI n0) h 0 1 rfl rfl rfl dX11_putStep_4 ?_
  refine j_mmin h tw_808 tw_809 tw_105 tw_810 (Nat.le_of_ble_eq_true rfl) (Nat.le_of_ble_eq_true rfl) (Nat.le_of_ble_eq_true rfl) (Nat.le_of_ble_eq_true rfl) (Nat.le_of_ble_eq_true rfl) dX11_putStep_5 ?_
  refine j_top (b := nI (min (fr + tk) n0)) (nx_min (a := (fr + tk)) (b := n0) (by omega) (by omega)) ?_
  refine j_istore (lv' := [(4, .int (nI (min (fr + tk) n0))), (0, .ref r0), (1, .int (nI fr)), (2, .int hh), (3, .int (nI tk))]) h dX11_putStep_8 (by decide) rfl ?_
  refine j_iload_n h 2 rfl rfl dX11_putStep_10 ?_
  refine j_istore (lv' := [(5, .int (nI fr)), (4, .int (nI (min (fr + tk) n0))), (0, .ref r0), (1, .int (nI fr)), (2, .int hh), (3, .int (nI tk))]) h dX11_putStep_11 (by decide) rfl ?_
  have lp13_79706 : ∀ (m13_79706 : Nat), ∀ (v5_13_79706 : Nat) (fr0_13_79706 : Nat → Int32), (PtR f fr0_13_79706 fr v5_13_79706 hh) → (fr ≤ v5_13_79706) → (v5_13_79706 ≤ fr + tk) → (v5_13_79706 ≤ 100000) → fr + tk - v5_13_79706 < m13_79706 → J x (mflat [(r0, .inl (.inl (kA 1, n0, .inl fr0_13_79706)))]) [(5, .int (nI v5_13_79706)), (4, .int (nI (min (fr + tk) n0))), (0, .ref r0), (1, .int (nI fr)), (2, .int hh), (3, .int (nI tk))] 0 0 13 [] := by
    intro m13_79706
    induction m13_79706 with
    | zero =>
      intro v5_13_79706 fr0_13_79706 i13_79706_0 i13_79706_1 i13_79706_2 i13_79706_3 hm13_79706
      exact absurd hm13_79706 (Nat.not_lt_zero _)
    | succ m13_79706 ih13_79706 =>
      intro v5_13_79706 fr0_13_79706 i13_79706_0 i13_79706_1 i13_79706_2 i13_79706_3 hm13_79706
      refine j_iload h 0 rfl dX11_putStep_13 ?_
      refine j_iload h 1 rfl dX11_putStep_15 ?_
      refine j_icmp_ge h 41 dX11_putStep_17 (by decide) (fun z797023 => ?_) (fun z797023 => ?_)
      · have z797023n : (min (fr + tk) n0) ≤ v5_13_79706 := (nI_leI (a := (min (fr + tk) n0)) (b := v5_13_79706) (by omega) (by omega)).mp z797023
        refine j_iload h 1 rfl dX11_putStep_41 ?_
        exact jm_iret h hq dX11_putStep_43 ((min (fr + tk) n0), fr0_13_79706) [0] rfl (by decide) ⟨rfl, (show (min (fr + tk) n0) = fr + tk from (by omega)), (show PtR f fr0_13_79706 fr (fr + tk) hh from (show v5_13_79706 = fr + tk by omega) ▸ i13_79706_0)⟩ (Nat.le_of_ble_eq_true rfl) (Nat.le_of_ble_eq_true rfl)
      · have z797023n : ¬ (min (fr + tk) n0) ≤ v5_13_79706 := fun q9 => z797023 ((nI_leI (a := (min (fr + tk) n0)) (b := v5_13_79706) (by omega) (by omega)).mpr q9)
        refine j_aload_n h 2 rfl rfl dX11_putStep_20 ?_
        refine j_iload h 0 rfl dX11_putStep_21 ?_
        refine j_iload h 0 rfl dX11_putStep_23 ?_
        refine j_iload_n h 3 rfl rfl dX11_putStep_25 ?_
        refine j_icmp_ne h 33 dX11_putStep_26 (by decide) (fun z797024 => ?_) (fun z797024 => ?_)
        · have z797024n : ¬ v5_13_79706 = fr := fun q9 => z797024 ((nI_eq (a := v5_13_79706) (b := fr) (by omega) (by omega)).mpr q9)
          refine j_iconst (v := 0) h (by decide) dX11_putStep_33 ?_
          refine jm_iast (w' := [(r0, .inl (.inl (kA 1, n0, .inl (upd fr0_13_79706 v5_13_79706 0))))]) h 0 rfl v5_13_79706 rfl (by omega) (by omega) dX11_putStep_34 rfl ?_
          refine j_iinc (v := nI (v5_13_79706 + 1)) (lv' := [(5, .int (nI (v5_13_79706 + 1))), (4, .int (nI (min (fr + tk) n0))), (0, .ref r0), (1, .int (nI fr)), (2, .int hh), (3, .int (nI tk))]) h dX11_putStep_35 0 rfl (nI_add v5_13_79706 1) (by decide) rfl ?_
          refine j_goto h 13 dX11_putStep_38 (by decide) ?_
          refine jm_sub [0] (w' := [(r0, .inl (.inl (kA 1, n0, .inl (upd fr0_13_79706 v5_13_79706 0))))]) rfl (by decide +kernel) [0, 1, 2, 3, 4, 5] (lv' := [(5, .int (nI (v5_13_79706 + 1))), (4, .int (nI (min (fr + tk) n0))), (0, .ref r0), (1, .int (nI fr)), (2, .int hh), (3, .int (nI tk))]) rfl ?_
          exact ih13_79706 (v5_13_79706 + 1) (upd fr0_13_79706 v5_13_79706 0) (show PtR f (upd fr0_13_79706 v5_13_79706 0) fr (v5_13_79706 + 1) hh from PtR_n i13_79706_0 (by omega) (by first | exact (if_pos (by omega)).symm | exact (if_neg (by omega)).symm)) (show fr ≤ (v5_13_79706 + 1) by first | assumption | omega) (show (v5_13_79706 + 1) ≤ fr + tk by first | assumption | omega) (show (v5_13_79706 + 1) ≤ 100000 by first | assumption | omega) (show fr + tk - (v5_13_79706 + 1) < m13_79706 by omega)
        · have z797024n : v5_13_79706 = fr := (nI_eq (a := v5_13_79706) (b := fr) (by omega) (by omega)).mp z797024
          refine j_iload_n h 4 rfl rfl dX11_putStep_29 ?_
          refine j_goto h 34 dX11_putStep_30 (by decide) ?_
          refine jm_iast (w' := [(r0, .inl (.inl (kA 1, n0, .inl (upd fr0_13_79706 v5_13_79706 hh))))]) h 0 rfl v5_13_79706 rfl (by omega) (by omega) dX11_putStep_34 rfl ?_
          refine j_iinc (v := nI (v5_13_79706 + 1)) (lv' := [(5, .int (nI (v5_13_79706 + 1))), (4, .int (nI (min (fr + tk) n0))), (0, .ref r0), (1, .int (nI fr)), (2, .int hh), (3, .int (nI tk))]) h dX11_putStep_35 0 rfl (nI_add v5_13_79706 1) (by decide) rfl ?_
          refine j_goto h 13 dX11_putStep_38 (by decide) ?_
          refine jm_sub [0] (w' := [(r0, .inl (.inl (kA 1, n0, .inl (upd fr0_13_79706 v5_13_79706 hh))))]) rfl (by decide +kernel) [0, 1, 2, 3, 4, 5] (lv' := [(5, .int (nI (v5_13_79706 + 1))), (4, .int (nI (min (fr + tk) n0))), (0, .ref r0), (1, .int (nI fr)), (2, .int hh), (3, .int (nI tk))]) rfl ?_
          exact ih13_79706 (v5_13_79706 + 1) (upd fr0_13_79706 v5_13_79706 hh) (show PtR f (upd fr0_13_79706 v5_13_79706 hh) fr (v5_13_79706 + 1) hh from PtR_n i13_79706_0 (by omega) (by first | exact (if_pos (by omega)).symm | exact (if_neg (by omega)).symm)) (show fr ≤ (v5_13_79706 + 1) by first | assumption | omega) (show (v5_13_79706 + 1) ≤ fr + tk by first | assumption | omega) (show (v5_13_79706 + 1) ≤ 100000 by first | assumption | omega) (show fr + tk - (v5_13_79706 + 1) < m13_79706 by omega)
  refine jm_sub [0] (w' := [(r0, .inl (.inl (kA 1, n0, .inl f)))]) rfl (by decide +kernel) [0, 1, 2, 3, 4, 5] (lv' := [(5, .int (nI fr)), (4, .int (nI (min (fr + tk) n0))), (0, .ref r0), (1, .int (nI fr)), (2, .int hh), (3, .int (nI tk))]) rfl ?_
  exact lp13_79706 (fr + tk - fr + 1) fr f (show PtR f f fr fr hh from PtR_0 _ _ _) (show fr ≤ fr by first | assumption | omega) (show fr ≤ fr + tk by first | assumption | omega) (show fr ≤ 100000 by first | assumption | omega) (Nat.lt_succ_self _)
set_option maxHeartbeats 4000000 in
set_option maxRecDepth 100000 in
theorem s_X12_hearsK (lau : Launch) (gg : va_G) (kA : Nat → ClassId) (m : Nat) (e : Nat) (s : Nat) (m0 : Nat) (mtp : Nat) (mfa : Nat) (mfp : Int32) (mat : Nat) (msz : Nat) (mso : Nat) (mpl : Int32) (mnu : Int32) (mwd : Int64) (m10 : Nat) (m11 : Nat) (m12 : Nat) (m13 : Nat) (m14 : Nat) (m15 : Nat) (m16 : Nat) (m17 : Nat) (m18 : Nat) (m19 : Nat) (m20 : Nat) (m21 : Nat) (m22 : Nat) (m23 : Nat) (m24 : Nat) (mns : Nat) (mnl : Nat) (mne : Nat) (mst : Nat) (mlt : Nat) (mer : Nat) (m31 : Nat) (m32 : Nat) (m33 : Nat) (m34 : Nat) (m35 : Nat) (mwm : Nat) (mwt : Nat) (mwf : Nat) (m39 : Nat) (m40 : Nat) (m41 : Nat) (mla : Nat) (m43 : Nat) (m44 : Nat) (m45 : Nat) (m46 : Nat) (m47 : Nat) (m48 : Nat) (mtm : Nat) (m50 : Nat) (m51 : Nat) (m52 : Nat) (m53 : Nat) (m54 : Nat) (m55 : Nat) (m56 : Nat) (m57 : Nat) (m58 : Nat) (m59 : Nat) (m60 : Nat) (m61 : Nat) (msn : Nat) (mti : Nat) (m64 : Nat) (m65 : Nat) (m66 : Nat) (m67 : Nat) (m68 : Nat) (m69 : Nat) (mc19 : Nat → Int32) (mc23 : Nat → Int32) (fl : Nat) (EE : Nat → Nat) (he : e < 4) (hs : s ≤ 6) (hfl : mc23 e = nI fl) (hfl9 : fl ≤ 9) (hlo : ∀ k, k < s → mc19 k = nI (EE k) ∧ EE k ≤ 9) : CtI lau yX12_hears cX12_hears 4 (some .int) 1 0 0 gg kA [.ref m, .int (nI e), .int (pm s)] (mflat [(m, .inl (.inr (12, (.ref m0 :: .int (nI mtp) :: .int (nI mfa) :: .int mfp :: .int (nI mat) :: .int (nI msz) :: .int (nI mso) :: .int mpl :: .int mnu :: .long mwd :: .ref m10 :: .ref m11 :: .ref m12 :: .ref m13 :: .ref m14 :: .ref m15 :: .ref m16 :: .ref m17 :: .ref m18 :: .ref m19 :: .ref m20 :: .ref m21 :: .ref m22 :: .ref m23 :: .ref m24 :: .int (nI mns) :: .int (nI mnl) :: .int (nI mne) :: .int (nI mst) :: .int (nI mlt) :: .int (nI mer) :: .ref m31 :: .ref m32 :: .ref m33 :: .ref m34 :: .ref m35 :: .int (nI mwm) :: .int (nI mwt) :: .int (nI mwf) :: .ref m39 :: .ref m40 :: .ref m41 :: .int (nI mla) :: .ref m43 :: .ref m44 :: .ref m45 :: .ref m46 :: .ref m47 :: .ref m48 :: .int (nI mtm) :: .ref m50 :: .ref m51 :: .ref m52 :: .ref m53 :: .ref m54 :: .ref m55 :: .ref m56 :: .ref m57 :: .ref m58 :: .ref m59 :: .ref m60 :: .ref m61 :: .int (nI msn) :: .int (nI mti) :: .ref m64 :: .ref m65 :: .ref m66 :: .ref m67 :: .ref m68 :: .ref m69 :: [])))), (m19, .inl (.inl (kA 1, 6, .inl mc19))), (m23, .inl (.inl (kA 1, 4, .inl mc23)))]) (S := Nat) (fun (r : Int32) (y_r : Nat) => r = nI y_r ∧ (y_r ≤ 9) ∧ (y_r = hrN EE fl s)) (fun (y_r : Nat) => mflat [(m, .inl (.inr (12, (.ref m0 :: .int (nI mtp) :: .int (nI mfa) :: .int mfp :: .int (nI mat) :: .int (nI msz) :: .int (nI mso) :: .int mpl :: .int mnu :: .long mwd :: .ref m10 :: .ref m11 :: .ref m12 :: .ref m13 :: .ref m14 :: .ref m15 :: .ref m16 :: .ref m17 :: .ref m18 :: .ref m19 :: .ref m20 :: .ref m21 :: .ref m22 :: .ref m23 :: .ref m24 :: .int (nI mns) :: .int (nI mnl) :: .int (nI mne) :: .int (nI mst) :: .int (nI mlt) :: .int (nI mer) :: .ref m31 :: .ref m32 :: .ref m33 :: .ref m34 :: .ref m35 :: .int (nI mwm) :: .int (nI mwt) :: .int (nI mwf) :: .ref m39 :: .ref m40 :: .ref m41 :: .int (nI mla) :: .ref m43 :: .ref m44 :: .ref m45 :: .ref m46 :: .ref m47 :: .ref m48 :: .int (nI mtm) :: .ref m50 :: .ref m51 :: .ref m52 :: .ref m53 :: .ref m54 :: .ref m55 :: .ref m56 :: .ref m57 :: .ref m58 :: .ref m59 :: .ref m60 :: .ref m61 :: .int (nI msn) :: .int (nI mti) :: .ref m64 :: .ref m65 :: .ref m66 :: .ref m67 :: .ref m68 :: .ref m69 :: [])))), (m19, .inl (.inl (kA 1, 6, .inl mc19))), (m23, .inl (.inl (kA 1, 4, .inl mc23)))]) := by
  refine nx_startI (by decide +kernel) (Nat.le_of_ble_eq_true rfl) ?_
  intro x hnm h hq
  have h : Ok x cX12_hears RX12 kA (rmC 1 0 0) 4 := h
  show J x (mflat [(m, .inl (.inr (12, (.ref m0 :: .int (nI mtp) :: .int (nI mfa) :: .int mfp :: .int (nI mat) :: .int (nI msz) :: .int (nI mso) :: .int mpl :: .int mnu :: .long mwd :: .ref m10 :: .ref m11 :: .ref m12 :: .ref m13 :: .ref m14 :: .ref m15 :: .ref m16 :: .ref m17 :: .ref m18 :: .ref m19 :: .ref m20 :: .ref m21 :: .ref m22 :: .ref m23 :: .ref m24 :: .int (nI mns) :: .int (nI mnl) :: .int (nI mne) :: .int (nI mst) :: .int (nI mlt) :: .int (nI mer) :: .ref m31 :: .ref m32 :: .ref m33 :: .ref m34 :: .ref m35 :: .int (nI mwm) :: .int (nI mwt) :: .int (nI mwf) :: .ref m39 :: .ref m40 :: .ref m41 :: .int (nI mla) :: .ref m43 :: .ref m44 :: .ref m45 :: .ref m46 :: .ref m47 :: .ref m48 :: .int (nI mtm) :: .ref m50 :: .ref m51 :: .ref m52 :: .ref m53 :: .ref m54 :: .ref m55 :: .ref m56 :: .ref m57 :: .ref m58 :: .ref m59 :: .ref m60 :: .ref m61 :: .int (nI msn) :: .int (nI mti) :: .ref m64 :: .ref m65 :: .ref m66 :: .ref m67 :: .ref m68 :: .ref m69 :: [])))), (m19, .inl (.inl (kA 1, 6, .inl mc19))), (m23, .inl (.inl (kA 1, 4, .inl mc23)))]) [(0, .ref m), (1, .int (nI e)), (2, .int (pm s))] 0 0 0 []
  refine j_iload_n h 2 rfl rfl dX12_hears_0 ?_
  rcases s with _ | j797164
  · show J x (mflat [(m, .inl (.inr (12, (.ref m0 :: .int (nI mtp) :: .int (nI mfa) :: .int mfp :: .int (nI mat) :: .int (nI msz) :: .int (nI mso) :: .int mpl :: .int mnu :: .long mwd :: .ref m10 :: .ref m11 :: .ref m12 :: .ref m13 :: .ref m14 :: .ref m15 :: .ref m16 :: .ref m17 :: .ref m18 :: .ref m19 :: .ref m20 :: .ref m21 :: .ref m22 :: .ref m23 :: .ref m24 :: .int (nI mns) :: .int (nI mnl) :: .int (nI mne) :: .int (nI mst) :: .int (nI mlt) :: .int (nI mer) :: .ref m31 :: .ref m32 :: .ref m33 :: .ref m34 :: .ref m35 :: .int (nI mwm) :: .int (nI mwt) :: .int (nI mwf) :: .ref m39 :: .ref m40 :: .ref m41 :: .int (nI mla) :: .ref m43 :: .ref m44 :: .ref m45 :: .ref m46 :: .ref m47 :: .ref m48 :: .int (nI mtm) :: .ref m50 :: .ref m51 :: .ref m52 :: .ref m53 :: .ref m54 :: .ref m55 :: .ref m56 :: .ref m57 :: .ref m58 :: .ref m59 :: .ref m60 :: .ref m61 :: .int (nI msn) :: .int (nI mti) :: .ref m64 :: .ref m65 :: .ref m66 :: .ref m67 :: .ref m68 :: .ref m69 :: [])))), (m19, .inl (.inl (kA 1, 6, .inl mc19))), (m23, .inl (.inl (kA 1, 4, .inl mc23)))]) [(0, .ref m), (1, .int (nI e)), (2, .int (-1))] 0 0 1 [.int (-1)]
    refine j_if_ge h 8 dX12_hears_1 (by decide) (fun q => absurd q (by decide)) (fun _ => ?_)
    refine j_iconst (v := 0) h (by decide) dX12_hears_4 ?_
    refine j_goto h 21 dX12_hears_5 (by decide) ?_
    refine j_istore_n (lv' := [(3, .int 0), (0, .ref m), (1, .int (nI e)), (2, .int (-1))]) h dX12_hears_21 rfl (by decide) rfl ?_
    refine j_iload_n h 0 rfl rfl dX12_hears_22 ?_
    refine j_if_ge h 30 dX12_hears_23 (by decide) (fun _ => ?_) (fun q => absurd (by decide) q)
    refine j_iload_n h 0 rfl rfl dX12_hears_30 ?_
    exact jm_iret h hq dX12_hears_31 0 [0, 1, 2] rfl (by decide) ⟨rfl, (show 0 ≤ 9 by first | assumption | omega), (show 0 = hrN EE fl 0 from (by first | exact hrN_0.symm | (rw [hrN_s]; omega) | (rw [hrN_s])))⟩ (Nat.le_of_ble_eq_true rfl) (Nat.le_of_ble_eq_true rfl)
  · show J x (mflat [(m, .inl (.inr (12, (.ref m0 :: .int (nI mtp) :: .int (nI mfa) :: .int mfp :: .int (nI mat) :: .int (nI msz) :: .int (nI mso) :: .int mpl :: .int mnu :: .long mwd :: .ref m10 :: .ref m11 :: .ref m12 :: .ref m13 :: .ref m14 :: .ref m15 :: .ref m16 :: .ref m17 :: .ref m18 :: .ref m19 :: .ref m20 :: .ref m21 :: .ref m22 :: .ref m23 :: .ref m24 :: .int (nI mns) :: .int (nI mnl) :: .int (nI mne) :: .int (nI mst) :: .int (nI mlt) :: .int (nI mer) :: .ref m31 :: .ref m32 :: .ref m33 :: .ref m34 :: .ref m35 :: .int (nI mwm) :: .int (nI mwt) :: .int (nI mwf) :: .ref m39 :: .ref m40 :: .ref m41 :: .int (nI mla) :: .ref m43 :: .ref m44 :: .ref m45 :: .ref m46 :: .ref m47 :: .ref m48 :: .int (nI mtm) :: .ref m50 :: .ref m51 :: .ref m52 :: .ref m53 :: .ref m54 :: .ref m55 :: .ref m56 :: .ref m57 :: .ref m58 :: .ref m59 :: .ref m60 :: .ref m61 :: .int (nI msn) :: .int (nI mti) :: .ref m64 :: .ref m65 :: .ref m66 :: .ref m67 :: .ref m68 :: .ref m69 :: [])))), (m19, .inl (.inl (kA 1, 6, .inl mc19))), (m23, .inl (.inl (kA 1, 4, .inl mc23)))]) [(0, .ref m), (1, .int (nI e)), (2, .int (nI j797164))] 0 0 1 [.int (nI j797164)]
    refine j_if_ge h 8 dX12_hears_1 (by decide) (fun _ => ?_) (fun q => absurd (nI_pos' (by omega)) q)
    refine j_aload_n h 0 rfl rfl dX12_hears_8 ?_
    refine jm_get h iw_X12 0 rfl rfl 19 (by decide +kernel) tw_1175 rfl dX12_hears_9 ?_
    refine j_iload_n h 2 rfl rfl dX12_hears_12 ?_
    refine jm_iald h 1 rfl j797164 rfl (by omega) (by omega) dX12_hears_13 ?_
    have u797165 := (hlo j797164 (by omega)).2
    refine j_top (b := nI (EE j797164)) ((hlo j797164 (by omega)).1) ?_
    refine j_aload_n h 0 rfl rfl dX12_hears_14 ?_
    refine jm_get h iw_X12 0 rfl rfl 23 (by decide +kernel) tw_1179 rfl dX12_hears_15 ?_
    refine j_iload_n h 1 rfl rfl dX12_hears_18 ?_
    refine jm_iald h 2 rfl e rfl (by omega) (by omega) dX12_hears_19 ?_
    refine j_top (b := nI fl) (hfl) ?_
    refine j_isub h dX12_hears_20 ?_
    by_cases z797166 : fl ≤ (EE j797164)
    · refine j_top (b := nI ((EE j797164) - fl)) (pk_sub (a := (EE j797164)) (b := fl) (by omega)) ?_
      show J x (mflat [(m, .inl (.inr (12, (.ref m0 :: .int (nI mtp) :: .int (nI mfa) :: .int mfp :: .int (nI mat) :: .int (nI msz) :: .int (nI mso) :: .int mpl :: .int mnu :: .long mwd :: .ref m10 :: .ref m11 :: .ref m12 :: .ref m13 :: .ref m14 :: .ref m15 :: .ref m16 :: .ref m17 :: .ref m18 :: .ref m19 :: .ref m20 :: .ref m21 :: .ref m22 :: .ref m23 :: .ref m24 :: .int (nI mns) :: .int (nI mnl) :: .int (nI mne) :: .int (nI mst) :: .int (nI mlt) :: .int (nI mer) :: .ref m31 :: .ref m32 :: .ref m33 :: .ref m34 :: .ref m35 :: .int (nI mwm) :: .int (nI mwt) :: .int (nI mwf) :: .ref m39 :: .ref m40 :: .ref m41 :: .int (nI mla) :: .ref m43 :: .ref m44 :: .ref m45 :: .ref m46 :: .ref m47 :: .ref m48 :: .int (nI mtm) :: .ref m50 :: .ref m51 :: .ref m52 :: .ref m53 :: .ref m54 :: .ref m55 :: .ref m56 :: .ref m57 :: .ref m58 :: .ref m59 :: .ref m60 :: .ref m61 :: .int (nI msn) :: .int (nI mti) :: .ref m64 :: .ref m65 :: .ref m66 :: .ref m67 :: .ref m68 :: .ref m69 :: [])))), (m19, .inl (.inl (kA 1, 6, .inl mc19))), (m23, .inl (.inl (kA 1, 4, .inl mc23)))]) [(0, .ref m), (1, .int (nI e)), (2, .int (nI j797164))] 0 0 21 [.int (nI ((EE j797164) - fl))]
      refine j_istore_n (lv' := [(3, .int (nI ((EE j797164) - fl))), (0, .ref m), (1, .int (nI e)), (2, .int (nI j797164))]) h dX12_hears_21 rfl (by decide) rfl ?_
      refine j_iload_n h 0 rfl rfl dX12_hears_22 ?_
      refine j_if_ge h 30 dX12_hears_23 (by decide) (fun _ => ?_) (fun q => absurd (nI_pos' (by omega)) q)
      refine j_iload_n h 0 rfl rfl dX12_hears_30 ?_
      exact jm_iret h hq dX12_hears_31 ((EE j797164) - fl) [0, 1, 2] rfl (by decide) ⟨rfl, (show ((EE j797164) - fl) ≤ 9 by first | assumption | omega), (show ((EE j797164) - fl) = hrN EE fl (j797164 + 1) from (by first | exact hrN_0.symm | (rw [hrN_s]; omega) | (rw [hrN_s])))⟩ (Nat.le_of_ble_eq_true rfl) (Nat.le_of_ble_eq_true rfl)
    · have hz797166 : (nI (EE j797164)) - (nI fl) < 0 := pk_sneg (a := (EE j797164)) (b := fl) (by omega) (by omega)
      show J x (mflat [(m, .inl (.inr (12, (.ref m0 :: .int (nI mtp) :: .int (nI mfa) :: .int mfp :: .int (nI mat) :: .int (nI msz) :: .int (nI mso) :: .int mpl :: .int mnu :: .long mwd :: .ref m10 :: .ref m11 :: .ref m12 :: .ref m13 :: .ref m14 :: .ref m15 :: .ref m16 :: .ref m17 :: .ref m18 :: .ref m19 :: .ref m20 :: .ref m21 :: .ref m22 :: .ref m23 :: .ref m24 :: .int (nI mns) :: .int (nI mnl) :: .int (nI mne) :: .int (nI mst) :: .int (nI mlt) :: .int (nI mer) :: .ref m31 :: .ref m32 :: .ref m33 :: .ref m34 :: .ref m35 :: .int (nI mwm) :: .int (nI mwt) :: .int (nI mwf) :: .ref m39 :: .ref m40 :: .ref m41 :: .int (nI mla) :: .ref m43 :: .ref m44 :: .ref m45 :: .ref m46 :: .ref m47 :: .ref m48 :: .int (nI mtm) :: .ref m50 :: .ref m51 :: .ref m52 :: .ref m53 :: .ref m54 :: .ref m55 :: .ref m56 :: .ref m57 :: .ref m58 :: .ref m59 :: .ref m60 :: .ref m61 :: .int (nI msn) :: .int (nI mti) :: .ref m64 :: .ref m65 :: .ref m66 :: .ref m67 :: .ref m68 :: .ref m69 :: [])))), (m19, .inl (.inl (kA 1, 6, .inl mc19))), (m23, .inl (.inl (kA 1, 4, .inl mc23)))]) [(0, .ref m), (1, .int (nI e)), (2, .int (nI j797164))] 0 0 21 [.int ((nI (EE j797164)) - (nI fl))]
      refine j_istore_n (lv' := [(3, .int ((nI (EE j797164)) - (nI fl))), (0, .ref m), (1, .int (nI e)), (2, .int (nI j797164))]) h dX12_hears_21 rfl (by decide) rfl ?_
      refine j_iload_n h 0 rfl rfl dX12_hears_22 ?_
      refine j_if_ge h 30 dX12_hears_23 (by decide) (fun q => absurd q (fun q8 => Int32.lt_irrefl (Int32.lt_of_le_of_lt q8 hz797166))) (fun _ => ?_)
      refine j_iconst (v := 0) h (by decide) dX12_hears_26 ?_
      refine j_goto h 31 dX12_hears_27 (by decide) ?_
      exact jm_iret h hq dX12_hears_31 0 [0, 1, 2] rfl (by decide) ⟨rfl, (show 0 ≤ 9 by first | assumption | omega), (show 0 = hrN EE fl (j797164 + 1) from (by first | exact hrN_0.symm | (rw [hrN_s]; omega) | (rw [hrN_s])))⟩ (Nat.le_of_ble_eq_true rfl) (Nat.le_of_ble_eq_true rfl)
