def hrN (E : Nat → Nat) (fl p : Nat) : Nat := if p = 0 then 0 else E (p - 1) - fl
def elo (f : Nat → Int32) : Nat → Nat := fun k => (f k).toNatClampNeg
/-- a step put into a row of moments, up to moment i -/
def PtR (f g : Nat → Int32) (a i : Nat) (v : Int32) : Prop := (∀ m, (m < a ∨ i ≤ m) → g m = f m) ∧ ∀ m, a ≤ m → m < i → g m = if m = a then v else 0
section HR
variable {D : Nat → Nat → Nat} {E x t : Nat → Nat} {n e tm a b i j m p q fl : Nat} {f g h2 : Nat → Int32} {v w er mo r1 r2 : Int32}
theorem hrN_s : hrN E fl (p + 1) = E p - fl := if_neg (Nat.succ_ne_zero p)
theorem hrN_0 : hrN E fl 0 = 0 := if_pos rfl
theorem LoR_e (h : LoR n f g) : ∀ k, k < n → f k = nI (elo f k) ∧ g k = nI (elo f k) ∧ elo f k ≤ 9 := fun k hk => by
  obtain ⟨v, h1, h2, h3⟩ := h k hk
  have e : elo f k = v := by
    show (f k).toNatClampNeg = v
    rw [h2, nI_clamp (by omega)]
  rw [e]
  exact ⟨h2, h3, h1⟩
theorem mx_neg (h : w < 0) (e : (if 0 < w then w else 0) = nI j) (hj : j < 2147483648) : j = 0 := by
  rw [if_neg (fun q => Int32.lt_irrefl (Int32.lt_trans q h))] at e
  exact ((nI_eq (a := 0) (b := j) (by decide) hj).mp e).symm
theorem PtR_0 (f : Nat → Int32) (a : Nat) (v : Int32) : PtR f f a a v := ⟨fun _ _ => rfl, fun m h1 h2 => by omega⟩
theorem PtR_n (h : PtR f g a i v) (ha : a ≤ i) (hw : w = if i = a then v else 0) : PtR f (upd g i w) a (i + 1) v := by
  refine ⟨fun m hm => ?_, fun m h1 h2 => ?_⟩
  · rw [pk_un (by omega)]
    exact h.1 m (by omega)
  · by_cases q : m = i
    · rw [q, pk_us]
      exact hw
    · rw [pk_un q]
      exact h.2 m h1 (by omega)
theorem bgn_ge : ∀ {n : Nat}, (∀ k, k < n → 1 ≤ t (x k)) → tkS t x n ≤ m → bgn t x n m = 0
  | 0, _, _ => rfl
  | n + 1, h, hm => by
    have e : tkS t x (n + 1) = tkS t x n + t (x n) := rfl
    have z := h n (Nat.lt_succ_self n)
    rw [bgn_n (by omega)]
    exact bgn_ge (fun k hk => h k (by omega)) (by omega)
/-- one step more heard -/
theorem Hw_n (h : ∀ m, m < tkS t x i → f m = nI (hrN E fl (bgn t x i m))) (hp : PtR f g (tkS t x i) (tkS t x i + t (x i)) v) (hv : v = nI (E (x i) - fl)) (h1 : ∀ k, k < i → 1 ≤ t (x k)) : ∀ m, m < tkS t x (i + 1) → g m = nI (hrN E fl (bgn t x (i + 1) m)) := fun m hm => by
  have e : tkS t x (i + 1) = tkS t x i + t (x i) := rfl
  rcases (show m < tkS t x i ∨ m = tkS t x i ∨ tkS t x i < m by omega) with q | q | q
  · rw [hp.1 m (Or.inl q), h m q, bgn_n (by omega)]
  · rw [hp.2 m (by omega) (by omega), if_pos q, hv, q, bgn_s, hrN_s]
  · rw [hp.2 m (by omega) (by omega), if_neg (by omega), bgn_n (by omega), bgn_ge h1 (by omega), hrN_0]
    rfl
end HR
set_option maxHeartbeats 4000000 in
set_option maxRecDepth 100000 in
theorem s_X5_heardBelowF (lau : Launch) (gg : va_G) (kA : Nat → ClassId) (s : Nat) (lo : Nat) (er : Nat) (s0 : Nat) (s1 : Nat) (s2 : Nat) (s3 : Nat) (s4 : Nat) (s5 : Nat) (s6 : Nat) (s7 : Nat) (s8 : Nat) (s9 : Nat) (s10 : Nat) (s11 : Nat) (sn : Nat) (sl : Nat) (se : Nat) (sc10 : Nat → Int32) (fl : Nat) (hse : se ≤ 4) (her : er < se) (hlo9 : lo ≤ 9) (hfl : sc10 er = nI fl) (hfl9 : fl ≤ 9) : CtI lau yX5_heardBelow cX5_heardBelow 3 (some .int) 2 0 0 gg kA [.ref s, .int (nI lo), .int (nI er)] (mflat [(s, .inl (.inr (5, [.ref s0, .ref s1, .ref s2, .ref s3, .ref s4, .ref s5, .ref s6, .ref s7, .ref s8, .ref s9, .ref s10, .ref s11, .int (nI sn), .int (nI sl), .int (nI se)]))), (s10, .inl (.inl (kA 1, 4, .inl sc10)))]) (S := Nat) (fun (r : Int32) (y_r : Nat) => r = nI y_r ∧ (y_r = lo - fl)) (fun (y_r : Nat) => mflat [(s, .inl (.inr (5, [.ref s0, .ref s1, .ref s2, .ref s3, .ref s4, .ref s5, .ref s6, .ref s7, .ref s8, .ref s9, .ref s10, .ref s11, .int (nI sn), .int (nI sl), .int (nI se)]))), (s10, .inl (.inl (kA 1, 4, .inl sc10)))]) := by
  refine nx_startI (by decide +kernel) (Nat.le_of_ble_eq_true rfl) ?_
  intro x hnm h hq
  have h : Ok x cX5_heardBelow RX5 kA (rmC 2 0 0) 3 := h
  show J x (mflat [(s, .inl (.inr (5, [.ref s0, .ref s1, .ref s2, .ref s3, .ref s4, .ref s5, .ref s6, .ref s7, .ref s8, .ref s9, .ref s10, .ref s11, .int (nI sn), .int (nI sl), .int (nI se)]))), (s10, .inl (.inl (kA 1, 4, .inl sc10)))]) [(0, .ref s), (1, .int (nI lo)), (2, .int (nI er))] 0 0 0 []
  refine j_aload_n h 0 rfl rfl dX5_heardBelow_0 ?_
  refine j_iload_n h 2 rfl rfl dX5_heardBelow_1 ?_
  refine jm_callVi (np := 1) (isC := [0]) (isR := [1]) (wc := [(s, .inl (.inr (5, [.ref s0, .ref s1, .ref s2, .ref s3, .ref s4, .ref s5, .ref s6, .ref s7, .ref s8, .ref s9, .ref s10, .ref s11, .int (nI sn), .int (nI sl), .int (nI se)])))]) (wr := [(s10, .inl (.inl (kA 1, 4, .inl sc10)))]) (rest := []) (As := [.int (nI er)]) (q0 := 0) h (s_X5_hasEar _ _ kA s (nI er) s0 s1 s2 s3 s4 s5 s6 s7 s8 s9 s10 s11 (nI sn) (nI sl) (nI se) ) tw_801 tw_790 tw_791 tw_90 tw_792 (by decide +kernel) rfl ⟨Nat.le_of_ble_eq_true rfl, Nat.le_of_ble_eq_true rfl⟩ rfl rfl (by decide +kernel) rfl rfl (by decide +kernel) (by decide +kernel) (Nat.le_of_ble_eq_true rfl) rfl ⟨Nat.le_of_ble_eq_true rfl, Nat.le_of_ble_eq_true rfl⟩ dX5_heardBelow_2 ?_
  rintro r797008 _ e797007
  have p797009 := e797007
  subst p797009
  show J x (mflat [(s10, .inl (.inl (kA 1, 4, .inl sc10))), (s, .inl (.inr (5, [.ref s0, .ref s1, .ref s2, .ref s3, .ref s4, .ref s5, .ref s6, .ref s7, .ref s8, .ref s9, .ref s10, .ref s11, .int (nI sn), .int (nI sl), .int (nI se)])))]) [(0, .ref s), (1, .int (nI lo)), (2, .int (nI er))] 0 0 5 [.int (bIx (nI er) (nI se))]
  rcases bIxn er se (by omega) (by omega) with ⟨hj797010, hT⟩ | ⟨hj797010, hT⟩
  · refine j_top (b := 0) hT ?_
    show J x (mflat [(s10, .inl (.inl (kA 1, 4, .inl sc10))), (s, .inl (.inr (5, [.ref s0, .ref s1, .ref s2, .ref s3, .ref s4, .ref s5, .ref s6, .ref s7, .ref s8, .ref s9, .ref s10, .ref s11, .int (nI sn), .int (nI sl), .int (nI se)])))]) [(0, .ref s), (1, .int (nI lo)), (2, .int (nI er))] 0 0 5 [.int 0]
    refine j_if_eq h 23 dX5_heardBelow_5 (by decide) (fun _ => ?_) (fun q => absurd (by decide) q)
    refine j_iconst (v := 0) h (by decide) dX5_heardBelow_23 ?_
    exact jm_iret h hq dX5_heardBelow_24 0 [1, 0] rfl (by decide) ⟨rfl, (show 0 = lo - fl from (by omega))⟩ (Nat.le_of_ble_eq_true rfl) (Nat.le_of_ble_eq_true rfl)
  · refine j_top (b := 1) hT ?_
    show J x (mflat [(s10, .inl (.inl (kA 1, 4, .inl sc10))), (s, .inl (.inr (5, [.ref s0, .ref s1, .ref s2, .ref s3, .ref s4, .ref s5, .ref s6, .ref s7, .ref s8, .ref s9, .ref s10, .ref s11, .int (nI sn), .int (nI sl), .int (nI se)])))]) [(0, .ref s), (1, .int (nI lo)), (2, .int (nI er))] 0 0 5 [.int 1]
    refine j_if_eq h 23 dX5_heardBelow_5 (by decide) (fun q => absurd q (by decide)) (fun _ => ?_)
    refine j_iconst (v := 0) h (by decide) dX5_heardBelow_8 ?_
    refine j_iload_n h 1 rfl rfl dX5_heardBelow_9 ?_
    refine j_aload_n h 0 rfl rfl dX5_heardBelow_10 ?_
    refine jm_get h iw_X5 1 rfl rfl 10 (by decide +kernel) tw_211 rfl dX5_heardBelow_11 ?_
    refine j_iload_n h 2 rfl rfl dX5_heardBelow_14 ?_
    refine jm_iald h 0 rfl er rfl (by omega) (by omega) dX5_heardBelow_15 ?_
    refine j_top (b := nI fl) (hfl) ?_
    refine j_isub h dX5_heardBelow_16 ?_
    by_cases z797011 : fl ≤ lo
    · refine j_top (b := nI (lo - fl)) (pk_sub (a := lo) (b := fl) (by omega)) ?_
      show J x (mflat [(s10, .inl (.inl (kA 1, 4, .inl sc10))), (s, .inl (.inr (5, [.ref s0, .ref s1, .ref s2, .ref s3, .ref s4, .ref s5, .ref s6, .ref s7, .ref s8, .ref s9, .ref s10, .ref s11, .int (nI sn), .int (nI sl), .int (nI se)])))]) [(0, .ref s), (1, .int (nI lo)), (2, .int (nI er))] 0 0 17 [.int (nI (lo - fl)), .int 0]
      refine j_mmax h tw_802 tw_803 tw_105 tw_804 (Nat.le_of_ble_eq_true rfl) (Nat.le_of_ble_eq_true rfl) (Nat.le_of_ble_eq_true rfl) (Nat.le_of_ble_eq_true rfl) (Nat.le_of_ble_eq_true rfl) dX5_heardBelow_17 ?_
      refine j_top (b := nI (max 0 (lo - fl))) (nx_max (a := 0) (b := (lo - fl)) (by omega) (by omega)) ?_
      refine j_goto h 24 dX5_heardBelow_20 (by decide) ?_
      exact jm_iret h hq dX5_heardBelow_24 (max 0 (lo - fl)) [1, 0] rfl (by decide) ⟨rfl, (show (max 0 (lo - fl)) = lo - fl from (by omega))⟩ (Nat.le_of_ble_eq_true rfl) (Nat.le_of_ble_eq_true rfl)
    · have hz797011 : (nI lo) - (nI fl) < 0 := pk_sneg (a := lo) (b := fl) (by omega) (by omega)
      show J x (mflat [(s10, .inl (.inl (kA 1, 4, .inl sc10))), (s, .inl (.inr (5, [.ref s0, .ref s1, .ref s2, .ref s3, .ref s4, .ref s5, .ref s6, .ref s7, .ref s8, .ref s9, .ref s10, .ref s11, .int (nI sn), .int (nI sl), .int (nI se)])))]) [(0, .ref s), (1, .int (nI lo)), (2, .int (nI er))] 0 0 17 [.int ((nI lo) - (nI fl)), .int 0]
      refine j_mmax h tw_802 tw_803 tw_105 tw_804 (Nat.le_of_ble_eq_true rfl) (Nat.le_of_ble_eq_true rfl) (Nat.le_of_ble_eq_true rfl) (Nat.le_of_ble_eq_true rfl) (Nat.le_of_ble_eq_true rfl) dX5_heardBelow_17 ?_
      obtain ⟨j797012, hj797012, ej797012⟩ := mx0' ((nI lo) - (nI fl))
      refine j_top (b := nI j797012) (ej797012) ?_
      refine j_goto h 24 dX5_heardBelow_20 (by decide) ?_
      exact jm_iret h hq dX5_heardBelow_24 j797012 [1, 0] rfl (by decide) ⟨rfl, (show j797012 = lo - fl from ((mx_neg hz797011 ej797012 hj797012).trans (by omega)))⟩ (Nat.le_of_ble_eq_true rfl) (Nat.le_of_ble_eq_true rfl)
set_option maxHeartbeats 4000000 in
set_option maxRecDepth 100000 in
theorem s_X11_putStepF (lau : Launch) (gg : va_G) (kA : Nat → ClassId) (r0 : Nat) (fr : Nat) (hh : Int32) (tk : Nat) (n0 : Nat) (f : Nat → Int32) (hn0 : n0 ≤ 60) (hfr : fr + tk ≤ n0) : CtI lau yX11_putStep cX11_putStep 6 (some .int) 1 0 0 gg kA [.ref r0, .int (nI fr), .int hh, .int (nI tk)] (mflat [(r0, .inl (.inl (kA 1, n0, .inl f)))]) (S := Nat × (Nat → Int32)) (fun (r : Int32) ((y_r, y_r0) : Nat × (Nat → Int32)) => r = nI y_r ∧ (y_r = fr + tk) ∧ (PtR f y_r0 fr (fr + tk) hh)) (fun ((y_r, y_r0) : Nat × (Nat → Int32)) => mflat [(r0, .inl (.inl (kA 1, n0, .inl y_r0)))]) := by
  refine nx_startI (by decide +kernel) (Nat.le_of_ble_eq_true rfl) ?_
  intro x hnm h hq
  have h : Ok x cX11_putStep RX11 kA (rmC 1 0 0) 6 := h
  show J x (mflat [(r0, .inl (.inl (kA 1, n0, .inl f)))]) [(0, .ref r0), (1, .int (nI fr)), (2, .int hh), (3, .int (nI tk))] 0 0 0 []
  refine j_iload_n h 1 rfl rfl dX11_putStep_0 ?_
  refine j_iload_n h 3 rfl rfl dX11_putStep_1 ?_
  refine j_iadd h dX11_putStep_2 ?_
  refine j_top (b := nI (fr + tk)) (nI_add fr tk) ?_
  refine j_aload_n h 0 rfl rfl dX11_putStep_3 ?_
  refine jm_alen (v := nI n0) h 0 1 rfl rfl rfl dX11_putStep_4 ?_
  refine j_mmin h tw_808 tw_809 tw_105 tw_810 (Nat.le_of_ble_eq_true rfl) (Nat.le_of_ble_eq_true rfl) (Nat.le_of_ble_eq_true rfl) (Nat.le_of_ble_eq_true rfl) (Nat.le_of_ble_eq_true rfl) dX11_putStep_5 ?_
  refine j_top (b := nI (min (fr + tk) n0)) (nx_min (a := (fr + tk)) (b := n0) (by omega) (by omega)) ?_
  refine j_istore (lv' := [(4, .int (nI (min (fr + tk) n0))), (0, .ref r0), (1, .int (nI fr)), (2, .int hh), (3, .int (nI tk))]) h dX11_putStep_8 (by decide) rfl ?_
  refine j_iload_n h 2 rfl rfl dX11_putStep_10 ?_
  refine j_istore (lv' := [(5, .int (nI fr)), (4, .int (nI (min (fr + tk) n0))), (0, .ref r0), (1, .int (nI fr)), (2, .int hh), (3, .int (nI tk))]) h dX11_putStep_11 (by decide) rfl ?_
  have lp13_79706 : ∀ (m13_79706 : Nat), ∀ (v5_13_79706 : Nat) (fr0_13_79706 : Nat → Int32), (PtR f fr0_13_79706 fr v5_13_79706 hh) → (fr ≤ v5_13_79706) → (v5_13_79706 ≤ fr + tk) → (v5_13_79706 ≤ 100000) → fr + tk - v5_13_79706 < m13_79706 → J x (mflat [(r0, .inl (.inl (kA 1, n0, .inl fr0_13_79706)))]) [(5, .int (nI v5_13_79706)), (4, .int (nI (min (fr + tk) n0))), (0, .ref r0), (1, .int (nI fr)), (2, .int hh), (3, .int (nI tk))] 0 0 13 [] := by
    intro m13_79706
    induction m13_79706 with
    | zero =>
      intro v5_13_79706 fr0_13_79706 i13_79706_0 i13_79706_1 i13_79706_2 i13_79706_3 hm13_79706
      exact absurd hm13_79706 (Nat.not_lt_zero _)
    | succ m13_79706 ih13_79706 =>
      intro v5_13_79706 fr0_13_79706 i13_79706_0 i13_79706_1 i13_79706_2 i13_79706_3 hm13_79706
      refine j_iload h 0 rfl dX11_putStep_13 ?_
      refine j_iload h 1 rfl dX11_putStep_15 ?_
      refine j_icmp_ge h 41 dX11_putStep_17 (by decide) (fun z797023 => ?_) (fun z797023 => ?_)
      · have z797023n : (min (fr + tk) n0) ≤ v5_13_79706 := (nI_leI (a := (min (fr + tk) n0)) (b := v5_13_79706) (by omega) (by omega)).mp z797023
        refine j_iload h 1 rfl dX11_putStep_41 ?_
        exact jm_iret h hq dX11_putStep_43 ((min (fr + tk) n0), fr0_13_79706) [0] rfl (by decide) ⟨rfl, (show (min (fr + tk) n0) = fr + tk from (by omega)), (show PtR f fr0_13_79706 fr (fr + tk) hh from (show v5_13_79706 = fr + tk by omega) ▸ i13_79706_0)⟩ (Nat.le_of_ble_eq_true rfl) (Nat.le_of_ble_eq_true rfl)
      · have z797023n : ¬ (min (fr + tk) n0) ≤ v5_13_79706 := fun q9 => z797023 ((nI_leI (a := (min (fr + tk) n0)) (b := v5_13_79706) (by omega) (by omega)).mpr q9)
        refine j_aload_n h 2 rfl rfl dX11_putStep_20 ?_
        refine j_iload h 0 rfl dX11_putStep_21 ?_
        refine j_iload h 0 rfl dX11_putStep_23 ?_
        refine j_iload_n h 3 rfl rfl dX11_putStep_25 ?_
        refine j_icmp_ne h 33 dX11_putStep_26 (by decide) (fun z797024 => ?_) (fun z797024 => ?_)
        · have z797024n : ¬ v5_13_79706 = fr := fun q9 => z797024 ((nI_eq (a := v5_13_79706) (b := fr) (by omega) (by omega)).mpr q9)
          refine j_iconst (v := 0) h (by decide) dX11_putStep_33 ?_
          refine jm_iast (w' := [(r0, .inl (.inl (kA 1, n0, .inl (upd fr0_13_79706 v5_13_79706 0))))]) h 0 rfl v5_13_79706 rfl (by omega) (by omega) dX11_putStep_34 rfl ?_
          refine j_iinc (v := nI (v5_13_79706 + 1)) (lv' := [(5, .int (nI (v5_13_79706 + 1))), (4, .int (nI (min (fr + tk) n0))), (0, .ref r0), (1, .int (nI fr)), (2, .int hh), (3, .int (nI tk))]) h dX11_putStep_35 0 rfl (nI_add v5_13_79706 1) (by decide) rfl ?_
          refine j_goto h 13 dX11_putStep_38 (by decide) ?_
          refine jm_sub [0] (w' := [(r0, .inl (.inl (kA 1, n0, .inl (upd fr0_13_79706 v5_13_79706 0))))]) rfl (by decide +kernel) [0, 1, 2, 3, 4, 5] (lv' := [(5, .int (nI (v5_13_79706 + 1))), (4, .int (nI (min (fr + tk) n0))), (0, .ref r0), (1, .int (nI fr)), (2, .int hh), (3, .int (nI tk))]) rfl ?_
          exact ih13_79706 (v5_13_79706 + 1) (upd fr0_13_79706 v5_13_79706 0) (show PtR f (upd fr0_13_79706 v5_13_79706 0) fr (v5_13_79706 + 1) hh from PtR_n i13_79706_0 (by omega) (by first | exact (if_pos (by omega)).symm | exact (if_neg (by omega)).symm)) (show fr ≤ (v5_13_79706 + 1) by first | assumption | omega) (show (v5_13_79706 + 1) ≤ fr + tk by first | assumption | omega) (show (v5_13_79706 + 1) ≤ 100000 by first | assumption | omega) (show fr + tk - (v5_13_79706 + 1) < m13_79706 by omega)
        · have z797024n : v5_13_79706 = fr := (nI_eq (a := v5_13_79706) (b := fr) (by omega) (by omega)).mp z797024
          refine j_iload_n h 4 rfl rfl dX11_putStep_29 ?_
          refine j_goto h 34 dX11_putStep_30 (by decide) ?_
          refine jm_iast (w' := [(r0, .inl (.inl (kA 1, n0, .inl (upd fr0_13_79706 v5_13_79706 hh))))]) h 0 rfl v5_13_79706 rfl (by omega) (by omega) dX11_putStep_34 rfl ?_
          refine j_iinc (v := nI (v5_13_79706 + 1)) (lv' := [(5, .int (nI (v5_13_79706 + 1))), (4, .int (nI (min (fr + tk) n0))), (0, .ref r0), (1, .int (nI fr)), (2, .int hh), (3, .int (nI tk))]) h dX11_putStep_35 0 rfl (nI_add v5_13_79706 1) (by decide) rfl ?_
          refine j_goto h 13 dX11_putStep_38 (by decide) ?_
          refine jm_sub [0] (w' := [(r0, .inl (.inl (kA 1, n0, .inl (upd fr0_13_79706 v5_13_79706 hh))))]) rfl (by decide +kernel) [0, 1, 2, 3, 4, 5] (lv' := [(5, .int (nI (v5_13_79706 + 1))), (4, .int (nI (min (fr + tk) n0))), (0, .ref r0), (1, .int (nI fr)), (2, .int hh), (3, .int (nI tk))]) rfl ?_
          exact ih13_79706 (v5_13_79706 + 1) (upd fr0_13_79706 v5_13_79706 hh) (show PtR f (upd fr0_13_79706 v5_13_79706 hh) fr (v5_13_79706 + 1) hh from PtR_n i13_79706_0 (by omega) (by first | exact (if_pos (by omega)).symm | exact (if_neg (by omega)).symm)) (show fr ≤ (v5_13_79706 + 1) by first | assumption | omega) (show (v5_13_79706 + 1) ≤ fr + tk by first | assumption | omega) (show (v5_13_79706 + 1) ≤ 100000 by first | assumption | omega) (show fr + tk - (v5_13_79706 + 1) < m13_79706 by omega)
  refine jm_sub [0] (w' := [(r0, .inl (.inl (kA 1, n0, .inl f)))]) rfl (by decide +kernel) [0, 1, 2, 3, 4, 5] (lv' := [(5, .int (nI fr)), (4, .int (nI (min (fr + tk) n0))), (0, .ref r0), (1, .int (nI fr)), (2, .int hh), (3, .int (nI tk))]) rfl ?_
  exact lp13_79706 (fr + tk - fr + 1) fr f (show PtR f f fr fr hh from PtR_0 _ _ _) (show fr ≤ fr by first | assumption | omega) (show fr ≤ fr + tk by first | assumption | omega) (show fr ≤ 100000 by first | assumption | omega) (Nat.lt_succ_self _)
set_option maxHeartbeats 4000000 in
set_option maxRecDepth 100000 in
theorem s_X2_hearWalkF (lau : Launch) (gg : va_G) (kA : Nat → ClassId) (b : Nat) (s : Nat) (er : Nat) (o : Nat) (b0 : Nat) (b1 : Nat) (bsz : Nat) (btm : Nat) (bft : Nat) (bkp : Int32) (brow : Nat → Int32) (blo : Nat → Int32) (s0 : Nat) (s1 : Nat) (s2 : Nat) (s3 : Nat) (s4 : Nat) (s5 : Nat) (s6 : Nat) (s7 : Nat) (s8 : Nat) (s9 : Nat) (s10 : Nat) (s11 : Nat) (sn : Nat) (sl : Nat) (se : Nat) (sc1 : Nat → Int32) (sc2 : Nat → Int32) (sc3 : Nat → Int32) (sc5 : Nat → Int32) (sc6 : Nat → Nat → Int32) (sc7 : Nat → Int32) (sc8 : Nat → Nat → Int32) (sc10 : Nat → Int32) (sc11 : Nat → Int32) (of : Nat → Int32) (D : Nat → Nat → Nat) (xx : Nat → Nat) (EE : Nat → Nat) (hsn : sn ≤ 6) (hsl : sl ≤ 10) (hse : se ≤ 4) (hstk : TkOk sn sc1) (hssz : SzOk sl sc5) (hsrw : RwOk sl sn sc5 sc6) (hslt : LtOk sl sc7) (hsla : FtOk sl sc8) (hsls : LsOk sl sc5 sc6 sc1 sc7) (hbsz : bsz ≤ 60) (hbtm : btm ≤ 60) (hbft : bft ≤ 1) (hbro : RoOk sn bsz brow) (hSc : ScR D sn sl se sc1 sc2 sc3 sc5 sc6 sc7 sc8 sc10 sc11) (hD : DOk D) (her : er < se) (hw : WkC D bsz btm bft brow xx) (hlo : ∀ k, k < sn → blo k = nI (EE k) ∧ EE k ≤ 9) : CtV lau yX2_hearWalk cX2_hearWalk 7 (none) 3 0 0 gg kA [.ref b, .ref s, .int (nI er), .ref o] (mflat [(b, .inl (.inr (2, [.ref b0, .ref b1, .int (nI bsz), .int (nI btm), .int (nI bft), .int bkp]))), (b0, .inl (.inl (kA 1, 60, .inl brow))), (b1, .inl (.inl (kA 1, 6, .inl blo))), (s, .inl (.inr (5, [.ref s0, .ref s1, .ref s2, .ref s3, .ref s4, .ref s5, .ref s6, .ref s7, .ref s8, .ref s9, .ref s10, .ref s11, .int (nI sn), .int (nI sl), .int (nI se)]))), (s1, .inl (.inl (kA 1, 6, .inl sc1))), (s2, .inl (.inl (kA 1, 6, .inl sc2))), (s3, .inl (.inl (kA 1, 6, .inl sc3))), (s5, .inl (.inl (kA 1, 10, .inl sc5))), (s6, .inr (kA 6, kA 1, 10, 5, .inl sc6)), (s7, .inl (.inl (kA 1, 10, .inl sc7))), (s8, .inr (kA 6, kA 1, 10, 2, .inl sc8)), (s10, .inl (.inl (kA 1, 4, .inl sc10))), (s11, .inl (.inl (kA 1, 4, .inl sc11))), (o, .inl (.inl (kA 1, 60, .inl of)))]) (S := (Nat → Int32)) (fun (y_o : (Nat → Int32)) => ∀ m, m < btm → y_o m = nI (hrN EE (D 9 er) (bgn (D 4) xx bsz m))) (fun (y_o : (Nat → Int32)) => mflat [(b, .inl (.inr (2, [.ref b0, .ref b1, .int (nI bsz), .int (nI btm), .int (nI bft), .int bkp]))), (b0, .inl (.inl (kA 1, 60, .inl brow))), (b1, .inl (.inl (kA 1, 6, .inl blo))), (s, .inl (.inr (5, [.ref s0, .ref s1, .ref s2, .ref s3, .ref s4, .ref s5, .ref s6, .ref s7, .ref s8, .ref s9, .ref s10, .ref s11, .int (nI sn), .int (nI sl), .int (nI se)]))), (s1, .inl (.inl (kA 1, 6, .inl sc1))), (s2, .inl (.inl (kA 1, 6, .inl sc2))), (s3, .inl (.inl (kA 1, 6, .inl sc3))), (s5, .inl (.inl (kA 1, 10, .inl sc5))), (s6, .inr (kA 6, kA 1, 10, 5, .inl sc6)), (s7, .inl (.inl (kA 1, 10, .inl sc7))), (s8, .inr (kA 6, kA 1, 10, 2, .inl sc8)), (s10, .inl (.inl (kA 1, 4, .inl sc10))), (s11, .inl (.inl (kA 1, 4, .inl sc11))), (o, .inl (.inl (kA 1, 60, .inl y_o)))]) := by
  refine nx_startV (by decide +kernel) (Nat.le_of_ble_eq_true rfl) ?_
  intro x hnm h hq
  have h : Ok x cX2_hearWalk RX2 kA (rmC 3 0 0) 7 := h
  show J x (mflat [(b, .inl (.inr (2, [.ref b0, .ref b1, .int (nI bsz), .int (nI btm), .int (nI bft), .int bkp]))), (b0, .inl (.inl (kA 1, 60, .inl brow))), (b1, .inl (.inl (kA 1, 6, .inl blo))), (s, .inl (.inr (5, [.ref s0, .ref s1, .ref s2, .ref s3, .ref s4, .ref s5, .ref s6, .ref s7, .ref s8, .ref s9, .ref s10, .ref s11, .int (nI sn), .int (nI sl), .int (nI se)]))), (s1, .inl (.inl (kA 1, 6, .inl sc1))), (s2, .inl (.inl (kA 1, 6, .inl sc2))), (s3, .inl (.inl (kA 1, 6, .inl sc3))), (s5, .inl (.inl (kA 1, 10, .inl sc5))), (s6, .inr (kA 6, kA 1, 10, 5, .inl sc6)), (s7, .inl (.inl (kA 1, 10, .inl sc7))), (s8, .inr (kA 6, kA 1, 10, 2, .inl sc8)), (s10, .inl (.inl (kA 1, 4, .inl sc10))), (s11, .inl (.inl (kA 1, 4, .inl sc11))), (o, .inl (.inl (kA 1, 60, .inl of)))]) [(0, .ref b), (1, .ref s), (2, .int (nI er)), (3, .ref o)] 0 0 0 []
  refine j_iconst (v := 0) h (by decide) dX2_hearWalk_0 ?_
  refine j_istore (lv' := [(4, .int 0), (0, .ref b), (1, .ref s), (2, .int (nI er)), (3, .ref o)]) h dX2_hearWalk_1 (by decide) rfl ?_
  refine j_iconst (v := 0) h (by decide) dX2_hearWalk_3 ?_
  refine j_istore (lv' := [(5, .int 0), (4, .int 0), (0, .ref b), (1, .ref s), (2, .int (nI er)), (3, .ref o)]) h dX2_hearWalk_4 (by decide) rfl ?_
  have lp6_79712 : ∀ (m6_79712 : Nat), ∀ (v5_6_79712 : Nat) (v4_6_79712 : Nat) (fo_6_79712 : Nat → Int32), (v4_6_79712 = tkS (D 4) xx v5_6_79712) → (∀ m, m < v4_6_79712 → fo_6_79712 m = nI (hrN EE (D 9 er) (bgn (D 4) xx v5_6_79712 m))) → (v5_6_79712 ≤ bsz) → (v4_6_79712 ≤ 60) → (v5_6_79712 ≤ 100000) → (v4_6_79712 ≤ 100000) → bsz - v5_6_79712 < m6_79712 → J x (mflat [(b, .inl (.inr (2, [.ref b0, .ref b1, .int (nI bsz), .int (nI btm), .int (nI bft), .int bkp]))), (b0, .inl (.inl (kA 1, 60, .inl brow))), (b1, .inl (.inl (kA 1, 6, .inl blo))), (s, .inl (.inr (5, [.ref s0, .ref s1, .ref s2, .ref s3, .ref s4, .ref s5, .ref s6, .ref s7, .ref s8, .ref s9, .ref s10, .ref s11, .int (nI sn), .int (nI sl), .int (nI se)]))), (s1, .inl (.inl (kA 1, 6, .inl sc1))), (s2, .inl (.inl (kA 1, 6, .inl sc2))), (s3, .inl (.inl (kA 1, 6, .inl sc3))), (s5, .inl (.inl (kA 1, 10, .inl sc5))), (s6, .inr (kA 6, kA 1, 10, 5, .inl sc6)), (s7, .inl (.inl (kA 1, 10, .inl sc7))), (s8, .inr (kA 6, kA 1, 10, 2, .inl sc8)), (s10, .inl (.inl (kA 1, 4, .inl sc10))), (s11, .inl (.inl (kA 1, 4, .inl sc11))), (o, .inl (.inl (kA 1, 60, .inl fo_6_79712)))]) [(5, .int (nI v5_6_79712)), (4, .int (nI v4_6_79712)), (0, .ref b), (1, .ref s), (2, .int (nI er)), (3, .ref o)] 0 0 6 [] := by
    intro m6_79712
    induction m6_79712 with
    | zero =>
      intro v5_6_79712 v4_6_79712 fo_6_79712 i6_79712_0 i6_79712_1 i6_79712_2 i6_79712_3 i6_79712_4 i6_79712_5 hm6_79712
      exact absurd hm6_79712 (Nat.not_lt_zero _)
    | succ m6_79712 ih6_79712 =>
      intro v5_6_79712 v4_6_79712 fo_6_79712 i6_79712_0 i6_79712_1 i6_79712_2 i6_79712_3 i6_79712_4 i6_79712_5 hm6_79712
      refine j_iload h 0 rfl dX2_hearWalk_6 ?_
      refine j_aload_n h 2 rfl rfl dX2_hearWalk_8 ?_
      refine jm_get h iw_X2 0 rfl rfl 2 (by decide +kernel) tw_274 rfl dX2_hearWalk_9 ?_
      refine j_icmp_ge h 57 dX2_hearWalk_12 (by decide) (fun z797120 => ?_) (fun z797120 => ?_)
      · have z797120n : bsz ≤ v5_6_79712 := (nI_leI (a := bsz) (b := v5_6_79712) (by omega) (by omega)).mp z797120
        exact jm_vret h hq dX2_hearWalk_57 fo_6_79712 [0, 1, 2, 3, 4, 5, 6, 7, 8, 9, 10, 11, 12, 13] rfl (by decide) (show ∀ m, m < btm → fo_6_79712 m = nI (hrN EE (D 9 er) (bgn (D 4) xx bsz m)) from (fun m h9 => by rw [show bsz = v5_6_79712 by omega]; exact i6_79712_1 m (by rw [i6_79712_0, ← show bsz = v5_6_79712 by omega, ← hw.2.1]; exact h9))) (Nat.le_of_ble_eq_true rfl) (Nat.le_of_ble_eq_true rfl)
      · have z797120n : ¬ bsz ≤ v5_6_79712 := fun q9 => z797120 ((nI_leI (a := bsz) (b := v5_6_79712) (by omega) (by omega)).mpr q9)
        refine j_aload_n h 2 rfl rfl dX2_hearWalk_15 ?_
        refine jm_get h iw_X2 0 rfl rfl 0 (by decide +kernel) tw_271 rfl dX2_hearWalk_16 ?_
        refine j_iload h 0 rfl dX2_hearWalk_19 ?_
        refine jm_iald h 1 rfl v5_6_79712 rfl (by omega) (by omega) dX2_hearWalk_21 ?_
        have u797121 : xx v5_6_79712 < sn := by rw [hSc.1]; exact (hw.1 v5_6_79712 (by omega)).2
        refine j_top (b := nI (xx v5_6_79712)) ((hw.1 v5_6_79712 (by omega)).1) ?_
        refine j_istore (lv' := [(6, .int (nI (xx v5_6_79712))), (5, .int (nI v5_6_79712)), (4, .int (nI v4_6_79712)), (0, .ref b), (1, .ref s), (2, .int (nI er)), (3, .ref o)]) h dX2_hearWalk_22 (by decide) rfl ?_
        refine j_aload_n h 6 rfl rfl dX2_hearWalk_24 ?_
        refine j_iload h 2 rfl dX2_hearWalk_25 ?_
        refine j_aload_n h 4 rfl rfl dX2_hearWalk_27 ?_
        refine j_aload_n h 3 rfl rfl dX2_hearWalk_28 ?_
        refine jm_get h iw_X2 0 rfl rfl 1 (by decide +kernel) tw_272 rfl dX2_hearWalk_29 ?_
        refine j_iload h 0 rfl dX2_hearWalk_32 ?_
        refine jm_iald h 2 rfl (xx v5_6_79712) rfl (by omega) (by omega) dX2_hearWalk_34 ?_
        have u797122 := (hlo (xx v5_6_79712) (by omega)).2
        refine j_top (b := nI (EE (xx v5_6_79712))) ((hlo (xx v5_6_79712) (by omega)).1) ?_
        refine j_iload_n h 5 rfl rfl dX2_hearWalk_35 ?_
        refine jm_callVi (np := 2) (isC := [3, 11]) (isR := [0, 1, 2, 4, 5, 6, 7, 8, 9, 10, 12, 13]) (wc := [(s, .inl (.inr (5, [.ref s0, .ref s1, .ref s2, .ref s3, .ref s4, .ref s5, .ref s6, .ref s7, .ref s8, .ref s9, .ref s10, .ref s11, .int (nI sn), .int (nI sl), .int (nI se)]))), (s10, .inl (.inl (kA 1, 4, .inl sc10)))]) (wr := [(b, .inl (.inr (2, [.ref b0, .ref b1, .int (nI bsz), .int (nI btm), .int (nI bft), .int bkp]))), (b0, .inl (.inl (kA 1, 60, .inl brow))), (b1, .inl (.inl (kA 1, 6, .inl blo))), (s1, .inl (.inl (kA 1, 6, .inl sc1))), (s2, .inl (.inl (kA 1, 6, .inl sc2))), (s3, .inl (.inl (kA 1, 6, .inl sc3))), (s5, .inl (.inl (kA 1, 10, .inl sc5))), (s6, .inr (kA 6, kA 1, 10, 5, .inl sc6)), (s7, .inl (.inl (kA 1, 10, .inl sc7))), (s8, .inr (kA 6, kA 1, 10, 2, .inl sc8)), (s11, .inl (.inl (kA 1, 4, .inl sc11))), (o, .inl (.inl (kA 1, 60, .inl fo_6_79712)))]) (rest := [.int (nI v4_6_79712), .ref o]) (As := [.int (nI (EE (xx v5_6_79712))), .int (nI er)]) (q0 := 0) h (s_X5_heardBelowF _ _ kA s (EE (xx v5_6_79712)) er s0 s1 s2 s3 s4 s5 s6 s7 s8 s9 s10 s11 sn sl se sc10 (D 9 er) (show se ≤ 4 by first | assumption | omega) (show er < se by first | assumption | omega) (show (EE (xx v5_6_79712)) ≤ 9 by first | assumption | omega) (show sc10 er = nI (D 9 er) from (hSc.2.2.2.2.2 er her).1) (show (D 9 er) ≤ 9 from hD.2.2.2.2.2.1 er (by rw [← hSc.2.2.1]; exact her))) tw_797 tw_798 tw_799 tw_90 tw_800 (by decide +kernel) rfl ⟨Nat.le_of_ble_eq_true rfl, Nat.le_of_ble_eq_true rfl⟩ rfl rfl (by decide +kernel) rfl rfl (by decide +kernel) (by decide +kernel) (Nat.le_of_ble_eq_true rfl) rfl ⟨Nat.le_of_ble_eq_true rfl, Nat.le_of_ble_eq_true rfl⟩ dX2_hearWalk_36 ?_
        rintro r797125 q797123 e797124
        obtain ⟨p797126, p797127⟩ := e797124
        subst p797126
        replace p797127 : q797123 = (EE (xx v5_6_79712)) - (D 9 er) := p797127
        show J x (mflat [(b, .inl (.inr (2, [.ref b0, .ref b1, .int (nI bsz), .int (nI btm), .int (nI bft), .int bkp]))), (b0, .inl (.inl (kA 1, 60, .inl brow))), (b1, .inl (.inl (kA 1, 6, .inl blo))), (s1, .inl (.inl (kA 1, 6, .inl sc1))), (s2, .inl (.inl (kA 1, 6, .inl sc2))), (s3, .inl (.inl (kA 1, 6, .inl sc3))), (s5, .inl (.inl (kA 1, 10, .inl sc5))), (s6, .inr (kA 6, kA 1, 10, 5, .inl sc6)), (s7, .inl (.inl (kA 1, 10, .inl sc7))), (s8, .inr (kA 6, kA 1, 10, 2, .inl sc8)), (s11, .inl (.inl (kA 1, 4, .inl sc11))), (o, .inl (.inl (kA 1, 60, .inl fo_6_79712))), (s, .inl (.inr (5, [.ref s0, .ref s1, .ref s2, .ref s3, .ref s4, .ref s5, .ref s6, .ref s7, .ref s8, .ref s9, .ref s10, .ref s11, .int (nI sn), .int (nI sl), .int (nI se)]))), (s10, .inl (.inl (kA 1, 4, .inl sc10)))]) [(6, .int (nI (xx v5_6_79712))), (5, .int (nI v5_6_79712)), (4, .int (nI v4_6_79712)), (0, .ref b), (1, .ref s), (2, .int (nI er)), (3, .ref o)] 0 0 39 [.int (nI q797123), .int (nI v4_6_79712), .ref o]
        refine j_aload_n h 4 rfl rfl dX2_hearWalk_39 ?_
        refine jm_get h iw_X5 12 rfl rfl 1 (by decide +kernel) tw_180 rfl dX2_hearWalk_40 ?_
        refine j_iload h 0 rfl dX2_hearWalk_43 ?_
        refine jm_iald h 3 rfl (xx v5_6_79712) rfl (by omega) (by omega) dX2_hearWalk_45 ?_
        obtain ⟨u797128, u797129, u797130⟩ := ScD_1 hSc hD (show (xx v5_6_79712) < sn by omega)
        refine j_top (b := nI (D 4 (xx v5_6_79712))) (u797128) ?_
        have u797131 := tkS_mo (t := D 4) (x := xx) (show v5_6_79712 + 1 ≤ bsz by omega)
        have u797131b : tkS (D 4) xx (v5_6_79712 + 1) = tkS (D 4) xx v5_6_79712 + D 4 (xx v5_6_79712) := rfl
        have u797131c := hw.2.1
        have u797131d := hw.2.2.2
        refine jm_callSNi (np := 4) (isC := [11]) (isR := [0, 1, 2, 3, 4, 5, 6, 7, 8, 9, 10, 12, 13]) (wc := [(o, .inl (.inl (kA 1, 60, .inl fo_6_79712)))]) (wr := [(b, .inl (.inr (2, [.ref b0, .ref b1, .int (nI bsz), .int (nI btm), .int (nI bft), .int bkp]))), (b0, .inl (.inl (kA 1, 60, .inl brow))), (b1, .inl (.inl (kA 1, 6, .inl blo))), (s1, .inl (.inl (kA 1, 6, .inl sc1))), (s2, .inl (.inl (kA 1, 6, .inl sc2))), (s3, .inl (.inl (kA 1, 6, .inl sc3))), (s5, .inl (.inl (kA 1, 10, .inl sc5))), (s6, .inr (kA 6, kA 1, 10, 5, .inl sc6)), (s7, .inl (.inl (kA 1, 10, .inl sc7))), (s8, .inr (kA 6, kA 1, 10, 2, .inl sc8)), (s11, .inl (.inl (kA 1, 4, .inl sc11))), (s, .inl (.inr (5, [.ref s0, .ref s1, .ref s2, .ref s3, .ref s4, .ref s5, .ref s6, .ref s7, .ref s8, .ref s9, .ref s10, .ref s11, .int (nI sn), .int (nI sl), .int (nI se)]))), (s10, .inl (.inl (kA 1, 4, .inl sc10)))]) (rest := []) (As := [.ref o, .int (nI v4_6_79712), .int (nI q797123), .int (nI (D 4 (xx v5_6_79712)))]) h (s_X11_putStepF _ _ kA o v4_6_79712 (nI q797123) (D 4 (xx v5_6_79712)) 60 fo_6_79712 (show 60 ≤ 60 by first | assumption | omega) (show v4_6_79712 + (D 4 (xx v5_6_79712)) ≤ 60 by first | assumption | omega)) (by decide +kernel) tw_806 tw_87 tw_807 (by decide +kernel) rfl ⟨Nat.le_of_ble_eq_true rfl, Nat.le_of_ble_eq_true rfl⟩ (by decide +kernel) rfl rfl (by decide +kernel) (by decide +kernel) (Nat.le_of_ble_eq_true rfl) rfl ⟨Nat.le_of_ble_eq_true rfl, Nat.le_of_ble_eq_true rfl⟩ dX2_hearWalk_46 ?_
        rintro r797135 ⟨q797132, q797133⟩ e797134
        obtain ⟨p797136, p797137, p797138⟩ := e797134
        subst p797136
        replace p797137 : q797132 = v4_6_79712 + (D 4 (xx v5_6_79712)) := p797137
        replace p797138 : PtR fo_6_79712 q797133 v4_6_79712 (v4_6_79712 + (D 4 (xx v5_6_79712))) (nI q797123) := p797138
        show J x (mflat [(b, .inl (.inr (2, [.ref b0, .ref b1, .int (nI bsz), .int (nI btm), .int (nI bft), .int bkp]))), (b0, .inl (.inl (kA 1, 60, .inl brow))), (b1, .inl (.inl (kA 1, 6, .inl blo))), (s1, .inl (.inl (kA 1, 6, .inl sc1))), (s2, .inl (.inl (kA 1, 6, .inl sc2))), (s3, .inl (.inl (kA 1, 6, .inl sc3))), (s5, .inl (.inl (kA 1, 10, .inl sc5))), (s6, .inr (kA 6, kA 1, 10, 5, .inl sc6)), (s7, .inl (.inl (kA 1, 10, .inl sc7))), (s8, .inr (kA 6, kA 1, 10, 2, .inl sc8)), (s11, .inl (.inl (kA 1, 4, .inl sc11))), (s, .inl (.inr (5, [.ref s0, .ref s1, .ref s2, .ref s3, .ref s4, .ref s5, .ref s6, .ref s7, .ref s8, .ref s9, .ref s10, .ref s11, .int (nI sn), .int (nI sl), .int (nI se)]))), (s10, .inl (.inl (kA 1, 4, .inl sc10))), (o, .inl (.inl (kA 1, 60, .inl q797133)))]) [(6, .int (nI (xx v5_6_79712))), (5, .int (nI v5_6_79712)), (4, .int (nI v4_6_79712)), (0, .ref b), (1, .ref s), (2, .int (nI er)), (3, .ref o)] 0 0 49 [.int (nI q797132)]
        refine j_istore (lv' := [(4, .int (nI q797132)), (6, .int (nI (xx v5_6_79712))), (5, .int (nI v5_6_79712)), (0, .ref b), (1, .ref s), (2, .int (nI er)), (3, .ref o)]) h dX2_hearWalk_49 (by decide) rfl ?_
        refine j_iinc (v := nI (v5_6_79712 + 1)) (lv' := [(5, .int (nI (v5_6_79712 + 1))), (4, .int (nI q797132)), (6, .int (nI (xx v5_6_79712))), (0, .ref b), (1, .ref s), (2, .int (nI er)), (3, .ref o)]) h dX2_hearWalk_51 2 rfl (nI_add v5_6_79712 1) (by decide) rfl ?_
        refine j_goto h 6 dX2_hearWalk_54 (by decide) ?_
        refine jm_sub [0, 1, 2, 11, 3, 4, 5, 6, 7, 8, 9, 12, 10, 13] (w' := [(b, .inl (.inr (2, [.ref b0, .ref b1, .int (nI bsz), .int (nI btm), .int (nI bft), .int bkp]))), (b0, .inl (.inl (kA 1, 60, .inl brow))), (b1, .inl (.inl (kA 1, 6, .inl blo))), (s, .inl (.inr (5, [.ref s0, .ref s1, .ref s2, .ref s3, .ref s4, .ref s5, .ref s6, .ref s7, .ref s8, .ref s9, .ref s10, .ref s11, .int (nI sn), .int (nI sl), .int (nI se)]))), (s1, .inl (.inl (kA 1, 6, .inl sc1))), (s2, .inl (.inl (kA 1, 6, .inl sc2))), (s3, .inl (.inl (kA 1, 6, .inl sc3))), (s5, .inl (.inl (kA 1, 10, .inl sc5))), (s6, .inr (kA 6, kA 1, 10, 5, .inl sc6)), (s7, .inl (.inl (kA 1, 10, .inl sc7))), (s8, .inr (kA 6, kA 1, 10, 2, .inl sc8)), (s10, .inl (.inl (kA 1, 4, .inl sc10))), (s11, .inl (.inl (kA 1, 4, .inl sc11))), (o, .inl (.inl (kA 1, 60, .inl q797133)))]) rfl (by decide +kernel) [0, 1, 3, 4, 5, 6] (lv' := [(5, .int (nI (v5_6_79712 + 1))), (4, .int (nI q797132)), (0, .ref b), (1, .ref s), (2, .int (nI er)), (3, .ref o)]) rfl ?_
        exact ih6_79712 (v5_6_79712 + 1) q797132 q797133 (show q797132 = tkS (D 4) xx (v5_6_79712 + 1) from p797137.trans (by rw [i6_79712_0]; rfl)) (show ∀ m, m < q797132 → q797133 m = nI (hrN EE (D 9 er) (bgn (D 4) xx (v5_6_79712 + 1) m)) from (by have q9 := Hw_n (E := EE) (fl := D 9 er) (t := D 4) (x := xx) (i := v5_6_79712) (fun m h9 => i6_79712_1 m (by rw [i6_79712_0]; exact h9)) (i6_79712_0 ▸ p797138) (congrArg nI p797127) (fun k9 h9 => (hD.2.2.2.1 _ (hw.1 k9 (by omega)).2).1); exact fun m h9 => q9 m (by rw [p797137, i6_79712_0] at h9; exact h9))) (show (v5_6_79712 + 1) ≤ bsz by first | assumption | omega) (show q797132 ≤ 60 by first | assumption | omega) (show (v5_6_79712 + 1) ≤ 100000 by first | assumption | omega) (show q797132 ≤ 100000 by first | assumption | omega) (show bsz - (v5_6_79712 + 1) < m6_79712 by omega)
  refine jm_sub [0, 1, 2, 3, 4, 5, 6, 7, 8, 9, 10, 11, 12, 13] (w' := [(b, .inl (.inr (2, [.ref b0, .ref b1, .int (nI bsz), .int (nI btm), .int (nI bft), .int bkp]))), (b0, .inl (.inl (kA 1, 60, .inl brow))), (b1, .inl (.inl (kA 1, 6, .inl blo))), (s, .inl (.inr (5, [.ref s0, .ref s1, .ref s2, .ref s3, .ref s4, .ref s5, .ref s6, .ref s7, .ref s8, .ref s9, .ref s10, .ref s11, .int (nI sn), .int (nI sl), .int (nI se)]))), (s1, .inl (.inl (kA 1, 6, .inl sc1))), (s2, .inl (.inl (kA 1, 6, .inl sc2))), (s3, .inl (.inl (kA 1, 6, .inl sc3))), (s5, .inl (.inl (kA 1, 10, .inl sc5))), (s6, .inr (kA 6, kA 1, 10, 5, .inl sc6)), (s7, .inl (.inl (kA 1, 10, .inl sc7))), (s8, .inr (kA 6, kA 1, 10, 2, .inl sc8)), (s10, .inl (.inl (kA 1, 4, .inl sc10))), (s11, .inl (.inl (kA 1, 4, .inl sc11))), (o, .inl (.inl (kA 1, 60, .inl of)))]) rfl (by decide +kernel) [0, 1, 2, 3, 4, 5] (lv' := [(5, .int 0), (4, .int 0), (0, .ref b), (1, .ref s), (2, .int (nI er)), (3, .ref o)]) rfl ?_
  exact lp6_79712 (bsz - 0 + 1) 0 0 of (show 0 = tkS (D 4) xx 0 from rfl) (show ∀ m, m < 0 → of m = nI (hrN EE (D 9 er) (bgn (D 4) xx 0 m)) from (fun m h9 => absurd h9 (Nat.not_lt_zero m))) (show 0 ≤ bsz by first | assumption | omega) (show 0 ≤ 60 by first | assumption | omega) (show 0 ≤ 100000 by first | assumption | omega) (show 0 ≤ 100000 by first | assumption | omega) (Nat.lt_succ_self _)
set_option maxHeartbeats 4000000 in
set_option maxRecDepth 100000 in
theorem s_X12_hearsK (lau : Launch) (gg : va_G) (kA : Nat → ClassId) (m : Nat) (e : Nat) (s : Nat) (m0 : Nat) (mtp : Nat) (mfa : Nat) (mfp : Int32) (mat : Nat) (msz : Nat) (mso : Nat) (mpl : Int32) (mnu : Int32) (mwd : Int64) (m10 : Nat) (m11 : Nat) (m12 : Nat) (m13 : Nat) (m14 : Nat) (m15 : Nat) (m16 : Nat) (m17 : Nat) (m18 : Nat) (m19 : Nat) (m20 : Nat) (m21 : Nat) (m22 : Nat) (m23 : Nat) (m24 : Nat) (mns : Nat) (mnl : Nat) (mne : Nat) (mst : Nat) (mlt : Nat) (mer : Nat) (m31 : Nat) (m32 : Nat) (m33 : Nat) (m34 : Nat) (m35 : Nat) (mwm : Nat) (mwt : Nat) (mwf : Nat) (m39 : Nat) (m40 : Nat) (m41 : Nat) (mla : Nat) (m43 : Nat) (m44 : Nat) (m45 : Nat) (m46 : Nat) (m47 : Nat) (m48 : Nat) (mtm : Nat) (m50 : Nat) (m51 : Nat) (m52 : Nat) (m53 : Nat) (m54 : Nat) (m55 : Nat) (m56 : Nat) (m57 : Nat) (m58 : Nat) (m59 : Nat) (m60 : Nat) (m61 : Nat) (msn : Nat) (mti : Nat) (m64 : Nat) (m65 : Nat) (m66 : Nat) (m67 : Nat) (m68 : Nat) (m69 : Nat) (mc19 : Nat → Int32) (mc23 : Nat → Int32) (fl : Nat) (EE : Nat → Nat) (he : e < 4) (hs : s ≤ 6) (hfl : mc23 e = nI fl) (hfl9 : fl ≤ 9) (hlo : ∀ k, k < s → mc19 k = nI (EE k) ∧ EE k ≤ 9) : CtI lau yX12_hears cX12_hears 4 (some .int) 1 0 0 gg kA [.ref m, .int (nI e), .int (pm s)] (mflat [(m, .inl (.inr (12, (.ref m0 :: .int (nI mtp) :: .int (nI mfa) :: .int mfp :: .int (nI mat) :: .int (nI msz) :: .int (nI mso) :: .int mpl :: .int mnu :: .long mwd :: .ref m10 :: .ref m11 :: .ref m12 :: .ref m13 :: .ref m14 :: .ref m15 :: .ref m16 :: .ref m17 :: .ref m18 :: .ref m19 :: .ref m20 :: .ref m21 :: .ref m22 :: .ref m23 :: .ref m24 :: .int (nI mns) :: .int (nI mnl) :: .int (nI mne) :: .int (nI mst) :: .int (nI mlt) :: .int (nI mer) :: .ref m31 :: .ref m32 :: .ref m33 :: .ref m34 :: .ref m35 :: .int (nI mwm) :: .int (nI mwt) :: .int (nI mwf) :: .ref m39 :: .ref m40 :: .ref m41 :: .int (nI mla) :: .ref m43 :: .ref m44 :: .ref m45 :: .ref m46 :: .ref m47 :: .ref m48 :: .int (nI mtm) :: .ref m50 :: .ref m51 :: .ref m52 :: .ref m53 :: .ref m54 :: .ref m55 :: .ref m56 :: .ref m57 :: .ref m58 :: .ref m59 :: .ref m60 :: .ref m61 :: .int (nI msn) :: .int (nI mti) :: .ref m64 :: .ref m65 :: .ref m66 :: .ref m67 :: .ref m68 :: .ref m69 :: [])))), (m19, .inl (.inl (kA 1, 6, .inl mc19))), (m23, .inl (.inl (kA 1, 4, .inl mc23)))]) (S := Nat) (fun (r : Int32) (y_r : Nat) => r = nI y_r ∧ (y_r ≤ 9) ∧ (y_r = hrN EE fl s)) (fun (y_r : Nat) => mflat [(m, .inl (.inr (12, (.ref m0 :: .int (nI mtp) :: .int (nI mfa) :: .int mfp :: .int (nI mat) :: .int (nI msz) :: .int (nI mso) :: .int mpl :: .int mnu :: .long mwd :: .ref m10 :: .ref m11 :: .ref m12 :: .ref m13 :: .ref m14 :: .ref m15 :: .ref m16 :: .ref m17 :: .ref m18 :: .ref m19 :: .ref m20 :: .ref m21 :: .ref m22 :: .ref m23 :: .ref m24 :: .int (nI mns) :: .int (nI mnl) :: .int (nI mne) :: .int (nI mst) :: .int (nI mlt) :: .int (nI mer) :: .ref m31 :: .ref m32 :: .ref m33 :: .ref m34 :: .ref m35 :: .int (nI mwm) :: .int (nI mwt) :: .int (nI mwf) :: .ref m39 :: .ref m40 :: .ref m41 :: .int (nI mla) :: .ref m43 :: .ref m44 :: .ref m45 :: .ref m46 :: .ref m47 :: .ref m48 :: .int (nI mtm) :: .ref m50 :: .ref m51 :: .ref m52 :: .ref m53 :: .ref m54 :: .ref m55 :: .ref m56 :: .ref m57 :: .ref m58 :: .ref m59 :: .ref m60 :: .ref m61 :: .int (nI msn) :: .int (nI mti) :: .ref m64 :: .ref m65 :: .ref m66 :: .ref m67 :: .ref m68 :: .ref m69 :: [])))), (m19, .inl (.inl (kA 1, 6, .inl mc19))), (m23, .inl (.inl (kA 1, 4, .inl mc23)))]) := by
  refine nx_startI (by decide +kernel) (Nat.le_of_ble_eq_true rfl) ?_
  intro x hnm h hq
  have h : Ok x cX12_hears RX12 kA (rmC 1 0 0) 4 := h
  show J x (mflat [(m, .inl (.inr (12, (.ref m0 :: .int (nI mtp) :: .int (nI mfa) :: .int mfp :: .int (nI mat) :: .int (nI msz) :: .int (nI mso) :: .int mpl :: .int mnu :: .long mwd :: .ref m10 :: .ref m11 :: .ref m12 :: .ref m13 :: .ref m14 :: .ref m15 :: .ref m16 :: .ref m17 :: .ref m18 :: .ref m19 :: .ref m20 :: .ref m21 :: .ref m22 :: .ref m23 :: .ref m24 :: .int (nI mns) :: .int (nI mnl) :: .int (nI mne) :: .int (nI mst) :: .int (nI mlt) :: .int (nI mer) :: .ref m31 :: .ref m32 :: .ref m33 :: .ref m34 :: .ref m35 :: .int (nI mwm) :: .int (nI mwt) :: .int (nI mwf) :: .ref m39 :: .ref m40 :: .ref m41 :: .int (nI mla) :: .ref m43 :: .ref m44 :: .ref m45 :: .ref m46 :: .ref m47 :: .ref m48 :: .int (nI mtm) :: .ref m50 :: .ref m51 :: .ref m52 :: .ref m53 :: .ref m54 :: .ref m55 :: .ref m56 :: .ref m57 :: .ref m58 :: .ref m59 :: .ref m60 :: .ref m61 :: .int (nI msn) :: .int (nI mti) :: .ref m64 :: .ref m65 :: .ref m66 :: .ref m67 :: .ref m68 :: .ref m69 :: [])))), (m19, .inl (.inl (kA 1, 6, .inl mc19))), (m23, .inl (.inl (kA 1, 4, .inl mc23)))]) [(0, .ref m), (1, .int (nI e)), (2, .int (pm s))] 0 0 0 []
  refine j_iload_n h 2 rfl rfl dX12_hears_0 ?_
  rcases s with _ | j797164
  · show J x (mflat [(m, .inl (.inr (12, (.ref m0 :: .int (nI mtp) :: .int (nI mfa) :: .int mfp :: .int (nI mat) :: .int (nI msz) :: .int (nI mso) :: .int mpl :: .int mnu :: .long mwd :: .ref m10 :: .ref m11 :: .ref m12 :: .ref m13 :: .ref m14 :: .ref m15 :: .ref m16 :: .ref m17 :: .ref m18 :: .ref m19 :: .ref m20 :: .ref m21 :: .ref m22 :: .ref m23 :: .ref m24 :: .int (nI mns) :: .int (nI mnl) :: .int (nI mne) :: .int (nI mst) :: .int (nI mlt) :: .int (nI mer) :: .ref m31 :: .ref m32 :: .ref m33 :: .ref m34 :: .ref m35 :: .int (nI mwm) :: .int (nI mwt) :: .int (nI mwf) :: .ref m39 :: .ref m40 :: .ref m41 :: .int (nI mla) :: .ref m43 :: .ref m44 :: .ref m45 :: .ref m46 :: .ref m47 :: .ref m48 :: .int (nI mtm) :: .ref m50 :: .ref m51 :: .ref m52 :: .ref m53 :: .ref m54 :: .ref m55 :: .ref m56 :: .ref m57 :: .ref m58 :: .ref m59 :: .ref m60 :: .ref m61 :: .int (nI msn) :: .int (nI mti) :: .ref m64 :: .ref m65 :: .ref m66 :: .ref m67 :: .ref m68 :: .ref m69 :: [])))), (m19, .inl (.inl (kA 1, 6, .inl mc19))), (m23, .inl (.inl (kA 1, 4, .inl mc23)))]) [(0, .ref m), (1, .int (nI e)), (2, .int (-1))] 0 0 1 [.int (-1)]
    refine j_if_ge h 8 dX12_hears_1 (by decide) (fun q => absurd q (by decide)) (fun _ => ?_)
    refine j_iconst (v := 0) h (by decide) dX12_hears_4 ?_
    refine j_goto h 21 dX12_hears_5 (by decide) ?_
    refine j_istore_n (lv' := [(3, .int 0), (0, .ref m), (1, .int (nI e)), (2, .int (-1))]) h dX12_hears_21 rfl (by decide) rfl ?_
    refine j_iload_n h 0 rfl rfl dX12_hears_22 ?_
    refine j_if_ge h 30 dX12_hears_23 (by decide) (fun _ => ?_) (fun q => absurd (by decide) q)
    refine j_iload_n h 0 rfl rfl dX12_hears_30 ?_
    exact jm_iret h hq dX12_hears_31 0 [0, 1, 2] rfl (by decide) ⟨rfl, (show 0 ≤ 9 by first | assumption | omega), (show 0 = hrN EE fl 0 from (by first | exact hrN_0.symm | (rw [hrN_s]; omega) | (rw [hrN_s])))⟩ (Nat.le_of_ble_eq_true rfl) (Nat.le_of_ble_eq_true rfl)
  · show J x (mflat [(m, .inl (.inr (12, (.ref m0 :: .int (nI mtp) :: .int (nI mfa) :: .int mfp :: .int (nI mat) :: .int (nI msz) :: .int (nI mso) :: .int mpl :: .int mnu :: .long mwd :: .ref m10 :: .ref m11 :: .ref m12 :: .ref m13 :: .ref m14 :: .ref m15 :: .ref m16 :: .ref m17 :: .ref m18 :: .ref m19 :: .ref m20 :: .ref m21 :: .ref m22 :: .ref m23 :: .ref m24 :: .int (nI mns) :: .int (nI mnl) :: .int (nI mne) :: .int (nI mst) :: .int (nI mlt) :: .int (nI mer) :: .ref m31 :: .ref m32 :: .ref m33 :: .ref m34 :: .ref m35 :: .int (nI mwm) :: .int (nI mwt) :: .int (nI mwf) :: .ref m39 :: .ref m40 :: .ref m41 :: .int (nI mla) :: .ref m43 :: .ref m44 :: .ref m45 :: .ref m46 :: .ref m47 :: .ref m48 :: .int (nI mtm) :: .ref m50 :: .ref m51 :: .ref m52 :: .ref m53 :: .ref m54 :: .ref m55 :: .ref m56 :: .ref m57 :: .ref m58 :: .ref m59 :: .ref m60 :: .ref m61 :: .int (nI msn) :: .int (nI mti) :: .ref m64 :: .ref m65 :: .ref m66 :: .ref m67 :: .ref m68 :: .ref m69 :: [])))), (m19, .inl (.inl (kA 1, 6, .inl mc19))), (m23, .inl (.inl (kA 1, 4, .inl mc23)))]) [(0, .ref m), (1, .int (nI e)), (2, .int (nI j797164))] 0 0 1 [.int (nI j797164)]
    refine j_if_ge h 8 dX12_hears_1 (by decide) (fun _ => ?_) (fun q => absurd (nI_pos' (by omega)) q)
    refine j_aload_n h 0 rfl rfl dX12_hears_8 ?_
    refine jm_get h iw_X12 0 rfl rfl 19 (by decide +kernel) tw_1175 rfl dX12_hears_9 ?_
    refine j_iload_n h 2 rfl rfl dX12_hears_12 ?_
    refine jm_iald h 1 rfl j797164 rfl (by omega) (by omega) dX12_hears_13 ?_
    have u797165 := (hlo j797164 (by omega)).2
    refine j_top (b := nI (EE j797164)) ((hlo j797164 (by omega)).1) ?_
    refine j_aload_n h 0 rfl rfl dX12_hears_14 ?_
    refine jm_get h iw_X12 0 rfl rfl 23 (by decide +kernel) tw_1179 rfl dX12_hears_15 ?_
    refine j_iload_n h 1 rfl rfl dX12_hears_18 ?_
    refine jm_iald h 2 rfl e rfl (by omega) (by omega) dX12_hears_19 ?_
    refine j_top (b := nI fl) (hfl) ?_
    refine j_isub h dX12_hears_20 ?_
    by_cases z797166 : fl ≤ (EE j797164)
    · refine j_top (b := nI ((EE j797164) - fl)) (pk_sub (a := (EE j797164)) (b := fl) (by omega)) ?_
      show J x (mflat [(m, .inl (.inr (12, (.ref m0 :: .int (nI mtp) :: .int (nI mfa) :: .int mfp :: .int (nI mat) :: .int (nI msz) :: .int (nI mso) :: .int mpl :: .int mnu :: .long mwd :: .ref m10 :: .ref m11 :: .ref m12 :: .ref m13 :: .ref m14 :: .ref m15 :: .ref m16 :: .ref m17 :: .ref m18 :: .ref m19 :: .ref m20 :: .ref m21 :: .ref m22 :: .ref m23 :: .ref m24 :: .int (nI mns) :: .int (nI mnl) :: .int (nI mne) :: .int (nI mst) :: .int (nI mlt) :: .int (nI mer) :: .ref m31 :: .ref m32 :: .ref m33 :: .ref m34 :: .ref m35 :: .int (nI mwm) :: .int (nI mwt) :: .int (nI mwf) :: .ref m39 :: .ref m40 :: .ref m41 :: .int (nI mla) :: .ref m43 :: .ref m44 :: .ref m45 :: .ref m46 :: .ref m47 :: .ref m48 :: .int (nI mtm) :: .ref m50 :: .ref m51 :: .ref m52 :: .ref m53 :: .ref m54 :: .ref m55 :: .ref m56 :: .ref m57 :: .ref m58 :: .ref m59 :: .ref m60 :: .ref m61 :: .int (nI msn) :: .int (nI mti) :: .ref m64 :: .ref m65 :: .ref m66 :: .ref m67 :: .ref m68 :: .ref m69 :: [])))), (m19, .inl (.inl (kA 1, 6, .inl mc19))), (m23, .inl (.inl (kA 1, 4, .inl mc23)))]) [(0, .ref m), (1, .int (nI e)), (2, .int (nI j797164))] 0 0 21 [.int (nI ((EE j797164) - fl))]
      refine j_istore_n (lv' := [(3, .int (nI ((EE j797164) - fl))), (0, .ref m), (1, .int (nI e)), (2, .int (nI j797164))]) h dX12_hears_21 rfl (by decide) rfl ?_
      refine j_iload_n h 0 rfl rfl dX12_hears_22 ?_
      refine j_if_ge h 30 dX12_hears_23 (by decide) (fun _ => ?_) (fun q => absurd (nI_pos' (by omega)) q)
      refine j_iload_n h 0 rfl rfl dX12_hears_30 ?_
      exact jm_iret h hq dX12_hears_31 ((EE j797164) - fl) [0, 1, 2] rfl (by decide) ⟨rfl, (show ((EE j797164) - fl) ≤ 9 by first | assumption | omega), (show ((EE j797164) - fl) = hrN EE fl (j797164 + 1) from (by first | exact hrN_0.symm | (rw [hrN_s]; omega) | (rw [hrN_s])))⟩ (Nat.le_of_ble_eq_true rfl) (Nat.le_of_ble_eq_true rfl)
    · have hz797166 : (nI (EE j797164)) - (nI fl) < 0 := pk_sneg (a := (EE j797164)) (b := fl) (by omega) (by omega)
      show J x (mflat [(m, .inl (.inr (12, (.ref m0 :: .int (nI mtp) :: .int (nI mfa) :: .int mfp :: .int (nI mat) :: .int (nI msz) :: .int (nI mso) :: .int mpl :: .int mnu :: .long mwd :: .ref m10 :: .ref m11 :: .ref m12 :: .ref m13 :: .ref m14 :: .ref m15 :: .ref m16 :: .ref m17 :: .ref m18 :: .ref m19 :: .ref m20 :: .ref m21 :: .ref m22 :: .ref m23 :: .ref m24 :: .int (nI mns) :: .int (nI mnl) :: .int (nI mne) :: .int (nI mst) :: .int (nI mlt) :: .int (nI mer) :: .ref m31 :: .ref m32 :: .ref m33 :: .ref m34 :: .ref m35 :: .int (nI mwm) :: .int (nI mwt) :: .int (nI mwf) :: .ref m39 :: .ref m40 :: .ref m41 :: .int (nI mla) :: .ref m43 :: .ref m44 :: .ref m45 :: .ref m46 :: .ref m47 :: .ref m48 :: .int (nI mtm) :: .ref m50 :: .ref m51 :: .ref m52 :: .ref m53 :: .ref m54 :: .ref m55 :: .ref m56 :: .ref m57 :: .ref m58 :: .ref m59 :: .ref m60 :: .ref m61 :: .int (nI msn) :: .int (nI mti) :: .ref m64 :: .ref m65 :: .ref m66 :: .ref m67 :: .ref m68 :: .ref m69 :: [])))), (m19, .inl (.inl (kA 1, 6, .inl mc19))), (m23, .inl (.inl (kA 1, 4, .inl mc23)))]) [(0, .ref m), (1, .int (nI e)), (2, .int (nI j797164))] 0 0 21 [.int ((nI (EE j797164)) - (nI fl))]
      refine j_istore_n (lv' := [(3, .int ((nI (EE j797164)) - (nI fl))), (0, .ref m), (1, .int (nI e)), (2, .int (nI j797164))]) h dX12_hears_21 rfl (by decide) rfl ?_
      refine j_iload_n h 0 rfl rfl dX12_hears_22 ?_
      refine j_if_ge h 30 dX12_hears_23 (by decide) (fun q => absurd q (fun q8 => Int32.lt_irrefl (Int32.lt_of_le_of_lt q8 hz797166))) (fun _ => ?_)
      refine j_iconst (v := 0) h (by decide) dX12_hears_26 ?_
      refine j_goto h 31 dX12_hears_27 (by decide) ?_
      exact jm_iret h hq dX12_hears_31 0 [0, 1, 2] rfl (by decide) ⟨rfl, (show 0 ≤ 9 by first | assumption | omega), (show 0 = hrN EE fl (j797164 + 1) from (by first | exact hrN_0.symm | (rw [hrN_s]; omega) | (rw [hrN_s])))⟩ (Nat.le_of_ble_eq_true rfl) (Nat.le_of_ble_eq_true rfl)
