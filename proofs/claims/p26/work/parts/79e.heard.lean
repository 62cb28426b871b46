def hrN (E : Nat → Nat) (fl p : Nat) : Nat := if p = 0 then 0 else E (p - 1) - fl
def elo (f : Nat → Int32) : Nat → Nat := fun k => (f k).toNatClampNeg
section HR
variable {D : Nat → Nat → Nat} {E x t : Nat → Nat} {n e tm a b i j m p q fl : Nat} {f g h2 : Nat → Int32} {v w er mo r1 r2 : Int32}
theorem hrN_s : hrN E fl (p + 1) = E p - fl := if_neg (Nat.succ_ne_zero p)
theorem hrN_0 : hrN E fl 0 = 0 := if_pos rfl
theorem LoR_e (h : LoR n f g) : ∀ k, k < n → f k = nI (elo f k) ∧ g k = nI (elo f k) ∧ elo f k ≤ 9 := fun k hk => by
  obtain ⟨v, h1, h2, h3⟩ := h k hk
  have e : elo f k = v := by
    show (f k).toNatClampNeg = v
    rw [h2, nI_clamp (by omega)]
  rw [e]
  exact ⟨h2, h3, h1⟩
theorem mx_neg (h : w < 0) (e : (if 0 < w then w else 0) = nI j) (hj : j < 2147483648) : j = 0 := by
  rw [if_neg (fun q => Int32.lt_irrefl (Int32.lt_trans q h))] at e
  exact ((nI_eq (a := 0) (b := j) (by decide) hj).mp e).symm
theorem bgn_ge : ∀ {n : Nat}, (∀ k, k < n → 1 ≤ t (x k)) → tkS t x n ≤ m → bgn t x n m = 0
  | 0, _, _ => rfl
  | n + 1, h, hm => by
    have e : tkS t x (n + 1) = tkS t x n + t (x n) := rfl
    have z := h n (Nat.lt_succ_self n)
    rw [bgn_n (by omega)]
    exact bgn_ge (fun k hk => h k (by omega)) (by omega)
end HR
set_option maxHeartbeats 4000000 in
set_option maxRecDepth 100000 in
theorem s_X5_heardBelowF (lau : Launch) (gg : va_G) (kA : Nat → ClassId) (s : Nat) (lo : Nat) (er : Nat) (s0 : Nat) (s1 : Nat) (s2 : Nat) (s3 : Nat) (s4 : Nat) (s5 : Nat) (s6 : Nat) (s7 : Nat) (s8 : Nat) (s9 : Nat) (s10 : Nat) (s11 : Nat) (sn : Nat) (sl : Nat) (se : Nat) (sc10 : Nat → Int32) (fl : Nat) (hse : se ≤ 4) (her : er < se) (hlo9 : lo ≤ 9) (hfl : sc10 er = nI fl) (hfl9 : fl ≤ 9) : CtI lau yX5_heardBelow cX5_heardBelow 3 (some .int) 2 0 0 gg kA [.ref s, .int (nI lo), .int (nI er)] (mflat [(s, .inl (.inr (5, [.ref s0, .ref s1, .ref s2, .ref s3, .ref s4, .ref s5, .ref s6, .ref s7, .ref s8, .ref s9, .ref s10, .ref s11, .int (nI sn), .int (nI sl), .int (nI se)]))), (s10, .inl (.inl (kA 1, 4, .inl sc10)))]) (S := Nat) (fun (r : Int32) (y_r : Nat) => r = nI y_r ∧ (y_r = lo - fl)) (fun (y_r : Nat) => mflat [(s, .inl (.inr (5, [.ref s0, .ref s1, .ref s2, .ref s3, .ref s4, .ref s5, .ref s6, .ref s7, .ref s8, .ref s9, .ref s10, .ref s11, .int (nI sn), .int (nI sl), .int (nI se)]))), (s10, .inl (.inl (kA 1, 4, .inl sc10)))]) := by
  refine nx_startI (by decide +kernel) (Nat.le_of_ble_eq_true rfl) ?_
  intro x hnm h hq
  have h : Ok x cX5_heardBelow RX5 kA (rmC 2 0 0) 3 := h
  show J x (mflat [(s, .inl (.inr (5, [.ref s0, .ref s1, .ref s2, .ref s3, .ref s4, .ref s5, .ref s6, .ref s7, .ref s8, .ref s9, .ref s10, .ref s11, .int (nI sn), .int (nI sl), .int (nI se)]))), (s10, .inl (.inl (kA 1, 4, .inl sc10)))]) [(0, .ref s), (1, .int (nI lo)), (2, .int (nI er))] 0 0 0 []
  refine j_aload_n h 0 rfl rfl dX5_heardBelow_0 ?_
  refine j_iload_n h 2 rfl rfl dX5_heardBelow_1 ?_
  refine jm_callVi (np := 1) (isC := [0]) (isR := [1]) (wc := [(s, .inl (.inr (5, [.ref s0, .ref s1, .ref s2, .ref s3, .ref s4, .ref s5, .ref s6, .ref s7, .ref s8, .ref s9, .ref s10, .ref s11, .int (nI sn), .int (nI sl), .int (nI se)])))]) (wr := [(s10, .inl (.inl (kA 1, 4, .inl sc10)))]) (rest := []) (As := [.int (nI er)]) (q0 := 0) h (s_X5_hasEar _ _ kA s (nI er) s0 s1 s2 s3 s4 s5 s6 s7 s8 s9 s10 s11 (nI sn) (nI sl) (nI se) ) tw_801 tw_790 tw_791 tw_90 tw_792 (by decide +kernel) rfl ⟨Nat.le_of_ble_eq_true rfl, Nat.le_of_ble_eq_true rfl⟩ rfl rfl (by decide) rfl rfl (by decide) (by decide) (Nat.le_of_ble_eq_true rfl) rfl ⟨Nat.le_of_ble_eq_true rfl, Nat.le_of_ble_eq_true rfl⟩ dX5_heardBelow_2 ?_
  rintro r797008 _ e797007
  have p797009 := e797007
  subst p797009
  show J x (mflat [(s10, .inl (.inl (kA 1, 4, .inl sc10))), (s, .inl (.inr (5, [.ref s0, .ref s1, .ref s2, .ref s3, .ref s4, .ref s5, .ref s6, .ref s7, .ref s8, .ref s9, .ref s10, .ref s11, .int (nI sn), .int (nI sl), .int (nI se)])))]) [(0, .ref s), (1, .int (nI lo)), (2, .int (nI er))] 0 0 5 [.int (bIx (nI er) (nI se))]
  rcases bIxn er se (by omega) (by omega) with ⟨hj797010, hT⟩ | ⟨hj797010, hT⟩
  · refine j_top (b := 0) hT ?_
    show J x (mflat [(s10, .inl (.inl (kA 1, 4, .inl sc10))), (s, .inl (.inr (5, [.ref s0, .ref s1, .ref s2, .ref s3, .ref s4, .ref s5, .ref s6, .ref s7, .ref s8, .ref s9, .ref s10, .ref s11, .int (nI sn), .int (nI sl), .int (nI se)])))]) [(0, .ref s), (1, .int (nI lo)), (2, .int (nI er))] 0 0 5 [.int 0]
    refine j_if_eq h 23 dX5_heardBelow_5 (by decide) (fun _ => ?_) (fun q => absurd (by decide) q)
    refine j_iconst (v := 0) h (by decide) dX5_heardBelow_23 ?_
    exact jm_iret h hq dX5_heardBelow_24 0 [1, 0] rfl (by decide) ⟨rfl, (show 0 = lo - fl from (by omega))⟩ (Nat.le_of_ble_eq_true rfl) (Nat.le_of_ble_eq_true rfl)
  · refine j_top (b := 1) hT ?_
    show J x (mflat [(s10, .inl (.inl (kA 1, 4, .inl sc10))), (s, .inl (.inr (5, [.ref s0, .ref s1, .ref s2, .ref s3, .ref s4, .ref s5, .ref s6, .ref s7, .ref s8, .ref s9, .ref s10, .ref s11, .int (nI sn), .int (nI sl), .int (nI se)])))]) [(0, .ref s), (1, .int (nI lo)), (2, .int (nI er))] 0 0 5 [.int 1]
    refine j_if_eq h 23 dX5_heardBelow_5 (by decide) (fun q => absurd q (by decide)) (fun _ => ?_)
    refine j_iconst (v := 0) h (by decide) dX5_heardBelow_8 ?_
    refine j_iload_n h 1 rfl rfl dX5_heardBelow_9 ?_
    refine j_aload_n h 0 rfl rfl dX5_heardBelow_10 ?_
    refine jm_get h iw_X5 1 rfl rfl 10 (by decide) tw_211 rfl dX5_heardBelow_11 ?_
    refine j_iload_n h 2 rfl rfl dX5_heardBelow_14 ?_
    refine jm_iald h 0 rfl er rfl (by omega) (by omega) dX5_heardBelow_15 ?_
    refine j_top (b := nI fl) (hfl) ?_
    refine j_isub h dX5_heardBelow_16 ?_
    by_cases z797011 : fl ≤ lo
    · refine j_top (b := nI (lo - fl)) (pk_sub (a := lo) (b := fl) (by omega)) ?_
      show J x (mflat [(s10, .inl (.inl (kA 1, 4, .inl sc10))), (s, .inl (.inr (5, [.ref s0, .ref s1, .ref s2, .ref s3, .ref s4, .ref s5, .ref s6, .ref s7, .ref s8, .ref s9, .ref s10, .ref s11, .int (nI sn), .int (nI sl), .int (nI se)])))]) [(0, .ref s), (1, .int (nI lo)), (2, .int (nI er))] 0 0 17 [.int (nI (lo - fl)), .int 0]
      refine j_mmax h tw_802 tw_803 tw_105 tw_804 (Nat.le_of_ble_eq_true rfl) (Nat.le_of_ble_eq_true rfl) (Nat.le_of_ble_eq_true rfl) (Nat.le_of_ble_eq_true rfl) (Nat.le_of_ble_eq_true rfl) dX5_heardBelow_17 ?_
      refine j_top (b := nI (max 0 (lo - fl))) (nx_max (a := 0) (b := (lo - fl)) (by omega) (by omega)) ?_
      refine j_goto h 24 dX5_heardBelow_20 (by decide) ?_
      exact jm_iret h hq dX5_heardBelow_24 (max 0 (lo - fl)) [1, 0] rfl (by decide) ⟨rfl, (show (max 0 (lo - fl)) = lo - fl from (by omega))⟩ (Nat.le_of_ble_eq_true rfl) (Nat.le_of_ble_eq_true rfl)
    · have hz797011 : (nI lo) - (nI fl) < 0 := pk_sneg (a := lo) (b := fl) (by omega) (by omega)
      show J x (mflat [(s10, .inl (.inl (kA 1, 4, .inl sc10))), (s, .inl (.inr (5, [.ref s0, .ref s1, .ref s2, .ref s3, .ref s4, .ref s5, .ref s6, .ref s7, .ref s8, .ref s9, .ref s10, .ref s11, .int (nI sn), .int (nI sl), .int (nI se)])))]) [(0, .ref s), (1, .int (nI lo)), (2, .int (nI er))] 0 0 17 [.int ((nI lo) - (nI fl)), .int 0]
      refine j_mmax h tw_802 tw_803 tw_105 tw_804 (Nat.le_of_ble_eq_true rfl) (Nat.le_of_ble_eq_true rfl) (Nat.le_of_ble_eq_true rfl) (Nat.le_of_ble_eq_true rfl) (Nat.le_of_ble_eq_true rfl) dX5_heardBelow_17 ?_
      obtain ⟨j797012, hj797012, ej797012⟩ := mx0' ((nI lo) - (nI fl))
      refine j_top (b := nI j797012) (ej797012) ?_
      refine j_goto h 24 dX5_heardBelow_20 (by decide) ?_
      exact jm_iret h hq dX5_heardBelow_24 j797012 [1, 0] rfl (by decide) ⟨rfl, (show j797012 = lo - fl from ((mx_neg hz797011 ej797012 hj797012).trans (by omega)))⟩ (Nat.le_of_ble_eq_true rfl) (Nat.le_of_ble_eq_true rfl)
