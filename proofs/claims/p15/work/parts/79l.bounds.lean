def BdV (ND : Nat → Nat) (LO HI : Nat → Nat → Nat) (nd : Nat → Int32) (ls ms : Nat → Nat → Int32) : Prop := ∀ e, e < 4 → (nd e = nI (ND e) ∧ ND e ≤ 1) ∧ (ND e = 1 → ∀ m, m < 60 → ls e m = nI (LO e m) ∧ ms e m = nI (HI e m) ∧ LO e m ≤ 9 ∧ HI e m ≤ 9)
def nrL (ND : Nat → Nat) (LO : Nat → Nat → Nat) (e m v : Nat) : Nat → Nat → Nat := fun e' m' => if e' = e then (if m' = m then max (if ND e = 0 then 0 else LO e m') v else (if ND e = 0 then 0 else LO e m')) else LO e' m'
def nrH (ND : Nat → Nat) (HI : Nat → Nat → Nat) (e m v : Nat) : Nat → Nat → Nat := fun e' m' => if e' = e then (if m' = m then min (if ND e = 0 then 9 else HI e m') v else (if ND e = 0 then 9 else HI e m')) else HI e' m'
def lqS (LO : Nat → Nat → Nat) (e a : Nat) : Nat → Nat
  | 0 => 0
  | k + 1 => lqS LO e a k + LO e (a + k)
def ctV (LO HI : Nat → Nat → Nat) (e h tk m : Nat) : Nat := if lqS LO e (m + 1) (tk - 1) = 0 ∧ LO e m ≤ h then (if h ≤ HI e m then 0 else if HI e m = 0 then 1 else 100) else 100
def coV (ND : Nat → Nat) (LO HI : Nat → Nat → Nat) (h : Nat → Nat) (tk m : Nat) : Nat → Nat
  | 0 => 0
  | e + 1 => coV ND LO HI h tk m e + (if ND e = 1 then ctV LO HI e (h e) tk m else 0)
def fsC (D : Nat → Nat → Nat) (E ND : Nat → Nat) (LO HI : Nat → Nat → Nat) (T s t : Nat) : Nat := if t + D 4 s ≤ T then min 100 (coV ND LO HI (fun e => E s - D 9 e) (D 4 s) t (D 0 2)) else 100
section BD
variable {D LO HI : Nat → Nat → Nat} {ND E h : Nat → Nat} {nd : Nat → Int32} {ls ms L1 M1 : Nat → Nat → Int32} {e m a b k n v w tk T s t hd lw hg : Nat}
theorem BdV_a (hb : BdV ND LO HI nd ls ms) (he : e < 4) (hm : m < 60) (hn : ¬ ND e = 0) (hl : lw ≤ 9) (hh : hg ≤ 9) : BdV (upN ND e 1) (nrL ND LO e m lw) (nrH ND HI e m hg) nd (upG ls e m (nI (max (LO e m) lw))) (upG ms e m (nI (min (HI e m) hg))) := fun i hi => by
  obtain ⟨⟨p1, p2⟩, p3⟩ := hb i hi
  by_cases q : i = e
  · subst q
    have n1 : ND i = 1 := by omega
    refine ⟨⟨by rw [upN_s, p1, n1], by rw [upN_s]; decide⟩, fun _ k hk => ?_⟩
    obtain ⟨c1, c2, c3, c4⟩ := p3 n1 k hk
    unfold nrL nrH
    rw [if_pos rfl, if_pos rfl, if_neg hn, if_neg hn]
    by_cases z : k = m
    · subst z
      rw [upG_s, upG_s, if_pos rfl, if_pos rfl]
      exact ⟨rfl, rfl, by omega, by omega⟩
    · rw [upG_k z, upG_k z, if_neg z, if_neg z]
      exact ⟨c1, c2, c3, c4⟩
  · refine ⟨⟨by rw [upN_n q]; exact p1, by rw [upN_n q]; exact p2⟩, fun h1 k hk => ?_⟩
    rw [upN_n q] at h1
    unfold nrL nrH
    rw [upG_r q, upG_r q, if_neg q, if_neg q]
    exact p3 h1 k hk
theorem BdV_b (hb : BdV ND LO HI nd ls ms) (he : e < 4) (hm : m < 60) (hn : ND e = 0) (hl : lw ≤ 9) (hh : hg ≤ 9) (f1 : ∀ k, k < 60 → L1 e k = 0) (f2 : ∀ i, ¬ i = e → L1 i = ls i) (g1 : ∀ k, k < 60 → M1 e k = 9) (g2 : ∀ i, ¬ i = e → M1 i = ms i) : BdV (upN ND e 1) (nrL ND LO e m lw) (nrH ND HI e m hg) (upd nd e (vp_nar .boolean 1)) (upG L1 e m (nI (max 0 lw))) (upG M1 e m (nI (min 9 hg))) := fun i hi => by
  obtain ⟨⟨p1, p2⟩, p3⟩ := hb i hi
  by_cases q : i = e
  · subst q
    refine ⟨⟨by rw [upN_s, pk_us]; rfl, by rw [upN_s]; decide⟩, fun _ k hk => ?_⟩
    unfold nrL nrH
    rw [if_pos rfl, if_pos rfl, if_pos hn, if_pos hn]
    by_cases z : k = m
    · subst z
      rw [upG_s, upG_s, if_pos rfl, if_pos rfl]
      exact ⟨rfl, rfl, by omega, by omega⟩
    · rw [upG_k z, upG_k z, if_neg z, if_neg z, f1 k hk, g1 k hk]
      exact ⟨rfl, rfl, by decide, by decide⟩
  · refine ⟨⟨by rw [upN_n q, pk_un q]; exact p1, by rw [upN_n q]; exact p2⟩, fun h1 k hk => ?_⟩
    rw [upN_n q] at h1
    unfold nrL nrH
    rw [upG_r q, upG_r q, if_neg q, if_neg q, f2 i q, g2 i q]
    exact p3 h1 k hk
theorem BdV_0 (h0 : ∀ e, e < 4 → nd e = 0) : BdV (fun _ => 0) LO HI nd ls ms := fun e he => ⟨⟨h0 e he, by show 0 ≤ 1; decide⟩, fun q => absurd q (by show ¬ 0 = 1; decide)⟩
theorem lqS_ge (hk : k < n) : LO e (a + k) ≤ lqS LO e a n := by
  induction n with
  | zero => exact absurd hk (Nat.not_lt_zero k)
  | succ n ih =>
    have z : lqS LO e a (n + 1) = lqS LO e a n + LO e (a + n) := rfl
    by_cases q : k = n
    · rw [q]
      omega
    · have := ih (by omega)
      omega
theorem lqS_0 : lqS LO e a n = 0 ↔ ∀ k, k < n → LO e (a + k) = 0 := by
  constructor
  · intro q k hk
    have := lqS_ge (LO := LO) (e := e) (a := a) hk
    omega
  · intro q
    induction n with
    | zero => rfl
    | succ n ih =>
      show lqS LO e a n + LO e (a + n) = 0
      rw [ih (fun k hk => q k (by omega)), q n (Nat.lt_succ_self n)]
theorem lq_n (h : lqS LO e a (k - a) = 0) (ha : a ≤ k) (hl : LO e k = 0) : lqS LO e a (k + 1 - a) = 0 := by
  rw [show k + 1 - a = (k - a) + 1 by omega]
  show lqS LO e a (k - a) + LO e (a + (k - a)) = 0
  rw [h, show a + (k - a) = k by omega, hl]
theorem lq_no (ha : a ≤ k) (hk : k < n) (hl : ¬ LO e k = 0) : ¬ lqS LO e a (n - a) = 0 := fun q => hl (by
  have z := lqS_0.mp q (k - a) (by omega)
  rw [show a + (k - a) = k by omega] at z
  exact z)
theorem ctV_q (hq : ¬ lqS LO e (m + 1) (tk - 1) = 0) : 100 = ctV LO HI e hd tk m := (if_neg (fun z => hq z.1)).symm
theorem ctV_l (hq : hd < LO e m) : 100 = ctV LO HI e hd tk m := (if_neg (fun z => absurd z.2 (by omega))).symm
theorem ctV_0 (hq : lqS LO e (m + 1) (tk - 1) = 0) (h1 : LO e m ≤ hd) (h2 : hd ≤ HI e m) : 0 = ctV LO HI e hd tk m := by
  unfold ctV
  rw [if_pos ⟨hq, h1⟩, if_pos h2]
theorem ctV_1 (hq : lqS LO e (m + 1) (tk - 1) = 0) (h1 : LO e m ≤ hd) (h2 : HI e m < hd) (h3 : HI e m = 0) : 1 = ctV LO HI e hd tk m := by
  unfold ctV
  rw [if_pos ⟨hq, h1⟩, if_neg (by omega), if_pos h3]
theorem ctV_h (h2 : HI e m < hd) (h3 : ¬ HI e m = 0) : 100 = ctV LO HI e hd tk m := by
  unfold ctV
  by_cases z : lqS LO e (m + 1) (tk - 1) = 0 ∧ LO e m ≤ hd
  · rw [if_pos z, if_neg (show ¬ hd ≤ HI e m by omega), if_neg h3]
  · rw [if_neg z]
theorem coV_y (h1 : ND e = 1) : coV ND LO HI h tk m (e + 1) = coV ND LO HI h tk m e + ctV LO HI e (h e) tk m := by
  show _ + (if _ then _ else _) = _
  rw [if_pos h1]
theorem coV_n (h1 : ¬ ND e = 1) : coV ND LO HI h tk m (e + 1) = coV ND LO HI h tk m e := by
  show _ + (if _ then _ else _) = _
  rw [if_neg h1]
  exact Nat.add_zero _
theorem fsC_b : ∀ i t, fsC D E ND LO HI T i t ≤ 100 ∧ (fsC D E ND LO HI T i t < 100 → t + D 4 i ≤ T) := fun i t => by
  unfold fsC
  by_cases h : t + D 4 i ≤ T
  · rw [if_pos h]
    exact ⟨by omega, fun _ => h⟩
  · rw [if_neg h]
    exact ⟨by decide, fun q => absurd q (by decide)⟩
theorem fsC_1 {y : Nat} (ht : t + D 4 s ≤ T) (hy : y = min 100 (coV ND LO HI (fun e => E s - D 9 e) (D 4 s) t (D 0 2))) : nI y = nI (fsC D E ND LO HI T s t) := by
  unfold fsC
  rw [if_pos ht, hy]
theorem fsC_0 (ht : T < t + D 4 s) : nI 100 = nI (fsC D E ND LO HI T s t) := by
  unfold fsC
  rw [if_neg (by omega)]
end BD
set_option maxHeartbeats 4000000 in
set_option maxRecDepth 100000 in
theorem s_J7_fill_GF (lau : Launch) (gg : va_G) (kA : Nat → ClassId) (g : Nat) (rx : Nat) (v : Int32) (gf : Nat → Nat → Int32) (hr : rx < 4) : CtV lau yJ7_fill_53178 cJ7_fill_53178 4 (none) 1 0 0 gg kA [.ref (g + 1 + rx), .int v] (mflat [(g, .inr (kA 6, kA 1, 4, 60, .inl gf))]) (S := (Nat → Nat → Int32)) (fun (y_g : (Nat → Nat → Int32)) => (∀ k, k < 60 → y_g rx k = v) ∧ (∀ i, ¬ i = rx → y_g i = gf i)) (fun (y_g : (Nat → Nat → Int32)) => mflat [(g, .inr (kA 6, kA 1, 4, 60, .inl y_g))]) := by
  refine nx_startV (by decide +kernel) (Nat.le_of_ble_eq_true rfl) ?_
  intro x hnm h hq
  have h : Ok x cJ7_fill_53178 RJ7 kA (rmC 1 0 0) 4 := h
  show J x (mflat [(g, .inr (kA 6, kA 1, 4, 60, .inl gf))]) [(0, .ref (g + 1 + rx)), (1, .int v)] 0 0 0 []
  refine j_iconst (v := 0) h (by decide) dJ7_fill_53178_0 ?_
  refine j_istore_n (lv' := [(2, .int 0), (0, .ref (g + 1 + rx)), (1, .int v)]) h dJ7_fill_53178_1 rfl (by decide) rfl ?_
  refine j_aload_n h 1 rfl rfl dJ7_fill_53178_2 ?_
  refine jm_glen (v := 60) h 0 1 rfl rfl rx (by omega) rfl dJ7_fill_53178_3 ?_
  refine j_istore_n (lv' := [(3, .int 60), (2, .int 0), (0, .ref (g + 1 + rx)), (1, .int v)]) h dJ7_fill_53178_4 rfl (by decide) rfl ?_
  have lp5_85006 : ∀ (m5_85006 : Nat), ∀ (v2_5_85006 : Nat) (fg_5_85006 : Nat → Nat → Int32), (∀ k, k < v2_5_85006 → fg_5_85006 rx k = v) → (∀ i, ¬ i = rx → fg_5_85006 i = gf i) → (v2_5_85006 ≤ 60) → (v2_5_85006 ≤ 100000) → 60 - v2_5_85006 < m5_85006 → J x (mflat [(g, .inr (kA 6, kA 1, 4, 60, .inl fg_5_85006))]) [(3, .int 60), (2, .int (nI v2_5_85006)), (0, .ref (g + 1 + rx)), (1, .int v)] 0 0 5 [] := by
    intro m5_85006
    induction m5_85006 with
    | zero =>
      intro v2_5_85006 fg_5_85006 i5_85006_0 i5_85006_1 i5_85006_2 i5_85006_3 hm5_85006
      exact absurd hm5_85006 (Nat.not_lt_zero _)
    | succ m5_85006 ih5_85006 =>
      intro v2_5_85006 fg_5_85006 i5_85006_0 i5_85006_1 i5_85006_2 i5_85006_3 hm5_85006
      refine j_iload_n h 1 rfl rfl dJ7_fill_53178_5 ?_
      refine j_iload_n h 0 rfl rfl dJ7_fill_53178_6 ?_
      refine j_icmp_ge h 20 dJ7_fill_53178_7 (by decide) (fun z850004 => ?_) (fun z850004 => ?_)
      · have z850004n : 60 ≤ v2_5_85006 := (nI_leI (a := 60) (b := v2_5_85006) (by omega) (by omega)).mp z850004
        exact jm_vret h hq dJ7_fill_53178_20 fg_5_85006 [0] rfl (by decide) ⟨(show ∀ k, k < 60 → fg_5_85006 rx k = v from (fun k h9 => i5_85006_0 k (by omega))), (show ∀ i, ¬ i = rx → fg_5_85006 i = gf i from i5_85006_1)⟩ (Nat.le_of_ble_eq_true rfl) (Nat.le_of_ble_eq_true rfl)
      · have z850004n : ¬ 60 ≤ v2_5_85006 := fun q9 => z850004 ((nI_leI (a := 60) (b := v2_5_85006) (by omega) (by omega)).mpr q9)
        refine j_aload_n h 2 rfl rfl dJ7_fill_53178_10 ?_
        refine j_iload_n h 1 rfl rfl dJ7_fill_53178_11 ?_
        refine j_iload_n h 3 rfl rfl dJ7_fill_53178_12 ?_
        refine jm_gast (w' := [(g, .inr (kA 6, kA 1, 4, 60, .inl (upG fg_5_85006 rx v2_5_85006 v)))]) h 0 rfl rx (by omega) v2_5_85006 rfl (by omega) (by omega) dJ7_fill_53178_13 rfl ?_
        refine j_iinc (v := nI (v2_5_85006 + 1)) (lv' := [(2, .int (nI (v2_5_85006 + 1))), (3, .int 60), (0, .ref (g + 1 + rx)), (1, .int v)]) h dJ7_fill_53178_14 1 rfl (nI_add v2_5_85006 1) (by decide) rfl ?_
        refine j_goto h 5 dJ7_fill_53178_17 (by decide) ?_
        refine jm_sub [0] (w' := [(g, .inr (kA 6, kA 1, 4, 60, .inl (upG fg_5_85006 rx v2_5_85006 v)))]) rfl (by decide +kernel) [1, 0, 2, 3] (lv' := [(3, .int 60), (2, .int (nI (v2_5_85006 + 1))), (0, .ref (g + 1 + rx)), (1, .int v)]) rfl ?_
        exact ih5_85006 (v2_5_85006 + 1) (upG fg_5_85006 rx v2_5_85006 v) (show ∀ k, k < (v2_5_85006 + 1) → (upG fg_5_85006 rx v2_5_85006 v) rx k = v from all_s (P := fun k => upG _ _ _ v rx k = v) (fun j h9 => by show upG _ _ _ _ _ _ = _; rw [upG_k (by omega)]; exact i5_85006_0 j h9) upG_s) (show ∀ i, ¬ i = rx → (upG fg_5_85006 rx v2_5_85006 v) i = gf i from (fun i h9 => by rw [upG_r h9]; exact i5_85006_1 i h9)) (show (v2_5_85006 + 1) ≤ 60 by first | assumption | omega) (show (v2_5_85006 + 1) ≤ 100000 by first | assumption | omega) (show 60 - (v2_5_85006 + 1) < m5_85006 by omega)
  refine jm_sub [0] (w' := [(g, .inr (kA 6, kA 1, 4, 60, .inl gf))]) rfl (by decide +kernel) [0, 1, 2, 3] (lv' := [(3, .int 60), (2, .int 0), (0, .ref (g + 1 + rx)), (1, .int v)]) rfl ?_
  exact lp5_85006 (60 - 0 + 1) 0 gf (show ∀ k, k < 0 → gf rx k = v from (fun k h9 => absurd h9 (Nat.not_lt_zero k))) (show ∀ i, ¬ i = rx → gf i = gf i from (fun i _ => rfl)) (show 0 ≤ 60 by first | assumption | omega) (show 0 ≤ 100000 by first | assumption | omega) (Nat.lt_succ_self _)
set_option maxHeartbeats 4000000 in
set_option maxRecDepth 100000 in
theorem s_X0_openF (lau : Launch) (gg : va_G) (kA : Nat → ClassId) (d : Nat) (d0 : Nat) (d1 : Nat) (d2 : Nat) (dnd : Nat → Int32)  : CtV lau yX0_open cX0_open 2 (none) 1 0 0 gg kA [.ref d] (mflat [(d, .inl (.inr (0, [.ref d0, .ref d1, .ref d2]))), (d2, .inl (.inl (kA 3, 4, .inl dnd)))]) (S := (Nat → Int32)) (fun (y_d2 : (Nat → Int32)) => ∀ e, e < 4 → y_d2 e = 0) (fun (y_d2 : (Nat → Int32)) => mflat [(d, .inl (.inr (0, [.ref d0, .ref d1, .ref d2]))), (d2, .inl (.inl (kA 3, 4, .inl y_d2)))]) := by
  refine nx_startV (by decide +kernel) (Nat.le_of_ble_eq_true rfl) ?_
  intro x hnm h hq
  have h : Ok x cX0_open RX0 kA (rmC 1 0 0) 2 := h
  show J x (mflat [(d, .inl (.inr (0, [.ref d0, .ref d1, .ref d2]))), (d2, .inl (.inl (kA 3, 4, .inl dnd)))]) [(0, .ref d)] 0 0 0 []
  refine j_iconst (v := 0) h (by decide) dX0_open_0 ?_
  refine j_istore_n (lv' := [(1, .int 0), (0, .ref d)]) h dX0_open_1 rfl (by decide) rfl ?_
  have lp2_85012 : ∀ (m2_85012 : Nat), ∀ (v1_2_85012 : Nat) (fd2_2_85012 : Nat → Int32), (∀ e, e < v1_2_85012 → fd2_2_85012 e = 0) → (v1_2_85012 ≤ 4) → (v1_2_85012 ≤ 100000) → 100001 - v1_2_85012 < m2_85012 → J x (mflat [(d, .inl (.inr (0, [.ref d0, .ref d1, .ref d2]))), (d2, .inl (.inl (kA 3, 4, .inl fd2_2_85012)))]) [(1, .int (nI v1_2_85012)), (0, .ref d)] 0 0 2 [] := by
    intro m2_85012
    induction m2_85012 with
    | zero =>
      intro v1_2_85012 fd2_2_85012 i2_85012_0 i2_85012_1 i2_85012_2 hm2_85012
      exact absurd hm2_85012 (Nat.not_lt_zero _)
    | succ m2_85012 ih2_85012 =>
      intro v1_2_85012 fd2_2_85012 i2_85012_0 i2_85012_1 i2_85012_2 hm2_85012
      refine j_iload_n h 0 rfl rfl dX0_open_2 ?_
      refine j_iconst (v := 4) h (by decide) dX0_open_3 ?_
      refine j_icmp_ge h 20 dX0_open_4 (by decide) (fun z850008 => ?_) (fun z850008 => ?_)
      · have z850008n : 4 ≤ v1_2_85012 := (nI_leI (a := 4) (b := v1_2_85012) (by omega) (by omega)).mp z850008
        exact jm_vret h hq dX0_open_20 fd2_2_85012 [0, 1] rfl (by decide) (show ∀ e, e < 4 → fd2_2_85012 e = 0 from (fun e h9 => i2_85012_0 e (by omega))) (Nat.le_of_ble_eq_true rfl) (Nat.le_of_ble_eq_true rfl)
      · have z850008n : ¬ 4 ≤ v1_2_85012 := fun q9 => z850008 ((nI_leI (a := 4) (b := v1_2_85012) (by omega) (by omega)).mpr q9)
        refine j_aload_n h 1 rfl rfl dX0_open_7 ?_
        refine jm_get h iw_X0 0 rfl rfl 2 (by decide +kernel) tw_359 rfl dX0_open_8 ?_
        refine j_iload_n h 0 rfl rfl dX0_open_11 ?_
        refine j_iconst (v := 0) h (by decide) dX0_open_12 ?_
        refine jm_zast (w' := [(d, .inl (.inr (0, [.ref d0, .ref d1, .ref d2]))), (d2, .inl (.inl (kA 3, 4, .inl (upd fd2_2_85012 v1_2_85012 (vp_nar .boolean 0)))))]) h 1 rfl v1_2_85012 rfl (by omega) (by omega) dX0_open_13 rfl ?_
        refine j_iinc (v := nI (v1_2_85012 + 1)) (lv' := [(1, .int (nI (v1_2_85012 + 1))), (0, .ref d)]) h dX0_open_14 0 rfl (nI_add v1_2_85012 1) (by decide) rfl ?_
        refine j_goto h 2 dX0_open_17 (by decide) ?_
        refine jm_sub [0, 1] (w' := [(d, .inl (.inr (0, [.ref d0, .ref d1, .ref d2]))), (d2, .inl (.inl (kA 3, 4, .inl (upd fd2_2_85012 v1_2_85012 (vp_nar .boolean 0)))))]) rfl (by decide +kernel) [0, 1] (lv' := [(1, .int (nI (v1_2_85012 + 1))), (0, .ref d)]) rfl ?_
        exact ih2_85012 (v1_2_85012 + 1) (upd fd2_2_85012 v1_2_85012 (vp_nar .boolean 0)) (show ∀ e, e < (v1_2_85012 + 1) → (upd fd2_2_85012 v1_2_85012 (vp_nar .boolean 0)) e = 0 from all_s (P := fun e => upd _ _ _ e = 0) (fun j h9 => by show upd _ _ _ _ = _; rw [pk_un (by omega)]; exact i2_85012_0 j h9) (by show upd _ _ _ _ = _; rw [pk_us]; rfl)) (show (v1_2_85012 + 1) ≤ 4 by first | assumption | omega) (show (v1_2_85012 + 1) ≤ 100000 by first | assumption | omega) (show 100001 - (v1_2_85012 + 1) < m2_85012 by first | exact Nat.lt_of_lt_of_le (Nat.sub_lt_sub_left (Nat.lt_of_le_of_lt (show v1_2_85012 ≤ 100000 by assumption) (Nat.lt_succ_self 100000)) (Nat.lt_succ_self v1_2_85012)) (Nat.le_of_lt_succ hm2_85012) | omega)
  refine jm_sub [0, 1] (w' := [(d, .inl (.inr (0, [.ref d0, .ref d1, .ref d2]))), (d2, .inl (.inl (kA 3, 4, .inl dnd)))]) rfl (by decide +kernel) [0, 1] (lv' := [(1, .int 0), (0, .ref d)]) rfl ?_
  exact lp2_85012 (100001 - 0 + 1) 0 dnd (show ∀ e, e < 0 → dnd e = 0 from (fun e h9 => absurd h9 (Nat.not_lt_zero e))) (show 0 ≤ 4 by first | assumption | omega) (show 0 ≤ 100000 by first | assumption | omega) (Nat.lt_succ_self _)
set_option maxHeartbeats 4000000 in
set_option maxRecDepth 100000 in
theorem s_X0_narrowF (lau : Launch) (gg : va_G) (kA : Nat → ClassId) (d : Nat) (er : Nat) (mo : Nat) (lw : Nat) (hg : Nat) (d0 : Nat) (d1 : Nat) (d2 : Nat) (dls : Nat → Nat → Int32) (dms : Nat → Nat → Int32) (dnd : Nat → Int32) (ND : Nat → Nat) (LO : Nat → Nat → Nat) (HI : Nat → Nat → Nat) (hbd : BdV ND LO HI dnd dls dms) (her : er < 4) (hmo : mo < 60) (hlw : lw ≤ 9) (hhg : hg ≤ 9) : CtV lau yX0_narrow cX0_narrow 5 (none) 2 0 0 gg kA [.ref d, .int (nI er), .int (nI mo), .int (nI lw), .int (nI hg)] (mflat [(d, .inl (.inr (0, [.ref d0, .ref d1, .ref d2]))), (d0, .inr (kA 6, kA 1, 4, 60, .inl dls)), (d1, .inr (kA 6, kA 1, 4, 60, .inl dms)), (d2, .inl (.inl (kA 3, 4, .inl dnd)))]) (S := (Nat → Nat → Int32) × (Nat → Nat → Int32) × (Nat → Int32)) (fun ((y_d0, y_d1, y_d2) : (Nat → Nat → Int32) × (Nat → Nat → Int32) × (Nat → Int32)) => BdV (upN ND er 1) (nrL ND LO er mo lw) (nrH ND HI er mo hg) y_d2 y_d0 y_d1) (fun ((y_d0, y_d1, y_d2) : (Nat → Nat → Int32) × (Nat → Nat → Int32) × (Nat → Int32)) => mflat [(d, .inl (.inr (0, [.ref d0, .ref d1, .ref d2]))), (d0, .inr (kA 6, kA 1, 4, 60, .inl y_d0)), (d1, .inr (kA 6, kA 1, 4, 60, .inl y_d1)), (d2, .inl (.inl (kA 3, 4, .inl y_d2)))]) := by
  refine nx_startV (by decide +kernel) (Nat.le_of_ble_eq_true rfl) ?_
  intro x hnm h hq
  have h : Ok x cX0_narrow RX0 kA (rmC 2 0 0) 5 := h
  show J x (mflat [(d, .inl (.inr (0, [.ref d0, .ref d1, .ref d2]))), (d0, .inr (kA 6, kA 1, 4, 60, .inl dls)), (d1, .inr (kA 6, kA 1, 4, 60, .inl dms)), (d2, .inl (.inl (kA 3, 4, .inl dnd)))]) [(0, .ref d), (1, .int (nI er)), (2, .int (nI mo)), (3, .int (nI lw)), (4, .int (nI hg))] 0 0 0 []
  refine j_iload_n h 1 rfl rfl dX0_narrow_0 ?_
  refine j_if_lt h 19 dX0_narrow_1 (by decide) (fun q => absurd q (nI_pos (by omega))) (fun _ => ?_)
  refine j_iload_n h 1 rfl rfl dX0_narrow_4 ?_
  refine j_iconst (v := 4) h (by decide) dX0_narrow_5 ?_
  refine j_icmp_ge h 19 dX0_narrow_6 (by decide) (fun z850025 => ?_) (fun z850025 => ?_)
  · have z850025n : 4 ≤ er := (nI_leI (a := 4) (b := er) (by omega) (by omega)).mp z850025
    exact jm_vret h hq dX0_narrow_19 (dls, dms, dnd) [0, 1, 2, 3] rfl (by decide) (show BdV (upN ND er 1) (nrL ND LO er mo lw) (nrH ND HI er mo hg) dnd dls dms from (by exfalso; omega)) (Nat.le_of_ble_eq_true rfl) (Nat.le_of_ble_eq_true rfl)
  · have z850025n : ¬ 4 ≤ er := fun q9 => z850025 ((nI_leI (a := 4) (b := er) (by omega) (by omega)).mpr q9)
    refine j_iload_n h 2 rfl rfl dX0_narrow_9 ?_
    refine j_if_lt h 19 dX0_narrow_10 (by decide) (fun q => absurd q (nI_pos (by omega))) (fun _ => ?_)
    refine j_iload_n h 2 rfl rfl dX0_narrow_13 ?_
    refine j_bipush (v := 60) h (by decide) dX0_narrow_14 ?_
    refine j_icmp_lt h 20 dX0_narrow_16 (by decide) (fun z850026 => ?_) (fun z850026 => ?_)
    · have z850026n : mo < 60 := (nI_ltI (a := mo) (b := 60) (by omega) (by omega)).mp z850026
      refine j_aload_n h 0 rfl rfl dX0_narrow_20 ?_
      refine jm_get h iw_X0 0 rfl rfl 2 (by decide +kernel) tw_359 rfl dX0_narrow_21 ?_
      refine j_iload_n h 1 rfl rfl dX0_narrow_24 ?_
      refine jm_zald h 3 rfl er rfl (by omega) (by omega) dX0_narrow_25 ?_
      have u850027 := (hbd er (by omega)).1.2
      refine j_top (b := nI (ND er)) ((hbd er (by omega)).1.1) ?_
      refine j_if_ne h 57 dX0_narrow_26 (by decide) (fun z850028 => ?_) (fun z850028 => ?_)
      · have z850028n : ¬ (ND er) = 0 := fun q9 => z850028 ((nI_eq (a := (ND er)) (b := 0) (by omega) (by omega)).mpr q9)
        refine j_aload_n h 0 rfl rfl dX0_narrow_57 ?_
        refine jm_get h iw_X0 0 rfl rfl 0 (by decide +kernel) tw_357 rfl dX0_narrow_58 ?_
        refine j_iload_n h 1 rfl rfl dX0_narrow_61 ?_
        refine jm_gout h 1 6 rfl rfl er rfl (by omega) (by omega) dX0_narrow_62 ?_
        refine j_iload_n h 2 rfl rfl dX0_narrow_63 ?_
        refine j_aload_n h 0 rfl rfl dX0_narrow_64 ?_
        refine jm_get h iw_X0 0 rfl rfl 0 (by decide +kernel) tw_357 rfl dX0_narrow_65 ?_
        refine j_iload_n h 1 rfl rfl dX0_narrow_68 ?_
        refine jm_gout h 1 6 rfl rfl er rfl (by omega) (by omega) dX0_narrow_69 ?_
        refine j_iload_n h 2 rfl rfl dX0_narrow_70 ?_
        refine jm_gald h 1 rfl er (by omega) mo rfl (by omega) (by omega) dX0_narrow_71 ?_
        have u850029 := ((hbd er (by omega)).2 (by omega) mo (by omega)).2.2
        refine j_top (b := nI (LO er mo)) (((hbd er (by omega)).2 (by omega) mo (by omega)).1) ?_
        refine j_iload_n h 3 rfl rfl dX0_narrow_72 ?_
        refine j_mmax h tw_831 tw_803 tw_105 tw_804 (Nat.le_of_ble_eq_true rfl) (Nat.le_of_ble_eq_true rfl) (Nat.le_of_ble_eq_true rfl) (Nat.le_of_ble_eq_true rfl) (Nat.le_of_ble_eq_true rfl) dX0_narrow_73 ?_
        refine j_top (b := nI (max (LO er mo) lw)) (nx_max (a := (LO er mo)) (b := lw) (by omega) (by omega)) ?_
        refine jm_gast (w' := [(d, .inl (.inr (0, [.ref d0, .ref d1, .ref d2]))), (d0, .inr (kA 6, kA 1, 4, 60, .inl (upG dls er mo (nI (max (LO er mo) lw))))), (d1, .inr (kA 6, kA 1, 4, 60, .inl dms)), (d2, .inl (.inl (kA 3, 4, .inl dnd)))]) h 1 rfl er (by omega) mo rfl (by omega) (by omega) dX0_narrow_76 rfl ?_
        refine j_aload_n h 0 rfl rfl dX0_narrow_77 ?_
        refine jm_get h iw_X0 0 rfl rfl 1 (by decide +kernel) tw_358 rfl dX0_narrow_78 ?_
        refine j_iload_n h 1 rfl rfl dX0_narrow_81 ?_
        refine jm_gout h 2 6 rfl rfl er rfl (by omega) (by omega) dX0_narrow_82 ?_
        refine j_iload_n h 2 rfl rfl dX0_narrow_83 ?_
        refine j_aload_n h 0 rfl rfl dX0_narrow_84 ?_
        refine jm_get h iw_X0 0 rfl rfl 1 (by decide +kernel) tw_358 rfl dX0_narrow_85 ?_
        refine j_iload_n h 1 rfl rfl dX0_narrow_88 ?_
        refine jm_gout h 2 6 rfl rfl er rfl (by omega) (by omega) dX0_narrow_89 ?_
        refine j_iload_n h 2 rfl rfl dX0_narrow_90 ?_
        refine jm_gald h 2 rfl er (by omega) mo rfl (by omega) (by omega) dX0_narrow_91 ?_
        have u850030 := ((hbd er (by omega)).2 (by omega) mo (by omega)).2.2
        refine j_top (b := nI (HI er mo)) (((hbd er (by omega)).2 (by omega) mo (by omega)).2.1) ?_
        refine j_iload h 4 rfl dX0_narrow_92 ?_
        refine j_mmin h tw_832 tw_809 tw_105 tw_810 (Nat.le_of_ble_eq_true rfl) (Nat.le_of_ble_eq_true rfl) (Nat.le_of_ble_eq_true rfl) (Nat.le_of_ble_eq_true rfl) (Nat.le_of_ble_eq_true rfl) dX0_narrow_94 ?_
        refine j_top (b := nI (min (HI er mo) hg)) (nx_min (a := (HI er mo)) (b := hg) (by omega) (by omega)) ?_
        refine jm_gast (w' := [(d, .inl (.inr (0, [.ref d0, .ref d1, .ref d2]))), (d0, .inr (kA 6, kA 1, 4, 60, .inl (upG dls er mo (nI (max (LO er mo) lw))))), (d1, .inr (kA 6, kA 1, 4, 60, .inl (upG dms er mo (nI (min (HI er mo) hg))))), (d2, .inl (.inl (kA 3, 4, .inl dnd)))]) h 2 rfl er (by omega) mo rfl (by omega) (by omega) dX0_narrow_97 rfl ?_
        exact jm_vret h hq dX0_narrow_98 ((upG dls er mo (nI (max (LO er mo) lw))), (upG dms er mo (nI (min (HI er mo) hg))), dnd) [0, 1, 2, 3] rfl (by decide) (show BdV (upN ND er 1) (nrL ND LO er mo lw) (nrH ND HI er mo hg) dnd (upG dls er mo (nI (max (LO er mo) lw))) (upG dms er mo (nI (min (HI er mo) hg))) from BdV_a hbd her hmo (by omega) hlw hhg) (Nat.le_of_ble_eq_true rfl) (Nat.le_of_ble_eq_true rfl)
      · have z850028n : (ND er) = 0 := (nI_eq (a := (ND er)) (b := 0) (by omega) (by omega)).mp z850028
        refine j_aload_n h 0 rfl rfl dX0_narrow_29 ?_
        refine jm_get h iw_X0 0 rfl rfl 2 (by decide +kernel) tw_359 rfl dX0_narrow_30 ?_
        refine j_iload_n h 1 rfl rfl dX0_narrow_33 ?_
        refine j_iconst (v := 1) h (by decide) dX0_narrow_34 ?_
        refine jm_zast (w' := [(d, .inl (.inr (0, [.ref d0, .ref d1, .ref d2]))), (d0, .inr (kA 6, kA 1, 4, 60, .inl dls)), (d1, .inr (kA 6, kA 1, 4, 60, .inl dms)), (d2, .inl (.inl (kA 3, 4, .inl (upd dnd er (vp_nar .boolean 1)))))]) h 3 rfl er rfl (by omega) (by omega) dX0_narrow_35 rfl ?_
        refine j_aload_n h 0 rfl rfl dX0_narrow_36 ?_
        refine jm_get h iw_X0 0 rfl rfl 0 (by decide +kernel) tw_357 rfl dX0_narrow_37 ?_
        refine j_iload_n h 1 rfl rfl dX0_narrow_40 ?_
        refine jm_gout h 1 6 rfl rfl er rfl (by omega) (by omega) dX0_narrow_41 ?_
        refine j_iconst (v := 0) h (by decide) dX0_narrow_42 ?_
        refine jm_callSv (np := 2) (isC := [1]) (isR := [0, 2, 3]) (wc := [(d0, .inr (kA 6, kA 1, 4, 60, .inl dls))]) (wr := [(d, .inl (.inr (0, [.ref d0, .ref d1, .ref d2]))), (d1, .inr (kA 6, kA 1, 4, 60, .inl dms)), (d2, .inl (.inl (kA 3, 4, .inl (upd dnd er (vp_nar .boolean 1)))))]) (rest := []) (As := [.ref (d0 + 1 + er), .int 0]) h (s_J7_fill_GF _ _ kA d0 er 0 dls (show er < 4 by first | assumption | omega)) tw_828 tw_829 tw_106 tw_830 (by decide +kernel) rfl ⟨Nat.le_of_ble_eq_true rfl, Nat.le_of_ble_eq_true rfl⟩ (by decide +kernel) rfl rfl (by decide +kernel) (by decide +kernel) (Nat.le_of_ble_eq_true rfl) rfl ⟨Nat.le_of_ble_eq_true rfl, Nat.le_of_ble_eq_true rfl⟩ dX0_narrow_43 ?_
        rintro q850031 e850032
        obtain ⟨p850034, p850035⟩ := e850032
        replace p850034 : ∀ k, k < 60 → q850031 er k = 0 := p850034
        replace p850035 : ∀ i, ¬ i = er → q850031 i = dls i := p850035
        show J x (mflat [(d, .inl (.inr (0, [.ref d0, .ref d1, .ref d2]))), (d1, .inr (kA 6, kA 1, 4, 60, .inl dms)), (d2, .inl (.inl (kA 3, 4, .inl (upd dnd er (vp_nar .boolean 1))))), (d0, .inr (kA 6, kA 1, 4, 60, .inl q850031))]) [(0, .ref d), (1, .int (nI er)), (2, .int (nI mo)), (3, .int (nI lw)), (4, .int (nI hg))] 0 0 46 []
        refine j_aload_n h 0 rfl rfl dX0_narrow_46 ?_
        refine jm_get h iw_X0 0 rfl rfl 1 (by decide +kernel) tw_358 rfl dX0_narrow_47 ?_
        refine j_iload_n h 1 rfl rfl dX0_narrow_50 ?_
        refine jm_gout h 1 6 rfl rfl er rfl (by omega) (by omega) dX0_narrow_51 ?_
        refine j_bipush (v := 9) h (by decide) dX0_narrow_52 ?_
        refine jm_callSv (np := 2) (isC := [1]) (isR := [0, 2, 3]) (wc := [(d1, .inr (kA 6, kA 1, 4, 60, .inl dms))]) (wr := [(d, .inl (.inr (0, [.ref d0, .ref d1, .ref d2]))), (d2, .inl (.inl (kA 3, 4, .inl (upd dnd er (vp_nar .boolean 1))))), (d0, .inr (kA 6, kA 1, 4, 60, .inl q850031))]) (rest := []) (As := [.ref (d1 + 1 + er), .int 9]) h (s_J7_fill_GF _ _ kA d1 er 9 dms (show er < 4 by first | assumption | omega)) tw_828 tw_829 tw_106 tw_830 (by decide +kernel) rfl ⟨Nat.le_of_ble_eq_true rfl, Nat.le_of_ble_eq_true rfl⟩ (by decide +kernel) rfl rfl (by decide +kernel) (by decide +kernel) (Nat.le_of_ble_eq_true rfl) rfl ⟨Nat.le_of_ble_eq_true rfl, Nat.le_of_ble_eq_true rfl⟩ dX0_narrow_54 ?_
        rintro q850036 e850037
        obtain ⟨p850039, p850040⟩ := e850037
        replace p850039 : ∀ k, k < 60 → q850036 er k = 9 := p850039
        replace p850040 : ∀ i, ¬ i = er → q850036 i = dms i := p850040
        show J x (mflat [(d, .inl (.inr (0, [.ref d0, .ref d1, .ref d2]))), (d2, .inl (.inl (kA 3, 4, .inl (upd dnd er (vp_nar .boolean 1))))), (d0, .inr (kA 6, kA 1, 4, 60, .inl q850031)), (d1, .inr (kA 6, kA 1, 4, 60, .inl q850036))]) [(0, .ref d), (1, .int (nI er)), (2, .int (nI mo)), (3, .int (nI lw)), (4, .int (nI hg))] 0 0 57 []
        refine j_aload_n h 0 rfl rfl dX0_narrow_57 ?_
        refine jm_get h iw_X0 0 rfl rfl 0 (by decide +kernel) tw_357 rfl dX0_narrow_58 ?_
        refine j_iload_n h 1 rfl rfl dX0_narrow_61 ?_
        refine jm_gout h 2 6 rfl rfl er rfl (by omega) (by omega) dX0_narrow_62 ?_
        refine j_iload_n h 2 rfl rfl dX0_narrow_63 ?_
        refine j_aload_n h 0 rfl rfl dX0_narrow_64 ?_
        refine jm_get h iw_X0 0 rfl rfl 0 (by decide +kernel) tw_357 rfl dX0_narrow_65 ?_
        refine j_iload_n h 1 rfl rfl dX0_narrow_68 ?_
        refine jm_gout h 2 6 rfl rfl er rfl (by omega) (by omega) dX0_narrow_69 ?_
        refine j_iload_n h 2 rfl rfl dX0_narrow_70 ?_
        refine jm_gald h 2 rfl er (by omega) mo rfl (by omega) (by omega) dX0_narrow_71 ?_
        refine j_top (b := 0) (p850034 mo (by omega)) ?_
        refine j_iload_n h 3 rfl rfl dX0_narrow_72 ?_
        refine j_mmax h tw_831 tw_803 tw_105 tw_804 (Nat.le_of_ble_eq_true rfl) (Nat.le_of_ble_eq_true rfl) (Nat.le_of_ble_eq_true rfl) (Nat.le_of_ble_eq_true rfl) (Nat.le_of_ble_eq_true rfl) dX0_narrow_73 ?_
        refine j_top (b := nI (max 0 lw)) (nx_max (a := 0) (b := lw) (by omega) (by omega)) ?_
        refine jm_gast (w' := [(d, .inl (.inr (0, [.ref d0, .ref d1, .ref d2]))), (d2, .inl (.inl (kA 3, 4, .inl (upd dnd er (vp_nar .boolean 1))))), (d0, .inr (kA 6, kA 1, 4, 60, .inl (upG q850031 er mo (nI (max 0 lw))))), (d1, .inr (kA 6, kA 1, 4, 60, .inl q850036))]) h 2 rfl er (by omega) mo rfl (by omega) (by omega) dX0_narrow_76 rfl ?_
        refine j_aload_n h 0 rfl rfl dX0_narrow_77 ?_
        refine jm_get h iw_X0 0 rfl rfl 1 (by decide +kernel) tw_358 rfl dX0_narrow_78 ?_
        refine j_iload_n h 1 rfl rfl dX0_narrow_81 ?_
        refine jm_gout h 3 6 rfl rfl er rfl (by omega) (by omega) dX0_narrow_82 ?_
        refine j_iload_n h 2 rfl rfl dX0_narrow_83 ?_
        refine j_aload_n h 0 rfl rfl dX0_narrow_84 ?_
        refine jm_get h iw_X0 0 rfl rfl 1 (by decide +kernel) tw_358 rfl dX0_narrow_85 ?_
        refine j_iload_n h 1 rfl rfl dX0_narrow_88 ?_
        refine jm_gout h 3 6 rfl rfl er rfl (by omega) (by omega) dX0_narrow_89 ?_
        refine j_iload_n h 2 rfl rfl dX0_narrow_90 ?_
        refine jm_gald h 3 rfl er (by omega) mo rfl (by omega) (by omega) dX0_narrow_91 ?_
        refine j_top (b := 9) (p850039 mo (by omega)) ?_
        refine j_iload h 4 rfl dX0_narrow_92 ?_
        refine j_mmin h tw_832 tw_809 tw_105 tw_810 (Nat.le_of_ble_eq_true rfl) (Nat.le_of_ble_eq_true rfl) (Nat.le_of_ble_eq_true rfl) (Nat.le_of_ble_eq_true rfl) (Nat.le_of_ble_eq_true rfl) dX0_narrow_94 ?_
        refine j_top (b := nI (min 9 hg)) (nx_min (a := 9) (b := hg) (by omega) (by omega)) ?_
        refine jm_gast (w' := [(d, .inl (.inr (0, [.ref d0, .ref d1, .ref d2]))), (d2, .inl (.inl (kA 3, 4, .inl (upd dnd er (vp_nar .boolean 1))))), (d0, .inr (kA 6, kA 1, 4, 60, .inl (upG q850031 er mo (nI (max 0 lw))))), (d1, .inr (kA 6, kA 1, 4, 60, .inl (upG q850036 er mo (nI (min 9 hg)))))]) h 3 rfl er (by omega) mo rfl (by omega) (by omega) dX0_narrow_97 rfl ?_
        exact jm_vret h hq dX0_narrow_98 ((upG q850031 er mo (nI (max 0 lw))), (upG q850036 er mo (nI (min 9 hg))), (upd dnd er (vp_nar .boolean 1))) [0, 2, 3, 1] rfl (by decide) (show BdV (upN ND er 1) (nrL ND LO er mo lw) (nrH ND HI er mo hg) (upd dnd er (vp_nar .boolean 1)) (upG q850031 er mo (nI (max 0 lw))) (upG q850036 er mo (nI (min 9 hg))) from BdV_b hbd her hmo (by omega) hlw hhg p850034 p850035 p850039 p850040) (Nat.le_of_ble_eq_true rfl) (Nat.le_of_ble_eq_true rfl)
    · have z850026n : ¬ mo < 60 := fun q9 => z850026 ((nI_ltI (a := mo) (b := 60) (by omega) (by omega)).mpr q9)
      exact jm_vret h hq dX0_narrow_19 (dls, dms, dnd) [0, 1, 2, 3] rfl (by decide) (show BdV (upN ND er 1) (nrL ND LO er mo lw) (nrH ND HI er mo hg) dnd dls dms from (by exfalso; omega)) (Nat.le_of_ble_eq_true rfl) (Nat.le_of_ble_eq_true rfl)
set_option maxHeartbeats 4000000 in
set_option maxRecDepth 100000 in
theorem s_X0_areQuietF (lau : Launch) (gg : va_G) (kA : Nat → ClassId) (d : Nat) (er : Nat) (fr : Nat) (be : Nat) (d0 : Nat) (d1 : Nat) (d2 : Nat) (dls : Nat → Nat → Int32) (dms : Nat → Nat → Int32) (dnd : Nat → Int32) (ND : Nat → Nat) (LO : Nat → Nat → Nat) (HI : Nat → Nat → Nat) (hbd : BdV ND LO HI dnd dls dms) (her : er < 4) (hn1 : ND er = 1) (hfr : fr ≤ be) (hbe : be ≤ 60) : CtI lau yX0_areQuiet cX0_areQuiet 5 (some .boolean) 1 0 0 gg kA [.ref d, .int (nI er), .int (nI fr), .int (nI be)] (mflat [(d, .inl (.inr (0, [.ref d0, .ref d1, .ref d2]))), (d0, .inr (kA 6, kA 1, 4, 60, .inl dls)), (d1, .inr (kA 6, kA 1, 4, 60, .inl dms)), (d2, .inl (.inl (kA 3, 4, .inl dnd)))]) (S := Nat) (fun (r : Int32) (y_r : Nat) => r = nI y_r ∧ (y_r ≤ 1) ∧ ((y_r = 1 → lqS LO er fr (be - fr) = 0) ∧ (y_r = 0 → ¬ lqS LO er fr (be - fr) = 0))) (fun (y_r : Nat) => mflat [(d, .inl (.inr (0, [.ref d0, .ref d1, .ref d2]))), (d0, .inr (kA 6, kA 1, 4, 60, .inl dls)), (d1, .inr (kA 6, kA 1, 4, 60, .inl dms)), (d2, .inl (.inl (kA 3, 4, .inl dnd)))]) := by
  refine nx_startI (by decide +kernel) (Nat.le_of_ble_eq_true rfl) ?_
  intro x hnm h hq
  have h : Ok x cX0_areQuiet RX0 kA (rmC 1 0 0) 5 := h
  show J x (mflat [(d, .inl (.inr (0, [.ref d0, .ref d1, .ref d2]))), (d0, .inr (kA 6, kA 1, 4, 60, .inl dls)), (d1, .inr (kA 6, kA 1, 4, 60, .inl dms)), (d2, .inl (.inl (kA 3, 4, .inl dnd)))]) [(0, .ref d), (1, .int (nI er)), (2, .int (nI fr)), (3, .int (nI be))] 0 0 0 []
  refine j_iload_n h 2 rfl rfl dX0_areQuiet_0 ?_
  refine j_istore (lv' := [(4, .int (nI fr)), (0, .ref d), (1, .int (nI er)), (2, .int (nI fr)), (3, .int (nI be))]) h dX0_areQuiet_1 (by decide) rfl ?_
  have lp3_85018 : ∀ (m3_85018 : Nat), ∀ (v4_3_85018 : Nat), (lqS LO er fr (v4_3_85018 - fr) = 0) → (fr ≤ v4_3_85018) → (v4_3_85018 ≤ be) → (v4_3_85018 ≤ 100000) → be - v4_3_85018 < m3_85018 → J x (mflat [(d, .inl (.inr (0, [.ref d0, .ref d1, .ref d2]))), (d0, .inr (kA 6, kA 1, 4, 60, .inl dls)), (d1, .inr (kA 6, kA 1, 4, 60, .inl dms)), (d2, .inl (.inl (kA 3, 4, .inl dnd)))]) [(4, .int (nI v4_3_85018)), (0, .ref d), (1, .int (nI er)), (2, .int (nI fr)), (3, .int (nI be))] 0 0 3 [] := by
    intro m3_85018
    induction m3_85018 with
    | zero =>
      intro v4_3_85018 i3_85018_0 i3_85018_1 i3_85018_2 i3_85018_3 hm3_85018
      exact absurd hm3_85018 (Nat.not_lt_zero _)
    | succ m3_85018 ih3_85018 =>
      intro v4_3_85018 i3_85018_0 i3_85018_1 i3_85018_2 i3_85018_3 hm3_85018
      refine j_iload h 0 rfl dX0_areQuiet_3 ?_
      refine j_iload_n h 4 rfl rfl dX0_areQuiet_5 ?_
      refine j_icmp_ge h 36 dX0_areQuiet_6 (by decide) (fun z850061 => ?_) (fun z850061 => ?_)
      · have z850061n : be ≤ v4_3_85018 := (nI_leI (a := be) (b := v4_3_85018) (by omega) (by omega)).mp z850061
        refine j_iconst (v := 1) h (by decide) dX0_areQuiet_36 ?_
        exact jm_zret h hq rfl dX0_areQuiet_37 1 [0, 1, 2, 3] rfl (by decide) ⟨rfl, (show 1 ≤ 1 by first | assumption | omega), (show (1 = 1 → lqS LO er fr (be - fr) = 0) ∧ (1 = 0 → ¬ lqS LO er fr (be - fr) = 0) from ⟨fun _ => (by rw [show be - fr = v4_3_85018 - fr by omega]; exact i3_85018_0), fun h9 => absurd h9 (by decide)⟩)⟩ (Nat.le_of_ble_eq_true rfl) (Nat.le_of_ble_eq_true rfl)
      · have z850061n : ¬ be ≤ v4_3_85018 := fun q9 => z850061 ((nI_leI (a := be) (b := v4_3_85018) (by omega) (by omega)).mpr q9)
        refine j_iload h 0 rfl dX0_areQuiet_9 ?_
        refine j_bipush (v := 60) h (by decide) dX0_areQuiet_11 ?_
        refine j_icmp_ge h 36 dX0_areQuiet_13 (by decide) (fun z850062 => ?_) (fun z850062 => ?_)
        · have z850062n : 60 ≤ v4_3_85018 := (nI_leI (a := 60) (b := v4_3_85018) (by omega) (by omega)).mp z850062
          refine j_iconst (v := 1) h (by decide) dX0_areQuiet_36 ?_
          exact jm_zret h hq rfl dX0_areQuiet_37 1 [0, 1, 2, 3] rfl (by decide) ⟨rfl, (show 1 ≤ 1 by first | assumption | omega), (show (1 = 1 → lqS LO er fr (be - fr) = 0) ∧ (1 = 0 → ¬ lqS LO er fr (be - fr) = 0) from ⟨fun _ => (by rw [show be - fr = v4_3_85018 - fr by omega]; exact i3_85018_0), fun h9 => absurd h9 (by decide)⟩)⟩ (Nat.le_of_ble_eq_true rfl) (Nat.le_of_ble_eq_true rfl)
        · have z850062n : ¬ 60 ≤ v4_3_85018 := fun q9 => z850062 ((nI_leI (a := 60) (b := v4_3_85018) (by omega) (by omega)).mpr q9)
          refine j_aload_n h 1 rfl rfl dX0_areQuiet_16 ?_
          refine jm_get h iw_X0 0 rfl rfl 0 (by decide +kernel) tw_357 rfl dX0_areQuiet_17 ?_
          refine j_iload_n h 2 rfl rfl dX0_areQuiet_20 ?_
          refine jm_gout h 1 6 rfl rfl er rfl (by omega) (by omega) dX0_areQuiet_21 ?_
          refine j_iload h 0 rfl dX0_areQuiet_22 ?_
          refine jm_gald h 1 rfl er (by omega) v4_3_85018 rfl (by omega) (by omega) dX0_areQuiet_24 ?_
          have u850063 := ((hbd er (by omega)).2 (by omega) v4_3_85018 (by omega)).2.2
          refine j_top (b := nI (LO er v4_3_85018)) (((hbd er (by omega)).2 (by omega) v4_3_85018 (by omega)).1) ?_
          refine j_if_le h 30 dX0_areQuiet_25 (by decide) (fun z850064 => ?_) (fun z850064 => ?_)
          · have z850064n : (LO er v4_3_85018) ≤ 0 := (nI_leI (a := (LO er v4_3_85018)) (b := 0) (by omega) (by omega)).mp z850064
            refine j_iinc (v := nI (v4_3_85018 + 1)) (lv' := [(4, .int (nI (v4_3_85018 + 1))), (0, .ref d), (1, .int (nI er)), (2, .int (nI fr)), (3, .int (nI be))]) h dX0_areQuiet_30 0 rfl (nI_add v4_3_85018 1) (by decide) rfl ?_
            refine j_goto h 3 dX0_areQuiet_33 (by decide) ?_
            refine jm_sub [0, 1, 2, 3] (w' := [(d, .inl (.inr (0, [.ref d0, .ref d1, .ref d2]))), (d0, .inr (kA 6, kA 1, 4, 60, .inl dls)), (d1, .inr (kA 6, kA 1, 4, 60, .inl dms)), (d2, .inl (.inl (kA 3, 4, .inl dnd)))]) rfl (by decide +kernel) [0, 1, 2, 3, 4] (lv' := [(4, .int (nI (v4_3_85018 + 1))), (0, .ref d), (1, .int (nI er)), (2, .int (nI fr)), (3, .int (nI be))]) rfl ?_
            exact ih3_85018 (v4_3_85018 + 1) (show lqS LO er fr ((v4_3_85018 + 1) - fr) = 0 from lq_n i3_85018_0 (by omega) (by omega)) (show fr ≤ (v4_3_85018 + 1) by first | assumption | omega) (show (v4_3_85018 + 1) ≤ be by first | assumption | omega) (show (v4_3_85018 + 1) ≤ 100000 by first | assumption | omega) (show be - (v4_3_85018 + 1) < m3_85018 by omega)
          · have z850064n : ¬ (LO er v4_3_85018) ≤ 0 := fun q9 => z850064 ((nI_leI (a := (LO er v4_3_85018)) (b := 0) (by omega) (by omega)).mpr q9)
            refine j_iconst (v := 0) h (by decide) dX0_areQuiet_28 ?_
            exact jm_zret h hq rfl dX0_areQuiet_29 0 [0, 1, 2, 3] rfl (by decide) ⟨rfl, (show 0 ≤ 1 by first | assumption | omega), (show (0 = 1 → lqS LO er fr (be - fr) = 0) ∧ (0 = 0 → ¬ lqS LO er fr (be - fr) = 0) from ⟨fun h9 => absurd h9 (by decide), fun _ => lq_no (k := v4_3_85018) (by omega) (by omega) (by omega)⟩)⟩ (Nat.le_of_ble_eq_true rfl) (Nat.le_of_ble_eq_true rfl)
  refine jm_sub [0, 1, 2, 3] (w' := [(d, .inl (.inr (0, [.ref d0, .ref d1, .ref d2]))), (d0, .inr (kA 6, kA 1, 4, 60, .inl dls)), (d1, .inr (kA 6, kA 1, 4, 60, .inl dms)), (d2, .inl (.inl (kA 3, 4, .inl dnd)))]) rfl (by decide +kernel) [0, 1, 2, 3, 4] (lv' := [(4, .int (nI fr)), (0, .ref d), (1, .int (nI er)), (2, .int (nI fr)), (3, .int (nI be))]) rfl ?_
  exact lp3_85018 (be - fr + 1) fr (show lqS LO er fr (fr - fr) = 0 from (by rw [Nat.sub_self]; rfl)) (show fr ≤ fr by first | assumption | omega) (show fr ≤ be by first | assumption | omega) (show fr ≤ 100000 by first | assumption | omega) (Nat.lt_succ_self _)
set_option maxHeartbeats 4000000 in
set_option maxRecDepth 100000 in
theorem s_X0_costToF (lau : Launch) (gg : va_G) (kA : Nat → ClassId) (d : Nat) (er : Nat) (hd : Nat) (tk : Nat) (mo : Nat) (d0 : Nat) (d1 : Nat) (d2 : Nat) (dls : Nat → Nat → Int32) (dms : Nat → Nat → Int32) (dnd : Nat → Int32) (ND : Nat → Nat) (LO : Nat → Nat → Nat) (HI : Nat → Nat → Nat) (hbd : BdV ND LO HI dnd dls dms) (her : er < 4) (hn1 : ND er = 1) (hhd : hd ≤ 9) (htk1 : 1 ≤ tk) (htk : tk ≤ 9) (hmo : mo + tk ≤ 60) : CtI lau yX0_costTo cX0_costTo 5 (some .int) 2 0 0 gg kA [.ref d, .int (nI er), .int (nI hd), .int (nI tk), .int (nI mo)] (mflat [(d, .inl (.inr (0, [.ref d0, .ref d1, .ref d2]))), (d0, .inr (kA 6, kA 1, 4, 60, .inl dls)), (d1, .inr (kA 6, kA 1, 4, 60, .inl dms)), (d2, .inl (.inl (kA 3, 4, .inl dnd)))]) (S := Nat) (fun (r : Int32) (y_r : Nat) => r = nI y_r ∧ (y_r ≤ 100) ∧ (y_r = ctV LO HI er hd tk mo)) (fun (y_r : Nat) => mflat [(d, .inl (.inr (0, [.ref d0, .ref d1, .ref d2]))), (d0, .inr (kA 6, kA 1, 4, 60, .inl dls)), (d1, .inr (kA 6, kA 1, 4, 60, .inl dms)), (d2, .inl (.inl (kA 3, 4, .inl dnd)))]) := by
  refine nx_startI (by decide +kernel) (Nat.le_of_ble_eq_true rfl) ?_
  intro x hnm h hq
  have h : Ok x cX0_costTo RX0 kA (rmC 2 0 0) 5 := h
  show J x (mflat [(d, .inl (.inr (0, [.ref d0, .ref d1, .ref d2]))), (d0, .inr (kA 6, kA 1, 4, 60, .inl dls)), (d1, .inr (kA 6, kA 1, 4, 60, .inl dms)), (d2, .inl (.inl (kA 3, 4, .inl dnd)))]) [(0, .ref d), (1, .int (nI er)), (2, .int (nI hd)), (3, .int (nI tk)), (4, .int (nI mo))] 0 0 0 []
  refine j_aload_n h 0 rfl rfl dX0_costTo_0 ?_
  refine j_iload_n h 1 rfl rfl dX0_costTo_1 ?_
  refine j_iload h 4 rfl dX0_costTo_2 ?_
  refine j_iconst (v := 1) h (by decide) dX0_costTo_4 ?_
  refine j_iadd h dX0_costTo_5 ?_
  refine j_top (b := nI (mo + 1)) (nI_add mo 1) ?_
  refine j_iload h 4 rfl dX0_costTo_6 ?_
  refine j_iload_n h 3 rfl rfl dX0_costTo_8 ?_
  refine j_iadd h dX0_costTo_9 ?_
  refine j_top (b := nI (mo + tk)) (nI_add mo tk) ?_
  refine jm_callVi (np := 3) (isC := [0, 1, 2, 3]) (isR := []) (wc := [(d, .inl (.inr (0, [.ref d0, .ref d1, .ref d2]))), (d0, .inr (kA 6, kA 1, 4, 60, .inl dls)), (d1, .inr (kA 6, kA 1, 4, 60, .inl dms)), (d2, .inl (.inl (kA 3, 4, .inl dnd)))]) (wr := []) (rest := []) (As := [.int (nI er), .int (nI (mo + 1)), .int (nI (mo + tk))]) (q0 := 0) h (s_X0_areQuietF _ _ kA d er (mo + 1) (mo + tk) d0 d1 d2 dls dms dnd ND LO HI (show BdV ND LO HI dnd dls dms by first | assumption | omega) (show er < 4 by first | assumption | omega) (show ND er = 1 by first | assumption | omega) (show (mo + 1) ≤ (mo + tk) by first | assumption | omega) (show (mo + tk) ≤ 60 by first | assumption | omega)) tw_851 tw_853 tw_18 tw_94 tw_854 (by decide +kernel) rfl ⟨Nat.le_of_ble_eq_true rfl, Nat.le_of_ble_eq_true rfl⟩ rfl rfl (by decide +kernel) rfl rfl (by decide +kernel) (by decide +kernel) (Nat.le_of_ble_eq_true rfl) rfl ⟨Nat.le_of_ble_eq_true rfl, Nat.le_of_ble_eq_true rfl⟩ dX0_costTo_10 ?_
  rintro r850137 q850135 e850136
  obtain ⟨p850138, p850139, p850140⟩ := e850136
  subst p850138
  replace p850139 : q850135 ≤ 1 := p850139
  replace p850140 : (q850135 = 1 → lqS LO er (mo + 1) ((mo + tk) - (mo + 1)) = 0) ∧ (q850135 = 0 → ¬ lqS LO er (mo + 1) ((mo + tk) - (mo + 1)) = 0) := p850140
  show J x (mflat [(d, .inl (.inr (0, [.ref d0, .ref d1, .ref d2]))), (d0, .inr (kA 6, kA 1, 4, 60, .inl dls)), (d1, .inr (kA 6, kA 1, 4, 60, .inl dms)), (d2, .inl (.inl (kA 3, 4, .inl dnd)))]) [(0, .ref d), (1, .int (nI er)), (2, .int (nI hd)), (3, .int (nI tk)), (4, .int (nI mo))] 0 0 13 [.int (nI q850135)]
  refine j_if_eq h 29 dX0_costTo_13 (by decide) (fun z850141 => ?_) (fun z850141 => ?_)
  · have z850141n : q850135 = 0 := (nI_eq (a := q850135) (b := 0) (by omega) (by omega)).mp z850141
    refine j_bipush (v := 100) h (by decide) dX0_costTo_29 ?_
    exact jm_iret h hq dX0_costTo_31 100 [0, 1, 2, 3] rfl (by decide) ⟨rfl, (show 100 ≤ 100 by first | assumption | omega), (show 100 = ctV LO HI er hd tk mo from (by first | exact ctV_l (by omega) | exact ctV_h (by omega) (by omega) | exact ctV_q (by rw [show tk - 1 = mo + tk - (mo + 1) by omega]; exact p850140.2 (by omega))))⟩ (Nat.le_of_ble_eq_true rfl) (Nat.le_of_ble_eq_true rfl)
  · have z850141n : ¬ q850135 = 0 := fun q9 => z850141 ((nI_eq (a := q850135) (b := 0) (by omega) (by omega)).mpr q9)
    refine j_iload_n h 2 rfl rfl dX0_costTo_16 ?_
    refine j_aload_n h 0 rfl rfl dX0_costTo_17 ?_
    refine jm_get h iw_X0 0 rfl rfl 0 (by decide +kernel) tw_357 rfl dX0_costTo_18 ?_
    refine j_iload_n h 1 rfl rfl dX0_costTo_21 ?_
    refine jm_gout h 1 6 rfl rfl er rfl (by omega) (by omega) dX0_costTo_22 ?_
    refine j_iload h 4 rfl dX0_costTo_23 ?_
    refine jm_gald h 1 rfl er (by omega) mo rfl (by omega) (by omega) dX0_costTo_25 ?_
    have u850142 := ((hbd er (by omega)).2 (by omega) mo (by omega)).2.2
    refine j_top (b := nI (LO er mo)) (((hbd er (by omega)).2 (by omega) mo (by omega)).1) ?_
    refine j_icmp_ge h 32 dX0_costTo_26 (by decide) (fun z850143 => ?_) (fun z850143 => ?_)
    · have z850143n : (LO er mo) ≤ hd := (nI_leI (a := (LO er mo)) (b := hd) (by omega) (by omega)).mp z850143
      refine j_iload_n h 2 rfl rfl dX0_costTo_32 ?_
      refine j_aload_n h 0 rfl rfl dX0_costTo_33 ?_
      refine jm_get h iw_X0 0 rfl rfl 1 (by decide +kernel) tw_358 rfl dX0_costTo_34 ?_
      refine j_iload_n h 1 rfl rfl dX0_costTo_37 ?_
      refine jm_gout h 2 6 rfl rfl er rfl (by omega) (by omega) dX0_costTo_38 ?_
      refine j_iload h 4 rfl dX0_costTo_39 ?_
      refine jm_gald h 2 rfl er (by omega) mo rfl (by omega) (by omega) dX0_costTo_41 ?_
      have u850144 := ((hbd er (by omega)).2 (by omega) mo (by omega)).2.2
      refine j_top (b := nI (HI er mo)) (((hbd er (by omega)).2 (by omega) mo (by omega)).2.1) ?_
      refine j_icmp_gt h 47 dX0_costTo_42 (by decide) (fun z850145 => ?_) (fun z850145 => ?_)
      · have z850145n : (HI er mo) < hd := (nI_ltI (a := (HI er mo)) (b := hd) (by omega) (by omega)).mp z850145
        refine j_aload_n h 0 rfl rfl dX0_costTo_47 ?_
        refine jm_get h iw_X0 0 rfl rfl 1 (by decide +kernel) tw_358 rfl dX0_costTo_48 ?_
        refine j_iload_n h 1 rfl rfl dX0_costTo_51 ?_
        refine jm_gout h 2 6 rfl rfl er rfl (by omega) (by omega) dX0_costTo_52 ?_
        refine j_iload h 4 rfl dX0_costTo_53 ?_
        refine jm_gald h 2 rfl er (by omega) mo rfl (by omega) (by omega) dX0_costTo_55 ?_
        refine j_top (b := nI (HI er mo)) (((hbd er (by omega)).2 (by omega) mo (by omega)).2.1) ?_
        refine j_if_ne h 63 dX0_costTo_56 (by decide) (fun z850146 => ?_) (fun z850146 => ?_)
        · have z850146n : ¬ (HI er mo) = 0 := fun q9 => z850146 ((nI_eq (a := (HI er mo)) (b := 0) (by omega) (by omega)).mpr q9)
          refine j_bipush (v := 100) h (by decide) dX0_costTo_63 ?_
          exact jm_iret h hq dX0_costTo_65 100 [0, 1, 2, 3] rfl (by decide) ⟨rfl, (show 100 ≤ 100 by first | assumption | omega), (show 100 = ctV LO HI er hd tk mo from (by first | exact ctV_l (by omega) | exact ctV_h (by omega) (by omega) | exact ctV_q (by rw [show tk - 1 = mo + tk - (mo + 1) by omega]; exact p850140.2 (by omega))))⟩ (Nat.le_of_ble_eq_true rfl) (Nat.le_of_ble_eq_true rfl)
        · have z850146n : (HI er mo) = 0 := (nI_eq (a := (HI er mo)) (b := 0) (by omega) (by omega)).mp z850146
          refine j_iconst (v := 1) h (by decide) dX0_costTo_59 ?_
          refine j_goto h 65 dX0_costTo_60 (by decide) ?_
          exact jm_iret h hq dX0_costTo_65 1 [0, 1, 2, 3] rfl (by decide) ⟨rfl, (show 1 ≤ 100 by first | assumption | omega), (show 1 = ctV LO HI er hd tk mo from ctV_1 (by rw [show tk - 1 = mo + tk - (mo + 1) by omega]; exact p850140.1 (by omega)) (by omega) (by omega) (by omega))⟩ (Nat.le_of_ble_eq_true rfl) (Nat.le_of_ble_eq_true rfl)
      · have z850145n : ¬ (HI er mo) < hd := fun q9 => z850145 ((nI_ltI (a := (HI er mo)) (b := hd) (by omega) (by omega)).mpr q9)
        refine j_iconst (v := 0) h (by decide) dX0_costTo_45 ?_
        exact jm_iret h hq dX0_costTo_46 0 [0, 1, 2, 3] rfl (by decide) ⟨rfl, (show 0 ≤ 100 by first | assumption | omega), (show 0 = ctV LO HI er hd tk mo from ctV_0 (by rw [show tk - 1 = mo + tk - (mo + 1) by omega]; exact p850140.1 (by omega)) (by omega) (by omega))⟩ (Nat.le_of_ble_eq_true rfl) (Nat.le_of_ble_eq_true rfl)
    · have z850143n : ¬ (LO er mo) ≤ hd := fun q9 => z850143 ((nI_leI (a := (LO er mo)) (b := hd) (by omega) (by omega)).mpr q9)
      refine j_bipush (v := 100) h (by decide) dX0_costTo_29 ?_
      exact jm_iret h hq dX0_costTo_31 100 [0, 1, 2, 3] rfl (by decide) ⟨rfl, (show 100 ≤ 100 by first | assumption | omega), (show 100 = ctV LO HI er hd tk mo from (by first | exact ctV_l (by omega) | exact ctV_h (by omega) (by omega) | exact ctV_q (by rw [show tk - 1 = mo + tk - (mo + 1) by omega]; exact p850140.2 (by omega))))⟩ (Nat.le_of_ble_eq_true rfl) (Nat.le_of_ble_eq_true rfl)
set_option maxHeartbeats 4000000 in
set_option maxRecDepth 100000 in
theorem s_X0_costOfF (lau : Launch) (gg : va_G) (kA : Nat → ClassId) (d : Nat) (s : Nat) (ld : Nat) (tk : Nat) (mo : Nat) (d0 : Nat) (d1 : Nat) (d2 : Nat) (dls : Nat → Nat → Int32) (dms : Nat → Nat → Int32) (dnd : Nat → Int32) (s0 : Nat) (s1 : Nat) (s2 : Nat) (s3 : Nat) (s4 : Nat) (s5 : Nat) (s6 : Nat) (s7 : Nat) (s8 : Nat) (s9 : Nat) (s10 : Nat) (s11 : Nat) (sn : Nat) (sl : Nat) (se : Nat) (sc1 : Nat → Int32) (sc2 : Nat → Int32) (sc3 : Nat → Int32) (sc5 : Nat → Int32) (sc6 : Nat → Nat → Int32) (sc7 : Nat → Int32) (sc8 : Nat → Nat → Int32) (sc10 : Nat → Int32) (sc11 : Nat → Int32) (D : Nat → Nat → Nat) (ND : Nat → Nat) (LO : Nat → Nat → Nat) (HI : Nat → Nat → Nat) (hsn : sn ≤ 6) (hsl : sl ≤ 10) (hse : se ≤ 4) (hstk : TkOk sn sc1) (hssz : SzOk sl sc5) (hsrw : RwOk sl sn sc5 sc6) (hslt : LtOk sl sc7) (hsla : FtOk sl sc8) (hsls : LsOk sl sc5 sc6 sc1 sc7) (hSc : ScR D sn sl se sc1 sc2 sc3 sc5 sc6 sc7 sc8 sc10 sc11) (hD : DOk D) (hbd : BdV ND LO HI dnd dls dms) (hld : ld ≤ 9) (htk1 : 1 ≤ tk) (htk : tk ≤ 9) (hmo : mo + tk ≤ 60) : CtI lau yX0_costOf cX0_costOf 7 (some .int) 3 0 0 gg kA [.ref d, .ref s, .int (nI ld), .int (nI tk), .int (nI mo)] (mflat [(d, .inl (.inr (0, [.ref d0, .ref d1, .ref d2]))), (d0, .inr (kA 6, kA 1, 4, 60, .inl dls)), (d1, .inr (kA 6, kA 1, 4, 60, .inl dms)), (d2, .inl (.inl (kA 3, 4, .inl dnd))), (s, .inl (.inr (5, [.ref s0, .ref s1, .ref s2, .ref s3, .ref s4, .ref s5, .ref s6, .ref s7, .ref s8, .ref s9, .ref s10, .ref s11, .int (nI sn), .int (nI sl), .int (nI se)]))), (s1, .inl (.inl (kA 1, 6, .inl sc1))), (s2, .inl (.inl (kA 1, 6, .inl sc2))), (s3, .inl (.inl (kA 1, 6, .inl sc3))), (s5, .inl (.inl (kA 1, 10, .inl sc5))), (s6, .inr (kA 6, kA 1, 10, 5, .inl sc6)), (s7, .inl (.inl (kA 1, 10, .inl sc7))), (s8, .inr (kA 6, kA 1, 10, 2, .inl sc8)), (s10, .inl (.inl (kA 1, 4, .inl sc10))), (s11, .inl (.inl (kA 1, 4, .inl sc11)))]) (S := Nat) (fun (r : Int32) (y_r : Nat) => r = nI y_r ∧ (y_r ≤ 100) ∧ (y_r = min 100 (coV ND LO HI (fun e => ld - D 9 e) tk mo se))) (fun (y_r : Nat) => mflat [(d, .inl (.inr (0, [.ref d0, .ref d1, .ref d2]))), (d0, .inr (kA 6, kA 1, 4, 60, .inl dls)), (d1, .inr (kA 6, kA 1, 4, 60, .inl dms)), (d2, .inl (.inl (kA 3, 4, .inl dnd))), (s, .inl (.inr (5, [.ref s0, .ref s1, .ref s2, .ref s3, .ref s4, .ref s5, .ref s6, .ref s7, .ref s8, .ref s9, .ref s10, .ref s11, .int (nI sn), .int (nI sl), .int (nI se)]))), (s1, .inl (.inl (kA 1, 6, .inl sc1))), (s2, .inl (.inl (kA 1, 6, .inl sc2))), (s3, .inl (.inl (kA 1, 6, .inl sc3))), (s5, .inl (.inl (kA 1, 10, .inl sc5))), (s6, .inr (kA 6, kA 1, 10, 5, .inl sc6)), (s7, .inl (.inl (kA 1, 10, .inl sc7))), (s8, .inr (kA 6, kA 1, 10, 2, .inl sc8)), (s10, .inl (.inl (kA 1, 4, .inl sc10))), (s11, .inl (.inl (kA 1, 4, .inl sc11)))]) := by
  refine nx_startI (by decide +kernel) (Nat.le_of_ble_eq_true rfl) ?_
  intro x hnm h hq
  have h : Ok x cX0_costOf RX0 kA (rmC 3 0 0) 7 := h
  show J x (mflat [(d, .inl (.inr (0, [.ref d0, .ref d1, .ref d2]))), (d0, .inr (kA 6, kA 1, 4, 60, .inl dls)), (d1, .inr (kA 6, kA 1, 4, 60, .inl dms)), (d2, .inl (.inl (kA 3, 4, .inl dnd))), (s, .inl (.inr (5, [.ref s0, .ref s1, .ref s2, .ref s3, .ref s4, .ref s5, .ref s6, .ref s7, .ref s8, .ref s9, .ref s10, .ref s11, .int (nI sn), .int (nI sl), .int (nI se)]))), (s1, .inl (.inl (kA 1, 6, .inl sc1))), (s2, .inl (.inl (kA 1, 6, .inl sc2))), (s3, .inl (.inl (kA 1, 6, .inl sc3))), (s5, .inl (.inl (kA 1, 10, .inl sc5))), (s6, .inr (kA 6, kA 1, 10, 5, .inl sc6)), (s7, .inl (.inl (kA 1, 10, .inl sc7))), (s8, .inr (kA 6, kA 1, 10, 2, .inl sc8)), (s10, .inl (.inl (kA 1, 4, .inl sc10))), (s11, .inl (.inl (kA 1, 4, .inl sc11)))]) [(0, .ref d), (1, .ref s), (2, .int (nI ld)), (3, .int (nI tk)), (4, .int (nI mo))] 0 0 0 []
  refine j_iconst (v := 0) h (by decide) dX0_costOf_0 ?_
  refine j_istore (lv' := [(5, .int 0), (0, .ref d), (1, .ref s), (2, .int (nI ld)), (3, .int (nI tk)), (4, .int (nI mo))]) h dX0_costOf_1 (by decide) rfl ?_
  refine j_iconst (v := 0) h (by decide) dX0_costOf_3 ?_
  refine j_istore (lv' := [(6, .int 0), (5, .int 0), (0, .ref d), (1, .ref s), (2, .int (nI ld)), (3, .int (nI tk)), (4, .int (nI mo))]) h dX0_costOf_4 (by decide) rfl ?_
  have lp6_85030 : ∀ (m6_85030 : Nat), ∀ (v6_6_85030 : Nat) (v5_6_85030 : Nat), (v5_6_85030 = coV ND LO HI (fun e => ld - D 9 e) tk mo v6_6_85030) → (v5_6_85030 ≤ 100 * v6_6_85030) → (v6_6_85030 ≤ se) → (v6_6_85030 ≤ 100000) → (v5_6_85030 ≤ 100000) → se - v6_6_85030 < m6_85030 → J x (mflat [(d, .inl (.inr (0, [.ref d0, .ref d1, .ref d2]))), (d0, .inr (kA 6, kA 1, 4, 60, .inl dls)), (d1, .inr (kA 6, kA 1, 4, 60, .inl dms)), (d2, .inl (.inl (kA 3, 4, .inl dnd))), (s, .inl (.inr (5, [.ref s0, .ref s1, .ref s2, .ref s3, .ref s4, .ref s5, .ref s6, .ref s7, .ref s8, .ref s9, .ref s10, .ref s11, .int (nI sn), .int (nI sl), .int (nI se)]))), (s1, .inl (.inl (kA 1, 6, .inl sc1))), (s2, .inl (.inl (kA 1, 6, .inl sc2))), (s3, .inl (.inl (kA 1, 6, .inl sc3))), (s5, .inl (.inl (kA 1, 10, .inl sc5))), (s6, .inr (kA 6, kA 1, 10, 5, .inl sc6)), (s7, .inl (.inl (kA 1, 10, .inl sc7))), (s8, .inr (kA 6, kA 1, 10, 2, .inl sc8)), (s10, .inl (.inl (kA 1, 4, .inl sc10))), (s11, .inl (.inl (kA 1, 4, .inl sc11)))]) [(6, .int (nI v6_6_85030)), (5, .int (nI v5_6_85030)), (0, .ref d), (1, .ref s), (2, .int (nI ld)), (3, .int (nI tk)), (4, .int (nI mo))] 0 0 6 [] := by
    intro m6_85030
    induction m6_85030 with
    | zero =>
      intro v6_6_85030 v5_6_85030 i6_85030_0 i6_85030_1 i6_85030_2 i6_85030_3 i6_85030_4 hm6_85030
      exact absurd hm6_85030 (Nat.not_lt_zero _)
    | succ m6_85030 ih6_85030 =>
      intro v6_6_85030 v5_6_85030 i6_85030_0 i6_85030_1 i6_85030_2 i6_85030_3 i6_85030_4 hm6_85030
      refine j_iload h 0 rfl dX0_costOf_6 ?_
      refine j_aload_n h 3 rfl rfl dX0_costOf_8 ?_
      refine jm_get h iw_X5 4 rfl rfl 14 (by decide +kernel) tw_230 rfl dX0_costOf_9 ?_
      refine j_icmp_ge h 56 dX0_costOf_12 (by decide) (fun z850217 => ?_) (fun z850217 => ?_)
      · have z850217n : se ≤ v6_6_85030 := (nI_leI (a := se) (b := v6_6_85030) (by omega) (by omega)).mp z850217
        refine j_iload h 1 rfl dX0_costOf_56 ?_
        refine j_bipush (v := 100) h (by decide) dX0_costOf_58 ?_
        refine j_mmin h tw_832 tw_809 tw_105 tw_810 (Nat.le_of_ble_eq_true rfl) (Nat.le_of_ble_eq_true rfl) (Nat.le_of_ble_eq_true rfl) (Nat.le_of_ble_eq_true rfl) (Nat.le_of_ble_eq_true rfl) dX0_costOf_60 ?_
        refine j_top (b := nI (min v5_6_85030 100)) (nx_min (a := v5_6_85030) (b := 100) (by omega) (by omega)) ?_
        exact jm_iret h hq dX0_costOf_63 (min v5_6_85030 100) [0, 1, 2, 3, 4, 5, 6, 7, 8, 9, 10, 11, 12, 13] rfl (by decide) ⟨rfl, (show (min v5_6_85030 100) ≤ 100 by first | assumption | omega), (show (min v5_6_85030 100) = min 100 (coV ND LO HI (fun e => ld - D 9 e) tk mo se) from (by rw [show se = v6_6_85030 by omega, ← i6_85030_0]; omega))⟩ (Nat.le_of_ble_eq_true rfl) (Nat.le_of_ble_eq_true rfl)
      · have z850217n : ¬ se ≤ v6_6_85030 := fun q9 => z850217 ((nI_leI (a := se) (b := v6_6_85030) (by omega) (by omega)).mpr q9)
        refine j_iload h 1 rfl dX0_costOf_15 ?_
        refine j_aload_n h 2 rfl rfl dX0_costOf_17 ?_
        refine jm_get h iw_X0 0 rfl rfl 2 (by decide +kernel) tw_359 rfl dX0_costOf_18 ?_
        refine j_iload h 0 rfl dX0_costOf_21 ?_
        refine jm_zald h 3 rfl v6_6_85030 rfl (by omega) (by omega) dX0_costOf_23 ?_
        have u850218 := (hbd v6_6_85030 (by omega)).1.2
        refine j_top (b := nI (ND v6_6_85030)) ((hbd v6_6_85030 (by omega)).1.1) ?_
        refine j_if_eq h 46 dX0_costOf_24 (by decide) (fun z850219 => ?_) (fun z850219 => ?_)
        · have z850219n : (ND v6_6_85030) = 0 := (nI_eq (a := (ND v6_6_85030)) (b := 0) (by omega) (by omega)).mp z850219
          refine j_iconst (v := 0) h (by decide) dX0_costOf_46 ?_
          refine j_iadd h dX0_costOf_47 ?_
          refine j_top (b := nI (v5_6_85030 + 0)) (nI_add v5_6_85030 0) ?_
          refine j_istore (lv' := [(5, .int (nI (v5_6_85030 + 0))), (6, .int (nI v6_6_85030)), (0, .ref d), (1, .ref s), (2, .int (nI ld)), (3, .int (nI tk)), (4, .int (nI mo))]) h dX0_costOf_48 (by decide) rfl ?_
          refine j_iinc (v := nI (v6_6_85030 + 1)) (lv' := [(6, .int (nI (v6_6_85030 + 1))), (5, .int (nI (v5_6_85030 + 0))), (0, .ref d), (1, .ref s), (2, .int (nI ld)), (3, .int (nI tk)), (4, .int (nI mo))]) h dX0_costOf_50 1 rfl (nI_add v6_6_85030 1) (by decide) rfl ?_
          refine j_goto h 6 dX0_costOf_53 (by decide) ?_
          refine jm_sub [0, 1, 2, 3, 4, 5, 6, 7, 8, 9, 10, 11, 12, 13] (w' := [(d, .inl (.inr (0, [.ref d0, .ref d1, .ref d2]))), (d0, .inr (kA 6, kA 1, 4, 60, .inl dls)), (d1, .inr (kA 6, kA 1, 4, 60, .inl dms)), (d2, .inl (.inl (kA 3, 4, .inl dnd))), (s, .inl (.inr (5, [.ref s0, .ref s1, .ref s2, .ref s3, .ref s4, .ref s5, .ref s6, .ref s7, .ref s8, .ref s9, .ref s10, .ref s11, .int (nI sn), .int (nI sl), .int (nI se)]))), (s1, .inl (.inl (kA 1, 6, .inl sc1))), (s2, .inl (.inl (kA 1, 6, .inl sc2))), (s3, .inl (.inl (kA 1, 6, .inl sc3))), (s5, .inl (.inl (kA 1, 10, .inl sc5))), (s6, .inr (kA 6, kA 1, 10, 5, .inl sc6)), (s7, .inl (.inl (kA 1, 10, .inl sc7))), (s8, .inr (kA 6, kA 1, 10, 2, .inl sc8)), (s10, .inl (.inl (kA 1, 4, .inl sc10))), (s11, .inl (.inl (kA 1, 4, .inl sc11)))]) rfl (by decide +kernel) [0, 1, 2, 3, 4, 5, 6] (lv' := [(6, .int (nI (v6_6_85030 + 1))), (5, .int (nI (v5_6_85030 + 0))), (0, .ref d), (1, .ref s), (2, .int (nI ld)), (3, .int (nI tk)), (4, .int (nI mo))]) rfl ?_
          exact ih6_85030 (v6_6_85030 + 1) (v5_6_85030 + 0) (show (v5_6_85030 + 0) = coV ND LO HI (fun e => ld - D 9 e) tk mo (v6_6_85030 + 1) from (by rw [coV_n (by omega)]; omega)) (show (v5_6_85030 + 0) ≤ 100 * (v6_6_85030 + 1) by first | assumption | omega) (show (v6_6_85030 + 1) ≤ se by first | assumption | omega) (show (v6_6_85030 + 1) ≤ 100000 by first | assumption | omega) (show (v5_6_85030 + 0) ≤ 100000 by first | assumption | omega) (show se - (v6_6_85030 + 1) < m6_85030 by omega)
        · have z850219n : ¬ (ND v6_6_85030) = 0 := fun q9 => z850219 ((nI_eq (a := (ND v6_6_85030)) (b := 0) (by omega) (by omega)).mpr q9)
          refine j_aload_n h 2 rfl rfl dX0_costOf_27 ?_
          refine j_iload h 0 rfl dX0_costOf_28 ?_
          refine j_aload_n h 3 rfl rfl dX0_costOf_30 ?_
          refine j_iload_n h 4 rfl rfl dX0_costOf_31 ?_
          refine j_iload h 0 rfl dX0_costOf_32 ?_
          refine jm_callVi (np := 2) (isC := [4, 12]) (isR := [0, 1, 2, 3, 5, 6, 7, 8, 9, 10, 11, 13]) (wc := [(s, .inl (.inr (5, [.ref s0, .ref s1, .ref s2, .ref s3, .ref s4, .ref s5, .ref s6, .ref s7, .ref s8, .ref s9, .ref s10, .ref s11, .int (nI sn), .int (nI sl), .int (nI se)]))), (s10, .inl (.inl (kA 1, 4, .inl sc10)))]) (wr := [(d, .inl (.inr (0, [.ref d0, .ref d1, .ref d2]))), (d0, .inr (kA 6, kA 1, 4, 60, .inl dls)), (d1, .inr (kA 6, kA 1, 4, 60, .inl dms)), (d2, .inl (.inl (kA 3, 4, .inl dnd))), (s1, .inl (.inl (kA 1, 6, .inl sc1))), (s2, .inl (.inl (kA 1, 6, .inl sc2))), (s3, .inl (.inl (kA 1, 6, .inl sc3))), (s5, .inl (.inl (kA 1, 10, .inl sc5))), (s6, .inr (kA 6, kA 1, 10, 5, .inl sc6)), (s7, .inl (.inl (kA 1, 10, .inl sc7))), (s8, .inr (kA 6, kA 1, 10, 2, .inl sc8)), (s11, .inl (.inl (kA 1, 4, .inl sc11)))]) (rest := [.int (nI v6_6_85030), .ref d, .int (nI v5_6_85030)]) (As := [.int (nI ld), .int (nI v6_6_85030)]) (q0 := 0) h (s_X5_heardBelowF _ _ kA s ld v6_6_85030 s0 s1 s2 s3 s4 s5 s6 s7 s8 s9 s10 s11 sn sl se sc10 (D 9 v6_6_85030) (show se ≤ 4 by first | assumption | omega) (show v6_6_85030 < se by first | assumption | omega) (show ld ≤ 9 by first | assumption | omega) (show sc10 v6_6_85030 = nI (D 9 v6_6_85030) from (hSc.2.2.2.2.2 v6_6_85030 (by omega)).1) (show (D 9 v6_6_85030) ≤ 9 from hD.2.2.2.2.2.1 v6_6_85030 (by rw [← hSc.2.2.1]; omega))) tw_846 tw_798 tw_799 tw_90 tw_800 (by decide +kernel) rfl ⟨Nat.le_of_ble_eq_true rfl, Nat.le_of_ble_eq_true rfl⟩ rfl rfl (by decide +kernel) rfl rfl (by decide +kernel) (by decide +kernel) (Nat.le_of_ble_eq_true rfl) rfl ⟨Nat.le_of_ble_eq_true rfl, Nat.le_of_ble_eq_true rfl⟩ dX0_costOf_34 ?_
          rintro r850222 q850220 e850221
          obtain ⟨p850223, p850224⟩ := e850221
          subst p850223
          replace p850224 : q850220 = ld - (D 9 v6_6_85030) := p850224
          show J x (mflat [(d, .inl (.inr (0, [.ref d0, .ref d1, .ref d2]))), (d0, .inr (kA 6, kA 1, 4, 60, .inl dls)), (d1, .inr (kA 6, kA 1, 4, 60, .inl dms)), (d2, .inl (.inl (kA 3, 4, .inl dnd))), (s1, .inl (.inl (kA 1, 6, .inl sc1))), (s2, .inl (.inl (kA 1, 6, .inl sc2))), (s3, .inl (.inl (kA 1, 6, .inl sc3))), (s5, .inl (.inl (kA 1, 10, .inl sc5))), (s6, .inr (kA 6, kA 1, 10, 5, .inl sc6)), (s7, .inl (.inl (kA 1, 10, .inl sc7))), (s8, .inr (kA 6, kA 1, 10, 2, .inl sc8)), (s11, .inl (.inl (kA 1, 4, .inl sc11))), (s, .inl (.inr (5, [.ref s0, .ref s1, .ref s2, .ref s3, .ref s4, .ref s5, .ref s6, .ref s7, .ref s8, .ref s9, .ref s10, .ref s11, .int (nI sn), .int (nI sl), .int (nI se)]))), (s10, .inl (.inl (kA 1, 4, .inl sc10)))]) [(6, .int (nI v6_6_85030)), (5, .int (nI v5_6_85030)), (0, .ref d), (1, .ref s), (2, .int (nI ld)), (3, .int (nI tk)), (4, .int (nI mo))] 0 0 37 [.int (nI q850220), .int (nI v6_6_85030), .ref d, .int (nI v5_6_85030)]
          refine j_iload_n h 5 rfl rfl dX0_costOf_37 ?_
          refine j_iload h 6 rfl dX0_costOf_38 ?_
          refine jm_callVi (np := 4) (isC := [0, 1, 2, 3]) (isR := [4, 5, 6, 7, 8, 9, 10, 11, 12, 13]) (wc := [(d, .inl (.inr (0, [.ref d0, .ref d1, .ref d2]))), (d0, .inr (kA 6, kA 1, 4, 60, .inl dls)), (d1, .inr (kA 6, kA 1, 4, 60, .inl dms)), (d2, .inl (.inl (kA 3, 4, .inl dnd)))]) (wr := [(s1, .inl (.inl (kA 1, 6, .inl sc1))), (s2, .inl (.inl (kA 1, 6, .inl sc2))), (s3, .inl (.inl (kA 1, 6, .inl sc3))), (s5, .inl (.inl (kA 1, 10, .inl sc5))), (s6, .inr (kA 6, kA 1, 10, 5, .inl sc6)), (s7, .inl (.inl (kA 1, 10, .inl sc7))), (s8, .inr (kA 6, kA 1, 10, 2, .inl sc8)), (s11, .inl (.inl (kA 1, 4, .inl sc11))), (s, .inl (.inr (5, [.ref s0, .ref s1, .ref s2, .ref s3, .ref s4, .ref s5, .ref s6, .ref s7, .ref s8, .ref s9, .ref s10, .ref s11, .int (nI sn), .int (nI sl), .int (nI se)]))), (s10, .inl (.inl (kA 1, 4, .inl sc10)))]) (rest := [.int (nI v5_6_85030)]) (As := [.int (nI v6_6_85030), .int (nI q850220), .int (nI tk), .int (nI mo)]) (q0 := 0) h (s_X0_costToF _ _ kA d v6_6_85030 q850220 tk mo d0 d1 d2 dls dms dnd ND LO HI (show BdV ND LO HI dnd dls dms by first | assumption | omega) (show v6_6_85030 < 4 by first | assumption | omega) (show ND v6_6_85030 = 1 by first | assumption | omega) (show q850220 ≤ 9 by first | assumption | omega) (show 1 ≤ tk by first | assumption | omega) (show tk ≤ 9 by first | assumption | omega) (show mo + tk ≤ 60 by first | assumption | omega)) tw_847 tw_849 tw_17 tw_94 tw_850 (by decide +kernel) rfl ⟨Nat.le_of_ble_eq_true rfl, Nat.le_of_ble_eq_true rfl⟩ rfl rfl (by decide +kernel) rfl rfl (by decide +kernel) (by decide +kernel) (Nat.le_of_ble_eq_true rfl) rfl ⟨Nat.le_of_ble_eq_true rfl, Nat.le_of_ble_eq_true rfl⟩ dX0_costOf_40 ?_
          rintro r850227 q850225 e850226
          obtain ⟨p850228, p850229, p850230⟩ := e850226
          subst p850228
          replace p850229 : q850225 ≤ 100 := p850229
          replace p850230 : q850225 = ctV LO HI v6_6_85030 q850220 tk mo := p850230
          show J x (mflat [(s1, .inl (.inl (kA 1, 6, .inl sc1))), (s2, .inl (.inl (kA 1, 6, .inl sc2))), (s3, .inl (.inl (kA 1, 6, .inl sc3))), (s5, .inl (.inl (kA 1, 10, .inl sc5))), (s6, .inr (kA 6, kA 1, 10, 5, .inl sc6)), (s7, .inl (.inl (kA 1, 10, .inl sc7))), (s8, .inr (kA 6, kA 1, 10, 2, .inl sc8)), (s11, .inl (.inl (kA 1, 4, .inl sc11))), (s, .inl (.inr (5, [.ref s0, .ref s1, .ref s2, .ref s3, .ref s4, .ref s5, .ref s6, .ref s7, .ref s8, .ref s9, .ref s10, .ref s11, .int (nI sn), .int (nI sl), .int (nI se)]))), (s10, .inl (.inl (kA 1, 4, .inl sc10))), (d, .inl (.inr (0, [.ref d0, .ref d1, .ref d2]))), (d0, .inr (kA 6, kA 1, 4, 60, .inl dls)), (d1, .inr (kA 6, kA 1, 4, 60, .inl dms)), (d2, .inl (.inl (kA 3, 4, .inl dnd)))]) [(6, .int (nI v6_6_85030)), (5, .int (nI v5_6_85030)), (0, .ref d), (1, .ref s), (2, .int (nI ld)), (3, .int (nI tk)), (4, .int (nI mo))] 0 0 43 [.int (nI q850225), .int (nI v5_6_85030)]
          refine j_goto h 47 dX0_costOf_43 (by decide) ?_
          refine j_iadd h dX0_costOf_47 ?_
          refine j_top (b := nI (v5_6_85030 + q850225)) (nI_add v5_6_85030 q850225) ?_
          refine j_istore (lv' := [(5, .int (nI (v5_6_85030 + q850225))), (6, .int (nI v6_6_85030)), (0, .ref d), (1, .ref s), (2, .int (nI ld)), (3, .int (nI tk)), (4, .int (nI mo))]) h dX0_costOf_48 (by decide) rfl ?_
          refine j_iinc (v := nI (v6_6_85030 + 1)) (lv' := [(6, .int (nI (v6_6_85030 + 1))), (5, .int (nI (v5_6_85030 + q850225))), (0, .ref d), (1, .ref s), (2, .int (nI ld)), (3, .int (nI tk)), (4, .int (nI mo))]) h dX0_costOf_50 1 rfl (nI_add v6_6_85030 1) (by decide) rfl ?_
          refine j_goto h 6 dX0_costOf_53 (by decide) ?_
          refine jm_sub [10, 11, 12, 13, 8, 0, 1, 2, 3, 4, 5, 6, 9, 7] (w' := [(d, .inl (.inr (0, [.ref d0, .ref d1, .ref d2]))), (d0, .inr (kA 6, kA 1, 4, 60, .inl dls)), (d1, .inr (kA 6, kA 1, 4, 60, .inl dms)), (d2, .inl (.inl (kA 3, 4, .inl dnd))), (s, .inl (.inr (5, [.ref s0, .ref s1, .ref s2, .ref s3, .ref s4, .ref s5, .ref s6, .ref s7, .ref s8, .ref s9, .ref s10, .ref s11, .int (nI sn), .int (nI sl), .int (nI se)]))), (s1, .inl (.inl (kA 1, 6, .inl sc1))), (s2, .inl (.inl (kA 1, 6, .inl sc2))), (s3, .inl (.inl (kA 1, 6, .inl sc3))), (s5, .inl (.inl (kA 1, 10, .inl sc5))), (s6, .inr (kA 6, kA 1, 10, 5, .inl sc6)), (s7, .inl (.inl (kA 1, 10, .inl sc7))), (s8, .inr (kA 6, kA 1, 10, 2, .inl sc8)), (s10, .inl (.inl (kA 1, 4, .inl sc10))), (s11, .inl (.inl (kA 1, 4, .inl sc11)))]) rfl (by decide +kernel) [0, 1, 2, 3, 4, 5, 6] (lv' := [(6, .int (nI (v6_6_85030 + 1))), (5, .int (nI (v5_6_85030 + q850225))), (0, .ref d), (1, .ref s), (2, .int (nI ld)), (3, .int (nI tk)), (4, .int (nI mo))]) rfl ?_
          exact ih6_85030 (v6_6_85030 + 1) (v5_6_85030 + q850225) (show (v5_6_85030 + q850225) = coV ND LO HI (fun e => ld - D 9 e) tk mo (v6_6_85030 + 1) from (by rw [coV_y (by omega), ← i6_85030_0, p850230, p850224])) (show (v5_6_85030 + q850225) ≤ 100 * (v6_6_85030 + 1) by first | assumption | omega) (show (v6_6_85030 + 1) ≤ se by first | assumption | omega) (show (v6_6_85030 + 1) ≤ 100000 by first | assumption | omega) (show (v5_6_85030 + q850225) ≤ 100000 by first | assumption | omega) (show se - (v6_6_85030 + 1) < m6_85030 by omega)
  refine jm_sub [0, 1, 2, 3, 4, 5, 6, 7, 8, 9, 10, 11, 12, 13] (w' := [(d, .inl (.inr (0, [.ref d0, .ref d1, .ref d2]))), (d0, .inr (kA 6, kA 1, 4, 60, .inl dls)), (d1, .inr (kA 6, kA 1, 4, 60, .inl dms)), (d2, .inl (.inl (kA 3, 4, .inl dnd))), (s, .inl (.inr (5, [.ref s0, .ref s1, .ref s2, .ref s3, .ref s4, .ref s5, .ref s6, .ref s7, .ref s8, .ref s9, .ref s10, .ref s11, .int (nI sn), .int (nI sl), .int (nI se)]))), (s1, .inl (.inl (kA 1, 6, .inl sc1))), (s2, .inl (.inl (kA 1, 6, .inl sc2))), (s3, .inl (.inl (kA 1, 6, .inl sc3))), (s5, .inl (.inl (kA 1, 10, .inl sc5))), (s6, .inr (kA 6, kA 1, 10, 5, .inl sc6)), (s7, .inl (.inl (kA 1, 10, .inl sc7))), (s8, .inr (kA 6, kA 1, 10, 2, .inl sc8)), (s10, .inl (.inl (kA 1, 4, .inl sc10))), (s11, .inl (.inl (kA 1, 4, .inl sc11)))]) rfl (by decide +kernel) [0, 1, 2, 3, 4, 5, 6] (lv' := [(6, .int 0), (5, .int 0), (0, .ref d), (1, .ref s), (2, .int (nI ld)), (3, .int (nI tk)), (4, .int (nI mo))]) rfl ?_
  exact lp6_85030 (se - 0 + 1) 0 0 (show 0 = coV ND LO HI (fun e => ld - D 9 e) tk mo 0 from rfl) (show 0 ≤ 100 * 0 by first | assumption | omega) (show 0 ≤ se by first | assumption | omega) (show 0 ≤ 100000 by first | assumption | omega) (show 0 ≤ 100000 by first | assumption | omega) (Nat.lt_succ_self _)
set_option maxHeartbeats 4000000 in
set_option maxRecDepth 100000 in
theorem s_X3_fillStepsF (lau : Launch) (gg : va_G) (kA : Nat → ClassId) (g : Nat) (s : Nat) (lo : Nat) (d : Nat) (wt : Nat) (g0 : Nat) (g1 : Nat) (g2 : Nat) (g3 : Nat) (g4 : Nat) (g5 : Nat) (g6 : Nat) (g7 : Nat) (gn0 : Int32) (gt0 : Int32) (gm0 : Int32) (gtk : Nat → Int32) (gaf : Nat → Nat → Int32) (gco : Nat → Nat → Int32) (s0 : Nat) (s1 : Nat) (s2 : Nat) (s3 : Nat) (s4 : Nat) (s5 : Nat) (s6 : Nat) (s7 : Nat) (s8 : Nat) (s9 : Nat) (s10 : Nat) (s11 : Nat) (sn : Nat) (sl : Nat) (se : Nat) (sc1 : Nat → Int32) (sc2 : Nat → Int32) (sc3 : Nat → Int32) (sc5 : Nat → Int32) (sc6 : Nat → Nat → Int32) (sc7 : Nat → Int32) (sc8 : Nat → Nat → Int32) (sc10 : Nat → Int32) (sc11 : Nat → Int32) (lof : Nat → Int32) (d0 : Nat) (d1 : Nat) (d2 : Nat) (dls : Nat → Nat → Int32) (dms : Nat → Nat → Int32) (dnd : Nat → Int32) (D : Nat → Nat → Nat) (ND : Nat → Nat) (LO : Nat → Nat → Nat) (HI : Nat → Nat → Nat) (EE : Nat → Nat) (hsn : sn ≤ 6) (hsl : sl ≤ 10) (hse : se ≤ 4) (hstk : TkOk sn sc1) (hssz : SzOk sl sc5) (hsrw : RwOk sl sn sc5 sc6) (hslt : LtOk sl sc7) (hsla : FtOk sl sc8) (hsls : LsOk sl sc5 sc6 sc1 sc7) (hSc : ScR D sn sl se sc1 sc2 sc3 sc5 sc6 sc7 sc8 sc10 sc11) (hD : DOk D) (hbd : BdV ND LO HI dnd dls dms) (hlo : ∀ k, k < sn → lof k = nI (EE k) ∧ EE k ≤ 9) (hwt : wt ≤ 60) : CtV lau yX3_fillSteps cX3_fillSteps 8 (none) 4 0 0 gg kA [.ref g, .ref s, .ref lo, .ref d, .int (nI wt)] (mflat [(g, .inl (.inr (3, [.ref g0, .ref g1, .ref g2, .ref g3, .ref g4, .ref g5, .ref g6, .ref g7, .int gn0, .int gt0, .int gm0]))), (g0, .inl (.inl (kA 1, 6, .inl gtk))), (g1, .inr (kA 6, kA 1, 6, 2, .inl gaf)), (g2, .inr (kA 6, kA 1, 6, 60, .inl gco)), (s, .inl (.inr (5, [.ref s0, .ref s1, .ref s2, .ref s3, .ref s4, .ref s5, .ref s6, .ref s7, .ref s8, .ref s9, .ref s10, .ref s11, .int (nI sn), .int (nI sl), .int (nI se)]))), (s1, .inl (.inl (kA 1, 6, .inl sc1))), (s2, .inl (.inl (kA 1, 6, .inl sc2))), (s3, .inl (.inl (kA 1, 6, .inl sc3))), (s5, .inl (.inl (kA 1, 10, .inl sc5))), (s6, .inr (kA 6, kA 1, 10, 5, .inl sc6)), (s7, .inl (.inl (kA 1, 10, .inl sc7))), (s8, .inr (kA 6, kA 1, 10, 2, .inl sc8)), (s10, .inl (.inl (kA 1, 4, .inl sc10))), (s11, .inl (.inl (kA 1, 4, .inl sc11))), (lo, .inl (.inl (kA 1, 6, .inl lof))), (d, .inl (.inr (0, [.ref d0, .ref d1, .ref d2]))), (d0, .inr (kA 6, kA 1, 4, 60, .inl dls)), (d1, .inr (kA 6, kA 1, 4, 60, .inl dms)), (d2, .inl (.inl (kA 3, 4, .inl dnd)))]) (S := (Nat → Int32) × (Nat → Nat → Int32) × (Nat → Nat → Int32)) (fun ((y_g0, y_g1, y_g2) : (Nat → Int32) × (Nat → Nat → Int32) × (Nat → Nat → Int32)) => GdR sn wt (D 4) (aS D) (fsC D EE ND LO HI wt) y_g0 y_g1 y_g2) (fun ((y_g0, y_g1, y_g2) : (Nat → Int32) × (Nat → Nat → Int32) × (Nat → Nat → Int32)) => mflat [(g, .inl (.inr (3, [.ref g0, .ref g1, .ref g2, .ref g3, .ref g4, .ref g5, .ref g6, .ref g7, .int (nI sn), .int gt0, .int gm0]))), (g0, .inl (.inl (kA 1, 6, .inl y_g0))), (g1, .inr (kA 6, kA 1, 6, 2, .inl y_g1)), (g2, .inr (kA 6, kA 1, 6, 60, .inl y_g2)), (s, .inl (.inr (5, [.ref s0, .ref s1, .ref s2, .ref s3, .ref s4, .ref s5, .ref s6, .ref s7, .ref s8, .ref s9, .ref s10, .ref s11, .int (nI sn), .int (nI sl), .int (nI se)]))), (s1, .inl (.inl (kA 1, 6, .inl sc1))), (s2, .inl (.inl (kA 1, 6, .inl sc2))), (s3, .inl (.inl (kA 1, 6, .inl sc3))), (s5, .inl (.inl (kA 1, 10, .inl sc5))), (s6, .inr (kA 6, kA 1, 10, 5, .inl sc6)), (s7, .inl (.inl (kA 1, 10, .inl sc7))), (s8, .inr (kA 6, kA 1, 10, 2, .inl sc8)), (s10, .inl (.inl (kA 1, 4, .inl sc10))), (s11, .inl (.inl (kA 1, 4, .inl sc11))), (lo, .inl (.inl (kA 1, 6, .inl lof))), (d, .inl (.inr (0, [.ref d0, .ref d1, .ref d2]))), (d0, .inr (kA 6, kA 1, 4, 60, .inl dls)), (d1, .inr (kA 6, kA 1, 4, 60, .inl dms)), (d2, .inl (.inl (kA 3, 4, .inl dnd)))]) := by
  refine nx_startV (by decide +kernel) (Nat.le_of_ble_eq_true rfl) ?_
  intro x hnm h hq
  have h : Ok x cX3_fillSteps RX3 kA (rmC 4 0 0) 8 := h
  show J x (mflat [(g, .inl (.inr (3, [.ref g0, .ref g1, .ref g2, .ref g3, .ref g4, .ref g5, .ref g6, .ref g7, .int gn0, .int gt0, .int gm0]))), (g0, .inl (.inl (kA 1, 6, .inl gtk))), (g1, .inr (kA 6, kA 1, 6, 2, .inl gaf)), (g2, .inr (kA 6, kA 1, 6, 60, .inl gco)), (s, .inl (.inr (5, [.ref s0, .ref s1, .ref s2, .ref s3, .ref s4, .ref s5, .ref s6, .ref s7, .ref s8, .ref s9, .ref s10, .ref s11, .int (nI sn), .int (nI sl), .int (nI se)]))), (s1, .inl (.inl (kA 1, 6, .inl sc1))), (s2, .inl (.inl (kA 1, 6, .inl sc2))), (s3, .inl (.inl (kA 1, 6, .inl sc3))), (s5, .inl (.inl (kA 1, 10, .inl sc5))), (s6, .inr (kA 6, kA 1, 10, 5, .inl sc6)), (s7, .inl (.inl (kA 1, 10, .inl sc7))), (s8, .inr (kA 6, kA 1, 10, 2, .inl sc8)), (s10, .inl (.inl (kA 1, 4, .inl sc10))), (s11, .inl (.inl (kA 1, 4, .inl sc11))), (lo, .inl (.inl (kA 1, 6, .inl lof))), (d, .inl (.inr (0, [.ref d0, .ref d1, .ref d2]))), (d0, .inr (kA 6, kA 1, 4, 60, .inl dls)), (d1, .inr (kA 6, kA 1, 4, 60, .inl dms)), (d2, .inl (.inl (kA 3, 4, .inl dnd)))]) [(0, .ref g), (1, .ref s), (2, .ref lo), (3, .ref d), (4, .int (nI wt))] 0 0 0 []
  refine j_aload_n h 0 rfl rfl dX3_fillSteps_0 ?_
  refine j_aload_n h 1 rfl rfl dX3_fillSteps_1 ?_
  refine jm_callVv (np := 1) (isC := [0, 1, 2, 4, 5, 6, 7, 8, 9, 10, 11, 12, 13]) (isR := [3, 14, 15, 16, 17, 18]) (wc := [(g, .inl (.inr (3, [.ref g0, .ref g1, .ref g2, .ref g3, .ref g4, .ref g5, .ref g6, .ref g7, .int gn0, .int gt0, .int gm0]))), (g0, .inl (.inl (kA 1, 6, .inl gtk))), (g1, .inr (kA 6, kA 1, 6, 2, .inl gaf)), (s, .inl (.inr (5, [.ref s0, .ref s1, .ref s2, .ref s3, .ref s4, .ref s5, .ref s6, .ref s7, .ref s8, .ref s9, .ref s10, .ref s11, .int (nI sn), .int (nI sl), .int (nI se)]))), (s1, .inl (.inl (kA 1, 6, .inl sc1))), (s2, .inl (.inl (kA 1, 6, .inl sc2))), (s3, .inl (.inl (kA 1, 6, .inl sc3))), (s5, .inl (.inl (kA 1, 10, .inl sc5))), (s6, .inr (kA 6, kA 1, 10, 5, .inl sc6)), (s7, .inl (.inl (kA 1, 10, .inl sc7))), (s8, .inr (kA 6, kA 1, 10, 2, .inl sc8)), (s10, .inl (.inl (kA 1, 4, .inl sc10))), (s11, .inl (.inl (kA 1, 4, .inl sc11)))]) (wr := [(g2, .inr (kA 6, kA 1, 6, 60, .inl gco)), (lo, .inl (.inl (kA 1, 6, .inl lof))), (d, .inl (.inr (0, [.ref d0, .ref d1, .ref d2]))), (d0, .inr (kA 6, kA 1, 4, 60, .inl dls)), (d1, .inr (kA 6, kA 1, 4, 60, .inl dms)), (d2, .inl (.inl (kA 3, 4, .inl dnd)))]) (rest := []) (As := [.ref s]) (q0 := 0) h (s_X3_takeStepsF _ _ kA g s g0 g1 g2 g3 g4 g5 g6 g7 gn0 gt0 gm0 gtk gaf s0 s1 s2 s3 s4 s5 s6 s7 s8 s9 s10 s11 sn sl se sc1 sc2 sc3 sc5 sc6 sc7 sc8 sc10 sc11 D (show sn ≤ 6 by first | assumption | omega) (show sl ≤ 10 by first | assumption | omega) (show se ≤ 4 by first | assumption | omega) (show TkOk sn sc1 by first | assumption | omega) (show SzOk sl sc5 by first | assumption | omega) (show RwOk sl sn sc5 sc6 by first | assumption | omega) (show LtOk sl sc7 by first | assumption | omega) (show FtOk sl sc8 by first | assumption | omega) (show LsOk sl sc5 sc6 sc1 sc7 by first | assumption | omega) (show ScR D sn sl se sc1 sc2 sc3 sc5 sc6 sc7 sc8 sc10 sc11 by first | assumption | omega) (show DOk D by first | assumption | omega)) tw_837 tw_839 tw_16 tw_95 tw_840 (by decide +kernel) rfl ⟨Nat.le_of_ble_eq_true rfl, Nat.le_of_ble_eq_true rfl⟩ rfl rfl (by decide +kernel) rfl rfl (by decide +kernel) (by decide +kernel) (Nat.le_of_ble_eq_true rfl) rfl ⟨Nat.le_of_ble_eq_true rfl, Nat.le_of_ble_eq_true rfl⟩ dX3_fillSteps_2 ?_
  rintro ⟨q850329, q850330⟩ e850331
  have p850333 := e850331
  replace p850333 : StG D sn q850329 q850330 := p850333
  show J x (mflat [(g2, .inr (kA 6, kA 1, 6, 60, .inl gco)), (lo, .inl (.inl (kA 1, 6, .inl lof))), (d, .inl (.inr (0, [.ref d0, .ref d1, .ref d2]))), (d0, .inr (kA 6, kA 1, 4, 60, .inl dls)), (d1, .inr (kA 6, kA 1, 4, 60, .inl dms)), (d2, .inl (.inl (kA 3, 4, .inl dnd))), (g, .inl (.inr (3, [.ref g0, .ref g1, .ref g2, .ref g3, .ref g4, .ref g5, .ref g6, .ref g7, .int (nI sn), .int gt0, .int gm0]))), (g0, .inl (.inl (kA 1, 6, .inl q850329))), (g1, .inr (kA 6, kA 1, 6, 2, .inl q850330)), (s, .inl (.inr (5, [.ref s0, .ref s1, .ref s2, .ref s3, .ref s4, .ref s5, .ref s6, .ref s7, .ref s8, .ref s9, .ref s10, .ref s11, .int (nI sn), .int (nI sl), .int (nI se)]))), (s1, .inl (.inl (kA 1, 6, .inl sc1))), (s2, .inl (.inl (kA 1, 6, .inl sc2))), (s3, .inl (.inl (kA 1, 6, .inl sc3))), (s5, .inl (.inl (kA 1, 10, .inl sc5))), (s6, .inr (kA 6, kA 1, 10, 5, .inl sc6)), (s7, .inl (.inl (kA 1, 10, .inl sc7))), (s8, .inr (kA 6, kA 1, 10, 2, .inl sc8)), (s10, .inl (.inl (kA 1, 4, .inl sc10))), (s11, .inl (.inl (kA 1, 4, .inl sc11)))]) [(0, .ref g), (1, .ref s), (2, .ref lo), (3, .ref d), (4, .int (nI wt))] 0 0 5 []
  refine j_iconst (v := 0) h (by decide) dX3_fillSteps_5 ?_
  refine j_istore (lv' := [(5, .int 0), (0, .ref g), (1, .ref s), (2, .ref lo), (3, .ref d), (4, .int (nI wt))]) h dX3_fillSteps_6 (by decide) rfl ?_
  have lp8_85051 : ∀ (m8_85051 : Nat), ∀ (v5_8_85051 : Nat) (fg2_8_85051 : Nat → Nat → Int32), (CsR (fsC D EE ND LO HI wt) v5_8_85051 wt fg2_8_85051) → (v5_8_85051 ≤ sn) → (v5_8_85051 ≤ 100000) → sn - v5_8_85051 < m8_85051 → J x (mflat [(g2, .inr (kA 6, kA 1, 6, 60, .inl fg2_8_85051)), (lo, .inl (.inl (kA 1, 6, .inl lof))), (d, .inl (.inr (0, [.ref d0, .ref d1, .ref d2]))), (d0, .inr (kA 6, kA 1, 4, 60, .inl dls)), (d1, .inr (kA 6, kA 1, 4, 60, .inl dms)), (d2, .inl (.inl (kA 3, 4, .inl dnd))), (g, .inl (.inr (3, [.ref g0, .ref g1, .ref g2, .ref g3, .ref g4, .ref g5, .ref g6, .ref g7, .int (nI sn), .int gt0, .int gm0]))), (g0, .inl (.inl (kA 1, 6, .inl q850329))), (g1, .inr (kA 6, kA 1, 6, 2, .inl q850330)), (s, .inl (.inr (5, [.ref s0, .ref s1, .ref s2, .ref s3, .ref s4, .ref s5, .ref s6, .ref s7, .ref s8, .ref s9, .ref s10, .ref s11, .int (nI sn), .int (nI sl), .int (nI se)]))), (s1, .inl (.inl (kA 1, 6, .inl sc1))), (s2, .inl (.inl (kA 1, 6, .inl sc2))), (s3, .inl (.inl (kA 1, 6, .inl sc3))), (s5, .inl (.inl (kA 1, 10, .inl sc5))), (s6, .inr (kA 6, kA 1, 10, 5, .inl sc6)), (s7, .inl (.inl (kA 1, 10, .inl sc7))), (s8, .inr (kA 6, kA 1, 10, 2, .inl sc8)), (s10, .inl (.inl (kA 1, 4, .inl sc10))), (s11, .inl (.inl (kA 1, 4, .inl sc11)))]) [(5, .int (nI v5_8_85051)), (0, .ref g), (1, .ref s), (2, .ref lo), (3, .ref d), (4, .int (nI wt))] 0 0 8 [] := by
    intro m8_85051
    induction m8_85051 with
    | zero =>
      intro v5_8_85051 fg2_8_85051 i8_85051_0 i8_85051_1 i8_85051_2 hm8_85051
      exact absurd hm8_85051 (Nat.not_lt_zero _)
    | succ m8_85051 ih8_85051 =>
      intro v5_8_85051 fg2_8_85051 i8_85051_0 i8_85051_1 i8_85051_2 hm8_85051
      refine j_iload h 0 rfl dX3_fillSteps_8 ?_
      refine j_aload_n h 1 rfl rfl dX3_fillSteps_10 ?_
      refine jm_get h iw_X3 6 rfl rfl 8 (by decide +kernel) tw_387 rfl dX3_fillSteps_11 ?_
      refine j_icmp_ge h 99 dX3_fillSteps_14 (by decide) (fun z850396 => ?_) (fun z850396 => ?_)
      · have z850396n : sn ≤ v5_8_85051 := (nI_leI (a := sn) (b := v5_8_85051) (by omega) (by omega)).mp z850396
        exact jm_vret h hq dX3_fillSteps_99 (q850329, q850330, fg2_8_85051) [6, 7, 8, 0, 9, 10, 11, 12, 13, 14, 15, 16, 17, 18, 1, 2, 3, 4, 5] rfl (by decide) (show GdR sn wt (D 4) (aS D) (fsC D EE ND LO HI wt) q850329 q850330 fg2_8_85051 from GdS hD hSc.1 p850333 ((show v5_8_85051 = sn by omega) ▸ i8_85051_0) fsC_b) (Nat.le_of_ble_eq_true rfl) (Nat.le_of_ble_eq_true rfl)
      · have z850396n : ¬ sn ≤ v5_8_85051 := fun q9 => z850396 ((nI_leI (a := sn) (b := v5_8_85051) (by omega) (by omega)).mpr q9)
        refine j_iconst (v := 0) h (by decide) dX3_fillSteps_17 ?_
        refine j_istore (lv' := [(6, .int 0), (5, .int (nI v5_8_85051)), (0, .ref g), (1, .ref s), (2, .ref lo), (3, .ref d), (4, .int (nI wt))]) h dX3_fillSteps_18 (by decide) rfl ?_
        have lp20_85054 : ∀ (m20_85054 : Nat), ∀ (v6_20_85054 : Nat) (fg2_20_85054 : Nat → Nat → Int32), (CsR (fsC D EE ND LO HI wt) v5_8_85051 wt fg2_20_85054) → (CsP (fsC D EE ND LO HI wt) v5_8_85051 v6_20_85054 fg2_20_85054) → (v6_20_85054 ≤ 100000) → 100001 - v6_20_85054 < m20_85054 → J x (mflat [(g2, .inr (kA 6, kA 1, 6, 60, .inl fg2_20_85054)), (lo, .inl (.inl (kA 1, 6, .inl lof))), (d, .inl (.inr (0, [.ref d0, .ref d1, .ref d2]))), (d0, .inr (kA 6, kA 1, 4, 60, .inl dls)), (d1, .inr (kA 6, kA 1, 4, 60, .inl dms)), (d2, .inl (.inl (kA 3, 4, .inl dnd))), (g, .inl (.inr (3, [.ref g0, .ref g1, .ref g2, .ref g3, .ref g4, .ref g5, .ref g6, .ref g7, .int (nI sn), .int gt0, .int gm0]))), (g0, .inl (.inl (kA 1, 6, .inl q850329))), (g1, .inr (kA 6, kA 1, 6, 2, .inl q850330)), (s, .inl (.inr (5, [.ref s0, .ref s1, .ref s2, .ref s3, .ref s4, .ref s5, .ref s6, .ref s7, .ref s8, .ref s9, .ref s10, .ref s11, .int (nI sn), .int (nI sl), .int (nI se)]))), (s1, .inl (.inl (kA 1, 6, .inl sc1))), (s2, .inl (.inl (kA 1, 6, .inl sc2))), (s3, .inl (.inl (kA 1, 6, .inl sc3))), (s5, .inl (.inl (kA 1, 10, .inl sc5))), (s6, .inr (kA 6, kA 1, 10, 5, .inl sc6)), (s7, .inl (.inl (kA 1, 10, .inl sc7))), (s8, .inr (kA 6, kA 1, 10, 2, .inl sc8)), (s10, .inl (.inl (kA 1, 4, .inl sc10))), (s11, .inl (.inl (kA 1, 4, .inl sc11)))]) [(6, .int (nI v6_20_85054)), (5, .int (nI v5_8_85051)), (0, .ref g), (1, .ref s), (2, .ref lo), (3, .ref d), (4, .int (nI wt))] 0 0 20 [] := by
          intro m20_85054
          induction m20_85054 with
          | zero =>
            intro v6_20_85054 fg2_20_85054 i20_85054_0 i20_85054_1 i20_85054_2 hm20_85054
            exact absurd hm20_85054 (Nat.not_lt_zero _)
          | succ m20_85054 ih20_85054 =>
            intro v6_20_85054 fg2_20_85054 i20_85054_0 i20_85054_1 i20_85054_2 hm20_85054
            refine j_iload h 0 rfl dX3_fillSteps_20 ?_
            refine j_iload h 6 rfl dX3_fillSteps_22 ?_
            refine j_icmp_ge h 93 dX3_fillSteps_24 (by decide) (fun z850417 => ?_) (fun z850417 => ?_)
            · have z850417n : wt ≤ v6_20_85054 := (nI_leI (a := wt) (b := v6_20_85054) (by omega) (by omega)).mp z850417
              refine j_iinc (v := nI (v5_8_85051 + 1)) (lv' := [(5, .int (nI (v5_8_85051 + 1))), (6, .int (nI v6_20_85054)), (0, .ref g), (1, .ref s), (2, .ref lo), (3, .ref d), (4, .int (nI wt))]) h dX3_fillSteps_93 1 rfl (nI_add v5_8_85051 1) (by decide) rfl ?_
              refine j_goto h 8 dX3_fillSteps_96 (by decide) ?_
              refine jm_sub [0, 1, 2, 3, 4, 5, 6, 7, 8, 9, 10, 11, 12, 13, 14, 15, 16, 17, 18] (w' := [(g2, .inr (kA 6, kA 1, 6, 60, .inl fg2_20_85054)), (lo, .inl (.inl (kA 1, 6, .inl lof))), (d, .inl (.inr (0, [.ref d0, .ref d1, .ref d2]))), (d0, .inr (kA 6, kA 1, 4, 60, .inl dls)), (d1, .inr (kA 6, kA 1, 4, 60, .inl dms)), (d2, .inl (.inl (kA 3, 4, .inl dnd))), (g, .inl (.inr (3, [.ref g0, .ref g1, .ref g2, .ref g3, .ref g4, .ref g5, .ref g6, .ref g7, .int (nI sn), .int gt0, .int gm0]))), (g0, .inl (.inl (kA 1, 6, .inl q850329))), (g1, .inr (kA 6, kA 1, 6, 2, .inl q850330)), (s, .inl (.inr (5, [.ref s0, .ref s1, .ref s2, .ref s3, .ref s4, .ref s5, .ref s6, .ref s7, .ref s8, .ref s9, .ref s10, .ref s11, .int (nI sn), .int (nI sl), .int (nI se)]))), (s1, .inl (.inl (kA 1, 6, .inl sc1))), (s2, .inl (.inl (kA 1, 6, .inl sc2))), (s3, .inl (.inl (kA 1, 6, .inl sc3))), (s5, .inl (.inl (kA 1, 10, .inl sc5))), (s6, .inr (kA 6, kA 1, 10, 5, .inl sc6)), (s7, .inl (.inl (kA 1, 10, .inl sc7))), (s8, .inr (kA 6, kA 1, 10, 2, .inl sc8)), (s10, .inl (.inl (kA 1, 4, .inl sc10))), (s11, .inl (.inl (kA 1, 4, .inl sc11)))]) rfl (by decide +kernel) [0, 2, 3, 4, 5, 6] (lv' := [(5, .int (nI (v5_8_85051 + 1))), (0, .ref g), (1, .ref s), (2, .ref lo), (3, .ref d), (4, .int (nI wt))]) rfl ?_
              exact ih8_85051 (v5_8_85051 + 1) fg2_20_85054 (show CsR (fsC D EE ND LO HI wt) (v5_8_85051 + 1) wt fg2_20_85054 from CsR_nx i20_85054_0 i20_85054_1 (by omega)) (show (v5_8_85051 + 1) ≤ sn by first | assumption | omega) (show (v5_8_85051 + 1) ≤ 100000 by first | assumption | omega) (show sn - (v5_8_85051 + 1) < m8_85051 by omega)
            · have z850417n : ¬ wt ≤ v6_20_85054 := fun q9 => z850417 ((nI_leI (a := wt) (b := v6_20_85054) (by omega) (by omega)).mpr q9)
              refine j_iload h 0 rfl dX3_fillSteps_27 ?_
              refine j_aload_n h 2 rfl rfl dX3_fillSteps_29 ?_
              refine jm_get h iw_X3 6 rfl rfl 0 (by decide +kernel) tw_377 rfl dX3_fillSteps_30 ?_
              refine j_iload h 1 rfl dX3_fillSteps_33 ?_
              refine jm_iald h 7 rfl v5_8_85051 rfl (by omega) (by omega) dX3_fillSteps_35 ?_
              have u850418 := hD.2.2.2.1 v5_8_85051 (by rw [← hSc.1]; omega)
              refine j_top (b := nI (D 4 v5_8_85051)) (p850333.1 v5_8_85051 (by omega)) ?_
              refine j_iadd h dX3_fillSteps_36 ?_
              refine j_top (b := nI (v6_20_85054 + (D 4 v5_8_85051))) (nI_add v6_20_85054 (D 4 v5_8_85051)) ?_
              refine j_iload h 6 rfl dX3_fillSteps_37 ?_
              refine j_icmp_gt h 46 dX3_fillSteps_39 (by decide) (fun z850419 => ?_) (fun z850419 => ?_)
              · have z850419n : wt < (v6_20_85054 + (D 4 v5_8_85051)) := (nI_ltI (a := wt) (b := (v6_20_85054 + (D 4 v5_8_85051))) (by omega) (by omega)).mp z850419
                refine j_iconst (v := 0) h (by decide) dX3_fillSteps_46 ?_
                refine j_istore (lv' := [(7, .int 0), (6, .int (nI v6_20_85054)), (5, .int (nI v5_8_85051)), (0, .ref g), (1, .ref s), (2, .ref lo), (3, .ref d), (4, .int (nI wt))]) h dX3_fillSteps_47 (by decide) rfl ?_
                refine j_aload_n h 3 rfl rfl dX3_fillSteps_49 ?_
                refine jm_get h iw_X3 6 rfl rfl 2 (by decide +kernel) tw_381 rfl dX3_fillSteps_50 ?_
                refine j_iload h 2 rfl dX3_fillSteps_53 ?_
                refine jm_gout h 0 6 rfl rfl v5_8_85051 rfl (by omega) (by omega) dX3_fillSteps_55 ?_
                refine j_iload h 1 rfl dX3_fillSteps_56 ?_
                refine j_iload h 0 rfl dX3_fillSteps_58 ?_
                refine j_if_eq h 84 dX3_fillSteps_60 (by decide) (fun _ => ?_) (fun q => absurd (by decide) q)
                refine j_bipush (v := 100) h (by decide) dX3_fillSteps_84 ?_
                refine jm_gast (w' := [(g2, .inr (kA 6, kA 1, 6, 60, .inl (upG fg2_20_85054 v5_8_85051 v6_20_85054 100))), (lo, .inl (.inl (kA 1, 6, .inl lof))), (d, .inl (.inr (0, [.ref d0, .ref d1, .ref d2]))), (d0, .inr (kA 6, kA 1, 4, 60, .inl dls)), (d1, .inr (kA 6, kA 1, 4, 60, .inl dms)), (d2, .inl (.inl (kA 3, 4, .inl dnd))), (g, .inl (.inr (3, [.ref g0, .ref g1, .ref g2, .ref g3, .ref g4, .ref g5, .ref g6, .ref g7, .int (nI sn), .int gt0, .int gm0]))), (g0, .inl (.inl (kA 1, 6, .inl q850329))), (g1, .inr (kA 6, kA 1, 6, 2, .inl q850330)), (s, .inl (.inr (5, [.ref s0, .ref s1, .ref s2, .ref s3, .ref s4, .ref s5, .ref s6, .ref s7, .ref s8, .ref s9, .ref s10, .ref s11, .int (nI sn), .int (nI sl), .int (nI se)]))), (s1, .inl (.inl (kA 1, 6, .inl sc1))), (s2, .inl (.inl (kA 1, 6, .inl sc2))), (s3, .inl (.inl (kA 1, 6, .inl sc3))), (s5, .inl (.inl (kA 1, 10, .inl sc5))), (s6, .inr (kA 6, kA 1, 10, 5, .inl sc6)), (s7, .inl (.inl (kA 1, 10, .inl sc7))), (s8, .inr (kA 6, kA 1, 10, 2, .inl sc8)), (s10, .inl (.inl (kA 1, 4, .inl sc10))), (s11, .inl (.inl (kA 1, 4, .inl sc11)))]) h 0 rfl v5_8_85051 (by omega) v6_20_85054 rfl (by omega) (by omega) dX3_fillSteps_86 rfl ?_
                refine j_iinc (v := nI (v6_20_85054 + 1)) (lv' := [(6, .int (nI (v6_20_85054 + 1))), (7, .int 0), (5, .int (nI v5_8_85051)), (0, .ref g), (1, .ref s), (2, .ref lo), (3, .ref d), (4, .int (nI wt))]) h dX3_fillSteps_87 1 rfl (nI_add v6_20_85054 1) (by decide) rfl ?_
                refine j_goto h 20 dX3_fillSteps_90 (by decide) ?_
                refine jm_sub [0, 1, 2, 3, 4, 5, 6, 7, 8, 9, 10, 11, 12, 13, 14, 15, 16, 17, 18] (w' := [(g2, .inr (kA 6, kA 1, 6, 60, .inl (upG fg2_20_85054 v5_8_85051 v6_20_85054 100))), (lo, .inl (.inl (kA 1, 6, .inl lof))), (d, .inl (.inr (0, [.ref d0, .ref d1, .ref d2]))), (d0, .inr (kA 6, kA 1, 4, 60, .inl dls)), (d1, .inr (kA 6, kA 1, 4, 60, .inl dms)), (d2, .inl (.inl (kA 3, 4, .inl dnd))), (g, .inl (.inr (3, [.ref g0, .ref g1, .ref g2, .ref g3, .ref g4, .ref g5, .ref g6, .ref g7, .int (nI sn), .int gt0, .int gm0]))), (g0, .inl (.inl (kA 1, 6, .inl q850329))), (g1, .inr (kA 6, kA 1, 6, 2, .inl q850330)), (s, .inl (.inr (5, [.ref s0, .ref s1, .ref s2, .ref s3, .ref s4, .ref s5, .ref s6, .ref s7, .ref s8, .ref s9, .ref s10, .ref s11, .int (nI sn), .int (nI sl), .int (nI se)]))), (s1, .inl (.inl (kA 1, 6, .inl sc1))), (s2, .inl (.inl (kA 1, 6, .inl sc2))), (s3, .inl (.inl (kA 1, 6, .inl sc3))), (s5, .inl (.inl (kA 1, 10, .inl sc5))), (s6, .inr (kA 6, kA 1, 10, 5, .inl sc6)), (s7, .inl (.inl (kA 1, 10, .inl sc7))), (s8, .inr (kA 6, kA 1, 10, 2, .inl sc8)), (s10, .inl (.inl (kA 1, 4, .inl sc10))), (s11, .inl (.inl (kA 1, 4, .inl sc11)))]) rfl (by decide +kernel) [0, 2, 3, 4, 5, 6, 7] (lv' := [(6, .int (nI (v6_20_85054 + 1))), (5, .int (nI v5_8_85051)), (0, .ref g), (1, .ref s), (2, .ref lo), (3, .ref d), (4, .int (nI wt))]) rfl ?_
                exact ih20_85054 (v6_20_85054 + 1) (upG fg2_20_85054 v5_8_85051 v6_20_85054 100) (show CsR (fsC D EE ND LO HI wt) v5_8_85051 wt (upG fg2_20_85054 v5_8_85051 v6_20_85054 100) from CsR_up i20_85054_0) (show CsP (fsC D EE ND LO HI wt) v5_8_85051 (v6_20_85054 + 1) (upG fg2_20_85054 v5_8_85051 v6_20_85054 100) from CsP_up i20_85054_1 (fsC_0 (by omega))) (show (v6_20_85054 + 1) ≤ 100000 by first | assumption | omega) (show 100001 - (v6_20_85054 + 1) < m20_85054 by first | exact Nat.lt_of_lt_of_le (Nat.sub_lt_sub_left (Nat.lt_of_le_of_lt (show v6_20_85054 ≤ 100000 by assumption) (Nat.lt_succ_self 100000)) (Nat.lt_succ_self v6_20_85054)) (Nat.le_of_lt_succ hm20_85054) | omega)
              · have z850419n : ¬ wt < (v6_20_85054 + (D 4 v5_8_85051)) := fun q9 => z850419 ((nI_ltI (a := wt) (b := (v6_20_85054 + (D 4 v5_8_85051))) (by omega) (by omega)).mpr q9)
                refine j_iconst (v := 1) h (by decide) dX3_fillSteps_42 ?_
                refine j_goto h 47 dX3_fillSteps_43 (by decide) ?_
                refine j_istore (lv' := [(7, .int 1), (6, .int (nI v6_20_85054)), (5, .int (nI v5_8_85051)), (0, .ref g), (1, .ref s), (2, .ref lo), (3, .ref d), (4, .int (nI wt))]) h dX3_fillSteps_47 (by decide) rfl ?_
                refine j_aload_n h 3 rfl rfl dX3_fillSteps_49 ?_
                refine jm_get h iw_X3 6 rfl rfl 2 (by decide +kernel) tw_381 rfl dX3_fillSteps_50 ?_
                refine j_iload h 2 rfl dX3_fillSteps_53 ?_
                refine jm_gout h 0 6 rfl rfl v5_8_85051 rfl (by omega) (by omega) dX3_fillSteps_55 ?_
                refine j_iload h 1 rfl dX3_fillSteps_56 ?_
                refine j_iload h 0 rfl dX3_fillSteps_58 ?_
                refine j_if_eq h 84 dX3_fillSteps_60 (by decide) (fun q => absurd q (by decide)) (fun _ => ?_)
                refine j_aload_n h 6 rfl rfl dX3_fillSteps_63 ?_
                refine j_aload_n h 4 rfl rfl dX3_fillSteps_64 ?_
                refine j_aload_n h 5 rfl rfl dX3_fillSteps_65 ?_
                refine j_iload h 2 rfl dX3_fillSteps_66 ?_
                refine jm_iald h 1 rfl v5_8_85051 rfl (by omega) (by omega) dX3_fillSteps_68 ?_
                have u850420 := (hlo v5_8_85051 (by omega)).2
                refine j_top (b := nI (EE v5_8_85051)) ((hlo v5_8_85051 (by omega)).1) ?_
                refine j_aload_n h 3 rfl rfl dX3_fillSteps_69 ?_
                refine jm_get h iw_X3 6 rfl rfl 0 (by decide +kernel) tw_377 rfl dX3_fillSteps_70 ?_
                refine j_iload h 2 rfl dX3_fillSteps_73 ?_
                refine jm_iald h 7 rfl v5_8_85051 rfl (by omega) (by omega) dX3_fillSteps_75 ?_
                refine j_top (b := nI (D 4 v5_8_85051)) (p850333.1 v5_8_85051 (by omega)) ?_
                refine j_iload h 1 rfl dX3_fillSteps_76 ?_
                refine jm_callVi (np := 4) (isC := [2, 3, 4, 5, 9, 10, 11, 12, 13, 14, 15, 16, 17, 18]) (isR := [0, 1, 6, 7, 8]) (wc := [(d, .inl (.inr (0, [.ref d0, .ref d1, .ref d2]))), (d0, .inr (kA 6, kA 1, 4, 60, .inl dls)), (d1, .inr (kA 6, kA 1, 4, 60, .inl dms)), (d2, .inl (.inl (kA 3, 4, .inl dnd))), (s, .inl (.inr (5, [.ref s0, .ref s1, .ref s2, .ref s3, .ref s4, .ref s5, .ref s6, .ref s7, .ref s8, .ref s9, .ref s10, .ref s11, .int (nI sn), .int (nI sl), .int (nI se)]))), (s1, .inl (.inl (kA 1, 6, .inl sc1))), (s2, .inl (.inl (kA 1, 6, .inl sc2))), (s3, .inl (.inl (kA 1, 6, .inl sc3))), (s5, .inl (.inl (kA 1, 10, .inl sc5))), (s6, .inr (kA 6, kA 1, 10, 5, .inl sc6)), (s7, .inl (.inl (kA 1, 10, .inl sc7))), (s8, .inr (kA 6, kA 1, 10, 2, .inl sc8)), (s10, .inl (.inl (kA 1, 4, .inl sc10))), (s11, .inl (.inl (kA 1, 4, .inl sc11)))]) (wr := [(g2, .inr (kA 6, kA 1, 6, 60, .inl fg2_20_85054)), (lo, .inl (.inl (kA 1, 6, .inl lof))), (g, .inl (.inr (3, [.ref g0, .ref g1, .ref g2, .ref g3, .ref g4, .ref g5, .ref g6, .ref g7, .int (nI sn), .int gt0, .int gm0]))), (g0, .inl (.inl (kA 1, 6, .inl q850329))), (g1, .inr (kA 6, kA 1, 6, 2, .inl q850330))]) (rest := [.int (nI v6_20_85054), .ref (g2 + 1 + v5_8_85051)]) (As := [.ref s, .int (nI (EE v5_8_85051)), .int (nI (D 4 v5_8_85051)), .int (nI v6_20_85054)]) (q0 := 0) h (s_X0_costOfF _ _ kA d s (EE v5_8_85051) (D 4 v5_8_85051) v6_20_85054 d0 d1 d2 dls dms dnd s0 s1 s2 s3 s4 s5 s6 s7 s8 s9 s10 s11 sn sl se sc1 sc2 sc3 sc5 sc6 sc7 sc8 sc10 sc11 D ND LO HI (show sn ≤ 6 by first | assumption | omega) (show sl ≤ 10 by first | assumption | omega) (show se ≤ 4 by first | assumption | omega) (show TkOk sn sc1 by first | assumption | omega) (show SzOk sl sc5 by first | assumption | omega) (show RwOk sl sn sc5 sc6 by first | assumption | omega) (show LtOk sl sc7 by first | assumption | omega) (show FtOk sl sc8 by first | assumption | omega) (show LsOk sl sc5 sc6 sc1 sc7 by first | assumption | omega) (show ScR D sn sl se sc1 sc2 sc3 sc5 sc6 sc7 sc8 sc10 sc11 by first | assumption | omega) (show DOk D by first | assumption | omega) (show BdV ND LO HI dnd dls dms by first | assumption | omega) (show (EE v5_8_85051) ≤ 9 by first | assumption | omega) (show 1 ≤ (D 4 v5_8_85051) by first | assumption | omega) (show (D 4 v5_8_85051) ≤ 9 by first | assumption | omega) (show v6_20_85054 + (D 4 v5_8_85051) ≤ 60 by first | assumption | omega)) tw_842 tw_843 tw_844 tw_94 tw_845 (by decide +kernel) rfl ⟨Nat.le_of_ble_eq_true rfl, Nat.le_of_ble_eq_true rfl⟩ rfl rfl (by decide +kernel) rfl rfl (by decide +kernel) (by decide +kernel) (Nat.le_of_ble_eq_true rfl) rfl ⟨Nat.le_of_ble_eq_true rfl, Nat.le_of_ble_eq_true rfl⟩ dX3_fillSteps_78 ?_
                rintro r850423 q850421 e850422
                obtain ⟨p850424, p850425, p850426⟩ := e850422
                subst p850424
                replace p850425 : q850421 ≤ 100 := p850425
                replace p850426 : q850421 = min 100 (coV ND LO HI (fun e => (EE v5_8_85051) - D 9 e) (D 4 v5_8_85051) v6_20_85054 se) := p850426
                show J x (mflat [(g2, .inr (kA 6, kA 1, 6, 60, .inl fg2_20_85054)), (lo, .inl (.inl (kA 1, 6, .inl lof))), (g, .inl (.inr (3, [.ref g0, .ref g1, .ref g2, .ref g3, .ref g4, .ref g5, .ref g6, .ref g7, .int (nI sn), .int gt0, .int gm0]))), (g0, .inl (.inl (kA 1, 6, .inl q850329))), (g1, .inr (kA 6, kA 1, 6, 2, .inl q850330)), (d, .inl (.inr (0, [.ref d0, .ref d1, .ref d2]))), (d0, .inr (kA 6, kA 1, 4, 60, .inl dls)), (d1, .inr (kA 6, kA 1, 4, 60, .inl dms)), (d2, .inl (.inl (kA 3, 4, .inl dnd))), (s, .inl (.inr (5, [.ref s0, .ref s1, .ref s2, .ref s3, .ref s4, .ref s5, .ref s6, .ref s7, .ref s8, .ref s9, .ref s10, .ref s11, .int (nI sn), .int (nI sl), .int (nI se)]))), (s1, .inl (.inl (kA 1, 6, .inl sc1))), (s2, .inl (.inl (kA 1, 6, .inl sc2))), (s3, .inl (.inl (kA 1, 6, .inl sc3))), (s5, .inl (.inl (kA 1, 10, .inl sc5))), (s6, .inr (kA 6, kA 1, 10, 5, .inl sc6)), (s7, .inl (.inl (kA 1, 10, .inl sc7))), (s8, .inr (kA 6, kA 1, 10, 2, .inl sc8)), (s10, .inl (.inl (kA 1, 4, .inl sc10))), (s11, .inl (.inl (kA 1, 4, .inl sc11)))]) [(7, .int 1), (6, .int (nI v6_20_85054)), (5, .int (nI v5_8_85051)), (0, .ref g), (1, .ref s), (2, .ref lo), (3, .ref d), (4, .int (nI wt))] 0 0 81 [.int (nI q850421), .int (nI v6_20_85054), .ref (g2 + 1 + v5_8_85051)]
                refine j_goto h 86 dX3_fillSteps_81 (by decide) ?_
                refine jm_gast (w' := [(g2, .inr (kA 6, kA 1, 6, 60, .inl (upG fg2_20_85054 v5_8_85051 v6_20_85054 (nI q850421)))), (lo, .inl (.inl (kA 1, 6, .inl lof))), (g, .inl (.inr (3, [.ref g0, .ref g1, .ref g2, .ref g3, .ref g4, .ref g5, .ref g6, .ref g7, .int (nI sn), .int gt0, .int gm0]))), (g0, .inl (.inl (kA 1, 6, .inl q850329))), (g1, .inr (kA 6, kA 1, 6, 2, .inl q850330)), (d, .inl (.inr (0, [.ref d0, .ref d1, .ref d2]))), (d0, .inr (kA 6, kA 1, 4, 60, .inl dls)), (d1, .inr (kA 6, kA 1, 4, 60, .inl dms)), (d2, .inl (.inl (kA 3, 4, .inl dnd))), (s, .inl (.inr (5, [.ref s0, .ref s1, .ref s2, .ref s3, .ref s4, .ref s5, .ref s6, .ref s7, .ref s8, .ref s9, .ref s10, .ref s11, .int (nI sn), .int (nI sl), .int (nI se)]))), (s1, .inl (.inl (kA 1, 6, .inl sc1))), (s2, .inl (.inl (kA 1, 6, .inl sc2))), (s3, .inl (.inl (kA 1, 6, .inl sc3))), (s5, .inl (.inl (kA 1, 10, .inl sc5))), (s6, .inr (kA 6, kA 1, 10, 5, .inl sc6)), (s7, .inl (.inl (kA 1, 10, .inl sc7))), (s8, .inr (kA 6, kA 1, 10, 2, .inl sc8)), (s10, .inl (.inl (kA 1, 4, .inl sc10))), (s11, .inl (.inl (kA 1, 4, .inl sc11)))]) h 0 rfl v5_8_85051 (by omega) v6_20_85054 rfl (by omega) (by omega) dX3_fillSteps_86 rfl ?_
                refine j_iinc (v := nI (v6_20_85054 + 1)) (lv' := [(6, .int (nI (v6_20_85054 + 1))), (7, .int 1), (5, .int (nI v5_8_85051)), (0, .ref g), (1, .ref s), (2, .ref lo), (3, .ref d), (4, .int (nI wt))]) h dX3_fillSteps_87 1 rfl (nI_add v6_20_85054 1) (by decide) rfl ?_
                refine j_goto h 20 dX3_fillSteps_90 (by decide) ?_
                refine jm_sub [0, 1, 5, 6, 7, 8, 2, 3, 4, 9, 10, 11, 12, 13, 14, 15, 16, 17, 18] (w' := [(g2, .inr (kA 6, kA 1, 6, 60, .inl (upG fg2_20_85054 v5_8_85051 v6_20_85054 (nI q850421)))), (lo, .inl (.inl (kA 1, 6, .inl lof))), (d, .inl (.inr (0, [.ref d0, .ref d1, .ref d2]))), (d0, .inr (kA 6, kA 1, 4, 60, .inl dls)), (d1, .inr (kA 6, kA 1, 4, 60, .inl dms)), (d2, .inl (.inl (kA 3, 4, .inl dnd))), (g, .inl (.inr (3, [.ref g0, .ref g1, .ref g2, .ref g3, .ref g4, .ref g5, .ref g6, .ref g7, .int (nI sn), .int gt0, .int gm0]))), (g0, .inl (.inl (kA 1, 6, .inl q850329))), (g1, .inr (kA 6, kA 1, 6, 2, .inl q850330)), (s, .inl (.inr (5, [.ref s0, .ref s1, .ref s2, .ref s3, .ref s4, .ref s5, .ref s6, .ref s7, .ref s8, .ref s9, .ref s10, .ref s11, .int (nI sn), .int (nI sl), .int (nI se)]))), (s1, .inl (.inl (kA 1, 6, .inl sc1))), (s2, .inl (.inl (kA 1, 6, .inl sc2))), (s3, .inl (.inl (kA 1, 6, .inl sc3))), (s5, .inl (.inl (kA 1, 10, .inl sc5))), (s6, .inr (kA 6, kA 1, 10, 5, .inl sc6)), (s7, .inl (.inl (kA 1, 10, .inl sc7))), (s8, .inr (kA 6, kA 1, 10, 2, .inl sc8)), (s10, .inl (.inl (kA 1, 4, .inl sc10))), (s11, .inl (.inl (kA 1, 4, .inl sc11)))]) rfl (by decide +kernel) [0, 2, 3, 4, 5, 6, 7] (lv' := [(6, .int (nI (v6_20_85054 + 1))), (5, .int (nI v5_8_85051)), (0, .ref g), (1, .ref s), (2, .ref lo), (3, .ref d), (4, .int (nI wt))]) rfl ?_
                exact ih20_85054 (v6_20_85054 + 1) (upG fg2_20_85054 v5_8_85051 v6_20_85054 (nI q850421)) (show CsR (fsC D EE ND LO HI wt) v5_8_85051 wt (upG fg2_20_85054 v5_8_85051 v6_20_85054 (nI q850421)) from CsR_up i20_85054_0) (show CsP (fsC D EE ND LO HI wt) v5_8_85051 (v6_20_85054 + 1) (upG fg2_20_85054 v5_8_85051 v6_20_85054 (nI q850421)) from CsP_up i20_85054_1 (fsC_1 (by omega) (p850426.trans (by rw [hSc.2.2.1])))) (show (v6_20_85054 + 1) ≤ 100000 by first | assumption | omega) (show 100001 - (v6_20_85054 + 1) < m20_85054 by first | exact Nat.lt_of_lt_of_le (Nat.sub_lt_sub_left (Nat.lt_of_le_of_lt (show v6_20_85054 ≤ 100000 by assumption) (Nat.lt_succ_self 100000)) (Nat.lt_succ_self v6_20_85054)) (Nat.le_of_lt_succ hm20_85054) | omega)
        refine jm_sub [0, 1, 2, 3, 4, 5, 6, 7, 8, 9, 10, 11, 12, 13, 14, 15, 16, 17, 18] (w' := [(g2, .inr (kA 6, kA 1, 6, 60, .inl fg2_8_85051)), (lo, .inl (.inl (kA 1, 6, .inl lof))), (d, .inl (.inr (0, [.ref d0, .ref d1, .ref d2]))), (d0, .inr (kA 6, kA 1, 4, 60, .inl dls)), (d1, .inr (kA 6, kA 1, 4, 60, .inl dms)), (d2, .inl (.inl (kA 3, 4, .inl dnd))), (g, .inl (.inr (3, [.ref g0, .ref g1, .ref g2, .ref g3, .ref g4, .ref g5, .ref g6, .ref g7, .int (nI sn), .int gt0, .int gm0]))), (g0, .inl (.inl (kA 1, 6, .inl q850329))), (g1, .inr (kA 6, kA 1, 6, 2, .inl q850330)), (s, .inl (.inr (5, [.ref s0, .ref s1, .ref s2, .ref s3, .ref s4, .ref s5, .ref s6, .ref s7, .ref s8, .ref s9, .ref s10, .ref s11, .int (nI sn), .int (nI sl), .int (nI se)]))), (s1, .inl (.inl (kA 1, 6, .inl sc1))), (s2, .inl (.inl (kA 1, 6, .inl sc2))), (s3, .inl (.inl (kA 1, 6, .inl sc3))), (s5, .inl (.inl (kA 1, 10, .inl sc5))), (s6, .inr (kA 6, kA 1, 10, 5, .inl sc6)), (s7, .inl (.inl (kA 1, 10, .inl sc7))), (s8, .inr (kA 6, kA 1, 10, 2, .inl sc8)), (s10, .inl (.inl (kA 1, 4, .inl sc10))), (s11, .inl (.inl (kA 1, 4, .inl sc11)))]) rfl (by decide +kernel) [0, 1, 2, 3, 4, 5, 6] (lv' := [(6, .int 0), (5, .int (nI v5_8_85051)), (0, .ref g), (1, .ref s), (2, .ref lo), (3, .ref d), (4, .int (nI wt))]) rfl ?_
        exact lp20_85054 (100001 - 0 + 1) 0 fg2_8_85051 (show CsR (fsC D EE ND LO HI wt) v5_8_85051 wt fg2_8_85051 from i8_85051_0) (show CsP (fsC D EE ND LO HI wt) v5_8_85051 0 fg2_8_85051 from CsP_0) (show 0 ≤ 100000 by first | assumption | omega) (Nat.lt_succ_self _)
  refine jm_sub [0, 1, 2, 3, 4, 5, 6, 7, 8, 9, 10, 11, 12, 13, 14, 15, 16, 17, 18] (w' := [(g2, .inr (kA 6, kA 1, 6, 60, .inl gco)), (lo, .inl (.inl (kA 1, 6, .inl lof))), (d, .inl (.inr (0, [.ref d0, .ref d1, .ref d2]))), (d0, .inr (kA 6, kA 1, 4, 60, .inl dls)), (d1, .inr (kA 6, kA 1, 4, 60, .inl dms)), (d2, .inl (.inl (kA 3, 4, .inl dnd))), (g, .inl (.inr (3, [.ref g0, .ref g1, .ref g2, .ref g3, .ref g4, .ref g5, .ref g6, .ref g7, .int (nI sn), .int gt0, .int gm0]))), (g0, .inl (.inl (kA 1, 6, .inl q850329))), (g1, .inr (kA 6, kA 1, 6, 2, .inl q850330)), (s, .inl (.inr (5, [.ref s0, .ref s1, .ref s2, .ref s3, .ref s4, .ref s5, .ref s6, .ref s7, .ref s8, .ref s9, .ref s10, .ref s11, .int (nI sn), .int (nI sl), .int (nI se)]))), (s1, .inl (.inl (kA 1, 6, .inl sc1))), (s2, .inl (.inl (kA 1, 6, .inl sc2))), (s3, .inl (.inl (kA 1, 6, .inl sc3))), (s5, .inl (.inl (kA 1, 10, .inl sc5))), (s6, .inr (kA 6, kA 1, 10, 5, .inl sc6)), (s7, .inl (.inl (kA 1, 10, .inl sc7))), (s8, .inr (kA 6, kA 1, 10, 2, .inl sc8)), (s10, .inl (.inl (kA 1, 4, .inl sc10))), (s11, .inl (.inl (kA 1, 4, .inl sc11)))]) rfl (by decide +kernel) [0, 1, 2, 3, 4, 5] (lv' := [(5, .int 0), (0, .ref g), (1, .ref s), (2, .ref lo), (3, .ref d), (4, .int (nI wt))]) rfl ?_
  exact lp8_85051 (sn - 0 + 1) 0 gco (show CsR (fsC D EE ND LO HI wt) 0 wt gco from CsR_0) (show 0 ≤ sn by first | assumption | omega) (show 0 ≤ 100000 by first | assumption | omega) (Nat.lt_succ_self _)
