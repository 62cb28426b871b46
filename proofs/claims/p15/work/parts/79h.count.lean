section UG
variable {f : Nat → Nat → Int64} {r s k j : Nat} {v : Int64}
theorem upGL_s : upGL f r k v r k = v := by
  unfold upGL
  rw [if_pos rfl, pk_uLs]
theorem upGL_c (h : ¬ j = k) : upGL f r k v s j = f s j := by
  unfold upGL
  by_cases q : s = r
  · rw [if_pos q, pk_uLn h, q]
  · rw [if_neg q]
theorem upGL_r (h : ¬ s = r) : upGL f r k v s = f s := if_neg h
end UG
def capI (a : Int) : Int := if a ≤ 1000000000000000 then a else 1000000000000000
def sI (g : Nat → Int) : Nat → Int
  | 0 => 0
  | n + 1 => sI g n + g n
def wbV (tk : Nat → Nat) (af cs : Nat → Nat → Nat) (wy : Nat → Nat → Int64) (i t f q : Nat) : Int64 := if af i f = 0 ∨ q < cs i t then 0 else wy (2 * (q - cs i t) + (af i f - 1)) (t + tk i)
def RcE (n T Q : Nat) (tk : Nat → Nat) (af cs : Nat → Nat → Nat) (W : Nat → Nat → Nat → Int) : Prop := ∀ q f t, q ≤ Q → f ≤ 1 → t ≤ T → W q f t = if t = T then 1 else capI (sI (fun i => if af i f = 0 ∨ q < cs i t then 0 else W (q - cs i t) (af i f - 1) (t + tk i)) n)
/-- a grid: what its things take, the feet behind them (0 none), what they cost -/
def GdR (n T : Nat) (tk : Nat → Nat) (af cs : Nat → Nat → Nat) (gtk : Nat → Int32) (gaf gco : Nat → Nat → Int32) : Prop := (∀ i, i < n → gtk i = nI (tk i) ∧ 1 ≤ tk i ∧ tk i ≤ 45) ∧ (∀ i f, i < n → f ≤ 1 → gaf i f = pm (af i f) ∧ af i f ≤ 2) ∧ ∀ i t, i < n → t < T → gco i t = nI (cs i t) ∧ cs i t ≤ 100 ∧ (cs i t < 100 → t + tk i ≤ T)
def In15 (v : Int64) : Prop := 0 ≤ v.toInt ∧ v.toInt ≤ 1000000000000000
def GwR (n T Q : Nat) (tk : Nat → Nat) (af cs : Nat → Nat → Nat) (wy : Nat → Nat → Int64) (lo : Nat) : Prop := ∀ r u, r < 2 * (Q + 1) → lo ≤ u → u ≤ T → In15 (wy r u) ∧ (wy r u).toInt = if u = T then 1 else capI (sI (fun i => (wbV tk af cs wy i u (r % 2) (r / 2)).toInt) n)
def GwP (n : Nat) (tk : Nat → Nat) (af cs : Nat → Nat → Nat) (wy : Nat → Nat → Int64) (u k : Nat) : Prop := ∀ r, r < k → In15 (wy r u) ∧ (wy r u).toInt = capI (sI (fun i => (wbV tk af cs wy i u (r % 2) (r / 2)).toInt) n)
def mnL (a b : Int64) : Int64 := if lg_cmp a b ≤ 0 then a else b
section GW
variable {n T Q k i j q f t u r lo y : Nat} {tk : Nat → Nat} {af cs : Nat → Nat → Nat} {W W' : Nat → Nat → Nat → Int} {g g' : Nat → Int} {wy : Nat → Nat → Int64} {v a b : Int64} {gtk : Nat → Int32} {gaf gco : Nat → Nat → Int32}
theorem sI_cg (h : ∀ i, i < n → g i = g' i) : sI g n = sI g' n := by
  induction n with
  | zero => rfl
  | succ n ih =>
    show sI g n + g n = sI g' n + g' n
    rw [ih (fun i hi => h i (by omega)), h n (Nat.lt_succ_self n)]
theorem RcE_eq (h : RcE n T Q tk af cs W) (h' : RcE n T Q tk af cs W') (hc : ∀ i t, i < n → t < T → cs i t ≤ Q → 1 ≤ tk i ∧ t + tk i ≤ T) (ha : ∀ i f, i < n → f ≤ 1 → af i f ≤ 2) : ∀ k q f t, T - t ≤ k → q ≤ Q → f ≤ 1 → t ≤ T → W q f t = W' q f t := by
  intro k
  induction k with
  | zero =>
    intro q f t hk hq hf ht
    have e : t = T := by omega
    rw [h q f t hq hf ht, h' q f t hq hf ht, if_pos e, if_pos e]
  | succ k ih =>
    intro q f t hk hq hf ht
    rw [h q f t hq hf ht, h' q f t hq hf ht]
    by_cases e : t = T
    · rw [if_pos e, if_pos e]
    · rw [if_neg e, if_neg e]
      refine congrArg capI (sI_cg (fun i hi => ?_))
      show (if af i f = 0 ∨ q < cs i t then 0 else W (q - cs i t) (af i f - 1) (t + tk i)) = (if af i f = 0 ∨ q < cs i t then 0 else W' (q - cs i t) (af i f - 1) (t + tk i))
      by_cases z : af i f = 0 ∨ q < cs i t
      · rw [if_pos z, if_pos z]
      · rw [if_neg z, if_neg z]
        have c := hc i t hi (by omega) (by omega)
        have d := ha i f hi hf
        exact ih _ _ _ (by omega) (by omega) (by omega) c.2
theorem wbV_0 (h : af i f = 0) : 0 = wbV tk af cs wy i t f q := (if_pos (Or.inl h)).symm
theorem wbV_q (h : q < cs i t) : 0 = wbV tk af cs wy i t f q := (if_pos (Or.inr h)).symm
theorem wbV_y (ha : j + 1 = af i f) (hc : cs i t ≤ q) : wy (2 * (q - cs i t) + j) (t + tk i) = wbV tk af cs wy i t f q := by
  unfold wbV
  rw [if_neg (by omega), show af i f - 1 = j by omega]
theorem GdR_c (h : GdR n T tk af cs gtk gaf gco) (hQ : Q ≤ 3) : ∀ i t, i < n → t < T → cs i t ≤ Q → 1 ≤ tk i ∧ t + tk i ≤ T := fun i t hi ht hc => ⟨(h.1 i hi).2.1, (h.2.2 i t hi ht).2.2 (by omega)⟩
theorem In15_0 : In15 0 := ⟨by decide, by decide⟩
theorem wbV_b (h : GdR n T tk af cs gtk gaf gco) (hi : i < n) (hf : f ≤ 1) (hq : q ≤ 3) (ht : t < T) (hw : ∀ r u, r < 2 * (q + 1) → t < u → u ≤ T → In15 (wy r u)) : In15 (wbV tk af cs wy i t f q) := by
  unfold wbV
  by_cases z : af i f = 0 ∨ q < cs i t
  · rw [if_pos z]
    exact In15_0
  · rw [if_neg z]
    have c := GdR_c h (Q := q) hq i t hi ht (by omega)
    have d := (h.2.1 i f hi hf).2
    exact hw _ _ (by omega) (by omega) c.2
theorem add15 (h1 : 0 ≤ a.toInt) (h2 : a.toInt ≤ k * 1000000000000000) (hk : k ≤ 10) (hb : In15 b) : (a + b).toInt = a.toInt + b.toInt := by
  obtain ⟨b1, b2⟩ := hb
  exact Jvm.Kit.i64_add (by omega) (by omega)
theorem mnL_t : (mnL a 1000000000000000).toInt = capI a.toInt := lsV_toInt a
theorem cap_in (h : 0 ≤ sI g n) : 0 ≤ capI (sI g n) ∧ capI (sI g n) ≤ 1000000000000000 := by
  unfold capI
  split
  · omega
  · omega
theorem wbV_up (hj : j ≤ t) (h1 : cs i t ≤ q → 1 ≤ tk i) : wbV tk af cs (upGL wy r j v) i t f q = wbV tk af cs wy i t f q := by
  unfold wbV
  by_cases z : af i f = 0 ∨ q < cs i t
  · rw [if_pos z, if_pos z]
  · rw [if_neg z, if_neg z]
    have := h1 (by omega)
    exact upGL_c (by omega)
theorem GwR_up (hg : GdR n T tk af cs gtk gaf gco) (hQ : Q ≤ 3) (h : GwR n T Q tk af cs wy (j + 1)) : GwR n T Q tk af cs (upGL wy r j v) (j + 1) := fun s u hs h1 h2 => by
  have q := h s u hs h1 h2
  rw [upGL_c (by omega)]
  refine ⟨q.1, ?_⟩
  rw [q.2]
  by_cases e : u = T
  · rw [if_pos e, if_pos e]
  · rw [if_neg e, if_neg e]
    refine congrArg capI (sI_cg (fun i hi => ?_))
    show (wbV tk af cs wy i u (s % 2) (s / 2)).toInt = (wbV tk af cs (upGL wy r j v) i u (s % 2) (s / 2)).toInt
    rw [wbV_up (by omega) (fun hc => (hg.1 i hi).2.1)]
theorem GwP_up (hg : GdR n T tk af cs gtk gaf gco) (h : GwP n tk af cs wy j k) (hv : In15 v) (he : v.toInt = capI (sI (fun i => (wbV tk af cs wy i j (k % 2) (k / 2)).toInt) n)) : GwP n tk af cs (upGL wy k j v) j (k + 1) := fun s hs => by
  have eq : ∀ s, sI (fun i => (wbV tk af cs (upGL wy k j v) i j (s % 2) (s / 2)).toInt) n = sI (fun i => (wbV tk af cs wy i j (s % 2) (s / 2)).toInt) n := fun s => sI_cg (fun i hi => by
    show (wbV tk af cs (upGL wy k j v) i j (s % 2) (s / 2)).toInt = (wbV tk af cs wy i j (s % 2) (s / 2)).toInt
    rw [wbV_up (Nat.le_refl j) (fun hc => (hg.1 i hi).2.1)])
  rw [eq]
  by_cases e : s = k
  · subst e
    rw [upGL_s]
    exact ⟨hv, he⟩
  · rw [upGL_r e]
    exact h s (by omega)
theorem GwP_0 : GwP n tk af cs wy j 0 := fun s hs => absurd hs (Nat.not_lt_zero s)
theorem GwR_dn (h : GwR n T Q tk af cs wy (j + 1)) (hp : GwP n tk af cs wy j k) (hk : 2 * (Q + 1) ≤ k) (hj : j < T) (hy : y = j) : GwR n T Q tk af cs wy y := fun s u hs h1 h2 => by
  subst hy
  by_cases e : u = y
  · subst e
    have q := hp s (by omega)
    rw [if_neg (by omega)]
    exact q
  · exact h s u hs (by omega) h2
theorem GwR_T (h : ∀ r, r < k → wy r T = 1) (hk : 2 * (Q + 1) ≤ k) (hy : y = T) : GwR n T Q tk af cs wy y := fun s u hs h1 h2 => by
  have e : u = T := by omega
  subst e
  rw [h s (by omega), if_pos rfl]
  exact ⟨⟨by decide, by decide⟩, by decide⟩
theorem GwR_Rc (h : GwR n T Q tk af cs wy 0) (ha : ∀ i f, i < n → f ≤ 1 → af i f ≤ 2) : RcE n T Q tk af cs (fun q f t => (wy (2 * q + f) t).toInt) := fun q f t hq hf ht => by
  have e := (h (2 * q + f) t (by omega) (Nat.zero_le t) ht).2
  show (wy (2 * q + f) t).toInt = _
  rw [e, show (2 * q + f) % 2 = f by omega, show (2 * q + f) / 2 = q by omega]
  by_cases z : t = T
  · rw [if_pos z, if_pos z]
  · rw [if_neg z, if_neg z]
    refine congrArg capI (sI_cg (fun i hi => ?_))
    show (wbV tk af cs wy i t f q).toInt = if af i f = 0 ∨ q < cs i t then 0 else (wy (2 * (q - cs i t) + (af i f - 1)) (t + tk i)).toInt
    unfold wbV
    by_cases y : af i f = 0 ∨ q < cs i t
    · rw [if_pos y, if_pos y]
      rfl
    · rw [if_neg y, if_neg y]
theorem GdR_ok (h : GdR n T tk af cs gtk gaf gco) : LtOk n gtk ∧ FtOk n gaf ∧ CoOk n T gtk gco := by
  refine ⟨fun i hi => ?_, fun i f hi hf => ?_, fun i t hi ht => ?_⟩
  · obtain ⟨a, b, c⟩ := h.1 i hi
    exact ⟨tk i, b, c, a⟩
  · obtain ⟨a, b⟩ := h.2.1 i f hi hf
    exact ⟨af i f, b, a⟩
  · obtain ⟨a, b, c⟩ := h.2.2 i t hi ht
    refine ⟨cs i t, b, a, fun h9 k hk h45 => ?_⟩
    have e := (h.1 i hi)
    have : tk i = k := (nI_eq (by omega) (by omega)).mp (e.1.symm.trans hk)
    have := c h9
    omega
end GW
set_option maxHeartbeats 4000000 in
set_option maxRecDepth 100000 in
theorem s_X3_waysByF (lau : Launch) (gg : va_G) (kA : Nat → ClassId) (g : Nat) (k : Nat) (t : Nat) (f : Nat) (mm : Nat) (g0 : Nat) (g1 : Nat) (g2 : Nat) (g3 : Nat) (g4 : Nat) (g5 : Nat) (g6 : Nat) (g7 : Nat) (gn : Nat) (gtm : Nat) (gms : Nat) (M : Nat) (gtk : Nat → Int32) (gaf : Nat → Nat → Int32) (gco : Nat → Nat → Int32) (gwy : Nat → Nat → Int64) (tkf : Nat → Nat) (aff : Nat → Nat → Nat) (csf : Nat → Nat → Nat) (hM : M ≤ 10) (hgn : gn ≤ M) (hgtm : gtm ≤ 60) (hgd : GdR gn gtm tkf aff csf gtk gaf gco) (hk : k < gn) (ht : t < gtm) (hf : f ≤ 1) (hmm : mm ≤ 3) : CtL lau yX3_waysBy cX3_waysBy 7 (some .long) 1 0 0 gg kA [.ref g, .int (nI k), .int (nI t), .int (nI f), .int (nI mm)] (mflat [(g, .inl (.inr (3, [.ref g0, .ref g1, .ref g2, .ref g3, .ref g4, .ref g5, .ref g6, .ref g7, .int (nI gn), .int (nI gtm), .int (nI gms)]))), (g0, .inl (.inl (kA 1, M, .inl gtk))), (g1, .inr (kA 6, kA 1, M, 2, .inl gaf)), (g2, .inr (kA 6, kA 1, M, 60, .inl gco)), (g3, .inr (kA 7, kA 2, 8, 61, .inr gwy))]) (S := Unit) (fun (r : Int64) (_ : Unit) => r = wbV tkf aff csf gwy k t f mm) (fun (_ : Unit) => mflat [(g, .inl (.inr (3, [.ref g0, .ref g1, .ref g2, .ref g3, .ref g4, .ref g5, .ref g6, .ref g7, .int (nI gn), .int (nI gtm), .int (nI gms)]))), (g0, .inl (.inl (kA 1, M, .inl gtk))), (g1, .inr (kA 6, kA 1, M, 2, .inl gaf)), (g2, .inr (kA 6, kA 1, M, 60, .inl gco)), (g3, .inr (kA 7, kA 2, 8, 61, .inr gwy))]) := by
  refine nx_startL (by decide +kernel) (Nat.le_of_ble_eq_true rfl) ?_
  intro x hnm h hq
  have h : Ok x cX3_waysBy RX3 kA (rmC 1 0 0) 7 := h
  show J x (mflat [(g, .inl (.inr (3, [.ref g0, .ref g1, .ref g2, .ref g3, .ref g4, .ref g5, .ref g6, .ref g7, .int (nI gn), .int (nI gtm), .int (nI gms)]))), (g0, .inl (.inl (kA 1, M, .inl gtk))), (g1, .inr (kA 6, kA 1, M, 2, .inl gaf)), (g2, .inr (kA 6, kA 1, M, 60, .inl gco)), (g3, .inr (kA 7, kA 2, 8, 61, .inr gwy))]) [(0, .ref g), (1, .int (nI k)), (2, .int (nI t)), (3, .int (nI f)), (4, .int (nI mm))] 0 0 0 []
  refine j_aload_n h 0 rfl rfl dX3_waysBy_0 ?_
  refine jm_get h iw_X3 0 rfl rfl 1 (by decide +kernel) tw_379 rfl dX3_waysBy_1 ?_
  refine j_iload_n h 1 rfl rfl dX3_waysBy_4 ?_
  refine jm_gout h 2 6 rfl rfl k rfl (by omega) (by omega) dX3_waysBy_5 ?_
  refine j_iload_n h 3 rfl rfl dX3_waysBy_6 ?_
  refine jm_gald h 2 rfl k (by omega) f rfl (by omega) (by omega) dX3_waysBy_7 ?_
  obtain ⟨u810016, u810017⟩ := hgd.2.1 k f (by omega) (by omega)
  obtain ⟨t810014, u810015⟩ : ∃ a9, a9 = aff k f := ⟨_, rfl⟩
  rw [← u810015] at u810016 u810017
  refine j_top (b := pm t810014) (u810016) ?_
  refine j_istore (lv' := [(5, .int (pm t810014)), (0, .ref g), (1, .int (nI k)), (2, .int (nI t)), (3, .int (nI f)), (4, .int (nI mm))]) h dX3_waysBy_8 (by decide) rfl ?_
  refine j_iload h 5 rfl dX3_waysBy_10 ?_
  refine j_aload_n h 1 rfl rfl dX3_waysBy_12 ?_
  refine jm_get h iw_X3 0 rfl rfl 2 (by decide +kernel) tw_381 rfl dX3_waysBy_13 ?_
  refine j_iload_n h 2 rfl rfl dX3_waysBy_16 ?_
  refine jm_gout h 3 6 rfl rfl k rfl (by omega) (by omega) dX3_waysBy_17 ?_
  refine j_iload_n h 3 rfl rfl dX3_waysBy_18 ?_
  refine jm_gald h 3 rfl k (by omega) t rfl (by omega) (by omega) dX3_waysBy_19 ?_
  obtain ⟨u810018, u810019, u810020⟩ := hgd.2.2 k t (by omega) (by omega)
  refine j_top (b := nI (csf k t)) (u810018) ?_
  refine j_isub h dX3_waysBy_20 ?_
  by_cases z810021 : (csf k t) ≤ mm
  · refine j_top (b := nI (mm - (csf k t))) (pk_sub (a := mm) (b := (csf k t)) (by omega)) ?_
    show J x (mflat [(g, .inl (.inr (3, [.ref g0, .ref g1, .ref g2, .ref g3, .ref g4, .ref g5, .ref g6, .ref g7, .int (nI gn), .int (nI gtm), .int (nI gms)]))), (g0, .inl (.inl (kA 1, M, .inl gtk))), (g1, .inr (kA 6, kA 1, M, 2, .inl gaf)), (g2, .inr (kA 6, kA 1, M, 60, .inl gco)), (g3, .inr (kA 7, kA 2, 8, 61, .inr gwy))]) [(5, .int (pm t810014)), (0, .ref g), (1, .int (nI k)), (2, .int (nI t)), (3, .int (nI f)), (4, .int (nI mm))] 0 0 21 [.int (nI (mm - (csf k t)))]
    refine j_istore (lv' := [(6, .int (nI (mm - (csf k t)))), (5, .int (pm t810014)), (0, .ref g), (1, .int (nI k)), (2, .int (nI t)), (3, .int (nI f)), (4, .int (nI mm))]) h dX3_waysBy_21 (by decide) rfl ?_
    refine j_iload h 1 rfl dX3_waysBy_23 ?_
    refine j_iconst (v := (-1)) h (by decide) dX3_waysBy_25 ?_
    rcases t810014 with _ | j810022
    · show J x (mflat [(g, .inl (.inr (3, [.ref g0, .ref g1, .ref g2, .ref g3, .ref g4, .ref g5, .ref g6, .ref g7, .int (nI gn), .int (nI gtm), .int (nI gms)]))), (g0, .inl (.inl (kA 1, M, .inl gtk))), (g1, .inr (kA 6, kA 1, M, 2, .inl gaf)), (g2, .inr (kA 6, kA 1, M, 60, .inl gco)), (g3, .inr (kA 7, kA 2, 8, 61, .inr gwy))]) [(6, .int (nI (mm - (csf k t)))), (5, .int (-1)), (0, .ref g), (1, .int (nI k)), (2, .int (nI t)), (3, .int (nI f)), (4, .int (nI mm))] 0 0 26 [.int (-1), .int (-1)]
      refine j_icmp_eq h 34 dX3_waysBy_26 (by decide) (fun _ => ?_) (fun q => absurd (by decide) q)
      refine j_lconst (v := 0) h (by decide) dX3_waysBy_34 ?_
      exact jm_lret h hq dX3_waysBy_35 () [0, 1, 2, 3, 4] rfl (by decide) (by first | exact wbV_0 u810015.symm | exact wbV_q (by omega)) (Nat.le_of_ble_eq_true rfl) (Nat.le_of_ble_eq_true rfl)
    · show J x (mflat [(g, .inl (.inr (3, [.ref g0, .ref g1, .ref g2, .ref g3, .ref g4, .ref g5, .ref g6, .ref g7, .int (nI gn), .int (nI gtm), .int (nI gms)]))), (g0, .inl (.inl (kA 1, M, .inl gtk))), (g1, .inr (kA 6, kA 1, M, 2, .inl gaf)), (g2, .inr (kA 6, kA 1, M, 60, .inl gco)), (g3, .inr (kA 7, kA 2, 8, 61, .inr gwy))]) [(6, .int (nI (mm - (csf k t)))), (5, .int (nI j810022)), (0, .ref g), (1, .int (nI k)), (2, .int (nI t)), (3, .int (nI f)), (4, .int (nI mm))] 0 0 26 [.int (-1), .int (nI j810022)]
      refine j_icmp_eq h 34 dX3_waysBy_26 (by decide) (fun q => absurd q (nI_m1 (by omega))) (fun _ => ?_)
      refine j_iload h 0 rfl dX3_waysBy_29 ?_
      refine j_if_ge h 36 dX3_waysBy_31 (by decide) (fun _ => ?_) (fun q => absurd (nI_pos' (by omega)) q)
      refine j_aload_n h 2 rfl rfl dX3_waysBy_36 ?_
      refine jm_get h iw_X3 0 rfl rfl 3 (by decide +kernel) tw_382 rfl dX3_waysBy_37 ?_
      refine j_iconst (v := 2) h (by decide) dX3_waysBy_40 ?_
      refine j_iload h 0 rfl dX3_waysBy_41 ?_
      refine j_imul h dX3_waysBy_43 ?_
      refine j_top (b := nI (2 * (mm - (csf k t)))) (pk_mul 2 (mm - (csf k t))) ?_
      refine j_iload h 1 rfl dX3_waysBy_44 ?_
      refine j_iadd h dX3_waysBy_46 ?_
      refine j_top (b := nI ((2 * (mm - (csf k t))) + j810022)) (nI_add (2 * (mm - (csf k t))) j810022) ?_
      refine jm_gout h 4 7 rfl rfl ((2 * (mm - (csf k t))) + j810022) rfl (by omega) (by omega) dX3_waysBy_47 ?_
      refine j_iload_n h 4 rfl rfl dX3_waysBy_48 ?_
      refine j_aload_n h 2 rfl rfl dX3_waysBy_49 ?_
      refine jm_get h iw_X3 0 rfl rfl 0 (by decide +kernel) tw_377 rfl dX3_waysBy_50 ?_
      refine j_iload_n h 3 rfl rfl dX3_waysBy_53 ?_
      refine jm_iald h 1 rfl k rfl (by omega) (by omega) dX3_waysBy_54 ?_
      obtain ⟨u810023, u810024, u810025⟩ := hgd.1 k (by omega)
      refine j_top (b := nI (tkf k)) (u810023) ?_
      refine j_iadd h dX3_waysBy_55 ?_
      refine j_top (b := nI (t + (tkf k))) (nI_add t (tkf k)) ?_
      refine jm_glald h 4 rfl ((2 * (mm - (csf k t))) + j810022) (by omega) (t + (tkf k)) rfl (by omega) (by omega) dX3_waysBy_56 ?_
      exact jm_lret h hq dX3_waysBy_57 () [0, 1, 2, 3, 4] rfl (by decide) (wbV_y u810015 (by omega)) (Nat.le_of_ble_eq_true rfl) (Nat.le_of_ble_eq_true rfl)
  · have hz810021 : (nI mm) - (nI (csf k t)) < 0 := pk_sneg (a := mm) (b := (csf k t)) (by omega) (by omega)
    show J x (mflat [(g, .inl (.inr (3, [.ref g0, .ref g1, .ref g2, .ref g3, .ref g4, .ref g5, .ref g6, .ref g7, .int (nI gn), .int (nI gtm), .int (nI gms)]))), (g0, .inl (.inl (kA 1, M, .inl gtk))), (g1, .inr (kA 6, kA 1, M, 2, .inl gaf)), (g2, .inr (kA 6, kA 1, M, 60, .inl gco)), (g3, .inr (kA 7, kA 2, 8, 61, .inr gwy))]) [(5, .int (pm t810014)), (0, .ref g), (1, .int (nI k)), (2, .int (nI t)), (3, .int (nI f)), (4, .int (nI mm))] 0 0 21 [.int ((nI mm) - (nI (csf k t)))]
    refine j_istore (lv' := [(6, .int ((nI mm) - (nI (csf k t)))), (5, .int (pm t810014)), (0, .ref g), (1, .int (nI k)), (2, .int (nI t)), (3, .int (nI f)), (4, .int (nI mm))]) h dX3_waysBy_21 (by decide) rfl ?_
    refine j_iload h 1 rfl dX3_waysBy_23 ?_
    refine j_iconst (v := (-1)) h (by decide) dX3_waysBy_25 ?_
    rcases t810014 with _ | j810026
    · show J x (mflat [(g, .inl (.inr (3, [.ref g0, .ref g1, .ref g2, .ref g3, .ref g4, .ref g5, .ref g6, .ref g7, .int (nI gn), .int (nI gtm), .int (nI gms)]))), (g0, .inl (.inl (kA 1, M, .inl gtk))), (g1, .inr (kA 6, kA 1, M, 2, .inl gaf)), (g2, .inr (kA 6, kA 1, M, 60, .inl gco)), (g3, .inr (kA 7, kA 2, 8, 61, .inr gwy))]) [(6, .int ((nI mm) - (nI (csf k t)))), (5, .int (-1)), (0, .ref g), (1, .int (nI k)), (2, .int (nI t)), (3, .int (nI f)), (4, .int (nI mm))] 0 0 26 [.int (-1), .int (-1)]
      refine j_icmp_eq h 34 dX3_waysBy_26 (by decide) (fun _ => ?_) (fun q => absurd (by decide) q)
      refine j_lconst (v := 0) h (by decide) dX3_waysBy_34 ?_
      exact jm_lret h hq dX3_waysBy_35 () [0, 1, 2, 3, 4] rfl (by decide) (by first | exact wbV_0 u810015.symm | exact wbV_q (by omega)) (Nat.le_of_ble_eq_true rfl) (Nat.le_of_ble_eq_true rfl)
    · show J x (mflat [(g, .inl (.inr (3, [.ref g0, .ref g1, .ref g2, .ref g3, .ref g4, .ref g5, .ref g6, .ref g7, .int (nI gn), .int (nI gtm), .int (nI gms)]))), (g0, .inl (.inl (kA 1, M, .inl gtk))), (g1, .inr (kA 6, kA 1, M, 2, .inl gaf)), (g2, .inr (kA 6, kA 1, M, 60, .inl gco)), (g3, .inr (kA 7, kA 2, 8, 61, .inr gwy))]) [(6, .int ((nI mm) - (nI (csf k t)))), (5, .int (nI j810026)), (0, .ref g), (1, .int (nI k)), (2, .int (nI t)), (3, .int (nI f)), (4, .int (nI mm))] 0 0 26 [.int (-1), .int (nI j810026)]
      refine j_icmp_eq h 34 dX3_waysBy_26 (by decide) (fun q => absurd q (nI_m1 (by omega))) (fun _ => ?_)
      refine j_iload h 0 rfl dX3_waysBy_29 ?_
      refine j_if_ge h 36 dX3_waysBy_31 (by decide) (fun q => absurd q (fun q8 => Int32.lt_irrefl (Int32.lt_of_le_of_lt q8 hz810021))) (fun _ => ?_)
      refine j_lconst (v := 0) h (by decide) dX3_waysBy_34 ?_
      exact jm_lret h hq dX3_waysBy_35 () [0, 1, 2, 3, 4] rfl (by decide) (by first | exact wbV_0 u810015.symm | exact wbV_q (by omega)) (Nat.le_of_ble_eq_true rfl) (Nat.le_of_ble_eq_true rfl)
set_option maxHeartbeats 4000000 in
set_option maxRecDepth 100000 in
theorem s_J9_minLF (lau : Launch) (gg : va_G) (kA : Nat → ClassId) (a : Int64) (b : Int64)  : CtL lau yJ9_min_f86c9 cJ9_min_f86c9 4 (some .long) 1 0 0 gg kA [.long a, .long b] (mflat []) (S := Unit) (fun (r : Int64) (_ : Unit) => r = mnL a b) (fun (_ : Unit) => mflat []) := by
  refine nx_startLF (by decide +kernel) (Nat.le_of_ble_eq_true rfl) ?_
  intro x hnm h hq
  have h : Ok x cJ9_min_f86c9 RJ9 kA (rmC 1 0 0) 4 := h
  show J x (mflat []) [(0, .long a), (2, .long b)] 0 0 0 []
  refine j_lload_n h 0 rfl rfl dJ9_min_f86c9_0 ?_
  refine j_lload_n h 1 rfl rfl dJ9_min_f86c9_1 ?_
  refine j_lcmp h dJ9_min_f86c9_2 ?_
  refine j_if_gt h 10 dJ9_min_f86c9_3 (by decide) (fun z810028 => ?_) (fun z810028 => ?_)
  · show J x (mflat []) [(0, .long a), (2, .long b)] 0 0 10 []
    refine j_lload_n h 1 rfl rfl dJ9_min_f86c9_10 ?_
    exact jm_lret h hq dJ9_min_f86c9_11 () [] rfl (by decide) (by unfold mnL; first | exact (if_pos (Int32.not_lt.mp z810028)).symm | exact (if_neg (Int32.not_le.mpr z810028)).symm) (Nat.le_of_ble_eq_true rfl) (Nat.le_of_ble_eq_true rfl)
  · show J x (mflat []) [(0, .long a), (2, .long b)] 0 0 6 []
    refine j_lload_n h 0 rfl rfl dJ9_min_f86c9_6 ?_
    refine j_goto h 11 dJ9_min_f86c9_7 (by decide) ?_
    exact jm_lret h hq dJ9_min_f86c9_11 () [] rfl (by decide) (by unfold mnL; first | exact (if_pos (Int32.not_lt.mp z810028)).symm | exact (if_neg (Int32.not_le.mpr z810028)).symm) (Nat.le_of_ble_eq_true rfl) (Nat.le_of_ble_eq_true rfl)
set_option maxHeartbeats 4000000 in
set_option maxRecDepth 100000 in
theorem s_X3_sumOfWaysF (lau : Launch) (gg : va_G) (kA : Nat → ClassId) (g : Nat) (t : Nat) (f : Nat) (mm : Nat) (g0 : Nat) (g1 : Nat) (g2 : Nat) (g3 : Nat) (g4 : Nat) (g5 : Nat) (g6 : Nat) (g7 : Nat) (gn : Nat) (gtm : Nat) (gms : Nat) (M : Nat) (gtk : Nat → Int32) (gaf : Nat → Nat → Int32) (gco : Nat → Nat → Int32) (gwy : Nat → Nat → Int64) (tkf : Nat → Nat) (aff : Nat → Nat → Nat) (csf : Nat → Nat → Nat) (hM : M ≤ 10) (hgn : gn ≤ M) (hgtm : gtm ≤ 60) (hgd : GdR gn gtm tkf aff csf gtk gaf gco) (ht : t < gtm) (hf : f ≤ 1) (hmm : mm ≤ 3) (hwb : ∀ r u, r < 2 * (mm + 1) → t < u → u ≤ gtm → In15 (gwy r u)) : CtL lau yX3_sumOfWays cX3_sumOfWays 7 (some .long) 2 0 0 gg kA [.ref g, .int (nI t), .int (nI f), .int (nI mm)] (mflat [(g, .inl (.inr (3, [.ref g0, .ref g1, .ref g2, .ref g3, .ref g4, .ref g5, .ref g6, .ref g7, .int (nI gn), .int (nI gtm), .int (nI gms)]))), (g0, .inl (.inl (kA 1, M, .inl gtk))), (g1, .inr (kA 6, kA 1, M, 2, .inl gaf)), (g2, .inr (kA 6, kA 1, M, 60, .inl gco)), (g3, .inr (kA 7, kA 2, 8, 61, .inr gwy))]) (S := Unit) (fun (r : Int64) (_ : Unit) => (In15 r) ∧ ((r).toInt = capI (sI (fun i => (wbV tkf aff csf gwy i t f mm).toInt) gn))) (fun (_ : Unit) => mflat [(g, .inl (.inr (3, [.ref g0, .ref g1, .ref g2, .ref g3, .ref g4, .ref g5, .ref g6, .ref g7, .int (nI gn), .int (nI gtm), .int (nI gms)]))), (g0, .inl (.inl (kA 1, M, .inl gtk))), (g1, .inr (kA 6, kA 1, M, 2, .inl gaf)), (g2, .inr (kA 6, kA 1, M, 60, .inl gco)), (g3, .inr (kA 7, kA 2, 8, 61, .inr gwy))]) := by
  refine nx_startL (by decide +kernel) (Nat.le_of_ble_eq_true rfl) ?_
  intro x hnm h hq
  have h : Ok x cX3_sumOfWays RX3 kA (rmC 2 0 0) 7 := h
  show J x (mflat [(g, .inl (.inr (3, [.ref g0, .ref g1, .ref g2, .ref g3, .ref g4, .ref g5, .ref g6, .ref g7, .int (nI gn), .int (nI gtm), .int (nI gms)]))), (g0, .inl (.inl (kA 1, M, .inl gtk))), (g1, .inr (kA 6, kA 1, M, 2, .inl gaf)), (g2, .inr (kA 6, kA 1, M, 60, .inl gco)), (g3, .inr (kA 7, kA 2, 8, 61, .inr gwy))]) [(0, .ref g), (1, .int (nI t)), (2, .int (nI f)), (3, .int (nI mm))] 0 0 0 []
  refine j_lconst (v := 0) h (by decide) dX3_sumOfWays_0 ?_
  refine j_lstore (lv' := [(4, .long 0), (0, .ref g), (1, .int (nI t)), (2, .int (nI f)), (3, .int (nI mm))]) h dX3_sumOfWays_1 (by decide) rfl ?_
  refine j_iconst (v := 0) h (by decide) dX3_sumOfWays_3 ?_
  refine j_istore (lv' := [(6, .int 0), (4, .long 0), (0, .ref g), (1, .int (nI t)), (2, .int (nI f)), (3, .int (nI mm))]) h dX3_sumOfWays_4 (by decide) rfl ?_
  have lp6_81006 : ∀ (m6_81006 : Nat), ∀ (v6_6_81006 : Nat) (v4_6_81006 : Int64), (Int64.toInt v4_6_81006 = sI (fun i => (wbV tkf aff csf gwy i t f mm).toInt) v6_6_81006) → (0 ≤ Int64.toInt v4_6_81006) → (Int64.toInt v4_6_81006 ≤ v6_6_81006 * 1000000000000000) → (v6_6_81006 ≤ gn) → (v6_6_81006 ≤ 100000) → gn - v6_6_81006 < m6_81006 → J x (mflat [(g, .inl (.inr (3, [.ref g0, .ref g1, .ref g2, .ref g3, .ref g4, .ref g5, .ref g6, .ref g7, .int (nI gn), .int (nI gtm), .int (nI gms)]))), (g0, .inl (.inl (kA 1, M, .inl gtk))), (g1, .inr (kA 6, kA 1, M, 2, .inl gaf)), (g2, .inr (kA 6, kA 1, M, 60, .inl gco)), (g3, .inr (kA 7, kA 2, 8, 61, .inr gwy))]) [(6, .int (nI v6_6_81006)), (4, .long v4_6_81006), (0, .ref g), (1, .int (nI t)), (2, .int (nI f)), (3, .int (nI mm))] 0 0 6 [] := by
    intro m6_81006
    induction m6_81006 with
    | zero =>
      intro v6_6_81006 v4_6_81006 i6_81006_0 i6_81006_1 i6_81006_2 i6_81006_3 i6_81006_4 hm6_81006
      exact absurd hm6_81006 (Nat.not_lt_zero _)
    | succ m6_81006 ih6_81006 =>
      intro v6_6_81006 v4_6_81006 i6_81006_0 i6_81006_1 i6_81006_2 i6_81006_3 i6_81006_4 hm6_81006
      refine j_iload h 0 rfl dX3_sumOfWays_6 ?_
      refine j_aload_n h 2 rfl rfl dX3_sumOfWays_8 ?_
      refine jm_get h iw_X3 0 rfl rfl 8 (by decide +kernel) tw_387 rfl dX3_sumOfWays_9 ?_
      refine j_icmp_ge h 35 dX3_sumOfWays_12 (by decide) (fun z810064 => ?_) (fun z810064 => ?_)
      · have z810064n : gn ≤ v6_6_81006 := (nI_leI (a := gn) (b := v6_6_81006) (by omega) (by omega)).mp z810064
        refine j_lload h 1 rfl dX3_sumOfWays_35 ?_
        refine j_ldc2 h tw_879 dX3_sumOfWays_37 ?_
        refine jm_callSl (np := 2) (isC := []) (isR := [0, 1, 2, 3, 4]) (wc := []) (wr := [(g, .inl (.inr (3, [.ref g0, .ref g1, .ref g2, .ref g3, .ref g4, .ref g5, .ref g6, .ref g7, .int (nI gn), .int (nI gtm), .int (nI gms)]))), (g0, .inl (.inl (kA 1, M, .inl gtk))), (g1, .inr (kA 6, kA 1, M, 2, .inl gaf)), (g2, .inr (kA 6, kA 1, M, 60, .inl gco)), (g3, .inr (kA 7, kA 2, 8, 61, .inr gwy))]) (rest := []) (As := [.long v4_6_81006, .long 1000000000000000]) h (s_J9_minLF _ _ kA v4_6_81006 1000000000000000 ) tw_880 tw_881 tw_105 tw_882 (by decide +kernel) rfl ⟨Nat.le_of_ble_eq_true rfl, Nat.le_of_ble_eq_true rfl⟩ (by decide +kernel) rfl rfl (by decide +kernel) (by decide +kernel) (Nat.le_of_ble_eq_true rfl) rfl ⟨Nat.le_of_ble_eq_true rfl, Nat.le_of_ble_eq_true rfl⟩ dX3_sumOfWays_40 ?_
        rintro r810066 _ e810065
        have p810067 := e810065
        subst p810067
        show J x (mflat [(g, .inl (.inr (3, [.ref g0, .ref g1, .ref g2, .ref g3, .ref g4, .ref g5, .ref g6, .ref g7, .int (nI gn), .int (nI gtm), .int (nI gms)]))), (g0, .inl (.inl (kA 1, M, .inl gtk))), (g1, .inr (kA 6, kA 1, M, 2, .inl gaf)), (g2, .inr (kA 6, kA 1, M, 60, .inl gco)), (g3, .inr (kA 7, kA 2, 8, 61, .inr gwy))]) [(6, .int (nI v6_6_81006)), (4, .long v4_6_81006), (0, .ref g), (1, .int (nI t)), (2, .int (nI f)), (3, .int (nI mm))] 0 0 43 [.long (mnL v4_6_81006 1000000000000000)]
        exact jm_lret h hq dX3_sumOfWays_43 () [0, 1, 2, 3, 4] rfl (by decide) ⟨(show In15 (mnL v4_6_81006 1000000000000000) from (by unfold In15; rw [mnL_t, i6_81006_0]; exact cap_in (by rw [← i6_81006_0]; exact i6_81006_1))), (show ((mnL v4_6_81006 1000000000000000)).toInt = capI (sI (fun i => (wbV tkf aff csf gwy i t f mm).toInt) gn) from mnL_t.trans (by rw [i6_81006_0, show v6_6_81006 = gn by omega]))⟩ (Nat.le_of_ble_eq_true rfl) (Nat.le_of_ble_eq_true rfl)
      · have z810064n : ¬ gn ≤ v6_6_81006 := fun q9 => z810064 ((nI_leI (a := gn) (b := v6_6_81006) (by omega) (by omega)).mpr q9)
        refine j_lload h 1 rfl dX3_sumOfWays_15 ?_
        refine j_aload_n h 2 rfl rfl dX3_sumOfWays_17 ?_
        refine j_iload h 0 rfl dX3_sumOfWays_18 ?_
        refine j_iload_n h 3 rfl rfl dX3_sumOfWays_20 ?_
        refine j_iload_n h 4 rfl rfl dX3_sumOfWays_21 ?_
        refine j_iload_n h 5 rfl rfl dX3_sumOfWays_22 ?_
        refine jm_callVl (np := 4) (isC := [0, 1, 2, 3, 4]) (isR := []) (wc := [(g, .inl (.inr (3, [.ref g0, .ref g1, .ref g2, .ref g3, .ref g4, .ref g5, .ref g6, .ref g7, .int (nI gn), .int (nI gtm), .int (nI gms)]))), (g0, .inl (.inl (kA 1, M, .inl gtk))), (g1, .inr (kA 6, kA 1, M, 2, .inl gaf)), (g2, .inr (kA 6, kA 1, M, 60, .inl gco)), (g3, .inr (kA 7, kA 2, 8, 61, .inr gwy))]) (wr := []) (rest := [.long v4_6_81006]) (As := [.int (nI v6_6_81006), .int (nI t), .int (nI f), .int (nI mm)]) (q0 := 0) h (s_X3_waysByF _ _ kA g v6_6_81006 t f mm g0 g1 g2 g3 g4 g5 g6 g7 gn gtm gms M gtk gaf gco gwy tkf aff csf (show M ≤ 10 by first | assumption | omega) (show gn ≤ M by first | assumption | omega) (show gtm ≤ 60 by first | assumption | omega) (show GdR gn gtm tkf aff csf gtk gaf gco by first | assumption | omega) (show v6_6_81006 < gn by first | assumption | omega) (show t < gtm by first | assumption | omega) (show f ≤ 1 by first | assumption | omega) (show mm ≤ 3 by first | assumption | omega)) tw_875 tw_877 tw_21 tw_95 tw_878 (by decide +kernel) rfl ⟨Nat.le_of_ble_eq_true rfl, Nat.le_of_ble_eq_true rfl⟩ rfl rfl (by decide +kernel) rfl rfl (by decide +kernel) (by decide +kernel) (Nat.le_of_ble_eq_true rfl) rfl ⟨Nat.le_of_ble_eq_true rfl, Nat.le_of_ble_eq_true rfl⟩ dX3_sumOfWays_23 ?_
        rintro r810069 _ e810068
        have p810070 := e810068
        subst p810070
        show J x (mflat [(g, .inl (.inr (3, [.ref g0, .ref g1, .ref g2, .ref g3, .ref g4, .ref g5, .ref g6, .ref g7, .int (nI gn), .int (nI gtm), .int (nI gms)]))), (g0, .inl (.inl (kA 1, M, .inl gtk))), (g1, .inr (kA 6, kA 1, M, 2, .inl gaf)), (g2, .inr (kA 6, kA 1, M, 60, .inl gco)), (g3, .inr (kA 7, kA 2, 8, 61, .inr gwy))]) [(6, .int (nI v6_6_81006)), (4, .long v4_6_81006), (0, .ref g), (1, .int (nI t)), (2, .int (nI f)), (3, .int (nI mm))] 0 0 26 [.long (wbV tkf aff csf gwy v6_6_81006 t f mm), .long v4_6_81006]
        refine j_ladd h dX3_sumOfWays_26 ?_
        refine j_lstore (lv' := [(4, .long (v4_6_81006 + (wbV tkf aff csf gwy v6_6_81006 t f mm))), (6, .int (nI v6_6_81006)), (0, .ref g), (1, .int (nI t)), (2, .int (nI f)), (3, .int (nI mm))]) h dX3_sumOfWays_27 (by decide) rfl ?_
        refine j_iinc (v := nI (v6_6_81006 + 1)) (lv' := [(6, .int (nI (v6_6_81006 + 1))), (4, .long (v4_6_81006 + (wbV tkf aff csf gwy v6_6_81006 t f mm))), (0, .ref g), (1, .int (nI t)), (2, .int (nI f)), (3, .int (nI mm))]) h dX3_sumOfWays_29 1 rfl (nI_add v6_6_81006 1) (by decide) rfl ?_
        refine j_goto h 6 dX3_sumOfWays_32 (by decide) ?_
        refine jm_sub [0, 1, 2, 3, 4] (w' := [(g, .inl (.inr (3, [.ref g0, .ref g1, .ref g2, .ref g3, .ref g4, .ref g5, .ref g6, .ref g7, .int (nI gn), .int (nI gtm), .int (nI gms)]))), (g0, .inl (.inl (kA 1, M, .inl gtk))), (g1, .inr (kA 6, kA 1, M, 2, .inl gaf)), (g2, .inr (kA 6, kA 1, M, 60, .inl gco)), (g3, .inr (kA 7, kA 2, 8, 61, .inr gwy))]) rfl (by decide +kernel) [0, 1, 2, 3, 4, 5] (lv' := [(6, .int (nI (v6_6_81006 + 1))), (4, .long (v4_6_81006 + (wbV tkf aff csf gwy v6_6_81006 t f mm))), (0, .ref g), (1, .int (nI t)), (2, .int (nI f)), (3, .int (nI mm))]) rfl ?_
        exact ih6_81006 (v6_6_81006 + 1) (v4_6_81006 + (wbV tkf aff csf gwy v6_6_81006 t f mm)) (show Int64.toInt (v4_6_81006 + (wbV tkf aff csf gwy v6_6_81006 t f mm)) = sI (fun i => (wbV tkf aff csf gwy i t f mm).toInt) (v6_6_81006 + 1) from (add15 i6_81006_1 i6_81006_2 (by omega) (wbV_b hgd (by omega) hf hmm ht hwb)).trans (by rw [i6_81006_0]; rfl)) (show 0 ≤ Int64.toInt (v4_6_81006 + (wbV tkf aff csf gwy v6_6_81006 t f mm)) from (by have a9 := wbV_b (i := v6_6_81006) hgd (by omega) hf hmm ht hwb; rw [add15 i6_81006_1 i6_81006_2 (by omega) a9]; have b9 := a9.1; have c9 := a9.2; omega)) (show Int64.toInt (v4_6_81006 + (wbV tkf aff csf gwy v6_6_81006 t f mm)) ≤ (v6_6_81006 + 1) * 1000000000000000 from (by have a9 := wbV_b (i := v6_6_81006) hgd (by omega) hf hmm ht hwb; rw [add15 i6_81006_1 i6_81006_2 (by omega) a9]; have b9 := a9.1; have c9 := a9.2; omega)) (show (v6_6_81006 + 1) ≤ gn by first | assumption | omega) (show (v6_6_81006 + 1) ≤ 100000 by first | assumption | omega) (show gn - (v6_6_81006 + 1) < m6_81006 by omega)
  refine jm_sub [0, 1, 2, 3, 4] (w' := [(g, .inl (.inr (3, [.ref g0, .ref g1, .ref g2, .ref g3, .ref g4, .ref g5, .ref g6, .ref g7, .int (nI gn), .int (nI gtm), .int (nI gms)]))), (g0, .inl (.inl (kA 1, M, .inl gtk))), (g1, .inr (kA 6, kA 1, M, 2, .inl gaf)), (g2, .inr (kA 6, kA 1, M, 60, .inl gco)), (g3, .inr (kA 7, kA 2, 8, 61, .inr gwy))]) rfl (by decide +kernel) [0, 1, 2, 3, 4, 5] (lv' := [(6, .int 0), (4, .long 0), (0, .ref g), (1, .int (nI t)), (2, .int (nI f)), (3, .int (nI mm))]) rfl ?_
  exact lp6_81006 (gn - 0 + 1) 0 0 (show Int64.toInt 0 = sI (fun i => (wbV tkf aff csf gwy i t f mm).toInt) 0 from rfl) (show 0 ≤ Int64.toInt 0 from (by decide)) (show Int64.toInt 0 ≤ 0 * 1000000000000000 from (by decide)) (show 0 ≤ gn by first | assumption | omega) (show 0 ≤ 100000 by first | assumption | omega) (Nat.lt_succ_self _)
set_option maxHeartbeats 4000000 in
set_option maxRecDepth 100000 in
theorem s_X3_countWaysF (lau : Launch) (gg : va_G) (kA : Nat → ClassId) (g : Nat) (wt : Nat) (mm : Nat) (g0 : Nat) (g1 : Nat) (g2 : Nat) (g3 : Nat) (g4 : Nat) (g5 : Nat) (g6 : Nat) (g7 : Nat) (gn : Nat) (gt0 : Int32) (gm0 : Int32) (M : Nat) (gtk : Nat → Int32) (gaf : Nat → Nat → Int32) (gco : Nat → Nat → Int32) (gwy : Nat → Nat → Int64) (tkf : Nat → Nat) (aff : Nat → Nat → Nat) (csf : Nat → Nat → Nat) (hM : M ≤ 10) (hgn : gn ≤ M) (hgtm : wt ≤ 60) (hgd : GdR gn wt tkf aff csf gtk gaf gco) (hmm : mm ≤ 3) : CtL lau yX3_countWays cX3_countWays 5 (some .long) 3 0 0 gg kA [.ref g, .int (nI wt), .int (nI mm)] (mflat [(g, .inl (.inr (3, [.ref g0, .ref g1, .ref g2, .ref g3, .ref g4, .ref g5, .ref g6, .ref g7, .int (nI gn), .int gt0, .int gm0]))), (g0, .inl (.inl (kA 1, M, .inl gtk))), (g1, .inr (kA 6, kA 1, M, 2, .inl gaf)), (g2, .inr (kA 6, kA 1, M, 60, .inl gco)), (g3, .inr (kA 7, kA 2, 8, 61, .inr gwy))]) (S := (Nat → Nat → Int64)) (fun (r : Int64) (y_g3 : (Nat → Nat → Int64)) => (GwR gn wt mm tkf aff csf y_g3 0) ∧ (r = y_g3 (2 * mm) 0)) (fun (y_g3 : (Nat → Nat → Int64)) => mflat [(g, .inl (.inr (3, [.ref g0, .ref g1, .ref g2, .ref g3, .ref g4, .ref g5, .ref g6, .ref g7, .int (nI gn), .int (nI wt), .int (nI mm)]))), (g0, .inl (.inl (kA 1, M, .inl gtk))), (g1, .inr (kA 6, kA 1, M, 2, .inl gaf)), (g2, .inr (kA 6, kA 1, M, 60, .inl gco)), (g3, .inr (kA 7, kA 2, 8, 61, .inr y_g3))]) := by
  refine nx_startL (by decide +kernel) (Nat.le_of_ble_eq_true rfl) ?_
  intro x hnm h hq
  have h : Ok x cX3_countWays RX3 kA (rmC 3 0 0) 5 := h
  show J x (mflat [(g, .inl (.inr (3, [.ref g0, .ref g1, .ref g2, .ref g3, .ref g4, .ref g5, .ref g6, .ref g7, .int (nI gn), .int gt0, .int gm0]))), (g0, .inl (.inl (kA 1, M, .inl gtk))), (g1, .inr (kA 6, kA 1, M, 2, .inl gaf)), (g2, .inr (kA 6, kA 1, M, 60, .inl gco)), (g3, .inr (kA 7, kA 2, 8, 61, .inr gwy))]) [(0, .ref g), (1, .int (nI wt)), (2, .int (nI mm))] 0 0 0 []
  refine j_aload_n h 0 rfl rfl dX3_countWays_0 ?_
  refine j_iload_n h 1 rfl rfl dX3_countWays_1 ?_
  refine jm_put (w' := [(g, .inl (.inr (3, [.ref g0, .ref g1, .ref g2, .ref g3, .ref g4, .ref g5, .ref g6, .ref g7, .int (nI gn), .int (nI wt), .int gm0]))), (g0, .inl (.inl (kA 1, M, .inl gtk))), (g1, .inr (kA 6, kA 1, M, 2, .inl gaf)), (g2, .inr (kA 6, kA 1, M, 60, .inl gco)), (g3, .inr (kA 7, kA 2, 8, 61, .inr gwy))]) h iw_X3 tyX3 tyX3_ok nmX3 0 rfl rfl 9 (by decide +kernel) tw_389 rfl rfl rfl (Nat.le_of_ble_eq_true rfl) dX3_countWays_2 rfl ?_
  refine j_aload_n h 0 rfl rfl dX3_countWays_5 ?_
  refine j_iload_n h 2 rfl rfl dX3_countWays_6 ?_
  refine jm_put (w' := [(g, .inl (.inr (3, [.ref g0, .ref g1, .ref g2, .ref g3, .ref g4, .ref g5, .ref g6, .ref g7, .int (nI gn), .int (nI wt), .int (nI mm)]))), (g0, .inl (.inl (kA 1, M, .inl gtk))), (g1, .inr (kA 6, kA 1, M, 2, .inl gaf)), (g2, .inr (kA 6, kA 1, M, 60, .inl gco)), (g3, .inr (kA 7, kA 2, 8, 61, .inr gwy))]) h iw_X3 tyX3 tyX3_ok nmX3 0 rfl rfl 10 (by decide +kernel) tw_390 rfl rfl rfl (Nat.le_of_ble_eq_true rfl) dX3_countWays_7 rfl ?_
  refine j_iconst (v := 0) h (by decide) dX3_countWays_10 ?_
  refine j_istore_n (lv' := [(3, .int 0), (0, .ref g), (1, .int (nI wt)), (2, .int (nI mm))]) h dX3_countWays_11 rfl (by decide) rfl ?_
  have lp12_81072 : ∀ (m12_81072 : Nat), ∀ (v3_12_81072 : Nat) (fg3_12_81072 : Nat → Nat → Int64), (∀ r, r < v3_12_81072 → fg3_12_81072 r wt = 1) → (v3_12_81072 ≤ 2 * (mm + 1)) → (v3_12_81072 ≤ 100000) → 2 * (mm + 1) - v3_12_81072 < m12_81072 → J x (mflat [(g, .inl (.inr (3, [.ref g0, .ref g1, .ref g2, .ref g3, .ref g4, .ref g5, .ref g6, .ref g7, .int (nI gn), .int (nI wt), .int (nI mm)]))), (g0, .inl (.inl (kA 1, M, .inl gtk))), (g1, .inr (kA 6, kA 1, M, 2, .inl gaf)), (g2, .inr (kA 6, kA 1, M, 60, .inl gco)), (g3, .inr (kA 7, kA 2, 8, 61, .inr fg3_12_81072))]) [(3, .int (nI v3_12_81072)), (0, .ref g), (1, .int (nI wt)), (2, .int (nI mm))] 0 0 12 [] := by
    intro m12_81072
    induction m12_81072 with
    | zero =>
      intro v3_12_81072 fg3_12_81072 i12_81072_0 i12_81072_1 i12_81072_2 hm12_81072
      exact absurd hm12_81072 (Nat.not_lt_zero _)
    | succ m12_81072 ih12_81072 =>
      intro v3_12_81072 fg3_12_81072 i12_81072_0 i12_81072_1 i12_81072_2 hm12_81072
      refine j_iload_n h 0 rfl rfl dX3_countWays_12 ?_
      refine j_iconst (v := 2) h (by decide) dX3_countWays_13 ?_
      refine j_aload_n h 1 rfl rfl dX3_countWays_14 ?_
      refine jm_get h iw_X3 0 rfl rfl 10 (by decide +kernel) tw_390 rfl dX3_countWays_15 ?_
      refine j_iconst (v := 1) h (by decide) dX3_countWays_18 ?_
      refine j_iadd h dX3_countWays_19 ?_
      refine j_top (b := nI (mm + 1)) (nI_add mm 1) ?_
      refine j_imul h dX3_countWays_20 ?_
      refine j_top (b := nI (2 * (mm + 1))) (pk_mul 2 (mm + 1)) ?_
      refine j_icmp_ge h 42 dX3_countWays_21 (by decide) (fun z810416 => ?_) (fun z810416 => ?_)
      · have z810416n : (2 * (mm + 1)) ≤ v3_12_81072 := (nI_leI (a := (2 * (mm + 1))) (b := v3_12_81072) (by omega) (by omega)).mp z810416
        refine j_aload_n h 1 rfl rfl dX3_countWays_42 ?_
        refine jm_get h iw_X3 0 rfl rfl 9 (by decide +kernel) tw_389 rfl dX3_countWays_43 ?_
        refine j_iconst (v := 1) h (by decide) dX3_countWays_46 ?_
        refine j_isub h dX3_countWays_47 ?_
        obtain ⟨y810417, hy810418⟩ : ∃ y9, y9 = wt := ⟨_, rfl⟩
        refine j_top (b := pm y810417) (by rw [hy810418]; exact pm_sub wt) ?_
        refine j_istore_n (lv' := [(3, .int (pm y810417)), (0, .ref g), (1, .int (nI wt)), (2, .int (nI mm))]) h dX3_countWays_48 rfl (by decide) rfl ?_
        have lp49_81081 : ∀ (m49_81081 : Nat), ∀ (v3_49_81081 : Nat) (fg3_49_81081 : Nat → Nat → Int64), (GwR gn wt mm tkf aff csf fg3_49_81081 v3_49_81081) → (v3_49_81081 ≤ wt) → (v3_49_81081 ≤ 100000) → v3_49_81081 < m49_81081 → J x (mflat [(g, .inl (.inr (3, [.ref g0, .ref g1, .ref g2, .ref g3, .ref g4, .ref g5, .ref g6, .ref g7, .int (nI gn), .int (nI wt), .int (nI mm)]))), (g0, .inl (.inl (kA 1, M, .inl gtk))), (g1, .inr (kA 6, kA 1, M, 2, .inl gaf)), (g2, .inr (kA 6, kA 1, M, 60, .inl gco)), (g3, .inr (kA 7, kA 2, 8, 61, .inr fg3_49_81081))]) [(3, .int (pm v3_49_81081)), (0, .ref g), (1, .int (nI wt)), (2, .int (nI mm))] 0 0 49 [] := by
          intro m49_81081
          induction m49_81081 with
          | zero =>
            intro v3_49_81081 fg3_49_81081 i49_81081_0 i49_81081_1 i49_81081_2 hm49_81081
            exact absurd hm49_81081 (Nat.not_lt_zero _)
          | succ m49_81081 ih49_81081 =>
            intro v3_49_81081 fg3_49_81081 i49_81081_0 i49_81081_1 i49_81081_2 hm49_81081
            refine j_iload_n h 0 rfl rfl dX3_countWays_49 ?_
            rcases v3_49_81081 with _ | j810463
            · show J x (mflat [(g, .inl (.inr (3, [.ref g0, .ref g1, .ref g2, .ref g3, .ref g4, .ref g5, .ref g6, .ref g7, .int (nI gn), .int (nI wt), .int (nI mm)]))), (g0, .inl (.inl (kA 1, M, .inl gtk))), (g1, .inr (kA 6, kA 1, M, 2, .inl gaf)), (g2, .inr (kA 6, kA 1, M, 60, .inl gco)), (g3, .inr (kA 7, kA 2, 8, 61, .inr fg3_49_81081))]) [(3, .int (-1)), (0, .ref g), (1, .int (nI wt)), (2, .int (nI mm))] 0 0 50 [.int (-1)]
              refine j_if_lt h 103 dX3_countWays_50 (by decide) (fun _ => ?_) (fun q => absurd (by decide) q)
              refine j_aload_n h 1 rfl rfl dX3_countWays_103 ?_
              refine jm_get h iw_X3 0 rfl rfl 3 (by decide +kernel) tw_382 rfl dX3_countWays_104 ?_
              refine j_iconst (v := 2) h (by decide) dX3_countWays_107 ?_
              refine j_aload_n h 1 rfl rfl dX3_countWays_108 ?_
              refine jm_get h iw_X3 0 rfl rfl 10 (by decide +kernel) tw_390 rfl dX3_countWays_109 ?_
              refine j_imul h dX3_countWays_112 ?_
              refine j_top (b := nI (2 * mm)) (pk_mul 2 mm) ?_
              refine j_iconst (v := 0) h (by decide) dX3_countWays_113 ?_
              refine j_iadd h dX3_countWays_114 ?_
              refine j_top (b := nI ((2 * mm) + 0)) (nI_add (2 * mm) 0) ?_
              refine jm_gout h 4 7 rfl rfl ((2 * mm) + 0) rfl (by omega) (by omega) dX3_countWays_115 ?_
              refine j_iconst (v := 0) h (by decide) dX3_countWays_116 ?_
              refine jm_glald h 4 rfl ((2 * mm) + 0) (by omega) 0 (by decide +kernel) (by decide +kernel) (by omega) dX3_countWays_117 ?_
              exact jm_lret h hq dX3_countWays_118 fg3_49_81081 [0, 1, 2, 3, 4] rfl (by decide) ⟨(show GwR gn wt mm tkf aff csf fg3_49_81081 0 from i49_81081_0), (show (fg3_49_81081 ((2 * mm) + 0) 0) = fg3_49_81081 (2 * mm) 0 from rfl)⟩ (Nat.le_of_ble_eq_true rfl) (Nat.le_of_ble_eq_true rfl)
            · show J x (mflat [(g, .inl (.inr (3, [.ref g0, .ref g1, .ref g2, .ref g3, .ref g4, .ref g5, .ref g6, .ref g7, .int (nI gn), .int (nI wt), .int (nI mm)]))), (g0, .inl (.inl (kA 1, M, .inl gtk))), (g1, .inr (kA 6, kA 1, M, 2, .inl gaf)), (g2, .inr (kA 6, kA 1, M, 60, .inl gco)), (g3, .inr (kA 7, kA 2, 8, 61, .inr fg3_49_81081))]) [(3, .int (nI j810463)), (0, .ref g), (1, .int (nI wt)), (2, .int (nI mm))] 0 0 50 [.int (nI j810463)]
              refine j_if_lt h 103 dX3_countWays_50 (by decide) (fun q => absurd q (nI_pos (by omega))) (fun _ => ?_)
              refine j_iconst (v := 0) h (by decide) dX3_countWays_53 ?_
              refine j_istore (lv' := [(4, .int 0), (3, .int (nI j810463)), (0, .ref g), (1, .int (nI wt)), (2, .int (nI mm))]) h dX3_countWays_54 (by decide) rfl ?_
              have lp56_81084 : ∀ (m56_81084 : Nat), ∀ (v4_56_81084 : Nat) (fg3_56_81084 : Nat → Nat → Int64), (GwR gn wt mm tkf aff csf fg3_56_81084 (j810463 + 1)) → (GwP gn tkf aff csf fg3_56_81084 j810463 v4_56_81084) → (v4_56_81084 ≤ 2 * (mm + 1)) → (v4_56_81084 ≤ 100000) → 2 * (mm + 1) - v4_56_81084 < m56_81084 → J x (mflat [(g, .inl (.inr (3, [.ref g0, .ref g1, .ref g2, .ref g3, .ref g4, .ref g5, .ref g6, .ref g7, .int (nI gn), .int (nI wt), .int (nI mm)]))), (g0, .inl (.inl (kA 1, M, .inl gtk))), (g1, .inr (kA 6, kA 1, M, 2, .inl gaf)), (g2, .inr (kA 6, kA 1, M, 60, .inl gco)), (g3, .inr (kA 7, kA 2, 8, 61, .inr fg3_56_81084))]) [(4, .int (nI v4_56_81084)), (3, .int (nI j810463)), (0, .ref g), (1, .int (nI wt)), (2, .int (nI mm))] 0 0 56 [] := by
                intro m56_81084
                induction m56_81084 with
                | zero =>
                  intro v4_56_81084 fg3_56_81084 i56_81084_0 i56_81084_1 i56_81084_2 i56_81084_3 hm56_81084
                  exact absurd hm56_81084 (Nat.not_lt_zero _)
                | succ m56_81084 ih56_81084 =>
                  intro v4_56_81084 fg3_56_81084 i56_81084_0 i56_81084_1 i56_81084_2 i56_81084_3 hm56_81084
                  refine j_iload h 0 rfl dX3_countWays_56 ?_
                  refine j_iconst (v := 2) h (by decide) dX3_countWays_58 ?_
                  refine j_aload_n h 2 rfl rfl dX3_countWays_59 ?_
                  refine jm_get h iw_X3 0 rfl rfl 10 (by decide +kernel) tw_390 rfl dX3_countWays_60 ?_
                  refine j_iconst (v := 1) h (by decide) dX3_countWays_63 ?_
                  refine j_iadd h dX3_countWays_64 ?_
                  refine j_top (b := nI (mm + 1)) (nI_add mm 1) ?_
                  refine j_imul h dX3_countWays_65 ?_
                  refine j_top (b := nI (2 * (mm + 1))) (pk_mul 2 (mm + 1)) ?_
                  refine j_icmp_ge h 97 dX3_countWays_66 (by decide) (fun z810478 => ?_) (fun z810478 => ?_)
                  · have z810478n : (2 * (mm + 1)) ≤ v4_56_81084 := (nI_leI (a := (2 * (mm + 1))) (b := v4_56_81084) (by omega) (by omega)).mp z810478
                    obtain ⟨y810479, hy810480⟩ : ∃ y9, y9 = j810463 := ⟨_, rfl⟩
                    refine j_iinc (v := pm y810479) (lv' := [(3, .int (pm y810479)), (4, .int (nI v4_56_81084)), (0, .ref g), (1, .int (nI wt)), (2, .int (nI mm))]) h dX3_countWays_97 1 rfl (by rw [hy810480]; exact pm_dec _) (by decide) rfl ?_
                    refine j_goto h 49 dX3_countWays_100 (by decide) ?_
                    refine jm_sub [0, 1, 2, 3, 4] (w' := [(g, .inl (.inr (3, [.ref g0, .ref g1, .ref g2, .ref g3, .ref g4, .ref g5, .ref g6, .ref g7, .int (nI gn), .int (nI wt), .int (nI mm)]))), (g0, .inl (.inl (kA 1, M, .inl gtk))), (g1, .inr (kA 6, kA 1, M, 2, .inl gaf)), (g2, .inr (kA 6, kA 1, M, 60, .inl gco)), (g3, .inr (kA 7, kA 2, 8, 61, .inr fg3_56_81084))]) rfl (by decide +kernel) [0, 2, 3, 4] (lv' := [(3, .int (pm y810479)), (0, .ref g), (1, .int (nI wt)), (2, .int (nI mm))]) rfl ?_
                    exact ih49_81081 y810479 fg3_56_81084 (show GwR gn wt mm tkf aff csf fg3_56_81084 y810479 from GwR_dn i56_81084_0 i56_81084_1 (by omega) (by omega) (by omega)) (show y810479 ≤ wt by first | assumption | omega) (show y810479 ≤ 100000 by first | assumption | omega) (show y810479 < m49_81081 by omega)
                  · have z810478n : ¬ (2 * (mm + 1)) ≤ v4_56_81084 := fun q9 => z810478 ((nI_leI (a := (2 * (mm + 1))) (b := v4_56_81084) (by omega) (by omega)).mpr q9)
                    refine j_aload_n h 2 rfl rfl dX3_countWays_69 ?_
                    refine jm_get h iw_X3 0 rfl rfl 3 (by decide +kernel) tw_382 rfl dX3_countWays_70 ?_
                    refine j_iload h 0 rfl dX3_countWays_73 ?_
                    refine jm_gout h 4 7 rfl rfl v4_56_81084 rfl (by omega) (by omega) dX3_countWays_75 ?_
                    refine j_iload_n h 1 rfl rfl dX3_countWays_76 ?_
                    refine j_aload_n h 2 rfl rfl dX3_countWays_77 ?_
                    refine j_iload_n h 1 rfl rfl dX3_countWays_78 ?_
                    refine j_iload h 0 rfl dX3_countWays_79 ?_
                    refine j_iconst (v := 2) h (by decide) dX3_countWays_81 ?_
                    refine j_irem h (by decide) dX3_countWays_82 ?_
                    refine j_top (b := nI (v4_56_81084 % 2)) (pk_rem (a := v4_56_81084) (d := 2) (by omega) (by decide) (by decide)) ?_
                    refine j_iload h 0 rfl dX3_countWays_83 ?_
                    refine j_iconst (v := 2) h (by decide) dX3_countWays_85 ?_
                    refine j_idiv h (by decide) dX3_countWays_86 ?_
                    refine j_top (b := nI (v4_56_81084 / 2)) (pk_div (a := v4_56_81084) (d := 2) (by omega) (by decide) (by decide)) ?_
                    refine jm_callVl (np := 3) (isC := [0, 1, 2, 3, 4]) (isR := []) (wc := [(g, .inl (.inr (3, [.ref g0, .ref g1, .ref g2, .ref g3, .ref g4, .ref g5, .ref g6, .ref g7, .int (nI gn), .int (nI wt), .int (nI mm)]))), (g0, .inl (.inl (kA 1, M, .inl gtk))), (g1, .inr (kA 6, kA 1, M, 2, .inl gaf)), (g2, .inr (kA 6, kA 1, M, 60, .inl gco)), (g3, .inr (kA 7, kA 2, 8, 61, .inr fg3_56_81084))]) (wr := []) (rest := [.int (nI j810463), .ref (g3 + 1 + v4_56_81084)]) (As := [.int (nI j810463), .int (nI (v4_56_81084 % 2)), .int (nI (v4_56_81084 / 2))]) (q0 := 0) h (s_X3_sumOfWaysF _ _ kA g j810463 (v4_56_81084 % 2) (v4_56_81084 / 2) g0 g1 g2 g3 g4 g5 g6 g7 gn wt mm M gtk gaf gco fg3_56_81084 tkf aff csf (show M ≤ 10 by first | assumption | omega) (show gn ≤ M by first | assumption | omega) (show wt ≤ 60 by first | assumption | omega) (show GdR gn wt tkf aff csf gtk gaf gco by first | assumption | omega) (show j810463 < wt by first | assumption | omega) (show (v4_56_81084 % 2) ≤ 1 by first | assumption | omega) (show (v4_56_81084 / 2) ≤ 3 by first | assumption | omega) (show ∀ r u, r < 2 * ((v4_56_81084 / 2) + 1) → j810463 < u → u ≤ wt → In15 (fg3_56_81084 r u) from (fun r9 u9 h9 h8 h7 => (i56_81084_0 r9 u9 (by omega) (by omega) h7).1))) tw_871 tw_873 tw_20 tw_95 tw_874 (by decide +kernel) rfl ⟨Nat.le_of_ble_eq_true rfl, Nat.le_of_ble_eq_true rfl⟩ rfl rfl (by decide +kernel) rfl rfl (by decide +kernel) (by decide +kernel) (Nat.le_of_ble_eq_true rfl) rfl ⟨Nat.le_of_ble_eq_true rfl, Nat.le_of_ble_eq_true rfl⟩ dX3_countWays_87 ?_
                    rintro r810482 _ e810481
                    obtain ⟨p810483, p810484⟩ := e810481
                    replace p810483 : In15 r810482 := p810483
                    replace p810484 : (r810482).toInt = capI (sI (fun i => (wbV tkf aff csf fg3_56_81084 i j810463 (v4_56_81084 % 2) (v4_56_81084 / 2)).toInt) gn) := p810484
                    show J x (mflat [(g, .inl (.inr (3, [.ref g0, .ref g1, .ref g2, .ref g3, .ref g4, .ref g5, .ref g6, .ref g7, .int (nI gn), .int (nI wt), .int (nI mm)]))), (g0, .inl (.inl (kA 1, M, .inl gtk))), (g1, .inr (kA 6, kA 1, M, 2, .inl gaf)), (g2, .inr (kA 6, kA 1, M, 60, .inl gco)), (g3, .inr (kA 7, kA 2, 8, 61, .inr fg3_56_81084))]) [(4, .int (nI v4_56_81084)), (3, .int (nI j810463)), (0, .ref g), (1, .int (nI wt)), (2, .int (nI mm))] 0 0 90 [.long r810482, .int (nI j810463), .ref (g3 + 1 + v4_56_81084)]
                    refine jm_glast (w' := [(g, .inl (.inr (3, [.ref g0, .ref g1, .ref g2, .ref g3, .ref g4, .ref g5, .ref g6, .ref g7, .int (nI gn), .int (nI wt), .int (nI mm)]))), (g0, .inl (.inl (kA 1, M, .inl gtk))), (g1, .inr (kA 6, kA 1, M, 2, .inl gaf)), (g2, .inr (kA 6, kA 1, M, 60, .inl gco)), (g3, .inr (kA 7, kA 2, 8, 61, .inr (upGL fg3_56_81084 v4_56_81084 j810463 r810482)))]) h 4 rfl v4_56_81084 (by omega) j810463 rfl (by omega) (by omega) dX3_countWays_90 rfl ?_
                    refine j_iinc (v := nI (v4_56_81084 + 1)) (lv' := [(4, .int (nI (v4_56_81084 + 1))), (3, .int (nI j810463)), (0, .ref g), (1, .int (nI wt)), (2, .int (nI mm))]) h dX3_countWays_91 0 rfl (nI_add v4_56_81084 1) (by decide) rfl ?_
                    refine j_goto h 56 dX3_countWays_94 (by decide) ?_
                    refine jm_sub [0, 1, 2, 3, 4] (w' := [(g, .inl (.inr (3, [.ref g0, .ref g1, .ref g2, .ref g3, .ref g4, .ref g5, .ref g6, .ref g7, .int (nI gn), .int (nI wt), .int (nI mm)]))), (g0, .inl (.inl (kA 1, M, .inl gtk))), (g1, .inr (kA 6, kA 1, M, 2, .inl gaf)), (g2, .inr (kA 6, kA 1, M, 60, .inl gco)), (g3, .inr (kA 7, kA 2, 8, 61, .inr (upGL fg3_56_81084 v4_56_81084 j810463 r810482)))]) rfl (by decide +kernel) [0, 1, 2, 3, 4] (lv' := [(4, .int (nI (v4_56_81084 + 1))), (3, .int (nI j810463)), (0, .ref g), (1, .int (nI wt)), (2, .int (nI mm))]) rfl ?_
                    exact ih56_81084 (v4_56_81084 + 1) (upGL fg3_56_81084 v4_56_81084 j810463 r810482) (show GwR gn wt mm tkf aff csf (upGL fg3_56_81084 v4_56_81084 j810463 r810482) (j810463 + 1) from GwR_up hgd hmm i56_81084_0) (show GwP gn tkf aff csf (upGL fg3_56_81084 v4_56_81084 j810463 r810482) j810463 (v4_56_81084 + 1) from GwP_up hgd i56_81084_1 p810483 p810484) (show (v4_56_81084 + 1) ≤ 2 * (mm + 1) by first | assumption | omega) (show (v4_56_81084 + 1) ≤ 100000 by first | assumption | omega) (show 2 * (mm + 1) - (v4_56_81084 + 1) < m56_81084 by omega)
              refine jm_sub [0, 1, 2, 3, 4] (w' := [(g, .inl (.inr (3, [.ref g0, .ref g1, .ref g2, .ref g3, .ref g4, .ref g5, .ref g6, .ref g7, .int (nI gn), .int (nI wt), .int (nI mm)]))), (g0, .inl (.inl (kA 1, M, .inl gtk))), (g1, .inr (kA 6, kA 1, M, 2, .inl gaf)), (g2, .inr (kA 6, kA 1, M, 60, .inl gco)), (g3, .inr (kA 7, kA 2, 8, 61, .inr fg3_49_81081))]) rfl (by decide +kernel) [0, 1, 2, 3, 4] (lv' := [(4, .int 0), (3, .int (nI j810463)), (0, .ref g), (1, .int (nI wt)), (2, .int (nI mm))]) rfl ?_
              exact lp56_81084 (2 * (mm + 1) - 0 + 1) 0 fg3_49_81081 (show GwR gn wt mm tkf aff csf fg3_49_81081 (j810463 + 1) from i49_81081_0) (show GwP gn tkf aff csf fg3_49_81081 j810463 0 from GwP_0) (show 0 ≤ 2 * (mm + 1) by first | assumption | omega) (show 0 ≤ 100000 by first | assumption | omega) (Nat.lt_succ_self _)
        refine jm_sub [0, 1, 2, 3, 4] (w' := [(g, .inl (.inr (3, [.ref g0, .ref g1, .ref g2, .ref g3, .ref g4, .ref g5, .ref g6, .ref g7, .int (nI gn), .int (nI wt), .int (nI mm)]))), (g0, .inl (.inl (kA 1, M, .inl gtk))), (g1, .inr (kA 6, kA 1, M, 2, .inl gaf)), (g2, .inr (kA 6, kA 1, M, 60, .inl gco)), (g3, .inr (kA 7, kA 2, 8, 61, .inr fg3_12_81072))]) rfl (by decide +kernel) [0, 1, 2, 3] (lv' := [(3, .int (pm y810417)), (0, .ref g), (1, .int (nI wt)), (2, .int (nI mm))]) rfl ?_
        exact lp49_81081 (y810417 + 1) y810417 fg3_12_81072 (show GwR gn wt mm tkf aff csf fg3_12_81072 y810417 from GwR_T i12_81072_0 (by omega) (by omega)) (show y810417 ≤ wt by first | assumption | omega) (show y810417 ≤ 100000 by first | assumption | omega) (Nat.lt_succ_self _)
      · have z810416n : ¬ (2 * (mm + 1)) ≤ v3_12_81072 := fun q9 => z810416 ((nI_leI (a := (2 * (mm + 1))) (b := v3_12_81072) (by omega) (by omega)).mpr q9)
        refine j_aload_n h 1 rfl rfl dX3_countWays_24 ?_
        refine jm_get h iw_X3 0 rfl rfl 3 (by decide +kernel) tw_382 rfl dX3_countWays_25 ?_
        refine j_iload_n h 0 rfl rfl dX3_countWays_28 ?_
        refine jm_gout h 4 7 rfl rfl v3_12_81072 rfl (by omega) (by omega) dX3_countWays_29 ?_
        refine j_aload_n h 1 rfl rfl dX3_countWays_30 ?_
        refine jm_get h iw_X3 0 rfl rfl 9 (by decide +kernel) tw_389 rfl dX3_countWays_31 ?_
        refine j_lconst (v := 1) h (by decide) dX3_countWays_34 ?_
        refine jm_glast (w' := [(g, .inl (.inr (3, [.ref g0, .ref g1, .ref g2, .ref g3, .ref g4, .ref g5, .ref g6, .ref g7, .int (nI gn), .int (nI wt), .int (nI mm)]))), (g0, .inl (.inl (kA 1, M, .inl gtk))), (g1, .inr (kA 6, kA 1, M, 2, .inl gaf)), (g2, .inr (kA 6, kA 1, M, 60, .inl gco)), (g3, .inr (kA 7, kA 2, 8, 61, .inr (upGL fg3_12_81072 v3_12_81072 wt 1)))]) h 4 rfl v3_12_81072 (by omega) wt rfl (by omega) (by omega) dX3_countWays_35 rfl ?_
        refine j_iinc (v := nI (v3_12_81072 + 1)) (lv' := [(3, .int (nI (v3_12_81072 + 1))), (0, .ref g), (1, .int (nI wt)), (2, .int (nI mm))]) h dX3_countWays_36 0 rfl (nI_add v3_12_81072 1) (by decide) rfl ?_
        refine j_goto h 12 dX3_countWays_39 (by decide) ?_
        refine jm_sub [0, 1, 2, 3, 4] (w' := [(g, .inl (.inr (3, [.ref g0, .ref g1, .ref g2, .ref g3, .ref g4, .ref g5, .ref g6, .ref g7, .int (nI gn), .int (nI wt), .int (nI mm)]))), (g0, .inl (.inl (kA 1, M, .inl gtk))), (g1, .inr (kA 6, kA 1, M, 2, .inl gaf)), (g2, .inr (kA 6, kA 1, M, 60, .inl gco)), (g3, .inr (kA 7, kA 2, 8, 61, .inr (upGL fg3_12_81072 v3_12_81072 wt 1)))]) rfl (by decide +kernel) [0, 1, 2, 3] (lv' := [(3, .int (nI (v3_12_81072 + 1))), (0, .ref g), (1, .int (nI wt)), (2, .int (nI mm))]) rfl ?_
        exact ih12_81072 (v3_12_81072 + 1) (upGL fg3_12_81072 v3_12_81072 wt 1) (show ∀ r, r < (v3_12_81072 + 1) → (upGL fg3_12_81072 v3_12_81072 wt 1) r wt = 1 from all_s (P := fun r => upGL _ _ wt 1 r wt = 1) (fun j h9 => by show upGL _ _ _ _ _ _ = _; rw [upGL_r (by omega)]; exact i12_81072_0 j h9) upGL_s) (show (v3_12_81072 + 1) ≤ 2 * (mm + 1) by first | assumption | omega) (show (v3_12_81072 + 1) ≤ 100000 by first | assumption | omega) (show 2 * (mm + 1) - (v3_12_81072 + 1) < m12_81072 by omega)
  refine jm_sub [0, 1, 2, 3, 4] (w' := [(g, .inl (.inr (3, [.ref g0, .ref g1, .ref g2, .ref g3, .ref g4, .ref g5, .ref g6, .ref g7, .int (nI gn), .int (nI wt), .int (nI mm)]))), (g0, .inl (.inl (kA 1, M, .inl gtk))), (g1, .inr (kA 6, kA 1, M, 2, .inl gaf)), (g2, .inr (kA 6, kA 1, M, 60, .inl gco)), (g3, .inr (kA 7, kA 2, 8, 61, .inr gwy))]) rfl (by decide +kernel) [0, 1, 2, 3] (lv' := [(3, .int 0), (0, .ref g), (1, .int (nI wt)), (2, .int (nI mm))]) rfl ?_
  exact lp12_81072 (2 * (mm + 1) - 0 + 1) 0 gwy (show ∀ r, r < 0 → gwy r wt = 1 from (fun r h9 => absurd h9 (Nat.not_lt_zero r))) (show 0 ≤ 2 * (mm + 1) by first | assumption | omega) (show 0 ≤ 100000 by first | assumption | omega) (Nat.lt_succ_self _)
