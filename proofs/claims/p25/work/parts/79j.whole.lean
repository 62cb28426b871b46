def wtV (D cs : Nat → Nat → Nat) (w : Nat → Int64) (l m f : Nat) : Int := if aL D l f = 0 ∨ 0 < cs l m then 0 else (w (2 * (m + ltS D l) + (aL D l f - 1))).toInt
def WlA (D cs : Nat → Nat → Nat) (L T : Nat) (w : Nat → Int64) (lo fo : Nat) : Prop := ∀ m f, m ≤ T → f ≤ 1 → (lo ≤ m ∨ (m + 1 = lo ∧ f < fo)) → In15 (w (2 * m + f)) ∧ (w (2 * m + f)).toInt = if m = T then 1 else capI (sI (fun l => wtV D cs w l m f) L)
def WlC (D cs : Nat → Nat → Nat) (T : Nat) (w : Nat → Int64) (m f k : Nat) : Prop := In15 (w (2 * m + f)) ∧ (w (2 * m + f)).toInt = if m = T then 1 else capI (sI (fun l => wtV D cs w l m f) k)
def csM (bg mr mb : Nat → Int32) (D : Nat → Nat → Nat) (T l m : Nat) : Nat := if m + ltS D l ≤ T ∧ mayN bg mr mb l m (ltS D l) = 1 then 0 else 100
/-- a step may begin in moment u, and what it takes may be rest -/
def okS (mb mr : Nat → Int32) (t : Nat → Nat) (s u : Nat) : Prop := mb (60 * s + u) = 1 ∧ ∀ e, 1 ≤ e → e < t s → mr (u + e) = 1
section WL
variable {D cs : Nat → Nat → Nat} {L T m f k l n i j g c y lo fo : Nat} {w : Nat → Int64} {v : Int64} {bg mr mb : Nat → Int32}
theorem wtV_up (hm : i ≤ 2 * m + 1) (h1 : 1 ≤ ltS D l) : wtV D cs (vp_updL w i v) l m f = wtV D cs w l m f := by
  unfold wtV
  by_cases z : aL D l f = 0 ∨ 0 < cs l m
  · rw [if_pos z, if_pos z]
  · rw [if_neg z, if_neg z, pk_uLn (by omega)]
theorem WlA_0 : WlA D cs L T w (T + 1) 0 := fun m f h1 h2 h3 => by omega
theorem sI_wt (hD : DOk D) (hL : k ≤ D 0 1) (hm : i ≤ 2 * m + 1) : sI (fun l => wtV D cs (vp_updL w i v) l m f) k = sI (fun l => wtV D cs w l m f) k := sI_cg (fun l hl => wtV_up hm (ltS_b hD (by omega)).1)
theorem WlA_up (hD : DOk D) (hL : L = D 0 1) (hf : f ≤ 1) (h : WlA D cs L T w (m + 1) f) : WlA D cs L T (vp_updL w (2 * m + f) v) (m + 1) f := fun m' f' h1 h2 h3 => by
  have q := h m' f' h1 h2 h3
  rw [pk_uLn (by omega)]
  refine ⟨q.1, ?_⟩
  rw [q.2, sI_wt hD (by omega) (by omega)]
theorem WlC_1 (hm : m = T) : WlC D cs T (vp_updL w (2 * m + f) 1) m f 0 := by
  unfold WlC
  rw [pk_uLs, if_pos hm]
  exact ⟨⟨by decide, by decide⟩, by decide⟩
theorem WlC_0 (hm : ¬ m = T) : WlC D cs T (vp_updL w (2 * m + f) 0) m f 0 := by
  unfold WlC
  rw [pk_uLs, if_neg hm]
  exact ⟨In15_0, show Int64.toInt 0 = capI 0 by decide⟩
theorem WlC_z (h : WlC D cs T w m f k) (hz : aL D k f = 0 ∨ 0 < cs k m) : WlC D cs T w m f (k + 1) := by
  refine ⟨h.1, ?_⟩
  rw [h.2]
  have e : sI (fun l => wtV D cs w l m f) (k + 1) = sI (fun l => wtV D cs w l m f) k := by
    show _ + wtV D cs w k m f = _
    unfold wtV
    rw [if_pos hz, Int.add_zero]
  rw [e]
theorem cap_cap {a b : Int} (ha : 0 ≤ a) (hb : 0 ≤ b) : capI (capI a + b) = capI (a + b) := by
  unfold capI
  by_cases h : a ≤ 1000000000000000
  · rw [if_pos h]
  · rw [if_neg h]
    by_cases q : (1000000000000000 : Int) + b ≤ 1000000000000000
    · rw [if_pos q, if_neg (by omega)]
      omega
    · rw [if_neg q, if_neg (by omega)]
theorem wtV_b (hw : ∀ g c, g ≤ 1 → 1 ≤ c → m + c ≤ T → In15 (w (2 * (m + c) + g))) (h1 : 1 ≤ ltS D l) (hc : cs l m = 0 → m + ltS D l ≤ T) (hf : f ≤ 1) : 0 ≤ wtV D cs w l m f := by
  unfold wtV
  by_cases z : aL D l f = 0 ∨ 0 < cs l m
  · rw [if_pos z]
    exact Int.le_refl 0
  · rw [if_neg z]
    have := lF_le (D := D) (l := l) (m := f + 1) (by omega)
    exact (hw _ _ (by unfold aL; omega) h1 (hc (by omega))).1
theorem sI_nn {g : Nat → Int} (h : ∀ i, i < n → 0 ≤ g i) : 0 ≤ sI g n := by
  induction n with
  | zero => exact Int.le_refl 0
  | succ n ih =>
    have a := ih (fun i hi => h i (by omega))
    have b := h n (Nat.lt_succ_self n)
    show 0 ≤ sI g n + g n
    omega
theorem WlC_p (hD : DOk D) (hL : L = D 0 1) (hk : k < L) (hf : f ≤ 1) (ha : WlA D cs L T w (m + 1) f) (h : WlC D cs T w m f k) (hm : m < T) (hcs : ∀ l, l < L → cs l m = 0 → m + ltS D l ≤ T) (hg : g + 1 = aL D k f) (hc : cs k m = 0) : WlC D cs T (vp_updL w (2 * m + f) (lsV (w (2 * m + f) + w (2 * (m + ltS D k) + g)))) m f (k + 1) := by
  have fl := lF_le (D := D) (l := k) (m := f + 1) (by omega)
  have g1 : g ≤ 1 := by unfold aL at hg; omega
  have hw : ∀ g c, g ≤ 1 → 1 ≤ c → m + c ≤ T → In15 (w (2 * (m + c) + g)) := fun g c h1 h2 h3 => (ha (m + c) g h3 h1 (Or.inl (by omega))).1
  have l1 := (ltS_b hD (l := k) (by omega)).1
  have nx := hw g (ltS D k) g1 l1 (hcs k hk hc)
  have nn : 0 ≤ sI (fun l => wtV D cs w l m f) k := sI_nn (fun l hl => wtV_b hw (ltS_b hD (by omega)).1 (hcs l (by omega)) hf)
  have ev : wtV D cs w k m f = (w (2 * (m + ltS D k) + g)).toInt := by
    unfold wtV
    rw [if_neg (by omega), show aL D k f - 1 = g by omega]
  have e2 : (lsV (w (2 * m + f) + w (2 * (m + ltS D k) + g))).toInt = capI (sI (fun l => wtV D cs w l m f) (k + 1)) := by
    have q := h.2
    rw [if_neg (by omega)] at q
    show _ = capI (sI (fun l => wtV D cs w l m f) k + wtV D cs w k m f)
    rw [ev, ← cap_cap nn nx.1, ← q, ← wl_add h.1.1 h.1.2 nx.1 nx.2]
    exact lsV_toInt _
  unfold WlC
  rw [pk_uLs, sI_wt hD (by omega) (by omega), if_neg (by omega)]
  refine ⟨?_, e2⟩
  unfold In15
  rw [e2]
  refine cap_in (sI_nn (fun l hl => wtV_b hw (ltS_b hD (by omega)).1 (hcs l (by omega)) hf))
theorem WlC_all (h : WlC D cs T w m f k) (hk : k = L ∨ m = T) : WlC D cs T w m f L := by
  rcases hk with e | e
  · rw [← e]
    exact h
  · refine ⟨h.1, ?_⟩
    rw [h.2, if_pos e, if_pos e]
theorem WlA_f (h : WlA D cs L T w (m + 1) f) (hc : WlC D cs T w m f L) : WlA D cs L T w (m + 1) (f + 1) := fun m' f' h1 h2 h3 => by
  by_cases e : m' = m ∧ f' = f
  · obtain ⟨rfl, rfl⟩ := e
    exact hc
  · exact h m' f' h1 h2 (by omega)
theorem WlA_m (h : WlA D cs L T w (m + 1) f) (hf : 2 ≤ f) (hy : y = m) : WlA D cs L T w y 0 := fun m' f' h1 h2 h3 => h m' f' h1 h2 (by omega)
theorem WlA_Rc (h : WlA D cs L T w 0 0) (hc : ∀ l m, l < L → m < T → cs l m = 0 ∨ cs l m = 100) : RcE L T 0 (ltS D) (aL D) cs (fun _ f t => (w (2 * t + f)).toInt) := fun q f t hq hf ht => by
  have e := (h t f ht hf (Or.inl (Nat.zero_le t))).2
  show (w (2 * t + f)).toInt = _
  rw [e]
  by_cases z : t = T
  · rw [if_pos z, if_pos z]
  · rw [if_neg z, if_neg z]
    refine congrArg capI (sI_cg (fun l hl => ?_))
    show wtV D cs w l t f = if aL D l f = 0 ∨ q < cs l t then 0 else (w (2 * (t + ltS D l) + (aL D l f - 1))).toInt
    have q0 : q = 0 := by omega
    rw [q0]
    rfl
theorem csM_1 (h1 : m + ltS D l ≤ T) (h2 : mayN bg mr mb l m (ltS D l) = 1) : csM bg mr mb D T l m = 0 := if_pos ⟨h1, h2⟩
theorem csM_t (h1 : T < m + ltS D l) : 0 < csM bg mr mb D T l m := by
  unfold csM
  rw [if_neg (by omega)]
  decide
theorem csM_m (hy : y = mayN bg mr mb l m (ltS D l)) (h : y = 0) : 0 < csM bg mr mb D T l m := by
  unfold csM
  rw [if_neg (fun q => by omega)]
  decide
theorem csM_c : ∀ l, l < L → csM bg mr mb D T l m = 0 → m + ltS D l ≤ T := fun l _ h => by
  unfold csM at h
  by_cases q : m + ltS D l ≤ T ∧ mayN bg mr mb l m (ltS D l) = 1
  · exact q.1
  · rw [if_neg q] at h
    exact absurd h (by decide)
theorem csM_z : csM bg mr mb D T l m = 0 ∨ csM bg mr mb D T l m = 100 := by
  unfold csM
  split
  · exact Or.inl rfl
  · exact Or.inr rfl
end WL
section MY
variable {bg mr mb : Nat → Int32} {l m d r n j T L : Nat} {t x : Nat → Nat} {D cst : Nat → Nat → Nat}
theorem may_1 (hb : NnOk 360 1 mb) (hr : NnOk 60 1 mr) (hg : bg (45 * l + d) = pm j) (hj : j ≤ 6) (hm : m + d < 60) : mayG bg mr mb l m d 1 ≤ 1 ∧ (mayG bg mr mb l m d 1 = 1 ↔ (j = 0 → mr (m + d) = 1) ∧ (∀ s, j = s + 1 → mb (60 * s + m + d) = 1)) := by
  rcases j with _ | s
  · obtain ⟨y, h1, h2⟩ := hr (m + d) hm
    rw [may_r (by decide) hg h2 h1, h2]
    refine ⟨h1, fun q => ⟨fun _ => by rw [q]; rfl, fun s h => absurd h (by omega)⟩, fun q => ?_⟩
    exact (nI_eq (a := y) (b := 1) (by omega) (by decide)).mp (q.1 rfl)
  · obtain ⟨y, h1, h2⟩ := hb (60 * s + m + d) (by omega)
    rw [may_b (by decide) hg (by omega) h2 h1]
    refine ⟨h1, fun q => ⟨fun h => absurd h (by omega), fun s' h => ?_⟩, fun q => ?_⟩
    · have e : s' = s := by omega
      rw [e, h2, q]
      rfl
    · have z := q.2 s rfl
      rw [h2] at z
      exact (nI_eq (a := y) (b := 1) (by omega) (by decide)).mp z
theorem itV_all {g : Nat → Nat → Nat} (h0 : ∀ d, g d 0 = 0) : ∀ (r d : Nat), (∀ e, d ≤ e → e < d + r → g e 1 ≤ 1) → itV g r d 1 ≤ 1 ∧ (itV g r d 1 = 1 ↔ ∀ e, d ≤ e → e < d + r → g e 1 = 1)
  | 0, d, _ => ⟨Nat.le_refl 1, fun _ e h1 h2 => by omega, fun _ => rfl⟩
  | r + 1, d, h => by
    show itV g r (d + 1) (g d 1) ≤ 1 ∧ (itV g r (d + 1) (g d 1) = 1 ↔ _)
    have a := h d (Nat.le_refl d) (by omega)
    rcases (show g d 1 = 0 ∨ g d 1 = 1 by omega) with e | e
    · rw [e, itV_z h0]
      refine ⟨by decide, fun q => absurd q (by decide), fun q => ?_⟩
      have := q d (Nat.le_refl d) (by omega)
      omega
    · rw [e]
      obtain ⟨b, c⟩ := itV_all h0 r (d + 1) (fun e h1 h2 => h e (by omega) (by omega))
      refine ⟨b, fun q k h1 h2 => ?_, fun q => c.mpr (fun k h1 h2 => q k (by omega) (by omega))⟩
      by_cases z : k = d
      · rw [z]
        exact e
      · exact c.mp q k (by omega) (by omega)
/-- moment by moment, or step by step -/
theorem ok_steps (h1 : ∀ k, k < n → 1 ≤ t (x k)) : (∀ d, d < tkS t x n → (bgn t x n d = 0 → mr (m + d) = 1) ∧ (∀ s, bgn t x n d = s + 1 → mb (60 * s + m + d) = 1)) ↔ ∀ j, j < n → okS mb mr t (x j) (m + tkS t x j) := by
  induction n with
  | zero => exact ⟨fun _ j h => absurd h (Nat.not_lt_zero j), fun _ d h => absurd h (Nat.not_lt_zero d)⟩
  | succ n ih =>
    have ih := ih (fun k hk => h1 k (by omega))
    have e : tkS t x (n + 1) = tkS t x n + t (x n) := rfl
    have z := h1 n (Nat.lt_succ_self n)
    constructor
    · intro q j hj
      by_cases y : j = n
      · subst y
        refine ⟨?_, fun k k1 k2 => ?_⟩
        · have a := (q (tkS t x j) (by omega)).2 (x j) bgn_s
          rw [Nat.add_assoc] at a
          exact a
        · have a := (q (tkS t x j + k) (by omega)).1 (by
            rw [bgn_n (by omega)]
            exact bgn_ge (fun i hi => h1 i (by omega)) (by omega))
          rw [Nat.add_assoc]
          exact a
      · refine ih.mp (fun d hd => ?_) j (by omega)
        have a := q d (by omega)
        rw [bgn_n (by omega)] at a
        exact a
    · intro q d hd
      rcases (show d < tkS t x n ∨ d = tkS t x n ∨ tkS t x n < d by omega) with y | y | y
      · have a := ih.mpr (fun j hj => q j (by omega)) d y
        rw [bgn_n (by omega)]
        exact a
      · rw [y, bgn_s]
        refine ⟨fun h => absurd h (by omega), fun s h => ?_⟩
        have a := (q n (Nat.lt_succ_self n)).1
        have es : s = x n := by omega
        rw [es, Nat.add_assoc]
        exact a
      · rw [bgn_n (by omega), bgn_ge (fun i hi => h1 i (by omega)) (by omega)]
        refine ⟨fun _ => ?_, fun s h => absurd h (by omega)⟩
        have a := (q n (Nat.lt_succ_self n)).2 (d - tkS t x n) (by omega) (by omega)
        rw [show m + tkS t x n + (d - tkS t x n) = m + d by omega] at a
        exact a
theorem may_ok (hD : DOk D) (hl : l < D 0 1) (hB : ∀ d, d < 45 → bg (45 * l + d) = pm (bgn (D 4) (dR D l) (D 7 l) d)) (hb : NnOk 360 1 mb) (hr : NnOk 60 1 mr) (hm : m + ltS D l ≤ 60) : mayN bg mr mb l m (ltS D l) = 1 ↔ ∀ j, j < D 7 l → okS mb mr (D 4) (dR D l j) (m + tkS (D 4) (dR D l) j) := by
  have lb := ltS_b hD hl
  have dl := hD.2.2.2.2.1 l hl
  have d1 := hD.1
  have bl : ∀ d, bgn (D 4) (dR D l) (D 7 l) d ≤ 6 := fun d => Nat.le_trans (bgn_le (fun i hi => dl.2.2 i hi)) d1
  have a := itV_all (may_0 bg mr mb l m) (ltS D l) 0 (fun e _ h2 => (may_1 hb hr (hB e (by omega)) (bl e) (by omega)).1)
  refine Iff.trans a.2 (Iff.trans ?_ (ok_steps (fun k hk => (hD.2.2.2.1 _ (dl.2.2 k hk)).1)))
  constructor
  · intro q d hd
    have hd' : d < ltS D l := hd
    exact ((may_1 hb hr (hB d (by omega)) (bl d) (by omega)).2).mp (q d (Nat.zero_le d) (by omega))
  · intro q d _ hd
    exact ((may_1 hb hr (hB d (by omega)) (bl d) (by omega)).2).mpr (q d (show d < ltS D l by omega))
theorem lcS_z {m n : Nat} : min 100 (lcS cst t x m n) = 0 ↔ ∀ j, j < n → cst (x j) (m + tkS t x j) = 0 := by
  induction n with
  | zero => exact ⟨fun _ j h => absurd h (Nat.not_lt_zero j), fun _ => show min 100 0 = 0 by decide⟩
  | succ n ih =>
    have e : lcS cst t x m (n + 1) = lcS cst t x m n + cst (x n) (m + tkS t x n) := rfl
    constructor
    · intro q j hj
      by_cases z : j = n
      · rw [z]
        omega
      · exact ih.mp (by omega) j (by omega)
    · intro q
      have a := ih.mpr (fun j hj => q j (by omega))
      have b := q n (Nat.lt_succ_self n)
      omega
theorem cs_eq (hD : DOk D) (hl : l < D 0 1) (hB : ∀ d, d < 45 → bg (45 * l + d) = pm (bgn (D 4) (dR D l) (D 7 l) d)) (hb : NnOk 360 1 mb) (hr : NnOk 60 1 mr) (hT : T ≤ 60) (hc : ∀ s u, s < D 0 0 → u + D 4 s ≤ T → (cst s u = 0 ↔ okS mb mr (D 4) s u)) : csM bg mr mb D T l m = 0 ↔ lcT D cst 1023 T l m = 0 := by
  have kb : kbV 1023 l = 1 := by
    have : ∀ l, l < 10 → kbV 1023 l = 1 := by decide
    exact this l (by have := hD.2.1; omega)
  have dl := hD.2.2.2.2.1 l hl
  unfold csM lcT
  by_cases q : m + ltS D l ≤ T
  · have ty : ∀ j, j < D 7 l → m + tkS (D 4) (dR D l) j + D 4 (dR D l j) ≤ T := fun j hj => by
      have a := tkS_mo (t := D 4) (x := dR D l) (show j + 1 ≤ D 7 l by omega)
      have b : tkS (D 4) (dR D l) (j + 1) = tkS (D 4) (dR D l) j + D 4 (dR D l j) := rfl
      have c : ltS D l = tkS (D 4) (dR D l) (D 7 l) := rfl
      omega
    have my := may_ok hD hl hB hb hr (show m + ltS D l ≤ 60 by omega)
    have e2 : (if kbV 1023 l = 1 ∧ m + ltS D l ≤ T then min 100 (lcS cst (D 4) (dR D l) m (D 7 l)) else 100) = min 100 (lcS cst (D 4) (dR D l) m (D 7 l)) := if_pos ⟨kb, q⟩
    rw [e2]
    refine Iff.trans ?_ lcS_z.symm
    refine Iff.trans ?_ (Iff.trans my ⟨fun h j hj => (hc _ _ (dl.2.2 j hj) (ty j hj)).mpr (h j hj), fun h j hj => (hc _ _ (dl.2.2 j hj) (ty j hj)).mp (h j hj)⟩)
    by_cases z : mayN bg mr mb l m (ltS D l) = 1
    · rw [if_pos ⟨q, z⟩]
      exact ⟨fun _ => z, fun _ => rfl⟩
    · rw [if_neg (fun y => z y.2)]
      exact ⟨fun y => absurd y (by decide), fun y => absurd y z⟩
  · rw [if_neg (fun z => q z.1), if_neg (fun z => q z.2)]
theorem RcE_0 {n : Nat} {tk : Nat → Nat} {af cs cs' : Nat → Nat → Nat} {W : Nat → Nat → Nat → Int} (h : RcE n T 0 tk af cs W) (hc : ∀ i t, i < n → t < T → (cs i t = 0 ↔ cs' i t = 0)) : RcE n T 0 tk af cs' W := fun q f t h1 h2 h3 => by
  rw [h q f t h1 h2 h3]
  by_cases y : t = T
  · rw [if_pos y, if_pos y]
  · rw [if_neg y, if_neg y]
    refine congrArg capI (sI_cg (fun i hi => ?_))
    have e := hc i t hi (by omega)
    have q0 : q = 0 := by omega
    subst q0
    show (if af i f = 0 ∨ 0 < cs i t then 0 else W (0 - cs i t) (af i f - 1) (t + tk i)) = (if af i f = 0 ∨ 0 < cs' i t then 0 else W (0 - cs' i t) (af i f - 1) (t + tk i))
    rw [Nat.zero_sub, Nat.zero_sub]
    by_cases z : af i f = 0 ∨ 0 < cs i t
    · rw [if_pos z, if_pos (z.imp id (fun y => by omega))]
    · rw [if_neg z, if_neg (fun y => z (y.imp id (fun x => by omega)))]
end MY
