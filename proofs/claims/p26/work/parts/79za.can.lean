/-! who may stand where -/
def bL (v : Int64) (j : Nat) : Prop := v.toBitVec.getLsbD j = true
def bI (v : Int32) (j : Nat) : Prop := v.toBitVec.getLsbD j = true
def MkR (P : Nat → Nat → Prop) (w : Nat → Int64) (n T : Nat) : Prop := ∀ i, i < n → ∀ j, (bL (w i) j ↔ j < T ∧ P i j)
def MkP (P : Nat → Nat → Prop) (w : Nat → Int64) (i t : Nat) : Prop := ∀ j, (bL (w i) j ↔ j < t ∧ P i j)
def RdA (w : Nat → Int64) (A : Nat → Nat → Prop) : Prop := ∀ f, f ≤ 1 → ∀ j, (bL (w f) j ↔ A f j)
def nxP (n T : Nat) (tk : Nat → Nat) (af : Nat → Nat → Nat) (cz A : Nat → Nat → Prop) (f2 t2 : Nat) : Prop := ∃ l f t, l < n ∧ f ≤ 1 ∧ t < T ∧ A f t ∧ cz l t ∧ af l f = f2 + 1 ∧ t2 = t + tk l
def gxP (n T : Nat) (tk : Nat → Nat) (af : Nat → Nat → Nat) (cz W A : Nat → Nat → Prop) (f2 t2 : Nat) : Prop := ∃ l f t, l < n ∧ f ≤ 1 ∧ t < T ∧ A f t ∧ cz l t ∧ af l f = f2 + 1 ∧ t2 = t + tk l ∧ W f2 t2
/-- what is reached by so many letters -/
def rcP (n T : Nat) (tk : Nat → Nat) (af : Nat → Nat → Nat) (cz : Nat → Nat → Prop) : Nat → Nat → Nat → Prop
  | 0 => fun f t => f = 0 ∧ t = 0
  | p + 1 => nxP n T tk af cz (rcP n T tk af cz p)
def rmP (n T : Nat) (tk : Nat → Nat) (af : Nat → Nat → Nat) (cz W : Nat → Nat → Prop) : Nat → Nat → Nat → Prop
  | 0 => fun f t => f = 0 ∧ t = 0 ∧ W 0 0
  | p + 1 => gxP n T tk af cz W (rmP n T tk af cz W p)
def fnX (T : Nat) (tk : Nat → Nat) (af : Nat → Nat → Nat) (cz W A : Nat → Nat → Prop) (l : Nat) : Prop := ∃ f t g, f ≤ 1 ∧ t < T ∧ A f t ∧ cz l t ∧ af l f = g + 1 ∧ W g (t + tk l)
def NxR (T : Nat) (tk : Nat → Nat) (af : Nat → Nat → Nat) (cz A : Nat → Nat → Prop) (K : Nat) (w : Nat → Int64) : Prop := ∀ f2, f2 ≤ 1 → ∀ j, (bL (w f2) j ↔ ∃ l f t, 2 * l + f < K ∧ f ≤ 1 ∧ t < T ∧ A f t ∧ cz l t ∧ af l f = f2 + 1 ∧ j = t + tk l)
def StB (T : Nat) (tk : Nat → Nat) (af : Nat → Nat → Nat) (cz W A : Nat → Nat → Prop) (v : Int32) (k : Nat) : Prop := ∀ j, (bI v j ↔ j < k ∧ fnX T tk af cz W A j)
def goP (T : Nat) (tk : Nat → Nat) (af : Nat → Nat → Nat) (cz W A : Nat → Nat → Prop) (l f : Nat) : Prop := ∃ t g, t < T ∧ A f t ∧ cz l t ∧ af l f = g + 1 ∧ W g (t + tk l)
/-- the reference's tables -/
def PrL (m f l t9 f9 l9 : Nat) : Prop := t9 < m ∨ (t9 = m ∧ f9 < f) ∨ (t9 = m ∧ f9 = f ∧ l9 < l)
def IsI (x : Int64) (cm : Nat → Int32) (k : Nat) : Prop := ∀ j, j < k → cm j = if j = 0 ∧ 0 < x.toInt then 1 else 0
def IsR (cm : Nat → Int32) (A : Nat → Nat → Prop) : Prop := ∀ f t, f ≤ 1 → t ≤ 60 → (cm (2 * t + f) = 0 ∨ cm (2 * t + f) = 1) ∧ (cm (2 * t + f) = 1 ↔ A f t)
def ZrI (cm : Nat → Int32) (k : Nat) : Prop := ∀ j, j < k → cm j = 0
def CpI (c d : Nat → Int32) (k : Nat) : Prop := ∀ j, j < k → c j = d j
def SeI (n T : Nat) (tk : Nat → Nat) (af : Nat → Nat → Nat) (cz W : Nat → Nat → Prop) (p : Nat) (v : Int32) (nn : Nat) : Prop := ∀ j, (bI v j ↔ nn = p + 1 ∧ j < n ∧ fnX T tk af cz W (rmP n T tk af cz W p) j)
def GtR (n T : Nat) (tk : Nat → Nat) (af : Nat → Nat → Nat) (cz W A : Nat → Nat → Prop) (cm : Nat → Int32) (pr : Nat → Nat → Nat → Prop) : Prop := ∀ f2 t2, f2 ≤ 1 → t2 ≤ 60 → (cm (2 * t2 + f2) = 0 ∨ cm (2 * t2 + f2) = 1) ∧ (cm (2 * t2 + f2) = 1 ↔ ∃ l f t, pr t f l ∧ l < n ∧ f ≤ 1 ∧ t < T ∧ A f t ∧ cz l t ∧ af l f = f2 + 1 ∧ t2 = t + tk l ∧ W f2 t2)
def SeR (n T : Nat) (tk : Nat → Nat) (af : Nat → Nat → Nat) (cz W A : Nat → Nat → Prop) (nn p : Nat) (v : Int32) (pr : Nat → Nat → Nat → Prop) : Prop := ∀ j, (bI v j ↔ nn = p ∧ j < n ∧ ∃ f t g, pr t f j ∧ f ≤ 1 ∧ t < T ∧ A f t ∧ cz j t ∧ af j f = g + 1 ∧ W g (t + tk j))
def GSR (n T : Nat) (tk : Nat → Nat) (af : Nat → Nat → Nat) (cz W A : Nat → Nat → Prop) (nn p : Nat) (cm : Nat → Int32) (v : Int32) (pr : Nat → Nat → Nat → Prop) : Prop := GtR n T tk af cz W A cm pr ∧ SeR n T tk af cz W A nn p v pr
section BB
theorem bL_0 {j : Nat} : ¬ bL 0 j := by
  show ¬ ((0#64).getLsbD j = true)
  simp
theorem bL_or {u v : Int64} {j : Nat} : bL (u ||| v) j ↔ bL u j ∨ bL v j := by
  unfold bL
  rw [Int64.toBitVec_or, BitVec.getLsbD_or, Bool.or_eq_true]
theorem bL_and {u v : Int64} {j : Nat} : bL (u &&& v) j ↔ bL u j ∧ bL v j := by
  unfold bL
  rw [Int64.toBitVec_and, BitVec.getLsbD_and, Bool.and_eq_true]
theorem bL_lt {v : Int64} {j : Nat} (h : bL v j) : j < 64 := by
  by_cases q : j < 64
  · exact q
  · have z : v.toBitVec.getLsbD j = false := BitVec.getLsbD_of_ge _ _ (by omega)
    unfold bL at h
    rw [z] at h
    exact absurd h (by decide)
theorem bL_sh {u : Int64} {k j : Nat} (hk : k ≤ 60) : bL (u <<< ((nI k).toInt64 &&& 63)) j ↔ j < 64 ∧ k ≤ j ∧ bL u (j - k) := by
  have e1 : ∀ r, r < 61 → (((nI r).toInt64 &&& 63).toBitVec.smod 64).toNat = r := by decide +kernel
  have e : (u <<< ((nI k).toInt64 &&& 63)).toBitVec = u.toBitVec <<< k := by
    have a : (u <<< ((nI k).toInt64 &&& 63)).toBitVec = u.toBitVec <<< (((nI k).toInt64 &&& 63).toBitVec.smod 64) := rfl
    rw [a, BitVec.shiftLeft_eq', e1 k (by omega)]
  unfold bL
  rw [e, BitVec.getLsbD_shiftLeft]
  by_cases a : j < 64
  · by_cases b : j < k
    · rw [decide_eq_true b, decide_eq_true a]
      exact ⟨fun z => absurd z (by simp), fun z => absurd z.2.1 (by omega)⟩
    · rw [decide_eq_false b, decide_eq_true a]
      exact ⟨fun z => ⟨a, by omega, by first | exact z | (rw [Bool.not_false, Bool.true_and, Bool.true_and] at z; exact z)⟩, fun z => by first | exact z.2.2 | (rw [Bool.not_false, Bool.true_and, Bool.true_and]; exact z.2.2)⟩
  · rw [decide_eq_false a]
    exact ⟨fun z => absurd z (by simp), fun z => absurd z.1 a⟩
theorem bL_one {k j : Nat} (hk : k ≤ 60) : bL ((1 : Int64) <<< ((nI k).toInt64 &&& 63)) j ↔ j = k := by
  have e1 : ∀ r, r < 61 → ((1 : Int64) <<< ((nI r).toInt64 &&& 63)).toBitVec = BitVec.twoPow 64 r := by decide +kernel
  unfold bL
  rw [e1 k (by omega), BitVec.getLsbD_twoPow]
  by_cases q : j = k
  · subst q
    simp [show j < 64 by omega]
  · simp [q, Ne.symm q]
theorem bL_ne {v : Int64} : ¬ v = 0 ↔ ∃ j, bL v j := by
  constructor
  · intro h
    refine Classical.byContradiction (fun q => h ?_)
    have z : v.toBitVec = 0#64 := by
      apply BitVec.eq_of_getLsbD_eq
      intro i hi
      have y : ¬ bL v i := fun y => q ⟨i, y⟩
      unfold bL at y
      rw [Bool.not_eq_true] at y
      rw [y]
      simp
    exact Int64.toBitVec_inj.mp z
  · rintro ⟨j, hj⟩ e
    rw [e] at hj
    exact bL_0 hj
theorem bI_0 {j : Nat} : ¬ bI 0 j := by
  show ¬ ((0#32).getLsbD j = true)
  simp
theorem bI_or {u v : Int32} {j : Nat} : bI (u ||| v) j ↔ bI u j ∨ bI v j := by
  unfold bI
  rw [Int32.toBitVec_or, BitVec.getLsbD_or, Bool.or_eq_true]
theorem bI_one {k j : Nat} (hk : k < 10) : bI ((1 : Int32) <<< (nI k &&& 31)) j ↔ j = k := by
  have e1 : ∀ r, r < 10 → ((1 : Int32) <<< (nI r &&& 31)).toBitVec = BitVec.twoPow 32 r := by decide
  unfold bI
  rw [e1 k hk, BitVec.getLsbD_twoPow]
  by_cases q : j = k
  · subst q
    simp [show j < 32 by omega]
  · simp [q, Ne.symm q]
theorem bI_ext {u v : Int32} (h : ∀ j, (bI u j ↔ bI v j)) : u = v := by
  refine Int32.toBitVec_inj.mp (BitVec.eq_of_getLsbD_eq (fun i hi => ?_))
  have z := h i
  unfold bI at z
  exact Bool.eq_iff_iff.mpr z
end BB
section MK
variable {n T l f t g p K k j a idx nn m : Nat} {tk : Nat → Nat} {af cs : Nat → Nat → Nat} {cz cz' W W' A P : Nat → Nat → Prop} {w fi rd al : Nat → Int64} {cm c2 d2 : Nat → Int32} {v : Int32} {x : Int64} {pr pr' : Nat → Nat → Nat → Prop}
theorem MkR_0 : MkR P w 0 T := fun i hi => absurd hi (Nat.not_lt_zero i)
theorem MkR_up (h : MkR P w l T) : MkR P (vp_updL w l x) l T := fun i hi j => by
  rw [pk_uLn (by omega)]
  exact h i hi j
theorem MkP_0 : MkP P (vp_updL w l 0) l 0 := fun j => by
  rw [pk_uLs]
  exact ⟨fun z => absurd z bL_0, fun z => absurd z.1 (Nat.not_lt_zero j)⟩
theorem MkP_y (h : MkP P w l t) (hp : P l t) (ht : t ≤ 60) : MkP P (vp_updL w l (w l ||| ((1 : Int64) <<< ((nI t).toInt64 &&& 63)))) l (t + 1) := fun j => by
  rw [pk_uLs, bL_or, bL_one ht, h j]
  constructor
  · rintro (z | z)
    · exact ⟨by omega, z.2⟩
    · rw [z]
      exact ⟨Nat.lt_succ_self t, hp⟩
  · rintro ⟨z, y⟩
    by_cases q : j = t
    · exact Or.inr q
    · exact Or.inl ⟨by omega, y⟩
theorem MkP_n (h : MkP P w l t) (hp : ¬ P l t) : MkP P (vp_updL w l (w l ||| 0)) l (t + 1) := fun j => by
  rw [pk_uLs, bL_or, h j]
  constructor
  · rintro (z | z)
    · exact ⟨by omega, z.2⟩
    · exact absurd z bL_0
  · rintro ⟨z, y⟩
    by_cases q : j = t
    · rw [q] at y
      exact absurd y hp
    · exact Or.inl ⟨by omega, y⟩
theorem MkR_nx (h : MkR P w l T) (hp : MkP P w l t) (ht : t = T) : MkR P w (l + 1) T := fun i hi j => by
  by_cases q : i = l
  · rw [q, ← ht]
    exact hp j
  · exact h i (by omega) j
theorem RdA_0 (h0 : w 0 = 1) (h1 : w 1 = 0) : RdA w (rcP n T tk af cz 0) := fun f hf j => by
  show _ ↔ f = 0 ∧ j = 0
  rcases (show f = 0 ∨ f = 1 by omega) with rfl | rfl
  · rw [h0]
    have e : (1 : Int64) = (1 : Int64) <<< ((nI 0).toInt64 &&& 63) := by decide
    rw [e, bL_one (by decide)]
    exact ⟨fun z => ⟨rfl, z⟩, fun z => z.2⟩
  · rw [h1]
    exact ⟨fun z => absurd z bL_0, fun z => absurd z.1 (by decide)⟩
theorem NxR_0 (h0 : w 0 = 0) (h1 : w 1 = 0) : NxR T tk af cz A (2 * 0) w := fun f2 h j => by
  have e : w f2 = 0 := by
    rcases (show f2 = 0 ∨ f2 = 1 by omega) with rfl | rfl
    · exact h0
    · exact h1
  rw [e]
  refine ⟨fun z => absurd z bL_0, ?_⟩
  rintro ⟨l, f, t, a, r⟩
  omega
theorem NxR_n (h : NxR T tk af cz A (2 * l + f) w) (hf : f ≤ 1) (ha : 0 = af l f) : NxR T tk af cz A (2 * l + (f + 1)) w := fun f2 h2 j => by
  rw [h f2 h2 j]
  constructor
  · rintro ⟨l9, f9, t9, c1, r⟩
    exact ⟨l9, f9, t9, by omega, r⟩
  · rintro ⟨l9, f9, t9, c1, c2, c3, c4, c5, c6, c7⟩
    by_cases z : 2 * l9 + f9 < 2 * l + f
    · exact ⟨l9, f9, t9, z, c2, c3, c4, c5, c6, c7⟩
    · have e1 : l9 = l := by omega
      have e2 : f9 = f := by omega
      rw [e1, e2, ← ha] at c6
      exact absurd c6 (by omega)
theorem NxR_y (h : NxR T tk af cz A (2 * l + f) w) (hf : f ≤ 1) (ha : a + 1 = af l f) (ha1 : a ≤ 1) (hr : RdA rd A) (hft : MkR cz fi n T) (hl : l < n) (hk : tk l ≤ 60) (hT : ∀ t, t < T → cz l t → t + tk l ≤ 60) : NxR T tk af cz A (2 * l + (f + 1)) (vp_updL w a (w a ||| ((rd f &&& fi l) <<< ((nI (tk l)).toInt64 &&& 63)))) := fun f2 h2 j => by
  by_cases q : f2 = a
  · subst q
    rw [pk_uLs, bL_or, bL_sh hk, bL_and, h f2 h2 j, hr f hf, hft l hl]
    constructor
    · rintro (⟨l9, f9, t9, c1, r⟩ | ⟨y1, y2, y3, y4, y5⟩)
      · exact ⟨l9, f9, t9, by omega, r⟩
      · exact ⟨l, f, j - tk l, by omega, hf, y4, y3, y5, ha.symm, by omega⟩
    · rintro ⟨l9, f9, t9, c1, c2, c3, c4, c5, c6, c7⟩
      by_cases z : 2 * l9 + f9 < 2 * l + f
      · exact Or.inl ⟨l9, f9, t9, z, c2, c3, c4, c5, c6, c7⟩
      · have e1 : l9 = l := by omega
        have e2 : f9 = f := by omega
        subst e1 e2
        have b := hT t9 c3 c5
        refine Or.inr ⟨by omega, by omega, ?_⟩
        rw [show j - tk l9 = t9 by omega]
        exact ⟨c4, c3, c5⟩
  · rw [pk_uLn q, h f2 h2 j]
    constructor
    · rintro ⟨l9, f9, t9, c1, r⟩
      exact ⟨l9, f9, t9, by omega, r⟩
    · rintro ⟨l9, f9, t9, c1, c2, c3, c4, c5, c6, c7⟩
      by_cases z : 2 * l9 + f9 < 2 * l + f
      · exact ⟨l9, f9, t9, z, c2, c3, c4, c5, c6, c7⟩
      · have e1 : l9 = l := by omega
        have e2 : f9 = f := by omega
        rw [e1, e2, ← ha] at c6
        exact absurd c6 (by omega)
theorem NxR_l (h : NxR T tk af cz A (2 * l + f) w) (hf : f = 2) : NxR T tk af cz A (2 * (l + 1)) w := by
  rw [show 2 * (l + 1) = 2 * l + f by omega]
  exact h
theorem NxR_e {rn : Nat → Int64} (h : NxR T tk af cz A (2 * k) rn) (hk : k = n) : RdA (vp_updL (vp_updL w 0 (rn 0)) 1 (rn 1)) (nxP n T tk af cz A) := fun f2 h2 j => by
  have e : vp_updL (vp_updL w 0 (rn 0)) 1 (rn 1) f2 = rn f2 := by
    rcases (show f2 = 0 ∨ f2 = 1 by omega) with rfl | rfl
    · rw [pk_uLn (by decide), pk_uLs]
    · rw [pk_uLs]
  rw [e, h f2 h2 j]
  constructor
  · rintro ⟨l9, f9, t9, c1, r⟩
    exact ⟨l9, f9, t9, by omega, r⟩
  · rintro ⟨l9, f9, t9, c1, c2, r⟩
    exact ⟨l9, f9, t9, by omega, c2, r⟩
theorem gob_b (hr : RdA rd A) (hft : MkR cz fi n T) (hal : MkR W al 2 (T + 1)) (hf : f ≤ 1) (hl : l < n) (ha : a + 1 = af l f) (ha1 : a ≤ 1) (hk : tk l ≤ 60) (hT : ∀ t, t < T → cz l t → t + tk l ≤ T) (h60 : T ≤ 60) : ¬ ((rd f &&& fi l) <<< ((nI (tk l)).toInt64 &&& 63)) &&& al a = 0 ↔ goP T tk af cz W A l f := by
  rw [bL_ne]
  constructor
  · rintro ⟨j, hj⟩
    rw [bL_and, bL_sh hk, bL_and, hr f hf, hft l hl, hal a (by omega)] at hj
    obtain ⟨⟨y1, y2, y3, y4, y5⟩, y6, y7⟩ := hj
    refine ⟨j - tk l, a, y4, y3, y5, ha.symm, ?_⟩
    rw [show j - tk l + tk l = j by omega]
    exact y7
  · rintro ⟨t, g, c1, c2, c3, c4, c5⟩
    have e : g = a := by omega
    subst e
    have b := hT t c1 c3
    refine ⟨t + tk l, ?_⟩
    rw [bL_and, bL_sh hk, bL_and, hr f hf, hft l hl, hal g (by omega)]
    refine ⟨⟨by omega, by omega, ?_⟩, by omega, c5⟩
    rw [show t + tk l - tk l = t by omega]
    exact ⟨c2, c1, c3⟩
theorem gob_n (ha : 0 = af l f) : ¬ goP T tk af cz W A l f := by
  rintro ⟨t, g, _, _, _, c4, _⟩
  omega
theorem StB_0 : StB T tk af cz W A 0 0 := fun j => ⟨fun z => absurd z bI_0, fun z => absurd z.1 (Nat.not_lt_zero j)⟩
theorem gob_fn : (goP T tk af cz W A l 0 ∨ goP T tk af cz W A l 1) ↔ fnX T tk af cz W A l := by
  constructor
  · rintro (⟨t, g, r⟩ | ⟨t, g, r⟩)
    · exact ⟨0, t, g, by decide, r⟩
    · exact ⟨1, t, g, by decide, r⟩
  · rintro ⟨f, t, g, hf, r⟩
    rcases (show f = 0 ∨ f = 1 by omega) with rfl | rfl
    · exact Or.inl ⟨t, g, r⟩
    · exact Or.inr ⟨t, g, r⟩
theorem StB_y (h : StB T tk af cz W A v k) (hk : k < 10) (hg : goP T tk af cz W A k 0 ∨ goP T tk af cz W A k 1) : StB T tk af cz W A (v ||| ((1 : Int32) <<< (nI k &&& 31))) (k + 1) := fun j => by
  rw [bI_or, bI_one hk, h j]
  constructor
  · rintro (z | z)
    · exact ⟨by omega, z.2⟩
    · rw [z]
      exact ⟨Nat.lt_succ_self k, gob_fn.mp hg⟩
  · rintro ⟨z, y⟩
    by_cases q : j = k
    · exact Or.inr q
    · exact Or.inl ⟨by omega, y⟩
theorem StB_n (h : StB T tk af cz W A v k) (h0 : ¬ goP T tk af cz W A k 0) (h1 : ¬ goP T tk af cz W A k 1) : StB T tk af cz W A v (k + 1) := fun j => by
  rw [h j]
  constructor
  · rintro ⟨z, y⟩
    exact ⟨by omega, y⟩
  · rintro ⟨z, y⟩
    by_cases q : j = k
    · rw [q] at y
      exact absurd (gob_fn.mpr y) (fun w9 => w9.elim h0 h1)
    · exact ⟨by omega, y⟩
theorem rm_rc : ∀ {p f t : Nat}, rmP n T tk af cz W p f t → rcP n T tk af cz p f t
  | 0, f, t, h => ⟨h.1, h.2.1⟩
  | p + 1, f, t, h => by
    obtain ⟨l9, f9, t9, c1, c2, c3, c4, c5, c6, c7, c8⟩ := h
    exact ⟨l9, f9, t9, c1, c2, c3, rm_rc c4, c5, c6, c7⟩
theorem rc_rm (hW : ∀ l f t g, l < n → f ≤ 1 → t < T → cz l t → af l f = g + 1 → W g (t + tk l) → W f t) : ∀ {p f t : Nat}, rcP n T tk af cz p f t → W f t → rmP n T tk af cz W p f t
  | 0, f, t, h, w => ⟨h.1, h.2, by
    rw [h.1, h.2] at w
    exact w⟩
  | p + 1, f, t, h, w => by
    obtain ⟨l9, f9, t9, c1, c2, c3, c4, c5, c6, c7⟩ := h
    exact ⟨l9, f9, t9, c1, c2, c3, rc_rm hW c4 (hW l9 f9 t9 f c1 c2 c3 c5 c6 (c7 ▸ w)), c5, c6, c7, w⟩
theorem fn_rm (hW : ∀ l f t g, l < n → f ≤ 1 → t < T → cz l t → af l f = g + 1 → W g (t + tk l) → W f t) (hl : l < n) (q : fnX T tk af cz W (rcP n T tk af cz p) l) : fnX T tk af cz W (rmP n T tk af cz W p) l := by
  obtain ⟨f, t, g, c1, c2, c3, c4, c5, c6⟩ := q
  exact ⟨f, t, g, c1, c2, rc_rm hW c3 (hW l f t g hl c1 c2 c4 c5 c6), c4, c5, c6⟩
theorem fn_rc (q : fnX T tk af cz W (rmP n T tk af cz W p) l) : fnX T tk af cz W (rcP n T tk af cz p) l := by
  obtain ⟨f, t, g, c1, c2, c3, r⟩ := q
  exact ⟨f, t, g, c1, c2, rm_rc c3, r⟩
theorem rm_cg (hz : ∀ l t, l < n → t < T → cz l t → cz' l t) (hw : ∀ f t, f ≤ 1 → t ≤ T → W f t → W' f t) (hT : ∀ l t, l < n → t < T → cz l t → t + tk l ≤ T) (ha : ∀ l f, l < n → f ≤ 1 → af l f ≤ 2) : ∀ {p f t : Nat}, rmP n T tk af cz W p f t → rmP n T tk af cz' W' p f t
  | 0, f, t, h => ⟨h.1, h.2.1, hw 0 0 (by decide) (Nat.zero_le T) h.2.2⟩
  | p + 1, f, t, h => by
    obtain ⟨l9, f9, t9, c1, c2, c3, c4, c5, c6, c7, c8⟩ := h
    have b := ha l9 f9 c1 c2
    have d := hT l9 t9 c1 c3 c5
    exact ⟨l9, f9, t9, c1, c2, c3, rm_cg hz hw hT ha c4, hz l9 t9 c1 c3 c5, c6, c7, hw f t (by omega) (by omega) c8⟩
theorem fn_cg (hz : ∀ l t, l < n → t < T → cz l t → cz' l t) (hw : ∀ f t, f ≤ 1 → t ≤ T → W f t → W' f t) (hT : ∀ l t, l < n → t < T → cz l t → t + tk l ≤ T) (ha : ∀ l f, l < n → f ≤ 1 → af l f ≤ 2) (hl : l < n) (q : fnX T tk af cz W (rmP n T tk af cz W p) l) : fnX T tk af cz' W' (rmP n T tk af cz' W' p) l := by
  obtain ⟨f, t, g, c1, c2, c3, c4, c5, c6⟩ := q
  have b := ha l f hl c1
  have d := hT l t hl c2 c4
  exact ⟨f, t, g, c1, c2, rm_cg hz hw hT ha c3, hz l t hl c2 c4, c5, hw g _ (by omega) d c6⟩
theorem sI_n0 {g : Nat → Int} : ∀ {n : Nat}, (∀ i, i < n → 0 ≤ g i) → 0 ≤ sI g n
  | 0, _ => Int.le_refl 0
  | n + 1, h => by
    have a : 0 ≤ sI g n := sI_n0 (fun i hi => h i (by omega))
    have b := h n (Nat.lt_succ_self n)
    show 0 ≤ sI g n + g n
    omega
theorem sI_ps {g : Nat → Int} : ∀ {n : Nat}, (∀ i, i < n → 0 ≤ g i) → l < n → 0 < g l → 0 < sI g n
  | 0, _, hl, _ => absurd hl (Nat.not_lt_zero l)
  | n + 1, h, hl, hp => by
    have b := h n (Nat.lt_succ_self n)
    show 0 < sI g n + g n
    by_cases q : l = n
    · have a : 0 ≤ sI g n := sI_n0 (fun i hi => h i (by omega))
      rw [q] at hp
      omega
    · have a : 0 < sI g n := sI_ps (fun i hi => h i (by omega)) (by omega) hp
      omega
theorem cap_ps {a : Int} (h : 0 < a) : 0 < capI a := by
  unfold capI
  split
  · exact h
  · decide
theorem hW_C {wy : Nat → Nat → Int64} (h : GwR n T 0 tk af cs wy 0) (hc : ∀ i t, i < n → t < T → cs i t = 0 → t + tk i ≤ T) (ha : ∀ i f, i < n → f ≤ 1 → af i f ≤ 2) : ∀ l f t g, l < n → f ≤ 1 → t < T → cs l t = 0 → af l f = g + 1 → 0 < (wy g (t + tk l)).toInt → 0 < (wy f t).toInt := fun l f t g hl hf ht hz hg hw => by
  have q := (h f t (by omega) (Nat.zero_le t) (by omega)).2
  rw [if_neg (by omega)] at q
  rw [q]
  refine cap_ps (sI_ps (fun i hi => ?_) hl ?_)
  · show 0 ≤ (wbV tk af cs wy i t (f % 2) (f / 2)).toInt
    unfold wbV
    by_cases z : af i (f % 2) = 0 ∨ f / 2 < cs i t
    · rw [if_pos z]
      decide
    · rw [if_neg z]
      have b := ha i (f % 2) hi (by omega)
      have d := hc i t hi ht (by omega)
      exact (h _ _ (by omega) (Nat.zero_le _) d).1.1
  · show 0 < (wbV tk af cs wy l t (f % 2) (f / 2)).toInt
    unfold wbV
    rw [show f % 2 = f by omega, if_neg (by omega), hg, show 2 * (f / 2 - cs l t) + (g + 1 - 1) = g by omega]
    exact hw
theorem PrL_s (h : PrL m f l t g k) : PrL m f (l + 1) t g k := by
  unfold PrL at h ⊢
  omega
theorem PrL_l : PrL m f (l + 1) m f l := by
  unfold PrL
  omega
theorem PrL_c (h : PrL m f (l + 1) t g k) : PrL m f l t g k ∨ (t = m ∧ g = f ∧ k = l) := by
  unfold PrL at h ⊢
  omega
theorem IsI_z : IsI x cm 0 := fun j hj => absurd hj (Nat.not_lt_zero j)
theorem IsI_1 (h : IsI x cm k) (hk : k = 0) (hx : 0 < x.toInt) : IsI x (upd cm k (vp_nar .boolean 1)) (k + 1) := fun j hj => by
  have e : j = k := by omega
  rw [e, pk_us, if_pos ⟨hk, hx⟩]
  rfl
theorem IsI_0 (h : IsI x cm k) (hk : ¬ (k = 0 ∧ 0 < x.toInt)) : IsI x (upd cm k (vp_nar .boolean 0)) (k + 1) := fun j hj => by
  by_cases q : j = k
  · rw [q, pk_us, if_neg hk]
    rfl
  · rw [pk_un q]
    exact h j (by omega)
theorem IsR_0 (h : IsI x cm k) (hk : 122 ≤ k) (hW : W 0 0 ↔ 0 < x.toInt) : IsR cm (rmP n T tk af cz W 0) := fun f t hf ht => by
  rw [h _ (show 2 * t + f < k by omega)]
  show _ ∧ (_ ↔ f = 0 ∧ t = 0 ∧ W 0 0)
  rw [hW]
  by_cases q : 2 * t + f = 0 ∧ 0 < x.toInt
  · rw [if_pos q]
    exact ⟨Or.inr rfl, fun _ => ⟨by omega, by omega, q.2⟩, fun _ => rfl⟩
  · rw [if_neg q]
    exact ⟨Or.inl rfl, fun z => absurd z (by decide), fun z => absurd ⟨by omega, z.2.2⟩ q⟩
theorem ZrI_z : ZrI cm 0 := fun j hj => absurd hj (Nat.not_lt_zero j)
theorem ZrI_n (h : ZrI cm k) : ZrI (upd cm k (vp_nar .boolean 0)) (k + 1) := fun j hj => by
  by_cases q : j = k
  · rw [q, pk_us]
    rfl
  · rw [pk_un q]
    exact h j (by omega)
theorem CpI_z : CpI c2 cm 0 := fun j hj => absurd hj (Nat.not_lt_zero j)
theorem CpI_n (h : CpI c2 cm k) (h01 : cm k = 0 ∨ cm k = 1) : CpI (upd c2 k (vp_nar .boolean (cm k))) cm (k + 1) := fun j hj => by
  by_cases q : j = k
  · rw [q, pk_us]
    rcases h01 with z | z
    · rw [z]
      rfl
    · rw [z]
      rfl
  · rw [pk_un q]
    exact h j (by omega)
theorem SeI_0 : SeI n T tk af cz W p 0 0 := fun j => ⟨fun q => absurd q bI_0, fun q => absurd q.1 (by omega)⟩
theorem GSR_0 (hz : ZrI cm k) (hk : 122 ≤ k) (hs : SeI n T tk af cz W p v nn) (hn : nn ≤ p) : GSR n T tk af cz W A nn p cm v (PrL 0 0 0) := by
  refine ⟨fun f2 t2 h1 h2 => ?_, fun j => ?_⟩
  · have e := hz (2 * t2 + f2) (by omega)
    refine ⟨Or.inl e, fun q => ?_, ?_⟩
    · rw [e] at q
      exact absurd q (by decide)
    · rintro ⟨l9, f9, t9, a9, r⟩
      exact absurd a9 (by unfold PrL; omega)
  · rw [hs j]
    constructor
    · rintro ⟨a9, r⟩
      omega
    · rintro ⟨a9, b9, f9, t9, g9, p9, r⟩
      exact absurd p9 (by unfold PrL; omega)
theorem GSR_cg (h : GSR n T tk af cz W A nn p cm v pr) (e : ∀ l f t, l < n → f ≤ 1 → A f t → (pr t f l ↔ pr' t f l)) : GSR n T tk af cz W A nn p cm v pr' := by
  refine ⟨fun f2 t2 h1 h2 => ⟨(h.1 f2 t2 h1 h2).1, (h.1 f2 t2 h1 h2).2.trans ⟨?_, ?_⟩⟩, fun j => (h.2 j).trans ⟨?_, ?_⟩⟩
  · rintro ⟨l9, f9, t9, a9, b9, c9, d9, q9, r⟩
    exact ⟨l9, f9, t9, (e l9 f9 t9 b9 c9 q9).mp a9, b9, c9, d9, q9, r⟩
  · rintro ⟨l9, f9, t9, a9, b9, c9, d9, q9, r⟩
    exact ⟨l9, f9, t9, (e l9 f9 t9 b9 c9 q9).mpr a9, b9, c9, d9, q9, r⟩
  · rintro ⟨a9, b9, f9, t9, g9, p9, c9, d9, q9, r⟩
    exact ⟨a9, b9, f9, t9, g9, (e j f9 t9 b9 c9 q9).mp p9, c9, d9, q9, r⟩
  · rintro ⟨a9, b9, f9, t9, g9, p9, c9, d9, q9, r⟩
    exact ⟨a9, b9, f9, t9, g9, (e j f9 t9 b9 c9 q9).mpr p9, c9, d9, q9, r⟩
theorem GSR_x (h : GSR n T tk af cz W A nn p cm v (PrL m f l)) (hn : ¬ A f m) : GSR n T tk af cz W A nn p cm v (PrL m (f + 1) 0) := GSR_cg h (fun l9 f9 t9 _ _ a9 => by
  have z : ¬ (t9 = m ∧ f9 = f) := fun q => hn (by
    rw [q.1, q.2] at a9
    exact a9)
  unfold PrL
  omega)
theorem GSR_n (h : GSR n T tk af cz W A nn p cm v (PrL m f l)) (hn : ¬ ∃ g, af l f = g + 1 ∧ cz l m ∧ W g (m + tk l)) : GSR n T tk af cz W A nn p cm v (PrL m f (l + 1)) := by
  refine ⟨fun f2 t2 h1 h2 => ⟨(h.1 f2 t2 h1 h2).1, (h.1 f2 t2 h1 h2).2.trans ⟨?_, ?_⟩⟩, fun j => (h.2 j).trans ⟨?_, ?_⟩⟩
  · rintro ⟨l9, f9, t9, a9, r⟩
    exact ⟨l9, f9, t9, PrL_s a9, r⟩
  · rintro ⟨l9, f9, t9, a9, b9, c9, d9, e9, y9, z9, x9, w9⟩
    rcases PrL_c a9 with a9 | ⟨u1, u2, u3⟩
    · exact ⟨l9, f9, t9, a9, b9, c9, d9, e9, y9, z9, x9, w9⟩
    · rw [u1] at y9 x9
      rw [u3] at y9 z9 x9
      rw [u2] at z9
      rw [x9] at w9
      exact absurd ⟨f2, z9, y9, w9⟩ hn
  · rintro ⟨a9, b9, f9, t9, g9, p9, r⟩
    exact ⟨a9, b9, f9, t9, g9, PrL_s p9, r⟩
  · rintro ⟨a9, b9, f9, t9, g9, p9, c9, d9, q9, y9, z9, w9⟩
    rcases PrL_c p9 with p9 | ⟨u1, u2, u3⟩
    · exact ⟨a9, b9, f9, t9, g9, p9, c9, d9, q9, y9, z9, w9⟩
    · rw [u1, u3] at y9 w9
      rw [u3, u2] at z9
      exact absurd ⟨g9, z9, y9, w9⟩ hn
theorem Gt_y (h : GtR n T tk af cz W A cm (PrL m f l)) (ha : af l f = g + 1) (hg : g ≤ 1) (hz : cz l m) (hw : W g (m + tk l)) (hA : A f m) (hl : l < n) (hf : f ≤ 1) (hm : m < T) (hi : idx = 2 * (m + tk l) + g) : GtR n T tk af cz W A (upd cm idx (vp_nar .boolean 1)) (PrL m f (l + 1)) := fun f2 t2 h1 h2 => by
  by_cases q : 2 * t2 + f2 = idx
  · have e1 : f2 = g := by omega
    have e2 : t2 = m + tk l := by omega
    rw [q, pk_us]
    refine ⟨Or.inr rfl, fun _ => ?_, fun _ => rfl⟩
    rw [e1, e2]
    exact ⟨l, f, m, PrL_l, hl, hf, hm, hA, hz, ha, rfl, hw⟩
  · rw [pk_un q]
    refine ⟨(h f2 t2 h1 h2).1, (h f2 t2 h1 h2).2.trans ⟨?_, ?_⟩⟩
    · rintro ⟨l9, f9, t9, a9, r⟩
      exact ⟨l9, f9, t9, PrL_s a9, r⟩
    · rintro ⟨l9, f9, t9, a9, b9, c9, d9, e9, y9, z9, x9, w9⟩
      rcases PrL_c a9 with a9 | ⟨u1, u2, u3⟩
      · exact ⟨l9, f9, t9, a9, b9, c9, d9, e9, y9, z9, x9, w9⟩
      · rw [u3, u2] at z9
        rw [u1, u3] at x9
        exact absurd (show 2 * t2 + f2 = idx by omega) q
theorem Se_1 (h : SeR n T tk af cz W A nn p v (PrL m f l)) (ha : af l f = g + 1) (hz : cz l m) (hw : W g (m + tk l)) (hA : A f m) (hl : l < n) (hf : f ≤ 1) (hm : m < T) (hc : nn = p) (h10 : l < 10) : SeR n T tk af cz W A nn p (v ||| ((1 : Int32) <<< (nI l &&& 31))) (PrL m f (l + 1)) := fun j => by
  rw [bI_or, bI_one h10, h j]
  constructor
  · rintro (⟨a9, b9, f9, t9, g9, p9, r⟩ | q)
    · exact ⟨a9, b9, f9, t9, g9, PrL_s p9, r⟩
    · rw [q]
      exact ⟨hc, hl, f, m, g, PrL_l, hf, hm, hA, hz, ha, hw⟩
  · rintro ⟨a9, b9, f9, t9, g9, p9, r⟩
    rcases PrL_c p9 with p9 | ⟨_, _, e⟩
    · exact Or.inl ⟨a9, b9, f9, t9, g9, p9, r⟩
    · exact Or.inr e
theorem Se_0 (h : SeR n T tk af cz W A nn p v pr) (hc : ¬ nn = p) : SeR n T tk af cz W A nn p (v ||| 0) pr' := fun j => by
  rw [bI_or, h j]
  constructor
  · rintro (q | q)
    · exact absurd q.1 hc
    · exact absurd q bI_0
  · intro q
    exact absurd q.1 hc
theorem GSR_1 (h : GSR n T tk af cz W A nn p cm v (PrL m f l)) (ha : af l f = g + 1) (hg : g ≤ 1) (hz : cz l m) (hw : W g (m + tk l)) (hA : A f m) (hl : l < n) (hf : f ≤ 1) (hm : m < T) (hi : idx = 2 * (m + tk l) + g) (hc : nn = p) (h10 : l < 10) : GSR n T tk af cz W A nn p (upd cm idx (vp_nar .boolean 1)) (v ||| ((1 : Int32) <<< (nI l &&& 31))) (PrL m f (l + 1)) := ⟨Gt_y h.1 ha hg hz hw hA hl hf hm hi, Se_1 h.2 ha hz hw hA hl hf hm hc h10⟩
theorem GSR_z (h : GSR n T tk af cz W A nn p cm v (PrL m f l)) (ha : af l f = g + 1) (hg : g ≤ 1) (hz : cz l m) (hw : W g (m + tk l)) (hA : A f m) (hl : l < n) (hf : f ≤ 1) (hm : m < T) (hi : idx = 2 * (m + tk l) + g) (hc : ¬ nn = p) : GSR n T tk af cz W A nn p (upd cm idx (vp_nar .boolean 1)) (v ||| 0) (PrL m f (l + 1)) := ⟨Gt_y h.1 ha hg hz hw hA hl hf hm hi, Se_0 h.2 hc⟩
theorem GSR_01 (h : GSR n T tk af cz W A nn p cm v pr) (hk : k < 122) : cm k = 0 ∨ cm k = 1 := by
  have z := (h.1 (k % 2) (k / 2) (by omega) (by omega)).1
  rw [show 2 * (k / 2) + k % 2 = k by omega] at z
  exact z
theorem IsR_n (h : GSR n T tk af cz W (rmP n T tk af cz W nn) nn p cm v (PrL t 0 0)) (ht : t = T) (hc : CpI c2 cm k) (hk : 122 ≤ k) : IsR c2 (rmP n T tk af cz W (nn + 1)) := fun f2 t2 h1 h2 => by
  rw [hc (2 * t2 + f2) (by omega)]
  refine ⟨(h.1 f2 t2 h1 h2).1, (h.1 f2 t2 h1 h2).2.trans ⟨?_, ?_⟩⟩
  · rintro ⟨l9, f9, t9, a9, b9, c9, d9, e9, y9, z9, x9, w9⟩
    exact ⟨l9, f9, t9, b9, c9, d9, e9, y9, z9, x9, w9⟩
  · rintro ⟨l9, f9, t9, b9, c9, d9, e9, y9, z9, x9, w9⟩
    exact ⟨l9, f9, t9, by unfold PrL; omega, b9, c9, d9, e9, y9, z9, x9, w9⟩
theorem SeI_n (h : GSR n T tk af cz W (rmP n T tk af cz W nn) nn p cm v (PrL t 0 0)) (ht : t = T) : SeI n T tk af cz W p v (nn + 1) := fun j => (h.2 j).trans (by
  constructor
  · rintro ⟨a9, b9, f9, t9, g9, p9, r⟩
    rw [a9] at r
    exact ⟨by omega, b9, f9, t9, g9, r⟩
  · rintro ⟨a9, b9, f9, t9, g9, c9, d9, r⟩
    have e : nn = p := by omega
    rw [e]
    exact ⟨rfl, b9, f9, t9, g9, by unfold PrL; omega, c9, d9, r⟩)
theorem SeI_e (h : SeI n T tk af cz W p v nn) (hn : nn = p + 1) : ∀ j, (bI v j ↔ j < n ∧ fnX T tk af cz W (rmP n T tk af cz W p) j) := fun j => (h j).trans ⟨fun q => q.2, fun q => ⟨hn, q⟩⟩
end MK
/-- what can says, on both sides -/
def CnC (D : Nat → Nat → Nat) (E : Nat → Nat) (L n : Nat) (f0 f1 f2 f3 f4 f5 : Nat → Int32) (ti pi kn r : Int32) : Prop := (∃ T p, T ≤ 60 ∧ ti = nI T ∧ p < 60 ∧ pi = nI p ∧ (((∀ m, T ≤ m → m < 60 → soP D E (cnF f4 f5 kn) (xr f0) (xr f1) (xr f2) (xr f3) n 0 m) ∧ ∃ wy cst, GwR L T 0 (ltS D) (aL D) (lcT D cst 1023 T) wy 0 ∧ (∀ s u, s < D 0 0 → u + D 4 s ≤ T → (cst s u = 0 ↔ soP D E (cnF f4 f5 kn) (xr f0) (xr f1) (xr f2) (xr f3) n (s + 1) u ∧ ∀ e, 1 ≤ e → e < D 4 s → soP D E (cnF f4 f5 kn) (xr f0) (xr f1) (xr f2) (xr f3) n 0 (u + e))) ∧ ∀ j, (bI r j ↔ j < L ∧ fnX T (ltS D) (aL D) (fun i8 t8 => lcT D cst 1023 T i8 t8 = 0) (fun f8 t8 => 0 < (wy f8 t8).toInt) (rcP L T (ltS D) (aL D) (fun i8 t8 => lcT D cst 1023 T i8 t8 = 0) p) j)) ∨ ((¬ ∀ m, T ≤ m → m < 60 → soP D E (cnF f4 f5 kn) (xr f0) (xr f1) (xr f2) (xr f3) n 0 m) ∧ r = 0))) ∨ ((∀ T p, T ≤ 60 → ti = nI T → p < 60 → ¬ pi = nI p) ∧ r = -1)
def CnM (D : Nat → Nat → Nat) (E : Nat → Nat) (L n : Nat) (g0 g1 g2 g3 g4 g5 : Nat → Int32) (ti pi kn r : Int32) : Prop := (∃ T p, T ≤ 60 ∧ ti = nI T ∧ p < 60 ∧ pi = nI p ∧ (((∀ m, T ≤ m → m < 60 → soP D E (cnR g4 g5 kn) (xr g0) (xr g1) (xr g2) (xr g3) n 0 m) ∧ ∃ w bg mr mb, WlA D (csM bg mr mb D T) L T w 0 0 ∧ BgS D L bg ∧ NnOk 360 1 mb ∧ NnOk 60 1 mr ∧ MyR D E (cnR g4 g5 kn) (xr g0) (xr g1) (xr g2) (xr g3) n mr mb ∧ ∀ j, (bI r j ↔ j < L ∧ fnX T (ltS D) (aL D) (fun l8 m8 => csM bg mr mb D T l8 m8 = 0) (fun f8 m8 => 0 < (w (2 * m8 + f8)).toInt) (rmP L T (ltS D) (aL D) (fun l8 m8 => csM bg mr mb D T l8 m8 = 0) (fun f8 m8 => 0 < (w (2 * m8 + f8)).toInt) p) j)) ∨ ((¬ ∀ m, T ≤ m → m < 60 → soP D E (cnR g4 g5 kn) (xr g0) (xr g1) (xr g2) (xr g3) n 0 m) ∧ r = 0))) ∨ ((∀ T p, T ≤ 60 → ti = nI T → p < 60 → ¬ pi = nI p) ∧ r = -1)
theorem can_both {D : Nat → Nat → Nat} {E : Nat → Nat} {L n : Nat} {ti pi kn r1 r2 : Int32} {f0 f1 f2 f3 f4 f5 g0 g1 g2 g3 g4 g5 : Nat → Int32} (hD : DOk D) (hL : L = D 0 1) (hs : SdR n f0 f1 f2 f3 f4 f5 g0 g1 g2 g3 g4 g5) (h1 : CnC D E L n f0 f1 f2 f3 f4 f5 ti pi kn r1) (h2 : CnM D E L n g0 g1 g2 g3 g4 g5 ti pi kn r2) : r1 = r2 := by
  have so := fun p m => so_both (D := D) (E := E) (kn := kn) (p := p) (m := m) hs
  rcases h1 with ⟨T, p, a1, a2, a4, a5, a3⟩ | ⟨a1, a2⟩
  · rcases h2 with ⟨T', p', b1, b2, b4, b5, b3⟩ | ⟨b1, b2⟩
    · have e : T = T' := (nI_eq (by omega) (by omega)).mp (a2.symm.trans b2)
      have e' : p = p' := (nI_eq (by omega) (by omega)).mp (a5.symm.trans b5)
      subst e e'
      rcases a3 with ⟨c1, wy, cst, c2, c3, c4⟩ | ⟨c1, c2⟩
      · rcases b3 with ⟨d1, w, bg, mr, mb, d2, d3, d4, d5, d6, d7⟩ | ⟨d1, d2⟩
        · have ok : ∀ s u, s < D 0 0 → u + D 4 s ≤ T → (cst s u = 0 ↔ okS mb mr (D 4) s u) := fun s u hs2 hu => by
            have t1 := (hD.2.2.2.1 s hs2).1
            refine (c3 s u hs2 hu).trans ⟨fun q => ⟨?_, fun e e1 e2 => ?_⟩, fun q => ⟨?_, fun e e1 e2 => ?_⟩⟩
            · exact (d6.2 s u hs2 (by omega)).mpr ((so _ _).mp q.1)
            · exact (d6.1 (u + e) (by omega)).mpr ((so _ _).mp (q.2 e e1 e2))
            · exact (so _ _).mpr ((d6.2 s u hs2 (by omega)).mp q.1)
            · exact (so _ _).mpr ((d6.1 (u + e) (by omega)).mp (q.2 e e1 e2))
          have ceq : ∀ l m, l < L → (csM bg mr mb D T l m = 0 ↔ lcT D cst 1023 T l m = 0) := fun l m hl => cs_eq hD (by omega) (d3 l hl) d4 d5 (by omega) ok
          have ha : ∀ i f, i < L → f ≤ 1 → aL D i f ≤ 2 := fun i f _ hf => lF_le (by omega)
          have ra := GwR_Rc c2 ha
          have rb := RcE_0 (WlA_Rc d2 (fun l m _ _ => csM_z)) (fun l m hl _ => ceq l m hl)
          have fin : ∀ f t, f ≤ 1 → t ≤ T → (wy f t).toInt = (w (2 * t + f)).toInt := fun f t hf ht => by
            have z := RcE_eq ra rb (fun i t hi ht hc => ⟨(ltS_b hD (by omega)).1, (lcT_b i t).2 (Nat.lt_of_le_of_lt hc (by decide))⟩) ha T 0 f t (by omega) (Nat.le_refl 0) hf ht
            have z' : (wy (2 * 0 + f) t).toInt = (w (2 * t + f)).toInt := z
            rw [show 2 * 0 + f = f by omega] at z'
            exact z'
          have hTc : ∀ l t, l < L → t < T → lcT D cst 1023 T l t = 0 → t + ltS D l ≤ T := fun l t _ _ hc => (lcT_b l t).2 (Nat.lt_of_le_of_lt (Nat.le_of_eq hc) (by decide))
          have hTm : ∀ l t, l < L → t < T → csM bg mr mb D T l t = 0 → t + ltS D l ≤ T := fun l t hl ht hc => hTc l t hl ht ((ceq l t hl).mp hc)
          have hW := hW_C c2 hTc ha
          refine bI_ext (fun j => (c4 j).trans (Iff.trans ?_ (d7 j).symm))
          constructor
          · rintro ⟨hj, q⟩
            exact ⟨hj, fn_cg (fun l t hl _ z => (ceq l t hl).mpr z) (fun f t hf ht z => by rw [← fin f t hf ht]; exact z) hTc ha hj (fn_rm hW hj q)⟩
          · rintro ⟨hj, q⟩
            exact ⟨hj, fn_rc (fn_cg (fun l t hl _ z => (ceq l t hl).mp z) (fun f t hf ht z => by rw [fin f t hf ht]; exact z) hTm ha hj q)⟩
        · exact absurd (fun m h1 h2 => (so 0 m).mp (c1 m h1 h2)) d1
      · rcases b3 with ⟨d1, _⟩ | ⟨d1, d2⟩
        · exact absurd (fun m h1 h2 => (so 0 m).mpr (d1 m h1 h2)) c1
        · rw [c2, d2]
    · exact absurd a5 (b1 T p a1 a2 a4)
  · rcases h2 with ⟨T', p', b1, b2, b4, b5, _⟩ | ⟨b1, b2⟩
    · exact absurd b5 (a1 T' p' b1 b2 b4)
    · rw [a2, b2]
set_option maxHeartbeats 4000000 in
set_option maxRecDepth 100000 in
theorem s_X3_drawMasksF (lau : Launch) (gg : va_G) (kA : Nat → ClassId) (g : Nat) (g0 : Nat) (g1 : Nat) (g2 : Nat) (g3 : Nat) (g4 : Nat) (g5 : Nat) (g6 : Nat) (g7 : Nat) (gn : Nat) (gtm : Nat) (gms : Nat) (M : Nat) (gtk : Nat → Int32) (gaf : Nat → Nat → Int32) (gco : Nat → Nat → Int32) (gwy : Nat → Nat → Int64) (gfi : Nat → Int64) (gal : Nat → Int64) (gre : Nat → Int64) (tkf : Nat → Nat) (aff : Nat → Nat → Nat) (csf : Nat → Nat → Nat) (hM : M ≤ 10) (hgn : gn ≤ M) (hgtm : gtm ≤ 60) (hgd : GdR gn gtm tkf aff csf gtk gaf gco) : CtV lau yX3_drawMasks cX3_drawMasks 3 (none) 1 0 0 gg kA [.ref g] (mflat [(g, .inl (.inr (3, [.ref g0, .ref g1, .ref g2, .ref g3, .ref g4, .ref g5, .ref g6, .ref g7, .int (nI gn), .int (nI gtm), .int (nI gms)]))), (g0, .inl (.inl (kA 1, M, .inl gtk))), (g1, .inr (kA 6, kA 1, M, 2, .inl gaf)), (g2, .inr (kA 6, kA 1, M, 60, .inl gco)), (g3, .inr (kA 7, kA 2, 8, 61, .inr gwy)), (g4, .inl (.inl (kA 2, M, .inr (.inl gfi)))), (g5, .inl (.inl (kA 2, 2, .inr (.inl gal)))), (g6, .inl (.inl (kA 2, 2, .inr (.inl gre))))]) (S := (Nat → Int64) × (Nat → Int64) × (Nat → Int64)) (fun ((y_g4, y_g5, y_g6) : (Nat → Int64) × (Nat → Int64) × (Nat → Int64)) => (MkR (fun i8 t8 => csf i8 t8 = 0) y_g4 gn gtm) ∧ (MkR (fun f8 t8 => 0 < (gwy f8 t8).toInt) y_g5 2 (gtm + 1)) ∧ (y_g6 0 = 1) ∧ (y_g6 1 = 0)) (fun ((y_g4, y_g5, y_g6) : (Nat → Int64) × (Nat → Int64) × (Nat → Int64)) => mflat [(g, .inl (.inr (3, [.ref g0, .ref g1, .ref g2, .ref g3, .ref g4, .ref g5, .ref g6, .ref g7, .int (nI gn), .int (nI gtm), .int (nI gms)]))), (g0, .inl (.inl (kA 1, M, .inl gtk))), (g1, .inr (kA 6, kA 1, M, 2, .inl gaf)), (g2, .inr (kA 6, kA 1, M, 60, .inl gco)), (g3, .inr (kA 7, kA 2, 8, 61, .inr gwy)), (g4, .inl (.inl (kA 2, M, .inr (.inl y_g4)))), (g5, .inl (.inl (kA 2, 2, .inr (.inl y_g5)))), (g6, .inl (.inl (kA 2, 2, .inr (.inl y_g6))))]) := by
  refine nx_startV (by decide +kernel) (Nat.le_of_ble_eq_true rfl) ?_
  intro x hnm h hq
  have h : Ok x cX3_drawMasks RX3 kA (rmC 1 0 0) 3 := h
  show J x (mflat [(g, .inl (.inr (3, [.ref g0, .ref g1, .ref g2, .ref g3, .ref g4, .ref g5, .ref g6, .ref g7, .int (nI gn), .int (nI gtm), .int (nI gms)]))), (g0, .inl (.inl (kA 1, M, .inl gtk))), (g1, .inr (kA 6, kA 1, M, 2, .inl gaf)), (g2, .inr (kA 6, kA 1, M, 60, .inl gco)), (g3, .inr (kA 7, kA 2, 8, 61, .inr gwy)), (g4, .inl (.inl (kA 2, M, .inr (.inl gfi)))), (g5, .inl (.inl (kA 2, 2, .inr (.inl gal)))), (g6, .inl (.inl (kA 2, 2, .inr (.inl gre))))]) [(0, .ref g)] 0 0 0 []
  refine j_iconst (v := 0) h (by decide) dX3_drawMasks_0 ?_
  refine j_istore_n (lv' := [(1, .int 0), (0, .ref g)]) h dX3_drawMasks_1 rfl (by decide) rfl ?_
  have lp2_100081 : ∀ (m2_100081 : Nat), ∀ (v1_2_100081 : Nat) (fg4_2_100081 : Nat → Int64), (MkR (fun i8 t8 => csf i8 t8 = 0) fg4_2_100081 v1_2_100081 gtm) → (v1_2_100081 ≤ gn) → (v1_2_100081 ≤ 100000) → gn - v1_2_100081 < m2_100081 → J x (mflat [(g, .inl (.inr (3, [.ref g0, .ref g1, .ref g2, .ref g3, .ref g4, .ref g5, .ref g6, .ref g7, .int (nI gn), .int (nI gtm), .int (nI gms)]))), (g0, .inl (.inl (kA 1, M, .inl gtk))), (g1, .inr (kA 6, kA 1, M, 2, .inl gaf)), (g2, .inr (kA 6, kA 1, M, 60, .inl gco)), (g3, .inr (kA 7, kA 2, 8, 61, .inr gwy)), (g4, .inl (.inl (kA 2, M, .inr (.inl fg4_2_100081)))), (g5, .inl (.inl (kA 2, 2, .inr (.inl gal)))), (g6, .inl (.inl (kA 2, 2, .inr (.inl gre))))]) [(1, .int (nI v1_2_100081)), (0, .ref g)] 0 0 2 [] := by
    intro m2_100081
    induction m2_100081 with
    | zero =>
      intro v1_2_100081 fg4_2_100081 i2_100081_0 i2_100081_1 i2_100081_2 hm2_100081
      exact absurd hm2_100081 (Nat.not_lt_zero _)
    | succ m2_100081 ih2_100081 =>
      intro v1_2_100081 fg4_2_100081 i2_100081_0 i2_100081_1 i2_100081_2 hm2_100081
      refine j_iload_n h 0 rfl rfl dX3_drawMasks_2 ?_
      refine j_aload_n h 1 rfl rfl dX3_drawMasks_3 ?_
      refine jm_get h iw_X3 0 rfl rfl 8 (by decide) tw_387 rfl dX3_drawMasks_4 ?_
      refine j_icmp_ge h 66 dX3_drawMasks_7 (by decide) (fun z1000181 => ?_) (fun z1000181 => ?_)
      · have z1000181n : gn ≤ v1_2_100081 := (nI_leI (a := gn) (b := v1_2_100081) (by omega) (by omega)).mp z1000181
        refine j_iconst (v := 0) h (by decide) dX3_drawMasks_66 ?_
        refine j_istore_n (lv' := [(1, .int 0), (0, .ref g)]) h dX3_drawMasks_67 rfl (by decide) rfl ?_
        have lp68_100090 : ∀ (m68_100090 : Nat), ∀ (v1_68_100090 : Nat) (fg5_68_100090 : Nat → Int64), (MkR (fun f8 t8 => 0 < (gwy f8 t8).toInt) fg5_68_100090 v1_68_100090 (gtm + 1)) → (v1_68_100090 ≤ 2) → (v1_68_100090 ≤ 100000) → 2 - v1_68_100090 < m68_100090 → J x (mflat [(g, .inl (.inr (3, [.ref g0, .ref g1, .ref g2, .ref g3, .ref g4, .ref g5, .ref g6, .ref g7, .int (nI gn), .int (nI gtm), .int (nI gms)]))), (g0, .inl (.inl (kA 1, M, .inl gtk))), (g1, .inr (kA 6, kA 1, M, 2, .inl gaf)), (g2, .inr (kA 6, kA 1, M, 60, .inl gco)), (g3, .inr (kA 7, kA 2, 8, 61, .inr gwy)), (g4, .inl (.inl (kA 2, M, .inr (.inl fg4_2_100081)))), (g5, .inl (.inl (kA 2, 2, .inr (.inl fg5_68_100090)))), (g6, .inl (.inl (kA 2, 2, .inr (.inl gre))))]) [(1, .int (nI v1_68_100090)), (0, .ref g)] 0 0 68 [] := by
          intro m68_100090
          induction m68_100090 with
          | zero =>
            intro v1_68_100090 fg5_68_100090 i68_100090_0 i68_100090_1 i68_100090_2 hm68_100090
            exact absurd hm68_100090 (Nat.not_lt_zero _)
          | succ m68_100090 ih68_100090 =>
            intro v1_68_100090 fg5_68_100090 i68_100090_0 i68_100090_1 i68_100090_2 hm68_100090
            refine j_iload_n h 0 rfl rfl dX3_drawMasks_68 ?_
            refine j_iconst (v := 1) h (by decide) dX3_drawMasks_69 ?_
            refine j_icmp_gt h 131 dX3_drawMasks_70 (by decide) (fun z1000195 => ?_) (fun z1000195 => ?_)
            · have z1000195n : 1 < v1_68_100090 := (nI_ltI (a := 1) (b := v1_68_100090) (by omega) (by omega)).mp z1000195
              refine j_aload_n h 1 rfl rfl dX3_drawMasks_131 ?_
              refine jm_get h iw_X3 0 rfl rfl 6 (by decide) tw_385 rfl dX3_drawMasks_132 ?_
              refine j_iconst (v := 0) h (by decide) dX3_drawMasks_135 ?_
              refine j_lconst (v := 1) h (by decide) dX3_drawMasks_136 ?_
              refine jm_last (w' := [(g, .inl (.inr (3, [.ref g0, .ref g1, .ref g2, .ref g3, .ref g4, .ref g5, .ref g6, .ref g7, .int (nI gn), .int (nI gtm), .int (nI gms)]))), (g0, .inl (.inl (kA 1, M, .inl gtk))), (g1, .inr (kA 6, kA 1, M, 2, .inl gaf)), (g2, .inr (kA 6, kA 1, M, 60, .inl gco)), (g3, .inr (kA 7, kA 2, 8, 61, .inr gwy)), (g4, .inl (.inl (kA 2, M, .inr (.inl fg4_2_100081)))), (g5, .inl (.inl (kA 2, 2, .inr (.inl fg5_68_100090)))), (g6, .inl (.inl (kA 2, 2, .inr (.inl (vp_updL gre 0 1)))))]) h 7 rfl 0 (by decide) (by decide) (by omega) dX3_drawMasks_137 rfl ?_
              refine j_aload_n h 1 rfl rfl dX3_drawMasks_138 ?_
              refine jm_get h iw_X3 0 rfl rfl 6 (by decide) tw_385 rfl dX3_drawMasks_139 ?_
              refine j_iconst (v := 1) h (by decide) dX3_drawMasks_142 ?_
              refine j_lconst (v := 0) h (by decide) dX3_drawMasks_143 ?_
              refine jm_last (w' := [(g, .inl (.inr (3, [.ref g0, .ref g1, .ref g2, .ref g3, .ref g4, .ref g5, .ref g6, .ref g7, .int (nI gn), .int (nI gtm), .int (nI gms)]))), (g0, .inl (.inl (kA 1, M, .inl gtk))), (g1, .inr (kA 6, kA 1, M, 2, .inl gaf)), (g2, .inr (kA 6, kA 1, M, 60, .inl gco)), (g3, .inr (kA 7, kA 2, 8, 61, .inr gwy)), (g4, .inl (.inl (kA 2, M, .inr (.inl fg4_2_100081)))), (g5, .inl (.inl (kA 2, 2, .inr (.inl fg5_68_100090)))), (g6, .inl (.inl (kA 2, 2, .inr (.inl (vp_updL (vp_updL gre 0 1) 1 0)))))]) h 7 rfl 1 (by decide) (by decide) (by omega) dX3_drawMasks_144 rfl ?_
              exact jm_vret h hq dX3_drawMasks_145 (fg4_2_100081, fg5_68_100090, (vp_updL (vp_updL gre 0 1) 1 0)) [0, 1, 2, 3, 4, 5, 6, 7] rfl (by decide) ⟨(show MkR (fun i8 t8 => csf i8 t8 = 0) fg4_2_100081 gn gtm from (show v1_2_100081 = gn by omega) ▸ i2_100081_0), (show MkR (fun f8 t8 => 0 < (gwy f8 t8).toInt) fg5_68_100090 2 (gtm + 1) from (show v1_68_100090 = 2 by omega) ▸ i68_100090_0), (show (vp_updL (vp_updL gre 0 1) 1 0) 0 = 1 from (by rw [pk_uLn (by decide), pk_uLs])), (show (vp_updL (vp_updL gre 0 1) 1 0) 1 = 0 from pk_uLs)⟩ (Nat.le_of_ble_eq_true rfl) (Nat.le_of_ble_eq_true rfl)
            · have z1000195n : ¬ 1 < v1_68_100090 := fun q9 => z1000195 ((nI_ltI (a := 1) (b := v1_68_100090) (by omega) (by omega)).mpr q9)
              refine j_aload_n h 1 rfl rfl dX3_drawMasks_73 ?_
              refine jm_get h iw_X3 0 rfl rfl 5 (by decide) tw_384 rfl dX3_drawMasks_74 ?_
              refine j_iload_n h 0 rfl rfl dX3_drawMasks_77 ?_
              refine j_lconst (v := 0) h (by decide) dX3_drawMasks_78 ?_
              refine jm_last (w' := [(g, .inl (.inr (3, [.ref g0, .ref g1, .ref g2, .ref g3, .ref g4, .ref g5, .ref g6, .ref g7, .int (nI gn), .int (nI gtm), .int (nI gms)]))), (g0, .inl (.inl (kA 1, M, .inl gtk))), (g1, .inr (kA 6, kA 1, M, 2, .inl gaf)), (g2, .inr (kA 6, kA 1, M, 60, .inl gco)), (g3, .inr (kA 7, kA 2, 8, 61, .inr gwy)), (g4, .inl (.inl (kA 2, M, .inr (.inl fg4_2_100081)))), (g5, .inl (.inl (kA 2, 2, .inr (.inl (vp_updL fg5_68_100090 v1_68_100090 0))))), (g6, .inl (.inl (kA 2, 2, .inr (.inl gre))))]) h 6 rfl v1_68_100090 rfl (by omega) (by omega) dX3_drawMasks_79 rfl ?_
              refine j_iconst (v := 0) h (by decide) dX3_drawMasks_80 ?_
              refine j_istore_n (lv' := [(2, .int 0), (1, .int (nI v1_68_100090)), (0, .ref g)]) h dX3_drawMasks_81 rfl (by decide) rfl ?_
              have lp82_100093 : ∀ (m82_100093 : Nat), ∀ (v2_82_100093 : Nat) (fg5_82_100093 : Nat → Int64), (MkR (fun f8 t8 => 0 < (gwy f8 t8).toInt) fg5_82_100093 v1_68_100090 (gtm + 1)) → (MkP (fun f8 t8 => 0 < (gwy f8 t8).toInt) fg5_82_100093 v1_68_100090 v2_82_100093) → (v2_82_100093 ≤ gtm + 1) → (v2_82_100093 ≤ 100000) → 100001 - v2_82_100093 < m82_100093 → J x (mflat [(g, .inl (.inr (3, [.ref g0, .ref g1, .ref g2, .ref g3, .ref g4, .ref g5, .ref g6, .ref g7, .int (nI gn), .int (nI gtm), .int (nI gms)]))), (g0, .inl (.inl (kA 1, M, .inl gtk))), (g1, .inr (kA 6, kA 1, M, 2, .inl gaf)), (g2, .inr (kA 6, kA 1, M, 60, .inl gco)), (g3, .inr (kA 7, kA 2, 8, 61, .inr gwy)), (g4, .inl (.inl (kA 2, M, .inr (.inl fg4_2_100081)))), (g5, .inl (.inl (kA 2, 2, .inr (.inl fg5_82_100093)))), (g6, .inl (.inl (kA 2, 2, .inr (.inl gre))))]) [(2, .int (nI v2_82_100093)), (1, .int (nI v1_68_100090)), (0, .ref g)] 0 0 82 [] := by
                intro m82_100093
                induction m82_100093 with
                | zero =>
                  intro v2_82_100093 fg5_82_100093 i82_100093_0 i82_100093_1 i82_100093_2 i82_100093_3 hm82_100093
                  exact absurd hm82_100093 (Nat.not_lt_zero _)
                | succ m82_100093 ih82_100093 =>
                  intro v2_82_100093 fg5_82_100093 i82_100093_0 i82_100093_1 i82_100093_2 i82_100093_3 hm82_100093
                  refine j_iload_n h 0 rfl rfl dX3_drawMasks_82 ?_
                  refine j_aload_n h 2 rfl rfl dX3_drawMasks_83 ?_
                  refine jm_get h iw_X3 0 rfl rfl 9 (by decide) tw_389 rfl dX3_drawMasks_84 ?_
                  refine j_icmp_gt h 125 dX3_drawMasks_87 (by decide) (fun z1000200 => ?_) (fun z1000200 => ?_)
                  · have z1000200n : gtm < v2_82_100093 := (nI_ltI (a := gtm) (b := v2_82_100093) (by omega) (by omega)).mp z1000200
                    refine j_iinc (v := nI (v1_68_100090 + 1)) (lv' := [(1, .int (nI (v1_68_100090 + 1))), (2, .int (nI v2_82_100093)), (0, .ref g)]) h dX3_drawMasks_125 1 rfl (nI_add v1_68_100090 1) (by decide) rfl ?_
                    refine j_goto h 68 dX3_drawMasks_128 (by decide) ?_
                    refine jm_sub [0, 1, 2, 3, 4, 5, 6, 7] (w' := [(g, .inl (.inr (3, [.ref g0, .ref g1, .ref g2, .ref g3, .ref g4, .ref g5, .ref g6, .ref g7, .int (nI gn), .int (nI gtm), .int (nI gms)]))), (g0, .inl (.inl (kA 1, M, .inl gtk))), (g1, .inr (kA 6, kA 1, M, 2, .inl gaf)), (g2, .inr (kA 6, kA 1, M, 60, .inl gco)), (g3, .inr (kA 7, kA 2, 8, 61, .inr gwy)), (g4, .inl (.inl (kA 2, M, .inr (.inl fg4_2_100081)))), (g5, .inl (.inl (kA 2, 2, .inr (.inl fg5_82_100093)))), (g6, .inl (.inl (kA 2, 2, .inr (.inl gre))))]) rfl (by decide) [0, 2] (lv' := [(1, .int (nI (v1_68_100090 + 1))), (0, .ref g)]) rfl ?_
                    exact ih68_100090 (v1_68_100090 + 1) fg5_82_100093 (show MkR (fun f8 t8 => 0 < (gwy f8 t8).toInt) fg5_82_100093 (v1_68_100090 + 1) (gtm + 1) from MkR_nx i82_100093_0 i82_100093_1 (by omega)) (show (v1_68_100090 + 1) ≤ 2 by first | assumption | omega) (show (v1_68_100090 + 1) ≤ 100000 by first | assumption | omega) (show 2 - (v1_68_100090 + 1) < m68_100090 by omega)
                  · have z1000200n : ¬ gtm < v2_82_100093 := fun q9 => z1000200 ((nI_ltI (a := gtm) (b := v2_82_100093) (by omega) (by omega)).mpr q9)
                    refine j_aload_n h 2 rfl rfl dX3_drawMasks_90 ?_
                    refine jm_get h iw_X3 0 rfl rfl 5 (by decide) tw_384 rfl dX3_drawMasks_91 ?_
                    refine j_iload_n h 1 rfl rfl dX3_drawMasks_94 ?_
                    refine j_dup2 h rfl rfl dX3_drawMasks_95 ?_
                    refine jm_lald h 6 rfl v1_68_100090 rfl (by omega) (by omega) dX3_drawMasks_96 ?_
                    refine j_aload_n h 2 rfl rfl dX3_drawMasks_97 ?_
                    refine jm_get h iw_X3 0 rfl rfl 3 (by decide) tw_382 rfl dX3_drawMasks_98 ?_
                    refine j_iload_n h 1 rfl rfl dX3_drawMasks_101 ?_
                    refine jm_gout h 4 7 rfl rfl v1_68_100090 rfl (by omega) (by omega) dX3_drawMasks_102 ?_
                    refine j_iload_n h 0 rfl rfl dX3_drawMasks_103 ?_
                    refine jm_glald h 4 rfl v1_68_100090 (by omega) v2_82_100093 rfl (by omega) (by omega) dX3_drawMasks_104 ?_
                    refine j_lconst (v := 0) h (by decide) dX3_drawMasks_105 ?_
                    refine j_lcmp h dX3_drawMasks_106 ?_
                    refine j_if_le h 116 dX3_drawMasks_107 (by decide) (fun z1000201 => ?_) (fun z1000201 => ?_)
                    · show J x (mflat [(g, .inl (.inr (3, [.ref g0, .ref g1, .ref g2, .ref g3, .ref g4, .ref g5, .ref g6, .ref g7, .int (nI gn), .int (nI gtm), .int (nI gms)]))), (g0, .inl (.inl (kA 1, M, .inl gtk))), (g1, .inr (kA 6, kA 1, M, 2, .inl gaf)), (g2, .inr (kA 6, kA 1, M, 60, .inl gco)), (g3, .inr (kA 7, kA 2, 8, 61, .inr gwy)), (g4, .inl (.inl (kA 2, M, .inr (.inl fg4_2_100081)))), (g5, .inl (.inl (kA 2, 2, .inr (.inl fg5_82_100093)))), (g6, .inl (.inl (kA 2, 2, .inr (.inl gre))))]) [(2, .int (nI v2_82_100093)), (1, .int (nI v1_68_100090)), (0, .ref g)] 0 0 116 [.long (fg5_82_100093 v1_68_100090), .int (nI v1_68_100090), .ref g5]
                      refine j_lconst (v := 0) h (by decide) dX3_drawMasks_116 ?_
                      refine j_lor h dX3_drawMasks_117 ?_
                      refine jm_last (w' := [(g, .inl (.inr (3, [.ref g0, .ref g1, .ref g2, .ref g3, .ref g4, .ref g5, .ref g6, .ref g7, .int (nI gn), .int (nI gtm), .int (nI gms)]))), (g0, .inl (.inl (kA 1, M, .inl gtk))), (g1, .inr (kA 6, kA 1, M, 2, .inl gaf)), (g2, .inr (kA 6, kA 1, M, 60, .inl gco)), (g3, .inr (kA 7, kA 2, 8, 61, .inr gwy)), (g4, .inl (.inl (kA 2, M, .inr (.inl fg4_2_100081)))), (g5, .inl (.inl (kA 2, 2, .inr (.inl (vp_updL fg5_82_100093 v1_68_100090 ((fg5_82_100093 v1_68_100090) ||| 0)))))), (g6, .inl (.inl (kA 2, 2, .inr (.inl gre))))]) h 6 rfl v1_68_100090 rfl (by omega) (by omega) dX3_drawMasks_118 rfl ?_
                      refine j_iinc (v := nI (v2_82_100093 + 1)) (lv' := [(2, .int (nI (v2_82_100093 + 1))), (1, .int (nI v1_68_100090)), (0, .ref g)]) h dX3_drawMasks_119 0 rfl (nI_add v2_82_100093 1) (by decide) rfl ?_
                      refine j_goto h 82 dX3_drawMasks_122 (by decide) ?_
                      refine jm_sub [0, 1, 2, 3, 4, 5, 6, 7] (w' := [(g, .inl (.inr (3, [.ref g0, .ref g1, .ref g2, .ref g3, .ref g4, .ref g5, .ref g6, .ref g7, .int (nI gn), .int (nI gtm), .int (nI gms)]))), (g0, .inl (.inl (kA 1, M, .inl gtk))), (g1, .inr (kA 6, kA 1, M, 2, .inl gaf)), (g2, .inr (kA 6, kA 1, M, 60, .inl gco)), (g3, .inr (kA 7, kA 2, 8, 61, .inr gwy)), (g4, .inl (.inl (kA 2, M, .inr (.inl fg4_2_100081)))), (g5, .inl (.inl (kA 2, 2, .inr (.inl (vp_updL fg5_82_100093 v1_68_100090 ((fg5_82_100093 v1_68_100090) ||| 0)))))), (g6, .inl (.inl (kA 2, 2, .inr (.inl gre))))]) rfl (by decide) [0, 1, 2] (lv' := [(2, .int (nI (v2_82_100093 + 1))), (1, .int (nI v1_68_100090)), (0, .ref g)]) rfl ?_
                      exact ih82_100093 (v2_82_100093 + 1) (vp_updL fg5_82_100093 v1_68_100090 ((fg5_82_100093 v1_68_100090) ||| 0)) (show MkR (fun f8 t8 => 0 < (gwy f8 t8).toInt) (vp_updL fg5_82_100093 v1_68_100090 ((fg5_82_100093 v1_68_100090) ||| 0)) v1_68_100090 (gtm + 1) from MkR_up i82_100093_0) (show MkP (fun f8 t8 => 0 < (gwy f8 t8).toInt) (vp_updL fg5_82_100093 v1_68_100090 ((fg5_82_100093 v1_68_100090) ||| 0)) v1_68_100090 (v2_82_100093 + 1) from (MkP_n i82_100093_1 (lc_npos z1000201))) (show (v2_82_100093 + 1) ≤ gtm + 1 by first | assumption | omega) (show (v2_82_100093 + 1) ≤ 100000 by first | assumption | omega) (show 100001 - (v2_82_100093 + 1) < m82_100093 by omega)
                    · show J x (mflat [(g, .inl (.inr (3, [.ref g0, .ref g1, .ref g2, .ref g3, .ref g4, .ref g5, .ref g6, .ref g7, .int (nI gn), .int (nI gtm), .int (nI gms)]))), (g0, .inl (.inl (kA 1, M, .inl gtk))), (g1, .inr (kA 6, kA 1, M, 2, .inl gaf)), (g2, .inr (kA 6, kA 1, M, 60, .inl gco)), (g3, .inr (kA 7, kA 2, 8, 61, .inr gwy)), (g4, .inl (.inl (kA 2, M, .inr (.inl fg4_2_100081)))), (g5, .inl (.inl (kA 2, 2, .inr (.inl fg5_82_100093)))), (g6, .inl (.inl (kA 2, 2, .inr (.inl gre))))]) [(2, .int (nI v2_82_100093)), (1, .int (nI v1_68_100090)), (0, .ref g)] 0 0 110 [.long (fg5_82_100093 v1_68_100090), .int (nI v1_68_100090), .ref g5]
                      refine j_lconst (v := 1) h (by decide) dX3_drawMasks_110 ?_
                      refine j_iload_n h 0 rfl rfl dX3_drawMasks_111 ?_
                      refine j_lshl h dX3_drawMasks_112 ?_
                      refine j_goto h 117 dX3_drawMasks_113 (by decide) ?_
                      refine j_lor h dX3_drawMasks_117 ?_
                      refine jm_last (w' := [(g, .inl (.inr (3, [.ref g0, .ref g1, .ref g2, .ref g3, .ref g4, .ref g5, .ref g6, .ref g7, .int (nI gn), .int (nI gtm), .int (nI gms)]))), (g0, .inl (.inl (kA 1, M, .inl gtk))), (g1, .inr (kA 6, kA 1, M, 2, .inl gaf)), (g2, .inr (kA 6, kA 1, M, 60, .inl gco)), (g3, .inr (kA 7, kA 2, 8, 61, .inr gwy)), (g4, .inl (.inl (kA 2, M, .inr (.inl fg4_2_100081)))), (g5, .inl (.inl (kA 2, 2, .inr (.inl (vp_updL fg5_82_100093 v1_68_100090 ((fg5_82_100093 v1_68_100090) ||| (1 <<< ((nI v2_82_100093).toInt64 &&& 63)))))))), (g6, .inl (.inl (kA 2, 2, .inr (.inl gre))))]) h 6 rfl v1_68_100090 rfl (by omega) (by omega) dX3_drawMasks_118 rfl ?_
                      refine j_iinc (v := nI (v2_82_100093 + 1)) (lv' := [(2, .int (nI (v2_82_100093 + 1))), (1, .int (nI v1_68_100090)), (0, .ref g)]) h dX3_drawMasks_119 0 rfl (nI_add v2_82_100093 1) (by decide) rfl ?_
                      refine j_goto h 82 dX3_drawMasks_122 (by decide) ?_
                      refine jm_sub [0, 1, 2, 3, 4, 5, 6, 7] (w' := [(g, .inl (.inr (3, [.ref g0, .ref g1, .ref g2, .ref g3, .ref g4, .ref g5, .ref g6, .ref g7, .int (nI gn), .int (nI gtm), .int (nI gms)]))), (g0, .inl (.inl (kA 1, M, .inl gtk))), (g1, .inr (kA 6, kA 1, M, 2, .inl gaf)), (g2, .inr (kA 6, kA 1, M, 60, .inl gco)), (g3, .inr (kA 7, kA 2, 8, 61, .inr gwy)), (g4, .inl (.inl (kA 2, M, .inr (.inl fg4_2_100081)))), (g5, .inl (.inl (kA 2, 2, .inr (.inl (vp_updL fg5_82_100093 v1_68_100090 ((fg5_82_100093 v1_68_100090) ||| (1 <<< ((nI v2_82_100093).toInt64 &&& 63)))))))), (g6, .inl (.inl (kA 2, 2, .inr (.inl gre))))]) rfl (by decide) [0, 1, 2] (lv' := [(2, .int (nI (v2_82_100093 + 1))), (1, .int (nI v1_68_100090)), (0, .ref g)]) rfl ?_
                      exact ih82_100093 (v2_82_100093 + 1) (vp_updL fg5_82_100093 v1_68_100090 ((fg5_82_100093 v1_68_100090) ||| (1 <<< ((nI v2_82_100093).toInt64 &&& 63)))) (show MkR (fun f8 t8 => 0 < (gwy f8 t8).toInt) (vp_updL fg5_82_100093 v1_68_100090 ((fg5_82_100093 v1_68_100090) ||| (1 <<< ((nI v2_82_100093).toInt64 &&& 63)))) v1_68_100090 (gtm + 1) from MkR_up i82_100093_0) (show MkP (fun f8 t8 => 0 < (gwy f8 t8).toInt) (vp_updL fg5_82_100093 v1_68_100090 ((fg5_82_100093 v1_68_100090) ||| (1 <<< ((nI v2_82_100093).toInt64 &&& 63)))) v1_68_100090 (v2_82_100093 + 1) from (MkP_y i82_100093_1 (lc_pos z1000201) (by omega))) (show (v2_82_100093 + 1) ≤ gtm + 1 by first | assumption | omega) (show (v2_82_100093 + 1) ≤ 100000 by first | assumption | omega) (show 100001 - (v2_82_100093 + 1) < m82_100093 by omega)
              refine jm_sub [0, 1, 2, 3, 4, 5, 6, 7] (w' := [(g, .inl (.inr (3, [.ref g0, .ref g1, .ref g2, .ref g3, .ref g4, .ref g5, .ref g6, .ref g7, .int (nI gn), .int (nI gtm), .int (nI gms)]))), (g0, .inl (.inl (kA 1, M, .inl gtk))), (g1, .inr (kA 6, kA 1, M, 2, .inl gaf)), (g2, .inr (kA 6, kA 1, M, 60, .inl gco)), (g3, .inr (kA 7, kA 2, 8, 61, .inr gwy)), (g4, .inl (.inl (kA 2, M, .inr (.inl fg4_2_100081)))), (g5, .inl (.inl (kA 2, 2, .inr (.inl (vp_updL fg5_68_100090 v1_68_100090 0))))), (g6, .inl (.inl (kA 2, 2, .inr (.inl gre))))]) rfl (by decide) [0, 1, 2] (lv' := [(2, .int 0), (1, .int (nI v1_68_100090)), (0, .ref g)]) rfl ?_
              exact lp82_100093 (100001 - 0 + 1) 0 (vp_updL fg5_68_100090 v1_68_100090 0) (show MkR (fun f8 t8 => 0 < (gwy f8 t8).toInt) (vp_updL fg5_68_100090 v1_68_100090 0) v1_68_100090 (gtm + 1) from MkR_up i68_100090_0) (show MkP (fun f8 t8 => 0 < (gwy f8 t8).toInt) (vp_updL fg5_68_100090 v1_68_100090 0) v1_68_100090 0 from MkP_0) (show 0 ≤ gtm + 1 by first | assumption | omega) (show 0 ≤ 100000 by first | assumption | omega) (Nat.lt_succ_self _)
        refine jm_sub [0, 1, 2, 3, 4, 5, 6, 7] (w' := [(g, .inl (.inr (3, [.ref g0, .ref g1, .ref g2, .ref g3, .ref g4, .ref g5, .ref g6, .ref g7, .int (nI gn), .int (nI gtm), .int (nI gms)]))), (g0, .inl (.inl (kA 1, M, .inl gtk))), (g1, .inr (kA 6, kA 1, M, 2, .inl gaf)), (g2, .inr (kA 6, kA 1, M, 60, .inl gco)), (g3, .inr (kA 7, kA 2, 8, 61, .inr gwy)), (g4, .inl (.inl (kA 2, M, .inr (.inl fg4_2_100081)))), (g5, .inl (.inl (kA 2, 2, .inr (.inl gal)))), (g6, .inl (.inl (kA 2, 2, .inr (.inl gre))))]) rfl (by decide) [0, 1] (lv' := [(1, .int 0), (0, .ref g)]) rfl ?_
        exact lp68_100090 (2 - 0 + 1) 0 gal (show MkR (fun f8 t8 => 0 < (gwy f8 t8).toInt) gal 0 (gtm + 1) from MkR_0) (show 0 ≤ 2 by first | assumption | omega) (show 0 ≤ 100000 by first | assumption | omega) (Nat.lt_succ_self _)
      · have z1000181n : ¬ gn ≤ v1_2_100081 := fun q9 => z1000181 ((nI_leI (a := gn) (b := v1_2_100081) (by omega) (by omega)).mpr q9)
        refine j_aload_n h 1 rfl rfl dX3_drawMasks_10 ?_
        refine jm_get h iw_X3 0 rfl rfl 4 (by decide) tw_383 rfl dX3_drawMasks_11 ?_
        refine j_iload_n h 0 rfl rfl dX3_drawMasks_14 ?_
        refine j_lconst (v := 0) h (by decide) dX3_drawMasks_15 ?_
        refine jm_last (w' := [(g, .inl (.inr (3, [.ref g0, .ref g1, .ref g2, .ref g3, .ref g4, .ref g5, .ref g6, .ref g7, .int (nI gn), .int (nI gtm), .int (nI gms)]))), (g0, .inl (.inl (kA 1, M, .inl gtk))), (g1, .inr (kA 6, kA 1, M, 2, .inl gaf)), (g2, .inr (kA 6, kA 1, M, 60, .inl gco)), (g3, .inr (kA 7, kA 2, 8, 61, .inr gwy)), (g4, .inl (.inl (kA 2, M, .inr (.inl (vp_updL fg4_2_100081 v1_2_100081 0))))), (g5, .inl (.inl (kA 2, 2, .inr (.inl gal)))), (g6, .inl (.inl (kA 2, 2, .inr (.inl gre))))]) h 5 rfl v1_2_100081 rfl (by omega) (by omega) dX3_drawMasks_16 rfl ?_
        refine j_iconst (v := 0) h (by decide) dX3_drawMasks_17 ?_
        refine j_istore_n (lv' := [(2, .int 0), (1, .int (nI v1_2_100081)), (0, .ref g)]) h dX3_drawMasks_18 rfl (by decide) rfl ?_
        have lp19_100096 : ∀ (m19_100096 : Nat), ∀ (v2_19_100096 : Nat) (fg4_19_100096 : Nat → Int64), (MkR (fun i8 t8 => csf i8 t8 = 0) fg4_19_100096 v1_2_100081 gtm) → (MkP (fun i8 t8 => csf i8 t8 = 0) fg4_19_100096 v1_2_100081 v2_19_100096) → (v2_19_100096 ≤ gtm) → (v2_19_100096 ≤ 100000) → 100001 - v2_19_100096 < m19_100096 → J x (mflat [(g, .inl (.inr (3, [.ref g0, .ref g1, .ref g2, .ref g3, .ref g4, .ref g5, .ref g6, .ref g7, .int (nI gn), .int (nI gtm), .int (nI gms)]))), (g0, .inl (.inl (kA 1, M, .inl gtk))), (g1, .inr (kA 6, kA 1, M, 2, .inl gaf)), (g2, .inr (kA 6, kA 1, M, 60, .inl gco)), (g3, .inr (kA 7, kA 2, 8, 61, .inr gwy)), (g4, .inl (.inl (kA 2, M, .inr (.inl fg4_19_100096)))), (g5, .inl (.inl (kA 2, 2, .inr (.inl gal)))), (g6, .inl (.inl (kA 2, 2, .inr (.inl gre))))]) [(2, .int (nI v2_19_100096)), (1, .int (nI v1_2_100081)), (0, .ref g)] 0 0 19 [] := by
          intro m19_100096
          induction m19_100096 with
          | zero =>
            intro v2_19_100096 fg4_19_100096 i19_100096_0 i19_100096_1 i19_100096_2 i19_100096_3 hm19_100096
            exact absurd hm19_100096 (Nat.not_lt_zero _)
          | succ m19_100096 ih19_100096 =>
            intro v2_19_100096 fg4_19_100096 i19_100096_0 i19_100096_1 i19_100096_2 i19_100096_3 hm19_100096
            refine j_iload_n h 0 rfl rfl dX3_drawMasks_19 ?_
            refine j_aload_n h 2 rfl rfl dX3_drawMasks_20 ?_
            refine jm_get h iw_X3 0 rfl rfl 9 (by decide) tw_389 rfl dX3_drawMasks_21 ?_
            refine j_icmp_ge h 60 dX3_drawMasks_24 (by decide) (fun z1000212 => ?_) (fun z1000212 => ?_)
            · have z1000212n : gtm ≤ v2_19_100096 := (nI_leI (a := gtm) (b := v2_19_100096) (by omega) (by omega)).mp z1000212
              refine j_iinc (v := nI (v1_2_100081 + 1)) (lv' := [(1, .int (nI (v1_2_100081 + 1))), (2, .int (nI v2_19_100096)), (0, .ref g)]) h dX3_drawMasks_60 1 rfl (nI_add v1_2_100081 1) (by decide) rfl ?_
              refine j_goto h 2 dX3_drawMasks_63 (by decide) ?_
              refine jm_sub [0, 1, 2, 3, 4, 5, 6, 7] (w' := [(g, .inl (.inr (3, [.ref g0, .ref g1, .ref g2, .ref g3, .ref g4, .ref g5, .ref g6, .ref g7, .int (nI gn), .int (nI gtm), .int (nI gms)]))), (g0, .inl (.inl (kA 1, M, .inl gtk))), (g1, .inr (kA 6, kA 1, M, 2, .inl gaf)), (g2, .inr (kA 6, kA 1, M, 60, .inl gco)), (g3, .inr (kA 7, kA 2, 8, 61, .inr gwy)), (g4, .inl (.inl (kA 2, M, .inr (.inl fg4_19_100096)))), (g5, .inl (.inl (kA 2, 2, .inr (.inl gal)))), (g6, .inl (.inl (kA 2, 2, .inr (.inl gre))))]) rfl (by decide) [0, 2] (lv' := [(1, .int (nI (v1_2_100081 + 1))), (0, .ref g)]) rfl ?_
              exact ih2_100081 (v1_2_100081 + 1) fg4_19_100096 (show MkR (fun i8 t8 => csf i8 t8 = 0) fg4_19_100096 (v1_2_100081 + 1) gtm from MkR_nx i19_100096_0 i19_100096_1 (by omega)) (show (v1_2_100081 + 1) ≤ gn by first | assumption | omega) (show (v1_2_100081 + 1) ≤ 100000 by first | assumption | omega) (show gn - (v1_2_100081 + 1) < m2_100081 by omega)
            · have z1000212n : ¬ gtm ≤ v2_19_100096 := fun q9 => z1000212 ((nI_leI (a := gtm) (b := v2_19_100096) (by omega) (by omega)).mpr q9)
              refine j_aload_n h 2 rfl rfl dX3_drawMasks_27 ?_
              refine jm_get h iw_X3 0 rfl rfl 4 (by decide) tw_383 rfl dX3_drawMasks_28 ?_
              refine j_iload_n h 1 rfl rfl dX3_drawMasks_31 ?_
              refine j_dup2 h rfl rfl dX3_drawMasks_32 ?_
              refine jm_lald h 5 rfl v1_2_100081 rfl (by omega) (by omega) dX3_drawMasks_33 ?_
              refine j_aload_n h 2 rfl rfl dX3_drawMasks_34 ?_
              refine jm_get h iw_X3 0 rfl rfl 2 (by decide) tw_381 rfl dX3_drawMasks_35 ?_
              refine j_iload_n h 1 rfl rfl dX3_drawMasks_38 ?_
              refine jm_gout h 3 6 rfl rfl v1_2_100081 rfl (by omega) (by omega) dX3_drawMasks_39 ?_
              refine j_iload_n h 0 rfl rfl dX3_drawMasks_40 ?_
              refine jm_gald h 3 rfl v1_2_100081 (by omega) v2_19_100096 rfl (by omega) (by omega) dX3_drawMasks_41 ?_
              obtain ⟨u1000213, u1000214, u1000215⟩ := hgd.2.2 v1_2_100081 v2_19_100096 (by omega) (by omega)
              refine j_top (b := nI (csf v1_2_100081 v2_19_100096)) (u1000213) ?_
              refine j_if_ne h 51 dX3_drawMasks_42 (by decide) (fun z1000216 => ?_) (fun z1000216 => ?_)
              · have z1000216n : ¬ (csf v1_2_100081 v2_19_100096) = 0 := fun q9 => z1000216 ((nI_eq (a := (csf v1_2_100081 v2_19_100096)) (b := 0) (by omega) (by omega)).mpr q9)
                refine j_lconst (v := 0) h (by decide) dX3_drawMasks_51 ?_
                refine j_lor h dX3_drawMasks_52 ?_
                refine jm_last (w' := [(g, .inl (.inr (3, [.ref g0, .ref g1, .ref g2, .ref g3, .ref g4, .ref g5, .ref g6, .ref g7, .int (nI gn), .int (nI gtm), .int (nI gms)]))), (g0, .inl (.inl (kA 1, M, .inl gtk))), (g1, .inr (kA 6, kA 1, M, 2, .inl gaf)), (g2, .inr (kA 6, kA 1, M, 60, .inl gco)), (g3, .inr (kA 7, kA 2, 8, 61, .inr gwy)), (g4, .inl (.inl (kA 2, M, .inr (.inl (vp_updL fg4_19_100096 v1_2_100081 ((fg4_19_100096 v1_2_100081) ||| 0)))))), (g5, .inl (.inl (kA 2, 2, .inr (.inl gal)))), (g6, .inl (.inl (kA 2, 2, .inr (.inl gre))))]) h 5 rfl v1_2_100081 rfl (by omega) (by omega) dX3_drawMasks_53 rfl ?_
                refine j_iinc (v := nI (v2_19_100096 + 1)) (lv' := [(2, .int (nI (v2_19_100096 + 1))), (1, .int (nI v1_2_100081)), (0, .ref g)]) h dX3_drawMasks_54 0 rfl (nI_add v2_19_100096 1) (by decide) rfl ?_
                refine j_goto h 19 dX3_drawMasks_57 (by decide) ?_
                refine jm_sub [0, 1, 2, 3, 4, 5, 6, 7] (w' := [(g, .inl (.inr (3, [.ref g0, .ref g1, .ref g2, .ref g3, .ref g4, .ref g5, .ref g6, .ref g7, .int (nI gn), .int (nI gtm), .int (nI gms)]))), (g0, .inl (.inl (kA 1, M, .inl gtk))), (g1, .inr (kA 6, kA 1, M, 2, .inl gaf)), (g2, .inr (kA 6, kA 1, M, 60, .inl gco)), (g3, .inr (kA 7, kA 2, 8, 61, .inr gwy)), (g4, .inl (.inl (kA 2, M, .inr (.inl (vp_updL fg4_19_100096 v1_2_100081 ((fg4_19_100096 v1_2_100081) ||| 0)))))), (g5, .inl (.inl (kA 2, 2, .inr (.inl gal)))), (g6, .inl (.inl (kA 2, 2, .inr (.inl gre))))]) rfl (by decide) [0, 1, 2] (lv' := [(2, .int (nI (v2_19_100096 + 1))), (1, .int (nI v1_2_100081)), (0, .ref g)]) rfl ?_
                exact ih19_100096 (v2_19_100096 + 1) (vp_updL fg4_19_100096 v1_2_100081 ((fg4_19_100096 v1_2_100081) ||| 0)) (show MkR (fun i8 t8 => csf i8 t8 = 0) (vp_updL fg4_19_100096 v1_2_100081 ((fg4_19_100096 v1_2_100081) ||| 0)) v1_2_100081 gtm from MkR_up i19_100096_0) (show MkP (fun i8 t8 => csf i8 t8 = 0) (vp_updL fg4_19_100096 v1_2_100081 ((fg4_19_100096 v1_2_100081) ||| 0)) v1_2_100081 (v2_19_100096 + 1) from (MkP_n i19_100096_1 (by omega))) (show (v2_19_100096 + 1) ≤ gtm by first | assumption | omega) (show (v2_19_100096 + 1) ≤ 100000 by first | assumption | omega) (show 100001 - (v2_19_100096 + 1) < m19_100096 by omega)
              · have z1000216n : (csf v1_2_100081 v2_19_100096) = 0 := (nI_eq (a := (csf v1_2_100081 v2_19_100096)) (b := 0) (by omega) (by omega)).mp z1000216
                refine j_lconst (v := 1) h (by decide) dX3_drawMasks_45 ?_
                refine j_iload_n h 0 rfl rfl dX3_drawMasks_46 ?_
                refine j_lshl h dX3_drawMasks_47 ?_
                refine j_goto h 52 dX3_drawMasks_48 (by decide) ?_
                refine j_lor h dX3_drawMasks_52 ?_
                refine jm_last (w' := [(g, .inl (.inr (3, [.ref g0, .ref g1, .ref g2, .ref g3, .ref g4, .ref g5, .ref g6, .ref g7, .int (nI gn), .int (nI gtm), .int (nI gms)]))), (g0, .inl (.inl (kA 1, M, .inl gtk))), (g1, .inr (kA 6, kA 1, M, 2, .inl gaf)), (g2, .inr (kA 6, kA 1, M, 60, .inl gco)), (g3, .inr (kA 7, kA 2, 8, 61, .inr gwy)), (g4, .inl (.inl (kA 2, M, .inr (.inl (vp_updL fg4_19_100096 v1_2_100081 ((fg4_19_100096 v1_2_100081) ||| (1 <<< ((nI v2_19_100096).toInt64 &&& 63)))))))), (g5, .inl (.inl (kA 2, 2, .inr (.inl gal)))), (g6, .inl (.inl (kA 2, 2, .inr (.inl gre))))]) h 5 rfl v1_2_100081 rfl (by omega) (by omega) dX3_drawMasks_53 rfl ?_
                refine j_iinc (v := nI (v2_19_100096 + 1)) (lv' := [(2, .int (nI (v2_19_100096 + 1))), (1, .int (nI v1_2_100081)), (0, .ref g)]) h dX3_drawMasks_54 0 rfl (nI_add v2_19_100096 1) (by decide) rfl ?_
                refine j_goto h 19 dX3_drawMasks_57 (by decide) ?_
                refine jm_sub [0, 1, 2, 3, 4, 5, 6, 7] (w' := [(g, .inl (.inr (3, [.ref g0, .ref g1, .ref g2, .ref g3, .ref g4, .ref g5, .ref g6, .ref g7, .int (nI gn), .int (nI gtm), .int (nI gms)]))), (g0, .inl (.inl (kA 1, M, .inl gtk))), (g1, .inr (kA 6, kA 1, M, 2, .inl gaf)), (g2, .inr (kA 6, kA 1, M, 60, .inl gco)), (g3, .inr (kA 7, kA 2, 8, 61, .inr gwy)), (g4, .inl (.inl (kA 2, M, .inr (.inl (vp_updL fg4_19_100096 v1_2_100081 ((fg4_19_100096 v1_2_100081) ||| (1 <<< ((nI v2_19_100096).toInt64 &&& 63)))))))), (g5, .inl (.inl (kA 2, 2, .inr (.inl gal)))), (g6, .inl (.inl (kA 2, 2, .inr (.inl gre))))]) rfl (by decide) [0, 1, 2] (lv' := [(2, .int (nI (v2_19_100096 + 1))), (1, .int (nI v1_2_100081)), (0, .ref g)]) rfl ?_
                exact ih19_100096 (v2_19_100096 + 1) (vp_updL fg4_19_100096 v1_2_100081 ((fg4_19_100096 v1_2_100081) ||| (1 <<< ((nI v2_19_100096).toInt64 &&& 63)))) (show MkR (fun i8 t8 => csf i8 t8 = 0) (vp_updL fg4_19_100096 v1_2_100081 ((fg4_19_100096 v1_2_100081) ||| (1 <<< ((nI v2_19_100096).toInt64 &&& 63)))) v1_2_100081 gtm from MkR_up i19_100096_0) (show MkP (fun i8 t8 => csf i8 t8 = 0) (vp_updL fg4_19_100096 v1_2_100081 ((fg4_19_100096 v1_2_100081) ||| (1 <<< ((nI v2_19_100096).toInt64 &&& 63)))) v1_2_100081 (v2_19_100096 + 1) from (MkP_y i19_100096_1 (by omega) (by omega))) (show (v2_19_100096 + 1) ≤ gtm by first | assumption | omega) (show (v2_19_100096 + 1) ≤ 100000 by first | assumption | omega) (show 100001 - (v2_19_100096 + 1) < m19_100096 by omega)
        refine jm_sub [0, 1, 2, 3, 4, 5, 6, 7] (w' := [(g, .inl (.inr (3, [.ref g0, .ref g1, .ref g2, .ref g3, .ref g4, .ref g5, .ref g6, .ref g7, .int (nI gn), .int (nI gtm), .int (nI gms)]))), (g0, .inl (.inl (kA 1, M, .inl gtk))), (g1, .inr (kA 6, kA 1, M, 2, .inl gaf)), (g2, .inr (kA 6, kA 1, M, 60, .inl gco)), (g3, .inr (kA 7, kA 2, 8, 61, .inr gwy)), (g4, .inl (.inl (kA 2, M, .inr (.inl (vp_updL fg4_2_100081 v1_2_100081 0))))), (g5, .inl (.inl (kA 2, 2, .inr (.inl gal)))), (g6, .inl (.inl (kA 2, 2, .inr (.inl gre))))]) rfl (by decide) [0, 1, 2] (lv' := [(2, .int 0), (1, .int (nI v1_2_100081)), (0, .ref g)]) rfl ?_
        exact lp19_100096 (100001 - 0 + 1) 0 (vp_updL fg4_2_100081 v1_2_100081 0) (show MkR (fun i8 t8 => csf i8 t8 = 0) (vp_updL fg4_2_100081 v1_2_100081 0) v1_2_100081 gtm from MkR_up i2_100081_0) (show MkP (fun i8 t8 => csf i8 t8 = 0) (vp_updL fg4_2_100081 v1_2_100081 0) v1_2_100081 0 from MkP_0) (show 0 ≤ gtm by first | assumption | omega) (show 0 ≤ 100000 by first | assumption | omega) (Nat.lt_succ_self _)
  refine jm_sub [0, 1, 2, 3, 4, 5, 6, 7] (w' := [(g, .inl (.inr (3, [.ref g0, .ref g1, .ref g2, .ref g3, .ref g4, .ref g5, .ref g6, .ref g7, .int (nI gn), .int (nI gtm), .int (nI gms)]))), (g0, .inl (.inl (kA 1, M, .inl gtk))), (g1, .inr (kA 6, kA 1, M, 2, .inl gaf)), (g2, .inr (kA 6, kA 1, M, 60, .inl gco)), (g3, .inr (kA 7, kA 2, 8, 61, .inr gwy)), (g4, .inl (.inl (kA 2, M, .inr (.inl gfi)))), (g5, .inl (.inl (kA 2, 2, .inr (.inl gal)))), (g6, .inl (.inl (kA 2, 2, .inr (.inl gre))))]) rfl (by decide) [0, 1] (lv' := [(1, .int 0), (0, .ref g)]) rfl ?_
  exact lp2_100081 (gn - 0 + 1) 0 gfi (show MkR (fun i8 t8 => csf i8 t8 = 0) gfi 0 gtm from MkR_0) (show 0 ≤ gn by first | assumption | omega) (show 0 ≤ 100000 by first | assumption | omega) (Nat.lt_succ_self _)
set_option maxHeartbeats 4000000 in
set_option maxRecDepth 100000 in
theorem s_X3_reachNextF (lau : Launch) (gg : va_G) (kA : Nat → ClassId) (g : Nat) (g0 : Nat) (g1 : Nat) (g2 : Nat) (g3 : Nat) (g4 : Nat) (g5 : Nat) (g6 : Nat) (g7 : Nat) (gn : Nat) (gtm : Nat) (gms : Nat) (M : Nat) (gtk : Nat → Int32) (gaf : Nat → Nat → Int32) (gco : Nat → Nat → Int32) (gfi : Nat → Int64) (gre : Nat → Int64) (grn : Nat → Int64) (tkf : Nat → Nat) (aff : Nat → Nat → Nat) (csf : Nat → Nat → Nat) (AA : Nat → Nat → Prop) (hM : M ≤ 10) (hgn : gn ≤ M) (hgtm : gtm ≤ 60) (hgd : GdR gn gtm tkf aff csf gtk gaf gco) (hrA : RdA gre AA) (hft : MkR (fun i8 t8 => csf i8 t8 = 0) gfi gn gtm) : CtV lau yX3_reachNext cX3_reachNext 4 (none) 1 0 0 gg kA [.ref g] (mflat [(g, .inl (.inr (3, [.ref g0, .ref g1, .ref g2, .ref g3, .ref g4, .ref g5, .ref g6, .ref g7, .int (nI gn), .int (nI gtm), .int (nI gms)]))), (g0, .inl (.inl (kA 1, M, .inl gtk))), (g1, .inr (kA 6, kA 1, M, 2, .inl gaf)), (g2, .inr (kA 6, kA 1, M, 60, .inl gco)), (g4, .inl (.inl (kA 2, M, .inr (.inl gfi)))), (g6, .inl (.inl (kA 2, 2, .inr (.inl gre)))), (g7, .inl (.inl (kA 2, 2, .inr (.inl grn))))]) (S := (Nat → Int64) × (Nat → Int64)) (fun ((y_g6, y_g7) : (Nat → Int64) × (Nat → Int64)) => RdA y_g6 (nxP gn gtm tkf aff (fun i8 t8 => csf i8 t8 = 0) AA)) (fun ((y_g6, y_g7) : (Nat → Int64) × (Nat → Int64)) => mflat [(g, .inl (.inr (3, [.ref g0, .ref g1, .ref g2, .ref g3, .ref g4, .ref g5, .ref g6, .ref g7, .int (nI gn), .int (nI gtm), .int (nI gms)]))), (g0, .inl (.inl (kA 1, M, .inl gtk))), (g1, .inr (kA 6, kA 1, M, 2, .inl gaf)), (g2, .inr (kA 6, kA 1, M, 60, .inl gco)), (g4, .inl (.inl (kA 2, M, .inr (.inl gfi)))), (g6, .inl (.inl (kA 2, 2, .inr (.inl y_g6)))), (g7, .inl (.inl (kA 2, 2, .inr (.inl y_g7))))]) := by
  refine nx_startV (by decide +kernel) (Nat.le_of_ble_eq_true rfl) ?_
  intro x hnm h hq
  have h : Ok x cX3_reachNext RX3 kA (rmC 1 0 0) 4 := h
  show J x (mflat [(g, .inl (.inr (3, [.ref g0, .ref g1, .ref g2, .ref g3, .ref g4, .ref g5, .ref g6, .ref g7, .int (nI gn), .int (nI gtm), .int (nI gms)]))), (g0, .inl (.inl (kA 1, M, .inl gtk))), (g1, .inr (kA 6, kA 1, M, 2, .inl gaf)), (g2, .inr (kA 6, kA 1, M, 60, .inl gco)), (g4, .inl (.inl (kA 2, M, .inr (.inl gfi)))), (g6, .inl (.inl (kA 2, 2, .inr (.inl gre)))), (g7, .inl (.inl (kA 2, 2, .inr (.inl grn))))]) [(0, .ref g)] 0 0 0 []
  refine j_aload_n h 0 rfl rfl dX3_reachNext_0 ?_
  refine jm_get h iw_X3 0 rfl rfl 7 (by decide) tw_386 rfl dX3_reachNext_1 ?_
  refine j_iconst (v := 0) h (by decide) dX3_reachNext_4 ?_
  refine j_lconst (v := 0) h (by decide) dX3_reachNext_5 ?_
  refine jm_last (w' := [(g, .inl (.inr (3, [.ref g0, .ref g1, .ref g2, .ref g3, .ref g4, .ref g5, .ref g6, .ref g7, .int (nI gn), .int (nI gtm), .int (nI gms)]))), (g0, .inl (.inl (kA 1, M, .inl gtk))), (g1, .inr (kA 6, kA 1, M, 2, .inl gaf)), (g2, .inr (kA 6, kA 1, M, 60, .inl gco)), (g4, .inl (.inl (kA 2, M, .inr (.inl gfi)))), (g6, .inl (.inl (kA 2, 2, .inr (.inl gre)))), (g7, .inl (.inl (kA 2, 2, .inr (.inl (vp_updL grn 0 0)))))]) h 6 rfl 0 (by decide) (by decide) (by omega) dX3_reachNext_6 rfl ?_
  refine j_aload_n h 0 rfl rfl dX3_reachNext_7 ?_
  refine jm_get h iw_X3 0 rfl rfl 7 (by decide) tw_386 rfl dX3_reachNext_8 ?_
  refine j_iconst (v := 1) h (by decide) dX3_reachNext_11 ?_
  refine j_lconst (v := 0) h (by decide) dX3_reachNext_12 ?_
  refine jm_last (w' := [(g, .inl (.inr (3, [.ref g0, .ref g1, .ref g2, .ref g3, .ref g4, .ref g5, .ref g6, .ref g7, .int (nI gn), .int (nI gtm), .int (nI gms)]))), (g0, .inl (.inl (kA 1, M, .inl gtk))), (g1, .inr (kA 6, kA 1, M, 2, .inl gaf)), (g2, .inr (kA 6, kA 1, M, 60, .inl gco)), (g4, .inl (.inl (kA 2, M, .inr (.inl gfi)))), (g6, .inl (.inl (kA 2, 2, .inr (.inl gre)))), (g7, .inl (.inl (kA 2, 2, .inr (.inl (vp_updL (vp_updL grn 0 0) 1 0)))))]) h 6 rfl 1 (by decide) (by decide) (by omega) dX3_reachNext_13 rfl ?_
  refine j_iconst (v := 0) h (by decide) dX3_reachNext_14 ?_
  refine j_istore_n (lv' := [(1, .int 0), (0, .ref g)]) h dX3_reachNext_15 rfl (by decide) rfl ?_
  have lp16_100117 : ∀ (m16_100117 : Nat), ∀ (v1_16_100117 : Nat) (fg7_16_100117 : Nat → Int64), (NxR gtm tkf aff (fun i8 t8 => csf i8 t8 = 0) AA (2 * v1_16_100117) fg7_16_100117) → (v1_16_100117 ≤ gn) → (v1_16_100117 ≤ 100000) → gn - v1_16_100117 < m16_100117 → J x (mflat [(g, .inl (.inr (3, [.ref g0, .ref g1, .ref g2, .ref g3, .ref g4, .ref g5, .ref g6, .ref g7, .int (nI gn), .int (nI gtm), .int (nI gms)]))), (g0, .inl (.inl (kA 1, M, .inl gtk))), (g1, .inr (kA 6, kA 1, M, 2, .inl gaf)), (g2, .inr (kA 6, kA 1, M, 60, .inl gco)), (g4, .inl (.inl (kA 2, M, .inr (.inl gfi)))), (g6, .inl (.inl (kA 2, 2, .inr (.inl gre)))), (g7, .inl (.inl (kA 2, 2, .inr (.inl fg7_16_100117))))]) [(1, .int (nI v1_16_100117)), (0, .ref g)] 0 0 16 [] := by
    intro m16_100117
    induction m16_100117 with
    | zero =>
      intro v1_16_100117 fg7_16_100117 i16_100117_0 i16_100117_1 i16_100117_2 hm16_100117
      exact absurd hm16_100117 (Nat.not_lt_zero _)
    | succ m16_100117 ih16_100117 =>
      intro v1_16_100117 fg7_16_100117 i16_100117_0 i16_100117_1 i16_100117_2 hm16_100117
      refine j_iload_n h 0 rfl rfl dX3_reachNext_16 ?_
      refine j_aload_n h 1 rfl rfl dX3_reachNext_17 ?_
      refine jm_get h iw_X3 0 rfl rfl 8 (by decide) tw_387 rfl dX3_reachNext_18 ?_
      refine j_icmp_ge h 86 dX3_reachNext_21 (by decide) (fun z1000352 => ?_) (fun z1000352 => ?_)
      · have z1000352n : gn ≤ v1_16_100117 := (nI_leI (a := gn) (b := v1_16_100117) (by omega) (by omega)).mp z1000352
        refine j_aload_n h 1 rfl rfl dX3_reachNext_86 ?_
        refine jm_get h iw_X3 0 rfl rfl 6 (by decide) tw_385 rfl dX3_reachNext_87 ?_
        refine j_iconst (v := 0) h (by decide) dX3_reachNext_90 ?_
        refine j_aload_n h 1 rfl rfl dX3_reachNext_91 ?_
        refine jm_get h iw_X3 0 rfl rfl 7 (by decide) tw_386 rfl dX3_reachNext_92 ?_
        refine j_iconst (v := 0) h (by decide) dX3_reachNext_95 ?_
        refine jm_lald h 6 rfl 0 (by decide) (by decide) (by omega) dX3_reachNext_96 ?_
        refine jm_last (w' := [(g, .inl (.inr (3, [.ref g0, .ref g1, .ref g2, .ref g3, .ref g4, .ref g5, .ref g6, .ref g7, .int (nI gn), .int (nI gtm), .int (nI gms)]))), (g0, .inl (.inl (kA 1, M, .inl gtk))), (g1, .inr (kA 6, kA 1, M, 2, .inl gaf)), (g2, .inr (kA 6, kA 1, M, 60, .inl gco)), (g4, .inl (.inl (kA 2, M, .inr (.inl gfi)))), (g6, .inl (.inl (kA 2, 2, .inr (.inl (vp_updL gre 0 (fg7_16_100117 0)))))), (g7, .inl (.inl (kA 2, 2, .inr (.inl fg7_16_100117))))]) h 5 rfl 0 (by decide) (by decide) (by omega) dX3_reachNext_97 rfl ?_
        refine j_aload_n h 1 rfl rfl dX3_reachNext_98 ?_
        refine jm_get h iw_X3 0 rfl rfl 6 (by decide) tw_385 rfl dX3_reachNext_99 ?_
        refine j_iconst (v := 1) h (by decide) dX3_reachNext_102 ?_
        refine j_aload_n h 1 rfl rfl dX3_reachNext_103 ?_
        refine jm_get h iw_X3 0 rfl rfl 7 (by decide) tw_386 rfl dX3_reachNext_104 ?_
        refine j_iconst (v := 1) h (by decide) dX3_reachNext_107 ?_
        refine jm_lald h 6 rfl 1 (by decide) (by decide) (by omega) dX3_reachNext_108 ?_
        refine jm_last (w' := [(g, .inl (.inr (3, [.ref g0, .ref g1, .ref g2, .ref g3, .ref g4, .ref g5, .ref g6, .ref g7, .int (nI gn), .int (nI gtm), .int (nI gms)]))), (g0, .inl (.inl (kA 1, M, .inl gtk))), (g1, .inr (kA 6, kA 1, M, 2, .inl gaf)), (g2, .inr (kA 6, kA 1, M, 60, .inl gco)), (g4, .inl (.inl (kA 2, M, .inr (.inl gfi)))), (g6, .inl (.inl (kA 2, 2, .inr (.inl (vp_updL (vp_updL gre 0 (fg7_16_100117 0)) 1 (fg7_16_100117 1)))))), (g7, .inl (.inl (kA 2, 2, .inr (.inl fg7_16_100117))))]) h 5 rfl 1 (by decide) (by decide) (by omega) dX3_reachNext_109 rfl ?_
        exact jm_vret h hq dX3_reachNext_110 ((vp_updL (vp_updL gre 0 (fg7_16_100117 0)) 1 (fg7_16_100117 1)), fg7_16_100117) [0, 1, 2, 3, 4, 5, 6] rfl (by decide) (show RdA (vp_updL (vp_updL gre 0 (fg7_16_100117 0)) 1 (fg7_16_100117 1)) (nxP gn gtm tkf aff (fun i8 t8 => csf i8 t8 = 0) AA) from NxR_e i16_100117_0 (by omega)) (Nat.le_of_ble_eq_true rfl) (Nat.le_of_ble_eq_true rfl)
      · have z1000352n : ¬ gn ≤ v1_16_100117 := fun q9 => z1000352 ((nI_leI (a := gn) (b := v1_16_100117) (by omega) (by omega)).mpr q9)
        refine j_iconst (v := 0) h (by decide) dX3_reachNext_24 ?_
        refine j_istore_n (lv' := [(2, .int 0), (1, .int (nI v1_16_100117)), (0, .ref g)]) h dX3_reachNext_25 rfl (by decide) rfl ?_
        have lp26_100120 : ∀ (m26_100120 : Nat), ∀ (v2_26_100120 : Nat) (fg7_26_100120 : Nat → Int64), (NxR gtm tkf aff (fun i8 t8 => csf i8 t8 = 0) AA (2 * v1_16_100117 + v2_26_100120) fg7_26_100120) → (v2_26_100120 ≤ 2) → (v2_26_100120 ≤ 100000) → 2 - v2_26_100120 < m26_100120 → J x (mflat [(g, .inl (.inr (3, [.ref g0, .ref g1, .ref g2, .ref g3, .ref g4, .ref g5, .ref g6, .ref g7, .int (nI gn), .int (nI gtm), .int (nI gms)]))), (g0, .inl (.inl (kA 1, M, .inl gtk))), (g1, .inr (kA 6, kA 1, M, 2, .inl gaf)), (g2, .inr (kA 6, kA 1, M, 60, .inl gco)), (g4, .inl (.inl (kA 2, M, .inr (.inl gfi)))), (g6, .inl (.inl (kA 2, 2, .inr (.inl gre)))), (g7, .inl (.inl (kA 2, 2, .inr (.inl fg7_26_100120))))]) [(2, .int (nI v2_26_100120)), (1, .int (nI v1_16_100117)), (0, .ref g)] 0 0 26 [] := by
          intro m26_100120
          induction m26_100120 with
          | zero =>
            intro v2_26_100120 fg7_26_100120 i26_100120_0 i26_100120_1 i26_100120_2 hm26_100120
            exact absurd hm26_100120 (Nat.not_lt_zero _)
          | succ m26_100120 ih26_100120 =>
            intro v2_26_100120 fg7_26_100120 i26_100120_0 i26_100120_1 i26_100120_2 hm26_100120
            refine j_iload_n h 0 rfl rfl dX3_reachNext_26 ?_
            refine j_iconst (v := 1) h (by decide) dX3_reachNext_27 ?_
            refine j_icmp_gt h 80 dX3_reachNext_28 (by decide) (fun z1000370 => ?_) (fun z1000370 => ?_)
            · have z1000370n : 1 < v2_26_100120 := (nI_ltI (a := 1) (b := v2_26_100120) (by omega) (by omega)).mp z1000370
              refine j_iinc (v := nI (v1_16_100117 + 1)) (lv' := [(1, .int (nI (v1_16_100117 + 1))), (2, .int (nI v2_26_100120)), (0, .ref g)]) h dX3_reachNext_80 1 rfl (nI_add v1_16_100117 1) (by decide) rfl ?_
              refine j_goto h 16 dX3_reachNext_83 (by decide) ?_
              refine jm_sub [0, 1, 2, 3, 4, 5, 6] (w' := [(g, .inl (.inr (3, [.ref g0, .ref g1, .ref g2, .ref g3, .ref g4, .ref g5, .ref g6, .ref g7, .int (nI gn), .int (nI gtm), .int (nI gms)]))), (g0, .inl (.inl (kA 1, M, .inl gtk))), (g1, .inr (kA 6, kA 1, M, 2, .inl gaf)), (g2, .inr (kA 6, kA 1, M, 60, .inl gco)), (g4, .inl (.inl (kA 2, M, .inr (.inl gfi)))), (g6, .inl (.inl (kA 2, 2, .inr (.inl gre)))), (g7, .inl (.inl (kA 2, 2, .inr (.inl fg7_26_100120))))]) rfl (by decide) [0, 2] (lv' := [(1, .int (nI (v1_16_100117 + 1))), (0, .ref g)]) rfl ?_
              exact ih16_100117 (v1_16_100117 + 1) fg7_26_100120 (show NxR gtm tkf aff (fun i8 t8 => csf i8 t8 = 0) AA (2 * (v1_16_100117 + 1)) fg7_26_100120 from NxR_l i26_100120_0 (by omega)) (show (v1_16_100117 + 1) ≤ gn by first | assumption | omega) (show (v1_16_100117 + 1) ≤ 100000 by first | assumption | omega) (show gn - (v1_16_100117 + 1) < m16_100117 by omega)
            · have z1000370n : ¬ 1 < v2_26_100120 := fun q9 => z1000370 ((nI_ltI (a := 1) (b := v2_26_100120) (by omega) (by omega)).mpr q9)
              refine j_aload_n h 2 rfl rfl dX3_reachNext_31 ?_
              refine jm_get h iw_X3 0 rfl rfl 1 (by decide) tw_379 rfl dX3_reachNext_32 ?_
              refine j_iload_n h 1 rfl rfl dX3_reachNext_35 ?_
              refine jm_gout h 2 6 rfl rfl v1_16_100117 rfl (by omega) (by omega) dX3_reachNext_36 ?_
              refine j_iload_n h 0 rfl rfl dX3_reachNext_37 ?_
              refine jm_gald h 2 rfl v1_16_100117 (by omega) v2_26_100120 rfl (by omega) (by omega) dX3_reachNext_38 ?_
              obtain ⟨u1000373, u1000374⟩ := hgd.2.1 v1_16_100117 v2_26_100120 (by omega) (by omega)
              obtain ⟨t1000371, u1000372⟩ : ∃ a9, a9 = aff v1_16_100117 v2_26_100120 := ⟨_, rfl⟩
              rw [← u1000372] at u1000373 u1000374
              refine j_top (b := pm t1000371) (u1000373) ?_
              refine j_istore_n (lv' := [(3, .int (pm t1000371)), (2, .int (nI v2_26_100120)), (1, .int (nI v1_16_100117)), (0, .ref g)]) h dX3_reachNext_39 rfl (by decide) rfl ?_
              refine j_iload_n h 0 rfl rfl dX3_reachNext_40 ?_
              refine j_iconst (v := (-1)) h (by decide) dX3_reachNext_41 ?_
              rcases t1000371 with _ | j1000375
              · show J x (mflat [(g, .inl (.inr (3, [.ref g0, .ref g1, .ref g2, .ref g3, .ref g4, .ref g5, .ref g6, .ref g7, .int (nI gn), .int (nI gtm), .int (nI gms)]))), (g0, .inl (.inl (kA 1, M, .inl gtk))), (g1, .inr (kA 6, kA 1, M, 2, .inl gaf)), (g2, .inr (kA 6, kA 1, M, 60, .inl gco)), (g4, .inl (.inl (kA 2, M, .inr (.inl gfi)))), (g6, .inl (.inl (kA 2, 2, .inr (.inl gre)))), (g7, .inl (.inl (kA 2, 2, .inr (.inl fg7_26_100120))))]) [(3, .int (-1)), (2, .int (nI v2_26_100120)), (1, .int (nI v1_16_100117)), (0, .ref g)] 0 0 42 [.int (-1), .int (-1)]
                refine j_icmp_eq h 74 dX3_reachNext_42 (by decide) (fun _ => ?_) (fun q => absurd (by decide) q)
                refine j_iinc (v := nI (v2_26_100120 + 1)) (lv' := [(2, .int (nI (v2_26_100120 + 1))), (3, .int (-1)), (1, .int (nI v1_16_100117)), (0, .ref g)]) h dX3_reachNext_74 1 rfl (nI_add v2_26_100120 1) (by decide) rfl ?_
                refine j_goto h 26 dX3_reachNext_77 (by decide) ?_
                refine jm_sub [0, 1, 2, 3, 4, 5, 6] (w' := [(g, .inl (.inr (3, [.ref g0, .ref g1, .ref g2, .ref g3, .ref g4, .ref g5, .ref g6, .ref g7, .int (nI gn), .int (nI gtm), .int (nI gms)]))), (g0, .inl (.inl (kA 1, M, .inl gtk))), (g1, .inr (kA 6, kA 1, M, 2, .inl gaf)), (g2, .inr (kA 6, kA 1, M, 60, .inl gco)), (g4, .inl (.inl (kA 2, M, .inr (.inl gfi)))), (g6, .inl (.inl (kA 2, 2, .inr (.inl gre)))), (g7, .inl (.inl (kA 2, 2, .inr (.inl fg7_26_100120))))]) rfl (by decide) [0, 2, 3] (lv' := [(2, .int (nI (v2_26_100120 + 1))), (1, .int (nI v1_16_100117)), (0, .ref g)]) rfl ?_
                exact ih26_100120 (v2_26_100120 + 1) fg7_26_100120 (show NxR gtm tkf aff (fun i8 t8 => csf i8 t8 = 0) AA (2 * v1_16_100117 + (v2_26_100120 + 1)) fg7_26_100120 from NxR_n i26_100120_0 (by omega) u1000372) (show (v2_26_100120 + 1) ≤ 2 by first | assumption | omega) (show (v2_26_100120 + 1) ≤ 100000 by first | assumption | omega) (show 2 - (v2_26_100120 + 1) < m26_100120 by omega)
              · show J x (mflat [(g, .inl (.inr (3, [.ref g0, .ref g1, .ref g2, .ref g3, .ref g4, .ref g5, .ref g6, .ref g7, .int (nI gn), .int (nI gtm), .int (nI gms)]))), (g0, .inl (.inl (kA 1, M, .inl gtk))), (g1, .inr (kA 6, kA 1, M, 2, .inl gaf)), (g2, .inr (kA 6, kA 1, M, 60, .inl gco)), (g4, .inl (.inl (kA 2, M, .inr (.inl gfi)))), (g6, .inl (.inl (kA 2, 2, .inr (.inl gre)))), (g7, .inl (.inl (kA 2, 2, .inr (.inl fg7_26_100120))))]) [(3, .int (nI j1000375)), (2, .int (nI v2_26_100120)), (1, .int (nI v1_16_100117)), (0, .ref g)] 0 0 42 [.int (-1), .int (nI j1000375)]
                refine j_icmp_eq h 74 dX3_reachNext_42 (by decide) (fun q => absurd q (nI_m1 (by omega))) (fun _ => ?_)
                refine j_aload_n h 3 rfl rfl dX3_reachNext_45 ?_
                refine jm_get h iw_X3 0 rfl rfl 7 (by decide) tw_386 rfl dX3_reachNext_46 ?_
                refine j_iload_n h 0 rfl rfl dX3_reachNext_49 ?_
                refine j_dup2 h rfl rfl dX3_reachNext_50 ?_
                refine jm_lald h 6 rfl j1000375 rfl (by omega) (by omega) dX3_reachNext_51 ?_
                refine j_aload_n h 3 rfl rfl dX3_reachNext_52 ?_
                refine jm_get h iw_X3 0 rfl rfl 6 (by decide) tw_385 rfl dX3_reachNext_53 ?_
                refine j_iload_n h 1 rfl rfl dX3_reachNext_56 ?_
                refine jm_lald h 5 rfl v2_26_100120 rfl (by omega) (by omega) dX3_reachNext_57 ?_
                refine j_aload_n h 3 rfl rfl dX3_reachNext_58 ?_
                refine jm_get h iw_X3 0 rfl rfl 4 (by decide) tw_383 rfl dX3_reachNext_59 ?_
                refine j_iload_n h 2 rfl rfl dX3_reachNext_62 ?_
                refine jm_lald h 4 rfl v1_16_100117 rfl (by omega) (by omega) dX3_reachNext_63 ?_
                refine j_land h dX3_reachNext_64 ?_
                refine j_aload_n h 3 rfl rfl dX3_reachNext_65 ?_
                refine jm_get h iw_X3 0 rfl rfl 0 (by decide) tw_377 rfl dX3_reachNext_66 ?_
                refine j_iload_n h 2 rfl rfl dX3_reachNext_69 ?_
                refine jm_iald h 1 rfl v1_16_100117 rfl (by omega) (by omega) dX3_reachNext_70 ?_
                obtain ⟨u1000376, u1000377, u1000378⟩ := hgd.1 v1_16_100117 (by omega)
                refine j_top (b := nI (tkf v1_16_100117)) (u1000376) ?_
                refine j_lshl h dX3_reachNext_71 ?_
                refine j_lor h dX3_reachNext_72 ?_
                refine jm_last (w' := [(g, .inl (.inr (3, [.ref g0, .ref g1, .ref g2, .ref g3, .ref g4, .ref g5, .ref g6, .ref g7, .int (nI gn), .int (nI gtm), .int (nI gms)]))), (g0, .inl (.inl (kA 1, M, .inl gtk))), (g1, .inr (kA 6, kA 1, M, 2, .inl gaf)), (g2, .inr (kA 6, kA 1, M, 60, .inl gco)), (g4, .inl (.inl (kA 2, M, .inr (.inl gfi)))), (g6, .inl (.inl (kA 2, 2, .inr (.inl gre)))), (g7, .inl (.inl (kA 2, 2, .inr (.inl (vp_updL fg7_26_100120 j1000375 ((fg7_26_100120 j1000375) ||| (((gre v2_26_100120) &&& (gfi v1_16_100117)) <<< ((nI (tkf v1_16_100117)).toInt64 &&& 63))))))))]) h 6 rfl j1000375 rfl (by omega) (by omega) dX3_reachNext_73 rfl ?_
                refine j_iinc (v := nI (v2_26_100120 + 1)) (lv' := [(2, .int (nI (v2_26_100120 + 1))), (3, .int (nI j1000375)), (1, .int (nI v1_16_100117)), (0, .ref g)]) h dX3_reachNext_74 1 rfl (nI_add v2_26_100120 1) (by decide) rfl ?_
                refine j_goto h 26 dX3_reachNext_77 (by decide) ?_
                refine jm_sub [0, 1, 2, 3, 4, 5, 6] (w' := [(g, .inl (.inr (3, [.ref g0, .ref g1, .ref g2, .ref g3, .ref g4, .ref g5, .ref g6, .ref g7, .int (nI gn), .int (nI gtm), .int (nI gms)]))), (g0, .inl (.inl (kA 1, M, .inl gtk))), (g1, .inr (kA 6, kA 1, M, 2, .inl gaf)), (g2, .inr (kA 6, kA 1, M, 60, .inl gco)), (g4, .inl (.inl (kA 2, M, .inr (.inl gfi)))), (g6, .inl (.inl (kA 2, 2, .inr (.inl gre)))), (g7, .inl (.inl (kA 2, 2, .inr (.inl (vp_updL fg7_26_100120 j1000375 ((fg7_26_100120 j1000375) ||| (((gre v2_26_100120) &&& (gfi v1_16_100117)) <<< ((nI (tkf v1_16_100117)).toInt64 &&& 63))))))))]) rfl (by decide) [0, 2, 3] (lv' := [(2, .int (nI (v2_26_100120 + 1))), (1, .int (nI v1_16_100117)), (0, .ref g)]) rfl ?_
                exact ih26_100120 (v2_26_100120 + 1) (vp_updL fg7_26_100120 j1000375 ((fg7_26_100120 j1000375) ||| (((gre v2_26_100120) &&& (gfi v1_16_100117)) <<< ((nI (tkf v1_16_100117)).toInt64 &&& 63)))) (show NxR gtm tkf aff (fun i8 t8 => csf i8 t8 = 0) AA (2 * v1_16_100117 + (v2_26_100120 + 1)) (vp_updL fg7_26_100120 j1000375 ((fg7_26_100120 j1000375) ||| (((gre v2_26_100120) &&& (gfi v1_16_100117)) <<< ((nI (tkf v1_16_100117)).toInt64 &&& 63)))) from NxR_y i26_100120_0 (by omega) u1000372 (by omega) hrA hft (by omega) (by omega) (fun t8 h9 h8 => (by have z9 := (hgd.2.2 v1_16_100117 t8 (by omega) h9).2.2 (by have y9 : csf v1_16_100117 t8 = 0 := h8; omega); omega))) (show (v2_26_100120 + 1) ≤ 2 by first | assumption | omega) (show (v2_26_100120 + 1) ≤ 100000 by first | assumption | omega) (show 2 - (v2_26_100120 + 1) < m26_100120 by omega)
        refine jm_sub [0, 1, 2, 3, 4, 5, 6] (w' := [(g, .inl (.inr (3, [.ref g0, .ref g1, .ref g2, .ref g3, .ref g4, .ref g5, .ref g6, .ref g7, .int (nI gn), .int (nI gtm), .int (nI gms)]))), (g0, .inl (.inl (kA 1, M, .inl gtk))), (g1, .inr (kA 6, kA 1, M, 2, .inl gaf)), (g2, .inr (kA 6, kA 1, M, 60, .inl gco)), (g4, .inl (.inl (kA 2, M, .inr (.inl gfi)))), (g6, .inl (.inl (kA 2, 2, .inr (.inl gre)))), (g7, .inl (.inl (kA 2, 2, .inr (.inl fg7_16_100117))))]) rfl (by decide) [0, 1, 2] (lv' := [(2, .int 0), (1, .int (nI v1_16_100117)), (0, .ref g)]) rfl ?_
        exact lp26_100120 (2 - 0 + 1) 0 fg7_16_100117 (show NxR gtm tkf aff (fun i8 t8 => csf i8 t8 = 0) AA (2 * v1_16_100117 + 0) fg7_16_100117 from i16_100117_0) (show 0 ≤ 2 by first | assumption | omega) (show 0 ≤ 100000 by first | assumption | omega) (Nat.lt_succ_self _)
  refine jm_sub [0, 1, 2, 3, 4, 5, 6] (w' := [(g, .inl (.inr (3, [.ref g0, .ref g1, .ref g2, .ref g3, .ref g4, .ref g5, .ref g6, .ref g7, .int (nI gn), .int (nI gtm), .int (nI gms)]))), (g0, .inl (.inl (kA 1, M, .inl gtk))), (g1, .inr (kA 6, kA 1, M, 2, .inl gaf)), (g2, .inr (kA 6, kA 1, M, 60, .inl gco)), (g4, .inl (.inl (kA 2, M, .inr (.inl gfi)))), (g6, .inl (.inl (kA 2, 2, .inr (.inl gre)))), (g7, .inl (.inl (kA 2, 2, .inr (.inl (vp_updL (vp_updL grn 0 0) 1 0)))))]) rfl (by decide) [0, 1] (lv' := [(1, .int 0), (0, .ref g)]) rfl ?_
  exact lp16_100117 (gn - 0 + 1) 0 (vp_updL (vp_updL grn 0 0) 1 0) (show NxR gtm tkf aff (fun i8 t8 => csf i8 t8 = 0) AA (2 * 0) (vp_updL (vp_updL grn 0 0) 1 0) from NxR_0 (by rw [pk_uLn (by decide), pk_uLs]) pk_uLs) (show 0 ≤ gn by first | assumption | omega) (show 0 ≤ 100000 by first | assumption | omega) (Nat.lt_succ_self _)
set_option maxHeartbeats 4000000 in
set_option maxRecDepth 100000 in
theorem s_X3_isGoneOnFromF (lau : Launch) (gg : va_G) (kA : Nat → ClassId) (g : Nat) (k : Nat) (f : Nat) (g0 : Nat) (g1 : Nat) (g2 : Nat) (g3 : Nat) (g4 : Nat) (g5 : Nat) (g6 : Nat) (g7 : Nat) (gn : Nat) (gtm : Nat) (gms : Nat) (M : Nat) (gtk : Nat → Int32) (gaf : Nat → Nat → Int32) (gco : Nat → Nat → Int32) (gwy : Nat → Nat → Int64) (gfi : Nat → Int64) (gal : Nat → Int64) (gre : Nat → Int64) (tkf : Nat → Nat) (aff : Nat → Nat → Nat) (csf : Nat → Nat → Nat) (AA : Nat → Nat → Prop) (hM : M ≤ 10) (hgn : gn ≤ M) (hgtm : gtm ≤ 60) (hgd : GdR gn gtm tkf aff csf gtk gaf gco) (hk : k < gn) (hf : f ≤ 1) (hrA : RdA gre AA) (hft : MkR (fun i8 t8 => csf i8 t8 = 0) gfi gn gtm) (hal : MkR (fun f8 t8 => 0 < (gwy f8 t8).toInt) gal 2 (gtm + 1)) : CtI lau yX3_isGoneOnFrom cX3_isGoneOnFrom 4 (some .boolean) 1 0 0 gg kA [.ref g, .int (nI k), .int (nI f)] (mflat [(g, .inl (.inr (3, [.ref g0, .ref g1, .ref g2, .ref g3, .ref g4, .ref g5, .ref g6, .ref g7, .int (nI gn), .int (nI gtm), .int (nI gms)]))), (g0, .inl (.inl (kA 1, M, .inl gtk))), (g1, .inr (kA 6, kA 1, M, 2, .inl gaf)), (g2, .inr (kA 6, kA 1, M, 60, .inl gco)), (g3, .inr (kA 7, kA 2, 8, 61, .inr gwy)), (g4, .inl (.inl (kA 2, M, .inr (.inl gfi)))), (g5, .inl (.inl (kA 2, 2, .inr (.inl gal)))), (g6, .inl (.inl (kA 2, 2, .inr (.inl gre))))]) (S := Nat) (fun (r : Int32) (y_r : Nat) => r = nI y_r ∧ (y_r ≤ 1) ∧ ((y_r = 1 → goP gtm tkf aff (fun i8 t8 => csf i8 t8 = 0) (fun f8 t8 => 0 < (gwy f8 t8).toInt) AA k f) ∧ (y_r = 0 → ¬ goP gtm tkf aff (fun i8 t8 => csf i8 t8 = 0) (fun f8 t8 => 0 < (gwy f8 t8).toInt) AA k f))) (fun (y_r : Nat) => mflat [(g, .inl (.inr (3, [.ref g0, .ref g1, .ref g2, .ref g3, .ref g4, .ref g5, .ref g6, .ref g7, .int (nI gn), .int (nI gtm), .int (nI gms)]))), (g0, .inl (.inl (kA 1, M, .inl gtk))), (g1, .inr (kA 6, kA 1, M, 2, .inl gaf)), (g2, .inr (kA 6, kA 1, M, 60, .inl gco)), (g3, .inr (kA 7, kA 2, 8, 61, .inr gwy)), (g4, .inl (.inl (kA 2, M, .inr (.inl gfi)))), (g5, .inl (.inl (kA 2, 2, .inr (.inl gal)))), (g6, .inl (.inl (kA 2, 2, .inr (.inl gre))))]) := by
  refine nx_startI (by decide +kernel) (Nat.le_of_ble_eq_true rfl) ?_
  intro x hnm h hq
  have h : Ok x cX3_isGoneOnFrom RX3 kA (rmC 1 0 0) 4 := h
  show J x (mflat [(g, .inl (.inr (3, [.ref g0, .ref g1, .ref g2, .ref g3, .ref g4, .ref g5, .ref g6, .ref g7, .int (nI gn), .int (nI gtm), .int (nI gms)]))), (g0, .inl (.inl (kA 1, M, .inl gtk))), (g1, .inr (kA 6, kA 1, M, 2, .inl gaf)), (g2, .inr (kA 6, kA 1, M, 60, .inl gco)), (g3, .inr (kA 7, kA 2, 8, 61, .inr gwy)), (g4, .inl (.inl (kA 2, M, .inr (.inl gfi)))), (g5, .inl (.inl (kA 2, 2, .inr (.inl gal)))), (g6, .inl (.inl (kA 2, 2, .inr (.inl gre))))]) [(0, .ref g), (1, .int (nI k)), (2, .int (nI f))] 0 0 0 []
  refine j_aload_n h 0 rfl rfl dX3_isGoneOnFrom_0 ?_
  refine jm_get h iw_X3 0 rfl rfl 1 (by decide) tw_379 rfl dX3_isGoneOnFrom_1 ?_
  refine j_iload_n h 1 rfl rfl dX3_isGoneOnFrom_4 ?_
  refine jm_gout h 2 6 rfl rfl k rfl (by omega) (by omega) dX3_isGoneOnFrom_5 ?_
  refine j_iload_n h 2 rfl rfl dX3_isGoneOnFrom_6 ?_
  refine jm_gald h 2 rfl k (by omega) f rfl (by omega) (by omega) dX3_isGoneOnFrom_7 ?_
  obtain ⟨u1000390, u1000391⟩ := hgd.2.1 k f (by omega) (by omega)
  obtain ⟨t1000388, u1000389⟩ : ∃ a9, a9 = aff k f := ⟨_, rfl⟩
  rw [← u1000389] at u1000390 u1000391
  refine j_top (b := pm t1000388) (u1000390) ?_
  refine j_istore_n (lv' := [(3, .int (pm t1000388)), (0, .ref g), (1, .int (nI k)), (2, .int (nI f))]) h dX3_isGoneOnFrom_8 rfl (by decide) rfl ?_
  refine j_iload_n h 0 rfl rfl dX3_isGoneOnFrom_9 ?_
  refine j_iconst (v := (-1)) h (by decide) dX3_isGoneOnFrom_10 ?_
  rcases t1000388 with _ | j1000392
  · show J x (mflat [(g, .inl (.inr (3, [.ref g0, .ref g1, .ref g2, .ref g3, .ref g4, .ref g5, .ref g6, .ref g7, .int (nI gn), .int (nI gtm), .int (nI gms)]))), (g0, .inl (.inl (kA 1, M, .inl gtk))), (g1, .inr (kA 6, kA 1, M, 2, .inl gaf)), (g2, .inr (kA 6, kA 1, M, 60, .inl gco)), (g3, .inr (kA 7, kA 2, 8, 61, .inr gwy)), (g4, .inl (.inl (kA 2, M, .inr (.inl gfi)))), (g5, .inl (.inl (kA 2, 2, .inr (.inl gal)))), (g6, .inl (.inl (kA 2, 2, .inr (.inl gre))))]) [(3, .int (-1)), (0, .ref g), (1, .int (nI k)), (2, .int (nI f))] 0 0 11 [.int (-1), .int (-1)]
    refine j_icmp_ne h 16 dX3_isGoneOnFrom_11 (by decide) (fun q => absurd (by decide) q) (fun _ => ?_)
    refine j_iconst (v := 0) h (by decide) dX3_isGoneOnFrom_14 ?_
    exact jm_zret h hq rfl dX3_isGoneOnFrom_15 0 [0, 1, 2, 3, 4, 5, 6, 7] rfl (by decide) ⟨rfl, (show 0 ≤ 1 by first | assumption | omega), (show (0 = 1 → goP gtm tkf aff (fun i8 t8 => csf i8 t8 = 0) (fun f8 t8 => 0 < (gwy f8 t8).toInt) AA k f) ∧ (0 = 0 → ¬ goP gtm tkf aff (fun i8 t8 => csf i8 t8 = 0) (fun f8 t8 => 0 < (gwy f8 t8).toInt) AA k f) from ⟨fun h9 => absurd h9 (by decide), fun _ => gob_n u1000389⟩)⟩ (Nat.le_of_ble_eq_true rfl) (Nat.le_of_ble_eq_true rfl)
  · show J x (mflat [(g, .inl (.inr (3, [.ref g0, .ref g1, .ref g2, .ref g3, .ref g4, .ref g5, .ref g6, .ref g7, .int (nI gn), .int (nI gtm), .int (nI gms)]))), (g0, .inl (.inl (kA 1, M, .inl gtk))), (g1, .inr (kA 6, kA 1, M, 2, .inl gaf)), (g2, .inr (kA 6, kA 1, M, 60, .inl gco)), (g3, .inr (kA 7, kA 2, 8, 61, .inr gwy)), (g4, .inl (.inl (kA 2, M, .inr (.inl gfi)))), (g5, .inl (.inl (kA 2, 2, .inr (.inl gal)))), (g6, .inl (.inl (kA 2, 2, .inr (.inl gre))))]) [(3, .int (nI j1000392)), (0, .ref g), (1, .int (nI k)), (2, .int (nI f))] 0 0 11 [.int (-1), .int (nI j1000392)]
    refine j_icmp_ne h 16 dX3_isGoneOnFrom_11 (by decide) (fun _ => ?_) (fun q => absurd q (nI_m1 (by omega)))
    refine j_aload_n h 1 rfl rfl dX3_isGoneOnFrom_16 ?_
    refine jm_get h iw_X3 0 rfl rfl 6 (by decide) tw_385 rfl dX3_isGoneOnFrom_17 ?_
    refine j_iload_n h 3 rfl rfl dX3_isGoneOnFrom_20 ?_
    refine jm_lald h 7 rfl f rfl (by omega) (by omega) dX3_isGoneOnFrom_21 ?_
    refine j_aload_n h 1 rfl rfl dX3_isGoneOnFrom_22 ?_
    refine jm_get h iw_X3 0 rfl rfl 4 (by decide) tw_383 rfl dX3_isGoneOnFrom_23 ?_
    refine j_iload_n h 2 rfl rfl dX3_isGoneOnFrom_26 ?_
    refine jm_lald h 5 rfl k rfl (by omega) (by omega) dX3_isGoneOnFrom_27 ?_
    refine j_land h dX3_isGoneOnFrom_28 ?_
    refine j_aload_n h 1 rfl rfl dX3_isGoneOnFrom_29 ?_
    refine jm_get h iw_X3 0 rfl rfl 0 (by decide) tw_377 rfl dX3_isGoneOnFrom_30 ?_
    refine j_iload_n h 2 rfl rfl dX3_isGoneOnFrom_33 ?_
    refine jm_iald h 1 rfl k rfl (by omega) (by omega) dX3_isGoneOnFrom_34 ?_
    obtain ⟨u1000393, u1000394, u1000395⟩ := hgd.1 k (by omega)
    refine j_top (b := nI (tkf k)) (u1000393) ?_
    refine j_lshl h dX3_isGoneOnFrom_35 ?_
    refine j_aload_n h 1 rfl rfl dX3_isGoneOnFrom_36 ?_
    refine jm_get h iw_X3 0 rfl rfl 5 (by decide) tw_384 rfl dX3_isGoneOnFrom_37 ?_
    refine j_iload_n h 0 rfl rfl dX3_isGoneOnFrom_40 ?_
    refine jm_lald h 6 rfl j1000392 rfl (by omega) (by omega) dX3_isGoneOnFrom_41 ?_
    refine j_land h dX3_isGoneOnFrom_42 ?_
    refine j_lconst (v := 0) h (by decide) dX3_isGoneOnFrom_43 ?_
    refine j_lcmp h dX3_isGoneOnFrom_44 ?_
    refine j_if_eq h 52 dX3_isGoneOnFrom_45 (by decide) (fun z1000396 => ?_) (fun z1000396 => ?_)
    · show J x (mflat [(g, .inl (.inr (3, [.ref g0, .ref g1, .ref g2, .ref g3, .ref g4, .ref g5, .ref g6, .ref g7, .int (nI gn), .int (nI gtm), .int (nI gms)]))), (g0, .inl (.inl (kA 1, M, .inl gtk))), (g1, .inr (kA 6, kA 1, M, 2, .inl gaf)), (g2, .inr (kA 6, kA 1, M, 60, .inl gco)), (g3, .inr (kA 7, kA 2, 8, 61, .inr gwy)), (g4, .inl (.inl (kA 2, M, .inr (.inl gfi)))), (g5, .inl (.inl (kA 2, 2, .inr (.inl gal)))), (g6, .inl (.inl (kA 2, 2, .inr (.inl gre))))]) [(3, .int (nI j1000392)), (0, .ref g), (1, .int (nI k)), (2, .int (nI f))] 0 0 52 []
      refine j_iconst (v := 0) h (by decide) dX3_isGoneOnFrom_52 ?_
      exact jm_zret h hq rfl dX3_isGoneOnFrom_53 0 [0, 1, 2, 3, 4, 5, 6, 7] rfl (by decide) ⟨rfl, (show 0 ≤ 1 by first | assumption | omega), (show (0 = 1 → goP gtm tkf aff (fun i8 t8 => csf i8 t8 = 0) (fun f8 t8 => 0 < (gwy f8 t8).toInt) AA k f) ∧ (0 = 0 → ¬ goP gtm tkf aff (fun i8 t8 => csf i8 t8 = 0) (fun f8 t8 => 0 < (gwy f8 t8).toInt) AA k f) from ⟨fun h9 => absurd h9 (by decide), fun _ q9 => (gob_b hrA hft hal hf hk u1000389 (by omega) (by omega) (fun t8 h9 h8 => (hgd.2.2 k t8 (by omega) h9).2.2 (by have y9 : csf k t8 = 0 := h8; omega)) (by omega)).mpr q9 ((lg_cmp_eq _ _).mp z1000396)⟩)⟩ (Nat.le_of_ble_eq_true rfl) (Nat.le_of_ble_eq_true rfl)
    · show J x (mflat [(g, .inl (.inr (3, [.ref g0, .ref g1, .ref g2, .ref g3, .ref g4, .ref g5, .ref g6, .ref g7, .int (nI gn), .int (nI gtm), .int (nI gms)]))), (g0, .inl (.inl (kA 1, M, .inl gtk))), (g1, .inr (kA 6, kA 1, M, 2, .inl gaf)), (g2, .inr (kA 6, kA 1, M, 60, .inl gco)), (g3, .inr (kA 7, kA 2, 8, 61, .inr gwy)), (g4, .inl (.inl (kA 2, M, .inr (.inl gfi)))), (g5, .inl (.inl (kA 2, 2, .inr (.inl gal)))), (g6, .inl (.inl (kA 2, 2, .inr (.inl gre))))]) [(3, .int (nI j1000392)), (0, .ref g), (1, .int (nI k)), (2, .int (nI f))] 0 0 48 []
      refine j_iconst (v := 1) h (by decide) dX3_isGoneOnFrom_48 ?_
      refine j_goto h 53 dX3_isGoneOnFrom_49 (by decide) ?_
      exact jm_zret h hq rfl dX3_isGoneOnFrom_53 1 [0, 1, 2, 3, 4, 5, 6, 7] rfl (by decide) ⟨rfl, (show 1 ≤ 1 by first | assumption | omega), (show (1 = 1 → goP gtm tkf aff (fun i8 t8 => csf i8 t8 = 0) (fun f8 t8 => 0 < (gwy f8 t8).toInt) AA k f) ∧ (1 = 0 → ¬ goP gtm tkf aff (fun i8 t8 => csf i8 t8 = 0) (fun f8 t8 => 0 < (gwy f8 t8).toInt) AA k f) from ⟨fun _ => (gob_b hrA hft hal hf hk u1000389 (by omega) (by omega) (fun t8 h9 h8 => (hgd.2.2 k t8 (by omega) h9).2.2 (by have y9 : csf k t8 = 0 := h8; omega)) (by omega)).mp (fun q9 => z1000396 ((lg_cmp_eq _ _).mpr q9)), fun h9 => absurd h9 (by decide)⟩)⟩ (Nat.le_of_ble_eq_true rfl) (Nat.le_of_ble_eq_true rfl)
set_option maxHeartbeats 4000000 in
set_option maxRecDepth 100000 in
theorem s_X3_standingAtF (lau : Launch) (gg : va_G) (kA : Nat → ClassId) (g : Nat) (pl : Nat) (g0 : Nat) (g1 : Nat) (g2 : Nat) (g3 : Nat) (g4 : Nat) (g5 : Nat) (g6 : Nat) (g7 : Nat) (gn : Nat) (gtm : Nat) (gms : Nat) (M : Nat) (gtk : Nat → Int32) (gaf : Nat → Nat → Int32) (gco : Nat → Nat → Int32) (gwy : Nat → Nat → Int64) (gfi : Nat → Int64) (gal : Nat → Int64) (gre : Nat → Int64) (grn : Nat → Int64) (tkf : Nat → Nat) (aff : Nat → Nat → Nat) (csf : Nat → Nat → Nat) (hM : M ≤ 10) (hgn : gn ≤ M) (hgtm : gtm ≤ 60) (hgd : GdR gn gtm tkf aff csf gtk gaf gco) (hpl : pl < 60) : CtI lau yX3_standingAt cX3_standingAt 4 (some .int) 2 0 0 gg kA [.ref g, .int (nI pl)] (mflat [(g, .inl (.inr (3, [.ref g0, .ref g1, .ref g2, .ref g3, .ref g4, .ref g5, .ref g6, .ref g7, .int (nI gn), .int (nI gtm), .int (nI gms)]))), (g0, .inl (.inl (kA 1, M, .inl gtk))), (g1, .inr (kA 6, kA 1, M, 2, .inl gaf)), (g2, .inr (kA 6, kA 1, M, 60, .inl gco)), (g3, .inr (kA 7, kA 2, 8, 61, .inr gwy)), (g4, .inl (.inl (kA 2, M, .inr (.inl gfi)))), (g5, .inl (.inl (kA 2, 2, .inr (.inl gal)))), (g6, .inl (.inl (kA 2, 2, .inr (.inl gre)))), (g7, .inl (.inl (kA 2, 2, .inr (.inl grn))))]) (S := (Nat → Int64) × (Nat → Int64) × (Nat → Int64) × (Nat → Int64)) (fun (r : Int32) ((y_g4, y_g5, y_g6, y_g7) : (Nat → Int64) × (Nat → Int64) × (Nat → Int64) × (Nat → Int64)) => ∀ j, (bI r j ↔ j < gn ∧ fnX gtm tkf aff (fun i8 t8 => csf i8 t8 = 0) (fun f8 t8 => 0 < (gwy f8 t8).toInt) (rcP gn gtm tkf aff (fun i8 t8 => csf i8 t8 = 0) pl) j)) (fun ((y_g4, y_g5, y_g6, y_g7) : (Nat → Int64) × (Nat → Int64) × (Nat → Int64) × (Nat → Int64)) => mflat [(g, .inl (.inr (3, [.ref g0, .ref g1, .ref g2, .ref g3, .ref g4, .ref g5, .ref g6, .ref g7, .int (nI gn), .int (nI gtm), .int (nI gms)]))), (g0, .inl (.inl (kA 1, M, .inl gtk))), (g1, .inr (kA 6, kA 1, M, 2, .inl gaf)), (g2, .inr (kA 6, kA 1, M, 60, .inl gco)), (g3, .inr (kA 7, kA 2, 8, 61, .inr gwy)), (g4, .inl (.inl (kA 2, M, .inr (.inl y_g4)))), (g5, .inl (.inl (kA 2, 2, .inr (.inl y_g5)))), (g6, .inl (.inl (kA 2, 2, .inr (.inl y_g6)))), (g7, .inl (.inl (kA 2, 2, .inr (.inl y_g7))))]) := by
  refine nx_startI (by decide +kernel) (Nat.le_of_ble_eq_true rfl) ?_
  intro x hnm h hq
  have h : Ok x cX3_standingAt RX3 kA (rmC 2 0 0) 4 := h
  show J x (mflat [(g, .inl (.inr (3, [.ref g0, .ref g1, .ref g2, .ref g3, .ref g4, .ref g5, .ref g6, .ref g7, .int (nI gn), .int (nI gtm), .int (nI gms)]))), (g0, .inl (.inl (kA 1, M, .inl gtk))), (g1, .inr (kA 6, kA 1, M, 2, .inl gaf)), (g2, .inr (kA 6, kA 1, M, 60, .inl gco)), (g3, .inr (kA 7, kA 2, 8, 61, .inr gwy)), (g4, .inl (.inl (kA 2, M, .inr (.inl gfi)))), (g5, .inl (.inl (kA 2, 2, .inr (.inl gal)))), (g6, .inl (.inl (kA 2, 2, .inr (.inl gre)))), (g7, .inl (.inl (kA 2, 2, .inr (.inl grn))))]) [(0, .ref g), (1, .int (nI pl))] 0 0 0 []
  refine j_aload_n h 0 rfl rfl dX3_standingAt_0 ?_
  refine jm_callVv (np := 0) (isC := [0, 1, 2, 3, 4, 5, 6, 7]) (isR := [8]) (wc := [(g, .inl (.inr (3, [.ref g0, .ref g1, .ref g2, .ref g3, .ref g4, .ref g5, .ref g6, .ref g7, .int (nI gn), .int (nI gtm), .int (nI gms)]))), (g0, .inl (.inl (kA 1, M, .inl gtk))), (g1, .inr (kA 6, kA 1, M, 2, .inl gaf)), (g2, .inr (kA 6, kA 1, M, 60, .inl gco)), (g3, .inr (kA 7, kA 2, 8, 61, .inr gwy)), (g4, .inl (.inl (kA 2, M, .inr (.inl gfi)))), (g5, .inl (.inl (kA 2, 2, .inr (.inl gal)))), (g6, .inl (.inl (kA 2, 2, .inr (.inl gre))))]) (wr := [(g7, .inl (.inl (kA 2, 2, .inr (.inl grn))))]) (rest := []) (As := []) (q0 := 0) h (s_X3_drawMasksF _ _ kA g g0 g1 g2 g3 g4 g5 g6 g7 gn gtm gms M gtk gaf gco gwy gfi gal gre tkf aff csf (show M ≤ 10 by first | assumption | omega) (show gn ≤ M by first | assumption | omega) (show gtm ≤ 60 by first | assumption | omega) (show GdR gn gtm tkf aff csf gtk gaf gco by first | assumption | omega)) tw_1115 tw_1117 tw_35 tw_95 tw_1118 (by decide +kernel) rfl ⟨Nat.le_of_ble_eq_true rfl, Nat.le_of_ble_eq_true rfl⟩ rfl rfl (by decide) rfl rfl (by decide) (by decide) (Nat.le_of_ble_eq_true rfl) rfl ⟨Nat.le_of_ble_eq_true rfl, Nat.le_of_ble_eq_true rfl⟩ dX3_standingAt_1 ?_
  rintro ⟨q1000561, q1000562, q1000563⟩ e1000564
  obtain ⟨p1000566, p1000567, p1000568, p1000569⟩ := e1000564
  replace p1000566 : MkR (fun i8 t8 => csf i8 t8 = 0) q1000561 gn gtm := p1000566
  replace p1000567 : MkR (fun f8 t8 => 0 < (gwy f8 t8).toInt) q1000562 2 (gtm + 1) := p1000567
  replace p1000568 : q1000563 0 = 1 := p1000568
  replace p1000569 : q1000563 1 = 0 := p1000569
  show J x (mflat [(g7, .inl (.inl (kA 2, 2, .inr (.inl grn)))), (g, .inl (.inr (3, [.ref g0, .ref g1, .ref g2, .ref g3, .ref g4, .ref g5, .ref g6, .ref g7, .int (nI gn), .int (nI gtm), .int (nI gms)]))), (g0, .inl (.inl (kA 1, M, .inl gtk))), (g1, .inr (kA 6, kA 1, M, 2, .inl gaf)), (g2, .inr (kA 6, kA 1, M, 60, .inl gco)), (g3, .inr (kA 7, kA 2, 8, 61, .inr gwy)), (g4, .inl (.inl (kA 2, M, .inr (.inl q1000561)))), (g5, .inl (.inl (kA 2, 2, .inr (.inl q1000562)))), (g6, .inl (.inl (kA 2, 2, .inr (.inl q1000563))))]) [(0, .ref g), (1, .int (nI pl))] 0 0 4 []
  refine j_iconst (v := 0) h (by decide) dX3_standingAt_4 ?_
  refine j_istore_n (lv' := [(2, .int 0), (0, .ref g), (1, .int (nI pl))]) h dX3_standingAt_5 rfl (by decide) rfl ?_
  have lp6_100141 : ∀ (m6_100141 : Nat), ∀ (v2_6_100141 : Nat) (fg7_6_100141 : Nat → Int64) (fg6_6_100141 : Nat → Int64), (RdA fg6_6_100141 (rcP gn gtm tkf aff (fun i8 t8 => csf i8 t8 = 0) v2_6_100141)) → (v2_6_100141 ≤ pl) → (v2_6_100141 ≤ 100000) → 100001 - v2_6_100141 < m6_100141 → J x (mflat [(g7, .inl (.inl (kA 2, 2, .inr (.inl fg7_6_100141)))), (g, .inl (.inr (3, [.ref g0, .ref g1, .ref g2, .ref g3, .ref g4, .ref g5, .ref g6, .ref g7, .int (nI gn), .int (nI gtm), .int (nI gms)]))), (g0, .inl (.inl (kA 1, M, .inl gtk))), (g1, .inr (kA 6, kA 1, M, 2, .inl gaf)), (g2, .inr (kA 6, kA 1, M, 60, .inl gco)), (g3, .inr (kA 7, kA 2, 8, 61, .inr gwy)), (g4, .inl (.inl (kA 2, M, .inr (.inl q1000561)))), (g5, .inl (.inl (kA 2, 2, .inr (.inl q1000562)))), (g6, .inl (.inl (kA 2, 2, .inr (.inl fg6_6_100141))))]) [(2, .int (nI v2_6_100141)), (0, .ref g), (1, .int (nI pl))] 0 0 6 [] := by
    intro m6_100141
    induction m6_100141 with
    | zero =>
      intro v2_6_100141 fg7_6_100141 fg6_6_100141 i6_100141_0 i6_100141_1 i6_100141_2 hm6_100141
      exact absurd hm6_100141 (Nat.not_lt_zero _)
    | succ m6_100141 ih6_100141 =>
      intro v2_6_100141 fg7_6_100141 fg6_6_100141 i6_100141_0 i6_100141_1 i6_100141_2 hm6_100141
      refine j_iload_n h 0 rfl rfl dX3_standingAt_6 ?_
      refine j_iload_n h 2 rfl rfl dX3_standingAt_7 ?_
      refine j_icmp_ge h 27 dX3_standingAt_8 (by decide) (fun z1000673 => ?_) (fun z1000673 => ?_)
      · have z1000673n : pl ≤ v2_6_100141 := (nI_leI (a := pl) (b := v2_6_100141) (by omega) (by omega)).mp z1000673
        have ra9 : RdA fg6_6_100141 (rcP gn gtm tkf aff (fun i8 t8 => csf i8 t8 = 0) pl) := (show v2_6_100141 = pl by omega) ▸ i6_100141_0
        refine j_iconst (v := 0) h (by decide) dX3_standingAt_27 ?_
        refine j_istore_n (lv' := [(2, .int 0), (0, .ref g), (1, .int (nI pl))]) h dX3_standingAt_28 rfl (by decide) rfl ?_
        refine j_iconst (v := 0) h (by decide) dX3_standingAt_29 ?_
        refine j_istore_n (lv' := [(3, .int 0), (2, .int 0), (0, .ref g), (1, .int (nI pl))]) h dX3_standingAt_30 rfl (by decide) rfl ?_
        have lp31_100144 : ∀ (m31_100144 : Nat), ∀ (v3_31_100144 : Nat) (v2_31_100144 : Int32), (StB gtm tkf aff (fun i8 t8 => csf i8 t8 = 0) (fun f8 t8 => 0 < (gwy f8 t8).toInt) (rcP gn gtm tkf aff (fun i8 t8 => csf i8 t8 = 0) pl) v2_31_100144 v3_31_100144) → (v3_31_100144 ≤ gn) → (v3_31_100144 ≤ 100000) → gn - v3_31_100144 < m31_100144 → J x (mflat [(g7, .inl (.inl (kA 2, 2, .inr (.inl fg7_6_100141)))), (g, .inl (.inr (3, [.ref g0, .ref g1, .ref g2, .ref g3, .ref g4, .ref g5, .ref g6, .ref g7, .int (nI gn), .int (nI gtm), .int (nI gms)]))), (g0, .inl (.inl (kA 1, M, .inl gtk))), (g1, .inr (kA 6, kA 1, M, 2, .inl gaf)), (g2, .inr (kA 6, kA 1, M, 60, .inl gco)), (g3, .inr (kA 7, kA 2, 8, 61, .inr gwy)), (g4, .inl (.inl (kA 2, M, .inr (.inl q1000561)))), (g5, .inl (.inl (kA 2, 2, .inr (.inl q1000562)))), (g6, .inl (.inl (kA 2, 2, .inr (.inl fg6_6_100141))))]) [(3, .int (nI v3_31_100144)), (2, .int v2_31_100144), (0, .ref g), (1, .int (nI pl))] 0 0 31 [] := by
          intro m31_100144
          induction m31_100144 with
          | zero =>
            intro v3_31_100144 v2_31_100144 i31_100144_0 i31_100144_1 i31_100144_2 hm31_100144
            exact absurd hm31_100144 (Nat.not_lt_zero _)
          | succ m31_100144 ih31_100144 =>
            intro v3_31_100144 v2_31_100144 i31_100144_0 i31_100144_1 i31_100144_2 hm31_100144
            refine j_iload_n h 0 rfl rfl dX3_standingAt_31 ?_
            refine j_aload_n h 2 rfl rfl dX3_standingAt_32 ?_
            refine jm_get h iw_X3 1 rfl rfl 8 (by decide) tw_387 rfl dX3_standingAt_33 ?_
            refine j_icmp_ge h 69 dX3_standingAt_36 (by decide) (fun z1000704 => ?_) (fun z1000704 => ?_)
            · have z1000704n : gn ≤ v3_31_100144 := (nI_leI (a := gn) (b := v3_31_100144) (by omega) (by omega)).mp z1000704
              refine j_iload_n h 1 rfl rfl dX3_standingAt_69 ?_
              exact jm_iret h hq dX3_standingAt_70 (q1000561, q1000562, fg6_6_100141, fg7_6_100141) [1, 2, 3, 4, 5, 6, 7, 8, 0] rfl (by decide) (show ∀ j, (bI v2_31_100144 j ↔ j < gn ∧ fnX gtm tkf aff (fun i8 t8 => csf i8 t8 = 0) (fun f8 t8 => 0 < (gwy f8 t8).toInt) (rcP gn gtm tkf aff (fun i8 t8 => csf i8 t8 = 0) pl) j) from (by have k9 : v3_31_100144 = gn := (by omega); rw [k9] at i31_100144_0; exact i31_100144_0)) (Nat.le_of_ble_eq_true rfl) (Nat.le_of_ble_eq_true rfl)
            · have z1000704n : ¬ gn ≤ v3_31_100144 := fun q9 => z1000704 ((nI_leI (a := gn) (b := v3_31_100144) (by omega) (by omega)).mpr q9)
              refine j_aload_n h 2 rfl rfl dX3_standingAt_39 ?_
              refine j_iload_n h 0 rfl rfl dX3_standingAt_40 ?_
              refine j_iconst (v := 0) h (by decide) dX3_standingAt_41 ?_
              refine jm_callVi (np := 2) (isC := [1, 2, 3, 4, 5, 6, 7, 8]) (isR := [0]) (wc := [(g, .inl (.inr (3, [.ref g0, .ref g1, .ref g2, .ref g3, .ref g4, .ref g5, .ref g6, .ref g7, .int (nI gn), .int (nI gtm), .int (nI gms)]))), (g0, .inl (.inl (kA 1, M, .inl gtk))), (g1, .inr (kA 6, kA 1, M, 2, .inl gaf)), (g2, .inr (kA 6, kA 1, M, 60, .inl gco)), (g3, .inr (kA 7, kA 2, 8, 61, .inr gwy)), (g4, .inl (.inl (kA 2, M, .inr (.inl q1000561)))), (g5, .inl (.inl (kA 2, 2, .inr (.inl q1000562)))), (g6, .inl (.inl (kA 2, 2, .inr (.inl fg6_6_100141))))]) (wr := [(g7, .inl (.inl (kA 2, 2, .inr (.inl fg7_6_100141))))]) (rest := []) (As := [.int (nI v3_31_100144), .int 0]) (q0 := 0) h (s_X3_isGoneOnFromF _ _ kA g v3_31_100144 0 g0 g1 g2 g3 g4 g5 g6 g7 gn gtm gms M gtk gaf gco gwy q1000561 q1000562 fg6_6_100141 tkf aff csf (rcP gn gtm tkf aff (fun i8 t8 => csf i8 t8 = 0) pl) (show M ≤ 10 by first | assumption | omega) (show gn ≤ M by first | assumption | omega) (show gtm ≤ 60 by first | assumption | omega) (show GdR gn gtm tkf aff csf gtk gaf gco by first | assumption | omega) (show v3_31_100144 < gn by first | assumption | omega) (show 0 ≤ 1 by first | assumption | omega) (show RdA fg6_6_100141 (rcP gn gtm tkf aff (fun i8 t8 => csf i8 t8 = 0) pl) from ra9) (show MkR (fun i8 t8 => csf i8 t8 = 0) q1000561 gn gtm from p1000566) (show MkR (fun f8 t8 => 0 < (gwy f8 t8).toInt) q1000562 2 (gtm + 1) from p1000567)) tw_1123 tw_1125 tw_37 tw_95 tw_1126 (by decide +kernel) rfl ⟨Nat.le_of_ble_eq_true rfl, Nat.le_of_ble_eq_true rfl⟩ rfl rfl (by decide) rfl rfl (by decide) (by decide) (Nat.le_of_ble_eq_true rfl) rfl ⟨Nat.le_of_ble_eq_true rfl, Nat.le_of_ble_eq_true rfl⟩ dX3_standingAt_42 ?_
              rintro r1000707 q1000705 e1000706
              obtain ⟨p1000708, p1000709, p1000710⟩ := e1000706
              subst p1000708
              replace p1000709 : q1000705 ≤ 1 := p1000709
              replace p1000710 : (q1000705 = 1 → goP gtm tkf aff (fun i8 t8 => csf i8 t8 = 0) (fun f8 t8 => 0 < (gwy f8 t8).toInt) (rcP gn gtm tkf aff (fun i8 t8 => csf i8 t8 = 0) pl) v3_31_100144 0) ∧ (q1000705 = 0 → ¬ goP gtm tkf aff (fun i8 t8 => csf i8 t8 = 0) (fun f8 t8 => 0 < (gwy f8 t8).toInt) (rcP gn gtm tkf aff (fun i8 t8 => csf i8 t8 = 0) pl) v3_31_100144 0) := p1000710
              show J x (mflat [(g7, .inl (.inl (kA 2, 2, .inr (.inl fg7_6_100141)))), (g, .inl (.inr (3, [.ref g0, .ref g1, .ref g2, .ref g3, .ref g4, .ref g5, .ref g6, .ref g7, .int (nI gn), .int (nI gtm), .int (nI gms)]))), (g0, .inl (.inl (kA 1, M, .inl gtk))), (g1, .inr (kA 6, kA 1, M, 2, .inl gaf)), (g2, .inr (kA 6, kA 1, M, 60, .inl gco)), (g3, .inr (kA 7, kA 2, 8, 61, .inr gwy)), (g4, .inl (.inl (kA 2, M, .inr (.inl q1000561)))), (g5, .inl (.inl (kA 2, 2, .inr (.inl q1000562)))), (g6, .inl (.inl (kA 2, 2, .inr (.inl fg6_6_100141))))]) [(3, .int (nI v3_31_100144)), (2, .int v2_31_100144), (0, .ref g), (1, .int (nI pl))] 0 0 45 [.int (nI q1000705)]
              refine j_if_ne h 57 dX3_standingAt_45 (by decide) (fun z1000711 => ?_) (fun z1000711 => ?_)
              · have z1000711n : ¬ q1000705 = 0 := fun q9 => z1000711 ((nI_eq (a := q1000705) (b := 0) (by omega) (by omega)).mpr q9)
                refine j_iload_n h 1 rfl rfl dX3_standingAt_57 ?_
                refine j_iconst (v := 1) h (by decide) dX3_standingAt_58 ?_
                refine j_iload_n h 0 rfl rfl dX3_standingAt_59 ?_
                refine j_ishl h dX3_standingAt_60 ?_
                refine j_ior h dX3_standingAt_61 ?_
                refine j_istore_n (lv' := [(2, .int (v2_31_100144 ||| ((1 : Int32) <<< ((nI v3_31_100144) &&& 31)))), (3, .int (nI v3_31_100144)), (0, .ref g), (1, .int (nI pl))]) h dX3_standingAt_62 rfl (by decide) rfl ?_
                refine j_iinc (v := nI (v3_31_100144 + 1)) (lv' := [(3, .int (nI (v3_31_100144 + 1))), (2, .int (v2_31_100144 ||| ((1 : Int32) <<< ((nI v3_31_100144) &&& 31)))), (0, .ref g), (1, .int (nI pl))]) h dX3_standingAt_63 1 rfl (nI_add v3_31_100144 1) (by decide) rfl ?_
                refine j_goto h 31 dX3_standingAt_66 (by decide) ?_
                refine jm_sub [0, 1, 2, 3, 4, 5, 6, 7, 8] (w' := [(g7, .inl (.inl (kA 2, 2, .inr (.inl fg7_6_100141)))), (g, .inl (.inr (3, [.ref g0, .ref g1, .ref g2, .ref g3, .ref g4, .ref g5, .ref g6, .ref g7, .int (nI gn), .int (nI gtm), .int (nI gms)]))), (g0, .inl (.inl (kA 1, M, .inl gtk))), (g1, .inr (kA 6, kA 1, M, 2, .inl gaf)), (g2, .inr (kA 6, kA 1, M, 60, .inl gco)), (g3, .inr (kA 7, kA 2, 8, 61, .inr gwy)), (g4, .inl (.inl (kA 2, M, .inr (.inl q1000561)))), (g5, .inl (.inl (kA 2, 2, .inr (.inl q1000562)))), (g6, .inl (.inl (kA 2, 2, .inr (.inl fg6_6_100141))))]) rfl (by decide) [0, 1, 2, 3] (lv' := [(3, .int (nI (v3_31_100144 + 1))), (2, .int (v2_31_100144 ||| ((1 : Int32) <<< ((nI v3_31_100144) &&& 31)))), (0, .ref g), (1, .int (nI pl))]) rfl ?_
                exact ih31_100144 (v3_31_100144 + 1) (v2_31_100144 ||| ((1 : Int32) <<< ((nI v3_31_100144) &&& 31))) (show StB gtm tkf aff (fun i8 t8 => csf i8 t8 = 0) (fun f8 t8 => 0 < (gwy f8 t8).toInt) (rcP gn gtm tkf aff (fun i8 t8 => csf i8 t8 = 0) pl) (v2_31_100144 ||| ((1 : Int32) <<< ((nI v3_31_100144) &&& 31))) (v3_31_100144 + 1) from StB_y i31_100144_0 (by omega) (Or.inl (p1000710.1 (by omega)))) (show (v3_31_100144 + 1) ≤ gn by first | assumption | omega) (show (v3_31_100144 + 1) ≤ 100000 by first | assumption | omega) (show gn - (v3_31_100144 + 1) < m31_100144 by omega)
              · have z1000711n : q1000705 = 0 := (nI_eq (a := q1000705) (b := 0) (by omega) (by omega)).mp z1000711
                refine j_aload_n h 2 rfl rfl dX3_standingAt_48 ?_
                refine j_iload_n h 0 rfl rfl dX3_standingAt_49 ?_
                refine j_iconst (v := 1) h (by decide) dX3_standingAt_50 ?_
                refine jm_callVi (np := 2) (isC := [1, 2, 3, 4, 5, 6, 7, 8]) (isR := [0]) (wc := [(g, .inl (.inr (3, [.ref g0, .ref g1, .ref g2, .ref g3, .ref g4, .ref g5, .ref g6, .ref g7, .int (nI gn), .int (nI gtm), .int (nI gms)]))), (g0, .inl (.inl (kA 1, M, .inl gtk))), (g1, .inr (kA 6, kA 1, M, 2, .inl gaf)), (g2, .inr (kA 6, kA 1, M, 60, .inl gco)), (g3, .inr (kA 7, kA 2, 8, 61, .inr gwy)), (g4, .inl (.inl (kA 2, M, .inr (.inl q1000561)))), (g5, .inl (.inl (kA 2, 2, .inr (.inl q1000562)))), (g6, .inl (.inl (kA 2, 2, .inr (.inl fg6_6_100141))))]) (wr := [(g7, .inl (.inl (kA 2, 2, .inr (.inl fg7_6_100141))))]) (rest := []) (As := [.int (nI v3_31_100144), .int 1]) (q0 := 0) h (s_X3_isGoneOnFromF _ _ kA g v3_31_100144 1 g0 g1 g2 g3 g4 g5 g6 g7 gn gtm gms M gtk gaf gco gwy q1000561 q1000562 fg6_6_100141 tkf aff csf (rcP gn gtm tkf aff (fun i8 t8 => csf i8 t8 = 0) pl) (show M ≤ 10 by first | assumption | omega) (show gn ≤ M by first | assumption | omega) (show gtm ≤ 60 by first | assumption | omega) (show GdR gn gtm tkf aff csf gtk gaf gco by first | assumption | omega) (show v3_31_100144 < gn by first | assumption | omega) (show 1 ≤ 1 by first | assumption | omega) (show RdA fg6_6_100141 (rcP gn gtm tkf aff (fun i8 t8 => csf i8 t8 = 0) pl) from ra9) (show MkR (fun i8 t8 => csf i8 t8 = 0) q1000561 gn gtm from p1000566) (show MkR (fun f8 t8 => 0 < (gwy f8 t8).toInt) q1000562 2 (gtm + 1) from p1000567)) tw_1123 tw_1125 tw_37 tw_95 tw_1126 (by decide +kernel) rfl ⟨Nat.le_of_ble_eq_true rfl, Nat.le_of_ble_eq_true rfl⟩ rfl rfl (by decide) rfl rfl (by decide) (by decide) (Nat.le_of_ble_eq_true rfl) rfl ⟨Nat.le_of_ble_eq_true rfl, Nat.le_of_ble_eq_true rfl⟩ dX3_standingAt_51 ?_
                rintro r1000714 q1000712 e1000713
                obtain ⟨p1000715, p1000716, p1000717⟩ := e1000713
                subst p1000715
                replace p1000716 : q1000712 ≤ 1 := p1000716
                replace p1000717 : (q1000712 = 1 → goP gtm tkf aff (fun i8 t8 => csf i8 t8 = 0) (fun f8 t8 => 0 < (gwy f8 t8).toInt) (rcP gn gtm tkf aff (fun i8 t8 => csf i8 t8 = 0) pl) v3_31_100144 1) ∧ (q1000712 = 0 → ¬ goP gtm tkf aff (fun i8 t8 => csf i8 t8 = 0) (fun f8 t8 => 0 < (gwy f8 t8).toInt) (rcP gn gtm tkf aff (fun i8 t8 => csf i8 t8 = 0) pl) v3_31_100144 1) := p1000717
                show J x (mflat [(g7, .inl (.inl (kA 2, 2, .inr (.inl fg7_6_100141)))), (g, .inl (.inr (3, [.ref g0, .ref g1, .ref g2, .ref g3, .ref g4, .ref g5, .ref g6, .ref g7, .int (nI gn), .int (nI gtm), .int (nI gms)]))), (g0, .inl (.inl (kA 1, M, .inl gtk))), (g1, .inr (kA 6, kA 1, M, 2, .inl gaf)), (g2, .inr (kA 6, kA 1, M, 60, .inl gco)), (g3, .inr (kA 7, kA 2, 8, 61, .inr gwy)), (g4, .inl (.inl (kA 2, M, .inr (.inl q1000561)))), (g5, .inl (.inl (kA 2, 2, .inr (.inl q1000562)))), (g6, .inl (.inl (kA 2, 2, .inr (.inl fg6_6_100141))))]) [(3, .int (nI v3_31_100144)), (2, .int v2_31_100144), (0, .ref g), (1, .int (nI pl))] 0 0 54 [.int (nI q1000712)]
                refine j_if_eq h 63 dX3_standingAt_54 (by decide) (fun z1000718 => ?_) (fun z1000718 => ?_)
                · have z1000718n : q1000712 = 0 := (nI_eq (a := q1000712) (b := 0) (by omega) (by omega)).mp z1000718
                  refine j_iinc (v := nI (v3_31_100144 + 1)) (lv' := [(3, .int (nI (v3_31_100144 + 1))), (2, .int v2_31_100144), (0, .ref g), (1, .int (nI pl))]) h dX3_standingAt_63 0 rfl (nI_add v3_31_100144 1) (by decide) rfl ?_
                  refine j_goto h 31 dX3_standingAt_66 (by decide) ?_
                  refine jm_sub [0, 1, 2, 3, 4, 5, 6, 7, 8] (w' := [(g7, .inl (.inl (kA 2, 2, .inr (.inl fg7_6_100141)))), (g, .inl (.inr (3, [.ref g0, .ref g1, .ref g2, .ref g3, .ref g4, .ref g5, .ref g6, .ref g7, .int (nI gn), .int (nI gtm), .int (nI gms)]))), (g0, .inl (.inl (kA 1, M, .inl gtk))), (g1, .inr (kA 6, kA 1, M, 2, .inl gaf)), (g2, .inr (kA 6, kA 1, M, 60, .inl gco)), (g3, .inr (kA 7, kA 2, 8, 61, .inr gwy)), (g4, .inl (.inl (kA 2, M, .inr (.inl q1000561)))), (g5, .inl (.inl (kA 2, 2, .inr (.inl q1000562)))), (g6, .inl (.inl (kA 2, 2, .inr (.inl fg6_6_100141))))]) rfl (by decide) [0, 1, 2, 3] (lv' := [(3, .int (nI (v3_31_100144 + 1))), (2, .int v2_31_100144), (0, .ref g), (1, .int (nI pl))]) rfl ?_
                  exact ih31_100144 (v3_31_100144 + 1) v2_31_100144 (show StB gtm tkf aff (fun i8 t8 => csf i8 t8 = 0) (fun f8 t8 => 0 < (gwy f8 t8).toInt) (rcP gn gtm tkf aff (fun i8 t8 => csf i8 t8 = 0) pl) v2_31_100144 (v3_31_100144 + 1) from StB_n i31_100144_0 (p1000710.2 (by omega)) (p1000717.2 (by omega))) (show (v3_31_100144 + 1) ≤ gn by first | assumption | omega) (show (v3_31_100144 + 1) ≤ 100000 by first | assumption | omega) (show gn - (v3_31_100144 + 1) < m31_100144 by omega)
                · have z1000718n : ¬ q1000712 = 0 := fun q9 => z1000718 ((nI_eq (a := q1000712) (b := 0) (by omega) (by omega)).mpr q9)
                  refine j_iload_n h 1 rfl rfl dX3_standingAt_57 ?_
                  refine j_iconst (v := 1) h (by decide) dX3_standingAt_58 ?_
                  refine j_iload_n h 0 rfl rfl dX3_standingAt_59 ?_
                  refine j_ishl h dX3_standingAt_60 ?_
                  refine j_ior h dX3_standingAt_61 ?_
                  refine j_istore_n (lv' := [(2, .int (v2_31_100144 ||| ((1 : Int32) <<< ((nI v3_31_100144) &&& 31)))), (3, .int (nI v3_31_100144)), (0, .ref g), (1, .int (nI pl))]) h dX3_standingAt_62 rfl (by decide) rfl ?_
                  refine j_iinc (v := nI (v3_31_100144 + 1)) (lv' := [(3, .int (nI (v3_31_100144 + 1))), (2, .int (v2_31_100144 ||| ((1 : Int32) <<< ((nI v3_31_100144) &&& 31)))), (0, .ref g), (1, .int (nI pl))]) h dX3_standingAt_63 1 rfl (nI_add v3_31_100144 1) (by decide) rfl ?_
                  refine j_goto h 31 dX3_standingAt_66 (by decide) ?_
                  refine jm_sub [0, 1, 2, 3, 4, 5, 6, 7, 8] (w' := [(g7, .inl (.inl (kA 2, 2, .inr (.inl fg7_6_100141)))), (g, .inl (.inr (3, [.ref g0, .ref g1, .ref g2, .ref g3, .ref g4, .ref g5, .ref g6, .ref g7, .int (nI gn), .int (nI gtm), .int (nI gms)]))), (g0, .inl (.inl (kA 1, M, .inl gtk))), (g1, .inr (kA 6, kA 1, M, 2, .inl gaf)), (g2, .inr (kA 6, kA 1, M, 60, .inl gco)), (g3, .inr (kA 7, kA 2, 8, 61, .inr gwy)), (g4, .inl (.inl (kA 2, M, .inr (.inl q1000561)))), (g5, .inl (.inl (kA 2, 2, .inr (.inl q1000562)))), (g6, .inl (.inl (kA 2, 2, .inr (.inl fg6_6_100141))))]) rfl (by decide) [0, 1, 2, 3] (lv' := [(3, .int (nI (v3_31_100144 + 1))), (2, .int (v2_31_100144 ||| ((1 : Int32) <<< ((nI v3_31_100144) &&& 31)))), (0, .ref g), (1, .int (nI pl))]) rfl ?_
                  exact ih31_100144 (v3_31_100144 + 1) (v2_31_100144 ||| ((1 : Int32) <<< ((nI v3_31_100144) &&& 31))) (show StB gtm tkf aff (fun i8 t8 => csf i8 t8 = 0) (fun f8 t8 => 0 < (gwy f8 t8).toInt) (rcP gn gtm tkf aff (fun i8 t8 => csf i8 t8 = 0) pl) (v2_31_100144 ||| ((1 : Int32) <<< ((nI v3_31_100144) &&& 31))) (v3_31_100144 + 1) from StB_y i31_100144_0 (by omega) (Or.inr (p1000717.1 (by omega)))) (show (v3_31_100144 + 1) ≤ gn by first | assumption | omega) (show (v3_31_100144 + 1) ≤ 100000 by first | assumption | omega) (show gn - (v3_31_100144 + 1) < m31_100144 by omega)
        refine jm_sub [0, 1, 2, 3, 4, 5, 6, 7, 8] (w' := [(g7, .inl (.inl (kA 2, 2, .inr (.inl fg7_6_100141)))), (g, .inl (.inr (3, [.ref g0, .ref g1, .ref g2, .ref g3, .ref g4, .ref g5, .ref g6, .ref g7, .int (nI gn), .int (nI gtm), .int (nI gms)]))), (g0, .inl (.inl (kA 1, M, .inl gtk))), (g1, .inr (kA 6, kA 1, M, 2, .inl gaf)), (g2, .inr (kA 6, kA 1, M, 60, .inl gco)), (g3, .inr (kA 7, kA 2, 8, 61, .inr gwy)), (g4, .inl (.inl (kA 2, M, .inr (.inl q1000561)))), (g5, .inl (.inl (kA 2, 2, .inr (.inl q1000562)))), (g6, .inl (.inl (kA 2, 2, .inr (.inl fg6_6_100141))))]) rfl (by decide) [0, 1, 2, 3] (lv' := [(3, .int 0), (2, .int 0), (0, .ref g), (1, .int (nI pl))]) rfl ?_
        exact lp31_100144 (gn - 0 + 1) 0 0 (show StB gtm tkf aff (fun i8 t8 => csf i8 t8 = 0) (fun f8 t8 => 0 < (gwy f8 t8).toInt) (rcP gn gtm tkf aff (fun i8 t8 => csf i8 t8 = 0) pl) 0 0 from StB_0) (show 0 ≤ gn by first | assumption | omega) (show 0 ≤ 100000 by first | assumption | omega) (Nat.lt_succ_self _)
      · have z1000673n : ¬ pl ≤ v2_6_100141 := fun q9 => z1000673 ((nI_leI (a := pl) (b := v2_6_100141) (by omega) (by omega)).mpr q9)
        refine j_iload_n h 0 rfl rfl dX3_standingAt_11 ?_
        refine j_bipush (v := 60) h (by decide) dX3_standingAt_12 ?_
        refine j_icmp_ge h 27 dX3_standingAt_14 (by decide) (fun z1000719 => ?_) (fun z1000719 => ?_)
        · have z1000719n : 60 ≤ v2_6_100141 := (nI_leI (a := 60) (b := v2_6_100141) (by omega) (by omega)).mp z1000719
          exfalso
          omega
        · have z1000719n : ¬ 60 ≤ v2_6_100141 := fun q9 => z1000719 ((nI_leI (a := 60) (b := v2_6_100141) (by omega) (by omega)).mpr q9)
          refine j_aload_n h 1 rfl rfl dX3_standingAt_17 ?_
          refine jm_callVv (np := 0) (isC := [1, 2, 3, 4, 6, 8, 0]) (isR := [5, 7]) (wc := [(g, .inl (.inr (3, [.ref g0, .ref g1, .ref g2, .ref g3, .ref g4, .ref g5, .ref g6, .ref g7, .int (nI gn), .int (nI gtm), .int (nI gms)]))), (g0, .inl (.inl (kA 1, M, .inl gtk))), (g1, .inr (kA 6, kA 1, M, 2, .inl gaf)), (g2, .inr (kA 6, kA 1, M, 60, .inl gco)), (g4, .inl (.inl (kA 2, M, .inr (.inl q1000561)))), (g6, .inl (.inl (kA 2, 2, .inr (.inl fg6_6_100141)))), (g7, .inl (.inl (kA 2, 2, .inr (.inl fg7_6_100141))))]) (wr := [(g3, .inr (kA 7, kA 2, 8, 61, .inr gwy)), (g5, .inl (.inl (kA 2, 2, .inr (.inl q1000562))))]) (rest := []) (As := []) (q0 := 0) h (s_X3_reachNextF _ _ kA g g0 g1 g2 g3 g4 g5 g6 g7 gn gtm gms M gtk gaf gco q1000561 fg6_6_100141 fg7_6_100141 tkf aff csf (rcP gn gtm tkf aff (fun i8 t8 => csf i8 t8 = 0) v2_6_100141) (show M ≤ 10 by first | assumption | omega) (show gn ≤ M by first | assumption | omega) (show gtm ≤ 60 by first | assumption | omega) (show GdR gn gtm tkf aff csf gtk gaf gco by first | assumption | omega) (show RdA fg6_6_100141 (rcP gn gtm tkf aff (fun i8 t8 => csf i8 t8 = 0) v2_6_100141) from i6_100141_0) (show MkR (fun i8 t8 => csf i8 t8 = 0) q1000561 gn gtm from p1000566)) tw_1119 tw_1121 tw_36 tw_95 tw_1122 (by decide +kernel) rfl ⟨Nat.le_of_ble_eq_true rfl, Nat.le_of_ble_eq_true rfl⟩ rfl rfl (by decide) rfl rfl (by decide) (by decide) (Nat.le_of_ble_eq_true rfl) rfl ⟨Nat.le_of_ble_eq_true rfl, Nat.le_of_ble_eq_true rfl⟩ dX3_standingAt_18 ?_
          rintro ⟨q1000720, q1000721⟩ e1000722
          have p1000724 := e1000722
          replace p1000724 : RdA q1000720 (nxP gn gtm tkf aff (fun i8 t8 => csf i8 t8 = 0) (rcP gn gtm tkf aff (fun i8 t8 => csf i8 t8 = 0) v2_6_100141)) := p1000724
          show J x (mflat [(g3, .inr (kA 7, kA 2, 8, 61, .inr gwy)), (g5, .inl (.inl (kA 2, 2, .inr (.inl q1000562)))), (g, .inl (.inr (3, [.ref g0, .ref g1, .ref g2, .ref g3, .ref g4, .ref g5, .ref g6, .ref g7, .int (nI gn), .int (nI gtm), .int (nI gms)]))), (g0, .inl (.inl (kA 1, M, .inl gtk))), (g1, .inr (kA 6, kA 1, M, 2, .inl gaf)), (g2, .inr (kA 6, kA 1, M, 60, .inl gco)), (g4, .inl (.inl (kA 2, M, .inr (.inl q1000561)))), (g6, .inl (.inl (kA 2, 2, .inr (.inl q1000720)))), (g7, .inl (.inl (kA 2, 2, .inr (.inl q1000721))))]) [(2, .int (nI v2_6_100141)), (0, .ref g), (1, .int (nI pl))] 0 0 21 []
          refine j_iinc (v := nI (v2_6_100141 + 1)) (lv' := [(2, .int (nI (v2_6_100141 + 1))), (0, .ref g), (1, .int (nI pl))]) h dX3_standingAt_21 0 rfl (nI_add v2_6_100141 1) (by decide) rfl ?_
          refine j_goto h 6 dX3_standingAt_24 (by decide) ?_
          refine jm_sub [8, 2, 3, 4, 5, 0, 6, 1, 7] (w' := [(g7, .inl (.inl (kA 2, 2, .inr (.inl q1000721)))), (g, .inl (.inr (3, [.ref g0, .ref g1, .ref g2, .ref g3, .ref g4, .ref g5, .ref g6, .ref g7, .int (nI gn), .int (nI gtm), .int (nI gms)]))), (g0, .inl (.inl (kA 1, M, .inl gtk))), (g1, .inr (kA 6, kA 1, M, 2, .inl gaf)), (g2, .inr (kA 6, kA 1, M, 60, .inl gco)), (g3, .inr (kA 7, kA 2, 8, 61, .inr gwy)), (g4, .inl (.inl (kA 2, M, .inr (.inl q1000561)))), (g5, .inl (.inl (kA 2, 2, .inr (.inl q1000562)))), (g6, .inl (.inl (kA 2, 2, .inr (.inl q1000720))))]) rfl (by decide) [0, 1, 2] (lv' := [(2, .int (nI (v2_6_100141 + 1))), (0, .ref g), (1, .int (nI pl))]) rfl ?_
          exact ih6_100141 (v2_6_100141 + 1) q1000721 q1000720 (show RdA q1000720 (rcP gn gtm tkf aff (fun i8 t8 => csf i8 t8 = 0) (v2_6_100141 + 1)) from p1000724) (show (v2_6_100141 + 1) ≤ pl by first | assumption | omega) (show (v2_6_100141 + 1) ≤ 100000 by first | assumption | omega) (show 100001 - (v2_6_100141 + 1) < m6_100141 by omega)
  refine jm_sub [0, 1, 2, 3, 4, 5, 6, 7, 8] (w' := [(g7, .inl (.inl (kA 2, 2, .inr (.inl grn)))), (g, .inl (.inr (3, [.ref g0, .ref g1, .ref g2, .ref g3, .ref g4, .ref g5, .ref g6, .ref g7, .int (nI gn), .int (nI gtm), .int (nI gms)]))), (g0, .inl (.inl (kA 1, M, .inl gtk))), (g1, .inr (kA 6, kA 1, M, 2, .inl gaf)), (g2, .inr (kA 6, kA 1, M, 60, .inl gco)), (g3, .inr (kA 7, kA 2, 8, 61, .inr gwy)), (g4, .inl (.inl (kA 2, M, .inr (.inl q1000561)))), (g5, .inl (.inl (kA 2, 2, .inr (.inl q1000562)))), (g6, .inl (.inl (kA 2, 2, .inr (.inl q1000563))))]) rfl (by decide) [0, 1, 2] (lv' := [(2, .int 0), (0, .ref g), (1, .int (nI pl))]) rfl ?_
  exact lp6_100141 (100001 - 0 + 1) 0 grn q1000563 (show RdA q1000563 (rcP gn gtm tkf aff (fun i8 t8 => csf i8 t8 = 0) 0) from RdA_0 p1000568 p1000569) (show 0 ≤ pl by first | assumption | omega) (show 0 ≤ 100000 by first | assumption | omega) (Nat.lt_succ_self _)
set_option maxHeartbeats 4000000 in
set_option maxRecDepth 100000 in
theorem s_X11_canF (lau : Launch) (gg : va_G) (kA : Nat → ClassId) (L : Nat) (tm : Int32) (pl : Int32) (kn : Int32) (t : Nat) (rd : Nat) (s : Nat) (zz : Nat) (b : Nat) (bx : Nat) (tx : Nat) (so : Nat) (bd : Nat) (g : Nat) (gq : Nat) (v : Nat) (sk : Nat) (d : Nat) (fh : Nat) (sh : Nat) (ly : Nat) (lsz : Int32) (tod : Nat) (s0 : Nat) (s1 : Nat) (s2 : Nat) (s3 : Nat) (s4 : Nat) (s5 : Nat) (s6 : Nat) (s7 : Nat) (s8 : Nat) (s9 : Nat) (s10 : Nat) (s11 : Nat) (sn : Nat) (sl : Nat) (se : Nat) (sc1 : Nat → Int32) (sc2 : Nat → Int32) (sc3 : Nat → Int32) (sc5 : Nat → Int32) (sc6 : Nat → Nat → Int32) (sc7 : Nat → Int32) (sc8 : Nat → Nat → Int32) (sc10 : Nat → Int32) (sc11 : Nat → Int32) (b0 : Nat) (b1 : Nat) (bsz : Nat) (btm : Nat) (bft : Nat) (bkp : Int32) (blo : Nat → Int32) (so0 : Nat) (so1 : Nat) (so2 : Nat) (so3 : Nat) (so4 : Nat) (so5 : Nat) (son : Nat) (sof0 : Nat → Int32) (sof1 : Nat → Int32) (sof2 : Nat → Int32) (sof3 : Nat → Int32) (sof4 : Nat → Int32) (sof5 : Nat → Int32) (bd0 : Nat) (bd1 : Nat) (bd2 : Nat) (bdls : Nat → Nat → Int32) (bdms : Nat → Nat → Int32) (bdnd : Nat → Int32) (g0 : Nat) (g1 : Nat) (g2 : Nat) (g3 : Nat) (g4 : Nat) (g5 : Nat) (g6 : Nat) (g7 : Nat) (gn : Int32) (gtm : Int32) (gms : Int32) (gtk : Nat → Int32) (gaf : Nat → Nat → Int32) (gco : Nat → Nat → Int32) (gq0 : Nat) (gq1 : Nat) (gq2 : Nat) (gq3 : Nat) (gq4 : Nat) (gq5 : Nat) (gq6 : Nat) (gq7 : Nat) (gqn : Int32) (gqtm : Int32) (gqms : Int32) (gqtk : Nat → Int32) (gqaf : Nat → Nat → Int32) (gqco : Nat → Nat → Int32) (gqwy : Nat → Nat → Int64) (gqfi : Nat → Int64) (gqal : Nat → Int64) (gqre : Nat → Int64) (gqrn : Nat → Int64) (D : Nat → Nat → Nat) (EE : Nat → Nat) (htod : tod ≤ 100000) (hsn : sn ≤ 6) (hsl : sl ≤ 10) (hse : se ≤ 4) (hstk : TkOk sn sc1) (hssz : SzOk sl sc5) (hsrw : RwOk sl sn sc5 sc6) (hslt : LtOk sl sc7) (hsla : FtOk sl sc8) (hsls : LsOk sl sc5 sc6 sc1 sc7) (hbsz : bsz ≤ 60) (hbtm : btm ≤ 60) (hbft : bft ≤ 1) (hson : son ≤ 30) (hSc : ScR D sn sl se sc1 sc2 sc3 sc5 sc6 sc7 sc8 sc10 sc11) (hD : DOk D) (hsn9 : SnR se son sof0 sof1 sof2 sof3) (hlo : ∀ k, k < sn → blo k = nI (EE k) ∧ EE k ≤ 9) : CtI lau yX11_can cX11_can 4 (some .int) 6 0 0 gg kA [.ref L, .int tm, .int pl, .int kn] (mflat ((L, .inl (.inr (11, [.ref t, .ref rd, .ref s, .ref zz, .ref b, .ref bx, .ref tx, .ref so, .ref bd, .ref g, .ref gq, .ref v, .ref sk, .ref d, .ref fh, .ref sh, .ref ly, .int lsz, .int (nI tod)]))) :: (s, .inl (.inr (5, [.ref s0, .ref s1, .ref s2, .ref s3, .ref s4, .ref s5, .ref s6, .ref s7, .ref s8, .ref s9, .ref s10, .ref s11, .int (nI sn), .int (nI sl), .int (nI se)]))) :: (s1, .inl (.inl (kA 1, 6, .inl sc1))) :: (s2, .inl (.inl (kA 1, 6, .inl sc2))) :: (s3, .inl (.inl (kA 1, 6, .inl sc3))) :: (s5, .inl (.inl (kA 1, 10, .inl sc5))) :: (s6, .inr (kA 6, kA 1, 10, 5, .inl sc6)) :: (s7, .inl (.inl (kA 1, 10, .inl sc7))) :: (s8, .inr (kA 6, kA 1, 10, 2, .inl sc8)) :: (s10, .inl (.inl (kA 1, 4, .inl sc10))) :: (s11, .inl (.inl (kA 1, 4, .inl sc11))) :: (b, .inl (.inr (2, [.ref b0, .ref b1, .int (nI bsz), .int (nI btm), .int (nI bft), .int bkp]))) :: (b1, .inl (.inl (kA 1, 6, .inl blo))) :: (so, .inl (.inr (8, [.ref so0, .ref so1, .ref so2, .ref so3, .ref so4, .ref so5, .int (nI son)]))) :: (so0, .inl (.inl (kA 1, 30, .inl sof0))) :: (so1, .inl (.inl (kA 1, 30, .inl sof1))) :: (so2, .inl (.inl (kA 1, 30, .inl sof2))) :: (so3, .inl (.inl (kA 1, 30, .inl sof3))) :: (so4, .inl (.inl (kA 1, 30, .inl sof4))) :: (so5, .inl (.inl (kA 1, 30, .inl sof5))) :: (bd, .inl (.inr (0, [.ref bd0, .ref bd1, .ref bd2]))) :: (bd0, .inr (kA 6, kA 1, 4, 60, .inl bdls)) :: (bd1, .inr (kA 6, kA 1, 4, 60, .inl bdms)) :: (bd2, .inl (.inl (kA 3, 4, .inl bdnd))) :: (g, .inl (.inr (3, [.ref g0, .ref g1, .ref g2, .ref g3, .ref g4, .ref g5, .ref g6, .ref g7, .int gn, .int gtm, .int gms]))) :: (g0, .inl (.inl (kA 1, 6, .inl gtk))) :: (g1, .inr (kA 6, kA 1, 6, 2, .inl gaf)) :: (g2, .inr (kA 6, kA 1, 6, 60, .inl gco)) :: (gq, .inl (.inr (3, [.ref gq0, .ref gq1, .ref gq2, .ref gq3, .ref gq4, .ref gq5, .ref gq6, .ref gq7, .int gqn, .int gqtm, .int gqms]))) :: (gq0, .inl (.inl (kA 1, 10, .inl gqtk))) :: (gq1, .inr (kA 6, kA 1, 10, 2, .inl gqaf)) :: (gq2, .inr (kA 6, kA 1, 10, 60, .inl gqco)) :: (gq3, .inr (kA 7, kA 2, 8, 61, .inr gqwy)) :: (gq4, .inl (.inl (kA 2, 10, .inr (.inl gqfi)))) :: (gq5, .inl (.inl (kA 2, 2, .inr (.inl gqal)))) :: (gq6, .inl (.inl (kA 2, 2, .inr (.inl gqre)))) :: (gq7, .inl (.inl (kA 2, 2, .inr (.inl gqrn)))) :: [])) (S := (Nat → Nat → Int32) × (Nat → Nat → Int32) × (Nat → Int32) × Int32 × (Nat → Int32) × (Nat → Nat → Int32) × (Nat → Nat → Int32) × Int32 × Int32 × Int32 × (Nat → Int32) × (Nat → Nat → Int32) × (Nat → Nat → Int32) × (Nat → Nat → Int64) × (Nat → Int64) × (Nat → Int64) × (Nat → Int64) × (Nat → Int64)) (fun (r : Int32) ((y_bd0, y_bd1, y_bd2, y_g_8, y_g0, y_g1, y_g2, y_gq_8, y_gq_9, y_gq_10, y_gq0, y_gq1, y_gq2, y_gq3, y_gq4, y_gq5, y_gq6, y_gq7) : (Nat → Nat → Int32) × (Nat → Nat → Int32) × (Nat → Int32) × Int32 × (Nat → Int32) × (Nat → Nat → Int32) × (Nat → Nat → Int32) × Int32 × Int32 × Int32 × (Nat → Int32) × (Nat → Nat → Int32) × (Nat → Nat → Int32) × (Nat → Nat → Int64) × (Nat → Int64) × (Nat → Int64) × (Nat → Int64) × (Nat → Int64)) => CnC D EE sl son sof0 sof1 sof2 sof3 sof4 sof5 tm pl kn r) (fun ((y_bd0, y_bd1, y_bd2, y_g_8, y_g0, y_g1, y_g2, y_gq_8, y_gq_9, y_gq_10, y_gq0, y_gq1, y_gq2, y_gq3, y_gq4, y_gq5, y_gq6, y_gq7) : (Nat → Nat → Int32) × (Nat → Nat → Int32) × (Nat → Int32) × Int32 × (Nat → Int32) × (Nat → Nat → Int32) × (Nat → Nat → Int32) × Int32 × Int32 × Int32 × (Nat → Int32) × (Nat → Nat → Int32) × (Nat → Nat → Int32) × (Nat → Nat → Int64) × (Nat → Int64) × (Nat → Int64) × (Nat → Int64) × (Nat → Int64)) => mflat ((L, .inl (.inr (11, [.ref t, .ref rd, .ref s, .ref zz, .ref b, .ref bx, .ref tx, .ref so, .ref bd, .ref g, .ref gq, .ref v, .ref sk, .ref d, .ref fh, .ref sh, .ref ly, .int lsz, .int (nI tod)]))) :: (s, .inl (.inr (5, [.ref s0, .ref s1, .ref s2, .ref s3, .ref s4, .ref s5, .ref s6, .ref s7, .ref s8, .ref s9, .ref s10, .ref s11, .int (nI sn), .int (nI sl), .int (nI se)]))) :: (s1, .inl (.inl (kA 1, 6, .inl sc1))) :: (s2, .inl (.inl (kA 1, 6, .inl sc2))) :: (s3, .inl (.inl (kA 1, 6, .inl sc3))) :: (s5, .inl (.inl (kA 1, 10, .inl sc5))) :: (s6, .inr (kA 6, kA 1, 10, 5, .inl sc6)) :: (s7, .inl (.inl (kA 1, 10, .inl sc7))) :: (s8, .inr (kA 6, kA 1, 10, 2, .inl sc8)) :: (s10, .inl (.inl (kA 1, 4, .inl sc10))) :: (s11, .inl (.inl (kA 1, 4, .inl sc11))) :: (b, .inl (.inr (2, [.ref b0, .ref b1, .int (nI bsz), .int (nI btm), .int (nI bft), .int bkp]))) :: (b1, .inl (.inl (kA 1, 6, .inl blo))) :: (so, .inl (.inr (8, [.ref so0, .ref so1, .ref so2, .ref so3, .ref so4, .ref so5, .int (nI son)]))) :: (so0, .inl (.inl (kA 1, 30, .inl sof0))) :: (so1, .inl (.inl (kA 1, 30, .inl sof1))) :: (so2, .inl (.inl (kA 1, 30, .inl sof2))) :: (so3, .inl (.inl (kA 1, 30, .inl sof3))) :: (so4, .inl (.inl (kA 1, 30, .inl sof4))) :: (so5, .inl (.inl (kA 1, 30, .inl sof5))) :: (bd, .inl (.inr (0, [.ref bd0, .ref bd1, .ref bd2]))) :: (bd0, .inr (kA 6, kA 1, 4, 60, .inl y_bd0)) :: (bd1, .inr (kA 6, kA 1, 4, 60, .inl y_bd1)) :: (bd2, .inl (.inl (kA 3, 4, .inl y_bd2))) :: (g, .inl (.inr (3, [.ref g0, .ref g1, .ref g2, .ref g3, .ref g4, .ref g5, .ref g6, .ref g7, .int y_g_8, .int gtm, .int gms]))) :: (g0, .inl (.inl (kA 1, 6, .inl y_g0))) :: (g1, .inr (kA 6, kA 1, 6, 2, .inl y_g1)) :: (g2, .inr (kA 6, kA 1, 6, 60, .inl y_g2)) :: (gq, .inl (.inr (3, [.ref gq0, .ref gq1, .ref gq2, .ref gq3, .ref gq4, .ref gq5, .ref gq6, .ref gq7, .int y_gq_8, .int y_gq_9, .int y_gq_10]))) :: (gq0, .inl (.inl (kA 1, 10, .inl y_gq0))) :: (gq1, .inr (kA 6, kA 1, 10, 2, .inl y_gq1)) :: (gq2, .inr (kA 6, kA 1, 10, 60, .inl y_gq2)) :: (gq3, .inr (kA 7, kA 2, 8, 61, .inr y_gq3)) :: (gq4, .inl (.inl (kA 2, 10, .inr (.inl y_gq4)))) :: (gq5, .inl (.inl (kA 2, 2, .inr (.inl y_gq5)))) :: (gq6, .inl (.inl (kA 2, 2, .inr (.inl y_gq6)))) :: (gq7, .inl (.inl (kA 2, 2, .inr (.inl y_gq7)))) :: [])) := by
  refine nx_startI (by decide +kernel) (Nat.le_of_ble_eq_true rfl) ?_
  intro x hnm h hq
  have h : Ok x cX11_can RX11 kA (rmC 6 0 0) 4 := h
  show J x (mflat ((L, .inl (.inr (11, [.ref t, .ref rd, .ref s, .ref zz, .ref b, .ref bx, .ref tx, .ref so, .ref bd, .ref g, .ref gq, .ref v, .ref sk, .ref d, .ref fh, .ref sh, .ref ly, .int lsz, .int (nI tod)]))) :: (s, .inl (.inr (5, [.ref s0, .ref s1, .ref s2, .ref s3, .ref s4, .ref s5, .ref s6, .ref s7, .ref s8, .ref s9, .ref s10, .ref s11, .int (nI sn), .int (nI sl), .int (nI se)]))) :: (s1, .inl (.inl (kA 1, 6, .inl sc1))) :: (s2, .inl (.inl (kA 1, 6, .inl sc2))) :: (s3, .inl (.inl (kA 1, 6, .inl sc3))) :: (s5, .inl (.inl (kA 1, 10, .inl sc5))) :: (s6, .inr (kA 6, kA 1, 10, 5, .inl sc6)) :: (s7, .inl (.inl (kA 1, 10, .inl sc7))) :: (s8, .inr (kA 6, kA 1, 10, 2, .inl sc8)) :: (s10, .inl (.inl (kA 1, 4, .inl sc10))) :: (s11, .inl (.inl (kA 1, 4, .inl sc11))) :: (b, .inl (.inr (2, [.ref b0, .ref b1, .int (nI bsz), .int (nI btm), .int (nI bft), .int bkp]))) :: (b1, .inl (.inl (kA 1, 6, .inl blo))) :: (so, .inl (.inr (8, [.ref so0, .ref so1, .ref so2, .ref so3, .ref so4, .ref so5, .int (nI son)]))) :: (so0, .inl (.inl (kA 1, 30, .inl sof0))) :: (so1, .inl (.inl (kA 1, 30, .inl sof1))) :: (so2, .inl (.inl (kA 1, 30, .inl sof2))) :: (so3, .inl (.inl (kA 1, 30, .inl sof3))) :: (so4, .inl (.inl (kA 1, 30, .inl sof4))) :: (so5, .inl (.inl (kA 1, 30, .inl sof5))) :: (bd, .inl (.inr (0, [.ref bd0, .ref bd1, .ref bd2]))) :: (bd0, .inr (kA 6, kA 1, 4, 60, .inl bdls)) :: (bd1, .inr (kA 6, kA 1, 4, 60, .inl bdms)) :: (bd2, .inl (.inl (kA 3, 4, .inl bdnd))) :: (g, .inl (.inr (3, [.ref g0, .ref g1, .ref g2, .ref g3, .ref g4, .ref g5, .ref g6, .ref g7, .int gn, .int gtm, .int gms]))) :: (g0, .inl (.inl (kA 1, 6, .inl gtk))) :: (g1, .inr (kA 6, kA 1, 6, 2, .inl gaf)) :: (g2, .inr (kA 6, kA 1, 6, 60, .inl gco)) :: (gq, .inl (.inr (3, [.ref gq0, .ref gq1, .ref gq2, .ref gq3, .ref gq4, .ref gq5, .ref gq6, .ref gq7, .int gqn, .int gqtm, .int gqms]))) :: (gq0, .inl (.inl (kA 1, 10, .inl gqtk))) :: (gq1, .inr (kA 6, kA 1, 10, 2, .inl gqaf)) :: (gq2, .inr (kA 6, kA 1, 10, 60, .inl gqco)) :: (gq3, .inr (kA 7, kA 2, 8, 61, .inr gqwy)) :: (gq4, .inl (.inl (kA 2, 10, .inr (.inl gqfi)))) :: (gq5, .inl (.inl (kA 2, 2, .inr (.inl gqal)))) :: (gq6, .inl (.inl (kA 2, 2, .inr (.inl gqre)))) :: (gq7, .inl (.inl (kA 2, 2, .inr (.inl gqrn)))) :: [])) [(0, .ref L), (1, .int tm), (2, .int pl), (3, .int kn)] 0 0 0 []
  refine j_iload_n h 1 rfl rfl dX11_can_0 ?_
  refine j_if_lt h 20 dX11_can_1 (by decide) (fun z1000762 => ?_) (fun z1000762 => ?_)
  · show J x (mflat ((L, .inl (.inr (11, [.ref t, .ref rd, .ref s, .ref zz, .ref b, .ref bx, .ref tx, .ref so, .ref bd, .ref g, .ref gq, .ref v, .ref sk, .ref d, .ref fh, .ref sh, .ref ly, .int lsz, .int (nI tod)]))) :: (s, .inl (.inr (5, [.ref s0, .ref s1, .ref s2, .ref s3, .ref s4, .ref s5, .ref s6, .ref s7, .ref s8, .ref s9, .ref s10, .ref s11, .int (nI sn), .int (nI sl), .int (nI se)]))) :: (s1, .inl (.inl (kA 1, 6, .inl sc1))) :: (s2, .inl (.inl (kA 1, 6, .inl sc2))) :: (s3, .inl (.inl (kA 1, 6, .inl sc3))) :: (s5, .inl (.inl (kA 1, 10, .inl sc5))) :: (s6, .inr (kA 6, kA 1, 10, 5, .inl sc6)) :: (s7, .inl (.inl (kA 1, 10, .inl sc7))) :: (s8, .inr (kA 6, kA 1, 10, 2, .inl sc8)) :: (s10, .inl (.inl (kA 1, 4, .inl sc10))) :: (s11, .inl (.inl (kA 1, 4, .inl sc11))) :: (b, .inl (.inr (2, [.ref b0, .ref b1, .int (nI bsz), .int (nI btm), .int (nI bft), .int bkp]))) :: (b1, .inl (.inl (kA 1, 6, .inl blo))) :: (so, .inl (.inr (8, [.ref so0, .ref so1, .ref so2, .ref so3, .ref so4, .ref so5, .int (nI son)]))) :: (so0, .inl (.inl (kA 1, 30, .inl sof0))) :: (so1, .inl (.inl (kA 1, 30, .inl sof1))) :: (so2, .inl (.inl (kA 1, 30, .inl sof2))) :: (so3, .inl (.inl (kA 1, 30, .inl sof3))) :: (so4, .inl (.inl (kA 1, 30, .inl sof4))) :: (so5, .inl (.inl (kA 1, 30, .inl sof5))) :: (bd, .inl (.inr (0, [.ref bd0, .ref bd1, .ref bd2]))) :: (bd0, .inr (kA 6, kA 1, 4, 60, .inl bdls)) :: (bd1, .inr (kA 6, kA 1, 4, 60, .inl bdms)) :: (bd2, .inl (.inl (kA 3, 4, .inl bdnd))) :: (g, .inl (.inr (3, [.ref g0, .ref g1, .ref g2, .ref g3, .ref g4, .ref g5, .ref g6, .ref g7, .int gn, .int gtm, .int gms]))) :: (g0, .inl (.inl (kA 1, 6, .inl gtk))) :: (g1, .inr (kA 6, kA 1, 6, 2, .inl gaf)) :: (g2, .inr (kA 6, kA 1, 6, 60, .inl gco)) :: (gq, .inl (.inr (3, [.ref gq0, .ref gq1, .ref gq2, .ref gq3, .ref gq4, .ref gq5, .ref gq6, .ref gq7, .int gqn, .int gqtm, .int gqms]))) :: (gq0, .inl (.inl (kA 1, 10, .inl gqtk))) :: (gq1, .inr (kA 6, kA 1, 10, 2, .inl gqaf)) :: (gq2, .inr (kA 6, kA 1, 10, 60, .inl gqco)) :: (gq3, .inr (kA 7, kA 2, 8, 61, .inr gqwy)) :: (gq4, .inl (.inl (kA 2, 10, .inr (.inl gqfi)))) :: (gq5, .inl (.inl (kA 2, 2, .inr (.inl gqal)))) :: (gq6, .inl (.inl (kA 2, 2, .inr (.inl gqre)))) :: (gq7, .inl (.inl (kA 2, 2, .inr (.inl gqrn)))) :: [])) [(0, .ref L), (1, .int tm), (2, .int pl), (3, .int kn)] 0 0 20 []
    refine j_iconst (v := (-1)) h (by decide) dX11_can_20 ?_
    exact jm_iret h hq dX11_can_21 (bdls, bdms, bdnd, gn, gtk, gaf, gco, gqn, gqtm, gqms, gqtk, gqaf, gqco, gqwy, gqfi, gqal, gqre, gqrn) [0, 1, 2, 3, 4, 5, 6, 7, 8, 9, 10, 11, 12, 13, 14, 15, 16, 17, 18, 19, 20, 21, 22, 23, 24, 25, 26, 27, 28, 29, 30, 31, 32, 33, 34, 35, 36] rfl (by decide) (show CnC D EE sl son sof0 sof1 sof2 sof3 sof4 sof5 tm pl kn (-1) from Or.inr ⟨fun T p h9 h8 h7 h6 => (by first | exact nI_pos (n := T) (by omega) (h8 ▸ z1000762) | exact nI_pos (n := p) (by omega) (h6 ▸ z1000762) | exact absurd ((nI_eq (by omega) (by omega)).mp h8) (by omega) | exact absurd ((nI_eq (by omega) (by omega)).mp h6) (by omega)), rfl⟩) (Nat.le_of_ble_eq_true rfl) (Nat.le_of_ble_eq_true rfl)
  · obtain ⟨j1000763, hj1000763, rfl⟩ := nI_of z1000762
    show J x (mflat ((L, .inl (.inr (11, [.ref t, .ref rd, .ref s, .ref zz, .ref b, .ref bx, .ref tx, .ref so, .ref bd, .ref g, .ref gq, .ref v, .ref sk, .ref d, .ref fh, .ref sh, .ref ly, .int lsz, .int (nI tod)]))) :: (s, .inl (.inr (5, [.ref s0, .ref s1, .ref s2, .ref s3, .ref s4, .ref s5, .ref s6, .ref s7, .ref s8, .ref s9, .ref s10, .ref s11, .int (nI sn), .int (nI sl), .int (nI se)]))) :: (s1, .inl (.inl (kA 1, 6, .inl sc1))) :: (s2, .inl (.inl (kA 1, 6, .inl sc2))) :: (s3, .inl (.inl (kA 1, 6, .inl sc3))) :: (s5, .inl (.inl (kA 1, 10, .inl sc5))) :: (s6, .inr (kA 6, kA 1, 10, 5, .inl sc6)) :: (s7, .inl (.inl (kA 1, 10, .inl sc7))) :: (s8, .inr (kA 6, kA 1, 10, 2, .inl sc8)) :: (s10, .inl (.inl (kA 1, 4, .inl sc10))) :: (s11, .inl (.inl (kA 1, 4, .inl sc11))) :: (b, .inl (.inr (2, [.ref b0, .ref b1, .int (nI bsz), .int (nI btm), .int (nI bft), .int bkp]))) :: (b1, .inl (.inl (kA 1, 6, .inl blo))) :: (so, .inl (.inr (8, [.ref so0, .ref so1, .ref so2, .ref so3, .ref so4, .ref so5, .int (nI son)]))) :: (so0, .inl (.inl (kA 1, 30, .inl sof0))) :: (so1, .inl (.inl (kA 1, 30, .inl sof1))) :: (so2, .inl (.inl (kA 1, 30, .inl sof2))) :: (so3, .inl (.inl (kA 1, 30, .inl sof3))) :: (so4, .inl (.inl (kA 1, 30, .inl sof4))) :: (so5, .inl (.inl (kA 1, 30, .inl sof5))) :: (bd, .inl (.inr (0, [.ref bd0, .ref bd1, .ref bd2]))) :: (bd0, .inr (kA 6, kA 1, 4, 60, .inl bdls)) :: (bd1, .inr (kA 6, kA 1, 4, 60, .inl bdms)) :: (bd2, .inl (.inl (kA 3, 4, .inl bdnd))) :: (g, .inl (.inr (3, [.ref g0, .ref g1, .ref g2, .ref g3, .ref g4, .ref g5, .ref g6, .ref g7, .int gn, .int gtm, .int gms]))) :: (g0, .inl (.inl (kA 1, 6, .inl gtk))) :: (g1, .inr (kA 6, kA 1, 6, 2, .inl gaf)) :: (g2, .inr (kA 6, kA 1, 6, 60, .inl gco)) :: (gq, .inl (.inr (3, [.ref gq0, .ref gq1, .ref gq2, .ref gq3, .ref gq4, .ref gq5, .ref gq6, .ref gq7, .int gqn, .int gqtm, .int gqms]))) :: (gq0, .inl (.inl (kA 1, 10, .inl gqtk))) :: (gq1, .inr (kA 6, kA 1, 10, 2, .inl gqaf)) :: (gq2, .inr (kA 6, kA 1, 10, 60, .inl gqco)) :: (gq3, .inr (kA 7, kA 2, 8, 61, .inr gqwy)) :: (gq4, .inl (.inl (kA 2, 10, .inr (.inl gqfi)))) :: (gq5, .inl (.inl (kA 2, 2, .inr (.inl gqal)))) :: (gq6, .inl (.inl (kA 2, 2, .inr (.inl gqre)))) :: (gq7, .inl (.inl (kA 2, 2, .inr (.inl gqrn)))) :: [])) [(0, .ref L), (1, .int (nI j1000763)), (2, .int pl), (3, .int kn)] 0 0 4 []
    refine j_iload_n h 1 rfl rfl dX11_can_4 ?_
    refine j_bipush (v := 60) h (by decide) dX11_can_5 ?_
    refine j_icmp_gt h 20 dX11_can_7 (by decide) (fun z1000764 => ?_) (fun z1000764 => ?_)
    · have z1000764n : 60 < j1000763 := (nI_ltI (a := 60) (b := j1000763) (by omega) (by omega)).mp z1000764
      refine j_iconst (v := (-1)) h (by decide) dX11_can_20 ?_
      exact jm_iret h hq dX11_can_21 (bdls, bdms, bdnd, gn, gtk, gaf, gco, gqn, gqtm, gqms, gqtk, gqaf, gqco, gqwy, gqfi, gqal, gqre, gqrn) [0, 1, 2, 3, 4, 5, 6, 7, 8, 9, 10, 11, 12, 13, 14, 15, 16, 17, 18, 19, 20, 21, 22, 23, 24, 25, 26, 27, 28, 29, 30, 31, 32, 33, 34, 35, 36] rfl (by decide) (show CnC D EE sl son sof0 sof1 sof2 sof3 sof4 sof5 (nI j1000763) pl kn (-1) from Or.inr ⟨fun T p h9 h8 h7 h6 => (by first | exact nI_pos (n := T) (by omega) (h8 ▸ z1000764) | exact nI_pos (n := p) (by omega) (h6 ▸ z1000764) | exact absurd ((nI_eq (by omega) (by omega)).mp h8) (by omega) | exact absurd ((nI_eq (by omega) (by omega)).mp h6) (by omega)), rfl⟩) (Nat.le_of_ble_eq_true rfl) (Nat.le_of_ble_eq_true rfl)
    · have z1000764n : ¬ 60 < j1000763 := fun q9 => z1000764 ((nI_ltI (a := 60) (b := j1000763) (by omega) (by omega)).mpr q9)
      refine j_iload_n h 2 rfl rfl dX11_can_10 ?_
      refine j_if_lt h 20 dX11_can_11 (by decide) (fun z1000765 => ?_) (fun z1000765 => ?_)
      · show J x (mflat ((L, .inl (.inr (11, [.ref t, .ref rd, .ref s, .ref zz, .ref b, .ref bx, .ref tx, .ref so, .ref bd, .ref g, .ref gq, .ref v, .ref sk, .ref d, .ref fh, .ref sh, .ref ly, .int lsz, .int (nI tod)]))) :: (s, .inl (.inr (5, [.ref s0, .ref s1, .ref s2, .ref s3, .ref s4, .ref s5, .ref s6, .ref s7, .ref s8, .ref s9, .ref s10, .ref s11, .int (nI sn), .int (nI sl), .int (nI se)]))) :: (s1, .inl (.inl (kA 1, 6, .inl sc1))) :: (s2, .inl (.inl (kA 1, 6, .inl sc2))) :: (s3, .inl (.inl (kA 1, 6, .inl sc3))) :: (s5, .inl (.inl (kA 1, 10, .inl sc5))) :: (s6, .inr (kA 6, kA 1, 10, 5, .inl sc6)) :: (s7, .inl (.inl (kA 1, 10, .inl sc7))) :: (s8, .inr (kA 6, kA 1, 10, 2, .inl sc8)) :: (s10, .inl (.inl (kA 1, 4, .inl sc10))) :: (s11, .inl (.inl (kA 1, 4, .inl sc11))) :: (b, .inl (.inr (2, [.ref b0, .ref b1, .int (nI bsz), .int (nI btm), .int (nI bft), .int bkp]))) :: (b1, .inl (.inl (kA 1, 6, .inl blo))) :: (so, .inl (.inr (8, [.ref so0, .ref so1, .ref so2, .ref so3, .ref so4, .ref so5, .int (nI son)]))) :: (so0, .inl (.inl (kA 1, 30, .inl sof0))) :: (so1, .inl (.inl (kA 1, 30, .inl sof1))) :: (so2, .inl (.inl (kA 1, 30, .inl sof2))) :: (so3, .inl (.inl (kA 1, 30, .inl sof3))) :: (so4, .inl (.inl (kA 1, 30, .inl sof4))) :: (so5, .inl (.inl (kA 1, 30, .inl sof5))) :: (bd, .inl (.inr (0, [.ref bd0, .ref bd1, .ref bd2]))) :: (bd0, .inr (kA 6, kA 1, 4, 60, .inl bdls)) :: (bd1, .inr (kA 6, kA 1, 4, 60, .inl bdms)) :: (bd2, .inl (.inl (kA 3, 4, .inl bdnd))) :: (g, .inl (.inr (3, [.ref g0, .ref g1, .ref g2, .ref g3, .ref g4, .ref g5, .ref g6, .ref g7, .int gn, .int gtm, .int gms]))) :: (g0, .inl (.inl (kA 1, 6, .inl gtk))) :: (g1, .inr (kA 6, kA 1, 6, 2, .inl gaf)) :: (g2, .inr (kA 6, kA 1, 6, 60, .inl gco)) :: (gq, .inl (.inr (3, [.ref gq0, .ref gq1, .ref gq2, .ref gq3, .ref gq4, .ref gq5, .ref gq6, .ref gq7, .int gqn, .int gqtm, .int gqms]))) :: (gq0, .inl (.inl (kA 1, 10, .inl gqtk))) :: (gq1, .inr (kA 6, kA 1, 10, 2, .inl gqaf)) :: (gq2, .inr (kA 6, kA 1, 10, 60, .inl gqco)) :: (gq3, .inr (kA 7, kA 2, 8, 61, .inr gqwy)) :: (gq4, .inl (.inl (kA 2, 10, .inr (.inl gqfi)))) :: (gq5, .inl (.inl (kA 2, 2, .inr (.inl gqal)))) :: (gq6, .inl (.inl (kA 2, 2, .inr (.inl gqre)))) :: (gq7, .inl (.inl (kA 2, 2, .inr (.inl gqrn)))) :: [])) [(0, .ref L), (1, .int (nI j1000763)), (2, .int pl), (3, .int kn)] 0 0 20 []
        refine j_iconst (v := (-1)) h (by decide) dX11_can_20 ?_
        exact jm_iret h hq dX11_can_21 (bdls, bdms, bdnd, gn, gtk, gaf, gco, gqn, gqtm, gqms, gqtk, gqaf, gqco, gqwy, gqfi, gqal, gqre, gqrn) [0, 1, 2, 3, 4, 5, 6, 7, 8, 9, 10, 11, 12, 13, 14, 15, 16, 17, 18, 19, 20, 21, 22, 23, 24, 25, 26, 27, 28, 29, 30, 31, 32, 33, 34, 35, 36] rfl (by decide) (show CnC D EE sl son sof0 sof1 sof2 sof3 sof4 sof5 (nI j1000763) pl kn (-1) from Or.inr ⟨fun T p h9 h8 h7 h6 => (by first | exact nI_pos (n := T) (by omega) (h8 ▸ z1000765) | exact nI_pos (n := p) (by omega) (h6 ▸ z1000765) | exact absurd ((nI_eq (by omega) (by omega)).mp h8) (by omega) | exact absurd ((nI_eq (by omega) (by omega)).mp h6) (by omega)), rfl⟩) (Nat.le_of_ble_eq_true rfl) (Nat.le_of_ble_eq_true rfl)
      · obtain ⟨j1000766, hj1000766, rfl⟩ := nI_of z1000765
        show J x (mflat ((L, .inl (.inr (11, [.ref t, .ref rd, .ref s, .ref zz, .ref b, .ref bx, .ref tx, .ref so, .ref bd, .ref g, .ref gq, .ref v, .ref sk, .ref d, .ref fh, .ref sh, .ref ly, .int lsz, .int (nI tod)]))) :: (s, .inl (.inr (5, [.ref s0, .ref s1, .ref s2, .ref s3, .ref s4, .ref s5, .ref s6, .ref s7, .ref s8, .ref s9, .ref s10, .ref s11, .int (nI sn), .int (nI sl), .int (nI se)]))) :: (s1, .inl (.inl (kA 1, 6, .inl sc1))) :: (s2, .inl (.inl (kA 1, 6, .inl sc2))) :: (s3, .inl (.inl (kA 1, 6, .inl sc3))) :: (s5, .inl (.inl (kA 1, 10, .inl sc5))) :: (s6, .inr (kA 6, kA 1, 10, 5, .inl sc6)) :: (s7, .inl (.inl (kA 1, 10, .inl sc7))) :: (s8, .inr (kA 6, kA 1, 10, 2, .inl sc8)) :: (s10, .inl (.inl (kA 1, 4, .inl sc10))) :: (s11, .inl (.inl (kA 1, 4, .inl sc11))) :: (b, .inl (.inr (2, [.ref b0, .ref b1, .int (nI bsz), .int (nI btm), .int (nI bft), .int bkp]))) :: (b1, .inl (.inl (kA 1, 6, .inl blo))) :: (so, .inl (.inr (8, [.ref so0, .ref so1, .ref so2, .ref so3, .ref so4, .ref so5, .int (nI son)]))) :: (so0, .inl (.inl (kA 1, 30, .inl sof0))) :: (so1, .inl (.inl (kA 1, 30, .inl sof1))) :: (so2, .inl (.inl (kA 1, 30, .inl sof2))) :: (so3, .inl (.inl (kA 1, 30, .inl sof3))) :: (so4, .inl (.inl (kA 1, 30, .inl sof4))) :: (so5, .inl (.inl (kA 1, 30, .inl sof5))) :: (bd, .inl (.inr (0, [.ref bd0, .ref bd1, .ref bd2]))) :: (bd0, .inr (kA 6, kA 1, 4, 60, .inl bdls)) :: (bd1, .inr (kA 6, kA 1, 4, 60, .inl bdms)) :: (bd2, .inl (.inl (kA 3, 4, .inl bdnd))) :: (g, .inl (.inr (3, [.ref g0, .ref g1, .ref g2, .ref g3, .ref g4, .ref g5, .ref g6, .ref g7, .int gn, .int gtm, .int gms]))) :: (g0, .inl (.inl (kA 1, 6, .inl gtk))) :: (g1, .inr (kA 6, kA 1, 6, 2, .inl gaf)) :: (g2, .inr (kA 6, kA 1, 6, 60, .inl gco)) :: (gq, .inl (.inr (3, [.ref gq0, .ref gq1, .ref gq2, .ref gq3, .ref gq4, .ref gq5, .ref gq6, .ref gq7, .int gqn, .int gqtm, .int gqms]))) :: (gq0, .inl (.inl (kA 1, 10, .inl gqtk))) :: (gq1, .inr (kA 6, kA 1, 10, 2, .inl gqaf)) :: (gq2, .inr (kA 6, kA 1, 10, 60, .inl gqco)) :: (gq3, .inr (kA 7, kA 2, 8, 61, .inr gqwy)) :: (gq4, .inl (.inl (kA 2, 10, .inr (.inl gqfi)))) :: (gq5, .inl (.inl (kA 2, 2, .inr (.inl gqal)))) :: (gq6, .inl (.inl (kA 2, 2, .inr (.inl gqre)))) :: (gq7, .inl (.inl (kA 2, 2, .inr (.inl gqrn)))) :: [])) [(0, .ref L), (1, .int (nI j1000763)), (2, .int (nI j1000766)), (3, .int kn)] 0 0 14 []
        refine j_iload_n h 2 rfl rfl dX11_can_14 ?_
        refine j_bipush (v := 60) h (by decide) dX11_can_15 ?_
        refine j_icmp_lt h 22 dX11_can_17 (by decide) (fun z1000767 => ?_) (fun z1000767 => ?_)
        · have z1000767n : j1000766 < 60 := (nI_ltI (a := j1000766) (b := 60) (by omega) (by omega)).mp z1000767
          refine j_aload_n h 0 rfl rfl dX11_can_22 ?_
          refine j_iload_n h 1 rfl rfl dX11_can_23 ?_
          refine j_iload_n h 3 rfl rfl dX11_can_24 ?_
          refine jm_callVi (np := 2) (isC := [0, 1, 2, 3, 4, 5, 6, 7, 8, 9, 10, 11, 12, 13, 14, 15, 16, 17, 18, 19, 20, 21, 22, 23, 24, 25, 26, 27, 28, 29, 30, 31]) (isR := [32, 33, 34, 35, 36]) (wc := ((L, .inl (.inr (11, [.ref t, .ref rd, .ref s, .ref zz, .ref b, .ref bx, .ref tx, .ref so, .ref bd, .ref g, .ref gq, .ref v, .ref sk, .ref d, .ref fh, .ref sh, .ref ly, .int lsz, .int (nI tod)]))) :: (s, .inl (.inr (5, [.ref s0, .ref s1, .ref s2, .ref s3, .ref s4, .ref s5, .ref s6, .ref s7, .ref s8, .ref s9, .ref s10, .ref s11, .int (nI sn), .int (nI sl), .int (nI se)]))) :: (s1, .inl (.inl (kA 1, 6, .inl sc1))) :: (s2, .inl (.inl (kA 1, 6, .inl sc2))) :: (s3, .inl (.inl (kA 1, 6, .inl sc3))) :: (s5, .inl (.inl (kA 1, 10, .inl sc5))) :: (s6, .inr (kA 6, kA 1, 10, 5, .inl sc6)) :: (s7, .inl (.inl (kA 1, 10, .inl sc7))) :: (s8, .inr (kA 6, kA 1, 10, 2, .inl sc8)) :: (s10, .inl (.inl (kA 1, 4, .inl sc10))) :: (s11, .inl (.inl (kA 1, 4, .inl sc11))) :: (b, .inl (.inr (2, [.ref b0, .ref b1, .int (nI bsz), .int (nI btm), .int (nI bft), .int bkp]))) :: (b1, .inl (.inl (kA 1, 6, .inl blo))) :: (so, .inl (.inr (8, [.ref so0, .ref so1, .ref so2, .ref so3, .ref so4, .ref so5, .int (nI son)]))) :: (so0, .inl (.inl (kA 1, 30, .inl sof0))) :: (so1, .inl (.inl (kA 1, 30, .inl sof1))) :: (so2, .inl (.inl (kA 1, 30, .inl sof2))) :: (so3, .inl (.inl (kA 1, 30, .inl sof3))) :: (so4, .inl (.inl (kA 1, 30, .inl sof4))) :: (so5, .inl (.inl (kA 1, 30, .inl sof5))) :: (bd, .inl (.inr (0, [.ref bd0, .ref bd1, .ref bd2]))) :: (bd0, .inr (kA 6, kA 1, 4, 60, .inl bdls)) :: (bd1, .inr (kA 6, kA 1, 4, 60, .inl bdms)) :: (bd2, .inl (.inl (kA 3, 4, .inl bdnd))) :: (g, .inl (.inr (3, [.ref g0, .ref g1, .ref g2, .ref g3, .ref g4, .ref g5, .ref g6, .ref g7, .int gn, .int gtm, .int gms]))) :: (g0, .inl (.inl (kA 1, 6, .inl gtk))) :: (g1, .inr (kA 6, kA 1, 6, 2, .inl gaf)) :: (g2, .inr (kA 6, kA 1, 6, 60, .inl gco)) :: (gq, .inl (.inr (3, [.ref gq0, .ref gq1, .ref gq2, .ref gq3, .ref gq4, .ref gq5, .ref gq6, .ref gq7, .int gqn, .int gqtm, .int gqms]))) :: (gq0, .inl (.inl (kA 1, 10, .inl gqtk))) :: (gq1, .inr (kA 6, kA 1, 10, 2, .inl gqaf)) :: (gq2, .inr (kA 6, kA 1, 10, 60, .inl gqco)) :: [])) (wr := [(gq3, .inr (kA 7, kA 2, 8, 61, .inr gqwy)), (gq4, .inl (.inl (kA 2, 10, .inr (.inl gqfi)))), (gq5, .inl (.inl (kA 2, 2, .inr (.inl gqal)))), (gq6, .inl (.inl (kA 2, 2, .inr (.inl gqre)))), (gq7, .inl (.inl (kA 2, 2, .inr (.inl gqrn))))]) (rest := []) (As := [.int (nI j1000763), .int kn]) (q0 := 0) h (s_X11_fillMeantF _ _ kA L j1000763 kn t rd s zz b bx tx so bd g gq v sk d fh sh ly lsz tod s0 s1 s2 s3 s4 s5 s6 s7 s8 s9 s10 s11 sn sl se sc1 sc2 sc3 sc5 sc6 sc7 sc8 sc10 sc11 b0 b1 bsz btm bft bkp blo so0 so1 so2 so3 so4 so5 son sof0 sof1 sof2 sof3 sof4 sof5 bd0 bd1 bd2 bdls bdms bdnd g0 g1 g2 g3 g4 g5 g6 g7 gn gtm gms gtk gaf gco gq0 gq1 gq2 gq3 gq4 gq5 gq6 gq7 gqn gqtm gqms gqtk gqaf gqco D EE (show tod ≤ 100000 by first | assumption | omega | exact RoOk_step (by assumption) (by omega) | exact RoOk_mono (by assumption) (by omega) | exact RoOk_zero _ _ | exact LtOk_of (by assumption) | exact LsOk_cong (by assumption) (by assumption) (by assumption) (by omega) | (intro _; assumption)) (show sn ≤ 6 by first | assumption | omega | exact RoOk_step (by assumption) (by omega) | exact RoOk_mono (by assumption) (by omega) | exact RoOk_zero _ _ | exact LtOk_of (by assumption) | exact LsOk_cong (by assumption) (by assumption) (by assumption) (by omega) | (intro _; assumption)) (show sl ≤ 10 by first | assumption | omega | exact RoOk_step (by assumption) (by omega) | exact RoOk_mono (by assumption) (by omega) | exact RoOk_zero _ _ | exact LtOk_of (by assumption) | exact LsOk_cong (by assumption) (by assumption) (by assumption) (by omega) | (intro _; assumption)) (show se ≤ 4 by first | assumption | omega | exact RoOk_step (by assumption) (by omega) | exact RoOk_mono (by assumption) (by omega) | exact RoOk_zero _ _ | exact LtOk_of (by assumption) | exact LsOk_cong (by assumption) (by assumption) (by assumption) (by omega) | (intro _; assumption)) (show TkOk sn sc1 by first | assumption | omega | exact RoOk_step (by assumption) (by omega) | exact RoOk_mono (by assumption) (by omega) | exact RoOk_zero _ _ | exact LtOk_of (by assumption) | exact LsOk_cong (by assumption) (by assumption) (by assumption) (by omega) | (intro _; assumption)) (show SzOk sl sc5 by first | assumption | omega | exact RoOk_step (by assumption) (by omega) | exact RoOk_mono (by assumption) (by omega) | exact RoOk_zero _ _ | exact LtOk_of (by assumption) | exact LsOk_cong (by assumption) (by assumption) (by assumption) (by omega) | (intro _; assumption)) (show RwOk sl sn sc5 sc6 by first | assumption | omega | exact RoOk_step (by assumption) (by omega) | exact RoOk_mono (by assumption) (by omega) | exact RoOk_zero _ _ | exact LtOk_of (by assumption) | exact LsOk_cong (by assumption) (by assumption) (by assumption) (by omega) | (intro _; assumption)) (show LtOk sl sc7 by first | assumption | omega | exact RoOk_step (by assumption) (by omega) | exact RoOk_mono (by assumption) (by omega) | exact RoOk_zero _ _ | exact LtOk_of (by assumption) | exact LsOk_cong (by assumption) (by assumption) (by assumption) (by omega) | (intro _; assumption)) (show FtOk sl sc8 by first | assumption | omega | exact RoOk_step (by assumption) (by omega) | exact RoOk_mono (by assumption) (by omega) | exact RoOk_zero _ _ | exact LtOk_of (by assumption) | exact LsOk_cong (by assumption) (by assumption) (by assumption) (by omega) | (intro _; assumption)) (show LsOk sl sc5 sc6 sc1 sc7 by first | assumption | omega | exact RoOk_step (by assumption) (by omega) | exact RoOk_mono (by assumption) (by omega) | exact RoOk_zero _ _ | exact LtOk_of (by assumption) | exact LsOk_cong (by assumption) (by assumption) (by assumption) (by omega) | (intro _; assumption)) (show bsz ≤ 60 by first | assumption | omega | exact RoOk_step (by assumption) (by omega) | exact RoOk_mono (by assumption) (by omega) | exact RoOk_zero _ _ | exact LtOk_of (by assumption) | exact LsOk_cong (by assumption) (by assumption) (by assumption) (by omega) | (intro _; assumption)) (show btm ≤ 60 by first | assumption | omega | exact RoOk_step (by assumption) (by omega) | exact RoOk_mono (by assumption) (by omega) | exact RoOk_zero _ _ | exact LtOk_of (by assumption) | exact LsOk_cong (by assumption) (by assumption) (by assumption) (by omega) | (intro _; assumption)) (show bft ≤ 1 by first | assumption | omega | exact RoOk_step (by assumption) (by omega) | exact RoOk_mono (by assumption) (by omega) | exact RoOk_zero _ _ | exact LtOk_of (by assumption) | exact LsOk_cong (by assumption) (by assumption) (by assumption) (by omega) | (intro _; assumption)) (show son ≤ 30 by first | assumption | omega | exact RoOk_step (by assumption) (by omega) | exact RoOk_mono (by assumption) (by omega) | exact RoOk_zero _ _ | exact LtOk_of (by assumption) | exact LsOk_cong (by assumption) (by assumption) (by assumption) (by omega) | (intro _; assumption)) (show ScR D sn sl se sc1 sc2 sc3 sc5 sc6 sc7 sc8 sc10 sc11 by first | assumption | omega | exact RoOk_step (by assumption) (by omega) | exact RoOk_mono (by assumption) (by omega) | exact RoOk_zero _ _ | exact LtOk_of (by assumption) | exact LsOk_cong (by assumption) (by assumption) (by assumption) (by omega) | (intro _; assumption)) (show DOk D by first | assumption | omega | exact RoOk_step (by assumption) (by omega) | exact RoOk_mono (by assumption) (by omega) | exact RoOk_zero _ _ | exact LtOk_of (by assumption) | exact LsOk_cong (by assumption) (by assumption) (by assumption) (by omega) | (intro _; assumption)) (show SnR 4 son sof0 sof1 sof2 sof3 from (fun j9 h9 => by have z9 := hsn9 j9 h9; exact ⟨⟨z9.1.1, by have y9 := z9.1.2; omega⟩, z9.2⟩)) (show ∀ k, k < sn → blo k = nI (EE k) ∧ EE k ≤ 9 by first | assumption | omega | exact RoOk_step (by assumption) (by omega) | exact RoOk_mono (by assumption) (by omega) | exact RoOk_zero _ _ | exact LtOk_of (by assumption) | exact LsOk_cong (by assumption) (by assumption) (by assumption) (by omega) | (intro _; assumption)) (show j1000763 ≤ 60 by first | assumption | omega | exact RoOk_step (by assumption) (by omega) | exact RoOk_mono (by assumption) (by omega) | exact RoOk_zero _ _ | exact LtOk_of (by assumption) | exact LsOk_cong (by assumption) (by assumption) (by assumption) (by omega) | (intro _; assumption))) tw_1094 tw_1096 tw_34 tw_87 tw_1097 (by decide +kernel) rfl ⟨Nat.le_of_ble_eq_true rfl, Nat.le_of_ble_eq_true rfl⟩ rfl rfl (by decide) rfl rfl (by decide) (by decide) (Nat.le_of_ble_eq_true rfl) rfl ⟨Nat.le_of_ble_eq_true rfl, Nat.le_of_ble_eq_true rfl⟩ dX11_can_25 ?_
          rintro r1000781 ⟨q1000768, q1000769, q1000770, q1000771, q1000772, q1000773, q1000774, q1000775, q1000776, q1000777, q1000778, q1000779⟩ e1000780
          obtain ⟨p1000782, p1000783, p1000784, p1000785⟩ := e1000780
          subst p1000782
          replace p1000783 : q1000768 ≤ 1 := p1000783
          replace p1000784 : q1000768 = 1 → q1000776 = nI sl ∧ (∀ e, e < 4 → (nkB (cnF sof4 sof5 kn) (xr sof0) (xr sof1) (xr sof2) (xr sof3) ((fun _ => 0), (fun _ _ => 0), (fun _ _ => 0)) son).1 e = 1 → lqS (nkB (cnF sof4 sof5 kn) (xr sof0) (xr sof1) (xr sof2) (xr sof3) ((fun _ => 0), (fun _ _ => 0), (fun _ _ => 0)) son).2.1 e j1000763 (60 - j1000763) = 0) ∧ GdR sl j1000763 (ltS D) (aL D) (lcT D (fsC D EE (nkB (cnF sof4 sof5 kn) (xr sof0) (xr sof1) (xr sof2) (xr sof3) ((fun _ => 0), (fun _ _ => 0), (fun _ _ => 0)) son).1 (nkB (cnF sof4 sof5 kn) (xr sof0) (xr sof1) (xr sof2) (xr sof3) ((fun _ => 0), (fun _ _ => 0), (fun _ _ => 0)) son).2.1 (nkB (cnF sof4 sof5 kn) (xr sof0) (xr sof1) (xr sof2) (xr sof3) ((fun _ => 0), (fun _ _ => 0), (fun _ _ => 0)) son).2.2 j1000763) 1023 j1000763) q1000777 q1000778 q1000779 := p1000784
          replace p1000785 : q1000768 = 0 → ¬ (∀ e, e < 4 → (nkB (cnF sof4 sof5 kn) (xr sof0) (xr sof1) (xr sof2) (xr sof3) ((fun _ => 0), (fun _ _ => 0), (fun _ _ => 0)) son).1 e = 1 → lqS (nkB (cnF sof4 sof5 kn) (xr sof0) (xr sof1) (xr sof2) (xr sof3) ((fun _ => 0), (fun _ _ => 0), (fun _ _ => 0)) son).2.1 e j1000763 (60 - j1000763) = 0) := p1000785
          show J x (mflat ((gq3, .inr (kA 7, kA 2, 8, 61, .inr gqwy)) :: (gq4, .inl (.inl (kA 2, 10, .inr (.inl gqfi)))) :: (gq5, .inl (.inl (kA 2, 2, .inr (.inl gqal)))) :: (gq6, .inl (.inl (kA 2, 2, .inr (.inl gqre)))) :: (gq7, .inl (.inl (kA 2, 2, .inr (.inl gqrn)))) :: (L, .inl (.inr (11, [.ref t, .ref rd, .ref s, .ref zz, .ref b, .ref bx, .ref tx, .ref so, .ref bd, .ref g, .ref gq, .ref v, .ref sk, .ref d, .ref fh, .ref sh, .ref ly, .int lsz, .int (nI tod)]))) :: (s, .inl (.inr (5, [.ref s0, .ref s1, .ref s2, .ref s3, .ref s4, .ref s5, .ref s6, .ref s7, .ref s8, .ref s9, .ref s10, .ref s11, .int (nI sn), .int (nI sl), .int (nI se)]))) :: (s1, .inl (.inl (kA 1, 6, .inl sc1))) :: (s2, .inl (.inl (kA 1, 6, .inl sc2))) :: (s3, .inl (.inl (kA 1, 6, .inl sc3))) :: (s5, .inl (.inl (kA 1, 10, .inl sc5))) :: (s6, .inr (kA 6, kA 1, 10, 5, .inl sc6)) :: (s7, .inl (.inl (kA 1, 10, .inl sc7))) :: (s8, .inr (kA 6, kA 1, 10, 2, .inl sc8)) :: (s10, .inl (.inl (kA 1, 4, .inl sc10))) :: (s11, .inl (.inl (kA 1, 4, .inl sc11))) :: (b, .inl (.inr (2, [.ref b0, .ref b1, .int (nI bsz), .int (nI btm), .int (nI bft), .int bkp]))) :: (b1, .inl (.inl (kA 1, 6, .inl blo))) :: (so, .inl (.inr (8, [.ref so0, .ref so1, .ref so2, .ref so3, .ref so4, .ref so5, .int (nI son)]))) :: (so0, .inl (.inl (kA 1, 30, .inl sof0))) :: (so1, .inl (.inl (kA 1, 30, .inl sof1))) :: (so2, .inl (.inl (kA 1, 30, .inl sof2))) :: (so3, .inl (.inl (kA 1, 30, .inl sof3))) :: (so4, .inl (.inl (kA 1, 30, .inl sof4))) :: (so5, .inl (.inl (kA 1, 30, .inl sof5))) :: (bd, .inl (.inr (0, [.ref bd0, .ref bd1, .ref bd2]))) :: (bd0, .inr (kA 6, kA 1, 4, 60, .inl q1000769)) :: (bd1, .inr (kA 6, kA 1, 4, 60, .inl q1000770)) :: (bd2, .inl (.inl (kA 3, 4, .inl q1000771))) :: (g, .inl (.inr (3, [.ref g0, .ref g1, .ref g2, .ref g3, .ref g4, .ref g5, .ref g6, .ref g7, .int q1000772, .int gtm, .int gms]))) :: (g0, .inl (.inl (kA 1, 6, .inl q1000773))) :: (g1, .inr (kA 6, kA 1, 6, 2, .inl q1000774)) :: (g2, .inr (kA 6, kA 1, 6, 60, .inl q1000775)) :: (gq, .inl (.inr (3, [.ref gq0, .ref gq1, .ref gq2, .ref gq3, .ref gq4, .ref gq5, .ref gq6, .ref gq7, .int q1000776, .int gqtm, .int gqms]))) :: (gq0, .inl (.inl (kA 1, 10, .inl q1000777))) :: (gq1, .inr (kA 6, kA 1, 10, 2, .inl q1000778)) :: (gq2, .inr (kA 6, kA 1, 10, 60, .inl q1000779)) :: [])) [(0, .ref L), (1, .int (nI j1000763)), (2, .int (nI j1000766)), (3, .int kn)] 0 0 28 [.int (nI q1000768)]
          refine j_if_ne h 33 dX11_can_28 (by decide) (fun z1000786 => ?_) (fun z1000786 => ?_)
          · have z1000786n : ¬ q1000768 = 0 := fun q9 => z1000786 ((nI_eq (a := q1000768) (b := 0) (by omega) (by omega)).mpr q9)
            obtain ⟨rfl, qf9, gd9⟩ := p1000784 (by omega)
            show J x (mflat ((gq3, .inr (kA 7, kA 2, 8, 61, .inr gqwy)) :: (gq4, .inl (.inl (kA 2, 10, .inr (.inl gqfi)))) :: (gq5, .inl (.inl (kA 2, 2, .inr (.inl gqal)))) :: (gq6, .inl (.inl (kA 2, 2, .inr (.inl gqre)))) :: (gq7, .inl (.inl (kA 2, 2, .inr (.inl gqrn)))) :: (L, .inl (.inr (11, [.ref t, .ref rd, .ref s, .ref zz, .ref b, .ref bx, .ref tx, .ref so, .ref bd, .ref g, .ref gq, .ref v, .ref sk, .ref d, .ref fh, .ref sh, .ref ly, .int lsz, .int (nI tod)]))) :: (s, .inl (.inr (5, [.ref s0, .ref s1, .ref s2, .ref s3, .ref s4, .ref s5, .ref s6, .ref s7, .ref s8, .ref s9, .ref s10, .ref s11, .int (nI sn), .int (nI sl), .int (nI se)]))) :: (s1, .inl (.inl (kA 1, 6, .inl sc1))) :: (s2, .inl (.inl (kA 1, 6, .inl sc2))) :: (s3, .inl (.inl (kA 1, 6, .inl sc3))) :: (s5, .inl (.inl (kA 1, 10, .inl sc5))) :: (s6, .inr (kA 6, kA 1, 10, 5, .inl sc6)) :: (s7, .inl (.inl (kA 1, 10, .inl sc7))) :: (s8, .inr (kA 6, kA 1, 10, 2, .inl sc8)) :: (s10, .inl (.inl (kA 1, 4, .inl sc10))) :: (s11, .inl (.inl (kA 1, 4, .inl sc11))) :: (b, .inl (.inr (2, [.ref b0, .ref b1, .int (nI bsz), .int (nI btm), .int (nI bft), .int bkp]))) :: (b1, .inl (.inl (kA 1, 6, .inl blo))) :: (so, .inl (.inr (8, [.ref so0, .ref so1, .ref so2, .ref so3, .ref so4, .ref so5, .int (nI son)]))) :: (so0, .inl (.inl (kA 1, 30, .inl sof0))) :: (so1, .inl (.inl (kA 1, 30, .inl sof1))) :: (so2, .inl (.inl (kA 1, 30, .inl sof2))) :: (so3, .inl (.inl (kA 1, 30, .inl sof3))) :: (so4, .inl (.inl (kA 1, 30, .inl sof4))) :: (so5, .inl (.inl (kA 1, 30, .inl sof5))) :: (bd, .inl (.inr (0, [.ref bd0, .ref bd1, .ref bd2]))) :: (bd0, .inr (kA 6, kA 1, 4, 60, .inl q1000769)) :: (bd1, .inr (kA 6, kA 1, 4, 60, .inl q1000770)) :: (bd2, .inl (.inl (kA 3, 4, .inl q1000771))) :: (g, .inl (.inr (3, [.ref g0, .ref g1, .ref g2, .ref g3, .ref g4, .ref g5, .ref g6, .ref g7, .int q1000772, .int gtm, .int gms]))) :: (g0, .inl (.inl (kA 1, 6, .inl q1000773))) :: (g1, .inr (kA 6, kA 1, 6, 2, .inl q1000774)) :: (g2, .inr (kA 6, kA 1, 6, 60, .inl q1000775)) :: (gq, .inl (.inr (3, [.ref gq0, .ref gq1, .ref gq2, .ref gq3, .ref gq4, .ref gq5, .ref gq6, .ref gq7, .int (nI sl), .int gqtm, .int gqms]))) :: (gq0, .inl (.inl (kA 1, 10, .inl q1000777))) :: (gq1, .inr (kA 6, kA 1, 10, 2, .inl q1000778)) :: (gq2, .inr (kA 6, kA 1, 10, 60, .inl q1000779)) :: [])) [(0, .ref L), (1, .int (nI j1000763)), (2, .int (nI j1000766)), (3, .int kn)] 0 0 33 []
            refine j_aload_n h 0 rfl rfl dX11_can_33 ?_
            refine jm_get h iw_X11 5 rfl rfl 10 (by decide) tw_485 rfl dX11_can_34 ?_
            refine j_iload_n h 1 rfl rfl dX11_can_37 ?_
            refine j_iconst (v := 0) h (by decide) dX11_can_38 ?_
            refine jm_callVl (np := 2) (isC := [33, 34, 35, 36, 0]) (isR := [1, 2, 3, 4, 5, 6, 7, 8, 9, 10, 11, 12, 13, 14, 15, 16, 17, 18, 19, 20, 21, 22, 23, 24, 25, 26, 27, 28, 29, 30, 31, 32]) (wc := [(gq, .inl (.inr (3, [.ref gq0, .ref gq1, .ref gq2, .ref gq3, .ref gq4, .ref gq5, .ref gq6, .ref gq7, .int (nI sl), .int gqtm, .int gqms]))), (gq0, .inl (.inl (kA 1, 10, .inl q1000777))), (gq1, .inr (kA 6, kA 1, 10, 2, .inl q1000778)), (gq2, .inr (kA 6, kA 1, 10, 60, .inl q1000779)), (gq3, .inr (kA 7, kA 2, 8, 61, .inr gqwy))]) (wr := ((gq4, .inl (.inl (kA 2, 10, .inr (.inl gqfi)))) :: (gq5, .inl (.inl (kA 2, 2, .inr (.inl gqal)))) :: (gq6, .inl (.inl (kA 2, 2, .inr (.inl gqre)))) :: (gq7, .inl (.inl (kA 2, 2, .inr (.inl gqrn)))) :: (L, .inl (.inr (11, [.ref t, .ref rd, .ref s, .ref zz, .ref b, .ref bx, .ref tx, .ref so, .ref bd, .ref g, .ref gq, .ref v, .ref sk, .ref d, .ref fh, .ref sh, .ref ly, .int lsz, .int (nI tod)]))) :: (s, .inl (.inr (5, [.ref s0, .ref s1, .ref s2, .ref s3, .ref s4, .ref s5, .ref s6, .ref s7, .ref s8, .ref s9, .ref s10, .ref s11, .int (nI sn), .int (nI sl), .int (nI se)]))) :: (s1, .inl (.inl (kA 1, 6, .inl sc1))) :: (s2, .inl (.inl (kA 1, 6, .inl sc2))) :: (s3, .inl (.inl (kA 1, 6, .inl sc3))) :: (s5, .inl (.inl (kA 1, 10, .inl sc5))) :: (s6, .inr (kA 6, kA 1, 10, 5, .inl sc6)) :: (s7, .inl (.inl (kA 1, 10, .inl sc7))) :: (s8, .inr (kA 6, kA 1, 10, 2, .inl sc8)) :: (s10, .inl (.inl (kA 1, 4, .inl sc10))) :: (s11, .inl (.inl (kA 1, 4, .inl sc11))) :: (b, .inl (.inr (2, [.ref b0, .ref b1, .int (nI bsz), .int (nI btm), .int (nI bft), .int bkp]))) :: (b1, .inl (.inl (kA 1, 6, .inl blo))) :: (so, .inl (.inr (8, [.ref so0, .ref so1, .ref so2, .ref so3, .ref so4, .ref so5, .int (nI son)]))) :: (so0, .inl (.inl (kA 1, 30, .inl sof0))) :: (so1, .inl (.inl (kA 1, 30, .inl sof1))) :: (so2, .inl (.inl (kA 1, 30, .inl sof2))) :: (so3, .inl (.inl (kA 1, 30, .inl sof3))) :: (so4, .inl (.inl (kA 1, 30, .inl sof4))) :: (so5, .inl (.inl (kA 1, 30, .inl sof5))) :: (bd, .inl (.inr (0, [.ref bd0, .ref bd1, .ref bd2]))) :: (bd0, .inr (kA 6, kA 1, 4, 60, .inl q1000769)) :: (bd1, .inr (kA 6, kA 1, 4, 60, .inl q1000770)) :: (bd2, .inl (.inl (kA 3, 4, .inl q1000771))) :: (g, .inl (.inr (3, [.ref g0, .ref g1, .ref g2, .ref g3, .ref g4, .ref g5, .ref g6, .ref g7, .int q1000772, .int gtm, .int gms]))) :: (g0, .inl (.inl (kA 1, 6, .inl q1000773))) :: (g1, .inr (kA 6, kA 1, 6, 2, .inl q1000774)) :: (g2, .inr (kA 6, kA 1, 6, 60, .inl q1000775)) :: [])) (rest := []) (As := [.int (nI j1000763), .int 0]) (q0 := 0) h (s_X3_countWaysF _ _ kA gq j1000763 0 gq0 gq1 gq2 gq3 gq4 gq5 gq6 gq7 sl gqtm gqms 10 q1000777 q1000778 q1000779 gqwy (ltS D) (aL D) (lcT D (fsC D EE (nkB (cnF sof4 sof5 kn) (xr sof0) (xr sof1) (xr sof2) (xr sof3) ((fun _ => 0), (fun _ _ => 0), (fun _ _ => 0)) son).1 (nkB (cnF sof4 sof5 kn) (xr sof0) (xr sof1) (xr sof2) (xr sof3) ((fun _ => 0), (fun _ _ => 0), (fun _ _ => 0)) son).2.1 (nkB (cnF sof4 sof5 kn) (xr sof0) (xr sof1) (xr sof2) (xr sof3) ((fun _ => 0), (fun _ _ => 0), (fun _ _ => 0)) son).2.2 j1000763) 1023 j1000763) (show 10 ≤ 10 by first | assumption | omega | exact RoOk_step (by assumption) (by omega) | exact RoOk_mono (by assumption) (by omega) | exact RoOk_zero _ _ | exact LtOk_of (by assumption) | exact LsOk_cong (by assumption) (by assumption) (by assumption) (by omega) | (intro _; assumption)) (show sl ≤ 10 by first | assumption | omega | exact RoOk_step (by assumption) (by omega) | exact RoOk_mono (by assumption) (by omega) | exact RoOk_zero _ _ | exact LtOk_of (by assumption) | exact LsOk_cong (by assumption) (by assumption) (by assumption) (by omega) | (intro _; assumption)) (show j1000763 ≤ 60 by first | assumption | omega | exact RoOk_step (by assumption) (by omega) | exact RoOk_mono (by assumption) (by omega) | exact RoOk_zero _ _ | exact LtOk_of (by assumption) | exact LsOk_cong (by assumption) (by assumption) (by assumption) (by omega) | (intro _; assumption)) (show GdR sl j1000763 (ltS D) (aL D) (lcT D (fsC D EE (nkB (cnF sof4 sof5 kn) (xr sof0) (xr sof1) (xr sof2) (xr sof3) ((fun _ => 0), (fun _ _ => 0), (fun _ _ => 0)) son).1 (nkB (cnF sof4 sof5 kn) (xr sof0) (xr sof1) (xr sof2) (xr sof3) ((fun _ => 0), (fun _ _ => 0), (fun _ _ => 0)) son).2.1 (nkB (cnF sof4 sof5 kn) (xr sof0) (xr sof1) (xr sof2) (xr sof3) ((fun _ => 0), (fun _ _ => 0), (fun _ _ => 0)) son).2.2 j1000763) 1023 j1000763) q1000777 q1000778 q1000779 from gd9) (show 0 ≤ 3 by first | assumption | omega | exact RoOk_step (by assumption) (by omega) | exact RoOk_mono (by assumption) (by omega) | exact RoOk_zero _ _ | exact LtOk_of (by assumption) | exact LsOk_cong (by assumption) (by assumption) (by assumption) (by omega) | (intro _; assumption))) tw_867 tw_868 tw_869 tw_95 tw_870 (by decide +kernel) rfl ⟨Nat.le_of_ble_eq_true rfl, Nat.le_of_ble_eq_true rfl⟩ rfl rfl (by decide) rfl rfl (by decide) (by decide) (Nat.le_of_ble_eq_true rfl) rfl ⟨Nat.le_of_ble_eq_true rfl, Nat.le_of_ble_eq_true rfl⟩ dX11_can_39 ?_
            rintro r1000789 q1000787 e1000788
            obtain ⟨p1000790, p1000791⟩ := e1000788
            replace p1000790 : GwR sl j1000763 0 (ltS D) (aL D) (lcT D (fsC D EE (nkB (cnF sof4 sof5 kn) (xr sof0) (xr sof1) (xr sof2) (xr sof3) ((fun _ => 0), (fun _ _ => 0), (fun _ _ => 0)) son).1 (nkB (cnF sof4 sof5 kn) (xr sof0) (xr sof1) (xr sof2) (xr sof3) ((fun _ => 0), (fun _ _ => 0), (fun _ _ => 0)) son).2.1 (nkB (cnF sof4 sof5 kn) (xr sof0) (xr sof1) (xr sof2) (xr sof3) ((fun _ => 0), (fun _ _ => 0), (fun _ _ => 0)) son).2.2 j1000763) 1023 j1000763) q1000787 0 := p1000790
            replace p1000791 : r1000789 = q1000787 (2 * 0) 0 := p1000791
            show J x (mflat ((gq4, .inl (.inl (kA 2, 10, .inr (.inl gqfi)))) :: (gq5, .inl (.inl (kA 2, 2, .inr (.inl gqal)))) :: (gq6, .inl (.inl (kA 2, 2, .inr (.inl gqre)))) :: (gq7, .inl (.inl (kA 2, 2, .inr (.inl gqrn)))) :: (L, .inl (.inr (11, [.ref t, .ref rd, .ref s, .ref zz, .ref b, .ref bx, .ref tx, .ref so, .ref bd, .ref g, .ref gq, .ref v, .ref sk, .ref d, .ref fh, .ref sh, .ref ly, .int lsz, .int (nI tod)]))) :: (s, .inl (.inr (5, [.ref s0, .ref s1, .ref s2, .ref s3, .ref s4, .ref s5, .ref s6, .ref s7, .ref s8, .ref s9, .ref s10, .ref s11, .int (nI sn), .int (nI sl), .int (nI se)]))) :: (s1, .inl (.inl (kA 1, 6, .inl sc1))) :: (s2, .inl (.inl (kA 1, 6, .inl sc2))) :: (s3, .inl (.inl (kA 1, 6, .inl sc3))) :: (s5, .inl (.inl (kA 1, 10, .inl sc5))) :: (s6, .inr (kA 6, kA 1, 10, 5, .inl sc6)) :: (s7, .inl (.inl (kA 1, 10, .inl sc7))) :: (s8, .inr (kA 6, kA 1, 10, 2, .inl sc8)) :: (s10, .inl (.inl (kA 1, 4, .inl sc10))) :: (s11, .inl (.inl (kA 1, 4, .inl sc11))) :: (b, .inl (.inr (2, [.ref b0, .ref b1, .int (nI bsz), .int (nI btm), .int (nI bft), .int bkp]))) :: (b1, .inl (.inl (kA 1, 6, .inl blo))) :: (so, .inl (.inr (8, [.ref so0, .ref so1, .ref so2, .ref so3, .ref so4, .ref so5, .int (nI son)]))) :: (so0, .inl (.inl (kA 1, 30, .inl sof0))) :: (so1, .inl (.inl (kA 1, 30, .inl sof1))) :: (so2, .inl (.inl (kA 1, 30, .inl sof2))) :: (so3, .inl (.inl (kA 1, 30, .inl sof3))) :: (so4, .inl (.inl (kA 1, 30, .inl sof4))) :: (so5, .inl (.inl (kA 1, 30, .inl sof5))) :: (bd, .inl (.inr (0, [.ref bd0, .ref bd1, .ref bd2]))) :: (bd0, .inr (kA 6, kA 1, 4, 60, .inl q1000769)) :: (bd1, .inr (kA 6, kA 1, 4, 60, .inl q1000770)) :: (bd2, .inl (.inl (kA 3, 4, .inl q1000771))) :: (g, .inl (.inr (3, [.ref g0, .ref g1, .ref g2, .ref g3, .ref g4, .ref g5, .ref g6, .ref g7, .int q1000772, .int gtm, .int gms]))) :: (g0, .inl (.inl (kA 1, 6, .inl q1000773))) :: (g1, .inr (kA 6, kA 1, 6, 2, .inl q1000774)) :: (g2, .inr (kA 6, kA 1, 6, 60, .inl q1000775)) :: (gq, .inl (.inr (3, [.ref gq0, .ref gq1, .ref gq2, .ref gq3, .ref gq4, .ref gq5, .ref gq6, .ref gq7, .int (nI sl), .int (nI j1000763), .int 0]))) :: (gq0, .inl (.inl (kA 1, 10, .inl q1000777))) :: (gq1, .inr (kA 6, kA 1, 10, 2, .inl q1000778)) :: (gq2, .inr (kA 6, kA 1, 10, 60, .inl q1000779)) :: (gq3, .inr (kA 7, kA 2, 8, 61, .inr q1000787)) :: [])) [(0, .ref L), (1, .int (nI j1000763)), (2, .int (nI j1000766)), (3, .int kn)] 0 0 42 [.long r1000789]
            refine j_pop2 h rfl dX11_can_42 ?_
            refine j_aload_n h 0 rfl rfl dX11_can_43 ?_
            refine jm_get h iw_X11 4 rfl rfl 10 (by decide) tw_485 rfl dX11_can_44 ?_
            refine j_iload_n h 2 rfl rfl dX11_can_47 ?_
            refine jm_callVi (np := 1) (isC := [32, 33, 34, 35, 36, 0, 1, 2, 3]) (isR := [4, 5, 6, 7, 8, 9, 10, 11, 12, 13, 14, 15, 16, 17, 18, 19, 20, 21, 22, 23, 24, 25, 26, 27, 28, 29, 30, 31]) (wc := [(gq, .inl (.inr (3, [.ref gq0, .ref gq1, .ref gq2, .ref gq3, .ref gq4, .ref gq5, .ref gq6, .ref gq7, .int (nI sl), .int (nI j1000763), .int 0]))), (gq0, .inl (.inl (kA 1, 10, .inl q1000777))), (gq1, .inr (kA 6, kA 1, 10, 2, .inl q1000778)), (gq2, .inr (kA 6, kA 1, 10, 60, .inl q1000779)), (gq3, .inr (kA 7, kA 2, 8, 61, .inr q1000787)), (gq4, .inl (.inl (kA 2, 10, .inr (.inl gqfi)))), (gq5, .inl (.inl (kA 2, 2, .inr (.inl gqal)))), (gq6, .inl (.inl (kA 2, 2, .inr (.inl gqre)))), (gq7, .inl (.inl (kA 2, 2, .inr (.inl gqrn))))]) (wr := ((L, .inl (.inr (11, [.ref t, .ref rd, .ref s, .ref zz, .ref b, .ref bx, .ref tx, .ref so, .ref bd, .ref g, .ref gq, .ref v, .ref sk, .ref d, .ref fh, .ref sh, .ref ly, .int lsz, .int (nI tod)]))) :: (s, .inl (.inr (5, [.ref s0, .ref s1, .ref s2, .ref s3, .ref s4, .ref s5, .ref s6, .ref s7, .ref s8, .ref s9, .ref s10, .ref s11, .int (nI sn), .int (nI sl), .int (nI se)]))) :: (s1, .inl (.inl (kA 1, 6, .inl sc1))) :: (s2, .inl (.inl (kA 1, 6, .inl sc2))) :: (s3, .inl (.inl (kA 1, 6, .inl sc3))) :: (s5, .inl (.inl (kA 1, 10, .inl sc5))) :: (s6, .inr (kA 6, kA 1, 10, 5, .inl sc6)) :: (s7, .inl (.inl (kA 1, 10, .inl sc7))) :: (s8, .inr (kA 6, kA 1, 10, 2, .inl sc8)) :: (s10, .inl (.inl (kA 1, 4, .inl sc10))) :: (s11, .inl (.inl (kA 1, 4, .inl sc11))) :: (b, .inl (.inr (2, [.ref b0, .ref b1, .int (nI bsz), .int (nI btm), .int (nI bft), .int bkp]))) :: (b1, .inl (.inl (kA 1, 6, .inl blo))) :: (so, .inl (.inr (8, [.ref so0, .ref so1, .ref so2, .ref so3, .ref so4, .ref so5, .int (nI son)]))) :: (so0, .inl (.inl (kA 1, 30, .inl sof0))) :: (so1, .inl (.inl (kA 1, 30, .inl sof1))) :: (so2, .inl (.inl (kA 1, 30, .inl sof2))) :: (so3, .inl (.inl (kA 1, 30, .inl sof3))) :: (so4, .inl (.inl (kA 1, 30, .inl sof4))) :: (so5, .inl (.inl (kA 1, 30, .inl sof5))) :: (bd, .inl (.inr (0, [.ref bd0, .ref bd1, .ref bd2]))) :: (bd0, .inr (kA 6, kA 1, 4, 60, .inl q1000769)) :: (bd1, .inr (kA 6, kA 1, 4, 60, .inl q1000770)) :: (bd2, .inl (.inl (kA 3, 4, .inl q1000771))) :: (g, .inl (.inr (3, [.ref g0, .ref g1, .ref g2, .ref g3, .ref g4, .ref g5, .ref g6, .ref g7, .int q1000772, .int gtm, .int gms]))) :: (g0, .inl (.inl (kA 1, 6, .inl q1000773))) :: (g1, .inr (kA 6, kA 1, 6, 2, .inl q1000774)) :: (g2, .inr (kA 6, kA 1, 6, 60, .inl q1000775)) :: [])) (rest := []) (As := [.int (nI j1000766)]) (q0 := 0) h (s_X3_standingAtF _ _ kA gq j1000766 gq0 gq1 gq2 gq3 gq4 gq5 gq6 gq7 sl j1000763 0 10 q1000777 q1000778 q1000779 q1000787 gqfi gqal gqre gqrn (ltS D) (aL D) (lcT D (fsC D EE (nkB (cnF sof4 sof5 kn) (xr sof0) (xr sof1) (xr sof2) (xr sof3) ((fun _ => 0), (fun _ _ => 0), (fun _ _ => 0)) son).1 (nkB (cnF sof4 sof5 kn) (xr sof0) (xr sof1) (xr sof2) (xr sof3) ((fun _ => 0), (fun _ _ => 0), (fun _ _ => 0)) son).2.1 (nkB (cnF sof4 sof5 kn) (xr sof0) (xr sof1) (xr sof2) (xr sof3) ((fun _ => 0), (fun _ _ => 0), (fun _ _ => 0)) son).2.2 j1000763) 1023 j1000763) (show 10 ≤ 10 by first | assumption | omega | exact RoOk_step (by assumption) (by omega) | exact RoOk_mono (by assumption) (by omega) | exact RoOk_zero _ _ | exact LtOk_of (by assumption) | exact LsOk_cong (by assumption) (by assumption) (by assumption) (by omega) | (intro _; assumption)) (show sl ≤ 10 by first | assumption | omega | exact RoOk_step (by assumption) (by omega) | exact RoOk_mono (by assumption) (by omega) | exact RoOk_zero _ _ | exact LtOk_of (by assumption) | exact LsOk_cong (by assumption) (by assumption) (by assumption) (by omega) | (intro _; assumption)) (show j1000763 ≤ 60 by first | assumption | omega | exact RoOk_step (by assumption) (by omega) | exact RoOk_mono (by assumption) (by omega) | exact RoOk_zero _ _ | exact LtOk_of (by assumption) | exact LsOk_cong (by assumption) (by assumption) (by assumption) (by omega) | (intro _; assumption)) (show GdR sl j1000763 (ltS D) (aL D) (lcT D (fsC D EE (nkB (cnF sof4 sof5 kn) (xr sof0) (xr sof1) (xr sof2) (xr sof3) ((fun _ => 0), (fun _ _ => 0), (fun _ _ => 0)) son).1 (nkB (cnF sof4 sof5 kn) (xr sof0) (xr sof1) (xr sof2) (xr sof3) ((fun _ => 0), (fun _ _ => 0), (fun _ _ => 0)) son).2.1 (nkB (cnF sof4 sof5 kn) (xr sof0) (xr sof1) (xr sof2) (xr sof3) ((fun _ => 0), (fun _ _ => 0), (fun _ _ => 0)) son).2.2 j1000763) 1023 j1000763) q1000777 q1000778 q1000779 from gd9) (show j1000766 < 60 by first | assumption | omega | exact RoOk_step (by assumption) (by omega) | exact RoOk_mono (by assumption) (by omega) | exact RoOk_zero _ _ | exact LtOk_of (by assumption) | exact LsOk_cong (by assumption) (by assumption) (by assumption) (by omega) | (intro _; assumption))) tw_1111 tw_1112 tw_1113 tw_95 tw_1114 (by decide +kernel) rfl ⟨Nat.le_of_ble_eq_true rfl, Nat.le_of_ble_eq_true rfl⟩ rfl rfl (by decide) rfl rfl (by decide) (by decide) (Nat.le_of_ble_eq_true rfl) rfl ⟨Nat.le_of_ble_eq_true rfl, Nat.le_of_ble_eq_true rfl⟩ dX11_can_48 ?_
            rintro r1000797 ⟨q1000792, q1000793, q1000794, q1000795⟩ e1000796
            have p1000798 := e1000796
            replace p1000798 : ∀ j, (bI r1000797 j ↔ j < sl ∧ fnX j1000763 (ltS D) (aL D) (fun i8 t8 => (lcT D (fsC D EE (nkB (cnF sof4 sof5 kn) (xr sof0) (xr sof1) (xr sof2) (xr sof3) ((fun _ => 0), (fun _ _ => 0), (fun _ _ => 0)) son).1 (nkB (cnF sof4 sof5 kn) (xr sof0) (xr sof1) (xr sof2) (xr sof3) ((fun _ => 0), (fun _ _ => 0), (fun _ _ => 0)) son).2.1 (nkB (cnF sof4 sof5 kn) (xr sof0) (xr sof1) (xr sof2) (xr sof3) ((fun _ => 0), (fun _ _ => 0), (fun _ _ => 0)) son).2.2 j1000763) 1023 j1000763) i8 t8 = 0) (fun f8 t8 => 0 < (q1000787 f8 t8).toInt) (rcP sl j1000763 (ltS D) (aL D) (fun i8 t8 => (lcT D (fsC D EE (nkB (cnF sof4 sof5 kn) (xr sof0) (xr sof1) (xr sof2) (xr sof3) ((fun _ => 0), (fun _ _ => 0), (fun _ _ => 0)) son).1 (nkB (cnF sof4 sof5 kn) (xr sof0) (xr sof1) (xr sof2) (xr sof3) ((fun _ => 0), (fun _ _ => 0), (fun _ _ => 0)) son).2.1 (nkB (cnF sof4 sof5 kn) (xr sof0) (xr sof1) (xr sof2) (xr sof3) ((fun _ => 0), (fun _ _ => 0), (fun _ _ => 0)) son).2.2 j1000763) 1023 j1000763) i8 t8 = 0) j1000766) j) := p1000798
            show J x (mflat ((L, .inl (.inr (11, [.ref t, .ref rd, .ref s, .ref zz, .ref b, .ref bx, .ref tx, .ref so, .ref bd, .ref g, .ref gq, .ref v, .ref sk, .ref d, .ref fh, .ref sh, .ref ly, .int lsz, .int (nI tod)]))) :: (s, .inl (.inr (5, [.ref s0, .ref s1, .ref s2, .ref s3, .ref s4, .ref s5, .ref s6, .ref s7, .ref s8, .ref s9, .ref s10, .ref s11, .int (nI sn), .int (nI sl), .int (nI se)]))) :: (s1, .inl (.inl (kA 1, 6, .inl sc1))) :: (s2, .inl (.inl (kA 1, 6, .inl sc2))) :: (s3, .inl (.inl (kA 1, 6, .inl sc3))) :: (s5, .inl (.inl (kA 1, 10, .inl sc5))) :: (s6, .inr (kA 6, kA 1, 10, 5, .inl sc6)) :: (s7, .inl (.inl (kA 1, 10, .inl sc7))) :: (s8, .inr (kA 6, kA 1, 10, 2, .inl sc8)) :: (s10, .inl (.inl (kA 1, 4, .inl sc10))) :: (s11, .inl (.inl (kA 1, 4, .inl sc11))) :: (b, .inl (.inr (2, [.ref b0, .ref b1, .int (nI bsz), .int (nI btm), .int (nI bft), .int bkp]))) :: (b1, .inl (.inl (kA 1, 6, .inl blo))) :: (so, .inl (.inr (8, [.ref so0, .ref so1, .ref so2, .ref so3, .ref so4, .ref so5, .int (nI son)]))) :: (so0, .inl (.inl (kA 1, 30, .inl sof0))) :: (so1, .inl (.inl (kA 1, 30, .inl sof1))) :: (so2, .inl (.inl (kA 1, 30, .inl sof2))) :: (so3, .inl (.inl (kA 1, 30, .inl sof3))) :: (so4, .inl (.inl (kA 1, 30, .inl sof4))) :: (so5, .inl (.inl (kA 1, 30, .inl sof5))) :: (bd, .inl (.inr (0, [.ref bd0, .ref bd1, .ref bd2]))) :: (bd0, .inr (kA 6, kA 1, 4, 60, .inl q1000769)) :: (bd1, .inr (kA 6, kA 1, 4, 60, .inl q1000770)) :: (bd2, .inl (.inl (kA 3, 4, .inl q1000771))) :: (g, .inl (.inr (3, [.ref g0, .ref g1, .ref g2, .ref g3, .ref g4, .ref g5, .ref g6, .ref g7, .int q1000772, .int gtm, .int gms]))) :: (g0, .inl (.inl (kA 1, 6, .inl q1000773))) :: (g1, .inr (kA 6, kA 1, 6, 2, .inl q1000774)) :: (g2, .inr (kA 6, kA 1, 6, 60, .inl q1000775)) :: (gq, .inl (.inr (3, [.ref gq0, .ref gq1, .ref gq2, .ref gq3, .ref gq4, .ref gq5, .ref gq6, .ref gq7, .int (nI sl), .int (nI j1000763), .int 0]))) :: (gq0, .inl (.inl (kA 1, 10, .inl q1000777))) :: (gq1, .inr (kA 6, kA 1, 10, 2, .inl q1000778)) :: (gq2, .inr (kA 6, kA 1, 10, 60, .inl q1000779)) :: (gq3, .inr (kA 7, kA 2, 8, 61, .inr q1000787)) :: (gq4, .inl (.inl (kA 2, 10, .inr (.inl q1000792)))) :: (gq5, .inl (.inl (kA 2, 2, .inr (.inl q1000793)))) :: (gq6, .inl (.inl (kA 2, 2, .inr (.inl q1000794)))) :: (gq7, .inl (.inl (kA 2, 2, .inr (.inl q1000795)))) :: [])) [(0, .ref L), (1, .int (nI j1000763)), (2, .int (nI j1000766)), (3, .int kn)] 0 0 51 [.int r1000797]
            exact jm_iret h hq dX11_can_51 (q1000769, q1000770, q1000771, q1000772, q1000773, q1000774, q1000775, (nI sl), (nI j1000763), 0, q1000777, q1000778, q1000779, q1000787, q1000792, q1000793, q1000794, q1000795) [0, 1, 2, 3, 4, 5, 6, 7, 8, 9, 10, 11, 12, 13, 14, 15, 16, 17, 18, 19, 20, 21, 22, 23, 24, 25, 26, 27, 28, 29, 30, 31, 32, 33, 34, 35, 36] rfl (by decide) (show CnC D EE sl son sof0 sof1 sof2 sof3 sof4 sof5 (nI j1000763) (nI j1000766) kn r1000797 from Or.inl ⟨j1000763, j1000766, by omega, rfl, by omega, rfl, Or.inl ⟨(qf_z (D := D) (E := EE) (fun j9 h9 => ⟨(hsn9 j9 h9).2.2.2.2.2, by have z9 := (hsn9 j9 h9).1.2; omega⟩) (by omega) (fun j9 h9 => (hsn9 j9 h9).2.1.2)).mp qf9, q1000787, _, p1000790, fun s u h9 h8 => fsC_z hD (fun k h7 => (hlo k (by rw [hSc.1]; exact h7)).2) (fun j9 h7 => ⟨(hsn9 j9 h7).2.2.2.2.2, by rw [← hSc.2.2.1]; exact (hsn9 j9 h7).1.2⟩) h9 h8, p1000798⟩⟩) (Nat.le_of_ble_eq_true rfl) (Nat.le_of_ble_eq_true rfl)
          · have z1000786n : q1000768 = 0 := (nI_eq (a := q1000768) (b := 0) (by omega) (by omega)).mp z1000786
            refine j_iconst (v := 0) h (by decide) dX11_can_31 ?_
            exact jm_iret h hq dX11_can_32 (q1000769, q1000770, q1000771, q1000772, q1000773, q1000774, q1000775, q1000776, gqtm, gqms, q1000777, q1000778, q1000779, gqwy, gqfi, gqal, gqre, gqrn) [5, 6, 7, 8, 9, 10, 11, 12, 13, 14, 15, 16, 17, 18, 19, 20, 21, 22, 23, 24, 25, 26, 27, 28, 29, 30, 31, 32, 33, 34, 35, 36, 0, 1, 2, 3, 4] rfl (by decide) (show CnC D EE sl son sof0 sof1 sof2 sof3 sof4 sof5 (nI j1000763) (nI j1000766) kn 0 from Or.inl ⟨j1000763, j1000766, by omega, rfl, by omega, rfl, Or.inr ⟨fun q9 => p1000785 (by omega) ((qf_z (D := D) (E := EE) (fun j9 h9 => ⟨(hsn9 j9 h9).2.2.2.2.2, by have z9 := (hsn9 j9 h9).1.2; omega⟩) (by omega) (fun j9 h9 => (hsn9 j9 h9).2.1.2)).mpr q9), rfl⟩⟩) (Nat.le_of_ble_eq_true rfl) (Nat.le_of_ble_eq_true rfl)
        · have z1000767n : ¬ j1000766 < 60 := fun q9 => z1000767 ((nI_ltI (a := j1000766) (b := 60) (by omega) (by omega)).mpr q9)
          refine j_iconst (v := (-1)) h (by decide) dX11_can_20 ?_
          exact jm_iret h hq dX11_can_21 (bdls, bdms, bdnd, gn, gtk, gaf, gco, gqn, gqtm, gqms, gqtk, gqaf, gqco, gqwy, gqfi, gqal, gqre, gqrn) [0, 1, 2, 3, 4, 5, 6, 7, 8, 9, 10, 11, 12, 13, 14, 15, 16, 17, 18, 19, 20, 21, 22, 23, 24, 25, 26, 27, 28, 29, 30, 31, 32, 33, 34, 35, 36] rfl (by decide) (show CnC D EE sl son sof0 sof1 sof2 sof3 sof4 sof5 (nI j1000763) (nI j1000766) kn (-1) from Or.inr ⟨fun T p h9 h8 h7 h6 => (by first | exact nI_pos (n := T) (by omega) (h8 ▸ z1000767) | exact nI_pos (n := p) (by omega) (h6 ▸ z1000767) | exact absurd ((nI_eq (by omega) (by omega)).mp h8) (by omega) | exact absurd ((nI_eq (by omega) (by omega)).mp h6) (by omega)), rfl⟩) (Nat.le_of_ble_eq_true rfl) (Nat.le_of_ble_eq_true rfl)
