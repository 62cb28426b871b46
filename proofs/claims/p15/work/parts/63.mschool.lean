/-- what the reference's school holds -/
def RsR (D : Nat → Nat → Nat) (ns nl ne : Nat) (g18 g20 g21 g22 g23 g24 : Nat → Int32) : Prop := ns = D 0 0 ∧ nl = D 0 1 ∧ ne = D 0 2 ∧ (∀ k, k < ns → g18 k = nI (D 4 k) ∧ g20 k = nI (D 6 k)) ∧ (∀ l, l < nl → g21 l = nI (D 7 l) ∧ ∀ j, j < D 7 l → g22 (5 * l + j) = nI (D 8 (5 * l + j))) ∧ (∀ e, e < ne → g23 e = nI (D 9 e) ∧ g24 e = nI (D 10 e))
def lenV (A : Nat × Nat × (Nat → Nat → Nat)) : Int32 := if A.1 = 0 then nI (A.2.2 0 1) else -1
/-- the fault's place; what is told behind the reading -/
def fpV (A : Nat × Nat × (Nat → Nat → Nat)) : Int32 := if A.1 = 0 then -1 else nI A.2.1
def zSn (A : Nat × Nat × (Nat → Nat → Nat)) (n : Nat) : Nat := if A.1 = 0 then 0 else n
def zSi (A : Nat × Nat × (Nat → Nat → Nat)) (n : Int32) : Int32 := if A.1 = 0 then 0 else n
def nxD (A : Nat × Nat × (Nat → Nat → Nat)) (D : Nat → Nat → Nat) : Nat → Nat → Nat := if A.1 = 0 then A.2.2 else D
section RS
variable {D : Nat → Nat → Nat} {ns nl ne k1 k2 k3 k4 k5 k6 k7 fa : Nat} {f10 : Nat → Int64} {f11 f12 f13 f14 f15 f16 f17 g18 g20 g21 g22 g23 g24 : Nat → Int32} {A : Nat × Nat × (Nat → Nat → Nat)} {fp : Int32} {rep : (Nat → Nat → Nat) → Prop}
theorem nxD_0 (h : A.1 = 0) : nxD A D = A.2.2 := if_pos h
theorem nxD_1 (h : ¬ A.1 = 0) : nxD A D = D := if_neg h
theorem fpV_0 (h : A.1 = 0) : fpV A = -1 := if_pos h
theorem fpV_1 (h : ¬ A.1 = 0) : fpV A = nI A.2.1 := if_neg h
theorem lenV_1 (h : A.1 = 0) (e : nl = A.2.2 0 1) : nI nl = lenV A := by
  unfold lenV
  rw [if_pos h, e]
theorem lenV_2 (h : ¬ A.1 = 0) : (-1 : Int32) = lenV A := (if_neg h).symm
theorem RpR_tk (h : RpR D ns nl ne f10 f11 f12 f13 f14 f15 f16 f17) (d : DOk D) : TkOk ns f11 := fun i hi => by
  obtain ⟨a1, _, _, _, _, _, a7, _⟩ := h
  have e := d.2.2.2.1 i (by omega)
  exact ⟨D 4 i, e.1, e.2.1, (a7 i hi).1⟩
theorem RpR_sz (h : RpR D ns nl ne f10 f11 f12 f13 f14 f15 f16 f17) (d : DOk D) : SzOk nl f14 := fun i hi => by
  obtain ⟨_, a2, _, _, _, _, _, a8, _⟩ := h
  have e := d.2.2.2.2.1 i (by omega)
  exact ⟨D 7 i, e.1, e.2.1, (a8 i hi).1⟩
theorem RpR_rf (h : RpR D ns nl ne f10 f11 f12 f13 f14 f15 f16 f17) (d : DOk D) : RfOk nl ns f14 f15 := fun i j c hi hc h5 hj => by
  obtain ⟨a1, a2, _, _, _, _, _, a8, _⟩ := h
  have e := d.2.2.2.2.1 i (by omega)
  obtain ⟨b1, b2⟩ := a8 i hi
  have ec : D 7 i = c := (nI_eq (by omega) (by omega)).mp (b1.symm.trans hc)
  have := e.2.2 j (by omega)
  exact ⟨D 8 (5 * i + j), by omega, b2 j (by omega)⟩
theorem RsR_of (h : RpR D ns nl ne f10 f11 f12 f13 f14 f15 f16 f17) (d : DOk D) (e1 : EqTo k1 g18 f11) (e3 : EqTo k1 g20 f13) (e4 : EqTo k2 g21 f14) (e5 : EqTo k3 g22 f15) (e6 : EqTo k4 g23 f16) (e7 : EqTo k4 g24 f17) (h1 : 6 ≤ k1) (h2 : 10 ≤ k2) (h3 : 50 ≤ k3) (h4 : 4 ≤ k4) : RsR D ns nl ne g18 g20 g21 g22 g23 g24 := by
  obtain ⟨a1, a2, a3, _, _, _, a7, a8, a9⟩ := h
  obtain ⟨d1, d2, d3, _, d5, _⟩ := d
  refine ⟨a1, a2, a3, fun k hk => ?_, fun l hl => ?_, fun e he => ?_⟩
  · rw [e1 k (by omega), e3 k (by omega)]
    exact ⟨(a7 k hk).1, (a7 k hk).2.2⟩
  · have b := d5 l (by omega)
    rw [e4 l (by omega)]
    refine ⟨(a8 l hl).1, fun j hj => ?_⟩
    rw [e5 (5 * l + j) (by omega)]
    exact (a8 l hl).2 j hj
  · rw [e6 e (by omega), e7 e (by omega)]
    exact a9 e he
end RS
