/-- the steps of a letter's row from the token at q, j of them read: fault, place, token behind, how many, what is told -/
def rowS (c : Nat → Nat) (s l : Nat) : Nat → Nat → Nat → (Nat → Nat → Nat) → Nat × Nat × Nat × Nat × (Nat → Nat → Nat)
  | 0, q, j, E => (0, 0, q, j, E)
  | k + 1, q, j, E => if j = 5 then (fl1 (tS c s q) 2, tP c s q, 0, 0, E) else if (oldS c s 1 (E 0 0) q E).1 = 0 then (if tS c s (tE c s q) = 1 then rowS c s l k (tE c s q) (j + 1) (upD E 8 (5 * l + j) ((oldS c s 1 (E 0 0) q E).2 - 1)) else (0, 0, tE c s q, j + 1, upD E 8 (5 * l + j) ((oldS c s 1 (E 0 0) q E).2 - 1))) else ((oldS c s 1 (E 0 0) q E).1, tP c s q, 0, 0, E)
def leN (c : Nat → Nat) (s p : Nat) (D : Nat → Nat → Nat) : Nat × Nat × Nat × (Nat → Nat → Nat) := newS c s 2 (D 0 1) (tE c s p) D
def leR (c : Nat → Nat) (s p : Nat) (D : Nat → Nat → Nat) : Nat × Nat × Nat × Nat × (Nat → Nat → Nat) := rowS c s (D 0 1) 6 (leN c s p D).2.2.1 0 (leN c s p D).2.2.2
def letterS (c : Nat → Nat) (s p : Nat) (D : Nat → Nat → Nat) : Nat × Nat × Nat × (Nat → Nat → Nat) := if (leN c s p D).1 = 0 then (if (leR c s p D).1 = 0 then (0, 0, (leR c s p D).2.2.1, upD (upD (leR c s p D).2.2.2.2 7 (D 0 1) (leR c s p D).2.2.2.1) 0 1 (D 0 1 + 1)) else ((leR c s p D).1, (leR c s p D).2.1, 0, D)) else ((leN c s p D).1, (leN c s p D).2.1, 0, D)
section LE
variable {c : Nat → Nat} {s l p q j k fa : Nat} {D E : Nat → Nat → Nat} {pl : Int32} {tok : Nat → Prop} {rep : (Nat → Nat → Nat) → Prop}
theorem row_5 (h : j = 5) : rowS c s l (k + 1) q j E = (fl1 (tS c s q) 2, tP c s q, 0, 0, E) := if_pos h
theorem row_f (h : ¬ j = 5) (ho : ¬ (oldS c s 1 (E 0 0) q E).1 = 0) : rowS c s l (k + 1) q j E = ((oldS c s 1 (E 0 0) q E).1, tP c s q, 0, 0, E) := by
  show (if j = 5 then _ else if (oldS c s 1 (E 0 0) q E).1 = 0 then _ else _) = _
  rw [if_neg h, if_neg ho]
theorem row_on (h : ¬ j = 5) (ho : (oldS c s 1 (E 0 0) q E).1 = 0) (ht : tS c s (tE c s q) = 1) : rowS c s l (k + 1) q j E = rowS c s l k (tE c s q) (j + 1) (upD E 8 (5 * l + j) ((oldS c s 1 (E 0 0) q E).2 - 1)) := by
  show (if j = 5 then _ else if (oldS c s 1 (E 0 0) q E).1 = 0 then (if tS c s (tE c s q) = 1 then _ else _) else _) = _
  rw [if_neg h, if_pos ho, if_pos ht]
theorem row_off (h : ¬ j = 5) (ho : (oldS c s 1 (E 0 0) q E).1 = 0) (ht : ¬ tS c s (tE c s q) = 1) : rowS c s l (k + 1) q j E = (0, 0, tE c s q, j + 1, upD E 8 (5 * l + j) ((oldS c s 1 (E 0 0) q E).2 - 1)) := by
  show (if j = 5 then _ else if (oldS c s 1 (E 0 0) q E).1 = 0 then (if tS c s (tE c s q) = 1 then _ else _) else _) = _
  rw [if_neg h, if_pos ho, if_neg ht]
theorem letS_n (hf : ¬ (leN c s p D).1 = 0) (h1 : fa = (leN c s p D).1) (h2 : pl = nI (leN c s p D).2.1) : OutR (letterS c s p D) fa pl tok rep := by
  unfold letterS
  rw [if_neg hf]
  exact ⟨h1, fun _ => h2, fun q => absurd (h1.symm.trans q) hf⟩
theorem letS_r (h0 : (leN c s p D).1 = 0) (hf : ¬ (leR c s p D).1 = 0) (h1 : fa = (leR c s p D).1) (h2 : pl = nI (leR c s p D).2.1) : OutR (letterS c s p D) fa pl tok rep := by
  unfold letterS
  rw [if_pos h0, if_neg hf]
  exact ⟨h1, fun _ => h2, fun q => absurd (h1.symm.trans q) hf⟩
theorem letS_0 (h0 : (leN c s p D).1 = 0) (h1 : (leR c s p D).1 = 0) : letterS c s p D = (0, 0, (leR c s p D).2.2.1, upD (upD (leR c s p D).2.2.2.2 7 (D 0 1) (leR c s p D).2.2.2.1) 0 1 (D 0 1 + 1)) := by
  unfold letterS
  rw [if_pos h0, if_pos h1]
theorem leN_d (h : (leN c s p D).1 = 0) : (leN c s p D).2.2.2 = upD D 2 (D 0 1) (tW c s (tE c s p)) ∧ tS c s (tE c s p) = 1 := by
  unfold leN at h ⊢
  by_cases a : isNm c s (tE c s p)
  · by_cases b : fnd (D 2) (D 0 1) (tW c s (tE c s p)) = 0
    · rw [newS_1 a b]
      exact ⟨rfl, a.1⟩
    · rw [newS_2 a b] at h
      exact absurd (show (3 : Nat) = 0 from h) (by decide)
  · rw [newS_3 a] at h
    exact absurd h (fl1_pos (by decide))
end LE
/-- the row of the letter that is read now -/
def RwN (E : Nat → Nat → Nat) (l j : Nat) (f15 : Nat → Int32) : Prop := ∀ i, i < j → f15 (5 * l + i) = nI (E 8 (5 * l + i))
section RL
variable {D E : Nat → Nat → Nat} {ns nl ne w j v : Nat} {f10 : Nat → Int64} {f11 f12 f13 f14 f15 f16 f17 : Nat → Int32}
theorem RpR_nm2 (h : RpR D ns nl ne f10 f11 f12 f13 f14 f15 f16 f17) (hl : nl < 10) (hs : ns ≤ 6) (hw : w < 2 ^ 64) : RpR (upD D 2 nl w) ns nl ne (vp_updL f10 (16 + nl) (lN w)) f11 f12 f13 f14 f15 f16 f17 ∧ NmsR (vp_updL f10 (16 + nl) (lN w)) 16 (nl + 1) (upD D 2 nl w 2) := by
  obtain ⟨a1, a2, a3, a4, a5, a6, a7, a8, a9⟩ := h
  have e : ∀ i, i ≠ 2 → upD D 2 nl w i = D i := fun i hi => upD_o hi
  refine ⟨⟨?_, ?_, ?_, ?_, ?_, ?_, ?_, ?_, ?_⟩, NmsR_new a5 hw⟩
  · rw [e 0 (by decide)]
    exact a1
  · rw [e 0 (by decide)]
    exact a2
  · rw [e 0 (by decide)]
    exact a3
  · rw [e 1 (by decide)]
    exact NmsR_o a4 (by omega)
  · intro k hk
    have := NmsR_new a5 hw k (by omega)
    exact this
  · rw [e 3 (by decide)]
    exact NmsR_o a6 (by omega)
  · rw [e 4 (by decide), e 5 (by decide), e 6 (by decide)]
    exact a7
  · rw [e 7 (by decide), e 8 (by decide)]
    exact a8
  · rw [e 9 (by decide), e 10 (by decide)]
    exact a9
theorem RpR_row (h : RpR E ns nl ne f10 f11 f12 f13 f14 f15 f16 f17) (h5 : ∀ l, l < nl → E 7 l ≤ 5) (x : Int32) : RpR (upD E 8 (5 * nl + j) v) ns nl ne f10 f11 f12 f13 f14 (upd f15 (5 * nl + j) x) f16 f17 := by
  obtain ⟨a1, a2, a3, a4, a5, a6, a7, a8, a9⟩ := h
  have e : ∀ i, i ≠ 8 → upD E 8 (5 * nl + j) v i = E i := fun i hi => upD_o hi
  refine ⟨?_, ?_, ?_, ?_, ?_, ?_, ?_, ?_, ?_⟩
  · rw [e 0 (by decide)]
    exact a1
  · rw [e 0 (by decide)]
    exact a2
  · rw [e 0 (by decide)]
    exact a3
  · rw [e 1 (by decide)]
    exact a4
  · rw [e 2 (by decide)]
    exact a5
  · rw [e 3 (by decide)]
    exact a6
  · rw [e 4 (by decide), e 5 (by decide), e 6 (by decide)]
    exact a7
  · rw [e 7 (by decide)]
    intro l hl
    have := h5 l hl
    refine ⟨(a8 l hl).1, fun i hi => ?_⟩
    rw [pk_un (by omega), upD_n (by omega)]
    exact (a8 l hl).2 i hi
  · rw [e 9 (by decide), e 10 (by decide)]
    exact a9
theorem RwN_put (h : RwN E nl j f15) : RwN (upD E 8 (5 * nl + j) v) nl (j + 1) (upd f15 (5 * nl + j) (nI v)) := fun i hi => by
  by_cases q : i = j
  · subst q
    rw [pk_us, upD_s]
  · rw [pk_un (by omega), upD_n (by omega)]
    exact h i (by omega)
theorem RpR_let (h : RpR E ns nl ne f10 f11 f12 f13 f14 f15 f16 f17) (hn : NmsR f10 16 (nl + 1) (E 2)) (hr : RwN E nl j f15) : RpR (upD (upD E 7 nl j) 0 1 (nl + 1)) ns (nl + 1) ne f10 f11 f12 f13 (upd f14 nl (nI j)) f15 f16 f17 := by
  obtain ⟨a1, a2, a3, a4, a5, a6, a7, a8, a9⟩ := h
  have e : ∀ i, i ≠ 0 → i ≠ 7 → upD (upD E 7 nl j) 0 1 (nl + 1) i = E i := fun i h0 h7 => by rw [upD_o h0, upD_o h7]
  refine ⟨?_, upD_s.symm, ?_, ?_, ?_, ?_, ?_, ?_, ?_⟩
  · rw [upD_n (by omega), upD_o (by decide)]
    exact a1
  · rw [upD_n (by omega), upD_o (by decide)]
    exact a3
  · rw [e 1 (by decide) (by decide)]
    exact a4
  · rw [e 2 (by decide) (by decide)]
    exact hn
  · rw [e 3 (by decide) (by decide)]
    exact a6
  · rw [e 4 (by decide) (by decide), e 5 (by decide) (by decide), e 6 (by decide) (by decide)]
    exact a7
  · rw [e 8 (by decide) (by decide), upD_o (show (7 : Nat) ≠ 0 by decide)]
    intro l hl
    by_cases q : l = nl
    · subst q
      rw [pk_us, upD_s]
      exact ⟨rfl, hr⟩
    · rw [pk_un q, upD_n (fun z => q z.2)]
      exact a8 l (by omega)
  · rw [e 9 (by decide) (by decide), e 10 (by decide) (by decide)]
    exact a9
end RL
