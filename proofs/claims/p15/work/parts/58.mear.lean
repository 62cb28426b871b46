def bits (x : Int32) : Nat := x.toBitVec.toNat
theorem bits_nI (x : Int32) : nI (bits x) = x := Int32.toBitVec_inj.mp (by
  show BitVec.ofNat 32 x.toBitVec.toNat = x.toBitVec
  simp)
def eaN (c : Nat → Nat) (s p : Nat) (D : Nat → Nat → Nat) : Nat × Nat × Nat × (Nat → Nat → Nat) := newS c s 3 (D 0 2) (tE c s p) D
def eaF (c : Nat → Nat) (s p : Nat) (D : Nat → Nat → Nat) : Nat × Nat × Nat × Nat := numS c s 112615912075891 0 9 (eaN c s p D).2.2.1
def eaB (c : Nat → Nat) (s p : Nat) (D : Nat → Nat → Nat) : Nat × Nat × Nat × Int32 := if tS c s (eaF c s p D).2.2.1 = 1 ∧ tW c s (eaF c s p D).2.2.1 = 1651470187 then bkS c s (D 0 1) (eaN c s p D).2.2.2 (s + 2) (tE c s (eaF c s p D).2.2.1) 0 else (0, 0, (eaF c s p D).2.2.1, -1)
def earS (c : Nat → Nat) (s p : Nat) (D : Nat → Nat → Nat) : Nat × Nat × Nat × (Nat → Nat → Nat) := if (eaN c s p D).1 = 0 then (if (eaF c s p D).1 = 0 then (if (eaB c s p D).1 = 0 then (0, 0, (eaB c s p D).2.2.1, upD (upD (upD (eaN c s p D).2.2.2 9 (D 0 2) (eaF c s p D).2.2.2) 10 (D 0 2) (bits (eaB c s p D).2.2.2)) 0 2 (D 0 2 + 1)) else ((eaB c s p D).1, (eaB c s p D).2.1, 0, D)) else ((eaF c s p D).1, (eaF c s p D).2.1, 0, D)) else ((eaN c s p D).1, (eaN c s p D).2.1, 0, D)
theorem chain2 {fa0 fa1 fa2 F1 P1 F2 P2 : Nat} {pl0 pl1 pl2 : Int32} {o1 o2 : Prop} (h0 : fa0 = 0) (h1 : FltR fa0 pl0 fa1 pl1 F1 P1 o1) (h2 : FltR fa1 pl1 fa2 pl2 F2 P2 o2) : (fa2 = 0 → F1 = 0 ∧ F2 = 0 ∧ o1 ∧ o2 ∧ pl2 = pl0) ∧ (¬ fa2 = 0 → (¬ F1 = 0 ∧ fa2 = F1 ∧ pl2 = nI P1) ∨ (F1 = 0 ∧ ¬ F2 = 0 ∧ fa2 = F2 ∧ pl2 = nI P2)) := by
  obtain ⟨a1, a2, a3⟩ := h1.2 h0
  by_cases e1 : fa1 = 0
  · obtain ⟨b1, b2, b3⟩ := h2.2 e1
    exact ⟨fun e3 => ⟨by omega, by omega, (a3 e1).2, (b3 e3).2, (b3 e3).1.trans (a3 e1).1⟩, fun e3 => Or.inr ⟨by omega, by omega, b1, b2 e3⟩⟩
  · obtain ⟨b1, b2⟩ := h2.1 e1
    refine ⟨fun e3 => absurd e3 (by omega), fun e3 => Or.inl ⟨by omega, by omega, ?_⟩⟩
    rw [b2]
    exact a2 e1
section EA
variable {c : Nat → Nat} {s p fa : Nat} {D : Nat → Nat → Nat} {pl : Int32} {tok : Nat → Prop} {rep : (Nat → Nat → Nat) → Prop}
theorem earS_f (hf : ¬ fa = 0) (h : (¬ (eaN c s p D).1 = 0 ∧ fa = (eaN c s p D).1 ∧ pl = nI (eaN c s p D).2.1) ∨ ((eaN c s p D).1 = 0 ∧ ¬ (eaF c s p D).1 = 0 ∧ fa = (eaF c s p D).1 ∧ pl = nI (eaF c s p D).2.1)) : OutR (earS c s p D) fa pl tok rep := by
  unfold earS
  rcases h with ⟨a, b, d⟩ | ⟨a, b, d, e⟩
  · rw [if_neg a]
    exact ⟨b, fun _ => d, fun q => absurd q hf⟩
  · rw [if_pos a, if_neg b]
    exact ⟨d, fun _ => e, fun q => absurd q hf⟩
theorem earS_b (h1 : (eaN c s p D).1 = 0) (h2 : (eaF c s p D).1 = 0) (hf : ¬ fa = 0) (h3 : fa = (eaB c s p D).1) (h4 : pl = nI (eaB c s p D).2.1) : OutR (earS c s p D) fa pl tok rep := by
  unfold earS
  rw [if_pos h1, if_pos h2, if_neg (h3 ▸ hf)]
  exact ⟨h3, fun _ => h4, fun q => absurd q hf⟩
theorem earS_0 (h1 : (eaN c s p D).1 = 0) (h2 : (eaF c s p D).1 = 0) (h3 : (eaB c s p D).1 = 0) : earS c s p D = (0, 0, (eaB c s p D).2.2.1, upD (upD (upD (eaN c s p D).2.2.2 9 (D 0 2) (eaF c s p D).2.2.2) 10 (D 0 2) (bits (eaB c s p D).2.2.2)) 0 2 (D 0 2 + 1)) := by
  unfold earS
  rw [if_pos h1, if_pos h2, if_pos h3]
theorem eaN_d (h : (eaN c s p D).1 = 0) : (eaN c s p D).2.2.2 = upD D 3 (D 0 2) (tW c s (tE c s p)) ∧ tS c s (tE c s p) = 1 := by
  unfold eaN at h ⊢
  by_cases a : isNm c s (tE c s p)
  · by_cases b : fnd (D 3) (D 0 2) (tW c s (tE c s p)) = 0
    · rw [newS_1 a b]
      exact ⟨rfl, a.1⟩
    · rw [newS_2 a b] at h
      exact absurd (show (3 : Nat) = 0 from h) (by decide)
  · rw [newS_3 a] at h
    exact absurd h (fl1_pos (by decide))
end EA
section RE
variable {D E : Nat → Nat → Nat} {ns nl ne w fl : Nat} {f10 : Nat → Int64} {f11 f12 f13 f14 f15 f16 f17 : Nat → Int32} {x y z : Int32}
theorem RpR_nm3 (h : RpR D ns nl ne f10 f11 f12 f13 f14 f15 f16 f17) (hs : ns ≤ 6) (hl : nl ≤ 10) (hw : w < 2 ^ 64) : RpR (upD D 3 ne w) ns nl ne (vp_updL f10 (32 + ne) (lN w)) f11 f12 f13 f14 f15 (upd f16 ne y) (upd f17 ne z) ∧ NmsR (vp_updL f10 (32 + ne) (lN w)) 32 (ne + 1) (upD D 3 ne w 3) := by
  obtain ⟨a1, a2, a3, a4, a5, a6, a7, a8, a9⟩ := h
  have e : ∀ i, i ≠ 3 → upD D 3 ne w i = D i := fun i hi => upD_o hi
  refine ⟨⟨?_, ?_, ?_, ?_, ?_, ?_, ?_, ?_, ?_⟩, NmsR_new a6 hw⟩
  · rw [e 0 (by decide)]
    exact a1
  · rw [e 0 (by decide)]
    exact a2
  · rw [e 0 (by decide)]
    exact a3
  · rw [e 1 (by decide)]
    exact NmsR_o a4 (by omega)
  · rw [e 2 (by decide)]
    exact NmsR_o a5 (by omega)
  · intro k hk
    exact NmsR_new a6 hw k (by omega)
  · rw [e 4 (by decide), e 5 (by decide), e 6 (by decide)]
    exact a7
  · rw [e 7 (by decide), e 8 (by decide)]
    exact a8
  · rw [e 9 (by decide), e 10 (by decide)]
    intro k hk
    rw [pk_un (by omega), pk_un (by omega)]
    exact a9 k hk
theorem RpR_ear (h : RpR E ns nl ne f10 f11 f12 f13 f14 f15 f16 f17) (hn : NmsR f10 32 (ne + 1) (E 3)) (h6 : f16 ne = nI fl) (h7 : f17 ne = x) : RpR (upD (upD (upD E 9 ne fl) 10 ne (bits x)) 0 2 (ne + 1)) ns nl (ne + 1) f10 f11 f12 f13 f14 f15 f16 f17 := by
  obtain ⟨a1, a2, a3, a4, a5, a6, a7, a8, a9⟩ := h
  have e : ∀ i, i ≠ 0 → i ≠ 9 → i ≠ 10 → upD (upD (upD E 9 ne fl) 10 ne (bits x)) 0 2 (ne + 1) i = E i := fun i h0 h9 h10 => by rw [upD_o h0, upD_o h10, upD_o h9]
  refine ⟨?_, ?_, upD_s.symm, ?_, ?_, ?_, ?_, ?_, ?_⟩
  · rw [upD_n (by omega), upD_o (by decide), upD_o (by decide)]
    exact a1
  · rw [upD_n (by omega), upD_o (by decide), upD_o (by decide)]
    exact a2
  · rw [e 1 (by decide) (by decide) (by decide)]
    exact a4
  · rw [e 2 (by decide) (by decide) (by decide)]
    exact a5
  · rw [e 3 (by decide) (by decide) (by decide)]
    exact hn
  · rw [e 4 (by decide) (by decide) (by decide), e 5 (by decide) (by decide) (by decide), e 6 (by decide) (by decide) (by decide)]
    exact a7
  · rw [e 7 (by decide) (by decide) (by decide), e 8 (by decide) (by decide) (by decide)]
    exact a8
  · rw [upD_o (show (9 : Nat) ≠ 0 by decide), upD_o (show (9 : Nat) ≠ 10 by decide), upD_o (show (10 : Nat) ≠ 0 by decide)]
    intro k hk
    by_cases q : k = ne
    · subst q
      rw [upD_s, upD_s, h6, h7, bits_nI]
      exact ⟨rfl, rfl⟩
    · rw [upD_n (fun z => q z.2), upD_n (fun z => q z.2), upD_o (show (10 : Nat) ≠ 9 by decide)]
      exact a9 k (by omega)
end RE
