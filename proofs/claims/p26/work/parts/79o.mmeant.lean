theorem SnR_sc {D : Nat → Nat → Nat} {A : Nat × Nat × (Nat → Nat → Nat)} {n n' : Nat} {f0 f1 f2 f3 : Nat → Int32} (h : SnR (D 0 2) n f0 f1 f2 f3) (e : n' = zSn A n) : SnR (nxD A D 0 2) n' f0 f1 f2 f3 := by
  by_cases q : A.1 = 0
  · rw [show zSn A n = 0 from if_pos q] at e
    rw [e]
    exact SnR_0 _ _ _ _ _
  · rw [show zSn A n = n from if_neg q] at e
    rw [e, nxD_1 q]
    exact h
theorem snd_sn {e n n1 : Nat} {r1 er mo le ms td : Int32} {f0 f1 f2 f3 f4 f5 x0 x1 x2 x3 x4 x5 : Nat → Int32} (h : SnR e n f0 f1 f2 f3) (h1 : (sOk e n er mo le ms → SnP n n1 r1 er mo le ms td 2147483647 f0 f1 f2 f3 f4 f5 x0 x1 x2 x3 x4 x5) ∧ (¬ sOk e n er mo le ms → SnQ n n1 r1 f0 f1 f2 f3 f4 f5 x0 x1 x2 x3 x4 x5)) (he : e ≤ 4) : SnR e n1 x0 x1 x2 x3 := by
  rcases Classical.em (sOk e n er mo le ms) with s | s
  · obtain ⟨_, b, c0, c1, c2, c3, _, _⟩ := h1.1 s
    rw [b, c0, c1, c2, c3]
    exact SnR_n h s he
  · obtain ⟨_, b, c0, c1, c2, c3, _, _⟩ := h1.2 s
    rw [b, c0, c1, c2, c3]
    exact h
