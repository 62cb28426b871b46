def BgS (D : Nat → Nat → Nat) (n : Nat) (f32 : Nat → Int32) : Prop := ∀ l, l < n → ∀ d, d < 45 → f32 (45 * l + d) = pm (bgn (D 4) (dR D l) (D 7 l) d)
theorem TxB_sc {D : Nat → Nat → Nat} {A : Nat × Nat × (Nat → Nat → Nat)} {sz tm ft sz' tm' ft' o : Nat} {row f44 : Nat → Int32} {v v' : Int32} (h : TxB D sz tm ft row f44 o v) (e1 : sz' = zSn A sz) (e2 : tm' = zSn A tm) (e3 : ft' = zSn A ft) (hv : (A.1 = 0 → v' = 0) ∧ (¬ A.1 = 0 → v' = v)) : TxB (nxD A D) sz' tm' ft' row f44 o v' := by
  by_cases q : A.1 = 0
  · have z : ∀ n, zSn A n = 0 := fun n => if_pos q
    rw [z] at e1 e2 e3
    rw [e1, e2, e3, hv.1 q]
    exact TxB_0 _ _
  · have z : ∀ n, zSn A n = n := fun n => if_neg q
    rw [z] at e1 e2 e3
    rw [e1, e2, e3, hv.2 q, nxD_1 q]
    exact h
