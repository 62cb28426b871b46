section LP
variable {g t x : Nat → Nat} {n w l r p q a b j k : Nat} {v wh : Int32}
theorem sdC_3 (h : k ≤ 3) : sdC k = 3 ↔ k = 3 := by
  rcases (show k = 0 ∨ k = 1 ∨ k = 2 ∨ k = 3 by omega) with rfl | rfl | rfl | rfl <;> decide
end LP
