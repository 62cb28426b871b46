section AK
variable {D : Nat → Nat → Nat} {E x t : Nat → Nat} {n e l a b i j m k fr fl q r : Nat} {f g : Nat → Int32} {G : Nat → Nat → Int32} {v er c d fo r1 r2 : Int32}
theorem hrN_le (h : ∀ k, k < n → E k ≤ 9) (hm : m ≤ n) : hrN E fl m ≤ 9 := by
  unfold hrN
  split
  · decide
  · have := h (m - 1) (by omega)
    omega
end AK
section SS
variable {D : Nat → Nat → Nat} {E : Nat → Nat} {L a b fl q : Nat} {G : Nat → Nat → Int32}
end SS
