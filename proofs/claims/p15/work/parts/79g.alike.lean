/-- from moment fr on, f is what is heard of the first n steps of x -/
def HlP (f : Nat → Int32) (fr : Nat) (E : Nat → Nat) (fl : Nat) (t x : Nat → Nat) (n : Nat) : Prop := ∀ d, d < tkS t x n → f (fr + d) = nI (hrN E fl (bgn t x n d))
section AK
variable {D : Nat → Nat → Nat} {E x t : Nat → Nat} {n e l a b i j m k fr fl q r : Nat} {f g : Nat → Int32} {G : Nat → Nat → Int32} {v er c d fo r1 r2 : Int32}
theorem Hl_0 : HlP f fr E fl t x 0 := fun d hd => absurd hd (Nat.not_lt_zero d)
theorem Hl_n (h : HlP f fr E fl t x i) (hp : PtR f g (fr + tkS t x i) (fr + tkS t x i + t (x i)) v) (hv : v = nI (E (x i) - fl)) (h1 : ∀ k, k < i → 1 ≤ t (x k)) : HlP g fr E fl t x (i + 1) := fun m hm => by
  have e : tkS t x (i + 1) = tkS t x i + t (x i) := rfl
  rcases (show m < tkS t x i ∨ m = tkS t x i ∨ tkS t x i < m by omega) with q | q | q
  · rw [hp.1 (fr + m) (Or.inl (by omega)), h m q, bgn_n (by omega)]
  · rw [hp.2 (fr + m) (by omega) (by omega), if_pos (by omega), hv, q, bgn_s, hrN_s]
  · rw [hp.2 (fr + m) (by omega) (by omega), if_neg (by omega), bgn_n (by omega), bgn_ge h1 (by omega), hrN_0]
    rfl
theorem hrN_le (h : ∀ k, k < n → E k ≤ 9) (hm : m ≤ n) : hrN E fl m ≤ 9 := by
  unfold hrN
  split
  · decide
  · have := h (m - 1) (by omega)
    omega
end AK
section SS
variable {D : Nat → Nat → Nat} {E : Nat → Nat} {L a b fl q : Nat} {G : Nat → Nat → Int32}
end SS
