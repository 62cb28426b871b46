section WL
variable {D cs : Nat → Nat → Nat} {L T m f k l n i j g c y lo fo : Nat} {w : Nat → Int64} {v : Int64} {bg mr mb : Nat → Int32}
theorem cap_cap {a b : Int} (ha : 0 ≤ a) (hb : 0 ≤ b) : capI (capI a + b) = capI (a + b) := by
  unfold capI
  by_cases h : a ≤ 1000000000000000
  · rw [if_pos h]
  · rw [if_neg h]
    by_cases q : (1000000000000000 : Int) + b ≤ 1000000000000000
    · rw [if_pos q, if_neg (by omega)]
      omega
    · rw [if_neg q, if_neg (by omega)]
theorem sI_nn {g : Nat → Int} (h : ∀ i, i < n → 0 ≤ g i) : 0 ≤ sI g n := by
  induction n with
  | zero => exact Int.le_refl 0
  | succ n ih =>
    have a := ih (fun i hi => h i (by omega))
    have b := h n (Nat.lt_succ_self n)
    show 0 ≤ sI g n + g n
    omega
end WL
section MY
variable {bg mr mb : Nat → Int32} {l m d r n j T L : Nat} {t x : Nat → Nat} {D cst : Nat → Nat → Nat}
end MY
