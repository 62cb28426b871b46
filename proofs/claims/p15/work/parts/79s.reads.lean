section RD
variable {D cs : Nat → Nat → Nat} {L T Q m f k l n i g q a y : Nat} {w : Nat → Int64} {v : Int64}
end RD
section MI
variable {lo fl bg tg hv : Nat → Int32} {E v g : Nat → Nat} {e f p d r x l m c k : Nat} {D : Nat → Nat → Nat}
theorem hearI_hr (hl : ∀ k, k < p → lo k = nI (E k) ∧ E k ≤ 9) (hf : fl e = nI f) (f9 : f ≤ 9) (hp : p ≤ 6) : hearI lo fl e (pm p) = nI (hrN E f p) := by
  rcases p with _ | k
  · rw [hrN_0]
    exact hearI_m1
  · obtain ⟨a, b⟩ := hl k (Nat.lt_succ_self k)
    rw [hrN_s]
    show hearI lo fl e (nI k) = _
    by_cases q : f ≤ E k
    · have z : lo k - fl e = nI (E k - f) := by
        rw [a, hf]
        exact pk_sub q
      rw [hearI_p (by omega) (by rw [z]; exact nI_pos' (by omega)), z]
    · have z : lo k - fl e < 0 := by
        rw [a, hf]
        exact pk_sneg (by omega) (by omega)
      rw [hearI_q (by omega) (fun y => Int32.lt_irrefl (Int32.lt_of_le_of_lt y z)), show E k - f = 0 by omega]
      rfl
end MI
