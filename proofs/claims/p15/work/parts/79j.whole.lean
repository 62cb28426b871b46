section WL
variable {D cs : Nat → Nat → Nat} {L T m f k l n i j g c y lo fo : Nat} {w : Nat → Int64} {v : Int64} {bg mr mb : Nat → Int32}
theorem cap_cap {a b : Int} (ha : 0 ≤ a) (hb : 0 ≤ b) : capI (capI a + b) = capI (a + b) := by
  unfold capI
  by_cases h : a ≤ 1000000000000000
  · rw [if_pos h]
  · rw [if_neg h]
    by_cases q : (1000000000000000 : Int) + b ≤ 1000000000000000
    · rw [if_pos q, if_neg (by omega)]
      omega
    · rw [if_neg q, if_neg (by omega)]
theorem sI_nn {g : Nat → Int} (h : ∀ i, i < n → 0 ≤ g i) : 0 ≤ sI g n := by
  induction n with
  | zero => exact Int.le_refl 0
  | succ n ih =>
    have a := ih (fun i hi => h i (by omega))
    have b := h n (Nat.lt_succ_self n)
    show 0 ≤ sI g n + g n
    omega
end WL
section MY
variable {bg mr mb : Nat → Int32} {l m d r n j T L : Nat} {t x : Nat → Nat} {D cst : Nat → Nat → Nat}
theorem itV_all {g : Nat → Nat → Nat} (h0 : ∀ d, g d 0 = 0) : ∀ (r d : Nat), (∀ e, d ≤ e → e < d + r → g e 1 ≤ 1) → itV g r d 1 ≤ 1 ∧ (itV g r d 1 = 1 ↔ ∀ e, d ≤ e → e < d + r → g e 1 = 1)
  | 0, d, _ => ⟨Nat.le_refl 1, fun _ e h1 h2 => by omega, fun _ => rfl⟩
  | r + 1, d, h => by
    show itV g r (d + 1) (g d 1) ≤ 1 ∧ (itV g r (d + 1) (g d 1) = 1 ↔ _)
    have a := h d (Nat.le_refl d) (by omega)
    rcases (show g d 1 = 0 ∨ g d 1 = 1 by omega) with e | e
    · rw [e, itV_z h0]
      refine ⟨by decide, fun q => absurd q (by decide), fun q => ?_⟩
      have := q d (Nat.le_refl d) (by omega)
      omega
    · rw [e]
      obtain ⟨b, c⟩ := itV_all h0 r (d + 1) (fun e h1 h2 => h e (by omega) (by omega))
      refine ⟨b, fun q k h1 h2 => ?_, fun q => c.mpr (fun k h1 h2 => q k (by omega) (by omega))⟩
      by_cases z : k = d
      · rw [z]
        exact e
      · exact c.mp q k (by omega) (by omega)
theorem RcE_0 {n : Nat} {tk : Nat → Nat} {af cs cs' : Nat → Nat → Nat} {W : Nat → Nat → Nat → Int} (h : RcE n T 0 tk af cs W) (hc : ∀ i t, i < n → t < T → (cs i t = 0 ↔ cs' i t = 0)) : RcE n T 0 tk af cs' W := fun q f t h1 h2 h3 => by
  rw [h q f t h1 h2 h3]
  by_cases y : t = T
  · rw [if_pos y, if_pos y]
  · rw [if_neg y, if_neg y]
    refine congrArg capI (sI_cg (fun i hi => ?_))
    have e := hc i t hi (by omega)
    have q0 : q = 0 := by omega
    subst q0
    show (if af i f = 0 ∨ 0 < cs i t then 0 else W (0 - cs i t) (af i f - 1) (t + tk i)) = (if af i f = 0 ∨ 0 < cs' i t then 0 else W (0 - cs' i t) (af i f - 1) (t + tk i))
    rw [Nat.zero_sub, Nat.zero_sub]
    by_cases z : af i f = 0 ∨ 0 < cs i t
    · rw [if_pos z, if_pos (z.imp id (fun y => by omega))]
    · rw [if_neg z, if_neg (fun y => z (y.imp id (fun x => by omega)))]
end MY
