def nk1 (B : (Nat → Nat) × (Nat → Nat → Nat) × (Nat → Nat → Nat)) (e m l h : Nat) : (Nat → Nat) × (Nat → Nat → Nat) × (Nat → Nat → Nat) := (upN B.1 e 1, nrL B.1 B.2.1 e m l, nrH B.1 B.2.2 e m h)
def nkB (cn SE SA SL SM : Nat → Nat) (B : (Nat → Nat) × (Nat → Nat → Nat) × (Nat → Nat → Nat)) : Nat → (Nat → Nat) × (Nat → Nat → Nat) × (Nat → Nat → Nat)
  | 0 => B
  | j + 1 => if cn j = 1 then nk1 (nkB cn SE SA SL SM B j) (SE j) (SA j) (SL j) (SM j) else nkB cn SE SA SL SM B j
section NK
variable {D : Nat → Nat → Nat} {E cn SE SA SL SM : Nat → Nat} {B : (Nat → Nat) × (Nat → Nat → Nat) × (Nat → Nat → Nat)} {n p m e j k v T s t y : Nat} {f0 f1 f2 f3 f4 f5 g0 g1 g2 g3 g4 g5 : Nat → Int32} {kn : Int32} {LO HI : Nat → Nat → Nat}
theorem nkB_y (h : cn j = 1) : nkB cn SE SA SL SM B (j + 1) = nk1 (nkB cn SE SA SL SM B j) (SE j) (SA j) (SL j) (SM j) := if_pos h
end NK
/-- costs and what is known -/
theorem coV_0 {ND h : Nat → Nat} {LO HI : Nat → Nat → Nat} {tk m n : Nat} : min 100 (coV ND LO HI h tk m n) = 0 ↔ ∀ e, e < n → ND e = 1 → ctV LO HI e (h e) tk m = 0 := by
  induction n with
  | zero => exact ⟨fun _ e he => absurd he (Nat.not_lt_zero e), fun _ => show min 100 0 = 0 by decide⟩
  | succ n ih =>
    by_cases q : ND n = 1
    · rw [coV_y q]
      constructor
      · intro z e he h1
        by_cases y : e = n
        · rw [y]
          omega
        · exact ih.mp (by omega) e (by omega) h1
      · intro z
        have a := ih.mpr (fun e he => z e (by omega))
        have b := z n (Nat.lt_succ_self n) q
        omega
    · rw [coV_n q]
      refine ih.trans ⟨fun z e he h1 => ?_, fun z e he => z e (by omega)⟩
      by_cases y : e = n
      · rw [y] at h1
        exact absurd h1 q
      · exact z e (by omega) h1
theorem ctV_z {LO HI : Nat → Nat → Nat} {e h tk m : Nat} : ctV LO HI e h tk m = 0 ↔ (∀ k, k < tk - 1 → LO e (m + 1 + k) = 0) ∧ LO e m ≤ h ∧ h ≤ HI e m := by
  unfold ctV
  by_cases q : lqS LO e (m + 1) (tk - 1) = 0 ∧ LO e m ≤ h
  · rw [if_pos q]
    by_cases z : h ≤ HI e m
    · rw [if_pos z]
      exact ⟨fun _ => ⟨lqS_0.mp q.1, q.2, z⟩, fun _ => rfl⟩
    · rw [if_neg z]
      refine ⟨fun y => ?_, fun y => absurd y.2.2 z⟩
      by_cases w : HI e m = 0
      · rw [if_pos w] at y
        exact absurd y (by decide)
      · rw [if_neg w] at y
        exact absurd y (by decide)
  · rw [if_neg q]
    exact ⟨fun y => absurd y (by decide), fun y => absurd ⟨lqS_0.mpr y.1, y.2.1⟩ q⟩
section FZ
variable {D LO HI : Nat → Nat → Nat} {E cn SE SA SL SM : Nat → Nat} {n T s t m : Nat}
end FZ
