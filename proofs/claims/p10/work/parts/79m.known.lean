def nk1 (B : (Nat → Nat) × (Nat → Nat → Nat) × (Nat → Nat → Nat)) (e m l h : Nat) : (Nat → Nat) × (Nat → Nat → Nat) × (Nat → Nat → Nat) := (upN B.1 e 1, nrL B.1 B.2.1 e m l, nrH B.1 B.2.2 e m h)
def nkB (cn SE SA SL SM : Nat → Nat) (B : (Nat → Nat) × (Nat → Nat → Nat) × (Nat → Nat → Nat)) : Nat → (Nat → Nat) × (Nat → Nat → Nat) × (Nat → Nat → Nat)
  | 0 => B
  | j + 1 => if cn j = 1 then nk1 (nkB cn SE SA SL SM B j) (SE j) (SA j) (SL j) (SM j) else nkB cn SE SA SL SM B j
section NK
variable {D : Nat → Nat → Nat} {E cn SE SA SL SM : Nat → Nat} {B : (Nat → Nat) × (Nat → Nat → Nat) × (Nat → Nat → Nat)} {n p m e j k v T s t y : Nat} {f0 f1 f2 f3 f4 f5 g0 g1 g2 g3 g4 g5 : Nat → Int32} {kn : Int32} {LO HI : Nat → Nat → Nat}
theorem nkB_y (h : cn j = 1) : nkB cn SE SA SL SM B (j + 1) = nk1 (nkB cn SE SA SL SM B j) (SE j) (SA j) (SL j) (SM j) := if_pos h
theorem nkB_ch (hs : ∀ j, j < n → SM j ≤ 9) (e : Nat) : (nkB cn SE SA SL SM ((fun _ => 0), LO, HI) n).1 e ≤ 1 ∧ ((nkB cn SE SA SL SM ((fun _ => 0), LO, HI) n).1 e = 0 → ∀ j, j < n → cn j = 1 → ¬ SE j = e) ∧ ((nkB cn SE SA SL SM ((fun _ => 0), LO, HI) n).1 e = 1 → ∀ m v, v ≤ 9 → (((nkB cn SE SA SL SM ((fun _ => 0), LO, HI) n).2.1 e m ≤ v ∧ v ≤ (nkB cn SE SA SL SM ((fun _ => 0), LO, HI) n).2.2 e m) ↔ ∀ j, j < n → cn j = 1 → SE j = e → SA j = m → SL j ≤ v ∧ v ≤ SM j)) := by
  induction n with
  | zero =>
    refine ⟨Nat.zero_le 1, fun _ j h => absurd h (Nat.not_lt_zero j), fun q => ?_⟩
    exact absurd q (by show ¬ 0 = 1; decide)
  | succ n ih =>
    obtain ⟨i1, i2, i3⟩ := ih (fun j hj => hs j (by omega))
    by_cases c : cn n = 1
    · rw [nkB_y c]
      generalize nkB cn SE SA SL SM ((fun _ => 0), LO, HI) n = C at i1 i2 i3 ⊢
      show upN C.1 (SE n) 1 e ≤ 1 ∧ (upN C.1 (SE n) 1 e = 0 → _) ∧ (upN C.1 (SE n) 1 e = 1 → ∀ m v, v ≤ 9 → ((nrL C.1 C.2.1 (SE n) (SA n) (SL n) e m ≤ v ∧ v ≤ nrH C.1 C.2.2 (SE n) (SA n) (SM n) e m) ↔ _))
      by_cases q : e = SE n
      · subst q
        rw [upN_s]
        refine ⟨Nat.le_refl 1, fun z => absurd z (by decide), fun _ m v hv => ?_⟩
        have base : (((if C.1 (SE n) = 0 then 0 else C.2.1 (SE n) m) ≤ v ∧ v ≤ (if C.1 (SE n) = 0 then 9 else C.2.2 (SE n) m)) ↔ ∀ j, j < n → cn j = 1 → SE j = SE n → SA j = m → SL j ≤ v ∧ v ≤ SM j) := by
          by_cases z : C.1 (SE n) = 0
          · rw [if_pos z, if_pos z]
            exact ⟨fun _ j hj hc he _ => absurd he (i2 z j hj hc), fun _ => ⟨Nat.zero_le v, hv⟩⟩
          · rw [if_neg z, if_neg z]
            exact i3 (by omega) m v hv
        unfold nrL nrH
        rw [if_pos rfl, if_pos rfl]
        by_cases w : m = SA n
        · rw [if_pos w, if_pos w]
          constructor
          · intro h j hj hc he hm
            by_cases y : j = n
            · subst y
              omega
            · exact base.mp (by omega) j (by omega) hc he hm
          · intro h
            have a := h n (Nat.lt_succ_self n) c rfl w.symm
            have b := base.mpr (fun j hj => h j (by omega))
            omega
        · rw [if_neg w, if_neg w]
          refine base.trans ⟨fun h j hj hc he hm => ?_, fun h j hj => h j (by omega)⟩
          by_cases y : j = n
          · subst y
            exact absurd hm.symm w
          · exact h j (by omega) hc he hm
      · rw [upN_n q]
        refine ⟨i1, fun z j hj hc => ?_, fun z m v hv => ?_⟩
        · by_cases y : j = n
          · subst y
            exact fun a => q a.symm
          · exact i2 z j (by omega) hc
        · unfold nrL nrH
          rw [if_neg q, if_neg q]
          refine (i3 z m v hv).trans ⟨fun h j hj hc he hm => ?_, fun h j hj => h j (by omega)⟩
          by_cases y : j = n
          · subst y
            exact absurd he.symm q
          · exact h j (by omega) hc he hm
    · have c0 : ¬ cn n = 1 := c
      have e0 : nkB cn SE SA SL SM ((fun _ => 0), LO, HI) (n + 1) = nkB cn SE SA SL SM ((fun _ => 0), LO, HI) n := if_neg c
      rw [e0]
      refine ⟨i1, fun z j hj hc => ?_, fun z m v hv => (i3 z m v hv).trans ⟨fun h j hj hc he hm => ?_, fun h j hj => h j (by omega)⟩⟩
      · by_cases y : j = n
        · subst y
          exact absurd hc c
        · exact i2 z j (by omega) hc
      · by_cases y : j = n
        · subst y
          exact absurd hc c
        · exact h j (by omega) hc he hm
end NK
section FZ
variable {D LO HI : Nat → Nat → Nat} {E cn SE SA SL SM : Nat → Nat} {n T s t m : Nat}
end FZ
