section GR
variable {c : Nat → Nat} {s p q n i j k l w lo hi : Nat} {D E : Nat → Nat → Nat}
theorem tE_ge : p ≤ tE c s p := by
  have h := tP_ge (c := c) (s := s) (p := p)
  have h1 : tP c s p ≤ tL c s p := rn_ge
  have h2 : tP c s p ≤ tD c s p := rn_ge
  unfold tE
  split
  · omega
  · split
    · omega
    · split
      · omega
      · omega
theorem tE_59 (h : tS c s p = 59) : p < tE c s p ∧ tE c s p ≤ s := by
  have h0 := tP_ge (c := c) (s := s) (p := p)
  have h1 : tP c s p < s := by
    by_cases a : tP c s p < s
    · exact a
    · unfold tS at h
      rw [if_neg a] at h
      exact absurd h (by decide)
  have e : tE c s p = tP c s p + 1 := by
    unfold tE
    rw [if_neg (by omega), if_neg (by omega), if_pos h]
  omega
theorem tS_out (hp : s ≤ p) : tS c s p = 0 := tok_end rfl (Nat.le_trans hp tP_ge)
theorem newS_d (h : (newS c s i n p D).1 = 0) : newS c s i n p D = (0, 0, tE c s p, upD D i n (tW c s p)) ∧ isNm c s p ∧ fnd (D i) n (tW c s p) = 0 := by
  by_cases a : isNm c s p
  · by_cases b : fnd (D i) n (tW c s p) = 0
    · exact ⟨newS_1 a b, a, b⟩
    · rw [newS_2 a b] at h
      exact absurd (show (3 : Nat) = 0 from h) (by decide)
  · rw [newS_3 a] at h
    exact absurd h (fl1_pos (by decide))
theorem numS_d (h : (numS c s w lo hi p).1 = 0) : numS c s w lo hi p = (0, 0, tE c s (tE c s p), tN c s (tE c s p)) ∧ lo ≤ tN c s (tE c s p) ∧ tN c s (tE c s p) ≤ hi := by
  by_cases a : isWd c s p w
  · by_cases b : tS c s (tE c s p) = 2
    · by_cases d : lo ≤ tN c s (tE c s p) ∧ tN c s (tE c s p) ≤ hi
      · exact ⟨numS_1 a b d, d⟩
      · rw [numS_2 a b d] at h
        exact absurd (show (4 : Nat) = 0 from h) (by decide)
    · rw [numS_3 a b] at h
      exact absurd h (fl1_pos (by decide))
  · rw [numS_4 a] at h
    exact absurd h (fl1_pos (by decide))
theorem numS_g (h : (numS c s w lo hi p).1 = 0) : p ≤ (numS c s w lo hi p).2.2.1 ∧ lo ≤ (numS c s w lo hi p).2.2.2 ∧ (numS c s w lo hi p).2.2.2 ≤ hi := by
  obtain ⟨e, a, b⟩ := numS_d h
  rw [e]
  exact ⟨Nat.le_trans tE_ge tE_ge, a, b⟩
theorem oldS_d (h : (oldS c s i n p D).1 = 0) : 1 ≤ (oldS c s i n p D).2 ∧ (oldS c s i n p D).2 ≤ n := by
  have a := oldS_nm h
  by_cases b : fnd (D i) n (tW c s p) = 0
  · rw [oldS_2 a b] at h
    exact absurd (show (5 : Nat) = 0 from h) (by decide)
  · rw [oldS_1 a b]
    exact ⟨Nat.pos_of_ne_zero b, fnd_le⟩
theorem sideK_le : sideK c s p ≤ 3 := by
  unfold sideK
  split
  · decide
  · split
    · decide
    · split
      · decide
      · decide
theorem sideE_ge : p ≤ sideE c s p := by
  unfold sideE
  split
  · exact Nat.le_refl p
  · exact tE_ge
theorem fnd_0 {f : Nat → Nat} : ∀ {n : Nat}, fnd f n w = 0 → ∀ k, k < n → f k ≠ w
  | 0, _, k, hk => absurd hk (Nat.not_lt_zero k)
  | n + 1, h, k, hk => by
    have h' : (if f n = w then n + 1 else fnd f n w) = 0 := h
    by_cases a : f n = w
    · rw [if_pos a] at h'
      exact absurd h' (by omega)
    · rw [if_neg a] at h'
      by_cases e : k = n
      · rw [e]
        exact a
      · exact fnd_0 h' k (by omega)
theorem fnd_s {f : Nat → Nat} : ∀ {n i : Nat}, fnd f n w = i + 1 → i < n ∧ f i = w
  | 0, i, h => absurd (show 0 = i + 1 from h) (by omega)
  | n + 1, i, h => by
    have h' : (if f n = w then n + 1 else fnd f n w) = i + 1 := h
    by_cases a : f n = w
    · rw [if_pos a] at h'
      have e : i = n := by omega
      rw [e]
      exact ⟨Nat.lt_succ_self n, a⟩
    · rw [if_neg a] at h'
      obtain ⟨x, y⟩ := fnd_s h'
      exact ⟨by omega, y⟩
def DsOk (f : Nat → Nat) (n : Nat) : Prop := ∀ j k, j < n → k < n → f j = f k → j = k
theorem DsOk_new (h : DsOk (D i) n) (hf : fnd (D i) n w = 0) : DsOk (upD D i n w i) (n + 1) := fun a b ha hb e => by
  have h0 := fnd_0 hf
  by_cases x : a = n
  · by_cases y : b = n
    · omega
    · rw [x, upD_s, upD_n (fun q => y q.2)] at e
      exact absurd e.symm (h0 b (by omega))
  · by_cases y : b = n
    · rw [y, upD_s, upD_n (fun q => x q.2)] at e
      exact absurd e (h0 a (by omega))
    · rw [upD_n (fun q => x q.2), upD_n (fun q => y q.2)] at e
      exact h a b (by omega) (by omega) e
/-- bounds of what is told -/
def DOk (D : Nat → Nat → Nat) : Prop := D 0 0 ≤ 6 ∧ D 0 1 ≤ 10 ∧ D 0 2 ≤ 4 ∧ (∀ k, k < D 0 0 → 1 ≤ D 4 k ∧ D 4 k ≤ 9 ∧ D 5 k ≤ 9 ∧ D 6 k ≤ 3) ∧ (∀ l, l < D 0 1 → 1 ≤ D 7 l ∧ D 7 l ≤ 5 ∧ ∀ j, j < D 7 l → D 8 (5 * l + j) < D 0 0) ∧ (∀ e, e < D 0 2 → D 9 e ≤ 9) ∧ DsOk (D 1) (D 0 0) ∧ DsOk (D 2) (D 0 1)
theorem DOk_0 : DOk (fun _ _ => 0) := ⟨by decide, by decide, by decide, fun k h => absurd h (Nat.not_lt_zero k), fun k h => absurd h (Nat.not_lt_zero k), fun k h => absurd h (Nat.not_lt_zero k), fun j k h => absurd h (Nat.not_lt_zero j), fun j k h => absurd h (Nat.not_lt_zero j)⟩
theorem stepS_d (h : (stepS c s p D).1 = 0) : (stN c s p D).1 = 0 ∧ (stT c s p D).1 = 0 ∧ (stL c s p D).1 = 0 := by
  by_cases a : (stN c s p D).1 = 0
  · by_cases b : (stT c s p D).1 = 0
    · by_cases d : (stL c s p D).1 = 0
      · exact ⟨a, b, d⟩
      · unfold stepS at h
        rw [if_pos a, if_pos b, if_neg d] at h
        exact absurd h d
    · unfold stepS at h
      rw [if_pos a, if_neg b] at h
      exact absurd h b
  · unfold stepS at h
    rw [if_neg a] at h
    exact absurd h a
theorem stepS_g (h : (stepS c s p D).1 = 0) : p ≤ (stepS c s p D).2.2.1 := by
  obtain ⟨a, b, d⟩ := stepS_d h
  rw [stepS_0 a b d]
  have e1 : p ≤ (stN c s p D).2.2.1 := by
    unfold stN at a ⊢
    rw [(newS_d a).1]
    exact Nat.le_trans tE_ge tE_ge
  have e2 : (stN c s p D).2.2.1 ≤ (stT c s p D).2.2.1 := (numS_g b).1
  have e3 : (stT c s p D).2.2.1 ≤ (stL c s p D).2.2.1 := (numS_g d).1
  have e4 : (stL c s p D).2.2.1 ≤ sideE c s (stL c s p D).2.2.1 := sideE_ge
  show p ≤ sideE c s (stL c s p D).2.2.1
  omega
theorem stepS_D (hD : DOk D) (hn : D 0 0 < 6) (h : (stepS c s p D).1 = 0) : DOk (stepS c s p D).2.2.2 := by
  obtain ⟨a, b, d⟩ := stepS_d h
  rw [stepS_0 a b d]
  obtain ⟨t1, t2, t3⟩ := numS_g (show (numS c s 499850634611 1 9 (stN c s p D).2.2.1).1 = 0 from b)
  obtain ⟨l1, l2, l3⟩ := numS_g (show (numS c s 1819243876 0 9 (stT c s p D).2.2.1).1 = 0 from d)
  have t2 : 1 ≤ (stT c s p D).2.2.2 := t2
  have t3 : (stT c s p D).2.2.2 ≤ 9 := t3
  have l3 : (stL c s p D).2.2.2 ≤ 9 := l3
  have k3 := sideK_le (c := c) (s := s) (p := (stL c s p D).2.2.1)
  have nm := (stN_d a).1
  have nf := (newS_d (show (newS c s 1 (D 0 0) (tE c s p) D).1 = 0 from a)).2.2
  show DOk (upD (upD (upD (upD (stN c s p D).2.2.2 4 (D 0 0) (stT c s p D).2.2.2) 5 (D 0 0) (stL c s p D).2.2.2) 6 (D 0 0) (sideK c s (stL c s p D).2.2.1)) 0 0 (D 0 0 + 1))
  rw [nm]
  generalize (stT c s p D).2.2.2 = t at *
  generalize (stL c s p D).2.2.2 = v at *
  generalize sideK c s (stL c s p D).2.2.1 = g at *
  obtain ⟨x1, x2, x3, x4, x5, x6, x7, x8⟩ := hD
  have o : ∀ i, i ≠ 0 → i ≠ 1 → i ≠ 4 → i ≠ 5 → i ≠ 6 → upD (upD (upD (upD (upD D 1 (D 0 0) (tW c s (tE c s p))) 4 (D 0 0) t) 5 (D 0 0) v) 6 (D 0 0) g) 0 0 (D 0 0 + 1) i = D i := fun i h0 h1 h4 h5 h6 => by rw [upD_o h0, upD_o h6, upD_o h5, upD_o h4, upD_o h1]
  have e0 : upD (upD (upD (upD (upD D 1 (D 0 0) (tW c s (tE c s p))) 4 (D 0 0) t) 5 (D 0 0) v) 6 (D 0 0) g) 0 0 (D 0 0 + 1) 0 0 = D 0 0 + 1 := upD_s
  have o0 : ∀ k, k ≠ 0 → upD (upD (upD (upD (upD D 1 (D 0 0) (tW c s (tE c s p))) 4 (D 0 0) t) 5 (D 0 0) v) 6 (D 0 0) g) 0 0 (D 0 0 + 1) 0 k = D 0 k := fun k hk => by rw [upD_n (fun q => hk q.2), upD_o (by decide), upD_o (by decide), upD_o (by decide), upD_o (by decide)]
  refine ⟨?_, ?_, ?_, ?_, ?_, ?_, ?_, ?_⟩
  · rw [e0]
    omega
  · rw [o0 1 (by decide)]
    exact x2
  · rw [o0 2 (by decide)]
    exact x3
  · rw [e0]
    intro k hk
    by_cases e : k = D 0 0
    · subst e
      rw [upD_o (show (4 : Nat) ≠ 0 by decide), upD_o (show (4 : Nat) ≠ 6 by decide), upD_o (show (4 : Nat) ≠ 5 by decide), upD_s, upD_o (show (5 : Nat) ≠ 0 by decide), upD_o (show (5 : Nat) ≠ 6 by decide), upD_s, upD_o (show (6 : Nat) ≠ 0 by decide), upD_s]
      exact ⟨t2, t3, l3, k3⟩
    · rw [upD_o (show (4 : Nat) ≠ 0 by decide), upD_o (show (4 : Nat) ≠ 6 by decide), upD_o (show (4 : Nat) ≠ 5 by decide), upD_n (fun q => e q.2), upD_o (show (4 : Nat) ≠ 1 by decide), upD_o (show (5 : Nat) ≠ 0 by decide), upD_o (show (5 : Nat) ≠ 6 by decide), upD_n (fun q => e q.2), upD_o (show (5 : Nat) ≠ 4 by decide), upD_o (show (5 : Nat) ≠ 1 by decide), upD_o (show (6 : Nat) ≠ 0 by decide), upD_n (fun q => e q.2), upD_o (show (6 : Nat) ≠ 5 by decide), upD_o (show (6 : Nat) ≠ 4 by decide), upD_o (show (6 : Nat) ≠ 1 by decide)]
      exact x4 k (by omega)
  · rw [o0 1 (by decide), e0, o 7 (by decide) (by decide) (by decide) (by decide) (by decide), o 8 (by decide) (by decide) (by decide) (by decide) (by decide)]
    intro l hl
    obtain ⟨y1, y2, y3⟩ := x5 l hl
    exact ⟨y1, y2, fun j hj => Nat.lt_succ_of_lt (y3 j hj)⟩
  · rw [o0 2 (by decide), o 9 (by decide) (by decide) (by decide) (by decide) (by decide)]
    exact x6
  · rw [e0, upD_o (show (1 : Nat) ≠ 0 by decide), upD_o (show (1 : Nat) ≠ 6 by decide), upD_o (show (1 : Nat) ≠ 5 by decide), upD_o (show (1 : Nat) ≠ 4 by decide)]
    exact DsOk_new x7 nf
  · rw [o0 1 (by decide), o 2 (by decide) (by decide) (by decide) (by decide) (by decide)]
    exact x8
theorem rowS_d : ∀ {k q j : Nat} {E : Nat → Nat → Nat}, k + j = 6 → 1 ≤ k → (rowS c s l k q j E).1 = 0 → q ≤ (rowS c s l k q j E).2.2.1 ∧ j < (rowS c s l k q j E).2.2.2.1 ∧ (rowS c s l k q j E).2.2.2.1 ≤ 5 ∧ (∀ i, i ≠ 8 → (rowS c s l k q j E).2.2.2.2 i = E i) ∧ (∀ m, m < 5 * l + j → (rowS c s l k q j E).2.2.2.2 8 m = E 8 m) ∧ (∀ i, j ≤ i → i < (rowS c s l k q j E).2.2.2.1 → (rowS c s l k q j E).2.2.2.2 8 (5 * l + i) < E 0 0)
  | 0, q, j, E, _, h1, _ => absurd h1 (by decide)
  | k + 1, q, j, E, hk, _, h => by
    by_cases a : j = 5
    · rw [row_5 a] at h
      exact absurd h (fl1_pos (by decide))
    · by_cases b : (oldS c s 1 (E 0 0) q E).1 = 0
      · obtain ⟨o1, o2⟩ := oldS_d b
        by_cases d : tS c s (tE c s q) = 1
        · rw [row_on a b d] at h ⊢
          obtain ⟨y1, y2, y3, y4, y5, y6⟩ := rowS_d (k := k) (q := tE c s q) (j := j + 1) (by omega) (by omega) h
          have e0 : upD E 8 (5 * l + j) ((oldS c s 1 (E 0 0) q E).2 - 1) 0 0 = E 0 0 := by rw [upD_o (by decide)]
          rw [e0] at y6
          refine ⟨Nat.le_trans tE_ge y1, by omega, y3, fun i hi => ?_, fun m hm => ?_, fun i h1 h2 => ?_⟩
          · rw [y4 i hi, upD_o hi]
          · rw [y5 m (by omega), upD_n (by omega)]
          · by_cases e : i = j
            · subst e
              rw [y5 (5 * l + i) (by omega), upD_s]
              omega
            · exact y6 i (by omega) h2
        · rw [row_off a b d]
          refine ⟨tE_ge, Nat.lt_succ_self j, (by omega : j + 1 ≤ 5), fun i hi => upD_o hi, fun m hm => upD_n (by omega), fun i h1 h2 => ?_⟩
          have h2 : i < j + 1 := h2
          have e : i = j := by omega
          subst e
          show upD E 8 (5 * l + i) ((oldS c s 1 (E 0 0) q E).2 - 1) 8 (5 * l + i) < E 0 0
          rw [upD_s]
          omega
      · rw [row_f a b] at h
        exact absurd h b
theorem letS_d (h : (letterS c s p D).1 = 0) : (leN c s p D).1 = 0 ∧ (leR c s p D).1 = 0 := by
  by_cases a : (leN c s p D).1 = 0
  · by_cases b : (leR c s p D).1 = 0
    · exact ⟨a, b⟩
    · unfold letterS at h
      rw [if_pos a, if_neg b] at h
      exact absurd h b
  · unfold letterS at h
    rw [if_neg a] at h
    exact absurd h a
theorem letS_g (h : (letterS c s p D).1 = 0) : p ≤ (letterS c s p D).2.2.1 := by
  obtain ⟨a, b⟩ := letS_d h
  rw [letS_0 a b]
  have e1 : p ≤ (leN c s p D).2.2.1 := by
    unfold leN at a ⊢
    rw [(newS_d a).1]
    exact Nat.le_trans tE_ge tE_ge
  have e2 := (rowS_d (by decide) (by decide) (show (rowS c s (D 0 1) 6 (leN c s p D).2.2.1 0 (leN c s p D).2.2.2).1 = 0 from b)).1
  exact Nat.le_trans e1 e2
theorem letS_D (hD : DOk D) (hn : D 0 1 < 10) (h : (letterS c s p D).1 = 0) : DOk (letterS c s p D).2.2.2 := by
  obtain ⟨a, b⟩ := letS_d h
  rw [letS_0 a b]
  obtain ⟨_, r2, r3, r4, r5, r6⟩ := rowS_d (by decide) (by decide) (show (rowS c s (D 0 1) 6 (leN c s p D).2.2.1 0 (leN c s p D).2.2.2).1 = 0 from b)
  have nm := (leN_d a).1
  have nf := (newS_d (show (newS c s 2 (D 0 1) (tE c s p) D).1 = 0 from a)).2.2
  have r2 : 0 < (leR c s p D).2.2.2.1 := r2
  have r3 : (leR c s p D).2.2.2.1 ≤ 5 := r3
  have r4 : ∀ i, i ≠ 8 → (leR c s p D).2.2.2.2 i = (leN c s p D).2.2.2 i := r4
  have r5 : ∀ m, m < 5 * D 0 1 + 0 → (leR c s p D).2.2.2.2 8 m = (leN c s p D).2.2.2 8 m := r5
  have r6 : ∀ i, 0 ≤ i → i < (leR c s p D).2.2.2.1 → (leR c s p D).2.2.2.2 8 (5 * D 0 1 + i) < (leN c s p D).2.2.2 0 0 := r6
  show DOk (upD (upD (leR c s p D).2.2.2.2 7 (D 0 1) (leR c s p D).2.2.2.1) 0 1 (D 0 1 + 1))
  generalize (leR c s p D).2.2.2.2 = E at *
  generalize (leR c s p D).2.2.2.1 = j at *
  rw [nm] at r4 r5 r6
  rw [upD_o (show (0 : Nat) ≠ 2 by decide)] at r6
  rw [upD_o (show (8 : Nat) ≠ 2 by decide)] at r5
  have r7 : ∀ i, i ≠ 8 → i ≠ 2 → E i = D i := fun i h8 h2 => by rw [r4 i h8, upD_o h2]
  obtain ⟨x1, x2, x3, x4, x5, x6, x7, x8⟩ := hD
  have o : ∀ i, i ≠ 0 → i ≠ 7 → upD (upD E 7 (D 0 1) j) 0 1 (D 0 1 + 1) i = E i := fun i h0 h7 => by rw [upD_o h0, upD_o h7]
  have e1 : upD (upD E 7 (D 0 1) j) 0 1 (D 0 1 + 1) 0 1 = D 0 1 + 1 := upD_s
  have o0 : ∀ k, k ≠ 1 → upD (upD E 7 (D 0 1) j) 0 1 (D 0 1 + 1) 0 k = D 0 k := fun k hk => by rw [upD_n (fun q => hk q.2), upD_o (by decide), r7 0 (by decide) (by decide)]
  refine ⟨?_, ?_, ?_, ?_, ?_, ?_, ?_, ?_⟩
  · rw [o0 0 (by decide)]
    exact x1
  · rw [e1]
    omega
  · rw [o0 2 (by decide)]
    exact x3
  · rw [o0 0 (by decide), o 4 (by decide) (by decide), o 5 (by decide) (by decide), o 6 (by decide) (by decide), r7 4 (by decide) (by decide), r7 5 (by decide) (by decide), r7 6 (by decide) (by decide)]
    exact x4
  · rw [e1, o0 0 (by decide), o 8 (by decide) (by decide), upD_o (show (7 : Nat) ≠ 0 by decide)]
    intro l hl
    by_cases e : l = D 0 1
    · subst e
      rw [upD_s]
      exact ⟨r2, r3, fun i hi => r6 i (Nat.zero_le i) hi⟩
    · rw [upD_n (fun q => e q.2), r7 7 (by decide) (by decide)]
      obtain ⟨y1, y2, y3⟩ := x5 l (by omega)
      refine ⟨y1, y2, fun i hi => ?_⟩
      rw [r5 (5 * l + i) (by omega)]
      exact y3 i hi
  · rw [o0 2 (by decide), o 9 (by decide) (by decide), r7 9 (by decide) (by decide)]
    exact x6
  · rw [o0 0 (by decide), o 1 (by decide) (by decide), r7 1 (by decide) (by decide)]
    exact x7
  · rw [e1, o 2 (by decide) (by decide), r4 2 (by decide)]
    exact DsOk_new x8 nf
theorem bkS_g : ∀ {k q : Nat} {x : Int32}, (bkS c s n D k q x).1 = 0 → q ≤ (bkS c s n D k q x).2.2.1
  | 0, q, x, _ => Nat.le_refl q
  | k + 1, q, x, h => by
    by_cases a : (oldS c s 2 n q D).1 = 0
    · obtain ⟨i, hi⟩ : ∃ i, (oldS c s 2 n q D).2 = i + 1 := ⟨(oldS c s 2 n q D).2 - 1, by have := (oldS_d a).1; omega⟩
      by_cases b : (x >>> (nI i &&& 31)) &&& 1 = 1
      · rw [bk_t a hi b] at h
        exact absurd (show (3 : Nat) = 0 from h) (by decide)
      · by_cases d : tS c s (tE c s q) = 1
        · rw [bk_on a hi b d] at h ⊢
          exact Nat.le_trans tE_ge (bkS_g h)
        · rw [bk_off a hi b d]
          exact tE_ge
    · rw [bk_f a] at h
      exact absurd h a
theorem earS_d (h : (earS c s p D).1 = 0) : (eaN c s p D).1 = 0 ∧ (eaF c s p D).1 = 0 ∧ (eaB c s p D).1 = 0 := by
  by_cases a : (eaN c s p D).1 = 0
  · by_cases b : (eaF c s p D).1 = 0
    · by_cases d : (eaB c s p D).1 = 0
      · exact ⟨a, b, d⟩
      · unfold earS at h
        rw [if_pos a, if_pos b, if_neg d] at h
        exact absurd h d
    · unfold earS at h
      rw [if_pos a, if_neg b] at h
      exact absurd h b
  · unfold earS at h
    rw [if_neg a] at h
    exact absurd h a
theorem earS_g (h : (earS c s p D).1 = 0) : p ≤ (earS c s p D).2.2.1 := by
  obtain ⟨a, b, d⟩ := earS_d h
  rw [earS_0 a b d]
  have e1 : p ≤ (eaN c s p D).2.2.1 := by
    unfold eaN at a ⊢
    rw [(newS_d a).1]
    exact Nat.le_trans tE_ge tE_ge
  have e2 : (eaN c s p D).2.2.1 ≤ (eaF c s p D).2.2.1 := (numS_g b).1
  have e3 : (eaF c s p D).2.2.1 ≤ (eaB c s p D).2.2.1 := by
    by_cases q : isWd c s (eaF c s p D).2.2.1 1651470187
    · rw [eaB_1 q] at d ⊢
      exact Nat.le_trans tE_ge (bkS_g d)
    · rw [eaB_0 q]
      exact Nat.le_refl _
  exact Nat.le_trans e1 (Nat.le_trans e2 e3)
theorem earS_D (hD : DOk D) (hn : D 0 2 < 4) (h : (earS c s p D).1 = 0) : DOk (earS c s p D).2.2.2 := by
  obtain ⟨a, b, d⟩ := earS_d h
  rw [earS_0 a b d]
  obtain ⟨_, _, t3⟩ := numS_g (show (numS c s 112615912075891 0 9 (eaN c s p D).2.2.1).1 = 0 from b)
  have t3 : (eaF c s p D).2.2.2 ≤ 9 := t3
  have nm := (eaN_d a).1
  show DOk (upD (upD (upD (eaN c s p D).2.2.2 9 (D 0 2) (eaF c s p D).2.2.2) 10 (D 0 2) (bits (eaB c s p D).2.2.2)) 0 2 (D 0 2 + 1))
  rw [nm]
  generalize (eaF c s p D).2.2.2 = v at *
  generalize bits (eaB c s p D).2.2.2 = g at *
  generalize tW c s (tE c s p) = w at *
  obtain ⟨x1, x2, x3, x4, x5, x6, x7, x8⟩ := hD
  have o : ∀ i, i ≠ 0 → i ≠ 3 → i ≠ 9 → i ≠ 10 → upD (upD (upD (upD D 3 (D 0 2) w) 9 (D 0 2) v) 10 (D 0 2) g) 0 2 (D 0 2 + 1) i = D i := fun i h0 h3 h9 h10 => by rw [upD_o h0, upD_o h10, upD_o h9, upD_o h3]
  have e2 : upD (upD (upD (upD D 3 (D 0 2) w) 9 (D 0 2) v) 10 (D 0 2) g) 0 2 (D 0 2 + 1) 0 2 = D 0 2 + 1 := upD_s
  have o0 : ∀ k, k ≠ 2 → upD (upD (upD (upD D 3 (D 0 2) w) 9 (D 0 2) v) 10 (D 0 2) g) 0 2 (D 0 2 + 1) 0 k = D 0 k := fun k hk => by rw [upD_n (fun q => hk q.2), upD_o (by decide), upD_o (by decide), upD_o (by decide)]
  refine ⟨?_, ?_, ?_, ?_, ?_, ?_, ?_, ?_⟩
  · rw [o0 0 (by decide)]
    exact x1
  · rw [o0 1 (by decide)]
    exact x2
  · rw [e2]
    omega
  · rw [o0 0 (by decide), o 4 (by decide) (by decide) (by decide) (by decide), o 5 (by decide) (by decide) (by decide) (by decide), o 6 (by decide) (by decide) (by decide) (by decide)]
    exact x4
  · rw [o0 0 (by decide), o0 1 (by decide), o 7 (by decide) (by decide) (by decide) (by decide), o 8 (by decide) (by decide) (by decide) (by decide)]
    exact x5
  · rw [e2, upD_o (show (9 : Nat) ≠ 0 by decide), upD_o (show (9 : Nat) ≠ 10 by decide)]
    intro e he
    by_cases q : e = D 0 2
    · subst q
      rw [upD_s]
      exact t3
    · rw [upD_n (fun z => q z.2), upD_o (show (9 : Nat) ≠ 3 by decide)]
      exact x6 e (by omega)
  · rw [o0 0 (by decide), o 1 (by decide) (by decide) (by decide) (by decide)]
    exact x7
  · rw [o0 1 (by decide), o 2 (by decide) (by decide) (by decide) (by decide)]
    exact x8
theorem lnR_gD (hD : DOk D) (h : (lnR c s p D).1 = 0) : p ≤ (lnR c s p D).2.2.1 ∧ DOk (lnR c s p D).2.2.2 := by
  by_cases a : isWd c s p 1937007984 ∧ D 0 0 < 6
  · rw [ln_1 a.1 a.2] at h ⊢
    exact ⟨stepS_g h, stepS_D hD a.2 h⟩
  · by_cases b : isWd c s p 119183001281906 ∧ D 0 1 < 10
    · rw [ln_2 a b.1 b.2] at h ⊢
      exact ⟨letS_g h, letS_D hD b.2 h⟩
    · by_cases d : isWd c s p 6644082 ∧ D 0 2 < 4
      · rw [ln_3 a b d.1 d.2] at h ⊢
        exact ⟨earS_g h, earS_D hD d.2 h⟩
      · rw [ln_4 a b d] at h
        exact absurd h (fl1_pos (by decide))
theorem lineS_gD (hD : DOk D) (h : (lineS c s p D).1 = 0) : p < (lineS c s p D).2.2.1 ∧ (lineS c s p D).2.2.1 ≤ s ∧ DOk (lineS c s p D).2.2.2 := by
  by_cases a : (lnR c s p D).1 = 0
  · by_cases b : tS c s (lnR c s p D).2.2.1 = 59
    · have g := lnR_gD hD a
      have e := tE_59 b
      unfold lineS
      rw [if_pos a, if_pos b]
      exact ⟨Nat.lt_of_le_of_lt g.1 e.1, e.2, g.2⟩
    · unfold lineS at h
      rw [if_pos a, if_neg b] at h
      exact absurd h (fl1_pos (by decide))
  · unfold lineS at h
    rw [if_neg a] at h
    exact absurd h a
/-- all lines from the token at p: fault, place, what is told -/
def allS (c : Nat → Nat) (s : Nat) : Nat → Nat → (Nat → Nat → Nat) → Nat × Nat × (Nat → Nat → Nat)
  | 0, _, D => (0, 0, D)
  | k + 1, p, D => if tS c s p = 0 then (0, 0, D) else if (lineS c s p D).1 = 0 then allS c s k (lineS c s p D).2.2.1 (lineS c s p D).2.2.2 else ((lineS c s p D).1, (lineS c s p D).2.1, D)
theorem all_e (h : tS c s p = 0) : allS c s (k + 1) p D = (0, 0, D) := if_pos h
theorem all_f (h : ¬ tS c s p = 0) (hf : ¬ (lineS c s p D).1 = 0) : allS c s (k + 1) p D = ((lineS c s p D).1, (lineS c s p D).2.1, D) := by
  show (if tS c s p = 0 then _ else if (lineS c s p D).1 = 0 then _ else _) = _
  rw [if_neg h, if_neg hf]
theorem all_o (h : ¬ tS c s p = 0) (hf : (lineS c s p D).1 = 0) : allS c s (k + 1) p D = allS c s k (lineS c s p D).2.2.1 (lineS c s p D).2.2.2 := by
  show (if tS c s p = 0 then _ else if (lineS c s p D).1 = 0 then _ else _) = _
  rw [if_neg h, if_pos hf]
end GR
