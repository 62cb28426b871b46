def ftk (g m : Nat) : Nat := if m = 0 then 0 else if g = 3 then m else if g = 0 ∨ g = m then 3 - m else 0
theorem ftk_0 (g : Nat) : ftk g 0 = 0 := if_pos rfl
theorem ftk_st : ∀ g, g < 4 → ∀ f, f < 2 → (sdC g = 3 → f + 1 = ftk g (f + 1)) ∧ (¬ sdC g = 3 → (sdC g = 2 ∨ sdC g = f) → 1 - f + 1 = ftk g (f + 1)) ∧ (¬ sdC g = 3 → ¬ sdC g = 2 → ¬ sdC g = f → 0 = ftk g (f + 1)) := fun g hg f hf => by
  rcases (show g = 0 ∨ g = 1 ∨ g = 2 ∨ g = 3 by omega) with rfl | rfl | rfl | rfl <;> rcases (show f = 0 ∨ f = 1 by omega) with rfl | rfl <;> decide
theorem sdC_le : ∀ {g : Nat}, g ≤ 3 → sdC g ≤ 3 := fun {g} h => by
  unfold sdC
  split
  · decide
  · split
    · decide
    · omega
theorem ftk_le {g m : Nat} (h : m ≤ 2) : ftk g m ≤ 2 := by
  unfold ftk
  split
  · decide
  · split
    · exact h
    · split
      · omega
      · decide
def rowF (g r : Nat → Nat) : Nat → Nat → Nat
  | 0, m => m
  | j + 1, m => ftk (g (r j)) (rowF g r j m)
def tkS (t r : Nat → Nat) : Nat → Nat
  | 0 => 0
  | j + 1 => tkS t r j + t (r j)
theorem rowF_le {g r : Nat → Nat} {m : Nat} (h : m ≤ 2) : ∀ {j : Nat}, rowF g r j m ≤ 2
  | 0 => h
  | j + 1 => ftk_le (rowF_le h)
theorem rowF_n {g r : Nat → Nat} {m k x y : Nat} (h : x = rowF g r k m) (e : y = ftk (g (r k)) x) : y = rowF g r (k + 1) m := by
  rw [e, h]
  rfl
theorem tkS_n {t r : Nat → Nat} {k S : Nat} (h : S = tkS t r k) : S + t (r k) = tkS t r (k + 1) := by
  rw [h]
  rfl
theorem tkS_le {t r : Nat → Nat} {b : Nat} : ∀ {j : Nat}, (∀ i, i < j → 1 ≤ t (r i) ∧ t (r i) ≤ b) → j ≤ tkS t r j ∧ tkS t r j ≤ b * j
  | 0, _ => ⟨Nat.le_refl 0, Nat.zero_le _⟩
  | j + 1, h => by
    have a := tkS_le (t := t) (r := r) (b := b) (j := j) (fun i hi => h i (by omega))
    have e := h j (Nat.lt_succ_self j)
    show j + 1 ≤ tkS t r j + t (r j) ∧ tkS t r j + t (r j) ≤ b * (j + 1)
    rw [Nat.mul_succ]
    omega
theorem rowF_cg {g r g' r' : Nat → Nat} {m : Nat} : ∀ {j : Nat}, (∀ i, i < j → r i = r' i ∧ g (r' i) = g' (r' i)) → rowF g r j m = rowF g' r' j m
  | 0, _ => rfl
  | j + 1, h => by
    show ftk (g (r j)) (rowF g r j m) = ftk (g' (r' j)) (rowF g' r' j m)
    rw [rowF_cg (fun i hi => h i (by omega)), (h j (Nat.lt_succ_self j)).1, (h j (Nat.lt_succ_self j)).2]
theorem tkS_cg {t r t' r' : Nat → Nat} : ∀ {j : Nat}, (∀ i, i < j → r i = r' i ∧ t (r' i) = t' (r' i)) → tkS t r j = tkS t' r' j
  | 0, _ => rfl
  | j + 1, h => by
    show tkS t r j + t (r j) = tkS t' r' j + t' (r' j)
    rw [tkS_cg (fun i hi => h i (by omega)), (h j (Nat.lt_succ_self j)).1, (h j (Nat.lt_succ_self j)).2]
def dR (D : Nat → Nat → Nat) (i : Nat) : Nat → Nat := fun j => D 8 (5 * i + j)
/-- the class's book of what is told -/
def bkC (v : Nat) : Int32 := if v = bits (-1) then 1023 else nI v
def StR (D : Nat → Nat → Nat) (n : Nat) (f1 f2 f3 : Nat → Int32) : Prop := ∀ k, k < n → f1 k = nI (D 4 k) ∧ f2 k = nI (D 5 k) ∧ f3 k = nI (sdC (D 6 k))
def LeR (D : Nat → Nat → Nat) (l : Nat) (f5 : Nat → Int32) (g6 : Nat → Nat → Int32) (f7 : Nat → Int32) (g8 : Nat → Nat → Int32) : Prop := ∀ i, i < l → f5 i = nI (D 7 i) ∧ (∀ j, j < D 7 i → g6 i j = nI (D 8 (5 * i + j))) ∧ f7 i = nI (tkS (D 4) (dR D i) (D 7 i)) ∧ g8 i 0 = pm (rowF (D 6) (dR D i) (D 7 i) 1) ∧ g8 i 1 = pm (rowF (D 6) (dR D i) (D 7 i) 2)
def EaR (D : Nat → Nat → Nat) (e : Nat) (f10 f11 : Nat → Int32) : Prop := ∀ k, k < e → f10 k = nI (D 9 k) ∧ f11 k = bkC (D 10 k)
/-- what the class's school holds -/
def ScR (D : Nat → Nat → Nat) (n l e : Nat) (c1 c2 c3 c5 : Nat → Int32) (c6 : Nat → Nat → Int32) (c7 : Nat → Int32) (c8 : Nat → Nat → Int32) (c10 c11 : Nat → Int32) : Prop := n = D 0 0 ∧ l = D 0 1 ∧ e = D 0 2 ∧ StR D n c1 c2 c3 ∧ LeR D l c5 c6 c7 c8 ∧ EaR D e c10 c11
def ClR (c : Nat → Nat) (D : Nat → Nat → Nat) (n l e : Nat) (c0 : Nat → Int64) (c1 c2 c3 : Nat → Int32) (c4 : Nat → Int64) (c5 : Nat → Int32) (c6 : Nat → Nat → Int32) (c7 : Nat → Int32) (c8 : Nat → Nat → Int32) (c9 : Nat → Int64) (c10 c11 : Nat → Int32) : Prop := ScR D n l e c1 c2 c3 c5 c6 c7 c8 c10 c11 ∧ NmC c c0 n (D 1) ∧ NmC c c4 l (D 2) ∧ NmC c c9 e (D 3)
section SR
variable {c : Nat → Nat} {D E : Nat → Nat → Nat} {n l e k t v w j x y : Nat} {c0 c0' c4 c4' c9 c9' : Nat → Int64} {c1 c2 c3 c5 c7 c10 c11 c7' : Nat → Int32} {c6 c8 c6' : Nat → Nat → Int32}
theorem LeR_cg (h : LeR D l c5 c6 c7 c8) (hb : ∀ i, i < l → ∀ j, j < D 7 i → D 8 (5 * i + j) < n) (h7 : ∀ i, i < l → E 7 i = D 7 i) (h8 : ∀ i, i < l → ∀ j, j < D 7 i → E 8 (5 * i + j) = D 8 (5 * i + j)) (h4 : ∀ k, k < n → E 4 k = D 4 k) (h6 : ∀ k, k < n → E 6 k = D 6 k) : LeR E l c5 c6 c7 c8 := fun i hi => by
  obtain ⟨a1, a2, a3, a4, a5⟩ := h i hi
  have b : ∀ (f g : Nat → Nat), (∀ k, k < n → f k = g k) → ∀ j, j < D 7 i → dR E i j = dR D i j ∧ f (dR D i j) = g (dR D i j) := fun f g h j hj => ⟨h8 i hi j hj, h _ (hb i hi j hj)⟩
  rw [h7 i hi]
  refine ⟨a1, fun j hj => ?_, ?_, ?_, ?_⟩
  · rw [h8 i hi j hj]
    exact a2 j hj
  · rw [tkS_cg (b (E 4) (D 4) h4)]
    exact a3
  · rw [rowF_cg (b (E 6) (D 6) h6)]
    exact a4
  · rw [rowF_cg (b (E 6) (D 6) h6)]
    exact a5
theorem ClR_step (h : ClR c D n l e c0 c1 c2 c3 c4 c5 c6 c7 c8 c9 c10 c11) (hD : DOk D) (hN : NmC c c0' (n + 1) (upD D 1 n w 1)) : ClR c (upD (upD (upD (upD (upD D 1 n w) 4 n t) 5 n v) 6 n k) 0 0 (n + 1)) (n + 1) l e c0' (upd c1 n (nI t)) (upd c2 n (nI v)) (upd c3 n (nI (sdC k))) c4 c5 c6 c7 c8 c9 c10 c11 := by
  obtain ⟨⟨s1, s2, s3, s4, s5, s6⟩, n1, n2, n3⟩ := h
  have o : ∀ i, i ≠ 0 → i ≠ 1 → i ≠ 4 → i ≠ 5 → i ≠ 6 → upD (upD (upD (upD (upD D 1 n w) 4 n t) 5 n v) 6 n k) 0 0 (n + 1) i = D i := fun i h0 h1 h4 h5 h6 => by rw [upD_o h0, upD_o h6, upD_o h5, upD_o h4, upD_o h1]
  have o0 : ∀ i, i ≠ 0 → upD (upD (upD (upD (upD D 1 n w) 4 n t) 5 n v) 6 n k) 0 0 (n + 1) 0 i = D 0 i := fun i hi => by rw [upD_n (fun q => hi q.2), upD_o (by decide), upD_o (by decide), upD_o (by decide), upD_o (by decide)]
  have o4 : upD (upD (upD (upD (upD D 1 n w) 4 n t) 5 n v) 6 n k) 0 0 (n + 1) 4 = upD D 4 n t 4 := by
    rw [upD_o (by decide), upD_o (by decide), upD_o (by decide)]
    funext i
    by_cases q : i = n
    · rw [q, upD_s, upD_s]
    · rw [upD_n (fun z => q z.2), upD_n (fun z => q z.2), upD_n (fun z => q z.2)]
  have o6 : upD (upD (upD (upD (upD D 1 n w) 4 n t) 5 n v) 6 n k) 0 0 (n + 1) 6 = upD D 6 n k 6 := by
    rw [upD_o (by decide)]
    funext i
    by_cases q : i = n
    · rw [q, upD_s, upD_s]
    · rw [upD_n (fun z => q z.2), upD_n (fun z => q z.2), upD_n (fun z => q z.2), upD_n (fun z => q z.2), upD_n (fun z => q z.2)]
  have o5 : upD (upD (upD (upD (upD D 1 n w) 4 n t) 5 n v) 6 n k) 0 0 (n + 1) 5 = upD D 5 n v 5 := by
    rw [upD_o (by decide), upD_o (by decide)]
    funext i
    by_cases q : i = n
    · rw [q, upD_s, upD_s]
    · rw [upD_n (fun z => q z.2), upD_n (fun z => q z.2), upD_n (fun z => q z.2), upD_n (fun z => q z.2)]
  refine ⟨⟨upD_s.symm, ?_, ?_, ?_, ?_, ?_⟩, ?_, ?_, ?_⟩
  · rw [o0 1 (by decide)]
    exact s2
  · rw [o0 2 (by decide)]
    exact s3
  · intro i hi
    rw [o4, o5, o6]
    by_cases q : i = n
    · subst q
      rw [pk_us, pk_us, pk_us, upD_s, upD_s, upD_s]
      exact ⟨rfl, rfl, rfl⟩
    · rw [pk_un q, pk_un q, pk_un q, upD_n (fun z => q z.2), upD_n (fun z => q z.2), upD_n (fun z => q z.2)]
      exact s4 i (by omega)
  · refine LeR_cg (n := n) s5 (fun i hi j hj => ?_) (fun i hi => ?_) (fun i hi j hj => ?_) (fun i hi => ?_) (fun i hi => ?_)
    · rw [s1]
      exact (hD.2.2.2.2.1 i (by omega)).2.2 j hj
    · rw [o 7 (by decide) (by decide) (by decide) (by decide) (by decide)]
    · rw [o 8 (by decide) (by decide) (by decide) (by decide) (by decide)]
    · rw [o4, upD_n (by omega)]
    · rw [o6, upD_n (by omega)]
  · intro i hi
    rw [o 9 (by decide) (by decide) (by decide) (by decide) (by decide), o 10 (by decide) (by decide) (by decide) (by decide) (by decide)]
    exact s6 i hi
  · rw [upD_o (by decide), upD_o (by decide), upD_o (by decide), upD_o (by decide)]
    exact hN
  · rw [o 2 (by decide) (by decide) (by decide) (by decide) (by decide)]
    exact n2
  · rw [o 3 (by decide) (by decide) (by decide) (by decide) (by decide)]
    exact n3
theorem ClR_let (h : ClR c D n l e c0 c1 c2 c3 c4 c5 c6 c7 c8 c9 c10 c11) (hD : DOk D) (hE : ∀ i, i ≠ 8 → i ≠ 2 → E i = D i) (hE8 : ∀ m, m < 5 * l → E 8 m = D 8 m) (hN : NmC c c4' (l + 1) (E 2)) (h6 : ∀ i, i < l → c6' i = c6 i) (hr : ∀ i, i < j → c6' l i = nI (E 8 (5 * l + i))) (h7 : t = tkS (D 4) (dR E l) j) (h8 : x = rowF (D 6) (dR E l) j 1) (h9 : y = rowF (D 6) (dR E l) j 2) : ClR c (upD (upD E 7 l j) 0 1 (l + 1)) n (l + 1) e c0 c1 c2 c3 c4' (upd c5 l (nI j)) c6' (upd c7 l (nI t)) (upG (upG c8 l 0 (pm x)) l 1 (pm y)) c9 c10 c11 := by
  obtain ⟨⟨s1, s2, s3, s4, s5, s6⟩, n1, n2, n3⟩ := h
  have o : ∀ i, i ≠ 0 → i ≠ 7 → upD (upD E 7 l j) 0 1 (l + 1) i = E i := fun i h0 h7 => by rw [upD_o h0, upD_o h7]
  have od : ∀ i, i ≠ 0 → i ≠ 7 → i ≠ 8 → i ≠ 2 → upD (upD E 7 l j) 0 1 (l + 1) i = D i := fun i h0 h7 h8 h2 => by rw [o i h0 h7, hE i h8 h2]
  have o0 : ∀ i, i ≠ 1 → upD (upD E 7 l j) 0 1 (l + 1) 0 i = D 0 i := fun i hi => by rw [upD_n (fun q => hi q.2), upD_o (by decide), hE 0 (by decide) (by decide)]
  have ed : ∀ i, dR (upD (upD E 7 l j) 0 1 (l + 1)) i = dR E i := fun i => by
    funext m
    show upD (upD E 7 l j) 0 1 (l + 1) 8 _ = E 8 _
    rw [o 8 (by decide) (by decide)]
  refine ⟨⟨?_, upD_s.symm, ?_, ?_, ?_, ?_⟩, ?_, ?_, ?_⟩
  · rw [o0 0 (by decide)]
    exact s1
  · rw [o0 2 (by decide)]
    exact s3
  · intro i hi
    rw [od 4 (by decide) (by decide) (by decide) (by decide), od 5 (by decide) (by decide) (by decide) (by decide), od 6 (by decide) (by decide) (by decide) (by decide)]
    exact s4 i hi
  · intro i hi
    rw [ed, od 4 (by decide) (by decide) (by decide) (by decide), od 6 (by decide) (by decide) (by decide) (by decide), upD_o (show (7 : Nat) ≠ 0 by decide), o 8 (by decide) (by decide)]
    by_cases q : i = l
    · subst q
      rw [pk_us, pk_us, upD_s, upG_s, upG_k (by decide), upG_s, h7, h8, h9]
      exact ⟨rfl, hr, rfl, rfl, rfl⟩
    · rw [pk_un q, pk_un q, upD_n (fun z => q z.2), upG_r q, upG_r q, h6 i (by omega), hE 7 (by decide) (by decide)]
      obtain ⟨a1, a2, a3, a4, a5⟩ := s5 i (by omega)
      have b5 := (hD.2.2.2.2.1 i (by omega)).2.1
      have b : ∀ (f : Nat → Nat) j, j < D 7 i → dR E i j = dR D i j ∧ f (dR D i j) = f (dR D i j) := fun f j hj => ⟨hE8 _ (by omega), rfl⟩
      refine ⟨a1, fun m hm => ?_, ?_, ?_, ?_⟩
      · rw [hE8 _ (by omega)]
        exact a2 m hm
      · rw [tkS_cg (b (D 4))]
        exact a3
      · rw [rowF_cg (b (D 6))]
        exact a4
      · rw [rowF_cg (b (D 6))]
        exact a5
  · intro i hi
    rw [od 9 (by decide) (by decide) (by decide) (by decide), od 10 (by decide) (by decide) (by decide) (by decide)]
    exact s6 i hi
  · rw [od 1 (by decide) (by decide) (by decide) (by decide)]
    exact n1
  · rw [o 2 (by decide) (by decide)]
    exact hN
  · rw [od 3 (by decide) (by decide) (by decide) (by decide)]
    exact n3
theorem ClR_ear (h : ClR c D n l e c0 c1 c2 c3 c4 c5 c6 c7 c8 c9 c10 c11) (hN : NmC c c9' (e + 1) (upD D 3 e w 3)) {b1 : Int32} (hb : b1 = bkC v) (b2 : Int32) : ClR c (upD (upD (upD (upD D 3 e w) 9 e t) 10 e v) 0 2 (e + 1)) n l (e + 1) c0 c1 c2 c3 c4 c5 c6 c7 c8 c9' (upd c10 e (nI t)) (upd (upd c11 e b2) e b1) := by
  obtain ⟨⟨s1, s2, s3, s4, s5, s6⟩, n1, n2, n3⟩ := h
  have o : ∀ i, i ≠ 0 → i ≠ 3 → i ≠ 9 → i ≠ 10 → upD (upD (upD (upD D 3 e w) 9 e t) 10 e v) 0 2 (e + 1) i = D i := fun i h0 h3 h9 h10 => by rw [upD_o h0, upD_o h10, upD_o h9, upD_o h3]
  have o0 : ∀ i, i ≠ 2 → upD (upD (upD (upD D 3 e w) 9 e t) 10 e v) 0 2 (e + 1) 0 i = D 0 i := fun i hi => by rw [upD_n (fun q => hi q.2), upD_o (by decide), upD_o (by decide), upD_o (by decide)]
  refine ⟨⟨?_, ?_, upD_s.symm, ?_, ?_, ?_⟩, ?_, ?_, ?_⟩
  · rw [o0 0 (by decide)]
    exact s1
  · rw [o0 1 (by decide)]
    exact s2
  · intro i hi
    rw [o 4 (by decide) (by decide) (by decide) (by decide), o 5 (by decide) (by decide) (by decide) (by decide), o 6 (by decide) (by decide) (by decide) (by decide)]
    exact s4 i hi
  · intro i hi
    have ed : dR (upD (upD (upD (upD D 3 e w) 9 e t) 10 e v) 0 2 (e + 1)) i = dR D i := by
      funext m
      show upD (upD (upD (upD D 3 e w) 9 e t) 10 e v) 0 2 (e + 1) 8 _ = D 8 _
      rw [o 8 (by decide) (by decide) (by decide) (by decide)]
    rw [ed, o 4 (by decide) (by decide) (by decide) (by decide), o 6 (by decide) (by decide) (by decide) (by decide), o 7 (by decide) (by decide) (by decide) (by decide), o 8 (by decide) (by decide) (by decide) (by decide)]
    exact s5 i hi
  · intro i hi
    rw [upD_o (show (9 : Nat) ≠ 0 by decide), upD_o (show (9 : Nat) ≠ 10 by decide), upD_o (show (10 : Nat) ≠ 0 by decide)]
    by_cases q : i = e
    · subst q
      rw [pk_us, pk_us, upD_s, upD_s]
      exact ⟨rfl, hb⟩
    · rw [pk_un q, pk_un q, pk_un q, upD_n (fun z => q z.2), upD_n (fun z => q z.2), upD_n (fun z => q z.2), upD_n (fun z => q z.2), upD_n (fun z => q z.2)]
      exact s6 i (by omega)
  · rw [o 1 (by decide) (by decide) (by decide) (by decide)]
    exact n1
  · rw [o 2 (by decide) (by decide) (by decide) (by decide)]
    exact n2
  · rw [upD_o (by decide), upD_o (by decide), upD_o (by decide)]
    exact hN
theorem upd_upd {f : Nat → Int32} {i : Nat} {a b : Int32} : upd (upd f i a) i b = upd f i b := by
  funext k
  by_cases q : k = i
  · rw [q, pk_us, pk_us]
  · rw [pk_un q, pk_un q, pk_un q]
/-- the bounds that the class's methods rest on -/
theorem ScR_ok (h : ScR D n l e c1 c2 c3 c5 c6 c7 c8 c10 c11) (hD : DOk D) : n ≤ 6 ∧ l ≤ 10 ∧ e ≤ 4 ∧ TkOk n c1 ∧ SzOk l c5 ∧ RwOk l n c5 c6 ∧ LtOk l c7 ∧ FtOk l c8 ∧ LsOk l c5 c6 c1 c7 := by
  obtain ⟨s1, s2, s3, s4, s5, s6⟩ := h
  obtain ⟨d1, d2, d3, d4, d5, d6, _⟩ := hD
  have rw5 : ∀ i j, i < l → j < D 7 i → dR D i j < n := fun i j hi hj => by
    rw [s1]
    exact (d5 i (by omega)).2.2 j hj
  have tk : ∀ k, k < n → 1 ≤ D 4 k ∧ D 4 k ≤ 9 := fun k hk => by
    have := d4 k (by omega)
    omega
  refine ⟨by omega, by omega, by omega, fun i hi => ?_, fun i hi => ?_, fun i j m hi hm h5 hj => ?_, fun i hi => ?_, fun i f hi hf => ?_, fun i m hi hm h5 => ?_⟩
  · exact ⟨D 4 i, (tk i hi).1, (tk i hi).2, (s4 i hi).1⟩
  · have q := d5 i (by omega)
    exact ⟨D 7 i, q.1, q.2.1, (s5 i hi).1⟩
  · obtain ⟨a1, a2, _⟩ := s5 i hi
    have q := d5 i (by omega)
    have em : D 7 i = m := (nI_eq (by omega) (by omega)).mp (a1.symm.trans hm)
    exact ⟨D 8 (5 * i + j), rw5 i j hi (by omega), a2 j (by omega)⟩
  · have q := d5 i (by omega)
    have z := tkS_le (t := D 4) (r := dR D i) (b := 9) (j := D 7 i) (fun k hk => tk _ (rw5 i k hi hk))
    exact ⟨_, by omega, by omega, (s5 i hi).2.2.1⟩
  · obtain ⟨_, _, _, a4, a5⟩ := s5 i hi
    rcases (show f = 0 ∨ f = 1 by omega) with rfl | rfl
    · exact ⟨_, rowF_le (by decide), a4⟩
    · exact ⟨_, rowF_le (by decide), a5⟩
  · obtain ⟨a1, a2, a3, _⟩ := s5 i hi
    have q := d5 i (by omega)
    have em : D 7 i = m := (nI_eq (by omega) (by omega)).mp (a1.symm.trans hm)
    rw [a3, em]
    have key : ∀ j, j ≤ m → tkS (D 4) (dR D i) j = tsum c1 (c6 i) j := by
      intro j
      induction j with
      | zero => intro _; rfl
      | succ j ih =>
        intro hj
        have b := rw5 i j hi (by omega)
        have b9 := (tk _ b).2
        show tkS (D 4) (dR D i) j + D 4 (dR D i j) = tsum c1 (c6 i) j + (c1 (c6 i j).toNatClampNeg).toNatClampNeg
        have b' : D 8 (5 * i + j) < n := b
        have b8 : D 4 (D 8 (5 * i + j)) ≤ 9 := b9
        rw [ih (by omega), a2 j (by omega), nI_clamp (show D 8 (5 * i + j) < 2147483648 by omega), (s4 _ b').1, nI_clamp (show D 4 (D 8 (5 * i + j)) < 2147483648 by omega)]
        rfl
    rw [key m (Nat.le_refl m)]
end SR
set_option maxHeartbeats 4000000 in
set_option maxRecDepth 100000 in
theorem s_X5_footAfterF (lau : Launch) (gg : va_G) (kA : Nat → ClassId) (s : Nat) (k : Nat) (f : Nat) (s0 : Nat) (s1 : Nat) (s2 : Nat) (s3 : Nat) (s4 : Nat) (s5 : Nat) (s6 : Nat) (s7 : Nat) (s8 : Nat) (s9 : Nat) (s10 : Nat) (s11 : Nat) (sn : Nat) (sl : Nat) (se : Nat) (sc3 : Nat → Int32) (gk : Nat) (hsn : sn ≤ 6) (hk : k < sn) (hf : f ≤ 1) (hsd : sc3 k = nI (sdC gk)) (hg3 : gk ≤ 3) : CtI lau yX5_footAfter cX5_footAfter 4 (some .int) 2 0 0 gg kA [.ref s, .int (nI k), .int (nI f)] (mflat [(s, .inl (.inr (5, [.ref s0, .ref s1, .ref s2, .ref s3, .ref s4, .ref s5, .ref s6, .ref s7, .ref s8, .ref s9, .ref s10, .ref s11, .int (nI sn), .int (nI sl), .int (nI se)]))), (s3, .inl (.inl (kA 1, 6, .inl sc3)))]) (S := Nat) (fun (r : Int32) (y_r : Nat) => r = pm y_r ∧ (y_r ≤ 2) ∧ (y_r = ftk gk (f + 1))) (fun (y_r : Nat) => mflat [(s, .inl (.inr (5, [.ref s0, .ref s1, .ref s2, .ref s3, .ref s4, .ref s5, .ref s6, .ref s7, .ref s8, .ref s9, .ref s10, .ref s11, .int (nI sn), .int (nI sl), .int (nI se)]))), (s3, .inl (.inl (kA 1, 6, .inl sc3)))]) := by
  refine nx_startI (by decide +kernel) (Nat.le_of_ble_eq_true rfl) ?_
  intro x hnm h hq
  have h : Ok x cX5_footAfter RX5 kA (rmC 2 0 0) 4 := h
  show J x (mflat [(s, .inl (.inr (5, [.ref s0, .ref s1, .ref s2, .ref s3, .ref s4, .ref s5, .ref s6, .ref s7, .ref s8, .ref s9, .ref s10, .ref s11, .int (nI sn), .int (nI sl), .int (nI se)]))), (s3, .inl (.inl (kA 1, 6, .inl sc3)))]) [(0, .ref s), (1, .int (nI k)), (2, .int (nI f))] 0 0 0 []
  have hsd3 := sdC_le hg3
  refine j_aload_n h 0 rfl rfl dX5_footAfter_0 ?_
  refine j_iload_n h 1 rfl rfl dX5_footAfter_1 ?_
  refine jm_callVi (np := 1) (isC := [0]) (isR := [1]) (wc := [(s, .inl (.inr (5, [.ref s0, .ref s1, .ref s2, .ref s3, .ref s4, .ref s5, .ref s6, .ref s7, .ref s8, .ref s9, .ref s10, .ref s11, .int (nI sn), .int (nI sl), .int (nI se)])))]) (wr := [(s3, .inl (.inl (kA 1, 6, .inl sc3)))]) (rest := []) (As := [.int (nI k)]) (q0 := 0) h (s_X5_hasStep _ _ kA s (nI k) s0 s1 s2 s3 s4 s5 s6 s7 s8 s9 s10 s11 (nI sn) (nI sl) (nI se) ) tw_712 tw_713 tw_714 tw_90 tw_715 (by decide +kernel) rfl ⟨Nat.le_of_ble_eq_true rfl, Nat.le_of_ble_eq_true rfl⟩ rfl rfl (by decide +kernel) rfl rfl (by decide +kernel) (by decide +kernel) (Nat.le_of_ble_eq_true rfl) rfl ⟨Nat.le_of_ble_eq_true rfl, Nat.le_of_ble_eq_true rfl⟩ dX5_footAfter_2 ?_
  rintro r660009 _ e660008
  have p660010 := e660008
  subst p660010
  show J x (mflat [(s3, .inl (.inl (kA 1, 6, .inl sc3))), (s, .inl (.inr (5, [.ref s0, .ref s1, .ref s2, .ref s3, .ref s4, .ref s5, .ref s6, .ref s7, .ref s8, .ref s9, .ref s10, .ref s11, .int (nI sn), .int (nI sl), .int (nI se)])))]) [(0, .ref s), (1, .int (nI k)), (2, .int (nI f))] 0 0 5 [.int (bIx (nI k) (nI sn))]
  rcases bIxn k sn (by omega) (by omega) with ⟨hj660011, hT⟩ | ⟨hj660011, hT⟩
  · refine j_top (b := 0) hT ?_
    show J x (mflat [(s3, .inl (.inl (kA 1, 6, .inl sc3))), (s, .inl (.inr (5, [.ref s0, .ref s1, .ref s2, .ref s3, .ref s4, .ref s5, .ref s6, .ref s7, .ref s8, .ref s9, .ref s10, .ref s11, .int (nI sn), .int (nI sl), .int (nI se)])))]) [(0, .ref s), (1, .int (nI k)), (2, .int (nI f))] 0 0 5 [.int 0]
    refine j_if_ne h 10 dX5_footAfter_5 (by decide) (fun q => absurd (by decide) q) (fun _ => ?_)
    refine j_iconst (v := (-1)) h (by decide) dX5_footAfter_8 ?_
    exact jm_iret h hq dX5_footAfter_9 0 [1, 0] rfl (by decide) ⟨rfl, (show 0 ≤ 2 by first | assumption | omega), (show 0 = ftk gk (f + 1) from (by exfalso; omega))⟩ (Nat.le_of_ble_eq_true rfl) (Nat.le_of_ble_eq_true rfl)
  · refine j_top (b := 1) hT ?_
    show J x (mflat [(s3, .inl (.inl (kA 1, 6, .inl sc3))), (s, .inl (.inr (5, [.ref s0, .ref s1, .ref s2, .ref s3, .ref s4, .ref s5, .ref s6, .ref s7, .ref s8, .ref s9, .ref s10, .ref s11, .int (nI sn), .int (nI sl), .int (nI se)])))]) [(0, .ref s), (1, .int (nI k)), (2, .int (nI f))] 0 0 5 [.int 1]
    refine j_if_ne h 10 dX5_footAfter_5 (by decide) (fun _ => ?_) (fun q => absurd q (by decide))
    refine j_aload_n h 0 rfl rfl dX5_footAfter_10 ?_
    refine jm_get h iw_X5 1 rfl rfl 3 (by decide +kernel) tw_185 rfl dX5_footAfter_11 ?_
    refine j_iload_n h 1 rfl rfl dX5_footAfter_14 ?_
    refine jm_iald h 0 rfl k rfl (by omega) (by omega) dX5_footAfter_15 ?_
    refine j_top (b := nI (sdC gk)) (hsd) ?_
    refine j_istore_n (lv' := [(3, .int (nI (sdC gk))), (0, .ref s), (1, .int (nI k)), (2, .int (nI f))]) h dX5_footAfter_16 rfl (by decide) rfl ?_
    refine j_iload_n h 0 rfl rfl dX5_footAfter_17 ?_
    refine j_iconst (v := 3) h (by decide) dX5_footAfter_18 ?_
    refine j_icmp_ne h 24 dX5_footAfter_19 (by decide) (fun z660012 => ?_) (fun z660012 => ?_)
    · have z660012n : ¬ (sdC gk) = 3 := fun q9 => z660012 ((nI_eq (a := (sdC gk)) (b := 3) (by omega) (by omega)).mpr q9)
      refine j_iload_n h 0 rfl rfl dX5_footAfter_24 ?_
      refine j_iconst (v := 2) h (by decide) dX5_footAfter_25 ?_
      refine j_icmp_eq h 34 dX5_footAfter_26 (by decide) (fun z660013 => ?_) (fun z660013 => ?_)
      · have z660013n : (sdC gk) = 2 := (nI_eq (a := (sdC gk)) (b := 2) (by omega) (by omega)).mp z660013
        refine j_iconst (v := 1) h (by decide) dX5_footAfter_34 ?_
        refine j_iload_n h 3 rfl rfl dX5_footAfter_35 ?_
        refine j_isub h dX5_footAfter_36 ?_
        refine j_top (b := nI (1 - f)) (pk_sub (a := 1) (b := f) (by omega)) ?_
        refine j_goto h 41 dX5_footAfter_37 (by decide) ?_
        exact jm_iret h hq dX5_footAfter_41 ((1 - f) + 1) [1, 0] rfl (by decide) ⟨rfl, (show ((1 - f) + 1) ≤ 2 by first | assumption | omega), (show ((1 - f) + 1) = ftk gk (f + 1) from (ftk_st gk (by omega) f (by omega)).2.1 (by omega) (by omega))⟩ (Nat.le_of_ble_eq_true rfl) (Nat.le_of_ble_eq_true rfl)
      · have z660013n : ¬ (sdC gk) = 2 := fun q9 => z660013 ((nI_eq (a := (sdC gk)) (b := 2) (by omega) (by omega)).mpr q9)
        refine j_iload_n h 0 rfl rfl dX5_footAfter_29 ?_
        refine j_iload_n h 3 rfl rfl dX5_footAfter_30 ?_
        refine j_icmp_ne h 40 dX5_footAfter_31 (by decide) (fun z660014 => ?_) (fun z660014 => ?_)
        · have z660014n : ¬ (sdC gk) = f := fun q9 => z660014 ((nI_eq (a := (sdC gk)) (b := f) (by omega) (by omega)).mpr q9)
          refine j_iconst (v := (-1)) h (by decide) dX5_footAfter_40 ?_
          exact jm_iret h hq dX5_footAfter_41 0 [1, 0] rfl (by decide) ⟨rfl, (show 0 ≤ 2 by first | assumption | omega), (show 0 = ftk gk (f + 1) from (ftk_st gk (by omega) f (by omega)).2.2 (by omega) (by omega) (by omega))⟩ (Nat.le_of_ble_eq_true rfl) (Nat.le_of_ble_eq_true rfl)
        · have z660014n : (sdC gk) = f := (nI_eq (a := (sdC gk)) (b := f) (by omega) (by omega)).mp z660014
          refine j_iconst (v := 1) h (by decide) dX5_footAfter_34 ?_
          refine j_iload_n h 3 rfl rfl dX5_footAfter_35 ?_
          refine j_isub h dX5_footAfter_36 ?_
          refine j_top (b := nI (1 - f)) (pk_sub (a := 1) (b := f) (by omega)) ?_
          refine j_goto h 41 dX5_footAfter_37 (by decide) ?_
          exact jm_iret h hq dX5_footAfter_41 ((1 - f) + 1) [1, 0] rfl (by decide) ⟨rfl, (show ((1 - f) + 1) ≤ 2 by first | assumption | omega), (show ((1 - f) + 1) = ftk gk (f + 1) from (ftk_st gk (by omega) f (by omega)).2.1 (by omega) (by omega))⟩ (Nat.le_of_ble_eq_true rfl) (Nat.le_of_ble_eq_true rfl)
    · have z660012n : (sdC gk) = 3 := (nI_eq (a := (sdC gk)) (b := 3) (by omega) (by omega)).mp z660012
      refine j_iload_n h 3 rfl rfl dX5_footAfter_22 ?_
      exact jm_iret h hq dX5_footAfter_23 (f + 1) [1, 0] rfl (by decide) ⟨rfl, (show (f + 1) ≤ 2 by first | assumption | omega), (show (f + 1) = ftk gk (f + 1) from (ftk_st gk (by omega) f (by omega)).1 (by omega))⟩ (Nat.le_of_ble_eq_true rfl) (Nat.le_of_ble_eq_true rfl)
set_option maxHeartbeats 4000000 in
set_option maxRecDepth 100000 in
theorem s_X5_measureLetterF (lau : Launch) (gg : va_G) (kA : Nat → ClassId) (s : Nat) (sl : Nat) (s0 : Nat) (s1 : Nat) (s2 : Nat) (s3 : Nat) (s4 : Nat) (s5 : Nat) (s6 : Nat) (s7 : Nat) (s8 : Nat) (s9 : Nat) (s10 : Nat) (s11 : Nat) (sn : Nat) (se : Nat) (sc1 : Nat → Int32) (sc3 : Nat → Int32) (sc5 : Nat → Int32) (sc6 : Nat → Nat → Int32) (sc7 : Nat → Int32) (sc8 : Nat → Nat → Int32) (c : Nat) (rr : Nat → Nat) (tt : Nat → Nat) (ks : Nat → Nat) (hsn : sn ≤ 6) (hk : sl < 10) (hc1 : 1 ≤ c) (hc5 : c ≤ 5) (hce : sc5 sl = nI c) (hrw : ∀ j, j < c → sc6 sl j = nI (rr j) ∧ rr j < sn) (htt : ∀ k, k < sn → sc1 k = nI (tt k) ∧ tt k ≤ 9) (hgg : ∀ k, k < sn → sc3 k = nI (sdC (ks k)) ∧ ks k ≤ 3) : CtV lau yX5_measureLetter cX5_measureLetter 7 (none) 3 0 0 gg kA [.ref s, .int (nI sl)] (mflat [(s, .inl (.inr (5, [.ref s0, .ref s1, .ref s2, .ref s3, .ref s4, .ref s5, .ref s6, .ref s7, .ref s8, .ref s9, .ref s10, .ref s11, .int (nI sn), .int (nI sl), .int (nI se)]))), (s1, .inl (.inl (kA 1, 6, .inl sc1))), (s3, .inl (.inl (kA 1, 6, .inl sc3))), (s5, .inl (.inl (kA 1, 10, .inl sc5))), (s6, .inr (kA 6, kA 1, 10, 5, .inl sc6)), (s7, .inl (.inl (kA 1, 10, .inl sc7))), (s8, .inr (kA 6, kA 1, 10, 2, .inl sc8))]) (S := (Nat → Int32) × (Nat → Nat → Int32)) (fun ((y_s7, y_s8) : (Nat → Int32) × (Nat → Nat → Int32)) => (y_s7 = upd sc7 sl (nI (tkS tt rr c))) ∧ (y_s8 = upG (upG sc8 sl 0 (pm (rowF ks rr c 1))) sl 1 (pm (rowF ks rr c 2)))) (fun ((y_s7, y_s8) : (Nat → Int32) × (Nat → Nat → Int32)) => mflat [(s, .inl (.inr (5, [.ref s0, .ref s1, .ref s2, .ref s3, .ref s4, .ref s5, .ref s6, .ref s7, .ref s8, .ref s9, .ref s10, .ref s11, .int (nI sn), .int (nI sl), .int (nI se)]))), (s1, .inl (.inl (kA 1, 6, .inl sc1))), (s3, .inl (.inl (kA 1, 6, .inl sc3))), (s5, .inl (.inl (kA 1, 10, .inl sc5))), (s6, .inr (kA 6, kA 1, 10, 5, .inl sc6)), (s7, .inl (.inl (kA 1, 10, .inl y_s7))), (s8, .inr (kA 6, kA 1, 10, 2, .inl y_s8))]) := by
  refine nx_startV (by decide +kernel) (Nat.le_of_ble_eq_true rfl) ?_
  intro x hnm h hq
  have h : Ok x cX5_measureLetter RX5 kA (rmC 3 0 0) 7 := h
  show J x (mflat [(s, .inl (.inr (5, [.ref s0, .ref s1, .ref s2, .ref s3, .ref s4, .ref s5, .ref s6, .ref s7, .ref s8, .ref s9, .ref s10, .ref s11, .int (nI sn), .int (nI sl), .int (nI se)]))), (s1, .inl (.inl (kA 1, 6, .inl sc1))), (s3, .inl (.inl (kA 1, 6, .inl sc3))), (s5, .inl (.inl (kA 1, 10, .inl sc5))), (s6, .inr (kA 6, kA 1, 10, 5, .inl sc6)), (s7, .inl (.inl (kA 1, 10, .inl sc7))), (s8, .inr (kA 6, kA 1, 10, 2, .inl sc8))]) [(0, .ref s), (1, .int (nI sl))] 0 0 0 []
  refine j_iconst (v := 0) h (by decide) dX5_measureLetter_0 ?_
  refine j_istore_n (lv' := [(2, .int 0), (0, .ref s), (1, .int (nI sl))]) h dX5_measureLetter_1 rfl (by decide) rfl ?_
  refine j_iconst (v := 0) h (by decide) dX5_measureLetter_2 ?_
  refine j_istore_n (lv' := [(3, .int 0), (2, .int 0), (0, .ref s), (1, .int (nI sl))]) h dX5_measureLetter_3 rfl (by decide) rfl ?_
  refine j_iconst (v := 1) h (by decide) dX5_measureLetter_4 ?_
  refine j_istore (lv' := [(4, .int 1), (3, .int 0), (2, .int 0), (0, .ref s), (1, .int (nI sl))]) h dX5_measureLetter_5 (by decide) rfl ?_
  refine j_iconst (v := 0) h (by decide) dX5_measureLetter_7 ?_
  refine j_istore (lv' := [(5, .int 0), (4, .int 1), (3, .int 0), (2, .int 0), (0, .ref s), (1, .int (nI sl))]) h dX5_measureLetter_8 (by decide) rfl ?_
  have lp10_66006 : ∀ (m10_66006 : Nat), ∀ (v5_10_66006 : Nat) (v4_10_66006 : Nat) (v3_10_66006 : Nat) (v2_10_66006 : Nat), (v2_10_66006 = tkS tt rr v5_10_66006) → (v3_10_66006 = rowF ks rr v5_10_66006 1) → (v4_10_66006 = rowF ks rr v5_10_66006 2) → (v3_10_66006 ≤ 2) → (v4_10_66006 ≤ 2) → (v5_10_66006 ≤ c) → (v2_10_66006 ≤ 9 * v5_10_66006) → (v5_10_66006 ≤ 100000) → (v4_10_66006 ≤ 100000) → (v3_10_66006 ≤ 100000) → (v2_10_66006 ≤ 100000) → c - v5_10_66006 < m10_66006 → J x (mflat [(s, .inl (.inr (5, [.ref s0, .ref s1, .ref s2, .ref s3, .ref s4, .ref s5, .ref s6, .ref s7, .ref s8, .ref s9, .ref s10, .ref s11, .int (nI sn), .int (nI sl), .int (nI se)]))), (s1, .inl (.inl (kA 1, 6, .inl sc1))), (s3, .inl (.inl (kA 1, 6, .inl sc3))), (s5, .inl (.inl (kA 1, 10, .inl sc5))), (s6, .inr (kA 6, kA 1, 10, 5, .inl sc6)), (s7, .inl (.inl (kA 1, 10, .inl sc7))), (s8, .inr (kA 6, kA 1, 10, 2, .inl sc8))]) [(5, .int (nI v5_10_66006)), (4, .int (pm v4_10_66006)), (3, .int (pm v3_10_66006)), (2, .int (nI v2_10_66006)), (0, .ref s), (1, .int (nI sl))] 0 0 10 [] := by
    intro m10_66006
    induction m10_66006 with
    | zero =>
      intro v5_10_66006 v4_10_66006 v3_10_66006 v2_10_66006 i10_66006_0 i10_66006_1 i10_66006_2 i10_66006_3 i10_66006_4 i10_66006_5 i10_66006_6 i10_66006_7 i10_66006_8 i10_66006_9 i10_66006_10 hm10_66006
      exact absurd hm10_66006 (Nat.not_lt_zero _)
    | succ m10_66006 ih10_66006 =>
      intro v5_10_66006 v4_10_66006 v3_10_66006 v2_10_66006 i10_66006_0 i10_66006_1 i10_66006_2 i10_66006_3 i10_66006_4 i10_66006_5 i10_66006_6 i10_66006_7 i10_66006_8 i10_66006_9 i10_66006_10 hm10_66006
      refine j_iload h 0 rfl dX5_measureLetter_10 ?_
      refine j_aload_n h 4 rfl rfl dX5_measureLetter_12 ?_
      refine jm_get h iw_X5 0 rfl rfl 5 (by decide +kernel) tw_191 rfl dX5_measureLetter_13 ?_
      refine j_iload_n h 5 rfl rfl dX5_measureLetter_16 ?_
      refine jm_iald h 3 rfl sl rfl (by omega) (by omega) dX5_measureLetter_17 ?_
      refine j_top (b := nI c) (hce) ?_
      refine j_icmp_ge h 85 dX5_measureLetter_18 (by decide) (fun z660117 => ?_) (fun z660117 => ?_)
      · have z660117n : c ≤ v5_10_66006 := (nI_leI (a := c) (b := v5_10_66006) (by omega) (by omega)).mp z660117
        refine j_aload_n h 4 rfl rfl dX5_measureLetter_85 ?_
        refine jm_get h iw_X5 0 rfl rfl 7 (by decide +kernel) tw_199 rfl dX5_measureLetter_86 ?_
        refine j_iload_n h 5 rfl rfl dX5_measureLetter_89 ?_
        refine j_iload_n h 3 rfl rfl dX5_measureLetter_90 ?_
        refine jm_iast (w' := [(s, .inl (.inr (5, [.ref s0, .ref s1, .ref s2, .ref s3, .ref s4, .ref s5, .ref s6, .ref s7, .ref s8, .ref s9, .ref s10, .ref s11, .int (nI sn), .int (nI sl), .int (nI se)]))), (s1, .inl (.inl (kA 1, 6, .inl sc1))), (s3, .inl (.inl (kA 1, 6, .inl sc3))), (s5, .inl (.inl (kA 1, 10, .inl sc5))), (s6, .inr (kA 6, kA 1, 10, 5, .inl sc6)), (s7, .inl (.inl (kA 1, 10, .inl (upd sc7 sl (nI v2_10_66006))))), (s8, .inr (kA 6, kA 1, 10, 2, .inl sc8))]) h 5 rfl sl rfl (by omega) (by omega) dX5_measureLetter_91 rfl ?_
        refine j_aload_n h 4 rfl rfl dX5_measureLetter_92 ?_
        refine jm_get h iw_X5 0 rfl rfl 8 (by decide +kernel) tw_204 rfl dX5_measureLetter_93 ?_
        refine j_iload_n h 5 rfl rfl dX5_measureLetter_96 ?_
        refine jm_gout h 6 6 rfl rfl sl rfl (by omega) (by omega) dX5_measureLetter_97 ?_
        refine j_iconst (v := 0) h (by decide) dX5_measureLetter_98 ?_
        refine j_iload_n h 2 rfl rfl dX5_measureLetter_99 ?_
        refine jm_gast (w' := [(s, .inl (.inr (5, [.ref s0, .ref s1, .ref s2, .ref s3, .ref s4, .ref s5, .ref s6, .ref s7, .ref s8, .ref s9, .ref s10, .ref s11, .int (nI sn), .int (nI sl), .int (nI se)]))), (s1, .inl (.inl (kA 1, 6, .inl sc1))), (s3, .inl (.inl (kA 1, 6, .inl sc3))), (s5, .inl (.inl (kA 1, 10, .inl sc5))), (s6, .inr (kA 6, kA 1, 10, 5, .inl sc6)), (s7, .inl (.inl (kA 1, 10, .inl (upd sc7 sl (nI v2_10_66006))))), (s8, .inr (kA 6, kA 1, 10, 2, .inl (upG sc8 sl 0 (pm v3_10_66006))))]) h 6 rfl sl (by omega) 0 (by decide +kernel) (by decide +kernel) (by omega) dX5_measureLetter_100 rfl ?_
        refine j_aload_n h 4 rfl rfl dX5_measureLetter_101 ?_
        refine jm_get h iw_X5 0 rfl rfl 8 (by decide +kernel) tw_204 rfl dX5_measureLetter_102 ?_
        refine j_iload_n h 5 rfl rfl dX5_measureLetter_105 ?_
        refine jm_gout h 6 6 rfl rfl sl rfl (by omega) (by omega) dX5_measureLetter_106 ?_
        refine j_iconst (v := 1) h (by decide) dX5_measureLetter_107 ?_
        refine j_iload h 1 rfl dX5_measureLetter_108 ?_
        refine jm_gast (w' := [(s, .inl (.inr (5, [.ref s0, .ref s1, .ref s2, .ref s3, .ref s4, .ref s5, .ref s6, .ref s7, .ref s8, .ref s9, .ref s10, .ref s11, .int (nI sn), .int (nI sl), .int (nI se)]))), (s1, .inl (.inl (kA 1, 6, .inl sc1))), (s3, .inl (.inl (kA 1, 6, .inl sc3))), (s5, .inl (.inl (kA 1, 10, .inl sc5))), (s6, .inr (kA 6, kA 1, 10, 5, .inl sc6)), (s7, .inl (.inl (kA 1, 10, .inl (upd sc7 sl (nI v2_10_66006))))), (s8, .inr (kA 6, kA 1, 10, 2, .inl (upG (upG sc8 sl 0 (pm v3_10_66006)) sl 1 (pm v4_10_66006))))]) h 6 rfl sl (by omega) 1 (by decide +kernel) (by decide +kernel) (by omega) dX5_measureLetter_110 rfl ?_
        exact jm_vret h hq dX5_measureLetter_111 ((upd sc7 sl (nI v2_10_66006)), (upG (upG sc8 sl 0 (pm v3_10_66006)) sl 1 (pm v4_10_66006))) [0, 1, 2, 3, 4, 5, 6] rfl (by decide) ⟨(show (upd sc7 sl (nI v2_10_66006)) = upd sc7 sl (nI (tkS tt rr c)) from (by rw [i10_66006_0, show v5_10_66006 = c by omega])), (show (upG (upG sc8 sl 0 (pm v3_10_66006)) sl 1 (pm v4_10_66006)) = upG (upG sc8 sl 0 (pm (rowF ks rr c 1))) sl 1 (pm (rowF ks rr c 2)) from (by rw [i10_66006_1, i10_66006_2, show v5_10_66006 = c by omega]))⟩ (Nat.le_of_ble_eq_true rfl) (Nat.le_of_ble_eq_true rfl)
      · have z660117n : ¬ c ≤ v5_10_66006 := fun q9 => z660117 ((nI_leI (a := c) (b := v5_10_66006) (by omega) (by omega)).mpr q9)
        refine j_aload_n h 4 rfl rfl dX5_measureLetter_21 ?_
        refine jm_get h iw_X5 0 rfl rfl 6 (by decide +kernel) tw_195 rfl dX5_measureLetter_22 ?_
        refine j_iload_n h 5 rfl rfl dX5_measureLetter_25 ?_
        refine jm_gout h 4 6 rfl rfl sl rfl (by omega) (by omega) dX5_measureLetter_26 ?_
        refine j_iload h 0 rfl dX5_measureLetter_27 ?_
        refine jm_gald h 4 rfl sl (by omega) v5_10_66006 rfl (by omega) (by omega) dX5_measureLetter_29 ?_
        have u660118 := (hrw v5_10_66006 (by omega)).2
        refine j_top (b := nI (rr v5_10_66006)) ((hrw v5_10_66006 (by omega)).1) ?_
        refine j_istore (lv' := [(6, .int (nI (rr v5_10_66006))), (5, .int (nI v5_10_66006)), (4, .int (pm v4_10_66006)), (3, .int (pm v3_10_66006)), (2, .int (nI v2_10_66006)), (0, .ref s), (1, .int (nI sl))]) h dX5_measureLetter_30 (by decide) rfl ?_
        refine j_iload_n h 4 rfl rfl dX5_measureLetter_32 ?_
        refine j_aload_n h 5 rfl rfl dX5_measureLetter_33 ?_
        refine jm_get h iw_X5 0 rfl rfl 1 (by decide +kernel) tw_177 rfl dX5_measureLetter_34 ?_
        refine j_iload h 0 rfl dX5_measureLetter_37 ?_
        refine jm_iald h 1 rfl (rr v5_10_66006) rfl (by omega) (by omega) dX5_measureLetter_39 ?_
        have u660119 := (htt (rr v5_10_66006) (by omega)).2
        refine j_top (b := nI (tt (rr v5_10_66006))) ((htt (rr v5_10_66006) (by omega)).1) ?_
        refine j_iadd h dX5_measureLetter_40 ?_
        refine j_top (b := nI (v2_10_66006 + (tt (rr v5_10_66006)))) (nI_add v2_10_66006 (tt (rr v5_10_66006))) ?_
        refine j_istore_n (lv' := [(2, .int (nI (v2_10_66006 + (tt (rr v5_10_66006))))), (6, .int (nI (rr v5_10_66006))), (5, .int (nI v5_10_66006)), (4, .int (pm v4_10_66006)), (3, .int (pm v3_10_66006)), (0, .ref s), (1, .int (nI sl))]) h dX5_measureLetter_41 rfl (by decide) rfl ?_
        refine j_iload_n h 4 rfl rfl dX5_measureLetter_42 ?_
        refine j_iconst (v := (-1)) h (by decide) dX5_measureLetter_43 ?_
        rcases v3_10_66006 with _ | j660120
        · show J x (mflat [(s, .inl (.inr (5, [.ref s0, .ref s1, .ref s2, .ref s3, .ref s4, .ref s5, .ref s6, .ref s7, .ref s8, .ref s9, .ref s10, .ref s11, .int (nI sn), .int (nI sl), .int (nI se)]))), (s1, .inl (.inl (kA 1, 6, .inl sc1))), (s3, .inl (.inl (kA 1, 6, .inl sc3))), (s5, .inl (.inl (kA 1, 10, .inl sc5))), (s6, .inr (kA 6, kA 1, 10, 5, .inl sc6)), (s7, .inl (.inl (kA 1, 10, .inl sc7))), (s8, .inr (kA 6, kA 1, 10, 2, .inl sc8))]) [(2, .int (nI (v2_10_66006 + (tt (rr v5_10_66006))))), (6, .int (nI (rr v5_10_66006))), (5, .int (nI v5_10_66006)), (4, .int (pm v4_10_66006)), (3, .int (-1)), (0, .ref s), (1, .int (nI sl))] 0 0 44 [.int (-1), .int (-1)]
          refine j_icmp_ne h 51 dX5_measureLetter_44 (by decide) (fun q => absurd (by decide) q) (fun _ => ?_)
          refine j_iconst (v := (-1)) h (by decide) dX5_measureLetter_47 ?_
          refine j_goto h 58 dX5_measureLetter_48 (by decide) ?_
          refine j_istore_n (lv' := [(3, .int (-1)), (2, .int (nI (v2_10_66006 + (tt (rr v5_10_66006))))), (6, .int (nI (rr v5_10_66006))), (5, .int (nI v5_10_66006)), (4, .int (pm v4_10_66006)), (0, .ref s), (1, .int (nI sl))]) h dX5_measureLetter_58 rfl (by decide) rfl ?_
          refine j_iload h 4 rfl dX5_measureLetter_59 ?_
          refine j_iconst (v := (-1)) h (by decide) dX5_measureLetter_61 ?_
          rcases v4_10_66006 with _ | j660121
          · show J x (mflat [(s, .inl (.inr (5, [.ref s0, .ref s1, .ref s2, .ref s3, .ref s4, .ref s5, .ref s6, .ref s7, .ref s8, .ref s9, .ref s10, .ref s11, .int (nI sn), .int (nI sl), .int (nI se)]))), (s1, .inl (.inl (kA 1, 6, .inl sc1))), (s3, .inl (.inl (kA 1, 6, .inl sc3))), (s5, .inl (.inl (kA 1, 10, .inl sc5))), (s6, .inr (kA 6, kA 1, 10, 5, .inl sc6)), (s7, .inl (.inl (kA 1, 10, .inl sc7))), (s8, .inr (kA 6, kA 1, 10, 2, .inl sc8))]) [(3, .int (-1)), (2, .int (nI (v2_10_66006 + (tt (rr v5_10_66006))))), (6, .int (nI (rr v5_10_66006))), (5, .int (nI v5_10_66006)), (4, .int (-1)), (0, .ref s), (1, .int (nI sl))] 0 0 62 [.int (-1), .int (-1)]
            refine j_icmp_ne h 69 dX5_measureLetter_62 (by decide) (fun q => absurd (by decide) q) (fun _ => ?_)
            refine j_iconst (v := (-1)) h (by decide) dX5_measureLetter_65 ?_
            refine j_goto h 77 dX5_measureLetter_66 (by decide) ?_
            refine j_istore (lv' := [(4, .int (-1)), (3, .int (-1)), (2, .int (nI (v2_10_66006 + (tt (rr v5_10_66006))))), (6, .int (nI (rr v5_10_66006))), (5, .int (nI v5_10_66006)), (0, .ref s), (1, .int (nI sl))]) h dX5_measureLetter_77 (by decide) rfl ?_
            refine j_iinc (v := nI (v5_10_66006 + 1)) (lv' := [(5, .int (nI (v5_10_66006 + 1))), (4, .int (-1)), (3, .int (-1)), (2, .int (nI (v2_10_66006 + (tt (rr v5_10_66006))))), (6, .int (nI (rr v5_10_66006))), (0, .ref s), (1, .int (nI sl))]) h dX5_measureLetter_79 4 rfl (nI_add v5_10_66006 1) (by decide) rfl ?_
            refine j_goto h 10 dX5_measureLetter_82 (by decide) ?_
            refine jm_sub [0, 1, 2, 3, 4, 5, 6] (w' := [(s, .inl (.inr (5, [.ref s0, .ref s1, .ref s2, .ref s3, .ref s4, .ref s5, .ref s6, .ref s7, .ref s8, .ref s9, .ref s10, .ref s11, .int (nI sn), .int (nI sl), .int (nI se)]))), (s1, .inl (.inl (kA 1, 6, .inl sc1))), (s3, .inl (.inl (kA 1, 6, .inl sc3))), (s5, .inl (.inl (kA 1, 10, .inl sc5))), (s6, .inr (kA 6, kA 1, 10, 5, .inl sc6)), (s7, .inl (.inl (kA 1, 10, .inl sc7))), (s8, .inr (kA 6, kA 1, 10, 2, .inl sc8))]) rfl (by decide +kernel) [0, 1, 2, 3, 5, 6] (lv' := [(5, .int (nI (v5_10_66006 + 1))), (4, .int (-1)), (3, .int (-1)), (2, .int (nI (v2_10_66006 + (tt (rr v5_10_66006))))), (0, .ref s), (1, .int (nI sl))]) rfl ?_
            exact ih10_66006 (v5_10_66006 + 1) 0 0 (v2_10_66006 + (tt (rr v5_10_66006))) (show (v2_10_66006 + (tt (rr v5_10_66006))) = tkS tt rr (v5_10_66006 + 1) from tkS_n i10_66006_0) (show 0 = rowF ks rr (v5_10_66006 + 1) 1 from rowF_n i10_66006_1 ((ftk_0 _).symm)) (show 0 = rowF ks rr (v5_10_66006 + 1) 2 from rowF_n i10_66006_2 ((ftk_0 _).symm)) (show 0 ≤ 2 by first | assumption | omega) (show 0 ≤ 2 by first | assumption | omega) (show (v5_10_66006 + 1) ≤ c by first | assumption | omega) (show (v2_10_66006 + (tt (rr v5_10_66006))) ≤ 9 * (v5_10_66006 + 1) by first | assumption | omega) (show (v5_10_66006 + 1) ≤ 100000 by first | assumption | omega) (show 0 ≤ 100000 by first | assumption | omega) (show 0 ≤ 100000 by first | assumption | omega) (show (v2_10_66006 + (tt (rr v5_10_66006))) ≤ 100000 by first | assumption | omega) (show c - (v5_10_66006 + 1) < m10_66006 by omega)
          · show J x (mflat [(s, .inl (.inr (5, [.ref s0, .ref s1, .ref s2, .ref s3, .ref s4, .ref s5, .ref s6, .ref s7, .ref s8, .ref s9, .ref s10, .ref s11, .int (nI sn), .int (nI sl), .int (nI se)]))), (s1, .inl (.inl (kA 1, 6, .inl sc1))), (s3, .inl (.inl (kA 1, 6, .inl sc3))), (s5, .inl (.inl (kA 1, 10, .inl sc5))), (s6, .inr (kA 6, kA 1, 10, 5, .inl sc6)), (s7, .inl (.inl (kA 1, 10, .inl sc7))), (s8, .inr (kA 6, kA 1, 10, 2, .inl sc8))]) [(3, .int (-1)), (2, .int (nI (v2_10_66006 + (tt (rr v5_10_66006))))), (6, .int (nI (rr v5_10_66006))), (5, .int (nI v5_10_66006)), (4, .int (nI j660121)), (0, .ref s), (1, .int (nI sl))] 0 0 62 [.int (-1), .int (nI j660121)]
            refine j_icmp_ne h 69 dX5_measureLetter_62 (by decide) (fun _ => ?_) (fun q => absurd q (nI_m1 (by omega)))
            refine j_aload_n h 5 rfl rfl dX5_measureLetter_69 ?_
            refine j_iload h 2 rfl dX5_measureLetter_70 ?_
            refine j_iload h 4 rfl dX5_measureLetter_72 ?_
            refine jm_callVi (np := 2) (isC := [0, 2]) (isR := [1, 3, 4, 5, 6]) (wc := [(s, .inl (.inr (5, [.ref s0, .ref s1, .ref s2, .ref s3, .ref s4, .ref s5, .ref s6, .ref s7, .ref s8, .ref s9, .ref s10, .ref s11, .int (nI sn), .int (nI sl), .int (nI se)]))), (s3, .inl (.inl (kA 1, 6, .inl sc3)))]) (wr := [(s1, .inl (.inl (kA 1, 6, .inl sc1))), (s5, .inl (.inl (kA 1, 10, .inl sc5))), (s6, .inr (kA 6, kA 1, 10, 5, .inl sc6)), (s7, .inl (.inl (kA 1, 10, .inl sc7))), (s8, .inr (kA 6, kA 1, 10, 2, .inl sc8))]) (rest := []) (As := [.int (nI (rr v5_10_66006)), .int (nI j660121)]) (q0 := 0) h (s_X5_footAfterF _ _ kA s (rr v5_10_66006) j660121 s0 s1 s2 s3 s4 s5 s6 s7 s8 s9 s10 s11 sn sl se sc3 (ks (rr v5_10_66006)) (show sn ≤ 6 by first | assumption | omega) (show (rr v5_10_66006) < sn by first | assumption | omega) (show j660121 ≤ 1 by first | assumption | omega) (show sc3 (rr v5_10_66006) = nI (sdC (ks (rr v5_10_66006))) from (hgg (rr v5_10_66006) (by omega)).1) (show (ks (rr v5_10_66006)) ≤ 3 from (hgg (rr v5_10_66006) (by omega)).2)) tw_708 tw_709 tw_710 tw_90 tw_711 (by decide +kernel) rfl ⟨Nat.le_of_ble_eq_true rfl, Nat.le_of_ble_eq_true rfl⟩ rfl rfl (by decide +kernel) rfl rfl (by decide +kernel) (by decide +kernel) (Nat.le_of_ble_eq_true rfl) rfl ⟨Nat.le_of_ble_eq_true rfl, Nat.le_of_ble_eq_true rfl⟩ dX5_measureLetter_74 ?_
            rintro r660124 q660122 e660123
            obtain ⟨p660125, p660126, p660127⟩ := e660123
            subst p660125
            replace p660126 : q660122 ≤ 2 := p660126
            replace p660127 : q660122 = ftk (ks (rr v5_10_66006)) (j660121 + 1) := p660127
            show J x (mflat [(s1, .inl (.inl (kA 1, 6, .inl sc1))), (s5, .inl (.inl (kA 1, 10, .inl sc5))), (s6, .inr (kA 6, kA 1, 10, 5, .inl sc6)), (s7, .inl (.inl (kA 1, 10, .inl sc7))), (s8, .inr (kA 6, kA 1, 10, 2, .inl sc8)), (s, .inl (.inr (5, [.ref s0, .ref s1, .ref s2, .ref s3, .ref s4, .ref s5, .ref s6, .ref s7, .ref s8, .ref s9, .ref s10, .ref s11, .int (nI sn), .int (nI sl), .int (nI se)]))), (s3, .inl (.inl (kA 1, 6, .inl sc3)))]) [(3, .int (-1)), (2, .int (nI (v2_10_66006 + (tt (rr v5_10_66006))))), (6, .int (nI (rr v5_10_66006))), (5, .int (nI v5_10_66006)), (4, .int (nI j660121)), (0, .ref s), (1, .int (nI sl))] 0 0 77 [.int (pm q660122)]
            refine j_istore (lv' := [(4, .int (pm q660122)), (3, .int (-1)), (2, .int (nI (v2_10_66006 + (tt (rr v5_10_66006))))), (6, .int (nI (rr v5_10_66006))), (5, .int (nI v5_10_66006)), (0, .ref s), (1, .int (nI sl))]) h dX5_measureLetter_77 (by decide) rfl ?_
            refine j_iinc (v := nI (v5_10_66006 + 1)) (lv' := [(5, .int (nI (v5_10_66006 + 1))), (4, .int (pm q660122)), (3, .int (-1)), (2, .int (nI (v2_10_66006 + (tt (rr v5_10_66006))))), (6, .int (nI (rr v5_10_66006))), (0, .ref s), (1, .int (nI sl))]) h dX5_measureLetter_79 4 rfl (nI_add v5_10_66006 1) (by decide) rfl ?_
            refine j_goto h 10 dX5_measureLetter_82 (by decide) ?_
            refine jm_sub [5, 0, 6, 1, 2, 3, 4] (w' := [(s, .inl (.inr (5, [.ref s0, .ref s1, .ref s2, .ref s3, .ref s4, .ref s5, .ref s6, .ref s7, .ref s8, .ref s9, .ref s10, .ref s11, .int (nI sn), .int (nI sl), .int (nI se)]))), (s1, .inl (.inl (kA 1, 6, .inl sc1))), (s3, .inl (.inl (kA 1, 6, .inl sc3))), (s5, .inl (.inl (kA 1, 10, .inl sc5))), (s6, .inr (kA 6, kA 1, 10, 5, .inl sc6)), (s7, .inl (.inl (kA 1, 10, .inl sc7))), (s8, .inr (kA 6, kA 1, 10, 2, .inl sc8))]) rfl (by decide +kernel) [0, 1, 2, 3, 5, 6] (lv' := [(5, .int (nI (v5_10_66006 + 1))), (4, .int (pm q660122)), (3, .int (-1)), (2, .int (nI (v2_10_66006 + (tt (rr v5_10_66006))))), (0, .ref s), (1, .int (nI sl))]) rfl ?_
            exact ih10_66006 (v5_10_66006 + 1) q660122 0 (v2_10_66006 + (tt (rr v5_10_66006))) (show (v2_10_66006 + (tt (rr v5_10_66006))) = tkS tt rr (v5_10_66006 + 1) from tkS_n i10_66006_0) (show 0 = rowF ks rr (v5_10_66006 + 1) 1 from rowF_n i10_66006_1 ((ftk_0 _).symm)) (show q660122 = rowF ks rr (v5_10_66006 + 1) 2 from rowF_n i10_66006_2 (p660127)) (show 0 ≤ 2 by first | assumption | omega) (show q660122 ≤ 2 by first | assumption | omega) (show (v5_10_66006 + 1) ≤ c by first | assumption | omega) (show (v2_10_66006 + (tt (rr v5_10_66006))) ≤ 9 * (v5_10_66006 + 1) by first | assumption | omega) (show (v5_10_66006 + 1) ≤ 100000 by first | assumption | omega) (show q660122 ≤ 100000 by first | assumption | omega) (show 0 ≤ 100000 by first | assumption | omega) (show (v2_10_66006 + (tt (rr v5_10_66006))) ≤ 100000 by first | assumption | omega) (show c - (v5_10_66006 + 1) < m10_66006 by omega)
        · show J x (mflat [(s, .inl (.inr (5, [.ref s0, .ref s1, .ref s2, .ref s3, .ref s4, .ref s5, .ref s6, .ref s7, .ref s8, .ref s9, .ref s10, .ref s11, .int (nI sn), .int (nI sl), .int (nI se)]))), (s1, .inl (.inl (kA 1, 6, .inl sc1))), (s3, .inl (.inl (kA 1, 6, .inl sc3))), (s5, .inl (.inl (kA 1, 10, .inl sc5))), (s6, .inr (kA 6, kA 1, 10, 5, .inl sc6)), (s7, .inl (.inl (kA 1, 10, .inl sc7))), (s8, .inr (kA 6, kA 1, 10, 2, .inl sc8))]) [(2, .int (nI (v2_10_66006 + (tt (rr v5_10_66006))))), (6, .int (nI (rr v5_10_66006))), (5, .int (nI v5_10_66006)), (4, .int (pm v4_10_66006)), (3, .int (nI j660120)), (0, .ref s), (1, .int (nI sl))] 0 0 44 [.int (-1), .int (nI j660120)]
          refine j_icmp_ne h 51 dX5_measureLetter_44 (by decide) (fun _ => ?_) (fun q => absurd q (nI_m1 (by omega)))
          refine j_aload_n h 5 rfl rfl dX5_measureLetter_51 ?_
          refine j_iload h 1 rfl dX5_measureLetter_52 ?_
          refine j_iload_n h 4 rfl rfl dX5_measureLetter_54 ?_
          refine jm_callVi (np := 2) (isC := [0, 2]) (isR := [1, 3, 4, 5, 6]) (wc := [(s, .inl (.inr (5, [.ref s0, .ref s1, .ref s2, .ref s3, .ref s4, .ref s5, .ref s6, .ref s7, .ref s8, .ref s9, .ref s10, .ref s11, .int (nI sn), .int (nI sl), .int (nI se)]))), (s3, .inl (.inl (kA 1, 6, .inl sc3)))]) (wr := [(s1, .inl (.inl (kA 1, 6, .inl sc1))), (s5, .inl (.inl (kA 1, 10, .inl sc5))), (s6, .inr (kA 6, kA 1, 10, 5, .inl sc6)), (s7, .inl (.inl (kA 1, 10, .inl sc7))), (s8, .inr (kA 6, kA 1, 10, 2, .inl sc8))]) (rest := []) (As := [.int (nI (rr v5_10_66006)), .int (nI j660120)]) (q0 := 0) h (s_X5_footAfterF _ _ kA s (rr v5_10_66006) j660120 s0 s1 s2 s3 s4 s5 s6 s7 s8 s9 s10 s11 sn sl se sc3 (ks (rr v5_10_66006)) (show sn ≤ 6 by first | assumption | omega) (show (rr v5_10_66006) < sn by first | assumption | omega) (show j660120 ≤ 1 by first | assumption | omega) (show sc3 (rr v5_10_66006) = nI (sdC (ks (rr v5_10_66006))) from (hgg (rr v5_10_66006) (by omega)).1) (show (ks (rr v5_10_66006)) ≤ 3 from (hgg (rr v5_10_66006) (by omega)).2)) tw_708 tw_709 tw_710 tw_90 tw_711 (by decide +kernel) rfl ⟨Nat.le_of_ble_eq_true rfl, Nat.le_of_ble_eq_true rfl⟩ rfl rfl (by decide +kernel) rfl rfl (by decide +kernel) (by decide +kernel) (Nat.le_of_ble_eq_true rfl) rfl ⟨Nat.le_of_ble_eq_true rfl, Nat.le_of_ble_eq_true rfl⟩ dX5_measureLetter_55 ?_
          rintro r660130 q660128 e660129
          obtain ⟨p660131, p660132, p660133⟩ := e660129
          subst p660131
          replace p660132 : q660128 ≤ 2 := p660132
          replace p660133 : q660128 = ftk (ks (rr v5_10_66006)) (j660120 + 1) := p660133
          show J x (mflat [(s1, .inl (.inl (kA 1, 6, .inl sc1))), (s5, .inl (.inl (kA 1, 10, .inl sc5))), (s6, .inr (kA 6, kA 1, 10, 5, .inl sc6)), (s7, .inl (.inl (kA 1, 10, .inl sc7))), (s8, .inr (kA 6, kA 1, 10, 2, .inl sc8)), (s, .inl (.inr (5, [.ref s0, .ref s1, .ref s2, .ref s3, .ref s4, .ref s5, .ref s6, .ref s7, .ref s8, .ref s9, .ref s10, .ref s11, .int (nI sn), .int (nI sl), .int (nI se)]))), (s3, .inl (.inl (kA 1, 6, .inl sc3)))]) [(2, .int (nI (v2_10_66006 + (tt (rr v5_10_66006))))), (6, .int (nI (rr v5_10_66006))), (5, .int (nI v5_10_66006)), (4, .int (pm v4_10_66006)), (3, .int (nI j660120)), (0, .ref s), (1, .int (nI sl))] 0 0 58 [.int (pm q660128)]
          refine j_istore_n (lv' := [(3, .int (pm q660128)), (2, .int (nI (v2_10_66006 + (tt (rr v5_10_66006))))), (6, .int (nI (rr v5_10_66006))), (5, .int (nI v5_10_66006)), (4, .int (pm v4_10_66006)), (0, .ref s), (1, .int (nI sl))]) h dX5_measureLetter_58 rfl (by decide) rfl ?_
          refine j_iload h 4 rfl dX5_measureLetter_59 ?_
          refine j_iconst (v := (-1)) h (by decide) dX5_measureLetter_61 ?_
          rcases v4_10_66006 with _ | j660134
          · show J x (mflat [(s1, .inl (.inl (kA 1, 6, .inl sc1))), (s5, .inl (.inl (kA 1, 10, .inl sc5))), (s6, .inr (kA 6, kA 1, 10, 5, .inl sc6)), (s7, .inl (.inl (kA 1, 10, .inl sc7))), (s8, .inr (kA 6, kA 1, 10, 2, .inl sc8)), (s, .inl (.inr (5, [.ref s0, .ref s1, .ref s2, .ref s3, .ref s4, .ref s5, .ref s6, .ref s7, .ref s8, .ref s9, .ref s10, .ref s11, .int (nI sn), .int (nI sl), .int (nI se)]))), (s3, .inl (.inl (kA 1, 6, .inl sc3)))]) [(3, .int (pm q660128)), (2, .int (nI (v2_10_66006 + (tt (rr v5_10_66006))))), (6, .int (nI (rr v5_10_66006))), (5, .int (nI v5_10_66006)), (4, .int (-1)), (0, .ref s), (1, .int (nI sl))] 0 0 62 [.int (-1), .int (-1)]
            refine j_icmp_ne h 69 dX5_measureLetter_62 (by decide) (fun q => absurd (by decide) q) (fun _ => ?_)
            refine j_iconst (v := (-1)) h (by decide) dX5_measureLetter_65 ?_
            refine j_goto h 77 dX5_measureLetter_66 (by decide) ?_
            refine j_istore (lv' := [(4, .int (-1)), (3, .int (pm q660128)), (2, .int (nI (v2_10_66006 + (tt (rr v5_10_66006))))), (6, .int (nI (rr v5_10_66006))), (5, .int (nI v5_10_66006)), (0, .ref s), (1, .int (nI sl))]) h dX5_measureLetter_77 (by decide) rfl ?_
            refine j_iinc (v := nI (v5_10_66006 + 1)) (lv' := [(5, .int (nI (v5_10_66006 + 1))), (4, .int (-1)), (3, .int (pm q660128)), (2, .int (nI (v2_10_66006 + (tt (rr v5_10_66006))))), (6, .int (nI (rr v5_10_66006))), (0, .ref s), (1, .int (nI sl))]) h dX5_measureLetter_79 4 rfl (nI_add v5_10_66006 1) (by decide) rfl ?_
            refine j_goto h 10 dX5_measureLetter_82 (by decide) ?_
            refine jm_sub [5, 0, 6, 1, 2, 3, 4] (w' := [(s, .inl (.inr (5, [.ref s0, .ref s1, .ref s2, .ref s3, .ref s4, .ref s5, .ref s6, .ref s7, .ref s8, .ref s9, .ref s10, .ref s11, .int (nI sn), .int (nI sl), .int (nI se)]))), (s1, .inl (.inl (kA 1, 6, .inl sc1))), (s3, .inl (.inl (kA 1, 6, .inl sc3))), (s5, .inl (.inl (kA 1, 10, .inl sc5))), (s6, .inr (kA 6, kA 1, 10, 5, .inl sc6)), (s7, .inl (.inl (kA 1, 10, .inl sc7))), (s8, .inr (kA 6, kA 1, 10, 2, .inl sc8))]) rfl (by decide +kernel) [0, 1, 2, 3, 5, 6] (lv' := [(5, .int (nI (v5_10_66006 + 1))), (4, .int (-1)), (3, .int (pm q660128)), (2, .int (nI (v2_10_66006 + (tt (rr v5_10_66006))))), (0, .ref s), (1, .int (nI sl))]) rfl ?_
            exact ih10_66006 (v5_10_66006 + 1) 0 q660128 (v2_10_66006 + (tt (rr v5_10_66006))) (show (v2_10_66006 + (tt (rr v5_10_66006))) = tkS tt rr (v5_10_66006 + 1) from tkS_n i10_66006_0) (show q660128 = rowF ks rr (v5_10_66006 + 1) 1 from rowF_n i10_66006_1 (p660133)) (show 0 = rowF ks rr (v5_10_66006 + 1) 2 from rowF_n i10_66006_2 ((ftk_0 _).symm)) (show q660128 ≤ 2 by first | assumption | omega) (show 0 ≤ 2 by first | assumption | omega) (show (v5_10_66006 + 1) ≤ c by first | assumption | omega) (show (v2_10_66006 + (tt (rr v5_10_66006))) ≤ 9 * (v5_10_66006 + 1) by first | assumption | omega) (show (v5_10_66006 + 1) ≤ 100000 by first | assumption | omega) (show 0 ≤ 100000 by first | assumption | omega) (show q660128 ≤ 100000 by first | assumption | omega) (show (v2_10_66006 + (tt (rr v5_10_66006))) ≤ 100000 by first | assumption | omega) (show c - (v5_10_66006 + 1) < m10_66006 by omega)
          · show J x (mflat [(s1, .inl (.inl (kA 1, 6, .inl sc1))), (s5, .inl (.inl (kA 1, 10, .inl sc5))), (s6, .inr (kA 6, kA 1, 10, 5, .inl sc6)), (s7, .inl (.inl (kA 1, 10, .inl sc7))), (s8, .inr (kA 6, kA 1, 10, 2, .inl sc8)), (s, .inl (.inr (5, [.ref s0, .ref s1, .ref s2, .ref s3, .ref s4, .ref s5, .ref s6, .ref s7, .ref s8, .ref s9, .ref s10, .ref s11, .int (nI sn), .int (nI sl), .int (nI se)]))), (s3, .inl (.inl (kA 1, 6, .inl sc3)))]) [(3, .int (pm q660128)), (2, .int (nI (v2_10_66006 + (tt (rr v5_10_66006))))), (6, .int (nI (rr v5_10_66006))), (5, .int (nI v5_10_66006)), (4, .int (nI j660134)), (0, .ref s), (1, .int (nI sl))] 0 0 62 [.int (-1), .int (nI j660134)]
            refine j_icmp_ne h 69 dX5_measureLetter_62 (by decide) (fun _ => ?_) (fun q => absurd q (nI_m1 (by omega)))
            refine j_aload_n h 5 rfl rfl dX5_measureLetter_69 ?_
            refine j_iload h 2 rfl dX5_measureLetter_70 ?_
            refine j_iload h 4 rfl dX5_measureLetter_72 ?_
            refine jm_callVi (np := 2) (isC := [5, 6]) (isR := [0, 1, 2, 3, 4]) (wc := [(s, .inl (.inr (5, [.ref s0, .ref s1, .ref s2, .ref s3, .ref s4, .ref s5, .ref s6, .ref s7, .ref s8, .ref s9, .ref s10, .ref s11, .int (nI sn), .int (nI sl), .int (nI se)]))), (s3, .inl (.inl (kA 1, 6, .inl sc3)))]) (wr := [(s1, .inl (.inl (kA 1, 6, .inl sc1))), (s5, .inl (.inl (kA 1, 10, .inl sc5))), (s6, .inr (kA 6, kA 1, 10, 5, .inl sc6)), (s7, .inl (.inl (kA 1, 10, .inl sc7))), (s8, .inr (kA 6, kA 1, 10, 2, .inl sc8))]) (rest := []) (As := [.int (nI (rr v5_10_66006)), .int (nI j660134)]) (q0 := 0) h (s_X5_footAfterF _ _ kA s (rr v5_10_66006) j660134 s0 s1 s2 s3 s4 s5 s6 s7 s8 s9 s10 s11 sn sl se sc3 (ks (rr v5_10_66006)) (show sn ≤ 6 by first | assumption | omega) (show (rr v5_10_66006) < sn by first | assumption | omega) (show j660134 ≤ 1 by first | assumption | omega) (show sc3 (rr v5_10_66006) = nI (sdC (ks (rr v5_10_66006))) from (hgg (rr v5_10_66006) (by omega)).1) (show (ks (rr v5_10_66006)) ≤ 3 from (hgg (rr v5_10_66006) (by omega)).2)) tw_708 tw_709 tw_710 tw_90 tw_711 (by decide +kernel) rfl ⟨Nat.le_of_ble_eq_true rfl, Nat.le_of_ble_eq_true rfl⟩ rfl rfl (by decide +kernel) rfl rfl (by decide +kernel) (by decide +kernel) (Nat.le_of_ble_eq_true rfl) rfl ⟨Nat.le_of_ble_eq_true rfl, Nat.le_of_ble_eq_true rfl⟩ dX5_measureLetter_74 ?_
            rintro r660137 q660135 e660136
            obtain ⟨p660138, p660139, p660140⟩ := e660136
            subst p660138
            replace p660139 : q660135 ≤ 2 := p660139
            replace p660140 : q660135 = ftk (ks (rr v5_10_66006)) (j660134 + 1) := p660140
            show J x (mflat [(s1, .inl (.inl (kA 1, 6, .inl sc1))), (s5, .inl (.inl (kA 1, 10, .inl sc5))), (s6, .inr (kA 6, kA 1, 10, 5, .inl sc6)), (s7, .inl (.inl (kA 1, 10, .inl sc7))), (s8, .inr (kA 6, kA 1, 10, 2, .inl sc8)), (s, .inl (.inr (5, [.ref s0, .ref s1, .ref s2, .ref s3, .ref s4, .ref s5, .ref s6, .ref s7, .ref s8, .ref s9, .ref s10, .ref s11, .int (nI sn), .int (nI sl), .int (nI se)]))), (s3, .inl (.inl (kA 1, 6, .inl sc3)))]) [(3, .int (pm q660128)), (2, .int (nI (v2_10_66006 + (tt (rr v5_10_66006))))), (6, .int (nI (rr v5_10_66006))), (5, .int (nI v5_10_66006)), (4, .int (nI j660134)), (0, .ref s), (1, .int (nI sl))] 0 0 77 [.int (pm q660135)]
            refine j_istore (lv' := [(4, .int (pm q660135)), (3, .int (pm q660128)), (2, .int (nI (v2_10_66006 + (tt (rr v5_10_66006))))), (6, .int (nI (rr v5_10_66006))), (5, .int (nI v5_10_66006)), (0, .ref s), (1, .int (nI sl))]) h dX5_measureLetter_77 (by decide) rfl ?_
            refine j_iinc (v := nI (v5_10_66006 + 1)) (lv' := [(5, .int (nI (v5_10_66006 + 1))), (4, .int (pm q660135)), (3, .int (pm q660128)), (2, .int (nI (v2_10_66006 + (tt (rr v5_10_66006))))), (6, .int (nI (rr v5_10_66006))), (0, .ref s), (1, .int (nI sl))]) h dX5_measureLetter_79 4 rfl (nI_add v5_10_66006 1) (by decide) rfl ?_
            refine j_goto h 10 dX5_measureLetter_82 (by decide) ?_
            refine jm_sub [5, 0, 6, 1, 2, 3, 4] (w' := [(s, .inl (.inr (5, [.ref s0, .ref s1, .ref s2, .ref s3, .ref s4, .ref s5, .ref s6, .ref s7, .ref s8, .ref s9, .ref s10, .ref s11, .int (nI sn), .int (nI sl), .int (nI se)]))), (s1, .inl (.inl (kA 1, 6, .inl sc1))), (s3, .inl (.inl (kA 1, 6, .inl sc3))), (s5, .inl (.inl (kA 1, 10, .inl sc5))), (s6, .inr (kA 6, kA 1, 10, 5, .inl sc6)), (s7, .inl (.inl (kA 1, 10, .inl sc7))), (s8, .inr (kA 6, kA 1, 10, 2, .inl sc8))]) rfl (by decide +kernel) [0, 1, 2, 3, 5, 6] (lv' := [(5, .int (nI (v5_10_66006 + 1))), (4, .int (pm q660135)), (3, .int (pm q660128)), (2, .int (nI (v2_10_66006 + (tt (rr v5_10_66006))))), (0, .ref s), (1, .int (nI sl))]) rfl ?_
            exact ih10_66006 (v5_10_66006 + 1) q660135 q660128 (v2_10_66006 + (tt (rr v5_10_66006))) (show (v2_10_66006 + (tt (rr v5_10_66006))) = tkS tt rr (v5_10_66006 + 1) from tkS_n i10_66006_0) (show q660128 = rowF ks rr (v5_10_66006 + 1) 1 from rowF_n i10_66006_1 (p660133)) (show q660135 = rowF ks rr (v5_10_66006 + 1) 2 from rowF_n i10_66006_2 (p660140)) (show q660128 ≤ 2 by first | assumption | omega) (show q660135 ≤ 2 by first | assumption | omega) (show (v5_10_66006 + 1) ≤ c by first | assumption | omega) (show (v2_10_66006 + (tt (rr v5_10_66006))) ≤ 9 * (v5_10_66006 + 1) by first | assumption | omega) (show (v5_10_66006 + 1) ≤ 100000 by first | assumption | omega) (show q660135 ≤ 100000 by first | assumption | omega) (show q660128 ≤ 100000 by first | assumption | omega) (show (v2_10_66006 + (tt (rr v5_10_66006))) ≤ 100000 by first | assumption | omega) (show c - (v5_10_66006 + 1) < m10_66006 by omega)
  refine jm_sub [0, 1, 2, 3, 4, 5, 6] (w' := [(s, .inl (.inr (5, [.ref s0, .ref s1, .ref s2, .ref s3, .ref s4, .ref s5, .ref s6, .ref s7, .ref s8, .ref s9, .ref s10, .ref s11, .int (nI sn), .int (nI sl), .int (nI se)]))), (s1, .inl (.inl (kA 1, 6, .inl sc1))), (s3, .inl (.inl (kA 1, 6, .inl sc3))), (s5, .inl (.inl (kA 1, 10, .inl sc5))), (s6, .inr (kA 6, kA 1, 10, 5, .inl sc6)), (s7, .inl (.inl (kA 1, 10, .inl sc7))), (s8, .inr (kA 6, kA 1, 10, 2, .inl sc8))]) rfl (by decide +kernel) [0, 1, 2, 3, 4, 5] (lv' := [(5, .int 0), (4, .int 1), (3, .int 0), (2, .int 0), (0, .ref s), (1, .int (nI sl))]) rfl ?_
  exact lp10_66006 (c - 0 + 1) 0 2 1 0 (show 0 = tkS tt rr 0 from rfl) (show 1 = rowF ks rr 0 1 from rfl) (show 2 = rowF ks rr 0 2 from rfl) (show 1 ≤ 2 by first | assumption | omega) (show 2 ≤ 2 by first | assumption | omega) (show 0 ≤ c by first | assumption | omega) (show 0 ≤ 9 * 0 by first | assumption | omega) (show 0 ≤ 100000 by first | assumption | omega) (show 2 ≤ 100000 by first | assumption | omega) (show 1 ≤ 100000 by first | assumption | omega) (show 0 ≤ 100000 by first | assumption | omega) (Nat.lt_succ_self _)
