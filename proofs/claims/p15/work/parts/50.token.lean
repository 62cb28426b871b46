theorem wb_tb (n : Nat) : (lN n).toBitVec = BitVec.ofNat 64 n := rfl
theorem wb_inj {a b : Int64} (h : a.toBitVec = b.toBitVec) : a = b := Int64.toBitVec_inj.mp h
theorem wb_c : ∀ k, k < 64 → ((nI k).toInt64 &&& 63) = lN k := by decide +kernel
theorem wb_sm : ∀ k, k < 64 → (BitVec.ofNat 64 k).smod 64 = BitVec.ofNat 64 k := by decide +kernel
theorem wb_shl (n : Nat) {k : Nat} (hk : k < 64) : lN n <<< ((nI k).toInt64 &&& 63) = lN (n * 2 ^ k) := by
  rw [wb_c k hk]
  apply wb_inj
  rw [Int64.toBitVec_shiftLeft, wb_tb, wb_tb, wb_tb, wb_sm k hk]
  apply BitVec.eq_of_toNat_eq
  rw [BitVec.shiftLeft_eq', BitVec.toNat_shiftLeft, BitVec.toNat_ofNat, BitVec.toNat_ofNat, BitVec.toNat_ofNat, Nat.mod_eq_of_lt (show k < 2 ^ 64 by omega), Nat.shiftLeft_eq, Nat.mul_mod, Nat.mod_mod, ← Nat.mul_mod]
def ltb (c : Nat → Nat) (s i : Nat) : Bool := decide (i < s ∧ 97 ≤ c i ∧ c i ≤ 122)
def dgb (c : Nat → Nat) (s i : Nat) : Bool := decide (i < s ∧ 48 ≤ c i ∧ c i ≤ 57)
def blb (c : Nat → Nat) (s i : Nat) : Bool := decide (i < s ∧ (c i = 32 ∨ c i = 10))
theorem ltb_t {c : Nat → Nat} {s i : Nat} : ltb c s i = true ↔ i < s ∧ 97 ≤ c i ∧ c i ≤ 122 := decide_eq_true_iff
theorem dgb_t {c : Nat → Nat} {s i : Nat} : dgb c s i = true ↔ i < s ∧ 48 ≤ c i ∧ c i ≤ 57 := decide_eq_true_iff
theorem blb_t {c : Nat → Nat} {s i : Nat} : blb c s i = true ↔ i < s ∧ (c i = 32 ∨ c i = 10) := decide_eq_true_iff
theorem ltb_f {c : Nat → Nat} {s i : Nat} : ltb c s i = false ↔ ¬ (i < s ∧ 97 ≤ c i ∧ c i ≤ 122) := decide_eq_false_iff_not
theorem dgb_f {c : Nat → Nat} {s i : Nat} : dgb c s i = false ↔ ¬ (i < s ∧ 48 ≤ c i ∧ c i ≤ 57) := decide_eq_false_iff_not
theorem blb_f {c : Nat → Nat} {s i : Nat} : blb c s i = false ↔ ¬ (i < s ∧ (c i = 32 ∨ c i = 10)) := decide_eq_false_iff_not
theorem ltb_lt {c : Nat → Nat} {s : Nat} : ∀ i, ltb c s i = true → i < s := fun i h => (ltb_t.mp h).1
theorem dgb_lt {c : Nat → Nat} {s : Nat} : ∀ i, dgb c s i = true → i < s := fun i h => (dgb_t.mp h).1
theorem blb_lt {c : Nat → Nat} {s : Nat} : ∀ i, blb c s i = true → i < s := fun i h => (blb_t.mp h).1
def runN (P : Nat → Bool) : Nat → Nat → Nat
  | 0, p => p
  | k + 1, p => if P p = true then runN P k (p + 1) else p
def rnE (P : Nat → Bool) (s p : Nat) : Nat := runN P (s - p) p
theorem rn_s {P : Nat → Bool} {s p : Nat} (hP : ∀ i, P i = true → i < s) (h : P p = true) : rnE P s p = rnE P s (p + 1) := by
  have := hP p h
  unfold rnE
  rw [show s - p = s - (p + 1) + 1 by omega]
  show (if P p = true then runN P (s - (p + 1)) (p + 1) else p) = _
  rw [if_pos h]
theorem rn_e {P : Nat → Bool} {s p : Nat} (h : P p = false) : rnE P s p = p := by
  unfold rnE
  cases s - p with
  | zero => rfl
  | succ k =>
    show (if P p = true then runN P k (p + 1) else p) = p
    rw [if_neg (by rw [h]; decide)]
theorem runN_ge {P : Nat → Bool} : ∀ {k p : Nat}, p ≤ runN P k p ∧ runN P k p ≤ p + k
  | 0, p => ⟨Nat.le_refl p, Nat.le_refl p⟩
  | k + 1, p => by
    show p ≤ (if P p = true then runN P k (p + 1) else p) ∧ (if P p = true then runN P k (p + 1) else p) ≤ p + (k + 1)
    have := runN_ge (P := P) (k := k) (p := p + 1)
    split
    · omega
    · omega
theorem rn_ge {P : Nat → Bool} {s p : Nat} : p ≤ rnE P s p := (runN_ge (P := P) (k := s - p) (p := p)).1
theorem rn_le {P : Nat → Bool} {s p : Nat} (h : p ≤ s) : rnE P s p ≤ s := by
  have := (runN_ge (P := P) (k := s - p) (p := p)).2
  unfold rnE
  omega
def tP (c : Nat → Nat) (s p : Nat) : Nat := rnE (blb c s) s p
def tL (c : Nat → Nat) (s p : Nat) : Nat := rnE (ltb c s) s (tP c s p)
def tD (c : Nat → Nat) (s p : Nat) : Nat := rnE (dgb c s) s (tP c s p)
def tS (c : Nat → Nat) (s p : Nat) : Nat := if tP c s p < s then (if ltb c s (tP c s p) = true then (if 8 < tL c s p - tP c s p then 3 else 1) else if dgb c s (tP c s p) = true then (if 4 < tD c s p - tP c s p then 3 else if ltb c s (tD c s p) = true then 3 else 2) else if c (tP c s p) = 59 then 59 else 3) else 0
def tE (c : Nat → Nat) (s p : Nat) : Nat := if tS c s p = 1 then tL c s p else if tS c s p = 2 then tD c s p else if tS c s p = 59 then tP c s p + 1 else tP c s p
def wN (c : Nat → Nat) (q : Nat) : Nat → Nat
  | 0 => 0
  | k + 1 => wN c q k * 256 + c (q + k)
def nN (c : Nat → Nat) (q : Nat) : Nat → Nat
  | 0 => 0
  | k + 1 => 10 * nN c q k + (c (q + k) - 48)
def tW (c : Nat → Nat) (s p : Nat) : Nat := wN c (tP c s p) (tL c s p - tP c s p)
def tN (c : Nat → Nat) (s p : Nat) : Nat := nN c (tP c s p) (tD c s p - tP c s p)
/-- the reference's token -/
def TokR (c : Nat → Nat) (s p so e : Nat) (pl nu : Int32) (wd : Int64) : Prop := so = tS c s p ∧ pl = nI (tP c s p) ∧ e = tE c s p ∧ (so = 1 → wd = lN (tW c s p)) ∧ (so = 2 → nu = nI (tN c s p))
section TK
variable {c : Nat → Nat} {s p q n : Nat} {pl nu : Int32} {wd : Int64}
theorem tP_s (h : blb c s p = true) : tP c s p = tP c s (p + 1) := rn_s blb_lt h
theorem tP_e (h : blb c s p = false) : tP c s p = p := rn_e h
theorem tok_end (hp : tP c s p = q) (h : s ≤ q) : tS c s p = 0 := by
  unfold tS
  rw [hp, if_neg (by omega)]
theorem tok_w (hp : tP c s p = q) (hl : ltb c s q = true) (hn : rnE (ltb c s) s q = q + n) : tL c s p = q + n ∧ tS c s p = if 8 < n then 3 else 1 := by
  have e : tL c s p = q + n := by
    unfold tL
    rw [hp]
    exact hn
  refine ⟨e, ?_⟩
  unfold tS
  rw [hp, e, if_pos (ltb_lt q hl), if_pos hl, show q + n - q = n by omega]
theorem tok_n (hp : tP c s p = q) (hs : q < s) (hl : ltb c s q = false) (hd : dgb c s q = true) (hn : rnE (dgb c s) s q = q + n) : tD c s p = q + n ∧ tS c s p = if 4 < n then 3 else if ltb c s (q + n) = true then 3 else 2 := by
  have e : tD c s p = q + n := by
    unfold tD
    rw [hp]
    exact hn
  refine ⟨e, ?_⟩
  unfold tS
  rw [hp, e, if_pos hs, if_neg (by rw [hl]; decide), if_pos hd, show q + n - q = n by omega]
theorem tok_o (hp : tP c s p = q) (hs : q < s) (hl : ltb c s q = false) (hd : dgb c s q = false) : tS c s p = if c q = 59 then 59 else 3 := by
  unfold tS
  rw [hp, if_pos hs, if_neg (by rw [hl]; decide), if_neg (by rw [hd]; decide)]
theorem tokR_end (hp : tP c s p = q) (h : s ≤ q) : TokR c s p 0 q (nI q) nu wd := by
  have e := tok_end hp h
  refine ⟨e.symm, by rw [hp], ?_, fun h9 => absurd h9 (by decide), fun h9 => absurd h9 (by decide)⟩
  unfold tE
  rw [e, hp]
  rfl
theorem tokR_w (hp : tP c s p = q) (hl : ltb c s q = true) (hn : rnE (ltb c s) s q = q + n) (h8 : n ≤ 8) (hw : wd = lN (wN c q n)) : TokR c s p 1 (q + n) (nI q) nu wd := by
  obtain ⟨e1, e⟩ := tok_w hp hl hn
  rw [if_neg (by omega)] at e
  refine ⟨e.symm, by rw [hp], ?_, fun _ => ?_, fun h9 => absurd h9 (by decide)⟩
  · unfold tE
    rw [e, if_pos rfl, e1]
  · unfold tW
    rw [hp, e1, show q + n - q = n by omega]
    exact hw
theorem tokR_bad (hp : tP c s p = q) (h : tS c s p = 3) : TokR c s p 3 q (nI q) nu wd := by
  refine ⟨h.symm, by rw [hp], ?_, fun h9 => absurd h9 (by decide), fun h9 => absurd h9 (by decide)⟩
  unfold tE
  rw [h, hp]
  rfl
theorem tokR_wb (hp : tP c s p = q) (hl : ltb c s q = true) (hn : rnE (ltb c s) s q = q + n) (h8 : 8 < n) : TokR c s p 3 q (nI q) nu wd := by
  obtain ⟨_, e⟩ := tok_w hp hl hn
  rw [if_pos h8] at e
  exact tokR_bad hp e
theorem tokR_n (hp : tP c s p = q) (hs : q < s) (hl : ltb c s q = false) (hd : dgb c s q = true) (hn : rnE (dgb c s) s q = q + n) (h4 : n ≤ 4) (hb : ltb c s (q + n) = false) (hu : nu = nI (nN c q n)) : TokR c s p 2 (q + n) (nI q) nu wd := by
  obtain ⟨e1, e⟩ := tok_n hp hs hl hd hn
  rw [if_neg (by omega), if_neg (by rw [hb]; decide)] at e
  refine ⟨e.symm, by rw [hp], ?_, fun h9 => absurd h9 (by decide), fun _ => ?_⟩
  · unfold tE
    rw [e, if_neg (by decide), if_pos rfl, e1]
  · unfold tN
    rw [hp, e1, show q + n - q = n by omega]
    exact hu
theorem tokR_nb (hp : tP c s p = q) (hs : q < s) (hl : ltb c s q = false) (hd : dgb c s q = true) (hn : rnE (dgb c s) s q = q + n) (h4 : 4 < n ∨ ltb c s (q + n) = true) : TokR c s p 3 q (nI q) nu wd := by
  obtain ⟨_, e⟩ := tok_n hp hs hl hd hn
  refine tokR_bad hp ?_
  rw [e]
  rcases h4 with h | h
  · rw [if_pos h]
  · rw [if_pos h]
    split
    · rfl
    · rfl
theorem tokR_s (hp : tP c s p = q) (hs : q < s) (hl : ltb c s q = false) (hd : dgb c s q = false) (h : c q = 59) : TokR c s p 59 (q + 1) (nI q) nu wd := by
  have e := tok_o hp hs hl hd
  rw [if_pos h] at e
  refine ⟨e.symm, by rw [hp], ?_, fun h9 => absurd h9 (by decide), fun h9 => absurd h9 (by decide)⟩
  unfold tE
  rw [e, hp]
  rfl
theorem tokR_b (hp : tP c s p = q) (hs : q < s) (hl : ltb c s q = false) (hd : dgb c s q = false) (h : ¬ c q = 59) : TokR c s p 3 q (nI q) nu wd := by
  have e := tok_o hp hs hl hd
  rw [if_neg h] at e
  exact tokR_bad hp e
end TK
def chV (c : Nat → Nat) (s i : Nat) : Int32 := if i < s then nI (c i) else -1
def CbOk (c : Nat → Nat) (s : Nat) : Prop := ∀ k, k < s → c k ≤ 255
def CtOk (c : Nat → Nat) (s : Nat) (f : Nat → Int32) : Prop := ∀ k, k < s → f k = nI (c k)
section CH
variable {c : Nat → Nat} {s i : Nat} (hb : CbOk c s)
theorem ch_in (h : i < s) : chV c s i = nI (c i) := if_pos h
theorem ch_out (h : ¬ i < s) : chV c s i = -1 := if_neg h
theorem ch_neg (h : chV c s i < 0) (hb : CbOk c s) : s ≤ i := by
  by_cases q : i < s
  · rw [ch_in q] at h
    have := hb i q
    exact absurd h (nI_pos (by omega))
  · omega
theorem ch_pos (h : 0 ≤ chV c s i) : i < s := by
  by_cases q : i < s
  · exact q
  · rw [ch_out q] at h
    exact absurd h (by decide)
theorem ch_eq {v : Nat} (h : chV c s i = nI v) (hv : v ≤ 255) (hb : CbOk c s) : i < s ∧ c i = v := by
  by_cases q : i < s
  · rw [ch_in q] at h
    have := hb i q
    exact ⟨q, (nI_eq (by omega) (by omega)).mp h⟩
  · rw [ch_out q] at h
    exact absurd h.symm (nI_m1 (by omega))
theorem ch_bl1 (h : chV c s i = 32) (hb : CbOk c s) : blb c s i = true := by
  have := ch_eq (v := 32) h (by decide) hb
  exact blb_t.mpr ⟨this.1, Or.inl this.2⟩
theorem ch_bl2 (h : chV c s i = 10) (hb : CbOk c s) : blb c s i = true := by
  have := ch_eq (v := 10) h (by decide) hb
  exact blb_t.mpr ⟨this.1, Or.inr this.2⟩
theorem ch_bl0 (h : ¬ chV c s i = 32) (h' : ¬ chV c s i = 10) : blb c s i = false := blb_f.mpr (fun ⟨a, b⟩ => by
  rcases b with b | b
  · exact h (by rw [ch_in a, b]; rfl)
  · exact h' (by rw [ch_in a, b]; rfl))
theorem isLet_n {v : Nat} (hv : v ≤ 255) : isLet (nI v) = if 97 ≤ v ∧ v ≤ 122 then 1 else 0 := by
  have h : ∀ v, v < 256 → isLet (nI v) = if 97 ≤ v ∧ v ≤ 122 then 1 else 0 := by decide +kernel
  exact h v (by omega)
theorem isDig_n {v : Nat} (hv : v ≤ 255) : isDig (nI v) = if 48 ≤ v ∧ v ≤ 57 then 1 else 0 := by
  have h : ∀ v, v < 256 → isDig (nI v) = if 48 ≤ v ∧ v ≤ 57 then 1 else 0 := by decide +kernel
  exact h v (by omega)
theorem ch_l1 (h : ¬ isLet (chV c s i) = 0) (hb : CbOk c s) : ltb c s i = true := by
  by_cases q : i < s
  · rw [ch_in q, isLet_n (hb i q)] at h
    by_cases r : 97 ≤ c i ∧ c i ≤ 122
    · exact ltb_t.mpr ⟨q, r.1, r.2⟩
    · exact absurd (if_neg r) h
  · rw [ch_out q] at h
    exact absurd (by decide) h
theorem ch_l0 (h : isLet (chV c s i) = 0) (hb : CbOk c s) : ltb c s i = false := ltb_f.mpr (fun ⟨a, b, d⟩ => by
  rw [ch_in a, isLet_n (hb i a), if_pos ⟨b, d⟩] at h
  exact absurd h (by decide))
theorem ch_d1 (h : ¬ isDig (chV c s i) = 0) (hb : CbOk c s) : dgb c s i = true := by
  by_cases q : i < s
  · rw [ch_in q, isDig_n (hb i q)] at h
    by_cases r : 48 ≤ c i ∧ c i ≤ 57
    · exact dgb_t.mpr ⟨q, r.1, r.2⟩
    · exact absurd (if_neg r) h
  · rw [ch_out q] at h
    exact absurd (by decide) h
theorem ch_d0 (h : isDig (chV c s i) = 0) (hb : CbOk c s) : dgb c s i = false := dgb_f.mpr (fun ⟨a, b, d⟩ => by
  rw [ch_in a, isDig_n (hb i a), if_pos ⟨b, d⟩] at h
  exact absurd h (by decide))
end CH
theorem wN_lt {c : Nat → Nat} {s q : Nat} (hb : CbOk c s) : ∀ {n : Nat}, q + n ≤ s → wN c q n < 256 ^ n
  | 0, _ => by
    show 0 < 1
    decide
  | n + 1, h => by
    have a := wN_lt (q := q) (n := n) hb (by omega)
    have b := hb (q + n) (by omega)
    show wN c q n * 256 + c (q + n) < 256 ^ (n + 1)
    rw [Nat.pow_succ]
    omega
theorem lN_or {a b : Nat} (hb : b < 256) (ha : a < 2 ^ 56) : (lN a <<< ((8 : Int32).toInt64 &&& 63)) ||| (nI b).toInt64 = lN (a * 256 + b) := by
  have e1 : lN a <<< ((8 : Int32).toInt64 &&& 63) = lN (a * 256) := wb_shl a (k := 8) (by decide)
  rw [e1, nI_l (by omega)]
  apply Int64.toBitVec_inj.mp
  rw [Int64.toBitVec_or]
  show BitVec.ofNat 64 (a * 256) ||| BitVec.ofNat 64 b = BitVec.ofNat 64 (a * 256 + b)
  apply BitVec.eq_of_toNat_eq
  rw [BitVec.toNat_or, BitVec.toNat_ofNat, BitVec.toNat_ofNat, BitVec.toNat_ofNat, Nat.mod_eq_of_lt (by omega), Nat.mod_eq_of_lt (by omega), Nat.mod_eq_of_lt (by omega)]
  have := Nat.shiftLeft_add_eq_or_of_lt (i := 8) (b := b) (by omega) a
  rw [Nat.shiftLeft_eq] at this
  exact this.symm
theorem nN_le {c : Nat → Nat} {s q : Nat} (hb : CbOk c s) : ∀ {n : Nat}, q + n ≤ s → nN c q n + 23 ≤ 23 * 10 ^ n
  | 0, _ => by
    show 0 + 23 ≤ 23 * 1
    decide
  | n + 1, h => by
    have a := nN_le (q := q) (n := n) hb (by omega)
    have b := hb (q + n) (by omega)
    show 10 * nN c q n + (c (q + n) - 48) + 23 ≤ 23 * 10 ^ (n + 1)
    rw [Nat.pow_succ]
    omega
theorem num_st {k v : Nat} (hv : 48 ≤ v) (hv2 : v ≤ 255) (hk : k ≤ 100000) : 10 * nI k + nI v - 48 = nI (10 * k + (v - 48)) := by
  have e1 : (10 : Int32) * nI k = nI (10 * k) := pk_mul 10 k
  rw [e1, nI_add]
  have := pk_sub (a := 10 * k + v) (b := 48) (by omega)
  rw [show 10 * k + (v - 48) = 10 * k + v - 48 by omega]
  exact this
