def sx (n : Nat) : Int32 := (nI n).toInt8.toInt32
def CtC (c : Nat → Nat) (s : Nat) (f : Nat → Int32) : Prop := ∀ k, k < s → f k = sx (c k)
def chC (c : Nat → Nat) (s i : Nat) : Int32 := if i < s then sx (c i) else 0
def blC (b : Int32) : Int32 := if b = 32 then 1 else if b = 10 then 1 else 0
theorem sx_let : ∀ v, v < 256 → isLet (sx v) = if 97 ≤ v ∧ v ≤ 122 then 1 else 0 := by decide +kernel
theorem sx_dig : ∀ v, v < 256 → isDig (sx v) = if 48 ≤ v ∧ v ≤ 57 then 1 else 0 := by decide +kernel
theorem sx_bl : ∀ v, v < 256 → blC (sx v) = if v = 32 ∨ v = 10 then 1 else 0 := by decide +kernel
theorem sx_sm : ∀ v, v < 256 → (v < 128 ∧ sx v = nI v) ∨ (128 ≤ v ∧ sx v < 0) := by decide +kernel
theorem sx_eq {v w : Nat} (hv : v ≤ 255) (hw : w < 128) (h : sx v = nI w) : v = w := by
  rcases sx_sm v (by omega) with ⟨a, b⟩ | ⟨a, b⟩
  · rw [b] at h
    exact (nI_eq (by omega) (by omega)).mp h
  · rw [h] at b
    exact absurd b (nI_pos (by omega))
theorem sx_lo {v : Nat} (h : v < 128) : sx v = nI v := by
  rcases sx_sm v (by omega) with ⟨a, b⟩ | ⟨a, b⟩
  · exact b
  · omega
section CC
variable {c : Nat → Nat} {s i : Nat}
theorem cc_in (h : i < s) : chC c s i = sx (c i) := if_pos h
theorem cc_out (h : ¬ i < s) : chC c s i = 0 := if_neg h
theorem cc_b1 (h : ¬ blC (chC c s i) = 0) (hb : CbOk c s) : blb c s i = true := by
  by_cases q : i < s
  · have r := hb i q
    rw [cc_in q, sx_bl _ (by omega)] at h
    by_cases z : c i = 32 ∨ c i = 10
    · exact blb_t.mpr ⟨q, z⟩
    · exact absurd (if_neg z) h
  · rw [cc_out q] at h
    exact absurd (by decide) h
theorem cc_b0 (h : blC (chC c s i) = 0) (hb : CbOk c s) : blb c s i = false := blb_f.mpr (fun ⟨a, b⟩ => by
  have r := hb i a
  rw [cc_in a, sx_bl _ (by omega), if_pos b] at h
  exact absurd h (by decide))
theorem cc_l1 (h : ¬ isLet (chC c s i) = 0) (hb : CbOk c s) : ltb c s i = true := by
  by_cases q : i < s
  · have r := hb i q
    rw [cc_in q, sx_let _ (by omega)] at h
    by_cases z : 97 ≤ c i ∧ c i ≤ 122
    · exact ltb_t.mpr ⟨q, z.1, z.2⟩
    · exact absurd (if_neg z) h
  · rw [cc_out q] at h
    exact absurd (by decide) h
theorem cc_l0 (h : isLet (chC c s i) = 0) (hb : CbOk c s) : ltb c s i = false := ltb_f.mpr (fun ⟨a, b, d⟩ => by
  have r := hb i a
  rw [cc_in a, sx_let _ (by omega), if_pos ⟨b, d⟩] at h
  exact absurd h (by decide))
theorem cc_d1 (h : ¬ isDig (chC c s i) = 0) (hb : CbOk c s) : dgb c s i = true := by
  by_cases q : i < s
  · have r := hb i q
    rw [cc_in q, sx_dig _ (by omega)] at h
    by_cases z : 48 ≤ c i ∧ c i ≤ 57
    · exact dgb_t.mpr ⟨q, z.1, z.2⟩
    · exact absurd (if_neg z) h
  · rw [cc_out q] at h
    exact absurd (by decide) h
theorem cc_d0 (h : isDig (chC c s i) = 0) (hb : CbOk c s) : dgb c s i = false := dgb_f.mpr (fun ⟨a, b, d⟩ => by
  have r := hb i a
  rw [cc_in a, sx_dig _ (by omega), if_pos ⟨b, d⟩] at h
  exact absurd h (by decide))
theorem cc_59 (h : chC c s i = 59) (hi : i < s) (hb : CbOk c s) : c i = 59 := by
  rw [cc_in hi] at h
  exact sx_eq (hb i hi) (by decide) h
end CC
theorem runN_all {P : Nat → Bool} : ∀ {k p i : Nat}, p ≤ i → i < runN P k p → P i = true
  | 0, p, i, h1, h2 => absurd (show i < p from h2) (by omega)
  | k + 1, p, i, h1, h2 => by
    have h2 : i < (if P p = true then runN P k (p + 1) else p) := h2
    by_cases a : P p = true
    · rw [if_pos a] at h2
      by_cases e : i = p
      · rw [e]
        exact a
      · exact runN_all (k := k) (p := p + 1) (by omega) h2
    · rw [if_neg a] at h2
      omega
theorem rn_all {P : Nat → Bool} {s p i : Nat} (h1 : p ≤ i) (h2 : i < rnE P s p) : P i = true := runN_all h1 h2
def w5 (c : Nat → Nat) (q : Nat) : Nat → Nat
  | 0 => 0
  | k + 1 => w5 c q k * 32 + (c (q + k) - 96)
theorem w5_lt {c : Nat → Nat} {q : Nat} : ∀ {n : Nat}, (∀ i, i < n → 97 ≤ c (q + i) ∧ c (q + i) ≤ 122) → w5 c q n < 32 ^ n
  | 0, _ => by
    show 0 < 1
    decide
  | n + 1, h => by
    have a := w5_lt (c := c) (q := q) (n := n) (fun i hi => h i (by omega))
    have b := h n (Nat.lt_succ_self n)
    show w5 c q n * 32 + (c (q + n) - 96) < 32 ^ (n + 1)
    rw [Nat.pow_succ]
    omega
theorem lN_or5 {a b : Nat} (hb : b < 32) (ha : a < 2 ^ 58) : (lN a <<< ((5 : Int32).toInt64 &&& 63)) ||| (nI b).toInt64 = lN (a * 32 + b) := by
  have e1 : lN a <<< ((5 : Int32).toInt64 &&& 63) = lN (a * 32) := wb_shl a (k := 5) (by decide)
  rw [e1, nI_l (by omega)]
  apply Int64.toBitVec_inj.mp
  rw [Int64.toBitVec_or]
  show BitVec.ofNat 64 (a * 32) ||| BitVec.ofNat 64 b = BitVec.ofNat 64 (a * 32 + b)
  apply BitVec.eq_of_toNat_eq
  rw [BitVec.toNat_or, BitVec.toNat_ofNat, BitVec.toNat_ofNat, BitVec.toNat_ofNat, Nat.mod_eq_of_lt (by omega), Nat.mod_eq_of_lt (by omega), Nat.mod_eq_of_lt (by omega)]
  have := Nat.shiftLeft_add_eq_or_of_lt (i := 5) (b := b) (by omega) a
  rw [Nat.shiftLeft_eq] at this
  exact this.symm
theorem w5_st {c : Nat → Nat} {s q x : Nat} {w : Int64} (hq : q ≤ x) (h8 : x < q + 8) (hr : rnE (ltb c s) s q = rnE (ltb c s) s x) (hx : ltb c s x = true) (h : w = lN (w5 c q (x - q))) : (w <<< ((5 : Int32).toInt64 &&& 63)) ||| (chC c s x - 97 + 1).toInt64 = lN (w5 c q (x + 1 - q)) := by
  obtain ⟨n, rfl⟩ : ∃ n, x = q + n := ⟨x - q, by omega⟩
  obtain ⟨h0, h1, h2⟩ := ltb_t.mp hx
  have ge : q + n ≤ rnE (ltb c s) s (q + n) := rn_ge
  have al : ∀ i, i < n → 97 ≤ c (q + i) ∧ c (q + i) ≤ 122 := fun i hi => (ltb_t.mp (rn_all (P := ltb c s) (s := s) (p := q) (i := q + i) (by omega) (by omega))).2
  have a := w5_lt al
  have e : (32 : Nat) ^ n ≤ 32 ^ 7 := Nat.pow_le_pow_right (by decide) (by omega)
  rw [show q + n + 1 - q = n + 1 by omega, h, show q + n - q = n by omega, cc_in h0, sx_lo (by omega)]
  have e1 : nI (c (q + n)) - 97 = nI (c (q + n) - 97) := pk_sub (a := c (q + n)) (b := 97) h1
  have e2 : nI (c (q + n) - 97) + 1 = nI (c (q + n) - 96) := by
    have := nI_1 (c (q + n) - 97)
    rw [show c (q + n) - 96 = c (q + n) - 97 + 1 by omega]
    exact this
  rw [e1, e2]
  exact lN_or5 (by omega) (by omega)
theorem n5_st {c : Nat → Nat} {s q x : Nat} {w : Int32} (hb : CbOk c s) (hq : q ≤ x) (h4 : x < q + 4) (hx : dgb c s x = true) (h : w = nI (nN c q (x - q))) : w * 10 + chC c s x - 48 = nI (nN c q (x + 1 - q)) := by
  obtain ⟨n, rfl⟩ : ∃ n, x = q + n := ⟨x - q, by omega⟩
  obtain ⟨h0, h1, h2⟩ := dgb_t.mp hx
  have a := nN_le hb (n := n) (q := q) (by omega)
  have e : 10 ^ n ≤ 10 ^ 3 := Nat.pow_le_pow_right (by decide) (by omega)
  rw [show q + n + 1 - q = n + 1 by omega, h, show q + n - q = n by omega, cc_in h0, sx_lo (by omega), Int32.mul_comm]
  exact num_st h1 (by omega) (by omega)
/-- the class's token -/
def kdC (so : Nat) : Nat := if so = 59 then 3 else if so = 3 then 4 else so
def TokC (c : Nat → Nat) (s p kd pl be : Nat) (nu : Int32) (wd : Int64) : Prop := kd = kdC (tS c s p) ∧ pl = tP c s p ∧ (¬ kd = 4 → be = tE c s p) ∧ (kd = 1 → be = tL c s p ∧ wd = lN (w5 c (tP c s p) (tL c s p - tP c s p))) ∧ (kd = 2 → nu = nI (tN c s p))
section TC
variable {c : Nat → Nat} {s p q kd pl be : Nat} {nu : Int32} {wd : Int64}
theorem tS_cs : tS c s p = 0 ∨ tS c s p = 1 ∨ tS c s p = 2 ∨ tS c s p = 3 ∨ tS c s p = 59 := by
  unfold tS
  split
  · split
    · split
      · exact Or.inr (Or.inr (Or.inr (Or.inl rfl)))
      · exact Or.inr (Or.inl rfl)
    · split
      · split
        · exact Or.inr (Or.inr (Or.inr (Or.inl rfl)))
        · split
          · exact Or.inr (Or.inr (Or.inr (Or.inl rfl)))
          · exact Or.inr (Or.inr (Or.inl rfl))
      · split
        · exact Or.inr (Or.inr (Or.inr (Or.inr rfl)))
        · exact Or.inr (Or.inr (Or.inr (Or.inl rfl)))
  · exact Or.inl rfl
theorem kd_S (h : kd = kdC (tS c s p)) : (kd = 0 ↔ tS c s p = 0) ∧ (kd = 1 ↔ tS c s p = 1) ∧ (kd = 2 ↔ tS c s p = 2) ∧ (kd = 3 ↔ tS c s p = 59) ∧ (kd = 4 ↔ tS c s p = 3) := by
  subst h
  rcases tS_cs (c := c) (s := s) (p := p) with e | e | e | e | e <;> rw [e] <;> decide
theorem tokC_end (hp : tP c s p = q) (h : s ≤ q) : TokC c s p 0 q q nu wd := by
  have e := tok_end hp h
  refine ⟨by rw [e]; rfl, hp.symm, fun _ => ?_, fun h9 => absurd h9 (by decide), fun h9 => absurd h9 (by decide)⟩
  unfold tE
  rw [e, hp]
  rfl
theorem tokC_s (hp : tP c s p = q) (hs : q < s) (h : c q = 59) : TokC c s p 3 q (q + 1) nu wd := by
  have e := tok_o hp hs (ltb_f.mpr (fun z => by omega)) (dgb_f.mpr (fun z => by omega))
  rw [if_pos h] at e
  refine ⟨by rw [e]; rfl, hp.symm, fun _ => ?_, fun h9 => absurd h9 (by decide), fun h9 => absurd h9 (by decide)⟩
  unfold tE
  rw [e, hp]
  rfl
theorem tokC_b (hp : tP c s p = q) (hs : q < s) (hl : ltb c s q = false) (hd : dgb c s q = false) (h : ¬ c q = 59) : TokC c s p 4 q be nu wd := by
  have e := tok_o hp hs hl hd
  rw [if_neg h] at e
  exact ⟨by rw [e]; rfl, hp.symm, fun h9 => absurd rfl h9, fun h9 => absurd h9 (by decide), fun h9 => absurd h9 (by decide)⟩
theorem tokC_w (hp : tP c s p = q) (hl : ltb c s q = true) (hb : be = rnE (ltb c s) s q) (hk : kd = if 8 < be - q then 4 else 1) (hw : kd = 1 → wd = lN (w5 c q (be - q))) : TokC c s p kd q be nu wd := by
  have ge : q ≤ rnE (ltb c s) s q := rn_ge
  obtain ⟨e1, e⟩ := tok_w (n := be - q) hp hl (by omega)
  by_cases a : 8 < be - q
  · rw [if_pos a] at e hk
    subst hk
    exact ⟨by rw [e]; rfl, hp.symm, fun h9 => absurd rfl h9, fun h9 => absurd h9 (by decide), fun h9 => absurd h9 (by decide)⟩
  · rw [if_neg a] at e hk
    subst hk
    refine ⟨by rw [e]; rfl, hp.symm, fun _ => ?_, fun _ => ?_, fun h9 => absurd h9 (by decide)⟩
    · unfold tE
      rw [e, if_pos rfl, e1]
      omega
    · rw [e1, hp, show q + (be - q) - q = be - q by omega]
      exact ⟨by omega, hw rfl⟩
theorem tokC_n (hp : tP c s p = q) (hs : q < s) (hl : ltb c s q = false) (hd : dgb c s q = true) (hb : be = rnE (dgb c s) s q) (hk : kd = if 4 < be - q then 4 else if ltb c s be = true then 4 else 2) (hw : kd = 2 → nu = nI (nN c q (be - q))) : TokC c s p kd q be nu wd := by
  have ge : q ≤ rnE (dgb c s) s q := rn_ge
  obtain ⟨e1, e⟩ := tok_n (n := be - q) hp hs hl hd (by omega)
  rw [show q + (be - q) = be by omega] at e e1
  by_cases a : 4 < be - q
  · rw [if_pos a] at e hk
    subst hk
    exact ⟨by rw [e]; rfl, hp.symm, fun h9 => absurd rfl h9, fun h9 => absurd h9 (by decide), fun h9 => absurd h9 (by decide)⟩
  · rw [if_neg a] at e hk
    by_cases b : ltb c s be = true
    · rw [if_pos b] at e hk
      subst hk
      exact ⟨by rw [e]; rfl, hp.symm, fun h9 => absurd rfl h9, fun h9 => absurd h9 (by decide), fun h9 => absurd h9 (by decide)⟩
    · rw [if_neg b] at e hk
      subst hk
      refine ⟨by rw [e]; rfl, hp.symm, fun _ => ?_, fun h9 => absurd h9 (by decide), fun _ => ?_⟩
      · unfold tE
        rw [e, if_neg (by decide), if_pos rfl, e1]
      · unfold tN
        rw [e1, hp]
        exact hw rfl
end TC
set_option maxHeartbeats 4000000 in
set_option maxRecDepth 100000 in
theorem s_X9_isBlankF (lau : Launch) (gg : va_G) (kA : Nat → ClassId) (bb : Int32)  : CtI lau yX9_isBlank cX9_isBlank 1 (some .boolean) 1 0 0 gg kA [.int bb] (mflat []) (S := Unit) (fun (r : Int32) (_ : Unit) => r = blC bb) (fun (_ : Unit) => mflat []) := by
  refine nx_startI (by decide +kernel) (Nat.le_of_ble_eq_true rfl) ?_
  intro x hnm h hq
  have h : Ok x cX9_isBlank RX9 kA (rmC 1 0 0) 1 := h
  show J x (mflat []) [(0, .int bb)] 0 0 0 []
  refine j_iload_n h 0 rfl rfl dX9_isBlank_0 ?_
  refine j_bipush (v := 32) h (by decide) dX9_isBlank_1 ?_
  refine j_icmp_eq h 12 dX9_isBlank_3 (by decide) (fun z640003 => ?_) (fun z640003 => ?_)
  · subst z640003
    show J x (mflat []) [(0, .int 32)] 0 0 12 []
    refine j_iconst (v := 1) h (by decide) dX9_isBlank_12 ?_
    refine j_goto h 17 dX9_isBlank_13 (by decide) ?_
    exact jm_zret h hq rfl dX9_isBlank_17 () [] rfl (by decide) (by first | (unfold isLet; simp only [z640003, ↓reduceIte]; done) | (unfold isDig; simp only [z640003, ↓reduceIte]; done) | (unfold blC; simp only [z640003, ↓reduceIte]; done) | (subst_vars; decide)) (Nat.le_of_ble_eq_true rfl) (Nat.le_of_ble_eq_true rfl)
  · show J x (mflat []) [(0, .int bb)] 0 0 6 []
    refine j_iload_n h 0 rfl rfl dX9_isBlank_6 ?_
    refine j_bipush (v := 10) h (by decide) dX9_isBlank_7 ?_
    refine j_icmp_ne h 16 dX9_isBlank_9 (by decide) (fun z640004 => ?_) (fun z640004 => ?_)
    · show J x (mflat []) [(0, .int bb)] 0 0 16 []
      refine j_iconst (v := 0) h (by decide) dX9_isBlank_16 ?_
      exact jm_zret h hq rfl dX9_isBlank_17 () [] rfl (by decide) (by first | (unfold isLet; simp only [z640003, z640004, ↓reduceIte]; done) | (unfold isDig; simp only [z640003, z640004, ↓reduceIte]; done) | (unfold blC; simp only [z640003, z640004, ↓reduceIte]; done) | (subst_vars; decide)) (Nat.le_of_ble_eq_true rfl) (Nat.le_of_ble_eq_true rfl)
    · subst z640004
      show J x (mflat []) [(0, .int 10)] 0 0 12 []
      refine j_iconst (v := 1) h (by decide) dX9_isBlank_12 ?_
      refine j_goto h 17 dX9_isBlank_13 (by decide) ?_
      exact jm_zret h hq rfl dX9_isBlank_17 () [] rfl (by decide) (by first | (unfold isLet; simp only [z640003, z640004, ↓reduceIte]; done) | (unfold isDig; simp only [z640003, z640004, ↓reduceIte]; done) | (unfold blC; simp only [z640003, z640004, ↓reduceIte]; done) | (subst_vars; decide)) (Nat.le_of_ble_eq_true rfl) (Nat.le_of_ble_eq_true rfl)
set_option maxHeartbeats 4000000 in
set_option maxRecDepth 100000 in
theorem s_X9_isLetterF (lau : Launch) (gg : va_G) (kA : Nat → ClassId) (bb : Int32)  : CtI lau yX9_isLetter cX9_isLetter 1 (some .boolean) 1 0 0 gg kA [.int bb] (mflat []) (S := Unit) (fun (r : Int32) (_ : Unit) => r = isLet bb) (fun (_ : Unit) => mflat []) := by
  refine nx_startI (by decide +kernel) (Nat.le_of_ble_eq_true rfl) ?_
  intro x hnm h hq
  have h : Ok x cX9_isLetter RX9 kA (rmC 1 0 0) 1 := h
  show J x (mflat []) [(0, .int bb)] 0 0 0 []
  refine j_iload_n h 0 rfl rfl dX9_isLetter_0 ?_
  refine j_bipush (v := 97) h (by decide) dX9_isLetter_1 ?_
  refine j_icmp_lt h 16 dX9_isLetter_3 (by decide) (fun z640007 => ?_) (fun z640007 => ?_)
  · show J x (mflat []) [(0, .int bb)] 0 0 16 []
    refine j_iconst (v := 0) h (by decide) dX9_isLetter_16 ?_
    exact jm_zret h hq rfl dX9_isLetter_17 () [] rfl (by decide) (by first | (unfold isLet; simp only [z640007, ↓reduceIte]; done) | (unfold isDig; simp only [z640007, ↓reduceIte]; done) | (unfold blC; simp only [z640007, ↓reduceIte]; done) | (subst_vars; decide)) (Nat.le_of_ble_eq_true rfl) (Nat.le_of_ble_eq_true rfl)
  · show J x (mflat []) [(0, .int bb)] 0 0 6 []
    refine j_iload_n h 0 rfl rfl dX9_isLetter_6 ?_
    refine j_bipush (v := 122) h (by decide) dX9_isLetter_7 ?_
    refine j_icmp_gt h 16 dX9_isLetter_9 (by decide) (fun z640008 => ?_) (fun z640008 => ?_)
    · show J x (mflat []) [(0, .int bb)] 0 0 16 []
      refine j_iconst (v := 0) h (by decide) dX9_isLetter_16 ?_
      exact jm_zret h hq rfl dX9_isLetter_17 () [] rfl (by decide) (by first | (unfold isLet; simp only [z640007, z640008, ↓reduceIte]; done) | (unfold isDig; simp only [z640007, z640008, ↓reduceIte]; done) | (unfold blC; simp only [z640007, z640008, ↓reduceIte]; done) | (subst_vars; decide)) (Nat.le_of_ble_eq_true rfl) (Nat.le_of_ble_eq_true rfl)
    · show J x (mflat []) [(0, .int bb)] 0 0 12 []
      refine j_iconst (v := 1) h (by decide) dX9_isLetter_12 ?_
      refine j_goto h 17 dX9_isLetter_13 (by decide) ?_
      exact jm_zret h hq rfl dX9_isLetter_17 () [] rfl (by decide) (by first | (unfold isLet; simp only [z640007, z640008, ↓reduceIte]; done) | (unfold isDig; simp only [z640007, z640008, ↓reduceIte]; done) | (unfold blC; simp only [z640007, z640008, ↓reduceIte]; done) | (subst_vars; decide)) (Nat.le_of_ble_eq_true rfl) (Nat.le_of_ble_eq_true rfl)
set_option maxHeartbeats 4000000 in
set_option maxRecDepth 100000 in
theorem s_X9_isDigitF (lau : Launch) (gg : va_G) (kA : Nat → ClassId) (bb : Int32)  : CtI lau yX9_isDigit cX9_isDigit 1 (some .boolean) 1 0 0 gg kA [.int bb] (mflat []) (S := Unit) (fun (r : Int32) (_ : Unit) => r = isDig bb) (fun (_ : Unit) => mflat []) := by
  refine nx_startI (by decide +kernel) (Nat.le_of_ble_eq_true rfl) ?_
  intro x hnm h hq
  have h : Ok x cX9_isDigit RX9 kA (rmC 1 0 0) 1 := h
  show J x (mflat []) [(0, .int bb)] 0 0 0 []
  refine j_iload_n h 0 rfl rfl dX9_isDigit_0 ?_
  refine j_bipush (v := 48) h (by decide) dX9_isDigit_1 ?_
  refine j_icmp_lt h 16 dX9_isDigit_3 (by decide) (fun z640011 => ?_) (fun z640011 => ?_)
  · show J x (mflat []) [(0, .int bb)] 0 0 16 []
    refine j_iconst (v := 0) h (by decide) dX9_isDigit_16 ?_
    exact jm_zret h hq rfl dX9_isDigit_17 () [] rfl (by decide) (by first | (unfold isLet; simp only [z640011, ↓reduceIte]; done) | (unfold isDig; simp only [z640011, ↓reduceIte]; done) | (unfold blC; simp only [z640011, ↓reduceIte]; done) | (subst_vars; decide)) (Nat.le_of_ble_eq_true rfl) (Nat.le_of_ble_eq_true rfl)
  · show J x (mflat []) [(0, .int bb)] 0 0 6 []
    refine j_iload_n h 0 rfl rfl dX9_isDigit_6 ?_
    refine j_bipush (v := 57) h (by decide) dX9_isDigit_7 ?_
    refine j_icmp_gt h 16 dX9_isDigit_9 (by decide) (fun z640012 => ?_) (fun z640012 => ?_)
    · show J x (mflat []) [(0, .int bb)] 0 0 16 []
      refine j_iconst (v := 0) h (by decide) dX9_isDigit_16 ?_
      exact jm_zret h hq rfl dX9_isDigit_17 () [] rfl (by decide) (by first | (unfold isLet; simp only [z640011, z640012, ↓reduceIte]; done) | (unfold isDig; simp only [z640011, z640012, ↓reduceIte]; done) | (unfold blC; simp only [z640011, z640012, ↓reduceIte]; done) | (subst_vars; decide)) (Nat.le_of_ble_eq_true rfl) (Nat.le_of_ble_eq_true rfl)
    · show J x (mflat []) [(0, .int bb)] 0 0 12 []
      refine j_iconst (v := 1) h (by decide) dX9_isDigit_12 ?_
      refine j_goto h 17 dX9_isDigit_13 (by decide) ?_
      exact jm_zret h hq rfl dX9_isDigit_17 () [] rfl (by decide) (by first | (unfold isLet; simp only [z640011, z640012, ↓reduceIte]; done) | (unfold isDig; simp only [z640011, z640012, ↓reduceIte]; done) | (unfold blC; simp only [z640011, z640012, ↓reduceIte]; done) | (subst_vars; decide)) (Nat.le_of_ble_eq_true rfl) (Nat.le_of_ble_eq_true rfl)
set_option maxHeartbeats 4000000 in
set_option maxRecDepth 100000 in
theorem s_X9_byteAtF (lau : Launch) (gg : va_G) (kA : Nat → ClassId) (t : Nat) (aa : Nat) (t0 : Nat) (tsz : Nat) (tkd : Int32) (tpl : Int32) (tbh : Int32) (twd : Int64) (tnu : Int32) (tby : Nat → Int32) (ct : Nat → Nat) (htsz : tsz ≤ 1600) (haa : aa ≤ 4000) (hct : CtC ct tsz tby) : CtI lau yX9_byteAt cX9_byteAt 2 (some .int) 1 0 0 gg kA [.ref t, .int (nI aa)] (mflat [(t, .inl (.inr (9, [.ref t0, .int (nI tsz), .int tkd, .int tpl, .int tbh, .long twd, .int tnu]))), (t0, .inl (.inl (kA 0, 1600, .inl tby)))]) (S := Unit) (fun (r : Int32) (_ : Unit) => r = chC ct tsz aa) (fun (_ : Unit) => mflat [(t, .inl (.inr (9, [.ref t0, .int (nI tsz), .int tkd, .int tpl, .int tbh, .long twd, .int tnu]))), (t0, .inl (.inl (kA 0, 1600, .inl tby)))]) := by
  refine nx_startI (by decide +kernel) (Nat.le_of_ble_eq_true rfl) ?_
  intro x hnm h hq
  have h : Ok x cX9_byteAt RX9 kA (rmC 1 0 0) 2 := h
  show J x (mflat [(t, .inl (.inr (9, [.ref t0, .int (nI tsz), .int tkd, .int tpl, .int tbh, .long twd, .int tnu]))), (t0, .inl (.inl (kA 0, 1600, .inl tby)))]) [(0, .ref t), (1, .int (nI aa))] 0 0 0 []
  refine j_iload_n h 1 rfl rfl dX9_byteAt_0 ?_
  refine j_if_lt h 30 dX9_byteAt_1 (by decide) (fun q => absurd q (nI_pos (by omega))) (fun _ => ?_)
  refine j_iload_n h 1 rfl rfl dX9_byteAt_4 ?_
  refine j_aload_n h 0 rfl rfl dX9_byteAt_5 ?_
  refine jm_get h iw_X9 0 rfl rfl 1 (by decide +kernel) tw_122 rfl dX9_byteAt_6 ?_
  refine j_icmp_ge h 30 dX9_byteAt_9 (by decide) (fun z640015 => ?_) (fun z640015 => ?_)
  · have z640015n : tsz ≤ aa := (nI_leI (a := tsz) (b := aa) (by omega) (by omega)).mp z640015
    refine j_iconst (v := 0) h (by decide) dX9_byteAt_30 ?_
    exact jm_iret h hq dX9_byteAt_31 () [0, 1] rfl (by decide) (show _ = chC ct tsz aa from (cc_out (by omega)).symm) (Nat.le_of_ble_eq_true rfl) (Nat.le_of_ble_eq_true rfl)
  · have z640015n : ¬ tsz ≤ aa := fun q9 => z640015 ((nI_leI (a := tsz) (b := aa) (by omega) (by omega)).mpr q9)
    refine j_iload_n h 1 rfl rfl dX9_byteAt_12 ?_
    refine j_aload_n h 0 rfl rfl dX9_byteAt_13 ?_
    refine jm_get h iw_X9 0 rfl rfl 0 (by decide +kernel) tw_121 rfl dX9_byteAt_14 ?_
    refine jm_alen (v := 1600) h 1 0 rfl rfl rfl dX9_byteAt_17 ?_
    refine j_icmp_ge h 30 dX9_byteAt_18 (by decide) (fun z640016 => ?_) (fun z640016 => ?_)
    · have z640016n : 1600 ≤ aa := (nI_leI (a := 1600) (b := aa) (by omega) (by omega)).mp z640016
      refine j_iconst (v := 0) h (by decide) dX9_byteAt_30 ?_
      exact jm_iret h hq dX9_byteAt_31 () [0, 1] rfl (by decide) (show _ = chC ct tsz aa from (cc_out (by omega)).symm) (Nat.le_of_ble_eq_true rfl) (Nat.le_of_ble_eq_true rfl)
    · have z640016n : ¬ 1600 ≤ aa := fun q9 => z640016 ((nI_leI (a := 1600) (b := aa) (by omega) (by omega)).mpr q9)
      refine j_aload_n h 0 rfl rfl dX9_byteAt_21 ?_
      refine jm_get h iw_X9 0 rfl rfl 0 (by decide +kernel) tw_121 rfl dX9_byteAt_22 ?_
      refine j_iload_n h 1 rfl rfl dX9_byteAt_25 ?_
      refine jm_bald h 1 rfl aa rfl (by omega) (by omega) dX9_byteAt_26 ?_
      refine j_goto h 31 dX9_byteAt_27 (by decide) ?_
      exact jm_iret h hq dX9_byteAt_31 () [0, 1] rfl (by decide) (show _ = chC ct tsz aa by rw [cc_in (by omega)]; exact hct _ (by omega)) (Nat.le_of_ble_eq_true rfl) (Nat.le_of_ble_eq_true rfl)
set_option maxHeartbeats 4000000 in
set_option maxRecDepth 100000 in
theorem s_X9_readWordF (lau : Launch) (gg : va_G) (kA : Nat → ClassId) (t : Nat) (t0 : Nat) (tsz : Nat) (tkd : Int32) (tpl : Nat) (tbh : Nat) (twd : Int64) (tnu : Int32) (tby : Nat → Int32) (ct : Nat → Nat) (htsz : tsz ≤ 1600) (htpl : tpl ≤ tsz) (htbh : tbh ≤ tsz) (hct : CtC ct tsz tby) (hcb : CbOk ct tsz) (hpb : tbh = tpl) : CtV lau yX9_readWord cX9_readWord 1 (none) 2 0 0 gg kA [.ref t] (mflat [(t, .inl (.inr (9, [.ref t0, .int (nI tsz), .int tkd, .int (nI tpl), .int (nI tbh), .long twd, .int tnu]))), (t0, .inl (.inl (kA 0, 1600, .inl tby)))]) (S := Nat × Nat × Int64) (fun ((y_t_2, y_t_4, y_t_5) : Nat × Nat × Int64) => (tpl ≤ tsz) ∧ (y_t_4 ≤ tsz) ∧ (y_t_4 = rnE (ltb ct tsz) tsz tpl) ∧ (y_t_2 = if 8 < y_t_4 - tpl then 4 else 1) ∧ (y_t_2 = 1 → y_t_5 = lN (w5 ct tpl (y_t_4 - tpl)))) (fun ((y_t_2, y_t_4, y_t_5) : Nat × Nat × Int64) => mflat [(t, .inl (.inr (9, [.ref t0, .int (nI tsz), .int (nI y_t_2), .int (nI tpl), .int (nI y_t_4), .long y_t_5, .int tnu]))), (t0, .inl (.inl (kA 0, 1600, .inl tby)))]) := by
  refine nx_startV (by decide +kernel) (Nat.le_of_ble_eq_true rfl) ?_
  intro x hnm h hq
  have h : Ok x cX9_readWord RX9 kA (rmC 2 0 0) 1 := h
  show J x (mflat [(t, .inl (.inr (9, [.ref t0, .int (nI tsz), .int tkd, .int (nI tpl), .int (nI tbh), .long twd, .int tnu]))), (t0, .inl (.inl (kA 0, 1600, .inl tby)))]) [(0, .ref t)] 0 0 0 []
  refine j_aload_n h 0 rfl rfl dX9_readWord_0 ?_
  refine j_lconst (v := 0) h (by decide) dX9_readWord_1 ?_
  refine jm_put (w' := [(t, .inl (.inr (9, [.ref t0, .int (nI tsz), .int tkd, .int (nI tpl), .int (nI tbh), .long 0, .int tnu]))), (t0, .inl (.inl (kA 0, 1600, .inl tby)))]) h iw_X9 tyX9 tyX9_ok nmX9 0 rfl rfl 5 (by decide +kernel) tw_129 rfl rfl rfl (Nat.le_of_ble_eq_true rfl) dX9_readWord_2 rfl ?_
  have lp5_64006 : ∀ (m5_64006 : Nat), ∀ (wt4_5_64006 : Nat) (wt5_5_64006 : Int64), (wt4_5_64006 ≤ tsz) → (tpl ≤ wt4_5_64006) → (rnE (ltb ct tsz) tsz tpl = rnE (ltb ct tsz) tsz wt4_5_64006) → (wt4_5_64006 ≤ tpl + 8 → wt5_5_64006 = lN (w5 ct tpl (wt4_5_64006 - tpl))) → (wt4_5_64006 ≤ 100000) → tsz + 1 - wt4_5_64006 < m5_64006 → J x (mflat [(t, .inl (.inr (9, [.ref t0, .int (nI tsz), .int tkd, .int (nI tpl), .int (nI wt4_5_64006), .long wt5_5_64006, .int tnu]))), (t0, .inl (.inl (kA 0, 1600, .inl tby)))]) [(0, .ref t)] 0 0 5 [] := by
    intro m5_64006
    induction m5_64006 with
    | zero =>
      intro wt4_5_64006 wt5_5_64006 i5_64006_0 i5_64006_1 i5_64006_2 i5_64006_3 i5_64006_4 hm5_64006
      exact absurd hm5_64006 (Nat.not_lt_zero _)
    | succ m5_64006 ih5_64006 =>
      intro wt4_5_64006 wt5_5_64006 i5_64006_0 i5_64006_1 i5_64006_2 i5_64006_3 i5_64006_4 hm5_64006
      refine j_aload_n h 0 rfl rfl dX9_readWord_5 ?_
      refine jm_get h iw_X9 0 rfl rfl 4 (by decide +kernel) tw_128 rfl dX9_readWord_6 ?_
      refine j_aload_n h 0 rfl rfl dX9_readWord_9 ?_
      refine jm_get h iw_X9 0 rfl rfl 1 (by decide +kernel) tw_122 rfl dX9_readWord_10 ?_
      refine j_icmp_ge h 68 dX9_readWord_13 (by decide) (fun z640082 => ?_) (fun z640082 => ?_)
      · have z640082n : tsz ≤ wt4_5_64006 := (nI_leI (a := tsz) (b := wt4_5_64006) (by omega) (by omega)).mp z640082
        have hx9 : ltb ct tsz wt4_5_64006 = false := ltb_f.mpr (fun z9 => absurd z9.1 (by omega))
        have hn9 : wt4_5_64006 = rnE (ltb ct tsz) tsz tpl := ((i5_64006_2).trans (rn_e hx9)).symm
        refine j_aload_n h 0 rfl rfl dX9_readWord_68 ?_
        refine j_aload_n h 0 rfl rfl dX9_readWord_69 ?_
        refine jm_get h iw_X9 0 rfl rfl 4 (by decide +kernel) tw_128 rfl dX9_readWord_70 ?_
        refine j_aload_n h 0 rfl rfl dX9_readWord_73 ?_
        refine jm_get h iw_X9 0 rfl rfl 3 (by decide +kernel) tw_126 rfl dX9_readWord_74 ?_
        refine j_isub h dX9_readWord_77 ?_
        refine j_top (b := nI (wt4_5_64006 - tpl)) (pk_sub (a := wt4_5_64006) (b := tpl) (by omega)) ?_
        refine j_bipush (v := 8) h (by decide) dX9_readWord_78 ?_
        refine j_icmp_le h 87 dX9_readWord_80 (by decide) (fun z640083 => ?_) (fun z640083 => ?_)
        · have z640083n : (wt4_5_64006 - tpl) ≤ 8 := (nI_leI (a := (wt4_5_64006 - tpl)) (b := 8) (by omega) (by omega)).mp z640083
          refine j_iconst (v := 1) h (by decide) dX9_readWord_87 ?_
          refine jm_put (w' := [(t, .inl (.inr (9, [.ref t0, .int (nI tsz), .int 1, .int (nI tpl), .int (nI wt4_5_64006), .long wt5_5_64006, .int tnu]))), (t0, .inl (.inl (kA 0, 1600, .inl tby)))]) h iw_X9 tyX9 tyX9_ok nmX9 0 rfl rfl 2 (by decide +kernel) tw_125 rfl rfl rfl (Nat.le_of_ble_eq_true rfl) dX9_readWord_88 rfl ?_
          exact jm_vret h hq dX9_readWord_91 (1, wt4_5_64006, wt5_5_64006) [0, 1] rfl (by decide) ⟨(show tpl ≤ tsz by first | assumption | omega), (show wt4_5_64006 ≤ tsz by first | assumption | omega), (show wt4_5_64006 = rnE (ltb ct tsz) tsz tpl from hn9), (show 1 = if 8 < wt4_5_64006 - tpl then 4 else 1 from (if_neg (by omega)).symm), (show 1 = 1 → wt5_5_64006 = lN (w5 ct tpl (wt4_5_64006 - tpl)) from (fun _ => i5_64006_3 (by omega)))⟩ (Nat.le_of_ble_eq_true rfl) (Nat.le_of_ble_eq_true rfl)
        · have z640083n : ¬ (wt4_5_64006 - tpl) ≤ 8 := fun q9 => z640083 ((nI_leI (a := (wt4_5_64006 - tpl)) (b := 8) (by omega) (by omega)).mpr q9)
          refine j_iconst (v := 4) h (by decide) dX9_readWord_83 ?_
          refine j_goto h 88 dX9_readWord_84 (by decide) ?_
          refine jm_put (w' := [(t, .inl (.inr (9, [.ref t0, .int (nI tsz), .int 4, .int (nI tpl), .int (nI wt4_5_64006), .long wt5_5_64006, .int tnu]))), (t0, .inl (.inl (kA 0, 1600, .inl tby)))]) h iw_X9 tyX9 tyX9_ok nmX9 0 rfl rfl 2 (by decide +kernel) tw_125 rfl rfl rfl (Nat.le_of_ble_eq_true rfl) dX9_readWord_88 rfl ?_
          exact jm_vret h hq dX9_readWord_91 (4, wt4_5_64006, wt5_5_64006) [0, 1] rfl (by decide) ⟨(show tpl ≤ tsz by first | assumption | omega), (show wt4_5_64006 ≤ tsz by first | assumption | omega), (show wt4_5_64006 = rnE (ltb ct tsz) tsz tpl from hn9), (show 4 = if 8 < wt4_5_64006 - tpl then 4 else 1 from (if_pos (by omega)).symm), (show 4 = 1 → wt5_5_64006 = lN (w5 ct tpl (wt4_5_64006 - tpl)) from fun h9 => absurd h9 (by decide))⟩ (Nat.le_of_ble_eq_true rfl) (Nat.le_of_ble_eq_true rfl)
      · have z640082n : ¬ tsz ≤ wt4_5_64006 := fun q9 => z640082 ((nI_leI (a := tsz) (b := wt4_5_64006) (by omega) (by omega)).mpr q9)
        refine j_aload_n h 0 rfl rfl dX9_readWord_16 ?_
        refine j_aload_n h 0 rfl rfl dX9_readWord_17 ?_
        refine jm_get h iw_X9 0 rfl rfl 4 (by decide +kernel) tw_128 rfl dX9_readWord_18 ?_
        refine jm_callVi (np := 1) (isC := [0, 1]) (isR := []) (wc := [(t, .inl (.inr (9, [.ref t0, .int (nI tsz), .int tkd, .int (nI tpl), .int (nI wt4_5_64006), .long wt5_5_64006, .int tnu]))), (t0, .inl (.inl (kA 0, 1600, .inl tby)))]) (wr := []) (rest := []) (As := [.int (nI wt4_5_64006)]) (q0 := 0) h (s_X9_byteAtF _ _ kA t wt4_5_64006 t0 tsz tkd (nI tpl) (nI wt4_5_64006) wt5_5_64006 tnu tby ct (show tsz ≤ 1600 by first | assumption | omega) (show wt4_5_64006 ≤ 4000 by first | assumption | omega) (show CtC ct tsz tby by first | assumption | omega)) tw_569 tw_571 tw_0 tw_88 tw_572 (by decide +kernel) rfl ⟨Nat.le_of_ble_eq_true rfl, Nat.le_of_ble_eq_true rfl⟩ rfl rfl (by decide +kernel) rfl rfl (by decide +kernel) (by decide +kernel) (Nat.le_of_ble_eq_true rfl) rfl ⟨Nat.le_of_ble_eq_true rfl, Nat.le_of_ble_eq_true rfl⟩ dX9_readWord_21 ?_
        rintro r640085 _ e640084
        have p640086 := e640084
        subst p640086
        show J x (mflat [(t, .inl (.inr (9, [.ref t0, .int (nI tsz), .int tkd, .int (nI tpl), .int (nI wt4_5_64006), .long wt5_5_64006, .int tnu]))), (t0, .inl (.inl (kA 0, 1600, .inl tby)))]) [(0, .ref t)] 0 0 24 [.int (chC ct tsz wt4_5_64006)]
        refine jm_callSi (np := 1) (isC := []) (isR := [0, 1]) (wc := []) (wr := [(t, .inl (.inr (9, [.ref t0, .int (nI tsz), .int tkd, .int (nI tpl), .int (nI wt4_5_64006), .long wt5_5_64006, .int tnu]))), (t0, .inl (.inl (kA 0, 1600, .inl tby)))]) (rest := []) (As := [.int (chC ct tsz wt4_5_64006)]) h (s_X9_isLetterF _ _ kA (chC ct tsz wt4_5_64006) ) tw_576 tw_577 tw_88 tw_578 (by decide +kernel) rfl ⟨Nat.le_of_ble_eq_true rfl, Nat.le_of_ble_eq_true rfl⟩ (by decide +kernel) rfl rfl (by decide +kernel) (by decide +kernel) (Nat.le_of_ble_eq_true rfl) rfl ⟨Nat.le_of_ble_eq_true rfl, Nat.le_of_ble_eq_true rfl⟩ dX9_readWord_24 ?_
        rintro r640088 _ e640087
        have p640089 := e640087
        subst p640089
        show J x (mflat [(t, .inl (.inr (9, [.ref t0, .int (nI tsz), .int tkd, .int (nI tpl), .int (nI wt4_5_64006), .long wt5_5_64006, .int tnu]))), (t0, .inl (.inl (kA 0, 1600, .inl tby)))]) [(0, .ref t)] 0 0 27 [.int (isLet (chC ct tsz wt4_5_64006))]
        refine j_if_eq h 68 dX9_readWord_27 (by decide) (fun z640090 => ?_) (fun z640090 => ?_)
        · show J x (mflat [(t, .inl (.inr (9, [.ref t0, .int (nI tsz), .int tkd, .int (nI tpl), .int (nI wt4_5_64006), .long wt5_5_64006, .int tnu]))), (t0, .inl (.inl (kA 0, 1600, .inl tby)))]) [(0, .ref t)] 0 0 68 []
          have hx9 : ltb ct tsz wt4_5_64006 = false := cc_l0 z640090 hcb
          have hn9 : wt4_5_64006 = rnE (ltb ct tsz) tsz tpl := ((i5_64006_2).trans (rn_e hx9)).symm
          refine j_aload_n h 0 rfl rfl dX9_readWord_68 ?_
          refine j_aload_n h 0 rfl rfl dX9_readWord_69 ?_
          refine jm_get h iw_X9 0 rfl rfl 4 (by decide +kernel) tw_128 rfl dX9_readWord_70 ?_
          refine j_aload_n h 0 rfl rfl dX9_readWord_73 ?_
          refine jm_get h iw_X9 0 rfl rfl 3 (by decide +kernel) tw_126 rfl dX9_readWord_74 ?_
          refine j_isub h dX9_readWord_77 ?_
          refine j_top (b := nI (wt4_5_64006 - tpl)) (pk_sub (a := wt4_5_64006) (b := tpl) (by omega)) ?_
          refine j_bipush (v := 8) h (by decide) dX9_readWord_78 ?_
          refine j_icmp_le h 87 dX9_readWord_80 (by decide) (fun z640091 => ?_) (fun z640091 => ?_)
          · have z640091n : (wt4_5_64006 - tpl) ≤ 8 := (nI_leI (a := (wt4_5_64006 - tpl)) (b := 8) (by omega) (by omega)).mp z640091
            refine j_iconst (v := 1) h (by decide) dX9_readWord_87 ?_
            refine jm_put (w' := [(t, .inl (.inr (9, [.ref t0, .int (nI tsz), .int 1, .int (nI tpl), .int (nI wt4_5_64006), .long wt5_5_64006, .int tnu]))), (t0, .inl (.inl (kA 0, 1600, .inl tby)))]) h iw_X9 tyX9 tyX9_ok nmX9 0 rfl rfl 2 (by decide +kernel) tw_125 rfl rfl rfl (Nat.le_of_ble_eq_true rfl) dX9_readWord_88 rfl ?_
            exact jm_vret h hq dX9_readWord_91 (1, wt4_5_64006, wt5_5_64006) [0, 1] rfl (by decide) ⟨(show tpl ≤ tsz by first | assumption | omega), (show wt4_5_64006 ≤ tsz by first | assumption | omega), (show wt4_5_64006 = rnE (ltb ct tsz) tsz tpl from hn9), (show 1 = if 8 < wt4_5_64006 - tpl then 4 else 1 from (if_neg (by omega)).symm), (show 1 = 1 → wt5_5_64006 = lN (w5 ct tpl (wt4_5_64006 - tpl)) from (fun _ => i5_64006_3 (by omega)))⟩ (Nat.le_of_ble_eq_true rfl) (Nat.le_of_ble_eq_true rfl)
          · have z640091n : ¬ (wt4_5_64006 - tpl) ≤ 8 := fun q9 => z640091 ((nI_leI (a := (wt4_5_64006 - tpl)) (b := 8) (by omega) (by omega)).mpr q9)
            refine j_iconst (v := 4) h (by decide) dX9_readWord_83 ?_
            refine j_goto h 88 dX9_readWord_84 (by decide) ?_
            refine jm_put (w' := [(t, .inl (.inr (9, [.ref t0, .int (nI tsz), .int 4, .int (nI tpl), .int (nI wt4_5_64006), .long wt5_5_64006, .int tnu]))), (t0, .inl (.inl (kA 0, 1600, .inl tby)))]) h iw_X9 tyX9 tyX9_ok nmX9 0 rfl rfl 2 (by decide +kernel) tw_125 rfl rfl rfl (Nat.le_of_ble_eq_true rfl) dX9_readWord_88 rfl ?_
            exact jm_vret h hq dX9_readWord_91 (4, wt4_5_64006, wt5_5_64006) [0, 1] rfl (by decide) ⟨(show tpl ≤ tsz by first | assumption | omega), (show wt4_5_64006 ≤ tsz by first | assumption | omega), (show wt4_5_64006 = rnE (ltb ct tsz) tsz tpl from hn9), (show 4 = if 8 < wt4_5_64006 - tpl then 4 else 1 from (if_pos (by omega)).symm), (show 4 = 1 → wt5_5_64006 = lN (w5 ct tpl (wt4_5_64006 - tpl)) from fun h9 => absurd h9 (by decide))⟩ (Nat.le_of_ble_eq_true rfl) (Nat.le_of_ble_eq_true rfl)
        · have hb9 := cc_l1 z640090 hcb
          have hb8 := ltb_lt _ hb9
          refine j_aload_n h 0 rfl rfl dX9_readWord_30 ?_
          refine j_aload_n h 0 rfl rfl dX9_readWord_31 ?_
          refine jm_get h iw_X9 0 rfl rfl 5 (by decide +kernel) tw_129 rfl dX9_readWord_32 ?_
          refine j_iconst (v := 5) h (by decide) dX9_readWord_35 ?_
          refine j_lshl h dX9_readWord_36 ?_
          refine j_aload_n h 0 rfl rfl dX9_readWord_37 ?_
          refine j_aload_n h 0 rfl rfl dX9_readWord_38 ?_
          refine jm_get h iw_X9 0 rfl rfl 4 (by decide +kernel) tw_128 rfl dX9_readWord_39 ?_
          refine jm_callVi (np := 1) (isC := [0, 1]) (isR := []) (wc := [(t, .inl (.inr (9, [.ref t0, .int (nI tsz), .int tkd, .int (nI tpl), .int (nI wt4_5_64006), .long wt5_5_64006, .int tnu]))), (t0, .inl (.inl (kA 0, 1600, .inl tby)))]) (wr := []) (rest := [.long (wt5_5_64006 <<< ((5 : Int32).toInt64 &&& 63)), .ref t]) (As := [.int (nI wt4_5_64006)]) (q0 := 0) h (s_X9_byteAtF _ _ kA t wt4_5_64006 t0 tsz tkd (nI tpl) (nI wt4_5_64006) wt5_5_64006 tnu tby ct (show tsz ≤ 1600 by first | assumption | omega) (show wt4_5_64006 ≤ 4000 by first | assumption | omega) (show CtC ct tsz tby by first | assumption | omega)) tw_569 tw_571 tw_0 tw_88 tw_572 (by decide +kernel) rfl ⟨Nat.le_of_ble_eq_true rfl, Nat.le_of_ble_eq_true rfl⟩ rfl rfl (by decide +kernel) rfl rfl (by decide +kernel) (by decide +kernel) (Nat.le_of_ble_eq_true rfl) rfl ⟨Nat.le_of_ble_eq_true rfl, Nat.le_of_ble_eq_true rfl⟩ dX9_readWord_42 ?_
          rintro r640093 _ e640092
          have p640094 := e640092
          subst p640094
          show J x (mflat [(t, .inl (.inr (9, [.ref t0, .int (nI tsz), .int tkd, .int (nI tpl), .int (nI wt4_5_64006), .long wt5_5_64006, .int tnu]))), (t0, .inl (.inl (kA 0, 1600, .inl tby)))]) [(0, .ref t)] 0 0 45 [.int (chC ct tsz wt4_5_64006), .long (wt5_5_64006 <<< ((5 : Int32).toInt64 &&& 63)), .ref t]
          refine j_bipush (v := 97) h (by decide) dX9_readWord_45 ?_
          refine j_isub h dX9_readWord_47 ?_
          refine j_iconst (v := 1) h (by decide) dX9_readWord_48 ?_
          refine j_iadd h dX9_readWord_49 ?_
          refine j_i2l h dX9_readWord_50 ?_
          refine j_lor h dX9_readWord_51 ?_
          refine jm_put (w' := [(t, .inl (.inr (9, [.ref t0, .int (nI tsz), .int tkd, .int (nI tpl), .int (nI wt4_5_64006), .long ((wt5_5_64006 <<< ((5 : Int32).toInt64 &&& 63)) ||| ((((chC ct tsz wt4_5_64006) - 97) + 1).toInt64)), .int tnu]))), (t0, .inl (.inl (kA 0, 1600, .inl tby)))]) h iw_X9 tyX9 tyX9_ok nmX9 0 rfl rfl 5 (by decide +kernel) tw_129 rfl rfl rfl (Nat.le_of_ble_eq_true rfl) dX9_readWord_52 rfl ?_
          refine j_aload_n h 0 rfl rfl dX9_readWord_55 ?_
          refine j_dup h rfl dX9_readWord_56 ?_
          refine jm_get h iw_X9 0 rfl rfl 4 (by decide +kernel) tw_128 rfl dX9_readWord_57 ?_
          refine j_iconst (v := 1) h (by decide) dX9_readWord_60 ?_
          refine j_iadd h dX9_readWord_61 ?_
          refine j_top (b := nI (wt4_5_64006 + 1)) (nI_add wt4_5_64006 1) ?_
          refine jm_put (w' := [(t, .inl (.inr (9, [.ref t0, .int (nI tsz), .int tkd, .int (nI tpl), .int (nI (wt4_5_64006 + 1)), .long ((wt5_5_64006 <<< ((5 : Int32).toInt64 &&& 63)) ||| ((((chC ct tsz wt4_5_64006) - 97) + 1).toInt64)), .int tnu]))), (t0, .inl (.inl (kA 0, 1600, .inl tby)))]) h iw_X9 tyX9 tyX9_ok nmX9 0 rfl rfl 4 (by decide +kernel) tw_128 rfl rfl rfl (Nat.le_of_ble_eq_true rfl) dX9_readWord_62 rfl ?_
          refine j_goto h 5 dX9_readWord_65 (by decide) ?_
          refine jm_sub [0, 1] (w' := [(t, .inl (.inr (9, [.ref t0, .int (nI tsz), .int tkd, .int (nI tpl), .int (nI (wt4_5_64006 + 1)), .long ((wt5_5_64006 <<< ((5 : Int32).toInt64 &&& 63)) ||| ((((chC ct tsz wt4_5_64006) - 97) + 1).toInt64)), .int tnu]))), (t0, .inl (.inl (kA 0, 1600, .inl tby)))]) rfl (by decide +kernel) [0] (lv' := [(0, .ref t)]) rfl ?_
          exact ih5_64006 (wt4_5_64006 + 1) ((wt5_5_64006 <<< ((5 : Int32).toInt64 &&& 63)) ||| ((((chC ct tsz wt4_5_64006) - 97) + 1).toInt64)) (show (wt4_5_64006 + 1) ≤ tsz by first | assumption | omega) (show tpl ≤ (wt4_5_64006 + 1) by first | assumption | omega) (show rnE (ltb ct tsz) tsz tpl = rnE (ltb ct tsz) tsz (wt4_5_64006 + 1) from (i5_64006_2).trans (rn_s ltb_lt hb9)) (show (wt4_5_64006 + 1) ≤ tpl + 8 → ((wt5_5_64006 <<< ((5 : Int32).toInt64 &&& 63)) ||| ((((chC ct tsz wt4_5_64006) - 97) + 1).toInt64)) = lN (w5 ct tpl ((wt4_5_64006 + 1) - tpl)) from (fun h9 => w5_st (by omega) (by omega) i5_64006_2 hb9 (i5_64006_3 (by omega)))) (show (wt4_5_64006 + 1) ≤ 100000 by first | assumption | omega) (show tsz + 1 - (wt4_5_64006 + 1) < m5_64006 by omega)
  refine jm_sub [0, 1] (w' := [(t, .inl (.inr (9, [.ref t0, .int (nI tsz), .int tkd, .int (nI tpl), .int (nI tbh), .long 0, .int tnu]))), (t0, .inl (.inl (kA 0, 1600, .inl tby)))]) rfl (by decide +kernel) [0] (lv' := [(0, .ref t)]) rfl ?_
  exact lp5_64006 (tsz + 1 - tbh + 1) tbh 0 (show tbh ≤ tsz by first | assumption | omega) (show tpl ≤ tbh by first | assumption | omega) (show rnE (ltb ct tsz) tsz tpl = rnE (ltb ct tsz) tsz tbh from (by rw [hpb])) (show tbh ≤ tpl + 8 → 0 = lN (w5 ct tpl (tbh - tpl)) from (fun _ => by rw [hpb, Nat.sub_self]; rfl)) (show tbh ≤ 100000 by first | assumption | omega) (Nat.lt_succ_self _)
set_option maxHeartbeats 4000000 in
set_option maxRecDepth 100000 in
theorem s_X9_readNumberF (lau : Launch) (gg : va_G) (kA : Nat → ClassId) (t : Nat) (t0 : Nat) (tsz : Nat) (tkd : Int32) (tpl : Nat) (tbh : Nat) (twd : Int64) (tnu : Int32) (tby : Nat → Int32) (ct : Nat → Nat) (htsz : tsz ≤ 1600) (htpl : tpl ≤ tsz) (htbh : tbh ≤ tsz) (hct : CtC ct tsz tby) (hcb : CbOk ct tsz) (hpb : tbh = tpl) : CtV lau yX9_readNumber cX9_readNumber 2 (none) 2 0 0 gg kA [.ref t] (mflat [(t, .inl (.inr (9, [.ref t0, .int (nI tsz), .int tkd, .int (nI tpl), .int (nI tbh), .long twd, .int tnu]))), (t0, .inl (.inl (kA 0, 1600, .inl tby)))]) (S := Nat × Nat × Int32) (fun ((y_t_2, y_t_4, y_t_6) : Nat × Nat × Int32) => (tpl ≤ tsz) ∧ (y_t_4 ≤ tsz) ∧ (y_t_4 = rnE (dgb ct tsz) tsz tpl) ∧ (y_t_2 = if 4 < y_t_4 - tpl then 4 else if ltb ct tsz y_t_4 = true then 4 else 2) ∧ (y_t_2 = 2 → y_t_6 = nI (nN ct tpl (y_t_4 - tpl)))) (fun ((y_t_2, y_t_4, y_t_6) : Nat × Nat × Int32) => mflat [(t, .inl (.inr (9, [.ref t0, .int (nI tsz), .int (nI y_t_2), .int (nI tpl), .int (nI y_t_4), .long twd, .int y_t_6]))), (t0, .inl (.inl (kA 0, 1600, .inl tby)))]) := by
  refine nx_startV (by decide +kernel) (Nat.le_of_ble_eq_true rfl) ?_
  intro x hnm h hq
  have h : Ok x cX9_readNumber RX9 kA (rmC 2 0 0) 2 := h
  show J x (mflat [(t, .inl (.inr (9, [.ref t0, .int (nI tsz), .int tkd, .int (nI tpl), .int (nI tbh), .long twd, .int tnu]))), (t0, .inl (.inl (kA 0, 1600, .inl tby)))]) [(0, .ref t)] 0 0 0 []
  refine j_aload_n h 0 rfl rfl dX9_readNumber_0 ?_
  refine j_iconst (v := 0) h (by decide) dX9_readNumber_1 ?_
  refine jm_put (w' := [(t, .inl (.inr (9, [.ref t0, .int (nI tsz), .int tkd, .int (nI tpl), .int (nI tbh), .long twd, .int 0]))), (t0, .inl (.inl (kA 0, 1600, .inl tby)))]) h iw_X9 tyX9 tyX9_ok nmX9 0 rfl rfl 6 (by decide +kernel) tw_131 rfl rfl rfl (Nat.le_of_ble_eq_true rfl) dX9_readNumber_2 rfl ?_
  have lp5_64012 : ∀ (m5_64012 : Nat), ∀ (wt4_5_64012 : Nat) (wt6_5_64012 : Int32), (wt4_5_64012 ≤ tsz) → (tpl ≤ wt4_5_64012) → (rnE (dgb ct tsz) tsz tpl = rnE (dgb ct tsz) tsz wt4_5_64012) → (wt4_5_64012 ≤ tpl + 4 → wt6_5_64012 = nI (nN ct tpl (wt4_5_64012 - tpl))) → (wt4_5_64012 ≤ 100000) → tsz + 1 - wt4_5_64012 < m5_64012 → J x (mflat [(t, .inl (.inr (9, [.ref t0, .int (nI tsz), .int tkd, .int (nI tpl), .int (nI wt4_5_64012), .long twd, .int wt6_5_64012]))), (t0, .inl (.inl (kA 0, 1600, .inl tby)))]) [(0, .ref t)] 0 0 5 [] := by
    intro m5_64012
    induction m5_64012 with
    | zero =>
      intro wt4_5_64012 wt6_5_64012 i5_64012_0 i5_64012_1 i5_64012_2 i5_64012_3 i5_64012_4 hm5_64012
      exact absurd hm5_64012 (Nat.not_lt_zero _)
    | succ m5_64012 ih5_64012 =>
      intro wt4_5_64012 wt6_5_64012 i5_64012_0 i5_64012_1 i5_64012_2 i5_64012_3 i5_64012_4 hm5_64012
      refine j_aload_n h 0 rfl rfl dX9_readNumber_5 ?_
      refine jm_get h iw_X9 0 rfl rfl 4 (by decide +kernel) tw_128 rfl dX9_readNumber_6 ?_
      refine j_aload_n h 0 rfl rfl dX9_readNumber_9 ?_
      refine jm_get h iw_X9 0 rfl rfl 1 (by decide +kernel) tw_122 rfl dX9_readNumber_10 ?_
      refine j_icmp_ge h 66 dX9_readNumber_13 (by decide) (fun z640230 => ?_) (fun z640230 => ?_)
      · have z640230n : tsz ≤ wt4_5_64012 := (nI_leI (a := tsz) (b := wt4_5_64012) (by omega) (by omega)).mp z640230
        have hx9 : dgb ct tsz wt4_5_64012 = false := dgb_f.mpr (fun z9 => absurd z9.1 (by omega))
        have hn9 : wt4_5_64012 = rnE (dgb ct tsz) tsz tpl := ((i5_64012_2).trans (rn_e hx9)).symm
        refine j_aload_n h 0 rfl rfl dX9_readNumber_66 ?_
        refine jm_get h iw_X9 0 rfl rfl 4 (by decide +kernel) tw_128 rfl dX9_readNumber_67 ?_
        refine j_aload_n h 0 rfl rfl dX9_readNumber_70 ?_
        refine jm_get h iw_X9 0 rfl rfl 3 (by decide +kernel) tw_126 rfl dX9_readNumber_71 ?_
        refine j_isub h dX9_readNumber_74 ?_
        refine j_top (b := nI (wt4_5_64012 - tpl)) (pk_sub (a := wt4_5_64012) (b := tpl) (by omega)) ?_
        refine j_iconst (v := 4) h (by decide) dX9_readNumber_75 ?_
        refine j_icmp_le h 83 dX9_readNumber_76 (by decide) (fun z640231 => ?_) (fun z640231 => ?_)
        · have z640231n : (wt4_5_64012 - tpl) ≤ 4 := (nI_leI (a := (wt4_5_64012 - tpl)) (b := 4) (by omega) (by omega)).mp z640231
          refine j_iconst (v := 0) h (by decide) dX9_readNumber_83 ?_
          refine j_istore_n (lv' := [(1, .int 0), (0, .ref t)]) h dX9_readNumber_84 rfl (by decide) rfl ?_
          refine j_aload_n h 1 rfl rfl dX9_readNumber_85 ?_
          refine j_iload_n h 0 rfl rfl dX9_readNumber_86 ?_
          refine j_if_ne h 104 dX9_readNumber_87 (by decide) (fun q => absurd (by decide) q) (fun _ => ?_)
          refine j_aload_n h 1 rfl rfl dX9_readNumber_90 ?_
          refine j_aload_n h 1 rfl rfl dX9_readNumber_91 ?_
          refine jm_get h iw_X9 0 rfl rfl 4 (by decide +kernel) tw_128 rfl dX9_readNumber_92 ?_
          refine jm_callVi (np := 1) (isC := [0, 1]) (isR := []) (wc := [(t, .inl (.inr (9, [.ref t0, .int (nI tsz), .int tkd, .int (nI tpl), .int (nI wt4_5_64012), .long twd, .int wt6_5_64012]))), (t0, .inl (.inl (kA 0, 1600, .inl tby)))]) (wr := []) (rest := [.ref t]) (As := [.int (nI wt4_5_64012)]) (q0 := 0) h (s_X9_byteAtF _ _ kA t wt4_5_64012 t0 tsz tkd (nI tpl) (nI wt4_5_64012) twd wt6_5_64012 tby ct (show tsz ≤ 1600 by first | assumption | omega) (show wt4_5_64012 ≤ 4000 by first | assumption | omega) (show CtC ct tsz tby by first | assumption | omega)) tw_569 tw_571 tw_0 tw_88 tw_572 (by decide +kernel) rfl ⟨Nat.le_of_ble_eq_true rfl, Nat.le_of_ble_eq_true rfl⟩ rfl rfl (by decide +kernel) rfl rfl (by decide +kernel) (by decide +kernel) (Nat.le_of_ble_eq_true rfl) rfl ⟨Nat.le_of_ble_eq_true rfl, Nat.le_of_ble_eq_true rfl⟩ dX9_readNumber_95 ?_
          rintro r640233 _ e640232
          have p640234 := e640232
          subst p640234
          show J x (mflat [(t, .inl (.inr (9, [.ref t0, .int (nI tsz), .int tkd, .int (nI tpl), .int (nI wt4_5_64012), .long twd, .int wt6_5_64012]))), (t0, .inl (.inl (kA 0, 1600, .inl tby)))]) [(1, .int 0), (0, .ref t)] 0 0 98 [.int (chC ct tsz wt4_5_64012), .ref t]
          refine jm_callSi (np := 1) (isC := []) (isR := [0, 1]) (wc := []) (wr := [(t, .inl (.inr (9, [.ref t0, .int (nI tsz), .int tkd, .int (nI tpl), .int (nI wt4_5_64012), .long twd, .int wt6_5_64012]))), (t0, .inl (.inl (kA 0, 1600, .inl tby)))]) (rest := [.ref t]) (As := [.int (chC ct tsz wt4_5_64012)]) h (s_X9_isLetterF _ _ kA (chC ct tsz wt4_5_64012) ) tw_576 tw_577 tw_88 tw_578 (by decide +kernel) rfl ⟨Nat.le_of_ble_eq_true rfl, Nat.le_of_ble_eq_true rfl⟩ (by decide +kernel) rfl rfl (by decide +kernel) (by decide +kernel) (Nat.le_of_ble_eq_true rfl) rfl ⟨Nat.le_of_ble_eq_true rfl, Nat.le_of_ble_eq_true rfl⟩ dX9_readNumber_98 ?_
          rintro r640236 _ e640235
          have p640237 := e640235
          subst p640237
          show J x (mflat [(t, .inl (.inr (9, [.ref t0, .int (nI tsz), .int tkd, .int (nI tpl), .int (nI wt4_5_64012), .long twd, .int wt6_5_64012]))), (t0, .inl (.inl (kA 0, 1600, .inl tby)))]) [(1, .int 0), (0, .ref t)] 0 0 101 [.int (isLet (chC ct tsz wt4_5_64012)), .ref t]
          refine j_if_eq h 108 dX9_readNumber_101 (by decide) (fun z640238 => ?_) (fun z640238 => ?_)
          · show J x (mflat [(t, .inl (.inr (9, [.ref t0, .int (nI tsz), .int tkd, .int (nI tpl), .int (nI wt4_5_64012), .long twd, .int wt6_5_64012]))), (t0, .inl (.inl (kA 0, 1600, .inl tby)))]) [(1, .int 0), (0, .ref t)] 0 0 108 [.ref t]
            refine j_iconst (v := 2) h (by decide) dX9_readNumber_108 ?_
            refine jm_put (w' := [(t, .inl (.inr (9, [.ref t0, .int (nI tsz), .int 2, .int (nI tpl), .int (nI wt4_5_64012), .long twd, .int wt6_5_64012]))), (t0, .inl (.inl (kA 0, 1600, .inl tby)))]) h iw_X9 tyX9 tyX9_ok nmX9 0 rfl rfl 2 (by decide +kernel) tw_125 rfl rfl rfl (Nat.le_of_ble_eq_true rfl) dX9_readNumber_109 rfl ?_
            exact jm_vret h hq dX9_readNumber_112 (2, wt4_5_64012, wt6_5_64012) [0, 1] rfl (by decide) ⟨(show tpl ≤ tsz by first | assumption | omega), (show wt4_5_64012 ≤ tsz by first | assumption | omega), (show wt4_5_64012 = rnE (dgb ct tsz) tsz tpl from hn9), (show 2 = if 4 < wt4_5_64012 - tpl then 4 else if ltb ct tsz wt4_5_64012 = true then 4 else 2 from ((if_neg (by omega)).trans (if_neg (by rw [cc_l0 z640238 hcb]; decide))).symm), (show 2 = 2 → wt6_5_64012 = nI (nN ct tpl (wt4_5_64012 - tpl)) from (fun _ => i5_64012_3 (by omega)))⟩ (Nat.le_of_ble_eq_true rfl) (Nat.le_of_ble_eq_true rfl)
          · show J x (mflat [(t, .inl (.inr (9, [.ref t0, .int (nI tsz), .int tkd, .int (nI tpl), .int (nI wt4_5_64012), .long twd, .int wt6_5_64012]))), (t0, .inl (.inl (kA 0, 1600, .inl tby)))]) [(1, .int 0), (0, .ref t)] 0 0 104 [.ref t]
            refine j_iconst (v := 4) h (by decide) dX9_readNumber_104 ?_
            refine j_goto h 109 dX9_readNumber_105 (by decide) ?_
            refine jm_put (w' := [(t, .inl (.inr (9, [.ref t0, .int (nI tsz), .int 4, .int (nI tpl), .int (nI wt4_5_64012), .long twd, .int wt6_5_64012]))), (t0, .inl (.inl (kA 0, 1600, .inl tby)))]) h iw_X9 tyX9 tyX9_ok nmX9 0 rfl rfl 2 (by decide +kernel) tw_125 rfl rfl rfl (Nat.le_of_ble_eq_true rfl) dX9_readNumber_109 rfl ?_
            exact jm_vret h hq dX9_readNumber_112 (4, wt4_5_64012, wt6_5_64012) [0, 1] rfl (by decide) ⟨(show tpl ≤ tsz by first | assumption | omega), (show wt4_5_64012 ≤ tsz by first | assumption | omega), (show wt4_5_64012 = rnE (dgb ct tsz) tsz tpl from hn9), (show 4 = if 4 < wt4_5_64012 - tpl then 4 else if ltb ct tsz wt4_5_64012 = true then 4 else 2 from ((if_neg (by omega)).trans (if_pos (cc_l1 z640238 hcb))).symm), (show 4 = 2 → wt6_5_64012 = nI (nN ct tpl (wt4_5_64012 - tpl)) from fun h9 => absurd h9 (by decide))⟩ (Nat.le_of_ble_eq_true rfl) (Nat.le_of_ble_eq_true rfl)
        · have z640231n : ¬ (wt4_5_64012 - tpl) ≤ 4 := fun q9 => z640231 ((nI_leI (a := (wt4_5_64012 - tpl)) (b := 4) (by omega) (by omega)).mpr q9)
          refine j_iconst (v := 1) h (by decide) dX9_readNumber_79 ?_
          refine j_goto h 84 dX9_readNumber_80 (by decide) ?_
          refine j_istore_n (lv' := [(1, .int 1), (0, .ref t)]) h dX9_readNumber_84 rfl (by decide) rfl ?_
          refine j_aload_n h 1 rfl rfl dX9_readNumber_85 ?_
          refine j_iload_n h 0 rfl rfl dX9_readNumber_86 ?_
          refine j_if_ne h 104 dX9_readNumber_87 (by decide) (fun _ => ?_) (fun q => absurd q (by decide))
          refine j_iconst (v := 4) h (by decide) dX9_readNumber_104 ?_
          refine j_goto h 109 dX9_readNumber_105 (by decide) ?_
          refine jm_put (w' := [(t, .inl (.inr (9, [.ref t0, .int (nI tsz), .int 4, .int (nI tpl), .int (nI wt4_5_64012), .long twd, .int wt6_5_64012]))), (t0, .inl (.inl (kA 0, 1600, .inl tby)))]) h iw_X9 tyX9 tyX9_ok nmX9 0 rfl rfl 2 (by decide +kernel) tw_125 rfl rfl rfl (Nat.le_of_ble_eq_true rfl) dX9_readNumber_109 rfl ?_
          exact jm_vret h hq dX9_readNumber_112 (4, wt4_5_64012, wt6_5_64012) [0, 1] rfl (by decide) ⟨(show tpl ≤ tsz by first | assumption | omega), (show wt4_5_64012 ≤ tsz by first | assumption | omega), (show wt4_5_64012 = rnE (dgb ct tsz) tsz tpl from hn9), (show 4 = if 4 < wt4_5_64012 - tpl then 4 else if ltb ct tsz wt4_5_64012 = true then 4 else 2 from (if_pos (by omega)).symm), (show 4 = 2 → wt6_5_64012 = nI (nN ct tpl (wt4_5_64012 - tpl)) from fun h9 => absurd h9 (by decide))⟩ (Nat.le_of_ble_eq_true rfl) (Nat.le_of_ble_eq_true rfl)
      · have z640230n : ¬ tsz ≤ wt4_5_64012 := fun q9 => z640230 ((nI_leI (a := tsz) (b := wt4_5_64012) (by omega) (by omega)).mpr q9)
        refine j_aload_n h 0 rfl rfl dX9_readNumber_16 ?_
        refine j_aload_n h 0 rfl rfl dX9_readNumber_17 ?_
        refine jm_get h iw_X9 0 rfl rfl 4 (by decide +kernel) tw_128 rfl dX9_readNumber_18 ?_
        refine jm_callVi (np := 1) (isC := [0, 1]) (isR := []) (wc := [(t, .inl (.inr (9, [.ref t0, .int (nI tsz), .int tkd, .int (nI tpl), .int (nI wt4_5_64012), .long twd, .int wt6_5_64012]))), (t0, .inl (.inl (kA 0, 1600, .inl tby)))]) (wr := []) (rest := []) (As := [.int (nI wt4_5_64012)]) (q0 := 0) h (s_X9_byteAtF _ _ kA t wt4_5_64012 t0 tsz tkd (nI tpl) (nI wt4_5_64012) twd wt6_5_64012 tby ct (show tsz ≤ 1600 by first | assumption | omega) (show wt4_5_64012 ≤ 4000 by first | assumption | omega) (show CtC ct tsz tby by first | assumption | omega)) tw_569 tw_571 tw_0 tw_88 tw_572 (by decide +kernel) rfl ⟨Nat.le_of_ble_eq_true rfl, Nat.le_of_ble_eq_true rfl⟩ rfl rfl (by decide +kernel) rfl rfl (by decide +kernel) (by decide +kernel) (Nat.le_of_ble_eq_true rfl) rfl ⟨Nat.le_of_ble_eq_true rfl, Nat.le_of_ble_eq_true rfl⟩ dX9_readNumber_21 ?_
        rintro r640240 _ e640239
        have p640241 := e640239
        subst p640241
        show J x (mflat [(t, .inl (.inr (9, [.ref t0, .int (nI tsz), .int tkd, .int (nI tpl), .int (nI wt4_5_64012), .long twd, .int wt6_5_64012]))), (t0, .inl (.inl (kA 0, 1600, .inl tby)))]) [(0, .ref t)] 0 0 24 [.int (chC ct tsz wt4_5_64012)]
        refine jm_callSi (np := 1) (isC := []) (isR := [0, 1]) (wc := []) (wr := [(t, .inl (.inr (9, [.ref t0, .int (nI tsz), .int tkd, .int (nI tpl), .int (nI wt4_5_64012), .long twd, .int wt6_5_64012]))), (t0, .inl (.inl (kA 0, 1600, .inl tby)))]) (rest := []) (As := [.int (chC ct tsz wt4_5_64012)]) h (s_X9_isDigitF _ _ kA (chC ct tsz wt4_5_64012) ) tw_583 tw_584 tw_88 tw_585 (by decide +kernel) rfl ⟨Nat.le_of_ble_eq_true rfl, Nat.le_of_ble_eq_true rfl⟩ (by decide +kernel) rfl rfl (by decide +kernel) (by decide +kernel) (Nat.le_of_ble_eq_true rfl) rfl ⟨Nat.le_of_ble_eq_true rfl, Nat.le_of_ble_eq_true rfl⟩ dX9_readNumber_24 ?_
        rintro r640243 _ e640242
        have p640244 := e640242
        subst p640244
        show J x (mflat [(t, .inl (.inr (9, [.ref t0, .int (nI tsz), .int tkd, .int (nI tpl), .int (nI wt4_5_64012), .long twd, .int wt6_5_64012]))), (t0, .inl (.inl (kA 0, 1600, .inl tby)))]) [(0, .ref t)] 0 0 27 [.int (isDig (chC ct tsz wt4_5_64012))]
        refine j_if_eq h 66 dX9_readNumber_27 (by decide) (fun z640245 => ?_) (fun z640245 => ?_)
        · show J x (mflat [(t, .inl (.inr (9, [.ref t0, .int (nI tsz), .int tkd, .int (nI tpl), .int (nI wt4_5_64012), .long twd, .int wt6_5_64012]))), (t0, .inl (.inl (kA 0, 1600, .inl tby)))]) [(0, .ref t)] 0 0 66 []
          have hx9 : dgb ct tsz wt4_5_64012 = false := cc_d0 z640245 hcb
          have hn9 : wt4_5_64012 = rnE (dgb ct tsz) tsz tpl := ((i5_64012_2).trans (rn_e hx9)).symm
          refine j_aload_n h 0 rfl rfl dX9_readNumber_66 ?_
          refine jm_get h iw_X9 0 rfl rfl 4 (by decide +kernel) tw_128 rfl dX9_readNumber_67 ?_
          refine j_aload_n h 0 rfl rfl dX9_readNumber_70 ?_
          refine jm_get h iw_X9 0 rfl rfl 3 (by decide +kernel) tw_126 rfl dX9_readNumber_71 ?_
          refine j_isub h dX9_readNumber_74 ?_
          refine j_top (b := nI (wt4_5_64012 - tpl)) (pk_sub (a := wt4_5_64012) (b := tpl) (by omega)) ?_
          refine j_iconst (v := 4) h (by decide) dX9_readNumber_75 ?_
          refine j_icmp_le h 83 dX9_readNumber_76 (by decide) (fun z640246 => ?_) (fun z640246 => ?_)
          · have z640246n : (wt4_5_64012 - tpl) ≤ 4 := (nI_leI (a := (wt4_5_64012 - tpl)) (b := 4) (by omega) (by omega)).mp z640246
            refine j_iconst (v := 0) h (by decide) dX9_readNumber_83 ?_
            refine j_istore_n (lv' := [(1, .int 0), (0, .ref t)]) h dX9_readNumber_84 rfl (by decide) rfl ?_
            refine j_aload_n h 1 rfl rfl dX9_readNumber_85 ?_
            refine j_iload_n h 0 rfl rfl dX9_readNumber_86 ?_
            refine j_if_ne h 104 dX9_readNumber_87 (by decide) (fun q => absurd (by decide) q) (fun _ => ?_)
            refine j_aload_n h 1 rfl rfl dX9_readNumber_90 ?_
            refine j_aload_n h 1 rfl rfl dX9_readNumber_91 ?_
            refine jm_get h iw_X9 0 rfl rfl 4 (by decide +kernel) tw_128 rfl dX9_readNumber_92 ?_
            refine jm_callVi (np := 1) (isC := [0, 1]) (isR := []) (wc := [(t, .inl (.inr (9, [.ref t0, .int (nI tsz), .int tkd, .int (nI tpl), .int (nI wt4_5_64012), .long twd, .int wt6_5_64012]))), (t0, .inl (.inl (kA 0, 1600, .inl tby)))]) (wr := []) (rest := [.ref t]) (As := [.int (nI wt4_5_64012)]) (q0 := 0) h (s_X9_byteAtF _ _ kA t wt4_5_64012 t0 tsz tkd (nI tpl) (nI wt4_5_64012) twd wt6_5_64012 tby ct (show tsz ≤ 1600 by first | assumption | omega) (show wt4_5_64012 ≤ 4000 by first | assumption | omega) (show CtC ct tsz tby by first | assumption | omega)) tw_569 tw_571 tw_0 tw_88 tw_572 (by decide +kernel) rfl ⟨Nat.le_of_ble_eq_true rfl, Nat.le_of_ble_eq_true rfl⟩ rfl rfl (by decide +kernel) rfl rfl (by decide +kernel) (by decide +kernel) (Nat.le_of_ble_eq_true rfl) rfl ⟨Nat.le_of_ble_eq_true rfl, Nat.le_of_ble_eq_true rfl⟩ dX9_readNumber_95 ?_
            rintro r640248 _ e640247
            have p640249 := e640247
            subst p640249
            show J x (mflat [(t, .inl (.inr (9, [.ref t0, .int (nI tsz), .int tkd, .int (nI tpl), .int (nI wt4_5_64012), .long twd, .int wt6_5_64012]))), (t0, .inl (.inl (kA 0, 1600, .inl tby)))]) [(1, .int 0), (0, .ref t)] 0 0 98 [.int (chC ct tsz wt4_5_64012), .ref t]
            refine jm_callSi (np := 1) (isC := []) (isR := [0, 1]) (wc := []) (wr := [(t, .inl (.inr (9, [.ref t0, .int (nI tsz), .int tkd, .int (nI tpl), .int (nI wt4_5_64012), .long twd, .int wt6_5_64012]))), (t0, .inl (.inl (kA 0, 1600, .inl tby)))]) (rest := [.ref t]) (As := [.int (chC ct tsz wt4_5_64012)]) h (s_X9_isLetterF _ _ kA (chC ct tsz wt4_5_64012) ) tw_576 tw_577 tw_88 tw_578 (by decide +kernel) rfl ⟨Nat.le_of_ble_eq_true rfl, Nat.le_of_ble_eq_true rfl⟩ (by decide +kernel) rfl rfl (by decide +kernel) (by decide +kernel) (Nat.le_of_ble_eq_true rfl) rfl ⟨Nat.le_of_ble_eq_true rfl, Nat.le_of_ble_eq_true rfl⟩ dX9_readNumber_98 ?_
            rintro r640251 _ e640250
            have p640252 := e640250
            subst p640252
            show J x (mflat [(t, .inl (.inr (9, [.ref t0, .int (nI tsz), .int tkd, .int (nI tpl), .int (nI wt4_5_64012), .long twd, .int wt6_5_64012]))), (t0, .inl (.inl (kA 0, 1600, .inl tby)))]) [(1, .int 0), (0, .ref t)] 0 0 101 [.int (isLet (chC ct tsz wt4_5_64012)), .ref t]
            refine j_if_eq h 108 dX9_readNumber_101 (by decide) (fun z640253 => ?_) (fun z640253 => ?_)
            · show J x (mflat [(t, .inl (.inr (9, [.ref t0, .int (nI tsz), .int tkd, .int (nI tpl), .int (nI wt4_5_64012), .long twd, .int wt6_5_64012]))), (t0, .inl (.inl (kA 0, 1600, .inl tby)))]) [(1, .int 0), (0, .ref t)] 0 0 108 [.ref t]
              refine j_iconst (v := 2) h (by decide) dX9_readNumber_108 ?_
              refine jm_put (w' := [(t, .inl (.inr (9, [.ref t0, .int (nI tsz), .int 2, .int (nI tpl), .int (nI wt4_5_64012), .long twd, .int wt6_5_64012]))), (t0, .inl (.inl (kA 0, 1600, .inl tby)))]) h iw_X9 tyX9 tyX9_ok nmX9 0 rfl rfl 2 (by decide +kernel) tw_125 rfl rfl rfl (Nat.le_of_ble_eq_true rfl) dX9_readNumber_109 rfl ?_
              exact jm_vret h hq dX9_readNumber_112 (2, wt4_5_64012, wt6_5_64012) [0, 1] rfl (by decide) ⟨(show tpl ≤ tsz by first | assumption | omega), (show wt4_5_64012 ≤ tsz by first | assumption | omega), (show wt4_5_64012 = rnE (dgb ct tsz) tsz tpl from hn9), (show 2 = if 4 < wt4_5_64012 - tpl then 4 else if ltb ct tsz wt4_5_64012 = true then 4 else 2 from ((if_neg (by omega)).trans (if_neg (by rw [cc_l0 z640253 hcb]; decide))).symm), (show 2 = 2 → wt6_5_64012 = nI (nN ct tpl (wt4_5_64012 - tpl)) from (fun _ => i5_64012_3 (by omega)))⟩ (Nat.le_of_ble_eq_true rfl) (Nat.le_of_ble_eq_true rfl)
            · show J x (mflat [(t, .inl (.inr (9, [.ref t0, .int (nI tsz), .int tkd, .int (nI tpl), .int (nI wt4_5_64012), .long twd, .int wt6_5_64012]))), (t0, .inl (.inl (kA 0, 1600, .inl tby)))]) [(1, .int 0), (0, .ref t)] 0 0 104 [.ref t]
              refine j_iconst (v := 4) h (by decide) dX9_readNumber_104 ?_
              refine j_goto h 109 dX9_readNumber_105 (by decide) ?_
              refine jm_put (w' := [(t, .inl (.inr (9, [.ref t0, .int (nI tsz), .int 4, .int (nI tpl), .int (nI wt4_5_64012), .long twd, .int wt6_5_64012]))), (t0, .inl (.inl (kA 0, 1600, .inl tby)))]) h iw_X9 tyX9 tyX9_ok nmX9 0 rfl rfl 2 (by decide +kernel) tw_125 rfl rfl rfl (Nat.le_of_ble_eq_true rfl) dX9_readNumber_109 rfl ?_
              exact jm_vret h hq dX9_readNumber_112 (4, wt4_5_64012, wt6_5_64012) [0, 1] rfl (by decide) ⟨(show tpl ≤ tsz by first | assumption | omega), (show wt4_5_64012 ≤ tsz by first | assumption | omega), (show wt4_5_64012 = rnE (dgb ct tsz) tsz tpl from hn9), (show 4 = if 4 < wt4_5_64012 - tpl then 4 else if ltb ct tsz wt4_5_64012 = true then 4 else 2 from ((if_neg (by omega)).trans (if_pos (cc_l1 z640253 hcb))).symm), (show 4 = 2 → wt6_5_64012 = nI (nN ct tpl (wt4_5_64012 - tpl)) from fun h9 => absurd h9 (by decide))⟩ (Nat.le_of_ble_eq_true rfl) (Nat.le_of_ble_eq_true rfl)
          · have z640246n : ¬ (wt4_5_64012 - tpl) ≤ 4 := fun q9 => z640246 ((nI_leI (a := (wt4_5_64012 - tpl)) (b := 4) (by omega) (by omega)).mpr q9)
            refine j_iconst (v := 1) h (by decide) dX9_readNumber_79 ?_
            refine j_goto h 84 dX9_readNumber_80 (by decide) ?_
            refine j_istore_n (lv' := [(1, .int 1), (0, .ref t)]) h dX9_readNumber_84 rfl (by decide) rfl ?_
            refine j_aload_n h 1 rfl rfl dX9_readNumber_85 ?_
            refine j_iload_n h 0 rfl rfl dX9_readNumber_86 ?_
            refine j_if_ne h 104 dX9_readNumber_87 (by decide) (fun _ => ?_) (fun q => absurd q (by decide))
            refine j_iconst (v := 4) h (by decide) dX9_readNumber_104 ?_
            refine j_goto h 109 dX9_readNumber_105 (by decide) ?_
            refine jm_put (w' := [(t, .inl (.inr (9, [.ref t0, .int (nI tsz), .int 4, .int (nI tpl), .int (nI wt4_5_64012), .long twd, .int wt6_5_64012]))), (t0, .inl (.inl (kA 0, 1600, .inl tby)))]) h iw_X9 tyX9 tyX9_ok nmX9 0 rfl rfl 2 (by decide +kernel) tw_125 rfl rfl rfl (Nat.le_of_ble_eq_true rfl) dX9_readNumber_109 rfl ?_
            exact jm_vret h hq dX9_readNumber_112 (4, wt4_5_64012, wt6_5_64012) [0, 1] rfl (by decide) ⟨(show tpl ≤ tsz by first | assumption | omega), (show wt4_5_64012 ≤ tsz by first | assumption | omega), (show wt4_5_64012 = rnE (dgb ct tsz) tsz tpl from hn9), (show 4 = if 4 < wt4_5_64012 - tpl then 4 else if ltb ct tsz wt4_5_64012 = true then 4 else 2 from (if_pos (by omega)).symm), (show 4 = 2 → wt6_5_64012 = nI (nN ct tpl (wt4_5_64012 - tpl)) from fun h9 => absurd h9 (by decide))⟩ (Nat.le_of_ble_eq_true rfl) (Nat.le_of_ble_eq_true rfl)
        · have hb9 := cc_d1 z640245 hcb
          have hb8 := dgb_lt _ hb9
          refine j_aload_n h 0 rfl rfl dX9_readNumber_30 ?_
          refine j_aload_n h 0 rfl rfl dX9_readNumber_31 ?_
          refine jm_get h iw_X9 0 rfl rfl 6 (by decide +kernel) tw_131 rfl dX9_readNumber_32 ?_
          refine j_bipush (v := 10) h (by decide) dX9_readNumber_35 ?_
          refine j_imul h dX9_readNumber_37 ?_
          refine j_aload_n h 0 rfl rfl dX9_readNumber_38 ?_
          refine j_aload_n h 0 rfl rfl dX9_readNumber_39 ?_
          refine jm_get h iw_X9 0 rfl rfl 4 (by decide +kernel) tw_128 rfl dX9_readNumber_40 ?_
          refine jm_callVi (np := 1) (isC := [0, 1]) (isR := []) (wc := [(t, .inl (.inr (9, [.ref t0, .int (nI tsz), .int tkd, .int (nI tpl), .int (nI wt4_5_64012), .long twd, .int wt6_5_64012]))), (t0, .inl (.inl (kA 0, 1600, .inl tby)))]) (wr := []) (rest := [.int (wt6_5_64012 * 10), .ref t]) (As := [.int (nI wt4_5_64012)]) (q0 := 0) h (s_X9_byteAtF _ _ kA t wt4_5_64012 t0 tsz tkd (nI tpl) (nI wt4_5_64012) twd wt6_5_64012 tby ct (show tsz ≤ 1600 by first | assumption | omega) (show wt4_5_64012 ≤ 4000 by first | assumption | omega) (show CtC ct tsz tby by first | assumption | omega)) tw_569 tw_571 tw_0 tw_88 tw_572 (by decide +kernel) rfl ⟨Nat.le_of_ble_eq_true rfl, Nat.le_of_ble_eq_true rfl⟩ rfl rfl (by decide +kernel) rfl rfl (by decide +kernel) (by decide +kernel) (Nat.le_of_ble_eq_true rfl) rfl ⟨Nat.le_of_ble_eq_true rfl, Nat.le_of_ble_eq_true rfl⟩ dX9_readNumber_43 ?_
          rintro r640255 _ e640254
          have p640256 := e640254
          subst p640256
          show J x (mflat [(t, .inl (.inr (9, [.ref t0, .int (nI tsz), .int tkd, .int (nI tpl), .int (nI wt4_5_64012), .long twd, .int wt6_5_64012]))), (t0, .inl (.inl (kA 0, 1600, .inl tby)))]) [(0, .ref t)] 0 0 46 [.int (chC ct tsz wt4_5_64012), .int (wt6_5_64012 * 10), .ref t]
          refine j_iadd h dX9_readNumber_46 ?_
          refine j_bipush (v := 48) h (by decide) dX9_readNumber_47 ?_
          refine j_isub h dX9_readNumber_49 ?_
          refine jm_put (w' := [(t, .inl (.inr (9, [.ref t0, .int (nI tsz), .int tkd, .int (nI tpl), .int (nI wt4_5_64012), .long twd, .int (((wt6_5_64012 * 10) + (chC ct tsz wt4_5_64012)) - 48)]))), (t0, .inl (.inl (kA 0, 1600, .inl tby)))]) h iw_X9 tyX9 tyX9_ok nmX9 0 rfl rfl 6 (by decide +kernel) tw_131 rfl rfl rfl (Nat.le_of_ble_eq_true rfl) dX9_readNumber_50 rfl ?_
          refine j_aload_n h 0 rfl rfl dX9_readNumber_53 ?_
          refine j_dup h rfl dX9_readNumber_54 ?_
          refine jm_get h iw_X9 0 rfl rfl 4 (by decide +kernel) tw_128 rfl dX9_readNumber_55 ?_
          refine j_iconst (v := 1) h (by decide) dX9_readNumber_58 ?_
          refine j_iadd h dX9_readNumber_59 ?_
          refine j_top (b := nI (wt4_5_64012 + 1)) (nI_add wt4_5_64012 1) ?_
          refine jm_put (w' := [(t, .inl (.inr (9, [.ref t0, .int (nI tsz), .int tkd, .int (nI tpl), .int (nI (wt4_5_64012 + 1)), .long twd, .int (((wt6_5_64012 * 10) + (chC ct tsz wt4_5_64012)) - 48)]))), (t0, .inl (.inl (kA 0, 1600, .inl tby)))]) h iw_X9 tyX9 tyX9_ok nmX9 0 rfl rfl 4 (by decide +kernel) tw_128 rfl rfl rfl (Nat.le_of_ble_eq_true rfl) dX9_readNumber_60 rfl ?_
          refine j_goto h 5 dX9_readNumber_63 (by decide) ?_
          refine jm_sub [0, 1] (w' := [(t, .inl (.inr (9, [.ref t0, .int (nI tsz), .int tkd, .int (nI tpl), .int (nI (wt4_5_64012 + 1)), .long twd, .int (((wt6_5_64012 * 10) + (chC ct tsz wt4_5_64012)) - 48)]))), (t0, .inl (.inl (kA 0, 1600, .inl tby)))]) rfl (by decide +kernel) [0] (lv' := [(0, .ref t)]) rfl ?_
          exact ih5_64012 (wt4_5_64012 + 1) (((wt6_5_64012 * 10) + (chC ct tsz wt4_5_64012)) - 48) (show (wt4_5_64012 + 1) ≤ tsz by first | assumption | omega) (show tpl ≤ (wt4_5_64012 + 1) by first | assumption | omega) (show rnE (dgb ct tsz) tsz tpl = rnE (dgb ct tsz) tsz (wt4_5_64012 + 1) from (i5_64012_2).trans (rn_s dgb_lt hb9)) (show (wt4_5_64012 + 1) ≤ tpl + 4 → (((wt6_5_64012 * 10) + (chC ct tsz wt4_5_64012)) - 48) = nI (nN ct tpl ((wt4_5_64012 + 1) - tpl)) from (fun h9 => n5_st hcb (by omega) (by omega) hb9 (i5_64012_3 (by omega)))) (show (wt4_5_64012 + 1) ≤ 100000 by first | assumption | omega) (show tsz + 1 - (wt4_5_64012 + 1) < m5_64012 by omega)
  refine jm_sub [0, 1] (w' := [(t, .inl (.inr (9, [.ref t0, .int (nI tsz), .int tkd, .int (nI tpl), .int (nI tbh), .long twd, .int 0]))), (t0, .inl (.inl (kA 0, 1600, .inl tby)))]) rfl (by decide +kernel) [0] (lv' := [(0, .ref t)]) rfl ?_
  exact lp5_64012 (tsz + 1 - tbh + 1) tbh 0 (show tbh ≤ tsz by first | assumption | omega) (show tpl ≤ tbh by first | assumption | omega) (show rnE (dgb ct tsz) tsz tpl = rnE (dgb ct tsz) tsz tbh from (by rw [hpb])) (show tbh ≤ tpl + 4 → 0 = nI (nN ct tpl (tbh - tpl)) from (fun _ => by rw [hpb, Nat.sub_self]; rfl)) (show tbh ≤ 100000 by first | assumption | omega) (Nat.lt_succ_self _)
set_option maxHeartbeats 4000000 in
set_option maxRecDepth 100000 in
theorem s_X9_readNextF (lau : Launch) (gg : va_G) (kA : Nat → ClassId) (t : Nat) (t0 : Nat) (tsz : Nat) (tkd : Int32) (tpl : Int32) (tbh : Nat) (twd : Int64) (tnu : Int32) (tby : Nat → Int32) (ct : Nat → Nat) (htsz : tsz ≤ 1600) (htbh : tbh ≤ tsz) (hct : CtC ct tsz tby) (hcb : CbOk ct tsz) : CtV lau yX9_readNext cX9_readNext 2 (none) 3 0 0 gg kA [.ref t] (mflat [(t, .inl (.inr (9, [.ref t0, .int (nI tsz), .int tkd, .int tpl, .int (nI tbh), .long twd, .int tnu]))), (t0, .inl (.inl (kA 0, 1600, .inl tby)))]) (S := Nat × Nat × Nat × Int64 × Int32) (fun ((y_t_2, y_t_3, y_t_4, y_t_5, y_t_6) : Nat × Nat × Nat × Int64 × Int32) => (y_t_3 ≤ tsz) ∧ (y_t_4 ≤ tsz) ∧ (TokC ct tsz tbh y_t_2 y_t_3 y_t_4 y_t_6 y_t_5)) (fun ((y_t_2, y_t_3, y_t_4, y_t_5, y_t_6) : Nat × Nat × Nat × Int64 × Int32) => mflat [(t, .inl (.inr (9, [.ref t0, .int (nI tsz), .int (nI y_t_2), .int (nI y_t_3), .int (nI y_t_4), .long y_t_5, .int y_t_6]))), (t0, .inl (.inl (kA 0, 1600, .inl tby)))]) := by
  refine nx_startV (by decide +kernel) (Nat.le_of_ble_eq_true rfl) ?_
  intro x hnm h hq
  have h : Ok x cX9_readNext RX9 kA (rmC 3 0 0) 2 := h
  show J x (mflat [(t, .inl (.inr (9, [.ref t0, .int (nI tsz), .int tkd, .int tpl, .int (nI tbh), .long twd, .int tnu]))), (t0, .inl (.inl (kA 0, 1600, .inl tby)))]) [(0, .ref t)] 0 0 0 []
  refine j_aload_n h 0 rfl rfl dX9_readNext_0 ?_
  refine j_aload_n h 0 rfl rfl dX9_readNext_1 ?_
  refine jm_get h iw_X9 0 rfl rfl 4 (by decide +kernel) tw_128 rfl dX9_readNext_2 ?_
  refine jm_put (w' := [(t, .inl (.inr (9, [.ref t0, .int (nI tsz), .int tkd, .int (nI tbh), .int (nI tbh), .long twd, .int tnu]))), (t0, .inl (.inl (kA 0, 1600, .inl tby)))]) h iw_X9 tyX9 tyX9_ok nmX9 0 rfl rfl 3 (by decide +kernel) tw_126 rfl rfl rfl (Nat.le_of_ble_eq_true rfl) dX9_readNext_5 rfl ?_
  have lp8_64018 : ∀ (m8_64018 : Nat), ∀ (wt3_8_64018 : Nat), (wt3_8_64018 ≤ tsz) → (tbh ≤ wt3_8_64018) → (tP ct tsz tbh = tP ct tsz wt3_8_64018) → (wt3_8_64018 ≤ 100000) → tsz + 1 - wt3_8_64018 < m8_64018 → J x (mflat [(t, .inl (.inr (9, [.ref t0, .int (nI tsz), .int tkd, .int (nI wt3_8_64018), .int (nI tbh), .long twd, .int tnu]))), (t0, .inl (.inl (kA 0, 1600, .inl tby)))]) [(0, .ref t)] 0 0 8 [] := by
    intro m8_64018
    induction m8_64018 with
    | zero =>
      intro wt3_8_64018 i8_64018_0 i8_64018_1 i8_64018_2 i8_64018_3 hm8_64018
      exact absurd hm8_64018 (Nat.not_lt_zero _)
    | succ m8_64018 ih8_64018 =>
      intro wt3_8_64018 i8_64018_0 i8_64018_1 i8_64018_2 i8_64018_3 hm8_64018
      refine j_aload_n h 0 rfl rfl dX9_readNext_8 ?_
      refine jm_get h iw_X9 0 rfl rfl 3 (by decide +kernel) tw_126 rfl dX9_readNext_9 ?_
      refine j_aload_n h 0 rfl rfl dX9_readNext_12 ?_
      refine jm_get h iw_X9 0 rfl rfl 1 (by decide +kernel) tw_122 rfl dX9_readNext_13 ?_
      refine j_icmp_ge h 46 dX9_readNext_16 (by decide) (fun z640627 => ?_) (fun z640627 => ?_)
      · have z640627n : tsz ≤ wt3_8_64018 := (nI_leI (a := tsz) (b := wt3_8_64018) (by omega) (by omega)).mp z640627
        have hp9 : tP ct tsz tbh = wt3_8_64018 := (i8_64018_2).trans (tP_e (blb_f.mpr (fun z9 => absurd z9.1 (by omega))))
        refine j_aload_n h 0 rfl rfl dX9_readNext_46 ?_
        refine j_aload_n h 0 rfl rfl dX9_readNext_47 ?_
        refine jm_get h iw_X9 0 rfl rfl 3 (by decide +kernel) tw_126 rfl dX9_readNext_48 ?_
        refine jm_put (w' := [(t, .inl (.inr (9, [.ref t0, .int (nI tsz), .int tkd, .int (nI wt3_8_64018), .int (nI wt3_8_64018), .long twd, .int tnu]))), (t0, .inl (.inl (kA 0, 1600, .inl tby)))]) h iw_X9 tyX9 tyX9_ok nmX9 0 rfl rfl 4 (by decide +kernel) tw_128 rfl rfl rfl (Nat.le_of_ble_eq_true rfl) dX9_readNext_51 rfl ?_
        refine j_aload_n h 0 rfl rfl dX9_readNext_54 ?_
        refine j_aload_n h 0 rfl rfl dX9_readNext_55 ?_
        refine jm_get h iw_X9 0 rfl rfl 3 (by decide +kernel) tw_126 rfl dX9_readNext_56 ?_
        refine jm_callVi (np := 1) (isC := [0, 1]) (isR := []) (wc := [(t, .inl (.inr (9, [.ref t0, .int (nI tsz), .int tkd, .int (nI wt3_8_64018), .int (nI wt3_8_64018), .long twd, .int tnu]))), (t0, .inl (.inl (kA 0, 1600, .inl tby)))]) (wr := []) (rest := []) (As := [.int (nI wt3_8_64018)]) (q0 := 0) h (s_X9_byteAtF _ _ kA t wt3_8_64018 t0 tsz tkd (nI wt3_8_64018) (nI wt3_8_64018) twd tnu tby ct (show tsz ≤ 1600 by first | assumption | omega) (show wt3_8_64018 ≤ 4000 by first | assumption | omega) (show CtC ct tsz tby by first | assumption | omega)) tw_569 tw_571 tw_0 tw_88 tw_572 (by decide +kernel) rfl ⟨Nat.le_of_ble_eq_true rfl, Nat.le_of_ble_eq_true rfl⟩ rfl rfl (by decide +kernel) rfl rfl (by decide +kernel) (by decide +kernel) (Nat.le_of_ble_eq_true rfl) rfl ⟨Nat.le_of_ble_eq_true rfl, Nat.le_of_ble_eq_true rfl⟩ dX9_readNext_59 ?_
        rintro r640629 _ e640628
        have p640630 := e640628
        subst p640630
        show J x (mflat [(t, .inl (.inr (9, [.ref t0, .int (nI tsz), .int tkd, .int (nI wt3_8_64018), .int (nI wt3_8_64018), .long twd, .int tnu]))), (t0, .inl (.inl (kA 0, 1600, .inl tby)))]) [(0, .ref t)] 0 0 62 [.int (chC ct tsz wt3_8_64018)]
        refine j_istore_n (lv' := [(1, .int (chC ct tsz wt3_8_64018)), (0, .ref t)]) h dX9_readNext_62 rfl (by decide) rfl ?_
        refine j_aload_n h 1 rfl rfl dX9_readNext_63 ?_
        refine jm_get h iw_X9 0 rfl rfl 3 (by decide +kernel) tw_126 rfl dX9_readNext_64 ?_
        refine j_aload_n h 1 rfl rfl dX9_readNext_67 ?_
        refine jm_get h iw_X9 0 rfl rfl 1 (by decide +kernel) tw_122 rfl dX9_readNext_68 ?_
        refine j_icmp_lt h 82 dX9_readNext_71 (by decide) (fun z640631 => ?_) (fun z640631 => ?_)
        · have z640631n : wt3_8_64018 < tsz := (nI_ltI (a := wt3_8_64018) (b := tsz) (by omega) (by omega)).mp z640631
          refine j_iload_n h 0 rfl rfl dX9_readNext_82 ?_
          refine j_bipush (v := 59) h (by decide) dX9_readNext_83 ?_
          refine j_icmp_ne h 106 dX9_readNext_85 (by decide) (fun z640632 => ?_) (fun z640632 => ?_)
          · show J x (mflat [(t, .inl (.inr (9, [.ref t0, .int (nI tsz), .int tkd, .int (nI wt3_8_64018), .int (nI wt3_8_64018), .long twd, .int tnu]))), (t0, .inl (.inl (kA 0, 1600, .inl tby)))]) [(1, .int (chC ct tsz wt3_8_64018)), (0, .ref t)] 0 0 106 []
            refine j_iload_n h 0 rfl rfl dX9_readNext_106 ?_
            refine jm_callSi (np := 1) (isC := []) (isR := [0, 1]) (wc := []) (wr := [(t, .inl (.inr (9, [.ref t0, .int (nI tsz), .int tkd, .int (nI wt3_8_64018), .int (nI wt3_8_64018), .long twd, .int tnu]))), (t0, .inl (.inl (kA 0, 1600, .inl tby)))]) (rest := []) (As := [.int (chC ct tsz wt3_8_64018)]) h (s_X9_isLetterF _ _ kA (chC ct tsz wt3_8_64018) ) tw_576 tw_577 tw_88 tw_578 (by decide +kernel) rfl ⟨Nat.le_of_ble_eq_true rfl, Nat.le_of_ble_eq_true rfl⟩ (by decide +kernel) rfl rfl (by decide +kernel) (by decide +kernel) (Nat.le_of_ble_eq_true rfl) rfl ⟨Nat.le_of_ble_eq_true rfl, Nat.le_of_ble_eq_true rfl⟩ dX9_readNext_107 ?_
            rintro r640634 _ e640633
            have p640635 := e640633
            subst p640635
            show J x (mflat [(t, .inl (.inr (9, [.ref t0, .int (nI tsz), .int tkd, .int (nI wt3_8_64018), .int (nI wt3_8_64018), .long twd, .int tnu]))), (t0, .inl (.inl (kA 0, 1600, .inl tby)))]) [(1, .int (chC ct tsz wt3_8_64018)), (0, .ref t)] 0 0 110 [.int (isLet (chC ct tsz wt3_8_64018))]
            refine j_if_eq h 120 dX9_readNext_110 (by decide) (fun z640636 => ?_) (fun z640636 => ?_)
            · have hl9 := cc_l0 z640636 hcb
              refine j_iload_n h 0 rfl rfl dX9_readNext_120 ?_
              refine jm_callSi (np := 1) (isC := []) (isR := [0, 1]) (wc := []) (wr := [(t, .inl (.inr (9, [.ref t0, .int (nI tsz), .int tkd, .int (nI wt3_8_64018), .int (nI wt3_8_64018), .long twd, .int tnu]))), (t0, .inl (.inl (kA 0, 1600, .inl tby)))]) (rest := []) (As := [.int (chC ct tsz wt3_8_64018)]) h (s_X9_isDigitF _ _ kA (chC ct tsz wt3_8_64018) ) tw_583 tw_584 tw_88 tw_585 (by decide +kernel) rfl ⟨Nat.le_of_ble_eq_true rfl, Nat.le_of_ble_eq_true rfl⟩ (by decide +kernel) rfl rfl (by decide +kernel) (by decide +kernel) (Nat.le_of_ble_eq_true rfl) rfl ⟨Nat.le_of_ble_eq_true rfl, Nat.le_of_ble_eq_true rfl⟩ dX9_readNext_121 ?_
              rintro r640638 _ e640637
              have p640639 := e640637
              subst p640639
              show J x (mflat [(t, .inl (.inr (9, [.ref t0, .int (nI tsz), .int tkd, .int (nI wt3_8_64018), .int (nI wt3_8_64018), .long twd, .int tnu]))), (t0, .inl (.inl (kA 0, 1600, .inl tby)))]) [(1, .int (chC ct tsz wt3_8_64018)), (0, .ref t)] 0 0 124 [.int (isDig (chC ct tsz wt3_8_64018))]
              refine j_if_eq h 134 dX9_readNext_124 (by decide) (fun z640640 => ?_) (fun z640640 => ?_)
              · show J x (mflat [(t, .inl (.inr (9, [.ref t0, .int (nI tsz), .int tkd, .int (nI wt3_8_64018), .int (nI wt3_8_64018), .long twd, .int tnu]))), (t0, .inl (.inl (kA 0, 1600, .inl tby)))]) [(1, .int (chC ct tsz wt3_8_64018)), (0, .ref t)] 0 0 134 []
                refine j_aload_n h 1 rfl rfl dX9_readNext_134 ?_
                refine j_iconst (v := 4) h (by decide) dX9_readNext_135 ?_
                refine jm_put (w' := [(t, .inl (.inr (9, [.ref t0, .int (nI tsz), .int 4, .int (nI wt3_8_64018), .int (nI wt3_8_64018), .long twd, .int tnu]))), (t0, .inl (.inl (kA 0, 1600, .inl tby)))]) h iw_X9 tyX9 tyX9_ok nmX9 0 rfl rfl 2 (by decide +kernel) tw_125 rfl rfl rfl (Nat.le_of_ble_eq_true rfl) dX9_readNext_136 rfl ?_
                exact jm_vret h hq dX9_readNext_139 (4, wt3_8_64018, wt3_8_64018, twd, tnu) [0, 1] rfl (by decide) ⟨(show wt3_8_64018 ≤ tsz by first | assumption | omega), (show wt3_8_64018 ≤ tsz by first | assumption | omega), (show TokC ct tsz tbh 4 wt3_8_64018 wt3_8_64018 tnu twd from tokC_b hp9 (by omega) hl9 (cc_d0 z640640 hcb) (fun e9 => z640632 (by rw [cc_in (by omega), e9]; decide)))⟩ (Nat.le_of_ble_eq_true rfl) (Nat.le_of_ble_eq_true rfl)
              · have hd9 := cc_d1 z640640 hcb
                refine j_aload_n h 1 rfl rfl dX9_readNext_127 ?_
                refine jm_callVv (np := 0) (isC := [0, 1]) (isR := []) (wc := [(t, .inl (.inr (9, [.ref t0, .int (nI tsz), .int tkd, .int (nI wt3_8_64018), .int (nI wt3_8_64018), .long twd, .int tnu]))), (t0, .inl (.inl (kA 0, 1600, .inl tby)))]) (wr := []) (rest := []) (As := []) (q0 := 0) h (s_X9_readNumberF _ _ kA t t0 tsz tkd wt3_8_64018 wt3_8_64018 twd tnu tby ct (show tsz ≤ 1600 by first | assumption | omega) (show wt3_8_64018 ≤ tsz by first | assumption | omega) (show wt3_8_64018 ≤ tsz by first | assumption | omega) (show CtC ct tsz tby by first | assumption | omega) (show CbOk ct tsz by first | assumption | omega) (show wt3_8_64018 = wt3_8_64018 by first | assumption | omega)) tw_586 tw_588 tw_2 tw_88 tw_589 (by decide +kernel) rfl ⟨Nat.le_of_ble_eq_true rfl, Nat.le_of_ble_eq_true rfl⟩ rfl rfl (by decide +kernel) rfl rfl (by decide +kernel) (by decide +kernel) (Nat.le_of_ble_eq_true rfl) rfl ⟨Nat.le_of_ble_eq_true rfl, Nat.le_of_ble_eq_true rfl⟩ dX9_readNext_128 ?_
                rintro ⟨q640641, q640642, q640643⟩ e640644
                obtain ⟨p640646, p640647, p640648, p640649, p640650⟩ := e640644
                replace p640646 : wt3_8_64018 ≤ tsz := p640646
                replace p640647 : q640642 ≤ tsz := p640647
                replace p640648 : q640642 = rnE (dgb ct tsz) tsz wt3_8_64018 := p640648
                replace p640649 : q640641 = if 4 < q640642 - wt3_8_64018 then 4 else if ltb ct tsz q640642 = true then 4 else 2 := p640649
                replace p640650 : q640641 = 2 → q640643 = nI (nN ct wt3_8_64018 (q640642 - wt3_8_64018)) := p640650
                show J x (mflat [(t, .inl (.inr (9, [.ref t0, .int (nI tsz), .int (nI q640641), .int (nI wt3_8_64018), .int (nI q640642), .long twd, .int q640643]))), (t0, .inl (.inl (kA 0, 1600, .inl tby)))]) [(1, .int (chC ct tsz wt3_8_64018)), (0, .ref t)] 0 0 131 []
                refine j_goto h 139 dX9_readNext_131 (by decide) ?_
                exact jm_vret h hq dX9_readNext_139 (q640641, wt3_8_64018, q640642, twd, q640643) [0, 1] rfl (by decide) ⟨(show wt3_8_64018 ≤ tsz by first | assumption | omega), (show q640642 ≤ tsz by first | assumption | omega), (show TokC ct tsz tbh q640641 wt3_8_64018 q640642 q640643 twd from tokC_n hp9 (by omega) hl9 hd9 p640648 p640649 p640650)⟩ (Nat.le_of_ble_eq_true rfl) (Nat.le_of_ble_eq_true rfl)
            · have hl9 := cc_l1 z640636 hcb
              refine j_aload_n h 1 rfl rfl dX9_readNext_113 ?_
              refine jm_callVv (np := 0) (isC := [0, 1]) (isR := []) (wc := [(t, .inl (.inr (9, [.ref t0, .int (nI tsz), .int tkd, .int (nI wt3_8_64018), .int (nI wt3_8_64018), .long twd, .int tnu]))), (t0, .inl (.inl (kA 0, 1600, .inl tby)))]) (wr := []) (rest := []) (As := []) (q0 := 0) h (s_X9_readWordF _ _ kA t t0 tsz tkd wt3_8_64018 wt3_8_64018 twd tnu tby ct (show tsz ≤ 1600 by first | assumption | omega) (show wt3_8_64018 ≤ tsz by first | assumption | omega) (show wt3_8_64018 ≤ tsz by first | assumption | omega) (show CtC ct tsz tby by first | assumption | omega) (show CbOk ct tsz by first | assumption | omega) (show wt3_8_64018 = wt3_8_64018 by first | assumption | omega)) tw_579 tw_581 tw_1 tw_88 tw_582 (by decide +kernel) rfl ⟨Nat.le_of_ble_eq_true rfl, Nat.le_of_ble_eq_true rfl⟩ rfl rfl (by decide +kernel) rfl rfl (by decide +kernel) (by decide +kernel) (Nat.le_of_ble_eq_true rfl) rfl ⟨Nat.le_of_ble_eq_true rfl, Nat.le_of_ble_eq_true rfl⟩ dX9_readNext_114 ?_
              rintro ⟨q640651, q640652, q640653⟩ e640654
              obtain ⟨p640656, p640657, p640658, p640659, p640660⟩ := e640654
              replace p640656 : wt3_8_64018 ≤ tsz := p640656
              replace p640657 : q640652 ≤ tsz := p640657
              replace p640658 : q640652 = rnE (ltb ct tsz) tsz wt3_8_64018 := p640658
              replace p640659 : q640651 = if 8 < q640652 - wt3_8_64018 then 4 else 1 := p640659
              replace p640660 : q640651 = 1 → q640653 = lN (w5 ct wt3_8_64018 (q640652 - wt3_8_64018)) := p640660
              show J x (mflat [(t, .inl (.inr (9, [.ref t0, .int (nI tsz), .int (nI q640651), .int (nI wt3_8_64018), .int (nI q640652), .long q640653, .int tnu]))), (t0, .inl (.inl (kA 0, 1600, .inl tby)))]) [(1, .int (chC ct tsz wt3_8_64018)), (0, .ref t)] 0 0 117 []
              refine j_goto h 139 dX9_readNext_117 (by decide) ?_
              exact jm_vret h hq dX9_readNext_139 (q640651, wt3_8_64018, q640652, q640653, tnu) [0, 1] rfl (by decide) ⟨(show wt3_8_64018 ≤ tsz by first | assumption | omega), (show q640652 ≤ tsz by first | assumption | omega), (show TokC ct tsz tbh q640651 wt3_8_64018 q640652 tnu q640653 from tokC_w hp9 hl9 p640658 p640659 p640660)⟩ (Nat.le_of_ble_eq_true rfl) (Nat.le_of_ble_eq_true rfl)
          · show J x (mflat [(t, .inl (.inr (9, [.ref t0, .int (nI tsz), .int tkd, .int (nI wt3_8_64018), .int (nI wt3_8_64018), .long twd, .int tnu]))), (t0, .inl (.inl (kA 0, 1600, .inl tby)))]) [(1, .int (chC ct tsz wt3_8_64018)), (0, .ref t)] 0 0 88 []
            refine j_aload_n h 1 rfl rfl dX9_readNext_88 ?_
            refine j_iconst (v := 3) h (by decide) dX9_readNext_89 ?_
            refine jm_put (w' := [(t, .inl (.inr (9, [.ref t0, .int (nI tsz), .int 3, .int (nI wt3_8_64018), .int (nI wt3_8_64018), .long twd, .int tnu]))), (t0, .inl (.inl (kA 0, 1600, .inl tby)))]) h iw_X9 tyX9 tyX9_ok nmX9 0 rfl rfl 2 (by decide +kernel) tw_125 rfl rfl rfl (Nat.le_of_ble_eq_true rfl) dX9_readNext_90 rfl ?_
            refine j_aload_n h 1 rfl rfl dX9_readNext_93 ?_
            refine j_aload_n h 1 rfl rfl dX9_readNext_94 ?_
            refine jm_get h iw_X9 0 rfl rfl 3 (by decide +kernel) tw_126 rfl dX9_readNext_95 ?_
            refine j_iconst (v := 1) h (by decide) dX9_readNext_98 ?_
            refine j_iadd h dX9_readNext_99 ?_
            refine j_top (b := nI (wt3_8_64018 + 1)) (nI_add wt3_8_64018 1) ?_
            refine jm_put (w' := [(t, .inl (.inr (9, [.ref t0, .int (nI tsz), .int 3, .int (nI wt3_8_64018), .int (nI (wt3_8_64018 + 1)), .long twd, .int tnu]))), (t0, .inl (.inl (kA 0, 1600, .inl tby)))]) h iw_X9 tyX9 tyX9_ok nmX9 0 rfl rfl 4 (by decide +kernel) tw_128 rfl rfl rfl (Nat.le_of_ble_eq_true rfl) dX9_readNext_100 rfl ?_
            refine j_goto h 139 dX9_readNext_103 (by decide) ?_
            exact jm_vret h hq dX9_readNext_139 (3, wt3_8_64018, (wt3_8_64018 + 1), twd, tnu) [0, 1] rfl (by decide) ⟨(show wt3_8_64018 ≤ tsz by first | assumption | omega), (show (wt3_8_64018 + 1) ≤ tsz by first | assumption | omega), (show TokC ct tsz tbh 3 wt3_8_64018 (wt3_8_64018 + 1) tnu twd from tokC_s hp9 (by omega) (cc_59 z640632 (by omega) hcb))⟩ (Nat.le_of_ble_eq_true rfl) (Nat.le_of_ble_eq_true rfl)
        · have z640631n : ¬ wt3_8_64018 < tsz := fun q9 => z640631 ((nI_ltI (a := wt3_8_64018) (b := tsz) (by omega) (by omega)).mpr q9)
          refine j_aload_n h 1 rfl rfl dX9_readNext_74 ?_
          refine j_iconst (v := 0) h (by decide) dX9_readNext_75 ?_
          refine jm_put (w' := [(t, .inl (.inr (9, [.ref t0, .int (nI tsz), .int 0, .int (nI wt3_8_64018), .int (nI wt3_8_64018), .long twd, .int tnu]))), (t0, .inl (.inl (kA 0, 1600, .inl tby)))]) h iw_X9 tyX9 tyX9_ok nmX9 0 rfl rfl 2 (by decide +kernel) tw_125 rfl rfl rfl (Nat.le_of_ble_eq_true rfl) dX9_readNext_76 rfl ?_
          refine j_goto h 139 dX9_readNext_79 (by decide) ?_
          exact jm_vret h hq dX9_readNext_139 (0, wt3_8_64018, wt3_8_64018, twd, tnu) [0, 1] rfl (by decide) ⟨(show wt3_8_64018 ≤ tsz by first | assumption | omega), (show wt3_8_64018 ≤ tsz by first | assumption | omega), (show TokC ct tsz tbh 0 wt3_8_64018 wt3_8_64018 tnu twd from tokC_end hp9 (by omega))⟩ (Nat.le_of_ble_eq_true rfl) (Nat.le_of_ble_eq_true rfl)
      · have z640627n : ¬ tsz ≤ wt3_8_64018 := fun q9 => z640627 ((nI_leI (a := tsz) (b := wt3_8_64018) (by omega) (by omega)).mpr q9)
        refine j_aload_n h 0 rfl rfl dX9_readNext_19 ?_
        refine j_aload_n h 0 rfl rfl dX9_readNext_20 ?_
        refine jm_get h iw_X9 0 rfl rfl 3 (by decide +kernel) tw_126 rfl dX9_readNext_21 ?_
        refine jm_callVi (np := 1) (isC := [0, 1]) (isR := []) (wc := [(t, .inl (.inr (9, [.ref t0, .int (nI tsz), .int tkd, .int (nI wt3_8_64018), .int (nI tbh), .long twd, .int tnu]))), (t0, .inl (.inl (kA 0, 1600, .inl tby)))]) (wr := []) (rest := []) (As := [.int (nI wt3_8_64018)]) (q0 := 0) h (s_X9_byteAtF _ _ kA t wt3_8_64018 t0 tsz tkd (nI wt3_8_64018) (nI tbh) twd tnu tby ct (show tsz ≤ 1600 by first | assumption | omega) (show wt3_8_64018 ≤ 4000 by first | assumption | omega) (show CtC ct tsz tby by first | assumption | omega)) tw_569 tw_571 tw_0 tw_88 tw_572 (by decide +kernel) rfl ⟨Nat.le_of_ble_eq_true rfl, Nat.le_of_ble_eq_true rfl⟩ rfl rfl (by decide +kernel) rfl rfl (by decide +kernel) (by decide +kernel) (Nat.le_of_ble_eq_true rfl) rfl ⟨Nat.le_of_ble_eq_true rfl, Nat.le_of_ble_eq_true rfl⟩ dX9_readNext_24 ?_
        rintro r640662 _ e640661
        have p640663 := e640661
        subst p640663
        show J x (mflat [(t, .inl (.inr (9, [.ref t0, .int (nI tsz), .int tkd, .int (nI wt3_8_64018), .int (nI tbh), .long twd, .int tnu]))), (t0, .inl (.inl (kA 0, 1600, .inl tby)))]) [(0, .ref t)] 0 0 27 [.int (chC ct tsz wt3_8_64018)]
        refine jm_callSi (np := 1) (isC := []) (isR := [0, 1]) (wc := []) (wr := [(t, .inl (.inr (9, [.ref t0, .int (nI tsz), .int tkd, .int (nI wt3_8_64018), .int (nI tbh), .long twd, .int tnu]))), (t0, .inl (.inl (kA 0, 1600, .inl tby)))]) (rest := []) (As := [.int (chC ct tsz wt3_8_64018)]) h (s_X9_isBlankF _ _ kA (chC ct tsz wt3_8_64018) ) tw_573 tw_574 tw_88 tw_575 (by decide +kernel) rfl ⟨Nat.le_of_ble_eq_true rfl, Nat.le_of_ble_eq_true rfl⟩ (by decide +kernel) rfl rfl (by decide +kernel) (by decide +kernel) (Nat.le_of_ble_eq_true rfl) rfl ⟨Nat.le_of_ble_eq_true rfl, Nat.le_of_ble_eq_true rfl⟩ dX9_readNext_27 ?_
        rintro r640665 _ e640664
        have p640666 := e640664
        subst p640666
        show J x (mflat [(t, .inl (.inr (9, [.ref t0, .int (nI tsz), .int tkd, .int (nI wt3_8_64018), .int (nI tbh), .long twd, .int tnu]))), (t0, .inl (.inl (kA 0, 1600, .inl tby)))]) [(0, .ref t)] 0 0 30 [.int (blC (chC ct tsz wt3_8_64018))]
        refine j_if_eq h 46 dX9_readNext_30 (by decide) (fun z640667 => ?_) (fun z640667 => ?_)
        · show J x (mflat [(t, .inl (.inr (9, [.ref t0, .int (nI tsz), .int tkd, .int (nI wt3_8_64018), .int (nI tbh), .long twd, .int tnu]))), (t0, .inl (.inl (kA 0, 1600, .inl tby)))]) [(0, .ref t)] 0 0 46 []
          have hp9 : tP ct tsz tbh = wt3_8_64018 := (i8_64018_2).trans (tP_e (cc_b0 z640667 hcb))
          refine j_aload_n h 0 rfl rfl dX9_readNext_46 ?_
          refine j_aload_n h 0 rfl rfl dX9_readNext_47 ?_
          refine jm_get h iw_X9 0 rfl rfl 3 (by decide +kernel) tw_126 rfl dX9_readNext_48 ?_
          refine jm_put (w' := [(t, .inl (.inr (9, [.ref t0, .int (nI tsz), .int tkd, .int (nI wt3_8_64018), .int (nI wt3_8_64018), .long twd, .int tnu]))), (t0, .inl (.inl (kA 0, 1600, .inl tby)))]) h iw_X9 tyX9 tyX9_ok nmX9 0 rfl rfl 4 (by decide +kernel) tw_128 rfl rfl rfl (Nat.le_of_ble_eq_true rfl) dX9_readNext_51 rfl ?_
          refine j_aload_n h 0 rfl rfl dX9_readNext_54 ?_
          refine j_aload_n h 0 rfl rfl dX9_readNext_55 ?_
          refine jm_get h iw_X9 0 rfl rfl 3 (by decide +kernel) tw_126 rfl dX9_readNext_56 ?_
          refine jm_callVi (np := 1) (isC := [0, 1]) (isR := []) (wc := [(t, .inl (.inr (9, [.ref t0, .int (nI tsz), .int tkd, .int (nI wt3_8_64018), .int (nI wt3_8_64018), .long twd, .int tnu]))), (t0, .inl (.inl (kA 0, 1600, .inl tby)))]) (wr := []) (rest := []) (As := [.int (nI wt3_8_64018)]) (q0 := 0) h (s_X9_byteAtF _ _ kA t wt3_8_64018 t0 tsz tkd (nI wt3_8_64018) (nI wt3_8_64018) twd tnu tby ct (show tsz ≤ 1600 by first | assumption | omega) (show wt3_8_64018 ≤ 4000 by first | assumption | omega) (show CtC ct tsz tby by first | assumption | omega)) tw_569 tw_571 tw_0 tw_88 tw_572 (by decide +kernel) rfl ⟨Nat.le_of_ble_eq_true rfl, Nat.le_of_ble_eq_true rfl⟩ rfl rfl (by decide +kernel) rfl rfl (by decide +kernel) (by decide +kernel) (Nat.le_of_ble_eq_true rfl) rfl ⟨Nat.le_of_ble_eq_true rfl, Nat.le_of_ble_eq_true rfl⟩ dX9_readNext_59 ?_
          rintro r640669 _ e640668
          have p640670 := e640668
          subst p640670
          show J x (mflat [(t, .inl (.inr (9, [.ref t0, .int (nI tsz), .int tkd, .int (nI wt3_8_64018), .int (nI wt3_8_64018), .long twd, .int tnu]))), (t0, .inl (.inl (kA 0, 1600, .inl tby)))]) [(0, .ref t)] 0 0 62 [.int (chC ct tsz wt3_8_64018)]
          refine j_istore_n (lv' := [(1, .int (chC ct tsz wt3_8_64018)), (0, .ref t)]) h dX9_readNext_62 rfl (by decide) rfl ?_
          refine j_aload_n h 1 rfl rfl dX9_readNext_63 ?_
          refine jm_get h iw_X9 0 rfl rfl 3 (by decide +kernel) tw_126 rfl dX9_readNext_64 ?_
          refine j_aload_n h 1 rfl rfl dX9_readNext_67 ?_
          refine jm_get h iw_X9 0 rfl rfl 1 (by decide +kernel) tw_122 rfl dX9_readNext_68 ?_
          refine j_icmp_lt h 82 dX9_readNext_71 (by decide) (fun z640671 => ?_) (fun z640671 => ?_)
          · have z640671n : wt3_8_64018 < tsz := (nI_ltI (a := wt3_8_64018) (b := tsz) (by omega) (by omega)).mp z640671
            refine j_iload_n h 0 rfl rfl dX9_readNext_82 ?_
            refine j_bipush (v := 59) h (by decide) dX9_readNext_83 ?_
            refine j_icmp_ne h 106 dX9_readNext_85 (by decide) (fun z640672 => ?_) (fun z640672 => ?_)
            · show J x (mflat [(t, .inl (.inr (9, [.ref t0, .int (nI tsz), .int tkd, .int (nI wt3_8_64018), .int (nI wt3_8_64018), .long twd, .int tnu]))), (t0, .inl (.inl (kA 0, 1600, .inl tby)))]) [(1, .int (chC ct tsz wt3_8_64018)), (0, .ref t)] 0 0 106 []
              refine j_iload_n h 0 rfl rfl dX9_readNext_106 ?_
              refine jm_callSi (np := 1) (isC := []) (isR := [0, 1]) (wc := []) (wr := [(t, .inl (.inr (9, [.ref t0, .int (nI tsz), .int tkd, .int (nI wt3_8_64018), .int (nI wt3_8_64018), .long twd, .int tnu]))), (t0, .inl (.inl (kA 0, 1600, .inl tby)))]) (rest := []) (As := [.int (chC ct tsz wt3_8_64018)]) h (s_X9_isLetterF _ _ kA (chC ct tsz wt3_8_64018) ) tw_576 tw_577 tw_88 tw_578 (by decide +kernel) rfl ⟨Nat.le_of_ble_eq_true rfl, Nat.le_of_ble_eq_true rfl⟩ (by decide +kernel) rfl rfl (by decide +kernel) (by decide +kernel) (Nat.le_of_ble_eq_true rfl) rfl ⟨Nat.le_of_ble_eq_true rfl, Nat.le_of_ble_eq_true rfl⟩ dX9_readNext_107 ?_
              rintro r640674 _ e640673
              have p640675 := e640673
              subst p640675
              show J x (mflat [(t, .inl (.inr (9, [.ref t0, .int (nI tsz), .int tkd, .int (nI wt3_8_64018), .int (nI wt3_8_64018), .long twd, .int tnu]))), (t0, .inl (.inl (kA 0, 1600, .inl tby)))]) [(1, .int (chC ct tsz wt3_8_64018)), (0, .ref t)] 0 0 110 [.int (isLet (chC ct tsz wt3_8_64018))]
              refine j_if_eq h 120 dX9_readNext_110 (by decide) (fun z640676 => ?_) (fun z640676 => ?_)
              · have hl9 := cc_l0 z640676 hcb
                refine j_iload_n h 0 rfl rfl dX9_readNext_120 ?_
                refine jm_callSi (np := 1) (isC := []) (isR := [0, 1]) (wc := []) (wr := [(t, .inl (.inr (9, [.ref t0, .int (nI tsz), .int tkd, .int (nI wt3_8_64018), .int (nI wt3_8_64018), .long twd, .int tnu]))), (t0, .inl (.inl (kA 0, 1600, .inl tby)))]) (rest := []) (As := [.int (chC ct tsz wt3_8_64018)]) h (s_X9_isDigitF _ _ kA (chC ct tsz wt3_8_64018) ) tw_583 tw_584 tw_88 tw_585 (by decide +kernel) rfl ⟨Nat.le_of_ble_eq_true rfl, Nat.le_of_ble_eq_true rfl⟩ (by decide +kernel) rfl rfl (by decide +kernel) (by decide +kernel) (Nat.le_of_ble_eq_true rfl) rfl ⟨Nat.le_of_ble_eq_true rfl, Nat.le_of_ble_eq_true rfl⟩ dX9_readNext_121 ?_
                rintro r640678 _ e640677
                have p640679 := e640677
                subst p640679
                show J x (mflat [(t, .inl (.inr (9, [.ref t0, .int (nI tsz), .int tkd, .int (nI wt3_8_64018), .int (nI wt3_8_64018), .long twd, .int tnu]))), (t0, .inl (.inl (kA 0, 1600, .inl tby)))]) [(1, .int (chC ct tsz wt3_8_64018)), (0, .ref t)] 0 0 124 [.int (isDig (chC ct tsz wt3_8_64018))]
                refine j_if_eq h 134 dX9_readNext_124 (by decide) (fun z640680 => ?_) (fun z640680 => ?_)
                · show J x (mflat [(t, .inl (.inr (9, [.ref t0, .int (nI tsz), .int tkd, .int (nI wt3_8_64018), .int (nI wt3_8_64018), .long twd, .int tnu]))), (t0, .inl (.inl (kA 0, 1600, .inl tby)))]) [(1, .int (chC ct tsz wt3_8_64018)), (0, .ref t)] 0 0 134 []
                  refine j_aload_n h 1 rfl rfl dX9_readNext_134 ?_
                  refine j_iconst (v := 4) h (by decide) dX9_readNext_135 ?_
                  refine jm_put (w' := [(t, .inl (.inr (9, [.ref t0, .int (nI tsz), .int 4, .int (nI wt3_8_64018), .int (nI wt3_8_64018), .long twd, .int tnu]))), (t0, .inl (.inl (kA 0, 1600, .inl tby)))]) h iw_X9 tyX9 tyX9_ok nmX9 0 rfl rfl 2 (by decide +kernel) tw_125 rfl rfl rfl (Nat.le_of_ble_eq_true rfl) dX9_readNext_136 rfl ?_
                  exact jm_vret h hq dX9_readNext_139 (4, wt3_8_64018, wt3_8_64018, twd, tnu) [0, 1] rfl (by decide) ⟨(show wt3_8_64018 ≤ tsz by first | assumption | omega), (show wt3_8_64018 ≤ tsz by first | assumption | omega), (show TokC ct tsz tbh 4 wt3_8_64018 wt3_8_64018 tnu twd from tokC_b hp9 (by omega) hl9 (cc_d0 z640680 hcb) (fun e9 => z640672 (by rw [cc_in (by omega), e9]; decide)))⟩ (Nat.le_of_ble_eq_true rfl) (Nat.le_of_ble_eq_true rfl)
                · have hd9 := cc_d1 z640680 hcb
                  refine j_aload_n h 1 rfl rfl dX9_readNext_127 ?_
                  refine jm_callVv (np := 0) (isC := [0, 1]) (isR := []) (wc := [(t, .inl (.inr (9, [.ref t0, .int (nI tsz), .int tkd, .int (nI wt3_8_64018), .int (nI wt3_8_64018), .long twd, .int tnu]))), (t0, .inl (.inl (kA 0, 1600, .inl tby)))]) (wr := []) (rest := []) (As := []) (q0 := 0) h (s_X9_readNumberF _ _ kA t t0 tsz tkd wt3_8_64018 wt3_8_64018 twd tnu tby ct (show tsz ≤ 1600 by first | assumption | omega) (show wt3_8_64018 ≤ tsz by first | assumption | omega) (show wt3_8_64018 ≤ tsz by first | assumption | omega) (show CtC ct tsz tby by first | assumption | omega) (show CbOk ct tsz by first | assumption | omega) (show wt3_8_64018 = wt3_8_64018 by first | assumption | omega)) tw_586 tw_588 tw_2 tw_88 tw_589 (by decide +kernel) rfl ⟨Nat.le_of_ble_eq_true rfl, Nat.le_of_ble_eq_true rfl⟩ rfl rfl (by decide +kernel) rfl rfl (by decide +kernel) (by decide +kernel) (Nat.le_of_ble_eq_true rfl) rfl ⟨Nat.le_of_ble_eq_true rfl, Nat.le_of_ble_eq_true rfl⟩ dX9_readNext_128 ?_
                  rintro ⟨q640681, q640682, q640683⟩ e640684
                  obtain ⟨p640686, p640687, p640688, p640689, p640690⟩ := e640684
                  replace p640686 : wt3_8_64018 ≤ tsz := p640686
                  replace p640687 : q640682 ≤ tsz := p640687
                  replace p640688 : q640682 = rnE (dgb ct tsz) tsz wt3_8_64018 := p640688
                  replace p640689 : q640681 = if 4 < q640682 - wt3_8_64018 then 4 else if ltb ct tsz q640682 = true then 4 else 2 := p640689
                  replace p640690 : q640681 = 2 → q640683 = nI (nN ct wt3_8_64018 (q640682 - wt3_8_64018)) := p640690
                  show J x (mflat [(t, .inl (.inr (9, [.ref t0, .int (nI tsz), .int (nI q640681), .int (nI wt3_8_64018), .int (nI q640682), .long twd, .int q640683]))), (t0, .inl (.inl (kA 0, 1600, .inl tby)))]) [(1, .int (chC ct tsz wt3_8_64018)), (0, .ref t)] 0 0 131 []
                  refine j_goto h 139 dX9_readNext_131 (by decide) ?_
                  exact jm_vret h hq dX9_readNext_139 (q640681, wt3_8_64018, q640682, twd, q640683) [0, 1] rfl (by decide) ⟨(show wt3_8_64018 ≤ tsz by first | assumption | omega), (show q640682 ≤ tsz by first | assumption | omega), (show TokC ct tsz tbh q640681 wt3_8_64018 q640682 q640683 twd from tokC_n hp9 (by omega) hl9 hd9 p640688 p640689 p640690)⟩ (Nat.le_of_ble_eq_true rfl) (Nat.le_of_ble_eq_true rfl)
              · have hl9 := cc_l1 z640676 hcb
                refine j_aload_n h 1 rfl rfl dX9_readNext_113 ?_
                refine jm_callVv (np := 0) (isC := [0, 1]) (isR := []) (wc := [(t, .inl (.inr (9, [.ref t0, .int (nI tsz), .int tkd, .int (nI wt3_8_64018), .int (nI wt3_8_64018), .long twd, .int tnu]))), (t0, .inl (.inl (kA 0, 1600, .inl tby)))]) (wr := []) (rest := []) (As := []) (q0 := 0) h (s_X9_readWordF _ _ kA t t0 tsz tkd wt3_8_64018 wt3_8_64018 twd tnu tby ct (show tsz ≤ 1600 by first | assumption | omega) (show wt3_8_64018 ≤ tsz by first | assumption | omega) (show wt3_8_64018 ≤ tsz by first | assumption | omega) (show CtC ct tsz tby by first | assumption | omega) (show CbOk ct tsz by first | assumption | omega) (show wt3_8_64018 = wt3_8_64018 by first | assumption | omega)) tw_579 tw_581 tw_1 tw_88 tw_582 (by decide +kernel) rfl ⟨Nat.le_of_ble_eq_true rfl, Nat.le_of_ble_eq_true rfl⟩ rfl rfl (by decide +kernel) rfl rfl (by decide +kernel) (by decide +kernel) (Nat.le_of_ble_eq_true rfl) rfl ⟨Nat.le_of_ble_eq_true rfl, Nat.le_of_ble_eq_true rfl⟩ dX9_readNext_114 ?_
                rintro ⟨q640691, q640692, q640693⟩ e640694
                obtain ⟨p640696, p640697, p640698, p640699, p640700⟩ := e640694
                replace p640696 : wt3_8_64018 ≤ tsz := p640696
                replace p640697 : q640692 ≤ tsz := p640697
                replace p640698 : q640692 = rnE (ltb ct tsz) tsz wt3_8_64018 := p640698
                replace p640699 : q640691 = if 8 < q640692 - wt3_8_64018 then 4 else 1 := p640699
                replace p640700 : q640691 = 1 → q640693 = lN (w5 ct wt3_8_64018 (q640692 - wt3_8_64018)) := p640700
                show J x (mflat [(t, .inl (.inr (9, [.ref t0, .int (nI tsz), .int (nI q640691), .int (nI wt3_8_64018), .int (nI q640692), .long q640693, .int tnu]))), (t0, .inl (.inl (kA 0, 1600, .inl tby)))]) [(1, .int (chC ct tsz wt3_8_64018)), (0, .ref t)] 0 0 117 []
                refine j_goto h 139 dX9_readNext_117 (by decide) ?_
                exact jm_vret h hq dX9_readNext_139 (q640691, wt3_8_64018, q640692, q640693, tnu) [0, 1] rfl (by decide) ⟨(show wt3_8_64018 ≤ tsz by first | assumption | omega), (show q640692 ≤ tsz by first | assumption | omega), (show TokC ct tsz tbh q640691 wt3_8_64018 q640692 tnu q640693 from tokC_w hp9 hl9 p640698 p640699 p640700)⟩ (Nat.le_of_ble_eq_true rfl) (Nat.le_of_ble_eq_true rfl)
            · show J x (mflat [(t, .inl (.inr (9, [.ref t0, .int (nI tsz), .int tkd, .int (nI wt3_8_64018), .int (nI wt3_8_64018), .long twd, .int tnu]))), (t0, .inl (.inl (kA 0, 1600, .inl tby)))]) [(1, .int (chC ct tsz wt3_8_64018)), (0, .ref t)] 0 0 88 []
              refine j_aload_n h 1 rfl rfl dX9_readNext_88 ?_
              refine j_iconst (v := 3) h (by decide) dX9_readNext_89 ?_
              refine jm_put (w' := [(t, .inl (.inr (9, [.ref t0, .int (nI tsz), .int 3, .int (nI wt3_8_64018), .int (nI wt3_8_64018), .long twd, .int tnu]))), (t0, .inl (.inl (kA 0, 1600, .inl tby)))]) h iw_X9 tyX9 tyX9_ok nmX9 0 rfl rfl 2 (by decide +kernel) tw_125 rfl rfl rfl (Nat.le_of_ble_eq_true rfl) dX9_readNext_90 rfl ?_
              refine j_aload_n h 1 rfl rfl dX9_readNext_93 ?_
              refine j_aload_n h 1 rfl rfl dX9_readNext_94 ?_
              refine jm_get h iw_X9 0 rfl rfl 3 (by decide +kernel) tw_126 rfl dX9_readNext_95 ?_
              refine j_iconst (v := 1) h (by decide) dX9_readNext_98 ?_
              refine j_iadd h dX9_readNext_99 ?_
              refine j_top (b := nI (wt3_8_64018 + 1)) (nI_add wt3_8_64018 1) ?_
              refine jm_put (w' := [(t, .inl (.inr (9, [.ref t0, .int (nI tsz), .int 3, .int (nI wt3_8_64018), .int (nI (wt3_8_64018 + 1)), .long twd, .int tnu]))), (t0, .inl (.inl (kA 0, 1600, .inl tby)))]) h iw_X9 tyX9 tyX9_ok nmX9 0 rfl rfl 4 (by decide +kernel) tw_128 rfl rfl rfl (Nat.le_of_ble_eq_true rfl) dX9_readNext_100 rfl ?_
              refine j_goto h 139 dX9_readNext_103 (by decide) ?_
              exact jm_vret h hq dX9_readNext_139 (3, wt3_8_64018, (wt3_8_64018 + 1), twd, tnu) [0, 1] rfl (by decide) ⟨(show wt3_8_64018 ≤ tsz by first | assumption | omega), (show (wt3_8_64018 + 1) ≤ tsz by first | assumption | omega), (show TokC ct tsz tbh 3 wt3_8_64018 (wt3_8_64018 + 1) tnu twd from tokC_s hp9 (by omega) (cc_59 z640672 (by omega) hcb))⟩ (Nat.le_of_ble_eq_true rfl) (Nat.le_of_ble_eq_true rfl)
          · have z640671n : ¬ wt3_8_64018 < tsz := fun q9 => z640671 ((nI_ltI (a := wt3_8_64018) (b := tsz) (by omega) (by omega)).mpr q9)
            refine j_aload_n h 1 rfl rfl dX9_readNext_74 ?_
            refine j_iconst (v := 0) h (by decide) dX9_readNext_75 ?_
            refine jm_put (w' := [(t, .inl (.inr (9, [.ref t0, .int (nI tsz), .int 0, .int (nI wt3_8_64018), .int (nI wt3_8_64018), .long twd, .int tnu]))), (t0, .inl (.inl (kA 0, 1600, .inl tby)))]) h iw_X9 tyX9 tyX9_ok nmX9 0 rfl rfl 2 (by decide +kernel) tw_125 rfl rfl rfl (Nat.le_of_ble_eq_true rfl) dX9_readNext_76 rfl ?_
            refine j_goto h 139 dX9_readNext_79 (by decide) ?_
            exact jm_vret h hq dX9_readNext_139 (0, wt3_8_64018, wt3_8_64018, twd, tnu) [0, 1] rfl (by decide) ⟨(show wt3_8_64018 ≤ tsz by first | assumption | omega), (show wt3_8_64018 ≤ tsz by first | assumption | omega), (show TokC ct tsz tbh 0 wt3_8_64018 wt3_8_64018 tnu twd from tokC_end hp9 (by omega))⟩ (Nat.le_of_ble_eq_true rfl) (Nat.le_of_ble_eq_true rfl)
        · have hb9 := cc_b1 z640667 hcb
          have hb8 := blb_lt _ hb9
          refine j_aload_n h 0 rfl rfl dX9_readNext_33 ?_
          refine j_dup h rfl dX9_readNext_34 ?_
          refine jm_get h iw_X9 0 rfl rfl 3 (by decide +kernel) tw_126 rfl dX9_readNext_35 ?_
          refine j_iconst (v := 1) h (by decide) dX9_readNext_38 ?_
          refine j_iadd h dX9_readNext_39 ?_
          refine j_top (b := nI (wt3_8_64018 + 1)) (nI_add wt3_8_64018 1) ?_
          refine jm_put (w' := [(t, .inl (.inr (9, [.ref t0, .int (nI tsz), .int tkd, .int (nI (wt3_8_64018 + 1)), .int (nI tbh), .long twd, .int tnu]))), (t0, .inl (.inl (kA 0, 1600, .inl tby)))]) h iw_X9 tyX9 tyX9_ok nmX9 0 rfl rfl 3 (by decide +kernel) tw_126 rfl rfl rfl (Nat.le_of_ble_eq_true rfl) dX9_readNext_40 rfl ?_
          refine j_goto h 8 dX9_readNext_43 (by decide) ?_
          refine jm_sub [0, 1] (w' := [(t, .inl (.inr (9, [.ref t0, .int (nI tsz), .int tkd, .int (nI (wt3_8_64018 + 1)), .int (nI tbh), .long twd, .int tnu]))), (t0, .inl (.inl (kA 0, 1600, .inl tby)))]) rfl (by decide +kernel) [0] (lv' := [(0, .ref t)]) rfl ?_
          exact ih8_64018 (wt3_8_64018 + 1) (show (wt3_8_64018 + 1) ≤ tsz by first | assumption | omega) (show tbh ≤ (wt3_8_64018 + 1) by first | assumption | omega) (show tP ct tsz tbh = tP ct tsz (wt3_8_64018 + 1) from (i8_64018_2).trans (tP_s hb9)) (show (wt3_8_64018 + 1) ≤ 100000 by first | assumption | omega) (show tsz + 1 - (wt3_8_64018 + 1) < m8_64018 by omega)
  refine jm_sub [0, 1] (w' := [(t, .inl (.inr (9, [.ref t0, .int (nI tsz), .int tkd, .int (nI tbh), .int (nI tbh), .long twd, .int tnu]))), (t0, .inl (.inl (kA 0, 1600, .inl tby)))]) rfl (by decide +kernel) [0] (lv' := [(0, .ref t)]) rfl ?_
  exact lp8_64018 (tsz + 1 - tbh + 1) tbh (show tbh ≤ tsz by first | assumption | omega) (show tbh ≤ tbh by first | assumption | omega) (show tP ct tsz tbh = tP ct tsz tbh from rfl) (show tbh ≤ 100000 by first | assumption | omega) (Nat.lt_succ_self _)
set_option maxHeartbeats 4000000 in
set_option maxRecDepth 100000 in
theorem s_X9_rewindF (lau : Launch) (gg : va_G) (kA : Nat → ClassId) (t : Nat) (t0 : Nat) (tsz : Nat) (tkd : Int32) (tpl : Int32) (tbh : Int32) (twd : Int64) (tnu : Int32) (tby : Nat → Int32) (ct : Nat → Nat) (htsz : tsz ≤ 1600) (hct : CtC ct tsz tby) (hcb : CbOk ct tsz) : CtV lau yX9_rewind cX9_rewind 1 (none) 4 0 0 gg kA [.ref t] (mflat [(t, .inl (.inr (9, [.ref t0, .int (nI tsz), .int tkd, .int tpl, .int tbh, .long twd, .int tnu]))), (t0, .inl (.inl (kA 0, 1600, .inl tby)))]) (S := Nat × Nat × Nat × Int64 × Int32) (fun ((y_t_2, y_t_3, y_t_4, y_t_5, y_t_6) : Nat × Nat × Nat × Int64 × Int32) => (y_t_3 ≤ tsz) ∧ (y_t_4 ≤ tsz) ∧ (TokC ct tsz 0 y_t_2 y_t_3 y_t_4 y_t_6 y_t_5)) (fun ((y_t_2, y_t_3, y_t_4, y_t_5, y_t_6) : Nat × Nat × Nat × Int64 × Int32) => mflat [(t, .inl (.inr (9, [.ref t0, .int (nI tsz), .int (nI y_t_2), .int (nI y_t_3), .int (nI y_t_4), .long y_t_5, .int y_t_6]))), (t0, .inl (.inl (kA 0, 1600, .inl tby)))]) := by
  refine nx_startV (by decide +kernel) (Nat.le_of_ble_eq_true rfl) ?_
  intro x hnm h hq
  have h : Ok x cX9_rewind RX9 kA (rmC 4 0 0) 1 := h
  show J x (mflat [(t, .inl (.inr (9, [.ref t0, .int (nI tsz), .int tkd, .int tpl, .int tbh, .long twd, .int tnu]))), (t0, .inl (.inl (kA 0, 1600, .inl tby)))]) [(0, .ref t)] 0 0 0 []
  refine j_aload_n h 0 rfl rfl dX9_rewind_0 ?_
  refine j_iconst (v := 0) h (by decide) dX9_rewind_1 ?_
  refine jm_put (w' := [(t, .inl (.inr (9, [.ref t0, .int (nI tsz), .int tkd, .int tpl, .int 0, .long twd, .int tnu]))), (t0, .inl (.inl (kA 0, 1600, .inl tby)))]) h iw_X9 tyX9 tyX9_ok nmX9 0 rfl rfl 4 (by decide +kernel) tw_128 rfl rfl rfl (Nat.le_of_ble_eq_true rfl) dX9_rewind_2 rfl ?_
  refine j_aload_n h 0 rfl rfl dX9_rewind_5 ?_
  refine jm_callVv (np := 0) (isC := [0, 1]) (isR := []) (wc := [(t, .inl (.inr (9, [.ref t0, .int (nI tsz), .int tkd, .int tpl, .int 0, .long twd, .int tnu]))), (t0, .inl (.inl (kA 0, 1600, .inl tby)))]) (wr := []) (rest := []) (As := []) (q0 := 0) h (s_X9_readNextF _ _ kA t t0 tsz tkd tpl 0 twd tnu tby ct (show tsz ≤ 1600 by first | assumption | omega) (show 0 ≤ tsz by first | assumption | omega) (show CtC ct tsz tby by first | assumption | omega) (show CbOk ct tsz by first | assumption | omega)) tw_565 tw_566 tw_567 tw_88 tw_568 (by decide +kernel) rfl ⟨Nat.le_of_ble_eq_true rfl, Nat.le_of_ble_eq_true rfl⟩ rfl rfl (by decide +kernel) rfl rfl (by decide +kernel) (by decide +kernel) (Nat.le_of_ble_eq_true rfl) rfl ⟨Nat.le_of_ble_eq_true rfl, Nat.le_of_ble_eq_true rfl⟩ dX9_rewind_6 ?_
  rintro ⟨q640711, q640712, q640713, q640714, q640715⟩ e640716
  obtain ⟨p640718, p640719, p640720⟩ := e640716
  replace p640718 : q640712 ≤ tsz := p640718
  replace p640719 : q640713 ≤ tsz := p640719
  replace p640720 : TokC ct tsz 0 q640711 q640712 q640713 q640715 q640714 := p640720
  show J x (mflat [(t, .inl (.inr (9, [.ref t0, .int (nI tsz), .int (nI q640711), .int (nI q640712), .int (nI q640713), .long q640714, .int q640715]))), (t0, .inl (.inl (kA 0, 1600, .inl tby)))]) [(0, .ref t)] 0 0 9 []
  exact jm_vret h hq dX9_rewind_9 (q640711, q640712, q640713, q640714, q640715) [0, 1] rfl (by decide) ⟨(show q640712 ≤ tsz by first | assumption | omega), (show q640713 ≤ tsz by first | assumption | omega), (show TokC ct tsz 0 q640711 q640712 q640713 q640715 q640714 by first | assumption | omega)⟩ (Nat.le_of_ble_eq_true rfl) (Nat.le_of_ble_eq_true rfl)
