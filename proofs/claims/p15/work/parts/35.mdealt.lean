def cnt (f : Nat → Int32) : Nat → Int32 → Nat
  | 0, _ => 0
  | n + 1, v => cnt f n v + (if f n = v then 1 else 0)
def SdTo (n : Nat) (f : Nat → Int32) : Prop := ∀ i, i + 1 < n → f i ≤ f (i + 1)
def SdX (a B : Nat) (f : Nat → Int32) : Prop := (∀ i, i + 1 ≤ a → i + 2 ≠ B → f i ≤ f (i + 1)) ∧ (∀ i, i + 2 = B → i + 2 ≤ a → f i ≤ f (i + 2))
def CtE (n : Nat) (f g : Nat → Int32) : Prop := ∀ v, cnt f n v = cnt g n v
theorem SdTo_1 (f : Nat → Int32) : SdTo 1 f := fun i h => absurd h (by omega)
theorem SdTo_mono {n m : Nat} {f : Nat → Int32} (h : SdTo n f) (hm : m ≤ n) : SdTo m f := fun i hi => h i (by omega)
theorem SdX_0 {a : Nat} {f : Nat → Int32} (h : SdTo a f) : SdX a (a + 1) f := ⟨fun i h1 h2 => h i (by omega), fun i h1 h2 => absurd h1 (by omega)⟩
theorem SdX_end0 {a B : Nat} {f : Nat → Int32} (h : SdX a B f) (hB : B ≤ 1) : SdTo (a + 1) f := fun i hi => h.1 i (by omega) (by omega)
theorem SdX_end {a j : Nat} {f : Nat → Int32} (h : SdX a (j + 1) f) (hj : 1 ≤ j) (hle : f (j - 1) ≤ f j) : SdTo (a + 1) f := fun i hi => by
  by_cases e : i + 1 = j
  · subst e
    exact hle
  · exact h.1 i (by omega) (by omega)
theorem SdX_swap {a j : Nat} {f : Nat → Int32} (h : SdX a (j + 1) f) (hj : 1 ≤ j) (hja : j ≤ a) (hgt : ¬ f (j - 1) ≤ f j) : SdX a j (upd (upd f j (f (j - 1))) (j - 1) (f j)) := by
  obtain ⟨k, rfl⟩ : ∃ k, j = k + 1 := ⟨j - 1, by omega⟩
  have hgt : ¬ f k ≤ f (k + 1) := hgt
  show SdX a (k + 1) (upd (upd f (k + 1) (f k)) k (f (k + 1)))
  have g0 : upd (upd f (k + 1) (f k)) k (f (k + 1)) k = f (k + 1) := pk_us
  have g1 : upd (upd f (k + 1) (f k)) k (f (k + 1)) (k + 1) = f k := by rw [pk_un (by omega), pk_us]
  have g2 : ∀ i, i ≠ k → i ≠ k + 1 → upd (upd f (k + 1) (f k)) k (f (k + 1)) i = f i := fun i a b => by rw [pk_un a, pk_un b]
  refine ⟨fun i h1 h2 => ?_, fun i h1 h2 => ?_⟩
  · by_cases e : i = k
    · subst e
      rw [g0, g1]
      exact Int32.le_of_lt (Int32.not_le.mp hgt)
    · by_cases e2 : i = k + 1
      · subst e2
        rw [g1, g2 _ (by omega) (by omega)]
        exact h.2 k rfl (by omega)
      · rw [g2 _ e e2, g2 _ (by omega) (by omega)]
        exact h.1 i (by omega) (by omega)
  · have e : i + 1 = k := by omega
    subst e
    rw [g2 _ (by omega) (by omega), g1]
    exact h.1 i (by omega) (by omega)
theorem cnt_congr {f g : Nat → Int32} : ∀ {n : Nat} (v : Int32), (∀ i, i < n → f i = g i) → cnt f n v = cnt g n v
  | 0, _, _ => rfl
  | n + 1, v, h => by
    show cnt f n v + (if f n = v then 1 else 0) = cnt g n v + (if g n = v then 1 else 0)
    rw [cnt_congr v (fun i hi => h i (by omega)), h n (Nat.lt_succ_self n)]
theorem cnt_swap {f : Nat → Int32} {k : Nat} (v : Int32) : ∀ {n : Nat}, k + 1 < n → cnt (upd (upd f (k + 1) (f k)) k (f (k + 1))) n v = cnt f n v
  | 0, h => absurd h (Nat.not_lt_zero _)
  | n + 1, h => by
    show cnt (upd (upd f (k + 1) (f k)) k (f (k + 1))) n v + (if upd (upd f (k + 1) (f k)) k (f (k + 1)) n = v then 1 else 0) = cnt f n v + (if f n = v then 1 else 0)
    by_cases e : k + 1 = n
    · subst e
      show cnt (upd (upd f (k + 1) (f k)) k (f (k + 1))) k v + (if upd (upd f (k + 1) (f k)) k (f (k + 1)) k = v then 1 else 0) + _ = cnt f k v + (if f k = v then 1 else 0) + _
      rw [pk_us, pk_un (show k + 1 ≠ k by omega), pk_us, cnt_congr (g := f) v (fun i hi => by rw [pk_un (by omega), pk_un (by omega)])]
      omega
    · rw [cnt_swap v (by omega), pk_un (by omega), pk_un (by omega)]
theorem CtE_rfl (n : Nat) (f : Nat → Int32) : CtE n f f := fun _ => rfl
theorem CtE_swap {n j : Nat} {f g : Nat → Int32} (h : CtE n f g) (hj : 1 ≤ j) (hn : j < n) : CtE n (upd (upd f j (f (j - 1))) (j - 1) (f j)) g := fun v => by
  obtain ⟨k, rfl⟩ : ∃ k, j = k + 1 := ⟨j - 1, by omega⟩
  show cnt (upd (upd f (k + 1) (f k)) k (f (k + 1))) n v = _
  rw [cnt_swap v (by omega)]
  exact h v
theorem cnt_pos {f : Nat → Int32} {v : Int32} : ∀ {n : Nat}, 1 ≤ cnt f n v → ∃ i, i < n ∧ f i = v
  | 0, h => absurd (show 1 ≤ 0 from h) (by decide)
  | n + 1, h => by
    by_cases e : f n = v
    · exact ⟨n, Nat.lt_succ_self n, e⟩
    · have h' : 1 ≤ cnt f n v + (if f n = v then 1 else 0) := h
      rw [if_neg e] at h'
      obtain ⟨i, a, b⟩ := cnt_pos h'
      exact ⟨i, by omega, b⟩
theorem cnt_in {f : Nat → Int32} {v : Int32} : ∀ {n i : Nat}, i < n → f i = v → 1 ≤ cnt f n v
  | 0, _, h, _ => absurd h (Nat.not_lt_zero _)
  | n + 1, i, h, e => by
    show 1 ≤ cnt f n v + (if f n = v then 1 else 0)
    by_cases q : i = n
    · subst q
      rw [if_pos e]
      omega
    · have := cnt_in (n := n) (show i < n by omega) e
      omega
theorem sd_mono {n : Nat} {f : Nat → Int32} (h : SdTo n f) {i : Nat} : ∀ {j : Nat}, i ≤ j → j < n → f i ≤ f j
  | 0, h1, _ => by
    have : i = 0 := by omega
    subst this
    exact Int32.le_refl _
  | j + 1, h1, h2 => by
    rcases (show i = j + 1 ∨ i ≤ j by omega) with rfl | q
    · exact Int32.le_refl _
    · exact Int32.le_trans (sd_mono h q (by omega)) (h j h2)
theorem sd_uniq {f g : Nat → Int32} : ∀ {n : Nat}, SdTo n f → SdTo n g → CtE n f g → ∀ i, i < n → f i = g i
  | 0, _, _, _, i, h => absurd h (Nat.not_lt_zero i)
  | n + 1, hf, hg, hc, i, hi => by
    have e : f n = g n := by
      have a : f n ≤ g n := by
        have := cnt_in (f := f) (n := n + 1) (Nat.lt_succ_self n) rfl
        rw [hc] at this
        obtain ⟨k, hk, ek⟩ := cnt_pos this
        rw [← ek]
        exact sd_mono hg (by omega) (Nat.lt_succ_self n)
      have b : g n ≤ f n := by
        have := cnt_in (f := g) (n := n + 1) (Nat.lt_succ_self n) rfl
        rw [← hc] at this
        obtain ⟨k, hk, ek⟩ := cnt_pos this
        rw [← ek]
        exact sd_mono hf (by omega) (Nat.lt_succ_self n)
      exact Int32.le_antisymm a b
    by_cases q : i = n
    · subst q
      exact e
    · refine sd_uniq (n := n) (SdTo_mono hf (by omega)) (SdTo_mono hg (by omega)) (fun v => ?_) i (by omega)
      have := hc v
      have t : cnt f n v + (if f n = v then 1 else 0) = cnt g n v + (if g n = v then 1 else 0) := this
      rw [e] at t
      omega
def rmv (f : Nat → Int32) (j i : Nat) : Int32 := if i < j then f i else f (i + 1)
theorem rmv_lt {f : Nat → Int32} {j i : Nat} (h : i < j) : rmv f j i = f i := if_pos h
theorem rmv_ge {f : Nat → Int32} {j i : Nat} (h : j ≤ i) : rmv f j i = f (i + 1) := if_neg (by omega)
theorem cnt_rmv {f : Nat → Int32} {j : Nat} (v : Int32) : ∀ {n : Nat}, j ≤ n → cnt (rmv f j) n v + (if f j = v then 1 else 0) = cnt f (n + 1) v
  | 0, h => by
    have : j = 0 := by omega
    subst this
    rfl
  | n + 1, h => by
    show cnt (rmv f j) (n + 1) v + _ = cnt f (n + 1) v + (if f (n + 1) = v then 1 else 0)
    by_cases e : j = n + 1
    · subst e
      rw [cnt_congr (g := f) v (fun i hi => rmv_lt hi)]
    · have ih := cnt_rmv v (n := n) (f := f) (j := j) (by omega)
      show cnt (rmv f j) n v + (if rmv f j n = v then 1 else 0) + _ = _
      rw [rmv_ge (show j ≤ n by omega), ← ih]
      omega
theorem SdTo_rmv {n j : Nat} {f : Nat → Int32} (h : SdTo (n + 1) f) : SdTo n (rmv f j) := fun i hi => by
  by_cases a : i + 1 < j
  · rw [rmv_lt (by omega), rmv_lt a]
    exact h i (by omega)
  · by_cases b : i < j
    · rw [rmv_lt b, rmv_ge (by omega)]
      exact Int32.le_trans (h i (by omega)) (h (i + 1) (by omega))
    · rw [rmv_ge (by omega), rmv_ge (by omega)]
      exact h (i + 1) (by omega)
def dotS (W L : Nat → Int32) (n : Nat) : Nat → Int32
  | 0 => 0
  | j + 1 => dotS W L n j + W j * L (n - 1 - j)
theorem dot_s {W L : Nat → Int32} {n j : Nat} {x : Int32} (h : x = dotS W L n j) : x + W j * L (n - 1 - j) = dotS W L n (j + 1) := by
  rw [h]
  rfl
theorem dot_congr {W L W' L' : Nat → Int32} {n : Nat} (h1 : ∀ i, i < n → W i = W' i) (h2 : ∀ i, i < n → L i = L' i) : ∀ {k : Nat}, k ≤ n → dotS W L n k = dotS W' L' n k
  | 0, _ => rfl
  | k + 1, h => by
    show dotS W L n k + W k * L (n - 1 - k) = dotS W' L' n k + W' k * L' (n - 1 - k)
    rw [dot_congr h1 h2 (by omega), h1 k (by omega), h2 _ (by omega)]
theorem dot_a {W L : Nat → Int32} {n j : Nat} (hj : j ≤ n) : ∀ {k : Nat}, k ≤ j → dotS W L (n + 1) k = dotS (rmv W j) (rmv L (n - j)) n k
  | 0, _ => rfl
  | k + 1, h => by
    show dotS W L (n + 1) k + W k * L (n + 1 - 1 - k) = dotS (rmv W j) (rmv L (n - j)) n k + rmv W j k * rmv L (n - j) (n - 1 - k)
    rw [dot_a hj (by omega), rmv_lt (by omega), rmv_ge (by omega), show n + 1 - 1 - k = n - 1 - k + 1 by omega]
theorem dot_b {W L : Nat → Int32} {n j : Nat} (hj : j ≤ n) : ∀ {k : Nat}, j ≤ k → k ≤ n → dotS W L (n + 1) (k + 1) = dotS (rmv W j) (rmv L (n - j)) n k + W j * L (n - j)
  | 0, h, _ => by
    have : j = 0 := by omega
    subst this
    rfl
  | k + 1, h, hk => by
    by_cases e : j = k + 1
    · subst e
      show dotS W L (n + 1) (k + 1) + W (k + 1) * L (n + 1 - 1 - (k + 1)) = _
      rw [dot_a hj (Nat.le_refl _), show n + 1 - 1 - (k + 1) = n - (k + 1) by omega]
    · show dotS W L (n + 1) (k + 1) + W (k + 1) * L (n + 1 - 1 - (k + 1)) = dotS (rmv W j) (rmv L (n - j)) n k + rmv W j k * rmv L (n - j) (n - 1 - k) + _
      rw [dot_b hj (show j ≤ k by omega) (by omega), rmv_ge (by omega), rmv_lt (by omega), show n + 1 - 1 - (k + 1) = n - 1 - k by omega, Int32.add_assoc, Int32.add_assoc, Int32.add_comm (W j * L (n - j))]
abbrev uB (u : Int32) (r : Nat) : Prop := (u >>> (nI r &&& 31)) &&& 1 = 1
theorem uB_iff (u : Int32) {r : Nat} (hr : r < 10) : uB u r ↔ u.toBitVec.getLsbD r = true := by
  have e1 : ∀ r, r < 10 → ((nI r &&& 31).toBitVec.smod 32).toNat = r := by decide
  have e : (u >>> (nI r &&& 31)).toBitVec = u.toBitVec.sshiftRight r := by
    have a : (u >>> (nI r &&& 31)).toBitVec = u.toBitVec.sshiftRight' ((nI r &&& 31).toBitVec.smod 32) := rfl
    rw [a, BitVec.sshiftRight_eq', e1 r hr]
  unfold uB
  rw [← Int32.toBitVec_inj, Int32.toBitVec_and, e]
  show u.toBitVec.sshiftRight r &&& 1#32 = 1#32 ↔ _
  have g : (u.toBitVec.sshiftRight r).getLsbD 0 = u.toBitVec.getLsbD r := by
    rw [BitVec.getLsbD_sshiftRight]
    simp [show r < 32 by omega]
  constructor
  · intro h
    have t := congrArg (fun x => x.getLsbD 0) h
    simp only [BitVec.getLsbD_and, g] at t
    simpa using t
  · intro h
    rw [← g] at h
    apply BitVec.eq_of_getLsbD_eq
    intro i hi
    rw [BitVec.getLsbD_and]
    by_cases q : i = 0
    · subst q
      rw [h]
      rfl
    · simp [q]
theorem uB_or (u : Int32) {r s : Nat} (hr : r < 10) (hs : s < 10) : uB (u ||| ((1 : Int32) <<< (nI r &&& 31))) s ↔ uB u s ∨ s = r := by
  have e1 : ∀ r, r < 10 → ((1 : Int32) <<< (nI r &&& 31)).toBitVec = BitVec.twoPow 32 r := by decide
  rw [uB_iff _ hs, uB_iff _ hs, Int32.toBitVec_or, e1 r hr, BitVec.getLsbD_or, BitVec.getLsbD_twoPow]
  have : s < 32 := by omega
  by_cases q : s = r
  · subst q
    simp [this]
  · simp [q, Ne.symm q]
theorem uB_0 : ∀ r, r < 10 → ¬ uB 0 r := by
  unfold uB
  decide
def nU (u : Int32) : Nat → Nat
  | 0 => 0
  | r + 1 => nU u r + (if (u >>> (nI r &&& 31)) &&& 1 = 1 then 0 else 1)
def cntU (u : Int32) (ls : Nat → Int32) : Nat → Int32 → Nat
  | 0, _ => 0
  | r + 1, v => cntU u ls r v + (if (u >>> (nI r &&& 31)) &&& 1 = 1 then 0 else if ls r = v then 1 else 0)
def CtU (f : Nat → Int32) (k : Nat) (u : Int32) (ls : Nat → Int32) (R : Nat) : Prop := ∀ v, cnt f k v = cntU u ls R v
theorem nU_s {u : Int32} {r k : Nat} (h : k = nU u r) (z : (u >>> (nI r &&& 31)) &&& 1 = 1) : k = nU u (r + 1) := by
  show k = nU u r + (if (u >>> (nI r &&& 31)) &&& 1 = 1 then 0 else 1)
  rw [if_pos z]
  exact h
theorem nU_p {u : Int32} {r k : Nat} (h : k = nU u r) (z : ¬ (u >>> (nI r &&& 31)) &&& 1 = 1) : k + 1 = nU u (r + 1) := by
  show k + 1 = nU u r + (if (u >>> (nI r &&& 31)) &&& 1 = 1 then 0 else 1)
  rw [if_neg z, h]
theorem CtU_0 (f : Nat → Int32) (u : Int32) (ls : Nat → Int32) : CtU f 0 u ls 0 := fun _ => rfl
theorem CtU_s {f : Nat → Int32} {k : Nat} {u : Int32} {ls : Nat → Int32} {r : Nat} (h : CtU f k u ls r) (z : (u >>> (nI r &&& 31)) &&& 1 = 1) : CtU f k u ls (r + 1) := fun v => by
  show cnt f k v = cntU u ls r v + (if (u >>> (nI r &&& 31)) &&& 1 = 1 then 0 else if ls r = v then 1 else 0)
  rw [if_pos z]
  exact h v
theorem CtU_p {f : Nat → Int32} {k : Nat} {u x : Int32} {ls : Nat → Int32} {r : Nat} (h : CtU f k u ls r) (z : ¬ (u >>> (nI r &&& 31)) &&& 1 = 1) (e : ls r = x) : CtU (upd f k x) (k + 1) u ls (r + 1) := fun v => by
  show cnt (upd f k x) k v + (if upd f k x k = v then 1 else 0) = cntU u ls r v + (if (u >>> (nI r &&& 31)) &&& 1 = 1 then 0 else if ls r = v then 1 else 0)
  rw [if_neg z, pk_us, e, cnt_congr (g := f) v (fun i hi => pk_un (by omega)), h v]
theorem nU_0 : ∀ {L : Nat}, L ≤ 10 → nU 0 L + 0 = L
  | 0, _ => rfl
  | L + 1, h => by
    show nU 0 L + (if ((0 : Int32) >>> (nI L &&& 31)) &&& 1 = 1 then 0 else 1) = L + 1
    have a := nU_0 (L := L) (by omega)
    rw [if_neg (uB_0 L (by omega))]
    omega
theorem nU_same {u : Int32} {r : Nat} (hr : r < 10) : ∀ {L : Nat}, L ≤ r → nU (u ||| ((1 : Int32) <<< (nI r &&& 31))) L = nU u L
  | 0, _ => rfl
  | L + 1, h => by
    have a := nU_same (u := u) hr (L := L) (by omega)
    have b := uB_or u hr (show L < 10 by omega)
    show nU (u ||| ((1 : Int32) <<< (nI r &&& 31))) L + (if ((u ||| ((1 : Int32) <<< (nI r &&& 31))) >>> (nI L &&& 31)) &&& 1 = 1 then 0 else 1) = nU u L + (if (u >>> (nI L &&& 31)) &&& 1 = 1 then 0 else 1)
    rw [a]
    by_cases q : uB u L
    · rw [if_pos (b.mpr (Or.inl q)), if_pos q]
    · rw [if_neg (fun z => (b.mp z).elim q (by omega)), if_neg q]
theorem nU_or {u : Int32} {r l : Nat} : ∀ {L : Nat}, r < L → L ≤ 10 → ¬ uB u r → nU (u ||| ((1 : Int32) <<< (nI r &&& 31))) L + 1 = nU u L
  | 0, h, _, _ => absurd h (Nat.not_lt_zero _)
  | L + 1, h, hL, z => by
    have b := uB_or u (show r < 10 by omega) (show L < 10 by omega)
    show nU (u ||| ((1 : Int32) <<< (nI r &&& 31))) L + (if ((u ||| ((1 : Int32) <<< (nI r &&& 31))) >>> (nI L &&& 31)) &&& 1 = 1 then 0 else 1) + 1 = nU u L + (if (u >>> (nI L &&& 31)) &&& 1 = 1 then 0 else 1)
    by_cases e : L = r
    · subst e
      rw [nU_same (by omega) (Nat.le_refl L), if_pos (b.mpr (Or.inr rfl)), if_neg z]
    · have a := nU_or (u := u) (r := r) (l := l) (L := L) (by omega) (by omega) z
      by_cases q : uB u L
      · rw [if_pos (b.mpr (Or.inl q)), if_pos q]
        omega
      · rw [if_neg (fun y => (b.mp y).elim q e), if_neg q]
        omega
theorem nU_or' {u : Int32} {r l L : Nat} (hu : nU u L + l = L) (hr : r < L) (hL : L ≤ 10) (z : ¬ (u >>> (nI r &&& 31)) &&& 1 = 1) : nU (u ||| ((1 : Int32) <<< (nI r &&& 31))) L + (l + 1) = L := by
  have := nU_or (u := u) (l := 0) hr hL z
  omega
theorem cntU_same {u : Int32} {ls : Nat → Int32} {r : Nat} (hr : r < 10) (v : Int32) : ∀ {L : Nat}, L ≤ r → cntU (u ||| ((1 : Int32) <<< (nI r &&& 31))) ls L v = cntU u ls L v
  | 0, _ => rfl
  | L + 1, h => by
    have a := cntU_same (u := u) (ls := ls) hr v (L := L) (by omega)
    have b := uB_or u hr (show L < 10 by omega)
    show cntU (u ||| ((1 : Int32) <<< (nI r &&& 31))) ls L v + (if ((u ||| ((1 : Int32) <<< (nI r &&& 31))) >>> (nI L &&& 31)) &&& 1 = 1 then 0 else if ls L = v then 1 else 0) = cntU u ls L v + (if (u >>> (nI L &&& 31)) &&& 1 = 1 then 0 else if ls L = v then 1 else 0)
    rw [a]
    by_cases q : uB u L
    · rw [if_pos (b.mpr (Or.inl q)), if_pos q]
    · rw [if_neg (fun z => (b.mp z).elim q (by omega)), if_neg q]
theorem cntU_or {u : Int32} {ls : Nat → Int32} {r : Nat} (v : Int32) : ∀ {L : Nat}, r < L → L ≤ 10 → ¬ uB u r → cntU (u ||| ((1 : Int32) <<< (nI r &&& 31))) ls L v + (if ls r = v then 1 else 0) = cntU u ls L v
  | 0, h, _, _ => absurd h (Nat.not_lt_zero _)
  | L + 1, h, hL, z => by
    have b := uB_or u (show r < 10 by omega) (show L < 10 by omega)
    show cntU (u ||| ((1 : Int32) <<< (nI r &&& 31))) ls L v + (if ((u ||| ((1 : Int32) <<< (nI r &&& 31))) >>> (nI L &&& 31)) &&& 1 = 1 then 0 else if ls L = v then 1 else 0) + _ = cntU u ls L v + (if (u >>> (nI L &&& 31)) &&& 1 = 1 then 0 else if ls L = v then 1 else 0)
    by_cases e : L = r
    · subst e
      rw [cntU_same (by omega) v (Nat.le_refl L), if_pos (b.mpr (Or.inr rfl)), if_neg z]
      rfl
    · have a := cntU_or (u := u) (ls := ls) (r := r) v (L := L) (by omega) (by omega) z
      by_cases q : uB u L
      · rw [if_pos (b.mpr (Or.inl q)), if_pos q]
        omega
      · rw [if_neg (fun y => (b.mp y).elim q e), if_neg q]
        omega
theorem cntU_pos {u : Int32} {ls : Nat → Int32} {v : Int32} : ∀ {L : Nat}, 1 ≤ cntU u ls L v → ∃ r, r < L ∧ ¬ uB u r ∧ ls r = v
  | 0, h => absurd (show 1 ≤ 0 from h) (by decide)
  | L + 1, h => by
    have h' : 1 ≤ cntU u ls L v + (if (u >>> (nI L &&& 31)) &&& 1 = 1 then 0 else if ls L = v then 1 else 0) := h
    by_cases q : uB u L
    · rw [if_pos q] at h'
      obtain ⟨r, a, b, c⟩ := cntU_pos h'
      exact ⟨r, by omega, b, c⟩
    · rw [if_neg q] at h'
      by_cases e : ls L = v
      · exact ⟨L, Nat.lt_succ_self L, q, e⟩
      · rw [if_neg e] at h'
        obtain ⟨r, a, b, c⟩ := cntU_pos h'
        exact ⟨r, by omega, b, c⟩
def RestV (ofs ls : Nat → Int32) (L fr : Nat) (us r : Int32) : Prop := ∃ W L' : Nat → Int32, SdTo (L - fr) W ∧ SdTo (L - fr) L' ∧ (∀ v, cnt W (L - fr) v = cnt (fun j => ofs (fr + j)) (L - fr) v) ∧ CtU L' (L - fr) us ls L ∧ r = dotS W L' (L - fr) (L - fr)
theorem RestV_mk {ofs ls W L' W0 L0 : Nat → Int32} {L fr n k : Nat} {us r : Int32} (hn : n + fr = L) (h1 : SdTo n W) (h2 : SdTo n L') (h3 : CtE n W W0) (h4 : EqTo n W0 (fun j => ofs (fr + j))) (h5 : CtE n L' L0) (h6 : CtU L0 k us ls L) (hk : k = n) (hr : r = dotS W L' n n) : RestV ofs ls L fr us r := by
  have e : L - fr = n := by omega
  subst hk
  refine ⟨W, L', ?_, ?_, ?_, ?_, ?_⟩
  · rw [e]
    exact h1
  · rw [e]
    exact h2
  · rw [e]
    intro v
    rw [h3 v]
    exact cnt_congr v h4
  · rw [e]
    intro v
    rw [h5 v]
    exact h6 v
  · rw [e]
    exact hr
theorem RestV_uniq {ofs ls : Nat → Int32} {L fr : Nat} {us r r' : Int32} (h : RestV ofs ls L fr us r) (h' : RestV ofs ls L fr us r') : r = r' := by
  obtain ⟨W, K, a1, a2, a3, a4, a5⟩ := h
  obtain ⟨W', K', b1, b2, b3, b4, b5⟩ := h'
  rw [a5, b5]
  exact dot_congr (sd_uniq a1 b1 (fun v => (a3 v).trans (b3 v).symm)) (sd_uniq a2 b2 (fun v => (a4 v).trans (b4 v).symm)) (Nat.le_refl _)
theorem cnt_shift {f : Nat → Int32} {l : Nat} (v : Int32) : ∀ {n : Nat}, cnt (fun j => f (l + j)) (n + 1) v = cnt (fun j => f (l + 1 + j)) n v + (if f l = v then 1 else 0)
  | 0 => by
    show 0 + (if f (l + 0) = v then 1 else 0) = 0 + (if f l = v then 1 else 0)
    rfl
  | n + 1 => by
    have ih := cnt_shift (f := f) (l := l) v (n := n)
    show cnt (fun j => f (l + j)) (n + 1) v + (if f (l + (n + 1)) = v then 1 else 0) = cnt (fun j => f (l + 1 + j)) n v + (if f (l + 1 + n) = v then 1 else 0) + _
    rw [ih, show l + (n + 1) = l + 1 + n by omega]
    omega
theorem RestV_step {ofs ls : Nat → Int32} {L l : Nat} {us R : Int32} (h : RestV ofs ls L l us R) (hl : l < L) (hL : L ≤ 10) : ∃ r, r < L ∧ ¬ uB us r ∧ ∃ R', RestV ofs ls L (l + 1) (us ||| ((1 : Int32) <<< (nI r &&& 31))) R' ∧ ofs l * ls r + R' = R := by
  obtain ⟨W, K, a1, a2, a3, a4, a5⟩ := h
  obtain ⟨n, hn⟩ : ∃ n, L - l = n + 1 := ⟨L - l - 1, by omega⟩
  have hn' : L - (l + 1) = n := by omega
  rw [hn] at a1 a2 a3 a4 a5
  have c1 : 1 ≤ cnt W (n + 1) (ofs l) := by
    rw [a3, cnt_shift, if_pos rfl]
    omega
  obtain ⟨j, hj, ej⟩ := cnt_pos c1
  have c2 : 1 ≤ cntU us ls L (K (n - j)) := by
    rw [← a4]
    exact cnt_in (i := n - j) (by omega) rfl
  obtain ⟨r, r1, r2, r3⟩ := cntU_pos c2
  refine ⟨r, r1, r2, dotS (rmv W j) (rmv K (n - j)) n n, ⟨rmv W j, rmv K (n - j), ?_, ?_, ?_, ?_, ?_⟩, ?_⟩
  · rw [hn']
    exact SdTo_rmv a1
  · rw [hn']
    exact SdTo_rmv a2
  · rw [hn']
    intro v
    have x1 := cnt_rmv (f := W) (j := j) v (n := n) (by omega)
    rw [a3, cnt_shift, ej] at x1
    omega
  · rw [hn']
    intro v
    have x1 := cnt_rmv (f := K) (j := n - j) v (n := n) (by omega)
    have x2 := cntU_or (ls := ls) v r1 hL r2
    rw [a4, ← x2, r3] at x1
    omega
  · rw [hn']
  · rw [a5, dot_b (j := j) (by omega) (k := n) (by omega) (Nat.le_refl n), r3, ej, Int32.add_comm]
def DlV (ofs ls : Nat → Int32) (L l : Nat) (us sp best : Int32) (r : Nat) : Prop := r < L ∧ ¬ uB us r ∧ ∃ R', RestV ofs ls L (l + 1) (us ||| ((1 : Int32) <<< (nI r &&& 31))) R' ∧ sp + ofs l * ls r + R' = best
theorem Dl_ini {ofs ls : Nat → Int32} {L l : Nat} {us sp best : Int32} (h : ∃ v9, RestV ofs ls L l us v9 ∧ sp + v9 = best) (hl : l < L) (hL : L ≤ 10) : ∃ r9, 0 ≤ r9 ∧ DlV ofs ls L l us sp best r9 := by
  obtain ⟨v, a, b⟩ := h
  obtain ⟨r, r1, r2, R', r3, r4⟩ := RestV_step a hl hL
  refine ⟨r, Nat.zero_le r, r1, r2, R', r3, ?_⟩
  rw [Int32.add_assoc, r4]
  exact b
theorem Dl_next {ofs ls : Nat → Int32} {L l : Nat} {us sp best : Int32} {r r9 : Nat} (a : r ≤ r9) (b : DlV ofs ls L l us sp best r9) (n : ¬ DlV ofs ls L l us sp best r) : r + 1 ≤ r9 := ld_next (P := DlV ofs ls L l us sp best) a b n
theorem Dl_u {ofs ls : Nat → Int32} {L l : Nat} {us sp best : Int32} {r : Nat} (z : (us >>> (nI r &&& 31)) &&& 1 = 1) : ¬ DlV ofs ls L l us sp best r := fun h => h.2.1 z
theorem Dl_no {ofs ls : Nat → Int32} {L l : Nat} {us sp best x R : Int32} {r : Nat} (e : ls r = x) (hR : RestV ofs ls L (l + 1) (us ||| ((1 : Int32) <<< (nI r &&& 31))) R) (z : ¬ sp + ofs l * x + R = best) : ¬ DlV ofs ls L l us sp best r := fun ⟨_, _, R', h1, h2⟩ => by
  have := RestV_uniq hR h1
  subst this
  rw [e] at h2
  exact z h2
theorem dX12_sortUp_0 : decode cX12_sortUp 0 = .ok (.iconst 1, 1) := by decide +kernel
theorem dX12_sortUp_1 : decode cX12_sortUp 1 = .ok (.istore_n 2, 1) := by decide +kernel
theorem dX12_sortUp_2 : decode cX12_sortUp 2 = .ok (.iload_n 2, 1) := by decide +kernel
theorem dX12_sortUp_3 : decode cX12_sortUp 3 = .ok (.iload_n 1, 1) := by decide +kernel
theorem dX12_sortUp_4 : decode cX12_sortUp 4 = .ok (.if_icmp .ge 52, 3) := by decide +kernel
theorem dX12_sortUp_56 : decode cX12_sortUp 56 = .ok (.return_, 1) := by decide +kernel
theorem dX12_sortUp_7 : decode cX12_sortUp 7 = .ok (.iload_n 2, 1) := by decide +kernel
theorem dX12_sortUp_8 : decode cX12_sortUp 8 = .ok (.istore_n 3, 1) := by decide +kernel
theorem dX12_sortUp_9 : decode cX12_sortUp 9 = .ok (.iload_n 3, 1) := by decide +kernel
theorem dX12_sortUp_10 : decode cX12_sortUp 10 = .ok (.ifCond .le 40, 3) := by decide +kernel
theorem dX12_sortUp_50 : decode cX12_sortUp 50 = .ok (.iinc 2 1, 3) := by decide +kernel
theorem dX12_sortUp_53 : decode cX12_sortUp 53 = .ok (.goto (-51), 3) := by decide +kernel
theorem dX12_sortUp_13 : decode cX12_sortUp 13 = .ok (.aload_n 0, 1) := by decide +kernel
theorem dX12_sortUp_14 : decode cX12_sortUp 14 = .ok (.iload_n 3, 1) := by decide +kernel
theorem dX12_sortUp_15 : decode cX12_sortUp 15 = .ok (.iconst 1, 1) := by decide +kernel
theorem dX12_sortUp_16 : decode cX12_sortUp 16 = .ok (.isub, 1) := by decide +kernel
theorem dX12_sortUp_17 : decode cX12_sortUp 17 = .ok (.iaload, 1) := by decide +kernel
theorem dX12_sortUp_18 : decode cX12_sortUp 18 = .ok (.aload_n 0, 1) := by decide +kernel
theorem dX12_sortUp_19 : decode cX12_sortUp 19 = .ok (.iload_n 3, 1) := by decide +kernel
theorem dX12_sortUp_20 : decode cX12_sortUp 20 = .ok (.iaload, 1) := by decide +kernel
theorem dX12_sortUp_21 : decode cX12_sortUp 21 = .ok (.if_icmp .le 29, 3) := by decide +kernel
theorem dX12_sortUp_24 : decode cX12_sortUp 24 = .ok (.aload_n 0, 1) := by decide +kernel
theorem dX12_sortUp_25 : decode cX12_sortUp 25 = .ok (.iload_n 3, 1) := by decide +kernel
theorem dX12_sortUp_26 : decode cX12_sortUp 26 = .ok (.iaload, 1) := by decide +kernel
theorem dX12_sortUp_27 : decode cX12_sortUp 27 = .ok (.istore 4, 2) := by decide +kernel
theorem dX12_sortUp_29 : decode cX12_sortUp 29 = .ok (.aload_n 0, 1) := by decide +kernel
theorem dX12_sortUp_30 : decode cX12_sortUp 30 = .ok (.iload_n 3, 1) := by decide +kernel
theorem dX12_sortUp_31 : decode cX12_sortUp 31 = .ok (.aload_n 0, 1) := by decide +kernel
theorem dX12_sortUp_32 : decode cX12_sortUp 32 = .ok (.iload_n 3, 1) := by decide +kernel
theorem dX12_sortUp_33 : decode cX12_sortUp 33 = .ok (.iconst 1, 1) := by decide +kernel
theorem dX12_sortUp_34 : decode cX12_sortUp 34 = .ok (.isub, 1) := by decide +kernel
theorem dX12_sortUp_35 : decode cX12_sortUp 35 = .ok (.iaload, 1) := by decide +kernel
theorem dX12_sortUp_36 : decode cX12_sortUp 36 = .ok (.iastore, 1) := by decide +kernel
theorem dX12_sortUp_37 : decode cX12_sortUp 37 = .ok (.aload_n 0, 1) := by decide +kernel
theorem dX12_sortUp_38 : decode cX12_sortUp 38 = .ok (.iload_n 3, 1) := by decide +kernel
theorem dX12_sortUp_39 : decode cX12_sortUp 39 = .ok (.iconst 1, 1) := by decide +kernel
theorem dX12_sortUp_40 : decode cX12_sortUp 40 = .ok (.isub, 1) := by decide +kernel
theorem dX12_sortUp_41 : decode cX12_sortUp 41 = .ok (.iload 4, 2) := by decide +kernel
theorem dX12_sortUp_43 : decode cX12_sortUp 43 = .ok (.iastore, 1) := by decide +kernel
theorem dX12_sortUp_44 : decode cX12_sortUp 44 = .ok (.iinc 3 (-1), 3) := by decide +kernel
theorem dX12_sortUp_47 : decode cX12_sortUp 47 = .ok (.goto (-38), 3) := by decide +kernel
theorem dX12_rest_0 : decode cX12_rest 0 = .ok (.iconst 0, 1) := by decide +kernel
theorem dX12_rest_1 : decode cX12_rest 1 = .ok (.istore_n 3, 1) := by decide +kernel
theorem dX12_rest_2 : decode cX12_rest 2 = .ok (.iload_n 1, 1) := by decide +kernel
theorem dX12_rest_3 : decode cX12_rest 3 = .ok (.istore 4, 2) := by decide +kernel
theorem dX12_rest_5 : decode cX12_rest 5 = .ok (.iload 4, 2) := by decide +kernel
theorem dX12_rest_7 : decode cX12_rest 7 = .ok (.aload_n 0, 1) := by decide +kernel
theorem dX12_rest_8 : decode cX12_rest 8 = .ok (.getfield 282, 3) := by decide +kernel
theorem dX12_rest_11 : decode cX12_rest 11 = .ok (.if_icmp .ge 25, 3) := by decide +kernel
theorem dX12_rest_36 : decode cX12_rest 36 = .ok (.iconst 0, 1) := by decide +kernel
theorem dX12_rest_37 : decode cX12_rest 37 = .ok (.istore 4, 2) := by decide +kernel
theorem dX12_rest_39 : decode cX12_rest 39 = .ok (.iconst 0, 1) := by decide +kernel
theorem dX12_rest_40 : decode cX12_rest 40 = .ok (.istore 5, 2) := by decide +kernel
theorem dX12_rest_42 : decode cX12_rest 42 = .ok (.iload 5, 2) := by decide +kernel
theorem dX12_rest_44 : decode cX12_rest 44 = .ok (.aload_n 0, 1) := by decide +kernel
theorem dX12_rest_45 : decode cX12_rest 45 = .ok (.getfield 282, 3) := by decide +kernel
theorem dX12_rest_48 : decode cX12_rest 48 = .ok (.if_icmp .ge 39, 3) := by decide +kernel
theorem dX12_rest_87 : decode cX12_rest 87 = .ok (.aload_n 0, 1) := by decide +kernel
theorem dX12_rest_88 : decode cX12_rest 88 = .ok (.getfield 121, 3) := by decide +kernel
theorem tw_1211 : Cond.fieldLink RX12 121 "LimpCodeModel" "weights" "[I" ∈ TT := nx_mem 1211 (by decide +kernel) (by decide +kernel)
theorem dX12_rest_91 : decode cX12_rest 91 = .ok (.iload_n 3, 1) := by decide +kernel
theorem dX12_rest_92 : decode cX12_rest 92 = .ok (.invokestatic 412, 3) := by decide +kernel
theorem tw_1640 : Cond.methodLink RX12 412 yX12_sortUp ∈ TT := nx_mem 1640 (by decide +kernel) (by decide +kernel)
theorem tw_1641 : Cond.static yX12_sortUp ∈ TT := nx_mem 1641 (by decide +kernel) (by decide +kernel)
theorem tw_1642 : Cond.code yX12_sortUp cX12_sortUp 5 none ∈ TT := nx_mem 1642 (by decide +kernel) (by decide +kernel)
theorem dX12_rest_95 : decode cX12_rest 95 = .ok (.aload_n 0, 1) := by decide +kernel
theorem dX12_rest_96 : decode cX12_rest 96 = .ok (.getfield 118, 3) := by decide +kernel
theorem tw_1210 : Cond.fieldLink RX12 118 "LimpCodeModel" "left" "[I" ∈ TT := nx_mem 1210 (by decide +kernel) (by decide +kernel)
theorem dX12_rest_99 : decode cX12_rest 99 = .ok (.iload_n 3, 1) := by decide +kernel
theorem dX12_rest_100 : decode cX12_rest 100 = .ok (.invokestatic 412, 3) := by decide +kernel
theorem dX12_rest_103 : decode cX12_rest 103 = .ok (.iconst 0, 1) := by decide +kernel
theorem dX12_rest_104 : decode cX12_rest 104 = .ok (.istore 5, 2) := by decide +kernel
theorem dX12_rest_106 : decode cX12_rest 106 = .ok (.iconst 0, 1) := by decide +kernel
theorem dX12_rest_107 : decode cX12_rest 107 = .ok (.istore 6, 2) := by decide +kernel
theorem dX12_rest_109 : decode cX12_rest 109 = .ok (.iload 6, 2) := by decide +kernel
theorem dX12_rest_111 : decode cX12_rest 111 = .ok (.iload_n 3, 1) := by decide +kernel
theorem dX12_rest_112 : decode cX12_rest 112 = .ok (.if_icmp .ge 33, 3) := by decide +kernel
theorem dX12_rest_145 : decode cX12_rest 145 = .ok (.iload 5, 2) := by decide +kernel
theorem dX12_rest_147 : decode cX12_rest 147 = .ok (.ireturn, 1) := by decide +kernel
theorem dX12_rest_51 : decode cX12_rest 51 = .ok (.iload_n 2, 1) := by decide +kernel
theorem dX12_rest_52 : decode cX12_rest 52 = .ok (.iload 5, 2) := by decide +kernel
theorem dX12_rest_54 : decode cX12_rest 54 = .ok (.ishr, 1) := by decide +kernel
theorem dX12_rest_55 : decode cX12_rest 55 = .ok (.iconst 1, 1) := by decide +kernel
theorem dX12_rest_56 : decode cX12_rest 56 = .ok (.iand, 1) := by decide +kernel
theorem dX12_rest_57 : decode cX12_rest 57 = .ok (.iconst 1, 1) := by decide +kernel
theorem dX12_rest_58 : decode cX12_rest 58 = .ok (.if_icmp .ne 6, 3) := by decide +kernel
theorem dX12_rest_64 : decode cX12_rest 64 = .ok (.aload_n 0, 1) := by decide +kernel
theorem dX12_rest_65 : decode cX12_rest 65 = .ok (.getfield 118, 3) := by decide +kernel
theorem dX12_rest_68 : decode cX12_rest 68 = .ok (.iload 4, 2) := by decide +kernel
theorem dX12_rest_70 : decode cX12_rest 70 = .ok (.aload_n 0, 1) := by decide +kernel
theorem dX12_rest_71 : decode cX12_rest 71 = .ok (.getfield 63, 3) := by decide +kernel
theorem dX12_rest_74 : decode cX12_rest 74 = .ok (.iload 5, 2) := by decide +kernel
theorem dX12_rest_76 : decode cX12_rest 76 = .ok (.iaload, 1) := by decide +kernel
theorem dX12_rest_77 : decode cX12_rest 77 = .ok (.iastore, 1) := by decide +kernel
theorem dX12_rest_78 : decode cX12_rest 78 = .ok (.iinc 4 1, 3) := by decide +kernel
theorem dX12_rest_81 : decode cX12_rest 81 = .ok (.iinc 5 1, 3) := by decide +kernel
theorem dX12_rest_84 : decode cX12_rest 84 = .ok (.goto (-42), 3) := by decide +kernel
theorem dX12_rest_61 : decode cX12_rest 61 = .ok (.goto 20, 3) := by decide +kernel
theorem dX12_rest_14 : decode cX12_rest 14 = .ok (.aload_n 0, 1) := by decide +kernel
theorem dX12_rest_15 : decode cX12_rest 15 = .ok (.getfield 121, 3) := by decide +kernel
theorem dX12_rest_18 : decode cX12_rest 18 = .ok (.iload_n 3, 1) := by decide +kernel
theorem dX12_rest_19 : decode cX12_rest 19 = .ok (.aload_n 0, 1) := by decide +kernel
theorem dX12_rest_20 : decode cX12_rest 20 = .ok (.getfield 115, 3) := by decide +kernel
theorem tw_1209 : Cond.fieldLink RX12 115 "LimpCodeModel" "often" "[I" ∈ TT := nx_mem 1209 (by decide +kernel) (by decide +kernel)
theorem dX12_rest_23 : decode cX12_rest 23 = .ok (.iload 4, 2) := by decide +kernel
theorem dX12_rest_25 : decode cX12_rest 25 = .ok (.iaload, 1) := by decide +kernel
theorem dX12_rest_26 : decode cX12_rest 26 = .ok (.iastore, 1) := by decide +kernel
theorem dX12_rest_27 : decode cX12_rest 27 = .ok (.iinc 3 1, 3) := by decide +kernel
theorem dX12_rest_30 : decode cX12_rest 30 = .ok (.iinc 4 1, 3) := by decide +kernel
theorem dX12_rest_33 : decode cX12_rest 33 = .ok (.goto (-28), 3) := by decide +kernel
theorem dX12_rest_115 : decode cX12_rest 115 = .ok (.iload 5, 2) := by decide +kernel
theorem dX12_rest_117 : decode cX12_rest 117 = .ok (.aload_n 0, 1) := by decide +kernel
theorem dX12_rest_118 : decode cX12_rest 118 = .ok (.getfield 121, 3) := by decide +kernel
theorem dX12_rest_121 : decode cX12_rest 121 = .ok (.iload 6, 2) := by decide +kernel
theorem dX12_rest_123 : decode cX12_rest 123 = .ok (.iaload, 1) := by decide +kernel
theorem dX12_rest_124 : decode cX12_rest 124 = .ok (.aload_n 0, 1) := by decide +kernel
theorem dX12_rest_125 : decode cX12_rest 125 = .ok (.getfield 118, 3) := by decide +kernel
theorem dX12_rest_128 : decode cX12_rest 128 = .ok (.iload_n 3, 1) := by decide +kernel
theorem dX12_rest_129 : decode cX12_rest 129 = .ok (.iconst 1, 1) := by decide +kernel
theorem dX12_rest_130 : decode cX12_rest 130 = .ok (.isub, 1) := by decide +kernel
theorem dX12_rest_131 : decode cX12_rest 131 = .ok (.iload 6, 2) := by decide +kernel
theorem dX12_rest_133 : decode cX12_rest 133 = .ok (.isub, 1) := by decide +kernel
theorem dX12_rest_134 : decode cX12_rest 134 = .ok (.iaload, 1) := by decide +kernel
theorem dX12_rest_135 : decode cX12_rest 135 = .ok (.imul, 1) := by decide +kernel
theorem dX12_rest_136 : decode cX12_rest 136 = .ok (.iadd, 1) := by decide +kernel
theorem dX12_rest_137 : decode cX12_rest 137 = .ok (.istore 5, 2) := by decide +kernel
theorem dX12_rest_139 : decode cX12_rest 139 = .ok (.iinc 6 1, 3) := by decide +kernel
theorem dX12_rest_142 : decode cX12_rest 142 = .ok (.goto (-33), 3) := by decide +kernel
theorem dX12_dealt_0 : decode cX12_dealt 0 = .ok (.iconst 0, 1) := by decide +kernel
theorem dX12_dealt_1 : decode cX12_dealt 1 = .ok (.istore_n 1, 1) := by decide +kernel
theorem dX12_dealt_2 : decode cX12_dealt 2 = .ok (.iload_n 1, 1) := by decide +kernel
theorem dX12_dealt_3 : decode cX12_dealt 3 = .ok (.bipush 10, 2) := by decide +kernel
theorem dX12_dealt_5 : decode cX12_dealt 5 = .ok (.if_icmp .ge 16, 3) := by decide +kernel
theorem dX12_dealt_8 : decode cX12_dealt 8 = .ok (.aload_n 0, 1) := by decide +kernel
theorem dX12_dealt_9 : decode cX12_dealt 9 = .ok (.getfield 115, 3) := by decide +kernel
theorem dX12_dealt_12 : decode cX12_dealt 12 = .ok (.iload_n 1, 1) := by decide +kernel
theorem dX12_dealt_13 : decode cX12_dealt 13 = .ok (.iconst 0, 1) := by decide +kernel
theorem dX12_dealt_14 : decode cX12_dealt 14 = .ok (.iastore, 1) := by decide +kernel
theorem dX12_dealt_15 : decode cX12_dealt 15 = .ok (.iinc 1 1, 3) := by decide +kernel
theorem dX12_dealt_18 : decode cX12_dealt 18 = .ok (.goto (-16), 3) := by decide +kernel
theorem dX12_dealt_21 : decode cX12_dealt 21 = .ok (.iconst 0, 1) := by decide +kernel
theorem dX12_dealt_22 : decode cX12_dealt 22 = .ok (.istore_n 1, 1) := by decide +kernel
theorem dX12_dealt_23 : decode cX12_dealt 23 = .ok (.iload_n 1, 1) := by decide +kernel
theorem dX12_dealt_24 : decode cX12_dealt 24 = .ok (.aload_n 0, 1) := by decide +kernel
theorem dX12_dealt_25 : decode cX12_dealt 25 = .ok (.getfield 94, 3) := by decide +kernel
theorem dX12_dealt_28 : decode cX12_dealt 28 = .ok (.iconst 0, 1) := by decide +kernel
theorem dX12_dealt_29 : decode cX12_dealt 29 = .ok (.iaload, 1) := by decide +kernel
theorem dX12_dealt_30 : decode cX12_dealt 30 = .ok (.if_icmp .ge 24, 3) := by decide +kernel
theorem dX12_dealt_54 : decode cX12_dealt 54 = .ok (.aload_n 0, 1) := by decide +kernel
theorem dX12_dealt_55 : decode cX12_dealt 55 = .ok (.iconst 0, 1) := by decide +kernel
theorem dX12_dealt_56 : decode cX12_dealt 56 = .ok (.iconst 0, 1) := by decide +kernel
theorem dX12_dealt_57 : decode cX12_dealt 57 = .ok (.invokevirtual 416, 3) := by decide +kernel
theorem tw_1636 : Cond.methodLink RX12 416 yX12_rest ∈ TT := nx_mem 1636 (by decide +kernel) (by decide +kernel)
theorem tw_1638 : Cond.instanceMethod yX12_rest ∈ TT := nx_mem 1638 (by decide +kernel) (by decide +kernel)
theorem tw_81 : Cond.selects RX12 yX12_rest yX12_rest ∈ TT := nx_mem 81 (by decide +kernel) (by decide +kernel)
theorem tw_1639 : Cond.code yX12_rest cX12_rest 7 (some .int) ∈ TT := nx_mem 1639 (by decide +kernel) (by decide +kernel)
theorem dX12_dealt_60 : decode cX12_dealt 60 = .ok (.istore_n 1, 1) := by decide +kernel
theorem dX12_dealt_61 : decode cX12_dealt 61 = .ok (.iconst 0, 1) := by decide +kernel
theorem dX12_dealt_62 : decode cX12_dealt 62 = .ok (.istore_n 2, 1) := by decide +kernel
theorem dX12_dealt_63 : decode cX12_dealt 63 = .ok (.iconst 0, 1) := by decide +kernel
theorem dX12_dealt_64 : decode cX12_dealt 64 = .ok (.istore_n 3, 1) := by decide +kernel
theorem dX12_dealt_65 : decode cX12_dealt 65 = .ok (.iconst 0, 1) := by decide +kernel
theorem dX12_dealt_66 : decode cX12_dealt 66 = .ok (.istore 4, 2) := by decide +kernel
theorem dX12_dealt_68 : decode cX12_dealt 68 = .ok (.iload 4, 2) := by decide +kernel
theorem dX12_dealt_70 : decode cX12_dealt 70 = .ok (.aload_n 0, 1) := by decide +kernel
theorem dX12_dealt_71 : decode cX12_dealt 71 = .ok (.getfield 282, 3) := by decide +kernel
theorem dX12_dealt_74 : decode cX12_dealt 74 = .ok (.if_icmp .ge 98, 3) := by decide +kernel
theorem dX12_dealt_172 : decode cX12_dealt 172 = .ok (.aload_n 0, 1) := by decide +kernel
theorem dX12_dealt_173 : decode cX12_dealt 173 = .ok (.aload_n 0, 1) := by decide +kernel
theorem dX12_dealt_174 : decode cX12_dealt 174 = .ok (.getfield 282, 3) := by decide +kernel
theorem dX12_dealt_177 : decode cX12_dealt 177 = .ok (.putfield 294, 3) := by decide +kernel
theorem dX12_dealt_180 : decode cX12_dealt 180 = .ok (.iload_n 1, 1) := by decide +kernel
theorem dX12_dealt_181 : decode cX12_dealt 181 = .ok (.ireturn, 1) := by decide +kernel
theorem dX12_dealt_77 : decode cX12_dealt 77 = .ok (.iconst 0, 1) := by decide +kernel
theorem dX12_dealt_78 : decode cX12_dealt 78 = .ok (.istore 5, 2) := by decide +kernel
theorem dX12_dealt_80 : decode cX12_dealt 80 = .ok (.iload_n 2, 1) := by decide +kernel
theorem dX12_dealt_81 : decode cX12_dealt 81 = .ok (.iload 5, 2) := by decide +kernel
theorem dX12_dealt_83 : decode cX12_dealt 83 = .ok (.ishr, 1) := by decide +kernel
theorem dX12_dealt_84 : decode cX12_dealt 84 = .ok (.iconst 1, 1) := by decide +kernel
theorem dX12_dealt_85 : decode cX12_dealt 85 = .ok (.iand, 1) := by decide +kernel
theorem dX12_dealt_86 : decode cX12_dealt 86 = .ok (.iconst 1, 1) := by decide +kernel
theorem dX12_dealt_87 : decode cX12_dealt 87 = .ok (.if_icmp .eq 39, 3) := by decide +kernel
theorem dX12_dealt_126 : decode cX12_dealt 126 = .ok (.iinc 5 1, 3) := by decide +kernel
theorem dX12_dealt_129 : decode cX12_dealt 129 = .ok (.goto (-49), 3) := by decide +kernel
theorem dX12_dealt_90 : decode cX12_dealt 90 = .ok (.iload_n 3, 1) := by decide +kernel
theorem dX12_dealt_91 : decode cX12_dealt 91 = .ok (.aload_n 0, 1) := by decide +kernel
theorem dX12_dealt_92 : decode cX12_dealt 92 = .ok (.getfield 115, 3) := by decide +kernel
theorem dX12_dealt_95 : decode cX12_dealt 95 = .ok (.iload 4, 2) := by decide +kernel
theorem dX12_dealt_97 : decode cX12_dealt 97 = .ok (.iaload, 1) := by decide +kernel
theorem dX12_dealt_98 : decode cX12_dealt 98 = .ok (.aload_n 0, 1) := by decide +kernel
theorem dX12_dealt_99 : decode cX12_dealt 99 = .ok (.getfield 63, 3) := by decide +kernel
theorem dX12_dealt_102 : decode cX12_dealt 102 = .ok (.iload 5, 2) := by decide +kernel
theorem dX12_dealt_104 : decode cX12_dealt 104 = .ok (.iaload, 1) := by decide +kernel
theorem dX12_dealt_105 : decode cX12_dealt 105 = .ok (.imul, 1) := by decide +kernel
theorem dX12_dealt_106 : decode cX12_dealt 106 = .ok (.iadd, 1) := by decide +kernel
theorem dX12_dealt_107 : decode cX12_dealt 107 = .ok (.aload_n 0, 1) := by decide +kernel
theorem dX12_dealt_108 : decode cX12_dealt 108 = .ok (.iload 4, 2) := by decide +kernel
theorem dX12_dealt_110 : decode cX12_dealt 110 = .ok (.iconst 1, 1) := by decide +kernel
theorem dX12_dealt_111 : decode cX12_dealt 111 = .ok (.iadd, 1) := by decide +kernel
theorem dX12_dealt_112 : decode cX12_dealt 112 = .ok (.iload_n 2, 1) := by decide +kernel
theorem dX12_dealt_113 : decode cX12_dealt 113 = .ok (.iconst 1, 1) := by decide +kernel
theorem dX12_dealt_114 : decode cX12_dealt 114 = .ok (.iload 5, 2) := by decide +kernel
theorem dX12_dealt_116 : decode cX12_dealt 116 = .ok (.ishl, 1) := by decide +kernel
theorem dX12_dealt_117 : decode cX12_dealt 117 = .ok (.ior, 1) := by decide +kernel
theorem dX12_dealt_118 : decode cX12_dealt 118 = .ok (.invokevirtual 416, 3) := by decide +kernel
theorem dX12_dealt_121 : decode cX12_dealt 121 = .ok (.iadd, 1) := by decide +kernel
theorem dX12_dealt_122 : decode cX12_dealt 122 = .ok (.iload_n 1, 1) := by decide +kernel
theorem dX12_dealt_123 : decode cX12_dealt 123 = .ok (.if_icmp .eq 9, 3) := by decide +kernel
theorem dX12_dealt_132 : decode cX12_dealt 132 = .ok (.iload_n 3, 1) := by decide +kernel
theorem dX12_dealt_133 : decode cX12_dealt 133 = .ok (.aload_n 0, 1) := by decide +kernel
theorem dX12_dealt_134 : decode cX12_dealt 134 = .ok (.getfield 115, 3) := by decide +kernel
theorem dX12_dealt_137 : decode cX12_dealt 137 = .ok (.iload 4, 2) := by decide +kernel
theorem dX12_dealt_139 : decode cX12_dealt 139 = .ok (.iaload, 1) := by decide +kernel
theorem dX12_dealt_140 : decode cX12_dealt 140 = .ok (.aload_n 0, 1) := by decide +kernel
theorem dX12_dealt_141 : decode cX12_dealt 141 = .ok (.getfield 63, 3) := by decide +kernel
theorem dX12_dealt_144 : decode cX12_dealt 144 = .ok (.iload 5, 2) := by decide +kernel
theorem dX12_dealt_146 : decode cX12_dealt 146 = .ok (.iaload, 1) := by decide +kernel
theorem dX12_dealt_147 : decode cX12_dealt 147 = .ok (.imul, 1) := by decide +kernel
theorem dX12_dealt_148 : decode cX12_dealt 148 = .ok (.iadd, 1) := by decide +kernel
theorem dX12_dealt_149 : decode cX12_dealt 149 = .ok (.istore_n 3, 1) := by decide +kernel
theorem dX12_dealt_150 : decode cX12_dealt 150 = .ok (.iload_n 2, 1) := by decide +kernel
theorem dX12_dealt_151 : decode cX12_dealt 151 = .ok (.iconst 1, 1) := by decide +kernel
theorem dX12_dealt_152 : decode cX12_dealt 152 = .ok (.iload 5, 2) := by decide +kernel
theorem dX12_dealt_154 : decode cX12_dealt 154 = .ok (.ishl, 1) := by decide +kernel
theorem dX12_dealt_155 : decode cX12_dealt 155 = .ok (.ior, 1) := by decide +kernel
theorem dX12_dealt_156 : decode cX12_dealt 156 = .ok (.istore_n 2, 1) := by decide +kernel
theorem dX12_dealt_157 : decode cX12_dealt 157 = .ok (.aload_n 0, 1) := by decide +kernel
theorem dX12_dealt_158 : decode cX12_dealt 158 = .ok (.getfield 81, 3) := by decide +kernel
theorem dX12_dealt_161 : decode cX12_dealt 161 = .ok (.iload 4, 2) := by decide +kernel
theorem dX12_dealt_163 : decode cX12_dealt 163 = .ok (.iload 5, 2) := by decide +kernel
theorem dX12_dealt_165 : decode cX12_dealt 165 = .ok (.iastore, 1) := by decide +kernel
theorem dX12_dealt_166 : decode cX12_dealt 166 = .ok (.iinc 4 1, 3) := by decide +kernel
theorem dX12_dealt_169 : decode cX12_dealt 169 = .ok (.goto (-101), 3) := by decide +kernel
theorem dX12_dealt_33 : decode cX12_dealt 33 = .ok (.aload_n 0, 1) := by decide +kernel
theorem dX12_dealt_34 : decode cX12_dealt 34 = .ok (.getfield 115, 3) := by decide +kernel
theorem dX12_dealt_37 : decode cX12_dealt 37 = .ok (.aload_n 0, 1) := by decide +kernel
theorem dX12_dealt_38 : decode cX12_dealt 38 = .ok (.getfield 91, 3) := by decide +kernel
theorem dX12_dealt_41 : decode cX12_dealt 41 = .ok (.iload_n 1, 1) := by decide +kernel
theorem dX12_dealt_42 : decode cX12_dealt 42 = .ok (.iaload, 1) := by decide +kernel
theorem dX12_dealt_43 : decode cX12_dealt 43 = .ok (.dup2, 1) := by decide +kernel
theorem dX12_dealt_44 : decode cX12_dealt 44 = .ok (.iaload, 1) := by decide +kernel
theorem dX12_dealt_45 : decode cX12_dealt 45 = .ok (.iconst 1, 1) := by decide +kernel
theorem dX12_dealt_46 : decode cX12_dealt 46 = .ok (.iadd, 1) := by decide +kernel
theorem dX12_dealt_47 : decode cX12_dealt 47 = .ok (.iastore, 1) := by decide +kernel
theorem dX12_dealt_48 : decode cX12_dealt 48 = .ok (.iinc 1 1, 3) := by decide +kernel
theorem dX12_dealt_51 : decode cX12_dealt 51 = .ok (.goto (-28), 3) := by decide +kernel
set_option maxHeartbeats 4000000 in
set_option maxRecDepth 100000 in
theorem s_X12_sortUp (lau : Launch) (gg : va_G) (kA : Nat → ClassId) (o : Nat) (n : Nat) (of : Nat → Int32) (hn : n ≤ 10) : CtV lau yX12_sortUp cX12_sortUp 5 (none) 1 0 0 gg kA [.ref o, .int (nI n)] (mflat [(o, .inl (.inl (kA 1, 10, .inl of)))]) (S := (Nat → Int32)) (fun (y_o : (Nat → Int32)) => (SdTo n y_o) ∧ (CtE n y_o of)) (fun (y_o : (Nat → Int32)) => mflat [(o, .inl (.inl (kA 1, 10, .inl y_o)))]) := by
  refine nx_startV (by decide +kernel) (Nat.le_of_ble_eq_true rfl) ?_
  intro x hnm h hq
  have h : Ok x cX12_sortUp RX12 kA (rmC 1 0 0) 5 := h
  show J x (mflat [(o, .inl (.inl (kA 1, 10, .inl of)))]) [(0, .ref o), (1, .int (nI n))] 0 0 0 []
  refine j_iconst (v := 1) h (by decide) dX12_sortUp_0 ?_
  refine j_istore_n (lv' := [(2, .int 1), (0, .ref o), (1, .int (nI n))]) h dX12_sortUp_1 rfl (by decide) rfl ?_
  have lp2_35021 : ∀ (m2_35021 : Nat), ∀ (v2_2_35021 : Nat) (fo_2_35021 : Nat → Int32), (1 ≤ v2_2_35021) → (SdTo v2_2_35021 fo_2_35021) → (CtE n fo_2_35021 of) → (v2_2_35021 ≤ 100000) → 100001 - v2_2_35021 < m2_35021 → J x (mflat [(o, .inl (.inl (kA 1, 10, .inl fo_2_35021)))]) [(2, .int (nI v2_2_35021)), (0, .ref o), (1, .int (nI n))] 0 0 2 [] := by
    intro m2_35021
    induction m2_35021 with
    | zero =>
      intro v2_2_35021 fo_2_35021 i2_35021_0 i2_35021_1 i2_35021_2 i2_35021_3 hm2_35021
      exact absurd hm2_35021 (Nat.not_lt_zero _)
    | succ m2_35021 ih2_35021 =>
      intro v2_2_35021 fo_2_35021 i2_35021_0 i2_35021_1 i2_35021_2 i2_35021_3 hm2_35021
      refine j_iload_n h 0 rfl rfl dX12_sortUp_2 ?_
      refine j_iload_n h 2 rfl rfl dX12_sortUp_3 ?_
      refine j_icmp_ge h 56 dX12_sortUp_4 (by decide) (fun z350081 => ?_) (fun z350081 => ?_)
      · have z350081n : n ≤ v2_2_35021 := (nI_leI (a := n) (b := v2_2_35021) (by omega) (by omega)).mp z350081
        exact jm_vret h hq dX12_sortUp_56 fo_2_35021 [0] rfl (by decide) ⟨(show SdTo n fo_2_35021 by first | assumption | exact SdTo_mono (by assumption) (by omega) | exact SdX_end0 (by assumption) (by omega) | exact SdX_end (by assumption) (by omega) (by assumption) | exact SdTo_1 _ | omega), (show CtE n fo_2_35021 of by first | assumption | exact CtE_rfl _ _ | exact CtE_swap (by assumption) (by omega) (by omega) | omega)⟩ (Nat.le_of_ble_eq_true rfl) (Nat.le_of_ble_eq_true rfl)
      · have z350081n : ¬ n ≤ v2_2_35021 := fun q9 => z350081 ((nI_leI (a := n) (b := v2_2_35021) (by omega) (by omega)).mpr q9)
        refine j_iload_n h 0 rfl rfl dX12_sortUp_7 ?_
        refine j_istore_n (lv' := [(3, .int (nI v2_2_35021)), (2, .int (nI v2_2_35021)), (0, .ref o), (1, .int (nI n))]) h dX12_sortUp_8 rfl (by decide) rfl ?_
        have lp9_35024 : ∀ (m9_35024 : Nat), ∀ (v3_9_35024 : Nat) (fo_9_35024 : Nat → Int32), (v3_9_35024 ≤ v2_2_35021 + 1) → (SdX v2_2_35021 v3_9_35024 fo_9_35024) → (CtE n fo_9_35024 of) → (v2_2_35021 < n) → (v3_9_35024 ≤ 100000) → v3_9_35024 < m9_35024 → J x (mflat [(o, .inl (.inl (kA 1, 10, .inl fo_9_35024)))]) [(3, .int (pm v3_9_35024)), (2, .int (nI v2_2_35021)), (0, .ref o), (1, .int (nI n))] 0 0 9 [] := by
          intro m9_35024
          induction m9_35024 with
          | zero =>
            intro v3_9_35024 fo_9_35024 i9_35024_0 i9_35024_1 i9_35024_2 i9_35024_3 i9_35024_4 hm9_35024
            exact absurd hm9_35024 (Nat.not_lt_zero _)
          | succ m9_35024 ih9_35024 =>
            intro v3_9_35024 fo_9_35024 i9_35024_0 i9_35024_1 i9_35024_2 i9_35024_3 i9_35024_4 hm9_35024
            refine j_iload_n h 0 rfl rfl dX12_sortUp_9 ?_
            rcases v3_9_35024 with _ | j350092
            · show J x (mflat [(o, .inl (.inl (kA 1, 10, .inl fo_9_35024)))]) [(3, .int (-1)), (2, .int (nI v2_2_35021)), (0, .ref o), (1, .int (nI n))] 0 0 10 [.int (-1)]
              refine j_if_le h 50 dX12_sortUp_10 (by decide) (fun _ => ?_) (fun q => absurd (by decide) q)
              refine j_iinc (v := nI (v2_2_35021 + 1)) (lv' := [(2, .int (nI (v2_2_35021 + 1))), (3, .int (-1)), (0, .ref o), (1, .int (nI n))]) h dX12_sortUp_50 1 rfl (nI_add v2_2_35021 1) (by decide) rfl ?_
              refine j_goto h 2 dX12_sortUp_53 (by decide) ?_
              refine jm_sub [0] (w' := [(o, .inl (.inl (kA 1, 10, .inl fo_9_35024)))]) rfl (by decide +kernel) [0, 2, 3] (lv' := [(2, .int (nI (v2_2_35021 + 1))), (0, .ref o), (1, .int (nI n))]) rfl ?_
              exact ih2_35021 (v2_2_35021 + 1) fo_9_35024 (show 1 ≤ (v2_2_35021 + 1) by first | assumption | omega) (show SdTo (v2_2_35021 + 1) fo_9_35024 by first | assumption | exact SdX_end0 (by assumption) (by omega) | exact SdX_end (by assumption) (by omega) (by assumption) | exact SdTo_mono (by assumption) (by omega) | exact SdTo_1 _ | omega) (show CtE n fo_9_35024 of by first | assumption | exact CtE_rfl _ _ | exact CtE_swap (by assumption) (by omega) (by omega) | omega) (show (v2_2_35021 + 1) ≤ 100000 by first | assumption | omega) (show 100001 - (v2_2_35021 + 1) < m2_35021 by first | exact Nat.lt_of_lt_of_le (Nat.sub_lt_sub_left (Nat.lt_of_le_of_lt (show v2_2_35021 ≤ 100000 by assumption) (Nat.lt_succ_self 100000)) (Nat.lt_succ_self v2_2_35021)) (Nat.le_of_lt_succ hm2_35021) | omega)
            · show J x (mflat [(o, .inl (.inl (kA 1, 10, .inl fo_9_35024)))]) [(3, .int (nI j350092)), (2, .int (nI v2_2_35021)), (0, .ref o), (1, .int (nI n))] 0 0 10 [.int (nI j350092)]
              refine j_if_le h 50 dX12_sortUp_10 (by decide) (fun z350093 => ?_) (fun z350093 => ?_)
              · have z350093n : j350092 ≤ 0 := (nI_leI (a := j350092) (b := 0) (by omega) (by omega)).mp z350093
                refine j_iinc (v := nI (v2_2_35021 + 1)) (lv' := [(2, .int (nI (v2_2_35021 + 1))), (3, .int (nI j350092)), (0, .ref o), (1, .int (nI n))]) h dX12_sortUp_50 1 rfl (nI_add v2_2_35021 1) (by decide) rfl ?_
                refine j_goto h 2 dX12_sortUp_53 (by decide) ?_
                refine jm_sub [0] (w' := [(o, .inl (.inl (kA 1, 10, .inl fo_9_35024)))]) rfl (by decide +kernel) [0, 2, 3] (lv' := [(2, .int (nI (v2_2_35021 + 1))), (0, .ref o), (1, .int (nI n))]) rfl ?_
                exact ih2_35021 (v2_2_35021 + 1) fo_9_35024 (show 1 ≤ (v2_2_35021 + 1) by first | assumption | omega) (show SdTo (v2_2_35021 + 1) fo_9_35024 by first | assumption | exact SdX_end0 (by assumption) (by omega) | exact SdX_end (by assumption) (by omega) (by assumption) | exact SdTo_mono (by assumption) (by omega) | exact SdTo_1 _ | omega) (show CtE n fo_9_35024 of by first | assumption | exact CtE_rfl _ _ | exact CtE_swap (by assumption) (by omega) (by omega) | omega) (show (v2_2_35021 + 1) ≤ 100000 by first | assumption | omega) (show 100001 - (v2_2_35021 + 1) < m2_35021 by first | exact Nat.lt_of_lt_of_le (Nat.sub_lt_sub_left (Nat.lt_of_le_of_lt (show v2_2_35021 ≤ 100000 by assumption) (Nat.lt_succ_self 100000)) (Nat.lt_succ_self v2_2_35021)) (Nat.le_of_lt_succ hm2_35021) | omega)
              · have z350093n : ¬ j350092 ≤ 0 := fun q9 => z350093 ((nI_leI (a := j350092) (b := 0) (by omega) (by omega)).mpr q9)
                refine j_aload_n h 2 rfl rfl dX12_sortUp_13 ?_
                refine j_iload_n h 0 rfl rfl dX12_sortUp_14 ?_
                refine j_iconst (v := 1) h (by decide) dX12_sortUp_15 ?_
                refine j_isub h dX12_sortUp_16 ?_
                refine j_top (b := nI (j350092 - 1)) (pk_sub (a := j350092) (b := 1) (by omega)) ?_
                refine jm_iald h 0 rfl (j350092 - 1) rfl (by omega) (by omega) dX12_sortUp_17 ?_
                refine j_aload_n h 2 rfl rfl dX12_sortUp_18 ?_
                refine j_iload_n h 0 rfl rfl dX12_sortUp_19 ?_
                refine jm_iald h 0 rfl j350092 rfl (by omega) (by omega) dX12_sortUp_20 ?_
                refine j_icmp_le h 50 dX12_sortUp_21 (by decide) (fun z350094 => ?_) (fun z350094 => ?_)
                · show J x (mflat [(o, .inl (.inl (kA 1, 10, .inl fo_9_35024)))]) [(3, .int (nI j350092)), (2, .int (nI v2_2_35021)), (0, .ref o), (1, .int (nI n))] 0 0 50 []
                  refine j_iinc (v := nI (v2_2_35021 + 1)) (lv' := [(2, .int (nI (v2_2_35021 + 1))), (3, .int (nI j350092)), (0, .ref o), (1, .int (nI n))]) h dX12_sortUp_50 1 rfl (nI_add v2_2_35021 1) (by decide) rfl ?_
                  refine j_goto h 2 dX12_sortUp_53 (by decide) ?_
                  refine jm_sub [0] (w' := [(o, .inl (.inl (kA 1, 10, .inl fo_9_35024)))]) rfl (by decide +kernel) [0, 2, 3] (lv' := [(2, .int (nI (v2_2_35021 + 1))), (0, .ref o), (1, .int (nI n))]) rfl ?_
                  exact ih2_35021 (v2_2_35021 + 1) fo_9_35024 (show 1 ≤ (v2_2_35021 + 1) by first | assumption | omega) (show SdTo (v2_2_35021 + 1) fo_9_35024 by first | assumption | exact SdX_end0 (by assumption) (by omega) | exact SdX_end (by assumption) (by omega) (by assumption) | exact SdTo_mono (by assumption) (by omega) | exact SdTo_1 _ | omega) (show CtE n fo_9_35024 of by first | assumption | exact CtE_rfl _ _ | exact CtE_swap (by assumption) (by omega) (by omega) | omega) (show (v2_2_35021 + 1) ≤ 100000 by first | assumption | omega) (show 100001 - (v2_2_35021 + 1) < m2_35021 by first | exact Nat.lt_of_lt_of_le (Nat.sub_lt_sub_left (Nat.lt_of_le_of_lt (show v2_2_35021 ≤ 100000 by assumption) (Nat.lt_succ_self 100000)) (Nat.lt_succ_self v2_2_35021)) (Nat.le_of_lt_succ hm2_35021) | omega)
                · show J x (mflat [(o, .inl (.inl (kA 1, 10, .inl fo_9_35024)))]) [(3, .int (nI j350092)), (2, .int (nI v2_2_35021)), (0, .ref o), (1, .int (nI n))] 0 0 24 []
                  refine j_aload_n h 2 rfl rfl dX12_sortUp_24 ?_
                  refine j_iload_n h 0 rfl rfl dX12_sortUp_25 ?_
                  refine jm_iald h 0 rfl j350092 rfl (by omega) (by omega) dX12_sortUp_26 ?_
                  refine j_istore (lv' := [(4, .int (fo_9_35024 j350092)), (3, .int (nI j350092)), (2, .int (nI v2_2_35021)), (0, .ref o), (1, .int (nI n))]) h dX12_sortUp_27 (by decide) rfl ?_
                  refine j_aload_n h 3 rfl rfl dX12_sortUp_29 ?_
                  refine j_iload_n h 1 rfl rfl dX12_sortUp_30 ?_
                  refine j_aload_n h 3 rfl rfl dX12_sortUp_31 ?_
                  refine j_iload_n h 1 rfl rfl dX12_sortUp_32 ?_
                  refine j_iconst (v := 1) h (by decide) dX12_sortUp_33 ?_
                  refine j_isub h dX12_sortUp_34 ?_
                  refine j_top (b := nI (j350092 - 1)) (pk_sub (a := j350092) (b := 1) (by omega)) ?_
                  refine jm_iald h 0 rfl (j350092 - 1) rfl (by omega) (by omega) dX12_sortUp_35 ?_
                  refine jm_iast (w' := [(o, .inl (.inl (kA 1, 10, .inl (upd fo_9_35024 j350092 (fo_9_35024 (j350092 - 1))))))]) h 0 rfl j350092 rfl (by omega) (by omega) dX12_sortUp_36 rfl ?_
                  refine j_aload_n h 3 rfl rfl dX12_sortUp_37 ?_
                  refine j_iload_n h 1 rfl rfl dX12_sortUp_38 ?_
                  refine j_iconst (v := 1) h (by decide) dX12_sortUp_39 ?_
                  refine j_isub h dX12_sortUp_40 ?_
                  refine j_top (b := nI (j350092 - 1)) (pk_sub (a := j350092) (b := 1) (by omega)) ?_
                  refine j_iload h 0 rfl dX12_sortUp_41 ?_
                  refine jm_iast (w' := [(o, .inl (.inl (kA 1, 10, .inl (upd (upd fo_9_35024 j350092 (fo_9_35024 (j350092 - 1))) (j350092 - 1) (fo_9_35024 j350092)))))]) h 0 rfl (j350092 - 1) rfl (by omega) (by omega) dX12_sortUp_43 rfl ?_
                  obtain ⟨y350095, hy350096⟩ : ∃ y9, y9 = j350092 := ⟨_, rfl⟩
                  refine j_iinc (v := pm y350095) (lv' := [(3, .int (pm y350095)), (4, .int (fo_9_35024 j350092)), (2, .int (nI v2_2_35021)), (0, .ref o), (1, .int (nI n))]) h dX12_sortUp_44 1 rfl (by rw [hy350096]; exact pm_dec _) (by decide) rfl ?_
                  refine j_goto h 9 dX12_sortUp_47 (by decide) ?_
                  refine jm_sub [0] (w' := [(o, .inl (.inl (kA 1, 10, .inl (upd (upd fo_9_35024 j350092 (fo_9_35024 (j350092 - 1))) (j350092 - 1) (fo_9_35024 j350092)))))]) rfl (by decide +kernel) [0, 2, 3, 4] (lv' := [(3, .int (pm y350095)), (2, .int (nI v2_2_35021)), (0, .ref o), (1, .int (nI n))]) rfl ?_
                  exact ih9_35024 y350095 (upd (upd fo_9_35024 j350092 (fo_9_35024 (j350092 - 1))) (j350092 - 1) (fo_9_35024 j350092)) (show y350095 ≤ v2_2_35021 + 1 by first | assumption | omega) (show SdX v2_2_35021 y350095 (upd (upd fo_9_35024 j350092 (fo_9_35024 (j350092 - 1))) (j350092 - 1) (fo_9_35024 j350092)) from (by rw [show y350095 = _ by assumption]; exact SdX_swap (by assumption) (by omega) (by omega) (by assumption))) (show CtE n (upd (upd fo_9_35024 j350092 (fo_9_35024 (j350092 - 1))) (j350092 - 1) (fo_9_35024 j350092)) of by first | exact CtE_swap (by assumption) (by omega) (by omega) | assumption | exact CtE_rfl _ _ | omega) (show v2_2_35021 < n by first | assumption | omega) (show y350095 ≤ 100000 by first | assumption | omega) (show y350095 < m9_35024 by omega)
        refine jm_sub [0] (w' := [(o, .inl (.inl (kA 1, 10, .inl fo_2_35021)))]) rfl (by decide +kernel) [0, 1, 2, 3] (lv' := [(3, .int (nI v2_2_35021)), (2, .int (nI v2_2_35021)), (0, .ref o), (1, .int (nI n))]) rfl ?_
        exact lp9_35024 ((v2_2_35021 + 1) + 1) (v2_2_35021 + 1) fo_2_35021 (show (v2_2_35021 + 1) ≤ v2_2_35021 + 1 by first | assumption | omega) (show SdX v2_2_35021 (v2_2_35021 + 1) fo_2_35021 by first | assumption | exact SdX_0 (by assumption) | exact SdX_swap (by assumption) (by omega) (by omega) (by assumption) | omega) (show CtE n fo_2_35021 of by first | assumption | exact CtE_rfl _ _ | exact CtE_swap (by assumption) (by omega) (by omega) | omega) (show v2_2_35021 < n by first | assumption | omega) (show (v2_2_35021 + 1) ≤ 100000 by first | assumption | omega) (Nat.lt_succ_self _)
  refine jm_sub [0] (w' := [(o, .inl (.inl (kA 1, 10, .inl of)))]) rfl (by decide +kernel) [0, 1, 2] (lv' := [(2, .int 1), (0, .ref o), (1, .int (nI n))]) rfl ?_
  exact lp2_35021 (100001 - 1 + 1) 1 of (show 1 ≤ 1 by first | assumption | omega) (show SdTo 1 of by first | assumption | exact SdTo_1 _ | exact SdTo_mono (by assumption) (by omega) | exact SdX_end0 (by assumption) (by omega) | exact SdX_end (by assumption) (by omega) (by assumption) | omega) (show CtE n of of by first | assumption | exact CtE_rfl _ _ | exact CtE_swap (by assumption) (by omega) (by omega) | omega) (show 1 ≤ 100000 by first | assumption | omega) (Nat.lt_succ_self _)
set_option maxHeartbeats 4000000 in
set_option maxRecDepth 100000 in
theorem s_X12_rest (lau : Launch) (gg : va_G) (kA : Nat → ClassId) (m : Nat) (fr : Nat) (us : Int32) (m0 : Nat) (mtp : Nat) (mfa : Nat) (mfp : Int32) (mat : Nat) (msz : Nat) (mso : Nat) (mpl : Int32) (mnu : Int32) (mwd : Int64) (m10 : Nat) (m11 : Nat) (m12 : Nat) (m13 : Nat) (m14 : Nat) (m15 : Nat) (m16 : Nat) (m17 : Nat) (m18 : Nat) (m19 : Nat) (m20 : Nat) (m21 : Nat) (m22 : Nat) (m23 : Nat) (m24 : Nat) (mns : Nat) (mnl : Nat) (mne : Nat) (mst : Nat) (mlt : Nat) (mer : Nat) (m31 : Nat) (m32 : Nat) (m33 : Nat) (m34 : Nat) (m35 : Nat) (mwm : Nat) (mwt : Nat) (mwf : Nat) (m39 : Nat) (m40 : Nat) (m41 : Nat) (mla : Nat) (m43 : Nat) (m44 : Nat) (m45 : Nat) (m46 : Nat) (m47 : Nat) (m48 : Nat) (mtm : Nat) (m50 : Nat) (m51 : Nat) (m52 : Nat) (m53 : Nat) (m54 : Nat) (m55 : Nat) (m56 : Nat) (m57 : Nat) (m58 : Nat) (m59 : Nat) (m60 : Nat) (m61 : Nat) (msn : Nat) (mti : Nat) (m64 : Nat) (m65 : Nat) (m66 : Nat) (m67 : Nat) (m68 : Nat) (m69 : Nat) (mc31 : Nat → Int32) (mc53 : Nat → Int32) (mc54 : Nat → Int32) (mc55 : Nat → Int32) (hmst : mst ≤ 6) (hmlt : mlt ≤ 10) (hmer : mer ≤ 4) (hmls : LtOk mlt mc31) (hfr : fr ≤ mlt) (hU : nU us mlt + fr = mlt) : CtI lau yX12_rest cX12_rest 7 (some .int) 2 0 0 gg kA [.ref m, .int (nI fr), .int us] (mflat [(m, .inl (.inr (12, (.ref m0 :: .int (nI mtp) :: .int (nI mfa) :: .int mfp :: .int (nI mat) :: .int (nI msz) :: .int (nI mso) :: .int mpl :: .int mnu :: .long mwd :: .ref m10 :: .ref m11 :: .ref m12 :: .ref m13 :: .ref m14 :: .ref m15 :: .ref m16 :: .ref m17 :: .ref m18 :: .ref m19 :: .ref m20 :: .ref m21 :: .ref m22 :: .ref m23 :: .ref m24 :: .int (nI mns) :: .int (nI mnl) :: .int (nI mne) :: .int (nI mst) :: .int (nI mlt) :: .int (nI mer) :: .ref m31 :: .ref m32 :: .ref m33 :: .ref m34 :: .ref m35 :: .int (nI mwm) :: .int (nI mwt) :: .int (nI mwf) :: .ref m39 :: .ref m40 :: .ref m41 :: .int (nI mla) :: .ref m43 :: .ref m44 :: .ref m45 :: .ref m46 :: .ref m47 :: .ref m48 :: .int (nI mtm) :: .ref m50 :: .ref m51 :: .ref m52 :: .ref m53 :: .ref m54 :: .ref m55 :: .ref m56 :: .ref m57 :: .ref m58 :: .ref m59 :: .ref m60 :: .ref m61 :: .int (nI msn) :: .int (nI mti) :: .ref m64 :: .ref m65 :: .ref m66 :: .ref m67 :: .ref m68 :: .ref m69 :: [])))), (m31, .inl (.inl (kA 1, 10, .inl mc31))), (m53, .inl (.inl (kA 1, 10, .inl mc53))), (m54, .inl (.inl (kA 1, 10, .inl mc54))), (m55, .inl (.inl (kA 1, 10, .inl mc55)))]) (S := (Nat → Int32) × (Nat → Int32)) (fun (r : Int32) ((y_m54, y_m55) : (Nat → Int32) × (Nat → Int32)) => RestV mc53 mc31 mlt fr us r) (fun ((y_m54, y_m55) : (Nat → Int32) × (Nat → Int32)) => mflat [(m, .inl (.inr (12, (.ref m0 :: .int (nI mtp) :: .int (nI mfa) :: .int mfp :: .int (nI mat) :: .int (nI msz) :: .int (nI mso) :: .int mpl :: .int mnu :: .long mwd :: .ref m10 :: .ref m11 :: .ref m12 :: .ref m13 :: .ref m14 :: .ref m15 :: .ref m16 :: .ref m17 :: .ref m18 :: .ref m19 :: .ref m20 :: .ref m21 :: .ref m22 :: .ref m23 :: .ref m24 :: .int (nI mns) :: .int (nI mnl) :: .int (nI mne) :: .int (nI mst) :: .int (nI mlt) :: .int (nI mer) :: .ref m31 :: .ref m32 :: .ref m33 :: .ref m34 :: .ref m35 :: .int (nI mwm) :: .int (nI mwt) :: .int (nI mwf) :: .ref m39 :: .ref m40 :: .ref m41 :: .int (nI mla) :: .ref m43 :: .ref m44 :: .ref m45 :: .ref m46 :: .ref m47 :: .ref m48 :: .int (nI mtm) :: .ref m50 :: .ref m51 :: .ref m52 :: .ref m53 :: .ref m54 :: .ref m55 :: .ref m56 :: .ref m57 :: .ref m58 :: .ref m59 :: .ref m60 :: .ref m61 :: .int (nI msn) :: .int (nI mti) :: .ref m64 :: .ref m65 :: .ref m66 :: .ref m67 :: .ref m68 :: .ref m69 :: [])))), (m31, .inl (.inl (kA 1, 10, .inl mc31))), (m53, .inl (.inl (kA 1, 10, .inl mc53))), (m54, .inl (.inl (kA 1, 10, .inl y_m54))), (m55, .inl (.inl (kA 1, 10, .inl y_m55)))]) := by
  refine nx_startI (by decide +kernel) (Nat.le_of_ble_eq_true rfl) ?_
  intro x hnm h hq
  have h : Ok x cX12_rest RX12 kA (rmC 2 0 0) 7 := h
  show J x (mflat [(m, .inl (.inr (12, (.ref m0 :: .int (nI mtp) :: .int (nI mfa) :: .int mfp :: .int (nI mat) :: .int (nI msz) :: .int (nI mso) :: .int mpl :: .int mnu :: .long mwd :: .ref m10 :: .ref m11 :: .ref m12 :: .ref m13 :: .ref m14 :: .ref m15 :: .ref m16 :: .ref m17 :: .ref m18 :: .ref m19 :: .ref m20 :: .ref m21 :: .ref m22 :: .ref m23 :: .ref m24 :: .int (nI mns) :: .int (nI mnl) :: .int (nI mne) :: .int (nI mst) :: .int (nI mlt) :: .int (nI mer) :: .ref m31 :: .ref m32 :: .ref m33 :: .ref m34 :: .ref m35 :: .int (nI mwm) :: .int (nI mwt) :: .int (nI mwf) :: .ref m39 :: .ref m40 :: .ref m41 :: .int (nI mla) :: .ref m43 :: .ref m44 :: .ref m45 :: .ref m46 :: .ref m47 :: .ref m48 :: .int (nI mtm) :: .ref m50 :: .ref m51 :: .ref m52 :: .ref m53 :: .ref m54 :: .ref m55 :: .ref m56 :: .ref m57 :: .ref m58 :: .ref m59 :: .ref m60 :: .ref m61 :: .int (nI msn) :: .int (nI mti) :: .ref m64 :: .ref m65 :: .ref m66 :: .ref m67 :: .ref m68 :: .ref m69 :: [])))), (m31, .inl (.inl (kA 1, 10, .inl mc31))), (m53, .inl (.inl (kA 1, 10, .inl mc53))), (m54, .inl (.inl (kA 1, 10, .inl mc54))), (m55, .inl (.inl (kA 1, 10, .inl mc55)))]) [(0, .ref m), (1, .int (nI fr)), (2, .int us)] 0 0 0 []
  refine j_iconst (v := 0) h (by decide) dX12_rest_0 ?_
  refine j_istore_n (lv' := [(3, .int 0), (0, .ref m), (1, .int (nI fr)), (2, .int us)]) h dX12_rest_1 rfl (by decide) rfl ?_
  refine j_iload_n h 2 rfl rfl dX12_rest_2 ?_
  refine j_istore (lv' := [(4, .int (nI fr)), (3, .int 0), (0, .ref m), (1, .int (nI fr)), (2, .int us)]) h dX12_rest_3 (by decide) rfl ?_
  have lp5_35084 : ∀ (m5_35084 : Nat), ∀ (v4_5_35084 : Nat) (v3_5_35084 : Nat) (fm55_5_35084 : Nat → Int32), (v3_5_35084 + fr = v4_5_35084) → (v4_5_35084 ≤ mlt) → (EqTo v3_5_35084 fm55_5_35084 (fun j => mc53 (fr + j))) → (v4_5_35084 ≤ 100000) → (v3_5_35084 ≤ 100000) → 100001 - v4_5_35084 < m5_35084 → J x (mflat [(m, .inl (.inr (12, (.ref m0 :: .int (nI mtp) :: .int (nI mfa) :: .int mfp :: .int (nI mat) :: .int (nI msz) :: .int (nI mso) :: .int mpl :: .int mnu :: .long mwd :: .ref m10 :: .ref m11 :: .ref m12 :: .ref m13 :: .ref m14 :: .ref m15 :: .ref m16 :: .ref m17 :: .ref m18 :: .ref m19 :: .ref m20 :: .ref m21 :: .ref m22 :: .ref m23 :: .ref m24 :: .int (nI mns) :: .int (nI mnl) :: .int (nI mne) :: .int (nI mst) :: .int (nI mlt) :: .int (nI mer) :: .ref m31 :: .ref m32 :: .ref m33 :: .ref m34 :: .ref m35 :: .int (nI mwm) :: .int (nI mwt) :: .int (nI mwf) :: .ref m39 :: .ref m40 :: .ref m41 :: .int (nI mla) :: .ref m43 :: .ref m44 :: .ref m45 :: .ref m46 :: .ref m47 :: .ref m48 :: .int (nI mtm) :: .ref m50 :: .ref m51 :: .ref m52 :: .ref m53 :: .ref m54 :: .ref m55 :: .ref m56 :: .ref m57 :: .ref m58 :: .ref m59 :: .ref m60 :: .ref m61 :: .int (nI msn) :: .int (nI mti) :: .ref m64 :: .ref m65 :: .ref m66 :: .ref m67 :: .ref m68 :: .ref m69 :: [])))), (m31, .inl (.inl (kA 1, 10, .inl mc31))), (m53, .inl (.inl (kA 1, 10, .inl mc53))), (m54, .inl (.inl (kA 1, 10, .inl mc54))), (m55, .inl (.inl (kA 1, 10, .inl fm55_5_35084)))]) [(4, .int (nI v4_5_35084)), (3, .int (nI v3_5_35084)), (0, .ref m), (1, .int (nI fr)), (2, .int us)] 0 0 5 [] := by
    intro m5_35084
    induction m5_35084 with
    | zero =>
      intro v4_5_35084 v3_5_35084 fm55_5_35084 i5_35084_0 i5_35084_1 i5_35084_2 i5_35084_3 i5_35084_4 hm5_35084
      exact absurd hm5_35084 (Nat.not_lt_zero _)
    | succ m5_35084 ih5_35084 =>
      intro v4_5_35084 v3_5_35084 fm55_5_35084 i5_35084_0 i5_35084_1 i5_35084_2 i5_35084_3 i5_35084_4 hm5_35084
      refine j_iload h 0 rfl dX12_rest_5 ?_
      refine j_aload_n h 2 rfl rfl dX12_rest_7 ?_
      refine jm_get h iw_X12 0 rfl rfl 29 (by decide +kernel) tw_1185 rfl dX12_rest_8 ?_
      refine j_icmp_ge h 36 dX12_rest_11 (by decide) (fun z350369 => ?_) (fun z350369 => ?_)
      · have z350369n : mlt ≤ v4_5_35084 := (nI_leI (a := mlt) (b := v4_5_35084) (by omega) (by omega)).mp z350369
        refine j_iconst (v := 0) h (by decide) dX12_rest_36 ?_
        refine j_istore (lv' := [(4, .int 0), (3, .int (nI v3_5_35084)), (0, .ref m), (1, .int (nI fr)), (2, .int us)]) h dX12_rest_37 (by decide) rfl ?_
        refine j_iconst (v := 0) h (by decide) dX12_rest_39 ?_
        refine j_istore (lv' := [(5, .int 0), (4, .int 0), (3, .int (nI v3_5_35084)), (0, .ref m), (1, .int (nI fr)), (2, .int us)]) h dX12_rest_40 (by decide) rfl ?_
        have lp42_35093 : ∀ (m42_35093 : Nat), ∀ (v5_42_35093 : Nat) (v4_42_35093 : Nat) (fm54_42_35093 : Nat → Int32), (v4_42_35093 = nU us v5_42_35093) → (v4_42_35093 ≤ v5_42_35093) → (v5_42_35093 ≤ mlt) → (CtU fm54_42_35093 v4_42_35093 us mc31 v5_42_35093) → (v5_42_35093 ≤ 100000) → (v4_42_35093 ≤ 100000) → 100001 - v5_42_35093 < m42_35093 → J x (mflat [(m, .inl (.inr (12, (.ref m0 :: .int (nI mtp) :: .int (nI mfa) :: .int mfp :: .int (nI mat) :: .int (nI msz) :: .int (nI mso) :: .int mpl :: .int mnu :: .long mwd :: .ref m10 :: .ref m11 :: .ref m12 :: .ref m13 :: .ref m14 :: .ref m15 :: .ref m16 :: .ref m17 :: .ref m18 :: .ref m19 :: .ref m20 :: .ref m21 :: .ref m22 :: .ref m23 :: .ref m24 :: .int (nI mns) :: .int (nI mnl) :: .int (nI mne) :: .int (nI mst) :: .int (nI mlt) :: .int (nI mer) :: .ref m31 :: .ref m32 :: .ref m33 :: .ref m34 :: .ref m35 :: .int (nI mwm) :: .int (nI mwt) :: .int (nI mwf) :: .ref m39 :: .ref m40 :: .ref m41 :: .int (nI mla) :: .ref m43 :: .ref m44 :: .ref m45 :: .ref m46 :: .ref m47 :: .ref m48 :: .int (nI mtm) :: .ref m50 :: .ref m51 :: .ref m52 :: .ref m53 :: .ref m54 :: .ref m55 :: .ref m56 :: .ref m57 :: .ref m58 :: .ref m59 :: .ref m60 :: .ref m61 :: .int (nI msn) :: .int (nI mti) :: .ref m64 :: .ref m65 :: .ref m66 :: .ref m67 :: .ref m68 :: .ref m69 :: [])))), (m31, .inl (.inl (kA 1, 10, .inl mc31))), (m53, .inl (.inl (kA 1, 10, .inl mc53))), (m54, .inl (.inl (kA 1, 10, .inl fm54_42_35093))), (m55, .inl (.inl (kA 1, 10, .inl fm55_5_35084)))]) [(5, .int (nI v5_42_35093)), (4, .int (nI v4_42_35093)), (3, .int (nI v3_5_35084)), (0, .ref m), (1, .int (nI fr)), (2, .int us)] 0 0 42 [] := by
          intro m42_35093
          induction m42_35093 with
          | zero =>
            intro v5_42_35093 v4_42_35093 fm54_42_35093 i42_35093_0 i42_35093_1 i42_35093_2 i42_35093_3 i42_35093_4 i42_35093_5 hm42_35093
            exact absurd hm42_35093 (Nat.not_lt_zero _)
          | succ m42_35093 ih42_35093 =>
            intro v5_42_35093 v4_42_35093 fm54_42_35093 i42_35093_0 i42_35093_1 i42_35093_2 i42_35093_3 i42_35093_4 i42_35093_5 hm42_35093
            refine j_iload h 0 rfl dX12_rest_42 ?_
            refine j_aload_n h 3 rfl rfl dX12_rest_44 ?_
            refine jm_get h iw_X12 0 rfl rfl 29 (by decide +kernel) tw_1185 rfl dX12_rest_45 ?_
            refine j_icmp_ge h 87 dX12_rest_48 (by decide) (fun z350408 => ?_) (fun z350408 => ?_)
            · have z350408n : mlt ≤ v5_42_35093 := (nI_leI (a := mlt) (b := v5_42_35093) (by omega) (by omega)).mp z350408
              have n9 := (show v5_42_35093 = mlt by omega) ▸ i42_35093_0
              refine j_aload_n h 3 rfl rfl dX12_rest_87 ?_
              refine jm_get h iw_X12 0 rfl rfl 55 (by decide +kernel) tw_1211 rfl dX12_rest_88 ?_
              refine j_iload_n h 2 rfl rfl dX12_rest_91 ?_
              refine jm_callSv (np := 2) (isC := [4]) (isR := [0, 1, 2, 3]) (wc := [(m55, .inl (.inl (kA 1, 10, .inl fm55_5_35084)))]) (wr := [(m, .inl (.inr (12, (.ref m0 :: .int (nI mtp) :: .int (nI mfa) :: .int mfp :: .int (nI mat) :: .int (nI msz) :: .int (nI mso) :: .int mpl :: .int mnu :: .long mwd :: .ref m10 :: .ref m11 :: .ref m12 :: .ref m13 :: .ref m14 :: .ref m15 :: .ref m16 :: .ref m17 :: .ref m18 :: .ref m19 :: .ref m20 :: .ref m21 :: .ref m22 :: .ref m23 :: .ref m24 :: .int (nI mns) :: .int (nI mnl) :: .int (nI mne) :: .int (nI mst) :: .int (nI mlt) :: .int (nI mer) :: .ref m31 :: .ref m32 :: .ref m33 :: .ref m34 :: .ref m35 :: .int (nI mwm) :: .int (nI mwt) :: .int (nI mwf) :: .ref m39 :: .ref m40 :: .ref m41 :: .int (nI mla) :: .ref m43 :: .ref m44 :: .ref m45 :: .ref m46 :: .ref m47 :: .ref m48 :: .int (nI mtm) :: .ref m50 :: .ref m51 :: .ref m52 :: .ref m53 :: .ref m54 :: .ref m55 :: .ref m56 :: .ref m57 :: .ref m58 :: .ref m59 :: .ref m60 :: .ref m61 :: .int (nI msn) :: .int (nI mti) :: .ref m64 :: .ref m65 :: .ref m66 :: .ref m67 :: .ref m68 :: .ref m69 :: [])))), (m31, .inl (.inl (kA 1, 10, .inl mc31))), (m53, .inl (.inl (kA 1, 10, .inl mc53))), (m54, .inl (.inl (kA 1, 10, .inl fm54_42_35093)))]) (rest := []) (As := [.ref m55, .int (nI v3_5_35084)]) h (s_X12_sortUp _ _ kA m55 v3_5_35084 fm55_5_35084 (show v3_5_35084 ≤ 10 by first | assumption | omega)) tw_1640 tw_1641 tw_99 tw_1642 (by decide +kernel) rfl ⟨Nat.le_of_ble_eq_true rfl, Nat.le_of_ble_eq_true rfl⟩ (by decide +kernel) rfl rfl (by decide +kernel) (by decide +kernel) (Nat.le_of_ble_eq_true rfl) rfl ⟨Nat.le_of_ble_eq_true rfl, Nat.le_of_ble_eq_true rfl⟩ dX12_rest_92 ?_
              rintro q350409 e350410
              obtain ⟨p350412, p350413⟩ := e350410
              replace p350412 : SdTo v3_5_35084 q350409 := p350412
              replace p350413 : CtE v3_5_35084 q350409 fm55_5_35084 := p350413
              show J x (mflat [(m, .inl (.inr (12, (.ref m0 :: .int (nI mtp) :: .int (nI mfa) :: .int mfp :: .int (nI mat) :: .int (nI msz) :: .int (nI mso) :: .int mpl :: .int mnu :: .long mwd :: .ref m10 :: .ref m11 :: .ref m12 :: .ref m13 :: .ref m14 :: .ref m15 :: .ref m16 :: .ref m17 :: .ref m18 :: .ref m19 :: .ref m20 :: .ref m21 :: .ref m22 :: .ref m23 :: .ref m24 :: .int (nI mns) :: .int (nI mnl) :: .int (nI mne) :: .int (nI mst) :: .int (nI mlt) :: .int (nI mer) :: .ref m31 :: .ref m32 :: .ref m33 :: .ref m34 :: .ref m35 :: .int (nI mwm) :: .int (nI mwt) :: .int (nI mwf) :: .ref m39 :: .ref m40 :: .ref m41 :: .int (nI mla) :: .ref m43 :: .ref m44 :: .ref m45 :: .ref m46 :: .ref m47 :: .ref m48 :: .int (nI mtm) :: .ref m50 :: .ref m51 :: .ref m52 :: .ref m53 :: .ref m54 :: .ref m55 :: .ref m56 :: .ref m57 :: .ref m58 :: .ref m59 :: .ref m60 :: .ref m61 :: .int (nI msn) :: .int (nI mti) :: .ref m64 :: .ref m65 :: .ref m66 :: .ref m67 :: .ref m68 :: .ref m69 :: [])))), (m31, .inl (.inl (kA 1, 10, .inl mc31))), (m53, .inl (.inl (kA 1, 10, .inl mc53))), (m54, .inl (.inl (kA 1, 10, .inl fm54_42_35093))), (m55, .inl (.inl (kA 1, 10, .inl q350409)))]) [(5, .int (nI v5_42_35093)), (4, .int (nI v4_42_35093)), (3, .int (nI v3_5_35084)), (0, .ref m), (1, .int (nI fr)), (2, .int us)] 0 0 95 []
              refine j_aload_n h 3 rfl rfl dX12_rest_95 ?_
              refine jm_get h iw_X12 0 rfl rfl 54 (by decide +kernel) tw_1210 rfl dX12_rest_96 ?_
              refine j_iload_n h 2 rfl rfl dX12_rest_99 ?_
              refine jm_callSv (np := 2) (isC := [3]) (isR := [0, 1, 2, 4]) (wc := [(m54, .inl (.inl (kA 1, 10, .inl fm54_42_35093)))]) (wr := [(m, .inl (.inr (12, (.ref m0 :: .int (nI mtp) :: .int (nI mfa) :: .int mfp :: .int (nI mat) :: .int (nI msz) :: .int (nI mso) :: .int mpl :: .int mnu :: .long mwd :: .ref m10 :: .ref m11 :: .ref m12 :: .ref m13 :: .ref m14 :: .ref m15 :: .ref m16 :: .ref m17 :: .ref m18 :: .ref m19 :: .ref m20 :: .ref m21 :: .ref m22 :: .ref m23 :: .ref m24 :: .int (nI mns) :: .int (nI mnl) :: .int (nI mne) :: .int (nI mst) :: .int (nI mlt) :: .int (nI mer) :: .ref m31 :: .ref m32 :: .ref m33 :: .ref m34 :: .ref m35 :: .int (nI mwm) :: .int (nI mwt) :: .int (nI mwf) :: .ref m39 :: .ref m40 :: .ref m41 :: .int (nI mla) :: .ref m43 :: .ref m44 :: .ref m45 :: .ref m46 :: .ref m47 :: .ref m48 :: .int (nI mtm) :: .ref m50 :: .ref m51 :: .ref m52 :: .ref m53 :: .ref m54 :: .ref m55 :: .ref m56 :: .ref m57 :: .ref m58 :: .ref m59 :: .ref m60 :: .ref m61 :: .int (nI msn) :: .int (nI mti) :: .ref m64 :: .ref m65 :: .ref m66 :: .ref m67 :: .ref m68 :: .ref m69 :: [])))), (m31, .inl (.inl (kA 1, 10, .inl mc31))), (m53, .inl (.inl (kA 1, 10, .inl mc53))), (m55, .inl (.inl (kA 1, 10, .inl q350409)))]) (rest := []) (As := [.ref m54, .int (nI v3_5_35084)]) h (s_X12_sortUp _ _ kA m54 v3_5_35084 fm54_42_35093 (show v3_5_35084 ≤ 10 by first | assumption | omega)) tw_1640 tw_1641 tw_99 tw_1642 (by decide +kernel) rfl ⟨Nat.le_of_ble_eq_true rfl, Nat.le_of_ble_eq_true rfl⟩ (by decide +kernel) rfl rfl (by decide +kernel) (by decide +kernel) (Nat.le_of_ble_eq_true rfl) rfl ⟨Nat.le_of_ble_eq_true rfl, Nat.le_of_ble_eq_true rfl⟩ dX12_rest_100 ?_
              rintro q350414 e350415
              obtain ⟨p350417, p350418⟩ := e350415
              replace p350417 : SdTo v3_5_35084 q350414 := p350417
              replace p350418 : CtE v3_5_35084 q350414 fm54_42_35093 := p350418
              show J x (mflat [(m, .inl (.inr (12, (.ref m0 :: .int (nI mtp) :: .int (nI mfa) :: .int mfp :: .int (nI mat) :: .int (nI msz) :: .int (nI mso) :: .int mpl :: .int mnu :: .long mwd :: .ref m10 :: .ref m11 :: .ref m12 :: .ref m13 :: .ref m14 :: .ref m15 :: .ref m16 :: .ref m17 :: .ref m18 :: .ref m19 :: .ref m20 :: .ref m21 :: .ref m22 :: .ref m23 :: .ref m24 :: .int (nI mns) :: .int (nI mnl) :: .int (nI mne) :: .int (nI mst) :: .int (nI mlt) :: .int (nI mer) :: .ref m31 :: .ref m32 :: .ref m33 :: .ref m34 :: .ref m35 :: .int (nI mwm) :: .int (nI mwt) :: .int (nI mwf) :: .ref m39 :: .ref m40 :: .ref m41 :: .int (nI mla) :: .ref m43 :: .ref m44 :: .ref m45 :: .ref m46 :: .ref m47 :: .ref m48 :: .int (nI mtm) :: .ref m50 :: .ref m51 :: .ref m52 :: .ref m53 :: .ref m54 :: .ref m55 :: .ref m56 :: .ref m57 :: .ref m58 :: .ref m59 :: .ref m60 :: .ref m61 :: .int (nI msn) :: .int (nI mti) :: .ref m64 :: .ref m65 :: .ref m66 :: .ref m67 :: .ref m68 :: .ref m69 :: [])))), (m31, .inl (.inl (kA 1, 10, .inl mc31))), (m53, .inl (.inl (kA 1, 10, .inl mc53))), (m55, .inl (.inl (kA 1, 10, .inl q350409))), (m54, .inl (.inl (kA 1, 10, .inl q350414)))]) [(5, .int (nI v5_42_35093)), (4, .int (nI v4_42_35093)), (3, .int (nI v3_5_35084)), (0, .ref m), (1, .int (nI fr)), (2, .int us)] 0 0 103 []
              refine j_iconst (v := 0) h (by decide) dX12_rest_103 ?_
              refine j_istore (lv' := [(5, .int 0), (4, .int (nI v4_42_35093)), (3, .int (nI v3_5_35084)), (0, .ref m), (1, .int (nI fr)), (2, .int us)]) h dX12_rest_104 (by decide) rfl ?_
              refine j_iconst (v := 0) h (by decide) dX12_rest_106 ?_
              refine j_istore (lv' := [(6, .int 0), (5, .int 0), (4, .int (nI v4_42_35093)), (3, .int (nI v3_5_35084)), (0, .ref m), (1, .int (nI fr)), (2, .int us)]) h dX12_rest_107 (by decide) rfl ?_
              have lp109_35096 : ∀ (m109_35096 : Nat), ∀ (v6_109_35096 : Nat) (v5_109_35096 : Int32), (v5_109_35096 = dotS q350409 q350414 v3_5_35084 v6_109_35096) → (v6_109_35096 ≤ v3_5_35084) → (v6_109_35096 ≤ 100000) → 100001 - v6_109_35096 < m109_35096 → J x (mflat [(m, .inl (.inr (12, (.ref m0 :: .int (nI mtp) :: .int (nI mfa) :: .int mfp :: .int (nI mat) :: .int (nI msz) :: .int (nI mso) :: .int mpl :: .int mnu :: .long mwd :: .ref m10 :: .ref m11 :: .ref m12 :: .ref m13 :: .ref m14 :: .ref m15 :: .ref m16 :: .ref m17 :: .ref m18 :: .ref m19 :: .ref m20 :: .ref m21 :: .ref m22 :: .ref m23 :: .ref m24 :: .int (nI mns) :: .int (nI mnl) :: .int (nI mne) :: .int (nI mst) :: .int (nI mlt) :: .int (nI mer) :: .ref m31 :: .ref m32 :: .ref m33 :: .ref m34 :: .ref m35 :: .int (nI mwm) :: .int (nI mwt) :: .int (nI mwf) :: .ref m39 :: .ref m40 :: .ref m41 :: .int (nI mla) :: .ref m43 :: .ref m44 :: .ref m45 :: .ref m46 :: .ref m47 :: .ref m48 :: .int (nI mtm) :: .ref m50 :: .ref m51 :: .ref m52 :: .ref m53 :: .ref m54 :: .ref m55 :: .ref m56 :: .ref m57 :: .ref m58 :: .ref m59 :: .ref m60 :: .ref m61 :: .int (nI msn) :: .int (nI mti) :: .ref m64 :: .ref m65 :: .ref m66 :: .ref m67 :: .ref m68 :: .ref m69 :: [])))), (m31, .inl (.inl (kA 1, 10, .inl mc31))), (m53, .inl (.inl (kA 1, 10, .inl mc53))), (m55, .inl (.inl (kA 1, 10, .inl q350409))), (m54, .inl (.inl (kA 1, 10, .inl q350414)))]) [(6, .int (nI v6_109_35096)), (5, .int v5_109_35096), (4, .int (nI v4_42_35093)), (3, .int (nI v3_5_35084)), (0, .ref m), (1, .int (nI fr)), (2, .int us)] 0 0 109 [] := by
                intro m109_35096
                induction m109_35096 with
                | zero =>
                  intro v6_109_35096 v5_109_35096 i109_35096_0 i109_35096_1 i109_35096_2 hm109_35096
                  exact absurd hm109_35096 (Nat.not_lt_zero _)
                | succ m109_35096 ih109_35096 =>
                  intro v6_109_35096 v5_109_35096 i109_35096_0 i109_35096_1 i109_35096_2 hm109_35096
                  refine j_iload h 0 rfl dX12_rest_109 ?_
                  refine j_iload_n h 3 rfl rfl dX12_rest_111 ?_
                  refine j_icmp_ge h 145 dX12_rest_112 (by decide) (fun z350421 => ?_) (fun z350421 => ?_)
                  · have z350421n : v3_5_35084 ≤ v6_109_35096 := (nI_leI (a := v3_5_35084) (b := v6_109_35096) (by omega) (by omega)).mp z350421
                    refine j_iload h 1 rfl dX12_rest_145 ?_
                    exact jm_iret h hq dX12_rest_147 (q350414, q350409) [0, 1, 2, 4, 3] rfl (by decide) (show RestV mc53 mc31 mlt fr us v5_109_35096 from RestV_mk (n := v3_5_35084) (by omega) p350412 p350417 p350413 i5_35084_2 p350418 ((show v5_42_35093 = mlt by omega) ▸ i42_35093_3) (by omega) ((show v6_109_35096 = v3_5_35084 by omega) ▸ i109_35096_0)) (Nat.le_of_ble_eq_true rfl) (Nat.le_of_ble_eq_true rfl)
                  · have z350421n : ¬ v3_5_35084 ≤ v6_109_35096 := fun q9 => z350421 ((nI_leI (a := v3_5_35084) (b := v6_109_35096) (by omega) (by omega)).mpr q9)
                    refine j_iload h 1 rfl dX12_rest_115 ?_
                    refine j_aload_n h 4 rfl rfl dX12_rest_117 ?_
                    refine jm_get h iw_X12 0 rfl rfl 55 (by decide +kernel) tw_1211 rfl dX12_rest_118 ?_
                    refine j_iload h 0 rfl dX12_rest_121 ?_
                    refine jm_iald h 3 rfl v6_109_35096 rfl (by omega) (by omega) dX12_rest_123 ?_
                    refine j_aload_n h 4 rfl rfl dX12_rest_124 ?_
                    refine jm_get h iw_X12 0 rfl rfl 54 (by decide +kernel) tw_1210 rfl dX12_rest_125 ?_
                    refine j_iload_n h 3 rfl rfl dX12_rest_128 ?_
                    refine j_iconst (v := 1) h (by decide) dX12_rest_129 ?_
                    refine j_isub h dX12_rest_130 ?_
                    refine j_top (b := nI (v3_5_35084 - 1)) (pk_sub (a := v3_5_35084) (b := 1) (by omega)) ?_
                    refine j_iload h 0 rfl dX12_rest_131 ?_
                    refine j_isub h dX12_rest_133 ?_
                    refine j_top (b := nI ((v3_5_35084 - 1) - v6_109_35096)) (pk_sub (a := (v3_5_35084 - 1)) (b := v6_109_35096) (by omega)) ?_
                    refine jm_iald h 4 rfl ((v3_5_35084 - 1) - v6_109_35096) rfl (by omega) (by omega) dX12_rest_134 ?_
                    refine j_imul h dX12_rest_135 ?_
                    refine j_iadd h dX12_rest_136 ?_
                    refine j_istore (lv' := [(5, .int (v5_109_35096 + ((q350409 v6_109_35096) * (q350414 ((v3_5_35084 - 1) - v6_109_35096))))), (6, .int (nI v6_109_35096)), (4, .int (nI v4_42_35093)), (3, .int (nI v3_5_35084)), (0, .ref m), (1, .int (nI fr)), (2, .int us)]) h dX12_rest_137 (by decide) rfl ?_
                    refine j_iinc (v := nI (v6_109_35096 + 1)) (lv' := [(6, .int (nI (v6_109_35096 + 1))), (5, .int (v5_109_35096 + ((q350409 v6_109_35096) * (q350414 ((v3_5_35084 - 1) - v6_109_35096))))), (4, .int (nI v4_42_35093)), (3, .int (nI v3_5_35084)), (0, .ref m), (1, .int (nI fr)), (2, .int us)]) h dX12_rest_139 1 rfl (nI_add v6_109_35096 1) (by decide) rfl ?_
                    refine j_goto h 109 dX12_rest_142 (by decide) ?_
                    refine jm_sub [0, 1, 2, 3, 4] (w' := [(m, .inl (.inr (12, (.ref m0 :: .int (nI mtp) :: .int (nI mfa) :: .int mfp :: .int (nI mat) :: .int (nI msz) :: .int (nI mso) :: .int mpl :: .int mnu :: .long mwd :: .ref m10 :: .ref m11 :: .ref m12 :: .ref m13 :: .ref m14 :: .ref m15 :: .ref m16 :: .ref m17 :: .ref m18 :: .ref m19 :: .ref m20 :: .ref m21 :: .ref m22 :: .ref m23 :: .ref m24 :: .int (nI mns) :: .int (nI mnl) :: .int (nI mne) :: .int (nI mst) :: .int (nI mlt) :: .int (nI mer) :: .ref m31 :: .ref m32 :: .ref m33 :: .ref m34 :: .ref m35 :: .int (nI mwm) :: .int (nI mwt) :: .int (nI mwf) :: .ref m39 :: .ref m40 :: .ref m41 :: .int (nI mla) :: .ref m43 :: .ref m44 :: .ref m45 :: .ref m46 :: .ref m47 :: .ref m48 :: .int (nI mtm) :: .ref m50 :: .ref m51 :: .ref m52 :: .ref m53 :: .ref m54 :: .ref m55 :: .ref m56 :: .ref m57 :: .ref m58 :: .ref m59 :: .ref m60 :: .ref m61 :: .int (nI msn) :: .int (nI mti) :: .ref m64 :: .ref m65 :: .ref m66 :: .ref m67 :: .ref m68 :: .ref m69 :: [])))), (m31, .inl (.inl (kA 1, 10, .inl mc31))), (m53, .inl (.inl (kA 1, 10, .inl mc53))), (m55, .inl (.inl (kA 1, 10, .inl q350409))), (m54, .inl (.inl (kA 1, 10, .inl q350414)))]) rfl (by decide +kernel) [0, 1, 2, 3, 4, 5, 6] (lv' := [(6, .int (nI (v6_109_35096 + 1))), (5, .int (v5_109_35096 + ((q350409 v6_109_35096) * (q350414 ((v3_5_35084 - 1) - v6_109_35096))))), (4, .int (nI v4_42_35093)), (3, .int (nI v3_5_35084)), (0, .ref m), (1, .int (nI fr)), (2, .int us)]) rfl ?_
                    exact ih109_35096 (v6_109_35096 + 1) (v5_109_35096 + ((q350409 v6_109_35096) * (q350414 ((v3_5_35084 - 1) - v6_109_35096)))) (show (v5_109_35096 + ((q350409 v6_109_35096) * (q350414 ((v3_5_35084 - 1) - v6_109_35096)))) = dotS q350409 q350414 v3_5_35084 (v6_109_35096 + 1) from dot_s (by assumption)) (show (v6_109_35096 + 1) ≤ v3_5_35084 by first | assumption | omega) (show (v6_109_35096 + 1) ≤ 100000 by first | assumption | omega) (show 100001 - (v6_109_35096 + 1) < m109_35096 by first | exact Nat.lt_of_lt_of_le (Nat.sub_lt_sub_left (Nat.lt_of_le_of_lt (show v6_109_35096 ≤ 100000 by assumption) (Nat.lt_succ_self 100000)) (Nat.lt_succ_self v6_109_35096)) (Nat.le_of_lt_succ hm109_35096) | omega)
              refine jm_sub [0, 1, 2, 3, 4] (w' := [(m, .inl (.inr (12, (.ref m0 :: .int (nI mtp) :: .int (nI mfa) :: .int mfp :: .int (nI mat) :: .int (nI msz) :: .int (nI mso) :: .int mpl :: .int mnu :: .long mwd :: .ref m10 :: .ref m11 :: .ref m12 :: .ref m13 :: .ref m14 :: .ref m15 :: .ref m16 :: .ref m17 :: .ref m18 :: .ref m19 :: .ref m20 :: .ref m21 :: .ref m22 :: .ref m23 :: .ref m24 :: .int (nI mns) :: .int (nI mnl) :: .int (nI mne) :: .int (nI mst) :: .int (nI mlt) :: .int (nI mer) :: .ref m31 :: .ref m32 :: .ref m33 :: .ref m34 :: .ref m35 :: .int (nI mwm) :: .int (nI mwt) :: .int (nI mwf) :: .ref m39 :: .ref m40 :: .ref m41 :: .int (nI mla) :: .ref m43 :: .ref m44 :: .ref m45 :: .ref m46 :: .ref m47 :: .ref m48 :: .int (nI mtm) :: .ref m50 :: .ref m51 :: .ref m52 :: .ref m53 :: .ref m54 :: .ref m55 :: .ref m56 :: .ref m57 :: .ref m58 :: .ref m59 :: .ref m60 :: .ref m61 :: .int (nI msn) :: .int (nI mti) :: .ref m64 :: .ref m65 :: .ref m66 :: .ref m67 :: .ref m68 :: .ref m69 :: [])))), (m31, .inl (.inl (kA 1, 10, .inl mc31))), (m53, .inl (.inl (kA 1, 10, .inl mc53))), (m55, .inl (.inl (kA 1, 10, .inl q350409))), (m54, .inl (.inl (kA 1, 10, .inl q350414)))]) rfl (by decide +kernel) [0, 1, 2, 3, 4, 5, 6] (lv' := [(6, .int 0), (5, .int 0), (4, .int (nI v4_42_35093)), (3, .int (nI v3_5_35084)), (0, .ref m), (1, .int (nI fr)), (2, .int us)]) rfl ?_
              exact lp109_35096 (100001 - 0 + 1) 0 0 (show 0 = dotS q350409 q350414 v3_5_35084 0 from rfl) (show 0 ≤ v3_5_35084 by first | assumption | omega) (show 0 ≤ 100000 by first | assumption | omega) (Nat.lt_succ_self _)
            · have z350408n : ¬ mlt ≤ v5_42_35093 := fun q9 => z350408 ((nI_leI (a := mlt) (b := v5_42_35093) (by omega) (by omega)).mpr q9)
              refine j_iload_n h 5 rfl rfl dX12_rest_51 ?_
              refine j_iload h 0 rfl dX12_rest_52 ?_
              refine j_ishr h dX12_rest_54 ?_
              refine j_iconst (v := 1) h (by decide) dX12_rest_55 ?_
              refine j_iand h dX12_rest_56 ?_
              refine j_iconst (v := 1) h (by decide) dX12_rest_57 ?_
              refine j_icmp_ne h 64 dX12_rest_58 (by decide) (fun z350422 => ?_) (fun z350422 => ?_)
              · show J x (mflat [(m, .inl (.inr (12, (.ref m0 :: .int (nI mtp) :: .int (nI mfa) :: .int mfp :: .int (nI mat) :: .int (nI msz) :: .int (nI mso) :: .int mpl :: .int mnu :: .long mwd :: .ref m10 :: .ref m11 :: .ref m12 :: .ref m13 :: .ref m14 :: .ref m15 :: .ref m16 :: .ref m17 :: .ref m18 :: .ref m19 :: .ref m20 :: .ref m21 :: .ref m22 :: .ref m23 :: .ref m24 :: .int (nI mns) :: .int (nI mnl) :: .int (nI mne) :: .int (nI mst) :: .int (nI mlt) :: .int (nI mer) :: .ref m31 :: .ref m32 :: .ref m33 :: .ref m34 :: .ref m35 :: .int (nI mwm) :: .int (nI mwt) :: .int (nI mwf) :: .ref m39 :: .ref m40 :: .ref m41 :: .int (nI mla) :: .ref m43 :: .ref m44 :: .ref m45 :: .ref m46 :: .ref m47 :: .ref m48 :: .int (nI mtm) :: .ref m50 :: .ref m51 :: .ref m52 :: .ref m53 :: .ref m54 :: .ref m55 :: .ref m56 :: .ref m57 :: .ref m58 :: .ref m59 :: .ref m60 :: .ref m61 :: .int (nI msn) :: .int (nI mti) :: .ref m64 :: .ref m65 :: .ref m66 :: .ref m67 :: .ref m68 :: .ref m69 :: [])))), (m31, .inl (.inl (kA 1, 10, .inl mc31))), (m53, .inl (.inl (kA 1, 10, .inl mc53))), (m54, .inl (.inl (kA 1, 10, .inl fm54_42_35093))), (m55, .inl (.inl (kA 1, 10, .inl fm55_5_35084)))]) [(5, .int (nI v5_42_35093)), (4, .int (nI v4_42_35093)), (3, .int (nI v3_5_35084)), (0, .ref m), (1, .int (nI fr)), (2, .int us)] 0 0 64 []
                refine j_aload_n h 3 rfl rfl dX12_rest_64 ?_
                refine jm_get h iw_X12 0 rfl rfl 54 (by decide +kernel) tw_1210 rfl dX12_rest_65 ?_
                refine j_iload h 1 rfl dX12_rest_68 ?_
                refine j_aload_n h 3 rfl rfl dX12_rest_70 ?_
                refine jm_get h iw_X12 0 rfl rfl 31 (by decide +kernel) tw_1187 rfl dX12_rest_71 ?_
                refine j_iload h 0 rfl dX12_rest_74 ?_
                refine jm_iald h 1 rfl v5_42_35093 rfl (by omega) (by omega) dX12_rest_76 ?_
                obtain ⟨t350423, u350424, u350425, u350426⟩ := (show LtOk mlt mc31 by assumption) v5_42_35093 (by omega)
                refine j_top (b := nI t350423) (u350426) ?_
                refine jm_iast (w' := [(m, .inl (.inr (12, (.ref m0 :: .int (nI mtp) :: .int (nI mfa) :: .int mfp :: .int (nI mat) :: .int (nI msz) :: .int (nI mso) :: .int mpl :: .int mnu :: .long mwd :: .ref m10 :: .ref m11 :: .ref m12 :: .ref m13 :: .ref m14 :: .ref m15 :: .ref m16 :: .ref m17 :: .ref m18 :: .ref m19 :: .ref m20 :: .ref m21 :: .ref m22 :: .ref m23 :: .ref m24 :: .int (nI mns) :: .int (nI mnl) :: .int (nI mne) :: .int (nI mst) :: .int (nI mlt) :: .int (nI mer) :: .ref m31 :: .ref m32 :: .ref m33 :: .ref m34 :: .ref m35 :: .int (nI mwm) :: .int (nI mwt) :: .int (nI mwf) :: .ref m39 :: .ref m40 :: .ref m41 :: .int (nI mla) :: .ref m43 :: .ref m44 :: .ref m45 :: .ref m46 :: .ref m47 :: .ref m48 :: .int (nI mtm) :: .ref m50 :: .ref m51 :: .ref m52 :: .ref m53 :: .ref m54 :: .ref m55 :: .ref m56 :: .ref m57 :: .ref m58 :: .ref m59 :: .ref m60 :: .ref m61 :: .int (nI msn) :: .int (nI mti) :: .ref m64 :: .ref m65 :: .ref m66 :: .ref m67 :: .ref m68 :: .ref m69 :: [])))), (m31, .inl (.inl (kA 1, 10, .inl mc31))), (m53, .inl (.inl (kA 1, 10, .inl mc53))), (m54, .inl (.inl (kA 1, 10, .inl (upd fm54_42_35093 v4_42_35093 (nI t350423))))), (m55, .inl (.inl (kA 1, 10, .inl fm55_5_35084)))]) h 3 rfl v4_42_35093 rfl (by omega) (by omega) dX12_rest_77 rfl ?_
                refine j_iinc (v := nI (v4_42_35093 + 1)) (lv' := [(4, .int (nI (v4_42_35093 + 1))), (5, .int (nI v5_42_35093)), (3, .int (nI v3_5_35084)), (0, .ref m), (1, .int (nI fr)), (2, .int us)]) h dX12_rest_78 1 rfl (nI_add v4_42_35093 1) (by decide) rfl ?_
                refine j_iinc (v := nI (v5_42_35093 + 1)) (lv' := [(5, .int (nI (v5_42_35093 + 1))), (4, .int (nI (v4_42_35093 + 1))), (3, .int (nI v3_5_35084)), (0, .ref m), (1, .int (nI fr)), (2, .int us)]) h dX12_rest_81 1 rfl (nI_add v5_42_35093 1) (by decide) rfl ?_
                refine j_goto h 42 dX12_rest_84 (by decide) ?_
                refine jm_sub [0, 1, 2, 3, 4] (w' := [(m, .inl (.inr (12, (.ref m0 :: .int (nI mtp) :: .int (nI mfa) :: .int mfp :: .int (nI mat) :: .int (nI msz) :: .int (nI mso) :: .int mpl :: .int mnu :: .long mwd :: .ref m10 :: .ref m11 :: .ref m12 :: .ref m13 :: .ref m14 :: .ref m15 :: .ref m16 :: .ref m17 :: .ref m18 :: .ref m19 :: .ref m20 :: .ref m21 :: .ref m22 :: .ref m23 :: .ref m24 :: .int (nI mns) :: .int (nI mnl) :: .int (nI mne) :: .int (nI mst) :: .int (nI mlt) :: .int (nI mer) :: .ref m31 :: .ref m32 :: .ref m33 :: .ref m34 :: .ref m35 :: .int (nI mwm) :: .int (nI mwt) :: .int (nI mwf) :: .ref m39 :: .ref m40 :: .ref m41 :: .int (nI mla) :: .ref m43 :: .ref m44 :: .ref m45 :: .ref m46 :: .ref m47 :: .ref m48 :: .int (nI mtm) :: .ref m50 :: .ref m51 :: .ref m52 :: .ref m53 :: .ref m54 :: .ref m55 :: .ref m56 :: .ref m57 :: .ref m58 :: .ref m59 :: .ref m60 :: .ref m61 :: .int (nI msn) :: .int (nI mti) :: .ref m64 :: .ref m65 :: .ref m66 :: .ref m67 :: .ref m68 :: .ref m69 :: [])))), (m31, .inl (.inl (kA 1, 10, .inl mc31))), (m53, .inl (.inl (kA 1, 10, .inl mc53))), (m54, .inl (.inl (kA 1, 10, .inl (upd fm54_42_35093 v4_42_35093 (nI t350423))))), (m55, .inl (.inl (kA 1, 10, .inl fm55_5_35084)))]) rfl (by decide +kernel) [0, 1, 2, 3, 4, 5] (lv' := [(5, .int (nI (v5_42_35093 + 1))), (4, .int (nI (v4_42_35093 + 1))), (3, .int (nI v3_5_35084)), (0, .ref m), (1, .int (nI fr)), (2, .int us)]) rfl ?_
                exact ih42_35093 (v5_42_35093 + 1) (v4_42_35093 + 1) (upd fm54_42_35093 v4_42_35093 (nI t350423)) (show (v4_42_35093 + 1) = nU us (v5_42_35093 + 1) from nU_p (by assumption) z350422) (show (v4_42_35093 + 1) ≤ (v5_42_35093 + 1) by first | assumption | omega) (show (v5_42_35093 + 1) ≤ mlt by first | assumption | omega) (show CtU (upd fm54_42_35093 v4_42_35093 (nI t350423)) (v4_42_35093 + 1) us mc31 (v5_42_35093 + 1) from CtU_p (by assumption) z350422 u350426) (show (v5_42_35093 + 1) ≤ 100000 by first | assumption | omega) (show (v4_42_35093 + 1) ≤ 100000 by first | assumption | omega) (show 100001 - (v5_42_35093 + 1) < m42_35093 by first | exact Nat.lt_of_lt_of_le (Nat.sub_lt_sub_left (Nat.lt_of_le_of_lt (show v5_42_35093 ≤ 100000 by assumption) (Nat.lt_succ_self 100000)) (Nat.lt_succ_self v5_42_35093)) (Nat.le_of_lt_succ hm42_35093) | omega)
              · show J x (mflat [(m, .inl (.inr (12, (.ref m0 :: .int (nI mtp) :: .int (nI mfa) :: .int mfp :: .int (nI mat) :: .int (nI msz) :: .int (nI mso) :: .int mpl :: .int mnu :: .long mwd :: .ref m10 :: .ref m11 :: .ref m12 :: .ref m13 :: .ref m14 :: .ref m15 :: .ref m16 :: .ref m17 :: .ref m18 :: .ref m19 :: .ref m20 :: .ref m21 :: .ref m22 :: .ref m23 :: .ref m24 :: .int (nI mns) :: .int (nI mnl) :: .int (nI mne) :: .int (nI mst) :: .int (nI mlt) :: .int (nI mer) :: .ref m31 :: .ref m32 :: .ref m33 :: .ref m34 :: .ref m35 :: .int (nI mwm) :: .int (nI mwt) :: .int (nI mwf) :: .ref m39 :: .ref m40 :: .ref m41 :: .int (nI mla) :: .ref m43 :: .ref m44 :: .ref m45 :: .ref m46 :: .ref m47 :: .ref m48 :: .int (nI mtm) :: .ref m50 :: .ref m51 :: .ref m52 :: .ref m53 :: .ref m54 :: .ref m55 :: .ref m56 :: .ref m57 :: .ref m58 :: .ref m59 :: .ref m60 :: .ref m61 :: .int (nI msn) :: .int (nI mti) :: .ref m64 :: .ref m65 :: .ref m66 :: .ref m67 :: .ref m68 :: .ref m69 :: [])))), (m31, .inl (.inl (kA 1, 10, .inl mc31))), (m53, .inl (.inl (kA 1, 10, .inl mc53))), (m54, .inl (.inl (kA 1, 10, .inl fm54_42_35093))), (m55, .inl (.inl (kA 1, 10, .inl fm55_5_35084)))]) [(5, .int (nI v5_42_35093)), (4, .int (nI v4_42_35093)), (3, .int (nI v3_5_35084)), (0, .ref m), (1, .int (nI fr)), (2, .int us)] 0 0 61 []
                refine j_goto h 81 dX12_rest_61 (by decide) ?_
                refine j_iinc (v := nI (v5_42_35093 + 1)) (lv' := [(5, .int (nI (v5_42_35093 + 1))), (4, .int (nI v4_42_35093)), (3, .int (nI v3_5_35084)), (0, .ref m), (1, .int (nI fr)), (2, .int us)]) h dX12_rest_81 0 rfl (nI_add v5_42_35093 1) (by decide) rfl ?_
                refine j_goto h 42 dX12_rest_84 (by decide) ?_
                refine jm_sub [0, 1, 2, 3, 4] (w' := [(m, .inl (.inr (12, (.ref m0 :: .int (nI mtp) :: .int (nI mfa) :: .int mfp :: .int (nI mat) :: .int (nI msz) :: .int (nI mso) :: .int mpl :: .int mnu :: .long mwd :: .ref m10 :: .ref m11 :: .ref m12 :: .ref m13 :: .ref m14 :: .ref m15 :: .ref m16 :: .ref m17 :: .ref m18 :: .ref m19 :: .ref m20 :: .ref m21 :: .ref m22 :: .ref m23 :: .ref m24 :: .int (nI mns) :: .int (nI mnl) :: .int (nI mne) :: .int (nI mst) :: .int (nI mlt) :: .int (nI mer) :: .ref m31 :: .ref m32 :: .ref m33 :: .ref m34 :: .ref m35 :: .int (nI mwm) :: .int (nI mwt) :: .int (nI mwf) :: .ref m39 :: .ref m40 :: .ref m41 :: .int (nI mla) :: .ref m43 :: .ref m44 :: .ref m45 :: .ref m46 :: .ref m47 :: .ref m48 :: .int (nI mtm) :: .ref m50 :: .ref m51 :: .ref m52 :: .ref m53 :: .ref m54 :: .ref m55 :: .ref m56 :: .ref m57 :: .ref m58 :: .ref m59 :: .ref m60 :: .ref m61 :: .int (nI msn) :: .int (nI mti) :: .ref m64 :: .ref m65 :: .ref m66 :: .ref m67 :: .ref m68 :: .ref m69 :: [])))), (m31, .inl (.inl (kA 1, 10, .inl mc31))), (m53, .inl (.inl (kA 1, 10, .inl mc53))), (m54, .inl (.inl (kA 1, 10, .inl fm54_42_35093))), (m55, .inl (.inl (kA 1, 10, .inl fm55_5_35084)))]) rfl (by decide +kernel) [0, 1, 2, 3, 4, 5] (lv' := [(5, .int (nI (v5_42_35093 + 1))), (4, .int (nI v4_42_35093)), (3, .int (nI v3_5_35084)), (0, .ref m), (1, .int (nI fr)), (2, .int us)]) rfl ?_
                exact ih42_35093 (v5_42_35093 + 1) v4_42_35093 fm54_42_35093 (show v4_42_35093 = nU us (v5_42_35093 + 1) from nU_s (by assumption) z350422) (show v4_42_35093 ≤ (v5_42_35093 + 1) by first | assumption | omega) (show (v5_42_35093 + 1) ≤ mlt by first | assumption | omega) (show CtU fm54_42_35093 v4_42_35093 us mc31 (v5_42_35093 + 1) from CtU_s (by assumption) z350422) (show (v5_42_35093 + 1) ≤ 100000 by first | assumption | omega) (show v4_42_35093 ≤ 100000 by first | assumption | omega) (show 100001 - (v5_42_35093 + 1) < m42_35093 by first | exact Nat.lt_of_lt_of_le (Nat.sub_lt_sub_left (Nat.lt_of_le_of_lt (show v5_42_35093 ≤ 100000 by assumption) (Nat.lt_succ_self 100000)) (Nat.lt_succ_self v5_42_35093)) (Nat.le_of_lt_succ hm42_35093) | omega)
        refine jm_sub [0, 1, 2, 3, 4] (w' := [(m, .inl (.inr (12, (.ref m0 :: .int (nI mtp) :: .int (nI mfa) :: .int mfp :: .int (nI mat) :: .int (nI msz) :: .int (nI mso) :: .int mpl :: .int mnu :: .long mwd :: .ref m10 :: .ref m11 :: .ref m12 :: .ref m13 :: .ref m14 :: .ref m15 :: .ref m16 :: .ref m17 :: .ref m18 :: .ref m19 :: .ref m20 :: .ref m21 :: .ref m22 :: .ref m23 :: .ref m24 :: .int (nI mns) :: .int (nI mnl) :: .int (nI mne) :: .int (nI mst) :: .int (nI mlt) :: .int (nI mer) :: .ref m31 :: .ref m32 :: .ref m33 :: .ref m34 :: .ref m35 :: .int (nI mwm) :: .int (nI mwt) :: .int (nI mwf) :: .ref m39 :: .ref m40 :: .ref m41 :: .int (nI mla) :: .ref m43 :: .ref m44 :: .ref m45 :: .ref m46 :: .ref m47 :: .ref m48 :: .int (nI mtm) :: .ref m50 :: .ref m51 :: .ref m52 :: .ref m53 :: .ref m54 :: .ref m55 :: .ref m56 :: .ref m57 :: .ref m58 :: .ref m59 :: .ref m60 :: .ref m61 :: .int (nI msn) :: .int (nI mti) :: .ref m64 :: .ref m65 :: .ref m66 :: .ref m67 :: .ref m68 :: .ref m69 :: [])))), (m31, .inl (.inl (kA 1, 10, .inl mc31))), (m53, .inl (.inl (kA 1, 10, .inl mc53))), (m54, .inl (.inl (kA 1, 10, .inl mc54))), (m55, .inl (.inl (kA 1, 10, .inl fm55_5_35084)))]) rfl (by decide +kernel) [0, 1, 2, 3, 4, 5] (lv' := [(5, .int 0), (4, .int 0), (3, .int (nI v3_5_35084)), (0, .ref m), (1, .int (nI fr)), (2, .int us)]) rfl ?_
        exact lp42_35093 (100001 - 0 + 1) 0 0 mc54 (show 0 = nU us 0 from rfl) (show 0 ≤ 0 by first | assumption | omega) (show 0 ≤ mlt by first | assumption | omega) (show CtU mc54 0 us mc31 0 by first | assumption | exact CtU_0 _ _ _ | (intro h9; exact absurd h9 (by omega)) | (intro _; assumption) | omega) (show 0 ≤ 100000 by first | assumption | omega) (show 0 ≤ 100000 by first | assumption | omega) (Nat.lt_succ_self _)
      · have z350369n : ¬ mlt ≤ v4_5_35084 := fun q9 => z350369 ((nI_leI (a := mlt) (b := v4_5_35084) (by omega) (by omega)).mpr q9)
        refine j_aload_n h 2 rfl rfl dX12_rest_14 ?_
        refine jm_get h iw_X12 0 rfl rfl 55 (by decide +kernel) tw_1211 rfl dX12_rest_15 ?_
        refine j_iload_n h 1 rfl rfl dX12_rest_18 ?_
        refine j_aload_n h 2 rfl rfl dX12_rest_19 ?_
        refine jm_get h iw_X12 0 rfl rfl 53 (by decide +kernel) tw_1209 rfl dX12_rest_20 ?_
        refine j_iload h 0 rfl dX12_rest_23 ?_
        refine jm_iald h 2 rfl v4_5_35084 rfl (by omega) (by omega) dX12_rest_25 ?_
        refine jm_iast (w' := [(m, .inl (.inr (12, (.ref m0 :: .int (nI mtp) :: .int (nI mfa) :: .int mfp :: .int (nI mat) :: .int (nI msz) :: .int (nI mso) :: .int mpl :: .int mnu :: .long mwd :: .ref m10 :: .ref m11 :: .ref m12 :: .ref m13 :: .ref m14 :: .ref m15 :: .ref m16 :: .ref m17 :: .ref m18 :: .ref m19 :: .ref m20 :: .ref m21 :: .ref m22 :: .ref m23 :: .ref m24 :: .int (nI mns) :: .int (nI mnl) :: .int (nI mne) :: .int (nI mst) :: .int (nI mlt) :: .int (nI mer) :: .ref m31 :: .ref m32 :: .ref m33 :: .ref m34 :: .ref m35 :: .int (nI mwm) :: .int (nI mwt) :: .int (nI mwf) :: .ref m39 :: .ref m40 :: .ref m41 :: .int (nI mla) :: .ref m43 :: .ref m44 :: .ref m45 :: .ref m46 :: .ref m47 :: .ref m48 :: .int (nI mtm) :: .ref m50 :: .ref m51 :: .ref m52 :: .ref m53 :: .ref m54 :: .ref m55 :: .ref m56 :: .ref m57 :: .ref m58 :: .ref m59 :: .ref m60 :: .ref m61 :: .int (nI msn) :: .int (nI mti) :: .ref m64 :: .ref m65 :: .ref m66 :: .ref m67 :: .ref m68 :: .ref m69 :: [])))), (m31, .inl (.inl (kA 1, 10, .inl mc31))), (m53, .inl (.inl (kA 1, 10, .inl mc53))), (m54, .inl (.inl (kA 1, 10, .inl mc54))), (m55, .inl (.inl (kA 1, 10, .inl (upd fm55_5_35084 v3_5_35084 (mc53 v4_5_35084)))))]) h 4 rfl v3_5_35084 rfl (by omega) (by omega) dX12_rest_26 rfl ?_
        refine j_iinc (v := nI (v3_5_35084 + 1)) (lv' := [(3, .int (nI (v3_5_35084 + 1))), (4, .int (nI v4_5_35084)), (0, .ref m), (1, .int (nI fr)), (2, .int us)]) h dX12_rest_27 1 rfl (nI_add v3_5_35084 1) (by decide) rfl ?_
        refine j_iinc (v := nI (v4_5_35084 + 1)) (lv' := [(4, .int (nI (v4_5_35084 + 1))), (3, .int (nI (v3_5_35084 + 1))), (0, .ref m), (1, .int (nI fr)), (2, .int us)]) h dX12_rest_30 1 rfl (nI_add v4_5_35084 1) (by decide) rfl ?_
        refine j_goto h 5 dX12_rest_33 (by decide) ?_
        refine jm_sub [0, 1, 2, 3, 4] (w' := [(m, .inl (.inr (12, (.ref m0 :: .int (nI mtp) :: .int (nI mfa) :: .int mfp :: .int (nI mat) :: .int (nI msz) :: .int (nI mso) :: .int mpl :: .int mnu :: .long mwd :: .ref m10 :: .ref m11 :: .ref m12 :: .ref m13 :: .ref m14 :: .ref m15 :: .ref m16 :: .ref m17 :: .ref m18 :: .ref m19 :: .ref m20 :: .ref m21 :: .ref m22 :: .ref m23 :: .ref m24 :: .int (nI mns) :: .int (nI mnl) :: .int (nI mne) :: .int (nI mst) :: .int (nI mlt) :: .int (nI mer) :: .ref m31 :: .ref m32 :: .ref m33 :: .ref m34 :: .ref m35 :: .int (nI mwm) :: .int (nI mwt) :: .int (nI mwf) :: .ref m39 :: .ref m40 :: .ref m41 :: .int (nI mla) :: .ref m43 :: .ref m44 :: .ref m45 :: .ref m46 :: .ref m47 :: .ref m48 :: .int (nI mtm) :: .ref m50 :: .ref m51 :: .ref m52 :: .ref m53 :: .ref m54 :: .ref m55 :: .ref m56 :: .ref m57 :: .ref m58 :: .ref m59 :: .ref m60 :: .ref m61 :: .int (nI msn) :: .int (nI mti) :: .ref m64 :: .ref m65 :: .ref m66 :: .ref m67 :: .ref m68 :: .ref m69 :: [])))), (m31, .inl (.inl (kA 1, 10, .inl mc31))), (m53, .inl (.inl (kA 1, 10, .inl mc53))), (m54, .inl (.inl (kA 1, 10, .inl mc54))), (m55, .inl (.inl (kA 1, 10, .inl (upd fm55_5_35084 v3_5_35084 (mc53 v4_5_35084)))))]) rfl (by decide +kernel) [0, 1, 2, 3, 4] (lv' := [(4, .int (nI (v4_5_35084 + 1))), (3, .int (nI (v3_5_35084 + 1))), (0, .ref m), (1, .int (nI fr)), (2, .int us)]) rfl ?_
        exact ih5_35084 (v4_5_35084 + 1) (v3_5_35084 + 1) (upd fm55_5_35084 v3_5_35084 (mc53 v4_5_35084)) (show (v3_5_35084 + 1) + fr = (v4_5_35084 + 1) by first | assumption | omega) (show (v4_5_35084 + 1) ≤ mlt by first | assumption | omega) (show EqTo (v3_5_35084 + 1) (upd fm55_5_35084 v3_5_35084 (mc53 v4_5_35084)) (fun j => mc53 (fr + j)) from EqTo_step (by assumption) (congrArg mc53 (by omega))) (show (v4_5_35084 + 1) ≤ 100000 by first | assumption | omega) (show (v3_5_35084 + 1) ≤ 100000 by first | assumption | omega) (show 100001 - (v4_5_35084 + 1) < m5_35084 by first | exact Nat.lt_of_lt_of_le (Nat.sub_lt_sub_left (Nat.lt_of_le_of_lt (show v4_5_35084 ≤ 100000 by assumption) (Nat.lt_succ_self 100000)) (Nat.lt_succ_self v4_5_35084)) (Nat.le_of_lt_succ hm5_35084) | omega)
  refine jm_sub [0, 1, 2, 3, 4] (w' := [(m, .inl (.inr (12, (.ref m0 :: .int (nI mtp) :: .int (nI mfa) :: .int mfp :: .int (nI mat) :: .int (nI msz) :: .int (nI mso) :: .int mpl :: .int mnu :: .long mwd :: .ref m10 :: .ref m11 :: .ref m12 :: .ref m13 :: .ref m14 :: .ref m15 :: .ref m16 :: .ref m17 :: .ref m18 :: .ref m19 :: .ref m20 :: .ref m21 :: .ref m22 :: .ref m23 :: .ref m24 :: .int (nI mns) :: .int (nI mnl) :: .int (nI mne) :: .int (nI mst) :: .int (nI mlt) :: .int (nI mer) :: .ref m31 :: .ref m32 :: .ref m33 :: .ref m34 :: .ref m35 :: .int (nI mwm) :: .int (nI mwt) :: .int (nI mwf) :: .ref m39 :: .ref m40 :: .ref m41 :: .int (nI mla) :: .ref m43 :: .ref m44 :: .ref m45 :: .ref m46 :: .ref m47 :: .ref m48 :: .int (nI mtm) :: .ref m50 :: .ref m51 :: .ref m52 :: .ref m53 :: .ref m54 :: .ref m55 :: .ref m56 :: .ref m57 :: .ref m58 :: .ref m59 :: .ref m60 :: .ref m61 :: .int (nI msn) :: .int (nI mti) :: .ref m64 :: .ref m65 :: .ref m66 :: .ref m67 :: .ref m68 :: .ref m69 :: [])))), (m31, .inl (.inl (kA 1, 10, .inl mc31))), (m53, .inl (.inl (kA 1, 10, .inl mc53))), (m54, .inl (.inl (kA 1, 10, .inl mc54))), (m55, .inl (.inl (kA 1, 10, .inl mc55)))]) rfl (by decide +kernel) [0, 1, 2, 3, 4] (lv' := [(4, .int (nI fr)), (3, .int 0), (0, .ref m), (1, .int (nI fr)), (2, .int us)]) rfl ?_
  exact lp5_35084 (100001 - fr + 1) fr 0 mc55 (show 0 + fr = fr by first | assumption | omega) (show fr ≤ mlt by first | assumption | omega) (show EqTo 0 mc55 (fun j => mc53 (fr + j)) by first | assumption | exact EqTo_0 _ _ | (intro h9; exact absurd h9 (by omega)) | (intro _; assumption) | omega) (show fr ≤ 100000 by first | assumption | omega) (show 0 ≤ 100000 by first | assumption | omega) (Nat.lt_succ_self _)
set_option maxHeartbeats 4000000 in
set_option maxRecDepth 100000 in
theorem s_X12_dealt (lau : Launch) (gg : va_G) (kA : Nat → ClassId) (m : Nat) (m0 : Nat) (mtp : Nat) (mfa : Nat) (mfp : Int32) (mat : Nat) (msz : Nat) (mso : Nat) (mpl : Int32) (mnu : Int32) (mwd : Int64) (m10 : Nat) (m11 : Nat) (m12 : Nat) (m13 : Nat) (m14 : Nat) (m15 : Nat) (m16 : Nat) (m17 : Nat) (m18 : Nat) (m19 : Nat) (m20 : Nat) (m21 : Nat) (m22 : Nat) (m23 : Nat) (m24 : Nat) (mns : Nat) (mnl : Nat) (mne : Nat) (mst : Nat) (mlt : Nat) (mer : Nat) (m31 : Nat) (m32 : Nat) (m33 : Nat) (m34 : Nat) (m35 : Nat) (mwm : Nat) (mwt : Nat) (mwf : Nat) (m39 : Nat) (m40 : Nat) (m41 : Nat) (mla : Nat) (m43 : Nat) (m44 : Nat) (m45 : Nat) (m46 : Nat) (m47 : Nat) (m48 : Nat) (mtm : Nat) (m50 : Nat) (m51 : Nat) (m52 : Nat) (m53 : Nat) (m54 : Nat) (m55 : Nat) (m56 : Nat) (m57 : Nat) (m58 : Nat) (m59 : Nat) (m60 : Nat) (m61 : Nat) (msn : Nat) (mti : Nat) (m64 : Nat) (m65 : Nat) (m66 : Nat) (m67 : Nat) (m68 : Nat) (m69 : Nat) (mc31 : Nat → Int32) (mc33 : Nat → Int32) (mc40 : Nat → Int32) (mc44 : Nat → Int32) (mc45 : Nat → Int32) (mc53 : Nat → Int32) (mc54 : Nat → Int32) (mc55 : Nat → Int32) (hmfa : mfa ≤ 5) (hmso : mso ≤ 100) (hmst : mst ≤ 6) (hmlt : mlt ≤ 10) (hmer : mer ≤ 4) (hmls : LtOk mlt mc31) (hmfb : FbOk (2 * mlt) mc33) (hmwm : mwm ≤ mwt) (hmwt : mwt ≤ 60) (hmwf : mwf ≤ 1) (hmtc : TcOk mlt mc33 mc44 mc45) (hmts : TsOk mc31 mc44 mc45) (hmsn : msn ≤ 30) (hmla : mla ≤ 60) (hmtp : mtp ≤ 1600) (hmti : mti ≤ 100000) (hmtm : mtm ≤ 60) : CtI lau yX12_dealt cX12_dealt 6 (some .int) 3 0 0 gg kA [.ref m] (mflat [(m, .inl (.inr (12, (.ref m0 :: .int (nI mtp) :: .int (nI mfa) :: .int mfp :: .int (nI mat) :: .int (nI msz) :: .int (nI mso) :: .int mpl :: .int mnu :: .long mwd :: .ref m10 :: .ref m11 :: .ref m12 :: .ref m13 :: .ref m14 :: .ref m15 :: .ref m16 :: .ref m17 :: .ref m18 :: .ref m19 :: .ref m20 :: .ref m21 :: .ref m22 :: .ref m23 :: .ref m24 :: .int (nI mns) :: .int (nI mnl) :: .int (nI mne) :: .int (nI mst) :: .int (nI mlt) :: .int (nI mer) :: .ref m31 :: .ref m32 :: .ref m33 :: .ref m34 :: .ref m35 :: .int (nI mwm) :: .int (nI mwt) :: .int (nI mwf) :: .ref m39 :: .ref m40 :: .ref m41 :: .int (nI mla) :: .ref m43 :: .ref m44 :: .ref m45 :: .ref m46 :: .ref m47 :: .ref m48 :: .int (nI mtm) :: .ref m50 :: .ref m51 :: .ref m52 :: .ref m53 :: .ref m54 :: .ref m55 :: .ref m56 :: .ref m57 :: .ref m58 :: .ref m59 :: .ref m60 :: .ref m61 :: .int (nI msn) :: .int (nI mti) :: .ref m64 :: .ref m65 :: .ref m66 :: .ref m67 :: .ref m68 :: .ref m69 :: [])))), (m31, .inl (.inl (kA 1, 10, .inl mc31))), (m33, .inl (.inl (kA 1, 20, .inl mc33))), (m40, .inl (.inl (kA 1, 60, .inl mc40))), (m44, .inl (.inl (kA 1, 120, .inl mc44))), (m45, .inl (.inl (kA 1, 2, .inl mc45))), (m53, .inl (.inl (kA 1, 10, .inl mc53))), (m54, .inl (.inl (kA 1, 10, .inl mc54))), (m55, .inl (.inl (kA 1, 10, .inl mc55)))]) (S := (Nat → Int32) × (Nat → Int32) × (Nat → Int32) × (Nat → Int32)) (fun (r : Int32) ((y_m40, y_m53, y_m54, y_m55) : (Nat → Int32) × (Nat → Int32) × (Nat → Int32) × (Nat → Int32)) => mlt ≤ 60) (fun ((y_m40, y_m53, y_m54, y_m55) : (Nat → Int32) × (Nat → Int32) × (Nat → Int32) × (Nat → Int32)) => mflat [(m, .inl (.inr (12, (.ref m0 :: .int (nI mtp) :: .int (nI mfa) :: .int mfp :: .int (nI mat) :: .int (nI msz) :: .int (nI mso) :: .int mpl :: .int mnu :: .long mwd :: .ref m10 :: .ref m11 :: .ref m12 :: .ref m13 :: .ref m14 :: .ref m15 :: .ref m16 :: .ref m17 :: .ref m18 :: .ref m19 :: .ref m20 :: .ref m21 :: .ref m22 :: .ref m23 :: .ref m24 :: .int (nI mns) :: .int (nI mnl) :: .int (nI mne) :: .int (nI mst) :: .int (nI mlt) :: .int (nI mer) :: .ref m31 :: .ref m32 :: .ref m33 :: .ref m34 :: .ref m35 :: .int (nI mwm) :: .int (nI mwt) :: .int (nI mwf) :: .ref m39 :: .ref m40 :: .ref m41 :: .int (nI mlt) :: .ref m43 :: .ref m44 :: .ref m45 :: .ref m46 :: .ref m47 :: .ref m48 :: .int (nI mtm) :: .ref m50 :: .ref m51 :: .ref m52 :: .ref m53 :: .ref m54 :: .ref m55 :: .ref m56 :: .ref m57 :: .ref m58 :: .ref m59 :: .ref m60 :: .ref m61 :: .int (nI msn) :: .int (nI mti) :: .ref m64 :: .ref m65 :: .ref m66 :: .ref m67 :: .ref m68 :: .ref m69 :: [])))), (m31, .inl (.inl (kA 1, 10, .inl mc31))), (m33, .inl (.inl (kA 1, 20, .inl mc33))), (m40, .inl (.inl (kA 1, 60, .inl y_m40))), (m44, .inl (.inl (kA 1, 120, .inl mc44))), (m45, .inl (.inl (kA 1, 2, .inl mc45))), (m53, .inl (.inl (kA 1, 10, .inl y_m53))), (m54, .inl (.inl (kA 1, 10, .inl y_m54))), (m55, .inl (.inl (kA 1, 10, .inl y_m55)))]) := by
  refine nx_startI (by decide +kernel) (Nat.le_of_ble_eq_true rfl) ?_
  intro x hnm h hq
  have h : Ok x cX12_dealt RX12 kA (rmC 3 0 0) 6 := h
  show J x (mflat [(m, .inl (.inr (12, (.ref m0 :: .int (nI mtp) :: .int (nI mfa) :: .int mfp :: .int (nI mat) :: .int (nI msz) :: .int (nI mso) :: .int mpl :: .int mnu :: .long mwd :: .ref m10 :: .ref m11 :: .ref m12 :: .ref m13 :: .ref m14 :: .ref m15 :: .ref m16 :: .ref m17 :: .ref m18 :: .ref m19 :: .ref m20 :: .ref m21 :: .ref m22 :: .ref m23 :: .ref m24 :: .int (nI mns) :: .int (nI mnl) :: .int (nI mne) :: .int (nI mst) :: .int (nI mlt) :: .int (nI mer) :: .ref m31 :: .ref m32 :: .ref m33 :: .ref m34 :: .ref m35 :: .int (nI mwm) :: .int (nI mwt) :: .int (nI mwf) :: .ref m39 :: .ref m40 :: .ref m41 :: .int (nI mla) :: .ref m43 :: .ref m44 :: .ref m45 :: .ref m46 :: .ref m47 :: .ref m48 :: .int (nI mtm) :: .ref m50 :: .ref m51 :: .ref m52 :: .ref m53 :: .ref m54 :: .ref m55 :: .ref m56 :: .ref m57 :: .ref m58 :: .ref m59 :: .ref m60 :: .ref m61 :: .int (nI msn) :: .int (nI mti) :: .ref m64 :: .ref m65 :: .ref m66 :: .ref m67 :: .ref m68 :: .ref m69 :: [])))), (m31, .inl (.inl (kA 1, 10, .inl mc31))), (m33, .inl (.inl (kA 1, 20, .inl mc33))), (m40, .inl (.inl (kA 1, 60, .inl mc40))), (m44, .inl (.inl (kA 1, 120, .inl mc44))), (m45, .inl (.inl (kA 1, 2, .inl mc45))), (m53, .inl (.inl (kA 1, 10, .inl mc53))), (m54, .inl (.inl (kA 1, 10, .inl mc54))), (m55, .inl (.inl (kA 1, 10, .inl mc55)))]) [(0, .ref m)] 0 0 0 []
  refine j_iconst (v := 0) h (by decide) dX12_dealt_0 ?_
  refine j_istore_n (lv' := [(1, .int 0), (0, .ref m)]) h dX12_dealt_1 rfl (by decide) rfl ?_
  have lp2_35219 : ∀ (m2_35219 : Nat), ∀ (v1_2_35219 : Nat) (fm53_2_35219 : Nat → Int32), (v1_2_35219 ≤ 100000) → 100001 - v1_2_35219 < m2_35219 → J x (mflat [(m, .inl (.inr (12, (.ref m0 :: .int (nI mtp) :: .int (nI mfa) :: .int mfp :: .int (nI mat) :: .int (nI msz) :: .int (nI mso) :: .int mpl :: .int mnu :: .long mwd :: .ref m10 :: .ref m11 :: .ref m12 :: .ref m13 :: .ref m14 :: .ref m15 :: .ref m16 :: .ref m17 :: .ref m18 :: .ref m19 :: .ref m20 :: .ref m21 :: .ref m22 :: .ref m23 :: .ref m24 :: .int (nI mns) :: .int (nI mnl) :: .int (nI mne) :: .int (nI mst) :: .int (nI mlt) :: .int (nI mer) :: .ref m31 :: .ref m32 :: .ref m33 :: .ref m34 :: .ref m35 :: .int (nI mwm) :: .int (nI mwt) :: .int (nI mwf) :: .ref m39 :: .ref m40 :: .ref m41 :: .int (nI mla) :: .ref m43 :: .ref m44 :: .ref m45 :: .ref m46 :: .ref m47 :: .ref m48 :: .int (nI mtm) :: .ref m50 :: .ref m51 :: .ref m52 :: .ref m53 :: .ref m54 :: .ref m55 :: .ref m56 :: .ref m57 :: .ref m58 :: .ref m59 :: .ref m60 :: .ref m61 :: .int (nI msn) :: .int (nI mti) :: .ref m64 :: .ref m65 :: .ref m66 :: .ref m67 :: .ref m68 :: .ref m69 :: [])))), (m31, .inl (.inl (kA 1, 10, .inl mc31))), (m33, .inl (.inl (kA 1, 20, .inl mc33))), (m40, .inl (.inl (kA 1, 60, .inl mc40))), (m44, .inl (.inl (kA 1, 120, .inl mc44))), (m45, .inl (.inl (kA 1, 2, .inl mc45))), (m53, .inl (.inl (kA 1, 10, .inl fm53_2_35219))), (m54, .inl (.inl (kA 1, 10, .inl mc54))), (m55, .inl (.inl (kA 1, 10, .inl mc55)))]) [(1, .int (nI v1_2_35219)), (0, .ref m)] 0 0 2 [] := by
    intro m2_35219
    induction m2_35219 with
    | zero =>
      intro v1_2_35219 fm53_2_35219 i2_35219_0 hm2_35219
      exact absurd hm2_35219 (Nat.not_lt_zero _)
    | succ m2_35219 ih2_35219 =>
      intro v1_2_35219 fm53_2_35219 i2_35219_0 hm2_35219
      refine j_iload_n h 0 rfl rfl dX12_dealt_2 ?_
      refine j_bipush (v := 10) h (by decide) dX12_dealt_3 ?_
      refine j_icmp_ge h 21 dX12_dealt_5 (by decide) (fun z351459 => ?_) (fun z351459 => ?_)
      · have z351459n : 10 ≤ v1_2_35219 := (nI_leI (a := 10) (b := v1_2_35219) (by omega) (by omega)).mp z351459
        obtain ⟨t351460, u351462, u351463, g351461, u351464, u351465, u351466⟩ := hmtc 0 (by omega)
        have u351467 : ∀ k, k < t351460 → ∃ l, l < mlt ∧ mc44 k = nI l := fun k hk => by have t9 := TcOk_tx hmtc (by omega) u351463 u351462 k hk; rw [show 60 * 0 + k = k by omega] at t9; exact t9
        refine j_iconst (v := 0) h (by decide) dX12_dealt_21 ?_
        refine j_istore_n (lv' := [(1, .int 0), (0, .ref m)]) h dX12_dealt_22 rfl (by decide) rfl ?_
        have lp23_35246 : ∀ (m23_35246 : Nat), ∀ (v1_23_35246 : Nat) (fm53_23_35246 : Nat → Int32), (v1_23_35246 ≤ 100000) → 100001 - v1_23_35246 < m23_35246 → J x (mflat [(m, .inl (.inr (12, (.ref m0 :: .int (nI mtp) :: .int (nI mfa) :: .int mfp :: .int (nI mat) :: .int (nI msz) :: .int (nI mso) :: .int mpl :: .int mnu :: .long mwd :: .ref m10 :: .ref m11 :: .ref m12 :: .ref m13 :: .ref m14 :: .ref m15 :: .ref m16 :: .ref m17 :: .ref m18 :: .ref m19 :: .ref m20 :: .ref m21 :: .ref m22 :: .ref m23 :: .ref m24 :: .int (nI mns) :: .int (nI mnl) :: .int (nI mne) :: .int (nI mst) :: .int (nI mlt) :: .int (nI mer) :: .ref m31 :: .ref m32 :: .ref m33 :: .ref m34 :: .ref m35 :: .int (nI mwm) :: .int (nI mwt) :: .int (nI mwf) :: .ref m39 :: .ref m40 :: .ref m41 :: .int (nI mla) :: .ref m43 :: .ref m44 :: .ref m45 :: .ref m46 :: .ref m47 :: .ref m48 :: .int (nI mtm) :: .ref m50 :: .ref m51 :: .ref m52 :: .ref m53 :: .ref m54 :: .ref m55 :: .ref m56 :: .ref m57 :: .ref m58 :: .ref m59 :: .ref m60 :: .ref m61 :: .int (nI msn) :: .int (nI mti) :: .ref m64 :: .ref m65 :: .ref m66 :: .ref m67 :: .ref m68 :: .ref m69 :: [])))), (m31, .inl (.inl (kA 1, 10, .inl mc31))), (m33, .inl (.inl (kA 1, 20, .inl mc33))), (m40, .inl (.inl (kA 1, 60, .inl mc40))), (m44, .inl (.inl (kA 1, 120, .inl mc44))), (m45, .inl (.inl (kA 1, 2, .inl mc45))), (m53, .inl (.inl (kA 1, 10, .inl fm53_23_35246))), (m54, .inl (.inl (kA 1, 10, .inl mc54))), (m55, .inl (.inl (kA 1, 10, .inl mc55)))]) [(1, .int (nI v1_23_35246)), (0, .ref m)] 0 0 23 [] := by
          intro m23_35246
          induction m23_35246 with
          | zero =>
            intro v1_23_35246 fm53_23_35246 i23_35246_0 hm23_35246
            exact absurd hm23_35246 (Nat.not_lt_zero _)
          | succ m23_35246 ih23_35246 =>
            intro v1_23_35246 fm53_23_35246 i23_35246_0 hm23_35246
            refine j_iload_n h 0 rfl rfl dX12_dealt_23 ?_
            refine j_aload_n h 1 rfl rfl dX12_dealt_24 ?_
            refine jm_get h iw_X12 0 rfl rfl 45 (by decide +kernel) tw_1201 rfl dX12_dealt_25 ?_
            refine j_iconst (v := 0) h (by decide) dX12_dealt_28 ?_
            refine jm_iald h 5 rfl 0 (by decide +kernel) (by decide +kernel) (by omega) dX12_dealt_29 ?_
            refine j_top (b := nI t351460) (u351463) ?_
            refine j_icmp_ge h 54 dX12_dealt_30 (by decide) (fun z351692 => ?_) (fun z351692 => ?_)
            · have z351692n : t351460 ≤ v1_23_35246 := (nI_leI (a := t351460) (b := v1_23_35246) (by omega) (by omega)).mp z351692
              refine j_aload_n h 1 rfl rfl dX12_dealt_54 ?_
              refine j_iconst (v := 0) h (by decide) dX12_dealt_55 ?_
              refine j_iconst (v := 0) h (by decide) dX12_dealt_56 ?_
              refine jm_callVi (np := 2) (isC := [0, 1, 6, 7, 8]) (isR := [2, 3, 4, 5]) (wc := [(m, .inl (.inr (12, (.ref m0 :: .int (nI mtp) :: .int (nI mfa) :: .int mfp :: .int (nI mat) :: .int (nI msz) :: .int (nI mso) :: .int mpl :: .int mnu :: .long mwd :: .ref m10 :: .ref m11 :: .ref m12 :: .ref m13 :: .ref m14 :: .ref m15 :: .ref m16 :: .ref m17 :: .ref m18 :: .ref m19 :: .ref m20 :: .ref m21 :: .ref m22 :: .ref m23 :: .ref m24 :: .int (nI mns) :: .int (nI mnl) :: .int (nI mne) :: .int (nI mst) :: .int (nI mlt) :: .int (nI mer) :: .ref m31 :: .ref m32 :: .ref m33 :: .ref m34 :: .ref m35 :: .int (nI mwm) :: .int (nI mwt) :: .int (nI mwf) :: .ref m39 :: .ref m40 :: .ref m41 :: .int (nI mla) :: .ref m43 :: .ref m44 :: .ref m45 :: .ref m46 :: .ref m47 :: .ref m48 :: .int (nI mtm) :: .ref m50 :: .ref m51 :: .ref m52 :: .ref m53 :: .ref m54 :: .ref m55 :: .ref m56 :: .ref m57 :: .ref m58 :: .ref m59 :: .ref m60 :: .ref m61 :: .int (nI msn) :: .int (nI mti) :: .ref m64 :: .ref m65 :: .ref m66 :: .ref m67 :: .ref m68 :: .ref m69 :: [])))), (m31, .inl (.inl (kA 1, 10, .inl mc31))), (m53, .inl (.inl (kA 1, 10, .inl fm53_23_35246))), (m54, .inl (.inl (kA 1, 10, .inl mc54))), (m55, .inl (.inl (kA 1, 10, .inl mc55)))]) (wr := [(m33, .inl (.inl (kA 1, 20, .inl mc33))), (m40, .inl (.inl (kA 1, 60, .inl mc40))), (m44, .inl (.inl (kA 1, 120, .inl mc44))), (m45, .inl (.inl (kA 1, 2, .inl mc45)))]) (rest := []) (As := [.int 0, .int 0]) (q0 := 0) h (s_X12_rest _ _ kA m 0 0 m0 mtp mfa mfp mat msz mso mpl mnu mwd m10 m11 m12 m13 m14 m15 m16 m17 m18 m19 m20 m21 m22 m23 m24 mns mnl mne mst mlt mer m31 m32 m33 m34 m35 mwm mwt mwf m39 m40 m41 mla m43 m44 m45 m46 m47 m48 mtm m50 m51 m52 m53 m54 m55 m56 m57 m58 m59 m60 m61 msn mti m64 m65 m66 m67 m68 m69 mc31 fm53_23_35246 mc54 mc55 (show mst ≤ 6 by first | assumption | omega) (show mlt ≤ 10 by first | assumption | omega) (show mer ≤ 4 by first | assumption | omega) (show LtOk mlt mc31 by first | assumption | (intro h9; exact absurd h9 (by omega)) | (intro _; assumption) | omega) (show 0 ≤ mlt by first | assumption | omega) (show nU 0 mlt + 0 = mlt from nU_0 (by omega))) tw_1636 tw_1638 tw_81 tw_99 tw_1639 (by decide +kernel) rfl ⟨Nat.le_of_ble_eq_true rfl, Nat.le_of_ble_eq_true rfl⟩ rfl rfl (by decide +kernel) rfl rfl (by decide +kernel) (by decide +kernel) (Nat.le_of_ble_eq_true rfl) rfl ⟨Nat.le_of_ble_eq_true rfl, Nat.le_of_ble_eq_true rfl⟩ dX12_dealt_57 ?_
              rintro r351696 ⟨q351693, q351694⟩ e351695
              have p351697 := e351695
              replace p351697 : RestV fm53_23_35246 mc31 mlt 0 0 r351696 := p351697
              show J x (mflat [(m33, .inl (.inl (kA 1, 20, .inl mc33))), (m40, .inl (.inl (kA 1, 60, .inl mc40))), (m44, .inl (.inl (kA 1, 120, .inl mc44))), (m45, .inl (.inl (kA 1, 2, .inl mc45))), (m, .inl (.inr (12, (.ref m0 :: .int (nI mtp) :: .int (nI mfa) :: .int mfp :: .int (nI mat) :: .int (nI msz) :: .int (nI mso) :: .int mpl :: .int mnu :: .long mwd :: .ref m10 :: .ref m11 :: .ref m12 :: .ref m13 :: .ref m14 :: .ref m15 :: .ref m16 :: .ref m17 :: .ref m18 :: .ref m19 :: .ref m20 :: .ref m21 :: .ref m22 :: .ref m23 :: .ref m24 :: .int (nI mns) :: .int (nI mnl) :: .int (nI mne) :: .int (nI mst) :: .int (nI mlt) :: .int (nI mer) :: .ref m31 :: .ref m32 :: .ref m33 :: .ref m34 :: .ref m35 :: .int (nI mwm) :: .int (nI mwt) :: .int (nI mwf) :: .ref m39 :: .ref m40 :: .ref m41 :: .int (nI mla) :: .ref m43 :: .ref m44 :: .ref m45 :: .ref m46 :: .ref m47 :: .ref m48 :: .int (nI mtm) :: .ref m50 :: .ref m51 :: .ref m52 :: .ref m53 :: .ref m54 :: .ref m55 :: .ref m56 :: .ref m57 :: .ref m58 :: .ref m59 :: .ref m60 :: .ref m61 :: .int (nI msn) :: .int (nI mti) :: .ref m64 :: .ref m65 :: .ref m66 :: .ref m67 :: .ref m68 :: .ref m69 :: [])))), (m31, .inl (.inl (kA 1, 10, .inl mc31))), (m53, .inl (.inl (kA 1, 10, .inl fm53_23_35246))), (m54, .inl (.inl (kA 1, 10, .inl q351693))), (m55, .inl (.inl (kA 1, 10, .inl q351694)))]) [(1, .int (nI v1_23_35246)), (0, .ref m)] 0 0 60 [.int r351696]
              refine j_istore_n (lv' := [(1, .int r351696), (0, .ref m)]) h dX12_dealt_60 rfl (by decide) rfl ?_
              refine j_iconst (v := 0) h (by decide) dX12_dealt_61 ?_
              refine j_istore_n (lv' := [(2, .int 0), (1, .int r351696), (0, .ref m)]) h dX12_dealt_62 rfl (by decide) rfl ?_
              refine j_iconst (v := 0) h (by decide) dX12_dealt_63 ?_
              refine j_istore_n (lv' := [(3, .int 0), (2, .int 0), (1, .int r351696), (0, .ref m)]) h dX12_dealt_64 rfl (by decide) rfl ?_
              refine j_iconst (v := 0) h (by decide) dX12_dealt_65 ?_
              refine j_istore (lv' := [(4, .int 0), (3, .int 0), (2, .int 0), (1, .int r351696), (0, .ref m)]) h dX12_dealt_66 (by decide) rfl ?_
              have lp68_35255 : ∀ (m68_35255 : Nat), ∀ (v4_68_35255 : Nat) (v3_68_35255 : Int32) (v2_68_35255 : Int32) (fm40_68_35255 : Nat → Int32) (fm54_68_35255 : Nat → Int32) (fm55_68_35255 : Nat → Int32), (v4_68_35255 ≤ mlt) → (nU v2_68_35255 mlt + v4_68_35255 = mlt) → (∃ v9, RestV fm53_23_35246 mc31 mlt v4_68_35255 v2_68_35255 v9 ∧ v3_68_35255 + v9 = r351696) → (v4_68_35255 ≤ 100000) → 100001 - v4_68_35255 < m68_35255 → J x (mflat [(m33, .inl (.inl (kA 1, 20, .inl mc33))), (m40, .inl (.inl (kA 1, 60, .inl fm40_68_35255))), (m44, .inl (.inl (kA 1, 120, .inl mc44))), (m45, .inl (.inl (kA 1, 2, .inl mc45))), (m, .inl (.inr (12, (.ref m0 :: .int (nI mtp) :: .int (nI mfa) :: .int mfp :: .int (nI mat) :: .int (nI msz) :: .int (nI mso) :: .int mpl :: .int mnu :: .long mwd :: .ref m10 :: .ref m11 :: .ref m12 :: .ref m13 :: .ref m14 :: .ref m15 :: .ref m16 :: .ref m17 :: .ref m18 :: .ref m19 :: .ref m20 :: .ref m21 :: .ref m22 :: .ref m23 :: .ref m24 :: .int (nI mns) :: .int (nI mnl) :: .int (nI mne) :: .int (nI mst) :: .int (nI mlt) :: .int (nI mer) :: .ref m31 :: .ref m32 :: .ref m33 :: .ref m34 :: .ref m35 :: .int (nI mwm) :: .int (nI mwt) :: .int (nI mwf) :: .ref m39 :: .ref m40 :: .ref m41 :: .int (nI mla) :: .ref m43 :: .ref m44 :: .ref m45 :: .ref m46 :: .ref m47 :: .ref m48 :: .int (nI mtm) :: .ref m50 :: .ref m51 :: .ref m52 :: .ref m53 :: .ref m54 :: .ref m55 :: .ref m56 :: .ref m57 :: .ref m58 :: .ref m59 :: .ref m60 :: .ref m61 :: .int (nI msn) :: .int (nI mti) :: .ref m64 :: .ref m65 :: .ref m66 :: .ref m67 :: .ref m68 :: .ref m69 :: [])))), (m31, .inl (.inl (kA 1, 10, .inl mc31))), (m53, .inl (.inl (kA 1, 10, .inl fm53_23_35246))), (m54, .inl (.inl (kA 1, 10, .inl fm54_68_35255))), (m55, .inl (.inl (kA 1, 10, .inl fm55_68_35255)))]) [(4, .int (nI v4_68_35255)), (3, .int v3_68_35255), (2, .int v2_68_35255), (1, .int r351696), (0, .ref m)] 0 0 68 [] := by
                intro m68_35255
                induction m68_35255 with
                | zero =>
                  intro v4_68_35255 v3_68_35255 v2_68_35255 fm40_68_35255 fm54_68_35255 fm55_68_35255 i68_35255_0 i68_35255_1 i68_35255_2 i68_35255_3 hm68_35255
                  exact absurd hm68_35255 (Nat.not_lt_zero _)
                | succ m68_35255 ih68_35255 =>
                  intro v4_68_35255 v3_68_35255 v2_68_35255 fm40_68_35255 fm54_68_35255 fm55_68_35255 i68_35255_0 i68_35255_1 i68_35255_2 i68_35255_3 hm68_35255
                  refine j_iload h 0 rfl dX12_dealt_68 ?_
                  refine j_aload_n h 4 rfl rfl dX12_dealt_70 ?_
                  refine jm_get h iw_X12 4 rfl rfl 29 (by decide +kernel) tw_1185 rfl dX12_dealt_71 ?_
                  refine j_icmp_ge h 172 dX12_dealt_74 (by decide) (fun z351766 => ?_) (fun z351766 => ?_)
                  · have z351766n : mlt ≤ v4_68_35255 := (nI_leI (a := mlt) (b := v4_68_35255) (by omega) (by omega)).mp z351766
                    refine j_aload_n h 4 rfl rfl dX12_dealt_172 ?_
                    refine j_aload_n h 4 rfl rfl dX12_dealt_173 ?_
                    refine jm_get h iw_X12 4 rfl rfl 29 (by decide +kernel) tw_1185 rfl dX12_dealt_174 ?_
                    refine jm_put (w' := [(m33, .inl (.inl (kA 1, 20, .inl mc33))), (m40, .inl (.inl (kA 1, 60, .inl fm40_68_35255))), (m44, .inl (.inl (kA 1, 120, .inl mc44))), (m45, .inl (.inl (kA 1, 2, .inl mc45))), (m, .inl (.inr (12, (.ref m0 :: .int (nI mtp) :: .int (nI mfa) :: .int mfp :: .int (nI mat) :: .int (nI msz) :: .int (nI mso) :: .int mpl :: .int mnu :: .long mwd :: .ref m10 :: .ref m11 :: .ref m12 :: .ref m13 :: .ref m14 :: .ref m15 :: .ref m16 :: .ref m17 :: .ref m18 :: .ref m19 :: .ref m20 :: .ref m21 :: .ref m22 :: .ref m23 :: .ref m24 :: .int (nI mns) :: .int (nI mnl) :: .int (nI mne) :: .int (nI mst) :: .int (nI mlt) :: .int (nI mer) :: .ref m31 :: .ref m32 :: .ref m33 :: .ref m34 :: .ref m35 :: .int (nI mwm) :: .int (nI mwt) :: .int (nI mwf) :: .ref m39 :: .ref m40 :: .ref m41 :: .int (nI mlt) :: .ref m43 :: .ref m44 :: .ref m45 :: .ref m46 :: .ref m47 :: .ref m48 :: .int (nI mtm) :: .ref m50 :: .ref m51 :: .ref m52 :: .ref m53 :: .ref m54 :: .ref m55 :: .ref m56 :: .ref m57 :: .ref m58 :: .ref m59 :: .ref m60 :: .ref m61 :: .int (nI msn) :: .int (nI mti) :: .ref m64 :: .ref m65 :: .ref m66 :: .ref m67 :: .ref m68 :: .ref m69 :: [])))), (m31, .inl (.inl (kA 1, 10, .inl mc31))), (m53, .inl (.inl (kA 1, 10, .inl fm53_23_35246))), (m54, .inl (.inl (kA 1, 10, .inl fm54_68_35255))), (m55, .inl (.inl (kA 1, 10, .inl fm55_68_35255)))]) h iw_X12 tyX12 tyX12_ok nmX12 4 rfl rfl 42 (by decide +kernel) tw_1198 rfl rfl rfl (Nat.le_of_ble_eq_true rfl) dX12_dealt_177 rfl ?_
                    refine j_iload_n h 3 rfl rfl dX12_dealt_180 ?_
                    exact jm_iret h hq dX12_dealt_181 (fm40_68_35255, fm53_23_35246, fm54_68_35255, fm55_68_35255) [4, 5, 0, 1, 2, 3, 6, 7, 8] rfl (by decide) (show mlt ≤ 60 by first | assumption | omega) (Nat.le_of_ble_eq_true rfl) (Nat.le_of_ble_eq_true rfl)
                  · have z351766n : ¬ mlt ≤ v4_68_35255 := fun q9 => z351766 ((nI_leI (a := mlt) (b := v4_68_35255) (by omega) (by omega)).mpr q9)
                    refine j_iconst (v := 0) h (by decide) dX12_dealt_77 ?_
                    refine j_istore (lv' := [(5, .int 0), (4, .int (nI v4_68_35255)), (3, .int v3_68_35255), (2, .int v2_68_35255), (1, .int r351696), (0, .ref m)]) h dX12_dealt_78 (by decide) rfl ?_
                    have lp80_35258 : ∀ (m80_35258 : Nat), ∀ (v5_80_35258 : Nat) (fm54_80_35258 : Nat → Int32) (fm55_80_35258 : Nat → Int32), (∃ r9, v5_80_35258 ≤ r9 ∧ DlV fm53_23_35246 mc31 mlt v4_68_35255 v2_68_35255 v3_68_35255 r351696 r9) → (v5_80_35258 ≤ 100000) → 100001 - v5_80_35258 < m80_35258 → J x (mflat [(m33, .inl (.inl (kA 1, 20, .inl mc33))), (m40, .inl (.inl (kA 1, 60, .inl fm40_68_35255))), (m44, .inl (.inl (kA 1, 120, .inl mc44))), (m45, .inl (.inl (kA 1, 2, .inl mc45))), (m, .inl (.inr (12, (.ref m0 :: .int (nI mtp) :: .int (nI mfa) :: .int mfp :: .int (nI mat) :: .int (nI msz) :: .int (nI mso) :: .int mpl :: .int mnu :: .long mwd :: .ref m10 :: .ref m11 :: .ref m12 :: .ref m13 :: .ref m14 :: .ref m15 :: .ref m16 :: .ref m17 :: .ref m18 :: .ref m19 :: .ref m20 :: .ref m21 :: .ref m22 :: .ref m23 :: .ref m24 :: .int (nI mns) :: .int (nI mnl) :: .int (nI mne) :: .int (nI mst) :: .int (nI mlt) :: .int (nI mer) :: .ref m31 :: .ref m32 :: .ref m33 :: .ref m34 :: .ref m35 :: .int (nI mwm) :: .int (nI mwt) :: .int (nI mwf) :: .ref m39 :: .ref m40 :: .ref m41 :: .int (nI mla) :: .ref m43 :: .ref m44 :: .ref m45 :: .ref m46 :: .ref m47 :: .ref m48 :: .int (nI mtm) :: .ref m50 :: .ref m51 :: .ref m52 :: .ref m53 :: .ref m54 :: .ref m55 :: .ref m56 :: .ref m57 :: .ref m58 :: .ref m59 :: .ref m60 :: .ref m61 :: .int (nI msn) :: .int (nI mti) :: .ref m64 :: .ref m65 :: .ref m66 :: .ref m67 :: .ref m68 :: .ref m69 :: [])))), (m31, .inl (.inl (kA 1, 10, .inl mc31))), (m53, .inl (.inl (kA 1, 10, .inl fm53_23_35246))), (m54, .inl (.inl (kA 1, 10, .inl fm54_80_35258))), (m55, .inl (.inl (kA 1, 10, .inl fm55_80_35258)))]) [(5, .int (nI v5_80_35258)), (4, .int (nI v4_68_35255)), (3, .int v3_68_35255), (2, .int v2_68_35255), (1, .int r351696), (0, .ref m)] 0 0 80 [] := by
                      intro m80_35258
                      induction m80_35258 with
                      | zero =>
                        intro v5_80_35258 fm54_80_35258 fm55_80_35258 i80_35258_0 i80_35258_1 hm80_35258
                        exact absurd hm80_35258 (Nat.not_lt_zero _)
                      | succ m80_35258 ih80_35258 =>
                        intro v5_80_35258 fm54_80_35258 fm55_80_35258 i80_35258_0 i80_35258_1 hm80_35258
                        obtain ⟨r9x, a9x, b9x⟩ := i80_35258_0
                        have c9x := b9x.1
                        refine j_iload_n h 3 rfl rfl dX12_dealt_80 ?_
                        refine j_iload h 0 rfl dX12_dealt_81 ?_
                        refine j_ishr h dX12_dealt_83 ?_
                        refine j_iconst (v := 1) h (by decide) dX12_dealt_84 ?_
                        refine j_iand h dX12_dealt_85 ?_
                        refine j_iconst (v := 1) h (by decide) dX12_dealt_86 ?_
                        refine j_icmp_eq h 126 dX12_dealt_87 (by decide) (fun z351789 => ?_) (fun z351789 => ?_)
                        · show J x (mflat [(m33, .inl (.inl (kA 1, 20, .inl mc33))), (m40, .inl (.inl (kA 1, 60, .inl fm40_68_35255))), (m44, .inl (.inl (kA 1, 120, .inl mc44))), (m45, .inl (.inl (kA 1, 2, .inl mc45))), (m, .inl (.inr (12, (.ref m0 :: .int (nI mtp) :: .int (nI mfa) :: .int mfp :: .int (nI mat) :: .int (nI msz) :: .int (nI mso) :: .int mpl :: .int mnu :: .long mwd :: .ref m10 :: .ref m11 :: .ref m12 :: .ref m13 :: .ref m14 :: .ref m15 :: .ref m16 :: .ref m17 :: .ref m18 :: .ref m19 :: .ref m20 :: .ref m21 :: .ref m22 :: .ref m23 :: .ref m24 :: .int (nI mns) :: .int (nI mnl) :: .int (nI mne) :: .int (nI mst) :: .int (nI mlt) :: .int (nI mer) :: .ref m31 :: .ref m32 :: .ref m33 :: .ref m34 :: .ref m35 :: .int (nI mwm) :: .int (nI mwt) :: .int (nI mwf) :: .ref m39 :: .ref m40 :: .ref m41 :: .int (nI mla) :: .ref m43 :: .ref m44 :: .ref m45 :: .ref m46 :: .ref m47 :: .ref m48 :: .int (nI mtm) :: .ref m50 :: .ref m51 :: .ref m52 :: .ref m53 :: .ref m54 :: .ref m55 :: .ref m56 :: .ref m57 :: .ref m58 :: .ref m59 :: .ref m60 :: .ref m61 :: .int (nI msn) :: .int (nI mti) :: .ref m64 :: .ref m65 :: .ref m66 :: .ref m67 :: .ref m68 :: .ref m69 :: [])))), (m31, .inl (.inl (kA 1, 10, .inl mc31))), (m53, .inl (.inl (kA 1, 10, .inl fm53_23_35246))), (m54, .inl (.inl (kA 1, 10, .inl fm54_80_35258))), (m55, .inl (.inl (kA 1, 10, .inl fm55_80_35258)))]) [(5, .int (nI v5_80_35258)), (4, .int (nI v4_68_35255)), (3, .int v3_68_35255), (2, .int v2_68_35255), (1, .int r351696), (0, .ref m)] 0 0 126 []
                          refine j_iinc (v := nI (v5_80_35258 + 1)) (lv' := [(5, .int (nI (v5_80_35258 + 1))), (4, .int (nI v4_68_35255)), (3, .int v3_68_35255), (2, .int v2_68_35255), (1, .int r351696), (0, .ref m)]) h dX12_dealt_126 0 rfl (nI_add v5_80_35258 1) (by decide) rfl ?_
                          refine j_goto h 80 dX12_dealt_129 (by decide) ?_
                          refine jm_sub [0, 1, 2, 3, 4, 5, 6, 7, 8] (w' := [(m33, .inl (.inl (kA 1, 20, .inl mc33))), (m40, .inl (.inl (kA 1, 60, .inl fm40_68_35255))), (m44, .inl (.inl (kA 1, 120, .inl mc44))), (m45, .inl (.inl (kA 1, 2, .inl mc45))), (m, .inl (.inr (12, (.ref m0 :: .int (nI mtp) :: .int (nI mfa) :: .int mfp :: .int (nI mat) :: .int (nI msz) :: .int (nI mso) :: .int mpl :: .int mnu :: .long mwd :: .ref m10 :: .ref m11 :: .ref m12 :: .ref m13 :: .ref m14 :: .ref m15 :: .ref m16 :: .ref m17 :: .ref m18 :: .ref m19 :: .ref m20 :: .ref m21 :: .ref m22 :: .ref m23 :: .ref m24 :: .int (nI mns) :: .int (nI mnl) :: .int (nI mne) :: .int (nI mst) :: .int (nI mlt) :: .int (nI mer) :: .ref m31 :: .ref m32 :: .ref m33 :: .ref m34 :: .ref m35 :: .int (nI mwm) :: .int (nI mwt) :: .int (nI mwf) :: .ref m39 :: .ref m40 :: .ref m41 :: .int (nI mla) :: .ref m43 :: .ref m44 :: .ref m45 :: .ref m46 :: .ref m47 :: .ref m48 :: .int (nI mtm) :: .ref m50 :: .ref m51 :: .ref m52 :: .ref m53 :: .ref m54 :: .ref m55 :: .ref m56 :: .ref m57 :: .ref m58 :: .ref m59 :: .ref m60 :: .ref m61 :: .int (nI msn) :: .int (nI mti) :: .ref m64 :: .ref m65 :: .ref m66 :: .ref m67 :: .ref m68 :: .ref m69 :: [])))), (m31, .inl (.inl (kA 1, 10, .inl mc31))), (m53, .inl (.inl (kA 1, 10, .inl fm53_23_35246))), (m54, .inl (.inl (kA 1, 10, .inl fm54_80_35258))), (m55, .inl (.inl (kA 1, 10, .inl fm55_80_35258)))]) rfl (by decide +kernel) [0, 1, 2, 3, 4, 5] (lv' := [(5, .int (nI (v5_80_35258 + 1))), (4, .int (nI v4_68_35255)), (3, .int v3_68_35255), (2, .int v2_68_35255), (1, .int r351696), (0, .ref m)]) rfl ?_
                          exact ih80_35258 (v5_80_35258 + 1) fm54_80_35258 fm55_80_35258 (show ∃ r9, (v5_80_35258 + 1) ≤ r9 ∧ DlV fm53_23_35246 mc31 mlt v4_68_35255 v2_68_35255 v3_68_35255 r351696 r9 from ⟨r9x, Dl_next a9x b9x (Dl_u z351789), b9x⟩) (show (v5_80_35258 + 1) ≤ 100000 by first | assumption | omega) (show 100001 - (v5_80_35258 + 1) < m80_35258 by first | exact Nat.lt_of_lt_of_le (Nat.sub_lt_sub_left (Nat.lt_of_le_of_lt (show v5_80_35258 ≤ 100000 by assumption) (Nat.lt_succ_self 100000)) (Nat.lt_succ_self v5_80_35258)) (Nat.le_of_lt_succ hm80_35258) | omega)
                        · show J x (mflat [(m33, .inl (.inl (kA 1, 20, .inl mc33))), (m40, .inl (.inl (kA 1, 60, .inl fm40_68_35255))), (m44, .inl (.inl (kA 1, 120, .inl mc44))), (m45, .inl (.inl (kA 1, 2, .inl mc45))), (m, .inl (.inr (12, (.ref m0 :: .int (nI mtp) :: .int (nI mfa) :: .int mfp :: .int (nI mat) :: .int (nI msz) :: .int (nI mso) :: .int mpl :: .int mnu :: .long mwd :: .ref m10 :: .ref m11 :: .ref m12 :: .ref m13 :: .ref m14 :: .ref m15 :: .ref m16 :: .ref m17 :: .ref m18 :: .ref m19 :: .ref m20 :: .ref m21 :: .ref m22 :: .ref m23 :: .ref m24 :: .int (nI mns) :: .int (nI mnl) :: .int (nI mne) :: .int (nI mst) :: .int (nI mlt) :: .int (nI mer) :: .ref m31 :: .ref m32 :: .ref m33 :: .ref m34 :: .ref m35 :: .int (nI mwm) :: .int (nI mwt) :: .int (nI mwf) :: .ref m39 :: .ref m40 :: .ref m41 :: .int (nI mla) :: .ref m43 :: .ref m44 :: .ref m45 :: .ref m46 :: .ref m47 :: .ref m48 :: .int (nI mtm) :: .ref m50 :: .ref m51 :: .ref m52 :: .ref m53 :: .ref m54 :: .ref m55 :: .ref m56 :: .ref m57 :: .ref m58 :: .ref m59 :: .ref m60 :: .ref m61 :: .int (nI msn) :: .int (nI mti) :: .ref m64 :: .ref m65 :: .ref m66 :: .ref m67 :: .ref m68 :: .ref m69 :: [])))), (m31, .inl (.inl (kA 1, 10, .inl mc31))), (m53, .inl (.inl (kA 1, 10, .inl fm53_23_35246))), (m54, .inl (.inl (kA 1, 10, .inl fm54_80_35258))), (m55, .inl (.inl (kA 1, 10, .inl fm55_80_35258)))]) [(5, .int (nI v5_80_35258)), (4, .int (nI v4_68_35255)), (3, .int v3_68_35255), (2, .int v2_68_35255), (1, .int r351696), (0, .ref m)] 0 0 90 []
                          refine j_iload_n h 2 rfl rfl dX12_dealt_90 ?_
                          refine j_aload_n h 5 rfl rfl dX12_dealt_91 ?_
                          refine jm_get h iw_X12 4 rfl rfl 53 (by decide +kernel) tw_1209 rfl dX12_dealt_92 ?_
                          refine j_iload h 1 rfl dX12_dealt_95 ?_
                          refine jm_iald h 6 rfl v4_68_35255 rfl (by omega) (by omega) dX12_dealt_97 ?_
                          refine j_aload_n h 5 rfl rfl dX12_dealt_98 ?_
                          refine jm_get h iw_X12 4 rfl rfl 31 (by decide +kernel) tw_1187 rfl dX12_dealt_99 ?_
                          refine j_iload h 0 rfl dX12_dealt_102 ?_
                          refine jm_iald h 5 rfl v5_80_35258 rfl (by omega) (by omega) dX12_dealt_104 ?_
                          obtain ⟨t351790, u351791, u351792, u351793⟩ := (show LtOk mlt mc31 by assumption) v5_80_35258 (by omega)
                          refine j_top (b := nI t351790) (u351793) ?_
                          refine j_imul h dX12_dealt_105 ?_
                          refine j_iadd h dX12_dealt_106 ?_
                          refine j_aload_n h 5 rfl rfl dX12_dealt_107 ?_
                          refine j_iload h 1 rfl dX12_dealt_108 ?_
                          refine j_iconst (v := 1) h (by decide) dX12_dealt_110 ?_
                          refine j_iadd h dX12_dealt_111 ?_
                          refine j_top (b := nI (v4_68_35255 + 1)) (nI_add v4_68_35255 1) ?_
                          refine j_iload_n h 3 rfl rfl dX12_dealt_112 ?_
                          refine j_iconst (v := 1) h (by decide) dX12_dealt_113 ?_
                          refine j_iload h 0 rfl dX12_dealt_114 ?_
                          refine j_ishl h dX12_dealt_116 ?_
                          refine j_ior h dX12_dealt_117 ?_
                          refine jm_callVi (np := 2) (isC := [4, 5, 6, 7, 8]) (isR := [0, 1, 2, 3]) (wc := [(m, .inl (.inr (12, (.ref m0 :: .int (nI mtp) :: .int (nI mfa) :: .int mfp :: .int (nI mat) :: .int (nI msz) :: .int (nI mso) :: .int mpl :: .int mnu :: .long mwd :: .ref m10 :: .ref m11 :: .ref m12 :: .ref m13 :: .ref m14 :: .ref m15 :: .ref m16 :: .ref m17 :: .ref m18 :: .ref m19 :: .ref m20 :: .ref m21 :: .ref m22 :: .ref m23 :: .ref m24 :: .int (nI mns) :: .int (nI mnl) :: .int (nI mne) :: .int (nI mst) :: .int (nI mlt) :: .int (nI mer) :: .ref m31 :: .ref m32 :: .ref m33 :: .ref m34 :: .ref m35 :: .int (nI mwm) :: .int (nI mwt) :: .int (nI mwf) :: .ref m39 :: .ref m40 :: .ref m41 :: .int (nI mla) :: .ref m43 :: .ref m44 :: .ref m45 :: .ref m46 :: .ref m47 :: .ref m48 :: .int (nI mtm) :: .ref m50 :: .ref m51 :: .ref m52 :: .ref m53 :: .ref m54 :: .ref m55 :: .ref m56 :: .ref m57 :: .ref m58 :: .ref m59 :: .ref m60 :: .ref m61 :: .int (nI msn) :: .int (nI mti) :: .ref m64 :: .ref m65 :: .ref m66 :: .ref m67 :: .ref m68 :: .ref m69 :: [])))), (m31, .inl (.inl (kA 1, 10, .inl mc31))), (m53, .inl (.inl (kA 1, 10, .inl fm53_23_35246))), (m54, .inl (.inl (kA 1, 10, .inl fm54_80_35258))), (m55, .inl (.inl (kA 1, 10, .inl fm55_80_35258)))]) (wr := [(m33, .inl (.inl (kA 1, 20, .inl mc33))), (m40, .inl (.inl (kA 1, 60, .inl fm40_68_35255))), (m44, .inl (.inl (kA 1, 120, .inl mc44))), (m45, .inl (.inl (kA 1, 2, .inl mc45)))]) (rest := [.int (v3_68_35255 + ((fm53_23_35246 v4_68_35255) * (nI t351790)))]) (As := [.int (nI (v4_68_35255 + 1)), .int (v2_68_35255 ||| ((1 : Int32) <<< ((nI v5_80_35258) &&& 31)))]) (q0 := 0) h (s_X12_rest _ _ kA m (v4_68_35255 + 1) (v2_68_35255 ||| ((1 : Int32) <<< ((nI v5_80_35258) &&& 31))) m0 mtp mfa mfp mat msz mso mpl mnu mwd m10 m11 m12 m13 m14 m15 m16 m17 m18 m19 m20 m21 m22 m23 m24 mns mnl mne mst mlt mer m31 m32 m33 m34 m35 mwm mwt mwf m39 m40 m41 mla m43 m44 m45 m46 m47 m48 mtm m50 m51 m52 m53 m54 m55 m56 m57 m58 m59 m60 m61 msn mti m64 m65 m66 m67 m68 m69 mc31 fm53_23_35246 fm54_80_35258 fm55_80_35258 (show mst ≤ 6 by first | assumption | omega) (show mlt ≤ 10 by first | assumption | omega) (show mer ≤ 4 by first | assumption | omega) (show LtOk mlt mc31 by first | assumption | (intro h9; exact absurd h9 (by omega)) | (intro _; assumption) | omega) (show (v4_68_35255 + 1) ≤ mlt by first | assumption | omega) (show nU (v2_68_35255 ||| ((1 : Int32) <<< ((nI v5_80_35258) &&& 31))) mlt + (v4_68_35255 + 1) = mlt from nU_or' (by assumption) (by omega) (by omega) z351789)) tw_1636 tw_1638 tw_81 tw_99 tw_1639 (by decide +kernel) rfl ⟨Nat.le_of_ble_eq_true rfl, Nat.le_of_ble_eq_true rfl⟩ rfl rfl (by decide +kernel) rfl rfl (by decide +kernel) (by decide +kernel) (Nat.le_of_ble_eq_true rfl) rfl ⟨Nat.le_of_ble_eq_true rfl, Nat.le_of_ble_eq_true rfl⟩ dX12_dealt_118 ?_
                          rintro r351797 ⟨q351794, q351795⟩ e351796
                          have p351798 := e351796
                          replace p351798 : RestV fm53_23_35246 mc31 mlt (v4_68_35255 + 1) (v2_68_35255 ||| ((1 : Int32) <<< ((nI v5_80_35258) &&& 31))) r351797 := p351798
                          show J x (mflat [(m33, .inl (.inl (kA 1, 20, .inl mc33))), (m40, .inl (.inl (kA 1, 60, .inl fm40_68_35255))), (m44, .inl (.inl (kA 1, 120, .inl mc44))), (m45, .inl (.inl (kA 1, 2, .inl mc45))), (m, .inl (.inr (12, (.ref m0 :: .int (nI mtp) :: .int (nI mfa) :: .int mfp :: .int (nI mat) :: .int (nI msz) :: .int (nI mso) :: .int mpl :: .int mnu :: .long mwd :: .ref m10 :: .ref m11 :: .ref m12 :: .ref m13 :: .ref m14 :: .ref m15 :: .ref m16 :: .ref m17 :: .ref m18 :: .ref m19 :: .ref m20 :: .ref m21 :: .ref m22 :: .ref m23 :: .ref m24 :: .int (nI mns) :: .int (nI mnl) :: .int (nI mne) :: .int (nI mst) :: .int (nI mlt) :: .int (nI mer) :: .ref m31 :: .ref m32 :: .ref m33 :: .ref m34 :: .ref m35 :: .int (nI mwm) :: .int (nI mwt) :: .int (nI mwf) :: .ref m39 :: .ref m40 :: .ref m41 :: .int (nI mla) :: .ref m43 :: .ref m44 :: .ref m45 :: .ref m46 :: .ref m47 :: .ref m48 :: .int (nI mtm) :: .ref m50 :: .ref m51 :: .ref m52 :: .ref m53 :: .ref m54 :: .ref m55 :: .ref m56 :: .ref m57 :: .ref m58 :: .ref m59 :: .ref m60 :: .ref m61 :: .int (nI msn) :: .int (nI mti) :: .ref m64 :: .ref m65 :: .ref m66 :: .ref m67 :: .ref m68 :: .ref m69 :: [])))), (m31, .inl (.inl (kA 1, 10, .inl mc31))), (m53, .inl (.inl (kA 1, 10, .inl fm53_23_35246))), (m54, .inl (.inl (kA 1, 10, .inl q351794))), (m55, .inl (.inl (kA 1, 10, .inl q351795)))]) [(5, .int (nI v5_80_35258)), (4, .int (nI v4_68_35255)), (3, .int v3_68_35255), (2, .int v2_68_35255), (1, .int r351696), (0, .ref m)] 0 0 121 [.int r351797, .int (v3_68_35255 + ((fm53_23_35246 v4_68_35255) * (nI t351790)))]
                          refine j_iadd h dX12_dealt_121 ?_
                          refine j_iload_n h 4 rfl rfl dX12_dealt_122 ?_
                          refine j_icmp_eq h 132 dX12_dealt_123 (by decide) (fun z351799 => ?_) (fun z351799 => ?_)
                          · show J x (mflat [(m33, .inl (.inl (kA 1, 20, .inl mc33))), (m40, .inl (.inl (kA 1, 60, .inl fm40_68_35255))), (m44, .inl (.inl (kA 1, 120, .inl mc44))), (m45, .inl (.inl (kA 1, 2, .inl mc45))), (m, .inl (.inr (12, (.ref m0 :: .int (nI mtp) :: .int (nI mfa) :: .int mfp :: .int (nI mat) :: .int (nI msz) :: .int (nI mso) :: .int mpl :: .int mnu :: .long mwd :: .ref m10 :: .ref m11 :: .ref m12 :: .ref m13 :: .ref m14 :: .ref m15 :: .ref m16 :: .ref m17 :: .ref m18 :: .ref m19 :: .ref m20 :: .ref m21 :: .ref m22 :: .ref m23 :: .ref m24 :: .int (nI mns) :: .int (nI mnl) :: .int (nI mne) :: .int (nI mst) :: .int (nI mlt) :: .int (nI mer) :: .ref m31 :: .ref m32 :: .ref m33 :: .ref m34 :: .ref m35 :: .int (nI mwm) :: .int (nI mwt) :: .int (nI mwf) :: .ref m39 :: .ref m40 :: .ref m41 :: .int (nI mla) :: .ref m43 :: .ref m44 :: .ref m45 :: .ref m46 :: .ref m47 :: .ref m48 :: .int (nI mtm) :: .ref m50 :: .ref m51 :: .ref m52 :: .ref m53 :: .ref m54 :: .ref m55 :: .ref m56 :: .ref m57 :: .ref m58 :: .ref m59 :: .ref m60 :: .ref m61 :: .int (nI msn) :: .int (nI mti) :: .ref m64 :: .ref m65 :: .ref m66 :: .ref m67 :: .ref m68 :: .ref m69 :: [])))), (m31, .inl (.inl (kA 1, 10, .inl mc31))), (m53, .inl (.inl (kA 1, 10, .inl fm53_23_35246))), (m54, .inl (.inl (kA 1, 10, .inl q351794))), (m55, .inl (.inl (kA 1, 10, .inl q351795)))]) [(5, .int (nI v5_80_35258)), (4, .int (nI v4_68_35255)), (3, .int v3_68_35255), (2, .int v2_68_35255), (1, .int r351696), (0, .ref m)] 0 0 132 []
                            refine j_iload_n h 2 rfl rfl dX12_dealt_132 ?_
                            refine j_aload_n h 5 rfl rfl dX12_dealt_133 ?_
                            refine jm_get h iw_X12 4 rfl rfl 53 (by decide +kernel) tw_1209 rfl dX12_dealt_134 ?_
                            refine j_iload h 1 rfl dX12_dealt_137 ?_
                            refine jm_iald h 6 rfl v4_68_35255 rfl (by omega) (by omega) dX12_dealt_139 ?_
                            refine j_aload_n h 5 rfl rfl dX12_dealt_140 ?_
                            refine jm_get h iw_X12 4 rfl rfl 31 (by decide +kernel) tw_1187 rfl dX12_dealt_141 ?_
                            refine j_iload h 0 rfl dX12_dealt_144 ?_
                            refine jm_iald h 5 rfl v5_80_35258 rfl (by omega) (by omega) dX12_dealt_146 ?_
                            refine j_top (b := nI t351790) (u351793) ?_
                            refine j_imul h dX12_dealt_147 ?_
                            refine j_iadd h dX12_dealt_148 ?_
                            refine j_istore_n (lv' := [(3, .int (v3_68_35255 + ((fm53_23_35246 v4_68_35255) * (nI t351790)))), (5, .int (nI v5_80_35258)), (4, .int (nI v4_68_35255)), (2, .int v2_68_35255), (1, .int r351696), (0, .ref m)]) h dX12_dealt_149 rfl (by decide) rfl ?_
                            refine j_iload_n h 3 rfl rfl dX12_dealt_150 ?_
                            refine j_iconst (v := 1) h (by decide) dX12_dealt_151 ?_
                            refine j_iload h 1 rfl dX12_dealt_152 ?_
                            refine j_ishl h dX12_dealt_154 ?_
                            refine j_ior h dX12_dealt_155 ?_
                            refine j_istore_n (lv' := [(2, .int (v2_68_35255 ||| ((1 : Int32) <<< ((nI v5_80_35258) &&& 31)))), (3, .int (v3_68_35255 + ((fm53_23_35246 v4_68_35255) * (nI t351790)))), (5, .int (nI v5_80_35258)), (4, .int (nI v4_68_35255)), (1, .int r351696), (0, .ref m)]) h dX12_dealt_156 rfl (by decide) rfl ?_
                            refine j_aload_n h 5 rfl rfl dX12_dealt_157 ?_
                            refine jm_get h iw_X12 4 rfl rfl 40 (by decide +kernel) tw_1196 rfl dX12_dealt_158 ?_
                            refine j_iload h 3 rfl dX12_dealt_161 ?_
                            refine j_iload h 2 rfl dX12_dealt_163 ?_
                            refine jm_iast (w' := [(m33, .inl (.inl (kA 1, 20, .inl mc33))), (m40, .inl (.inl (kA 1, 60, .inl (upd fm40_68_35255 v4_68_35255 (nI v5_80_35258))))), (m44, .inl (.inl (kA 1, 120, .inl mc44))), (m45, .inl (.inl (kA 1, 2, .inl mc45))), (m, .inl (.inr (12, (.ref m0 :: .int (nI mtp) :: .int (nI mfa) :: .int mfp :: .int (nI mat) :: .int (nI msz) :: .int (nI mso) :: .int mpl :: .int mnu :: .long mwd :: .ref m10 :: .ref m11 :: .ref m12 :: .ref m13 :: .ref m14 :: .ref m15 :: .ref m16 :: .ref m17 :: .ref m18 :: .ref m19 :: .ref m20 :: .ref m21 :: .ref m22 :: .ref m23 :: .ref m24 :: .int (nI mns) :: .int (nI mnl) :: .int (nI mne) :: .int (nI mst) :: .int (nI mlt) :: .int (nI mer) :: .ref m31 :: .ref m32 :: .ref m33 :: .ref m34 :: .ref m35 :: .int (nI mwm) :: .int (nI mwt) :: .int (nI mwf) :: .ref m39 :: .ref m40 :: .ref m41 :: .int (nI mla) :: .ref m43 :: .ref m44 :: .ref m45 :: .ref m46 :: .ref m47 :: .ref m48 :: .int (nI mtm) :: .ref m50 :: .ref m51 :: .ref m52 :: .ref m53 :: .ref m54 :: .ref m55 :: .ref m56 :: .ref m57 :: .ref m58 :: .ref m59 :: .ref m60 :: .ref m61 :: .int (nI msn) :: .int (nI mti) :: .ref m64 :: .ref m65 :: .ref m66 :: .ref m67 :: .ref m68 :: .ref m69 :: [])))), (m31, .inl (.inl (kA 1, 10, .inl mc31))), (m53, .inl (.inl (kA 1, 10, .inl fm53_23_35246))), (m54, .inl (.inl (kA 1, 10, .inl q351794))), (m55, .inl (.inl (kA 1, 10, .inl q351795)))]) h 1 rfl v4_68_35255 rfl (by omega) (by omega) dX12_dealt_165 rfl ?_
                            refine j_iinc (v := nI (v4_68_35255 + 1)) (lv' := [(4, .int (nI (v4_68_35255 + 1))), (2, .int (v2_68_35255 ||| ((1 : Int32) <<< ((nI v5_80_35258) &&& 31)))), (3, .int (v3_68_35255 + ((fm53_23_35246 v4_68_35255) * (nI t351790)))), (5, .int (nI v5_80_35258)), (1, .int r351696), (0, .ref m)]) h dX12_dealt_166 3 rfl (nI_add v4_68_35255 1) (by decide) rfl ?_
                            refine j_goto h 68 dX12_dealt_169 (by decide) ?_
                            refine jm_sub [0, 1, 2, 3, 4, 5, 6, 7, 8] (w' := [(m33, .inl (.inl (kA 1, 20, .inl mc33))), (m40, .inl (.inl (kA 1, 60, .inl (upd fm40_68_35255 v4_68_35255 (nI v5_80_35258))))), (m44, .inl (.inl (kA 1, 120, .inl mc44))), (m45, .inl (.inl (kA 1, 2, .inl mc45))), (m, .inl (.inr (12, (.ref m0 :: .int (nI mtp) :: .int (nI mfa) :: .int mfp :: .int (nI mat) :: .int (nI msz) :: .int (nI mso) :: .int mpl :: .int mnu :: .long mwd :: .ref m10 :: .ref m11 :: .ref m12 :: .ref m13 :: .ref m14 :: .ref m15 :: .ref m16 :: .ref m17 :: .ref m18 :: .ref m19 :: .ref m20 :: .ref m21 :: .ref m22 :: .ref m23 :: .ref m24 :: .int (nI mns) :: .int (nI mnl) :: .int (nI mne) :: .int (nI mst) :: .int (nI mlt) :: .int (nI mer) :: .ref m31 :: .ref m32 :: .ref m33 :: .ref m34 :: .ref m35 :: .int (nI mwm) :: .int (nI mwt) :: .int (nI mwf) :: .ref m39 :: .ref m40 :: .ref m41 :: .int (nI mla) :: .ref m43 :: .ref m44 :: .ref m45 :: .ref m46 :: .ref m47 :: .ref m48 :: .int (nI mtm) :: .ref m50 :: .ref m51 :: .ref m52 :: .ref m53 :: .ref m54 :: .ref m55 :: .ref m56 :: .ref m57 :: .ref m58 :: .ref m59 :: .ref m60 :: .ref m61 :: .int (nI msn) :: .int (nI mti) :: .ref m64 :: .ref m65 :: .ref m66 :: .ref m67 :: .ref m68 :: .ref m69 :: [])))), (m31, .inl (.inl (kA 1, 10, .inl mc31))), (m53, .inl (.inl (kA 1, 10, .inl fm53_23_35246))), (m54, .inl (.inl (kA 1, 10, .inl q351794))), (m55, .inl (.inl (kA 1, 10, .inl q351795)))]) rfl (by decide +kernel) [0, 2, 1, 4, 5] (lv' := [(4, .int (nI (v4_68_35255 + 1))), (3, .int (v3_68_35255 + ((fm53_23_35246 v4_68_35255) * (nI t351790)))), (2, .int (v2_68_35255 ||| ((1 : Int32) <<< ((nI v5_80_35258) &&& 31)))), (1, .int r351696), (0, .ref m)]) rfl ?_
                            exact ih68_35255 (v4_68_35255 + 1) (v3_68_35255 + ((fm53_23_35246 v4_68_35255) * (nI t351790))) (v2_68_35255 ||| ((1 : Int32) <<< ((nI v5_80_35258) &&& 31))) (upd fm40_68_35255 v4_68_35255 (nI v5_80_35258)) q351794 q351795 (show (v4_68_35255 + 1) ≤ mlt by first | assumption | omega) (show nU (v2_68_35255 ||| ((1 : Int32) <<< ((nI v5_80_35258) &&& 31))) mlt + (v4_68_35255 + 1) = mlt from nU_or' (by assumption) (by omega) (by omega) z351789) (show ∃ v9, RestV fm53_23_35246 mc31 mlt (v4_68_35255 + 1) (v2_68_35255 ||| ((1 : Int32) <<< ((nI v5_80_35258) &&& 31))) v9 ∧ (v3_68_35255 + ((fm53_23_35246 v4_68_35255) * (nI t351790))) + v9 = r351696 from ⟨_, p351798, z351799⟩) (show (v4_68_35255 + 1) ≤ 100000 by first | assumption | omega) (show 100001 - (v4_68_35255 + 1) < m68_35255 by first | exact Nat.lt_of_lt_of_le (Nat.sub_lt_sub_left (Nat.lt_of_le_of_lt (show v4_68_35255 ≤ 100000 by assumption) (Nat.lt_succ_self 100000)) (Nat.lt_succ_self v4_68_35255)) (Nat.le_of_lt_succ hm68_35255) | omega)
                          · show J x (mflat [(m33, .inl (.inl (kA 1, 20, .inl mc33))), (m40, .inl (.inl (kA 1, 60, .inl fm40_68_35255))), (m44, .inl (.inl (kA 1, 120, .inl mc44))), (m45, .inl (.inl (kA 1, 2, .inl mc45))), (m, .inl (.inr (12, (.ref m0 :: .int (nI mtp) :: .int (nI mfa) :: .int mfp :: .int (nI mat) :: .int (nI msz) :: .int (nI mso) :: .int mpl :: .int mnu :: .long mwd :: .ref m10 :: .ref m11 :: .ref m12 :: .ref m13 :: .ref m14 :: .ref m15 :: .ref m16 :: .ref m17 :: .ref m18 :: .ref m19 :: .ref m20 :: .ref m21 :: .ref m22 :: .ref m23 :: .ref m24 :: .int (nI mns) :: .int (nI mnl) :: .int (nI mne) :: .int (nI mst) :: .int (nI mlt) :: .int (nI mer) :: .ref m31 :: .ref m32 :: .ref m33 :: .ref m34 :: .ref m35 :: .int (nI mwm) :: .int (nI mwt) :: .int (nI mwf) :: .ref m39 :: .ref m40 :: .ref m41 :: .int (nI mla) :: .ref m43 :: .ref m44 :: .ref m45 :: .ref m46 :: .ref m47 :: .ref m48 :: .int (nI mtm) :: .ref m50 :: .ref m51 :: .ref m52 :: .ref m53 :: .ref m54 :: .ref m55 :: .ref m56 :: .ref m57 :: .ref m58 :: .ref m59 :: .ref m60 :: .ref m61 :: .int (nI msn) :: .int (nI mti) :: .ref m64 :: .ref m65 :: .ref m66 :: .ref m67 :: .ref m68 :: .ref m69 :: [])))), (m31, .inl (.inl (kA 1, 10, .inl mc31))), (m53, .inl (.inl (kA 1, 10, .inl fm53_23_35246))), (m54, .inl (.inl (kA 1, 10, .inl q351794))), (m55, .inl (.inl (kA 1, 10, .inl q351795)))]) [(5, .int (nI v5_80_35258)), (4, .int (nI v4_68_35255)), (3, .int v3_68_35255), (2, .int v2_68_35255), (1, .int r351696), (0, .ref m)] 0 0 126 []
                            refine j_iinc (v := nI (v5_80_35258 + 1)) (lv' := [(5, .int (nI (v5_80_35258 + 1))), (4, .int (nI v4_68_35255)), (3, .int v3_68_35255), (2, .int v2_68_35255), (1, .int r351696), (0, .ref m)]) h dX12_dealt_126 0 rfl (nI_add v5_80_35258 1) (by decide) rfl ?_
                            refine j_goto h 80 dX12_dealt_129 (by decide) ?_
                            refine jm_sub [0, 1, 2, 3, 4, 5, 6, 7, 8] (w' := [(m33, .inl (.inl (kA 1, 20, .inl mc33))), (m40, .inl (.inl (kA 1, 60, .inl fm40_68_35255))), (m44, .inl (.inl (kA 1, 120, .inl mc44))), (m45, .inl (.inl (kA 1, 2, .inl mc45))), (m, .inl (.inr (12, (.ref m0 :: .int (nI mtp) :: .int (nI mfa) :: .int mfp :: .int (nI mat) :: .int (nI msz) :: .int (nI mso) :: .int mpl :: .int mnu :: .long mwd :: .ref m10 :: .ref m11 :: .ref m12 :: .ref m13 :: .ref m14 :: .ref m15 :: .ref m16 :: .ref m17 :: .ref m18 :: .ref m19 :: .ref m20 :: .ref m21 :: .ref m22 :: .ref m23 :: .ref m24 :: .int (nI mns) :: .int (nI mnl) :: .int (nI mne) :: .int (nI mst) :: .int (nI mlt) :: .int (nI mer) :: .ref m31 :: .ref m32 :: .ref m33 :: .ref m34 :: .ref m35 :: .int (nI mwm) :: .int (nI mwt) :: .int (nI mwf) :: .ref m39 :: .ref m40 :: .ref m41 :: .int (nI mla) :: .ref m43 :: .ref m44 :: .ref m45 :: .ref m46 :: .ref m47 :: .ref m48 :: .int (nI mtm) :: .ref m50 :: .ref m51 :: .ref m52 :: .ref m53 :: .ref m54 :: .ref m55 :: .ref m56 :: .ref m57 :: .ref m58 :: .ref m59 :: .ref m60 :: .ref m61 :: .int (nI msn) :: .int (nI mti) :: .ref m64 :: .ref m65 :: .ref m66 :: .ref m67 :: .ref m68 :: .ref m69 :: [])))), (m31, .inl (.inl (kA 1, 10, .inl mc31))), (m53, .inl (.inl (kA 1, 10, .inl fm53_23_35246))), (m54, .inl (.inl (kA 1, 10, .inl q351794))), (m55, .inl (.inl (kA 1, 10, .inl q351795)))]) rfl (by decide +kernel) [0, 1, 2, 3, 4, 5] (lv' := [(5, .int (nI (v5_80_35258 + 1))), (4, .int (nI v4_68_35255)), (3, .int v3_68_35255), (2, .int v2_68_35255), (1, .int r351696), (0, .ref m)]) rfl ?_
                            exact ih80_35258 (v5_80_35258 + 1) q351794 q351795 (show ∃ r9, (v5_80_35258 + 1) ≤ r9 ∧ DlV fm53_23_35246 mc31 mlt v4_68_35255 v2_68_35255 v3_68_35255 r351696 r9 from ⟨r9x, Dl_next a9x b9x (Dl_no u351793 p351798 z351799), b9x⟩) (show (v5_80_35258 + 1) ≤ 100000 by first | assumption | omega) (show 100001 - (v5_80_35258 + 1) < m80_35258 by first | exact Nat.lt_of_lt_of_le (Nat.sub_lt_sub_left (Nat.lt_of_le_of_lt (show v5_80_35258 ≤ 100000 by assumption) (Nat.lt_succ_self 100000)) (Nat.lt_succ_self v5_80_35258)) (Nat.le_of_lt_succ hm80_35258) | omega)
                    refine jm_sub [0, 1, 2, 3, 4, 5, 6, 7, 8] (w' := [(m33, .inl (.inl (kA 1, 20, .inl mc33))), (m40, .inl (.inl (kA 1, 60, .inl fm40_68_35255))), (m44, .inl (.inl (kA 1, 120, .inl mc44))), (m45, .inl (.inl (kA 1, 2, .inl mc45))), (m, .inl (.inr (12, (.ref m0 :: .int (nI mtp) :: .int (nI mfa) :: .int mfp :: .int (nI mat) :: .int (nI msz) :: .int (nI mso) :: .int mpl :: .int mnu :: .long mwd :: .ref m10 :: .ref m11 :: .ref m12 :: .ref m13 :: .ref m14 :: .ref m15 :: .ref m16 :: .ref m17 :: .ref m18 :: .ref m19 :: .ref m20 :: .ref m21 :: .ref m22 :: .ref m23 :: .ref m24 :: .int (nI mns) :: .int (nI mnl) :: .int (nI mne) :: .int (nI mst) :: .int (nI mlt) :: .int (nI mer) :: .ref m31 :: .ref m32 :: .ref m33 :: .ref m34 :: .ref m35 :: .int (nI mwm) :: .int (nI mwt) :: .int (nI mwf) :: .ref m39 :: .ref m40 :: .ref m41 :: .int (nI mla) :: .ref m43 :: .ref m44 :: .ref m45 :: .ref m46 :: .ref m47 :: .ref m48 :: .int (nI mtm) :: .ref m50 :: .ref m51 :: .ref m52 :: .ref m53 :: .ref m54 :: .ref m55 :: .ref m56 :: .ref m57 :: .ref m58 :: .ref m59 :: .ref m60 :: .ref m61 :: .int (nI msn) :: .int (nI mti) :: .ref m64 :: .ref m65 :: .ref m66 :: .ref m67 :: .ref m68 :: .ref m69 :: [])))), (m31, .inl (.inl (kA 1, 10, .inl mc31))), (m53, .inl (.inl (kA 1, 10, .inl fm53_23_35246))), (m54, .inl (.inl (kA 1, 10, .inl fm54_68_35255))), (m55, .inl (.inl (kA 1, 10, .inl fm55_68_35255)))]) rfl (by decide +kernel) [0, 1, 2, 3, 4, 5] (lv' := [(5, .int 0), (4, .int (nI v4_68_35255)), (3, .int v3_68_35255), (2, .int v2_68_35255), (1, .int r351696), (0, .ref m)]) rfl ?_
                    exact lp80_35258 (100001 - 0 + 1) 0 fm54_68_35255 fm55_68_35255 (show ∃ r9, 0 ≤ r9 ∧ DlV fm53_23_35246 mc31 mlt v4_68_35255 v2_68_35255 v3_68_35255 r351696 r9 from Dl_ini (by assumption) (by omega) (by omega)) (show 0 ≤ 100000 by first | assumption | omega) (Nat.lt_succ_self _)
              refine jm_sub [0, 1, 2, 3, 4, 5, 6, 7, 8] (w' := [(m33, .inl (.inl (kA 1, 20, .inl mc33))), (m40, .inl (.inl (kA 1, 60, .inl mc40))), (m44, .inl (.inl (kA 1, 120, .inl mc44))), (m45, .inl (.inl (kA 1, 2, .inl mc45))), (m, .inl (.inr (12, (.ref m0 :: .int (nI mtp) :: .int (nI mfa) :: .int mfp :: .int (nI mat) :: .int (nI msz) :: .int (nI mso) :: .int mpl :: .int mnu :: .long mwd :: .ref m10 :: .ref m11 :: .ref m12 :: .ref m13 :: .ref m14 :: .ref m15 :: .ref m16 :: .ref m17 :: .ref m18 :: .ref m19 :: .ref m20 :: .ref m21 :: .ref m22 :: .ref m23 :: .ref m24 :: .int (nI mns) :: .int (nI mnl) :: .int (nI mne) :: .int (nI mst) :: .int (nI mlt) :: .int (nI mer) :: .ref m31 :: .ref m32 :: .ref m33 :: .ref m34 :: .ref m35 :: .int (nI mwm) :: .int (nI mwt) :: .int (nI mwf) :: .ref m39 :: .ref m40 :: .ref m41 :: .int (nI mla) :: .ref m43 :: .ref m44 :: .ref m45 :: .ref m46 :: .ref m47 :: .ref m48 :: .int (nI mtm) :: .ref m50 :: .ref m51 :: .ref m52 :: .ref m53 :: .ref m54 :: .ref m55 :: .ref m56 :: .ref m57 :: .ref m58 :: .ref m59 :: .ref m60 :: .ref m61 :: .int (nI msn) :: .int (nI mti) :: .ref m64 :: .ref m65 :: .ref m66 :: .ref m67 :: .ref m68 :: .ref m69 :: [])))), (m31, .inl (.inl (kA 1, 10, .inl mc31))), (m53, .inl (.inl (kA 1, 10, .inl fm53_23_35246))), (m54, .inl (.inl (kA 1, 10, .inl q351693))), (m55, .inl (.inl (kA 1, 10, .inl q351694)))]) rfl (by decide +kernel) [0, 1, 2, 3, 4] (lv' := [(4, .int 0), (3, .int 0), (2, .int 0), (1, .int r351696), (0, .ref m)]) rfl ?_
              exact lp68_35255 (100001 - 0 + 1) 0 0 0 mc40 q351693 q351694 (show 0 ≤ mlt by first | assumption | omega) (show nU 0 mlt + 0 = mlt from nU_0 (by omega)) (show ∃ v9, RestV fm53_23_35246 mc31 mlt 0 0 v9 ∧ 0 + v9 = r351696 from ⟨_, p351697, Int32.zero_add _⟩) (show 0 ≤ 100000 by first | assumption | omega) (Nat.lt_succ_self _)
            · have z351692n : ¬ t351460 ≤ v1_23_35246 := fun q9 => z351692 ((nI_leI (a := t351460) (b := v1_23_35246) (by omega) (by omega)).mpr q9)
              refine j_aload_n h 1 rfl rfl dX12_dealt_33 ?_
              refine jm_get h iw_X12 0 rfl rfl 53 (by decide +kernel) tw_1209 rfl dX12_dealt_34 ?_
              refine j_aload_n h 1 rfl rfl dX12_dealt_37 ?_
              refine jm_get h iw_X12 0 rfl rfl 44 (by decide +kernel) tw_1200 rfl dX12_dealt_38 ?_
              refine j_iload_n h 0 rfl rfl dX12_dealt_41 ?_
              refine jm_iald h 4 rfl v1_23_35246 rfl (by omega) (by omega) dX12_dealt_42 ?_
              obtain ⟨t351800, u351801, u351802⟩ := u351467 v1_23_35246 (by omega)
              refine j_top (b := nI t351800) (u351802) ?_
              refine j_dup2 h rfl rfl dX12_dealt_43 ?_
              refine jm_iald h 6 rfl t351800 rfl (by omega) (by omega) dX12_dealt_44 ?_
              refine j_iconst (v := 1) h (by decide) dX12_dealt_45 ?_
              refine j_iadd h dX12_dealt_46 ?_
              refine jm_iast (w' := [(m, .inl (.inr (12, (.ref m0 :: .int (nI mtp) :: .int (nI mfa) :: .int mfp :: .int (nI mat) :: .int (nI msz) :: .int (nI mso) :: .int mpl :: .int mnu :: .long mwd :: .ref m10 :: .ref m11 :: .ref m12 :: .ref m13 :: .ref m14 :: .ref m15 :: .ref m16 :: .ref m17 :: .ref m18 :: .ref m19 :: .ref m20 :: .ref m21 :: .ref m22 :: .ref m23 :: .ref m24 :: .int (nI mns) :: .int (nI mnl) :: .int (nI mne) :: .int (nI mst) :: .int (nI mlt) :: .int (nI mer) :: .ref m31 :: .ref m32 :: .ref m33 :: .ref m34 :: .ref m35 :: .int (nI mwm) :: .int (nI mwt) :: .int (nI mwf) :: .ref m39 :: .ref m40 :: .ref m41 :: .int (nI mla) :: .ref m43 :: .ref m44 :: .ref m45 :: .ref m46 :: .ref m47 :: .ref m48 :: .int (nI mtm) :: .ref m50 :: .ref m51 :: .ref m52 :: .ref m53 :: .ref m54 :: .ref m55 :: .ref m56 :: .ref m57 :: .ref m58 :: .ref m59 :: .ref m60 :: .ref m61 :: .int (nI msn) :: .int (nI mti) :: .ref m64 :: .ref m65 :: .ref m66 :: .ref m67 :: .ref m68 :: .ref m69 :: [])))), (m31, .inl (.inl (kA 1, 10, .inl mc31))), (m33, .inl (.inl (kA 1, 20, .inl mc33))), (m40, .inl (.inl (kA 1, 60, .inl mc40))), (m44, .inl (.inl (kA 1, 120, .inl mc44))), (m45, .inl (.inl (kA 1, 2, .inl mc45))), (m53, .inl (.inl (kA 1, 10, .inl (upd fm53_23_35246 t351800 ((fm53_23_35246 t351800) + 1))))), (m54, .inl (.inl (kA 1, 10, .inl mc54))), (m55, .inl (.inl (kA 1, 10, .inl mc55)))]) h 6 rfl t351800 rfl (by omega) (by omega) dX12_dealt_47 rfl ?_
              refine j_iinc (v := nI (v1_23_35246 + 1)) (lv' := [(1, .int (nI (v1_23_35246 + 1))), (0, .ref m)]) h dX12_dealt_48 0 rfl (nI_add v1_23_35246 1) (by decide) rfl ?_
              refine j_goto h 23 dX12_dealt_51 (by decide) ?_
              refine jm_sub [0, 1, 2, 3, 4, 5, 6, 7, 8] (w' := [(m, .inl (.inr (12, (.ref m0 :: .int (nI mtp) :: .int (nI mfa) :: .int mfp :: .int (nI mat) :: .int (nI msz) :: .int (nI mso) :: .int mpl :: .int mnu :: .long mwd :: .ref m10 :: .ref m11 :: .ref m12 :: .ref m13 :: .ref m14 :: .ref m15 :: .ref m16 :: .ref m17 :: .ref m18 :: .ref m19 :: .ref m20 :: .ref m21 :: .ref m22 :: .ref m23 :: .ref m24 :: .int (nI mns) :: .int (nI mnl) :: .int (nI mne) :: .int (nI mst) :: .int (nI mlt) :: .int (nI mer) :: .ref m31 :: .ref m32 :: .ref m33 :: .ref m34 :: .ref m35 :: .int (nI mwm) :: .int (nI mwt) :: .int (nI mwf) :: .ref m39 :: .ref m40 :: .ref m41 :: .int (nI mla) :: .ref m43 :: .ref m44 :: .ref m45 :: .ref m46 :: .ref m47 :: .ref m48 :: .int (nI mtm) :: .ref m50 :: .ref m51 :: .ref m52 :: .ref m53 :: .ref m54 :: .ref m55 :: .ref m56 :: .ref m57 :: .ref m58 :: .ref m59 :: .ref m60 :: .ref m61 :: .int (nI msn) :: .int (nI mti) :: .ref m64 :: .ref m65 :: .ref m66 :: .ref m67 :: .ref m68 :: .ref m69 :: [])))), (m31, .inl (.inl (kA 1, 10, .inl mc31))), (m33, .inl (.inl (kA 1, 20, .inl mc33))), (m40, .inl (.inl (kA 1, 60, .inl mc40))), (m44, .inl (.inl (kA 1, 120, .inl mc44))), (m45, .inl (.inl (kA 1, 2, .inl mc45))), (m53, .inl (.inl (kA 1, 10, .inl (upd fm53_23_35246 t351800 ((fm53_23_35246 t351800) + 1))))), (m54, .inl (.inl (kA 1, 10, .inl mc54))), (m55, .inl (.inl (kA 1, 10, .inl mc55)))]) rfl (by decide +kernel) [0, 1] (lv' := [(1, .int (nI (v1_23_35246 + 1))), (0, .ref m)]) rfl ?_
              exact ih23_35246 (v1_23_35246 + 1) (upd fm53_23_35246 t351800 ((fm53_23_35246 t351800) + 1)) (show (v1_23_35246 + 1) ≤ 100000 by first | assumption | omega) (show 100001 - (v1_23_35246 + 1) < m23_35246 by first | exact Nat.lt_of_lt_of_le (Nat.sub_lt_sub_left (Nat.lt_of_le_of_lt (show v1_23_35246 ≤ 100000 by assumption) (Nat.lt_succ_self 100000)) (Nat.lt_succ_self v1_23_35246)) (Nat.le_of_lt_succ hm23_35246) | omega)
        refine jm_sub [0, 1, 2, 3, 4, 5, 6, 7, 8] (w' := [(m, .inl (.inr (12, (.ref m0 :: .int (nI mtp) :: .int (nI mfa) :: .int mfp :: .int (nI mat) :: .int (nI msz) :: .int (nI mso) :: .int mpl :: .int mnu :: .long mwd :: .ref m10 :: .ref m11 :: .ref m12 :: .ref m13 :: .ref m14 :: .ref m15 :: .ref m16 :: .ref m17 :: .ref m18 :: .ref m19 :: .ref m20 :: .ref m21 :: .ref m22 :: .ref m23 :: .ref m24 :: .int (nI mns) :: .int (nI mnl) :: .int (nI mne) :: .int (nI mst) :: .int (nI mlt) :: .int (nI mer) :: .ref m31 :: .ref m32 :: .ref m33 :: .ref m34 :: .ref m35 :: .int (nI mwm) :: .int (nI mwt) :: .int (nI mwf) :: .ref m39 :: .ref m40 :: .ref m41 :: .int (nI mla) :: .ref m43 :: .ref m44 :: .ref m45 :: .ref m46 :: .ref m47 :: .ref m48 :: .int (nI mtm) :: .ref m50 :: .ref m51 :: .ref m52 :: .ref m53 :: .ref m54 :: .ref m55 :: .ref m56 :: .ref m57 :: .ref m58 :: .ref m59 :: .ref m60 :: .ref m61 :: .int (nI msn) :: .int (nI mti) :: .ref m64 :: .ref m65 :: .ref m66 :: .ref m67 :: .ref m68 :: .ref m69 :: [])))), (m31, .inl (.inl (kA 1, 10, .inl mc31))), (m33, .inl (.inl (kA 1, 20, .inl mc33))), (m40, .inl (.inl (kA 1, 60, .inl mc40))), (m44, .inl (.inl (kA 1, 120, .inl mc44))), (m45, .inl (.inl (kA 1, 2, .inl mc45))), (m53, .inl (.inl (kA 1, 10, .inl fm53_2_35219))), (m54, .inl (.inl (kA 1, 10, .inl mc54))), (m55, .inl (.inl (kA 1, 10, .inl mc55)))]) rfl (by decide +kernel) [0, 1] (lv' := [(1, .int 0), (0, .ref m)]) rfl ?_
        exact lp23_35246 (100001 - 0 + 1) 0 fm53_2_35219 (show 0 ≤ 100000 by first | assumption | omega) (Nat.lt_succ_self _)
      · have z351459n : ¬ 10 ≤ v1_2_35219 := fun q9 => z351459 ((nI_leI (a := 10) (b := v1_2_35219) (by omega) (by omega)).mpr q9)
        refine j_aload_n h 1 rfl rfl dX12_dealt_8 ?_
        refine jm_get h iw_X12 0 rfl rfl 53 (by decide +kernel) tw_1209 rfl dX12_dealt_9 ?_
        refine j_iload_n h 0 rfl rfl dX12_dealt_12 ?_
        refine j_iconst (v := 0) h (by decide) dX12_dealt_13 ?_
        refine jm_iast (w' := [(m, .inl (.inr (12, (.ref m0 :: .int (nI mtp) :: .int (nI mfa) :: .int mfp :: .int (nI mat) :: .int (nI msz) :: .int (nI mso) :: .int mpl :: .int mnu :: .long mwd :: .ref m10 :: .ref m11 :: .ref m12 :: .ref m13 :: .ref m14 :: .ref m15 :: .ref m16 :: .ref m17 :: .ref m18 :: .ref m19 :: .ref m20 :: .ref m21 :: .ref m22 :: .ref m23 :: .ref m24 :: .int (nI mns) :: .int (nI mnl) :: .int (nI mne) :: .int (nI mst) :: .int (nI mlt) :: .int (nI mer) :: .ref m31 :: .ref m32 :: .ref m33 :: .ref m34 :: .ref m35 :: .int (nI mwm) :: .int (nI mwt) :: .int (nI mwf) :: .ref m39 :: .ref m40 :: .ref m41 :: .int (nI mla) :: .ref m43 :: .ref m44 :: .ref m45 :: .ref m46 :: .ref m47 :: .ref m48 :: .int (nI mtm) :: .ref m50 :: .ref m51 :: .ref m52 :: .ref m53 :: .ref m54 :: .ref m55 :: .ref m56 :: .ref m57 :: .ref m58 :: .ref m59 :: .ref m60 :: .ref m61 :: .int (nI msn) :: .int (nI mti) :: .ref m64 :: .ref m65 :: .ref m66 :: .ref m67 :: .ref m68 :: .ref m69 :: [])))), (m31, .inl (.inl (kA 1, 10, .inl mc31))), (m33, .inl (.inl (kA 1, 20, .inl mc33))), (m40, .inl (.inl (kA 1, 60, .inl mc40))), (m44, .inl (.inl (kA 1, 120, .inl mc44))), (m45, .inl (.inl (kA 1, 2, .inl mc45))), (m53, .inl (.inl (kA 1, 10, .inl (upd fm53_2_35219 v1_2_35219 0)))), (m54, .inl (.inl (kA 1, 10, .inl mc54))), (m55, .inl (.inl (kA 1, 10, .inl mc55)))]) h 6 rfl v1_2_35219 rfl (by omega) (by omega) dX12_dealt_14 rfl ?_
        refine j_iinc (v := nI (v1_2_35219 + 1)) (lv' := [(1, .int (nI (v1_2_35219 + 1))), (0, .ref m)]) h dX12_dealt_15 0 rfl (nI_add v1_2_35219 1) (by decide) rfl ?_
        refine j_goto h 2 dX12_dealt_18 (by decide) ?_
        refine jm_sub [0, 1, 2, 3, 4, 5, 6, 7, 8] (w' := [(m, .inl (.inr (12, (.ref m0 :: .int (nI mtp) :: .int (nI mfa) :: .int mfp :: .int (nI mat) :: .int (nI msz) :: .int (nI mso) :: .int mpl :: .int mnu :: .long mwd :: .ref m10 :: .ref m11 :: .ref m12 :: .ref m13 :: .ref m14 :: .ref m15 :: .ref m16 :: .ref m17 :: .ref m18 :: .ref m19 :: .ref m20 :: .ref m21 :: .ref m22 :: .ref m23 :: .ref m24 :: .int (nI mns) :: .int (nI mnl) :: .int (nI mne) :: .int (nI mst) :: .int (nI mlt) :: .int (nI mer) :: .ref m31 :: .ref m32 :: .ref m33 :: .ref m34 :: .ref m35 :: .int (nI mwm) :: .int (nI mwt) :: .int (nI mwf) :: .ref m39 :: .ref m40 :: .ref m41 :: .int (nI mla) :: .ref m43 :: .ref m44 :: .ref m45 :: .ref m46 :: .ref m47 :: .ref m48 :: .int (nI mtm) :: .ref m50 :: .ref m51 :: .ref m52 :: .ref m53 :: .ref m54 :: .ref m55 :: .ref m56 :: .ref m57 :: .ref m58 :: .ref m59 :: .ref m60 :: .ref m61 :: .int (nI msn) :: .int (nI mti) :: .ref m64 :: .ref m65 :: .ref m66 :: .ref m67 :: .ref m68 :: .ref m69 :: [])))), (m31, .inl (.inl (kA 1, 10, .inl mc31))), (m33, .inl (.inl (kA 1, 20, .inl mc33))), (m40, .inl (.inl (kA 1, 60, .inl mc40))), (m44, .inl (.inl (kA 1, 120, .inl mc44))), (m45, .inl (.inl (kA 1, 2, .inl mc45))), (m53, .inl (.inl (kA 1, 10, .inl (upd fm53_2_35219 v1_2_35219 0)))), (m54, .inl (.inl (kA 1, 10, .inl mc54))), (m55, .inl (.inl (kA 1, 10, .inl mc55)))]) rfl (by decide +kernel) [0, 1] (lv' := [(1, .int (nI (v1_2_35219 + 1))), (0, .ref m)]) rfl ?_
        exact ih2_35219 (v1_2_35219 + 1) (upd fm53_2_35219 v1_2_35219 0) (show (v1_2_35219 + 1) ≤ 100000 by first | assumption | omega) (show 100001 - (v1_2_35219 + 1) < m2_35219 by first | exact Nat.lt_of_lt_of_le (Nat.sub_lt_sub_left (Nat.lt_of_le_of_lt (show v1_2_35219 ≤ 100000 by assumption) (Nat.lt_succ_self 100000)) (Nat.lt_succ_self v1_2_35219)) (Nat.le_of_lt_succ hm2_35219) | omega)
  refine jm_sub [0, 1, 2, 3, 4, 5, 6, 7, 8] (w' := [(m, .inl (.inr (12, (.ref m0 :: .int (nI mtp) :: .int (nI mfa) :: .int mfp :: .int (nI mat) :: .int (nI msz) :: .int (nI mso) :: .int mpl :: .int mnu :: .long mwd :: .ref m10 :: .ref m11 :: .ref m12 :: .ref m13 :: .ref m14 :: .ref m15 :: .ref m16 :: .ref m17 :: .ref m18 :: .ref m19 :: .ref m20 :: .ref m21 :: .ref m22 :: .ref m23 :: .ref m24 :: .int (nI mns) :: .int (nI mnl) :: .int (nI mne) :: .int (nI mst) :: .int (nI mlt) :: .int (nI mer) :: .ref m31 :: .ref m32 :: .ref m33 :: .ref m34 :: .ref m35 :: .int (nI mwm) :: .int (nI mwt) :: .int (nI mwf) :: .ref m39 :: .ref m40 :: .ref m41 :: .int (nI mla) :: .ref m43 :: .ref m44 :: .ref m45 :: .ref m46 :: .ref m47 :: .ref m48 :: .int (nI mtm) :: .ref m50 :: .ref m51 :: .ref m52 :: .ref m53 :: .ref m54 :: .ref m55 :: .ref m56 :: .ref m57 :: .ref m58 :: .ref m59 :: .ref m60 :: .ref m61 :: .int (nI msn) :: .int (nI mti) :: .ref m64 :: .ref m65 :: .ref m66 :: .ref m67 :: .ref m68 :: .ref m69 :: [])))), (m31, .inl (.inl (kA 1, 10, .inl mc31))), (m33, .inl (.inl (kA 1, 20, .inl mc33))), (m40, .inl (.inl (kA 1, 60, .inl mc40))), (m44, .inl (.inl (kA 1, 120, .inl mc44))), (m45, .inl (.inl (kA 1, 2, .inl mc45))), (m53, .inl (.inl (kA 1, 10, .inl mc53))), (m54, .inl (.inl (kA 1, 10, .inl mc54))), (m55, .inl (.inl (kA 1, 10, .inl mc55)))]) rfl (by decide +kernel) [0, 1] (lv' := [(1, .int 0), (0, .ref m)]) rfl ?_
  exact lp2_35219 (100001 - 0 + 1) 0 mc53 (show 0 ≤ 100000 by first | assumption | omega) (Nat.lt_succ_self _)
