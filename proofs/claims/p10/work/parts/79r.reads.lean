def mcN (v g : Nat) : Nat := if v = g then 0 else if g = 0 then 1 else 100
def smN (f : Nat → Nat) : Nat → Nat
  | 0 => 0
  | n + 1 => smN f n + f n
def msC (D : Nat → Nat → Nat) (E : Nat → Nat) (fl : Nat) (h : Nat → Nat) (l m : Nat) : Nat := smN (fun d => mcN (hrN E fl (bgn (D 4) (dR D l) (D 7 l) d)) (h (m + d))) (ltS D l)
/-- what a letter costs an ear that hears h, where it is in the ear's book -/
def rdC (D : Nat → Nat → Nat) (E : Nat → Nat) (e : Nat) (h : Nat → Nat) (T l m : Nat) : Nat := if kbV (bkC (D 10 e)) l = 1 ∧ m + ltS D l ≤ T then min 100 (msC D E (D 9 e) h l m) else 100
section MC
variable {D LO HI : Nat → Nat → Nat} {E h ND cn SE SA SL SM f g x t : Nat → Nat} {n m k e v T s u l a Q : Nat} {B : (Nat → Nat) × (Nat → Nat → Nat) × (Nat → Nat → Nat)}
theorem smN_cg (hh : ∀ i, i < n → f i = g i) : smN f n = smN g n := by
  induction n with
  | zero => rfl
  | succ n ih =>
    show smN f n + f n = smN g n + g n
    rw [ih (fun i hi => hh i (by omega)), hh n (Nat.lt_succ_self n)]
theorem smN_ad : smN f (n + m) = smN f n + smN (fun k => f (n + k)) m := by
  induction m with
  | zero => rfl
  | succ m ih =>
    show smN f (n + m) + f (n + m) = smN f n + (smN (fun k => f (n + k)) m + f (n + m))
    rw [ih, Nat.add_assoc]
theorem smN_ge (hk : k < n) : f k ≤ smN f n := by
  induction n with
  | zero => exact absurd hk (Nat.not_lt_zero k)
  | succ n ih =>
    have z : smN f (n + 1) = smN f n + f n := rfl
    by_cases q : k = n
    · rw [q]
      omega
    · have := ih (by omega)
      omega
theorem smN_0 (hh : ∀ i, i < n → f i = 0) : smN f n = 0 := by
  induction n with
  | zero => rfl
  | succ n ih =>
    show smN f n + f n = 0
    rw [ih (fun i hi => hh i (by omega)), hh n (Nat.lt_succ_self n)]
theorem nkB_nd (hh : ∀ j, j < n → cn j = 1 → ¬ SE j = e) : (nkB cn SE SA SL SM B n).1 e = B.1 e := by
  induction n with
  | zero => rfl
  | succ n ih =>
    have i := ih (fun j hj => hh j (by omega))
    by_cases c : cn n = 1
    · rw [nkB_y c]
      show upN _ (SE n) 1 e = _
      rw [upN_n (fun q => hh n (Nat.lt_succ_self n) c q.symm)]
      exact i
    · rw [show nkB cn SE SA SL SM B (n + 1) = nkB cn SE SA SL SM B n from if_neg c]
      exact i
/-- the bounds of one ear that hears h up to T -/
theorem fx_ch (hh : ∀ j, j < T → h j ≤ 9) (hT : 0 < T) : (nkB (fun _ => 1) (fun _ => e) (fun m => m) h h ((fun _ => 0), LO, HI) T).1 e = 1 ∧ (∀ i, ¬ i = e → (nkB (fun _ => 1) (fun _ => e) (fun m => m) h h ((fun _ => 0), LO, HI) T).1 i = 0) ∧ ∀ m, m < T → (nkB (fun _ => 1) (fun _ => e) (fun m => m) h h ((fun _ => 0), LO, HI) T).2.2 e m ≤ 9 → (nkB (fun _ => 1) (fun _ => e) (fun m => m) h h ((fun _ => 0), LO, HI) T).2.1 e m = h m ∧ (nkB (fun _ => 1) (fun _ => e) (fun m => m) h h ((fun _ => 0), LO, HI) T).2.2 e m = h m := by
  obtain ⟨c1, c2, c3⟩ := nkB_ch (cn := fun _ => 1) (SE := fun _ => e) (SA := fun m => m) (SL := h) (SM := h) (LO := LO) (HI := HI) hh e
  have one : (nkB (fun _ => 1) (fun _ => e) (fun m => m) h h ((fun _ => 0), LO, HI) T).1 e = 1 := by
    by_cases q : (nkB (fun _ => 1) (fun _ => e) (fun m => m) h h ((fun _ => 0), LO, HI) T).1 e = 0
    · exact absurd rfl (c2 q 0 hT rfl)
    · omega
  refine ⟨one, fun i hi => nkB_nd (fun j _ _ q => hi q.symm), fun m hm h9 => ?_⟩
  have c := c3 one m
  generalize (nkB (fun _ => 1) (fun _ => e) (fun m => m) h h ((fun _ => 0), LO, HI) T).2.1 e m = lo at c ⊢
  generalize (nkB (fun _ => 1) (fun _ => e) (fun m => m) h h ((fun _ => 0), LO, HI) T).2.2 e m = hi at c h9 ⊢
  have hm9 := hh m hm
  have r : ∀ v, v ≤ 9 → (lo ≤ v ∧ v ≤ hi → v = h m) := fun v hv q => by
    have := (c v hv).mp q m hm rfl rfl rfl
    omega
  have y := (c (h m) hm9).mpr (fun j hj _ _ hjm => by
    have hjm : j = m := hjm
    rw [hjm]
    exact ⟨Nat.le_refl _, Nat.le_refl _⟩)
  have a1 := r lo (by omega) ⟨Nat.le_refl lo, by omega⟩
  have a2 := r hi h9 ⟨by omega, Nat.le_refl hi⟩
  exact ⟨a1, a2⟩
theorem coV_one {hd : Nat → Nat} {tk : Nat} (h1 : ND e = 1) (h0 : ∀ i, ¬ i = e → ND i = 0) : coV ND LO HI hd tk m n = if e < n then ctV LO HI e (hd e) tk m else 0 := by
  induction n with
  | zero => rfl
  | succ n ih =>
    by_cases q : e = n
    · subst q
      rw [coV_y h1, ih, if_neg (Nat.lt_irrefl e), if_pos (Nat.lt_succ_self e), Nat.zero_add]
    · rw [coV_n (by rw [h0 n (fun z => q z.symm)]; decide), ih]
      by_cases z : e < n
      · rw [if_pos z, if_pos (by omega)]
      · rw [if_neg z, if_neg (by omega)]
theorem mcN_0 : mcN 0 v = 0 ↔ v = 0 := by
  unfold mcN
  by_cases q : 0 = v
  · rw [if_pos q]
    exact ⟨fun _ => q.symm, fun _ => rfl⟩
  · rw [if_neg q, if_neg (fun z => q z.symm)]
    exact ⟨fun z => absurd z (by decide), fun z => absurd z.symm q⟩
theorem mcN_1 (hv : ¬ v = 0) : mcN 0 v = 100 := by
  unfold mcN
  rw [if_neg (fun z => hv z.symm), if_neg hv]
theorem ctV_mc {tk : Nat} (htk : 1 ≤ tk) (hl : ∀ k, k < tk → LO e (m + k) = h (m + k) ∧ HI e (m + k) = h (m + k)) : ctV LO HI e v tk m = min 100 (smN (fun k => mcN (if k = 0 then v else 0) (h (m + k))) tk) := by
  have e0 := hl 0 (by omega)
  rw [Nat.add_zero] at e0
  obtain ⟨j, hj⟩ : ∃ j, tk = 1 + j := ⟨tk - 1, by omega⟩
  have sp : smN (fun k => mcN (if k = 0 then v else 0) (h (m + k))) tk = mcN v (h m) + smN (fun k => mcN 0 (h (m + 1 + k))) j := by
    rw [hj, smN_ad]
    have a : smN (fun k => mcN (if k = 0 then v else 0) (h (m + k))) 1 = mcN v (h m) := by
      show 0 + mcN (if 0 = 0 then v else 0) (h (m + 0)) = _
      rw [if_pos rfl, Nat.zero_add, Nat.add_zero]
    rw [a]
    refine congrArg _ (smN_cg (fun k hk => ?_))
    show mcN (if 1 + k = 0 then v else 0) (h (m + (1 + k))) = mcN 0 (h (m + 1 + k))
    rw [if_neg (by omega), Nat.add_assoc]
  have rest : lqS LO e (m + 1) (tk - 1) = 0 ↔ ∀ k, k < j → h (m + 1 + k) = 0 := by
    rw [show tk - 1 = j by omega, lqS_0]
    refine ⟨fun q k hk => ?_, fun q k hk => ?_⟩
    · have := (hl (1 + k) (by omega)).1
      rw [← Nat.add_assoc] at this
      rw [← this]
      exact q k hk
    · have := (hl (1 + k) (by omega)).1
      rw [← Nat.add_assoc] at this
      rw [this]
      exact q k hk
  rw [sp]
  by_cases q : ∀ k, k < j → h (m + 1 + k) = 0
  · have z : smN (fun k => mcN 0 (h (m + 1 + k))) j = 0 := smN_0 (fun i hi => mcN_0.mpr (q i hi))
    rw [z, Nat.add_zero]
    unfold ctV
    rw [e0.1, e0.2]
    by_cases y : h m ≤ v
    · rw [if_pos ⟨rest.mpr q, y⟩]
      unfold mcN
      by_cases w : v ≤ h m
      · rw [if_pos w, if_pos (show v = h m by omega)]
        rfl
      · rw [if_neg w, if_neg (show ¬ v = h m by omega)]
        by_cases x : h m = 0
        · rw [if_pos x]
          rfl
        · rw [if_neg x]
          rfl
    · rw [if_neg (fun z => y z.2)]
      unfold mcN
      rw [if_neg (show ¬ v = h m by omega), if_neg (show ¬ h m = 0 by omega)]
      rfl
  · have : ∃ k, k < j ∧ ¬ h (m + 1 + k) = 0 := Classical.byContradiction (fun z => q (fun k hk => Classical.byContradiction (fun y => z ⟨k, hk, y⟩)))
    obtain ⟨k, hk, hne⟩ := this
    have g : mcN 0 (h (m + 1 + k)) ≤ smN (fun k => mcN 0 (h (m + 1 + k))) j := smN_ge (f := fun k => mcN 0 (h (m + 1 + k))) hk
    rw [mcN_1 hne] at g
    unfold ctV
    rw [if_neg (fun z => q (rest.mp z.1))]
    omega
/-- steps one behind the other, or moments -/
theorem sm_steps (h1 : ∀ k, k < n → 1 ≤ t (x k)) : min 100 (lcS (fun s u => min 100 (smN (fun k => mcN (if k = 0 then E s - a else 0) (h (u + k))) (t s))) t x m n) = min 100 (smN (fun d => mcN (hrN E a (bgn t x n d)) (h (m + d))) (tkS t x n)) := by
  induction n with
  | zero => rfl
  | succ n ih =>
    have i := ih (fun k hk => h1 k (by omega))
    have e : tkS t x (n + 1) = tkS t x n + t (x n) := rfl
    have z := h1 n (Nat.lt_succ_self n)
    have lc : lcS (fun s u => min 100 (smN (fun k => mcN (if k = 0 then E s - a else 0) (h (u + k))) (t s))) t x m (n + 1) = lcS (fun s u => min 100 (smN (fun k => mcN (if k = 0 then E s - a else 0) (h (u + k))) (t s))) t x m n + min 100 (smN (fun k => mcN (if k = 0 then E (x n) - a else 0) (h (m + tkS t x n + k))) (t (x n))) := rfl
    have s1 : smN (fun d => mcN (hrN E a (bgn t x (n + 1) d)) (h (m + d))) (tkS t x n) = smN (fun d => mcN (hrN E a (bgn t x n d)) (h (m + d))) (tkS t x n) := smN_cg (fun d hd => by rw [bgn_n (by omega)])
    have s2 : smN (fun k => (fun d => mcN (hrN E a (bgn t x (n + 1) d)) (h (m + d))) (tkS t x n + k)) (t (x n)) = smN (fun k => mcN (if k = 0 then E (x n) - a else 0) (h (m + tkS t x n + k))) (t (x n)) := smN_cg (fun k hk => by
      show mcN (hrN E a (bgn t x (n + 1) (tkS t x n + k))) (h (m + (tkS t x n + k))) = _
      rw [Nat.add_assoc]
      by_cases q : k = 0
      · subst q
        show mcN (hrN E a (bgn t x (n + 1) (tkS t x n))) (h (m + tkS t x n)) = mcN (if 0 = 0 then E (x n) - a else 0) (h (m + tkS t x n))
        rw [bgn_s, hrN_s, if_pos rfl]
      · rw [if_neg q, bgn_n (by omega), bgn_ge (fun i hi => h1 i (by omega)) (by omega), hrN_0])
    rw [lc, e, smN_ad, s1, s2]
    omega
theorem RcE_cg {tk : Nat → Nat} {af cs cs' : Nat → Nat → Nat} {W : Nat → Nat → Nat → Int} (hr : RcE n T Q tk af cs W) (hc : ∀ i t, i < n → t < T → cs i t = cs' i t) : RcE n T Q tk af cs' W := fun q f t h1 h2 h3 => by
  rw [hr q f t h1 h2 h3]
  by_cases y : t = T
  · rw [if_pos y, if_pos y]
  · rw [if_neg y, if_neg y]
    refine congrArg capI (sI_cg (fun i hi => ?_))
    show (if af i f = 0 ∨ q < cs i t then 0 else W (q - cs i t) (af i f - 1) (t + tk i)) = (if af i f = 0 ∨ q < cs' i t then 0 else W (q - cs' i t) (af i f - 1) (t + tk i))
    rw [hc i t hi (by omega)]
theorem lcS_cg {c1 c2 : Nat → Nat → Nat} (hh : ∀ j, j < n → c1 (x j) (m + tkS t x j) = c2 (x j) (m + tkS t x j)) : lcS c1 t x m n = lcS c2 t x m n := by
  induction n with
  | zero => rfl
  | succ n ih =>
    show lcS c1 t x m n + c1 (x n) (m + tkS t x n) = lcS c2 t x m n + c2 (x n) (m + tkS t x n)
    rw [ih (fun j hj => hh j (by omega)), hh n (Nat.lt_succ_self n)]
/-- the class's cost of a letter is what its moments cost -/
theorem lcT_rd (hD : DOk D) (hE : ∀ k, k < D 0 0 → E k ≤ 9) (hh : ∀ j, j < T → h j ≤ 9) (he : e < D 0 2) (hl : l < D 0 1) (hi : ∀ m, m < T → (nkB (fun _ => 1) (fun _ => e) (fun m => m) h h ((fun _ => 0), LO, HI) T).2.2 e m ≤ 9) : lcT D (fsC D E (nkB (fun _ => 1) (fun _ => e) (fun m => m) h h ((fun _ => 0), LO, HI) T).1 (nkB (fun _ => 1) (fun _ => e) (fun m => m) h h ((fun _ => 0), LO, HI) T).2.1 (nkB (fun _ => 1) (fun _ => e) (fun m => m) h h ((fun _ => 0), LO, HI) T).2.2 T) (bkC (D 10 e)) T l m = rdC D E e h T l m := by
  have dl := hD.2.2.2.2.1 l hl
  unfold lcT rdC
  by_cases q : kbV (bkC (D 10 e)) l = 1 ∧ m + ltS D l ≤ T
  · rw [if_pos q, if_pos q]
    have lb := ltS_b hD hl
    obtain ⟨f1, f2, f3⟩ := fx_ch (LO := LO) (HI := HI) (e := e) hh (show 0 < T by omega)
    have st := sm_steps (E := E) (h := h) (t := D 4) (x := dR D l) (a := D 9 e) (m := m) (n := D 7 l) (fun k hk => (hD.2.2.2.1 _ (dl.2.2 k hk)).1)
    show _ = min 100 (smN _ (tkS (D 4) (dR D l) (D 7 l)))
    rw [← st]
    refine congrArg _ (lcS_cg (fun j hj => ?_))
    have ty : m + tkS (D 4) (dR D l) j + D 4 (dR D l j) ≤ T := by
      have a := tkS_mo (t := D 4) (x := dR D l) (show j + 1 ≤ D 7 l by omega)
      have b : tkS (D 4) (dR D l) (j + 1) = tkS (D 4) (dR D l) j + D 4 (dR D l j) := rfl
      have c : ltS D l = tkS (D 4) (dR D l) (D 7 l) := rfl
      omega
    have t1 : 1 ≤ D 4 (dR D l j) := (hD.2.2.2.1 _ (dl.2.2 j hj)).1
    show (if m + tkS (D 4) (dR D l) j + D 4 (dR D l j) ≤ T then _ else 100) = _
    rw [if_pos ty, coV_one f1 f2, if_pos he, ctV_mc (h := h) (m := m + tkS (D 4) (dR D l) j) t1 (fun k hk => by
      have hk' : k < D 4 (dR D l j) := hk
      exact f3 _ (by omega) (hi _ (by omega)))]
    omega
  · rw [if_neg q, if_neg q]
end MC
def RdP (D : Nat → Nat → Nat) (E x : Nat → Nat) (n T e L : Nat) (er mo : Int32) (r : Int64) : Prop := (∃ a Q wy, a < e ∧ er = nI a ∧ Q ≤ 3 ∧ mo = nI Q ∧ RcE L T Q (ltS D) (aL D) (rdC D E a (fun m => hrN E (D 9 a) (bgn (D 4) x n m)) T) wy ∧ r.toInt = wy Q 0 0) ∨ ((∀ a Q, a < e → er = nI a → Q ≤ 3 → ¬ mo = nI Q) ∧ r = -1)
theorem RdP_eq {D : Nat → Nat → Nat} {E x : Nat → Nat} {n T e L : Nat} {er mo : Int32} {r1 r2 : Int64} (hD : DOk D) (hL : L = D 0 1) (he : e ≤ 4) (h1 : RdP D E x n T e L er mo r1) (h2 : RdP D E x n T e L er mo r2) : r1 = r2 := by
  rcases h1 with ⟨a, Q, wy, a1, a2, a3, a4, a5, a6⟩ | ⟨a1, a2⟩
  · rcases h2 with ⟨b, Q', wz, b1, b2, b3, b4, b5, b6⟩ | ⟨b1, b2⟩
    · have e1 : a = b := (nI_eq (by omega) (by omega)).mp (a2.symm.trans b2)
      have e2 : Q = Q' := (nI_eq (by omega) (by omega)).mp (a4.symm.trans b4)
      subst e1 e2
      have fin := RcE_eq a5 b5 (fun i t hi ht hc => ⟨(ltS_b hD (by omega)).1, by
        unfold rdC at hc
        by_cases q : kbV (bkC (D 10 a)) i = 1 ∧ t + ltS D i ≤ T
        · exact q.2
        · rw [if_neg q] at hc
          omega⟩) (fun i f _ hf => lF_le (by omega)) T Q 0 0 (by omega) (Nat.le_refl Q) (by decide) (Nat.zero_le T)
      exact Int64.toInt_inj.mp (a6.trans (fin.trans b6.symm))
    · exact absurd a4 (b1 a Q a1 a2 a3)
  · rcases h2 with ⟨b, Q', wz, b1, b2, b3, b4, b5, b6⟩ | ⟨b1, b2⟩
    · exact absurd b4 (a1 b Q' b1 b2 b3)
    · rw [a2, b2]
set_option maxHeartbeats 4000000 in
set_option maxRecDepth 100000 in
theorem s_X0_fixF (lau : Launch) (gg : va_G) (kA : Nat → ClassId) (d : Nat) (er : Nat) (o : Nat) (tm : Nat) (d0 : Nat) (d1 : Nat) (d2 : Nat) (dls : Nat → Nat → Int32) (dms : Nat → Nat → Int32) (dnd : Nat → Int32) (of : Nat → Int32) (ND : Nat → Nat) (LO : Nat → Nat → Nat) (HI : Nat → Nat → Nat) (hh : Nat → Nat) (hbd : BdV ND LO HI dnd dls dms) (her : er < 4) (htm : tm ≤ 60) (hof : ∀ m, m < tm → of m = nI (hh m) ∧ hh m ≤ 9) : CtV lau yX0_fix cX0_fix 5 (none) 3 0 0 gg kA [.ref d, .int (nI er), .ref o, .int (nI tm)] (mflat [(d, .inl (.inr (0, [.ref d0, .ref d1, .ref d2]))), (d0, .inr (kA 6, kA 1, 4, 60, .inl dls)), (d1, .inr (kA 6, kA 1, 4, 60, .inl dms)), (d2, .inl (.inl (kA 3, 4, .inl dnd))), (o, .inl (.inl (kA 1, 60, .inl of)))]) (S := (Nat → Nat → Int32) × (Nat → Nat → Int32) × (Nat → Int32)) (fun ((y_d0, y_d1, y_d2) : (Nat → Nat → Int32) × (Nat → Nat → Int32) × (Nat → Int32)) => BdV (nkB (fun _ => 1) (fun _ => er) (fun m => m) hh hh (ND, LO, HI) tm).1 (nkB (fun _ => 1) (fun _ => er) (fun m => m) hh hh (ND, LO, HI) tm).2.1 (nkB (fun _ => 1) (fun _ => er) (fun m => m) hh hh (ND, LO, HI) tm).2.2 y_d2 y_d0 y_d1) (fun ((y_d0, y_d1, y_d2) : (Nat → Nat → Int32) × (Nat → Nat → Int32) × (Nat → Int32)) => mflat [(d, .inl (.inr (0, [.ref d0, .ref d1, .ref d2]))), (d0, .inr (kA 6, kA 1, 4, 60, .inl y_d0)), (d1, .inr (kA 6, kA 1, 4, 60, .inl y_d1)), (d2, .inl (.inl (kA 3, 4, .inl y_d2))), (o, .inl (.inl (kA 1, 60, .inl of)))]) := by
  refine nx_startV (by decide +kernel) (Nat.le_of_ble_eq_true rfl) ?_
  intro x hnm h hq
  have h : Ok x cX0_fix RX0 kA (rmC 3 0 0) 5 := h
  show J x (mflat [(d, .inl (.inr (0, [.ref d0, .ref d1, .ref d2]))), (d0, .inr (kA 6, kA 1, 4, 60, .inl dls)), (d1, .inr (kA 6, kA 1, 4, 60, .inl dms)), (d2, .inl (.inl (kA 3, 4, .inl dnd))), (o, .inl (.inl (kA 1, 60, .inl of)))]) [(0, .ref d), (1, .int (nI er)), (2, .ref o), (3, .int (nI tm))] 0 0 0 []
  refine j_iconst (v := 0) h (by decide) dX0_fix_0 ?_
  refine j_istore (lv' := [(4, .int 0), (0, .ref d), (1, .int (nI er)), (2, .ref o), (3, .int (nI tm))]) h dX0_fix_1 (by decide) rfl ?_
  have lp3_91006 : ∀ (m3_91006 : Nat), ∀ (v4_3_91006 : Nat) (fd0_3_91006 : Nat → Nat → Int32) (fd1_3_91006 : Nat → Nat → Int32) (fd2_3_91006 : Nat → Int32), (BdV (nkB (fun _ => 1) (fun _ => er) (fun m => m) hh hh (ND, LO, HI) v4_3_91006).1 (nkB (fun _ => 1) (fun _ => er) (fun m => m) hh hh (ND, LO, HI) v4_3_91006).2.1 (nkB (fun _ => 1) (fun _ => er) (fun m => m) hh hh (ND, LO, HI) v4_3_91006).2.2 fd2_3_91006 fd0_3_91006 fd1_3_91006) → (v4_3_91006 ≤ tm) → (v4_3_91006 ≤ 100000) → tm - v4_3_91006 < m3_91006 → J x (mflat [(d, .inl (.inr (0, [.ref d0, .ref d1, .ref d2]))), (d0, .inr (kA 6, kA 1, 4, 60, .inl fd0_3_91006)), (d1, .inr (kA 6, kA 1, 4, 60, .inl fd1_3_91006)), (d2, .inl (.inl (kA 3, 4, .inl fd2_3_91006))), (o, .inl (.inl (kA 1, 60, .inl of)))]) [(4, .int (nI v4_3_91006)), (0, .ref d), (1, .int (nI er)), (2, .ref o), (3, .int (nI tm))] 0 0 3 [] := by
    intro m3_91006
    induction m3_91006 with
    | zero =>
      intro v4_3_91006 fd0_3_91006 fd1_3_91006 fd2_3_91006 i3_91006_0 i3_91006_1 i3_91006_2 hm3_91006
      exact absurd hm3_91006 (Nat.not_lt_zero _)
    | succ m3_91006 ih3_91006 =>
      intro v4_3_91006 fd0_3_91006 fd1_3_91006 fd2_3_91006 i3_91006_0 i3_91006_1 i3_91006_2 hm3_91006
      refine j_iload h 0 rfl dX0_fix_3 ?_
      refine j_iload_n h 4 rfl rfl dX0_fix_5 ?_
      refine j_icmp_ge h 37 dX0_fix_6 (by decide) (fun z910044 => ?_) (fun z910044 => ?_)
      · have z910044n : tm ≤ v4_3_91006 := (nI_leI (a := tm) (b := v4_3_91006) (by omega) (by omega)).mp z910044
        exact jm_vret h hq dX0_fix_37 (fd0_3_91006, fd1_3_91006, fd2_3_91006) [0, 1, 2, 3, 4] rfl (by decide) (show BdV (nkB (fun _ => 1) (fun _ => er) (fun m => m) hh hh (ND, LO, HI) tm).1 (nkB (fun _ => 1) (fun _ => er) (fun m => m) hh hh (ND, LO, HI) tm).2.1 (nkB (fun _ => 1) (fun _ => er) (fun m => m) hh hh (ND, LO, HI) tm).2.2 fd2_3_91006 fd0_3_91006 fd1_3_91006 from (show v4_3_91006 = tm by omega) ▸ i3_91006_0) (Nat.le_of_ble_eq_true rfl) (Nat.le_of_ble_eq_true rfl)
      · have z910044n : ¬ tm ≤ v4_3_91006 := fun q9 => z910044 ((nI_leI (a := tm) (b := v4_3_91006) (by omega) (by omega)).mpr q9)
        refine j_iload h 0 rfl dX0_fix_9 ?_
        refine j_aload_n h 3 rfl rfl dX0_fix_11 ?_
        refine jm_alen (v := 60) h 4 1 rfl rfl rfl dX0_fix_12 ?_
        refine j_icmp_ge h 37 dX0_fix_13 (by decide) (fun z910045 => ?_) (fun z910045 => ?_)
        · have z910045n : 60 ≤ v4_3_91006 := (nI_leI (a := 60) (b := v4_3_91006) (by omega) (by omega)).mp z910045
          exact jm_vret h hq dX0_fix_37 (fd0_3_91006, fd1_3_91006, fd2_3_91006) [0, 1, 2, 3, 4] rfl (by decide) (show BdV (nkB (fun _ => 1) (fun _ => er) (fun m => m) hh hh (ND, LO, HI) tm).1 (nkB (fun _ => 1) (fun _ => er) (fun m => m) hh hh (ND, LO, HI) tm).2.1 (nkB (fun _ => 1) (fun _ => er) (fun m => m) hh hh (ND, LO, HI) tm).2.2 fd2_3_91006 fd0_3_91006 fd1_3_91006 from (show v4_3_91006 = tm by omega) ▸ i3_91006_0) (Nat.le_of_ble_eq_true rfl) (Nat.le_of_ble_eq_true rfl)
        · have z910045n : ¬ 60 ≤ v4_3_91006 := fun q9 => z910045 ((nI_leI (a := 60) (b := v4_3_91006) (by omega) (by omega)).mpr q9)
          refine j_aload_n h 1 rfl rfl dX0_fix_16 ?_
          refine j_iload_n h 2 rfl rfl dX0_fix_17 ?_
          refine j_iload h 0 rfl dX0_fix_18 ?_
          refine j_aload_n h 3 rfl rfl dX0_fix_20 ?_
          refine j_iload h 0 rfl dX0_fix_21 ?_
          refine jm_iald h 4 rfl v4_3_91006 rfl (by omega) (by omega) dX0_fix_23 ?_
          have u910046 := (hof v4_3_91006 (by omega)).2
          refine j_top (b := nI (hh v4_3_91006)) ((hof v4_3_91006 (by omega)).1) ?_
          refine j_aload_n h 3 rfl rfl dX0_fix_24 ?_
          refine j_iload h 0 rfl dX0_fix_25 ?_
          refine jm_iald h 4 rfl v4_3_91006 rfl (by omega) (by omega) dX0_fix_27 ?_
          refine j_top (b := nI (hh v4_3_91006)) ((hof v4_3_91006 (by omega)).1) ?_
          refine jm_callVv (np := 4) (isC := [0, 1, 2, 3]) (isR := [4]) (wc := [(d, .inl (.inr (0, [.ref d0, .ref d1, .ref d2]))), (d0, .inr (kA 6, kA 1, 4, 60, .inl fd0_3_91006)), (d1, .inr (kA 6, kA 1, 4, 60, .inl fd1_3_91006)), (d2, .inl (.inl (kA 3, 4, .inl fd2_3_91006)))]) (wr := [(o, .inl (.inl (kA 1, 60, .inl of)))]) (rest := []) (As := [.int (nI er), .int (nI v4_3_91006), .int (nI (hh v4_3_91006)), .int (nI (hh v4_3_91006))]) (q0 := 0) h (s_X0_narrowF _ _ kA d er v4_3_91006 (hh v4_3_91006) (hh v4_3_91006) d0 d1 d2 fd0_3_91006 fd1_3_91006 fd2_3_91006 ((nkB (fun _ => 1) (fun _ => er) (fun m => m) hh hh (ND, LO, HI) v4_3_91006).1) ((nkB (fun _ => 1) (fun _ => er) (fun m => m) hh hh (ND, LO, HI) v4_3_91006).2.1) ((nkB (fun _ => 1) (fun _ => er) (fun m => m) hh hh (ND, LO, HI) v4_3_91006).2.2) (show BdV ((nkB (fun _ => 1) (fun _ => er) (fun m => m) hh hh (ND, LO, HI) v4_3_91006).1) ((nkB (fun _ => 1) (fun _ => er) (fun m => m) hh hh (ND, LO, HI) v4_3_91006).2.1) ((nkB (fun _ => 1) (fun _ => er) (fun m => m) hh hh (ND, LO, HI) v4_3_91006).2.2) fd2_3_91006 fd0_3_91006 fd1_3_91006 from i3_91006_0) (show er < 4 by first | assumption | omega) (show v4_3_91006 < 60 by first | assumption | omega) (show (hh v4_3_91006) ≤ 9 by first | assumption | omega) (show (hh v4_3_91006) ≤ 9 by first | assumption | omega)) tw_824 tw_825 tw_826 tw_94 tw_827 (by decide +kernel) rfl ⟨Nat.le_of_ble_eq_true rfl, Nat.le_of_ble_eq_true rfl⟩ rfl rfl (by decide +kernel) rfl rfl (by decide +kernel) (by decide +kernel) (Nat.le_of_ble_eq_true rfl) rfl ⟨Nat.le_of_ble_eq_true rfl, Nat.le_of_ble_eq_true rfl⟩ dX0_fix_28 ?_
          rintro ⟨q910047, q910048, q910049⟩ e910050
          have p910052 := e910050
          replace p910052 : BdV (upN ((nkB (fun _ => 1) (fun _ => er) (fun m => m) hh hh (ND, LO, HI) v4_3_91006).1) er 1) (nrL ((nkB (fun _ => 1) (fun _ => er) (fun m => m) hh hh (ND, LO, HI) v4_3_91006).1) ((nkB (fun _ => 1) (fun _ => er) (fun m => m) hh hh (ND, LO, HI) v4_3_91006).2.1) er v4_3_91006 (hh v4_3_91006)) (nrH ((nkB (fun _ => 1) (fun _ => er) (fun m => m) hh hh (ND, LO, HI) v4_3_91006).1) ((nkB (fun _ => 1) (fun _ => er) (fun m => m) hh hh (ND, LO, HI) v4_3_91006).2.2) er v4_3_91006 (hh v4_3_91006)) q910049 q910047 q910048 := p910052
          show J x (mflat [(o, .inl (.inl (kA 1, 60, .inl of))), (d, .inl (.inr (0, [.ref d0, .ref d1, .ref d2]))), (d0, .inr (kA 6, kA 1, 4, 60, .inl q910047)), (d1, .inr (kA 6, kA 1, 4, 60, .inl q910048)), (d2, .inl (.inl (kA 3, 4, .inl q910049)))]) [(4, .int (nI v4_3_91006)), (0, .ref d), (1, .int (nI er)), (2, .ref o), (3, .int (nI tm))] 0 0 31 []
          refine j_iinc (v := nI (v4_3_91006 + 1)) (lv' := [(4, .int (nI (v4_3_91006 + 1))), (0, .ref d), (1, .int (nI er)), (2, .ref o), (3, .int (nI tm))]) h dX0_fix_31 0 rfl (nI_add v4_3_91006 1) (by decide) rfl ?_
          refine j_goto h 3 dX0_fix_34 (by decide) ?_
          refine jm_sub [1, 2, 3, 4, 0] (w' := [(d, .inl (.inr (0, [.ref d0, .ref d1, .ref d2]))), (d0, .inr (kA 6, kA 1, 4, 60, .inl q910047)), (d1, .inr (kA 6, kA 1, 4, 60, .inl q910048)), (d2, .inl (.inl (kA 3, 4, .inl q910049))), (o, .inl (.inl (kA 1, 60, .inl of)))]) rfl (by decide +kernel) [0, 1, 2, 3, 4] (lv' := [(4, .int (nI (v4_3_91006 + 1))), (0, .ref d), (1, .int (nI er)), (2, .ref o), (3, .int (nI tm))]) rfl ?_
          exact ih3_91006 (v4_3_91006 + 1) q910047 q910048 q910049 (show BdV (nkB (fun _ => 1) (fun _ => er) (fun m => m) hh hh (ND, LO, HI) (v4_3_91006 + 1)).1 (nkB (fun _ => 1) (fun _ => er) (fun m => m) hh hh (ND, LO, HI) (v4_3_91006 + 1)).2.1 (nkB (fun _ => 1) (fun _ => er) (fun m => m) hh hh (ND, LO, HI) (v4_3_91006 + 1)).2.2 q910049 q910047 q910048 from (by rw [nkB_y (cn := fun _ => 1) rfl]; exact p910052)) (show (v4_3_91006 + 1) ≤ tm by first | assumption | omega) (show (v4_3_91006 + 1) ≤ 100000 by first | assumption | omega) (show tm - (v4_3_91006 + 1) < m3_91006 by omega)
  refine jm_sub [0, 1, 2, 3, 4] (w' := [(d, .inl (.inr (0, [.ref d0, .ref d1, .ref d2]))), (d0, .inr (kA 6, kA 1, 4, 60, .inl dls)), (d1, .inr (kA 6, kA 1, 4, 60, .inl dms)), (d2, .inl (.inl (kA 3, 4, .inl dnd))), (o, .inl (.inl (kA 1, 60, .inl of)))]) rfl (by decide +kernel) [0, 1, 2, 3, 4] (lv' := [(4, .int 0), (0, .ref d), (1, .int (nI er)), (2, .ref o), (3, .int (nI tm))]) rfl ?_
  exact lp3_91006 (tm - 0 + 1) 0 dls dms dnd (show BdV (nkB (fun _ => 1) (fun _ => er) (fun m => m) hh hh (ND, LO, HI) 0).1 (nkB (fun _ => 1) (fun _ => er) (fun m => m) hh hh (ND, LO, HI) 0).2.1 (nkB (fun _ => 1) (fun _ => er) (fun m => m) hh hh (ND, LO, HI) 0).2.2 dnd dls dms from hbd) (show 0 ≤ tm by first | assumption | omega) (show 0 ≤ 100000 by first | assumption | omega) (Nat.lt_succ_self _)
