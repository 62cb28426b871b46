def TxH (D : Nat → Nat → Nat) (E : Nat → Nat) (fl : Nat) (z : Nat → Nat) (n : Nat) (f : Nat → Int32) : Prop := ∀ i, i < n → HlP f (tkS (ltS D) z i) E fl (D 4) (dR D (z i)) (D 7 (z i))
section TH
variable {D LO HI : Nat → Nat → Nat} {E z h g ND cn SE SA SL SM : Nat → Nat} {fl n m i k e T s t a b : Nat} {f f' : Nat → Int32} {B : (Nat → Nat) × (Nat → Nat → Nat) × (Nat → Nat → Nat)}
theorem TxH_0 : TxH D E fl z 0 f := fun i h => absurd h (Nat.not_lt_zero i)
theorem TxH_n (h : TxH D E fl z n f) (hl : ∀ m, m < tkS (ltS D) z n → f' m = f m) (hn : HlP f' (tkS (ltS D) z n) E fl (D 4) (dR D (z n)) (D 7 (z n))) : TxH D E fl z (n + 1) f' := fun i hi => by
  by_cases q : i = n
  · rw [q]
    exact hn
  · intro d hd
    have a := tkS_mo (t := ltS D) (x := z) (show i + 1 ≤ n by omega)
    have b : tkS (ltS D) z (i + 1) = tkS (ltS D) z i + ltS D (z i) := rfl
    have c : ltS D (z i) = tkS (D 4) (dR D (z i)) (D 7 (z i)) := rfl
    rw [hl _ (by omega)]
    exact h i (by omega) d hd
theorem tk_find {t x : Nat → Nat} : ∀ {n : Nat}, m < tkS t x n → ∃ i d, i < n ∧ d < t (x i) ∧ m = tkS t x i + d
  | 0, h => absurd h (Nat.not_lt_zero m)
  | n + 1, h => by
    have e : tkS t x (n + 1) = tkS t x n + t (x n) := rfl
    by_cases q : m < tkS t x n
    · obtain ⟨i, d, a, b, c⟩ := tk_find (n := n) q
      exact ⟨i, d, by omega, b, c⟩
    · exact ⟨n, m - tkS t x n, Nat.lt_succ_self n, by omega, by omega⟩
theorem TxH_eq (hD : DOk D) (hE : ∀ k, k < D 0 0 → E k ≤ 9) (hz : ∀ i, i < n → z i < D 0 1) (h1 : TxH D E fl z n f) (h2 : TxH D E fl z n f') (hm : m < tkS (ltS D) z n) : f m = f' m ∧ f m = nI (xr f m) ∧ xr f m ≤ 9 := by
  obtain ⟨i, d, a, b, c⟩ := tk_find hm
  have l := hD.2.2.2.2.1 _ (hz i a)
  have v9 : hrN E fl (bgn (D 4) (dR D (z i)) (D 7 (z i)) d) ≤ 9 := hrN_le hE (bgn_le (fun k hk => l.2.2 k hk))
  have e1 := h1 i a d b
  have e2 := h2 i a d b
  rw [← c] at e1 e2
  refine ⟨e1.trans e2.symm, ?_, ?_⟩
  · show f m = nI (f m).toNatClampNeg
    rw [e1, nI_clamp (by omega)]
  · show (f m).toNatClampNeg ≤ 9
    rw [e1, nI_clamp (by omega)]
    exact v9
theorem nkB_o (hh : ∀ j, j < n → cn j = 1 → ¬ SE j = e) : (nkB cn SE SA SL SM B n).1 e = B.1 e ∧ (nkB cn SE SA SL SM B n).2.1 e = B.2.1 e ∧ (nkB cn SE SA SL SM B n).2.2 e = B.2.2 e := by
  induction n with
  | zero => exact ⟨rfl, rfl, rfl⟩
  | succ n ih =>
    have i := ih (fun j hj => hh j (by omega))
    by_cases c : cn n = 1
    · have q : ¬ e = SE n := fun q => hh n (Nat.lt_succ_self n) c q.symm
      rw [nkB_y c]
      refine ⟨?_, ?_, ?_⟩
      · show upN _ (SE n) 1 e = _
        rw [upN_n q]
        exact i.1
      · rw [← i.2.1]
        funext m'
        show nrL _ _ (SE n) (SA n) (SL n) e m' = _
        unfold nrL
        rw [if_neg q]
      · rw [← i.2.2]
        funext m'
        show nrH _ _ (SE n) (SA n) (SM n) e m' = _
        unfold nrH
        rw [if_neg q]
    · rw [show nkB cn SE SA SL SM B (n + 1) = nkB cn SE SA SL SM B n from if_neg c]
      exact i
/-- an ear that nothing was known of, and that hears h up to T -/
theorem nkB_fx (hh : ∀ j, j < T → h j ≤ 9) (hB : B.1 e = 0) : (0 < T → (nkB (fun _ => 1) (fun _ => e) (fun m => m) h h B T).1 e = 1) ∧ ∀ m, m < T → (nkB (fun _ => 1) (fun _ => e) (fun m => m) h h B T).2.1 e m = h m ∧ (nkB (fun _ => 1) (fun _ => e) (fun m => m) h h B T).2.2 e m = h m := by
  have key : ∀ n, n ≤ T → (0 < n → (nkB (fun _ => 1) (fun _ => e) (fun m => m) h h B n).1 e = 1) ∧ (n = 0 → (nkB (fun _ => 1) (fun _ => e) (fun m => m) h h B n).1 e = 0) ∧ (∀ m, m < n → (nkB (fun _ => 1) (fun _ => e) (fun m => m) h h B n).2.1 e m = h m ∧ (nkB (fun _ => 1) (fun _ => e) (fun m => m) h h B n).2.2 e m = h m) ∧ (0 < n → ∀ m, n ≤ m → (nkB (fun _ => 1) (fun _ => e) (fun m => m) h h B n).2.1 e m = 0 ∧ (nkB (fun _ => 1) (fun _ => e) (fun m => m) h h B n).2.2 e m = 9) := by
    intro n
    induction n with
    | zero => exact fun _ => ⟨fun q => absurd q (by decide), fun _ => hB, fun m hm => absurd hm (Nat.not_lt_zero m), fun q => absurd q (by decide)⟩
    | succ n ih =>
      intro hn
      obtain ⟨i1, i2, i3, i4⟩ := ih (by omega)
      have h9 := hh n (by omega)
      rw [nkB_y (cn := fun _ => 1) rfl]
      generalize nkB (fun _ => 1) (fun _ => e) (fun m => m) h h B n = C at i1 i2 i3 i4 ⊢
      have bs : ∀ m, n ≤ m → (if C.1 e = 0 then 0 else C.2.1 e m) = 0 ∧ (if C.1 e = 0 then 9 else C.2.2 e m) = 9 := fun m hm => by
        by_cases q : n = 0
        · rw [if_pos (i2 q), if_pos (i2 q)]
          exact ⟨rfl, rfl⟩
        · have c1 := i1 (by omega)
          rw [if_neg (by omega), if_neg (by omega)]
          exact i4 (by omega) m hm
      refine ⟨fun _ => ?_, fun q => absurd q (by omega), fun m hm => ?_, fun _ m hm => ?_⟩
      · show upN C.1 e 1 e = 1
        exact upN_s
      · show nrL C.1 C.2.1 e n (h n) e m = h m ∧ nrH C.1 C.2.2 e n (h n) e m = h m
        unfold nrL nrH
        rw [if_pos rfl, if_pos rfl]
        by_cases q : m = n
        · subst q
          rw [if_pos rfl, if_pos rfl, (bs m (Nat.le_refl m)).1, (bs m (Nat.le_refl m)).2]
          omega
        · rw [if_neg q, if_neg q]
          have c1 := i1 (by omega)
          rw [if_neg (by omega), if_neg (by omega)]
          exact i3 m (by omega)
      · show nrL C.1 C.2.1 e n (h n) e m = 0 ∧ nrH C.1 C.2.2 e n (h n) e m = 9
        unfold nrL nrH
        rw [if_pos rfl, if_pos rfl, if_neg (show ¬ m = n by omega), if_neg (show ¬ m = n by omega)]
        exact bs m (by omega)
  exact ⟨(key T (Nat.le_refl T)).1, (key T (Nat.le_refl T)).2.2.1⟩
def fx2 (h g : Nat → Nat) (a b T : Nat) (LO HI : Nat → Nat → Nat) : (Nat → Nat) × (Nat → Nat → Nat) × (Nat → Nat → Nat) := nkB (fun _ => 1) (fun _ => b) (fun m => m) g g (nkB (fun _ => 1) (fun _ => a) (fun m => m) h h ((fun _ => 0), LO, HI) T) T
/-- a step suits what two ears hear -/
def suP (D : Nat → Nat → Nat) (E h g : Nat → Nat) (a b s t : Nat) : Prop := E s - D 9 a = h t ∧ E s - D 9 b = g t ∧ ∀ k, 1 ≤ k → k < D 4 s → h (t + k) = 0 ∧ g (t + k) = 0
theorem fs2_z (hD : DOk D) (hh : ∀ j, j < T → h j ≤ 9) (hg : ∀ j, j < T → g j ≤ 9) (ha : a < D 0 2) (hb : b < D 0 2) (hab : ¬ a = b) (hs : s < D 0 0) (ht : t + D 4 s ≤ T) : fsC D E (fx2 h g a b T LO HI).1 (fx2 h g a b T LO HI).2.1 (fx2 h g a b T LO HI).2.2 T s t = 0 ↔ suP D E h g a b s t := by
  have t1 := (hD.2.2.2.1 s hs).1
  have oa := nkB_o (cn := fun _ => 1) (SE := fun _ => b) (SA := fun m => m) (SL := g) (SM := g) (B := nkB (fun _ => 1) (fun _ => a) (fun m => m) h h ((fun _ => 0), LO, HI) T) (e := a) (n := T) (fun j _ _ q => hab q.symm)
  have fa := nkB_fx (B := ((fun _ => 0), LO, HI)) (e := a) hh rfl
  have zb : (nkB (fun _ => 1) (fun _ => a) (fun m => m) h h ((fun _ => 0), LO, HI) T).1 b = 0 := nkB_nd (fun j _ _ q => hab q)
  have fb := nkB_fx (B := nkB (fun _ => 1) (fun _ => a) (fun m => m) h h ((fun _ => 0), LO, HI) T) (e := b) hg zb
  have oth : ∀ e, ¬ e = a → ¬ e = b → (fx2 h g a b T LO HI).1 e = 0 := fun e h1 h2 => by
    show (nkB (fun _ => 1) (fun _ => b) (fun m => m) g g _ T).1 e = 0
    rw [nkB_nd (fun j _ _ q => h2 q.symm), nkB_nd (fun j _ _ q => h1 q.symm)]
  have na : (fx2 h g a b T LO HI).1 a = 1 := oa.1.trans (fa.1 (by omega))
  have nb : (fx2 h g a b T LO HI).1 b = 1 := fb.1 (by omega)
  have va : ∀ m, m < T → (fx2 h g a b T LO HI).2.1 a m = h m ∧ (fx2 h g a b T LO HI).2.2 a m = h m := fun m hm => by
    show (nkB (fun _ => 1) (fun _ => b) (fun m => m) g g _ T).2.1 a m = h m ∧ (nkB (fun _ => 1) (fun _ => b) (fun m => m) g g _ T).2.2 a m = h m
    rw [oa.2.1, oa.2.2]
    exact fa.2 m hm
  have vb : ∀ m, m < T → (fx2 h g a b T LO HI).2.1 b m = g m ∧ (fx2 h g a b T LO HI).2.2 b m = g m := fb.2
  generalize fx2 h g a b T LO HI = C at na nb va vb oth ⊢
  unfold fsC
  rw [if_pos ht, coV_0]
  have one : ∀ (e v : Nat) (hh : Nat → Nat), (∀ m, m < T → C.2.1 e m = hh m ∧ C.2.2 e m = hh m) → (ctV C.2.1 C.2.2 e v (D 4 s) t = 0 ↔ v = hh t ∧ ∀ k, 1 ≤ k → k < D 4 s → hh (t + k) = 0) := fun e v hh hv => by
    rw [ctV_z, (hv t (by omega)).1, (hv t (by omega)).2]
    constructor
    · intro q
      refine ⟨by omega, fun k k1 k2 => ?_⟩
      have z := q.1 (k - 1) (by omega)
      rw [show t + 1 + (k - 1) = t + k by omega, (hv (t + k) (by omega)).1] at z
      exact z
    · intro q
      refine ⟨fun k hk => ?_, by omega⟩
      rw [(hv (t + 1 + k) (by omega)).1, show t + 1 + k = t + (k + 1) by omega]
      exact q.2 (k + 1) (by omega) (by omega)
  constructor
  · intro q
    have qa := (one a _ h va).mp (q a ha na)
    have qb := (one b _ g vb).mp (q b hb nb)
    exact ⟨qa.1, qb.1, fun k k1 k2 => ⟨qa.2 k k1 k2, qb.2 k k1 k2⟩⟩
  · intro q e he h1
    by_cases ea : e = a
    · subst ea
      exact (one e _ h va).mpr ⟨q.1, fun k k1 k2 => (q.2.2 k k1 k2).1⟩
    · by_cases eb : e = b
      · subst eb
        exact (one e _ g vb).mpr ⟨q.2.1, fun k k1 k2 => (q.2.2 k k1 k2).2⟩
      · rw [oth e ea eb] at h1
        exact absurd h1 (by decide)
end TH
set_option maxHeartbeats 4000000 in
set_option maxRecDepth 100000 in
theorem s_X5_hearLetterF (lau : Launch) (gg : va_G) (kA : Nat → ClassId) (s : Nat) (k : Nat) (lo : Nat) (er : Nat) (r0 : Nat) (fr : Nat) (s0 : Nat) (s1 : Nat) (s2 : Nat) (s3 : Nat) (s4 : Nat) (s5 : Nat) (s6 : Nat) (s7 : Nat) (s8 : Nat) (s9 : Nat) (s10 : Nat) (s11 : Nat) (sn : Nat) (sl : Nat) (se : Nat) (sc1 : Nat → Int32) (sc2 : Nat → Int32) (sc3 : Nat → Int32) (sc5 : Nat → Int32) (sc6 : Nat → Nat → Int32) (sc7 : Nat → Int32) (sc8 : Nat → Nat → Int32) (sc10 : Nat → Int32) (sc11 : Nat → Int32) (lof : Nat → Int32) (n0 : Nat) (f : Nat → Int32) (D : Nat → Nat → Nat) (EE : Nat → Nat) (hsn : sn ≤ 6) (hsl : sl ≤ 10) (hse : se ≤ 4) (hstk : TkOk sn sc1) (hssz : SzOk sl sc5) (hsrw : RwOk sl sn sc5 sc6) (hslt : LtOk sl sc7) (hsla : FtOk sl sc8) (hsls : LsOk sl sc5 sc6 sc1 sc7) (hSc : ScR D sn sl se sc1 sc2 sc3 sc5 sc6 sc7 sc8 sc10 sc11) (hD : DOk D) (hk : k < sl) (her : er < se) (hlo : ∀ k8, k8 < sn → lof k8 = nI (EE k8) ∧ EE k8 ≤ 9) (hn0 : n0 ≤ 60) (hfr : fr + ltS D k ≤ n0) : CtI lau yX5_hearLetter cX5_hearLetter 9 (some .int) 3 0 0 gg kA [.ref s, .int (nI k), .ref lo, .int (nI er), .ref r0, .int (nI fr)] (mflat [(s, .inl (.inr (5, [.ref s0, .ref s1, .ref s2, .ref s3, .ref s4, .ref s5, .ref s6, .ref s7, .ref s8, .ref s9, .ref s10, .ref s11, .int (nI sn), .int (nI sl), .int (nI se)]))), (s1, .inl (.inl (kA 1, 6, .inl sc1))), (s2, .inl (.inl (kA 1, 6, .inl sc2))), (s3, .inl (.inl (kA 1, 6, .inl sc3))), (s5, .inl (.inl (kA 1, 10, .inl sc5))), (s6, .inr (kA 6, kA 1, 10, 5, .inl sc6)), (s7, .inl (.inl (kA 1, 10, .inl sc7))), (s8, .inr (kA 6, kA 1, 10, 2, .inl sc8)), (s10, .inl (.inl (kA 1, 4, .inl sc10))), (s11, .inl (.inl (kA 1, 4, .inl sc11))), (lo, .inl (.inl (kA 1, 6, .inl lof))), (r0, .inl (.inl (kA 1, n0, .inl f)))]) (S := Nat × (Nat → Int32)) (fun (r : Int32) ((y_r, y_r0) : Nat × (Nat → Int32)) => r = nI y_r ∧ (y_r = fr + ltS D k) ∧ (HlP y_r0 fr EE (D 9 er) (D 4) (dR D k) (D 7 k)) ∧ (∀ m, m < fr → y_r0 m = f m)) (fun ((y_r, y_r0) : Nat × (Nat → Int32)) => mflat [(s, .inl (.inr (5, [.ref s0, .ref s1, .ref s2, .ref s3, .ref s4, .ref s5, .ref s6, .ref s7, .ref s8, .ref s9, .ref s10, .ref s11, .int (nI sn), .int (nI sl), .int (nI se)]))), (s1, .inl (.inl (kA 1, 6, .inl sc1))), (s2, .inl (.inl (kA 1, 6, .inl sc2))), (s3, .inl (.inl (kA 1, 6, .inl sc3))), (s5, .inl (.inl (kA 1, 10, .inl sc5))), (s6, .inr (kA 6, kA 1, 10, 5, .inl sc6)), (s7, .inl (.inl (kA 1, 10, .inl sc7))), (s8, .inr (kA 6, kA 1, 10, 2, .inl sc8)), (s10, .inl (.inl (kA 1, 4, .inl sc10))), (s11, .inl (.inl (kA 1, 4, .inl sc11))), (lo, .inl (.inl (kA 1, 6, .inl lof))), (r0, .inl (.inl (kA 1, n0, .inl y_r0)))]) := by
  refine nx_startI (by decide +kernel) (Nat.le_of_ble_eq_true rfl) ?_
  intro x hnm h hq
  have h : Ok x cX5_hearLetter RX5 kA (rmC 3 0 0) 9 := h
  show J x (mflat [(s, .inl (.inr (5, [.ref s0, .ref s1, .ref s2, .ref s3, .ref s4, .ref s5, .ref s6, .ref s7, .ref s8, .ref s9, .ref s10, .ref s11, .int (nI sn), .int (nI sl), .int (nI se)]))), (s1, .inl (.inl (kA 1, 6, .inl sc1))), (s2, .inl (.inl (kA 1, 6, .inl sc2))), (s3, .inl (.inl (kA 1, 6, .inl sc3))), (s5, .inl (.inl (kA 1, 10, .inl sc5))), (s6, .inr (kA 6, kA 1, 10, 5, .inl sc6)), (s7, .inl (.inl (kA 1, 10, .inl sc7))), (s8, .inr (kA 6, kA 1, 10, 2, .inl sc8)), (s10, .inl (.inl (kA 1, 4, .inl sc10))), (s11, .inl (.inl (kA 1, 4, .inl sc11))), (lo, .inl (.inl (kA 1, 6, .inl lof))), (r0, .inl (.inl (kA 1, n0, .inl f)))]) [(0, .ref s), (1, .int (nI k)), (2, .ref lo), (3, .int (nI er)), (4, .ref r0), (5, .int (nI fr))] 0 0 0 []
  refine j_iload h 5 rfl dX5_hearLetter_0 ?_
  refine j_istore (lv' := [(6, .int (nI fr)), (0, .ref s), (1, .int (nI k)), (2, .ref lo), (3, .int (nI er)), (4, .ref r0), (5, .int (nI fr))]) h dX5_hearLetter_2 (by decide) rfl ?_
  refine j_iconst (v := 0) h (by decide) dX5_hearLetter_4 ?_
  refine j_istore (lv' := [(7, .int 0), (6, .int (nI fr)), (0, .ref s), (1, .int (nI k)), (2, .ref lo), (3, .int (nI er)), (4, .ref r0), (5, .int (nI fr))]) h dX5_hearLetter_5 (by decide) rfl ?_
  have lp7_94006 : ∀ (m7_94006 : Nat), ∀ (v7_7_94006 : Nat) (v6_7_94006 : Nat) (fr0_7_94006 : Nat → Int32), (v6_7_94006 = fr + tkS (D 4) (dR D k) v7_7_94006) → (HlP fr0_7_94006 fr EE (D 9 er) (D 4) (dR D k) v7_7_94006) → (∀ m, m < fr → fr0_7_94006 m = f m) → (v7_7_94006 ≤ D 7 k) → (v6_7_94006 ≤ 60) → (v7_7_94006 ≤ 100000) → (v6_7_94006 ≤ 100000) → D 7 k - v7_7_94006 < m7_94006 → J x (mflat [(s, .inl (.inr (5, [.ref s0, .ref s1, .ref s2, .ref s3, .ref s4, .ref s5, .ref s6, .ref s7, .ref s8, .ref s9, .ref s10, .ref s11, .int (nI sn), .int (nI sl), .int (nI se)]))), (s1, .inl (.inl (kA 1, 6, .inl sc1))), (s2, .inl (.inl (kA 1, 6, .inl sc2))), (s3, .inl (.inl (kA 1, 6, .inl sc3))), (s5, .inl (.inl (kA 1, 10, .inl sc5))), (s6, .inr (kA 6, kA 1, 10, 5, .inl sc6)), (s7, .inl (.inl (kA 1, 10, .inl sc7))), (s8, .inr (kA 6, kA 1, 10, 2, .inl sc8)), (s10, .inl (.inl (kA 1, 4, .inl sc10))), (s11, .inl (.inl (kA 1, 4, .inl sc11))), (lo, .inl (.inl (kA 1, 6, .inl lof))), (r0, .inl (.inl (kA 1, n0, .inl fr0_7_94006)))]) [(7, .int (nI v7_7_94006)), (6, .int (nI v6_7_94006)), (0, .ref s), (1, .int (nI k)), (2, .ref lo), (3, .int (nI er)), (4, .ref r0), (5, .int (nI fr))] 0 0 7 [] := by
    intro m7_94006
    induction m7_94006 with
    | zero =>
      intro v7_7_94006 v6_7_94006 fr0_7_94006 i7_94006_0 i7_94006_1 i7_94006_2 i7_94006_3 i7_94006_4 i7_94006_5 i7_94006_6 hm7_94006
      exact absurd hm7_94006 (Nat.not_lt_zero _)
    | succ m7_94006 ih7_94006 =>
      intro v7_7_94006 v6_7_94006 fr0_7_94006 i7_94006_0 i7_94006_1 i7_94006_2 i7_94006_3 i7_94006_4 i7_94006_5 i7_94006_6 hm7_94006
      refine j_aload_n h 2 rfl rfl dX5_hearLetter_7 ?_
      refine j_iload_n h 3 rfl rfl dX5_hearLetter_8 ?_
      refine jm_callVi (np := 1) (isC := [0]) (isR := [1, 2, 3, 4, 5, 6, 7, 8, 9, 10, 11]) (wc := [(s, .inl (.inr (5, [.ref s0, .ref s1, .ref s2, .ref s3, .ref s4, .ref s5, .ref s6, .ref s7, .ref s8, .ref s9, .ref s10, .ref s11, .int (nI sn), .int (nI sl), .int (nI se)])))]) (wr := [(s1, .inl (.inl (kA 1, 6, .inl sc1))), (s2, .inl (.inl (kA 1, 6, .inl sc2))), (s3, .inl (.inl (kA 1, 6, .inl sc3))), (s5, .inl (.inl (kA 1, 10, .inl sc5))), (s6, .inr (kA 6, kA 1, 10, 5, .inl sc6)), (s7, .inl (.inl (kA 1, 10, .inl sc7))), (s8, .inr (kA 6, kA 1, 10, 2, .inl sc8)), (s10, .inl (.inl (kA 1, 4, .inl sc10))), (s11, .inl (.inl (kA 1, 4, .inl sc11))), (lo, .inl (.inl (kA 1, 6, .inl lof))), (r0, .inl (.inl (kA 1, n0, .inl fr0_7_94006)))]) (rest := []) (As := [.int (nI k)]) (q0 := 0) h (s_X5_hasLetter _ _ kA s (nI k) s0 s1 s2 s3 s4 s5 s6 s7 s8 s9 s10 s11 (nI sn) (nI sl) (nI se) ) tw_906 tw_776 tw_777 tw_90 tw_778 (by decide +kernel) rfl ⟨Nat.le_of_ble_eq_true rfl, Nat.le_of_ble_eq_true rfl⟩ rfl rfl (by decide +kernel) rfl rfl (by decide +kernel) (by decide +kernel) (Nat.le_of_ble_eq_true rfl) rfl ⟨Nat.le_of_ble_eq_true rfl, Nat.le_of_ble_eq_true rfl⟩ dX5_hearLetter_9 ?_
      rintro r940137 _ e940136
      have p940138 := e940136
      subst p940138
      show J x (mflat [(s1, .inl (.inl (kA 1, 6, .inl sc1))), (s2, .inl (.inl (kA 1, 6, .inl sc2))), (s3, .inl (.inl (kA 1, 6, .inl sc3))), (s5, .inl (.inl (kA 1, 10, .inl sc5))), (s6, .inr (kA 6, kA 1, 10, 5, .inl sc6)), (s7, .inl (.inl (kA 1, 10, .inl sc7))), (s8, .inr (kA 6, kA 1, 10, 2, .inl sc8)), (s10, .inl (.inl (kA 1, 4, .inl sc10))), (s11, .inl (.inl (kA 1, 4, .inl sc11))), (lo, .inl (.inl (kA 1, 6, .inl lof))), (r0, .inl (.inl (kA 1, n0, .inl fr0_7_94006))), (s, .inl (.inr (5, [.ref s0, .ref s1, .ref s2, .ref s3, .ref s4, .ref s5, .ref s6, .ref s7, .ref s8, .ref s9, .ref s10, .ref s11, .int (nI sn), .int (nI sl), .int (nI se)])))]) [(7, .int (nI v7_7_94006)), (6, .int (nI v6_7_94006)), (0, .ref s), (1, .int (nI k)), (2, .ref lo), (3, .int (nI er)), (4, .ref r0), (5, .int (nI fr))] 0 0 12 [.int (bIx (nI k) (nI sl))]
      rcases bIxn k sl (by omega) (by omega) with ⟨hj940139, hT⟩ | ⟨hj940139, hT⟩
      · refine j_top (b := 0) hT ?_
        show J x (mflat [(s1, .inl (.inl (kA 1, 6, .inl sc1))), (s2, .inl (.inl (kA 1, 6, .inl sc2))), (s3, .inl (.inl (kA 1, 6, .inl sc3))), (s5, .inl (.inl (kA 1, 10, .inl sc5))), (s6, .inr (kA 6, kA 1, 10, 5, .inl sc6)), (s7, .inl (.inl (kA 1, 10, .inl sc7))), (s8, .inr (kA 6, kA 1, 10, 2, .inl sc8)), (s10, .inl (.inl (kA 1, 4, .inl sc10))), (s11, .inl (.inl (kA 1, 4, .inl sc11))), (lo, .inl (.inl (kA 1, 6, .inl lof))), (r0, .inl (.inl (kA 1, n0, .inl fr0_7_94006))), (s, .inl (.inr (5, [.ref s0, .ref s1, .ref s2, .ref s3, .ref s4, .ref s5, .ref s6, .ref s7, .ref s8, .ref s9, .ref s10, .ref s11, .int (nI sn), .int (nI sl), .int (nI se)])))]) [(7, .int (nI v7_7_94006)), (6, .int (nI v6_7_94006)), (0, .ref s), (1, .int (nI k)), (2, .ref lo), (3, .int (nI er)), (4, .ref r0), (5, .int (nI fr))] 0 0 12 [.int 0]
        refine j_if_eq h 68 dX5_hearLetter_12 (by decide) (fun _ => ?_) (fun q => absurd (by decide) q)
        refine j_iload h 1 rfl dX5_hearLetter_68 ?_
        exact jm_iret h hq dX5_hearLetter_70 (v6_7_94006, fr0_7_94006) [11, 0, 1, 2, 3, 4, 5, 6, 7, 8, 9, 10] rfl (by decide) ⟨rfl, (show v6_7_94006 = fr + ltS D k from (i7_94006_0).trans (by rw [show v7_7_94006 = D 7 k by omega]; rfl)), (show HlP fr0_7_94006 fr EE (D 9 er) (D 4) (dR D k) (D 7 k) from (show v7_7_94006 = D 7 k by omega) ▸ i7_94006_1), (show ∀ m, m < fr → fr0_7_94006 m = f m from i7_94006_2)⟩ (Nat.le_of_ble_eq_true rfl) (Nat.le_of_ble_eq_true rfl)
      · refine j_top (b := 1) hT ?_
        show J x (mflat [(s1, .inl (.inl (kA 1, 6, .inl sc1))), (s2, .inl (.inl (kA 1, 6, .inl sc2))), (s3, .inl (.inl (kA 1, 6, .inl sc3))), (s5, .inl (.inl (kA 1, 10, .inl sc5))), (s6, .inr (kA 6, kA 1, 10, 5, .inl sc6)), (s7, .inl (.inl (kA 1, 10, .inl sc7))), (s8, .inr (kA 6, kA 1, 10, 2, .inl sc8)), (s10, .inl (.inl (kA 1, 4, .inl sc10))), (s11, .inl (.inl (kA 1, 4, .inl sc11))), (lo, .inl (.inl (kA 1, 6, .inl lof))), (r0, .inl (.inl (kA 1, n0, .inl fr0_7_94006))), (s, .inl (.inr (5, [.ref s0, .ref s1, .ref s2, .ref s3, .ref s4, .ref s5, .ref s6, .ref s7, .ref s8, .ref s9, .ref s10, .ref s11, .int (nI sn), .int (nI sl), .int (nI se)])))]) [(7, .int (nI v7_7_94006)), (6, .int (nI v6_7_94006)), (0, .ref s), (1, .int (nI k)), (2, .ref lo), (3, .int (nI er)), (4, .ref r0), (5, .int (nI fr))] 0 0 12 [.int 1]
        refine j_if_eq h 68 dX5_hearLetter_12 (by decide) (fun q => absurd q (by decide)) (fun _ => ?_)
        refine j_iload h 0 rfl dX5_hearLetter_15 ?_
        refine j_aload_n h 2 rfl rfl dX5_hearLetter_17 ?_
        refine jm_get h iw_X5 11 rfl rfl 5 (by decide +kernel) tw_191 rfl dX5_hearLetter_18 ?_
        refine j_iload_n h 3 rfl rfl dX5_hearLetter_21 ?_
        refine jm_iald h 3 rfl k rfl (by omega) (by omega) dX5_hearLetter_22 ?_
        obtain ⟨u940140, u940141, u940142⟩ := ScD_5 hSc hD (show k < sl by omega)
        refine j_top (b := nI (D 7 k)) (u940140) ?_
        refine j_icmp_ge h 68 dX5_hearLetter_23 (by decide) (fun z940143 => ?_) (fun z940143 => ?_)
        · have z940143n : (D 7 k) ≤ v7_7_94006 := (nI_leI (a := (D 7 k)) (b := v7_7_94006) (by omega) (by omega)).mp z940143
          refine j_iload h 1 rfl dX5_hearLetter_68 ?_
          exact jm_iret h hq dX5_hearLetter_70 (v6_7_94006, fr0_7_94006) [11, 0, 1, 2, 3, 4, 5, 6, 7, 8, 9, 10] rfl (by decide) ⟨rfl, (show v6_7_94006 = fr + ltS D k from (i7_94006_0).trans (by rw [show v7_7_94006 = D 7 k by omega]; rfl)), (show HlP fr0_7_94006 fr EE (D 9 er) (D 4) (dR D k) (D 7 k) from (show v7_7_94006 = D 7 k by omega) ▸ i7_94006_1), (show ∀ m, m < fr → fr0_7_94006 m = f m from i7_94006_2)⟩ (Nat.le_of_ble_eq_true rfl) (Nat.le_of_ble_eq_true rfl)
        · have z940143n : ¬ (D 7 k) ≤ v7_7_94006 := fun q9 => z940143 ((nI_leI (a := (D 7 k)) (b := v7_7_94006) (by omega) (by omega)).mpr q9)
          refine j_aload_n h 2 rfl rfl dX5_hearLetter_26 ?_
          refine jm_get h iw_X5 11 rfl rfl 6 (by decide +kernel) tw_195 rfl dX5_hearLetter_27 ?_
          refine j_iload_n h 3 rfl rfl dX5_hearLetter_30 ?_
          refine jm_gout h 4 6 rfl rfl k rfl (by omega) (by omega) dX5_hearLetter_31 ?_
          refine j_iload h 0 rfl dX5_hearLetter_32 ?_
          refine jm_gald h 4 rfl k (by omega) v7_7_94006 rfl (by omega) (by omega) dX5_hearLetter_34 ?_
          obtain ⟨u940144, u940145⟩ := ScD_6 hSc hD (show k < sl by omega) (show v7_7_94006 < D 7 k by omega)
          refine j_top (b := nI (dR D k v7_7_94006)) (u940144) ?_
          refine j_istore (lv' := [(8, .int (nI (dR D k v7_7_94006))), (7, .int (nI v7_7_94006)), (6, .int (nI v6_7_94006)), (0, .ref s), (1, .int (nI k)), (2, .ref lo), (3, .int (nI er)), (4, .ref r0), (5, .int (nI fr))]) h dX5_hearLetter_35 (by decide) rfl ?_
          refine j_aload h 7 rfl dX5_hearLetter_37 ?_
          refine j_iload h 2 rfl dX5_hearLetter_39 ?_
          refine j_aload_n h 3 rfl rfl dX5_hearLetter_41 ?_
          refine j_aload_n h 5 rfl rfl dX5_hearLetter_42 ?_
          refine j_iload h 0 rfl dX5_hearLetter_43 ?_
          refine jm_iald h 9 rfl (dR D k v7_7_94006) rfl (by omega) (by omega) dX5_hearLetter_45 ?_
          have u940146 := (hlo (dR D k v7_7_94006) (by omega)).2
          refine j_top (b := nI (EE (dR D k v7_7_94006))) ((hlo (dR D k v7_7_94006) (by omega)).1) ?_
          refine j_iload_n h 6 rfl rfl dX5_hearLetter_46 ?_
          refine jm_callVi (np := 2) (isC := [11, 7]) (isR := [0, 1, 2, 3, 4, 5, 6, 8, 9, 10]) (wc := [(s, .inl (.inr (5, [.ref s0, .ref s1, .ref s2, .ref s3, .ref s4, .ref s5, .ref s6, .ref s7, .ref s8, .ref s9, .ref s10, .ref s11, .int (nI sn), .int (nI sl), .int (nI se)]))), (s10, .inl (.inl (kA 1, 4, .inl sc10)))]) (wr := [(s1, .inl (.inl (kA 1, 6, .inl sc1))), (s2, .inl (.inl (kA 1, 6, .inl sc2))), (s3, .inl (.inl (kA 1, 6, .inl sc3))), (s5, .inl (.inl (kA 1, 10, .inl sc5))), (s6, .inr (kA 6, kA 1, 10, 5, .inl sc6)), (s7, .inl (.inl (kA 1, 10, .inl sc7))), (s8, .inr (kA 6, kA 1, 10, 2, .inl sc8)), (s11, .inl (.inl (kA 1, 4, .inl sc11))), (lo, .inl (.inl (kA 1, 6, .inl lof))), (r0, .inl (.inl (kA 1, n0, .inl fr0_7_94006)))]) (rest := [.int (nI v6_7_94006), .ref r0]) (As := [.int (nI (EE (dR D k v7_7_94006))), .int (nI er)]) (q0 := 0) h (s_X5_heardBelowF _ _ kA s (EE (dR D k v7_7_94006)) er s0 s1 s2 s3 s4 s5 s6 s7 s8 s9 s10 s11 sn sl se sc10 (D 9 er) (show se ≤ 4 by first | assumption | omega) (show er < se by first | assumption | omega) (show (EE (dR D k v7_7_94006)) ≤ 9 by first | assumption | omega) (show sc10 er = nI (D 9 er) from (hSc.2.2.2.2.2 er her).1) (show (D 9 er) ≤ 9 from hD.2.2.2.2.2.1 er (by rw [← hSc.2.2.1]; exact her))) tw_907 tw_798 tw_799 tw_90 tw_800 (by decide +kernel) rfl ⟨Nat.le_of_ble_eq_true rfl, Nat.le_of_ble_eq_true rfl⟩ rfl rfl (by decide +kernel) rfl rfl (by decide +kernel) (by decide +kernel) (Nat.le_of_ble_eq_true rfl) rfl ⟨Nat.le_of_ble_eq_true rfl, Nat.le_of_ble_eq_true rfl⟩ dX5_hearLetter_47 ?_
          rintro r940149 q940147 e940148
          obtain ⟨p940150, p940151⟩ := e940148
          subst p940150
          replace p940151 : q940147 = (EE (dR D k v7_7_94006)) - (D 9 er) := p940151
          show J x (mflat [(s1, .inl (.inl (kA 1, 6, .inl sc1))), (s2, .inl (.inl (kA 1, 6, .inl sc2))), (s3, .inl (.inl (kA 1, 6, .inl sc3))), (s5, .inl (.inl (kA 1, 10, .inl sc5))), (s6, .inr (kA 6, kA 1, 10, 5, .inl sc6)), (s7, .inl (.inl (kA 1, 10, .inl sc7))), (s8, .inr (kA 6, kA 1, 10, 2, .inl sc8)), (s11, .inl (.inl (kA 1, 4, .inl sc11))), (lo, .inl (.inl (kA 1, 6, .inl lof))), (r0, .inl (.inl (kA 1, n0, .inl fr0_7_94006))), (s, .inl (.inr (5, [.ref s0, .ref s1, .ref s2, .ref s3, .ref s4, .ref s5, .ref s6, .ref s7, .ref s8, .ref s9, .ref s10, .ref s11, .int (nI sn), .int (nI sl), .int (nI se)]))), (s10, .inl (.inl (kA 1, 4, .inl sc10)))]) [(8, .int (nI (dR D k v7_7_94006))), (7, .int (nI v7_7_94006)), (6, .int (nI v6_7_94006)), (0, .ref s), (1, .int (nI k)), (2, .ref lo), (3, .int (nI er)), (4, .ref r0), (5, .int (nI fr))] 0 0 50 [.int (nI q940147), .int (nI v6_7_94006), .ref r0]
          refine j_aload_n h 3 rfl rfl dX5_hearLetter_50 ?_
          refine jm_get h iw_X5 10 rfl rfl 1 (by decide +kernel) tw_177 rfl dX5_hearLetter_51 ?_
          refine j_iload h 0 rfl dX5_hearLetter_54 ?_
          refine jm_iald h 0 rfl (dR D k v7_7_94006) rfl (by omega) (by omega) dX5_hearLetter_56 ?_
          obtain ⟨u940152, u940153, u940154⟩ := ScD_1 hSc hD (show (dR D k v7_7_94006) < sn by omega)
          refine j_top (b := nI (D 4 (dR D k v7_7_94006))) (u940152) ?_
          have u940155 := tkS_mo (t := D 4) (x := dR D k) (show v7_7_94006 + 1 ≤ D 7 k by omega)
          have u940155b : tkS (D 4) (dR D k) (v7_7_94006 + 1) = tkS (D 4) (dR D k) v7_7_94006 + D 4 (dR D k v7_7_94006) := rfl
          have u940155c : ltS D k = tkS (D 4) (dR D k) (D 7 k) := rfl
          refine jm_callSNi (np := 4) (isC := [9]) (isR := [0, 1, 2, 3, 4, 5, 6, 7, 8, 10, 11]) (wc := [(r0, .inl (.inl (kA 1, n0, .inl fr0_7_94006)))]) (wr := [(s1, .inl (.inl (kA 1, 6, .inl sc1))), (s2, .inl (.inl (kA 1, 6, .inl sc2))), (s3, .inl (.inl (kA 1, 6, .inl sc3))), (s5, .inl (.inl (kA 1, 10, .inl sc5))), (s6, .inr (kA 6, kA 1, 10, 5, .inl sc6)), (s7, .inl (.inl (kA 1, 10, .inl sc7))), (s8, .inr (kA 6, kA 1, 10, 2, .inl sc8)), (s11, .inl (.inl (kA 1, 4, .inl sc11))), (lo, .inl (.inl (kA 1, 6, .inl lof))), (s, .inl (.inr (5, [.ref s0, .ref s1, .ref s2, .ref s3, .ref s4, .ref s5, .ref s6, .ref s7, .ref s8, .ref s9, .ref s10, .ref s11, .int (nI sn), .int (nI sl), .int (nI se)]))), (s10, .inl (.inl (kA 1, 4, .inl sc10)))]) (rest := []) (As := [.ref r0, .int (nI v6_7_94006), .int (nI q940147), .int (nI (D 4 (dR D k v7_7_94006)))]) h (s_X11_putStepF _ _ kA r0 v6_7_94006 (nI q940147) (D 4 (dR D k v7_7_94006)) n0 fr0_7_94006 (show n0 ≤ 60 by first | assumption | omega) (show v6_7_94006 + (D 4 (dR D k v7_7_94006)) ≤ n0 by first | assumption | omega)) (by decide +kernel) tw_806 tw_87 tw_807 (by decide +kernel) rfl ⟨Nat.le_of_ble_eq_true rfl, Nat.le_of_ble_eq_true rfl⟩ (by decide +kernel) rfl rfl (by decide +kernel) (by decide +kernel) (Nat.le_of_ble_eq_true rfl) rfl ⟨Nat.le_of_ble_eq_true rfl, Nat.le_of_ble_eq_true rfl⟩ dX5_hearLetter_57 ?_
          rintro r940159 ⟨q940156, q940157⟩ e940158
          obtain ⟨p940160, p940161, p940162⟩ := e940158
          subst p940160
          replace p940161 : q940156 = v6_7_94006 + (D 4 (dR D k v7_7_94006)) := p940161
          replace p940162 : PtR fr0_7_94006 q940157 v6_7_94006 (v6_7_94006 + (D 4 (dR D k v7_7_94006))) (nI q940147) := p940162
          show J x (mflat [(s1, .inl (.inl (kA 1, 6, .inl sc1))), (s2, .inl (.inl (kA 1, 6, .inl sc2))), (s3, .inl (.inl (kA 1, 6, .inl sc3))), (s5, .inl (.inl (kA 1, 10, .inl sc5))), (s6, .inr (kA 6, kA 1, 10, 5, .inl sc6)), (s7, .inl (.inl (kA 1, 10, .inl sc7))), (s8, .inr (kA 6, kA 1, 10, 2, .inl sc8)), (s11, .inl (.inl (kA 1, 4, .inl sc11))), (lo, .inl (.inl (kA 1, 6, .inl lof))), (s, .inl (.inr (5, [.ref s0, .ref s1, .ref s2, .ref s3, .ref s4, .ref s5, .ref s6, .ref s7, .ref s8, .ref s9, .ref s10, .ref s11, .int (nI sn), .int (nI sl), .int (nI se)]))), (s10, .inl (.inl (kA 1, 4, .inl sc10))), (r0, .inl (.inl (kA 1, n0, .inl q940157)))]) [(8, .int (nI (dR D k v7_7_94006))), (7, .int (nI v7_7_94006)), (6, .int (nI v6_7_94006)), (0, .ref s), (1, .int (nI k)), (2, .ref lo), (3, .int (nI er)), (4, .ref r0), (5, .int (nI fr))] 0 0 60 [.int (nI q940156)]
          refine j_istore (lv' := [(6, .int (nI q940156)), (8, .int (nI (dR D k v7_7_94006))), (7, .int (nI v7_7_94006)), (0, .ref s), (1, .int (nI k)), (2, .ref lo), (3, .int (nI er)), (4, .ref r0), (5, .int (nI fr))]) h dX5_hearLetter_60 (by decide) rfl ?_
          refine j_iinc (v := nI (v7_7_94006 + 1)) (lv' := [(7, .int (nI (v7_7_94006 + 1))), (6, .int (nI q940156)), (8, .int (nI (dR D k v7_7_94006))), (0, .ref s), (1, .int (nI k)), (2, .ref lo), (3, .int (nI er)), (4, .ref r0), (5, .int (nI fr))]) h dX5_hearLetter_62 2 rfl (nI_add v7_7_94006 1) (by decide) rfl ?_
          refine j_goto h 7 dX5_hearLetter_65 (by decide) ?_
          refine jm_sub [9, 0, 1, 2, 3, 4, 5, 6, 10, 7, 8, 11] (w' := [(s, .inl (.inr (5, [.ref s0, .ref s1, .ref s2, .ref s3, .ref s4, .ref s5, .ref s6, .ref s7, .ref s8, .ref s9, .ref s10, .ref s11, .int (nI sn), .int (nI sl), .int (nI se)]))), (s1, .inl (.inl (kA 1, 6, .inl sc1))), (s2, .inl (.inl (kA 1, 6, .inl sc2))), (s3, .inl (.inl (kA 1, 6, .inl sc3))), (s5, .inl (.inl (kA 1, 10, .inl sc5))), (s6, .inr (kA 6, kA 1, 10, 5, .inl sc6)), (s7, .inl (.inl (kA 1, 10, .inl sc7))), (s8, .inr (kA 6, kA 1, 10, 2, .inl sc8)), (s10, .inl (.inl (kA 1, 4, .inl sc10))), (s11, .inl (.inl (kA 1, 4, .inl sc11))), (lo, .inl (.inl (kA 1, 6, .inl lof))), (r0, .inl (.inl (kA 1, n0, .inl q940157)))]) rfl (by decide +kernel) [0, 1, 3, 4, 5, 6, 7, 8] (lv' := [(7, .int (nI (v7_7_94006 + 1))), (6, .int (nI q940156)), (0, .ref s), (1, .int (nI k)), (2, .ref lo), (3, .int (nI er)), (4, .ref r0), (5, .int (nI fr))]) rfl ?_
          exact ih7_94006 (v7_7_94006 + 1) q940156 q940157 (show q940156 = fr + tkS (D 4) (dR D k) (v7_7_94006 + 1) from p940161.trans (by rw [i7_94006_0]; exact Nat.add_assoc _ _ _)) (show HlP q940157 fr EE (D 9 er) (D 4) (dR D k) (v7_7_94006 + 1) from Hl_n i7_94006_1 (i7_94006_0 ▸ p940162) (congrArg nI p940151) (fun k9 h9 => (hD.2.2.2.1 _ ((hD.2.2.2.2.1 k (by rw [← hSc.2.1]; exact hk)).2.2 k9 (by omega))).1)) (show ∀ m, m < fr → q940157 m = f m from (fun m h9 => (p940162.1 m (Or.inl (by omega))).trans (i7_94006_2 m h9))) (show (v7_7_94006 + 1) ≤ D 7 k by first | assumption | omega) (show q940156 ≤ 60 by first | assumption | omega) (show (v7_7_94006 + 1) ≤ 100000 by first | assumption | omega) (show q940156 ≤ 100000 by first | assumption | omega) (show D 7 k - (v7_7_94006 + 1) < m7_94006 by omega)
  refine jm_sub [0, 1, 2, 3, 4, 5, 6, 7, 8, 9, 10, 11] (w' := [(s, .inl (.inr (5, [.ref s0, .ref s1, .ref s2, .ref s3, .ref s4, .ref s5, .ref s6, .ref s7, .ref s8, .ref s9, .ref s10, .ref s11, .int (nI sn), .int (nI sl), .int (nI se)]))), (s1, .inl (.inl (kA 1, 6, .inl sc1))), (s2, .inl (.inl (kA 1, 6, .inl sc2))), (s3, .inl (.inl (kA 1, 6, .inl sc3))), (s5, .inl (.inl (kA 1, 10, .inl sc5))), (s6, .inr (kA 6, kA 1, 10, 5, .inl sc6)), (s7, .inl (.inl (kA 1, 10, .inl sc7))), (s8, .inr (kA 6, kA 1, 10, 2, .inl sc8)), (s10, .inl (.inl (kA 1, 4, .inl sc10))), (s11, .inl (.inl (kA 1, 4, .inl sc11))), (lo, .inl (.inl (kA 1, 6, .inl lof))), (r0, .inl (.inl (kA 1, n0, .inl f)))]) rfl (by decide +kernel) [0, 1, 2, 3, 4, 5, 6, 7] (lv' := [(7, .int 0), (6, .int (nI fr)), (0, .ref s), (1, .int (nI k)), (2, .ref lo), (3, .int (nI er)), (4, .ref r0), (5, .int (nI fr))]) rfl ?_
  exact lp7_94006 (D 7 k - 0 + 1) 0 fr f (show fr = fr + tkS (D 4) (dR D k) 0 from rfl) (show HlP f fr EE (D 9 er) (D 4) (dR D k) 0 from Hl_0) (show ∀ m, m < fr → f m = f m from (fun m _ => rfl)) (show 0 ≤ D 7 k by first | assumption | omega) (show fr ≤ 60 by first | assumption | omega) (show 0 ≤ 100000 by first | assumption | omega) (show fr ≤ 100000 by first | assumption | omega) (Nat.lt_succ_self _)
set_option maxHeartbeats 4000000 in
set_option maxRecDepth 100000 in
theorem s_X10_hearTextF (lau : Launch) (gg : va_G) (kA : Nat → ClassId) (t : Nat) (s : Nat) (lo : Nat) (er : Nat) (o : Nat) (t0 : Nat) (tsz : Nat) (ttm : Nat) (tft : Nat) (trow : Nat → Int32) (s0 : Nat) (s1 : Nat) (s2 : Nat) (s3 : Nat) (s4 : Nat) (s5 : Nat) (s6 : Nat) (s7 : Nat) (s8 : Nat) (s9 : Nat) (s10 : Nat) (s11 : Nat) (sn : Nat) (sl : Nat) (se : Nat) (sc1 : Nat → Int32) (sc2 : Nat → Int32) (sc3 : Nat → Int32) (sc5 : Nat → Int32) (sc6 : Nat → Nat → Int32) (sc7 : Nat → Int32) (sc8 : Nat → Nat → Int32) (sc10 : Nat → Int32) (sc11 : Nat → Int32) (lof : Nat → Int32) (of : Nat → Int32) (D : Nat → Nat → Nat) (EE : Nat → Nat) (z : Nat → Nat) (hsn : sn ≤ 6) (hsl : sl ≤ 10) (hse : se ≤ 4) (hstk : TkOk sn sc1) (hssz : SzOk sl sc5) (hsrw : RwOk sl sn sc5 sc6) (hslt : LtOk sl sc7) (hsla : FtOk sl sc8) (hsls : LsOk sl sc5 sc6 sc1 sc7) (htsz : tsz ≤ 60) (httm : ttm ≤ 60) (htft : tft ≤ 1) (htro : RoOk sl tsz trow) (hSc : ScR D sn sl se sc1 sc2 sc3 sc5 sc6 sc7 sc8 sc10 sc11) (hD : DOk D) (her : er < se) (hlo : ∀ k, k < sn → lof k = nI (EE k) ∧ EE k ≤ 9) (hz : ∀ i, i < tsz → trow i = nI (z i) ∧ z i < sl) (htt : ttm = tkS (ltS D) z tsz) : CtV lau yX10_hearText cX10_hearText 7 (none) 4 0 0 gg kA [.ref t, .ref s, .ref lo, .int (nI er), .ref o] (mflat [(t, .inl (.inr (10, [.ref t0, .int (nI tsz), .int (nI ttm), .int (nI tft)]))), (t0, .inl (.inl (kA 1, 60, .inl trow))), (s, .inl (.inr (5, [.ref s0, .ref s1, .ref s2, .ref s3, .ref s4, .ref s5, .ref s6, .ref s7, .ref s8, .ref s9, .ref s10, .ref s11, .int (nI sn), .int (nI sl), .int (nI se)]))), (s1, .inl (.inl (kA 1, 6, .inl sc1))), (s2, .inl (.inl (kA 1, 6, .inl sc2))), (s3, .inl (.inl (kA 1, 6, .inl sc3))), (s5, .inl (.inl (kA 1, 10, .inl sc5))), (s6, .inr (kA 6, kA 1, 10, 5, .inl sc6)), (s7, .inl (.inl (kA 1, 10, .inl sc7))), (s8, .inr (kA 6, kA 1, 10, 2, .inl sc8)), (s10, .inl (.inl (kA 1, 4, .inl sc10))), (s11, .inl (.inl (kA 1, 4, .inl sc11))), (lo, .inl (.inl (kA 1, 6, .inl lof))), (o, .inl (.inl (kA 1, 60, .inl of)))]) (S := (Nat → Int32)) (fun (y_o : (Nat → Int32)) => TxH D EE (D 9 er) z tsz y_o) (fun (y_o : (Nat → Int32)) => mflat [(t, .inl (.inr (10, [.ref t0, .int (nI tsz), .int (nI ttm), .int (nI tft)]))), (t0, .inl (.inl (kA 1, 60, .inl trow))), (s, .inl (.inr (5, [.ref s0, .ref s1, .ref s2, .ref s3, .ref s4, .ref s5, .ref s6, .ref s7, .ref s8, .ref s9, .ref s10, .ref s11, .int (nI sn), .int (nI sl), .int (nI se)]))), (s1, .inl (.inl (kA 1, 6, .inl sc1))), (s2, .inl (.inl (kA 1, 6, .inl sc2))), (s3, .inl (.inl (kA 1, 6, .inl sc3))), (s5, .inl (.inl (kA 1, 10, .inl sc5))), (s6, .inr (kA 6, kA 1, 10, 5, .inl sc6)), (s7, .inl (.inl (kA 1, 10, .inl sc7))), (s8, .inr (kA 6, kA 1, 10, 2, .inl sc8)), (s10, .inl (.inl (kA 1, 4, .inl sc10))), (s11, .inl (.inl (kA 1, 4, .inl sc11))), (lo, .inl (.inl (kA 1, 6, .inl lof))), (o, .inl (.inl (kA 1, 60, .inl y_o)))]) := by
  refine nx_startV (by decide +kernel) (Nat.le_of_ble_eq_true rfl) ?_
  intro x hnm h hq
  have h : Ok x cX10_hearText RX10 kA (rmC 4 0 0) 7 := h
  show J x (mflat [(t, .inl (.inr (10, [.ref t0, .int (nI tsz), .int (nI ttm), .int (nI tft)]))), (t0, .inl (.inl (kA 1, 60, .inl trow))), (s, .inl (.inr (5, [.ref s0, .ref s1, .ref s2, .ref s3, .ref s4, .ref s5, .ref s6, .ref s7, .ref s8, .ref s9, .ref s10, .ref s11, .int (nI sn), .int (nI sl), .int (nI se)]))), (s1, .inl (.inl (kA 1, 6, .inl sc1))), (s2, .inl (.inl (kA 1, 6, .inl sc2))), (s3, .inl (.inl (kA 1, 6, .inl sc3))), (s5, .inl (.inl (kA 1, 10, .inl sc5))), (s6, .inr (kA 6, kA 1, 10, 5, .inl sc6)), (s7, .inl (.inl (kA 1, 10, .inl sc7))), (s8, .inr (kA 6, kA 1, 10, 2, .inl sc8)), (s10, .inl (.inl (kA 1, 4, .inl sc10))), (s11, .inl (.inl (kA 1, 4, .inl sc11))), (lo, .inl (.inl (kA 1, 6, .inl lof))), (o, .inl (.inl (kA 1, 60, .inl of)))]) [(0, .ref t), (1, .ref s), (2, .ref lo), (3, .int (nI er)), (4, .ref o)] 0 0 0 []
  refine j_iconst (v := 0) h (by decide) dX10_hearText_0 ?_
  refine j_istore (lv' := [(5, .int 0), (0, .ref t), (1, .ref s), (2, .ref lo), (3, .int (nI er)), (4, .ref o)]) h dX10_hearText_1 (by decide) rfl ?_
  refine j_iconst (v := 0) h (by decide) dX10_hearText_3 ?_
  refine j_istore (lv' := [(6, .int 0), (5, .int 0), (0, .ref t), (1, .ref s), (2, .ref lo), (3, .int (nI er)), (4, .ref o)]) h dX10_hearText_4 (by decide) rfl ?_
  have lp6_94012 : ∀ (m6_94012 : Nat), ∀ (v6_6_94012 : Nat) (v5_6_94012 : Nat) (fo_6_94012 : Nat → Int32), (v5_6_94012 = tkS (ltS D) z v6_6_94012) → (TxH D EE (D 9 er) z v6_6_94012 fo_6_94012) → (v6_6_94012 ≤ tsz) → (v5_6_94012 ≤ 60) → (v6_6_94012 ≤ 100000) → (v5_6_94012 ≤ 100000) → tsz - v6_6_94012 < m6_94012 → J x (mflat [(t, .inl (.inr (10, [.ref t0, .int (nI tsz), .int (nI ttm), .int (nI tft)]))), (t0, .inl (.inl (kA 1, 60, .inl trow))), (s, .inl (.inr (5, [.ref s0, .ref s1, .ref s2, .ref s3, .ref s4, .ref s5, .ref s6, .ref s7, .ref s8, .ref s9, .ref s10, .ref s11, .int (nI sn), .int (nI sl), .int (nI se)]))), (s1, .inl (.inl (kA 1, 6, .inl sc1))), (s2, .inl (.inl (kA 1, 6, .inl sc2))), (s3, .inl (.inl (kA 1, 6, .inl sc3))), (s5, .inl (.inl (kA 1, 10, .inl sc5))), (s6, .inr (kA 6, kA 1, 10, 5, .inl sc6)), (s7, .inl (.inl (kA 1, 10, .inl sc7))), (s8, .inr (kA 6, kA 1, 10, 2, .inl sc8)), (s10, .inl (.inl (kA 1, 4, .inl sc10))), (s11, .inl (.inl (kA 1, 4, .inl sc11))), (lo, .inl (.inl (kA 1, 6, .inl lof))), (o, .inl (.inl (kA 1, 60, .inl fo_6_94012)))]) [(6, .int (nI v6_6_94012)), (5, .int (nI v5_6_94012)), (0, .ref t), (1, .ref s), (2, .ref lo), (3, .int (nI er)), (4, .ref o)] 0 0 6 [] := by
    intro m6_94012
    induction m6_94012 with
    | zero =>
      intro v6_6_94012 v5_6_94012 fo_6_94012 i6_94012_0 i6_94012_1 i6_94012_2 i6_94012_3 i6_94012_4 i6_94012_5 hm6_94012
      exact absurd hm6_94012 (Nat.not_lt_zero _)
    | succ m6_94012 ih6_94012 =>
      intro v6_6_94012 v5_6_94012 fo_6_94012 i6_94012_0 i6_94012_1 i6_94012_2 i6_94012_3 i6_94012_4 i6_94012_5 hm6_94012
      refine j_iload h 0 rfl dX10_hearText_6 ?_
      refine j_aload_n h 2 rfl rfl dX10_hearText_8 ?_
      refine jm_get h iw_X10 0 rfl rfl 1 (by decide +kernel) tw_305 rfl dX10_hearText_9 ?_
      refine j_icmp_ge h 40 dX10_hearText_12 (by decide) (fun z940218 => ?_) (fun z940218 => ?_)
      · have z940218n : tsz ≤ v6_6_94012 := (nI_leI (a := tsz) (b := v6_6_94012) (by omega) (by omega)).mp z940218
        exact jm_vret h hq dX10_hearText_40 fo_6_94012 [0, 1, 2, 3, 4, 5, 6, 7, 8, 9, 10, 11, 12, 13] rfl (by decide) (show TxH D EE (D 9 er) z tsz fo_6_94012 from (show v6_6_94012 = tsz by omega) ▸ i6_94012_1) (Nat.le_of_ble_eq_true rfl) (Nat.le_of_ble_eq_true rfl)
      · have z940218n : ¬ tsz ≤ v6_6_94012 := fun q9 => z940218 ((nI_leI (a := tsz) (b := v6_6_94012) (by omega) (by omega)).mpr q9)
        refine j_aload_n h 3 rfl rfl dX10_hearText_15 ?_
        refine j_aload_n h 2 rfl rfl dX10_hearText_16 ?_
        refine jm_get h iw_X10 0 rfl rfl 0 (by decide +kernel) tw_302 rfl dX10_hearText_17 ?_
        refine j_iload h 0 rfl dX10_hearText_20 ?_
        refine jm_iald h 1 rfl v6_6_94012 rfl (by omega) (by omega) dX10_hearText_22 ?_
        have u940219 := (hz v6_6_94012 (by omega)).2
        refine j_top (b := nI (z v6_6_94012)) ((hz v6_6_94012 (by omega)).1) ?_
        refine j_aload_n h 4 rfl rfl dX10_hearText_23 ?_
        refine j_iload_n h 5 rfl rfl dX10_hearText_24 ?_
        refine j_aload h 6 rfl dX10_hearText_25 ?_
        refine j_iload h 1 rfl dX10_hearText_27 ?_
        have u940220 := tkS_mo (t := ltS D) (x := z) (show v6_6_94012 + 1 ≤ tsz by omega)
        have u940220b : tkS (ltS D) z (v6_6_94012 + 1) = tkS (ltS D) z v6_6_94012 + ltS D (z v6_6_94012) := rfl
        refine jm_callVi (np := 5) (isC := [2, 3, 4, 5, 6, 7, 8, 9, 10, 11, 12, 13]) (isR := [0, 1]) (wc := [(s, .inl (.inr (5, [.ref s0, .ref s1, .ref s2, .ref s3, .ref s4, .ref s5, .ref s6, .ref s7, .ref s8, .ref s9, .ref s10, .ref s11, .int (nI sn), .int (nI sl), .int (nI se)]))), (s1, .inl (.inl (kA 1, 6, .inl sc1))), (s2, .inl (.inl (kA 1, 6, .inl sc2))), (s3, .inl (.inl (kA 1, 6, .inl sc3))), (s5, .inl (.inl (kA 1, 10, .inl sc5))), (s6, .inr (kA 6, kA 1, 10, 5, .inl sc6)), (s7, .inl (.inl (kA 1, 10, .inl sc7))), (s8, .inr (kA 6, kA 1, 10, 2, .inl sc8)), (s10, .inl (.inl (kA 1, 4, .inl sc10))), (s11, .inl (.inl (kA 1, 4, .inl sc11))), (lo, .inl (.inl (kA 1, 6, .inl lof))), (o, .inl (.inl (kA 1, 60, .inl fo_6_94012)))]) (wr := [(t, .inl (.inr (10, [.ref t0, .int (nI tsz), .int (nI ttm), .int (nI tft)]))), (t0, .inl (.inl (kA 1, 60, .inl trow)))]) (rest := []) (As := [.int (nI (z v6_6_94012)), .ref lo, .int (nI er), .ref o, .int (nI v5_6_94012)]) (q0 := 0) h (s_X5_hearLetterF _ _ kA s (z v6_6_94012) lo er o v5_6_94012 s0 s1 s2 s3 s4 s5 s6 s7 s8 s9 s10 s11 sn sl se sc1 sc2 sc3 sc5 sc6 sc7 sc8 sc10 sc11 lof 60 fo_6_94012 D EE (show sn ≤ 6 by first | assumption | omega) (show sl ≤ 10 by first | assumption | omega) (show se ≤ 4 by first | assumption | omega) (show TkOk sn sc1 by first | assumption | omega) (show SzOk sl sc5 by first | assumption | omega) (show RwOk sl sn sc5 sc6 by first | assumption | omega) (show LtOk sl sc7 by first | assumption | omega) (show FtOk sl sc8 by first | assumption | omega) (show LsOk sl sc5 sc6 sc1 sc7 by first | assumption | omega) (show ScR D sn sl se sc1 sc2 sc3 sc5 sc6 sc7 sc8 sc10 sc11 by first | assumption | omega) (show DOk D by first | assumption | omega) (show (z v6_6_94012) < sl by first | assumption | omega) (show er < se by first | assumption | omega) (show ∀ k8, k8 < sn → lof k8 = nI (EE k8) ∧ EE k8 ≤ 9 by first | assumption | omega) (show 60 ≤ 60 by first | assumption | omega) (show v5_6_94012 + ltS D (z v6_6_94012) ≤ 60 by first | assumption | omega)) tw_972 tw_903 tw_904 tw_90 tw_905 (by decide +kernel) rfl ⟨Nat.le_of_ble_eq_true rfl, Nat.le_of_ble_eq_true rfl⟩ rfl rfl (by decide +kernel) rfl rfl (by decide +kernel) (by decide +kernel) (Nat.le_of_ble_eq_true rfl) rfl ⟨Nat.le_of_ble_eq_true rfl, Nat.le_of_ble_eq_true rfl⟩ dX10_hearText_29 ?_
        rintro r940224 ⟨q940221, q940222⟩ e940223
        obtain ⟨p940225, p940226, p940227, p940228⟩ := e940223
        subst p940225
        replace p940226 : q940221 = v5_6_94012 + ltS D (z v6_6_94012) := p940226
        replace p940227 : HlP q940222 v5_6_94012 EE (D 9 er) (D 4) (dR D (z v6_6_94012)) (D 7 (z v6_6_94012)) := p940227
        replace p940228 : ∀ m, m < v5_6_94012 → q940222 m = fo_6_94012 m := p940228
        show J x (mflat [(t, .inl (.inr (10, [.ref t0, .int (nI tsz), .int (nI ttm), .int (nI tft)]))), (t0, .inl (.inl (kA 1, 60, .inl trow))), (s, .inl (.inr (5, [.ref s0, .ref s1, .ref s2, .ref s3, .ref s4, .ref s5, .ref s6, .ref s7, .ref s8, .ref s9, .ref s10, .ref s11, .int (nI sn), .int (nI sl), .int (nI se)]))), (s1, .inl (.inl (kA 1, 6, .inl sc1))), (s2, .inl (.inl (kA 1, 6, .inl sc2))), (s3, .inl (.inl (kA 1, 6, .inl sc3))), (s5, .inl (.inl (kA 1, 10, .inl sc5))), (s6, .inr (kA 6, kA 1, 10, 5, .inl sc6)), (s7, .inl (.inl (kA 1, 10, .inl sc7))), (s8, .inr (kA 6, kA 1, 10, 2, .inl sc8)), (s10, .inl (.inl (kA 1, 4, .inl sc10))), (s11, .inl (.inl (kA 1, 4, .inl sc11))), (lo, .inl (.inl (kA 1, 6, .inl lof))), (o, .inl (.inl (kA 1, 60, .inl q940222)))]) [(6, .int (nI v6_6_94012)), (5, .int (nI v5_6_94012)), (0, .ref t), (1, .ref s), (2, .ref lo), (3, .int (nI er)), (4, .ref o)] 0 0 32 [.int (nI q940221)]
        refine j_istore (lv' := [(5, .int (nI q940221)), (6, .int (nI v6_6_94012)), (0, .ref t), (1, .ref s), (2, .ref lo), (3, .int (nI er)), (4, .ref o)]) h dX10_hearText_32 (by decide) rfl ?_
        refine j_iinc (v := nI (v6_6_94012 + 1)) (lv' := [(6, .int (nI (v6_6_94012 + 1))), (5, .int (nI q940221)), (0, .ref t), (1, .ref s), (2, .ref lo), (3, .int (nI er)), (4, .ref o)]) h dX10_hearText_34 1 rfl (nI_add v6_6_94012 1) (by decide) rfl ?_
        refine j_goto h 6 dX10_hearText_37 (by decide) ?_
        refine jm_sub [0, 1, 2, 3, 4, 5, 6, 7, 8, 9, 10, 11, 12, 13] (w' := [(t, .inl (.inr (10, [.ref t0, .int (nI tsz), .int (nI ttm), .int (nI tft)]))), (t0, .inl (.inl (kA 1, 60, .inl trow))), (s, .inl (.inr (5, [.ref s0, .ref s1, .ref s2, .ref s3, .ref s4, .ref s5, .ref s6, .ref s7, .ref s8, .ref s9, .ref s10, .ref s11, .int (nI sn), .int (nI sl), .int (nI se)]))), (s1, .inl (.inl (kA 1, 6, .inl sc1))), (s2, .inl (.inl (kA 1, 6, .inl sc2))), (s3, .inl (.inl (kA 1, 6, .inl sc3))), (s5, .inl (.inl (kA 1, 10, .inl sc5))), (s6, .inr (kA 6, kA 1, 10, 5, .inl sc6)), (s7, .inl (.inl (kA 1, 10, .inl sc7))), (s8, .inr (kA 6, kA 1, 10, 2, .inl sc8)), (s10, .inl (.inl (kA 1, 4, .inl sc10))), (s11, .inl (.inl (kA 1, 4, .inl sc11))), (lo, .inl (.inl (kA 1, 6, .inl lof))), (o, .inl (.inl (kA 1, 60, .inl q940222)))]) rfl (by decide +kernel) [0, 1, 2, 3, 4, 5, 6] (lv' := [(6, .int (nI (v6_6_94012 + 1))), (5, .int (nI q940221)), (0, .ref t), (1, .ref s), (2, .ref lo), (3, .int (nI er)), (4, .ref o)]) rfl ?_
        exact ih6_94012 (v6_6_94012 + 1) q940221 q940222 (show q940221 = tkS (ltS D) z (v6_6_94012 + 1) from p940226.trans (by rw [i6_94012_0]; rfl)) (show TxH D EE (D 9 er) z (v6_6_94012 + 1) q940222 from TxH_n i6_94012_1 (fun m h9 => p940228 m (by rw [i6_94012_0]; exact h9)) (by rw [← i6_94012_0]; exact p940227)) (show (v6_6_94012 + 1) ≤ tsz by first | assumption | omega) (show q940221 ≤ 60 by first | assumption | omega) (show (v6_6_94012 + 1) ≤ 100000 by first | assumption | omega) (show q940221 ≤ 100000 by first | assumption | omega) (show tsz - (v6_6_94012 + 1) < m6_94012 by omega)
  refine jm_sub [0, 1, 2, 3, 4, 5, 6, 7, 8, 9, 10, 11, 12, 13] (w' := [(t, .inl (.inr (10, [.ref t0, .int (nI tsz), .int (nI ttm), .int (nI tft)]))), (t0, .inl (.inl (kA 1, 60, .inl trow))), (s, .inl (.inr (5, [.ref s0, .ref s1, .ref s2, .ref s3, .ref s4, .ref s5, .ref s6, .ref s7, .ref s8, .ref s9, .ref s10, .ref s11, .int (nI sn), .int (nI sl), .int (nI se)]))), (s1, .inl (.inl (kA 1, 6, .inl sc1))), (s2, .inl (.inl (kA 1, 6, .inl sc2))), (s3, .inl (.inl (kA 1, 6, .inl sc3))), (s5, .inl (.inl (kA 1, 10, .inl sc5))), (s6, .inr (kA 6, kA 1, 10, 5, .inl sc6)), (s7, .inl (.inl (kA 1, 10, .inl sc7))), (s8, .inr (kA 6, kA 1, 10, 2, .inl sc8)), (s10, .inl (.inl (kA 1, 4, .inl sc10))), (s11, .inl (.inl (kA 1, 4, .inl sc11))), (lo, .inl (.inl (kA 1, 6, .inl lof))), (o, .inl (.inl (kA 1, 60, .inl of)))]) rfl (by decide +kernel) [0, 1, 2, 3, 4, 5, 6] (lv' := [(6, .int 0), (5, .int 0), (0, .ref t), (1, .ref s), (2, .ref lo), (3, .int (nI er)), (4, .ref o)]) rfl ?_
  exact lp6_94012 (tsz - 0 + 1) 0 0 of (show 0 = tkS (ltS D) z 0 from rfl) (show TxH D EE (D 9 er) z 0 of from TxH_0) (show 0 ≤ tsz by first | assumption | omega) (show 0 ≤ 60 by first | assumption | omega) (show 0 ≤ 100000 by first | assumption | omega) (show 0 ≤ 100000 by first | assumption | omega) (Nat.lt_succ_self _)
