def cnF (f4 f5 : Nat → Int32) (kn : Int32) (j : Nat) : Nat := if kn < f4 j then 0 else if f5 j = 2147483647 then 1 else if kn < f5 j then 1 else 0
def cnR (g4 g5 : Nat → Int32) (kn : Int32) (j : Nat) : Nat := if kn < g4 j then 0 else if g5 j < 0 then 1 else if kn < g5 j then 1 else 0
def SnR (e n : Nat) (f0 f1 f2 f3 : Nat → Int32) : Prop := ∀ k, k < n → (f0 k = nI (xr f0 k) ∧ xr f0 k < e) ∧ (f1 k = nI (xr f1 k) ∧ xr f1 k < 60) ∧ f2 k = nI (xr f2 k) ∧ f3 k = nI (xr f3 k) ∧ xr f2 k ≤ xr f3 k ∧ xr f3 k ≤ 9
def nk1 (B : (Nat → Nat) × (Nat → Nat → Nat) × (Nat → Nat → Nat)) (e m l h : Nat) : (Nat → Nat) × (Nat → Nat → Nat) × (Nat → Nat → Nat) := (upN B.1 e 1, nrL B.1 B.2.1 e m l, nrH B.1 B.2.2 e m h)
def nkB (cn SE SA SL SM : Nat → Nat) (B : (Nat → Nat) × (Nat → Nat → Nat) × (Nat → Nat → Nat)) : Nat → (Nat → Nat) × (Nat → Nat → Nat) × (Nat → Nat → Nat)
  | 0 => B
  | j + 1 => if cn j = 1 then nk1 (nkB cn SE SA SL SM B j) (SE j) (SA j) (SL j) (SM j) else nkB cn SE SA SL SM B j
/-- step p (0 none) in moment m is as all known sounds say -/
def soP (D : Nat → Nat → Nat) (E cn SE SA SL SM : Nat → Nat) (n p m : Nat) : Prop := ∀ j, j < n → cn j = 1 → SA j = m → SL j ≤ hrN E (D 9 (SE j)) p ∧ hrN E (D 9 (SE j)) p ≤ SM j
section NK
variable {D : Nat → Nat → Nat} {E cn SE SA SL SM : Nat → Nat} {B : (Nat → Nat) × (Nat → Nat → Nat) × (Nat → Nat → Nat)} {n p m e j k v T s t y : Nat} {f0 f1 f2 f3 f4 f5 g0 g1 g2 g3 g4 g5 : Nat → Int32} {kn : Int32} {LO HI : Nat → Nat → Nat}
theorem cn_t (h : kn < f4 j) : cnF f4 f5 kn j = 0 := if_pos h
theorem cn_u (h4 : ¬ kn < f4 j) (h5 : ¬ f5 j = 2147483647) (h6 : ¬ kn < f5 j) : cnF f4 f5 kn j = 0 := by
  unfold cnF
  rw [if_neg h4, if_neg h5, if_neg h6]
theorem cn_1 (h4 : ¬ kn < f4 j) (h5 : f5 j = 2147483647 ∨ kn < f5 j) : cnF f4 f5 kn j = 1 := by
  unfold cnF
  rw [if_neg h4]
  by_cases q : f5 j = 2147483647
  · rw [if_pos q]
  · rw [if_neg q, if_pos (h5.resolve_left q)]
theorem cr_t (h : kn < g4 j) : 0 = cnR g4 g5 kn j := (if_pos h).symm
theorem cr_u (h4 : ¬ kn < g4 j) (h5 : ¬ g5 j < 0) (h6 : ¬ kn < g5 j) : 0 = cnR g4 g5 kn j := by
  unfold cnR
  rw [if_neg h4, if_neg h5, if_neg h6]
theorem cr_1 (h4 : ¬ kn < g4 j) (h5 : g5 j < 0 ∨ kn < g5 j) : 1 = cnR g4 g5 kn j := by
  unfold cnR
  rw [if_neg h4]
  by_cases q : g5 j < 0
  · rw [if_pos q]
  · rw [if_neg q, if_pos (h5.resolve_left q)]
theorem cn_both (h : SdR n f0 f1 f2 f3 f4 f5 g0 g1 g2 g3 g4 g5) (hj : j < n) : cnR g4 g5 kn j = cnF f4 f5 kn j := by
  obtain ⟨_, _, _, _, h4, h5⟩ := h j hj
  unfold cnR cnF
  rw [← h4]
  by_cases q : kn < f4 j
  · rw [if_pos q, if_pos q]
  · rw [if_neg q, if_neg q]
    rcases h5 with ⟨a, b⟩ | ⟨t, h1, h2, h3⟩
    · rw [if_pos (by rw [a]; decide), if_pos b]
    · rw [h2, h3, if_neg (nI_pos (by omega)), if_neg (show ¬ nI t = 2147483647 from fun z => absurd ((nI_eq (a := t) (b := 2147483647) (by omega) (by decide)).mp z) (by omega))]
theorem nkB_y (h : cn j = 1) : nkB cn SE SA SL SM B (j + 1) = nk1 (nkB cn SE SA SL SM B j) (SE j) (SA j) (SL j) (SM j) := if_pos h
theorem nkB_n (h : cn j = 0) : nkB cn SE SA SL SM B (j + 1) = nkB cn SE SA SL SM B j := if_neg (by omega)
theorem nkB_ch (hs : ∀ j, j < n → SM j ≤ 9) (e : Nat) : (nkB cn SE SA SL SM ((fun _ => 0), LO, HI) n).1 e ≤ 1 ∧ ((nkB cn SE SA SL SM ((fun _ => 0), LO, HI) n).1 e = 0 → ∀ j, j < n → cn j = 1 → ¬ SE j = e) ∧ ((nkB cn SE SA SL SM ((fun _ => 0), LO, HI) n).1 e = 1 → ∀ m v, v ≤ 9 → (((nkB cn SE SA SL SM ((fun _ => 0), LO, HI) n).2.1 e m ≤ v ∧ v ≤ (nkB cn SE SA SL SM ((fun _ => 0), LO, HI) n).2.2 e m) ↔ ∀ j, j < n → cn j = 1 → SE j = e → SA j = m → SL j ≤ v ∧ v ≤ SM j)) := by
  induction n with
  | zero =>
    refine ⟨Nat.zero_le 1, fun _ j h => absurd h (Nat.not_lt_zero j), fun q => ?_⟩
    exact absurd q (by show ¬ 0 = 1; decide)
  | succ n ih =>
    obtain ⟨i1, i2, i3⟩ := ih (fun j hj => hs j (by omega))
    by_cases c : cn n = 1
    · rw [nkB_y c]
      generalize nkB cn SE SA SL SM ((fun _ => 0), LO, HI) n = C at i1 i2 i3 ⊢
      show upN C.1 (SE n) 1 e ≤ 1 ∧ (upN C.1 (SE n) 1 e = 0 → _) ∧ (upN C.1 (SE n) 1 e = 1 → ∀ m v, v ≤ 9 → ((nrL C.1 C.2.1 (SE n) (SA n) (SL n) e m ≤ v ∧ v ≤ nrH C.1 C.2.2 (SE n) (SA n) (SM n) e m) ↔ _))
      by_cases q : e = SE n
      · subst q
        rw [upN_s]
        refine ⟨Nat.le_refl 1, fun z => absurd z (by decide), fun _ m v hv => ?_⟩
        have base : (((if C.1 (SE n) = 0 then 0 else C.2.1 (SE n) m) ≤ v ∧ v ≤ (if C.1 (SE n) = 0 then 9 else C.2.2 (SE n) m)) ↔ ∀ j, j < n → cn j = 1 → SE j = SE n → SA j = m → SL j ≤ v ∧ v ≤ SM j) := by
          by_cases z : C.1 (SE n) = 0
          · rw [if_pos z, if_pos z]
            exact ⟨fun _ j hj hc he _ => absurd he (i2 z j hj hc), fun _ => ⟨Nat.zero_le v, hv⟩⟩
          · rw [if_neg z, if_neg z]
            exact i3 (by omega) m v hv
        unfold nrL nrH
        rw [if_pos rfl, if_pos rfl]
        by_cases w : m = SA n
        · rw [if_pos w, if_pos w]
          constructor
          · intro h j hj hc he hm
            by_cases y : j = n
            · subst y
              omega
            · exact base.mp (by omega) j (by omega) hc he hm
          · intro h
            have a := h n (Nat.lt_succ_self n) c rfl w.symm
            have b := base.mpr (fun j hj => h j (by omega))
            omega
        · rw [if_neg w, if_neg w]
          refine base.trans ⟨fun h j hj hc he hm => ?_, fun h j hj => h j (by omega)⟩
          by_cases y : j = n
          · subst y
            exact absurd hm.symm w
          · exact h j (by omega) hc he hm
      · rw [upN_n q]
        refine ⟨i1, fun z j hj hc => ?_, fun z m v hv => ?_⟩
        · by_cases y : j = n
          · subst y
            exact fun a => q a.symm
          · exact i2 z j (by omega) hc
        · unfold nrL nrH
          rw [if_neg q, if_neg q]
          refine (i3 z m v hv).trans ⟨fun h j hj hc he hm => ?_, fun h j hj => h j (by omega)⟩
          by_cases y : j = n
          · subst y
            exact absurd he.symm q
          · exact h j (by omega) hc he hm
    · have c0 : ¬ cn n = 1 := c
      have e0 : nkB cn SE SA SL SM ((fun _ => 0), LO, HI) (n + 1) = nkB cn SE SA SL SM ((fun _ => 0), LO, HI) n := if_neg c
      rw [e0]
      refine ⟨i1, fun z j hj hc => ?_, fun z m v hv => (i3 z m v hv).trans ⟨fun h j hj hc he hm => ?_, fun h j hj => h j (by omega)⟩⟩
      · by_cases y : j = n
        · subst y
          exact absurd hc c
        · exact i2 z j (by omega) hc
      · by_cases y : j = n
        · subst y
          exact absurd hc c
        · exact h j (by omega) hc he hm
theorem so_1 (h : soP D E cn SE SA SL SM n p m) (hn : cn n = 1 → SA n = m → SL n ≤ hrN E (D 9 (SE n)) p ∧ hrN E (D 9 (SE n)) p ≤ SM n) : soP D E cn SE SA SL SM (n + 1) p m := fun j hj hc hm => by
  by_cases q : j = n
  · subst q
    exact hn hc hm
  · exact h j (by omega) hc hm
theorem so_0 (h : ¬ soP D E cn SE SA SL SM n p m) : ¬ soP D E cn SE SA SL SM (n + 1) p m := fun q => h (fun j hj => q j (by omega))
theorem so_x (hc : cn n = 1) (hm : SA n = m) (h : ¬ (SL n ≤ hrN E (D 9 (SE n)) p ∧ hrN E (D 9 (SE n)) p ≤ SM n)) : ¬ soP D E cn SE SA SL SM (n + 1) p m := fun q => h (q n (Nat.lt_succ_self n) hc hm)
theorem SnR_0 (e : Nat) (f0 f1 f2 f3 : Nat → Int32) : SnR e 0 f0 f1 f2 f3 := fun k hk => absurd hk (Nat.not_lt_zero k)
theorem xr_us {f : Nat → Int32} {a : Nat} (ha : a < 2147483648) : xr (upd f n (nI a)) n = a := by
  show (upd f n (nI a) n).toNatClampNeg = a
  rw [pk_us, nI_clamp ha]
theorem xr_un {f : Nat → Int32} {w : Int32} (h : ¬ k = n) : xr (upd f n w) k = xr f k := by
  show (upd f n w k).toNatClampNeg = (f k).toNatClampNeg
  rw [pk_un h]
theorem SnR_n {er mo le ms : Int32} (h : SnR e n f0 f1 f2 f3) (hs : sOk e n er mo le ms) (he : e ≤ 4) : SnR e (n + 1) (upd f0 n er) (upd f1 n mo) (upd f2 n le) (upd f3 n ms) := by
  obtain ⟨a, b, c, d, h1, h2, h3, h4, h5, h6, h7, h8, h9⟩ := hs
  subst h1 h3 h5 h6
  intro k hk
  by_cases q : k = n
  · subst q
    rw [xr_us (by omega), xr_us (by omega), xr_us (by omega), xr_us (by omega), pk_us, pk_us, pk_us, pk_us]
    exact ⟨⟨rfl, h2⟩, ⟨rfl, h4⟩, rfl, rfl, h7, h8⟩
  · rw [xr_un q, xr_un q, xr_un q, xr_un q, pk_un q, pk_un q, pk_un q, pk_un q]
    exact h k (by omega)
theorem nar_b (h : y ≤ 1) : vp_nar .boolean (nI y) = nI y := by
  rcases (show y = 0 ∨ y = 1 by omega) with rfl | rfl
  · rfl
  · rfl
end NK
/-- costs and what is known -/
theorem coV_0 {ND h : Nat → Nat} {LO HI : Nat → Nat → Nat} {tk m n : Nat} : min 100 (coV ND LO HI h tk m n) = 0 ↔ ∀ e, e < n → ND e = 1 → ctV LO HI e (h e) tk m = 0 := by
  induction n with
  | zero => exact ⟨fun _ e he => absurd he (Nat.not_lt_zero e), fun _ => show min 100 0 = 0 by decide⟩
  | succ n ih =>
    by_cases q : ND n = 1
    · rw [coV_y q]
      constructor
      · intro z e he h1
        by_cases y : e = n
        · rw [y]
          omega
        · exact ih.mp (by omega) e (by omega) h1
      · intro z
        have a := ih.mpr (fun e he => z e (by omega))
        have b := z n (Nat.lt_succ_self n) q
        omega
    · rw [coV_n q]
      refine ih.trans ⟨fun z e he h1 => ?_, fun z e he => z e (by omega)⟩
      by_cases y : e = n
      · rw [y] at h1
        exact absurd h1 q
      · exact z e (by omega) h1
theorem ctV_z {LO HI : Nat → Nat → Nat} {e h tk m : Nat} : ctV LO HI e h tk m = 0 ↔ (∀ k, k < tk - 1 → LO e (m + 1 + k) = 0) ∧ LO e m ≤ h ∧ h ≤ HI e m := by
  unfold ctV
  by_cases q : lqS LO e (m + 1) (tk - 1) = 0 ∧ LO e m ≤ h
  · rw [if_pos q]
    by_cases z : h ≤ HI e m
    · rw [if_pos z]
      exact ⟨fun _ => ⟨lqS_0.mp q.1, q.2, z⟩, fun _ => rfl⟩
    · rw [if_neg z]
      refine ⟨fun y => ?_, fun y => absurd y.2.2 z⟩
      by_cases w : HI e m = 0
      · rw [if_pos w] at y
        exact absurd y (by decide)
      · rw [if_neg w] at y
        exact absurd y (by decide)
  · rw [if_neg q]
    exact ⟨fun y => absurd y (by decide), fun y => absurd ⟨lqS_0.mpr y.1, y.2.1⟩ q⟩
section FZ
variable {D LO HI : Nat → Nat → Nat} {E cn SE SA SL SM : Nat → Nat} {n T s t m : Nat}
/-- a known row's least is nought where silence is as it should be -/
theorem nk_rest (hs : ∀ j, j < n → SM j ≤ 9) {e : Nat} (h1 : (nkB cn SE SA SL SM ((fun _ => 0), LO, HI) n).1 e = 1) : (nkB cn SE SA SL SM ((fun _ => 0), LO, HI) n).2.1 e m = 0 ↔ ∀ j, j < n → cn j = 1 → SE j = e → SA j = m → SL j = 0 := by
  have c := (nkB_ch (cn := cn) (SE := SE) (SA := SA) (SL := SL) (SM := SM) (LO := LO) (HI := HI) hs e).2.2 h1 m
  constructor
  · intro q j hj hc he hm
    have hi := (c 9 (Nat.le_refl 9))
    have z := c 0 (by decide)
    by_cases y : 0 ≤ (nkB cn SE SA SL SM ((fun _ => 0), LO, HI) n).2.2 e m
    · have := z.mp ⟨by omega, y⟩ j hj hc he hm
      omega
    · omega
  · intro q
    have z := (c 0 (by decide)).mpr (fun j hj hc he hm => ⟨by rw [q j hj hc he hm]; exact Nat.le_refl 0, Nat.zero_le _⟩)
    omega
theorem fsC_z (hD : DOk D) (hE : ∀ k, k < D 0 0 → E k ≤ 9) (hs : ∀ j, j < n → SM j ≤ 9 ∧ SE j < D 0 2) (hss : s < D 0 0) (ht : t + D 4 s ≤ T) : fsC D E (nkB cn SE SA SL SM ((fun _ => 0), LO, HI) n).1 (nkB cn SE SA SL SM ((fun _ => 0), LO, HI) n).2.1 (nkB cn SE SA SL SM ((fun _ => 0), LO, HI) n).2.2 T s t = 0 ↔ soP D E cn SE SA SL SM n (s + 1) t ∧ ∀ e, 1 ≤ e → e < D 4 s → soP D E cn SE SA SL SM n 0 (t + e) := by
  have hs9 : ∀ j, j < n → SM j ≤ 9 := fun j hj => (hs j hj).1
  have ch := fun e => nkB_ch (cn := cn) (SE := SE) (SA := SA) (SL := SL) (SM := SM) (LO := LO) (HI := HI) hs9 e
  have rs := fun e m h1 => nk_rest (cn := cn) (SE := SE) (SA := SA) (SL := SL) (SM := SM) (LO := LO) (HI := HI) (m := m) hs9 (e := e) h1
  have e9 := hE s hss
  unfold fsC
  rw [if_pos ht, coV_0]
  constructor
  · intro q
    have one : ∀ j, j < n → cn j = 1 → (nkB cn SE SA SL SM ((fun _ => 0), LO, HI) n).1 (SE j) = 1 := fun j hj hc => by
      have a := (ch (SE j)).1
      have b := (ch (SE j)).2.1
      by_cases z : (nkB cn SE SA SL SM ((fun _ => 0), LO, HI) n).1 (SE j) = 0
      · exact absurd rfl (b z j hj hc)
      · omega
    refine ⟨fun j hj hc hm => ?_, fun e h1 h2 j hj hc hm => ?_⟩
    · have z := ctV_z.mp (q (SE j) (hs j hj).2 (one j hj hc))
      rw [hrN_s]
      exact ((ch (SE j)).2.2 (one j hj hc) t (E s - D 9 (SE j)) (by omega)).mp z.2 j hj hc rfl hm
    · have z := (ctV_z.mp (q (SE j) (hs j hj).2 (one j hj hc))).1 (e - 1) (by omega)
      rw [show t + 1 + (e - 1) = t + e by omega] at z
      rw [hrN_0, (rs _ _ (one j hj hc)).mp z j hj hc rfl hm]
      exact ⟨Nat.le_refl 0, Nat.zero_le _⟩
  · intro q e he h1
    refine ctV_z.mpr ⟨fun k hk => ?_, ?_⟩
    · refine (rs e _ h1).mpr (fun j hj hc hee hm => ?_)
      have z := q.2 (k + 1) (by omega) (by omega) j hj hc (by omega)
      rw [hrN_0] at z
      omega
    · refine ((ch e).2.2 h1 t (E s - D 9 e) (by omega)).mpr (fun j hj hc hee hm => ?_)
      have z := q.1 j hj hc hm
      rw [hrN_s, hee] at z
      exact z
theorem qf_z (hs : ∀ j, j < n → SM j ≤ 9 ∧ SE j < 4) (hT : T ≤ 60) (hA : ∀ j, j < n → SA j < 60) : (∀ e, e < 4 → (nkB cn SE SA SL SM ((fun _ => 0), LO, HI) n).1 e = 1 → lqS (nkB cn SE SA SL SM ((fun _ => 0), LO, HI) n).2.1 e T (60 - T) = 0) ↔ ∀ m, T ≤ m → m < 60 → soP D E cn SE SA SL SM n 0 m := by
  have hs9 : ∀ j, j < n → SM j ≤ 9 := fun j hj => (hs j hj).1
  have ch := fun e => nkB_ch (cn := cn) (SE := SE) (SA := SA) (SL := SL) (SM := SM) (LO := LO) (HI := HI) hs9 e
  have rs := fun e m h1 => nk_rest (cn := cn) (SE := SE) (SA := SA) (SL := SL) (SM := SM) (LO := LO) (HI := HI) (m := m) hs9 (e := e) h1
  constructor
  · intro q m h1 h2 j hj hc hm
    have one : (nkB cn SE SA SL SM ((fun _ => 0), LO, HI) n).1 (SE j) = 1 := by
      have a := (ch (SE j)).1
      have b := (ch (SE j)).2.1
      by_cases z : (nkB cn SE SA SL SM ((fun _ => 0), LO, HI) n).1 (SE j) = 0
      · exact absurd rfl (b z j hj hc)
      · omega
    have z := lqS_0.mp (q (SE j) (hs j hj).2 one) (m - T) (by omega)
    rw [show T + (m - T) = m by omega] at z
    rw [hrN_0, (rs _ _ one).mp z j hj hc rfl hm]
    exact ⟨Nat.le_refl 0, Nat.zero_le _⟩
  · intro q e he h1
    refine lqS_0.mpr (fun k hk => (rs e _ h1).mpr (fun j hj hc hee hm => ?_))
    have z := q (T + k) (by omega) (by omega) j hj hc hm
    rw [hrN_0] at z
    omega
end FZ
set_option maxHeartbeats 4000000 in
set_option maxRecDepth 100000 in
theorem s_X8_narrowAsKnownF (lau : Launch) (gg : va_G) (kA : Nat → ClassId) (z : Nat) (d : Nat) (kn : Int32) (z0 : Nat) (z1 : Nat) (z2 : Nat) (z3 : Nat) (z4 : Nat) (z5 : Nat) (zn : Nat) (zf0 : Nat → Int32) (zf1 : Nat → Int32) (zf2 : Nat → Int32) (zf3 : Nat → Int32) (zf4 : Nat → Int32) (zf5 : Nat → Int32) (d0 : Nat) (d1 : Nat) (d2 : Nat) (dls : Nat → Nat → Int32) (dms : Nat → Nat → Int32) (dnd : Nat → Int32) (ND : Nat → Nat) (LO : Nat → Nat → Nat) (HI : Nat → Nat → Nat) (hzn : zn ≤ 30) (hbd : BdV ND LO HI dnd dls dms) (hsn9 : SnR 4 zn zf0 zf1 zf2 zf3) : CtV lau yX8_narrowAsKnown cX8_narrowAsKnown 5 (none) 3 0 0 gg kA [.ref z, .ref d, .int kn] (mflat [(z, .inl (.inr (8, [.ref z0, .ref z1, .ref z2, .ref z3, .ref z4, .ref z5, .int (nI zn)]))), (z0, .inl (.inl (kA 1, 30, .inl zf0))), (z1, .inl (.inl (kA 1, 30, .inl zf1))), (z2, .inl (.inl (kA 1, 30, .inl zf2))), (z3, .inl (.inl (kA 1, 30, .inl zf3))), (z4, .inl (.inl (kA 1, 30, .inl zf4))), (z5, .inl (.inl (kA 1, 30, .inl zf5))), (d, .inl (.inr (0, [.ref d0, .ref d1, .ref d2]))), (d0, .inr (kA 6, kA 1, 4, 60, .inl dls)), (d1, .inr (kA 6, kA 1, 4, 60, .inl dms)), (d2, .inl (.inl (kA 3, 4, .inl dnd)))]) (S := (Nat → Nat → Int32) × (Nat → Nat → Int32) × (Nat → Int32)) (fun ((y_d0, y_d1, y_d2) : (Nat → Nat → Int32) × (Nat → Nat → Int32) × (Nat → Int32)) => BdV (nkB (cnF zf4 zf5 kn) (xr zf0) (xr zf1) (xr zf2) (xr zf3) (ND, LO, HI) zn).1 (nkB (cnF zf4 zf5 kn) (xr zf0) (xr zf1) (xr zf2) (xr zf3) (ND, LO, HI) zn).2.1 (nkB (cnF zf4 zf5 kn) (xr zf0) (xr zf1) (xr zf2) (xr zf3) (ND, LO, HI) zn).2.2 y_d2 y_d0 y_d1) (fun ((y_d0, y_d1, y_d2) : (Nat → Nat → Int32) × (Nat → Nat → Int32) × (Nat → Int32)) => mflat [(z, .inl (.inr (8, [.ref z0, .ref z1, .ref z2, .ref z3, .ref z4, .ref z5, .int (nI zn)]))), (z0, .inl (.inl (kA 1, 30, .inl zf0))), (z1, .inl (.inl (kA 1, 30, .inl zf1))), (z2, .inl (.inl (kA 1, 30, .inl zf2))), (z3, .inl (.inl (kA 1, 30, .inl zf3))), (z4, .inl (.inl (kA 1, 30, .inl zf4))), (z5, .inl (.inl (kA 1, 30, .inl zf5))), (d, .inl (.inr (0, [.ref d0, .ref d1, .ref d2]))), (d0, .inr (kA 6, kA 1, 4, 60, .inl y_d0)), (d1, .inr (kA 6, kA 1, 4, 60, .inl y_d1)), (d2, .inl (.inl (kA 3, 4, .inl y_d2)))]) := by
  refine nx_startV (by decide +kernel) (Nat.le_of_ble_eq_true rfl) ?_
  intro x hnm h hq
  have h : Ok x cX8_narrowAsKnown RX8 kA (rmC 3 0 0) 5 := h
  show J x (mflat [(z, .inl (.inr (8, [.ref z0, .ref z1, .ref z2, .ref z3, .ref z4, .ref z5, .int (nI zn)]))), (z0, .inl (.inl (kA 1, 30, .inl zf0))), (z1, .inl (.inl (kA 1, 30, .inl zf1))), (z2, .inl (.inl (kA 1, 30, .inl zf2))), (z3, .inl (.inl (kA 1, 30, .inl zf3))), (z4, .inl (.inl (kA 1, 30, .inl zf4))), (z5, .inl (.inl (kA 1, 30, .inl zf5))), (d, .inl (.inr (0, [.ref d0, .ref d1, .ref d2]))), (d0, .inr (kA 6, kA 1, 4, 60, .inl dls)), (d1, .inr (kA 6, kA 1, 4, 60, .inl dms)), (d2, .inl (.inl (kA 3, 4, .inl dnd)))]) [(0, .ref z), (1, .ref d), (2, .int kn)] 0 0 0 []
  refine j_iconst (v := 0) h (by decide) dX8_narrowAsKnown_0 ?_
  refine j_istore_n (lv' := [(3, .int 0), (0, .ref z), (1, .ref d), (2, .int kn)]) h dX8_narrowAsKnown_1 rfl (by decide) rfl ?_
  have lp2_86006 : ∀ (m2_86006 : Nat), ∀ (v3_2_86006 : Nat) (fd0_2_86006 : Nat → Nat → Int32) (fd1_2_86006 : Nat → Nat → Int32) (fd2_2_86006 : Nat → Int32), (BdV (nkB (cnF zf4 zf5 kn) (xr zf0) (xr zf1) (xr zf2) (xr zf3) (ND, LO, HI) v3_2_86006).1 (nkB (cnF zf4 zf5 kn) (xr zf0) (xr zf1) (xr zf2) (xr zf3) (ND, LO, HI) v3_2_86006).2.1 (nkB (cnF zf4 zf5 kn) (xr zf0) (xr zf1) (xr zf2) (xr zf3) (ND, LO, HI) v3_2_86006).2.2 fd2_2_86006 fd0_2_86006 fd1_2_86006) → (v3_2_86006 ≤ zn) → (v3_2_86006 ≤ 100000) → zn - v3_2_86006 < m2_86006 → J x (mflat [(z, .inl (.inr (8, [.ref z0, .ref z1, .ref z2, .ref z3, .ref z4, .ref z5, .int (nI zn)]))), (z0, .inl (.inl (kA 1, 30, .inl zf0))), (z1, .inl (.inl (kA 1, 30, .inl zf1))), (z2, .inl (.inl (kA 1, 30, .inl zf2))), (z3, .inl (.inl (kA 1, 30, .inl zf3))), (z4, .inl (.inl (kA 1, 30, .inl zf4))), (z5, .inl (.inl (kA 1, 30, .inl zf5))), (d, .inl (.inr (0, [.ref d0, .ref d1, .ref d2]))), (d0, .inr (kA 6, kA 1, 4, 60, .inl fd0_2_86006)), (d1, .inr (kA 6, kA 1, 4, 60, .inl fd1_2_86006)), (d2, .inl (.inl (kA 3, 4, .inl fd2_2_86006)))]) [(3, .int (nI v3_2_86006)), (0, .ref z), (1, .ref d), (2, .int kn)] 0 0 2 [] := by
    intro m2_86006
    induction m2_86006 with
    | zero =>
      intro v3_2_86006 fd0_2_86006 fd1_2_86006 fd2_2_86006 i2_86006_0 i2_86006_1 i2_86006_2 hm2_86006
      exact absurd hm2_86006 (Nat.not_lt_zero _)
    | succ m2_86006 ih2_86006 =>
      intro v3_2_86006 fd0_2_86006 fd1_2_86006 fd2_2_86006 i2_86006_0 i2_86006_1 i2_86006_2 hm2_86006
      refine j_iload_n h 0 rfl rfl dX8_narrowAsKnown_2 ?_
      refine j_aload_n h 1 rfl rfl dX8_narrowAsKnown_3 ?_
      refine jm_get h iw_X8 0 rfl rfl 6 (by decide +kernel) tw_333 rfl dX8_narrowAsKnown_4 ?_
      refine j_icmp_ge h 87 dX8_narrowAsKnown_7 (by decide) (fun z860131 => ?_) (fun z860131 => ?_)
      · have z860131n : zn ≤ v3_2_86006 := (nI_leI (a := zn) (b := v3_2_86006) (by omega) (by omega)).mp z860131
        exact jm_vret h hq dX8_narrowAsKnown_87 (fd0_2_86006, fd1_2_86006, fd2_2_86006) [0, 1, 2, 3, 4, 5, 6, 7, 8, 9, 10] rfl (by decide) (show BdV (nkB (cnF zf4 zf5 kn) (xr zf0) (xr zf1) (xr zf2) (xr zf3) (ND, LO, HI) zn).1 (nkB (cnF zf4 zf5 kn) (xr zf0) (xr zf1) (xr zf2) (xr zf3) (ND, LO, HI) zn).2.1 (nkB (cnF zf4 zf5 kn) (xr zf0) (xr zf1) (xr zf2) (xr zf3) (ND, LO, HI) zn).2.2 fd2_2_86006 fd0_2_86006 fd1_2_86006 from (show v3_2_86006 = zn by omega) ▸ i2_86006_0) (Nat.le_of_ble_eq_true rfl) (Nat.le_of_ble_eq_true rfl)
      · have z860131n : ¬ zn ≤ v3_2_86006 := fun q9 => z860131 ((nI_leI (a := zn) (b := v3_2_86006) (by omega) (by omega)).mpr q9)
        refine j_aload_n h 1 rfl rfl dX8_narrowAsKnown_10 ?_
        refine jm_get h iw_X8 0 rfl rfl 5 (by decide +kernel) tw_332 rfl dX8_narrowAsKnown_11 ?_
        refine j_iload_n h 0 rfl rfl dX8_narrowAsKnown_14 ?_
        refine jm_iald h 6 rfl v3_2_86006 rfl (by omega) (by omega) dX8_narrowAsKnown_15 ?_
        refine j_ldc h tw_1076 dX8_narrowAsKnown_16 ?_
        refine j_icmp_eq h 35 dX8_narrowAsKnown_18 (by decide) (fun z860132 => ?_) (fun z860132 => ?_)
        · show J x (mflat [(z, .inl (.inr (8, [.ref z0, .ref z1, .ref z2, .ref z3, .ref z4, .ref z5, .int (nI zn)]))), (z0, .inl (.inl (kA 1, 30, .inl zf0))), (z1, .inl (.inl (kA 1, 30, .inl zf1))), (z2, .inl (.inl (kA 1, 30, .inl zf2))), (z3, .inl (.inl (kA 1, 30, .inl zf3))), (z4, .inl (.inl (kA 1, 30, .inl zf4))), (z5, .inl (.inl (kA 1, 30, .inl zf5))), (d, .inl (.inr (0, [.ref d0, .ref d1, .ref d2]))), (d0, .inr (kA 6, kA 1, 4, 60, .inl fd0_2_86006)), (d1, .inr (kA 6, kA 1, 4, 60, .inl fd1_2_86006)), (d2, .inl (.inl (kA 3, 4, .inl fd2_2_86006)))]) [(3, .int (nI v3_2_86006)), (0, .ref z), (1, .ref d), (2, .int kn)] 0 0 35 []
          refine j_iconst (v := 0) h (by decide) dX8_narrowAsKnown_35 ?_
          refine j_istore (lv' := [(4, .int 0), (3, .int (nI v3_2_86006)), (0, .ref z), (1, .ref d), (2, .int kn)]) h dX8_narrowAsKnown_36 (by decide) rfl ?_
          refine j_aload_n h 2 rfl rfl dX8_narrowAsKnown_38 ?_
          refine jm_get h iw_X8 0 rfl rfl 4 (by decide +kernel) tw_331 rfl dX8_narrowAsKnown_39 ?_
          refine j_iload_n h 1 rfl rfl dX8_narrowAsKnown_42 ?_
          refine jm_iald h 5 rfl v3_2_86006 rfl (by omega) (by omega) dX8_narrowAsKnown_43 ?_
          refine j_iload_n h 4 rfl rfl dX8_narrowAsKnown_44 ?_
          refine j_icmp_gt h 81 dX8_narrowAsKnown_45 (by decide) (fun z860133 => ?_) (fun z860133 => ?_)
          · show J x (mflat [(z, .inl (.inr (8, [.ref z0, .ref z1, .ref z2, .ref z3, .ref z4, .ref z5, .int (nI zn)]))), (z0, .inl (.inl (kA 1, 30, .inl zf0))), (z1, .inl (.inl (kA 1, 30, .inl zf1))), (z2, .inl (.inl (kA 1, 30, .inl zf2))), (z3, .inl (.inl (kA 1, 30, .inl zf3))), (z4, .inl (.inl (kA 1, 30, .inl zf4))), (z5, .inl (.inl (kA 1, 30, .inl zf5))), (d, .inl (.inr (0, [.ref d0, .ref d1, .ref d2]))), (d0, .inr (kA 6, kA 1, 4, 60, .inl fd0_2_86006)), (d1, .inr (kA 6, kA 1, 4, 60, .inl fd1_2_86006)), (d2, .inl (.inl (kA 3, 4, .inl fd2_2_86006)))]) [(4, .int 0), (3, .int (nI v3_2_86006)), (0, .ref z), (1, .ref d), (2, .int kn)] 0 0 81 []
            refine j_iinc (v := nI (v3_2_86006 + 1)) (lv' := [(3, .int (nI (v3_2_86006 + 1))), (4, .int 0), (0, .ref z), (1, .ref d), (2, .int kn)]) h dX8_narrowAsKnown_81 1 rfl (nI_add v3_2_86006 1) (by decide) rfl ?_
            refine j_goto h 2 dX8_narrowAsKnown_84 (by decide) ?_
            refine jm_sub [0, 1, 2, 3, 4, 5, 6, 7, 8, 9, 10] (w' := [(z, .inl (.inr (8, [.ref z0, .ref z1, .ref z2, .ref z3, .ref z4, .ref z5, .int (nI zn)]))), (z0, .inl (.inl (kA 1, 30, .inl zf0))), (z1, .inl (.inl (kA 1, 30, .inl zf1))), (z2, .inl (.inl (kA 1, 30, .inl zf2))), (z3, .inl (.inl (kA 1, 30, .inl zf3))), (z4, .inl (.inl (kA 1, 30, .inl zf4))), (z5, .inl (.inl (kA 1, 30, .inl zf5))), (d, .inl (.inr (0, [.ref d0, .ref d1, .ref d2]))), (d0, .inr (kA 6, kA 1, 4, 60, .inl fd0_2_86006)), (d1, .inr (kA 6, kA 1, 4, 60, .inl fd1_2_86006)), (d2, .inl (.inl (kA 3, 4, .inl fd2_2_86006)))]) rfl (by decide +kernel) [0, 2, 3, 4] (lv' := [(3, .int (nI (v3_2_86006 + 1))), (0, .ref z), (1, .ref d), (2, .int kn)]) rfl ?_
            exact ih2_86006 (v3_2_86006 + 1) fd0_2_86006 fd1_2_86006 fd2_2_86006 (show BdV (nkB (cnF zf4 zf5 kn) (xr zf0) (xr zf1) (xr zf2) (xr zf3) (ND, LO, HI) (v3_2_86006 + 1)).1 (nkB (cnF zf4 zf5 kn) (xr zf0) (xr zf1) (xr zf2) (xr zf3) (ND, LO, HI) (v3_2_86006 + 1)).2.1 (nkB (cnF zf4 zf5 kn) (xr zf0) (xr zf1) (xr zf2) (xr zf3) (ND, LO, HI) (v3_2_86006 + 1)).2.2 fd2_2_86006 fd0_2_86006 fd1_2_86006 from (by rw [nkB_n (by first | exact cn_t z860133)]; exact i2_86006_0)) (show (v3_2_86006 + 1) ≤ zn by first | assumption | omega) (show (v3_2_86006 + 1) ≤ 100000 by first | assumption | omega) (show zn - (v3_2_86006 + 1) < m2_86006 by omega)
          · show J x (mflat [(z, .inl (.inr (8, [.ref z0, .ref z1, .ref z2, .ref z3, .ref z4, .ref z5, .int (nI zn)]))), (z0, .inl (.inl (kA 1, 30, .inl zf0))), (z1, .inl (.inl (kA 1, 30, .inl zf1))), (z2, .inl (.inl (kA 1, 30, .inl zf2))), (z3, .inl (.inl (kA 1, 30, .inl zf3))), (z4, .inl (.inl (kA 1, 30, .inl zf4))), (z5, .inl (.inl (kA 1, 30, .inl zf5))), (d, .inl (.inr (0, [.ref d0, .ref d1, .ref d2]))), (d0, .inr (kA 6, kA 1, 4, 60, .inl fd0_2_86006)), (d1, .inr (kA 6, kA 1, 4, 60, .inl fd1_2_86006)), (d2, .inl (.inl (kA 3, 4, .inl fd2_2_86006)))]) [(4, .int 0), (3, .int (nI v3_2_86006)), (0, .ref z), (1, .ref d), (2, .int kn)] 0 0 48 []
            refine j_iload h 0 rfl dX8_narrowAsKnown_48 ?_
            refine j_if_ne h 81 dX8_narrowAsKnown_50 (by decide) (fun q => absurd (by decide) q) (fun _ => ?_)
            refine j_aload_n h 3 rfl rfl dX8_narrowAsKnown_53 ?_
            refine j_aload_n h 2 rfl rfl dX8_narrowAsKnown_54 ?_
            refine jm_get h iw_X8 0 rfl rfl 0 (by decide +kernel) tw_327 rfl dX8_narrowAsKnown_55 ?_
            refine j_iload_n h 1 rfl rfl dX8_narrowAsKnown_58 ?_
            refine jm_iald h 1 rfl v3_2_86006 rfl (by omega) (by omega) dX8_narrowAsKnown_59 ?_
            have u860134 := hsn9 v3_2_86006 (by omega)
            refine j_top (b := nI (xr zf0 v3_2_86006)) ((hsn9 v3_2_86006 (by omega)).1.1) ?_
            refine j_aload_n h 2 rfl rfl dX8_narrowAsKnown_60 ?_
            refine jm_get h iw_X8 0 rfl rfl 1 (by decide +kernel) tw_328 rfl dX8_narrowAsKnown_61 ?_
            refine j_iload_n h 1 rfl rfl dX8_narrowAsKnown_64 ?_
            refine jm_iald h 2 rfl v3_2_86006 rfl (by omega) (by omega) dX8_narrowAsKnown_65 ?_
            have u860135 := hsn9 v3_2_86006 (by omega)
            refine j_top (b := nI (xr zf1 v3_2_86006)) ((hsn9 v3_2_86006 (by omega)).2.1.1) ?_
            refine j_aload_n h 2 rfl rfl dX8_narrowAsKnown_66 ?_
            refine jm_get h iw_X8 0 rfl rfl 2 (by decide +kernel) tw_329 rfl dX8_narrowAsKnown_67 ?_
            refine j_iload_n h 1 rfl rfl dX8_narrowAsKnown_70 ?_
            refine jm_iald h 3 rfl v3_2_86006 rfl (by omega) (by omega) dX8_narrowAsKnown_71 ?_
            have u860136 := hsn9 v3_2_86006 (by omega)
            refine j_top (b := nI (xr zf2 v3_2_86006)) ((hsn9 v3_2_86006 (by omega)).2.2.1) ?_
            refine j_aload_n h 2 rfl rfl dX8_narrowAsKnown_72 ?_
            refine jm_get h iw_X8 0 rfl rfl 3 (by decide +kernel) tw_330 rfl dX8_narrowAsKnown_73 ?_
            refine j_iload_n h 1 rfl rfl dX8_narrowAsKnown_76 ?_
            refine jm_iald h 4 rfl v3_2_86006 rfl (by omega) (by omega) dX8_narrowAsKnown_77 ?_
            have u860137 := hsn9 v3_2_86006 (by omega)
            refine j_top (b := nI (xr zf3 v3_2_86006)) ((hsn9 v3_2_86006 (by omega)).2.2.2.1) ?_
            refine jm_callVv (np := 4) (isC := [7, 8, 9, 10]) (isR := [0, 1, 2, 3, 4, 5, 6]) (wc := [(d, .inl (.inr (0, [.ref d0, .ref d1, .ref d2]))), (d0, .inr (kA 6, kA 1, 4, 60, .inl fd0_2_86006)), (d1, .inr (kA 6, kA 1, 4, 60, .inl fd1_2_86006)), (d2, .inl (.inl (kA 3, 4, .inl fd2_2_86006)))]) (wr := [(z, .inl (.inr (8, [.ref z0, .ref z1, .ref z2, .ref z3, .ref z4, .ref z5, .int (nI zn)]))), (z0, .inl (.inl (kA 1, 30, .inl zf0))), (z1, .inl (.inl (kA 1, 30, .inl zf1))), (z2, .inl (.inl (kA 1, 30, .inl zf2))), (z3, .inl (.inl (kA 1, 30, .inl zf3))), (z4, .inl (.inl (kA 1, 30, .inl zf4))), (z5, .inl (.inl (kA 1, 30, .inl zf5)))]) (rest := []) (As := [.int (nI (xr zf0 v3_2_86006)), .int (nI (xr zf1 v3_2_86006)), .int (nI (xr zf2 v3_2_86006)), .int (nI (xr zf3 v3_2_86006))]) (q0 := 0) h (s_X0_narrowF _ _ kA d (xr zf0 v3_2_86006) (xr zf1 v3_2_86006) (xr zf2 v3_2_86006) (xr zf3 v3_2_86006) d0 d1 d2 fd0_2_86006 fd1_2_86006 fd2_2_86006 ((nkB (cnF zf4 zf5 kn) (xr zf0) (xr zf1) (xr zf2) (xr zf3) (ND, LO, HI) v3_2_86006).1) ((nkB (cnF zf4 zf5 kn) (xr zf0) (xr zf1) (xr zf2) (xr zf3) (ND, LO, HI) v3_2_86006).2.1) ((nkB (cnF zf4 zf5 kn) (xr zf0) (xr zf1) (xr zf2) (xr zf3) (ND, LO, HI) v3_2_86006).2.2) (show BdV ((nkB (cnF zf4 zf5 kn) (xr zf0) (xr zf1) (xr zf2) (xr zf3) (ND, LO, HI) v3_2_86006).1) ((nkB (cnF zf4 zf5 kn) (xr zf0) (xr zf1) (xr zf2) (xr zf3) (ND, LO, HI) v3_2_86006).2.1) ((nkB (cnF zf4 zf5 kn) (xr zf0) (xr zf1) (xr zf2) (xr zf3) (ND, LO, HI) v3_2_86006).2.2) fd2_2_86006 fd0_2_86006 fd1_2_86006 from i2_86006_0) (show (xr zf0 v3_2_86006) < 4 by first | assumption | omega) (show (xr zf1 v3_2_86006) < 60 by first | assumption | omega) (show (xr zf2 v3_2_86006) ≤ 9 by first | assumption | omega) (show (xr zf3 v3_2_86006) ≤ 9 by first | assumption | omega)) tw_1102 tw_825 tw_826 tw_94 tw_827 (by decide +kernel) rfl ⟨Nat.le_of_ble_eq_true rfl, Nat.le_of_ble_eq_true rfl⟩ rfl rfl (by decide +kernel) rfl rfl (by decide +kernel) (by decide +kernel) (Nat.le_of_ble_eq_true rfl) rfl ⟨Nat.le_of_ble_eq_true rfl, Nat.le_of_ble_eq_true rfl⟩ dX8_narrowAsKnown_78 ?_
            rintro ⟨q860138, q860139, q860140⟩ e860141
            have p860143 := e860141
            replace p860143 : BdV (upN ((nkB (cnF zf4 zf5 kn) (xr zf0) (xr zf1) (xr zf2) (xr zf3) (ND, LO, HI) v3_2_86006).1) (xr zf0 v3_2_86006) 1) (nrL ((nkB (cnF zf4 zf5 kn) (xr zf0) (xr zf1) (xr zf2) (xr zf3) (ND, LO, HI) v3_2_86006).1) ((nkB (cnF zf4 zf5 kn) (xr zf0) (xr zf1) (xr zf2) (xr zf3) (ND, LO, HI) v3_2_86006).2.1) (xr zf0 v3_2_86006) (xr zf1 v3_2_86006) (xr zf2 v3_2_86006)) (nrH ((nkB (cnF zf4 zf5 kn) (xr zf0) (xr zf1) (xr zf2) (xr zf3) (ND, LO, HI) v3_2_86006).1) ((nkB (cnF zf4 zf5 kn) (xr zf0) (xr zf1) (xr zf2) (xr zf3) (ND, LO, HI) v3_2_86006).2.2) (xr zf0 v3_2_86006) (xr zf1 v3_2_86006) (xr zf3 v3_2_86006)) q860140 q860138 q860139 := p860143
            show J x (mflat [(z, .inl (.inr (8, [.ref z0, .ref z1, .ref z2, .ref z3, .ref z4, .ref z5, .int (nI zn)]))), (z0, .inl (.inl (kA 1, 30, .inl zf0))), (z1, .inl (.inl (kA 1, 30, .inl zf1))), (z2, .inl (.inl (kA 1, 30, .inl zf2))), (z3, .inl (.inl (kA 1, 30, .inl zf3))), (z4, .inl (.inl (kA 1, 30, .inl zf4))), (z5, .inl (.inl (kA 1, 30, .inl zf5))), (d, .inl (.inr (0, [.ref d0, .ref d1, .ref d2]))), (d0, .inr (kA 6, kA 1, 4, 60, .inl q860138)), (d1, .inr (kA 6, kA 1, 4, 60, .inl q860139)), (d2, .inl (.inl (kA 3, 4, .inl q860140)))]) [(4, .int 0), (3, .int (nI v3_2_86006)), (0, .ref z), (1, .ref d), (2, .int kn)] 0 0 81 []
            refine j_iinc (v := nI (v3_2_86006 + 1)) (lv' := [(3, .int (nI (v3_2_86006 + 1))), (4, .int 0), (0, .ref z), (1, .ref d), (2, .int kn)]) h dX8_narrowAsKnown_81 1 rfl (nI_add v3_2_86006 1) (by decide) rfl ?_
            refine j_goto h 2 dX8_narrowAsKnown_84 (by decide) ?_
            refine jm_sub [0, 1, 2, 3, 4, 5, 6, 7, 8, 9, 10] (w' := [(z, .inl (.inr (8, [.ref z0, .ref z1, .ref z2, .ref z3, .ref z4, .ref z5, .int (nI zn)]))), (z0, .inl (.inl (kA 1, 30, .inl zf0))), (z1, .inl (.inl (kA 1, 30, .inl zf1))), (z2, .inl (.inl (kA 1, 30, .inl zf2))), (z3, .inl (.inl (kA 1, 30, .inl zf3))), (z4, .inl (.inl (kA 1, 30, .inl zf4))), (z5, .inl (.inl (kA 1, 30, .inl zf5))), (d, .inl (.inr (0, [.ref d0, .ref d1, .ref d2]))), (d0, .inr (kA 6, kA 1, 4, 60, .inl q860138)), (d1, .inr (kA 6, kA 1, 4, 60, .inl q860139)), (d2, .inl (.inl (kA 3, 4, .inl q860140)))]) rfl (by decide +kernel) [0, 2, 3, 4] (lv' := [(3, .int (nI (v3_2_86006 + 1))), (0, .ref z), (1, .ref d), (2, .int kn)]) rfl ?_
            exact ih2_86006 (v3_2_86006 + 1) q860138 q860139 q860140 (show BdV (nkB (cnF zf4 zf5 kn) (xr zf0) (xr zf1) (xr zf2) (xr zf3) (ND, LO, HI) (v3_2_86006 + 1)).1 (nkB (cnF zf4 zf5 kn) (xr zf0) (xr zf1) (xr zf2) (xr zf3) (ND, LO, HI) (v3_2_86006 + 1)).2.1 (nkB (cnF zf4 zf5 kn) (xr zf0) (xr zf1) (xr zf2) (xr zf3) (ND, LO, HI) (v3_2_86006 + 1)).2.2 q860140 q860138 q860139 from (by rw [nkB_y (cn_1 z860133 (Or.inl z860132))]; exact p860143)) (show (v3_2_86006 + 1) ≤ zn by first | assumption | omega) (show (v3_2_86006 + 1) ≤ 100000 by first | assumption | omega) (show zn - (v3_2_86006 + 1) < m2_86006 by omega)
        · show J x (mflat [(z, .inl (.inr (8, [.ref z0, .ref z1, .ref z2, .ref z3, .ref z4, .ref z5, .int (nI zn)]))), (z0, .inl (.inl (kA 1, 30, .inl zf0))), (z1, .inl (.inl (kA 1, 30, .inl zf1))), (z2, .inl (.inl (kA 1, 30, .inl zf2))), (z3, .inl (.inl (kA 1, 30, .inl zf3))), (z4, .inl (.inl (kA 1, 30, .inl zf4))), (z5, .inl (.inl (kA 1, 30, .inl zf5))), (d, .inl (.inr (0, [.ref d0, .ref d1, .ref d2]))), (d0, .inr (kA 6, kA 1, 4, 60, .inl fd0_2_86006)), (d1, .inr (kA 6, kA 1, 4, 60, .inl fd1_2_86006)), (d2, .inl (.inl (kA 3, 4, .inl fd2_2_86006)))]) [(3, .int (nI v3_2_86006)), (0, .ref z), (1, .ref d), (2, .int kn)] 0 0 21 []
          refine j_aload_n h 1 rfl rfl dX8_narrowAsKnown_21 ?_
          refine jm_get h iw_X8 0 rfl rfl 5 (by decide +kernel) tw_332 rfl dX8_narrowAsKnown_22 ?_
          refine j_iload_n h 0 rfl rfl dX8_narrowAsKnown_25 ?_
          refine jm_iald h 6 rfl v3_2_86006 rfl (by omega) (by omega) dX8_narrowAsKnown_26 ?_
          refine j_iload_n h 3 rfl rfl dX8_narrowAsKnown_27 ?_
          refine j_icmp_gt h 35 dX8_narrowAsKnown_28 (by decide) (fun z860144 => ?_) (fun z860144 => ?_)
          · show J x (mflat [(z, .inl (.inr (8, [.ref z0, .ref z1, .ref z2, .ref z3, .ref z4, .ref z5, .int (nI zn)]))), (z0, .inl (.inl (kA 1, 30, .inl zf0))), (z1, .inl (.inl (kA 1, 30, .inl zf1))), (z2, .inl (.inl (kA 1, 30, .inl zf2))), (z3, .inl (.inl (kA 1, 30, .inl zf3))), (z4, .inl (.inl (kA 1, 30, .inl zf4))), (z5, .inl (.inl (kA 1, 30, .inl zf5))), (d, .inl (.inr (0, [.ref d0, .ref d1, .ref d2]))), (d0, .inr (kA 6, kA 1, 4, 60, .inl fd0_2_86006)), (d1, .inr (kA 6, kA 1, 4, 60, .inl fd1_2_86006)), (d2, .inl (.inl (kA 3, 4, .inl fd2_2_86006)))]) [(3, .int (nI v3_2_86006)), (0, .ref z), (1, .ref d), (2, .int kn)] 0 0 35 []
            refine j_iconst (v := 0) h (by decide) dX8_narrowAsKnown_35 ?_
            refine j_istore (lv' := [(4, .int 0), (3, .int (nI v3_2_86006)), (0, .ref z), (1, .ref d), (2, .int kn)]) h dX8_narrowAsKnown_36 (by decide) rfl ?_
            refine j_aload_n h 2 rfl rfl dX8_narrowAsKnown_38 ?_
            refine jm_get h iw_X8 0 rfl rfl 4 (by decide +kernel) tw_331 rfl dX8_narrowAsKnown_39 ?_
            refine j_iload_n h 1 rfl rfl dX8_narrowAsKnown_42 ?_
            refine jm_iald h 5 rfl v3_2_86006 rfl (by omega) (by omega) dX8_narrowAsKnown_43 ?_
            refine j_iload_n h 4 rfl rfl dX8_narrowAsKnown_44 ?_
            refine j_icmp_gt h 81 dX8_narrowAsKnown_45 (by decide) (fun z860145 => ?_) (fun z860145 => ?_)
            · show J x (mflat [(z, .inl (.inr (8, [.ref z0, .ref z1, .ref z2, .ref z3, .ref z4, .ref z5, .int (nI zn)]))), (z0, .inl (.inl (kA 1, 30, .inl zf0))), (z1, .inl (.inl (kA 1, 30, .inl zf1))), (z2, .inl (.inl (kA 1, 30, .inl zf2))), (z3, .inl (.inl (kA 1, 30, .inl zf3))), (z4, .inl (.inl (kA 1, 30, .inl zf4))), (z5, .inl (.inl (kA 1, 30, .inl zf5))), (d, .inl (.inr (0, [.ref d0, .ref d1, .ref d2]))), (d0, .inr (kA 6, kA 1, 4, 60, .inl fd0_2_86006)), (d1, .inr (kA 6, kA 1, 4, 60, .inl fd1_2_86006)), (d2, .inl (.inl (kA 3, 4, .inl fd2_2_86006)))]) [(4, .int 0), (3, .int (nI v3_2_86006)), (0, .ref z), (1, .ref d), (2, .int kn)] 0 0 81 []
              refine j_iinc (v := nI (v3_2_86006 + 1)) (lv' := [(3, .int (nI (v3_2_86006 + 1))), (4, .int 0), (0, .ref z), (1, .ref d), (2, .int kn)]) h dX8_narrowAsKnown_81 1 rfl (nI_add v3_2_86006 1) (by decide) rfl ?_
              refine j_goto h 2 dX8_narrowAsKnown_84 (by decide) ?_
              refine jm_sub [0, 1, 2, 3, 4, 5, 6, 7, 8, 9, 10] (w' := [(z, .inl (.inr (8, [.ref z0, .ref z1, .ref z2, .ref z3, .ref z4, .ref z5, .int (nI zn)]))), (z0, .inl (.inl (kA 1, 30, .inl zf0))), (z1, .inl (.inl (kA 1, 30, .inl zf1))), (z2, .inl (.inl (kA 1, 30, .inl zf2))), (z3, .inl (.inl (kA 1, 30, .inl zf3))), (z4, .inl (.inl (kA 1, 30, .inl zf4))), (z5, .inl (.inl (kA 1, 30, .inl zf5))), (d, .inl (.inr (0, [.ref d0, .ref d1, .ref d2]))), (d0, .inr (kA 6, kA 1, 4, 60, .inl fd0_2_86006)), (d1, .inr (kA 6, kA 1, 4, 60, .inl fd1_2_86006)), (d2, .inl (.inl (kA 3, 4, .inl fd2_2_86006)))]) rfl (by decide +kernel) [0, 2, 3, 4] (lv' := [(3, .int (nI (v3_2_86006 + 1))), (0, .ref z), (1, .ref d), (2, .int kn)]) rfl ?_
              exact ih2_86006 (v3_2_86006 + 1) fd0_2_86006 fd1_2_86006 fd2_2_86006 (show BdV (nkB (cnF zf4 zf5 kn) (xr zf0) (xr zf1) (xr zf2) (xr zf3) (ND, LO, HI) (v3_2_86006 + 1)).1 (nkB (cnF zf4 zf5 kn) (xr zf0) (xr zf1) (xr zf2) (xr zf3) (ND, LO, HI) (v3_2_86006 + 1)).2.1 (nkB (cnF zf4 zf5 kn) (xr zf0) (xr zf1) (xr zf2) (xr zf3) (ND, LO, HI) (v3_2_86006 + 1)).2.2 fd2_2_86006 fd0_2_86006 fd1_2_86006 from (by rw [nkB_n (by first | exact cn_t z860145 | exact cn_u z860145 z860132 z860144)]; exact i2_86006_0)) (show (v3_2_86006 + 1) ≤ zn by first | assumption | omega) (show (v3_2_86006 + 1) ≤ 100000 by first | assumption | omega) (show zn - (v3_2_86006 + 1) < m2_86006 by omega)
            · show J x (mflat [(z, .inl (.inr (8, [.ref z0, .ref z1, .ref z2, .ref z3, .ref z4, .ref z5, .int (nI zn)]))), (z0, .inl (.inl (kA 1, 30, .inl zf0))), (z1, .inl (.inl (kA 1, 30, .inl zf1))), (z2, .inl (.inl (kA 1, 30, .inl zf2))), (z3, .inl (.inl (kA 1, 30, .inl zf3))), (z4, .inl (.inl (kA 1, 30, .inl zf4))), (z5, .inl (.inl (kA 1, 30, .inl zf5))), (d, .inl (.inr (0, [.ref d0, .ref d1, .ref d2]))), (d0, .inr (kA 6, kA 1, 4, 60, .inl fd0_2_86006)), (d1, .inr (kA 6, kA 1, 4, 60, .inl fd1_2_86006)), (d2, .inl (.inl (kA 3, 4, .inl fd2_2_86006)))]) [(4, .int 0), (3, .int (nI v3_2_86006)), (0, .ref z), (1, .ref d), (2, .int kn)] 0 0 48 []
              refine j_iload h 0 rfl dX8_narrowAsKnown_48 ?_
              refine j_if_ne h 81 dX8_narrowAsKnown_50 (by decide) (fun q => absurd (by decide) q) (fun _ => ?_)
              refine j_aload_n h 3 rfl rfl dX8_narrowAsKnown_53 ?_
              refine j_aload_n h 2 rfl rfl dX8_narrowAsKnown_54 ?_
              refine jm_get h iw_X8 0 rfl rfl 0 (by decide +kernel) tw_327 rfl dX8_narrowAsKnown_55 ?_
              refine j_iload_n h 1 rfl rfl dX8_narrowAsKnown_58 ?_
              refine jm_iald h 1 rfl v3_2_86006 rfl (by omega) (by omega) dX8_narrowAsKnown_59 ?_
              have u860146 := hsn9 v3_2_86006 (by omega)
              refine j_top (b := nI (xr zf0 v3_2_86006)) ((hsn9 v3_2_86006 (by omega)).1.1) ?_
              refine j_aload_n h 2 rfl rfl dX8_narrowAsKnown_60 ?_
              refine jm_get h iw_X8 0 rfl rfl 1 (by decide +kernel) tw_328 rfl dX8_narrowAsKnown_61 ?_
              refine j_iload_n h 1 rfl rfl dX8_narrowAsKnown_64 ?_
              refine jm_iald h 2 rfl v3_2_86006 rfl (by omega) (by omega) dX8_narrowAsKnown_65 ?_
              have u860147 := hsn9 v3_2_86006 (by omega)
              refine j_top (b := nI (xr zf1 v3_2_86006)) ((hsn9 v3_2_86006 (by omega)).2.1.1) ?_
              refine j_aload_n h 2 rfl rfl dX8_narrowAsKnown_66 ?_
              refine jm_get h iw_X8 0 rfl rfl 2 (by decide +kernel) tw_329 rfl dX8_narrowAsKnown_67 ?_
              refine j_iload_n h 1 rfl rfl dX8_narrowAsKnown_70 ?_
              refine jm_iald h 3 rfl v3_2_86006 rfl (by omega) (by omega) dX8_narrowAsKnown_71 ?_
              have u860148 := hsn9 v3_2_86006 (by omega)
              refine j_top (b := nI (xr zf2 v3_2_86006)) ((hsn9 v3_2_86006 (by omega)).2.2.1) ?_
              refine j_aload_n h 2 rfl rfl dX8_narrowAsKnown_72 ?_
              refine jm_get h iw_X8 0 rfl rfl 3 (by decide +kernel) tw_330 rfl dX8_narrowAsKnown_73 ?_
              refine j_iload_n h 1 rfl rfl dX8_narrowAsKnown_76 ?_
              refine jm_iald h 4 rfl v3_2_86006 rfl (by omega) (by omega) dX8_narrowAsKnown_77 ?_
              have u860149 := hsn9 v3_2_86006 (by omega)
              refine j_top (b := nI (xr zf3 v3_2_86006)) ((hsn9 v3_2_86006 (by omega)).2.2.2.1) ?_
              refine jm_callVv (np := 4) (isC := [7, 8, 9, 10]) (isR := [0, 1, 2, 3, 4, 5, 6]) (wc := [(d, .inl (.inr (0, [.ref d0, .ref d1, .ref d2]))), (d0, .inr (kA 6, kA 1, 4, 60, .inl fd0_2_86006)), (d1, .inr (kA 6, kA 1, 4, 60, .inl fd1_2_86006)), (d2, .inl (.inl (kA 3, 4, .inl fd2_2_86006)))]) (wr := [(z, .inl (.inr (8, [.ref z0, .ref z1, .ref z2, .ref z3, .ref z4, .ref z5, .int (nI zn)]))), (z0, .inl (.inl (kA 1, 30, .inl zf0))), (z1, .inl (.inl (kA 1, 30, .inl zf1))), (z2, .inl (.inl (kA 1, 30, .inl zf2))), (z3, .inl (.inl (kA 1, 30, .inl zf3))), (z4, .inl (.inl (kA 1, 30, .inl zf4))), (z5, .inl (.inl (kA 1, 30, .inl zf5)))]) (rest := []) (As := [.int (nI (xr zf0 v3_2_86006)), .int (nI (xr zf1 v3_2_86006)), .int (nI (xr zf2 v3_2_86006)), .int (nI (xr zf3 v3_2_86006))]) (q0 := 0) h (s_X0_narrowF _ _ kA d (xr zf0 v3_2_86006) (xr zf1 v3_2_86006) (xr zf2 v3_2_86006) (xr zf3 v3_2_86006) d0 d1 d2 fd0_2_86006 fd1_2_86006 fd2_2_86006 ((nkB (cnF zf4 zf5 kn) (xr zf0) (xr zf1) (xr zf2) (xr zf3) (ND, LO, HI) v3_2_86006).1) ((nkB (cnF zf4 zf5 kn) (xr zf0) (xr zf1) (xr zf2) (xr zf3) (ND, LO, HI) v3_2_86006).2.1) ((nkB (cnF zf4 zf5 kn) (xr zf0) (xr zf1) (xr zf2) (xr zf3) (ND, LO, HI) v3_2_86006).2.2) (show BdV ((nkB (cnF zf4 zf5 kn) (xr zf0) (xr zf1) (xr zf2) (xr zf3) (ND, LO, HI) v3_2_86006).1) ((nkB (cnF zf4 zf5 kn) (xr zf0) (xr zf1) (xr zf2) (xr zf3) (ND, LO, HI) v3_2_86006).2.1) ((nkB (cnF zf4 zf5 kn) (xr zf0) (xr zf1) (xr zf2) (xr zf3) (ND, LO, HI) v3_2_86006).2.2) fd2_2_86006 fd0_2_86006 fd1_2_86006 from i2_86006_0) (show (xr zf0 v3_2_86006) < 4 by first | assumption | omega) (show (xr zf1 v3_2_86006) < 60 by first | assumption | omega) (show (xr zf2 v3_2_86006) ≤ 9 by first | assumption | omega) (show (xr zf3 v3_2_86006) ≤ 9 by first | assumption | omega)) tw_1102 tw_825 tw_826 tw_94 tw_827 (by decide +kernel) rfl ⟨Nat.le_of_ble_eq_true rfl, Nat.le_of_ble_eq_true rfl⟩ rfl rfl (by decide +kernel) rfl rfl (by decide +kernel) (by decide +kernel) (Nat.le_of_ble_eq_true rfl) rfl ⟨Nat.le_of_ble_eq_true rfl, Nat.le_of_ble_eq_true rfl⟩ dX8_narrowAsKnown_78 ?_
              rintro ⟨q860150, q860151, q860152⟩ e860153
              have p860155 := e860153
              replace p860155 : BdV (upN ((nkB (cnF zf4 zf5 kn) (xr zf0) (xr zf1) (xr zf2) (xr zf3) (ND, LO, HI) v3_2_86006).1) (xr zf0 v3_2_86006) 1) (nrL ((nkB (cnF zf4 zf5 kn) (xr zf0) (xr zf1) (xr zf2) (xr zf3) (ND, LO, HI) v3_2_86006).1) ((nkB (cnF zf4 zf5 kn) (xr zf0) (xr zf1) (xr zf2) (xr zf3) (ND, LO, HI) v3_2_86006).2.1) (xr zf0 v3_2_86006) (xr zf1 v3_2_86006) (xr zf2 v3_2_86006)) (nrH ((nkB (cnF zf4 zf5 kn) (xr zf0) (xr zf1) (xr zf2) (xr zf3) (ND, LO, HI) v3_2_86006).1) ((nkB (cnF zf4 zf5 kn) (xr zf0) (xr zf1) (xr zf2) (xr zf3) (ND, LO, HI) v3_2_86006).2.2) (xr zf0 v3_2_86006) (xr zf1 v3_2_86006) (xr zf3 v3_2_86006)) q860152 q860150 q860151 := p860155
              show J x (mflat [(z, .inl (.inr (8, [.ref z0, .ref z1, .ref z2, .ref z3, .ref z4, .ref z5, .int (nI zn)]))), (z0, .inl (.inl (kA 1, 30, .inl zf0))), (z1, .inl (.inl (kA 1, 30, .inl zf1))), (z2, .inl (.inl (kA 1, 30, .inl zf2))), (z3, .inl (.inl (kA 1, 30, .inl zf3))), (z4, .inl (.inl (kA 1, 30, .inl zf4))), (z5, .inl (.inl (kA 1, 30, .inl zf5))), (d, .inl (.inr (0, [.ref d0, .ref d1, .ref d2]))), (d0, .inr (kA 6, kA 1, 4, 60, .inl q860150)), (d1, .inr (kA 6, kA 1, 4, 60, .inl q860151)), (d2, .inl (.inl (kA 3, 4, .inl q860152)))]) [(4, .int 0), (3, .int (nI v3_2_86006)), (0, .ref z), (1, .ref d), (2, .int kn)] 0 0 81 []
              refine j_iinc (v := nI (v3_2_86006 + 1)) (lv' := [(3, .int (nI (v3_2_86006 + 1))), (4, .int 0), (0, .ref z), (1, .ref d), (2, .int kn)]) h dX8_narrowAsKnown_81 1 rfl (nI_add v3_2_86006 1) (by decide) rfl ?_
              refine j_goto h 2 dX8_narrowAsKnown_84 (by decide) ?_
              refine jm_sub [0, 1, 2, 3, 4, 5, 6, 7, 8, 9, 10] (w' := [(z, .inl (.inr (8, [.ref z0, .ref z1, .ref z2, .ref z3, .ref z4, .ref z5, .int (nI zn)]))), (z0, .inl (.inl (kA 1, 30, .inl zf0))), (z1, .inl (.inl (kA 1, 30, .inl zf1))), (z2, .inl (.inl (kA 1, 30, .inl zf2))), (z3, .inl (.inl (kA 1, 30, .inl zf3))), (z4, .inl (.inl (kA 1, 30, .inl zf4))), (z5, .inl (.inl (kA 1, 30, .inl zf5))), (d, .inl (.inr (0, [.ref d0, .ref d1, .ref d2]))), (d0, .inr (kA 6, kA 1, 4, 60, .inl q860150)), (d1, .inr (kA 6, kA 1, 4, 60, .inl q860151)), (d2, .inl (.inl (kA 3, 4, .inl q860152)))]) rfl (by decide +kernel) [0, 2, 3, 4] (lv' := [(3, .int (nI (v3_2_86006 + 1))), (0, .ref z), (1, .ref d), (2, .int kn)]) rfl ?_
              exact ih2_86006 (v3_2_86006 + 1) q860150 q860151 q860152 (show BdV (nkB (cnF zf4 zf5 kn) (xr zf0) (xr zf1) (xr zf2) (xr zf3) (ND, LO, HI) (v3_2_86006 + 1)).1 (nkB (cnF zf4 zf5 kn) (xr zf0) (xr zf1) (xr zf2) (xr zf3) (ND, LO, HI) (v3_2_86006 + 1)).2.1 (nkB (cnF zf4 zf5 kn) (xr zf0) (xr zf1) (xr zf2) (xr zf3) (ND, LO, HI) (v3_2_86006 + 1)).2.2 q860152 q860150 q860151 from (by rw [nkB_y (cn_1 z860145 (Or.inr z860144))]; exact p860155)) (show (v3_2_86006 + 1) ≤ zn by first | assumption | omega) (show (v3_2_86006 + 1) ≤ 100000 by first | assumption | omega) (show zn - (v3_2_86006 + 1) < m2_86006 by omega)
          · show J x (mflat [(z, .inl (.inr (8, [.ref z0, .ref z1, .ref z2, .ref z3, .ref z4, .ref z5, .int (nI zn)]))), (z0, .inl (.inl (kA 1, 30, .inl zf0))), (z1, .inl (.inl (kA 1, 30, .inl zf1))), (z2, .inl (.inl (kA 1, 30, .inl zf2))), (z3, .inl (.inl (kA 1, 30, .inl zf3))), (z4, .inl (.inl (kA 1, 30, .inl zf4))), (z5, .inl (.inl (kA 1, 30, .inl zf5))), (d, .inl (.inr (0, [.ref d0, .ref d1, .ref d2]))), (d0, .inr (kA 6, kA 1, 4, 60, .inl fd0_2_86006)), (d1, .inr (kA 6, kA 1, 4, 60, .inl fd1_2_86006)), (d2, .inl (.inl (kA 3, 4, .inl fd2_2_86006)))]) [(3, .int (nI v3_2_86006)), (0, .ref z), (1, .ref d), (2, .int kn)] 0 0 31 []
            refine j_iconst (v := 1) h (by decide) dX8_narrowAsKnown_31 ?_
            refine j_goto h 36 dX8_narrowAsKnown_32 (by decide) ?_
            refine j_istore (lv' := [(4, .int 1), (3, .int (nI v3_2_86006)), (0, .ref z), (1, .ref d), (2, .int kn)]) h dX8_narrowAsKnown_36 (by decide) rfl ?_
            refine j_aload_n h 2 rfl rfl dX8_narrowAsKnown_38 ?_
            refine jm_get h iw_X8 0 rfl rfl 4 (by decide +kernel) tw_331 rfl dX8_narrowAsKnown_39 ?_
            refine j_iload_n h 1 rfl rfl dX8_narrowAsKnown_42 ?_
            refine jm_iald h 5 rfl v3_2_86006 rfl (by omega) (by omega) dX8_narrowAsKnown_43 ?_
            refine j_iload_n h 4 rfl rfl dX8_narrowAsKnown_44 ?_
            refine j_icmp_gt h 81 dX8_narrowAsKnown_45 (by decide) (fun z860156 => ?_) (fun z860156 => ?_)
            · show J x (mflat [(z, .inl (.inr (8, [.ref z0, .ref z1, .ref z2, .ref z3, .ref z4, .ref z5, .int (nI zn)]))), (z0, .inl (.inl (kA 1, 30, .inl zf0))), (z1, .inl (.inl (kA 1, 30, .inl zf1))), (z2, .inl (.inl (kA 1, 30, .inl zf2))), (z3, .inl (.inl (kA 1, 30, .inl zf3))), (z4, .inl (.inl (kA 1, 30, .inl zf4))), (z5, .inl (.inl (kA 1, 30, .inl zf5))), (d, .inl (.inr (0, [.ref d0, .ref d1, .ref d2]))), (d0, .inr (kA 6, kA 1, 4, 60, .inl fd0_2_86006)), (d1, .inr (kA 6, kA 1, 4, 60, .inl fd1_2_86006)), (d2, .inl (.inl (kA 3, 4, .inl fd2_2_86006)))]) [(4, .int 1), (3, .int (nI v3_2_86006)), (0, .ref z), (1, .ref d), (2, .int kn)] 0 0 81 []
              refine j_iinc (v := nI (v3_2_86006 + 1)) (lv' := [(3, .int (nI (v3_2_86006 + 1))), (4, .int 1), (0, .ref z), (1, .ref d), (2, .int kn)]) h dX8_narrowAsKnown_81 1 rfl (nI_add v3_2_86006 1) (by decide) rfl ?_
              refine j_goto h 2 dX8_narrowAsKnown_84 (by decide) ?_
              refine jm_sub [0, 1, 2, 3, 4, 5, 6, 7, 8, 9, 10] (w' := [(z, .inl (.inr (8, [.ref z0, .ref z1, .ref z2, .ref z3, .ref z4, .ref z5, .int (nI zn)]))), (z0, .inl (.inl (kA 1, 30, .inl zf0))), (z1, .inl (.inl (kA 1, 30, .inl zf1))), (z2, .inl (.inl (kA 1, 30, .inl zf2))), (z3, .inl (.inl (kA 1, 30, .inl zf3))), (z4, .inl (.inl (kA 1, 30, .inl zf4))), (z5, .inl (.inl (kA 1, 30, .inl zf5))), (d, .inl (.inr (0, [.ref d0, .ref d1, .ref d2]))), (d0, .inr (kA 6, kA 1, 4, 60, .inl fd0_2_86006)), (d1, .inr (kA 6, kA 1, 4, 60, .inl fd1_2_86006)), (d2, .inl (.inl (kA 3, 4, .inl fd2_2_86006)))]) rfl (by decide +kernel) [0, 2, 3, 4] (lv' := [(3, .int (nI (v3_2_86006 + 1))), (0, .ref z), (1, .ref d), (2, .int kn)]) rfl ?_
              exact ih2_86006 (v3_2_86006 + 1) fd0_2_86006 fd1_2_86006 fd2_2_86006 (show BdV (nkB (cnF zf4 zf5 kn) (xr zf0) (xr zf1) (xr zf2) (xr zf3) (ND, LO, HI) (v3_2_86006 + 1)).1 (nkB (cnF zf4 zf5 kn) (xr zf0) (xr zf1) (xr zf2) (xr zf3) (ND, LO, HI) (v3_2_86006 + 1)).2.1 (nkB (cnF zf4 zf5 kn) (xr zf0) (xr zf1) (xr zf2) (xr zf3) (ND, LO, HI) (v3_2_86006 + 1)).2.2 fd2_2_86006 fd0_2_86006 fd1_2_86006 from (by rw [nkB_n (by first | exact cn_t z860156 | exact cn_u z860156 z860132 z860144)]; exact i2_86006_0)) (show (v3_2_86006 + 1) ≤ zn by first | assumption | omega) (show (v3_2_86006 + 1) ≤ 100000 by first | assumption | omega) (show zn - (v3_2_86006 + 1) < m2_86006 by omega)
            · show J x (mflat [(z, .inl (.inr (8, [.ref z0, .ref z1, .ref z2, .ref z3, .ref z4, .ref z5, .int (nI zn)]))), (z0, .inl (.inl (kA 1, 30, .inl zf0))), (z1, .inl (.inl (kA 1, 30, .inl zf1))), (z2, .inl (.inl (kA 1, 30, .inl zf2))), (z3, .inl (.inl (kA 1, 30, .inl zf3))), (z4, .inl (.inl (kA 1, 30, .inl zf4))), (z5, .inl (.inl (kA 1, 30, .inl zf5))), (d, .inl (.inr (0, [.ref d0, .ref d1, .ref d2]))), (d0, .inr (kA 6, kA 1, 4, 60, .inl fd0_2_86006)), (d1, .inr (kA 6, kA 1, 4, 60, .inl fd1_2_86006)), (d2, .inl (.inl (kA 3, 4, .inl fd2_2_86006)))]) [(4, .int 1), (3, .int (nI v3_2_86006)), (0, .ref z), (1, .ref d), (2, .int kn)] 0 0 48 []
              refine j_iload h 0 rfl dX8_narrowAsKnown_48 ?_
              refine j_if_ne h 81 dX8_narrowAsKnown_50 (by decide) (fun _ => ?_) (fun q => absurd q (by decide))
              refine j_iinc (v := nI (v3_2_86006 + 1)) (lv' := [(3, .int (nI (v3_2_86006 + 1))), (4, .int 1), (0, .ref z), (1, .ref d), (2, .int kn)]) h dX8_narrowAsKnown_81 1 rfl (nI_add v3_2_86006 1) (by decide) rfl ?_
              refine j_goto h 2 dX8_narrowAsKnown_84 (by decide) ?_
              refine jm_sub [0, 1, 2, 3, 4, 5, 6, 7, 8, 9, 10] (w' := [(z, .inl (.inr (8, [.ref z0, .ref z1, .ref z2, .ref z3, .ref z4, .ref z5, .int (nI zn)]))), (z0, .inl (.inl (kA 1, 30, .inl zf0))), (z1, .inl (.inl (kA 1, 30, .inl zf1))), (z2, .inl (.inl (kA 1, 30, .inl zf2))), (z3, .inl (.inl (kA 1, 30, .inl zf3))), (z4, .inl (.inl (kA 1, 30, .inl zf4))), (z5, .inl (.inl (kA 1, 30, .inl zf5))), (d, .inl (.inr (0, [.ref d0, .ref d1, .ref d2]))), (d0, .inr (kA 6, kA 1, 4, 60, .inl fd0_2_86006)), (d1, .inr (kA 6, kA 1, 4, 60, .inl fd1_2_86006)), (d2, .inl (.inl (kA 3, 4, .inl fd2_2_86006)))]) rfl (by decide +kernel) [0, 2, 3, 4] (lv' := [(3, .int (nI (v3_2_86006 + 1))), (0, .ref z), (1, .ref d), (2, .int kn)]) rfl ?_
              exact ih2_86006 (v3_2_86006 + 1) fd0_2_86006 fd1_2_86006 fd2_2_86006 (show BdV (nkB (cnF zf4 zf5 kn) (xr zf0) (xr zf1) (xr zf2) (xr zf3) (ND, LO, HI) (v3_2_86006 + 1)).1 (nkB (cnF zf4 zf5 kn) (xr zf0) (xr zf1) (xr zf2) (xr zf3) (ND, LO, HI) (v3_2_86006 + 1)).2.1 (nkB (cnF zf4 zf5 kn) (xr zf0) (xr zf1) (xr zf2) (xr zf3) (ND, LO, HI) (v3_2_86006 + 1)).2.2 fd2_2_86006 fd0_2_86006 fd1_2_86006 from (by rw [nkB_n (by first | exact cn_t z860156 | exact cn_u z860156 z860132 z860144)]; exact i2_86006_0)) (show (v3_2_86006 + 1) ≤ zn by first | assumption | omega) (show (v3_2_86006 + 1) ≤ 100000 by first | assumption | omega) (show zn - (v3_2_86006 + 1) < m2_86006 by omega)
  refine jm_sub [0, 1, 2, 3, 4, 5, 6, 7, 8, 9, 10] (w' := [(z, .inl (.inr (8, [.ref z0, .ref z1, .ref z2, .ref z3, .ref z4, .ref z5, .int (nI zn)]))), (z0, .inl (.inl (kA 1, 30, .inl zf0))), (z1, .inl (.inl (kA 1, 30, .inl zf1))), (z2, .inl (.inl (kA 1, 30, .inl zf2))), (z3, .inl (.inl (kA 1, 30, .inl zf3))), (z4, .inl (.inl (kA 1, 30, .inl zf4))), (z5, .inl (.inl (kA 1, 30, .inl zf5))), (d, .inl (.inr (0, [.ref d0, .ref d1, .ref d2]))), (d0, .inr (kA 6, kA 1, 4, 60, .inl dls)), (d1, .inr (kA 6, kA 1, 4, 60, .inl dms)), (d2, .inl (.inl (kA 3, 4, .inl dnd)))]) rfl (by decide +kernel) [0, 1, 2, 3] (lv' := [(3, .int 0), (0, .ref z), (1, .ref d), (2, .int kn)]) rfl ?_
  exact lp2_86006 (zn - 0 + 1) 0 dls dms dnd (show BdV (nkB (cnF zf4 zf5 kn) (xr zf0) (xr zf1) (xr zf2) (xr zf3) (ND, LO, HI) 0).1 (nkB (cnF zf4 zf5 kn) (xr zf0) (xr zf1) (xr zf2) (xr zf3) (ND, LO, HI) 0).2.1 (nkB (cnF zf4 zf5 kn) (xr zf0) (xr zf1) (xr zf2) (xr zf3) (ND, LO, HI) 0).2.2 dnd dls dms from hbd) (show 0 ≤ zn by first | assumption | omega) (show 0 ≤ 100000 by first | assumption | omega) (Nat.lt_succ_self _)
