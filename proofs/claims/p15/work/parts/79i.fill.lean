def aS (D : Nat → Nat → Nat) (s f : Nat) : Nat := ftk (D 6 s) (f + 1)
def StG (D : Nat → Nat → Nat) (k : Nat) (gtk : Nat → Int32) (gaf : Nat → Nat → Int32) : Prop := (∀ i, i < k → gtk i = nI (D 4 i)) ∧ ∀ i f, i < k → f ≤ 1 → gaf i f = pm (aS D i f)
/-- costs of the first k things, and of the next up to moment u -/
def CsR (cs : Nat → Nat → Nat) (k T : Nat) (gco : Nat → Nat → Int32) : Prop := ∀ i t, i < k → t < T → gco i t = nI (cs i t)
def CsP (cs : Nat → Nat → Nat) (k u : Nat) (gco : Nat → Nat → Int32) : Prop := ∀ t, t < u → gco k t = nI (cs k t)
section CS
variable {D : Nat → Nat → Nat} {cs : Nat → Nat → Nat} {k u T n m j i f y a b l t : Nat} {gco gaf : Nat → Nat → Int32} {gtk : Nat → Int32} {tt x : Nat → Nat} {v bk set : Int32}
theorem CsR_0 : CsR cs 0 T gco := fun i _ h => absurd h (Nat.not_lt_zero i)
theorem CsP_0 : CsP cs k 0 gco := fun i h => absurd h (Nat.not_lt_zero i)
theorem CsR_up (h : CsR cs k T gco) : CsR cs k T (upG gco k u v) := fun i t hi ht => by
  rw [upG_r (by omega)]
  exact h i t hi ht
theorem CsP_up (h : CsP cs k u gco) (hv : v = nI (cs k u)) : CsP cs k (u + 1) (upG gco k u v) := fun t ht => by
  by_cases e : t = u
  · subst e
    rw [upG_s]
    exact hv
  · rw [upG_k e]
    exact h t (by omega)
theorem CsR_nx (h : CsR cs k T gco) (hp : CsP cs k u gco) (hu : T ≤ u) : CsR cs (k + 1) T gco := fun i t hi ht => by
  by_cases e : i = k
  · subst e
    exact hp t (by omega)
  · exact h i t (by omega) ht
theorem StG_n (h : StG D k gtk gaf) (ha : a = aS D k 0) (hb : b = aS D k 1) : StG D (k + 1) (upd gtk k (nI (D 4 k))) (upG (upG gaf k 0 (pm a)) k 1 (pm b)) := by
  refine ⟨fun i hi => ?_, fun i f hi hf => ?_⟩
  · by_cases e : i = k
    · subst e
      exact pk_us
    · rw [pk_un e]
      exact h.1 i (by omega)
  · by_cases e : i = k
    · subst e
      rcases (show f = 0 ∨ f = 1 by omega) with rfl | rfl
      · rw [upG_k (by decide), upG_s, ha]
      · rw [upG_s, hb]
    · rw [upG_r e, upG_r e]
      exact h.2 i f (by omega) hf
theorem StG_0 : StG D 0 gtk gaf := ⟨fun i h => absurd h (Nat.not_lt_zero i), fun i _ h => absurd h (Nat.not_lt_zero i)⟩
theorem GdS (hD : DOk D) (hn : n = D 0 0) (h : StG D n gtk gaf) (hc : CsR cs n T gco) (h1 : ∀ i t, cs i t ≤ 100 ∧ (cs i t < 100 → t + D 4 i ≤ T)) : GdR n T (D 4) (aS D) cs gtk gaf gco := by
  refine ⟨fun i hi => ?_, fun i f hi hf => ⟨h.2 i f hi hf, ftk_le (by omega)⟩, fun i t hi ht => ⟨hc i t hi ht, h1 i t⟩⟩
  have e := hD.2.2.2.1 i (by omega)
  exact ⟨h.1 i hi, e.1, by omega⟩
end CS
set_option maxHeartbeats 4000000 in
set_option maxRecDepth 100000 in
theorem s_X3_takeStepsF (lau : Launch) (gg : va_G) (kA : Nat → ClassId) (g : Nat) (s : Nat) (g0 : Nat) (g1 : Nat) (g2 : Nat) (g3 : Nat) (g4 : Nat) (g5 : Nat) (g6 : Nat) (g7 : Nat) (gn0 : Int32) (gt0 : Int32) (gm0 : Int32) (gtk : Nat → Int32) (gaf : Nat → Nat → Int32) (s0 : Nat) (s1 : Nat) (s2 : Nat) (s3 : Nat) (s4 : Nat) (s5 : Nat) (s6 : Nat) (s7 : Nat) (s8 : Nat) (s9 : Nat) (s10 : Nat) (s11 : Nat) (sn : Nat) (sl : Nat) (se : Nat) (sc1 : Nat → Int32) (sc2 : Nat → Int32) (sc3 : Nat → Int32) (sc5 : Nat → Int32) (sc6 : Nat → Nat → Int32) (sc7 : Nat → Int32) (sc8 : Nat → Nat → Int32) (sc10 : Nat → Int32) (sc11 : Nat → Int32) (D : Nat → Nat → Nat) (hsn : sn ≤ 6) (hsl : sl ≤ 10) (hse : se ≤ 4) (hstk : TkOk sn sc1) (hssz : SzOk sl sc5) (hsrw : RwOk sl sn sc5 sc6) (hslt : LtOk sl sc7) (hsla : FtOk sl sc8) (hsls : LsOk sl sc5 sc6 sc1 sc7) (hSc : ScR D sn sl se sc1 sc2 sc3 sc5 sc6 sc7 sc8 sc10 sc11) (hD : DOk D) : CtV lau yX3_takeSteps cX3_takeSteps 3 (none) 3 0 0 gg kA [.ref g, .ref s] (mflat [(g, .inl (.inr (3, [.ref g0, .ref g1, .ref g2, .ref g3, .ref g4, .ref g5, .ref g6, .ref g7, .int gn0, .int gt0, .int gm0]))), (g0, .inl (.inl (kA 1, 6, .inl gtk))), (g1, .inr (kA 6, kA 1, 6, 2, .inl gaf)), (s, .inl (.inr (5, [.ref s0, .ref s1, .ref s2, .ref s3, .ref s4, .ref s5, .ref s6, .ref s7, .ref s8, .ref s9, .ref s10, .ref s11, .int (nI sn), .int (nI sl), .int (nI se)]))), (s1, .inl (.inl (kA 1, 6, .inl sc1))), (s2, .inl (.inl (kA 1, 6, .inl sc2))), (s3, .inl (.inl (kA 1, 6, .inl sc3))), (s5, .inl (.inl (kA 1, 10, .inl sc5))), (s6, .inr (kA 6, kA 1, 10, 5, .inl sc6)), (s7, .inl (.inl (kA 1, 10, .inl sc7))), (s8, .inr (kA 6, kA 1, 10, 2, .inl sc8)), (s10, .inl (.inl (kA 1, 4, .inl sc10))), (s11, .inl (.inl (kA 1, 4, .inl sc11)))]) (S := (Nat → Int32) × (Nat → Nat → Int32)) (fun ((y_g0, y_g1) : (Nat → Int32) × (Nat → Nat → Int32)) => StG D sn y_g0 y_g1) (fun ((y_g0, y_g1) : (Nat → Int32) × (Nat → Nat → Int32)) => mflat [(g, .inl (.inr (3, [.ref g0, .ref g1, .ref g2, .ref g3, .ref g4, .ref g5, .ref g6, .ref g7, .int (nI sn), .int gt0, .int gm0]))), (g0, .inl (.inl (kA 1, 6, .inl y_g0))), (g1, .inr (kA 6, kA 1, 6, 2, .inl y_g1)), (s, .inl (.inr (5, [.ref s0, .ref s1, .ref s2, .ref s3, .ref s4, .ref s5, .ref s6, .ref s7, .ref s8, .ref s9, .ref s10, .ref s11, .int (nI sn), .int (nI sl), .int (nI se)]))), (s1, .inl (.inl (kA 1, 6, .inl sc1))), (s2, .inl (.inl (kA 1, 6, .inl sc2))), (s3, .inl (.inl (kA 1, 6, .inl sc3))), (s5, .inl (.inl (kA 1, 10, .inl sc5))), (s6, .inr (kA 6, kA 1, 10, 5, .inl sc6)), (s7, .inl (.inl (kA 1, 10, .inl sc7))), (s8, .inr (kA 6, kA 1, 10, 2, .inl sc8)), (s10, .inl (.inl (kA 1, 4, .inl sc10))), (s11, .inl (.inl (kA 1, 4, .inl sc11)))]) := by
  refine nx_startV (by decide +kernel) (Nat.le_of_ble_eq_true rfl) ?_
  intro x hnm h hq
  have h : Ok x cX3_takeSteps RX3 kA (rmC 3 0 0) 3 := h
  show J x (mflat [(g, .inl (.inr (3, [.ref g0, .ref g1, .ref g2, .ref g3, .ref g4, .ref g5, .ref g6, .ref g7, .int gn0, .int gt0, .int gm0]))), (g0, .inl (.inl (kA 1, 6, .inl gtk))), (g1, .inr (kA 6, kA 1, 6, 2, .inl gaf)), (s, .inl (.inr (5, [.ref s0, .ref s1, .ref s2, .ref s3, .ref s4, .ref s5, .ref s6, .ref s7, .ref s8, .ref s9, .ref s10, .ref s11, .int (nI sn), .int (nI sl), .int (nI se)]))), (s1, .inl (.inl (kA 1, 6, .inl sc1))), (s2, .inl (.inl (kA 1, 6, .inl sc2))), (s3, .inl (.inl (kA 1, 6, .inl sc3))), (s5, .inl (.inl (kA 1, 10, .inl sc5))), (s6, .inr (kA 6, kA 1, 10, 5, .inl sc6)), (s7, .inl (.inl (kA 1, 10, .inl sc7))), (s8, .inr (kA 6, kA 1, 10, 2, .inl sc8)), (s10, .inl (.inl (kA 1, 4, .inl sc10))), (s11, .inl (.inl (kA 1, 4, .inl sc11)))]) [(0, .ref g), (1, .ref s)] 0 0 0 []
  refine j_aload_n h 0 rfl rfl dX3_takeSteps_0 ?_
  refine j_aload_n h 1 rfl rfl dX3_takeSteps_1 ?_
  refine jm_get h iw_X5 3 rfl rfl 12 (by decide +kernel) tw_220 rfl dX3_takeSteps_2 ?_
  refine jm_put (w' := [(g, .inl (.inr (3, [.ref g0, .ref g1, .ref g2, .ref g3, .ref g4, .ref g5, .ref g6, .ref g7, .int (nI sn), .int gt0, .int gm0]))), (g0, .inl (.inl (kA 1, 6, .inl gtk))), (g1, .inr (kA 6, kA 1, 6, 2, .inl gaf)), (s, .inl (.inr (5, [.ref s0, .ref s1, .ref s2, .ref s3, .ref s4, .ref s5, .ref s6, .ref s7, .ref s8, .ref s9, .ref s10, .ref s11, .int (nI sn), .int (nI sl), .int (nI se)]))), (s1, .inl (.inl (kA 1, 6, .inl sc1))), (s2, .inl (.inl (kA 1, 6, .inl sc2))), (s3, .inl (.inl (kA 1, 6, .inl sc3))), (s5, .inl (.inl (kA 1, 10, .inl sc5))), (s6, .inr (kA 6, kA 1, 10, 5, .inl sc6)), (s7, .inl (.inl (kA 1, 10, .inl sc7))), (s8, .inr (kA 6, kA 1, 10, 2, .inl sc8)), (s10, .inl (.inl (kA 1, 4, .inl sc10))), (s11, .inl (.inl (kA 1, 4, .inl sc11)))]) h iw_X3 tyX3 tyX3_ok nmX3 0 rfl rfl 8 (by decide +kernel) tw_387 rfl rfl rfl (Nat.le_of_ble_eq_true rfl) dX3_takeSteps_5 rfl ?_
  refine j_iconst (v := 0) h (by decide) dX3_takeSteps_8 ?_
  refine j_istore_n (lv' := [(2, .int 0), (0, .ref g), (1, .ref s)]) h dX3_takeSteps_9 rfl (by decide) rfl ?_
  have lp10_82006 : ∀ (m10_82006 : Nat), ∀ (v2_10_82006 : Nat) (fg0_10_82006 : Nat → Int32) (fg1_10_82006 : Nat → Nat → Int32), (StG D v2_10_82006 fg0_10_82006 fg1_10_82006) → (v2_10_82006 ≤ sn) → (v2_10_82006 ≤ 100000) → sn - v2_10_82006 < m10_82006 → J x (mflat [(g, .inl (.inr (3, [.ref g0, .ref g1, .ref g2, .ref g3, .ref g4, .ref g5, .ref g6, .ref g7, .int (nI sn), .int gt0, .int gm0]))), (g0, .inl (.inl (kA 1, 6, .inl fg0_10_82006))), (g1, .inr (kA 6, kA 1, 6, 2, .inl fg1_10_82006)), (s, .inl (.inr (5, [.ref s0, .ref s1, .ref s2, .ref s3, .ref s4, .ref s5, .ref s6, .ref s7, .ref s8, .ref s9, .ref s10, .ref s11, .int (nI sn), .int (nI sl), .int (nI se)]))), (s1, .inl (.inl (kA 1, 6, .inl sc1))), (s2, .inl (.inl (kA 1, 6, .inl sc2))), (s3, .inl (.inl (kA 1, 6, .inl sc3))), (s5, .inl (.inl (kA 1, 10, .inl sc5))), (s6, .inr (kA 6, kA 1, 10, 5, .inl sc6)), (s7, .inl (.inl (kA 1, 10, .inl sc7))), (s8, .inr (kA 6, kA 1, 10, 2, .inl sc8)), (s10, .inl (.inl (kA 1, 4, .inl sc10))), (s11, .inl (.inl (kA 1, 4, .inl sc11)))]) [(2, .int (nI v2_10_82006)), (0, .ref g), (1, .ref s)] 0 0 10 [] := by
    intro m10_82006
    induction m10_82006 with
    | zero =>
      intro v2_10_82006 fg0_10_82006 fg1_10_82006 i10_82006_0 i10_82006_1 i10_82006_2 hm10_82006
      exact absurd hm10_82006 (Nat.not_lt_zero _)
    | succ m10_82006 ih10_82006 =>
      intro v2_10_82006 fg0_10_82006 fg1_10_82006 i10_82006_0 i10_82006_1 i10_82006_2 hm10_82006
      refine j_iload_n h 0 rfl rfl dX3_takeSteps_10 ?_
      refine j_aload_n h 1 rfl rfl dX3_takeSteps_11 ?_
      refine jm_get h iw_X3 0 rfl rfl 8 (by decide +kernel) tw_387 rfl dX3_takeSteps_12 ?_
      refine j_icmp_ge h 64 dX3_takeSteps_15 (by decide) (fun z820081 => ?_) (fun z820081 => ?_)
      · have z820081n : sn ≤ v2_10_82006 := (nI_leI (a := sn) (b := v2_10_82006) (by omega) (by omega)).mp z820081
        exact jm_vret h hq dX3_takeSteps_64 (fg0_10_82006, fg1_10_82006) [0, 1, 2, 3, 4, 5, 6, 7, 8, 9, 10, 11, 12] rfl (by decide) (show StG D sn fg0_10_82006 fg1_10_82006 from (show v2_10_82006 = sn by omega) ▸ i10_82006_0) (Nat.le_of_ble_eq_true rfl) (Nat.le_of_ble_eq_true rfl)
      · have z820081n : ¬ sn ≤ v2_10_82006 := fun q9 => z820081 ((nI_leI (a := sn) (b := v2_10_82006) (by omega) (by omega)).mpr q9)
        refine j_aload_n h 1 rfl rfl dX3_takeSteps_18 ?_
        refine jm_get h iw_X3 0 rfl rfl 0 (by decide +kernel) tw_377 rfl dX3_takeSteps_19 ?_
        refine j_iload_n h 0 rfl rfl dX3_takeSteps_22 ?_
        refine j_aload_n h 2 rfl rfl dX3_takeSteps_23 ?_
        refine jm_get h iw_X5 3 rfl rfl 1 (by decide +kernel) tw_179 rfl dX3_takeSteps_24 ?_
        refine j_iload_n h 0 rfl rfl dX3_takeSteps_27 ?_
        refine jm_iald h 4 rfl v2_10_82006 rfl (by omega) (by omega) dX3_takeSteps_28 ?_
        obtain ⟨u820082, u820083, u820084⟩ := ScD_1 hSc hD (show v2_10_82006 < sn by omega)
        refine j_top (b := nI (D 4 v2_10_82006)) (u820082) ?_
        refine jm_iast (w' := [(g, .inl (.inr (3, [.ref g0, .ref g1, .ref g2, .ref g3, .ref g4, .ref g5, .ref g6, .ref g7, .int (nI sn), .int gt0, .int gm0]))), (g0, .inl (.inl (kA 1, 6, .inl (upd fg0_10_82006 v2_10_82006 (nI (D 4 v2_10_82006)))))), (g1, .inr (kA 6, kA 1, 6, 2, .inl fg1_10_82006)), (s, .inl (.inr (5, [.ref s0, .ref s1, .ref s2, .ref s3, .ref s4, .ref s5, .ref s6, .ref s7, .ref s8, .ref s9, .ref s10, .ref s11, .int (nI sn), .int (nI sl), .int (nI se)]))), (s1, .inl (.inl (kA 1, 6, .inl sc1))), (s2, .inl (.inl (kA 1, 6, .inl sc2))), (s3, .inl (.inl (kA 1, 6, .inl sc3))), (s5, .inl (.inl (kA 1, 10, .inl sc5))), (s6, .inr (kA 6, kA 1, 10, 5, .inl sc6)), (s7, .inl (.inl (kA 1, 10, .inl sc7))), (s8, .inr (kA 6, kA 1, 10, 2, .inl sc8)), (s10, .inl (.inl (kA 1, 4, .inl sc10))), (s11, .inl (.inl (kA 1, 4, .inl sc11)))]) h 1 rfl v2_10_82006 rfl (by omega) (by omega) dX3_takeSteps_29 rfl ?_
        refine j_aload_n h 1 rfl rfl dX3_takeSteps_30 ?_
        refine jm_get h iw_X3 0 rfl rfl 1 (by decide +kernel) tw_379 rfl dX3_takeSteps_31 ?_
        refine j_iload_n h 0 rfl rfl dX3_takeSteps_34 ?_
        refine jm_gout h 2 6 rfl rfl v2_10_82006 rfl (by omega) (by omega) dX3_takeSteps_35 ?_
        refine j_iconst (v := 0) h (by decide) dX3_takeSteps_36 ?_
        refine j_aload_n h 2 rfl rfl dX3_takeSteps_37 ?_
        refine j_iload_n h 0 rfl rfl dX3_takeSteps_38 ?_
        refine j_iconst (v := 0) h (by decide) dX3_takeSteps_39 ?_
        refine jm_callVi (np := 2) (isC := [3, 6]) (isR := [0, 1, 2, 4, 5, 7, 8, 9, 10, 11, 12]) (wc := [(s, .inl (.inr (5, [.ref s0, .ref s1, .ref s2, .ref s3, .ref s4, .ref s5, .ref s6, .ref s7, .ref s8, .ref s9, .ref s10, .ref s11, .int (nI sn), .int (nI sl), .int (nI se)]))), (s3, .inl (.inl (kA 1, 6, .inl sc3)))]) (wr := [(g, .inl (.inr (3, [.ref g0, .ref g1, .ref g2, .ref g3, .ref g4, .ref g5, .ref g6, .ref g7, .int (nI sn), .int gt0, .int gm0]))), (g0, .inl (.inl (kA 1, 6, .inl (upd fg0_10_82006 v2_10_82006 (nI (D 4 v2_10_82006)))))), (g1, .inr (kA 6, kA 1, 6, 2, .inl fg1_10_82006)), (s1, .inl (.inl (kA 1, 6, .inl sc1))), (s2, .inl (.inl (kA 1, 6, .inl sc2))), (s5, .inl (.inl (kA 1, 10, .inl sc5))), (s6, .inr (kA 6, kA 1, 10, 5, .inl sc6)), (s7, .inl (.inl (kA 1, 10, .inl sc7))), (s8, .inr (kA 6, kA 1, 10, 2, .inl sc8)), (s10, .inl (.inl (kA 1, 4, .inl sc10))), (s11, .inl (.inl (kA 1, 4, .inl sc11)))]) (rest := [.int 0, .ref (g1 + 1 + v2_10_82006)]) (As := [.int (nI v2_10_82006), .int 0]) (q0 := 0) h (s_X5_footAfterF _ _ kA s v2_10_82006 0 s0 s1 s2 s3 s4 s5 s6 s7 s8 s9 s10 s11 sn sl se sc3 (D 6 v2_10_82006) (show sn ≤ 6 by first | assumption | omega) (show v2_10_82006 < sn by first | assumption | omega) (show 0 ≤ 1 by first | assumption | omega) (show sc3 v2_10_82006 = nI (sdC (D 6 v2_10_82006)) from (ScD_k hSc hD (show v2_10_82006 < sn by omega)).1) (show (D 6 v2_10_82006) ≤ 3 from (ScD_k hSc hD (show v2_10_82006 < sn by omega)).2)) tw_841 tw_709 tw_710 tw_90 tw_711 (by decide +kernel) rfl ⟨Nat.le_of_ble_eq_true rfl, Nat.le_of_ble_eq_true rfl⟩ rfl rfl (by decide +kernel) rfl rfl (by decide +kernel) (by decide +kernel) (Nat.le_of_ble_eq_true rfl) rfl ⟨Nat.le_of_ble_eq_true rfl, Nat.le_of_ble_eq_true rfl⟩ dX3_takeSteps_40 ?_
        rintro r820087 q820085 e820086
        obtain ⟨p820088, p820089, p820090⟩ := e820086
        subst p820088
        replace p820089 : q820085 ≤ 2 := p820089
        replace p820090 : q820085 = ftk (D 6 v2_10_82006) (0 + 1) := p820090
        show J x (mflat [(g, .inl (.inr (3, [.ref g0, .ref g1, .ref g2, .ref g3, .ref g4, .ref g5, .ref g6, .ref g7, .int (nI sn), .int gt0, .int gm0]))), (g0, .inl (.inl (kA 1, 6, .inl (upd fg0_10_82006 v2_10_82006 (nI (D 4 v2_10_82006)))))), (g1, .inr (kA 6, kA 1, 6, 2, .inl fg1_10_82006)), (s1, .inl (.inl (kA 1, 6, .inl sc1))), (s2, .inl (.inl (kA 1, 6, .inl sc2))), (s5, .inl (.inl (kA 1, 10, .inl sc5))), (s6, .inr (kA 6, kA 1, 10, 5, .inl sc6)), (s7, .inl (.inl (kA 1, 10, .inl sc7))), (s8, .inr (kA 6, kA 1, 10, 2, .inl sc8)), (s10, .inl (.inl (kA 1, 4, .inl sc10))), (s11, .inl (.inl (kA 1, 4, .inl sc11))), (s, .inl (.inr (5, [.ref s0, .ref s1, .ref s2, .ref s3, .ref s4, .ref s5, .ref s6, .ref s7, .ref s8, .ref s9, .ref s10, .ref s11, .int (nI sn), .int (nI sl), .int (nI se)]))), (s3, .inl (.inl (kA 1, 6, .inl sc3)))]) [(2, .int (nI v2_10_82006)), (0, .ref g), (1, .ref s)] 0 0 43 [.int (pm q820085), .int 0, .ref (g1 + 1 + v2_10_82006)]
        refine jm_gast (w' := [(g, .inl (.inr (3, [.ref g0, .ref g1, .ref g2, .ref g3, .ref g4, .ref g5, .ref g6, .ref g7, .int (nI sn), .int gt0, .int gm0]))), (g0, .inl (.inl (kA 1, 6, .inl (upd fg0_10_82006 v2_10_82006 (nI (D 4 v2_10_82006)))))), (g1, .inr (kA 6, kA 1, 6, 2, .inl (upG fg1_10_82006 v2_10_82006 0 (pm q820085)))), (s1, .inl (.inl (kA 1, 6, .inl sc1))), (s2, .inl (.inl (kA 1, 6, .inl sc2))), (s5, .inl (.inl (kA 1, 10, .inl sc5))), (s6, .inr (kA 6, kA 1, 10, 5, .inl sc6)), (s7, .inl (.inl (kA 1, 10, .inl sc7))), (s8, .inr (kA 6, kA 1, 10, 2, .inl sc8)), (s10, .inl (.inl (kA 1, 4, .inl sc10))), (s11, .inl (.inl (kA 1, 4, .inl sc11))), (s, .inl (.inr (5, [.ref s0, .ref s1, .ref s2, .ref s3, .ref s4, .ref s5, .ref s6, .ref s7, .ref s8, .ref s9, .ref s10, .ref s11, .int (nI sn), .int (nI sl), .int (nI se)]))), (s3, .inl (.inl (kA 1, 6, .inl sc3)))]) h 2 rfl v2_10_82006 (by omega) 0 (by decide +kernel) (by decide +kernel) (by omega) dX3_takeSteps_43 rfl ?_
        refine j_aload_n h 1 rfl rfl dX3_takeSteps_44 ?_
        refine jm_get h iw_X3 0 rfl rfl 1 (by decide +kernel) tw_379 rfl dX3_takeSteps_45 ?_
        refine j_iload_n h 0 rfl rfl dX3_takeSteps_48 ?_
        refine jm_gout h 2 6 rfl rfl v2_10_82006 rfl (by omega) (by omega) dX3_takeSteps_49 ?_
        refine j_iconst (v := 1) h (by decide) dX3_takeSteps_50 ?_
        refine j_aload_n h 2 rfl rfl dX3_takeSteps_51 ?_
        refine j_iload_n h 0 rfl rfl dX3_takeSteps_52 ?_
        refine j_iconst (v := 1) h (by decide) dX3_takeSteps_53 ?_
        refine jm_callVi (np := 2) (isC := [11, 12]) (isR := [0, 1, 2, 3, 4, 5, 6, 7, 8, 9, 10]) (wc := [(s, .inl (.inr (5, [.ref s0, .ref s1, .ref s2, .ref s3, .ref s4, .ref s5, .ref s6, .ref s7, .ref s8, .ref s9, .ref s10, .ref s11, .int (nI sn), .int (nI sl), .int (nI se)]))), (s3, .inl (.inl (kA 1, 6, .inl sc3)))]) (wr := [(g, .inl (.inr (3, [.ref g0, .ref g1, .ref g2, .ref g3, .ref g4, .ref g5, .ref g6, .ref g7, .int (nI sn), .int gt0, .int gm0]))), (g0, .inl (.inl (kA 1, 6, .inl (upd fg0_10_82006 v2_10_82006 (nI (D 4 v2_10_82006)))))), (g1, .inr (kA 6, kA 1, 6, 2, .inl (upG fg1_10_82006 v2_10_82006 0 (pm q820085)))), (s1, .inl (.inl (kA 1, 6, .inl sc1))), (s2, .inl (.inl (kA 1, 6, .inl sc2))), (s5, .inl (.inl (kA 1, 10, .inl sc5))), (s6, .inr (kA 6, kA 1, 10, 5, .inl sc6)), (s7, .inl (.inl (kA 1, 10, .inl sc7))), (s8, .inr (kA 6, kA 1, 10, 2, .inl sc8)), (s10, .inl (.inl (kA 1, 4, .inl sc10))), (s11, .inl (.inl (kA 1, 4, .inl sc11)))]) (rest := [.int 1, .ref (g1 + 1 + v2_10_82006)]) (As := [.int (nI v2_10_82006), .int 1]) (q0 := 0) h (s_X5_footAfterF _ _ kA s v2_10_82006 1 s0 s1 s2 s3 s4 s5 s6 s7 s8 s9 s10 s11 sn sl se sc3 (D 6 v2_10_82006) (show sn ≤ 6 by first | assumption | omega) (show v2_10_82006 < sn by first | assumption | omega) (show 1 ≤ 1 by first | assumption | omega) (show sc3 v2_10_82006 = nI (sdC (D 6 v2_10_82006)) from (ScD_k hSc hD (show v2_10_82006 < sn by omega)).1) (show (D 6 v2_10_82006) ≤ 3 from (ScD_k hSc hD (show v2_10_82006 < sn by omega)).2)) tw_841 tw_709 tw_710 tw_90 tw_711 (by decide +kernel) rfl ⟨Nat.le_of_ble_eq_true rfl, Nat.le_of_ble_eq_true rfl⟩ rfl rfl (by decide +kernel) rfl rfl (by decide +kernel) (by decide +kernel) (Nat.le_of_ble_eq_true rfl) rfl ⟨Nat.le_of_ble_eq_true rfl, Nat.le_of_ble_eq_true rfl⟩ dX3_takeSteps_54 ?_
        rintro r820093 q820091 e820092
        obtain ⟨p820094, p820095, p820096⟩ := e820092
        subst p820094
        replace p820095 : q820091 ≤ 2 := p820095
        replace p820096 : q820091 = ftk (D 6 v2_10_82006) (1 + 1) := p820096
        show J x (mflat [(g, .inl (.inr (3, [.ref g0, .ref g1, .ref g2, .ref g3, .ref g4, .ref g5, .ref g6, .ref g7, .int (nI sn), .int gt0, .int gm0]))), (g0, .inl (.inl (kA 1, 6, .inl (upd fg0_10_82006 v2_10_82006 (nI (D 4 v2_10_82006)))))), (g1, .inr (kA 6, kA 1, 6, 2, .inl (upG fg1_10_82006 v2_10_82006 0 (pm q820085)))), (s1, .inl (.inl (kA 1, 6, .inl sc1))), (s2, .inl (.inl (kA 1, 6, .inl sc2))), (s5, .inl (.inl (kA 1, 10, .inl sc5))), (s6, .inr (kA 6, kA 1, 10, 5, .inl sc6)), (s7, .inl (.inl (kA 1, 10, .inl sc7))), (s8, .inr (kA 6, kA 1, 10, 2, .inl sc8)), (s10, .inl (.inl (kA 1, 4, .inl sc10))), (s11, .inl (.inl (kA 1, 4, .inl sc11))), (s, .inl (.inr (5, [.ref s0, .ref s1, .ref s2, .ref s3, .ref s4, .ref s5, .ref s6, .ref s7, .ref s8, .ref s9, .ref s10, .ref s11, .int (nI sn), .int (nI sl), .int (nI se)]))), (s3, .inl (.inl (kA 1, 6, .inl sc3)))]) [(2, .int (nI v2_10_82006)), (0, .ref g), (1, .ref s)] 0 0 57 [.int (pm q820091), .int 1, .ref (g1 + 1 + v2_10_82006)]
        refine jm_gast (w' := [(g, .inl (.inr (3, [.ref g0, .ref g1, .ref g2, .ref g3, .ref g4, .ref g5, .ref g6, .ref g7, .int (nI sn), .int gt0, .int gm0]))), (g0, .inl (.inl (kA 1, 6, .inl (upd fg0_10_82006 v2_10_82006 (nI (D 4 v2_10_82006)))))), (g1, .inr (kA 6, kA 1, 6, 2, .inl (upG (upG fg1_10_82006 v2_10_82006 0 (pm q820085)) v2_10_82006 1 (pm q820091)))), (s1, .inl (.inl (kA 1, 6, .inl sc1))), (s2, .inl (.inl (kA 1, 6, .inl sc2))), (s5, .inl (.inl (kA 1, 10, .inl sc5))), (s6, .inr (kA 6, kA 1, 10, 5, .inl sc6)), (s7, .inl (.inl (kA 1, 10, .inl sc7))), (s8, .inr (kA 6, kA 1, 10, 2, .inl sc8)), (s10, .inl (.inl (kA 1, 4, .inl sc10))), (s11, .inl (.inl (kA 1, 4, .inl sc11))), (s, .inl (.inr (5, [.ref s0, .ref s1, .ref s2, .ref s3, .ref s4, .ref s5, .ref s6, .ref s7, .ref s8, .ref s9, .ref s10, .ref s11, .int (nI sn), .int (nI sl), .int (nI se)]))), (s3, .inl (.inl (kA 1, 6, .inl sc3)))]) h 2 rfl v2_10_82006 (by omega) 1 (by decide +kernel) (by decide +kernel) (by omega) dX3_takeSteps_57 rfl ?_
        refine j_iinc (v := nI (v2_10_82006 + 1)) (lv' := [(2, .int (nI (v2_10_82006 + 1))), (0, .ref g), (1, .ref s)]) h dX3_takeSteps_58 0 rfl (nI_add v2_10_82006 1) (by decide) rfl ?_
        refine j_goto h 10 dX3_takeSteps_61 (by decide) ?_
        refine jm_sub [0, 1, 2, 11, 3, 4, 12, 5, 6, 7, 8, 9, 10] (w' := [(g, .inl (.inr (3, [.ref g0, .ref g1, .ref g2, .ref g3, .ref g4, .ref g5, .ref g6, .ref g7, .int (nI sn), .int gt0, .int gm0]))), (g0, .inl (.inl (kA 1, 6, .inl (upd fg0_10_82006 v2_10_82006 (nI (D 4 v2_10_82006)))))), (g1, .inr (kA 6, kA 1, 6, 2, .inl (upG (upG fg1_10_82006 v2_10_82006 0 (pm q820085)) v2_10_82006 1 (pm q820091)))), (s, .inl (.inr (5, [.ref s0, .ref s1, .ref s2, .ref s3, .ref s4, .ref s5, .ref s6, .ref s7, .ref s8, .ref s9, .ref s10, .ref s11, .int (nI sn), .int (nI sl), .int (nI se)]))), (s1, .inl (.inl (kA 1, 6, .inl sc1))), (s2, .inl (.inl (kA 1, 6, .inl sc2))), (s3, .inl (.inl (kA 1, 6, .inl sc3))), (s5, .inl (.inl (kA 1, 10, .inl sc5))), (s6, .inr (kA 6, kA 1, 10, 5, .inl sc6)), (s7, .inl (.inl (kA 1, 10, .inl sc7))), (s8, .inr (kA 6, kA 1, 10, 2, .inl sc8)), (s10, .inl (.inl (kA 1, 4, .inl sc10))), (s11, .inl (.inl (kA 1, 4, .inl sc11)))]) rfl (by decide +kernel) [0, 1, 2] (lv' := [(2, .int (nI (v2_10_82006 + 1))), (0, .ref g), (1, .ref s)]) rfl ?_
        exact ih10_82006 (v2_10_82006 + 1) (upd fg0_10_82006 v2_10_82006 (nI (D 4 v2_10_82006))) (upG (upG fg1_10_82006 v2_10_82006 0 (pm q820085)) v2_10_82006 1 (pm q820091)) (show StG D (v2_10_82006 + 1) (upd fg0_10_82006 v2_10_82006 (nI (D 4 v2_10_82006))) (upG (upG fg1_10_82006 v2_10_82006 0 (pm q820085)) v2_10_82006 1 (pm q820091)) from StG_n i10_82006_0 p820090 p820096) (show (v2_10_82006 + 1) ≤ sn by first | assumption | omega) (show (v2_10_82006 + 1) ≤ 100000 by first | assumption | omega) (show sn - (v2_10_82006 + 1) < m10_82006 by omega)
  refine jm_sub [0, 1, 2, 3, 4, 5, 6, 7, 8, 9, 10, 11, 12] (w' := [(g, .inl (.inr (3, [.ref g0, .ref g1, .ref g2, .ref g3, .ref g4, .ref g5, .ref g6, .ref g7, .int (nI sn), .int gt0, .int gm0]))), (g0, .inl (.inl (kA 1, 6, .inl gtk))), (g1, .inr (kA 6, kA 1, 6, 2, .inl gaf)), (s, .inl (.inr (5, [.ref s0, .ref s1, .ref s2, .ref s3, .ref s4, .ref s5, .ref s6, .ref s7, .ref s8, .ref s9, .ref s10, .ref s11, .int (nI sn), .int (nI sl), .int (nI se)]))), (s1, .inl (.inl (kA 1, 6, .inl sc1))), (s2, .inl (.inl (kA 1, 6, .inl sc2))), (s3, .inl (.inl (kA 1, 6, .inl sc3))), (s5, .inl (.inl (kA 1, 10, .inl sc5))), (s6, .inr (kA 6, kA 1, 10, 5, .inl sc6)), (s7, .inl (.inl (kA 1, 10, .inl sc7))), (s8, .inr (kA 6, kA 1, 10, 2, .inl sc8)), (s10, .inl (.inl (kA 1, 4, .inl sc10))), (s11, .inl (.inl (kA 1, 4, .inl sc11)))]) rfl (by decide +kernel) [0, 1, 2] (lv' := [(2, .int 0), (0, .ref g), (1, .ref s)]) rfl ?_
  exact lp10_82006 (sn - 0 + 1) 0 gtk gaf (show StG D 0 gtk gaf from StG_0) (show 0 ≤ sn by first | assumption | omega) (show 0 ≤ 100000 by first | assumption | omega) (Nat.lt_succ_self _)
