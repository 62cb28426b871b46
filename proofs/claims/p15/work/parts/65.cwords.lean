def sN (i j : Nat) : Nat := ((sB i).getD j 0).toNatClampNeg
def sW (i : Nat) : Nat := wN (sN i) 0 (sL i)
theorem sN_b : ∀ i, i < 20 → ∀ j, j < sL i → (sB i).getD j 0 = nI (sN i j) ∧ 97 ≤ sN i j ∧ sN i j ≤ 122 := by decide +kernel
theorem sW_0 : sW 0 = 1937007984 := by decide +kernel
theorem sW_1 : sW 1 = 1937007984 := by decide +kernel
theorem sW_2 : sW 2 = 499850634611 := by decide +kernel
theorem sW_3 : sW 3 = 1819243876 := by decide +kernel
theorem sW_4 : sW 4 = 1818584692 := by decide +kernel
theorem sW_5 : sW 5 = 491394656372 := by decide +kernel
theorem sW_6 : sW 6 = 495874305132 := by decide +kernel
theorem sW_7 : sW 7 = 119183001281906 := by decide +kernel
theorem sW_8 : sW 8 = 6644082 := by decide +kernel
theorem sW_9 : sW 9 = 112615912075891 := by decide +kernel
theorem sW_10 : sW 10 = 1651470187 := by decide +kernel
theorem sW_11 : sW 11 = 499850634611 := by decide +kernel
theorem sW_12 : sW 12 = 1819243876 := by decide +kernel
theorem sW_13 : sW 13 = 1818584692 := by decide +kernel
theorem sW_14 : sW 14 = 491394656372 := by decide +kernel
theorem sW_15 : sW 15 = 495874305132 := by decide +kernel
theorem sW_16 : sW 16 = 119183001281906 := by decide +kernel
theorem sW_17 : sW 17 = 6644082 := by decide +kernel
theorem sW_18 : sW 18 = 112615912075891 := by decide +kernel
theorem sW_19 : sW 19 = 1651470187 := by decide +kernel
def LtW (c : Nat → Nat) (q n : Nat) : Prop := ∀ i, i < n → 97 ≤ c (q + i) ∧ c (q + i) ≤ 122
theorem all_s {P : Nat → Prop} {n : Nat} (h : ∀ j, j < n → P j) (h1 : P n) : ∀ j, j < n + 1 → P j := fun j hj => by
  by_cases e : j = n
  · rw [e]
    exact h1
  · exact h j (by omega)
theorem wN_inj {c c' : Nat → Nat} {q q' : Nat} : ∀ {n n' : Nat}, LtW c q n → LtW c' q' n' → wN c q n = wN c' q' n' → n = n' ∧ ∀ i, i < n → c (q + i) = c' (q' + i)
  | 0, 0, _, _, _ => ⟨rfl, fun i h => absurd h (Nat.not_lt_zero i)⟩
  | 0, n' + 1, _, h', e => by
    have e : 0 = wN c' q' n' * 256 + c' (q' + n') := e
    have := h' n' (Nat.lt_succ_self n')
    omega
  | n + 1, 0, h, _, e => by
    have e : wN c q n * 256 + c (q + n) = 0 := e
    have := h n (Nat.lt_succ_self n)
    omega
  | n + 1, n' + 1, h, h', e => by
    have e : wN c q n * 256 + c (q + n) = wN c' q' n' * 256 + c' (q' + n') := e
    have a := h n (Nat.lt_succ_self n)
    have b := h' n' (Nat.lt_succ_self n')
    have e1 : wN c q n = wN c' q' n' := by omega
    have e2 : c (q + n) = c' (q' + n') := by omega
    obtain ⟨x, y⟩ := wN_inj (fun i hi => h i (by omega)) (fun i hi => h' i (by omega)) e1
    subst x
    refine ⟨rfl, fun i hi => ?_⟩
    by_cases z : i = n
    · rw [z]
      exact e2
    · exact y i (by omega)
theorem wN_cg {c c' : Nat → Nat} {q q' : Nat} : ∀ {n : Nat}, (∀ i, i < n → c (q + i) = c' (q' + i)) → wN c q n = wN c' q' n
  | 0, _ => rfl
  | n + 1, h => by
    show wN c q n * 256 + c (q + n) = wN c' q' n * 256 + c' (q' + n)
    rw [wN_cg (fun i hi => h i (by omega)), h n (Nat.lt_succ_self n)]
theorem w5_inj {c c' : Nat → Nat} {q q' : Nat} : ∀ {n n' : Nat}, LtW c q n → LtW c' q' n' → w5 c q n = w5 c' q' n' → n = n' ∧ ∀ i, i < n → c (q + i) = c' (q' + i)
  | 0, 0, _, _, _ => ⟨rfl, fun i h => absurd h (Nat.not_lt_zero i)⟩
  | 0, n' + 1, _, h', e => by
    have e : 0 = w5 c' q' n' * 32 + (c' (q' + n') - 96) := e
    have := h' n' (Nat.lt_succ_self n')
    omega
  | n + 1, 0, h, _, e => by
    have e : w5 c q n * 32 + (c (q + n) - 96) = 0 := e
    have := h n (Nat.lt_succ_self n)
    omega
  | n + 1, n' + 1, h, h', e => by
    have e : w5 c q n * 32 + (c (q + n) - 96) = w5 c' q' n' * 32 + (c' (q' + n') - 96) := e
    have a := h n (Nat.lt_succ_self n)
    have b := h' n' (Nat.lt_succ_self n')
    have e1 : w5 c q n = w5 c' q' n' := by omega
    have e2 : c (q + n) = c' (q' + n') := by omega
    obtain ⟨x, y⟩ := w5_inj (fun i hi => h i (by omega)) (fun i hi => h' i (by omega)) e1
    subst x
    refine ⟨rfl, fun i hi => ?_⟩
    by_cases z : i = n
    · rw [z]
      exact e2
    · exact y i (by omega)
theorem w5_cg {c c' : Nat → Nat} {q q' : Nat} : ∀ {n : Nat}, (∀ i, i < n → c (q + i) = c' (q' + i)) → w5 c q n = w5 c' q' n
  | 0, _ => rfl
  | n + 1, h => by
    show w5 c q n * 32 + (c (q + n) - 96) = w5 c' q' n * 32 + (c' (q' + n) - 96)
    rw [w5_cg (fun i hi => h i (by omega)), h n (Nat.lt_succ_self n)]
section WD
variable {c : Nat → Nat} {s p q n m kd pl be si j r N0 i w : Nat} {nu : Int32} {wd : Int64} {f : Nat → Int64} {g : Nat → Nat} {D : Nat → Nat → Nat}
theorem wd_let (h : tS c s p = 1) : LtW c (tP c s p) (tL c s p - tP c s p) := fun i hi => by
  have h1 : tP c s p + i < tL c s p := by omega
  exact (ltb_t.mp (rn_all (P := ltb c s) (s := s) (p := tP c s p) (i := tP c s p + i) (by omega) h1)).2
theorem w5_64 (h : LtW c q m) (h8 : m ≤ 8) : w5 c q m < 2 ^ 64 := by
  have a := w5_lt h
  have e : (32 : Nat) ^ m ≤ 32 ^ 8 := Nat.pow_le_pow_right (by decide) h8
  omega
theorem kd_le (h : kd = kdC (tS c s p)) : kd ≤ 4 := by
  subst h
  rcases tS_cs (c := c) (s := s) (p := p) with e | e | e | e | e <;> rw [e] <;> decide
theorem fl_C (h : kd = kdC (tS c s p)) : (if kd = 4 then 1 else w) = fl1 (tS c s p) w := by
  have e := (kd_S h).2.2.2.2
  unfold fl1
  by_cases a : kd = 4
  · rw [if_pos a, if_pos (e.mp a)]
  · rw [if_neg a, if_neg (fun q => a (e.mpr q))]
theorem isA_w (htk : TokC c s p kd pl be nu wd) (hsi : si < 20) (h : isWd c s p (sW si)) : kd = 1 ∧ be - pl = sL si ∧ ∀ j, j < sL si → c (pl + j) = sN si j := by
  obtain ⟨k1, k2, _, k4, _⟩ := htk
  have hk : kd = 1 := (kd_S k1).2.1.mpr h.1
  obtain ⟨e1, _⟩ := k4 hk
  have e : wN c (tP c s p) (tL c s p - tP c s p) = wN (sN si) 0 (sL si) := h.2
  obtain ⟨x, y⟩ := wN_inj (wd_let h.1) (fun i hi => by rw [Nat.zero_add]; exact (sN_b si hsi i hi).2) e
  refine ⟨hk, by rw [e1, k2]; exact x, fun j hj => ?_⟩
  rw [k2, y j (by omega), Nat.zero_add]
theorem isA_1 (htk : TokC c s p kd pl be nu wd) (hsi : si < 20) (hk : kd = 1) (hl : be - pl = sL si) (hb : ∀ j, j < sL si → c (pl + j) = sN si j) : isWd c s p (sW si) := by
  obtain ⟨k1, k2, _, k4, _⟩ := htk
  obtain ⟨e1, _⟩ := k4 hk
  refine ⟨(kd_S k1).2.1.mp hk, ?_⟩
  show wN c (tP c s p) (tL c s p - tP c s p) = wN (sN si) 0 (sL si)
  rw [← e1, ← k2, hl]
  exact wN_cg (fun i hi => by rw [Nat.zero_add]; exact hb i hi)
theorem isA_b (hb : CbOk c s) (hi : pl + j < s) (hsi : si < 20) (hj : j < sL si) (h : chC c s (pl + j) = (sB si).getD j 0) : c (pl + j) = sN si j := by
  have e := sN_b si hsi j hj
  rw [cc_in hi, e.1] at h
  exact sx_eq (hb _ hi) (by omega) h
theorem isA_nb (hi : pl + j < s) (hsi : si < 20) (hj : j < sL si) (h : ¬ chC c s (pl + j) = (sB si).getD j 0) : ¬ c (pl + j) = sN si j := fun q => h (by
  have e := sN_b si hsi j hj
  rw [cc_in hi, e.1, q]
  exact sx_lo (by omega))
/-- names that the class holds -/
def NmC (c : Nat → Nat) (f : Nat → Int64) (n : Nat) (g : Nat → Nat) : Prop := ∀ k, k < n → ∃ q m, m ≤ 8 ∧ LtW c q m ∧ f k = lN (w5 c q m) ∧ g k = wN c q m
theorem NmC_eq {k : Nat} (h : NmC c f n g) (hs : tS c s p = 1) (hw : wd = lN (w5 c (tP c s p) (tL c s p - tP c s p))) (hk : k < n) : f k = wd ↔ g k = tW c s p := by
  obtain ⟨q, m, h8, hl, e1, e2⟩ := h k hk
  obtain ⟨_, _, d8⟩ := tS_w hs
  have l := wd_let hs
  constructor
  · intro e
    rw [e1, hw] at e
    have e := lN_inj (w5_64 hl h8) (w5_64 l d8) e
    obtain ⟨x, y⟩ := w5_inj hl l e
    rw [e2]
    show wN c q m = wN c (tP c s p) (tL c s p - tP c s p)
    rw [← x]
    exact wN_cg y
  · intro e
    rw [e2] at e
    have e : wN c q m = wN c (tP c s p) (tL c s p - tP c s p) := e
    obtain ⟨x, y⟩ := wN_inj hl l e
    rw [e1, hw, ← x]
    exact congrArg lN (w5_cg y)
theorem fnd_n {f : Nat → Nat} : ∀ {n : Nat}, (∀ k, k < n → f k ≠ w) → fnd f n w = 0
  | 0, _ => rfl
  | n + 1, h => by
    show (if f n = w then n + 1 else fnd f n w) = 0
    rw [if_neg (h n (Nat.lt_succ_self n))]
    exact fnd_n (fun k hk => h k (by omega))
theorem fnd_u {f : Nat → Nat} {k : Nat} (h : k < n) (e : f k = w) (d : DsOk f n) : fnd f n w = k + 1 := by
  cases hh : fnd f n w with
  | zero => exact absurd e (fnd_0 hh k h)
  | succ i =>
    obtain ⟨a, b⟩ := fnd_s hh
    have := d i k a h (b.trans e.symm)
    omega
theorem fdC (hN : NmC c f n g) (hs : tS c s p = 1) (hw : wd = lN (w5 c (tP c s p) (tL c s p - tP c s p))) (hr : r ≤ n) (h0 : r = 0 → ∀ k, k < n → k < N0 → f k ≠ wd) (h1 : ¬ r = 0 → f (r - 1) = wd) (hn : n ≤ N0) : (r = 0 ↔ fnd g n (tW c s p) = 0) ∧ (DsOk g n → r = fnd g n (tW c s p)) := by
  by_cases e : r = 0
  · have z : fnd g n (tW c s p) = 0 := fnd_n (fun k hk q => h0 e k hk (by omega) ((NmC_eq hN hs hw hk).mpr q))
    exact ⟨⟨fun _ => z, fun _ => e⟩, fun _ => e.trans z.symm⟩
  · have y := (NmC_eq hN hs hw (show r - 1 < n by omega)).mp (h1 e)
    refine ⟨⟨fun q => absurd q e, fun q => absurd y (fnd_0 q (r - 1) (by omega))⟩, fun d => ?_⟩
    rw [fnd_u (show r - 1 < n by omega) y d]
    omega
theorem NmC_new (h : NmC c f n (D i)) (hs : tS c s p = 1) (hw : wd = lN (w5 c (tP c s p) (tL c s p - tP c s p))) : NmC c (vp_updL f n wd) (n + 1) (upD D i n (tW c s p) i) := fun k hk => by
  by_cases e : k = n
  · subst e
    rw [pk_uLs, upD_s]
    obtain ⟨_, _, d8⟩ := tS_w hs
    exact ⟨_, _, d8, wd_let hs, hw, rfl⟩
  · rw [pk_uLn e, upD_n (fun q => e q.2)]
    exact h k (by omega)
theorem TokC_ge (h : TokC c s p kd pl be nu wd) (hk : kd = 1) : pl ≤ be := by
  have e := (h.2.2.2.1 hk).1
  have g : tP c s p ≤ tL c s p := rn_ge
  have f := h.2.1
  omega
theorem TokC_nx {kd' pl' be' : Nat} {nu' : Int32} {wd' : Int64} (h : TokC c s p kd pl be nu wd) (hk : ¬ kd = 4) (k : TokC c s be kd' pl' be' nu' wd') : TokC c s (tE c s p) kd' pl' be' nu' wd' := by
  rw [← h.2.2.1 hk]
  exact k
theorem tN_b (hb : CbOk c s) (h : tS c s p = 2) : tN c s p ≤ 229977 := by
  have a : tP c s p < s ∧ tD c s p - tP c s p ≤ 4 := by
    unfold tS at h
    by_cases x : tP c s p < s
    · rw [if_pos x] at h
      refine ⟨x, ?_⟩
      split at h
      · split at h
        · exact absurd h (by decide)
        · exact absurd h (by decide)
      · split at h
        · split at h
          · exact absurd h (by decide)
          · omega
        · split at h
          · exact absurd h (by decide)
          · exact absurd h (by decide)
    · rw [if_neg x] at h
      exact absurd h (by decide)
  have e : tD c s p ≤ s := rn_le (by omega)
  have f : tP c s p ≤ tD c s p := rn_ge
  have g := nN_le hb (q := tP c s p) (n := tD c s p - tP c s p) (by omega)
  have k : (10 : Nat) ^ (tD c s p - tP c s p) ≤ 10 ^ 4 := Nat.pow_le_pow_right (by decide) a.2
  show nN c (tP c s p) (tD c s p - tP c s p) ≤ 229977
  omega
end WD
def OutC (F Pl r fa : Nat) (pl : Int32) (ok : Prop) : Prop := (r = 1 → F = 0 ∧ ok) ∧ (r = 0 → ¬ F = 0 ∧ fa = F ∧ pl = nI Pl)
/-- the class's sides: left right either still -/
def sdC (k : Nat) : Nat := if k = 0 then 2 else if k = 3 then 3 else k - 1
set_option maxHeartbeats 4000000 in
set_option maxRecDepth 100000 in
theorem s_X9_isAtF (lau : Launch) (gg : va_G) (kA : Nat → ClassId) (t : Nat) (si : Nat) (t0 : Nat) (tsz : Nat) (tkd : Nat) (tpl : Nat) (tbh : Nat) (twd : Int64) (tnu : Int32) (tby : Nat → Int32) (ct : Nat → Nat) (p : Nat) (w : Nat) (htsz : tsz ≤ 1600) (htpl : tpl ≤ tsz) (htbh : tbh ≤ tsz) (hkd : tkd ≤ 4) (hct : CtC ct tsz tby) (hcb : CbOk ct tsz) (hsi : si < 20) (htk : TokC ct tsz p tkd tpl tbh tnu twd) (hsw : sW si = w) : CtI lau yX9_isAt cX9_isAt 3 (some .boolean) 5 0 0 gg kA [.ref t, .ref (kA (100 + si))] (mflat [(t, .inl (.inr (9, [.ref t0, .int (nI tsz), .int (nI tkd), .int (nI tpl), .int (nI tbh), .long twd, .int tnu]))), (t0, .inl (.inl (kA 0, 1600, .inl tby)))]) (S := Nat) (fun (r : Int32) (y_r : Nat) => r = nI y_r ∧ (y_r ≤ 1) ∧ (y_r = 1 → isWd ct tsz p w) ∧ (y_r = 0 → ¬ isWd ct tsz p w)) (fun (y_r : Nat) => mflat [(t, .inl (.inr (9, [.ref t0, .int (nI tsz), .int (nI tkd), .int (nI tpl), .int (nI tbh), .long twd, .int tnu]))), (t0, .inl (.inl (kA 0, 1600, .inl tby)))]) := by
  refine nx_startI (by decide +kernel) (Nat.le_of_ble_eq_true rfl) ?_
  intro x hnm h hq
  have h : Ok x cX9_isAt RX9 kA (rmC 5 0 0) 3 := h
  show J x (mflat [(t, .inl (.inr (9, [.ref t0, .int (nI tsz), .int (nI tkd), .int (nI tpl), .int (nI tbh), .long twd, .int tnu]))), (t0, .inl (.inl (kA 0, 1600, .inl tby)))]) [(0, .ref t), (1, .ref (kA (100 + si)))] 0 0 0 []
  have hsl := sL_le si hsi
  refine j_aload_n h 0 rfl rfl dX9_isAt_0 ?_
  refine jm_get h iw_X9 0 rfl rfl 2 (by decide +kernel) tw_125 rfl dX9_isAt_1 ?_
  refine j_iconst (v := 1) h (by decide) dX9_isAt_4 ?_
  refine j_icmp_ne h 24 dX9_isAt_5 (by decide) (fun z650039 => ?_) (fun z650039 => ?_)
  · have z650039n : ¬ tkd = 1 := fun q9 => z650039 ((nI_eq (a := tkd) (b := 1) (by omega) (by omega)).mpr q9)
    refine j_iconst (v := 0) h (by decide) dX9_isAt_24 ?_
    exact jm_zret h hq rfl dX9_isAt_25 0 [0, 1] rfl (by decide) ⟨rfl, (show 0 ≤ 1 by first | assumption | omega), (show 0 = 1 → isWd ct tsz p w from fun h9 => absurd h9 (by decide)), (show 0 = 0 → ¬ isWd ct tsz p w from fun _ h9 => absurd (isA_w htk hsi (hsw ▸ h9)).1 (by omega))⟩ (Nat.le_of_ble_eq_true rfl) (Nat.le_of_ble_eq_true rfl)
  · have z650039n : tkd = 1 := (nI_eq (a := tkd) (b := 1) (by omega) (by omega)).mp z650039
    have hge9 := TokC_ge htk (by omega)
    refine j_aload_n h 0 rfl rfl dX9_isAt_8 ?_
    refine jm_get h iw_X9 0 rfl rfl 4 (by decide +kernel) tw_128 rfl dX9_isAt_9 ?_
    refine j_aload_n h 0 rfl rfl dX9_isAt_12 ?_
    refine jm_get h iw_X9 0 rfl rfl 3 (by decide +kernel) tw_126 rfl dX9_isAt_13 ?_
    refine j_isub h dX9_isAt_16 ?_
    refine j_top (b := nI (tbh - tpl)) (pk_sub (a := tbh) (b := tpl) (by omega)) ?_
    refine j_aload_n h 1 rfl rfl dX9_isAt_17 ?_
    refine jm_callVKi (np := 0) (isC := []) (isR := [0, 1]) (wc := []) (wr := [(t, .inl (.inr (9, [.ref t0, .int (nI tsz), .int (nI tkd), .int (nI tpl), .int (nI tbh), .long twd, .int tnu]))), (t0, .inl (.inl (kA 0, 1600, .inl tby)))]) (rest := [.int (nI (tbh - tpl))]) (As := []) (si := si) h (s_J0_length_8abf5 _ _ kA si (show si < 20 by first | assumption | omega)) (by omega) tw_595 tw_596 tw_597 tw_100 tw_598 (by decide +kernel) rfl ⟨Nat.le_of_ble_eq_true rfl, Nat.le_of_ble_eq_true rfl⟩ (by decide +kernel) rfl rfl (by decide +kernel) (by decide +kernel) (Nat.le_of_ble_eq_true rfl) rfl ⟨Nat.le_of_ble_eq_true rfl, Nat.le_of_ble_eq_true rfl⟩ dX9_isAt_18 ?_
    rintro r650041 _ e650040
    have p650042 := e650040
    subst p650042
    show J x (mflat [(t, .inl (.inr (9, [.ref t0, .int (nI tsz), .int (nI tkd), .int (nI tpl), .int (nI tbh), .long twd, .int tnu]))), (t0, .inl (.inl (kA 0, 1600, .inl tby)))]) [(0, .ref t), (1, .ref (kA (100 + si)))] 0 0 21 [.int (nI (sL si)), .int (nI (tbh - tpl))]
    refine j_icmp_eq h 26 dX9_isAt_21 (by decide) (fun z650043 => ?_) (fun z650043 => ?_)
    · have z650043n : (tbh - tpl) = (sL si) := (nI_eq (a := (tbh - tpl)) (b := (sL si)) (by omega) (by omega)).mp z650043
      refine j_iconst (v := 0) h (by decide) dX9_isAt_26 ?_
      refine j_istore_n (lv' := [(2, .int 0), (0, .ref t), (1, .ref (kA (100 + si)))]) h dX9_isAt_27 rfl (by decide) rfl ?_
      have lp28_65006 : ∀ (m28_65006 : Nat), ∀ (v2_28_65006 : Nat), (∀ j, j < v2_28_65006 → ct (tpl + j) = sN si j) → (v2_28_65006 ≤ sL si) → (v2_28_65006 ≤ 100000) → sL si - v2_28_65006 < m28_65006 → J x (mflat [(t, .inl (.inr (9, [.ref t0, .int (nI tsz), .int (nI tkd), .int (nI tpl), .int (nI tbh), .long twd, .int tnu]))), (t0, .inl (.inl (kA 0, 1600, .inl tby)))]) [(2, .int (nI v2_28_65006)), (0, .ref t), (1, .ref (kA (100 + si)))] 0 0 28 [] := by
        intro m28_65006
        induction m28_65006 with
        | zero =>
          intro v2_28_65006 i28_65006_0 i28_65006_1 i28_65006_2 hm28_65006
          exact absurd hm28_65006 (Nat.not_lt_zero _)
        | succ m28_65006 ih28_65006 =>
          intro v2_28_65006 i28_65006_0 i28_65006_1 i28_65006_2 hm28_65006
          refine j_iload_n h 0 rfl rfl dX9_isAt_28 ?_
          refine j_aload_n h 2 rfl rfl dX9_isAt_29 ?_
          refine jm_callVKi (np := 0) (isC := []) (isR := [0, 1]) (wc := []) (wr := [(t, .inl (.inr (9, [.ref t0, .int (nI tsz), .int (nI tkd), .int (nI tpl), .int (nI tbh), .long twd, .int tnu]))), (t0, .inl (.inl (kA 0, 1600, .inl tby)))]) (rest := [.int (nI v2_28_65006)]) (As := []) (si := si) h (s_J0_length_8abf5 _ _ kA si (show si < 20 by first | assumption | omega)) (by omega) tw_595 tw_596 tw_597 tw_100 tw_598 (by decide +kernel) rfl ⟨Nat.le_of_ble_eq_true rfl, Nat.le_of_ble_eq_true rfl⟩ (by decide +kernel) rfl rfl (by decide +kernel) (by decide +kernel) (Nat.le_of_ble_eq_true rfl) rfl ⟨Nat.le_of_ble_eq_true rfl, Nat.le_of_ble_eq_true rfl⟩ dX9_isAt_30 ?_
          rintro r650067 _ e650066
          have p650068 := e650066
          subst p650068
          show J x (mflat [(t, .inl (.inr (9, [.ref t0, .int (nI tsz), .int (nI tkd), .int (nI tpl), .int (nI tbh), .long twd, .int tnu]))), (t0, .inl (.inl (kA 0, 1600, .inl tby)))]) [(2, .int (nI v2_28_65006)), (0, .ref t), (1, .ref (kA (100 + si)))] 0 0 33 [.int (nI (sL si)), .int (nI v2_28_65006)]
          refine j_icmp_ge h 62 dX9_isAt_33 (by decide) (fun z650069 => ?_) (fun z650069 => ?_)
          · have z650069n : (sL si) ≤ v2_28_65006 := (nI_leI (a := (sL si)) (b := v2_28_65006) (by omega) (by omega)).mp z650069
            refine j_iconst (v := 1) h (by decide) dX9_isAt_62 ?_
            exact jm_zret h hq rfl dX9_isAt_63 1 [0, 1] rfl (by decide) ⟨rfl, (show 1 ≤ 1 by first | assumption | omega), (show 1 = 1 → isWd ct tsz p w from fun _ => hsw ▸ isA_1 htk hsi (by omega) (by omega) (fun j hj => i28_65006_0 j (by omega))), (show 1 = 0 → ¬ isWd ct tsz p w from fun h9 => absurd h9 (by decide))⟩ (Nat.le_of_ble_eq_true rfl) (Nat.le_of_ble_eq_true rfl)
          · have z650069n : ¬ (sL si) ≤ v2_28_65006 := fun q9 => z650069 ((nI_leI (a := (sL si)) (b := v2_28_65006) (by omega) (by omega)).mpr q9)
            refine j_aload_n h 1 rfl rfl dX9_isAt_36 ?_
            refine j_aload_n h 1 rfl rfl dX9_isAt_37 ?_
            refine jm_get h iw_X9 0 rfl rfl 3 (by decide +kernel) tw_126 rfl dX9_isAt_38 ?_
            refine j_iload_n h 0 rfl rfl dX9_isAt_41 ?_
            refine j_iadd h dX9_isAt_42 ?_
            refine j_top (b := nI (tpl + v2_28_65006)) (nI_add tpl v2_28_65006) ?_
            refine jm_callVi (np := 1) (isC := [0, 1]) (isR := []) (wc := [(t, .inl (.inr (9, [.ref t0, .int (nI tsz), .int (nI tkd), .int (nI tpl), .int (nI tbh), .long twd, .int tnu]))), (t0, .inl (.inl (kA 0, 1600, .inl tby)))]) (wr := []) (rest := []) (As := [.int (nI (tpl + v2_28_65006))]) (q0 := 0) h (s_X9_byteAtF _ _ kA t (tpl + v2_28_65006) t0 tsz (nI tkd) (nI tpl) (nI tbh) twd tnu tby ct (show tsz ≤ 1600 by first | assumption | omega) (show (tpl + v2_28_65006) ≤ 4000 by first | assumption | omega) (show CtC ct tsz tby by first | assumption | omega)) tw_569 tw_571 tw_0 tw_88 tw_572 (by decide +kernel) rfl ⟨Nat.le_of_ble_eq_true rfl, Nat.le_of_ble_eq_true rfl⟩ rfl rfl (by decide +kernel) rfl rfl (by decide +kernel) (by decide +kernel) (Nat.le_of_ble_eq_true rfl) rfl ⟨Nat.le_of_ble_eq_true rfl, Nat.le_of_ble_eq_true rfl⟩ dX9_isAt_43 ?_
            rintro r650071 _ e650070
            have p650072 := e650070
            subst p650072
            show J x (mflat [(t, .inl (.inr (9, [.ref t0, .int (nI tsz), .int (nI tkd), .int (nI tpl), .int (nI tbh), .long twd, .int tnu]))), (t0, .inl (.inl (kA 0, 1600, .inl tby)))]) [(2, .int (nI v2_28_65006)), (0, .ref t), (1, .ref (kA (100 + si)))] 0 0 46 [.int (chC ct tsz (tpl + v2_28_65006))]
            refine j_aload_n h 2 rfl rfl dX9_isAt_46 ?_
            refine j_iload_n h 0 rfl rfl dX9_isAt_47 ?_
            refine jm_callVKi (np := 1) (isC := []) (isR := [0, 1]) (wc := []) (wr := [(t, .inl (.inr (9, [.ref t0, .int (nI tsz), .int (nI tkd), .int (nI tpl), .int (nI tbh), .long twd, .int tnu]))), (t0, .inl (.inl (kA 0, 1600, .inl tby)))]) (rest := [.int (chC ct tsz (tpl + v2_28_65006))]) (As := [.int (nI v2_28_65006)]) (si := si) h (s_J0_charAt_5068e _ _ kA si v2_28_65006 (show si < 20 by first | assumption | omega) (show v2_28_65006 < sL si by first | assumption | omega)) (by omega) tw_605 tw_606 tw_607 tw_100 tw_608 (by decide +kernel) rfl ⟨Nat.le_of_ble_eq_true rfl, Nat.le_of_ble_eq_true rfl⟩ (by decide +kernel) rfl rfl (by decide +kernel) (by decide +kernel) (Nat.le_of_ble_eq_true rfl) rfl ⟨Nat.le_of_ble_eq_true rfl, Nat.le_of_ble_eq_true rfl⟩ dX9_isAt_48 ?_
            rintro r650074 _ e650073
            have p650075 := e650073
            subst p650075
            show J x (mflat [(t, .inl (.inr (9, [.ref t0, .int (nI tsz), .int (nI tkd), .int (nI tpl), .int (nI tbh), .long twd, .int tnu]))), (t0, .inl (.inl (kA 0, 1600, .inl tby)))]) [(2, .int (nI v2_28_65006)), (0, .ref t), (1, .ref (kA (100 + si)))] 0 0 51 [.int ((sB si).getD v2_28_65006 0), .int (chC ct tsz (tpl + v2_28_65006))]
            refine j_icmp_eq h 56 dX9_isAt_51 (by decide) (fun z650076 => ?_) (fun z650076 => ?_)
            · show J x (mflat [(t, .inl (.inr (9, [.ref t0, .int (nI tsz), .int (nI tkd), .int (nI tpl), .int (nI tbh), .long twd, .int tnu]))), (t0, .inl (.inl (kA 0, 1600, .inl tby)))]) [(2, .int (nI v2_28_65006)), (0, .ref t), (1, .ref (kA (100 + si)))] 0 0 56 []
              refine j_iinc (v := nI (v2_28_65006 + 1)) (lv' := [(2, .int (nI (v2_28_65006 + 1))), (0, .ref t), (1, .ref (kA (100 + si)))]) h dX9_isAt_56 0 rfl (nI_add v2_28_65006 1) (by decide) rfl ?_
              refine j_goto h 28 dX9_isAt_59 (by decide) ?_
              refine jm_sub [0, 1] (w' := [(t, .inl (.inr (9, [.ref t0, .int (nI tsz), .int (nI tkd), .int (nI tpl), .int (nI tbh), .long twd, .int tnu]))), (t0, .inl (.inl (kA 0, 1600, .inl tby)))]) rfl (by decide +kernel) [0, 1, 2] (lv' := [(2, .int (nI (v2_28_65006 + 1))), (0, .ref t), (1, .ref (kA (100 + si)))]) rfl ?_
              exact ih28_65006 (v2_28_65006 + 1) (show ∀ j, j < (v2_28_65006 + 1) → ct (tpl + j) = sN si j from all_s (P := fun j => ct (tpl + j) = sN si j) i28_65006_0 (isA_b hcb (by omega) hsi (by omega) z650076)) (show (v2_28_65006 + 1) ≤ sL si by first | assumption | omega) (show (v2_28_65006 + 1) ≤ 100000 by first | assumption | omega) (show sL si - (v2_28_65006 + 1) < m28_65006 by omega)
            · show J x (mflat [(t, .inl (.inr (9, [.ref t0, .int (nI tsz), .int (nI tkd), .int (nI tpl), .int (nI tbh), .long twd, .int tnu]))), (t0, .inl (.inl (kA 0, 1600, .inl tby)))]) [(2, .int (nI v2_28_65006)), (0, .ref t), (1, .ref (kA (100 + si)))] 0 0 54 []
              refine j_iconst (v := 0) h (by decide) dX9_isAt_54 ?_
              exact jm_zret h hq rfl dX9_isAt_55 0 [0, 1] rfl (by decide) ⟨rfl, (show 0 ≤ 1 by first | assumption | omega), (show 0 = 1 → isWd ct tsz p w from fun h9 => absurd h9 (by decide)), (show 0 = 0 → ¬ isWd ct tsz p w from fun _ h9 => isA_nb (by omega) hsi (by omega) z650076 ((isA_w htk hsi (hsw ▸ h9)).2.2 _ (by omega)))⟩ (Nat.le_of_ble_eq_true rfl) (Nat.le_of_ble_eq_true rfl)
      refine jm_sub [0, 1] (w' := [(t, .inl (.inr (9, [.ref t0, .int (nI tsz), .int (nI tkd), .int (nI tpl), .int (nI tbh), .long twd, .int tnu]))), (t0, .inl (.inl (kA 0, 1600, .inl tby)))]) rfl (by decide +kernel) [0, 1, 2] (lv' := [(2, .int 0), (0, .ref t), (1, .ref (kA (100 + si)))]) rfl ?_
      exact lp28_65006 (sL si - 0 + 1) 0 (show ∀ j, j < 0 → ct (tpl + j) = sN si j from (fun j hj => absurd hj (Nat.not_lt_zero j))) (show 0 ≤ sL si by first | assumption | omega) (show 0 ≤ 100000 by first | assumption | omega) (Nat.lt_succ_self _)
    · have z650043n : ¬ (tbh - tpl) = (sL si) := fun q9 => z650043 ((nI_eq (a := (tbh - tpl)) (b := (sL si)) (by omega) (by omega)).mpr q9)
      refine j_iconst (v := 0) h (by decide) dX9_isAt_24 ?_
      exact jm_zret h hq rfl dX9_isAt_25 0 [0, 1] rfl (by decide) ⟨rfl, (show 0 ≤ 1 by first | assumption | omega), (show 0 = 1 → isWd ct tsz p w from fun h9 => absurd h9 (by decide)), (show 0 = 0 → ¬ isWd ct tsz p w from fun _ h9 => absurd (isA_w htk hsi (hsw ▸ h9)).2.1 (by omega))⟩ (Nat.le_of_ble_eq_true rfl) (Nat.le_of_ble_eq_true rfl)
set_option maxHeartbeats 4000000 in
set_option maxRecDepth 100000 in
theorem s_X9_isAtNameF (lau : Launch) (gg : va_G) (kA : Nat → ClassId) (t : Nat) (t0 : Nat) (tsz : Nat) (tkd : Nat) (tpl : Nat) (tbh : Nat) (twd : Int64) (tnu : Int32) (tby : Nat → Int32) (ct : Nat → Nat) (p : Nat) (htsz : tsz ≤ 1600) (htpl : tpl ≤ tsz) (htbh : tbh ≤ tsz) (hkd : tkd ≤ 4) (hct : CtC ct tsz tby) (hcb : CbOk ct tsz) (htk : TokC ct tsz p tkd tpl tbh tnu twd) : CtI lau yX9_isAtName cX9_isAtName 1 (some .boolean) 6 0 0 gg kA [.ref t] (mflat [(t, .inl (.inr (9, [.ref t0, .int (nI tsz), .int (nI tkd), .int (nI tpl), .int (nI tbh), .long twd, .int tnu]))), (t0, .inl (.inl (kA 0, 1600, .inl tby)))]) (S := Nat) (fun (r : Int32) (y_r : Nat) => r = nI y_r ∧ (y_r ≤ 1) ∧ (y_r = 1 → isNm ct tsz p) ∧ (y_r = 0 → ¬ isNm ct tsz p)) (fun (y_r : Nat) => mflat [(t, .inl (.inr (9, [.ref t0, .int (nI tsz), .int (nI tkd), .int (nI tpl), .int (nI tbh), .long twd, .int tnu]))), (t0, .inl (.inl (kA 0, 1600, .inl tby)))]) := by
  refine nx_startI (by decide +kernel) (Nat.le_of_ble_eq_true rfl) ?_
  intro x hnm h hq
  have h : Ok x cX9_isAtName RX9 kA (rmC 6 0 0) 1 := h
  show J x (mflat [(t, .inl (.inr (9, [.ref t0, .int (nI tsz), .int (nI tkd), .int (nI tpl), .int (nI tbh), .long twd, .int tnu]))), (t0, .inl (.inl (kA 0, 1600, .inl tby)))]) [(0, .ref t)] 0 0 0 []
  refine j_aload_n h 0 rfl rfl dX9_isAtName_0 ?_
  refine jm_get h iw_X9 0 rfl rfl 2 (by decide +kernel) tw_125 rfl dX9_isAtName_1 ?_
  refine j_iconst (v := 1) h (by decide) dX9_isAtName_4 ?_
  refine j_icmp_ne h 102 dX9_isAtName_5 (by decide) (fun z650158 => ?_) (fun z650158 => ?_)
  · have z650158n : ¬ tkd = 1 := fun q9 => z650158 ((nI_eq (a := tkd) (b := 1) (by omega) (by omega)).mpr q9)
    refine j_iconst (v := 0) h (by decide) dX9_isAtName_102 ?_
    exact jm_zret h hq rfl dX9_isAtName_103 0 [0, 1] rfl (by decide) ⟨rfl, (show 0 ≤ 1 by first | assumption | omega), (show 0 = 1 → isNm ct tsz p from fun h9 => absurd h9 (by decide)), (show 0 = 0 → ¬ isNm ct tsz p from fun _ h9 => absurd ((kd_S htk.1).2.1.mpr h9.1) (by omega))⟩ (Nat.le_of_ble_eq_true rfl) (Nat.le_of_ble_eq_true rfl)
  · have z650158n : tkd = 1 := (nI_eq (a := tkd) (b := 1) (by omega) (by omega)).mp z650158
    have hs9 := (kd_S htk.1).2.1.mp (by omega)
    refine j_aload_n h 0 rfl rfl dX9_isAtName_8 ?_
    refine j_ldcS h 1 (by decide) rfl rfl dX9_isAtName_9 ?_
    refine jm_callVi (np := 1) (isC := [0, 1]) (isR := []) (wc := [(t, .inl (.inr (9, [.ref t0, .int (nI tsz), .int (nI tkd), .int (nI tpl), .int (nI tbh), .long twd, .int tnu]))), (t0, .inl (.inl (kA 0, 1600, .inl tby)))]) (wr := []) (rest := []) (As := [.ref (kA (100 + 1))]) (q0 := 0) h (s_X9_isAtF _ _ kA t 1 t0 tsz tkd tpl tbh twd tnu tby ct p 1937007984 (show tsz ≤ 1600 by first | assumption | omega) (show tpl ≤ tsz by first | assumption | omega) (show tbh ≤ tsz by first | assumption | omega) (show tkd ≤ 4 by first | assumption | omega) (show CtC ct tsz tby by first | assumption | omega) (show CbOk ct tsz by first | assumption | omega) (show 1 < 20 by first | assumption | omega) (show TokC ct tsz p tkd tpl tbh tnu twd from htk) (show sW 1 = 1937007984 from sW_1)) tw_661 tw_592 tw_593 tw_88 tw_594 (by decide +kernel) rfl ⟨Nat.le_of_ble_eq_true rfl, Nat.le_of_ble_eq_true rfl⟩ rfl rfl (by decide +kernel) rfl rfl (by decide +kernel) (by decide +kernel) (Nat.le_of_ble_eq_true rfl) rfl ⟨Nat.le_of_ble_eq_true rfl, Nat.le_of_ble_eq_true rfl⟩ dX9_isAtName_11 ?_
    rintro r650161 q650159 e650160
    obtain ⟨p650162, p650163, p650164, p650165⟩ := e650160
    subst p650162
    replace p650163 : q650159 ≤ 1 := p650163
    replace p650164 : q650159 = 1 → isWd ct tsz p 1937007984 := p650164
    replace p650165 : q650159 = 0 → ¬ isWd ct tsz p 1937007984 := p650165
    show J x (mflat [(t, .inl (.inr (9, [.ref t0, .int (nI tsz), .int (nI tkd), .int (nI tpl), .int (nI tbh), .long twd, .int tnu]))), (t0, .inl (.inl (kA 0, 1600, .inl tby)))]) [(0, .ref t)] 0 0 14 [.int (nI q650159)]
    refine j_if_ne h 102 dX9_isAtName_14 (by decide) (fun z650166 => ?_) (fun z650166 => ?_)
    · have z650166n : ¬ q650159 = 0 := fun q9 => z650166 ((nI_eq (a := q650159) (b := 0) (by omega) (by omega)).mpr q9)
      refine j_iconst (v := 0) h (by decide) dX9_isAtName_102 ?_
      exact jm_zret h hq rfl dX9_isAtName_103 0 [0, 1] rfl (by decide) ⟨rfl, (show 0 ≤ 1 by first | assumption | omega), (show 0 = 1 → isNm ct tsz p from fun h9 => absurd h9 (by decide)), (show 0 = 0 → ¬ isNm ct tsz p from fun _ h9 => (of_decide_eq_true h9.2).1 ((p650164 (by omega)).2))⟩ (Nat.le_of_ble_eq_true rfl) (Nat.le_of_ble_eq_true rfl)
    · have z650166n : q650159 = 0 := (nI_eq (a := q650159) (b := 0) (by omega) (by omega)).mp z650166
      refine j_aload_n h 0 rfl rfl dX9_isAtName_17 ?_
      refine j_ldcS h 2 (by decide) rfl rfl dX9_isAtName_18 ?_
      refine jm_callVi (np := 1) (isC := [0, 1]) (isR := []) (wc := [(t, .inl (.inr (9, [.ref t0, .int (nI tsz), .int (nI tkd), .int (nI tpl), .int (nI tbh), .long twd, .int tnu]))), (t0, .inl (.inl (kA 0, 1600, .inl tby)))]) (wr := []) (rest := []) (As := [.ref (kA (100 + 2))]) (q0 := 0) h (s_X9_isAtF _ _ kA t 2 t0 tsz tkd tpl tbh twd tnu tby ct p 499850634611 (show tsz ≤ 1600 by first | assumption | omega) (show tpl ≤ tsz by first | assumption | omega) (show tbh ≤ tsz by first | assumption | omega) (show tkd ≤ 4 by first | assumption | omega) (show CtC ct tsz tby by first | assumption | omega) (show CbOk ct tsz by first | assumption | omega) (show 2 < 20 by first | assumption | omega) (show TokC ct tsz p tkd tpl tbh tnu twd from htk) (show sW 2 = 499850634611 from sW_2)) tw_661 tw_592 tw_593 tw_88 tw_594 (by decide +kernel) rfl ⟨Nat.le_of_ble_eq_true rfl, Nat.le_of_ble_eq_true rfl⟩ rfl rfl (by decide +kernel) rfl rfl (by decide +kernel) (by decide +kernel) (Nat.le_of_ble_eq_true rfl) rfl ⟨Nat.le_of_ble_eq_true rfl, Nat.le_of_ble_eq_true rfl⟩ dX9_isAtName_20 ?_
      rintro r650169 q650167 e650168
      obtain ⟨p650170, p650171, p650172, p650173⟩ := e650168
      subst p650170
      replace p650171 : q650167 ≤ 1 := p650171
      replace p650172 : q650167 = 1 → isWd ct tsz p 499850634611 := p650172
      replace p650173 : q650167 = 0 → ¬ isWd ct tsz p 499850634611 := p650173
      show J x (mflat [(t, .inl (.inr (9, [.ref t0, .int (nI tsz), .int (nI tkd), .int (nI tpl), .int (nI tbh), .long twd, .int tnu]))), (t0, .inl (.inl (kA 0, 1600, .inl tby)))]) [(0, .ref t)] 0 0 23 [.int (nI q650167)]
      refine j_if_ne h 102 dX9_isAtName_23 (by decide) (fun z650174 => ?_) (fun z650174 => ?_)
      · have z650174n : ¬ q650167 = 0 := fun q9 => z650174 ((nI_eq (a := q650167) (b := 0) (by omega) (by omega)).mpr q9)
        refine j_iconst (v := 0) h (by decide) dX9_isAtName_102 ?_
        exact jm_zret h hq rfl dX9_isAtName_103 0 [0, 1] rfl (by decide) ⟨rfl, (show 0 ≤ 1 by first | assumption | omega), (show 0 = 1 → isNm ct tsz p from fun h9 => absurd h9 (by decide)), (show 0 = 0 → ¬ isNm ct tsz p from fun _ h9 => (of_decide_eq_true h9.2).2.1 ((p650172 (by omega)).2))⟩ (Nat.le_of_ble_eq_true rfl) (Nat.le_of_ble_eq_true rfl)
      · have z650174n : q650167 = 0 := (nI_eq (a := q650167) (b := 0) (by omega) (by omega)).mp z650174
        refine j_aload_n h 0 rfl rfl dX9_isAtName_26 ?_
        refine j_ldcS h 3 (by decide) rfl rfl dX9_isAtName_27 ?_
        refine jm_callVi (np := 1) (isC := [0, 1]) (isR := []) (wc := [(t, .inl (.inr (9, [.ref t0, .int (nI tsz), .int (nI tkd), .int (nI tpl), .int (nI tbh), .long twd, .int tnu]))), (t0, .inl (.inl (kA 0, 1600, .inl tby)))]) (wr := []) (rest := []) (As := [.ref (kA (100 + 3))]) (q0 := 0) h (s_X9_isAtF _ _ kA t 3 t0 tsz tkd tpl tbh twd tnu tby ct p 1819243876 (show tsz ≤ 1600 by first | assumption | omega) (show tpl ≤ tsz by first | assumption | omega) (show tbh ≤ tsz by first | assumption | omega) (show tkd ≤ 4 by first | assumption | omega) (show CtC ct tsz tby by first | assumption | omega) (show CbOk ct tsz by first | assumption | omega) (show 3 < 20 by first | assumption | omega) (show TokC ct tsz p tkd tpl tbh tnu twd from htk) (show sW 3 = 1819243876 from sW_3)) tw_661 tw_592 tw_593 tw_88 tw_594 (by decide +kernel) rfl ⟨Nat.le_of_ble_eq_true rfl, Nat.le_of_ble_eq_true rfl⟩ rfl rfl (by decide +kernel) rfl rfl (by decide +kernel) (by decide +kernel) (Nat.le_of_ble_eq_true rfl) rfl ⟨Nat.le_of_ble_eq_true rfl, Nat.le_of_ble_eq_true rfl⟩ dX9_isAtName_29 ?_
        rintro r650177 q650175 e650176
        obtain ⟨p650178, p650179, p650180, p650181⟩ := e650176
        subst p650178
        replace p650179 : q650175 ≤ 1 := p650179
        replace p650180 : q650175 = 1 → isWd ct tsz p 1819243876 := p650180
        replace p650181 : q650175 = 0 → ¬ isWd ct tsz p 1819243876 := p650181
        show J x (mflat [(t, .inl (.inr (9, [.ref t0, .int (nI tsz), .int (nI tkd), .int (nI tpl), .int (nI tbh), .long twd, .int tnu]))), (t0, .inl (.inl (kA 0, 1600, .inl tby)))]) [(0, .ref t)] 0 0 32 [.int (nI q650175)]
        refine j_if_ne h 102 dX9_isAtName_32 (by decide) (fun z650182 => ?_) (fun z650182 => ?_)
        · have z650182n : ¬ q650175 = 0 := fun q9 => z650182 ((nI_eq (a := q650175) (b := 0) (by omega) (by omega)).mpr q9)
          refine j_iconst (v := 0) h (by decide) dX9_isAtName_102 ?_
          exact jm_zret h hq rfl dX9_isAtName_103 0 [0, 1] rfl (by decide) ⟨rfl, (show 0 ≤ 1 by first | assumption | omega), (show 0 = 1 → isNm ct tsz p from fun h9 => absurd h9 (by decide)), (show 0 = 0 → ¬ isNm ct tsz p from fun _ h9 => (of_decide_eq_true h9.2).2.2.1 ((p650180 (by omega)).2))⟩ (Nat.le_of_ble_eq_true rfl) (Nat.le_of_ble_eq_true rfl)
        · have z650182n : q650175 = 0 := (nI_eq (a := q650175) (b := 0) (by omega) (by omega)).mp z650182
          refine j_aload_n h 0 rfl rfl dX9_isAtName_35 ?_
          refine j_ldcS h 4 (by decide) rfl rfl dX9_isAtName_36 ?_
          refine jm_callVi (np := 1) (isC := [0, 1]) (isR := []) (wc := [(t, .inl (.inr (9, [.ref t0, .int (nI tsz), .int (nI tkd), .int (nI tpl), .int (nI tbh), .long twd, .int tnu]))), (t0, .inl (.inl (kA 0, 1600, .inl tby)))]) (wr := []) (rest := []) (As := [.ref (kA (100 + 4))]) (q0 := 0) h (s_X9_isAtF _ _ kA t 4 t0 tsz tkd tpl tbh twd tnu tby ct p 1818584692 (show tsz ≤ 1600 by first | assumption | omega) (show tpl ≤ tsz by first | assumption | omega) (show tbh ≤ tsz by first | assumption | omega) (show tkd ≤ 4 by first | assumption | omega) (show CtC ct tsz tby by first | assumption | omega) (show CbOk ct tsz by first | assumption | omega) (show 4 < 20 by first | assumption | omega) (show TokC ct tsz p tkd tpl tbh tnu twd from htk) (show sW 4 = 1818584692 from sW_4)) tw_661 tw_592 tw_593 tw_88 tw_594 (by decide +kernel) rfl ⟨Nat.le_of_ble_eq_true rfl, Nat.le_of_ble_eq_true rfl⟩ rfl rfl (by decide +kernel) rfl rfl (by decide +kernel) (by decide +kernel) (Nat.le_of_ble_eq_true rfl) rfl ⟨Nat.le_of_ble_eq_true rfl, Nat.le_of_ble_eq_true rfl⟩ dX9_isAtName_38 ?_
          rintro r650185 q650183 e650184
          obtain ⟨p650186, p650187, p650188, p650189⟩ := e650184
          subst p650186
          replace p650187 : q650183 ≤ 1 := p650187
          replace p650188 : q650183 = 1 → isWd ct tsz p 1818584692 := p650188
          replace p650189 : q650183 = 0 → ¬ isWd ct tsz p 1818584692 := p650189
          show J x (mflat [(t, .inl (.inr (9, [.ref t0, .int (nI tsz), .int (nI tkd), .int (nI tpl), .int (nI tbh), .long twd, .int tnu]))), (t0, .inl (.inl (kA 0, 1600, .inl tby)))]) [(0, .ref t)] 0 0 41 [.int (nI q650183)]
          refine j_if_ne h 102 dX9_isAtName_41 (by decide) (fun z650190 => ?_) (fun z650190 => ?_)
          · have z650190n : ¬ q650183 = 0 := fun q9 => z650190 ((nI_eq (a := q650183) (b := 0) (by omega) (by omega)).mpr q9)
            refine j_iconst (v := 0) h (by decide) dX9_isAtName_102 ?_
            exact jm_zret h hq rfl dX9_isAtName_103 0 [0, 1] rfl (by decide) ⟨rfl, (show 0 ≤ 1 by first | assumption | omega), (show 0 = 1 → isNm ct tsz p from fun h9 => absurd h9 (by decide)), (show 0 = 0 → ¬ isNm ct tsz p from fun _ h9 => (of_decide_eq_true h9.2).2.2.2.1 ((p650188 (by omega)).2))⟩ (Nat.le_of_ble_eq_true rfl) (Nat.le_of_ble_eq_true rfl)
          · have z650190n : q650183 = 0 := (nI_eq (a := q650183) (b := 0) (by omega) (by omega)).mp z650190
            refine j_aload_n h 0 rfl rfl dX9_isAtName_44 ?_
            refine j_ldcS h 5 (by decide) rfl rfl dX9_isAtName_45 ?_
            refine jm_callVi (np := 1) (isC := [0, 1]) (isR := []) (wc := [(t, .inl (.inr (9, [.ref t0, .int (nI tsz), .int (nI tkd), .int (nI tpl), .int (nI tbh), .long twd, .int tnu]))), (t0, .inl (.inl (kA 0, 1600, .inl tby)))]) (wr := []) (rest := []) (As := [.ref (kA (100 + 5))]) (q0 := 0) h (s_X9_isAtF _ _ kA t 5 t0 tsz tkd tpl tbh twd tnu tby ct p 491394656372 (show tsz ≤ 1600 by first | assumption | omega) (show tpl ≤ tsz by first | assumption | omega) (show tbh ≤ tsz by first | assumption | omega) (show tkd ≤ 4 by first | assumption | omega) (show CtC ct tsz tby by first | assumption | omega) (show CbOk ct tsz by first | assumption | omega) (show 5 < 20 by first | assumption | omega) (show TokC ct tsz p tkd tpl tbh tnu twd from htk) (show sW 5 = 491394656372 from sW_5)) tw_661 tw_592 tw_593 tw_88 tw_594 (by decide +kernel) rfl ⟨Nat.le_of_ble_eq_true rfl, Nat.le_of_ble_eq_true rfl⟩ rfl rfl (by decide +kernel) rfl rfl (by decide +kernel) (by decide +kernel) (Nat.le_of_ble_eq_true rfl) rfl ⟨Nat.le_of_ble_eq_true rfl, Nat.le_of_ble_eq_true rfl⟩ dX9_isAtName_47 ?_
            rintro r650193 q650191 e650192
            obtain ⟨p650194, p650195, p650196, p650197⟩ := e650192
            subst p650194
            replace p650195 : q650191 ≤ 1 := p650195
            replace p650196 : q650191 = 1 → isWd ct tsz p 491394656372 := p650196
            replace p650197 : q650191 = 0 → ¬ isWd ct tsz p 491394656372 := p650197
            show J x (mflat [(t, .inl (.inr (9, [.ref t0, .int (nI tsz), .int (nI tkd), .int (nI tpl), .int (nI tbh), .long twd, .int tnu]))), (t0, .inl (.inl (kA 0, 1600, .inl tby)))]) [(0, .ref t)] 0 0 50 [.int (nI q650191)]
            refine j_if_ne h 102 dX9_isAtName_50 (by decide) (fun z650198 => ?_) (fun z650198 => ?_)
            · have z650198n : ¬ q650191 = 0 := fun q9 => z650198 ((nI_eq (a := q650191) (b := 0) (by omega) (by omega)).mpr q9)
              refine j_iconst (v := 0) h (by decide) dX9_isAtName_102 ?_
              exact jm_zret h hq rfl dX9_isAtName_103 0 [0, 1] rfl (by decide) ⟨rfl, (show 0 ≤ 1 by first | assumption | omega), (show 0 = 1 → isNm ct tsz p from fun h9 => absurd h9 (by decide)), (show 0 = 0 → ¬ isNm ct tsz p from fun _ h9 => (of_decide_eq_true h9.2).2.2.2.2.1 ((p650196 (by omega)).2))⟩ (Nat.le_of_ble_eq_true rfl) (Nat.le_of_ble_eq_true rfl)
            · have z650198n : q650191 = 0 := (nI_eq (a := q650191) (b := 0) (by omega) (by omega)).mp z650198
              refine j_aload_n h 0 rfl rfl dX9_isAtName_53 ?_
              refine j_ldcS h 6 (by decide) rfl rfl dX9_isAtName_54 ?_
              refine jm_callVi (np := 1) (isC := [0, 1]) (isR := []) (wc := [(t, .inl (.inr (9, [.ref t0, .int (nI tsz), .int (nI tkd), .int (nI tpl), .int (nI tbh), .long twd, .int tnu]))), (t0, .inl (.inl (kA 0, 1600, .inl tby)))]) (wr := []) (rest := []) (As := [.ref (kA (100 + 6))]) (q0 := 0) h (s_X9_isAtF _ _ kA t 6 t0 tsz tkd tpl tbh twd tnu tby ct p 495874305132 (show tsz ≤ 1600 by first | assumption | omega) (show tpl ≤ tsz by first | assumption | omega) (show tbh ≤ tsz by first | assumption | omega) (show tkd ≤ 4 by first | assumption | omega) (show CtC ct tsz tby by first | assumption | omega) (show CbOk ct tsz by first | assumption | omega) (show 6 < 20 by first | assumption | omega) (show TokC ct tsz p tkd tpl tbh tnu twd from htk) (show sW 6 = 495874305132 from sW_6)) tw_661 tw_592 tw_593 tw_88 tw_594 (by decide +kernel) rfl ⟨Nat.le_of_ble_eq_true rfl, Nat.le_of_ble_eq_true rfl⟩ rfl rfl (by decide +kernel) rfl rfl (by decide +kernel) (by decide +kernel) (Nat.le_of_ble_eq_true rfl) rfl ⟨Nat.le_of_ble_eq_true rfl, Nat.le_of_ble_eq_true rfl⟩ dX9_isAtName_56 ?_
              rintro r650201 q650199 e650200
              obtain ⟨p650202, p650203, p650204, p650205⟩ := e650200
              subst p650202
              replace p650203 : q650199 ≤ 1 := p650203
              replace p650204 : q650199 = 1 → isWd ct tsz p 495874305132 := p650204
              replace p650205 : q650199 = 0 → ¬ isWd ct tsz p 495874305132 := p650205
              show J x (mflat [(t, .inl (.inr (9, [.ref t0, .int (nI tsz), .int (nI tkd), .int (nI tpl), .int (nI tbh), .long twd, .int tnu]))), (t0, .inl (.inl (kA 0, 1600, .inl tby)))]) [(0, .ref t)] 0 0 59 [.int (nI q650199)]
              refine j_if_ne h 102 dX9_isAtName_59 (by decide) (fun z650206 => ?_) (fun z650206 => ?_)
              · have z650206n : ¬ q650199 = 0 := fun q9 => z650206 ((nI_eq (a := q650199) (b := 0) (by omega) (by omega)).mpr q9)
                refine j_iconst (v := 0) h (by decide) dX9_isAtName_102 ?_
                exact jm_zret h hq rfl dX9_isAtName_103 0 [0, 1] rfl (by decide) ⟨rfl, (show 0 ≤ 1 by first | assumption | omega), (show 0 = 1 → isNm ct tsz p from fun h9 => absurd h9 (by decide)), (show 0 = 0 → ¬ isNm ct tsz p from fun _ h9 => (of_decide_eq_true h9.2).2.2.2.2.2.1 ((p650204 (by omega)).2))⟩ (Nat.le_of_ble_eq_true rfl) (Nat.le_of_ble_eq_true rfl)
              · have z650206n : q650199 = 0 := (nI_eq (a := q650199) (b := 0) (by omega) (by omega)).mp z650206
                refine j_aload_n h 0 rfl rfl dX9_isAtName_62 ?_
                refine j_ldcS h 7 (by decide) rfl rfl dX9_isAtName_63 ?_
                refine jm_callVi (np := 1) (isC := [0, 1]) (isR := []) (wc := [(t, .inl (.inr (9, [.ref t0, .int (nI tsz), .int (nI tkd), .int (nI tpl), .int (nI tbh), .long twd, .int tnu]))), (t0, .inl (.inl (kA 0, 1600, .inl tby)))]) (wr := []) (rest := []) (As := [.ref (kA (100 + 7))]) (q0 := 0) h (s_X9_isAtF _ _ kA t 7 t0 tsz tkd tpl tbh twd tnu tby ct p 119183001281906 (show tsz ≤ 1600 by first | assumption | omega) (show tpl ≤ tsz by first | assumption | omega) (show tbh ≤ tsz by first | assumption | omega) (show tkd ≤ 4 by first | assumption | omega) (show CtC ct tsz tby by first | assumption | omega) (show CbOk ct tsz by first | assumption | omega) (show 7 < 20 by first | assumption | omega) (show TokC ct tsz p tkd tpl tbh tnu twd from htk) (show sW 7 = 119183001281906 from sW_7)) tw_661 tw_592 tw_593 tw_88 tw_594 (by decide +kernel) rfl ⟨Nat.le_of_ble_eq_true rfl, Nat.le_of_ble_eq_true rfl⟩ rfl rfl (by decide +kernel) rfl rfl (by decide +kernel) (by decide +kernel) (Nat.le_of_ble_eq_true rfl) rfl ⟨Nat.le_of_ble_eq_true rfl, Nat.le_of_ble_eq_true rfl⟩ dX9_isAtName_65 ?_
                rintro r650209 q650207 e650208
                obtain ⟨p650210, p650211, p650212, p650213⟩ := e650208
                subst p650210
                replace p650211 : q650207 ≤ 1 := p650211
                replace p650212 : q650207 = 1 → isWd ct tsz p 119183001281906 := p650212
                replace p650213 : q650207 = 0 → ¬ isWd ct tsz p 119183001281906 := p650213
                show J x (mflat [(t, .inl (.inr (9, [.ref t0, .int (nI tsz), .int (nI tkd), .int (nI tpl), .int (nI tbh), .long twd, .int tnu]))), (t0, .inl (.inl (kA 0, 1600, .inl tby)))]) [(0, .ref t)] 0 0 68 [.int (nI q650207)]
                refine j_if_ne h 102 dX9_isAtName_68 (by decide) (fun z650214 => ?_) (fun z650214 => ?_)
                · have z650214n : ¬ q650207 = 0 := fun q9 => z650214 ((nI_eq (a := q650207) (b := 0) (by omega) (by omega)).mpr q9)
                  refine j_iconst (v := 0) h (by decide) dX9_isAtName_102 ?_
                  exact jm_zret h hq rfl dX9_isAtName_103 0 [0, 1] rfl (by decide) ⟨rfl, (show 0 ≤ 1 by first | assumption | omega), (show 0 = 1 → isNm ct tsz p from fun h9 => absurd h9 (by decide)), (show 0 = 0 → ¬ isNm ct tsz p from fun _ h9 => (of_decide_eq_true h9.2).2.2.2.2.2.2.1 ((p650212 (by omega)).2))⟩ (Nat.le_of_ble_eq_true rfl) (Nat.le_of_ble_eq_true rfl)
                · have z650214n : q650207 = 0 := (nI_eq (a := q650207) (b := 0) (by omega) (by omega)).mp z650214
                  refine j_aload_n h 0 rfl rfl dX9_isAtName_71 ?_
                  refine j_ldcS h 8 (by decide) rfl rfl dX9_isAtName_72 ?_
                  refine jm_callVi (np := 1) (isC := [0, 1]) (isR := []) (wc := [(t, .inl (.inr (9, [.ref t0, .int (nI tsz), .int (nI tkd), .int (nI tpl), .int (nI tbh), .long twd, .int tnu]))), (t0, .inl (.inl (kA 0, 1600, .inl tby)))]) (wr := []) (rest := []) (As := [.ref (kA (100 + 8))]) (q0 := 0) h (s_X9_isAtF _ _ kA t 8 t0 tsz tkd tpl tbh twd tnu tby ct p 6644082 (show tsz ≤ 1600 by first | assumption | omega) (show tpl ≤ tsz by first | assumption | omega) (show tbh ≤ tsz by first | assumption | omega) (show tkd ≤ 4 by first | assumption | omega) (show CtC ct tsz tby by first | assumption | omega) (show CbOk ct tsz by first | assumption | omega) (show 8 < 20 by first | assumption | omega) (show TokC ct tsz p tkd tpl tbh tnu twd from htk) (show sW 8 = 6644082 from sW_8)) tw_661 tw_592 tw_593 tw_88 tw_594 (by decide +kernel) rfl ⟨Nat.le_of_ble_eq_true rfl, Nat.le_of_ble_eq_true rfl⟩ rfl rfl (by decide +kernel) rfl rfl (by decide +kernel) (by decide +kernel) (Nat.le_of_ble_eq_true rfl) rfl ⟨Nat.le_of_ble_eq_true rfl, Nat.le_of_ble_eq_true rfl⟩ dX9_isAtName_74 ?_
                  rintro r650217 q650215 e650216
                  obtain ⟨p650218, p650219, p650220, p650221⟩ := e650216
                  subst p650218
                  replace p650219 : q650215 ≤ 1 := p650219
                  replace p650220 : q650215 = 1 → isWd ct tsz p 6644082 := p650220
                  replace p650221 : q650215 = 0 → ¬ isWd ct tsz p 6644082 := p650221
                  show J x (mflat [(t, .inl (.inr (9, [.ref t0, .int (nI tsz), .int (nI tkd), .int (nI tpl), .int (nI tbh), .long twd, .int tnu]))), (t0, .inl (.inl (kA 0, 1600, .inl tby)))]) [(0, .ref t)] 0 0 77 [.int (nI q650215)]
                  refine j_if_ne h 102 dX9_isAtName_77 (by decide) (fun z650222 => ?_) (fun z650222 => ?_)
                  · have z650222n : ¬ q650215 = 0 := fun q9 => z650222 ((nI_eq (a := q650215) (b := 0) (by omega) (by omega)).mpr q9)
                    refine j_iconst (v := 0) h (by decide) dX9_isAtName_102 ?_
                    exact jm_zret h hq rfl dX9_isAtName_103 0 [0, 1] rfl (by decide) ⟨rfl, (show 0 ≤ 1 by first | assumption | omega), (show 0 = 1 → isNm ct tsz p from fun h9 => absurd h9 (by decide)), (show 0 = 0 → ¬ isNm ct tsz p from fun _ h9 => (of_decide_eq_true h9.2).2.2.2.2.2.2.2.1 ((p650220 (by omega)).2))⟩ (Nat.le_of_ble_eq_true rfl) (Nat.le_of_ble_eq_true rfl)
                  · have z650222n : q650215 = 0 := (nI_eq (a := q650215) (b := 0) (by omega) (by omega)).mp z650222
                    refine j_aload_n h 0 rfl rfl dX9_isAtName_80 ?_
                    refine j_ldcS h 9 (by decide) rfl rfl dX9_isAtName_81 ?_
                    refine jm_callVi (np := 1) (isC := [0, 1]) (isR := []) (wc := [(t, .inl (.inr (9, [.ref t0, .int (nI tsz), .int (nI tkd), .int (nI tpl), .int (nI tbh), .long twd, .int tnu]))), (t0, .inl (.inl (kA 0, 1600, .inl tby)))]) (wr := []) (rest := []) (As := [.ref (kA (100 + 9))]) (q0 := 0) h (s_X9_isAtF _ _ kA t 9 t0 tsz tkd tpl tbh twd tnu tby ct p 112615912075891 (show tsz ≤ 1600 by first | assumption | omega) (show tpl ≤ tsz by first | assumption | omega) (show tbh ≤ tsz by first | assumption | omega) (show tkd ≤ 4 by first | assumption | omega) (show CtC ct tsz tby by first | assumption | omega) (show CbOk ct tsz by first | assumption | omega) (show 9 < 20 by first | assumption | omega) (show TokC ct tsz p tkd tpl tbh tnu twd from htk) (show sW 9 = 112615912075891 from sW_9)) tw_661 tw_592 tw_593 tw_88 tw_594 (by decide +kernel) rfl ⟨Nat.le_of_ble_eq_true rfl, Nat.le_of_ble_eq_true rfl⟩ rfl rfl (by decide +kernel) rfl rfl (by decide +kernel) (by decide +kernel) (Nat.le_of_ble_eq_true rfl) rfl ⟨Nat.le_of_ble_eq_true rfl, Nat.le_of_ble_eq_true rfl⟩ dX9_isAtName_83 ?_
                    rintro r650225 q650223 e650224
                    obtain ⟨p650226, p650227, p650228, p650229⟩ := e650224
                    subst p650226
                    replace p650227 : q650223 ≤ 1 := p650227
                    replace p650228 : q650223 = 1 → isWd ct tsz p 112615912075891 := p650228
                    replace p650229 : q650223 = 0 → ¬ isWd ct tsz p 112615912075891 := p650229
                    show J x (mflat [(t, .inl (.inr (9, [.ref t0, .int (nI tsz), .int (nI tkd), .int (nI tpl), .int (nI tbh), .long twd, .int tnu]))), (t0, .inl (.inl (kA 0, 1600, .inl tby)))]) [(0, .ref t)] 0 0 86 [.int (nI q650223)]
                    refine j_if_ne h 102 dX9_isAtName_86 (by decide) (fun z650230 => ?_) (fun z650230 => ?_)
                    · have z650230n : ¬ q650223 = 0 := fun q9 => z650230 ((nI_eq (a := q650223) (b := 0) (by omega) (by omega)).mpr q9)
                      refine j_iconst (v := 0) h (by decide) dX9_isAtName_102 ?_
                      exact jm_zret h hq rfl dX9_isAtName_103 0 [0, 1] rfl (by decide) ⟨rfl, (show 0 ≤ 1 by first | assumption | omega), (show 0 = 1 → isNm ct tsz p from fun h9 => absurd h9 (by decide)), (show 0 = 0 → ¬ isNm ct tsz p from fun _ h9 => (of_decide_eq_true h9.2).2.2.2.2.2.2.2.2.1 ((p650228 (by omega)).2))⟩ (Nat.le_of_ble_eq_true rfl) (Nat.le_of_ble_eq_true rfl)
                    · have z650230n : q650223 = 0 := (nI_eq (a := q650223) (b := 0) (by omega) (by omega)).mp z650230
                      refine j_aload_n h 0 rfl rfl dX9_isAtName_89 ?_
                      refine j_ldcS h 10 (by decide) rfl rfl dX9_isAtName_90 ?_
                      refine jm_callVi (np := 1) (isC := [0, 1]) (isR := []) (wc := [(t, .inl (.inr (9, [.ref t0, .int (nI tsz), .int (nI tkd), .int (nI tpl), .int (nI tbh), .long twd, .int tnu]))), (t0, .inl (.inl (kA 0, 1600, .inl tby)))]) (wr := []) (rest := []) (As := [.ref (kA (100 + 10))]) (q0 := 0) h (s_X9_isAtF _ _ kA t 10 t0 tsz tkd tpl tbh twd tnu tby ct p 1651470187 (show tsz ≤ 1600 by first | assumption | omega) (show tpl ≤ tsz by first | assumption | omega) (show tbh ≤ tsz by first | assumption | omega) (show tkd ≤ 4 by first | assumption | omega) (show CtC ct tsz tby by first | assumption | omega) (show CbOk ct tsz by first | assumption | omega) (show 10 < 20 by first | assumption | omega) (show TokC ct tsz p tkd tpl tbh tnu twd from htk) (show sW 10 = 1651470187 from sW_10)) tw_661 tw_592 tw_593 tw_88 tw_594 (by decide +kernel) rfl ⟨Nat.le_of_ble_eq_true rfl, Nat.le_of_ble_eq_true rfl⟩ rfl rfl (by decide +kernel) rfl rfl (by decide +kernel) (by decide +kernel) (Nat.le_of_ble_eq_true rfl) rfl ⟨Nat.le_of_ble_eq_true rfl, Nat.le_of_ble_eq_true rfl⟩ dX9_isAtName_92 ?_
                      rintro r650233 q650231 e650232
                      obtain ⟨p650234, p650235, p650236, p650237⟩ := e650232
                      subst p650234
                      replace p650235 : q650231 ≤ 1 := p650235
                      replace p650236 : q650231 = 1 → isWd ct tsz p 1651470187 := p650236
                      replace p650237 : q650231 = 0 → ¬ isWd ct tsz p 1651470187 := p650237
                      show J x (mflat [(t, .inl (.inr (9, [.ref t0, .int (nI tsz), .int (nI tkd), .int (nI tpl), .int (nI tbh), .long twd, .int tnu]))), (t0, .inl (.inl (kA 0, 1600, .inl tby)))]) [(0, .ref t)] 0 0 95 [.int (nI q650231)]
                      refine j_if_ne h 102 dX9_isAtName_95 (by decide) (fun z650238 => ?_) (fun z650238 => ?_)
                      · have z650238n : ¬ q650231 = 0 := fun q9 => z650238 ((nI_eq (a := q650231) (b := 0) (by omega) (by omega)).mpr q9)
                        refine j_iconst (v := 0) h (by decide) dX9_isAtName_102 ?_
                        exact jm_zret h hq rfl dX9_isAtName_103 0 [0, 1] rfl (by decide) ⟨rfl, (show 0 ≤ 1 by first | assumption | omega), (show 0 = 1 → isNm ct tsz p from fun h9 => absurd h9 (by decide)), (show 0 = 0 → ¬ isNm ct tsz p from fun _ h9 => (of_decide_eq_true h9.2).2.2.2.2.2.2.2.2.2 ((p650236 (by omega)).2))⟩ (Nat.le_of_ble_eq_true rfl) (Nat.le_of_ble_eq_true rfl)
                      · have z650238n : q650231 = 0 := (nI_eq (a := q650231) (b := 0) (by omega) (by omega)).mp z650238
                        refine j_iconst (v := 1) h (by decide) dX9_isAtName_98 ?_
                        refine j_goto h 103 dX9_isAtName_99 (by decide) ?_
                        exact jm_zret h hq rfl dX9_isAtName_103 1 [0, 1] rfl (by decide) ⟨rfl, (show 1 ≤ 1 by first | assumption | omega), (show 1 = 1 → isNm ct tsz p from fun _ => ⟨hs9, decide_eq_true ⟨fun e9 => p650165 (by omega) ⟨hs9, e9⟩, fun e9 => p650173 (by omega) ⟨hs9, e9⟩, fun e9 => p650181 (by omega) ⟨hs9, e9⟩, fun e9 => p650189 (by omega) ⟨hs9, e9⟩, fun e9 => p650197 (by omega) ⟨hs9, e9⟩, fun e9 => p650205 (by omega) ⟨hs9, e9⟩, fun e9 => p650213 (by omega) ⟨hs9, e9⟩, fun e9 => p650221 (by omega) ⟨hs9, e9⟩, fun e9 => p650229 (by omega) ⟨hs9, e9⟩, fun e9 => p650237 (by omega) ⟨hs9, e9⟩⟩⟩), (show 1 = 0 → ¬ isNm ct tsz p from fun h9 => absurd h9 (by decide))⟩ (Nat.le_of_ble_eq_true rfl) (Nat.le_of_ble_eq_true rfl)
set_option maxHeartbeats 4000000 in
set_option maxRecDepth 100000 in
theorem s_X6_findF (lau : Launch) (gg : va_G) (kA : Nat → ClassId) (nm : Nat) (cn : Nat) (na : Int64) (N0 : Nat) (nf : Nat → Int64) (hN0 : N0 ≤ 10) (hcn : cn ≤ 10) : CtI lau yX6_find cX6_find 5 (some .int) 1 0 0 gg kA [.ref nm, .int (nI cn), .long na] (mflat [(nm, .inl (.inl (kA 2, N0, .inr (.inl nf))))]) (S := Nat) (fun (r : Int32) (y_r : Nat) => r = pm y_r ∧ (y_r ≤ cn) ∧ (y_r = 0 → ∀ k, k < cn → k < N0 → nf k ≠ na) ∧ (¬ y_r = 0 → nf (y_r - 1) = na)) (fun (y_r : Nat) => mflat [(nm, .inl (.inl (kA 2, N0, .inr (.inl nf))))]) := by
  refine nx_startI (by decide +kernel) (Nat.le_of_ble_eq_true rfl) ?_
  intro x hnm h hq
  have h : Ok x cX6_find RX6 kA (rmC 1 0 0) 5 := h
  show J x (mflat [(nm, .inl (.inl (kA 2, N0, .inr (.inl nf))))]) [(0, .ref nm), (1, .int (nI cn)), (2, .long na)] 0 0 0 []
  refine j_iconst (v := 0) h (by decide) dX6_find_0 ?_
  refine j_istore (lv' := [(4, .int 0), (0, .ref nm), (1, .int (nI cn)), (2, .long na)]) h dX6_find_1 (by decide) rfl ?_
  have lp3_65012 : ∀ (m3_65012 : Nat), ∀ (v4_3_65012 : Nat), (∀ k, k < v4_3_65012 → nf k ≠ na) → (v4_3_65012 ≤ cn) → (v4_3_65012 ≤ 100000) → cn - v4_3_65012 < m3_65012 → J x (mflat [(nm, .inl (.inl (kA 2, N0, .inr (.inl nf))))]) [(4, .int (nI v4_3_65012)), (0, .ref nm), (1, .int (nI cn)), (2, .long na)] 0 0 3 [] := by
    intro m3_65012
    induction m3_65012 with
    | zero =>
      intro v4_3_65012 i3_65012_0 i3_65012_1 i3_65012_2 hm3_65012
      exact absurd hm3_65012 (Nat.not_lt_zero _)
    | succ m3_65012 ih3_65012 =>
      intro v4_3_65012 i3_65012_0 i3_65012_1 i3_65012_2 hm3_65012
      refine j_iload h 0 rfl dX6_find_3 ?_
      refine j_iload_n h 2 rfl rfl dX6_find_5 ?_
      refine j_icmp_ge h 34 dX6_find_6 (by decide) (fun z650254 => ?_) (fun z650254 => ?_)
      · have z650254n : cn ≤ v4_3_65012 := (nI_leI (a := cn) (b := v4_3_65012) (by omega) (by omega)).mp z650254
        refine j_iconst (v := (-1)) h (by decide) dX6_find_34 ?_
        exact jm_iret h hq dX6_find_35 0 [0] rfl (by decide) ⟨rfl, (show 0 ≤ cn by first | assumption | omega), (show 0 = 0 → ∀ k, k < cn → k < N0 → nf k ≠ na from fun _ k9 h8 h7 => i3_65012_0 k9 (by omega)), (show ¬ 0 = 0 → nf (0 - 1) = na from fun h9 => absurd rfl h9)⟩ (Nat.le_of_ble_eq_true rfl) (Nat.le_of_ble_eq_true rfl)
      · have z650254n : ¬ cn ≤ v4_3_65012 := fun q9 => z650254 ((nI_leI (a := cn) (b := v4_3_65012) (by omega) (by omega)).mpr q9)
        refine j_iload h 0 rfl dX6_find_9 ?_
        refine j_aload_n h 1 rfl rfl dX6_find_11 ?_
        refine jm_alen (v := nI N0) h 0 2 rfl rfl rfl dX6_find_12 ?_
        refine j_icmp_ge h 34 dX6_find_13 (by decide) (fun z650255 => ?_) (fun z650255 => ?_)
        · have z650255n : N0 ≤ v4_3_65012 := (nI_leI (a := N0) (b := v4_3_65012) (by omega) (by omega)).mp z650255
          refine j_iconst (v := (-1)) h (by decide) dX6_find_34 ?_
          exact jm_iret h hq dX6_find_35 0 [0] rfl (by decide) ⟨rfl, (show 0 ≤ cn by first | assumption | omega), (show 0 = 0 → ∀ k, k < cn → k < N0 → nf k ≠ na from fun _ k9 h8 h7 => i3_65012_0 k9 (by omega)), (show ¬ 0 = 0 → nf (0 - 1) = na from fun h9 => absurd rfl h9)⟩ (Nat.le_of_ble_eq_true rfl) (Nat.le_of_ble_eq_true rfl)
        · have z650255n : ¬ N0 ≤ v4_3_65012 := fun q9 => z650255 ((nI_leI (a := N0) (b := v4_3_65012) (by omega) (by omega)).mpr q9)
          refine j_aload_n h 1 rfl rfl dX6_find_16 ?_
          refine j_iload h 0 rfl dX6_find_17 ?_
          refine jm_lald h 0 rfl v4_3_65012 rfl (by omega) (by omega) dX6_find_19 ?_
          refine j_lload_n h 3 rfl rfl dX6_find_20 ?_
          refine j_lcmp h dX6_find_21 ?_
          refine j_if_ne h 28 dX6_find_22 (by decide) (fun z650256 => ?_) (fun z650256 => ?_)
          · show J x (mflat [(nm, .inl (.inl (kA 2, N0, .inr (.inl nf))))]) [(4, .int (nI v4_3_65012)), (0, .ref nm), (1, .int (nI cn)), (2, .long na)] 0 0 28 []
            refine j_iinc (v := nI (v4_3_65012 + 1)) (lv' := [(4, .int (nI (v4_3_65012 + 1))), (0, .ref nm), (1, .int (nI cn)), (2, .long na)]) h dX6_find_28 0 rfl (nI_add v4_3_65012 1) (by decide) rfl ?_
            refine j_goto h 3 dX6_find_31 (by decide) ?_
            refine jm_sub [0] (w' := [(nm, .inl (.inl (kA 2, N0, .inr (.inl nf))))]) rfl (by decide +kernel) [0, 1, 2, 3] (lv' := [(4, .int (nI (v4_3_65012 + 1))), (0, .ref nm), (1, .int (nI cn)), (2, .long na)]) rfl ?_
            exact ih3_65012 (v4_3_65012 + 1) (show ∀ k, k < (v4_3_65012 + 1) → nf k ≠ na from all_s (P := fun k => nf k ≠ na) i3_65012_0 (fun e9 => z650256 ((lg_cmp_eq _ _).mpr e9))) (show (v4_3_65012 + 1) ≤ cn by first | assumption | omega) (show (v4_3_65012 + 1) ≤ 100000 by first | assumption | omega) (show cn - (v4_3_65012 + 1) < m3_65012 by omega)
          · show J x (mflat [(nm, .inl (.inl (kA 2, N0, .inr (.inl nf))))]) [(4, .int (nI v4_3_65012)), (0, .ref nm), (1, .int (nI cn)), (2, .long na)] 0 0 25 []
            refine j_iload h 0 rfl dX6_find_25 ?_
            exact jm_iret h hq dX6_find_27 (v4_3_65012 + 1) [0] rfl (by decide) ⟨rfl, (show (v4_3_65012 + 1) ≤ cn by first | assumption | omega), (show (v4_3_65012 + 1) = 0 → ∀ k, k < cn → k < N0 → nf k ≠ na from fun h9 => absurd h9 (by omega)), (show ¬ (v4_3_65012 + 1) = 0 → nf ((v4_3_65012 + 1) - 1) = na from fun _ => (lg_cmp_eq _ _).mp z650256)⟩ (Nat.le_of_ble_eq_true rfl) (Nat.le_of_ble_eq_true rfl)
  refine jm_sub [0] (w' := [(nm, .inl (.inl (kA 2, N0, .inr (.inl nf))))]) rfl (by decide +kernel) [0, 1, 2, 3] (lv' := [(4, .int 0), (0, .ref nm), (1, .int (nI cn)), (2, .long na)]) rfl ?_
  exact lp3_65012 (cn - 0 + 1) 0 (show ∀ k, k < 0 → nf k ≠ na from (fun j hj => absurd hj (Nat.not_lt_zero j))) (show 0 ≤ cn by first | assumption | omega) (show 0 ≤ 100000 by first | assumption | omega) (Nat.lt_succ_self _)
set_option maxHeartbeats 4000000 in
set_option maxRecDepth 100000 in
theorem s_X6_refuseF (lau : Launch) (gg : va_G) (kA : Nat → ClassId) (rd : Nat) (t : Nat) (why : Nat) (rdf : Nat) (rdp : Int32) (rdn : Int32) (t0 : Nat) (tsz : Nat) (tkd : Nat) (tpl : Nat) (tbh : Nat) (twd : Int64) (tnu : Int32) (hkd : tkd ≤ 4) (hw1 : 1 ≤ why) (hw5 : why ≤ 5) : CtI lau yX6_refuse cX6_refuse 3 (some .boolean) 1 0 0 gg kA [.ref rd, .ref t, .int (nI why)] (mflat [(rd, .inl (.inr (6, [.int (nI rdf), .int rdp, .int rdn]))), (t, .inl (.inr (9, [.ref t0, .int (nI tsz), .int (nI tkd), .int (nI tpl), .int (nI tbh), .long twd, .int tnu])))]) (S := Nat) (fun (r : Int32) (y_rd_0 : Nat) => r = 0 ∧ (y_rd_0 = if tkd = 4 then 1 else why)) (fun (y_rd_0 : Nat) => mflat [(rd, .inl (.inr (6, [.int (nI y_rd_0), .int (nI tpl), .int rdn]))), (t, .inl (.inr (9, [.ref t0, .int (nI tsz), .int (nI tkd), .int (nI tpl), .int (nI tbh), .long twd, .int tnu])))]) := by
  refine nx_startI (by decide +kernel) (Nat.le_of_ble_eq_true rfl) ?_
  intro x hnm h hq
  have h : Ok x cX6_refuse RX6 kA (rmC 1 0 0) 3 := h
  show J x (mflat [(rd, .inl (.inr (6, [.int (nI rdf), .int rdp, .int rdn]))), (t, .inl (.inr (9, [.ref t0, .int (nI tsz), .int (nI tkd), .int (nI tpl), .int (nI tbh), .long twd, .int tnu])))]) [(0, .ref rd), (1, .ref t), (2, .int (nI why))] 0 0 0 []
  refine j_aload_n h 0 rfl rfl dX6_refuse_0 ?_
  refine j_aload_n h 1 rfl rfl dX6_refuse_1 ?_
  refine jm_get h iw_X9 1 rfl rfl 2 (by decide +kernel) tw_124 rfl dX6_refuse_2 ?_
  refine j_iconst (v := 4) h (by decide) dX6_refuse_5 ?_
  refine j_icmp_ne h 13 dX6_refuse_6 (by decide) (fun z650258 => ?_) (fun z650258 => ?_)
  · have z650258n : ¬ tkd = 4 := fun q9 => z650258 ((nI_eq (a := tkd) (b := 4) (by omega) (by omega)).mpr q9)
    refine j_iload_n h 2 rfl rfl dX6_refuse_13 ?_
    refine jm_put (w' := [(rd, .inl (.inr (6, [.int (nI why), .int rdp, .int rdn]))), (t, .inl (.inr (9, [.ref t0, .int (nI tsz), .int (nI tkd), .int (nI tpl), .int (nI tbh), .long twd, .int tnu])))]) h iw_X6 tyX6 tyX6_ok nmX6 0 rfl rfl 0 (by decide +kernel) tw_155 rfl rfl rfl (Nat.le_of_ble_eq_true rfl) dX6_refuse_14 rfl ?_
    refine j_aload_n h 0 rfl rfl dX6_refuse_17 ?_
    refine j_aload_n h 1 rfl rfl dX6_refuse_18 ?_
    refine jm_get h iw_X9 1 rfl rfl 3 (by decide +kernel) tw_127 rfl dX6_refuse_19 ?_
    refine jm_put (w' := [(rd, .inl (.inr (6, [.int (nI why), .int (nI tpl), .int rdn]))), (t, .inl (.inr (9, [.ref t0, .int (nI tsz), .int (nI tkd), .int (nI tpl), .int (nI tbh), .long twd, .int tnu])))]) h iw_X6 tyX6 tyX6_ok nmX6 0 rfl rfl 1 (by decide +kernel) tw_157 rfl rfl rfl (Nat.le_of_ble_eq_true rfl) dX6_refuse_22 rfl ?_
    refine j_iconst (v := 0) h (by decide) dX6_refuse_25 ?_
    exact jm_zret h hq rfl dX6_refuse_26 why [0, 1] rfl (by decide) ⟨rfl, (show why = if tkd = 4 then 1 else why from (if_neg (by omega)).symm)⟩ (Nat.le_of_ble_eq_true rfl) (Nat.le_of_ble_eq_true rfl)
  · have z650258n : tkd = 4 := (nI_eq (a := tkd) (b := 4) (by omega) (by omega)).mp z650258
    refine j_iconst (v := 1) h (by decide) dX6_refuse_9 ?_
    refine j_goto h 14 dX6_refuse_10 (by decide) ?_
    refine jm_put (w' := [(rd, .inl (.inr (6, [.int 1, .int rdp, .int rdn]))), (t, .inl (.inr (9, [.ref t0, .int (nI tsz), .int (nI tkd), .int (nI tpl), .int (nI tbh), .long twd, .int tnu])))]) h iw_X6 tyX6 tyX6_ok nmX6 0 rfl rfl 0 (by decide +kernel) tw_155 rfl rfl rfl (Nat.le_of_ble_eq_true rfl) dX6_refuse_14 rfl ?_
    refine j_aload_n h 0 rfl rfl dX6_refuse_17 ?_
    refine j_aload_n h 1 rfl rfl dX6_refuse_18 ?_
    refine jm_get h iw_X9 1 rfl rfl 3 (by decide +kernel) tw_127 rfl dX6_refuse_19 ?_
    refine jm_put (w' := [(rd, .inl (.inr (6, [.int 1, .int (nI tpl), .int rdn]))), (t, .inl (.inr (9, [.ref t0, .int (nI tsz), .int (nI tkd), .int (nI tpl), .int (nI tbh), .long twd, .int tnu])))]) h iw_X6 tyX6 tyX6_ok nmX6 0 rfl rfl 1 (by decide +kernel) tw_157 rfl rfl rfl (Nat.le_of_ble_eq_true rfl) dX6_refuse_22 rfl ?_
    refine j_iconst (v := 0) h (by decide) dX6_refuse_25 ?_
    exact jm_zret h hq rfl dX6_refuse_26 1 [0, 1] rfl (by decide) ⟨rfl, (show 1 = if tkd = 4 then 1 else why from (if_pos (by omega)).symm)⟩ (Nat.le_of_ble_eq_true rfl) (Nat.le_of_ble_eq_true rfl)
set_option maxHeartbeats 4000000 in
set_option maxRecDepth 100000 in
theorem s_X6_readNewNameF (lau : Launch) (gg : va_G) (kA : Nat → ClassId) (rd : Nat) (t : Nat) (nm : Nat) (cn : Nat) (rdf : Nat) (rdp : Int32) (rdn : Int32) (t0 : Nat) (tsz : Nat) (tkd : Nat) (tpl : Nat) (tbh : Nat) (twd : Int64) (tnu : Int32) (tby : Nat → Int32) (N0 : Nat) (nf : Nat → Int64) (ct : Nat → Nat) (p : Nat) (i : Nat) (D : Nat → Nat → Nat) (htsz : tsz ≤ 1600) (htpl : tpl ≤ tsz) (htbh : tbh ≤ tsz) (hkd : tkd ≤ 4) (hct : CtC ct tsz tby) (hcb : CbOk ct tsz) (htk : TokC ct tsz p tkd tpl tbh tnu twd) (hN0 : N0 ≤ 10) (hcn : cn < N0) (hNm : NmC ct nf cn (D i)) : CtI lau yX6_readNewName cX6_readNewName 4 (some .boolean) 7 0 0 gg kA [.ref rd, .ref t, .ref nm, .int (nI cn)] (mflat [(rd, .inl (.inr (6, [.int (nI rdf), .int rdp, .int rdn]))), (t, .inl (.inr (9, [.ref t0, .int (nI tsz), .int (nI tkd), .int (nI tpl), .int (nI tbh), .long twd, .int tnu]))), (t0, .inl (.inl (kA 0, 1600, .inl tby))), (nm, .inl (.inl (kA 2, N0, .inr (.inl nf))))]) (S := Nat × Nat × Int32 × Nat × Nat × Nat × Int64 × Int32 × (Nat → Int64)) (fun (r : Int32) ((y_r, y_rd_0, y_rd_1, y_t_2, y_t_3, y_t_4, y_t_5, y_t_6, y_nm) : Nat × Nat × Int32 × Nat × Nat × Nat × Int64 × Int32 × (Nat → Int64)) => r = nI y_r ∧ (y_r ≤ 1) ∧ (y_t_3 ≤ tsz) ∧ (y_t_4 ≤ tsz) ∧ (y_t_2 ≤ 4) ∧ (OutC (newS ct tsz i cn p D).1 (newS ct tsz i cn p D).2.1 y_r y_rd_0 y_rd_1 (y_rd_0 = rdf ∧ y_rd_1 = rdp ∧ TokC ct tsz (newS ct tsz i cn p D).2.2.1 y_t_2 y_t_3 y_t_4 y_t_6 y_t_5 ∧ NmC ct y_nm (cn + 1) ((newS ct tsz i cn p D).2.2.2 i)))) (fun ((y_r, y_rd_0, y_rd_1, y_t_2, y_t_3, y_t_4, y_t_5, y_t_6, y_nm) : Nat × Nat × Int32 × Nat × Nat × Nat × Int64 × Int32 × (Nat → Int64)) => mflat [(rd, .inl (.inr (6, [.int (nI y_rd_0), .int y_rd_1, .int rdn]))), (t, .inl (.inr (9, [.ref t0, .int (nI tsz), .int (nI y_t_2), .int (nI y_t_3), .int (nI y_t_4), .long y_t_5, .int y_t_6]))), (t0, .inl (.inl (kA 0, 1600, .inl tby))), (nm, .inl (.inl (kA 2, N0, .inr (.inl y_nm))))]) := by
  refine nx_startI (by decide +kernel) (Nat.le_of_ble_eq_true rfl) ?_
  intro x hnm h hq
  have h : Ok x cX6_readNewName RX6 kA (rmC 7 0 0) 4 := h
  show J x (mflat [(rd, .inl (.inr (6, [.int (nI rdf), .int rdp, .int rdn]))), (t, .inl (.inr (9, [.ref t0, .int (nI tsz), .int (nI tkd), .int (nI tpl), .int (nI tbh), .long twd, .int tnu]))), (t0, .inl (.inl (kA 0, 1600, .inl tby))), (nm, .inl (.inl (kA 2, N0, .inr (.inl nf))))]) [(0, .ref rd), (1, .ref t), (2, .ref nm), (3, .int (nI cn))] 0 0 0 []
  refine j_aload_n h 1 rfl rfl dX6_readNewName_0 ?_
  refine jm_callVi (np := 0) (isC := [1, 2]) (isR := [0, 3]) (wc := [(t, .inl (.inr (9, [.ref t0, .int (nI tsz), .int (nI tkd), .int (nI tpl), .int (nI tbh), .long twd, .int tnu]))), (t0, .inl (.inl (kA 0, 1600, .inl tby)))]) (wr := [(rd, .inl (.inr (6, [.int (nI rdf), .int rdp, .int rdn]))), (nm, .inl (.inl (kA 2, N0, .inr (.inl nf))))]) (rest := []) (As := []) (q0 := 0) h (s_X9_isAtNameF _ _ kA t t0 tsz tkd tpl tbh twd tnu tby ct p (show tsz ≤ 1600 by first | assumption | omega) (show tpl ≤ tsz by first | assumption | omega) (show tbh ≤ tsz by first | assumption | omega) (show tkd ≤ 4 by first | assumption | omega) (show CtC ct tsz tby by first | assumption | omega) (show CbOk ct tsz by first | assumption | omega) (show TokC ct tsz p tkd tpl tbh tnu twd from htk)) tw_656 tw_657 tw_658 tw_88 tw_659 (by decide +kernel) rfl ⟨Nat.le_of_ble_eq_true rfl, Nat.le_of_ble_eq_true rfl⟩ rfl rfl (by decide +kernel) rfl rfl (by decide +kernel) (by decide +kernel) (Nat.le_of_ble_eq_true rfl) rfl ⟨Nat.le_of_ble_eq_true rfl, Nat.le_of_ble_eq_true rfl⟩ dX6_readNewName_1 ?_
  rintro r650298 q650296 e650297
  obtain ⟨p650299, p650300, p650301, p650302⟩ := e650297
  subst p650299
  replace p650300 : q650296 ≤ 1 := p650300
  replace p650301 : q650296 = 1 → isNm ct tsz p := p650301
  replace p650302 : q650296 = 0 → ¬ isNm ct tsz p := p650302
  show J x (mflat [(rd, .inl (.inr (6, [.int (nI rdf), .int rdp, .int rdn]))), (nm, .inl (.inl (kA 2, N0, .inr (.inl nf)))), (t, .inl (.inr (9, [.ref t0, .int (nI tsz), .int (nI tkd), .int (nI tpl), .int (nI tbh), .long twd, .int tnu]))), (t0, .inl (.inl (kA 0, 1600, .inl tby)))]) [(0, .ref rd), (1, .ref t), (2, .ref nm), (3, .int (nI cn))] 0 0 4 [.int (nI q650296)]
  refine j_if_eq h 17 dX6_readNewName_4 (by decide) (fun z650303 => ?_) (fun z650303 => ?_)
  · have z650303n : q650296 = 0 := (nI_eq (a := q650296) (b := 0) (by omega) (by omega)).mp z650303
    refine j_aload_n h 0 rfl rfl dX6_readNewName_17 ?_
    refine j_aload_n h 1 rfl rfl dX6_readNewName_18 ?_
    refine j_iconst (v := 2) h (by decide) dX6_readNewName_19 ?_
    refine jm_callVi (np := 2) (isC := [0, 2]) (isR := [1, 3]) (wc := [(rd, .inl (.inr (6, [.int (nI rdf), .int rdp, .int rdn]))), (t, .inl (.inr (9, [.ref t0, .int (nI tsz), .int (nI tkd), .int (nI tpl), .int (nI tbh), .long twd, .int tnu])))]) (wr := [(nm, .inl (.inl (kA 2, N0, .inr (.inl nf)))), (t0, .inl (.inl (kA 0, 1600, .inl tby)))]) (rest := []) (As := [.ref t, .int 2]) (q0 := 0) h (s_X6_refuseF _ _ kA rd t 2 rdf rdp rdn t0 tsz tkd tpl tbh twd tnu (show tkd ≤ 4 by first | assumption | omega) (show 1 ≤ 2 by first | assumption | omega) (show 2 ≤ 5 by first | assumption | omega)) tw_647 tw_649 tw_4 tw_89 tw_650 (by decide +kernel) rfl ⟨Nat.le_of_ble_eq_true rfl, Nat.le_of_ble_eq_true rfl⟩ rfl rfl (by decide +kernel) rfl rfl (by decide +kernel) (by decide +kernel) (Nat.le_of_ble_eq_true rfl) rfl ⟨Nat.le_of_ble_eq_true rfl, Nat.le_of_ble_eq_true rfl⟩ dX6_readNewName_20 ?_
    rintro r650306 q650304 e650305
    obtain ⟨p650307, p650308⟩ := e650305
    subst p650307
    replace p650308 : q650304 = if tkd = 4 then 1 else 2 := p650308
    show J x (mflat [(nm, .inl (.inl (kA 2, N0, .inr (.inl nf)))), (t0, .inl (.inl (kA 0, 1600, .inl tby))), (rd, .inl (.inr (6, [.int (nI q650304), .int (nI tpl), .int rdn]))), (t, .inl (.inr (9, [.ref t0, .int (nI tsz), .int (nI tkd), .int (nI tpl), .int (nI tbh), .long twd, .int tnu])))]) [(0, .ref rd), (1, .ref t), (2, .ref nm), (3, .int (nI cn))] 0 0 23 [.int 0]
    exact jm_zret h hq rfl dX6_readNewName_23 (0, q650304, (nI tpl), tkd, tpl, tbh, twd, tnu, nf) [2, 3, 1, 0] rfl (by decide) ⟨rfl, (show 0 ≤ 1 by first | assumption | omega), (show tpl ≤ tsz by first | assumption | omega), (show tbh ≤ tsz by first | assumption | omega), (show tkd ≤ 4 by first | assumption | omega), (show OutC (newS ct tsz i cn p D).1 (newS ct tsz i cn p D).2.1 0 q650304 (nI tpl) (q650304 = rdf ∧ (nI tpl) = rdp ∧ TokC ct tsz (newS ct tsz i cn p D).2.2.1 tkd tpl tbh tnu twd ∧ NmC ct nf (cn + 1) ((newS ct tsz i cn p D).2.2.2 i)) from (by have e9 := newS_3 (D := D) (i := i) (n := cn) (p650302 (by omega)); rw [e9]; exact ⟨fun h9 => absurd h9 (by decide), fun _ => ⟨fl1_pos (by decide), p650308.trans (fl_C htk.1), congrArg nI htk.2.1⟩⟩))⟩ (Nat.le_of_ble_eq_true rfl) (Nat.le_of_ble_eq_true rfl)
  · have z650303n : ¬ q650296 = 0 := fun q9 => z650303 ((nI_eq (a := q650296) (b := 0) (by omega) (by omega)).mpr q9)
    refine j_iload_n h 3 rfl rfl dX6_readNewName_7 ?_
    refine j_if_lt h 17 dX6_readNewName_8 (by decide) (fun q => absurd q (nI_pos (by omega))) (fun _ => ?_)
    refine j_iload_n h 3 rfl rfl dX6_readNewName_11 ?_
    refine j_aload_n h 2 rfl rfl dX6_readNewName_12 ?_
    refine jm_alen (v := nI N0) h 1 2 rfl rfl rfl dX6_readNewName_13 ?_
    refine j_icmp_lt h 24 dX6_readNewName_14 (by decide) (fun _ => ?_) (fun q => absurd (nI_lt hcn (by omega)) q)
    have hs9 := (p650301 (by omega)).1
    have hk9 := (kd_S htk.1).2.1.mpr hs9
    have hw9 := (htk.2.2.2.1 hk9).2
    refine j_aload_n h 2 rfl rfl dX6_readNewName_24 ?_
    refine j_iload_n h 3 rfl rfl dX6_readNewName_25 ?_
    refine j_aload_n h 1 rfl rfl dX6_readNewName_26 ?_
    refine jm_get h iw_X9 2 rfl rfl 5 (by decide +kernel) tw_130 rfl dX6_readNewName_27 ?_
    refine jm_callSi (np := 3) (isC := [1]) (isR := [0, 2, 3]) (wc := [(nm, .inl (.inl (kA 2, N0, .inr (.inl nf))))]) (wr := [(rd, .inl (.inr (6, [.int (nI rdf), .int rdp, .int rdn]))), (t, .inl (.inr (9, [.ref t0, .int (nI tsz), .int (nI tkd), .int (nI tpl), .int (nI tbh), .long twd, .int tnu]))), (t0, .inl (.inl (kA 0, 1600, .inl tby)))]) (rest := []) (As := [.ref nm, .int (nI cn), .long twd]) h (s_X6_findF _ _ kA nm cn twd N0 nf (show N0 ≤ 10 by first | assumption | omega) (show cn ≤ 10 by first | assumption | omega)) tw_671 tw_672 tw_89 tw_673 (by decide +kernel) rfl ⟨Nat.le_of_ble_eq_true rfl, Nat.le_of_ble_eq_true rfl⟩ (by decide +kernel) rfl rfl (by decide +kernel) (by decide +kernel) (Nat.le_of_ble_eq_true rfl) rfl ⟨Nat.le_of_ble_eq_true rfl, Nat.le_of_ble_eq_true rfl⟩ dX6_readNewName_30 ?_
    rintro r650311 q650309 e650310
    obtain ⟨p650312, p650313, p650314, p650315⟩ := e650310
    subst p650312
    replace p650313 : q650309 ≤ cn := p650313
    replace p650314 : q650309 = 0 → ∀ k, k < cn → k < N0 → nf k ≠ twd := p650314
    replace p650315 : ¬ q650309 = 0 → nf (q650309 - 1) = twd := p650315
    show J x (mflat [(rd, .inl (.inr (6, [.int (nI rdf), .int rdp, .int rdn]))), (t, .inl (.inr (9, [.ref t0, .int (nI tsz), .int (nI tkd), .int (nI tpl), .int (nI tbh), .long twd, .int tnu]))), (t0, .inl (.inl (kA 0, 1600, .inl tby))), (nm, .inl (.inl (kA 2, N0, .inr (.inl nf))))]) [(0, .ref rd), (1, .ref t), (2, .ref nm), (3, .int (nI cn))] 0 0 33 [.int (pm q650309)]
    refine j_iconst (v := (-1)) h (by decide) dX6_readNewName_33 ?_
    rcases q650309 with _ | j650316
    · show J x (mflat [(rd, .inl (.inr (6, [.int (nI rdf), .int rdp, .int rdn]))), (t, .inl (.inr (9, [.ref t0, .int (nI tsz), .int (nI tkd), .int (nI tpl), .int (nI tbh), .long twd, .int tnu]))), (t0, .inl (.inl (kA 0, 1600, .inl tby))), (nm, .inl (.inl (kA 2, N0, .inr (.inl nf))))]) [(0, .ref rd), (1, .ref t), (2, .ref nm), (3, .int (nI cn))] 0 0 34 [.int (-1), .int (-1)]
      refine j_icmp_eq h 44 dX6_readNewName_34 (by decide) (fun _ => ?_) (fun q => absurd (by decide) q)
      refine j_aload_n h 2 rfl rfl dX6_readNewName_44 ?_
      refine j_iload_n h 3 rfl rfl dX6_readNewName_45 ?_
      refine j_aload_n h 1 rfl rfl dX6_readNewName_46 ?_
      refine jm_get h iw_X9 1 rfl rfl 5 (by decide +kernel) tw_130 rfl dX6_readNewName_47 ?_
      refine jm_last (w' := [(rd, .inl (.inr (6, [.int (nI rdf), .int rdp, .int rdn]))), (t, .inl (.inr (9, [.ref t0, .int (nI tsz), .int (nI tkd), .int (nI tpl), .int (nI tbh), .long twd, .int tnu]))), (t0, .inl (.inl (kA 0, 1600, .inl tby))), (nm, .inl (.inl (kA 2, N0, .inr (.inl (vp_updL nf cn twd)))))]) h 3 rfl cn rfl (by omega) (by omega) dX6_readNewName_50 rfl ?_
      refine j_aload_n h 1 rfl rfl dX6_readNewName_51 ?_
      refine jm_callVv (np := 0) (isC := [1, 2]) (isR := [0, 3]) (wc := [(t, .inl (.inr (9, [.ref t0, .int (nI tsz), .int (nI tkd), .int (nI tpl), .int (nI tbh), .long twd, .int tnu]))), (t0, .inl (.inl (kA 0, 1600, .inl tby)))]) (wr := [(rd, .inl (.inr (6, [.int (nI rdf), .int rdp, .int rdn]))), (nm, .inl (.inl (kA 2, N0, .inr (.inl (vp_updL nf cn twd)))))]) (rest := []) (As := []) (q0 := 0) h (s_X9_readNextF _ _ kA t t0 tsz (nI tkd) (nI tpl) tbh twd tnu tby ct (show tsz ≤ 1600 by first | assumption | omega) (show tbh ≤ tsz by first | assumption | omega) (show CtC ct tsz tby by first | assumption | omega) (show CbOk ct tsz by first | assumption | omega)) tw_651 tw_566 tw_567 tw_88 tw_568 (by decide +kernel) rfl ⟨Nat.le_of_ble_eq_true rfl, Nat.le_of_ble_eq_true rfl⟩ rfl rfl (by decide +kernel) rfl rfl (by decide +kernel) (by decide +kernel) (Nat.le_of_ble_eq_true rfl) rfl ⟨Nat.le_of_ble_eq_true rfl, Nat.le_of_ble_eq_true rfl⟩ dX6_readNewName_52 ?_
      rintro ⟨q650317, q650318, q650319, q650320, q650321⟩ e650322
      obtain ⟨p650324, p650325, p650326⟩ := e650322
      replace p650324 : q650318 ≤ tsz := p650324
      replace p650325 : q650319 ≤ tsz := p650325
      replace p650326 : TokC ct tsz tbh q650317 q650318 q650319 q650321 q650320 := p650326
      show J x (mflat [(rd, .inl (.inr (6, [.int (nI rdf), .int rdp, .int rdn]))), (nm, .inl (.inl (kA 2, N0, .inr (.inl (vp_updL nf cn twd))))), (t, .inl (.inr (9, [.ref t0, .int (nI tsz), .int (nI q650317), .int (nI q650318), .int (nI q650319), .long q650320, .int q650321]))), (t0, .inl (.inl (kA 0, 1600, .inl tby)))]) [(0, .ref rd), (1, .ref t), (2, .ref nm), (3, .int (nI cn))] 0 0 55 []
      have k650327 : TokC ct tsz (tE ct tsz p) q650317 q650318 q650319 q650321 q650320 := TokC_nx htk (by omega) p650326
      have k650327k := kd_le k650327.1
      refine j_iconst (v := 1) h (by decide) dX6_readNewName_55 ?_
      exact jm_zret h hq rfl dX6_readNewName_56 (1, rdf, rdp, q650317, q650318, q650319, q650320, q650321, (vp_updL nf cn twd)) [0, 2, 3, 1] rfl (by decide) ⟨rfl, (show 1 ≤ 1 by first | assumption | omega), (show q650318 ≤ tsz by first | assumption | omega), (show q650319 ≤ tsz by first | assumption | omega), (show q650317 ≤ 4 by first | assumption | omega), (show OutC (newS ct tsz i cn p D).1 (newS ct tsz i cn p D).2.1 1 rdf rdp (rdf = rdf ∧ rdp = rdp ∧ TokC ct tsz (newS ct tsz i cn p D).2.2.1 q650317 q650318 q650319 q650321 q650320 ∧ NmC ct (vp_updL nf cn twd) (cn + 1) ((newS ct tsz i cn p D).2.2.2 i)) from (by have e9 := newS_1 (D := D) (i := i) (n := cn) (p650301 (by omega)) ((fdC hNm hs9 hw9 p650313 p650314 p650315 (by omega)).1.mp (by omega)); rw [e9]; exact ⟨fun _ => ⟨rfl, rfl, rfl, k650327, NmC_new hNm hs9 hw9⟩, fun h9 => absurd h9 (by decide)⟩))⟩ (Nat.le_of_ble_eq_true rfl) (Nat.le_of_ble_eq_true rfl)
    · show J x (mflat [(rd, .inl (.inr (6, [.int (nI rdf), .int rdp, .int rdn]))), (t, .inl (.inr (9, [.ref t0, .int (nI tsz), .int (nI tkd), .int (nI tpl), .int (nI tbh), .long twd, .int tnu]))), (t0, .inl (.inl (kA 0, 1600, .inl tby))), (nm, .inl (.inl (kA 2, N0, .inr (.inl nf))))]) [(0, .ref rd), (1, .ref t), (2, .ref nm), (3, .int (nI cn))] 0 0 34 [.int (-1), .int (nI j650316)]
      refine j_icmp_eq h 44 dX6_readNewName_34 (by decide) (fun q => absurd q (nI_m1 (by omega))) (fun _ => ?_)
      refine j_aload_n h 0 rfl rfl dX6_readNewName_37 ?_
      refine j_aload_n h 1 rfl rfl dX6_readNewName_38 ?_
      refine j_iconst (v := 3) h (by decide) dX6_readNewName_39 ?_
      refine jm_callVi (np := 2) (isC := [0, 1]) (isR := [2, 3]) (wc := [(rd, .inl (.inr (6, [.int (nI rdf), .int rdp, .int rdn]))), (t, .inl (.inr (9, [.ref t0, .int (nI tsz), .int (nI tkd), .int (nI tpl), .int (nI tbh), .long twd, .int tnu])))]) (wr := [(t0, .inl (.inl (kA 0, 1600, .inl tby))), (nm, .inl (.inl (kA 2, N0, .inr (.inl nf))))]) (rest := []) (As := [.ref t, .int 3]) (q0 := 0) h (s_X6_refuseF _ _ kA rd t 3 rdf rdp rdn t0 tsz tkd tpl tbh twd tnu (show tkd ≤ 4 by first | assumption | omega) (show 1 ≤ 3 by first | assumption | omega) (show 3 ≤ 5 by first | assumption | omega)) tw_647 tw_649 tw_4 tw_89 tw_650 (by decide +kernel) rfl ⟨Nat.le_of_ble_eq_true rfl, Nat.le_of_ble_eq_true rfl⟩ rfl rfl (by decide +kernel) rfl rfl (by decide +kernel) (by decide +kernel) (Nat.le_of_ble_eq_true rfl) rfl ⟨Nat.le_of_ble_eq_true rfl, Nat.le_of_ble_eq_true rfl⟩ dX6_readNewName_40 ?_
      rintro r650330 q650328 e650329
      obtain ⟨p650331, p650332⟩ := e650329
      subst p650331
      replace p650332 : q650328 = if tkd = 4 then 1 else 3 := p650332
      show J x (mflat [(t0, .inl (.inl (kA 0, 1600, .inl tby))), (nm, .inl (.inl (kA 2, N0, .inr (.inl nf)))), (rd, .inl (.inr (6, [.int (nI q650328), .int (nI tpl), .int rdn]))), (t, .inl (.inr (9, [.ref t0, .int (nI tsz), .int (nI tkd), .int (nI tpl), .int (nI tbh), .long twd, .int tnu])))]) [(0, .ref rd), (1, .ref t), (2, .ref nm), (3, .int (nI cn))] 0 0 43 [.int 0]
      exact jm_zret h hq rfl dX6_readNewName_43 (0, q650328, (nI tpl), tkd, tpl, tbh, twd, tnu, nf) [2, 3, 0, 1] rfl (by decide) ⟨rfl, (show 0 ≤ 1 by first | assumption | omega), (show tpl ≤ tsz by first | assumption | omega), (show tbh ≤ tsz by first | assumption | omega), (show tkd ≤ 4 by first | assumption | omega), (show OutC (newS ct tsz i cn p D).1 (newS ct tsz i cn p D).2.1 0 q650328 (nI tpl) (q650328 = rdf ∧ (nI tpl) = rdp ∧ TokC ct tsz (newS ct tsz i cn p D).2.2.1 tkd tpl tbh tnu twd ∧ NmC ct nf (cn + 1) ((newS ct tsz i cn p D).2.2.2 i)) from (by have e9 := newS_2 (D := D) (i := i) (n := cn) (p650301 (by omega)) (fun q9 => absurd ((fdC hNm hs9 hw9 p650313 p650314 p650315 (by omega)).1.mpr q9) (by omega)); rw [e9]; exact ⟨fun h9 => absurd h9 (by decide), fun _ => ⟨show ¬ (3 : Nat) = 0 by decide, p650332.trans (if_neg (by omega)), congrArg nI htk.2.1⟩⟩))⟩ (Nat.le_of_ble_eq_true rfl) (Nat.le_of_ble_eq_true rfl)
set_option maxHeartbeats 4000000 in
set_option maxRecDepth 100000 in
theorem s_X6_knownNameF (lau : Launch) (gg : va_G) (kA : Nat → ClassId) (rd : Nat) (t : Nat) (nm : Nat) (cn : Nat) (rdf : Nat) (rdp : Int32) (rdn : Int32) (t0 : Nat) (tsz : Nat) (tkd : Nat) (tpl : Nat) (tbh : Nat) (twd : Int64) (tnu : Int32) (tby : Nat → Int32) (N0 : Nat) (nf : Nat → Int64) (ct : Nat → Nat) (p : Nat) (i : Nat) (D : Nat → Nat → Nat) (htsz : tsz ≤ 1600) (htpl : tpl ≤ tsz) (htbh : tbh ≤ tsz) (hkd : tkd ≤ 4) (hct : CtC ct tsz tby) (hcb : CbOk ct tsz) (htk : TokC ct tsz p tkd tpl tbh tnu twd) (hN0 : N0 ≤ 10) (hcn : cn ≤ N0) (hNm : NmC ct nf cn (D i)) (hDs : DsOk (D i) cn) : CtI lau yX6_knownName cX6_knownName 5 (some .int) 7 0 0 gg kA [.ref rd, .ref t, .ref nm, .int (nI cn)] (mflat [(rd, .inl (.inr (6, [.int (nI rdf), .int rdp, .int rdn]))), (t, .inl (.inr (9, [.ref t0, .int (nI tsz), .int (nI tkd), .int (nI tpl), .int (nI tbh), .long twd, .int tnu]))), (t0, .inl (.inl (kA 0, 1600, .inl tby))), (nm, .inl (.inl (kA 2, N0, .inr (.inl nf))))]) (S := Nat × Nat × Int32) (fun (r : Int32) ((y_r, y_rd_0, y_rd_1) : Nat × Nat × Int32) => r = pm y_r ∧ (y_r ≤ cn) ∧ ((¬ y_r = 0 → (oldS ct tsz i cn p D).1 = 0 ∧ y_r = (oldS ct tsz i cn p D).2 ∧ y_rd_0 = rdf ∧ y_rd_1 = rdp) ∧ (y_r = 0 → ¬ (oldS ct tsz i cn p D).1 = 0 ∧ y_rd_0 = (oldS ct tsz i cn p D).1 ∧ y_rd_1 = nI (tP ct tsz p)))) (fun ((y_r, y_rd_0, y_rd_1) : Nat × Nat × Int32) => mflat [(rd, .inl (.inr (6, [.int (nI y_rd_0), .int y_rd_1, .int rdn]))), (t, .inl (.inr (9, [.ref t0, .int (nI tsz), .int (nI tkd), .int (nI tpl), .int (nI tbh), .long twd, .int tnu]))), (t0, .inl (.inl (kA 0, 1600, .inl tby))), (nm, .inl (.inl (kA 2, N0, .inr (.inl nf))))]) := by
  refine nx_startI (by decide +kernel) (Nat.le_of_ble_eq_true rfl) ?_
  intro x hnm h hq
  have h : Ok x cX6_knownName RX6 kA (rmC 7 0 0) 5 := h
  show J x (mflat [(rd, .inl (.inr (6, [.int (nI rdf), .int rdp, .int rdn]))), (t, .inl (.inr (9, [.ref t0, .int (nI tsz), .int (nI tkd), .int (nI tpl), .int (nI tbh), .long twd, .int tnu]))), (t0, .inl (.inl (kA 0, 1600, .inl tby))), (nm, .inl (.inl (kA 2, N0, .inr (.inl nf))))]) [(0, .ref rd), (1, .ref t), (2, .ref nm), (3, .int (nI cn))] 0 0 0 []
  refine j_aload_n h 1 rfl rfl dX6_knownName_0 ?_
  refine jm_callVi (np := 0) (isC := [1, 2]) (isR := [0, 3]) (wc := [(t, .inl (.inr (9, [.ref t0, .int (nI tsz), .int (nI tkd), .int (nI tpl), .int (nI tbh), .long twd, .int tnu]))), (t0, .inl (.inl (kA 0, 1600, .inl tby)))]) (wr := [(rd, .inl (.inr (6, [.int (nI rdf), .int rdp, .int rdn]))), (nm, .inl (.inl (kA 2, N0, .inr (.inl nf))))]) (rest := []) (As := []) (q0 := 0) h (s_X9_isAtNameF _ _ kA t t0 tsz tkd tpl tbh twd tnu tby ct p (show tsz ≤ 1600 by first | assumption | omega) (show tpl ≤ tsz by first | assumption | omega) (show tbh ≤ tsz by first | assumption | omega) (show tkd ≤ 4 by first | assumption | omega) (show CtC ct tsz tby by first | assumption | omega) (show CbOk ct tsz by first | assumption | omega) (show TokC ct tsz p tkd tpl tbh tnu twd from htk)) tw_656 tw_657 tw_658 tw_88 tw_659 (by decide +kernel) rfl ⟨Nat.le_of_ble_eq_true rfl, Nat.le_of_ble_eq_true rfl⟩ rfl rfl (by decide +kernel) rfl rfl (by decide +kernel) (by decide +kernel) (Nat.le_of_ble_eq_true rfl) rfl ⟨Nat.le_of_ble_eq_true rfl, Nat.le_of_ble_eq_true rfl⟩ dX6_knownName_1 ?_
  rintro r650361 q650359 e650360
  obtain ⟨p650362, p650363, p650364, p650365⟩ := e650360
  subst p650362
  replace p650363 : q650359 ≤ 1 := p650363
  replace p650364 : q650359 = 1 → isNm ct tsz p := p650364
  replace p650365 : q650359 = 0 → ¬ isNm ct tsz p := p650365
  show J x (mflat [(rd, .inl (.inr (6, [.int (nI rdf), .int rdp, .int rdn]))), (nm, .inl (.inl (kA 2, N0, .inr (.inl nf)))), (t, .inl (.inr (9, [.ref t0, .int (nI tsz), .int (nI tkd), .int (nI tpl), .int (nI tbh), .long twd, .int tnu]))), (t0, .inl (.inl (kA 0, 1600, .inl tby)))]) [(0, .ref rd), (1, .ref t), (2, .ref nm), (3, .int (nI cn))] 0 0 4 [.int (nI q650359)]
  refine j_if_ne h 16 dX6_knownName_4 (by decide) (fun z650366 => ?_) (fun z650366 => ?_)
  · have z650366n : ¬ q650359 = 0 := fun q9 => z650366 ((nI_eq (a := q650359) (b := 0) (by omega) (by omega)).mpr q9)
    have hs9 := (p650364 (by omega)).1
    have hk9 := (kd_S htk.1).2.1.mpr hs9
    have hw9 := (htk.2.2.2.1 hk9).2
    refine j_aload_n h 2 rfl rfl dX6_knownName_16 ?_
    refine j_iload_n h 3 rfl rfl dX6_knownName_17 ?_
    refine j_aload_n h 1 rfl rfl dX6_knownName_18 ?_
    refine jm_get h iw_X9 2 rfl rfl 5 (by decide +kernel) tw_130 rfl dX6_knownName_19 ?_
    refine jm_callSi (np := 3) (isC := [1]) (isR := [0, 2, 3]) (wc := [(nm, .inl (.inl (kA 2, N0, .inr (.inl nf))))]) (wr := [(rd, .inl (.inr (6, [.int (nI rdf), .int rdp, .int rdn]))), (t, .inl (.inr (9, [.ref t0, .int (nI tsz), .int (nI tkd), .int (nI tpl), .int (nI tbh), .long twd, .int tnu]))), (t0, .inl (.inl (kA 0, 1600, .inl tby)))]) (rest := []) (As := [.ref nm, .int (nI cn), .long twd]) h (s_X6_findF _ _ kA nm cn twd N0 nf (show N0 ≤ 10 by first | assumption | omega) (show cn ≤ 10 by first | assumption | omega)) tw_671 tw_672 tw_89 tw_673 (by decide +kernel) rfl ⟨Nat.le_of_ble_eq_true rfl, Nat.le_of_ble_eq_true rfl⟩ (by decide +kernel) rfl rfl (by decide +kernel) (by decide +kernel) (Nat.le_of_ble_eq_true rfl) rfl ⟨Nat.le_of_ble_eq_true rfl, Nat.le_of_ble_eq_true rfl⟩ dX6_knownName_22 ?_
    rintro r650369 q650367 e650368
    obtain ⟨p650370, p650371, p650372, p650373⟩ := e650368
    subst p650370
    replace p650371 : q650367 ≤ cn := p650371
    replace p650372 : q650367 = 0 → ∀ k, k < cn → k < N0 → nf k ≠ twd := p650372
    replace p650373 : ¬ q650367 = 0 → nf (q650367 - 1) = twd := p650373
    show J x (mflat [(rd, .inl (.inr (6, [.int (nI rdf), .int rdp, .int rdn]))), (t, .inl (.inr (9, [.ref t0, .int (nI tsz), .int (nI tkd), .int (nI tpl), .int (nI tbh), .long twd, .int tnu]))), (t0, .inl (.inl (kA 0, 1600, .inl tby))), (nm, .inl (.inl (kA 2, N0, .inr (.inl nf))))]) [(0, .ref rd), (1, .ref t), (2, .ref nm), (3, .int (nI cn))] 0 0 25 [.int (pm q650367)]
    refine j_istore (lv' := [(4, .int (pm q650367)), (0, .ref rd), (1, .ref t), (2, .ref nm), (3, .int (nI cn))]) h dX6_knownName_25 (by decide) rfl ?_
    refine j_iload h 0 rfl dX6_knownName_27 ?_
    refine j_iconst (v := (-1)) h (by decide) dX6_knownName_29 ?_
    rcases q650367 with _ | j650374
    · show J x (mflat [(rd, .inl (.inr (6, [.int (nI rdf), .int rdp, .int rdn]))), (t, .inl (.inr (9, [.ref t0, .int (nI tsz), .int (nI tkd), .int (nI tpl), .int (nI tbh), .long twd, .int tnu]))), (t0, .inl (.inl (kA 0, 1600, .inl tby))), (nm, .inl (.inl (kA 2, N0, .inr (.inl nf))))]) [(4, .int (-1)), (0, .ref rd), (1, .ref t), (2, .ref nm), (3, .int (nI cn))] 0 0 30 [.int (-1), .int (-1)]
      refine j_icmp_ne h 40 dX6_knownName_30 (by decide) (fun q => absurd (by decide) q) (fun _ => ?_)
      refine j_aload_n h 1 rfl rfl dX6_knownName_33 ?_
      refine j_aload_n h 2 rfl rfl dX6_knownName_34 ?_
      refine j_iconst (v := 5) h (by decide) dX6_knownName_35 ?_
      refine jm_callVi (np := 2) (isC := [0, 1]) (isR := [2, 3]) (wc := [(rd, .inl (.inr (6, [.int (nI rdf), .int rdp, .int rdn]))), (t, .inl (.inr (9, [.ref t0, .int (nI tsz), .int (nI tkd), .int (nI tpl), .int (nI tbh), .long twd, .int tnu])))]) (wr := [(t0, .inl (.inl (kA 0, 1600, .inl tby))), (nm, .inl (.inl (kA 2, N0, .inr (.inl nf))))]) (rest := []) (As := [.ref t, .int 5]) (q0 := 0) h (s_X6_refuseF _ _ kA rd t 5 rdf rdp rdn t0 tsz tkd tpl tbh twd tnu (show tkd ≤ 4 by first | assumption | omega) (show 1 ≤ 5 by first | assumption | omega) (show 5 ≤ 5 by first | assumption | omega)) tw_647 tw_649 tw_4 tw_89 tw_650 (by decide +kernel) rfl ⟨Nat.le_of_ble_eq_true rfl, Nat.le_of_ble_eq_true rfl⟩ rfl rfl (by decide +kernel) rfl rfl (by decide +kernel) (by decide +kernel) (Nat.le_of_ble_eq_true rfl) rfl ⟨Nat.le_of_ble_eq_true rfl, Nat.le_of_ble_eq_true rfl⟩ dX6_knownName_36 ?_
      rintro r650377 q650375 e650376
      obtain ⟨p650378, p650379⟩ := e650376
      subst p650378
      replace p650379 : q650375 = if tkd = 4 then 1 else 5 := p650379
      show J x (mflat [(t0, .inl (.inl (kA 0, 1600, .inl tby))), (nm, .inl (.inl (kA 2, N0, .inr (.inl nf)))), (rd, .inl (.inr (6, [.int (nI q650375), .int (nI tpl), .int rdn]))), (t, .inl (.inr (9, [.ref t0, .int (nI tsz), .int (nI tkd), .int (nI tpl), .int (nI tbh), .long twd, .int tnu])))]) [(4, .int (-1)), (0, .ref rd), (1, .ref t), (2, .ref nm), (3, .int (nI cn))] 0 0 39 [.int 0]
      refine j_pop h rfl dX6_knownName_39 ?_
      refine j_iload h 0 rfl dX6_knownName_40 ?_
      exact jm_iret h hq dX6_knownName_42 (0, q650375, (nI tpl)) [2, 3, 0, 1] rfl (by decide) ⟨rfl, (show 0 ≤ cn by first | assumption | omega), (show (¬ 0 = 0 → (oldS ct tsz i cn p D).1 = 0 ∧ 0 = (oldS ct tsz i cn p D).2 ∧ q650375 = rdf ∧ (nI tpl) = rdp) ∧ (0 = 0 → ¬ (oldS ct tsz i cn p D).1 = 0 ∧ q650375 = (oldS ct tsz i cn p D).1 ∧ (nI tpl) = nI (tP ct tsz p)) from (by have e9 := oldS_2 (D := D) (i := i) (n := cn) (p650364 (by omega)) ((fdC hNm hs9 hw9 p650371 p650372 p650373 (by omega)).1.mp rfl); rw [e9]; exact ⟨fun h9 => absurd rfl h9, fun _ => ⟨by decide, p650379.trans (if_neg (by omega)), congrArg nI htk.2.1⟩⟩))⟩ (Nat.le_of_ble_eq_true rfl) (Nat.le_of_ble_eq_true rfl)
    · show J x (mflat [(rd, .inl (.inr (6, [.int (nI rdf), .int rdp, .int rdn]))), (t, .inl (.inr (9, [.ref t0, .int (nI tsz), .int (nI tkd), .int (nI tpl), .int (nI tbh), .long twd, .int tnu]))), (t0, .inl (.inl (kA 0, 1600, .inl tby))), (nm, .inl (.inl (kA 2, N0, .inr (.inl nf))))]) [(4, .int (nI j650374)), (0, .ref rd), (1, .ref t), (2, .ref nm), (3, .int (nI cn))] 0 0 30 [.int (-1), .int (nI j650374)]
      refine j_icmp_ne h 40 dX6_knownName_30 (by decide) (fun _ => ?_) (fun q => absurd q (nI_m1 (by omega)))
      refine j_iload h 0 rfl dX6_knownName_40 ?_
      exact jm_iret h hq dX6_knownName_42 ((j650374 + 1), rdf, rdp) [0, 1, 2, 3] rfl (by decide) ⟨rfl, (show (j650374 + 1) ≤ cn by first | assumption | omega), (show (¬ (j650374 + 1) = 0 → (oldS ct tsz i cn p D).1 = 0 ∧ (j650374 + 1) = (oldS ct tsz i cn p D).2 ∧ rdf = rdf ∧ rdp = rdp) ∧ ((j650374 + 1) = 0 → ¬ (oldS ct tsz i cn p D).1 = 0 ∧ rdf = (oldS ct tsz i cn p D).1 ∧ rdp = nI (tP ct tsz p)) from (by have e9 := oldS_1 (D := D) (i := i) (n := cn) (p650364 (by omega)) (fun q9 => absurd ((fdC hNm hs9 hw9 p650371 p650372 p650373 (by omega)).1.mpr q9) (by omega)); rw [e9]; exact ⟨fun _ => ⟨rfl, (fdC hNm hs9 hw9 p650371 p650372 p650373 (by omega)).2 hDs, rfl, rfl⟩, fun h9 => absurd h9 (by omega)⟩))⟩ (Nat.le_of_ble_eq_true rfl) (Nat.le_of_ble_eq_true rfl)
  · have z650366n : q650359 = 0 := (nI_eq (a := q650359) (b := 0) (by omega) (by omega)).mp z650366
    refine j_aload_n h 0 rfl rfl dX6_knownName_7 ?_
    refine j_aload_n h 1 rfl rfl dX6_knownName_8 ?_
    refine j_iconst (v := 2) h (by decide) dX6_knownName_9 ?_
    refine jm_callVi (np := 2) (isC := [0, 2]) (isR := [1, 3]) (wc := [(rd, .inl (.inr (6, [.int (nI rdf), .int rdp, .int rdn]))), (t, .inl (.inr (9, [.ref t0, .int (nI tsz), .int (nI tkd), .int (nI tpl), .int (nI tbh), .long twd, .int tnu])))]) (wr := [(nm, .inl (.inl (kA 2, N0, .inr (.inl nf)))), (t0, .inl (.inl (kA 0, 1600, .inl tby)))]) (rest := []) (As := [.ref t, .int 2]) (q0 := 0) h (s_X6_refuseF _ _ kA rd t 2 rdf rdp rdn t0 tsz tkd tpl tbh twd tnu (show tkd ≤ 4 by first | assumption | omega) (show 1 ≤ 2 by first | assumption | omega) (show 2 ≤ 5 by first | assumption | omega)) tw_647 tw_649 tw_4 tw_89 tw_650 (by decide +kernel) rfl ⟨Nat.le_of_ble_eq_true rfl, Nat.le_of_ble_eq_true rfl⟩ rfl rfl (by decide +kernel) rfl rfl (by decide +kernel) (by decide +kernel) (Nat.le_of_ble_eq_true rfl) rfl ⟨Nat.le_of_ble_eq_true rfl, Nat.le_of_ble_eq_true rfl⟩ dX6_knownName_10 ?_
    rintro r650382 q650380 e650381
    obtain ⟨p650383, p650384⟩ := e650381
    subst p650383
    replace p650384 : q650380 = if tkd = 4 then 1 else 2 := p650384
    show J x (mflat [(nm, .inl (.inl (kA 2, N0, .inr (.inl nf)))), (t0, .inl (.inl (kA 0, 1600, .inl tby))), (rd, .inl (.inr (6, [.int (nI q650380), .int (nI tpl), .int rdn]))), (t, .inl (.inr (9, [.ref t0, .int (nI tsz), .int (nI tkd), .int (nI tpl), .int (nI tbh), .long twd, .int tnu])))]) [(0, .ref rd), (1, .ref t), (2, .ref nm), (3, .int (nI cn))] 0 0 13 [.int 0]
    refine j_pop h rfl dX6_knownName_13 ?_
    refine j_iconst (v := (-1)) h (by decide) dX6_knownName_14 ?_
    exact jm_iret h hq dX6_knownName_15 (0, q650380, (nI tpl)) [2, 3, 1, 0] rfl (by decide) ⟨rfl, (show 0 ≤ cn by first | assumption | omega), (show (¬ 0 = 0 → (oldS ct tsz i cn p D).1 = 0 ∧ 0 = (oldS ct tsz i cn p D).2 ∧ q650380 = rdf ∧ (nI tpl) = rdp) ∧ (0 = 0 → ¬ (oldS ct tsz i cn p D).1 = 0 ∧ q650380 = (oldS ct tsz i cn p D).1 ∧ (nI tpl) = nI (tP ct tsz p)) from (by have e9 := oldS_3 (D := D) (i := i) (n := cn) (p650365 (by omega)); rw [e9]; exact ⟨fun h9 => absurd rfl h9, fun _ => ⟨fl1_pos (by decide), p650384.trans (fl_C htk.1), congrArg nI htk.2.1⟩⟩))⟩ (Nat.le_of_ble_eq_true rfl) (Nat.le_of_ble_eq_true rfl)
set_option maxHeartbeats 4000000 in
set_option maxRecDepth 100000 in
theorem s_X6_passWordF (lau : Launch) (gg : va_G) (kA : Nat → ClassId) (rd : Nat) (t : Nat) (si : Nat) (rdf : Nat) (rdp : Int32) (rdn : Int32) (t0 : Nat) (tsz : Nat) (tkd : Nat) (tpl : Nat) (tbh : Nat) (twd : Int64) (tnu : Int32) (tby : Nat → Int32) (ct : Nat → Nat) (p : Nat) (w : Nat) (htsz : tsz ≤ 1600) (htpl : tpl ≤ tsz) (htbh : tbh ≤ tsz) (hkd : tkd ≤ 4) (hct : CtC ct tsz tby) (hcb : CbOk ct tsz) (htk : TokC ct tsz p tkd tpl tbh tnu twd) (hsi : si < 20) (hsw : sW si = w) : CtI lau yX6_passWord cX6_passWord 3 (some .boolean) 6 0 0 gg kA [.ref rd, .ref t, .ref (kA (100 + si))] (mflat [(rd, .inl (.inr (6, [.int (nI rdf), .int rdp, .int rdn]))), (t, .inl (.inr (9, [.ref t0, .int (nI tsz), .int (nI tkd), .int (nI tpl), .int (nI tbh), .long twd, .int tnu]))), (t0, .inl (.inl (kA 0, 1600, .inl tby)))]) (S := Nat × Nat × Int32 × Nat × Nat × Nat × Int64 × Int32) (fun (r : Int32) ((y_r, y_rd_0, y_rd_1, y_t_2, y_t_3, y_t_4, y_t_5, y_t_6) : Nat × Nat × Int32 × Nat × Nat × Nat × Int64 × Int32) => r = nI y_r ∧ (y_r ≤ 1) ∧ (y_t_3 ≤ tsz) ∧ (y_t_4 ≤ tsz) ∧ (y_t_2 ≤ 4) ∧ ((y_r = 1 → isWd ct tsz p w ∧ y_rd_0 = rdf ∧ y_rd_1 = rdp ∧ TokC ct tsz (tE ct tsz p) y_t_2 y_t_3 y_t_4 y_t_6 y_t_5) ∧ (y_r = 0 → ¬ isWd ct tsz p w ∧ y_rd_0 = fl1 (tS ct tsz p) 2 ∧ y_rd_1 = nI (tP ct tsz p)))) (fun ((y_r, y_rd_0, y_rd_1, y_t_2, y_t_3, y_t_4, y_t_5, y_t_6) : Nat × Nat × Int32 × Nat × Nat × Nat × Int64 × Int32) => mflat [(rd, .inl (.inr (6, [.int (nI y_rd_0), .int y_rd_1, .int rdn]))), (t, .inl (.inr (9, [.ref t0, .int (nI tsz), .int (nI y_t_2), .int (nI y_t_3), .int (nI y_t_4), .long y_t_5, .int y_t_6]))), (t0, .inl (.inl (kA 0, 1600, .inl tby)))]) := by
  refine nx_startI (by decide +kernel) (Nat.le_of_ble_eq_true rfl) ?_
  intro x hnm h hq
  have h : Ok x cX6_passWord RX6 kA (rmC 6 0 0) 3 := h
  show J x (mflat [(rd, .inl (.inr (6, [.int (nI rdf), .int rdp, .int rdn]))), (t, .inl (.inr (9, [.ref t0, .int (nI tsz), .int (nI tkd), .int (nI tpl), .int (nI tbh), .long twd, .int tnu]))), (t0, .inl (.inl (kA 0, 1600, .inl tby)))]) [(0, .ref rd), (1, .ref t), (2, .ref (kA (100 + si)))] 0 0 0 []
  refine j_aload_n h 1 rfl rfl dX6_passWord_0 ?_
  refine j_aload_n h 2 rfl rfl dX6_passWord_1 ?_
  refine jm_callVi (np := 1) (isC := [1, 2]) (isR := [0]) (wc := [(t, .inl (.inr (9, [.ref t0, .int (nI tsz), .int (nI tkd), .int (nI tpl), .int (nI tbh), .long twd, .int tnu]))), (t0, .inl (.inl (kA 0, 1600, .inl tby)))]) (wr := [(rd, .inl (.inr (6, [.int (nI rdf), .int rdp, .int rdn])))]) (rest := []) (As := [.ref (kA (100 + si))]) (q0 := 0) h (s_X9_isAtF _ _ kA t si t0 tsz tkd tpl tbh twd tnu tby ct p w (show tsz ≤ 1600 by first | assumption | omega) (show tpl ≤ tsz by first | assumption | omega) (show tbh ≤ tsz by first | assumption | omega) (show tkd ≤ 4 by first | assumption | omega) (show CtC ct tsz tby by first | assumption | omega) (show CbOk ct tsz by first | assumption | omega) (show si < 20 by first | assumption | omega) (show TokC ct tsz p tkd tpl tbh tnu twd from htk) (show sW si = w from hsw)) tw_591 tw_592 tw_593 tw_88 tw_594 (by decide +kernel) rfl ⟨Nat.le_of_ble_eq_true rfl, Nat.le_of_ble_eq_true rfl⟩ rfl rfl (by decide +kernel) rfl rfl (by decide +kernel) (by decide +kernel) (Nat.le_of_ble_eq_true rfl) rfl ⟨Nat.le_of_ble_eq_true rfl, Nat.le_of_ble_eq_true rfl⟩ dX6_passWord_2 ?_
  rintro r650411 q650409 e650410
  obtain ⟨p650412, p650413, p650414, p650415⟩ := e650410
  subst p650412
  replace p650413 : q650409 ≤ 1 := p650413
  replace p650414 : q650409 = 1 → isWd ct tsz p w := p650414
  replace p650415 : q650409 = 0 → ¬ isWd ct tsz p w := p650415
  show J x (mflat [(rd, .inl (.inr (6, [.int (nI rdf), .int rdp, .int rdn]))), (t, .inl (.inr (9, [.ref t0, .int (nI tsz), .int (nI tkd), .int (nI tpl), .int (nI tbh), .long twd, .int tnu]))), (t0, .inl (.inl (kA 0, 1600, .inl tby)))]) [(0, .ref rd), (1, .ref t), (2, .ref (kA (100 + si)))] 0 0 5 [.int (nI q650409)]
  refine j_if_ne h 15 dX6_passWord_5 (by decide) (fun z650416 => ?_) (fun z650416 => ?_)
  · have z650416n : ¬ q650409 = 0 := fun q9 => z650416 ((nI_eq (a := q650409) (b := 0) (by omega) (by omega)).mpr q9)
    have hk9 := (kd_S htk.1).2.1.mpr (p650414 (by omega)).1
    refine j_aload_n h 1 rfl rfl dX6_passWord_15 ?_
    refine jm_callVv (np := 0) (isC := [1, 2]) (isR := [0]) (wc := [(t, .inl (.inr (9, [.ref t0, .int (nI tsz), .int (nI tkd), .int (nI tpl), .int (nI tbh), .long twd, .int tnu]))), (t0, .inl (.inl (kA 0, 1600, .inl tby)))]) (wr := [(rd, .inl (.inr (6, [.int (nI rdf), .int rdp, .int rdn])))]) (rest := []) (As := []) (q0 := 0) h (s_X9_readNextF _ _ kA t t0 tsz (nI tkd) (nI tpl) tbh twd tnu tby ct (show tsz ≤ 1600 by first | assumption | omega) (show tbh ≤ tsz by first | assumption | omega) (show CtC ct tsz tby by first | assumption | omega) (show CbOk ct tsz by first | assumption | omega)) tw_651 tw_566 tw_567 tw_88 tw_568 (by decide +kernel) rfl ⟨Nat.le_of_ble_eq_true rfl, Nat.le_of_ble_eq_true rfl⟩ rfl rfl (by decide +kernel) rfl rfl (by decide +kernel) (by decide +kernel) (Nat.le_of_ble_eq_true rfl) rfl ⟨Nat.le_of_ble_eq_true rfl, Nat.le_of_ble_eq_true rfl⟩ dX6_passWord_16 ?_
    rintro ⟨q650417, q650418, q650419, q650420, q650421⟩ e650422
    obtain ⟨p650424, p650425, p650426⟩ := e650422
    replace p650424 : q650418 ≤ tsz := p650424
    replace p650425 : q650419 ≤ tsz := p650425
    replace p650426 : TokC ct tsz tbh q650417 q650418 q650419 q650421 q650420 := p650426
    show J x (mflat [(rd, .inl (.inr (6, [.int (nI rdf), .int rdp, .int rdn]))), (t, .inl (.inr (9, [.ref t0, .int (nI tsz), .int (nI q650417), .int (nI q650418), .int (nI q650419), .long q650420, .int q650421]))), (t0, .inl (.inl (kA 0, 1600, .inl tby)))]) [(0, .ref rd), (1, .ref t), (2, .ref (kA (100 + si)))] 0 0 19 []
    have k650427 : TokC ct tsz (tE ct tsz p) q650417 q650418 q650419 q650421 q650420 := TokC_nx htk (by omega) p650426
    have k650427k := kd_le k650427.1
    refine j_iconst (v := 1) h (by decide) dX6_passWord_19 ?_
    exact jm_zret h hq rfl dX6_passWord_20 (1, rdf, rdp, q650417, q650418, q650419, q650420, q650421) [0, 1, 2] rfl (by decide) ⟨rfl, (show 1 ≤ 1 by first | assumption | omega), (show q650418 ≤ tsz by first | assumption | omega), (show q650419 ≤ tsz by first | assumption | omega), (show q650417 ≤ 4 by first | assumption | omega), (show (1 = 1 → isWd ct tsz p w ∧ rdf = rdf ∧ rdp = rdp ∧ TokC ct tsz (tE ct tsz p) q650417 q650418 q650419 q650421 q650420) ∧ (1 = 0 → ¬ isWd ct tsz p w ∧ rdf = fl1 (tS ct tsz p) 2 ∧ rdp = nI (tP ct tsz p)) from ⟨fun _ => ⟨p650414 (by omega), rfl, rfl, k650427⟩, fun h9 => absurd h9 (by decide)⟩)⟩ (Nat.le_of_ble_eq_true rfl) (Nat.le_of_ble_eq_true rfl)
  · have z650416n : q650409 = 0 := (nI_eq (a := q650409) (b := 0) (by omega) (by omega)).mp z650416
    refine j_aload_n h 0 rfl rfl dX6_passWord_8 ?_
    refine j_aload_n h 1 rfl rfl dX6_passWord_9 ?_
    refine j_iconst (v := 2) h (by decide) dX6_passWord_10 ?_
    refine jm_callVi (np := 2) (isC := [0, 1]) (isR := [2]) (wc := [(rd, .inl (.inr (6, [.int (nI rdf), .int rdp, .int rdn]))), (t, .inl (.inr (9, [.ref t0, .int (nI tsz), .int (nI tkd), .int (nI tpl), .int (nI tbh), .long twd, .int tnu])))]) (wr := [(t0, .inl (.inl (kA 0, 1600, .inl tby)))]) (rest := []) (As := [.ref t, .int 2]) (q0 := 0) h (s_X6_refuseF _ _ kA rd t 2 rdf rdp rdn t0 tsz tkd tpl tbh twd tnu (show tkd ≤ 4 by first | assumption | omega) (show 1 ≤ 2 by first | assumption | omega) (show 2 ≤ 5 by first | assumption | omega)) tw_647 tw_649 tw_4 tw_89 tw_650 (by decide +kernel) rfl ⟨Nat.le_of_ble_eq_true rfl, Nat.le_of_ble_eq_true rfl⟩ rfl rfl (by decide +kernel) rfl rfl (by decide +kernel) (by decide +kernel) (Nat.le_of_ble_eq_true rfl) rfl ⟨Nat.le_of_ble_eq_true rfl, Nat.le_of_ble_eq_true rfl⟩ dX6_passWord_11 ?_
    rintro r650430 q650428 e650429
    obtain ⟨p650431, p650432⟩ := e650429
    subst p650431
    replace p650432 : q650428 = if tkd = 4 then 1 else 2 := p650432
    show J x (mflat [(t0, .inl (.inl (kA 0, 1600, .inl tby))), (rd, .inl (.inr (6, [.int (nI q650428), .int (nI tpl), .int rdn]))), (t, .inl (.inr (9, [.ref t0, .int (nI tsz), .int (nI tkd), .int (nI tpl), .int (nI tbh), .long twd, .int tnu])))]) [(0, .ref rd), (1, .ref t), (2, .ref (kA (100 + si)))] 0 0 14 [.int 0]
    exact jm_zret h hq rfl dX6_passWord_14 (0, q650428, (nI tpl), tkd, tpl, tbh, twd, tnu) [1, 2, 0] rfl (by decide) ⟨rfl, (show 0 ≤ 1 by first | assumption | omega), (show tpl ≤ tsz by first | assumption | omega), (show tbh ≤ tsz by first | assumption | omega), (show tkd ≤ 4 by first | assumption | omega), (show (0 = 1 → isWd ct tsz p w ∧ q650428 = rdf ∧ (nI tpl) = rdp ∧ TokC ct tsz (tE ct tsz p) tkd tpl tbh tnu twd) ∧ (0 = 0 → ¬ isWd ct tsz p w ∧ q650428 = fl1 (tS ct tsz p) 2 ∧ (nI tpl) = nI (tP ct tsz p)) from ⟨fun h9 => absurd h9 (by decide), fun _ => ⟨p650415 (by omega), p650432.trans (fl_C htk.1), congrArg nI htk.2.1⟩⟩)⟩ (Nat.le_of_ble_eq_true rfl) (Nat.le_of_ble_eq_true rfl)
set_option maxHeartbeats 4000000 in
set_option maxRecDepth 100000 in
theorem s_X6_passNumberF (lau : Launch) (gg : va_G) (kA : Nat → ClassId) (rd : Nat) (t : Nat) (lo : Nat) (hi : Nat) (rdf : Nat) (rdp : Int32) (rdn : Int32) (t0 : Nat) (tsz : Nat) (tkd : Nat) (tpl : Nat) (tbh : Nat) (twd : Int64) (tnu : Int32) (tby : Nat → Int32) (ct : Nat → Nat) (p : Nat) (htsz : tsz ≤ 1600) (htpl : tpl ≤ tsz) (htbh : tbh ≤ tsz) (hkd : tkd ≤ 4) (hct : CtC ct tsz tby) (hcb : CbOk ct tsz) (htk : TokC ct tsz p tkd tpl tbh tnu twd) (hlo : lo ≤ 100) (hhi : hi ≤ 100) : CtI lau yX6_passNumber cX6_passNumber 4 (some .boolean) 4 0 0 gg kA [.ref rd, .ref t, .int (nI lo), .int (nI hi)] (mflat [(rd, .inl (.inr (6, [.int (nI rdf), .int rdp, .int rdn]))), (t, .inl (.inr (9, [.ref t0, .int (nI tsz), .int (nI tkd), .int (nI tpl), .int (nI tbh), .long twd, .int tnu]))), (t0, .inl (.inl (kA 0, 1600, .inl tby)))]) (S := Nat × Nat × Int32 × Int32 × Nat × Nat × Nat × Int64 × Int32) (fun (r : Int32) ((y_r, y_rd_0, y_rd_1, y_rd_2, y_t_2, y_t_3, y_t_4, y_t_5, y_t_6) : Nat × Nat × Int32 × Int32 × Nat × Nat × Nat × Int64 × Int32) => r = nI y_r ∧ (y_r ≤ 1) ∧ (y_t_3 ≤ tsz) ∧ (y_t_4 ≤ tsz) ∧ (y_t_2 ≤ 4) ∧ ((y_r = 1 → tS ct tsz p = 2 ∧ (lo ≤ tN ct tsz p ∧ tN ct tsz p ≤ hi) ∧ y_rd_2 = nI (tN ct tsz p) ∧ y_rd_0 = rdf ∧ y_rd_1 = rdp ∧ TokC ct tsz (tE ct tsz p) y_t_2 y_t_3 y_t_4 y_t_6 y_t_5) ∧ (y_r = 0 → y_rd_1 = nI (tP ct tsz p) ∧ ((¬ tS ct tsz p = 2 ∧ y_rd_0 = fl1 (tS ct tsz p) 2) ∨ (tS ct tsz p = 2 ∧ ¬ (lo ≤ tN ct tsz p ∧ tN ct tsz p ≤ hi) ∧ y_rd_0 = 4))))) (fun ((y_r, y_rd_0, y_rd_1, y_rd_2, y_t_2, y_t_3, y_t_4, y_t_5, y_t_6) : Nat × Nat × Int32 × Int32 × Nat × Nat × Nat × Int64 × Int32) => mflat [(rd, .inl (.inr (6, [.int (nI y_rd_0), .int y_rd_1, .int y_rd_2]))), (t, .inl (.inr (9, [.ref t0, .int (nI tsz), .int (nI y_t_2), .int (nI y_t_3), .int (nI y_t_4), .long y_t_5, .int y_t_6]))), (t0, .inl (.inl (kA 0, 1600, .inl tby)))]) := by
  refine nx_startI (by decide +kernel) (Nat.le_of_ble_eq_true rfl) ?_
  intro x hnm h hq
  have h : Ok x cX6_passNumber RX6 kA (rmC 4 0 0) 4 := h
  show J x (mflat [(rd, .inl (.inr (6, [.int (nI rdf), .int rdp, .int rdn]))), (t, .inl (.inr (9, [.ref t0, .int (nI tsz), .int (nI tkd), .int (nI tpl), .int (nI tbh), .long twd, .int tnu]))), (t0, .inl (.inl (kA 0, 1600, .inl tby)))]) [(0, .ref rd), (1, .ref t), (2, .int (nI lo)), (3, .int (nI hi))] 0 0 0 []
  refine j_aload_n h 1 rfl rfl dX6_passNumber_0 ?_
  refine jm_get h iw_X9 1 rfl rfl 2 (by decide +kernel) tw_124 rfl dX6_passNumber_1 ?_
  refine j_iconst (v := 2) h (by decide) dX6_passNumber_4 ?_
  refine j_icmp_eq h 15 dX6_passNumber_5 (by decide) (fun z650462 => ?_) (fun z650462 => ?_)
  · have z650462n : tkd = 2 := (nI_eq (a := tkd) (b := 2) (by omega) (by omega)).mp z650462
    have hs9 := (kd_S htk.1).2.2.1.mp (by omega)
    have hn9 := htk.2.2.2.2 (by omega)
    have hb9 := tN_b hcb hs9
    obtain ⟨nv, hnv⟩ : ∃ n9, n9 = tN ct tsz p := ⟨_, rfl⟩
    rw [← hnv] at hn9 hb9
    subst hn9
    show J x (mflat [(rd, .inl (.inr (6, [.int (nI rdf), .int rdp, .int rdn]))), (t, .inl (.inr (9, [.ref t0, .int (nI tsz), .int (nI tkd), .int (nI tpl), .int (nI tbh), .long twd, .int (nI nv)]))), (t0, .inl (.inl (kA 0, 1600, .inl tby)))]) [(0, .ref rd), (1, .ref t), (2, .int (nI lo)), (3, .int (nI hi))] 0 0 15 []
    refine j_aload_n h 1 rfl rfl dX6_passNumber_15 ?_
    refine jm_get h iw_X9 1 rfl rfl 6 (by decide +kernel) tw_132 rfl dX6_passNumber_16 ?_
    refine j_iload_n h 2 rfl rfl dX6_passNumber_19 ?_
    refine j_icmp_lt h 31 dX6_passNumber_20 (by decide) (fun z650463 => ?_) (fun z650463 => ?_)
    · have z650463n : nv < lo := (nI_ltI (a := nv) (b := lo) (by omega) (by omega)).mp z650463
      refine j_aload_n h 0 rfl rfl dX6_passNumber_31 ?_
      refine j_aload_n h 1 rfl rfl dX6_passNumber_32 ?_
      refine j_iconst (v := 4) h (by decide) dX6_passNumber_33 ?_
      refine jm_callVi (np := 2) (isC := [0, 1]) (isR := [2]) (wc := [(rd, .inl (.inr (6, [.int (nI rdf), .int rdp, .int rdn]))), (t, .inl (.inr (9, [.ref t0, .int (nI tsz), .int (nI tkd), .int (nI tpl), .int (nI tbh), .long twd, .int (nI nv)])))]) (wr := [(t0, .inl (.inl (kA 0, 1600, .inl tby)))]) (rest := []) (As := [.ref t, .int 4]) (q0 := 0) h (s_X6_refuseF _ _ kA rd t 4 rdf rdp rdn t0 tsz tkd tpl tbh twd (nI nv) (show tkd ≤ 4 by first | assumption | omega) (show 1 ≤ 4 by first | assumption | omega) (show 4 ≤ 5 by first | assumption | omega)) tw_647 tw_649 tw_4 tw_89 tw_650 (by decide +kernel) rfl ⟨Nat.le_of_ble_eq_true rfl, Nat.le_of_ble_eq_true rfl⟩ rfl rfl (by decide +kernel) rfl rfl (by decide +kernel) (by decide +kernel) (Nat.le_of_ble_eq_true rfl) rfl ⟨Nat.le_of_ble_eq_true rfl, Nat.le_of_ble_eq_true rfl⟩ dX6_passNumber_34 ?_
      rintro r650466 q650464 e650465
      obtain ⟨p650467, p650468⟩ := e650465
      subst p650467
      replace p650468 : q650464 = if tkd = 4 then 1 else 4 := p650468
      show J x (mflat [(t0, .inl (.inl (kA 0, 1600, .inl tby))), (rd, .inl (.inr (6, [.int (nI q650464), .int (nI tpl), .int rdn]))), (t, .inl (.inr (9, [.ref t0, .int (nI tsz), .int (nI tkd), .int (nI tpl), .int (nI tbh), .long twd, .int (nI nv)])))]) [(0, .ref rd), (1, .ref t), (2, .int (nI lo)), (3, .int (nI hi))] 0 0 37 [.int 0]
      exact jm_zret h hq rfl dX6_passNumber_37 (0, q650464, (nI tpl), rdn, tkd, tpl, tbh, twd, (nI nv)) [1, 2, 0] rfl (by decide) ⟨rfl, (show 0 ≤ 1 by first | assumption | omega), (show tpl ≤ tsz by first | assumption | omega), (show tbh ≤ tsz by first | assumption | omega), (show tkd ≤ 4 by first | assumption | omega), (show (0 = 1 → tS ct tsz p = 2 ∧ (lo ≤ tN ct tsz p ∧ tN ct tsz p ≤ hi) ∧ rdn = nI (tN ct tsz p) ∧ q650464 = rdf ∧ (nI tpl) = rdp ∧ TokC ct tsz (tE ct tsz p) tkd tpl tbh (nI nv) twd) ∧ (0 = 0 → (nI tpl) = nI (tP ct tsz p) ∧ ((¬ tS ct tsz p = 2 ∧ q650464 = fl1 (tS ct tsz p) 2) ∨ (tS ct tsz p = 2 ∧ ¬ (lo ≤ tN ct tsz p ∧ tN ct tsz p ≤ hi) ∧ q650464 = 4))) from ⟨fun h9 => absurd h9 (by decide), fun _ => ⟨congrArg nI htk.2.1, Or.inr ⟨hs9, (by rw [← hnv]; omega), p650468.trans (if_neg (by omega))⟩⟩⟩)⟩ (Nat.le_of_ble_eq_true rfl) (Nat.le_of_ble_eq_true rfl)
    · have z650463n : ¬ nv < lo := fun q9 => z650463 ((nI_ltI (a := nv) (b := lo) (by omega) (by omega)).mpr q9)
      refine j_aload_n h 1 rfl rfl dX6_passNumber_23 ?_
      refine jm_get h iw_X9 1 rfl rfl 6 (by decide +kernel) tw_132 rfl dX6_passNumber_24 ?_
      refine j_iload_n h 3 rfl rfl dX6_passNumber_27 ?_
      refine j_icmp_le h 38 dX6_passNumber_28 (by decide) (fun z650469 => ?_) (fun z650469 => ?_)
      · have z650469n : nv ≤ hi := (nI_leI (a := nv) (b := hi) (by omega) (by omega)).mp z650469
        refine j_aload_n h 0 rfl rfl dX6_passNumber_38 ?_
        refine j_aload_n h 1 rfl rfl dX6_passNumber_39 ?_
        refine jm_get h iw_X9 1 rfl rfl 6 (by decide +kernel) tw_132 rfl dX6_passNumber_40 ?_
        refine jm_put (w' := [(rd, .inl (.inr (6, [.int (nI rdf), .int rdp, .int (nI nv)]))), (t, .inl (.inr (9, [.ref t0, .int (nI tsz), .int (nI tkd), .int (nI tpl), .int (nI tbh), .long twd, .int (nI nv)]))), (t0, .inl (.inl (kA 0, 1600, .inl tby)))]) h iw_X6 tyX6 tyX6_ok nmX6 0 rfl rfl 2 (by decide +kernel) tw_159 rfl rfl rfl (Nat.le_of_ble_eq_true rfl) dX6_passNumber_43 rfl ?_
        refine j_aload_n h 1 rfl rfl dX6_passNumber_46 ?_
        refine jm_callVv (np := 0) (isC := [1, 2]) (isR := [0]) (wc := [(t, .inl (.inr (9, [.ref t0, .int (nI tsz), .int (nI tkd), .int (nI tpl), .int (nI tbh), .long twd, .int (nI nv)]))), (t0, .inl (.inl (kA 0, 1600, .inl tby)))]) (wr := [(rd, .inl (.inr (6, [.int (nI rdf), .int rdp, .int (nI nv)])))]) (rest := []) (As := []) (q0 := 0) h (s_X9_readNextF _ _ kA t t0 tsz (nI tkd) (nI tpl) tbh twd (nI nv) tby ct (show tsz ≤ 1600 by first | assumption | omega) (show tbh ≤ tsz by first | assumption | omega) (show CtC ct tsz tby by first | assumption | omega) (show CbOk ct tsz by first | assumption | omega)) tw_651 tw_566 tw_567 tw_88 tw_568 (by decide +kernel) rfl ⟨Nat.le_of_ble_eq_true rfl, Nat.le_of_ble_eq_true rfl⟩ rfl rfl (by decide +kernel) rfl rfl (by decide +kernel) (by decide +kernel) (Nat.le_of_ble_eq_true rfl) rfl ⟨Nat.le_of_ble_eq_true rfl, Nat.le_of_ble_eq_true rfl⟩ dX6_passNumber_47 ?_
        rintro ⟨q650470, q650471, q650472, q650473, q650474⟩ e650475
        obtain ⟨p650477, p650478, p650479⟩ := e650475
        replace p650477 : q650471 ≤ tsz := p650477
        replace p650478 : q650472 ≤ tsz := p650478
        replace p650479 : TokC ct tsz tbh q650470 q650471 q650472 q650474 q650473 := p650479
        show J x (mflat [(rd, .inl (.inr (6, [.int (nI rdf), .int rdp, .int (nI nv)]))), (t, .inl (.inr (9, [.ref t0, .int (nI tsz), .int (nI q650470), .int (nI q650471), .int (nI q650472), .long q650473, .int q650474]))), (t0, .inl (.inl (kA 0, 1600, .inl tby)))]) [(0, .ref rd), (1, .ref t), (2, .int (nI lo)), (3, .int (nI hi))] 0 0 50 []
        have k650480 : TokC ct tsz (tE ct tsz p) q650470 q650471 q650472 q650474 q650473 := TokC_nx htk (by omega) p650479
        have k650480k := kd_le k650480.1
        refine j_iconst (v := 1) h (by decide) dX6_passNumber_50 ?_
        exact jm_zret h hq rfl dX6_passNumber_51 (1, rdf, rdp, (nI nv), q650470, q650471, q650472, q650473, q650474) [0, 1, 2] rfl (by decide) ⟨rfl, (show 1 ≤ 1 by first | assumption | omega), (show q650471 ≤ tsz by first | assumption | omega), (show q650472 ≤ tsz by first | assumption | omega), (show q650470 ≤ 4 by first | assumption | omega), (show (1 = 1 → tS ct tsz p = 2 ∧ (lo ≤ tN ct tsz p ∧ tN ct tsz p ≤ hi) ∧ (nI nv) = nI (tN ct tsz p) ∧ rdf = rdf ∧ rdp = rdp ∧ TokC ct tsz (tE ct tsz p) q650470 q650471 q650472 q650474 q650473) ∧ (1 = 0 → rdp = nI (tP ct tsz p) ∧ ((¬ tS ct tsz p = 2 ∧ rdf = fl1 (tS ct tsz p) 2) ∨ (tS ct tsz p = 2 ∧ ¬ (lo ≤ tN ct tsz p ∧ tN ct tsz p ≤ hi) ∧ rdf = 4))) from ⟨fun _ => ⟨hs9, (by rw [← hnv]; omega), congrArg nI hnv, rfl, rfl, k650480⟩, fun h9 => absurd h9 (by decide)⟩)⟩ (Nat.le_of_ble_eq_true rfl) (Nat.le_of_ble_eq_true rfl)
      · have z650469n : ¬ nv ≤ hi := fun q9 => z650469 ((nI_leI (a := nv) (b := hi) (by omega) (by omega)).mpr q9)
        refine j_aload_n h 0 rfl rfl dX6_passNumber_31 ?_
        refine j_aload_n h 1 rfl rfl dX6_passNumber_32 ?_
        refine j_iconst (v := 4) h (by decide) dX6_passNumber_33 ?_
        refine jm_callVi (np := 2) (isC := [0, 1]) (isR := [2]) (wc := [(rd, .inl (.inr (6, [.int (nI rdf), .int rdp, .int rdn]))), (t, .inl (.inr (9, [.ref t0, .int (nI tsz), .int (nI tkd), .int (nI tpl), .int (nI tbh), .long twd, .int (nI nv)])))]) (wr := [(t0, .inl (.inl (kA 0, 1600, .inl tby)))]) (rest := []) (As := [.ref t, .int 4]) (q0 := 0) h (s_X6_refuseF _ _ kA rd t 4 rdf rdp rdn t0 tsz tkd tpl tbh twd (nI nv) (show tkd ≤ 4 by first | assumption | omega) (show 1 ≤ 4 by first | assumption | omega) (show 4 ≤ 5 by first | assumption | omega)) tw_647 tw_649 tw_4 tw_89 tw_650 (by decide +kernel) rfl ⟨Nat.le_of_ble_eq_true rfl, Nat.le_of_ble_eq_true rfl⟩ rfl rfl (by decide +kernel) rfl rfl (by decide +kernel) (by decide +kernel) (Nat.le_of_ble_eq_true rfl) rfl ⟨Nat.le_of_ble_eq_true rfl, Nat.le_of_ble_eq_true rfl⟩ dX6_passNumber_34 ?_
        rintro r650483 q650481 e650482
        obtain ⟨p650484, p650485⟩ := e650482
        subst p650484
        replace p650485 : q650481 = if tkd = 4 then 1 else 4 := p650485
        show J x (mflat [(t0, .inl (.inl (kA 0, 1600, .inl tby))), (rd, .inl (.inr (6, [.int (nI q650481), .int (nI tpl), .int rdn]))), (t, .inl (.inr (9, [.ref t0, .int (nI tsz), .int (nI tkd), .int (nI tpl), .int (nI tbh), .long twd, .int (nI nv)])))]) [(0, .ref rd), (1, .ref t), (2, .int (nI lo)), (3, .int (nI hi))] 0 0 37 [.int 0]
        exact jm_zret h hq rfl dX6_passNumber_37 (0, q650481, (nI tpl), rdn, tkd, tpl, tbh, twd, (nI nv)) [1, 2, 0] rfl (by decide) ⟨rfl, (show 0 ≤ 1 by first | assumption | omega), (show tpl ≤ tsz by first | assumption | omega), (show tbh ≤ tsz by first | assumption | omega), (show tkd ≤ 4 by first | assumption | omega), (show (0 = 1 → tS ct tsz p = 2 ∧ (lo ≤ tN ct tsz p ∧ tN ct tsz p ≤ hi) ∧ rdn = nI (tN ct tsz p) ∧ q650481 = rdf ∧ (nI tpl) = rdp ∧ TokC ct tsz (tE ct tsz p) tkd tpl tbh (nI nv) twd) ∧ (0 = 0 → (nI tpl) = nI (tP ct tsz p) ∧ ((¬ tS ct tsz p = 2 ∧ q650481 = fl1 (tS ct tsz p) 2) ∨ (tS ct tsz p = 2 ∧ ¬ (lo ≤ tN ct tsz p ∧ tN ct tsz p ≤ hi) ∧ q650481 = 4))) from ⟨fun h9 => absurd h9 (by decide), fun _ => ⟨congrArg nI htk.2.1, Or.inr ⟨hs9, (by rw [← hnv]; omega), p650485.trans (if_neg (by omega))⟩⟩⟩)⟩ (Nat.le_of_ble_eq_true rfl) (Nat.le_of_ble_eq_true rfl)
  · have z650462n : ¬ tkd = 2 := fun q9 => z650462 ((nI_eq (a := tkd) (b := 2) (by omega) (by omega)).mpr q9)
    refine j_aload_n h 0 rfl rfl dX6_passNumber_8 ?_
    refine j_aload_n h 1 rfl rfl dX6_passNumber_9 ?_
    refine j_iconst (v := 2) h (by decide) dX6_passNumber_10 ?_
    refine jm_callVi (np := 2) (isC := [0, 1]) (isR := [2]) (wc := [(rd, .inl (.inr (6, [.int (nI rdf), .int rdp, .int rdn]))), (t, .inl (.inr (9, [.ref t0, .int (nI tsz), .int (nI tkd), .int (nI tpl), .int (nI tbh), .long twd, .int tnu])))]) (wr := [(t0, .inl (.inl (kA 0, 1600, .inl tby)))]) (rest := []) (As := [.ref t, .int 2]) (q0 := 0) h (s_X6_refuseF _ _ kA rd t 2 rdf rdp rdn t0 tsz tkd tpl tbh twd tnu (show tkd ≤ 4 by first | assumption | omega) (show 1 ≤ 2 by first | assumption | omega) (show 2 ≤ 5 by first | assumption | omega)) tw_647 tw_649 tw_4 tw_89 tw_650 (by decide +kernel) rfl ⟨Nat.le_of_ble_eq_true rfl, Nat.le_of_ble_eq_true rfl⟩ rfl rfl (by decide +kernel) rfl rfl (by decide +kernel) (by decide +kernel) (Nat.le_of_ble_eq_true rfl) rfl ⟨Nat.le_of_ble_eq_true rfl, Nat.le_of_ble_eq_true rfl⟩ dX6_passNumber_11 ?_
    rintro r650488 q650486 e650487
    obtain ⟨p650489, p650490⟩ := e650487
    subst p650489
    replace p650490 : q650486 = if tkd = 4 then 1 else 2 := p650490
    show J x (mflat [(t0, .inl (.inl (kA 0, 1600, .inl tby))), (rd, .inl (.inr (6, [.int (nI q650486), .int (nI tpl), .int rdn]))), (t, .inl (.inr (9, [.ref t0, .int (nI tsz), .int (nI tkd), .int (nI tpl), .int (nI tbh), .long twd, .int tnu])))]) [(0, .ref rd), (1, .ref t), (2, .int (nI lo)), (3, .int (nI hi))] 0 0 14 [.int 0]
    exact jm_zret h hq rfl dX6_passNumber_14 (0, q650486, (nI tpl), rdn, tkd, tpl, tbh, twd, tnu) [1, 2, 0] rfl (by decide) ⟨rfl, (show 0 ≤ 1 by first | assumption | omega), (show tpl ≤ tsz by first | assumption | omega), (show tbh ≤ tsz by first | assumption | omega), (show tkd ≤ 4 by first | assumption | omega), (show (0 = 1 → tS ct tsz p = 2 ∧ (lo ≤ tN ct tsz p ∧ tN ct tsz p ≤ hi) ∧ rdn = nI (tN ct tsz p) ∧ q650486 = rdf ∧ (nI tpl) = rdp ∧ TokC ct tsz (tE ct tsz p) tkd tpl tbh tnu twd) ∧ (0 = 0 → (nI tpl) = nI (tP ct tsz p) ∧ ((¬ tS ct tsz p = 2 ∧ q650486 = fl1 (tS ct tsz p) 2) ∨ (tS ct tsz p = 2 ∧ ¬ (lo ≤ tN ct tsz p ∧ tN ct tsz p ≤ hi) ∧ q650486 = 4))) from ⟨fun h9 => absurd h9 (by decide), fun _ => ⟨congrArg nI htk.2.1, Or.inl ⟨fun q9 => absurd ((kd_S htk.1).2.2.1.mpr q9) (by omega), p650490.trans (fl_C htk.1)⟩⟩⟩)⟩ (Nat.le_of_ble_eq_true rfl) (Nat.le_of_ble_eq_true rfl)
set_option maxHeartbeats 4000000 in
set_option maxRecDepth 100000 in
theorem s_X6_passSemicolonF (lau : Launch) (gg : va_G) (kA : Nat → ClassId) (rd : Nat) (t : Nat) (rdf : Nat) (rdp : Int32) (rdn : Int32) (t0 : Nat) (tsz : Nat) (tkd : Nat) (tpl : Nat) (tbh : Nat) (twd : Int64) (tnu : Int32) (tby : Nat → Int32) (ct : Nat → Nat) (p : Nat) (htsz : tsz ≤ 1600) (htpl : tpl ≤ tsz) (htbh : tbh ≤ tsz) (hkd : tkd ≤ 4) (hct : CtC ct tsz tby) (hcb : CbOk ct tsz) (htk : TokC ct tsz p tkd tpl tbh tnu twd) : CtI lau yX6_passSemicolon cX6_passSemicolon 2 (some .boolean) 4 0 0 gg kA [.ref rd, .ref t] (mflat [(rd, .inl (.inr (6, [.int (nI rdf), .int rdp, .int rdn]))), (t, .inl (.inr (9, [.ref t0, .int (nI tsz), .int (nI tkd), .int (nI tpl), .int (nI tbh), .long twd, .int tnu]))), (t0, .inl (.inl (kA 0, 1600, .inl tby)))]) (S := Nat × Nat × Int32 × Nat × Nat × Nat × Int64 × Int32) (fun (r : Int32) ((y_r, y_rd_0, y_rd_1, y_t_2, y_t_3, y_t_4, y_t_5, y_t_6) : Nat × Nat × Int32 × Nat × Nat × Nat × Int64 × Int32) => r = nI y_r ∧ (y_r ≤ 1) ∧ (y_t_3 ≤ tsz) ∧ (y_t_4 ≤ tsz) ∧ (y_t_2 ≤ 4) ∧ ((y_r = 1 → tS ct tsz p = 59 ∧ y_rd_0 = rdf ∧ y_rd_1 = rdp ∧ TokC ct tsz (tE ct tsz p) y_t_2 y_t_3 y_t_4 y_t_6 y_t_5) ∧ (y_r = 0 → ¬ tS ct tsz p = 59 ∧ y_rd_0 = fl1 (tS ct tsz p) 2 ∧ y_rd_1 = nI (tP ct tsz p)))) (fun ((y_r, y_rd_0, y_rd_1, y_t_2, y_t_3, y_t_4, y_t_5, y_t_6) : Nat × Nat × Int32 × Nat × Nat × Nat × Int64 × Int32) => mflat [(rd, .inl (.inr (6, [.int (nI y_rd_0), .int y_rd_1, .int rdn]))), (t, .inl (.inr (9, [.ref t0, .int (nI tsz), .int (nI y_t_2), .int (nI y_t_3), .int (nI y_t_4), .long y_t_5, .int y_t_6]))), (t0, .inl (.inl (kA 0, 1600, .inl tby)))]) := by
  refine nx_startI (by decide +kernel) (Nat.le_of_ble_eq_true rfl) ?_
  intro x hnm h hq
  have h : Ok x cX6_passSemicolon RX6 kA (rmC 4 0 0) 2 := h
  show J x (mflat [(rd, .inl (.inr (6, [.int (nI rdf), .int rdp, .int rdn]))), (t, .inl (.inr (9, [.ref t0, .int (nI tsz), .int (nI tkd), .int (nI tpl), .int (nI tbh), .long twd, .int tnu]))), (t0, .inl (.inl (kA 0, 1600, .inl tby)))]) [(0, .ref rd), (1, .ref t)] 0 0 0 []
  refine j_aload_n h 1 rfl rfl dX6_passSemicolon_0 ?_
  refine jm_get h iw_X9 1 rfl rfl 2 (by decide +kernel) tw_124 rfl dX6_passSemicolon_1 ?_
  refine j_iconst (v := 3) h (by decide) dX6_passSemicolon_4 ?_
  refine j_icmp_eq h 15 dX6_passSemicolon_5 (by decide) (fun z650508 => ?_) (fun z650508 => ?_)
  · have z650508n : tkd = 3 := (nI_eq (a := tkd) (b := 3) (by omega) (by omega)).mp z650508
    refine j_aload_n h 1 rfl rfl dX6_passSemicolon_15 ?_
    refine jm_callVv (np := 0) (isC := [1, 2]) (isR := [0]) (wc := [(t, .inl (.inr (9, [.ref t0, .int (nI tsz), .int (nI tkd), .int (nI tpl), .int (nI tbh), .long twd, .int tnu]))), (t0, .inl (.inl (kA 0, 1600, .inl tby)))]) (wr := [(rd, .inl (.inr (6, [.int (nI rdf), .int rdp, .int rdn])))]) (rest := []) (As := []) (q0 := 0) h (s_X9_readNextF _ _ kA t t0 tsz (nI tkd) (nI tpl) tbh twd tnu tby ct (show tsz ≤ 1600 by first | assumption | omega) (show tbh ≤ tsz by first | assumption | omega) (show CtC ct tsz tby by first | assumption | omega) (show CbOk ct tsz by first | assumption | omega)) tw_651 tw_566 tw_567 tw_88 tw_568 (by decide +kernel) rfl ⟨Nat.le_of_ble_eq_true rfl, Nat.le_of_ble_eq_true rfl⟩ rfl rfl (by decide +kernel) rfl rfl (by decide +kernel) (by decide +kernel) (Nat.le_of_ble_eq_true rfl) rfl ⟨Nat.le_of_ble_eq_true rfl, Nat.le_of_ble_eq_true rfl⟩ dX6_passSemicolon_16 ?_
    rintro ⟨q650509, q650510, q650511, q650512, q650513⟩ e650514
    obtain ⟨p650516, p650517, p650518⟩ := e650514
    replace p650516 : q650510 ≤ tsz := p650516
    replace p650517 : q650511 ≤ tsz := p650517
    replace p650518 : TokC ct tsz tbh q650509 q650510 q650511 q650513 q650512 := p650518
    show J x (mflat [(rd, .inl (.inr (6, [.int (nI rdf), .int rdp, .int rdn]))), (t, .inl (.inr (9, [.ref t0, .int (nI tsz), .int (nI q650509), .int (nI q650510), .int (nI q650511), .long q650512, .int q650513]))), (t0, .inl (.inl (kA 0, 1600, .inl tby)))]) [(0, .ref rd), (1, .ref t)] 0 0 19 []
    have k650519 : TokC ct tsz (tE ct tsz p) q650509 q650510 q650511 q650513 q650512 := TokC_nx htk (by omega) p650518
    have k650519k := kd_le k650519.1
    refine j_iconst (v := 1) h (by decide) dX6_passSemicolon_19 ?_
    exact jm_zret h hq rfl dX6_passSemicolon_20 (1, rdf, rdp, q650509, q650510, q650511, q650512, q650513) [0, 1, 2] rfl (by decide) ⟨rfl, (show 1 ≤ 1 by first | assumption | omega), (show q650510 ≤ tsz by first | assumption | omega), (show q650511 ≤ tsz by first | assumption | omega), (show q650509 ≤ 4 by first | assumption | omega), (show (1 = 1 → tS ct tsz p = 59 ∧ rdf = rdf ∧ rdp = rdp ∧ TokC ct tsz (tE ct tsz p) q650509 q650510 q650511 q650513 q650512) ∧ (1 = 0 → ¬ tS ct tsz p = 59 ∧ rdf = fl1 (tS ct tsz p) 2 ∧ rdp = nI (tP ct tsz p)) from ⟨fun _ => ⟨(kd_S htk.1).2.2.2.1.mp (by omega), rfl, rfl, k650519⟩, fun h9 => absurd h9 (by decide)⟩)⟩ (Nat.le_of_ble_eq_true rfl) (Nat.le_of_ble_eq_true rfl)
  · have z650508n : ¬ tkd = 3 := fun q9 => z650508 ((nI_eq (a := tkd) (b := 3) (by omega) (by omega)).mpr q9)
    refine j_aload_n h 0 rfl rfl dX6_passSemicolon_8 ?_
    refine j_aload_n h 1 rfl rfl dX6_passSemicolon_9 ?_
    refine j_iconst (v := 2) h (by decide) dX6_passSemicolon_10 ?_
    refine jm_callVi (np := 2) (isC := [0, 1]) (isR := [2]) (wc := [(rd, .inl (.inr (6, [.int (nI rdf), .int rdp, .int rdn]))), (t, .inl (.inr (9, [.ref t0, .int (nI tsz), .int (nI tkd), .int (nI tpl), .int (nI tbh), .long twd, .int tnu])))]) (wr := [(t0, .inl (.inl (kA 0, 1600, .inl tby)))]) (rest := []) (As := [.ref t, .int 2]) (q0 := 0) h (s_X6_refuseF _ _ kA rd t 2 rdf rdp rdn t0 tsz tkd tpl tbh twd tnu (show tkd ≤ 4 by first | assumption | omega) (show 1 ≤ 2 by first | assumption | omega) (show 2 ≤ 5 by first | assumption | omega)) tw_647 tw_649 tw_4 tw_89 tw_650 (by decide +kernel) rfl ⟨Nat.le_of_ble_eq_true rfl, Nat.le_of_ble_eq_true rfl⟩ rfl rfl (by decide +kernel) rfl rfl (by decide +kernel) (by decide +kernel) (Nat.le_of_ble_eq_true rfl) rfl ⟨Nat.le_of_ble_eq_true rfl, Nat.le_of_ble_eq_true rfl⟩ dX6_passSemicolon_11 ?_
    rintro r650522 q650520 e650521
    obtain ⟨p650523, p650524⟩ := e650521
    subst p650523
    replace p650524 : q650520 = if tkd = 4 then 1 else 2 := p650524
    show J x (mflat [(t0, .inl (.inl (kA 0, 1600, .inl tby))), (rd, .inl (.inr (6, [.int (nI q650520), .int (nI tpl), .int rdn]))), (t, .inl (.inr (9, [.ref t0, .int (nI tsz), .int (nI tkd), .int (nI tpl), .int (nI tbh), .long twd, .int tnu])))]) [(0, .ref rd), (1, .ref t)] 0 0 14 [.int 0]
    exact jm_zret h hq rfl dX6_passSemicolon_14 (0, q650520, (nI tpl), tkd, tpl, tbh, twd, tnu) [1, 2, 0] rfl (by decide) ⟨rfl, (show 0 ≤ 1 by first | assumption | omega), (show tpl ≤ tsz by first | assumption | omega), (show tbh ≤ tsz by first | assumption | omega), (show tkd ≤ 4 by first | assumption | omega), (show (0 = 1 → tS ct tsz p = 59 ∧ q650520 = rdf ∧ (nI tpl) = rdp ∧ TokC ct tsz (tE ct tsz p) tkd tpl tbh tnu twd) ∧ (0 = 0 → ¬ tS ct tsz p = 59 ∧ q650520 = fl1 (tS ct tsz p) 2 ∧ (nI tpl) = nI (tP ct tsz p)) from ⟨fun h9 => absurd h9 (by decide), fun _ => ⟨fun q9 => absurd ((kd_S htk.1).2.2.2.1.mpr q9) (by omega), p650524.trans (fl_C htk.1), congrArg nI htk.2.1⟩⟩)⟩ (Nat.le_of_ble_eq_true rfl) (Nat.le_of_ble_eq_true rfl)
set_option maxHeartbeats 4000000 in
set_option maxRecDepth 100000 in
theorem s_X6_readSideF (lau : Launch) (gg : va_G) (kA : Nat → ClassId) (rd : Nat) (t : Nat) (rdf : Nat) (rdp : Int32) (rdn : Int32) (t0 : Nat) (tsz : Nat) (tkd : Nat) (tpl : Nat) (tbh : Nat) (twd : Int64) (tnu : Int32) (tby : Nat → Int32) (ct : Nat → Nat) (p : Nat) (htsz : tsz ≤ 1600) (htpl : tpl ≤ tsz) (htbh : tbh ≤ tsz) (hkd : tkd ≤ 4) (hct : CtC ct tsz tby) (hcb : CbOk ct tsz) (htk : TokC ct tsz p tkd tpl tbh tnu twd) : CtI lau yX6_readSide cX6_readSide 3 (some .int) 6 0 0 gg kA [.ref rd, .ref t] (mflat [(rd, .inl (.inr (6, [.int (nI rdf), .int rdp, .int rdn]))), (t, .inl (.inr (9, [.ref t0, .int (nI tsz), .int (nI tkd), .int (nI tpl), .int (nI tbh), .long twd, .int tnu]))), (t0, .inl (.inl (kA 0, 1600, .inl tby)))]) (S := Nat × Nat × Nat × Nat × Int64 × Int32) (fun (r : Int32) ((y_r, y_t_2, y_t_3, y_t_4, y_t_5, y_t_6) : Nat × Nat × Nat × Nat × Int64 × Int32) => r = nI y_r ∧ (y_r ≤ 3) ∧ (y_t_3 ≤ tsz) ∧ (y_t_4 ≤ tsz) ∧ (y_t_2 ≤ 4) ∧ (y_r = sdC (sideK ct tsz p)) ∧ (TokC ct tsz (sideE ct tsz p) y_t_2 y_t_3 y_t_4 y_t_6 y_t_5)) (fun ((y_r, y_t_2, y_t_3, y_t_4, y_t_5, y_t_6) : Nat × Nat × Nat × Nat × Int64 × Int32) => mflat [(rd, .inl (.inr (6, [.int (nI rdf), .int rdp, .int rdn]))), (t, .inl (.inr (9, [.ref t0, .int (nI tsz), .int (nI y_t_2), .int (nI y_t_3), .int (nI y_t_4), .long y_t_5, .int y_t_6]))), (t0, .inl (.inl (kA 0, 1600, .inl tby)))]) := by
  refine nx_startI (by decide +kernel) (Nat.le_of_ble_eq_true rfl) ?_
  intro x hnm h hq
  have h : Ok x cX6_readSide RX6 kA (rmC 6 0 0) 3 := h
  show J x (mflat [(rd, .inl (.inr (6, [.int (nI rdf), .int rdp, .int rdn]))), (t, .inl (.inr (9, [.ref t0, .int (nI tsz), .int (nI tkd), .int (nI tpl), .int (nI tbh), .long twd, .int tnu]))), (t0, .inl (.inl (kA 0, 1600, .inl tby)))]) [(0, .ref rd), (1, .ref t)] 0 0 0 []
  refine j_iconst (v := 2) h (by decide) dX6_readSide_0 ?_
  refine j_istore_n (lv' := [(2, .int 2), (0, .ref rd), (1, .ref t)]) h dX6_readSide_1 rfl (by decide) rfl ?_
  refine j_aload_n h 2 rfl rfl dX6_readSide_2 ?_
  refine j_ldcS h 13 (by decide) rfl rfl dX6_readSide_3 ?_
  refine jm_callVi (np := 1) (isC := [1, 2]) (isR := [0]) (wc := [(t, .inl (.inr (9, [.ref t0, .int (nI tsz), .int (nI tkd), .int (nI tpl), .int (nI tbh), .long twd, .int tnu]))), (t0, .inl (.inl (kA 0, 1600, .inl tby)))]) (wr := [(rd, .inl (.inr (6, [.int (nI rdf), .int rdp, .int rdn])))]) (rest := []) (As := [.ref (kA (100 + 13))]) (q0 := 0) h (s_X9_isAtF _ _ kA t 13 t0 tsz tkd tpl tbh twd tnu tby ct p 1818584692 (show tsz ≤ 1600 by first | assumption | omega) (show tpl ≤ tsz by first | assumption | omega) (show tbh ≤ tsz by first | assumption | omega) (show tkd ≤ 4 by first | assumption | omega) (show CtC ct tsz tby by first | assumption | omega) (show CbOk ct tsz by first | assumption | omega) (show 13 < 20 by first | assumption | omega) (show TokC ct tsz p tkd tpl tbh tnu twd from htk) (show sW 13 = 1818584692 from sW_13)) tw_591 tw_592 tw_593 tw_88 tw_594 (by decide +kernel) rfl ⟨Nat.le_of_ble_eq_true rfl, Nat.le_of_ble_eq_true rfl⟩ rfl rfl (by decide +kernel) rfl rfl (by decide +kernel) (by decide +kernel) (Nat.le_of_ble_eq_true rfl) rfl ⟨Nat.le_of_ble_eq_true rfl, Nat.le_of_ble_eq_true rfl⟩ dX6_readSide_5 ?_
  rintro r650584 q650582 e650583
  obtain ⟨p650585, p650586, p650587, p650588⟩ := e650583
  subst p650585
  replace p650586 : q650582 ≤ 1 := p650586
  replace p650587 : q650582 = 1 → isWd ct tsz p 1818584692 := p650587
  replace p650588 : q650582 = 0 → ¬ isWd ct tsz p 1818584692 := p650588
  show J x (mflat [(rd, .inl (.inr (6, [.int (nI rdf), .int rdp, .int rdn]))), (t, .inl (.inr (9, [.ref t0, .int (nI tsz), .int (nI tkd), .int (nI tpl), .int (nI tbh), .long twd, .int tnu]))), (t0, .inl (.inl (kA 0, 1600, .inl tby)))]) [(2, .int 2), (0, .ref rd), (1, .ref t)] 0 0 8 [.int (nI q650582)]
  refine j_if_eq h 16 dX6_readSide_8 (by decide) (fun z650589 => ?_) (fun z650589 => ?_)
  · have z650589n : q650582 = 0 := (nI_eq (a := q650582) (b := 0) (by omega) (by omega)).mp z650589
    refine j_aload_n h 2 rfl rfl dX6_readSide_16 ?_
    refine j_ldcS h 14 (by decide) rfl rfl dX6_readSide_17 ?_
    refine jm_callVi (np := 1) (isC := [1, 2]) (isR := [0]) (wc := [(t, .inl (.inr (9, [.ref t0, .int (nI tsz), .int (nI tkd), .int (nI tpl), .int (nI tbh), .long twd, .int tnu]))), (t0, .inl (.inl (kA 0, 1600, .inl tby)))]) (wr := [(rd, .inl (.inr (6, [.int (nI rdf), .int rdp, .int rdn])))]) (rest := []) (As := [.ref (kA (100 + 14))]) (q0 := 0) h (s_X9_isAtF _ _ kA t 14 t0 tsz tkd tpl tbh twd tnu tby ct p 491394656372 (show tsz ≤ 1600 by first | assumption | omega) (show tpl ≤ tsz by first | assumption | omega) (show tbh ≤ tsz by first | assumption | omega) (show tkd ≤ 4 by first | assumption | omega) (show CtC ct tsz tby by first | assumption | omega) (show CbOk ct tsz by first | assumption | omega) (show 14 < 20 by first | assumption | omega) (show TokC ct tsz p tkd tpl tbh tnu twd from htk) (show sW 14 = 491394656372 from sW_14)) tw_591 tw_592 tw_593 tw_88 tw_594 (by decide +kernel) rfl ⟨Nat.le_of_ble_eq_true rfl, Nat.le_of_ble_eq_true rfl⟩ rfl rfl (by decide +kernel) rfl rfl (by decide +kernel) (by decide +kernel) (Nat.le_of_ble_eq_true rfl) rfl ⟨Nat.le_of_ble_eq_true rfl, Nat.le_of_ble_eq_true rfl⟩ dX6_readSide_19 ?_
    rintro r650592 q650590 e650591
    obtain ⟨p650593, p650594, p650595, p650596⟩ := e650591
    subst p650593
    replace p650594 : q650590 ≤ 1 := p650594
    replace p650595 : q650590 = 1 → isWd ct tsz p 491394656372 := p650595
    replace p650596 : q650590 = 0 → ¬ isWd ct tsz p 491394656372 := p650596
    show J x (mflat [(rd, .inl (.inr (6, [.int (nI rdf), .int rdp, .int rdn]))), (t, .inl (.inr (9, [.ref t0, .int (nI tsz), .int (nI tkd), .int (nI tpl), .int (nI tbh), .long twd, .int tnu]))), (t0, .inl (.inl (kA 0, 1600, .inl tby)))]) [(2, .int 2), (0, .ref rd), (1, .ref t)] 0 0 22 [.int (nI q650590)]
    refine j_if_eq h 30 dX6_readSide_22 (by decide) (fun z650597 => ?_) (fun z650597 => ?_)
    · have z650597n : q650590 = 0 := (nI_eq (a := q650590) (b := 0) (by omega) (by omega)).mp z650597
      refine j_aload_n h 2 rfl rfl dX6_readSide_30 ?_
      refine j_ldcS h 15 (by decide) rfl rfl dX6_readSide_31 ?_
      refine jm_callVi (np := 1) (isC := [1, 2]) (isR := [0]) (wc := [(t, .inl (.inr (9, [.ref t0, .int (nI tsz), .int (nI tkd), .int (nI tpl), .int (nI tbh), .long twd, .int tnu]))), (t0, .inl (.inl (kA 0, 1600, .inl tby)))]) (wr := [(rd, .inl (.inr (6, [.int (nI rdf), .int rdp, .int rdn])))]) (rest := []) (As := [.ref (kA (100 + 15))]) (q0 := 0) h (s_X9_isAtF _ _ kA t 15 t0 tsz tkd tpl tbh twd tnu tby ct p 495874305132 (show tsz ≤ 1600 by first | assumption | omega) (show tpl ≤ tsz by first | assumption | omega) (show tbh ≤ tsz by first | assumption | omega) (show tkd ≤ 4 by first | assumption | omega) (show CtC ct tsz tby by first | assumption | omega) (show CbOk ct tsz by first | assumption | omega) (show 15 < 20 by first | assumption | omega) (show TokC ct tsz p tkd tpl tbh tnu twd from htk) (show sW 15 = 495874305132 from sW_15)) tw_591 tw_592 tw_593 tw_88 tw_594 (by decide +kernel) rfl ⟨Nat.le_of_ble_eq_true rfl, Nat.le_of_ble_eq_true rfl⟩ rfl rfl (by decide +kernel) rfl rfl (by decide +kernel) (by decide +kernel) (Nat.le_of_ble_eq_true rfl) rfl ⟨Nat.le_of_ble_eq_true rfl, Nat.le_of_ble_eq_true rfl⟩ dX6_readSide_33 ?_
      rintro r650600 q650598 e650599
      obtain ⟨p650601, p650602, p650603, p650604⟩ := e650599
      subst p650601
      replace p650602 : q650598 ≤ 1 := p650602
      replace p650603 : q650598 = 1 → isWd ct tsz p 495874305132 := p650603
      replace p650604 : q650598 = 0 → ¬ isWd ct tsz p 495874305132 := p650604
      show J x (mflat [(rd, .inl (.inr (6, [.int (nI rdf), .int rdp, .int rdn]))), (t, .inl (.inr (9, [.ref t0, .int (nI tsz), .int (nI tkd), .int (nI tpl), .int (nI tbh), .long twd, .int tnu]))), (t0, .inl (.inl (kA 0, 1600, .inl tby)))]) [(2, .int 2), (0, .ref rd), (1, .ref t)] 0 0 36 [.int (nI q650598)]
      refine j_if_eq h 41 dX6_readSide_36 (by decide) (fun z650605 => ?_) (fun z650605 => ?_)
      · have z650605n : q650598 = 0 := (nI_eq (a := q650598) (b := 0) (by omega) (by omega)).mp z650605
        refine j_iload_n h 0 rfl rfl dX6_readSide_41 ?_
        refine j_iconst (v := 2) h (by decide) dX6_readSide_42 ?_
        refine j_icmp_eq h 50 dX6_readSide_43 (by decide) (fun _ => ?_) (fun q => absurd (by decide) q)
        refine j_iload_n h 0 rfl rfl dX6_readSide_50 ?_
        exact jm_iret h hq dX6_readSide_51 (2, tkd, tpl, tbh, twd, tnu) [0, 1, 2] rfl (by decide) ⟨rfl, (show 2 ≤ 3 by first | assumption | omega), (show tpl ≤ tsz by first | assumption | omega), (show tbh ≤ tsz by first | assumption | omega), (show tkd ≤ 4 by first | assumption | omega), (show 2 = sdC (sideK ct tsz p) from (by rw [side_0 (p650588 (by omega)) (p650596 (by omega)) (p650604 (by omega))]; rfl)), (show TokC ct tsz (sideE ct tsz p) tkd tpl tbh tnu twd from (by unfold sideE; rw [if_pos (side_0 (p650588 (by omega)) (p650596 (by omega)) (p650604 (by omega)))]; exact htk))⟩ (Nat.le_of_ble_eq_true rfl) (Nat.le_of_ble_eq_true rfl)
      · have z650605n : ¬ q650598 = 0 := fun q9 => z650605 ((nI_eq (a := q650598) (b := 0) (by omega) (by omega)).mpr q9)
        refine j_iconst (v := 3) h (by decide) dX6_readSide_39 ?_
        refine j_istore_n (lv' := [(2, .int 3), (0, .ref rd), (1, .ref t)]) h dX6_readSide_40 rfl (by decide) rfl ?_
        refine j_iload_n h 0 rfl rfl dX6_readSide_41 ?_
        refine j_iconst (v := 2) h (by decide) dX6_readSide_42 ?_
        refine j_icmp_eq h 50 dX6_readSide_43 (by decide) (fun q => absurd q (by decide)) (fun _ => ?_)
        have hk9 := (kd_S htk.1).2.1.mpr (p650603 (by omega)).1
        refine j_aload_n h 2 rfl rfl dX6_readSide_46 ?_
        refine jm_callVv (np := 0) (isC := [1, 2]) (isR := [0]) (wc := [(t, .inl (.inr (9, [.ref t0, .int (nI tsz), .int (nI tkd), .int (nI tpl), .int (nI tbh), .long twd, .int tnu]))), (t0, .inl (.inl (kA 0, 1600, .inl tby)))]) (wr := [(rd, .inl (.inr (6, [.int (nI rdf), .int rdp, .int rdn])))]) (rest := []) (As := []) (q0 := 0) h (s_X9_readNextF _ _ kA t t0 tsz (nI tkd) (nI tpl) tbh twd tnu tby ct (show tsz ≤ 1600 by first | assumption | omega) (show tbh ≤ tsz by first | assumption | omega) (show CtC ct tsz tby by first | assumption | omega) (show CbOk ct tsz by first | assumption | omega)) tw_651 tw_566 tw_567 tw_88 tw_568 (by decide +kernel) rfl ⟨Nat.le_of_ble_eq_true rfl, Nat.le_of_ble_eq_true rfl⟩ rfl rfl (by decide +kernel) rfl rfl (by decide +kernel) (by decide +kernel) (Nat.le_of_ble_eq_true rfl) rfl ⟨Nat.le_of_ble_eq_true rfl, Nat.le_of_ble_eq_true rfl⟩ dX6_readSide_47 ?_
        rintro ⟨q650606, q650607, q650608, q650609, q650610⟩ e650611
        obtain ⟨p650613, p650614, p650615⟩ := e650611
        replace p650613 : q650607 ≤ tsz := p650613
        replace p650614 : q650608 ≤ tsz := p650614
        replace p650615 : TokC ct tsz tbh q650606 q650607 q650608 q650610 q650609 := p650615
        show J x (mflat [(rd, .inl (.inr (6, [.int (nI rdf), .int rdp, .int rdn]))), (t, .inl (.inr (9, [.ref t0, .int (nI tsz), .int (nI q650606), .int (nI q650607), .int (nI q650608), .long q650609, .int q650610]))), (t0, .inl (.inl (kA 0, 1600, .inl tby)))]) [(2, .int 3), (0, .ref rd), (1, .ref t)] 0 0 50 []
        have k650616 : TokC ct tsz (tE ct tsz p) q650606 q650607 q650608 q650610 q650609 := TokC_nx htk (by omega) p650615
        have k650616k := kd_le k650616.1
        refine j_iload_n h 0 rfl rfl dX6_readSide_50 ?_
        exact jm_iret h hq dX6_readSide_51 (3, q650606, q650607, q650608, q650609, q650610) [0, 1, 2] rfl (by decide) ⟨rfl, (show 3 ≤ 3 by first | assumption | omega), (show q650607 ≤ tsz by first | assumption | omega), (show q650608 ≤ tsz by first | assumption | omega), (show q650606 ≤ 4 by first | assumption | omega), (show 3 = sdC (sideK ct tsz p) from (by rw [side_3 (p650588 (by omega)) (p650596 (by omega)) (p650603 (by omega))]; rfl)), (show TokC ct tsz (sideE ct tsz p) q650606 q650607 q650608 q650610 q650609 from (by unfold sideE; rw [if_neg (by rw [side_3 (p650588 (by omega)) (p650596 (by omega)) (p650603 (by omega))]; decide)]; exact k650616))⟩ (Nat.le_of_ble_eq_true rfl) (Nat.le_of_ble_eq_true rfl)
    · have z650597n : ¬ q650590 = 0 := fun q9 => z650597 ((nI_eq (a := q650590) (b := 0) (by omega) (by omega)).mpr q9)
      refine j_iconst (v := 1) h (by decide) dX6_readSide_25 ?_
      refine j_istore_n (lv' := [(2, .int 1), (0, .ref rd), (1, .ref t)]) h dX6_readSide_26 rfl (by decide) rfl ?_
      refine j_goto h 41 dX6_readSide_27 (by decide) ?_
      refine j_iload_n h 0 rfl rfl dX6_readSide_41 ?_
      refine j_iconst (v := 2) h (by decide) dX6_readSide_42 ?_
      refine j_icmp_eq h 50 dX6_readSide_43 (by decide) (fun q => absurd q (by decide)) (fun _ => ?_)
      have hk9 := (kd_S htk.1).2.1.mpr (p650595 (by omega)).1
      refine j_aload_n h 2 rfl rfl dX6_readSide_46 ?_
      refine jm_callVv (np := 0) (isC := [1, 2]) (isR := [0]) (wc := [(t, .inl (.inr (9, [.ref t0, .int (nI tsz), .int (nI tkd), .int (nI tpl), .int (nI tbh), .long twd, .int tnu]))), (t0, .inl (.inl (kA 0, 1600, .inl tby)))]) (wr := [(rd, .inl (.inr (6, [.int (nI rdf), .int rdp, .int rdn])))]) (rest := []) (As := []) (q0 := 0) h (s_X9_readNextF _ _ kA t t0 tsz (nI tkd) (nI tpl) tbh twd tnu tby ct (show tsz ≤ 1600 by first | assumption | omega) (show tbh ≤ tsz by first | assumption | omega) (show CtC ct tsz tby by first | assumption | omega) (show CbOk ct tsz by first | assumption | omega)) tw_651 tw_566 tw_567 tw_88 tw_568 (by decide +kernel) rfl ⟨Nat.le_of_ble_eq_true rfl, Nat.le_of_ble_eq_true rfl⟩ rfl rfl (by decide +kernel) rfl rfl (by decide +kernel) (by decide +kernel) (Nat.le_of_ble_eq_true rfl) rfl ⟨Nat.le_of_ble_eq_true rfl, Nat.le_of_ble_eq_true rfl⟩ dX6_readSide_47 ?_
      rintro ⟨q650617, q650618, q650619, q650620, q650621⟩ e650622
      obtain ⟨p650624, p650625, p650626⟩ := e650622
      replace p650624 : q650618 ≤ tsz := p650624
      replace p650625 : q650619 ≤ tsz := p650625
      replace p650626 : TokC ct tsz tbh q650617 q650618 q650619 q650621 q650620 := p650626
      show J x (mflat [(rd, .inl (.inr (6, [.int (nI rdf), .int rdp, .int rdn]))), (t, .inl (.inr (9, [.ref t0, .int (nI tsz), .int (nI q650617), .int (nI q650618), .int (nI q650619), .long q650620, .int q650621]))), (t0, .inl (.inl (kA 0, 1600, .inl tby)))]) [(2, .int 1), (0, .ref rd), (1, .ref t)] 0 0 50 []
      have k650627 : TokC ct tsz (tE ct tsz p) q650617 q650618 q650619 q650621 q650620 := TokC_nx htk (by omega) p650626
      have k650627k := kd_le k650627.1
      refine j_iload_n h 0 rfl rfl dX6_readSide_50 ?_
      exact jm_iret h hq dX6_readSide_51 (1, q650617, q650618, q650619, q650620, q650621) [0, 1, 2] rfl (by decide) ⟨rfl, (show 1 ≤ 3 by first | assumption | omega), (show q650618 ≤ tsz by first | assumption | omega), (show q650619 ≤ tsz by first | assumption | omega), (show q650617 ≤ 4 by first | assumption | omega), (show 1 = sdC (sideK ct tsz p) from (by rw [side_2 (p650588 (by omega)) (p650595 (by omega))]; rfl)), (show TokC ct tsz (sideE ct tsz p) q650617 q650618 q650619 q650621 q650620 from (by unfold sideE; rw [if_neg (by rw [side_2 (p650588 (by omega)) (p650595 (by omega))]; decide)]; exact k650627))⟩ (Nat.le_of_ble_eq_true rfl) (Nat.le_of_ble_eq_true rfl)
  · have z650589n : ¬ q650582 = 0 := fun q9 => z650589 ((nI_eq (a := q650582) (b := 0) (by omega) (by omega)).mpr q9)
    refine j_iconst (v := 0) h (by decide) dX6_readSide_11 ?_
    refine j_istore_n (lv' := [(2, .int 0), (0, .ref rd), (1, .ref t)]) h dX6_readSide_12 rfl (by decide) rfl ?_
    refine j_goto h 41 dX6_readSide_13 (by decide) ?_
    refine j_iload_n h 0 rfl rfl dX6_readSide_41 ?_
    refine j_iconst (v := 2) h (by decide) dX6_readSide_42 ?_
    refine j_icmp_eq h 50 dX6_readSide_43 (by decide) (fun q => absurd q (by decide)) (fun _ => ?_)
    have hk9 := (kd_S htk.1).2.1.mpr (p650587 (by omega)).1
    refine j_aload_n h 2 rfl rfl dX6_readSide_46 ?_
    refine jm_callVv (np := 0) (isC := [1, 2]) (isR := [0]) (wc := [(t, .inl (.inr (9, [.ref t0, .int (nI tsz), .int (nI tkd), .int (nI tpl), .int (nI tbh), .long twd, .int tnu]))), (t0, .inl (.inl (kA 0, 1600, .inl tby)))]) (wr := [(rd, .inl (.inr (6, [.int (nI rdf), .int rdp, .int rdn])))]) (rest := []) (As := []) (q0 := 0) h (s_X9_readNextF _ _ kA t t0 tsz (nI tkd) (nI tpl) tbh twd tnu tby ct (show tsz ≤ 1600 by first | assumption | omega) (show tbh ≤ tsz by first | assumption | omega) (show CtC ct tsz tby by first | assumption | omega) (show CbOk ct tsz by first | assumption | omega)) tw_651 tw_566 tw_567 tw_88 tw_568 (by decide +kernel) rfl ⟨Nat.le_of_ble_eq_true rfl, Nat.le_of_ble_eq_true rfl⟩ rfl rfl (by decide +kernel) rfl rfl (by decide +kernel) (by decide +kernel) (Nat.le_of_ble_eq_true rfl) rfl ⟨Nat.le_of_ble_eq_true rfl, Nat.le_of_ble_eq_true rfl⟩ dX6_readSide_47 ?_
    rintro ⟨q650628, q650629, q650630, q650631, q650632⟩ e650633
    obtain ⟨p650635, p650636, p650637⟩ := e650633
    replace p650635 : q650629 ≤ tsz := p650635
    replace p650636 : q650630 ≤ tsz := p650636
    replace p650637 : TokC ct tsz tbh q650628 q650629 q650630 q650632 q650631 := p650637
    show J x (mflat [(rd, .inl (.inr (6, [.int (nI rdf), .int rdp, .int rdn]))), (t, .inl (.inr (9, [.ref t0, .int (nI tsz), .int (nI q650628), .int (nI q650629), .int (nI q650630), .long q650631, .int q650632]))), (t0, .inl (.inl (kA 0, 1600, .inl tby)))]) [(2, .int 0), (0, .ref rd), (1, .ref t)] 0 0 50 []
    have k650638 : TokC ct tsz (tE ct tsz p) q650628 q650629 q650630 q650632 q650631 := TokC_nx htk (by omega) p650637
    have k650638k := kd_le k650638.1
    refine j_iload_n h 0 rfl rfl dX6_readSide_50 ?_
    exact jm_iret h hq dX6_readSide_51 (0, q650628, q650629, q650630, q650631, q650632) [0, 1, 2] rfl (by decide) ⟨rfl, (show 0 ≤ 3 by first | assumption | omega), (show q650629 ≤ tsz by first | assumption | omega), (show q650630 ≤ tsz by first | assumption | omega), (show q650628 ≤ 4 by first | assumption | omega), (show 0 = sdC (sideK ct tsz p) from (by rw [side_1 (p650587 (by omega))]; rfl)), (show TokC ct tsz (sideE ct tsz p) q650628 q650629 q650630 q650632 q650631 from (by unfold sideE; rw [if_neg (by rw [side_1 (p650587 (by omega))]; decide)]; exact k650638))⟩ (Nat.le_of_ble_eq_true rfl) (Nat.le_of_ble_eq_true rfl)
