section MC
variable {D LO HI : Nat → Nat → Nat} {E h ND cn SE SA SL SM f g x t : Nat → Nat} {n m k e v T s u l a Q : Nat} {B : (Nat → Nat) × (Nat → Nat → Nat) × (Nat → Nat → Nat)}
theorem nkB_nd (hh : ∀ j, j < n → cn j = 1 → ¬ SE j = e) : (nkB cn SE SA SL SM B n).1 e = B.1 e := by
  induction n with
  | zero => rfl
  | succ n ih =>
    have i := ih (fun j hj => hh j (by omega))
    by_cases c : cn n = 1
    · rw [nkB_y c]
      show upN _ (SE n) 1 e = _
      rw [upN_n (fun q => hh n (Nat.lt_succ_self n) c q.symm)]
      exact i
    · rw [show nkB cn SE SA SL SM B (n + 1) = nkB cn SE SA SL SM B n from if_neg c]
      exact i
end MC
set_option maxHeartbeats 4000000 in
set_option maxRecDepth 100000 in
theorem s_X0_fixF (lau : Launch) (gg : va_G) (kA : Nat → ClassId) (d : Nat) (er : Nat) (o : Nat) (tm : Nat) (d0 : Nat) (d1 : Nat) (d2 : Nat) (dls : Nat → Nat → Int32) (dms : Nat → Nat → Int32) (dnd : Nat → Int32) (of : Nat → Int32) (ND : Nat → Nat) (LO : Nat → Nat → Nat) (HI : Nat → Nat → Nat) (hh : Nat → Nat) (hbd : BdV ND LO HI dnd dls dms) (her : er < 4) (htm : tm ≤ 60) (hof : ∀ m, m < tm → of m = nI (hh m) ∧ hh m ≤ 9) : CtV lau yX0_fix cX0_fix 5 (none) 3 0 0 gg kA [.ref d, .int (nI er), .ref o, .int (nI tm)] (mflat [(d, .inl (.inr (0, [.ref d0, .ref d1, .ref d2]))), (d0, .inr (kA 6, kA 1, 4, 60, .inl dls)), (d1, .inr (kA 6, kA 1, 4, 60, .inl dms)), (d2, .inl (.inl (kA 3, 4, .inl dnd))), (o, .inl (.inl (kA 1, 60, .inl of)))]) (S := (Nat → Nat → Int32) × (Nat → Nat → Int32) × (Nat → Int32)) (fun ((y_d0, y_d1, y_d2) : (Nat → Nat → Int32) × (Nat → Nat → Int32) × (Nat → Int32)) => BdV (nkB (fun _ => 1) (fun _ => er) (fun m => m) hh hh (ND, LO, HI) tm).1 (nkB (fun _ => 1) (fun _ => er) (fun m => m) hh hh (ND, LO, HI) tm).2.1 (nkB (fun _ => 1) (fun _ => er) (fun m => m) hh hh (ND, LO, HI) tm).2.2 y_d2 y_d0 y_d1) (fun ((y_d0, y_d1, y_d2) : (Nat → Nat → Int32) × (Nat → Nat → Int32) × (Nat → Int32)) => mflat [(d, .inl (.inr (0, [.ref d0, .ref d1, .ref d2]))), (d0, .inr (kA 6, kA 1, 4, 60, .inl y_d0)), (d1, .inr (kA 6, kA 1, 4, 60, .inl y_d1)), (d2, .inl (.inl (kA 3, 4, .inl y_d2))), (o, .inl (.inl (kA 1, 60, .inl of)))]) := by
  refine nx_startV (by decide +kernel) (Nat.le_of_ble_eq_true rfl) ?_
  intro x hnm h hq
  have h : Ok x cX0_fix RX0 kA (rmC 3 0 0) 5 := h
  show J x (mflat [(d, .inl (.inr (0, [.ref d0, .ref d1, .ref d2]))), (d0, .inr (kA 6, kA 1, 4, 60, .inl dls)), (d1, .inr (kA 6, kA 1, 4, 60, .inl dms)), (d2, .inl (.inl (kA 3, 4, .inl dnd))), (o, .inl (.inl (kA 1, 60, .inl of)))]) [(0, .ref d), (1, .int (nI er)), (2, .ref o), (3, .int (nI tm))] 0 0 0 []
  refine j_iconst (v := 0) h (by decide) dX0_fix_0 ?_
  refine j_istore (lv' := [(4, .int 0), (0, .ref d), (1, .int (nI er)), (2, .ref o), (3, .int (nI tm))]) h dX0_fix_1 (by decide) rfl ?_
  have lp3_91006 : ∀ (m3_91006 : Nat), ∀ (v4_3_91006 : Nat) (fd0_3_91006 : Nat → Nat → Int32) (fd1_3_91006 : Nat → Nat → Int32) (fd2_3_91006 : Nat → Int32), (BdV (nkB (fun _ => 1) (fun _ => er) (fun m => m) hh hh (ND, LO, HI) v4_3_91006).1 (nkB (fun _ => 1) (fun _ => er) (fun m => m) hh hh (ND, LO, HI) v4_3_91006).2.1 (nkB (fun _ => 1) (fun _ => er) (fun m => m) hh hh (ND, LO, HI) v4_3_91006).2.2 fd2_3_91006 fd0_3_91006 fd1_3_91006) → (v4_3_91006 ≤ tm) → (v4_3_91006 ≤ 100000) → tm - v4_3_91006 < m3_91006 → J x (mflat [(d, .inl (.inr (0, [.ref d0, .ref d1, .ref d2]))), (d0, .inr (kA 6, kA 1, 4, 60, .inl fd0_3_91006)), (d1, .inr (kA 6, kA 1, 4, 60, .inl fd1_3_91006)), (d2, .inl (.inl (kA 3, 4, .inl fd2_3_91006))), (o, .inl (.inl (kA 1, 60, .inl of)))]) [(4, .int (nI v4_3_91006)), (0, .ref d), (1, .int (nI er)), (2, .ref o), (3, .int (nI tm))] 0 0 3 [] := by
    intro m3_91006
    induction m3_91006 with
    | zero =>
      intro v4_3_91006 fd0_3_91006 fd1_3_91006 fd2_3_91006 i3_91006_0 i3_91006_1 i3_91006_2 hm3_91006
      exact absurd hm3_91006 (Nat.not_lt_zero _)
    | succ m3_91006 ih3_91006 =>
      intro v4_3_91006 fd0_3_91006 fd1_3_91006 fd2_3_91006 i3_91006_0 i3_91006_1 i3_91006_2 hm3_91006
      refine j_iload h 0 rfl dX0_fix_3 ?_
      refine j_iload_n h 4 rfl rfl dX0_fix_5 ?_
      refine j_icmp_ge h 37 dX0_fix_6 (by decide) (fun z910044 => ?_) (fun z910044 => ?_)
      · have z910044n : tm ≤ v4_3_91006 := (nI_leI (a := tm) (b := v4_3_91006) (by omega) (by omega)).mp z910044
        exact jm_vret h hq dX0_fix_37 (fd0_3_91006, fd1_3_91006, fd2_3_91006) [0, 1, 2, 3, 4] rfl (by decide) (show BdV (nkB (fun _ => 1) (fun _ => er) (fun m => m) hh hh (ND, LO, HI) tm).1 (nkB (fun _ => 1) (fun _ => er) (fun m => m) hh hh (ND, LO, HI) tm).2.1 (nkB (fun _ => 1) (fun _ => er) (fun m => m) hh hh (ND, LO, HI) tm).2.2 fd2_3_91006 fd0_3_91006 fd1_3_91006 from (show v4_3_91006 = tm by omega) ▸ i3_91006_0) (Nat.le_of_ble_eq_true rfl) (Nat.le_of_ble_eq_true rfl)
      · have z910044n : ¬ tm ≤ v4_3_91006 := fun q9 => z910044 ((nI_leI (a := tm) (b := v4_3_91006) (by omega) (by omega)).mpr q9)
        refine j_iload h 0 rfl dX0_fix_9 ?_
        refine j_aload_n h 3 rfl rfl dX0_fix_11 ?_
        refine jm_alen (v := 60) h 4 1 rfl rfl rfl dX0_fix_12 ?_
        refine j_icmp_ge h 37 dX0_fix_13 (by decide) (fun z910045 => ?_) (fun z910045 => ?_)
        · have z910045n : 60 ≤ v4_3_91006 := (nI_leI (a := 60) (b := v4_3_91006) (by omega) (by omega)).mp z910045
          exact jm_vret h hq dX0_fix_37 (fd0_3_91006, fd1_3_91006, fd2_3_91006) [0, 1, 2, 3, 4] rfl (by decide) (show BdV (nkB (fun _ => 1) (fun _ => er) (fun m => m) hh hh (ND, LO, HI) tm).1 (nkB (fun _ => 1) (fun _ => er) (fun m => m) hh hh (ND, LO, HI) tm).2.1 (nkB (fun _ => 1) (fun _ => er) (fun m => m) hh hh (ND, LO, HI) tm).2.2 fd2_3_91006 fd0_3_91006 fd1_3_91006 from (show v4_3_91006 = tm by omega) ▸ i3_91006_0) (Nat.le_of_ble_eq_true rfl) (Nat.le_of_ble_eq_true rfl)
        · have z910045n : ¬ 60 ≤ v4_3_91006 := fun q9 => z910045 ((nI_leI (a := 60) (b := v4_3_91006) (by omega) (by omega)).mpr q9)
          refine j_aload_n h 1 rfl rfl dX0_fix_16 ?_
          refine j_iload_n h 2 rfl rfl dX0_fix_17 ?_
          refine j_iload h 0 rfl dX0_fix_18 ?_
          refine j_aload_n h 3 rfl rfl dX0_fix_20 ?_
          refine j_iload h 0 rfl dX0_fix_21 ?_
          refine jm_iald h 4 rfl v4_3_91006 rfl (by omega) (by omega) dX0_fix_23 ?_
          have u910046 := (hof v4_3_91006 (by omega)).2
          refine j_top (b := nI (hh v4_3_91006)) ((hof v4_3_91006 (by omega)).1) ?_
          refine j_aload_n h 3 rfl rfl dX0_fix_24 ?_
          refine j_iload h 0 rfl dX0_fix_25 ?_
          refine jm_iald h 4 rfl v4_3_91006 rfl (by omega) (by omega) dX0_fix_27 ?_
          refine j_top (b := nI (hh v4_3_91006)) ((hof v4_3_91006 (by omega)).1) ?_
          refine jm_callVv (np := 4) (isC := [0, 1, 2, 3]) (isR := [4]) (wc := [(d, .inl (.inr (0, [.ref d0, .ref d1, .ref d2]))), (d0, .inr (kA 6, kA 1, 4, 60, .inl fd0_3_91006)), (d1, .inr (kA 6, kA 1, 4, 60, .inl fd1_3_91006)), (d2, .inl (.inl (kA 3, 4, .inl fd2_3_91006)))]) (wr := [(o, .inl (.inl (kA 1, 60, .inl of)))]) (rest := []) (As := [.int (nI er), .int (nI v4_3_91006), .int (nI (hh v4_3_91006)), .int (nI (hh v4_3_91006))]) (q0 := 0) h (s_X0_narrowF _ _ kA d er v4_3_91006 (hh v4_3_91006) (hh v4_3_91006) d0 d1 d2 fd0_3_91006 fd1_3_91006 fd2_3_91006 ((nkB (fun _ => 1) (fun _ => er) (fun m => m) hh hh (ND, LO, HI) v4_3_91006).1) ((nkB (fun _ => 1) (fun _ => er) (fun m => m) hh hh (ND, LO, HI) v4_3_91006).2.1) ((nkB (fun _ => 1) (fun _ => er) (fun m => m) hh hh (ND, LO, HI) v4_3_91006).2.2) (show BdV ((nkB (fun _ => 1) (fun _ => er) (fun m => m) hh hh (ND, LO, HI) v4_3_91006).1) ((nkB (fun _ => 1) (fun _ => er) (fun m => m) hh hh (ND, LO, HI) v4_3_91006).2.1) ((nkB (fun _ => 1) (fun _ => er) (fun m => m) hh hh (ND, LO, HI) v4_3_91006).2.2) fd2_3_91006 fd0_3_91006 fd1_3_91006 from i3_91006_0) (show er < 4 by first | assumption | omega) (show v4_3_91006 < 60 by first | assumption | omega) (show (hh v4_3_91006) ≤ 9 by first | assumption | omega) (show (hh v4_3_91006) ≤ 9 by first | assumption | omega)) tw_824 tw_825 tw_826 tw_94 tw_827 (by decide +kernel) rfl ⟨Nat.le_of_ble_eq_true rfl, Nat.le_of_ble_eq_true rfl⟩ rfl rfl (by decide +kernel) rfl rfl (by decide +kernel) (by decide +kernel) (Nat.le_of_ble_eq_true rfl) rfl ⟨Nat.le_of_ble_eq_true rfl, Nat.le_of_ble_eq_true rfl⟩ dX0_fix_28 ?_
          rintro ⟨q910047, q910048, q910049⟩ e910050
          have p910052 := e910050
          replace p910052 : BdV (upN ((nkB (fun _ => 1) (fun _ => er) (fun m => m) hh hh (ND, LO, HI) v4_3_91006).1) er 1) (nrL ((nkB (fun _ => 1) (fun _ => er) (fun m => m) hh hh (ND, LO, HI) v4_3_91006).1) ((nkB (fun _ => 1) (fun _ => er) (fun m => m) hh hh (ND, LO, HI) v4_3_91006).2.1) er v4_3_91006 (hh v4_3_91006)) (nrH ((nkB (fun _ => 1) (fun _ => er) (fun m => m) hh hh (ND, LO, HI) v4_3_91006).1) ((nkB (fun _ => 1) (fun _ => er) (fun m => m) hh hh (ND, LO, HI) v4_3_91006).2.2) er v4_3_91006 (hh v4_3_91006)) q910049 q910047 q910048 := p910052
          show J x (mflat [(o, .inl (.inl (kA 1, 60, .inl of))), (d, .inl (.inr (0, [.ref d0, .ref d1, .ref d2]))), (d0, .inr (kA 6, kA 1, 4, 60, .inl q910047)), (d1, .inr (kA 6, kA 1, 4, 60, .inl q910048)), (d2, .inl (.inl (kA 3, 4, .inl q910049)))]) [(4, .int (nI v4_3_91006)), (0, .ref d), (1, .int (nI er)), (2, .ref o), (3, .int (nI tm))] 0 0 31 []
          refine j_iinc (v := nI (v4_3_91006 + 1)) (lv' := [(4, .int (nI (v4_3_91006 + 1))), (0, .ref d), (1, .int (nI er)), (2, .ref o), (3, .int (nI tm))]) h dX0_fix_31 0 rfl (nI_add v4_3_91006 1) (by decide) rfl ?_
          refine j_goto h 3 dX0_fix_34 (by decide) ?_
          refine jm_sub [1, 2, 3, 4, 0] (w' := [(d, .inl (.inr (0, [.ref d0, .ref d1, .ref d2]))), (d0, .inr (kA 6, kA 1, 4, 60, .inl q910047)), (d1, .inr (kA 6, kA 1, 4, 60, .inl q910048)), (d2, .inl (.inl (kA 3, 4, .inl q910049))), (o, .inl (.inl (kA 1, 60, .inl of)))]) rfl (by decide +kernel) [0, 1, 2, 3, 4] (lv' := [(4, .int (nI (v4_3_91006 + 1))), (0, .ref d), (1, .int (nI er)), (2, .ref o), (3, .int (nI tm))]) rfl ?_
          exact ih3_91006 (v4_3_91006 + 1) q910047 q910048 q910049 (show BdV (nkB (fun _ => 1) (fun _ => er) (fun m => m) hh hh (ND, LO, HI) (v4_3_91006 + 1)).1 (nkB (fun _ => 1) (fun _ => er) (fun m => m) hh hh (ND, LO, HI) (v4_3_91006 + 1)).2.1 (nkB (fun _ => 1) (fun _ => er) (fun m => m) hh hh (ND, LO, HI) (v4_3_91006 + 1)).2.2 q910049 q910047 q910048 from (by rw [nkB_y (cn := fun _ => 1) rfl]; exact p910052)) (show (v4_3_91006 + 1) ≤ tm by first | assumption | omega) (show (v4_3_91006 + 1) ≤ 100000 by first | assumption | omega) (show tm - (v4_3_91006 + 1) < m3_91006 by omega)
  refine jm_sub [0, 1, 2, 3, 4] (w' := [(d, .inl (.inr (0, [.ref d0, .ref d1, .ref d2]))), (d0, .inr (kA 6, kA 1, 4, 60, .inl dls)), (d1, .inr (kA 6, kA 1, 4, 60, .inl dms)), (d2, .inl (.inl (kA 3, 4, .inl dnd))), (o, .inl (.inl (kA 1, 60, .inl of)))]) rfl (by decide +kernel) [0, 1, 2, 3, 4] (lv' := [(4, .int 0), (0, .ref d), (1, .int (nI er)), (2, .ref o), (3, .int (nI tm))]) rfl ?_
  exact lp3_91006 (tm - 0 + 1) 0 dls dms dnd (show BdV (nkB (fun _ => 1) (fun _ => er) (fun m => m) hh hh (ND, LO, HI) 0).1 (nkB (fun _ => 1) (fun _ => er) (fun m => m) hh hh (ND, LO, HI) 0).2.1 (nkB (fun _ => 1) (fun _ => er) (fun m => m) hh hh (ND, LO, HI) 0).2.2 dnd dls dms from hbd) (show 0 ≤ tm by first | assumption | omega) (show 0 ≤ 100000 by first | assumption | omega) (Nat.lt_succ_self _)
