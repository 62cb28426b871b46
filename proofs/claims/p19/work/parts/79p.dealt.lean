def tcn (x : Nat → Nat) (l : Nat) : Nat → Nat
  | 0 => 0
  | k + 1 => tcn x l k + (if x k = l then 1 else 0)
def dotC (U T : Nat → Int32) (n : Nat) : Nat → Int32
  | 0 => 0
  | k + 1 => dotC U T n k + U (n - 1 - k) * T k
def DlC (us lt : Nat → Int32) (n : Nat) (r : Int32) : Prop := ∃ U T : Nat → Int32, SdTo n U ∧ SdTo n T ∧ CtE n U us ∧ CtE n T lt ∧ r = dotC U T n n
def DtC (x : Nat → Nat) (m : Nat) (lt : Nat → Int32) (n : Nat) (r : Int32) : Prop := ∃ us : Nat → Int32, (∀ l, l < n → us l = nI (tcn x l m)) ∧ DlC us lt n r
def DtM (x : Nat → Nat) (m : Nat) (lt : Nat → Int32) (n : Nat) (r : Int32) : Prop := ∃ us : Nat → Int32, (∀ l, l < n → us l = nI (tcn x l m)) ∧ RestV us lt n 0 0 r
section DT
variable {U T W L us us' lt lt' f : Nat → Int32} {n k a b m j i : Nat} {x : Nat → Nat} {r r1 r2 v w : Int32}
theorem upd_cm (h : ¬ a = b) : upd (upd f a v) b w = upd (upd f b w) a v := by
  funext i
  by_cases q : i = a
  · rw [q, pk_un h, pk_us, pk_us]
  · by_cases z : i = b
    · rw [z, pk_us, pk_un (fun y => h y.symm), pk_us]
    · rw [pk_un z, pk_un q, pk_un q, pk_un z]
theorem SdX_swC (h : SdX a (j + 1) f) (hj : 1 ≤ j) (hja : j ≤ a) (hgt : ¬ f (j - 1) ≤ f j) : SdX a j (upd (upd f (j - 1) (f j)) j (f (j - 1))) := by
  rw [upd_cm (by omega)]
  exact SdX_swap h hj hja hgt
theorem CtE_swC {g : Nat → Int32} (h : CtE n f g) (hj : 1 ≤ j) (hn : j < n) : CtE n (upd (upd f (j - 1) (f j)) j (f (j - 1))) g := by
  rw [upd_cm (by omega)]
  exact CtE_swap h hj hn
theorem dotC_s (h : r = dotC U T n k) : r + U (n - 1 - k) * T k = dotC U T n (k + 1) := by
  rw [h]
  rfl
theorem dot_rev (hk : k ≤ n) : dotS U T n (n - k) + dotC U T n k = dotS U T n n := by
  induction k with
  | zero =>
    show dotS U T n (n - 0) + 0 = _
    rw [Int32.add_zero]
    rfl
  | succ k ih =>
    have e : n - k = (n - (k + 1)) + 1 := by omega
    have h := ih (by omega)
    rw [e] at h
    have s : dotS U T n ((n - (k + 1)) + 1) = dotS U T n (n - (k + 1)) + U (n - (k + 1)) * T (n - 1 - (n - (k + 1))) := rfl
    rw [s, show n - 1 - (n - (k + 1)) = k by omega] at h
    show dotS U T n (n - (k + 1)) + (dotC U T n k + U (n - 1 - k) * T k) = _
    rw [← h, show n - 1 - k = n - (k + 1) by omega, Int32.add_assoc, Int32.add_comm (dotC U T n k)]
theorem cntU_z : ∀ {R : Nat}, R ≤ 10 → cntU 0 lt R v = cnt lt R v
  | 0, _ => rfl
  | R + 1, h => by
    show cntU 0 lt R v + (if _ then 0 else if lt R = v then 1 else 0) = cnt lt R v + (if lt R = v then 1 else 0)
    rw [cntU_z (by omega), if_neg (uB_0 R (by omega))]
theorem dealt_both (hn : n ≤ 10) (hl : ∀ i, i < n → lt i = lt' i) (h1 : DtC x m lt n r1) (h2 : DtM x m lt' n r2) : r1 = r2 := by
  obtain ⟨us, a1, U, T, a2, a3, a4, a5, a6⟩ := h1
  obtain ⟨us', b1, W, K, b2, b3, b4, b5, b6⟩ := h2
  rw [Nat.sub_zero] at b2 b3 b4 b5 b6
  have e1 : ∀ i, i < n → U i = W i := sd_uniq a2 b2 (fun v => by
    rw [a4 v, b4 v]
    refine cnt_congr v (fun i hi => ?_)
    show us i = us' (0 + i)
    rw [Nat.zero_add, a1 i hi, b1 i hi])
  have e2 : ∀ i, i < n → T i = K i := sd_uniq a3 b3 (fun v => by
    rw [a5 v, b5 v, cntU_z hn]
    exact cnt_congr v hl)
  have z := dot_rev (U := U) (T := T) (Nat.le_refl n)
  rw [Nat.sub_self] at z
  have z0 : dotS U T n 0 = 0 := rfl
  rw [z0, Int32.zero_add] at z
  rw [a6, b6, z]
  exact dot_congr e1 e2 (Nat.le_refl n)
theorem us_n (h : ∀ l, l < 10 → us l = nI (tcn x l k)) (hx : x k = a) (hv : v = nI (tcn x a k + 1)) : ∀ l, l < 10 → upd us a v l = nI (tcn x l (k + 1)) := fun l hl => by
  by_cases q : l = a
  · subst q
    rw [pk_us, hv]
    show _ = nI (tcn x l k + (if x k = l then 1 else 0))
    rw [if_pos hx]
  · rw [pk_un q, h l hl]
    show _ = nI (tcn x l k + (if x k = l then 1 else 0))
    rw [if_neg (fun z => q (z.symm.trans hx))]
    rfl
end DT
set_option maxHeartbeats 4000000 in
set_option maxRecDepth 100000 in
theorem s_X1_sortUpwardsF (lau : Launch) (gg : va_G) (kA : Nat → ClassId) (o : Nat) (n : Nat) (of : Nat → Int32) (hn : n ≤ 10) : CtV lau yX1_sortUpwards cX1_sortUpwards 5 (none) 1 0 0 gg kA [.ref o, .int (nI n)] (mflat [(o, .inl (.inl (kA 1, 10, .inl of)))]) (S := (Nat → Int32)) (fun (y_o : (Nat → Int32)) => (SdTo n y_o) ∧ (CtE n y_o of)) (fun (y_o : (Nat → Int32)) => mflat [(o, .inl (.inl (kA 1, 10, .inl y_o)))]) := by
  refine nx_startV (by decide +kernel) (Nat.le_of_ble_eq_true rfl) ?_
  intro x hnm h hq
  have h : Ok x cX1_sortUpwards RX1 kA (rmC 1 0 0) 5 := h
  show J x (mflat [(o, .inl (.inl (kA 1, 10, .inl of)))]) [(0, .ref o), (1, .int (nI n))] 0 0 0 []
  refine j_iconst (v := 1) h (by decide) dX1_sortUpwards_0 ?_
  refine j_istore_n (lv' := [(2, .int 1), (0, .ref o), (1, .int (nI n))]) h dX1_sortUpwards_1 rfl (by decide) rfl ?_
  have lp2_89021 : ∀ (m2_89021 : Nat), ∀ (v2_2_89021 : Nat) (fo_2_89021 : Nat → Int32), (1 ≤ v2_2_89021) → (SdTo v2_2_89021 fo_2_89021) → (CtE n fo_2_89021 of) → (v2_2_89021 ≤ 100000) → 100001 - v2_2_89021 < m2_89021 → J x (mflat [(o, .inl (.inl (kA 1, 10, .inl fo_2_89021)))]) [(2, .int (nI v2_2_89021)), (0, .ref o), (1, .int (nI n))] 0 0 2 [] := by
    intro m2_89021
    induction m2_89021 with
    | zero =>
      intro v2_2_89021 fo_2_89021 i2_89021_0 i2_89021_1 i2_89021_2 i2_89021_3 hm2_89021
      exact absurd hm2_89021 (Nat.not_lt_zero _)
    | succ m2_89021 ih2_89021 =>
      intro v2_2_89021 fo_2_89021 i2_89021_0 i2_89021_1 i2_89021_2 i2_89021_3 hm2_89021
      refine j_iload_n h 0 rfl rfl dX1_sortUpwards_2 ?_
      refine j_iload_n h 2 rfl rfl dX1_sortUpwards_3 ?_
      refine j_icmp_ge h 56 dX1_sortUpwards_4 (by decide) (fun z890081 => ?_) (fun z890081 => ?_)
      · have z890081n : n ≤ v2_2_89021 := (nI_leI (a := n) (b := v2_2_89021) (by omega) (by omega)).mp z890081
        exact jm_vret h hq dX1_sortUpwards_56 fo_2_89021 [0] rfl (by decide) ⟨(show SdTo n fo_2_89021 by first | assumption | exact SdTo_mono (by assumption) (by omega) | exact SdX_end0 (by assumption) (by omega) | exact SdX_end (by assumption) (by omega) (by assumption) | exact SdTo_1 _ | omega), (show CtE n fo_2_89021 of by first | assumption | exact CtE_rfl _ _ | exact CtE_swC (by assumption) (by omega) (by omega) | omega)⟩ (Nat.le_of_ble_eq_true rfl) (Nat.le_of_ble_eq_true rfl)
      · have z890081n : ¬ n ≤ v2_2_89021 := fun q9 => z890081 ((nI_leI (a := n) (b := v2_2_89021) (by omega) (by omega)).mpr q9)
        refine j_iload_n h 0 rfl rfl dX1_sortUpwards_7 ?_
        refine j_istore_n (lv' := [(3, .int (nI v2_2_89021)), (2, .int (nI v2_2_89021)), (0, .ref o), (1, .int (nI n))]) h dX1_sortUpwards_8 rfl (by decide) rfl ?_
        have lp9_89024 : ∀ (m9_89024 : Nat), ∀ (v3_9_89024 : Nat) (fo_9_89024 : Nat → Int32), (v3_9_89024 ≤ v2_2_89021 + 1) → (SdX v2_2_89021 v3_9_89024 fo_9_89024) → (CtE n fo_9_89024 of) → (v2_2_89021 < n) → (v3_9_89024 ≤ 100000) → v3_9_89024 < m9_89024 → J x (mflat [(o, .inl (.inl (kA 1, 10, .inl fo_9_89024)))]) [(3, .int (pm v3_9_89024)), (2, .int (nI v2_2_89021)), (0, .ref o), (1, .int (nI n))] 0 0 9 [] := by
          intro m9_89024
          induction m9_89024 with
          | zero =>
            intro v3_9_89024 fo_9_89024 i9_89024_0 i9_89024_1 i9_89024_2 i9_89024_3 i9_89024_4 hm9_89024
            exact absurd hm9_89024 (Nat.not_lt_zero _)
          | succ m9_89024 ih9_89024 =>
            intro v3_9_89024 fo_9_89024 i9_89024_0 i9_89024_1 i9_89024_2 i9_89024_3 i9_89024_4 hm9_89024
            refine j_iload_n h 0 rfl rfl dX1_sortUpwards_9 ?_
            rcases v3_9_89024 with _ | j890092
            · show J x (mflat [(o, .inl (.inl (kA 1, 10, .inl fo_9_89024)))]) [(3, .int (-1)), (2, .int (nI v2_2_89021)), (0, .ref o), (1, .int (nI n))] 0 0 10 [.int (-1)]
              refine j_if_le h 50 dX1_sortUpwards_10 (by decide) (fun _ => ?_) (fun q => absurd (by decide) q)
              refine j_iinc (v := nI (v2_2_89021 + 1)) (lv' := [(2, .int (nI (v2_2_89021 + 1))), (3, .int (-1)), (0, .ref o), (1, .int (nI n))]) h dX1_sortUpwards_50 1 rfl (nI_add v2_2_89021 1) (by decide) rfl ?_
              refine j_goto h 2 dX1_sortUpwards_53 (by decide) ?_
              refine jm_sub [0] (w' := [(o, .inl (.inl (kA 1, 10, .inl fo_9_89024)))]) rfl (by decide +kernel) [0, 2, 3] (lv' := [(2, .int (nI (v2_2_89021 + 1))), (0, .ref o), (1, .int (nI n))]) rfl ?_
              exact ih2_89021 (v2_2_89021 + 1) fo_9_89024 (show 1 ≤ (v2_2_89021 + 1) by first | assumption | omega) (show SdTo (v2_2_89021 + 1) fo_9_89024 by first | assumption | exact SdX_end0 (by assumption) (by omega) | exact SdX_end (by assumption) (by omega) (by assumption) | exact SdTo_mono (by assumption) (by omega) | exact SdTo_1 _ | omega) (show CtE n fo_9_89024 of by first | assumption | exact CtE_rfl _ _ | exact CtE_swC (by assumption) (by omega) (by omega) | omega) (show (v2_2_89021 + 1) ≤ 100000 by first | assumption | omega) (show 100001 - (v2_2_89021 + 1) < m2_89021 by first | exact Nat.lt_of_lt_of_le (Nat.sub_lt_sub_left (Nat.lt_of_le_of_lt (show v2_2_89021 ≤ 100000 by assumption) (Nat.lt_succ_self 100000)) (Nat.lt_succ_self v2_2_89021)) (Nat.le_of_lt_succ hm2_89021) | omega)
            · show J x (mflat [(o, .inl (.inl (kA 1, 10, .inl fo_9_89024)))]) [(3, .int (nI j890092)), (2, .int (nI v2_2_89021)), (0, .ref o), (1, .int (nI n))] 0 0 10 [.int (nI j890092)]
              refine j_if_le h 50 dX1_sortUpwards_10 (by decide) (fun z890093 => ?_) (fun z890093 => ?_)
              · have z890093n : j890092 ≤ 0 := (nI_leI (a := j890092) (b := 0) (by omega) (by omega)).mp z890093
                refine j_iinc (v := nI (v2_2_89021 + 1)) (lv' := [(2, .int (nI (v2_2_89021 + 1))), (3, .int (nI j890092)), (0, .ref o), (1, .int (nI n))]) h dX1_sortUpwards_50 1 rfl (nI_add v2_2_89021 1) (by decide) rfl ?_
                refine j_goto h 2 dX1_sortUpwards_53 (by decide) ?_
                refine jm_sub [0] (w' := [(o, .inl (.inl (kA 1, 10, .inl fo_9_89024)))]) rfl (by decide +kernel) [0, 2, 3] (lv' := [(2, .int (nI (v2_2_89021 + 1))), (0, .ref o), (1, .int (nI n))]) rfl ?_
                exact ih2_89021 (v2_2_89021 + 1) fo_9_89024 (show 1 ≤ (v2_2_89021 + 1) by first | assumption | omega) (show SdTo (v2_2_89021 + 1) fo_9_89024 by first | assumption | exact SdX_end0 (by assumption) (by omega) | exact SdX_end (by assumption) (by omega) (by assumption) | exact SdTo_mono (by assumption) (by omega) | exact SdTo_1 _ | omega) (show CtE n fo_9_89024 of by first | assumption | exact CtE_rfl _ _ | exact CtE_swC (by assumption) (by omega) (by omega) | omega) (show (v2_2_89021 + 1) ≤ 100000 by first | assumption | omega) (show 100001 - (v2_2_89021 + 1) < m2_89021 by first | exact Nat.lt_of_lt_of_le (Nat.sub_lt_sub_left (Nat.lt_of_le_of_lt (show v2_2_89021 ≤ 100000 by assumption) (Nat.lt_succ_self 100000)) (Nat.lt_succ_self v2_2_89021)) (Nat.le_of_lt_succ hm2_89021) | omega)
              · have z890093n : ¬ j890092 ≤ 0 := fun q9 => z890093 ((nI_leI (a := j890092) (b := 0) (by omega) (by omega)).mpr q9)
                refine j_aload_n h 2 rfl rfl dX1_sortUpwards_13 ?_
                refine j_iload_n h 0 rfl rfl dX1_sortUpwards_14 ?_
                refine j_iconst (v := 1) h (by decide) dX1_sortUpwards_15 ?_
                refine j_isub h dX1_sortUpwards_16 ?_
                refine j_top (b := nI (j890092 - 1)) (pk_sub (a := j890092) (b := 1) (by omega)) ?_
                refine jm_iald h 0 rfl (j890092 - 1) rfl (by omega) (by omega) dX1_sortUpwards_17 ?_
                refine j_aload_n h 2 rfl rfl dX1_sortUpwards_18 ?_
                refine j_iload_n h 0 rfl rfl dX1_sortUpwards_19 ?_
                refine jm_iald h 0 rfl j890092 rfl (by omega) (by omega) dX1_sortUpwards_20 ?_
                refine j_icmp_le h 50 dX1_sortUpwards_21 (by decide) (fun z890094 => ?_) (fun z890094 => ?_)
                · show J x (mflat [(o, .inl (.inl (kA 1, 10, .inl fo_9_89024)))]) [(3, .int (nI j890092)), (2, .int (nI v2_2_89021)), (0, .ref o), (1, .int (nI n))] 0 0 50 []
                  refine j_iinc (v := nI (v2_2_89021 + 1)) (lv' := [(2, .int (nI (v2_2_89021 + 1))), (3, .int (nI j890092)), (0, .ref o), (1, .int (nI n))]) h dX1_sortUpwards_50 1 rfl (nI_add v2_2_89021 1) (by decide) rfl ?_
                  refine j_goto h 2 dX1_sortUpwards_53 (by decide) ?_
                  refine jm_sub [0] (w' := [(o, .inl (.inl (kA 1, 10, .inl fo_9_89024)))]) rfl (by decide +kernel) [0, 2, 3] (lv' := [(2, .int (nI (v2_2_89021 + 1))), (0, .ref o), (1, .int (nI n))]) rfl ?_
                  exact ih2_89021 (v2_2_89021 + 1) fo_9_89024 (show 1 ≤ (v2_2_89021 + 1) by first | assumption | omega) (show SdTo (v2_2_89021 + 1) fo_9_89024 by first | assumption | exact SdX_end0 (by assumption) (by omega) | exact SdX_end (by assumption) (by omega) (by assumption) | exact SdTo_mono (by assumption) (by omega) | exact SdTo_1 _ | omega) (show CtE n fo_9_89024 of by first | assumption | exact CtE_rfl _ _ | exact CtE_swC (by assumption) (by omega) (by omega) | omega) (show (v2_2_89021 + 1) ≤ 100000 by first | assumption | omega) (show 100001 - (v2_2_89021 + 1) < m2_89021 by first | exact Nat.lt_of_lt_of_le (Nat.sub_lt_sub_left (Nat.lt_of_le_of_lt (show v2_2_89021 ≤ 100000 by assumption) (Nat.lt_succ_self 100000)) (Nat.lt_succ_self v2_2_89021)) (Nat.le_of_lt_succ hm2_89021) | omega)
                · show J x (mflat [(o, .inl (.inl (kA 1, 10, .inl fo_9_89024)))]) [(3, .int (nI j890092)), (2, .int (nI v2_2_89021)), (0, .ref o), (1, .int (nI n))] 0 0 24 []
                  refine j_aload_n h 2 rfl rfl dX1_sortUpwards_24 ?_
                  refine j_iload_n h 0 rfl rfl dX1_sortUpwards_25 ?_
                  refine j_iconst (v := 1) h (by decide) dX1_sortUpwards_26 ?_
                  refine j_isub h dX1_sortUpwards_27 ?_
                  refine j_top (b := nI (j890092 - 1)) (pk_sub (a := j890092) (b := 1) (by omega)) ?_
                  refine jm_iald h 0 rfl (j890092 - 1) rfl (by omega) (by omega) dX1_sortUpwards_28 ?_
                  refine j_istore (lv' := [(4, .int (fo_9_89024 (j890092 - 1))), (3, .int (nI j890092)), (2, .int (nI v2_2_89021)), (0, .ref o), (1, .int (nI n))]) h dX1_sortUpwards_29 (by decide) rfl ?_
                  refine j_aload_n h 3 rfl rfl dX1_sortUpwards_31 ?_
                  refine j_iload_n h 1 rfl rfl dX1_sortUpwards_32 ?_
                  refine j_iconst (v := 1) h (by decide) dX1_sortUpwards_33 ?_
                  refine j_isub h dX1_sortUpwards_34 ?_
                  refine j_top (b := nI (j890092 - 1)) (pk_sub (a := j890092) (b := 1) (by omega)) ?_
                  refine j_aload_n h 3 rfl rfl dX1_sortUpwards_35 ?_
                  refine j_iload_n h 1 rfl rfl dX1_sortUpwards_36 ?_
                  refine jm_iald h 0 rfl j890092 rfl (by omega) (by omega) dX1_sortUpwards_37 ?_
                  refine jm_iast (w' := [(o, .inl (.inl (kA 1, 10, .inl (upd fo_9_89024 (j890092 - 1) (fo_9_89024 j890092)))))]) h 0 rfl (j890092 - 1) rfl (by omega) (by omega) dX1_sortUpwards_38 rfl ?_
                  refine j_aload_n h 3 rfl rfl dX1_sortUpwards_39 ?_
                  refine j_iload_n h 1 rfl rfl dX1_sortUpwards_40 ?_
                  refine j_iload h 0 rfl dX1_sortUpwards_41 ?_
                  refine jm_iast (w' := [(o, .inl (.inl (kA 1, 10, .inl (upd (upd fo_9_89024 (j890092 - 1) (fo_9_89024 j890092)) j890092 (fo_9_89024 (j890092 - 1))))))]) h 0 rfl j890092 rfl (by omega) (by omega) dX1_sortUpwards_43 rfl ?_
                  obtain ⟨y890095, hy890096⟩ : ∃ y9, y9 = j890092 := ⟨_, rfl⟩
                  refine j_iinc (v := pm y890095) (lv' := [(3, .int (pm y890095)), (4, .int (fo_9_89024 (j890092 - 1))), (2, .int (nI v2_2_89021)), (0, .ref o), (1, .int (nI n))]) h dX1_sortUpwards_44 1 rfl (by rw [hy890096]; exact pm_dec _) (by decide) rfl ?_
                  refine j_goto h 9 dX1_sortUpwards_47 (by decide) ?_
                  refine jm_sub [0] (w' := [(o, .inl (.inl (kA 1, 10, .inl (upd (upd fo_9_89024 (j890092 - 1) (fo_9_89024 j890092)) j890092 (fo_9_89024 (j890092 - 1))))))]) rfl (by decide +kernel) [0, 2, 3, 4] (lv' := [(3, .int (pm y890095)), (2, .int (nI v2_2_89021)), (0, .ref o), (1, .int (nI n))]) rfl ?_
                  exact ih9_89024 y890095 (upd (upd fo_9_89024 (j890092 - 1) (fo_9_89024 j890092)) j890092 (fo_9_89024 (j890092 - 1))) (show y890095 ≤ v2_2_89021 + 1 by first | assumption | omega) (show SdX v2_2_89021 y890095 (upd (upd fo_9_89024 (j890092 - 1) (fo_9_89024 j890092)) j890092 (fo_9_89024 (j890092 - 1))) from (by rw [show y890095 = _ by assumption]; exact SdX_swC (by assumption) (by omega) (by omega) (by assumption))) (show CtE n (upd (upd fo_9_89024 (j890092 - 1) (fo_9_89024 j890092)) j890092 (fo_9_89024 (j890092 - 1))) of by first | assumption | exact CtE_rfl _ _ | exact CtE_swC (by assumption) (by omega) (by omega) | omega) (show v2_2_89021 < n by first | assumption | omega) (show y890095 ≤ 100000 by first | assumption | omega) (show y890095 < m9_89024 by omega)
        refine jm_sub [0] (w' := [(o, .inl (.inl (kA 1, 10, .inl fo_2_89021)))]) rfl (by decide +kernel) [0, 1, 2, 3] (lv' := [(3, .int (nI v2_2_89021)), (2, .int (nI v2_2_89021)), (0, .ref o), (1, .int (nI n))]) rfl ?_
        exact lp9_89024 ((v2_2_89021 + 1) + 1) (v2_2_89021 + 1) fo_2_89021 (show (v2_2_89021 + 1) ≤ v2_2_89021 + 1 by first | assumption | omega) (show SdX v2_2_89021 (v2_2_89021 + 1) fo_2_89021 by first | assumption | exact SdX_0 (by assumption) | omega) (show CtE n fo_2_89021 of by first | assumption | exact CtE_rfl _ _ | exact CtE_swC (by assumption) (by omega) (by omega) | omega) (show v2_2_89021 < n by first | assumption | omega) (show (v2_2_89021 + 1) ≤ 100000 by first | assumption | omega) (Nat.lt_succ_self _)
  refine jm_sub [0] (w' := [(o, .inl (.inl (kA 1, 10, .inl of)))]) rfl (by decide +kernel) [0, 1, 2] (lv' := [(2, .int 1), (0, .ref o), (1, .int (nI n))]) rfl ?_
  exact lp2_89021 (100001 - 1 + 1) 1 of (show 1 ≤ 1 by first | assumption | omega) (show SdTo 1 of by first | assumption | exact SdTo_1 _ | exact SdTo_mono (by assumption) (by omega) | exact SdX_end0 (by assumption) (by omega) | exact SdX_end (by assumption) (by omega) (by assumption) | omega) (show CtE n of of by first | assumption | exact CtE_rfl _ _ | exact CtE_swC (by assumption) (by omega) (by omega) | omega) (show 1 ≤ 100000 by first | assumption | omega) (Nat.lt_succ_self _)
set_option maxHeartbeats 4000000 in
set_option maxRecDepth 100000 in
theorem s_X1_leastOfRestF (lau : Launch) (gg : va_G) (kA : Nat → ClassId) (d : Nat) (s : Nat) (fr : Nat) (d0 : Nat) (d1 : Nat) (d2 : Nat) (d3 : Nat) (dus : Nat → Int32) (dru : Nat → Int32) (drt : Nat → Int32) (dgv : Nat → Int32) (s0 : Nat) (s1 : Nat) (s2 : Nat) (s3 : Nat) (s4 : Nat) (s5 : Nat) (s6 : Nat) (s7 : Nat) (s8 : Nat) (s9 : Nat) (s10 : Nat) (s11 : Nat) (sn : Nat) (sl : Nat) (se : Nat) (sc7 : Nat → Int32) (hsn : sn ≤ 6) (hsl : sl ≤ 10) (hse : se ≤ 4) (hslt : LtOk sl sc7) (hfr : fr ≤ 10) : CtI lau yX1_leastOfRest cX1_leastOfRest 7 (some .int) 2 0 0 gg kA [.ref d, .ref s, .int (nI fr)] (mflat [(d, .inl (.inr (1, [.ref d0, .ref d1, .ref d2, .ref d3]))), (d0, .inl (.inl (kA 1, 10, .inl dus))), (d1, .inl (.inl (kA 1, 10, .inl dru))), (d2, .inl (.inl (kA 1, 10, .inl drt))), (d3, .inl (.inl (kA 3, 10, .inl dgv))), (s, .inl (.inr (5, [.ref s0, .ref s1, .ref s2, .ref s3, .ref s4, .ref s5, .ref s6, .ref s7, .ref s8, .ref s9, .ref s10, .ref s11, .int (nI sn), .int (nI sl), .int (nI se)]))), (s7, .inl (.inl (kA 1, 10, .inl sc7)))]) (S := (Nat → Int32) × (Nat → Int32)) (fun (r : Int32) ((y_d1, y_d2) : (Nat → Int32) × (Nat → Int32)) => fr = 0 → (∀ i, i < sl → dgv i = 0) → DlC dus sc7 sl r) (fun ((y_d1, y_d2) : (Nat → Int32) × (Nat → Int32)) => mflat [(d, .inl (.inr (1, [.ref d0, .ref d1, .ref d2, .ref d3]))), (d0, .inl (.inl (kA 1, 10, .inl dus))), (d1, .inl (.inl (kA 1, 10, .inl y_d1))), (d2, .inl (.inl (kA 1, 10, .inl y_d2))), (d3, .inl (.inl (kA 3, 10, .inl dgv))), (s, .inl (.inr (5, [.ref s0, .ref s1, .ref s2, .ref s3, .ref s4, .ref s5, .ref s6, .ref s7, .ref s8, .ref s9, .ref s10, .ref s11, .int (nI sn), .int (nI sl), .int (nI se)]))), (s7, .inl (.inl (kA 1, 10, .inl sc7)))]) := by
  refine nx_startI (by decide +kernel) (Nat.le_of_ble_eq_true rfl) ?_
  intro x hnm h hq
  have h : Ok x cX1_leastOfRest RX1 kA (rmC 2 0 0) 7 := h
  show J x (mflat [(d, .inl (.inr (1, [.ref d0, .ref d1, .ref d2, .ref d3]))), (d0, .inl (.inl (kA 1, 10, .inl dus))), (d1, .inl (.inl (kA 1, 10, .inl dru))), (d2, .inl (.inl (kA 1, 10, .inl drt))), (d3, .inl (.inl (kA 3, 10, .inl dgv))), (s, .inl (.inr (5, [.ref s0, .ref s1, .ref s2, .ref s3, .ref s4, .ref s5, .ref s6, .ref s7, .ref s8, .ref s9, .ref s10, .ref s11, .int (nI sn), .int (nI sl), .int (nI se)]))), (s7, .inl (.inl (kA 1, 10, .inl sc7)))]) [(0, .ref d), (1, .ref s), (2, .int (nI fr))] 0 0 0 []
  refine j_iconst (v := 0) h (by decide) dX1_leastOfRest_0 ?_
  refine j_istore_n (lv' := [(3, .int 0), (0, .ref d), (1, .ref s), (2, .int (nI fr))]) h dX1_leastOfRest_1 rfl (by decide) rfl ?_
  refine j_iload_n h 3 rfl rfl dX1_leastOfRest_2 ?_
  refine j_istore (lv' := [(4, .int (nI fr)), (3, .int 0), (0, .ref d), (1, .ref s), (2, .int (nI fr))]) h dX1_leastOfRest_3 (by decide) rfl ?_
  have lp5_89081 : ∀ (m5_89081 : Nat), ∀ (v4_5_89081 : Nat) (v3_5_89081 : Nat) (fd1_5_89081 : Nat → Int32), (v3_5_89081 + fr = v4_5_89081) → (v4_5_89081 ≤ 10) → (EqTo v3_5_89081 fd1_5_89081 (fun j => dus (fr + j))) → (fr ≤ sl → v4_5_89081 ≤ sl) → (v4_5_89081 ≤ 100000) → (v3_5_89081 ≤ 100000) → 100001 - v4_5_89081 < m5_89081 → J x (mflat [(d, .inl (.inr (1, [.ref d0, .ref d1, .ref d2, .ref d3]))), (d0, .inl (.inl (kA 1, 10, .inl dus))), (d1, .inl (.inl (kA 1, 10, .inl fd1_5_89081))), (d2, .inl (.inl (kA 1, 10, .inl drt))), (d3, .inl (.inl (kA 3, 10, .inl dgv))), (s, .inl (.inr (5, [.ref s0, .ref s1, .ref s2, .ref s3, .ref s4, .ref s5, .ref s6, .ref s7, .ref s8, .ref s9, .ref s10, .ref s11, .int (nI sn), .int (nI sl), .int (nI se)]))), (s7, .inl (.inl (kA 1, 10, .inl sc7)))]) [(4, .int (nI v4_5_89081)), (3, .int (nI v3_5_89081)), (0, .ref d), (1, .ref s), (2, .int (nI fr))] 0 0 5 [] := by
    intro m5_89081
    induction m5_89081 with
    | zero =>
      intro v4_5_89081 v3_5_89081 fd1_5_89081 i5_89081_0 i5_89081_1 i5_89081_2 i5_89081_3 i5_89081_4 i5_89081_5 hm5_89081
      exact absurd hm5_89081 (Nat.not_lt_zero _)
    | succ m5_89081 ih5_89081 =>
      intro v4_5_89081 v3_5_89081 fd1_5_89081 i5_89081_0 i5_89081_1 i5_89081_2 i5_89081_3 i5_89081_4 i5_89081_5 hm5_89081
      refine j_iload h 0 rfl dX1_leastOfRest_5 ?_
      refine j_aload_n h 3 rfl rfl dX1_leastOfRest_7 ?_
      refine jm_get h iw_X5 5 rfl rfl 13 (by decide +kernel) tw_223 rfl dX1_leastOfRest_8 ?_
      refine j_icmp_ge h 36 dX1_leastOfRest_11 (by decide) (fun z890345 => ?_) (fun z890345 => ?_)
      · have z890345n : sl ≤ v4_5_89081 := (nI_leI (a := sl) (b := v4_5_89081) (by omega) (by omega)).mp z890345
        refine j_iconst (v := 0) h (by decide) dX1_leastOfRest_36 ?_
        refine j_istore (lv' := [(4, .int 0), (3, .int (nI v3_5_89081)), (0, .ref d), (1, .ref s), (2, .int (nI fr))]) h dX1_leastOfRest_37 (by decide) rfl ?_
        refine j_iconst (v := 0) h (by decide) dX1_leastOfRest_39 ?_
        refine j_istore (lv' := [(5, .int 0), (4, .int 0), (3, .int (nI v3_5_89081)), (0, .ref d), (1, .ref s), (2, .int (nI fr))]) h dX1_leastOfRest_40 (by decide) rfl ?_
        have lp42_89089 : ∀ (m42_89089 : Nat), ∀ (v5_42_89089 : Nat) (v4_42_89089 : Nat) (fd2_42_89089 : Nat → Int32), (v4_42_89089 ≤ v3_5_89081) → (v5_42_89089 ≤ sl) → (fr = 0 → v3_5_89081 = sl) → (fr = 0 → (∀ i, i < sl → dgv i = 0) → v4_42_89089 = v5_42_89089 ∧ EqTo v5_42_89089 fd2_42_89089 sc7) → (v5_42_89089 ≤ 100000) → (v4_42_89089 ≤ 100000) → sl - v5_42_89089 < m42_89089 → J x (mflat [(d, .inl (.inr (1, [.ref d0, .ref d1, .ref d2, .ref d3]))), (d0, .inl (.inl (kA 1, 10, .inl dus))), (d1, .inl (.inl (kA 1, 10, .inl fd1_5_89081))), (d2, .inl (.inl (kA 1, 10, .inl fd2_42_89089))), (d3, .inl (.inl (kA 3, 10, .inl dgv))), (s, .inl (.inr (5, [.ref s0, .ref s1, .ref s2, .ref s3, .ref s4, .ref s5, .ref s6, .ref s7, .ref s8, .ref s9, .ref s10, .ref s11, .int (nI sn), .int (nI sl), .int (nI se)]))), (s7, .inl (.inl (kA 1, 10, .inl sc7)))]) [(5, .int (nI v5_42_89089)), (4, .int (nI v4_42_89089)), (3, .int (nI v3_5_89081)), (0, .ref d), (1, .ref s), (2, .int (nI fr))] 0 0 42 [] := by
          intro m42_89089
          induction m42_89089 with
          | zero =>
            intro v5_42_89089 v4_42_89089 fd2_42_89089 i42_89089_0 i42_89089_1 i42_89089_2 i42_89089_3 i42_89089_4 i42_89089_5 hm42_89089
            exact absurd hm42_89089 (Nat.not_lt_zero _)
          | succ m42_89089 ih42_89089 =>
            intro v5_42_89089 v4_42_89089 fd2_42_89089 i42_89089_0 i42_89089_1 i42_89089_2 i42_89089_3 i42_89089_4 i42_89089_5 hm42_89089
            refine j_iload h 0 rfl dX1_leastOfRest_42 ?_
            refine j_aload_n h 4 rfl rfl dX1_leastOfRest_44 ?_
            refine jm_get h iw_X5 5 rfl rfl 13 (by decide +kernel) tw_223 rfl dX1_leastOfRest_45 ?_
            refine j_icmp_ge h 90 dX1_leastOfRest_48 (by decide) (fun z890383 => ?_) (fun z890383 => ?_)
            · have z890383n : sl ≤ v5_42_89089 := (nI_leI (a := sl) (b := v5_42_89089) (by omega) (by omega)).mp z890383
              refine j_aload_n h 3 rfl rfl dX1_leastOfRest_90 ?_
              refine jm_get h iw_X1 0 rfl rfl 1 (by decide +kernel) tw_463 rfl dX1_leastOfRest_91 ?_
              refine j_iload_n h 2 rfl rfl dX1_leastOfRest_94 ?_
              refine jm_callSv (np := 2) (isC := [2]) (isR := [0, 1, 3, 4, 5, 6]) (wc := [(d1, .inl (.inl (kA 1, 10, .inl fd1_5_89081)))]) (wr := [(d, .inl (.inr (1, [.ref d0, .ref d1, .ref d2, .ref d3]))), (d0, .inl (.inl (kA 1, 10, .inl dus))), (d2, .inl (.inl (kA 1, 10, .inl fd2_42_89089))), (d3, .inl (.inl (kA 3, 10, .inl dgv))), (s, .inl (.inr (5, [.ref s0, .ref s1, .ref s2, .ref s3, .ref s4, .ref s5, .ref s6, .ref s7, .ref s8, .ref s9, .ref s10, .ref s11, .int (nI sn), .int (nI sl), .int (nI se)]))), (s7, .inl (.inl (kA 1, 10, .inl sc7)))]) (rest := []) (As := [.ref d1, .int (nI v3_5_89081)]) h (s_X1_sortUpwardsF _ _ kA d1 v3_5_89081 fd1_5_89081 (show v3_5_89081 ≤ 10 by first | assumption | omega)) tw_1042 tw_1043 tw_98 tw_1044 (by decide +kernel) rfl ⟨Nat.le_of_ble_eq_true rfl, Nat.le_of_ble_eq_true rfl⟩ (by decide +kernel) rfl rfl (by decide +kernel) (by decide +kernel) (Nat.le_of_ble_eq_true rfl) rfl ⟨Nat.le_of_ble_eq_true rfl, Nat.le_of_ble_eq_true rfl⟩ dX1_leastOfRest_95 ?_
              rintro q890384 e890385
              obtain ⟨p890387, p890388⟩ := e890385
              replace p890387 : SdTo v3_5_89081 q890384 := p890387
              replace p890388 : CtE v3_5_89081 q890384 fd1_5_89081 := p890388
              show J x (mflat [(d, .inl (.inr (1, [.ref d0, .ref d1, .ref d2, .ref d3]))), (d0, .inl (.inl (kA 1, 10, .inl dus))), (d2, .inl (.inl (kA 1, 10, .inl fd2_42_89089))), (d3, .inl (.inl (kA 3, 10, .inl dgv))), (s, .inl (.inr (5, [.ref s0, .ref s1, .ref s2, .ref s3, .ref s4, .ref s5, .ref s6, .ref s7, .ref s8, .ref s9, .ref s10, .ref s11, .int (nI sn), .int (nI sl), .int (nI se)]))), (s7, .inl (.inl (kA 1, 10, .inl sc7))), (d1, .inl (.inl (kA 1, 10, .inl q890384)))]) [(5, .int (nI v5_42_89089)), (4, .int (nI v4_42_89089)), (3, .int (nI v3_5_89081)), (0, .ref d), (1, .ref s), (2, .int (nI fr))] 0 0 98 []
              refine j_aload_n h 3 rfl rfl dX1_leastOfRest_98 ?_
              refine jm_get h iw_X1 0 rfl rfl 2 (by decide +kernel) tw_464 rfl dX1_leastOfRest_99 ?_
              refine j_iload h 1 rfl dX1_leastOfRest_102 ?_
              refine jm_callSv (np := 2) (isC := [2]) (isR := [0, 1, 3, 4, 5, 6]) (wc := [(d2, .inl (.inl (kA 1, 10, .inl fd2_42_89089)))]) (wr := [(d, .inl (.inr (1, [.ref d0, .ref d1, .ref d2, .ref d3]))), (d0, .inl (.inl (kA 1, 10, .inl dus))), (d3, .inl (.inl (kA 3, 10, .inl dgv))), (s, .inl (.inr (5, [.ref s0, .ref s1, .ref s2, .ref s3, .ref s4, .ref s5, .ref s6, .ref s7, .ref s8, .ref s9, .ref s10, .ref s11, .int (nI sn), .int (nI sl), .int (nI se)]))), (s7, .inl (.inl (kA 1, 10, .inl sc7))), (d1, .inl (.inl (kA 1, 10, .inl q890384)))]) (rest := []) (As := [.ref d2, .int (nI v4_42_89089)]) h (s_X1_sortUpwardsF _ _ kA d2 v4_42_89089 fd2_42_89089 (show v4_42_89089 ≤ 10 by first | assumption | omega)) tw_1042 tw_1043 tw_98 tw_1044 (by decide +kernel) rfl ⟨Nat.le_of_ble_eq_true rfl, Nat.le_of_ble_eq_true rfl⟩ (by decide +kernel) rfl rfl (by decide +kernel) (by decide +kernel) (Nat.le_of_ble_eq_true rfl) rfl ⟨Nat.le_of_ble_eq_true rfl, Nat.le_of_ble_eq_true rfl⟩ dX1_leastOfRest_104 ?_
              rintro q890389 e890390
              obtain ⟨p890392, p890393⟩ := e890390
              replace p890392 : SdTo v4_42_89089 q890389 := p890392
              replace p890393 : CtE v4_42_89089 q890389 fd2_42_89089 := p890393
              show J x (mflat [(d, .inl (.inr (1, [.ref d0, .ref d1, .ref d2, .ref d3]))), (d0, .inl (.inl (kA 1, 10, .inl dus))), (d3, .inl (.inl (kA 3, 10, .inl dgv))), (s, .inl (.inr (5, [.ref s0, .ref s1, .ref s2, .ref s3, .ref s4, .ref s5, .ref s6, .ref s7, .ref s8, .ref s9, .ref s10, .ref s11, .int (nI sn), .int (nI sl), .int (nI se)]))), (s7, .inl (.inl (kA 1, 10, .inl sc7))), (d1, .inl (.inl (kA 1, 10, .inl q890384))), (d2, .inl (.inl (kA 1, 10, .inl q890389)))]) [(5, .int (nI v5_42_89089)), (4, .int (nI v4_42_89089)), (3, .int (nI v3_5_89081)), (0, .ref d), (1, .ref s), (2, .int (nI fr))] 0 0 107 []
              refine j_iconst (v := 0) h (by decide) dX1_leastOfRest_107 ?_
              refine j_istore (lv' := [(5, .int 0), (4, .int (nI v4_42_89089)), (3, .int (nI v3_5_89081)), (0, .ref d), (1, .ref s), (2, .int (nI fr))]) h dX1_leastOfRest_108 (by decide) rfl ?_
              refine j_iconst (v := 0) h (by decide) dX1_leastOfRest_110 ?_
              refine j_istore (lv' := [(6, .int 0), (5, .int 0), (4, .int (nI v4_42_89089)), (3, .int (nI v3_5_89081)), (0, .ref d), (1, .ref s), (2, .int (nI fr))]) h dX1_leastOfRest_111 (by decide) rfl ?_
              have lp113_89092 : ∀ (m113_89092 : Nat), ∀ (v6_113_89092 : Nat) (v5_113_89092 : Int32), (v5_113_89092 = dotC q890384 q890389 v3_5_89081 v6_113_89092) → (v6_113_89092 ≤ v4_42_89089) → (v6_113_89092 ≤ 100000) → 100001 - v6_113_89092 < m113_89092 → J x (mflat [(d, .inl (.inr (1, [.ref d0, .ref d1, .ref d2, .ref d3]))), (d0, .inl (.inl (kA 1, 10, .inl dus))), (d3, .inl (.inl (kA 3, 10, .inl dgv))), (s, .inl (.inr (5, [.ref s0, .ref s1, .ref s2, .ref s3, .ref s4, .ref s5, .ref s6, .ref s7, .ref s8, .ref s9, .ref s10, .ref s11, .int (nI sn), .int (nI sl), .int (nI se)]))), (s7, .inl (.inl (kA 1, 10, .inl sc7))), (d1, .inl (.inl (kA 1, 10, .inl q890384))), (d2, .inl (.inl (kA 1, 10, .inl q890389)))]) [(6, .int (nI v6_113_89092)), (5, .int v5_113_89092), (4, .int (nI v4_42_89089)), (3, .int (nI v3_5_89081)), (0, .ref d), (1, .ref s), (2, .int (nI fr))] 0 0 113 [] := by
                intro m113_89092
                induction m113_89092 with
                | zero =>
                  intro v6_113_89092 v5_113_89092 i113_89092_0 i113_89092_1 i113_89092_2 hm113_89092
                  exact absurd hm113_89092 (Nat.not_lt_zero _)
                | succ m113_89092 ih113_89092 =>
                  intro v6_113_89092 v5_113_89092 i113_89092_0 i113_89092_1 i113_89092_2 hm113_89092
                  refine j_iload h 0 rfl dX1_leastOfRest_113 ?_
                  refine j_iload h 2 rfl dX1_leastOfRest_115 ?_
                  refine j_icmp_ge h 150 dX1_leastOfRest_117 (by decide) (fun z890396 => ?_) (fun z890396 => ?_)
                  · have z890396n : v4_42_89089 ≤ v6_113_89092 := (nI_leI (a := v4_42_89089) (b := v6_113_89092) (by omega) (by omega)).mp z890396
                    refine j_iload h 1 rfl dX1_leastOfRest_150 ?_
                    exact jm_iret h hq dX1_leastOfRest_152 (q890384, q890389) [0, 1, 5, 6, 2, 3, 4] rfl (by decide) (show fr = 0 → (∀ i, i < sl → dgv i = 0) → DlC dus sc7 sl v5_113_89092 from (fun h9 h8 => by obtain ⟨e9, q9⟩ := i42_89089_3 h9 h8; have n9 := i42_89089_2 h9; have en : v3_5_89081 = sl := n9; have er : v4_42_89089 = sl := (by omega); refine ⟨_, _, en ▸ p890387, er ▸ p890392, fun w9 => ((en ▸ p890388) w9).trans (cnt_congr w9 (fun i hi => by rw [i5_89081_2 i (by omega)]; show dus (fr + i) = dus i; rw [h9, Nat.zero_add])), fun w9 => ((er ▸ p890393) w9).trans (cnt_congr w9 (fun i hi => q9 i (by omega))), ?_⟩; rw [i113_89092_0, en, show v6_113_89092 = sl by omega])) (Nat.le_of_ble_eq_true rfl) (Nat.le_of_ble_eq_true rfl)
                  · have z890396n : ¬ v4_42_89089 ≤ v6_113_89092 := fun q9 => z890396 ((nI_leI (a := v4_42_89089) (b := v6_113_89092) (by omega) (by omega)).mpr q9)
                    refine j_iload h 1 rfl dX1_leastOfRest_120 ?_
                    refine j_aload_n h 4 rfl rfl dX1_leastOfRest_122 ?_
                    refine jm_get h iw_X1 0 rfl rfl 1 (by decide +kernel) tw_463 rfl dX1_leastOfRest_123 ?_
                    refine j_iload_n h 3 rfl rfl dX1_leastOfRest_126 ?_
                    refine j_iconst (v := 1) h (by decide) dX1_leastOfRest_127 ?_
                    refine j_isub h dX1_leastOfRest_128 ?_
                    refine j_top (b := nI (v3_5_89081 - 1)) (pk_sub (a := v3_5_89081) (b := 1) (by omega)) ?_
                    refine j_iload h 0 rfl dX1_leastOfRest_129 ?_
                    refine j_isub h dX1_leastOfRest_131 ?_
                    refine j_top (b := nI ((v3_5_89081 - 1) - v6_113_89092)) (pk_sub (a := (v3_5_89081 - 1)) (b := v6_113_89092) (by omega)) ?_
                    refine jm_iald h 5 rfl ((v3_5_89081 - 1) - v6_113_89092) rfl (by omega) (by omega) dX1_leastOfRest_132 ?_
                    refine j_aload_n h 4 rfl rfl dX1_leastOfRest_133 ?_
                    refine jm_get h iw_X1 0 rfl rfl 2 (by decide +kernel) tw_464 rfl dX1_leastOfRest_134 ?_
                    refine j_iload h 0 rfl dX1_leastOfRest_137 ?_
                    refine jm_iald h 6 rfl v6_113_89092 rfl (by omega) (by omega) dX1_leastOfRest_139 ?_
                    refine j_imul h dX1_leastOfRest_140 ?_
                    refine j_iadd h dX1_leastOfRest_141 ?_
                    refine j_istore (lv' := [(5, .int (v5_113_89092 + ((q890384 ((v3_5_89081 - 1) - v6_113_89092)) * (q890389 v6_113_89092)))), (6, .int (nI v6_113_89092)), (4, .int (nI v4_42_89089)), (3, .int (nI v3_5_89081)), (0, .ref d), (1, .ref s), (2, .int (nI fr))]) h dX1_leastOfRest_142 (by decide) rfl ?_
                    refine j_iinc (v := nI (v6_113_89092 + 1)) (lv' := [(6, .int (nI (v6_113_89092 + 1))), (5, .int (v5_113_89092 + ((q890384 ((v3_5_89081 - 1) - v6_113_89092)) * (q890389 v6_113_89092)))), (4, .int (nI v4_42_89089)), (3, .int (nI v3_5_89081)), (0, .ref d), (1, .ref s), (2, .int (nI fr))]) h dX1_leastOfRest_144 1 rfl (nI_add v6_113_89092 1) (by decide) rfl ?_
                    refine j_goto h 113 dX1_leastOfRest_147 (by decide) ?_
                    refine jm_sub [0, 1, 2, 3, 4, 5, 6] (w' := [(d, .inl (.inr (1, [.ref d0, .ref d1, .ref d2, .ref d3]))), (d0, .inl (.inl (kA 1, 10, .inl dus))), (d3, .inl (.inl (kA 3, 10, .inl dgv))), (s, .inl (.inr (5, [.ref s0, .ref s1, .ref s2, .ref s3, .ref s4, .ref s5, .ref s6, .ref s7, .ref s8, .ref s9, .ref s10, .ref s11, .int (nI sn), .int (nI sl), .int (nI se)]))), (s7, .inl (.inl (kA 1, 10, .inl sc7))), (d1, .inl (.inl (kA 1, 10, .inl q890384))), (d2, .inl (.inl (kA 1, 10, .inl q890389)))]) rfl (by decide +kernel) [0, 1, 2, 3, 4, 5, 6] (lv' := [(6, .int (nI (v6_113_89092 + 1))), (5, .int (v5_113_89092 + ((q890384 ((v3_5_89081 - 1) - v6_113_89092)) * (q890389 v6_113_89092)))), (4, .int (nI v4_42_89089)), (3, .int (nI v3_5_89081)), (0, .ref d), (1, .ref s), (2, .int (nI fr))]) rfl ?_
                    exact ih113_89092 (v6_113_89092 + 1) (v5_113_89092 + ((q890384 ((v3_5_89081 - 1) - v6_113_89092)) * (q890389 v6_113_89092))) (show (v5_113_89092 + ((q890384 ((v3_5_89081 - 1) - v6_113_89092)) * (q890389 v6_113_89092))) = dotC q890384 q890389 v3_5_89081 (v6_113_89092 + 1) from dotC_s i113_89092_0) (show (v6_113_89092 + 1) ≤ v4_42_89089 by first | assumption | omega) (show (v6_113_89092 + 1) ≤ 100000 by first | assumption | omega) (show 100001 - (v6_113_89092 + 1) < m113_89092 by first | exact Nat.lt_of_lt_of_le (Nat.sub_lt_sub_left (Nat.lt_of_le_of_lt (show v6_113_89092 ≤ 100000 by assumption) (Nat.lt_succ_self 100000)) (Nat.lt_succ_self v6_113_89092)) (Nat.le_of_lt_succ hm113_89092) | omega)
              refine jm_sub [0, 1, 2, 3, 4, 5, 6] (w' := [(d, .inl (.inr (1, [.ref d0, .ref d1, .ref d2, .ref d3]))), (d0, .inl (.inl (kA 1, 10, .inl dus))), (d3, .inl (.inl (kA 3, 10, .inl dgv))), (s, .inl (.inr (5, [.ref s0, .ref s1, .ref s2, .ref s3, .ref s4, .ref s5, .ref s6, .ref s7, .ref s8, .ref s9, .ref s10, .ref s11, .int (nI sn), .int (nI sl), .int (nI se)]))), (s7, .inl (.inl (kA 1, 10, .inl sc7))), (d1, .inl (.inl (kA 1, 10, .inl q890384))), (d2, .inl (.inl (kA 1, 10, .inl q890389)))]) rfl (by decide +kernel) [0, 1, 2, 3, 4, 5, 6] (lv' := [(6, .int 0), (5, .int 0), (4, .int (nI v4_42_89089)), (3, .int (nI v3_5_89081)), (0, .ref d), (1, .ref s), (2, .int (nI fr))]) rfl ?_
              exact lp113_89092 (100001 - 0 + 1) 0 0 (show 0 = dotC q890384 q890389 v3_5_89081 0 from rfl) (show 0 ≤ v4_42_89089 by first | assumption | omega) (show 0 ≤ 100000 by first | assumption | omega) (Nat.lt_succ_self _)
            · have z890383n : ¬ sl ≤ v5_42_89089 := fun q9 => z890383 ((nI_leI (a := sl) (b := v5_42_89089) (by omega) (by omega)).mpr q9)
              refine j_aload_n h 3 rfl rfl dX1_leastOfRest_51 ?_
              refine jm_get h iw_X1 0 rfl rfl 3 (by decide +kernel) tw_465 rfl dX1_leastOfRest_52 ?_
              refine j_iload h 0 rfl dX1_leastOfRest_55 ?_
              refine jm_zald h 4 rfl v5_42_89089 rfl (by omega) (by omega) dX1_leastOfRest_57 ?_
              refine j_if_ne h 84 dX1_leastOfRest_58 (by decide) (fun z890397 => ?_) (fun z890397 => ?_)
              · show J x (mflat [(d, .inl (.inr (1, [.ref d0, .ref d1, .ref d2, .ref d3]))), (d0, .inl (.inl (kA 1, 10, .inl dus))), (d1, .inl (.inl (kA 1, 10, .inl fd1_5_89081))), (d2, .inl (.inl (kA 1, 10, .inl fd2_42_89089))), (d3, .inl (.inl (kA 3, 10, .inl dgv))), (s, .inl (.inr (5, [.ref s0, .ref s1, .ref s2, .ref s3, .ref s4, .ref s5, .ref s6, .ref s7, .ref s8, .ref s9, .ref s10, .ref s11, .int (nI sn), .int (nI sl), .int (nI se)]))), (s7, .inl (.inl (kA 1, 10, .inl sc7)))]) [(5, .int (nI v5_42_89089)), (4, .int (nI v4_42_89089)), (3, .int (nI v3_5_89081)), (0, .ref d), (1, .ref s), (2, .int (nI fr))] 0 0 84 []
                refine j_iinc (v := nI (v5_42_89089 + 1)) (lv' := [(5, .int (nI (v5_42_89089 + 1))), (4, .int (nI v4_42_89089)), (3, .int (nI v3_5_89081)), (0, .ref d), (1, .ref s), (2, .int (nI fr))]) h dX1_leastOfRest_84 0 rfl (nI_add v5_42_89089 1) (by decide) rfl ?_
                refine j_goto h 42 dX1_leastOfRest_87 (by decide) ?_
                refine jm_sub [0, 1, 2, 3, 4, 5, 6] (w' := [(d, .inl (.inr (1, [.ref d0, .ref d1, .ref d2, .ref d3]))), (d0, .inl (.inl (kA 1, 10, .inl dus))), (d1, .inl (.inl (kA 1, 10, .inl fd1_5_89081))), (d2, .inl (.inl (kA 1, 10, .inl fd2_42_89089))), (d3, .inl (.inl (kA 3, 10, .inl dgv))), (s, .inl (.inr (5, [.ref s0, .ref s1, .ref s2, .ref s3, .ref s4, .ref s5, .ref s6, .ref s7, .ref s8, .ref s9, .ref s10, .ref s11, .int (nI sn), .int (nI sl), .int (nI se)]))), (s7, .inl (.inl (kA 1, 10, .inl sc7)))]) rfl (by decide +kernel) [0, 1, 2, 3, 4, 5] (lv' := [(5, .int (nI (v5_42_89089 + 1))), (4, .int (nI v4_42_89089)), (3, .int (nI v3_5_89081)), (0, .ref d), (1, .ref s), (2, .int (nI fr))]) rfl ?_
                exact ih42_89089 (v5_42_89089 + 1) v4_42_89089 fd2_42_89089 (show v4_42_89089 ≤ v3_5_89081 by first | assumption | omega) (show (v5_42_89089 + 1) ≤ sl by first | assumption | omega) (show fr = 0 → v3_5_89081 = sl by first | assumption | omega) (show fr = 0 → (∀ i, i < sl → dgv i = 0) → v4_42_89089 = (v5_42_89089 + 1) ∧ EqTo (v5_42_89089 + 1) fd2_42_89089 sc7 from (fun h9 h8 => by first | exact absurd (h8 v5_42_89089 (by omega)) z890397 | (have e8 := (i42_89089_3 h9 h8).1; have e7 := i42_89089_2 h9; exfalso; omega))) (show (v5_42_89089 + 1) ≤ 100000 by first | assumption | omega) (show v4_42_89089 ≤ 100000 by first | assumption | omega) (show sl - (v5_42_89089 + 1) < m42_89089 by omega)
              · show J x (mflat [(d, .inl (.inr (1, [.ref d0, .ref d1, .ref d2, .ref d3]))), (d0, .inl (.inl (kA 1, 10, .inl dus))), (d1, .inl (.inl (kA 1, 10, .inl fd1_5_89081))), (d2, .inl (.inl (kA 1, 10, .inl fd2_42_89089))), (d3, .inl (.inl (kA 3, 10, .inl dgv))), (s, .inl (.inr (5, [.ref s0, .ref s1, .ref s2, .ref s3, .ref s4, .ref s5, .ref s6, .ref s7, .ref s8, .ref s9, .ref s10, .ref s11, .int (nI sn), .int (nI sl), .int (nI se)]))), (s7, .inl (.inl (kA 1, 10, .inl sc7)))]) [(5, .int (nI v5_42_89089)), (4, .int (nI v4_42_89089)), (3, .int (nI v3_5_89081)), (0, .ref d), (1, .ref s), (2, .int (nI fr))] 0 0 61 []
                refine j_iload h 1 rfl dX1_leastOfRest_61 ?_
                refine j_iload_n h 2 rfl rfl dX1_leastOfRest_63 ?_
                refine j_icmp_ge h 84 dX1_leastOfRest_64 (by decide) (fun z890398 => ?_) (fun z890398 => ?_)
                · have z890398n : v3_5_89081 ≤ v4_42_89089 := (nI_leI (a := v3_5_89081) (b := v4_42_89089) (by omega) (by omega)).mp z890398
                  refine j_iinc (v := nI (v5_42_89089 + 1)) (lv' := [(5, .int (nI (v5_42_89089 + 1))), (4, .int (nI v4_42_89089)), (3, .int (nI v3_5_89081)), (0, .ref d), (1, .ref s), (2, .int (nI fr))]) h dX1_leastOfRest_84 0 rfl (nI_add v5_42_89089 1) (by decide) rfl ?_
                  refine j_goto h 42 dX1_leastOfRest_87 (by decide) ?_
                  refine jm_sub [0, 1, 2, 3, 4, 5, 6] (w' := [(d, .inl (.inr (1, [.ref d0, .ref d1, .ref d2, .ref d3]))), (d0, .inl (.inl (kA 1, 10, .inl dus))), (d1, .inl (.inl (kA 1, 10, .inl fd1_5_89081))), (d2, .inl (.inl (kA 1, 10, .inl fd2_42_89089))), (d3, .inl (.inl (kA 3, 10, .inl dgv))), (s, .inl (.inr (5, [.ref s0, .ref s1, .ref s2, .ref s3, .ref s4, .ref s5, .ref s6, .ref s7, .ref s8, .ref s9, .ref s10, .ref s11, .int (nI sn), .int (nI sl), .int (nI se)]))), (s7, .inl (.inl (kA 1, 10, .inl sc7)))]) rfl (by decide +kernel) [0, 1, 2, 3, 4, 5] (lv' := [(5, .int (nI (v5_42_89089 + 1))), (4, .int (nI v4_42_89089)), (3, .int (nI v3_5_89081)), (0, .ref d), (1, .ref s), (2, .int (nI fr))]) rfl ?_
                  exact ih42_89089 (v5_42_89089 + 1) v4_42_89089 fd2_42_89089 (show v4_42_89089 ≤ v3_5_89081 by first | assumption | omega) (show (v5_42_89089 + 1) ≤ sl by first | assumption | omega) (show fr = 0 → v3_5_89081 = sl by first | assumption | omega) (show fr = 0 → (∀ i, i < sl → dgv i = 0) → v4_42_89089 = (v5_42_89089 + 1) ∧ EqTo (v5_42_89089 + 1) fd2_42_89089 sc7 from (fun h9 h8 => by first | exact absurd (h8 v5_42_89089 (by omega)) z890398 | (have e8 := (i42_89089_3 h9 h8).1; have e7 := i42_89089_2 h9; exfalso; omega))) (show (v5_42_89089 + 1) ≤ 100000 by first | assumption | omega) (show v4_42_89089 ≤ 100000 by first | assumption | omega) (show sl - (v5_42_89089 + 1) < m42_89089 by omega)
                · have z890398n : ¬ v3_5_89081 ≤ v4_42_89089 := fun q9 => z890398 ((nI_leI (a := v3_5_89081) (b := v4_42_89089) (by omega) (by omega)).mpr q9)
                  refine j_aload_n h 3 rfl rfl dX1_leastOfRest_67 ?_
                  refine jm_get h iw_X1 0 rfl rfl 2 (by decide +kernel) tw_464 rfl dX1_leastOfRest_68 ?_
                  refine j_iload h 1 rfl dX1_leastOfRest_71 ?_
                  refine j_aload_n h 4 rfl rfl dX1_leastOfRest_73 ?_
                  refine jm_get h iw_X5 5 rfl rfl 7 (by decide +kernel) tw_200 rfl dX1_leastOfRest_74 ?_
                  refine j_iload h 0 rfl dX1_leastOfRest_77 ?_
                  refine jm_iald h 6 rfl v5_42_89089 rfl (by omega) (by omega) dX1_leastOfRest_79 ?_
                  obtain ⟨t890399, u890400, u890401, u890402⟩ := (show LtOk sl sc7 by assumption) v5_42_89089 (by omega)
                  refine j_top (b := nI t890399) (u890402) ?_
                  refine jm_iast (w' := [(d, .inl (.inr (1, [.ref d0, .ref d1, .ref d2, .ref d3]))), (d0, .inl (.inl (kA 1, 10, .inl dus))), (d1, .inl (.inl (kA 1, 10, .inl fd1_5_89081))), (d2, .inl (.inl (kA 1, 10, .inl (upd fd2_42_89089 v4_42_89089 (nI t890399))))), (d3, .inl (.inl (kA 3, 10, .inl dgv))), (s, .inl (.inr (5, [.ref s0, .ref s1, .ref s2, .ref s3, .ref s4, .ref s5, .ref s6, .ref s7, .ref s8, .ref s9, .ref s10, .ref s11, .int (nI sn), .int (nI sl), .int (nI se)]))), (s7, .inl (.inl (kA 1, 10, .inl sc7)))]) h 3 rfl v4_42_89089 rfl (by omega) (by omega) dX1_leastOfRest_80 rfl ?_
                  refine j_iinc (v := nI (v4_42_89089 + 1)) (lv' := [(4, .int (nI (v4_42_89089 + 1))), (5, .int (nI v5_42_89089)), (3, .int (nI v3_5_89081)), (0, .ref d), (1, .ref s), (2, .int (nI fr))]) h dX1_leastOfRest_81 1 rfl (nI_add v4_42_89089 1) (by decide) rfl ?_
                  refine j_iinc (v := nI (v5_42_89089 + 1)) (lv' := [(5, .int (nI (v5_42_89089 + 1))), (4, .int (nI (v4_42_89089 + 1))), (3, .int (nI v3_5_89081)), (0, .ref d), (1, .ref s), (2, .int (nI fr))]) h dX1_leastOfRest_84 1 rfl (nI_add v5_42_89089 1) (by decide) rfl ?_
                  refine j_goto h 42 dX1_leastOfRest_87 (by decide) ?_
                  refine jm_sub [0, 1, 2, 3, 4, 5, 6] (w' := [(d, .inl (.inr (1, [.ref d0, .ref d1, .ref d2, .ref d3]))), (d0, .inl (.inl (kA 1, 10, .inl dus))), (d1, .inl (.inl (kA 1, 10, .inl fd1_5_89081))), (d2, .inl (.inl (kA 1, 10, .inl (upd fd2_42_89089 v4_42_89089 (nI t890399))))), (d3, .inl (.inl (kA 3, 10, .inl dgv))), (s, .inl (.inr (5, [.ref s0, .ref s1, .ref s2, .ref s3, .ref s4, .ref s5, .ref s6, .ref s7, .ref s8, .ref s9, .ref s10, .ref s11, .int (nI sn), .int (nI sl), .int (nI se)]))), (s7, .inl (.inl (kA 1, 10, .inl sc7)))]) rfl (by decide +kernel) [0, 1, 2, 3, 4, 5] (lv' := [(5, .int (nI (v5_42_89089 + 1))), (4, .int (nI (v4_42_89089 + 1))), (3, .int (nI v3_5_89081)), (0, .ref d), (1, .ref s), (2, .int (nI fr))]) rfl ?_
                  exact ih42_89089 (v5_42_89089 + 1) (v4_42_89089 + 1) (upd fd2_42_89089 v4_42_89089 (nI t890399)) (show (v4_42_89089 + 1) ≤ v3_5_89081 by first | assumption | omega) (show (v5_42_89089 + 1) ≤ sl by first | assumption | omega) (show fr = 0 → v3_5_89081 = sl by first | assumption | omega) (show fr = 0 → (∀ i, i < sl → dgv i = 0) → (v4_42_89089 + 1) = (v5_42_89089 + 1) ∧ EqTo (v5_42_89089 + 1) (upd fd2_42_89089 v4_42_89089 (nI t890399)) sc7 from (fun h9 h8 => by obtain ⟨e9, q9⟩ := i42_89089_3 h9 h8; refine ⟨by omega, ?_⟩; rw [e9]; exact EqTo_step q9 u890402)) (show (v5_42_89089 + 1) ≤ 100000 by first | assumption | omega) (show (v4_42_89089 + 1) ≤ 100000 by first | assumption | omega) (show sl - (v5_42_89089 + 1) < m42_89089 by omega)
        refine jm_sub [0, 1, 2, 3, 4, 5, 6] (w' := [(d, .inl (.inr (1, [.ref d0, .ref d1, .ref d2, .ref d3]))), (d0, .inl (.inl (kA 1, 10, .inl dus))), (d1, .inl (.inl (kA 1, 10, .inl fd1_5_89081))), (d2, .inl (.inl (kA 1, 10, .inl drt))), (d3, .inl (.inl (kA 3, 10, .inl dgv))), (s, .inl (.inr (5, [.ref s0, .ref s1, .ref s2, .ref s3, .ref s4, .ref s5, .ref s6, .ref s7, .ref s8, .ref s9, .ref s10, .ref s11, .int (nI sn), .int (nI sl), .int (nI se)]))), (s7, .inl (.inl (kA 1, 10, .inl sc7)))]) rfl (by decide +kernel) [0, 1, 2, 3, 4, 5] (lv' := [(5, .int 0), (4, .int 0), (3, .int (nI v3_5_89081)), (0, .ref d), (1, .ref s), (2, .int (nI fr))]) rfl ?_
        exact lp42_89089 (sl - 0 + 1) 0 0 drt (show 0 ≤ v3_5_89081 by first | assumption | omega) (show 0 ≤ sl by first | assumption | omega) (show fr = 0 → v3_5_89081 = sl from (fun h9 => by have z9 := i5_89081_3 (by omega); omega)) (show fr = 0 → (∀ i, i < sl → dgv i = 0) → 0 = 0 ∧ EqTo 0 drt sc7 from (fun _ _ => ⟨rfl, EqTo_0 _ _⟩)) (show 0 ≤ 100000 by first | assumption | omega) (show 0 ≤ 100000 by first | assumption | omega) (Nat.lt_succ_self _)
      · have z890345n : ¬ sl ≤ v4_5_89081 := fun q9 => z890345 ((nI_leI (a := sl) (b := v4_5_89081) (by omega) (by omega)).mpr q9)
        refine j_aload_n h 2 rfl rfl dX1_leastOfRest_14 ?_
        refine jm_get h iw_X1 0 rfl rfl 1 (by decide +kernel) tw_463 rfl dX1_leastOfRest_15 ?_
        refine j_iload_n h 1 rfl rfl dX1_leastOfRest_18 ?_
        refine j_aload_n h 2 rfl rfl dX1_leastOfRest_19 ?_
        refine jm_get h iw_X1 0 rfl rfl 0 (by decide +kernel) tw_462 rfl dX1_leastOfRest_20 ?_
        refine j_iload h 0 rfl dX1_leastOfRest_23 ?_
        refine jm_iald h 1 rfl v4_5_89081 rfl (by omega) (by omega) dX1_leastOfRest_25 ?_
        refine jm_iast (w' := [(d, .inl (.inr (1, [.ref d0, .ref d1, .ref d2, .ref d3]))), (d0, .inl (.inl (kA 1, 10, .inl dus))), (d1, .inl (.inl (kA 1, 10, .inl (upd fd1_5_89081 v3_5_89081 (dus v4_5_89081))))), (d2, .inl (.inl (kA 1, 10, .inl drt))), (d3, .inl (.inl (kA 3, 10, .inl dgv))), (s, .inl (.inr (5, [.ref s0, .ref s1, .ref s2, .ref s3, .ref s4, .ref s5, .ref s6, .ref s7, .ref s8, .ref s9, .ref s10, .ref s11, .int (nI sn), .int (nI sl), .int (nI se)]))), (s7, .inl (.inl (kA 1, 10, .inl sc7)))]) h 2 rfl v3_5_89081 rfl (by omega) (by omega) dX1_leastOfRest_26 rfl ?_
        refine j_iinc (v := nI (v3_5_89081 + 1)) (lv' := [(3, .int (nI (v3_5_89081 + 1))), (4, .int (nI v4_5_89081)), (0, .ref d), (1, .ref s), (2, .int (nI fr))]) h dX1_leastOfRest_27 1 rfl (nI_add v3_5_89081 1) (by decide) rfl ?_
        refine j_iinc (v := nI (v4_5_89081 + 1)) (lv' := [(4, .int (nI (v4_5_89081 + 1))), (3, .int (nI (v3_5_89081 + 1))), (0, .ref d), (1, .ref s), (2, .int (nI fr))]) h dX1_leastOfRest_30 1 rfl (nI_add v4_5_89081 1) (by decide) rfl ?_
        refine j_goto h 5 dX1_leastOfRest_33 (by decide) ?_
        refine jm_sub [0, 1, 2, 3, 4, 5, 6] (w' := [(d, .inl (.inr (1, [.ref d0, .ref d1, .ref d2, .ref d3]))), (d0, .inl (.inl (kA 1, 10, .inl dus))), (d1, .inl (.inl (kA 1, 10, .inl (upd fd1_5_89081 v3_5_89081 (dus v4_5_89081))))), (d2, .inl (.inl (kA 1, 10, .inl drt))), (d3, .inl (.inl (kA 3, 10, .inl dgv))), (s, .inl (.inr (5, [.ref s0, .ref s1, .ref s2, .ref s3, .ref s4, .ref s5, .ref s6, .ref s7, .ref s8, .ref s9, .ref s10, .ref s11, .int (nI sn), .int (nI sl), .int (nI se)]))), (s7, .inl (.inl (kA 1, 10, .inl sc7)))]) rfl (by decide +kernel) [0, 1, 2, 3, 4] (lv' := [(4, .int (nI (v4_5_89081 + 1))), (3, .int (nI (v3_5_89081 + 1))), (0, .ref d), (1, .ref s), (2, .int (nI fr))]) rfl ?_
        exact ih5_89081 (v4_5_89081 + 1) (v3_5_89081 + 1) (upd fd1_5_89081 v3_5_89081 (dus v4_5_89081)) (show (v3_5_89081 + 1) + fr = (v4_5_89081 + 1) by first | assumption | omega) (show (v4_5_89081 + 1) ≤ 10 by first | assumption | omega) (show EqTo (v3_5_89081 + 1) (upd fd1_5_89081 v3_5_89081 (dus v4_5_89081)) (fun j => dus (fr + j)) from EqTo_step (by assumption) (congrArg dus (by omega))) (show fr ≤ sl → (v4_5_89081 + 1) ≤ sl by first | assumption | omega) (show (v4_5_89081 + 1) ≤ 100000 by first | assumption | omega) (show (v3_5_89081 + 1) ≤ 100000 by first | assumption | omega) (show 100001 - (v4_5_89081 + 1) < m5_89081 by first | exact Nat.lt_of_lt_of_le (Nat.sub_lt_sub_left (Nat.lt_of_le_of_lt (show v4_5_89081 ≤ 100000 by assumption) (Nat.lt_succ_self 100000)) (Nat.lt_succ_self v4_5_89081)) (Nat.le_of_lt_succ hm5_89081) | omega)
  refine jm_sub [0, 1, 2, 3, 4, 5, 6] (w' := [(d, .inl (.inr (1, [.ref d0, .ref d1, .ref d2, .ref d3]))), (d0, .inl (.inl (kA 1, 10, .inl dus))), (d1, .inl (.inl (kA 1, 10, .inl dru))), (d2, .inl (.inl (kA 1, 10, .inl drt))), (d3, .inl (.inl (kA 3, 10, .inl dgv))), (s, .inl (.inr (5, [.ref s0, .ref s1, .ref s2, .ref s3, .ref s4, .ref s5, .ref s6, .ref s7, .ref s8, .ref s9, .ref s10, .ref s11, .int (nI sn), .int (nI sl), .int (nI se)]))), (s7, .inl (.inl (kA 1, 10, .inl sc7)))]) rfl (by decide +kernel) [0, 1, 2, 3, 4] (lv' := [(4, .int (nI fr)), (3, .int 0), (0, .ref d), (1, .ref s), (2, .int (nI fr))]) rfl ?_
  exact lp5_89081 (100001 - fr + 1) fr 0 dru (show 0 + fr = fr by first | assumption | omega) (show fr ≤ 10 by first | assumption | omega) (show EqTo 0 dru (fun j => dus (fr + j)) from EqTo_0 _ _) (show fr ≤ sl → fr ≤ sl from (fun h9 => h9)) (show fr ≤ 100000 by first | assumption | omega) (show 0 ≤ 100000 by first | assumption | omega) (Nat.lt_succ_self _)
