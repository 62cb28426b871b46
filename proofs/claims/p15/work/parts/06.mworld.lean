abbrev mE : Type := va_E ⊕ (ClassId × ClassId × Nat × Nat × ((Nat → Nat → Int32) ⊕ (Nat → Nat → Int64)))
abbrev mW : Type := List (Nat × mE)
def mrow (cy : ClassId) (K : Nat) (F : (Nat → Nat → Int32) ⊕ (Nat → Nat → Int64)) (k : Nat) : va_E := .inl (cy, (K, match F with | .inl f => .inl (f k) | .inr f => .inr (.inl (f k))))
def mflat1 : Nat × mE → va_W
  | (a, .inl e) => [(a, e)]
  | (a, .inr (cO, cy, N, K, F)) => (a, .inl (cO, N, .inr (.inr (.inr (.inr (nx_q a N)))))) :: (List.range N).map (fun i => (a + 1 + i, mrow cy K F i))
def mflat (w : mW) : va_W := w.flatMap mflat1
def mpos (w : mW) (i : Nat) : Nat := (mflat (w.take i)).length
theorem mflat_app (a b : mW) : mflat (a ++ b) = mflat a ++ mflat b := List.flatMap_append
theorem mflat_cons (q : Nat × mE) (w : mW) : mflat (q :: w) = mflat1 q ++ mflat w := rfl
theorem mflat_split {w : mW} {i : Nat} {q : Nat × mE} (h : w[i]? = some q) : ∃ post : mW, w = w.take i ++ (q :: post) ∧ ∀ q', w.set i q' = w.take i ++ (q' :: post) := by
  obtain ⟨hl, hq⟩ := List.getElem?_eq_some_iff.mp h
  refine ⟨w.drop (i + 1), ?_, fun q' => ?_⟩
  · have h1 := (List.take_append_drop i w).symm
    rw [List.drop_eq_getElem_cons hl, hq] at h1
    exact h1
  · rw [List.set_eq_take_append_cons_drop, if_pos hl]
theorem mflat_len {w : mW} {i : Nat} : (mflat (w.take i)).length = mpos w i := rfl
/-- a cell: its place, and what a change of it is -/
theorem mflat_at {w : mW} {i a : Nat} {e : va_E} (h : w[i]? = some (a, .inl e)) : (mflat w)[mpos w i]? = some (a, e) ∧ ∀ e' : va_E, (mflat w).set (mpos w i) (a, e') = mflat (w.set i (a, .inl e')) := by
  obtain ⟨post, h1, h2⟩ := mflat_split h
  have h3 : mflat w = mflat (w.take i) ++ ((a, e) :: mflat post) := by
    rw [congrArg mflat h1, mflat_app]
    rfl
  refine ⟨?_, fun e' => ?_⟩
  · rw [h3, List.getElem?_append_right (by rw [mflat_len]; exact Nat.le_refl _)]
    show ((a, e) :: mflat post)[mpos w i - mpos w i]? = _
    rw [Nat.sub_self]
    rfl
  · rw [h2, mflat_app, h3, List.set_append_right _ _ (by rw [mflat_len]; exact Nat.le_refl _)]
    show _ ++ ((a, e) :: mflat post).set (mpos w i - mpos w i) (a, e') = _
    rw [Nat.sub_self]
    rfl
def mset (F : (Nat → Nat → Int32) ⊕ (Nat → Nat → Int64)) (G : (Nat → Nat → Int32) ⊕ (Nat → Nat → Int64)) (k : Nat) : Prop := ∀ cy K j, j ≠ k → mrow cy K F j = mrow cy K G j
/-- a row of an array of arrays -/
theorem mflat_row {w : mW} {i a N K : Nat} {cO cy : ClassId} {F : (Nat → Nat → Int32) ⊕ (Nat → Nat → Int64)} (h : w[i]? = some (a, .inr (cO, cy, N, K, F))) {k : Nat} (hk : k < N) : (mflat w)[mpos w i + 1 + k]? = some (a + 1 + k, mrow cy K F k) ∧
    ∀ G, mset F G k → (mflat w).set (mpos w i + 1 + k) (a + 1 + k, mrow cy K G k) = mflat (w.set i (a, .inr (cO, cy, N, K, G))) := by
  obtain ⟨post, h1, h2⟩ := mflat_split h
  have h3 : ∀ G : (Nat → Nat → Int32) ⊕ (Nat → Nat → Int64), mflat (w.take i ++ ((a, .inr (cO, cy, N, K, G)) :: post)) = mflat (w.take i) ++ ((a, .inl (cO, N, .inr (.inr (.inr (.inr (nx_q a N)))))) :: ((List.range N).map (fun i => ((a + 1 + i, mrow cy K G i) : Nat × va_E)) ++ mflat post)) := fun G => by
    rw [mflat_app]
    rfl
  have h4 := congrArg mflat h1
  rw [h3] at h4
  have hlen : ((List.range N).map (fun i => ((a + 1 + i, mrow cy K F i) : Nat × va_E))).length = N := by rw [List.length_map, List.length_range]
  have e0 : mpos w i + 1 + k - (mflat (w.take i)).length = k + 1 := by rw [mflat_len]; omega
  refine ⟨?_, fun G hG => ?_⟩
  · rw [h4, List.getElem?_append_right (by rw [mflat_len]; omega), e0, List.getElem?_cons_succ, List.getElem?_append_left (by rw [hlen]; exact hk), List.getElem?_map, List.getElem?_range hk]
    rfl
  · rw [h2, h3, h4, List.set_append_right _ _ (by rw [mflat_len]; omega), e0, List.set_cons_succ, List.set_append_left _ _ (by rw [hlen]; exact hk)]
    congr 3
    apply List.ext_getElem?
    intro j
    by_cases hj : j = k
    · subst hj
      rw [List.getElem?_set_self (by rw [hlen]; exact hk), List.getElem?_map, List.getElem?_range hk]
      rfl
    · rw [List.getElem?_set_ne (Ne.symm hj), List.getElem?_map, List.getElem?_map]
      rcases Nat.lt_or_ge j N with q | q
      · rw [List.getElem?_range q]
        show some ((a + 1 + j, mrow cy K F j) : Nat × va_E) = some (a + 1 + j, mrow cy K G j)
        rw [hG cy K j hj]
      · rw [List.getElem?_eq_none (by rw [List.length_range]; exact q)]
        rfl
theorem mflat_outer {w : mW} {i a N K : Nat} {cO cy : ClassId} {F : (Nat → Nat → Int32) ⊕ (Nat → Nat → Int64)} (h : w[i]? = some (a, .inr (cO, cy, N, K, F))) : (mflat w)[mpos w i]? = some (a, .inl (cO, N, .inr (.inr (.inr (.inr (nx_q a N)))))) := by
  obtain ⟨post, h1, -⟩ := mflat_split h
  have h4 := congrArg mflat h1
  rw [mflat_app] at h4
  rw [h4, List.getElem?_append_right (by rw [mflat_len]; exact Nat.le_refl _)]
  show (_ :: _)[mpos w i - mpos w i]? = _
  rw [Nat.sub_self]
  rfl
/-- the places of a choice of elements -/
def mps (w : mW) (i : Nat) : List Nat := List.range' (mpos w i) (mflat1 (w.getD i (0, .inl (.inr (0, []))))).length
theorem mps_seg {w : mW} {i : Nat} {q : Nat × mE} (h : w[i]? = some q) : (mps w i).map (fun k => (mflat w)[k]?) = (mflat1 q).map some := by
  obtain ⟨post, h1, -⟩ := mflat_split h
  have h4 := congrArg mflat h1
  rw [mflat_app, mflat_cons] at h4
  have hq : w.getD i (0, .inl (.inr (0, []))) = q := by rw [List.getD_eq_getElem?_getD, h]; rfl
  unfold mps
  rw [hq, h4]
  apply List.ext_getElem?
  intro j
  rw [List.getElem?_map, List.getElem?_map]
  rcases Nat.lt_or_ge j (mflat1 q).length with hj | hj
  · rw [List.getElem?_range' hj, List.getElem?_eq_getElem hj]
    show some ((mflat (w.take i) ++ (mflat1 q ++ mflat post))[mpos w i + 1 * j]?) = some (some _)
    rw [Nat.one_mul, List.getElem?_append_right (by rw [mflat_len]; omega), mflat_len, Nat.add_sub_cancel_left, List.getElem?_append_left hj, List.getElem?_eq_getElem hj]
  · rw [List.getElem?_eq_none (by rw [List.length_range']; exact hj), List.getElem?_eq_none hj]
    rfl
theorem mps_map {w : mW} : ∀ {is : List Nat} {w' : mW}, is.map (fun i => w[i]?) = w'.map some → (is.flatMap (mps w)).map (fun k => (mflat w)[k]?) = (mflat w').map some
  | [], [], _ => rfl
  | [], _ :: _, h => by cases h
  | _ :: _, [], h => by cases h
  | i :: is, q :: w', h => by
    have h1 : w[i]? = some q := (List.cons.inj h).1
    have h2 : is.map (fun i => w[i]?) = w'.map some := (List.cons.inj h).2
    rw [List.flatMap_cons, List.map_append, mps_seg h1, mps_map h2, mflat_cons, List.map_append]
theorem map_filterMap {α β : Type} {f : α → Option β} : ∀ {l : List α} {r : List β}, l.map f = r.map some → l.filterMap f = r
  | [], [], _ => rfl
  | [], _ :: _, h => by cases h
  | _ :: _, [], h => by cases h
  | a :: l, b :: r, h => by
    have h1 : f a = some b := (List.cons.inj h).1
    rw [List.filterMap_cons_some h1, map_filterMap (List.cons.inj h).2]
theorem mpos_step {w : mW} {i : Nat} {q : Nat × mE} (h : w[i]? = some q) : mpos w (i + 1) = mpos w i + (mflat1 q).length := by
  unfold mpos
  rw [List.take_add_one, h, mflat_app, List.length_append]
  show _ + (mflat [q]).length = _
  rw [show mflat [q] = mflat1 q from List.append_nil _]
theorem mpos_mono {w : mW} {i j : Nat} (h : i ≤ j) : mpos w i ≤ mpos w j := by
  induction h with
  | refl => exact Nat.le_refl _
  | step h ih =>
    rename_i j
    rcases hq : w[j]? with _ | q
    · refine Nat.le_trans ih ?_
      unfold mpos
      rw [List.take_add_one, hq]
      exact Nat.le_of_eq (by simp)
    · rw [Nat.succ_eq_add_one, mpos_step hq]
      omega
theorem mps_in {w : mW} {i k : Nat} {q : Nat × mE} (h : w[i]? = some q) (hk : k ∈ mps w i) : mpos w i ≤ k ∧ k < mpos w (i + 1) := by
  have hq : w.getD i (0, .inl (.inr (0, []))) = q := by rw [List.getD_eq_getElem?_getD, h]; rfl
  unfold mps at hk
  rw [hq, List.mem_range'_1] at hk
  rw [mpos_step h]
  exact hk
theorem mps_apart {w : mW} {i j k : Nat} {q r : Nat × mE} (hi : w[i]? = some q) (hj : w[j]? = some r) (hne : i ≠ j) (h1 : k ∈ mps w i) (h2 : k ∈ mps w j) : False := by
  have a := mps_in hi h1
  have b := mps_in hj h2
  rcases Nat.lt_or_gt_of_ne hne with q | q
  · have := mpos_mono (w := w) (show i + 1 ≤ j from q)
    omega
  · have := mpos_mono (w := w) (show j + 1 ≤ i from q)
    omega
theorem nd_nodup : ∀ {l : List Nat}, va_nd l = true ↔ l.Nodup
  | [] => by simp [va_nd]
  | a :: l => by simp [va_nd, nd_nodup (l := l)]
theorem mem_some {w : mW} : ∀ {is : List Nat} {w' : mW}, is.map (fun i => w[i]?) = w'.map some → ∀ i ∈ is, ∃ q, w[i]? = some q
  | [], _, _, i, hi => by cases hi
  | _ :: _, [], h, _, _ => by cases h
  | i :: is, q :: w', h, k, hk => by
    rcases List.mem_cons.mp hk with e | hk
    · subst e
      exact ⟨q, (List.cons.inj h).1⟩
    · exact mem_some (List.cons.inj h).2 k hk
theorem mps_nd {w : mW} : ∀ {is : List Nat} {w' : mW}, is.map (fun i => w[i]?) = w'.map some → va_nd is = true → va_nd (is.flatMap (mps w)) = true
  | [], _, _, _ => rfl
  | _ :: _, [], h, _ => by cases h
  | i :: is, q :: w', h, hn => by
    rw [nd_nodup, List.nodup_cons] at hn
    have h1 : w[i]? = some q := (List.cons.inj h).1
    have h2 := (List.cons.inj h).2
    rw [nd_nodup, List.flatMap_cons, List.nodup_append]
    refine ⟨List.nodup_range', nd_nodup.mp (mps_nd h2 (nd_nodup.mpr hn.2)), fun a ha b hb hab => ?_⟩
    subst hab
    obtain ⟨j, hj, hb⟩ := List.mem_flatMap.mp hb
    obtain ⟨r, hr⟩ := mem_some h2 j hj
    exact mps_apart h1 hr (fun e => hn.1 (e ▸ hj)) ha hb
theorem mps_dis {w : mW} {isC isR : List Nat} {wc wr : mW} (hC : isC.map (fun i => w[i]?) = wc.map some) (hR : isR.map (fun i => w[i]?) = wr.map some) (hd : ∀ i ∈ isR, i ∉ isC) : ∀ i ∈ isR.flatMap (mps w), i ∉ isC.flatMap (mps w) := by
  intro k h1 h2
  obtain ⟨i, hi, h1⟩ := List.mem_flatMap.mp h1
  obtain ⟨j, hj, h2⟩ := List.mem_flatMap.mp h2
  obtain ⟨q, hq⟩ := mem_some hR i hi
  obtain ⟨r, hr⟩ := mem_some hC j hj
  exact mps_apart hq hr (fun e => hd i hi (e ▸ hj)) h1 h2
