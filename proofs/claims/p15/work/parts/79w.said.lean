def wtS (D cs : Nat → Nat → Nat) (w : Nat → Int64) (l m f : Nat) : Int := if aS D l f = 0 ∨ 0 < cs l m then 0 else (w (2 * (m + D 4 l) + (aS D l f - 1))).toInt
def WsA (D cs : Nat → Nat → Nat) (L T : Nat) (w : Nat → Int64) (lo fo : Nat) : Prop := ∀ m f, m ≤ T → f ≤ 1 → (lo ≤ m ∨ (m + 1 = lo ∧ f < fo)) → In15 (w (2 * m + f)) ∧ (w (2 * m + f)).toInt = if m = T then 1 else capI (sI (fun l => wtS D cs w l m f) L)
def WsC (D cs : Nat → Nat → Nat) (T : Nat) (w : Nat → Int64) (m f k : Nat) : Prop := In15 (w (2 * m + f)) ∧ (w (2 * m + f)).toInt = if m = T then 1 else capI (sI (fun l => wtS D cs w l m f) k)
section WS
variable {D cs : Nat → Nat → Nat} {L T m f k l n i j g c y lo fo : Nat} {w : Nat → Int64} {v : Int64} 
theorem wtS_up (hm : i ≤ 2 * m + 1) (h1 : 1 ≤ D 4 l) : wtS D cs (vp_updL w i v) l m f = wtS D cs w l m f := by
  unfold wtS
  by_cases z : aS D l f = 0 ∨ 0 < cs l m
  · rw [if_pos z, if_pos z]
  · rw [if_neg z, if_neg z, pk_uLn (by omega)]
theorem WsA_0 : WsA D cs L T w (T + 1) 0 := fun m f h1 h2 h3 => by omega
theorem sI_ws (hD : DOk D) (hL : k ≤ D 0 0) (hm : i ≤ 2 * m + 1) : sI (fun l => wtS D cs (vp_updL w i v) l m f) k = sI (fun l => wtS D cs w l m f) k := sI_cg (fun l hl => wtS_up hm (hD.2.2.2.1 _ (by omega)).1)
theorem WsA_up (hD : DOk D) (hL : L = D 0 0) (hf : f ≤ 1) (h : WsA D cs L T w (m + 1) f) : WsA D cs L T (vp_updL w (2 * m + f) v) (m + 1) f := fun m' f' h1 h2 h3 => by
  have q := h m' f' h1 h2 h3
  rw [pk_uLn (by omega)]
  refine ⟨q.1, ?_⟩
  rw [q.2, sI_ws hD (by omega) (by omega)]
theorem WsC_1 (hm : m = T) : WsC D cs T (vp_updL w (2 * m + f) 1) m f 0 := by
  unfold WsC
  rw [pk_uLs, if_pos hm]
  exact ⟨⟨by decide, by decide⟩, by decide⟩
theorem WsC_0 (hm : ¬ m = T) : WsC D cs T (vp_updL w (2 * m + f) 0) m f 0 := by
  unfold WsC
  rw [pk_uLs, if_neg hm]
  exact ⟨In15_0, show Int64.toInt 0 = capI 0 by decide⟩
theorem WsC_z (h : WsC D cs T w m f k) (hz : aS D k f = 0 ∨ 0 < cs k m) : WsC D cs T w m f (k + 1) := by
  refine ⟨h.1, ?_⟩
  rw [h.2]
  have e : sI (fun l => wtS D cs w l m f) (k + 1) = sI (fun l => wtS D cs w l m f) k := by
    show _ + wtS D cs w k m f = _
    unfold wtS
    rw [if_pos hz, Int.add_zero]
  rw [e]
theorem wtS_b (hw : ∀ g c, g ≤ 1 → 1 ≤ c → m + c ≤ T → In15 (w (2 * (m + c) + g))) (h1 : 1 ≤ D 4 l) (hc : cs l m = 0 → m + D 4 l ≤ T) (hf : f ≤ 1) : 0 ≤ wtS D cs w l m f := by
  unfold wtS
  by_cases z : aS D l f = 0 ∨ 0 < cs l m
  · rw [if_pos z]
    exact Int.le_refl 0
  · rw [if_neg z]
    have := ftk_le (g := D 6 l) (m := f + 1) (by omega)
    exact (hw _ _ (by unfold aS; omega) h1 (hc (by omega))).1
theorem WsC_p (hD : DOk D) (hL : L = D 0 0) (hk : k < L) (hf : f ≤ 1) (ha : WsA D cs L T w (m + 1) f) (h : WsC D cs T w m f k) (hm : m < T) (hcs : ∀ l, l < L → cs l m = 0 → m + D 4 l ≤ T) (hg : g + 1 = aS D k f) (hc : cs k m = 0) : WsC D cs T (vp_updL w (2 * m + f) (lsV (w (2 * m + f) + w (2 * (m + D 4 k) + g)))) m f (k + 1) := by
  have fl := ftk_le (g := D 6 k) (m := f + 1) (by omega)
  have g1 : g ≤ 1 := by unfold aS at hg; omega
  have hw : ∀ g c, g ≤ 1 → 1 ≤ c → m + c ≤ T → In15 (w (2 * (m + c) + g)) := fun g c h1 h2 h3 => (ha (m + c) g h3 h1 (Or.inl (by omega))).1
  have l1 := (hD.2.2.2.1 k (by omega)).1
  have nx := hw g (D 4 k) g1 l1 (hcs k hk hc)
  have nn : 0 ≤ sI (fun l => wtS D cs w l m f) k := sI_nn (fun l hl => wtS_b hw (hD.2.2.2.1 _ (by omega)).1 (hcs l (by omega)) hf)
  have ev : wtS D cs w k m f = (w (2 * (m + D 4 k) + g)).toInt := by
    unfold wtS
    rw [if_neg (by omega), show aS D k f - 1 = g by omega]
  have e2 : (lsV (w (2 * m + f) + w (2 * (m + D 4 k) + g))).toInt = capI (sI (fun l => wtS D cs w l m f) (k + 1)) := by
    have q := h.2
    rw [if_neg (by omega)] at q
    show _ = capI (sI (fun l => wtS D cs w l m f) k + wtS D cs w k m f)
    rw [ev, ← cap_cap nn nx.1, ← q, ← wl_add h.1.1 h.1.2 nx.1 nx.2]
    exact lsV_toInt _
  unfold WsC
  rw [pk_uLs, sI_ws hD (by omega) (by omega), if_neg (by omega)]
  refine ⟨?_, e2⟩
  unfold In15
  rw [e2]
  refine cap_in (sI_nn (fun l hl => wtS_b hw (hD.2.2.2.1 _ (by omega)).1 (hcs l (by omega)) hf))
theorem WsC_all (h : WsC D cs T w m f k) (hk : k = L ∨ m = T) : WsC D cs T w m f L := by
  rcases hk with e | e
  · rw [← e]
    exact h
  · refine ⟨h.1, ?_⟩
    rw [h.2, if_pos e, if_pos e]
theorem WsA_f (h : WsA D cs L T w (m + 1) f) (hc : WsC D cs T w m f L) : WsA D cs L T w (m + 1) (f + 1) := fun m' f' h1 h2 h3 => by
  by_cases e : m' = m ∧ f' = f
  · obtain ⟨rfl, rfl⟩ := e
    exact hc
  · exact h m' f' h1 h2 (by omega)
theorem WsA_m (h : WsA D cs L T w (m + 1) f) (hf : 2 ≤ f) (hy : y = m) : WsA D cs L T w y 0 := fun m' f' h1 h2 h3 => h m' f' h1 h2 (by omega)
theorem WsA_Rc (h : WsA D cs L T w 0 0) (hc : ∀ l m, l < L → m < T → cs l m = 0 ∨ cs l m = 100) : RcE L T 0 (D 4) (aS D) cs (fun _ f t => (w (2 * t + f)).toInt) := fun q f t hq hf ht => by
  have e := (h t f ht hf (Or.inl (Nat.zero_le t))).2
  show (w (2 * t + f)).toInt = _
  rw [e]
  by_cases z : t = T
  · rw [if_pos z, if_pos z]
  · rw [if_neg z, if_neg z]
    refine congrArg capI (sI_cg (fun l hl => ?_))
    show wtS D cs w l t f = if aS D l f = 0 ∨ q < cs l t then 0 else (w (2 * (t + D 4 l) + (aS D l f - 1))).toInt
    have q0 : q = 0 := by omega
    rw [q0]
    rfl
end WS
def csG (lo fl sd tk : Nat → Int32) (a b T s m : Nat) : Nat := if m + tkN tk s ≤ T ∧ suN lo fl sd s m a b (tkN tk s) = 1 then 0 else 100
section GO
variable {D : Nat → Nat → Nat} {kd tk lo fl sd : Nat → Int32} {E h g : Nat → Nat} {a b T s m f n c y : Nat}
theorem canB_f : ∀ q, q < 4 → ∀ f, f < 2 → (canB (nI q) f = 1 ↔ ¬ ftk q (f + 1) = 0) ∧ (¬ ftk q (f + 1) = 0 → trn (nI q) f + 1 = ftk q (f + 1)) := fun q hq f hf => by
  rcases (show q = 0 ∨ q = 1 ∨ q = 2 ∨ q = 3 by omega) with rfl | rfl | rfl | rfl <;> rcases (show f = 0 ∨ f = 1 by omega) with rfl | rfl <;> decide
theorem csG_c (ht : ∀ s, s < n → tkN tk s = D 4 s) : ∀ s, s < n → csG lo fl sd tk a b T s m = 0 → m + D 4 s ≤ T := fun s hs h => by
  unfold csG at h
  by_cases q : m + tkN tk s ≤ T ∧ suN lo fl sd s m a b (tkN tk s) = 1
  · rw [← ht s hs]
    exact q.1
  · rw [if_neg q] at h
    exact absurd h (by decide)
theorem go_1 (hk : kd s = nI (D 6 s)) (h3 : D 6 s ≤ 3) (hf : f ≤ 1) (h : goN kd tk lo fl sd a b T s m f = 1) : csG lo fl sd tk a b T s m = 0 ∧ trn (kd s) f + 1 = aS D s f := by
  unfold goN at h
  have cf := canB_f (D 6 s) (by omega) f (by omega)
  by_cases q : canB (kd s) f = 1
  · rw [if_pos q] at h
    rw [hk] at q ⊢
    by_cases z : m + tkN tk s ≤ T
    · rw [if_pos z] at h
      exact ⟨if_pos ⟨z, h⟩, cf.2 (cf.1.mp q)⟩
    · rw [if_neg z] at h
      exact absurd h (by decide)
  · rw [if_neg q] at h
    exact absurd h (by decide)
theorem go_0 (hk : kd s = nI (D 6 s)) (h3 : D 6 s ≤ 3) (hf : f ≤ 1) (h : ¬ goN kd tk lo fl sd a b T s m f = 1) : aS D s f = 0 ∨ 0 < csG lo fl sd tk a b T s m := by
  have cf := canB_f (D 6 s) (by omega) f (by omega)
  by_cases w : aS D s f = 0
  · exact Or.inl w
  · refine Or.inr ?_
    unfold csG
    by_cases q : m + tkN tk s ≤ T ∧ suN lo fl sd s m a b (tkN tk s) = 1
    · refine absurd ?_ h
      unfold goN
      rw [if_pos (by rw [hk]; exact cf.1.mpr w), if_pos q.1]
      exact q.2
    · rw [if_neg q]
      decide
theorem csG_z : csG lo fl sd tk a b T s m = 0 ∨ csG lo fl sd tk a b T s m = 100 := by
  unfold csG
  split
  · exact Or.inl rfl
  · exact Or.inr rfl
/-- the reference's suits -/
theorem su_all : ∀ (r d : Nat), (itV (suG sd m) r d 1 ≤ 1) ∧ (itV (suG sd m) r d 1 = 1 ↔ ∀ k, d ≤ k → k < d + r → sd (m + k) = 0 ∧ sd (60 + m + k) = 0) := fun r d => by
  have g1 : ∀ e, suG sd m e 1 ≤ 1 ∧ (suG sd m e 1 = 1 ↔ sd (m + e) = 0 ∧ sd (60 + m + e) = 0) := fun e => by
    unfold suG
    rw [if_neg (by decide)]
    by_cases q : sd (m + e) = 0
    · rw [if_pos q]
      by_cases z : sd (60 + m + e) = 0
      · rw [if_pos z]
        exact ⟨Nat.le_refl 1, fun _ => ⟨q, z⟩, fun _ => rfl⟩
      · rw [if_neg z]
        exact ⟨by decide, fun y => absurd y (by decide), fun y => absurd y.2 z⟩
    · rw [if_neg q]
      exact ⟨by decide, fun y => absurd y (by decide), fun y => absurd y.1 q⟩
  have a := itV_all (g := suG sd m) (fun d => su_a rfl) r d (fun e _ _ => (g1 e).1)
  exact ⟨a.1, a.2.trans ⟨fun q k h1 h2 => (g1 k).2.mp (q k h1 h2), fun q k h1 h2 => (g1 k).2.mpr (q k h1 h2)⟩⟩
theorem csG_su (hE : ∀ k, k < D 0 0 → lo k = nI (E k) ∧ E k ≤ 9) (hD : DOk D) (hs : s < D 0 0) (ht : tkN tk s = D 4 s) (ha : a < D 0 2) (hb : b < D 0 2) (hfa : fl a = nI (D 9 a)) (hfb : fl b = nI (D 9 b)) (h1 : ∀ k, k < T → sd k = nI (h k) ∧ h k ≤ 9) (h2 : ∀ k, k < T → sd (60 + k) = nI (g k) ∧ g k ≤ 9) : csG lo fl sd tk a b T s m = 0 ↔ m + D 4 s ≤ T ∧ suP D E h g a b s m := by
  have d1 := hD.1
  have t1 := (hD.2.2.2.1 s hs).1
  have e9 := (hE s hs).2
  unfold csG
  rw [ht]
  by_cases q : m + D 4 s ≤ T
  · have va : hearI lo fl a (pm (s + 1)) = nI (E s - D 9 a) := by
      rw [hearI_hr (fun k hk => hE k (by omega)) hfa (hD.2.2.2.2.2.1 a ha) (by omega), hrN_s]
    have vb : hearI lo fl b (pm (s + 1)) = nI (E s - D 9 b) := by
      rw [hearI_hr (fun k hk => hE k (by omega)) hfb (hD.2.2.2.2.2.1 b hb) (by omega), hrN_s]
    have m1 := h1 m (by omega)
    have m2 := h2 m (by omega)
    have key : suN lo fl sd s m a b (D 4 s) = 1 ↔ suP D E h g a b s m := by
      unfold suN suP
      rw [va, vb, m1.1, m2.1]
      have qa : (nI (E s - D 9 a) = nI (h m)) ↔ E s - D 9 a = h m := ⟨fun z => (nI_eq (by omega) (by omega)).mp z, fun z => by rw [z]⟩
      have qb : (nI (E s - D 9 b) = nI (g m)) ↔ E s - D 9 b = g m := ⟨fun z => (nI_eq (by omega) (by omega)).mp z, fun z => by rw [z]⟩
      by_cases za : E s - D 9 a = h m
      · by_cases zb : E s - D 9 b = g m
        · rw [if_pos (qa.mpr za), if_pos (qb.mpr zb)]
          refine (su_all (D 4 s - 1) 1).2.trans ⟨fun z => ⟨za, zb, fun k k1 k2 => ?_⟩, fun z k k1 k2 => ?_⟩
          · have y := z k k1 (by omega)
            have w1 := h1 (m + k) (by omega)
            have w2 := h2 (m + k) (by omega)
            rw [w1.1, Nat.add_assoc, w2.1] at y
            exact ⟨(nI_eq (a := h (m + k)) (b := 0) (by omega) (by decide)).mp y.1, (nI_eq (a := g (m + k)) (b := 0) (by omega) (by decide)).mp y.2⟩
          · have y := z.2.2 k k1 (by omega)
            have w1 := h1 (m + k) (by omega)
            have w2 := h2 (m + k) (by omega)
            rw [w1.1, Nat.add_assoc, w2.1, y.1, y.2]
            exact ⟨rfl, rfl⟩
        · rw [if_pos (qa.mpr za), if_neg (fun z => zb (qb.mp z)), itV_z (fun d => su_a rfl)]
          exact ⟨fun z => absurd z (by decide), fun z => absurd z.2.1 zb⟩
      · rw [if_neg (fun z => za (qa.mp z)), itV_z (fun d => su_a rfl)]
        exact ⟨fun z => absurd z (by decide), fun z => absurd z.1 za⟩
    by_cases z : suN lo fl sd s m a b (D 4 s) = 1
    · rw [if_pos ⟨q, z⟩]
      exact ⟨fun _ => ⟨q, key.mp z⟩, fun _ => rfl⟩
    · rw [if_neg (fun y => z y.2)]
      exact ⟨fun y => absurd y (by decide), fun y => absurd (key.mpr y.2) z⟩
  · rw [if_neg (fun y => q y.1)]
    exact ⟨fun y => absurd y (by decide), fun y => absurd y.1 q⟩
end GO
set_option maxHeartbeats 4000000 in
set_option maxRecDepth 100000 in
theorem s_X12_laySaidF (lau : Launch) (gg : va_G) (kA : Nat → ClassId) (m : Nat) (t : Nat) (e : Nat) (m0 : Nat) (mtp : Nat) (mfa : Nat) (mfp : Int32) (mat : Nat) (msz : Nat) (mso : Nat) (mpl : Int32) (mnu : Int32) (mwd : Int64) (m10 : Nat) (m11 : Nat) (m12 : Nat) (m13 : Nat) (m14 : Nat) (m15 : Nat) (m16 : Nat) (m17 : Nat) (m18 : Nat) (m19 : Nat) (m20 : Nat) (m21 : Nat) (m22 : Nat) (m23 : Nat) (m24 : Nat) (mns : Nat) (mnl : Nat) (mne : Nat) (mst : Nat) (mlt : Nat) (mer : Nat) (m31 : Nat) (m32 : Nat) (m33 : Nat) (m34 : Nat) (m35 : Nat) (mwm : Nat) (mwt : Nat) (mwf : Nat) (m39 : Nat) (m40 : Nat) (m41 : Nat) (mla : Nat) (m43 : Nat) (m44 : Nat) (m45 : Nat) (m46 : Nat) (m47 : Nat) (m48 : Nat) (mtm : Nat) (m50 : Nat) (m51 : Nat) (m52 : Nat) (m53 : Nat) (m54 : Nat) (m55 : Nat) (m56 : Nat) (m57 : Nat) (m58 : Nat) (m59 : Nat) (m60 : Nat) (m61 : Nat) (msn : Nat) (mti : Nat) (m64 : Nat) (m65 : Nat) (m66 : Nat) (m67 : Nat) (m68 : Nat) (m69 : Nat) (mc18 : Nat → Int32) (mc19 : Nat → Int32) (mc20 : Nat → Int32) (mc21 : Nat → Int32) (mc22 : Nat → Int32) (mc23 : Nat → Int32) (mc24 : Nat → Int32) (mc31 : Nat → Int32) (mc32 : Nat → Int32) (mc33 : Nat → Int32) (mc44 : Nat → Int32) (mc45 : Nat → Int32) (mc46 : Nat → Int32) (D : Nat → Nat → Nat) (EE : Nat → Nat) (n : Nat) (z : Nat → Nat) (hmst : mst ≤ 6) (hmlt : mlt ≤ 10) (hmer : mer ≤ 4) (hRs : RsR D mst mlt mer mc18 mc20 mc21 mc22 mc23 mc24) (hD : DOk D) (hLd : LdR D mlt mc31 mc33) (hBg : BgS D mlt mc32) (hlo : ∀ k, k < mst → mc19 k = nI (EE k) ∧ EE k ≤ 9) (ht : t < 2) (hn60 : n ≤ 60) (htm9 : mc45 t = nI n) (htx9 : ∀ k, k < n → mc44 (60 * t + k) = nI (z k) ∧ z k < mlt) (hts : tkS (ltS D) z n ≤ 60) (he : e < mer) : CtV lau yX12_laySaid cX12_laySaid 7 (none) 2 0 0 gg kA [.ref m, .int (nI t), .int (nI e)] (mflat [(m, .inl (.inr (12, (.ref m0 :: .int (nI mtp) :: .int (nI mfa) :: .int mfp :: .int (nI mat) :: .int (nI msz) :: .int (nI mso) :: .int mpl :: .int mnu :: .long mwd :: .ref m10 :: .ref m11 :: .ref m12 :: .ref m13 :: .ref m14 :: .ref m15 :: .ref m16 :: .ref m17 :: .ref m18 :: .ref m19 :: .ref m20 :: .ref m21 :: .ref m22 :: .ref m23 :: .ref m24 :: .int (nI mns) :: .int (nI mnl) :: .int (nI mne) :: .int (nI mst) :: .int (nI mlt) :: .int (nI mer) :: .ref m31 :: .ref m32 :: .ref m33 :: .ref m34 :: .ref m35 :: .int (nI mwm) :: .int (nI mwt) :: .int (nI mwf) :: .ref m39 :: .ref m40 :: .ref m41 :: .int (nI mla) :: .ref m43 :: .ref m44 :: .ref m45 :: .ref m46 :: .ref m47 :: .ref m48 :: .int (nI mtm) :: .ref m50 :: .ref m51 :: .ref m52 :: .ref m53 :: .ref m54 :: .ref m55 :: .ref m56 :: .ref m57 :: .ref m58 :: .ref m59 :: .ref m60 :: .ref m61 :: .int (nI msn) :: .int (nI mti) :: .ref m64 :: .ref m65 :: .ref m66 :: .ref m67 :: .ref m68 :: .ref m69 :: [])))), (m18, .inl (.inl (kA 1, 6, .inl mc18))), (m19, .inl (.inl (kA 1, 6, .inl mc19))), (m20, .inl (.inl (kA 1, 6, .inl mc20))), (m21, .inl (.inl (kA 1, 10, .inl mc21))), (m22, .inl (.inl (kA 1, 50, .inl mc22))), (m23, .inl (.inl (kA 1, 4, .inl mc23))), (m24, .inl (.inl (kA 1, 4, .inl mc24))), (m31, .inl (.inl (kA 1, 10, .inl mc31))), (m32, .inl (.inl (kA 1, 450, .inl mc32))), (m33, .inl (.inl (kA 1, 20, .inl mc33))), (m44, .inl (.inl (kA 1, 120, .inl mc44))), (m45, .inl (.inl (kA 1, 2, .inl mc45))), (m46, .inl (.inl (kA 1, 120, .inl mc46)))]) (S := (Nat → Int32)) (fun (y_m46 : (Nat → Int32)) => (TxH D EE (D 9 e) z n (fun m => y_m46 (60 * t + m))) ∧ (∀ i, (i < 60 * t ∨ 60 * t + 60 ≤ i) → y_m46 i = mc46 i)) (fun (y_m46 : (Nat → Int32)) => mflat [(m, .inl (.inr (12, (.ref m0 :: .int (nI mtp) :: .int (nI mfa) :: .int mfp :: .int (nI mat) :: .int (nI msz) :: .int (nI mso) :: .int mpl :: .int mnu :: .long mwd :: .ref m10 :: .ref m11 :: .ref m12 :: .ref m13 :: .ref m14 :: .ref m15 :: .ref m16 :: .ref m17 :: .ref m18 :: .ref m19 :: .ref m20 :: .ref m21 :: .ref m22 :: .ref m23 :: .ref m24 :: .int (nI mns) :: .int (nI mnl) :: .int (nI mne) :: .int (nI mst) :: .int (nI mlt) :: .int (nI mer) :: .ref m31 :: .ref m32 :: .ref m33 :: .ref m34 :: .ref m35 :: .int (nI mwm) :: .int (nI mwt) :: .int (nI mwf) :: .ref m39 :: .ref m40 :: .ref m41 :: .int (nI mla) :: .ref m43 :: .ref m44 :: .ref m45 :: .ref m46 :: .ref m47 :: .ref m48 :: .int (nI mtm) :: .ref m50 :: .ref m51 :: .ref m52 :: .ref m53 :: .ref m54 :: .ref m55 :: .ref m56 :: .ref m57 :: .ref m58 :: .ref m59 :: .ref m60 :: .ref m61 :: .int (nI msn) :: .int (nI mti) :: .ref m64 :: .ref m65 :: .ref m66 :: .ref m67 :: .ref m68 :: .ref m69 :: [])))), (m18, .inl (.inl (kA 1, 6, .inl mc18))), (m19, .inl (.inl (kA 1, 6, .inl mc19))), (m20, .inl (.inl (kA 1, 6, .inl mc20))), (m21, .inl (.inl (kA 1, 10, .inl mc21))), (m22, .inl (.inl (kA 1, 50, .inl mc22))), (m23, .inl (.inl (kA 1, 4, .inl mc23))), (m24, .inl (.inl (kA 1, 4, .inl mc24))), (m31, .inl (.inl (kA 1, 10, .inl mc31))), (m32, .inl (.inl (kA 1, 450, .inl mc32))), (m33, .inl (.inl (kA 1, 20, .inl mc33))), (m44, .inl (.inl (kA 1, 120, .inl mc44))), (m45, .inl (.inl (kA 1, 2, .inl mc45))), (m46, .inl (.inl (kA 1, 120, .inl y_m46)))]) := by
  refine nx_startV (by decide +kernel) (Nat.le_of_ble_eq_true rfl) ?_
  intro x hnm h hq
  have h : Ok x cX12_laySaid RX12 kA (rmC 2 0 0) 7 := h
  show J x (mflat [(m, .inl (.inr (12, (.ref m0 :: .int (nI mtp) :: .int (nI mfa) :: .int mfp :: .int (nI mat) :: .int (nI msz) :: .int (nI mso) :: .int mpl :: .int mnu :: .long mwd :: .ref m10 :: .ref m11 :: .ref m12 :: .ref m13 :: .ref m14 :: .ref m15 :: .ref m16 :: .ref m17 :: .ref m18 :: .ref m19 :: .ref m20 :: .ref m21 :: .ref m22 :: .ref m23 :: .ref m24 :: .int (nI mns) :: .int (nI mnl) :: .int (nI mne) :: .int (nI mst) :: .int (nI mlt) :: .int (nI mer) :: .ref m31 :: .ref m32 :: .ref m33 :: .ref m34 :: .ref m35 :: .int (nI mwm) :: .int (nI mwt) :: .int (nI mwf) :: .ref m39 :: .ref m40 :: .ref m41 :: .int (nI mla) :: .ref m43 :: .ref m44 :: .ref m45 :: .ref m46 :: .ref m47 :: .ref m48 :: .int (nI mtm) :: .ref m50 :: .ref m51 :: .ref m52 :: .ref m53 :: .ref m54 :: .ref m55 :: .ref m56 :: .ref m57 :: .ref m58 :: .ref m59 :: .ref m60 :: .ref m61 :: .int (nI msn) :: .int (nI mti) :: .ref m64 :: .ref m65 :: .ref m66 :: .ref m67 :: .ref m68 :: .ref m69 :: [])))), (m18, .inl (.inl (kA 1, 6, .inl mc18))), (m19, .inl (.inl (kA 1, 6, .inl mc19))), (m20, .inl (.inl (kA 1, 6, .inl mc20))), (m21, .inl (.inl (kA 1, 10, .inl mc21))), (m22, .inl (.inl (kA 1, 50, .inl mc22))), (m23, .inl (.inl (kA 1, 4, .inl mc23))), (m24, .inl (.inl (kA 1, 4, .inl mc24))), (m31, .inl (.inl (kA 1, 10, .inl mc31))), (m32, .inl (.inl (kA 1, 450, .inl mc32))), (m33, .inl (.inl (kA 1, 20, .inl mc33))), (m44, .inl (.inl (kA 1, 120, .inl mc44))), (m45, .inl (.inl (kA 1, 2, .inl mc45))), (m46, .inl (.inl (kA 1, 120, .inl mc46)))]) [(0, .ref m), (1, .int (nI t)), (2, .int (nI e))] 0 0 0 []
  refine j_iconst (v := 0) h (by decide) dX12_laySaid_0 ?_
  refine j_istore_n (lv' := [(3, .int 0), (0, .ref m), (1, .int (nI t)), (2, .int (nI e))]) h dX12_laySaid_1 rfl (by decide) rfl ?_
  have lp2_96042 : ∀ (m2_96042 : Nat), ∀ (v3_2_96042 : Nat) (fm46_2_96042 : Nat → Int32), (∀ i, (i < 60 * t ∨ 60 * t + 60 ≤ i) → fm46_2_96042 i = mc46 i) → (v3_2_96042 ≤ 60) → (v3_2_96042 ≤ 100000) → 100001 - v3_2_96042 < m2_96042 → J x (mflat [(m, .inl (.inr (12, (.ref m0 :: .int (nI mtp) :: .int (nI mfa) :: .int mfp :: .int (nI mat) :: .int (nI msz) :: .int (nI mso) :: .int mpl :: .int mnu :: .long mwd :: .ref m10 :: .ref m11 :: .ref m12 :: .ref m13 :: .ref m14 :: .ref m15 :: .ref m16 :: .ref m17 :: .ref m18 :: .ref m19 :: .ref m20 :: .ref m21 :: .ref m22 :: .ref m23 :: .ref m24 :: .int (nI mns) :: .int (nI mnl) :: .int (nI mne) :: .int (nI mst) :: .int (nI mlt) :: .int (nI mer) :: .ref m31 :: .ref m32 :: .ref m33 :: .ref m34 :: .ref m35 :: .int (nI mwm) :: .int (nI mwt) :: .int (nI mwf) :: .ref m39 :: .ref m40 :: .ref m41 :: .int (nI mla) :: .ref m43 :: .ref m44 :: .ref m45 :: .ref m46 :: .ref m47 :: .ref m48 :: .int (nI mtm) :: .ref m50 :: .ref m51 :: .ref m52 :: .ref m53 :: .ref m54 :: .ref m55 :: .ref m56 :: .ref m57 :: .ref m58 :: .ref m59 :: .ref m60 :: .ref m61 :: .int (nI msn) :: .int (nI mti) :: .ref m64 :: .ref m65 :: .ref m66 :: .ref m67 :: .ref m68 :: .ref m69 :: [])))), (m18, .inl (.inl (kA 1, 6, .inl mc18))), (m19, .inl (.inl (kA 1, 6, .inl mc19))), (m20, .inl (.inl (kA 1, 6, .inl mc20))), (m21, .inl (.inl (kA 1, 10, .inl mc21))), (m22, .inl (.inl (kA 1, 50, .inl mc22))), (m23, .inl (.inl (kA 1, 4, .inl mc23))), (m24, .inl (.inl (kA 1, 4, .inl mc24))), (m31, .inl (.inl (kA 1, 10, .inl mc31))), (m32, .inl (.inl (kA 1, 450, .inl mc32))), (m33, .inl (.inl (kA 1, 20, .inl mc33))), (m44, .inl (.inl (kA 1, 120, .inl mc44))), (m45, .inl (.inl (kA 1, 2, .inl mc45))), (m46, .inl (.inl (kA 1, 120, .inl fm46_2_96042)))]) [(3, .int (nI v3_2_96042)), (0, .ref m), (1, .int (nI t)), (2, .int (nI e))] 0 0 2 [] := by
    intro m2_96042
    induction m2_96042 with
    | zero =>
      intro v3_2_96042 fm46_2_96042 i2_96042_0 i2_96042_1 i2_96042_2 hm2_96042
      exact absurd hm2_96042 (Nat.not_lt_zero _)
    | succ m2_96042 ih2_96042 =>
      intro v3_2_96042 fm46_2_96042 i2_96042_0 i2_96042_1 i2_96042_2 hm2_96042
      refine j_iload_n h 0 rfl rfl dX12_laySaid_2 ?_
      refine j_bipush (v := 60) h (by decide) dX12_laySaid_3 ?_
      refine j_icmp_ge h 26 dX12_laySaid_5 (by decide) (fun z960238 => ?_) (fun z960238 => ?_)
      · have z960238n : 60 ≤ v3_2_96042 := (nI_leI (a := 60) (b := v3_2_96042) (by omega) (by omega)).mp z960238
        refine j_iconst (v := 0) h (by decide) dX12_laySaid_26 ?_
        refine j_istore_n (lv' := [(3, .int 0), (0, .ref m), (1, .int (nI t)), (2, .int (nI e))]) h dX12_laySaid_27 rfl (by decide) rfl ?_
        refine j_iconst (v := 0) h (by decide) dX12_laySaid_28 ?_
        refine j_istore (lv' := [(4, .int 0), (3, .int 0), (0, .ref m), (1, .int (nI t)), (2, .int (nI e))]) h dX12_laySaid_29 (by decide) rfl ?_
        have lp31_96051 : ∀ (m31_96051 : Nat), ∀ (v4_31_96051 : Nat) (v3_31_96051 : Nat) (fm46_31_96051 : Nat → Int32), (v3_31_96051 = tkS (ltS D) z v4_31_96051) → (TxH D EE (D 9 e) z v4_31_96051 (fun m => fm46_31_96051 (60 * t + m))) → (∀ i, (i < 60 * t ∨ 60 * t + 60 ≤ i) → fm46_31_96051 i = mc46 i) → (v4_31_96051 ≤ n) → (v3_31_96051 ≤ 60) → (v4_31_96051 ≤ 100000) → (v3_31_96051 ≤ 100000) → n - v4_31_96051 < m31_96051 → J x (mflat [(m, .inl (.inr (12, (.ref m0 :: .int (nI mtp) :: .int (nI mfa) :: .int mfp :: .int (nI mat) :: .int (nI msz) :: .int (nI mso) :: .int mpl :: .int mnu :: .long mwd :: .ref m10 :: .ref m11 :: .ref m12 :: .ref m13 :: .ref m14 :: .ref m15 :: .ref m16 :: .ref m17 :: .ref m18 :: .ref m19 :: .ref m20 :: .ref m21 :: .ref m22 :: .ref m23 :: .ref m24 :: .int (nI mns) :: .int (nI mnl) :: .int (nI mne) :: .int (nI mst) :: .int (nI mlt) :: .int (nI mer) :: .ref m31 :: .ref m32 :: .ref m33 :: .ref m34 :: .ref m35 :: .int (nI mwm) :: .int (nI mwt) :: .int (nI mwf) :: .ref m39 :: .ref m40 :: .ref m41 :: .int (nI mla) :: .ref m43 :: .ref m44 :: .ref m45 :: .ref m46 :: .ref m47 :: .ref m48 :: .int (nI mtm) :: .ref m50 :: .ref m51 :: .ref m52 :: .ref m53 :: .ref m54 :: .ref m55 :: .ref m56 :: .ref m57 :: .ref m58 :: .ref m59 :: .ref m60 :: .ref m61 :: .int (nI msn) :: .int (nI mti) :: .ref m64 :: .ref m65 :: .ref m66 :: .ref m67 :: .ref m68 :: .ref m69 :: [])))), (m18, .inl (.inl (kA 1, 6, .inl mc18))), (m19, .inl (.inl (kA 1, 6, .inl mc19))), (m20, .inl (.inl (kA 1, 6, .inl mc20))), (m21, .inl (.inl (kA 1, 10, .inl mc21))), (m22, .inl (.inl (kA 1, 50, .inl mc22))), (m23, .inl (.inl (kA 1, 4, .inl mc23))), (m24, .inl (.inl (kA 1, 4, .inl mc24))), (m31, .inl (.inl (kA 1, 10, .inl mc31))), (m32, .inl (.inl (kA 1, 450, .inl mc32))), (m33, .inl (.inl (kA 1, 20, .inl mc33))), (m44, .inl (.inl (kA 1, 120, .inl mc44))), (m45, .inl (.inl (kA 1, 2, .inl mc45))), (m46, .inl (.inl (kA 1, 120, .inl fm46_31_96051)))]) [(4, .int (nI v4_31_96051)), (3, .int (nI v3_31_96051)), (0, .ref m), (1, .int (nI t)), (2, .int (nI e))] 0 0 31 [] := by
          intro m31_96051
          induction m31_96051 with
          | zero =>
            intro v4_31_96051 v3_31_96051 fm46_31_96051 i31_96051_0 i31_96051_1 i31_96051_2 i31_96051_3 i31_96051_4 i31_96051_5 i31_96051_6 hm31_96051
            exact absurd hm31_96051 (Nat.not_lt_zero _)
          | succ m31_96051 ih31_96051 =>
            intro v4_31_96051 v3_31_96051 fm46_31_96051 i31_96051_0 i31_96051_1 i31_96051_2 i31_96051_3 i31_96051_4 i31_96051_5 i31_96051_6 hm31_96051
            refine j_iload h 0 rfl dX12_laySaid_31 ?_
            refine j_aload_n h 2 rfl rfl dX12_laySaid_33 ?_
            refine jm_get h iw_X12 0 rfl rfl 45 (by decide +kernel) tw_1201 rfl dX12_laySaid_34 ?_
            refine j_iload_n h 3 rfl rfl dX12_laySaid_37 ?_
            refine jm_iald h 12 rfl t rfl (by omega) (by omega) dX12_laySaid_38 ?_
            refine j_top (b := nI n) (htm9) ?_
            refine j_icmp_ge h 125 dX12_laySaid_39 (by decide) (fun z960291 => ?_) (fun z960291 => ?_)
            · have z960291n : n ≤ v4_31_96051 := (nI_leI (a := n) (b := v4_31_96051) (by omega) (by omega)).mp z960291
              exact jm_vret h hq dX12_laySaid_125 fm46_31_96051 [0, 1, 2, 3, 4, 5, 6, 7, 8, 9, 10, 11, 12, 13] rfl (by decide) ⟨(show TxH D EE (D 9 e) z n (fun m => fm46_31_96051 (60 * t + m)) from (show v4_31_96051 = n by omega) ▸ i31_96051_1), (show ∀ i, (i < 60 * t ∨ 60 * t + 60 ≤ i) → fm46_31_96051 i = mc46 i from i31_96051_2)⟩ (Nat.le_of_ble_eq_true rfl) (Nat.le_of_ble_eq_true rfl)
            · have z960291n : ¬ n ≤ v4_31_96051 := fun q9 => z960291 ((nI_leI (a := n) (b := v4_31_96051) (by omega) (by omega)).mpr q9)
              refine j_aload_n h 2 rfl rfl dX12_laySaid_42 ?_
              refine jm_get h iw_X12 0 rfl rfl 44 (by decide +kernel) tw_1200 rfl dX12_laySaid_43 ?_
              refine j_bipush (v := 60) h (by decide) dX12_laySaid_46 ?_
              refine j_iload_n h 3 rfl rfl dX12_laySaid_48 ?_
              refine j_imul h dX12_laySaid_49 ?_
              refine j_top (b := nI (60 * t)) (pk_mul 60 t) ?_
              refine j_iload h 0 rfl dX12_laySaid_50 ?_
              refine j_iadd h dX12_laySaid_52 ?_
              refine j_top (b := nI ((60 * t) + v4_31_96051)) (nI_add (60 * t) v4_31_96051) ?_
              refine jm_iald h 11 rfl ((60 * t) + v4_31_96051) rfl (by omega) (by omega) dX12_laySaid_53 ?_
              have u960292 := (htx9 v4_31_96051 (by omega)).2
              have u960292l := ltS_b hD (l := z v4_31_96051) (by rw [← hRs.2.1]; exact (htx9 v4_31_96051 (by omega)).2)
              refine j_top (b := nI (z v4_31_96051)) ((htx9 v4_31_96051 (by omega)).1) ?_
              refine j_istore (lv' := [(5, .int (nI (z v4_31_96051))), (4, .int (nI v4_31_96051)), (3, .int (nI v3_31_96051)), (0, .ref m), (1, .int (nI t)), (2, .int (nI e))]) h dX12_laySaid_54 (by decide) rfl ?_
              refine j_iconst (v := 0) h (by decide) dX12_laySaid_56 ?_
              refine j_istore (lv' := [(6, .int 0), (5, .int (nI (z v4_31_96051))), (4, .int (nI v4_31_96051)), (3, .int (nI v3_31_96051)), (0, .ref m), (1, .int (nI t)), (2, .int (nI e))]) h dX12_laySaid_57 (by decide) rfl ?_
              have lp59_96054 : ∀ (m59_96054 : Nat), ∀ (v6_59_96054 : Nat) (fm46_59_96054 : Nat → Int32), (∀ d, d < v6_59_96054 → fm46_59_96054 (60 * t + v3_31_96051 + d) = nI (hrN EE (D 9 e) (bgn (D 4) (dR D (z v4_31_96051)) (D 7 (z v4_31_96051)) d))) → (TxH D EE (D 9 e) z v4_31_96051 (fun m => fm46_59_96054 (60 * t + m))) → (∀ i, (i < 60 * t ∨ 60 * t + 60 ≤ i) → fm46_59_96054 i = mc46 i) → (v6_59_96054 ≤ ltS D (z v4_31_96051)) → (v6_59_96054 ≤ 100000) → ltS D (z v4_31_96051) - v6_59_96054 < m59_96054 → J x (mflat [(m, .inl (.inr (12, (.ref m0 :: .int (nI mtp) :: .int (nI mfa) :: .int mfp :: .int (nI mat) :: .int (nI msz) :: .int (nI mso) :: .int mpl :: .int mnu :: .long mwd :: .ref m10 :: .ref m11 :: .ref m12 :: .ref m13 :: .ref m14 :: .ref m15 :: .ref m16 :: .ref m17 :: .ref m18 :: .ref m19 :: .ref m20 :: .ref m21 :: .ref m22 :: .ref m23 :: .ref m24 :: .int (nI mns) :: .int (nI mnl) :: .int (nI mne) :: .int (nI mst) :: .int (nI mlt) :: .int (nI mer) :: .ref m31 :: .ref m32 :: .ref m33 :: .ref m34 :: .ref m35 :: .int (nI mwm) :: .int (nI mwt) :: .int (nI mwf) :: .ref m39 :: .ref m40 :: .ref m41 :: .int (nI mla) :: .ref m43 :: .ref m44 :: .ref m45 :: .ref m46 :: .ref m47 :: .ref m48 :: .int (nI mtm) :: .ref m50 :: .ref m51 :: .ref m52 :: .ref m53 :: .ref m54 :: .ref m55 :: .ref m56 :: .ref m57 :: .ref m58 :: .ref m59 :: .ref m60 :: .ref m61 :: .int (nI msn) :: .int (nI mti) :: .ref m64 :: .ref m65 :: .ref m66 :: .ref m67 :: .ref m68 :: .ref m69 :: [])))), (m18, .inl (.inl (kA 1, 6, .inl mc18))), (m19, .inl (.inl (kA 1, 6, .inl mc19))), (m20, .inl (.inl (kA 1, 6, .inl mc20))), (m21, .inl (.inl (kA 1, 10, .inl mc21))), (m22, .inl (.inl (kA 1, 50, .inl mc22))), (m23, .inl (.inl (kA 1, 4, .inl mc23))), (m24, .inl (.inl (kA 1, 4, .inl mc24))), (m31, .inl (.inl (kA 1, 10, .inl mc31))), (m32, .inl (.inl (kA 1, 450, .inl mc32))), (m33, .inl (.inl (kA 1, 20, .inl mc33))), (m44, .inl (.inl (kA 1, 120, .inl mc44))), (m45, .inl (.inl (kA 1, 2, .inl mc45))), (m46, .inl (.inl (kA 1, 120, .inl fm46_59_96054)))]) [(6, .int (nI v6_59_96054)), (5, .int (nI (z v4_31_96051))), (4, .int (nI v4_31_96051)), (3, .int (nI v3_31_96051)), (0, .ref m), (1, .int (nI t)), (2, .int (nI e))] 0 0 59 [] := by
                intro m59_96054
                induction m59_96054 with
                | zero =>
                  intro v6_59_96054 fm46_59_96054 i59_96054_0 i59_96054_1 i59_96054_2 i59_96054_3 i59_96054_4 hm59_96054
                  exact absurd hm59_96054 (Nat.not_lt_zero _)
                | succ m59_96054 ih59_96054 =>
                  intro v6_59_96054 fm46_59_96054 i59_96054_0 i59_96054_1 i59_96054_2 i59_96054_3 i59_96054_4 hm59_96054
                  refine j_iload h 0 rfl dX12_laySaid_59 ?_
                  refine j_aload_n h 4 rfl rfl dX12_laySaid_61 ?_
                  refine jm_get h iw_X12 0 rfl rfl 31 (by decide +kernel) tw_1187 rfl dX12_laySaid_62 ?_
                  refine j_iload h 1 rfl dX12_laySaid_65 ?_
                  refine jm_iald h 8 rfl (z v4_31_96051) rfl (by omega) (by omega) dX12_laySaid_67 ?_
                  have u960309 := ltS_b hD (l := (z v4_31_96051)) (by rw [← hRs.2.1]; omega)
                  refine j_top (b := nI (ltS D (z v4_31_96051))) ((hLd (z v4_31_96051) (by omega)).1) ?_
                  refine j_icmp_ge h 109 dX12_laySaid_68 (by decide) (fun z960310 => ?_) (fun z960310 => ?_)
                  · have z960310n : (ltS D (z v4_31_96051)) ≤ v6_59_96054 := (nI_leI (a := (ltS D (z v4_31_96051))) (b := v6_59_96054) (by omega) (by omega)).mp z960310
                    have mo9 := tkS_mo (t := ltS D) (x := z) (show v4_31_96051 + 1 ≤ n by omega)
                    have mp9 : tkS (ltS D) z (v4_31_96051 + 1) = tkS (ltS D) z v4_31_96051 + ltS D (z v4_31_96051) := rfl
                    refine j_iload_n h 3 rfl rfl dX12_laySaid_109 ?_
                    refine j_aload_n h 4 rfl rfl dX12_laySaid_110 ?_
                    refine jm_get h iw_X12 0 rfl rfl 31 (by decide +kernel) tw_1187 rfl dX12_laySaid_111 ?_
                    refine j_iload h 1 rfl dX12_laySaid_114 ?_
                    refine jm_iald h 8 rfl (z v4_31_96051) rfl (by omega) (by omega) dX12_laySaid_116 ?_
                    refine j_top (b := nI (ltS D (z v4_31_96051))) ((hLd (z v4_31_96051) (by omega)).1) ?_
                    refine j_iadd h dX12_laySaid_117 ?_
                    refine j_top (b := nI (v3_31_96051 + (ltS D (z v4_31_96051)))) (nI_add v3_31_96051 (ltS D (z v4_31_96051))) ?_
                    refine j_istore_n (lv' := [(3, .int (nI (v3_31_96051 + (ltS D (z v4_31_96051))))), (6, .int (nI v6_59_96054)), (5, .int (nI (z v4_31_96051))), (4, .int (nI v4_31_96051)), (0, .ref m), (1, .int (nI t)), (2, .int (nI e))]) h dX12_laySaid_118 rfl (by decide) rfl ?_
                    refine j_iinc (v := nI (v4_31_96051 + 1)) (lv' := [(4, .int (nI (v4_31_96051 + 1))), (3, .int (nI (v3_31_96051 + (ltS D (z v4_31_96051))))), (6, .int (nI v6_59_96054)), (5, .int (nI (z v4_31_96051))), (0, .ref m), (1, .int (nI t)), (2, .int (nI e))]) h dX12_laySaid_119 3 rfl (nI_add v4_31_96051 1) (by decide) rfl ?_
                    refine j_goto h 31 dX12_laySaid_122 (by decide) ?_
                    refine jm_sub [0, 1, 2, 3, 4, 5, 6, 7, 8, 9, 10, 11, 12, 13] (w' := [(m, .inl (.inr (12, (.ref m0 :: .int (nI mtp) :: .int (nI mfa) :: .int mfp :: .int (nI mat) :: .int (nI msz) :: .int (nI mso) :: .int mpl :: .int mnu :: .long mwd :: .ref m10 :: .ref m11 :: .ref m12 :: .ref m13 :: .ref m14 :: .ref m15 :: .ref m16 :: .ref m17 :: .ref m18 :: .ref m19 :: .ref m20 :: .ref m21 :: .ref m22 :: .ref m23 :: .ref m24 :: .int (nI mns) :: .int (nI mnl) :: .int (nI mne) :: .int (nI mst) :: .int (nI mlt) :: .int (nI mer) :: .ref m31 :: .ref m32 :: .ref m33 :: .ref m34 :: .ref m35 :: .int (nI mwm) :: .int (nI mwt) :: .int (nI mwf) :: .ref m39 :: .ref m40 :: .ref m41 :: .int (nI mla) :: .ref m43 :: .ref m44 :: .ref m45 :: .ref m46 :: .ref m47 :: .ref m48 :: .int (nI mtm) :: .ref m50 :: .ref m51 :: .ref m52 :: .ref m53 :: .ref m54 :: .ref m55 :: .ref m56 :: .ref m57 :: .ref m58 :: .ref m59 :: .ref m60 :: .ref m61 :: .int (nI msn) :: .int (nI mti) :: .ref m64 :: .ref m65 :: .ref m66 :: .ref m67 :: .ref m68 :: .ref m69 :: [])))), (m18, .inl (.inl (kA 1, 6, .inl mc18))), (m19, .inl (.inl (kA 1, 6, .inl mc19))), (m20, .inl (.inl (kA 1, 6, .inl mc20))), (m21, .inl (.inl (kA 1, 10, .inl mc21))), (m22, .inl (.inl (kA 1, 50, .inl mc22))), (m23, .inl (.inl (kA 1, 4, .inl mc23))), (m24, .inl (.inl (kA 1, 4, .inl mc24))), (m31, .inl (.inl (kA 1, 10, .inl mc31))), (m32, .inl (.inl (kA 1, 450, .inl mc32))), (m33, .inl (.inl (kA 1, 20, .inl mc33))), (m44, .inl (.inl (kA 1, 120, .inl mc44))), (m45, .inl (.inl (kA 1, 2, .inl mc45))), (m46, .inl (.inl (kA 1, 120, .inl fm46_59_96054)))]) rfl (by decide +kernel) [0, 1, 4, 5, 6] (lv' := [(4, .int (nI (v4_31_96051 + 1))), (3, .int (nI (v3_31_96051 + (ltS D (z v4_31_96051))))), (0, .ref m), (1, .int (nI t)), (2, .int (nI e))]) rfl ?_
                    exact ih31_96051 (v4_31_96051 + 1) (v3_31_96051 + (ltS D (z v4_31_96051))) fm46_59_96054 (show (v3_31_96051 + (ltS D (z v4_31_96051))) = tkS (ltS D) z (v4_31_96051 + 1) from (by rw [i31_96051_0]; rfl)) (show TxH D EE (D 9 e) z (v4_31_96051 + 1) (fun m => fm46_59_96054 (60 * t + m)) from TxH_n (f := fun m => fm46_59_96054 (60 * t + m)) i59_96054_1 (fun m _ => rfl) (by rw [← i31_96051_0]; intro d h9; have q9 := i59_96054_0 d (by have c9 : ltS D (z v4_31_96051) = tkS (D 4) (dR D (z v4_31_96051)) (D 7 (z v4_31_96051)) := rfl; omega); rw [Nat.add_assoc] at q9; exact q9)) (show ∀ i, (i < 60 * t ∨ 60 * t + 60 ≤ i) → fm46_59_96054 i = mc46 i from i59_96054_2) (show (v4_31_96051 + 1) ≤ n by first | assumption | omega) (show (v3_31_96051 + (ltS D (z v4_31_96051))) ≤ 60 by first | assumption | omega) (show (v4_31_96051 + 1) ≤ 100000 by first | assumption | omega) (show (v3_31_96051 + (ltS D (z v4_31_96051))) ≤ 100000 by first | assumption | omega) (show n - (v4_31_96051 + 1) < m31_96051 by omega)
                  · have z960310n : ¬ (ltS D (z v4_31_96051)) ≤ v6_59_96054 := fun q9 => z960310 ((nI_leI (a := (ltS D (z v4_31_96051))) (b := v6_59_96054) (by omega) (by omega)).mpr q9)
                    have mo9 := tkS_mo (t := ltS D) (x := z) (show v4_31_96051 + 1 ≤ n by omega)
                    have mp9 : tkS (ltS D) z (v4_31_96051 + 1) = tkS (ltS D) z v4_31_96051 + ltS D (z v4_31_96051) := rfl
                    refine j_aload_n h 4 rfl rfl dX12_laySaid_71 ?_
                    refine jm_get h iw_X12 0 rfl rfl 46 (by decide +kernel) tw_1202 rfl dX12_laySaid_72 ?_
                    refine j_bipush (v := 60) h (by decide) dX12_laySaid_75 ?_
                    refine j_iload_n h 5 rfl rfl dX12_laySaid_77 ?_
                    refine j_imul h dX12_laySaid_78 ?_
                    refine j_top (b := nI (60 * t)) (pk_mul 60 t) ?_
                    refine j_iload_n h 3 rfl rfl dX12_laySaid_79 ?_
                    refine j_iadd h dX12_laySaid_80 ?_
                    refine j_top (b := nI ((60 * t) + v3_31_96051)) (nI_add (60 * t) v3_31_96051) ?_
                    refine j_iload h 0 rfl dX12_laySaid_81 ?_
                    refine j_iadd h dX12_laySaid_83 ?_
                    refine j_top (b := nI (((60 * t) + v3_31_96051) + v6_59_96054)) (nI_add ((60 * t) + v3_31_96051) v6_59_96054) ?_
                    refine j_aload_n h 4 rfl rfl dX12_laySaid_84 ?_
                    refine j_iload_n h 6 rfl rfl dX12_laySaid_85 ?_
                    refine j_aload_n h 4 rfl rfl dX12_laySaid_86 ?_
                    refine jm_get h iw_X12 0 rfl rfl 32 (by decide +kernel) tw_1188 rfl dX12_laySaid_87 ?_
                    refine j_bipush (v := 45) h (by decide) dX12_laySaid_90 ?_
                    refine j_iload h 1 rfl dX12_laySaid_92 ?_
                    refine j_imul h dX12_laySaid_94 ?_
                    refine j_top (b := nI (45 * (z v4_31_96051))) (pk_mul 45 (z v4_31_96051)) ?_
                    refine j_iload h 0 rfl dX12_laySaid_95 ?_
                    refine j_iadd h dX12_laySaid_97 ?_
                    refine j_top (b := nI ((45 * (z v4_31_96051)) + v6_59_96054)) (nI_add (45 * (z v4_31_96051)) v6_59_96054) ?_
                    refine jm_iald h 9 rfl ((45 * (z v4_31_96051)) + v6_59_96054) rfl (by omega) (by omega) dX12_laySaid_98 ?_
                    refine j_top (b := pm (bgn (D 4) (dR D (z v4_31_96051)) (D 7 (z v4_31_96051)) v6_59_96054)) (hBg (z v4_31_96051) (by omega) v6_59_96054 (by omega)) ?_
                    refine jm_callVi (np := 2) (isC := [0, 2, 6]) (isR := [1, 3, 4, 5, 7, 8, 9, 10, 11, 12, 13]) (wc := [(m, .inl (.inr (12, (.ref m0 :: .int (nI mtp) :: .int (nI mfa) :: .int mfp :: .int (nI mat) :: .int (nI msz) :: .int (nI mso) :: .int mpl :: .int mnu :: .long mwd :: .ref m10 :: .ref m11 :: .ref m12 :: .ref m13 :: .ref m14 :: .ref m15 :: .ref m16 :: .ref m17 :: .ref m18 :: .ref m19 :: .ref m20 :: .ref m21 :: .ref m22 :: .ref m23 :: .ref m24 :: .int (nI mns) :: .int (nI mnl) :: .int (nI mne) :: .int (nI mst) :: .int (nI mlt) :: .int (nI mer) :: .ref m31 :: .ref m32 :: .ref m33 :: .ref m34 :: .ref m35 :: .int (nI mwm) :: .int (nI mwt) :: .int (nI mwf) :: .ref m39 :: .ref m40 :: .ref m41 :: .int (nI mla) :: .ref m43 :: .ref m44 :: .ref m45 :: .ref m46 :: .ref m47 :: .ref m48 :: .int (nI mtm) :: .ref m50 :: .ref m51 :: .ref m52 :: .ref m53 :: .ref m54 :: .ref m55 :: .ref m56 :: .ref m57 :: .ref m58 :: .ref m59 :: .ref m60 :: .ref m61 :: .int (nI msn) :: .int (nI mti) :: .ref m64 :: .ref m65 :: .ref m66 :: .ref m67 :: .ref m68 :: .ref m69 :: [])))), (m19, .inl (.inl (kA 1, 6, .inl mc19))), (m23, .inl (.inl (kA 1, 4, .inl mc23)))]) (wr := [(m18, .inl (.inl (kA 1, 6, .inl mc18))), (m20, .inl (.inl (kA 1, 6, .inl mc20))), (m21, .inl (.inl (kA 1, 10, .inl mc21))), (m22, .inl (.inl (kA 1, 50, .inl mc22))), (m24, .inl (.inl (kA 1, 4, .inl mc24))), (m31, .inl (.inl (kA 1, 10, .inl mc31))), (m32, .inl (.inl (kA 1, 450, .inl mc32))), (m33, .inl (.inl (kA 1, 20, .inl mc33))), (m44, .inl (.inl (kA 1, 120, .inl mc44))), (m45, .inl (.inl (kA 1, 2, .inl mc45))), (m46, .inl (.inl (kA 1, 120, .inl fm46_59_96054)))]) (rest := [.int (nI (((60 * t) + v3_31_96051) + v6_59_96054)), .ref m46]) (As := [.int (nI e), .int (pm (bgn (D 4) (dR D (z v4_31_96051)) (D 7 (z v4_31_96051)) v6_59_96054))]) (q0 := 0) h (s_X12_hearsK _ _ kA m e (bgn (D 4) (dR D (z v4_31_96051)) (D 7 (z v4_31_96051)) v6_59_96054) m0 mtp mfa mfp mat msz mso mpl mnu mwd m10 m11 m12 m13 m14 m15 m16 m17 m18 m19 m20 m21 m22 m23 m24 mns mnl mne mst mlt mer m31 m32 m33 m34 m35 mwm mwt mwf m39 m40 m41 mla m43 m44 m45 m46 m47 m48 mtm m50 m51 m52 m53 m54 m55 m56 m57 m58 m59 m60 m61 msn mti m64 m65 m66 m67 m68 m69 mc19 mc23 (D 9 e) EE (show e < 4 by first | assumption | omega) (show (bgn (D 4) (dR D (z v4_31_96051)) (D 7 (z v4_31_96051)) v6_59_96054) ≤ 6 from (Nat.le_trans (bgn_le (fun i h9 => by rw [hRs.1]; exact (hD.2.2.2.2.1 (z v4_31_96051) (by rw [← hRs.2.1]; omega)).2.2 i h9)) hmst)) (show mc23 e = nI (D 9 e) from (hRs.2.2.2.2.2 e (by omega)).1) (show (D 9 e) ≤ 9 from hD.2.2.2.2.2.1 e (by rw [← hRs.2.2.1]; omega)) (show ∀ k, k < (bgn (D 4) (dR D (z v4_31_96051)) (D 7 (z v4_31_96051)) v6_59_96054) → mc19 k = nI (EE k) ∧ EE k ≤ 9 from (fun k9 h9 => hlo k9 (Nat.lt_of_lt_of_le h9 (bgn_le (fun i h9 => by rw [hRs.1]; exact (hD.2.2.2.2.1 (z v4_31_96051) (by rw [← hRs.2.1]; omega)).2.2 i h9)))))) tw_1510 tw_1512 tw_61 tw_99 tw_1513 (by decide +kernel) rfl ⟨Nat.le_of_ble_eq_true rfl, Nat.le_of_ble_eq_true rfl⟩ rfl rfl (by decide +kernel) rfl rfl (by decide +kernel) (by decide +kernel) (Nat.le_of_ble_eq_true rfl) rfl ⟨Nat.le_of_ble_eq_true rfl, Nat.le_of_ble_eq_true rfl⟩ dX12_laySaid_99 ?_
                    rintro r960313 q960311 e960312
                    obtain ⟨p960314, p960315, p960316⟩ := e960312
                    subst p960314
                    replace p960315 : q960311 ≤ 9 := p960315
                    replace p960316 : q960311 = hrN EE (D 9 e) (bgn (D 4) (dR D (z v4_31_96051)) (D 7 (z v4_31_96051)) v6_59_96054) := p960316
                    show J x (mflat [(m18, .inl (.inl (kA 1, 6, .inl mc18))), (m20, .inl (.inl (kA 1, 6, .inl mc20))), (m21, .inl (.inl (kA 1, 10, .inl mc21))), (m22, .inl (.inl (kA 1, 50, .inl mc22))), (m24, .inl (.inl (kA 1, 4, .inl mc24))), (m31, .inl (.inl (kA 1, 10, .inl mc31))), (m32, .inl (.inl (kA 1, 450, .inl mc32))), (m33, .inl (.inl (kA 1, 20, .inl mc33))), (m44, .inl (.inl (kA 1, 120, .inl mc44))), (m45, .inl (.inl (kA 1, 2, .inl mc45))), (m46, .inl (.inl (kA 1, 120, .inl fm46_59_96054))), (m, .inl (.inr (12, (.ref m0 :: .int (nI mtp) :: .int (nI mfa) :: .int mfp :: .int (nI mat) :: .int (nI msz) :: .int (nI mso) :: .int mpl :: .int mnu :: .long mwd :: .ref m10 :: .ref m11 :: .ref m12 :: .ref m13 :: .ref m14 :: .ref m15 :: .ref m16 :: .ref m17 :: .ref m18 :: .ref m19 :: .ref m20 :: .ref m21 :: .ref m22 :: .ref m23 :: .ref m24 :: .int (nI mns) :: .int (nI mnl) :: .int (nI mne) :: .int (nI mst) :: .int (nI mlt) :: .int (nI mer) :: .ref m31 :: .ref m32 :: .ref m33 :: .ref m34 :: .ref m35 :: .int (nI mwm) :: .int (nI mwt) :: .int (nI mwf) :: .ref m39 :: .ref m40 :: .ref m41 :: .int (nI mla) :: .ref m43 :: .ref m44 :: .ref m45 :: .ref m46 :: .ref m47 :: .ref m48 :: .int (nI mtm) :: .ref m50 :: .ref m51 :: .ref m52 :: .ref m53 :: .ref m54 :: .ref m55 :: .ref m56 :: .ref m57 :: .ref m58 :: .ref m59 :: .ref m60 :: .ref m61 :: .int (nI msn) :: .int (nI mti) :: .ref m64 :: .ref m65 :: .ref m66 :: .ref m67 :: .ref m68 :: .ref m69 :: [])))), (m19, .inl (.inl (kA 1, 6, .inl mc19))), (m23, .inl (.inl (kA 1, 4, .inl mc23)))]) [(6, .int (nI v6_59_96054)), (5, .int (nI (z v4_31_96051))), (4, .int (nI v4_31_96051)), (3, .int (nI v3_31_96051)), (0, .ref m), (1, .int (nI t)), (2, .int (nI e))] 0 0 102 [.int (nI q960311), .int (nI (((60 * t) + v3_31_96051) + v6_59_96054)), .ref m46]
                    refine jm_iast (w' := [(m18, .inl (.inl (kA 1, 6, .inl mc18))), (m20, .inl (.inl (kA 1, 6, .inl mc20))), (m21, .inl (.inl (kA 1, 10, .inl mc21))), (m22, .inl (.inl (kA 1, 50, .inl mc22))), (m24, .inl (.inl (kA 1, 4, .inl mc24))), (m31, .inl (.inl (kA 1, 10, .inl mc31))), (m32, .inl (.inl (kA 1, 450, .inl mc32))), (m33, .inl (.inl (kA 1, 20, .inl mc33))), (m44, .inl (.inl (kA 1, 120, .inl mc44))), (m45, .inl (.inl (kA 1, 2, .inl mc45))), (m46, .inl (.inl (kA 1, 120, .inl (upd fm46_59_96054 (((60 * t) + v3_31_96051) + v6_59_96054) (nI q960311))))), (m, .inl (.inr (12, (.ref m0 :: .int (nI mtp) :: .int (nI mfa) :: .int mfp :: .int (nI mat) :: .int (nI msz) :: .int (nI mso) :: .int mpl :: .int mnu :: .long mwd :: .ref m10 :: .ref m11 :: .ref m12 :: .ref m13 :: .ref m14 :: .ref m15 :: .ref m16 :: .ref m17 :: .ref m18 :: .ref m19 :: .ref m20 :: .ref m21 :: .ref m22 :: .ref m23 :: .ref m24 :: .int (nI mns) :: .int (nI mnl) :: .int (nI mne) :: .int (nI mst) :: .int (nI mlt) :: .int (nI mer) :: .ref m31 :: .ref m32 :: .ref m33 :: .ref m34 :: .ref m35 :: .int (nI mwm) :: .int (nI mwt) :: .int (nI mwf) :: .ref m39 :: .ref m40 :: .ref m41 :: .int (nI mla) :: .ref m43 :: .ref m44 :: .ref m45 :: .ref m46 :: .ref m47 :: .ref m48 :: .int (nI mtm) :: .ref m50 :: .ref m51 :: .ref m52 :: .ref m53 :: .ref m54 :: .ref m55 :: .ref m56 :: .ref m57 :: .ref m58 :: .ref m59 :: .ref m60 :: .ref m61 :: .int (nI msn) :: .int (nI mti) :: .ref m64 :: .ref m65 :: .ref m66 :: .ref m67 :: .ref m68 :: .ref m69 :: [])))), (m19, .inl (.inl (kA 1, 6, .inl mc19))), (m23, .inl (.inl (kA 1, 4, .inl mc23)))]) h 10 rfl (((60 * t) + v3_31_96051) + v6_59_96054) rfl (by omega) (by omega) dX12_laySaid_102 rfl ?_
                    refine j_iinc (v := nI (v6_59_96054 + 1)) (lv' := [(6, .int (nI (v6_59_96054 + 1))), (5, .int (nI (z v4_31_96051))), (4, .int (nI v4_31_96051)), (3, .int (nI v3_31_96051)), (0, .ref m), (1, .int (nI t)), (2, .int (nI e))]) h dX12_laySaid_103 0 rfl (nI_add v6_59_96054 1) (by decide) rfl ?_
                    refine j_goto h 59 dX12_laySaid_106 (by decide) ?_
                    refine jm_sub [11, 0, 12, 1, 2, 3, 13, 4, 5, 6, 7, 8, 9, 10] (w' := [(m, .inl (.inr (12, (.ref m0 :: .int (nI mtp) :: .int (nI mfa) :: .int mfp :: .int (nI mat) :: .int (nI msz) :: .int (nI mso) :: .int mpl :: .int mnu :: .long mwd :: .ref m10 :: .ref m11 :: .ref m12 :: .ref m13 :: .ref m14 :: .ref m15 :: .ref m16 :: .ref m17 :: .ref m18 :: .ref m19 :: .ref m20 :: .ref m21 :: .ref m22 :: .ref m23 :: .ref m24 :: .int (nI mns) :: .int (nI mnl) :: .int (nI mne) :: .int (nI mst) :: .int (nI mlt) :: .int (nI mer) :: .ref m31 :: .ref m32 :: .ref m33 :: .ref m34 :: .ref m35 :: .int (nI mwm) :: .int (nI mwt) :: .int (nI mwf) :: .ref m39 :: .ref m40 :: .ref m41 :: .int (nI mla) :: .ref m43 :: .ref m44 :: .ref m45 :: .ref m46 :: .ref m47 :: .ref m48 :: .int (nI mtm) :: .ref m50 :: .ref m51 :: .ref m52 :: .ref m53 :: .ref m54 :: .ref m55 :: .ref m56 :: .ref m57 :: .ref m58 :: .ref m59 :: .ref m60 :: .ref m61 :: .int (nI msn) :: .int (nI mti) :: .ref m64 :: .ref m65 :: .ref m66 :: .ref m67 :: .ref m68 :: .ref m69 :: [])))), (m18, .inl (.inl (kA 1, 6, .inl mc18))), (m19, .inl (.inl (kA 1, 6, .inl mc19))), (m20, .inl (.inl (kA 1, 6, .inl mc20))), (m21, .inl (.inl (kA 1, 10, .inl mc21))), (m22, .inl (.inl (kA 1, 50, .inl mc22))), (m23, .inl (.inl (kA 1, 4, .inl mc23))), (m24, .inl (.inl (kA 1, 4, .inl mc24))), (m31, .inl (.inl (kA 1, 10, .inl mc31))), (m32, .inl (.inl (kA 1, 450, .inl mc32))), (m33, .inl (.inl (kA 1, 20, .inl mc33))), (m44, .inl (.inl (kA 1, 120, .inl mc44))), (m45, .inl (.inl (kA 1, 2, .inl mc45))), (m46, .inl (.inl (kA 1, 120, .inl (upd fm46_59_96054 (((60 * t) + v3_31_96051) + v6_59_96054) (nI q960311)))))]) rfl (by decide +kernel) [0, 1, 2, 3, 4, 5, 6] (lv' := [(6, .int (nI (v6_59_96054 + 1))), (5, .int (nI (z v4_31_96051))), (4, .int (nI v4_31_96051)), (3, .int (nI v3_31_96051)), (0, .ref m), (1, .int (nI t)), (2, .int (nI e))]) rfl ?_
                    exact ih59_96054 (v6_59_96054 + 1) (upd fm46_59_96054 (((60 * t) + v3_31_96051) + v6_59_96054) (nI q960311)) (show ∀ d, d < (v6_59_96054 + 1) → (upd fm46_59_96054 (((60 * t) + v3_31_96051) + v6_59_96054) (nI q960311)) (60 * t + v3_31_96051 + d) = nI (hrN EE (D 9 e) (bgn (D 4) (dR D (z v4_31_96051)) (D 7 (z v4_31_96051)) d)) from all_s (P := fun d => upd _ _ _ (60 * t + v3_31_96051 + d) = nI (hrN EE (D 9 e) (bgn (D 4) (dR D (z v4_31_96051)) (D 7 (z v4_31_96051)) d))) (fun j h9 => by show upd _ _ _ _ = _; rw [pk_un (by omega)]; exact i59_96054_0 j h9) (by show upd _ _ _ _ = _; rw [pk_us, p960316])) (show TxH D EE (D 9 e) z v4_31_96051 (fun m => (upd fm46_59_96054 (((60 * t) + v3_31_96051) + v6_59_96054) (nI q960311)) (60 * t + m)) from (fun i h9 d h8 => by have a9 := tkS_mo (t := ltS D) (x := z) (show i + 1 ≤ v4_31_96051 by omega); have b9 : tkS (ltS D) z (i + 1) = tkS (ltS D) z i + ltS D (z i) := rfl; have c9 : ltS D (z i) = tkS (D 4) (dR D (z i)) (D 7 (z i)) := rfl; show upd _ _ _ (60 * t + (tkS (ltS D) z i + d)) = _; rw [pk_un (by omega)]; exact i59_96054_1 i h9 d h8)) (show ∀ i, (i < 60 * t ∨ 60 * t + 60 ≤ i) → (upd fm46_59_96054 (((60 * t) + v3_31_96051) + v6_59_96054) (nI q960311)) i = mc46 i from (fun i h9 => by rw [pk_un (by omega)]; exact i59_96054_2 i h9)) (show (v6_59_96054 + 1) ≤ ltS D (z v4_31_96051) by first | assumption | omega) (show (v6_59_96054 + 1) ≤ 100000 by first | assumption | omega) (show ltS D (z v4_31_96051) - (v6_59_96054 + 1) < m59_96054 by omega)
              refine jm_sub [0, 1, 2, 3, 4, 5, 6, 7, 8, 9, 10, 11, 12, 13] (w' := [(m, .inl (.inr (12, (.ref m0 :: .int (nI mtp) :: .int (nI mfa) :: .int mfp :: .int (nI mat) :: .int (nI msz) :: .int (nI mso) :: .int mpl :: .int mnu :: .long mwd :: .ref m10 :: .ref m11 :: .ref m12 :: .ref m13 :: .ref m14 :: .ref m15 :: .ref m16 :: .ref m17 :: .ref m18 :: .ref m19 :: .ref m20 :: .ref m21 :: .ref m22 :: .ref m23 :: .ref m24 :: .int (nI mns) :: .int (nI mnl) :: .int (nI mne) :: .int (nI mst) :: .int (nI mlt) :: .int (nI mer) :: .ref m31 :: .ref m32 :: .ref m33 :: .ref m34 :: .ref m35 :: .int (nI mwm) :: .int (nI mwt) :: .int (nI mwf) :: .ref m39 :: .ref m40 :: .ref m41 :: .int (nI mla) :: .ref m43 :: .ref m44 :: .ref m45 :: .ref m46 :: .ref m47 :: .ref m48 :: .int (nI mtm) :: .ref m50 :: .ref m51 :: .ref m52 :: .ref m53 :: .ref m54 :: .ref m55 :: .ref m56 :: .ref m57 :: .ref m58 :: .ref m59 :: .ref m60 :: .ref m61 :: .int (nI msn) :: .int (nI mti) :: .ref m64 :: .ref m65 :: .ref m66 :: .ref m67 :: .ref m68 :: .ref m69 :: [])))), (m18, .inl (.inl (kA 1, 6, .inl mc18))), (m19, .inl (.inl (kA 1, 6, .inl mc19))), (m20, .inl (.inl (kA 1, 6, .inl mc20))), (m21, .inl (.inl (kA 1, 10, .inl mc21))), (m22, .inl (.inl (kA 1, 50, .inl mc22))), (m23, .inl (.inl (kA 1, 4, .inl mc23))), (m24, .inl (.inl (kA 1, 4, .inl mc24))), (m31, .inl (.inl (kA 1, 10, .inl mc31))), (m32, .inl (.inl (kA 1, 450, .inl mc32))), (m33, .inl (.inl (kA 1, 20, .inl mc33))), (m44, .inl (.inl (kA 1, 120, .inl mc44))), (m45, .inl (.inl (kA 1, 2, .inl mc45))), (m46, .inl (.inl (kA 1, 120, .inl fm46_31_96051)))]) rfl (by decide +kernel) [0, 1, 2, 3, 4, 5, 6] (lv' := [(6, .int 0), (5, .int (nI (z v4_31_96051))), (4, .int (nI v4_31_96051)), (3, .int (nI v3_31_96051)), (0, .ref m), (1, .int (nI t)), (2, .int (nI e))]) rfl ?_
              exact lp59_96054 (ltS D (z v4_31_96051) - 0 + 1) 0 fm46_31_96051 (show ∀ d, d < 0 → fm46_31_96051 (60 * t + v3_31_96051 + d) = nI (hrN EE (D 9 e) (bgn (D 4) (dR D (z v4_31_96051)) (D 7 (z v4_31_96051)) d)) from (fun d h9 => absurd h9 (Nat.not_lt_zero d))) (show TxH D EE (D 9 e) z v4_31_96051 (fun m => fm46_31_96051 (60 * t + m)) from i31_96051_1) (show ∀ i, (i < 60 * t ∨ 60 * t + 60 ≤ i) → fm46_31_96051 i = mc46 i from i31_96051_2) (show 0 ≤ ltS D (z v4_31_96051) by first | assumption | omega) (show 0 ≤ 100000 by first | assumption | omega) (Nat.lt_succ_self _)
        refine jm_sub [0, 1, 2, 3, 4, 5, 6, 7, 8, 9, 10, 11, 12, 13] (w' := [(m, .inl (.inr (12, (.ref m0 :: .int (nI mtp) :: .int (nI mfa) :: .int mfp :: .int (nI mat) :: .int (nI msz) :: .int (nI mso) :: .int mpl :: .int mnu :: .long mwd :: .ref m10 :: .ref m11 :: .ref m12 :: .ref m13 :: .ref m14 :: .ref m15 :: .ref m16 :: .ref m17 :: .ref m18 :: .ref m19 :: .ref m20 :: .ref m21 :: .ref m22 :: .ref m23 :: .ref m24 :: .int (nI mns) :: .int (nI mnl) :: .int (nI mne) :: .int (nI mst) :: .int (nI mlt) :: .int (nI mer) :: .ref m31 :: .ref m32 :: .ref m33 :: .ref m34 :: .ref m35 :: .int (nI mwm) :: .int (nI mwt) :: .int (nI mwf) :: .ref m39 :: .ref m40 :: .ref m41 :: .int (nI mla) :: .ref m43 :: .ref m44 :: .ref m45 :: .ref m46 :: .ref m47 :: .ref m48 :: .int (nI mtm) :: .ref m50 :: .ref m51 :: .ref m52 :: .ref m53 :: .ref m54 :: .ref m55 :: .ref m56 :: .ref m57 :: .ref m58 :: .ref m59 :: .ref m60 :: .ref m61 :: .int (nI msn) :: .int (nI mti) :: .ref m64 :: .ref m65 :: .ref m66 :: .ref m67 :: .ref m68 :: .ref m69 :: [])))), (m18, .inl (.inl (kA 1, 6, .inl mc18))), (m19, .inl (.inl (kA 1, 6, .inl mc19))), (m20, .inl (.inl (kA 1, 6, .inl mc20))), (m21, .inl (.inl (kA 1, 10, .inl mc21))), (m22, .inl (.inl (kA 1, 50, .inl mc22))), (m23, .inl (.inl (kA 1, 4, .inl mc23))), (m24, .inl (.inl (kA 1, 4, .inl mc24))), (m31, .inl (.inl (kA 1, 10, .inl mc31))), (m32, .inl (.inl (kA 1, 450, .inl mc32))), (m33, .inl (.inl (kA 1, 20, .inl mc33))), (m44, .inl (.inl (kA 1, 120, .inl mc44))), (m45, .inl (.inl (kA 1, 2, .inl mc45))), (m46, .inl (.inl (kA 1, 120, .inl fm46_2_96042)))]) rfl (by decide +kernel) [0, 1, 2, 3, 4] (lv' := [(4, .int 0), (3, .int 0), (0, .ref m), (1, .int (nI t)), (2, .int (nI e))]) rfl ?_
        exact lp31_96051 (n - 0 + 1) 0 0 fm46_2_96042 (show 0 = tkS (ltS D) z 0 from rfl) (show TxH D EE (D 9 e) z 0 (fun m => fm46_2_96042 (60 * t + m)) from TxH_0) (show ∀ i, (i < 60 * t ∨ 60 * t + 60 ≤ i) → fm46_2_96042 i = mc46 i from i2_96042_0) (show 0 ≤ n by first | assumption | omega) (show 0 ≤ 60 by first | assumption | omega) (show 0 ≤ 100000 by first | assumption | omega) (show 0 ≤ 100000 by first | assumption | omega) (Nat.lt_succ_self _)
      · have z960238n : ¬ 60 ≤ v3_2_96042 := fun q9 => z960238 ((nI_leI (a := 60) (b := v3_2_96042) (by omega) (by omega)).mpr q9)
        refine j_aload_n h 1 rfl rfl dX12_laySaid_8 ?_
        refine jm_get h iw_X12 0 rfl rfl 46 (by decide +kernel) tw_1202 rfl dX12_laySaid_9 ?_
        refine j_bipush (v := 60) h (by decide) dX12_laySaid_12 ?_
        refine j_iload_n h 2 rfl rfl dX12_laySaid_14 ?_
        refine j_imul h dX12_laySaid_15 ?_
        refine j_top (b := nI (60 * t)) (pk_mul 60 t) ?_
        refine j_iload_n h 0 rfl rfl dX12_laySaid_16 ?_
        refine j_iadd h dX12_laySaid_17 ?_
        refine j_top (b := nI ((60 * t) + v3_2_96042)) (nI_add (60 * t) v3_2_96042) ?_
        refine j_iconst (v := 0) h (by decide) dX12_laySaid_18 ?_
        refine jm_iast (w' := [(m, .inl (.inr (12, (.ref m0 :: .int (nI mtp) :: .int (nI mfa) :: .int mfp :: .int (nI mat) :: .int (nI msz) :: .int (nI mso) :: .int mpl :: .int mnu :: .long mwd :: .ref m10 :: .ref m11 :: .ref m12 :: .ref m13 :: .ref m14 :: .ref m15 :: .ref m16 :: .ref m17 :: .ref m18 :: .ref m19 :: .ref m20 :: .ref m21 :: .ref m22 :: .ref m23 :: .ref m24 :: .int (nI mns) :: .int (nI mnl) :: .int (nI mne) :: .int (nI mst) :: .int (nI mlt) :: .int (nI mer) :: .ref m31 :: .ref m32 :: .ref m33 :: .ref m34 :: .ref m35 :: .int (nI mwm) :: .int (nI mwt) :: .int (nI mwf) :: .ref m39 :: .ref m40 :: .ref m41 :: .int (nI mla) :: .ref m43 :: .ref m44 :: .ref m45 :: .ref m46 :: .ref m47 :: .ref m48 :: .int (nI mtm) :: .ref m50 :: .ref m51 :: .ref m52 :: .ref m53 :: .ref m54 :: .ref m55 :: .ref m56 :: .ref m57 :: .ref m58 :: .ref m59 :: .ref m60 :: .ref m61 :: .int (nI msn) :: .int (nI mti) :: .ref m64 :: .ref m65 :: .ref m66 :: .ref m67 :: .ref m68 :: .ref m69 :: [])))), (m18, .inl (.inl (kA 1, 6, .inl mc18))), (m19, .inl (.inl (kA 1, 6, .inl mc19))), (m20, .inl (.inl (kA 1, 6, .inl mc20))), (m21, .inl (.inl (kA 1, 10, .inl mc21))), (m22, .inl (.inl (kA 1, 50, .inl mc22))), (m23, .inl (.inl (kA 1, 4, .inl mc23))), (m24, .inl (.inl (kA 1, 4, .inl mc24))), (m31, .inl (.inl (kA 1, 10, .inl mc31))), (m32, .inl (.inl (kA 1, 450, .inl mc32))), (m33, .inl (.inl (kA 1, 20, .inl mc33))), (m44, .inl (.inl (kA 1, 120, .inl mc44))), (m45, .inl (.inl (kA 1, 2, .inl mc45))), (m46, .inl (.inl (kA 1, 120, .inl (upd fm46_2_96042 ((60 * t) + v3_2_96042) 0))))]) h 13 rfl ((60 * t) + v3_2_96042) rfl (by omega) (by omega) dX12_laySaid_19 rfl ?_
        refine j_iinc (v := nI (v3_2_96042 + 1)) (lv' := [(3, .int (nI (v3_2_96042 + 1))), (0, .ref m), (1, .int (nI t)), (2, .int (nI e))]) h dX12_laySaid_20 0 rfl (nI_add v3_2_96042 1) (by decide) rfl ?_
        refine j_goto h 2 dX12_laySaid_23 (by decide) ?_
        refine jm_sub [0, 1, 2, 3, 4, 5, 6, 7, 8, 9, 10, 11, 12, 13] (w' := [(m, .inl (.inr (12, (.ref m0 :: .int (nI mtp) :: .int (nI mfa) :: .int mfp :: .int (nI mat) :: .int (nI msz) :: .int (nI mso) :: .int mpl :: .int mnu :: .long mwd :: .ref m10 :: .ref m11 :: .ref m12 :: .ref m13 :: .ref m14 :: .ref m15 :: .ref m16 :: .ref m17 :: .ref m18 :: .ref m19 :: .ref m20 :: .ref m21 :: .ref m22 :: .ref m23 :: .ref m24 :: .int (nI mns) :: .int (nI mnl) :: .int (nI mne) :: .int (nI mst) :: .int (nI mlt) :: .int (nI mer) :: .ref m31 :: .ref m32 :: .ref m33 :: .ref m34 :: .ref m35 :: .int (nI mwm) :: .int (nI mwt) :: .int (nI mwf) :: .ref m39 :: .ref m40 :: .ref m41 :: .int (nI mla) :: .ref m43 :: .ref m44 :: .ref m45 :: .ref m46 :: .ref m47 :: .ref m48 :: .int (nI mtm) :: .ref m50 :: .ref m51 :: .ref m52 :: .ref m53 :: .ref m54 :: .ref m55 :: .ref m56 :: .ref m57 :: .ref m58 :: .ref m59 :: .ref m60 :: .ref m61 :: .int (nI msn) :: .int (nI mti) :: .ref m64 :: .ref m65 :: .ref m66 :: .ref m67 :: .ref m68 :: .ref m69 :: [])))), (m18, .inl (.inl (kA 1, 6, .inl mc18))), (m19, .inl (.inl (kA 1, 6, .inl mc19))), (m20, .inl (.inl (kA 1, 6, .inl mc20))), (m21, .inl (.inl (kA 1, 10, .inl mc21))), (m22, .inl (.inl (kA 1, 50, .inl mc22))), (m23, .inl (.inl (kA 1, 4, .inl mc23))), (m24, .inl (.inl (kA 1, 4, .inl mc24))), (m31, .inl (.inl (kA 1, 10, .inl mc31))), (m32, .inl (.inl (kA 1, 450, .inl mc32))), (m33, .inl (.inl (kA 1, 20, .inl mc33))), (m44, .inl (.inl (kA 1, 120, .inl mc44))), (m45, .inl (.inl (kA 1, 2, .inl mc45))), (m46, .inl (.inl (kA 1, 120, .inl (upd fm46_2_96042 ((60 * t) + v3_2_96042) 0))))]) rfl (by decide +kernel) [0, 1, 2, 3] (lv' := [(3, .int (nI (v3_2_96042 + 1))), (0, .ref m), (1, .int (nI t)), (2, .int (nI e))]) rfl ?_
        exact ih2_96042 (v3_2_96042 + 1) (upd fm46_2_96042 ((60 * t) + v3_2_96042) 0) (show ∀ i, (i < 60 * t ∨ 60 * t + 60 ≤ i) → (upd fm46_2_96042 ((60 * t) + v3_2_96042) 0) i = mc46 i from (fun i h9 => by rw [pk_un (by omega)]; exact i2_96042_0 i h9)) (show (v3_2_96042 + 1) ≤ 60 by first | assumption | omega) (show (v3_2_96042 + 1) ≤ 100000 by first | assumption | omega) (show 100001 - (v3_2_96042 + 1) < m2_96042 by first | exact Nat.lt_of_lt_of_le (Nat.sub_lt_sub_left (Nat.lt_of_le_of_lt (show v3_2_96042 ≤ 100000 by assumption) (Nat.lt_succ_self 100000)) (Nat.lt_succ_self v3_2_96042)) (Nat.le_of_lt_succ hm2_96042) | omega)
  refine jm_sub [0, 1, 2, 3, 4, 5, 6, 7, 8, 9, 10, 11, 12, 13] (w' := [(m, .inl (.inr (12, (.ref m0 :: .int (nI mtp) :: .int (nI mfa) :: .int mfp :: .int (nI mat) :: .int (nI msz) :: .int (nI mso) :: .int mpl :: .int mnu :: .long mwd :: .ref m10 :: .ref m11 :: .ref m12 :: .ref m13 :: .ref m14 :: .ref m15 :: .ref m16 :: .ref m17 :: .ref m18 :: .ref m19 :: .ref m20 :: .ref m21 :: .ref m22 :: .ref m23 :: .ref m24 :: .int (nI mns) :: .int (nI mnl) :: .int (nI mne) :: .int (nI mst) :: .int (nI mlt) :: .int (nI mer) :: .ref m31 :: .ref m32 :: .ref m33 :: .ref m34 :: .ref m35 :: .int (nI mwm) :: .int (nI mwt) :: .int (nI mwf) :: .ref m39 :: .ref m40 :: .ref m41 :: .int (nI mla) :: .ref m43 :: .ref m44 :: .ref m45 :: .ref m46 :: .ref m47 :: .ref m48 :: .int (nI mtm) :: .ref m50 :: .ref m51 :: .ref m52 :: .ref m53 :: .ref m54 :: .ref m55 :: .ref m56 :: .ref m57 :: .ref m58 :: .ref m59 :: .ref m60 :: .ref m61 :: .int (nI msn) :: .int (nI mti) :: .ref m64 :: .ref m65 :: .ref m66 :: .ref m67 :: .ref m68 :: .ref m69 :: [])))), (m18, .inl (.inl (kA 1, 6, .inl mc18))), (m19, .inl (.inl (kA 1, 6, .inl mc19))), (m20, .inl (.inl (kA 1, 6, .inl mc20))), (m21, .inl (.inl (kA 1, 10, .inl mc21))), (m22, .inl (.inl (kA 1, 50, .inl mc22))), (m23, .inl (.inl (kA 1, 4, .inl mc23))), (m24, .inl (.inl (kA 1, 4, .inl mc24))), (m31, .inl (.inl (kA 1, 10, .inl mc31))), (m32, .inl (.inl (kA 1, 450, .inl mc32))), (m33, .inl (.inl (kA 1, 20, .inl mc33))), (m44, .inl (.inl (kA 1, 120, .inl mc44))), (m45, .inl (.inl (kA 1, 2, .inl mc45))), (m46, .inl (.inl (kA 1, 120, .inl mc46)))]) rfl (by decide +kernel) [0, 1, 2, 3] (lv' := [(3, .int 0), (0, .ref m), (1, .int (nI t)), (2, .int (nI e))]) rfl ?_
  exact lp2_96042 (100001 - 0 + 1) 0 mc46 (show ∀ i, (i < 60 * t ∨ 60 * t + 60 ≤ i) → mc46 i = mc46 i from (fun i _ => rfl)) (show 0 ≤ 60 by first | assumption | omega) (show 0 ≤ 100000 by first | assumption | omega) (Nat.lt_succ_self _)
