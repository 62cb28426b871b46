def bIx (e m : Int32) : Int32 := if e < 0 then 0 else if m ≤ e then 0 else 1
theorem bIx_cases (e : Int32) (n : Nat) (hn : n < 2147483648) : bIx e (nI n) = 0 ∨ ∃ k : Nat, k < n ∧ e = nI k ∧ bIx (nI k) (nI n) = 1 := by
  unfold bIx
  by_cases h : e < 0
  · exact Or.inl (if_pos h)
  · obtain ⟨j, hj, rfl⟩ := nI_of h
    rcases Nat.lt_or_ge j n with q | q
    · refine Or.inr ⟨j, q, rfl, ?_⟩
      rw [if_neg h, if_neg (nI_ge q hn)]
    · refine Or.inl ?_
      rw [if_neg h, if_pos (nI_le q hj)]
theorem bIxn (k n : Nat) (hk : k < 2147483648) (hn : n < 2147483648) : (n ≤ k ∧ bIx (nI k) (nI n) = 0) ∨ (k < n ∧ bIx (nI k) (nI n) = 1) := by
  unfold bIx
  rw [if_neg (nI_pos hk)]
  rcases Nat.lt_or_ge k n with q | q
  · exact Or.inr ⟨q, if_neg (nI_ge q hn)⟩
  · exact Or.inl ⟨q, if_pos (nI_le q hk)⟩
/-- -1, or a number -/
def pm : Nat → Int32
  | 0 => -1
  | j + 1 => nI j
theorem pm_dec (n : Nat) : nI n + (-1) = pm n := by
  cases n with
  | zero => decide
  | succ n => exact pk_m1 n
theorem pm_sub (n : Nat) : nI n - 1 = pm n := by
  cases n with
  | zero => decide
  | succ n => exact nI_pred n
theorem nI_ofp {x : Int32} (h : 0 ≤ x) : ∃ j : Nat, j < 2 ^ 31 ∧ x = nI j := nI_of (fun q => Int32.lt_irrefl (Int32.lt_of_le_of_lt h q))
theorem nI_m1 {g : Nat} (h : g < 2147483648) : ¬ nI g = -1 := fun q => by
  have h1 := nI_pos (n := g) h
  rw [q] at h1
  exact h1 (by decide)
theorem nx_min {a b : Nat} (ha : a < 2147483648) (hb : b < 2147483648) : (if nI b < nI a then nI b else nI a) = nI (min a b) := by
  by_cases h : b < a
  · rw [if_pos (nI_lt h ha), Nat.min_eq_right (by omega)]
  · rw [if_neg (nI_nlt (by omega) hb), Nat.min_eq_left (by omega)]
theorem nx_max {a b : Nat} (ha : a < 2147483648) (hb : b < 2147483648) : (if nI a < nI b then nI b else nI a) = nI (max a b) := by
  by_cases h : a < b
  · rw [if_pos (nI_lt h hb), Nat.max_eq_right (by omega)]
  · rw [if_neg (nI_nlt (by omega) ha), Nat.max_eq_left (by omega)]
theorem mx0' (x : Int32) : ∃ j : Nat, j < 2147483648 ∧ (if 0 < x then x else 0) = nI j := by
  by_cases h : 0 < x
  · obtain ⟨j, hj, rfl⟩ := nI_of (x := x) (fun q => Int32.lt_irrefl (Int32.lt_trans q h))
    exact ⟨j, hj, if_pos h⟩
  · exact ⟨0, by decide, if_neg h⟩
theorem zn1 {b : Nat} (hb : b ≤ 1) : narrow .boolean (.int (nI b)) = .int (nI b) := by
  rcases (show b = 0 ∨ b = 1 by omega) with rfl | rfl
  · rfl
  · rfl
theorem tab_cases11 {a : Int32} (h : ¬ (a.toInt < 0 ∨ 11 < a.toInt)) : a = 0 ∨ a = 1 ∨ a = 2 ∨ a = 3 ∨ a = 4 ∨ a = 5 ∨ a = 6 ∨ a = 7 ∨ a = 8 ∨ a = 9 ∨ a = 10 ∨ a = 11 := by
  have h1 : ¬ a < 0 := fun q => h (Or.inl (Int32.lt_iff_toInt_lt.mp q))
  obtain ⟨j, hj, rfl⟩ := nI_of h1
  rw [nI_toInt hj] at h
  have : j ≤ 11 := by omega
  have : ∀ j, j < 12 → (nI j = 0 ∨ nI j = 1 ∨ nI j = 2 ∨ nI j = 3 ∨ nI j = 4 ∨ nI j = 5 ∨ nI j = 6 ∨ nI j = 7 ∨ nI j = 8 ∨ nI j = 9 ∨ nI j = 10 ∨ nI j = 11) := by decide
  exact this j (by omega)
/-- rows of numbers below a bound, and the like -/
def RoOk (n sz : Nat) (row : Nat → Int32) : Prop := ∀ i, i < sz → ∃ k, k < n ∧ row i = nI k
def TkOk (n : Nat) (tk : Nat → Int32) : Prop := ∀ i, i < n → ∃ k, 1 ≤ k ∧ k ≤ 9 ∧ tk i = nI k
def SzOk (m : Nat) (sz : Nat → Int32) : Prop := ∀ i, i < m → ∃ k, 1 ≤ k ∧ k ≤ 5 ∧ sz i = nI k
def RwOk (m n : Nat) (sz : Nat → Int32) (rw : Nat → Nat → Int32) : Prop := ∀ i j c, i < m → sz i = nI c → c ≤ 5 → j < c → ∃ k, k < n ∧ rw i j = nI k
def LtOk (l : Nat) (lt : Nat → Int32) : Prop := ∀ i, i < l → ∃ k, 1 ≤ k ∧ k ≤ 45 ∧ lt i = nI k
def FtOk (l : Nat) (la : Nat → Nat → Int32) : Prop := ∀ i f, i < l → f ≤ 1 → ∃ m, m ≤ 2 ∧ la i f = pm m
def tsum (tk row : Nat → Int32) : Nat → Nat
  | 0 => 0
  | j + 1 => tsum tk row j + (tk (row j).toNatClampNeg).toNatClampNeg
def LsOk (m : Nat) (sz : Nat → Int32) (rw : Nat → Nat → Int32) (tk lt : Nat → Int32) : Prop := ∀ i c, i < m → sz i = nI c → c ≤ 5 → lt i = nI (tsum tk (rw i) c)
theorem RoOk_step {n sz k : Nat} {row : Nat → Int32} (h : RoOk n sz row) (hk : k < n) : RoOk n (sz + 1) (upd row sz (nI k)) := by
  intro i hi
  by_cases e : i = sz
  · subst e
    exact ⟨k, hk, pk_us⟩
  · rw [pk_un e]
    exact h i (by omega)
theorem RoOk_mono {n sz sz' : Nat} {row : Nat → Int32} (h : RoOk n sz row) (hs : sz' ≤ sz) : RoOk n sz' row := fun i hi => h i (by omega)
theorem RoOk_zero (n : Nat) (row : Nat → Int32) : RoOk n 0 row := fun i hi => absurd hi (Nat.not_lt_zero i)
theorem RoOk_cpy {n sz : Nat} {f g : Nat → Int32} (h : RoOk n sz f) (hs : sz ≤ 60) : RoOk n sz (va_cpy f g 0 0 60) := fun i hi => by
  rw [pk_cpy_in (Nat.zero_le i) (by omega), Nat.zero_add, Nat.sub_zero]
  exact h i hi
theorem tsum_le {n c : Nat} {tk row : Nat → Int32} (ht : TkOk n tk) (hr : ∀ j, j < c → ∃ k, k < n ∧ row j = nI k) (hn : n ≤ 6) : ∀ {i : Nat}, i ≤ c → i ≤ tsum tk row i ∧ tsum tk row i ≤ 9 * i
  | 0, _ => ⟨Nat.le_refl _, Nat.le_refl _⟩
  | i + 1, h => by
    have h1 := tsum_le ht hr hn (i := i) (by omega)
    obtain ⟨k, hk, hke⟩ := hr i (by omega)
    obtain ⟨t, t1, t9, hte⟩ := ht k hk
    show i + 1 ≤ tsum tk row i + (tk (row i).toNatClampNeg).toNatClampNeg ∧ tsum tk row i + (tk (row i).toNatClampNeg).toNatClampNeg ≤ 9 * (i + 1)
    rw [hke, nI_clamp (by omega), hte, nI_clamp (by omega)]
    omega
section JSN
variable {x : Cx} {cc : ByteArray} {own : String} {kA : Nat → ClassId} {rm : Room} {nL : Nat} {ws : va_W} {w : mW} {lv : List (Nat × Value)} {cells slots pc : Nat} {st : List Value}
theorem j_callSNi (h : Ok x cc own kA rm nL) {S : Type} {post : Int32 → S → Prop} {w1 : S → va_W} {y : MethodName} {bc : ByteArray} {n k mc ms idx np : Nat} {rt : Option FieldType} {wc : va_W} {As rest : List Value} (hM : CtI x.1.2.1 y bc n rt k mc ms x.2.2.2.1.2.1 kA As wc post w1) (t1 : (own, idx, y) ∈ nNl) (t2 : Cond.static y ∈ TT) (t4 : Cond.initialized y.cls ∈ TT) (t5 : Cond.code y bc n rt ∈ TT)
    (hd : y.cls ≠ "java/lang/invoke/MethodHandle" ∧ y.cls ≠ "java/lang/invoke/VarHandle" ∧ (parseMethodDescriptor y.desc).map (fun d => d.parameters.length) = some np) (hlen : As.length = np) (hRm : k + 1 ≤ rm.frames ∧ 8 + (n + 11) + 40 * k ≤ rm.locals) (isC isR : List Nat) {wr : va_W} (hCf : isC.filterMap (fun i => ws[i]?) = wc) (hnC : va_nd isC = true) (hC : isC.map (fun i => ws[i]?) = wc.map some) (hR : isR.map (fun i => ws[i]?) = wr.map some) (hn : va_nd isR = true) (hdis : ∀ i ∈ isR, i ∉ isC) (hst : (rest.map fun v => v.category).sum ≤ 8) (hstk : st = As.reverse ++ rest) (hf : cells + mc ≤ rm.cells ∧ slots + ms ≤ rm.slots) (d : decode cc pc = .ok (.invokestatic idx, 3))
    (kk : ∀ (r : Int32) (u : S), post r u → J x (wr ++ w1 u) lv (cells + mc) (slots + ms) (pc + 3) (.int r :: rest)) : J x ws lv cells slots pc st := fun H locs ls hP hD hS hl => by
  refine j_afterI h hP hD hS hl (va_runSN (As := As) (rest := rest) (nL := x.2.2.2.1.2.2) (host := RX11) ⟨h.ex, h.by, h.ml, h.ow, h.ts⟩ (hM H.size) ⟨va_cnB np h.ts (gC t5 TT_good) rfl rfl rfl (h.nw.1 _ t1) (h.ts _ t4) hd (by rw [h.rr]; exact hRm), h.ts _ t2, trivial⟩ ⟨nPre_blind, fun U hU hW => ⟨rfl, by rw [hU], by rw [hU]; exact hP.sub isC hCf, va_K.moved hW.alike h.kk, (hD.sub isC hnC hC).weaken (fun _ _ _ _ => trivial), nNW.warm hW h.nw, sSt.pass h.ss hS hU hW (va_free hD hS h.aa isC hC)⟩⟩ rfl hlen hl.1 hstk (lv_room hst) d (by rw [h.rr]; exact hf)) isC isR hC hR hn hdis kk
theorem jm_callSNi (h : Ok x cc own kA rm nL) {S : Type} {post : Int32 → S → Prop} {w1 : S → mW} {y : MethodName} {bc : ByteArray} {n k mc ms idx np : Nat} {rt : Option FieldType} {wc : mW} {As rest : List Value} (hM : CtI x.1.2.1 y bc n rt k mc ms x.2.2.2.1.2.1 kA As (mflat wc) post (fun u => mflat (w1 u))) (t1 : (own, idx, y) ∈ nNl) (t2 : Cond.static y ∈ TT) (t4 : Cond.initialized y.cls ∈ TT) (t5 : Cond.code y bc n rt ∈ TT)
    (hd : y.cls ≠ "java/lang/invoke/MethodHandle" ∧ y.cls ≠ "java/lang/invoke/VarHandle" ∧ (parseMethodDescriptor y.desc).map (fun d => d.parameters.length) = some np) (hlen : As.length = np) (hRm : k + 1 ≤ rm.frames ∧ 8 + (n + 11) + 40 * k ≤ rm.locals) (isC isR : List Nat) {wr : mW} (hnC : va_nd isC = true) (hC : isC.map (fun i => w[i]?) = wc.map some) (hR : isR.map (fun i => w[i]?) = wr.map some) (hn : va_nd isR = true) (hdis : ∀ i ∈ isR, i ∉ isC) (hst : (rest.map fun v => v.category).sum ≤ 8) (hstk : st = As.reverse ++ rest) (hf : cells + mc ≤ rm.cells ∧ slots + ms ≤ rm.slots) (d : decode cc pc = .ok (.invokestatic idx, 3))
    (kk : ∀ (r : Int32) (u : S), post r u → J x (mflat (wr ++ w1 u)) lv (cells + mc) (slots + ms) (pc + 3) (.int r :: rest)) : J x (mflat w) lv cells slots pc st := j_callSNi h hM t1 t2 t4 t5 hd hlen hRm (isC.flatMap (mps w)) (isR.flatMap (mps w)) (map_filterMap (mps_map hC)) (mps_nd hC hnC) (mps_map hC) (mps_map hR) (mps_nd hR hn) (mps_dis hC hR hdis) hst hstk hf d (fun r u hp => by rw [← mflat_app]; exact kk r u hp)
end JSN
