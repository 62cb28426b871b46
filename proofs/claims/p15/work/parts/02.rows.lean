def nx_o (c : ClassId) (N h i : Nat) : Cell := arrV c N (fun j => va_rf (if j < i then some (h + 1 + j) else none))
theorem nx_o_0 (c : ClassId) (N h : Nat) : nx_o c N h 0 = ({ cls := c, slots := Array.replicate N .null, vm := .none } : Cell) := by
  rw [arrV_new]
  refine congrArg (arrV c N) (funext fun j => ?_)
  simp [va_rf]
theorem nx_o_up (c : ClassId) (N h i : Nat) : (nx_o c N h i).setSlot i (.ref (h + 1 + i)) = nx_o c N h (i + 1) := by
  unfold nx_o
  rw [arrV_store]
  refine congrArg (arrV c N) (funext fun j => ?_)
  unfold updV
  by_cases e : j = i
  · subst e
    simp [va_rf]
  · rw [if_neg e]
    show va_rf (if j < i then some (h + 1 + j) else none) = _
    by_cases h1 : j < i
    · rw [if_pos h1, if_pos (Nat.lt_succ_of_lt h1)]
    · rw [if_neg h1, if_neg (by omega)]
/-- the state once the outer row and i inner rows are made -/
def nx_r (T : State) (c : ClassId) (N : Nat) (z : Cell) : Nat → State
  | 0 => T.pushCell (nx_o c N T.heap.size 0)
  | i + 1 => ((nx_r T c N z i).pushCell z).setCell T.heap.size (nx_o c N T.heap.size (i + 1))
def nx_F (T U : State) (c : ClassId) (N : Nat) (z : Cell) (i : Nat) : Prop :=
  U.heap.size = T.heap.size + 1 + i ∧ U.heap[T.heap.size]? = some (nx_o c N T.heap.size i) ∧ U.vm = T.vm ∧ U.slotsUsed = T.slotsUsed + N + i * z.slots.size ∧
  (∀ a : Nat, a < T.heap.size → U.heap[a]? = T.heap[a]?) ∧ ∀ j : Nat, j < i → U.heap[T.heap.size + 1 + j]? = some z
theorem nx_r_F (T : State) (c : ClassId) (N : Nat) (z : Cell) : ∀ i, nx_F T (nx_r T c N z i) c N z i
  | 0 => by
    refine ⟨by simp [nx_r], by simp [nx_r], rfl, by simp [nx_r, nx_o, arrV_size], fun a ha => ?_, fun j hj => absurd hj (Nat.not_lt_zero j)⟩
    exact State.heap_pushCell_of_lt _ _ ha
  | i + 1 => by
    obtain ⟨h1, h2, h3, h4, h5, h6⟩ := nx_r_F T c N z i
    have hlt : T.heap.size < (nx_r T c N z i).heap.size := by omega
    have hc : ((nx_r T c N z i).pushCell z).heap[T.heap.size]? = some (nx_o c N T.heap.size i) := by
      rw [State.heap_pushCell_of_lt (h := hlt)]
      exact h2
    refine ⟨?_, State.heap_setCell_self hc, by simp [nx_r, h3], ?_, fun a ha => ?_, fun j hj => ?_⟩
    · simp [nx_r, State.setCell, h1]
      omega
    · simp [nx_r, h4, Nat.succ_mul]
      omega
    · show (((nx_r T c N z i).pushCell z).setCell T.heap.size _).heap[a]? = _
      have ha2 : a < (nx_r T c N z i).heap.size := by omega
      rw [State.heap_setCell_other (Nat.ne_of_gt ha), State.heap_pushCell_of_lt (h := ha2)]
      exact h5 a ha
    · show (((nx_r T c N z i).pushCell z).setCell T.heap.size _).heap[T.heap.size + 1 + j]? = _
      rw [State.heap_setCell_other (show T.heap.size ≠ T.heap.size + 1 + j by omega)]
      rcases Nat.lt_or_ge j i with q | q
      · have hj2 : T.heap.size + 1 + j < (nx_r T c N z i).heap.size := by omega
        rw [State.heap_pushCell_of_lt (h := hj2)]
        exact h6 j q
      · have e : j = i := by omega
        subst e
        rw [← h1]
        exact State.heap_pushCell_size _ _
theorem nx_r_top (T : State) (f : JFrame) (c : ClassId) (N : Nat) (z : Cell) : ∀ i, nx_r (T.setTop f) c N z i = (nx_r T c N z i).setTop f
  | 0 => rfl
  | i + 1 => by simp only [nx_r, nx_r_top T f c N z i, State.heap_setTop, State.pushCell_setTop, State.setCell_setTop]
section NXW
variable {E : CtlPost} {e : Env} {d : Bool} {acts : List Action} {s : State}
theorem nx_fit {t : FieldType} (h : t.isReference = true) : fits t .null = true ∧ ∀ a : Addr, fits t (.ref a) = true := by
  cases t <;> first | (simp [FieldType.isReference] at h; done) | exact ⟨rfl, fun _ => rfl⟩
/-- the machine's making of n rows of m -/
theorem nx_make {c comp cc : ClassId} {k kc : Class} {t0 ty : FieldType} {n m : Int32} (hk : s.vm.classes[c]? = some k) (hkind : k.kind = .array comp t0) (href : t0.isReference = true)
    (hkc : s.vm.classes[comp]? = some kc) (hkindc : kc.kind = .array cc ty) (hn : ¬ n < 0) (hm : ¬ m < 0)
    (hl1 : ¬ n.toNatClampNeg > e.platform.arrayLengthLimit) (hh1 : ¬ n.toNatClampNeg * componentBytes t0 > e.platform.maxHeapBytes)
    (hl2 : ¬ m.toNatClampNeg > e.platform.arrayLengthLimit) (hh2 : ¬ m.toNatClampNeg * componentBytes ty > e.platform.maxHeapBytes) (hdf : fits ty (defaultValue ty) = true)
    (hc : s.heap.size + (1 + n.toNatClampNeg) ≤ e.platform.maxCells) (hs : s.slotsUsed + (n.toNatClampNeg + n.toNatClampNeg * m.toNatClampNeg) ≤ e.platform.maxSlots)
    {Q : Addr → Pre} (hq : ∀ d' acts', Q s.heap.size d' acts' (nx_r s c n.toNatClampNeg { cls := comp, slots := Array.replicate m.toNatClampNeg (defaultValue ty) } n.toNatClampNeg)) :
    wp (multianewarray.make c [n, m]) Q E e d acts s := by
  generalize hz : ({ cls := comp, slots := Array.replicate m.toNatClampNeg (defaultValue ty) } : Cell) = z at hq
  have hzs : z.slots.size = m.toNatClampNeg := by rw [← hz]; simp
  have hno : ([m].find? (· < 0)) = none := by simp [hm]
  have hmul : ∀ i, i < n.toNatClampNeg → i * m.toNatClampNeg + m.toNatClampNeg ≤ n.toNatClampNeg * m.toNatClampNeg := fun i hi => by
    have := Nat.mul_le_mul_right m.toNatClampNeg (show i + 1 ≤ n.toNatClampNeg from hi)
    rw [Nat.succ_mul] at this
    exact this
  rw [multianewarray.make]
  simp only [wp_bind', W.ite, hn, if_false, wp_pure', W.theClass, hk, hkind, Option.some.injEq, exists_eq_left']
  refine W.newArray_of hk hkind hl1 hh1 (by omega) (by have := Nat.zero_le (n.toNatClampNeg * m.toNatClampNeg); omega) (nx_fit href).1 fun acts1 => ?_
  simp only [hno]
  rw [ite_self, wp_bind', Std.Legacy.Range.forIn_eq_forIn_range', show ([:n.toNatClampNeg] : Std.Legacy.Range).size = n.toNatClampNeg by simp [Std.Legacy.Range.size]]
  show wp (forIn (List.range' 0 n.toNatClampNeg 1) PUnit.unit _) _ E e d acts1 _
  refine wp_forIn_inv (fun r U => ∃ i, i ≤ n.toNatClampNeg ∧ r = List.range' i (n.toNatClampNeg - i) ∧ U = nx_r s c n.toNatClampNeg z i) _ _ ⟨0, Nat.zero_le _, rfl, by show _ = s.pushCell _; rw [nx_o_0]⟩ ?_ ?_
  · rintro x r U d' acts' Q' ⟨i, hi, hr, rfl⟩ hnext
    have hlt : i < n.toNatClampNeg := by
      rcases Nat.lt_or_ge i n.toNatClampNeg with h | h
      · exact h
      · rw [show n.toNatClampNeg - i = 0 by omega] at hr
        cases hr
    rw [show n.toNatClampNeg - i = (n.toNatClampNeg - (i + 1)) + 1 by omega, List.range'_succ] at hr
    obtain ⟨rfl, hr⟩ := List.cons.inj hr
    obtain ⟨f1, f2, f3, f4, -, -⟩ := nx_r_F s c n.toNatClampNeg z x
    have hm2 := hmul x hlt
    have hlt0 : s.heap.size < (nx_r s c n.toNatClampNeg z x).heap.size := by omega
    simp only [wp_bind']
    rw [multianewarray.make]
    simp only [wp_bind', W.ite, hm, if_false, wp_pure', W.theClass, f3, hkc, hkindc, Option.some.injEq, exists_eq_left']
    refine W.newArray_of (by rw [f3]; exact hkc) hkindc hl2 hh2 (by rw [f1]; omega) (by rw [f4, hzs]; omega) hdf fun acts2 => ?_
    rw [hz]
    simp only [wp_bind', W.writeLoc, wp_pure']
    refine ⟨nx_o c n.toNatClampNeg s.heap.size x, by rw [State.heap_pushCell_of_lt (h := hlt0)]; exact f2, by simp [nx_o, arrV], by rw [nx_o, arrV_size]; exact hlt, ?_, hnext _ _ _ ⟨x + 1, hlt, hr, ?_⟩⟩
    · simp [nx_o, arrV, State.fitsSlot, State.slotType?, f3, hk, hkind, (nx_fit href).2]
    · rw [f1, nx_o_up]
      rfl
  · rintro U d' acts' ⟨i, hi, hr, rfl⟩
    have hiN : i = n.toNatClampNeg := by
      rcases Nat.lt_or_ge i n.toNatClampNeg with h | h
      · rw [show n.toNatClampNeg - i = (n.toNatClampNeg - (i + 1)) + 1 by omega, List.range'_succ] at hr
        cases hr
      · omega
    subst hiN
    simp only [wp_pure']
    exact hq _ _
end NXW
/-- the class of arrays of arrays is there -/
def nAOA (t : FieldType) (U : State) : Prop := ∃ (comp c : ClassId) (k : Class), U.vm.findClass (FieldType.array t).toString = some comp ∧ U.vm.classes[c]? = some k ∧ k.kind = .array comp (.array t) ∧ U.vm.findClass ("[" ++ (FieldType.array t).toString) = some c
theorem nAOA.of {t : FieldType} {args : Array Value} {U : State} (h : (Cond.arrayOver (.array t)).before args U = true) : nAOA t U := by
  obtain ⟨comp, c, k, h1, -, h3, h4, h5⟩ := arrayOverA_spec h
  exact ⟨comp, c, k, h1, h3, h4, h5⟩
theorem nAOA.moved {t : FieldType} {u U : State} (hvm : u.vm.Alike U.vm) (h : nAOA t u) : nAOA t U := by
  obtain ⟨comp, c, k, h1, h3, h4, h5⟩ := h
  obtain ⟨k', hk', he⟩ := hvm.2.2 _ _ h3
  exact ⟨comp, c, k', by rw [hvm.findClass]; exact h1, hk', by rw [he]; exact h4, by rw [hvm.findClass]; exact h5⟩
section NXS
variable {p : Program} {l : Launch} {e : Env} {R : Room} {s : State} {m : MethodId} {args : Array Value} {below : List Frame} {meth : Method} {c : Code} {H : Heap} {locs : List Loc} {cells slots : Nat} {Q : State → Prop}
variable {cc : ByteArray} {pc : Nat} {ls : Array Slot} {rest : List Value} {D : va_G} {cl : List vw_C} {A : Nat → Prop} {a : Nat} {tys : List (ClassId × FieldType)} {ws : va_W} {H0 : Heap}
theorem nx_stand {T : State} (X : Stand p l e R s m args below meth c T locs cells slots) (cA : ClassId) (N : Nat) (z : Cell) : ∀ i, Stand p l e R s m args below meth c (nx_r T cA N z i) locs (cells + 1 + i) (slots + N + i * z.slots.size)
  | 0 => by
    have h := X.pushed (nx_o cA N T.heap.size 0)
    rw [nx_o, arrV_size] at h
    rw [Nat.zero_mul]
    exact h
  | i + 1 => by
    have Xi := (nx_stand X cA N z i).pushed z
    obtain ⟨f1, f2, -⟩ := nx_r_F T cA N z i
    have hlt : T.heap.size < (nx_r T cA N z i).heap.size := by omega
    have hc : ((nx_r T cA N z i).pushCell z).heap[T.heap.size]? = some (nx_o cA N T.heap.size i) := by
      rw [State.heap_pushCell_of_lt (h := hlt)]
      exact f2
    have h := Xi.stored hc i (.ref (T.heap.size + 1 + i))
    rw [nx_o_up] at h
    have h2 := h.dropFresh (fun x hx => by
      rw [List.mem_singleton] at hx
      subst hx
      exact X.heapGrown)
    rw [Nat.succ_mul, ← Nat.add_assoc (slots + N)]
    exact h2
def nx_q (q N : Nat) : Nat → Option Nat := fun i => if i < N then some (q + 1 + i) else none
/-- the cells of n rows: the outer one at q, the inner ones behind it -/
def nx_w (cO cy : ClassId) (q N : Nat) (z : vp_A) : va_W := (q, .inl (cO, N, .inr (.inr (.inr (.inr (nx_q q N)))))) :: (List.range N).map (fun i => (q + 1 + i, .inl (cy, z)))
theorem nx_w_at {cO cy : ClassId} {q N : Nat} {z : vp_A} {k : Nat} {x : Nat × va_E} (h : (nx_w cO cy q N z)[k]? = some x) : x.1 = q + k ∧ ((k = 0 ∧ x = (q, .inl (cO, N, .inr (.inr (.inr (.inr (nx_q q N))))))) ∨ ∃ i, i < N ∧ k = i + 1 ∧ x = (q + 1 + i, .inl (cy, z))) := by
  cases k with
  | zero =>
    cases h
    exact ⟨rfl, Or.inl ⟨rfl, rfl⟩⟩
  | succ k =>
    have h1 : ((List.range N).map (fun i => ((q + 1 + i, .inl (cy, z)) : Nat × va_E)))[k]? = some x := h
    rw [List.getElem?_map] at h1
    rcases Nat.lt_or_ge k N with hk | hk
    · rw [List.getElem?_range hk] at h1
      cases h1
      exact ⟨by show q + 1 + k = q + (k + 1); omega, Or.inr ⟨k, hk, rfl, rfl⟩⟩
    · rw [List.getElem?_eq_none (by rw [List.length_range]; exact hk)] at h1
      cases h1
theorem nx_multi (hexec : p.tables.exec = Jvm.exec) (hb : c.code = cc) {own : String} {index : Nat} {ty : FieldType} {cO cy : ClassId} (hown : s.vm.findClass own = some m.cls) (hclink : (Cond.classLink own index ("[" ++ (FieldType.array ty).toString)).before args s = true) (hover : nAOA ty s) (harr : (Cond.arrayClass ty).before args s = true)
    (hcO : s.vm.findClass ("[" ++ (FieldType.array ty).toString) = some cO) (hcy : s.vm.findClass ("[" ++ ty.toString) = some cy)
    (hP : va_P D cl ws H) (hD : va_D A ws) (hS : va_S A H0 H locs) (hA : ∀ q, H0.size ≤ q → A q) {n k : Int32} {N' K' : Nat} {z : vp_A} (hn : ¬ n < 0) (hk : ¬ k < 0) (hN : n.toNatClampNeg = N') (hM : k.toNatClampNeg = K')
    (hb1 : N' * 4 ≤ 536870912) (hb2 : K' * componentBytes ty ≤ 536870912) (hb3 : K' ≤ 536870912) (hdf : fits ty (defaultValue ty) = true) (hcells : cells + (1 + N') ≤ R.cells) (hslots : slots + (N' + N' * K') ≤ R.slots)
    (hz : ∀ c : ClassId, vp_cell c z = arrV c K' (fun _ => defaultValue ty)) (hdg : decode cc pc = .ok (.multianewarray index 2, 4))
    (kk : ∀ (q : Nat) (H1 : Heap), va_P D cl (ws ++ nx_w cO cy q N' z) H1 → va_D A (ws ++ nx_w cO cy q N' z) → va_S A H0 H1 locs →
      W p l e R s m args below meth c H1 locs (cells + 1 + N') (slots + N' + N' * K') Q (F0 m (pc + 4) ls (.ref q :: rest))) : W p l e R s m args below meth c H locs cells slots Q (F0 m pc ls (.int k :: .int n :: rest)) := by
  subst hN
  subst hM
  intro T hT X
  subst hT
  subst hb
  have hpl : e.platform.magicAccessors = ({} : Platform).magicAccessors := by rw [X.admits.platform]
  obtain ⟨comp, cA, kA, hcomp, hkA, hkindA, hnameA⟩ := hover
  obtain ⟨comp', kC, cc2, hcomp', hkC, hkindC⟩ := Cond.arrayClass_spec harr
  have e1 : comp' = comp := Option.some.inj (hcomp'.symm.trans hcomp)
  subst e1
  have e2 : cA = cO := Option.some.inj (hnameA.symm.trans hcO)
  subst e2
  have e3 : comp' = cy := Option.some.inj (hcomp'.symm.trans hcy)
  subst e3
  obtain ⟨c0, hfc0, hcl⟩ := Cond.classLink_spec hown hclink e.platform hpl
  cases hnameA.symm.trans hfc0
  obtain ⟨hg₁, hwarm₁, hready₁⟩ := State.classEntry (e := e) X.warmed hcl
  generalize T.vm.noted m.cls index (.cls cA) = vm₁ at hg₁ hwarm₁ hready₁
  have hal : s.vm.Alike vm₁ := hwarm₁.alike
  obtain ⟨kA₁, hkA₁, heA⟩ := hal.2.2 _ _ hkA
  obtain ⟨kC₁, hkC₁, heC⟩ := hal.2.2 _ _ hkC
  have hkindA₁ : kA₁.kind = .array comp' (.array ty) := by rw [heA]; exact hkindA
  have hkindC₁ : kC₁.kind = .array cc2 ty := by rw [heC]; exact hkindC
  have X₁ := X.noted hwarm₁
  obtain ⟨hr1, hr2⟩ := X.roomAbove hcells hslots
  have XF := nx_stand X₁ cA n.toNatClampNeg ({ cls := comp', slots := Array.replicate k.toNatClampNeg (defaultValue ty) } : Cell) n.toNatClampNeg
  obtain ⟨f1, f2, f3, f4, f5, f6⟩ := nx_r_F (T.setVm vm₁) cA n.toNatClampNeg ({ cls := comp', slots := Array.replicate k.toNatClampNeg (defaultValue ty) } : Cell) n.toNatClampNeg
  rw [show ({ cls := comp', slots := Array.replicate k.toNatClampNeg (defaultValue ty) } : Cell).slots.size = k.toNatClampNeg by simp] at XF
  have hzc : ({ cls := comp', slots := Array.replicate k.toNatClampNeg (defaultValue ty) } : Cell) = vp_cell comp' z := by
    rw [hz]
    exact arrV_new comp' k.toNatClampNeg (defaultValue ty)
  generalize hF : nx_r (T.setVm vm₁) cA n.toNatClampNeg ({ cls := comp', slots := Array.replicate k.toNatClampNeg (defaultValue ty) } : Cell) n.toNatClampNeg = F at XF f1 f2 f3 f4 f5 f6
  rw [hzc] at f6
  have hsz : (T.setVm vm₁).heap.size = T.heap.size := rfl
  rw [hsz] at f1 f2 f5 f6
  have hold : ∀ x : Nat, x < T.heap.size → F.heap[x]? = T.heap[x]? := f5
  have hP1 : va_P D cl (ws ++ nx_w cA comp' T.heap.size n.toNatClampNeg z) F.heap := by
    refine (hP.kept (fun k9 x hx => hold x.1 ((hP k9 x hx).lt))).app (fun k9 x hx => ?_)
    obtain ⟨-, h | ⟨i, hi, -, h⟩⟩ := nx_w_at hx
    · obtain ⟨-, rfl⟩ := h
      show F.heap[T.heap.size]? = some (vp_cell _ _)
      rw [vp_cell_q]
      exact f2
    · subst h
      exact f6 i hi
  have hD1 : va_D A (ws ++ nx_w cA comp' T.heap.size n.toNatClampNeg z) := by
    refine hD.app ⟨fun i j x y hi hj hxy => ?_, fun k9 x hx => ?_⟩ (fun i j x y hi hj hxy => ?_)
    · have h1 := (nx_w_at hi).1
      have h2 := (nx_w_at hj).1
      omega
    · have h1 := (nx_w_at hx).1
      exact hA _ (by have := hS.1; omega)
    · have h1 := (hP i x hi).lt
      have h2 := (nx_w_at hj).1
      omega
  have hS1 : va_S A H0 F.heap locs := ⟨by have := hS.1; omega, fun x h1 h2 => (hold x (Nat.lt_of_lt_of_le h1 hS.1)).trans (hS.2.1 x h1 h2), hS.2.2⟩
  obtain ⟨t, a1, b1⟩ := kk T.heap.size F.heap hP1 hD1 hS1 F rfl XF
  refine ⟨t, ?_, b1⟩
  have hl1 : ¬ n.toNatClampNeg > e.platform.arrayLengthLimit := by rw [Launch.admits_arrayLengthLimit X.admits]; omega
  have hh1 : ¬ n.toNatClampNeg * componentBytes (.array ty) > e.platform.maxHeapBytes := by
    rw [Launch.admits_maxHeapBytes X.admits]; show ¬ n.toNatClampNeg * 4 > 536870912; omega
  have hl2 : ¬ k.toNatClampNeg > e.platform.arrayLengthLimit := by rw [Launch.admits_arrayLengthLimit X.admits]; omega
  have hh2 : ¬ k.toNatClampNeg * componentBytes ty > e.platform.maxHeapBytes := by rw [Launch.admits_maxHeapBytes X.admits]; omega
  jvm_step X.here [hexec, hdg]
  simp only [multianewarray.sem, wp_bind', W.resolveClassAt_links (State.method?_setTop (F0 m pc ls (.int k :: .int n :: rest)) X.here.top) hg₁]
  rw [W.popN, if_neg (by decide)]
  refine ⟨F0 m pc ls (.int k :: .int n :: rest), State.topJava?_setTop' (s := T.setVm vm₁) _ X.here.top, [.int n, .int k], rest, rfl, rfl, ?_⟩
  simp only [List.mapM_cons, List.mapM_nil, wp_bind', wp_pure']
  refine nx_make (k := kA₁) (kc := kC₁) (comp := comp') (cc := cc2) (t0 := .array ty) (ty := ty) hkA₁ hkindA₁ rfl hkC₁ hkindC₁ hn hk hl1 hh1 hl2 hh2 hdf (by show T.heap.size + _ ≤ _; omega) (by show T.slotsUsed + _ ≤ _; omega) (fun d' acts' => ?_)
  have eS : ((T.setTop (F0 m pc ls (.int k :: .int n :: rest))).setVm vm₁).setTop { F0 m pc ls (.int k :: .int n :: rest) with stack := rest } = (T.setVm vm₁).setTop { F0 m pc ls (.int k :: .int n :: rest) with stack := rest } := by
    show ((T.setVm vm₁).setTop _).setTop _ = _
    rw [State.setTop_setTop]
  rw [eS, nx_r_top, hF]
  simp only [wp_bind', W.mark, W.pushRef, State.topJava?_setTop' _ XF.here.top, Option.some.injEq, exists_eq_left', State.setTop_setTop, State.heap_setTop]
  intro acts
  simp [jvm, XF.here.top]
  exact a1
/-- an element of an array of arrays -/
theorem nx_aldA (hexec : p.tables.exec = Jvm.exec) (hb : c.code = cc) (hK : va_K D cl tys s) (hP : va_P D cl ws H) (q0 t0 : Nat) {cA : ClassId} {ty : FieldType} {n : Nat} {f : Nat → Option Nat} (ha : ws[q0]? = some (a, .inl (cA, n, .inr (.inr (.inr (.inr f)))))) (ht : tys[t0]? = some (cA, .array ty)) {i : Int32} (hin : vp_in i n) {v : Nat} (hv : f i.toNatClampNeg = some v) (hdg : decode cc pc = .ok (.aaload, 1))
    (kk : W p l e R s m args below meth c H locs cells slots Q (F0 m (pc + 1) ls (.ref v :: rest))) : W p l e R s m args below meth c H locs cells slots Q (F0 m pc ls (.int i :: .ref a :: rest)) := by
  have hlt : i.toNatClampNeg < n := Nat.not_le.mp fun q => hin (Or.inr q)
  exact W.aald (v := .ref v) (ty := .array ty) hexec hb (hP q0 _ ha) ((hK.2 t0 _ ht).1 n (fun j => va_rf (f j))) rfl (fun q => by cases q) (by show ¬ (i < 0 ∨ (arrV _ _ _).slots.size ≤ _); rw [arrV_size]; exact hin) (by show (arrV _ _ _).slots[_]? = _; rw [arrV_read _ _ hlt, hv]; rfl) rfl rfl hdg kk
/-- the same of an array of objects, where the element is known -/
theorem nx_aldO (hexec : p.tables.exec = Jvm.exec) (hb : c.code = cc) (hK : va_K D cl tys s) (hP : va_P D cl ws H) (q0 t0 : Nat) {cA : ClassId} {C : String} {n : Nat} {f : Nat → Option Nat} (ha : ws[q0]? = some (a, .inl (cA, n, .inr (.inr (.inr (.inr f)))))) (ht : tys[t0]? = some (cA, .object C)) {i : Int32} (hin : vp_in i n) {v : Nat} (hv : f i.toNatClampNeg = some v) (hdg : decode cc pc = .ok (.aaload, 1))
    (kk : W p l e R s m args below meth c H locs cells slots Q (F0 m (pc + 1) ls (.ref v :: rest))) : W p l e R s m args below meth c H locs cells slots Q (F0 m pc ls (.int i :: .ref a :: rest)) := by
  refine va_aldq hexec hb hK hP q0 t0 ha ht hin hdg ?_
  rw [hv]
  exact kk
/-- newarray, its class known -/
theorem nx_newa (hexec : p.tables.exec = Jvm.exec) (hb : c.code = cc) {atype : ArrayType} (harr : (Cond.arrayClass (newarray.typeOf atype)).before args s = true) {ty : FieldType} (hty : newarray.typeOf atype = ty) (hK : va_K D cl tys s) (t0 : Nat) {cA : ClassId} (ht0 : tys[t0]? = some (cA, ty)) (hP : va_P D cl ws H) (hD : va_D A ws) (hS : va_S A H0 H locs) (hA : ∀ q, H0.size ≤ q → A q)
    {n : Int32} {N' : Nat} {a0 : vp_A} (ha : ∀ cA : ClassId, vp_cell cA a0 = arrV cA N' (fun _ => defaultValue ty)) (hn : ¬ n < 0) (hN : n.toNatClampNeg = N') (hbytes : N' * componentBytes ty ≤ 536870912) (hcells : cells + 1 ≤ R.cells) (hslots : slots + N' ≤ R.slots) (hdg : decode cc pc = .ok (.newarray atype, 2))
    (kk : ∀ (q : Nat) (H1 : Heap), va_P D cl (ws ++ [(q, .inl (cA, a0))]) H1 → va_D A (ws ++ [(q, .inl (cA, a0))]) → va_S A H0 H1 locs →
      W p l e R s m args below meth c H1 locs (cells + 1) (slots + N') Q (F0 m (pc + 2) ls (.ref q :: rest))) : W p l e R s m args below meth c H locs cells slots Q (F0 m pc ls (.int n :: rest)) := by
  have hA0 := (hK.2 t0 _ ht0).2
  refine va_newa hexec hb harr hty hK hP hD hS hA ha hn hN hbytes hcells hslots hdg (fun q cB H1 hK1 hP1 hD1 hS1 => ?_)
  have h1 := (hK1.2 tys.length (cB, ty) (by rw [List.getElem?_append_right (Nat.le_refl _), Nat.sub_self]; rfl)).2
  have e1 : cB = cA := by
    subst hty
    cases atype <;> exact Option.some.inj (h1.symm.trans hA0)
  subst e1
  exact kk q H1 hP1 hD1 hS1
/-- anewarray, its class known -/
theorem nx_newq (hexec : p.tables.exec = Jvm.exec) (hb : c.code = cc) {own C : String} {index : Nat} (hown : s.vm.findClass own = some m.cls) (hclink : (Cond.classLink own index C).before args s = true) (hover : va_Nw (.arrayOver (.object C)) s) (hK : va_K D cl tys s) (t0 : Nat) {cA : ClassId} (ht0 : tys[t0]? = some (cA, .object C)) (hP : va_P D cl ws H) (hD : va_D A ws) (hS : va_S A H0 H locs) (hA : ∀ q, H0.size ≤ q → A q)
    {n : Int32} {N' : Nat} (hn : ¬ n < 0) (hN : n.toNatClampNeg = N') (hbytes : N' * 4 ≤ 536870912) (hcells : cells + 1 ≤ R.cells) (hslots : slots + N' ≤ R.slots) (hdg : decode cc pc = .ok (.anewarray index, 3))
    (kk : ∀ (q : Nat) (H1 : Heap), va_P D cl (ws ++ [(q, .inl (cA, N', .inr (.inr (.inr (.inr (fun _ => none))))))]) H1 → va_D A (ws ++ [(q, .inl (cA, N', .inr (.inr (.inr (.inr (fun _ => none))))))]) → va_S A H0 H1 locs →
      W p l e R s m args below meth c H1 locs (cells + 1) (slots + N') Q (F0 m (pc + 3) ls (.ref q :: rest))) : W p l e R s m args below meth c H locs cells slots Q (F0 m pc ls (.int n :: rest)) := by
  obtain ⟨-, -, -, -, -, hA0⟩ := (hK.2 t0 _ ht0).2
  refine va_newq hexec hb hown hclink hover hK hP hD hS hA hn hN hbytes hcells hslots hdg (fun q cB H1 hK1 hP1 hD1 hS1 => ?_)
  obtain ⟨-, -, -, -, -, h1⟩ := (hK1.2 tys.length (cB, .object C) (by rw [List.getElem?_append_right (Nat.le_refl _), Nat.sub_self]; rfl)).2
  have e1 : cB = cA := Option.some.inj (h1.symm.trans hA0)
  subst e1
  exact kk q H1 hP1 hD1 hS1
end NXS
/-- the classes of arrays, by the tables' words -/
theorem nx_cls {s : State} {args : Array Value} {ty : FieldType} (h : (Cond.arrayClass ty).before args s = true) : ∃ c : ClassId, ArrOfT s c ty ∧ s.vm.findClass ("[" ++ ty.toString) = some c := by
  obtain ⟨c, k, comp, h1, h2, h3⟩ := Cond.arrayClass_spec h
  exact ⟨c, fun N z => ⟨(fun q hq => by cases hq), k, h2, comp, h3⟩, h1⟩
theorem nx_clsO {s : State} {args : Array Value} {C : String} (h : (Cond.arrayOver (.object C)).before args s = true) : ∃ c : ClassId, ArrOfT s c (.object C) ∧ va_RA s c (.object C) := by
  obtain ⟨comp, c, k, h1, h2, h3, h4, h5⟩ := Cond.arrayOver_spec h
  exact ⟨c, fun N z => ⟨(fun q hq => by cases hq), k, h3, comp, h4⟩, k, comp, h3, h4, h1, h5⟩
theorem nx_clsA {s : State} {args : Array Value} {t : FieldType} (h : (Cond.arrayOver (.array t)).before args s = true) : ∃ c : ClassId, ArrOfT s c (.array t) ∧ va_RA s c (.array t) := by
  obtain ⟨comp, c, k, h1, h2, h3, h4, h5⟩ := arrayOverA_spec h
  exact ⟨c, fun N z => ⟨(fun q hq => by cases hq), k, h3, comp, h4⟩, h5⟩
