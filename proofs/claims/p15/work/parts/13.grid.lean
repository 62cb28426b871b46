theorem nx_ofWF {l : Launch} {y : MethodName} {ws ws' : List Cond} {rm : Room} {Pc : Array Value → State → Prop} {Qc : Array Value → State → Outcome → State → Prop} {mc ms : Nat} {free : Addr → Prop} {cc : ByteArray} {maxL : Nat} {ret : Option FieldType}
    (hy : plainFor y = true) (hw : ws = Cond.code y cc maxL ret :: ws')
    (body : ∀ p e s m args below meth c s₁, BodyLoose p l y (headSpec ws rm) cc maxL ret e s m args below meth c s₁ → c.maxLocals = maxL → Pc args s →
      W p l e (headSpec ws rm).room s m args below meth c s.heap [] 0 0 (MQ below Qc args s mc ms free) (entryFrame m args maxL)) : Met l y ws rm Pc Qc mc ms free := by
  refine MetFree.of_bodySF (code := cc) (maxLocals := maxL) (ret := ret) hy ?_ ?_
  · intro args s m h hn
    obtain ⟨meth, c, h1, h2, h3, h4, h5, h6, -, -⟩ := Cond.code_spec hn (atoms_spec (ws := ws) h _ (by rw [hw]; exact List.mem_cons_self))
    exact ⟨meth, c, h1, h2, h3, h4, h5, h6⟩
  · intro p e s m args below meth c s₁ B hml hP _
    have hh0 : s₁.heap = s.heap := by rw [B.state]; rfl
    obtain ⟨t, a1, o, b1, b2, b3⟩ := body p e s m args below meth c s₁ B hml hP s₁ hh0 (Stand.of_body B)
    exact ⟨t, o, a1, b1, b2, ⟨b3.1, b3.2⟩⟩
theorem nx_startLF {l : Launch} {y : MethodName} {cc : ByteArray} {n : Nat} {r : Option FieldType} {k mc ms : Nat} {g : va_G} {kA : Nat → ClassId} {As : List Value} {ws : va_W} {S : Type} {post : Int64 → S → Prop} {w1 : S → va_W} (hy : plainFor y = true) (hn : (lg_sl As).length ≤ n)
    (body : ∀ x : Cx, x.2.2.1.1.name = y.name → Ok x cc y.cls kA (rmC k mc ms) n → RetL x kA r post w1 mc ms → J x ws (lv_args 0 As) 0 0 0 []) : CtL l y cc n r k mc ms g kA As ws post w1 := by
  intro sz
  refine nx_ofWF (cc := cc) (maxL := n) (ret := r) hy rfl ?_
  intro p e s m args below meth c s₁ B hml hv
  obtain ⟨rfl, hsz, hP, hK, hD0, hN⟩ := hv
  subst hsz
  have hts := atoms_spec (ws := .code y cc n r :: TT) B.pre
  have hD := hD0.self (sz := s.heap.size)
  have J0 := body ((p, l, e, rmC k mc ms), (s, m, As.toArray, below), (meth, c), (va_A ws s.heap.size, g, n), MQ below (va_Ql post (fun u t => nPost g kA (va_A ws s.heap.size) (w1 u) t) (va_A ws s.heap.size)) As.toArray s mc ms (va_A ws s.heap.size)) (name_of_methodNamed B.named B.method).1 ⟨B.exec, B.bytes, hml, findClass_of_methodNamed B.named, fun w h => hts w (List.mem_cons_of_mem _ h), hK, hN, fun q h => Or.inr h, rfl, B.notSynchronized, rfl⟩ ⟨rfl, B.returns⟩
  have hl := lv_entry As (n := n) hn
  rw [lg_entry_eq]
  exact J0 s.heap [] _ hP hD va_S.rf hl
def CoAt (tk : Nat → Int32) (co : Nat → Nat → Int32) (wt i t : Nat) : Prop := ∃ c, c ≤ 100 ∧ co i t = nI c ∧ (c < 100 → ∀ k, tk i = nI k → k ≤ 45 → t + k ≤ wt)
def CoOk (n wt : Nat) (tk : Nat → Int32) (co : Nat → Nat → Int32) : Prop := ∀ i t, i < n → t < wt → CoAt tk co wt i t
def CoRow (s u wt : Nat) (tk : Nat → Int32) (co : Nat → Nat → Int32) : Prop := ∀ t, t < u → CoAt tk co wt s t
theorem CoOk_0 (wt : Nat) (tk : Nat → Int32) (co : Nat → Nat → Int32) : CoOk 0 wt tk co := fun i _ h => absurd h (Nat.not_lt_zero i)
theorem CoRow_0 (s wt : Nat) (tk : Nat → Int32) (co : Nat → Nat → Int32) : CoRow s 0 wt tk co := fun i h => absurd h (Nat.not_lt_zero i)
theorem CoOk_up {s t wt : Nat} {tk : Nat → Int32} {co : Nat → Nat → Int32} {v : Int32} (h : CoOk s wt tk co) : CoOk s wt tk (upG co s t v) := fun i u hi hu => by
  unfold CoAt
  rw [upG_r (by omega)]
  exact h i u hi hu
theorem CoOk_tk {s wt : Nat} {tk : Nat → Int32} {co : Nat → Nat → Int32} {v : Int32} (h : CoOk s wt tk co) : CoOk s wt (upd tk s v) co := fun i u hi hu => by
  unfold CoAt
  rw [pk_un (by omega)]
  exact h i u hi hu
theorem CoRow_up {s t wt c : Nat} {tk : Nat → Int32} {co : Nat → Nat → Int32} (h : CoRow s t wt tk co) (hc : c ≤ 100) (hf : c < 100 → ∀ k, tk s = nI k → k ≤ 45 → t + k ≤ wt) : CoRow s (t + 1) wt tk (upG co s t (nI c)) := fun u hu => by
  by_cases e : u = t
  · subst e
    exact ⟨c, hc, upG_s, hf⟩
  · unfold CoAt
    rw [upG_k e]
    exact h u (by omega)
theorem co_fit {tk : Nat → Int32} {s t k0 wt : Nat} (hu : tk s = nI k0) (h : t + k0 ≤ wt) (hk0 : k0 ≤ 45) : ∀ k, tk s = nI k → k ≤ 45 → t + k ≤ wt := fun k hk h45 => by
  have := (nI_eq (by omega) (by omega)).mp (hk.symm.trans hu)
  omega
theorem CoOk_next {s u wt : Nat} {tk : Nat → Int32} {co : Nat → Nat → Int32} (h : CoOk s wt tk co) (h2 : CoRow s u wt tk co) (hu : wt ≤ u) : CoOk (s + 1) wt tk co := fun i t hi ht => by
  by_cases e : i = s
  · subst e
    exact h2 t (by omega)
  · exact h i t (by omega) ht
def GoOk (tk : Nat → Int32) (af co : Nat → Nat → Int32) (tm i t f mm : Nat) : Prop := ∃ g k c, g ≤ 1 ∧ af i f = nI g ∧ 1 ≤ k ∧ k ≤ 45 ∧ tk i = nI k ∧ c ≤ mm ∧ co i t = nI c ∧ t + k ≤ tm
theorem LtOk_step {l v : Nat} {lt : Nat → Int32} (h : LtOk l lt) (h1 : 1 ≤ v) (h2 : v ≤ 45) : LtOk (l + 1) (upd lt l (nI v)) := by
  intro i hi
  by_cases e : i = l
  · subst e
    exact ⟨v, h1, h2, pk_us⟩
  · rw [pk_un e]
    exact h i (by omega)
theorem TkOk_step {l v : Nat} {lt : Nat → Int32} (h : TkOk l lt) (h1 : 1 ≤ v) (h2 : v ≤ 9) : TkOk (l + 1) (upd lt l (nI v)) := by
  intro i hi
  by_cases e : i = l
  · subst e
    exact ⟨v, h1, h2, pk_us⟩
  · rw [pk_un e]
    exact h i (by omega)
theorem LtOk_0 (lt : Nat → Int32) : LtOk 0 lt := fun i h => absurd h (Nat.not_lt_zero i)
theorem TkOk_0 (lt : Nat → Int32) : TkOk 0 lt := fun i h => absurd h (Nat.not_lt_zero i)
theorem FtOk_0 (la : Nat → Nat → Int32) : FtOk 0 la := fun i _ h => absurd h (Nat.not_lt_zero i)
def EqTo (n : Nat) (f g : Nat → Int32) : Prop := ∀ i, i < n → f i = g i
theorem EqTo_0 (f g : Nat → Int32) : EqTo 0 f g := fun i h => absurd h (Nat.not_lt_zero i)
theorem EqTo_step {n : Nat} {f g : Nat → Int32} {v : Int32} (h : EqTo n f g) (e : g n = v) : EqTo (n + 1) (upd f n v) g := fun i hi => by
  by_cases q : i = n
  · subst q
    rw [pk_us, e]
  · rw [pk_un q]
    exact h i (by omega)
theorem tsum_cong {n c : Nat} {f g row : Nat → Int32} (h : EqTo n f g) (hn : n ≤ 6) (hr : ∀ j, j < c → ∃ k, k < n ∧ row j = nI k) : ∀ {i : Nat}, i ≤ c → tsum f row i = tsum g row i
  | 0, _ => rfl
  | i + 1, hi => by
    obtain ⟨k, hk, e⟩ := hr i (by omega)
    show tsum f row i + (f (row i).toNatClampNeg).toNatClampNeg = tsum g row i + (g (row i).toNatClampNeg).toNatClampNeg
    rw [e, nI_clamp (by omega), h k hk, tsum_cong h hn hr (i := i) (by omega)]
theorem LsOk_cong {m n : Nat} {sz tk tk' lt : Nat → Int32} {rw : Nat → Nat → Int32} (h : LsOk m sz rw tk lt) (he : EqTo n tk' tk) (hr : RwOk m n sz rw) (hn : n ≤ 6) : LsOk m sz rw tk' lt := fun i c hi hc h5 => by
  rw [tsum_cong he hn (fun j hj => hr i j c hi hc h5 hj) (Nat.le_refl c)]
  exact h i c hi hc h5
theorem tsum_lt {n c : Nat} {tk row : Nat → Int32} (ht : TkOk n tk) (hr : ∀ j, j < c → ∃ k, k < n ∧ row j = nI k) (hn : n ≤ 6) {i : Nat} : ∀ {j : Nat}, i < j → j ≤ c → tsum tk row i < tsum tk row j
  | 0, h, _ => absurd h (Nat.not_lt_zero i)
  | j + 1, h, hj => by
    obtain ⟨k, hk, e⟩ := hr j (by omega)
    obtain ⟨t, h1, h9, et⟩ := ht k hk
    show tsum tk row i < tsum tk row j + (tk (row j).toNatClampNeg).toNatClampNeg
    rw [e, nI_clamp (by omega), et, nI_clamp (by omega)]
    rcases (show i = j ∨ i < j by omega) with rfl | q
    · omega
    · have := tsum_lt ht hr hn q (by omega)
      omega
theorem dX3_waysBy_0 : decode cX3_waysBy 0 = .ok (.aload_n 0, 1) := by decide +kernel
theorem dX3_waysBy_1 : decode cX3_waysBy 1 = .ok (.getfield 32, 3) := by decide +kernel
theorem iw_X3 : ∀ w ∈ u_ws RX3 TX3 11, w ∈ TT := nx_mems _ [391, 393, 395, 397, 399, 401, 403, 405, 407, 409, 411] (by decide +kernel) (by decide +kernel)
theorem tw_379 : Cond.fieldLink RX3 32 "LimpCode$Grid" "after" "[[I" ∈ TT := nx_mem 379 (by decide +kernel) (by decide +kernel)
theorem dX3_waysBy_4 : decode cX3_waysBy 4 = .ok (.iload_n 1, 1) := by decide +kernel
theorem dX3_waysBy_5 : decode cX3_waysBy 5 = .ok (.aaload, 1) := by decide +kernel
theorem dX3_waysBy_6 : decode cX3_waysBy 6 = .ok (.iload_n 3, 1) := by decide +kernel
theorem dX3_waysBy_7 : decode cX3_waysBy 7 = .ok (.iaload, 1) := by decide +kernel
theorem dX3_waysBy_8 : decode cX3_waysBy 8 = .ok (.istore 5, 2) := by decide +kernel
theorem dX3_waysBy_10 : decode cX3_waysBy 10 = .ok (.iload 4, 2) := by decide +kernel
theorem dX3_waysBy_12 : decode cX3_waysBy 12 = .ok (.aload_n 0, 1) := by decide +kernel
theorem dX3_waysBy_13 : decode cX3_waysBy 13 = .ok (.getfield 35, 3) := by decide +kernel
theorem tw_381 : Cond.fieldLink RX3 35 "LimpCode$Grid" "cost" "[[I" ∈ TT := nx_mem 381 (by decide +kernel) (by decide +kernel)
theorem dX3_waysBy_16 : decode cX3_waysBy 16 = .ok (.iload_n 1, 1) := by decide +kernel
theorem dX3_waysBy_17 : decode cX3_waysBy 17 = .ok (.aaload, 1) := by decide +kernel
theorem dX3_waysBy_18 : decode cX3_waysBy 18 = .ok (.iload_n 2, 1) := by decide +kernel
theorem dX3_waysBy_19 : decode cX3_waysBy 19 = .ok (.iaload, 1) := by decide +kernel
theorem dX3_waysBy_20 : decode cX3_waysBy 20 = .ok (.isub, 1) := by decide +kernel
theorem dX3_waysBy_21 : decode cX3_waysBy 21 = .ok (.istore 6, 2) := by decide +kernel
theorem dX3_waysBy_23 : decode cX3_waysBy 23 = .ok (.iload 5, 2) := by decide +kernel
theorem dX3_waysBy_25 : decode cX3_waysBy 25 = .ok (.iconst (-1), 1) := by decide +kernel
theorem dX3_waysBy_26 : decode cX3_waysBy 26 = .ok (.if_icmp .eq 8, 3) := by decide +kernel
theorem dX3_waysBy_34 : decode cX3_waysBy 34 = .ok (.lconst 0, 1) := by decide +kernel
theorem dX3_waysBy_35 : decode cX3_waysBy 35 = .ok (.lreturn, 1) := by decide +kernel
theorem dX3_waysBy_29 : decode cX3_waysBy 29 = .ok (.iload 6, 2) := by decide +kernel
theorem dX3_waysBy_31 : decode cX3_waysBy 31 = .ok (.ifCond .ge 5, 3) := by decide +kernel
theorem dX3_waysBy_36 : decode cX3_waysBy 36 = .ok (.aload_n 0, 1) := by decide +kernel
theorem dX3_waysBy_37 : decode cX3_waysBy 37 = .ok (.getfield 11, 3) := by decide +kernel
theorem tw_382 : Cond.fieldLink RX3 11 "LimpCode$Grid" "ways" "[[J" ∈ TT := nx_mem 382 (by decide +kernel) (by decide +kernel)
theorem dX3_waysBy_40 : decode cX3_waysBy 40 = .ok (.iconst 2, 1) := by decide +kernel
theorem dX3_waysBy_41 : decode cX3_waysBy 41 = .ok (.iload 6, 2) := by decide +kernel
theorem dX3_waysBy_43 : decode cX3_waysBy 43 = .ok (.imul, 1) := by decide +kernel
theorem dX3_waysBy_44 : decode cX3_waysBy 44 = .ok (.iload 5, 2) := by decide +kernel
theorem dX3_waysBy_46 : decode cX3_waysBy 46 = .ok (.iadd, 1) := by decide +kernel
theorem dX3_waysBy_47 : decode cX3_waysBy 47 = .ok (.aaload, 1) := by decide +kernel
theorem dX3_waysBy_48 : decode cX3_waysBy 48 = .ok (.iload_n 2, 1) := by decide +kernel
theorem dX3_waysBy_49 : decode cX3_waysBy 49 = .ok (.aload_n 0, 1) := by decide +kernel
theorem dX3_waysBy_50 : decode cX3_waysBy 50 = .ok (.getfield 26, 3) := by decide +kernel
theorem tw_377 : Cond.fieldLink RX3 26 "LimpCode$Grid" "takes" "[I" ∈ TT := nx_mem 377 (by decide +kernel) (by decide +kernel)
theorem dX3_waysBy_53 : decode cX3_waysBy 53 = .ok (.iload_n 1, 1) := by decide +kernel
theorem dX3_waysBy_54 : decode cX3_waysBy 54 = .ok (.iaload, 1) := by decide +kernel
theorem dX3_waysBy_55 : decode cX3_waysBy 55 = .ok (.iadd, 1) := by decide +kernel
theorem dX3_waysBy_56 : decode cX3_waysBy 56 = .ok (.laload, 1) := by decide +kernel
theorem dX3_waysBy_57 : decode cX3_waysBy 57 = .ok (.lreturn, 1) := by decide +kernel
theorem dJ9_min_f86c9_0 : decode cJ9_min_f86c9 0 = .ok (.lload_n 0, 1) := by decide +kernel
theorem dJ9_min_f86c9_1 : decode cJ9_min_f86c9 1 = .ok (.lload_n 2, 1) := by decide +kernel
theorem dJ9_min_f86c9_2 : decode cJ9_min_f86c9 2 = .ok (.lcmp, 1) := by decide +kernel
theorem dJ9_min_f86c9_3 : decode cJ9_min_f86c9 3 = .ok (.ifCond .gt 7, 3) := by decide +kernel
theorem dJ9_min_f86c9_10 : decode cJ9_min_f86c9 10 = .ok (.lload_n 2, 1) := by decide +kernel
theorem dJ9_min_f86c9_11 : decode cJ9_min_f86c9 11 = .ok (.lreturn, 1) := by decide +kernel
theorem dJ9_min_f86c9_6 : decode cJ9_min_f86c9 6 = .ok (.lload_n 0, 1) := by decide +kernel
theorem dJ9_min_f86c9_7 : decode cJ9_min_f86c9 7 = .ok (.goto 4, 3) := by decide +kernel
theorem dX3_sumOfWays_0 : decode cX3_sumOfWays 0 = .ok (.lconst 0, 1) := by decide +kernel
theorem dX3_sumOfWays_1 : decode cX3_sumOfWays 1 = .ok (.lstore 4, 2) := by decide +kernel
theorem dX3_sumOfWays_3 : decode cX3_sumOfWays 3 = .ok (.iconst 0, 1) := by decide +kernel
theorem dX3_sumOfWays_4 : decode cX3_sumOfWays 4 = .ok (.istore 6, 2) := by decide +kernel
theorem dX3_sumOfWays_6 : decode cX3_sumOfWays 6 = .ok (.iload 6, 2) := by decide +kernel
theorem dX3_sumOfWays_8 : decode cX3_sumOfWays 8 = .ok (.aload_n 0, 1) := by decide +kernel
theorem dX3_sumOfWays_9 : decode cX3_sumOfWays 9 = .ok (.getfield 45, 3) := by decide +kernel
theorem tw_387 : Cond.fieldLink RX3 45 "LimpCode$Grid" "count" "I" ∈ TT := nx_mem 387 (by decide +kernel) (by decide +kernel)
theorem dX3_sumOfWays_12 : decode cX3_sumOfWays 12 = .ok (.if_icmp .ge 23, 3) := by decide +kernel
theorem dX3_sumOfWays_35 : decode cX3_sumOfWays 35 = .ok (.lload 4, 2) := by decide +kernel
theorem dX3_sumOfWays_37 : decode cX3_sumOfWays 37 = .ok (.ldc2_w 106, 3) := by decide +kernel
theorem tw_879 : Cond.constantLong RX3 106 1000000000000000 ∈ TT := nx_mem 879 (by decide +kernel) (by decide +kernel)
theorem dX3_sumOfWays_40 : decode cX3_sumOfWays 40 = .ok (.invokestatic 108, 3) := by decide +kernel
theorem tw_880 : Cond.methodLink RX3 108 yJ9_min_f86c9 ∈ TT := nx_mem 880 (by decide +kernel) (by decide +kernel)
theorem tw_881 : Cond.static yJ9_min_f86c9 ∈ TT := nx_mem 881 (by decide +kernel) (by decide +kernel)
theorem tw_882 : Cond.code yJ9_min_f86c9 cJ9_min_f86c9 4 (some .long) ∈ TT := nx_mem 882 (by decide +kernel) (by decide +kernel)
theorem dX3_sumOfWays_43 : decode cX3_sumOfWays 43 = .ok (.lreturn, 1) := by decide +kernel
theorem dX3_sumOfWays_15 : decode cX3_sumOfWays 15 = .ok (.lload 4, 2) := by decide +kernel
theorem dX3_sumOfWays_17 : decode cX3_sumOfWays 17 = .ok (.aload_n 0, 1) := by decide +kernel
theorem dX3_sumOfWays_18 : decode cX3_sumOfWays 18 = .ok (.iload 6, 2) := by decide +kernel
theorem dX3_sumOfWays_20 : decode cX3_sumOfWays 20 = .ok (.iload_n 1, 1) := by decide +kernel
theorem dX3_sumOfWays_21 : decode cX3_sumOfWays 21 = .ok (.iload_n 2, 1) := by decide +kernel
theorem dX3_sumOfWays_22 : decode cX3_sumOfWays 22 = .ok (.iload_n 3, 1) := by decide +kernel
theorem dX3_sumOfWays_23 : decode cX3_sumOfWays 23 = .ok (.invokevirtual 102, 3) := by decide +kernel
theorem tw_875 : Cond.methodLink RX3 102 yX3_waysBy ∈ TT := nx_mem 875 (by decide +kernel) (by decide +kernel)
theorem tw_877 : Cond.instanceMethod yX3_waysBy ∈ TT := nx_mem 877 (by decide +kernel) (by decide +kernel)
theorem tw_21 : Cond.selects RX3 yX3_waysBy yX3_waysBy ∈ TT := nx_mem 21 (by decide +kernel) (by decide +kernel)
theorem tw_95 : Cond.initialized RX3 ∈ TT := nx_mem 95 (by decide +kernel) (by decide +kernel)
theorem tw_878 : Cond.code yX3_waysBy cX3_waysBy 7 (some .long) ∈ TT := nx_mem 878 (by decide +kernel) (by decide +kernel)
theorem dX3_sumOfWays_26 : decode cX3_sumOfWays 26 = .ok (.ladd, 1) := by decide +kernel
theorem dX3_sumOfWays_27 : decode cX3_sumOfWays 27 = .ok (.lstore 4, 2) := by decide +kernel
theorem dX3_sumOfWays_29 : decode cX3_sumOfWays 29 = .ok (.iinc 6 1, 3) := by decide +kernel
theorem dX3_sumOfWays_32 : decode cX3_sumOfWays 32 = .ok (.goto (-26), 3) := by decide +kernel
theorem dX3_countWays_0 : decode cX3_countWays 0 = .ok (.aload_n 0, 1) := by decide +kernel
theorem dX3_countWays_1 : decode cX3_countWays 1 = .ok (.iload_n 1, 1) := by decide +kernel
theorem dX3_countWays_2 : decode cX3_countWays 2 = .ok (.putfield 92, 3) := by decide +kernel
theorem tw_389 : Cond.fieldLink RX3 92 "LimpCode$Grid" "time" "I" ∈ TT := nx_mem 389 (by decide +kernel) (by decide +kernel)
theorem dX3_countWays_5 : decode cX3_countWays 5 = .ok (.aload_n 0, 1) := by decide +kernel
theorem dX3_countWays_6 : decode cX3_countWays 6 = .ok (.iload_n 2, 1) := by decide +kernel
theorem dX3_countWays_7 : decode cX3_countWays 7 = .ok (.putfield 95, 3) := by decide +kernel
theorem tw_390 : Cond.fieldLink RX3 95 "LimpCode$Grid" "missed" "I" ∈ TT := nx_mem 390 (by decide +kernel) (by decide +kernel)
theorem dX3_countWays_10 : decode cX3_countWays 10 = .ok (.iconst 0, 1) := by decide +kernel
theorem dX3_countWays_11 : decode cX3_countWays 11 = .ok (.istore_n 3, 1) := by decide +kernel
theorem dX3_countWays_12 : decode cX3_countWays 12 = .ok (.iload_n 3, 1) := by decide +kernel
theorem dX3_countWays_13 : decode cX3_countWays 13 = .ok (.iconst 2, 1) := by decide +kernel
theorem dX3_countWays_14 : decode cX3_countWays 14 = .ok (.aload_n 0, 1) := by decide +kernel
theorem dX3_countWays_15 : decode cX3_countWays 15 = .ok (.getfield 95, 3) := by decide +kernel
theorem dX3_countWays_18 : decode cX3_countWays 18 = .ok (.iconst 1, 1) := by decide +kernel
theorem dX3_countWays_19 : decode cX3_countWays 19 = .ok (.iadd, 1) := by decide +kernel
theorem dX3_countWays_20 : decode cX3_countWays 20 = .ok (.imul, 1) := by decide +kernel
theorem dX3_countWays_21 : decode cX3_countWays 21 = .ok (.if_icmp .ge 21, 3) := by decide +kernel
theorem dX3_countWays_42 : decode cX3_countWays 42 = .ok (.aload_n 0, 1) := by decide +kernel
theorem dX3_countWays_43 : decode cX3_countWays 43 = .ok (.getfield 92, 3) := by decide +kernel
theorem dX3_countWays_46 : decode cX3_countWays 46 = .ok (.iconst 1, 1) := by decide +kernel
theorem dX3_countWays_47 : decode cX3_countWays 47 = .ok (.isub, 1) := by decide +kernel
theorem dX3_countWays_48 : decode cX3_countWays 48 = .ok (.istore_n 3, 1) := by decide +kernel
theorem dX3_countWays_49 : decode cX3_countWays 49 = .ok (.iload_n 3, 1) := by decide +kernel
theorem dX3_countWays_50 : decode cX3_countWays 50 = .ok (.ifCond .lt 53, 3) := by decide +kernel
theorem dX3_countWays_103 : decode cX3_countWays 103 = .ok (.aload_n 0, 1) := by decide +kernel
theorem dX3_countWays_104 : decode cX3_countWays 104 = .ok (.getfield 11, 3) := by decide +kernel
theorem dX3_countWays_107 : decode cX3_countWays 107 = .ok (.iconst 2, 1) := by decide +kernel
theorem dX3_countWays_108 : decode cX3_countWays 108 = .ok (.aload_n 0, 1) := by decide +kernel
theorem dX3_countWays_109 : decode cX3_countWays 109 = .ok (.getfield 95, 3) := by decide +kernel
theorem dX3_countWays_112 : decode cX3_countWays 112 = .ok (.imul, 1) := by decide +kernel
theorem dX3_countWays_113 : decode cX3_countWays 113 = .ok (.iconst 0, 1) := by decide +kernel
theorem dX3_countWays_114 : decode cX3_countWays 114 = .ok (.iadd, 1) := by decide +kernel
theorem dX3_countWays_115 : decode cX3_countWays 115 = .ok (.aaload, 1) := by decide +kernel
theorem dX3_countWays_116 : decode cX3_countWays 116 = .ok (.iconst 0, 1) := by decide +kernel
theorem dX3_countWays_117 : decode cX3_countWays 117 = .ok (.laload, 1) := by decide +kernel
theorem dX3_countWays_118 : decode cX3_countWays 118 = .ok (.lreturn, 1) := by decide +kernel
theorem dX3_countWays_53 : decode cX3_countWays 53 = .ok (.iconst 0, 1) := by decide +kernel
theorem dX3_countWays_54 : decode cX3_countWays 54 = .ok (.istore 4, 2) := by decide +kernel
theorem dX3_countWays_56 : decode cX3_countWays 56 = .ok (.iload 4, 2) := by decide +kernel
theorem dX3_countWays_58 : decode cX3_countWays 58 = .ok (.iconst 2, 1) := by decide +kernel
theorem dX3_countWays_59 : decode cX3_countWays 59 = .ok (.aload_n 0, 1) := by decide +kernel
theorem dX3_countWays_60 : decode cX3_countWays 60 = .ok (.getfield 95, 3) := by decide +kernel
theorem dX3_countWays_63 : decode cX3_countWays 63 = .ok (.iconst 1, 1) := by decide +kernel
theorem dX3_countWays_64 : decode cX3_countWays 64 = .ok (.iadd, 1) := by decide +kernel
theorem dX3_countWays_65 : decode cX3_countWays 65 = .ok (.imul, 1) := by decide +kernel
theorem dX3_countWays_66 : decode cX3_countWays 66 = .ok (.if_icmp .ge 31, 3) := by decide +kernel
theorem dX3_countWays_97 : decode cX3_countWays 97 = .ok (.iinc 3 (-1), 3) := by decide +kernel
theorem dX3_countWays_100 : decode cX3_countWays 100 = .ok (.goto (-51), 3) := by decide +kernel
theorem dX3_countWays_69 : decode cX3_countWays 69 = .ok (.aload_n 0, 1) := by decide +kernel
theorem dX3_countWays_70 : decode cX3_countWays 70 = .ok (.getfield 11, 3) := by decide +kernel
theorem dX3_countWays_73 : decode cX3_countWays 73 = .ok (.iload 4, 2) := by decide +kernel
theorem dX3_countWays_75 : decode cX3_countWays 75 = .ok (.aaload, 1) := by decide +kernel
theorem dX3_countWays_76 : decode cX3_countWays 76 = .ok (.iload_n 3, 1) := by decide +kernel
theorem dX3_countWays_77 : decode cX3_countWays 77 = .ok (.aload_n 0, 1) := by decide +kernel
theorem dX3_countWays_78 : decode cX3_countWays 78 = .ok (.iload_n 3, 1) := by decide +kernel
theorem dX3_countWays_79 : decode cX3_countWays 79 = .ok (.iload 4, 2) := by decide +kernel
theorem dX3_countWays_81 : decode cX3_countWays 81 = .ok (.iconst 2, 1) := by decide +kernel
theorem dX3_countWays_82 : decode cX3_countWays 82 = .ok (.irem, 1) := by decide +kernel
theorem dX3_countWays_83 : decode cX3_countWays 83 = .ok (.iload 4, 2) := by decide +kernel
theorem dX3_countWays_85 : decode cX3_countWays 85 = .ok (.iconst 2, 1) := by decide +kernel
theorem dX3_countWays_86 : decode cX3_countWays 86 = .ok (.idiv, 1) := by decide +kernel
theorem dX3_countWays_87 : decode cX3_countWays 87 = .ok (.invokevirtual 98, 3) := by decide +kernel
theorem tw_871 : Cond.methodLink RX3 98 yX3_sumOfWays ∈ TT := nx_mem 871 (by decide +kernel) (by decide +kernel)
theorem tw_873 : Cond.instanceMethod yX3_sumOfWays ∈ TT := nx_mem 873 (by decide +kernel) (by decide +kernel)
theorem tw_20 : Cond.selects RX3 yX3_sumOfWays yX3_sumOfWays ∈ TT := nx_mem 20 (by decide +kernel) (by decide +kernel)
theorem tw_874 : Cond.code yX3_sumOfWays cX3_sumOfWays 7 (some .long) ∈ TT := nx_mem 874 (by decide +kernel) (by decide +kernel)
theorem dX3_countWays_90 : decode cX3_countWays 90 = .ok (.lastore, 1) := by decide +kernel
theorem dX3_countWays_91 : decode cX3_countWays 91 = .ok (.iinc 4 1, 3) := by decide +kernel
theorem dX3_countWays_94 : decode cX3_countWays 94 = .ok (.goto (-38), 3) := by decide +kernel
theorem dX3_countWays_24 : decode cX3_countWays 24 = .ok (.aload_n 0, 1) := by decide +kernel
theorem dX3_countWays_25 : decode cX3_countWays 25 = .ok (.getfield 11, 3) := by decide +kernel
theorem dX3_countWays_28 : decode cX3_countWays 28 = .ok (.iload_n 3, 1) := by decide +kernel
theorem dX3_countWays_29 : decode cX3_countWays 29 = .ok (.aaload, 1) := by decide +kernel
theorem dX3_countWays_30 : decode cX3_countWays 30 = .ok (.aload_n 0, 1) := by decide +kernel
theorem dX3_countWays_31 : decode cX3_countWays 31 = .ok (.getfield 92, 3) := by decide +kernel
theorem dX3_countWays_34 : decode cX3_countWays 34 = .ok (.lconst 1, 1) := by decide +kernel
theorem dX3_countWays_35 : decode cX3_countWays 35 = .ok (.lastore, 1) := by decide +kernel
theorem dX3_countWays_36 : decode cX3_countWays 36 = .ok (.iinc 3 1, 3) := by decide +kernel
theorem dX3_countWays_39 : decode cX3_countWays 39 = .ok (.goto (-27), 3) := by decide +kernel
theorem dX3_itemFrom_0 : decode cX3_itemFrom 0 = .ok (.iload_n 1, 1) := by decide +kernel
theorem dX3_itemFrom_1 : decode cX3_itemFrom 1 = .ok (.iconst 0, 1) := by decide +kernel
theorem dX3_itemFrom_2 : decode cX3_itemFrom 2 = .ok (.invokestatic 111, 3) := by decide +kernel
theorem tw_891 : Cond.methodLink RX3 111 yJ9_max_7cf53 ∈ TT := nx_mem 891 (by decide +kernel) (by decide +kernel)
theorem dX3_itemFrom_5 : decode cX3_itemFrom 5 = .ok (.istore 5, 2) := by decide +kernel
theorem dX3_itemFrom_7 : decode cX3_itemFrom 7 = .ok (.iload 5, 2) := by decide +kernel
theorem dX3_itemFrom_9 : decode cX3_itemFrom 9 = .ok (.aload_n 0, 1) := by decide +kernel
theorem dX3_itemFrom_10 : decode cX3_itemFrom 10 = .ok (.getfield 45, 3) := by decide +kernel
theorem dX3_itemFrom_13 : decode cX3_itemFrom 13 = .ok (.if_icmp .ge 35, 3) := by decide +kernel
theorem dX3_itemFrom_48 : decode cX3_itemFrom 48 = .ok (.iconst (-1), 1) := by decide +kernel
theorem dX3_itemFrom_49 : decode cX3_itemFrom 49 = .ok (.ireturn, 1) := by decide +kernel
theorem dX3_itemFrom_16 : decode cX3_itemFrom 16 = .ok (.iload_n 2, 1) := by decide +kernel
theorem dX3_itemFrom_17 : decode cX3_itemFrom 17 = .ok (.aload_n 0, 1) := by decide +kernel
theorem dX3_itemFrom_18 : decode cX3_itemFrom 18 = .ok (.getfield 92, 3) := by decide +kernel
theorem dX3_itemFrom_21 : decode cX3_itemFrom 21 = .ok (.if_icmp .ge 27, 3) := by decide +kernel
theorem dX3_itemFrom_24 : decode cX3_itemFrom 24 = .ok (.aload_n 0, 1) := by decide +kernel
theorem dX3_itemFrom_25 : decode cX3_itemFrom 25 = .ok (.iload 5, 2) := by decide +kernel
theorem dX3_itemFrom_27 : decode cX3_itemFrom 27 = .ok (.iload_n 2, 1) := by decide +kernel
theorem dX3_itemFrom_28 : decode cX3_itemFrom 28 = .ok (.iload_n 3, 1) := by decide +kernel
theorem dX3_itemFrom_29 : decode cX3_itemFrom 29 = .ok (.iload 4, 2) := by decide +kernel
theorem dX3_itemFrom_31 : decode cX3_itemFrom 31 = .ok (.invokevirtual 102, 3) := by decide +kernel
theorem dX3_itemFrom_34 : decode cX3_itemFrom 34 = .ok (.lconst 0, 1) := by decide +kernel
theorem dX3_itemFrom_35 : decode cX3_itemFrom 35 = .ok (.lcmp, 1) := by decide +kernel
theorem dX3_itemFrom_36 : decode cX3_itemFrom 36 = .ok (.ifCond .le 6, 3) := by decide +kernel
theorem dX3_itemFrom_42 : decode cX3_itemFrom 42 = .ok (.iinc 5 1, 3) := by decide +kernel
theorem dX3_itemFrom_45 : decode cX3_itemFrom 45 = .ok (.goto (-38), 3) := by decide +kernel
theorem dX3_itemFrom_39 : decode cX3_itemFrom 39 = .ok (.iload 5, 2) := by decide +kernel
theorem dX3_itemFrom_41 : decode cX3_itemFrom 41 = .ok (.ireturn, 1) := by decide +kernel
theorem dX3_layFirst_0 : decode cX3_layFirst 0 = .ok (.iconst 0, 1) := by decide +kernel
theorem dX3_layFirst_1 : decode cX3_layFirst 1 = .ok (.istore_n 2, 1) := by decide +kernel
theorem dX3_layFirst_2 : decode cX3_layFirst 2 = .ok (.iconst 0, 1) := by decide +kernel
theorem dX3_layFirst_3 : decode cX3_layFirst 3 = .ok (.istore_n 3, 1) := by decide +kernel
theorem dX3_layFirst_4 : decode cX3_layFirst 4 = .ok (.aload_n 0, 1) := by decide +kernel
theorem dX3_layFirst_5 : decode cX3_layFirst 5 = .ok (.getfield 95, 3) := by decide +kernel
theorem dX3_layFirst_8 : decode cX3_layFirst 8 = .ok (.istore 4, 2) := by decide +kernel
theorem dX3_layFirst_10 : decode cX3_layFirst 10 = .ok (.iconst 0, 1) := by decide +kernel
theorem dX3_layFirst_11 : decode cX3_layFirst 11 = .ok (.istore 5, 2) := by decide +kernel
theorem dX3_layFirst_13 : decode cX3_layFirst 13 = .ok (.iload_n 2, 1) := by decide +kernel
theorem dX3_layFirst_14 : decode cX3_layFirst 14 = .ok (.aload_n 0, 1) := by decide +kernel
theorem dX3_layFirst_15 : decode cX3_layFirst 15 = .ok (.getfield 92, 3) := by decide +kernel
theorem dX3_layFirst_18 : decode cX3_layFirst 18 = .ok (.if_icmp .ge 75, 3) := by decide +kernel
theorem dX3_layFirst_93 : decode cX3_layFirst 93 = .ok (.iload 5, 2) := by decide +kernel
theorem dX3_layFirst_95 : decode cX3_layFirst 95 = .ok (.ireturn, 1) := by decide +kernel
theorem dX3_layFirst_21 : decode cX3_layFirst 21 = .ok (.iload 5, 2) := by decide +kernel
theorem dX3_layFirst_23 : decode cX3_layFirst 23 = .ok (.aload_n 1, 1) := by decide +kernel
theorem dX3_layFirst_24 : decode cX3_layFirst 24 = .ok (.arraylength, 1) := by decide +kernel
theorem dX3_layFirst_25 : decode cX3_layFirst 25 = .ok (.if_icmp .ge 68, 3) := by decide +kernel
theorem dX3_layFirst_28 : decode cX3_layFirst 28 = .ok (.aload_n 0, 1) := by decide +kernel
theorem dX3_layFirst_29 : decode cX3_layFirst 29 = .ok (.iconst 0, 1) := by decide +kernel
theorem dX3_layFirst_30 : decode cX3_layFirst 30 = .ok (.iload_n 2, 1) := by decide +kernel
theorem dX3_layFirst_31 : decode cX3_layFirst 31 = .ok (.iload_n 3, 1) := by decide +kernel
theorem dX3_layFirst_32 : decode cX3_layFirst 32 = .ok (.iload 4, 2) := by decide +kernel
theorem dX3_layFirst_34 : decode cX3_layFirst 34 = .ok (.invokevirtual 114, 3) := by decide +kernel
theorem tw_887 : Cond.methodLink RX3 114 yX3_itemFrom ∈ TT := nx_mem 887 (by decide +kernel) (by decide +kernel)
theorem tw_888 : Cond.instanceMethod yX3_itemFrom ∈ TT := nx_mem 888 (by decide +kernel) (by decide +kernel)
theorem tw_889 : Cond.selects RX3 yX3_itemFrom yX3_itemFrom ∈ TT := nx_mem 889 (by decide +kernel) (by decide +kernel)
theorem tw_890 : Cond.code yX3_itemFrom cX3_itemFrom 6 (some .int) ∈ TT := nx_mem 890 (by decide +kernel) (by decide +kernel)
theorem dX3_layFirst_37 : decode cX3_layFirst 37 = .ok (.istore 6, 2) := by decide +kernel
theorem dX3_layFirst_39 : decode cX3_layFirst 39 = .ok (.iload 6, 2) := by decide +kernel
theorem dX3_layFirst_41 : decode cX3_layFirst 41 = .ok (.iconst (-1), 1) := by decide +kernel
theorem dX3_layFirst_42 : decode cX3_layFirst 42 = .ok (.if_icmp .ne 5, 3) := by decide +kernel
theorem dX3_layFirst_45 : decode cX3_layFirst 45 = .ok (.iconst 0, 1) := by decide +kernel
theorem dX3_layFirst_46 : decode cX3_layFirst 46 = .ok (.ireturn, 1) := by decide +kernel
theorem dX3_layFirst_47 : decode cX3_layFirst 47 = .ok (.aload_n 1, 1) := by decide +kernel
theorem dX3_layFirst_48 : decode cX3_layFirst 48 = .ok (.iload 5, 2) := by decide +kernel
theorem dX3_layFirst_50 : decode cX3_layFirst 50 = .ok (.iload 6, 2) := by decide +kernel
theorem dX3_layFirst_52 : decode cX3_layFirst 52 = .ok (.iastore, 1) := by decide +kernel
theorem dX3_layFirst_53 : decode cX3_layFirst 53 = .ok (.iinc 5 1, 3) := by decide +kernel
theorem dX3_layFirst_56 : decode cX3_layFirst 56 = .ok (.iload 4, 2) := by decide +kernel
theorem dX3_layFirst_58 : decode cX3_layFirst 58 = .ok (.aload_n 0, 1) := by decide +kernel
theorem dX3_layFirst_59 : decode cX3_layFirst 59 = .ok (.getfield 35, 3) := by decide +kernel
theorem dX3_layFirst_62 : decode cX3_layFirst 62 = .ok (.iload 6, 2) := by decide +kernel
theorem dX3_layFirst_64 : decode cX3_layFirst 64 = .ok (.aaload, 1) := by decide +kernel
theorem dX3_layFirst_65 : decode cX3_layFirst 65 = .ok (.iload_n 2, 1) := by decide +kernel
theorem dX3_layFirst_66 : decode cX3_layFirst 66 = .ok (.iaload, 1) := by decide +kernel
theorem dX3_layFirst_67 : decode cX3_layFirst 67 = .ok (.isub, 1) := by decide +kernel
theorem dX3_layFirst_68 : decode cX3_layFirst 68 = .ok (.istore 4, 2) := by decide +kernel
theorem dX3_layFirst_70 : decode cX3_layFirst 70 = .ok (.aload_n 0, 1) := by decide +kernel
theorem dX3_layFirst_71 : decode cX3_layFirst 71 = .ok (.getfield 32, 3) := by decide +kernel
theorem dX3_layFirst_74 : decode cX3_layFirst 74 = .ok (.iload 6, 2) := by decide +kernel
theorem dX3_layFirst_76 : decode cX3_layFirst 76 = .ok (.aaload, 1) := by decide +kernel
theorem dX3_layFirst_77 : decode cX3_layFirst 77 = .ok (.iload_n 3, 1) := by decide +kernel
theorem dX3_layFirst_78 : decode cX3_layFirst 78 = .ok (.iaload, 1) := by decide +kernel
theorem dX3_layFirst_79 : decode cX3_layFirst 79 = .ok (.istore_n 3, 1) := by decide +kernel
theorem dX3_layFirst_80 : decode cX3_layFirst 80 = .ok (.iload_n 2, 1) := by decide +kernel
theorem dX3_layFirst_81 : decode cX3_layFirst 81 = .ok (.aload_n 0, 1) := by decide +kernel
theorem dX3_layFirst_82 : decode cX3_layFirst 82 = .ok (.getfield 26, 3) := by decide +kernel
theorem dX3_layFirst_85 : decode cX3_layFirst 85 = .ok (.iload 6, 2) := by decide +kernel
theorem dX3_layFirst_87 : decode cX3_layFirst 87 = .ok (.iaload, 1) := by decide +kernel
theorem dX3_layFirst_88 : decode cX3_layFirst 88 = .ok (.iadd, 1) := by decide +kernel
theorem dX3_layFirst_89 : decode cX3_layFirst 89 = .ok (.istore_n 2, 1) := by decide +kernel
theorem dX3_layFirst_90 : decode cX3_layFirst 90 = .ok (.goto (-77), 3) := by decide +kernel
set_option maxHeartbeats 4000000 in
set_option maxRecDepth 100000 in
theorem s_X3_waysBy (lau : Launch) (gg : va_G) (kA : Nat → ClassId) (g : Nat) (k : Nat) (t : Nat) (f : Nat) (mm : Nat) (g0 : Nat) (g1 : Nat) (g2 : Nat) (g3 : Nat) (g4 : Nat) (g5 : Nat) (g6 : Nat) (g7 : Nat) (gn : Nat) (gtm : Nat) (gms : Nat) (M : Nat) (gtk : Nat → Int32) (gaf : Nat → Nat → Int32) (gco : Nat → Nat → Int32) (gwy : Nat → Nat → Int64) (hM : M ≤ 10) (hgn : gn ≤ M) (hgtm : gtm ≤ 60) (hgtk : LtOk gn gtk) (hgaf : FtOk gn gaf) (hgco : CoOk gn gtm gtk gco) (hk : k < gn) (ht : t < gtm) (hf : f ≤ 1) (hmm : mm ≤ 3) : CtL lau yX3_waysBy cX3_waysBy 7 (some .long) 1 0 0 gg kA [.ref g, .int (nI k), .int (nI t), .int (nI f), .int (nI mm)] (mflat [(g, .inl (.inr (3, [.ref g0, .ref g1, .ref g2, .ref g3, .ref g4, .ref g5, .ref g6, .ref g7, .int (nI gn), .int (nI gtm), .int (nI gms)]))), (g0, .inl (.inl (kA 1, M, .inl gtk))), (g1, .inr (kA 6, kA 1, M, 2, .inl gaf)), (g2, .inr (kA 6, kA 1, M, 60, .inl gco)), (g3, .inr (kA 7, kA 2, 8, 61, .inr gwy))]) (S := Unit) (fun (r : Int64) (_ : Unit) => r = 0 ∨ GoOk gtk gaf gco gtm k t f mm) (fun (_ : Unit) => mflat [(g, .inl (.inr (3, [.ref g0, .ref g1, .ref g2, .ref g3, .ref g4, .ref g5, .ref g6, .ref g7, .int (nI gn), .int (nI gtm), .int (nI gms)]))), (g0, .inl (.inl (kA 1, M, .inl gtk))), (g1, .inr (kA 6, kA 1, M, 2, .inl gaf)), (g2, .inr (kA 6, kA 1, M, 60, .inl gco)), (g3, .inr (kA 7, kA 2, 8, 61, .inr gwy))]) := by
  refine nx_startL (by decide +kernel) (Nat.le_of_ble_eq_true rfl) ?_
  intro x hnm h hq
  have h : Ok x cX3_waysBy RX3 kA (rmC 1 0 0) 7 := h
  show J x (mflat [(g, .inl (.inr (3, [.ref g0, .ref g1, .ref g2, .ref g3, .ref g4, .ref g5, .ref g6, .ref g7, .int (nI gn), .int (nI gtm), .int (nI gms)]))), (g0, .inl (.inl (kA 1, M, .inl gtk))), (g1, .inr (kA 6, kA 1, M, 2, .inl gaf)), (g2, .inr (kA 6, kA 1, M, 60, .inl gco)), (g3, .inr (kA 7, kA 2, 8, 61, .inr gwy))]) [(0, .ref g), (1, .int (nI k)), (2, .int (nI t)), (3, .int (nI f)), (4, .int (nI mm))] 0 0 0 []
  refine j_aload_n h 0 rfl rfl dX3_waysBy_0 ?_
  refine jm_get h iw_X3 0 rfl rfl 1 (by decide +kernel) tw_379 rfl dX3_waysBy_1 ?_
  refine j_iload_n h 1 rfl rfl dX3_waysBy_4 ?_
  refine jm_gout h 2 6 rfl rfl k rfl (by omega) (by omega) dX3_waysBy_5 ?_
  refine j_iload_n h 3 rfl rfl dX3_waysBy_6 ?_
  refine jm_gald h 2 rfl k (by omega) f rfl (by omega) (by omega) dX3_waysBy_7 ?_
  obtain ⟨t1394, u1395, u1396⟩ := (show FtOk gn gaf by assumption) k f (by omega) (by omega)
  refine j_top (b := pm t1394) (u1396) ?_
  refine j_istore (lv' := [(5, .int (pm t1394)), (0, .ref g), (1, .int (nI k)), (2, .int (nI t)), (3, .int (nI f)), (4, .int (nI mm))]) h dX3_waysBy_8 (by decide) rfl ?_
  refine j_iload h 5 rfl dX3_waysBy_10 ?_
  refine j_aload_n h 1 rfl rfl dX3_waysBy_12 ?_
  refine jm_get h iw_X3 0 rfl rfl 2 (by decide +kernel) tw_381 rfl dX3_waysBy_13 ?_
  refine j_iload_n h 2 rfl rfl dX3_waysBy_16 ?_
  refine jm_gout h 3 6 rfl rfl k rfl (by omega) (by omega) dX3_waysBy_17 ?_
  refine j_iload_n h 3 rfl rfl dX3_waysBy_18 ?_
  refine jm_gald h 3 rfl k (by omega) t rfl (by omega) (by omega) dX3_waysBy_19 ?_
  obtain ⟨t1397, u1398, u1399, u1400⟩ := (show CoOk gn gtm gtk gco by assumption) k t (by omega) (by omega)
  refine j_top (b := nI t1397) (u1399) ?_
  refine j_isub h dX3_waysBy_20 ?_
  by_cases z1401 : t1397 ≤ mm
  · refine j_top (b := nI (mm - t1397)) (pk_sub (a := mm) (b := t1397) (by omega)) ?_
    show J x (mflat [(g, .inl (.inr (3, [.ref g0, .ref g1, .ref g2, .ref g3, .ref g4, .ref g5, .ref g6, .ref g7, .int (nI gn), .int (nI gtm), .int (nI gms)]))), (g0, .inl (.inl (kA 1, M, .inl gtk))), (g1, .inr (kA 6, kA 1, M, 2, .inl gaf)), (g2, .inr (kA 6, kA 1, M, 60, .inl gco)), (g3, .inr (kA 7, kA 2, 8, 61, .inr gwy))]) [(5, .int (pm t1394)), (0, .ref g), (1, .int (nI k)), (2, .int (nI t)), (3, .int (nI f)), (4, .int (nI mm))] 0 0 21 [.int (nI (mm - t1397))]
    refine j_istore (lv' := [(6, .int (nI (mm - t1397))), (5, .int (pm t1394)), (0, .ref g), (1, .int (nI k)), (2, .int (nI t)), (3, .int (nI f)), (4, .int (nI mm))]) h dX3_waysBy_21 (by decide) rfl ?_
    refine j_iload h 1 rfl dX3_waysBy_23 ?_
    refine j_iconst (v := (-1)) h (by decide) dX3_waysBy_25 ?_
    rcases t1394 with _ | j1402
    · show J x (mflat [(g, .inl (.inr (3, [.ref g0, .ref g1, .ref g2, .ref g3, .ref g4, .ref g5, .ref g6, .ref g7, .int (nI gn), .int (nI gtm), .int (nI gms)]))), (g0, .inl (.inl (kA 1, M, .inl gtk))), (g1, .inr (kA 6, kA 1, M, 2, .inl gaf)), (g2, .inr (kA 6, kA 1, M, 60, .inl gco)), (g3, .inr (kA 7, kA 2, 8, 61, .inr gwy))]) [(6, .int (nI (mm - t1397))), (5, .int (-1)), (0, .ref g), (1, .int (nI k)), (2, .int (nI t)), (3, .int (nI f)), (4, .int (nI mm))] 0 0 26 [.int (-1), .int (-1)]
      refine j_icmp_eq h 34 dX3_waysBy_26 (by decide) (fun _ => ?_) (fun q => absurd (by decide) q)
      refine j_lconst (v := 0) h (by decide) dX3_waysBy_34 ?_
      exact jm_lret h hq dX3_waysBy_35 () [0, 1, 2, 3, 4] rfl (by decide) (show 0 = 0 ∨ GoOk gtk gaf gco gtm k t f mm from Or.inl rfl) (Nat.le_of_ble_eq_true rfl) (Nat.le_of_ble_eq_true rfl)
    · show J x (mflat [(g, .inl (.inr (3, [.ref g0, .ref g1, .ref g2, .ref g3, .ref g4, .ref g5, .ref g6, .ref g7, .int (nI gn), .int (nI gtm), .int (nI gms)]))), (g0, .inl (.inl (kA 1, M, .inl gtk))), (g1, .inr (kA 6, kA 1, M, 2, .inl gaf)), (g2, .inr (kA 6, kA 1, M, 60, .inl gco)), (g3, .inr (kA 7, kA 2, 8, 61, .inr gwy))]) [(6, .int (nI (mm - t1397))), (5, .int (nI j1402)), (0, .ref g), (1, .int (nI k)), (2, .int (nI t)), (3, .int (nI f)), (4, .int (nI mm))] 0 0 26 [.int (-1), .int (nI j1402)]
      refine j_icmp_eq h 34 dX3_waysBy_26 (by decide) (fun q => absurd q (nI_m1 (by omega))) (fun _ => ?_)
      refine j_iload h 0 rfl dX3_waysBy_29 ?_
      refine j_if_ge h 36 dX3_waysBy_31 (by decide) (fun _ => ?_) (fun q => absurd (nI_pos' (by omega)) q)
      obtain ⟨t1403, u1404, u1405, u1406⟩ := hgtk k hk
      obtain ⟨u1407, u1407a, u1407b, u1407c⟩ := hgco k t hk ht
      have u1407d : u1407 = t1397 := (nI_eq (by omega) (by omega)).mp (u1407b.symm.trans u1399)
      have u1407e := u1407c (by omega) t1403 u1406 (by omega)
      refine j_aload_n h 2 rfl rfl dX3_waysBy_36 ?_
      refine jm_get h iw_X3 0 rfl rfl 3 (by decide +kernel) tw_382 rfl dX3_waysBy_37 ?_
      refine j_iconst (v := 2) h (by decide) dX3_waysBy_40 ?_
      refine j_iload h 0 rfl dX3_waysBy_41 ?_
      refine j_imul h dX3_waysBy_43 ?_
      refine j_top (b := nI (2 * (mm - t1397))) (pk_mul 2 (mm - t1397)) ?_
      refine j_iload h 1 rfl dX3_waysBy_44 ?_
      refine j_iadd h dX3_waysBy_46 ?_
      refine j_top (b := nI ((2 * (mm - t1397)) + j1402)) (nI_add (2 * (mm - t1397)) j1402) ?_
      refine jm_gout h 4 7 rfl rfl ((2 * (mm - t1397)) + j1402) rfl (by omega) (by omega) dX3_waysBy_47 ?_
      refine j_iload_n h 4 rfl rfl dX3_waysBy_48 ?_
      refine j_aload_n h 2 rfl rfl dX3_waysBy_49 ?_
      refine jm_get h iw_X3 0 rfl rfl 0 (by decide +kernel) tw_377 rfl dX3_waysBy_50 ?_
      refine j_iload_n h 3 rfl rfl dX3_waysBy_53 ?_
      refine jm_iald h 1 rfl k rfl (by omega) (by omega) dX3_waysBy_54 ?_
      refine j_top (b := nI t1403) (u1406) ?_
      refine j_iadd h dX3_waysBy_55 ?_
      refine j_top (b := nI (t + t1403)) (nI_add t t1403) ?_
      refine jm_glald h 4 rfl ((2 * (mm - t1397)) + j1402) (by omega) (t + t1403) rfl (by omega) (by omega) dX3_waysBy_56 ?_
      exact jm_lret h hq dX3_waysBy_57 () [0, 1, 2, 3, 4] rfl (by decide) (show (gwy ((2 * (mm - t1397)) + j1402) (t + t1403)) = 0 ∨ GoOk gtk gaf gco gtm k t f mm from Or.inr ⟨j1402, t1403, t1397, by omega, u1396, by omega, by omega, u1406, by omega, u1399, by omega⟩) (Nat.le_of_ble_eq_true rfl) (Nat.le_of_ble_eq_true rfl)
  · have hz1401 : (nI mm) - (nI t1397) < 0 := pk_sneg (a := mm) (b := t1397) (by omega) (by omega)
    show J x (mflat [(g, .inl (.inr (3, [.ref g0, .ref g1, .ref g2, .ref g3, .ref g4, .ref g5, .ref g6, .ref g7, .int (nI gn), .int (nI gtm), .int (nI gms)]))), (g0, .inl (.inl (kA 1, M, .inl gtk))), (g1, .inr (kA 6, kA 1, M, 2, .inl gaf)), (g2, .inr (kA 6, kA 1, M, 60, .inl gco)), (g3, .inr (kA 7, kA 2, 8, 61, .inr gwy))]) [(5, .int (pm t1394)), (0, .ref g), (1, .int (nI k)), (2, .int (nI t)), (3, .int (nI f)), (4, .int (nI mm))] 0 0 21 [.int ((nI mm) - (nI t1397))]
    refine j_istore (lv' := [(6, .int ((nI mm) - (nI t1397))), (5, .int (pm t1394)), (0, .ref g), (1, .int (nI k)), (2, .int (nI t)), (3, .int (nI f)), (4, .int (nI mm))]) h dX3_waysBy_21 (by decide) rfl ?_
    refine j_iload h 1 rfl dX3_waysBy_23 ?_
    refine j_iconst (v := (-1)) h (by decide) dX3_waysBy_25 ?_
    rcases t1394 with _ | j1408
    · show J x (mflat [(g, .inl (.inr (3, [.ref g0, .ref g1, .ref g2, .ref g3, .ref g4, .ref g5, .ref g6, .ref g7, .int (nI gn), .int (nI gtm), .int (nI gms)]))), (g0, .inl (.inl (kA 1, M, .inl gtk))), (g1, .inr (kA 6, kA 1, M, 2, .inl gaf)), (g2, .inr (kA 6, kA 1, M, 60, .inl gco)), (g3, .inr (kA 7, kA 2, 8, 61, .inr gwy))]) [(6, .int ((nI mm) - (nI t1397))), (5, .int (-1)), (0, .ref g), (1, .int (nI k)), (2, .int (nI t)), (3, .int (nI f)), (4, .int (nI mm))] 0 0 26 [.int (-1), .int (-1)]
      refine j_icmp_eq h 34 dX3_waysBy_26 (by decide) (fun _ => ?_) (fun q => absurd (by decide) q)
      refine j_lconst (v := 0) h (by decide) dX3_waysBy_34 ?_
      exact jm_lret h hq dX3_waysBy_35 () [0, 1, 2, 3, 4] rfl (by decide) (show 0 = 0 ∨ GoOk gtk gaf gco gtm k t f mm from Or.inl rfl) (Nat.le_of_ble_eq_true rfl) (Nat.le_of_ble_eq_true rfl)
    · show J x (mflat [(g, .inl (.inr (3, [.ref g0, .ref g1, .ref g2, .ref g3, .ref g4, .ref g5, .ref g6, .ref g7, .int (nI gn), .int (nI gtm), .int (nI gms)]))), (g0, .inl (.inl (kA 1, M, .inl gtk))), (g1, .inr (kA 6, kA 1, M, 2, .inl gaf)), (g2, .inr (kA 6, kA 1, M, 60, .inl gco)), (g3, .inr (kA 7, kA 2, 8, 61, .inr gwy))]) [(6, .int ((nI mm) - (nI t1397))), (5, .int (nI j1408)), (0, .ref g), (1, .int (nI k)), (2, .int (nI t)), (3, .int (nI f)), (4, .int (nI mm))] 0 0 26 [.int (-1), .int (nI j1408)]
      refine j_icmp_eq h 34 dX3_waysBy_26 (by decide) (fun q => absurd q (nI_m1 (by omega))) (fun _ => ?_)
      refine j_iload h 0 rfl dX3_waysBy_29 ?_
      refine j_if_ge h 36 dX3_waysBy_31 (by decide) (fun q => absurd q (fun q8 => Int32.lt_irrefl (Int32.lt_of_le_of_lt q8 hz1401))) (fun _ => ?_)
      refine j_lconst (v := 0) h (by decide) dX3_waysBy_34 ?_
      exact jm_lret h hq dX3_waysBy_35 () [0, 1, 2, 3, 4] rfl (by decide) (show 0 = 0 ∨ GoOk gtk gaf gco gtm k t f mm from Or.inl rfl) (Nat.le_of_ble_eq_true rfl) (Nat.le_of_ble_eq_true rfl)
set_option maxHeartbeats 4000000 in
set_option maxRecDepth 100000 in
theorem s_J9_min_f86c9 (lau : Launch) (gg : va_G) (kA : Nat → ClassId) (a : Int64) (b : Int64)  : CtL lau yJ9_min_f86c9 cJ9_min_f86c9 4 (some .long) 1 0 0 gg kA [.long a, .long b] (mflat []) (S := Unit) (fun (r : Int64) (_ : Unit) => True) (fun (_ : Unit) => mflat []) := by
  refine nx_startLF (by decide +kernel) (Nat.le_of_ble_eq_true rfl) ?_
  intro x hnm h hq
  have h : Ok x cJ9_min_f86c9 RJ9 kA (rmC 1 0 0) 4 := h
  show J x (mflat []) [(0, .long a), (2, .long b)] 0 0 0 []
  refine j_lload_n h 0 rfl rfl dJ9_min_f86c9_0 ?_
  refine j_lload_n h 1 rfl rfl dJ9_min_f86c9_1 ?_
  refine j_lcmp h dJ9_min_f86c9_2 ?_
  refine j_if_gt h 10 dJ9_min_f86c9_3 (by decide) (fun z1410 => ?_) (fun z1410 => ?_)
  · show J x (mflat []) [(0, .long a), (2, .long b)] 0 0 10 []
    refine j_lload_n h 1 rfl rfl dJ9_min_f86c9_10 ?_
    exact jm_lret h hq dJ9_min_f86c9_11 () [] rfl (by decide) trivial (Nat.le_of_ble_eq_true rfl) (Nat.le_of_ble_eq_true rfl)
  · show J x (mflat []) [(0, .long a), (2, .long b)] 0 0 6 []
    refine j_lload_n h 0 rfl rfl dJ9_min_f86c9_6 ?_
    refine j_goto h 11 dJ9_min_f86c9_7 (by decide) ?_
    exact jm_lret h hq dJ9_min_f86c9_11 () [] rfl (by decide) trivial (Nat.le_of_ble_eq_true rfl) (Nat.le_of_ble_eq_true rfl)
set_option maxHeartbeats 4000000 in
set_option maxRecDepth 100000 in
theorem s_X3_sumOfWays (lau : Launch) (gg : va_G) (kA : Nat → ClassId) (g : Nat) (t : Nat) (f : Nat) (mm : Nat) (g0 : Nat) (g1 : Nat) (g2 : Nat) (g3 : Nat) (g4 : Nat) (g5 : Nat) (g6 : Nat) (g7 : Nat) (gn : Nat) (gtm : Nat) (gms : Nat) (M : Nat) (gtk : Nat → Int32) (gaf : Nat → Nat → Int32) (gco : Nat → Nat → Int32) (gwy : Nat → Nat → Int64) (hM : M ≤ 10) (hgn : gn ≤ M) (hgtm : gtm ≤ 60) (hgtk : LtOk gn gtk) (hgaf : FtOk gn gaf) (hgco : CoOk gn gtm gtk gco) (ht : t < gtm) (hf : f ≤ 1) (hmm : mm ≤ 3) : CtL lau yX3_sumOfWays cX3_sumOfWays 7 (some .long) 2 0 0 gg kA [.ref g, .int (nI t), .int (nI f), .int (nI mm)] (mflat [(g, .inl (.inr (3, [.ref g0, .ref g1, .ref g2, .ref g3, .ref g4, .ref g5, .ref g6, .ref g7, .int (nI gn), .int (nI gtm), .int (nI gms)]))), (g0, .inl (.inl (kA 1, M, .inl gtk))), (g1, .inr (kA 6, kA 1, M, 2, .inl gaf)), (g2, .inr (kA 6, kA 1, M, 60, .inl gco)), (g3, .inr (kA 7, kA 2, 8, 61, .inr gwy))]) (S := Unit) (fun (r : Int64) (_ : Unit) => True) (fun (_ : Unit) => mflat [(g, .inl (.inr (3, [.ref g0, .ref g1, .ref g2, .ref g3, .ref g4, .ref g5, .ref g6, .ref g7, .int (nI gn), .int (nI gtm), .int (nI gms)]))), (g0, .inl (.inl (kA 1, M, .inl gtk))), (g1, .inr (kA 6, kA 1, M, 2, .inl gaf)), (g2, .inr (kA 6, kA 1, M, 60, .inl gco)), (g3, .inr (kA 7, kA 2, 8, 61, .inr gwy))]) := by
  refine nx_startL (by decide +kernel) (Nat.le_of_ble_eq_true rfl) ?_
  intro x hnm h hq
  have h : Ok x cX3_sumOfWays RX3 kA (rmC 2 0 0) 7 := h
  show J x (mflat [(g, .inl (.inr (3, [.ref g0, .ref g1, .ref g2, .ref g3, .ref g4, .ref g5, .ref g6, .ref g7, .int (nI gn), .int (nI gtm), .int (nI gms)]))), (g0, .inl (.inl (kA 1, M, .inl gtk))), (g1, .inr (kA 6, kA 1, M, 2, .inl gaf)), (g2, .inr (kA 6, kA 1, M, 60, .inl gco)), (g3, .inr (kA 7, kA 2, 8, 61, .inr gwy))]) [(0, .ref g), (1, .int (nI t)), (2, .int (nI f)), (3, .int (nI mm))] 0 0 0 []
  refine j_lconst (v := 0) h (by decide) dX3_sumOfWays_0 ?_
  refine j_lstore (lv' := [(4, .long 0), (0, .ref g), (1, .int (nI t)), (2, .int (nI f)), (3, .int (nI mm))]) h dX3_sumOfWays_1 (by decide) rfl ?_
  refine j_iconst (v := 0) h (by decide) dX3_sumOfWays_3 ?_
  refine j_istore (lv' := [(6, .int 0), (4, .long 0), (0, .ref g), (1, .int (nI t)), (2, .int (nI f)), (3, .int (nI mm))]) h dX3_sumOfWays_4 (by decide) rfl ?_
  have lp6_114 : ∀ (m6_114 : Nat), ∀ (v6_6_114 : Nat) (v4_6_114 : Int64), (v6_6_114 ≤ 100000) → 100001 - v6_6_114 < m6_114 → J x (mflat [(g, .inl (.inr (3, [.ref g0, .ref g1, .ref g2, .ref g3, .ref g4, .ref g5, .ref g6, .ref g7, .int (nI gn), .int (nI gtm), .int (nI gms)]))), (g0, .inl (.inl (kA 1, M, .inl gtk))), (g1, .inr (kA 6, kA 1, M, 2, .inl gaf)), (g2, .inr (kA 6, kA 1, M, 60, .inl gco)), (g3, .inr (kA 7, kA 2, 8, 61, .inr gwy))]) [(6, .int (nI v6_6_114)), (4, .long v4_6_114), (0, .ref g), (1, .int (nI t)), (2, .int (nI f)), (3, .int (nI mm))] 0 0 6 [] := by
    intro m6_114
    induction m6_114 with
    | zero =>
      intro v6_6_114 v4_6_114 i6_114_0 hm6_114
      exact absurd hm6_114 (Nat.not_lt_zero _)
    | succ m6_114 ih6_114 =>
      intro v6_6_114 v4_6_114 i6_114_0 hm6_114
      refine j_iload h 0 rfl dX3_sumOfWays_6 ?_
      refine j_aload_n h 2 rfl rfl dX3_sumOfWays_8 ?_
      refine jm_get h iw_X3 0 rfl rfl 8 (by decide +kernel) tw_387 rfl dX3_sumOfWays_9 ?_
      refine j_icmp_ge h 35 dX3_sumOfWays_12 (by decide) (fun z1441 => ?_) (fun z1441 => ?_)
      · have z1441n : gn ≤ v6_6_114 := (nI_leI (a := gn) (b := v6_6_114) (by omega) (by omega)).mp z1441
        refine j_lload h 1 rfl dX3_sumOfWays_35 ?_
        refine j_ldc2 h tw_879 dX3_sumOfWays_37 ?_
        refine jm_callSl (np := 2) (isC := []) (isR := [0, 1, 2, 3, 4]) (wc := []) (wr := [(g, .inl (.inr (3, [.ref g0, .ref g1, .ref g2, .ref g3, .ref g4, .ref g5, .ref g6, .ref g7, .int (nI gn), .int (nI gtm), .int (nI gms)]))), (g0, .inl (.inl (kA 1, M, .inl gtk))), (g1, .inr (kA 6, kA 1, M, 2, .inl gaf)), (g2, .inr (kA 6, kA 1, M, 60, .inl gco)), (g3, .inr (kA 7, kA 2, 8, 61, .inr gwy))]) (rest := []) (As := [.long v4_6_114, .long 1000000000000000]) h (s_J9_min_f86c9 _ _ kA v4_6_114 1000000000000000 ) tw_880 tw_881 tw_105 tw_882 (by decide +kernel) rfl ⟨Nat.le_of_ble_eq_true rfl, Nat.le_of_ble_eq_true rfl⟩ (by decide +kernel) rfl rfl (by decide +kernel) (by decide +kernel) (Nat.le_of_ble_eq_true rfl) rfl ⟨Nat.le_of_ble_eq_true rfl, Nat.le_of_ble_eq_true rfl⟩ dX3_sumOfWays_40 ?_
        rintro r1443 _ e1442
        show J x (mflat [(g, .inl (.inr (3, [.ref g0, .ref g1, .ref g2, .ref g3, .ref g4, .ref g5, .ref g6, .ref g7, .int (nI gn), .int (nI gtm), .int (nI gms)]))), (g0, .inl (.inl (kA 1, M, .inl gtk))), (g1, .inr (kA 6, kA 1, M, 2, .inl gaf)), (g2, .inr (kA 6, kA 1, M, 60, .inl gco)), (g3, .inr (kA 7, kA 2, 8, 61, .inr gwy))]) [(6, .int (nI v6_6_114)), (4, .long v4_6_114), (0, .ref g), (1, .int (nI t)), (2, .int (nI f)), (3, .int (nI mm))] 0 0 43 [.long r1443]
        exact jm_lret h hq dX3_sumOfWays_43 () [0, 1, 2, 3, 4] rfl (by decide) trivial (Nat.le_of_ble_eq_true rfl) (Nat.le_of_ble_eq_true rfl)
      · have z1441n : ¬ gn ≤ v6_6_114 := fun q9 => z1441 ((nI_leI (a := gn) (b := v6_6_114) (by omega) (by omega)).mpr q9)
        refine j_lload h 1 rfl dX3_sumOfWays_15 ?_
        refine j_aload_n h 2 rfl rfl dX3_sumOfWays_17 ?_
        refine j_iload h 0 rfl dX3_sumOfWays_18 ?_
        refine j_iload_n h 3 rfl rfl dX3_sumOfWays_20 ?_
        refine j_iload_n h 4 rfl rfl dX3_sumOfWays_21 ?_
        refine j_iload_n h 5 rfl rfl dX3_sumOfWays_22 ?_
        refine jm_callVl (np := 4) (isC := [0, 1, 2, 3, 4]) (isR := []) (wc := [(g, .inl (.inr (3, [.ref g0, .ref g1, .ref g2, .ref g3, .ref g4, .ref g5, .ref g6, .ref g7, .int (nI gn), .int (nI gtm), .int (nI gms)]))), (g0, .inl (.inl (kA 1, M, .inl gtk))), (g1, .inr (kA 6, kA 1, M, 2, .inl gaf)), (g2, .inr (kA 6, kA 1, M, 60, .inl gco)), (g3, .inr (kA 7, kA 2, 8, 61, .inr gwy))]) (wr := []) (rest := [.long v4_6_114]) (As := [.int (nI v6_6_114), .int (nI t), .int (nI f), .int (nI mm)]) (q0 := 0) h (s_X3_waysBy _ _ kA g v6_6_114 t f mm g0 g1 g2 g3 g4 g5 g6 g7 gn gtm gms M gtk gaf gco gwy (show M ≤ 10 by first | assumption | omega) (show gn ≤ M by first | assumption | omega) (show gtm ≤ 60 by first | assumption | omega) (show LtOk gn gtk by first | assumption | omega) (show FtOk gn gaf by first | assumption | omega) (show CoOk gn gtm gtk gco by first | assumption | omega) (show v6_6_114 < gn by first | assumption | omega) (show t < gtm by first | assumption | omega) (show f ≤ 1 by first | assumption | omega) (show mm ≤ 3 by first | assumption | omega)) tw_875 tw_877 tw_21 tw_95 tw_878 (by decide +kernel) rfl ⟨Nat.le_of_ble_eq_true rfl, Nat.le_of_ble_eq_true rfl⟩ rfl rfl (by decide +kernel) rfl rfl (by decide +kernel) (by decide +kernel) (Nat.le_of_ble_eq_true rfl) rfl ⟨Nat.le_of_ble_eq_true rfl, Nat.le_of_ble_eq_true rfl⟩ dX3_sumOfWays_23 ?_
        rintro r1445 _ e1444
        have p1446 := e1444
        replace p1446 : r1445 = 0 ∨ GoOk gtk gaf gco gtm v6_6_114 t f mm := p1446
        show J x (mflat [(g, .inl (.inr (3, [.ref g0, .ref g1, .ref g2, .ref g3, .ref g4, .ref g5, .ref g6, .ref g7, .int (nI gn), .int (nI gtm), .int (nI gms)]))), (g0, .inl (.inl (kA 1, M, .inl gtk))), (g1, .inr (kA 6, kA 1, M, 2, .inl gaf)), (g2, .inr (kA 6, kA 1, M, 60, .inl gco)), (g3, .inr (kA 7, kA 2, 8, 61, .inr gwy))]) [(6, .int (nI v6_6_114)), (4, .long v4_6_114), (0, .ref g), (1, .int (nI t)), (2, .int (nI f)), (3, .int (nI mm))] 0 0 26 [.long r1445, .long v4_6_114]
        refine j_ladd h dX3_sumOfWays_26 ?_
        refine j_lstore (lv' := [(4, .long (v4_6_114 + r1445)), (6, .int (nI v6_6_114)), (0, .ref g), (1, .int (nI t)), (2, .int (nI f)), (3, .int (nI mm))]) h dX3_sumOfWays_27 (by decide) rfl ?_
        refine j_iinc (v := nI (v6_6_114 + 1)) (lv' := [(6, .int (nI (v6_6_114 + 1))), (4, .long (v4_6_114 + r1445)), (0, .ref g), (1, .int (nI t)), (2, .int (nI f)), (3, .int (nI mm))]) h dX3_sumOfWays_29 1 rfl (nI_add v6_6_114 1) (by decide) rfl ?_
        refine j_goto h 6 dX3_sumOfWays_32 (by decide) ?_
        refine jm_sub [0, 1, 2, 3, 4] (w' := [(g, .inl (.inr (3, [.ref g0, .ref g1, .ref g2, .ref g3, .ref g4, .ref g5, .ref g6, .ref g7, .int (nI gn), .int (nI gtm), .int (nI gms)]))), (g0, .inl (.inl (kA 1, M, .inl gtk))), (g1, .inr (kA 6, kA 1, M, 2, .inl gaf)), (g2, .inr (kA 6, kA 1, M, 60, .inl gco)), (g3, .inr (kA 7, kA 2, 8, 61, .inr gwy))]) rfl (by decide +kernel) [0, 1, 2, 3, 4, 5] (lv' := [(6, .int (nI (v6_6_114 + 1))), (4, .long (v4_6_114 + r1445)), (0, .ref g), (1, .int (nI t)), (2, .int (nI f)), (3, .int (nI mm))]) rfl ?_
        exact ih6_114 (v6_6_114 + 1) (v4_6_114 + r1445) (show (v6_6_114 + 1) ≤ 100000 by first | assumption | omega) (show 100001 - (v6_6_114 + 1) < m6_114 by first | exact Nat.lt_of_lt_of_le (Nat.sub_lt_sub_left (Nat.lt_of_le_of_lt (show v6_6_114 ≤ 100000 by assumption) (Nat.lt_succ_self 100000)) (Nat.lt_succ_self v6_6_114)) (Nat.le_of_lt_succ hm6_114) | omega)
  refine jm_sub [0, 1, 2, 3, 4] (w' := [(g, .inl (.inr (3, [.ref g0, .ref g1, .ref g2, .ref g3, .ref g4, .ref g5, .ref g6, .ref g7, .int (nI gn), .int (nI gtm), .int (nI gms)]))), (g0, .inl (.inl (kA 1, M, .inl gtk))), (g1, .inr (kA 6, kA 1, M, 2, .inl gaf)), (g2, .inr (kA 6, kA 1, M, 60, .inl gco)), (g3, .inr (kA 7, kA 2, 8, 61, .inr gwy))]) rfl (by decide +kernel) [0, 1, 2, 3, 4, 5] (lv' := [(6, .int 0), (4, .long 0), (0, .ref g), (1, .int (nI t)), (2, .int (nI f)), (3, .int (nI mm))]) rfl ?_
  exact lp6_114 (100001 - 0 + 1) 0 0 (show 0 ≤ 100000 by first | assumption | omega) (Nat.lt_succ_self _)
set_option maxHeartbeats 4000000 in
set_option maxRecDepth 100000 in
theorem s_X3_countWays (lau : Launch) (gg : va_G) (kA : Nat → ClassId) (g : Nat) (wt : Nat) (mm : Nat) (g0 : Nat) (g1 : Nat) (g2 : Nat) (g3 : Nat) (g4 : Nat) (g5 : Nat) (g6 : Nat) (g7 : Nat) (gn : Nat) (gt0 : Int32) (gm0 : Int32) (M : Nat) (gtk : Nat → Int32) (gaf : Nat → Nat → Int32) (gco : Nat → Nat → Int32) (gwy : Nat → Nat → Int64) (hM : M ≤ 10) (hgn : gn ≤ M) (hgtm : wt ≤ 60) (hgtk : LtOk gn gtk) (hgaf : FtOk gn gaf) (hgco : CoOk gn wt gtk gco) (hmm : mm ≤ 3) : CtL lau yX3_countWays cX3_countWays 5 (some .long) 3 0 0 gg kA [.ref g, .int (nI wt), .int (nI mm)] (mflat [(g, .inl (.inr (3, [.ref g0, .ref g1, .ref g2, .ref g3, .ref g4, .ref g5, .ref g6, .ref g7, .int (nI gn), .int gt0, .int gm0]))), (g0, .inl (.inl (kA 1, M, .inl gtk))), (g1, .inr (kA 6, kA 1, M, 2, .inl gaf)), (g2, .inr (kA 6, kA 1, M, 60, .inl gco)), (g3, .inr (kA 7, kA 2, 8, 61, .inr gwy))]) (S := (Nat → Nat → Int64)) (fun (r : Int64) (y_g3 : (Nat → Nat → Int64)) => True) (fun (y_g3 : (Nat → Nat → Int64)) => mflat [(g, .inl (.inr (3, [.ref g0, .ref g1, .ref g2, .ref g3, .ref g4, .ref g5, .ref g6, .ref g7, .int (nI gn), .int (nI wt), .int (nI mm)]))), (g0, .inl (.inl (kA 1, M, .inl gtk))), (g1, .inr (kA 6, kA 1, M, 2, .inl gaf)), (g2, .inr (kA 6, kA 1, M, 60, .inl gco)), (g3, .inr (kA 7, kA 2, 8, 61, .inr y_g3))]) := by
  refine nx_startL (by decide +kernel) (Nat.le_of_ble_eq_true rfl) ?_
  intro x hnm h hq
  have h : Ok x cX3_countWays RX3 kA (rmC 3 0 0) 5 := h
  show J x (mflat [(g, .inl (.inr (3, [.ref g0, .ref g1, .ref g2, .ref g3, .ref g4, .ref g5, .ref g6, .ref g7, .int (nI gn), .int gt0, .int gm0]))), (g0, .inl (.inl (kA 1, M, .inl gtk))), (g1, .inr (kA 6, kA 1, M, 2, .inl gaf)), (g2, .inr (kA 6, kA 1, M, 60, .inl gco)), (g3, .inr (kA 7, kA 2, 8, 61, .inr gwy))]) [(0, .ref g), (1, .int (nI wt)), (2, .int (nI mm))] 0 0 0 []
  refine j_aload_n h 0 rfl rfl dX3_countWays_0 ?_
  refine j_iload_n h 1 rfl rfl dX3_countWays_1 ?_
  refine jm_put (w' := [(g, .inl (.inr (3, [.ref g0, .ref g1, .ref g2, .ref g3, .ref g4, .ref g5, .ref g6, .ref g7, .int (nI gn), .int (nI wt), .int gm0]))), (g0, .inl (.inl (kA 1, M, .inl gtk))), (g1, .inr (kA 6, kA 1, M, 2, .inl gaf)), (g2, .inr (kA 6, kA 1, M, 60, .inl gco)), (g3, .inr (kA 7, kA 2, 8, 61, .inr gwy))]) h iw_X3 tyX3 tyX3_ok nmX3 0 rfl rfl 9 (by decide +kernel) tw_389 rfl rfl rfl (Nat.le_of_ble_eq_true rfl) dX3_countWays_2 rfl ?_
  refine j_aload_n h 0 rfl rfl dX3_countWays_5 ?_
  refine j_iload_n h 2 rfl rfl dX3_countWays_6 ?_
  refine jm_put (w' := [(g, .inl (.inr (3, [.ref g0, .ref g1, .ref g2, .ref g3, .ref g4, .ref g5, .ref g6, .ref g7, .int (nI gn), .int (nI wt), .int (nI mm)]))), (g0, .inl (.inl (kA 1, M, .inl gtk))), (g1, .inr (kA 6, kA 1, M, 2, .inl gaf)), (g2, .inr (kA 6, kA 1, M, 60, .inl gco)), (g3, .inr (kA 7, kA 2, 8, 61, .inr gwy))]) h iw_X3 tyX3 tyX3_ok nmX3 0 rfl rfl 10 (by decide +kernel) tw_390 rfl rfl rfl (Nat.le_of_ble_eq_true rfl) dX3_countWays_7 rfl ?_
  refine j_iconst (v := 0) h (by decide) dX3_countWays_10 ?_
  refine j_istore_n (lv' := [(3, .int 0), (0, .ref g), (1, .int (nI wt)), (2, .int (nI mm))]) h dX3_countWays_11 rfl (by decide) rfl ?_
  have lp12_180 : ∀ (m12_180 : Nat), ∀ (v3_12_180 : Nat) (fg3_12_180 : Nat → Nat → Int64), (v3_12_180 ≤ 100000) → 100001 - v3_12_180 < m12_180 → J x (mflat [(g, .inl (.inr (3, [.ref g0, .ref g1, .ref g2, .ref g3, .ref g4, .ref g5, .ref g6, .ref g7, .int (nI gn), .int (nI wt), .int (nI mm)]))), (g0, .inl (.inl (kA 1, M, .inl gtk))), (g1, .inr (kA 6, kA 1, M, 2, .inl gaf)), (g2, .inr (kA 6, kA 1, M, 60, .inl gco)), (g3, .inr (kA 7, kA 2, 8, 61, .inr fg3_12_180))]) [(3, .int (nI v3_12_180)), (0, .ref g), (1, .int (nI wt)), (2, .int (nI mm))] 0 0 12 [] := by
    intro m12_180
    induction m12_180 with
    | zero =>
      intro v3_12_180 fg3_12_180 i12_180_0 hm12_180
      exact absurd hm12_180 (Nat.not_lt_zero _)
    | succ m12_180 ih12_180 =>
      intro v3_12_180 fg3_12_180 i12_180_0 hm12_180
      refine j_iload_n h 0 rfl rfl dX3_countWays_12 ?_
      refine j_iconst (v := 2) h (by decide) dX3_countWays_13 ?_
      refine j_aload_n h 1 rfl rfl dX3_countWays_14 ?_
      refine jm_get h iw_X3 0 rfl rfl 10 (by decide +kernel) tw_390 rfl dX3_countWays_15 ?_
      refine j_iconst (v := 1) h (by decide) dX3_countWays_18 ?_
      refine j_iadd h dX3_countWays_19 ?_
      refine j_top (b := nI (mm + 1)) (nI_add mm 1) ?_
      refine j_imul h dX3_countWays_20 ?_
      refine j_top (b := nI (2 * (mm + 1))) (pk_mul 2 (mm + 1)) ?_
      refine j_icmp_ge h 42 dX3_countWays_21 (by decide) (fun z1702 => ?_) (fun z1702 => ?_)
      · have z1702n : (2 * (mm + 1)) ≤ v3_12_180 := (nI_leI (a := (2 * (mm + 1))) (b := v3_12_180) (by omega) (by omega)).mp z1702
        refine j_aload_n h 1 rfl rfl dX3_countWays_42 ?_
        refine jm_get h iw_X3 0 rfl rfl 9 (by decide +kernel) tw_389 rfl dX3_countWays_43 ?_
        refine j_iconst (v := 1) h (by decide) dX3_countWays_46 ?_
        refine j_isub h dX3_countWays_47 ?_
        obtain ⟨y1703, hy1704⟩ : ∃ y9, y9 = wt := ⟨_, rfl⟩
        refine j_top (b := pm y1703) (by rw [hy1704]; exact pm_sub wt) ?_
        refine j_istore_n (lv' := [(3, .int (pm y1703)), (0, .ref g), (1, .int (nI wt)), (2, .int (nI mm))]) h dX3_countWays_48 rfl (by decide) rfl ?_
        have lp49_189 : ∀ (m49_189 : Nat), ∀ (v3_49_189 : Nat) (fg3_49_189 : Nat → Nat → Int64), (v3_49_189 ≤ wt) → (v3_49_189 ≤ 100000) → v3_49_189 < m49_189 → J x (mflat [(g, .inl (.inr (3, [.ref g0, .ref g1, .ref g2, .ref g3, .ref g4, .ref g5, .ref g6, .ref g7, .int (nI gn), .int (nI wt), .int (nI mm)]))), (g0, .inl (.inl (kA 1, M, .inl gtk))), (g1, .inr (kA 6, kA 1, M, 2, .inl gaf)), (g2, .inr (kA 6, kA 1, M, 60, .inl gco)), (g3, .inr (kA 7, kA 2, 8, 61, .inr fg3_49_189))]) [(3, .int (pm v3_49_189)), (0, .ref g), (1, .int (nI wt)), (2, .int (nI mm))] 0 0 49 [] := by
          intro m49_189
          induction m49_189 with
          | zero =>
            intro v3_49_189 fg3_49_189 i49_189_0 i49_189_1 hm49_189
            exact absurd hm49_189 (Nat.not_lt_zero _)
          | succ m49_189 ih49_189 =>
            intro v3_49_189 fg3_49_189 i49_189_0 i49_189_1 hm49_189
            refine j_iload_n h 0 rfl rfl dX3_countWays_49 ?_
            rcases v3_49_189 with _ | j1737
            · show J x (mflat [(g, .inl (.inr (3, [.ref g0, .ref g1, .ref g2, .ref g3, .ref g4, .ref g5, .ref g6, .ref g7, .int (nI gn), .int (nI wt), .int (nI mm)]))), (g0, .inl (.inl (kA 1, M, .inl gtk))), (g1, .inr (kA 6, kA 1, M, 2, .inl gaf)), (g2, .inr (kA 6, kA 1, M, 60, .inl gco)), (g3, .inr (kA 7, kA 2, 8, 61, .inr fg3_49_189))]) [(3, .int (-1)), (0, .ref g), (1, .int (nI wt)), (2, .int (nI mm))] 0 0 50 [.int (-1)]
              refine j_if_lt h 103 dX3_countWays_50 (by decide) (fun _ => ?_) (fun q => absurd (by decide) q)
              refine j_aload_n h 1 rfl rfl dX3_countWays_103 ?_
              refine jm_get h iw_X3 0 rfl rfl 3 (by decide +kernel) tw_382 rfl dX3_countWays_104 ?_
              refine j_iconst (v := 2) h (by decide) dX3_countWays_107 ?_
              refine j_aload_n h 1 rfl rfl dX3_countWays_108 ?_
              refine jm_get h iw_X3 0 rfl rfl 10 (by decide +kernel) tw_390 rfl dX3_countWays_109 ?_
              refine j_imul h dX3_countWays_112 ?_
              refine j_top (b := nI (2 * mm)) (pk_mul 2 mm) ?_
              refine j_iconst (v := 0) h (by decide) dX3_countWays_113 ?_
              refine j_iadd h dX3_countWays_114 ?_
              refine j_top (b := nI ((2 * mm) + 0)) (nI_add (2 * mm) 0) ?_
              refine jm_gout h 4 7 rfl rfl ((2 * mm) + 0) rfl (by omega) (by omega) dX3_countWays_115 ?_
              refine j_iconst (v := 0) h (by decide) dX3_countWays_116 ?_
              refine jm_glald h 4 rfl ((2 * mm) + 0) (by omega) 0 (by decide +kernel) (by decide +kernel) (by omega) dX3_countWays_117 ?_
              exact jm_lret h hq dX3_countWays_118 fg3_49_189 [0, 1, 2, 3, 4] rfl (by decide) trivial (Nat.le_of_ble_eq_true rfl) (Nat.le_of_ble_eq_true rfl)
            · show J x (mflat [(g, .inl (.inr (3, [.ref g0, .ref g1, .ref g2, .ref g3, .ref g4, .ref g5, .ref g6, .ref g7, .int (nI gn), .int (nI wt), .int (nI mm)]))), (g0, .inl (.inl (kA 1, M, .inl gtk))), (g1, .inr (kA 6, kA 1, M, 2, .inl gaf)), (g2, .inr (kA 6, kA 1, M, 60, .inl gco)), (g3, .inr (kA 7, kA 2, 8, 61, .inr fg3_49_189))]) [(3, .int (nI j1737)), (0, .ref g), (1, .int (nI wt)), (2, .int (nI mm))] 0 0 50 [.int (nI j1737)]
              refine j_if_lt h 103 dX3_countWays_50 (by decide) (fun q => absurd q (nI_pos (by omega))) (fun _ => ?_)
              refine j_iconst (v := 0) h (by decide) dX3_countWays_53 ?_
              refine j_istore (lv' := [(4, .int 0), (3, .int (nI j1737)), (0, .ref g), (1, .int (nI wt)), (2, .int (nI mm))]) h dX3_countWays_54 (by decide) rfl ?_
              have lp56_192 : ∀ (m56_192 : Nat), ∀ (v4_56_192 : Nat) (fg3_56_192 : Nat → Nat → Int64), (v4_56_192 ≤ 100000) → 100001 - v4_56_192 < m56_192 → J x (mflat [(g, .inl (.inr (3, [.ref g0, .ref g1, .ref g2, .ref g3, .ref g4, .ref g5, .ref g6, .ref g7, .int (nI gn), .int (nI wt), .int (nI mm)]))), (g0, .inl (.inl (kA 1, M, .inl gtk))), (g1, .inr (kA 6, kA 1, M, 2, .inl gaf)), (g2, .inr (kA 6, kA 1, M, 60, .inl gco)), (g3, .inr (kA 7, kA 2, 8, 61, .inr fg3_56_192))]) [(4, .int (nI v4_56_192)), (3, .int (nI j1737)), (0, .ref g), (1, .int (nI wt)), (2, .int (nI mm))] 0 0 56 [] := by
                intro m56_192
                induction m56_192 with
                | zero =>
                  intro v4_56_192 fg3_56_192 i56_192_0 hm56_192
                  exact absurd hm56_192 (Nat.not_lt_zero _)
                | succ m56_192 ih56_192 =>
                  intro v4_56_192 fg3_56_192 i56_192_0 hm56_192
                  refine j_iload h 0 rfl dX3_countWays_56 ?_
                  refine j_iconst (v := 2) h (by decide) dX3_countWays_58 ?_
                  refine j_aload_n h 2 rfl rfl dX3_countWays_59 ?_
                  refine jm_get h iw_X3 0 rfl rfl 10 (by decide +kernel) tw_390 rfl dX3_countWays_60 ?_
                  refine j_iconst (v := 1) h (by decide) dX3_countWays_63 ?_
                  refine j_iadd h dX3_countWays_64 ?_
                  refine j_top (b := nI (mm + 1)) (nI_add mm 1) ?_
                  refine j_imul h dX3_countWays_65 ?_
                  refine j_top (b := nI (2 * (mm + 1))) (pk_mul 2 (mm + 1)) ?_
                  refine j_icmp_ge h 97 dX3_countWays_66 (by decide) (fun z1748 => ?_) (fun z1748 => ?_)
                  · have z1748n : (2 * (mm + 1)) ≤ v4_56_192 := (nI_leI (a := (2 * (mm + 1))) (b := v4_56_192) (by omega) (by omega)).mp z1748
                    obtain ⟨y1749, hy1750⟩ : ∃ y9, y9 = j1737 := ⟨_, rfl⟩
                    refine j_iinc (v := pm y1749) (lv' := [(3, .int (pm y1749)), (4, .int (nI v4_56_192)), (0, .ref g), (1, .int (nI wt)), (2, .int (nI mm))]) h dX3_countWays_97 1 rfl (by rw [hy1750]; exact pm_dec _) (by decide) rfl ?_
                    refine j_goto h 49 dX3_countWays_100 (by decide) ?_
                    refine jm_sub [0, 1, 2, 3, 4] (w' := [(g, .inl (.inr (3, [.ref g0, .ref g1, .ref g2, .ref g3, .ref g4, .ref g5, .ref g6, .ref g7, .int (nI gn), .int (nI wt), .int (nI mm)]))), (g0, .inl (.inl (kA 1, M, .inl gtk))), (g1, .inr (kA 6, kA 1, M, 2, .inl gaf)), (g2, .inr (kA 6, kA 1, M, 60, .inl gco)), (g3, .inr (kA 7, kA 2, 8, 61, .inr fg3_56_192))]) rfl (by decide +kernel) [0, 2, 3, 4] (lv' := [(3, .int (pm y1749)), (0, .ref g), (1, .int (nI wt)), (2, .int (nI mm))]) rfl ?_
                    exact ih49_189 y1749 fg3_56_192 (show y1749 ≤ wt by first | assumption | omega) (show y1749 ≤ 100000 by first | assumption | omega) (show y1749 < m49_189 by omega)
                  · have z1748n : ¬ (2 * (mm + 1)) ≤ v4_56_192 := fun q9 => z1748 ((nI_leI (a := (2 * (mm + 1))) (b := v4_56_192) (by omega) (by omega)).mpr q9)
                    refine j_aload_n h 2 rfl rfl dX3_countWays_69 ?_
                    refine jm_get h iw_X3 0 rfl rfl 3 (by decide +kernel) tw_382 rfl dX3_countWays_70 ?_
                    refine j_iload h 0 rfl dX3_countWays_73 ?_
                    refine jm_gout h 4 7 rfl rfl v4_56_192 rfl (by omega) (by omega) dX3_countWays_75 ?_
                    refine j_iload_n h 1 rfl rfl dX3_countWays_76 ?_
                    refine j_aload_n h 2 rfl rfl dX3_countWays_77 ?_
                    refine j_iload_n h 1 rfl rfl dX3_countWays_78 ?_
                    refine j_iload h 0 rfl dX3_countWays_79 ?_
                    refine j_iconst (v := 2) h (by decide) dX3_countWays_81 ?_
                    refine j_irem h (by decide) dX3_countWays_82 ?_
                    refine j_top (b := nI (v4_56_192 % 2)) (pk_rem (a := v4_56_192) (d := 2) (by omega) (by decide) (by decide)) ?_
                    refine j_iload h 0 rfl dX3_countWays_83 ?_
                    refine j_iconst (v := 2) h (by decide) dX3_countWays_85 ?_
                    refine j_idiv h (by decide) dX3_countWays_86 ?_
                    refine j_top (b := nI (v4_56_192 / 2)) (pk_div (a := v4_56_192) (d := 2) (by omega) (by decide) (by decide)) ?_
                    refine jm_callVl (np := 3) (isC := [0, 1, 2, 3, 4]) (isR := []) (wc := [(g, .inl (.inr (3, [.ref g0, .ref g1, .ref g2, .ref g3, .ref g4, .ref g5, .ref g6, .ref g7, .int (nI gn), .int (nI wt), .int (nI mm)]))), (g0, .inl (.inl (kA 1, M, .inl gtk))), (g1, .inr (kA 6, kA 1, M, 2, .inl gaf)), (g2, .inr (kA 6, kA 1, M, 60, .inl gco)), (g3, .inr (kA 7, kA 2, 8, 61, .inr fg3_56_192))]) (wr := []) (rest := [.int (nI j1737), .ref (g3 + 1 + v4_56_192)]) (As := [.int (nI j1737), .int (nI (v4_56_192 % 2)), .int (nI (v4_56_192 / 2))]) (q0 := 0) h (s_X3_sumOfWays _ _ kA g j1737 (v4_56_192 % 2) (v4_56_192 / 2) g0 g1 g2 g3 g4 g5 g6 g7 gn wt mm M gtk gaf gco fg3_56_192 (show M ≤ 10 by first | assumption | omega) (show gn ≤ M by first | assumption | omega) (show wt ≤ 60 by first | assumption | omega) (show LtOk gn gtk by first | assumption | omega) (show FtOk gn gaf by first | assumption | omega) (show CoOk gn wt gtk gco by first | assumption | omega) (show j1737 < wt by first | assumption | omega) (show (v4_56_192 % 2) ≤ 1 by first | assumption | omega) (show (v4_56_192 / 2) ≤ 3 by first | assumption | omega)) tw_871 tw_873 tw_20 tw_95 tw_874 (by decide +kernel) rfl ⟨Nat.le_of_ble_eq_true rfl, Nat.le_of_ble_eq_true rfl⟩ rfl rfl (by decide +kernel) rfl rfl (by decide +kernel) (by decide +kernel) (Nat.le_of_ble_eq_true rfl) rfl ⟨Nat.le_of_ble_eq_true rfl, Nat.le_of_ble_eq_true rfl⟩ dX3_countWays_87 ?_
                    rintro r1752 _ e1751
                    show J x (mflat [(g, .inl (.inr (3, [.ref g0, .ref g1, .ref g2, .ref g3, .ref g4, .ref g5, .ref g6, .ref g7, .int (nI gn), .int (nI wt), .int (nI mm)]))), (g0, .inl (.inl (kA 1, M, .inl gtk))), (g1, .inr (kA 6, kA 1, M, 2, .inl gaf)), (g2, .inr (kA 6, kA 1, M, 60, .inl gco)), (g3, .inr (kA 7, kA 2, 8, 61, .inr fg3_56_192))]) [(4, .int (nI v4_56_192)), (3, .int (nI j1737)), (0, .ref g), (1, .int (nI wt)), (2, .int (nI mm))] 0 0 90 [.long r1752, .int (nI j1737), .ref (g3 + 1 + v4_56_192)]
                    refine jm_glast (w' := [(g, .inl (.inr (3, [.ref g0, .ref g1, .ref g2, .ref g3, .ref g4, .ref g5, .ref g6, .ref g7, .int (nI gn), .int (nI wt), .int (nI mm)]))), (g0, .inl (.inl (kA 1, M, .inl gtk))), (g1, .inr (kA 6, kA 1, M, 2, .inl gaf)), (g2, .inr (kA 6, kA 1, M, 60, .inl gco)), (g3, .inr (kA 7, kA 2, 8, 61, .inr (upGL fg3_56_192 v4_56_192 j1737 r1752)))]) h 4 rfl v4_56_192 (by omega) j1737 rfl (by omega) (by omega) dX3_countWays_90 rfl ?_
                    refine j_iinc (v := nI (v4_56_192 + 1)) (lv' := [(4, .int (nI (v4_56_192 + 1))), (3, .int (nI j1737)), (0, .ref g), (1, .int (nI wt)), (2, .int (nI mm))]) h dX3_countWays_91 0 rfl (nI_add v4_56_192 1) (by decide) rfl ?_
                    refine j_goto h 56 dX3_countWays_94 (by decide) ?_
                    refine jm_sub [0, 1, 2, 3, 4] (w' := [(g, .inl (.inr (3, [.ref g0, .ref g1, .ref g2, .ref g3, .ref g4, .ref g5, .ref g6, .ref g7, .int (nI gn), .int (nI wt), .int (nI mm)]))), (g0, .inl (.inl (kA 1, M, .inl gtk))), (g1, .inr (kA 6, kA 1, M, 2, .inl gaf)), (g2, .inr (kA 6, kA 1, M, 60, .inl gco)), (g3, .inr (kA 7, kA 2, 8, 61, .inr (upGL fg3_56_192 v4_56_192 j1737 r1752)))]) rfl (by decide +kernel) [0, 1, 2, 3, 4] (lv' := [(4, .int (nI (v4_56_192 + 1))), (3, .int (nI j1737)), (0, .ref g), (1, .int (nI wt)), (2, .int (nI mm))]) rfl ?_
                    exact ih56_192 (v4_56_192 + 1) (upGL fg3_56_192 v4_56_192 j1737 r1752) (show (v4_56_192 + 1) ≤ 100000 by first | assumption | omega) (show 100001 - (v4_56_192 + 1) < m56_192 by first | exact Nat.lt_of_lt_of_le (Nat.sub_lt_sub_left (Nat.lt_of_le_of_lt (show v4_56_192 ≤ 100000 by assumption) (Nat.lt_succ_self 100000)) (Nat.lt_succ_self v4_56_192)) (Nat.le_of_lt_succ hm56_192) | omega)
              refine jm_sub [0, 1, 2, 3, 4] (w' := [(g, .inl (.inr (3, [.ref g0, .ref g1, .ref g2, .ref g3, .ref g4, .ref g5, .ref g6, .ref g7, .int (nI gn), .int (nI wt), .int (nI mm)]))), (g0, .inl (.inl (kA 1, M, .inl gtk))), (g1, .inr (kA 6, kA 1, M, 2, .inl gaf)), (g2, .inr (kA 6, kA 1, M, 60, .inl gco)), (g3, .inr (kA 7, kA 2, 8, 61, .inr fg3_49_189))]) rfl (by decide +kernel) [0, 1, 2, 3, 4] (lv' := [(4, .int 0), (3, .int (nI j1737)), (0, .ref g), (1, .int (nI wt)), (2, .int (nI mm))]) rfl ?_
              exact lp56_192 (100001 - 0 + 1) 0 fg3_49_189 (show 0 ≤ 100000 by first | assumption | omega) (Nat.lt_succ_self _)
        refine jm_sub [0, 1, 2, 3, 4] (w' := [(g, .inl (.inr (3, [.ref g0, .ref g1, .ref g2, .ref g3, .ref g4, .ref g5, .ref g6, .ref g7, .int (nI gn), .int (nI wt), .int (nI mm)]))), (g0, .inl (.inl (kA 1, M, .inl gtk))), (g1, .inr (kA 6, kA 1, M, 2, .inl gaf)), (g2, .inr (kA 6, kA 1, M, 60, .inl gco)), (g3, .inr (kA 7, kA 2, 8, 61, .inr fg3_12_180))]) rfl (by decide +kernel) [0, 1, 2, 3] (lv' := [(3, .int (pm y1703)), (0, .ref g), (1, .int (nI wt)), (2, .int (nI mm))]) rfl ?_
        exact lp49_189 (y1703 + 1) y1703 fg3_12_180 (show y1703 ≤ wt by first | assumption | omega) (show y1703 ≤ 100000 by first | assumption | omega) (Nat.lt_succ_self _)
      · have z1702n : ¬ (2 * (mm + 1)) ≤ v3_12_180 := fun q9 => z1702 ((nI_leI (a := (2 * (mm + 1))) (b := v3_12_180) (by omega) (by omega)).mpr q9)
        refine j_aload_n h 1 rfl rfl dX3_countWays_24 ?_
        refine jm_get h iw_X3 0 rfl rfl 3 (by decide +kernel) tw_382 rfl dX3_countWays_25 ?_
        refine j_iload_n h 0 rfl rfl dX3_countWays_28 ?_
        refine jm_gout h 4 7 rfl rfl v3_12_180 rfl (by omega) (by omega) dX3_countWays_29 ?_
        refine j_aload_n h 1 rfl rfl dX3_countWays_30 ?_
        refine jm_get h iw_X3 0 rfl rfl 9 (by decide +kernel) tw_389 rfl dX3_countWays_31 ?_
        refine j_lconst (v := 1) h (by decide) dX3_countWays_34 ?_
        refine jm_glast (w' := [(g, .inl (.inr (3, [.ref g0, .ref g1, .ref g2, .ref g3, .ref g4, .ref g5, .ref g6, .ref g7, .int (nI gn), .int (nI wt), .int (nI mm)]))), (g0, .inl (.inl (kA 1, M, .inl gtk))), (g1, .inr (kA 6, kA 1, M, 2, .inl gaf)), (g2, .inr (kA 6, kA 1, M, 60, .inl gco)), (g3, .inr (kA 7, kA 2, 8, 61, .inr (upGL fg3_12_180 v3_12_180 wt 1)))]) h 4 rfl v3_12_180 (by omega) wt rfl (by omega) (by omega) dX3_countWays_35 rfl ?_
        refine j_iinc (v := nI (v3_12_180 + 1)) (lv' := [(3, .int (nI (v3_12_180 + 1))), (0, .ref g), (1, .int (nI wt)), (2, .int (nI mm))]) h dX3_countWays_36 0 rfl (nI_add v3_12_180 1) (by decide) rfl ?_
        refine j_goto h 12 dX3_countWays_39 (by decide) ?_
        refine jm_sub [0, 1, 2, 3, 4] (w' := [(g, .inl (.inr (3, [.ref g0, .ref g1, .ref g2, .ref g3, .ref g4, .ref g5, .ref g6, .ref g7, .int (nI gn), .int (nI wt), .int (nI mm)]))), (g0, .inl (.inl (kA 1, M, .inl gtk))), (g1, .inr (kA 6, kA 1, M, 2, .inl gaf)), (g2, .inr (kA 6, kA 1, M, 60, .inl gco)), (g3, .inr (kA 7, kA 2, 8, 61, .inr (upGL fg3_12_180 v3_12_180 wt 1)))]) rfl (by decide +kernel) [0, 1, 2, 3] (lv' := [(3, .int (nI (v3_12_180 + 1))), (0, .ref g), (1, .int (nI wt)), (2, .int (nI mm))]) rfl ?_
        exact ih12_180 (v3_12_180 + 1) (upGL fg3_12_180 v3_12_180 wt 1) (show (v3_12_180 + 1) ≤ 100000 by first | assumption | omega) (show 100001 - (v3_12_180 + 1) < m12_180 by first | exact Nat.lt_of_lt_of_le (Nat.sub_lt_sub_left (Nat.lt_of_le_of_lt (show v3_12_180 ≤ 100000 by assumption) (Nat.lt_succ_self 100000)) (Nat.lt_succ_self v3_12_180)) (Nat.le_of_lt_succ hm12_180) | omega)
  refine jm_sub [0, 1, 2, 3, 4] (w' := [(g, .inl (.inr (3, [.ref g0, .ref g1, .ref g2, .ref g3, .ref g4, .ref g5, .ref g6, .ref g7, .int (nI gn), .int (nI wt), .int (nI mm)]))), (g0, .inl (.inl (kA 1, M, .inl gtk))), (g1, .inr (kA 6, kA 1, M, 2, .inl gaf)), (g2, .inr (kA 6, kA 1, M, 60, .inl gco)), (g3, .inr (kA 7, kA 2, 8, 61, .inr gwy))]) rfl (by decide +kernel) [0, 1, 2, 3] (lv' := [(3, .int 0), (0, .ref g), (1, .int (nI wt)), (2, .int (nI mm))]) rfl ?_
  exact lp12_180 (100001 - 0 + 1) 0 gwy (show 0 ≤ 100000 by first | assumption | omega) (Nat.lt_succ_self _)
set_option maxHeartbeats 4000000 in
set_option maxRecDepth 100000 in
theorem s_X3_itemFrom (lau : Launch) (gg : va_G) (kA : Nat → ClassId) (g : Nat) (fr : Nat) (t : Nat) (f : Nat) (mm : Nat) (g0 : Nat) (g1 : Nat) (g2 : Nat) (g3 : Nat) (g4 : Nat) (g5 : Nat) (g6 : Nat) (g7 : Nat) (gn : Nat) (gtm : Nat) (gms : Nat) (M : Nat) (gtk : Nat → Int32) (gaf : Nat → Nat → Int32) (gco : Nat → Nat → Int32) (gwy : Nat → Nat → Int64) (hM : M ≤ 10) (hgn : gn ≤ M) (hgtm : gtm ≤ 60) (hgtk : LtOk gn gtk) (hgaf : FtOk gn gaf) (hgco : CoOk gn gtm gtk gco) (hf : f ≤ 1) (hmm : mm ≤ 3) (hfr : fr ≤ 100) (ht : t ≤ 60) : CtI lau yX3_itemFrom cX3_itemFrom 6 (some .int) 2 0 0 gg kA [.ref g, .int (nI fr), .int (nI t), .int (nI f), .int (nI mm)] (mflat [(g, .inl (.inr (3, [.ref g0, .ref g1, .ref g2, .ref g3, .ref g4, .ref g5, .ref g6, .ref g7, .int (nI gn), .int (nI gtm), .int (nI gms)]))), (g0, .inl (.inl (kA 1, M, .inl gtk))), (g1, .inr (kA 6, kA 1, M, 2, .inl gaf)), (g2, .inr (kA 6, kA 1, M, 60, .inl gco)), (g3, .inr (kA 7, kA 2, 8, 61, .inr gwy))]) (S := Nat) (fun (r : Int32) (y_r : Nat) => r = pm y_r ∧ (y_r ≤ gn) ∧ (∀ i, y_r = i + 1 → i < gn ∧ GoOk gtk gaf gco gtm i t f mm)) (fun (y_r : Nat) => mflat [(g, .inl (.inr (3, [.ref g0, .ref g1, .ref g2, .ref g3, .ref g4, .ref g5, .ref g6, .ref g7, .int (nI gn), .int (nI gtm), .int (nI gms)]))), (g0, .inl (.inl (kA 1, M, .inl gtk))), (g1, .inr (kA 6, kA 1, M, 2, .inl gaf)), (g2, .inr (kA 6, kA 1, M, 60, .inl gco)), (g3, .inr (kA 7, kA 2, 8, 61, .inr gwy))]) := by
  refine nx_startI (by decide +kernel) (Nat.le_of_ble_eq_true rfl) ?_
  intro x hnm h hq
  have h : Ok x cX3_itemFrom RX3 kA (rmC 2 0 0) 6 := h
  show J x (mflat [(g, .inl (.inr (3, [.ref g0, .ref g1, .ref g2, .ref g3, .ref g4, .ref g5, .ref g6, .ref g7, .int (nI gn), .int (nI gtm), .int (nI gms)]))), (g0, .inl (.inl (kA 1, M, .inl gtk))), (g1, .inr (kA 6, kA 1, M, 2, .inl gaf)), (g2, .inr (kA 6, kA 1, M, 60, .inl gco)), (g3, .inr (kA 7, kA 2, 8, 61, .inr gwy))]) [(0, .ref g), (1, .int (nI fr)), (2, .int (nI t)), (3, .int (nI f)), (4, .int (nI mm))] 0 0 0 []
  refine j_iload_n h 1 rfl rfl dX3_itemFrom_0 ?_
  refine j_iconst (v := 0) h (by decide) dX3_itemFrom_1 ?_
  refine j_mmax h tw_891 tw_803 tw_105 tw_804 (Nat.le_of_ble_eq_true rfl) (Nat.le_of_ble_eq_true rfl) (Nat.le_of_ble_eq_true rfl) (Nat.le_of_ble_eq_true rfl) (Nat.le_of_ble_eq_true rfl) dX3_itemFrom_2 ?_
  refine j_top (b := nI (max fr 0)) (nx_max (a := fr) (b := 0) (by omega) (by omega)) ?_
  refine j_istore (lv' := [(5, .int (nI (max fr 0))), (0, .ref g), (1, .int (nI fr)), (2, .int (nI t)), (3, .int (nI f)), (4, .int (nI mm))]) h dX3_itemFrom_5 (by decide) rfl ?_
  have lp7_198 : ∀ (m7_198 : Nat), ∀ (v5_7_198 : Nat), (v5_7_198 ≤ 100000) → 100001 - v5_7_198 < m7_198 → J x (mflat [(g, .inl (.inr (3, [.ref g0, .ref g1, .ref g2, .ref g3, .ref g4, .ref g5, .ref g6, .ref g7, .int (nI gn), .int (nI gtm), .int (nI gms)]))), (g0, .inl (.inl (kA 1, M, .inl gtk))), (g1, .inr (kA 6, kA 1, M, 2, .inl gaf)), (g2, .inr (kA 6, kA 1, M, 60, .inl gco)), (g3, .inr (kA 7, kA 2, 8, 61, .inr gwy))]) [(5, .int (nI v5_7_198)), (0, .ref g), (1, .int (nI fr)), (2, .int (nI t)), (3, .int (nI f)), (4, .int (nI mm))] 0 0 7 [] := by
    intro m7_198
    induction m7_198 with
    | zero =>
      intro v5_7_198 i7_198_0 hm7_198
      exact absurd hm7_198 (Nat.not_lt_zero _)
    | succ m7_198 ih7_198 =>
      intro v5_7_198 i7_198_0 hm7_198
      refine j_iload h 0 rfl dX3_itemFrom_7 ?_
      refine j_aload_n h 1 rfl rfl dX3_itemFrom_9 ?_
      refine jm_get h iw_X3 0 rfl rfl 8 (by decide +kernel) tw_387 rfl dX3_itemFrom_10 ?_
      refine j_icmp_ge h 48 dX3_itemFrom_13 (by decide) (fun z1783 => ?_) (fun z1783 => ?_)
      · have z1783n : gn ≤ v5_7_198 := (nI_leI (a := gn) (b := v5_7_198) (by omega) (by omega)).mp z1783
        refine j_iconst (v := (-1)) h (by decide) dX3_itemFrom_48 ?_
        exact jm_iret h hq dX3_itemFrom_49 0 [0, 1, 2, 3, 4] rfl (by decide) ⟨rfl, (show 0 ≤ gn by first | assumption | omega), (show ∀ i, 0 = i + 1 → i < gn ∧ GoOk gtk gaf gco gtm i t f mm from fun i hi => absurd hi (by omega))⟩ (Nat.le_of_ble_eq_true rfl) (Nat.le_of_ble_eq_true rfl)
      · have z1783n : ¬ gn ≤ v5_7_198 := fun q9 => z1783 ((nI_leI (a := gn) (b := v5_7_198) (by omega) (by omega)).mpr q9)
        refine j_iload_n h 3 rfl rfl dX3_itemFrom_16 ?_
        refine j_aload_n h 1 rfl rfl dX3_itemFrom_17 ?_
        refine jm_get h iw_X3 0 rfl rfl 9 (by decide +kernel) tw_389 rfl dX3_itemFrom_18 ?_
        refine j_icmp_ge h 48 dX3_itemFrom_21 (by decide) (fun z1784 => ?_) (fun z1784 => ?_)
        · have z1784n : gtm ≤ t := (nI_leI (a := gtm) (b := t) (by omega) (by omega)).mp z1784
          refine j_iconst (v := (-1)) h (by decide) dX3_itemFrom_48 ?_
          exact jm_iret h hq dX3_itemFrom_49 0 [0, 1, 2, 3, 4] rfl (by decide) ⟨rfl, (show 0 ≤ gn by first | assumption | omega), (show ∀ i, 0 = i + 1 → i < gn ∧ GoOk gtk gaf gco gtm i t f mm from fun i hi => absurd hi (by omega))⟩ (Nat.le_of_ble_eq_true rfl) (Nat.le_of_ble_eq_true rfl)
        · have z1784n : ¬ gtm ≤ t := fun q9 => z1784 ((nI_leI (a := gtm) (b := t) (by omega) (by omega)).mpr q9)
          refine j_aload_n h 1 rfl rfl dX3_itemFrom_24 ?_
          refine j_iload h 0 rfl dX3_itemFrom_25 ?_
          refine j_iload_n h 3 rfl rfl dX3_itemFrom_27 ?_
          refine j_iload_n h 4 rfl rfl dX3_itemFrom_28 ?_
          refine j_iload h 5 rfl dX3_itemFrom_29 ?_
          refine jm_callVl (np := 4) (isC := [0, 1, 2, 3, 4]) (isR := []) (wc := [(g, .inl (.inr (3, [.ref g0, .ref g1, .ref g2, .ref g3, .ref g4, .ref g5, .ref g6, .ref g7, .int (nI gn), .int (nI gtm), .int (nI gms)]))), (g0, .inl (.inl (kA 1, M, .inl gtk))), (g1, .inr (kA 6, kA 1, M, 2, .inl gaf)), (g2, .inr (kA 6, kA 1, M, 60, .inl gco)), (g3, .inr (kA 7, kA 2, 8, 61, .inr gwy))]) (wr := []) (rest := []) (As := [.int (nI v5_7_198), .int (nI t), .int (nI f), .int (nI mm)]) (q0 := 0) h (s_X3_waysBy _ _ kA g v5_7_198 t f mm g0 g1 g2 g3 g4 g5 g6 g7 gn gtm gms M gtk gaf gco gwy (show M ≤ 10 by first | assumption | omega) (show gn ≤ M by first | assumption | omega) (show gtm ≤ 60 by first | assumption | omega) (show LtOk gn gtk by first | assumption | omega) (show FtOk gn gaf by first | assumption | omega) (show CoOk gn gtm gtk gco by first | assumption | omega) (show v5_7_198 < gn by first | assumption | omega) (show t < gtm by first | assumption | omega) (show f ≤ 1 by first | assumption | omega) (show mm ≤ 3 by first | assumption | omega)) tw_875 tw_877 tw_21 tw_95 tw_878 (by decide +kernel) rfl ⟨Nat.le_of_ble_eq_true rfl, Nat.le_of_ble_eq_true rfl⟩ rfl rfl (by decide +kernel) rfl rfl (by decide +kernel) (by decide +kernel) (Nat.le_of_ble_eq_true rfl) rfl ⟨Nat.le_of_ble_eq_true rfl, Nat.le_of_ble_eq_true rfl⟩ dX3_itemFrom_31 ?_
          rintro r1786 _ e1785
          have p1787 := e1785
          replace p1787 : r1786 = 0 ∨ GoOk gtk gaf gco gtm v5_7_198 t f mm := p1787
          show J x (mflat [(g, .inl (.inr (3, [.ref g0, .ref g1, .ref g2, .ref g3, .ref g4, .ref g5, .ref g6, .ref g7, .int (nI gn), .int (nI gtm), .int (nI gms)]))), (g0, .inl (.inl (kA 1, M, .inl gtk))), (g1, .inr (kA 6, kA 1, M, 2, .inl gaf)), (g2, .inr (kA 6, kA 1, M, 60, .inl gco)), (g3, .inr (kA 7, kA 2, 8, 61, .inr gwy))]) [(5, .int (nI v5_7_198)), (0, .ref g), (1, .int (nI fr)), (2, .int (nI t)), (3, .int (nI f)), (4, .int (nI mm))] 0 0 34 [.long r1786]
          refine j_lconst (v := 0) h (by decide) dX3_itemFrom_34 ?_
          refine j_lcmp h dX3_itemFrom_35 ?_
          refine j_if_le h 42 dX3_itemFrom_36 (by decide) (fun z1788 => ?_) (fun z1788 => ?_)
          · show J x (mflat [(g, .inl (.inr (3, [.ref g0, .ref g1, .ref g2, .ref g3, .ref g4, .ref g5, .ref g6, .ref g7, .int (nI gn), .int (nI gtm), .int (nI gms)]))), (g0, .inl (.inl (kA 1, M, .inl gtk))), (g1, .inr (kA 6, kA 1, M, 2, .inl gaf)), (g2, .inr (kA 6, kA 1, M, 60, .inl gco)), (g3, .inr (kA 7, kA 2, 8, 61, .inr gwy))]) [(5, .int (nI v5_7_198)), (0, .ref g), (1, .int (nI fr)), (2, .int (nI t)), (3, .int (nI f)), (4, .int (nI mm))] 0 0 42 []
            refine j_iinc (v := nI (v5_7_198 + 1)) (lv' := [(5, .int (nI (v5_7_198 + 1))), (0, .ref g), (1, .int (nI fr)), (2, .int (nI t)), (3, .int (nI f)), (4, .int (nI mm))]) h dX3_itemFrom_42 0 rfl (nI_add v5_7_198 1) (by decide) rfl ?_
            refine j_goto h 7 dX3_itemFrom_45 (by decide) ?_
            refine jm_sub [0, 1, 2, 3, 4] (w' := [(g, .inl (.inr (3, [.ref g0, .ref g1, .ref g2, .ref g3, .ref g4, .ref g5, .ref g6, .ref g7, .int (nI gn), .int (nI gtm), .int (nI gms)]))), (g0, .inl (.inl (kA 1, M, .inl gtk))), (g1, .inr (kA 6, kA 1, M, 2, .inl gaf)), (g2, .inr (kA 6, kA 1, M, 60, .inl gco)), (g3, .inr (kA 7, kA 2, 8, 61, .inr gwy))]) rfl (by decide +kernel) [0, 1, 2, 3, 4, 5] (lv' := [(5, .int (nI (v5_7_198 + 1))), (0, .ref g), (1, .int (nI fr)), (2, .int (nI t)), (3, .int (nI f)), (4, .int (nI mm))]) rfl ?_
            exact ih7_198 (v5_7_198 + 1) (show (v5_7_198 + 1) ≤ 100000 by first | assumption | omega) (show 100001 - (v5_7_198 + 1) < m7_198 by first | exact Nat.lt_of_lt_of_le (Nat.sub_lt_sub_left (Nat.lt_of_le_of_lt (show v5_7_198 ≤ 100000 by assumption) (Nat.lt_succ_self 100000)) (Nat.lt_succ_self v5_7_198)) (Nat.le_of_lt_succ hm7_198) | omega)
          · show J x (mflat [(g, .inl (.inr (3, [.ref g0, .ref g1, .ref g2, .ref g3, .ref g4, .ref g5, .ref g6, .ref g7, .int (nI gn), .int (nI gtm), .int (nI gms)]))), (g0, .inl (.inl (kA 1, M, .inl gtk))), (g1, .inr (kA 6, kA 1, M, 2, .inl gaf)), (g2, .inr (kA 6, kA 1, M, 60, .inl gco)), (g3, .inr (kA 7, kA 2, 8, 61, .inr gwy))]) [(5, .int (nI v5_7_198)), (0, .ref g), (1, .int (nI fr)), (2, .int (nI t)), (3, .int (nI f)), (4, .int (nI mm))] 0 0 39 []
            refine j_iload h 0 rfl dX3_itemFrom_39 ?_
            exact jm_iret h hq dX3_itemFrom_41 (v5_7_198 + 1) [0, 1, 2, 3, 4] rfl (by decide) ⟨rfl, (show (v5_7_198 + 1) ≤ gn by first | assumption | omega), (show ∀ i, (v5_7_198 + 1) = i + 1 → i < gn ∧ GoOk gtk gaf gco gtm i t f mm from fun i hi => by have e9 : i = v5_7_198 := (by omega); subst e9; exact ⟨by omega, Or.resolve_left p1787 (fun e => z1788 (by rw [e]; decide +kernel))⟩)⟩ (Nat.le_of_ble_eq_true rfl) (Nat.le_of_ble_eq_true rfl)
  refine jm_sub [0, 1, 2, 3, 4] (w' := [(g, .inl (.inr (3, [.ref g0, .ref g1, .ref g2, .ref g3, .ref g4, .ref g5, .ref g6, .ref g7, .int (nI gn), .int (nI gtm), .int (nI gms)]))), (g0, .inl (.inl (kA 1, M, .inl gtk))), (g1, .inr (kA 6, kA 1, M, 2, .inl gaf)), (g2, .inr (kA 6, kA 1, M, 60, .inl gco)), (g3, .inr (kA 7, kA 2, 8, 61, .inr gwy))]) rfl (by decide +kernel) [0, 1, 2, 3, 4, 5] (lv' := [(5, .int (nI (max fr 0))), (0, .ref g), (1, .int (nI fr)), (2, .int (nI t)), (3, .int (nI f)), (4, .int (nI mm))]) rfl ?_
  exact lp7_198 (100001 - (max fr 0) + 1) (max fr 0) (show (max fr 0) ≤ 100000 by first | assumption | omega) (Nat.lt_succ_self _)
set_option maxHeartbeats 4000000 in
set_option maxRecDepth 100000 in
theorem s_X3_layFirst (lau : Launch) (gg : va_G) (kA : Nat → ClassId) (g : Nat) (o : Nat) (g0 : Nat) (g1 : Nat) (g2 : Nat) (g3 : Nat) (g4 : Nat) (g5 : Nat) (g6 : Nat) (g7 : Nat) (gn : Nat) (gtm : Nat) (gms : Nat) (M : Nat) (gtk : Nat → Int32) (gaf : Nat → Nat → Int32) (gco : Nat → Nat → Int32) (gwy : Nat → Nat → Int64) (of : Nat → Int32) (hM : M ≤ 10) (hgn : gn ≤ M) (hgtm : gtm ≤ 60) (hgtk : LtOk gn gtk) (hgaf : FtOk gn gaf) (hgco : CoOk gn gtm gtk gco) (hms : gms ≤ 3) : CtI lau yX3_layFirst cX3_layFirst 7 (some .int) 3 0 0 gg kA [.ref g, .ref o] (mflat [(g, .inl (.inr (3, [.ref g0, .ref g1, .ref g2, .ref g3, .ref g4, .ref g5, .ref g6, .ref g7, .int (nI gn), .int (nI gtm), .int (nI gms)]))), (g0, .inl (.inl (kA 1, M, .inl gtk))), (g1, .inr (kA 6, kA 1, M, 2, .inl gaf)), (g2, .inr (kA 6, kA 1, M, 60, .inl gco)), (g3, .inr (kA 7, kA 2, 8, 61, .inr gwy)), (o, .inl (.inl (kA 1, 60, .inl of)))]) (S := (Nat → Int32)) (fun (r : Int32) (y_o : (Nat → Int32)) => True) (fun (y_o : (Nat → Int32)) => mflat [(g, .inl (.inr (3, [.ref g0, .ref g1, .ref g2, .ref g3, .ref g4, .ref g5, .ref g6, .ref g7, .int (nI gn), .int (nI gtm), .int (nI gms)]))), (g0, .inl (.inl (kA 1, M, .inl gtk))), (g1, .inr (kA 6, kA 1, M, 2, .inl gaf)), (g2, .inr (kA 6, kA 1, M, 60, .inl gco)), (g3, .inr (kA 7, kA 2, 8, 61, .inr gwy)), (o, .inl (.inl (kA 1, 60, .inl y_o)))]) := by
  refine nx_startI (by decide +kernel) (Nat.le_of_ble_eq_true rfl) ?_
  intro x hnm h hq
  have h : Ok x cX3_layFirst RX3 kA (rmC 3 0 0) 7 := h
  show J x (mflat [(g, .inl (.inr (3, [.ref g0, .ref g1, .ref g2, .ref g3, .ref g4, .ref g5, .ref g6, .ref g7, .int (nI gn), .int (nI gtm), .int (nI gms)]))), (g0, .inl (.inl (kA 1, M, .inl gtk))), (g1, .inr (kA 6, kA 1, M, 2, .inl gaf)), (g2, .inr (kA 6, kA 1, M, 60, .inl gco)), (g3, .inr (kA 7, kA 2, 8, 61, .inr gwy)), (o, .inl (.inl (kA 1, 60, .inl of)))]) [(0, .ref g), (1, .ref o)] 0 0 0 []
  refine j_iconst (v := 0) h (by decide) dX3_layFirst_0 ?_
  refine j_istore_n (lv' := [(2, .int 0), (0, .ref g), (1, .ref o)]) h dX3_layFirst_1 rfl (by decide) rfl ?_
  refine j_iconst (v := 0) h (by decide) dX3_layFirst_2 ?_
  refine j_istore_n (lv' := [(3, .int 0), (2, .int 0), (0, .ref g), (1, .ref o)]) h dX3_layFirst_3 rfl (by decide) rfl ?_
  refine j_aload_n h 2 rfl rfl dX3_layFirst_4 ?_
  refine jm_get h iw_X3 0 rfl rfl 10 (by decide +kernel) tw_390 rfl dX3_layFirst_5 ?_
  refine j_istore (lv' := [(4, .int (nI gms)), (3, .int 0), (2, .int 0), (0, .ref g), (1, .ref o)]) h dX3_layFirst_8 (by decide) rfl ?_
  refine j_iconst (v := 0) h (by decide) dX3_layFirst_10 ?_
  refine j_istore (lv' := [(5, .int 0), (4, .int (nI gms)), (3, .int 0), (2, .int 0), (0, .ref g), (1, .ref o)]) h dX3_layFirst_11 (by decide) rfl ?_
  have lp13_204 : ∀ (m13_204 : Nat), ∀ (v5_13_204 : Nat) (v4_13_204 : Nat) (v3_13_204 : Nat) (v2_13_204 : Nat) (fo_13_204 : Nat → Int32), (v2_13_204 ≤ gtm) → (v3_13_204 ≤ 1) → (v4_13_204 ≤ 3) → (v5_13_204 ≤ 60) → (v5_13_204 ≤ 100000) → (v4_13_204 ≤ 100000) → (v3_13_204 ≤ 100000) → (v2_13_204 ≤ 100000) → 100001 - v5_13_204 < m13_204 → J x (mflat [(g, .inl (.inr (3, [.ref g0, .ref g1, .ref g2, .ref g3, .ref g4, .ref g5, .ref g6, .ref g7, .int (nI gn), .int (nI gtm), .int (nI gms)]))), (g0, .inl (.inl (kA 1, M, .inl gtk))), (g1, .inr (kA 6, kA 1, M, 2, .inl gaf)), (g2, .inr (kA 6, kA 1, M, 60, .inl gco)), (g3, .inr (kA 7, kA 2, 8, 61, .inr gwy)), (o, .inl (.inl (kA 1, 60, .inl fo_13_204)))]) [(5, .int (nI v5_13_204)), (4, .int (nI v4_13_204)), (3, .int (nI v3_13_204)), (2, .int (nI v2_13_204)), (0, .ref g), (1, .ref o)] 0 0 13 [] := by
    intro m13_204
    induction m13_204 with
    | zero =>
      intro v5_13_204 v4_13_204 v3_13_204 v2_13_204 fo_13_204 i13_204_0 i13_204_1 i13_204_2 i13_204_3 i13_204_4 i13_204_5 i13_204_6 i13_204_7 hm13_204
      exact absurd hm13_204 (Nat.not_lt_zero _)
    | succ m13_204 ih13_204 =>
      intro v5_13_204 v4_13_204 v3_13_204 v2_13_204 fo_13_204 i13_204_0 i13_204_1 i13_204_2 i13_204_3 i13_204_4 i13_204_5 i13_204_6 i13_204_7 hm13_204
      refine j_iload_n h 3 rfl rfl dX3_layFirst_13 ?_
      refine j_aload_n h 4 rfl rfl dX3_layFirst_14 ?_
      refine jm_get h iw_X3 0 rfl rfl 9 (by decide +kernel) tw_389 rfl dX3_layFirst_15 ?_
      refine j_icmp_ge h 93 dX3_layFirst_18 (by decide) (fun z1892 => ?_) (fun z1892 => ?_)
      · have z1892n : gtm ≤ v2_13_204 := (nI_leI (a := gtm) (b := v2_13_204) (by omega) (by omega)).mp z1892
        refine j_iload h 0 rfl dX3_layFirst_93 ?_
        exact jm_iret h hq dX3_layFirst_95 fo_13_204 [0, 1, 2, 3, 4, 5] rfl (by decide) trivial (Nat.le_of_ble_eq_true rfl) (Nat.le_of_ble_eq_true rfl)
      · have z1892n : ¬ gtm ≤ v2_13_204 := fun q9 => z1892 ((nI_leI (a := gtm) (b := v2_13_204) (by omega) (by omega)).mpr q9)
        refine j_iload h 0 rfl dX3_layFirst_21 ?_
        refine j_aload_n h 5 rfl rfl dX3_layFirst_23 ?_
        refine jm_alen (v := 60) h 5 1 rfl rfl rfl dX3_layFirst_24 ?_
        refine j_icmp_ge h 93 dX3_layFirst_25 (by decide) (fun z1893 => ?_) (fun z1893 => ?_)
        · have z1893n : 60 ≤ v5_13_204 := (nI_leI (a := 60) (b := v5_13_204) (by omega) (by omega)).mp z1893
          refine j_iload h 0 rfl dX3_layFirst_93 ?_
          exact jm_iret h hq dX3_layFirst_95 fo_13_204 [0, 1, 2, 3, 4, 5] rfl (by decide) trivial (Nat.le_of_ble_eq_true rfl) (Nat.le_of_ble_eq_true rfl)
        · have z1893n : ¬ 60 ≤ v5_13_204 := fun q9 => z1893 ((nI_leI (a := 60) (b := v5_13_204) (by omega) (by omega)).mpr q9)
          refine j_aload_n h 4 rfl rfl dX3_layFirst_28 ?_
          refine j_iconst (v := 0) h (by decide) dX3_layFirst_29 ?_
          refine j_iload_n h 3 rfl rfl dX3_layFirst_30 ?_
          refine j_iload_n h 2 rfl rfl dX3_layFirst_31 ?_
          refine j_iload h 1 rfl dX3_layFirst_32 ?_
          refine jm_callVi (np := 4) (isC := [0, 1, 2, 3, 4]) (isR := [5]) (wc := [(g, .inl (.inr (3, [.ref g0, .ref g1, .ref g2, .ref g3, .ref g4, .ref g5, .ref g6, .ref g7, .int (nI gn), .int (nI gtm), .int (nI gms)]))), (g0, .inl (.inl (kA 1, M, .inl gtk))), (g1, .inr (kA 6, kA 1, M, 2, .inl gaf)), (g2, .inr (kA 6, kA 1, M, 60, .inl gco)), (g3, .inr (kA 7, kA 2, 8, 61, .inr gwy))]) (wr := [(o, .inl (.inl (kA 1, 60, .inl fo_13_204)))]) (rest := []) (As := [.int 0, .int (nI v2_13_204), .int (nI v3_13_204), .int (nI v4_13_204)]) (q0 := 0) h (s_X3_itemFrom _ _ kA g 0 v2_13_204 v3_13_204 v4_13_204 g0 g1 g2 g3 g4 g5 g6 g7 gn gtm gms M gtk gaf gco gwy (show M ≤ 10 by first | assumption | omega) (show gn ≤ M by first | assumption | omega) (show gtm ≤ 60 by first | assumption | omega) (show LtOk gn gtk by first | assumption | omega) (show FtOk gn gaf by first | assumption | omega) (show CoOk gn gtm gtk gco by first | assumption | omega) (show v3_13_204 ≤ 1 by first | assumption | omega) (show v4_13_204 ≤ 3 by first | assumption | omega) (show 0 ≤ 100 by first | assumption | omega) (show v2_13_204 ≤ 60 by first | assumption | omega)) tw_887 tw_888 tw_889 tw_95 tw_890 (by decide +kernel) rfl ⟨Nat.le_of_ble_eq_true rfl, Nat.le_of_ble_eq_true rfl⟩ rfl rfl (by decide +kernel) rfl rfl (by decide +kernel) (by decide +kernel) (Nat.le_of_ble_eq_true rfl) rfl ⟨Nat.le_of_ble_eq_true rfl, Nat.le_of_ble_eq_true rfl⟩ dX3_layFirst_34 ?_
          rintro r1896 q1894 e1895
          obtain ⟨p1897, p1898, p1899⟩ := e1895
          subst p1897
          replace p1898 : q1894 ≤ gn := p1898
          replace p1899 : ∀ i, q1894 = i + 1 → i < gn ∧ GoOk gtk gaf gco gtm i v2_13_204 v3_13_204 v4_13_204 := p1899
          show J x (mflat [(o, .inl (.inl (kA 1, 60, .inl fo_13_204))), (g, .inl (.inr (3, [.ref g0, .ref g1, .ref g2, .ref g3, .ref g4, .ref g5, .ref g6, .ref g7, .int (nI gn), .int (nI gtm), .int (nI gms)]))), (g0, .inl (.inl (kA 1, M, .inl gtk))), (g1, .inr (kA 6, kA 1, M, 2, .inl gaf)), (g2, .inr (kA 6, kA 1, M, 60, .inl gco)), (g3, .inr (kA 7, kA 2, 8, 61, .inr gwy))]) [(5, .int (nI v5_13_204)), (4, .int (nI v4_13_204)), (3, .int (nI v3_13_204)), (2, .int (nI v2_13_204)), (0, .ref g), (1, .ref o)] 0 0 37 [.int (pm q1894)]
          refine j_istore (lv' := [(6, .int (pm q1894)), (5, .int (nI v5_13_204)), (4, .int (nI v4_13_204)), (3, .int (nI v3_13_204)), (2, .int (nI v2_13_204)), (0, .ref g), (1, .ref o)]) h dX3_layFirst_37 (by decide) rfl ?_
          refine j_iload h 0 rfl dX3_layFirst_39 ?_
          refine j_iconst (v := (-1)) h (by decide) dX3_layFirst_41 ?_
          rcases q1894 with _ | j1900
          · show J x (mflat [(o, .inl (.inl (kA 1, 60, .inl fo_13_204))), (g, .inl (.inr (3, [.ref g0, .ref g1, .ref g2, .ref g3, .ref g4, .ref g5, .ref g6, .ref g7, .int (nI gn), .int (nI gtm), .int (nI gms)]))), (g0, .inl (.inl (kA 1, M, .inl gtk))), (g1, .inr (kA 6, kA 1, M, 2, .inl gaf)), (g2, .inr (kA 6, kA 1, M, 60, .inl gco)), (g3, .inr (kA 7, kA 2, 8, 61, .inr gwy))]) [(6, .int (-1)), (5, .int (nI v5_13_204)), (4, .int (nI v4_13_204)), (3, .int (nI v3_13_204)), (2, .int (nI v2_13_204)), (0, .ref g), (1, .ref o)] 0 0 42 [.int (-1), .int (-1)]
            refine j_icmp_ne h 47 dX3_layFirst_42 (by decide) (fun q => absurd (by decide) q) (fun _ => ?_)
            refine j_iconst (v := 0) h (by decide) dX3_layFirst_45 ?_
            exact jm_iret h hq dX3_layFirst_46 fo_13_204 [1, 2, 3, 4, 5, 0] rfl (by decide) trivial (Nat.le_of_ble_eq_true rfl) (Nat.le_of_ble_eq_true rfl)
          · show J x (mflat [(o, .inl (.inl (kA 1, 60, .inl fo_13_204))), (g, .inl (.inr (3, [.ref g0, .ref g1, .ref g2, .ref g3, .ref g4, .ref g5, .ref g6, .ref g7, .int (nI gn), .int (nI gtm), .int (nI gms)]))), (g0, .inl (.inl (kA 1, M, .inl gtk))), (g1, .inr (kA 6, kA 1, M, 2, .inl gaf)), (g2, .inr (kA 6, kA 1, M, 60, .inl gco)), (g3, .inr (kA 7, kA 2, 8, 61, .inr gwy))]) [(6, .int (nI j1900)), (5, .int (nI v5_13_204)), (4, .int (nI v4_13_204)), (3, .int (nI v3_13_204)), (2, .int (nI v2_13_204)), (0, .ref g), (1, .ref o)] 0 0 42 [.int (-1), .int (nI j1900)]
            refine j_icmp_ne h 47 dX3_layFirst_42 (by decide) (fun _ => ?_) (fun q => absurd q (nI_m1 (by omega)))
            obtain ⟨u1904, t1901, t1902, t1903, u1905, u1906, u1907, u1908, u1909, u1910, u1911, u1912⟩ := p1899 j1900 rfl
            refine j_aload_n h 6 rfl rfl dX3_layFirst_47 ?_
            refine j_iload h 1 rfl dX3_layFirst_48 ?_
            refine j_iload h 0 rfl dX3_layFirst_50 ?_
            refine jm_iast (w' := [(o, .inl (.inl (kA 1, 60, .inl (upd fo_13_204 v5_13_204 (nI j1900))))), (g, .inl (.inr (3, [.ref g0, .ref g1, .ref g2, .ref g3, .ref g4, .ref g5, .ref g6, .ref g7, .int (nI gn), .int (nI gtm), .int (nI gms)]))), (g0, .inl (.inl (kA 1, M, .inl gtk))), (g1, .inr (kA 6, kA 1, M, 2, .inl gaf)), (g2, .inr (kA 6, kA 1, M, 60, .inl gco)), (g3, .inr (kA 7, kA 2, 8, 61, .inr gwy))]) h 0 rfl v5_13_204 rfl (by omega) (by omega) dX3_layFirst_52 rfl ?_
            refine j_iinc (v := nI (v5_13_204 + 1)) (lv' := [(5, .int (nI (v5_13_204 + 1))), (6, .int (nI j1900)), (4, .int (nI v4_13_204)), (3, .int (nI v3_13_204)), (2, .int (nI v2_13_204)), (0, .ref g), (1, .ref o)]) h dX3_layFirst_53 1 rfl (nI_add v5_13_204 1) (by decide) rfl ?_
            refine j_iload h 2 rfl dX3_layFirst_56 ?_
            refine j_aload_n h 5 rfl rfl dX3_layFirst_58 ?_
            refine jm_get h iw_X3 1 rfl rfl 2 (by decide +kernel) tw_381 rfl dX3_layFirst_59 ?_
            refine j_iload h 1 rfl dX3_layFirst_62 ?_
            refine jm_gout h 4 6 rfl rfl j1900 rfl (by omega) (by omega) dX3_layFirst_64 ?_
            refine j_iload_n h 4 rfl rfl dX3_layFirst_65 ?_
            refine jm_gald h 4 rfl j1900 (by omega) v2_13_204 rfl (by omega) (by omega) dX3_layFirst_66 ?_
            refine j_top (b := nI t1903) (u1911) ?_
            refine j_isub h dX3_layFirst_67 ?_
            refine j_top (b := nI (v4_13_204 - t1903)) (pk_sub (a := v4_13_204) (b := t1903) (by omega)) ?_
            refine j_istore (lv' := [(4, .int (nI (v4_13_204 - t1903))), (5, .int (nI (v5_13_204 + 1))), (6, .int (nI j1900)), (3, .int (nI v3_13_204)), (2, .int (nI v2_13_204)), (0, .ref g), (1, .ref o)]) h dX3_layFirst_68 (by decide) rfl ?_
            refine j_aload_n h 5 rfl rfl dX3_layFirst_70 ?_
            refine jm_get h iw_X3 1 rfl rfl 1 (by decide +kernel) tw_379 rfl dX3_layFirst_71 ?_
            refine j_iload h 2 rfl dX3_layFirst_74 ?_
            refine jm_gout h 3 6 rfl rfl j1900 rfl (by omega) (by omega) dX3_layFirst_76 ?_
            refine j_iload_n h 3 rfl rfl dX3_layFirst_77 ?_
            refine jm_gald h 3 rfl j1900 (by omega) v3_13_204 rfl (by omega) (by omega) dX3_layFirst_78 ?_
            refine j_top (b := nI t1901) (u1906) ?_
            refine j_istore_n (lv' := [(3, .int (nI t1901)), (4, .int (nI (v4_13_204 - t1903))), (5, .int (nI (v5_13_204 + 1))), (6, .int (nI j1900)), (2, .int (nI v2_13_204)), (0, .ref g), (1, .ref o)]) h dX3_layFirst_79 rfl (by decide) rfl ?_
            refine j_iload_n h 4 rfl rfl dX3_layFirst_80 ?_
            refine j_aload_n h 5 rfl rfl dX3_layFirst_81 ?_
            refine jm_get h iw_X3 1 rfl rfl 0 (by decide +kernel) tw_377 rfl dX3_layFirst_82 ?_
            refine j_iload h 3 rfl dX3_layFirst_85 ?_
            refine jm_iald h 2 rfl j1900 rfl (by omega) (by omega) dX3_layFirst_87 ?_
            refine j_top (b := nI t1902) (u1909) ?_
            refine j_iadd h dX3_layFirst_88 ?_
            refine j_top (b := nI (v2_13_204 + t1902)) (nI_add v2_13_204 t1902) ?_
            refine j_istore_n (lv' := [(2, .int (nI (v2_13_204 + t1902))), (3, .int (nI t1901)), (4, .int (nI (v4_13_204 - t1903))), (5, .int (nI (v5_13_204 + 1))), (6, .int (nI j1900)), (0, .ref g), (1, .ref o)]) h dX3_layFirst_89 rfl (by decide) rfl ?_
            refine j_goto h 13 dX3_layFirst_90 (by decide) ?_
            refine jm_sub [1, 2, 3, 4, 5, 0] (w' := [(g, .inl (.inr (3, [.ref g0, .ref g1, .ref g2, .ref g3, .ref g4, .ref g5, .ref g6, .ref g7, .int (nI gn), .int (nI gtm), .int (nI gms)]))), (g0, .inl (.inl (kA 1, M, .inl gtk))), (g1, .inr (kA 6, kA 1, M, 2, .inl gaf)), (g2, .inr (kA 6, kA 1, M, 60, .inl gco)), (g3, .inr (kA 7, kA 2, 8, 61, .inr gwy)), (o, .inl (.inl (kA 1, 60, .inl (upd fo_13_204 v5_13_204 (nI j1900)))))]) rfl (by decide +kernel) [3, 2, 1, 0, 5, 6] (lv' := [(5, .int (nI (v5_13_204 + 1))), (4, .int (nI (v4_13_204 - t1903))), (3, .int (nI t1901)), (2, .int (nI (v2_13_204 + t1902))), (0, .ref g), (1, .ref o)]) rfl ?_
            exact ih13_204 (v5_13_204 + 1) (v4_13_204 - t1903) t1901 (v2_13_204 + t1902) (upd fo_13_204 v5_13_204 (nI j1900)) (show (v2_13_204 + t1902) ≤ gtm by first | assumption | omega) (show t1901 ≤ 1 by first | assumption | omega) (show (v4_13_204 - t1903) ≤ 3 by first | assumption | omega) (show (v5_13_204 + 1) ≤ 60 by first | assumption | omega) (show (v5_13_204 + 1) ≤ 100000 by first | assumption | omega) (show (v4_13_204 - t1903) ≤ 100000 by first | assumption | omega) (show t1901 ≤ 100000 by first | assumption | omega) (show (v2_13_204 + t1902) ≤ 100000 by first | assumption | omega) (show 100001 - (v5_13_204 + 1) < m13_204 by first | exact Nat.lt_of_lt_of_le (Nat.sub_lt_sub_left (Nat.lt_of_le_of_lt (show v5_13_204 ≤ 100000 by assumption) (Nat.lt_succ_self 100000)) (Nat.lt_succ_self v5_13_204)) (Nat.le_of_lt_succ hm13_204) | omega)
  refine jm_sub [0, 1, 2, 3, 4, 5] (w' := [(g, .inl (.inr (3, [.ref g0, .ref g1, .ref g2, .ref g3, .ref g4, .ref g5, .ref g6, .ref g7, .int (nI gn), .int (nI gtm), .int (nI gms)]))), (g0, .inl (.inl (kA 1, M, .inl gtk))), (g1, .inr (kA 6, kA 1, M, 2, .inl gaf)), (g2, .inr (kA 6, kA 1, M, 60, .inl gco)), (g3, .inr (kA 7, kA 2, 8, 61, .inr gwy)), (o, .inl (.inl (kA 1, 60, .inl of)))]) rfl (by decide +kernel) [0, 1, 2, 3, 4, 5] (lv' := [(5, .int 0), (4, .int (nI gms)), (3, .int 0), (2, .int 0), (0, .ref g), (1, .ref o)]) rfl ?_
  exact lp13_204 (100001 - 0 + 1) 0 gms 0 0 of (show 0 ≤ gtm by first | assumption | omega) (show 0 ≤ 1 by first | assumption | omega) (show gms ≤ 3 by first | assumption | omega) (show 0 ≤ 60 by first | assumption | omega) (show 0 ≤ 100000 by first | assumption | omega) (show gms ≤ 100000 by first | assumption | omega) (show 0 ≤ 100000 by first | assumption | omega) (show 0 ≤ 100000 by first | assumption | omega) (Nat.lt_succ_self _)
