theorem nx_ofWF {l : Launch} {y : MethodName} {ws ws' : List Cond} {rm : Room} {Pc : Array Value → State → Prop} {Qc : Array Value → State → Outcome → State → Prop} {mc ms : Nat} {free : Addr → Prop} {cc : ByteArray} {maxL : Nat} {ret : Option FieldType}
    (hy : plainFor y = true) (hw : ws = Cond.code y cc maxL ret :: ws')
    (body : ∀ p e s m args below meth c s₁, BodyLoose p l y (headSpec ws rm) cc maxL ret e s m args below meth c s₁ → c.maxLocals = maxL → Pc args s →
      W p l e (headSpec ws rm).room s m args below meth c s.heap [] 0 0 (MQ below Qc args s mc ms free) (entryFrame m args maxL)) : Met l y ws rm Pc Qc mc ms free := by
  refine MetFree.of_bodySF (code := cc) (maxLocals := maxL) (ret := ret) hy ?_ ?_
  · intro args s m h hn
    obtain ⟨meth, c, h1, h2, h3, h4, h5, h6, -, -⟩ := Cond.code_spec hn (atoms_spec (ws := ws) h _ (by rw [hw]; exact List.mem_cons_self))
    exact ⟨meth, c, h1, h2, h3, h4, h5, h6⟩
  · intro p e s m args below meth c s₁ B hml hP _
    have hh0 : s₁.heap = s.heap := by rw [B.state]; rfl
    obtain ⟨t, a1, o, b1, b2, b3⟩ := body p e s m args below meth c s₁ B hml hP s₁ hh0 (Stand.of_body B)
    exact ⟨t, o, a1, b1, b2, ⟨b3.1, b3.2⟩⟩
theorem nx_startLF {l : Launch} {y : MethodName} {cc : ByteArray} {n : Nat} {r : Option FieldType} {k mc ms : Nat} {g : va_G} {kA : Nat → ClassId} {As : List Value} {ws : va_W} {S : Type} {post : Int64 → S → Prop} {w1 : S → va_W} (hy : plainFor y = true) (hn : (lg_sl As).length ≤ n)
    (body : ∀ x : Cx, x.2.2.1.1.name = y.name → Ok x cc y.cls kA (rmC k mc ms) n → RetL x kA r post w1 mc ms → J x ws (lv_args 0 As) 0 0 0 []) : CtL l y cc n r k mc ms g kA As ws post w1 := by
  intro sz
  refine nx_ofWF (cc := cc) (maxL := n) (ret := r) hy rfl ?_
  intro p e s m args below meth c s₁ B hml hv
  obtain ⟨rfl, hsz, hP, hK, hD0, hN⟩ := hv
  subst hsz
  have hts := atoms_spec (ws := .code y cc n r :: TT) B.pre
  have hD := hD0.self (sz := s.heap.size)
  have J0 := body ((p, l, e, rmC k mc ms), (s, m, As.toArray, below), (meth, c), (va_A ws s.heap.size, g, n), MQ below (va_Ql post (fun u t => nPost g kA (va_A ws s.heap.size) (w1 u) t) (va_A ws s.heap.size)) As.toArray s mc ms (va_A ws s.heap.size)) (name_of_methodNamed B.named B.method).1 ⟨B.exec, B.bytes, hml, findClass_of_methodNamed B.named, fun w h => hts w (List.mem_cons_of_mem _ h), hK, hN, fun q h => Or.inr h, rfl, B.notSynchronized, rfl⟩ ⟨rfl, B.returns⟩
  have hl := lv_entry As (n := n) hn
  rw [lg_entry_eq]
  exact J0 s.heap [] _ hP hD va_S.rf hl
theorem dX3_takeSteps_0 : decode cX3_takeSteps 0 = .ok (.aload_n 0, 1) := by decide +kernel
theorem dX3_takeSteps_1 : decode cX3_takeSteps 1 = .ok (.aload_n 1, 1) := by decide +kernel
theorem dX3_takeSteps_2 : decode cX3_takeSteps 2 = .ok (.getfield 60, 3) := by decide +kernel
theorem tw_220 : Cond.fieldLink RX3 60 "LimpCode$School" "stepCount" "I" ∈ TT := nx_mem 220 (by decide +kernel) (by decide +kernel)
theorem dX3_takeSteps_5 : decode cX3_takeSteps 5 = .ok (.putfield 45, 3) := by decide +kernel
theorem tw_387 : Cond.fieldLink RX3 45 "LimpCode$Grid" "count" "I" ∈ TT := nx_mem 387 (by decide +kernel) (by decide +kernel)
theorem dX3_takeSteps_8 : decode cX3_takeSteps 8 = .ok (.iconst 0, 1) := by decide +kernel
theorem dX3_takeSteps_9 : decode cX3_takeSteps 9 = .ok (.istore_n 2, 1) := by decide +kernel
theorem dX3_takeSteps_10 : decode cX3_takeSteps 10 = .ok (.iload_n 2, 1) := by decide +kernel
theorem dX3_takeSteps_11 : decode cX3_takeSteps 11 = .ok (.aload_n 0, 1) := by decide +kernel
theorem dX3_takeSteps_12 : decode cX3_takeSteps 12 = .ok (.getfield 45, 3) := by decide +kernel
theorem dX3_takeSteps_15 : decode cX3_takeSteps 15 = .ok (.if_icmp .ge 49, 3) := by decide +kernel
theorem dX3_takeSteps_64 : decode cX3_takeSteps 64 = .ok (.return_, 1) := by decide +kernel
theorem dX3_fillTimed_0 : decode cX3_fillTimed 0 = .ok (.aload_n 0, 1) := by decide +kernel
theorem dX3_fillTimed_1 : decode cX3_fillTimed 1 = .ok (.aload_n 1, 1) := by decide +kernel
theorem dX3_fillTimed_2 : decode cX3_fillTimed 2 = .ok (.invokevirtual 41, 3) := by decide +kernel
theorem tw_837 : Cond.methodLink RX3 41 yX3_takeSteps ∈ TT := nx_mem 837 (by decide +kernel) (by decide +kernel)
theorem tw_839 : Cond.instanceMethod yX3_takeSteps ∈ TT := nx_mem 839 (by decide +kernel) (by decide +kernel)
theorem tw_16 : Cond.selects RX3 yX3_takeSteps yX3_takeSteps ∈ TT := nx_mem 16 (by decide +kernel) (by decide +kernel)
theorem tw_840 : Cond.code yX3_takeSteps cX3_takeSteps 3 none ∈ TT := nx_mem 840 (by decide +kernel) (by decide +kernel)
theorem dX3_fillTimed_5 : decode cX3_fillTimed 5 = .ok (.iconst 0, 1) := by decide +kernel
theorem dX3_fillTimed_6 : decode cX3_fillTimed 6 = .ok (.istore 4, 2) := by decide +kernel
theorem dX3_fillTimed_8 : decode cX3_fillTimed 8 = .ok (.iload 4, 2) := by decide +kernel
theorem dX3_fillTimed_10 : decode cX3_fillTimed 10 = .ok (.aload_n 0, 1) := by decide +kernel
theorem dX3_fillTimed_11 : decode cX3_fillTimed 11 = .ok (.getfield 45, 3) := by decide +kernel
theorem dX3_fillTimed_14 : decode cX3_fillTimed 14 = .ok (.if_icmp .ge 99, 3) := by decide +kernel
theorem dX3_fillTimed_113 : decode cX3_fillTimed 113 = .ok (.return_, 1) := by decide +kernel
theorem dX3_fillSteps_0 : decode cX3_fillSteps 0 = .ok (.aload_n 0, 1) := by decide +kernel
theorem dX3_fillSteps_1 : decode cX3_fillSteps 1 = .ok (.aload_n 1, 1) := by decide +kernel
theorem dX3_fillSteps_2 : decode cX3_fillSteps 2 = .ok (.invokevirtual 41, 3) := by decide +kernel
theorem dX3_fillSteps_5 : decode cX3_fillSteps 5 = .ok (.iconst 0, 1) := by decide +kernel
theorem dX3_fillSteps_6 : decode cX3_fillSteps 6 = .ok (.istore 5, 2) := by decide +kernel
theorem dX3_fillSteps_8 : decode cX3_fillSteps 8 = .ok (.iload 5, 2) := by decide +kernel
theorem dX3_fillSteps_10 : decode cX3_fillSteps 10 = .ok (.aload_n 0, 1) := by decide +kernel
theorem dX3_fillSteps_11 : decode cX3_fillSteps 11 = .ok (.getfield 45, 3) := by decide +kernel
theorem dX3_fillSteps_14 : decode cX3_fillSteps 14 = .ok (.if_icmp .ge 85, 3) := by decide +kernel
theorem dX3_fillSteps_99 : decode cX3_fillSteps 99 = .ok (.return_, 1) := by decide +kernel
theorem dX3_fillLetters_0 : decode cX3_fillLetters 0 = .ok (.aload_n 0, 1) := by decide +kernel
theorem dX3_fillLetters_1 : decode cX3_fillLetters 1 = .ok (.aload_n 1, 1) := by decide +kernel
theorem dX3_fillLetters_2 : decode cX3_fillLetters 2 = .ok (.getfield 68, 3) := by decide +kernel
theorem tw_227 : Cond.fieldLink RX3 68 "LimpCode$School" "letterCount" "I" ∈ TT := nx_mem 227 (by decide +kernel) (by decide +kernel)
theorem dX3_fillLetters_5 : decode cX3_fillLetters 5 = .ok (.putfield 45, 3) := by decide +kernel
theorem dX3_fillLetters_8 : decode cX3_fillLetters 8 = .ok (.iconst 0, 1) := by decide +kernel
theorem dX3_fillLetters_9 : decode cX3_fillLetters 9 = .ok (.istore 5, 2) := by decide +kernel
theorem dX3_fillLetters_11 : decode cX3_fillLetters 11 = .ok (.iload 5, 2) := by decide +kernel
theorem dX3_fillLetters_13 : decode cX3_fillLetters 13 = .ok (.aload_n 0, 1) := by decide +kernel
theorem dX3_fillLetters_14 : decode cX3_fillLetters 14 = .ok (.getfield 45, 3) := by decide +kernel
theorem dX3_fillLetters_17 : decode cX3_fillLetters 17 = .ok (.if_icmp .ge 148, 3) := by decide +kernel
theorem dX3_fillLetters_165 : decode cX3_fillLetters 165 = .ok (.return_, 1) := by decide +kernel
theorem dJ9_min_f86c9_0 : decode cJ9_min_f86c9 0 = .ok (.lload_n 0, 1) := by decide +kernel
theorem dJ9_min_f86c9_1 : decode cJ9_min_f86c9 1 = .ok (.lload_n 2, 1) := by decide +kernel
theorem dJ9_min_f86c9_2 : decode cJ9_min_f86c9 2 = .ok (.lcmp, 1) := by decide +kernel
theorem dJ9_min_f86c9_3 : decode cJ9_min_f86c9 3 = .ok (.ifCond .gt 7, 3) := by decide +kernel
theorem dJ9_min_f86c9_6 : decode cJ9_min_f86c9 6 = .ok (.lload_n 0, 1) := by decide +kernel
theorem dJ9_min_f86c9_7 : decode cJ9_min_f86c9 7 = .ok (.goto 4, 3) := by decide +kernel
theorem dJ9_min_f86c9_11 : decode cJ9_min_f86c9 11 = .ok (.lreturn, 1) := by decide +kernel
theorem dX3_sumOfWays_0 : decode cX3_sumOfWays 0 = .ok (.lconst 0, 1) := by decide +kernel
theorem dX3_sumOfWays_1 : decode cX3_sumOfWays 1 = .ok (.lstore 4, 2) := by decide +kernel
theorem dX3_sumOfWays_3 : decode cX3_sumOfWays 3 = .ok (.iconst 0, 1) := by decide +kernel
theorem dX3_sumOfWays_4 : decode cX3_sumOfWays 4 = .ok (.istore 6, 2) := by decide +kernel
theorem dX3_sumOfWays_6 : decode cX3_sumOfWays 6 = .ok (.iload 6, 2) := by decide +kernel
theorem dX3_sumOfWays_8 : decode cX3_sumOfWays 8 = .ok (.aload_n 0, 1) := by decide +kernel
theorem dX3_sumOfWays_9 : decode cX3_sumOfWays 9 = .ok (.getfield 45, 3) := by decide +kernel
theorem dX3_sumOfWays_12 : decode cX3_sumOfWays 12 = .ok (.if_icmp .ge 23, 3) := by decide +kernel
theorem dX3_sumOfWays_35 : decode cX3_sumOfWays 35 = .ok (.lload 4, 2) := by decide +kernel
theorem dX3_sumOfWays_37 : decode cX3_sumOfWays 37 = .ok (.ldc2_w 106, 3) := by decide +kernel
theorem tw_879 : Cond.constantLong RX3 106 1000000000000000 ∈ TT := nx_mem 879 (by decide +kernel) (by decide +kernel)
theorem dX3_sumOfWays_40 : decode cX3_sumOfWays 40 = .ok (.invokestatic 108, 3) := by decide +kernel
theorem tw_880 : Cond.methodLink RX3 108 yJ9_min_f86c9 ∈ TT := nx_mem 880 (by decide +kernel) (by decide +kernel)
theorem tw_881 : Cond.static yJ9_min_f86c9 ∈ TT := nx_mem 881 (by decide +kernel) (by decide +kernel)
theorem tw_882 : Cond.code yJ9_min_f86c9 cJ9_min_f86c9 4 (some .long) ∈ TT := nx_mem 882 (by decide +kernel) (by decide +kernel)
theorem dX3_sumOfWays_43 : decode cX3_sumOfWays 43 = .ok (.lreturn, 1) := by decide +kernel
theorem dX3_countWays_0 : decode cX3_countWays 0 = .ok (.aload_n 0, 1) := by decide +kernel
theorem dX3_countWays_1 : decode cX3_countWays 1 = .ok (.iload_n 1, 1) := by decide +kernel
theorem dX3_countWays_2 : decode cX3_countWays 2 = .ok (.putfield 92, 3) := by decide +kernel
theorem tw_389 : Cond.fieldLink RX3 92 "LimpCode$Grid" "time" "I" ∈ TT := nx_mem 389 (by decide +kernel) (by decide +kernel)
theorem dX3_countWays_5 : decode cX3_countWays 5 = .ok (.aload_n 0, 1) := by decide +kernel
theorem dX3_countWays_6 : decode cX3_countWays 6 = .ok (.iload_n 2, 1) := by decide +kernel
theorem dX3_countWays_7 : decode cX3_countWays 7 = .ok (.putfield 95, 3) := by decide +kernel
theorem tw_390 : Cond.fieldLink RX3 95 "LimpCode$Grid" "missed" "I" ∈ TT := nx_mem 390 (by decide +kernel) (by decide +kernel)
theorem dX3_countWays_10 : decode cX3_countWays 10 = .ok (.iconst 0, 1) := by decide +kernel
theorem dX3_countWays_11 : decode cX3_countWays 11 = .ok (.istore_n 3, 1) := by decide +kernel
theorem dX3_countWays_12 : decode cX3_countWays 12 = .ok (.iload_n 3, 1) := by decide +kernel
theorem dX3_countWays_13 : decode cX3_countWays 13 = .ok (.iconst 2, 1) := by decide +kernel
theorem dX3_countWays_14 : decode cX3_countWays 14 = .ok (.aload_n 0, 1) := by decide +kernel
theorem dX3_countWays_15 : decode cX3_countWays 15 = .ok (.getfield 95, 3) := by decide +kernel
theorem dX3_countWays_18 : decode cX3_countWays 18 = .ok (.iconst 1, 1) := by decide +kernel
theorem dX3_countWays_19 : decode cX3_countWays 19 = .ok (.iadd, 1) := by decide +kernel
theorem dX3_countWays_20 : decode cX3_countWays 20 = .ok (.imul, 1) := by decide +kernel
theorem dX3_countWays_21 : decode cX3_countWays 21 = .ok (.if_icmp .ge 21, 3) := by decide +kernel
theorem dX3_countWays_24 : decode cX3_countWays 24 = .ok (.aload_n 0, 1) := by decide +kernel
theorem dX3_countWays_25 : decode cX3_countWays 25 = .ok (.getfield 11, 3) := by decide +kernel
theorem dX3_countWays_28 : decode cX3_countWays 28 = .ok (.iload_n 3, 1) := by decide +kernel
theorem dX3_countWays_29 : decode cX3_countWays 29 = .ok (.aaload, 1) := by decide +kernel
theorem dX3_countWays_30 : decode cX3_countWays 30 = .ok (.aload_n 0, 1) := by decide +kernel
theorem dX3_countWays_31 : decode cX3_countWays 31 = .ok (.getfield 92, 3) := by decide +kernel
theorem dX3_countWays_34 : decode cX3_countWays 34 = .ok (.lconst 1, 1) := by decide +kernel
theorem dX3_countWays_35 : decode cX3_countWays 35 = .ok (.lastore, 1) := by decide +kernel
theorem dX3_countWays_36 : decode cX3_countWays 36 = .ok (.iinc 3 1, 3) := by decide +kernel
theorem dX3_countWays_39 : decode cX3_countWays 39 = .ok (.goto (-27), 3) := by decide +kernel
theorem dX3_countWays_42 : decode cX3_countWays 42 = .ok (.aload_n 0, 1) := by decide +kernel
theorem dX3_countWays_43 : decode cX3_countWays 43 = .ok (.getfield 92, 3) := by decide +kernel
theorem dX3_countWays_46 : decode cX3_countWays 46 = .ok (.iconst 1, 1) := by decide +kernel
theorem dX3_countWays_47 : decode cX3_countWays 47 = .ok (.isub, 1) := by decide +kernel
theorem dX3_countWays_48 : decode cX3_countWays 48 = .ok (.istore_n 3, 1) := by decide +kernel
theorem dX3_countWays_49 : decode cX3_countWays 49 = .ok (.iload_n 3, 1) := by decide +kernel
theorem dX3_countWays_50 : decode cX3_countWays 50 = .ok (.ifCond .lt 53, 3) := by decide +kernel
theorem dX3_countWays_103 : decode cX3_countWays 103 = .ok (.aload_n 0, 1) := by decide +kernel
theorem dX3_countWays_104 : decode cX3_countWays 104 = .ok (.getfield 11, 3) := by decide +kernel
theorem dX3_countWays_107 : decode cX3_countWays 107 = .ok (.iconst 2, 1) := by decide +kernel
theorem dX3_countWays_108 : decode cX3_countWays 108 = .ok (.aload_n 0, 1) := by decide +kernel
theorem dX3_countWays_109 : decode cX3_countWays 109 = .ok (.getfield 95, 3) := by decide +kernel
theorem dX3_countWays_112 : decode cX3_countWays 112 = .ok (.imul, 1) := by decide +kernel
theorem dX3_countWays_113 : decode cX3_countWays 113 = .ok (.iconst 0, 1) := by decide +kernel
theorem dX3_countWays_114 : decode cX3_countWays 114 = .ok (.iadd, 1) := by decide +kernel
theorem dX3_countWays_115 : decode cX3_countWays 115 = .ok (.aaload, 1) := by decide +kernel
theorem dX3_countWays_116 : decode cX3_countWays 116 = .ok (.iconst 0, 1) := by decide +kernel
theorem dX3_countWays_117 : decode cX3_countWays 117 = .ok (.laload, 1) := by decide +kernel
theorem dX3_countWays_118 : decode cX3_countWays 118 = .ok (.lreturn, 1) := by decide +kernel
theorem dX3_countWays_53 : decode cX3_countWays 53 = .ok (.iconst 0, 1) := by decide +kernel
theorem dX3_countWays_54 : decode cX3_countWays 54 = .ok (.istore 4, 2) := by decide +kernel
theorem dX3_countWays_56 : decode cX3_countWays 56 = .ok (.iload 4, 2) := by decide +kernel
theorem dX3_countWays_58 : decode cX3_countWays 58 = .ok (.iconst 2, 1) := by decide +kernel
theorem dX3_countWays_59 : decode cX3_countWays 59 = .ok (.aload_n 0, 1) := by decide +kernel
theorem dX3_countWays_60 : decode cX3_countWays 60 = .ok (.getfield 95, 3) := by decide +kernel
theorem dX3_countWays_63 : decode cX3_countWays 63 = .ok (.iconst 1, 1) := by decide +kernel
theorem dX3_countWays_64 : decode cX3_countWays 64 = .ok (.iadd, 1) := by decide +kernel
theorem dX3_countWays_65 : decode cX3_countWays 65 = .ok (.imul, 1) := by decide +kernel
theorem dX3_countWays_66 : decode cX3_countWays 66 = .ok (.if_icmp .ge 31, 3) := by decide +kernel
theorem dX3_countWays_69 : decode cX3_countWays 69 = .ok (.aload_n 0, 1) := by decide +kernel
theorem dX3_countWays_70 : decode cX3_countWays 70 = .ok (.getfield 11, 3) := by decide +kernel
theorem dX3_countWays_73 : decode cX3_countWays 73 = .ok (.iload 4, 2) := by decide +kernel
theorem dX3_countWays_75 : decode cX3_countWays 75 = .ok (.aaload, 1) := by decide +kernel
theorem dX3_countWays_76 : decode cX3_countWays 76 = .ok (.iload_n 3, 1) := by decide +kernel
theorem dX3_countWays_77 : decode cX3_countWays 77 = .ok (.aload_n 0, 1) := by decide +kernel
theorem dX3_countWays_78 : decode cX3_countWays 78 = .ok (.iload_n 3, 1) := by decide +kernel
theorem dX3_countWays_79 : decode cX3_countWays 79 = .ok (.iload 4, 2) := by decide +kernel
theorem dX3_countWays_81 : decode cX3_countWays 81 = .ok (.iconst 2, 1) := by decide +kernel
theorem dX3_countWays_82 : decode cX3_countWays 82 = .ok (.irem, 1) := by decide +kernel
theorem dX3_countWays_83 : decode cX3_countWays 83 = .ok (.iload 4, 2) := by decide +kernel
theorem dX3_countWays_85 : decode cX3_countWays 85 = .ok (.iconst 2, 1) := by decide +kernel
theorem dX3_countWays_86 : decode cX3_countWays 86 = .ok (.idiv, 1) := by decide +kernel
theorem dX3_countWays_87 : decode cX3_countWays 87 = .ok (.invokevirtual 98, 3) := by decide +kernel
theorem tw_871 : Cond.methodLink RX3 98 yX3_sumOfWays ∈ TT := nx_mem 871 (by decide +kernel) (by decide +kernel)
theorem tw_873 : Cond.instanceMethod yX3_sumOfWays ∈ TT := nx_mem 873 (by decide +kernel) (by decide +kernel)
theorem tw_20 : Cond.selects RX3 yX3_sumOfWays yX3_sumOfWays ∈ TT := nx_mem 20 (by decide +kernel) (by decide +kernel)
theorem tw_874 : Cond.code yX3_sumOfWays cX3_sumOfWays 7 (some .long) ∈ TT := nx_mem 874 (by decide +kernel) (by decide +kernel)
theorem dX3_countWays_90 : decode cX3_countWays 90 = .ok (.lastore, 1) := by decide +kernel
theorem dX3_countWays_91 : decode cX3_countWays 91 = .ok (.iinc 4 1, 3) := by decide +kernel
theorem dX3_countWays_94 : decode cX3_countWays 94 = .ok (.goto (-38), 3) := by decide +kernel
theorem dX3_countWays_97 : decode cX3_countWays 97 = .ok (.iinc 3 (-1), 3) := by decide +kernel
theorem dX3_countWays_100 : decode cX3_countWays 100 = .ok (.goto (-51), 3) := by decide +kernel
theorem dX3_layFirst_0 : decode cX3_layFirst 0 = .ok (.iconst 0, 1) := by decide +kernel
theorem dX3_layFirst_1 : decode cX3_layFirst 1 = .ok (.istore_n 2, 1) := by decide +kernel
theorem dX3_layFirst_2 : decode cX3_layFirst 2 = .ok (.iconst 0, 1) := by decide +kernel
theorem dX3_layFirst_3 : decode cX3_layFirst 3 = .ok (.istore_n 3, 1) := by decide +kernel
theorem dX3_layFirst_4 : decode cX3_layFirst 4 = .ok (.aload_n 0, 1) := by decide +kernel
theorem dX3_layFirst_5 : decode cX3_layFirst 5 = .ok (.getfield 95, 3) := by decide +kernel
theorem dX3_layFirst_8 : decode cX3_layFirst 8 = .ok (.istore 4, 2) := by decide +kernel
theorem dX3_layFirst_10 : decode cX3_layFirst 10 = .ok (.iconst 0, 1) := by decide +kernel
theorem dX3_layFirst_11 : decode cX3_layFirst 11 = .ok (.istore 5, 2) := by decide +kernel
theorem dX3_layFirst_13 : decode cX3_layFirst 13 = .ok (.iload_n 2, 1) := by decide +kernel
theorem dX3_layFirst_14 : decode cX3_layFirst 14 = .ok (.aload_n 0, 1) := by decide +kernel
theorem dX3_layFirst_15 : decode cX3_layFirst 15 = .ok (.getfield 92, 3) := by decide +kernel
theorem dX3_layFirst_18 : decode cX3_layFirst 18 = .ok (.if_icmp .ge 75, 3) := by decide +kernel
theorem dX3_layFirst_93 : decode cX3_layFirst 93 = .ok (.iload 5, 2) := by decide +kernel
theorem dX3_layFirst_95 : decode cX3_layFirst 95 = .ok (.ireturn, 1) := by decide +kernel
theorem dX11_countAndLay_0 : decode cX11_countAndLay 0 = .ok (.aload_n 1, 1) := by decide +kernel
theorem dX11_countAndLay_1 : decode cX11_countAndLay 1 = .ok (.iload_n 2, 1) := by decide +kernel
theorem dX11_countAndLay_2 : decode cX11_countAndLay 2 = .ok (.iload_n 3, 1) := by decide +kernel
theorem dX11_countAndLay_3 : decode cX11_countAndLay 3 = .ok (.invokevirtual 251, 3) := by decide +kernel
theorem tw_867 : Cond.methodLink RX11 251 yX3_countWays ∈ TT := nx_mem 867 (by decide +kernel) (by decide +kernel)
theorem tw_868 : Cond.instanceMethod yX3_countWays ∈ TT := nx_mem 868 (by decide +kernel) (by decide +kernel)
theorem tw_869 : Cond.selects RX3 yX3_countWays yX3_countWays ∈ TT := nx_mem 869 (by decide +kernel) (by decide +kernel)
theorem tw_870 : Cond.code yX3_countWays cX3_countWays 5 (some .long) ∈ TT := nx_mem 870 (by decide +kernel) (by decide +kernel)
theorem dX11_countAndLay_6 : decode cX11_countAndLay 6 = .ok (.lstore 4, 2) := by decide +kernel
theorem dX11_countAndLay_8 : decode cX11_countAndLay 8 = .ok (.aload_n 0, 1) := by decide +kernel
theorem dX11_countAndLay_9 : decode cX11_countAndLay 9 = .ok (.lload 4, 2) := by decide +kernel
theorem dX11_countAndLay_11 : decode cX11_countAndLay 11 = .ok (.lconst 0, 1) := by decide +kernel
theorem dX11_countAndLay_12 : decode cX11_countAndLay 12 = .ok (.lcmp, 1) := by decide +kernel
theorem dX11_countAndLay_13 : decode cX11_countAndLay 13 = .ok (.ifCond .ne 7, 3) := by decide +kernel
theorem dX11_countAndLay_20 : decode cX11_countAndLay 20 = .ok (.aload_n 1, 1) := by decide +kernel
theorem dX11_countAndLay_21 : decode cX11_countAndLay 21 = .ok (.aload_n 0, 1) := by decide +kernel
theorem dX11_countAndLay_22 : decode cX11_countAndLay 22 = .ok (.getfield 105, 3) := by decide +kernel
theorem dX11_countAndLay_25 : decode cX11_countAndLay 25 = .ok (.invokevirtual 316, 3) := by decide +kernel
theorem tw_883 : Cond.methodLink RX11 316 yX3_layFirst ∈ TT := nx_mem 883 (by decide +kernel) (by decide +kernel)
theorem tw_884 : Cond.instanceMethod yX3_layFirst ∈ TT := nx_mem 884 (by decide +kernel) (by decide +kernel)
theorem tw_885 : Cond.selects RX3 yX3_layFirst yX3_layFirst ∈ TT := nx_mem 885 (by decide +kernel) (by decide +kernel)
theorem tw_886 : Cond.code yX3_layFirst cX3_layFirst 7 (some .int) ∈ TT := nx_mem 886 (by decide +kernel) (by decide +kernel)
theorem dX11_countAndLay_28 : decode cX11_countAndLay 28 = .ok (.putfield 143, 3) := by decide +kernel
theorem dX11_countAndLay_31 : decode cX11_countAndLay 31 = .ok (.lload 4, 2) := by decide +kernel
theorem dX11_countAndLay_33 : decode cX11_countAndLay 33 = .ok (.lreturn, 1) := by decide +kernel
theorem dX11_countAndLay_16 : decode cX11_countAndLay 16 = .ok (.iconst 0, 1) := by decide +kernel
theorem dX11_countAndLay_17 : decode cX11_countAndLay 17 = .ok (.goto 11, 3) := by decide +kernel
theorem dX11_timed_0 : decode cX11_timed 0 = .ok (.iload_n 1, 1) := by decide +kernel
theorem dX11_timed_1 : decode cX11_timed 1 = .ok (.ifCond .lt 9, 3) := by decide +kernel
theorem dX11_timed_10 : decode cX11_timed 10 = .ok (.ldc2_w 176, 3) := by decide +kernel
theorem dX11_timed_13 : decode cX11_timed 13 = .ok (.lreturn, 1) := by decide +kernel
theorem dX11_timed_4 : decode cX11_timed 4 = .ok (.iload_n 1, 1) := by decide +kernel
theorem dX11_timed_5 : decode cX11_timed 5 = .ok (.bipush 31, 2) := by decide +kernel
theorem dX11_timed_7 : decode cX11_timed 7 = .ok (.if_icmp .le 7, 3) := by decide +kernel
theorem dX11_timed_14 : decode cX11_timed 14 = .ok (.aload_n 0, 1) := by decide +kernel
theorem dX11_timed_15 : decode cX11_timed 15 = .ok (.getfield 70, 3) := by decide +kernel
theorem dX11_timed_18 : decode cX11_timed 18 = .ok (.aload_n 0, 1) := by decide +kernel
theorem dX11_timed_19 : decode cX11_timed 19 = .ok (.getfield 26, 3) := by decide +kernel
theorem dX11_timed_22 : decode cX11_timed 22 = .ok (.iload_n 2, 1) := by decide +kernel
theorem dX11_timed_23 : decode cX11_timed 23 = .ok (.iload_n 1, 1) := by decide +kernel
theorem dX11_timed_24 : decode cX11_timed 24 = .ok (.invokevirtual 247, 3) := by decide +kernel
theorem tw_1021 : Cond.methodLink RX11 247 yX3_fillTimed ∈ TT := nx_mem 1021 (by decide +kernel) (by decide +kernel)
theorem tw_1022 : Cond.instanceMethod yX3_fillTimed ∈ TT := nx_mem 1022 (by decide +kernel) (by decide +kernel)
theorem tw_1023 : Cond.selects RX3 yX3_fillTimed yX3_fillTimed ∈ TT := nx_mem 1023 (by decide +kernel) (by decide +kernel)
theorem tw_1024 : Cond.code yX3_fillTimed cX3_fillTimed 8 none ∈ TT := nx_mem 1024 (by decide +kernel) (by decide +kernel)
theorem dX11_timed_27 : decode cX11_timed 27 = .ok (.aload_n 0, 1) := by decide +kernel
theorem dX11_timed_28 : decode cX11_timed 28 = .ok (.getfield 74, 3) := by decide +kernel
theorem dX11_timed_31 : decode cX11_timed 31 = .ok (.aload_n 0, 1) := by decide +kernel
theorem dX11_timed_32 : decode cX11_timed 32 = .ok (.getfield 26, 3) := by decide +kernel
theorem dX11_timed_35 : decode cX11_timed 35 = .ok (.aload_n 0, 1) := by decide +kernel
theorem dX11_timed_36 : decode cX11_timed 36 = .ok (.getfield 70, 3) := by decide +kernel
theorem dX11_timed_39 : decode cX11_timed 39 = .ok (.sipush 1023, 3) := by decide +kernel
theorem dX11_timed_42 : decode cX11_timed 42 = .ok (.iload_n 1, 1) := by decide +kernel
theorem dX11_timed_43 : decode cX11_timed 43 = .ok (.invokevirtual 195, 3) := by decide +kernel
theorem tw_855 : Cond.methodLink RX11 195 yX3_fillLetters ∈ TT := nx_mem 855 (by decide +kernel) (by decide +kernel)
theorem tw_856 : Cond.instanceMethod yX3_fillLetters ∈ TT := nx_mem 856 (by decide +kernel) (by decide +kernel)
theorem tw_857 : Cond.selects RX3 yX3_fillLetters yX3_fillLetters ∈ TT := nx_mem 857 (by decide +kernel) (by decide +kernel)
theorem tw_858 : Cond.code yX3_fillLetters cX3_fillLetters 9 none ∈ TT := nx_mem 858 (by decide +kernel) (by decide +kernel)
theorem dX11_timed_46 : decode cX11_timed 46 = .ok (.aload_n 0, 1) := by decide +kernel
theorem dX11_timed_47 : decode cX11_timed 47 = .ok (.getfield 74, 3) := by decide +kernel
theorem dX11_timed_50 : decode cX11_timed 50 = .ok (.iload_n 1, 1) := by decide +kernel
theorem dX11_timed_51 : decode cX11_timed 51 = .ok (.iconst 0, 1) := by decide +kernel
theorem dX11_timed_52 : decode cX11_timed 52 = .ok (.invokevirtual 251, 3) := by decide +kernel
theorem dX11_timed_55 : decode cX11_timed 55 = .ok (.lreturn, 1) := by decide +kernel
theorem dX0_open_0 : decode cX0_open 0 = .ok (.iconst 0, 1) := by decide +kernel
theorem dX0_open_1 : decode cX0_open 1 = .ok (.istore_n 1, 1) := by decide +kernel
theorem dX0_open_2 : decode cX0_open 2 = .ok (.iload_n 1, 1) := by decide +kernel
theorem dX0_open_3 : decode cX0_open 3 = .ok (.iconst 4, 1) := by decide +kernel
theorem dX0_open_4 : decode cX0_open 4 = .ok (.if_icmp .ge 16, 3) := by decide +kernel
theorem dX0_open_7 : decode cX0_open 7 = .ok (.aload_n 0, 1) := by decide +kernel
theorem dX0_open_8 : decode cX0_open 8 = .ok (.getfield 19, 3) := by decide +kernel
theorem dX0_open_11 : decode cX0_open 11 = .ok (.iload_n 1, 1) := by decide +kernel
theorem dX0_open_12 : decode cX0_open 12 = .ok (.iconst 0, 1) := by decide +kernel
theorem dX0_open_13 : decode cX0_open 13 = .ok (.bastore, 1) := by decide +kernel
theorem dX0_open_14 : decode cX0_open 14 = .ok (.iinc 1 1, 3) := by decide +kernel
theorem dX0_open_17 : decode cX0_open 17 = .ok (.goto (-15), 3) := by decide +kernel
theorem dX0_open_20 : decode cX0_open 20 = .ok (.return_, 1) := by decide +kernel
theorem dX0_areQuietFrom_0 : decode cX0_areQuietFrom 0 = .ok (.iconst 0, 1) := by decide +kernel
theorem dX0_areQuietFrom_1 : decode cX0_areQuietFrom 1 = .ok (.istore_n 2, 1) := by decide +kernel
theorem dX0_areQuietFrom_2 : decode cX0_areQuietFrom 2 = .ok (.iload_n 2, 1) := by decide +kernel
theorem dX0_areQuietFrom_3 : decode cX0_areQuietFrom 3 = .ok (.iconst 4, 1) := by decide +kernel
theorem dX0_areQuietFrom_4 : decode cX0_areQuietFrom 4 = .ok (.if_icmp .ge 31, 3) := by decide +kernel
theorem dX0_areQuietFrom_7 : decode cX0_areQuietFrom 7 = .ok (.aload_n 0, 1) := by decide +kernel
theorem dX0_areQuietFrom_8 : decode cX0_areQuietFrom 8 = .ok (.getfield 19, 3) := by decide +kernel
theorem dX0_areQuietFrom_11 : decode cX0_areQuietFrom 11 = .ok (.iload_n 2, 1) := by decide +kernel
theorem dX0_areQuietFrom_12 : decode cX0_areQuietFrom 12 = .ok (.baload, 1) := by decide +kernel
theorem dX0_areQuietFrom_13 : decode cX0_areQuietFrom 13 = .ok (.ifCond .eq 16, 3) := by decide +kernel
theorem dX0_areQuietFrom_29 : decode cX0_areQuietFrom 29 = .ok (.iinc 2 1, 3) := by decide +kernel
theorem dX0_areQuietFrom_32 : decode cX0_areQuietFrom 32 = .ok (.goto (-30), 3) := by decide +kernel
theorem dX0_areQuietFrom_35 : decode cX0_areQuietFrom 35 = .ok (.iconst 1, 1) := by decide +kernel
theorem dX0_areQuietFrom_36 : decode cX0_areQuietFrom 36 = .ok (.ireturn, 1) := by decide +kernel
theorem dX8_narrowAsKnown_0 : decode cX8_narrowAsKnown 0 = .ok (.iconst 0, 1) := by decide +kernel
theorem dX8_narrowAsKnown_1 : decode cX8_narrowAsKnown 1 = .ok (.istore_n 3, 1) := by decide +kernel
theorem dX8_narrowAsKnown_2 : decode cX8_narrowAsKnown 2 = .ok (.iload_n 3, 1) := by decide +kernel
theorem dX8_narrowAsKnown_3 : decode cX8_narrowAsKnown 3 = .ok (.aload_n 0, 1) := by decide +kernel
theorem dX8_narrowAsKnown_4 : decode cX8_narrowAsKnown 4 = .ok (.getfield 30, 3) := by decide +kernel
theorem dX8_narrowAsKnown_7 : decode cX8_narrowAsKnown 7 = .ok (.if_icmp .ge 80, 3) := by decide +kernel
theorem dX8_narrowAsKnown_87 : decode cX8_narrowAsKnown 87 = .ok (.return_, 1) := by decide +kernel
theorem dX11_fillMeant_0 : decode cX11_fillMeant 0 = .ok (.aload_n 0, 1) := by decide +kernel
theorem dX11_fillMeant_1 : decode cX11_fillMeant 1 = .ok (.getfield 61, 3) := by decide +kernel
theorem dX11_fillMeant_4 : decode cX11_fillMeant 4 = .ok (.invokevirtual 178, 3) := by decide +kernel
theorem tw_816 : Cond.methodLink RX11 178 yX0_open ∈ TT := nx_mem 816 (by decide +kernel) (by decide +kernel)
theorem tw_817 : Cond.instanceMethod yX0_open ∈ TT := nx_mem 817 (by decide +kernel) (by decide +kernel)
theorem tw_818 : Cond.selects RX0 yX0_open yX0_open ∈ TT := nx_mem 818 (by decide +kernel) (by decide +kernel)
theorem tw_819 : Cond.code yX0_open cX0_open 2 none ∈ TT := nx_mem 819 (by decide +kernel) (by decide +kernel)
theorem dX11_fillMeant_7 : decode cX11_fillMeant 7 = .ok (.aload_n 0, 1) := by decide +kernel
theorem dX11_fillMeant_8 : decode cX11_fillMeant 8 = .ok (.getfield 54, 3) := by decide +kernel
theorem dX11_fillMeant_11 : decode cX11_fillMeant 11 = .ok (.aload_n 0, 1) := by decide +kernel
theorem dX11_fillMeant_12 : decode cX11_fillMeant 12 = .ok (.getfield 61, 3) := by decide +kernel
theorem dX11_fillMeant_15 : decode cX11_fillMeant 15 = .ok (.iload_n 2, 1) := by decide +kernel
theorem dX11_fillMeant_16 : decode cX11_fillMeant 16 = .ok (.invokevirtual 292, 3) := by decide +kernel
theorem tw_1098 : Cond.methodLink RX11 292 yX8_narrowAsKnown ∈ TT := nx_mem 1098 (by decide +kernel) (by decide +kernel)
theorem tw_1099 : Cond.instanceMethod yX8_narrowAsKnown ∈ TT := nx_mem 1099 (by decide +kernel) (by decide +kernel)
theorem tw_1100 : Cond.selects RX8 yX8_narrowAsKnown yX8_narrowAsKnown ∈ TT := nx_mem 1100 (by decide +kernel) (by decide +kernel)
theorem tw_1101 : Cond.code yX8_narrowAsKnown cX8_narrowAsKnown 5 none ∈ TT := nx_mem 1101 (by decide +kernel) (by decide +kernel)
theorem dX11_fillMeant_19 : decode cX11_fillMeant 19 = .ok (.aload_n 0, 1) := by decide +kernel
theorem dX11_fillMeant_20 : decode cX11_fillMeant 20 = .ok (.getfield 61, 3) := by decide +kernel
theorem dX11_fillMeant_23 : decode cX11_fillMeant 23 = .ok (.iload_n 1, 1) := by decide +kernel
theorem dX11_fillMeant_24 : decode cX11_fillMeant 24 = .ok (.invokevirtual 296, 3) := by decide +kernel
theorem tw_1103 : Cond.methodLink RX11 296 yX0_areQuietFrom ∈ TT := nx_mem 1103 (by decide +kernel) (by decide +kernel)
theorem tw_1104 : Cond.instanceMethod yX0_areQuietFrom ∈ TT := nx_mem 1104 (by decide +kernel) (by decide +kernel)
theorem tw_1105 : Cond.selects RX0 yX0_areQuietFrom yX0_areQuietFrom ∈ TT := nx_mem 1105 (by decide +kernel) (by decide +kernel)
theorem tw_1106 : Cond.code yX0_areQuietFrom cX0_areQuietFrom 3 (some .boolean) ∈ TT := nx_mem 1106 (by decide +kernel) (by decide +kernel)
theorem dX11_fillMeant_27 : decode cX11_fillMeant 27 = .ok (.ifCond .ne 5, 3) := by decide +kernel
theorem dX11_fillMeant_32 : decode cX11_fillMeant 32 = .ok (.aload_n 0, 1) := by decide +kernel
theorem dX11_fillMeant_33 : decode cX11_fillMeant 33 = .ok (.getfield 70, 3) := by decide +kernel
theorem dX11_fillMeant_36 : decode cX11_fillMeant 36 = .ok (.aload_n 0, 1) := by decide +kernel
theorem dX11_fillMeant_37 : decode cX11_fillMeant 37 = .ok (.getfield 26, 3) := by decide +kernel
theorem dX11_fillMeant_40 : decode cX11_fillMeant 40 = .ok (.aload_n 0, 1) := by decide +kernel
theorem dX11_fillMeant_41 : decode cX11_fillMeant 41 = .ok (.getfield 36, 3) := by decide +kernel
theorem dX11_fillMeant_44 : decode cX11_fillMeant 44 = .ok (.getfield 185, 3) := by decide +kernel
theorem tw_273 : Cond.fieldLink RX11 185 "LimpCode$Earnest" "loud" "[I" ∈ TT := nx_mem 273 (by decide +kernel) (by decide +kernel)
theorem dX11_fillMeant_47 : decode cX11_fillMeant 47 = .ok (.aload_n 0, 1) := by decide +kernel
theorem dX11_fillMeant_48 : decode cX11_fillMeant 48 = .ok (.getfield 61, 3) := by decide +kernel
theorem dX11_fillMeant_51 : decode cX11_fillMeant 51 = .ok (.iload_n 1, 1) := by decide +kernel
theorem dX11_fillMeant_52 : decode cX11_fillMeant 52 = .ok (.invokevirtual 188, 3) := by decide +kernel
theorem tw_833 : Cond.methodLink RX11 188 yX3_fillSteps ∈ TT := nx_mem 833 (by decide +kernel) (by decide +kernel)
theorem tw_834 : Cond.instanceMethod yX3_fillSteps ∈ TT := nx_mem 834 (by decide +kernel) (by decide +kernel)
theorem tw_835 : Cond.selects RX3 yX3_fillSteps yX3_fillSteps ∈ TT := nx_mem 835 (by decide +kernel) (by decide +kernel)
theorem tw_836 : Cond.code yX3_fillSteps cX3_fillSteps 8 none ∈ TT := nx_mem 836 (by decide +kernel) (by decide +kernel)
theorem dX11_fillMeant_55 : decode cX11_fillMeant 55 = .ok (.aload_n 0, 1) := by decide +kernel
theorem dX11_fillMeant_56 : decode cX11_fillMeant 56 = .ok (.getfield 74, 3) := by decide +kernel
theorem dX11_fillMeant_59 : decode cX11_fillMeant 59 = .ok (.aload_n 0, 1) := by decide +kernel
theorem dX11_fillMeant_60 : decode cX11_fillMeant 60 = .ok (.getfield 26, 3) := by decide +kernel
theorem dX11_fillMeant_63 : decode cX11_fillMeant 63 = .ok (.aload_n 0, 1) := by decide +kernel
theorem dX11_fillMeant_64 : decode cX11_fillMeant 64 = .ok (.getfield 70, 3) := by decide +kernel
theorem dX11_fillMeant_67 : decode cX11_fillMeant 67 = .ok (.sipush 1023, 3) := by decide +kernel
theorem dX11_fillMeant_70 : decode cX11_fillMeant 70 = .ok (.iload_n 1, 1) := by decide +kernel
theorem dX11_fillMeant_71 : decode cX11_fillMeant 71 = .ok (.invokevirtual 195, 3) := by decide +kernel
theorem dX11_fillMeant_74 : decode cX11_fillMeant 74 = .ok (.iconst 1, 1) := by decide +kernel
theorem dX11_fillMeant_75 : decode cX11_fillMeant 75 = .ok (.ireturn, 1) := by decide +kernel
theorem dX11_meant_0 : decode cX11_meant 0 = .ok (.aload_n 0, 1) := by decide +kernel
theorem dX11_meant_1 : decode cX11_meant 1 = .ok (.iconst 0, 1) := by decide +kernel
theorem dX11_meant_2 : decode cX11_meant 2 = .ok (.putfield 143, 3) := by decide +kernel
theorem dX11_meant_5 : decode cX11_meant 5 = .ok (.iload_n 1, 1) := by decide +kernel
theorem dX11_meant_6 : decode cX11_meant 6 = .ok (.ifCond .lt 9, 3) := by decide +kernel
theorem dX11_meant_15 : decode cX11_meant 15 = .ok (.ldc2_w 176, 3) := by decide +kernel
theorem dX11_meant_18 : decode cX11_meant 18 = .ok (.lreturn, 1) := by decide +kernel
theorem dX11_meant_9 : decode cX11_meant 9 = .ok (.iload_n 1, 1) := by decide +kernel
theorem dX11_meant_10 : decode cX11_meant 10 = .ok (.bipush 60, 2) := by decide +kernel
theorem dX11_meant_12 : decode cX11_meant 12 = .ok (.if_icmp .le 7, 3) := by decide +kernel
theorem dX11_meant_19 : decode cX11_meant 19 = .ok (.aload_n 0, 1) := by decide +kernel
theorem dX11_meant_20 : decode cX11_meant 20 = .ok (.iload_n 1, 1) := by decide +kernel
theorem dX11_meant_21 : decode cX11_meant 21 = .ok (.iload_n 2, 1) := by decide +kernel
theorem dX11_meant_22 : decode cX11_meant 22 = .ok (.invokevirtual 286, 3) := by decide +kernel
theorem tw_1094 : Cond.methodLink RX11 286 yX11_fillMeant ∈ TT := nx_mem 1094 (by decide +kernel) (by decide +kernel)
theorem tw_1096 : Cond.instanceMethod yX11_fillMeant ∈ TT := nx_mem 1096 (by decide +kernel) (by decide +kernel)
theorem tw_34 : Cond.selects RX11 yX11_fillMeant yX11_fillMeant ∈ TT := nx_mem 34 (by decide +kernel) (by decide +kernel)
theorem tw_1097 : Cond.code yX11_fillMeant cX11_fillMeant 3 (some .boolean) ∈ TT := nx_mem 1097 (by decide +kernel) (by decide +kernel)
theorem dX11_meant_25 : decode cX11_meant 25 = .ok (.ifCond .eq 16, 3) := by decide +kernel
theorem dX11_meant_28 : decode cX11_meant 28 = .ok (.aload_n 0, 1) := by decide +kernel
theorem dX11_meant_29 : decode cX11_meant 29 = .ok (.aload_n 0, 1) := by decide +kernel
theorem dX11_meant_30 : decode cX11_meant 30 = .ok (.getfield 74, 3) := by decide +kernel
theorem dX11_meant_33 : decode cX11_meant 33 = .ok (.iload_n 1, 1) := by decide +kernel
theorem dX11_meant_34 : decode cX11_meant 34 = .ok (.iconst 0, 1) := by decide +kernel
theorem dX11_meant_35 : decode cX11_meant 35 = .ok (.invokevirtual 199, 3) := by decide +kernel
theorem tw_863 : Cond.methodLink RX11 199 yX11_countAndLay ∈ TT := nx_mem 863 (by decide +kernel) (by decide +kernel)
theorem tw_865 : Cond.instanceMethod yX11_countAndLay ∈ TT := nx_mem 865 (by decide +kernel) (by decide +kernel)
theorem tw_19 : Cond.selects RX11 yX11_countAndLay yX11_countAndLay ∈ TT := nx_mem 19 (by decide +kernel) (by decide +kernel)
theorem tw_866 : Cond.code yX11_countAndLay cX11_countAndLay 6 (some .long) ∈ TT := nx_mem 866 (by decide +kernel) (by decide +kernel)
theorem dX11_meant_38 : decode cX11_meant 38 = .ok (.goto 4, 3) := by decide +kernel
theorem dX11_meant_42 : decode cX11_meant 42 = .ok (.lreturn, 1) := by decide +kernel
set_option maxHeartbeats 4000000 in
set_option maxRecDepth 100000 in
theorem c_X3_takeSteps (l : Launch) (g : va_G) (kA : Nat → ClassId) (h0 : Nat) (a0 : Nat) (a1 : Nat) (a2 : Nat) (a3 : Nat) (a4 : Nat) (a5 : Nat) (a6 : Nat) (a7 : Nat) (s : Nat) (c0 : Nat) (c1 : Nat) (c2 : Nat) (c3 : Nat) (c4 : Nat) (c5 : Nat) (c6 : Nat) (c7 : Nat) (c8 : Nat) (c9 : Nat) (c10 : Nat) (c11 : Nat)  : CtV l yX3_takeSteps cX3_takeSteps 3 (none) 2 0 0 g kA [.ref h0, .ref s] [(h0, .inr (3, [.ref a0, .ref a1, .ref a2, .ref a3, .ref a4, .ref a5, .ref a6, .ref a7, .int 0, .int 0, .int 0])), (s, .inr (5, [.ref c0, .ref c1, .ref c2, .ref c3, .ref c4, .ref c5, .ref c6, .ref c7, .ref c8, .ref c9, .ref c10, .ref c11, .int 0, .int 0, .int 0]))] (S := Unit) (fun (_ : Unit) => True) (fun (_ : Unit) => [(h0, .inr (3, [.ref a0, .ref a1, .ref a2, .ref a3, .ref a4, .ref a5, .ref a6, .ref a7, .int 0, .int 0, .int 0])), (s, .inr (5, [.ref c0, .ref c1, .ref c2, .ref c3, .ref c4, .ref c5, .ref c6, .ref c7, .ref c8, .ref c9, .ref c10, .ref c11, .int 0, .int 0, .int 0]))]) := by
  refine nx_startV (by decide +kernel) (Nat.le_of_ble_eq_true rfl) ?_
  intro x hnm h hq
  have h : Ok x cX3_takeSteps RX3 kA (rmC 2 0 0) 3 := h
  show J x [(h0, .inr (3, [.ref a0, .ref a1, .ref a2, .ref a3, .ref a4, .ref a5, .ref a6, .ref a7, .int 0, .int 0, .int 0])), (s, .inr (5, [.ref c0, .ref c1, .ref c2, .ref c3, .ref c4, .ref c5, .ref c6, .ref c7, .ref c8, .ref c9, .ref c10, .ref c11, .int 0, .int 0, .int 0]))] [(0, .ref h0), (1, .ref s)] 0 0 0 []
  refine j_aload_n h 0 rfl rfl dX3_takeSteps_0 ?_
  refine j_aload_n h 1 rfl rfl dX3_takeSteps_1 ?_
  refine j_get h iw_X5 1 rfl rfl 12 (by decide) tw_220 rfl dX3_takeSteps_2 ?_
  refine j_put (ws' := [(h0, .inr (3, [.ref a0, .ref a1, .ref a2, .ref a3, .ref a4, .ref a5, .ref a6, .ref a7, .int 0, .int 0, .int 0])), (s, .inr (5, [.ref c0, .ref c1, .ref c2, .ref c3, .ref c4, .ref c5, .ref c6, .ref c7, .ref c8, .ref c9, .ref c10, .ref c11, .int 0, .int 0, .int 0]))]) h iw_X3 tyX3 tyX3_ok nmX3 0 rfl rfl 8 (by decide) tw_387 rfl rfl rfl (Nat.le_of_ble_eq_true rfl) dX3_takeSteps_5 rfl ?_
  refine j_iconst (v := 0) h (by decide) dX3_takeSteps_8 ?_
  refine j_istore_n (lv' := [(2, .int 0), (0, .ref h0), (1, .ref s)]) h dX3_takeSteps_9 rfl (by decide) rfl ?_
  refine j_iload_n h 0 rfl rfl dX3_takeSteps_10 ?_
  refine j_aload_n h 1 rfl rfl dX3_takeSteps_11 ?_
  refine j_get h iw_X3 0 rfl rfl 8 (by decide) tw_387 rfl dX3_takeSteps_12 ?_
  refine j_icmp_ge h 64 dX3_takeSteps_15 (by decide) (fun _ => ?_) (fun q => absurd (by decide) q)
  exact j_vret h hq dX3_takeSteps_64 () [0, 1] rfl rfl (by decide) trivial (Nat.le_of_ble_eq_true rfl) (Nat.le_of_ble_eq_true rfl)
set_option maxHeartbeats 4000000 in
set_option maxRecDepth 100000 in
theorem c_X3_fillTimed (l : Launch) (g : va_G) (kA : Nat → ClassId) (h0 : Nat) (a0 : Nat) (a1 : Nat) (a2 : Nat) (a3 : Nat) (a4 : Nat) (a5 : Nat) (a6 : Nat) (a7 : Nat) (s : Nat) (c0 : Nat) (c1 : Nat) (c2 : Nat) (c3 : Nat) (c4 : Nat) (c5 : Nat) (c6 : Nat) (c7 : Nat) (c8 : Nat) (c9 : Nat) (c10 : Nat) (c11 : Nat) (z : Int32) (t : Int32)  : CtV l yX3_fillTimed cX3_fillTimed 8 (none) 3 0 0 g kA [.ref h0, .ref s, .int z, .int t] [(h0, .inr (3, [.ref a0, .ref a1, .ref a2, .ref a3, .ref a4, .ref a5, .ref a6, .ref a7, .int 0, .int 0, .int 0])), (s, .inr (5, [.ref c0, .ref c1, .ref c2, .ref c3, .ref c4, .ref c5, .ref c6, .ref c7, .ref c8, .ref c9, .ref c10, .ref c11, .int 0, .int 0, .int 0]))] (S := Unit) (fun (_ : Unit) => True) (fun (_ : Unit) => [(h0, .inr (3, [.ref a0, .ref a1, .ref a2, .ref a3, .ref a4, .ref a5, .ref a6, .ref a7, .int 0, .int 0, .int 0])), (s, .inr (5, [.ref c0, .ref c1, .ref c2, .ref c3, .ref c4, .ref c5, .ref c6, .ref c7, .ref c8, .ref c9, .ref c10, .ref c11, .int 0, .int 0, .int 0]))]) := by
  refine nx_startV (by decide +kernel) (Nat.le_of_ble_eq_true rfl) ?_
  intro x hnm h hq
  have h : Ok x cX3_fillTimed RX3 kA (rmC 3 0 0) 8 := h
  show J x [(h0, .inr (3, [.ref a0, .ref a1, .ref a2, .ref a3, .ref a4, .ref a5, .ref a6, .ref a7, .int 0, .int 0, .int 0])), (s, .inr (5, [.ref c0, .ref c1, .ref c2, .ref c3, .ref c4, .ref c5, .ref c6, .ref c7, .ref c8, .ref c9, .ref c10, .ref c11, .int 0, .int 0, .int 0]))] [(0, .ref h0), (1, .ref s), (2, .int z), (3, .int t)] 0 0 0 []
  refine j_aload_n h 0 rfl rfl dX3_fillTimed_0 ?_
  refine j_aload_n h 1 rfl rfl dX3_fillTimed_1 ?_
  refine j_callVv (np := 1) (isC := [0, 1]) (isR := []) (wc := [(h0, .inr (3, [.ref a0, .ref a1, .ref a2, .ref a3, .ref a4, .ref a5, .ref a6, .ref a7, .int 0, .int 0, .int 0])), (s, .inr (5, [.ref c0, .ref c1, .ref c2, .ref c3, .ref c4, .ref c5, .ref c6, .ref c7, .ref c8, .ref c9, .ref c10, .ref c11, .int 0, .int 0, .int 0]))]) (wr := []) (rest := []) (As := [.ref s]) (q0 := 0) h (c_X3_takeSteps _ _ kA h0 a0 a1 a2 a3 a4 a5 a6 a7 s c0 c1 c2 c3 c4 c5 c6 c7 c8 c9 c10 c11 ) tw_837 tw_839 tw_16 tw_95 tw_840 (by decide +kernel) rfl ⟨Nat.le_of_ble_eq_true rfl, Nat.le_of_ble_eq_true rfl⟩ rfl rfl rfl (by decide) rfl rfl (by decide) (by decide) (Nat.le_of_ble_eq_true rfl) rfl ⟨Nat.le_of_ble_eq_true rfl, Nat.le_of_ble_eq_true rfl⟩ dX3_fillTimed_2 ?_
  rintro _ e296
  show J x [(h0, .inr (3, [.ref a0, .ref a1, .ref a2, .ref a3, .ref a4, .ref a5, .ref a6, .ref a7, .int 0, .int 0, .int 0])), (s, .inr (5, [.ref c0, .ref c1, .ref c2, .ref c3, .ref c4, .ref c5, .ref c6, .ref c7, .ref c8, .ref c9, .ref c10, .ref c11, .int 0, .int 0, .int 0]))] [(0, .ref h0), (1, .ref s), (2, .int z), (3, .int t)] 0 0 5 []
  refine j_iconst (v := 0) h (by decide) dX3_fillTimed_5 ?_
  refine j_istore (lv' := [(4, .int 0), (0, .ref h0), (1, .ref s), (2, .int z), (3, .int t)]) h dX3_fillTimed_6 (by decide) rfl ?_
  refine j_iload h 0 rfl dX3_fillTimed_8 ?_
  refine j_aload_n h 1 rfl rfl dX3_fillTimed_10 ?_
  refine j_get h iw_X3 0 rfl rfl 8 (by decide) tw_387 rfl dX3_fillTimed_11 ?_
  refine j_icmp_ge h 113 dX3_fillTimed_14 (by decide) (fun _ => ?_) (fun q => absurd (by decide) q)
  exact j_vret h hq dX3_fillTimed_113 () [0, 1] rfl rfl (by decide) trivial (Nat.le_of_ble_eq_true rfl) (Nat.le_of_ble_eq_true rfl)
set_option maxHeartbeats 4000000 in
set_option maxRecDepth 100000 in
theorem c_X3_fillSteps (l : Launch) (g : va_G) (kA : Nat → ClassId) (h0 : Nat) (a0 : Nat) (a1 : Nat) (a2 : Nat) (a3 : Nat) (a4 : Nat) (a5 : Nat) (a6 : Nat) (a7 : Nat) (s : Nat) (c0 : Nat) (c1 : Nat) (c2 : Nat) (c3 : Nat) (c4 : Nat) (c5 : Nat) (c6 : Nat) (c7 : Nat) (c8 : Nat) (c9 : Nat) (c10 : Nat) (c11 : Nat) (lo : Nat) (bo : Nat) (t : Int32)  : CtV l yX3_fillSteps cX3_fillSteps 8 (none) 3 0 0 g kA [.ref h0, .ref s, .ref lo, .ref bo, .int t] [(h0, .inr (3, [.ref a0, .ref a1, .ref a2, .ref a3, .ref a4, .ref a5, .ref a6, .ref a7, .int 0, .int 0, .int 0])), (s, .inr (5, [.ref c0, .ref c1, .ref c2, .ref c3, .ref c4, .ref c5, .ref c6, .ref c7, .ref c8, .ref c9, .ref c10, .ref c11, .int 0, .int 0, .int 0]))] (S := Unit) (fun (_ : Unit) => True) (fun (_ : Unit) => [(h0, .inr (3, [.ref a0, .ref a1, .ref a2, .ref a3, .ref a4, .ref a5, .ref a6, .ref a7, .int 0, .int 0, .int 0])), (s, .inr (5, [.ref c0, .ref c1, .ref c2, .ref c3, .ref c4, .ref c5, .ref c6, .ref c7, .ref c8, .ref c9, .ref c10, .ref c11, .int 0, .int 0, .int 0]))]) := by
  refine nx_startV (by decide +kernel) (Nat.le_of_ble_eq_true rfl) ?_
  intro x hnm h hq
  have h : Ok x cX3_fillSteps RX3 kA (rmC 3 0 0) 8 := h
  show J x [(h0, .inr (3, [.ref a0, .ref a1, .ref a2, .ref a3, .ref a4, .ref a5, .ref a6, .ref a7, .int 0, .int 0, .int 0])), (s, .inr (5, [.ref c0, .ref c1, .ref c2, .ref c3, .ref c4, .ref c5, .ref c6, .ref c7, .ref c8, .ref c9, .ref c10, .ref c11, .int 0, .int 0, .int 0]))] [(0, .ref h0), (1, .ref s), (2, .ref lo), (3, .ref bo), (4, .int t)] 0 0 0 []
  refine j_aload_n h 0 rfl rfl dX3_fillSteps_0 ?_
  refine j_aload_n h 1 rfl rfl dX3_fillSteps_1 ?_
  refine j_callVv (np := 1) (isC := [0, 1]) (isR := []) (wc := [(h0, .inr (3, [.ref a0, .ref a1, .ref a2, .ref a3, .ref a4, .ref a5, .ref a6, .ref a7, .int 0, .int 0, .int 0])), (s, .inr (5, [.ref c0, .ref c1, .ref c2, .ref c3, .ref c4, .ref c5, .ref c6, .ref c7, .ref c8, .ref c9, .ref c10, .ref c11, .int 0, .int 0, .int 0]))]) (wr := []) (rest := []) (As := [.ref s]) (q0 := 0) h (c_X3_takeSteps _ _ kA h0 a0 a1 a2 a3 a4 a5 a6 a7 s c0 c1 c2 c3 c4 c5 c6 c7 c8 c9 c10 c11 ) tw_837 tw_839 tw_16 tw_95 tw_840 (by decide +kernel) rfl ⟨Nat.le_of_ble_eq_true rfl, Nat.le_of_ble_eq_true rfl⟩ rfl rfl rfl (by decide) rfl rfl (by decide) (by decide) (Nat.le_of_ble_eq_true rfl) rfl ⟨Nat.le_of_ble_eq_true rfl, Nat.le_of_ble_eq_true rfl⟩ dX3_fillSteps_2 ?_
  rintro _ e297
  show J x [(h0, .inr (3, [.ref a0, .ref a1, .ref a2, .ref a3, .ref a4, .ref a5, .ref a6, .ref a7, .int 0, .int 0, .int 0])), (s, .inr (5, [.ref c0, .ref c1, .ref c2, .ref c3, .ref c4, .ref c5, .ref c6, .ref c7, .ref c8, .ref c9, .ref c10, .ref c11, .int 0, .int 0, .int 0]))] [(0, .ref h0), (1, .ref s), (2, .ref lo), (3, .ref bo), (4, .int t)] 0 0 5 []
  refine j_iconst (v := 0) h (by decide) dX3_fillSteps_5 ?_
  refine j_istore (lv' := [(5, .int 0), (0, .ref h0), (1, .ref s), (2, .ref lo), (3, .ref bo), (4, .int t)]) h dX3_fillSteps_6 (by decide) rfl ?_
  refine j_iload h 0 rfl dX3_fillSteps_8 ?_
  refine j_aload_n h 1 rfl rfl dX3_fillSteps_10 ?_
  refine j_get h iw_X3 0 rfl rfl 8 (by decide) tw_387 rfl dX3_fillSteps_11 ?_
  refine j_icmp_ge h 99 dX3_fillSteps_14 (by decide) (fun _ => ?_) (fun q => absurd (by decide) q)
  exact j_vret h hq dX3_fillSteps_99 () [0, 1] rfl rfl (by decide) trivial (Nat.le_of_ble_eq_true rfl) (Nat.le_of_ble_eq_true rfl)
set_option maxHeartbeats 4000000 in
set_option maxRecDepth 100000 in
theorem c_X3_fillLetters (l : Launch) (g : va_G) (kA : Nat → ClassId) (h0 : Nat) (a0 : Nat) (a1 : Nat) (a2 : Nat) (a3 : Nat) (a4 : Nat) (a5 : Nat) (a6 : Nat) (a7 : Nat) (s : Nat) (c0 : Nat) (c1 : Nat) (c2 : Nat) (c3 : Nat) (c4 : Nat) (c5 : Nat) (c6 : Nat) (c7 : Nat) (c8 : Nat) (c9 : Nat) (c10 : Nat) (c11 : Nat) (gs : Nat) (z : Int32) (t : Int32)  : CtV l yX3_fillLetters cX3_fillLetters 9 (none) 3 0 0 g kA [.ref h0, .ref s, .ref gs, .int z, .int t] [(h0, .inr (3, [.ref a0, .ref a1, .ref a2, .ref a3, .ref a4, .ref a5, .ref a6, .ref a7, .int 0, .int 0, .int 0])), (s, .inr (5, [.ref c0, .ref c1, .ref c2, .ref c3, .ref c4, .ref c5, .ref c6, .ref c7, .ref c8, .ref c9, .ref c10, .ref c11, .int 0, .int 0, .int 0]))] (S := Unit) (fun (_ : Unit) => True) (fun (_ : Unit) => [(h0, .inr (3, [.ref a0, .ref a1, .ref a2, .ref a3, .ref a4, .ref a5, .ref a6, .ref a7, .int 0, .int 0, .int 0])), (s, .inr (5, [.ref c0, .ref c1, .ref c2, .ref c3, .ref c4, .ref c5, .ref c6, .ref c7, .ref c8, .ref c9, .ref c10, .ref c11, .int 0, .int 0, .int 0]))]) := by
  refine nx_startV (by decide +kernel) (Nat.le_of_ble_eq_true rfl) ?_
  intro x hnm h hq
  have h : Ok x cX3_fillLetters RX3 kA (rmC 3 0 0) 9 := h
  show J x [(h0, .inr (3, [.ref a0, .ref a1, .ref a2, .ref a3, .ref a4, .ref a5, .ref a6, .ref a7, .int 0, .int 0, .int 0])), (s, .inr (5, [.ref c0, .ref c1, .ref c2, .ref c3, .ref c4, .ref c5, .ref c6, .ref c7, .ref c8, .ref c9, .ref c10, .ref c11, .int 0, .int 0, .int 0]))] [(0, .ref h0), (1, .ref s), (2, .ref gs), (3, .int z), (4, .int t)] 0 0 0 []
  refine j_aload_n h 0 rfl rfl dX3_fillLetters_0 ?_
  refine j_aload_n h 1 rfl rfl dX3_fillLetters_1 ?_
  refine j_get h iw_X5 1 rfl rfl 13 (by decide) tw_227 rfl dX3_fillLetters_2 ?_
  refine j_put (ws' := [(h0, .inr (3, [.ref a0, .ref a1, .ref a2, .ref a3, .ref a4, .ref a5, .ref a6, .ref a7, .int 0, .int 0, .int 0])), (s, .inr (5, [.ref c0, .ref c1, .ref c2, .ref c3, .ref c4, .ref c5, .ref c6, .ref c7, .ref c8, .ref c9, .ref c10, .ref c11, .int 0, .int 0, .int 0]))]) h iw_X3 tyX3 tyX3_ok nmX3 0 rfl rfl 8 (by decide) tw_387 rfl rfl rfl (Nat.le_of_ble_eq_true rfl) dX3_fillLetters_5 rfl ?_
  refine j_iconst (v := 0) h (by decide) dX3_fillLetters_8 ?_
  refine j_istore (lv' := [(5, .int 0), (0, .ref h0), (1, .ref s), (2, .ref gs), (3, .int z), (4, .int t)]) h dX3_fillLetters_9 (by decide) rfl ?_
  refine j_iload h 0 rfl dX3_fillLetters_11 ?_
  refine j_aload_n h 1 rfl rfl dX3_fillLetters_13 ?_
  refine j_get h iw_X3 0 rfl rfl 8 (by decide) tw_387 rfl dX3_fillLetters_14 ?_
  refine j_icmp_ge h 165 dX3_fillLetters_17 (by decide) (fun _ => ?_) (fun q => absurd (by decide) q)
  exact j_vret h hq dX3_fillLetters_165 () [0, 1] rfl rfl (by decide) trivial (Nat.le_of_ble_eq_true rfl) (Nat.le_of_ble_eq_true rfl)
set_option maxHeartbeats 4000000 in
set_option maxRecDepth 100000 in
theorem c_J9_min (l : Launch) (g : va_G) (kA : Nat → ClassId)   : CtL l yJ9_min_f86c9 cJ9_min_f86c9 4 (some .long) 1 0 0 g kA [.long 0, .long 1000000000000000] [] (S := Unit) (fun (r : Int64) (_ : Unit) => r = 0) (fun (_ : Unit) => []) := by
  refine nx_startLF (by decide +kernel) (Nat.le_of_ble_eq_true rfl) ?_
  intro x hnm h hq
  have h : Ok x cJ9_min_f86c9 RJ9 kA (rmC 1 0 0) 4 := h
  show J x [] [(0, .long 0), (2, .long 1000000000000000)] 0 0 0 []
  refine j_lload_n h 0 rfl rfl dJ9_min_f86c9_0 ?_
  refine j_lload_n h 1 rfl rfl dJ9_min_f86c9_1 ?_
  refine j_lcmp h dJ9_min_f86c9_2 ?_
  refine j_top (b := (-1)) (by decide) ?_
  refine j_if_gt h 10 dJ9_min_f86c9_3 (by decide) (fun q => absurd q (by decide)) (fun _ => ?_)
  refine j_lload_n h 0 rfl rfl dJ9_min_f86c9_6 ?_
  refine j_goto h 11 dJ9_min_f86c9_7 (by decide) ?_
  exact j_lret h hq dJ9_min_f86c9_11 () [] rfl rfl (by decide) (by first | rfl | simp only [↓reduceIte]) (Nat.le_of_ble_eq_true rfl) (Nat.le_of_ble_eq_true rfl)
set_option maxHeartbeats 4000000 in
set_option maxRecDepth 100000 in
theorem c_X3_sumOfWays (l : Launch) (g : va_G) (kA : Nat → ClassId) (h0 : Nat) (a0 : Nat) (a1 : Nat) (a2 : Nat) (a3 : Nat) (a4 : Nat) (a5 : Nat) (a6 : Nat) (a7 : Nat) (tm : Int32) (p1 : Int32) (p2 : Int32) (p3 : Int32)  : CtL l yX3_sumOfWays cX3_sumOfWays 7 (some .long) 2 0 0 g kA [.ref h0, .int p1, .int p2, .int p3] [(h0, .inr (3, [.ref a0, .ref a1, .ref a2, .ref a3, .ref a4, .ref a5, .ref a6, .ref a7, .int 0, .int tm, .int 0]))] (S := Unit) (fun (r : Int64) (_ : Unit) => r = 0) (fun (_ : Unit) => [(h0, .inr (3, [.ref a0, .ref a1, .ref a2, .ref a3, .ref a4, .ref a5, .ref a6, .ref a7, .int 0, .int tm, .int 0]))]) := by
  refine nx_startL (by decide +kernel) (Nat.le_of_ble_eq_true rfl) ?_
  intro x hnm h hq
  have h : Ok x cX3_sumOfWays RX3 kA (rmC 2 0 0) 7 := h
  show J x [(h0, .inr (3, [.ref a0, .ref a1, .ref a2, .ref a3, .ref a4, .ref a5, .ref a6, .ref a7, .int 0, .int tm, .int 0]))] [(0, .ref h0), (1, .int p1), (2, .int p2), (3, .int p3)] 0 0 0 []
  refine j_lconst (v := 0) h (by decide) dX3_sumOfWays_0 ?_
  refine j_lstore (lv' := [(4, .long 0), (0, .ref h0), (1, .int p1), (2, .int p2), (3, .int p3)]) h dX3_sumOfWays_1 (by decide) rfl ?_
  refine j_iconst (v := 0) h (by decide) dX3_sumOfWays_3 ?_
  refine j_istore (lv' := [(6, .int 0), (4, .long 0), (0, .ref h0), (1, .int p1), (2, .int p2), (3, .int p3)]) h dX3_sumOfWays_4 (by decide) rfl ?_
  refine j_iload h 0 rfl dX3_sumOfWays_6 ?_
  refine j_aload_n h 2 rfl rfl dX3_sumOfWays_8 ?_
  refine j_get h iw_X3 0 rfl rfl 8 (by decide) tw_387 rfl dX3_sumOfWays_9 ?_
  refine j_icmp_ge h 35 dX3_sumOfWays_12 (by decide) (fun _ => ?_) (fun q => absurd (by decide) q)
  refine j_lload h 1 rfl dX3_sumOfWays_35 ?_
  refine j_ldc2 h tw_879 dX3_sumOfWays_37 ?_
  refine j_callSl (np := 2) (isC := []) (isR := [0]) (wc := []) (wr := [(h0, .inr (3, [.ref a0, .ref a1, .ref a2, .ref a3, .ref a4, .ref a5, .ref a6, .ref a7, .int 0, .int tm, .int 0]))]) (rest := []) (As := [.long 0, .long 1000000000000000]) h (c_J9_min _ _ kA  ) tw_880 tw_881 tw_105 tw_882 (by decide +kernel) rfl ⟨Nat.le_of_ble_eq_true rfl, Nat.le_of_ble_eq_true rfl⟩ rfl (by decide) rfl rfl (by decide) (by decide) (Nat.le_of_ble_eq_true rfl) rfl ⟨Nat.le_of_ble_eq_true rfl, Nat.le_of_ble_eq_true rfl⟩ dX3_sumOfWays_40 ?_
  rintro r _ e298
  subst e298
  show J x [(h0, .inr (3, [.ref a0, .ref a1, .ref a2, .ref a3, .ref a4, .ref a5, .ref a6, .ref a7, .int 0, .int tm, .int 0]))] [(6, .int 0), (4, .long 0), (0, .ref h0), (1, .int p1), (2, .int p2), (3, .int p3)] 0 0 43 [.long 0]
  exact j_lret h hq dX3_sumOfWays_43 () [0] rfl rfl (by decide) (by first | rfl | simp only [↓reduceIte]) (Nat.le_of_ble_eq_true rfl) (Nat.le_of_ble_eq_true rfl)
set_option maxHeartbeats 4000000 in
set_option maxRecDepth 100000 in
theorem c_X3_countWays (l : Launch) (g : va_G) (kA : Nat → ClassId) (h0 : Nat) (a0 : Nat) (a1 : Nat) (a2 : Nat) (a3 : Nat) (a4 : Nat) (a5 : Nat) (a6 : Nat) (a7 : Nat) (f0 : Nat → Int64) (f1 : Nat → Int64) (j : Nat) (hj : j ≤ 60) : CtL l yX3_countWays cX3_countWays 5 (some .long) 3 0 0 g kA [.ref h0, .int (nI j), .int 0] [(h0, .inr (3, [.ref a0, .ref a1, .ref a2, .ref a3, .ref a4, .ref a5, .ref a6, .ref a7, .int 0, .int 0, .int 0])), (a3, .inl (kA 7, 8, .inr (.inr (.inr (.inr (nx_q a3 8)))))), ((a3 + 1 + 0), .inl (kA 2, 61, .inr (.inl f0))), ((a3 + 1 + 1), .inl (kA 2, 61, .inr (.inl f1)))] (S := (Nat → Int64) × (Nat → Int64)) (fun (r : Int64) ((g0, g1) : (Nat → Int64) × (Nat → Int64)) => r = vWy j) (fun ((g0, g1) : (Nat → Int64) × (Nat → Int64)) => [(h0, .inr (3, [.ref a0, .ref a1, .ref a2, .ref a3, .ref a4, .ref a5, .ref a6, .ref a7, .int 0, .int (nI j), .int 0])), (a3, .inl (kA 7, 8, .inr (.inr (.inr (.inr (nx_q a3 8)))))), ((a3 + 1 + 0), .inl (kA 2, 61, .inr (.inl g0))), ((a3 + 1 + 1), .inl (kA 2, 61, .inr (.inl g1)))]) := by
  refine nx_startL (by decide +kernel) (Nat.le_of_ble_eq_true rfl) ?_
  intro x hnm h hq
  have h : Ok x cX3_countWays RX3 kA (rmC 3 0 0) 5 := h
  show J x [(h0, .inr (3, [.ref a0, .ref a1, .ref a2, .ref a3, .ref a4, .ref a5, .ref a6, .ref a7, .int 0, .int 0, .int 0])), (a3, .inl (kA 7, 8, .inr (.inr (.inr (.inr (nx_q a3 8)))))), ((a3 + 1 + 0), .inl (kA 2, 61, .inr (.inl f0))), ((a3 + 1 + 1), .inl (kA 2, 61, .inr (.inl f1)))] [(0, .ref h0), (1, .int (nI j)), (2, .int 0)] 0 0 0 []
  rcases j with _ | i
  · refine j_aload_n h 0 rfl rfl dX3_countWays_0 ?_
    refine j_iload_n h 1 rfl rfl dX3_countWays_1 ?_
    refine j_put (ws' := [(h0, .inr (3, [.ref a0, .ref a1, .ref a2, .ref a3, .ref a4, .ref a5, .ref a6, .ref a7, .int 0, .int (nI 0), .int 0])), (a3, .inl (kA 7, 8, .inr (.inr (.inr (.inr (nx_q a3 8)))))), ((a3 + 1 + 0), .inl (kA 2, 61, .inr (.inl f0))), ((a3 + 1 + 1), .inl (kA 2, 61, .inr (.inl f1)))]) h iw_X3 tyX3 tyX3_ok nmX3 0 rfl rfl 9 (by decide) tw_389 rfl rfl rfl (Nat.le_of_ble_eq_true rfl) dX3_countWays_2 rfl ?_
    refine j_aload_n h 0 rfl rfl dX3_countWays_5 ?_
    refine j_iload_n h 2 rfl rfl dX3_countWays_6 ?_
    refine j_put (ws' := [(h0, .inr (3, [.ref a0, .ref a1, .ref a2, .ref a3, .ref a4, .ref a5, .ref a6, .ref a7, .int 0, .int (nI 0), .int 0])), (a3, .inl (kA 7, 8, .inr (.inr (.inr (.inr (nx_q a3 8)))))), ((a3 + 1 + 0), .inl (kA 2, 61, .inr (.inl f0))), ((a3 + 1 + 1), .inl (kA 2, 61, .inr (.inl f1)))]) h iw_X3 tyX3 tyX3_ok nmX3 0 rfl rfl 10 (by decide) tw_390 rfl rfl rfl (Nat.le_of_ble_eq_true rfl) dX3_countWays_7 rfl ?_
    refine j_iconst (v := 0) h (by decide) dX3_countWays_10 ?_
    refine j_istore_n (lv' := [(3, .int 0), (0, .ref h0), (1, .int (nI 0)), (2, .int 0)]) h dX3_countWays_11 rfl (by decide) rfl ?_
    refine j_iload_n h 0 rfl rfl dX3_countWays_12 ?_
    refine j_iconst (v := 2) h (by decide) dX3_countWays_13 ?_
    refine j_aload_n h 1 rfl rfl dX3_countWays_14 ?_
    refine j_get h iw_X3 0 rfl rfl 10 (by decide) tw_390 rfl dX3_countWays_15 ?_
    refine j_iconst (v := 1) h (by decide) dX3_countWays_18 ?_
    refine j_iadd h dX3_countWays_19 ?_
    refine j_top (b := 1) (by decide) ?_
    refine j_imul h dX3_countWays_20 ?_
    refine j_top (b := 2) (by decide) ?_
    refine j_icmp_ge h 42 dX3_countWays_21 (by decide) (fun q => absurd q (by decide)) (fun _ => ?_)
    refine j_aload_n h 1 rfl rfl dX3_countWays_24 ?_
    refine j_get h iw_X3 0 rfl rfl 3 (by decide) tw_382 rfl dX3_countWays_25 ?_
    refine j_iload_n h 0 rfl rfl dX3_countWays_28 ?_
    refine j_aldA h 1 7 rfl rfl 0 (by decide) (by decide) (by decide) (rfl) dX3_countWays_29 ?_
    refine j_aload_n h 1 rfl rfl dX3_countWays_30 ?_
    refine j_get h iw_X3 0 rfl rfl 9 (by decide) tw_389 rfl dX3_countWays_31 ?_
    refine j_lconst (v := 1) h (by decide) dX3_countWays_34 ?_
    refine j_last (ws' := [(h0, .inr (3, [.ref a0, .ref a1, .ref a2, .ref a3, .ref a4, .ref a5, .ref a6, .ref a7, .int 0, .int (nI 0), .int 0])), (a3, .inl (kA 7, 8, .inr (.inr (.inr (.inr (nx_q a3 8)))))), ((a3 + 1 + 0), .inl (kA 2, 61, .inr (.inl (vp_updL f0 0 1)))), ((a3 + 1 + 1), .inl (kA 2, 61, .inr (.inl f1)))]) h 2 rfl 0 (by decide) (by decide) (by decide) dX3_countWays_35 rfl ?_
    refine j_iinc (v := 1) (lv' := [(3, .int 1), (0, .ref h0), (1, .int (nI 0)), (2, .int 0)]) h dX3_countWays_36 0 rfl (by decide) (by decide) rfl ?_
    refine j_goto h 12 dX3_countWays_39 (by decide) ?_
    refine j_iload_n h 0 rfl rfl dX3_countWays_12 ?_
    refine j_iconst (v := 2) h (by decide) dX3_countWays_13 ?_
    refine j_aload_n h 1 rfl rfl dX3_countWays_14 ?_
    refine j_get h iw_X3 0 rfl rfl 10 (by decide) tw_390 rfl dX3_countWays_15 ?_
    refine j_iconst (v := 1) h (by decide) dX3_countWays_18 ?_
    refine j_iadd h dX3_countWays_19 ?_
    refine j_top (b := 1) (by decide) ?_
    refine j_imul h dX3_countWays_20 ?_
    refine j_top (b := 2) (by decide) ?_
    refine j_icmp_ge h 42 dX3_countWays_21 (by decide) (fun q => absurd q (by decide)) (fun _ => ?_)
    refine j_aload_n h 1 rfl rfl dX3_countWays_24 ?_
    refine j_get h iw_X3 0 rfl rfl 3 (by decide) tw_382 rfl dX3_countWays_25 ?_
    refine j_iload_n h 0 rfl rfl dX3_countWays_28 ?_
    refine j_aldA h 1 7 rfl rfl 1 (by decide) (by decide) (by decide) (rfl) dX3_countWays_29 ?_
    refine j_aload_n h 1 rfl rfl dX3_countWays_30 ?_
    refine j_get h iw_X3 0 rfl rfl 9 (by decide) tw_389 rfl dX3_countWays_31 ?_
    refine j_lconst (v := 1) h (by decide) dX3_countWays_34 ?_
    refine j_last (ws' := [(h0, .inr (3, [.ref a0, .ref a1, .ref a2, .ref a3, .ref a4, .ref a5, .ref a6, .ref a7, .int 0, .int (nI 0), .int 0])), (a3, .inl (kA 7, 8, .inr (.inr (.inr (.inr (nx_q a3 8)))))), ((a3 + 1 + 0), .inl (kA 2, 61, .inr (.inl (vp_updL f0 0 1)))), ((a3 + 1 + 1), .inl (kA 2, 61, .inr (.inl (vp_updL f1 0 1))))]) h 3 rfl 0 (by decide) (by decide) (by decide) dX3_countWays_35 rfl ?_
    refine j_iinc (v := 2) (lv' := [(3, .int 2), (0, .ref h0), (1, .int (nI 0)), (2, .int 0)]) h dX3_countWays_36 0 rfl (by decide) (by decide) rfl ?_
    refine j_goto h 12 dX3_countWays_39 (by decide) ?_
    refine j_iload_n h 0 rfl rfl dX3_countWays_12 ?_
    refine j_iconst (v := 2) h (by decide) dX3_countWays_13 ?_
    refine j_aload_n h 1 rfl rfl dX3_countWays_14 ?_
    refine j_get h iw_X3 0 rfl rfl 10 (by decide) tw_390 rfl dX3_countWays_15 ?_
    refine j_iconst (v := 1) h (by decide) dX3_countWays_18 ?_
    refine j_iadd h dX3_countWays_19 ?_
    refine j_top (b := 1) (by decide) ?_
    refine j_imul h dX3_countWays_20 ?_
    refine j_top (b := 2) (by decide) ?_
    refine j_icmp_ge h 42 dX3_countWays_21 (by decide) (fun _ => ?_) (fun q => absurd (by decide) q)
    refine j_aload_n h 1 rfl rfl dX3_countWays_42 ?_
    refine j_get h iw_X3 0 rfl rfl 9 (by decide) tw_389 rfl dX3_countWays_43 ?_
    refine j_iconst (v := 1) h (by decide) dX3_countWays_46 ?_
    refine j_isub h dX3_countWays_47 ?_
    refine j_top (b := (-1)) (by decide) ?_
    refine j_istore_n (lv' := [(3, .int (-1)), (0, .ref h0), (1, .int (nI 0)), (2, .int 0)]) h dX3_countWays_48 rfl (by decide) rfl ?_
    refine j_iload_n h 0 rfl rfl dX3_countWays_49 ?_
    refine j_if_lt h 103 dX3_countWays_50 (by decide) (fun _ => ?_) (fun q => absurd (by decide) q)
    refine j_aload_n h 1 rfl rfl dX3_countWays_103 ?_
    refine j_get h iw_X3 0 rfl rfl 3 (by decide) tw_382 rfl dX3_countWays_104 ?_
    refine j_iconst (v := 2) h (by decide) dX3_countWays_107 ?_
    refine j_aload_n h 1 rfl rfl dX3_countWays_108 ?_
    refine j_get h iw_X3 0 rfl rfl 10 (by decide) tw_390 rfl dX3_countWays_109 ?_
    refine j_imul h dX3_countWays_112 ?_
    refine j_top (b := 0) (by decide) ?_
    refine j_iconst (v := 0) h (by decide) dX3_countWays_113 ?_
    refine j_iadd h dX3_countWays_114 ?_
    refine j_top (b := 0) (by decide) ?_
    refine j_aldA h 1 7 rfl rfl 0 (by decide) (by decide) (by decide) (rfl) dX3_countWays_115 ?_
    refine j_iconst (v := 0) h (by decide) dX3_countWays_116 ?_
    refine j_lald h 2 rfl 0 (by decide) (by decide) (by decide) dX3_countWays_117 ?_
    refine j_topl (b := 1) rfl ?_
    exact j_lret h hq dX3_countWays_118 ((vp_updL f0 0 1), (vp_updL f1 0 1)) [0, 1, 2, 3] rfl rfl (by decide) (by rfl) (Nat.le_of_ble_eq_true rfl) (Nat.le_of_ble_eq_true rfl)
  · refine j_aload_n h 0 rfl rfl dX3_countWays_0 ?_
    refine j_iload_n h 1 rfl rfl dX3_countWays_1 ?_
    refine j_put (ws' := [(h0, .inr (3, [.ref a0, .ref a1, .ref a2, .ref a3, .ref a4, .ref a5, .ref a6, .ref a7, .int 0, .int (nI (i + 1)), .int 0])), (a3, .inl (kA 7, 8, .inr (.inr (.inr (.inr (nx_q a3 8)))))), ((a3 + 1 + 0), .inl (kA 2, 61, .inr (.inl f0))), ((a3 + 1 + 1), .inl (kA 2, 61, .inr (.inl f1)))]) h iw_X3 tyX3 tyX3_ok nmX3 0 rfl rfl 9 (by decide) tw_389 rfl rfl rfl (Nat.le_of_ble_eq_true rfl) dX3_countWays_2 rfl ?_
    refine j_aload_n h 0 rfl rfl dX3_countWays_5 ?_
    refine j_iload_n h 2 rfl rfl dX3_countWays_6 ?_
    refine j_put (ws' := [(h0, .inr (3, [.ref a0, .ref a1, .ref a2, .ref a3, .ref a4, .ref a5, .ref a6, .ref a7, .int 0, .int (nI (i + 1)), .int 0])), (a3, .inl (kA 7, 8, .inr (.inr (.inr (.inr (nx_q a3 8)))))), ((a3 + 1 + 0), .inl (kA 2, 61, .inr (.inl f0))), ((a3 + 1 + 1), .inl (kA 2, 61, .inr (.inl f1)))]) h iw_X3 tyX3 tyX3_ok nmX3 0 rfl rfl 10 (by decide) tw_390 rfl rfl rfl (Nat.le_of_ble_eq_true rfl) dX3_countWays_7 rfl ?_
    refine j_iconst (v := 0) h (by decide) dX3_countWays_10 ?_
    refine j_istore_n (lv' := [(3, .int 0), (0, .ref h0), (1, .int (nI (i + 1))), (2, .int 0)]) h dX3_countWays_11 rfl (by decide) rfl ?_
    refine j_iload_n h 0 rfl rfl dX3_countWays_12 ?_
    refine j_iconst (v := 2) h (by decide) dX3_countWays_13 ?_
    refine j_aload_n h 1 rfl rfl dX3_countWays_14 ?_
    refine j_get h iw_X3 0 rfl rfl 10 (by decide) tw_390 rfl dX3_countWays_15 ?_
    refine j_iconst (v := 1) h (by decide) dX3_countWays_18 ?_
    refine j_iadd h dX3_countWays_19 ?_
    refine j_top (b := 1) (by decide) ?_
    refine j_imul h dX3_countWays_20 ?_
    refine j_top (b := 2) (by decide) ?_
    refine j_icmp_ge h 42 dX3_countWays_21 (by decide) (fun q => absurd q (by decide)) (fun _ => ?_)
    refine j_aload_n h 1 rfl rfl dX3_countWays_24 ?_
    refine j_get h iw_X3 0 rfl rfl 3 (by decide) tw_382 rfl dX3_countWays_25 ?_
    refine j_iload_n h 0 rfl rfl dX3_countWays_28 ?_
    refine j_aldA h 1 7 rfl rfl 0 (by decide) (by decide) (by decide) (rfl) dX3_countWays_29 ?_
    refine j_aload_n h 1 rfl rfl dX3_countWays_30 ?_
    refine j_get h iw_X3 0 rfl rfl 9 (by decide) tw_389 rfl dX3_countWays_31 ?_
    refine j_lconst (v := 1) h (by decide) dX3_countWays_34 ?_
    refine j_last (ws' := [(h0, .inr (3, [.ref a0, .ref a1, .ref a2, .ref a3, .ref a4, .ref a5, .ref a6, .ref a7, .int 0, .int (nI (i + 1)), .int 0])), (a3, .inl (kA 7, 8, .inr (.inr (.inr (.inr (nx_q a3 8)))))), ((a3 + 1 + 0), .inl (kA 2, 61, .inr (.inl (vp_updL f0 (i + 1) 1)))), ((a3 + 1 + 1), .inl (kA 2, 61, .inr (.inl f1)))]) h 2 rfl (i + 1) rfl (by omega) (by decide) dX3_countWays_35 rfl ?_
    refine j_iinc (v := 1) (lv' := [(3, .int 1), (0, .ref h0), (1, .int (nI (i + 1))), (2, .int 0)]) h dX3_countWays_36 0 rfl (by decide) (by decide) rfl ?_
    refine j_goto h 12 dX3_countWays_39 (by decide) ?_
    refine j_iload_n h 0 rfl rfl dX3_countWays_12 ?_
    refine j_iconst (v := 2) h (by decide) dX3_countWays_13 ?_
    refine j_aload_n h 1 rfl rfl dX3_countWays_14 ?_
    refine j_get h iw_X3 0 rfl rfl 10 (by decide) tw_390 rfl dX3_countWays_15 ?_
    refine j_iconst (v := 1) h (by decide) dX3_countWays_18 ?_
    refine j_iadd h dX3_countWays_19 ?_
    refine j_top (b := 1) (by decide) ?_
    refine j_imul h dX3_countWays_20 ?_
    refine j_top (b := 2) (by decide) ?_
    refine j_icmp_ge h 42 dX3_countWays_21 (by decide) (fun q => absurd q (by decide)) (fun _ => ?_)
    refine j_aload_n h 1 rfl rfl dX3_countWays_24 ?_
    refine j_get h iw_X3 0 rfl rfl 3 (by decide) tw_382 rfl dX3_countWays_25 ?_
    refine j_iload_n h 0 rfl rfl dX3_countWays_28 ?_
    refine j_aldA h 1 7 rfl rfl 1 (by decide) (by decide) (by decide) (rfl) dX3_countWays_29 ?_
    refine j_aload_n h 1 rfl rfl dX3_countWays_30 ?_
    refine j_get h iw_X3 0 rfl rfl 9 (by decide) tw_389 rfl dX3_countWays_31 ?_
    refine j_lconst (v := 1) h (by decide) dX3_countWays_34 ?_
    refine j_last (ws' := [(h0, .inr (3, [.ref a0, .ref a1, .ref a2, .ref a3, .ref a4, .ref a5, .ref a6, .ref a7, .int 0, .int (nI (i + 1)), .int 0])), (a3, .inl (kA 7, 8, .inr (.inr (.inr (.inr (nx_q a3 8)))))), ((a3 + 1 + 0), .inl (kA 2, 61, .inr (.inl (vp_updL f0 (i + 1) 1)))), ((a3 + 1 + 1), .inl (kA 2, 61, .inr (.inl (vp_updL f1 (i + 1) 1))))]) h 3 rfl (i + 1) rfl (by omega) (by decide) dX3_countWays_35 rfl ?_
    refine j_iinc (v := 2) (lv' := [(3, .int 2), (0, .ref h0), (1, .int (nI (i + 1))), (2, .int 0)]) h dX3_countWays_36 0 rfl (by decide) (by decide) rfl ?_
    refine j_goto h 12 dX3_countWays_39 (by decide) ?_
    refine j_iload_n h 0 rfl rfl dX3_countWays_12 ?_
    refine j_iconst (v := 2) h (by decide) dX3_countWays_13 ?_
    refine j_aload_n h 1 rfl rfl dX3_countWays_14 ?_
    refine j_get h iw_X3 0 rfl rfl 10 (by decide) tw_390 rfl dX3_countWays_15 ?_
    refine j_iconst (v := 1) h (by decide) dX3_countWays_18 ?_
    refine j_iadd h dX3_countWays_19 ?_
    refine j_top (b := 1) (by decide) ?_
    refine j_imul h dX3_countWays_20 ?_
    refine j_top (b := 2) (by decide) ?_
    refine j_icmp_ge h 42 dX3_countWays_21 (by decide) (fun _ => ?_) (fun q => absurd (by decide) q)
    refine j_aload_n h 1 rfl rfl dX3_countWays_42 ?_
    refine j_get h iw_X3 0 rfl rfl 9 (by decide) tw_389 rfl dX3_countWays_43 ?_
    refine j_iconst (v := 1) h (by decide) dX3_countWays_46 ?_
    refine j_isub h dX3_countWays_47 ?_
    refine j_top (b := nI i) (nI_pred i) ?_
    refine j_istore_n (lv' := [(3, .int (nI i)), (0, .ref h0), (1, .int (nI (i + 1))), (2, .int 0)]) h dX3_countWays_48 rfl (by decide) rfl ?_
    have lp : ∀ t : Nat, t ≤ i → ∀ (y0 y1 : Nat → Int64), J x [(h0, .inr (3, [.ref a0, .ref a1, .ref a2, .ref a3, .ref a4, .ref a5, .ref a6, .ref a7, .int 0, .int (nI (i + 1)), .int 0])), (a3, .inl (kA 7, 8, .inr (.inr (.inr (.inr (nx_q a3 8)))))), ((a3 + 1 + 0), .inl (kA 2, 61, .inr (.inl y0))), ((a3 + 1 + 1), .inl (kA 2, 61, .inr (.inl y1)))] [(3, .int (nI t)), (0, .ref h0), (2, .int 0), (1, .int (nI (i + 1)))] 0 0 49 [] := by
      intro t
      induction t with
      | zero =>
        intro _ y0 y1
        refine j_iload_n h 0 rfl rfl dX3_countWays_49 ?_
        refine j_if_lt h 103 dX3_countWays_50 (by decide) (fun q => absurd q (by decide)) (fun _ => ?_)
        refine j_iconst (v := 0) h (by decide) dX3_countWays_53 ?_
        refine j_istore (lv' := [(4, .int 0), (3, .int (nI 0)), (0, .ref h0), (2, .int 0), (1, .int (nI (i + 1)))]) h dX3_countWays_54 (by decide) rfl ?_
        refine j_iload h 0 rfl dX3_countWays_56 ?_
        refine j_iconst (v := 2) h (by decide) dX3_countWays_58 ?_
        refine j_aload_n h 2 rfl rfl dX3_countWays_59 ?_
        refine j_get h iw_X3 0 rfl rfl 10 (by decide) tw_390 rfl dX3_countWays_60 ?_
        refine j_iconst (v := 1) h (by decide) dX3_countWays_63 ?_
        refine j_iadd h dX3_countWays_64 ?_
        refine j_top (b := 1) (by decide) ?_
        refine j_imul h dX3_countWays_65 ?_
        refine j_top (b := 2) (by decide) ?_
        refine j_icmp_ge h 97 dX3_countWays_66 (by decide) (fun q => absurd q (by decide)) (fun _ => ?_)
        refine j_aload_n h 2 rfl rfl dX3_countWays_69 ?_
        refine j_get h iw_X3 0 rfl rfl 3 (by decide) tw_382 rfl dX3_countWays_70 ?_
        refine j_iload h 0 rfl dX3_countWays_73 ?_
        refine j_aldA h 1 7 rfl rfl 0 (by decide) (by decide) (by decide) (rfl) dX3_countWays_75 ?_
        refine j_iload_n h 1 rfl rfl dX3_countWays_76 ?_
        refine j_aload_n h 2 rfl rfl dX3_countWays_77 ?_
        refine j_iload_n h 1 rfl rfl dX3_countWays_78 ?_
        refine j_iload h 0 rfl dX3_countWays_79 ?_
        refine j_iconst (v := 2) h (by decide) dX3_countWays_81 ?_
        refine j_irem h (by decide) dX3_countWays_82 ?_
        refine j_top (b := 0) (by decide) ?_
        refine j_iload h 0 rfl dX3_countWays_83 ?_
        refine j_iconst (v := 2) h (by decide) dX3_countWays_85 ?_
        refine j_idiv h (by decide) dX3_countWays_86 ?_
        refine j_top (b := 0) (by decide) ?_
        refine j_callVl (np := 3) (isC := [0]) (isR := [1, 2, 3]) (wc := [(h0, .inr (3, [.ref a0, .ref a1, .ref a2, .ref a3, .ref a4, .ref a5, .ref a6, .ref a7, .int 0, .int (nI (i + 1)), .int 0]))]) (wr := [(a3, .inl (kA 7, 8, .inr (.inr (.inr (.inr (nx_q a3 8)))))), ((a3 + 1 + 0), .inl (kA 2, 61, .inr (.inl y0))), ((a3 + 1 + 1), .inl (kA 2, 61, .inr (.inl y1)))]) (rest := [.int (nI 0), .ref (a3 + 1 + 0)]) (As := [.int (nI 0), .int 0, .int 0]) (q0 := 0) h (c_X3_sumOfWays _ _ kA h0 a0 a1 a2 a3 a4 a5 a6 a7 (nI (i + 1)) (nI 0) 0 0 ) tw_871 tw_873 tw_20 tw_95 tw_874 (by decide +kernel) rfl ⟨Nat.le_of_ble_eq_true rfl, Nat.le_of_ble_eq_true rfl⟩ rfl rfl rfl (by decide) rfl rfl (by decide) (by decide) (Nat.le_of_ble_eq_true rfl) rfl ⟨Nat.le_of_ble_eq_true rfl, Nat.le_of_ble_eq_true rfl⟩ dX3_countWays_87 ?_
        rintro r _ e299
        subst e299
        show J x [(a3, .inl (kA 7, 8, .inr (.inr (.inr (.inr (nx_q a3 8)))))), ((a3 + 1 + 0), .inl (kA 2, 61, .inr (.inl y0))), ((a3 + 1 + 1), .inl (kA 2, 61, .inr (.inl y1))), (h0, .inr (3, [.ref a0, .ref a1, .ref a2, .ref a3, .ref a4, .ref a5, .ref a6, .ref a7, .int 0, .int (nI (i + 1)), .int 0]))] [(4, .int 0), (3, .int (nI 0)), (0, .ref h0), (2, .int 0), (1, .int (nI (i + 1)))] 0 0 90 [.long 0, .int (nI 0), .ref (a3 + 1 + 0)]
        refine j_last (ws' := [(a3, .inl (kA 7, 8, .inr (.inr (.inr (.inr (nx_q a3 8)))))), ((a3 + 1 + 0), .inl (kA 2, 61, .inr (.inl (vp_updL y0 0 0)))), ((a3 + 1 + 1), .inl (kA 2, 61, .inr (.inl y1))), (h0, .inr (3, [.ref a0, .ref a1, .ref a2, .ref a3, .ref a4, .ref a5, .ref a6, .ref a7, .int 0, .int (nI (i + 1)), .int 0]))]) h 1 rfl 0 (by decide) (by decide) (by decide) dX3_countWays_90 rfl ?_
        refine j_iinc (v := 1) (lv' := [(4, .int 1), (3, .int (nI 0)), (0, .ref h0), (2, .int 0), (1, .int (nI (i + 1)))]) h dX3_countWays_91 0 rfl (by decide) (by decide) rfl ?_
        refine j_goto h 56 dX3_countWays_94 (by decide) ?_
        refine j_iload h 0 rfl dX3_countWays_56 ?_
        refine j_iconst (v := 2) h (by decide) dX3_countWays_58 ?_
        refine j_aload_n h 2 rfl rfl dX3_countWays_59 ?_
        refine j_get h iw_X3 3 rfl rfl 10 (by decide) tw_390 rfl dX3_countWays_60 ?_
        refine j_iconst (v := 1) h (by decide) dX3_countWays_63 ?_
        refine j_iadd h dX3_countWays_64 ?_
        refine j_top (b := 1) (by decide) ?_
        refine j_imul h dX3_countWays_65 ?_
        refine j_top (b := 2) (by decide) ?_
        refine j_icmp_ge h 97 dX3_countWays_66 (by decide) (fun q => absurd q (by decide)) (fun _ => ?_)
        refine j_aload_n h 2 rfl rfl dX3_countWays_69 ?_
        refine j_get h iw_X3 3 rfl rfl 3 (by decide) tw_382 rfl dX3_countWays_70 ?_
        refine j_iload h 0 rfl dX3_countWays_73 ?_
        refine j_aldA h 0 7 rfl rfl 1 (by decide) (by decide) (by decide) (rfl) dX3_countWays_75 ?_
        refine j_iload_n h 1 rfl rfl dX3_countWays_76 ?_
        refine j_aload_n h 2 rfl rfl dX3_countWays_77 ?_
        refine j_iload_n h 1 rfl rfl dX3_countWays_78 ?_
        refine j_iload h 0 rfl dX3_countWays_79 ?_
        refine j_iconst (v := 2) h (by decide) dX3_countWays_81 ?_
        refine j_irem h (by decide) dX3_countWays_82 ?_
        refine j_top (b := 1) (by decide) ?_
        refine j_iload h 0 rfl dX3_countWays_83 ?_
        refine j_iconst (v := 2) h (by decide) dX3_countWays_85 ?_
        refine j_idiv h (by decide) dX3_countWays_86 ?_
        refine j_top (b := 0) (by decide) ?_
        refine j_callVl (np := 3) (isC := [3]) (isR := [0, 1, 2]) (wc := [(h0, .inr (3, [.ref a0, .ref a1, .ref a2, .ref a3, .ref a4, .ref a5, .ref a6, .ref a7, .int 0, .int (nI (i + 1)), .int 0]))]) (wr := [(a3, .inl (kA 7, 8, .inr (.inr (.inr (.inr (nx_q a3 8)))))), ((a3 + 1 + 0), .inl (kA 2, 61, .inr (.inl (vp_updL y0 0 0)))), ((a3 + 1 + 1), .inl (kA 2, 61, .inr (.inl y1)))]) (rest := [.int (nI 0), .ref (a3 + 1 + 1)]) (As := [.int (nI 0), .int 1, .int 0]) (q0 := 0) h (c_X3_sumOfWays _ _ kA h0 a0 a1 a2 a3 a4 a5 a6 a7 (nI (i + 1)) (nI 0) 1 0 ) tw_871 tw_873 tw_20 tw_95 tw_874 (by decide +kernel) rfl ⟨Nat.le_of_ble_eq_true rfl, Nat.le_of_ble_eq_true rfl⟩ rfl rfl rfl (by decide) rfl rfl (by decide) (by decide) (Nat.le_of_ble_eq_true rfl) rfl ⟨Nat.le_of_ble_eq_true rfl, Nat.le_of_ble_eq_true rfl⟩ dX3_countWays_87 ?_
        rintro r _ e300
        subst e300
        show J x [(a3, .inl (kA 7, 8, .inr (.inr (.inr (.inr (nx_q a3 8)))))), ((a3 + 1 + 0), .inl (kA 2, 61, .inr (.inl (vp_updL y0 0 0)))), ((a3 + 1 + 1), .inl (kA 2, 61, .inr (.inl y1))), (h0, .inr (3, [.ref a0, .ref a1, .ref a2, .ref a3, .ref a4, .ref a5, .ref a6, .ref a7, .int 0, .int (nI (i + 1)), .int 0]))] [(4, .int 1), (3, .int (nI 0)), (0, .ref h0), (2, .int 0), (1, .int (nI (i + 1)))] 0 0 90 [.long 0, .int (nI 0), .ref (a3 + 1 + 1)]
        refine j_last (ws' := [(a3, .inl (kA 7, 8, .inr (.inr (.inr (.inr (nx_q a3 8)))))), ((a3 + 1 + 0), .inl (kA 2, 61, .inr (.inl (vp_updL y0 0 0)))), ((a3 + 1 + 1), .inl (kA 2, 61, .inr (.inl (vp_updL y1 0 0)))), (h0, .inr (3, [.ref a0, .ref a1, .ref a2, .ref a3, .ref a4, .ref a5, .ref a6, .ref a7, .int 0, .int (nI (i + 1)), .int 0]))]) h 2 rfl 0 (by decide) (by decide) (by decide) dX3_countWays_90 rfl ?_
        refine j_iinc (v := 2) (lv' := [(4, .int 2), (3, .int (nI 0)), (0, .ref h0), (2, .int 0), (1, .int (nI (i + 1)))]) h dX3_countWays_91 0 rfl (by decide) (by decide) rfl ?_
        refine j_goto h 56 dX3_countWays_94 (by decide) ?_
        refine j_iload h 0 rfl dX3_countWays_56 ?_
        refine j_iconst (v := 2) h (by decide) dX3_countWays_58 ?_
        refine j_aload_n h 2 rfl rfl dX3_countWays_59 ?_
        refine j_get h iw_X3 3 rfl rfl 10 (by decide) tw_390 rfl dX3_countWays_60 ?_
        refine j_iconst (v := 1) h (by decide) dX3_countWays_63 ?_
        refine j_iadd h dX3_countWays_64 ?_
        refine j_top (b := 1) (by decide) ?_
        refine j_imul h dX3_countWays_65 ?_
        refine j_top (b := 2) (by decide) ?_
        refine j_icmp_ge h 97 dX3_countWays_66 (by decide) (fun _ => ?_) (fun q => absurd (by decide) q)
        refine j_iinc (v := (-1)) (lv' := [(3, .int (-1)), (4, .int 2), (0, .ref h0), (2, .int 0), (1, .int (nI (i + 1)))]) h dX3_countWays_97 1 rfl (by decide) (by decide) rfl ?_
        refine j_goto h 49 dX3_countWays_100 (by decide) ?_
        refine j_iload_n h 0 rfl rfl dX3_countWays_49 ?_
        refine j_if_lt h 103 dX3_countWays_50 (by decide) (fun _ => ?_) (fun q => absurd (by decide) q)
        refine j_aload_n h 2 rfl rfl dX3_countWays_103 ?_
        refine j_get h iw_X3 3 rfl rfl 3 (by decide) tw_382 rfl dX3_countWays_104 ?_
        refine j_iconst (v := 2) h (by decide) dX3_countWays_107 ?_
        refine j_aload_n h 2 rfl rfl dX3_countWays_108 ?_
        refine j_get h iw_X3 3 rfl rfl 10 (by decide) tw_390 rfl dX3_countWays_109 ?_
        refine j_imul h dX3_countWays_112 ?_
        refine j_top (b := 0) (by decide) ?_
        refine j_iconst (v := 0) h (by decide) dX3_countWays_113 ?_
        refine j_iadd h dX3_countWays_114 ?_
        refine j_top (b := 0) (by decide) ?_
        refine j_aldA h 0 7 rfl rfl 0 (by decide) (by decide) (by decide) (rfl) dX3_countWays_115 ?_
        refine j_iconst (v := 0) h (by decide) dX3_countWays_116 ?_
        refine j_lald h 1 rfl 0 (by decide) (by decide) (by decide) dX3_countWays_117 ?_
        refine j_topl (b := 0) rfl ?_
        exact j_lret h hq dX3_countWays_118 ((vp_updL y0 0 0), (vp_updL y1 0 0)) [3, 0, 1, 2] rfl rfl (by decide) (by simp [vWy]) (Nat.le_of_ble_eq_true rfl) (Nat.le_of_ble_eq_true rfl)
      | succ s ih =>
        intro hs y0 y1
        refine j_iload_n h 0 rfl rfl dX3_countWays_49 ?_
        refine j_if_lt h 103 dX3_countWays_50 (by decide) (fun q => absurd q (nI_pos (by omega))) (fun _ => ?_)
        refine j_iconst (v := 0) h (by decide) dX3_countWays_53 ?_
        refine j_istore (lv' := [(4, .int 0), (3, .int (nI (s + 1))), (0, .ref h0), (2, .int 0), (1, .int (nI (i + 1)))]) h dX3_countWays_54 (by decide) rfl ?_
        refine j_iload h 0 rfl dX3_countWays_56 ?_
        refine j_iconst (v := 2) h (by decide) dX3_countWays_58 ?_
        refine j_aload_n h 2 rfl rfl dX3_countWays_59 ?_
        refine j_get h iw_X3 0 rfl rfl 10 (by decide) tw_390 rfl dX3_countWays_60 ?_
        refine j_iconst (v := 1) h (by decide) dX3_countWays_63 ?_
        refine j_iadd h dX3_countWays_64 ?_
        refine j_top (b := 1) (by decide) ?_
        refine j_imul h dX3_countWays_65 ?_
        refine j_top (b := 2) (by decide) ?_
        refine j_icmp_ge h 97 dX3_countWays_66 (by decide) (fun q => absurd q (by decide)) (fun _ => ?_)
        refine j_aload_n h 2 rfl rfl dX3_countWays_69 ?_
        refine j_get h iw_X3 0 rfl rfl 3 (by decide) tw_382 rfl dX3_countWays_70 ?_
        refine j_iload h 0 rfl dX3_countWays_73 ?_
        refine j_aldA h 1 7 rfl rfl 0 (by decide) (by decide) (by decide) (rfl) dX3_countWays_75 ?_
        refine j_iload_n h 1 rfl rfl dX3_countWays_76 ?_
        refine j_aload_n h 2 rfl rfl dX3_countWays_77 ?_
        refine j_iload_n h 1 rfl rfl dX3_countWays_78 ?_
        refine j_iload h 0 rfl dX3_countWays_79 ?_
        refine j_iconst (v := 2) h (by decide) dX3_countWays_81 ?_
        refine j_irem h (by decide) dX3_countWays_82 ?_
        refine j_top (b := 0) (by decide) ?_
        refine j_iload h 0 rfl dX3_countWays_83 ?_
        refine j_iconst (v := 2) h (by decide) dX3_countWays_85 ?_
        refine j_idiv h (by decide) dX3_countWays_86 ?_
        refine j_top (b := 0) (by decide) ?_
        refine j_callVl (np := 3) (isC := [0]) (isR := [1, 2, 3]) (wc := [(h0, .inr (3, [.ref a0, .ref a1, .ref a2, .ref a3, .ref a4, .ref a5, .ref a6, .ref a7, .int 0, .int (nI (i + 1)), .int 0]))]) (wr := [(a3, .inl (kA 7, 8, .inr (.inr (.inr (.inr (nx_q a3 8)))))), ((a3 + 1 + 0), .inl (kA 2, 61, .inr (.inl y0))), ((a3 + 1 + 1), .inl (kA 2, 61, .inr (.inl y1)))]) (rest := [.int (nI (s + 1)), .ref (a3 + 1 + 0)]) (As := [.int (nI (s + 1)), .int 0, .int 0]) (q0 := 0) h (c_X3_sumOfWays _ _ kA h0 a0 a1 a2 a3 a4 a5 a6 a7 (nI (i + 1)) (nI (s + 1)) 0 0 ) tw_871 tw_873 tw_20 tw_95 tw_874 (by decide +kernel) rfl ⟨Nat.le_of_ble_eq_true rfl, Nat.le_of_ble_eq_true rfl⟩ rfl rfl rfl (by decide) rfl rfl (by decide) (by decide) (Nat.le_of_ble_eq_true rfl) rfl ⟨Nat.le_of_ble_eq_true rfl, Nat.le_of_ble_eq_true rfl⟩ dX3_countWays_87 ?_
        rintro r _ e301
        subst e301
        show J x [(a3, .inl (kA 7, 8, .inr (.inr (.inr (.inr (nx_q a3 8)))))), ((a3 + 1 + 0), .inl (kA 2, 61, .inr (.inl y0))), ((a3 + 1 + 1), .inl (kA 2, 61, .inr (.inl y1))), (h0, .inr (3, [.ref a0, .ref a1, .ref a2, .ref a3, .ref a4, .ref a5, .ref a6, .ref a7, .int 0, .int (nI (i + 1)), .int 0]))] [(4, .int 0), (3, .int (nI (s + 1))), (0, .ref h0), (2, .int 0), (1, .int (nI (i + 1)))] 0 0 90 [.long 0, .int (nI (s + 1)), .ref (a3 + 1 + 0)]
        refine j_last (ws' := [(a3, .inl (kA 7, 8, .inr (.inr (.inr (.inr (nx_q a3 8)))))), ((a3 + 1 + 0), .inl (kA 2, 61, .inr (.inl (vp_updL y0 (s + 1) 0)))), ((a3 + 1 + 1), .inl (kA 2, 61, .inr (.inl y1))), (h0, .inr (3, [.ref a0, .ref a1, .ref a2, .ref a3, .ref a4, .ref a5, .ref a6, .ref a7, .int 0, .int (nI (i + 1)), .int 0]))]) h 1 rfl (s + 1) rfl (by omega) (by decide) dX3_countWays_90 rfl ?_
        refine j_iinc (v := 1) (lv' := [(4, .int 1), (3, .int (nI (s + 1))), (0, .ref h0), (2, .int 0), (1, .int (nI (i + 1)))]) h dX3_countWays_91 0 rfl (by decide) (by decide) rfl ?_
        refine j_goto h 56 dX3_countWays_94 (by decide) ?_
        refine j_iload h 0 rfl dX3_countWays_56 ?_
        refine j_iconst (v := 2) h (by decide) dX3_countWays_58 ?_
        refine j_aload_n h 2 rfl rfl dX3_countWays_59 ?_
        refine j_get h iw_X3 3 rfl rfl 10 (by decide) tw_390 rfl dX3_countWays_60 ?_
        refine j_iconst (v := 1) h (by decide) dX3_countWays_63 ?_
        refine j_iadd h dX3_countWays_64 ?_
        refine j_top (b := 1) (by decide) ?_
        refine j_imul h dX3_countWays_65 ?_
        refine j_top (b := 2) (by decide) ?_
        refine j_icmp_ge h 97 dX3_countWays_66 (by decide) (fun q => absurd q (by decide)) (fun _ => ?_)
        refine j_aload_n h 2 rfl rfl dX3_countWays_69 ?_
        refine j_get h iw_X3 3 rfl rfl 3 (by decide) tw_382 rfl dX3_countWays_70 ?_
        refine j_iload h 0 rfl dX3_countWays_73 ?_
        refine j_aldA h 0 7 rfl rfl 1 (by decide) (by decide) (by decide) (rfl) dX3_countWays_75 ?_
        refine j_iload_n h 1 rfl rfl dX3_countWays_76 ?_
        refine j_aload_n h 2 rfl rfl dX3_countWays_77 ?_
        refine j_iload_n h 1 rfl rfl dX3_countWays_78 ?_
        refine j_iload h 0 rfl dX3_countWays_79 ?_
        refine j_iconst (v := 2) h (by decide) dX3_countWays_81 ?_
        refine j_irem h (by decide) dX3_countWays_82 ?_
        refine j_top (b := 1) (by decide) ?_
        refine j_iload h 0 rfl dX3_countWays_83 ?_
        refine j_iconst (v := 2) h (by decide) dX3_countWays_85 ?_
        refine j_idiv h (by decide) dX3_countWays_86 ?_
        refine j_top (b := 0) (by decide) ?_
        refine j_callVl (np := 3) (isC := [3]) (isR := [0, 1, 2]) (wc := [(h0, .inr (3, [.ref a0, .ref a1, .ref a2, .ref a3, .ref a4, .ref a5, .ref a6, .ref a7, .int 0, .int (nI (i + 1)), .int 0]))]) (wr := [(a3, .inl (kA 7, 8, .inr (.inr (.inr (.inr (nx_q a3 8)))))), ((a3 + 1 + 0), .inl (kA 2, 61, .inr (.inl (vp_updL y0 (s + 1) 0)))), ((a3 + 1 + 1), .inl (kA 2, 61, .inr (.inl y1)))]) (rest := [.int (nI (s + 1)), .ref (a3 + 1 + 1)]) (As := [.int (nI (s + 1)), .int 1, .int 0]) (q0 := 0) h (c_X3_sumOfWays _ _ kA h0 a0 a1 a2 a3 a4 a5 a6 a7 (nI (i + 1)) (nI (s + 1)) 1 0 ) tw_871 tw_873 tw_20 tw_95 tw_874 (by decide +kernel) rfl ⟨Nat.le_of_ble_eq_true rfl, Nat.le_of_ble_eq_true rfl⟩ rfl rfl rfl (by decide) rfl rfl (by decide) (by decide) (Nat.le_of_ble_eq_true rfl) rfl ⟨Nat.le_of_ble_eq_true rfl, Nat.le_of_ble_eq_true rfl⟩ dX3_countWays_87 ?_
        rintro r _ e302
        subst e302
        show J x [(a3, .inl (kA 7, 8, .inr (.inr (.inr (.inr (nx_q a3 8)))))), ((a3 + 1 + 0), .inl (kA 2, 61, .inr (.inl (vp_updL y0 (s + 1) 0)))), ((a3 + 1 + 1), .inl (kA 2, 61, .inr (.inl y1))), (h0, .inr (3, [.ref a0, .ref a1, .ref a2, .ref a3, .ref a4, .ref a5, .ref a6, .ref a7, .int 0, .int (nI (i + 1)), .int 0]))] [(4, .int 1), (3, .int (nI (s + 1))), (0, .ref h0), (2, .int 0), (1, .int (nI (i + 1)))] 0 0 90 [.long 0, .int (nI (s + 1)), .ref (a3 + 1 + 1)]
        refine j_last (ws' := [(a3, .inl (kA 7, 8, .inr (.inr (.inr (.inr (nx_q a3 8)))))), ((a3 + 1 + 0), .inl (kA 2, 61, .inr (.inl (vp_updL y0 (s + 1) 0)))), ((a3 + 1 + 1), .inl (kA 2, 61, .inr (.inl (vp_updL y1 (s + 1) 0)))), (h0, .inr (3, [.ref a0, .ref a1, .ref a2, .ref a3, .ref a4, .ref a5, .ref a6, .ref a7, .int 0, .int (nI (i + 1)), .int 0]))]) h 2 rfl (s + 1) rfl (by omega) (by decide) dX3_countWays_90 rfl ?_
        refine j_iinc (v := 2) (lv' := [(4, .int 2), (3, .int (nI (s + 1))), (0, .ref h0), (2, .int 0), (1, .int (nI (i + 1)))]) h dX3_countWays_91 0 rfl (by decide) (by decide) rfl ?_
        refine j_goto h 56 dX3_countWays_94 (by decide) ?_
        refine j_iload h 0 rfl dX3_countWays_56 ?_
        refine j_iconst (v := 2) h (by decide) dX3_countWays_58 ?_
        refine j_aload_n h 2 rfl rfl dX3_countWays_59 ?_
        refine j_get h iw_X3 3 rfl rfl 10 (by decide) tw_390 rfl dX3_countWays_60 ?_
        refine j_iconst (v := 1) h (by decide) dX3_countWays_63 ?_
        refine j_iadd h dX3_countWays_64 ?_
        refine j_top (b := 1) (by decide) ?_
        refine j_imul h dX3_countWays_65 ?_
        refine j_top (b := 2) (by decide) ?_
        refine j_icmp_ge h 97 dX3_countWays_66 (by decide) (fun _ => ?_) (fun q => absurd (by decide) q)
        refine j_iinc (v := nI s) (lv' := [(3, .int (nI s)), (4, .int 2), (0, .ref h0), (2, .int 0), (1, .int (nI (i + 1)))]) h dX3_countWays_97 1 rfl (pk_m1 s) (by decide) rfl ?_
        refine j_goto h 49 dX3_countWays_100 (by decide) ?_
        refine j_sub [3, 0, 1, 2] (ws' := [(h0, .inr (3, [.ref a0, .ref a1, .ref a2, .ref a3, .ref a4, .ref a5, .ref a6, .ref a7, .int 0, .int (nI (i + 1)), .int 0])), (a3, .inl (kA 7, 8, .inr (.inr (.inr (.inr (nx_q a3 8)))))), ((a3 + 1 + 0), .inl (kA 2, 61, .inr (.inl (vp_updL y0 (s + 1) 0)))), ((a3 + 1 + 1), .inl (kA 2, 61, .inr (.inl (vp_updL y1 (s + 1) 0))))]) rfl rfl (by decide) [0, 2, 3, 4] (lv' := [(3, .int (nI s)), (0, .ref h0), (2, .int 0), (1, .int (nI (i + 1)))]) rfl ?_
        exact ih (by omega) (vp_updL y0 (s + 1) 0) (vp_updL y1 (s + 1) 0)
    refine j_sub [0, 1, 2, 3] (ws' := [(h0, .inr (3, [.ref a0, .ref a1, .ref a2, .ref a3, .ref a4, .ref a5, .ref a6, .ref a7, .int 0, .int (nI (i + 1)), .int 0])), (a3, .inl (kA 7, 8, .inr (.inr (.inr (.inr (nx_q a3 8)))))), ((a3 + 1 + 0), .inl (kA 2, 61, .inr (.inl (vp_updL f0 (i + 1) 1)))), ((a3 + 1 + 1), .inl (kA 2, 61, .inr (.inl (vp_updL f1 (i + 1) 1))))]) rfl rfl (by decide) [0, 1, 3, 2] (lv' := [(3, .int (nI i)), (0, .ref h0), (2, .int 0), (1, .int (nI (i + 1)))]) rfl ?_
    exact lp i (Nat.le_refl i) (vp_updL f0 (i + 1) 1) (vp_updL f1 (i + 1) 1)
set_option maxHeartbeats 4000000 in
set_option maxRecDepth 100000 in
theorem c_X3_layFirst (l : Launch) (g : va_G) (kA : Nat → ClassId) (h0 : Nat) (a0 : Nat) (a1 : Nat) (a2 : Nat) (a3 : Nat) (a4 : Nat) (a5 : Nat) (a6 : Nat) (a7 : Nat) (r : Nat)  : CtI l yX3_layFirst cX3_layFirst 7 (some .int) 1 0 0 g kA [.ref h0, .ref r] [(h0, .inr (3, [.ref a0, .ref a1, .ref a2, .ref a3, .ref a4, .ref a5, .ref a6, .ref a7, .int 0, .int 0, .int 0]))] (S := Unit) (fun (r : Int32) (_ : Unit) => r = 0) (fun (_ : Unit) => [(h0, .inr (3, [.ref a0, .ref a1, .ref a2, .ref a3, .ref a4, .ref a5, .ref a6, .ref a7, .int 0, .int 0, .int 0]))]) := by
  refine nx_startI (by decide +kernel) (Nat.le_of_ble_eq_true rfl) ?_
  intro x hnm h hq
  have h : Ok x cX3_layFirst RX3 kA (rmC 1 0 0) 7 := h
  show J x [(h0, .inr (3, [.ref a0, .ref a1, .ref a2, .ref a3, .ref a4, .ref a5, .ref a6, .ref a7, .int 0, .int 0, .int 0]))] [(0, .ref h0), (1, .ref r)] 0 0 0 []
  refine j_iconst (v := 0) h (by decide) dX3_layFirst_0 ?_
  refine j_istore_n (lv' := [(2, .int 0), (0, .ref h0), (1, .ref r)]) h dX3_layFirst_1 rfl (by decide) rfl ?_
  refine j_iconst (v := 0) h (by decide) dX3_layFirst_2 ?_
  refine j_istore_n (lv' := [(3, .int 0), (2, .int 0), (0, .ref h0), (1, .ref r)]) h dX3_layFirst_3 rfl (by decide) rfl ?_
  refine j_aload_n h 2 rfl rfl dX3_layFirst_4 ?_
  refine j_get h iw_X3 0 rfl rfl 10 (by decide) tw_390 rfl dX3_layFirst_5 ?_
  refine j_istore (lv' := [(4, .int 0), (3, .int 0), (2, .int 0), (0, .ref h0), (1, .ref r)]) h dX3_layFirst_8 (by decide) rfl ?_
  refine j_iconst (v := 0) h (by decide) dX3_layFirst_10 ?_
  refine j_istore (lv' := [(5, .int 0), (4, .int 0), (3, .int 0), (2, .int 0), (0, .ref h0), (1, .ref r)]) h dX3_layFirst_11 (by decide) rfl ?_
  refine j_iload_n h 3 rfl rfl dX3_layFirst_13 ?_
  refine j_aload_n h 4 rfl rfl dX3_layFirst_14 ?_
  refine j_get h iw_X3 0 rfl rfl 9 (by decide) tw_389 rfl dX3_layFirst_15 ?_
  refine j_icmp_ge h 93 dX3_layFirst_18 (by decide) (fun _ => ?_) (fun q => absurd (by decide) q)
  refine j_iload h 0 rfl dX3_layFirst_93 ?_
  exact j_iret h hq dX3_layFirst_95 () [0] rfl rfl (by decide) (by first | rfl | simp only [↓reduceIte]) (Nat.le_of_ble_eq_true rfl) (Nat.le_of_ble_eq_true rfl)
set_option maxHeartbeats 4000000 in
set_option maxRecDepth 100000 in
theorem c_X11_countAndLay (l : Launch) (g : va_G) (kA : Nat → ClassId) (h0 : Nat) (u : Nat → Nat) (j : Nat) (hj : j ≤ 60) : CtL l yX11_countAndLay cX11_countAndLay 6 (some .long) 4 0 0 g kA [.ref h0, .ref (u 10), .int (nI j), .int 0] [(h0, .inr (11, [.ref (u 0), .ref (u 1), .ref (u 2), .ref (u 3), .ref (u 4), .ref (u 5), .ref (u 6), .ref (u 7), .ref (u 8), .ref (u 9), .ref (u 10), .ref (u 11), .ref (u 12), .ref (u 13), .ref (u 14), .ref (u 15), .ref (u 16), .int 0, .int 0])), ((u 10), .inr (3, [.ref (u 74), .ref (u 75), .ref (u 76), .ref (u 77), .ref (u 78), .ref (u 79), .ref (u 80), .ref (u 81), .int 0, .int 0, .int 0])), ((u 77), .inl (kA 7, 8, .inr (.inr (.inr (.inr (nx_q (u 77) 8)))))), (((u 77) + 1 + 0), .inl (kA 2, 61, .inr (.inl (fun _ => 0)))), (((u 77) + 1 + 1), .inl (kA 2, 61, .inr (.inl (fun _ => 0))))] (S := Unit) (fun (r : Int64) (_ : Unit) => r = vWy j) (fun (_ : Unit) => []) := by
  refine nx_startL (by decide +kernel) (Nat.le_of_ble_eq_true rfl) ?_
  intro x hnm h hq
  have h : Ok x cX11_countAndLay RX11 kA (rmC 4 0 0) 6 := h
  show J x [(h0, .inr (11, [.ref (u 0), .ref (u 1), .ref (u 2), .ref (u 3), .ref (u 4), .ref (u 5), .ref (u 6), .ref (u 7), .ref (u 8), .ref (u 9), .ref (u 10), .ref (u 11), .ref (u 12), .ref (u 13), .ref (u 14), .ref (u 15), .ref (u 16), .int 0, .int 0])), ((u 10), .inr (3, [.ref (u 74), .ref (u 75), .ref (u 76), .ref (u 77), .ref (u 78), .ref (u 79), .ref (u 80), .ref (u 81), .int 0, .int 0, .int 0])), ((u 77), .inl (kA 7, 8, .inr (.inr (.inr (.inr (nx_q (u 77) 8)))))), (((u 77) + 1 + 0), .inl (kA 2, 61, .inr (.inl (fun _ => 0)))), (((u 77) + 1 + 1), .inl (kA 2, 61, .inr (.inl (fun _ => 0))))] [(0, .ref h0), (1, .ref (u 10)), (2, .int (nI j)), (3, .int 0)] 0 0 0 []
  rcases j with _ | i
  · refine j_aload_n h 1 rfl rfl dX11_countAndLay_0 ?_
    refine j_iload_n h 2 rfl rfl dX11_countAndLay_1 ?_
    refine j_iload_n h 3 rfl rfl dX11_countAndLay_2 ?_
    refine j_callVl (np := 2) (isC := [1, 2, 3, 4]) (isR := [0]) (wc := [((u 10), .inr (3, [.ref (u 74), .ref (u 75), .ref (u 76), .ref (u 77), .ref (u 78), .ref (u 79), .ref (u 80), .ref (u 81), .int 0, .int 0, .int 0])), ((u 77), .inl (kA 7, 8, .inr (.inr (.inr (.inr (nx_q (u 77) 8)))))), (((u 77) + 1 + 0), .inl (kA 2, 61, .inr (.inl (fun _ => 0)))), (((u 77) + 1 + 1), .inl (kA 2, 61, .inr (.inl (fun _ => 0))))]) (wr := [(h0, .inr (11, [.ref (u 0), .ref (u 1), .ref (u 2), .ref (u 3), .ref (u 4), .ref (u 5), .ref (u 6), .ref (u 7), .ref (u 8), .ref (u 9), .ref (u 10), .ref (u 11), .ref (u 12), .ref (u 13), .ref (u 14), .ref (u 15), .ref (u 16), .int 0, .int 0]))]) (rest := []) (As := [.int (nI 0), .int 0]) (q0 := 0) h (c_X3_countWays _ _ kA (u 10) (u 74) (u 75) (u 76) (u 77) (u 78) (u 79) (u 80) (u 81) (fun _ => 0) (fun _ => 0) 0 (by omega)) tw_867 tw_868 tw_869 tw_95 tw_870 (by decide +kernel) rfl ⟨Nat.le_of_ble_eq_true rfl, Nat.le_of_ble_eq_true rfl⟩ rfl rfl rfl (by decide) rfl rfl (by decide) (by decide) (Nat.le_of_ble_eq_true rfl) rfl ⟨Nat.le_of_ble_eq_true rfl, Nat.le_of_ble_eq_true rfl⟩ dX11_countAndLay_3 ?_
    rintro r ⟨q303, q304⟩ e305
    subst e305
    show J x [(h0, .inr (11, [.ref (u 0), .ref (u 1), .ref (u 2), .ref (u 3), .ref (u 4), .ref (u 5), .ref (u 6), .ref (u 7), .ref (u 8), .ref (u 9), .ref (u 10), .ref (u 11), .ref (u 12), .ref (u 13), .ref (u 14), .ref (u 15), .ref (u 16), .int 0, .int 0])), ((u 10), .inr (3, [.ref (u 74), .ref (u 75), .ref (u 76), .ref (u 77), .ref (u 78), .ref (u 79), .ref (u 80), .ref (u 81), .int 0, .int (nI 0), .int 0])), ((u 77), .inl (kA 7, 8, .inr (.inr (.inr (.inr (nx_q (u 77) 8)))))), (((u 77) + 1 + 0), .inl (kA 2, 61, .inr (.inl q303))), (((u 77) + 1 + 1), .inl (kA 2, 61, .inr (.inl q304)))] [(0, .ref h0), (1, .ref (u 10)), (2, .int (nI 0)), (3, .int 0)] 0 0 6 [.long (vWy 0)]
    refine j_topl (b := 1) (rfl) ?_
    refine j_lstore (lv' := [(4, .long 1), (0, .ref h0), (1, .ref (u 10)), (2, .int (nI 0)), (3, .int 0)]) h dX11_countAndLay_6 (by decide) rfl ?_
    refine j_aload_n h 1 rfl rfl dX11_countAndLay_8 ?_
    refine j_lload h 0 rfl dX11_countAndLay_9 ?_
    refine j_lconst (v := 0) h (by decide) dX11_countAndLay_11 ?_
    refine j_lcmp h dX11_countAndLay_12 ?_
    refine j_top (b := 1) (by decide) ?_
    refine j_if_ne h 20 dX11_countAndLay_13 (by decide) (fun _ => ?_) (fun q => absurd q (by decide))
    refine j_aload_n h 2 rfl rfl dX11_countAndLay_20 ?_
    refine j_aload_n h 1 rfl rfl dX11_countAndLay_21 ?_
    refine j_get h iw_X11 0 rfl rfl 16 (by decide) tw_491 rfl dX11_countAndLay_22 ?_
    refine j_callVi (np := 1) (isC := [1]) (isR := [0, 2, 3, 4]) (wc := [((u 10), .inr (3, [.ref (u 74), .ref (u 75), .ref (u 76), .ref (u 77), .ref (u 78), .ref (u 79), .ref (u 80), .ref (u 81), .int 0, .int (nI 0), .int 0]))]) (wr := [(h0, .inr (11, [.ref (u 0), .ref (u 1), .ref (u 2), .ref (u 3), .ref (u 4), .ref (u 5), .ref (u 6), .ref (u 7), .ref (u 8), .ref (u 9), .ref (u 10), .ref (u 11), .ref (u 12), .ref (u 13), .ref (u 14), .ref (u 15), .ref (u 16), .int 0, .int 0])), ((u 77), .inl (kA 7, 8, .inr (.inr (.inr (.inr (nx_q (u 77) 8)))))), (((u 77) + 1 + 0), .inl (kA 2, 61, .inr (.inl q303))), (((u 77) + 1 + 1), .inl (kA 2, 61, .inr (.inl q304)))]) (rest := [.ref h0]) (As := [.ref (u 16)]) (q0 := 0) h (c_X3_layFirst _ _ kA (u 10) (u 74) (u 75) (u 76) (u 77) (u 78) (u 79) (u 80) (u 81) (u 16) ) tw_883 tw_884 tw_885 tw_95 tw_886 (by decide +kernel) rfl ⟨Nat.le_of_ble_eq_true rfl, Nat.le_of_ble_eq_true rfl⟩ rfl rfl rfl (by decide) rfl rfl (by decide) (by decide) (Nat.le_of_ble_eq_true rfl) rfl ⟨Nat.le_of_ble_eq_true rfl, Nat.le_of_ble_eq_true rfl⟩ dX11_countAndLay_25 ?_
    rintro r _ e306
    subst e306
    show J x [(h0, .inr (11, [.ref (u 0), .ref (u 1), .ref (u 2), .ref (u 3), .ref (u 4), .ref (u 5), .ref (u 6), .ref (u 7), .ref (u 8), .ref (u 9), .ref (u 10), .ref (u 11), .ref (u 12), .ref (u 13), .ref (u 14), .ref (u 15), .ref (u 16), .int 0, .int 0])), ((u 77), .inl (kA 7, 8, .inr (.inr (.inr (.inr (nx_q (u 77) 8)))))), (((u 77) + 1 + 0), .inl (kA 2, 61, .inr (.inl q303))), (((u 77) + 1 + 1), .inl (kA 2, 61, .inr (.inl q304))), ((u 10), .inr (3, [.ref (u 74), .ref (u 75), .ref (u 76), .ref (u 77), .ref (u 78), .ref (u 79), .ref (u 80), .ref (u 81), .int 0, .int 0, .int 0]))] [(4, .long 1), (0, .ref h0), (1, .ref (u 10)), (2, .int (nI 0)), (3, .int 0)] 0 0 28 [.int 0, .ref h0]
    refine j_put (ws' := [(h0, .inr (11, [.ref (u 0), .ref (u 1), .ref (u 2), .ref (u 3), .ref (u 4), .ref (u 5), .ref (u 6), .ref (u 7), .ref (u 8), .ref (u 9), .ref (u 10), .ref (u 11), .ref (u 12), .ref (u 13), .ref (u 14), .ref (u 15), .ref (u 16), .int 0, .int 0])), ((u 77), .inl (kA 7, 8, .inr (.inr (.inr (.inr (nx_q (u 77) 8)))))), (((u 77) + 1 + 0), .inl (kA 2, 61, .inr (.inl q303))), (((u 77) + 1 + 1), .inl (kA 2, 61, .inr (.inl q304))), ((u 10), .inr (3, [.ref (u 74), .ref (u 75), .ref (u 76), .ref (u 77), .ref (u 78), .ref (u 79), .ref (u 80), .ref (u 81), .int 0, .int 0, .int 0]))]) h iw_X11 tyX11 tyX11_ok nmX11 0 rfl rfl 17 (by decide) tw_492 rfl rfl rfl (Nat.le_of_ble_eq_true rfl) dX11_countAndLay_28 rfl ?_
    refine j_lload h 0 rfl dX11_countAndLay_31 ?_
    exact j_lret h hq dX11_countAndLay_33 () [] rfl rfl (by decide) (by rfl) (Nat.le_of_ble_eq_true rfl) (Nat.le_of_ble_eq_true rfl)
  · refine j_aload_n h 1 rfl rfl dX11_countAndLay_0 ?_
    refine j_iload_n h 2 rfl rfl dX11_countAndLay_1 ?_
    refine j_iload_n h 3 rfl rfl dX11_countAndLay_2 ?_
    refine j_callVl (np := 2) (isC := [1, 2, 3, 4]) (isR := [0]) (wc := [((u 10), .inr (3, [.ref (u 74), .ref (u 75), .ref (u 76), .ref (u 77), .ref (u 78), .ref (u 79), .ref (u 80), .ref (u 81), .int 0, .int 0, .int 0])), ((u 77), .inl (kA 7, 8, .inr (.inr (.inr (.inr (nx_q (u 77) 8)))))), (((u 77) + 1 + 0), .inl (kA 2, 61, .inr (.inl (fun _ => 0)))), (((u 77) + 1 + 1), .inl (kA 2, 61, .inr (.inl (fun _ => 0))))]) (wr := [(h0, .inr (11, [.ref (u 0), .ref (u 1), .ref (u 2), .ref (u 3), .ref (u 4), .ref (u 5), .ref (u 6), .ref (u 7), .ref (u 8), .ref (u 9), .ref (u 10), .ref (u 11), .ref (u 12), .ref (u 13), .ref (u 14), .ref (u 15), .ref (u 16), .int 0, .int 0]))]) (rest := []) (As := [.int (nI (i + 1)), .int 0]) (q0 := 0) h (c_X3_countWays _ _ kA (u 10) (u 74) (u 75) (u 76) (u 77) (u 78) (u 79) (u 80) (u 81) (fun _ => 0) (fun _ => 0) (i + 1) (by omega)) tw_867 tw_868 tw_869 tw_95 tw_870 (by decide +kernel) rfl ⟨Nat.le_of_ble_eq_true rfl, Nat.le_of_ble_eq_true rfl⟩ rfl rfl rfl (by decide) rfl rfl (by decide) (by decide) (Nat.le_of_ble_eq_true rfl) rfl ⟨Nat.le_of_ble_eq_true rfl, Nat.le_of_ble_eq_true rfl⟩ dX11_countAndLay_3 ?_
    rintro r ⟨q307, q308⟩ e309
    subst e309
    show J x [(h0, .inr (11, [.ref (u 0), .ref (u 1), .ref (u 2), .ref (u 3), .ref (u 4), .ref (u 5), .ref (u 6), .ref (u 7), .ref (u 8), .ref (u 9), .ref (u 10), .ref (u 11), .ref (u 12), .ref (u 13), .ref (u 14), .ref (u 15), .ref (u 16), .int 0, .int 0])), ((u 10), .inr (3, [.ref (u 74), .ref (u 75), .ref (u 76), .ref (u 77), .ref (u 78), .ref (u 79), .ref (u 80), .ref (u 81), .int 0, .int (nI (i + 1)), .int 0])), ((u 77), .inl (kA 7, 8, .inr (.inr (.inr (.inr (nx_q (u 77) 8)))))), (((u 77) + 1 + 0), .inl (kA 2, 61, .inr (.inl q307))), (((u 77) + 1 + 1), .inl (kA 2, 61, .inr (.inl q308)))] [(0, .ref h0), (1, .ref (u 10)), (2, .int (nI (i + 1))), (3, .int 0)] 0 0 6 [.long (vWy (i + 1))]
    refine j_topl (b := 0) (by simp [vWy]) ?_
    refine j_lstore (lv' := [(4, .long 0), (0, .ref h0), (1, .ref (u 10)), (2, .int (nI (i + 1))), (3, .int 0)]) h dX11_countAndLay_6 (by decide) rfl ?_
    refine j_aload_n h 1 rfl rfl dX11_countAndLay_8 ?_
    refine j_lload h 0 rfl dX11_countAndLay_9 ?_
    refine j_lconst (v := 0) h (by decide) dX11_countAndLay_11 ?_
    refine j_lcmp h dX11_countAndLay_12 ?_
    refine j_top (b := 0) (by decide) ?_
    refine j_if_ne h 20 dX11_countAndLay_13 (by decide) (fun q => absurd (by decide) q) (fun _ => ?_)
    refine j_iconst (v := 0) h (by decide) dX11_countAndLay_16 ?_
    refine j_goto h 28 dX11_countAndLay_17 (by decide) ?_
    refine j_put (ws' := [(h0, .inr (11, [.ref (u 0), .ref (u 1), .ref (u 2), .ref (u 3), .ref (u 4), .ref (u 5), .ref (u 6), .ref (u 7), .ref (u 8), .ref (u 9), .ref (u 10), .ref (u 11), .ref (u 12), .ref (u 13), .ref (u 14), .ref (u 15), .ref (u 16), .int 0, .int 0])), ((u 10), .inr (3, [.ref (u 74), .ref (u 75), .ref (u 76), .ref (u 77), .ref (u 78), .ref (u 79), .ref (u 80), .ref (u 81), .int 0, .int (nI (i + 1)), .int 0])), ((u 77), .inl (kA 7, 8, .inr (.inr (.inr (.inr (nx_q (u 77) 8)))))), (((u 77) + 1 + 0), .inl (kA 2, 61, .inr (.inl q307))), (((u 77) + 1 + 1), .inl (kA 2, 61, .inr (.inl q308)))]) h iw_X11 tyX11 tyX11_ok nmX11 0 rfl rfl 17 (by decide) tw_492 rfl rfl rfl (Nat.le_of_ble_eq_true rfl) dX11_countAndLay_28 rfl ?_
    refine j_lload h 0 rfl dX11_countAndLay_31 ?_
    exact j_lret h hq dX11_countAndLay_33 () [] rfl rfl (by decide) (by simp [vWy]) (Nat.le_of_ble_eq_true rfl) (Nat.le_of_ble_eq_true rfl)
set_option maxHeartbeats 4000000 in
set_option maxRecDepth 100000 in
theorem c_X11_timed (l : Launch) (g : va_G) (kA : Nat → ClassId) (h0 : Nat) (u : Nat → Nat) (t : Int32) (z : Int32)  : CtL l yX11_timed cX11_timed 3 (some .long) 4 0 0 g kA [.ref h0, .int t, .int z] [(h0, .inr (11, [.ref (u 0), .ref (u 1), .ref (u 2), .ref (u 3), .ref (u 4), .ref (u 5), .ref (u 6), .ref (u 7), .ref (u 8), .ref (u 9), .ref (u 10), .ref (u 11), .ref (u 12), .ref (u 13), .ref (u 14), .ref (u 15), .ref (u 16), .int 0, .int 0])), ((u 2), .inr (5, [.ref (u 18), .ref (u 19), .ref (u 20), .ref (u 21), .ref (u 22), .ref (u 23), .ref (u 24), .ref (u 25), .ref (u 26), .ref (u 27), .ref (u 28), .ref (u 29), .int 0, .int 0, .int 0])), ((u 9), .inr (3, [.ref (u 66), .ref (u 67), .ref (u 68), .ref (u 69), .ref (u 70), .ref (u 71), .ref (u 72), .ref (u 73), .int 0, .int 0, .int 0])), ((u 10), .inr (3, [.ref (u 74), .ref (u 75), .ref (u 76), .ref (u 77), .ref (u 78), .ref (u 79), .ref (u 80), .ref (u 81), .int 0, .int 0, .int 0])), ((u 77), .inl (kA 7, 8, .inr (.inr (.inr (.inr (nx_q (u 77) 8)))))), (((u 77) + 1 + 0), .inl (kA 2, 61, .inr (.inl (fun _ => 0)))), (((u 77) + 1 + 1), .inl (kA 2, 61, .inr (.inl (fun _ => 0))))] (S := Unit) (fun (r : Int64) (_ : Unit) => r = vTm t 31) (fun (_ : Unit) => []) := by
  refine nx_startL (by decide +kernel) (Nat.le_of_ble_eq_true rfl) ?_
  intro x hnm h hq
  have h : Ok x cX11_timed RX11 kA (rmC 4 0 0) 3 := h
  show J x [(h0, .inr (11, [.ref (u 0), .ref (u 1), .ref (u 2), .ref (u 3), .ref (u 4), .ref (u 5), .ref (u 6), .ref (u 7), .ref (u 8), .ref (u 9), .ref (u 10), .ref (u 11), .ref (u 12), .ref (u 13), .ref (u 14), .ref (u 15), .ref (u 16), .int 0, .int 0])), ((u 2), .inr (5, [.ref (u 18), .ref (u 19), .ref (u 20), .ref (u 21), .ref (u 22), .ref (u 23), .ref (u 24), .ref (u 25), .ref (u 26), .ref (u 27), .ref (u 28), .ref (u 29), .int 0, .int 0, .int 0])), ((u 9), .inr (3, [.ref (u 66), .ref (u 67), .ref (u 68), .ref (u 69), .ref (u 70), .ref (u 71), .ref (u 72), .ref (u 73), .int 0, .int 0, .int 0])), ((u 10), .inr (3, [.ref (u 74), .ref (u 75), .ref (u 76), .ref (u 77), .ref (u 78), .ref (u 79), .ref (u 80), .ref (u 81), .int 0, .int 0, .int 0])), ((u 77), .inl (kA 7, 8, .inr (.inr (.inr (.inr (nx_q (u 77) 8)))))), (((u 77) + 1 + 0), .inl (kA 2, 61, .inr (.inl (fun _ => 0)))), (((u 77) + 1 + 1), .inl (kA 2, 61, .inr (.inl (fun _ => 0))))] [(0, .ref h0), (1, .int t), (2, .int z)] 0 0 0 []
  rcases bRg_cases t 31 (by decide) with ⟨hT, hc⟩ | ⟨hT, hc, hd⟩ | ⟨j, hj, rfl, hBj⟩
  · refine j_iload_n h 1 rfl rfl dX11_timed_0 ?_
    refine j_if_lt h 10 dX11_timed_1 (by decide) (fun _ => ?_) (fun q => absurd (hc) q)
    refine j_ldc2 h tw_815 dX11_timed_10 ?_
    exact j_lret h hq dX11_timed_13 () [] rfl rfl (by decide) (vTm_out hT).symm (Nat.le_of_ble_eq_true rfl) (Nat.le_of_ble_eq_true rfl)
  · refine j_iload_n h 1 rfl rfl dX11_timed_0 ?_
    refine j_if_lt h 10 dX11_timed_1 (by decide) (fun q => absurd q (hc)) (fun _ => ?_)
    refine j_iload_n h 1 rfl rfl dX11_timed_4 ?_
    refine j_bipush (v := 31) h (by decide) dX11_timed_5 ?_
    refine j_icmp_le h 14 dX11_timed_7 (by decide) (fun q => absurd q (Int32.not_le.mpr hd)) (fun _ => ?_)
    refine j_ldc2 h tw_815 dX11_timed_10 ?_
    exact j_lret h hq dX11_timed_13 () [] rfl rfl (by decide) (vTm_out hT).symm (Nat.le_of_ble_eq_true rfl) (Nat.le_of_ble_eq_true rfl)
  · refine j_iload_n h 1 rfl rfl dX11_timed_0 ?_
    refine j_if_lt h 10 dX11_timed_1 (by decide) (fun q => absurd q (nI_pos (by omega))) (fun _ => ?_)
    refine j_iload_n h 1 rfl rfl dX11_timed_4 ?_
    refine j_bipush (v := 31) h (by decide) dX11_timed_5 ?_
    refine j_icmp_le h 14 dX11_timed_7 (by decide) (fun _ => ?_) (fun q => absurd (nI_le (b := 31) (by omega) (by decide)) q)
    refine j_aload_n h 0 rfl rfl dX11_timed_14 ?_
    refine j_get h iw_X11 0 rfl rfl 9 (by decide) tw_484 rfl dX11_timed_15 ?_
    refine j_aload_n h 0 rfl rfl dX11_timed_18 ?_
    refine j_get h iw_X11 0 rfl rfl 2 (by decide) tw_477 rfl dX11_timed_19 ?_
    refine j_iload_n h 2 rfl rfl dX11_timed_22 ?_
    refine j_iload_n h 1 rfl rfl dX11_timed_23 ?_
    refine j_callVv (np := 3) (isC := [2, 1]) (isR := [0, 3, 4, 5, 6]) (wc := [((u 9), .inr (3, [.ref (u 66), .ref (u 67), .ref (u 68), .ref (u 69), .ref (u 70), .ref (u 71), .ref (u 72), .ref (u 73), .int 0, .int 0, .int 0])), ((u 2), .inr (5, [.ref (u 18), .ref (u 19), .ref (u 20), .ref (u 21), .ref (u 22), .ref (u 23), .ref (u 24), .ref (u 25), .ref (u 26), .ref (u 27), .ref (u 28), .ref (u 29), .int 0, .int 0, .int 0]))]) (wr := [(h0, .inr (11, [.ref (u 0), .ref (u 1), .ref (u 2), .ref (u 3), .ref (u 4), .ref (u 5), .ref (u 6), .ref (u 7), .ref (u 8), .ref (u 9), .ref (u 10), .ref (u 11), .ref (u 12), .ref (u 13), .ref (u 14), .ref (u 15), .ref (u 16), .int 0, .int 0])), ((u 10), .inr (3, [.ref (u 74), .ref (u 75), .ref (u 76), .ref (u 77), .ref (u 78), .ref (u 79), .ref (u 80), .ref (u 81), .int 0, .int 0, .int 0])), ((u 77), .inl (kA 7, 8, .inr (.inr (.inr (.inr (nx_q (u 77) 8)))))), (((u 77) + 1 + 0), .inl (kA 2, 61, .inr (.inl (fun _ => 0)))), (((u 77) + 1 + 1), .inl (kA 2, 61, .inr (.inl (fun _ => 0))))]) (rest := []) (As := [.ref (u 2), .int z, .int (nI j)]) (q0 := 0) h (c_X3_fillTimed _ _ kA (u 9) (u 66) (u 67) (u 68) (u 69) (u 70) (u 71) (u 72) (u 73) (u 2) (u 18) (u 19) (u 20) (u 21) (u 22) (u 23) (u 24) (u 25) (u 26) (u 27) (u 28) (u 29) z (nI j) ) tw_1021 tw_1022 tw_1023 tw_95 tw_1024 (by decide +kernel) rfl ⟨Nat.le_of_ble_eq_true rfl, Nat.le_of_ble_eq_true rfl⟩ rfl rfl rfl (by decide) rfl rfl (by decide) (by decide) (Nat.le_of_ble_eq_true rfl) rfl ⟨Nat.le_of_ble_eq_true rfl, Nat.le_of_ble_eq_true rfl⟩ dX11_timed_24 ?_
    rintro _ e310
    show J x [(h0, .inr (11, [.ref (u 0), .ref (u 1), .ref (u 2), .ref (u 3), .ref (u 4), .ref (u 5), .ref (u 6), .ref (u 7), .ref (u 8), .ref (u 9), .ref (u 10), .ref (u 11), .ref (u 12), .ref (u 13), .ref (u 14), .ref (u 15), .ref (u 16), .int 0, .int 0])), ((u 10), .inr (3, [.ref (u 74), .ref (u 75), .ref (u 76), .ref (u 77), .ref (u 78), .ref (u 79), .ref (u 80), .ref (u 81), .int 0, .int 0, .int 0])), ((u 77), .inl (kA 7, 8, .inr (.inr (.inr (.inr (nx_q (u 77) 8)))))), (((u 77) + 1 + 0), .inl (kA 2, 61, .inr (.inl (fun _ => 0)))), (((u 77) + 1 + 1), .inl (kA 2, 61, .inr (.inl (fun _ => 0)))), ((u 9), .inr (3, [.ref (u 66), .ref (u 67), .ref (u 68), .ref (u 69), .ref (u 70), .ref (u 71), .ref (u 72), .ref (u 73), .int 0, .int 0, .int 0])), ((u 2), .inr (5, [.ref (u 18), .ref (u 19), .ref (u 20), .ref (u 21), .ref (u 22), .ref (u 23), .ref (u 24), .ref (u 25), .ref (u 26), .ref (u 27), .ref (u 28), .ref (u 29), .int 0, .int 0, .int 0]))] [(0, .ref h0), (1, .int (nI j)), (2, .int z)] 0 0 27 []
    refine j_aload_n h 0 rfl rfl dX11_timed_27 ?_
    refine j_get h iw_X11 0 rfl rfl 10 (by decide) tw_485 rfl dX11_timed_28 ?_
    refine j_aload_n h 0 rfl rfl dX11_timed_31 ?_
    refine j_get h iw_X11 0 rfl rfl 2 (by decide) tw_477 rfl dX11_timed_32 ?_
    refine j_aload_n h 0 rfl rfl dX11_timed_35 ?_
    refine j_get h iw_X11 0 rfl rfl 9 (by decide) tw_484 rfl dX11_timed_36 ?_
    refine j_sipush (v := 1023) h (by decide) dX11_timed_39 ?_
    refine j_iload_n h 1 rfl rfl dX11_timed_42 ?_
    refine j_callVv (np := 4) (isC := [1, 6]) (isR := [0, 2, 3, 4, 5]) (wc := [((u 10), .inr (3, [.ref (u 74), .ref (u 75), .ref (u 76), .ref (u 77), .ref (u 78), .ref (u 79), .ref (u 80), .ref (u 81), .int 0, .int 0, .int 0])), ((u 2), .inr (5, [.ref (u 18), .ref (u 19), .ref (u 20), .ref (u 21), .ref (u 22), .ref (u 23), .ref (u 24), .ref (u 25), .ref (u 26), .ref (u 27), .ref (u 28), .ref (u 29), .int 0, .int 0, .int 0]))]) (wr := [(h0, .inr (11, [.ref (u 0), .ref (u 1), .ref (u 2), .ref (u 3), .ref (u 4), .ref (u 5), .ref (u 6), .ref (u 7), .ref (u 8), .ref (u 9), .ref (u 10), .ref (u 11), .ref (u 12), .ref (u 13), .ref (u 14), .ref (u 15), .ref (u 16), .int 0, .int 0])), ((u 77), .inl (kA 7, 8, .inr (.inr (.inr (.inr (nx_q (u 77) 8)))))), (((u 77) + 1 + 0), .inl (kA 2, 61, .inr (.inl (fun _ => 0)))), (((u 77) + 1 + 1), .inl (kA 2, 61, .inr (.inl (fun _ => 0)))), ((u 9), .inr (3, [.ref (u 66), .ref (u 67), .ref (u 68), .ref (u 69), .ref (u 70), .ref (u 71), .ref (u 72), .ref (u 73), .int 0, .int 0, .int 0]))]) (rest := []) (As := [.ref (u 2), .ref (u 9), .int 1023, .int (nI j)]) (q0 := 0) h (c_X3_fillLetters _ _ kA (u 10) (u 74) (u 75) (u 76) (u 77) (u 78) (u 79) (u 80) (u 81) (u 2) (u 18) (u 19) (u 20) (u 21) (u 22) (u 23) (u 24) (u 25) (u 26) (u 27) (u 28) (u 29) (u 9) 1023 (nI j) ) tw_855 tw_856 tw_857 tw_95 tw_858 (by decide +kernel) rfl ⟨Nat.le_of_ble_eq_true rfl, Nat.le_of_ble_eq_true rfl⟩ rfl rfl rfl (by decide) rfl rfl (by decide) (by decide) (Nat.le_of_ble_eq_true rfl) rfl ⟨Nat.le_of_ble_eq_true rfl, Nat.le_of_ble_eq_true rfl⟩ dX11_timed_43 ?_
    rintro _ e311
    show J x [(h0, .inr (11, [.ref (u 0), .ref (u 1), .ref (u 2), .ref (u 3), .ref (u 4), .ref (u 5), .ref (u 6), .ref (u 7), .ref (u 8), .ref (u 9), .ref (u 10), .ref (u 11), .ref (u 12), .ref (u 13), .ref (u 14), .ref (u 15), .ref (u 16), .int 0, .int 0])), ((u 77), .inl (kA 7, 8, .inr (.inr (.inr (.inr (nx_q (u 77) 8)))))), (((u 77) + 1 + 0), .inl (kA 2, 61, .inr (.inl (fun _ => 0)))), (((u 77) + 1 + 1), .inl (kA 2, 61, .inr (.inl (fun _ => 0)))), ((u 9), .inr (3, [.ref (u 66), .ref (u 67), .ref (u 68), .ref (u 69), .ref (u 70), .ref (u 71), .ref (u 72), .ref (u 73), .int 0, .int 0, .int 0])), ((u 10), .inr (3, [.ref (u 74), .ref (u 75), .ref (u 76), .ref (u 77), .ref (u 78), .ref (u 79), .ref (u 80), .ref (u 81), .int 0, .int 0, .int 0])), ((u 2), .inr (5, [.ref (u 18), .ref (u 19), .ref (u 20), .ref (u 21), .ref (u 22), .ref (u 23), .ref (u 24), .ref (u 25), .ref (u 26), .ref (u 27), .ref (u 28), .ref (u 29), .int 0, .int 0, .int 0]))] [(0, .ref h0), (1, .int (nI j)), (2, .int z)] 0 0 46 []
    refine j_aload_n h 0 rfl rfl dX11_timed_46 ?_
    refine j_get h iw_X11 0 rfl rfl 10 (by decide) tw_485 rfl dX11_timed_47 ?_
    refine j_iload_n h 1 rfl rfl dX11_timed_50 ?_
    refine j_iconst (v := 0) h (by decide) dX11_timed_51 ?_
    refine j_callVl (np := 2) (isC := [5, 1, 2, 3]) (isR := [0, 4, 6]) (wc := [((u 10), .inr (3, [.ref (u 74), .ref (u 75), .ref (u 76), .ref (u 77), .ref (u 78), .ref (u 79), .ref (u 80), .ref (u 81), .int 0, .int 0, .int 0])), ((u 77), .inl (kA 7, 8, .inr (.inr (.inr (.inr (nx_q (u 77) 8)))))), (((u 77) + 1 + 0), .inl (kA 2, 61, .inr (.inl (fun _ => 0)))), (((u 77) + 1 + 1), .inl (kA 2, 61, .inr (.inl (fun _ => 0))))]) (wr := [(h0, .inr (11, [.ref (u 0), .ref (u 1), .ref (u 2), .ref (u 3), .ref (u 4), .ref (u 5), .ref (u 6), .ref (u 7), .ref (u 8), .ref (u 9), .ref (u 10), .ref (u 11), .ref (u 12), .ref (u 13), .ref (u 14), .ref (u 15), .ref (u 16), .int 0, .int 0])), ((u 9), .inr (3, [.ref (u 66), .ref (u 67), .ref (u 68), .ref (u 69), .ref (u 70), .ref (u 71), .ref (u 72), .ref (u 73), .int 0, .int 0, .int 0])), ((u 2), .inr (5, [.ref (u 18), .ref (u 19), .ref (u 20), .ref (u 21), .ref (u 22), .ref (u 23), .ref (u 24), .ref (u 25), .ref (u 26), .ref (u 27), .ref (u 28), .ref (u 29), .int 0, .int 0, .int 0]))]) (rest := []) (As := [.int (nI j), .int 0]) (q0 := 0) h (c_X3_countWays _ _ kA (u 10) (u 74) (u 75) (u 76) (u 77) (u 78) (u 79) (u 80) (u 81) (fun _ => 0) (fun _ => 0) j (by omega)) tw_867 tw_868 tw_869 tw_95 tw_870 (by decide +kernel) rfl ⟨Nat.le_of_ble_eq_true rfl, Nat.le_of_ble_eq_true rfl⟩ rfl rfl rfl (by decide) rfl rfl (by decide) (by decide) (Nat.le_of_ble_eq_true rfl) rfl ⟨Nat.le_of_ble_eq_true rfl, Nat.le_of_ble_eq_true rfl⟩ dX11_timed_52 ?_
    rintro r ⟨q312, q313⟩ e314
    subst e314
    show J x [(h0, .inr (11, [.ref (u 0), .ref (u 1), .ref (u 2), .ref (u 3), .ref (u 4), .ref (u 5), .ref (u 6), .ref (u 7), .ref (u 8), .ref (u 9), .ref (u 10), .ref (u 11), .ref (u 12), .ref (u 13), .ref (u 14), .ref (u 15), .ref (u 16), .int 0, .int 0])), ((u 9), .inr (3, [.ref (u 66), .ref (u 67), .ref (u 68), .ref (u 69), .ref (u 70), .ref (u 71), .ref (u 72), .ref (u 73), .int 0, .int 0, .int 0])), ((u 2), .inr (5, [.ref (u 18), .ref (u 19), .ref (u 20), .ref (u 21), .ref (u 22), .ref (u 23), .ref (u 24), .ref (u 25), .ref (u 26), .ref (u 27), .ref (u 28), .ref (u 29), .int 0, .int 0, .int 0])), ((u 10), .inr (3, [.ref (u 74), .ref (u 75), .ref (u 76), .ref (u 77), .ref (u 78), .ref (u 79), .ref (u 80), .ref (u 81), .int 0, .int (nI j), .int 0])), ((u 77), .inl (kA 7, 8, .inr (.inr (.inr (.inr (nx_q (u 77) 8)))))), (((u 77) + 1 + 0), .inl (kA 2, 61, .inr (.inl q312))), (((u 77) + 1 + 1), .inl (kA 2, 61, .inr (.inl q313)))] [(0, .ref h0), (1, .int (nI j)), (2, .int z)] 0 0 55 [.long (vWy j)]
    exact j_lret h hq dX11_timed_55 () [] rfl rfl (by decide) (vTm_in (by omega) hBj).symm (Nat.le_of_ble_eq_true rfl) (Nat.le_of_ble_eq_true rfl)
set_option maxHeartbeats 4000000 in
set_option maxRecDepth 100000 in
theorem c_X0_open (l : Launch) (g : va_G) (kA : Nat → ClassId) (h0 : Nat) (a0 : Nat) (a1 : Nat) (a2 : Nat)  : CtV l yX0_open cX0_open 2 (none) 1 0 0 g kA [.ref h0] [(h0, .inr (0, [.ref a0, .ref a1, .ref a2])), (a2, .inl (kA 3, 4, .inl (fun _ => 0)))] (S := Unit) (fun (_ : Unit) => True) (fun (_ : Unit) => [(h0, .inr (0, [.ref a0, .ref a1, .ref a2])), (a2, .inl (kA 3, 4, .inl (upd (upd (upd (upd (fun _ => 0) 0 (vp_nar .boolean 0)) 1 (vp_nar .boolean 0)) 2 (vp_nar .boolean 0)) 3 (vp_nar .boolean 0))))]) := by
  refine nx_startV (by decide +kernel) (Nat.le_of_ble_eq_true rfl) ?_
  intro x hnm h hq
  have h : Ok x cX0_open RX0 kA (rmC 1 0 0) 2 := h
  show J x [(h0, .inr (0, [.ref a0, .ref a1, .ref a2])), (a2, .inl (kA 3, 4, .inl (fun _ => 0)))] [(0, .ref h0)] 0 0 0 []
  refine j_iconst (v := 0) h (by decide) dX0_open_0 ?_
  refine j_istore_n (lv' := [(1, .int 0), (0, .ref h0)]) h dX0_open_1 rfl (by decide) rfl ?_
  refine j_iload_n h 0 rfl rfl dX0_open_2 ?_
  refine j_iconst (v := 4) h (by decide) dX0_open_3 ?_
  refine j_icmp_ge h 20 dX0_open_4 (by decide) (fun q => absurd q (by decide)) (fun _ => ?_)
  refine j_aload_n h 1 rfl rfl dX0_open_7 ?_
  refine j_get h iw_X0 0 rfl rfl 2 (by decide) tw_359 rfl dX0_open_8 ?_
  refine j_iload_n h 0 rfl rfl dX0_open_11 ?_
  refine j_iconst (v := 0) h (by decide) dX0_open_12 ?_
  refine j_zast (ws' := [(h0, .inr (0, [.ref a0, .ref a1, .ref a2])), (a2, .inl (kA 3, 4, .inl (upd (fun _ => 0) 0 (vp_nar .boolean 0))))]) h 1 rfl 0 (by decide) (by decide) (by decide) dX0_open_13 rfl ?_
  refine j_iinc (v := 1) (lv' := [(1, .int 1), (0, .ref h0)]) h dX0_open_14 0 rfl (by decide) (by decide) rfl ?_
  refine j_goto h 2 dX0_open_17 (by decide) ?_
  refine j_iload_n h 0 rfl rfl dX0_open_2 ?_
  refine j_iconst (v := 4) h (by decide) dX0_open_3 ?_
  refine j_icmp_ge h 20 dX0_open_4 (by decide) (fun q => absurd q (by decide)) (fun _ => ?_)
  refine j_aload_n h 1 rfl rfl dX0_open_7 ?_
  refine j_get h iw_X0 0 rfl rfl 2 (by decide) tw_359 rfl dX0_open_8 ?_
  refine j_iload_n h 0 rfl rfl dX0_open_11 ?_
  refine j_iconst (v := 0) h (by decide) dX0_open_12 ?_
  refine j_zast (ws' := [(h0, .inr (0, [.ref a0, .ref a1, .ref a2])), (a2, .inl (kA 3, 4, .inl (upd (upd (fun _ => 0) 0 (vp_nar .boolean 0)) 1 (vp_nar .boolean 0))))]) h 1 rfl 1 (by decide) (by decide) (by decide) dX0_open_13 rfl ?_
  refine j_iinc (v := 2) (lv' := [(1, .int 2), (0, .ref h0)]) h dX0_open_14 0 rfl (by decide) (by decide) rfl ?_
  refine j_goto h 2 dX0_open_17 (by decide) ?_
  refine j_iload_n h 0 rfl rfl dX0_open_2 ?_
  refine j_iconst (v := 4) h (by decide) dX0_open_3 ?_
  refine j_icmp_ge h 20 dX0_open_4 (by decide) (fun q => absurd q (by decide)) (fun _ => ?_)
  refine j_aload_n h 1 rfl rfl dX0_open_7 ?_
  refine j_get h iw_X0 0 rfl rfl 2 (by decide) tw_359 rfl dX0_open_8 ?_
  refine j_iload_n h 0 rfl rfl dX0_open_11 ?_
  refine j_iconst (v := 0) h (by decide) dX0_open_12 ?_
  refine j_zast (ws' := [(h0, .inr (0, [.ref a0, .ref a1, .ref a2])), (a2, .inl (kA 3, 4, .inl (upd (upd (upd (fun _ => 0) 0 (vp_nar .boolean 0)) 1 (vp_nar .boolean 0)) 2 (vp_nar .boolean 0))))]) h 1 rfl 2 (by decide) (by decide) (by decide) dX0_open_13 rfl ?_
  refine j_iinc (v := 3) (lv' := [(1, .int 3), (0, .ref h0)]) h dX0_open_14 0 rfl (by decide) (by decide) rfl ?_
  refine j_goto h 2 dX0_open_17 (by decide) ?_
  refine j_iload_n h 0 rfl rfl dX0_open_2 ?_
  refine j_iconst (v := 4) h (by decide) dX0_open_3 ?_
  refine j_icmp_ge h 20 dX0_open_4 (by decide) (fun q => absurd q (by decide)) (fun _ => ?_)
  refine j_aload_n h 1 rfl rfl dX0_open_7 ?_
  refine j_get h iw_X0 0 rfl rfl 2 (by decide) tw_359 rfl dX0_open_8 ?_
  refine j_iload_n h 0 rfl rfl dX0_open_11 ?_
  refine j_iconst (v := 0) h (by decide) dX0_open_12 ?_
  refine j_zast (ws' := [(h0, .inr (0, [.ref a0, .ref a1, .ref a2])), (a2, .inl (kA 3, 4, .inl (upd (upd (upd (upd (fun _ => 0) 0 (vp_nar .boolean 0)) 1 (vp_nar .boolean 0)) 2 (vp_nar .boolean 0)) 3 (vp_nar .boolean 0))))]) h 1 rfl 3 (by decide) (by decide) (by decide) dX0_open_13 rfl ?_
  refine j_iinc (v := 4) (lv' := [(1, .int 4), (0, .ref h0)]) h dX0_open_14 0 rfl (by decide) (by decide) rfl ?_
  refine j_goto h 2 dX0_open_17 (by decide) ?_
  refine j_iload_n h 0 rfl rfl dX0_open_2 ?_
  refine j_iconst (v := 4) h (by decide) dX0_open_3 ?_
  refine j_icmp_ge h 20 dX0_open_4 (by decide) (fun _ => ?_) (fun q => absurd (by decide) q)
  exact j_vret h hq dX0_open_20 () [0, 1] rfl rfl (by decide) trivial (Nat.le_of_ble_eq_true rfl) (Nat.le_of_ble_eq_true rfl)
set_option maxHeartbeats 4000000 in
set_option maxRecDepth 100000 in
theorem c_X0_areQuietFrom (l : Launch) (g : va_G) (kA : Nat → ClassId) (h0 : Nat) (a0 : Nat) (a1 : Nat) (a2 : Nat) (t : Int32)  : CtI l yX0_areQuietFrom cX0_areQuietFrom 3 (some .boolean) 1 0 0 g kA [.ref h0, .int t] [(h0, .inr (0, [.ref a0, .ref a1, .ref a2])), (a2, .inl (kA 3, 4, .inl (upd (upd (upd (upd (fun _ => 0) 0 (vp_nar .boolean 0)) 1 (vp_nar .boolean 0)) 2 (vp_nar .boolean 0)) 3 (vp_nar .boolean 0))))] (S := Unit) (fun (r : Int32) (_ : Unit) => r = 1) (fun (_ : Unit) => [(h0, .inr (0, [.ref a0, .ref a1, .ref a2])), (a2, .inl (kA 3, 4, .inl (upd (upd (upd (upd (fun _ => 0) 0 (vp_nar .boolean 0)) 1 (vp_nar .boolean 0)) 2 (vp_nar .boolean 0)) 3 (vp_nar .boolean 0))))]) := by
  refine nx_startI (by decide +kernel) (Nat.le_of_ble_eq_true rfl) ?_
  intro x hnm h hq
  have h : Ok x cX0_areQuietFrom RX0 kA (rmC 1 0 0) 3 := h
  show J x [(h0, .inr (0, [.ref a0, .ref a1, .ref a2])), (a2, .inl (kA 3, 4, .inl (upd (upd (upd (upd (fun _ => 0) 0 (vp_nar .boolean 0)) 1 (vp_nar .boolean 0)) 2 (vp_nar .boolean 0)) 3 (vp_nar .boolean 0))))] [(0, .ref h0), (1, .int t)] 0 0 0 []
  refine j_iconst (v := 0) h (by decide) dX0_areQuietFrom_0 ?_
  refine j_istore_n (lv' := [(2, .int 0), (0, .ref h0), (1, .int t)]) h dX0_areQuietFrom_1 rfl (by decide) rfl ?_
  refine j_iload_n h 0 rfl rfl dX0_areQuietFrom_2 ?_
  refine j_iconst (v := 4) h (by decide) dX0_areQuietFrom_3 ?_
  refine j_icmp_ge h 35 dX0_areQuietFrom_4 (by decide) (fun q => absurd q (by decide)) (fun _ => ?_)
  refine j_aload_n h 1 rfl rfl dX0_areQuietFrom_7 ?_
  refine j_get h iw_X0 0 rfl rfl 2 (by decide) tw_359 rfl dX0_areQuietFrom_8 ?_
  refine j_iload_n h 0 rfl rfl dX0_areQuietFrom_11 ?_
  refine j_zald h 1 rfl 0 (by decide) (by decide) (by decide) dX0_areQuietFrom_12 ?_
  refine j_top (b := 0) rfl ?_
  refine j_if_eq h 29 dX0_areQuietFrom_13 (by decide) (fun _ => ?_) (fun q => absurd (by decide) q)
  refine j_iinc (v := 1) (lv' := [(2, .int 1), (0, .ref h0), (1, .int t)]) h dX0_areQuietFrom_29 0 rfl (by decide) (by decide) rfl ?_
  refine j_goto h 2 dX0_areQuietFrom_32 (by decide) ?_
  refine j_iload_n h 0 rfl rfl dX0_areQuietFrom_2 ?_
  refine j_iconst (v := 4) h (by decide) dX0_areQuietFrom_3 ?_
  refine j_icmp_ge h 35 dX0_areQuietFrom_4 (by decide) (fun q => absurd q (by decide)) (fun _ => ?_)
  refine j_aload_n h 1 rfl rfl dX0_areQuietFrom_7 ?_
  refine j_get h iw_X0 0 rfl rfl 2 (by decide) tw_359 rfl dX0_areQuietFrom_8 ?_
  refine j_iload_n h 0 rfl rfl dX0_areQuietFrom_11 ?_
  refine j_zald h 1 rfl 1 (by decide) (by decide) (by decide) dX0_areQuietFrom_12 ?_
  refine j_top (b := 0) rfl ?_
  refine j_if_eq h 29 dX0_areQuietFrom_13 (by decide) (fun _ => ?_) (fun q => absurd (by decide) q)
  refine j_iinc (v := 2) (lv' := [(2, .int 2), (0, .ref h0), (1, .int t)]) h dX0_areQuietFrom_29 0 rfl (by decide) (by decide) rfl ?_
  refine j_goto h 2 dX0_areQuietFrom_32 (by decide) ?_
  refine j_iload_n h 0 rfl rfl dX0_areQuietFrom_2 ?_
  refine j_iconst (v := 4) h (by decide) dX0_areQuietFrom_3 ?_
  refine j_icmp_ge h 35 dX0_areQuietFrom_4 (by decide) (fun q => absurd q (by decide)) (fun _ => ?_)
  refine j_aload_n h 1 rfl rfl dX0_areQuietFrom_7 ?_
  refine j_get h iw_X0 0 rfl rfl 2 (by decide) tw_359 rfl dX0_areQuietFrom_8 ?_
  refine j_iload_n h 0 rfl rfl dX0_areQuietFrom_11 ?_
  refine j_zald h 1 rfl 2 (by decide) (by decide) (by decide) dX0_areQuietFrom_12 ?_
  refine j_top (b := 0) rfl ?_
  refine j_if_eq h 29 dX0_areQuietFrom_13 (by decide) (fun _ => ?_) (fun q => absurd (by decide) q)
  refine j_iinc (v := 3) (lv' := [(2, .int 3), (0, .ref h0), (1, .int t)]) h dX0_areQuietFrom_29 0 rfl (by decide) (by decide) rfl ?_
  refine j_goto h 2 dX0_areQuietFrom_32 (by decide) ?_
  refine j_iload_n h 0 rfl rfl dX0_areQuietFrom_2 ?_
  refine j_iconst (v := 4) h (by decide) dX0_areQuietFrom_3 ?_
  refine j_icmp_ge h 35 dX0_areQuietFrom_4 (by decide) (fun q => absurd q (by decide)) (fun _ => ?_)
  refine j_aload_n h 1 rfl rfl dX0_areQuietFrom_7 ?_
  refine j_get h iw_X0 0 rfl rfl 2 (by decide) tw_359 rfl dX0_areQuietFrom_8 ?_
  refine j_iload_n h 0 rfl rfl dX0_areQuietFrom_11 ?_
  refine j_zald h 1 rfl 3 (by decide) (by decide) (by decide) dX0_areQuietFrom_12 ?_
  refine j_top (b := 0) rfl ?_
  refine j_if_eq h 29 dX0_areQuietFrom_13 (by decide) (fun _ => ?_) (fun q => absurd (by decide) q)
  refine j_iinc (v := 4) (lv' := [(2, .int 4), (0, .ref h0), (1, .int t)]) h dX0_areQuietFrom_29 0 rfl (by decide) (by decide) rfl ?_
  refine j_goto h 2 dX0_areQuietFrom_32 (by decide) ?_
  refine j_iload_n h 0 rfl rfl dX0_areQuietFrom_2 ?_
  refine j_iconst (v := 4) h (by decide) dX0_areQuietFrom_3 ?_
  refine j_icmp_ge h 35 dX0_areQuietFrom_4 (by decide) (fun _ => ?_) (fun q => absurd (by decide) q)
  refine j_iconst (v := 1) h (by decide) dX0_areQuietFrom_35 ?_
  exact j_zret h hq rfl dX0_areQuietFrom_36 () [0, 1] rfl rfl (by decide) (by first | rfl | simp only [↓reduceIte]) (Nat.le_of_ble_eq_true rfl) (Nat.le_of_ble_eq_true rfl)
set_option maxHeartbeats 4000000 in
set_option maxRecDepth 100000 in
theorem c_X8_narrowAsKnown (l : Launch) (g : va_G) (kA : Nat → ClassId) (h0 : Nat) (a0 : Nat) (a1 : Nat) (a2 : Nat) (a3 : Nat) (a4 : Nat) (a5 : Nat) (b : Nat) (z : Int32)  : CtV l yX8_narrowAsKnown cX8_narrowAsKnown 5 (none) 1 0 0 g kA [.ref h0, .ref b, .int z] [(h0, .inr (8, [.ref a0, .ref a1, .ref a2, .ref a3, .ref a4, .ref a5, .int 0]))] (S := Unit) (fun (_ : Unit) => True) (fun (_ : Unit) => [(h0, .inr (8, [.ref a0, .ref a1, .ref a2, .ref a3, .ref a4, .ref a5, .int 0]))]) := by
  refine nx_startV (by decide +kernel) (Nat.le_of_ble_eq_true rfl) ?_
  intro x hnm h hq
  have h : Ok x cX8_narrowAsKnown RX8 kA (rmC 1 0 0) 5 := h
  show J x [(h0, .inr (8, [.ref a0, .ref a1, .ref a2, .ref a3, .ref a4, .ref a5, .int 0]))] [(0, .ref h0), (1, .ref b), (2, .int z)] 0 0 0 []
  refine j_iconst (v := 0) h (by decide) dX8_narrowAsKnown_0 ?_
  refine j_istore_n (lv' := [(3, .int 0), (0, .ref h0), (1, .ref b), (2, .int z)]) h dX8_narrowAsKnown_1 rfl (by decide) rfl ?_
  refine j_iload_n h 0 rfl rfl dX8_narrowAsKnown_2 ?_
  refine j_aload_n h 1 rfl rfl dX8_narrowAsKnown_3 ?_
  refine j_get h iw_X8 0 rfl rfl 6 (by decide) tw_333 rfl dX8_narrowAsKnown_4 ?_
  refine j_icmp_ge h 87 dX8_narrowAsKnown_7 (by decide) (fun _ => ?_) (fun q => absurd (by decide) q)
  exact j_vret h hq dX8_narrowAsKnown_87 () [0] rfl rfl (by decide) trivial (Nat.le_of_ble_eq_true rfl) (Nat.le_of_ble_eq_true rfl)
set_option maxHeartbeats 4000000 in
set_option maxRecDepth 100000 in
theorem c_X11_fillMeant (l : Launch) (g : va_G) (kA : Nat → ClassId) (h0 : Nat) (u : Nat → Nat) (t : Int32) (z : Int32)  : CtI l yX11_fillMeant cX11_fillMeant 3 (some .boolean) 4 0 0 g kA [.ref h0, .int t, .int z] [(h0, .inr (11, [.ref (u 0), .ref (u 1), .ref (u 2), .ref (u 3), .ref (u 4), .ref (u 5), .ref (u 6), .ref (u 7), .ref (u 8), .ref (u 9), .ref (u 10), .ref (u 11), .ref (u 12), .ref (u 13), .ref (u 14), .ref (u 15), .ref (u 16), .int 0, .int 0])), ((u 8), .inr (0, [.ref (u 63), .ref (u 64), .ref (u 65)])), ((u 65), .inl (kA 3, 4, .inl (fun _ => 0))), ((u 7), .inr (8, [.ref (u 57), .ref (u 58), .ref (u 59), .ref (u 60), .ref (u 61), .ref (u 62), .int 0])), ((u 9), .inr (3, [.ref (u 66), .ref (u 67), .ref (u 68), .ref (u 69), .ref (u 70), .ref (u 71), .ref (u 72), .ref (u 73), .int 0, .int 0, .int 0])), ((u 2), .inr (5, [.ref (u 18), .ref (u 19), .ref (u 20), .ref (u 21), .ref (u 22), .ref (u 23), .ref (u 24), .ref (u 25), .ref (u 26), .ref (u 27), .ref (u 28), .ref (u 29), .int 0, .int 0, .int 0])), ((u 4), .inr (2, [.ref (u 42), .ref (u 43), .int 0, .int 0, .int 0, .int 0])), ((u 10), .inr (3, [.ref (u 74), .ref (u 75), .ref (u 76), .ref (u 77), .ref (u 78), .ref (u 79), .ref (u 80), .ref (u 81), .int 0, .int 0, .int 0]))] (S := Unit) (fun (r : Int32) (_ : Unit) => r = 1) (fun (_ : Unit) => [(h0, .inr (11, [.ref (u 0), .ref (u 1), .ref (u 2), .ref (u 3), .ref (u 4), .ref (u 5), .ref (u 6), .ref (u 7), .ref (u 8), .ref (u 9), .ref (u 10), .ref (u 11), .ref (u 12), .ref (u 13), .ref (u 14), .ref (u 15), .ref (u 16), .int 0, .int 0])), ((u 10), .inr (3, [.ref (u 74), .ref (u 75), .ref (u 76), .ref (u 77), .ref (u 78), .ref (u 79), .ref (u 80), .ref (u 81), .int 0, .int 0, .int 0]))]) := by
  refine nx_startI (by decide +kernel) (Nat.le_of_ble_eq_true rfl) ?_
  intro x hnm h hq
  have h : Ok x cX11_fillMeant RX11 kA (rmC 4 0 0) 3 := h
  show J x [(h0, .inr (11, [.ref (u 0), .ref (u 1), .ref (u 2), .ref (u 3), .ref (u 4), .ref (u 5), .ref (u 6), .ref (u 7), .ref (u 8), .ref (u 9), .ref (u 10), .ref (u 11), .ref (u 12), .ref (u 13), .ref (u 14), .ref (u 15), .ref (u 16), .int 0, .int 0])), ((u 8), .inr (0, [.ref (u 63), .ref (u 64), .ref (u 65)])), ((u 65), .inl (kA 3, 4, .inl (fun _ => 0))), ((u 7), .inr (8, [.ref (u 57), .ref (u 58), .ref (u 59), .ref (u 60), .ref (u 61), .ref (u 62), .int 0])), ((u 9), .inr (3, [.ref (u 66), .ref (u 67), .ref (u 68), .ref (u 69), .ref (u 70), .ref (u 71), .ref (u 72), .ref (u 73), .int 0, .int 0, .int 0])), ((u 2), .inr (5, [.ref (u 18), .ref (u 19), .ref (u 20), .ref (u 21), .ref (u 22), .ref (u 23), .ref (u 24), .ref (u 25), .ref (u 26), .ref (u 27), .ref (u 28), .ref (u 29), .int 0, .int 0, .int 0])), ((u 4), .inr (2, [.ref (u 42), .ref (u 43), .int 0, .int 0, .int 0, .int 0])), ((u 10), .inr (3, [.ref (u 74), .ref (u 75), .ref (u 76), .ref (u 77), .ref (u 78), .ref (u 79), .ref (u 80), .ref (u 81), .int 0, .int 0, .int 0]))] [(0, .ref h0), (1, .int t), (2, .int z)] 0 0 0 []
  refine j_aload_n h 0 rfl rfl dX11_fillMeant_0 ?_
  refine j_get h iw_X11 0 rfl rfl 8 (by decide) tw_483 rfl dX11_fillMeant_1 ?_
  refine j_callVv (np := 0) (isC := [1, 2]) (isR := [0, 3, 4, 5, 6, 7]) (wc := [((u 8), .inr (0, [.ref (u 63), .ref (u 64), .ref (u 65)])), ((u 65), .inl (kA 3, 4, .inl (fun _ => 0)))]) (wr := [(h0, .inr (11, [.ref (u 0), .ref (u 1), .ref (u 2), .ref (u 3), .ref (u 4), .ref (u 5), .ref (u 6), .ref (u 7), .ref (u 8), .ref (u 9), .ref (u 10), .ref (u 11), .ref (u 12), .ref (u 13), .ref (u 14), .ref (u 15), .ref (u 16), .int 0, .int 0])), ((u 7), .inr (8, [.ref (u 57), .ref (u 58), .ref (u 59), .ref (u 60), .ref (u 61), .ref (u 62), .int 0])), ((u 9), .inr (3, [.ref (u 66), .ref (u 67), .ref (u 68), .ref (u 69), .ref (u 70), .ref (u 71), .ref (u 72), .ref (u 73), .int 0, .int 0, .int 0])), ((u 2), .inr (5, [.ref (u 18), .ref (u 19), .ref (u 20), .ref (u 21), .ref (u 22), .ref (u 23), .ref (u 24), .ref (u 25), .ref (u 26), .ref (u 27), .ref (u 28), .ref (u 29), .int 0, .int 0, .int 0])), ((u 4), .inr (2, [.ref (u 42), .ref (u 43), .int 0, .int 0, .int 0, .int 0])), ((u 10), .inr (3, [.ref (u 74), .ref (u 75), .ref (u 76), .ref (u 77), .ref (u 78), .ref (u 79), .ref (u 80), .ref (u 81), .int 0, .int 0, .int 0]))]) (rest := []) (As := []) (q0 := 0) h (c_X0_open _ _ kA (u 8) (u 63) (u 64) (u 65) ) tw_816 tw_817 tw_818 tw_94 tw_819 (by decide +kernel) rfl ⟨Nat.le_of_ble_eq_true rfl, Nat.le_of_ble_eq_true rfl⟩ rfl rfl rfl (by decide) rfl rfl (by decide) (by decide) (Nat.le_of_ble_eq_true rfl) rfl ⟨Nat.le_of_ble_eq_true rfl, Nat.le_of_ble_eq_true rfl⟩ dX11_fillMeant_4 ?_
  rintro _ e315
  show J x [(h0, .inr (11, [.ref (u 0), .ref (u 1), .ref (u 2), .ref (u 3), .ref (u 4), .ref (u 5), .ref (u 6), .ref (u 7), .ref (u 8), .ref (u 9), .ref (u 10), .ref (u 11), .ref (u 12), .ref (u 13), .ref (u 14), .ref (u 15), .ref (u 16), .int 0, .int 0])), ((u 7), .inr (8, [.ref (u 57), .ref (u 58), .ref (u 59), .ref (u 60), .ref (u 61), .ref (u 62), .int 0])), ((u 9), .inr (3, [.ref (u 66), .ref (u 67), .ref (u 68), .ref (u 69), .ref (u 70), .ref (u 71), .ref (u 72), .ref (u 73), .int 0, .int 0, .int 0])), ((u 2), .inr (5, [.ref (u 18), .ref (u 19), .ref (u 20), .ref (u 21), .ref (u 22), .ref (u 23), .ref (u 24), .ref (u 25), .ref (u 26), .ref (u 27), .ref (u 28), .ref (u 29), .int 0, .int 0, .int 0])), ((u 4), .inr (2, [.ref (u 42), .ref (u 43), .int 0, .int 0, .int 0, .int 0])), ((u 10), .inr (3, [.ref (u 74), .ref (u 75), .ref (u 76), .ref (u 77), .ref (u 78), .ref (u 79), .ref (u 80), .ref (u 81), .int 0, .int 0, .int 0])), ((u 8), .inr (0, [.ref (u 63), .ref (u 64), .ref (u 65)])), ((u 65), .inl (kA 3, 4, .inl (upd (upd (upd (upd (fun _ => 0) 0 (vp_nar .boolean 0)) 1 (vp_nar .boolean 0)) 2 (vp_nar .boolean 0)) 3 (vp_nar .boolean 0))))] [(0, .ref h0), (1, .int t), (2, .int z)] 0 0 7 []
  refine j_aload_n h 0 rfl rfl dX11_fillMeant_7 ?_
  refine j_get h iw_X11 0 rfl rfl 7 (by decide) tw_482 rfl dX11_fillMeant_8 ?_
  refine j_aload_n h 0 rfl rfl dX11_fillMeant_11 ?_
  refine j_get h iw_X11 0 rfl rfl 8 (by decide) tw_483 rfl dX11_fillMeant_12 ?_
  refine j_iload_n h 2 rfl rfl dX11_fillMeant_15 ?_
  refine j_callVv (np := 2) (isC := [1]) (isR := [0, 2, 3, 4, 5, 6, 7]) (wc := [((u 7), .inr (8, [.ref (u 57), .ref (u 58), .ref (u 59), .ref (u 60), .ref (u 61), .ref (u 62), .int 0]))]) (wr := [(h0, .inr (11, [.ref (u 0), .ref (u 1), .ref (u 2), .ref (u 3), .ref (u 4), .ref (u 5), .ref (u 6), .ref (u 7), .ref (u 8), .ref (u 9), .ref (u 10), .ref (u 11), .ref (u 12), .ref (u 13), .ref (u 14), .ref (u 15), .ref (u 16), .int 0, .int 0])), ((u 9), .inr (3, [.ref (u 66), .ref (u 67), .ref (u 68), .ref (u 69), .ref (u 70), .ref (u 71), .ref (u 72), .ref (u 73), .int 0, .int 0, .int 0])), ((u 2), .inr (5, [.ref (u 18), .ref (u 19), .ref (u 20), .ref (u 21), .ref (u 22), .ref (u 23), .ref (u 24), .ref (u 25), .ref (u 26), .ref (u 27), .ref (u 28), .ref (u 29), .int 0, .int 0, .int 0])), ((u 4), .inr (2, [.ref (u 42), .ref (u 43), .int 0, .int 0, .int 0, .int 0])), ((u 10), .inr (3, [.ref (u 74), .ref (u 75), .ref (u 76), .ref (u 77), .ref (u 78), .ref (u 79), .ref (u 80), .ref (u 81), .int 0, .int 0, .int 0])), ((u 8), .inr (0, [.ref (u 63), .ref (u 64), .ref (u 65)])), ((u 65), .inl (kA 3, 4, .inl (upd (upd (upd (upd (fun _ => 0) 0 (vp_nar .boolean 0)) 1 (vp_nar .boolean 0)) 2 (vp_nar .boolean 0)) 3 (vp_nar .boolean 0))))]) (rest := []) (As := [.ref (u 8), .int z]) (q0 := 0) h (c_X8_narrowAsKnown _ _ kA (u 7) (u 57) (u 58) (u 59) (u 60) (u 61) (u 62) (u 8) z ) tw_1098 tw_1099 tw_1100 tw_93 tw_1101 (by decide +kernel) rfl ⟨Nat.le_of_ble_eq_true rfl, Nat.le_of_ble_eq_true rfl⟩ rfl rfl rfl (by decide) rfl rfl (by decide) (by decide) (Nat.le_of_ble_eq_true rfl) rfl ⟨Nat.le_of_ble_eq_true rfl, Nat.le_of_ble_eq_true rfl⟩ dX11_fillMeant_16 ?_
  rintro _ e316
  show J x [(h0, .inr (11, [.ref (u 0), .ref (u 1), .ref (u 2), .ref (u 3), .ref (u 4), .ref (u 5), .ref (u 6), .ref (u 7), .ref (u 8), .ref (u 9), .ref (u 10), .ref (u 11), .ref (u 12), .ref (u 13), .ref (u 14), .ref (u 15), .ref (u 16), .int 0, .int 0])), ((u 9), .inr (3, [.ref (u 66), .ref (u 67), .ref (u 68), .ref (u 69), .ref (u 70), .ref (u 71), .ref (u 72), .ref (u 73), .int 0, .int 0, .int 0])), ((u 2), .inr (5, [.ref (u 18), .ref (u 19), .ref (u 20), .ref (u 21), .ref (u 22), .ref (u 23), .ref (u 24), .ref (u 25), .ref (u 26), .ref (u 27), .ref (u 28), .ref (u 29), .int 0, .int 0, .int 0])), ((u 4), .inr (2, [.ref (u 42), .ref (u 43), .int 0, .int 0, .int 0, .int 0])), ((u 10), .inr (3, [.ref (u 74), .ref (u 75), .ref (u 76), .ref (u 77), .ref (u 78), .ref (u 79), .ref (u 80), .ref (u 81), .int 0, .int 0, .int 0])), ((u 8), .inr (0, [.ref (u 63), .ref (u 64), .ref (u 65)])), ((u 65), .inl (kA 3, 4, .inl (upd (upd (upd (upd (fun _ => 0) 0 (vp_nar .boolean 0)) 1 (vp_nar .boolean 0)) 2 (vp_nar .boolean 0)) 3 (vp_nar .boolean 0)))), ((u 7), .inr (8, [.ref (u 57), .ref (u 58), .ref (u 59), .ref (u 60), .ref (u 61), .ref (u 62), .int 0]))] [(0, .ref h0), (1, .int t), (2, .int z)] 0 0 19 []
  refine j_aload_n h 0 rfl rfl dX11_fillMeant_19 ?_
  refine j_get h iw_X11 0 rfl rfl 8 (by decide) tw_483 rfl dX11_fillMeant_20 ?_
  refine j_iload_n h 1 rfl rfl dX11_fillMeant_23 ?_
  refine j_callVi (np := 1) (isC := [5, 6]) (isR := [0, 1, 2, 3, 4, 7]) (wc := [((u 8), .inr (0, [.ref (u 63), .ref (u 64), .ref (u 65)])), ((u 65), .inl (kA 3, 4, .inl (upd (upd (upd (upd (fun _ => 0) 0 (vp_nar .boolean 0)) 1 (vp_nar .boolean 0)) 2 (vp_nar .boolean 0)) 3 (vp_nar .boolean 0))))]) (wr := [(h0, .inr (11, [.ref (u 0), .ref (u 1), .ref (u 2), .ref (u 3), .ref (u 4), .ref (u 5), .ref (u 6), .ref (u 7), .ref (u 8), .ref (u 9), .ref (u 10), .ref (u 11), .ref (u 12), .ref (u 13), .ref (u 14), .ref (u 15), .ref (u 16), .int 0, .int 0])), ((u 9), .inr (3, [.ref (u 66), .ref (u 67), .ref (u 68), .ref (u 69), .ref (u 70), .ref (u 71), .ref (u 72), .ref (u 73), .int 0, .int 0, .int 0])), ((u 2), .inr (5, [.ref (u 18), .ref (u 19), .ref (u 20), .ref (u 21), .ref (u 22), .ref (u 23), .ref (u 24), .ref (u 25), .ref (u 26), .ref (u 27), .ref (u 28), .ref (u 29), .int 0, .int 0, .int 0])), ((u 4), .inr (2, [.ref (u 42), .ref (u 43), .int 0, .int 0, .int 0, .int 0])), ((u 10), .inr (3, [.ref (u 74), .ref (u 75), .ref (u 76), .ref (u 77), .ref (u 78), .ref (u 79), .ref (u 80), .ref (u 81), .int 0, .int 0, .int 0])), ((u 7), .inr (8, [.ref (u 57), .ref (u 58), .ref (u 59), .ref (u 60), .ref (u 61), .ref (u 62), .int 0]))]) (rest := []) (As := [.int t]) (q0 := 0) h (c_X0_areQuietFrom _ _ kA (u 8) (u 63) (u 64) (u 65) t ) tw_1103 tw_1104 tw_1105 tw_94 tw_1106 (by decide +kernel) rfl ⟨Nat.le_of_ble_eq_true rfl, Nat.le_of_ble_eq_true rfl⟩ rfl rfl rfl (by decide) rfl rfl (by decide) (by decide) (Nat.le_of_ble_eq_true rfl) rfl ⟨Nat.le_of_ble_eq_true rfl, Nat.le_of_ble_eq_true rfl⟩ dX11_fillMeant_24 ?_
  rintro r _ e317
  subst e317
  show J x [(h0, .inr (11, [.ref (u 0), .ref (u 1), .ref (u 2), .ref (u 3), .ref (u 4), .ref (u 5), .ref (u 6), .ref (u 7), .ref (u 8), .ref (u 9), .ref (u 10), .ref (u 11), .ref (u 12), .ref (u 13), .ref (u 14), .ref (u 15), .ref (u 16), .int 0, .int 0])), ((u 9), .inr (3, [.ref (u 66), .ref (u 67), .ref (u 68), .ref (u 69), .ref (u 70), .ref (u 71), .ref (u 72), .ref (u 73), .int 0, .int 0, .int 0])), ((u 2), .inr (5, [.ref (u 18), .ref (u 19), .ref (u 20), .ref (u 21), .ref (u 22), .ref (u 23), .ref (u 24), .ref (u 25), .ref (u 26), .ref (u 27), .ref (u 28), .ref (u 29), .int 0, .int 0, .int 0])), ((u 4), .inr (2, [.ref (u 42), .ref (u 43), .int 0, .int 0, .int 0, .int 0])), ((u 10), .inr (3, [.ref (u 74), .ref (u 75), .ref (u 76), .ref (u 77), .ref (u 78), .ref (u 79), .ref (u 80), .ref (u 81), .int 0, .int 0, .int 0])), ((u 7), .inr (8, [.ref (u 57), .ref (u 58), .ref (u 59), .ref (u 60), .ref (u 61), .ref (u 62), .int 0])), ((u 8), .inr (0, [.ref (u 63), .ref (u 64), .ref (u 65)])), ((u 65), .inl (kA 3, 4, .inl (upd (upd (upd (upd (fun _ => 0) 0 (vp_nar .boolean 0)) 1 (vp_nar .boolean 0)) 2 (vp_nar .boolean 0)) 3 (vp_nar .boolean 0))))] [(0, .ref h0), (1, .int t), (2, .int z)] 0 0 27 [.int 1]
  refine j_if_ne h 32 dX11_fillMeant_27 (by decide) (fun _ => ?_) (fun q => absurd q (by decide))
  refine j_aload_n h 0 rfl rfl dX11_fillMeant_32 ?_
  refine j_get h iw_X11 0 rfl rfl 9 (by decide) tw_484 rfl dX11_fillMeant_33 ?_
  refine j_aload_n h 0 rfl rfl dX11_fillMeant_36 ?_
  refine j_get h iw_X11 0 rfl rfl 2 (by decide) tw_477 rfl dX11_fillMeant_37 ?_
  refine j_aload_n h 0 rfl rfl dX11_fillMeant_40 ?_
  refine j_get h iw_X11 0 rfl rfl 4 (by decide) tw_479 rfl dX11_fillMeant_41 ?_
  refine j_get h iw_X2 3 rfl rfl 1 (by decide) tw_273 rfl dX11_fillMeant_44 ?_
  refine j_aload_n h 0 rfl rfl dX11_fillMeant_47 ?_
  refine j_get h iw_X11 0 rfl rfl 8 (by decide) tw_483 rfl dX11_fillMeant_48 ?_
  refine j_iload_n h 1 rfl rfl dX11_fillMeant_51 ?_
  refine j_callVv (np := 4) (isC := [1, 2]) (isR := [0, 3, 4, 5, 6, 7]) (wc := [((u 9), .inr (3, [.ref (u 66), .ref (u 67), .ref (u 68), .ref (u 69), .ref (u 70), .ref (u 71), .ref (u 72), .ref (u 73), .int 0, .int 0, .int 0])), ((u 2), .inr (5, [.ref (u 18), .ref (u 19), .ref (u 20), .ref (u 21), .ref (u 22), .ref (u 23), .ref (u 24), .ref (u 25), .ref (u 26), .ref (u 27), .ref (u 28), .ref (u 29), .int 0, .int 0, .int 0]))]) (wr := [(h0, .inr (11, [.ref (u 0), .ref (u 1), .ref (u 2), .ref (u 3), .ref (u 4), .ref (u 5), .ref (u 6), .ref (u 7), .ref (u 8), .ref (u 9), .ref (u 10), .ref (u 11), .ref (u 12), .ref (u 13), .ref (u 14), .ref (u 15), .ref (u 16), .int 0, .int 0])), ((u 4), .inr (2, [.ref (u 42), .ref (u 43), .int 0, .int 0, .int 0, .int 0])), ((u 10), .inr (3, [.ref (u 74), .ref (u 75), .ref (u 76), .ref (u 77), .ref (u 78), .ref (u 79), .ref (u 80), .ref (u 81), .int 0, .int 0, .int 0])), ((u 7), .inr (8, [.ref (u 57), .ref (u 58), .ref (u 59), .ref (u 60), .ref (u 61), .ref (u 62), .int 0])), ((u 8), .inr (0, [.ref (u 63), .ref (u 64), .ref (u 65)])), ((u 65), .inl (kA 3, 4, .inl (upd (upd (upd (upd (fun _ => 0) 0 (vp_nar .boolean 0)) 1 (vp_nar .boolean 0)) 2 (vp_nar .boolean 0)) 3 (vp_nar .boolean 0))))]) (rest := []) (As := [.ref (u 2), .ref (u 43), .ref (u 8), .int t]) (q0 := 0) h (c_X3_fillSteps _ _ kA (u 9) (u 66) (u 67) (u 68) (u 69) (u 70) (u 71) (u 72) (u 73) (u 2) (u 18) (u 19) (u 20) (u 21) (u 22) (u 23) (u 24) (u 25) (u 26) (u 27) (u 28) (u 29) (u 43) (u 8) t ) tw_833 tw_834 tw_835 tw_95 tw_836 (by decide +kernel) rfl ⟨Nat.le_of_ble_eq_true rfl, Nat.le_of_ble_eq_true rfl⟩ rfl rfl rfl (by decide) rfl rfl (by decide) (by decide) (Nat.le_of_ble_eq_true rfl) rfl ⟨Nat.le_of_ble_eq_true rfl, Nat.le_of_ble_eq_true rfl⟩ dX11_fillMeant_52 ?_
  rintro _ e318
  show J x [(h0, .inr (11, [.ref (u 0), .ref (u 1), .ref (u 2), .ref (u 3), .ref (u 4), .ref (u 5), .ref (u 6), .ref (u 7), .ref (u 8), .ref (u 9), .ref (u 10), .ref (u 11), .ref (u 12), .ref (u 13), .ref (u 14), .ref (u 15), .ref (u 16), .int 0, .int 0])), ((u 4), .inr (2, [.ref (u 42), .ref (u 43), .int 0, .int 0, .int 0, .int 0])), ((u 10), .inr (3, [.ref (u 74), .ref (u 75), .ref (u 76), .ref (u 77), .ref (u 78), .ref (u 79), .ref (u 80), .ref (u 81), .int 0, .int 0, .int 0])), ((u 7), .inr (8, [.ref (u 57), .ref (u 58), .ref (u 59), .ref (u 60), .ref (u 61), .ref (u 62), .int 0])), ((u 8), .inr (0, [.ref (u 63), .ref (u 64), .ref (u 65)])), ((u 65), .inl (kA 3, 4, .inl (upd (upd (upd (upd (fun _ => 0) 0 (vp_nar .boolean 0)) 1 (vp_nar .boolean 0)) 2 (vp_nar .boolean 0)) 3 (vp_nar .boolean 0)))), ((u 9), .inr (3, [.ref (u 66), .ref (u 67), .ref (u 68), .ref (u 69), .ref (u 70), .ref (u 71), .ref (u 72), .ref (u 73), .int 0, .int 0, .int 0])), ((u 2), .inr (5, [.ref (u 18), .ref (u 19), .ref (u 20), .ref (u 21), .ref (u 22), .ref (u 23), .ref (u 24), .ref (u 25), .ref (u 26), .ref (u 27), .ref (u 28), .ref (u 29), .int 0, .int 0, .int 0]))] [(0, .ref h0), (1, .int t), (2, .int z)] 0 0 55 []
  refine j_aload_n h 0 rfl rfl dX11_fillMeant_55 ?_
  refine j_get h iw_X11 0 rfl rfl 10 (by decide) tw_485 rfl dX11_fillMeant_56 ?_
  refine j_aload_n h 0 rfl rfl dX11_fillMeant_59 ?_
  refine j_get h iw_X11 0 rfl rfl 2 (by decide) tw_477 rfl dX11_fillMeant_60 ?_
  refine j_aload_n h 0 rfl rfl dX11_fillMeant_63 ?_
  refine j_get h iw_X11 0 rfl rfl 9 (by decide) tw_484 rfl dX11_fillMeant_64 ?_
  refine j_sipush (v := 1023) h (by decide) dX11_fillMeant_67 ?_
  refine j_iload_n h 1 rfl rfl dX11_fillMeant_70 ?_
  refine j_callVv (np := 4) (isC := [2, 7]) (isR := [0, 1, 3, 4, 5, 6]) (wc := [((u 10), .inr (3, [.ref (u 74), .ref (u 75), .ref (u 76), .ref (u 77), .ref (u 78), .ref (u 79), .ref (u 80), .ref (u 81), .int 0, .int 0, .int 0])), ((u 2), .inr (5, [.ref (u 18), .ref (u 19), .ref (u 20), .ref (u 21), .ref (u 22), .ref (u 23), .ref (u 24), .ref (u 25), .ref (u 26), .ref (u 27), .ref (u 28), .ref (u 29), .int 0, .int 0, .int 0]))]) (wr := [(h0, .inr (11, [.ref (u 0), .ref (u 1), .ref (u 2), .ref (u 3), .ref (u 4), .ref (u 5), .ref (u 6), .ref (u 7), .ref (u 8), .ref (u 9), .ref (u 10), .ref (u 11), .ref (u 12), .ref (u 13), .ref (u 14), .ref (u 15), .ref (u 16), .int 0, .int 0])), ((u 4), .inr (2, [.ref (u 42), .ref (u 43), .int 0, .int 0, .int 0, .int 0])), ((u 7), .inr (8, [.ref (u 57), .ref (u 58), .ref (u 59), .ref (u 60), .ref (u 61), .ref (u 62), .int 0])), ((u 8), .inr (0, [.ref (u 63), .ref (u 64), .ref (u 65)])), ((u 65), .inl (kA 3, 4, .inl (upd (upd (upd (upd (fun _ => 0) 0 (vp_nar .boolean 0)) 1 (vp_nar .boolean 0)) 2 (vp_nar .boolean 0)) 3 (vp_nar .boolean 0)))), ((u 9), .inr (3, [.ref (u 66), .ref (u 67), .ref (u 68), .ref (u 69), .ref (u 70), .ref (u 71), .ref (u 72), .ref (u 73), .int 0, .int 0, .int 0]))]) (rest := []) (As := [.ref (u 2), .ref (u 9), .int 1023, .int t]) (q0 := 0) h (c_X3_fillLetters _ _ kA (u 10) (u 74) (u 75) (u 76) (u 77) (u 78) (u 79) (u 80) (u 81) (u 2) (u 18) (u 19) (u 20) (u 21) (u 22) (u 23) (u 24) (u 25) (u 26) (u 27) (u 28) (u 29) (u 9) 1023 t ) tw_855 tw_856 tw_857 tw_95 tw_858 (by decide +kernel) rfl ⟨Nat.le_of_ble_eq_true rfl, Nat.le_of_ble_eq_true rfl⟩ rfl rfl rfl (by decide) rfl rfl (by decide) (by decide) (Nat.le_of_ble_eq_true rfl) rfl ⟨Nat.le_of_ble_eq_true rfl, Nat.le_of_ble_eq_true rfl⟩ dX11_fillMeant_71 ?_
  rintro _ e319
  show J x [(h0, .inr (11, [.ref (u 0), .ref (u 1), .ref (u 2), .ref (u 3), .ref (u 4), .ref (u 5), .ref (u 6), .ref (u 7), .ref (u 8), .ref (u 9), .ref (u 10), .ref (u 11), .ref (u 12), .ref (u 13), .ref (u 14), .ref (u 15), .ref (u 16), .int 0, .int 0])), ((u 4), .inr (2, [.ref (u 42), .ref (u 43), .int 0, .int 0, .int 0, .int 0])), ((u 7), .inr (8, [.ref (u 57), .ref (u 58), .ref (u 59), .ref (u 60), .ref (u 61), .ref (u 62), .int 0])), ((u 8), .inr (0, [.ref (u 63), .ref (u 64), .ref (u 65)])), ((u 65), .inl (kA 3, 4, .inl (upd (upd (upd (upd (fun _ => 0) 0 (vp_nar .boolean 0)) 1 (vp_nar .boolean 0)) 2 (vp_nar .boolean 0)) 3 (vp_nar .boolean 0)))), ((u 9), .inr (3, [.ref (u 66), .ref (u 67), .ref (u 68), .ref (u 69), .ref (u 70), .ref (u 71), .ref (u 72), .ref (u 73), .int 0, .int 0, .int 0])), ((u 10), .inr (3, [.ref (u 74), .ref (u 75), .ref (u 76), .ref (u 77), .ref (u 78), .ref (u 79), .ref (u 80), .ref (u 81), .int 0, .int 0, .int 0])), ((u 2), .inr (5, [.ref (u 18), .ref (u 19), .ref (u 20), .ref (u 21), .ref (u 22), .ref (u 23), .ref (u 24), .ref (u 25), .ref (u 26), .ref (u 27), .ref (u 28), .ref (u 29), .int 0, .int 0, .int 0]))] [(0, .ref h0), (1, .int t), (2, .int z)] 0 0 74 []
  refine j_iconst (v := 1) h (by decide) dX11_fillMeant_74 ?_
  exact j_zret h hq rfl dX11_fillMeant_75 () [0, 6] rfl rfl (by decide) (by first | rfl | simp only [↓reduceIte]) (Nat.le_of_ble_eq_true rfl) (Nat.le_of_ble_eq_true rfl)
set_option maxHeartbeats 4000000 in
set_option maxRecDepth 100000 in
theorem c_X11_meant (l : Launch) (g : va_G) (kA : Nat → ClassId) (h0 : Nat) (u : Nat → Nat) (t : Int32) (z : Int32)  : CtL l yX11_meant cX11_meant 3 (some .long) 5 0 0 g kA [.ref h0, .int t, .int z] [(h0, .inr (11, [.ref (u 0), .ref (u 1), .ref (u 2), .ref (u 3), .ref (u 4), .ref (u 5), .ref (u 6), .ref (u 7), .ref (u 8), .ref (u 9), .ref (u 10), .ref (u 11), .ref (u 12), .ref (u 13), .ref (u 14), .ref (u 15), .ref (u 16), .int 0, .int 0])), ((u 8), .inr (0, [.ref (u 63), .ref (u 64), .ref (u 65)])), ((u 65), .inl (kA 3, 4, .inl (fun _ => 0))), ((u 7), .inr (8, [.ref (u 57), .ref (u 58), .ref (u 59), .ref (u 60), .ref (u 61), .ref (u 62), .int 0])), ((u 9), .inr (3, [.ref (u 66), .ref (u 67), .ref (u 68), .ref (u 69), .ref (u 70), .ref (u 71), .ref (u 72), .ref (u 73), .int 0, .int 0, .int 0])), ((u 2), .inr (5, [.ref (u 18), .ref (u 19), .ref (u 20), .ref (u 21), .ref (u 22), .ref (u 23), .ref (u 24), .ref (u 25), .ref (u 26), .ref (u 27), .ref (u 28), .ref (u 29), .int 0, .int 0, .int 0])), ((u 4), .inr (2, [.ref (u 42), .ref (u 43), .int 0, .int 0, .int 0, .int 0])), ((u 10), .inr (3, [.ref (u 74), .ref (u 75), .ref (u 76), .ref (u 77), .ref (u 78), .ref (u 79), .ref (u 80), .ref (u 81), .int 0, .int 0, .int 0])), ((u 77), .inl (kA 7, 8, .inr (.inr (.inr (.inr (nx_q (u 77) 8)))))), (((u 77) + 1 + 0), .inl (kA 2, 61, .inr (.inl (fun _ => 0)))), (((u 77) + 1 + 1), .inl (kA 2, 61, .inr (.inl (fun _ => 0))))] (S := Unit) (fun (r : Int64) (_ : Unit) => r = vTm t 60) (fun (_ : Unit) => []) := by
  refine nx_startL (by decide +kernel) (Nat.le_of_ble_eq_true rfl) ?_
  intro x hnm h hq
  have h : Ok x cX11_meant RX11 kA (rmC 5 0 0) 3 := h
  show J x [(h0, .inr (11, [.ref (u 0), .ref (u 1), .ref (u 2), .ref (u 3), .ref (u 4), .ref (u 5), .ref (u 6), .ref (u 7), .ref (u 8), .ref (u 9), .ref (u 10), .ref (u 11), .ref (u 12), .ref (u 13), .ref (u 14), .ref (u 15), .ref (u 16), .int 0, .int 0])), ((u 8), .inr (0, [.ref (u 63), .ref (u 64), .ref (u 65)])), ((u 65), .inl (kA 3, 4, .inl (fun _ => 0))), ((u 7), .inr (8, [.ref (u 57), .ref (u 58), .ref (u 59), .ref (u 60), .ref (u 61), .ref (u 62), .int 0])), ((u 9), .inr (3, [.ref (u 66), .ref (u 67), .ref (u 68), .ref (u 69), .ref (u 70), .ref (u 71), .ref (u 72), .ref (u 73), .int 0, .int 0, .int 0])), ((u 2), .inr (5, [.ref (u 18), .ref (u 19), .ref (u 20), .ref (u 21), .ref (u 22), .ref (u 23), .ref (u 24), .ref (u 25), .ref (u 26), .ref (u 27), .ref (u 28), .ref (u 29), .int 0, .int 0, .int 0])), ((u 4), .inr (2, [.ref (u 42), .ref (u 43), .int 0, .int 0, .int 0, .int 0])), ((u 10), .inr (3, [.ref (u 74), .ref (u 75), .ref (u 76), .ref (u 77), .ref (u 78), .ref (u 79), .ref (u 80), .ref (u 81), .int 0, .int 0, .int 0])), ((u 77), .inl (kA 7, 8, .inr (.inr (.inr (.inr (nx_q (u 77) 8)))))), (((u 77) + 1 + 0), .inl (kA 2, 61, .inr (.inl (fun _ => 0)))), (((u 77) + 1 + 1), .inl (kA 2, 61, .inr (.inl (fun _ => 0))))] [(0, .ref h0), (1, .int t), (2, .int z)] 0 0 0 []
  rcases bRg_cases t 60 (by decide) with ⟨hT, hc⟩ | ⟨hT, hc, hd⟩ | ⟨j, hj, rfl, hBj⟩
  · refine j_aload_n h 0 rfl rfl dX11_meant_0 ?_
    refine j_iconst (v := 0) h (by decide) dX11_meant_1 ?_
    refine j_put (ws' := [(h0, .inr (11, [.ref (u 0), .ref (u 1), .ref (u 2), .ref (u 3), .ref (u 4), .ref (u 5), .ref (u 6), .ref (u 7), .ref (u 8), .ref (u 9), .ref (u 10), .ref (u 11), .ref (u 12), .ref (u 13), .ref (u 14), .ref (u 15), .ref (u 16), .int 0, .int 0])), ((u 8), .inr (0, [.ref (u 63), .ref (u 64), .ref (u 65)])), ((u 65), .inl (kA 3, 4, .inl (fun _ => 0))), ((u 7), .inr (8, [.ref (u 57), .ref (u 58), .ref (u 59), .ref (u 60), .ref (u 61), .ref (u 62), .int 0])), ((u 9), .inr (3, [.ref (u 66), .ref (u 67), .ref (u 68), .ref (u 69), .ref (u 70), .ref (u 71), .ref (u 72), .ref (u 73), .int 0, .int 0, .int 0])), ((u 2), .inr (5, [.ref (u 18), .ref (u 19), .ref (u 20), .ref (u 21), .ref (u 22), .ref (u 23), .ref (u 24), .ref (u 25), .ref (u 26), .ref (u 27), .ref (u 28), .ref (u 29), .int 0, .int 0, .int 0])), ((u 4), .inr (2, [.ref (u 42), .ref (u 43), .int 0, .int 0, .int 0, .int 0])), ((u 10), .inr (3, [.ref (u 74), .ref (u 75), .ref (u 76), .ref (u 77), .ref (u 78), .ref (u 79), .ref (u 80), .ref (u 81), .int 0, .int 0, .int 0])), ((u 77), .inl (kA 7, 8, .inr (.inr (.inr (.inr (nx_q (u 77) 8)))))), (((u 77) + 1 + 0), .inl (kA 2, 61, .inr (.inl (fun _ => 0)))), (((u 77) + 1 + 1), .inl (kA 2, 61, .inr (.inl (fun _ => 0))))]) h iw_X11 tyX11 tyX11_ok nmX11 0 rfl rfl 17 (by decide) tw_492 rfl rfl rfl (Nat.le_of_ble_eq_true rfl) dX11_meant_2 rfl ?_
    refine j_iload_n h 1 rfl rfl dX11_meant_5 ?_
    refine j_if_lt h 15 dX11_meant_6 (by decide) (fun _ => ?_) (fun q => absurd (hc) q)
    refine j_ldc2 h tw_815 dX11_meant_15 ?_
    exact j_lret h hq dX11_meant_18 () [] rfl rfl (by decide) (vTm_out hT).symm (Nat.le_of_ble_eq_true rfl) (Nat.le_of_ble_eq_true rfl)
  · refine j_aload_n h 0 rfl rfl dX11_meant_0 ?_
    refine j_iconst (v := 0) h (by decide) dX11_meant_1 ?_
    refine j_put (ws' := [(h0, .inr (11, [.ref (u 0), .ref (u 1), .ref (u 2), .ref (u 3), .ref (u 4), .ref (u 5), .ref (u 6), .ref (u 7), .ref (u 8), .ref (u 9), .ref (u 10), .ref (u 11), .ref (u 12), .ref (u 13), .ref (u 14), .ref (u 15), .ref (u 16), .int 0, .int 0])), ((u 8), .inr (0, [.ref (u 63), .ref (u 64), .ref (u 65)])), ((u 65), .inl (kA 3, 4, .inl (fun _ => 0))), ((u 7), .inr (8, [.ref (u 57), .ref (u 58), .ref (u 59), .ref (u 60), .ref (u 61), .ref (u 62), .int 0])), ((u 9), .inr (3, [.ref (u 66), .ref (u 67), .ref (u 68), .ref (u 69), .ref (u 70), .ref (u 71), .ref (u 72), .ref (u 73), .int 0, .int 0, .int 0])), ((u 2), .inr (5, [.ref (u 18), .ref (u 19), .ref (u 20), .ref (u 21), .ref (u 22), .ref (u 23), .ref (u 24), .ref (u 25), .ref (u 26), .ref (u 27), .ref (u 28), .ref (u 29), .int 0, .int 0, .int 0])), ((u 4), .inr (2, [.ref (u 42), .ref (u 43), .int 0, .int 0, .int 0, .int 0])), ((u 10), .inr (3, [.ref (u 74), .ref (u 75), .ref (u 76), .ref (u 77), .ref (u 78), .ref (u 79), .ref (u 80), .ref (u 81), .int 0, .int 0, .int 0])), ((u 77), .inl (kA 7, 8, .inr (.inr (.inr (.inr (nx_q (u 77) 8)))))), (((u 77) + 1 + 0), .inl (kA 2, 61, .inr (.inl (fun _ => 0)))), (((u 77) + 1 + 1), .inl (kA 2, 61, .inr (.inl (fun _ => 0))))]) h iw_X11 tyX11 tyX11_ok nmX11 0 rfl rfl 17 (by decide) tw_492 rfl rfl rfl (Nat.le_of_ble_eq_true rfl) dX11_meant_2 rfl ?_
    refine j_iload_n h 1 rfl rfl dX11_meant_5 ?_
    refine j_if_lt h 15 dX11_meant_6 (by decide) (fun q => absurd q (hc)) (fun _ => ?_)
    refine j_iload_n h 1 rfl rfl dX11_meant_9 ?_
    refine j_bipush (v := 60) h (by decide) dX11_meant_10 ?_
    refine j_icmp_le h 19 dX11_meant_12 (by decide) (fun q => absurd q (Int32.not_le.mpr hd)) (fun _ => ?_)
    refine j_ldc2 h tw_815 dX11_meant_15 ?_
    exact j_lret h hq dX11_meant_18 () [] rfl rfl (by decide) (vTm_out hT).symm (Nat.le_of_ble_eq_true rfl) (Nat.le_of_ble_eq_true rfl)
  · refine j_aload_n h 0 rfl rfl dX11_meant_0 ?_
    refine j_iconst (v := 0) h (by decide) dX11_meant_1 ?_
    refine j_put (ws' := [(h0, .inr (11, [.ref (u 0), .ref (u 1), .ref (u 2), .ref (u 3), .ref (u 4), .ref (u 5), .ref (u 6), .ref (u 7), .ref (u 8), .ref (u 9), .ref (u 10), .ref (u 11), .ref (u 12), .ref (u 13), .ref (u 14), .ref (u 15), .ref (u 16), .int 0, .int 0])), ((u 8), .inr (0, [.ref (u 63), .ref (u 64), .ref (u 65)])), ((u 65), .inl (kA 3, 4, .inl (fun _ => 0))), ((u 7), .inr (8, [.ref (u 57), .ref (u 58), .ref (u 59), .ref (u 60), .ref (u 61), .ref (u 62), .int 0])), ((u 9), .inr (3, [.ref (u 66), .ref (u 67), .ref (u 68), .ref (u 69), .ref (u 70), .ref (u 71), .ref (u 72), .ref (u 73), .int 0, .int 0, .int 0])), ((u 2), .inr (5, [.ref (u 18), .ref (u 19), .ref (u 20), .ref (u 21), .ref (u 22), .ref (u 23), .ref (u 24), .ref (u 25), .ref (u 26), .ref (u 27), .ref (u 28), .ref (u 29), .int 0, .int 0, .int 0])), ((u 4), .inr (2, [.ref (u 42), .ref (u 43), .int 0, .int 0, .int 0, .int 0])), ((u 10), .inr (3, [.ref (u 74), .ref (u 75), .ref (u 76), .ref (u 77), .ref (u 78), .ref (u 79), .ref (u 80), .ref (u 81), .int 0, .int 0, .int 0])), ((u 77), .inl (kA 7, 8, .inr (.inr (.inr (.inr (nx_q (u 77) 8)))))), (((u 77) + 1 + 0), .inl (kA 2, 61, .inr (.inl (fun _ => 0)))), (((u 77) + 1 + 1), .inl (kA 2, 61, .inr (.inl (fun _ => 0))))]) h iw_X11 tyX11 tyX11_ok nmX11 0 rfl rfl 17 (by decide) tw_492 rfl rfl rfl (Nat.le_of_ble_eq_true rfl) dX11_meant_2 rfl ?_
    refine j_iload_n h 1 rfl rfl dX11_meant_5 ?_
    refine j_if_lt h 15 dX11_meant_6 (by decide) (fun q => absurd q (nI_pos (by omega))) (fun _ => ?_)
    refine j_iload_n h 1 rfl rfl dX11_meant_9 ?_
    refine j_bipush (v := 60) h (by decide) dX11_meant_10 ?_
    refine j_icmp_le h 19 dX11_meant_12 (by decide) (fun _ => ?_) (fun q => absurd (nI_le (b := 60) (by omega) (by decide)) q)
    refine j_aload_n h 0 rfl rfl dX11_meant_19 ?_
    refine j_iload_n h 1 rfl rfl dX11_meant_20 ?_
    refine j_iload_n h 2 rfl rfl dX11_meant_21 ?_
    refine j_callVi (np := 2) (isC := [0, 1, 2, 3, 4, 5, 6, 7]) (isR := [8, 9, 10]) (wc := [(h0, .inr (11, [.ref (u 0), .ref (u 1), .ref (u 2), .ref (u 3), .ref (u 4), .ref (u 5), .ref (u 6), .ref (u 7), .ref (u 8), .ref (u 9), .ref (u 10), .ref (u 11), .ref (u 12), .ref (u 13), .ref (u 14), .ref (u 15), .ref (u 16), .int 0, .int 0])), ((u 8), .inr (0, [.ref (u 63), .ref (u 64), .ref (u 65)])), ((u 65), .inl (kA 3, 4, .inl (fun _ => 0))), ((u 7), .inr (8, [.ref (u 57), .ref (u 58), .ref (u 59), .ref (u 60), .ref (u 61), .ref (u 62), .int 0])), ((u 9), .inr (3, [.ref (u 66), .ref (u 67), .ref (u 68), .ref (u 69), .ref (u 70), .ref (u 71), .ref (u 72), .ref (u 73), .int 0, .int 0, .int 0])), ((u 2), .inr (5, [.ref (u 18), .ref (u 19), .ref (u 20), .ref (u 21), .ref (u 22), .ref (u 23), .ref (u 24), .ref (u 25), .ref (u 26), .ref (u 27), .ref (u 28), .ref (u 29), .int 0, .int 0, .int 0])), ((u 4), .inr (2, [.ref (u 42), .ref (u 43), .int 0, .int 0, .int 0, .int 0])), ((u 10), .inr (3, [.ref (u 74), .ref (u 75), .ref (u 76), .ref (u 77), .ref (u 78), .ref (u 79), .ref (u 80), .ref (u 81), .int 0, .int 0, .int 0]))]) (wr := [((u 77), .inl (kA 7, 8, .inr (.inr (.inr (.inr (nx_q (u 77) 8)))))), (((u 77) + 1 + 0), .inl (kA 2, 61, .inr (.inl (fun _ => 0)))), (((u 77) + 1 + 1), .inl (kA 2, 61, .inr (.inl (fun _ => 0))))]) (rest := []) (As := [.int (nI j), .int z]) (q0 := 0) h (c_X11_fillMeant _ _ kA h0 u (nI j) z ) tw_1094 tw_1096 tw_34 tw_87 tw_1097 (by decide +kernel) rfl ⟨Nat.le_of_ble_eq_true rfl, Nat.le_of_ble_eq_true rfl⟩ rfl rfl rfl (by decide) rfl rfl (by decide) (by decide) (Nat.le_of_ble_eq_true rfl) rfl ⟨Nat.le_of_ble_eq_true rfl, Nat.le_of_ble_eq_true rfl⟩ dX11_meant_22 ?_
    rintro r _ e320
    subst e320
    show J x [((u 77), .inl (kA 7, 8, .inr (.inr (.inr (.inr (nx_q (u 77) 8)))))), (((u 77) + 1 + 0), .inl (kA 2, 61, .inr (.inl (fun _ => 0)))), (((u 77) + 1 + 1), .inl (kA 2, 61, .inr (.inl (fun _ => 0)))), (h0, .inr (11, [.ref (u 0), .ref (u 1), .ref (u 2), .ref (u 3), .ref (u 4), .ref (u 5), .ref (u 6), .ref (u 7), .ref (u 8), .ref (u 9), .ref (u 10), .ref (u 11), .ref (u 12), .ref (u 13), .ref (u 14), .ref (u 15), .ref (u 16), .int 0, .int 0])), ((u 10), .inr (3, [.ref (u 74), .ref (u 75), .ref (u 76), .ref (u 77), .ref (u 78), .ref (u 79), .ref (u 80), .ref (u 81), .int 0, .int 0, .int 0]))] [(0, .ref h0), (1, .int (nI j)), (2, .int z)] 0 0 25 [.int 1]
    refine j_if_eq h 41 dX11_meant_25 (by decide) (fun q => absurd q (by decide)) (fun _ => ?_)
    refine j_aload_n h 0 rfl rfl dX11_meant_28 ?_
    refine j_aload_n h 0 rfl rfl dX11_meant_29 ?_
    refine j_get h iw_X11 3 rfl rfl 10 (by decide) tw_485 rfl dX11_meant_30 ?_
    refine j_iload_n h 1 rfl rfl dX11_meant_33 ?_
    refine j_iconst (v := 0) h (by decide) dX11_meant_34 ?_
    refine j_callVl (np := 3) (isC := [3, 4, 0, 1, 2]) (isR := []) (wc := [(h0, .inr (11, [.ref (u 0), .ref (u 1), .ref (u 2), .ref (u 3), .ref (u 4), .ref (u 5), .ref (u 6), .ref (u 7), .ref (u 8), .ref (u 9), .ref (u 10), .ref (u 11), .ref (u 12), .ref (u 13), .ref (u 14), .ref (u 15), .ref (u 16), .int 0, .int 0])), ((u 10), .inr (3, [.ref (u 74), .ref (u 75), .ref (u 76), .ref (u 77), .ref (u 78), .ref (u 79), .ref (u 80), .ref (u 81), .int 0, .int 0, .int 0])), ((u 77), .inl (kA 7, 8, .inr (.inr (.inr (.inr (nx_q (u 77) 8)))))), (((u 77) + 1 + 0), .inl (kA 2, 61, .inr (.inl (fun _ => 0)))), (((u 77) + 1 + 1), .inl (kA 2, 61, .inr (.inl (fun _ => 0))))]) (wr := []) (rest := []) (As := [.ref (u 10), .int (nI j), .int 0]) (q0 := 0) h (c_X11_countAndLay _ _ kA h0 u j (by omega)) tw_863 tw_865 tw_19 tw_87 tw_866 (by decide +kernel) rfl ⟨Nat.le_of_ble_eq_true rfl, Nat.le_of_ble_eq_true rfl⟩ rfl rfl rfl (by decide) rfl rfl (by decide) (by decide) (Nat.le_of_ble_eq_true rfl) rfl ⟨Nat.le_of_ble_eq_true rfl, Nat.le_of_ble_eq_true rfl⟩ dX11_meant_35 ?_
    rintro r _ e321
    subst e321
    show J x [] [(0, .ref h0), (1, .int (nI j)), (2, .int z)] 0 0 38 [.long (vWy j)]
    refine j_goto h 42 dX11_meant_38 (by decide) ?_
    exact j_lret h hq dX11_meant_42 () [] rfl rfl (by decide) (vTm_in (by omega) hBj).symm (Nat.le_of_ble_eq_true rfl) (Nat.le_of_ble_eq_true rfl)
