theorem sL_le : ∀ i, i < 20 → sL i ≤ 8 := by decide +kernel
theorem sch : ∀ i, i < 20 → ∀ k, k < sL i → (((sB i).getD k 0 &&& 255).toUInt32 % 65536).toInt32 = (sB i).getD k 0 ∧ narrow .char (.int ((sB i).getD k 0)) = .int ((sB i).getD k 0) := by decide +kernel
section JST
variable {x : Cx} {cc : ByteArray} {own : String} {kA : Nat → ClassId} {rm : Room} {nL : Nat} {ws : va_W} {w : mW} {lv : List (Nat × Value)} {cells slots pc : Nat} {st : List Value}
theorem j_ldcS (h : Ok x cc own kA rm nL) (i : Nat) (hi : i < 20) {idx : Nat} (ho : (sTa i).1 = own) (hx : (sTa i).2.1 = idx) (d : decode cc pc = .ok (.ldc idx, 2)) (kk : J x ws lv cells slots (pc + 2) (.ref (kA (100 + i)) :: st)) : J x ws lv cells slots pc st := fun H locs ls hP hD hS hl => va_ldcS h.ex h.by h.ow (by have q := (h.ss.1 i hi).2; rw [ho, hx] at q; exact q) d (kk H locs ls hP hD hS hl)
theorem j_getsC (h : Ok x cc own kA rm nL) {idx : Nat} (t : Cond.fieldLink own idx "java/lang/String" "COMPACT_STRINGS" "Z" ∈ TT) (d : decode cc pc = .ok (.getstatic idx, 3)) (kk : J x ws lv cells slots (pc + 3) (.int 1 :: st)) : J x ws lv cells slots pc st := fun H locs ls hP hD hS hl => va_gets h.ex h.by h.ss.2.1 hS h.ow (h.ts _ t) (fun _ q => q) d (kk H locs ls hP hD hS hl)
theorem j_getsQ (h : Ok x cc own kA rm nL) {idx : Nat} (t : Cond.fieldLink own idx "jdk/internal/util/Preconditions" "SIOOBE_FORMATTER" "Ljava/util/function/BiFunction;" ∈ TT) (d : decode cc pc = .ok (.getstatic idx, 3)) (k1 : ∀ q : Nat, J x ws lv cells slots (pc + 3) (.ref q :: st)) (k2 : J x ws lv cells slots (pc + 3) (.null :: st)) : J x ws lv cells slots pc st := fun H locs ls hP hD hS hl => by
  rcases h.ss.2.2 with z | ⟨q, z⟩
  · exact va_gets h.ex h.by z hS h.ow (h.ts _ t) (fun _ q => q) d (k2 H locs ls hP hD hS hl)
  · exact va_gets h.ex h.by z hS h.ow (h.ts _ t) (fun _ q => q) d (k1 q H locs ls hP hD hS hl)
theorem j_sval (h : Ok x cc own kA rm nL) {i idx : Nat} (hi : i < 20) (t : Cond.fieldLink own idx "java/lang/String" "value" "[B" ∈ TT) (d : decode cc pc = .ok (.getfield idx, 3)) (kk : J x ws lv cells slots (pc + 3) (.ref (kA (200 + i)) :: st)) : J x ws lv cells slots pc (.ref (kA (100 + i)) :: st) := fun H locs ls hP hD hS hl => vk_getf h.ex h.by (h.ss.1 i hi).1.2.2.1 hS h.ow (h.ts _ t) (fun _ q => q) d (kk H locs ls hP hD hS hl)
theorem j_scod (h : Ok x cc own kA rm nL) {i idx : Nat} (hi : i < 20) (t : Cond.fieldLink own idx "java/lang/String" "coder" "B" ∈ TT) (d : decode cc pc = .ok (.getfield idx, 3)) (kk : J x ws lv cells slots (pc + 3) (.int 0 :: st)) : J x ws lv cells slots pc (.ref (kA (100 + i)) :: st) := fun H locs ls hP hD hS hl => vk_getf h.ex h.by (h.ss.1 i hi).1.2.1 hS h.ow (h.ts _ t) (fun _ q => q) d (kk H locs ls hP hD hS hl)
theorem j_slen (h : Ok x cc own kA rm nL) {i : Nat} (hi : i < 20) (d : decode cc pc = .ok (.arraylength, 1)) (kk : J x ws lv cells slots (pc + 1) (.int (nI (sL i)) :: st)) : J x ws lv cells slots pc (.ref (kA (200 + i)) :: st) := fun H locs ls hP hD hS hl => va_tlen h.ex h.by (h.ss.1 i hi).1.2.2.2 hS rfl d (kk H locs ls hP hD hS hl)
theorem j_sbyt (h : Ok x cc own kA rm nL) {i k : Nat} (hi : i < 20) (hk : k < sL i) (d : decode cc pc = .ok (.baload, 1)) (kk : J x ws lv cells slots (pc + 1) (.int ((sB i).getD k 0) :: st)) : J x ws lv cells slots pc (.int (nI k) :: .ref (kA (200 + i)) :: st) := fun H locs ls hP hD hS hl => va_tb h.ex h.by (h.ss.1 i hi).1.2.2.2 hS (vp_in_nI hk (by have := sL_le i hi; omega)) (by show Value.int ((sB i).getD (nI k).toNatClampNeg 0) = _; rw [nI_clamp (by have := sL_le i hi; omega)]) d (kk H locs ls hP hD hS hl)
theorem j_i2c (h : Ok x cc own kA rm nL) {a v : Int32} (hv : (a.toUInt32 % 65536).toInt32 = v) (d : decode cc pc = .ok (.i2c, 1)) (kk : J x ws lv cells slots (pc + 1) (.int v :: st)) : J x ws lv cells slots pc (.int a :: st) := fun H locs ls hP hD hS hl => lv_i2c h.ex h.by d hv (kk H locs ls hP hD hS hl)
theorem j_callVKi (h : Ok x cc own kA rm nL) {S : Type} {post : Int32 → S → Prop} {w1 : S → va_W} {y : MethodName} {bc : ByteArray} {n k mc ms idx np : Nat} {rt : Option FieldType} {wc : va_W} {As rest : List Value} {si : Nat} (hM : CtI x.1.2.1 y bc n rt k mc ms x.2.2.2.1.2.1 kA (.ref (kA (100 + si)) :: As) wc post w1) (hi : si < 20) (t1 : Cond.methodLink own idx y ∈ TT) (t2 : Cond.instanceMethod y ∈ TT) (t3 : Cond.selects "java/lang/String" y y ∈ TT) (t4 : Cond.initialized "java/lang/String" ∈ TT) (t5 : Cond.code y bc n rt ∈ TT)
    (hd : y.cls = "java/lang/String" ∧ y.cls ≠ "java/lang/invoke/MethodHandle" ∧ y.cls ≠ "java/lang/invoke/VarHandle" ∧ (parseMethodDescriptor y.desc).map (fun d => d.parameters.length) = some np) (hlen : As.length = np) (hRm : k + 1 ≤ rm.frames ∧ 8 + (n + 11) + 40 * k ≤ rm.locals) (isC isR : List Nat) {wr : va_W} (hCf : isC.filterMap (fun i => ws[i]?) = wc) (hnC : va_nd isC = true) (hC : isC.map (fun i => ws[i]?) = wc.map some) (hR : isR.map (fun i => ws[i]?) = wr.map some) (hn : va_nd isR = true) (hdis : ∀ i ∈ isR, i ∉ isC) (hst : (rest.map fun v => v.category).sum ≤ 8) (hstk : st = As.reverse ++ .ref (kA (100 + si)) :: rest) (hf : cells + mc ≤ rm.cells ∧ slots + ms ≤ rm.slots) (d : decode cc pc = .ok (.invokevirtual idx, 3))
    (kk : ∀ (r : Int32) (u : S), post r u → J x (wr ++ w1 u) lv (cells + mc) (slots + ms) (pc + 3) (.int r :: rest)) : J x ws lv cells slots pc st := fun H locs ls hP hD hS hl => by
  refine j_afterI h hP hD hS hl (va_runV (As := As) (rest := rest) (nL := x.2.2.2.1.2.2) ⟨h.ex, h.by, h.ml, h.ow, h.ts⟩ (hM H.size) (cwV np h.ts (gC t1 (gC t2 (gC t3 (gC t4 (gC t5 TT_good))))) rfl rfl rfl hd (by rw [h.rr]; exact hRm)) ⟨nPre_blind, (show ∃ cell : Cell, H[kA (100 + si)]? = some cell ∧ cell.vm.isStatics = false ∧ x.2.1.1.vm.findClass "java/lang/String" = some cell.cls from (by obtain ⟨cell, g1, g2, g3, -⟩ := (h.ss.1 si hi).1.1.kept hS.2.1; exact ⟨cell, g1, g2, g3⟩)), fun U hU hW => ⟨rfl, by rw [hU], by rw [hU]; exact hP.sub isC hCf, va_K.moved hW.alike h.kk, (hD.sub isC hnC hC).weaken (fun _ _ _ _ => trivial), nNW.warm hW h.nw, sSt.pass h.ss hS hU hW (va_free hD hS h.aa isC hC)⟩⟩ rfl hlen hl.1 hstk (lv_room hst) d (by rw [h.rr]; exact hf)) isC isR hC hR hn hdis kk
theorem jm_callVKi (h : Ok x cc own kA rm nL) {S : Type} {post : Int32 → S → Prop} {w1 : S → mW} {y : MethodName} {bc : ByteArray} {n k mc ms idx np : Nat} {rt : Option FieldType} {wc : mW} {As rest : List Value} {si : Nat} (hM : CtI x.1.2.1 y bc n rt k mc ms x.2.2.2.1.2.1 kA (.ref (kA (100 + si)) :: As) (mflat wc) post (fun u => mflat (w1 u))) (hi : si < 20) (t1 : Cond.methodLink own idx y ∈ TT) (t2 : Cond.instanceMethod y ∈ TT) (t3 : Cond.selects "java/lang/String" y y ∈ TT) (t4 : Cond.initialized "java/lang/String" ∈ TT) (t5 : Cond.code y bc n rt ∈ TT)
    (hd : y.cls = "java/lang/String" ∧ y.cls ≠ "java/lang/invoke/MethodHandle" ∧ y.cls ≠ "java/lang/invoke/VarHandle" ∧ (parseMethodDescriptor y.desc).map (fun d => d.parameters.length) = some np) (hlen : As.length = np) (hRm : k + 1 ≤ rm.frames ∧ 8 + (n + 11) + 40 * k ≤ rm.locals) (isC isR : List Nat) {wr : mW} (hnC : va_nd isC = true) (hC : isC.map (fun i => w[i]?) = wc.map some) (hR : isR.map (fun i => w[i]?) = wr.map some) (hn : va_nd isR = true) (hdis : ∀ i ∈ isR, i ∉ isC) (hst : (rest.map fun v => v.category).sum ≤ 8) (hstk : st = As.reverse ++ .ref (kA (100 + si)) :: rest) (hf : cells + mc ≤ rm.cells ∧ slots + ms ≤ rm.slots) (d : decode cc pc = .ok (.invokevirtual idx, 3))
    (kk : ∀ (r : Int32) (u : S), post r u → J x (mflat (wr ++ w1 u)) lv (cells + mc) (slots + ms) (pc + 3) (.int r :: rest)) : J x (mflat w) lv cells slots pc st := j_callVKi h hM hi t1 t2 t3 t4 t5 hd hlen hRm (isC.flatMap (mps w)) (isR.flatMap (mps w)) (map_filterMap (mps_map hC)) (mps_nd hC hnC) (mps_map hC) (mps_map hR) (mps_nd hR hn) (mps_dis hC hR hdis) hst hstk hf d (fun r u hp => by rw [← mflat_app]; exact kk r u hp)
end JST
theorem dJ3_checkIndex_8e157_0 : decode cJ3_checkIndex_8e157 0 = .ok (.iload_n 0, 1) := by decide +kernel
theorem dJ3_checkIndex_8e157_1 : decode cJ3_checkIndex_8e157 1 = .ok (.ifCond .lt 8, 3) := by decide +kernel
theorem dJ3_checkIndex_8e157_4 : decode cJ3_checkIndex_8e157 4 = .ok (.iload_n 0, 1) := by decide +kernel
theorem dJ3_checkIndex_8e157_5 : decode cJ3_checkIndex_8e157 5 = .ok (.iload_n 1, 1) := by decide +kernel
theorem dJ3_checkIndex_8e157_6 : decode cJ3_checkIndex_8e157 6 = .ok (.if_icmp .lt 10, 3) := by decide +kernel
theorem dJ3_checkIndex_8e157_16 : decode cJ3_checkIndex_8e157 16 = .ok (.iload_n 0, 1) := by decide +kernel
theorem dJ3_checkIndex_8e157_17 : decode cJ3_checkIndex_8e157 17 = .ok (.ireturn, 1) := by decide +kernel
theorem dJ0_checkIndex_df160_0 : decode cJ0_checkIndex_df160 0 = .ok (.iload_n 0, 1) := by decide +kernel
theorem dJ0_checkIndex_df160_1 : decode cJ0_checkIndex_df160 1 = .ok (.iload_n 1, 1) := by decide +kernel
theorem tw_619 : Cond.fieldLink "java/lang/String" 1053 "jdk/internal/util/Preconditions" "SIOOBE_FORMATTER" "Ljava/util/function/BiFunction;" ∈ TT := nx_mem 619 (by decide +kernel) (by decide +kernel)
theorem dJ0_checkIndex_df160_2 : decode cJ0_checkIndex_df160 2 = .ok (.getstatic 1053, 3) := by decide +kernel
theorem dJ0_checkIndex_df160_5 : decode cJ0_checkIndex_df160 5 = .ok (.invokestatic 1059, 3) := by decide +kernel
theorem tw_621 : Cond.methodLink "java/lang/String" 1059 yJ3_checkIndex_8e157 ∈ TT := nx_mem 621 (by decide +kernel) (by decide +kernel)
theorem tw_622 : Cond.static yJ3_checkIndex_8e157 ∈ TT := nx_mem 622 (by decide +kernel) (by decide +kernel)
theorem tw_102 : Cond.initialized "jdk/internal/util/Preconditions" ∈ TT := nx_mem 102 (by decide +kernel) (by decide +kernel)
theorem tw_623 : Cond.code yJ3_checkIndex_8e157 cJ3_checkIndex_8e157 3 (some .int) ∈ TT := nx_mem 623 (by decide +kernel) (by decide +kernel)
theorem dJ0_checkIndex_df160_8 : decode cJ0_checkIndex_df160 8 = .ok (.pop, 1) := by decide +kernel
theorem dJ0_checkIndex_df160_9 : decode cJ0_checkIndex_df160 9 = .ok (.return_, 1) := by decide +kernel
theorem dJ1_charAt_3b067_0 : decode cJ1_charAt_3b067 0 = .ok (.iload_n 1, 1) := by decide +kernel
theorem dJ1_charAt_3b067_1 : decode cJ1_charAt_3b067 1 = .ok (.aload_n 0, 1) := by decide +kernel
theorem dJ1_charAt_3b067_2 : decode cJ1_charAt_3b067 2 = .ok (.arraylength, 1) := by decide +kernel
theorem dJ1_charAt_3b067_3 : decode cJ1_charAt_3b067 3 = .ok (.invokestatic 9, 3) := by decide +kernel
theorem tw_616 : Cond.methodLink "java/lang/StringLatin1" 9 yJ0_checkIndex_df160 ∈ TT := nx_mem 616 (by decide +kernel) (by decide +kernel)
theorem tw_617 : Cond.static yJ0_checkIndex_df160 ∈ TT := nx_mem 617 (by decide +kernel) (by decide +kernel)
theorem tw_100 : Cond.initialized "java/lang/String" ∈ TT := nx_mem 100 (by decide +kernel) (by decide +kernel)
theorem tw_618 : Cond.code yJ0_checkIndex_df160 cJ0_checkIndex_df160 2 none ∈ TT := nx_mem 618 (by decide +kernel) (by decide +kernel)
theorem dJ1_charAt_3b067_6 : decode cJ1_charAt_3b067 6 = .ok (.aload_n 0, 1) := by decide +kernel
theorem dJ1_charAt_3b067_7 : decode cJ1_charAt_3b067 7 = .ok (.iload_n 1, 1) := by decide +kernel
theorem dJ1_charAt_3b067_8 : decode cJ1_charAt_3b067 8 = .ok (.baload, 1) := by decide +kernel
theorem dJ1_charAt_3b067_9 : decode cJ1_charAt_3b067 9 = .ok (.sipush 255, 3) := by decide +kernel
theorem dJ1_charAt_3b067_12 : decode cJ1_charAt_3b067 12 = .ok (.iand, 1) := by decide +kernel
theorem dJ1_charAt_3b067_13 : decode cJ1_charAt_3b067 13 = .ok (.i2c, 1) := by decide +kernel
theorem dJ1_charAt_3b067_14 : decode cJ1_charAt_3b067 14 = .ok (.ireturn, 1) := by decide +kernel
theorem tw_603 : Cond.fieldLink "java/lang/String" 38 "java/lang/String" "COMPACT_STRINGS" "Z" ∈ TT := nx_mem 603 (by decide +kernel) (by decide +kernel)
theorem dJ0_isLatin1_aae02_0 : decode cJ0_isLatin1_aae02 0 = .ok (.getstatic 38, 3) := by decide +kernel
theorem dJ0_isLatin1_aae02_3 : decode cJ0_isLatin1_aae02 3 = .ok (.ifCond .eq 14, 3) := by decide +kernel
theorem dJ0_isLatin1_aae02_6 : decode cJ0_isLatin1_aae02 6 = .ok (.aload_n 0, 1) := by decide +kernel
theorem dJ0_isLatin1_aae02_7 : decode cJ0_isLatin1_aae02 7 = .ok (.getfield 15, 3) := by decide +kernel
theorem tw_1707 : Cond.fieldLink "java/lang/String" 15 "java/lang/String" "coder" "B" ∈ TT := nx_mem 1707 (by decide +kernel) (by decide +kernel)
theorem dJ0_isLatin1_aae02_10 : decode cJ0_isLatin1_aae02 10 = .ok (.ifCond .ne 7, 3) := by decide +kernel
theorem dJ0_isLatin1_aae02_13 : decode cJ0_isLatin1_aae02 13 = .ok (.iconst 1, 1) := by decide +kernel
theorem dJ0_isLatin1_aae02_14 : decode cJ0_isLatin1_aae02 14 = .ok (.goto 4, 3) := by decide +kernel
theorem dJ0_isLatin1_aae02_18 : decode cJ0_isLatin1_aae02 18 = .ok (.ireturn, 1) := by decide +kernel
theorem dJ0_coder_7d493_0 : decode cJ0_coder_7d493 0 = .ok (.getstatic 38, 3) := by decide +kernel
theorem dJ0_coder_7d493_3 : decode cJ0_coder_7d493 3 = .ok (.ifCond .eq 10, 3) := by decide +kernel
theorem dJ0_coder_7d493_6 : decode cJ0_coder_7d493 6 = .ok (.aload_n 0, 1) := by decide +kernel
theorem dJ0_coder_7d493_7 : decode cJ0_coder_7d493 7 = .ok (.getfield 15, 3) := by decide +kernel
theorem dJ0_coder_7d493_10 : decode cJ0_coder_7d493 10 = .ok (.goto 4, 3) := by decide +kernel
theorem dJ0_coder_7d493_14 : decode cJ0_coder_7d493 14 = .ok (.ireturn, 1) := by decide +kernel
theorem dJ0_length_8abf5_0 : decode cJ0_length_8abf5 0 = .ok (.aload_n 0, 1) := by decide +kernel
theorem dJ0_length_8abf5_1 : decode cJ0_length_8abf5 1 = .ok (.getfield 9, 3) := by decide +kernel
theorem tw_1706 : Cond.fieldLink "java/lang/String" 9 "java/lang/String" "value" "[B" ∈ TT := nx_mem 1706 (by decide +kernel) (by decide +kernel)
theorem dJ0_length_8abf5_4 : decode cJ0_length_8abf5 4 = .ok (.arraylength, 1) := by decide +kernel
theorem dJ0_length_8abf5_5 : decode cJ0_length_8abf5 5 = .ok (.aload_n 0, 1) := by decide +kernel
theorem dJ0_length_8abf5_6 : decode cJ0_length_8abf5 6 = .ok (.invokevirtual 335, 3) := by decide +kernel
theorem tw_599 : Cond.methodLink "java/lang/String" 335 yJ0_coder_7d493 ∈ TT := nx_mem 599 (by decide +kernel) (by decide +kernel)
theorem tw_600 : Cond.instanceMethod yJ0_coder_7d493 ∈ TT := nx_mem 600 (by decide +kernel) (by decide +kernel)
theorem tw_601 : Cond.selects "java/lang/String" yJ0_coder_7d493 yJ0_coder_7d493 ∈ TT := nx_mem 601 (by decide +kernel) (by decide +kernel)
theorem tw_602 : Cond.code yJ0_coder_7d493 cJ0_coder_7d493 1 (some .byte) ∈ TT := nx_mem 602 (by decide +kernel) (by decide +kernel)
theorem dJ0_length_8abf5_9 : decode cJ0_length_8abf5 9 = .ok (.ishr, 1) := by decide +kernel
theorem dJ0_length_8abf5_10 : decode cJ0_length_8abf5 10 = .ok (.ireturn, 1) := by decide +kernel
theorem dJ0_charAt_5068e_0 : decode cJ0_charAt_5068e 0 = .ok (.aload_n 0, 1) := by decide +kernel
theorem dJ0_charAt_5068e_1 : decode cJ0_charAt_5068e 1 = .ok (.invokevirtual 492, 3) := by decide +kernel
theorem tw_609 : Cond.methodLink "java/lang/String" 492 yJ0_isLatin1_aae02 ∈ TT := nx_mem 609 (by decide +kernel) (by decide +kernel)
theorem tw_610 : Cond.instanceMethod yJ0_isLatin1_aae02 ∈ TT := nx_mem 610 (by decide +kernel) (by decide +kernel)
theorem tw_611 : Cond.selects "java/lang/String" yJ0_isLatin1_aae02 yJ0_isLatin1_aae02 ∈ TT := nx_mem 611 (by decide +kernel) (by decide +kernel)
theorem tw_612 : Cond.code yJ0_isLatin1_aae02 cJ0_isLatin1_aae02 1 (some .boolean) ∈ TT := nx_mem 612 (by decide +kernel) (by decide +kernel)
theorem dJ0_charAt_5068e_4 : decode cJ0_charAt_5068e 4 = .ok (.ifCond .eq 12, 3) := by decide +kernel
theorem dJ0_charAt_5068e_7 : decode cJ0_charAt_5068e 7 = .ok (.aload_n 0, 1) := by decide +kernel
theorem dJ0_charAt_5068e_8 : decode cJ0_charAt_5068e 8 = .ok (.getfield 9, 3) := by decide +kernel
theorem dJ0_charAt_5068e_11 : decode cJ0_charAt_5068e 11 = .ok (.iload_n 1, 1) := by decide +kernel
theorem dJ0_charAt_5068e_12 : decode cJ0_charAt_5068e 12 = .ok (.invokestatic 495, 3) := by decide +kernel
theorem tw_613 : Cond.methodLink "java/lang/String" 495 yJ1_charAt_3b067 ∈ TT := nx_mem 613 (by decide +kernel) (by decide +kernel)
theorem tw_614 : Cond.static yJ1_charAt_3b067 ∈ TT := nx_mem 614 (by decide +kernel) (by decide +kernel)
theorem tw_101 : Cond.initialized "java/lang/StringLatin1" ∈ TT := nx_mem 101 (by decide +kernel) (by decide +kernel)
theorem tw_615 : Cond.code yJ1_charAt_3b067 cJ1_charAt_3b067 2 (some .char) ∈ TT := nx_mem 615 (by decide +kernel) (by decide +kernel)
theorem dJ0_charAt_5068e_15 : decode cJ0_charAt_5068e 15 = .ok (.ireturn, 1) := by decide +kernel
set_option maxHeartbeats 4000000 in
set_option maxRecDepth 100000 in
theorem s_J3_checkIndex_8e157 (lau : Launch) (gg : va_G) (kA : Nat → ClassId) (a : Nat) (b : Nat) (q0 : Nat) (hab : a < b) (hb : b ≤ 2000) : CtI lau yJ3_checkIndex_8e157 cJ3_checkIndex_8e157 3 (some .int) 1 0 0 gg kA [.int (nI a), .int (nI b), .ref q0] (mflat []) (S := Unit) (fun (r : Int32) (_ : Unit) => True) (fun (_ : Unit) => mflat []) := by
  refine nx_startI (by decide +kernel) (Nat.le_of_ble_eq_true rfl) ?_
  intro x hnm h hq
  have h : Ok x cJ3_checkIndex_8e157 "jdk/internal/util/Preconditions" kA (rmC 1 0 0) 3 := h
  show J x (mflat []) [(0, .int (nI a)), (1, .int (nI b)), (2, .ref q0)] 0 0 0 []
  refine j_iload_n h 0 rfl rfl dJ3_checkIndex_8e157_0 ?_
  refine j_if_lt h 9 dJ3_checkIndex_8e157_1 (by decide) (fun q => absurd q (nI_pos (by omega))) (fun _ => ?_)
  refine j_iload_n h 0 rfl rfl dJ3_checkIndex_8e157_4 ?_
  refine j_iload_n h 1 rfl rfl dJ3_checkIndex_8e157_5 ?_
  refine j_icmp_lt h 16 dJ3_checkIndex_8e157_6 (by decide) (fun _ => ?_) (fun q => absurd (nI_lt hab (by omega)) q)
  refine j_iload_n h 0 rfl rfl dJ3_checkIndex_8e157_16 ?_
  exact jm_iret h hq dJ3_checkIndex_8e157_17 () [] rfl (by decide) trivial (Nat.le_of_ble_eq_true rfl) (Nat.le_of_ble_eq_true rfl)
set_option maxHeartbeats 4000000 in
set_option maxRecDepth 100000 in
theorem s_J3_checkIndexN (lau : Launch) (gg : va_G) (kA : Nat → ClassId) (a : Nat) (b : Nat) (hab : a < b) (hb : b ≤ 2000) : CtI lau yJ3_checkIndex_8e157 cJ3_checkIndex_8e157 3 (some .int) 1 0 0 gg kA [.int (nI a), .int (nI b), .null] (mflat []) (S := Unit) (fun (r : Int32) (_ : Unit) => True) (fun (_ : Unit) => mflat []) := by
  refine nx_startI (by decide +kernel) (Nat.le_of_ble_eq_true rfl) ?_
  intro x hnm h hq
  have h : Ok x cJ3_checkIndex_8e157 "jdk/internal/util/Preconditions" kA (rmC 1 0 0) 3 := h
  show J x (mflat []) [(0, .int (nI a)), (1, .int (nI b)), (2, .null)] 0 0 0 []
  refine j_iload_n h 0 rfl rfl dJ3_checkIndex_8e157_0 ?_
  refine j_if_lt h 9 dJ3_checkIndex_8e157_1 (by decide) (fun q => absurd q (nI_pos (by omega))) (fun _ => ?_)
  refine j_iload_n h 0 rfl rfl dJ3_checkIndex_8e157_4 ?_
  refine j_iload_n h 1 rfl rfl dJ3_checkIndex_8e157_5 ?_
  refine j_icmp_lt h 16 dJ3_checkIndex_8e157_6 (by decide) (fun _ => ?_) (fun q => absurd (nI_lt hab (by omega)) q)
  refine j_iload_n h 0 rfl rfl dJ3_checkIndex_8e157_16 ?_
  exact jm_iret h hq dJ3_checkIndex_8e157_17 () [] rfl (by decide) trivial (Nat.le_of_ble_eq_true rfl) (Nat.le_of_ble_eq_true rfl)
set_option maxHeartbeats 4000000 in
set_option maxRecDepth 100000 in
theorem s_J0_checkIndex_df160 (lau : Launch) (gg : va_G) (kA : Nat → ClassId) (a : Nat) (b : Nat) (hab : a < b) (hb : b ≤ 2000) : CtV lau yJ0_checkIndex_df160 cJ0_checkIndex_df160 2 (none) 2 0 0 gg kA [.int (nI a), .int (nI b)] (mflat []) (S := Unit) (fun (_ : Unit) => True) (fun (_ : Unit) => mflat []) := by
  refine nx_startV (by decide +kernel) (Nat.le_of_ble_eq_true rfl) ?_
  intro x hnm h hq
  have h : Ok x cJ0_checkIndex_df160 "java/lang/String" kA (rmC 2 0 0) 2 := h
  show J x (mflat []) [(0, .int (nI a)), (1, .int (nI b))] 0 0 0 []
  refine j_iload_n h 0 rfl rfl dJ0_checkIndex_df160_0 ?_
  refine j_iload_n h 1 rfl rfl dJ0_checkIndex_df160_1 ?_
  refine j_getsQ h tw_619 dJ0_checkIndex_df160_2 (fun t5442 => ?_) ?_
  · show J x (mflat []) [(0, .int (nI a)), (1, .int (nI b))] 0 0 5 [.ref t5442, .int (nI b), .int (nI a)]
    refine jm_callSi (np := 3) (isC := []) (isR := []) (wc := []) (wr := []) (rest := []) (As := [.int (nI a), .int (nI b), .ref t5442]) h (s_J3_checkIndex_8e157 _ _ kA a b t5442 (show a < b by first | assumption | omega) (show b ≤ 2000 by first | assumption | omega)) tw_621 tw_622 tw_102 tw_623 (by decide +kernel) rfl ⟨Nat.le_of_ble_eq_true rfl, Nat.le_of_ble_eq_true rfl⟩ (by decide +kernel) rfl rfl (by decide +kernel) (by decide +kernel) (Nat.le_of_ble_eq_true rfl) rfl ⟨Nat.le_of_ble_eq_true rfl, Nat.le_of_ble_eq_true rfl⟩ dJ0_checkIndex_df160_5 ?_
    rintro r5444 _ e5443
    show J x (mflat []) [(0, .int (nI a)), (1, .int (nI b))] 0 0 8 [.int r5444]
    refine j_pop h rfl dJ0_checkIndex_df160_8 ?_
    exact jm_vret h hq dJ0_checkIndex_df160_9 () [] rfl (by decide) trivial (Nat.le_of_ble_eq_true rfl) (Nat.le_of_ble_eq_true rfl)
  · show J x (mflat []) [(0, .int (nI a)), (1, .int (nI b))] 0 0 5 [.null, .int (nI b), .int (nI a)]
    refine jm_callSi (np := 3) (isC := []) (isR := []) (wc := []) (wr := []) (rest := []) (As := [.int (nI a), .int (nI b), .null]) h (s_J3_checkIndexN _ _ kA a b (show a < b by first | assumption | omega) (show b ≤ 2000 by first | assumption | omega)) tw_621 tw_622 tw_102 tw_623 (by decide +kernel) rfl ⟨Nat.le_of_ble_eq_true rfl, Nat.le_of_ble_eq_true rfl⟩ (by decide +kernel) rfl rfl (by decide +kernel) (by decide +kernel) (Nat.le_of_ble_eq_true rfl) rfl ⟨Nat.le_of_ble_eq_true rfl, Nat.le_of_ble_eq_true rfl⟩ dJ0_checkIndex_df160_5 ?_
    rintro r5446 _ e5445
    show J x (mflat []) [(0, .int (nI a)), (1, .int (nI b))] 0 0 8 [.int r5446]
    refine j_pop h rfl dJ0_checkIndex_df160_8 ?_
    exact jm_vret h hq dJ0_checkIndex_df160_9 () [] rfl (by decide) trivial (Nat.le_of_ble_eq_true rfl) (Nat.le_of_ble_eq_true rfl)
set_option maxHeartbeats 4000000 in
set_option maxRecDepth 100000 in
theorem s_J1_charAt_3b067 (lau : Launch) (gg : va_G) (kA : Nat → ClassId) (si : Nat) (k : Nat) (hsi : si < 20) (hk : k < sL si) : CtI lau yJ1_charAt_3b067 cJ1_charAt_3b067 2 (some .char) 3 0 0 gg kA [.ref (kA (200 + si)), .int (nI k)] (mflat []) (S := Unit) (fun (r : Int32) (_ : Unit) => r = (sB si).getD k 0) (fun (_ : Unit) => mflat []) := by
  refine nx_startI (by decide +kernel) (Nat.le_of_ble_eq_true rfl) ?_
  intro x hnm h hq
  have h : Ok x cJ1_charAt_3b067 "java/lang/StringLatin1" kA (rmC 3 0 0) 2 := h
  show J x (mflat []) [(0, .ref (kA (200 + si))), (1, .int (nI k))] 0 0 0 []
  have hsl := sL_le si hsi
  refine j_iload_n h 1 rfl rfl dJ1_charAt_3b067_0 ?_
  refine j_aload_n h 0 rfl rfl dJ1_charAt_3b067_1 ?_
  refine j_slen (i := si) h (by omega) dJ1_charAt_3b067_2 ?_
  refine jm_callSv (np := 2) (isC := []) (isR := []) (wc := []) (wr := []) (rest := []) (As := [.int (nI k), .int (nI (sL si))]) h (s_J0_checkIndex_df160 _ _ kA k (sL si) (show k < (sL si) by first | assumption | omega) (show (sL si) ≤ 2000 by first | assumption | omega)) tw_616 tw_617 tw_100 tw_618 (by decide +kernel) rfl ⟨Nat.le_of_ble_eq_true rfl, Nat.le_of_ble_eq_true rfl⟩ (by decide +kernel) rfl rfl (by decide +kernel) (by decide +kernel) (Nat.le_of_ble_eq_true rfl) rfl ⟨Nat.le_of_ble_eq_true rfl, Nat.le_of_ble_eq_true rfl⟩ dJ1_charAt_3b067_3 ?_
  rintro _ e5449
  show J x (mflat []) [(0, .ref (kA (200 + si))), (1, .int (nI k))] 0 0 6 []
  refine j_aload_n h 0 rfl rfl dJ1_charAt_3b067_6 ?_
  refine j_iload_n h 1 rfl rfl dJ1_charAt_3b067_7 ?_
  refine j_sbyt (i := si) (k := k) h (by omega) (by omega) dJ1_charAt_3b067_8 ?_
  refine j_sipush (v := 255) h (by decide) dJ1_charAt_3b067_9 ?_
  refine j_iand h dJ1_charAt_3b067_12 ?_
  refine j_i2c (v := (sB si).getD k 0) h (sch si hsi k hk).1 dJ1_charAt_3b067_13 ?_
  exact jm_zret h hq (sch si hsi k hk).2 dJ1_charAt_3b067_14 () [] rfl (by decide) rfl (Nat.le_of_ble_eq_true rfl) (Nat.le_of_ble_eq_true rfl)
set_option maxHeartbeats 4000000 in
set_option maxRecDepth 100000 in
theorem s_J0_isLatin1_aae02 (lau : Launch) (gg : va_G) (kA : Nat → ClassId) (si : Nat) (hsi : si < 20) : CtI lau yJ0_isLatin1_aae02 cJ0_isLatin1_aae02 1 (some .boolean) 1 0 0 gg kA [.ref (kA (100 + si))] (mflat []) (S := Unit) (fun (r : Int32) (_ : Unit) => r = 1) (fun (_ : Unit) => mflat []) := by
  refine nx_startI (by decide +kernel) (Nat.le_of_ble_eq_true rfl) ?_
  intro x hnm h hq
  have h : Ok x cJ0_isLatin1_aae02 "java/lang/String" kA (rmC 1 0 0) 1 := h
  show J x (mflat []) [(0, .ref (kA (100 + si)))] 0 0 0 []
  refine j_getsC h tw_603 dJ0_isLatin1_aae02_0 ?_
  refine j_if_eq h 17 dJ0_isLatin1_aae02_3 (by decide) (fun q => absurd q (by decide)) (fun _ => ?_)
  refine j_aload_n h 0 rfl rfl dJ0_isLatin1_aae02_6 ?_
  refine j_scod (i := si) h (by omega) tw_1707 dJ0_isLatin1_aae02_7 ?_
  refine j_if_ne h 17 dJ0_isLatin1_aae02_10 (by decide) (fun q => absurd (by decide) q) (fun _ => ?_)
  refine j_iconst (v := 1) h (by decide) dJ0_isLatin1_aae02_13 ?_
  refine j_goto h 18 dJ0_isLatin1_aae02_14 (by decide) ?_
  exact jm_zret h hq rfl dJ0_isLatin1_aae02_18 () [] rfl (by decide) rfl (Nat.le_of_ble_eq_true rfl) (Nat.le_of_ble_eq_true rfl)
set_option maxHeartbeats 4000000 in
set_option maxRecDepth 100000 in
theorem s_J0_coder_7d493 (lau : Launch) (gg : va_G) (kA : Nat → ClassId) (si : Nat) (hsi : si < 20) : CtI lau yJ0_coder_7d493 cJ0_coder_7d493 1 (some .byte) 1 0 0 gg kA [.ref (kA (100 + si))] (mflat []) (S := Unit) (fun (r : Int32) (_ : Unit) => r = 0) (fun (_ : Unit) => mflat []) := by
  refine nx_startI (by decide +kernel) (Nat.le_of_ble_eq_true rfl) ?_
  intro x hnm h hq
  have h : Ok x cJ0_coder_7d493 "java/lang/String" kA (rmC 1 0 0) 1 := h
  show J x (mflat []) [(0, .ref (kA (100 + si)))] 0 0 0 []
  refine j_getsC h tw_603 dJ0_coder_7d493_0 ?_
  refine j_if_eq h 13 dJ0_coder_7d493_3 (by decide) (fun q => absurd q (by decide)) (fun _ => ?_)
  refine j_aload_n h 0 rfl rfl dJ0_coder_7d493_6 ?_
  refine j_scod (i := si) h (by omega) tw_1707 dJ0_coder_7d493_7 ?_
  refine j_goto h 14 dJ0_coder_7d493_10 (by decide) ?_
  exact jm_zret h hq rfl dJ0_coder_7d493_14 () [] rfl (by decide) rfl (Nat.le_of_ble_eq_true rfl) (Nat.le_of_ble_eq_true rfl)
set_option maxHeartbeats 4000000 in
set_option maxRecDepth 100000 in
theorem s_J0_length_8abf5 (lau : Launch) (gg : va_G) (kA : Nat → ClassId) (si : Nat) (hsi : si < 20) : CtI lau yJ0_length_8abf5 cJ0_length_8abf5 1 (some .int) 2 0 0 gg kA [.ref (kA (100 + si))] (mflat []) (S := Unit) (fun (r : Int32) (_ : Unit) => r = nI (sL si)) (fun (_ : Unit) => mflat []) := by
  refine nx_startI (by decide +kernel) (Nat.le_of_ble_eq_true rfl) ?_
  intro x hnm h hq
  have h : Ok x cJ0_length_8abf5 "java/lang/String" kA (rmC 2 0 0) 1 := h
  show J x (mflat []) [(0, .ref (kA (100 + si)))] 0 0 0 []
  have hsl := sL_le si hsi
  refine j_aload_n h 0 rfl rfl dJ0_length_8abf5_0 ?_
  refine j_sval (i := si) h (by omega) tw_1706 dJ0_length_8abf5_1 ?_
  refine j_slen (i := si) h (by omega) dJ0_length_8abf5_4 ?_
  refine j_aload_n h 0 rfl rfl dJ0_length_8abf5_5 ?_
  refine jm_callVKi (np := 0) (isC := []) (isR := []) (wc := []) (wr := []) (rest := [.int (nI (sL si))]) (As := []) (si := si) h (s_J0_coder_7d493 _ _ kA si (show si < 20 by first | assumption | omega)) (by omega) tw_599 tw_600 tw_601 tw_100 tw_602 (by decide +kernel) rfl ⟨Nat.le_of_ble_eq_true rfl, Nat.le_of_ble_eq_true rfl⟩ (by decide +kernel) rfl rfl (by decide +kernel) (by decide +kernel) (Nat.le_of_ble_eq_true rfl) rfl ⟨Nat.le_of_ble_eq_true rfl, Nat.le_of_ble_eq_true rfl⟩ dJ0_length_8abf5_6 ?_
  rintro r5455 _ e5454
  have p5456 := e5454
  subst p5456
  show J x (mflat []) [(0, .ref (kA (100 + si)))] 0 0 9 [.int 0, .int (nI (sL si))]
  refine j_ishr h dJ0_length_8abf5_9 ?_
  refine j_top (b := nI (sL si)) (sc_shr0 (by omega)) ?_
  exact jm_iret h hq dJ0_length_8abf5_10 () [] rfl (by decide) rfl (Nat.le_of_ble_eq_true rfl) (Nat.le_of_ble_eq_true rfl)
set_option maxHeartbeats 4000000 in
set_option maxRecDepth 100000 in
theorem s_J0_charAt_5068e (lau : Launch) (gg : va_G) (kA : Nat → ClassId) (si : Nat) (k : Nat) (hsi : si < 20) (hk : k < sL si) : CtI lau yJ0_charAt_5068e cJ0_charAt_5068e 2 (some .char) 4 0 0 gg kA [.ref (kA (100 + si)), .int (nI k)] (mflat []) (S := Unit) (fun (r : Int32) (_ : Unit) => r = (sB si).getD k 0) (fun (_ : Unit) => mflat []) := by
  refine nx_startI (by decide +kernel) (Nat.le_of_ble_eq_true rfl) ?_
  intro x hnm h hq
  have h : Ok x cJ0_charAt_5068e "java/lang/String" kA (rmC 4 0 0) 2 := h
  show J x (mflat []) [(0, .ref (kA (100 + si))), (1, .int (nI k))] 0 0 0 []
  have hsl := sL_le si hsi
  refine j_aload_n h 0 rfl rfl dJ0_charAt_5068e_0 ?_
  refine jm_callVKi (np := 0) (isC := []) (isR := []) (wc := []) (wr := []) (rest := []) (As := []) (si := si) h (s_J0_isLatin1_aae02 _ _ kA si (show si < 20 by first | assumption | omega)) (by omega) tw_609 tw_610 tw_611 tw_100 tw_612 (by decide +kernel) rfl ⟨Nat.le_of_ble_eq_true rfl, Nat.le_of_ble_eq_true rfl⟩ (by decide +kernel) rfl rfl (by decide +kernel) (by decide +kernel) (Nat.le_of_ble_eq_true rfl) rfl ⟨Nat.le_of_ble_eq_true rfl, Nat.le_of_ble_eq_true rfl⟩ dJ0_charAt_5068e_1 ?_
  rintro r5464 _ e5463
  have p5465 := e5463
  subst p5465
  show J x (mflat []) [(0, .ref (kA (100 + si))), (1, .int (nI k))] 0 0 4 [.int 1]
  refine j_if_eq h 16 dJ0_charAt_5068e_4 (by decide) (fun q => absurd q (by decide)) (fun _ => ?_)
  refine j_aload_n h 0 rfl rfl dJ0_charAt_5068e_7 ?_
  refine j_sval (i := si) h (by omega) tw_1706 dJ0_charAt_5068e_8 ?_
  refine j_iload_n h 1 rfl rfl dJ0_charAt_5068e_11 ?_
  refine jm_callSi (np := 2) (isC := []) (isR := []) (wc := []) (wr := []) (rest := []) (As := [.ref (kA (200 + si)), .int (nI k)]) h (s_J1_charAt_3b067 _ _ kA si k (show si < 20 by first | assumption | omega) (show k < sL si by first | assumption | omega)) tw_613 tw_614 tw_101 tw_615 (by decide +kernel) rfl ⟨Nat.le_of_ble_eq_true rfl, Nat.le_of_ble_eq_true rfl⟩ (by decide +kernel) rfl rfl (by decide +kernel) (by decide +kernel) (Nat.le_of_ble_eq_true rfl) rfl ⟨Nat.le_of_ble_eq_true rfl, Nat.le_of_ble_eq_true rfl⟩ dJ0_charAt_5068e_12 ?_
  rintro r5467 _ e5466
  have p5468 := e5466
  subst p5468
  show J x (mflat []) [(0, .ref (kA (100 + si))), (1, .int (nI k))] 0 0 15 [.int ((sB si).getD k 0)]
  exact jm_zret h hq (sch si hsi k hk).2 dJ0_charAt_5068e_15 () [] rfl (by decide) rfl (Nat.le_of_ble_eq_true rfl) (Nat.le_of_ble_eq_true rfl)
