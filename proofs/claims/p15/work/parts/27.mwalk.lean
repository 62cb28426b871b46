def TsOk (ls tx tm : Nat → Int32) : Prop := ∀ t n, t < 2 → tm t = nI n → n ≤ 60 → tsum ls (fun k => tx (60 * t + k)) n ≤ 60
theorem TsOk_0 (ls tx tm : Nat → Int32) : TsOk ls tx (upd (upd tm 0 0) 1 0) := fun t n ht h hn => by
  have e : n = 0 := by
    rcases (show t = 0 ∨ t = 1 by omega) with rfl | rfl
    · exact ((nI_eq (a := 0) (b := n) (by decide) (by omega)).mp h).symm
    · exact ((nI_eq (a := 0) (b := n) (by decide) (by omega)).mp h).symm
  subst e
  exact Nat.zero_le 60
theorem NnOk_u {n b k v : Nat} {f : Nat → Int32} (h : NnOk n b f) (hv : v ≤ b) : NnOk n b (upd f k (nI v)) := fun i hi => by
  by_cases e : i = k
  · subst e
    exact ⟨v, hv, pk_us⟩
  · rw [pk_un e]
    exact h i hi
theorem TcOk_cl {L t : Nat} {fb tx tm : Nat → Int32} (h : TcOk L fb tx tm) : TcOk L fb tx (upd tm t 0) := fun s hs => by
  by_cases e : s = t
  · subst e
    exact ⟨0, by decide, pk_us, fun _ => 0, rfl, fun _ _ => Nat.zero_le 1, fun k hk => absurd hk (Nat.not_lt_zero k)⟩
  · rw [pk_un e]
    exact h s hs
theorem dX12_school_0 : decode cX12_school 0 = .ok (.aload_n 0, 1) := by decide +kernel
theorem dX12_school_1 : decode cX12_school 1 = .ok (.invokevirtual 276, 3) := by decide +kernel
theorem tw_1383 : Cond.methodLink RX12 276 yX12_readAll ∈ TT := nx_mem 1383 (by decide +kernel) (by decide +kernel)
theorem tw_1385 : Cond.instanceMethod yX12_readAll ∈ TT := nx_mem 1385 (by decide +kernel) (by decide +kernel)
theorem tw_40 : Cond.selects RX12 yX12_readAll yX12_readAll ∈ TT := nx_mem 40 (by decide +kernel) (by decide +kernel)
theorem tw_1386 : Cond.code yX12_readAll cX12_readAll 1 none ∈ TT := nx_mem 1386 (by decide +kernel) (by decide +kernel)
theorem dX12_school_4 : decode cX12_school 4 = .ok (.aload_n 0, 1) := by decide +kernel
theorem dX12_school_5 : decode cX12_school 5 = .ok (.getfield 200, 3) := by decide +kernel
theorem dX12_school_8 : decode cX12_school 8 = .ok (.ifCond .le 5, 3) := by decide +kernel
theorem dX12_school_13 : decode cX12_school 13 = .ok (.aload_n 0, 1) := by decide +kernel
theorem dX12_school_14 : decode cX12_school 14 = .ok (.aload_n 0, 1) := by decide +kernel
theorem dX12_school_15 : decode cX12_school 15 = .ok (.getfield 241, 3) := by decide +kernel
theorem dX12_school_18 : decode cX12_school 18 = .ok (.putfield 279, 3) := by decide +kernel
theorem dX12_school_21 : decode cX12_school 21 = .ok (.aload_n 0, 1) := by decide +kernel
theorem dX12_school_22 : decode cX12_school 22 = .ok (.aload_n 0, 1) := by decide +kernel
theorem dX12_school_23 : decode cX12_school 23 = .ok (.getfield 252, 3) := by decide +kernel
theorem dX12_school_26 : decode cX12_school 26 = .ok (.putfield 282, 3) := by decide +kernel
theorem dX12_school_29 : decode cX12_school 29 = .ok (.aload_n 0, 1) := by decide +kernel
theorem dX12_school_30 : decode cX12_school 30 = .ok (.aload_n 0, 1) := by decide +kernel
theorem dX12_school_31 : decode cX12_school 31 = .ok (.getfield 258, 3) := by decide +kernel
theorem dX12_school_34 : decode cX12_school 34 = .ok (.putfield 285, 3) := by decide +kernel
theorem dX12_school_37 : decode cX12_school 37 = .ok (.iconst 0, 1) := by decide +kernel
theorem dX12_school_38 : decode cX12_school 38 = .ok (.istore_n 1, 1) := by decide +kernel
theorem dX12_school_39 : decode cX12_school 39 = .ok (.iload_n 1, 1) := by decide +kernel
theorem dX12_school_40 : decode cX12_school 40 = .ok (.bipush 6, 2) := by decide +kernel
theorem dX12_school_42 : decode cX12_school 42 = .ok (.if_icmp .ge 45, 3) := by decide +kernel
theorem dX12_school_45 : decode cX12_school 45 = .ok (.aload_n 0, 1) := by decide +kernel
theorem dX12_school_46 : decode cX12_school 46 = .ok (.getfield 42, 3) := by decide +kernel
theorem dX12_school_49 : decode cX12_school 49 = .ok (.iload_n 1, 1) := by decide +kernel
theorem dX12_school_50 : decode cX12_school 50 = .ok (.aload_n 0, 1) := by decide +kernel
theorem dX12_school_51 : decode cX12_school 51 = .ok (.getfield 21, 3) := by decide +kernel
theorem dX12_school_54 : decode cX12_school 54 = .ok (.iload_n 1, 1) := by decide +kernel
theorem dX12_school_55 : decode cX12_school 55 = .ok (.iaload, 1) := by decide +kernel
theorem dX12_school_56 : decode cX12_school 56 = .ok (.iastore, 1) := by decide +kernel
theorem dX12_school_57 : decode cX12_school 57 = .ok (.aload_n 0, 1) := by decide +kernel
theorem dX12_school_58 : decode cX12_school 58 = .ok (.getfield 45, 3) := by decide +kernel
theorem dX12_school_61 : decode cX12_school 61 = .ok (.iload_n 1, 1) := by decide +kernel
theorem dX12_school_62 : decode cX12_school 62 = .ok (.aload_n 0, 1) := by decide +kernel
theorem dX12_school_63 : decode cX12_school 63 = .ok (.getfield 24, 3) := by decide +kernel
theorem dX12_school_66 : decode cX12_school 66 = .ok (.iload_n 1, 1) := by decide +kernel
theorem dX12_school_67 : decode cX12_school 67 = .ok (.iaload, 1) := by decide +kernel
theorem dX12_school_68 : decode cX12_school 68 = .ok (.iastore, 1) := by decide +kernel
theorem dX12_school_69 : decode cX12_school 69 = .ok (.aload_n 0, 1) := by decide +kernel
theorem dX12_school_70 : decode cX12_school 70 = .ok (.getfield 48, 3) := by decide +kernel
theorem dX12_school_73 : decode cX12_school 73 = .ok (.iload_n 1, 1) := by decide +kernel
theorem dX12_school_74 : decode cX12_school 74 = .ok (.aload_n 0, 1) := by decide +kernel
theorem dX12_school_75 : decode cX12_school 75 = .ok (.getfield 27, 3) := by decide +kernel
theorem dX12_school_78 : decode cX12_school 78 = .ok (.iload_n 1, 1) := by decide +kernel
theorem dX12_school_79 : decode cX12_school 79 = .ok (.iaload, 1) := by decide +kernel
theorem dX12_school_80 : decode cX12_school 80 = .ok (.iastore, 1) := by decide +kernel
theorem dX12_school_81 : decode cX12_school 81 = .ok (.iinc 1 1, 3) := by decide +kernel
theorem dX12_school_84 : decode cX12_school 84 = .ok (.goto (-45), 3) := by decide +kernel
theorem dX12_school_87 : decode cX12_school 87 = .ok (.iconst 0, 1) := by decide +kernel
theorem dX12_school_88 : decode cX12_school 88 = .ok (.istore_n 1, 1) := by decide +kernel
theorem dX12_school_89 : decode cX12_school 89 = .ok (.iload_n 1, 1) := by decide +kernel
theorem dX12_school_90 : decode cX12_school 90 = .ok (.bipush 10, 2) := by decide +kernel
theorem dX12_school_92 : decode cX12_school 92 = .ok (.if_icmp .ge 21, 3) := by decide +kernel
theorem dX12_school_95 : decode cX12_school 95 = .ok (.aload_n 0, 1) := by decide +kernel
theorem dX12_school_96 : decode cX12_school 96 = .ok (.getfield 51, 3) := by decide +kernel
theorem dX12_school_99 : decode cX12_school 99 = .ok (.iload_n 1, 1) := by decide +kernel
theorem dX12_school_100 : decode cX12_school 100 = .ok (.aload_n 0, 1) := by decide +kernel
theorem dX12_school_101 : decode cX12_school 101 = .ok (.getfield 30, 3) := by decide +kernel
theorem dX12_school_104 : decode cX12_school 104 = .ok (.iload_n 1, 1) := by decide +kernel
theorem dX12_school_105 : decode cX12_school 105 = .ok (.iaload, 1) := by decide +kernel
theorem dX12_school_106 : decode cX12_school 106 = .ok (.iastore, 1) := by decide +kernel
theorem dX12_school_107 : decode cX12_school 107 = .ok (.iinc 1 1, 3) := by decide +kernel
theorem dX12_school_110 : decode cX12_school 110 = .ok (.goto (-21), 3) := by decide +kernel
theorem dX12_school_113 : decode cX12_school 113 = .ok (.iconst 0, 1) := by decide +kernel
theorem dX12_school_114 : decode cX12_school 114 = .ok (.istore_n 1, 1) := by decide +kernel
theorem dX12_school_115 : decode cX12_school 115 = .ok (.iload_n 1, 1) := by decide +kernel
theorem dX12_school_116 : decode cX12_school 116 = .ok (.bipush 50, 2) := by decide +kernel
theorem dX12_school_118 : decode cX12_school 118 = .ok (.if_icmp .ge 21, 3) := by decide +kernel
theorem dX12_school_121 : decode cX12_school 121 = .ok (.aload_n 0, 1) := by decide +kernel
theorem dX12_school_122 : decode cX12_school 122 = .ok (.getfield 54, 3) := by decide +kernel
theorem dX12_school_125 : decode cX12_school 125 = .ok (.iload_n 1, 1) := by decide +kernel
theorem dX12_school_126 : decode cX12_school 126 = .ok (.aload_n 0, 1) := by decide +kernel
theorem dX12_school_127 : decode cX12_school 127 = .ok (.getfield 33, 3) := by decide +kernel
theorem dX12_school_130 : decode cX12_school 130 = .ok (.iload_n 1, 1) := by decide +kernel
theorem dX12_school_131 : decode cX12_school 131 = .ok (.iaload, 1) := by decide +kernel
theorem dX12_school_132 : decode cX12_school 132 = .ok (.iastore, 1) := by decide +kernel
theorem dX12_school_133 : decode cX12_school 133 = .ok (.iinc 1 1, 3) := by decide +kernel
theorem dX12_school_136 : decode cX12_school 136 = .ok (.goto (-21), 3) := by decide +kernel
theorem dX12_school_139 : decode cX12_school 139 = .ok (.iconst 0, 1) := by decide +kernel
theorem dX12_school_140 : decode cX12_school 140 = .ok (.istore_n 1, 1) := by decide +kernel
theorem dX12_school_141 : decode cX12_school 141 = .ok (.iload_n 1, 1) := by decide +kernel
theorem dX12_school_142 : decode cX12_school 142 = .ok (.iconst 4, 1) := by decide +kernel
theorem dX12_school_143 : decode cX12_school 143 = .ok (.if_icmp .ge 33, 3) := by decide +kernel
theorem dX12_school_146 : decode cX12_school 146 = .ok (.aload_n 0, 1) := by decide +kernel
theorem dX12_school_147 : decode cX12_school 147 = .ok (.getfield 57, 3) := by decide +kernel
theorem dX12_school_150 : decode cX12_school 150 = .ok (.iload_n 1, 1) := by decide +kernel
theorem dX12_school_151 : decode cX12_school 151 = .ok (.aload_n 0, 1) := by decide +kernel
theorem dX12_school_152 : decode cX12_school 152 = .ok (.getfield 36, 3) := by decide +kernel
theorem dX12_school_155 : decode cX12_school 155 = .ok (.iload_n 1, 1) := by decide +kernel
theorem dX12_school_156 : decode cX12_school 156 = .ok (.iaload, 1) := by decide +kernel
theorem dX12_school_157 : decode cX12_school 157 = .ok (.iastore, 1) := by decide +kernel
theorem dX12_school_158 : decode cX12_school 158 = .ok (.aload_n 0, 1) := by decide +kernel
theorem dX12_school_159 : decode cX12_school 159 = .ok (.getfield 60, 3) := by decide +kernel
theorem tw_1180 : Cond.fieldLink RX12 60 "LimpCodeModel" "book" "[I" ∈ TT := nx_mem 1180 (by decide +kernel) (by decide +kernel)
theorem dX12_school_162 : decode cX12_school 162 = .ok (.iload_n 1, 1) := by decide +kernel
theorem dX12_school_163 : decode cX12_school 163 = .ok (.aload_n 0, 1) := by decide +kernel
theorem dX12_school_164 : decode cX12_school 164 = .ok (.getfield 39, 3) := by decide +kernel
theorem dX12_school_167 : decode cX12_school 167 = .ok (.iload_n 1, 1) := by decide +kernel
theorem dX12_school_168 : decode cX12_school 168 = .ok (.iaload, 1) := by decide +kernel
theorem dX12_school_169 : decode cX12_school 169 = .ok (.iastore, 1) := by decide +kernel
theorem dX12_school_170 : decode cX12_school 170 = .ok (.iinc 1 1, 3) := by decide +kernel
theorem dX12_school_173 : decode cX12_school 173 = .ok (.goto (-32), 3) := by decide +kernel
theorem dX12_school_176 : decode cX12_school 176 = .ok (.aload_n 0, 1) := by decide +kernel
theorem dX12_school_177 : decode cX12_school 177 = .ok (.invokevirtual 288, 3) := by decide +kernel
theorem tw_1459 : Cond.methodLink RX12 288 yX12_layLetters ∈ TT := nx_mem 1459 (by decide +kernel) (by decide +kernel)
theorem tw_1461 : Cond.instanceMethod yX12_layLetters ∈ TT := nx_mem 1461 (by decide +kernel) (by decide +kernel)
theorem tw_55 : Cond.selects RX12 yX12_layLetters yX12_layLetters ∈ TT := nx_mem 55 (by decide +kernel) (by decide +kernel)
theorem tw_1462 : Cond.code yX12_layLetters cX12_layLetters 3 none ∈ TT := nx_mem 1462 (by decide +kernel) (by decide +kernel)
theorem dX12_school_180 : decode cX12_school 180 = .ok (.aload_n 0, 1) := by decide +kernel
theorem dX12_school_181 : decode cX12_school 181 = .ok (.invokevirtual 160, 3) := by decide +kernel
theorem tw_1152 : Cond.methodLink RX12 160 yX12_clearWalk ∈ TT := nx_mem 1152 (by decide +kernel) (by decide +kernel)
theorem tw_1154 : Cond.instanceMethod yX12_clearWalk ∈ TT := nx_mem 1154 (by decide +kernel) (by decide +kernel)
theorem tw_38 : Cond.selects RX12 yX12_clearWalk yX12_clearWalk ∈ TT := nx_mem 38 (by decide +kernel) (by decide +kernel)
theorem tw_1155 : Cond.code yX12_clearWalk cX12_clearWalk 2 none ∈ TT := nx_mem 1155 (by decide +kernel) (by decide +kernel)
theorem dX12_school_184 : decode cX12_school 184 = .ok (.aload_n 0, 1) := by decide +kernel
theorem dX12_school_185 : decode cX12_school 185 = .ok (.getfield 94, 3) := by decide +kernel
theorem tw_1201 : Cond.fieldLink RX12 94 "LimpCodeModel" "textMany" "[I" ∈ TT := nx_mem 1201 (by decide +kernel) (by decide +kernel)
theorem dX12_school_188 : decode cX12_school 188 = .ok (.iconst 0, 1) := by decide +kernel
theorem dX12_school_189 : decode cX12_school 189 = .ok (.iconst 0, 1) := by decide +kernel
theorem dX12_school_190 : decode cX12_school 190 = .ok (.iastore, 1) := by decide +kernel
theorem dX12_school_191 : decode cX12_school 191 = .ok (.aload_n 0, 1) := by decide +kernel
theorem dX12_school_192 : decode cX12_school 192 = .ok (.getfield 94, 3) := by decide +kernel
theorem dX12_school_195 : decode cX12_school 195 = .ok (.iconst 1, 1) := by decide +kernel
theorem dX12_school_196 : decode cX12_school 196 = .ok (.iconst 0, 1) := by decide +kernel
theorem dX12_school_197 : decode cX12_school 197 = .ok (.iastore, 1) := by decide +kernel
theorem dX12_school_198 : decode cX12_school 198 = .ok (.aload_n 0, 1) := by decide +kernel
theorem dX12_school_199 : decode cX12_school 199 = .ok (.iconst 0, 1) := by decide +kernel
theorem dX12_school_200 : decode cX12_school 200 = .ok (.putfield 291, 3) := by decide +kernel
theorem tw_1218 : Cond.fieldLink RX12 291 "LimpCodeModel" "sounds" "I" ∈ TT := nx_mem 1218 (by decide +kernel) (by decide +kernel)
theorem dX12_school_203 : decode cX12_school 203 = .ok (.aload_n 0, 1) := by decide +kernel
theorem dX12_school_204 : decode cX12_school 204 = .ok (.iconst 0, 1) := by decide +kernel
theorem dX12_school_205 : decode cX12_school 205 = .ok (.putfield 294, 3) := by decide +kernel
theorem tw_1198 : Cond.fieldLink RX12 294 "LimpCodeModel" "lain" "I" ∈ TT := nx_mem 1198 (by decide +kernel) (by decide +kernel)
theorem dX12_school_208 : decode cX12_school 208 = .ok (.iconst 0, 1) := by decide +kernel
theorem dX12_school_209 : decode cX12_school 209 = .ok (.istore_n 1, 1) := by decide +kernel
theorem dX12_school_210 : decode cX12_school 210 = .ok (.iload_n 1, 1) := by decide +kernel
theorem dX12_school_211 : decode cX12_school 211 = .ok (.iconst 3, 1) := by decide +kernel
theorem dX12_school_212 : decode cX12_school 212 = .ok (.if_icmp .ge 16, 3) := by decide +kernel
theorem dX12_school_215 : decode cX12_school 215 = .ok (.aload_n 0, 1) := by decide +kernel
theorem dX12_school_216 : decode cX12_school 216 = .ok (.getfield 148, 3) := by decide +kernel
theorem tw_1222 : Cond.fieldLink RX12 148 "LimpCodeModel" "hasBox" "[Z" ∈ TT := nx_mem 1222 (by decide +kernel) (by decide +kernel)
theorem dX12_school_219 : decode cX12_school 219 = .ok (.iload_n 1, 1) := by decide +kernel
theorem dX12_school_220 : decode cX12_school 220 = .ok (.iconst 0, 1) := by decide +kernel
theorem dX12_school_221 : decode cX12_school 221 = .ok (.bastore, 1) := by decide +kernel
theorem dX12_school_222 : decode cX12_school 222 = .ok (.iinc 1 1, 3) := by decide +kernel
theorem dX12_school_225 : decode cX12_school 225 = .ok (.goto (-15), 3) := by decide +kernel
theorem dX12_school_228 : decode cX12_school 228 = .ok (.aload_n 0, 1) := by decide +kernel
theorem dX12_school_229 : decode cX12_school 229 = .ok (.getfield 282, 3) := by decide +kernel
theorem dX12_school_232 : decode cX12_school 232 = .ok (.ireturn, 1) := by decide +kernel
theorem dX12_school_11 : decode cX12_school 11 = .ok (.iconst (-1), 1) := by decide +kernel
theorem dX12_school_12 : decode cX12_school 12 = .ok (.ireturn, 1) := by decide +kernel
theorem dX12_step_0 : decode cX12_step 0 = .ok (.aload_n 0, 1) := by decide +kernel
theorem dX12_step_1 : decode cX12_step 1 = .ok (.iload_n 1, 1) := by decide +kernel
theorem dX12_step_2 : decode cX12_step 2 = .ok (.invokevirtual 322, 3) := by decide +kernel
theorem tw_1483 : Cond.methodLink RX12 322 yX12_isStep ∈ TT := nx_mem 1483 (by decide +kernel) (by decide +kernel)
theorem tw_1485 : Cond.instanceMethod yX12_isStep ∈ TT := nx_mem 1485 (by decide +kernel) (by decide +kernel)
theorem tw_59 : Cond.selects RX12 yX12_isStep yX12_isStep ∈ TT := nx_mem 59 (by decide +kernel) (by decide +kernel)
theorem tw_1486 : Cond.code yX12_isStep cX12_isStep 2 (some .boolean) ∈ TT := nx_mem 1486 (by decide +kernel) (by decide +kernel)
theorem dX12_step_5 : decode cX12_step 5 = .ok (.ifCond .eq 31, 3) := by decide +kernel
theorem dX12_step_36 : decode cX12_step 36 = .ok (.iconst (-1), 1) := by decide +kernel
theorem dX12_step_37 : decode cX12_step 37 = .ok (.ireturn, 1) := by decide +kernel
theorem dX12_step_8 : decode cX12_step 8 = .ok (.aload_n 0, 1) := by decide +kernel
theorem dX12_step_9 : decode cX12_step 9 = .ok (.iload_n 1, 1) := by decide +kernel
theorem dX12_step_10 : decode cX12_step 10 = .ok (.aload_n 0, 1) := by decide +kernel
theorem dX12_step_11 : decode cX12_step 11 = .ok (.getfield 319, 3) := by decide +kernel
theorem dX12_step_14 : decode cX12_step 14 = .ok (.invokevirtual 304, 3) := by decide +kernel
theorem dX12_step_17 : decode cX12_step 17 = .ok (.ifCond .eq 19, 3) := by decide +kernel
theorem dX12_step_20 : decode cX12_step 20 = .ok (.aload_n 0, 1) := by decide +kernel
theorem dX12_step_21 : decode cX12_step 21 = .ok (.getfield 316, 3) := by decide +kernel
theorem dX12_step_24 : decode cX12_step 24 = .ok (.aload_n 0, 1) := by decide +kernel
theorem dX12_step_25 : decode cX12_step 25 = .ok (.getfield 42, 3) := by decide +kernel
theorem dX12_step_28 : decode cX12_step 28 = .ok (.iload_n 1, 1) := by decide +kernel
theorem dX12_step_29 : decode cX12_step 29 = .ok (.iaload, 1) := by decide +kernel
theorem dX12_step_30 : decode cX12_step 30 = .ok (.iadd, 1) := by decide +kernel
theorem dX12_step_31 : decode cX12_step 31 = .ok (.bipush 60, 2) := by decide +kernel
theorem dX12_step_33 : decode cX12_step 33 = .ok (.if_icmp .le 5, 3) := by decide +kernel
theorem dX12_step_38 : decode cX12_step 38 = .ok (.aload_n 0, 1) := by decide +kernel
theorem dX12_step_39 : decode cX12_step 39 = .ok (.getfield 72, 3) := by decide +kernel
theorem dX12_step_42 : decode cX12_step 42 = .ok (.aload_n 0, 1) := by decide +kernel
theorem dX12_step_43 : decode cX12_step 43 = .ok (.getfield 316, 3) := by decide +kernel
theorem dX12_step_46 : decode cX12_step 46 = .ok (.iload_n 1, 1) := by decide +kernel
theorem dX12_step_47 : decode cX12_step 47 = .ok (.iastore, 1) := by decide +kernel
theorem dX12_step_48 : decode cX12_step 48 = .ok (.aload_n 0, 1) := by decide +kernel
theorem dX12_step_49 : decode cX12_step 49 = .ok (.getfield 75, 3) := by decide +kernel
theorem tw_1191 : Cond.fieldLink RX12 75 "LimpCodeModel" "walk" "[I" ∈ TT := nx_mem 1191 (by decide +kernel) (by decide +kernel)
theorem dX12_step_52 : decode cX12_step 52 = .ok (.aload_n 0, 1) := by decide +kernel
theorem dX12_step_53 : decode cX12_step 53 = .ok (.getfield 313, 3) := by decide +kernel
theorem dX12_step_56 : decode cX12_step 56 = .ok (.iload_n 1, 1) := by decide +kernel
theorem dX12_step_57 : decode cX12_step 57 = .ok (.iastore, 1) := by decide +kernel
theorem dX12_step_58 : decode cX12_step 58 = .ok (.aload_n 0, 1) := by decide +kernel
theorem dX12_step_59 : decode cX12_step 59 = .ok (.dup, 1) := by decide +kernel
theorem dX12_step_60 : decode cX12_step 60 = .ok (.getfield 313, 3) := by decide +kernel
theorem dX12_step_63 : decode cX12_step 63 = .ok (.iconst 1, 1) := by decide +kernel
theorem dX12_step_64 : decode cX12_step 64 = .ok (.iadd, 1) := by decide +kernel
theorem dX12_step_65 : decode cX12_step 65 = .ok (.putfield 313, 3) := by decide +kernel
theorem dX12_step_68 : decode cX12_step 68 = .ok (.aload_n 0, 1) := by decide +kernel
theorem dX12_step_69 : decode cX12_step 69 = .ok (.dup, 1) := by decide +kernel
theorem dX12_step_70 : decode cX12_step 70 = .ok (.getfield 316, 3) := by decide +kernel
theorem dX12_step_73 : decode cX12_step 73 = .ok (.aload_n 0, 1) := by decide +kernel
theorem dX12_step_74 : decode cX12_step 74 = .ok (.getfield 42, 3) := by decide +kernel
theorem dX12_step_77 : decode cX12_step 77 = .ok (.iload_n 1, 1) := by decide +kernel
theorem dX12_step_78 : decode cX12_step 78 = .ok (.iaload, 1) := by decide +kernel
theorem dX12_step_79 : decode cX12_step 79 = .ok (.iadd, 1) := by decide +kernel
theorem dX12_step_80 : decode cX12_step 80 = .ok (.putfield 316, 3) := by decide +kernel
theorem dX12_step_83 : decode cX12_step 83 = .ok (.aload_n 0, 1) := by decide +kernel
theorem dX12_step_84 : decode cX12_step 84 = .ok (.aload_n 0, 1) := by decide +kernel
theorem dX12_step_85 : decode cX12_step 85 = .ok (.iload_n 1, 1) := by decide +kernel
theorem dX12_step_86 : decode cX12_step 86 = .ok (.aload_n 0, 1) := by decide +kernel
theorem dX12_step_87 : decode cX12_step 87 = .ok (.getfield 319, 3) := by decide +kernel
theorem dX12_step_90 : decode cX12_step 90 = .ok (.invokevirtual 308, 3) := by decide +kernel
theorem dX12_step_93 : decode cX12_step 93 = .ok (.putfield 319, 3) := by decide +kernel
theorem dX12_step_96 : decode cX12_step 96 = .ok (.aload_n 0, 1) := by decide +kernel
theorem dX12_step_97 : decode cX12_step 97 = .ok (.getfield 316, 3) := by decide +kernel
theorem dX12_step_100 : decode cX12_step 100 = .ok (.ireturn, 1) := by decide +kernel
theorem dX12_stop_0 : decode cX12_stop 0 = .ok (.aload_n 0, 1) := by decide +kernel
theorem dX12_stop_1 : decode cX12_stop 1 = .ok (.getfield 316, 3) := by decide +kernel
theorem dX12_stop_4 : decode cX12_stop 4 = .ok (.istore_n 1, 1) := by decide +kernel
theorem dX12_stop_5 : decode cX12_stop 5 = .ok (.aload_n 0, 1) := by decide +kernel
theorem dX12_stop_6 : decode cX12_stop 6 = .ok (.invokevirtual 160, 3) := by decide +kernel
theorem dX12_stop_9 : decode cX12_stop 9 = .ok (.iload_n 1, 1) := by decide +kernel
theorem dX12_stop_10 : decode cX12_stop 10 = .ok (.ireturn, 1) := by decide +kernel
theorem dX12_isText_0 : decode cX12_isText 0 = .ok (.iload_n 0, 1) := by decide +kernel
theorem dX12_isText_1 : decode cX12_isText 1 = .ok (.ifCond .eq 8, 3) := by decide +kernel
theorem dX12_isText_9 : decode cX12_isText 9 = .ok (.iconst 1, 1) := by decide +kernel
theorem dX12_isText_10 : decode cX12_isText 10 = .ok (.goto 4, 3) := by decide +kernel
theorem dX12_isText_14 : decode cX12_isText 14 = .ok (.ireturn, 1) := by decide +kernel
theorem dX12_isText_4 : decode cX12_isText 4 = .ok (.iload_n 0, 1) := by decide +kernel
theorem dX12_isText_5 : decode cX12_isText 5 = .ok (.iconst 1, 1) := by decide +kernel
theorem dX12_isText_6 : decode cX12_isText 6 = .ok (.if_icmp .ne 7, 3) := by decide +kernel
theorem dX12_isText_13 : decode cX12_isText 13 = .ok (.iconst 0, 1) := by decide +kernel
theorem dX12_lies_0 : decode cX12_lies 0 = .ok (.iload_n 1, 1) := by decide +kernel
theorem dX12_lies_1 : decode cX12_lies 1 = .ok (.iconst 0, 1) := by decide +kernel
theorem dX12_lies_2 : decode cX12_lies 2 = .ok (.aload_n 0, 1) := by decide +kernel
theorem dX12_lies_3 : decode cX12_lies 3 = .ok (.getfield 294, 3) := by decide +kernel
theorem dX12_lies_6 : decode cX12_lies 6 = .ok (.iconst 1, 1) := by decide +kernel
theorem dX12_lies_7 : decode cX12_lies 7 = .ok (.isub, 1) := by decide +kernel
theorem dX12_lies_8 : decode cX12_lies 8 = .ok (.invokestatic 297, 3) := by decide +kernel
theorem dX12_lies_11 : decode cX12_lies 11 = .ok (.ifCond .eq 12, 3) := by decide +kernel
theorem dX12_lies_23 : decode cX12_lies 23 = .ok (.iconst (-1), 1) := by decide +kernel
theorem dX12_lies_24 : decode cX12_lies 24 = .ok (.ireturn, 1) := by decide +kernel
theorem dX12_lies_14 : decode cX12_lies 14 = .ok (.aload_n 0, 1) := by decide +kernel
theorem dX12_lies_15 : decode cX12_lies 15 = .ok (.getfield 81, 3) := by decide +kernel
theorem tw_1196 : Cond.fieldLink RX12 81 "LimpCodeModel" "lies" "[I" ∈ TT := nx_mem 1196 (by decide +kernel) (by decide +kernel)
theorem dX12_lies_18 : decode cX12_lies 18 = .ok (.iload_n 1, 1) := by decide +kernel
theorem dX12_lies_19 : decode cX12_lies 19 = .ok (.iaload, 1) := by decide +kernel
theorem dX12_lies_20 : decode cX12_lies 20 = .ok (.goto 4, 3) := by decide +kernel
theorem dX12_cobble_0 : decode cX12_cobble 0 = .ok (.aload_n 0, 1) := by decide +kernel
theorem dX12_cobble_1 : decode cX12_cobble 1 = .ok (.iload_n 1, 1) := by decide +kernel
theorem dX12_cobble_2 : decode cX12_cobble 2 = .ok (.invokevirtual 322, 3) := by decide +kernel
theorem dX12_cobble_5 : decode cX12_cobble 5 = .ok (.ifCond .eq 31, 3) := by decide +kernel
theorem dX12_cobble_36 : decode cX12_cobble 36 = .ok (.iconst (-1), 1) := by decide +kernel
theorem dX12_cobble_37 : decode cX12_cobble 37 = .ok (.ireturn, 1) := by decide +kernel
theorem dX12_cobble_8 : decode cX12_cobble 8 = .ok (.iload_n 2, 1) := by decide +kernel
theorem dX12_cobble_9 : decode cX12_cobble 9 = .ok (.bipush (-9), 2) := by decide +kernel
theorem dX12_cobble_11 : decode cX12_cobble 11 = .ok (.bipush 9, 2) := by decide +kernel
theorem dX12_cobble_13 : decode cX12_cobble 13 = .ok (.invokestatic 297, 3) := by decide +kernel
theorem dX12_cobble_16 : decode cX12_cobble 16 = .ok (.ifCond .eq 20, 3) := by decide +kernel
theorem dX12_cobble_19 : decode cX12_cobble 19 = .ok (.aload_n 0, 1) := by decide +kernel
theorem dX12_cobble_20 : decode cX12_cobble 20 = .ok (.getfield 45, 3) := by decide +kernel
theorem dX12_cobble_23 : decode cX12_cobble 23 = .ok (.iload_n 1, 1) := by decide +kernel
theorem dX12_cobble_24 : decode cX12_cobble 24 = .ok (.iaload, 1) := by decide +kernel
theorem dX12_cobble_25 : decode cX12_cobble 25 = .ok (.iload_n 2, 1) := by decide +kernel
theorem dX12_cobble_26 : decode cX12_cobble 26 = .ok (.iadd, 1) := by decide +kernel
theorem dX12_cobble_27 : decode cX12_cobble 27 = .ok (.iconst 0, 1) := by decide +kernel
theorem dX12_cobble_28 : decode cX12_cobble 28 = .ok (.bipush 9, 2) := by decide +kernel
theorem dX12_cobble_30 : decode cX12_cobble 30 = .ok (.invokestatic 297, 3) := by decide +kernel
theorem dX12_cobble_33 : decode cX12_cobble 33 = .ok (.ifCond .ne 5, 3) := by decide +kernel
theorem dX12_cobble_38 : decode cX12_cobble 38 = .ok (.aload_n 0, 1) := by decide +kernel
theorem dX12_cobble_39 : decode cX12_cobble 39 = .ok (.getfield 45, 3) := by decide +kernel
theorem dX12_cobble_42 : decode cX12_cobble 42 = .ok (.iload_n 1, 1) := by decide +kernel
theorem dX12_cobble_43 : decode cX12_cobble 43 = .ok (.dup2, 1) := by decide +kernel
theorem dX12_cobble_44 : decode cX12_cobble 44 = .ok (.iaload, 1) := by decide +kernel
theorem dX12_cobble_45 : decode cX12_cobble 45 = .ok (.iload_n 2, 1) := by decide +kernel
theorem dX12_cobble_46 : decode cX12_cobble 46 = .ok (.iadd, 1) := by decide +kernel
theorem dX12_cobble_47 : decode cX12_cobble 47 = .ok (.iastore, 1) := by decide +kernel
theorem dX12_cobble_48 : decode cX12_cobble 48 = .ok (.aload_n 0, 1) := by decide +kernel
theorem dX12_cobble_49 : decode cX12_cobble 49 = .ok (.getfield 45, 3) := by decide +kernel
theorem dX12_cobble_52 : decode cX12_cobble 52 = .ok (.iload_n 1, 1) := by decide +kernel
theorem dX12_cobble_53 : decode cX12_cobble 53 = .ok (.iaload, 1) := by decide +kernel
theorem dX12_cobble_54 : decode cX12_cobble 54 = .ok (.ireturn, 1) := by decide +kernel
theorem dX12_sound_0 : decode cX12_sound 0 = .ok (.aload_n 0, 1) := by decide +kernel
theorem dX12_sound_1 : decode cX12_sound 1 = .ok (.iload_n 1, 1) := by decide +kernel
theorem dX12_sound_2 : decode cX12_sound 2 = .ok (.invokevirtual 331, 3) := by decide +kernel
theorem tw_1506 : Cond.methodLink RX12 331 yX12_isEar ∈ TT := nx_mem 1506 (by decide +kernel) (by decide +kernel)
theorem tw_1508 : Cond.instanceMethod yX12_isEar ∈ TT := nx_mem 1508 (by decide +kernel) (by decide +kernel)
theorem tw_60 : Cond.selects RX12 yX12_isEar yX12_isEar ∈ TT := nx_mem 60 (by decide +kernel) (by decide +kernel)
theorem tw_1509 : Cond.code yX12_isEar cX12_isEar 2 (some .boolean) ∈ TT := nx_mem 1509 (by decide +kernel) (by decide +kernel)
theorem dX12_sound_5 : decode cX12_sound 5 = .ok (.ifCond .eq 43, 3) := by decide +kernel
theorem dX12_sound_48 : decode cX12_sound 48 = .ok (.iconst (-1), 1) := by decide +kernel
theorem dX12_sound_49 : decode cX12_sound 49 = .ok (.ireturn, 1) := by decide +kernel
theorem dX12_sound_8 : decode cX12_sound 8 = .ok (.iload_n 2, 1) := by decide +kernel
theorem dX12_sound_9 : decode cX12_sound 9 = .ok (.iconst 0, 1) := by decide +kernel
theorem dX12_sound_10 : decode cX12_sound 10 = .ok (.bipush 59, 2) := by decide +kernel
theorem dX12_sound_12 : decode cX12_sound 12 = .ok (.invokestatic 297, 3) := by decide +kernel
theorem dX12_sound_15 : decode cX12_sound 15 = .ok (.ifCond .eq 33, 3) := by decide +kernel
theorem dX12_sound_18 : decode cX12_sound 18 = .ok (.iload_n 3, 1) := by decide +kernel
theorem dX12_sound_19 : decode cX12_sound 19 = .ok (.iconst 0, 1) := by decide +kernel
theorem dX12_sound_20 : decode cX12_sound 20 = .ok (.bipush 9, 2) := by decide +kernel
theorem dX12_sound_22 : decode cX12_sound 22 = .ok (.invokestatic 297, 3) := by decide +kernel
theorem dX12_sound_25 : decode cX12_sound 25 = .ok (.ifCond .eq 23, 3) := by decide +kernel
theorem dX12_sound_28 : decode cX12_sound 28 = .ok (.iload 4, 2) := by decide +kernel
theorem dX12_sound_30 : decode cX12_sound 30 = .ok (.iload_n 3, 1) := by decide +kernel
theorem dX12_sound_31 : decode cX12_sound 31 = .ok (.bipush 9, 2) := by decide +kernel
theorem dX12_sound_33 : decode cX12_sound 33 = .ok (.invokestatic 297, 3) := by decide +kernel
theorem dX12_sound_36 : decode cX12_sound 36 = .ok (.ifCond .eq 12, 3) := by decide +kernel
theorem dX12_sound_39 : decode cX12_sound 39 = .ok (.aload_n 0, 1) := by decide +kernel
theorem dX12_sound_40 : decode cX12_sound 40 = .ok (.getfield 291, 3) := by decide +kernel
theorem dX12_sound_43 : decode cX12_sound 43 = .ok (.bipush 30, 2) := by decide +kernel
theorem dX12_sound_45 : decode cX12_sound 45 = .ok (.if_icmp .ne 5, 3) := by decide +kernel
theorem dX12_sound_50 : decode cX12_sound 50 = .ok (.aload_n 0, 1) := by decide +kernel
theorem dX12_sound_51 : decode cX12_sound 51 = .ok (.getfield 124, 3) := by decide +kernel
theorem tw_1212 : Cond.fieldLink RX12 124 "LimpCodeModel" "soundEar" "[I" ∈ TT := nx_mem 1212 (by decide +kernel) (by decide +kernel)
theorem dX12_sound_54 : decode cX12_sound 54 = .ok (.aload_n 0, 1) := by decide +kernel
theorem dX12_sound_55 : decode cX12_sound 55 = .ok (.getfield 291, 3) := by decide +kernel
theorem dX12_sound_58 : decode cX12_sound 58 = .ok (.iload_n 1, 1) := by decide +kernel
theorem dX12_sound_59 : decode cX12_sound 59 = .ok (.iastore, 1) := by decide +kernel
theorem dX12_sound_60 : decode cX12_sound 60 = .ok (.aload_n 0, 1) := by decide +kernel
theorem dX12_sound_61 : decode cX12_sound 61 = .ok (.getfield 127, 3) := by decide +kernel
theorem tw_1213 : Cond.fieldLink RX12 127 "LimpCodeModel" "soundAt" "[I" ∈ TT := nx_mem 1213 (by decide +kernel) (by decide +kernel)
theorem dX12_sound_64 : decode cX12_sound 64 = .ok (.aload_n 0, 1) := by decide +kernel
theorem dX12_sound_65 : decode cX12_sound 65 = .ok (.getfield 291, 3) := by decide +kernel
theorem dX12_sound_68 : decode cX12_sound 68 = .ok (.iload_n 2, 1) := by decide +kernel
theorem dX12_sound_69 : decode cX12_sound 69 = .ok (.iastore, 1) := by decide +kernel
theorem dX12_sound_70 : decode cX12_sound 70 = .ok (.aload_n 0, 1) := by decide +kernel
theorem dX12_sound_71 : decode cX12_sound 71 = .ok (.getfield 130, 3) := by decide +kernel
theorem tw_1214 : Cond.fieldLink RX12 130 "LimpCodeModel" "soundLeast" "[I" ∈ TT := nx_mem 1214 (by decide +kernel) (by decide +kernel)
theorem dX12_sound_74 : decode cX12_sound 74 = .ok (.aload_n 0, 1) := by decide +kernel
theorem dX12_sound_75 : decode cX12_sound 75 = .ok (.getfield 291, 3) := by decide +kernel
theorem dX12_sound_78 : decode cX12_sound 78 = .ok (.iload_n 3, 1) := by decide +kernel
theorem dX12_sound_79 : decode cX12_sound 79 = .ok (.iastore, 1) := by decide +kernel
theorem dX12_sound_80 : decode cX12_sound 80 = .ok (.aload_n 0, 1) := by decide +kernel
theorem dX12_sound_81 : decode cX12_sound 81 = .ok (.getfield 133, 3) := by decide +kernel
theorem tw_1215 : Cond.fieldLink RX12 133 "LimpCodeModel" "soundMost" "[I" ∈ TT := nx_mem 1215 (by decide +kernel) (by decide +kernel)
theorem dX12_sound_84 : decode cX12_sound 84 = .ok (.aload_n 0, 1) := by decide +kernel
theorem dX12_sound_85 : decode cX12_sound 85 = .ok (.getfield 291, 3) := by decide +kernel
theorem dX12_sound_88 : decode cX12_sound 88 = .ok (.iload 4, 2) := by decide +kernel
theorem dX12_sound_90 : decode cX12_sound 90 = .ok (.iastore, 1) := by decide +kernel
theorem dX12_sound_91 : decode cX12_sound 91 = .ok (.aload_n 0, 1) := by decide +kernel
theorem dX12_sound_92 : decode cX12_sound 92 = .ok (.getfield 136, 3) := by decide +kernel
theorem tw_1216 : Cond.fieldLink RX12 136 "LimpCodeModel" "soundTold" "[I" ∈ TT := nx_mem 1216 (by decide +kernel) (by decide +kernel)
theorem dX12_sound_95 : decode cX12_sound 95 = .ok (.aload_n 0, 1) := by decide +kernel
theorem dX12_sound_96 : decode cX12_sound 96 = .ok (.getfield 291, 3) := by decide +kernel
theorem dX12_sound_99 : decode cX12_sound 99 = .ok (.aload_n 0, 1) := by decide +kernel
theorem dX12_sound_100 : decode cX12_sound 100 = .ok (.getfield 422, 3) := by decide +kernel
theorem dX12_sound_103 : decode cX12_sound 103 = .ok (.iastore, 1) := by decide +kernel
theorem dX12_sound_104 : decode cX12_sound 104 = .ok (.aload_n 0, 1) := by decide +kernel
theorem dX12_sound_105 : decode cX12_sound 105 = .ok (.getfield 139, 3) := by decide +kernel
theorem tw_1217 : Cond.fieldLink RX12 139 "LimpCodeModel" "soundUntold" "[I" ∈ TT := nx_mem 1217 (by decide +kernel) (by decide +kernel)
theorem dX12_sound_108 : decode cX12_sound 108 = .ok (.aload_n 0, 1) := by decide +kernel
theorem dX12_sound_109 : decode cX12_sound 109 = .ok (.getfield 291, 3) := by decide +kernel
theorem dX12_sound_112 : decode cX12_sound 112 = .ok (.iconst (-1), 1) := by decide +kernel
theorem dX12_sound_113 : decode cX12_sound 113 = .ok (.iastore, 1) := by decide +kernel
theorem dX12_sound_114 : decode cX12_sound 114 = .ok (.aload_n 0, 1) := by decide +kernel
theorem dX12_sound_115 : decode cX12_sound 115 = .ok (.dup, 1) := by decide +kernel
theorem dX12_sound_116 : decode cX12_sound 116 = .ok (.getfield 291, 3) := by decide +kernel
theorem dX12_sound_119 : decode cX12_sound 119 = .ok (.iconst 1, 1) := by decide +kernel
theorem dX12_sound_120 : decode cX12_sound 120 = .ok (.iadd, 1) := by decide +kernel
theorem dX12_sound_121 : decode cX12_sound 121 = .ok (.putfield 291, 3) := by decide +kernel
theorem dX12_sound_124 : decode cX12_sound 124 = .ok (.aload_n 0, 1) := by decide +kernel
theorem dX12_sound_125 : decode cX12_sound 125 = .ok (.getfield 291, 3) := by decide +kernel
theorem dX12_sound_128 : decode cX12_sound 128 = .ok (.iconst 1, 1) := by decide +kernel
theorem dX12_sound_129 : decode cX12_sound 129 = .ok (.isub, 1) := by decide +kernel
theorem dX12_sound_130 : decode cX12_sound 130 = .ok (.ireturn, 1) := by decide +kernel
theorem dX12_untell_0 : decode cX12_untell 0 = .ok (.iload_n 1, 1) := by decide +kernel
theorem dX12_untell_1 : decode cX12_untell 1 = .ok (.iconst 0, 1) := by decide +kernel
theorem dX12_untell_2 : decode cX12_untell 2 = .ok (.aload_n 0, 1) := by decide +kernel
theorem dX12_untell_3 : decode cX12_untell 3 = .ok (.getfield 291, 3) := by decide +kernel
theorem dX12_untell_6 : decode cX12_untell 6 = .ok (.iconst 1, 1) := by decide +kernel
theorem dX12_untell_7 : decode cX12_untell 7 = .ok (.isub, 1) := by decide +kernel
theorem dX12_untell_8 : decode cX12_untell 8 = .ok (.invokestatic 297, 3) := by decide +kernel
theorem dX12_untell_11 : decode cX12_untell 11 = .ok (.ifCond .eq 12, 3) := by decide +kernel
theorem dX12_untell_23 : decode cX12_untell 23 = .ok (.iconst 0, 1) := by decide +kernel
theorem dX12_untell_24 : decode cX12_untell 24 = .ok (.ireturn, 1) := by decide +kernel
theorem dX12_untell_14 : decode cX12_untell 14 = .ok (.aload_n 0, 1) := by decide +kernel
theorem dX12_untell_15 : decode cX12_untell 15 = .ok (.getfield 139, 3) := by decide +kernel
theorem dX12_untell_18 : decode cX12_untell 18 = .ok (.iload_n 1, 1) := by decide +kernel
theorem dX12_untell_19 : decode cX12_untell 19 = .ok (.iaload, 1) := by decide +kernel
theorem dX12_untell_20 : decode cX12_untell 20 = .ok (.ifCond .lt 5, 3) := by decide +kernel
theorem dX12_untell_25 : decode cX12_untell 25 = .ok (.aload_n 0, 1) := by decide +kernel
theorem dX12_untell_26 : decode cX12_untell 26 = .ok (.getfield 139, 3) := by decide +kernel
theorem dX12_untell_29 : decode cX12_untell 29 = .ok (.iload_n 1, 1) := by decide +kernel
theorem dX12_untell_30 : decode cX12_untell 30 = .ok (.aload_n 0, 1) := by decide +kernel
theorem dX12_untell_31 : decode cX12_untell 31 = .ok (.getfield 422, 3) := by decide +kernel
theorem dX12_untell_34 : decode cX12_untell 34 = .ok (.iastore, 1) := by decide +kernel
theorem dX12_untell_35 : decode cX12_untell 35 = .ok (.iconst 1, 1) := by decide +kernel
theorem dX12_untell_36 : decode cX12_untell 36 = .ok (.ireturn, 1) := by decide +kernel
theorem dX12_heard_0 : decode cX12_heard 0 = .ok (.aload_n 0, 1) := by decide +kernel
theorem dX12_heard_1 : decode cX12_heard 1 = .ok (.iload_n 1, 1) := by decide +kernel
theorem dX12_heard_2 : decode cX12_heard 2 = .ok (.invokevirtual 331, 3) := by decide +kernel
theorem dX12_heard_5 : decode cX12_heard 5 = .ok (.ifCond .eq 31, 3) := by decide +kernel
theorem dX12_heard_36 : decode cX12_heard 36 = .ok (.iconst (-1), 1) := by decide +kernel
theorem dX12_heard_37 : decode cX12_heard 37 = .ok (.ireturn, 1) := by decide +kernel
theorem dX12_heard_8 : decode cX12_heard 8 = .ok (.iload_n 2, 1) := by decide +kernel
theorem dX12_heard_9 : decode cX12_heard 9 = .ok (.iconst 0, 1) := by decide +kernel
theorem dX12_heard_10 : decode cX12_heard 10 = .ok (.aload_n 0, 1) := by decide +kernel
theorem dX12_heard_11 : decode cX12_heard 11 = .ok (.getfield 316, 3) := by decide +kernel
theorem dX12_heard_14 : decode cX12_heard 14 = .ok (.iconst 1, 1) := by decide +kernel
theorem dX12_heard_15 : decode cX12_heard 15 = .ok (.isub, 1) := by decide +kernel
theorem dX12_heard_16 : decode cX12_heard 16 = .ok (.invokestatic 297, 3) := by decide +kernel
theorem dX12_heard_19 : decode cX12_heard 19 = .ok (.ifCond .eq 17, 3) := by decide +kernel
theorem dX12_heard_22 : decode cX12_heard 22 = .ok (.aload_n 0, 1) := by decide +kernel
theorem dX12_heard_23 : decode cX12_heard 23 = .ok (.iload_n 1, 1) := by decide +kernel
theorem dX12_heard_24 : decode cX12_heard 24 = .ok (.aload_n 0, 1) := by decide +kernel
theorem dX12_heard_25 : decode cX12_heard 25 = .ok (.getfield 72, 3) := by decide +kernel
theorem dX12_heard_28 : decode cX12_heard 28 = .ok (.iload_n 2, 1) := by decide +kernel
theorem dX12_heard_29 : decode cX12_heard 29 = .ok (.iaload, 1) := by decide +kernel
theorem dX12_heard_30 : decode cX12_heard 30 = .ok (.invokevirtual 334, 3) := by decide +kernel
theorem tw_1510 : Cond.methodLink RX12 334 yX12_hears ∈ TT := nx_mem 1510 (by decide +kernel) (by decide +kernel)
theorem tw_1512 : Cond.instanceMethod yX12_hears ∈ TT := nx_mem 1512 (by decide +kernel) (by decide +kernel)
theorem tw_61 : Cond.selects RX12 yX12_hears yX12_hears ∈ TT := nx_mem 61 (by decide +kernel) (by decide +kernel)
theorem tw_1513 : Cond.code yX12_hears cX12_hears 4 (some .int) ∈ TT := nx_mem 1513 (by decide +kernel) (by decide +kernel)
theorem dX12_heard_33 : decode cX12_heard 33 = .ok (.goto 4, 3) := by decide +kernel
theorem dX12_isBox_0 : decode cX12_isBox 0 = .ok (.iload_n 0, 1) := by decide +kernel
theorem dX12_isBox_1 : decode cX12_isBox 1 = .ok (.ifCond .lt 12, 3) := by decide +kernel
theorem dX12_isBox_13 : decode cX12_isBox 13 = .ok (.iconst 0, 1) := by decide +kernel
theorem dX12_isBox_14 : decode cX12_isBox 14 = .ok (.ireturn, 1) := by decide +kernel
theorem dX12_isBox_4 : decode cX12_isBox 4 = .ok (.iload_n 0, 1) := by decide +kernel
theorem dX12_isBox_5 : decode cX12_isBox 5 = .ok (.iconst 3, 1) := by decide +kernel
theorem dX12_isBox_6 : decode cX12_isBox 6 = .ok (.if_icmp .ge 7, 3) := by decide +kernel
theorem dX12_isBox_9 : decode cX12_isBox 9 = .ok (.iconst 1, 1) := by decide +kernel
theorem dX12_isBox_10 : decode cX12_isBox 10 = .ok (.goto 4, 3) := by decide +kernel
set_option maxHeartbeats 4000000 in
set_option maxRecDepth 100000 in
theorem s_X12_lies (lau : Launch) (gg : va_G) (kA : Nat → ClassId) (m : Nat) (i : Int32) (m0 : Nat) (mtp : Nat) (mfa : Nat) (mfp : Int32) (mat : Nat) (msz : Nat) (mso : Nat) (mpl : Int32) (mnu : Int32) (mwd : Int64) (m10 : Nat) (m11 : Nat) (m12 : Nat) (m13 : Nat) (m14 : Nat) (m15 : Nat) (m16 : Nat) (m17 : Nat) (m18 : Nat) (m19 : Nat) (m20 : Nat) (m21 : Nat) (m22 : Nat) (m23 : Nat) (m24 : Nat) (mns : Nat) (mnl : Nat) (mne : Nat) (mst : Nat) (mlt : Nat) (mer : Nat) (m31 : Nat) (m32 : Nat) (m33 : Nat) (m34 : Nat) (m35 : Nat) (mwm : Nat) (mwt : Nat) (mwf : Nat) (m39 : Nat) (m40 : Nat) (m41 : Nat) (mla : Nat) (m43 : Nat) (m44 : Nat) (m45 : Nat) (m46 : Nat) (m47 : Nat) (m48 : Nat) (mtm : Nat) (m50 : Nat) (m51 : Nat) (m52 : Nat) (m53 : Nat) (m54 : Nat) (m55 : Nat) (m56 : Nat) (m57 : Nat) (m58 : Nat) (m59 : Nat) (m60 : Nat) (m61 : Nat) (msn : Nat) (mti : Nat) (m64 : Nat) (m65 : Nat) (m66 : Nat) (m67 : Nat) (m68 : Nat) (m69 : Nat) (mc40 : Nat → Int32) (hmfa : mfa ≤ 5) (hmso : mso ≤ 100) (hmst : mst ≤ 6) (hmlt : mlt ≤ 10) (hmer : mer ≤ 4) (hmwm : mwm ≤ mwt) (hmwt : mwt ≤ 60) (hmwf : mwf ≤ 1) (hmsn : msn ≤ 30) (hmla : mla ≤ 60) (hmtp : mtp ≤ 1600) (hmti : mti ≤ 100000) (hmtm : mtm ≤ 60) : CtI lau yX12_lies cX12_lies 2 (some .int) 2 0 0 gg kA [.ref m, .int i] (mflat [(m, .inl (.inr (12, (.ref m0 :: .int (nI mtp) :: .int (nI mfa) :: .int mfp :: .int (nI mat) :: .int (nI msz) :: .int (nI mso) :: .int mpl :: .int mnu :: .long mwd :: .ref m10 :: .ref m11 :: .ref m12 :: .ref m13 :: .ref m14 :: .ref m15 :: .ref m16 :: .ref m17 :: .ref m18 :: .ref m19 :: .ref m20 :: .ref m21 :: .ref m22 :: .ref m23 :: .ref m24 :: .int (nI mns) :: .int (nI mnl) :: .int (nI mne) :: .int (nI mst) :: .int (nI mlt) :: .int (nI mer) :: .ref m31 :: .ref m32 :: .ref m33 :: .ref m34 :: .ref m35 :: .int (nI mwm) :: .int (nI mwt) :: .int (nI mwf) :: .ref m39 :: .ref m40 :: .ref m41 :: .int (nI mla) :: .ref m43 :: .ref m44 :: .ref m45 :: .ref m46 :: .ref m47 :: .ref m48 :: .int (nI mtm) :: .ref m50 :: .ref m51 :: .ref m52 :: .ref m53 :: .ref m54 :: .ref m55 :: .ref m56 :: .ref m57 :: .ref m58 :: .ref m59 :: .ref m60 :: .ref m61 :: .int (nI msn) :: .int (nI mti) :: .ref m64 :: .ref m65 :: .ref m66 :: .ref m67 :: .ref m68 :: .ref m69 :: [])))), (m40, .inl (.inl (kA 1, 60, .inl mc40)))]) (S := Unit) (fun (r : Int32) (_ : Unit) => True) (fun (_ : Unit) => mflat [(m, .inl (.inr (12, (.ref m0 :: .int (nI mtp) :: .int (nI mfa) :: .int mfp :: .int (nI mat) :: .int (nI msz) :: .int (nI mso) :: .int mpl :: .int mnu :: .long mwd :: .ref m10 :: .ref m11 :: .ref m12 :: .ref m13 :: .ref m14 :: .ref m15 :: .ref m16 :: .ref m17 :: .ref m18 :: .ref m19 :: .ref m20 :: .ref m21 :: .ref m22 :: .ref m23 :: .ref m24 :: .int (nI mns) :: .int (nI mnl) :: .int (nI mne) :: .int (nI mst) :: .int (nI mlt) :: .int (nI mer) :: .ref m31 :: .ref m32 :: .ref m33 :: .ref m34 :: .ref m35 :: .int (nI mwm) :: .int (nI mwt) :: .int (nI mwf) :: .ref m39 :: .ref m40 :: .ref m41 :: .int (nI mla) :: .ref m43 :: .ref m44 :: .ref m45 :: .ref m46 :: .ref m47 :: .ref m48 :: .int (nI mtm) :: .ref m50 :: .ref m51 :: .ref m52 :: .ref m53 :: .ref m54 :: .ref m55 :: .ref m56 :: .ref m57 :: .ref m58 :: .ref m59 :: .ref m60 :: .ref m61 :: .int (nI msn) :: .int (nI mti) :: .ref m64 :: .ref m65 :: .ref m66 :: .ref m67 :: .ref m68 :: .ref m69 :: [])))), (m40, .inl (.inl (kA 1, 60, .inl mc40)))]) := by
  refine nx_startI (by decide +kernel) (Nat.le_of_ble_eq_true rfl) ?_
  intro x hnm h hq
  have h : Ok x cX12_lies RX12 kA (rmC 2 0 0) 2 := h
  show J x (mflat [(m, .inl (.inr (12, (.ref m0 :: .int (nI mtp) :: .int (nI mfa) :: .int mfp :: .int (nI mat) :: .int (nI msz) :: .int (nI mso) :: .int mpl :: .int mnu :: .long mwd :: .ref m10 :: .ref m11 :: .ref m12 :: .ref m13 :: .ref m14 :: .ref m15 :: .ref m16 :: .ref m17 :: .ref m18 :: .ref m19 :: .ref m20 :: .ref m21 :: .ref m22 :: .ref m23 :: .ref m24 :: .int (nI mns) :: .int (nI mnl) :: .int (nI mne) :: .int (nI mst) :: .int (nI mlt) :: .int (nI mer) :: .ref m31 :: .ref m32 :: .ref m33 :: .ref m34 :: .ref m35 :: .int (nI mwm) :: .int (nI mwt) :: .int (nI mwf) :: .ref m39 :: .ref m40 :: .ref m41 :: .int (nI mla) :: .ref m43 :: .ref m44 :: .ref m45 :: .ref m46 :: .ref m47 :: .ref m48 :: .int (nI mtm) :: .ref m50 :: .ref m51 :: .ref m52 :: .ref m53 :: .ref m54 :: .ref m55 :: .ref m56 :: .ref m57 :: .ref m58 :: .ref m59 :: .ref m60 :: .ref m61 :: .int (nI msn) :: .int (nI mti) :: .ref m64 :: .ref m65 :: .ref m66 :: .ref m67 :: .ref m68 :: .ref m69 :: [])))), (m40, .inl (.inl (kA 1, 60, .inl mc40)))]) [(0, .ref m), (1, .int i)] 0 0 0 []
  refine j_iload_n h 1 rfl rfl dX12_lies_0 ?_
  refine j_iconst (v := 0) h (by decide) dX12_lies_1 ?_
  refine j_aload_n h 0 rfl rfl dX12_lies_2 ?_
  refine jm_get h iw_X12 0 rfl rfl 42 (by decide +kernel) tw_1198 rfl dX12_lies_3 ?_
  refine j_iconst (v := 1) h (by decide) dX12_lies_6 ?_
  refine j_isub h dX12_lies_7 ?_
  obtain ⟨y16945, hy16946⟩ : ∃ y9, y9 = mla := ⟨_, rfl⟩
  refine j_top (b := pm y16945) (by rw [hy16946]; exact pm_sub mla) ?_
  refine jm_callSi (np := 3) (isC := []) (isR := [0, 1]) (wc := []) (wr := [(m, .inl (.inr (12, (.ref m0 :: .int (nI mtp) :: .int (nI mfa) :: .int mfp :: .int (nI mat) :: .int (nI msz) :: .int (nI mso) :: .int mpl :: .int mnu :: .long mwd :: .ref m10 :: .ref m11 :: .ref m12 :: .ref m13 :: .ref m14 :: .ref m15 :: .ref m16 :: .ref m17 :: .ref m18 :: .ref m19 :: .ref m20 :: .ref m21 :: .ref m22 :: .ref m23 :: .ref m24 :: .int (nI mns) :: .int (nI mnl) :: .int (nI mne) :: .int (nI mst) :: .int (nI mlt) :: .int (nI mer) :: .ref m31 :: .ref m32 :: .ref m33 :: .ref m34 :: .ref m35 :: .int (nI mwm) :: .int (nI mwt) :: .int (nI mwf) :: .ref m39 :: .ref m40 :: .ref m41 :: .int (nI mla) :: .ref m43 :: .ref m44 :: .ref m45 :: .ref m46 :: .ref m47 :: .ref m48 :: .int (nI mtm) :: .ref m50 :: .ref m51 :: .ref m52 :: .ref m53 :: .ref m54 :: .ref m55 :: .ref m56 :: .ref m57 :: .ref m58 :: .ref m59 :: .ref m60 :: .ref m61 :: .int (nI msn) :: .int (nI mti) :: .ref m64 :: .ref m65 :: .ref m66 :: .ref m67 :: .ref m68 :: .ref m69 :: [])))), (m40, .inl (.inl (kA 1, 60, .inl mc40)))]) (rest := []) (As := [.int i, .int 0, .int (pm y16945)]) h (s_X12_isIn _ _ kA i 0 (pm y16945) ) tw_1487 tw_1488 tw_99 tw_1489 (by decide +kernel) rfl ⟨Nat.le_of_ble_eq_true rfl, Nat.le_of_ble_eq_true rfl⟩ (by decide +kernel) rfl rfl (by decide +kernel) (by decide +kernel) (Nat.le_of_ble_eq_true rfl) rfl ⟨Nat.le_of_ble_eq_true rfl, Nat.le_of_ble_eq_true rfl⟩ dX12_lies_8 ?_
  rintro r16948 _ e16947
  have p16949 := e16947
  subst p16949
  show J x (mflat [(m, .inl (.inr (12, (.ref m0 :: .int (nI mtp) :: .int (nI mfa) :: .int mfp :: .int (nI mat) :: .int (nI msz) :: .int (nI mso) :: .int mpl :: .int mnu :: .long mwd :: .ref m10 :: .ref m11 :: .ref m12 :: .ref m13 :: .ref m14 :: .ref m15 :: .ref m16 :: .ref m17 :: .ref m18 :: .ref m19 :: .ref m20 :: .ref m21 :: .ref m22 :: .ref m23 :: .ref m24 :: .int (nI mns) :: .int (nI mnl) :: .int (nI mne) :: .int (nI mst) :: .int (nI mlt) :: .int (nI mer) :: .ref m31 :: .ref m32 :: .ref m33 :: .ref m34 :: .ref m35 :: .int (nI mwm) :: .int (nI mwt) :: .int (nI mwf) :: .ref m39 :: .ref m40 :: .ref m41 :: .int (nI mla) :: .ref m43 :: .ref m44 :: .ref m45 :: .ref m46 :: .ref m47 :: .ref m48 :: .int (nI mtm) :: .ref m50 :: .ref m51 :: .ref m52 :: .ref m53 :: .ref m54 :: .ref m55 :: .ref m56 :: .ref m57 :: .ref m58 :: .ref m59 :: .ref m60 :: .ref m61 :: .int (nI msn) :: .int (nI mti) :: .ref m64 :: .ref m65 :: .ref m66 :: .ref m67 :: .ref m68 :: .ref m69 :: [])))), (m40, .inl (.inl (kA 1, 60, .inl mc40)))]) [(0, .ref m), (1, .int i)] 0 0 11 [.int (inV i 0 (pm y16945))]
  refine j_top (b := bIx i (nI y16945)) (inV_bIx (n := y16945) (by omega)) ?_
  rcases bIx_cases i y16945 (by omega) with hTj16950 | ⟨j16950, hj16950, rfl, hBj16950⟩
  · refine j_top (b := 0) hTj16950 ?_
    show J x (mflat [(m, .inl (.inr (12, (.ref m0 :: .int (nI mtp) :: .int (nI mfa) :: .int mfp :: .int (nI mat) :: .int (nI msz) :: .int (nI mso) :: .int mpl :: .int mnu :: .long mwd :: .ref m10 :: .ref m11 :: .ref m12 :: .ref m13 :: .ref m14 :: .ref m15 :: .ref m16 :: .ref m17 :: .ref m18 :: .ref m19 :: .ref m20 :: .ref m21 :: .ref m22 :: .ref m23 :: .ref m24 :: .int (nI mns) :: .int (nI mnl) :: .int (nI mne) :: .int (nI mst) :: .int (nI mlt) :: .int (nI mer) :: .ref m31 :: .ref m32 :: .ref m33 :: .ref m34 :: .ref m35 :: .int (nI mwm) :: .int (nI mwt) :: .int (nI mwf) :: .ref m39 :: .ref m40 :: .ref m41 :: .int (nI mla) :: .ref m43 :: .ref m44 :: .ref m45 :: .ref m46 :: .ref m47 :: .ref m48 :: .int (nI mtm) :: .ref m50 :: .ref m51 :: .ref m52 :: .ref m53 :: .ref m54 :: .ref m55 :: .ref m56 :: .ref m57 :: .ref m58 :: .ref m59 :: .ref m60 :: .ref m61 :: .int (nI msn) :: .int (nI mti) :: .ref m64 :: .ref m65 :: .ref m66 :: .ref m67 :: .ref m68 :: .ref m69 :: [])))), (m40, .inl (.inl (kA 1, 60, .inl mc40)))]) [(0, .ref m), (1, .int i)] 0 0 11 [.int 0]
    refine j_if_eq h 23 dX12_lies_11 (by decide) (fun _ => ?_) (fun q => absurd (by decide) q)
    refine j_iconst (v := (-1)) h (by decide) dX12_lies_23 ?_
    exact jm_iret h hq dX12_lies_24 () [0, 1] rfl (by decide) trivial (Nat.le_of_ble_eq_true rfl) (Nat.le_of_ble_eq_true rfl)
  · refine j_top (b := 1) hBj16950 ?_
    show J x (mflat [(m, .inl (.inr (12, (.ref m0 :: .int (nI mtp) :: .int (nI mfa) :: .int mfp :: .int (nI mat) :: .int (nI msz) :: .int (nI mso) :: .int mpl :: .int mnu :: .long mwd :: .ref m10 :: .ref m11 :: .ref m12 :: .ref m13 :: .ref m14 :: .ref m15 :: .ref m16 :: .ref m17 :: .ref m18 :: .ref m19 :: .ref m20 :: .ref m21 :: .ref m22 :: .ref m23 :: .ref m24 :: .int (nI mns) :: .int (nI mnl) :: .int (nI mne) :: .int (nI mst) :: .int (nI mlt) :: .int (nI mer) :: .ref m31 :: .ref m32 :: .ref m33 :: .ref m34 :: .ref m35 :: .int (nI mwm) :: .int (nI mwt) :: .int (nI mwf) :: .ref m39 :: .ref m40 :: .ref m41 :: .int (nI mla) :: .ref m43 :: .ref m44 :: .ref m45 :: .ref m46 :: .ref m47 :: .ref m48 :: .int (nI mtm) :: .ref m50 :: .ref m51 :: .ref m52 :: .ref m53 :: .ref m54 :: .ref m55 :: .ref m56 :: .ref m57 :: .ref m58 :: .ref m59 :: .ref m60 :: .ref m61 :: .int (nI msn) :: .int (nI mti) :: .ref m64 :: .ref m65 :: .ref m66 :: .ref m67 :: .ref m68 :: .ref m69 :: [])))), (m40, .inl (.inl (kA 1, 60, .inl mc40)))]) [(0, .ref m), (1, .int (nI j16950))] 0 0 11 [.int 1]
    refine j_if_eq h 23 dX12_lies_11 (by decide) (fun q => absurd q (by decide)) (fun _ => ?_)
    refine j_aload_n h 0 rfl rfl dX12_lies_14 ?_
    refine jm_get h iw_X12 0 rfl rfl 40 (by decide +kernel) tw_1196 rfl dX12_lies_15 ?_
    refine j_iload_n h 1 rfl rfl dX12_lies_18 ?_
    refine jm_iald h 1 rfl j16950 rfl (by omega) (by omega) dX12_lies_19 ?_
    refine j_goto h 24 dX12_lies_20 (by decide) ?_
    exact jm_iret h hq dX12_lies_24 () [0, 1] rfl (by decide) trivial (Nat.le_of_ble_eq_true rfl) (Nat.le_of_ble_eq_true rfl)
set_option maxHeartbeats 4000000 in
set_option maxRecDepth 100000 in
theorem s_X12_heard (lau : Launch) (gg : va_G) (kA : Nat → ClassId) (m : Nat) (er : Int32) (mo : Int32) (m0 : Nat) (mtp : Nat) (mfa : Nat) (mfp : Int32) (mat : Nat) (msz : Nat) (mso : Nat) (mpl : Int32) (mnu : Int32) (mwd : Int64) (m10 : Nat) (m11 : Nat) (m12 : Nat) (m13 : Nat) (m14 : Nat) (m15 : Nat) (m16 : Nat) (m17 : Nat) (m18 : Nat) (m19 : Nat) (m20 : Nat) (m21 : Nat) (m22 : Nat) (m23 : Nat) (m24 : Nat) (mns : Nat) (mnl : Nat) (mne : Nat) (mst : Nat) (mlt : Nat) (mer : Nat) (m31 : Nat) (m32 : Nat) (m33 : Nat) (m34 : Nat) (m35 : Nat) (mwm : Nat) (mwt : Nat) (mwf : Nat) (m39 : Nat) (m40 : Nat) (m41 : Nat) (mla : Nat) (m43 : Nat) (m44 : Nat) (m45 : Nat) (m46 : Nat) (m47 : Nat) (m48 : Nat) (mtm : Nat) (m50 : Nat) (m51 : Nat) (m52 : Nat) (m53 : Nat) (m54 : Nat) (m55 : Nat) (m56 : Nat) (m57 : Nat) (m58 : Nat) (m59 : Nat) (m60 : Nat) (m61 : Nat) (msn : Nat) (mti : Nat) (m64 : Nat) (m65 : Nat) (m66 : Nat) (m67 : Nat) (m68 : Nat) (m69 : Nat) (mc19 : Nat → Int32) (mc23 : Nat → Int32) (mc34 : Nat → Int32) (hmfa : mfa ≤ 5) (hmso : mso ≤ 100) (hmst : mst ≤ 6) (hmlt : mlt ≤ 10) (hmer : mer ≤ 4) (hmwa : WkOk 60 mc34) (hmwm : mwm ≤ mwt) (hmwt : mwt ≤ 60) (hmwf : mwf ≤ 1) (hmsn : msn ≤ 30) (hmla : mla ≤ 60) (hmtp : mtp ≤ 1600) (hmti : mti ≤ 100000) (hmtm : mtm ≤ 60) : CtI lau yX12_heard cX12_heard 3 (some .int) 3 0 0 gg kA [.ref m, .int er, .int mo] (mflat [(m, .inl (.inr (12, (.ref m0 :: .int (nI mtp) :: .int (nI mfa) :: .int mfp :: .int (nI mat) :: .int (nI msz) :: .int (nI mso) :: .int mpl :: .int mnu :: .long mwd :: .ref m10 :: .ref m11 :: .ref m12 :: .ref m13 :: .ref m14 :: .ref m15 :: .ref m16 :: .ref m17 :: .ref m18 :: .ref m19 :: .ref m20 :: .ref m21 :: .ref m22 :: .ref m23 :: .ref m24 :: .int (nI mns) :: .int (nI mnl) :: .int (nI mne) :: .int (nI mst) :: .int (nI mlt) :: .int (nI mer) :: .ref m31 :: .ref m32 :: .ref m33 :: .ref m34 :: .ref m35 :: .int (nI mwm) :: .int (nI mwt) :: .int (nI mwf) :: .ref m39 :: .ref m40 :: .ref m41 :: .int (nI mla) :: .ref m43 :: .ref m44 :: .ref m45 :: .ref m46 :: .ref m47 :: .ref m48 :: .int (nI mtm) :: .ref m50 :: .ref m51 :: .ref m52 :: .ref m53 :: .ref m54 :: .ref m55 :: .ref m56 :: .ref m57 :: .ref m58 :: .ref m59 :: .ref m60 :: .ref m61 :: .int (nI msn) :: .int (nI mti) :: .ref m64 :: .ref m65 :: .ref m66 :: .ref m67 :: .ref m68 :: .ref m69 :: [])))), (m19, .inl (.inl (kA 1, 6, .inl mc19))), (m23, .inl (.inl (kA 1, 4, .inl mc23))), (m34, .inl (.inl (kA 1, 60, .inl mc34)))]) (S := Unit) (fun (r : Int32) (_ : Unit) => True) (fun (_ : Unit) => mflat [(m, .inl (.inr (12, (.ref m0 :: .int (nI mtp) :: .int (nI mfa) :: .int mfp :: .int (nI mat) :: .int (nI msz) :: .int (nI mso) :: .int mpl :: .int mnu :: .long mwd :: .ref m10 :: .ref m11 :: .ref m12 :: .ref m13 :: .ref m14 :: .ref m15 :: .ref m16 :: .ref m17 :: .ref m18 :: .ref m19 :: .ref m20 :: .ref m21 :: .ref m22 :: .ref m23 :: .ref m24 :: .int (nI mns) :: .int (nI mnl) :: .int (nI mne) :: .int (nI mst) :: .int (nI mlt) :: .int (nI mer) :: .ref m31 :: .ref m32 :: .ref m33 :: .ref m34 :: .ref m35 :: .int (nI mwm) :: .int (nI mwt) :: .int (nI mwf) :: .ref m39 :: .ref m40 :: .ref m41 :: .int (nI mla) :: .ref m43 :: .ref m44 :: .ref m45 :: .ref m46 :: .ref m47 :: .ref m48 :: .int (nI mtm) :: .ref m50 :: .ref m51 :: .ref m52 :: .ref m53 :: .ref m54 :: .ref m55 :: .ref m56 :: .ref m57 :: .ref m58 :: .ref m59 :: .ref m60 :: .ref m61 :: .int (nI msn) :: .int (nI mti) :: .ref m64 :: .ref m65 :: .ref m66 :: .ref m67 :: .ref m68 :: .ref m69 :: [])))), (m19, .inl (.inl (kA 1, 6, .inl mc19))), (m23, .inl (.inl (kA 1, 4, .inl mc23))), (m34, .inl (.inl (kA 1, 60, .inl mc34)))]) := by
  refine nx_startI (by decide +kernel) (Nat.le_of_ble_eq_true rfl) ?_
  intro x hnm h hq
  have h : Ok x cX12_heard RX12 kA (rmC 3 0 0) 3 := h
  show J x (mflat [(m, .inl (.inr (12, (.ref m0 :: .int (nI mtp) :: .int (nI mfa) :: .int mfp :: .int (nI mat) :: .int (nI msz) :: .int (nI mso) :: .int mpl :: .int mnu :: .long mwd :: .ref m10 :: .ref m11 :: .ref m12 :: .ref m13 :: .ref m14 :: .ref m15 :: .ref m16 :: .ref m17 :: .ref m18 :: .ref m19 :: .ref m20 :: .ref m21 :: .ref m22 :: .ref m23 :: .ref m24 :: .int (nI mns) :: .int (nI mnl) :: .int (nI mne) :: .int (nI mst) :: .int (nI mlt) :: .int (nI mer) :: .ref m31 :: .ref m32 :: .ref m33 :: .ref m34 :: .ref m35 :: .int (nI mwm) :: .int (nI mwt) :: .int (nI mwf) :: .ref m39 :: .ref m40 :: .ref m41 :: .int (nI mla) :: .ref m43 :: .ref m44 :: .ref m45 :: .ref m46 :: .ref m47 :: .ref m48 :: .int (nI mtm) :: .ref m50 :: .ref m51 :: .ref m52 :: .ref m53 :: .ref m54 :: .ref m55 :: .ref m56 :: .ref m57 :: .ref m58 :: .ref m59 :: .ref m60 :: .ref m61 :: .int (nI msn) :: .int (nI mti) :: .ref m64 :: .ref m65 :: .ref m66 :: .ref m67 :: .ref m68 :: .ref m69 :: [])))), (m19, .inl (.inl (kA 1, 6, .inl mc19))), (m23, .inl (.inl (kA 1, 4, .inl mc23))), (m34, .inl (.inl (kA 1, 60, .inl mc34)))]) [(0, .ref m), (1, .int er), (2, .int mo)] 0 0 0 []
  refine j_aload_n h 0 rfl rfl dX12_heard_0 ?_
  refine j_iload_n h 1 rfl rfl dX12_heard_1 ?_
  refine jm_callVi (np := 1) (isC := [0]) (isR := [1, 2, 3]) (wc := [(m, .inl (.inr (12, (.ref m0 :: .int (nI mtp) :: .int (nI mfa) :: .int mfp :: .int (nI mat) :: .int (nI msz) :: .int (nI mso) :: .int mpl :: .int mnu :: .long mwd :: .ref m10 :: .ref m11 :: .ref m12 :: .ref m13 :: .ref m14 :: .ref m15 :: .ref m16 :: .ref m17 :: .ref m18 :: .ref m19 :: .ref m20 :: .ref m21 :: .ref m22 :: .ref m23 :: .ref m24 :: .int (nI mns) :: .int (nI mnl) :: .int (nI mne) :: .int (nI mst) :: .int (nI mlt) :: .int (nI mer) :: .ref m31 :: .ref m32 :: .ref m33 :: .ref m34 :: .ref m35 :: .int (nI mwm) :: .int (nI mwt) :: .int (nI mwf) :: .ref m39 :: .ref m40 :: .ref m41 :: .int (nI mla) :: .ref m43 :: .ref m44 :: .ref m45 :: .ref m46 :: .ref m47 :: .ref m48 :: .int (nI mtm) :: .ref m50 :: .ref m51 :: .ref m52 :: .ref m53 :: .ref m54 :: .ref m55 :: .ref m56 :: .ref m57 :: .ref m58 :: .ref m59 :: .ref m60 :: .ref m61 :: .int (nI msn) :: .int (nI mti) :: .ref m64 :: .ref m65 :: .ref m66 :: .ref m67 :: .ref m68 :: .ref m69 :: []))))]) (wr := [(m19, .inl (.inl (kA 1, 6, .inl mc19))), (m23, .inl (.inl (kA 1, 4, .inl mc23))), (m34, .inl (.inl (kA 1, 60, .inl mc34)))]) (rest := []) (As := [.int er]) (q0 := 0) h (s_X12_isEar _ _ kA m er m0 mtp mfa mfp mat msz mso mpl mnu mwd m10 m11 m12 m13 m14 m15 m16 m17 m18 m19 m20 m21 m22 m23 m24 mns mnl mne mst mlt mer m31 m32 m33 m34 m35 mwm mwt mwf m39 m40 m41 mla m43 m44 m45 m46 m47 m48 mtm m50 m51 m52 m53 m54 m55 m56 m57 m58 m59 m60 m61 msn mti m64 m65 m66 m67 m68 m69 (show mst ≤ 6 by first | assumption | omega) (show mlt ≤ 10 by first | assumption | omega) (show mer ≤ 4 by first | assumption | omega)) tw_1506 tw_1508 tw_60 tw_99 tw_1509 (by decide +kernel) rfl ⟨Nat.le_of_ble_eq_true rfl, Nat.le_of_ble_eq_true rfl⟩ rfl rfl (by decide +kernel) rfl rfl (by decide +kernel) (by decide +kernel) (Nat.le_of_ble_eq_true rfl) rfl ⟨Nat.le_of_ble_eq_true rfl, Nat.le_of_ble_eq_true rfl⟩ dX12_heard_2 ?_
  rintro r17045 _ e17044
  have p17046 := e17044
  subst p17046
  show J x (mflat [(m19, .inl (.inl (kA 1, 6, .inl mc19))), (m23, .inl (.inl (kA 1, 4, .inl mc23))), (m34, .inl (.inl (kA 1, 60, .inl mc34))), (m, .inl (.inr (12, (.ref m0 :: .int (nI mtp) :: .int (nI mfa) :: .int mfp :: .int (nI mat) :: .int (nI msz) :: .int (nI mso) :: .int mpl :: .int mnu :: .long mwd :: .ref m10 :: .ref m11 :: .ref m12 :: .ref m13 :: .ref m14 :: .ref m15 :: .ref m16 :: .ref m17 :: .ref m18 :: .ref m19 :: .ref m20 :: .ref m21 :: .ref m22 :: .ref m23 :: .ref m24 :: .int (nI mns) :: .int (nI mnl) :: .int (nI mne) :: .int (nI mst) :: .int (nI mlt) :: .int (nI mer) :: .ref m31 :: .ref m32 :: .ref m33 :: .ref m34 :: .ref m35 :: .int (nI mwm) :: .int (nI mwt) :: .int (nI mwf) :: .ref m39 :: .ref m40 :: .ref m41 :: .int (nI mla) :: .ref m43 :: .ref m44 :: .ref m45 :: .ref m46 :: .ref m47 :: .ref m48 :: .int (nI mtm) :: .ref m50 :: .ref m51 :: .ref m52 :: .ref m53 :: .ref m54 :: .ref m55 :: .ref m56 :: .ref m57 :: .ref m58 :: .ref m59 :: .ref m60 :: .ref m61 :: .int (nI msn) :: .int (nI mti) :: .ref m64 :: .ref m65 :: .ref m66 :: .ref m67 :: .ref m68 :: .ref m69 :: []))))]) [(0, .ref m), (1, .int er), (2, .int mo)] 0 0 5 [.int (bIx er (nI mer))]
  rcases bIx_cases er mer (by omega) with hTj17047 | ⟨j17047, hj17047, rfl, hBj17047⟩
  · refine j_top (b := 0) hTj17047 ?_
    show J x (mflat [(m19, .inl (.inl (kA 1, 6, .inl mc19))), (m23, .inl (.inl (kA 1, 4, .inl mc23))), (m34, .inl (.inl (kA 1, 60, .inl mc34))), (m, .inl (.inr (12, (.ref m0 :: .int (nI mtp) :: .int (nI mfa) :: .int mfp :: .int (nI mat) :: .int (nI msz) :: .int (nI mso) :: .int mpl :: .int mnu :: .long mwd :: .ref m10 :: .ref m11 :: .ref m12 :: .ref m13 :: .ref m14 :: .ref m15 :: .ref m16 :: .ref m17 :: .ref m18 :: .ref m19 :: .ref m20 :: .ref m21 :: .ref m22 :: .ref m23 :: .ref m24 :: .int (nI mns) :: .int (nI mnl) :: .int (nI mne) :: .int (nI mst) :: .int (nI mlt) :: .int (nI mer) :: .ref m31 :: .ref m32 :: .ref m33 :: .ref m34 :: .ref m35 :: .int (nI mwm) :: .int (nI mwt) :: .int (nI mwf) :: .ref m39 :: .ref m40 :: .ref m41 :: .int (nI mla) :: .ref m43 :: .ref m44 :: .ref m45 :: .ref m46 :: .ref m47 :: .ref m48 :: .int (nI mtm) :: .ref m50 :: .ref m51 :: .ref m52 :: .ref m53 :: .ref m54 :: .ref m55 :: .ref m56 :: .ref m57 :: .ref m58 :: .ref m59 :: .ref m60 :: .ref m61 :: .int (nI msn) :: .int (nI mti) :: .ref m64 :: .ref m65 :: .ref m66 :: .ref m67 :: .ref m68 :: .ref m69 :: []))))]) [(0, .ref m), (1, .int er), (2, .int mo)] 0 0 5 [.int 0]
    refine j_if_eq h 36 dX12_heard_5 (by decide) (fun _ => ?_) (fun q => absurd (by decide) q)
    refine j_iconst (v := (-1)) h (by decide) dX12_heard_36 ?_
    exact jm_iret h hq dX12_heard_37 () [3, 0, 1, 2] rfl (by decide) trivial (Nat.le_of_ble_eq_true rfl) (Nat.le_of_ble_eq_true rfl)
  · refine j_top (b := 1) hBj17047 ?_
    show J x (mflat [(m19, .inl (.inl (kA 1, 6, .inl mc19))), (m23, .inl (.inl (kA 1, 4, .inl mc23))), (m34, .inl (.inl (kA 1, 60, .inl mc34))), (m, .inl (.inr (12, (.ref m0 :: .int (nI mtp) :: .int (nI mfa) :: .int mfp :: .int (nI mat) :: .int (nI msz) :: .int (nI mso) :: .int mpl :: .int mnu :: .long mwd :: .ref m10 :: .ref m11 :: .ref m12 :: .ref m13 :: .ref m14 :: .ref m15 :: .ref m16 :: .ref m17 :: .ref m18 :: .ref m19 :: .ref m20 :: .ref m21 :: .ref m22 :: .ref m23 :: .ref m24 :: .int (nI mns) :: .int (nI mnl) :: .int (nI mne) :: .int (nI mst) :: .int (nI mlt) :: .int (nI mer) :: .ref m31 :: .ref m32 :: .ref m33 :: .ref m34 :: .ref m35 :: .int (nI mwm) :: .int (nI mwt) :: .int (nI mwf) :: .ref m39 :: .ref m40 :: .ref m41 :: .int (nI mla) :: .ref m43 :: .ref m44 :: .ref m45 :: .ref m46 :: .ref m47 :: .ref m48 :: .int (nI mtm) :: .ref m50 :: .ref m51 :: .ref m52 :: .ref m53 :: .ref m54 :: .ref m55 :: .ref m56 :: .ref m57 :: .ref m58 :: .ref m59 :: .ref m60 :: .ref m61 :: .int (nI msn) :: .int (nI mti) :: .ref m64 :: .ref m65 :: .ref m66 :: .ref m67 :: .ref m68 :: .ref m69 :: []))))]) [(0, .ref m), (1, .int (nI j17047)), (2, .int mo)] 0 0 5 [.int 1]
    refine j_if_eq h 36 dX12_heard_5 (by decide) (fun q => absurd q (by decide)) (fun _ => ?_)
    refine j_iload_n h 2 rfl rfl dX12_heard_8 ?_
    refine j_iconst (v := 0) h (by decide) dX12_heard_9 ?_
    refine j_aload_n h 0 rfl rfl dX12_heard_10 ?_
    refine jm_get h iw_X12 3 rfl rfl 37 (by decide +kernel) tw_1193 rfl dX12_heard_11 ?_
    refine j_iconst (v := 1) h (by decide) dX12_heard_14 ?_
    refine j_isub h dX12_heard_15 ?_
    obtain ⟨y17048, hy17049⟩ : ∃ y9, y9 = mwt := ⟨_, rfl⟩
    refine j_top (b := pm y17048) (by rw [hy17049]; exact pm_sub mwt) ?_
    refine jm_callSi (np := 3) (isC := []) (isR := [0, 1, 2, 3]) (wc := []) (wr := [(m19, .inl (.inl (kA 1, 6, .inl mc19))), (m23, .inl (.inl (kA 1, 4, .inl mc23))), (m34, .inl (.inl (kA 1, 60, .inl mc34))), (m, .inl (.inr (12, (.ref m0 :: .int (nI mtp) :: .int (nI mfa) :: .int mfp :: .int (nI mat) :: .int (nI msz) :: .int (nI mso) :: .int mpl :: .int mnu :: .long mwd :: .ref m10 :: .ref m11 :: .ref m12 :: .ref m13 :: .ref m14 :: .ref m15 :: .ref m16 :: .ref m17 :: .ref m18 :: .ref m19 :: .ref m20 :: .ref m21 :: .ref m22 :: .ref m23 :: .ref m24 :: .int (nI mns) :: .int (nI mnl) :: .int (nI mne) :: .int (nI mst) :: .int (nI mlt) :: .int (nI mer) :: .ref m31 :: .ref m32 :: .ref m33 :: .ref m34 :: .ref m35 :: .int (nI mwm) :: .int (nI mwt) :: .int (nI mwf) :: .ref m39 :: .ref m40 :: .ref m41 :: .int (nI mla) :: .ref m43 :: .ref m44 :: .ref m45 :: .ref m46 :: .ref m47 :: .ref m48 :: .int (nI mtm) :: .ref m50 :: .ref m51 :: .ref m52 :: .ref m53 :: .ref m54 :: .ref m55 :: .ref m56 :: .ref m57 :: .ref m58 :: .ref m59 :: .ref m60 :: .ref m61 :: .int (nI msn) :: .int (nI mti) :: .ref m64 :: .ref m65 :: .ref m66 :: .ref m67 :: .ref m68 :: .ref m69 :: []))))]) (rest := []) (As := [.int mo, .int 0, .int (pm y17048)]) h (s_X12_isIn _ _ kA mo 0 (pm y17048) ) tw_1487 tw_1488 tw_99 tw_1489 (by decide +kernel) rfl ⟨Nat.le_of_ble_eq_true rfl, Nat.le_of_ble_eq_true rfl⟩ (by decide +kernel) rfl rfl (by decide +kernel) (by decide +kernel) (Nat.le_of_ble_eq_true rfl) rfl ⟨Nat.le_of_ble_eq_true rfl, Nat.le_of_ble_eq_true rfl⟩ dX12_heard_16 ?_
    rintro r17051 _ e17050
    have p17052 := e17050
    subst p17052
    show J x (mflat [(m19, .inl (.inl (kA 1, 6, .inl mc19))), (m23, .inl (.inl (kA 1, 4, .inl mc23))), (m34, .inl (.inl (kA 1, 60, .inl mc34))), (m, .inl (.inr (12, (.ref m0 :: .int (nI mtp) :: .int (nI mfa) :: .int mfp :: .int (nI mat) :: .int (nI msz) :: .int (nI mso) :: .int mpl :: .int mnu :: .long mwd :: .ref m10 :: .ref m11 :: .ref m12 :: .ref m13 :: .ref m14 :: .ref m15 :: .ref m16 :: .ref m17 :: .ref m18 :: .ref m19 :: .ref m20 :: .ref m21 :: .ref m22 :: .ref m23 :: .ref m24 :: .int (nI mns) :: .int (nI mnl) :: .int (nI mne) :: .int (nI mst) :: .int (nI mlt) :: .int (nI mer) :: .ref m31 :: .ref m32 :: .ref m33 :: .ref m34 :: .ref m35 :: .int (nI mwm) :: .int (nI mwt) :: .int (nI mwf) :: .ref m39 :: .ref m40 :: .ref m41 :: .int (nI mla) :: .ref m43 :: .ref m44 :: .ref m45 :: .ref m46 :: .ref m47 :: .ref m48 :: .int (nI mtm) :: .ref m50 :: .ref m51 :: .ref m52 :: .ref m53 :: .ref m54 :: .ref m55 :: .ref m56 :: .ref m57 :: .ref m58 :: .ref m59 :: .ref m60 :: .ref m61 :: .int (nI msn) :: .int (nI mti) :: .ref m64 :: .ref m65 :: .ref m66 :: .ref m67 :: .ref m68 :: .ref m69 :: []))))]) [(0, .ref m), (1, .int (nI j17047)), (2, .int mo)] 0 0 19 [.int (inV mo 0 (pm y17048))]
    refine j_top (b := bIx mo (nI y17048)) (inV_bIx (n := y17048) (by omega)) ?_
    rcases bIx_cases mo y17048 (by omega) with hTj17053 | ⟨j17053, hj17053, rfl, hBj17053⟩
    · refine j_top (b := 0) hTj17053 ?_
      show J x (mflat [(m19, .inl (.inl (kA 1, 6, .inl mc19))), (m23, .inl (.inl (kA 1, 4, .inl mc23))), (m34, .inl (.inl (kA 1, 60, .inl mc34))), (m, .inl (.inr (12, (.ref m0 :: .int (nI mtp) :: .int (nI mfa) :: .int mfp :: .int (nI mat) :: .int (nI msz) :: .int (nI mso) :: .int mpl :: .int mnu :: .long mwd :: .ref m10 :: .ref m11 :: .ref m12 :: .ref m13 :: .ref m14 :: .ref m15 :: .ref m16 :: .ref m17 :: .ref m18 :: .ref m19 :: .ref m20 :: .ref m21 :: .ref m22 :: .ref m23 :: .ref m24 :: .int (nI mns) :: .int (nI mnl) :: .int (nI mne) :: .int (nI mst) :: .int (nI mlt) :: .int (nI mer) :: .ref m31 :: .ref m32 :: .ref m33 :: .ref m34 :: .ref m35 :: .int (nI mwm) :: .int (nI mwt) :: .int (nI mwf) :: .ref m39 :: .ref m40 :: .ref m41 :: .int (nI mla) :: .ref m43 :: .ref m44 :: .ref m45 :: .ref m46 :: .ref m47 :: .ref m48 :: .int (nI mtm) :: .ref m50 :: .ref m51 :: .ref m52 :: .ref m53 :: .ref m54 :: .ref m55 :: .ref m56 :: .ref m57 :: .ref m58 :: .ref m59 :: .ref m60 :: .ref m61 :: .int (nI msn) :: .int (nI mti) :: .ref m64 :: .ref m65 :: .ref m66 :: .ref m67 :: .ref m68 :: .ref m69 :: []))))]) [(0, .ref m), (1, .int (nI j17047)), (2, .int mo)] 0 0 19 [.int 0]
      refine j_if_eq h 36 dX12_heard_19 (by decide) (fun _ => ?_) (fun q => absurd (by decide) q)
      refine j_iconst (v := (-1)) h (by decide) dX12_heard_36 ?_
      exact jm_iret h hq dX12_heard_37 () [3, 0, 1, 2] rfl (by decide) trivial (Nat.le_of_ble_eq_true rfl) (Nat.le_of_ble_eq_true rfl)
    · refine j_top (b := 1) hBj17053 ?_
      show J x (mflat [(m19, .inl (.inl (kA 1, 6, .inl mc19))), (m23, .inl (.inl (kA 1, 4, .inl mc23))), (m34, .inl (.inl (kA 1, 60, .inl mc34))), (m, .inl (.inr (12, (.ref m0 :: .int (nI mtp) :: .int (nI mfa) :: .int mfp :: .int (nI mat) :: .int (nI msz) :: .int (nI mso) :: .int mpl :: .int mnu :: .long mwd :: .ref m10 :: .ref m11 :: .ref m12 :: .ref m13 :: .ref m14 :: .ref m15 :: .ref m16 :: .ref m17 :: .ref m18 :: .ref m19 :: .ref m20 :: .ref m21 :: .ref m22 :: .ref m23 :: .ref m24 :: .int (nI mns) :: .int (nI mnl) :: .int (nI mne) :: .int (nI mst) :: .int (nI mlt) :: .int (nI mer) :: .ref m31 :: .ref m32 :: .ref m33 :: .ref m34 :: .ref m35 :: .int (nI mwm) :: .int (nI mwt) :: .int (nI mwf) :: .ref m39 :: .ref m40 :: .ref m41 :: .int (nI mla) :: .ref m43 :: .ref m44 :: .ref m45 :: .ref m46 :: .ref m47 :: .ref m48 :: .int (nI mtm) :: .ref m50 :: .ref m51 :: .ref m52 :: .ref m53 :: .ref m54 :: .ref m55 :: .ref m56 :: .ref m57 :: .ref m58 :: .ref m59 :: .ref m60 :: .ref m61 :: .int (nI msn) :: .int (nI mti) :: .ref m64 :: .ref m65 :: .ref m66 :: .ref m67 :: .ref m68 :: .ref m69 :: []))))]) [(0, .ref m), (1, .int (nI j17047)), (2, .int (nI j17053))] 0 0 19 [.int 1]
      refine j_if_eq h 36 dX12_heard_19 (by decide) (fun q => absurd q (by decide)) (fun _ => ?_)
      refine j_aload_n h 0 rfl rfl dX12_heard_22 ?_
      refine j_iload_n h 1 rfl rfl dX12_heard_23 ?_
      refine j_aload_n h 0 rfl rfl dX12_heard_24 ?_
      refine jm_get h iw_X12 3 rfl rfl 34 (by decide +kernel) tw_1190 rfl dX12_heard_25 ?_
      refine j_iload_n h 2 rfl rfl dX12_heard_28 ?_
      refine jm_iald h 2 rfl j17053 rfl (by omega) (by omega) dX12_heard_29 ?_
      obtain ⟨t17054, u17055, u17056⟩ := (show WkOk 60 mc34 by assumption) j17053 (by omega)
      refine j_top (b := pm t17054) (u17056) ?_
      refine jm_callVi (np := 2) (isC := [3, 0, 1]) (isR := [2]) (wc := [(m, .inl (.inr (12, (.ref m0 :: .int (nI mtp) :: .int (nI mfa) :: .int mfp :: .int (nI mat) :: .int (nI msz) :: .int (nI mso) :: .int mpl :: .int mnu :: .long mwd :: .ref m10 :: .ref m11 :: .ref m12 :: .ref m13 :: .ref m14 :: .ref m15 :: .ref m16 :: .ref m17 :: .ref m18 :: .ref m19 :: .ref m20 :: .ref m21 :: .ref m22 :: .ref m23 :: .ref m24 :: .int (nI mns) :: .int (nI mnl) :: .int (nI mne) :: .int (nI mst) :: .int (nI mlt) :: .int (nI mer) :: .ref m31 :: .ref m32 :: .ref m33 :: .ref m34 :: .ref m35 :: .int (nI mwm) :: .int (nI mwt) :: .int (nI mwf) :: .ref m39 :: .ref m40 :: .ref m41 :: .int (nI mla) :: .ref m43 :: .ref m44 :: .ref m45 :: .ref m46 :: .ref m47 :: .ref m48 :: .int (nI mtm) :: .ref m50 :: .ref m51 :: .ref m52 :: .ref m53 :: .ref m54 :: .ref m55 :: .ref m56 :: .ref m57 :: .ref m58 :: .ref m59 :: .ref m60 :: .ref m61 :: .int (nI msn) :: .int (nI mti) :: .ref m64 :: .ref m65 :: .ref m66 :: .ref m67 :: .ref m68 :: .ref m69 :: [])))), (m19, .inl (.inl (kA 1, 6, .inl mc19))), (m23, .inl (.inl (kA 1, 4, .inl mc23)))]) (wr := [(m34, .inl (.inl (kA 1, 60, .inl mc34)))]) (rest := []) (As := [.int (nI j17047), .int (pm t17054)]) (q0 := 0) h (s_X12_hears _ _ kA m j17047 t17054 m0 mtp mfa mfp mat msz mso mpl mnu mwd m10 m11 m12 m13 m14 m15 m16 m17 m18 m19 m20 m21 m22 m23 m24 mns mnl mne mst mlt mer m31 m32 m33 m34 m35 mwm mwt mwf m39 m40 m41 mla m43 m44 m45 m46 m47 m48 mtm m50 m51 m52 m53 m54 m55 m56 m57 m58 m59 m60 m61 msn mti m64 m65 m66 m67 m68 m69 mc19 mc23 (show j17047 < 4 by first | assumption | omega) (show t17054 ≤ 6 by first | assumption | omega)) tw_1510 tw_1512 tw_61 tw_99 tw_1513 (by decide +kernel) rfl ⟨Nat.le_of_ble_eq_true rfl, Nat.le_of_ble_eq_true rfl⟩ rfl rfl (by decide +kernel) rfl rfl (by decide +kernel) (by decide +kernel) (Nat.le_of_ble_eq_true rfl) rfl ⟨Nat.le_of_ble_eq_true rfl, Nat.le_of_ble_eq_true rfl⟩ dX12_heard_30 ?_
      rintro r17058 _ e17057
      show J x (mflat [(m34, .inl (.inl (kA 1, 60, .inl mc34))), (m, .inl (.inr (12, (.ref m0 :: .int (nI mtp) :: .int (nI mfa) :: .int mfp :: .int (nI mat) :: .int (nI msz) :: .int (nI mso) :: .int mpl :: .int mnu :: .long mwd :: .ref m10 :: .ref m11 :: .ref m12 :: .ref m13 :: .ref m14 :: .ref m15 :: .ref m16 :: .ref m17 :: .ref m18 :: .ref m19 :: .ref m20 :: .ref m21 :: .ref m22 :: .ref m23 :: .ref m24 :: .int (nI mns) :: .int (nI mnl) :: .int (nI mne) :: .int (nI mst) :: .int (nI mlt) :: .int (nI mer) :: .ref m31 :: .ref m32 :: .ref m33 :: .ref m34 :: .ref m35 :: .int (nI mwm) :: .int (nI mwt) :: .int (nI mwf) :: .ref m39 :: .ref m40 :: .ref m41 :: .int (nI mla) :: .ref m43 :: .ref m44 :: .ref m45 :: .ref m46 :: .ref m47 :: .ref m48 :: .int (nI mtm) :: .ref m50 :: .ref m51 :: .ref m52 :: .ref m53 :: .ref m54 :: .ref m55 :: .ref m56 :: .ref m57 :: .ref m58 :: .ref m59 :: .ref m60 :: .ref m61 :: .int (nI msn) :: .int (nI mti) :: .ref m64 :: .ref m65 :: .ref m66 :: .ref m67 :: .ref m68 :: .ref m69 :: [])))), (m19, .inl (.inl (kA 1, 6, .inl mc19))), (m23, .inl (.inl (kA 1, 4, .inl mc23)))]) [(0, .ref m), (1, .int (nI j17047)), (2, .int (nI j17053))] 0 0 33 [.int r17058]
      refine j_goto h 37 dX12_heard_33 (by decide) ?_
      exact jm_iret h hq dX12_heard_37 () [1, 2, 3, 0] rfl (by decide) trivial (Nat.le_of_ble_eq_true rfl) (Nat.le_of_ble_eq_true rfl)
set_option maxHeartbeats 4000000 in
set_option maxRecDepth 100000 in
theorem s_X12_isBox (lau : Launch) (gg : va_G) (kA : Nat → ClassId) (e : Int32)  : CtI lau yX12_isBox cX12_isBox 1 (some .boolean) 1 0 0 gg kA [.int e] (mflat []) (S := Unit) (fun (r : Int32) (_ : Unit) => r = bIx e 3) (fun (_ : Unit) => mflat []) := by
  refine nx_startI (by decide +kernel) (Nat.le_of_ble_eq_true rfl) ?_
  intro x hnm h hq
  have h : Ok x cX12_isBox RX12 kA (rmC 1 0 0) 1 := h
  show J x (mflat []) [(0, .int e)] 0 0 0 []
  refine j_iload_n h 0 rfl rfl dX12_isBox_0 ?_
  refine j_if_lt h 13 dX12_isBox_1 (by decide) (fun z17062 => ?_) (fun z17062 => ?_)
  · show J x (mflat []) [(0, .int e)] 0 0 13 []
    refine j_iconst (v := 0) h (by decide) dX12_isBox_13 ?_
    exact jm_zret h hq rfl dX12_isBox_14 () [] rfl (by decide) (by first | rfl | (unfold bIx; simp only [z17062, ↓reduceIte]; done) | (subst_vars; decide)) (Nat.le_of_ble_eq_true rfl) (Nat.le_of_ble_eq_true rfl)
  · obtain ⟨j17063, hj17063, rfl⟩ := nI_of z17062
    show J x (mflat []) [(0, .int (nI j17063))] 0 0 4 []
    refine j_iload_n h 0 rfl rfl dX12_isBox_4 ?_
    refine j_iconst (v := 3) h (by decide) dX12_isBox_5 ?_
    refine j_icmp_ge h 13 dX12_isBox_6 (by decide) (fun z17064 => ?_) (fun z17064 => ?_)
    · have z17064n : 3 ≤ j17063 := (nI_leI (a := 3) (b := j17063) (by omega) (by omega)).mp z17064
      refine j_iconst (v := 0) h (by decide) dX12_isBox_13 ?_
      exact jm_zret h hq rfl dX12_isBox_14 () [] rfl (by decide) (by first | rfl | (unfold bIx; simp only [z17062, z17064, ↓reduceIte]; done) | (subst_vars; decide)) (Nat.le_of_ble_eq_true rfl) (Nat.le_of_ble_eq_true rfl)
    · have z17064n : ¬ 3 ≤ j17063 := fun q9 => z17064 ((nI_leI (a := 3) (b := j17063) (by omega) (by omega)).mpr q9)
      refine j_iconst (v := 1) h (by decide) dX12_isBox_9 ?_
      refine j_goto h 14 dX12_isBox_10 (by decide) ?_
      exact jm_zret h hq rfl dX12_isBox_14 () [] rfl (by decide) (by first | rfl | (unfold bIx; simp only [z17062, z17064, ↓reduceIte]; done) | (subst_vars; decide)) (Nat.le_of_ble_eq_true rfl) (Nat.le_of_ble_eq_true rfl)
