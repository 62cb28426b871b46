def isLet (c : Int32) : Int32 := if c < 97 then 0 else if 122 < c then 0 else 1
def isDig (c : Int32) : Int32 := if c < 48 then 0 else if 57 < c then 0 else 1
/-- rows of letters, five places each -/
def RfOk (l n : Nat) (sz rw : Nat → Int32) : Prop := ∀ i j c, i < l → sz i = nI c → c ≤ 5 → j < c → ∃ k, k < n ∧ rw (5 * i + j) = nI k
theorem RfOk_0 (n : Nat) (sz rw : Nat → Int32) : RfOk 0 n sz rw := fun i _ _ h => absurd h (Nat.not_lt_zero i)
theorem dX12_isLetter_0 : decode cX12_isLetter 0 = .ok (.iload_n 0, 1) := by decide +kernel
theorem dX12_isLetter_1 : decode cX12_isLetter 1 = .ok (.bipush 97, 2) := by decide +kernel
theorem dX12_isLetter_3 : decode cX12_isLetter 3 = .ok (.if_icmp .lt 13, 3) := by decide +kernel
theorem dX12_isLetter_16 : decode cX12_isLetter 16 = .ok (.iconst 0, 1) := by decide +kernel
theorem dX12_isLetter_17 : decode cX12_isLetter 17 = .ok (.ireturn, 1) := by decide +kernel
theorem dX12_isLetter_6 : decode cX12_isLetter 6 = .ok (.iload_n 0, 1) := by decide +kernel
theorem dX12_isLetter_7 : decode cX12_isLetter 7 = .ok (.bipush 122, 2) := by decide +kernel
theorem dX12_isLetter_9 : decode cX12_isLetter 9 = .ok (.if_icmp .gt 7, 3) := by decide +kernel
theorem dX12_isLetter_12 : decode cX12_isLetter 12 = .ok (.iconst 1, 1) := by decide +kernel
theorem dX12_isLetter_13 : decode cX12_isLetter 13 = .ok (.goto 4, 3) := by decide +kernel
theorem dX12_isDigit_0 : decode cX12_isDigit 0 = .ok (.iload_n 0, 1) := by decide +kernel
theorem dX12_isDigit_1 : decode cX12_isDigit 1 = .ok (.bipush 48, 2) := by decide +kernel
theorem dX12_isDigit_3 : decode cX12_isDigit 3 = .ok (.if_icmp .lt 13, 3) := by decide +kernel
theorem dX12_isDigit_16 : decode cX12_isDigit 16 = .ok (.iconst 0, 1) := by decide +kernel
theorem dX12_isDigit_17 : decode cX12_isDigit 17 = .ok (.ireturn, 1) := by decide +kernel
theorem dX12_isDigit_6 : decode cX12_isDigit 6 = .ok (.iload_n 0, 1) := by decide +kernel
theorem dX12_isDigit_7 : decode cX12_isDigit 7 = .ok (.bipush 57, 2) := by decide +kernel
theorem dX12_isDigit_9 : decode cX12_isDigit 9 = .ok (.if_icmp .gt 7, 3) := by decide +kernel
theorem dX12_isDigit_12 : decode cX12_isDigit 12 = .ok (.iconst 1, 1) := by decide +kernel
theorem dX12_isDigit_13 : decode cX12_isDigit 13 = .ok (.goto 4, 3) := by decide +kernel
theorem dX12_here_0 : decode cX12_here 0 = .ok (.aload_n 0, 1) := by decide +kernel
theorem dX12_here_1 : decode cX12_here 1 = .ok (.getfield 170, 3) := by decide +kernel
theorem iw_X12 : ∀ w ∈ u_ws RX12 TX12 70, w ∈ TT := nx_mems _ [1226, 1228, 1230, 1232, 1234, 1236, 1238, 1240, 1242, 1244, 1246, 1248, 1250, 1252, 1254, 1256, 1258, 1260, 1262, 1264, 1266, 1268, 1270, 1272, 1274, 1276, 1278, 1280, 1282, 1284, 1286, 1288, 1290, 1292, 1294, 1296, 1298, 1300, 1302, 1304, 1306, 1308, 1310, 1312, 1314, 1316, 1318, 1320, 1322, 1324, 1326, 1328, 1330, 1332, 1334, 1336, 1338, 1340, 1342, 1344, 1346, 1348, 1350, 1352, 1354, 1356, 1358, 1360, 1362, 1364] (by decide +kernel) (by decide +kernel)
theorem tw_1160 : Cond.fieldLink RX12 170 "LimpCodeModel" "at" "I" ∈ TT := nx_mem 1160 (by decide +kernel) (by decide +kernel)
theorem dX12_here_4 : decode cX12_here 4 = .ok (.iload_n 1, 1) := by decide +kernel
theorem dX12_here_5 : decode cX12_here 5 = .ok (.iadd, 1) := by decide +kernel
theorem dX12_here_6 : decode cX12_here 6 = .ok (.aload_n 0, 1) := by decide +kernel
theorem dX12_here_7 : decode cX12_here 7 = .ok (.getfield 173, 3) := by decide +kernel
theorem tw_1161 : Cond.fieldLink RX12 173 "LimpCodeModel" "size" "I" ∈ TT := nx_mem 1161 (by decide +kernel) (by decide +kernel)
theorem dX12_here_10 : decode cX12_here 10 = .ok (.if_icmp .ge 17, 3) := by decide +kernel
theorem dX12_here_27 : decode cX12_here 27 = .ok (.iconst (-1), 1) := by decide +kernel
theorem dX12_here_28 : decode cX12_here 28 = .ok (.ireturn, 1) := by decide +kernel
theorem dX12_here_13 : decode cX12_here 13 = .ok (.aload_n 0, 1) := by decide +kernel
theorem dX12_here_14 : decode cX12_here 14 = .ok (.getfield 7, 3) := by decide +kernel
theorem tw_1156 : Cond.fieldLink RX12 7 "LimpCodeModel" "tape" "[I" ∈ TT := nx_mem 1156 (by decide +kernel) (by decide +kernel)
theorem dX12_here_17 : decode cX12_here 17 = .ok (.aload_n 0, 1) := by decide +kernel
theorem dX12_here_18 : decode cX12_here 18 = .ok (.getfield 170, 3) := by decide +kernel
theorem dX12_here_21 : decode cX12_here 21 = .ok (.iload_n 1, 1) := by decide +kernel
theorem dX12_here_22 : decode cX12_here 22 = .ok (.iadd, 1) := by decide +kernel
theorem dX12_here_23 : decode cX12_here 23 = .ok (.iaload, 1) := by decide +kernel
theorem dX12_here_24 : decode cX12_here 24 = .ok (.goto 4, 3) := by decide +kernel
theorem dX12_token_0 : decode cX12_token 0 = .ok (.aload_n 0, 1) := by decide +kernel
theorem dX12_token_1 : decode cX12_token 1 = .ok (.iconst 0, 1) := by decide +kernel
theorem dX12_token_2 : decode cX12_token 2 = .ok (.invokevirtual 176, 3) := by decide +kernel
theorem tw_1391 : Cond.methodLink RX12 176 yX12_here ∈ TT := nx_mem 1391 (by decide +kernel) (by decide +kernel)
theorem tw_1393 : Cond.instanceMethod yX12_here ∈ TT := nx_mem 1393 (by decide +kernel) (by decide +kernel)
theorem tw_42 : Cond.selects RX12 yX12_here yX12_here ∈ TT := nx_mem 42 (by decide +kernel) (by decide +kernel)
theorem tw_99 : Cond.initialized RX12 ∈ TT := nx_mem 99 (by decide +kernel) (by decide +kernel)
theorem tw_1394 : Cond.code yX12_here cX12_here 2 (some .int) ∈ TT := nx_mem 1394 (by decide +kernel) (by decide +kernel)
theorem dX12_token_5 : decode cX12_token 5 = .ok (.bipush 32, 2) := by decide +kernel
theorem dX12_token_7 : decode cX12_token 7 = .ok (.if_icmp .eq 13, 3) := by decide +kernel
theorem dX12_token_20 : decode cX12_token 20 = .ok (.aload_n 0, 1) := by decide +kernel
theorem dX12_token_21 : decode cX12_token 21 = .ok (.dup, 1) := by decide +kernel
theorem dX12_token_22 : decode cX12_token 22 = .ok (.getfield 170, 3) := by decide +kernel
theorem dX12_token_25 : decode cX12_token 25 = .ok (.iconst 1, 1) := by decide +kernel
theorem dX12_token_26 : decode cX12_token 26 = .ok (.iadd, 1) := by decide +kernel
theorem dX12_token_27 : decode cX12_token 27 = .ok (.putfield 170, 3) := by decide +kernel
theorem dX12_token_30 : decode cX12_token 30 = .ok (.goto (-30), 3) := by decide +kernel
theorem dX12_token_10 : decode cX12_token 10 = .ok (.aload_n 0, 1) := by decide +kernel
theorem dX12_token_11 : decode cX12_token 11 = .ok (.iconst 0, 1) := by decide +kernel
theorem dX12_token_12 : decode cX12_token 12 = .ok (.invokevirtual 176, 3) := by decide +kernel
theorem dX12_token_15 : decode cX12_token 15 = .ok (.bipush 10, 2) := by decide +kernel
theorem dX12_token_17 : decode cX12_token 17 = .ok (.if_icmp .ne 16, 3) := by decide +kernel
theorem dX12_token_33 : decode cX12_token 33 = .ok (.aload_n 0, 1) := by decide +kernel
theorem dX12_token_34 : decode cX12_token 34 = .ok (.aload_n 0, 1) := by decide +kernel
theorem dX12_token_35 : decode cX12_token 35 = .ok (.getfield 170, 3) := by decide +kernel
theorem dX12_token_38 : decode cX12_token 38 = .ok (.putfield 180, 3) := by decide +kernel
theorem tw_1163 : Cond.fieldLink RX12 180 "LimpCodeModel" "place" "I" ∈ TT := nx_mem 1163 (by decide +kernel) (by decide +kernel)
theorem dX12_token_41 : decode cX12_token 41 = .ok (.aload_n 0, 1) := by decide +kernel
theorem dX12_token_42 : decode cX12_token 42 = .ok (.iconst 0, 1) := by decide +kernel
theorem dX12_token_43 : decode cX12_token 43 = .ok (.invokevirtual 176, 3) := by decide +kernel
theorem dX12_token_46 : decode cX12_token 46 = .ok (.istore_n 1, 1) := by decide +kernel
theorem dX12_token_47 : decode cX12_token 47 = .ok (.iconst 0, 1) := by decide +kernel
theorem dX12_token_48 : decode cX12_token 48 = .ok (.istore_n 2, 1) := by decide +kernel
theorem dX12_token_49 : decode cX12_token 49 = .ok (.aload_n 0, 1) := by decide +kernel
theorem dX12_token_50 : decode cX12_token 50 = .ok (.lconst 0, 1) := by decide +kernel
theorem dX12_token_51 : decode cX12_token 51 = .ok (.putfield 183, 3) := by decide +kernel
theorem tw_1165 : Cond.fieldLink RX12 183 "LimpCodeModel" "word" "J" ∈ TT := nx_mem 1165 (by decide +kernel) (by decide +kernel)
theorem dX12_token_54 : decode cX12_token 54 = .ok (.aload_n 0, 1) := by decide +kernel
theorem dX12_token_55 : decode cX12_token 55 = .ok (.iconst 0, 1) := by decide +kernel
theorem dX12_token_56 : decode cX12_token 56 = .ok (.putfield 187, 3) := by decide +kernel
theorem tw_1164 : Cond.fieldLink RX12 187 "LimpCodeModel" "number" "I" ∈ TT := nx_mem 1164 (by decide +kernel) (by decide +kernel)
theorem dX12_token_59 : decode cX12_token 59 = .ok (.iload_n 1, 1) := by decide +kernel
theorem dX12_token_60 : decode cX12_token 60 = .ok (.ifCond .ge 11, 3) := by decide +kernel
theorem dX12_token_71 : decode cX12_token 71 = .ok (.iload_n 1, 1) := by decide +kernel
theorem dX12_token_72 : decode cX12_token 72 = .ok (.invokestatic 193, 3) := by decide +kernel
theorem tw_1395 : Cond.methodLink RX12 193 yX12_isLetter ∈ TT := nx_mem 1395 (by decide +kernel) (by decide +kernel)
theorem tw_1396 : Cond.static yX12_isLetter ∈ TT := nx_mem 1396 (by decide +kernel) (by decide +kernel)
theorem tw_1397 : Cond.code yX12_isLetter cX12_isLetter 1 (some .boolean) ∈ TT := nx_mem 1397 (by decide +kernel) (by decide +kernel)
theorem dX12_token_75 : decode cX12_token 75 = .ok (.ifCond .eq 62, 3) := by decide +kernel
theorem dX12_token_137 : decode cX12_token 137 = .ok (.iload_n 1, 1) := by decide +kernel
theorem dX12_token_138 : decode cX12_token 138 = .ok (.invokestatic 197, 3) := by decide +kernel
theorem tw_1398 : Cond.methodLink RX12 197 yX12_isDigit ∈ TT := nx_mem 1398 (by decide +kernel) (by decide +kernel)
theorem tw_1399 : Cond.static yX12_isDigit ∈ TT := nx_mem 1399 (by decide +kernel) (by decide +kernel)
theorem tw_1400 : Cond.code yX12_isDigit cX12_isDigit 1 (some .boolean) ∈ TT := nx_mem 1400 (by decide +kernel) (by decide +kernel)
theorem dX12_token_141 : decode cX12_token 141 = .ok (.ifCond .eq 73, 3) := by decide +kernel
theorem dX12_token_214 : decode cX12_token 214 = .ok (.iconst 1, 1) := by decide +kernel
theorem dX12_token_215 : decode cX12_token 215 = .ok (.istore_n 2, 1) := by decide +kernel
theorem dX12_token_216 : decode cX12_token 216 = .ok (.aload_n 0, 1) := by decide +kernel
theorem dX12_token_217 : decode cX12_token 217 = .ok (.iload_n 1, 1) := by decide +kernel
theorem dX12_token_218 : decode cX12_token 218 = .ok (.bipush 59, 2) := by decide +kernel
theorem dX12_token_220 : decode cX12_token 220 = .ok (.if_icmp .ne 7, 3) := by decide +kernel
theorem dX12_token_227 : decode cX12_token 227 = .ok (.iconst 3, 1) := by decide +kernel
theorem dX12_token_228 : decode cX12_token 228 = .ok (.putfield 190, 3) := by decide +kernel
theorem tw_1162 : Cond.fieldLink RX12 190 "LimpCodeModel" "sort" "I" ∈ TT := nx_mem 1162 (by decide +kernel) (by decide +kernel)
theorem dX12_token_231 : decode cX12_token 231 = .ok (.aload_n 0, 1) := by decide +kernel
theorem dX12_token_232 : decode cX12_token 232 = .ok (.getfield 190, 3) := by decide +kernel
theorem dX12_token_235 : decode cX12_token 235 = .ok (.iconst 3, 1) := by decide +kernel
theorem dX12_token_236 : decode cX12_token 236 = .ok (.if_icmp .eq 13, 3) := by decide +kernel
theorem dX12_token_249 : decode cX12_token 249 = .ok (.return_, 1) := by decide +kernel
theorem dX12_token_223 : decode cX12_token 223 = .ok (.iload_n 1, 1) := by decide +kernel
theorem dX12_token_224 : decode cX12_token 224 = .ok (.goto 4, 3) := by decide +kernel
theorem dX12_token_239 : decode cX12_token 239 = .ok (.aload_n 0, 1) := by decide +kernel
theorem dX12_token_240 : decode cX12_token 240 = .ok (.dup, 1) := by decide +kernel
theorem dX12_token_241 : decode cX12_token 241 = .ok (.getfield 170, 3) := by decide +kernel
theorem dX12_token_244 : decode cX12_token 244 = .ok (.iload_n 2, 1) := by decide +kernel
theorem dX12_token_245 : decode cX12_token 245 = .ok (.iadd, 1) := by decide +kernel
theorem dX12_token_246 : decode cX12_token 246 = .ok (.putfield 170, 3) := by decide +kernel
theorem dX12_token_144 : decode cX12_token 144 = .ok (.aload_n 0, 1) := by decide +kernel
theorem dX12_token_145 : decode cX12_token 145 = .ok (.iload_n 2, 1) := by decide +kernel
theorem dX12_token_146 : decode cX12_token 146 = .ok (.invokevirtual 176, 3) := by decide +kernel
theorem dX12_token_149 : decode cX12_token 149 = .ok (.invokestatic 197, 3) := by decide +kernel
theorem dX12_token_152 : decode cX12_token 152 = .ok (.ifCond .eq 34, 3) := by decide +kernel
theorem dX12_token_186 : decode cX12_token 186 = .ok (.aload_n 0, 1) := by decide +kernel
theorem dX12_token_187 : decode cX12_token 187 = .ok (.iload_n 2, 1) := by decide +kernel
theorem dX12_token_188 : decode cX12_token 188 = .ok (.iconst 4, 1) := by decide +kernel
theorem dX12_token_189 : decode cX12_token 189 = .ok (.if_icmp .gt 14, 3) := by decide +kernel
theorem dX12_token_192 : decode cX12_token 192 = .ok (.aload_n 0, 1) := by decide +kernel
theorem dX12_token_193 : decode cX12_token 193 = .ok (.iload_n 2, 1) := by decide +kernel
theorem dX12_token_194 : decode cX12_token 194 = .ok (.invokevirtual 176, 3) := by decide +kernel
theorem dX12_token_197 : decode cX12_token 197 = .ok (.invokestatic 193, 3) := by decide +kernel
theorem dX12_token_200 : decode cX12_token 200 = .ok (.ifCond .eq 7, 3) := by decide +kernel
theorem dX12_token_207 : decode cX12_token 207 = .ok (.iconst 2, 1) := by decide +kernel
theorem dX12_token_208 : decode cX12_token 208 = .ok (.putfield 190, 3) := by decide +kernel
theorem dX12_token_211 : decode cX12_token 211 = .ok (.goto 20, 3) := by decide +kernel
theorem dX12_token_203 : decode cX12_token 203 = .ok (.iconst 3, 1) := by decide +kernel
theorem dX12_token_204 : decode cX12_token 204 = .ok (.goto 4, 3) := by decide +kernel
theorem dX12_token_155 : decode cX12_token 155 = .ok (.iload_n 2, 1) := by decide +kernel
theorem dX12_token_156 : decode cX12_token 156 = .ok (.iconst 4, 1) := by decide +kernel
theorem dX12_token_157 : decode cX12_token 157 = .ok (.if_icmp .ge 23, 3) := by decide +kernel
theorem dX12_token_160 : decode cX12_token 160 = .ok (.aload_n 0, 1) := by decide +kernel
theorem dX12_token_161 : decode cX12_token 161 = .ok (.bipush 10, 2) := by decide +kernel
theorem dX12_token_163 : decode cX12_token 163 = .ok (.aload_n 0, 1) := by decide +kernel
theorem dX12_token_164 : decode cX12_token 164 = .ok (.getfield 187, 3) := by decide +kernel
theorem dX12_token_167 : decode cX12_token 167 = .ok (.imul, 1) := by decide +kernel
theorem dX12_token_168 : decode cX12_token 168 = .ok (.aload_n 0, 1) := by decide +kernel
theorem dX12_token_169 : decode cX12_token 169 = .ok (.iload_n 2, 1) := by decide +kernel
theorem dX12_token_170 : decode cX12_token 170 = .ok (.invokevirtual 176, 3) := by decide +kernel
theorem dX12_token_173 : decode cX12_token 173 = .ok (.iadd, 1) := by decide +kernel
theorem dX12_token_174 : decode cX12_token 174 = .ok (.bipush 48, 2) := by decide +kernel
theorem dX12_token_176 : decode cX12_token 176 = .ok (.isub, 1) := by decide +kernel
theorem dX12_token_177 : decode cX12_token 177 = .ok (.putfield 187, 3) := by decide +kernel
theorem dX12_token_180 : decode cX12_token 180 = .ok (.iinc 2 1, 3) := by decide +kernel
theorem dX12_token_183 : decode cX12_token 183 = .ok (.goto (-39), 3) := by decide +kernel
theorem dX12_token_78 : decode cX12_token 78 = .ok (.aload_n 0, 1) := by decide +kernel
theorem dX12_token_79 : decode cX12_token 79 = .ok (.iload_n 2, 1) := by decide +kernel
theorem dX12_token_80 : decode cX12_token 80 = .ok (.invokevirtual 176, 3) := by decide +kernel
theorem dX12_token_83 : decode cX12_token 83 = .ok (.invokestatic 193, 3) := by decide +kernel
theorem dX12_token_86 : decode cX12_token 86 = .ok (.ifCond .eq 33, 3) := by decide +kernel
theorem dX12_token_119 : decode cX12_token 119 = .ok (.aload_n 0, 1) := by decide +kernel
theorem dX12_token_120 : decode cX12_token 120 = .ok (.iload_n 2, 1) := by decide +kernel
theorem dX12_token_121 : decode cX12_token 121 = .ok (.bipush 8, 2) := by decide +kernel
theorem dX12_token_123 : decode cX12_token 123 = .ok (.if_icmp .le 7, 3) := by decide +kernel
theorem dX12_token_130 : decode cX12_token 130 = .ok (.iconst 1, 1) := by decide +kernel
theorem dX12_token_131 : decode cX12_token 131 = .ok (.putfield 190, 3) := by decide +kernel
theorem dX12_token_134 : decode cX12_token 134 = .ok (.goto 97, 3) := by decide +kernel
theorem dX12_token_89 : decode cX12_token 89 = .ok (.iload_n 2, 1) := by decide +kernel
theorem dX12_token_90 : decode cX12_token 90 = .ok (.bipush 8, 2) := by decide +kernel
theorem dX12_token_92 : decode cX12_token 92 = .ok (.if_icmp .ge 21, 3) := by decide +kernel
theorem dX12_token_95 : decode cX12_token 95 = .ok (.aload_n 0, 1) := by decide +kernel
theorem dX12_token_96 : decode cX12_token 96 = .ok (.aload_n 0, 1) := by decide +kernel
theorem dX12_token_97 : decode cX12_token 97 = .ok (.getfield 183, 3) := by decide +kernel
theorem dX12_token_100 : decode cX12_token 100 = .ok (.bipush 8, 2) := by decide +kernel
theorem dX12_token_102 : decode cX12_token 102 = .ok (.lshl, 1) := by decide +kernel
theorem dX12_token_103 : decode cX12_token 103 = .ok (.aload_n 0, 1) := by decide +kernel
theorem dX12_token_104 : decode cX12_token 104 = .ok (.iload_n 2, 1) := by decide +kernel
theorem dX12_token_105 : decode cX12_token 105 = .ok (.invokevirtual 176, 3) := by decide +kernel
theorem dX12_token_108 : decode cX12_token 108 = .ok (.i2l, 1) := by decide +kernel
theorem dX12_token_109 : decode cX12_token 109 = .ok (.lor, 1) := by decide +kernel
theorem dX12_token_110 : decode cX12_token 110 = .ok (.putfield 183, 3) := by decide +kernel
theorem dX12_token_113 : decode cX12_token 113 = .ok (.iinc 2 1, 3) := by decide +kernel
theorem dX12_token_116 : decode cX12_token 116 = .ok (.goto (-38), 3) := by decide +kernel
theorem dX12_token_126 : decode cX12_token 126 = .ok (.iconst 3, 1) := by decide +kernel
theorem dX12_token_127 : decode cX12_token 127 = .ok (.goto 4, 3) := by decide +kernel
theorem dX12_token_63 : decode cX12_token 63 = .ok (.aload_n 0, 1) := by decide +kernel
theorem dX12_token_64 : decode cX12_token 64 = .ok (.iconst 0, 1) := by decide +kernel
theorem dX12_token_65 : decode cX12_token 65 = .ok (.putfield 190, 3) := by decide +kernel
theorem dX12_token_68 : decode cX12_token 68 = .ok (.goto 163, 3) := by decide +kernel
set_option maxHeartbeats 4000000 in
set_option maxRecDepth 100000 in
theorem s_X12_isLetter (lau : Launch) (gg : va_G) (kA : Nat → ClassId) (c : Int32)  : CtI lau yX12_isLetter cX12_isLetter 1 (some .boolean) 1 0 0 gg kA [.int c] (mflat []) (S := Unit) (fun (r : Int32) (_ : Unit) => r = isLet c) (fun (_ : Unit) => mflat []) := by
  refine nx_startI (by decide +kernel) (Nat.le_of_ble_eq_true rfl) ?_
  intro x hnm h hq
  have h : Ok x cX12_isLetter RX12 kA (rmC 1 0 0) 1 := h
  show J x (mflat []) [(0, .int c)] 0 0 0 []
  refine j_iload_n h 0 rfl rfl dX12_isLetter_0 ?_
  refine j_bipush (v := 97) h (by decide) dX12_isLetter_1 ?_
  refine j_icmp_lt h 16 dX12_isLetter_3 (by decide) (fun z10289 => ?_) (fun z10289 => ?_)
  · show J x (mflat []) [(0, .int c)] 0 0 16 []
    refine j_iconst (v := 0) h (by decide) dX12_isLetter_16 ?_
    exact jm_zret h hq rfl dX12_isLetter_17 () [] rfl (by decide) (by first | (unfold isLet; simp only [z10289, ↓reduceIte]; done) | (unfold isDig; simp only [z10289, ↓reduceIte]; done)) (Nat.le_of_ble_eq_true rfl) (Nat.le_of_ble_eq_true rfl)
  · show J x (mflat []) [(0, .int c)] 0 0 6 []
    refine j_iload_n h 0 rfl rfl dX12_isLetter_6 ?_
    refine j_bipush (v := 122) h (by decide) dX12_isLetter_7 ?_
    refine j_icmp_gt h 16 dX12_isLetter_9 (by decide) (fun z10290 => ?_) (fun z10290 => ?_)
    · show J x (mflat []) [(0, .int c)] 0 0 16 []
      refine j_iconst (v := 0) h (by decide) dX12_isLetter_16 ?_
      exact jm_zret h hq rfl dX12_isLetter_17 () [] rfl (by decide) (by first | (unfold isLet; simp only [z10289, z10290, ↓reduceIte]; done) | (unfold isDig; simp only [z10289, z10290, ↓reduceIte]; done)) (Nat.le_of_ble_eq_true rfl) (Nat.le_of_ble_eq_true rfl)
    · show J x (mflat []) [(0, .int c)] 0 0 12 []
      refine j_iconst (v := 1) h (by decide) dX12_isLetter_12 ?_
      refine j_goto h 17 dX12_isLetter_13 (by decide) ?_
      exact jm_zret h hq rfl dX12_isLetter_17 () [] rfl (by decide) (by first | (unfold isLet; simp only [z10289, z10290, ↓reduceIte]; done) | (unfold isDig; simp only [z10289, z10290, ↓reduceIte]; done)) (Nat.le_of_ble_eq_true rfl) (Nat.le_of_ble_eq_true rfl)
set_option maxHeartbeats 4000000 in
set_option maxRecDepth 100000 in
theorem s_X12_isDigit (lau : Launch) (gg : va_G) (kA : Nat → ClassId) (c : Int32)  : CtI lau yX12_isDigit cX12_isDigit 1 (some .boolean) 1 0 0 gg kA [.int c] (mflat []) (S := Unit) (fun (r : Int32) (_ : Unit) => r = isDig c) (fun (_ : Unit) => mflat []) := by
  refine nx_startI (by decide +kernel) (Nat.le_of_ble_eq_true rfl) ?_
  intro x hnm h hq
  have h : Ok x cX12_isDigit RX12 kA (rmC 1 0 0) 1 := h
  show J x (mflat []) [(0, .int c)] 0 0 0 []
  refine j_iload_n h 0 rfl rfl dX12_isDigit_0 ?_
  refine j_bipush (v := 48) h (by decide) dX12_isDigit_1 ?_
  refine j_icmp_lt h 16 dX12_isDigit_3 (by decide) (fun z10293 => ?_) (fun z10293 => ?_)
  · show J x (mflat []) [(0, .int c)] 0 0 16 []
    refine j_iconst (v := 0) h (by decide) dX12_isDigit_16 ?_
    exact jm_zret h hq rfl dX12_isDigit_17 () [] rfl (by decide) (by first | (unfold isLet; simp only [z10293, ↓reduceIte]; done) | (unfold isDig; simp only [z10293, ↓reduceIte]; done)) (Nat.le_of_ble_eq_true rfl) (Nat.le_of_ble_eq_true rfl)
  · show J x (mflat []) [(0, .int c)] 0 0 6 []
    refine j_iload_n h 0 rfl rfl dX12_isDigit_6 ?_
    refine j_bipush (v := 57) h (by decide) dX12_isDigit_7 ?_
    refine j_icmp_gt h 16 dX12_isDigit_9 (by decide) (fun z10294 => ?_) (fun z10294 => ?_)
    · show J x (mflat []) [(0, .int c)] 0 0 16 []
      refine j_iconst (v := 0) h (by decide) dX12_isDigit_16 ?_
      exact jm_zret h hq rfl dX12_isDigit_17 () [] rfl (by decide) (by first | (unfold isLet; simp only [z10293, z10294, ↓reduceIte]; done) | (unfold isDig; simp only [z10293, z10294, ↓reduceIte]; done)) (Nat.le_of_ble_eq_true rfl) (Nat.le_of_ble_eq_true rfl)
    · show J x (mflat []) [(0, .int c)] 0 0 12 []
      refine j_iconst (v := 1) h (by decide) dX12_isDigit_12 ?_
      refine j_goto h 17 dX12_isDigit_13 (by decide) ?_
      exact jm_zret h hq rfl dX12_isDigit_17 () [] rfl (by decide) (by first | (unfold isLet; simp only [z10293, z10294, ↓reduceIte]; done) | (unfold isDig; simp only [z10293, z10294, ↓reduceIte]; done)) (Nat.le_of_ble_eq_true rfl) (Nat.le_of_ble_eq_true rfl)
