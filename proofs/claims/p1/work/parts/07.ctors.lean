theorem dX6_init_0 : decode cX6_init 0 = .ok (.aload_n 0, 1) := by decide +kernel
theorem dX6_init_1 : decode cX6_init 1 = .ok (.invokespecial 3, 3) := by decide +kernel
theorem tw_154 : Cond.methodLink RX6 3 objectInit ∈ TT := nx_mem 154 (by decide +kernel) (by decide +kernel)
theorem dX6_init_4 : decode cX6_init 4 = .ok (.aload_n 0, 1) := by decide +kernel
theorem dX6_init_5 : decode cX6_init 5 = .ok (.iconst (-1), 1) := by decide +kernel
theorem dX6_init_6 : decode cX6_init 6 = .ok (.putfield 9, 3) := by decide +kernel
theorem iw_X6 : ∀ w ∈ u_ws RX6 TX6 3, w ∈ TT := nx_mems _ [160, 162, 164] (by decide +kernel) (by decide +kernel)
theorem tw_157 : Cond.fieldLink RX6 9 "LimpCode$SchoolReader" "faultPlace" "I" ∈ TT := nx_mem 157 (by decide +kernel) (by decide +kernel)
theorem dX6_init_9 : decode cX6_init 9 = .ok (.return_, 1) := by decide +kernel
theorem dX5_init_0 : decode cX5_init 0 = .ok (.aload_n 0, 1) := by decide +kernel
theorem dX5_init_1 : decode cX5_init 1 = .ok (.invokespecial 3, 3) := by decide +kernel
theorem tw_172 : Cond.methodLink RX5 3 objectInit ∈ TT := nx_mem 172 (by decide +kernel) (by decide +kernel)
theorem dX5_init_4 : decode cX5_init 4 = .ok (.aload_n 0, 1) := by decide +kernel
theorem dX5_init_5 : decode cX5_init 5 = .ok (.bipush 6, 2) := by decide +kernel
theorem dX5_init_7 : decode cX5_init 7 = .ok (.newarray .long, 2) := by decide +kernel
theorem tw_263 : Cond.arrayClass .long ∈ TT := nx_mem 263 (by decide +kernel) (by decide +kernel)
theorem dX5_init_9 : decode cX5_init 9 = .ok (.putfield 9, 3) := by decide +kernel
theorem iw_X5 : ∀ w ∈ u_ws RX5 TX5 15, w ∈ TT := nx_mems _ [232, 234, 236, 238, 240, 242, 244, 246, 248, 250, 252, 254, 256, 258, 260] (by decide +kernel) (by decide +kernel)
theorem tw_175 : Cond.fieldLink RX5 9 "LimpCode$School" "stepNames" "[J" ∈ TT := nx_mem 175 (by decide +kernel) (by decide +kernel)
theorem dX5_init_12 : decode cX5_init 12 = .ok (.aload_n 0, 1) := by decide +kernel
theorem dX5_init_13 : decode cX5_init 13 = .ok (.bipush 6, 2) := by decide +kernel
theorem dX5_init_15 : decode cX5_init 15 = .ok (.newarray .int, 2) := by decide +kernel
theorem tw_264 : Cond.arrayClass .int ∈ TT := nx_mem 264 (by decide +kernel) (by decide +kernel)
theorem dX5_init_17 : decode cX5_init 17 = .ok (.putfield 15, 3) := by decide +kernel
theorem tw_177 : Cond.fieldLink RX5 15 "LimpCode$School" "takes" "[I" ∈ TT := nx_mem 177 (by decide +kernel) (by decide +kernel)
theorem dX5_init_20 : decode cX5_init 20 = .ok (.aload_n 0, 1) := by decide +kernel
theorem dX5_init_21 : decode cX5_init 21 = .ok (.bipush 6, 2) := by decide +kernel
theorem dX5_init_23 : decode cX5_init 23 = .ok (.newarray .int, 2) := by decide +kernel
theorem dX5_init_25 : decode cX5_init 25 = .ok (.putfield 19, 3) := by decide +kernel
theorem tw_182 : Cond.fieldLink RX5 19 "LimpCode$School" "toldLoud" "[I" ∈ TT := nx_mem 182 (by decide +kernel) (by decide +kernel)
theorem dX5_init_28 : decode cX5_init 28 = .ok (.aload_n 0, 1) := by decide +kernel
theorem dX5_init_29 : decode cX5_init 29 = .ok (.bipush 6, 2) := by decide +kernel
theorem dX5_init_31 : decode cX5_init 31 = .ok (.newarray .int, 2) := by decide +kernel
theorem dX5_init_33 : decode cX5_init 33 = .ok (.putfield 22, 3) := by decide +kernel
theorem tw_185 : Cond.fieldLink RX5 22 "LimpCode$School" "sides" "[I" ∈ TT := nx_mem 185 (by decide +kernel) (by decide +kernel)
theorem dX5_init_36 : decode cX5_init 36 = .ok (.aload_n 0, 1) := by decide +kernel
theorem dX5_init_37 : decode cX5_init 37 = .ok (.bipush 10, 2) := by decide +kernel
theorem dX5_init_39 : decode cX5_init 39 = .ok (.newarray .long, 2) := by decide +kernel
theorem dX5_init_41 : decode cX5_init 41 = .ok (.putfield 25, 3) := by decide +kernel
theorem tw_189 : Cond.fieldLink RX5 25 "LimpCode$School" "letterNames" "[J" ∈ TT := nx_mem 189 (by decide +kernel) (by decide +kernel)
theorem dX5_init_44 : decode cX5_init 44 = .ok (.aload_n 0, 1) := by decide +kernel
theorem dX5_init_45 : decode cX5_init 45 = .ok (.bipush 10, 2) := by decide +kernel
theorem dX5_init_47 : decode cX5_init 47 = .ok (.newarray .int, 2) := by decide +kernel
theorem dX5_init_49 : decode cX5_init 49 = .ok (.putfield 28, 3) := by decide +kernel
theorem tw_191 : Cond.fieldLink RX5 28 "LimpCode$School" "letterSizes" "[I" ∈ TT := nx_mem 191 (by decide +kernel) (by decide +kernel)
theorem dX5_init_52 : decode cX5_init 52 = .ok (.aload_n 0, 1) := by decide +kernel
theorem dX5_init_53 : decode cX5_init 53 = .ok (.bipush 10, 2) := by decide +kernel
theorem dX5_init_55 : decode cX5_init 55 = .ok (.iconst 5, 1) := by decide +kernel
theorem dX5_init_56 : decode cX5_init 56 = .ok (.multianewarray 31 2, 4) := by decide +kernel
theorem tw_173 : Cond.classLink RX5 31 "[[I" ∈ TT := nx_mem 173 (by decide +kernel) (by decide +kernel)
theorem dX5_init_60 : decode cX5_init 60 = .ok (.putfield 33, 3) := by decide +kernel
theorem tw_195 : Cond.fieldLink RX5 33 "LimpCode$School" "letterRows" "[[I" ∈ TT := nx_mem 195 (by decide +kernel) (by decide +kernel)
theorem dX5_init_63 : decode cX5_init 63 = .ok (.aload_n 0, 1) := by decide +kernel
theorem dX5_init_64 : decode cX5_init 64 = .ok (.bipush 10, 2) := by decide +kernel
theorem dX5_init_66 : decode cX5_init 66 = .ok (.newarray .int, 2) := by decide +kernel
theorem dX5_init_68 : decode cX5_init 68 = .ok (.putfield 36, 3) := by decide +kernel
theorem tw_199 : Cond.fieldLink RX5 36 "LimpCode$School" "letterTakes" "[I" ∈ TT := nx_mem 199 (by decide +kernel) (by decide +kernel)
theorem dX5_init_71 : decode cX5_init 71 = .ok (.aload_n 0, 1) := by decide +kernel
theorem dX5_init_72 : decode cX5_init 72 = .ok (.bipush 10, 2) := by decide +kernel
theorem dX5_init_74 : decode cX5_init 74 = .ok (.iconst 2, 1) := by decide +kernel
theorem dX5_init_75 : decode cX5_init 75 = .ok (.multianewarray 31 2, 4) := by decide +kernel
theorem dX5_init_79 : decode cX5_init 79 = .ok (.putfield 39, 3) := by decide +kernel
theorem tw_204 : Cond.fieldLink RX5 39 "LimpCode$School" "letterAfter" "[[I" ∈ TT := nx_mem 204 (by decide +kernel) (by decide +kernel)
theorem dX5_init_82 : decode cX5_init 82 = .ok (.aload_n 0, 1) := by decide +kernel
theorem dX5_init_83 : decode cX5_init 83 = .ok (.iconst 4, 1) := by decide +kernel
theorem dX5_init_84 : decode cX5_init 84 = .ok (.newarray .long, 2) := by decide +kernel
theorem dX5_init_86 : decode cX5_init 86 = .ok (.putfield 42, 3) := by decide +kernel
theorem tw_209 : Cond.fieldLink RX5 42 "LimpCode$School" "earNames" "[J" ∈ TT := nx_mem 209 (by decide +kernel) (by decide +kernel)
theorem dX5_init_89 : decode cX5_init 89 = .ok (.aload_n 0, 1) := by decide +kernel
theorem dX5_init_90 : decode cX5_init 90 = .ok (.iconst 4, 1) := by decide +kernel
theorem dX5_init_91 : decode cX5_init 91 = .ok (.newarray .int, 2) := by decide +kernel
theorem dX5_init_93 : decode cX5_init 93 = .ok (.putfield 45, 3) := by decide +kernel
theorem tw_211 : Cond.fieldLink RX5 45 "LimpCode$School" "floors" "[I" ∈ TT := nx_mem 211 (by decide +kernel) (by decide +kernel)
theorem dX5_init_96 : decode cX5_init 96 = .ok (.aload_n 0, 1) := by decide +kernel
theorem dX5_init_97 : decode cX5_init 97 = .ok (.iconst 4, 1) := by decide +kernel
theorem dX5_init_98 : decode cX5_init 98 = .ok (.newarray .int, 2) := by decide +kernel
theorem dX5_init_100 : decode cX5_init 100 = .ok (.putfield 48, 3) := by decide +kernel
theorem tw_213 : Cond.fieldLink RX5 48 "LimpCode$School" "books" "[I" ∈ TT := nx_mem 213 (by decide +kernel) (by decide +kernel)
theorem dX5_init_103 : decode cX5_init 103 = .ok (.return_, 1) := by decide +kernel
theorem dX2_init_0 : decode cX2_init 0 = .ok (.aload_n 0, 1) := by decide +kernel
theorem dX2_init_1 : decode cX2_init 1 = .ok (.invokespecial 3, 3) := by decide +kernel
theorem tw_270 : Cond.methodLink RX2 3 objectInit ∈ TT := nx_mem 270 (by decide +kernel) (by decide +kernel)
theorem dX2_init_4 : decode cX2_init 4 = .ok (.aload_n 0, 1) := by decide +kernel
theorem dX2_init_5 : decode cX2_init 5 = .ok (.bipush 60, 2) := by decide +kernel
theorem dX2_init_7 : decode cX2_init 7 = .ok (.newarray .int, 2) := by decide +kernel
theorem dX2_init_9 : decode cX2_init 9 = .ok (.putfield 9, 3) := by decide +kernel
theorem iw_X2 : ∀ w ∈ u_ws RX2 TX2 6, w ∈ TT := nx_mems _ [281, 283, 285, 287, 289, 291] (by decide +kernel) (by decide +kernel)
theorem tw_271 : Cond.fieldLink RX2 9 "LimpCode$Earnest" "row" "[I" ∈ TT := nx_mem 271 (by decide +kernel) (by decide +kernel)
theorem dX2_init_12 : decode cX2_init 12 = .ok (.aload_n 0, 1) := by decide +kernel
theorem dX2_init_13 : decode cX2_init 13 = .ok (.bipush 6, 2) := by decide +kernel
theorem dX2_init_15 : decode cX2_init 15 = .ok (.newarray .int, 2) := by decide +kernel
theorem dX2_init_17 : decode cX2_init 17 = .ok (.putfield 15, 3) := by decide +kernel
theorem tw_272 : Cond.fieldLink RX2 15 "LimpCode$Earnest" "loud" "[I" ∈ TT := nx_mem 272 (by decide +kernel) (by decide +kernel)
theorem dX2_init_20 : decode cX2_init 20 = .ok (.return_, 1) := by decide +kernel
theorem dX10_init_0 : decode cX10_init 0 = .ok (.aload_n 0, 1) := by decide +kernel
theorem dX10_init_1 : decode cX10_init 1 = .ok (.invokespecial 3, 3) := by decide +kernel
theorem tw_301 : Cond.methodLink RX10 3 objectInit ∈ TT := nx_mem 301 (by decide +kernel) (by decide +kernel)
theorem dX10_init_4 : decode cX10_init 4 = .ok (.aload_n 0, 1) := by decide +kernel
theorem dX10_init_5 : decode cX10_init 5 = .ok (.bipush 60, 2) := by decide +kernel
theorem dX10_init_7 : decode cX10_init 7 = .ok (.newarray .int, 2) := by decide +kernel
theorem dX10_init_9 : decode cX10_init 9 = .ok (.putfield 9, 3) := by decide +kernel
theorem iw_X10 : ∀ w ∈ u_ws RX10 TX10 4, w ∈ TT := nx_mems _ [312, 314, 316, 318] (by decide +kernel) (by decide +kernel)
theorem tw_302 : Cond.fieldLink RX10 9 "LimpCode$Text" "row" "[I" ∈ TT := nx_mem 302 (by decide +kernel) (by decide +kernel)
theorem dX10_init_12 : decode cX10_init 12 = .ok (.return_, 1) := by decide +kernel
theorem dX8_init_0 : decode cX8_init 0 = .ok (.aload_n 0, 1) := by decide +kernel
theorem dX8_init_1 : decode cX8_init 1 = .ok (.invokespecial 3, 3) := by decide +kernel
theorem tw_326 : Cond.methodLink RX8 3 objectInit ∈ TT := nx_mem 326 (by decide +kernel) (by decide +kernel)
theorem dX8_init_4 : decode cX8_init 4 = .ok (.aload_n 0, 1) := by decide +kernel
theorem dX8_init_5 : decode cX8_init 5 = .ok (.bipush 30, 2) := by decide +kernel
theorem dX8_init_7 : decode cX8_init 7 = .ok (.newarray .int, 2) := by decide +kernel
theorem dX8_init_9 : decode cX8_init 9 = .ok (.putfield 9, 3) := by decide +kernel
theorem iw_X8 : ∀ w ∈ u_ws RX8 TX8 7, w ∈ TT := nx_mems _ [335, 337, 339, 341, 343, 345, 347] (by decide +kernel) (by decide +kernel)
theorem tw_327 : Cond.fieldLink RX8 9 "LimpCode$Sounds" "ears" "[I" ∈ TT := nx_mem 327 (by decide +kernel) (by decide +kernel)
theorem dX8_init_12 : decode cX8_init 12 = .ok (.aload_n 0, 1) := by decide +kernel
theorem dX8_init_13 : decode cX8_init 13 = .ok (.bipush 30, 2) := by decide +kernel
theorem dX8_init_15 : decode cX8_init 15 = .ok (.newarray .int, 2) := by decide +kernel
theorem dX8_init_17 : decode cX8_init 17 = .ok (.putfield 15, 3) := by decide +kernel
theorem tw_328 : Cond.fieldLink RX8 15 "LimpCode$Sounds" "moments" "[I" ∈ TT := nx_mem 328 (by decide +kernel) (by decide +kernel)
theorem dX8_init_20 : decode cX8_init 20 = .ok (.aload_n 0, 1) := by decide +kernel
theorem dX8_init_21 : decode cX8_init 21 = .ok (.bipush 30, 2) := by decide +kernel
theorem dX8_init_23 : decode cX8_init 23 = .ok (.newarray .int, 2) := by decide +kernel
theorem dX8_init_25 : decode cX8_init 25 = .ok (.putfield 18, 3) := by decide +kernel
theorem tw_329 : Cond.fieldLink RX8 18 "LimpCode$Sounds" "leasts" "[I" ∈ TT := nx_mem 329 (by decide +kernel) (by decide +kernel)
theorem dX8_init_28 : decode cX8_init 28 = .ok (.aload_n 0, 1) := by decide +kernel
theorem dX8_init_29 : decode cX8_init 29 = .ok (.bipush 30, 2) := by decide +kernel
theorem dX8_init_31 : decode cX8_init 31 = .ok (.newarray .int, 2) := by decide +kernel
theorem dX8_init_33 : decode cX8_init 33 = .ok (.putfield 21, 3) := by decide +kernel
theorem tw_330 : Cond.fieldLink RX8 21 "LimpCode$Sounds" "mosts" "[I" ∈ TT := nx_mem 330 (by decide +kernel) (by decide +kernel)
theorem dX8_init_36 : decode cX8_init 36 = .ok (.aload_n 0, 1) := by decide +kernel
theorem dX8_init_37 : decode cX8_init 37 = .ok (.bipush 30, 2) := by decide +kernel
theorem dX8_init_39 : decode cX8_init 39 = .ok (.newarray .int, 2) := by decide +kernel
theorem dX8_init_41 : decode cX8_init 41 = .ok (.putfield 24, 3) := by decide +kernel
theorem tw_331 : Cond.fieldLink RX8 24 "LimpCode$Sounds" "toldAt" "[I" ∈ TT := nx_mem 331 (by decide +kernel) (by decide +kernel)
theorem dX8_init_44 : decode cX8_init 44 = .ok (.aload_n 0, 1) := by decide +kernel
theorem dX8_init_45 : decode cX8_init 45 = .ok (.bipush 30, 2) := by decide +kernel
theorem dX8_init_47 : decode cX8_init 47 = .ok (.newarray .int, 2) := by decide +kernel
theorem dX8_init_49 : decode cX8_init 49 = .ok (.putfield 27, 3) := by decide +kernel
theorem tw_332 : Cond.fieldLink RX8 27 "LimpCode$Sounds" "untoldAt" "[I" ∈ TT := nx_mem 332 (by decide +kernel) (by decide +kernel)
theorem dX8_init_52 : decode cX8_init 52 = .ok (.return_, 1) := by decide +kernel
theorem dX0_init_0 : decode cX0_init 0 = .ok (.aload_n 0, 1) := by decide +kernel
theorem dX0_init_1 : decode cX0_init 1 = .ok (.invokespecial 3, 3) := by decide +kernel
theorem tw_355 : Cond.methodLink RX0 3 objectInit ∈ TT := nx_mem 355 (by decide +kernel) (by decide +kernel)
theorem dX0_init_4 : decode cX0_init 4 = .ok (.aload_n 0, 1) := by decide +kernel
theorem dX0_init_5 : decode cX0_init 5 = .ok (.iconst 4, 1) := by decide +kernel
theorem dX0_init_6 : decode cX0_init 6 = .ok (.bipush 60, 2) := by decide +kernel
theorem dX0_init_8 : decode cX0_init 8 = .ok (.multianewarray 9 2, 4) := by decide +kernel
theorem tw_356 : Cond.classLink RX0 9 "[[I" ∈ TT := nx_mem 356 (by decide +kernel) (by decide +kernel)
theorem dX0_init_12 : decode cX0_init 12 = .ok (.putfield 11, 3) := by decide +kernel
theorem iw_X0 : ∀ w ∈ u_ws RX0 TX0 3, w ∈ TT := nx_mems _ [360, 362, 364] (by decide +kernel) (by decide +kernel)
theorem tw_357 : Cond.fieldLink RX0 11 "LimpCode$Bounds" "least" "[[I" ∈ TT := nx_mem 357 (by decide +kernel) (by decide +kernel)
theorem dX0_init_15 : decode cX0_init 15 = .ok (.aload_n 0, 1) := by decide +kernel
theorem dX0_init_16 : decode cX0_init 16 = .ok (.iconst 4, 1) := by decide +kernel
theorem dX0_init_17 : decode cX0_init 17 = .ok (.bipush 60, 2) := by decide +kernel
theorem dX0_init_19 : decode cX0_init 19 = .ok (.multianewarray 9 2, 4) := by decide +kernel
theorem dX0_init_23 : decode cX0_init 23 = .ok (.putfield 16, 3) := by decide +kernel
theorem tw_358 : Cond.fieldLink RX0 16 "LimpCode$Bounds" "most" "[[I" ∈ TT := nx_mem 358 (by decide +kernel) (by decide +kernel)
theorem dX0_init_26 : decode cX0_init 26 = .ok (.aload_n 0, 1) := by decide +kernel
theorem dX0_init_27 : decode cX0_init 27 = .ok (.iconst 4, 1) := by decide +kernel
theorem dX0_init_28 : decode cX0_init 28 = .ok (.newarray .boolean, 2) := by decide +kernel
theorem tw_367 : Cond.arrayClass .boolean ∈ TT := nx_mem 367 (by decide +kernel) (by decide +kernel)
theorem dX0_init_30 : decode cX0_init 30 = .ok (.putfield 19, 3) := by decide +kernel
theorem tw_359 : Cond.fieldLink RX0 19 "LimpCode$Bounds" "narrowed" "[Z" ∈ TT := nx_mem 359 (by decide +kernel) (by decide +kernel)
theorem dX0_init_33 : decode cX0_init 33 = .ok (.return_, 1) := by decide +kernel
theorem dX4_init_0 : decode cX4_init 0 = .ok (.aload_n 0, 1) := by decide +kernel
theorem dX4_init_1 : decode cX4_init 1 = .ok (.invokespecial 3, 3) := by decide +kernel
theorem tw_419 : Cond.methodLink RX4 3 objectInit ∈ TT := nx_mem 419 (by decide +kernel) (by decide +kernel)
theorem dX4_init_4 : decode cX4_init 4 = .ok (.aload_n 0, 1) := by decide +kernel
theorem dX4_init_5 : decode cX4_init 5 = .ok (.bipush 10, 2) := by decide +kernel
theorem dX4_init_7 : decode cX4_init 7 = .ok (.bipush 45, 2) := by decide +kernel
theorem dX4_init_9 : decode cX4_init 9 = .ok (.multianewarray 11 2, 4) := by decide +kernel
theorem tw_420 : Cond.classLink RX4 11 "[[I" ∈ TT := nx_mem 420 (by decide +kernel) (by decide +kernel)
theorem dX4_init_13 : decode cX4_init 13 = .ok (.putfield 13, 3) := by decide +kernel
theorem iw_X4 : ∀ w ∈ u_ws RX4 TX4 5, w ∈ TT := nx_mems _ [426, 428, 430, 432, 434] (by decide +kernel) (by decide +kernel)
theorem tw_421 : Cond.fieldLink RX4 13 "LimpCode$Listener" "letterSounds" "[[I" ∈ TT := nx_mem 421 (by decide +kernel) (by decide +kernel)
theorem dX4_init_16 : decode cX4_init 16 = .ok (.aload_n 0, 1) := by decide +kernel
theorem dX4_init_17 : decode cX4_init 17 = .ok (.bipush 6, 2) := by decide +kernel
theorem dX4_init_19 : decode cX4_init 19 = .ok (.newarray .int, 2) := by decide +kernel
theorem dX4_init_21 : decode cX4_init 21 = .ok (.putfield 16, 3) := by decide +kernel
theorem tw_422 : Cond.fieldLink RX4 16 "LimpCode$Listener" "stepSounds" "[I" ∈ TT := nx_mem 422 (by decide +kernel) (by decide +kernel)
theorem dX4_init_24 : decode cX4_init 24 = .ok (.aload_n 0, 1) := by decide +kernel
theorem dX4_init_25 : decode cX4_init 25 = .ok (.bipush 60, 2) := by decide +kernel
theorem dX4_init_27 : decode cX4_init 27 = .ok (.newarray .int, 2) := by decide +kernel
theorem dX4_init_29 : decode cX4_init 29 = .ok (.putfield 20, 3) := by decide +kernel
theorem tw_423 : Cond.fieldLink RX4 20 "LimpCode$Listener" "heardSoFar" "[I" ∈ TT := nx_mem 423 (by decide +kernel) (by decide +kernel)
theorem dX4_init_32 : decode cX4_init 32 = .ok (.aload_n 0, 1) := by decide +kernel
theorem dX4_init_33 : decode cX4_init 33 = .ok (.iconst 2, 1) := by decide +kernel
theorem dX4_init_34 : decode cX4_init 34 = .ok (.newarray .long, 2) := by decide +kernel
theorem dX4_init_36 : decode cX4_init 36 = .ok (.putfield 23, 3) := by decide +kernel
theorem tw_424 : Cond.fieldLink RX4 23 "LimpCode$Listener" "read" "[J" ∈ TT := nx_mem 424 (by decide +kernel) (by decide +kernel)
theorem dX4_init_39 : decode cX4_init 39 = .ok (.return_, 1) := by decide +kernel
theorem dX7_init_0 : decode cX7_init 0 = .ok (.aload_n 0, 1) := by decide +kernel
theorem dX7_init_1 : decode cX7_init 1 = .ok (.invokespecial 3, 3) := by decide +kernel
theorem tw_442 : Cond.methodLink RX7 3 objectInit ∈ TT := nx_mem 442 (by decide +kernel) (by decide +kernel)
theorem dX7_init_4 : decode cX7_init 4 = .ok (.aload_n 0, 1) := by decide +kernel
theorem dX7_init_5 : decode cX7_init 5 = .ok (.bipush 61, 2) := by decide +kernel
theorem dX7_init_7 : decode cX7_init 7 = .ok (.newarray .int, 2) := by decide +kernel
theorem dX7_init_9 : decode cX7_init 9 = .ok (.putfield 9, 3) := by decide +kernel
theorem iw_X7 : ∀ w ∈ u_ws RX7 TX7 4, w ∈ TT := nx_mems _ [447, 449, 451, 453] (by decide +kernel) (by decide +kernel)
theorem tw_443 : Cond.fieldLink RX7 9 "LimpCode$SecretSearch" "walk" "[I" ∈ TT := nx_mem 443 (by decide +kernel) (by decide +kernel)
theorem dX7_init_12 : decode cX7_init 12 = .ok (.aload_n 0, 1) := by decide +kernel
theorem dX7_init_13 : decode cX7_init 13 = .ok (.bipush 61, 2) := by decide +kernel
theorem dX7_init_15 : decode cX7_init 15 = .ok (.newarray .int, 2) := by decide +kernel
theorem dX7_init_17 : decode cX7_init 17 = .ok (.putfield 15, 3) := by decide +kernel
theorem tw_444 : Cond.fieldLink RX7 15 "LimpCode$SecretSearch" "begins" "[I" ∈ TT := nx_mem 444 (by decide +kernel) (by decide +kernel)
theorem dX7_init_20 : decode cX7_init 20 = .ok (.aload_n 0, 1) := by decide +kernel
theorem dX7_init_21 : decode cX7_init 21 = .ok (.bipush 61, 2) := by decide +kernel
theorem dX7_init_23 : decode cX7_init 23 = .ok (.newarray .int, 2) := by decide +kernel
theorem dX7_init_25 : decode cX7_init 25 = .ok (.putfield 18, 3) := by decide +kernel
theorem tw_445 : Cond.fieldLink RX7 18 "LimpCode$SecretSearch" "feet" "[I" ∈ TT := nx_mem 445 (by decide +kernel) (by decide +kernel)
theorem dX7_init_28 : decode cX7_init 28 = .ok (.return_, 1) := by decide +kernel
theorem dX1_init_0 : decode cX1_init 0 = .ok (.aload_n 0, 1) := by decide +kernel
theorem dX1_init_1 : decode cX1_init 1 = .ok (.invokespecial 3, 3) := by decide +kernel
theorem tw_461 : Cond.methodLink RX1 3 objectInit ∈ TT := nx_mem 461 (by decide +kernel) (by decide +kernel)
theorem dX1_init_4 : decode cX1_init 4 = .ok (.aload_n 0, 1) := by decide +kernel
theorem dX1_init_5 : decode cX1_init 5 = .ok (.bipush 10, 2) := by decide +kernel
theorem dX1_init_7 : decode cX1_init 7 = .ok (.newarray .int, 2) := by decide +kernel
theorem dX1_init_9 : decode cX1_init 9 = .ok (.putfield 9, 3) := by decide +kernel
theorem iw_X1 : ∀ w ∈ u_ws RX1 TX1 4, w ∈ TT := nx_mems _ [466, 468, 470, 472] (by decide +kernel) (by decide +kernel)
theorem tw_462 : Cond.fieldLink RX1 9 "LimpCode$Deal" "uses" "[I" ∈ TT := nx_mem 462 (by decide +kernel) (by decide +kernel)
theorem dX1_init_12 : decode cX1_init 12 = .ok (.aload_n 0, 1) := by decide +kernel
theorem dX1_init_13 : decode cX1_init 13 = .ok (.bipush 10, 2) := by decide +kernel
theorem dX1_init_15 : decode cX1_init 15 = .ok (.newarray .int, 2) := by decide +kernel
theorem dX1_init_17 : decode cX1_init 17 = .ok (.putfield 15, 3) := by decide +kernel
theorem tw_463 : Cond.fieldLink RX1 15 "LimpCode$Deal" "restUses" "[I" ∈ TT := nx_mem 463 (by decide +kernel) (by decide +kernel)
theorem dX1_init_20 : decode cX1_init 20 = .ok (.aload_n 0, 1) := by decide +kernel
theorem dX1_init_21 : decode cX1_init 21 = .ok (.bipush 10, 2) := by decide +kernel
theorem dX1_init_23 : decode cX1_init 23 = .ok (.newarray .int, 2) := by decide +kernel
theorem dX1_init_25 : decode cX1_init 25 = .ok (.putfield 18, 3) := by decide +kernel
theorem tw_464 : Cond.fieldLink RX1 18 "LimpCode$Deal" "restTakes" "[I" ∈ TT := nx_mem 464 (by decide +kernel) (by decide +kernel)
theorem dX1_init_28 : decode cX1_init 28 = .ok (.aload_n 0, 1) := by decide +kernel
theorem dX1_init_29 : decode cX1_init 29 = .ok (.bipush 10, 2) := by decide +kernel
theorem dX1_init_31 : decode cX1_init 31 = .ok (.newarray .boolean, 2) := by decide +kernel
theorem dX1_init_33 : decode cX1_init 33 = .ok (.putfield 21, 3) := by decide +kernel
theorem tw_465 : Cond.fieldLink RX1 21 "LimpCode$Deal" "given" "[Z" ∈ TT := nx_mem 465 (by decide +kernel) (by decide +kernel)
theorem dX1_init_36 : decode cX1_init 36 = .ok (.return_, 1) := by decide +kernel
theorem dX3_init_0 : decode cX3_init 0 = .ok (.aload_n 0, 1) := by decide +kernel
theorem dX3_init_1 : decode cX3_init 1 = .ok (.invokespecial 3, 3) := by decide +kernel
theorem tw_373 : Cond.methodLink RX3 3 objectInit ∈ TT := nx_mem 373 (by decide +kernel) (by decide +kernel)
theorem dX3_init_4 : decode cX3_init 4 = .ok (.aload_n 0, 1) := by decide +kernel
theorem dX3_init_5 : decode cX3_init 5 = .ok (.bipush 8, 2) := by decide +kernel
theorem dX3_init_7 : decode cX3_init 7 = .ok (.bipush 61, 2) := by decide +kernel
theorem dX3_init_9 : decode cX3_init 9 = .ok (.multianewarray 9 2, 4) := by decide +kernel
theorem tw_374 : Cond.classLink RX3 9 "[[J" ∈ TT := nx_mem 374 (by decide +kernel) (by decide +kernel)
theorem dX3_init_13 : decode cX3_init 13 = .ok (.putfield 11, 3) := by decide +kernel
theorem iw_X3 : ∀ w ∈ u_ws RX3 TX3 11, w ∈ TT := nx_mems _ [391, 393, 395, 397, 399, 401, 403, 405, 407, 409, 411] (by decide +kernel) (by decide +kernel)
theorem tw_382 : Cond.fieldLink RX3 11 "LimpCode$Grid" "ways" "[[J" ∈ TT := nx_mem 382 (by decide +kernel) (by decide +kernel)
theorem dX3_init_16 : decode cX3_init 16 = .ok (.aload_n 0, 1) := by decide +kernel
theorem dX3_init_17 : decode cX3_init 17 = .ok (.iconst 2, 1) := by decide +kernel
theorem dX3_init_18 : decode cX3_init 18 = .ok (.newarray .long, 2) := by decide +kernel
theorem dX3_init_20 : decode cX3_init 20 = .ok (.putfield 16, 3) := by decide +kernel
theorem tw_384 : Cond.fieldLink RX3 16 "LimpCode$Grid" "alive" "[J" ∈ TT := nx_mem 384 (by decide +kernel) (by decide +kernel)
theorem dX3_init_23 : decode cX3_init 23 = .ok (.aload_n 0, 1) := by decide +kernel
theorem dX3_init_24 : decode cX3_init 24 = .ok (.iconst 2, 1) := by decide +kernel
theorem dX3_init_25 : decode cX3_init 25 = .ok (.newarray .long, 2) := by decide +kernel
theorem dX3_init_27 : decode cX3_init 27 = .ok (.putfield 20, 3) := by decide +kernel
theorem tw_385 : Cond.fieldLink RX3 20 "LimpCode$Grid" "reached" "[J" ∈ TT := nx_mem 385 (by decide +kernel) (by decide +kernel)
theorem dX3_init_30 : decode cX3_init 30 = .ok (.aload_n 0, 1) := by decide +kernel
theorem dX3_init_31 : decode cX3_init 31 = .ok (.iconst 2, 1) := by decide +kernel
theorem dX3_init_32 : decode cX3_init 32 = .ok (.newarray .long, 2) := by decide +kernel
theorem dX3_init_34 : decode cX3_init 34 = .ok (.putfield 23, 3) := by decide +kernel
theorem tw_386 : Cond.fieldLink RX3 23 "LimpCode$Grid" "reachedNext" "[J" ∈ TT := nx_mem 386 (by decide +kernel) (by decide +kernel)
theorem dX3_init_37 : decode cX3_init 37 = .ok (.aload_n 0, 1) := by decide +kernel
theorem dX3_init_38 : decode cX3_init 38 = .ok (.iload_n 1, 1) := by decide +kernel
theorem dX3_init_39 : decode cX3_init 39 = .ok (.newarray .int, 2) := by decide +kernel
theorem dX3_init_41 : decode cX3_init 41 = .ok (.putfield 26, 3) := by decide +kernel
theorem tw_377 : Cond.fieldLink RX3 26 "LimpCode$Grid" "takes" "[I" ∈ TT := nx_mem 377 (by decide +kernel) (by decide +kernel)
theorem dX3_init_44 : decode cX3_init 44 = .ok (.aload_n 0, 1) := by decide +kernel
theorem dX3_init_45 : decode cX3_init 45 = .ok (.iload_n 1, 1) := by decide +kernel
theorem dX3_init_46 : decode cX3_init 46 = .ok (.iconst 2, 1) := by decide +kernel
theorem dX3_init_47 : decode cX3_init 47 = .ok (.multianewarray 30 2, 4) := by decide +kernel
theorem tw_376 : Cond.classLink RX3 30 "[[I" ∈ TT := nx_mem 376 (by decide +kernel) (by decide +kernel)
theorem dX3_init_51 : decode cX3_init 51 = .ok (.putfield 32, 3) := by decide +kernel
theorem tw_379 : Cond.fieldLink RX3 32 "LimpCode$Grid" "after" "[[I" ∈ TT := nx_mem 379 (by decide +kernel) (by decide +kernel)
theorem dX3_init_54 : decode cX3_init 54 = .ok (.aload_n 0, 1) := by decide +kernel
theorem dX3_init_55 : decode cX3_init 55 = .ok (.iload_n 1, 1) := by decide +kernel
theorem dX3_init_56 : decode cX3_init 56 = .ok (.bipush 60, 2) := by decide +kernel
theorem dX3_init_58 : decode cX3_init 58 = .ok (.multianewarray 30 2, 4) := by decide +kernel
theorem dX3_init_62 : decode cX3_init 62 = .ok (.putfield 35, 3) := by decide +kernel
theorem tw_381 : Cond.fieldLink RX3 35 "LimpCode$Grid" "cost" "[[I" ∈ TT := nx_mem 381 (by decide +kernel) (by decide +kernel)
theorem dX3_init_65 : decode cX3_init 65 = .ok (.aload_n 0, 1) := by decide +kernel
theorem dX3_init_66 : decode cX3_init 66 = .ok (.iload_n 1, 1) := by decide +kernel
theorem dX3_init_67 : decode cX3_init 67 = .ok (.newarray .long, 2) := by decide +kernel
theorem dX3_init_69 : decode cX3_init 69 = .ok (.putfield 38, 3) := by decide +kernel
theorem tw_383 : Cond.fieldLink RX3 38 "LimpCode$Grid" "fits" "[J" ∈ TT := nx_mem 383 (by decide +kernel) (by decide +kernel)
theorem dX3_init_72 : decode cX3_init 72 = .ok (.return_, 1) := by decide +kernel
set_option maxHeartbeats 4000000 in
set_option maxRecDepth 100000 in
theorem c_X6_init (l : Launch) (g : va_G) (kA : Nat → ClassId) (h0 : Nat)  : CtV l yX6_init cX6_init 1 (none) 1 0 0 g kA [.ref h0] [(h0, .inr (6, [.int 0, .int 0, .int 0]))] (S := Unit) (fun (_ : Unit) => True) (fun (_ : Unit) => [(h0, .inr (6, [.int 0, .int (-1), .int 0]))]) := by
  refine nx_startV (by decide +kernel) (Nat.le_of_ble_eq_true rfl) ?_
  intro x hnm h hq
  have h : Ok x cX6_init RX6 kA (rmC 1 0 0) 1 := h
  show J x [(h0, .inr (6, [.int 0, .int 0, .int 0]))] [(0, .ref h0)] 0 0 0 []
  refine j_aload_n h 0 rfl rfl dX6_init_0 ?_
  refine j_objInit h tw_154 tw_113 tw_114 (Nat.le_of_ble_eq_true rfl) (Nat.le_of_ble_eq_true rfl) (Nat.le_of_ble_eq_true rfl) dX6_init_1 ?_
  refine j_aload_n h 0 rfl rfl dX6_init_4 ?_
  refine j_iconst (v := (-1)) h (by decide) dX6_init_5 ?_
  refine j_put (ws' := [(h0, .inr (6, [.int 0, .int (-1), .int 0]))]) h iw_X6 tyX6 tyX6_ok nmX6 0 rfl rfl 1 (by decide) tw_157 rfl rfl rfl (Nat.le_of_ble_eq_true rfl) dX6_init_6 rfl ?_
  exact j_vret h hq dX6_init_9 () [0] rfl rfl (by decide) trivial (Nat.le_of_ble_eq_true rfl) (Nat.le_of_ble_eq_true rfl)
set_option maxHeartbeats 4000000 in
set_option maxRecDepth 100000 in
theorem c_X5_init (l : Launch) (g : va_G) (kA : Nat → ClassId) (h0 : Nat)  : CtV l yX5_init cX5_init 1 (none) 1 32 156 g kA [.ref h0] [(h0, .inr (5, [.null, .null, .null, .null, .null, .null, .null, .null, .null, .null, .null, .null, .int 0, .int 0, .int 0]))] (S := Nat × Nat × Nat × Nat × Nat × Nat × Nat × Nat × Nat × Nat × Nat × Nat) (fun ((a0, a1, a2, a3, a4, a5, a6, a7, a8, a9, a10, a11) : Nat × Nat × Nat × Nat × Nat × Nat × Nat × Nat × Nat × Nat × Nat × Nat) => True) (fun ((a0, a1, a2, a3, a4, a5, a6, a7, a8, a9, a10, a11) : Nat × Nat × Nat × Nat × Nat × Nat × Nat × Nat × Nat × Nat × Nat × Nat) => [(h0, .inr (5, [.ref a0, .ref a1, .ref a2, .ref a3, .ref a4, .ref a5, .ref a6, .ref a7, .ref a8, .ref a9, .ref a10, .ref a11, .int 0, .int 0, .int 0])), (a2, .inl (kA 1, 6, .inl (fun _ => 0)))]) := by
  refine nx_startV (by decide +kernel) (Nat.le_of_ble_eq_true rfl) ?_
  intro x hnm h hq
  have h : Ok x cX5_init RX5 kA (rmC 1 32 156) 1 := h
  show J x [(h0, .inr (5, [.null, .null, .null, .null, .null, .null, .null, .null, .null, .null, .null, .null, .int 0, .int 0, .int 0]))] [(0, .ref h0)] 0 0 0 []
  refine j_aload_n h 0 rfl rfl dX5_init_0 ?_
  refine j_objInit h tw_172 tw_113 tw_114 (Nat.le_of_ble_eq_true rfl) (Nat.le_of_ble_eq_true rfl) (Nat.le_of_ble_eq_true rfl) dX5_init_1 ?_
  refine j_aload_n h 0 rfl rfl dX5_init_4 ?_
  refine j_bipush (v := 6) h (by decide) dX5_init_5 ?_
  refine j_newa (atype := .long) (a0 := (6, .inr (.inl (fun _ => 0)))) h tw_263 rfl 2 rfl (fun _ => rfl) (by decide) (by decide) (by decide) (Nat.le_of_ble_eq_true rfl) (Nat.le_of_ble_eq_true rfl) dX5_init_7 (fun q2 => ?_)
  show J x [(h0, .inr (5, [.null, .null, .null, .null, .null, .null, .null, .null, .null, .null, .null, .null, .int 0, .int 0, .int 0])), (q2, .inl (kA 2, 6, .inr (.inl (fun _ => 0))))] [(0, .ref h0)] 1 6 9 [.ref q2, .ref h0]
  refine j_putF (ws' := [(h0, .inr (5, [.ref q2, .null, .null, .null, .null, .null, .null, .null, .null, .null, .null, .null, .int 0, .int 0, .int 0])), (q2, .inl (kA 2, 6, .inr (.inl (fun _ => 0))))]) h iw_X5 tyX5 tyX5_ok nmX5 0 rfl rfl 0 (by decide) tw_175 rfl hnm rfl rfl rfl (Nat.le_of_ble_eq_true rfl) dX5_init_9 rfl ?_
  refine j_aload_n h 0 rfl rfl dX5_init_12 ?_
  refine j_bipush (v := 6) h (by decide) dX5_init_13 ?_
  refine j_newa (atype := .int) (a0 := (6, .inl (fun _ => 0))) h tw_264 rfl 1 rfl (fun _ => rfl) (by decide) (by decide) (by decide) (Nat.le_of_ble_eq_true rfl) (Nat.le_of_ble_eq_true rfl) dX5_init_15 (fun q3 => ?_)
  show J x [(h0, .inr (5, [.ref q2, .null, .null, .null, .null, .null, .null, .null, .null, .null, .null, .null, .int 0, .int 0, .int 0])), (q2, .inl (kA 2, 6, .inr (.inl (fun _ => 0)))), (q3, .inl (kA 1, 6, .inl (fun _ => 0)))] [(0, .ref h0)] 2 12 17 [.ref q3, .ref h0]
  refine j_putF (ws' := [(h0, .inr (5, [.ref q2, .ref q3, .null, .null, .null, .null, .null, .null, .null, .null, .null, .null, .int 0, .int 0, .int 0])), (q2, .inl (kA 2, 6, .inr (.inl (fun _ => 0)))), (q3, .inl (kA 1, 6, .inl (fun _ => 0)))]) h iw_X5 tyX5 tyX5_ok nmX5 0 rfl rfl 1 (by decide) tw_177 rfl hnm rfl rfl rfl (Nat.le_of_ble_eq_true rfl) dX5_init_17 rfl ?_
  refine j_aload_n h 0 rfl rfl dX5_init_20 ?_
  refine j_bipush (v := 6) h (by decide) dX5_init_21 ?_
  refine j_newa (atype := .int) (a0 := (6, .inl (fun _ => 0))) h tw_264 rfl 1 rfl (fun _ => rfl) (by decide) (by decide) (by decide) (Nat.le_of_ble_eq_true rfl) (Nat.le_of_ble_eq_true rfl) dX5_init_23 (fun q4 => ?_)
  show J x [(h0, .inr (5, [.ref q2, .ref q3, .null, .null, .null, .null, .null, .null, .null, .null, .null, .null, .int 0, .int 0, .int 0])), (q2, .inl (kA 2, 6, .inr (.inl (fun _ => 0)))), (q3, .inl (kA 1, 6, .inl (fun _ => 0))), (q4, .inl (kA 1, 6, .inl (fun _ => 0)))] [(0, .ref h0)] 3 18 25 [.ref q4, .ref h0]
  refine j_putF (ws' := [(h0, .inr (5, [.ref q2, .ref q3, .ref q4, .null, .null, .null, .null, .null, .null, .null, .null, .null, .int 0, .int 0, .int 0])), (q2, .inl (kA 2, 6, .inr (.inl (fun _ => 0)))), (q3, .inl (kA 1, 6, .inl (fun _ => 0))), (q4, .inl (kA 1, 6, .inl (fun _ => 0)))]) h iw_X5 tyX5 tyX5_ok nmX5 0 rfl rfl 2 (by decide) tw_182 rfl hnm rfl rfl rfl (Nat.le_of_ble_eq_true rfl) dX5_init_25 rfl ?_
  refine j_aload_n h 0 rfl rfl dX5_init_28 ?_
  refine j_bipush (v := 6) h (by decide) dX5_init_29 ?_
  refine j_newa (atype := .int) (a0 := (6, .inl (fun _ => 0))) h tw_264 rfl 1 rfl (fun _ => rfl) (by decide) (by decide) (by decide) (Nat.le_of_ble_eq_true rfl) (Nat.le_of_ble_eq_true rfl) dX5_init_31 (fun q5 => ?_)
  show J x [(h0, .inr (5, [.ref q2, .ref q3, .ref q4, .null, .null, .null, .null, .null, .null, .null, .null, .null, .int 0, .int 0, .int 0])), (q2, .inl (kA 2, 6, .inr (.inl (fun _ => 0)))), (q3, .inl (kA 1, 6, .inl (fun _ => 0))), (q4, .inl (kA 1, 6, .inl (fun _ => 0))), (q5, .inl (kA 1, 6, .inl (fun _ => 0)))] [(0, .ref h0)] 4 24 33 [.ref q5, .ref h0]
  refine j_putF (ws' := [(h0, .inr (5, [.ref q2, .ref q3, .ref q4, .ref q5, .null, .null, .null, .null, .null, .null, .null, .null, .int 0, .int 0, .int 0])), (q2, .inl (kA 2, 6, .inr (.inl (fun _ => 0)))), (q3, .inl (kA 1, 6, .inl (fun _ => 0))), (q4, .inl (kA 1, 6, .inl (fun _ => 0))), (q5, .inl (kA 1, 6, .inl (fun _ => 0)))]) h iw_X5 tyX5 tyX5_ok nmX5 0 rfl rfl 3 (by decide) tw_185 rfl hnm rfl rfl rfl (Nat.le_of_ble_eq_true rfl) dX5_init_33 rfl ?_
  refine j_aload_n h 0 rfl rfl dX5_init_36 ?_
  refine j_bipush (v := 10) h (by decide) dX5_init_37 ?_
  refine j_newa (atype := .long) (a0 := (10, .inr (.inl (fun _ => 0)))) h tw_263 rfl 2 rfl (fun _ => rfl) (by decide) (by decide) (by decide) (Nat.le_of_ble_eq_true rfl) (Nat.le_of_ble_eq_true rfl) dX5_init_39 (fun q6 => ?_)
  show J x [(h0, .inr (5, [.ref q2, .ref q3, .ref q4, .ref q5, .null, .null, .null, .null, .null, .null, .null, .null, .int 0, .int 0, .int 0])), (q2, .inl (kA 2, 6, .inr (.inl (fun _ => 0)))), (q3, .inl (kA 1, 6, .inl (fun _ => 0))), (q4, .inl (kA 1, 6, .inl (fun _ => 0))), (q5, .inl (kA 1, 6, .inl (fun _ => 0))), (q6, .inl (kA 2, 10, .inr (.inl (fun _ => 0))))] [(0, .ref h0)] 5 34 41 [.ref q6, .ref h0]
  refine j_putF (ws' := [(h0, .inr (5, [.ref q2, .ref q3, .ref q4, .ref q5, .ref q6, .null, .null, .null, .null, .null, .null, .null, .int 0, .int 0, .int 0])), (q2, .inl (kA 2, 6, .inr (.inl (fun _ => 0)))), (q3, .inl (kA 1, 6, .inl (fun _ => 0))), (q4, .inl (kA 1, 6, .inl (fun _ => 0))), (q5, .inl (kA 1, 6, .inl (fun _ => 0))), (q6, .inl (kA 2, 10, .inr (.inl (fun _ => 0))))]) h iw_X5 tyX5 tyX5_ok nmX5 0 rfl rfl 4 (by decide) tw_189 rfl hnm rfl rfl rfl (Nat.le_of_ble_eq_true rfl) dX5_init_41 rfl ?_
  refine j_aload_n h 0 rfl rfl dX5_init_44 ?_
  refine j_bipush (v := 10) h (by decide) dX5_init_45 ?_
  refine j_newa (atype := .int) (a0 := (10, .inl (fun _ => 0))) h tw_264 rfl 1 rfl (fun _ => rfl) (by decide) (by decide) (by decide) (Nat.le_of_ble_eq_true rfl) (Nat.le_of_ble_eq_true rfl) dX5_init_47 (fun q7 => ?_)
  show J x [(h0, .inr (5, [.ref q2, .ref q3, .ref q4, .ref q5, .ref q6, .null, .null, .null, .null, .null, .null, .null, .int 0, .int 0, .int 0])), (q2, .inl (kA 2, 6, .inr (.inl (fun _ => 0)))), (q3, .inl (kA 1, 6, .inl (fun _ => 0))), (q4, .inl (kA 1, 6, .inl (fun _ => 0))), (q5, .inl (kA 1, 6, .inl (fun _ => 0))), (q6, .inl (kA 2, 10, .inr (.inl (fun _ => 0)))), (q7, .inl (kA 1, 10, .inl (fun _ => 0)))] [(0, .ref h0)] 6 44 49 [.ref q7, .ref h0]
  refine j_putF (ws' := [(h0, .inr (5, [.ref q2, .ref q3, .ref q4, .ref q5, .ref q6, .ref q7, .null, .null, .null, .null, .null, .null, .int 0, .int 0, .int 0])), (q2, .inl (kA 2, 6, .inr (.inl (fun _ => 0)))), (q3, .inl (kA 1, 6, .inl (fun _ => 0))), (q4, .inl (kA 1, 6, .inl (fun _ => 0))), (q5, .inl (kA 1, 6, .inl (fun _ => 0))), (q6, .inl (kA 2, 10, .inr (.inl (fun _ => 0)))), (q7, .inl (kA 1, 10, .inl (fun _ => 0)))]) h iw_X5 tyX5 tyX5_ok nmX5 0 rfl rfl 5 (by decide) tw_191 rfl hnm rfl rfl rfl (Nat.le_of_ble_eq_true rfl) dX5_init_49 rfl ?_
  refine j_aload_n h 0 rfl rfl dX5_init_52 ?_
  refine j_bipush (v := 10) h (by decide) dX5_init_53 ?_
  refine j_iconst (v := 5) h (by decide) dX5_init_55 ?_
  refine j_multi (ty := .int) (cO := kA 6) (cy := kA 1) (N' := 10) (K' := 5) (z := (5, .inl (fun _ => 0))) h tw_173 h.nw.2.2.2.1 tw_264 (h.kk.2 6 _ rfl).2 (h.kk.2 1 _ rfl).2 (by decide) (by decide) (by decide) (by decide) (by decide) rfl (Nat.le_of_ble_eq_true rfl) (Nat.le_of_ble_eq_true rfl) (fun _ => rfl) dX5_init_56 (fun q8 => ?_)
  refine j_sub [0, 1, 2, 3, 4, 5, 6, 7] (ws' := [(h0, .inr (5, [.ref q2, .ref q3, .ref q4, .ref q5, .ref q6, .ref q7, .null, .null, .null, .null, .null, .null, .int 0, .int 0, .int 0])), (q2, .inl (kA 2, 6, .inr (.inl (fun _ => 0)))), (q3, .inl (kA 1, 6, .inl (fun _ => 0))), (q4, .inl (kA 1, 6, .inl (fun _ => 0))), (q5, .inl (kA 1, 6, .inl (fun _ => 0))), (q6, .inl (kA 2, 10, .inr (.inl (fun _ => 0)))), (q7, .inl (kA 1, 10, .inl (fun _ => 0))), (q8, .inl (kA 6, 10, .inr (.inr (.inr (.inr (nx_q q8 10))))))]) rfl rfl (by decide) [0] (lv' := [(0, .ref h0)]) rfl ?_
  show J x [(h0, .inr (5, [.ref q2, .ref q3, .ref q4, .ref q5, .ref q6, .ref q7, .null, .null, .null, .null, .null, .null, .int 0, .int 0, .int 0])), (q2, .inl (kA 2, 6, .inr (.inl (fun _ => 0)))), (q3, .inl (kA 1, 6, .inl (fun _ => 0))), (q4, .inl (kA 1, 6, .inl (fun _ => 0))), (q5, .inl (kA 1, 6, .inl (fun _ => 0))), (q6, .inl (kA 2, 10, .inr (.inl (fun _ => 0)))), (q7, .inl (kA 1, 10, .inl (fun _ => 0))), (q8, .inl (kA 6, 10, .inr (.inr (.inr (.inr (nx_q q8 10))))))] [(0, .ref h0)] 17 104 60 [.ref q8, .ref h0]
  refine j_putF (ws' := [(h0, .inr (5, [.ref q2, .ref q3, .ref q4, .ref q5, .ref q6, .ref q7, .ref q8, .null, .null, .null, .null, .null, .int 0, .int 0, .int 0])), (q2, .inl (kA 2, 6, .inr (.inl (fun _ => 0)))), (q3, .inl (kA 1, 6, .inl (fun _ => 0))), (q4, .inl (kA 1, 6, .inl (fun _ => 0))), (q5, .inl (kA 1, 6, .inl (fun _ => 0))), (q6, .inl (kA 2, 10, .inr (.inl (fun _ => 0)))), (q7, .inl (kA 1, 10, .inl (fun _ => 0))), (q8, .inl (kA 6, 10, .inr (.inr (.inr (.inr (nx_q q8 10))))))]) h iw_X5 tyX5 tyX5_ok nmX5 0 rfl rfl 6 (by decide) tw_195 rfl hnm rfl rfl rfl (Nat.le_of_ble_eq_true rfl) dX5_init_60 rfl ?_
  refine j_aload_n h 0 rfl rfl dX5_init_63 ?_
  refine j_bipush (v := 10) h (by decide) dX5_init_64 ?_
  refine j_newa (atype := .int) (a0 := (10, .inl (fun _ => 0))) h tw_264 rfl 1 rfl (fun _ => rfl) (by decide) (by decide) (by decide) (Nat.le_of_ble_eq_true rfl) (Nat.le_of_ble_eq_true rfl) dX5_init_66 (fun q9 => ?_)
  show J x [(h0, .inr (5, [.ref q2, .ref q3, .ref q4, .ref q5, .ref q6, .ref q7, .ref q8, .null, .null, .null, .null, .null, .int 0, .int 0, .int 0])), (q2, .inl (kA 2, 6, .inr (.inl (fun _ => 0)))), (q3, .inl (kA 1, 6, .inl (fun _ => 0))), (q4, .inl (kA 1, 6, .inl (fun _ => 0))), (q5, .inl (kA 1, 6, .inl (fun _ => 0))), (q6, .inl (kA 2, 10, .inr (.inl (fun _ => 0)))), (q7, .inl (kA 1, 10, .inl (fun _ => 0))), (q8, .inl (kA 6, 10, .inr (.inr (.inr (.inr (nx_q q8 10)))))), (q9, .inl (kA 1, 10, .inl (fun _ => 0)))] [(0, .ref h0)] 18 114 68 [.ref q9, .ref h0]
  refine j_putF (ws' := [(h0, .inr (5, [.ref q2, .ref q3, .ref q4, .ref q5, .ref q6, .ref q7, .ref q8, .ref q9, .null, .null, .null, .null, .int 0, .int 0, .int 0])), (q2, .inl (kA 2, 6, .inr (.inl (fun _ => 0)))), (q3, .inl (kA 1, 6, .inl (fun _ => 0))), (q4, .inl (kA 1, 6, .inl (fun _ => 0))), (q5, .inl (kA 1, 6, .inl (fun _ => 0))), (q6, .inl (kA 2, 10, .inr (.inl (fun _ => 0)))), (q7, .inl (kA 1, 10, .inl (fun _ => 0))), (q8, .inl (kA 6, 10, .inr (.inr (.inr (.inr (nx_q q8 10)))))), (q9, .inl (kA 1, 10, .inl (fun _ => 0)))]) h iw_X5 tyX5 tyX5_ok nmX5 0 rfl rfl 7 (by decide) tw_199 rfl hnm rfl rfl rfl (Nat.le_of_ble_eq_true rfl) dX5_init_68 rfl ?_
  refine j_aload_n h 0 rfl rfl dX5_init_71 ?_
  refine j_bipush (v := 10) h (by decide) dX5_init_72 ?_
  refine j_iconst (v := 2) h (by decide) dX5_init_74 ?_
  refine j_multi (ty := .int) (cO := kA 6) (cy := kA 1) (N' := 10) (K' := 2) (z := (2, .inl (fun _ => 0))) h tw_173 h.nw.2.2.2.1 tw_264 (h.kk.2 6 _ rfl).2 (h.kk.2 1 _ rfl).2 (by decide) (by decide) (by decide) (by decide) (by decide) rfl (Nat.le_of_ble_eq_true rfl) (Nat.le_of_ble_eq_true rfl) (fun _ => rfl) dX5_init_75 (fun q10 => ?_)
  refine j_sub [0, 1, 2, 3, 4, 5, 6, 7, 8, 9] (ws' := [(h0, .inr (5, [.ref q2, .ref q3, .ref q4, .ref q5, .ref q6, .ref q7, .ref q8, .ref q9, .null, .null, .null, .null, .int 0, .int 0, .int 0])), (q2, .inl (kA 2, 6, .inr (.inl (fun _ => 0)))), (q3, .inl (kA 1, 6, .inl (fun _ => 0))), (q4, .inl (kA 1, 6, .inl (fun _ => 0))), (q5, .inl (kA 1, 6, .inl (fun _ => 0))), (q6, .inl (kA 2, 10, .inr (.inl (fun _ => 0)))), (q7, .inl (kA 1, 10, .inl (fun _ => 0))), (q8, .inl (kA 6, 10, .inr (.inr (.inr (.inr (nx_q q8 10)))))), (q9, .inl (kA 1, 10, .inl (fun _ => 0))), (q10, .inl (kA 6, 10, .inr (.inr (.inr (.inr (nx_q q10 10))))))]) rfl rfl (by decide) [0] (lv' := [(0, .ref h0)]) rfl ?_
  show J x [(h0, .inr (5, [.ref q2, .ref q3, .ref q4, .ref q5, .ref q6, .ref q7, .ref q8, .ref q9, .null, .null, .null, .null, .int 0, .int 0, .int 0])), (q2, .inl (kA 2, 6, .inr (.inl (fun _ => 0)))), (q3, .inl (kA 1, 6, .inl (fun _ => 0))), (q4, .inl (kA 1, 6, .inl (fun _ => 0))), (q5, .inl (kA 1, 6, .inl (fun _ => 0))), (q6, .inl (kA 2, 10, .inr (.inl (fun _ => 0)))), (q7, .inl (kA 1, 10, .inl (fun _ => 0))), (q8, .inl (kA 6, 10, .inr (.inr (.inr (.inr (nx_q q8 10)))))), (q9, .inl (kA 1, 10, .inl (fun _ => 0))), (q10, .inl (kA 6, 10, .inr (.inr (.inr (.inr (nx_q q10 10))))))] [(0, .ref h0)] 29 144 79 [.ref q10, .ref h0]
  refine j_putF (ws' := [(h0, .inr (5, [.ref q2, .ref q3, .ref q4, .ref q5, .ref q6, .ref q7, .ref q8, .ref q9, .ref q10, .null, .null, .null, .int 0, .int 0, .int 0])), (q2, .inl (kA 2, 6, .inr (.inl (fun _ => 0)))), (q3, .inl (kA 1, 6, .inl (fun _ => 0))), (q4, .inl (kA 1, 6, .inl (fun _ => 0))), (q5, .inl (kA 1, 6, .inl (fun _ => 0))), (q6, .inl (kA 2, 10, .inr (.inl (fun _ => 0)))), (q7, .inl (kA 1, 10, .inl (fun _ => 0))), (q8, .inl (kA 6, 10, .inr (.inr (.inr (.inr (nx_q q8 10)))))), (q9, .inl (kA 1, 10, .inl (fun _ => 0))), (q10, .inl (kA 6, 10, .inr (.inr (.inr (.inr (nx_q q10 10))))))]) h iw_X5 tyX5 tyX5_ok nmX5 0 rfl rfl 8 (by decide) tw_204 rfl hnm rfl rfl rfl (Nat.le_of_ble_eq_true rfl) dX5_init_79 rfl ?_
  refine j_aload_n h 0 rfl rfl dX5_init_82 ?_
  refine j_iconst (v := 4) h (by decide) dX5_init_83 ?_
  refine j_newa (atype := .long) (a0 := (4, .inr (.inl (fun _ => 0)))) h tw_263 rfl 2 rfl (fun _ => rfl) (by decide) (by decide) (by decide) (Nat.le_of_ble_eq_true rfl) (Nat.le_of_ble_eq_true rfl) dX5_init_84 (fun q11 => ?_)
  show J x [(h0, .inr (5, [.ref q2, .ref q3, .ref q4, .ref q5, .ref q6, .ref q7, .ref q8, .ref q9, .ref q10, .null, .null, .null, .int 0, .int 0, .int 0])), (q2, .inl (kA 2, 6, .inr (.inl (fun _ => 0)))), (q3, .inl (kA 1, 6, .inl (fun _ => 0))), (q4, .inl (kA 1, 6, .inl (fun _ => 0))), (q5, .inl (kA 1, 6, .inl (fun _ => 0))), (q6, .inl (kA 2, 10, .inr (.inl (fun _ => 0)))), (q7, .inl (kA 1, 10, .inl (fun _ => 0))), (q8, .inl (kA 6, 10, .inr (.inr (.inr (.inr (nx_q q8 10)))))), (q9, .inl (kA 1, 10, .inl (fun _ => 0))), (q10, .inl (kA 6, 10, .inr (.inr (.inr (.inr (nx_q q10 10)))))), (q11, .inl (kA 2, 4, .inr (.inl (fun _ => 0))))] [(0, .ref h0)] 30 148 86 [.ref q11, .ref h0]
  refine j_putF (ws' := [(h0, .inr (5, [.ref q2, .ref q3, .ref q4, .ref q5, .ref q6, .ref q7, .ref q8, .ref q9, .ref q10, .ref q11, .null, .null, .int 0, .int 0, .int 0])), (q2, .inl (kA 2, 6, .inr (.inl (fun _ => 0)))), (q3, .inl (kA 1, 6, .inl (fun _ => 0))), (q4, .inl (kA 1, 6, .inl (fun _ => 0))), (q5, .inl (kA 1, 6, .inl (fun _ => 0))), (q6, .inl (kA 2, 10, .inr (.inl (fun _ => 0)))), (q7, .inl (kA 1, 10, .inl (fun _ => 0))), (q8, .inl (kA 6, 10, .inr (.inr (.inr (.inr (nx_q q8 10)))))), (q9, .inl (kA 1, 10, .inl (fun _ => 0))), (q10, .inl (kA 6, 10, .inr (.inr (.inr (.inr (nx_q q10 10)))))), (q11, .inl (kA 2, 4, .inr (.inl (fun _ => 0))))]) h iw_X5 tyX5 tyX5_ok nmX5 0 rfl rfl 9 (by decide) tw_209 rfl hnm rfl rfl rfl (Nat.le_of_ble_eq_true rfl) dX5_init_86 rfl ?_
  refine j_aload_n h 0 rfl rfl dX5_init_89 ?_
  refine j_iconst (v := 4) h (by decide) dX5_init_90 ?_
  refine j_newa (atype := .int) (a0 := (4, .inl (fun _ => 0))) h tw_264 rfl 1 rfl (fun _ => rfl) (by decide) (by decide) (by decide) (Nat.le_of_ble_eq_true rfl) (Nat.le_of_ble_eq_true rfl) dX5_init_91 (fun q12 => ?_)
  show J x [(h0, .inr (5, [.ref q2, .ref q3, .ref q4, .ref q5, .ref q6, .ref q7, .ref q8, .ref q9, .ref q10, .ref q11, .null, .null, .int 0, .int 0, .int 0])), (q2, .inl (kA 2, 6, .inr (.inl (fun _ => 0)))), (q3, .inl (kA 1, 6, .inl (fun _ => 0))), (q4, .inl (kA 1, 6, .inl (fun _ => 0))), (q5, .inl (kA 1, 6, .inl (fun _ => 0))), (q6, .inl (kA 2, 10, .inr (.inl (fun _ => 0)))), (q7, .inl (kA 1, 10, .inl (fun _ => 0))), (q8, .inl (kA 6, 10, .inr (.inr (.inr (.inr (nx_q q8 10)))))), (q9, .inl (kA 1, 10, .inl (fun _ => 0))), (q10, .inl (kA 6, 10, .inr (.inr (.inr (.inr (nx_q q10 10)))))), (q11, .inl (kA 2, 4, .inr (.inl (fun _ => 0)))), (q12, .inl (kA 1, 4, .inl (fun _ => 0)))] [(0, .ref h0)] 31 152 93 [.ref q12, .ref h0]
  refine j_putF (ws' := [(h0, .inr (5, [.ref q2, .ref q3, .ref q4, .ref q5, .ref q6, .ref q7, .ref q8, .ref q9, .ref q10, .ref q11, .ref q12, .null, .int 0, .int 0, .int 0])), (q2, .inl (kA 2, 6, .inr (.inl (fun _ => 0)))), (q3, .inl (kA 1, 6, .inl (fun _ => 0))), (q4, .inl (kA 1, 6, .inl (fun _ => 0))), (q5, .inl (kA 1, 6, .inl (fun _ => 0))), (q6, .inl (kA 2, 10, .inr (.inl (fun _ => 0)))), (q7, .inl (kA 1, 10, .inl (fun _ => 0))), (q8, .inl (kA 6, 10, .inr (.inr (.inr (.inr (nx_q q8 10)))))), (q9, .inl (kA 1, 10, .inl (fun _ => 0))), (q10, .inl (kA 6, 10, .inr (.inr (.inr (.inr (nx_q q10 10)))))), (q11, .inl (kA 2, 4, .inr (.inl (fun _ => 0)))), (q12, .inl (kA 1, 4, .inl (fun _ => 0)))]) h iw_X5 tyX5 tyX5_ok nmX5 0 rfl rfl 10 (by decide) tw_211 rfl hnm rfl rfl rfl (Nat.le_of_ble_eq_true rfl) dX5_init_93 rfl ?_
  refine j_aload_n h 0 rfl rfl dX5_init_96 ?_
  refine j_iconst (v := 4) h (by decide) dX5_init_97 ?_
  refine j_newa (atype := .int) (a0 := (4, .inl (fun _ => 0))) h tw_264 rfl 1 rfl (fun _ => rfl) (by decide) (by decide) (by decide) (Nat.le_of_ble_eq_true rfl) (Nat.le_of_ble_eq_true rfl) dX5_init_98 (fun q13 => ?_)
  show J x [(h0, .inr (5, [.ref q2, .ref q3, .ref q4, .ref q5, .ref q6, .ref q7, .ref q8, .ref q9, .ref q10, .ref q11, .ref q12, .null, .int 0, .int 0, .int 0])), (q2, .inl (kA 2, 6, .inr (.inl (fun _ => 0)))), (q3, .inl (kA 1, 6, .inl (fun _ => 0))), (q4, .inl (kA 1, 6, .inl (fun _ => 0))), (q5, .inl (kA 1, 6, .inl (fun _ => 0))), (q6, .inl (kA 2, 10, .inr (.inl (fun _ => 0)))), (q7, .inl (kA 1, 10, .inl (fun _ => 0))), (q8, .inl (kA 6, 10, .inr (.inr (.inr (.inr (nx_q q8 10)))))), (q9, .inl (kA 1, 10, .inl (fun _ => 0))), (q10, .inl (kA 6, 10, .inr (.inr (.inr (.inr (nx_q q10 10)))))), (q11, .inl (kA 2, 4, .inr (.inl (fun _ => 0)))), (q12, .inl (kA 1, 4, .inl (fun _ => 0))), (q13, .inl (kA 1, 4, .inl (fun _ => 0)))] [(0, .ref h0)] 32 156 100 [.ref q13, .ref h0]
  refine j_putF (ws' := [(h0, .inr (5, [.ref q2, .ref q3, .ref q4, .ref q5, .ref q6, .ref q7, .ref q8, .ref q9, .ref q10, .ref q11, .ref q12, .ref q13, .int 0, .int 0, .int 0])), (q2, .inl (kA 2, 6, .inr (.inl (fun _ => 0)))), (q3, .inl (kA 1, 6, .inl (fun _ => 0))), (q4, .inl (kA 1, 6, .inl (fun _ => 0))), (q5, .inl (kA 1, 6, .inl (fun _ => 0))), (q6, .inl (kA 2, 10, .inr (.inl (fun _ => 0)))), (q7, .inl (kA 1, 10, .inl (fun _ => 0))), (q8, .inl (kA 6, 10, .inr (.inr (.inr (.inr (nx_q q8 10)))))), (q9, .inl (kA 1, 10, .inl (fun _ => 0))), (q10, .inl (kA 6, 10, .inr (.inr (.inr (.inr (nx_q q10 10)))))), (q11, .inl (kA 2, 4, .inr (.inl (fun _ => 0)))), (q12, .inl (kA 1, 4, .inl (fun _ => 0))), (q13, .inl (kA 1, 4, .inl (fun _ => 0)))]) h iw_X5 tyX5 tyX5_ok nmX5 0 rfl rfl 11 (by decide) tw_213 rfl hnm rfl rfl rfl (Nat.le_of_ble_eq_true rfl) dX5_init_100 rfl ?_
  exact j_vret h hq dX5_init_103 (q2, q3, q4, q5, q6, q7, q8, q9, q10, q11, q12, q13) [0, 3] rfl rfl (by decide) trivial (Nat.le_of_ble_eq_true rfl) (Nat.le_of_ble_eq_true rfl)
set_option maxHeartbeats 4000000 in
set_option maxRecDepth 100000 in
theorem c_X2_init (l : Launch) (g : va_G) (kA : Nat → ClassId) (h0 : Nat)  : CtV l yX2_init cX2_init 1 (none) 1 2 66 g kA [.ref h0] [(h0, .inr (2, [.null, .null, .int 0, .int 0, .int 0, .int 0]))] (S := Nat × Nat) (fun ((a0, a1) : Nat × Nat) => True) (fun ((a0, a1) : Nat × Nat) => [(h0, .inr (2, [.ref a0, .ref a1, .int 0, .int 0, .int 0, .int 0])), (a0, .inl (kA 1, 60, .inl (fun _ => 0))), (a1, .inl (kA 1, 6, .inl (fun _ => 0)))]) := by
  refine nx_startV (by decide +kernel) (Nat.le_of_ble_eq_true rfl) ?_
  intro x hnm h hq
  have h : Ok x cX2_init RX2 kA (rmC 1 2 66) 1 := h
  show J x [(h0, .inr (2, [.null, .null, .int 0, .int 0, .int 0, .int 0]))] [(0, .ref h0)] 0 0 0 []
  refine j_aload_n h 0 rfl rfl dX2_init_0 ?_
  refine j_objInit h tw_270 tw_113 tw_114 (Nat.le_of_ble_eq_true rfl) (Nat.le_of_ble_eq_true rfl) (Nat.le_of_ble_eq_true rfl) dX2_init_1 ?_
  refine j_aload_n h 0 rfl rfl dX2_init_4 ?_
  refine j_bipush (v := 60) h (by decide) dX2_init_5 ?_
  refine j_newa (atype := .int) (a0 := (60, .inl (fun _ => 0))) h tw_264 rfl 1 rfl (fun _ => rfl) (by decide) (by decide) (by decide) (Nat.le_of_ble_eq_true rfl) (Nat.le_of_ble_eq_true rfl) dX2_init_7 (fun q14 => ?_)
  show J x [(h0, .inr (2, [.null, .null, .int 0, .int 0, .int 0, .int 0])), (q14, .inl (kA 1, 60, .inl (fun _ => 0)))] [(0, .ref h0)] 1 60 9 [.ref q14, .ref h0]
  refine j_putF (ws' := [(h0, .inr (2, [.ref q14, .null, .int 0, .int 0, .int 0, .int 0])), (q14, .inl (kA 1, 60, .inl (fun _ => 0)))]) h iw_X2 tyX2 tyX2_ok nmX2 0 rfl rfl 0 (by decide) tw_271 rfl hnm rfl rfl rfl (Nat.le_of_ble_eq_true rfl) dX2_init_9 rfl ?_
  refine j_aload_n h 0 rfl rfl dX2_init_12 ?_
  refine j_bipush (v := 6) h (by decide) dX2_init_13 ?_
  refine j_newa (atype := .int) (a0 := (6, .inl (fun _ => 0))) h tw_264 rfl 1 rfl (fun _ => rfl) (by decide) (by decide) (by decide) (Nat.le_of_ble_eq_true rfl) (Nat.le_of_ble_eq_true rfl) dX2_init_15 (fun q15 => ?_)
  show J x [(h0, .inr (2, [.ref q14, .null, .int 0, .int 0, .int 0, .int 0])), (q14, .inl (kA 1, 60, .inl (fun _ => 0))), (q15, .inl (kA 1, 6, .inl (fun _ => 0)))] [(0, .ref h0)] 2 66 17 [.ref q15, .ref h0]
  refine j_putF (ws' := [(h0, .inr (2, [.ref q14, .ref q15, .int 0, .int 0, .int 0, .int 0])), (q14, .inl (kA 1, 60, .inl (fun _ => 0))), (q15, .inl (kA 1, 6, .inl (fun _ => 0)))]) h iw_X2 tyX2 tyX2_ok nmX2 0 rfl rfl 1 (by decide) tw_272 rfl hnm rfl rfl rfl (Nat.le_of_ble_eq_true rfl) dX2_init_17 rfl ?_
  exact j_vret h hq dX2_init_20 (q14, q15) [0, 1, 2] rfl rfl (by decide) trivial (Nat.le_of_ble_eq_true rfl) (Nat.le_of_ble_eq_true rfl)
set_option maxHeartbeats 4000000 in
set_option maxRecDepth 100000 in
theorem c_X10_init (l : Launch) (g : va_G) (kA : Nat → ClassId) (h0 : Nat)  : CtV l yX10_init cX10_init 1 (none) 1 1 60 g kA [.ref h0] [(h0, .inr (10, [.null, .int 0, .int 0, .int 0]))] (S := Nat) (fun (a0 : Nat) => True) (fun (a0 : Nat) => [(h0, .inr (10, [.ref a0, .int 0, .int 0, .int 0]))]) := by
  refine nx_startV (by decide +kernel) (Nat.le_of_ble_eq_true rfl) ?_
  intro x hnm h hq
  have h : Ok x cX10_init RX10 kA (rmC 1 1 60) 1 := h
  show J x [(h0, .inr (10, [.null, .int 0, .int 0, .int 0]))] [(0, .ref h0)] 0 0 0 []
  refine j_aload_n h 0 rfl rfl dX10_init_0 ?_
  refine j_objInit h tw_301 tw_113 tw_114 (Nat.le_of_ble_eq_true rfl) (Nat.le_of_ble_eq_true rfl) (Nat.le_of_ble_eq_true rfl) dX10_init_1 ?_
  refine j_aload_n h 0 rfl rfl dX10_init_4 ?_
  refine j_bipush (v := 60) h (by decide) dX10_init_5 ?_
  refine j_newa (atype := .int) (a0 := (60, .inl (fun _ => 0))) h tw_264 rfl 1 rfl (fun _ => rfl) (by decide) (by decide) (by decide) (Nat.le_of_ble_eq_true rfl) (Nat.le_of_ble_eq_true rfl) dX10_init_7 (fun q16 => ?_)
  show J x [(h0, .inr (10, [.null, .int 0, .int 0, .int 0])), (q16, .inl (kA 1, 60, .inl (fun _ => 0)))] [(0, .ref h0)] 1 60 9 [.ref q16, .ref h0]
  refine j_putF (ws' := [(h0, .inr (10, [.ref q16, .int 0, .int 0, .int 0])), (q16, .inl (kA 1, 60, .inl (fun _ => 0)))]) h iw_X10 tyX10 tyX10_ok nmX10 0 rfl rfl 0 (by decide) tw_302 rfl hnm rfl rfl rfl (Nat.le_of_ble_eq_true rfl) dX10_init_9 rfl ?_
  exact j_vret h hq dX10_init_12 q16 [0] rfl rfl (by decide) trivial (Nat.le_of_ble_eq_true rfl) (Nat.le_of_ble_eq_true rfl)
set_option maxHeartbeats 4000000 in
set_option maxRecDepth 100000 in
theorem c_X8_init (l : Launch) (g : va_G) (kA : Nat → ClassId) (h0 : Nat)  : CtV l yX8_init cX8_init 1 (none) 1 6 180 g kA [.ref h0] [(h0, .inr (8, [.null, .null, .null, .null, .null, .null, .int 0]))] (S := Nat × Nat × Nat × Nat × Nat × Nat) (fun ((a0, a1, a2, a3, a4, a5) : Nat × Nat × Nat × Nat × Nat × Nat) => True) (fun ((a0, a1, a2, a3, a4, a5) : Nat × Nat × Nat × Nat × Nat × Nat) => [(h0, .inr (8, [.ref a0, .ref a1, .ref a2, .ref a3, .ref a4, .ref a5, .int 0]))]) := by
  refine nx_startV (by decide +kernel) (Nat.le_of_ble_eq_true rfl) ?_
  intro x hnm h hq
  have h : Ok x cX8_init RX8 kA (rmC 1 6 180) 1 := h
  show J x [(h0, .inr (8, [.null, .null, .null, .null, .null, .null, .int 0]))] [(0, .ref h0)] 0 0 0 []
  refine j_aload_n h 0 rfl rfl dX8_init_0 ?_
  refine j_objInit h tw_326 tw_113 tw_114 (Nat.le_of_ble_eq_true rfl) (Nat.le_of_ble_eq_true rfl) (Nat.le_of_ble_eq_true rfl) dX8_init_1 ?_
  refine j_aload_n h 0 rfl rfl dX8_init_4 ?_
  refine j_bipush (v := 30) h (by decide) dX8_init_5 ?_
  refine j_newa (atype := .int) (a0 := (30, .inl (fun _ => 0))) h tw_264 rfl 1 rfl (fun _ => rfl) (by decide) (by decide) (by decide) (Nat.le_of_ble_eq_true rfl) (Nat.le_of_ble_eq_true rfl) dX8_init_7 (fun q17 => ?_)
  show J x [(h0, .inr (8, [.null, .null, .null, .null, .null, .null, .int 0])), (q17, .inl (kA 1, 30, .inl (fun _ => 0)))] [(0, .ref h0)] 1 30 9 [.ref q17, .ref h0]
  refine j_putF (ws' := [(h0, .inr (8, [.ref q17, .null, .null, .null, .null, .null, .int 0])), (q17, .inl (kA 1, 30, .inl (fun _ => 0)))]) h iw_X8 tyX8 tyX8_ok nmX8 0 rfl rfl 0 (by decide) tw_327 rfl hnm rfl rfl rfl (Nat.le_of_ble_eq_true rfl) dX8_init_9 rfl ?_
  refine j_aload_n h 0 rfl rfl dX8_init_12 ?_
  refine j_bipush (v := 30) h (by decide) dX8_init_13 ?_
  refine j_newa (atype := .int) (a0 := (30, .inl (fun _ => 0))) h tw_264 rfl 1 rfl (fun _ => rfl) (by decide) (by decide) (by decide) (Nat.le_of_ble_eq_true rfl) (Nat.le_of_ble_eq_true rfl) dX8_init_15 (fun q18 => ?_)
  show J x [(h0, .inr (8, [.ref q17, .null, .null, .null, .null, .null, .int 0])), (q17, .inl (kA 1, 30, .inl (fun _ => 0))), (q18, .inl (kA 1, 30, .inl (fun _ => 0)))] [(0, .ref h0)] 2 60 17 [.ref q18, .ref h0]
  refine j_putF (ws' := [(h0, .inr (8, [.ref q17, .ref q18, .null, .null, .null, .null, .int 0])), (q17, .inl (kA 1, 30, .inl (fun _ => 0))), (q18, .inl (kA 1, 30, .inl (fun _ => 0)))]) h iw_X8 tyX8 tyX8_ok nmX8 0 rfl rfl 1 (by decide) tw_328 rfl hnm rfl rfl rfl (Nat.le_of_ble_eq_true rfl) dX8_init_17 rfl ?_
  refine j_aload_n h 0 rfl rfl dX8_init_20 ?_
  refine j_bipush (v := 30) h (by decide) dX8_init_21 ?_
  refine j_newa (atype := .int) (a0 := (30, .inl (fun _ => 0))) h tw_264 rfl 1 rfl (fun _ => rfl) (by decide) (by decide) (by decide) (Nat.le_of_ble_eq_true rfl) (Nat.le_of_ble_eq_true rfl) dX8_init_23 (fun q19 => ?_)
  show J x [(h0, .inr (8, [.ref q17, .ref q18, .null, .null, .null, .null, .int 0])), (q17, .inl (kA 1, 30, .inl (fun _ => 0))), (q18, .inl (kA 1, 30, .inl (fun _ => 0))), (q19, .inl (kA 1, 30, .inl (fun _ => 0)))] [(0, .ref h0)] 3 90 25 [.ref q19, .ref h0]
  refine j_putF (ws' := [(h0, .inr (8, [.ref q17, .ref q18, .ref q19, .null, .null, .null, .int 0])), (q17, .inl (kA 1, 30, .inl (fun _ => 0))), (q18, .inl (kA 1, 30, .inl (fun _ => 0))), (q19, .inl (kA 1, 30, .inl (fun _ => 0)))]) h iw_X8 tyX8 tyX8_ok nmX8 0 rfl rfl 2 (by decide) tw_329 rfl hnm rfl rfl rfl (Nat.le_of_ble_eq_true rfl) dX8_init_25 rfl ?_
  refine j_aload_n h 0 rfl rfl dX8_init_28 ?_
  refine j_bipush (v := 30) h (by decide) dX8_init_29 ?_
  refine j_newa (atype := .int) (a0 := (30, .inl (fun _ => 0))) h tw_264 rfl 1 rfl (fun _ => rfl) (by decide) (by decide) (by decide) (Nat.le_of_ble_eq_true rfl) (Nat.le_of_ble_eq_true rfl) dX8_init_31 (fun q20 => ?_)
  show J x [(h0, .inr (8, [.ref q17, .ref q18, .ref q19, .null, .null, .null, .int 0])), (q17, .inl (kA 1, 30, .inl (fun _ => 0))), (q18, .inl (kA 1, 30, .inl (fun _ => 0))), (q19, .inl (kA 1, 30, .inl (fun _ => 0))), (q20, .inl (kA 1, 30, .inl (fun _ => 0)))] [(0, .ref h0)] 4 120 33 [.ref q20, .ref h0]
  refine j_putF (ws' := [(h0, .inr (8, [.ref q17, .ref q18, .ref q19, .ref q20, .null, .null, .int 0])), (q17, .inl (kA 1, 30, .inl (fun _ => 0))), (q18, .inl (kA 1, 30, .inl (fun _ => 0))), (q19, .inl (kA 1, 30, .inl (fun _ => 0))), (q20, .inl (kA 1, 30, .inl (fun _ => 0)))]) h iw_X8 tyX8 tyX8_ok nmX8 0 rfl rfl 3 (by decide) tw_330 rfl hnm rfl rfl rfl (Nat.le_of_ble_eq_true rfl) dX8_init_33 rfl ?_
  refine j_aload_n h 0 rfl rfl dX8_init_36 ?_
  refine j_bipush (v := 30) h (by decide) dX8_init_37 ?_
  refine j_newa (atype := .int) (a0 := (30, .inl (fun _ => 0))) h tw_264 rfl 1 rfl (fun _ => rfl) (by decide) (by decide) (by decide) (Nat.le_of_ble_eq_true rfl) (Nat.le_of_ble_eq_true rfl) dX8_init_39 (fun q21 => ?_)
  show J x [(h0, .inr (8, [.ref q17, .ref q18, .ref q19, .ref q20, .null, .null, .int 0])), (q17, .inl (kA 1, 30, .inl (fun _ => 0))), (q18, .inl (kA 1, 30, .inl (fun _ => 0))), (q19, .inl (kA 1, 30, .inl (fun _ => 0))), (q20, .inl (kA 1, 30, .inl (fun _ => 0))), (q21, .inl (kA 1, 30, .inl (fun _ => 0)))] [(0, .ref h0)] 5 150 41 [.ref q21, .ref h0]
  refine j_putF (ws' := [(h0, .inr (8, [.ref q17, .ref q18, .ref q19, .ref q20, .ref q21, .null, .int 0])), (q17, .inl (kA 1, 30, .inl (fun _ => 0))), (q18, .inl (kA 1, 30, .inl (fun _ => 0))), (q19, .inl (kA 1, 30, .inl (fun _ => 0))), (q20, .inl (kA 1, 30, .inl (fun _ => 0))), (q21, .inl (kA 1, 30, .inl (fun _ => 0)))]) h iw_X8 tyX8 tyX8_ok nmX8 0 rfl rfl 4 (by decide) tw_331 rfl hnm rfl rfl rfl (Nat.le_of_ble_eq_true rfl) dX8_init_41 rfl ?_
  refine j_aload_n h 0 rfl rfl dX8_init_44 ?_
  refine j_bipush (v := 30) h (by decide) dX8_init_45 ?_
  refine j_newa (atype := .int) (a0 := (30, .inl (fun _ => 0))) h tw_264 rfl 1 rfl (fun _ => rfl) (by decide) (by decide) (by decide) (Nat.le_of_ble_eq_true rfl) (Nat.le_of_ble_eq_true rfl) dX8_init_47 (fun q22 => ?_)
  show J x [(h0, .inr (8, [.ref q17, .ref q18, .ref q19, .ref q20, .ref q21, .null, .int 0])), (q17, .inl (kA 1, 30, .inl (fun _ => 0))), (q18, .inl (kA 1, 30, .inl (fun _ => 0))), (q19, .inl (kA 1, 30, .inl (fun _ => 0))), (q20, .inl (kA 1, 30, .inl (fun _ => 0))), (q21, .inl (kA 1, 30, .inl (fun _ => 0))), (q22, .inl (kA 1, 30, .inl (fun _ => 0)))] [(0, .ref h0)] 6 180 49 [.ref q22, .ref h0]
  refine j_putF (ws' := [(h0, .inr (8, [.ref q17, .ref q18, .ref q19, .ref q20, .ref q21, .ref q22, .int 0])), (q17, .inl (kA 1, 30, .inl (fun _ => 0))), (q18, .inl (kA 1, 30, .inl (fun _ => 0))), (q19, .inl (kA 1, 30, .inl (fun _ => 0))), (q20, .inl (kA 1, 30, .inl (fun _ => 0))), (q21, .inl (kA 1, 30, .inl (fun _ => 0))), (q22, .inl (kA 1, 30, .inl (fun _ => 0)))]) h iw_X8 tyX8 tyX8_ok nmX8 0 rfl rfl 5 (by decide) tw_332 rfl hnm rfl rfl rfl (Nat.le_of_ble_eq_true rfl) dX8_init_49 rfl ?_
  exact j_vret h hq dX8_init_52 (q17, q18, q19, q20, q21, q22) [0] rfl rfl (by decide) trivial (Nat.le_of_ble_eq_true rfl) (Nat.le_of_ble_eq_true rfl)
set_option maxHeartbeats 4000000 in
set_option maxRecDepth 100000 in
theorem c_X0_init (l : Launch) (g : va_G) (kA : Nat → ClassId) (h0 : Nat)  : CtV l yX0_init cX0_init 1 (none) 1 11 492 g kA [.ref h0] [(h0, .inr (0, [.null, .null, .null]))] (S := Nat × Nat × Nat) (fun ((a0, a1, a2) : Nat × Nat × Nat) => True) (fun ((a0, a1, a2) : Nat × Nat × Nat) => [(h0, .inr (0, [.ref a0, .ref a1, .ref a2])), (a2, .inl (kA 3, 4, .inl (fun _ => 0)))]) := by
  refine nx_startV (by decide +kernel) (Nat.le_of_ble_eq_true rfl) ?_
  intro x hnm h hq
  have h : Ok x cX0_init RX0 kA (rmC 1 11 492) 1 := h
  show J x [(h0, .inr (0, [.null, .null, .null]))] [(0, .ref h0)] 0 0 0 []
  refine j_aload_n h 0 rfl rfl dX0_init_0 ?_
  refine j_objInit h tw_355 tw_113 tw_114 (Nat.le_of_ble_eq_true rfl) (Nat.le_of_ble_eq_true rfl) (Nat.le_of_ble_eq_true rfl) dX0_init_1 ?_
  refine j_aload_n h 0 rfl rfl dX0_init_4 ?_
  refine j_iconst (v := 4) h (by decide) dX0_init_5 ?_
  refine j_bipush (v := 60) h (by decide) dX0_init_6 ?_
  refine j_multi (ty := .int) (cO := kA 6) (cy := kA 1) (N' := 4) (K' := 60) (z := (60, .inl (fun _ => 0))) h tw_356 h.nw.2.2.2.1 tw_264 (h.kk.2 6 _ rfl).2 (h.kk.2 1 _ rfl).2 (by decide) (by decide) (by decide) (by decide) (by decide) rfl (Nat.le_of_ble_eq_true rfl) (Nat.le_of_ble_eq_true rfl) (fun _ => rfl) dX0_init_8 (fun q23 => ?_)
  refine j_sub [0, 1] (ws' := [(h0, .inr (0, [.null, .null, .null])), (q23, .inl (kA 6, 4, .inr (.inr (.inr (.inr (nx_q q23 4))))))]) rfl rfl (by decide) [0] (lv' := [(0, .ref h0)]) rfl ?_
  show J x [(h0, .inr (0, [.null, .null, .null])), (q23, .inl (kA 6, 4, .inr (.inr (.inr (.inr (nx_q q23 4))))))] [(0, .ref h0)] 5 244 12 [.ref q23, .ref h0]
  refine j_putF (ws' := [(h0, .inr (0, [.ref q23, .null, .null])), (q23, .inl (kA 6, 4, .inr (.inr (.inr (.inr (nx_q q23 4))))))]) h iw_X0 tyX0 tyX0_ok nmX0 0 rfl rfl 0 (by decide) tw_357 rfl hnm rfl rfl rfl (Nat.le_of_ble_eq_true rfl) dX0_init_12 rfl ?_
  refine j_aload_n h 0 rfl rfl dX0_init_15 ?_
  refine j_iconst (v := 4) h (by decide) dX0_init_16 ?_
  refine j_bipush (v := 60) h (by decide) dX0_init_17 ?_
  refine j_multi (ty := .int) (cO := kA 6) (cy := kA 1) (N' := 4) (K' := 60) (z := (60, .inl (fun _ => 0))) h tw_356 h.nw.2.2.2.1 tw_264 (h.kk.2 6 _ rfl).2 (h.kk.2 1 _ rfl).2 (by decide) (by decide) (by decide) (by decide) (by decide) rfl (Nat.le_of_ble_eq_true rfl) (Nat.le_of_ble_eq_true rfl) (fun _ => rfl) dX0_init_19 (fun q24 => ?_)
  refine j_sub [0, 1, 2] (ws' := [(h0, .inr (0, [.ref q23, .null, .null])), (q23, .inl (kA 6, 4, .inr (.inr (.inr (.inr (nx_q q23 4)))))), (q24, .inl (kA 6, 4, .inr (.inr (.inr (.inr (nx_q q24 4))))))]) rfl rfl (by decide) [0] (lv' := [(0, .ref h0)]) rfl ?_
  show J x [(h0, .inr (0, [.ref q23, .null, .null])), (q23, .inl (kA 6, 4, .inr (.inr (.inr (.inr (nx_q q23 4)))))), (q24, .inl (kA 6, 4, .inr (.inr (.inr (.inr (nx_q q24 4))))))] [(0, .ref h0)] 10 488 23 [.ref q24, .ref h0]
  refine j_putF (ws' := [(h0, .inr (0, [.ref q23, .ref q24, .null])), (q23, .inl (kA 6, 4, .inr (.inr (.inr (.inr (nx_q q23 4)))))), (q24, .inl (kA 6, 4, .inr (.inr (.inr (.inr (nx_q q24 4))))))]) h iw_X0 tyX0 tyX0_ok nmX0 0 rfl rfl 1 (by decide) tw_358 rfl hnm rfl rfl rfl (Nat.le_of_ble_eq_true rfl) dX0_init_23 rfl ?_
  refine j_aload_n h 0 rfl rfl dX0_init_26 ?_
  refine j_iconst (v := 4) h (by decide) dX0_init_27 ?_
  refine j_newa (atype := .boolean) (a0 := (4, .inl (fun _ => 0))) h tw_367 rfl 3 rfl (fun _ => rfl) (by decide) (by decide) (by decide) (Nat.le_of_ble_eq_true rfl) (Nat.le_of_ble_eq_true rfl) dX0_init_28 (fun q25 => ?_)
  show J x [(h0, .inr (0, [.ref q23, .ref q24, .null])), (q23, .inl (kA 6, 4, .inr (.inr (.inr (.inr (nx_q q23 4)))))), (q24, .inl (kA 6, 4, .inr (.inr (.inr (.inr (nx_q q24 4)))))), (q25, .inl (kA 3, 4, .inl (fun _ => 0)))] [(0, .ref h0)] 11 492 30 [.ref q25, .ref h0]
  refine j_putF (ws' := [(h0, .inr (0, [.ref q23, .ref q24, .ref q25])), (q23, .inl (kA 6, 4, .inr (.inr (.inr (.inr (nx_q q23 4)))))), (q24, .inl (kA 6, 4, .inr (.inr (.inr (.inr (nx_q q24 4)))))), (q25, .inl (kA 3, 4, .inl (fun _ => 0)))]) h iw_X0 tyX0 tyX0_ok nmX0 0 rfl rfl 2 (by decide) tw_359 rfl hnm rfl rfl rfl (Nat.le_of_ble_eq_true rfl) dX0_init_30 rfl ?_
  exact j_vret h hq dX0_init_33 (q23, q24, q25) [0, 3] rfl rfl (by decide) trivial (Nat.le_of_ble_eq_true rfl) (Nat.le_of_ble_eq_true rfl)
set_option maxHeartbeats 4000000 in
set_option maxRecDepth 100000 in
theorem c_X4_init (l : Launch) (g : va_G) (kA : Nat → ClassId) (h0 : Nat)  : CtV l yX4_init cX4_init 1 (none) 1 14 528 g kA [.ref h0] [(h0, .inr (4, [.null, .null, .null, .null, .int 0]))] (S := Nat × Nat × Nat × Nat) (fun ((a0, a1, a2, a3) : Nat × Nat × Nat × Nat) => True) (fun ((a0, a1, a2, a3) : Nat × Nat × Nat × Nat) => [(h0, .inr (4, [.ref a0, .ref a1, .ref a2, .ref a3, .int 0]))]) := by
  refine nx_startV (by decide +kernel) (Nat.le_of_ble_eq_true rfl) ?_
  intro x hnm h hq
  have h : Ok x cX4_init RX4 kA (rmC 1 14 528) 1 := h
  show J x [(h0, .inr (4, [.null, .null, .null, .null, .int 0]))] [(0, .ref h0)] 0 0 0 []
  refine j_aload_n h 0 rfl rfl dX4_init_0 ?_
  refine j_objInit h tw_419 tw_113 tw_114 (Nat.le_of_ble_eq_true rfl) (Nat.le_of_ble_eq_true rfl) (Nat.le_of_ble_eq_true rfl) dX4_init_1 ?_
  refine j_aload_n h 0 rfl rfl dX4_init_4 ?_
  refine j_bipush (v := 10) h (by decide) dX4_init_5 ?_
  refine j_bipush (v := 45) h (by decide) dX4_init_7 ?_
  refine j_multi (ty := .int) (cO := kA 6) (cy := kA 1) (N' := 10) (K' := 45) (z := (45, .inl (fun _ => 0))) h tw_420 h.nw.2.2.2.1 tw_264 (h.kk.2 6 _ rfl).2 (h.kk.2 1 _ rfl).2 (by decide) (by decide) (by decide) (by decide) (by decide) rfl (Nat.le_of_ble_eq_true rfl) (Nat.le_of_ble_eq_true rfl) (fun _ => rfl) dX4_init_9 (fun q26 => ?_)
  refine j_sub [0, 1] (ws' := [(h0, .inr (4, [.null, .null, .null, .null, .int 0])), (q26, .inl (kA 6, 10, .inr (.inr (.inr (.inr (nx_q q26 10))))))]) rfl rfl (by decide) [0] (lv' := [(0, .ref h0)]) rfl ?_
  show J x [(h0, .inr (4, [.null, .null, .null, .null, .int 0])), (q26, .inl (kA 6, 10, .inr (.inr (.inr (.inr (nx_q q26 10))))))] [(0, .ref h0)] 11 460 13 [.ref q26, .ref h0]
  refine j_putF (ws' := [(h0, .inr (4, [.ref q26, .null, .null, .null, .int 0])), (q26, .inl (kA 6, 10, .inr (.inr (.inr (.inr (nx_q q26 10))))))]) h iw_X4 tyX4 tyX4_ok nmX4 0 rfl rfl 0 (by decide) tw_421 rfl hnm rfl rfl rfl (Nat.le_of_ble_eq_true rfl) dX4_init_13 rfl ?_
  refine j_aload_n h 0 rfl rfl dX4_init_16 ?_
  refine j_bipush (v := 6) h (by decide) dX4_init_17 ?_
  refine j_newa (atype := .int) (a0 := (6, .inl (fun _ => 0))) h tw_264 rfl 1 rfl (fun _ => rfl) (by decide) (by decide) (by decide) (Nat.le_of_ble_eq_true rfl) (Nat.le_of_ble_eq_true rfl) dX4_init_19 (fun q27 => ?_)
  show J x [(h0, .inr (4, [.ref q26, .null, .null, .null, .int 0])), (q26, .inl (kA 6, 10, .inr (.inr (.inr (.inr (nx_q q26 10)))))), (q27, .inl (kA 1, 6, .inl (fun _ => 0)))] [(0, .ref h0)] 12 466 21 [.ref q27, .ref h0]
  refine j_putF (ws' := [(h0, .inr (4, [.ref q26, .ref q27, .null, .null, .int 0])), (q26, .inl (kA 6, 10, .inr (.inr (.inr (.inr (nx_q q26 10)))))), (q27, .inl (kA 1, 6, .inl (fun _ => 0)))]) h iw_X4 tyX4 tyX4_ok nmX4 0 rfl rfl 1 (by decide) tw_422 rfl hnm rfl rfl rfl (Nat.le_of_ble_eq_true rfl) dX4_init_21 rfl ?_
  refine j_aload_n h 0 rfl rfl dX4_init_24 ?_
  refine j_bipush (v := 60) h (by decide) dX4_init_25 ?_
  refine j_newa (atype := .int) (a0 := (60, .inl (fun _ => 0))) h tw_264 rfl 1 rfl (fun _ => rfl) (by decide) (by decide) (by decide) (Nat.le_of_ble_eq_true rfl) (Nat.le_of_ble_eq_true rfl) dX4_init_27 (fun q28 => ?_)
  show J x [(h0, .inr (4, [.ref q26, .ref q27, .null, .null, .int 0])), (q26, .inl (kA 6, 10, .inr (.inr (.inr (.inr (nx_q q26 10)))))), (q27, .inl (kA 1, 6, .inl (fun _ => 0))), (q28, .inl (kA 1, 60, .inl (fun _ => 0)))] [(0, .ref h0)] 13 526 29 [.ref q28, .ref h0]
  refine j_putF (ws' := [(h0, .inr (4, [.ref q26, .ref q27, .ref q28, .null, .int 0])), (q26, .inl (kA 6, 10, .inr (.inr (.inr (.inr (nx_q q26 10)))))), (q27, .inl (kA 1, 6, .inl (fun _ => 0))), (q28, .inl (kA 1, 60, .inl (fun _ => 0)))]) h iw_X4 tyX4 tyX4_ok nmX4 0 rfl rfl 2 (by decide) tw_423 rfl hnm rfl rfl rfl (Nat.le_of_ble_eq_true rfl) dX4_init_29 rfl ?_
  refine j_aload_n h 0 rfl rfl dX4_init_32 ?_
  refine j_iconst (v := 2) h (by decide) dX4_init_33 ?_
  refine j_newa (atype := .long) (a0 := (2, .inr (.inl (fun _ => 0)))) h tw_263 rfl 2 rfl (fun _ => rfl) (by decide) (by decide) (by decide) (Nat.le_of_ble_eq_true rfl) (Nat.le_of_ble_eq_true rfl) dX4_init_34 (fun q29 => ?_)
  show J x [(h0, .inr (4, [.ref q26, .ref q27, .ref q28, .null, .int 0])), (q26, .inl (kA 6, 10, .inr (.inr (.inr (.inr (nx_q q26 10)))))), (q27, .inl (kA 1, 6, .inl (fun _ => 0))), (q28, .inl (kA 1, 60, .inl (fun _ => 0))), (q29, .inl (kA 2, 2, .inr (.inl (fun _ => 0))))] [(0, .ref h0)] 14 528 36 [.ref q29, .ref h0]
  refine j_putF (ws' := [(h0, .inr (4, [.ref q26, .ref q27, .ref q28, .ref q29, .int 0])), (q26, .inl (kA 6, 10, .inr (.inr (.inr (.inr (nx_q q26 10)))))), (q27, .inl (kA 1, 6, .inl (fun _ => 0))), (q28, .inl (kA 1, 60, .inl (fun _ => 0))), (q29, .inl (kA 2, 2, .inr (.inl (fun _ => 0))))]) h iw_X4 tyX4 tyX4_ok nmX4 0 rfl rfl 3 (by decide) tw_424 rfl hnm rfl rfl rfl (Nat.le_of_ble_eq_true rfl) dX4_init_36 rfl ?_
  exact j_vret h hq dX4_init_39 (q26, q27, q28, q29) [0] rfl rfl (by decide) trivial (Nat.le_of_ble_eq_true rfl) (Nat.le_of_ble_eq_true rfl)
set_option maxHeartbeats 4000000 in
set_option maxRecDepth 100000 in
theorem c_X7_init (l : Launch) (g : va_G) (kA : Nat → ClassId) (h0 : Nat)  : CtV l yX7_init cX7_init 1 (none) 1 3 183 g kA [.ref h0] [(h0, .inr (7, [.null, .null, .null, .int 0]))] (S := Nat × Nat × Nat) (fun ((a0, a1, a2) : Nat × Nat × Nat) => True) (fun ((a0, a1, a2) : Nat × Nat × Nat) => [(h0, .inr (7, [.ref a0, .ref a1, .ref a2, .int 0]))]) := by
  refine nx_startV (by decide +kernel) (Nat.le_of_ble_eq_true rfl) ?_
  intro x hnm h hq
  have h : Ok x cX7_init RX7 kA (rmC 1 3 183) 1 := h
  show J x [(h0, .inr (7, [.null, .null, .null, .int 0]))] [(0, .ref h0)] 0 0 0 []
  refine j_aload_n h 0 rfl rfl dX7_init_0 ?_
  refine j_objInit h tw_442 tw_113 tw_114 (Nat.le_of_ble_eq_true rfl) (Nat.le_of_ble_eq_true rfl) (Nat.le_of_ble_eq_true rfl) dX7_init_1 ?_
  refine j_aload_n h 0 rfl rfl dX7_init_4 ?_
  refine j_bipush (v := 61) h (by decide) dX7_init_5 ?_
  refine j_newa (atype := .int) (a0 := (61, .inl (fun _ => 0))) h tw_264 rfl 1 rfl (fun _ => rfl) (by decide) (by decide) (by decide) (Nat.le_of_ble_eq_true rfl) (Nat.le_of_ble_eq_true rfl) dX7_init_7 (fun q30 => ?_)
  show J x [(h0, .inr (7, [.null, .null, .null, .int 0])), (q30, .inl (kA 1, 61, .inl (fun _ => 0)))] [(0, .ref h0)] 1 61 9 [.ref q30, .ref h0]
  refine j_putF (ws' := [(h0, .inr (7, [.ref q30, .null, .null, .int 0])), (q30, .inl (kA 1, 61, .inl (fun _ => 0)))]) h iw_X7 tyX7 tyX7_ok nmX7 0 rfl rfl 0 (by decide) tw_443 rfl hnm rfl rfl rfl (Nat.le_of_ble_eq_true rfl) dX7_init_9 rfl ?_
  refine j_aload_n h 0 rfl rfl dX7_init_12 ?_
  refine j_bipush (v := 61) h (by decide) dX7_init_13 ?_
  refine j_newa (atype := .int) (a0 := (61, .inl (fun _ => 0))) h tw_264 rfl 1 rfl (fun _ => rfl) (by decide) (by decide) (by decide) (Nat.le_of_ble_eq_true rfl) (Nat.le_of_ble_eq_true rfl) dX7_init_15 (fun q31 => ?_)
  show J x [(h0, .inr (7, [.ref q30, .null, .null, .int 0])), (q30, .inl (kA 1, 61, .inl (fun _ => 0))), (q31, .inl (kA 1, 61, .inl (fun _ => 0)))] [(0, .ref h0)] 2 122 17 [.ref q31, .ref h0]
  refine j_putF (ws' := [(h0, .inr (7, [.ref q30, .ref q31, .null, .int 0])), (q30, .inl (kA 1, 61, .inl (fun _ => 0))), (q31, .inl (kA 1, 61, .inl (fun _ => 0)))]) h iw_X7 tyX7 tyX7_ok nmX7 0 rfl rfl 1 (by decide) tw_444 rfl hnm rfl rfl rfl (Nat.le_of_ble_eq_true rfl) dX7_init_17 rfl ?_
  refine j_aload_n h 0 rfl rfl dX7_init_20 ?_
  refine j_bipush (v := 61) h (by decide) dX7_init_21 ?_
  refine j_newa (atype := .int) (a0 := (61, .inl (fun _ => 0))) h tw_264 rfl 1 rfl (fun _ => rfl) (by decide) (by decide) (by decide) (Nat.le_of_ble_eq_true rfl) (Nat.le_of_ble_eq_true rfl) dX7_init_23 (fun q32 => ?_)
  show J x [(h0, .inr (7, [.ref q30, .ref q31, .null, .int 0])), (q30, .inl (kA 1, 61, .inl (fun _ => 0))), (q31, .inl (kA 1, 61, .inl (fun _ => 0))), (q32, .inl (kA 1, 61, .inl (fun _ => 0)))] [(0, .ref h0)] 3 183 25 [.ref q32, .ref h0]
  refine j_putF (ws' := [(h0, .inr (7, [.ref q30, .ref q31, .ref q32, .int 0])), (q30, .inl (kA 1, 61, .inl (fun _ => 0))), (q31, .inl (kA 1, 61, .inl (fun _ => 0))), (q32, .inl (kA 1, 61, .inl (fun _ => 0)))]) h iw_X7 tyX7 tyX7_ok nmX7 0 rfl rfl 2 (by decide) tw_445 rfl hnm rfl rfl rfl (Nat.le_of_ble_eq_true rfl) dX7_init_25 rfl ?_
  exact j_vret h hq dX7_init_28 (q30, q31, q32) [0] rfl rfl (by decide) trivial (Nat.le_of_ble_eq_true rfl) (Nat.le_of_ble_eq_true rfl)
set_option maxHeartbeats 4000000 in
set_option maxRecDepth 100000 in
theorem c_X1_init (l : Launch) (g : va_G) (kA : Nat → ClassId) (h0 : Nat)  : CtV l yX1_init cX1_init 1 (none) 1 4 40 g kA [.ref h0] [(h0, .inr (1, [.null, .null, .null, .null]))] (S := Nat × Nat × Nat × Nat) (fun ((a0, a1, a2, a3) : Nat × Nat × Nat × Nat) => True) (fun ((a0, a1, a2, a3) : Nat × Nat × Nat × Nat) => [(h0, .inr (1, [.ref a0, .ref a1, .ref a2, .ref a3])), (a0, .inl (kA 1, 10, .inl (fun _ => 0))), (a3, .inl (kA 3, 10, .inl (fun _ => 0)))]) := by
  refine nx_startV (by decide +kernel) (Nat.le_of_ble_eq_true rfl) ?_
  intro x hnm h hq
  have h : Ok x cX1_init RX1 kA (rmC 1 4 40) 1 := h
  show J x [(h0, .inr (1, [.null, .null, .null, .null]))] [(0, .ref h0)] 0 0 0 []
  refine j_aload_n h 0 rfl rfl dX1_init_0 ?_
  refine j_objInit h tw_461 tw_113 tw_114 (Nat.le_of_ble_eq_true rfl) (Nat.le_of_ble_eq_true rfl) (Nat.le_of_ble_eq_true rfl) dX1_init_1 ?_
  refine j_aload_n h 0 rfl rfl dX1_init_4 ?_
  refine j_bipush (v := 10) h (by decide) dX1_init_5 ?_
  refine j_newa (atype := .int) (a0 := (10, .inl (fun _ => 0))) h tw_264 rfl 1 rfl (fun _ => rfl) (by decide) (by decide) (by decide) (Nat.le_of_ble_eq_true rfl) (Nat.le_of_ble_eq_true rfl) dX1_init_7 (fun q33 => ?_)
  show J x [(h0, .inr (1, [.null, .null, .null, .null])), (q33, .inl (kA 1, 10, .inl (fun _ => 0)))] [(0, .ref h0)] 1 10 9 [.ref q33, .ref h0]
  refine j_putF (ws' := [(h0, .inr (1, [.ref q33, .null, .null, .null])), (q33, .inl (kA 1, 10, .inl (fun _ => 0)))]) h iw_X1 tyX1 tyX1_ok nmX1 0 rfl rfl 0 (by decide) tw_462 rfl hnm rfl rfl rfl (Nat.le_of_ble_eq_true rfl) dX1_init_9 rfl ?_
  refine j_aload_n h 0 rfl rfl dX1_init_12 ?_
  refine j_bipush (v := 10) h (by decide) dX1_init_13 ?_
  refine j_newa (atype := .int) (a0 := (10, .inl (fun _ => 0))) h tw_264 rfl 1 rfl (fun _ => rfl) (by decide) (by decide) (by decide) (Nat.le_of_ble_eq_true rfl) (Nat.le_of_ble_eq_true rfl) dX1_init_15 (fun q34 => ?_)
  show J x [(h0, .inr (1, [.ref q33, .null, .null, .null])), (q33, .inl (kA 1, 10, .inl (fun _ => 0))), (q34, .inl (kA 1, 10, .inl (fun _ => 0)))] [(0, .ref h0)] 2 20 17 [.ref q34, .ref h0]
  refine j_putF (ws' := [(h0, .inr (1, [.ref q33, .ref q34, .null, .null])), (q33, .inl (kA 1, 10, .inl (fun _ => 0))), (q34, .inl (kA 1, 10, .inl (fun _ => 0)))]) h iw_X1 tyX1 tyX1_ok nmX1 0 rfl rfl 1 (by decide) tw_463 rfl hnm rfl rfl rfl (Nat.le_of_ble_eq_true rfl) dX1_init_17 rfl ?_
  refine j_aload_n h 0 rfl rfl dX1_init_20 ?_
  refine j_bipush (v := 10) h (by decide) dX1_init_21 ?_
  refine j_newa (atype := .int) (a0 := (10, .inl (fun _ => 0))) h tw_264 rfl 1 rfl (fun _ => rfl) (by decide) (by decide) (by decide) (Nat.le_of_ble_eq_true rfl) (Nat.le_of_ble_eq_true rfl) dX1_init_23 (fun q35 => ?_)
  show J x [(h0, .inr (1, [.ref q33, .ref q34, .null, .null])), (q33, .inl (kA 1, 10, .inl (fun _ => 0))), (q34, .inl (kA 1, 10, .inl (fun _ => 0))), (q35, .inl (kA 1, 10, .inl (fun _ => 0)))] [(0, .ref h0)] 3 30 25 [.ref q35, .ref h0]
  refine j_putF (ws' := [(h0, .inr (1, [.ref q33, .ref q34, .ref q35, .null])), (q33, .inl (kA 1, 10, .inl (fun _ => 0))), (q34, .inl (kA 1, 10, .inl (fun _ => 0))), (q35, .inl (kA 1, 10, .inl (fun _ => 0)))]) h iw_X1 tyX1 tyX1_ok nmX1 0 rfl rfl 2 (by decide) tw_464 rfl hnm rfl rfl rfl (Nat.le_of_ble_eq_true rfl) dX1_init_25 rfl ?_
  refine j_aload_n h 0 rfl rfl dX1_init_28 ?_
  refine j_bipush (v := 10) h (by decide) dX1_init_29 ?_
  refine j_newa (atype := .boolean) (a0 := (10, .inl (fun _ => 0))) h tw_367 rfl 3 rfl (fun _ => rfl) (by decide) (by decide) (by decide) (Nat.le_of_ble_eq_true rfl) (Nat.le_of_ble_eq_true rfl) dX1_init_31 (fun q36 => ?_)
  show J x [(h0, .inr (1, [.ref q33, .ref q34, .ref q35, .null])), (q33, .inl (kA 1, 10, .inl (fun _ => 0))), (q34, .inl (kA 1, 10, .inl (fun _ => 0))), (q35, .inl (kA 1, 10, .inl (fun _ => 0))), (q36, .inl (kA 3, 10, .inl (fun _ => 0)))] [(0, .ref h0)] 4 40 33 [.ref q36, .ref h0]
  refine j_putF (ws' := [(h0, .inr (1, [.ref q33, .ref q34, .ref q35, .ref q36])), (q33, .inl (kA 1, 10, .inl (fun _ => 0))), (q34, .inl (kA 1, 10, .inl (fun _ => 0))), (q35, .inl (kA 1, 10, .inl (fun _ => 0))), (q36, .inl (kA 3, 10, .inl (fun _ => 0)))]) h iw_X1 tyX1 tyX1_ok nmX1 0 rfl rfl 3 (by decide) tw_465 rfl hnm rfl rfl rfl (Nat.le_of_ble_eq_true rfl) dX1_init_33 rfl ?_
  exact j_vret h hq dX1_init_36 (q33, q34, q35, q36) [0, 1, 4] rfl rfl (by decide) trivial (Nat.le_of_ble_eq_true rfl) (Nat.le_of_ble_eq_true rfl)
set_option maxHeartbeats 4000000 in
set_option maxRecDepth 100000 in
theorem c_X3_init6 (l : Launch) (g : va_G) (kA : Nat → ClassId) (h0 : Nat)  : CtV l yX3_init cX3_init 2 (none) 1 28 898 g kA [.ref h0, .int 6] [(h0, .inr (3, [.null, .null, .null, .null, .null, .null, .null, .null, .int 0, .int 0, .int 0]))] (S := Nat × Nat × Nat × Nat × Nat × Nat × Nat × Nat) (fun ((a0, a1, a2, a3, a4, a5, a6, a7) : Nat × Nat × Nat × Nat × Nat × Nat × Nat × Nat) => True) (fun ((a0, a1, a2, a3, a4, a5, a6, a7) : Nat × Nat × Nat × Nat × Nat × Nat × Nat × Nat) => [(h0, .inr (3, [.ref a0, .ref a1, .ref a2, .ref a3, .ref a4, .ref a5, .ref a6, .ref a7, .int 0, .int 0, .int 0]))]) := by
  refine nx_startV (by decide +kernel) (Nat.le_of_ble_eq_true rfl) ?_
  intro x hnm h hq
  have h : Ok x cX3_init RX3 kA (rmC 1 28 898) 2 := h
  show J x [(h0, .inr (3, [.null, .null, .null, .null, .null, .null, .null, .null, .int 0, .int 0, .int 0]))] [(0, .ref h0), (1, .int 6)] 0 0 0 []
  refine j_aload_n h 0 rfl rfl dX3_init_0 ?_
  refine j_objInit h tw_373 tw_113 tw_114 (Nat.le_of_ble_eq_true rfl) (Nat.le_of_ble_eq_true rfl) (Nat.le_of_ble_eq_true rfl) dX3_init_1 ?_
  refine j_aload_n h 0 rfl rfl dX3_init_4 ?_
  refine j_bipush (v := 8) h (by decide) dX3_init_5 ?_
  refine j_bipush (v := 61) h (by decide) dX3_init_7 ?_
  refine j_multi (ty := .long) (cO := kA 7) (cy := kA 2) (N' := 8) (K' := 61) (z := (61, .inr (.inl (fun _ => 0)))) h tw_374 h.nw.2.2.2.2 tw_263 (h.kk.2 7 _ rfl).2 (h.kk.2 2 _ rfl).2 (by decide) (by decide) (by decide) (by decide) (by decide) rfl (Nat.le_of_ble_eq_true rfl) (Nat.le_of_ble_eq_true rfl) (fun _ => rfl) dX3_init_9 (fun q37 => ?_)
  refine j_sub [0, 1, 2, 3] (ws' := [(h0, .inr (3, [.null, .null, .null, .null, .null, .null, .null, .null, .int 0, .int 0, .int 0])), (q37, .inl (kA 7, 8, .inr (.inr (.inr (.inr (nx_q q37 8)))))), ((q37 + 1 + 0), .inl (kA 2, 61, .inr (.inl (fun _ => 0)))), ((q37 + 1 + 1), .inl (kA 2, 61, .inr (.inl (fun _ => 0))))]) rfl rfl (by decide) [0, 1] (lv' := [(0, .ref h0), (1, .int 6)]) rfl ?_
  show J x [(h0, .inr (3, [.null, .null, .null, .null, .null, .null, .null, .null, .int 0, .int 0, .int 0])), (q37, .inl (kA 7, 8, .inr (.inr (.inr (.inr (nx_q q37 8)))))), ((q37 + 1 + 0), .inl (kA 2, 61, .inr (.inl (fun _ => 0)))), ((q37 + 1 + 1), .inl (kA 2, 61, .inr (.inl (fun _ => 0))))] [(0, .ref h0), (1, .int 6)] 9 496 13 [.ref q37, .ref h0]
  refine j_putF (ws' := [(h0, .inr (3, [.null, .null, .null, .ref q37, .null, .null, .null, .null, .int 0, .int 0, .int 0])), (q37, .inl (kA 7, 8, .inr (.inr (.inr (.inr (nx_q q37 8)))))), ((q37 + 1 + 0), .inl (kA 2, 61, .inr (.inl (fun _ => 0)))), ((q37 + 1 + 1), .inl (kA 2, 61, .inr (.inl (fun _ => 0))))]) h iw_X3 tyX3 tyX3_ok nmX3 0 rfl rfl 3 (by decide) tw_382 rfl hnm rfl rfl rfl (Nat.le_of_ble_eq_true rfl) dX3_init_13 rfl ?_
  refine j_aload_n h 0 rfl rfl dX3_init_16 ?_
  refine j_iconst (v := 2) h (by decide) dX3_init_17 ?_
  refine j_newa (atype := .long) (a0 := (2, .inr (.inl (fun _ => 0)))) h tw_263 rfl 2 rfl (fun _ => rfl) (by decide) (by decide) (by decide) (Nat.le_of_ble_eq_true rfl) (Nat.le_of_ble_eq_true rfl) dX3_init_18 (fun q38 => ?_)
  show J x [(h0, .inr (3, [.null, .null, .null, .ref q37, .null, .null, .null, .null, .int 0, .int 0, .int 0])), (q37, .inl (kA 7, 8, .inr (.inr (.inr (.inr (nx_q q37 8)))))), ((q37 + 1 + 0), .inl (kA 2, 61, .inr (.inl (fun _ => 0)))), ((q37 + 1 + 1), .inl (kA 2, 61, .inr (.inl (fun _ => 0)))), (q38, .inl (kA 2, 2, .inr (.inl (fun _ => 0))))] [(0, .ref h0), (1, .int 6)] 10 498 20 [.ref q38, .ref h0]
  refine j_putF (ws' := [(h0, .inr (3, [.null, .null, .null, .ref q37, .null, .ref q38, .null, .null, .int 0, .int 0, .int 0])), (q37, .inl (kA 7, 8, .inr (.inr (.inr (.inr (nx_q q37 8)))))), ((q37 + 1 + 0), .inl (kA 2, 61, .inr (.inl (fun _ => 0)))), ((q37 + 1 + 1), .inl (kA 2, 61, .inr (.inl (fun _ => 0)))), (q38, .inl (kA 2, 2, .inr (.inl (fun _ => 0))))]) h iw_X3 tyX3 tyX3_ok nmX3 0 rfl rfl 5 (by decide) tw_384 rfl hnm rfl rfl rfl (Nat.le_of_ble_eq_true rfl) dX3_init_20 rfl ?_
  refine j_aload_n h 0 rfl rfl dX3_init_23 ?_
  refine j_iconst (v := 2) h (by decide) dX3_init_24 ?_
  refine j_newa (atype := .long) (a0 := (2, .inr (.inl (fun _ => 0)))) h tw_263 rfl 2 rfl (fun _ => rfl) (by decide) (by decide) (by decide) (Nat.le_of_ble_eq_true rfl) (Nat.le_of_ble_eq_true rfl) dX3_init_25 (fun q39 => ?_)
  show J x [(h0, .inr (3, [.null, .null, .null, .ref q37, .null, .ref q38, .null, .null, .int 0, .int 0, .int 0])), (q37, .inl (kA 7, 8, .inr (.inr (.inr (.inr (nx_q q37 8)))))), ((q37 + 1 + 0), .inl (kA 2, 61, .inr (.inl (fun _ => 0)))), ((q37 + 1 + 1), .inl (kA 2, 61, .inr (.inl (fun _ => 0)))), (q38, .inl (kA 2, 2, .inr (.inl (fun _ => 0)))), (q39, .inl (kA 2, 2, .inr (.inl (fun _ => 0))))] [(0, .ref h0), (1, .int 6)] 11 500 27 [.ref q39, .ref h0]
  refine j_putF (ws' := [(h0, .inr (3, [.null, .null, .null, .ref q37, .null, .ref q38, .ref q39, .null, .int 0, .int 0, .int 0])), (q37, .inl (kA 7, 8, .inr (.inr (.inr (.inr (nx_q q37 8)))))), ((q37 + 1 + 0), .inl (kA 2, 61, .inr (.inl (fun _ => 0)))), ((q37 + 1 + 1), .inl (kA 2, 61, .inr (.inl (fun _ => 0)))), (q38, .inl (kA 2, 2, .inr (.inl (fun _ => 0)))), (q39, .inl (kA 2, 2, .inr (.inl (fun _ => 0))))]) h iw_X3 tyX3 tyX3_ok nmX3 0 rfl rfl 6 (by decide) tw_385 rfl hnm rfl rfl rfl (Nat.le_of_ble_eq_true rfl) dX3_init_27 rfl ?_
  refine j_aload_n h 0 rfl rfl dX3_init_30 ?_
  refine j_iconst (v := 2) h (by decide) dX3_init_31 ?_
  refine j_newa (atype := .long) (a0 := (2, .inr (.inl (fun _ => 0)))) h tw_263 rfl 2 rfl (fun _ => rfl) (by decide) (by decide) (by decide) (Nat.le_of_ble_eq_true rfl) (Nat.le_of_ble_eq_true rfl) dX3_init_32 (fun q40 => ?_)
  show J x [(h0, .inr (3, [.null, .null, .null, .ref q37, .null, .ref q38, .ref q39, .null, .int 0, .int 0, .int 0])), (q37, .inl (kA 7, 8, .inr (.inr (.inr (.inr (nx_q q37 8)))))), ((q37 + 1 + 0), .inl (kA 2, 61, .inr (.inl (fun _ => 0)))), ((q37 + 1 + 1), .inl (kA 2, 61, .inr (.inl (fun _ => 0)))), (q38, .inl (kA 2, 2, .inr (.inl (fun _ => 0)))), (q39, .inl (kA 2, 2, .inr (.inl (fun _ => 0)))), (q40, .inl (kA 2, 2, .inr (.inl (fun _ => 0))))] [(0, .ref h0), (1, .int 6)] 12 502 34 [.ref q40, .ref h0]
  refine j_putF (ws' := [(h0, .inr (3, [.null, .null, .null, .ref q37, .null, .ref q38, .ref q39, .ref q40, .int 0, .int 0, .int 0])), (q37, .inl (kA 7, 8, .inr (.inr (.inr (.inr (nx_q q37 8)))))), ((q37 + 1 + 0), .inl (kA 2, 61, .inr (.inl (fun _ => 0)))), ((q37 + 1 + 1), .inl (kA 2, 61, .inr (.inl (fun _ => 0)))), (q38, .inl (kA 2, 2, .inr (.inl (fun _ => 0)))), (q39, .inl (kA 2, 2, .inr (.inl (fun _ => 0)))), (q40, .inl (kA 2, 2, .inr (.inl (fun _ => 0))))]) h iw_X3 tyX3 tyX3_ok nmX3 0 rfl rfl 7 (by decide) tw_386 rfl hnm rfl rfl rfl (Nat.le_of_ble_eq_true rfl) dX3_init_34 rfl ?_
  refine j_aload_n h 0 rfl rfl dX3_init_37 ?_
  refine j_iload_n h 1 rfl rfl dX3_init_38 ?_
  refine j_newa (atype := .int) (a0 := (6, .inl (fun _ => 0))) h tw_264 rfl 1 rfl (fun _ => rfl) (by decide) (by decide) (by decide) (Nat.le_of_ble_eq_true rfl) (Nat.le_of_ble_eq_true rfl) dX3_init_39 (fun q41 => ?_)
  show J x [(h0, .inr (3, [.null, .null, .null, .ref q37, .null, .ref q38, .ref q39, .ref q40, .int 0, .int 0, .int 0])), (q37, .inl (kA 7, 8, .inr (.inr (.inr (.inr (nx_q q37 8)))))), ((q37 + 1 + 0), .inl (kA 2, 61, .inr (.inl (fun _ => 0)))), ((q37 + 1 + 1), .inl (kA 2, 61, .inr (.inl (fun _ => 0)))), (q38, .inl (kA 2, 2, .inr (.inl (fun _ => 0)))), (q39, .inl (kA 2, 2, .inr (.inl (fun _ => 0)))), (q40, .inl (kA 2, 2, .inr (.inl (fun _ => 0)))), (q41, .inl (kA 1, 6, .inl (fun _ => 0)))] [(0, .ref h0), (1, .int 6)] 13 508 41 [.ref q41, .ref h0]
  refine j_putF (ws' := [(h0, .inr (3, [.ref q41, .null, .null, .ref q37, .null, .ref q38, .ref q39, .ref q40, .int 0, .int 0, .int 0])), (q37, .inl (kA 7, 8, .inr (.inr (.inr (.inr (nx_q q37 8)))))), ((q37 + 1 + 0), .inl (kA 2, 61, .inr (.inl (fun _ => 0)))), ((q37 + 1 + 1), .inl (kA 2, 61, .inr (.inl (fun _ => 0)))), (q38, .inl (kA 2, 2, .inr (.inl (fun _ => 0)))), (q39, .inl (kA 2, 2, .inr (.inl (fun _ => 0)))), (q40, .inl (kA 2, 2, .inr (.inl (fun _ => 0)))), (q41, .inl (kA 1, 6, .inl (fun _ => 0)))]) h iw_X3 tyX3 tyX3_ok nmX3 0 rfl rfl 0 (by decide) tw_377 rfl hnm rfl rfl rfl (Nat.le_of_ble_eq_true rfl) dX3_init_41 rfl ?_
  refine j_aload_n h 0 rfl rfl dX3_init_44 ?_
  refine j_iload_n h 1 rfl rfl dX3_init_45 ?_
  refine j_iconst (v := 2) h (by decide) dX3_init_46 ?_
  refine j_multi (ty := .int) (cO := kA 6) (cy := kA 1) (N' := 6) (K' := 2) (z := (2, .inl (fun _ => 0))) h tw_376 h.nw.2.2.2.1 tw_264 (h.kk.2 6 _ rfl).2 (h.kk.2 1 _ rfl).2 (by decide) (by decide) (by decide) (by decide) (by decide) rfl (Nat.le_of_ble_eq_true rfl) (Nat.le_of_ble_eq_true rfl) (fun _ => rfl) dX3_init_47 (fun q42 => ?_)
  refine j_sub [0, 1, 2, 3, 4, 5, 6, 7, 8] (ws' := [(h0, .inr (3, [.ref q41, .null, .null, .ref q37, .null, .ref q38, .ref q39, .ref q40, .int 0, .int 0, .int 0])), (q37, .inl (kA 7, 8, .inr (.inr (.inr (.inr (nx_q q37 8)))))), ((q37 + 1 + 0), .inl (kA 2, 61, .inr (.inl (fun _ => 0)))), ((q37 + 1 + 1), .inl (kA 2, 61, .inr (.inl (fun _ => 0)))), (q38, .inl (kA 2, 2, .inr (.inl (fun _ => 0)))), (q39, .inl (kA 2, 2, .inr (.inl (fun _ => 0)))), (q40, .inl (kA 2, 2, .inr (.inl (fun _ => 0)))), (q41, .inl (kA 1, 6, .inl (fun _ => 0))), (q42, .inl (kA 6, 6, .inr (.inr (.inr (.inr (nx_q q42 6))))))]) rfl rfl (by decide) [0, 1] (lv' := [(0, .ref h0), (1, .int 6)]) rfl ?_
  show J x [(h0, .inr (3, [.ref q41, .null, .null, .ref q37, .null, .ref q38, .ref q39, .ref q40, .int 0, .int 0, .int 0])), (q37, .inl (kA 7, 8, .inr (.inr (.inr (.inr (nx_q q37 8)))))), ((q37 + 1 + 0), .inl (kA 2, 61, .inr (.inl (fun _ => 0)))), ((q37 + 1 + 1), .inl (kA 2, 61, .inr (.inl (fun _ => 0)))), (q38, .inl (kA 2, 2, .inr (.inl (fun _ => 0)))), (q39, .inl (kA 2, 2, .inr (.inl (fun _ => 0)))), (q40, .inl (kA 2, 2, .inr (.inl (fun _ => 0)))), (q41, .inl (kA 1, 6, .inl (fun _ => 0))), (q42, .inl (kA 6, 6, .inr (.inr (.inr (.inr (nx_q q42 6))))))] [(0, .ref h0), (1, .int 6)] 20 526 51 [.ref q42, .ref h0]
  refine j_putF (ws' := [(h0, .inr (3, [.ref q41, .ref q42, .null, .ref q37, .null, .ref q38, .ref q39, .ref q40, .int 0, .int 0, .int 0])), (q37, .inl (kA 7, 8, .inr (.inr (.inr (.inr (nx_q q37 8)))))), ((q37 + 1 + 0), .inl (kA 2, 61, .inr (.inl (fun _ => 0)))), ((q37 + 1 + 1), .inl (kA 2, 61, .inr (.inl (fun _ => 0)))), (q38, .inl (kA 2, 2, .inr (.inl (fun _ => 0)))), (q39, .inl (kA 2, 2, .inr (.inl (fun _ => 0)))), (q40, .inl (kA 2, 2, .inr (.inl (fun _ => 0)))), (q41, .inl (kA 1, 6, .inl (fun _ => 0))), (q42, .inl (kA 6, 6, .inr (.inr (.inr (.inr (nx_q q42 6))))))]) h iw_X3 tyX3 tyX3_ok nmX3 0 rfl rfl 1 (by decide) tw_379 rfl hnm rfl rfl rfl (Nat.le_of_ble_eq_true rfl) dX3_init_51 rfl ?_
  refine j_aload_n h 0 rfl rfl dX3_init_54 ?_
  refine j_iload_n h 1 rfl rfl dX3_init_55 ?_
  refine j_bipush (v := 60) h (by decide) dX3_init_56 ?_
  refine j_multi (ty := .int) (cO := kA 6) (cy := kA 1) (N' := 6) (K' := 60) (z := (60, .inl (fun _ => 0))) h tw_376 h.nw.2.2.2.1 tw_264 (h.kk.2 6 _ rfl).2 (h.kk.2 1 _ rfl).2 (by decide) (by decide) (by decide) (by decide) (by decide) rfl (Nat.le_of_ble_eq_true rfl) (Nat.le_of_ble_eq_true rfl) (fun _ => rfl) dX3_init_58 (fun q43 => ?_)
  refine j_sub [0, 1, 2, 3, 4, 5, 6, 7, 8, 9] (ws' := [(h0, .inr (3, [.ref q41, .ref q42, .null, .ref q37, .null, .ref q38, .ref q39, .ref q40, .int 0, .int 0, .int 0])), (q37, .inl (kA 7, 8, .inr (.inr (.inr (.inr (nx_q q37 8)))))), ((q37 + 1 + 0), .inl (kA 2, 61, .inr (.inl (fun _ => 0)))), ((q37 + 1 + 1), .inl (kA 2, 61, .inr (.inl (fun _ => 0)))), (q38, .inl (kA 2, 2, .inr (.inl (fun _ => 0)))), (q39, .inl (kA 2, 2, .inr (.inl (fun _ => 0)))), (q40, .inl (kA 2, 2, .inr (.inl (fun _ => 0)))), (q41, .inl (kA 1, 6, .inl (fun _ => 0))), (q42, .inl (kA 6, 6, .inr (.inr (.inr (.inr (nx_q q42 6)))))), (q43, .inl (kA 6, 6, .inr (.inr (.inr (.inr (nx_q q43 6))))))]) rfl rfl (by decide) [0, 1] (lv' := [(0, .ref h0), (1, .int 6)]) rfl ?_
  show J x [(h0, .inr (3, [.ref q41, .ref q42, .null, .ref q37, .null, .ref q38, .ref q39, .ref q40, .int 0, .int 0, .int 0])), (q37, .inl (kA 7, 8, .inr (.inr (.inr (.inr (nx_q q37 8)))))), ((q37 + 1 + 0), .inl (kA 2, 61, .inr (.inl (fun _ => 0)))), ((q37 + 1 + 1), .inl (kA 2, 61, .inr (.inl (fun _ => 0)))), (q38, .inl (kA 2, 2, .inr (.inl (fun _ => 0)))), (q39, .inl (kA 2, 2, .inr (.inl (fun _ => 0)))), (q40, .inl (kA 2, 2, .inr (.inl (fun _ => 0)))), (q41, .inl (kA 1, 6, .inl (fun _ => 0))), (q42, .inl (kA 6, 6, .inr (.inr (.inr (.inr (nx_q q42 6)))))), (q43, .inl (kA 6, 6, .inr (.inr (.inr (.inr (nx_q q43 6))))))] [(0, .ref h0), (1, .int 6)] 27 892 62 [.ref q43, .ref h0]
  refine j_putF (ws' := [(h0, .inr (3, [.ref q41, .ref q42, .ref q43, .ref q37, .null, .ref q38, .ref q39, .ref q40, .int 0, .int 0, .int 0])), (q37, .inl (kA 7, 8, .inr (.inr (.inr (.inr (nx_q q37 8)))))), ((q37 + 1 + 0), .inl (kA 2, 61, .inr (.inl (fun _ => 0)))), ((q37 + 1 + 1), .inl (kA 2, 61, .inr (.inl (fun _ => 0)))), (q38, .inl (kA 2, 2, .inr (.inl (fun _ => 0)))), (q39, .inl (kA 2, 2, .inr (.inl (fun _ => 0)))), (q40, .inl (kA 2, 2, .inr (.inl (fun _ => 0)))), (q41, .inl (kA 1, 6, .inl (fun _ => 0))), (q42, .inl (kA 6, 6, .inr (.inr (.inr (.inr (nx_q q42 6)))))), (q43, .inl (kA 6, 6, .inr (.inr (.inr (.inr (nx_q q43 6))))))]) h iw_X3 tyX3 tyX3_ok nmX3 0 rfl rfl 2 (by decide) tw_381 rfl hnm rfl rfl rfl (Nat.le_of_ble_eq_true rfl) dX3_init_62 rfl ?_
  refine j_aload_n h 0 rfl rfl dX3_init_65 ?_
  refine j_iload_n h 1 rfl rfl dX3_init_66 ?_
  refine j_newa (atype := .long) (a0 := (6, .inr (.inl (fun _ => 0)))) h tw_263 rfl 2 rfl (fun _ => rfl) (by decide) (by decide) (by decide) (Nat.le_of_ble_eq_true rfl) (Nat.le_of_ble_eq_true rfl) dX3_init_67 (fun q44 => ?_)
  show J x [(h0, .inr (3, [.ref q41, .ref q42, .ref q43, .ref q37, .null, .ref q38, .ref q39, .ref q40, .int 0, .int 0, .int 0])), (q37, .inl (kA 7, 8, .inr (.inr (.inr (.inr (nx_q q37 8)))))), ((q37 + 1 + 0), .inl (kA 2, 61, .inr (.inl (fun _ => 0)))), ((q37 + 1 + 1), .inl (kA 2, 61, .inr (.inl (fun _ => 0)))), (q38, .inl (kA 2, 2, .inr (.inl (fun _ => 0)))), (q39, .inl (kA 2, 2, .inr (.inl (fun _ => 0)))), (q40, .inl (kA 2, 2, .inr (.inl (fun _ => 0)))), (q41, .inl (kA 1, 6, .inl (fun _ => 0))), (q42, .inl (kA 6, 6, .inr (.inr (.inr (.inr (nx_q q42 6)))))), (q43, .inl (kA 6, 6, .inr (.inr (.inr (.inr (nx_q q43 6)))))), (q44, .inl (kA 2, 6, .inr (.inl (fun _ => 0))))] [(0, .ref h0), (1, .int 6)] 28 898 69 [.ref q44, .ref h0]
  refine j_putF (ws' := [(h0, .inr (3, [.ref q41, .ref q42, .ref q43, .ref q37, .ref q44, .ref q38, .ref q39, .ref q40, .int 0, .int 0, .int 0])), (q37, .inl (kA 7, 8, .inr (.inr (.inr (.inr (nx_q q37 8)))))), ((q37 + 1 + 0), .inl (kA 2, 61, .inr (.inl (fun _ => 0)))), ((q37 + 1 + 1), .inl (kA 2, 61, .inr (.inl (fun _ => 0)))), (q38, .inl (kA 2, 2, .inr (.inl (fun _ => 0)))), (q39, .inl (kA 2, 2, .inr (.inl (fun _ => 0)))), (q40, .inl (kA 2, 2, .inr (.inl (fun _ => 0)))), (q41, .inl (kA 1, 6, .inl (fun _ => 0))), (q42, .inl (kA 6, 6, .inr (.inr (.inr (.inr (nx_q q42 6)))))), (q43, .inl (kA 6, 6, .inr (.inr (.inr (.inr (nx_q q43 6)))))), (q44, .inl (kA 2, 6, .inr (.inl (fun _ => 0))))]) h iw_X3 tyX3 tyX3_ok nmX3 0 rfl rfl 4 (by decide) tw_383 rfl hnm rfl rfl rfl (Nat.le_of_ble_eq_true rfl) dX3_init_69 rfl ?_
  exact j_vret h hq dX3_init_72 (q41, q42, q43, q37, q44, q38, q39, q40) [0] rfl rfl (by decide) trivial (Nat.le_of_ble_eq_true rfl) (Nat.le_of_ble_eq_true rfl)
set_option maxHeartbeats 4000000 in
set_option maxRecDepth 100000 in
theorem c_X3_init10 (l : Launch) (g : va_G) (kA : Nat → ClassId) (h0 : Nat)  : CtV l yX3_init cX3_init 2 (none) 1 36 1162 g kA [.ref h0, .int 10] [(h0, .inr (3, [.null, .null, .null, .null, .null, .null, .null, .null, .int 0, .int 0, .int 0]))] (S := Nat × Nat × Nat × Nat × Nat × Nat × Nat × Nat) (fun ((a0, a1, a2, a3, a4, a5, a6, a7) : Nat × Nat × Nat × Nat × Nat × Nat × Nat × Nat) => True) (fun ((a0, a1, a2, a3, a4, a5, a6, a7) : Nat × Nat × Nat × Nat × Nat × Nat × Nat × Nat) => [(h0, .inr (3, [.ref a0, .ref a1, .ref a2, .ref a3, .ref a4, .ref a5, .ref a6, .ref a7, .int 0, .int 0, .int 0])), (a3, .inl (kA 7, 8, .inr (.inr (.inr (.inr (nx_q a3 8)))))), ((a3 + 1 + 0), .inl (kA 2, 61, .inr (.inl (fun _ => 0)))), ((a3 + 1 + 1), .inl (kA 2, 61, .inr (.inl (fun _ => 0)))), (a5, .inl (kA 2, 2, .inr (.inl (fun _ => 0)))), (a6, .inl (kA 2, 2, .inr (.inl (fun _ => 0)))), (a7, .inl (kA 2, 2, .inr (.inl (fun _ => 0))))]) := by
  refine nx_startV (by decide +kernel) (Nat.le_of_ble_eq_true rfl) ?_
  intro x hnm h hq
  have h : Ok x cX3_init RX3 kA (rmC 1 36 1162) 2 := h
  show J x [(h0, .inr (3, [.null, .null, .null, .null, .null, .null, .null, .null, .int 0, .int 0, .int 0]))] [(0, .ref h0), (1, .int 10)] 0 0 0 []
  refine j_aload_n h 0 rfl rfl dX3_init_0 ?_
  refine j_objInit h tw_373 tw_113 tw_114 (Nat.le_of_ble_eq_true rfl) (Nat.le_of_ble_eq_true rfl) (Nat.le_of_ble_eq_true rfl) dX3_init_1 ?_
  refine j_aload_n h 0 rfl rfl dX3_init_4 ?_
  refine j_bipush (v := 8) h (by decide) dX3_init_5 ?_
  refine j_bipush (v := 61) h (by decide) dX3_init_7 ?_
  refine j_multi (ty := .long) (cO := kA 7) (cy := kA 2) (N' := 8) (K' := 61) (z := (61, .inr (.inl (fun _ => 0)))) h tw_374 h.nw.2.2.2.2 tw_263 (h.kk.2 7 _ rfl).2 (h.kk.2 2 _ rfl).2 (by decide) (by decide) (by decide) (by decide) (by decide) rfl (Nat.le_of_ble_eq_true rfl) (Nat.le_of_ble_eq_true rfl) (fun _ => rfl) dX3_init_9 (fun q45 => ?_)
  refine j_sub [0, 1, 2, 3] (ws' := [(h0, .inr (3, [.null, .null, .null, .null, .null, .null, .null, .null, .int 0, .int 0, .int 0])), (q45, .inl (kA 7, 8, .inr (.inr (.inr (.inr (nx_q q45 8)))))), ((q45 + 1 + 0), .inl (kA 2, 61, .inr (.inl (fun _ => 0)))), ((q45 + 1 + 1), .inl (kA 2, 61, .inr (.inl (fun _ => 0))))]) rfl rfl (by decide) [0, 1] (lv' := [(0, .ref h0), (1, .int 10)]) rfl ?_
  show J x [(h0, .inr (3, [.null, .null, .null, .null, .null, .null, .null, .null, .int 0, .int 0, .int 0])), (q45, .inl (kA 7, 8, .inr (.inr (.inr (.inr (nx_q q45 8)))))), ((q45 + 1 + 0), .inl (kA 2, 61, .inr (.inl (fun _ => 0)))), ((q45 + 1 + 1), .inl (kA 2, 61, .inr (.inl (fun _ => 0))))] [(0, .ref h0), (1, .int 10)] 9 496 13 [.ref q45, .ref h0]
  refine j_putF (ws' := [(h0, .inr (3, [.null, .null, .null, .ref q45, .null, .null, .null, .null, .int 0, .int 0, .int 0])), (q45, .inl (kA 7, 8, .inr (.inr (.inr (.inr (nx_q q45 8)))))), ((q45 + 1 + 0), .inl (kA 2, 61, .inr (.inl (fun _ => 0)))), ((q45 + 1 + 1), .inl (kA 2, 61, .inr (.inl (fun _ => 0))))]) h iw_X3 tyX3 tyX3_ok nmX3 0 rfl rfl 3 (by decide) tw_382 rfl hnm rfl rfl rfl (Nat.le_of_ble_eq_true rfl) dX3_init_13 rfl ?_
  refine j_aload_n h 0 rfl rfl dX3_init_16 ?_
  refine j_iconst (v := 2) h (by decide) dX3_init_17 ?_
  refine j_newa (atype := .long) (a0 := (2, .inr (.inl (fun _ => 0)))) h tw_263 rfl 2 rfl (fun _ => rfl) (by decide) (by decide) (by decide) (Nat.le_of_ble_eq_true rfl) (Nat.le_of_ble_eq_true rfl) dX3_init_18 (fun q46 => ?_)
  show J x [(h0, .inr (3, [.null, .null, .null, .ref q45, .null, .null, .null, .null, .int 0, .int 0, .int 0])), (q45, .inl (kA 7, 8, .inr (.inr (.inr (.inr (nx_q q45 8)))))), ((q45 + 1 + 0), .inl (kA 2, 61, .inr (.inl (fun _ => 0)))), ((q45 + 1 + 1), .inl (kA 2, 61, .inr (.inl (fun _ => 0)))), (q46, .inl (kA 2, 2, .inr (.inl (fun _ => 0))))] [(0, .ref h0), (1, .int 10)] 10 498 20 [.ref q46, .ref h0]
  refine j_putF (ws' := [(h0, .inr (3, [.null, .null, .null, .ref q45, .null, .ref q46, .null, .null, .int 0, .int 0, .int 0])), (q45, .inl (kA 7, 8, .inr (.inr (.inr (.inr (nx_q q45 8)))))), ((q45 + 1 + 0), .inl (kA 2, 61, .inr (.inl (fun _ => 0)))), ((q45 + 1 + 1), .inl (kA 2, 61, .inr (.inl (fun _ => 0)))), (q46, .inl (kA 2, 2, .inr (.inl (fun _ => 0))))]) h iw_X3 tyX3 tyX3_ok nmX3 0 rfl rfl 5 (by decide) tw_384 rfl hnm rfl rfl rfl (Nat.le_of_ble_eq_true rfl) dX3_init_20 rfl ?_
  refine j_aload_n h 0 rfl rfl dX3_init_23 ?_
  refine j_iconst (v := 2) h (by decide) dX3_init_24 ?_
  refine j_newa (atype := .long) (a0 := (2, .inr (.inl (fun _ => 0)))) h tw_263 rfl 2 rfl (fun _ => rfl) (by decide) (by decide) (by decide) (Nat.le_of_ble_eq_true rfl) (Nat.le_of_ble_eq_true rfl) dX3_init_25 (fun q47 => ?_)
  show J x [(h0, .inr (3, [.null, .null, .null, .ref q45, .null, .ref q46, .null, .null, .int 0, .int 0, .int 0])), (q45, .inl (kA 7, 8, .inr (.inr (.inr (.inr (nx_q q45 8)))))), ((q45 + 1 + 0), .inl (kA 2, 61, .inr (.inl (fun _ => 0)))), ((q45 + 1 + 1), .inl (kA 2, 61, .inr (.inl (fun _ => 0)))), (q46, .inl (kA 2, 2, .inr (.inl (fun _ => 0)))), (q47, .inl (kA 2, 2, .inr (.inl (fun _ => 0))))] [(0, .ref h0), (1, .int 10)] 11 500 27 [.ref q47, .ref h0]
  refine j_putF (ws' := [(h0, .inr (3, [.null, .null, .null, .ref q45, .null, .ref q46, .ref q47, .null, .int 0, .int 0, .int 0])), (q45, .inl (kA 7, 8, .inr (.inr (.inr (.inr (nx_q q45 8)))))), ((q45 + 1 + 0), .inl (kA 2, 61, .inr (.inl (fun _ => 0)))), ((q45 + 1 + 1), .inl (kA 2, 61, .inr (.inl (fun _ => 0)))), (q46, .inl (kA 2, 2, .inr (.inl (fun _ => 0)))), (q47, .inl (kA 2, 2, .inr (.inl (fun _ => 0))))]) h iw_X3 tyX3 tyX3_ok nmX3 0 rfl rfl 6 (by decide) tw_385 rfl hnm rfl rfl rfl (Nat.le_of_ble_eq_true rfl) dX3_init_27 rfl ?_
  refine j_aload_n h 0 rfl rfl dX3_init_30 ?_
  refine j_iconst (v := 2) h (by decide) dX3_init_31 ?_
  refine j_newa (atype := .long) (a0 := (2, .inr (.inl (fun _ => 0)))) h tw_263 rfl 2 rfl (fun _ => rfl) (by decide) (by decide) (by decide) (Nat.le_of_ble_eq_true rfl) (Nat.le_of_ble_eq_true rfl) dX3_init_32 (fun q48 => ?_)
  show J x [(h0, .inr (3, [.null, .null, .null, .ref q45, .null, .ref q46, .ref q47, .null, .int 0, .int 0, .int 0])), (q45, .inl (kA 7, 8, .inr (.inr (.inr (.inr (nx_q q45 8)))))), ((q45 + 1 + 0), .inl (kA 2, 61, .inr (.inl (fun _ => 0)))), ((q45 + 1 + 1), .inl (kA 2, 61, .inr (.inl (fun _ => 0)))), (q46, .inl (kA 2, 2, .inr (.inl (fun _ => 0)))), (q47, .inl (kA 2, 2, .inr (.inl (fun _ => 0)))), (q48, .inl (kA 2, 2, .inr (.inl (fun _ => 0))))] [(0, .ref h0), (1, .int 10)] 12 502 34 [.ref q48, .ref h0]
  refine j_putF (ws' := [(h0, .inr (3, [.null, .null, .null, .ref q45, .null, .ref q46, .ref q47, .ref q48, .int 0, .int 0, .int 0])), (q45, .inl (kA 7, 8, .inr (.inr (.inr (.inr (nx_q q45 8)))))), ((q45 + 1 + 0), .inl (kA 2, 61, .inr (.inl (fun _ => 0)))), ((q45 + 1 + 1), .inl (kA 2, 61, .inr (.inl (fun _ => 0)))), (q46, .inl (kA 2, 2, .inr (.inl (fun _ => 0)))), (q47, .inl (kA 2, 2, .inr (.inl (fun _ => 0)))), (q48, .inl (kA 2, 2, .inr (.inl (fun _ => 0))))]) h iw_X3 tyX3 tyX3_ok nmX3 0 rfl rfl 7 (by decide) tw_386 rfl hnm rfl rfl rfl (Nat.le_of_ble_eq_true rfl) dX3_init_34 rfl ?_
  refine j_aload_n h 0 rfl rfl dX3_init_37 ?_
  refine j_iload_n h 1 rfl rfl dX3_init_38 ?_
  refine j_newa (atype := .int) (a0 := (10, .inl (fun _ => 0))) h tw_264 rfl 1 rfl (fun _ => rfl) (by decide) (by decide) (by decide) (Nat.le_of_ble_eq_true rfl) (Nat.le_of_ble_eq_true rfl) dX3_init_39 (fun q49 => ?_)
  show J x [(h0, .inr (3, [.null, .null, .null, .ref q45, .null, .ref q46, .ref q47, .ref q48, .int 0, .int 0, .int 0])), (q45, .inl (kA 7, 8, .inr (.inr (.inr (.inr (nx_q q45 8)))))), ((q45 + 1 + 0), .inl (kA 2, 61, .inr (.inl (fun _ => 0)))), ((q45 + 1 + 1), .inl (kA 2, 61, .inr (.inl (fun _ => 0)))), (q46, .inl (kA 2, 2, .inr (.inl (fun _ => 0)))), (q47, .inl (kA 2, 2, .inr (.inl (fun _ => 0)))), (q48, .inl (kA 2, 2, .inr (.inl (fun _ => 0)))), (q49, .inl (kA 1, 10, .inl (fun _ => 0)))] [(0, .ref h0), (1, .int 10)] 13 512 41 [.ref q49, .ref h0]
  refine j_putF (ws' := [(h0, .inr (3, [.ref q49, .null, .null, .ref q45, .null, .ref q46, .ref q47, .ref q48, .int 0, .int 0, .int 0])), (q45, .inl (kA 7, 8, .inr (.inr (.inr (.inr (nx_q q45 8)))))), ((q45 + 1 + 0), .inl (kA 2, 61, .inr (.inl (fun _ => 0)))), ((q45 + 1 + 1), .inl (kA 2, 61, .inr (.inl (fun _ => 0)))), (q46, .inl (kA 2, 2, .inr (.inl (fun _ => 0)))), (q47, .inl (kA 2, 2, .inr (.inl (fun _ => 0)))), (q48, .inl (kA 2, 2, .inr (.inl (fun _ => 0)))), (q49, .inl (kA 1, 10, .inl (fun _ => 0)))]) h iw_X3 tyX3 tyX3_ok nmX3 0 rfl rfl 0 (by decide) tw_377 rfl hnm rfl rfl rfl (Nat.le_of_ble_eq_true rfl) dX3_init_41 rfl ?_
  refine j_aload_n h 0 rfl rfl dX3_init_44 ?_
  refine j_iload_n h 1 rfl rfl dX3_init_45 ?_
  refine j_iconst (v := 2) h (by decide) dX3_init_46 ?_
  refine j_multi (ty := .int) (cO := kA 6) (cy := kA 1) (N' := 10) (K' := 2) (z := (2, .inl (fun _ => 0))) h tw_376 h.nw.2.2.2.1 tw_264 (h.kk.2 6 _ rfl).2 (h.kk.2 1 _ rfl).2 (by decide) (by decide) (by decide) (by decide) (by decide) rfl (Nat.le_of_ble_eq_true rfl) (Nat.le_of_ble_eq_true rfl) (fun _ => rfl) dX3_init_47 (fun q50 => ?_)
  refine j_sub [0, 1, 2, 3, 4, 5, 6, 7, 8] (ws' := [(h0, .inr (3, [.ref q49, .null, .null, .ref q45, .null, .ref q46, .ref q47, .ref q48, .int 0, .int 0, .int 0])), (q45, .inl (kA 7, 8, .inr (.inr (.inr (.inr (nx_q q45 8)))))), ((q45 + 1 + 0), .inl (kA 2, 61, .inr (.inl (fun _ => 0)))), ((q45 + 1 + 1), .inl (kA 2, 61, .inr (.inl (fun _ => 0)))), (q46, .inl (kA 2, 2, .inr (.inl (fun _ => 0)))), (q47, .inl (kA 2, 2, .inr (.inl (fun _ => 0)))), (q48, .inl (kA 2, 2, .inr (.inl (fun _ => 0)))), (q49, .inl (kA 1, 10, .inl (fun _ => 0))), (q50, .inl (kA 6, 10, .inr (.inr (.inr (.inr (nx_q q50 10))))))]) rfl rfl (by decide) [0, 1] (lv' := [(0, .ref h0), (1, .int 10)]) rfl ?_
  show J x [(h0, .inr (3, [.ref q49, .null, .null, .ref q45, .null, .ref q46, .ref q47, .ref q48, .int 0, .int 0, .int 0])), (q45, .inl (kA 7, 8, .inr (.inr (.inr (.inr (nx_q q45 8)))))), ((q45 + 1 + 0), .inl (kA 2, 61, .inr (.inl (fun _ => 0)))), ((q45 + 1 + 1), .inl (kA 2, 61, .inr (.inl (fun _ => 0)))), (q46, .inl (kA 2, 2, .inr (.inl (fun _ => 0)))), (q47, .inl (kA 2, 2, .inr (.inl (fun _ => 0)))), (q48, .inl (kA 2, 2, .inr (.inl (fun _ => 0)))), (q49, .inl (kA 1, 10, .inl (fun _ => 0))), (q50, .inl (kA 6, 10, .inr (.inr (.inr (.inr (nx_q q50 10))))))] [(0, .ref h0), (1, .int 10)] 24 542 51 [.ref q50, .ref h0]
  refine j_putF (ws' := [(h0, .inr (3, [.ref q49, .ref q50, .null, .ref q45, .null, .ref q46, .ref q47, .ref q48, .int 0, .int 0, .int 0])), (q45, .inl (kA 7, 8, .inr (.inr (.inr (.inr (nx_q q45 8)))))), ((q45 + 1 + 0), .inl (kA 2, 61, .inr (.inl (fun _ => 0)))), ((q45 + 1 + 1), .inl (kA 2, 61, .inr (.inl (fun _ => 0)))), (q46, .inl (kA 2, 2, .inr (.inl (fun _ => 0)))), (q47, .inl (kA 2, 2, .inr (.inl (fun _ => 0)))), (q48, .inl (kA 2, 2, .inr (.inl (fun _ => 0)))), (q49, .inl (kA 1, 10, .inl (fun _ => 0))), (q50, .inl (kA 6, 10, .inr (.inr (.inr (.inr (nx_q q50 10))))))]) h iw_X3 tyX3 tyX3_ok nmX3 0 rfl rfl 1 (by decide) tw_379 rfl hnm rfl rfl rfl (Nat.le_of_ble_eq_true rfl) dX3_init_51 rfl ?_
  refine j_aload_n h 0 rfl rfl dX3_init_54 ?_
  refine j_iload_n h 1 rfl rfl dX3_init_55 ?_
  refine j_bipush (v := 60) h (by decide) dX3_init_56 ?_
  refine j_multi (ty := .int) (cO := kA 6) (cy := kA 1) (N' := 10) (K' := 60) (z := (60, .inl (fun _ => 0))) h tw_376 h.nw.2.2.2.1 tw_264 (h.kk.2 6 _ rfl).2 (h.kk.2 1 _ rfl).2 (by decide) (by decide) (by decide) (by decide) (by decide) rfl (Nat.le_of_ble_eq_true rfl) (Nat.le_of_ble_eq_true rfl) (fun _ => rfl) dX3_init_58 (fun q51 => ?_)
  refine j_sub [0, 1, 2, 3, 4, 5, 6, 7, 8, 9] (ws' := [(h0, .inr (3, [.ref q49, .ref q50, .null, .ref q45, .null, .ref q46, .ref q47, .ref q48, .int 0, .int 0, .int 0])), (q45, .inl (kA 7, 8, .inr (.inr (.inr (.inr (nx_q q45 8)))))), ((q45 + 1 + 0), .inl (kA 2, 61, .inr (.inl (fun _ => 0)))), ((q45 + 1 + 1), .inl (kA 2, 61, .inr (.inl (fun _ => 0)))), (q46, .inl (kA 2, 2, .inr (.inl (fun _ => 0)))), (q47, .inl (kA 2, 2, .inr (.inl (fun _ => 0)))), (q48, .inl (kA 2, 2, .inr (.inl (fun _ => 0)))), (q49, .inl (kA 1, 10, .inl (fun _ => 0))), (q50, .inl (kA 6, 10, .inr (.inr (.inr (.inr (nx_q q50 10)))))), (q51, .inl (kA 6, 10, .inr (.inr (.inr (.inr (nx_q q51 10))))))]) rfl rfl (by decide) [0, 1] (lv' := [(0, .ref h0), (1, .int 10)]) rfl ?_
  show J x [(h0, .inr (3, [.ref q49, .ref q50, .null, .ref q45, .null, .ref q46, .ref q47, .ref q48, .int 0, .int 0, .int 0])), (q45, .inl (kA 7, 8, .inr (.inr (.inr (.inr (nx_q q45 8)))))), ((q45 + 1 + 0), .inl (kA 2, 61, .inr (.inl (fun _ => 0)))), ((q45 + 1 + 1), .inl (kA 2, 61, .inr (.inl (fun _ => 0)))), (q46, .inl (kA 2, 2, .inr (.inl (fun _ => 0)))), (q47, .inl (kA 2, 2, .inr (.inl (fun _ => 0)))), (q48, .inl (kA 2, 2, .inr (.inl (fun _ => 0)))), (q49, .inl (kA 1, 10, .inl (fun _ => 0))), (q50, .inl (kA 6, 10, .inr (.inr (.inr (.inr (nx_q q50 10)))))), (q51, .inl (kA 6, 10, .inr (.inr (.inr (.inr (nx_q q51 10))))))] [(0, .ref h0), (1, .int 10)] 35 1152 62 [.ref q51, .ref h0]
  refine j_putF (ws' := [(h0, .inr (3, [.ref q49, .ref q50, .ref q51, .ref q45, .null, .ref q46, .ref q47, .ref q48, .int 0, .int 0, .int 0])), (q45, .inl (kA 7, 8, .inr (.inr (.inr (.inr (nx_q q45 8)))))), ((q45 + 1 + 0), .inl (kA 2, 61, .inr (.inl (fun _ => 0)))), ((q45 + 1 + 1), .inl (kA 2, 61, .inr (.inl (fun _ => 0)))), (q46, .inl (kA 2, 2, .inr (.inl (fun _ => 0)))), (q47, .inl (kA 2, 2, .inr (.inl (fun _ => 0)))), (q48, .inl (kA 2, 2, .inr (.inl (fun _ => 0)))), (q49, .inl (kA 1, 10, .inl (fun _ => 0))), (q50, .inl (kA 6, 10, .inr (.inr (.inr (.inr (nx_q q50 10)))))), (q51, .inl (kA 6, 10, .inr (.inr (.inr (.inr (nx_q q51 10))))))]) h iw_X3 tyX3 tyX3_ok nmX3 0 rfl rfl 2 (by decide) tw_381 rfl hnm rfl rfl rfl (Nat.le_of_ble_eq_true rfl) dX3_init_62 rfl ?_
  refine j_aload_n h 0 rfl rfl dX3_init_65 ?_
  refine j_iload_n h 1 rfl rfl dX3_init_66 ?_
  refine j_newa (atype := .long) (a0 := (10, .inr (.inl (fun _ => 0)))) h tw_263 rfl 2 rfl (fun _ => rfl) (by decide) (by decide) (by decide) (Nat.le_of_ble_eq_true rfl) (Nat.le_of_ble_eq_true rfl) dX3_init_67 (fun q52 => ?_)
  show J x [(h0, .inr (3, [.ref q49, .ref q50, .ref q51, .ref q45, .null, .ref q46, .ref q47, .ref q48, .int 0, .int 0, .int 0])), (q45, .inl (kA 7, 8, .inr (.inr (.inr (.inr (nx_q q45 8)))))), ((q45 + 1 + 0), .inl (kA 2, 61, .inr (.inl (fun _ => 0)))), ((q45 + 1 + 1), .inl (kA 2, 61, .inr (.inl (fun _ => 0)))), (q46, .inl (kA 2, 2, .inr (.inl (fun _ => 0)))), (q47, .inl (kA 2, 2, .inr (.inl (fun _ => 0)))), (q48, .inl (kA 2, 2, .inr (.inl (fun _ => 0)))), (q49, .inl (kA 1, 10, .inl (fun _ => 0))), (q50, .inl (kA 6, 10, .inr (.inr (.inr (.inr (nx_q q50 10)))))), (q51, .inl (kA 6, 10, .inr (.inr (.inr (.inr (nx_q q51 10)))))), (q52, .inl (kA 2, 10, .inr (.inl (fun _ => 0))))] [(0, .ref h0), (1, .int 10)] 36 1162 69 [.ref q52, .ref h0]
  refine j_putF (ws' := [(h0, .inr (3, [.ref q49, .ref q50, .ref q51, .ref q45, .ref q52, .ref q46, .ref q47, .ref q48, .int 0, .int 0, .int 0])), (q45, .inl (kA 7, 8, .inr (.inr (.inr (.inr (nx_q q45 8)))))), ((q45 + 1 + 0), .inl (kA 2, 61, .inr (.inl (fun _ => 0)))), ((q45 + 1 + 1), .inl (kA 2, 61, .inr (.inl (fun _ => 0)))), (q46, .inl (kA 2, 2, .inr (.inl (fun _ => 0)))), (q47, .inl (kA 2, 2, .inr (.inl (fun _ => 0)))), (q48, .inl (kA 2, 2, .inr (.inl (fun _ => 0)))), (q49, .inl (kA 1, 10, .inl (fun _ => 0))), (q50, .inl (kA 6, 10, .inr (.inr (.inr (.inr (nx_q q50 10)))))), (q51, .inl (kA 6, 10, .inr (.inr (.inr (.inr (nx_q q51 10)))))), (q52, .inl (kA 2, 10, .inr (.inl (fun _ => 0))))]) h iw_X3 tyX3 tyX3_ok nmX3 0 rfl rfl 4 (by decide) tw_383 rfl hnm rfl rfl rfl (Nat.le_of_ble_eq_true rfl) dX3_init_69 rfl ?_
  exact j_vret h hq dX3_init_72 (q49, q50, q51, q45, q52, q46, q47, q48) [0, 1, 2, 3, 4, 5, 6] rfl rfl (by decide) trivial (Nat.le_of_ble_eq_true rfl) (Nat.le_of_ble_eq_true rfl)
