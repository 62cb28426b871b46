theorem dX2_standStill_0 : decode cX2_standStill 0 = .ok (.aload_n 0, 1) := by decide +kernel
theorem dX2_standStill_1 : decode cX2_standStill 1 = .ok (.iconst 0, 1) := by decide +kernel
theorem dX2_standStill_2 : decode cX2_standStill 2 = .ok (.putfield 32, 3) := by decide +kernel
theorem iw_X2 : ∀ w ∈ u_ws RX2 TX2 6, w ∈ TT := nx_mems _ [281, 283, 285, 287, 289, 291] (by decide +kernel) (by decide +kernel)
theorem tw_274 : Cond.fieldLink RX2 32 "LimpCode$Earnest" "size" "I" ∈ TT := nx_mem 274 (by decide +kernel) (by decide +kernel)
theorem dX2_standStill_5 : decode cX2_standStill 5 = .ok (.aload_n 0, 1) := by decide +kernel
theorem dX2_standStill_6 : decode cX2_standStill 6 = .ok (.iconst 0, 1) := by decide +kernel
theorem dX2_standStill_7 : decode cX2_standStill 7 = .ok (.putfield 36, 3) := by decide +kernel
theorem tw_276 : Cond.fieldLink RX2 36 "LimpCode$Earnest" "time" "I" ∈ TT := nx_mem 276 (by decide +kernel) (by decide +kernel)
theorem dX2_standStill_10 : decode cX2_standStill 10 = .ok (.aload_n 0, 1) := by decide +kernel
theorem dX2_standStill_11 : decode cX2_standStill 11 = .ok (.iconst 0, 1) := by decide +kernel
theorem dX2_standStill_12 : decode cX2_standStill 12 = .ok (.putfield 39, 3) := by decide +kernel
theorem tw_278 : Cond.fieldLink RX2 39 "LimpCode$Earnest" "foot" "I" ∈ TT := nx_mem 278 (by decide +kernel) (by decide +kernel)
theorem dX2_standStill_15 : decode cX2_standStill 15 = .ok (.return_, 1) := by decide +kernel
theorem dX2_walkOn_0 : decode cX2_walkOn 0 = .ok (.aload_n 1, 1) := by decide +kernel
theorem dX2_walkOn_1 : decode cX2_walkOn 1 = .ok (.iload_n 2, 1) := by decide +kernel
theorem dX2_walkOn_2 : decode cX2_walkOn 2 = .ok (.invokevirtual 42, 3) := by decide +kernel
theorem tw_758 : Cond.methodLink RX2 42 yX5_hasStep ∈ TT := nx_mem 758 (by decide +kernel) (by decide +kernel)
theorem dX2_walkOn_5 : decode cX2_walkOn 5 = .ok (.ifCond .eq 15, 3) := by decide +kernel
theorem dX2_walkOn_20 : decode cX2_walkOn 20 = .ok (.iconst 0, 1) := by decide +kernel
theorem dX2_walkOn_21 : decode cX2_walkOn 21 = .ok (.ireturn, 1) := by decide +kernel
theorem dX2_walkOn_8 : decode cX2_walkOn 8 = .ok (.aload_n 0, 1) := by decide +kernel
theorem dX2_walkOn_9 : decode cX2_walkOn 9 = .ok (.getfield 32, 3) := by decide +kernel
theorem dX2_walkOn_12 : decode cX2_walkOn 12 = .ok (.aload_n 0, 1) := by decide +kernel
theorem dX2_walkOn_13 : decode cX2_walkOn 13 = .ok (.getfield 9, 3) := by decide +kernel
theorem tw_271 : Cond.fieldLink RX2 9 "LimpCode$Earnest" "row" "[I" ∈ TT := nx_mem 271 (by decide +kernel) (by decide +kernel)
theorem dX2_walkOn_16 : decode cX2_walkOn 16 = .ok (.arraylength, 1) := by decide +kernel
theorem dX2_walkOn_17 : decode cX2_walkOn 17 = .ok (.if_icmp .lt 5, 3) := by decide +kernel
theorem dX2_walkOn_22 : decode cX2_walkOn 22 = .ok (.aload_n 1, 1) := by decide +kernel
theorem dX2_walkOn_23 : decode cX2_walkOn 23 = .ok (.iload_n 2, 1) := by decide +kernel
theorem dX2_walkOn_24 : decode cX2_walkOn 24 = .ok (.aload_n 0, 1) := by decide +kernel
theorem dX2_walkOn_25 : decode cX2_walkOn 25 = .ok (.getfield 39, 3) := by decide +kernel
theorem dX2_walkOn_28 : decode cX2_walkOn 28 = .ok (.invokevirtual 46, 3) := by decide +kernel
theorem tw_759 : Cond.methodLink RX2 46 yX5_footAfter ∈ TT := nx_mem 759 (by decide +kernel) (by decide +kernel)
theorem tw_709 : Cond.instanceMethod yX5_footAfter ∈ TT := nx_mem 709 (by decide +kernel) (by decide +kernel)
theorem tw_710 : Cond.selects RX5 yX5_footAfter yX5_footAfter ∈ TT := nx_mem 710 (by decide +kernel) (by decide +kernel)
theorem tw_711 : Cond.code yX5_footAfter cX5_footAfter 4 (some .int) ∈ TT := nx_mem 711 (by decide +kernel) (by decide +kernel)
theorem dX2_walkOn_31 : decode cX2_walkOn 31 = .ok (.istore_n 3, 1) := by decide +kernel
theorem dX2_walkOn_32 : decode cX2_walkOn 32 = .ok (.iload_n 3, 1) := by decide +kernel
theorem dX2_walkOn_33 : decode cX2_walkOn 33 = .ok (.iconst (-1), 1) := by decide +kernel
theorem dX2_walkOn_34 : decode cX2_walkOn 34 = .ok (.if_icmp .eq 19, 3) := by decide +kernel
theorem dX2_walkOn_53 : decode cX2_walkOn 53 = .ok (.iconst 0, 1) := by decide +kernel
theorem dX2_walkOn_54 : decode cX2_walkOn 54 = .ok (.ireturn, 1) := by decide +kernel
theorem dX2_walkOn_37 : decode cX2_walkOn 37 = .ok (.aload_n 0, 1) := by decide +kernel
theorem dX2_walkOn_38 : decode cX2_walkOn 38 = .ok (.getfield 36, 3) := by decide +kernel
theorem dX2_walkOn_41 : decode cX2_walkOn 41 = .ok (.aload_n 1, 1) := by decide +kernel
theorem dX2_walkOn_42 : decode cX2_walkOn 42 = .ok (.getfield 50, 3) := by decide +kernel
theorem tw_180 : Cond.fieldLink RX2 50 "LimpCode$School" "takes" "[I" ∈ TT := nx_mem 180 (by decide +kernel) (by decide +kernel)
theorem dX2_walkOn_45 : decode cX2_walkOn 45 = .ok (.iload_n 2, 1) := by decide +kernel
theorem dX2_walkOn_46 : decode cX2_walkOn 46 = .ok (.iaload, 1) := by decide +kernel
theorem dX2_walkOn_47 : decode cX2_walkOn 47 = .ok (.iadd, 1) := by decide +kernel
theorem dX2_walkOn_48 : decode cX2_walkOn 48 = .ok (.bipush 60, 2) := by decide +kernel
theorem dX2_walkOn_50 : decode cX2_walkOn 50 = .ok (.if_icmp .le 5, 3) := by decide +kernel
theorem dX2_walkOn_55 : decode cX2_walkOn 55 = .ok (.aload_n 0, 1) := by decide +kernel
theorem dX2_walkOn_56 : decode cX2_walkOn 56 = .ok (.getfield 9, 3) := by decide +kernel
theorem dX2_walkOn_59 : decode cX2_walkOn 59 = .ok (.aload_n 0, 1) := by decide +kernel
theorem dX2_walkOn_60 : decode cX2_walkOn 60 = .ok (.getfield 32, 3) := by decide +kernel
theorem dX2_walkOn_63 : decode cX2_walkOn 63 = .ok (.iload_n 2, 1) := by decide +kernel
theorem dX2_walkOn_64 : decode cX2_walkOn 64 = .ok (.iastore, 1) := by decide +kernel
theorem dX2_walkOn_65 : decode cX2_walkOn 65 = .ok (.aload_n 0, 1) := by decide +kernel
theorem dX2_walkOn_66 : decode cX2_walkOn 66 = .ok (.dup, 1) := by decide +kernel
theorem dX2_walkOn_67 : decode cX2_walkOn 67 = .ok (.getfield 32, 3) := by decide +kernel
theorem dX2_walkOn_70 : decode cX2_walkOn 70 = .ok (.iconst 1, 1) := by decide +kernel
theorem dX2_walkOn_71 : decode cX2_walkOn 71 = .ok (.iadd, 1) := by decide +kernel
theorem dX2_walkOn_72 : decode cX2_walkOn 72 = .ok (.putfield 32, 3) := by decide +kernel
theorem dX2_walkOn_75 : decode cX2_walkOn 75 = .ok (.aload_n 0, 1) := by decide +kernel
theorem dX2_walkOn_76 : decode cX2_walkOn 76 = .ok (.dup, 1) := by decide +kernel
theorem dX2_walkOn_77 : decode cX2_walkOn 77 = .ok (.getfield 36, 3) := by decide +kernel
theorem dX2_walkOn_80 : decode cX2_walkOn 80 = .ok (.aload_n 1, 1) := by decide +kernel
theorem dX2_walkOn_81 : decode cX2_walkOn 81 = .ok (.getfield 50, 3) := by decide +kernel
theorem dX2_walkOn_84 : decode cX2_walkOn 84 = .ok (.iload_n 2, 1) := by decide +kernel
theorem dX2_walkOn_85 : decode cX2_walkOn 85 = .ok (.iaload, 1) := by decide +kernel
theorem dX2_walkOn_86 : decode cX2_walkOn 86 = .ok (.iadd, 1) := by decide +kernel
theorem dX2_walkOn_87 : decode cX2_walkOn 87 = .ok (.putfield 36, 3) := by decide +kernel
theorem dX2_walkOn_90 : decode cX2_walkOn 90 = .ok (.aload_n 0, 1) := by decide +kernel
theorem dX2_walkOn_91 : decode cX2_walkOn 91 = .ok (.iload_n 3, 1) := by decide +kernel
theorem dX2_walkOn_92 : decode cX2_walkOn 92 = .ok (.putfield 39, 3) := by decide +kernel
theorem dX2_walkOn_95 : decode cX2_walkOn 95 = .ok (.iconst 1, 1) := by decide +kernel
theorem dX2_walkOn_96 : decode cX2_walkOn 96 = .ok (.ireturn, 1) := by decide +kernel
theorem dX2_walkLetter_0 : decode cX2_walkLetter 0 = .ok (.aload_n 1, 1) := by decide +kernel
theorem dX2_walkLetter_1 : decode cX2_walkLetter 1 = .ok (.iload_n 2, 1) := by decide +kernel
theorem dX2_walkLetter_2 : decode cX2_walkLetter 2 = .ok (.invokevirtual 61, 3) := by decide +kernel
theorem tw_775 : Cond.methodLink RX2 61 yX5_hasLetter ∈ TT := nx_mem 775 (by decide +kernel) (by decide +kernel)
theorem tw_776 : Cond.instanceMethod yX5_hasLetter ∈ TT := nx_mem 776 (by decide +kernel) (by decide +kernel)
theorem tw_777 : Cond.selects RX5 yX5_hasLetter yX5_hasLetter ∈ TT := nx_mem 777 (by decide +kernel) (by decide +kernel)
theorem tw_778 : Cond.code yX5_hasLetter cX5_hasLetter 2 (some .boolean) ∈ TT := nx_mem 778 (by decide +kernel) (by decide +kernel)
theorem dX2_walkLetter_5 : decode cX2_walkLetter 5 = .ok (.ifCond .ne 5, 3) := by decide +kernel
theorem dX2_walkLetter_8 : decode cX2_walkLetter 8 = .ok (.iconst 0, 1) := by decide +kernel
theorem dX2_walkLetter_9 : decode cX2_walkLetter 9 = .ok (.ireturn, 1) := by decide +kernel
theorem dX2_walkLetter_10 : decode cX2_walkLetter 10 = .ok (.iconst 0, 1) := by decide +kernel
theorem dX2_walkLetter_11 : decode cX2_walkLetter 11 = .ok (.istore_n 3, 1) := by decide +kernel
theorem dX2_walkLetter_12 : decode cX2_walkLetter 12 = .ok (.iload_n 3, 1) := by decide +kernel
theorem dX2_walkLetter_13 : decode cX2_walkLetter 13 = .ok (.aload_n 1, 1) := by decide +kernel
theorem dX2_walkLetter_14 : decode cX2_walkLetter 14 = .ok (.getfield 64, 3) := by decide +kernel
theorem tw_194 : Cond.fieldLink RX2 64 "LimpCode$School" "letterSizes" "[I" ∈ TT := nx_mem 194 (by decide +kernel) (by decide +kernel)
theorem dX2_walkLetter_17 : decode cX2_walkLetter 17 = .ok (.iload_n 2, 1) := by decide +kernel
theorem dX2_walkLetter_18 : decode cX2_walkLetter 18 = .ok (.iaload, 1) := by decide +kernel
theorem dX2_walkLetter_19 : decode cX2_walkLetter 19 = .ok (.if_icmp .ge 27, 3) := by decide +kernel
theorem dX2_walkLetter_46 : decode cX2_walkLetter 46 = .ok (.iconst 1, 1) := by decide +kernel
theorem dX2_walkLetter_47 : decode cX2_walkLetter 47 = .ok (.ireturn, 1) := by decide +kernel
theorem dX2_walkLetter_22 : decode cX2_walkLetter 22 = .ok (.aload_n 0, 1) := by decide +kernel
theorem dX2_walkLetter_23 : decode cX2_walkLetter 23 = .ok (.aload_n 1, 1) := by decide +kernel
theorem dX2_walkLetter_24 : decode cX2_walkLetter 24 = .ok (.aload_n 1, 1) := by decide +kernel
theorem dX2_walkLetter_25 : decode cX2_walkLetter 25 = .ok (.getfield 67, 3) := by decide +kernel
theorem tw_198 : Cond.fieldLink RX2 67 "LimpCode$School" "letterRows" "[[I" ∈ TT := nx_mem 198 (by decide +kernel) (by decide +kernel)
theorem dX2_walkLetter_28 : decode cX2_walkLetter 28 = .ok (.iload_n 2, 1) := by decide +kernel
theorem dX2_walkLetter_29 : decode cX2_walkLetter 29 = .ok (.aaload, 1) := by decide +kernel
theorem dX2_walkLetter_30 : decode cX2_walkLetter 30 = .ok (.iload_n 3, 1) := by decide +kernel
theorem dX2_walkLetter_31 : decode cX2_walkLetter 31 = .ok (.iaload, 1) := by decide +kernel
theorem dX2_walkLetter_32 : decode cX2_walkLetter 32 = .ok (.invokevirtual 71, 3) := by decide +kernel
theorem tw_779 : Cond.methodLink RX2 71 yX2_walkOn ∈ TT := nx_mem 779 (by decide +kernel) (by decide +kernel)
theorem tw_755 : Cond.instanceMethod yX2_walkOn ∈ TT := nx_mem 755 (by decide +kernel) (by decide +kernel)
theorem tw_756 : Cond.selects RX2 yX2_walkOn yX2_walkOn ∈ TT := nx_mem 756 (by decide +kernel) (by decide +kernel)
theorem tw_91 : Cond.initialized RX2 ∈ TT := nx_mem 91 (by decide +kernel) (by decide +kernel)
theorem tw_757 : Cond.code yX2_walkOn cX2_walkOn 4 (some .boolean) ∈ TT := nx_mem 757 (by decide +kernel) (by decide +kernel)
theorem dX2_walkLetter_35 : decode cX2_walkLetter 35 = .ok (.ifCond .ne 5, 3) := by decide +kernel
theorem dX2_walkLetter_40 : decode cX2_walkLetter 40 = .ok (.iinc 3 1, 3) := by decide +kernel
theorem dX2_walkLetter_43 : decode cX2_walkLetter 43 = .ok (.goto (-31), 3) := by decide +kernel
theorem dX2_walkLetter_38 : decode cX2_walkLetter 38 = .ok (.iconst 0, 1) := by decide +kernel
theorem dX2_walkLetter_39 : decode cX2_walkLetter 39 = .ok (.ireturn, 1) := by decide +kernel
theorem dX2_walkAll_0 : decode cX2_walkAll 0 = .ok (.aload_n 0, 1) := by decide +kernel
theorem dX2_walkAll_1 : decode cX2_walkAll 1 = .ok (.getfield 32, 3) := by decide +kernel
theorem dX2_walkAll_4 : decode cX2_walkAll 4 = .ok (.istore_n 3, 1) := by decide +kernel
theorem dX2_walkAll_5 : decode cX2_walkAll 5 = .ok (.aload_n 0, 1) := by decide +kernel
theorem dX2_walkAll_6 : decode cX2_walkAll 6 = .ok (.getfield 36, 3) := by decide +kernel
theorem dX2_walkAll_9 : decode cX2_walkAll 9 = .ok (.istore 4, 2) := by decide +kernel
theorem dX2_walkAll_11 : decode cX2_walkAll 11 = .ok (.aload_n 0, 1) := by decide +kernel
theorem dX2_walkAll_12 : decode cX2_walkAll 12 = .ok (.getfield 39, 3) := by decide +kernel
theorem dX2_walkAll_15 : decode cX2_walkAll 15 = .ok (.istore 5, 2) := by decide +kernel
theorem dX2_walkAll_17 : decode cX2_walkAll 17 = .ok (.iconst 0, 1) := by decide +kernel
theorem dX2_walkAll_18 : decode cX2_walkAll 18 = .ok (.istore 6, 2) := by decide +kernel
theorem dX2_walkAll_20 : decode cX2_walkAll 20 = .ok (.iload 6, 2) := by decide +kernel
theorem dX2_walkAll_22 : decode cX2_walkAll 22 = .ok (.aload_n 2, 1) := by decide +kernel
theorem dX2_walkAll_23 : decode cX2_walkAll 23 = .ok (.getfield 53, 3) := by decide +kernel
theorem iw_X10 : ∀ w ∈ u_ws RX10 TX10 4, w ∈ TT := nx_mems _ [312, 314, 316, 318] (by decide +kernel) (by decide +kernel)
theorem tw_307 : Cond.fieldLink RX2 53 "LimpCode$Text" "size" "I" ∈ TT := nx_mem 307 (by decide +kernel) (by decide +kernel)
theorem dX2_walkAll_26 : decode cX2_walkAll 26 = .ok (.if_icmp .ge 43, 3) := by decide +kernel
theorem dX2_walkAll_69 : decode cX2_walkAll 69 = .ok (.iconst 1, 1) := by decide +kernel
theorem dX2_walkAll_70 : decode cX2_walkAll 70 = .ok (.ireturn, 1) := by decide +kernel
theorem dX2_walkAll_29 : decode cX2_walkAll 29 = .ok (.aload_n 0, 1) := by decide +kernel
theorem dX2_walkAll_30 : decode cX2_walkAll 30 = .ok (.aload_n 1, 1) := by decide +kernel
theorem dX2_walkAll_31 : decode cX2_walkAll 31 = .ok (.aload_n 2, 1) := by decide +kernel
theorem dX2_walkAll_32 : decode cX2_walkAll 32 = .ok (.getfield 56, 3) := by decide +kernel
theorem tw_304 : Cond.fieldLink RX2 56 "LimpCode$Text" "row" "[I" ∈ TT := nx_mem 304 (by decide +kernel) (by decide +kernel)
theorem dX2_walkAll_35 : decode cX2_walkAll 35 = .ok (.iload 6, 2) := by decide +kernel
theorem dX2_walkAll_37 : decode cX2_walkAll 37 = .ok (.iaload, 1) := by decide +kernel
theorem dX2_walkAll_38 : decode cX2_walkAll 38 = .ok (.invokevirtual 57, 3) := by decide +kernel
theorem tw_771 : Cond.methodLink RX2 57 yX2_walkLetter ∈ TT := nx_mem 771 (by decide +kernel) (by decide +kernel)
theorem tw_773 : Cond.instanceMethod yX2_walkLetter ∈ TT := nx_mem 773 (by decide +kernel) (by decide +kernel)
theorem tw_15 : Cond.selects RX2 yX2_walkLetter yX2_walkLetter ∈ TT := nx_mem 15 (by decide +kernel) (by decide +kernel)
theorem tw_774 : Cond.code yX2_walkLetter cX2_walkLetter 4 (some .boolean) ∈ TT := nx_mem 774 (by decide +kernel) (by decide +kernel)
theorem dX2_walkAll_41 : decode cX2_walkAll 41 = .ok (.ifCond .ne 22, 3) := by decide +kernel
theorem dX2_walkAll_63 : decode cX2_walkAll 63 = .ok (.iinc 6 1, 3) := by decide +kernel
theorem dX2_walkAll_66 : decode cX2_walkAll 66 = .ok (.goto (-46), 3) := by decide +kernel
theorem dX2_walkAll_44 : decode cX2_walkAll 44 = .ok (.aload_n 0, 1) := by decide +kernel
theorem dX2_walkAll_45 : decode cX2_walkAll 45 = .ok (.iload_n 3, 1) := by decide +kernel
theorem dX2_walkAll_46 : decode cX2_walkAll 46 = .ok (.putfield 32, 3) := by decide +kernel
theorem dX2_walkAll_49 : decode cX2_walkAll 49 = .ok (.aload_n 0, 1) := by decide +kernel
theorem dX2_walkAll_50 : decode cX2_walkAll 50 = .ok (.iload 4, 2) := by decide +kernel
theorem dX2_walkAll_52 : decode cX2_walkAll 52 = .ok (.putfield 36, 3) := by decide +kernel
theorem dX2_walkAll_55 : decode cX2_walkAll 55 = .ok (.aload_n 0, 1) := by decide +kernel
theorem dX2_walkAll_56 : decode cX2_walkAll 56 = .ok (.iload 5, 2) := by decide +kernel
theorem dX2_walkAll_58 : decode cX2_walkAll 58 = .ok (.putfield 39, 3) := by decide +kernel
theorem dX2_walkAll_61 : decode cX2_walkAll 61 = .ok (.iconst 0, 1) := by decide +kernel
theorem dX2_walkAll_62 : decode cX2_walkAll 62 = .ok (.ireturn, 1) := by decide +kernel
theorem dX2_hearWalk_0 : decode cX2_hearWalk 0 = .ok (.iconst 0, 1) := by decide +kernel
theorem dX2_hearWalk_1 : decode cX2_hearWalk 1 = .ok (.istore 4, 2) := by decide +kernel
theorem dX2_hearWalk_3 : decode cX2_hearWalk 3 = .ok (.iconst 0, 1) := by decide +kernel
theorem dX2_hearWalk_4 : decode cX2_hearWalk 4 = .ok (.istore 5, 2) := by decide +kernel
theorem dX2_hearWalk_6 : decode cX2_hearWalk 6 = .ok (.iload 5, 2) := by decide +kernel
theorem dX2_hearWalk_8 : decode cX2_hearWalk 8 = .ok (.aload_n 0, 1) := by decide +kernel
theorem dX2_hearWalk_9 : decode cX2_hearWalk 9 = .ok (.getfield 32, 3) := by decide +kernel
theorem dX2_hearWalk_12 : decode cX2_hearWalk 12 = .ok (.if_icmp .ge 45, 3) := by decide +kernel
theorem dX2_hearWalk_57 : decode cX2_hearWalk 57 = .ok (.return_, 1) := by decide +kernel
theorem dX2_hearWalk_15 : decode cX2_hearWalk 15 = .ok (.aload_n 0, 1) := by decide +kernel
theorem dX2_hearWalk_16 : decode cX2_hearWalk 16 = .ok (.getfield 9, 3) := by decide +kernel
theorem dX2_hearWalk_19 : decode cX2_hearWalk 19 = .ok (.iload 5, 2) := by decide +kernel
theorem dX2_hearWalk_21 : decode cX2_hearWalk 21 = .ok (.iaload, 1) := by decide +kernel
theorem dX2_hearWalk_22 : decode cX2_hearWalk 22 = .ok (.istore 6, 2) := by decide +kernel
theorem dX2_hearWalk_24 : decode cX2_hearWalk 24 = .ok (.aload_n 3, 1) := by decide +kernel
theorem dX2_hearWalk_25 : decode cX2_hearWalk 25 = .ok (.iload 4, 2) := by decide +kernel
theorem dX2_hearWalk_27 : decode cX2_hearWalk 27 = .ok (.aload_n 1, 1) := by decide +kernel
theorem dX2_hearWalk_28 : decode cX2_hearWalk 28 = .ok (.aload_n 0, 1) := by decide +kernel
theorem dX2_hearWalk_29 : decode cX2_hearWalk 29 = .ok (.getfield 15, 3) := by decide +kernel
theorem tw_272 : Cond.fieldLink RX2 15 "LimpCode$Earnest" "loud" "[I" ∈ TT := nx_mem 272 (by decide +kernel) (by decide +kernel)
theorem dX2_hearWalk_32 : decode cX2_hearWalk 32 = .ok (.iload 6, 2) := by decide +kernel
theorem dX2_hearWalk_34 : decode cX2_hearWalk 34 = .ok (.iaload, 1) := by decide +kernel
theorem dX2_hearWalk_35 : decode cX2_hearWalk 35 = .ok (.iload_n 2, 1) := by decide +kernel
theorem dX2_hearWalk_36 : decode cX2_hearWalk 36 = .ok (.invokevirtual 74, 3) := by decide +kernel
theorem tw_797 : Cond.methodLink RX2 74 yX5_heardBelow ∈ TT := nx_mem 797 (by decide +kernel) (by decide +kernel)
theorem tw_798 : Cond.instanceMethod yX5_heardBelow ∈ TT := nx_mem 798 (by decide +kernel) (by decide +kernel)
theorem tw_799 : Cond.selects RX5 yX5_heardBelow yX5_heardBelow ∈ TT := nx_mem 799 (by decide +kernel) (by decide +kernel)
theorem tw_800 : Cond.code yX5_heardBelow cX5_heardBelow 3 (some .int) ∈ TT := nx_mem 800 (by decide +kernel) (by decide +kernel)
theorem dX2_hearWalk_39 : decode cX2_hearWalk 39 = .ok (.aload_n 1, 1) := by decide +kernel
theorem dX2_hearWalk_40 : decode cX2_hearWalk 40 = .ok (.getfield 50, 3) := by decide +kernel
theorem dX2_hearWalk_43 : decode cX2_hearWalk 43 = .ok (.iload 6, 2) := by decide +kernel
theorem dX2_hearWalk_45 : decode cX2_hearWalk 45 = .ok (.iaload, 1) := by decide +kernel
theorem dX2_hearWalk_46 : decode cX2_hearWalk 46 = .ok (.invokestatic 77, 3) := by decide +kernel
theorem tw_806 : Cond.static yX11_putStep ∈ TT := nx_mem 806 (by decide +kernel) (by decide +kernel)
theorem tw_87 : Cond.initialized RX11 ∈ TT := nx_mem 87 (by decide +kernel) (by decide +kernel)
theorem tw_807 : Cond.code yX11_putStep cX11_putStep 6 (some .int) ∈ TT := nx_mem 807 (by decide +kernel) (by decide +kernel)
theorem dX2_hearWalk_49 : decode cX2_hearWalk 49 = .ok (.istore 4, 2) := by decide +kernel
theorem dX2_hearWalk_51 : decode cX2_hearWalk 51 = .ok (.iinc 5 1, 3) := by decide +kernel
theorem dX2_hearWalk_54 : decode cX2_hearWalk 54 = .ok (.goto (-48), 3) := by decide +kernel
theorem dX2_takenBy_0 : decode cX2_takenBy 0 = .ok (.iconst 0, 1) := by decide +kernel
theorem dX2_takenBy_1 : decode cX2_takenBy 1 = .ok (.istore_n 3, 1) := by decide +kernel
theorem dX2_takenBy_2 : decode cX2_takenBy 2 = .ok (.iconst 0, 1) := by decide +kernel
theorem dX2_takenBy_3 : decode cX2_takenBy 3 = .ok (.istore 4, 2) := by decide +kernel
theorem dX2_takenBy_5 : decode cX2_takenBy 5 = .ok (.iconst 0, 1) := by decide +kernel
theorem dX2_takenBy_6 : decode cX2_takenBy 6 = .ok (.istore 5, 2) := by decide +kernel
theorem dX2_takenBy_8 : decode cX2_takenBy 8 = .ok (.iload 5, 2) := by decide +kernel
theorem dX2_takenBy_10 : decode cX2_takenBy 10 = .ok (.aload_n 0, 1) := by decide +kernel
theorem dX2_takenBy_11 : decode cX2_takenBy 11 = .ok (.getfield 32, 3) := by decide +kernel
theorem dX2_takenBy_14 : decode cX2_takenBy 14 = .ok (.if_icmp .ge 55, 3) := by decide +kernel
theorem dX2_takenBy_69 : decode cX2_takenBy 69 = .ok (.iload_n 3, 1) := by decide +kernel
theorem dX2_takenBy_70 : decode cX2_takenBy 70 = .ok (.ireturn, 1) := by decide +kernel
theorem dX2_takenBy_17 : decode cX2_takenBy 17 = .ok (.aload_n 0, 1) := by decide +kernel
theorem dX2_takenBy_18 : decode cX2_takenBy 18 = .ok (.getfield 9, 3) := by decide +kernel
theorem dX2_takenBy_21 : decode cX2_takenBy 21 = .ok (.iload 5, 2) := by decide +kernel
theorem dX2_takenBy_23 : decode cX2_takenBy 23 = .ok (.iaload, 1) := by decide +kernel
theorem dX2_takenBy_24 : decode cX2_takenBy 24 = .ok (.istore 6, 2) := by decide +kernel
theorem dX2_takenBy_26 : decode cX2_takenBy 26 = .ok (.aload_n 1, 1) := by decide +kernel
theorem dX2_takenBy_27 : decode cX2_takenBy 27 = .ok (.getfield 81, 3) := by decide +kernel
theorem tw_188 : Cond.fieldLink RX2 81 "LimpCode$School" "sides" "[I" ∈ TT := nx_mem 188 (by decide +kernel) (by decide +kernel)
theorem dX2_takenBy_30 : decode cX2_takenBy 30 = .ok (.iload 6, 2) := by decide +kernel
theorem dX2_takenBy_32 : decode cX2_takenBy 32 = .ok (.iaload, 1) := by decide +kernel
theorem dX2_takenBy_33 : decode cX2_takenBy 33 = .ok (.iconst 3, 1) := by decide +kernel
theorem dX2_takenBy_34 : decode cX2_takenBy 34 = .ok (.if_icmp .eq 29, 3) := by decide +kernel
theorem dX2_takenBy_63 : decode cX2_takenBy 63 = .ok (.iinc 5 1, 3) := by decide +kernel
theorem dX2_takenBy_66 : decode cX2_takenBy 66 = .ok (.goto (-58), 3) := by decide +kernel
theorem dX2_takenBy_37 : decode cX2_takenBy 37 = .ok (.iload_n 3, 1) := by decide +kernel
theorem dX2_takenBy_38 : decode cX2_takenBy 38 = .ok (.iload 4, 2) := by decide +kernel
theorem dX2_takenBy_40 : decode cX2_takenBy 40 = .ok (.iload_n 2, 1) := by decide +kernel
theorem dX2_takenBy_41 : decode cX2_takenBy 41 = .ok (.if_icmp .ne 13, 3) := by decide +kernel
theorem dX2_takenBy_54 : decode cX2_takenBy 54 = .ok (.iconst 0, 1) := by decide +kernel
theorem dX2_takenBy_55 : decode cX2_takenBy 55 = .ok (.iadd, 1) := by decide +kernel
theorem dX2_takenBy_56 : decode cX2_takenBy 56 = .ok (.istore_n 3, 1) := by decide +kernel
theorem dX2_takenBy_57 : decode cX2_takenBy 57 = .ok (.iconst 1, 1) := by decide +kernel
theorem dX2_takenBy_58 : decode cX2_takenBy 58 = .ok (.iload 4, 2) := by decide +kernel
theorem dX2_takenBy_60 : decode cX2_takenBy 60 = .ok (.isub, 1) := by decide +kernel
theorem dX2_takenBy_61 : decode cX2_takenBy 61 = .ok (.istore 4, 2) := by decide +kernel
theorem dX2_takenBy_44 : decode cX2_takenBy 44 = .ok (.aload_n 1, 1) := by decide +kernel
theorem dX2_takenBy_45 : decode cX2_takenBy 45 = .ok (.getfield 50, 3) := by decide +kernel
theorem dX2_takenBy_48 : decode cX2_takenBy 48 = .ok (.iload 6, 2) := by decide +kernel
theorem dX2_takenBy_50 : decode cX2_takenBy 50 = .ok (.iaload, 1) := by decide +kernel
theorem dX2_takenBy_51 : decode cX2_takenBy 51 = .ok (.goto 4, 3) := by decide +kernel
theorem dX2_begin_0 : decode cX2_begin 0 = .ok (.aload_n 0, 1) := by decide +kernel
theorem dX2_begin_1 : decode cX2_begin 1 = .ok (.invokevirtual 18, 3) := by decide +kernel
theorem tw_735 : Cond.methodLink RX2 18 yX2_standStill ∈ TT := nx_mem 735 (by decide +kernel) (by decide +kernel)
theorem tw_736 : Cond.instanceMethod yX2_standStill ∈ TT := nx_mem 736 (by decide +kernel) (by decide +kernel)
theorem tw_737 : Cond.selects RX2 yX2_standStill yX2_standStill ∈ TT := nx_mem 737 (by decide +kernel) (by decide +kernel)
theorem tw_738 : Cond.code yX2_standStill cX2_standStill 1 none ∈ TT := nx_mem 738 (by decide +kernel) (by decide +kernel)
theorem dX2_begin_4 : decode cX2_begin 4 = .ok (.aload_n 1, 1) := by decide +kernel
theorem dX2_begin_5 : decode cX2_begin 5 = .ok (.getfield 21, 3) := by decide +kernel
theorem tw_183 : Cond.fieldLink RX2 21 "LimpCode$School" "toldLoud" "[I" ∈ TT := nx_mem 183 (by decide +kernel) (by decide +kernel)
theorem dX2_begin_8 : decode cX2_begin 8 = .ok (.iconst 0, 1) := by decide +kernel
theorem dX2_begin_9 : decode cX2_begin 9 = .ok (.aload_n 0, 1) := by decide +kernel
theorem dX2_begin_10 : decode cX2_begin 10 = .ok (.getfield 15, 3) := by decide +kernel
theorem dX2_begin_13 : decode cX2_begin 13 = .ok (.iconst 0, 1) := by decide +kernel
theorem dX2_begin_14 : decode cX2_begin 14 = .ok (.bipush 6, 2) := by decide +kernel
theorem dX2_begin_16 : decode cX2_begin 16 = .ok (.invokestatic 26, 3) := by decide +kernel
theorem tw_739 : Cond.methodLink RX2 26 arraycopyName ∈ TT := nx_mem 739 (by decide +kernel) (by decide +kernel)
theorem tw_741 : Cond.native arraycopyName ∈ TT := nx_mem 741 (by decide +kernel) (by decide +kernel)
theorem tw_740 : Cond.static arraycopyName ∈ TT := nx_mem 740 (by decide +kernel) (by decide +kernel)
theorem tw_104 : Cond.initialized "java/lang/System" ∈ TT := nx_mem 104 (by decide +kernel) (by decide +kernel)
theorem dX2_begin_19 : decode cX2_begin 19 = .ok (.return_, 1) := by decide +kernel
theorem dX2_copyFrom_0 : decode cX2_copyFrom 0 = .ok (.aload_n 1, 1) := by decide +kernel
theorem dX2_copyFrom_1 : decode cX2_copyFrom 1 = .ok (.getfield 9, 3) := by decide +kernel
theorem dX2_copyFrom_4 : decode cX2_copyFrom 4 = .ok (.iconst 0, 1) := by decide +kernel
theorem dX2_copyFrom_5 : decode cX2_copyFrom 5 = .ok (.aload_n 0, 1) := by decide +kernel
theorem dX2_copyFrom_6 : decode cX2_copyFrom 6 = .ok (.getfield 9, 3) := by decide +kernel
theorem dX2_copyFrom_9 : decode cX2_copyFrom 9 = .ok (.iconst 0, 1) := by decide +kernel
theorem dX2_copyFrom_10 : decode cX2_copyFrom 10 = .ok (.bipush 60, 2) := by decide +kernel
theorem dX2_copyFrom_12 : decode cX2_copyFrom 12 = .ok (.invokestatic 26, 3) := by decide +kernel
theorem dX2_copyFrom_15 : decode cX2_copyFrom 15 = .ok (.aload_n 1, 1) := by decide +kernel
theorem dX2_copyFrom_16 : decode cX2_copyFrom 16 = .ok (.getfield 15, 3) := by decide +kernel
theorem dX2_copyFrom_19 : decode cX2_copyFrom 19 = .ok (.iconst 0, 1) := by decide +kernel
theorem dX2_copyFrom_20 : decode cX2_copyFrom 20 = .ok (.aload_n 0, 1) := by decide +kernel
theorem dX2_copyFrom_21 : decode cX2_copyFrom 21 = .ok (.getfield 15, 3) := by decide +kernel
theorem dX2_copyFrom_24 : decode cX2_copyFrom 24 = .ok (.iconst 0, 1) := by decide +kernel
theorem dX2_copyFrom_25 : decode cX2_copyFrom 25 = .ok (.bipush 6, 2) := by decide +kernel
theorem dX2_copyFrom_27 : decode cX2_copyFrom 27 = .ok (.invokestatic 26, 3) := by decide +kernel
theorem dX2_copyFrom_30 : decode cX2_copyFrom 30 = .ok (.aload_n 0, 1) := by decide +kernel
theorem dX2_copyFrom_31 : decode cX2_copyFrom 31 = .ok (.aload_n 1, 1) := by decide +kernel
theorem dX2_copyFrom_32 : decode cX2_copyFrom 32 = .ok (.getfield 32, 3) := by decide +kernel
theorem dX2_copyFrom_35 : decode cX2_copyFrom 35 = .ok (.putfield 32, 3) := by decide +kernel
theorem dX2_copyFrom_38 : decode cX2_copyFrom 38 = .ok (.aload_n 0, 1) := by decide +kernel
theorem dX2_copyFrom_39 : decode cX2_copyFrom 39 = .ok (.aload_n 1, 1) := by decide +kernel
theorem dX2_copyFrom_40 : decode cX2_copyFrom 40 = .ok (.getfield 36, 3) := by decide +kernel
theorem dX2_copyFrom_43 : decode cX2_copyFrom 43 = .ok (.putfield 36, 3) := by decide +kernel
theorem dX2_copyFrom_46 : decode cX2_copyFrom 46 = .ok (.aload_n 0, 1) := by decide +kernel
theorem dX2_copyFrom_47 : decode cX2_copyFrom 47 = .ok (.aload_n 1, 1) := by decide +kernel
theorem dX2_copyFrom_48 : decode cX2_copyFrom 48 = .ok (.getfield 39, 3) := by decide +kernel
theorem dX2_copyFrom_51 : decode cX2_copyFrom 51 = .ok (.putfield 39, 3) := by decide +kernel
theorem dX2_copyFrom_54 : decode cX2_copyFrom 54 = .ok (.return_, 1) := by decide +kernel
theorem dX10_clear_0 : decode cX10_clear 0 = .ok (.aload_n 0, 1) := by decide +kernel
theorem dX10_clear_1 : decode cX10_clear 1 = .ok (.iconst 0, 1) := by decide +kernel
theorem dX10_clear_2 : decode cX10_clear 2 = .ok (.putfield 15, 3) := by decide +kernel
theorem tw_305 : Cond.fieldLink RX10 15 "LimpCode$Text" "size" "I" ∈ TT := nx_mem 305 (by decide +kernel) (by decide +kernel)
theorem dX10_clear_5 : decode cX10_clear 5 = .ok (.aload_n 0, 1) := by decide +kernel
theorem dX10_clear_6 : decode cX10_clear 6 = .ok (.iconst 0, 1) := by decide +kernel
theorem dX10_clear_7 : decode cX10_clear 7 = .ok (.putfield 19, 3) := by decide +kernel
theorem tw_309 : Cond.fieldLink RX10 19 "LimpCode$Text" "time" "I" ∈ TT := nx_mem 309 (by decide +kernel) (by decide +kernel)
theorem dX10_clear_10 : decode cX10_clear 10 = .ok (.aload_n 0, 1) := by decide +kernel
theorem dX10_clear_11 : decode cX10_clear 11 = .ok (.iconst 0, 1) := by decide +kernel
theorem dX10_clear_12 : decode cX10_clear 12 = .ok (.putfield 22, 3) := by decide +kernel
theorem tw_311 : Cond.fieldLink RX10 22 "LimpCode$Text" "foot" "I" ∈ TT := nx_mem 311 (by decide +kernel) (by decide +kernel)
theorem dX10_clear_15 : decode cX10_clear 15 = .ok (.return_, 1) := by decide +kernel
theorem dX10_add_0 : decode cX10_add 0 = .ok (.aload_n 1, 1) := by decide +kernel
theorem dX10_add_1 : decode cX10_add 1 = .ok (.iload_n 2, 1) := by decide +kernel
theorem dX10_add_2 : decode cX10_add 2 = .ok (.invokevirtual 25, 3) := by decide +kernel
theorem tw_951 : Cond.methodLink RX10 25 yX5_hasLetter ∈ TT := nx_mem 951 (by decide +kernel) (by decide +kernel)
theorem dX10_add_5 : decode cX10_add 5 = .ok (.ifCond .eq 15, 3) := by decide +kernel
theorem dX10_add_20 : decode cX10_add 20 = .ok (.iconst 0, 1) := by decide +kernel
theorem dX10_add_21 : decode cX10_add 21 = .ok (.ireturn, 1) := by decide +kernel
theorem dX10_add_8 : decode cX10_add 8 = .ok (.aload_n 0, 1) := by decide +kernel
theorem dX10_add_9 : decode cX10_add 9 = .ok (.getfield 15, 3) := by decide +kernel
theorem dX10_add_12 : decode cX10_add 12 = .ok (.aload_n 0, 1) := by decide +kernel
theorem dX10_add_13 : decode cX10_add 13 = .ok (.getfield 9, 3) := by decide +kernel
theorem tw_302 : Cond.fieldLink RX10 9 "LimpCode$Text" "row" "[I" ∈ TT := nx_mem 302 (by decide +kernel) (by decide +kernel)
theorem dX10_add_16 : decode cX10_add 16 = .ok (.arraylength, 1) := by decide +kernel
theorem dX10_add_17 : decode cX10_add 17 = .ok (.if_icmp .lt 5, 3) := by decide +kernel
theorem dX10_add_22 : decode cX10_add 22 = .ok (.aload_n 1, 1) := by decide +kernel
theorem dX10_add_23 : decode cX10_add 23 = .ok (.getfield 31, 3) := by decide +kernel
theorem tw_205 : Cond.fieldLink RX10 31 "LimpCode$School" "letterAfter" "[[I" ∈ TT := nx_mem 205 (by decide +kernel) (by decide +kernel)
theorem dX10_add_26 : decode cX10_add 26 = .ok (.iload_n 2, 1) := by decide +kernel
theorem dX10_add_27 : decode cX10_add 27 = .ok (.aaload, 1) := by decide +kernel
theorem dX10_add_28 : decode cX10_add 28 = .ok (.aload_n 0, 1) := by decide +kernel
theorem dX10_add_29 : decode cX10_add 29 = .ok (.getfield 22, 3) := by decide +kernel
theorem dX10_add_32 : decode cX10_add 32 = .ok (.iaload, 1) := by decide +kernel
theorem dX10_add_33 : decode cX10_add 33 = .ok (.istore_n 3, 1) := by decide +kernel
theorem dX10_add_34 : decode cX10_add 34 = .ok (.iload_n 3, 1) := by decide +kernel
theorem dX10_add_35 : decode cX10_add 35 = .ok (.iconst (-1), 1) := by decide +kernel
theorem dX10_add_36 : decode cX10_add 36 = .ok (.if_icmp .eq 19, 3) := by decide +kernel
theorem dX10_add_55 : decode cX10_add 55 = .ok (.iconst 0, 1) := by decide +kernel
theorem dX10_add_56 : decode cX10_add 56 = .ok (.ireturn, 1) := by decide +kernel
theorem dX10_add_39 : decode cX10_add 39 = .ok (.aload_n 0, 1) := by decide +kernel
theorem dX10_add_40 : decode cX10_add 40 = .ok (.getfield 19, 3) := by decide +kernel
theorem dX10_add_43 : decode cX10_add 43 = .ok (.aload_n 1, 1) := by decide +kernel
theorem dX10_add_44 : decode cX10_add 44 = .ok (.getfield 35, 3) := by decide +kernel
theorem tw_202 : Cond.fieldLink RX10 35 "LimpCode$School" "letterTakes" "[I" ∈ TT := nx_mem 202 (by decide +kernel) (by decide +kernel)
theorem dX10_add_47 : decode cX10_add 47 = .ok (.iload_n 2, 1) := by decide +kernel
theorem dX10_add_48 : decode cX10_add 48 = .ok (.iaload, 1) := by decide +kernel
theorem dX10_add_49 : decode cX10_add 49 = .ok (.iadd, 1) := by decide +kernel
theorem dX10_add_50 : decode cX10_add 50 = .ok (.bipush 60, 2) := by decide +kernel
theorem dX10_add_52 : decode cX10_add 52 = .ok (.if_icmp .le 5, 3) := by decide +kernel
theorem dX10_add_57 : decode cX10_add 57 = .ok (.aload_n 0, 1) := by decide +kernel
theorem dX10_add_58 : decode cX10_add 58 = .ok (.getfield 9, 3) := by decide +kernel
theorem dX10_add_61 : decode cX10_add 61 = .ok (.aload_n 0, 1) := by decide +kernel
theorem dX10_add_62 : decode cX10_add 62 = .ok (.getfield 15, 3) := by decide +kernel
theorem dX10_add_65 : decode cX10_add 65 = .ok (.iload_n 2, 1) := by decide +kernel
theorem dX10_add_66 : decode cX10_add 66 = .ok (.iastore, 1) := by decide +kernel
theorem dX10_add_67 : decode cX10_add 67 = .ok (.aload_n 0, 1) := by decide +kernel
theorem dX10_add_68 : decode cX10_add 68 = .ok (.dup, 1) := by decide +kernel
theorem dX10_add_69 : decode cX10_add 69 = .ok (.getfield 15, 3) := by decide +kernel
theorem dX10_add_72 : decode cX10_add 72 = .ok (.iconst 1, 1) := by decide +kernel
theorem dX10_add_73 : decode cX10_add 73 = .ok (.iadd, 1) := by decide +kernel
theorem dX10_add_74 : decode cX10_add 74 = .ok (.putfield 15, 3) := by decide +kernel
theorem dX10_add_77 : decode cX10_add 77 = .ok (.aload_n 0, 1) := by decide +kernel
theorem dX10_add_78 : decode cX10_add 78 = .ok (.dup, 1) := by decide +kernel
theorem dX10_add_79 : decode cX10_add 79 = .ok (.getfield 19, 3) := by decide +kernel
theorem dX10_add_82 : decode cX10_add 82 = .ok (.aload_n 1, 1) := by decide +kernel
theorem dX10_add_83 : decode cX10_add 83 = .ok (.getfield 35, 3) := by decide +kernel
theorem dX10_add_86 : decode cX10_add 86 = .ok (.iload_n 2, 1) := by decide +kernel
theorem dX10_add_87 : decode cX10_add 87 = .ok (.iaload, 1) := by decide +kernel
theorem dX10_add_88 : decode cX10_add 88 = .ok (.iadd, 1) := by decide +kernel
theorem dX10_add_89 : decode cX10_add 89 = .ok (.putfield 19, 3) := by decide +kernel
theorem dX10_add_92 : decode cX10_add 92 = .ok (.aload_n 0, 1) := by decide +kernel
theorem dX10_add_93 : decode cX10_add 93 = .ok (.iload_n 3, 1) := by decide +kernel
theorem dX10_add_94 : decode cX10_add 94 = .ok (.putfield 22, 3) := by decide +kernel
theorem dX10_add_97 : decode cX10_add 97 = .ok (.iconst 1, 1) := by decide +kernel
theorem dX10_add_98 : decode cX10_add 98 = .ok (.ireturn, 1) := by decide +kernel
set_option maxHeartbeats 4000000 in
set_option maxRecDepth 100000 in
theorem s_X2_standStill (lau : Launch) (gg : va_G) (kA : Nat → ClassId) (b : Nat) (b0 : Nat) (b1 : Nat) (bsz : Int32) (btm : Int32) (bft : Int32) (bkp : Int32)  : CtV lau yX2_standStill cX2_standStill 1 (none) 1 0 0 gg kA [.ref b] (mflat [(b, .inl (.inr (2, [.ref b0, .ref b1, .int bsz, .int btm, .int bft, .int bkp])))]) (S := Unit) (fun (_ : Unit) => True) (fun (_ : Unit) => mflat [(b, .inl (.inr (2, [.ref b0, .ref b1, .int 0, .int 0, .int 0, .int bkp])))]) := by
  refine nx_startV (by decide +kernel) (Nat.le_of_ble_eq_true rfl) ?_
  intro x hnm h hq
  have h : Ok x cX2_standStill RX2 kA (rmC 1 0 0) 1 := h
  show J x (mflat [(b, .inl (.inr (2, [.ref b0, .ref b1, .int bsz, .int btm, .int bft, .int bkp])))]) [(0, .ref b)] 0 0 0 []
  refine j_aload_n h 0 rfl rfl dX2_standStill_0 ?_
  refine j_iconst (v := 0) h (by decide) dX2_standStill_1 ?_
  refine jm_put (w' := [(b, .inl (.inr (2, [.ref b0, .ref b1, .int 0, .int btm, .int bft, .int bkp])))]) h iw_X2 tyX2 tyX2_ok nmX2 0 rfl rfl 2 (by decide +kernel) tw_274 rfl rfl rfl (Nat.le_of_ble_eq_true rfl) dX2_standStill_2 rfl ?_
  refine j_aload_n h 0 rfl rfl dX2_standStill_5 ?_
  refine j_iconst (v := 0) h (by decide) dX2_standStill_6 ?_
  refine jm_put (w' := [(b, .inl (.inr (2, [.ref b0, .ref b1, .int 0, .int 0, .int bft, .int bkp])))]) h iw_X2 tyX2 tyX2_ok nmX2 0 rfl rfl 3 (by decide +kernel) tw_276 rfl rfl rfl (Nat.le_of_ble_eq_true rfl) dX2_standStill_7 rfl ?_
  refine j_aload_n h 0 rfl rfl dX2_standStill_10 ?_
  refine j_iconst (v := 0) h (by decide) dX2_standStill_11 ?_
  refine jm_put (w' := [(b, .inl (.inr (2, [.ref b0, .ref b1, .int 0, .int 0, .int 0, .int bkp])))]) h iw_X2 tyX2 tyX2_ok nmX2 0 rfl rfl 4 (by decide +kernel) tw_278 rfl rfl rfl (Nat.le_of_ble_eq_true rfl) dX2_standStill_12 rfl ?_
  exact jm_vret h hq dX2_standStill_15 () [0] rfl (by decide) trivial (Nat.le_of_ble_eq_true rfl) (Nat.le_of_ble_eq_true rfl)
set_option maxHeartbeats 4000000 in
set_option maxRecDepth 100000 in
theorem s_X2_hearWalk (lau : Launch) (gg : va_G) (kA : Nat → ClassId) (b : Nat) (s : Nat) (er : Int32) (o : Nat) (b0 : Nat) (b1 : Nat) (bsz : Nat) (btm : Nat) (bft : Nat) (bkp : Int32) (brow : Nat → Int32) (blo : Nat → Int32) (s0 : Nat) (s1 : Nat) (s2 : Nat) (s3 : Nat) (s4 : Nat) (s5 : Nat) (s6 : Nat) (s7 : Nat) (s8 : Nat) (s9 : Nat) (s10 : Nat) (s11 : Nat) (sn : Nat) (sl : Nat) (se : Nat) (sc1 : Nat → Int32) (sc10 : Nat → Int32) (of : Nat → Int32) (hsn : sn ≤ 6) (hsl : sl ≤ 10) (hse : se ≤ 4) (hstk : TkOk sn sc1) (hbsz : bsz ≤ 60) (hbtm : btm ≤ 60) (hbft : bft ≤ 1) (hbro : RoOk sn bsz brow) : CtV lau yX2_hearWalk cX2_hearWalk 7 (none) 3 0 0 gg kA [.ref b, .ref s, .int er, .ref o] (mflat [(b, .inl (.inr (2, [.ref b0, .ref b1, .int (nI bsz), .int (nI btm), .int (nI bft), .int bkp]))), (b0, .inl (.inl (kA 1, 60, .inl brow))), (b1, .inl (.inl (kA 1, 6, .inl blo))), (s, .inl (.inr (5, [.ref s0, .ref s1, .ref s2, .ref s3, .ref s4, .ref s5, .ref s6, .ref s7, .ref s8, .ref s9, .ref s10, .ref s11, .int (nI sn), .int (nI sl), .int (nI se)]))), (s1, .inl (.inl (kA 1, 6, .inl sc1))), (s10, .inl (.inl (kA 1, 4, .inl sc10))), (o, .inl (.inl (kA 1, 60, .inl of)))]) (S := (Nat → Int32)) (fun (y_o : (Nat → Int32)) => True) (fun (y_o : (Nat → Int32)) => mflat [(b, .inl (.inr (2, [.ref b0, .ref b1, .int (nI bsz), .int (nI btm), .int (nI bft), .int bkp]))), (b0, .inl (.inl (kA 1, 60, .inl brow))), (b1, .inl (.inl (kA 1, 6, .inl blo))), (s, .inl (.inr (5, [.ref s0, .ref s1, .ref s2, .ref s3, .ref s4, .ref s5, .ref s6, .ref s7, .ref s8, .ref s9, .ref s10, .ref s11, .int (nI sn), .int (nI sl), .int (nI se)]))), (s1, .inl (.inl (kA 1, 6, .inl sc1))), (s10, .inl (.inl (kA 1, 4, .inl sc10))), (o, .inl (.inl (kA 1, 60, .inl y_o)))]) := by
  refine nx_startV (by decide +kernel) (Nat.le_of_ble_eq_true rfl) ?_
  intro x hnm h hq
  have h : Ok x cX2_hearWalk RX2 kA (rmC 3 0 0) 7 := h
  show J x (mflat [(b, .inl (.inr (2, [.ref b0, .ref b1, .int (nI bsz), .int (nI btm), .int (nI bft), .int bkp]))), (b0, .inl (.inl (kA 1, 60, .inl brow))), (b1, .inl (.inl (kA 1, 6, .inl blo))), (s, .inl (.inr (5, [.ref s0, .ref s1, .ref s2, .ref s3, .ref s4, .ref s5, .ref s6, .ref s7, .ref s8, .ref s9, .ref s10, .ref s11, .int (nI sn), .int (nI sl), .int (nI se)]))), (s1, .inl (.inl (kA 1, 6, .inl sc1))), (s10, .inl (.inl (kA 1, 4, .inl sc10))), (o, .inl (.inl (kA 1, 60, .inl of)))]) [(0, .ref b), (1, .ref s), (2, .int er), (3, .ref o)] 0 0 0 []
  refine j_iconst (v := 0) h (by decide) dX2_hearWalk_0 ?_
  refine j_istore (lv' := [(4, .int 0), (0, .ref b), (1, .ref s), (2, .int er), (3, .ref o)]) h dX2_hearWalk_1 (by decide) rfl ?_
  refine j_iconst (v := 0) h (by decide) dX2_hearWalk_3 ?_
  refine j_istore (lv' := [(5, .int 0), (4, .int 0), (0, .ref b), (1, .ref s), (2, .int er), (3, .ref o)]) h dX2_hearWalk_4 (by decide) rfl ?_
  have lp6_24 : ∀ (m6_24 : Nat), ∀ (v5_6_24 : Nat) (v4_6_24 : Nat) (fo_6_24 : Nat → Int32), (v4_6_24 ≤ 60) → (v5_6_24 ≤ 100000) → (v4_6_24 ≤ 100000) → 100001 - v5_6_24 < m6_24 → J x (mflat [(b, .inl (.inr (2, [.ref b0, .ref b1, .int (nI bsz), .int (nI btm), .int (nI bft), .int bkp]))), (b0, .inl (.inl (kA 1, 60, .inl brow))), (b1, .inl (.inl (kA 1, 6, .inl blo))), (s, .inl (.inr (5, [.ref s0, .ref s1, .ref s2, .ref s3, .ref s4, .ref s5, .ref s6, .ref s7, .ref s8, .ref s9, .ref s10, .ref s11, .int (nI sn), .int (nI sl), .int (nI se)]))), (s1, .inl (.inl (kA 1, 6, .inl sc1))), (s10, .inl (.inl (kA 1, 4, .inl sc10))), (o, .inl (.inl (kA 1, 60, .inl fo_6_24)))]) [(5, .int (nI v5_6_24)), (4, .int (nI v4_6_24)), (0, .ref b), (1, .ref s), (2, .int er), (3, .ref o)] 0 0 6 [] := by
    intro m6_24
    induction m6_24 with
    | zero =>
      intro v5_6_24 v4_6_24 fo_6_24 i6_24_0 i6_24_1 i6_24_2 hm6_24
      exact absurd hm6_24 (Nat.not_lt_zero _)
    | succ m6_24 ih6_24 =>
      intro v5_6_24 v4_6_24 fo_6_24 i6_24_0 i6_24_1 i6_24_2 hm6_24
      refine j_iload h 0 rfl dX2_hearWalk_6 ?_
      refine j_aload_n h 2 rfl rfl dX2_hearWalk_8 ?_
      refine jm_get h iw_X2 0 rfl rfl 2 (by decide +kernel) tw_274 rfl dX2_hearWalk_9 ?_
      refine j_icmp_ge h 57 dX2_hearWalk_12 (by decide) (fun z432 => ?_) (fun z432 => ?_)
      · have z432n : bsz ≤ v5_6_24 := (nI_leI (a := bsz) (b := v5_6_24) (by omega) (by omega)).mp z432
        exact jm_vret h hq dX2_hearWalk_57 fo_6_24 [0, 1, 2, 3, 4, 5, 6] rfl (by decide) trivial (Nat.le_of_ble_eq_true rfl) (Nat.le_of_ble_eq_true rfl)
      · have z432n : ¬ bsz ≤ v5_6_24 := fun q9 => z432 ((nI_leI (a := bsz) (b := v5_6_24) (by omega) (by omega)).mpr q9)
        refine j_aload_n h 2 rfl rfl dX2_hearWalk_15 ?_
        refine jm_get h iw_X2 0 rfl rfl 0 (by decide +kernel) tw_271 rfl dX2_hearWalk_16 ?_
        refine j_iload h 0 rfl dX2_hearWalk_19 ?_
        refine jm_iald h 1 rfl v5_6_24 rfl (by omega) (by omega) dX2_hearWalk_21 ?_
        obtain ⟨t433, u434, u435⟩ := (show RoOk sn bsz brow by assumption) v5_6_24 (by omega)
        refine j_top (b := nI t433) (u435) ?_
        refine j_istore (lv' := [(6, .int (nI t433)), (5, .int (nI v5_6_24)), (4, .int (nI v4_6_24)), (0, .ref b), (1, .ref s), (2, .int er), (3, .ref o)]) h dX2_hearWalk_22 (by decide) rfl ?_
        refine j_aload_n h 6 rfl rfl dX2_hearWalk_24 ?_
        refine j_iload h 2 rfl dX2_hearWalk_25 ?_
        refine j_aload_n h 4 rfl rfl dX2_hearWalk_27 ?_
        refine j_aload_n h 3 rfl rfl dX2_hearWalk_28 ?_
        refine jm_get h iw_X2 0 rfl rfl 1 (by decide +kernel) tw_272 rfl dX2_hearWalk_29 ?_
        refine j_iload h 0 rfl dX2_hearWalk_32 ?_
        refine jm_iald h 2 rfl t433 rfl (by omega) (by omega) dX2_hearWalk_34 ?_
        refine j_iload_n h 5 rfl rfl dX2_hearWalk_35 ?_
        refine jm_callVi (np := 2) (isC := [3, 5]) (isR := [0, 1, 2, 4, 6]) (wc := [(s, .inl (.inr (5, [.ref s0, .ref s1, .ref s2, .ref s3, .ref s4, .ref s5, .ref s6, .ref s7, .ref s8, .ref s9, .ref s10, .ref s11, .int (nI sn), .int (nI sl), .int (nI se)]))), (s10, .inl (.inl (kA 1, 4, .inl sc10)))]) (wr := [(b, .inl (.inr (2, [.ref b0, .ref b1, .int (nI bsz), .int (nI btm), .int (nI bft), .int bkp]))), (b0, .inl (.inl (kA 1, 60, .inl brow))), (b1, .inl (.inl (kA 1, 6, .inl blo))), (s1, .inl (.inl (kA 1, 6, .inl sc1))), (o, .inl (.inl (kA 1, 60, .inl fo_6_24)))]) (rest := [.int (nI v4_6_24), .ref o]) (As := [.int (blo t433), .int er]) (q0 := 0) h (s_X5_heardBelow _ _ kA s (blo t433) er s0 s1 s2 s3 s4 s5 s6 s7 s8 s9 s10 s11 sn sl se sc10 (show sn ≤ 6 by first | assumption | omega) (show sl ≤ 10 by first | assumption | omega) (show se ≤ 4 by first | assumption | omega)) tw_797 tw_798 tw_799 tw_90 tw_800 (by decide +kernel) rfl ⟨Nat.le_of_ble_eq_true rfl, Nat.le_of_ble_eq_true rfl⟩ rfl rfl (by decide +kernel) rfl rfl (by decide +kernel) (by decide +kernel) (Nat.le_of_ble_eq_true rfl) rfl ⟨Nat.le_of_ble_eq_true rfl, Nat.le_of_ble_eq_true rfl⟩ dX2_hearWalk_36 ?_
        rintro r437 _ e436
        show J x (mflat [(b, .inl (.inr (2, [.ref b0, .ref b1, .int (nI bsz), .int (nI btm), .int (nI bft), .int bkp]))), (b0, .inl (.inl (kA 1, 60, .inl brow))), (b1, .inl (.inl (kA 1, 6, .inl blo))), (s1, .inl (.inl (kA 1, 6, .inl sc1))), (o, .inl (.inl (kA 1, 60, .inl fo_6_24))), (s, .inl (.inr (5, [.ref s0, .ref s1, .ref s2, .ref s3, .ref s4, .ref s5, .ref s6, .ref s7, .ref s8, .ref s9, .ref s10, .ref s11, .int (nI sn), .int (nI sl), .int (nI se)]))), (s10, .inl (.inl (kA 1, 4, .inl sc10)))]) [(6, .int (nI t433)), (5, .int (nI v5_6_24)), (4, .int (nI v4_6_24)), (0, .ref b), (1, .ref s), (2, .int er), (3, .ref o)] 0 0 39 [.int r437, .int (nI v4_6_24), .ref o]
        refine j_aload_n h 4 rfl rfl dX2_hearWalk_39 ?_
        refine jm_get h iw_X5 5 rfl rfl 1 (by decide +kernel) tw_180 rfl dX2_hearWalk_40 ?_
        refine j_iload h 0 rfl dX2_hearWalk_43 ?_
        refine jm_iald h 3 rfl t433 rfl (by omega) (by omega) dX2_hearWalk_45 ?_
        obtain ⟨t438, u439, u440, u441⟩ := (show TkOk sn sc1 by assumption) t433 (by omega)
        refine j_top (b := nI t438) (u441) ?_
        refine jm_callSNi (np := 4) (isC := [4]) (isR := [0, 1, 2, 3, 5, 6]) (wc := [(o, .inl (.inl (kA 1, 60, .inl fo_6_24)))]) (wr := [(b, .inl (.inr (2, [.ref b0, .ref b1, .int (nI bsz), .int (nI btm), .int (nI bft), .int bkp]))), (b0, .inl (.inl (kA 1, 60, .inl brow))), (b1, .inl (.inl (kA 1, 6, .inl blo))), (s1, .inl (.inl (kA 1, 6, .inl sc1))), (s, .inl (.inr (5, [.ref s0, .ref s1, .ref s2, .ref s3, .ref s4, .ref s5, .ref s6, .ref s7, .ref s8, .ref s9, .ref s10, .ref s11, .int (nI sn), .int (nI sl), .int (nI se)]))), (s10, .inl (.inl (kA 1, 4, .inl sc10)))]) (rest := []) (As := [.ref o, .int (nI v4_6_24), .int r437, .int (nI t438)]) h (s_X11_putStep _ _ kA o v4_6_24 r437 t438 60 fo_6_24 (show 60 ≤ 60 by first | assumption | omega) (show v4_6_24 ≤ 60 by first | assumption | omega) (show t438 ≤ 9 by first | assumption | omega)) (by decide +kernel) tw_806 tw_87 tw_807 (by decide +kernel) rfl ⟨Nat.le_of_ble_eq_true rfl, Nat.le_of_ble_eq_true rfl⟩ (by decide +kernel) rfl rfl (by decide +kernel) (by decide +kernel) (Nat.le_of_ble_eq_true rfl) rfl ⟨Nat.le_of_ble_eq_true rfl, Nat.le_of_ble_eq_true rfl⟩ dX2_hearWalk_46 ?_
        rintro r445 ⟨q442, q443⟩ e444
        obtain ⟨p446, p447, p448⟩ := e444
        subst p446
        replace p447 : q442 ≤ 60 := p447
        replace p448 : v4_6_24 ≤ q442 := p448
        show J x (mflat [(b, .inl (.inr (2, [.ref b0, .ref b1, .int (nI bsz), .int (nI btm), .int (nI bft), .int bkp]))), (b0, .inl (.inl (kA 1, 60, .inl brow))), (b1, .inl (.inl (kA 1, 6, .inl blo))), (s1, .inl (.inl (kA 1, 6, .inl sc1))), (s, .inl (.inr (5, [.ref s0, .ref s1, .ref s2, .ref s3, .ref s4, .ref s5, .ref s6, .ref s7, .ref s8, .ref s9, .ref s10, .ref s11, .int (nI sn), .int (nI sl), .int (nI se)]))), (s10, .inl (.inl (kA 1, 4, .inl sc10))), (o, .inl (.inl (kA 1, 60, .inl q443)))]) [(6, .int (nI t433)), (5, .int (nI v5_6_24)), (4, .int (nI v4_6_24)), (0, .ref b), (1, .ref s), (2, .int er), (3, .ref o)] 0 0 49 [.int (nI q442)]
        refine j_istore (lv' := [(4, .int (nI q442)), (6, .int (nI t433)), (5, .int (nI v5_6_24)), (0, .ref b), (1, .ref s), (2, .int er), (3, .ref o)]) h dX2_hearWalk_49 (by decide) rfl ?_
        refine j_iinc (v := nI (v5_6_24 + 1)) (lv' := [(5, .int (nI (v5_6_24 + 1))), (4, .int (nI q442)), (6, .int (nI t433)), (0, .ref b), (1, .ref s), (2, .int er), (3, .ref o)]) h dX2_hearWalk_51 2 rfl (nI_add v5_6_24 1) (by decide) rfl ?_
        refine j_goto h 6 dX2_hearWalk_54 (by decide) ?_
        refine jm_sub [0, 1, 2, 4, 3, 5, 6] (w' := [(b, .inl (.inr (2, [.ref b0, .ref b1, .int (nI bsz), .int (nI btm), .int (nI bft), .int bkp]))), (b0, .inl (.inl (kA 1, 60, .inl brow))), (b1, .inl (.inl (kA 1, 6, .inl blo))), (s, .inl (.inr (5, [.ref s0, .ref s1, .ref s2, .ref s3, .ref s4, .ref s5, .ref s6, .ref s7, .ref s8, .ref s9, .ref s10, .ref s11, .int (nI sn), .int (nI sl), .int (nI se)]))), (s1, .inl (.inl (kA 1, 6, .inl sc1))), (s10, .inl (.inl (kA 1, 4, .inl sc10))), (o, .inl (.inl (kA 1, 60, .inl q443)))]) rfl (by decide +kernel) [0, 1, 3, 4, 5, 6] (lv' := [(5, .int (nI (v5_6_24 + 1))), (4, .int (nI q442)), (0, .ref b), (1, .ref s), (2, .int er), (3, .ref o)]) rfl ?_
        exact ih6_24 (v5_6_24 + 1) q442 q443 (show q442 ≤ 60 by first | assumption | omega) (show (v5_6_24 + 1) ≤ 100000 by first | assumption | omega) (show q442 ≤ 100000 by first | assumption | omega) (show 100001 - (v5_6_24 + 1) < m6_24 by first | exact Nat.lt_of_lt_of_le (Nat.sub_lt_sub_left (Nat.lt_of_le_of_lt (show v5_6_24 ≤ 100000 by assumption) (Nat.lt_succ_self 100000)) (Nat.lt_succ_self v5_6_24)) (Nat.le_of_lt_succ hm6_24) | omega)
  refine jm_sub [0, 1, 2, 3, 4, 5, 6] (w' := [(b, .inl (.inr (2, [.ref b0, .ref b1, .int (nI bsz), .int (nI btm), .int (nI bft), .int bkp]))), (b0, .inl (.inl (kA 1, 60, .inl brow))), (b1, .inl (.inl (kA 1, 6, .inl blo))), (s, .inl (.inr (5, [.ref s0, .ref s1, .ref s2, .ref s3, .ref s4, .ref s5, .ref s6, .ref s7, .ref s8, .ref s9, .ref s10, .ref s11, .int (nI sn), .int (nI sl), .int (nI se)]))), (s1, .inl (.inl (kA 1, 6, .inl sc1))), (s10, .inl (.inl (kA 1, 4, .inl sc10))), (o, .inl (.inl (kA 1, 60, .inl of)))]) rfl (by decide +kernel) [0, 1, 2, 3, 4, 5] (lv' := [(5, .int 0), (4, .int 0), (0, .ref b), (1, .ref s), (2, .int er), (3, .ref o)]) rfl ?_
  exact lp6_24 (100001 - 0 + 1) 0 0 of (show 0 ≤ 60 by first | assumption | omega) (show 0 ≤ 100000 by first | assumption | omega) (show 0 ≤ 100000 by first | assumption | omega) (Nat.lt_succ_self _)
set_option maxHeartbeats 4000000 in
set_option maxRecDepth 100000 in
theorem s_X2_takenBy (lau : Launch) (gg : va_G) (kA : Nat → ClassId) (b : Nat) (s : Nat) (wh : Int32) (b0 : Nat) (b1 : Nat) (bsz : Nat) (btm : Nat) (bft : Nat) (bkp : Int32) (brow : Nat → Int32) (s0 : Nat) (s1 : Nat) (s2 : Nat) (s3 : Nat) (s4 : Nat) (s5 : Nat) (s6 : Nat) (s7 : Nat) (s8 : Nat) (s9 : Nat) (s10 : Nat) (s11 : Nat) (sn : Nat) (sl : Nat) (se : Nat) (sc1 : Nat → Int32) (sc3 : Nat → Int32) (hsn : sn ≤ 6) (hsl : sl ≤ 10) (hse : se ≤ 4) (hstk : TkOk sn sc1) (hbsz : bsz ≤ 60) (hbtm : btm ≤ 60) (hbft : bft ≤ 1) (hbro : RoOk sn bsz brow) : CtI lau yX2_takenBy cX2_takenBy 7 (some .int) 1 0 0 gg kA [.ref b, .ref s, .int wh] (mflat [(b, .inl (.inr (2, [.ref b0, .ref b1, .int (nI bsz), .int (nI btm), .int (nI bft), .int bkp]))), (b0, .inl (.inl (kA 1, 60, .inl brow))), (s, .inl (.inr (5, [.ref s0, .ref s1, .ref s2, .ref s3, .ref s4, .ref s5, .ref s6, .ref s7, .ref s8, .ref s9, .ref s10, .ref s11, .int (nI sn), .int (nI sl), .int (nI se)]))), (s1, .inl (.inl (kA 1, 6, .inl sc1))), (s3, .inl (.inl (kA 1, 6, .inl sc3)))]) (S := Unit) (fun (r : Int32) (_ : Unit) => True) (fun (_ : Unit) => mflat [(b, .inl (.inr (2, [.ref b0, .ref b1, .int (nI bsz), .int (nI btm), .int (nI bft), .int bkp]))), (b0, .inl (.inl (kA 1, 60, .inl brow))), (s, .inl (.inr (5, [.ref s0, .ref s1, .ref s2, .ref s3, .ref s4, .ref s5, .ref s6, .ref s7, .ref s8, .ref s9, .ref s10, .ref s11, .int (nI sn), .int (nI sl), .int (nI se)]))), (s1, .inl (.inl (kA 1, 6, .inl sc1))), (s3, .inl (.inl (kA 1, 6, .inl sc3)))]) := by
  refine nx_startI (by decide +kernel) (Nat.le_of_ble_eq_true rfl) ?_
  intro x hnm h hq
  have h : Ok x cX2_takenBy RX2 kA (rmC 1 0 0) 7 := h
  show J x (mflat [(b, .inl (.inr (2, [.ref b0, .ref b1, .int (nI bsz), .int (nI btm), .int (nI bft), .int bkp]))), (b0, .inl (.inl (kA 1, 60, .inl brow))), (s, .inl (.inr (5, [.ref s0, .ref s1, .ref s2, .ref s3, .ref s4, .ref s5, .ref s6, .ref s7, .ref s8, .ref s9, .ref s10, .ref s11, .int (nI sn), .int (nI sl), .int (nI se)]))), (s1, .inl (.inl (kA 1, 6, .inl sc1))), (s3, .inl (.inl (kA 1, 6, .inl sc3)))]) [(0, .ref b), (1, .ref s), (2, .int wh)] 0 0 0 []
  refine j_iconst (v := 0) h (by decide) dX2_takenBy_0 ?_
  refine j_istore_n (lv' := [(3, .int 0), (0, .ref b), (1, .ref s), (2, .int wh)]) h dX2_takenBy_1 rfl (by decide) rfl ?_
  refine j_iconst (v := 0) h (by decide) dX2_takenBy_2 ?_
  refine j_istore (lv' := [(4, .int 0), (3, .int 0), (0, .ref b), (1, .ref s), (2, .int wh)]) h dX2_takenBy_3 (by decide) rfl ?_
  refine j_iconst (v := 0) h (by decide) dX2_takenBy_5 ?_
  refine j_istore (lv' := [(5, .int 0), (4, .int 0), (3, .int 0), (0, .ref b), (1, .ref s), (2, .int wh)]) h dX2_takenBy_6 (by decide) rfl ?_
  have lp8_30 : ∀ (m8_30 : Nat), ∀ (v5_8_30 : Nat) (v4_8_30 : Int32) (v3_8_30 : Int32), (v5_8_30 ≤ 100000) → 100001 - v5_8_30 < m8_30 → J x (mflat [(b, .inl (.inr (2, [.ref b0, .ref b1, .int (nI bsz), .int (nI btm), .int (nI bft), .int bkp]))), (b0, .inl (.inl (kA 1, 60, .inl brow))), (s, .inl (.inr (5, [.ref s0, .ref s1, .ref s2, .ref s3, .ref s4, .ref s5, .ref s6, .ref s7, .ref s8, .ref s9, .ref s10, .ref s11, .int (nI sn), .int (nI sl), .int (nI se)]))), (s1, .inl (.inl (kA 1, 6, .inl sc1))), (s3, .inl (.inl (kA 1, 6, .inl sc3)))]) [(5, .int (nI v5_8_30)), (4, .int v4_8_30), (3, .int v3_8_30), (0, .ref b), (1, .ref s), (2, .int wh)] 0 0 8 [] := by
    intro m8_30
    induction m8_30 with
    | zero =>
      intro v5_8_30 v4_8_30 v3_8_30 i8_30_0 hm8_30
      exact absurd hm8_30 (Nat.not_lt_zero _)
    | succ m8_30 ih8_30 =>
      intro v5_8_30 v4_8_30 v3_8_30 i8_30_0 hm8_30
      refine j_iload h 0 rfl dX2_takenBy_8 ?_
      refine j_aload_n h 3 rfl rfl dX2_takenBy_10 ?_
      refine jm_get h iw_X2 0 rfl rfl 2 (by decide +kernel) tw_274 rfl dX2_takenBy_11 ?_
      refine j_icmp_ge h 69 dX2_takenBy_14 (by decide) (fun z499 => ?_) (fun z499 => ?_)
      · have z499n : bsz ≤ v5_8_30 := (nI_leI (a := bsz) (b := v5_8_30) (by omega) (by omega)).mp z499
        refine j_iload_n h 2 rfl rfl dX2_takenBy_69 ?_
        exact jm_iret h hq dX2_takenBy_70 () [0, 1, 2, 3, 4] rfl (by decide) trivial (Nat.le_of_ble_eq_true rfl) (Nat.le_of_ble_eq_true rfl)
      · have z499n : ¬ bsz ≤ v5_8_30 := fun q9 => z499 ((nI_leI (a := bsz) (b := v5_8_30) (by omega) (by omega)).mpr q9)
        refine j_aload_n h 3 rfl rfl dX2_takenBy_17 ?_
        refine jm_get h iw_X2 0 rfl rfl 0 (by decide +kernel) tw_271 rfl dX2_takenBy_18 ?_
        refine j_iload h 0 rfl dX2_takenBy_21 ?_
        refine jm_iald h 1 rfl v5_8_30 rfl (by omega) (by omega) dX2_takenBy_23 ?_
        obtain ⟨t500, u501, u502⟩ := (show RoOk sn bsz brow by assumption) v5_8_30 (by omega)
        refine j_top (b := nI t500) (u502) ?_
        refine j_istore (lv' := [(6, .int (nI t500)), (5, .int (nI v5_8_30)), (4, .int v4_8_30), (3, .int v3_8_30), (0, .ref b), (1, .ref s), (2, .int wh)]) h dX2_takenBy_24 (by decide) rfl ?_
        refine j_aload_n h 5 rfl rfl dX2_takenBy_26 ?_
        refine jm_get h iw_X5 2 rfl rfl 3 (by decide +kernel) tw_188 rfl dX2_takenBy_27 ?_
        refine j_iload h 0 rfl dX2_takenBy_30 ?_
        refine jm_iald h 4 rfl t500 rfl (by omega) (by omega) dX2_takenBy_32 ?_
        refine j_iconst (v := 3) h (by decide) dX2_takenBy_33 ?_
        refine j_icmp_eq h 63 dX2_takenBy_34 (by decide) (fun z503 => ?_) (fun z503 => ?_)
        · show J x (mflat [(b, .inl (.inr (2, [.ref b0, .ref b1, .int (nI bsz), .int (nI btm), .int (nI bft), .int bkp]))), (b0, .inl (.inl (kA 1, 60, .inl brow))), (s, .inl (.inr (5, [.ref s0, .ref s1, .ref s2, .ref s3, .ref s4, .ref s5, .ref s6, .ref s7, .ref s8, .ref s9, .ref s10, .ref s11, .int (nI sn), .int (nI sl), .int (nI se)]))), (s1, .inl (.inl (kA 1, 6, .inl sc1))), (s3, .inl (.inl (kA 1, 6, .inl sc3)))]) [(6, .int (nI t500)), (5, .int (nI v5_8_30)), (4, .int v4_8_30), (3, .int v3_8_30), (0, .ref b), (1, .ref s), (2, .int wh)] 0 0 63 []
          refine j_iinc (v := nI (v5_8_30 + 1)) (lv' := [(5, .int (nI (v5_8_30 + 1))), (6, .int (nI t500)), (4, .int v4_8_30), (3, .int v3_8_30), (0, .ref b), (1, .ref s), (2, .int wh)]) h dX2_takenBy_63 1 rfl (nI_add v5_8_30 1) (by decide) rfl ?_
          refine j_goto h 8 dX2_takenBy_66 (by decide) ?_
          refine jm_sub [0, 1, 2, 3, 4] (w' := [(b, .inl (.inr (2, [.ref b0, .ref b1, .int (nI bsz), .int (nI btm), .int (nI bft), .int bkp]))), (b0, .inl (.inl (kA 1, 60, .inl brow))), (s, .inl (.inr (5, [.ref s0, .ref s1, .ref s2, .ref s3, .ref s4, .ref s5, .ref s6, .ref s7, .ref s8, .ref s9, .ref s10, .ref s11, .int (nI sn), .int (nI sl), .int (nI se)]))), (s1, .inl (.inl (kA 1, 6, .inl sc1))), (s3, .inl (.inl (kA 1, 6, .inl sc3)))]) rfl (by decide +kernel) [0, 2, 3, 4, 5, 6] (lv' := [(5, .int (nI (v5_8_30 + 1))), (4, .int v4_8_30), (3, .int v3_8_30), (0, .ref b), (1, .ref s), (2, .int wh)]) rfl ?_
          exact ih8_30 (v5_8_30 + 1) v4_8_30 v3_8_30 (show (v5_8_30 + 1) ≤ 100000 by first | assumption | omega) (show 100001 - (v5_8_30 + 1) < m8_30 by first | exact Nat.lt_of_lt_of_le (Nat.sub_lt_sub_left (Nat.lt_of_le_of_lt (show v5_8_30 ≤ 100000 by assumption) (Nat.lt_succ_self 100000)) (Nat.lt_succ_self v5_8_30)) (Nat.le_of_lt_succ hm8_30) | omega)
        · show J x (mflat [(b, .inl (.inr (2, [.ref b0, .ref b1, .int (nI bsz), .int (nI btm), .int (nI bft), .int bkp]))), (b0, .inl (.inl (kA 1, 60, .inl brow))), (s, .inl (.inr (5, [.ref s0, .ref s1, .ref s2, .ref s3, .ref s4, .ref s5, .ref s6, .ref s7, .ref s8, .ref s9, .ref s10, .ref s11, .int (nI sn), .int (nI sl), .int (nI se)]))), (s1, .inl (.inl (kA 1, 6, .inl sc1))), (s3, .inl (.inl (kA 1, 6, .inl sc3)))]) [(6, .int (nI t500)), (5, .int (nI v5_8_30)), (4, .int v4_8_30), (3, .int v3_8_30), (0, .ref b), (1, .ref s), (2, .int wh)] 0 0 37 []
          refine j_iload_n h 3 rfl rfl dX2_takenBy_37 ?_
          refine j_iload h 2 rfl dX2_takenBy_38 ?_
          refine j_iload_n h 6 rfl rfl dX2_takenBy_40 ?_
          refine j_icmp_ne h 54 dX2_takenBy_41 (by decide) (fun z504 => ?_) (fun z504 => ?_)
          · show J x (mflat [(b, .inl (.inr (2, [.ref b0, .ref b1, .int (nI bsz), .int (nI btm), .int (nI bft), .int bkp]))), (b0, .inl (.inl (kA 1, 60, .inl brow))), (s, .inl (.inr (5, [.ref s0, .ref s1, .ref s2, .ref s3, .ref s4, .ref s5, .ref s6, .ref s7, .ref s8, .ref s9, .ref s10, .ref s11, .int (nI sn), .int (nI sl), .int (nI se)]))), (s1, .inl (.inl (kA 1, 6, .inl sc1))), (s3, .inl (.inl (kA 1, 6, .inl sc3)))]) [(6, .int (nI t500)), (5, .int (nI v5_8_30)), (4, .int v4_8_30), (3, .int v3_8_30), (0, .ref b), (1, .ref s), (2, .int wh)] 0 0 54 [.int v3_8_30]
            refine j_iconst (v := 0) h (by decide) dX2_takenBy_54 ?_
            refine j_iadd h dX2_takenBy_55 ?_
            refine j_istore_n (lv' := [(3, .int (v3_8_30 + 0)), (6, .int (nI t500)), (5, .int (nI v5_8_30)), (4, .int v4_8_30), (0, .ref b), (1, .ref s), (2, .int wh)]) h dX2_takenBy_56 rfl (by decide) rfl ?_
            refine j_iconst (v := 1) h (by decide) dX2_takenBy_57 ?_
            refine j_iload h 3 rfl dX2_takenBy_58 ?_
            refine j_isub h dX2_takenBy_60 ?_
            refine j_istore (lv' := [(4, .int (1 - v4_8_30)), (3, .int (v3_8_30 + 0)), (6, .int (nI t500)), (5, .int (nI v5_8_30)), (0, .ref b), (1, .ref s), (2, .int wh)]) h dX2_takenBy_61 (by decide) rfl ?_
            refine j_iinc (v := nI (v5_8_30 + 1)) (lv' := [(5, .int (nI (v5_8_30 + 1))), (4, .int (1 - v4_8_30)), (3, .int (v3_8_30 + 0)), (6, .int (nI t500)), (0, .ref b), (1, .ref s), (2, .int wh)]) h dX2_takenBy_63 3 rfl (nI_add v5_8_30 1) (by decide) rfl ?_
            refine j_goto h 8 dX2_takenBy_66 (by decide) ?_
            refine jm_sub [0, 1, 2, 3, 4] (w' := [(b, .inl (.inr (2, [.ref b0, .ref b1, .int (nI bsz), .int (nI btm), .int (nI bft), .int bkp]))), (b0, .inl (.inl (kA 1, 60, .inl brow))), (s, .inl (.inr (5, [.ref s0, .ref s1, .ref s2, .ref s3, .ref s4, .ref s5, .ref s6, .ref s7, .ref s8, .ref s9, .ref s10, .ref s11, .int (nI sn), .int (nI sl), .int (nI se)]))), (s1, .inl (.inl (kA 1, 6, .inl sc1))), (s3, .inl (.inl (kA 1, 6, .inl sc3)))]) rfl (by decide +kernel) [0, 1, 2, 4, 5, 6] (lv' := [(5, .int (nI (v5_8_30 + 1))), (4, .int (1 - v4_8_30)), (3, .int (v3_8_30 + 0)), (0, .ref b), (1, .ref s), (2, .int wh)]) rfl ?_
            exact ih8_30 (v5_8_30 + 1) (1 - v4_8_30) (v3_8_30 + 0) (show (v5_8_30 + 1) ≤ 100000 by first | assumption | omega) (show 100001 - (v5_8_30 + 1) < m8_30 by first | exact Nat.lt_of_lt_of_le (Nat.sub_lt_sub_left (Nat.lt_of_le_of_lt (show v5_8_30 ≤ 100000 by assumption) (Nat.lt_succ_self 100000)) (Nat.lt_succ_self v5_8_30)) (Nat.le_of_lt_succ hm8_30) | omega)
          · show J x (mflat [(b, .inl (.inr (2, [.ref b0, .ref b1, .int (nI bsz), .int (nI btm), .int (nI bft), .int bkp]))), (b0, .inl (.inl (kA 1, 60, .inl brow))), (s, .inl (.inr (5, [.ref s0, .ref s1, .ref s2, .ref s3, .ref s4, .ref s5, .ref s6, .ref s7, .ref s8, .ref s9, .ref s10, .ref s11, .int (nI sn), .int (nI sl), .int (nI se)]))), (s1, .inl (.inl (kA 1, 6, .inl sc1))), (s3, .inl (.inl (kA 1, 6, .inl sc3)))]) [(6, .int (nI t500)), (5, .int (nI v5_8_30)), (4, .int v4_8_30), (3, .int v3_8_30), (0, .ref b), (1, .ref s), (2, .int wh)] 0 0 44 [.int v3_8_30]
            refine j_aload_n h 5 rfl rfl dX2_takenBy_44 ?_
            refine jm_get h iw_X5 2 rfl rfl 1 (by decide +kernel) tw_180 rfl dX2_takenBy_45 ?_
            refine j_iload h 0 rfl dX2_takenBy_48 ?_
            refine jm_iald h 3 rfl t500 rfl (by omega) (by omega) dX2_takenBy_50 ?_
            obtain ⟨t505, u506, u507, u508⟩ := (show TkOk sn sc1 by assumption) t500 (by omega)
            refine j_top (b := nI t505) (u508) ?_
            refine j_goto h 55 dX2_takenBy_51 (by decide) ?_
            refine j_iadd h dX2_takenBy_55 ?_
            refine j_istore_n (lv' := [(3, .int (v3_8_30 + (nI t505))), (6, .int (nI t500)), (5, .int (nI v5_8_30)), (4, .int v4_8_30), (0, .ref b), (1, .ref s), (2, .int wh)]) h dX2_takenBy_56 rfl (by decide) rfl ?_
            refine j_iconst (v := 1) h (by decide) dX2_takenBy_57 ?_
            refine j_iload h 3 rfl dX2_takenBy_58 ?_
            refine j_isub h dX2_takenBy_60 ?_
            refine j_istore (lv' := [(4, .int (1 - v4_8_30)), (3, .int (v3_8_30 + (nI t505))), (6, .int (nI t500)), (5, .int (nI v5_8_30)), (0, .ref b), (1, .ref s), (2, .int wh)]) h dX2_takenBy_61 (by decide) rfl ?_
            refine j_iinc (v := nI (v5_8_30 + 1)) (lv' := [(5, .int (nI (v5_8_30 + 1))), (4, .int (1 - v4_8_30)), (3, .int (v3_8_30 + (nI t505))), (6, .int (nI t500)), (0, .ref b), (1, .ref s), (2, .int wh)]) h dX2_takenBy_63 3 rfl (nI_add v5_8_30 1) (by decide) rfl ?_
            refine j_goto h 8 dX2_takenBy_66 (by decide) ?_
            refine jm_sub [0, 1, 2, 3, 4] (w' := [(b, .inl (.inr (2, [.ref b0, .ref b1, .int (nI bsz), .int (nI btm), .int (nI bft), .int bkp]))), (b0, .inl (.inl (kA 1, 60, .inl brow))), (s, .inl (.inr (5, [.ref s0, .ref s1, .ref s2, .ref s3, .ref s4, .ref s5, .ref s6, .ref s7, .ref s8, .ref s9, .ref s10, .ref s11, .int (nI sn), .int (nI sl), .int (nI se)]))), (s1, .inl (.inl (kA 1, 6, .inl sc1))), (s3, .inl (.inl (kA 1, 6, .inl sc3)))]) rfl (by decide +kernel) [0, 1, 2, 4, 5, 6] (lv' := [(5, .int (nI (v5_8_30 + 1))), (4, .int (1 - v4_8_30)), (3, .int (v3_8_30 + (nI t505))), (0, .ref b), (1, .ref s), (2, .int wh)]) rfl ?_
            exact ih8_30 (v5_8_30 + 1) (1 - v4_8_30) (v3_8_30 + (nI t505)) (show (v5_8_30 + 1) ≤ 100000 by first | assumption | omega) (show 100001 - (v5_8_30 + 1) < m8_30 by first | exact Nat.lt_of_lt_of_le (Nat.sub_lt_sub_left (Nat.lt_of_le_of_lt (show v5_8_30 ≤ 100000 by assumption) (Nat.lt_succ_self 100000)) (Nat.lt_succ_self v5_8_30)) (Nat.le_of_lt_succ hm8_30) | omega)
  refine jm_sub [0, 1, 2, 3, 4] (w' := [(b, .inl (.inr (2, [.ref b0, .ref b1, .int (nI bsz), .int (nI btm), .int (nI bft), .int bkp]))), (b0, .inl (.inl (kA 1, 60, .inl brow))), (s, .inl (.inr (5, [.ref s0, .ref s1, .ref s2, .ref s3, .ref s4, .ref s5, .ref s6, .ref s7, .ref s8, .ref s9, .ref s10, .ref s11, .int (nI sn), .int (nI sl), .int (nI se)]))), (s1, .inl (.inl (kA 1, 6, .inl sc1))), (s3, .inl (.inl (kA 1, 6, .inl sc3)))]) rfl (by decide +kernel) [0, 1, 2, 3, 4, 5] (lv' := [(5, .int 0), (4, .int 0), (3, .int 0), (0, .ref b), (1, .ref s), (2, .int wh)]) rfl ?_
  exact lp8_30 (100001 - 0 + 1) 0 0 0 (show 0 ≤ 100000 by first | assumption | omega) (Nat.lt_succ_self _)
set_option maxHeartbeats 4000000 in
set_option maxRecDepth 100000 in
theorem s_X10_clear (lau : Launch) (gg : va_G) (kA : Nat → ClassId) (t : Nat) (t0 : Nat) (tsz : Int32) (ttm : Int32) (tft : Int32)  : CtV lau yX10_clear cX10_clear 1 (none) 1 0 0 gg kA [.ref t] (mflat [(t, .inl (.inr (10, [.ref t0, .int tsz, .int ttm, .int tft])))]) (S := Unit) (fun (_ : Unit) => True) (fun (_ : Unit) => mflat [(t, .inl (.inr (10, [.ref t0, .int 0, .int 0, .int 0])))]) := by
  refine nx_startV (by decide +kernel) (Nat.le_of_ble_eq_true rfl) ?_
  intro x hnm h hq
  have h : Ok x cX10_clear RX10 kA (rmC 1 0 0) 1 := h
  show J x (mflat [(t, .inl (.inr (10, [.ref t0, .int tsz, .int ttm, .int tft])))]) [(0, .ref t)] 0 0 0 []
  refine j_aload_n h 0 rfl rfl dX10_clear_0 ?_
  refine j_iconst (v := 0) h (by decide) dX10_clear_1 ?_
  refine jm_put (w' := [(t, .inl (.inr (10, [.ref t0, .int 0, .int ttm, .int tft])))]) h iw_X10 tyX10 tyX10_ok nmX10 0 rfl rfl 1 (by decide +kernel) tw_305 rfl rfl rfl (Nat.le_of_ble_eq_true rfl) dX10_clear_2 rfl ?_
  refine j_aload_n h 0 rfl rfl dX10_clear_5 ?_
  refine j_iconst (v := 0) h (by decide) dX10_clear_6 ?_
  refine jm_put (w' := [(t, .inl (.inr (10, [.ref t0, .int 0, .int 0, .int tft])))]) h iw_X10 tyX10 tyX10_ok nmX10 0 rfl rfl 2 (by decide +kernel) tw_309 rfl rfl rfl (Nat.le_of_ble_eq_true rfl) dX10_clear_7 rfl ?_
  refine j_aload_n h 0 rfl rfl dX10_clear_10 ?_
  refine j_iconst (v := 0) h (by decide) dX10_clear_11 ?_
  refine jm_put (w' := [(t, .inl (.inr (10, [.ref t0, .int 0, .int 0, .int 0])))]) h iw_X10 tyX10 tyX10_ok nmX10 0 rfl rfl 3 (by decide +kernel) tw_311 rfl rfl rfl (Nat.le_of_ble_eq_true rfl) dX10_clear_12 rfl ?_
  exact jm_vret h hq dX10_clear_15 () [0] rfl (by decide) trivial (Nat.le_of_ble_eq_true rfl) (Nat.le_of_ble_eq_true rfl)
