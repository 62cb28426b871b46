theorem dX2_standStill_0 : decode cX2_standStill 0 = .ok (.aload_n 0, 1) := by decide +kernel
theorem dX2_standStill_1 : decode cX2_standStill 1 = .ok (.iconst 0, 1) := by decide +kernel
theorem dX2_standStill_2 : decode cX2_standStill 2 = .ok (.putfield 32, 3) := by decide +kernel
theorem iw_X2 : ∀ w ∈ u_ws RX2 TX2 6, w ∈ TT := nx_mems _ [281, 283, 285, 287, 289, 291] (by decide +kernel) (by decide +kernel)
theorem tw_274 : Cond.fieldLink RX2 32 "LimpCode$Earnest" "size" "I" ∈ TT := nx_mem 274 (by decide +kernel) (by decide +kernel)
theorem dX2_standStill_5 : decode cX2_standStill 5 = .ok (.aload_n 0, 1) := by decide +kernel
theorem dX2_standStill_6 : decode cX2_standStill 6 = .ok (.iconst 0, 1) := by decide +kernel
theorem dX2_standStill_7 : decode cX2_standStill 7 = .ok (.putfield 36, 3) := by decide +kernel
theorem tw_276 : Cond.fieldLink RX2 36 "LimpCode$Earnest" "time" "I" ∈ TT := nx_mem 276 (by decide +kernel) (by decide +kernel)
theorem dX2_standStill_10 : decode cX2_standStill 10 = .ok (.aload_n 0, 1) := by decide +kernel
theorem dX2_standStill_11 : decode cX2_standStill 11 = .ok (.iconst 0, 1) := by decide +kernel
theorem dX2_standStill_12 : decode cX2_standStill 12 = .ok (.putfield 39, 3) := by decide +kernel
theorem tw_278 : Cond.fieldLink RX2 39 "LimpCode$Earnest" "foot" "I" ∈ TT := nx_mem 278 (by decide +kernel) (by decide +kernel)
theorem dX2_standStill_15 : decode cX2_standStill 15 = .ok (.return_, 1) := by decide +kernel
theorem dX2_walkOn_0 : decode cX2_walkOn 0 = .ok (.aload_n 1, 1) := by decide +kernel
theorem dX2_walkOn_1 : decode cX2_walkOn 1 = .ok (.iload_n 2, 1) := by decide +kernel
theorem dX2_walkOn_2 : decode cX2_walkOn 2 = .ok (.invokevirtual 42, 3) := by decide +kernel
theorem tw_758 : Cond.methodLink RX2 42 yX5_hasStep ∈ TT := nx_mem 758 (by decide +kernel) (by decide +kernel)
theorem dX2_walkOn_5 : decode cX2_walkOn 5 = .ok (.ifCond .eq 15, 3) := by decide +kernel
theorem dX2_walkOn_20 : decode cX2_walkOn 20 = .ok (.iconst 0, 1) := by decide +kernel
theorem dX2_walkOn_21 : decode cX2_walkOn 21 = .ok (.ireturn, 1) := by decide +kernel
theorem dX2_walkOn_8 : decode cX2_walkOn 8 = .ok (.aload_n 0, 1) := by decide +kernel
theorem dX2_walkOn_9 : decode cX2_walkOn 9 = .ok (.getfield 32, 3) := by decide +kernel
theorem dX2_walkOn_12 : decode cX2_walkOn 12 = .ok (.aload_n 0, 1) := by decide +kernel
theorem dX2_walkOn_13 : decode cX2_walkOn 13 = .ok (.getfield 9, 3) := by decide +kernel
theorem tw_271 : Cond.fieldLink RX2 9 "LimpCode$Earnest" "row" "[I" ∈ TT := nx_mem 271 (by decide +kernel) (by decide +kernel)
theorem dX2_walkOn_16 : decode cX2_walkOn 16 = .ok (.arraylength, 1) := by decide +kernel
theorem dX2_walkOn_17 : decode cX2_walkOn 17 = .ok (.if_icmp .lt 5, 3) := by decide +kernel
theorem dX2_walkOn_22 : decode cX2_walkOn 22 = .ok (.aload_n 1, 1) := by decide +kernel
theorem dX2_walkOn_23 : decode cX2_walkOn 23 = .ok (.iload_n 2, 1) := by decide +kernel
theorem dX2_walkOn_24 : decode cX2_walkOn 24 = .ok (.aload_n 0, 1) := by decide +kernel
theorem dX2_walkOn_25 : decode cX2_walkOn 25 = .ok (.getfield 39, 3) := by decide +kernel
theorem dX2_walkOn_28 : decode cX2_walkOn 28 = .ok (.invokevirtual 46, 3) := by decide +kernel
theorem tw_759 : Cond.methodLink RX2 46 yX5_footAfter ∈ TT := nx_mem 759 (by decide +kernel) (by decide +kernel)
theorem tw_709 : Cond.instanceMethod yX5_footAfter ∈ TT := nx_mem 709 (by decide +kernel) (by decide +kernel)
theorem tw_710 : Cond.selects RX5 yX5_footAfter yX5_footAfter ∈ TT := nx_mem 710 (by decide +kernel) (by decide +kernel)
theorem tw_711 : Cond.code yX5_footAfter cX5_footAfter 4 (some .int) ∈ TT := nx_mem 711 (by decide +kernel) (by decide +kernel)
theorem dX2_walkOn_31 : decode cX2_walkOn 31 = .ok (.istore_n 3, 1) := by decide +kernel
theorem dX2_walkOn_32 : decode cX2_walkOn 32 = .ok (.iload_n 3, 1) := by decide +kernel
theorem dX2_walkOn_33 : decode cX2_walkOn 33 = .ok (.iconst (-1), 1) := by decide +kernel
theorem dX2_walkOn_34 : decode cX2_walkOn 34 = .ok (.if_icmp .eq 19, 3) := by decide +kernel
theorem dX2_walkOn_53 : decode cX2_walkOn 53 = .ok (.iconst 0, 1) := by decide +kernel
theorem dX2_walkOn_54 : decode cX2_walkOn 54 = .ok (.ireturn, 1) := by decide +kernel
theorem dX2_walkOn_37 : decode cX2_walkOn 37 = .ok (.aload_n 0, 1) := by decide +kernel
theorem dX2_walkOn_38 : decode cX2_walkOn 38 = .ok (.getfield 36, 3) := by decide +kernel
theorem dX2_walkOn_41 : decode cX2_walkOn 41 = .ok (.aload_n 1, 1) := by decide +kernel
theorem dX2_walkOn_42 : decode cX2_walkOn 42 = .ok (.getfield 50, 3) := by decide +kernel
theorem tw_180 : Cond.fieldLink RX2 50 "LimpCode$School" "takes" "[I" ∈ TT := nx_mem 180 (by decide +kernel) (by decide +kernel)
theorem dX2_walkOn_45 : decode cX2_walkOn 45 = .ok (.iload_n 2, 1) := by decide +kernel
theorem dX2_walkOn_46 : decode cX2_walkOn 46 = .ok (.iaload, 1) := by decide +kernel
theorem dX2_walkOn_47 : decode cX2_walkOn 47 = .ok (.iadd, 1) := by decide +kernel
theorem dX2_walkOn_48 : decode cX2_walkOn 48 = .ok (.bipush 60, 2) := by decide +kernel
theorem dX2_walkOn_50 : decode cX2_walkOn 50 = .ok (.if_icmp .le 5, 3) := by decide +kernel
theorem dX2_walkOn_55 : decode cX2_walkOn 55 = .ok (.aload_n 0, 1) := by decide +kernel
theorem dX2_walkOn_56 : decode cX2_walkOn 56 = .ok (.getfield 9, 3) := by decide +kernel
theorem dX2_walkOn_59 : decode cX2_walkOn 59 = .ok (.aload_n 0, 1) := by decide +kernel
theorem dX2_walkOn_60 : decode cX2_walkOn 60 = .ok (.getfield 32, 3) := by decide +kernel
theorem dX2_walkOn_63 : decode cX2_walkOn 63 = .ok (.iload_n 2, 1) := by decide +kernel
theorem dX2_walkOn_64 : decode cX2_walkOn 64 = .ok (.iastore, 1) := by decide +kernel
theorem dX2_walkOn_65 : decode cX2_walkOn 65 = .ok (.aload_n 0, 1) := by decide +kernel
theorem dX2_walkOn_66 : decode cX2_walkOn 66 = .ok (.dup, 1) := by decide +kernel
theorem dX2_walkOn_67 : decode cX2_walkOn 67 = .ok (.getfield 32, 3) := by decide +kernel
theorem dX2_walkOn_70 : decode cX2_walkOn 70 = .ok (.iconst 1, 1) := by decide +kernel
theorem dX2_walkOn_71 : decode cX2_walkOn 71 = .ok (.iadd, 1) := by decide +kernel
theorem dX2_walkOn_72 : decode cX2_walkOn 72 = .ok (.putfield 32, 3) := by decide +kernel
theorem dX2_walkOn_75 : decode cX2_walkOn 75 = .ok (.aload_n 0, 1) := by decide +kernel
theorem dX2_walkOn_76 : decode cX2_walkOn 76 = .ok (.dup, 1) := by decide +kernel
theorem dX2_walkOn_77 : decode cX2_walkOn 77 = .ok (.getfield 36, 3) := by decide +kernel
theorem dX2_walkOn_80 : decode cX2_walkOn 80 = .ok (.aload_n 1, 1) := by decide +kernel
theorem dX2_walkOn_81 : decode cX2_walkOn 81 = .ok (.getfield 50, 3) := by decide +kernel
theorem dX2_walkOn_84 : decode cX2_walkOn 84 = .ok (.iload_n 2, 1) := by decide +kernel
theorem dX2_walkOn_85 : decode cX2_walkOn 85 = .ok (.iaload, 1) := by decide +kernel
theorem dX2_walkOn_86 : decode cX2_walkOn 86 = .ok (.iadd, 1) := by decide +kernel
theorem dX2_walkOn_87 : decode cX2_walkOn 87 = .ok (.putfield 36, 3) := by decide +kernel
theorem dX2_walkOn_90 : decode cX2_walkOn 90 = .ok (.aload_n 0, 1) := by decide +kernel
theorem dX2_walkOn_91 : decode cX2_walkOn 91 = .ok (.iload_n 3, 1) := by decide +kernel
theorem dX2_walkOn_92 : decode cX2_walkOn 92 = .ok (.putfield 39, 3) := by decide +kernel
theorem dX2_walkOn_95 : decode cX2_walkOn 95 = .ok (.iconst 1, 1) := by decide +kernel
theorem dX2_walkOn_96 : decode cX2_walkOn 96 = .ok (.ireturn, 1) := by decide +kernel
theorem dX2_walkLetter_0 : decode cX2_walkLetter 0 = .ok (.aload_n 1, 1) := by decide +kernel
theorem dX2_walkLetter_1 : decode cX2_walkLetter 1 = .ok (.iload_n 2, 1) := by decide +kernel
theorem dX2_walkLetter_2 : decode cX2_walkLetter 2 = .ok (.invokevirtual 61, 3) := by decide +kernel
theorem tw_775 : Cond.methodLink RX2 61 yX5_hasLetter ∈ TT := nx_mem 775 (by decide +kernel) (by decide +kernel)
theorem tw_776 : Cond.instanceMethod yX5_hasLetter ∈ TT := nx_mem 776 (by decide +kernel) (by decide +kernel)
theorem tw_777 : Cond.selects RX5 yX5_hasLetter yX5_hasLetter ∈ TT := nx_mem 777 (by decide +kernel) (by decide +kernel)
theorem tw_778 : Cond.code yX5_hasLetter cX5_hasLetter 2 (some .boolean) ∈ TT := nx_mem 778 (by decide +kernel) (by decide +kernel)
theorem dX2_walkLetter_5 : decode cX2_walkLetter 5 = .ok (.ifCond .ne 5, 3) := by decide +kernel
theorem dX2_walkLetter_8 : decode cX2_walkLetter 8 = .ok (.iconst 0, 1) := by decide +kernel
theorem dX2_walkLetter_9 : decode cX2_walkLetter 9 = .ok (.ireturn, 1) := by decide +kernel
theorem dX2_walkLetter_10 : decode cX2_walkLetter 10 = .ok (.iconst 0, 1) := by decide +kernel
theorem dX2_walkLetter_11 : decode cX2_walkLetter 11 = .ok (.istore_n 3, 1) := by decide +kernel
theorem dX2_walkLetter_12 : decode cX2_walkLetter 12 = .ok (.iload_n 3, 1) := by decide +kernel
theorem dX2_walkLetter_13 : decode cX2_walkLetter 13 = .ok (.aload_n 1, 1) := by decide +kernel
theorem dX2_walkLetter_14 : decode cX2_walkLetter 14 = .ok (.getfield 64, 3) := by decide +kernel
theorem tw_194 : Cond.fieldLink RX2 64 "LimpCode$School" "letterSizes" "[I" ∈ TT := nx_mem 194 (by decide +kernel) (by decide +kernel)
theorem dX2_walkLetter_17 : decode cX2_walkLetter 17 = .ok (.iload_n 2, 1) := by decide +kernel
theorem dX2_walkLetter_18 : decode cX2_walkLetter 18 = .ok (.iaload, 1) := by decide +kernel
theorem dX2_walkLetter_19 : decode cX2_walkLetter 19 = .ok (.if_icmp .ge 27, 3) := by decide +kernel
theorem dX2_walkLetter_46 : decode cX2_walkLetter 46 = .ok (.iconst 1, 1) := by decide +kernel
theorem dX2_walkLetter_47 : decode cX2_walkLetter 47 = .ok (.ireturn, 1) := by decide +kernel
theorem dX2_walkLetter_22 : decode cX2_walkLetter 22 = .ok (.aload_n 0, 1) := by decide +kernel
theorem dX2_walkLetter_23 : decode cX2_walkLetter 23 = .ok (.aload_n 1, 1) := by decide +kernel
theorem dX2_walkLetter_24 : decode cX2_walkLetter 24 = .ok (.aload_n 1, 1) := by decide +kernel
theorem dX2_walkLetter_25 : decode cX2_walkLetter 25 = .ok (.getfield 67, 3) := by decide +kernel
theorem tw_198 : Cond.fieldLink RX2 67 "LimpCode$School" "letterRows" "[[I" ∈ TT := nx_mem 198 (by decide +kernel) (by decide +kernel)
theorem dX2_walkLetter_28 : decode cX2_walkLetter 28 = .ok (.iload_n 2, 1) := by decide +kernel
theorem dX2_walkLetter_29 : decode cX2_walkLetter 29 = .ok (.aaload, 1) := by decide +kernel
theorem dX2_walkLetter_30 : decode cX2_walkLetter 30 = .ok (.iload_n 3, 1) := by decide +kernel
theorem dX2_walkLetter_31 : decode cX2_walkLetter 31 = .ok (.iaload, 1) := by decide +kernel
theorem dX2_walkLetter_32 : decode cX2_walkLetter 32 = .ok (.invokevirtual 71, 3) := by decide +kernel
theorem tw_779 : Cond.methodLink RX2 71 yX2_walkOn ∈ TT := nx_mem 779 (by decide +kernel) (by decide +kernel)
theorem tw_755 : Cond.instanceMethod yX2_walkOn ∈ TT := nx_mem 755 (by decide +kernel) (by decide +kernel)
theorem tw_756 : Cond.selects RX2 yX2_walkOn yX2_walkOn ∈ TT := nx_mem 756 (by decide +kernel) (by decide +kernel)
theorem tw_91 : Cond.initialized RX2 ∈ TT := nx_mem 91 (by decide +kernel) (by decide +kernel)
theorem tw_757 : Cond.code yX2_walkOn cX2_walkOn 4 (some .boolean) ∈ TT := nx_mem 757 (by decide +kernel) (by decide +kernel)
theorem dX2_walkLetter_35 : decode cX2_walkLetter 35 = .ok (.ifCond .ne 5, 3) := by decide +kernel
theorem dX2_walkLetter_40 : decode cX2_walkLetter 40 = .ok (.iinc 3 1, 3) := by decide +kernel
theorem dX2_walkLetter_43 : decode cX2_walkLetter 43 = .ok (.goto (-31), 3) := by decide +kernel
theorem dX2_walkLetter_38 : decode cX2_walkLetter 38 = .ok (.iconst 0, 1) := by decide +kernel
theorem dX2_walkLetter_39 : decode cX2_walkLetter 39 = .ok (.ireturn, 1) := by decide +kernel
theorem dX2_walkAll_0 : decode cX2_walkAll 0 = .ok (.aload_n 0, 1) := by decide +kernel
theorem dX2_walkAll_1 : decode cX2_walkAll 1 = .ok (.getfield 32, 3) := by decide +kernel
theorem dX2_walkAll_4 : decode cX2_walkAll 4 = .ok (.istore_n 3, 1) := by decide +kernel
theorem dX2_walkAll_5 : decode cX2_walkAll 5 = .ok (.aload_n 0, 1) := by decide +kernel
theorem dX2_walkAll_6 : decode cX2_walkAll 6 = .ok (.getfield 36, 3) := by decide +kernel
theorem dX2_walkAll_9 : decode cX2_walkAll 9 = .ok (.istore 4, 2) := by decide +kernel
theorem dX2_walkAll_11 : decode cX2_walkAll 11 = .ok (.aload_n 0, 1) := by decide +kernel
theorem dX2_walkAll_12 : decode cX2_walkAll 12 = .ok (.getfield 39, 3) := by decide +kernel
theorem dX2_walkAll_15 : decode cX2_walkAll 15 = .ok (.istore 5, 2) := by decide +kernel
theorem dX2_walkAll_17 : decode cX2_walkAll 17 = .ok (.iconst 0, 1) := by decide +kernel
theorem dX2_walkAll_18 : decode cX2_walkAll 18 = .ok (.istore 6, 2) := by decide +kernel
theorem dX2_walkAll_20 : decode cX2_walkAll 20 = .ok (.iload 6, 2) := by decide +kernel
theorem dX2_walkAll_22 : decode cX2_walkAll 22 = .ok (.aload_n 2, 1) := by decide +kernel
theorem dX2_walkAll_23 : decode cX2_walkAll 23 = .ok (.getfield 53, 3) := by decide +kernel
theorem iw_X10 : ∀ w ∈ u_ws RX10 TX10 4, w ∈ TT := nx_mems _ [312, 314, 316, 318] (by decide +kernel) (by decide +kernel)
theorem tw_307 : Cond.fieldLink RX2 53 "LimpCode$Text" "size" "I" ∈ TT := nx_mem 307 (by decide +kernel) (by decide +kernel)
theorem dX2_walkAll_26 : decode cX2_walkAll 26 = .ok (.if_icmp .ge 43, 3) := by decide +kernel
theorem dX2_walkAll_69 : decode cX2_walkAll 69 = .ok (.iconst 1, 1) := by decide +kernel
theorem dX2_walkAll_70 : decode cX2_walkAll 70 = .ok (.ireturn, 1) := by decide +kernel
theorem dX2_walkAll_29 : decode cX2_walkAll 29 = .ok (.aload_n 0, 1) := by decide +kernel
theorem dX2_walkAll_30 : decode cX2_walkAll 30 = .ok (.aload_n 1, 1) := by decide +kernel
theorem dX2_walkAll_31 : decode cX2_walkAll 31 = .ok (.aload_n 2, 1) := by decide +kernel
theorem dX2_walkAll_32 : decode cX2_walkAll 32 = .ok (.getfield 56, 3) := by decide +kernel
theorem tw_304 : Cond.fieldLink RX2 56 "LimpCode$Text" "row" "[I" ∈ TT := nx_mem 304 (by decide +kernel) (by decide +kernel)
theorem dX2_walkAll_35 : decode cX2_walkAll 35 = .ok (.iload 6, 2) := by decide +kernel
theorem dX2_walkAll_37 : decode cX2_walkAll 37 = .ok (.iaload, 1) := by decide +kernel
theorem dX2_walkAll_38 : decode cX2_walkAll 38 = .ok (.invokevirtual 57, 3) := by decide +kernel
theorem tw_771 : Cond.methodLink RX2 57 yX2_walkLetter ∈ TT := nx_mem 771 (by decide +kernel) (by decide +kernel)
theorem tw_773 : Cond.instanceMethod yX2_walkLetter ∈ TT := nx_mem 773 (by decide +kernel) (by decide +kernel)
theorem tw_15 : Cond.selects RX2 yX2_walkLetter yX2_walkLetter ∈ TT := nx_mem 15 (by decide +kernel) (by decide +kernel)
theorem tw_774 : Cond.code yX2_walkLetter cX2_walkLetter 4 (some .boolean) ∈ TT := nx_mem 774 (by decide +kernel) (by decide +kernel)
theorem dX2_walkAll_41 : decode cX2_walkAll 41 = .ok (.ifCond .ne 22, 3) := by decide +kernel
theorem dX2_walkAll_63 : decode cX2_walkAll 63 = .ok (.iinc 6 1, 3) := by decide +kernel
theorem dX2_walkAll_66 : decode cX2_walkAll 66 = .ok (.goto (-46), 3) := by decide +kernel
theorem dX2_walkAll_44 : decode cX2_walkAll 44 = .ok (.aload_n 0, 1) := by decide +kernel
theorem dX2_walkAll_45 : decode cX2_walkAll 45 = .ok (.iload_n 3, 1) := by decide +kernel
theorem dX2_walkAll_46 : decode cX2_walkAll 46 = .ok (.putfield 32, 3) := by decide +kernel
theorem dX2_walkAll_49 : decode cX2_walkAll 49 = .ok (.aload_n 0, 1) := by decide +kernel
theorem dX2_walkAll_50 : decode cX2_walkAll 50 = .ok (.iload 4, 2) := by decide +kernel
theorem dX2_walkAll_52 : decode cX2_walkAll 52 = .ok (.putfield 36, 3) := by decide +kernel
theorem dX2_walkAll_55 : decode cX2_walkAll 55 = .ok (.aload_n 0, 1) := by decide +kernel
theorem dX2_walkAll_56 : decode cX2_walkAll 56 = .ok (.iload 5, 2) := by decide +kernel
theorem dX2_walkAll_58 : decode cX2_walkAll 58 = .ok (.putfield 39, 3) := by decide +kernel
theorem dX2_walkAll_61 : decode cX2_walkAll 61 = .ok (.iconst 0, 1) := by decide +kernel
theorem dX2_walkAll_62 : decode cX2_walkAll 62 = .ok (.ireturn, 1) := by decide +kernel
theorem dX2_hearWalk_0 : decode cX2_hearWalk 0 = .ok (.iconst 0, 1) := by decide +kernel
theorem dX2_hearWalk_1 : decode cX2_hearWalk 1 = .ok (.istore 4, 2) := by decide +kernel
theorem dX2_hearWalk_3 : decode cX2_hearWalk 3 = .ok (.iconst 0, 1) := by decide +kernel
theorem dX2_hearWalk_4 : decode cX2_hearWalk 4 = .ok (.istore 5, 2) := by decide +kernel
theorem dX2_hearWalk_6 : decode cX2_hearWalk 6 = .ok (.iload 5, 2) := by decide +kernel
theorem dX2_hearWalk_8 : decode cX2_hearWalk 8 = .ok (.aload_n 0, 1) := by decide +kernel
theorem dX2_hearWalk_9 : decode cX2_hearWalk 9 = .ok (.getfield 32, 3) := by decide +kernel
theorem dX2_hearWalk_12 : decode cX2_hearWalk 12 = .ok (.if_icmp .ge 45, 3) := by decide +kernel
theorem dX2_hearWalk_57 : decode cX2_hearWalk 57 = .ok (.return_, 1) := by decide +kernel
theorem dX2_hearWalk_15 : decode cX2_hearWalk 15 = .ok (.aload_n 0, 1) := by decide +kernel
theorem dX2_hearWalk_16 : decode cX2_hearWalk 16 = .ok (.getfield 9, 3) := by decide +kernel
theorem dX2_hearWalk_19 : decode cX2_hearWalk 19 = .ok (.iload 5, 2) := by decide +kernel
theorem dX2_hearWalk_21 : decode cX2_hearWalk 21 = .ok (.iaload, 1) := by decide +kernel
theorem dX2_hearWalk_22 : decode cX2_hearWalk 22 = .ok (.istore 6, 2) := by decide +kernel
theorem dX2_hearWalk_24 : decode cX2_hearWalk 24 = .ok (.aload_n 3, 1) := by decide +kernel
theorem dX2_hearWalk_25 : decode cX2_hearWalk 25 = .ok (.iload 4, 2) := by decide +kernel
theorem dX2_hearWalk_27 : decode cX2_hearWalk 27 = .ok (.aload_n 1, 1) := by decide +kernel
theorem dX2_hearWalk_28 : decode cX2_hearWalk 28 = .ok (.aload_n 0, 1) := by decide +kernel
theorem dX2_hearWalk_29 : decode cX2_hearWalk 29 = .ok (.getfield 15, 3) := by decide +kernel
theorem tw_272 : Cond.fieldLink RX2 15 "LimpCode$Earnest" "loud" "[I" ∈ TT := nx_mem 272 (by decide +kernel) (by decide +kernel)
theorem dX2_hearWalk_32 : decode cX2_hearWalk 32 = .ok (.iload 6, 2) := by decide +kernel
theorem dX2_hearWalk_34 : decode cX2_hearWalk 34 = .ok (.iaload, 1) := by decide +kernel
theorem dX2_hearWalk_35 : decode cX2_hearWalk 35 = .ok (.iload_n 2, 1) := by decide +kernel
theorem dX2_hearWalk_36 : decode cX2_hearWalk 36 = .ok (.invokevirtual 74, 3) := by decide +kernel
theorem tw_797 : Cond.methodLink RX2 74 yX5_heardBelow ∈ TT := nx_mem 797 (by decide +kernel) (by decide +kernel)
theorem tw_798 : Cond.instanceMethod yX5_heardBelow ∈ TT := nx_mem 798 (by decide +kernel) (by decide +kernel)
theorem tw_799 : Cond.selects RX5 yX5_heardBelow yX5_heardBelow ∈ TT := nx_mem 799 (by decide +kernel) (by decide +kernel)
theorem tw_800 : Cond.code yX5_heardBelow cX5_heardBelow 3 (some .int) ∈ TT := nx_mem 800 (by decide +kernel) (by decide +kernel)
theorem dX2_hearWalk_39 : decode cX2_hearWalk 39 = .ok (.aload_n 1, 1) := by decide +kernel
theorem dX2_hearWalk_40 : decode cX2_hearWalk 40 = .ok (.getfield 50, 3) := by decide +kernel
theorem dX2_hearWalk_43 : decode cX2_hearWalk 43 = .ok (.iload 6, 2) := by decide +kernel
theorem dX2_hearWalk_45 : decode cX2_hearWalk 45 = .ok (.iaload, 1) := by decide +kernel
theorem dX2_hearWalk_46 : decode cX2_hearWalk 46 = .ok (.invokestatic 77, 3) := by decide +kernel
theorem tw_806 : Cond.static yX11_putStep ∈ TT := nx_mem 806 (by decide +kernel) (by decide +kernel)
theorem tw_87 : Cond.initialized RX11 ∈ TT := nx_mem 87 (by decide +kernel) (by decide +kernel)
theorem tw_807 : Cond.code yX11_putStep cX11_putStep 6 (some .int) ∈ TT := nx_mem 807 (by decide +kernel) (by decide +kernel)
theorem dX2_hearWalk_49 : decode cX2_hearWalk 49 = .ok (.istore 4, 2) := by decide +kernel
theorem dX2_hearWalk_51 : decode cX2_hearWalk 51 = .ok (.iinc 5 1, 3) := by decide +kernel
theorem dX2_hearWalk_54 : decode cX2_hearWalk 54 = .ok (.goto (-48), 3) := by decide +kernel
theorem dX2_takenBy_0 : decode cX2_takenBy 0 = .ok (.iconst 0, 1) := by decide +kernel
theorem dX2_takenBy_1 : decode cX2_takenBy 1 = .ok (.istore_n 3, 1) := by decide +kernel
theorem dX2_takenBy_2 : decode cX2_takenBy 2 = .ok (.iconst 0, 1) := by decide +kernel
theorem dX2_takenBy_3 : decode cX2_takenBy 3 = .ok (.istore 4, 2) := by decide +kernel
theorem dX2_takenBy_5 : decode cX2_takenBy 5 = .ok (.iconst 0, 1) := by decide +kernel
theorem dX2_takenBy_6 : decode cX2_takenBy 6 = .ok (.istore 5, 2) := by decide +kernel
theorem dX2_takenBy_8 : decode cX2_takenBy 8 = .ok (.iload 5, 2) := by decide +kernel
theorem dX2_takenBy_10 : decode cX2_takenBy 10 = .ok (.aload_n 0, 1) := by decide +kernel
theorem dX2_takenBy_11 : decode cX2_takenBy 11 = .ok (.getfield 32, 3) := by decide +kernel
theorem dX2_takenBy_14 : decode cX2_takenBy 14 = .ok (.if_icmp .ge 55, 3) := by decide +kernel
theorem dX2_takenBy_69 : decode cX2_takenBy 69 = .ok (.iload_n 3, 1) := by decide +kernel
theorem dX2_takenBy_70 : decode cX2_takenBy 70 = .ok (.ireturn, 1) := by decide +kernel
theorem dX2_takenBy_17 : decode cX2_takenBy 17 = .ok (.aload_n 0, 1) := by decide +kernel
theorem dX2_takenBy_18 : decode cX2_takenBy 18 = .ok (.getfield 9, 3) := by decide +kernel
theorem dX2_takenBy_21 : decode cX2_takenBy 21 = .ok (.iload 5, 2) := by decide +kernel
theorem dX2_takenBy_23 : decode cX2_takenBy 23 = .ok (.iaload, 1) := by decide +kernel
theorem dX2_takenBy_24 : decode cX2_takenBy 24 = .ok (.istore 6, 2) := by decide +kernel
theorem dX2_takenBy_26 : decode cX2_takenBy 26 = .ok (.aload_n 1, 1) := by decide +kernel
theorem dX2_takenBy_27 : decode cX2_takenBy 27 = .ok (.getfield 81, 3) := by decide +kernel
theorem tw_188 : Cond.fieldLink RX2 81 "LimpCode$School" "sides" "[I" ∈ TT := nx_mem 188 (by decide +kernel) (by decide +kernel)
theorem dX2_takenBy_30 : decode cX2_takenBy 30 = .ok (.iload 6, 2) := by decide +kernel
theorem dX2_takenBy_32 : decode cX2_takenBy 32 = .ok (.iaload, 1) := by decide +kernel
theorem dX2_takenBy_33 : decode cX2_takenBy 33 = .ok (.iconst 3, 1) := by decide +kernel
theorem dX2_takenBy_34 : decode cX2_takenBy 34 = .ok (.if_icmp .eq 29, 3) := by decide +kernel
theorem dX2_takenBy_63 : decode cX2_takenBy 63 = .ok (.iinc 5 1, 3) := by decide +kernel
theorem dX2_takenBy_66 : decode cX2_takenBy 66 = .ok (.goto (-58), 3) := by decide +kernel
theorem dX2_takenBy_37 : decode cX2_takenBy 37 = .ok (.iload_n 3, 1) := by decide +kernel
theorem dX2_takenBy_38 : decode cX2_takenBy 38 = .ok (.iload 4, 2) := by decide +kernel
theorem dX2_takenBy_40 : decode cX2_takenBy 40 = .ok (.iload_n 2, 1) := by decide +kernel
theorem dX2_takenBy_41 : decode cX2_takenBy 41 = .ok (.if_icmp .ne 13, 3) := by decide +kernel
theorem dX2_takenBy_54 : decode cX2_takenBy 54 = .ok (.iconst 0, 1) := by decide +kernel
theorem dX2_takenBy_55 : decode cX2_takenBy 55 = .ok (.iadd, 1) := by decide +kernel
theorem dX2_takenBy_56 : decode cX2_takenBy 56 = .ok (.istore_n 3, 1) := by decide +kernel
theorem dX2_takenBy_57 : decode cX2_takenBy 57 = .ok (.iconst 1, 1) := by decide +kernel
theorem dX2_takenBy_58 : decode cX2_takenBy 58 = .ok (.iload 4, 2) := by decide +kernel
theorem dX2_takenBy_60 : decode cX2_takenBy 60 = .ok (.isub, 1) := by decide +kernel
theorem dX2_takenBy_61 : decode cX2_takenBy 61 = .ok (.istore 4, 2) := by decide +kernel
theorem dX2_takenBy_44 : decode cX2_takenBy 44 = .ok (.aload_n 1, 1) := by decide +kernel
theorem dX2_takenBy_45 : decode cX2_takenBy 45 = .ok (.getfield 50, 3) := by decide +kernel
theorem dX2_takenBy_48 : decode cX2_takenBy 48 = .ok (.iload 6, 2) := by decide +kernel
theorem dX2_takenBy_50 : decode cX2_takenBy 50 = .ok (.iaload, 1) := by decide +kernel
theorem dX2_takenBy_51 : decode cX2_takenBy 51 = .ok (.goto 4, 3) := by decide +kernel
theorem dX2_begin_0 : decode cX2_begin 0 = .ok (.aload_n 0, 1) := by decide +kernel
theorem dX2_begin_1 : decode cX2_begin 1 = .ok (.invokevirtual 18, 3) := by decide +kernel
theorem tw_735 : Cond.methodLink RX2 18 yX2_standStill ∈ TT := nx_mem 735 (by decide +kernel) (by decide +kernel)
theorem tw_736 : Cond.instanceMethod yX2_standStill ∈ TT := nx_mem 736 (by decide +kernel) (by decide +kernel)
theorem tw_737 : Cond.selects RX2 yX2_standStill yX2_standStill ∈ TT := nx_mem 737 (by decide +kernel) (by decide +kernel)
theorem tw_738 : Cond.code yX2_standStill cX2_standStill 1 none ∈ TT := nx_mem 738 (by decide +kernel) (by decide +kernel)
theorem dX2_begin_4 : decode cX2_begin 4 = .ok (.aload_n 1, 1) := by decide +kernel
theorem dX2_begin_5 : decode cX2_begin 5 = .ok (.getfield 21, 3) := by decide +kernel
theorem tw_183 : Cond.fieldLink RX2 21 "LimpCode$School" "toldLoud" "[I" ∈ TT := nx_mem 183 (by decide +kernel) (by decide +kernel)
theorem dX2_begin_8 : decode cX2_begin 8 = .ok (.iconst 0, 1) := by decide +kernel
theorem dX2_begin_9 : decode cX2_begin 9 = .ok (.aload_n 0, 1) := by decide +kernel
theorem dX2_begin_10 : decode cX2_begin 10 = .ok (.getfield 15, 3) := by decide +kernel
theorem dX2_begin_13 : decode cX2_begin 13 = .ok (.iconst 0, 1) := by decide +kernel
theorem dX2_begin_14 : decode cX2_begin 14 = .ok (.bipush 6, 2) := by decide +kernel
theorem dX2_begin_16 : decode cX2_begin 16 = .ok (.invokestatic 26, 3) := by decide +kernel
theorem tw_739 : Cond.methodLink RX2 26 arraycopyName ∈ TT := nx_mem 739 (by decide +kernel) (by decide +kernel)
theorem tw_741 : Cond.native arraycopyName ∈ TT := nx_mem 741 (by decide +kernel) (by decide +kernel)
theorem tw_740 : Cond.static arraycopyName ∈ TT := nx_mem 740 (by decide +kernel) (by decide +kernel)
theorem tw_104 : Cond.initialized "java/lang/System" ∈ TT := nx_mem 104 (by decide +kernel) (by decide +kernel)
theorem dX2_begin_19 : decode cX2_begin 19 = .ok (.return_, 1) := by decide +kernel
theorem dX2_copyFrom_0 : decode cX2_copyFrom 0 = .ok (.aload_n 1, 1) := by decide +kernel
theorem dX2_copyFrom_1 : decode cX2_copyFrom 1 = .ok (.getfield 9, 3) := by decide +kernel
theorem dX2_copyFrom_4 : decode cX2_copyFrom 4 = .ok (.iconst 0, 1) := by decide +kernel
theorem dX2_copyFrom_5 : decode cX2_copyFrom 5 = .ok (.aload_n 0, 1) := by decide +kernel
theorem dX2_copyFrom_6 : decode cX2_copyFrom 6 = .ok (.getfield 9, 3) := by decide +kernel
theorem dX2_copyFrom_9 : decode cX2_copyFrom 9 = .ok (.iconst 0, 1) := by decide +kernel
theorem dX2_copyFrom_10 : decode cX2_copyFrom 10 = .ok (.bipush 60, 2) := by decide +kernel
theorem dX2_copyFrom_12 : decode cX2_copyFrom 12 = .ok (.invokestatic 26, 3) := by decide +kernel
theorem dX2_copyFrom_15 : decode cX2_copyFrom 15 = .ok (.aload_n 1, 1) := by decide +kernel
theorem dX2_copyFrom_16 : decode cX2_copyFrom 16 = .ok (.getfield 15, 3) := by decide +kernel
theorem dX2_copyFrom_19 : decode cX2_copyFrom 19 = .ok (.iconst 0, 1) := by decide +kernel
theorem dX2_copyFrom_20 : decode cX2_copyFrom 20 = .ok (.aload_n 0, 1) := by decide +kernel
theorem dX2_copyFrom_21 : decode cX2_copyFrom 21 = .ok (.getfield 15, 3) := by decide +kernel
theorem dX2_copyFrom_24 : decode cX2_copyFrom 24 = .ok (.iconst 0, 1) := by decide +kernel
theorem dX2_copyFrom_25 : decode cX2_copyFrom 25 = .ok (.bipush 6, 2) := by decide +kernel
theorem dX2_copyFrom_27 : decode cX2_copyFrom 27 = .ok (.invokestatic 26, 3) := by decide +kernel
theorem dX2_copyFrom_30 : decode cX2_copyFrom 30 = .ok (.aload_n 0, 1) := by decide +kernel
theorem dX2_copyFrom_31 : decode cX2_copyFrom 31 = .ok (.aload_n 1, 1) := by decide +kernel
theorem dX2_copyFrom_32 : decode cX2_copyFrom 32 = .ok (.getfield 32, 3) := by decide +kernel
theorem dX2_copyFrom_35 : decode cX2_copyFrom 35 = .ok (.putfield 32, 3) := by decide +kernel
theorem dX2_copyFrom_38 : decode cX2_copyFrom 38 = .ok (.aload_n 0, 1) := by decide +kernel
theorem dX2_copyFrom_39 : decode cX2_copyFrom 39 = .ok (.aload_n 1, 1) := by decide +kernel
theorem dX2_copyFrom_40 : decode cX2_copyFrom 40 = .ok (.getfield 36, 3) := by decide +kernel
theorem dX2_copyFrom_43 : decode cX2_copyFrom 43 = .ok (.putfield 36, 3) := by decide +kernel
theorem dX2_copyFrom_46 : decode cX2_copyFrom 46 = .ok (.aload_n 0, 1) := by decide +kernel
theorem dX2_copyFrom_47 : decode cX2_copyFrom 47 = .ok (.aload_n 1, 1) := by decide +kernel
theorem dX2_copyFrom_48 : decode cX2_copyFrom 48 = .ok (.getfield 39, 3) := by decide +kernel
theorem dX2_copyFrom_51 : decode cX2_copyFrom 51 = .ok (.putfield 39, 3) := by decide +kernel
theorem dX2_copyFrom_54 : decode cX2_copyFrom 54 = .ok (.return_, 1) := by decide +kernel
theorem dX10_clear_0 : decode cX10_clear 0 = .ok (.aload_n 0, 1) := by decide +kernel
theorem dX10_clear_1 : decode cX10_clear 1 = .ok (.iconst 0, 1) := by decide +kernel
theorem dX10_clear_2 : decode cX10_clear 2 = .ok (.putfield 15, 3) := by decide +kernel
theorem tw_305 : Cond.fieldLink RX10 15 "LimpCode$Text" "size" "I" ∈ TT := nx_mem 305 (by decide +kernel) (by decide +kernel)
theorem dX10_clear_5 : decode cX10_clear 5 = .ok (.aload_n 0, 1) := by decide +kernel
theorem dX10_clear_6 : decode cX10_clear 6 = .ok (.iconst 0, 1) := by decide +kernel
theorem dX10_clear_7 : decode cX10_clear 7 = .ok (.putfield 19, 3) := by decide +kernel
theorem tw_309 : Cond.fieldLink RX10 19 "LimpCode$Text" "time" "I" ∈ TT := nx_mem 309 (by decide +kernel) (by decide +kernel)
theorem dX10_clear_10 : decode cX10_clear 10 = .ok (.aload_n 0, 1) := by decide +kernel
theorem dX10_clear_11 : decode cX10_clear 11 = .ok (.iconst 0, 1) := by decide +kernel
theorem dX10_clear_12 : decode cX10_clear 12 = .ok (.putfield 22, 3) := by decide +kernel
theorem tw_311 : Cond.fieldLink RX10 22 "LimpCode$Text" "foot" "I" ∈ TT := nx_mem 311 (by decide +kernel) (by decide +kernel)
theorem dX10_clear_15 : decode cX10_clear 15 = .ok (.return_, 1) := by decide +kernel
theorem dX10_add_0 : decode cX10_add 0 = .ok (.aload_n 1, 1) := by decide +kernel
theorem dX10_add_1 : decode cX10_add 1 = .ok (.iload_n 2, 1) := by decide +kernel
theorem dX10_add_2 : decode cX10_add 2 = .ok (.invokevirtual 25, 3) := by decide +kernel
theorem tw_951 : Cond.methodLink RX10 25 yX5_hasLetter ∈ TT := nx_mem 951 (by decide +kernel) (by decide +kernel)
theorem dX10_add_5 : decode cX10_add 5 = .ok (.ifCond .eq 15, 3) := by decide +kernel
theorem dX10_add_20 : decode cX10_add 20 = .ok (.iconst 0, 1) := by decide +kernel
theorem dX10_add_21 : decode cX10_add 21 = .ok (.ireturn, 1) := by decide +kernel
theorem dX10_add_8 : decode cX10_add 8 = .ok (.aload_n 0, 1) := by decide +kernel
theorem dX10_add_9 : decode cX10_add 9 = .ok (.getfield 15, 3) := by decide +kernel
theorem dX10_add_12 : decode cX10_add 12 = .ok (.aload_n 0, 1) := by decide +kernel
theorem dX10_add_13 : decode cX10_add 13 = .ok (.getfield 9, 3) := by decide +kernel
theorem tw_302 : Cond.fieldLink RX10 9 "LimpCode$Text" "row" "[I" ∈ TT := nx_mem 302 (by decide +kernel) (by decide +kernel)
theorem dX10_add_16 : decode cX10_add 16 = .ok (.arraylength, 1) := by decide +kernel
theorem dX10_add_17 : decode cX10_add 17 = .ok (.if_icmp .lt 5, 3) := by decide +kernel
theorem dX10_add_22 : decode cX10_add 22 = .ok (.aload_n 1, 1) := by decide +kernel
theorem dX10_add_23 : decode cX10_add 23 = .ok (.getfield 31, 3) := by decide +kernel
theorem tw_205 : Cond.fieldLink RX10 31 "LimpCode$School" "letterAfter" "[[I" ∈ TT := nx_mem 205 (by decide +kernel) (by decide +kernel)
theorem dX10_add_26 : decode cX10_add 26 = .ok (.iload_n 2, 1) := by decide +kernel
theorem dX10_add_27 : decode cX10_add 27 = .ok (.aaload, 1) := by decide +kernel
theorem dX10_add_28 : decode cX10_add 28 = .ok (.aload_n 0, 1) := by decide +kernel
theorem dX10_add_29 : decode cX10_add 29 = .ok (.getfield 22, 3) := by decide +kernel
theorem dX10_add_32 : decode cX10_add 32 = .ok (.iaload, 1) := by decide +kernel
theorem dX10_add_33 : decode cX10_add 33 = .ok (.istore_n 3, 1) := by decide +kernel
theorem dX10_add_34 : decode cX10_add 34 = .ok (.iload_n 3, 1) := by decide +kernel
theorem dX10_add_35 : decode cX10_add 35 = .ok (.iconst (-1), 1) := by decide +kernel
theorem dX10_add_36 : decode cX10_add 36 = .ok (.if_icmp .eq 19, 3) := by decide +kernel
theorem dX10_add_55 : decode cX10_add 55 = .ok (.iconst 0, 1) := by decide +kernel
theorem dX10_add_56 : decode cX10_add 56 = .ok (.ireturn, 1) := by decide +kernel
theorem dX10_add_39 : decode cX10_add 39 = .ok (.aload_n 0, 1) := by decide +kernel
theorem dX10_add_40 : decode cX10_add 40 = .ok (.getfield 19, 3) := by decide +kernel
theorem dX10_add_43 : decode cX10_add 43 = .ok (.aload_n 1, 1) := by decide +kernel
theorem dX10_add_44 : decode cX10_add 44 = .ok (.getfield 35, 3) := by decide +kernel
theorem tw_202 : Cond.fieldLink RX10 35 "LimpCode$School" "letterTakes" "[I" ∈ TT := nx_mem 202 (by decide +kernel) (by decide +kernel)
theorem dX10_add_47 : decode cX10_add 47 = .ok (.iload_n 2, 1) := by decide +kernel
theorem dX10_add_48 : decode cX10_add 48 = .ok (.iaload, 1) := by decide +kernel
theorem dX10_add_49 : decode cX10_add 49 = .ok (.iadd, 1) := by decide +kernel
theorem dX10_add_50 : decode cX10_add 50 = .ok (.bipush 60, 2) := by decide +kernel
theorem dX10_add_52 : decode cX10_add 52 = .ok (.if_icmp .le 5, 3) := by decide +kernel
theorem dX10_add_57 : decode cX10_add 57 = .ok (.aload_n 0, 1) := by decide +kernel
theorem dX10_add_58 : decode cX10_add 58 = .ok (.getfield 9, 3) := by decide +kernel
theorem dX10_add_61 : decode cX10_add 61 = .ok (.aload_n 0, 1) := by decide +kernel
theorem dX10_add_62 : decode cX10_add 62 = .ok (.getfield 15, 3) := by decide +kernel
theorem dX10_add_65 : decode cX10_add 65 = .ok (.iload_n 2, 1) := by decide +kernel
theorem dX10_add_66 : decode cX10_add 66 = .ok (.iastore, 1) := by decide +kernel
theorem dX10_add_67 : decode cX10_add 67 = .ok (.aload_n 0, 1) := by decide +kernel
theorem dX10_add_68 : decode cX10_add 68 = .ok (.dup, 1) := by decide +kernel
theorem dX10_add_69 : decode cX10_add 69 = .ok (.getfield 15, 3) := by decide +kernel
theorem dX10_add_72 : decode cX10_add 72 = .ok (.iconst 1, 1) := by decide +kernel
theorem dX10_add_73 : decode cX10_add 73 = .ok (.iadd, 1) := by decide +kernel
theorem dX10_add_74 : decode cX10_add 74 = .ok (.putfield 15, 3) := by decide +kernel
theorem dX10_add_77 : decode cX10_add 77 = .ok (.aload_n 0, 1) := by decide +kernel
theorem dX10_add_78 : decode cX10_add 78 = .ok (.dup, 1) := by decide +kernel
theorem dX10_add_79 : decode cX10_add 79 = .ok (.getfield 19, 3) := by decide +kernel
theorem dX10_add_82 : decode cX10_add 82 = .ok (.aload_n 1, 1) := by decide +kernel
theorem dX10_add_83 : decode cX10_add 83 = .ok (.getfield 35, 3) := by decide +kernel
theorem dX10_add_86 : decode cX10_add 86 = .ok (.iload_n 2, 1) := by decide +kernel
theorem dX10_add_87 : decode cX10_add 87 = .ok (.iaload, 1) := by decide +kernel
theorem dX10_add_88 : decode cX10_add 88 = .ok (.iadd, 1) := by decide +kernel
theorem dX10_add_89 : decode cX10_add 89 = .ok (.putfield 19, 3) := by decide +kernel
theorem dX10_add_92 : decode cX10_add 92 = .ok (.aload_n 0, 1) := by decide +kernel
theorem dX10_add_93 : decode cX10_add 93 = .ok (.iload_n 3, 1) := by decide +kernel
theorem dX10_add_94 : decode cX10_add 94 = .ok (.putfield 22, 3) := by decide +kernel
theorem dX10_add_97 : decode cX10_add 97 = .ok (.iconst 1, 1) := by decide +kernel
theorem dX10_add_98 : decode cX10_add 98 = .ok (.ireturn, 1) := by decide +kernel
set_option maxHeartbeats 4000000 in
set_option maxRecDepth 100000 in
theorem s_X2_standStill (lau : Launch) (gg : va_G) (kA : Nat → ClassId) (b : Nat) (b0 : Nat) (b1 : Nat) (bsz : Int32) (btm : Int32) (bft : Int32) (bkp : Int32)  : CtV lau yX2_standStill cX2_standStill 1 (none) 1 0 0 gg kA [.ref b] (mflat [(b, .inl (.inr (2, [.ref b0, .ref b1, .int bsz, .int btm, .int bft, .int bkp])))]) (S := Unit) (fun (_ : Unit) => True) (fun (_ : Unit) => mflat [(b, .inl (.inr (2, [.ref b0, .ref b1, .int 0, .int 0, .int 0, .int bkp])))]) := by
  refine nx_startV (by decide +kernel) (Nat.le_of_ble_eq_true rfl) ?_
  intro x hnm h hq
  have h : Ok x cX2_standStill RX2 kA (rmC 1 0 0) 1 := h
  show J x (mflat [(b, .inl (.inr (2, [.ref b0, .ref b1, .int bsz, .int btm, .int bft, .int bkp])))]) [(0, .ref b)] 0 0 0 []
  refine j_aload_n h 0 rfl rfl dX2_standStill_0 ?_
  refine j_iconst (v := 0) h (by decide) dX2_standStill_1 ?_
  refine jm_put (w' := [(b, .inl (.inr (2, [.ref b0, .ref b1, .int 0, .int btm, .int bft, .int bkp])))]) h iw_X2 tyX2 tyX2_ok nmX2 0 rfl rfl 2 (by decide +kernel) tw_274 rfl rfl rfl (Nat.le_of_ble_eq_true rfl) dX2_standStill_2 rfl ?_
  refine j_aload_n h 0 rfl rfl dX2_standStill_5 ?_
  refine j_iconst (v := 0) h (by decide) dX2_standStill_6 ?_
  refine jm_put (w' := [(b, .inl (.inr (2, [.ref b0, .ref b1, .int 0, .int 0, .int bft, .int bkp])))]) h iw_X2 tyX2 tyX2_ok nmX2 0 rfl rfl 3 (by decide +kernel) tw_276 rfl rfl rfl (Nat.le_of_ble_eq_true rfl) dX2_standStill_7 rfl ?_
  refine j_aload_n h 0 rfl rfl dX2_standStill_10 ?_
  refine j_iconst (v := 0) h (by decide) dX2_standStill_11 ?_
  refine jm_put (w' := [(b, .inl (.inr (2, [.ref b0, .ref b1, .int 0, .int 0, .int 0, .int bkp])))]) h iw_X2 tyX2 tyX2_ok nmX2 0 rfl rfl 4 (by decide +kernel) tw_278 rfl rfl rfl (Nat.le_of_ble_eq_true rfl) dX2_standStill_12 rfl ?_
  exact jm_vret h hq dX2_standStill_15 () [0] rfl (by decide) trivial (Nat.le_of_ble_eq_true rfl) (Nat.le_of_ble_eq_true rfl)
set_option maxHeartbeats 4000000 in
set_option maxRecDepth 100000 in
theorem s_X2_walkOn (lau : Launch) (gg : va_G) (kA : Nat → ClassId) (b : Nat) (s : Nat) (st0 : Int32) (b0 : Nat) (b1 : Nat) (bsz : Nat) (btm : Nat) (bft : Nat) (bkp : Int32) (brow : Nat → Int32) (s0 : Nat) (s1 : Nat) (s2 : Nat) (s3 : Nat) (s4 : Nat) (s5 : Nat) (s6 : Nat) (s7 : Nat) (s8 : Nat) (s9 : Nat) (s10 : Nat) (s11 : Nat) (sn : Nat) (sl : Nat) (se : Nat) (sc1 : Nat → Int32) (sc3 : Nat → Int32) (hsn : sn ≤ 6) (hsl : sl ≤ 10) (hse : se ≤ 4) (hstk : TkOk sn sc1) (hbsz : bsz ≤ 60) (hbtm : btm ≤ 60) (hbft : bft ≤ 1) (hbro : RoOk sn bsz brow) : CtI lau yX2_walkOn cX2_walkOn 4 (some .boolean) 3 0 0 gg kA [.ref b, .ref s, .int st0] (mflat [(b, .inl (.inr (2, [.ref b0, .ref b1, .int (nI bsz), .int (nI btm), .int (nI bft), .int bkp]))), (b0, .inl (.inl (kA 1, 60, .inl brow))), (s, .inl (.inr (5, [.ref s0, .ref s1, .ref s2, .ref s3, .ref s4, .ref s5, .ref s6, .ref s7, .ref s8, .ref s9, .ref s10, .ref s11, .int (nI sn), .int (nI sl), .int (nI se)]))), (s1, .inl (.inl (kA 1, 6, .inl sc1))), (s3, .inl (.inl (kA 1, 6, .inl sc3)))]) (S := Nat × Nat × Nat × Nat × (Nat → Int32)) (fun (r : Int32) ((y_r, y_b_2, y_b_3, y_b_4, y_b0) : Nat × Nat × Nat × Nat × (Nat → Int32)) => r = nI y_r ∧ (y_r ≤ 1) ∧ (y_b_2 ≤ 60) ∧ (y_b_3 ≤ 60) ∧ (y_b_4 ≤ 1) ∧ (RoOk sn y_b_2 y_b0) ∧ (bsz ≤ y_b_2)) (fun ((y_r, y_b_2, y_b_3, y_b_4, y_b0) : Nat × Nat × Nat × Nat × (Nat → Int32)) => mflat [(b, .inl (.inr (2, [.ref b0, .ref b1, .int (nI y_b_2), .int (nI y_b_3), .int (nI y_b_4), .int bkp]))), (b0, .inl (.inl (kA 1, 60, .inl y_b0))), (s, .inl (.inr (5, [.ref s0, .ref s1, .ref s2, .ref s3, .ref s4, .ref s5, .ref s6, .ref s7, .ref s8, .ref s9, .ref s10, .ref s11, .int (nI sn), .int (nI sl), .int (nI se)]))), (s1, .inl (.inl (kA 1, 6, .inl sc1))), (s3, .inl (.inl (kA 1, 6, .inl sc3)))]) := by
  refine nx_startI (by decide +kernel) (Nat.le_of_ble_eq_true rfl) ?_
  intro x hnm h hq
  have h : Ok x cX2_walkOn RX2 kA (rmC 3 0 0) 4 := h
  show J x (mflat [(b, .inl (.inr (2, [.ref b0, .ref b1, .int (nI bsz), .int (nI btm), .int (nI bft), .int bkp]))), (b0, .inl (.inl (kA 1, 60, .inl brow))), (s, .inl (.inr (5, [.ref s0, .ref s1, .ref s2, .ref s3, .ref s4, .ref s5, .ref s6, .ref s7, .ref s8, .ref s9, .ref s10, .ref s11, .int (nI sn), .int (nI sl), .int (nI se)]))), (s1, .inl (.inl (kA 1, 6, .inl sc1))), (s3, .inl (.inl (kA 1, 6, .inl sc3)))]) [(0, .ref b), (1, .ref s), (2, .int st0)] 0 0 0 []
  refine j_aload_n h 1 rfl rfl dX2_walkOn_0 ?_
  refine j_iload_n h 2 rfl rfl dX2_walkOn_1 ?_
  refine jm_callVi (np := 1) (isC := [2]) (isR := [0, 1, 3, 4]) (wc := [(s, .inl (.inr (5, [.ref s0, .ref s1, .ref s2, .ref s3, .ref s4, .ref s5, .ref s6, .ref s7, .ref s8, .ref s9, .ref s10, .ref s11, .int (nI sn), .int (nI sl), .int (nI se)])))]) (wr := [(b, .inl (.inr (2, [.ref b0, .ref b1, .int (nI bsz), .int (nI btm), .int (nI bft), .int bkp]))), (b0, .inl (.inl (kA 1, 60, .inl brow))), (s1, .inl (.inl (kA 1, 6, .inl sc1))), (s3, .inl (.inl (kA 1, 6, .inl sc3)))]) (rest := []) (As := [.int st0]) (q0 := 0) h (s_X5_hasStep _ _ kA s st0 s0 s1 s2 s3 s4 s5 s6 s7 s8 s9 s10 s11 (nI sn) (nI sl) (nI se) ) tw_758 tw_713 tw_714 tw_90 tw_715 (by decide +kernel) rfl ⟨Nat.le_of_ble_eq_true rfl, Nat.le_of_ble_eq_true rfl⟩ rfl rfl (by decide +kernel) rfl rfl (by decide +kernel) (by decide +kernel) (Nat.le_of_ble_eq_true rfl) rfl ⟨Nat.le_of_ble_eq_true rfl, Nat.le_of_ble_eq_true rfl⟩ dX2_walkOn_2 ?_
  rintro r72 _ e71
  have p73 := e71
  subst p73
  show J x (mflat [(b, .inl (.inr (2, [.ref b0, .ref b1, .int (nI bsz), .int (nI btm), .int (nI bft), .int bkp]))), (b0, .inl (.inl (kA 1, 60, .inl brow))), (s1, .inl (.inl (kA 1, 6, .inl sc1))), (s3, .inl (.inl (kA 1, 6, .inl sc3))), (s, .inl (.inr (5, [.ref s0, .ref s1, .ref s2, .ref s3, .ref s4, .ref s5, .ref s6, .ref s7, .ref s8, .ref s9, .ref s10, .ref s11, .int (nI sn), .int (nI sl), .int (nI se)])))]) [(0, .ref b), (1, .ref s), (2, .int st0)] 0 0 5 [.int (bIx st0 (nI sn))]
  rcases bIx_cases st0 sn (by omega) with hTj74 | ⟨j74, hj74, rfl, hBj74⟩
  · refine j_top (b := 0) hTj74 ?_
    show J x (mflat [(b, .inl (.inr (2, [.ref b0, .ref b1, .int (nI bsz), .int (nI btm), .int (nI bft), .int bkp]))), (b0, .inl (.inl (kA 1, 60, .inl brow))), (s1, .inl (.inl (kA 1, 6, .inl sc1))), (s3, .inl (.inl (kA 1, 6, .inl sc3))), (s, .inl (.inr (5, [.ref s0, .ref s1, .ref s2, .ref s3, .ref s4, .ref s5, .ref s6, .ref s7, .ref s8, .ref s9, .ref s10, .ref s11, .int (nI sn), .int (nI sl), .int (nI se)])))]) [(0, .ref b), (1, .ref s), (2, .int st0)] 0 0 5 [.int 0]
    refine j_if_eq h 20 dX2_walkOn_5 (by decide) (fun _ => ?_) (fun q => absurd (by decide) q)
    refine j_iconst (v := 0) h (by decide) dX2_walkOn_20 ?_
    exact jm_zret h hq rfl dX2_walkOn_21 (0, bsz, btm, bft, brow) [0, 1, 4, 2, 3] rfl (by decide) ⟨rfl, (show 0 ≤ 1 by first | assumption | omega), (show bsz ≤ 60 by first | assumption | omega), (show btm ≤ 60 by first | assumption | omega), (show bft ≤ 1 by first | assumption | omega), (show RoOk sn bsz brow by first | assumption | exact RoOk_step (by assumption) (by omega) | exact RoOk_mono (by assumption) (by omega) | exact RoOk_zero _ _ | omega), (show bsz ≤ bsz by first | assumption | omega)⟩ (Nat.le_of_ble_eq_true rfl) (Nat.le_of_ble_eq_true rfl)
  · refine j_top (b := 1) hBj74 ?_
    show J x (mflat [(b, .inl (.inr (2, [.ref b0, .ref b1, .int (nI bsz), .int (nI btm), .int (nI bft), .int bkp]))), (b0, .inl (.inl (kA 1, 60, .inl brow))), (s1, .inl (.inl (kA 1, 6, .inl sc1))), (s3, .inl (.inl (kA 1, 6, .inl sc3))), (s, .inl (.inr (5, [.ref s0, .ref s1, .ref s2, .ref s3, .ref s4, .ref s5, .ref s6, .ref s7, .ref s8, .ref s9, .ref s10, .ref s11, .int (nI sn), .int (nI sl), .int (nI se)])))]) [(0, .ref b), (1, .ref s), (2, .int (nI j74))] 0 0 5 [.int 1]
    refine j_if_eq h 20 dX2_walkOn_5 (by decide) (fun q => absurd q (by decide)) (fun _ => ?_)
    refine j_aload_n h 0 rfl rfl dX2_walkOn_8 ?_
    refine jm_get h iw_X2 0 rfl rfl 2 (by decide +kernel) tw_274 rfl dX2_walkOn_9 ?_
    refine j_aload_n h 0 rfl rfl dX2_walkOn_12 ?_
    refine jm_get h iw_X2 0 rfl rfl 0 (by decide +kernel) tw_271 rfl dX2_walkOn_13 ?_
    refine jm_alen (v := 60) h 1 1 rfl rfl rfl dX2_walkOn_16 ?_
    refine j_icmp_lt h 22 dX2_walkOn_17 (by decide) (fun z75 => ?_) (fun z75 => ?_)
    · have z75n : bsz < 60 := (nI_ltI (a := bsz) (b := 60) (by omega) (by omega)).mp z75
      refine j_aload_n h 1 rfl rfl dX2_walkOn_22 ?_
      refine j_iload_n h 2 rfl rfl dX2_walkOn_23 ?_
      refine j_aload_n h 0 rfl rfl dX2_walkOn_24 ?_
      refine jm_get h iw_X2 0 rfl rfl 4 (by decide +kernel) tw_278 rfl dX2_walkOn_25 ?_
      refine jm_callVi (np := 2) (isC := [4, 3]) (isR := [0, 1, 2]) (wc := [(s, .inl (.inr (5, [.ref s0, .ref s1, .ref s2, .ref s3, .ref s4, .ref s5, .ref s6, .ref s7, .ref s8, .ref s9, .ref s10, .ref s11, .int (nI sn), .int (nI sl), .int (nI se)]))), (s3, .inl (.inl (kA 1, 6, .inl sc3)))]) (wr := [(b, .inl (.inr (2, [.ref b0, .ref b1, .int (nI bsz), .int (nI btm), .int (nI bft), .int bkp]))), (b0, .inl (.inl (kA 1, 60, .inl brow))), (s1, .inl (.inl (kA 1, 6, .inl sc1)))]) (rest := []) (As := [.int (nI j74), .int (nI bft)]) (q0 := 0) h (s_X5_footAfter _ _ kA s j74 bft s0 s1 s2 s3 s4 s5 s6 s7 s8 s9 s10 s11 sn sl se sc3 (show sn ≤ 6 by first | assumption | omega) (show sl ≤ 10 by first | assumption | omega) (show se ≤ 4 by first | assumption | omega) (show j74 < sn by first | assumption | omega) (show bft ≤ 1 by first | assumption | omega)) tw_759 tw_709 tw_710 tw_90 tw_711 (by decide +kernel) rfl ⟨Nat.le_of_ble_eq_true rfl, Nat.le_of_ble_eq_true rfl⟩ rfl rfl (by decide +kernel) rfl rfl (by decide +kernel) (by decide +kernel) (Nat.le_of_ble_eq_true rfl) rfl ⟨Nat.le_of_ble_eq_true rfl, Nat.le_of_ble_eq_true rfl⟩ dX2_walkOn_28 ?_
      rintro r78 q76 e77
      obtain ⟨p79, p80⟩ := e77
      subst p79
      replace p80 : q76 ≤ 2 := p80
      show J x (mflat [(b, .inl (.inr (2, [.ref b0, .ref b1, .int (nI bsz), .int (nI btm), .int (nI bft), .int bkp]))), (b0, .inl (.inl (kA 1, 60, .inl brow))), (s1, .inl (.inl (kA 1, 6, .inl sc1))), (s, .inl (.inr (5, [.ref s0, .ref s1, .ref s2, .ref s3, .ref s4, .ref s5, .ref s6, .ref s7, .ref s8, .ref s9, .ref s10, .ref s11, .int (nI sn), .int (nI sl), .int (nI se)]))), (s3, .inl (.inl (kA 1, 6, .inl sc3)))]) [(0, .ref b), (1, .ref s), (2, .int (nI j74))] 0 0 31 [.int (pm q76)]
      refine j_istore_n (lv' := [(3, .int (pm q76)), (0, .ref b), (1, .ref s), (2, .int (nI j74))]) h dX2_walkOn_31 rfl (by decide) rfl ?_
      refine j_iload_n h 0 rfl rfl dX2_walkOn_32 ?_
      refine j_iconst (v := (-1)) h (by decide) dX2_walkOn_33 ?_
      rcases q76 with _ | j81
      · show J x (mflat [(b, .inl (.inr (2, [.ref b0, .ref b1, .int (nI bsz), .int (nI btm), .int (nI bft), .int bkp]))), (b0, .inl (.inl (kA 1, 60, .inl brow))), (s1, .inl (.inl (kA 1, 6, .inl sc1))), (s, .inl (.inr (5, [.ref s0, .ref s1, .ref s2, .ref s3, .ref s4, .ref s5, .ref s6, .ref s7, .ref s8, .ref s9, .ref s10, .ref s11, .int (nI sn), .int (nI sl), .int (nI se)]))), (s3, .inl (.inl (kA 1, 6, .inl sc3)))]) [(3, .int (-1)), (0, .ref b), (1, .ref s), (2, .int (nI j74))] 0 0 34 [.int (-1), .int (-1)]
        refine j_icmp_eq h 53 dX2_walkOn_34 (by decide) (fun _ => ?_) (fun q => absurd (by decide) q)
        refine j_iconst (v := 0) h (by decide) dX2_walkOn_53 ?_
        exact jm_zret h hq rfl dX2_walkOn_54 (0, bsz, btm, bft, brow) [0, 1, 3, 2, 4] rfl (by decide) ⟨rfl, (show 0 ≤ 1 by first | assumption | omega), (show bsz ≤ 60 by first | assumption | omega), (show btm ≤ 60 by first | assumption | omega), (show bft ≤ 1 by first | assumption | omega), (show RoOk sn bsz brow by first | assumption | exact RoOk_step (by assumption) (by omega) | exact RoOk_mono (by assumption) (by omega) | exact RoOk_zero _ _ | omega), (show bsz ≤ bsz by first | assumption | omega)⟩ (Nat.le_of_ble_eq_true rfl) (Nat.le_of_ble_eq_true rfl)
      · show J x (mflat [(b, .inl (.inr (2, [.ref b0, .ref b1, .int (nI bsz), .int (nI btm), .int (nI bft), .int bkp]))), (b0, .inl (.inl (kA 1, 60, .inl brow))), (s1, .inl (.inl (kA 1, 6, .inl sc1))), (s, .inl (.inr (5, [.ref s0, .ref s1, .ref s2, .ref s3, .ref s4, .ref s5, .ref s6, .ref s7, .ref s8, .ref s9, .ref s10, .ref s11, .int (nI sn), .int (nI sl), .int (nI se)]))), (s3, .inl (.inl (kA 1, 6, .inl sc3)))]) [(3, .int (nI j81)), (0, .ref b), (1, .ref s), (2, .int (nI j74))] 0 0 34 [.int (-1), .int (nI j81)]
        refine j_icmp_eq h 53 dX2_walkOn_34 (by decide) (fun q => absurd q (nI_m1 (by omega))) (fun _ => ?_)
        refine j_aload_n h 1 rfl rfl dX2_walkOn_37 ?_
        refine jm_get h iw_X2 0 rfl rfl 3 (by decide +kernel) tw_276 rfl dX2_walkOn_38 ?_
        refine j_aload_n h 2 rfl rfl dX2_walkOn_41 ?_
        refine jm_get h iw_X5 3 rfl rfl 1 (by decide +kernel) tw_180 rfl dX2_walkOn_42 ?_
        refine j_iload_n h 3 rfl rfl dX2_walkOn_45 ?_
        refine jm_iald h 2 rfl j74 rfl (by omega) (by omega) dX2_walkOn_46 ?_
        obtain ⟨t82, u83, u84, u85⟩ := (show TkOk sn sc1 by assumption) j74 (by omega)
        refine j_top (b := nI t82) (u85) ?_
        refine j_iadd h dX2_walkOn_47 ?_
        refine j_top (b := nI (btm + t82)) (nI_add btm t82) ?_
        refine j_bipush (v := 60) h (by decide) dX2_walkOn_48 ?_
        refine j_icmp_le h 55 dX2_walkOn_50 (by decide) (fun z86 => ?_) (fun z86 => ?_)
        · have z86n : (btm + t82) ≤ 60 := (nI_leI (a := (btm + t82)) (b := 60) (by omega) (by omega)).mp z86
          refine j_aload_n h 1 rfl rfl dX2_walkOn_55 ?_
          refine jm_get h iw_X2 0 rfl rfl 0 (by decide +kernel) tw_271 rfl dX2_walkOn_56 ?_
          refine j_aload_n h 1 rfl rfl dX2_walkOn_59 ?_
          refine jm_get h iw_X2 0 rfl rfl 2 (by decide +kernel) tw_274 rfl dX2_walkOn_60 ?_
          refine j_iload_n h 3 rfl rfl dX2_walkOn_63 ?_
          refine jm_iast (w' := [(b, .inl (.inr (2, [.ref b0, .ref b1, .int (nI bsz), .int (nI btm), .int (nI bft), .int bkp]))), (b0, .inl (.inl (kA 1, 60, .inl (upd brow bsz (nI j74))))), (s1, .inl (.inl (kA 1, 6, .inl sc1))), (s, .inl (.inr (5, [.ref s0, .ref s1, .ref s2, .ref s3, .ref s4, .ref s5, .ref s6, .ref s7, .ref s8, .ref s9, .ref s10, .ref s11, .int (nI sn), .int (nI sl), .int (nI se)]))), (s3, .inl (.inl (kA 1, 6, .inl sc3)))]) h 1 rfl bsz rfl (by omega) (by omega) dX2_walkOn_64 rfl ?_
          refine j_aload_n h 1 rfl rfl dX2_walkOn_65 ?_
          refine j_dup h rfl dX2_walkOn_66 ?_
          refine jm_get h iw_X2 0 rfl rfl 2 (by decide +kernel) tw_274 rfl dX2_walkOn_67 ?_
          refine j_iconst (v := 1) h (by decide) dX2_walkOn_70 ?_
          refine j_iadd h dX2_walkOn_71 ?_
          refine j_top (b := nI (bsz + 1)) (nI_add bsz 1) ?_
          refine jm_put (w' := [(b, .inl (.inr (2, [.ref b0, .ref b1, .int (nI (bsz + 1)), .int (nI btm), .int (nI bft), .int bkp]))), (b0, .inl (.inl (kA 1, 60, .inl (upd brow bsz (nI j74))))), (s1, .inl (.inl (kA 1, 6, .inl sc1))), (s, .inl (.inr (5, [.ref s0, .ref s1, .ref s2, .ref s3, .ref s4, .ref s5, .ref s6, .ref s7, .ref s8, .ref s9, .ref s10, .ref s11, .int (nI sn), .int (nI sl), .int (nI se)]))), (s3, .inl (.inl (kA 1, 6, .inl sc3)))]) h iw_X2 tyX2 tyX2_ok nmX2 0 rfl rfl 2 (by decide +kernel) tw_274 rfl rfl rfl (Nat.le_of_ble_eq_true rfl) dX2_walkOn_72 rfl ?_
          refine j_aload_n h 1 rfl rfl dX2_walkOn_75 ?_
          refine j_dup h rfl dX2_walkOn_76 ?_
          refine jm_get h iw_X2 0 rfl rfl 3 (by decide +kernel) tw_276 rfl dX2_walkOn_77 ?_
          refine j_aload_n h 2 rfl rfl dX2_walkOn_80 ?_
          refine jm_get h iw_X5 3 rfl rfl 1 (by decide +kernel) tw_180 rfl dX2_walkOn_81 ?_
          refine j_iload_n h 3 rfl rfl dX2_walkOn_84 ?_
          refine jm_iald h 2 rfl j74 rfl (by omega) (by omega) dX2_walkOn_85 ?_
          refine j_top (b := nI t82) (u85) ?_
          refine j_iadd h dX2_walkOn_86 ?_
          refine j_top (b := nI (btm + t82)) (nI_add btm t82) ?_
          refine jm_put (w' := [(b, .inl (.inr (2, [.ref b0, .ref b1, .int (nI (bsz + 1)), .int (nI (btm + t82)), .int (nI bft), .int bkp]))), (b0, .inl (.inl (kA 1, 60, .inl (upd brow bsz (nI j74))))), (s1, .inl (.inl (kA 1, 6, .inl sc1))), (s, .inl (.inr (5, [.ref s0, .ref s1, .ref s2, .ref s3, .ref s4, .ref s5, .ref s6, .ref s7, .ref s8, .ref s9, .ref s10, .ref s11, .int (nI sn), .int (nI sl), .int (nI se)]))), (s3, .inl (.inl (kA 1, 6, .inl sc3)))]) h iw_X2 tyX2 tyX2_ok nmX2 0 rfl rfl 3 (by decide +kernel) tw_276 rfl rfl rfl (Nat.le_of_ble_eq_true rfl) dX2_walkOn_87 rfl ?_
          refine j_aload_n h 1 rfl rfl dX2_walkOn_90 ?_
          refine j_iload_n h 0 rfl rfl dX2_walkOn_91 ?_
          refine jm_put (w' := [(b, .inl (.inr (2, [.ref b0, .ref b1, .int (nI (bsz + 1)), .int (nI (btm + t82)), .int (nI j81), .int bkp]))), (b0, .inl (.inl (kA 1, 60, .inl (upd brow bsz (nI j74))))), (s1, .inl (.inl (kA 1, 6, .inl sc1))), (s, .inl (.inr (5, [.ref s0, .ref s1, .ref s2, .ref s3, .ref s4, .ref s5, .ref s6, .ref s7, .ref s8, .ref s9, .ref s10, .ref s11, .int (nI sn), .int (nI sl), .int (nI se)]))), (s3, .inl (.inl (kA 1, 6, .inl sc3)))]) h iw_X2 tyX2 tyX2_ok nmX2 0 rfl rfl 4 (by decide +kernel) tw_278 rfl rfl rfl (Nat.le_of_ble_eq_true rfl) dX2_walkOn_92 rfl ?_
          refine j_iconst (v := 1) h (by decide) dX2_walkOn_95 ?_
          exact jm_zret h hq rfl dX2_walkOn_96 (1, (bsz + 1), (btm + t82), j81, (upd brow bsz (nI j74))) [0, 1, 3, 2, 4] rfl (by decide) ⟨rfl, (show 1 ≤ 1 by first | assumption | omega), (show (bsz + 1) ≤ 60 by first | assumption | omega), (show (btm + t82) ≤ 60 by first | assumption | omega), (show j81 ≤ 1 by first | assumption | omega), (show RoOk sn (bsz + 1) (upd brow bsz (nI j74)) by first | assumption | exact RoOk_step (by assumption) (by omega) | exact RoOk_mono (by assumption) (by omega) | exact RoOk_zero _ _ | omega), (show bsz ≤ (bsz + 1) by first | assumption | omega)⟩ (Nat.le_of_ble_eq_true rfl) (Nat.le_of_ble_eq_true rfl)
        · have z86n : ¬ (btm + t82) ≤ 60 := fun q9 => z86 ((nI_leI (a := (btm + t82)) (b := 60) (by omega) (by omega)).mpr q9)
          refine j_iconst (v := 0) h (by decide) dX2_walkOn_53 ?_
          exact jm_zret h hq rfl dX2_walkOn_54 (0, bsz, btm, bft, brow) [0, 1, 3, 2, 4] rfl (by decide) ⟨rfl, (show 0 ≤ 1 by first | assumption | omega), (show bsz ≤ 60 by first | assumption | omega), (show btm ≤ 60 by first | assumption | omega), (show bft ≤ 1 by first | assumption | omega), (show RoOk sn bsz brow by first | assumption | exact RoOk_step (by assumption) (by omega) | exact RoOk_mono (by assumption) (by omega) | exact RoOk_zero _ _ | omega), (show bsz ≤ bsz by first | assumption | omega)⟩ (Nat.le_of_ble_eq_true rfl) (Nat.le_of_ble_eq_true rfl)
    · have z75n : ¬ bsz < 60 := fun q9 => z75 ((nI_ltI (a := bsz) (b := 60) (by omega) (by omega)).mpr q9)
      refine j_iconst (v := 0) h (by decide) dX2_walkOn_20 ?_
      exact jm_zret h hq rfl dX2_walkOn_21 (0, bsz, btm, bft, brow) [0, 1, 4, 2, 3] rfl (by decide) ⟨rfl, (show 0 ≤ 1 by first | assumption | omega), (show bsz ≤ 60 by first | assumption | omega), (show btm ≤ 60 by first | assumption | omega), (show bft ≤ 1 by first | assumption | omega), (show RoOk sn bsz brow by first | assumption | exact RoOk_step (by assumption) (by omega) | exact RoOk_mono (by assumption) (by omega) | exact RoOk_zero _ _ | omega), (show bsz ≤ bsz by first | assumption | omega)⟩ (Nat.le_of_ble_eq_true rfl) (Nat.le_of_ble_eq_true rfl)
set_option maxHeartbeats 4000000 in
set_option maxRecDepth 100000 in
theorem s_X2_walkLetter (lau : Launch) (gg : va_G) (kA : Nat → ClassId) (b : Nat) (s : Nat) (lt : Int32) (b0 : Nat) (b1 : Nat) (bsz : Nat) (btm : Nat) (bft : Nat) (bkp : Int32) (brow : Nat → Int32) (s0 : Nat) (s1 : Nat) (s2 : Nat) (s3 : Nat) (s4 : Nat) (s5 : Nat) (s6 : Nat) (s7 : Nat) (s8 : Nat) (s9 : Nat) (s10 : Nat) (s11 : Nat) (sn : Nat) (sl : Nat) (se : Nat) (sc1 : Nat → Int32) (sc3 : Nat → Int32) (sc5 : Nat → Int32) (sc6 : Nat → Nat → Int32) (hsn : sn ≤ 6) (hsl : sl ≤ 10) (hse : se ≤ 4) (hstk : TkOk sn sc1) (hssz : SzOk sl sc5) (hsrw : RwOk sl sn sc5 sc6) (hbsz : bsz ≤ 60) (hbtm : btm ≤ 60) (hbft : bft ≤ 1) (hbro : RoOk sn bsz brow) : CtI lau yX2_walkLetter cX2_walkLetter 4 (some .boolean) 4 0 0 gg kA [.ref b, .ref s, .int lt] (mflat [(b, .inl (.inr (2, [.ref b0, .ref b1, .int (nI bsz), .int (nI btm), .int (nI bft), .int bkp]))), (b0, .inl (.inl (kA 1, 60, .inl brow))), (s, .inl (.inr (5, [.ref s0, .ref s1, .ref s2, .ref s3, .ref s4, .ref s5, .ref s6, .ref s7, .ref s8, .ref s9, .ref s10, .ref s11, .int (nI sn), .int (nI sl), .int (nI se)]))), (s1, .inl (.inl (kA 1, 6, .inl sc1))), (s3, .inl (.inl (kA 1, 6, .inl sc3))), (s5, .inl (.inl (kA 1, 10, .inl sc5))), (s6, .inr (kA 6, kA 1, 10, 5, .inl sc6))]) (S := Nat × Nat × Nat × Nat × (Nat → Int32)) (fun (r : Int32) ((y_r, y_b_2, y_b_3, y_b_4, y_b0) : Nat × Nat × Nat × Nat × (Nat → Int32)) => r = nI y_r ∧ (y_r ≤ 1) ∧ (y_b_2 ≤ 60) ∧ (y_b_3 ≤ 60) ∧ (y_b_4 ≤ 1) ∧ (RoOk sn y_b_2 y_b0) ∧ (bsz ≤ y_b_2)) (fun ((y_r, y_b_2, y_b_3, y_b_4, y_b0) : Nat × Nat × Nat × Nat × (Nat → Int32)) => mflat [(b, .inl (.inr (2, [.ref b0, .ref b1, .int (nI y_b_2), .int (nI y_b_3), .int (nI y_b_4), .int bkp]))), (b0, .inl (.inl (kA 1, 60, .inl y_b0))), (s, .inl (.inr (5, [.ref s0, .ref s1, .ref s2, .ref s3, .ref s4, .ref s5, .ref s6, .ref s7, .ref s8, .ref s9, .ref s10, .ref s11, .int (nI sn), .int (nI sl), .int (nI se)]))), (s1, .inl (.inl (kA 1, 6, .inl sc1))), (s3, .inl (.inl (kA 1, 6, .inl sc3))), (s5, .inl (.inl (kA 1, 10, .inl sc5))), (s6, .inr (kA 6, kA 1, 10, 5, .inl sc6))]) := by
  refine nx_startI (by decide +kernel) (Nat.le_of_ble_eq_true rfl) ?_
  intro x hnm h hq
  have h : Ok x cX2_walkLetter RX2 kA (rmC 4 0 0) 4 := h
  show J x (mflat [(b, .inl (.inr (2, [.ref b0, .ref b1, .int (nI bsz), .int (nI btm), .int (nI bft), .int bkp]))), (b0, .inl (.inl (kA 1, 60, .inl brow))), (s, .inl (.inr (5, [.ref s0, .ref s1, .ref s2, .ref s3, .ref s4, .ref s5, .ref s6, .ref s7, .ref s8, .ref s9, .ref s10, .ref s11, .int (nI sn), .int (nI sl), .int (nI se)]))), (s1, .inl (.inl (kA 1, 6, .inl sc1))), (s3, .inl (.inl (kA 1, 6, .inl sc3))), (s5, .inl (.inl (kA 1, 10, .inl sc5))), (s6, .inr (kA 6, kA 1, 10, 5, .inl sc6))]) [(0, .ref b), (1, .ref s), (2, .int lt)] 0 0 0 []
  refine j_aload_n h 1 rfl rfl dX2_walkLetter_0 ?_
  refine j_iload_n h 2 rfl rfl dX2_walkLetter_1 ?_
  refine jm_callVi (np := 1) (isC := [2]) (isR := [0, 1, 3, 4, 5, 6]) (wc := [(s, .inl (.inr (5, [.ref s0, .ref s1, .ref s2, .ref s3, .ref s4, .ref s5, .ref s6, .ref s7, .ref s8, .ref s9, .ref s10, .ref s11, .int (nI sn), .int (nI sl), .int (nI se)])))]) (wr := [(b, .inl (.inr (2, [.ref b0, .ref b1, .int (nI bsz), .int (nI btm), .int (nI bft), .int bkp]))), (b0, .inl (.inl (kA 1, 60, .inl brow))), (s1, .inl (.inl (kA 1, 6, .inl sc1))), (s3, .inl (.inl (kA 1, 6, .inl sc3))), (s5, .inl (.inl (kA 1, 10, .inl sc5))), (s6, .inr (kA 6, kA 1, 10, 5, .inl sc6))]) (rest := []) (As := [.int lt]) (q0 := 0) h (s_X5_hasLetter _ _ kA s lt s0 s1 s2 s3 s4 s5 s6 s7 s8 s9 s10 s11 (nI sn) (nI sl) (nI se) ) tw_775 tw_776 tw_777 tw_90 tw_778 (by decide +kernel) rfl ⟨Nat.le_of_ble_eq_true rfl, Nat.le_of_ble_eq_true rfl⟩ rfl rfl (by decide +kernel) rfl rfl (by decide +kernel) (by decide +kernel) (Nat.le_of_ble_eq_true rfl) rfl ⟨Nat.le_of_ble_eq_true rfl, Nat.le_of_ble_eq_true rfl⟩ dX2_walkLetter_2 ?_
  rintro r161 _ e160
  have p162 := e160
  subst p162
  show J x (mflat [(b, .inl (.inr (2, [.ref b0, .ref b1, .int (nI bsz), .int (nI btm), .int (nI bft), .int bkp]))), (b0, .inl (.inl (kA 1, 60, .inl brow))), (s1, .inl (.inl (kA 1, 6, .inl sc1))), (s3, .inl (.inl (kA 1, 6, .inl sc3))), (s5, .inl (.inl (kA 1, 10, .inl sc5))), (s6, .inr (kA 6, kA 1, 10, 5, .inl sc6)), (s, .inl (.inr (5, [.ref s0, .ref s1, .ref s2, .ref s3, .ref s4, .ref s5, .ref s6, .ref s7, .ref s8, .ref s9, .ref s10, .ref s11, .int (nI sn), .int (nI sl), .int (nI se)])))]) [(0, .ref b), (1, .ref s), (2, .int lt)] 0 0 5 [.int (bIx lt (nI sl))]
  rcases bIx_cases lt sl (by omega) with hTj163 | ⟨j163, hj163, rfl, hBj163⟩
  · refine j_top (b := 0) hTj163 ?_
    show J x (mflat [(b, .inl (.inr (2, [.ref b0, .ref b1, .int (nI bsz), .int (nI btm), .int (nI bft), .int bkp]))), (b0, .inl (.inl (kA 1, 60, .inl brow))), (s1, .inl (.inl (kA 1, 6, .inl sc1))), (s3, .inl (.inl (kA 1, 6, .inl sc3))), (s5, .inl (.inl (kA 1, 10, .inl sc5))), (s6, .inr (kA 6, kA 1, 10, 5, .inl sc6)), (s, .inl (.inr (5, [.ref s0, .ref s1, .ref s2, .ref s3, .ref s4, .ref s5, .ref s6, .ref s7, .ref s8, .ref s9, .ref s10, .ref s11, .int (nI sn), .int (nI sl), .int (nI se)])))]) [(0, .ref b), (1, .ref s), (2, .int lt)] 0 0 5 [.int 0]
    refine j_if_ne h 10 dX2_walkLetter_5 (by decide) (fun q => absurd (by decide) q) (fun _ => ?_)
    refine j_iconst (v := 0) h (by decide) dX2_walkLetter_8 ?_
    exact jm_zret h hq rfl dX2_walkLetter_9 (0, bsz, btm, bft, brow) [0, 1, 6, 2, 3, 4, 5] rfl (by decide) ⟨rfl, (show 0 ≤ 1 by first | assumption | omega), (show bsz ≤ 60 by first | assumption | omega), (show btm ≤ 60 by first | assumption | omega), (show bft ≤ 1 by first | assumption | omega), (show RoOk sn bsz brow by first | assumption | exact RoOk_step (by assumption) (by omega) | exact RoOk_mono (by assumption) (by omega) | exact RoOk_zero _ _ | omega), (show bsz ≤ bsz by first | assumption | omega)⟩ (Nat.le_of_ble_eq_true rfl) (Nat.le_of_ble_eq_true rfl)
  · refine j_top (b := 1) hBj163 ?_
    show J x (mflat [(b, .inl (.inr (2, [.ref b0, .ref b1, .int (nI bsz), .int (nI btm), .int (nI bft), .int bkp]))), (b0, .inl (.inl (kA 1, 60, .inl brow))), (s1, .inl (.inl (kA 1, 6, .inl sc1))), (s3, .inl (.inl (kA 1, 6, .inl sc3))), (s5, .inl (.inl (kA 1, 10, .inl sc5))), (s6, .inr (kA 6, kA 1, 10, 5, .inl sc6)), (s, .inl (.inr (5, [.ref s0, .ref s1, .ref s2, .ref s3, .ref s4, .ref s5, .ref s6, .ref s7, .ref s8, .ref s9, .ref s10, .ref s11, .int (nI sn), .int (nI sl), .int (nI se)])))]) [(0, .ref b), (1, .ref s), (2, .int (nI j163))] 0 0 5 [.int 1]
    refine j_if_ne h 10 dX2_walkLetter_5 (by decide) (fun _ => ?_) (fun q => absurd q (by decide))
    refine j_iconst (v := 0) h (by decide) dX2_walkLetter_10 ?_
    refine j_istore_n (lv' := [(3, .int 0), (0, .ref b), (1, .ref s), (2, .int (nI j163))]) h dX2_walkLetter_11 rfl (by decide) rfl ?_
    have lp12_12 : ∀ (m12_12 : Nat), ∀ (v3_12_12 : Nat) (wb2_12_12 : Nat) (wb3_12_12 : Nat) (wb4_12_12 : Nat) (fb0_12_12 : Nat → Int32), (wb2_12_12 ≤ 60) → (wb3_12_12 ≤ 60) → (wb4_12_12 ≤ 1) → (RoOk sn wb2_12_12 fb0_12_12) → (bsz ≤ wb2_12_12) → (v3_12_12 ≤ 100000) → (wb2_12_12 ≤ 100000) → (wb3_12_12 ≤ 100000) → (wb4_12_12 ≤ 100000) → 100001 - v3_12_12 < m12_12 → J x (mflat [(b, .inl (.inr (2, [.ref b0, .ref b1, .int (nI wb2_12_12), .int (nI wb3_12_12), .int (nI wb4_12_12), .int bkp]))), (b0, .inl (.inl (kA 1, 60, .inl fb0_12_12))), (s1, .inl (.inl (kA 1, 6, .inl sc1))), (s3, .inl (.inl (kA 1, 6, .inl sc3))), (s5, .inl (.inl (kA 1, 10, .inl sc5))), (s6, .inr (kA 6, kA 1, 10, 5, .inl sc6)), (s, .inl (.inr (5, [.ref s0, .ref s1, .ref s2, .ref s3, .ref s4, .ref s5, .ref s6, .ref s7, .ref s8, .ref s9, .ref s10, .ref s11, .int (nI sn), .int (nI sl), .int (nI se)])))]) [(3, .int (nI v3_12_12)), (0, .ref b), (1, .ref s), (2, .int (nI j163))] 0 0 12 [] := by
      intro m12_12
      induction m12_12 with
      | zero =>
        intro v3_12_12 wb2_12_12 wb3_12_12 wb4_12_12 fb0_12_12 i12_12_0 i12_12_1 i12_12_2 i12_12_3 i12_12_4 i12_12_5 i12_12_6 i12_12_7 i12_12_8 hm12_12
        exact absurd hm12_12 (Nat.not_lt_zero _)
      | succ m12_12 ih12_12 =>
        intro v3_12_12 wb2_12_12 wb3_12_12 wb4_12_12 fb0_12_12 i12_12_0 i12_12_1 i12_12_2 i12_12_3 i12_12_4 i12_12_5 i12_12_6 i12_12_7 i12_12_8 hm12_12
        refine j_iload_n h 0 rfl rfl dX2_walkLetter_12 ?_
        refine j_aload_n h 2 rfl rfl dX2_walkLetter_13 ?_
        refine jm_get h iw_X5 6 rfl rfl 5 (by decide +kernel) tw_194 rfl dX2_walkLetter_14 ?_
        refine j_iload_n h 3 rfl rfl dX2_walkLetter_17 ?_
        refine jm_iald h 4 rfl j163 rfl (by omega) (by omega) dX2_walkLetter_18 ?_
        obtain ⟨t210, u211, u212, u213⟩ := (show SzOk sl sc5 by assumption) j163 (by omega)
        refine j_top (b := nI t210) (u213) ?_
        refine j_icmp_ge h 46 dX2_walkLetter_19 (by decide) (fun z214 => ?_) (fun z214 => ?_)
        · have z214n : t210 ≤ v3_12_12 := (nI_leI (a := t210) (b := v3_12_12) (by omega) (by omega)).mp z214
          refine j_iconst (v := 1) h (by decide) dX2_walkLetter_46 ?_
          exact jm_zret h hq rfl dX2_walkLetter_47 (1, wb2_12_12, wb3_12_12, wb4_12_12, fb0_12_12) [0, 1, 6, 2, 3, 4, 5] rfl (by decide) ⟨rfl, (show 1 ≤ 1 by first | assumption | omega), (show wb2_12_12 ≤ 60 by first | assumption | omega), (show wb3_12_12 ≤ 60 by first | assumption | omega), (show wb4_12_12 ≤ 1 by first | assumption | omega), (show RoOk sn wb2_12_12 fb0_12_12 by first | assumption | exact RoOk_step (by assumption) (by omega) | exact RoOk_mono (by assumption) (by omega) | exact RoOk_zero _ _ | omega), (show bsz ≤ wb2_12_12 by first | assumption | omega)⟩ (Nat.le_of_ble_eq_true rfl) (Nat.le_of_ble_eq_true rfl)
        · have z214n : ¬ t210 ≤ v3_12_12 := fun q9 => z214 ((nI_leI (a := t210) (b := v3_12_12) (by omega) (by omega)).mpr q9)
          refine j_aload_n h 1 rfl rfl dX2_walkLetter_22 ?_
          refine j_aload_n h 2 rfl rfl dX2_walkLetter_23 ?_
          refine j_aload_n h 2 rfl rfl dX2_walkLetter_24 ?_
          refine jm_get h iw_X5 6 rfl rfl 6 (by decide +kernel) tw_198 rfl dX2_walkLetter_25 ?_
          refine j_iload_n h 3 rfl rfl dX2_walkLetter_28 ?_
          refine jm_gout h 5 6 rfl rfl j163 rfl (by omega) (by omega) dX2_walkLetter_29 ?_
          refine j_iload_n h 0 rfl rfl dX2_walkLetter_30 ?_
          refine jm_gald h 5 rfl j163 (by omega) v3_12_12 rfl (by omega) (by omega) dX2_walkLetter_31 ?_
          obtain ⟨t215, u216, u217⟩ := (show RwOk sl sn sc5 sc6 by assumption) j163 v3_12_12 t210 (by omega) u213 (by omega) (by omega)
          refine j_top (b := nI t215) (u217) ?_
          refine jm_callVi (np := 2) (isC := [0, 1, 6, 2, 3]) (isR := [4, 5]) (wc := [(b, .inl (.inr (2, [.ref b0, .ref b1, .int (nI wb2_12_12), .int (nI wb3_12_12), .int (nI wb4_12_12), .int bkp]))), (b0, .inl (.inl (kA 1, 60, .inl fb0_12_12))), (s, .inl (.inr (5, [.ref s0, .ref s1, .ref s2, .ref s3, .ref s4, .ref s5, .ref s6, .ref s7, .ref s8, .ref s9, .ref s10, .ref s11, .int (nI sn), .int (nI sl), .int (nI se)]))), (s1, .inl (.inl (kA 1, 6, .inl sc1))), (s3, .inl (.inl (kA 1, 6, .inl sc3)))]) (wr := [(s5, .inl (.inl (kA 1, 10, .inl sc5))), (s6, .inr (kA 6, kA 1, 10, 5, .inl sc6))]) (rest := []) (As := [.ref s, .int (nI t215)]) (q0 := 0) h (s_X2_walkOn _ _ kA b s (nI t215) b0 b1 wb2_12_12 wb3_12_12 wb4_12_12 bkp fb0_12_12 s0 s1 s2 s3 s4 s5 s6 s7 s8 s9 s10 s11 sn sl se sc1 sc3 (show sn ≤ 6 by first | assumption | omega) (show sl ≤ 10 by first | assumption | omega) (show se ≤ 4 by first | assumption | omega) (show TkOk sn sc1 by first | assumption | omega) (show wb2_12_12 ≤ 60 by first | assumption | omega) (show wb3_12_12 ≤ 60 by first | assumption | omega) (show wb4_12_12 ≤ 1 by first | assumption | omega) (show RoOk sn wb2_12_12 fb0_12_12 by first | assumption | exact RoOk_step (by assumption) (by omega) | exact RoOk_mono (by assumption) (by omega) | exact RoOk_zero _ _ | omega)) tw_779 tw_755 tw_756 tw_91 tw_757 (by decide +kernel) rfl ⟨Nat.le_of_ble_eq_true rfl, Nat.le_of_ble_eq_true rfl⟩ rfl rfl (by decide +kernel) rfl rfl (by decide +kernel) (by decide +kernel) (Nat.le_of_ble_eq_true rfl) rfl ⟨Nat.le_of_ble_eq_true rfl, Nat.le_of_ble_eq_true rfl⟩ dX2_walkLetter_32 ?_
          rintro r224 ⟨q218, q219, q220, q221, q222⟩ e223
          obtain ⟨p225, p226, p227, p228, p229, p230, p231⟩ := e223
          subst p225
          replace p226 : q218 ≤ 1 := p226
          replace p227 : q219 ≤ 60 := p227
          replace p228 : q220 ≤ 60 := p228
          replace p229 : q221 ≤ 1 := p229
          replace p230 : RoOk sn q219 q222 := p230
          replace p231 : wb2_12_12 ≤ q219 := p231
          show J x (mflat [(s5, .inl (.inl (kA 1, 10, .inl sc5))), (s6, .inr (kA 6, kA 1, 10, 5, .inl sc6)), (b, .inl (.inr (2, [.ref b0, .ref b1, .int (nI q219), .int (nI q220), .int (nI q221), .int bkp]))), (b0, .inl (.inl (kA 1, 60, .inl q222))), (s, .inl (.inr (5, [.ref s0, .ref s1, .ref s2, .ref s3, .ref s4, .ref s5, .ref s6, .ref s7, .ref s8, .ref s9, .ref s10, .ref s11, .int (nI sn), .int (nI sl), .int (nI se)]))), (s1, .inl (.inl (kA 1, 6, .inl sc1))), (s3, .inl (.inl (kA 1, 6, .inl sc3)))]) [(3, .int (nI v3_12_12)), (0, .ref b), (1, .ref s), (2, .int (nI j163))] 0 0 35 [.int (nI q218)]
          refine j_if_ne h 40 dX2_walkLetter_35 (by decide) (fun z232 => ?_) (fun z232 => ?_)
          · have z232n : ¬ q218 = 0 := fun q9 => z232 ((nI_eq (a := q218) (b := 0) (by omega) (by omega)).mpr q9)
            refine j_iinc (v := nI (v3_12_12 + 1)) (lv' := [(3, .int (nI (v3_12_12 + 1))), (0, .ref b), (1, .ref s), (2, .int (nI j163))]) h dX2_walkLetter_40 0 rfl (nI_add v3_12_12 1) (by decide) rfl ?_
            refine j_goto h 12 dX2_walkLetter_43 (by decide) ?_
            refine jm_sub [2, 3, 5, 6, 0, 1, 4] (w' := [(b, .inl (.inr (2, [.ref b0, .ref b1, .int (nI q219), .int (nI q220), .int (nI q221), .int bkp]))), (b0, .inl (.inl (kA 1, 60, .inl q222))), (s1, .inl (.inl (kA 1, 6, .inl sc1))), (s3, .inl (.inl (kA 1, 6, .inl sc3))), (s5, .inl (.inl (kA 1, 10, .inl sc5))), (s6, .inr (kA 6, kA 1, 10, 5, .inl sc6)), (s, .inl (.inr (5, [.ref s0, .ref s1, .ref s2, .ref s3, .ref s4, .ref s5, .ref s6, .ref s7, .ref s8, .ref s9, .ref s10, .ref s11, .int (nI sn), .int (nI sl), .int (nI se)])))]) rfl (by decide +kernel) [0, 1, 2, 3] (lv' := [(3, .int (nI (v3_12_12 + 1))), (0, .ref b), (1, .ref s), (2, .int (nI j163))]) rfl ?_
            exact ih12_12 (v3_12_12 + 1) q219 q220 q221 q222 (show q219 ≤ 60 by first | assumption | omega) (show q220 ≤ 60 by first | assumption | omega) (show q221 ≤ 1 by first | assumption | omega) (show RoOk sn q219 q222 by first | assumption | exact RoOk_step (by assumption) (by omega) | exact RoOk_mono (by assumption) (by omega) | exact RoOk_zero _ _ | omega) (show bsz ≤ q219 by first | assumption | omega) (show (v3_12_12 + 1) ≤ 100000 by first | assumption | omega) (show q219 ≤ 100000 by first | assumption | omega) (show q220 ≤ 100000 by first | assumption | omega) (show q221 ≤ 100000 by first | assumption | omega) (show 100001 - (v3_12_12 + 1) < m12_12 from Nat.lt_of_lt_of_le (Nat.sub_lt_sub_left (Nat.lt_of_le_of_lt (show v3_12_12 ≤ 100000 by first | assumption | omega) (Nat.lt_succ_self 100000)) (Nat.lt_succ_self v3_12_12)) (Nat.le_of_lt_succ hm12_12))
          · have z232n : q218 = 0 := (nI_eq (a := q218) (b := 0) (by omega) (by omega)).mp z232
            refine j_iconst (v := 0) h (by decide) dX2_walkLetter_38 ?_
            exact jm_zret h hq rfl dX2_walkLetter_39 (0, q219, q220, q221, q222) [2, 3, 4, 5, 6, 0, 1] rfl (by decide) ⟨rfl, (show 0 ≤ 1 by first | assumption | omega), (show q219 ≤ 60 by first | assumption | omega), (show q220 ≤ 60 by first | assumption | omega), (show q221 ≤ 1 by first | assumption | omega), (show RoOk sn q219 q222 by first | assumption | exact RoOk_step (by assumption) (by omega) | exact RoOk_mono (by assumption) (by omega) | exact RoOk_zero _ _ | omega), (show bsz ≤ q219 by first | assumption | omega)⟩ (Nat.le_of_ble_eq_true rfl) (Nat.le_of_ble_eq_true rfl)
    refine jm_sub [0, 1, 2, 3, 4, 5, 6] (w' := [(b, .inl (.inr (2, [.ref b0, .ref b1, .int (nI bsz), .int (nI btm), .int (nI bft), .int bkp]))), (b0, .inl (.inl (kA 1, 60, .inl brow))), (s1, .inl (.inl (kA 1, 6, .inl sc1))), (s3, .inl (.inl (kA 1, 6, .inl sc3))), (s5, .inl (.inl (kA 1, 10, .inl sc5))), (s6, .inr (kA 6, kA 1, 10, 5, .inl sc6)), (s, .inl (.inr (5, [.ref s0, .ref s1, .ref s2, .ref s3, .ref s4, .ref s5, .ref s6, .ref s7, .ref s8, .ref s9, .ref s10, .ref s11, .int (nI sn), .int (nI sl), .int (nI se)])))]) rfl (by decide +kernel) [0, 1, 2, 3] (lv' := [(3, .int 0), (0, .ref b), (1, .ref s), (2, .int (nI j163))]) rfl ?_
    exact lp12_12 (100001 - 0 + 1) 0 bsz btm bft brow (show bsz ≤ 60 by first | assumption | omega) (show btm ≤ 60 by first | assumption | omega) (show bft ≤ 1 by first | assumption | omega) (show RoOk sn bsz brow by first | assumption | exact RoOk_step (by assumption) (by omega) | exact RoOk_mono (by assumption) (by omega) | exact RoOk_zero _ _ | omega) (show bsz ≤ bsz by first | assumption | omega) (show 0 ≤ 100000 by first | assumption | omega) (show bsz ≤ 100000 by first | assumption | omega) (show btm ≤ 100000 by first | assumption | omega) (show bft ≤ 100000 by first | assumption | omega) (Nat.lt_succ_self _)
set_option maxHeartbeats 4000000 in
set_option maxRecDepth 100000 in
theorem s_X2_walkAll (lau : Launch) (gg : va_G) (kA : Nat → ClassId) (b : Nat) (s : Nat) (t : Nat) (b0 : Nat) (b1 : Nat) (bsz : Nat) (btm : Nat) (bft : Nat) (bkp : Int32) (brow : Nat → Int32) (s0 : Nat) (s1 : Nat) (s2 : Nat) (s3 : Nat) (s4 : Nat) (s5 : Nat) (s6 : Nat) (s7 : Nat) (s8 : Nat) (s9 : Nat) (s10 : Nat) (s11 : Nat) (sn : Nat) (sl : Nat) (se : Nat) (sc1 : Nat → Int32) (sc3 : Nat → Int32) (sc5 : Nat → Int32) (sc6 : Nat → Nat → Int32) (t0 : Nat) (tsz : Nat) (ttm : Nat) (tft : Nat) (trow : Nat → Int32) (hsn : sn ≤ 6) (hsl : sl ≤ 10) (hse : se ≤ 4) (hstk : TkOk sn sc1) (hssz : SzOk sl sc5) (hsrw : RwOk sl sn sc5 sc6) (hbsz : bsz ≤ 60) (hbtm : btm ≤ 60) (hbft : bft ≤ 1) (hbro : RoOk sn bsz brow) (htsz : tsz ≤ 60) (httm : ttm ≤ 60) (htft : tft ≤ 1) (htro : RoOk sl tsz trow) : CtI lau yX2_walkAll cX2_walkAll 7 (some .boolean) 5 0 0 gg kA [.ref b, .ref s, .ref t] (mflat [(b, .inl (.inr (2, [.ref b0, .ref b1, .int (nI bsz), .int (nI btm), .int (nI bft), .int bkp]))), (b0, .inl (.inl (kA 1, 60, .inl brow))), (s, .inl (.inr (5, [.ref s0, .ref s1, .ref s2, .ref s3, .ref s4, .ref s5, .ref s6, .ref s7, .ref s8, .ref s9, .ref s10, .ref s11, .int (nI sn), .int (nI sl), .int (nI se)]))), (s1, .inl (.inl (kA 1, 6, .inl sc1))), (s3, .inl (.inl (kA 1, 6, .inl sc3))), (s5, .inl (.inl (kA 1, 10, .inl sc5))), (s6, .inr (kA 6, kA 1, 10, 5, .inl sc6)), (t, .inl (.inr (10, [.ref t0, .int (nI tsz), .int (nI ttm), .int (nI tft)]))), (t0, .inl (.inl (kA 1, 60, .inl trow)))]) (S := Nat × Nat × Nat × Nat × (Nat → Int32)) (fun (r : Int32) ((y_r, y_b_2, y_b_3, y_b_4, y_b0) : Nat × Nat × Nat × Nat × (Nat → Int32)) => r = nI y_r ∧ (y_r ≤ 1) ∧ (y_b_2 ≤ 60) ∧ (y_b_3 ≤ 60) ∧ (y_b_4 ≤ 1) ∧ (RoOk sn y_b_2 y_b0)) (fun ((y_r, y_b_2, y_b_3, y_b_4, y_b0) : Nat × Nat × Nat × Nat × (Nat → Int32)) => mflat [(b, .inl (.inr (2, [.ref b0, .ref b1, .int (nI y_b_2), .int (nI y_b_3), .int (nI y_b_4), .int bkp]))), (b0, .inl (.inl (kA 1, 60, .inl y_b0))), (s, .inl (.inr (5, [.ref s0, .ref s1, .ref s2, .ref s3, .ref s4, .ref s5, .ref s6, .ref s7, .ref s8, .ref s9, .ref s10, .ref s11, .int (nI sn), .int (nI sl), .int (nI se)]))), (s1, .inl (.inl (kA 1, 6, .inl sc1))), (s3, .inl (.inl (kA 1, 6, .inl sc3))), (s5, .inl (.inl (kA 1, 10, .inl sc5))), (s6, .inr (kA 6, kA 1, 10, 5, .inl sc6)), (t, .inl (.inr (10, [.ref t0, .int (nI tsz), .int (nI ttm), .int (nI tft)]))), (t0, .inl (.inl (kA 1, 60, .inl trow)))]) := by
  refine nx_startI (by decide +kernel) (Nat.le_of_ble_eq_true rfl) ?_
  intro x hnm h hq
  have h : Ok x cX2_walkAll RX2 kA (rmC 5 0 0) 7 := h
  show J x (mflat [(b, .inl (.inr (2, [.ref b0, .ref b1, .int (nI bsz), .int (nI btm), .int (nI bft), .int bkp]))), (b0, .inl (.inl (kA 1, 60, .inl brow))), (s, .inl (.inr (5, [.ref s0, .ref s1, .ref s2, .ref s3, .ref s4, .ref s5, .ref s6, .ref s7, .ref s8, .ref s9, .ref s10, .ref s11, .int (nI sn), .int (nI sl), .int (nI se)]))), (s1, .inl (.inl (kA 1, 6, .inl sc1))), (s3, .inl (.inl (kA 1, 6, .inl sc3))), (s5, .inl (.inl (kA 1, 10, .inl sc5))), (s6, .inr (kA 6, kA 1, 10, 5, .inl sc6)), (t, .inl (.inr (10, [.ref t0, .int (nI tsz), .int (nI ttm), .int (nI tft)]))), (t0, .inl (.inl (kA 1, 60, .inl trow)))]) [(0, .ref b), (1, .ref s), (2, .ref t)] 0 0 0 []
  refine j_aload_n h 0 rfl rfl dX2_walkAll_0 ?_
  refine jm_get h iw_X2 0 rfl rfl 2 (by decide +kernel) tw_274 rfl dX2_walkAll_1 ?_
  refine j_istore_n (lv' := [(3, .int (nI bsz)), (0, .ref b), (1, .ref s), (2, .ref t)]) h dX2_walkAll_4 rfl (by decide) rfl ?_
  refine j_aload_n h 1 rfl rfl dX2_walkAll_5 ?_
  refine jm_get h iw_X2 0 rfl rfl 3 (by decide +kernel) tw_276 rfl dX2_walkAll_6 ?_
  refine j_istore (lv' := [(4, .int (nI btm)), (3, .int (nI bsz)), (0, .ref b), (1, .ref s), (2, .ref t)]) h dX2_walkAll_9 (by decide) rfl ?_
  refine j_aload_n h 2 rfl rfl dX2_walkAll_11 ?_
  refine jm_get h iw_X2 0 rfl rfl 4 (by decide +kernel) tw_278 rfl dX2_walkAll_12 ?_
  refine j_istore (lv' := [(5, .int (nI bft)), (4, .int (nI btm)), (3, .int (nI bsz)), (0, .ref b), (1, .ref s), (2, .ref t)]) h dX2_walkAll_15 (by decide) rfl ?_
  refine j_iconst (v := 0) h (by decide) dX2_walkAll_17 ?_
  refine j_istore (lv' := [(6, .int 0), (5, .int (nI bft)), (4, .int (nI btm)), (3, .int (nI bsz)), (0, .ref b), (1, .ref s), (2, .ref t)]) h dX2_walkAll_18 (by decide) rfl ?_
  have lp20_18 : ∀ (m20_18 : Nat), ∀ (v6_20_18 : Nat) (wb2_20_18 : Nat) (wb3_20_18 : Nat) (wb4_20_18 : Nat) (fb0_20_18 : Nat → Int32), (wb2_20_18 ≤ 60) → (wb3_20_18 ≤ 60) → (wb4_20_18 ≤ 1) → (RoOk sn wb2_20_18 fb0_20_18) → (bsz ≤ wb2_20_18) → (v6_20_18 ≤ 100000) → (wb2_20_18 ≤ 100000) → (wb3_20_18 ≤ 100000) → (wb4_20_18 ≤ 100000) → 100001 - v6_20_18 < m20_18 → J x (mflat [(b, .inl (.inr (2, [.ref b0, .ref b1, .int (nI wb2_20_18), .int (nI wb3_20_18), .int (nI wb4_20_18), .int bkp]))), (b0, .inl (.inl (kA 1, 60, .inl fb0_20_18))), (s, .inl (.inr (5, [.ref s0, .ref s1, .ref s2, .ref s3, .ref s4, .ref s5, .ref s6, .ref s7, .ref s8, .ref s9, .ref s10, .ref s11, .int (nI sn), .int (nI sl), .int (nI se)]))), (s1, .inl (.inl (kA 1, 6, .inl sc1))), (s3, .inl (.inl (kA 1, 6, .inl sc3))), (s5, .inl (.inl (kA 1, 10, .inl sc5))), (s6, .inr (kA 6, kA 1, 10, 5, .inl sc6)), (t, .inl (.inr (10, [.ref t0, .int (nI tsz), .int (nI ttm), .int (nI tft)]))), (t0, .inl (.inl (kA 1, 60, .inl trow)))]) [(6, .int (nI v6_20_18)), (5, .int (nI bft)), (4, .int (nI btm)), (3, .int (nI bsz)), (0, .ref b), (1, .ref s), (2, .ref t)] 0 0 20 [] := by
    intro m20_18
    induction m20_18 with
    | zero =>
      intro v6_20_18 wb2_20_18 wb3_20_18 wb4_20_18 fb0_20_18 i20_18_0 i20_18_1 i20_18_2 i20_18_3 i20_18_4 i20_18_5 i20_18_6 i20_18_7 i20_18_8 hm20_18
      exact absurd hm20_18 (Nat.not_lt_zero _)
    | succ m20_18 ih20_18 =>
      intro v6_20_18 wb2_20_18 wb3_20_18 wb4_20_18 fb0_20_18 i20_18_0 i20_18_1 i20_18_2 i20_18_3 i20_18_4 i20_18_5 i20_18_6 i20_18_7 i20_18_8 hm20_18
      refine j_iload h 0 rfl dX2_walkAll_20 ?_
      refine j_aload_n h 6 rfl rfl dX2_walkAll_22 ?_
      refine jm_get h iw_X10 7 rfl rfl 1 (by decide +kernel) tw_307 rfl dX2_walkAll_23 ?_
      refine j_icmp_ge h 69 dX2_walkAll_26 (by decide) (fun z328 => ?_) (fun z328 => ?_)
      · have z328n : tsz ≤ v6_20_18 := (nI_leI (a := tsz) (b := v6_20_18) (by omega) (by omega)).mp z328
        refine j_iconst (v := 1) h (by decide) dX2_walkAll_69 ?_
        exact jm_zret h hq rfl dX2_walkAll_70 (1, wb2_20_18, wb3_20_18, wb4_20_18, fb0_20_18) [0, 1, 2, 3, 4, 5, 6, 7, 8] rfl (by decide) ⟨rfl, (show 1 ≤ 1 by first | assumption | omega), (show wb2_20_18 ≤ 60 by first | assumption | omega), (show wb3_20_18 ≤ 60 by first | assumption | omega), (show wb4_20_18 ≤ 1 by first | assumption | omega), (show RoOk sn wb2_20_18 fb0_20_18 by first | assumption | exact RoOk_step (by assumption) (by omega) | exact RoOk_mono (by assumption) (by omega) | exact RoOk_zero _ _ | omega)⟩ (Nat.le_of_ble_eq_true rfl) (Nat.le_of_ble_eq_true rfl)
      · have z328n : ¬ tsz ≤ v6_20_18 := fun q9 => z328 ((nI_leI (a := tsz) (b := v6_20_18) (by omega) (by omega)).mpr q9)
        refine j_aload_n h 4 rfl rfl dX2_walkAll_29 ?_
        refine j_aload_n h 5 rfl rfl dX2_walkAll_30 ?_
        refine j_aload_n h 6 rfl rfl dX2_walkAll_31 ?_
        refine jm_get h iw_X10 7 rfl rfl 0 (by decide +kernel) tw_304 rfl dX2_walkAll_32 ?_
        refine j_iload h 0 rfl dX2_walkAll_35 ?_
        refine jm_iald h 8 rfl v6_20_18 rfl (by omega) (by omega) dX2_walkAll_37 ?_
        obtain ⟨t329, u330, u331⟩ := (show RoOk sl tsz trow by assumption) v6_20_18 (by omega)
        refine j_top (b := nI t329) (u331) ?_
        refine jm_callVi (np := 2) (isC := [0, 1, 2, 3, 4, 5, 6]) (isR := [7, 8]) (wc := [(b, .inl (.inr (2, [.ref b0, .ref b1, .int (nI wb2_20_18), .int (nI wb3_20_18), .int (nI wb4_20_18), .int bkp]))), (b0, .inl (.inl (kA 1, 60, .inl fb0_20_18))), (s, .inl (.inr (5, [.ref s0, .ref s1, .ref s2, .ref s3, .ref s4, .ref s5, .ref s6, .ref s7, .ref s8, .ref s9, .ref s10, .ref s11, .int (nI sn), .int (nI sl), .int (nI se)]))), (s1, .inl (.inl (kA 1, 6, .inl sc1))), (s3, .inl (.inl (kA 1, 6, .inl sc3))), (s5, .inl (.inl (kA 1, 10, .inl sc5))), (s6, .inr (kA 6, kA 1, 10, 5, .inl sc6))]) (wr := [(t, .inl (.inr (10, [.ref t0, .int (nI tsz), .int (nI ttm), .int (nI tft)]))), (t0, .inl (.inl (kA 1, 60, .inl trow)))]) (rest := []) (As := [.ref s, .int (nI t329)]) (q0 := 0) h (s_X2_walkLetter _ _ kA b s (nI t329) b0 b1 wb2_20_18 wb3_20_18 wb4_20_18 bkp fb0_20_18 s0 s1 s2 s3 s4 s5 s6 s7 s8 s9 s10 s11 sn sl se sc1 sc3 sc5 sc6 (show sn ≤ 6 by first | assumption | omega) (show sl ≤ 10 by first | assumption | omega) (show se ≤ 4 by first | assumption | omega) (show TkOk sn sc1 by first | assumption | omega) (show SzOk sl sc5 by first | assumption | omega) (show RwOk sl sn sc5 sc6 by first | assumption | omega) (show wb2_20_18 ≤ 60 by first | assumption | omega) (show wb3_20_18 ≤ 60 by first | assumption | omega) (show wb4_20_18 ≤ 1 by first | assumption | omega) (show RoOk sn wb2_20_18 fb0_20_18 by first | assumption | exact RoOk_step (by assumption) (by omega) | exact RoOk_mono (by assumption) (by omega) | exact RoOk_zero _ _ | omega)) tw_771 tw_773 tw_15 tw_91 tw_774 (by decide +kernel) rfl ⟨Nat.le_of_ble_eq_true rfl, Nat.le_of_ble_eq_true rfl⟩ rfl rfl (by decide +kernel) rfl rfl (by decide +kernel) (by decide +kernel) (Nat.le_of_ble_eq_true rfl) rfl ⟨Nat.le_of_ble_eq_true rfl, Nat.le_of_ble_eq_true rfl⟩ dX2_walkAll_38 ?_
        rintro r338 ⟨q332, q333, q334, q335, q336⟩ e337
        obtain ⟨p339, p340, p341, p342, p343, p344, p345⟩ := e337
        subst p339
        replace p340 : q332 ≤ 1 := p340
        replace p341 : q333 ≤ 60 := p341
        replace p342 : q334 ≤ 60 := p342
        replace p343 : q335 ≤ 1 := p343
        replace p344 : RoOk sn q333 q336 := p344
        replace p345 : wb2_20_18 ≤ q333 := p345
        show J x (mflat [(t, .inl (.inr (10, [.ref t0, .int (nI tsz), .int (nI ttm), .int (nI tft)]))), (t0, .inl (.inl (kA 1, 60, .inl trow))), (b, .inl (.inr (2, [.ref b0, .ref b1, .int (nI q333), .int (nI q334), .int (nI q335), .int bkp]))), (b0, .inl (.inl (kA 1, 60, .inl q336))), (s, .inl (.inr (5, [.ref s0, .ref s1, .ref s2, .ref s3, .ref s4, .ref s5, .ref s6, .ref s7, .ref s8, .ref s9, .ref s10, .ref s11, .int (nI sn), .int (nI sl), .int (nI se)]))), (s1, .inl (.inl (kA 1, 6, .inl sc1))), (s3, .inl (.inl (kA 1, 6, .inl sc3))), (s5, .inl (.inl (kA 1, 10, .inl sc5))), (s6, .inr (kA 6, kA 1, 10, 5, .inl sc6))]) [(6, .int (nI v6_20_18)), (5, .int (nI bft)), (4, .int (nI btm)), (3, .int (nI bsz)), (0, .ref b), (1, .ref s), (2, .ref t)] 0 0 41 [.int (nI q332)]
        refine j_if_ne h 63 dX2_walkAll_41 (by decide) (fun z346 => ?_) (fun z346 => ?_)
        · have z346n : ¬ q332 = 0 := fun q9 => z346 ((nI_eq (a := q332) (b := 0) (by omega) (by omega)).mpr q9)
          refine j_iinc (v := nI (v6_20_18 + 1)) (lv' := [(6, .int (nI (v6_20_18 + 1))), (5, .int (nI bft)), (4, .int (nI btm)), (3, .int (nI bsz)), (0, .ref b), (1, .ref s), (2, .ref t)]) h dX2_walkAll_63 0 rfl (nI_add v6_20_18 1) (by decide) rfl ?_
          refine j_goto h 20 dX2_walkAll_66 (by decide) ?_
          refine jm_sub [2, 3, 4, 5, 6, 7, 8, 0, 1] (w' := [(b, .inl (.inr (2, [.ref b0, .ref b1, .int (nI q333), .int (nI q334), .int (nI q335), .int bkp]))), (b0, .inl (.inl (kA 1, 60, .inl q336))), (s, .inl (.inr (5, [.ref s0, .ref s1, .ref s2, .ref s3, .ref s4, .ref s5, .ref s6, .ref s7, .ref s8, .ref s9, .ref s10, .ref s11, .int (nI sn), .int (nI sl), .int (nI se)]))), (s1, .inl (.inl (kA 1, 6, .inl sc1))), (s3, .inl (.inl (kA 1, 6, .inl sc3))), (s5, .inl (.inl (kA 1, 10, .inl sc5))), (s6, .inr (kA 6, kA 1, 10, 5, .inl sc6)), (t, .inl (.inr (10, [.ref t0, .int (nI tsz), .int (nI ttm), .int (nI tft)]))), (t0, .inl (.inl (kA 1, 60, .inl trow)))]) rfl (by decide +kernel) [0, 1, 2, 3, 4, 5, 6] (lv' := [(6, .int (nI (v6_20_18 + 1))), (5, .int (nI bft)), (4, .int (nI btm)), (3, .int (nI bsz)), (0, .ref b), (1, .ref s), (2, .ref t)]) rfl ?_
          exact ih20_18 (v6_20_18 + 1) q333 q334 q335 q336 (show q333 ≤ 60 by first | assumption | omega) (show q334 ≤ 60 by first | assumption | omega) (show q335 ≤ 1 by first | assumption | omega) (show RoOk sn q333 q336 by first | assumption | exact RoOk_step (by assumption) (by omega) | exact RoOk_mono (by assumption) (by omega) | exact RoOk_zero _ _ | omega) (show bsz ≤ q333 by first | assumption | omega) (show (v6_20_18 + 1) ≤ 100000 by first | assumption | omega) (show q333 ≤ 100000 by first | assumption | omega) (show q334 ≤ 100000 by first | assumption | omega) (show q335 ≤ 100000 by first | assumption | omega) (show 100001 - (v6_20_18 + 1) < m20_18 from Nat.lt_of_lt_of_le (Nat.sub_lt_sub_left (Nat.lt_of_le_of_lt (show v6_20_18 ≤ 100000 by first | assumption | omega) (Nat.lt_succ_self 100000)) (Nat.lt_succ_self v6_20_18)) (Nat.le_of_lt_succ hm20_18))
        · have z346n : q332 = 0 := (nI_eq (a := q332) (b := 0) (by omega) (by omega)).mp z346
          refine j_aload_n h 4 rfl rfl dX2_walkAll_44 ?_
          refine j_iload_n h 3 rfl rfl dX2_walkAll_45 ?_
          refine jm_put (w' := [(t, .inl (.inr (10, [.ref t0, .int (nI tsz), .int (nI ttm), .int (nI tft)]))), (t0, .inl (.inl (kA 1, 60, .inl trow))), (b, .inl (.inr (2, [.ref b0, .ref b1, .int (nI bsz), .int (nI q334), .int (nI q335), .int bkp]))), (b0, .inl (.inl (kA 1, 60, .inl q336))), (s, .inl (.inr (5, [.ref s0, .ref s1, .ref s2, .ref s3, .ref s4, .ref s5, .ref s6, .ref s7, .ref s8, .ref s9, .ref s10, .ref s11, .int (nI sn), .int (nI sl), .int (nI se)]))), (s1, .inl (.inl (kA 1, 6, .inl sc1))), (s3, .inl (.inl (kA 1, 6, .inl sc3))), (s5, .inl (.inl (kA 1, 10, .inl sc5))), (s6, .inr (kA 6, kA 1, 10, 5, .inl sc6))]) h iw_X2 tyX2 tyX2_ok nmX2 2 rfl rfl 2 (by decide +kernel) tw_274 rfl rfl rfl (Nat.le_of_ble_eq_true rfl) dX2_walkAll_46 rfl ?_
          refine j_aload_n h 4 rfl rfl dX2_walkAll_49 ?_
          refine j_iload h 2 rfl dX2_walkAll_50 ?_
          refine jm_put (w' := [(t, .inl (.inr (10, [.ref t0, .int (nI tsz), .int (nI ttm), .int (nI tft)]))), (t0, .inl (.inl (kA 1, 60, .inl trow))), (b, .inl (.inr (2, [.ref b0, .ref b1, .int (nI bsz), .int (nI btm), .int (nI q335), .int bkp]))), (b0, .inl (.inl (kA 1, 60, .inl q336))), (s, .inl (.inr (5, [.ref s0, .ref s1, .ref s2, .ref s3, .ref s4, .ref s5, .ref s6, .ref s7, .ref s8, .ref s9, .ref s10, .ref s11, .int (nI sn), .int (nI sl), .int (nI se)]))), (s1, .inl (.inl (kA 1, 6, .inl sc1))), (s3, .inl (.inl (kA 1, 6, .inl sc3))), (s5, .inl (.inl (kA 1, 10, .inl sc5))), (s6, .inr (kA 6, kA 1, 10, 5, .inl sc6))]) h iw_X2 tyX2 tyX2_ok nmX2 2 rfl rfl 3 (by decide +kernel) tw_276 rfl rfl rfl (Nat.le_of_ble_eq_true rfl) dX2_walkAll_52 rfl ?_
          refine j_aload_n h 4 rfl rfl dX2_walkAll_55 ?_
          refine j_iload h 1 rfl dX2_walkAll_56 ?_
          refine jm_put (w' := [(t, .inl (.inr (10, [.ref t0, .int (nI tsz), .int (nI ttm), .int (nI tft)]))), (t0, .inl (.inl (kA 1, 60, .inl trow))), (b, .inl (.inr (2, [.ref b0, .ref b1, .int (nI bsz), .int (nI btm), .int (nI bft), .int bkp]))), (b0, .inl (.inl (kA 1, 60, .inl q336))), (s, .inl (.inr (5, [.ref s0, .ref s1, .ref s2, .ref s3, .ref s4, .ref s5, .ref s6, .ref s7, .ref s8, .ref s9, .ref s10, .ref s11, .int (nI sn), .int (nI sl), .int (nI se)]))), (s1, .inl (.inl (kA 1, 6, .inl sc1))), (s3, .inl (.inl (kA 1, 6, .inl sc3))), (s5, .inl (.inl (kA 1, 10, .inl sc5))), (s6, .inr (kA 6, kA 1, 10, 5, .inl sc6))]) h iw_X2 tyX2 tyX2_ok nmX2 2 rfl rfl 4 (by decide +kernel) tw_278 rfl rfl rfl (Nat.le_of_ble_eq_true rfl) dX2_walkAll_58 rfl ?_
          refine j_iconst (v := 0) h (by decide) dX2_walkAll_61 ?_
          exact jm_zret h hq rfl dX2_walkAll_62 (0, bsz, btm, bft, q336) [2, 3, 4, 5, 6, 7, 8, 0, 1] rfl (by decide) ⟨rfl, (show 0 ≤ 1 by first | assumption | omega), (show bsz ≤ 60 by first | assumption | omega), (show btm ≤ 60 by first | assumption | omega), (show bft ≤ 1 by first | assumption | omega), (show RoOk sn bsz q336 by first | assumption | exact RoOk_step (by assumption) (by omega) | exact RoOk_mono (by assumption) (by omega) | exact RoOk_zero _ _ | omega)⟩ (Nat.le_of_ble_eq_true rfl) (Nat.le_of_ble_eq_true rfl)
  refine jm_sub [0, 1, 2, 3, 4, 5, 6, 7, 8] (w' := [(b, .inl (.inr (2, [.ref b0, .ref b1, .int (nI bsz), .int (nI btm), .int (nI bft), .int bkp]))), (b0, .inl (.inl (kA 1, 60, .inl brow))), (s, .inl (.inr (5, [.ref s0, .ref s1, .ref s2, .ref s3, .ref s4, .ref s5, .ref s6, .ref s7, .ref s8, .ref s9, .ref s10, .ref s11, .int (nI sn), .int (nI sl), .int (nI se)]))), (s1, .inl (.inl (kA 1, 6, .inl sc1))), (s3, .inl (.inl (kA 1, 6, .inl sc3))), (s5, .inl (.inl (kA 1, 10, .inl sc5))), (s6, .inr (kA 6, kA 1, 10, 5, .inl sc6)), (t, .inl (.inr (10, [.ref t0, .int (nI tsz), .int (nI ttm), .int (nI tft)]))), (t0, .inl (.inl (kA 1, 60, .inl trow)))]) rfl (by decide +kernel) [0, 1, 2, 3, 4, 5, 6] (lv' := [(6, .int 0), (5, .int (nI bft)), (4, .int (nI btm)), (3, .int (nI bsz)), (0, .ref b), (1, .ref s), (2, .ref t)]) rfl ?_
  exact lp20_18 (100001 - 0 + 1) 0 bsz btm bft brow (show bsz ≤ 60 by first | assumption | omega) (show btm ≤ 60 by first | assumption | omega) (show bft ≤ 1 by first | assumption | omega) (show RoOk sn bsz brow by first | assumption | exact RoOk_step (by assumption) (by omega) | exact RoOk_mono (by assumption) (by omega) | exact RoOk_zero _ _ | omega) (show bsz ≤ bsz by first | assumption | omega) (show 0 ≤ 100000 by first | assumption | omega) (show bsz ≤ 100000 by first | assumption | omega) (show btm ≤ 100000 by first | assumption | omega) (show bft ≤ 100000 by first | assumption | omega) (Nat.lt_succ_self _)
set_option maxHeartbeats 4000000 in
set_option maxRecDepth 100000 in
theorem s_X2_hearWalk (lau : Launch) (gg : va_G) (kA : Nat → ClassId) (b : Nat) (s : Nat) (er : Int32) (o : Nat) (b0 : Nat) (b1 : Nat) (bsz : Nat) (btm : Nat) (bft : Nat) (bkp : Int32) (brow : Nat → Int32) (blo : Nat → Int32) (s0 : Nat) (s1 : Nat) (s2 : Nat) (s3 : Nat) (s4 : Nat) (s5 : Nat) (s6 : Nat) (s7 : Nat) (s8 : Nat) (s9 : Nat) (s10 : Nat) (s11 : Nat) (sn : Nat) (sl : Nat) (se : Nat) (sc1 : Nat → Int32) (sc10 : Nat → Int32) (of : Nat → Int32) (hsn : sn ≤ 6) (hsl : sl ≤ 10) (hse : se ≤ 4) (hstk : TkOk sn sc1) (hbsz : bsz ≤ 60) (hbtm : btm ≤ 60) (hbft : bft ≤ 1) (hbro : RoOk sn bsz brow) : CtV lau yX2_hearWalk cX2_hearWalk 7 (none) 3 0 0 gg kA [.ref b, .ref s, .int er, .ref o] (mflat [(b, .inl (.inr (2, [.ref b0, .ref b1, .int (nI bsz), .int (nI btm), .int (nI bft), .int bkp]))), (b0, .inl (.inl (kA 1, 60, .inl brow))), (b1, .inl (.inl (kA 1, 6, .inl blo))), (s, .inl (.inr (5, [.ref s0, .ref s1, .ref s2, .ref s3, .ref s4, .ref s5, .ref s6, .ref s7, .ref s8, .ref s9, .ref s10, .ref s11, .int (nI sn), .int (nI sl), .int (nI se)]))), (s1, .inl (.inl (kA 1, 6, .inl sc1))), (s10, .inl (.inl (kA 1, 4, .inl sc10))), (o, .inl (.inl (kA 1, 60, .inl of)))]) (S := (Nat → Int32)) (fun (y_o : (Nat → Int32)) => True) (fun (y_o : (Nat → Int32)) => mflat [(b, .inl (.inr (2, [.ref b0, .ref b1, .int (nI bsz), .int (nI btm), .int (nI bft), .int bkp]))), (b0, .inl (.inl (kA 1, 60, .inl brow))), (b1, .inl (.inl (kA 1, 6, .inl blo))), (s, .inl (.inr (5, [.ref s0, .ref s1, .ref s2, .ref s3, .ref s4, .ref s5, .ref s6, .ref s7, .ref s8, .ref s9, .ref s10, .ref s11, .int (nI sn), .int (nI sl), .int (nI se)]))), (s1, .inl (.inl (kA 1, 6, .inl sc1))), (s10, .inl (.inl (kA 1, 4, .inl sc10))), (o, .inl (.inl (kA 1, 60, .inl y_o)))]) := by
  refine nx_startV (by decide +kernel) (Nat.le_of_ble_eq_true rfl) ?_
  intro x hnm h hq
  have h : Ok x cX2_hearWalk RX2 kA (rmC 3 0 0) 7 := h
  show J x (mflat [(b, .inl (.inr (2, [.ref b0, .ref b1, .int (nI bsz), .int (nI btm), .int (nI bft), .int bkp]))), (b0, .inl (.inl (kA 1, 60, .inl brow))), (b1, .inl (.inl (kA 1, 6, .inl blo))), (s, .inl (.inr (5, [.ref s0, .ref s1, .ref s2, .ref s3, .ref s4, .ref s5, .ref s6, .ref s7, .ref s8, .ref s9, .ref s10, .ref s11, .int (nI sn), .int (nI sl), .int (nI se)]))), (s1, .inl (.inl (kA 1, 6, .inl sc1))), (s10, .inl (.inl (kA 1, 4, .inl sc10))), (o, .inl (.inl (kA 1, 60, .inl of)))]) [(0, .ref b), (1, .ref s), (2, .int er), (3, .ref o)] 0 0 0 []
  refine j_iconst (v := 0) h (by decide) dX2_hearWalk_0 ?_
  refine j_istore (lv' := [(4, .int 0), (0, .ref b), (1, .ref s), (2, .int er), (3, .ref o)]) h dX2_hearWalk_1 (by decide) rfl ?_
  refine j_iconst (v := 0) h (by decide) dX2_hearWalk_3 ?_
  refine j_istore (lv' := [(5, .int 0), (4, .int 0), (0, .ref b), (1, .ref s), (2, .int er), (3, .ref o)]) h dX2_hearWalk_4 (by decide) rfl ?_
  have lp6_24 : ∀ (m6_24 : Nat), ∀ (v5_6_24 : Nat) (v4_6_24 : Nat) (fo_6_24 : Nat → Int32), (v4_6_24 ≤ 60) → (v5_6_24 ≤ 100000) → (v4_6_24 ≤ 100000) → 100001 - v5_6_24 < m6_24 → J x (mflat [(b, .inl (.inr (2, [.ref b0, .ref b1, .int (nI bsz), .int (nI btm), .int (nI bft), .int bkp]))), (b0, .inl (.inl (kA 1, 60, .inl brow))), (b1, .inl (.inl (kA 1, 6, .inl blo))), (s, .inl (.inr (5, [.ref s0, .ref s1, .ref s2, .ref s3, .ref s4, .ref s5, .ref s6, .ref s7, .ref s8, .ref s9, .ref s10, .ref s11, .int (nI sn), .int (nI sl), .int (nI se)]))), (s1, .inl (.inl (kA 1, 6, .inl sc1))), (s10, .inl (.inl (kA 1, 4, .inl sc10))), (o, .inl (.inl (kA 1, 60, .inl fo_6_24)))]) [(5, .int (nI v5_6_24)), (4, .int (nI v4_6_24)), (0, .ref b), (1, .ref s), (2, .int er), (3, .ref o)] 0 0 6 [] := by
    intro m6_24
    induction m6_24 with
    | zero =>
      intro v5_6_24 v4_6_24 fo_6_24 i6_24_0 i6_24_1 i6_24_2 hm6_24
      exact absurd hm6_24 (Nat.not_lt_zero _)
    | succ m6_24 ih6_24 =>
      intro v5_6_24 v4_6_24 fo_6_24 i6_24_0 i6_24_1 i6_24_2 hm6_24
      refine j_iload h 0 rfl dX2_hearWalk_6 ?_
      refine j_aload_n h 2 rfl rfl dX2_hearWalk_8 ?_
      refine jm_get h iw_X2 0 rfl rfl 2 (by decide +kernel) tw_274 rfl dX2_hearWalk_9 ?_
      refine j_icmp_ge h 57 dX2_hearWalk_12 (by decide) (fun z432 => ?_) (fun z432 => ?_)
      · have z432n : bsz ≤ v5_6_24 := (nI_leI (a := bsz) (b := v5_6_24) (by omega) (by omega)).mp z432
        exact jm_vret h hq dX2_hearWalk_57 fo_6_24 [0, 1, 2, 3, 4, 5, 6] rfl (by decide) trivial (Nat.le_of_ble_eq_true rfl) (Nat.le_of_ble_eq_true rfl)
      · have z432n : ¬ bsz ≤ v5_6_24 := fun q9 => z432 ((nI_leI (a := bsz) (b := v5_6_24) (by omega) (by omega)).mpr q9)
        refine j_aload_n h 2 rfl rfl dX2_hearWalk_15 ?_
        refine jm_get h iw_X2 0 rfl rfl 0 (by decide +kernel) tw_271 rfl dX2_hearWalk_16 ?_
        refine j_iload h 0 rfl dX2_hearWalk_19 ?_
        refine jm_iald h 1 rfl v5_6_24 rfl (by omega) (by omega) dX2_hearWalk_21 ?_
        obtain ⟨t433, u434, u435⟩ := (show RoOk sn bsz brow by assumption) v5_6_24 (by omega)
        refine j_top (b := nI t433) (u435) ?_
        refine j_istore (lv' := [(6, .int (nI t433)), (5, .int (nI v5_6_24)), (4, .int (nI v4_6_24)), (0, .ref b), (1, .ref s), (2, .int er), (3, .ref o)]) h dX2_hearWalk_22 (by decide) rfl ?_
        refine j_aload_n h 6 rfl rfl dX2_hearWalk_24 ?_
        refine j_iload h 2 rfl dX2_hearWalk_25 ?_
        refine j_aload_n h 4 rfl rfl dX2_hearWalk_27 ?_
        refine j_aload_n h 3 rfl rfl dX2_hearWalk_28 ?_
        refine jm_get h iw_X2 0 rfl rfl 1 (by decide +kernel) tw_272 rfl dX2_hearWalk_29 ?_
        refine j_iload h 0 rfl dX2_hearWalk_32 ?_
        refine jm_iald h 2 rfl t433 rfl (by omega) (by omega) dX2_hearWalk_34 ?_
        refine j_iload_n h 5 rfl rfl dX2_hearWalk_35 ?_
        refine jm_callVi (np := 2) (isC := [3, 5]) (isR := [0, 1, 2, 4, 6]) (wc := [(s, .inl (.inr (5, [.ref s0, .ref s1, .ref s2, .ref s3, .ref s4, .ref s5, .ref s6, .ref s7, .ref s8, .ref s9, .ref s10, .ref s11, .int (nI sn), .int (nI sl), .int (nI se)]))), (s10, .inl (.inl (kA 1, 4, .inl sc10)))]) (wr := [(b, .inl (.inr (2, [.ref b0, .ref b1, .int (nI bsz), .int (nI btm), .int (nI bft), .int bkp]))), (b0, .inl (.inl (kA 1, 60, .inl brow))), (b1, .inl (.inl (kA 1, 6, .inl blo))), (s1, .inl (.inl (kA 1, 6, .inl sc1))), (o, .inl (.inl (kA 1, 60, .inl fo_6_24)))]) (rest := [.int (nI v4_6_24), .ref o]) (As := [.int (blo t433), .int er]) (q0 := 0) h (s_X5_heardBelow _ _ kA s (blo t433) er s0 s1 s2 s3 s4 s5 s6 s7 s8 s9 s10 s11 sn sl se sc10 (show sn ≤ 6 by first | assumption | omega) (show sl ≤ 10 by first | assumption | omega) (show se ≤ 4 by first | assumption | omega)) tw_797 tw_798 tw_799 tw_90 tw_800 (by decide +kernel) rfl ⟨Nat.le_of_ble_eq_true rfl, Nat.le_of_ble_eq_true rfl⟩ rfl rfl (by decide +kernel) rfl rfl (by decide +kernel) (by decide +kernel) (Nat.le_of_ble_eq_true rfl) rfl ⟨Nat.le_of_ble_eq_true rfl, Nat.le_of_ble_eq_true rfl⟩ dX2_hearWalk_36 ?_
        rintro r437 _ e436
        show J x (mflat [(b, .inl (.inr (2, [.ref b0, .ref b1, .int (nI bsz), .int (nI btm), .int (nI bft), .int bkp]))), (b0, .inl (.inl (kA 1, 60, .inl brow))), (b1, .inl (.inl (kA 1, 6, .inl blo))), (s1, .inl (.inl (kA 1, 6, .inl sc1))), (o, .inl (.inl (kA 1, 60, .inl fo_6_24))), (s, .inl (.inr (5, [.ref s0, .ref s1, .ref s2, .ref s3, .ref s4, .ref s5, .ref s6, .ref s7, .ref s8, .ref s9, .ref s10, .ref s11, .int (nI sn), .int (nI sl), .int (nI se)]))), (s10, .inl (.inl (kA 1, 4, .inl sc10)))]) [(6, .int (nI t433)), (5, .int (nI v5_6_24)), (4, .int (nI v4_6_24)), (0, .ref b), (1, .ref s), (2, .int er), (3, .ref o)] 0 0 39 [.int r437, .int (nI v4_6_24), .ref o]
        refine j_aload_n h 4 rfl rfl dX2_hearWalk_39 ?_
        refine jm_get h iw_X5 5 rfl rfl 1 (by decide +kernel) tw_180 rfl dX2_hearWalk_40 ?_
        refine j_iload h 0 rfl dX2_hearWalk_43 ?_
        refine jm_iald h 3 rfl t433 rfl (by omega) (by omega) dX2_hearWalk_45 ?_
        obtain ⟨t438, u439, u440, u441⟩ := (show TkOk sn sc1 by assumption) t433 (by omega)
        refine j_top (b := nI t438) (u441) ?_
        refine jm_callSNi (np := 4) (isC := [4]) (isR := [0, 1, 2, 3, 5, 6]) (wc := [(o, .inl (.inl (kA 1, 60, .inl fo_6_24)))]) (wr := [(b, .inl (.inr (2, [.ref b0, .ref b1, .int (nI bsz), .int (nI btm), .int (nI bft), .int bkp]))), (b0, .inl (.inl (kA 1, 60, .inl brow))), (b1, .inl (.inl (kA 1, 6, .inl blo))), (s1, .inl (.inl (kA 1, 6, .inl sc1))), (s, .inl (.inr (5, [.ref s0, .ref s1, .ref s2, .ref s3, .ref s4, .ref s5, .ref s6, .ref s7, .ref s8, .ref s9, .ref s10, .ref s11, .int (nI sn), .int (nI sl), .int (nI se)]))), (s10, .inl (.inl (kA 1, 4, .inl sc10)))]) (rest := []) (As := [.ref o, .int (nI v4_6_24), .int r437, .int (nI t438)]) h (s_X11_putStep _ _ kA o v4_6_24 r437 t438 60 fo_6_24 (show 60 ≤ 60 by first | assumption | omega) (show v4_6_24 ≤ 60 by first | assumption | omega) (show t438 ≤ 9 by first | assumption | omega)) (by decide +kernel) tw_806 tw_87 tw_807 (by decide +kernel) rfl ⟨Nat.le_of_ble_eq_true rfl, Nat.le_of_ble_eq_true rfl⟩ (by decide +kernel) rfl rfl (by decide +kernel) (by decide +kernel) (Nat.le_of_ble_eq_true rfl) rfl ⟨Nat.le_of_ble_eq_true rfl, Nat.le_of_ble_eq_true rfl⟩ dX2_hearWalk_46 ?_
        rintro r445 ⟨q442, q443⟩ e444
        obtain ⟨p446, p447, p448⟩ := e444
        subst p446
        replace p447 : q442 ≤ 60 := p447
        replace p448 : v4_6_24 ≤ q442 := p448
        show J x (mflat [(b, .inl (.inr (2, [.ref b0, .ref b1, .int (nI bsz), .int (nI btm), .int (nI bft), .int bkp]))), (b0, .inl (.inl (kA 1, 60, .inl brow))), (b1, .inl (.inl (kA 1, 6, .inl blo))), (s1, .inl (.inl (kA 1, 6, .inl sc1))), (s, .inl (.inr (5, [.ref s0, .ref s1, .ref s2, .ref s3, .ref s4, .ref s5, .ref s6, .ref s7, .ref s8, .ref s9, .ref s10, .ref s11, .int (nI sn), .int (nI sl), .int (nI se)]))), (s10, .inl (.inl (kA 1, 4, .inl sc10))), (o, .inl (.inl (kA 1, 60, .inl q443)))]) [(6, .int (nI t433)), (5, .int (nI v5_6_24)), (4, .int (nI v4_6_24)), (0, .ref b), (1, .ref s), (2, .int er), (3, .ref o)] 0 0 49 [.int (nI q442)]
        refine j_istore (lv' := [(4, .int (nI q442)), (6, .int (nI t433)), (5, .int (nI v5_6_24)), (0, .ref b), (1, .ref s), (2, .int er), (3, .ref o)]) h dX2_hearWalk_49 (by decide) rfl ?_
        refine j_iinc (v := nI (v5_6_24 + 1)) (lv' := [(5, .int (nI (v5_6_24 + 1))), (4, .int (nI q442)), (6, .int (nI t433)), (0, .ref b), (1, .ref s), (2, .int er), (3, .ref o)]) h dX2_hearWalk_51 2 rfl (nI_add v5_6_24 1) (by decide) rfl ?_
        refine j_goto h 6 dX2_hearWalk_54 (by decide) ?_
        refine jm_sub [0, 1, 2, 4, 3, 5, 6] (w' := [(b, .inl (.inr (2, [.ref b0, .ref b1, .int (nI bsz), .int (nI btm), .int (nI bft), .int bkp]))), (b0, .inl (.inl (kA 1, 60, .inl brow))), (b1, .inl (.inl (kA 1, 6, .inl blo))), (s, .inl (.inr (5, [.ref s0, .ref s1, .ref s2, .ref s3, .ref s4, .ref s5, .ref s6, .ref s7, .ref s8, .ref s9, .ref s10, .ref s11, .int (nI sn), .int (nI sl), .int (nI se)]))), (s1, .inl (.inl (kA 1, 6, .inl sc1))), (s10, .inl (.inl (kA 1, 4, .inl sc10))), (o, .inl (.inl (kA 1, 60, .inl q443)))]) rfl (by decide +kernel) [0, 1, 3, 4, 5, 6] (lv' := [(5, .int (nI (v5_6_24 + 1))), (4, .int (nI q442)), (0, .ref b), (1, .ref s), (2, .int er), (3, .ref o)]) rfl ?_
        exact ih6_24 (v5_6_24 + 1) q442 q443 (show q442 ≤ 60 by first | assumption | omega) (show (v5_6_24 + 1) ≤ 100000 by first | assumption | omega) (show q442 ≤ 100000 by first | assumption | omega) (show 100001 - (v5_6_24 + 1) < m6_24 from Nat.lt_of_lt_of_le (Nat.sub_lt_sub_left (Nat.lt_of_le_of_lt (show v5_6_24 ≤ 100000 by first | assumption | omega) (Nat.lt_succ_self 100000)) (Nat.lt_succ_self v5_6_24)) (Nat.le_of_lt_succ hm6_24))
  refine jm_sub [0, 1, 2, 3, 4, 5, 6] (w' := [(b, .inl (.inr (2, [.ref b0, .ref b1, .int (nI bsz), .int (nI btm), .int (nI bft), .int bkp]))), (b0, .inl (.inl (kA 1, 60, .inl brow))), (b1, .inl (.inl (kA 1, 6, .inl blo))), (s, .inl (.inr (5, [.ref s0, .ref s1, .ref s2, .ref s3, .ref s4, .ref s5, .ref s6, .ref s7, .ref s8, .ref s9, .ref s10, .ref s11, .int (nI sn), .int (nI sl), .int (nI se)]))), (s1, .inl (.inl (kA 1, 6, .inl sc1))), (s10, .inl (.inl (kA 1, 4, .inl sc10))), (o, .inl (.inl (kA 1, 60, .inl of)))]) rfl (by decide +kernel) [0, 1, 2, 3, 4, 5] (lv' := [(5, .int 0), (4, .int 0), (0, .ref b), (1, .ref s), (2, .int er), (3, .ref o)]) rfl ?_
  exact lp6_24 (100001 - 0 + 1) 0 0 of (show 0 ≤ 60 by first | assumption | omega) (show 0 ≤ 100000 by first | assumption | omega) (show 0 ≤ 100000 by first | assumption | omega) (Nat.lt_succ_self _)
set_option maxHeartbeats 4000000 in
set_option maxRecDepth 100000 in
theorem s_X2_takenBy (lau : Launch) (gg : va_G) (kA : Nat → ClassId) (b : Nat) (s : Nat) (wh : Int32) (b0 : Nat) (b1 : Nat) (bsz : Nat) (btm : Nat) (bft : Nat) (bkp : Int32) (brow : Nat → Int32) (s0 : Nat) (s1 : Nat) (s2 : Nat) (s3 : Nat) (s4 : Nat) (s5 : Nat) (s6 : Nat) (s7 : Nat) (s8 : Nat) (s9 : Nat) (s10 : Nat) (s11 : Nat) (sn : Nat) (sl : Nat) (se : Nat) (sc1 : Nat → Int32) (sc3 : Nat → Int32) (hsn : sn ≤ 6) (hsl : sl ≤ 10) (hse : se ≤ 4) (hstk : TkOk sn sc1) (hbsz : bsz ≤ 60) (hbtm : btm ≤ 60) (hbft : bft ≤ 1) (hbro : RoOk sn bsz brow) : CtI lau yX2_takenBy cX2_takenBy 7 (some .int) 1 0 0 gg kA [.ref b, .ref s, .int wh] (mflat [(b, .inl (.inr (2, [.ref b0, .ref b1, .int (nI bsz), .int (nI btm), .int (nI bft), .int bkp]))), (b0, .inl (.inl (kA 1, 60, .inl brow))), (s, .inl (.inr (5, [.ref s0, .ref s1, .ref s2, .ref s3, .ref s4, .ref s5, .ref s6, .ref s7, .ref s8, .ref s9, .ref s10, .ref s11, .int (nI sn), .int (nI sl), .int (nI se)]))), (s1, .inl (.inl (kA 1, 6, .inl sc1))), (s3, .inl (.inl (kA 1, 6, .inl sc3)))]) (S := Unit) (fun (r : Int32) (_ : Unit) => True) (fun (_ : Unit) => mflat [(b, .inl (.inr (2, [.ref b0, .ref b1, .int (nI bsz), .int (nI btm), .int (nI bft), .int bkp]))), (b0, .inl (.inl (kA 1, 60, .inl brow))), (s, .inl (.inr (5, [.ref s0, .ref s1, .ref s2, .ref s3, .ref s4, .ref s5, .ref s6, .ref s7, .ref s8, .ref s9, .ref s10, .ref s11, .int (nI sn), .int (nI sl), .int (nI se)]))), (s1, .inl (.inl (kA 1, 6, .inl sc1))), (s3, .inl (.inl (kA 1, 6, .inl sc3)))]) := by
  refine nx_startI (by decide +kernel) (Nat.le_of_ble_eq_true rfl) ?_
  intro x hnm h hq
  have h : Ok x cX2_takenBy RX2 kA (rmC 1 0 0) 7 := h
  show J x (mflat [(b, .inl (.inr (2, [.ref b0, .ref b1, .int (nI bsz), .int (nI btm), .int (nI bft), .int bkp]))), (b0, .inl (.inl (kA 1, 60, .inl brow))), (s, .inl (.inr (5, [.ref s0, .ref s1, .ref s2, .ref s3, .ref s4, .ref s5, .ref s6, .ref s7, .ref s8, .ref s9, .ref s10, .ref s11, .int (nI sn), .int (nI sl), .int (nI se)]))), (s1, .inl (.inl (kA 1, 6, .inl sc1))), (s3, .inl (.inl (kA 1, 6, .inl sc3)))]) [(0, .ref b), (1, .ref s), (2, .int wh)] 0 0 0 []
  refine j_iconst (v := 0) h (by decide) dX2_takenBy_0 ?_
  refine j_istore_n (lv' := [(3, .int 0), (0, .ref b), (1, .ref s), (2, .int wh)]) h dX2_takenBy_1 rfl (by decide) rfl ?_
  refine j_iconst (v := 0) h (by decide) dX2_takenBy_2 ?_
  refine j_istore (lv' := [(4, .int 0), (3, .int 0), (0, .ref b), (1, .ref s), (2, .int wh)]) h dX2_takenBy_3 (by decide) rfl ?_
  refine j_iconst (v := 0) h (by decide) dX2_takenBy_5 ?_
  refine j_istore (lv' := [(5, .int 0), (4, .int 0), (3, .int 0), (0, .ref b), (1, .ref s), (2, .int wh)]) h dX2_takenBy_6 (by decide) rfl ?_
  have lp8_30 : ∀ (m8_30 : Nat), ∀ (v5_8_30 : Nat) (v4_8_30 : Int32) (v3_8_30 : Int32), (v5_8_30 ≤ 100000) → 100001 - v5_8_30 < m8_30 → J x (mflat [(b, .inl (.inr (2, [.ref b0, .ref b1, .int (nI bsz), .int (nI btm), .int (nI bft), .int bkp]))), (b0, .inl (.inl (kA 1, 60, .inl brow))), (s, .inl (.inr (5, [.ref s0, .ref s1, .ref s2, .ref s3, .ref s4, .ref s5, .ref s6, .ref s7, .ref s8, .ref s9, .ref s10, .ref s11, .int (nI sn), .int (nI sl), .int (nI se)]))), (s1, .inl (.inl (kA 1, 6, .inl sc1))), (s3, .inl (.inl (kA 1, 6, .inl sc3)))]) [(5, .int (nI v5_8_30)), (4, .int v4_8_30), (3, .int v3_8_30), (0, .ref b), (1, .ref s), (2, .int wh)] 0 0 8 [] := by
    intro m8_30
    induction m8_30 with
    | zero =>
      intro v5_8_30 v4_8_30 v3_8_30 i8_30_0 hm8_30
      exact absurd hm8_30 (Nat.not_lt_zero _)
    | succ m8_30 ih8_30 =>
      intro v5_8_30 v4_8_30 v3_8_30 i8_30_0 hm8_30
      refine j_iload h 0 rfl dX2_takenBy_8 ?_
      refine j_aload_n h 3 rfl rfl dX2_takenBy_10 ?_
      refine jm_get h iw_X2 0 rfl rfl 2 (by decide +kernel) tw_274 rfl dX2_takenBy_11 ?_
      refine j_icmp_ge h 69 dX2_takenBy_14 (by decide) (fun z499 => ?_) (fun z499 => ?_)
      · have z499n : bsz ≤ v5_8_30 := (nI_leI (a := bsz) (b := v5_8_30) (by omega) (by omega)).mp z499
        refine j_iload_n h 2 rfl rfl dX2_takenBy_69 ?_
        exact jm_iret h hq dX2_takenBy_70 () [0, 1, 2, 3, 4] rfl (by decide) trivial (Nat.le_of_ble_eq_true rfl) (Nat.le_of_ble_eq_true rfl)
      · have z499n : ¬ bsz ≤ v5_8_30 := fun q9 => z499 ((nI_leI (a := bsz) (b := v5_8_30) (by omega) (by omega)).mpr q9)
        refine j_aload_n h 3 rfl rfl dX2_takenBy_17 ?_
        refine jm_get h iw_X2 0 rfl rfl 0 (by decide +kernel) tw_271 rfl dX2_takenBy_18 ?_
        refine j_iload h 0 rfl dX2_takenBy_21 ?_
        refine jm_iald h 1 rfl v5_8_30 rfl (by omega) (by omega) dX2_takenBy_23 ?_
        obtain ⟨t500, u501, u502⟩ := (show RoOk sn bsz brow by assumption) v5_8_30 (by omega)
        refine j_top (b := nI t500) (u502) ?_
        refine j_istore (lv' := [(6, .int (nI t500)), (5, .int (nI v5_8_30)), (4, .int v4_8_30), (3, .int v3_8_30), (0, .ref b), (1, .ref s), (2, .int wh)]) h dX2_takenBy_24 (by decide) rfl ?_
        refine j_aload_n h 5 rfl rfl dX2_takenBy_26 ?_
        refine jm_get h iw_X5 2 rfl rfl 3 (by decide +kernel) tw_188 rfl dX2_takenBy_27 ?_
        refine j_iload h 0 rfl dX2_takenBy_30 ?_
        refine jm_iald h 4 rfl t500 rfl (by omega) (by omega) dX2_takenBy_32 ?_
        refine j_iconst (v := 3) h (by decide) dX2_takenBy_33 ?_
        refine j_icmp_eq h 63 dX2_takenBy_34 (by decide) (fun z503 => ?_) (fun z503 => ?_)
        · show J x (mflat [(b, .inl (.inr (2, [.ref b0, .ref b1, .int (nI bsz), .int (nI btm), .int (nI bft), .int bkp]))), (b0, .inl (.inl (kA 1, 60, .inl brow))), (s, .inl (.inr (5, [.ref s0, .ref s1, .ref s2, .ref s3, .ref s4, .ref s5, .ref s6, .ref s7, .ref s8, .ref s9, .ref s10, .ref s11, .int (nI sn), .int (nI sl), .int (nI se)]))), (s1, .inl (.inl (kA 1, 6, .inl sc1))), (s3, .inl (.inl (kA 1, 6, .inl sc3)))]) [(6, .int (nI t500)), (5, .int (nI v5_8_30)), (4, .int v4_8_30), (3, .int v3_8_30), (0, .ref b), (1, .ref s), (2, .int wh)] 0 0 63 []
          refine j_iinc (v := nI (v5_8_30 + 1)) (lv' := [(5, .int (nI (v5_8_30 + 1))), (6, .int (nI t500)), (4, .int v4_8_30), (3, .int v3_8_30), (0, .ref b), (1, .ref s), (2, .int wh)]) h dX2_takenBy_63 1 rfl (nI_add v5_8_30 1) (by decide) rfl ?_
          refine j_goto h 8 dX2_takenBy_66 (by decide) ?_
          refine jm_sub [0, 1, 2, 3, 4] (w' := [(b, .inl (.inr (2, [.ref b0, .ref b1, .int (nI bsz), .int (nI btm), .int (nI bft), .int bkp]))), (b0, .inl (.inl (kA 1, 60, .inl brow))), (s, .inl (.inr (5, [.ref s0, .ref s1, .ref s2, .ref s3, .ref s4, .ref s5, .ref s6, .ref s7, .ref s8, .ref s9, .ref s10, .ref s11, .int (nI sn), .int (nI sl), .int (nI se)]))), (s1, .inl (.inl (kA 1, 6, .inl sc1))), (s3, .inl (.inl (kA 1, 6, .inl sc3)))]) rfl (by decide +kernel) [0, 2, 3, 4, 5, 6] (lv' := [(5, .int (nI (v5_8_30 + 1))), (4, .int v4_8_30), (3, .int v3_8_30), (0, .ref b), (1, .ref s), (2, .int wh)]) rfl ?_
          exact ih8_30 (v5_8_30 + 1) v4_8_30 v3_8_30 (show (v5_8_30 + 1) ≤ 100000 by first | assumption | omega) (show 100001 - (v5_8_30 + 1) < m8_30 from Nat.lt_of_lt_of_le (Nat.sub_lt_sub_left (Nat.lt_of_le_of_lt (show v5_8_30 ≤ 100000 by first | assumption | omega) (Nat.lt_succ_self 100000)) (Nat.lt_succ_self v5_8_30)) (Nat.le_of_lt_succ hm8_30))
        · show J x (mflat [(b, .inl (.inr (2, [.ref b0, .ref b1, .int (nI bsz), .int (nI btm), .int (nI bft), .int bkp]))), (b0, .inl (.inl (kA 1, 60, .inl brow))), (s, .inl (.inr (5, [.ref s0, .ref s1, .ref s2, .ref s3, .ref s4, .ref s5, .ref s6, .ref s7, .ref s8, .ref s9, .ref s10, .ref s11, .int (nI sn), .int (nI sl), .int (nI se)]))), (s1, .inl (.inl (kA 1, 6, .inl sc1))), (s3, .inl (.inl (kA 1, 6, .inl sc3)))]) [(6, .int (nI t500)), (5, .int (nI v5_8_30)), (4, .int v4_8_30), (3, .int v3_8_30), (0, .ref b), (1, .ref s), (2, .int wh)] 0 0 37 []
          refine j_iload_n h 3 rfl rfl dX2_takenBy_37 ?_
          refine j_iload h 2 rfl dX2_takenBy_38 ?_
          refine j_iload_n h 6 rfl rfl dX2_takenBy_40 ?_
          refine j_icmp_ne h 54 dX2_takenBy_41 (by decide) (fun z504 => ?_) (fun z504 => ?_)
          · show J x (mflat [(b, .inl (.inr (2, [.ref b0, .ref b1, .int (nI bsz), .int (nI btm), .int (nI bft), .int bkp]))), (b0, .inl (.inl (kA 1, 60, .inl brow))), (s, .inl (.inr (5, [.ref s0, .ref s1, .ref s2, .ref s3, .ref s4, .ref s5, .ref s6, .ref s7, .ref s8, .ref s9, .ref s10, .ref s11, .int (nI sn), .int (nI sl), .int (nI se)]))), (s1, .inl (.inl (kA 1, 6, .inl sc1))), (s3, .inl (.inl (kA 1, 6, .inl sc3)))]) [(6, .int (nI t500)), (5, .int (nI v5_8_30)), (4, .int v4_8_30), (3, .int v3_8_30), (0, .ref b), (1, .ref s), (2, .int wh)] 0 0 54 [.int v3_8_30]
            refine j_iconst (v := 0) h (by decide) dX2_takenBy_54 ?_
            refine j_iadd h dX2_takenBy_55 ?_
            refine j_istore_n (lv' := [(3, .int (v3_8_30 + 0)), (6, .int (nI t500)), (5, .int (nI v5_8_30)), (4, .int v4_8_30), (0, .ref b), (1, .ref s), (2, .int wh)]) h dX2_takenBy_56 rfl (by decide) rfl ?_
            refine j_iconst (v := 1) h (by decide) dX2_takenBy_57 ?_
            refine j_iload h 3 rfl dX2_takenBy_58 ?_
            refine j_isub h dX2_takenBy_60 ?_
            refine j_istore (lv' := [(4, .int (1 - v4_8_30)), (3, .int (v3_8_30 + 0)), (6, .int (nI t500)), (5, .int (nI v5_8_30)), (0, .ref b), (1, .ref s), (2, .int wh)]) h dX2_takenBy_61 (by decide) rfl ?_
            refine j_iinc (v := nI (v5_8_30 + 1)) (lv' := [(5, .int (nI (v5_8_30 + 1))), (4, .int (1 - v4_8_30)), (3, .int (v3_8_30 + 0)), (6, .int (nI t500)), (0, .ref b), (1, .ref s), (2, .int wh)]) h dX2_takenBy_63 3 rfl (nI_add v5_8_30 1) (by decide) rfl ?_
            refine j_goto h 8 dX2_takenBy_66 (by decide) ?_
            refine jm_sub [0, 1, 2, 3, 4] (w' := [(b, .inl (.inr (2, [.ref b0, .ref b1, .int (nI bsz), .int (nI btm), .int (nI bft), .int bkp]))), (b0, .inl (.inl (kA 1, 60, .inl brow))), (s, .inl (.inr (5, [.ref s0, .ref s1, .ref s2, .ref s3, .ref s4, .ref s5, .ref s6, .ref s7, .ref s8, .ref s9, .ref s10, .ref s11, .int (nI sn), .int (nI sl), .int (nI se)]))), (s1, .inl (.inl (kA 1, 6, .inl sc1))), (s3, .inl (.inl (kA 1, 6, .inl sc3)))]) rfl (by decide +kernel) [0, 1, 2, 4, 5, 6] (lv' := [(5, .int (nI (v5_8_30 + 1))), (4, .int (1 - v4_8_30)), (3, .int (v3_8_30 + 0)), (0, .ref b), (1, .ref s), (2, .int wh)]) rfl ?_
            exact ih8_30 (v5_8_30 + 1) (1 - v4_8_30) (v3_8_30 + 0) (show (v5_8_30 + 1) ≤ 100000 by first | assumption | omega) (show 100001 - (v5_8_30 + 1) < m8_30 from Nat.lt_of_lt_of_le (Nat.sub_lt_sub_left (Nat.lt_of_le_of_lt (show v5_8_30 ≤ 100000 by first | assumption | omega) (Nat.lt_succ_self 100000)) (Nat.lt_succ_self v5_8_30)) (Nat.le_of_lt_succ hm8_30))
          · show J x (mflat [(b, .inl (.inr (2, [.ref b0, .ref b1, .int (nI bsz), .int (nI btm), .int (nI bft), .int bkp]))), (b0, .inl (.inl (kA 1, 60, .inl brow))), (s, .inl (.inr (5, [.ref s0, .ref s1, .ref s2, .ref s3, .ref s4, .ref s5, .ref s6, .ref s7, .ref s8, .ref s9, .ref s10, .ref s11, .int (nI sn), .int (nI sl), .int (nI se)]))), (s1, .inl (.inl (kA 1, 6, .inl sc1))), (s3, .inl (.inl (kA 1, 6, .inl sc3)))]) [(6, .int (nI t500)), (5, .int (nI v5_8_30)), (4, .int v4_8_30), (3, .int v3_8_30), (0, .ref b), (1, .ref s), (2, .int wh)] 0 0 44 [.int v3_8_30]
            refine j_aload_n h 5 rfl rfl dX2_takenBy_44 ?_
            refine jm_get h iw_X5 2 rfl rfl 1 (by decide +kernel) tw_180 rfl dX2_takenBy_45 ?_
            refine j_iload h 0 rfl dX2_takenBy_48 ?_
            refine jm_iald h 3 rfl t500 rfl (by omega) (by omega) dX2_takenBy_50 ?_
            obtain ⟨t505, u506, u507, u508⟩ := (show TkOk sn sc1 by assumption) t500 (by omega)
            refine j_top (b := nI t505) (u508) ?_
            refine j_goto h 55 dX2_takenBy_51 (by decide) ?_
            refine j_iadd h dX2_takenBy_55 ?_
            refine j_istore_n (lv' := [(3, .int (v3_8_30 + (nI t505))), (6, .int (nI t500)), (5, .int (nI v5_8_30)), (4, .int v4_8_30), (0, .ref b), (1, .ref s), (2, .int wh)]) h dX2_takenBy_56 rfl (by decide) rfl ?_
            refine j_iconst (v := 1) h (by decide) dX2_takenBy_57 ?_
            refine j_iload h 3 rfl dX2_takenBy_58 ?_
            refine j_isub h dX2_takenBy_60 ?_
            refine j_istore (lv' := [(4, .int (1 - v4_8_30)), (3, .int (v3_8_30 + (nI t505))), (6, .int (nI t500)), (5, .int (nI v5_8_30)), (0, .ref b), (1, .ref s), (2, .int wh)]) h dX2_takenBy_61 (by decide) rfl ?_
            refine j_iinc (v := nI (v5_8_30 + 1)) (lv' := [(5, .int (nI (v5_8_30 + 1))), (4, .int (1 - v4_8_30)), (3, .int (v3_8_30 + (nI t505))), (6, .int (nI t500)), (0, .ref b), (1, .ref s), (2, .int wh)]) h dX2_takenBy_63 3 rfl (nI_add v5_8_30 1) (by decide) rfl ?_
            refine j_goto h 8 dX2_takenBy_66 (by decide) ?_
            refine jm_sub [0, 1, 2, 3, 4] (w' := [(b, .inl (.inr (2, [.ref b0, .ref b1, .int (nI bsz), .int (nI btm), .int (nI bft), .int bkp]))), (b0, .inl (.inl (kA 1, 60, .inl brow))), (s, .inl (.inr (5, [.ref s0, .ref s1, .ref s2, .ref s3, .ref s4, .ref s5, .ref s6, .ref s7, .ref s8, .ref s9, .ref s10, .ref s11, .int (nI sn), .int (nI sl), .int (nI se)]))), (s1, .inl (.inl (kA 1, 6, .inl sc1))), (s3, .inl (.inl (kA 1, 6, .inl sc3)))]) rfl (by decide +kernel) [0, 1, 2, 4, 5, 6] (lv' := [(5, .int (nI (v5_8_30 + 1))), (4, .int (1 - v4_8_30)), (3, .int (v3_8_30 + (nI t505))), (0, .ref b), (1, .ref s), (2, .int wh)]) rfl ?_
            exact ih8_30 (v5_8_30 + 1) (1 - v4_8_30) (v3_8_30 + (nI t505)) (show (v5_8_30 + 1) ≤ 100000 by first | assumption | omega) (show 100001 - (v5_8_30 + 1) < m8_30 from Nat.lt_of_lt_of_le (Nat.sub_lt_sub_left (Nat.lt_of_le_of_lt (show v5_8_30 ≤ 100000 by first | assumption | omega) (Nat.lt_succ_self 100000)) (Nat.lt_succ_self v5_8_30)) (Nat.le_of_lt_succ hm8_30))
  refine jm_sub [0, 1, 2, 3, 4] (w' := [(b, .inl (.inr (2, [.ref b0, .ref b1, .int (nI bsz), .int (nI btm), .int (nI bft), .int bkp]))), (b0, .inl (.inl (kA 1, 60, .inl brow))), (s, .inl (.inr (5, [.ref s0, .ref s1, .ref s2, .ref s3, .ref s4, .ref s5, .ref s6, .ref s7, .ref s8, .ref s9, .ref s10, .ref s11, .int (nI sn), .int (nI sl), .int (nI se)]))), (s1, .inl (.inl (kA 1, 6, .inl sc1))), (s3, .inl (.inl (kA 1, 6, .inl sc3)))]) rfl (by decide +kernel) [0, 1, 2, 3, 4, 5] (lv' := [(5, .int 0), (4, .int 0), (3, .int 0), (0, .ref b), (1, .ref s), (2, .int wh)]) rfl ?_
  exact lp8_30 (100001 - 0 + 1) 0 0 0 (show 0 ≤ 100000 by first | assumption | omega) (Nat.lt_succ_self _)
set_option maxHeartbeats 4000000 in
set_option maxRecDepth 100000 in
theorem s_X2_begin (lau : Launch) (gg : va_G) (kA : Nat → ClassId) (b : Nat) (s : Nat) (b0 : Nat) (b1 : Nat) (bsz : Int32) (btm : Int32) (bft : Int32) (bkp : Int32) (blo : Nat → Int32) (s0 : Nat) (s1 : Nat) (s2 : Nat) (s3 : Nat) (s4 : Nat) (s5 : Nat) (s6 : Nat) (s7 : Nat) (s8 : Nat) (s9 : Nat) (s10 : Nat) (s11 : Nat) (sn : Nat) (sl : Nat) (se : Nat) (sc2 : Nat → Int32) (hsn : sn ≤ 6) (hsl : sl ≤ 10) (hse : se ≤ 4) : CtV lau yX2_begin cX2_begin 2 (none) 2 0 0 gg kA [.ref b, .ref s] (mflat [(b, .inl (.inr (2, [.ref b0, .ref b1, .int bsz, .int btm, .int bft, .int bkp]))), (b1, .inl (.inl (kA 1, 6, .inl blo))), (s, .inl (.inr (5, [.ref s0, .ref s1, .ref s2, .ref s3, .ref s4, .ref s5, .ref s6, .ref s7, .ref s8, .ref s9, .ref s10, .ref s11, .int (nI sn), .int (nI sl), .int (nI se)]))), (s2, .inl (.inl (kA 1, 6, .inl sc2)))]) (S := (Nat → Int32)) (fun (y_b1 : (Nat → Int32)) => True) (fun (y_b1 : (Nat → Int32)) => mflat [(b, .inl (.inr (2, [.ref b0, .ref b1, .int 0, .int 0, .int 0, .int bkp]))), (b1, .inl (.inl (kA 1, 6, .inl y_b1))), (s, .inl (.inr (5, [.ref s0, .ref s1, .ref s2, .ref s3, .ref s4, .ref s5, .ref s6, .ref s7, .ref s8, .ref s9, .ref s10, .ref s11, .int (nI sn), .int (nI sl), .int (nI se)]))), (s2, .inl (.inl (kA 1, 6, .inl sc2)))]) := by
  refine nx_startV (by decide +kernel) (Nat.le_of_ble_eq_true rfl) ?_
  intro x hnm h hq
  have h : Ok x cX2_begin RX2 kA (rmC 2 0 0) 2 := h
  show J x (mflat [(b, .inl (.inr (2, [.ref b0, .ref b1, .int bsz, .int btm, .int bft, .int bkp]))), (b1, .inl (.inl (kA 1, 6, .inl blo))), (s, .inl (.inr (5, [.ref s0, .ref s1, .ref s2, .ref s3, .ref s4, .ref s5, .ref s6, .ref s7, .ref s8, .ref s9, .ref s10, .ref s11, .int (nI sn), .int (nI sl), .int (nI se)]))), (s2, .inl (.inl (kA 1, 6, .inl sc2)))]) [(0, .ref b), (1, .ref s)] 0 0 0 []
  refine j_aload_n h 0 rfl rfl dX2_begin_0 ?_
  refine jm_callVv (np := 0) (isC := [0]) (isR := [1, 2, 3]) (wc := [(b, .inl (.inr (2, [.ref b0, .ref b1, .int bsz, .int btm, .int bft, .int bkp])))]) (wr := [(b1, .inl (.inl (kA 1, 6, .inl blo))), (s, .inl (.inr (5, [.ref s0, .ref s1, .ref s2, .ref s3, .ref s4, .ref s5, .ref s6, .ref s7, .ref s8, .ref s9, .ref s10, .ref s11, .int (nI sn), .int (nI sl), .int (nI se)]))), (s2, .inl (.inl (kA 1, 6, .inl sc2)))]) (rest := []) (As := []) (q0 := 0) h (s_X2_standStill _ _ kA b b0 b1 bsz btm bft bkp ) tw_735 tw_736 tw_737 tw_91 tw_738 (by decide +kernel) rfl ⟨Nat.le_of_ble_eq_true rfl, Nat.le_of_ble_eq_true rfl⟩ rfl rfl (by decide +kernel) rfl rfl (by decide +kernel) (by decide +kernel) (Nat.le_of_ble_eq_true rfl) rfl ⟨Nat.le_of_ble_eq_true rfl, Nat.le_of_ble_eq_true rfl⟩ dX2_begin_1 ?_
  rintro _ e511
  show J x (mflat [(b1, .inl (.inl (kA 1, 6, .inl blo))), (s, .inl (.inr (5, [.ref s0, .ref s1, .ref s2, .ref s3, .ref s4, .ref s5, .ref s6, .ref s7, .ref s8, .ref s9, .ref s10, .ref s11, .int (nI sn), .int (nI sl), .int (nI se)]))), (s2, .inl (.inl (kA 1, 6, .inl sc2))), (b, .inl (.inr (2, [.ref b0, .ref b1, .int 0, .int 0, .int 0, .int bkp])))]) [(0, .ref b), (1, .ref s)] 0 0 4 []
  refine j_aload_n h 1 rfl rfl dX2_begin_4 ?_
  refine jm_get h iw_X5 1 rfl rfl 2 (by decide +kernel) tw_183 rfl dX2_begin_5 ?_
  refine j_iconst (v := 0) h (by decide) dX2_begin_8 ?_
  refine j_aload_n h 0 rfl rfl dX2_begin_9 ?_
  refine jm_get h iw_X2 3 rfl rfl 1 (by decide +kernel) tw_272 rfl dX2_begin_10 ?_
  refine j_iconst (v := 0) h (by decide) dX2_begin_13 ?_
  refine j_bipush (v := 6) h (by decide) dX2_begin_14 ?_
  refine jm_copyi (w' := [(b1, .inl (.inl (kA 1, 6, .inl (va_cpy sc2 blo 0 0 6)))), (s, .inl (.inr (5, [.ref s0, .ref s1, .ref s2, .ref s3, .ref s4, .ref s5, .ref s6, .ref s7, .ref s8, .ref s9, .ref s10, .ref s11, .int (nI sn), .int (nI sl), .int (nI se)]))), (s2, .inl (.inl (kA 1, 6, .inl sc2))), (b, .inl (.inr (2, [.ref b0, .ref b1, .int 0, .int 0, .int 0, .int bkp])))]) h tw_739 tw_741 tw_740 tw_104 2 0 rfl rfl 0 0 6 (by decide +kernel) (by decide +kernel) (by decide +kernel) (by decide +kernel) (by decide +kernel) (by decide +kernel) (by decide +kernel) (Nat.le_of_ble_eq_true rfl) (Nat.le_of_ble_eq_true rfl) (Nat.le_of_ble_eq_true rfl) dX2_begin_16 rfl ?_
  exact jm_vret h hq dX2_begin_19 (va_cpy sc2 blo 0 0 6) [3, 0, 1, 2] rfl (by decide) trivial (Nat.le_of_ble_eq_true rfl) (Nat.le_of_ble_eq_true rfl)
set_option maxHeartbeats 4000000 in
set_option maxRecDepth 100000 in
theorem s_X2_copyFrom (lau : Launch) (gg : va_G) (kA : Nat → ClassId) (b : Nat) (o : Nat) (b0 : Nat) (b1 : Nat) (bsz : Int32) (btm : Int32) (bft : Int32) (bkp : Int32) (brow : Nat → Int32) (blo : Nat → Int32) (o0 : Nat) (o1 : Nat) (osz : Nat) (otm : Nat) (oft : Nat) (okp : Int32) (orow : Nat → Int32) (olo : Nat → Int32) (n : Nat) (hosz : osz ≤ 60) (hotm : otm ≤ 60) (hoft : oft ≤ 1) (horo : RoOk n osz orow) : CtV lau yX2_copyFrom cX2_copyFrom 2 (none) 1 0 0 gg kA [.ref b, .ref o] (mflat [(b, .inl (.inr (2, [.ref b0, .ref b1, .int bsz, .int btm, .int bft, .int bkp]))), (b0, .inl (.inl (kA 1, 60, .inl brow))), (b1, .inl (.inl (kA 1, 6, .inl blo))), (o, .inl (.inr (2, [.ref o0, .ref o1, .int (nI osz), .int (nI otm), .int (nI oft), .int okp]))), (o0, .inl (.inl (kA 1, 60, .inl orow))), (o1, .inl (.inl (kA 1, 6, .inl olo)))]) (S := (Nat → Int32) × (Nat → Int32)) (fun ((y_b0, y_b1) : (Nat → Int32) × (Nat → Int32)) => RoOk n osz y_b0) (fun ((y_b0, y_b1) : (Nat → Int32) × (Nat → Int32)) => mflat [(b, .inl (.inr (2, [.ref b0, .ref b1, .int (nI osz), .int (nI otm), .int (nI oft), .int bkp]))), (b0, .inl (.inl (kA 1, 60, .inl y_b0))), (b1, .inl (.inl (kA 1, 6, .inl y_b1))), (o, .inl (.inr (2, [.ref o0, .ref o1, .int (nI osz), .int (nI otm), .int (nI oft), .int okp]))), (o0, .inl (.inl (kA 1, 60, .inl orow))), (o1, .inl (.inl (kA 1, 6, .inl olo)))]) := by
  refine nx_startV (by decide +kernel) (Nat.le_of_ble_eq_true rfl) ?_
  intro x hnm h hq
  have h : Ok x cX2_copyFrom RX2 kA (rmC 1 0 0) 2 := h
  show J x (mflat [(b, .inl (.inr (2, [.ref b0, .ref b1, .int bsz, .int btm, .int bft, .int bkp]))), (b0, .inl (.inl (kA 1, 60, .inl brow))), (b1, .inl (.inl (kA 1, 6, .inl blo))), (o, .inl (.inr (2, [.ref o0, .ref o1, .int (nI osz), .int (nI otm), .int (nI oft), .int okp]))), (o0, .inl (.inl (kA 1, 60, .inl orow))), (o1, .inl (.inl (kA 1, 6, .inl olo)))]) [(0, .ref b), (1, .ref o)] 0 0 0 []
  refine j_aload_n h 1 rfl rfl dX2_copyFrom_0 ?_
  refine jm_get h iw_X2 3 rfl rfl 0 (by decide +kernel) tw_271 rfl dX2_copyFrom_1 ?_
  refine j_iconst (v := 0) h (by decide) dX2_copyFrom_4 ?_
  refine j_aload_n h 0 rfl rfl dX2_copyFrom_5 ?_
  refine jm_get h iw_X2 0 rfl rfl 0 (by decide +kernel) tw_271 rfl dX2_copyFrom_6 ?_
  refine j_iconst (v := 0) h (by decide) dX2_copyFrom_9 ?_
  refine j_bipush (v := 60) h (by decide) dX2_copyFrom_10 ?_
  refine jm_copyi (w' := [(b, .inl (.inr (2, [.ref b0, .ref b1, .int bsz, .int btm, .int bft, .int bkp]))), (b0, .inl (.inl (kA 1, 60, .inl (va_cpy orow brow 0 0 60)))), (b1, .inl (.inl (kA 1, 6, .inl blo))), (o, .inl (.inr (2, [.ref o0, .ref o1, .int (nI osz), .int (nI otm), .int (nI oft), .int okp]))), (o0, .inl (.inl (kA 1, 60, .inl orow))), (o1, .inl (.inl (kA 1, 6, .inl olo)))]) h tw_739 tw_741 tw_740 tw_104 4 1 rfl rfl 0 0 60 (by decide +kernel) (by decide +kernel) (by decide +kernel) (by decide +kernel) (by decide +kernel) (by decide +kernel) (by decide +kernel) (Nat.le_of_ble_eq_true rfl) (Nat.le_of_ble_eq_true rfl) (Nat.le_of_ble_eq_true rfl) dX2_copyFrom_12 rfl ?_
  refine j_aload_n h 1 rfl rfl dX2_copyFrom_15 ?_
  refine jm_get h iw_X2 3 rfl rfl 1 (by decide +kernel) tw_272 rfl dX2_copyFrom_16 ?_
  refine j_iconst (v := 0) h (by decide) dX2_copyFrom_19 ?_
  refine j_aload_n h 0 rfl rfl dX2_copyFrom_20 ?_
  refine jm_get h iw_X2 0 rfl rfl 1 (by decide +kernel) tw_272 rfl dX2_copyFrom_21 ?_
  refine j_iconst (v := 0) h (by decide) dX2_copyFrom_24 ?_
  refine j_bipush (v := 6) h (by decide) dX2_copyFrom_25 ?_
  refine jm_copyi (w' := [(b, .inl (.inr (2, [.ref b0, .ref b1, .int bsz, .int btm, .int bft, .int bkp]))), (b0, .inl (.inl (kA 1, 60, .inl (va_cpy orow brow 0 0 60)))), (b1, .inl (.inl (kA 1, 6, .inl (va_cpy olo blo 0 0 6)))), (o, .inl (.inr (2, [.ref o0, .ref o1, .int (nI osz), .int (nI otm), .int (nI oft), .int okp]))), (o0, .inl (.inl (kA 1, 60, .inl orow))), (o1, .inl (.inl (kA 1, 6, .inl olo)))]) h tw_739 tw_741 tw_740 tw_104 5 2 rfl rfl 0 0 6 (by decide +kernel) (by decide +kernel) (by decide +kernel) (by decide +kernel) (by decide +kernel) (by decide +kernel) (by decide +kernel) (Nat.le_of_ble_eq_true rfl) (Nat.le_of_ble_eq_true rfl) (Nat.le_of_ble_eq_true rfl) dX2_copyFrom_27 rfl ?_
  refine j_aload_n h 0 rfl rfl dX2_copyFrom_30 ?_
  refine j_aload_n h 1 rfl rfl dX2_copyFrom_31 ?_
  refine jm_get h iw_X2 3 rfl rfl 2 (by decide +kernel) tw_274 rfl dX2_copyFrom_32 ?_
  refine jm_put (w' := [(b, .inl (.inr (2, [.ref b0, .ref b1, .int (nI osz), .int btm, .int bft, .int bkp]))), (b0, .inl (.inl (kA 1, 60, .inl (va_cpy orow brow 0 0 60)))), (b1, .inl (.inl (kA 1, 6, .inl (va_cpy olo blo 0 0 6)))), (o, .inl (.inr (2, [.ref o0, .ref o1, .int (nI osz), .int (nI otm), .int (nI oft), .int okp]))), (o0, .inl (.inl (kA 1, 60, .inl orow))), (o1, .inl (.inl (kA 1, 6, .inl olo)))]) h iw_X2 tyX2 tyX2_ok nmX2 0 rfl rfl 2 (by decide +kernel) tw_274 rfl rfl rfl (Nat.le_of_ble_eq_true rfl) dX2_copyFrom_35 rfl ?_
  refine j_aload_n h 0 rfl rfl dX2_copyFrom_38 ?_
  refine j_aload_n h 1 rfl rfl dX2_copyFrom_39 ?_
  refine jm_get h iw_X2 3 rfl rfl 3 (by decide +kernel) tw_276 rfl dX2_copyFrom_40 ?_
  refine jm_put (w' := [(b, .inl (.inr (2, [.ref b0, .ref b1, .int (nI osz), .int (nI otm), .int bft, .int bkp]))), (b0, .inl (.inl (kA 1, 60, .inl (va_cpy orow brow 0 0 60)))), (b1, .inl (.inl (kA 1, 6, .inl (va_cpy olo blo 0 0 6)))), (o, .inl (.inr (2, [.ref o0, .ref o1, .int (nI osz), .int (nI otm), .int (nI oft), .int okp]))), (o0, .inl (.inl (kA 1, 60, .inl orow))), (o1, .inl (.inl (kA 1, 6, .inl olo)))]) h iw_X2 tyX2 tyX2_ok nmX2 0 rfl rfl 3 (by decide +kernel) tw_276 rfl rfl rfl (Nat.le_of_ble_eq_true rfl) dX2_copyFrom_43 rfl ?_
  refine j_aload_n h 0 rfl rfl dX2_copyFrom_46 ?_
  refine j_aload_n h 1 rfl rfl dX2_copyFrom_47 ?_
  refine jm_get h iw_X2 3 rfl rfl 4 (by decide +kernel) tw_278 rfl dX2_copyFrom_48 ?_
  refine jm_put (w' := [(b, .inl (.inr (2, [.ref b0, .ref b1, .int (nI osz), .int (nI otm), .int (nI oft), .int bkp]))), (b0, .inl (.inl (kA 1, 60, .inl (va_cpy orow brow 0 0 60)))), (b1, .inl (.inl (kA 1, 6, .inl (va_cpy olo blo 0 0 6)))), (o, .inl (.inr (2, [.ref o0, .ref o1, .int (nI osz), .int (nI otm), .int (nI oft), .int okp]))), (o0, .inl (.inl (kA 1, 60, .inl orow))), (o1, .inl (.inl (kA 1, 6, .inl olo)))]) h iw_X2 tyX2 tyX2_ok nmX2 0 rfl rfl 4 (by decide +kernel) tw_278 rfl rfl rfl (Nat.le_of_ble_eq_true rfl) dX2_copyFrom_51 rfl ?_
  exact jm_vret h hq dX2_copyFrom_54 ((va_cpy orow brow 0 0 60), (va_cpy olo blo 0 0 6)) [0, 1, 2, 3, 4, 5] rfl (by decide) (show RoOk n osz (va_cpy orow brow 0 0 60) by first | assumption | exact RoOk_cpy (by assumption) (by omega) | omega) (Nat.le_of_ble_eq_true rfl) (Nat.le_of_ble_eq_true rfl)
set_option maxHeartbeats 4000000 in
set_option maxRecDepth 100000 in
theorem s_X10_clear (lau : Launch) (gg : va_G) (kA : Nat → ClassId) (t : Nat) (t0 : Nat) (tsz : Int32) (ttm : Int32) (tft : Int32)  : CtV lau yX10_clear cX10_clear 1 (none) 1 0 0 gg kA [.ref t] (mflat [(t, .inl (.inr (10, [.ref t0, .int tsz, .int ttm, .int tft])))]) (S := Unit) (fun (_ : Unit) => True) (fun (_ : Unit) => mflat [(t, .inl (.inr (10, [.ref t0, .int 0, .int 0, .int 0])))]) := by
  refine nx_startV (by decide +kernel) (Nat.le_of_ble_eq_true rfl) ?_
  intro x hnm h hq
  have h : Ok x cX10_clear RX10 kA (rmC 1 0 0) 1 := h
  show J x (mflat [(t, .inl (.inr (10, [.ref t0, .int tsz, .int ttm, .int tft])))]) [(0, .ref t)] 0 0 0 []
  refine j_aload_n h 0 rfl rfl dX10_clear_0 ?_
  refine j_iconst (v := 0) h (by decide) dX10_clear_1 ?_
  refine jm_put (w' := [(t, .inl (.inr (10, [.ref t0, .int 0, .int ttm, .int tft])))]) h iw_X10 tyX10 tyX10_ok nmX10 0 rfl rfl 1 (by decide +kernel) tw_305 rfl rfl rfl (Nat.le_of_ble_eq_true rfl) dX10_clear_2 rfl ?_
  refine j_aload_n h 0 rfl rfl dX10_clear_5 ?_
  refine j_iconst (v := 0) h (by decide) dX10_clear_6 ?_
  refine jm_put (w' := [(t, .inl (.inr (10, [.ref t0, .int 0, .int 0, .int tft])))]) h iw_X10 tyX10 tyX10_ok nmX10 0 rfl rfl 2 (by decide +kernel) tw_309 rfl rfl rfl (Nat.le_of_ble_eq_true rfl) dX10_clear_7 rfl ?_
  refine j_aload_n h 0 rfl rfl dX10_clear_10 ?_
  refine j_iconst (v := 0) h (by decide) dX10_clear_11 ?_
  refine jm_put (w' := [(t, .inl (.inr (10, [.ref t0, .int 0, .int 0, .int 0])))]) h iw_X10 tyX10 tyX10_ok nmX10 0 rfl rfl 3 (by decide +kernel) tw_311 rfl rfl rfl (Nat.le_of_ble_eq_true rfl) dX10_clear_12 rfl ?_
  exact jm_vret h hq dX10_clear_15 () [0] rfl (by decide) trivial (Nat.le_of_ble_eq_true rfl) (Nat.le_of_ble_eq_true rfl)
set_option maxHeartbeats 4000000 in
set_option maxRecDepth 100000 in
theorem s_X10_add (lau : Launch) (gg : va_G) (kA : Nat → ClassId) (t : Nat) (s : Nat) (lt : Int32) (t0 : Nat) (tsz : Nat) (ttm : Nat) (tft : Nat) (trow : Nat → Int32) (s0 : Nat) (s1 : Nat) (s2 : Nat) (s3 : Nat) (s4 : Nat) (s5 : Nat) (s6 : Nat) (s7 : Nat) (s8 : Nat) (s9 : Nat) (s10 : Nat) (s11 : Nat) (sn : Nat) (sl : Nat) (se : Nat) (sc7 : Nat → Int32) (sc8 : Nat → Nat → Int32) (hsn : sn ≤ 6) (hsl : sl ≤ 10) (hse : se ≤ 4) (hslt : LtOk sl sc7) (hsla : FtOk sl sc8) (htsz : tsz ≤ 60) (httm : ttm ≤ 60) (htft : tft ≤ 1) (htro : RoOk sl tsz trow) : CtI lau yX10_add cX10_add 4 (some .boolean) 2 0 0 gg kA [.ref t, .ref s, .int lt] (mflat [(t, .inl (.inr (10, [.ref t0, .int (nI tsz), .int (nI ttm), .int (nI tft)]))), (t0, .inl (.inl (kA 1, 60, .inl trow))), (s, .inl (.inr (5, [.ref s0, .ref s1, .ref s2, .ref s3, .ref s4, .ref s5, .ref s6, .ref s7, .ref s8, .ref s9, .ref s10, .ref s11, .int (nI sn), .int (nI sl), .int (nI se)]))), (s7, .inl (.inl (kA 1, 10, .inl sc7))), (s8, .inr (kA 6, kA 1, 10, 2, .inl sc8))]) (S := Nat × Nat × Nat × Nat × (Nat → Int32)) (fun (r : Int32) ((y_r, y_t_1, y_t_2, y_t_3, y_t0) : Nat × Nat × Nat × Nat × (Nat → Int32)) => r = nI y_r ∧ (y_r ≤ 1) ∧ (y_t_1 ≤ 60) ∧ (y_t_2 ≤ 60) ∧ (y_t_3 ≤ 1) ∧ (RoOk sl y_t_1 y_t0)) (fun ((y_r, y_t_1, y_t_2, y_t_3, y_t0) : Nat × Nat × Nat × Nat × (Nat → Int32)) => mflat [(t, .inl (.inr (10, [.ref t0, .int (nI y_t_1), .int (nI y_t_2), .int (nI y_t_3)]))), (t0, .inl (.inl (kA 1, 60, .inl y_t0))), (s, .inl (.inr (5, [.ref s0, .ref s1, .ref s2, .ref s3, .ref s4, .ref s5, .ref s6, .ref s7, .ref s8, .ref s9, .ref s10, .ref s11, .int (nI sn), .int (nI sl), .int (nI se)]))), (s7, .inl (.inl (kA 1, 10, .inl sc7))), (s8, .inr (kA 6, kA 1, 10, 2, .inl sc8))]) := by
  refine nx_startI (by decide +kernel) (Nat.le_of_ble_eq_true rfl) ?_
  intro x hnm h hq
  have h : Ok x cX10_add RX10 kA (rmC 2 0 0) 4 := h
  show J x (mflat [(t, .inl (.inr (10, [.ref t0, .int (nI tsz), .int (nI ttm), .int (nI tft)]))), (t0, .inl (.inl (kA 1, 60, .inl trow))), (s, .inl (.inr (5, [.ref s0, .ref s1, .ref s2, .ref s3, .ref s4, .ref s5, .ref s6, .ref s7, .ref s8, .ref s9, .ref s10, .ref s11, .int (nI sn), .int (nI sl), .int (nI se)]))), (s7, .inl (.inl (kA 1, 10, .inl sc7))), (s8, .inr (kA 6, kA 1, 10, 2, .inl sc8))]) [(0, .ref t), (1, .ref s), (2, .int lt)] 0 0 0 []
  refine j_aload_n h 1 rfl rfl dX10_add_0 ?_
  refine j_iload_n h 2 rfl rfl dX10_add_1 ?_
  refine jm_callVi (np := 1) (isC := [2]) (isR := [0, 1, 3, 4]) (wc := [(s, .inl (.inr (5, [.ref s0, .ref s1, .ref s2, .ref s3, .ref s4, .ref s5, .ref s6, .ref s7, .ref s8, .ref s9, .ref s10, .ref s11, .int (nI sn), .int (nI sl), .int (nI se)])))]) (wr := [(t, .inl (.inr (10, [.ref t0, .int (nI tsz), .int (nI ttm), .int (nI tft)]))), (t0, .inl (.inl (kA 1, 60, .inl trow))), (s7, .inl (.inl (kA 1, 10, .inl sc7))), (s8, .inr (kA 6, kA 1, 10, 2, .inl sc8))]) (rest := []) (As := [.int lt]) (q0 := 0) h (s_X5_hasLetter _ _ kA s lt s0 s1 s2 s3 s4 s5 s6 s7 s8 s9 s10 s11 (nI sn) (nI sl) (nI se) ) tw_951 tw_776 tw_777 tw_90 tw_778 (by decide +kernel) rfl ⟨Nat.le_of_ble_eq_true rfl, Nat.le_of_ble_eq_true rfl⟩ rfl rfl (by decide +kernel) rfl rfl (by decide +kernel) (by decide +kernel) (Nat.le_of_ble_eq_true rfl) rfl ⟨Nat.le_of_ble_eq_true rfl, Nat.le_of_ble_eq_true rfl⟩ dX10_add_2 ?_
  rintro r528 _ e527
  have p529 := e527
  subst p529
  show J x (mflat [(t, .inl (.inr (10, [.ref t0, .int (nI tsz), .int (nI ttm), .int (nI tft)]))), (t0, .inl (.inl (kA 1, 60, .inl trow))), (s7, .inl (.inl (kA 1, 10, .inl sc7))), (s8, .inr (kA 6, kA 1, 10, 2, .inl sc8)), (s, .inl (.inr (5, [.ref s0, .ref s1, .ref s2, .ref s3, .ref s4, .ref s5, .ref s6, .ref s7, .ref s8, .ref s9, .ref s10, .ref s11, .int (nI sn), .int (nI sl), .int (nI se)])))]) [(0, .ref t), (1, .ref s), (2, .int lt)] 0 0 5 [.int (bIx lt (nI sl))]
  rcases bIx_cases lt sl (by omega) with hTj530 | ⟨j530, hj530, rfl, hBj530⟩
  · refine j_top (b := 0) hTj530 ?_
    show J x (mflat [(t, .inl (.inr (10, [.ref t0, .int (nI tsz), .int (nI ttm), .int (nI tft)]))), (t0, .inl (.inl (kA 1, 60, .inl trow))), (s7, .inl (.inl (kA 1, 10, .inl sc7))), (s8, .inr (kA 6, kA 1, 10, 2, .inl sc8)), (s, .inl (.inr (5, [.ref s0, .ref s1, .ref s2, .ref s3, .ref s4, .ref s5, .ref s6, .ref s7, .ref s8, .ref s9, .ref s10, .ref s11, .int (nI sn), .int (nI sl), .int (nI se)])))]) [(0, .ref t), (1, .ref s), (2, .int lt)] 0 0 5 [.int 0]
    refine j_if_eq h 20 dX10_add_5 (by decide) (fun _ => ?_) (fun q => absurd (by decide) q)
    refine j_iconst (v := 0) h (by decide) dX10_add_20 ?_
    exact jm_zret h hq rfl dX10_add_21 (0, tsz, ttm, tft, trow) [0, 1, 4, 2, 3] rfl (by decide) ⟨rfl, (show 0 ≤ 1 by first | assumption | omega), (show tsz ≤ 60 by first | assumption | omega), (show ttm ≤ 60 by first | assumption | omega), (show tft ≤ 1 by first | assumption | omega), (show RoOk sl tsz trow by first | assumption | exact RoOk_step (by assumption) (by omega) | exact RoOk_mono (by assumption) (by omega) | exact RoOk_zero _ _ | omega)⟩ (Nat.le_of_ble_eq_true rfl) (Nat.le_of_ble_eq_true rfl)
  · refine j_top (b := 1) hBj530 ?_
    show J x (mflat [(t, .inl (.inr (10, [.ref t0, .int (nI tsz), .int (nI ttm), .int (nI tft)]))), (t0, .inl (.inl (kA 1, 60, .inl trow))), (s7, .inl (.inl (kA 1, 10, .inl sc7))), (s8, .inr (kA 6, kA 1, 10, 2, .inl sc8)), (s, .inl (.inr (5, [.ref s0, .ref s1, .ref s2, .ref s3, .ref s4, .ref s5, .ref s6, .ref s7, .ref s8, .ref s9, .ref s10, .ref s11, .int (nI sn), .int (nI sl), .int (nI se)])))]) [(0, .ref t), (1, .ref s), (2, .int (nI j530))] 0 0 5 [.int 1]
    refine j_if_eq h 20 dX10_add_5 (by decide) (fun q => absurd q (by decide)) (fun _ => ?_)
    refine j_aload_n h 0 rfl rfl dX10_add_8 ?_
    refine jm_get h iw_X10 0 rfl rfl 1 (by decide +kernel) tw_305 rfl dX10_add_9 ?_
    refine j_aload_n h 0 rfl rfl dX10_add_12 ?_
    refine jm_get h iw_X10 0 rfl rfl 0 (by decide +kernel) tw_302 rfl dX10_add_13 ?_
    refine jm_alen (v := 60) h 1 1 rfl rfl rfl dX10_add_16 ?_
    refine j_icmp_lt h 22 dX10_add_17 (by decide) (fun z531 => ?_) (fun z531 => ?_)
    · have z531n : tsz < 60 := (nI_ltI (a := tsz) (b := 60) (by omega) (by omega)).mp z531
      refine j_aload_n h 1 rfl rfl dX10_add_22 ?_
      refine jm_get h iw_X5 4 rfl rfl 8 (by decide +kernel) tw_205 rfl dX10_add_23 ?_
      refine j_iload_n h 2 rfl rfl dX10_add_26 ?_
      refine jm_gout h 3 6 rfl rfl j530 rfl (by omega) (by omega) dX10_add_27 ?_
      refine j_aload_n h 0 rfl rfl dX10_add_28 ?_
      refine jm_get h iw_X10 0 rfl rfl 3 (by decide +kernel) tw_311 rfl dX10_add_29 ?_
      refine jm_gald h 3 rfl j530 (by omega) tft rfl (by omega) (by omega) dX10_add_32 ?_
      obtain ⟨t532, u533, u534⟩ := (show FtOk sl sc8 by assumption) j530 tft (by omega) (by omega)
      refine j_top (b := pm t532) (u534) ?_
      refine j_istore_n (lv' := [(3, .int (pm t532)), (0, .ref t), (1, .ref s), (2, .int (nI j530))]) h dX10_add_33 rfl (by decide) rfl ?_
      refine j_iload_n h 0 rfl rfl dX10_add_34 ?_
      refine j_iconst (v := (-1)) h (by decide) dX10_add_35 ?_
      rcases t532 with _ | j535
      · show J x (mflat [(t, .inl (.inr (10, [.ref t0, .int (nI tsz), .int (nI ttm), .int (nI tft)]))), (t0, .inl (.inl (kA 1, 60, .inl trow))), (s7, .inl (.inl (kA 1, 10, .inl sc7))), (s8, .inr (kA 6, kA 1, 10, 2, .inl sc8)), (s, .inl (.inr (5, [.ref s0, .ref s1, .ref s2, .ref s3, .ref s4, .ref s5, .ref s6, .ref s7, .ref s8, .ref s9, .ref s10, .ref s11, .int (nI sn), .int (nI sl), .int (nI se)])))]) [(3, .int (-1)), (0, .ref t), (1, .ref s), (2, .int (nI j530))] 0 0 36 [.int (-1), .int (-1)]
        refine j_icmp_eq h 55 dX10_add_36 (by decide) (fun _ => ?_) (fun q => absurd (by decide) q)
        refine j_iconst (v := 0) h (by decide) dX10_add_55 ?_
        exact jm_zret h hq rfl dX10_add_56 (0, tsz, ttm, tft, trow) [0, 1, 4, 2, 3] rfl (by decide) ⟨rfl, (show 0 ≤ 1 by first | assumption | omega), (show tsz ≤ 60 by first | assumption | omega), (show ttm ≤ 60 by first | assumption | omega), (show tft ≤ 1 by first | assumption | omega), (show RoOk sl tsz trow by first | assumption | exact RoOk_step (by assumption) (by omega) | exact RoOk_mono (by assumption) (by omega) | exact RoOk_zero _ _ | omega)⟩ (Nat.le_of_ble_eq_true rfl) (Nat.le_of_ble_eq_true rfl)
      · show J x (mflat [(t, .inl (.inr (10, [.ref t0, .int (nI tsz), .int (nI ttm), .int (nI tft)]))), (t0, .inl (.inl (kA 1, 60, .inl trow))), (s7, .inl (.inl (kA 1, 10, .inl sc7))), (s8, .inr (kA 6, kA 1, 10, 2, .inl sc8)), (s, .inl (.inr (5, [.ref s0, .ref s1, .ref s2, .ref s3, .ref s4, .ref s5, .ref s6, .ref s7, .ref s8, .ref s9, .ref s10, .ref s11, .int (nI sn), .int (nI sl), .int (nI se)])))]) [(3, .int (nI j535)), (0, .ref t), (1, .ref s), (2, .int (nI j530))] 0 0 36 [.int (-1), .int (nI j535)]
        refine j_icmp_eq h 55 dX10_add_36 (by decide) (fun q => absurd q (nI_m1 (by omega))) (fun _ => ?_)
        refine j_aload_n h 1 rfl rfl dX10_add_39 ?_
        refine jm_get h iw_X10 0 rfl rfl 2 (by decide +kernel) tw_309 rfl dX10_add_40 ?_
        refine j_aload_n h 2 rfl rfl dX10_add_43 ?_
        refine jm_get h iw_X5 4 rfl rfl 7 (by decide +kernel) tw_202 rfl dX10_add_44 ?_
        refine j_iload_n h 3 rfl rfl dX10_add_47 ?_
        refine jm_iald h 2 rfl j530 rfl (by omega) (by omega) dX10_add_48 ?_
        obtain ⟨t536, u537, u538, u539⟩ := (show LtOk sl sc7 by assumption) j530 (by omega)
        refine j_top (b := nI t536) (u539) ?_
        refine j_iadd h dX10_add_49 ?_
        refine j_top (b := nI (ttm + t536)) (nI_add ttm t536) ?_
        refine j_bipush (v := 60) h (by decide) dX10_add_50 ?_
        refine j_icmp_le h 57 dX10_add_52 (by decide) (fun z540 => ?_) (fun z540 => ?_)
        · have z540n : (ttm + t536) ≤ 60 := (nI_leI (a := (ttm + t536)) (b := 60) (by omega) (by omega)).mp z540
          refine j_aload_n h 1 rfl rfl dX10_add_57 ?_
          refine jm_get h iw_X10 0 rfl rfl 0 (by decide +kernel) tw_302 rfl dX10_add_58 ?_
          refine j_aload_n h 1 rfl rfl dX10_add_61 ?_
          refine jm_get h iw_X10 0 rfl rfl 1 (by decide +kernel) tw_305 rfl dX10_add_62 ?_
          refine j_iload_n h 3 rfl rfl dX10_add_65 ?_
          refine jm_iast (w' := [(t, .inl (.inr (10, [.ref t0, .int (nI tsz), .int (nI ttm), .int (nI tft)]))), (t0, .inl (.inl (kA 1, 60, .inl (upd trow tsz (nI j530))))), (s7, .inl (.inl (kA 1, 10, .inl sc7))), (s8, .inr (kA 6, kA 1, 10, 2, .inl sc8)), (s, .inl (.inr (5, [.ref s0, .ref s1, .ref s2, .ref s3, .ref s4, .ref s5, .ref s6, .ref s7, .ref s8, .ref s9, .ref s10, .ref s11, .int (nI sn), .int (nI sl), .int (nI se)])))]) h 1 rfl tsz rfl (by omega) (by omega) dX10_add_66 rfl ?_
          refine j_aload_n h 1 rfl rfl dX10_add_67 ?_
          refine j_dup h rfl dX10_add_68 ?_
          refine jm_get h iw_X10 0 rfl rfl 1 (by decide +kernel) tw_305 rfl dX10_add_69 ?_
          refine j_iconst (v := 1) h (by decide) dX10_add_72 ?_
          refine j_iadd h dX10_add_73 ?_
          refine j_top (b := nI (tsz + 1)) (nI_add tsz 1) ?_
          refine jm_put (w' := [(t, .inl (.inr (10, [.ref t0, .int (nI (tsz + 1)), .int (nI ttm), .int (nI tft)]))), (t0, .inl (.inl (kA 1, 60, .inl (upd trow tsz (nI j530))))), (s7, .inl (.inl (kA 1, 10, .inl sc7))), (s8, .inr (kA 6, kA 1, 10, 2, .inl sc8)), (s, .inl (.inr (5, [.ref s0, .ref s1, .ref s2, .ref s3, .ref s4, .ref s5, .ref s6, .ref s7, .ref s8, .ref s9, .ref s10, .ref s11, .int (nI sn), .int (nI sl), .int (nI se)])))]) h iw_X10 tyX10 tyX10_ok nmX10 0 rfl rfl 1 (by decide +kernel) tw_305 rfl rfl rfl (Nat.le_of_ble_eq_true rfl) dX10_add_74 rfl ?_
          refine j_aload_n h 1 rfl rfl dX10_add_77 ?_
          refine j_dup h rfl dX10_add_78 ?_
          refine jm_get h iw_X10 0 rfl rfl 2 (by decide +kernel) tw_309 rfl dX10_add_79 ?_
          refine j_aload_n h 2 rfl rfl dX10_add_82 ?_
          refine jm_get h iw_X5 4 rfl rfl 7 (by decide +kernel) tw_202 rfl dX10_add_83 ?_
          refine j_iload_n h 3 rfl rfl dX10_add_86 ?_
          refine jm_iald h 2 rfl j530 rfl (by omega) (by omega) dX10_add_87 ?_
          refine j_top (b := nI t536) (u539) ?_
          refine j_iadd h dX10_add_88 ?_
          refine j_top (b := nI (ttm + t536)) (nI_add ttm t536) ?_
          refine jm_put (w' := [(t, .inl (.inr (10, [.ref t0, .int (nI (tsz + 1)), .int (nI (ttm + t536)), .int (nI tft)]))), (t0, .inl (.inl (kA 1, 60, .inl (upd trow tsz (nI j530))))), (s7, .inl (.inl (kA 1, 10, .inl sc7))), (s8, .inr (kA 6, kA 1, 10, 2, .inl sc8)), (s, .inl (.inr (5, [.ref s0, .ref s1, .ref s2, .ref s3, .ref s4, .ref s5, .ref s6, .ref s7, .ref s8, .ref s9, .ref s10, .ref s11, .int (nI sn), .int (nI sl), .int (nI se)])))]) h iw_X10 tyX10 tyX10_ok nmX10 0 rfl rfl 2 (by decide +kernel) tw_309 rfl rfl rfl (Nat.le_of_ble_eq_true rfl) dX10_add_89 rfl ?_
          refine j_aload_n h 1 rfl rfl dX10_add_92 ?_
          refine j_iload_n h 0 rfl rfl dX10_add_93 ?_
          refine jm_put (w' := [(t, .inl (.inr (10, [.ref t0, .int (nI (tsz + 1)), .int (nI (ttm + t536)), .int (nI j535)]))), (t0, .inl (.inl (kA 1, 60, .inl (upd trow tsz (nI j530))))), (s7, .inl (.inl (kA 1, 10, .inl sc7))), (s8, .inr (kA 6, kA 1, 10, 2, .inl sc8)), (s, .inl (.inr (5, [.ref s0, .ref s1, .ref s2, .ref s3, .ref s4, .ref s5, .ref s6, .ref s7, .ref s8, .ref s9, .ref s10, .ref s11, .int (nI sn), .int (nI sl), .int (nI se)])))]) h iw_X10 tyX10 tyX10_ok nmX10 0 rfl rfl 3 (by decide +kernel) tw_311 rfl rfl rfl (Nat.le_of_ble_eq_true rfl) dX10_add_94 rfl ?_
          refine j_iconst (v := 1) h (by decide) dX10_add_97 ?_
          exact jm_zret h hq rfl dX10_add_98 (1, (tsz + 1), (ttm + t536), j535, (upd trow tsz (nI j530))) [0, 1, 4, 2, 3] rfl (by decide) ⟨rfl, (show 1 ≤ 1 by first | assumption | omega), (show (tsz + 1) ≤ 60 by first | assumption | omega), (show (ttm + t536) ≤ 60 by first | assumption | omega), (show j535 ≤ 1 by first | assumption | omega), (show RoOk sl (tsz + 1) (upd trow tsz (nI j530)) by first | assumption | exact RoOk_step (by assumption) (by omega) | exact RoOk_mono (by assumption) (by omega) | exact RoOk_zero _ _ | omega)⟩ (Nat.le_of_ble_eq_true rfl) (Nat.le_of_ble_eq_true rfl)
        · have z540n : ¬ (ttm + t536) ≤ 60 := fun q9 => z540 ((nI_leI (a := (ttm + t536)) (b := 60) (by omega) (by omega)).mpr q9)
          refine j_iconst (v := 0) h (by decide) dX10_add_55 ?_
          exact jm_zret h hq rfl dX10_add_56 (0, tsz, ttm, tft, trow) [0, 1, 4, 2, 3] rfl (by decide) ⟨rfl, (show 0 ≤ 1 by first | assumption | omega), (show tsz ≤ 60 by first | assumption | omega), (show ttm ≤ 60 by first | assumption | omega), (show tft ≤ 1 by first | assumption | omega), (show RoOk sl tsz trow by first | assumption | exact RoOk_step (by assumption) (by omega) | exact RoOk_mono (by assumption) (by omega) | exact RoOk_zero _ _ | omega)⟩ (Nat.le_of_ble_eq_true rfl) (Nat.le_of_ble_eq_true rfl)
    · have z531n : ¬ tsz < 60 := fun q9 => z531 ((nI_ltI (a := tsz) (b := 60) (by omega) (by omega)).mpr q9)
      refine j_iconst (v := 0) h (by decide) dX10_add_20 ?_
      exact jm_zret h hq rfl dX10_add_21 (0, tsz, ttm, tft, trow) [0, 1, 4, 2, 3] rfl (by decide) ⟨rfl, (show 0 ≤ 1 by first | assumption | omega), (show tsz ≤ 60 by first | assumption | omega), (show ttm ≤ 60 by first | assumption | omega), (show tft ≤ 1 by first | assumption | omega), (show RoOk sl tsz trow by first | assumption | exact RoOk_step (by assumption) (by omega) | exact RoOk_mono (by assumption) (by omega) | exact RoOk_zero _ _ | omega)⟩ (Nat.le_of_ble_eq_true rfl) (Nat.le_of_ble_eq_true rfl)
