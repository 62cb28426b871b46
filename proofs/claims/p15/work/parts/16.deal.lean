theorem dX7_seek_0 : decode cX7_seek 0 = .ok (.iconst 0, 1) := by decide +kernel
theorem dX7_seek_1 : decode cX7_seek 1 = .ok (.istore 6, 2) := by decide +kernel
theorem dX7_seek_3 : decode cX7_seek 3 = .ok (.aload_n 0, 1) := by decide +kernel
theorem dX7_seek_4 : decode cX7_seek 4 = .ok (.invokevirtual 21, 3) := by decide +kernel
theorem tw_981 : Cond.methodLink RX7 21 yX7_begin ∈ TT := nx_mem 981 (by decide +kernel) (by decide +kernel)
theorem tw_983 : Cond.instanceMethod yX7_begin ∈ TT := nx_mem 983 (by decide +kernel) (by decide +kernel)
theorem tw_28 : Cond.selects RX7 yX7_begin yX7_begin ∈ TT := nx_mem 28 (by decide +kernel) (by decide +kernel)
theorem tw_97 : Cond.initialized RX7 ∈ TT := nx_mem 97 (by decide +kernel) (by decide +kernel)
theorem tw_984 : Cond.code yX7_begin cX7_begin 1 none ∈ TT := nx_mem 984 (by decide +kernel) (by decide +kernel)
theorem dX7_seek_7 : decode cX7_seek 7 = .ok (.iconst 0, 1) := by decide +kernel
theorem dX7_seek_8 : decode cX7_seek 8 = .ok (.istore 7, 2) := by decide +kernel
theorem dX7_seek_10 : decode cX7_seek 10 = .ok (.iload 7, 2) := by decide +kernel
theorem dX7_seek_12 : decode cX7_seek 12 = .ok (.ldc 24, 2) := by decide +kernel
theorem tw_985 : Cond.constant RX7 24 1000000 ∈ TT := nx_mem 985 (by decide +kernel) (by decide +kernel)
theorem dX7_seek_14 : decode cX7_seek 14 = .ok (.if_icmp .ge 92, 3) := by decide +kernel
theorem dX7_seek_17 : decode cX7_seek 17 = .ok (.aload_n 0, 1) := by decide +kernel
theorem dX7_seek_18 : decode cX7_seek 18 = .ok (.getfield 25, 3) := by decide +kernel
theorem dX7_seek_21 : decode cX7_seek 21 = .ok (.ifCond .lt 85, 3) := by decide +kernel
theorem dX7_seek_106 : decode cX7_seek 106 = .ok (.iconst 0, 1) := by decide +kernel
theorem dX7_seek_107 : decode cX7_seek 107 = .ok (.ireturn, 1) := by decide +kernel
theorem dX7_seek_24 : decode cX7_seek 24 = .ok (.aload_n 0, 1) := by decide +kernel
theorem dX7_seek_25 : decode cX7_seek 25 = .ok (.getfield 15, 3) := by decide +kernel
theorem dX7_seek_28 : decode cX7_seek 28 = .ok (.aload_n 0, 1) := by decide +kernel
theorem dX7_seek_29 : decode cX7_seek 29 = .ok (.getfield 25, 3) := by decide +kernel
theorem dX7_seek_32 : decode cX7_seek 32 = .ok (.iaload, 1) := by decide +kernel
theorem dX7_seek_33 : decode cX7_seek 33 = .ok (.aload_n 2, 1) := by decide +kernel
theorem dX7_seek_34 : decode cX7_seek 34 = .ok (.getfield 29, 3) := by decide +kernel
theorem tw_388 : Cond.fieldLink RX7 29 "LimpCode$Grid" "time" "I" ∈ TT := nx_mem 388 (by decide +kernel) (by decide +kernel)
theorem dX7_seek_37 : decode cX7_seek 37 = .ok (.if_icmp .ne 56, 3) := by decide +kernel
theorem dX7_seek_93 : decode cX7_seek 93 = .ok (.aload_n 0, 1) := by decide +kernel
theorem dX7_seek_94 : decode cX7_seek 94 = .ok (.aload_n 1, 1) := by decide +kernel
theorem dX7_seek_95 : decode cX7_seek 95 = .ok (.aload_n 2, 1) := by decide +kernel
theorem dX7_seek_96 : decode cX7_seek 96 = .ok (.aload_n 3, 1) := by decide +kernel
theorem dX7_seek_97 : decode cX7_seek 97 = .ok (.invokevirtual 42, 3) := by decide +kernel
theorem tw_991 : Cond.methodLink RX7 42 yX7_goOn ∈ TT := nx_mem 991 (by decide +kernel) (by decide +kernel)
theorem tw_993 : Cond.instanceMethod yX7_goOn ∈ TT := nx_mem 993 (by decide +kernel) (by decide +kernel)
theorem tw_29 : Cond.selects RX7 yX7_goOn yX7_goOn ∈ TT := nx_mem 29 (by decide +kernel) (by decide +kernel)
theorem tw_994 : Cond.code yX7_goOn cX7_goOn 6 none ∈ TT := nx_mem 994 (by decide +kernel) (by decide +kernel)
theorem dX7_seek_100 : decode cX7_seek 100 = .ok (.iinc 7 1, 3) := by decide +kernel
theorem dX7_seek_103 : decode cX7_seek 103 = .ok (.goto (-93), 3) := by decide +kernel
theorem dX7_seek_40 : decode cX7_seek 40 = .ok (.aload_n 3, 1) := by decide +kernel
theorem dX7_seek_41 : decode cX7_seek 41 = .ok (.aload_n 2, 1) := by decide +kernel
theorem dX7_seek_42 : decode cX7_seek 42 = .ok (.getfield 29, 3) := by decide +kernel
theorem dX7_seek_45 : decode cX7_seek 45 = .ok (.invokevirtual 34, 3) := by decide +kernel
theorem tw_986 : Cond.methodLink RX7 34 yX4_canReadUpTo ∈ TT := nx_mem 986 (by decide +kernel) (by decide +kernel)
theorem tw_987 : Cond.instanceMethod yX4_canReadUpTo ∈ TT := nx_mem 987 (by decide +kernel) (by decide +kernel)
theorem tw_988 : Cond.selects RX4 yX4_canReadUpTo yX4_canReadUpTo ∈ TT := nx_mem 988 (by decide +kernel) (by decide +kernel)
theorem tw_989 : Cond.code yX4_canReadUpTo cX4_canReadUpTo 2 (some .boolean) ∈ TT := nx_mem 989 (by decide +kernel) (by decide +kernel)
theorem dX7_seek_48 : decode cX7_seek 48 = .ok (.ifCond .ne 5, 3) := by decide +kernel
theorem dX7_seek_53 : decode cX7_seek 53 = .ok (.iinc 6 1, 3) := by decide +kernel
theorem dX7_seek_56 : decode cX7_seek 56 = .ok (.iload 6, 2) := by decide +kernel
theorem dX7_seek_58 : decode cX7_seek 58 = .ok (.sipush 500, 3) := by decide +kernel
theorem dX7_seek_61 : decode cX7_seek 61 = .ok (.if_icmp .ne 19, 3) := by decide +kernel
theorem dX7_seek_80 : decode cX7_seek 80 = .ok (.aload_n 0, 1) := by decide +kernel
theorem dX7_seek_81 : decode cX7_seek 81 = .ok (.dup, 1) := by decide +kernel
theorem dX7_seek_82 : decode cX7_seek 82 = .ok (.getfield 25, 3) := by decide +kernel
theorem dX7_seek_85 : decode cX7_seek 85 = .ok (.iconst 1, 1) := by decide +kernel
theorem dX7_seek_86 : decode cX7_seek 86 = .ok (.isub, 1) := by decide +kernel
theorem dX7_seek_87 : decode cX7_seek 87 = .ok (.putfield 25, 3) := by decide +kernel
theorem dX7_seek_90 : decode cX7_seek 90 = .ok (.goto 10, 3) := by decide +kernel
theorem dX7_seek_51 : decode cX7_seek 51 = .ok (.iconst 1, 1) := by decide +kernel
theorem dX7_seek_52 : decode cX7_seek 52 = .ok (.ireturn, 1) := by decide +kernel
theorem dX7_seek_64 : decode cX7_seek 64 = .ok (.lload 4, 2) := by decide +kernel
theorem dX7_seek_66 : decode cX7_seek 66 = .ok (.ldc2_w 40, 3) := by decide +kernel
theorem tw_990 : Cond.constantLong RX7 40 500 ∈ TT := nx_mem 990 (by decide +kernel) (by decide +kernel)
theorem dX7_seek_69 : decode cX7_seek 69 = .ok (.lcmp, 1) := by decide +kernel
theorem dX7_seek_70 : decode cX7_seek 70 = .ok (.ifCond .le 8, 3) := by decide +kernel
theorem dX7_seek_78 : decode cX7_seek 78 = .ok (.iconst 0, 1) := by decide +kernel
theorem dX7_seek_79 : decode cX7_seek 79 = .ok (.ireturn, 1) := by decide +kernel
theorem dX7_seek_73 : decode cX7_seek 73 = .ok (.bipush (-2), 2) := by decide +kernel
theorem dX7_seek_75 : decode cX7_seek 75 = .ok (.goto 4, 3) := by decide +kernel
theorem dX7_copyWalk_0 : decode cX7_copyWalk 0 = .ok (.iconst 0, 1) := by decide +kernel
theorem dX7_copyWalk_1 : decode cX7_copyWalk 1 = .ok (.aload_n 0, 1) := by decide +kernel
theorem dX7_copyWalk_2 : decode cX7_copyWalk 2 = .ok (.getfield 25, 3) := by decide +kernel
theorem dX7_copyWalk_5 : decode cX7_copyWalk 5 = .ok (.aload_n 1, 1) := by decide +kernel
theorem dX7_copyWalk_6 : decode cX7_copyWalk 6 = .ok (.arraylength, 1) := by decide +kernel
theorem dX7_copyWalk_7 : decode cX7_copyWalk 7 = .ok (.invokestatic 61, 3) := by decide +kernel
theorem tw_1010 : Cond.methodLink RX7 61 yJ9_min_7cf53 ∈ TT := nx_mem 1010 (by decide +kernel) (by decide +kernel)
theorem dX7_copyWalk_10 : decode cX7_copyWalk 10 = .ok (.invokestatic 67, 3) := by decide +kernel
theorem tw_1011 : Cond.methodLink RX7 67 yJ9_max_7cf53 ∈ TT := nx_mem 1011 (by decide +kernel) (by decide +kernel)
theorem dX7_copyWalk_13 : decode cX7_copyWalk 13 = .ok (.istore_n 2, 1) := by decide +kernel
theorem dX7_copyWalk_14 : decode cX7_copyWalk 14 = .ok (.aload_n 0, 1) := by decide +kernel
theorem dX7_copyWalk_15 : decode cX7_copyWalk 15 = .ok (.getfield 9, 3) := by decide +kernel
theorem dX7_copyWalk_18 : decode cX7_copyWalk 18 = .ok (.iconst 0, 1) := by decide +kernel
theorem dX7_copyWalk_19 : decode cX7_copyWalk 19 = .ok (.aload_n 1, 1) := by decide +kernel
theorem dX7_copyWalk_20 : decode cX7_copyWalk 20 = .ok (.iconst 0, 1) := by decide +kernel
theorem dX7_copyWalk_21 : decode cX7_copyWalk 21 = .ok (.iload_n 2, 1) := by decide +kernel
theorem dX7_copyWalk_22 : decode cX7_copyWalk 22 = .ok (.invokestatic 70, 3) := by decide +kernel
theorem tw_1012 : Cond.methodLink RX7 70 arraycopyName ∈ TT := nx_mem 1012 (by decide +kernel) (by decide +kernel)
theorem dX7_copyWalk_25 : decode cX7_copyWalk 25 = .ok (.iload_n 2, 1) := by decide +kernel
theorem dX7_copyWalk_26 : decode cX7_copyWalk 26 = .ok (.ireturn, 1) := by decide +kernel
theorem dX1_sortUpwards_0 : decode cX1_sortUpwards 0 = .ok (.iconst 1, 1) := by decide +kernel
theorem dX1_sortUpwards_1 : decode cX1_sortUpwards 1 = .ok (.istore_n 2, 1) := by decide +kernel
theorem dX1_sortUpwards_2 : decode cX1_sortUpwards 2 = .ok (.iload_n 2, 1) := by decide +kernel
theorem dX1_sortUpwards_3 : decode cX1_sortUpwards 3 = .ok (.iload_n 1, 1) := by decide +kernel
theorem dX1_sortUpwards_4 : decode cX1_sortUpwards 4 = .ok (.if_icmp .ge 52, 3) := by decide +kernel
theorem dX1_sortUpwards_56 : decode cX1_sortUpwards 56 = .ok (.return_, 1) := by decide +kernel
theorem dX1_sortUpwards_7 : decode cX1_sortUpwards 7 = .ok (.iload_n 2, 1) := by decide +kernel
theorem dX1_sortUpwards_8 : decode cX1_sortUpwards 8 = .ok (.istore_n 3, 1) := by decide +kernel
theorem dX1_sortUpwards_9 : decode cX1_sortUpwards 9 = .ok (.iload_n 3, 1) := by decide +kernel
theorem dX1_sortUpwards_10 : decode cX1_sortUpwards 10 = .ok (.ifCond .le 40, 3) := by decide +kernel
theorem dX1_sortUpwards_13 : decode cX1_sortUpwards 13 = .ok (.aload_n 0, 1) := by decide +kernel
theorem dX1_sortUpwards_14 : decode cX1_sortUpwards 14 = .ok (.iload_n 3, 1) := by decide +kernel
theorem dX1_sortUpwards_15 : decode cX1_sortUpwards 15 = .ok (.iconst 1, 1) := by decide +kernel
theorem dX1_sortUpwards_16 : decode cX1_sortUpwards 16 = .ok (.isub, 1) := by decide +kernel
theorem dX1_sortUpwards_17 : decode cX1_sortUpwards 17 = .ok (.iaload, 1) := by decide +kernel
theorem dX1_sortUpwards_18 : decode cX1_sortUpwards 18 = .ok (.aload_n 0, 1) := by decide +kernel
theorem dX1_sortUpwards_19 : decode cX1_sortUpwards 19 = .ok (.iload_n 3, 1) := by decide +kernel
theorem dX1_sortUpwards_20 : decode cX1_sortUpwards 20 = .ok (.iaload, 1) := by decide +kernel
theorem dX1_sortUpwards_21 : decode cX1_sortUpwards 21 = .ok (.if_icmp .le 29, 3) := by decide +kernel
theorem dX1_sortUpwards_50 : decode cX1_sortUpwards 50 = .ok (.iinc 2 1, 3) := by decide +kernel
theorem dX1_sortUpwards_53 : decode cX1_sortUpwards 53 = .ok (.goto (-51), 3) := by decide +kernel
theorem dX1_sortUpwards_24 : decode cX1_sortUpwards 24 = .ok (.aload_n 0, 1) := by decide +kernel
theorem dX1_sortUpwards_25 : decode cX1_sortUpwards 25 = .ok (.iload_n 3, 1) := by decide +kernel
theorem dX1_sortUpwards_26 : decode cX1_sortUpwards 26 = .ok (.iconst 1, 1) := by decide +kernel
theorem dX1_sortUpwards_27 : decode cX1_sortUpwards 27 = .ok (.isub, 1) := by decide +kernel
theorem dX1_sortUpwards_28 : decode cX1_sortUpwards 28 = .ok (.iaload, 1) := by decide +kernel
theorem dX1_sortUpwards_29 : decode cX1_sortUpwards 29 = .ok (.istore 4, 2) := by decide +kernel
theorem dX1_sortUpwards_31 : decode cX1_sortUpwards 31 = .ok (.aload_n 0, 1) := by decide +kernel
theorem dX1_sortUpwards_32 : decode cX1_sortUpwards 32 = .ok (.iload_n 3, 1) := by decide +kernel
theorem dX1_sortUpwards_33 : decode cX1_sortUpwards 33 = .ok (.iconst 1, 1) := by decide +kernel
theorem dX1_sortUpwards_34 : decode cX1_sortUpwards 34 = .ok (.isub, 1) := by decide +kernel
theorem dX1_sortUpwards_35 : decode cX1_sortUpwards 35 = .ok (.aload_n 0, 1) := by decide +kernel
theorem dX1_sortUpwards_36 : decode cX1_sortUpwards 36 = .ok (.iload_n 3, 1) := by decide +kernel
theorem dX1_sortUpwards_37 : decode cX1_sortUpwards 37 = .ok (.iaload, 1) := by decide +kernel
theorem dX1_sortUpwards_38 : decode cX1_sortUpwards 38 = .ok (.iastore, 1) := by decide +kernel
theorem dX1_sortUpwards_39 : decode cX1_sortUpwards 39 = .ok (.aload_n 0, 1) := by decide +kernel
theorem dX1_sortUpwards_40 : decode cX1_sortUpwards 40 = .ok (.iload_n 3, 1) := by decide +kernel
theorem dX1_sortUpwards_41 : decode cX1_sortUpwards 41 = .ok (.iload 4, 2) := by decide +kernel
theorem dX1_sortUpwards_43 : decode cX1_sortUpwards 43 = .ok (.iastore, 1) := by decide +kernel
theorem dX1_sortUpwards_44 : decode cX1_sortUpwards 44 = .ok (.iinc 3 (-1), 3) := by decide +kernel
theorem dX1_sortUpwards_47 : decode cX1_sortUpwards 47 = .ok (.goto (-38), 3) := by decide +kernel
theorem dX1_leastOfRest_0 : decode cX1_leastOfRest 0 = .ok (.iconst 0, 1) := by decide +kernel
theorem dX1_leastOfRest_1 : decode cX1_leastOfRest 1 = .ok (.istore_n 3, 1) := by decide +kernel
theorem dX1_leastOfRest_2 : decode cX1_leastOfRest 2 = .ok (.iload_n 2, 1) := by decide +kernel
theorem dX1_leastOfRest_3 : decode cX1_leastOfRest 3 = .ok (.istore 4, 2) := by decide +kernel
theorem dX1_leastOfRest_5 : decode cX1_leastOfRest 5 = .ok (.iload 4, 2) := by decide +kernel
theorem dX1_leastOfRest_7 : decode cX1_leastOfRest 7 = .ok (.aload_n 1, 1) := by decide +kernel
theorem dX1_leastOfRest_8 : decode cX1_leastOfRest 8 = .ok (.getfield 33, 3) := by decide +kernel
theorem tw_223 : Cond.fieldLink RX1 33 "LimpCode$School" "letterCount" "I" ∈ TT := nx_mem 223 (by decide +kernel) (by decide +kernel)
theorem dX1_leastOfRest_11 : decode cX1_leastOfRest 11 = .ok (.if_icmp .ge 25, 3) := by decide +kernel
theorem dX1_leastOfRest_36 : decode cX1_leastOfRest 36 = .ok (.iconst 0, 1) := by decide +kernel
theorem dX1_leastOfRest_37 : decode cX1_leastOfRest 37 = .ok (.istore 4, 2) := by decide +kernel
theorem dX1_leastOfRest_39 : decode cX1_leastOfRest 39 = .ok (.iconst 0, 1) := by decide +kernel
theorem dX1_leastOfRest_40 : decode cX1_leastOfRest 40 = .ok (.istore 5, 2) := by decide +kernel
theorem dX1_leastOfRest_42 : decode cX1_leastOfRest 42 = .ok (.iload 5, 2) := by decide +kernel
theorem dX1_leastOfRest_44 : decode cX1_leastOfRest 44 = .ok (.aload_n 1, 1) := by decide +kernel
theorem dX1_leastOfRest_45 : decode cX1_leastOfRest 45 = .ok (.getfield 33, 3) := by decide +kernel
theorem dX1_leastOfRest_48 : decode cX1_leastOfRest 48 = .ok (.if_icmp .ge 42, 3) := by decide +kernel
theorem dX1_leastOfRest_90 : decode cX1_leastOfRest 90 = .ok (.aload_n 0, 1) := by decide +kernel
theorem dX1_leastOfRest_91 : decode cX1_leastOfRest 91 = .ok (.getfield 15, 3) := by decide +kernel
theorem iw_X1 : ∀ w ∈ u_ws RX1 TX1 4, w ∈ TT := nx_mems _ [466, 468, 470, 472] (by decide +kernel) (by decide +kernel)
theorem tw_463 : Cond.fieldLink RX1 15 "LimpCode$Deal" "restUses" "[I" ∈ TT := nx_mem 463 (by decide +kernel) (by decide +kernel)
theorem dX1_leastOfRest_94 : decode cX1_leastOfRest 94 = .ok (.iload_n 3, 1) := by decide +kernel
theorem dX1_leastOfRest_95 : decode cX1_leastOfRest 95 = .ok (.invokestatic 60, 3) := by decide +kernel
theorem tw_1042 : Cond.methodLink RX1 60 yX1_sortUpwards ∈ TT := nx_mem 1042 (by decide +kernel) (by decide +kernel)
theorem tw_1043 : Cond.static yX1_sortUpwards ∈ TT := nx_mem 1043 (by decide +kernel) (by decide +kernel)
theorem tw_98 : Cond.initialized RX1 ∈ TT := nx_mem 98 (by decide +kernel) (by decide +kernel)
theorem tw_1044 : Cond.code yX1_sortUpwards cX1_sortUpwards 5 none ∈ TT := nx_mem 1044 (by decide +kernel) (by decide +kernel)
theorem dX1_leastOfRest_98 : decode cX1_leastOfRest 98 = .ok (.aload_n 0, 1) := by decide +kernel
theorem dX1_leastOfRest_99 : decode cX1_leastOfRest 99 = .ok (.getfield 18, 3) := by decide +kernel
theorem tw_464 : Cond.fieldLink RX1 18 "LimpCode$Deal" "restTakes" "[I" ∈ TT := nx_mem 464 (by decide +kernel) (by decide +kernel)
theorem dX1_leastOfRest_102 : decode cX1_leastOfRest 102 = .ok (.iload 4, 2) := by decide +kernel
theorem dX1_leastOfRest_104 : decode cX1_leastOfRest 104 = .ok (.invokestatic 60, 3) := by decide +kernel
theorem dX1_leastOfRest_107 : decode cX1_leastOfRest 107 = .ok (.iconst 0, 1) := by decide +kernel
theorem dX1_leastOfRest_108 : decode cX1_leastOfRest 108 = .ok (.istore 5, 2) := by decide +kernel
theorem dX1_leastOfRest_110 : decode cX1_leastOfRest 110 = .ok (.iconst 0, 1) := by decide +kernel
theorem dX1_leastOfRest_111 : decode cX1_leastOfRest 111 = .ok (.istore 6, 2) := by decide +kernel
theorem dX1_leastOfRest_113 : decode cX1_leastOfRest 113 = .ok (.iload 6, 2) := by decide +kernel
theorem dX1_leastOfRest_115 : decode cX1_leastOfRest 115 = .ok (.iload 4, 2) := by decide +kernel
theorem dX1_leastOfRest_117 : decode cX1_leastOfRest 117 = .ok (.if_icmp .ge 33, 3) := by decide +kernel
theorem dX1_leastOfRest_150 : decode cX1_leastOfRest 150 = .ok (.iload 5, 2) := by decide +kernel
theorem dX1_leastOfRest_152 : decode cX1_leastOfRest 152 = .ok (.ireturn, 1) := by decide +kernel
theorem dX1_leastOfRest_51 : decode cX1_leastOfRest 51 = .ok (.aload_n 0, 1) := by decide +kernel
theorem dX1_leastOfRest_52 : decode cX1_leastOfRest 52 = .ok (.getfield 21, 3) := by decide +kernel
theorem tw_465 : Cond.fieldLink RX1 21 "LimpCode$Deal" "given" "[Z" ∈ TT := nx_mem 465 (by decide +kernel) (by decide +kernel)
theorem dX1_leastOfRest_55 : decode cX1_leastOfRest 55 = .ok (.iload 5, 2) := by decide +kernel
theorem dX1_leastOfRest_57 : decode cX1_leastOfRest 57 = .ok (.baload, 1) := by decide +kernel
theorem dX1_leastOfRest_58 : decode cX1_leastOfRest 58 = .ok (.ifCond .ne 26, 3) := by decide +kernel
theorem dX1_leastOfRest_84 : decode cX1_leastOfRest 84 = .ok (.iinc 5 1, 3) := by decide +kernel
theorem dX1_leastOfRest_87 : decode cX1_leastOfRest 87 = .ok (.goto (-45), 3) := by decide +kernel
theorem dX1_leastOfRest_61 : decode cX1_leastOfRest 61 = .ok (.iload 4, 2) := by decide +kernel
theorem dX1_leastOfRest_63 : decode cX1_leastOfRest 63 = .ok (.iload_n 3, 1) := by decide +kernel
theorem dX1_leastOfRest_64 : decode cX1_leastOfRest 64 = .ok (.if_icmp .ge 20, 3) := by decide +kernel
theorem dX1_leastOfRest_14 : decode cX1_leastOfRest 14 = .ok (.aload_n 0, 1) := by decide +kernel
theorem dX1_leastOfRest_15 : decode cX1_leastOfRest 15 = .ok (.getfield 15, 3) := by decide +kernel
theorem dX1_leastOfRest_18 : decode cX1_leastOfRest 18 = .ok (.iload_n 3, 1) := by decide +kernel
theorem dX1_leastOfRest_19 : decode cX1_leastOfRest 19 = .ok (.aload_n 0, 1) := by decide +kernel
theorem dX1_leastOfRest_20 : decode cX1_leastOfRest 20 = .ok (.getfield 9, 3) := by decide +kernel
theorem tw_462 : Cond.fieldLink RX1 9 "LimpCode$Deal" "uses" "[I" ∈ TT := nx_mem 462 (by decide +kernel) (by decide +kernel)
theorem dX1_leastOfRest_23 : decode cX1_leastOfRest 23 = .ok (.iload 4, 2) := by decide +kernel
theorem dX1_leastOfRest_25 : decode cX1_leastOfRest 25 = .ok (.iaload, 1) := by decide +kernel
theorem dX1_leastOfRest_26 : decode cX1_leastOfRest 26 = .ok (.iastore, 1) := by decide +kernel
theorem dX1_leastOfRest_27 : decode cX1_leastOfRest 27 = .ok (.iinc 3 1, 3) := by decide +kernel
theorem dX1_leastOfRest_30 : decode cX1_leastOfRest 30 = .ok (.iinc 4 1, 3) := by decide +kernel
theorem dX1_leastOfRest_33 : decode cX1_leastOfRest 33 = .ok (.goto (-28), 3) := by decide +kernel
theorem dX1_leastOfRest_67 : decode cX1_leastOfRest 67 = .ok (.aload_n 0, 1) := by decide +kernel
theorem dX1_leastOfRest_68 : decode cX1_leastOfRest 68 = .ok (.getfield 18, 3) := by decide +kernel
theorem dX1_leastOfRest_71 : decode cX1_leastOfRest 71 = .ok (.iload 4, 2) := by decide +kernel
theorem dX1_leastOfRest_73 : decode cX1_leastOfRest 73 = .ok (.aload_n 1, 1) := by decide +kernel
theorem dX1_leastOfRest_74 : decode cX1_leastOfRest 74 = .ok (.getfield 43, 3) := by decide +kernel
theorem tw_200 : Cond.fieldLink RX1 43 "LimpCode$School" "letterTakes" "[I" ∈ TT := nx_mem 200 (by decide +kernel) (by decide +kernel)
theorem dX1_leastOfRest_77 : decode cX1_leastOfRest 77 = .ok (.iload 5, 2) := by decide +kernel
theorem dX1_leastOfRest_79 : decode cX1_leastOfRest 79 = .ok (.iaload, 1) := by decide +kernel
theorem dX1_leastOfRest_80 : decode cX1_leastOfRest 80 = .ok (.iastore, 1) := by decide +kernel
theorem dX1_leastOfRest_81 : decode cX1_leastOfRest 81 = .ok (.iinc 4 1, 3) := by decide +kernel
theorem dX1_leastOfRest_120 : decode cX1_leastOfRest 120 = .ok (.iload 5, 2) := by decide +kernel
theorem dX1_leastOfRest_122 : decode cX1_leastOfRest 122 = .ok (.aload_n 0, 1) := by decide +kernel
theorem dX1_leastOfRest_123 : decode cX1_leastOfRest 123 = .ok (.getfield 15, 3) := by decide +kernel
theorem dX1_leastOfRest_126 : decode cX1_leastOfRest 126 = .ok (.iload_n 3, 1) := by decide +kernel
theorem dX1_leastOfRest_127 : decode cX1_leastOfRest 127 = .ok (.iconst 1, 1) := by decide +kernel
theorem dX1_leastOfRest_128 : decode cX1_leastOfRest 128 = .ok (.isub, 1) := by decide +kernel
theorem dX1_leastOfRest_129 : decode cX1_leastOfRest 129 = .ok (.iload 6, 2) := by decide +kernel
theorem dX1_leastOfRest_131 : decode cX1_leastOfRest 131 = .ok (.isub, 1) := by decide +kernel
theorem dX1_leastOfRest_132 : decode cX1_leastOfRest 132 = .ok (.iaload, 1) := by decide +kernel
theorem dX1_leastOfRest_133 : decode cX1_leastOfRest 133 = .ok (.aload_n 0, 1) := by decide +kernel
theorem dX1_leastOfRest_134 : decode cX1_leastOfRest 134 = .ok (.getfield 18, 3) := by decide +kernel
theorem dX1_leastOfRest_137 : decode cX1_leastOfRest 137 = .ok (.iload 6, 2) := by decide +kernel
theorem dX1_leastOfRest_139 : decode cX1_leastOfRest 139 = .ok (.iaload, 1) := by decide +kernel
theorem dX1_leastOfRest_140 : decode cX1_leastOfRest 140 = .ok (.imul, 1) := by decide +kernel
theorem dX1_leastOfRest_141 : decode cX1_leastOfRest 141 = .ok (.iadd, 1) := by decide +kernel
theorem dX1_leastOfRest_142 : decode cX1_leastOfRest 142 = .ok (.istore 5, 2) := by decide +kernel
theorem dX1_leastOfRest_144 : decode cX1_leastOfRest 144 = .ok (.iinc 6 1, 3) := by decide +kernel
theorem dX1_leastOfRest_147 : decode cX1_leastOfRest 147 = .ok (.goto (-34), 3) := by decide +kernel
theorem dX1_countUses_0 : decode cX1_countUses 0 = .ok (.aload_n 0, 1) := by decide +kernel
theorem dX1_countUses_1 : decode cX1_countUses 1 = .ok (.getfield 9, 3) := by decide +kernel
theorem dX1_countUses_4 : decode cX1_countUses 4 = .ok (.iconst 0, 1) := by decide +kernel
theorem dX1_countUses_5 : decode cX1_countUses 5 = .ok (.invokestatic 46, 3) := by decide +kernel
theorem tw_1037 : Cond.methodLink RX1 46 yJ7_fill_53178 ∈ TT := nx_mem 1037 (by decide +kernel) (by decide +kernel)
theorem dX1_countUses_8 : decode cX1_countUses 8 = .ok (.iconst 0, 1) := by decide +kernel
theorem dX1_countUses_9 : decode cX1_countUses 9 = .ok (.istore_n 2, 1) := by decide +kernel
theorem dX1_countUses_10 : decode cX1_countUses 10 = .ok (.iload_n 2, 1) := by decide +kernel
theorem dX1_countUses_11 : decode cX1_countUses 11 = .ok (.bipush 10, 2) := by decide +kernel
theorem dX1_countUses_13 : decode cX1_countUses 13 = .ok (.if_icmp .ge 16, 3) := by decide +kernel
theorem dX1_countUses_16 : decode cX1_countUses 16 = .ok (.aload_n 0, 1) := by decide +kernel
theorem dX1_countUses_17 : decode cX1_countUses 17 = .ok (.getfield 21, 3) := by decide +kernel
theorem dX1_countUses_20 : decode cX1_countUses 20 = .ok (.iload_n 2, 1) := by decide +kernel
theorem dX1_countUses_21 : decode cX1_countUses 21 = .ok (.iconst 0, 1) := by decide +kernel
theorem dX1_countUses_22 : decode cX1_countUses 22 = .ok (.bastore, 1) := by decide +kernel
theorem dX1_countUses_23 : decode cX1_countUses 23 = .ok (.iinc 2 1, 3) := by decide +kernel
theorem dX1_countUses_26 : decode cX1_countUses 26 = .ok (.goto (-16), 3) := by decide +kernel
theorem dX1_countUses_29 : decode cX1_countUses 29 = .ok (.iconst 0, 1) := by decide +kernel
theorem dX1_countUses_30 : decode cX1_countUses 30 = .ok (.istore_n 2, 1) := by decide +kernel
theorem dX1_countUses_31 : decode cX1_countUses 31 = .ok (.iload_n 2, 1) := by decide +kernel
theorem dX1_countUses_32 : decode cX1_countUses 32 = .ok (.aload_n 1, 1) := by decide +kernel
theorem dX1_countUses_33 : decode cX1_countUses 33 = .ok (.getfield 52, 3) := by decide +kernel
theorem tw_306 : Cond.fieldLink RX1 52 "LimpCode$Text" "size" "I" ∈ TT := nx_mem 306 (by decide +kernel) (by decide +kernel)
theorem dX1_countUses_36 : decode cX1_countUses 36 = .ok (.if_icmp .ge 24, 3) := by decide +kernel
theorem dX1_countUses_60 : decode cX1_countUses 60 = .ok (.return_, 1) := by decide +kernel
theorem dX1_countUses_39 : decode cX1_countUses 39 = .ok (.aload_n 0, 1) := by decide +kernel
theorem dX1_countUses_40 : decode cX1_countUses 40 = .ok (.getfield 9, 3) := by decide +kernel
theorem dX1_countUses_43 : decode cX1_countUses 43 = .ok (.aload_n 1, 1) := by decide +kernel
theorem dX1_countUses_44 : decode cX1_countUses 44 = .ok (.getfield 57, 3) := by decide +kernel
theorem tw_303 : Cond.fieldLink RX1 57 "LimpCode$Text" "row" "[I" ∈ TT := nx_mem 303 (by decide +kernel) (by decide +kernel)
theorem dX1_countUses_47 : decode cX1_countUses 47 = .ok (.iload_n 2, 1) := by decide +kernel
theorem dX1_countUses_48 : decode cX1_countUses 48 = .ok (.iaload, 1) := by decide +kernel
theorem dX1_countUses_49 : decode cX1_countUses 49 = .ok (.dup2, 1) := by decide +kernel
theorem dX1_countUses_50 : decode cX1_countUses 50 = .ok (.iaload, 1) := by decide +kernel
theorem dX1_countUses_51 : decode cX1_countUses 51 = .ok (.iconst 1, 1) := by decide +kernel
theorem dX1_countUses_52 : decode cX1_countUses 52 = .ok (.iadd, 1) := by decide +kernel
theorem dX1_countUses_53 : decode cX1_countUses 53 = .ok (.iastore, 1) := by decide +kernel
theorem dX1_countUses_54 : decode cX1_countUses 54 = .ok (.iinc 2 1, 3) := by decide +kernel
theorem dX1_countUses_57 : decode cX1_countUses 57 = .ok (.goto (-26), 3) := by decide +kernel
theorem dX1_firstRow_0 : decode cX1_firstRow 0 = .ok (.iconst 0, 1) := by decide +kernel
theorem dX1_firstRow_1 : decode cX1_firstRow 1 = .ok (.istore 4, 2) := by decide +kernel
theorem dX1_firstRow_3 : decode cX1_firstRow 3 = .ok (.iload 4, 2) := by decide +kernel
theorem dX1_firstRow_5 : decode cX1_firstRow 5 = .ok (.aload_n 1, 1) := by decide +kernel
theorem dX1_firstRow_6 : decode cX1_firstRow 6 = .ok (.getfield 33, 3) := by decide +kernel
theorem dX1_firstRow_9 : decode cX1_firstRow 9 = .ok (.if_icmp .ge 65, 3) := by decide +kernel
theorem dX1_firstRow_74 : decode cX1_firstRow 74 = .ok (.iload_n 2, 1) := by decide +kernel
theorem dX1_firstRow_75 : decode cX1_firstRow 75 = .ok (.ireturn, 1) := by decide +kernel
theorem dX1_firstRow_12 : decode cX1_firstRow 12 = .ok (.aload_n 0, 1) := by decide +kernel
theorem dX1_firstRow_13 : decode cX1_firstRow 13 = .ok (.getfield 21, 3) := by decide +kernel
theorem dX1_firstRow_16 : decode cX1_firstRow 16 = .ok (.iload 4, 2) := by decide +kernel
theorem dX1_firstRow_18 : decode cX1_firstRow 18 = .ok (.baload, 1) := by decide +kernel
theorem dX1_firstRow_19 : decode cX1_firstRow 19 = .ok (.ifCond .ne 49, 3) := by decide +kernel
theorem dX1_firstRow_68 : decode cX1_firstRow 68 = .ok (.iinc 4 1, 3) := by decide +kernel
theorem dX1_firstRow_71 : decode cX1_firstRow 71 = .ok (.goto (-68), 3) := by decide +kernel
theorem dX1_firstRow_22 : decode cX1_firstRow 22 = .ok (.aload_n 0, 1) := by decide +kernel
theorem dX1_firstRow_23 : decode cX1_firstRow 23 = .ok (.getfield 21, 3) := by decide +kernel
theorem dX1_firstRow_26 : decode cX1_firstRow 26 = .ok (.iload 4, 2) := by decide +kernel
theorem dX1_firstRow_28 : decode cX1_firstRow 28 = .ok (.iconst 1, 1) := by decide +kernel
theorem dX1_firstRow_29 : decode cX1_firstRow 29 = .ok (.bastore, 1) := by decide +kernel
theorem dX1_firstRow_30 : decode cX1_firstRow 30 = .ok (.aload_n 0, 1) := by decide +kernel
theorem dX1_firstRow_31 : decode cX1_firstRow 31 = .ok (.getfield 9, 3) := by decide +kernel
theorem dX1_firstRow_34 : decode cX1_firstRow 34 = .ok (.iload_n 2, 1) := by decide +kernel
theorem dX1_firstRow_35 : decode cX1_firstRow 35 = .ok (.iaload, 1) := by decide +kernel
theorem dX1_firstRow_36 : decode cX1_firstRow 36 = .ok (.aload_n 1, 1) := by decide +kernel
theorem dX1_firstRow_37 : decode cX1_firstRow 37 = .ok (.getfield 43, 3) := by decide +kernel
theorem dX1_firstRow_40 : decode cX1_firstRow 40 = .ok (.iload 4, 2) := by decide +kernel
theorem dX1_firstRow_42 : decode cX1_firstRow 42 = .ok (.iaload, 1) := by decide +kernel
theorem dX1_firstRow_43 : decode cX1_firstRow 43 = .ok (.imul, 1) := by decide +kernel
theorem dX1_firstRow_44 : decode cX1_firstRow 44 = .ok (.aload_n 0, 1) := by decide +kernel
theorem dX1_firstRow_45 : decode cX1_firstRow 45 = .ok (.aload_n 1, 1) := by decide +kernel
theorem dX1_firstRow_46 : decode cX1_firstRow 46 = .ok (.iload_n 2, 1) := by decide +kernel
theorem dX1_firstRow_47 : decode cX1_firstRow 47 = .ok (.iconst 1, 1) := by decide +kernel
theorem dX1_firstRow_48 : decode cX1_firstRow 48 = .ok (.iadd, 1) := by decide +kernel
theorem dX1_firstRow_49 : decode cX1_firstRow 49 = .ok (.invokevirtual 29, 3) := by decide +kernel
theorem tw_1038 : Cond.methodLink RX1 29 yX1_leastOfRest ∈ TT := nx_mem 1038 (by decide +kernel) (by decide +kernel)
theorem tw_1040 : Cond.instanceMethod yX1_leastOfRest ∈ TT := nx_mem 1040 (by decide +kernel) (by decide +kernel)
theorem tw_32 : Cond.selects RX1 yX1_leastOfRest yX1_leastOfRest ∈ TT := nx_mem 32 (by decide +kernel) (by decide +kernel)
theorem tw_1041 : Cond.code yX1_leastOfRest cX1_leastOfRest 7 (some .int) ∈ TT := nx_mem 1041 (by decide +kernel) (by decide +kernel)
theorem dX1_firstRow_52 : decode cX1_firstRow 52 = .ok (.iadd, 1) := by decide +kernel
theorem dX1_firstRow_53 : decode cX1_firstRow 53 = .ok (.iload_n 3, 1) := by decide +kernel
theorem dX1_firstRow_54 : decode cX1_firstRow 54 = .ok (.if_icmp .gt 6, 3) := by decide +kernel
theorem dX1_firstRow_60 : decode cX1_firstRow 60 = .ok (.aload_n 0, 1) := by decide +kernel
theorem dX1_firstRow_61 : decode cX1_firstRow 61 = .ok (.getfield 21, 3) := by decide +kernel
theorem dX1_firstRow_64 : decode cX1_firstRow 64 = .ok (.iload 4, 2) := by decide +kernel
theorem dX1_firstRow_66 : decode cX1_firstRow 66 = .ok (.iconst 0, 1) := by decide +kernel
theorem dX1_firstRow_67 : decode cX1_firstRow 67 = .ok (.bastore, 1) := by decide +kernel
theorem dX1_firstRow_57 : decode cX1_firstRow 57 = .ok (.iload 4, 2) := by decide +kernel
theorem dX1_firstRow_59 : decode cX1_firstRow 59 = .ok (.ireturn, 1) := by decide +kernel
theorem dX1_dealRows_0 : decode cX1_dealRows 0 = .ok (.aload_n 0, 1) := by decide +kernel
theorem dX1_dealRows_1 : decode cX1_dealRows 1 = .ok (.aload_n 2, 1) := by decide +kernel
theorem dX1_dealRows_2 : decode cX1_dealRows 2 = .ok (.invokevirtual 25, 3) := by decide +kernel
theorem tw_1033 : Cond.methodLink RX1 25 yX1_countUses ∈ TT := nx_mem 1033 (by decide +kernel) (by decide +kernel)
theorem tw_1035 : Cond.instanceMethod yX1_countUses ∈ TT := nx_mem 1035 (by decide +kernel) (by decide +kernel)
theorem tw_31 : Cond.selects RX1 yX1_countUses yX1_countUses ∈ TT := nx_mem 31 (by decide +kernel) (by decide +kernel)
theorem tw_1036 : Cond.code yX1_countUses cX1_countUses 3 none ∈ TT := nx_mem 1036 (by decide +kernel) (by decide +kernel)
theorem dX1_dealRows_5 : decode cX1_dealRows 5 = .ok (.aload_n 0, 1) := by decide +kernel
theorem dX1_dealRows_6 : decode cX1_dealRows 6 = .ok (.aload_n 1, 1) := by decide +kernel
theorem dX1_dealRows_7 : decode cX1_dealRows 7 = .ok (.iconst 0, 1) := by decide +kernel
theorem dX1_dealRows_8 : decode cX1_dealRows 8 = .ok (.invokevirtual 29, 3) := by decide +kernel
theorem dX1_dealRows_11 : decode cX1_dealRows 11 = .ok (.istore 4, 2) := by decide +kernel
theorem dX1_dealRows_13 : decode cX1_dealRows 13 = .ok (.iconst 0, 1) := by decide +kernel
theorem dX1_dealRows_14 : decode cX1_dealRows 14 = .ok (.istore 5, 2) := by decide +kernel
theorem dX1_dealRows_16 : decode cX1_dealRows 16 = .ok (.iconst 0, 1) := by decide +kernel
theorem dX1_dealRows_17 : decode cX1_dealRows 17 = .ok (.istore 6, 2) := by decide +kernel
theorem dX1_dealRows_19 : decode cX1_dealRows 19 = .ok (.iload 6, 2) := by decide +kernel
theorem dX1_dealRows_21 : decode cX1_dealRows 21 = .ok (.aload_n 1, 1) := by decide +kernel
theorem dX1_dealRows_22 : decode cX1_dealRows 22 = .ok (.getfield 33, 3) := by decide +kernel
theorem dX1_dealRows_25 : decode cX1_dealRows 25 = .ok (.if_icmp .ge 56, 3) := by decide +kernel
theorem dX1_dealRows_81 : decode cX1_dealRows 81 = .ok (.iload 4, 2) := by decide +kernel
theorem dX1_dealRows_83 : decode cX1_dealRows 83 = .ok (.ireturn, 1) := by decide +kernel
theorem dX1_dealRows_28 : decode cX1_dealRows 28 = .ok (.iload 6, 2) := by decide +kernel
theorem dX1_dealRows_30 : decode cX1_dealRows 30 = .ok (.aload_n 3, 1) := by decide +kernel
theorem dX1_dealRows_31 : decode cX1_dealRows 31 = .ok (.arraylength, 1) := by decide +kernel
theorem dX1_dealRows_32 : decode cX1_dealRows 32 = .ok (.if_icmp .ge 49, 3) := by decide +kernel
theorem dX1_dealRows_35 : decode cX1_dealRows 35 = .ok (.aload_n 0, 1) := by decide +kernel
theorem dX1_dealRows_36 : decode cX1_dealRows 36 = .ok (.aload_n 1, 1) := by decide +kernel
theorem dX1_dealRows_37 : decode cX1_dealRows 37 = .ok (.iload 6, 2) := by decide +kernel
theorem dX1_dealRows_39 : decode cX1_dealRows 39 = .ok (.iload 4, 2) := by decide +kernel
theorem dX1_dealRows_41 : decode cX1_dealRows 41 = .ok (.iload 5, 2) := by decide +kernel
theorem dX1_dealRows_43 : decode cX1_dealRows 43 = .ok (.isub, 1) := by decide +kernel
theorem dX1_dealRows_44 : decode cX1_dealRows 44 = .ok (.invokevirtual 39, 3) := by decide +kernel
theorem tw_1045 : Cond.methodLink RX1 39 yX1_firstRow ∈ TT := nx_mem 1045 (by decide +kernel) (by decide +kernel)
theorem tw_1047 : Cond.instanceMethod yX1_firstRow ∈ TT := nx_mem 1047 (by decide +kernel) (by decide +kernel)
theorem tw_33 : Cond.selects RX1 yX1_firstRow yX1_firstRow ∈ TT := nx_mem 33 (by decide +kernel) (by decide +kernel)
theorem tw_1048 : Cond.code yX1_firstRow cX1_firstRow 5 (some .int) ∈ TT := nx_mem 1048 (by decide +kernel) (by decide +kernel)
theorem dX1_dealRows_47 : decode cX1_dealRows 47 = .ok (.istore 7, 2) := by decide +kernel
theorem dX1_dealRows_49 : decode cX1_dealRows 49 = .ok (.aload_n 3, 1) := by decide +kernel
theorem dX1_dealRows_50 : decode cX1_dealRows 50 = .ok (.iload 6, 2) := by decide +kernel
theorem dX1_dealRows_52 : decode cX1_dealRows 52 = .ok (.iload 7, 2) := by decide +kernel
theorem dX1_dealRows_54 : decode cX1_dealRows 54 = .ok (.iastore, 1) := by decide +kernel
theorem dX1_dealRows_55 : decode cX1_dealRows 55 = .ok (.iload 5, 2) := by decide +kernel
theorem dX1_dealRows_57 : decode cX1_dealRows 57 = .ok (.aload_n 0, 1) := by decide +kernel
theorem dX1_dealRows_58 : decode cX1_dealRows 58 = .ok (.getfield 9, 3) := by decide +kernel
theorem dX1_dealRows_61 : decode cX1_dealRows 61 = .ok (.iload 6, 2) := by decide +kernel
theorem dX1_dealRows_63 : decode cX1_dealRows 63 = .ok (.iaload, 1) := by decide +kernel
theorem dX1_dealRows_64 : decode cX1_dealRows 64 = .ok (.aload_n 1, 1) := by decide +kernel
theorem dX1_dealRows_65 : decode cX1_dealRows 65 = .ok (.getfield 43, 3) := by decide +kernel
theorem dX1_dealRows_68 : decode cX1_dealRows 68 = .ok (.iload 7, 2) := by decide +kernel
theorem dX1_dealRows_70 : decode cX1_dealRows 70 = .ok (.iaload, 1) := by decide +kernel
theorem dX1_dealRows_71 : decode cX1_dealRows 71 = .ok (.imul, 1) := by decide +kernel
theorem dX1_dealRows_72 : decode cX1_dealRows 72 = .ok (.iadd, 1) := by decide +kernel
theorem dX1_dealRows_73 : decode cX1_dealRows 73 = .ok (.istore 5, 2) := by decide +kernel
theorem dX1_dealRows_75 : decode cX1_dealRows 75 = .ok (.iinc 6 1, 3) := by decide +kernel
theorem dX1_dealRows_78 : decode cX1_dealRows 78 = .ok (.goto (-59), 3) := by decide +kernel
set_option maxHeartbeats 4000000 in
set_option maxRecDepth 100000 in
theorem s_X7_seek (lau : Launch) (gg : va_G) (kA : Nat → ClassId) (sk : Nat) (s : Nat) (g : Nat) (v : Nat) (wl : Int64) (sk0 : Nat) (sk1 : Nat) (sk2 : Nat) (skz : Int32) (skw : Nat → Int32) (skb : Nat → Int32) (skf : Nat → Int32) (s0 : Nat) (s1 : Nat) (s2 : Nat) (s3 : Nat) (s4 : Nat) (s5 : Nat) (s6 : Nat) (s7 : Nat) (s8 : Nat) (s9 : Nat) (s10 : Nat) (s11 : Nat) (sn : Nat) (sl : Nat) (se : Nat) (sc1 : Nat → Int32) (sc7 : Nat → Int32) (sc8 : Nat → Nat → Int32) (g0 : Nat) (g1 : Nat) (g2 : Nat) (g3 : Nat) (g4 : Nat) (g5 : Nat) (g6 : Nat) (g7 : Nat) (gn : Nat) (gtm : Nat) (gms : Nat) (gtk : Nat → Int32) (gaf : Nat → Nat → Int32) (gco : Nat → Nat → Int32) (gwy : Nat → Nat → Int64) (v0 : Nat) (v1 : Nat) (v2 : Nat) (v3 : Nat) (vbk : Int32) (vls : Nat → Nat → Int32) (vss : Nat → Int32) (vhs : Nat → Int32) (vrd : Nat → Int64) (hsn : sn ≤ 6) (hsl : sl ≤ 10) (hse : se ≤ 4) (hstk : TkOk sn sc1) (hslt : LtOk sl sc7) (hsla : FtOk sl sc8) (hgn : gn ≤ 6) (hgtm : gtm ≤ 60) (hgtk : LtOk gn gtk) (hgaf : FtOk gn gaf) (hgco : CoOk gn gtm gtk gco) (hgs : gn ≤ sn) : CtI lau yX7_seek cX7_seek 8 (some .int) 6 0 0 gg kA [.ref sk, .ref s, .ref g, .ref v, .long wl] (mflat [(sk, .inl (.inr (7, [.ref sk0, .ref sk1, .ref sk2, .int skz]))), (sk0, .inl (.inl (kA 1, 61, .inl skw))), (sk1, .inl (.inl (kA 1, 61, .inl skb))), (sk2, .inl (.inl (kA 1, 61, .inl skf))), (s, .inl (.inr (5, [.ref s0, .ref s1, .ref s2, .ref s3, .ref s4, .ref s5, .ref s6, .ref s7, .ref s8, .ref s9, .ref s10, .ref s11, .int (nI sn), .int (nI sl), .int (nI se)]))), (s1, .inl (.inl (kA 1, 6, .inl sc1))), (s7, .inl (.inl (kA 1, 10, .inl sc7))), (s8, .inr (kA 6, kA 1, 10, 2, .inl sc8)), (g, .inl (.inr (3, [.ref g0, .ref g1, .ref g2, .ref g3, .ref g4, .ref g5, .ref g6, .ref g7, .int (nI gn), .int (nI gtm), .int (nI gms)]))), (g0, .inl (.inl (kA 1, 6, .inl gtk))), (g1, .inr (kA 6, kA 1, 6, 2, .inl gaf)), (g2, .inr (kA 6, kA 1, 6, 60, .inl gco)), (g3, .inr (kA 7, kA 2, 8, 61, .inr gwy)), (v, .inl (.inr (4, [.ref v0, .ref v1, .ref v2, .ref v3, .int vbk]))), (v0, .inr (kA 6, kA 1, 10, 45, .inl vls)), (v1, .inl (.inl (kA 1, 6, .inl vss))), (v2, .inl (.inl (kA 1, 60, .inl vhs))), (v3, .inl (.inl (kA 2, 2, .inr (.inl vrd))))]) (S := Nat × (Nat → Int32) × (Nat → Int32) × (Nat → Int32) × (Nat → Int32) × (Nat → Int64)) (fun (r : Int32) ((y_sk_3, y_sk0, y_sk1, y_sk2, y_v2, y_v3) : Nat × (Nat → Int32) × (Nat → Int32) × (Nat → Int32) × (Nat → Int32) × (Nat → Int64)) => y_sk_3 ≤ 61) (fun ((y_sk_3, y_sk0, y_sk1, y_sk2, y_v2, y_v3) : Nat × (Nat → Int32) × (Nat → Int32) × (Nat → Int32) × (Nat → Int32) × (Nat → Int64)) => mflat [(sk, .inl (.inr (7, [.ref sk0, .ref sk1, .ref sk2, .int (pm y_sk_3)]))), (sk0, .inl (.inl (kA 1, 61, .inl y_sk0))), (sk1, .inl (.inl (kA 1, 61, .inl y_sk1))), (sk2, .inl (.inl (kA 1, 61, .inl y_sk2))), (s, .inl (.inr (5, [.ref s0, .ref s1, .ref s2, .ref s3, .ref s4, .ref s5, .ref s6, .ref s7, .ref s8, .ref s9, .ref s10, .ref s11, .int (nI sn), .int (nI sl), .int (nI se)]))), (s1, .inl (.inl (kA 1, 6, .inl sc1))), (s7, .inl (.inl (kA 1, 10, .inl sc7))), (s8, .inr (kA 6, kA 1, 10, 2, .inl sc8)), (g, .inl (.inr (3, [.ref g0, .ref g1, .ref g2, .ref g3, .ref g4, .ref g5, .ref g6, .ref g7, .int (nI gn), .int (nI gtm), .int (nI gms)]))), (g0, .inl (.inl (kA 1, 6, .inl gtk))), (g1, .inr (kA 6, kA 1, 6, 2, .inl gaf)), (g2, .inr (kA 6, kA 1, 6, 60, .inl gco)), (g3, .inr (kA 7, kA 2, 8, 61, .inr gwy)), (v, .inl (.inr (4, [.ref v0, .ref v1, .ref v2, .ref v3, .int vbk]))), (v0, .inr (kA 6, kA 1, 10, 45, .inl vls)), (v1, .inl (.inl (kA 1, 6, .inl vss))), (v2, .inl (.inl (kA 1, 60, .inl y_v2))), (v3, .inl (.inl (kA 2, 2, .inr (.inl y_v3))))]) := by
  refine nx_startI (by decide +kernel) (Nat.le_of_ble_eq_true rfl) ?_
  intro x hnm h hq
  have h : Ok x cX7_seek RX7 kA (rmC 6 0 0) 8 := h
  show J x (mflat [(sk, .inl (.inr (7, [.ref sk0, .ref sk1, .ref sk2, .int skz]))), (sk0, .inl (.inl (kA 1, 61, .inl skw))), (sk1, .inl (.inl (kA 1, 61, .inl skb))), (sk2, .inl (.inl (kA 1, 61, .inl skf))), (s, .inl (.inr (5, [.ref s0, .ref s1, .ref s2, .ref s3, .ref s4, .ref s5, .ref s6, .ref s7, .ref s8, .ref s9, .ref s10, .ref s11, .int (nI sn), .int (nI sl), .int (nI se)]))), (s1, .inl (.inl (kA 1, 6, .inl sc1))), (s7, .inl (.inl (kA 1, 10, .inl sc7))), (s8, .inr (kA 6, kA 1, 10, 2, .inl sc8)), (g, .inl (.inr (3, [.ref g0, .ref g1, .ref g2, .ref g3, .ref g4, .ref g5, .ref g6, .ref g7, .int (nI gn), .int (nI gtm), .int (nI gms)]))), (g0, .inl (.inl (kA 1, 6, .inl gtk))), (g1, .inr (kA 6, kA 1, 6, 2, .inl gaf)), (g2, .inr (kA 6, kA 1, 6, 60, .inl gco)), (g3, .inr (kA 7, kA 2, 8, 61, .inr gwy)), (v, .inl (.inr (4, [.ref v0, .ref v1, .ref v2, .ref v3, .int vbk]))), (v0, .inr (kA 6, kA 1, 10, 45, .inl vls)), (v1, .inl (.inl (kA 1, 6, .inl vss))), (v2, .inl (.inl (kA 1, 60, .inl vhs))), (v3, .inl (.inl (kA 2, 2, .inr (.inl vrd))))]) [(0, .ref sk), (1, .ref s), (2, .ref g), (3, .ref v), (4, .long wl)] 0 0 0 []
  refine j_iconst (v := 0) h (by decide) dX7_seek_0 ?_
  refine j_istore (lv' := [(6, .int 0), (0, .ref sk), (1, .ref s), (2, .ref g), (3, .ref v), (4, .long wl)]) h dX7_seek_1 (by decide) rfl ?_
  refine j_aload_n h 1 rfl rfl dX7_seek_3 ?_
  refine jm_callVv (np := 0) (isC := [0, 1, 2, 3]) (isR := [4, 5, 6, 7, 8, 9, 10, 11, 12, 13, 14, 15, 16, 17]) (wc := [(sk, .inl (.inr (7, [.ref sk0, .ref sk1, .ref sk2, .int skz]))), (sk0, .inl (.inl (kA 1, 61, .inl skw))), (sk1, .inl (.inl (kA 1, 61, .inl skb))), (sk2, .inl (.inl (kA 1, 61, .inl skf)))]) (wr := [(s, .inl (.inr (5, [.ref s0, .ref s1, .ref s2, .ref s3, .ref s4, .ref s5, .ref s6, .ref s7, .ref s8, .ref s9, .ref s10, .ref s11, .int (nI sn), .int (nI sl), .int (nI se)]))), (s1, .inl (.inl (kA 1, 6, .inl sc1))), (s7, .inl (.inl (kA 1, 10, .inl sc7))), (s8, .inr (kA 6, kA 1, 10, 2, .inl sc8)), (g, .inl (.inr (3, [.ref g0, .ref g1, .ref g2, .ref g3, .ref g4, .ref g5, .ref g6, .ref g7, .int (nI gn), .int (nI gtm), .int (nI gms)]))), (g0, .inl (.inl (kA 1, 6, .inl gtk))), (g1, .inr (kA 6, kA 1, 6, 2, .inl gaf)), (g2, .inr (kA 6, kA 1, 6, 60, .inl gco)), (g3, .inr (kA 7, kA 2, 8, 61, .inr gwy)), (v, .inl (.inr (4, [.ref v0, .ref v1, .ref v2, .ref v3, .int vbk]))), (v0, .inr (kA 6, kA 1, 10, 45, .inl vls)), (v1, .inl (.inl (kA 1, 6, .inl vss))), (v2, .inl (.inl (kA 1, 60, .inl vhs))), (v3, .inl (.inl (kA 2, 2, .inr (.inl vrd))))]) (rest := []) (As := []) (q0 := 0) h (s_X7_begin _ _ kA sk sk0 sk1 sk2 skz skw skb skf gtm ) tw_981 tw_983 tw_28 tw_97 tw_984 (by decide +kernel) rfl ⟨Nat.le_of_ble_eq_true rfl, Nat.le_of_ble_eq_true rfl⟩ rfl rfl (by decide +kernel) rfl rfl (by decide +kernel) (by decide +kernel) (Nat.le_of_ble_eq_true rfl) rfl ⟨Nat.le_of_ble_eq_true rfl, Nat.le_of_ble_eq_true rfl⟩ dX7_seek_4 ?_
  rintro ⟨q3972, q3973, q3974⟩ e3975
  obtain ⟨p3977, p3978, p3979⟩ := e3975
  replace p3977 : RoOk (gtm + 1) 1 q3973 := p3977
  replace p3978 : RoOk 2 1 q3974 := p3978
  replace p3979 : WkOk 1 q3972 := p3979
  show J x (mflat [(s, .inl (.inr (5, [.ref s0, .ref s1, .ref s2, .ref s3, .ref s4, .ref s5, .ref s6, .ref s7, .ref s8, .ref s9, .ref s10, .ref s11, .int (nI sn), .int (nI sl), .int (nI se)]))), (s1, .inl (.inl (kA 1, 6, .inl sc1))), (s7, .inl (.inl (kA 1, 10, .inl sc7))), (s8, .inr (kA 6, kA 1, 10, 2, .inl sc8)), (g, .inl (.inr (3, [.ref g0, .ref g1, .ref g2, .ref g3, .ref g4, .ref g5, .ref g6, .ref g7, .int (nI gn), .int (nI gtm), .int (nI gms)]))), (g0, .inl (.inl (kA 1, 6, .inl gtk))), (g1, .inr (kA 6, kA 1, 6, 2, .inl gaf)), (g2, .inr (kA 6, kA 1, 6, 60, .inl gco)), (g3, .inr (kA 7, kA 2, 8, 61, .inr gwy)), (v, .inl (.inr (4, [.ref v0, .ref v1, .ref v2, .ref v3, .int vbk]))), (v0, .inr (kA 6, kA 1, 10, 45, .inl vls)), (v1, .inl (.inl (kA 1, 6, .inl vss))), (v2, .inl (.inl (kA 1, 60, .inl vhs))), (v3, .inl (.inl (kA 2, 2, .inr (.inl vrd)))), (sk, .inl (.inr (7, [.ref sk0, .ref sk1, .ref sk2, .int 0]))), (sk0, .inl (.inl (kA 1, 61, .inl q3972))), (sk1, .inl (.inl (kA 1, 61, .inl q3973))), (sk2, .inl (.inl (kA 1, 61, .inl q3974)))]) [(6, .int 0), (0, .ref sk), (1, .ref s), (2, .ref g), (3, .ref v), (4, .long wl)] 0 0 7 []
  refine j_iconst (v := 0) h (by decide) dX7_seek_7 ?_
  refine j_istore (lv' := [(7, .int 0), (6, .int 0), (0, .ref sk), (1, .ref s), (2, .ref g), (3, .ref v), (4, .long wl)]) h dX7_seek_8 (by decide) rfl ?_
  have lp10_444 : ∀ (m10_444 : Nat), ∀ (v7_10_444 : Nat) (v6_10_444 : Nat) (fv2_10_444 : Nat → Int32) (fv3_10_444 : Nat → Int64) (wsk3_10_444 : Nat) (fsk0_10_444 : Nat → Int32) (fsk1_10_444 : Nat → Int32) (fsk2_10_444 : Nat → Int32), (wsk3_10_444 ≤ 61) → (RoOk (gtm + 1) wsk3_10_444 fsk1_10_444) → (RoOk 2 wsk3_10_444 fsk2_10_444) → (WkOk wsk3_10_444 fsk0_10_444) → (v6_10_444 ≤ 499) → (v7_10_444 ≤ 1000000) → (v6_10_444 ≤ 100000) → (wsk3_10_444 ≤ 100000) → 1000001 - v7_10_444 < m10_444 → J x (mflat [(s, .inl (.inr (5, [.ref s0, .ref s1, .ref s2, .ref s3, .ref s4, .ref s5, .ref s6, .ref s7, .ref s8, .ref s9, .ref s10, .ref s11, .int (nI sn), .int (nI sl), .int (nI se)]))), (s1, .inl (.inl (kA 1, 6, .inl sc1))), (s7, .inl (.inl (kA 1, 10, .inl sc7))), (s8, .inr (kA 6, kA 1, 10, 2, .inl sc8)), (g, .inl (.inr (3, [.ref g0, .ref g1, .ref g2, .ref g3, .ref g4, .ref g5, .ref g6, .ref g7, .int (nI gn), .int (nI gtm), .int (nI gms)]))), (g0, .inl (.inl (kA 1, 6, .inl gtk))), (g1, .inr (kA 6, kA 1, 6, 2, .inl gaf)), (g2, .inr (kA 6, kA 1, 6, 60, .inl gco)), (g3, .inr (kA 7, kA 2, 8, 61, .inr gwy)), (v, .inl (.inr (4, [.ref v0, .ref v1, .ref v2, .ref v3, .int vbk]))), (v0, .inr (kA 6, kA 1, 10, 45, .inl vls)), (v1, .inl (.inl (kA 1, 6, .inl vss))), (v2, .inl (.inl (kA 1, 60, .inl fv2_10_444))), (v3, .inl (.inl (kA 2, 2, .inr (.inl fv3_10_444)))), (sk, .inl (.inr (7, [.ref sk0, .ref sk1, .ref sk2, .int (pm wsk3_10_444)]))), (sk0, .inl (.inl (kA 1, 61, .inl fsk0_10_444))), (sk1, .inl (.inl (kA 1, 61, .inl fsk1_10_444))), (sk2, .inl (.inl (kA 1, 61, .inl fsk2_10_444)))]) [(7, .int (nI v7_10_444)), (6, .int (nI v6_10_444)), (0, .ref sk), (1, .ref s), (2, .ref g), (3, .ref v), (4, .long wl)] 0 0 10 [] := by
    intro m10_444
    induction m10_444 with
    | zero =>
      intro v7_10_444 v6_10_444 fv2_10_444 fv3_10_444 wsk3_10_444 fsk0_10_444 fsk1_10_444 fsk2_10_444 i10_444_0 i10_444_1 i10_444_2 i10_444_3 i10_444_4 i10_444_5 i10_444_6 i10_444_7 hm10_444
      exact absurd hm10_444 (Nat.not_lt_zero _)
    | succ m10_444 ih10_444 =>
      intro v7_10_444 v6_10_444 fv2_10_444 fv3_10_444 wsk3_10_444 fsk0_10_444 fsk1_10_444 fsk2_10_444 i10_444_0 i10_444_1 i10_444_2 i10_444_3 i10_444_4 i10_444_5 i10_444_6 i10_444_7 hm10_444
      refine j_iload h 0 rfl dX7_seek_10 ?_
      refine j_ldc h tw_985 dX7_seek_12 ?_
      refine j_icmp_ge h 106 dX7_seek_14 (by decide) (fun z4033 => ?_) (fun z4033 => ?_)
      · have z4033n : 1000000 ≤ v7_10_444 := (nI_leI (a := 1000000) (b := v7_10_444) (by omega) (by omega)).mp z4033
        refine j_iconst (v := 0) h (by decide) dX7_seek_106 ?_
        exact jm_iret h hq dX7_seek_107 (wsk3_10_444, fsk0_10_444, fsk1_10_444, fsk2_10_444, fv2_10_444, fv3_10_444) [14, 15, 16, 17, 0, 1, 2, 3, 4, 5, 6, 7, 8, 9, 10, 11, 12, 13] rfl (by decide) (show wsk3_10_444 ≤ 61 by first | assumption | omega) (Nat.le_of_ble_eq_true rfl) (Nat.le_of_ble_eq_true rfl)
      · have z4033n : ¬ 1000000 ≤ v7_10_444 := fun q9 => z4033 ((nI_leI (a := 1000000) (b := v7_10_444) (by omega) (by omega)).mpr q9)
        refine j_aload_n h 2 rfl rfl dX7_seek_17 ?_
        refine jm_get h iw_X7 14 rfl rfl 3 (by decide +kernel) tw_446 rfl dX7_seek_18 ?_
        rcases wsk3_10_444 with _ | j4034
        · show J x (mflat [(s, .inl (.inr (5, [.ref s0, .ref s1, .ref s2, .ref s3, .ref s4, .ref s5, .ref s6, .ref s7, .ref s8, .ref s9, .ref s10, .ref s11, .int (nI sn), .int (nI sl), .int (nI se)]))), (s1, .inl (.inl (kA 1, 6, .inl sc1))), (s7, .inl (.inl (kA 1, 10, .inl sc7))), (s8, .inr (kA 6, kA 1, 10, 2, .inl sc8)), (g, .inl (.inr (3, [.ref g0, .ref g1, .ref g2, .ref g3, .ref g4, .ref g5, .ref g6, .ref g7, .int (nI gn), .int (nI gtm), .int (nI gms)]))), (g0, .inl (.inl (kA 1, 6, .inl gtk))), (g1, .inr (kA 6, kA 1, 6, 2, .inl gaf)), (g2, .inr (kA 6, kA 1, 6, 60, .inl gco)), (g3, .inr (kA 7, kA 2, 8, 61, .inr gwy)), (v, .inl (.inr (4, [.ref v0, .ref v1, .ref v2, .ref v3, .int vbk]))), (v0, .inr (kA 6, kA 1, 10, 45, .inl vls)), (v1, .inl (.inl (kA 1, 6, .inl vss))), (v2, .inl (.inl (kA 1, 60, .inl fv2_10_444))), (v3, .inl (.inl (kA 2, 2, .inr (.inl fv3_10_444)))), (sk, .inl (.inr (7, [.ref sk0, .ref sk1, .ref sk2, .int (-1)]))), (sk0, .inl (.inl (kA 1, 61, .inl fsk0_10_444))), (sk1, .inl (.inl (kA 1, 61, .inl fsk1_10_444))), (sk2, .inl (.inl (kA 1, 61, .inl fsk2_10_444)))]) [(7, .int (nI v7_10_444)), (6, .int (nI v6_10_444)), (0, .ref sk), (1, .ref s), (2, .ref g), (3, .ref v), (4, .long wl)] 0 0 21 [.int (-1)]
          refine j_if_lt h 106 dX7_seek_21 (by decide) (fun _ => ?_) (fun q => absurd (by decide) q)
          refine j_iconst (v := 0) h (by decide) dX7_seek_106 ?_
          exact jm_iret h hq dX7_seek_107 (0, fsk0_10_444, fsk1_10_444, fsk2_10_444, fv2_10_444, fv3_10_444) [14, 15, 16, 17, 0, 1, 2, 3, 4, 5, 6, 7, 8, 9, 10, 11, 12, 13] rfl (by decide) (show 0 ≤ 61 by first | assumption | omega) (Nat.le_of_ble_eq_true rfl) (Nat.le_of_ble_eq_true rfl)
        · show J x (mflat [(s, .inl (.inr (5, [.ref s0, .ref s1, .ref s2, .ref s3, .ref s4, .ref s5, .ref s6, .ref s7, .ref s8, .ref s9, .ref s10, .ref s11, .int (nI sn), .int (nI sl), .int (nI se)]))), (s1, .inl (.inl (kA 1, 6, .inl sc1))), (s7, .inl (.inl (kA 1, 10, .inl sc7))), (s8, .inr (kA 6, kA 1, 10, 2, .inl sc8)), (g, .inl (.inr (3, [.ref g0, .ref g1, .ref g2, .ref g3, .ref g4, .ref g5, .ref g6, .ref g7, .int (nI gn), .int (nI gtm), .int (nI gms)]))), (g0, .inl (.inl (kA 1, 6, .inl gtk))), (g1, .inr (kA 6, kA 1, 6, 2, .inl gaf)), (g2, .inr (kA 6, kA 1, 6, 60, .inl gco)), (g3, .inr (kA 7, kA 2, 8, 61, .inr gwy)), (v, .inl (.inr (4, [.ref v0, .ref v1, .ref v2, .ref v3, .int vbk]))), (v0, .inr (kA 6, kA 1, 10, 45, .inl vls)), (v1, .inl (.inl (kA 1, 6, .inl vss))), (v2, .inl (.inl (kA 1, 60, .inl fv2_10_444))), (v3, .inl (.inl (kA 2, 2, .inr (.inl fv3_10_444)))), (sk, .inl (.inr (7, [.ref sk0, .ref sk1, .ref sk2, .int (nI j4034)]))), (sk0, .inl (.inl (kA 1, 61, .inl fsk0_10_444))), (sk1, .inl (.inl (kA 1, 61, .inl fsk1_10_444))), (sk2, .inl (.inl (kA 1, 61, .inl fsk2_10_444)))]) [(7, .int (nI v7_10_444)), (6, .int (nI v6_10_444)), (0, .ref sk), (1, .ref s), (2, .ref g), (3, .ref v), (4, .long wl)] 0 0 21 [.int (nI j4034)]
          refine j_if_lt h 106 dX7_seek_21 (by decide) (fun q => absurd q (nI_pos (by omega))) (fun _ => ?_)
          refine j_aload_n h 2 rfl rfl dX7_seek_24 ?_
          refine jm_get h iw_X7 14 rfl rfl 1 (by decide +kernel) tw_444 rfl dX7_seek_25 ?_
          refine j_aload_n h 2 rfl rfl dX7_seek_28 ?_
          refine jm_get h iw_X7 14 rfl rfl 3 (by decide +kernel) tw_446 rfl dX7_seek_29 ?_
          refine jm_iald h 16 rfl j4034 rfl (by omega) (by omega) dX7_seek_32 ?_
          obtain ⟨t4035, u4036, u4037⟩ := (show RoOk (gtm + 1) (j4034 + 1) fsk1_10_444 by assumption) j4034 (by omega)
          refine j_top (b := nI t4035) (u4037) ?_
          refine j_aload_n h 4 rfl rfl dX7_seek_33 ?_
          refine jm_get h iw_X3 4 rfl rfl 9 (by decide +kernel) tw_388 rfl dX7_seek_34 ?_
          refine j_icmp_ne h 93 dX7_seek_37 (by decide) (fun z4038 => ?_) (fun z4038 => ?_)
          · have z4038n : ¬ t4035 = gtm := fun q9 => z4038 ((nI_eq (a := t4035) (b := gtm) (by omega) (by omega)).mpr q9)
            refine j_aload_n h 2 rfl rfl dX7_seek_93 ?_
            refine j_aload_n h 3 rfl rfl dX7_seek_94 ?_
            refine j_aload_n h 4 rfl rfl dX7_seek_95 ?_
            refine j_aload_n h 5 rfl rfl dX7_seek_96 ?_
            refine jm_callVv (np := 3) (isC := [14, 15, 16, 17, 0, 1, 2, 3, 4, 5, 6, 7, 8, 9, 10, 11, 12, 13]) (isR := []) (wc := [(sk, .inl (.inr (7, [.ref sk0, .ref sk1, .ref sk2, .int (nI j4034)]))), (sk0, .inl (.inl (kA 1, 61, .inl fsk0_10_444))), (sk1, .inl (.inl (kA 1, 61, .inl fsk1_10_444))), (sk2, .inl (.inl (kA 1, 61, .inl fsk2_10_444))), (s, .inl (.inr (5, [.ref s0, .ref s1, .ref s2, .ref s3, .ref s4, .ref s5, .ref s6, .ref s7, .ref s8, .ref s9, .ref s10, .ref s11, .int (nI sn), .int (nI sl), .int (nI se)]))), (s1, .inl (.inl (kA 1, 6, .inl sc1))), (s7, .inl (.inl (kA 1, 10, .inl sc7))), (s8, .inr (kA 6, kA 1, 10, 2, .inl sc8)), (g, .inl (.inr (3, [.ref g0, .ref g1, .ref g2, .ref g3, .ref g4, .ref g5, .ref g6, .ref g7, .int (nI gn), .int (nI gtm), .int (nI gms)]))), (g0, .inl (.inl (kA 1, 6, .inl gtk))), (g1, .inr (kA 6, kA 1, 6, 2, .inl gaf)), (g2, .inr (kA 6, kA 1, 6, 60, .inl gco)), (g3, .inr (kA 7, kA 2, 8, 61, .inr gwy)), (v, .inl (.inr (4, [.ref v0, .ref v1, .ref v2, .ref v3, .int vbk]))), (v0, .inr (kA 6, kA 1, 10, 45, .inl vls)), (v1, .inl (.inl (kA 1, 6, .inl vss))), (v2, .inl (.inl (kA 1, 60, .inl fv2_10_444))), (v3, .inl (.inl (kA 2, 2, .inr (.inl fv3_10_444))))]) (wr := []) (rest := []) (As := [.ref s, .ref g, .ref v]) (q0 := 0) h (s_X7_goOn _ _ kA sk s g v sk0 sk1 sk2 j4034 fsk0_10_444 fsk1_10_444 fsk2_10_444 s0 s1 s2 s3 s4 s5 s6 s7 s8 s9 s10 s11 sn sl se sc1 sc7 sc8 g0 g1 g2 g3 g4 g5 g6 g7 gn gtm gms gtk gaf gco gwy v0 v1 v2 v3 vbk vls vss fv2_10_444 fv3_10_444 (show sn ≤ 6 by first | assumption | omega) (show sl ≤ 10 by first | assumption | omega) (show se ≤ 4 by first | assumption | omega) (show TkOk sn sc1 by first | assumption | omega) (show LtOk sl sc7 by first | assumption | omega) (show FtOk sl sc8 by first | assumption | omega) (show gn ≤ 6 by first | assumption | omega) (show gtm ≤ 60 by first | assumption | omega) (show LtOk gn gtk by first | assumption | omega) (show FtOk gn gaf by first | assumption | omega) (show CoOk gn gtm gtk gco by first | assumption | omega) (show RoOk (gtm + 1) (j4034 + 1) fsk1_10_444 by first | assumption | exact RoOk_mono (by assumption) (by omega) | exact RoOk_step (by assumption) (by omega) | omega) (show RoOk 2 (j4034 + 1) fsk2_10_444 by first | assumption | exact RoOk_mono (by assumption) (by omega) | exact RoOk_step (by assumption) (by omega) | omega) (show WkOk (j4034 + 1) fsk0_10_444 by first | assumption | exact WkOk_mono (by assumption) (by omega) | exact WkOk_step (by assumption) (by omega) | omega) (show j4034 ≤ 60 by first | assumption | omega) (show gn ≤ sn by first | assumption | omega)) tw_991 tw_993 tw_29 tw_97 tw_994 (by decide +kernel) rfl ⟨Nat.le_of_ble_eq_true rfl, Nat.le_of_ble_eq_true rfl⟩ rfl rfl (by decide +kernel) rfl rfl (by decide +kernel) (by decide +kernel) (Nat.le_of_ble_eq_true rfl) rfl ⟨Nat.le_of_ble_eq_true rfl, Nat.le_of_ble_eq_true rfl⟩ dX7_seek_97 ?_
            rintro ⟨q4039, q4040, q4041, q4042, q4043, q4044⟩ e4045
            obtain ⟨p4047, p4048, p4049, p4050⟩ := e4045
            replace p4047 : q4039 ≤ 61 := p4047
            replace p4048 : RoOk (gtm + 1) q4039 q4041 := p4048
            replace p4049 : RoOk 2 q4039 q4042 := p4049
            replace p4050 : WkOk q4039 q4040 := p4050
            show J x (mflat [(sk, .inl (.inr (7, [.ref sk0, .ref sk1, .ref sk2, .int (pm q4039)]))), (sk0, .inl (.inl (kA 1, 61, .inl q4040))), (sk1, .inl (.inl (kA 1, 61, .inl q4041))), (sk2, .inl (.inl (kA 1, 61, .inl q4042))), (s, .inl (.inr (5, [.ref s0, .ref s1, .ref s2, .ref s3, .ref s4, .ref s5, .ref s6, .ref s7, .ref s8, .ref s9, .ref s10, .ref s11, .int (nI sn), .int (nI sl), .int (nI se)]))), (s1, .inl (.inl (kA 1, 6, .inl sc1))), (s7, .inl (.inl (kA 1, 10, .inl sc7))), (s8, .inr (kA 6, kA 1, 10, 2, .inl sc8)), (g, .inl (.inr (3, [.ref g0, .ref g1, .ref g2, .ref g3, .ref g4, .ref g5, .ref g6, .ref g7, .int (nI gn), .int (nI gtm), .int (nI gms)]))), (g0, .inl (.inl (kA 1, 6, .inl gtk))), (g1, .inr (kA 6, kA 1, 6, 2, .inl gaf)), (g2, .inr (kA 6, kA 1, 6, 60, .inl gco)), (g3, .inr (kA 7, kA 2, 8, 61, .inr gwy)), (v, .inl (.inr (4, [.ref v0, .ref v1, .ref v2, .ref v3, .int vbk]))), (v0, .inr (kA 6, kA 1, 10, 45, .inl vls)), (v1, .inl (.inl (kA 1, 6, .inl vss))), (v2, .inl (.inl (kA 1, 60, .inl q4043))), (v3, .inl (.inl (kA 2, 2, .inr (.inl q4044))))]) [(7, .int (nI v7_10_444)), (6, .int (nI v6_10_444)), (0, .ref sk), (1, .ref s), (2, .ref g), (3, .ref v), (4, .long wl)] 0 0 100 []
            refine j_iinc (v := nI (v7_10_444 + 1)) (lv' := [(7, .int (nI (v7_10_444 + 1))), (6, .int (nI v6_10_444)), (0, .ref sk), (1, .ref s), (2, .ref g), (3, .ref v), (4, .long wl)]) h dX7_seek_100 0 rfl (nI_add v7_10_444 1) (by decide) rfl ?_
            refine j_goto h 10 dX7_seek_103 (by decide) ?_
            refine jm_sub [4, 5, 6, 7, 8, 9, 10, 11, 12, 13, 14, 15, 16, 17, 0, 1, 2, 3] (w' := [(s, .inl (.inr (5, [.ref s0, .ref s1, .ref s2, .ref s3, .ref s4, .ref s5, .ref s6, .ref s7, .ref s8, .ref s9, .ref s10, .ref s11, .int (nI sn), .int (nI sl), .int (nI se)]))), (s1, .inl (.inl (kA 1, 6, .inl sc1))), (s7, .inl (.inl (kA 1, 10, .inl sc7))), (s8, .inr (kA 6, kA 1, 10, 2, .inl sc8)), (g, .inl (.inr (3, [.ref g0, .ref g1, .ref g2, .ref g3, .ref g4, .ref g5, .ref g6, .ref g7, .int (nI gn), .int (nI gtm), .int (nI gms)]))), (g0, .inl (.inl (kA 1, 6, .inl gtk))), (g1, .inr (kA 6, kA 1, 6, 2, .inl gaf)), (g2, .inr (kA 6, kA 1, 6, 60, .inl gco)), (g3, .inr (kA 7, kA 2, 8, 61, .inr gwy)), (v, .inl (.inr (4, [.ref v0, .ref v1, .ref v2, .ref v3, .int vbk]))), (v0, .inr (kA 6, kA 1, 10, 45, .inl vls)), (v1, .inl (.inl (kA 1, 6, .inl vss))), (v2, .inl (.inl (kA 1, 60, .inl q4043))), (v3, .inl (.inl (kA 2, 2, .inr (.inl q4044)))), (sk, .inl (.inr (7, [.ref sk0, .ref sk1, .ref sk2, .int (pm q4039)]))), (sk0, .inl (.inl (kA 1, 61, .inl q4040))), (sk1, .inl (.inl (kA 1, 61, .inl q4041))), (sk2, .inl (.inl (kA 1, 61, .inl q4042)))]) rfl (by decide +kernel) [0, 1, 2, 3, 4, 5, 6] (lv' := [(7, .int (nI (v7_10_444 + 1))), (6, .int (nI v6_10_444)), (0, .ref sk), (1, .ref s), (2, .ref g), (3, .ref v), (4, .long wl)]) rfl ?_
            exact ih10_444 (v7_10_444 + 1) v6_10_444 q4043 q4044 q4039 q4040 q4041 q4042 (show q4039 ≤ 61 by first | assumption | omega) (show RoOk (gtm + 1) q4039 q4041 by first | assumption | exact RoOk_mono (by assumption) (by omega) | exact RoOk_step (by assumption) (by omega) | omega) (show RoOk 2 q4039 q4042 by first | assumption | exact RoOk_mono (by assumption) (by omega) | exact RoOk_step (by assumption) (by omega) | omega) (show WkOk q4039 q4040 by first | assumption | exact WkOk_mono (by assumption) (by omega) | exact WkOk_step (by assumption) (by omega) | omega) (show v6_10_444 ≤ 499 by first | assumption | omega) (show (v7_10_444 + 1) ≤ 1000000 by first | assumption | omega) (show v6_10_444 ≤ 100000 by first | assumption | omega) (show q4039 ≤ 100000 by first | assumption | omega) (show 1000001 - (v7_10_444 + 1) < m10_444 by omega)
          · have z4038n : t4035 = gtm := (nI_eq (a := t4035) (b := gtm) (by omega) (by omega)).mp z4038
            refine j_aload_n h 5 rfl rfl dX7_seek_40 ?_
            refine j_aload_n h 4 rfl rfl dX7_seek_41 ?_
            refine jm_get h iw_X3 4 rfl rfl 9 (by decide +kernel) tw_388 rfl dX7_seek_42 ?_
            refine jm_callVi (np := 1) (isC := [9, 13]) (isR := [0, 1, 2, 3, 4, 5, 6, 7, 8, 10, 11, 12, 14, 15, 16, 17]) (wc := [(v, .inl (.inr (4, [.ref v0, .ref v1, .ref v2, .ref v3, .int vbk]))), (v3, .inl (.inl (kA 2, 2, .inr (.inl fv3_10_444))))]) (wr := [(s, .inl (.inr (5, [.ref s0, .ref s1, .ref s2, .ref s3, .ref s4, .ref s5, .ref s6, .ref s7, .ref s8, .ref s9, .ref s10, .ref s11, .int (nI sn), .int (nI sl), .int (nI se)]))), (s1, .inl (.inl (kA 1, 6, .inl sc1))), (s7, .inl (.inl (kA 1, 10, .inl sc7))), (s8, .inr (kA 6, kA 1, 10, 2, .inl sc8)), (g, .inl (.inr (3, [.ref g0, .ref g1, .ref g2, .ref g3, .ref g4, .ref g5, .ref g6, .ref g7, .int (nI gn), .int (nI gtm), .int (nI gms)]))), (g0, .inl (.inl (kA 1, 6, .inl gtk))), (g1, .inr (kA 6, kA 1, 6, 2, .inl gaf)), (g2, .inr (kA 6, kA 1, 6, 60, .inl gco)), (g3, .inr (kA 7, kA 2, 8, 61, .inr gwy)), (v0, .inr (kA 6, kA 1, 10, 45, .inl vls)), (v1, .inl (.inl (kA 1, 6, .inl vss))), (v2, .inl (.inl (kA 1, 60, .inl fv2_10_444))), (sk, .inl (.inr (7, [.ref sk0, .ref sk1, .ref sk2, .int (nI j4034)]))), (sk0, .inl (.inl (kA 1, 61, .inl fsk0_10_444))), (sk1, .inl (.inl (kA 1, 61, .inl fsk1_10_444))), (sk2, .inl (.inl (kA 1, 61, .inl fsk2_10_444)))]) (rest := []) (As := [.int (nI gtm)]) (q0 := 0) h (s_X4_canReadUpTo _ _ kA v (nI gtm) v0 v1 v2 v3 vbk fv3_10_444 ) tw_986 tw_987 tw_988 tw_96 tw_989 (by decide +kernel) rfl ⟨Nat.le_of_ble_eq_true rfl, Nat.le_of_ble_eq_true rfl⟩ rfl rfl (by decide +kernel) rfl rfl (by decide +kernel) (by decide +kernel) (Nat.le_of_ble_eq_true rfl) rfl ⟨Nat.le_of_ble_eq_true rfl, Nat.le_of_ble_eq_true rfl⟩ dX7_seek_45 ?_
            rintro r4053 q4051 e4052
            obtain ⟨p4054, p4055⟩ := e4052
            subst p4054
            replace p4055 : q4051 ≤ 1 := p4055
            show J x (mflat [(s, .inl (.inr (5, [.ref s0, .ref s1, .ref s2, .ref s3, .ref s4, .ref s5, .ref s6, .ref s7, .ref s8, .ref s9, .ref s10, .ref s11, .int (nI sn), .int (nI sl), .int (nI se)]))), (s1, .inl (.inl (kA 1, 6, .inl sc1))), (s7, .inl (.inl (kA 1, 10, .inl sc7))), (s8, .inr (kA 6, kA 1, 10, 2, .inl sc8)), (g, .inl (.inr (3, [.ref g0, .ref g1, .ref g2, .ref g3, .ref g4, .ref g5, .ref g6, .ref g7, .int (nI gn), .int (nI gtm), .int (nI gms)]))), (g0, .inl (.inl (kA 1, 6, .inl gtk))), (g1, .inr (kA 6, kA 1, 6, 2, .inl gaf)), (g2, .inr (kA 6, kA 1, 6, 60, .inl gco)), (g3, .inr (kA 7, kA 2, 8, 61, .inr gwy)), (v0, .inr (kA 6, kA 1, 10, 45, .inl vls)), (v1, .inl (.inl (kA 1, 6, .inl vss))), (v2, .inl (.inl (kA 1, 60, .inl fv2_10_444))), (sk, .inl (.inr (7, [.ref sk0, .ref sk1, .ref sk2, .int (nI j4034)]))), (sk0, .inl (.inl (kA 1, 61, .inl fsk0_10_444))), (sk1, .inl (.inl (kA 1, 61, .inl fsk1_10_444))), (sk2, .inl (.inl (kA 1, 61, .inl fsk2_10_444))), (v, .inl (.inr (4, [.ref v0, .ref v1, .ref v2, .ref v3, .int vbk]))), (v3, .inl (.inl (kA 2, 2, .inr (.inl fv3_10_444))))]) [(7, .int (nI v7_10_444)), (6, .int (nI v6_10_444)), (0, .ref sk), (1, .ref s), (2, .ref g), (3, .ref v), (4, .long wl)] 0 0 48 [.int (nI q4051)]
            refine j_if_ne h 53 dX7_seek_48 (by decide) (fun z4056 => ?_) (fun z4056 => ?_)
            · have z4056n : ¬ q4051 = 0 := fun q9 => z4056 ((nI_eq (a := q4051) (b := 0) (by omega) (by omega)).mpr q9)
              refine j_iinc (v := nI (v6_10_444 + 1)) (lv' := [(6, .int (nI (v6_10_444 + 1))), (7, .int (nI v7_10_444)), (0, .ref sk), (1, .ref s), (2, .ref g), (3, .ref v), (4, .long wl)]) h dX7_seek_53 1 rfl (nI_add v6_10_444 1) (by decide) rfl ?_
              refine j_iload h 0 rfl dX7_seek_56 ?_
              refine j_sipush (v := 500) h (by decide) dX7_seek_58 ?_
              refine j_icmp_ne h 80 dX7_seek_61 (by decide) (fun z4057 => ?_) (fun z4057 => ?_)
              · have z4057n : ¬ (v6_10_444 + 1) = 500 := fun q9 => z4057 ((nI_eq (a := (v6_10_444 + 1)) (b := 500) (by omega) (by omega)).mpr q9)
                refine j_aload_n h 2 rfl rfl dX7_seek_80 ?_
                refine j_dup h rfl dX7_seek_81 ?_
                refine jm_get h iw_X7 12 rfl rfl 3 (by decide +kernel) tw_446 rfl dX7_seek_82 ?_
                refine j_iconst (v := 1) h (by decide) dX7_seek_85 ?_
                refine j_isub h dX7_seek_86 ?_
                obtain ⟨y4058, hy4059⟩ : ∃ y9, y9 = j4034 := ⟨_, rfl⟩
                refine j_top (b := pm y4058) (by rw [hy4059]; exact pm_sub j4034) ?_
                refine jm_put (w' := [(s, .inl (.inr (5, [.ref s0, .ref s1, .ref s2, .ref s3, .ref s4, .ref s5, .ref s6, .ref s7, .ref s8, .ref s9, .ref s10, .ref s11, .int (nI sn), .int (nI sl), .int (nI se)]))), (s1, .inl (.inl (kA 1, 6, .inl sc1))), (s7, .inl (.inl (kA 1, 10, .inl sc7))), (s8, .inr (kA 6, kA 1, 10, 2, .inl sc8)), (g, .inl (.inr (3, [.ref g0, .ref g1, .ref g2, .ref g3, .ref g4, .ref g5, .ref g6, .ref g7, .int (nI gn), .int (nI gtm), .int (nI gms)]))), (g0, .inl (.inl (kA 1, 6, .inl gtk))), (g1, .inr (kA 6, kA 1, 6, 2, .inl gaf)), (g2, .inr (kA 6, kA 1, 6, 60, .inl gco)), (g3, .inr (kA 7, kA 2, 8, 61, .inr gwy)), (v0, .inr (kA 6, kA 1, 10, 45, .inl vls)), (v1, .inl (.inl (kA 1, 6, .inl vss))), (v2, .inl (.inl (kA 1, 60, .inl fv2_10_444))), (sk, .inl (.inr (7, [.ref sk0, .ref sk1, .ref sk2, .int (pm y4058)]))), (sk0, .inl (.inl (kA 1, 61, .inl fsk0_10_444))), (sk1, .inl (.inl (kA 1, 61, .inl fsk1_10_444))), (sk2, .inl (.inl (kA 1, 61, .inl fsk2_10_444))), (v, .inl (.inr (4, [.ref v0, .ref v1, .ref v2, .ref v3, .int vbk]))), (v3, .inl (.inl (kA 2, 2, .inr (.inl fv3_10_444))))]) h iw_X7 tyX7 tyX7_ok nmX7 12 rfl rfl 3 (by decide +kernel) tw_446 rfl rfl rfl (Nat.le_of_ble_eq_true rfl) dX7_seek_87 rfl ?_
                refine j_goto h 100 dX7_seek_90 (by decide) ?_
                refine j_iinc (v := nI (v7_10_444 + 1)) (lv' := [(7, .int (nI (v7_10_444 + 1))), (6, .int (nI (v6_10_444 + 1))), (0, .ref sk), (1, .ref s), (2, .ref g), (3, .ref v), (4, .long wl)]) h dX7_seek_100 1 rfl (nI_add v7_10_444 1) (by decide) rfl ?_
                refine j_goto h 10 dX7_seek_103 (by decide) ?_
                refine jm_sub [0, 1, 2, 3, 4, 5, 6, 7, 8, 16, 9, 10, 11, 17, 12, 13, 14, 15] (w' := [(s, .inl (.inr (5, [.ref s0, .ref s1, .ref s2, .ref s3, .ref s4, .ref s5, .ref s6, .ref s7, .ref s8, .ref s9, .ref s10, .ref s11, .int (nI sn), .int (nI sl), .int (nI se)]))), (s1, .inl (.inl (kA 1, 6, .inl sc1))), (s7, .inl (.inl (kA 1, 10, .inl sc7))), (s8, .inr (kA 6, kA 1, 10, 2, .inl sc8)), (g, .inl (.inr (3, [.ref g0, .ref g1, .ref g2, .ref g3, .ref g4, .ref g5, .ref g6, .ref g7, .int (nI gn), .int (nI gtm), .int (nI gms)]))), (g0, .inl (.inl (kA 1, 6, .inl gtk))), (g1, .inr (kA 6, kA 1, 6, 2, .inl gaf)), (g2, .inr (kA 6, kA 1, 6, 60, .inl gco)), (g3, .inr (kA 7, kA 2, 8, 61, .inr gwy)), (v, .inl (.inr (4, [.ref v0, .ref v1, .ref v2, .ref v3, .int vbk]))), (v0, .inr (kA 6, kA 1, 10, 45, .inl vls)), (v1, .inl (.inl (kA 1, 6, .inl vss))), (v2, .inl (.inl (kA 1, 60, .inl fv2_10_444))), (v3, .inl (.inl (kA 2, 2, .inr (.inl fv3_10_444)))), (sk, .inl (.inr (7, [.ref sk0, .ref sk1, .ref sk2, .int (pm y4058)]))), (sk0, .inl (.inl (kA 1, 61, .inl fsk0_10_444))), (sk1, .inl (.inl (kA 1, 61, .inl fsk1_10_444))), (sk2, .inl (.inl (kA 1, 61, .inl fsk2_10_444)))]) rfl (by decide +kernel) [0, 1, 2, 3, 4, 5, 6] (lv' := [(7, .int (nI (v7_10_444 + 1))), (6, .int (nI (v6_10_444 + 1))), (0, .ref sk), (1, .ref s), (2, .ref g), (3, .ref v), (4, .long wl)]) rfl ?_
                exact ih10_444 (v7_10_444 + 1) (v6_10_444 + 1) fv2_10_444 fv3_10_444 y4058 fsk0_10_444 fsk1_10_444 fsk2_10_444 (show y4058 ≤ 61 by first | assumption | omega) (show RoOk (gtm + 1) y4058 fsk1_10_444 by first | assumption | exact RoOk_mono (by assumption) (by omega) | exact RoOk_step (by assumption) (by omega) | omega) (show RoOk 2 y4058 fsk2_10_444 by first | assumption | exact RoOk_mono (by assumption) (by omega) | exact RoOk_step (by assumption) (by omega) | omega) (show WkOk y4058 fsk0_10_444 by first | assumption | exact WkOk_mono (by assumption) (by omega) | exact WkOk_step (by assumption) (by omega) | omega) (show (v6_10_444 + 1) ≤ 499 by first | assumption | omega) (show (v7_10_444 + 1) ≤ 1000000 by first | assumption | omega) (show (v6_10_444 + 1) ≤ 100000 by first | assumption | omega) (show y4058 ≤ 100000 by first | assumption | omega) (show 1000001 - (v7_10_444 + 1) < m10_444 by omega)
              · have z4057n : (v6_10_444 + 1) = 500 := (nI_eq (a := (v6_10_444 + 1)) (b := 500) (by omega) (by omega)).mp z4057
                refine j_lload h 6 rfl dX7_seek_64 ?_
                refine j_ldc2 h tw_990 dX7_seek_66 ?_
                refine j_lcmp h dX7_seek_69 ?_
                refine j_if_le h 78 dX7_seek_70 (by decide) (fun z4060 => ?_) (fun z4060 => ?_)
                · show J x (mflat [(s, .inl (.inr (5, [.ref s0, .ref s1, .ref s2, .ref s3, .ref s4, .ref s5, .ref s6, .ref s7, .ref s8, .ref s9, .ref s10, .ref s11, .int (nI sn), .int (nI sl), .int (nI se)]))), (s1, .inl (.inl (kA 1, 6, .inl sc1))), (s7, .inl (.inl (kA 1, 10, .inl sc7))), (s8, .inr (kA 6, kA 1, 10, 2, .inl sc8)), (g, .inl (.inr (3, [.ref g0, .ref g1, .ref g2, .ref g3, .ref g4, .ref g5, .ref g6, .ref g7, .int (nI gn), .int (nI gtm), .int (nI gms)]))), (g0, .inl (.inl (kA 1, 6, .inl gtk))), (g1, .inr (kA 6, kA 1, 6, 2, .inl gaf)), (g2, .inr (kA 6, kA 1, 6, 60, .inl gco)), (g3, .inr (kA 7, kA 2, 8, 61, .inr gwy)), (v0, .inr (kA 6, kA 1, 10, 45, .inl vls)), (v1, .inl (.inl (kA 1, 6, .inl vss))), (v2, .inl (.inl (kA 1, 60, .inl fv2_10_444))), (sk, .inl (.inr (7, [.ref sk0, .ref sk1, .ref sk2, .int (nI j4034)]))), (sk0, .inl (.inl (kA 1, 61, .inl fsk0_10_444))), (sk1, .inl (.inl (kA 1, 61, .inl fsk1_10_444))), (sk2, .inl (.inl (kA 1, 61, .inl fsk2_10_444))), (v, .inl (.inr (4, [.ref v0, .ref v1, .ref v2, .ref v3, .int vbk]))), (v3, .inl (.inl (kA 2, 2, .inr (.inl fv3_10_444))))]) [(6, .int (nI (v6_10_444 + 1))), (7, .int (nI v7_10_444)), (0, .ref sk), (1, .ref s), (2, .ref g), (3, .ref v), (4, .long wl)] 0 0 78 []
                  refine j_iconst (v := 0) h (by decide) dX7_seek_78 ?_
                  exact jm_iret h hq dX7_seek_79 ((j4034 + 1), fsk0_10_444, fsk1_10_444, fsk2_10_444, fv2_10_444, fv3_10_444) [12, 13, 14, 15, 0, 1, 2, 3, 4, 5, 6, 7, 8, 16, 9, 10, 11, 17] rfl (by decide) (show (j4034 + 1) ≤ 61 by first | assumption | omega) (Nat.le_of_ble_eq_true rfl) (Nat.le_of_ble_eq_true rfl)
                · show J x (mflat [(s, .inl (.inr (5, [.ref s0, .ref s1, .ref s2, .ref s3, .ref s4, .ref s5, .ref s6, .ref s7, .ref s8, .ref s9, .ref s10, .ref s11, .int (nI sn), .int (nI sl), .int (nI se)]))), (s1, .inl (.inl (kA 1, 6, .inl sc1))), (s7, .inl (.inl (kA 1, 10, .inl sc7))), (s8, .inr (kA 6, kA 1, 10, 2, .inl sc8)), (g, .inl (.inr (3, [.ref g0, .ref g1, .ref g2, .ref g3, .ref g4, .ref g5, .ref g6, .ref g7, .int (nI gn), .int (nI gtm), .int (nI gms)]))), (g0, .inl (.inl (kA 1, 6, .inl gtk))), (g1, .inr (kA 6, kA 1, 6, 2, .inl gaf)), (g2, .inr (kA 6, kA 1, 6, 60, .inl gco)), (g3, .inr (kA 7, kA 2, 8, 61, .inr gwy)), (v0, .inr (kA 6, kA 1, 10, 45, .inl vls)), (v1, .inl (.inl (kA 1, 6, .inl vss))), (v2, .inl (.inl (kA 1, 60, .inl fv2_10_444))), (sk, .inl (.inr (7, [.ref sk0, .ref sk1, .ref sk2, .int (nI j4034)]))), (sk0, .inl (.inl (kA 1, 61, .inl fsk0_10_444))), (sk1, .inl (.inl (kA 1, 61, .inl fsk1_10_444))), (sk2, .inl (.inl (kA 1, 61, .inl fsk2_10_444))), (v, .inl (.inr (4, [.ref v0, .ref v1, .ref v2, .ref v3, .int vbk]))), (v3, .inl (.inl (kA 2, 2, .inr (.inl fv3_10_444))))]) [(6, .int (nI (v6_10_444 + 1))), (7, .int (nI v7_10_444)), (0, .ref sk), (1, .ref s), (2, .ref g), (3, .ref v), (4, .long wl)] 0 0 73 []
                  refine j_bipush (v := (-2)) h (by decide) dX7_seek_73 ?_
                  refine j_goto h 79 dX7_seek_75 (by decide) ?_
                  exact jm_iret h hq dX7_seek_79 ((j4034 + 1), fsk0_10_444, fsk1_10_444, fsk2_10_444, fv2_10_444, fv3_10_444) [12, 13, 14, 15, 0, 1, 2, 3, 4, 5, 6, 7, 8, 16, 9, 10, 11, 17] rfl (by decide) (show (j4034 + 1) ≤ 61 by first | assumption | omega) (Nat.le_of_ble_eq_true rfl) (Nat.le_of_ble_eq_true rfl)
            · have z4056n : q4051 = 0 := (nI_eq (a := q4051) (b := 0) (by omega) (by omega)).mp z4056
              refine j_iconst (v := 1) h (by decide) dX7_seek_51 ?_
              exact jm_iret h hq dX7_seek_52 ((j4034 + 1), fsk0_10_444, fsk1_10_444, fsk2_10_444, fv2_10_444, fv3_10_444) [12, 13, 14, 15, 0, 1, 2, 3, 4, 5, 6, 7, 8, 16, 9, 10, 11, 17] rfl (by decide) (show (j4034 + 1) ≤ 61 by first | assumption | omega) (Nat.le_of_ble_eq_true rfl) (Nat.le_of_ble_eq_true rfl)
  refine jm_sub [0, 1, 2, 3, 4, 5, 6, 7, 8, 9, 10, 11, 12, 13, 14, 15, 16, 17] (w' := [(s, .inl (.inr (5, [.ref s0, .ref s1, .ref s2, .ref s3, .ref s4, .ref s5, .ref s6, .ref s7, .ref s8, .ref s9, .ref s10, .ref s11, .int (nI sn), .int (nI sl), .int (nI se)]))), (s1, .inl (.inl (kA 1, 6, .inl sc1))), (s7, .inl (.inl (kA 1, 10, .inl sc7))), (s8, .inr (kA 6, kA 1, 10, 2, .inl sc8)), (g, .inl (.inr (3, [.ref g0, .ref g1, .ref g2, .ref g3, .ref g4, .ref g5, .ref g6, .ref g7, .int (nI gn), .int (nI gtm), .int (nI gms)]))), (g0, .inl (.inl (kA 1, 6, .inl gtk))), (g1, .inr (kA 6, kA 1, 6, 2, .inl gaf)), (g2, .inr (kA 6, kA 1, 6, 60, .inl gco)), (g3, .inr (kA 7, kA 2, 8, 61, .inr gwy)), (v, .inl (.inr (4, [.ref v0, .ref v1, .ref v2, .ref v3, .int vbk]))), (v0, .inr (kA 6, kA 1, 10, 45, .inl vls)), (v1, .inl (.inl (kA 1, 6, .inl vss))), (v2, .inl (.inl (kA 1, 60, .inl vhs))), (v3, .inl (.inl (kA 2, 2, .inr (.inl vrd)))), (sk, .inl (.inr (7, [.ref sk0, .ref sk1, .ref sk2, .int 0]))), (sk0, .inl (.inl (kA 1, 61, .inl q3972))), (sk1, .inl (.inl (kA 1, 61, .inl q3973))), (sk2, .inl (.inl (kA 1, 61, .inl q3974)))]) rfl (by decide +kernel) [0, 1, 2, 3, 4, 5, 6] (lv' := [(7, .int 0), (6, .int 0), (0, .ref sk), (1, .ref s), (2, .ref g), (3, .ref v), (4, .long wl)]) rfl ?_
  exact lp10_444 (1000001 - 0 + 1) 0 0 vhs vrd 1 q3972 q3973 q3974 (show 1 ≤ 61 by first | assumption | omega) (show RoOk (gtm + 1) 1 q3973 by first | assumption | exact RoOk_mono (by assumption) (by omega) | exact RoOk_step (by assumption) (by omega) | omega) (show RoOk 2 1 q3974 by first | assumption | exact RoOk_mono (by assumption) (by omega) | exact RoOk_step (by assumption) (by omega) | omega) (show WkOk 1 q3972 by first | assumption | exact WkOk_mono (by assumption) (by omega) | exact WkOk_step (by assumption) (by omega) | omega) (show 0 ≤ 499 by first | assumption | omega) (show 0 ≤ 1000000 by first | assumption | omega) (show 0 ≤ 100000 by first | assumption | omega) (show 1 ≤ 100000 by first | assumption | omega) (Nat.lt_succ_self _)
set_option maxHeartbeats 4000000 in
set_option maxRecDepth 100000 in
theorem s_X7_copyWalk (lau : Launch) (gg : va_G) (kA : Nat → ClassId) (sk : Nat) (o : Nat) (sk0 : Nat) (sk1 : Nat) (sk2 : Nat) (skz : Nat) (skw : Nat → Int32) (of : Nat → Int32) (hskz : skz ≤ 61) : CtI lau yX7_copyWalk cX7_copyWalk 3 (some .int) 1 0 0 gg kA [.ref sk, .ref o] (mflat [(sk, .inl (.inr (7, [.ref sk0, .ref sk1, .ref sk2, .int (pm skz)]))), (sk0, .inl (.inl (kA 1, 61, .inl skw))), (o, .inl (.inl (kA 1, 60, .inl of)))]) (S := Nat × Nat × (Nat → Int32)) (fun (r : Int32) ((y_r, y_sk_3, y_o) : Nat × Nat × (Nat → Int32)) => r = nI y_r ∧ (y_r ≤ 60)) (fun ((y_r, y_sk_3, y_o) : Nat × Nat × (Nat → Int32)) => mflat [(sk, .inl (.inr (7, [.ref sk0, .ref sk1, .ref sk2, .int (pm y_sk_3)]))), (sk0, .inl (.inl (kA 1, 61, .inl skw))), (o, .inl (.inl (kA 1, 60, .inl y_o)))]) := by
  refine nx_startI (by decide +kernel) (Nat.le_of_ble_eq_true rfl) ?_
  intro x hnm h hq
  have h : Ok x cX7_copyWalk RX7 kA (rmC 1 0 0) 3 := h
  show J x (mflat [(sk, .inl (.inr (7, [.ref sk0, .ref sk1, .ref sk2, .int (pm skz)]))), (sk0, .inl (.inl (kA 1, 61, .inl skw))), (o, .inl (.inl (kA 1, 60, .inl of)))]) [(0, .ref sk), (1, .ref o)] 0 0 0 []
  refine j_iconst (v := 0) h (by decide) dX7_copyWalk_0 ?_
  refine j_aload_n h 0 rfl rfl dX7_copyWalk_1 ?_
  refine jm_get h iw_X7 0 rfl rfl 3 (by decide +kernel) tw_446 rfl dX7_copyWalk_2 ?_
  refine j_aload_n h 1 rfl rfl dX7_copyWalk_5 ?_
  refine jm_alen (v := 60) h 2 1 rfl rfl rfl dX7_copyWalk_6 ?_
  rcases skz with _ | j4062
  · show J x (mflat [(sk, .inl (.inr (7, [.ref sk0, .ref sk1, .ref sk2, .int (-1)]))), (sk0, .inl (.inl (kA 1, 61, .inl skw))), (o, .inl (.inl (kA 1, 60, .inl of)))]) [(0, .ref sk), (1, .ref o)] 0 0 7 [.int 60, .int (-1), .int 0]
    refine j_mmin h tw_1010 tw_809 tw_105 tw_810 (Nat.le_of_ble_eq_true rfl) (Nat.le_of_ble_eq_true rfl) (Nat.le_of_ble_eq_true rfl) (Nat.le_of_ble_eq_true rfl) (Nat.le_of_ble_eq_true rfl) dX7_copyWalk_7 ?_
    refine j_top (b := (-1)) (by decide) ?_
    refine j_mmax h tw_1011 tw_803 tw_105 tw_804 (Nat.le_of_ble_eq_true rfl) (Nat.le_of_ble_eq_true rfl) (Nat.le_of_ble_eq_true rfl) (Nat.le_of_ble_eq_true rfl) (Nat.le_of_ble_eq_true rfl) dX7_copyWalk_10 ?_
    refine j_top (b := 0) (by decide) ?_
    refine j_istore_n (lv' := [(2, .int 0), (0, .ref sk), (1, .ref o)]) h dX7_copyWalk_13 rfl (by decide) rfl ?_
    refine j_aload_n h 1 rfl rfl dX7_copyWalk_14 ?_
    refine jm_get h iw_X7 0 rfl rfl 0 (by decide +kernel) tw_443 rfl dX7_copyWalk_15 ?_
    refine j_iconst (v := 0) h (by decide) dX7_copyWalk_18 ?_
    refine j_aload_n h 2 rfl rfl dX7_copyWalk_19 ?_
    refine j_iconst (v := 0) h (by decide) dX7_copyWalk_20 ?_
    refine j_iload_n h 0 rfl rfl dX7_copyWalk_21 ?_
    refine jm_copyi (w' := [(sk, .inl (.inr (7, [.ref sk0, .ref sk1, .ref sk2, .int (-1)]))), (sk0, .inl (.inl (kA 1, 61, .inl skw))), (o, .inl (.inl (kA 1, 60, .inl (va_cpy skw of 0 0 0))))]) h tw_1012 tw_741 tw_740 tw_104 1 2 rfl rfl 0 0 0 (by decide +kernel) (by decide +kernel) (by decide +kernel) (by decide +kernel) (by decide +kernel) (by decide +kernel) (by decide +kernel) (Nat.le_of_ble_eq_true rfl) (Nat.le_of_ble_eq_true rfl) (Nat.le_of_ble_eq_true rfl) dX7_copyWalk_22 rfl ?_
    refine j_iload_n h 0 rfl rfl dX7_copyWalk_25 ?_
    exact jm_iret h hq dX7_copyWalk_26 (0, 0, (va_cpy skw of 0 0 0)) [0, 1, 2] rfl (by decide) ⟨rfl, (show 0 ≤ 60 by first | assumption | omega)⟩ (Nat.le_of_ble_eq_true rfl) (Nat.le_of_ble_eq_true rfl)
  · show J x (mflat [(sk, .inl (.inr (7, [.ref sk0, .ref sk1, .ref sk2, .int (nI j4062)]))), (sk0, .inl (.inl (kA 1, 61, .inl skw))), (o, .inl (.inl (kA 1, 60, .inl of)))]) [(0, .ref sk), (1, .ref o)] 0 0 7 [.int 60, .int (nI j4062), .int 0]
    refine j_mmin h tw_1010 tw_809 tw_105 tw_810 (Nat.le_of_ble_eq_true rfl) (Nat.le_of_ble_eq_true rfl) (Nat.le_of_ble_eq_true rfl) (Nat.le_of_ble_eq_true rfl) (Nat.le_of_ble_eq_true rfl) dX7_copyWalk_7 ?_
    refine j_top (b := nI (min j4062 60)) (nx_min (a := j4062) (b := 60) (by omega) (by omega)) ?_
    refine j_mmax h tw_1011 tw_803 tw_105 tw_804 (Nat.le_of_ble_eq_true rfl) (Nat.le_of_ble_eq_true rfl) (Nat.le_of_ble_eq_true rfl) (Nat.le_of_ble_eq_true rfl) (Nat.le_of_ble_eq_true rfl) dX7_copyWalk_10 ?_
    refine j_top (b := nI (max 0 (min j4062 60))) (nx_max (a := 0) (b := (min j4062 60)) (by omega) (by omega)) ?_
    refine j_istore_n (lv' := [(2, .int (nI (max 0 (min j4062 60)))), (0, .ref sk), (1, .ref o)]) h dX7_copyWalk_13 rfl (by decide) rfl ?_
    refine j_aload_n h 1 rfl rfl dX7_copyWalk_14 ?_
    refine jm_get h iw_X7 0 rfl rfl 0 (by decide +kernel) tw_443 rfl dX7_copyWalk_15 ?_
    refine j_iconst (v := 0) h (by decide) dX7_copyWalk_18 ?_
    refine j_aload_n h 2 rfl rfl dX7_copyWalk_19 ?_
    refine j_iconst (v := 0) h (by decide) dX7_copyWalk_20 ?_
    refine j_iload_n h 0 rfl rfl dX7_copyWalk_21 ?_
    refine jm_copyi (w' := [(sk, .inl (.inr (7, [.ref sk0, .ref sk1, .ref sk2, .int (nI j4062)]))), (sk0, .inl (.inl (kA 1, 61, .inl skw))), (o, .inl (.inl (kA 1, 60, .inl (va_cpy skw of 0 0 (max 0 (min j4062 60))))))]) h tw_1012 tw_741 tw_740 tw_104 1 2 rfl rfl 0 0 (max 0 (min j4062 60)) (by decide +kernel) (by decide +kernel) rfl (by omega) (by omega) (by decide +kernel) (by decide +kernel) (Nat.le_of_ble_eq_true rfl) (Nat.le_of_ble_eq_true rfl) (Nat.le_of_ble_eq_true rfl) dX7_copyWalk_22 rfl ?_
    refine j_iload_n h 0 rfl rfl dX7_copyWalk_25 ?_
    exact jm_iret h hq dX7_copyWalk_26 ((max 0 (min j4062 60)), (j4062 + 1), (va_cpy skw of 0 0 (max 0 (min j4062 60)))) [0, 1, 2] rfl (by decide) ⟨rfl, (show (max 0 (min j4062 60)) ≤ 60 by first | assumption | omega)⟩ (Nat.le_of_ble_eq_true rfl) (Nat.le_of_ble_eq_true rfl)
set_option maxHeartbeats 4000000 in
set_option maxRecDepth 100000 in
theorem s_X1_sortUpwards (lau : Launch) (gg : va_G) (kA : Nat → ClassId) (o : Nat) (n : Nat) (of : Nat → Int32) (hn : n ≤ 10) : CtV lau yX1_sortUpwards cX1_sortUpwards 5 (none) 1 0 0 gg kA [.ref o, .int (nI n)] (mflat [(o, .inl (.inl (kA 1, 10, .inl of)))]) (S := (Nat → Int32)) (fun (y_o : (Nat → Int32)) => True) (fun (y_o : (Nat → Int32)) => mflat [(o, .inl (.inl (kA 1, 10, .inl y_o)))]) := by
  refine nx_startV (by decide +kernel) (Nat.le_of_ble_eq_true rfl) ?_
  intro x hnm h hq
  have h : Ok x cX1_sortUpwards RX1 kA (rmC 1 0 0) 5 := h
  show J x (mflat [(o, .inl (.inl (kA 1, 10, .inl of)))]) [(0, .ref o), (1, .int (nI n))] 0 0 0 []
  refine j_iconst (v := 1) h (by decide) dX1_sortUpwards_0 ?_
  refine j_istore_n (lv' := [(2, .int 1), (0, .ref o), (1, .int (nI n))]) h dX1_sortUpwards_1 rfl (by decide) rfl ?_
  have lp2_467 : ∀ (m2_467 : Nat), ∀ (v2_2_467 : Nat) (fo_2_467 : Nat → Int32), (1 ≤ v2_2_467) → (v2_2_467 ≤ 100000) → 100001 - v2_2_467 < m2_467 → J x (mflat [(o, .inl (.inl (kA 1, 10, .inl fo_2_467)))]) [(2, .int (nI v2_2_467)), (0, .ref o), (1, .int (nI n))] 0 0 2 [] := by
    intro m2_467
    induction m2_467 with
    | zero =>
      intro v2_2_467 fo_2_467 i2_467_0 i2_467_1 hm2_467
      exact absurd hm2_467 (Nat.not_lt_zero _)
    | succ m2_467 ih2_467 =>
      intro v2_2_467 fo_2_467 i2_467_0 i2_467_1 hm2_467
      refine j_iload_n h 0 rfl rfl dX1_sortUpwards_2 ?_
      refine j_iload_n h 2 rfl rfl dX1_sortUpwards_3 ?_
      refine j_icmp_ge h 56 dX1_sortUpwards_4 (by decide) (fun z4140 => ?_) (fun z4140 => ?_)
      · have z4140n : n ≤ v2_2_467 := (nI_leI (a := n) (b := v2_2_467) (by omega) (by omega)).mp z4140
        exact jm_vret h hq dX1_sortUpwards_56 fo_2_467 [0] rfl (by decide) trivial (Nat.le_of_ble_eq_true rfl) (Nat.le_of_ble_eq_true rfl)
      · have z4140n : ¬ n ≤ v2_2_467 := fun q9 => z4140 ((nI_leI (a := n) (b := v2_2_467) (by omega) (by omega)).mpr q9)
        refine j_iload_n h 0 rfl rfl dX1_sortUpwards_7 ?_
        refine j_istore_n (lv' := [(3, .int (nI v2_2_467)), (2, .int (nI v2_2_467)), (0, .ref o), (1, .int (nI n))]) h dX1_sortUpwards_8 rfl (by decide) rfl ?_
        have lp9_470 : ∀ (m9_470 : Nat), ∀ (v3_9_470 : Nat) (fo_9_470 : Nat → Int32), (v3_9_470 ≤ v2_2_467 + 1) → (v3_9_470 ≤ 100000) → v3_9_470 < m9_470 → J x (mflat [(o, .inl (.inl (kA 1, 10, .inl fo_9_470)))]) [(3, .int (pm v3_9_470)), (2, .int (nI v2_2_467)), (0, .ref o), (1, .int (nI n))] 0 0 9 [] := by
          intro m9_470
          induction m9_470 with
          | zero =>
            intro v3_9_470 fo_9_470 i9_470_0 i9_470_1 hm9_470
            exact absurd hm9_470 (Nat.not_lt_zero _)
          | succ m9_470 ih9_470 =>
            intro v3_9_470 fo_9_470 i9_470_0 i9_470_1 hm9_470
            refine j_iload_n h 0 rfl rfl dX1_sortUpwards_9 ?_
            rcases v3_9_470 with _ | j4150
            · show J x (mflat [(o, .inl (.inl (kA 1, 10, .inl fo_9_470)))]) [(3, .int (-1)), (2, .int (nI v2_2_467)), (0, .ref o), (1, .int (nI n))] 0 0 10 [.int (-1)]
              refine j_if_le h 50 dX1_sortUpwards_10 (by decide) (fun _ => ?_) (fun q => absurd (by decide) q)
              refine j_iinc (v := nI (v2_2_467 + 1)) (lv' := [(2, .int (nI (v2_2_467 + 1))), (3, .int (-1)), (0, .ref o), (1, .int (nI n))]) h dX1_sortUpwards_50 1 rfl (nI_add v2_2_467 1) (by decide) rfl ?_
              refine j_goto h 2 dX1_sortUpwards_53 (by decide) ?_
              refine jm_sub [0] (w' := [(o, .inl (.inl (kA 1, 10, .inl fo_9_470)))]) rfl (by decide +kernel) [0, 2, 3] (lv' := [(2, .int (nI (v2_2_467 + 1))), (0, .ref o), (1, .int (nI n))]) rfl ?_
              exact ih2_467 (v2_2_467 + 1) fo_9_470 (show 1 ≤ (v2_2_467 + 1) by first | assumption | omega) (show (v2_2_467 + 1) ≤ 100000 by first | assumption | omega) (show 100001 - (v2_2_467 + 1) < m2_467 by first | exact Nat.lt_of_lt_of_le (Nat.sub_lt_sub_left (Nat.lt_of_le_of_lt (show v2_2_467 ≤ 100000 by assumption) (Nat.lt_succ_self 100000)) (Nat.lt_succ_self v2_2_467)) (Nat.le_of_lt_succ hm2_467) | omega)
            · show J x (mflat [(o, .inl (.inl (kA 1, 10, .inl fo_9_470)))]) [(3, .int (nI j4150)), (2, .int (nI v2_2_467)), (0, .ref o), (1, .int (nI n))] 0 0 10 [.int (nI j4150)]
              refine j_if_le h 50 dX1_sortUpwards_10 (by decide) (fun z4151 => ?_) (fun z4151 => ?_)
              · have z4151n : j4150 ≤ 0 := (nI_leI (a := j4150) (b := 0) (by omega) (by omega)).mp z4151
                refine j_iinc (v := nI (v2_2_467 + 1)) (lv' := [(2, .int (nI (v2_2_467 + 1))), (3, .int (nI j4150)), (0, .ref o), (1, .int (nI n))]) h dX1_sortUpwards_50 1 rfl (nI_add v2_2_467 1) (by decide) rfl ?_
                refine j_goto h 2 dX1_sortUpwards_53 (by decide) ?_
                refine jm_sub [0] (w' := [(o, .inl (.inl (kA 1, 10, .inl fo_9_470)))]) rfl (by decide +kernel) [0, 2, 3] (lv' := [(2, .int (nI (v2_2_467 + 1))), (0, .ref o), (1, .int (nI n))]) rfl ?_
                exact ih2_467 (v2_2_467 + 1) fo_9_470 (show 1 ≤ (v2_2_467 + 1) by first | assumption | omega) (show (v2_2_467 + 1) ≤ 100000 by first | assumption | omega) (show 100001 - (v2_2_467 + 1) < m2_467 by first | exact Nat.lt_of_lt_of_le (Nat.sub_lt_sub_left (Nat.lt_of_le_of_lt (show v2_2_467 ≤ 100000 by assumption) (Nat.lt_succ_self 100000)) (Nat.lt_succ_self v2_2_467)) (Nat.le_of_lt_succ hm2_467) | omega)
              · have z4151n : ¬ j4150 ≤ 0 := fun q9 => z4151 ((nI_leI (a := j4150) (b := 0) (by omega) (by omega)).mpr q9)
                refine j_aload_n h 2 rfl rfl dX1_sortUpwards_13 ?_
                refine j_iload_n h 0 rfl rfl dX1_sortUpwards_14 ?_
                refine j_iconst (v := 1) h (by decide) dX1_sortUpwards_15 ?_
                refine j_isub h dX1_sortUpwards_16 ?_
                refine j_top (b := nI (j4150 - 1)) (pk_sub (a := j4150) (b := 1) (by omega)) ?_
                refine jm_iald h 0 rfl (j4150 - 1) rfl (by omega) (by omega) dX1_sortUpwards_17 ?_
                refine j_aload_n h 2 rfl rfl dX1_sortUpwards_18 ?_
                refine j_iload_n h 0 rfl rfl dX1_sortUpwards_19 ?_
                refine jm_iald h 0 rfl j4150 rfl (by omega) (by omega) dX1_sortUpwards_20 ?_
                refine j_icmp_le h 50 dX1_sortUpwards_21 (by decide) (fun z4152 => ?_) (fun z4152 => ?_)
                · show J x (mflat [(o, .inl (.inl (kA 1, 10, .inl fo_9_470)))]) [(3, .int (nI j4150)), (2, .int (nI v2_2_467)), (0, .ref o), (1, .int (nI n))] 0 0 50 []
                  refine j_iinc (v := nI (v2_2_467 + 1)) (lv' := [(2, .int (nI (v2_2_467 + 1))), (3, .int (nI j4150)), (0, .ref o), (1, .int (nI n))]) h dX1_sortUpwards_50 1 rfl (nI_add v2_2_467 1) (by decide) rfl ?_
                  refine j_goto h 2 dX1_sortUpwards_53 (by decide) ?_
                  refine jm_sub [0] (w' := [(o, .inl (.inl (kA 1, 10, .inl fo_9_470)))]) rfl (by decide +kernel) [0, 2, 3] (lv' := [(2, .int (nI (v2_2_467 + 1))), (0, .ref o), (1, .int (nI n))]) rfl ?_
                  exact ih2_467 (v2_2_467 + 1) fo_9_470 (show 1 ≤ (v2_2_467 + 1) by first | assumption | omega) (show (v2_2_467 + 1) ≤ 100000 by first | assumption | omega) (show 100001 - (v2_2_467 + 1) < m2_467 by first | exact Nat.lt_of_lt_of_le (Nat.sub_lt_sub_left (Nat.lt_of_le_of_lt (show v2_2_467 ≤ 100000 by assumption) (Nat.lt_succ_self 100000)) (Nat.lt_succ_self v2_2_467)) (Nat.le_of_lt_succ hm2_467) | omega)
                · show J x (mflat [(o, .inl (.inl (kA 1, 10, .inl fo_9_470)))]) [(3, .int (nI j4150)), (2, .int (nI v2_2_467)), (0, .ref o), (1, .int (nI n))] 0 0 24 []
                  refine j_aload_n h 2 rfl rfl dX1_sortUpwards_24 ?_
                  refine j_iload_n h 0 rfl rfl dX1_sortUpwards_25 ?_
                  refine j_iconst (v := 1) h (by decide) dX1_sortUpwards_26 ?_
                  refine j_isub h dX1_sortUpwards_27 ?_
                  refine j_top (b := nI (j4150 - 1)) (pk_sub (a := j4150) (b := 1) (by omega)) ?_
                  refine jm_iald h 0 rfl (j4150 - 1) rfl (by omega) (by omega) dX1_sortUpwards_28 ?_
                  refine j_istore (lv' := [(4, .int (fo_9_470 (j4150 - 1))), (3, .int (nI j4150)), (2, .int (nI v2_2_467)), (0, .ref o), (1, .int (nI n))]) h dX1_sortUpwards_29 (by decide) rfl ?_
                  refine j_aload_n h 3 rfl rfl dX1_sortUpwards_31 ?_
                  refine j_iload_n h 1 rfl rfl dX1_sortUpwards_32 ?_
                  refine j_iconst (v := 1) h (by decide) dX1_sortUpwards_33 ?_
                  refine j_isub h dX1_sortUpwards_34 ?_
                  refine j_top (b := nI (j4150 - 1)) (pk_sub (a := j4150) (b := 1) (by omega)) ?_
                  refine j_aload_n h 3 rfl rfl dX1_sortUpwards_35 ?_
                  refine j_iload_n h 1 rfl rfl dX1_sortUpwards_36 ?_
                  refine jm_iald h 0 rfl j4150 rfl (by omega) (by omega) dX1_sortUpwards_37 ?_
                  refine jm_iast (w' := [(o, .inl (.inl (kA 1, 10, .inl (upd fo_9_470 (j4150 - 1) (fo_9_470 j4150)))))]) h 0 rfl (j4150 - 1) rfl (by omega) (by omega) dX1_sortUpwards_38 rfl ?_
                  refine j_aload_n h 3 rfl rfl dX1_sortUpwards_39 ?_
                  refine j_iload_n h 1 rfl rfl dX1_sortUpwards_40 ?_
                  refine j_iload h 0 rfl dX1_sortUpwards_41 ?_
                  refine jm_iast (w' := [(o, .inl (.inl (kA 1, 10, .inl (upd (upd fo_9_470 (j4150 - 1) (fo_9_470 j4150)) j4150 (fo_9_470 (j4150 - 1))))))]) h 0 rfl j4150 rfl (by omega) (by omega) dX1_sortUpwards_43 rfl ?_
                  obtain ⟨y4153, hy4154⟩ : ∃ y9, y9 = j4150 := ⟨_, rfl⟩
                  refine j_iinc (v := pm y4153) (lv' := [(3, .int (pm y4153)), (4, .int (fo_9_470 (j4150 - 1))), (2, .int (nI v2_2_467)), (0, .ref o), (1, .int (nI n))]) h dX1_sortUpwards_44 1 rfl (by rw [hy4154]; exact pm_dec _) (by decide) rfl ?_
                  refine j_goto h 9 dX1_sortUpwards_47 (by decide) ?_
                  refine jm_sub [0] (w' := [(o, .inl (.inl (kA 1, 10, .inl (upd (upd fo_9_470 (j4150 - 1) (fo_9_470 j4150)) j4150 (fo_9_470 (j4150 - 1))))))]) rfl (by decide +kernel) [0, 2, 3, 4] (lv' := [(3, .int (pm y4153)), (2, .int (nI v2_2_467)), (0, .ref o), (1, .int (nI n))]) rfl ?_
                  exact ih9_470 y4153 (upd (upd fo_9_470 (j4150 - 1) (fo_9_470 j4150)) j4150 (fo_9_470 (j4150 - 1))) (show y4153 ≤ v2_2_467 + 1 by first | assumption | omega) (show y4153 ≤ 100000 by first | assumption | omega) (show y4153 < m9_470 by omega)
        refine jm_sub [0] (w' := [(o, .inl (.inl (kA 1, 10, .inl fo_2_467)))]) rfl (by decide +kernel) [0, 1, 2, 3] (lv' := [(3, .int (nI v2_2_467)), (2, .int (nI v2_2_467)), (0, .ref o), (1, .int (nI n))]) rfl ?_
        exact lp9_470 ((v2_2_467 + 1) + 1) (v2_2_467 + 1) fo_2_467 (show (v2_2_467 + 1) ≤ v2_2_467 + 1 by first | assumption | omega) (show (v2_2_467 + 1) ≤ 100000 by first | assumption | omega) (Nat.lt_succ_self _)
  refine jm_sub [0] (w' := [(o, .inl (.inl (kA 1, 10, .inl of)))]) rfl (by decide +kernel) [0, 1, 2] (lv' := [(2, .int 1), (0, .ref o), (1, .int (nI n))]) rfl ?_
  exact lp2_467 (100001 - 1 + 1) 1 of (show 1 ≤ 1 by first | assumption | omega) (show 1 ≤ 100000 by first | assumption | omega) (Nat.lt_succ_self _)
set_option maxHeartbeats 4000000 in
set_option maxRecDepth 100000 in
theorem s_X1_leastOfRest (lau : Launch) (gg : va_G) (kA : Nat → ClassId) (d : Nat) (s : Nat) (fr : Nat) (d0 : Nat) (d1 : Nat) (d2 : Nat) (d3 : Nat) (dus : Nat → Int32) (dru : Nat → Int32) (drt : Nat → Int32) (dgv : Nat → Int32) (s0 : Nat) (s1 : Nat) (s2 : Nat) (s3 : Nat) (s4 : Nat) (s5 : Nat) (s6 : Nat) (s7 : Nat) (s8 : Nat) (s9 : Nat) (s10 : Nat) (s11 : Nat) (sn : Nat) (sl : Nat) (se : Nat) (sc7 : Nat → Int32) (hsn : sn ≤ 6) (hsl : sl ≤ 10) (hse : se ≤ 4) (hslt : LtOk sl sc7) (hfr : fr ≤ 10) : CtI lau yX1_leastOfRest cX1_leastOfRest 7 (some .int) 2 0 0 gg kA [.ref d, .ref s, .int (nI fr)] (mflat [(d, .inl (.inr (1, [.ref d0, .ref d1, .ref d2, .ref d3]))), (d0, .inl (.inl (kA 1, 10, .inl dus))), (d1, .inl (.inl (kA 1, 10, .inl dru))), (d2, .inl (.inl (kA 1, 10, .inl drt))), (d3, .inl (.inl (kA 3, 10, .inl dgv))), (s, .inl (.inr (5, [.ref s0, .ref s1, .ref s2, .ref s3, .ref s4, .ref s5, .ref s6, .ref s7, .ref s8, .ref s9, .ref s10, .ref s11, .int (nI sn), .int (nI sl), .int (nI se)]))), (s7, .inl (.inl (kA 1, 10, .inl sc7)))]) (S := (Nat → Int32) × (Nat → Int32)) (fun (r : Int32) ((y_d1, y_d2) : (Nat → Int32) × (Nat → Int32)) => True) (fun ((y_d1, y_d2) : (Nat → Int32) × (Nat → Int32)) => mflat [(d, .inl (.inr (1, [.ref d0, .ref d1, .ref d2, .ref d3]))), (d0, .inl (.inl (kA 1, 10, .inl dus))), (d1, .inl (.inl (kA 1, 10, .inl y_d1))), (d2, .inl (.inl (kA 1, 10, .inl y_d2))), (d3, .inl (.inl (kA 3, 10, .inl dgv))), (s, .inl (.inr (5, [.ref s0, .ref s1, .ref s2, .ref s3, .ref s4, .ref s5, .ref s6, .ref s7, .ref s8, .ref s9, .ref s10, .ref s11, .int (nI sn), .int (nI sl), .int (nI se)]))), (s7, .inl (.inl (kA 1, 10, .inl sc7)))]) := by
  refine nx_startI (by decide +kernel) (Nat.le_of_ble_eq_true rfl) ?_
  intro x hnm h hq
  have h : Ok x cX1_leastOfRest RX1 kA (rmC 2 0 0) 7 := h
  show J x (mflat [(d, .inl (.inr (1, [.ref d0, .ref d1, .ref d2, .ref d3]))), (d0, .inl (.inl (kA 1, 10, .inl dus))), (d1, .inl (.inl (kA 1, 10, .inl dru))), (d2, .inl (.inl (kA 1, 10, .inl drt))), (d3, .inl (.inl (kA 3, 10, .inl dgv))), (s, .inl (.inr (5, [.ref s0, .ref s1, .ref s2, .ref s3, .ref s4, .ref s5, .ref s6, .ref s7, .ref s8, .ref s9, .ref s10, .ref s11, .int (nI sn), .int (nI sl), .int (nI se)]))), (s7, .inl (.inl (kA 1, 10, .inl sc7)))]) [(0, .ref d), (1, .ref s), (2, .int (nI fr))] 0 0 0 []
  refine j_iconst (v := 0) h (by decide) dX1_leastOfRest_0 ?_
  refine j_istore_n (lv' := [(3, .int 0), (0, .ref d), (1, .ref s), (2, .int (nI fr))]) h dX1_leastOfRest_1 rfl (by decide) rfl ?_
  refine j_iload_n h 3 rfl rfl dX1_leastOfRest_2 ?_
  refine j_istore (lv' := [(4, .int (nI fr)), (3, .int 0), (0, .ref d), (1, .ref s), (2, .int (nI fr))]) h dX1_leastOfRest_3 (by decide) rfl ?_
  have lp5_527 : ∀ (m5_527 : Nat), ∀ (v4_5_527 : Nat) (v3_5_527 : Nat) (fd1_5_527 : Nat → Int32), (v3_5_527 + fr = v4_5_527) → (v4_5_527 ≤ 10) → (v4_5_527 ≤ 100000) → (v3_5_527 ≤ 100000) → 100001 - v4_5_527 < m5_527 → J x (mflat [(d, .inl (.inr (1, [.ref d0, .ref d1, .ref d2, .ref d3]))), (d0, .inl (.inl (kA 1, 10, .inl dus))), (d1, .inl (.inl (kA 1, 10, .inl fd1_5_527))), (d2, .inl (.inl (kA 1, 10, .inl drt))), (d3, .inl (.inl (kA 3, 10, .inl dgv))), (s, .inl (.inr (5, [.ref s0, .ref s1, .ref s2, .ref s3, .ref s4, .ref s5, .ref s6, .ref s7, .ref s8, .ref s9, .ref s10, .ref s11, .int (nI sn), .int (nI sl), .int (nI se)]))), (s7, .inl (.inl (kA 1, 10, .inl sc7)))]) [(4, .int (nI v4_5_527)), (3, .int (nI v3_5_527)), (0, .ref d), (1, .ref s), (2, .int (nI fr))] 0 0 5 [] := by
    intro m5_527
    induction m5_527 with
    | zero =>
      intro v4_5_527 v3_5_527 fd1_5_527 i5_527_0 i5_527_1 i5_527_2 i5_527_3 hm5_527
      exact absurd hm5_527 (Nat.not_lt_zero _)
    | succ m5_527 ih5_527 =>
      intro v4_5_527 v3_5_527 fd1_5_527 i5_527_0 i5_527_1 i5_527_2 i5_527_3 hm5_527
      refine j_iload h 0 rfl dX1_leastOfRest_5 ?_
      refine j_aload_n h 3 rfl rfl dX1_leastOfRest_7 ?_
      refine jm_get h iw_X5 5 rfl rfl 13 (by decide +kernel) tw_223 rfl dX1_leastOfRest_8 ?_
      refine j_icmp_ge h 36 dX1_leastOfRest_11 (by decide) (fun z4343 => ?_) (fun z4343 => ?_)
      · have z4343n : sl ≤ v4_5_527 := (nI_leI (a := sl) (b := v4_5_527) (by omega) (by omega)).mp z4343
        refine j_iconst (v := 0) h (by decide) dX1_leastOfRest_36 ?_
        refine j_istore (lv' := [(4, .int 0), (3, .int (nI v3_5_527)), (0, .ref d), (1, .ref s), (2, .int (nI fr))]) h dX1_leastOfRest_37 (by decide) rfl ?_
        refine j_iconst (v := 0) h (by decide) dX1_leastOfRest_39 ?_
        refine j_istore (lv' := [(5, .int 0), (4, .int 0), (3, .int (nI v3_5_527)), (0, .ref d), (1, .ref s), (2, .int (nI fr))]) h dX1_leastOfRest_40 (by decide) rfl ?_
        have lp42_535 : ∀ (m42_535 : Nat), ∀ (v5_42_535 : Nat) (v4_42_535 : Nat) (fd2_42_535 : Nat → Int32), (v4_42_535 ≤ v3_5_527) → (v5_42_535 ≤ 100000) → (v4_42_535 ≤ 100000) → 100001 - v5_42_535 < m42_535 → J x (mflat [(d, .inl (.inr (1, [.ref d0, .ref d1, .ref d2, .ref d3]))), (d0, .inl (.inl (kA 1, 10, .inl dus))), (d1, .inl (.inl (kA 1, 10, .inl fd1_5_527))), (d2, .inl (.inl (kA 1, 10, .inl fd2_42_535))), (d3, .inl (.inl (kA 3, 10, .inl dgv))), (s, .inl (.inr (5, [.ref s0, .ref s1, .ref s2, .ref s3, .ref s4, .ref s5, .ref s6, .ref s7, .ref s8, .ref s9, .ref s10, .ref s11, .int (nI sn), .int (nI sl), .int (nI se)]))), (s7, .inl (.inl (kA 1, 10, .inl sc7)))]) [(5, .int (nI v5_42_535)), (4, .int (nI v4_42_535)), (3, .int (nI v3_5_527)), (0, .ref d), (1, .ref s), (2, .int (nI fr))] 0 0 42 [] := by
          intro m42_535
          induction m42_535 with
          | zero =>
            intro v5_42_535 v4_42_535 fd2_42_535 i42_535_0 i42_535_1 i42_535_2 hm42_535
            exact absurd hm42_535 (Nat.not_lt_zero _)
          | succ m42_535 ih42_535 =>
            intro v5_42_535 v4_42_535 fd2_42_535 i42_535_0 i42_535_1 i42_535_2 hm42_535
            refine j_iload h 0 rfl dX1_leastOfRest_42 ?_
            refine j_aload_n h 4 rfl rfl dX1_leastOfRest_44 ?_
            refine jm_get h iw_X5 5 rfl rfl 13 (by decide +kernel) tw_223 rfl dX1_leastOfRest_45 ?_
            refine j_icmp_ge h 90 dX1_leastOfRest_48 (by decide) (fun z4373 => ?_) (fun z4373 => ?_)
            · have z4373n : sl ≤ v5_42_535 := (nI_leI (a := sl) (b := v5_42_535) (by omega) (by omega)).mp z4373
              refine j_aload_n h 3 rfl rfl dX1_leastOfRest_90 ?_
              refine jm_get h iw_X1 0 rfl rfl 1 (by decide +kernel) tw_463 rfl dX1_leastOfRest_91 ?_
              refine j_iload_n h 2 rfl rfl dX1_leastOfRest_94 ?_
              refine jm_callSv (np := 2) (isC := [2]) (isR := [0, 1, 3, 4, 5, 6]) (wc := [(d1, .inl (.inl (kA 1, 10, .inl fd1_5_527)))]) (wr := [(d, .inl (.inr (1, [.ref d0, .ref d1, .ref d2, .ref d3]))), (d0, .inl (.inl (kA 1, 10, .inl dus))), (d2, .inl (.inl (kA 1, 10, .inl fd2_42_535))), (d3, .inl (.inl (kA 3, 10, .inl dgv))), (s, .inl (.inr (5, [.ref s0, .ref s1, .ref s2, .ref s3, .ref s4, .ref s5, .ref s6, .ref s7, .ref s8, .ref s9, .ref s10, .ref s11, .int (nI sn), .int (nI sl), .int (nI se)]))), (s7, .inl (.inl (kA 1, 10, .inl sc7)))]) (rest := []) (As := [.ref d1, .int (nI v3_5_527)]) h (s_X1_sortUpwards _ _ kA d1 v3_5_527 fd1_5_527 (show v3_5_527 ≤ 10 by first | assumption | omega)) tw_1042 tw_1043 tw_98 tw_1044 (by decide +kernel) rfl ⟨Nat.le_of_ble_eq_true rfl, Nat.le_of_ble_eq_true rfl⟩ (by decide +kernel) rfl rfl (by decide +kernel) (by decide +kernel) (Nat.le_of_ble_eq_true rfl) rfl ⟨Nat.le_of_ble_eq_true rfl, Nat.le_of_ble_eq_true rfl⟩ dX1_leastOfRest_95 ?_
              rintro q4374 e4375
              show J x (mflat [(d, .inl (.inr (1, [.ref d0, .ref d1, .ref d2, .ref d3]))), (d0, .inl (.inl (kA 1, 10, .inl dus))), (d2, .inl (.inl (kA 1, 10, .inl fd2_42_535))), (d3, .inl (.inl (kA 3, 10, .inl dgv))), (s, .inl (.inr (5, [.ref s0, .ref s1, .ref s2, .ref s3, .ref s4, .ref s5, .ref s6, .ref s7, .ref s8, .ref s9, .ref s10, .ref s11, .int (nI sn), .int (nI sl), .int (nI se)]))), (s7, .inl (.inl (kA 1, 10, .inl sc7))), (d1, .inl (.inl (kA 1, 10, .inl q4374)))]) [(5, .int (nI v5_42_535)), (4, .int (nI v4_42_535)), (3, .int (nI v3_5_527)), (0, .ref d), (1, .ref s), (2, .int (nI fr))] 0 0 98 []
              refine j_aload_n h 3 rfl rfl dX1_leastOfRest_98 ?_
              refine jm_get h iw_X1 0 rfl rfl 2 (by decide +kernel) tw_464 rfl dX1_leastOfRest_99 ?_
              refine j_iload h 1 rfl dX1_leastOfRest_102 ?_
              refine jm_callSv (np := 2) (isC := [2]) (isR := [0, 1, 3, 4, 5, 6]) (wc := [(d2, .inl (.inl (kA 1, 10, .inl fd2_42_535)))]) (wr := [(d, .inl (.inr (1, [.ref d0, .ref d1, .ref d2, .ref d3]))), (d0, .inl (.inl (kA 1, 10, .inl dus))), (d3, .inl (.inl (kA 3, 10, .inl dgv))), (s, .inl (.inr (5, [.ref s0, .ref s1, .ref s2, .ref s3, .ref s4, .ref s5, .ref s6, .ref s7, .ref s8, .ref s9, .ref s10, .ref s11, .int (nI sn), .int (nI sl), .int (nI se)]))), (s7, .inl (.inl (kA 1, 10, .inl sc7))), (d1, .inl (.inl (kA 1, 10, .inl q4374)))]) (rest := []) (As := [.ref d2, .int (nI v4_42_535)]) h (s_X1_sortUpwards _ _ kA d2 v4_42_535 fd2_42_535 (show v4_42_535 ≤ 10 by first | assumption | omega)) tw_1042 tw_1043 tw_98 tw_1044 (by decide +kernel) rfl ⟨Nat.le_of_ble_eq_true rfl, Nat.le_of_ble_eq_true rfl⟩ (by decide +kernel) rfl rfl (by decide +kernel) (by decide +kernel) (Nat.le_of_ble_eq_true rfl) rfl ⟨Nat.le_of_ble_eq_true rfl, Nat.le_of_ble_eq_true rfl⟩ dX1_leastOfRest_104 ?_
              rintro q4377 e4378
              show J x (mflat [(d, .inl (.inr (1, [.ref d0, .ref d1, .ref d2, .ref d3]))), (d0, .inl (.inl (kA 1, 10, .inl dus))), (d3, .inl (.inl (kA 3, 10, .inl dgv))), (s, .inl (.inr (5, [.ref s0, .ref s1, .ref s2, .ref s3, .ref s4, .ref s5, .ref s6, .ref s7, .ref s8, .ref s9, .ref s10, .ref s11, .int (nI sn), .int (nI sl), .int (nI se)]))), (s7, .inl (.inl (kA 1, 10, .inl sc7))), (d1, .inl (.inl (kA 1, 10, .inl q4374))), (d2, .inl (.inl (kA 1, 10, .inl q4377)))]) [(5, .int (nI v5_42_535)), (4, .int (nI v4_42_535)), (3, .int (nI v3_5_527)), (0, .ref d), (1, .ref s), (2, .int (nI fr))] 0 0 107 []
              refine j_iconst (v := 0) h (by decide) dX1_leastOfRest_107 ?_
              refine j_istore (lv' := [(5, .int 0), (4, .int (nI v4_42_535)), (3, .int (nI v3_5_527)), (0, .ref d), (1, .ref s), (2, .int (nI fr))]) h dX1_leastOfRest_108 (by decide) rfl ?_
              refine j_iconst (v := 0) h (by decide) dX1_leastOfRest_110 ?_
              refine j_istore (lv' := [(6, .int 0), (5, .int 0), (4, .int (nI v4_42_535)), (3, .int (nI v3_5_527)), (0, .ref d), (1, .ref s), (2, .int (nI fr))]) h dX1_leastOfRest_111 (by decide) rfl ?_
              have lp113_538 : ∀ (m113_538 : Nat), ∀ (v6_113_538 : Nat) (v5_113_538 : Int32), (v6_113_538 ≤ 100000) → 100001 - v6_113_538 < m113_538 → J x (mflat [(d, .inl (.inr (1, [.ref d0, .ref d1, .ref d2, .ref d3]))), (d0, .inl (.inl (kA 1, 10, .inl dus))), (d3, .inl (.inl (kA 3, 10, .inl dgv))), (s, .inl (.inr (5, [.ref s0, .ref s1, .ref s2, .ref s3, .ref s4, .ref s5, .ref s6, .ref s7, .ref s8, .ref s9, .ref s10, .ref s11, .int (nI sn), .int (nI sl), .int (nI se)]))), (s7, .inl (.inl (kA 1, 10, .inl sc7))), (d1, .inl (.inl (kA 1, 10, .inl q4374))), (d2, .inl (.inl (kA 1, 10, .inl q4377)))]) [(6, .int (nI v6_113_538)), (5, .int v5_113_538), (4, .int (nI v4_42_535)), (3, .int (nI v3_5_527)), (0, .ref d), (1, .ref s), (2, .int (nI fr))] 0 0 113 [] := by
                intro m113_538
                induction m113_538 with
                | zero =>
                  intro v6_113_538 v5_113_538 i113_538_0 hm113_538
                  exact absurd hm113_538 (Nat.not_lt_zero _)
                | succ m113_538 ih113_538 =>
                  intro v6_113_538 v5_113_538 i113_538_0 hm113_538
                  refine j_iload h 0 rfl dX1_leastOfRest_113 ?_
                  refine j_iload h 2 rfl dX1_leastOfRest_115 ?_
                  refine j_icmp_ge h 150 dX1_leastOfRest_117 (by decide) (fun z4382 => ?_) (fun z4382 => ?_)
                  · have z4382n : v4_42_535 ≤ v6_113_538 := (nI_leI (a := v4_42_535) (b := v6_113_538) (by omega) (by omega)).mp z4382
                    refine j_iload h 1 rfl dX1_leastOfRest_150 ?_
                    exact jm_iret h hq dX1_leastOfRest_152 (q4374, q4377) [0, 1, 5, 6, 2, 3, 4] rfl (by decide) trivial (Nat.le_of_ble_eq_true rfl) (Nat.le_of_ble_eq_true rfl)
                  · have z4382n : ¬ v4_42_535 ≤ v6_113_538 := fun q9 => z4382 ((nI_leI (a := v4_42_535) (b := v6_113_538) (by omega) (by omega)).mpr q9)
                    refine j_iload h 1 rfl dX1_leastOfRest_120 ?_
                    refine j_aload_n h 4 rfl rfl dX1_leastOfRest_122 ?_
                    refine jm_get h iw_X1 0 rfl rfl 1 (by decide +kernel) tw_463 rfl dX1_leastOfRest_123 ?_
                    refine j_iload_n h 3 rfl rfl dX1_leastOfRest_126 ?_
                    refine j_iconst (v := 1) h (by decide) dX1_leastOfRest_127 ?_
                    refine j_isub h dX1_leastOfRest_128 ?_
                    refine j_top (b := nI (v3_5_527 - 1)) (pk_sub (a := v3_5_527) (b := 1) (by omega)) ?_
                    refine j_iload h 0 rfl dX1_leastOfRest_129 ?_
                    refine j_isub h dX1_leastOfRest_131 ?_
                    refine j_top (b := nI ((v3_5_527 - 1) - v6_113_538)) (pk_sub (a := (v3_5_527 - 1)) (b := v6_113_538) (by omega)) ?_
                    refine jm_iald h 5 rfl ((v3_5_527 - 1) - v6_113_538) rfl (by omega) (by omega) dX1_leastOfRest_132 ?_
                    refine j_aload_n h 4 rfl rfl dX1_leastOfRest_133 ?_
                    refine jm_get h iw_X1 0 rfl rfl 2 (by decide +kernel) tw_464 rfl dX1_leastOfRest_134 ?_
                    refine j_iload h 0 rfl dX1_leastOfRest_137 ?_
                    refine jm_iald h 6 rfl v6_113_538 rfl (by omega) (by omega) dX1_leastOfRest_139 ?_
                    refine j_imul h dX1_leastOfRest_140 ?_
                    refine j_iadd h dX1_leastOfRest_141 ?_
                    refine j_istore (lv' := [(5, .int (v5_113_538 + ((q4374 ((v3_5_527 - 1) - v6_113_538)) * (q4377 v6_113_538)))), (6, .int (nI v6_113_538)), (4, .int (nI v4_42_535)), (3, .int (nI v3_5_527)), (0, .ref d), (1, .ref s), (2, .int (nI fr))]) h dX1_leastOfRest_142 (by decide) rfl ?_
                    refine j_iinc (v := nI (v6_113_538 + 1)) (lv' := [(6, .int (nI (v6_113_538 + 1))), (5, .int (v5_113_538 + ((q4374 ((v3_5_527 - 1) - v6_113_538)) * (q4377 v6_113_538)))), (4, .int (nI v4_42_535)), (3, .int (nI v3_5_527)), (0, .ref d), (1, .ref s), (2, .int (nI fr))]) h dX1_leastOfRest_144 1 rfl (nI_add v6_113_538 1) (by decide) rfl ?_
                    refine j_goto h 113 dX1_leastOfRest_147 (by decide) ?_
                    refine jm_sub [0, 1, 2, 3, 4, 5, 6] (w' := [(d, .inl (.inr (1, [.ref d0, .ref d1, .ref d2, .ref d3]))), (d0, .inl (.inl (kA 1, 10, .inl dus))), (d3, .inl (.inl (kA 3, 10, .inl dgv))), (s, .inl (.inr (5, [.ref s0, .ref s1, .ref s2, .ref s3, .ref s4, .ref s5, .ref s6, .ref s7, .ref s8, .ref s9, .ref s10, .ref s11, .int (nI sn), .int (nI sl), .int (nI se)]))), (s7, .inl (.inl (kA 1, 10, .inl sc7))), (d1, .inl (.inl (kA 1, 10, .inl q4374))), (d2, .inl (.inl (kA 1, 10, .inl q4377)))]) rfl (by decide +kernel) [0, 1, 2, 3, 4, 5, 6] (lv' := [(6, .int (nI (v6_113_538 + 1))), (5, .int (v5_113_538 + ((q4374 ((v3_5_527 - 1) - v6_113_538)) * (q4377 v6_113_538)))), (4, .int (nI v4_42_535)), (3, .int (nI v3_5_527)), (0, .ref d), (1, .ref s), (2, .int (nI fr))]) rfl ?_
                    exact ih113_538 (v6_113_538 + 1) (v5_113_538 + ((q4374 ((v3_5_527 - 1) - v6_113_538)) * (q4377 v6_113_538))) (show (v6_113_538 + 1) ≤ 100000 by first | assumption | omega) (show 100001 - (v6_113_538 + 1) < m113_538 by first | exact Nat.lt_of_lt_of_le (Nat.sub_lt_sub_left (Nat.lt_of_le_of_lt (show v6_113_538 ≤ 100000 by assumption) (Nat.lt_succ_self 100000)) (Nat.lt_succ_self v6_113_538)) (Nat.le_of_lt_succ hm113_538) | omega)
              refine jm_sub [0, 1, 2, 3, 4, 5, 6] (w' := [(d, .inl (.inr (1, [.ref d0, .ref d1, .ref d2, .ref d3]))), (d0, .inl (.inl (kA 1, 10, .inl dus))), (d3, .inl (.inl (kA 3, 10, .inl dgv))), (s, .inl (.inr (5, [.ref s0, .ref s1, .ref s2, .ref s3, .ref s4, .ref s5, .ref s6, .ref s7, .ref s8, .ref s9, .ref s10, .ref s11, .int (nI sn), .int (nI sl), .int (nI se)]))), (s7, .inl (.inl (kA 1, 10, .inl sc7))), (d1, .inl (.inl (kA 1, 10, .inl q4374))), (d2, .inl (.inl (kA 1, 10, .inl q4377)))]) rfl (by decide +kernel) [0, 1, 2, 3, 4, 5, 6] (lv' := [(6, .int 0), (5, .int 0), (4, .int (nI v4_42_535)), (3, .int (nI v3_5_527)), (0, .ref d), (1, .ref s), (2, .int (nI fr))]) rfl ?_
              exact lp113_538 (100001 - 0 + 1) 0 0 (show 0 ≤ 100000 by first | assumption | omega) (Nat.lt_succ_self _)
            · have z4373n : ¬ sl ≤ v5_42_535 := fun q9 => z4373 ((nI_leI (a := sl) (b := v5_42_535) (by omega) (by omega)).mpr q9)
              refine j_aload_n h 3 rfl rfl dX1_leastOfRest_51 ?_
              refine jm_get h iw_X1 0 rfl rfl 3 (by decide +kernel) tw_465 rfl dX1_leastOfRest_52 ?_
              refine j_iload h 0 rfl dX1_leastOfRest_55 ?_
              refine jm_zald h 4 rfl v5_42_535 rfl (by omega) (by omega) dX1_leastOfRest_57 ?_
              refine j_if_ne h 84 dX1_leastOfRest_58 (by decide) (fun z4383 => ?_) (fun z4383 => ?_)
              · show J x (mflat [(d, .inl (.inr (1, [.ref d0, .ref d1, .ref d2, .ref d3]))), (d0, .inl (.inl (kA 1, 10, .inl dus))), (d1, .inl (.inl (kA 1, 10, .inl fd1_5_527))), (d2, .inl (.inl (kA 1, 10, .inl fd2_42_535))), (d3, .inl (.inl (kA 3, 10, .inl dgv))), (s, .inl (.inr (5, [.ref s0, .ref s1, .ref s2, .ref s3, .ref s4, .ref s5, .ref s6, .ref s7, .ref s8, .ref s9, .ref s10, .ref s11, .int (nI sn), .int (nI sl), .int (nI se)]))), (s7, .inl (.inl (kA 1, 10, .inl sc7)))]) [(5, .int (nI v5_42_535)), (4, .int (nI v4_42_535)), (3, .int (nI v3_5_527)), (0, .ref d), (1, .ref s), (2, .int (nI fr))] 0 0 84 []
                refine j_iinc (v := nI (v5_42_535 + 1)) (lv' := [(5, .int (nI (v5_42_535 + 1))), (4, .int (nI v4_42_535)), (3, .int (nI v3_5_527)), (0, .ref d), (1, .ref s), (2, .int (nI fr))]) h dX1_leastOfRest_84 0 rfl (nI_add v5_42_535 1) (by decide) rfl ?_
                refine j_goto h 42 dX1_leastOfRest_87 (by decide) ?_
                refine jm_sub [0, 1, 2, 3, 4, 5, 6] (w' := [(d, .inl (.inr (1, [.ref d0, .ref d1, .ref d2, .ref d3]))), (d0, .inl (.inl (kA 1, 10, .inl dus))), (d1, .inl (.inl (kA 1, 10, .inl fd1_5_527))), (d2, .inl (.inl (kA 1, 10, .inl fd2_42_535))), (d3, .inl (.inl (kA 3, 10, .inl dgv))), (s, .inl (.inr (5, [.ref s0, .ref s1, .ref s2, .ref s3, .ref s4, .ref s5, .ref s6, .ref s7, .ref s8, .ref s9, .ref s10, .ref s11, .int (nI sn), .int (nI sl), .int (nI se)]))), (s7, .inl (.inl (kA 1, 10, .inl sc7)))]) rfl (by decide +kernel) [0, 1, 2, 3, 4, 5] (lv' := [(5, .int (nI (v5_42_535 + 1))), (4, .int (nI v4_42_535)), (3, .int (nI v3_5_527)), (0, .ref d), (1, .ref s), (2, .int (nI fr))]) rfl ?_
                exact ih42_535 (v5_42_535 + 1) v4_42_535 fd2_42_535 (show v4_42_535 ≤ v3_5_527 by first | assumption | omega) (show (v5_42_535 + 1) ≤ 100000 by first | assumption | omega) (show v4_42_535 ≤ 100000 by first | assumption | omega) (show 100001 - (v5_42_535 + 1) < m42_535 by first | exact Nat.lt_of_lt_of_le (Nat.sub_lt_sub_left (Nat.lt_of_le_of_lt (show v5_42_535 ≤ 100000 by assumption) (Nat.lt_succ_self 100000)) (Nat.lt_succ_self v5_42_535)) (Nat.le_of_lt_succ hm42_535) | omega)
              · show J x (mflat [(d, .inl (.inr (1, [.ref d0, .ref d1, .ref d2, .ref d3]))), (d0, .inl (.inl (kA 1, 10, .inl dus))), (d1, .inl (.inl (kA 1, 10, .inl fd1_5_527))), (d2, .inl (.inl (kA 1, 10, .inl fd2_42_535))), (d3, .inl (.inl (kA 3, 10, .inl dgv))), (s, .inl (.inr (5, [.ref s0, .ref s1, .ref s2, .ref s3, .ref s4, .ref s5, .ref s6, .ref s7, .ref s8, .ref s9, .ref s10, .ref s11, .int (nI sn), .int (nI sl), .int (nI se)]))), (s7, .inl (.inl (kA 1, 10, .inl sc7)))]) [(5, .int (nI v5_42_535)), (4, .int (nI v4_42_535)), (3, .int (nI v3_5_527)), (0, .ref d), (1, .ref s), (2, .int (nI fr))] 0 0 61 []
                refine j_iload h 1 rfl dX1_leastOfRest_61 ?_
                refine j_iload_n h 2 rfl rfl dX1_leastOfRest_63 ?_
                refine j_icmp_ge h 84 dX1_leastOfRest_64 (by decide) (fun z4384 => ?_) (fun z4384 => ?_)
                · have z4384n : v3_5_527 ≤ v4_42_535 := (nI_leI (a := v3_5_527) (b := v4_42_535) (by omega) (by omega)).mp z4384
                  refine j_iinc (v := nI (v5_42_535 + 1)) (lv' := [(5, .int (nI (v5_42_535 + 1))), (4, .int (nI v4_42_535)), (3, .int (nI v3_5_527)), (0, .ref d), (1, .ref s), (2, .int (nI fr))]) h dX1_leastOfRest_84 0 rfl (nI_add v5_42_535 1) (by decide) rfl ?_
                  refine j_goto h 42 dX1_leastOfRest_87 (by decide) ?_
                  refine jm_sub [0, 1, 2, 3, 4, 5, 6] (w' := [(d, .inl (.inr (1, [.ref d0, .ref d1, .ref d2, .ref d3]))), (d0, .inl (.inl (kA 1, 10, .inl dus))), (d1, .inl (.inl (kA 1, 10, .inl fd1_5_527))), (d2, .inl (.inl (kA 1, 10, .inl fd2_42_535))), (d3, .inl (.inl (kA 3, 10, .inl dgv))), (s, .inl (.inr (5, [.ref s0, .ref s1, .ref s2, .ref s3, .ref s4, .ref s5, .ref s6, .ref s7, .ref s8, .ref s9, .ref s10, .ref s11, .int (nI sn), .int (nI sl), .int (nI se)]))), (s7, .inl (.inl (kA 1, 10, .inl sc7)))]) rfl (by decide +kernel) [0, 1, 2, 3, 4, 5] (lv' := [(5, .int (nI (v5_42_535 + 1))), (4, .int (nI v4_42_535)), (3, .int (nI v3_5_527)), (0, .ref d), (1, .ref s), (2, .int (nI fr))]) rfl ?_
                  exact ih42_535 (v5_42_535 + 1) v4_42_535 fd2_42_535 (show v4_42_535 ≤ v3_5_527 by first | assumption | omega) (show (v5_42_535 + 1) ≤ 100000 by first | assumption | omega) (show v4_42_535 ≤ 100000 by first | assumption | omega) (show 100001 - (v5_42_535 + 1) < m42_535 by first | exact Nat.lt_of_lt_of_le (Nat.sub_lt_sub_left (Nat.lt_of_le_of_lt (show v5_42_535 ≤ 100000 by assumption) (Nat.lt_succ_self 100000)) (Nat.lt_succ_self v5_42_535)) (Nat.le_of_lt_succ hm42_535) | omega)
                · have z4384n : ¬ v3_5_527 ≤ v4_42_535 := fun q9 => z4384 ((nI_leI (a := v3_5_527) (b := v4_42_535) (by omega) (by omega)).mpr q9)
                  refine j_aload_n h 3 rfl rfl dX1_leastOfRest_67 ?_
                  refine jm_get h iw_X1 0 rfl rfl 2 (by decide +kernel) tw_464 rfl dX1_leastOfRest_68 ?_
                  refine j_iload h 1 rfl dX1_leastOfRest_71 ?_
                  refine j_aload_n h 4 rfl rfl dX1_leastOfRest_73 ?_
                  refine jm_get h iw_X5 5 rfl rfl 7 (by decide +kernel) tw_200 rfl dX1_leastOfRest_74 ?_
                  refine j_iload h 0 rfl dX1_leastOfRest_77 ?_
                  refine jm_iald h 6 rfl v5_42_535 rfl (by omega) (by omega) dX1_leastOfRest_79 ?_
                  obtain ⟨t4385, u4386, u4387, u4388⟩ := (show LtOk sl sc7 by assumption) v5_42_535 (by omega)
                  refine j_top (b := nI t4385) (u4388) ?_
                  refine jm_iast (w' := [(d, .inl (.inr (1, [.ref d0, .ref d1, .ref d2, .ref d3]))), (d0, .inl (.inl (kA 1, 10, .inl dus))), (d1, .inl (.inl (kA 1, 10, .inl fd1_5_527))), (d2, .inl (.inl (kA 1, 10, .inl (upd fd2_42_535 v4_42_535 (nI t4385))))), (d3, .inl (.inl (kA 3, 10, .inl dgv))), (s, .inl (.inr (5, [.ref s0, .ref s1, .ref s2, .ref s3, .ref s4, .ref s5, .ref s6, .ref s7, .ref s8, .ref s9, .ref s10, .ref s11, .int (nI sn), .int (nI sl), .int (nI se)]))), (s7, .inl (.inl (kA 1, 10, .inl sc7)))]) h 3 rfl v4_42_535 rfl (by omega) (by omega) dX1_leastOfRest_80 rfl ?_
                  refine j_iinc (v := nI (v4_42_535 + 1)) (lv' := [(4, .int (nI (v4_42_535 + 1))), (5, .int (nI v5_42_535)), (3, .int (nI v3_5_527)), (0, .ref d), (1, .ref s), (2, .int (nI fr))]) h dX1_leastOfRest_81 1 rfl (nI_add v4_42_535 1) (by decide) rfl ?_
                  refine j_iinc (v := nI (v5_42_535 + 1)) (lv' := [(5, .int (nI (v5_42_535 + 1))), (4, .int (nI (v4_42_535 + 1))), (3, .int (nI v3_5_527)), (0, .ref d), (1, .ref s), (2, .int (nI fr))]) h dX1_leastOfRest_84 1 rfl (nI_add v5_42_535 1) (by decide) rfl ?_
                  refine j_goto h 42 dX1_leastOfRest_87 (by decide) ?_
                  refine jm_sub [0, 1, 2, 3, 4, 5, 6] (w' := [(d, .inl (.inr (1, [.ref d0, .ref d1, .ref d2, .ref d3]))), (d0, .inl (.inl (kA 1, 10, .inl dus))), (d1, .inl (.inl (kA 1, 10, .inl fd1_5_527))), (d2, .inl (.inl (kA 1, 10, .inl (upd fd2_42_535 v4_42_535 (nI t4385))))), (d3, .inl (.inl (kA 3, 10, .inl dgv))), (s, .inl (.inr (5, [.ref s0, .ref s1, .ref s2, .ref s3, .ref s4, .ref s5, .ref s6, .ref s7, .ref s8, .ref s9, .ref s10, .ref s11, .int (nI sn), .int (nI sl), .int (nI se)]))), (s7, .inl (.inl (kA 1, 10, .inl sc7)))]) rfl (by decide +kernel) [0, 1, 2, 3, 4, 5] (lv' := [(5, .int (nI (v5_42_535 + 1))), (4, .int (nI (v4_42_535 + 1))), (3, .int (nI v3_5_527)), (0, .ref d), (1, .ref s), (2, .int (nI fr))]) rfl ?_
                  exact ih42_535 (v5_42_535 + 1) (v4_42_535 + 1) (upd fd2_42_535 v4_42_535 (nI t4385)) (show (v4_42_535 + 1) ≤ v3_5_527 by first | assumption | omega) (show (v5_42_535 + 1) ≤ 100000 by first | assumption | omega) (show (v4_42_535 + 1) ≤ 100000 by first | assumption | omega) (show 100001 - (v5_42_535 + 1) < m42_535 by first | exact Nat.lt_of_lt_of_le (Nat.sub_lt_sub_left (Nat.lt_of_le_of_lt (show v5_42_535 ≤ 100000 by assumption) (Nat.lt_succ_self 100000)) (Nat.lt_succ_self v5_42_535)) (Nat.le_of_lt_succ hm42_535) | omega)
        refine jm_sub [0, 1, 2, 3, 4, 5, 6] (w' := [(d, .inl (.inr (1, [.ref d0, .ref d1, .ref d2, .ref d3]))), (d0, .inl (.inl (kA 1, 10, .inl dus))), (d1, .inl (.inl (kA 1, 10, .inl fd1_5_527))), (d2, .inl (.inl (kA 1, 10, .inl drt))), (d3, .inl (.inl (kA 3, 10, .inl dgv))), (s, .inl (.inr (5, [.ref s0, .ref s1, .ref s2, .ref s3, .ref s4, .ref s5, .ref s6, .ref s7, .ref s8, .ref s9, .ref s10, .ref s11, .int (nI sn), .int (nI sl), .int (nI se)]))), (s7, .inl (.inl (kA 1, 10, .inl sc7)))]) rfl (by decide +kernel) [0, 1, 2, 3, 4, 5] (lv' := [(5, .int 0), (4, .int 0), (3, .int (nI v3_5_527)), (0, .ref d), (1, .ref s), (2, .int (nI fr))]) rfl ?_
        exact lp42_535 (100001 - 0 + 1) 0 0 drt (show 0 ≤ v3_5_527 by first | assumption | omega) (show 0 ≤ 100000 by first | assumption | omega) (show 0 ≤ 100000 by first | assumption | omega) (Nat.lt_succ_self _)
      · have z4343n : ¬ sl ≤ v4_5_527 := fun q9 => z4343 ((nI_leI (a := sl) (b := v4_5_527) (by omega) (by omega)).mpr q9)
        refine j_aload_n h 2 rfl rfl dX1_leastOfRest_14 ?_
        refine jm_get h iw_X1 0 rfl rfl 1 (by decide +kernel) tw_463 rfl dX1_leastOfRest_15 ?_
        refine j_iload_n h 1 rfl rfl dX1_leastOfRest_18 ?_
        refine j_aload_n h 2 rfl rfl dX1_leastOfRest_19 ?_
        refine jm_get h iw_X1 0 rfl rfl 0 (by decide +kernel) tw_462 rfl dX1_leastOfRest_20 ?_
        refine j_iload h 0 rfl dX1_leastOfRest_23 ?_
        refine jm_iald h 1 rfl v4_5_527 rfl (by omega) (by omega) dX1_leastOfRest_25 ?_
        refine jm_iast (w' := [(d, .inl (.inr (1, [.ref d0, .ref d1, .ref d2, .ref d3]))), (d0, .inl (.inl (kA 1, 10, .inl dus))), (d1, .inl (.inl (kA 1, 10, .inl (upd fd1_5_527 v3_5_527 (dus v4_5_527))))), (d2, .inl (.inl (kA 1, 10, .inl drt))), (d3, .inl (.inl (kA 3, 10, .inl dgv))), (s, .inl (.inr (5, [.ref s0, .ref s1, .ref s2, .ref s3, .ref s4, .ref s5, .ref s6, .ref s7, .ref s8, .ref s9, .ref s10, .ref s11, .int (nI sn), .int (nI sl), .int (nI se)]))), (s7, .inl (.inl (kA 1, 10, .inl sc7)))]) h 2 rfl v3_5_527 rfl (by omega) (by omega) dX1_leastOfRest_26 rfl ?_
        refine j_iinc (v := nI (v3_5_527 + 1)) (lv' := [(3, .int (nI (v3_5_527 + 1))), (4, .int (nI v4_5_527)), (0, .ref d), (1, .ref s), (2, .int (nI fr))]) h dX1_leastOfRest_27 1 rfl (nI_add v3_5_527 1) (by decide) rfl ?_
        refine j_iinc (v := nI (v4_5_527 + 1)) (lv' := [(4, .int (nI (v4_5_527 + 1))), (3, .int (nI (v3_5_527 + 1))), (0, .ref d), (1, .ref s), (2, .int (nI fr))]) h dX1_leastOfRest_30 1 rfl (nI_add v4_5_527 1) (by decide) rfl ?_
        refine j_goto h 5 dX1_leastOfRest_33 (by decide) ?_
        refine jm_sub [0, 1, 2, 3, 4, 5, 6] (w' := [(d, .inl (.inr (1, [.ref d0, .ref d1, .ref d2, .ref d3]))), (d0, .inl (.inl (kA 1, 10, .inl dus))), (d1, .inl (.inl (kA 1, 10, .inl (upd fd1_5_527 v3_5_527 (dus v4_5_527))))), (d2, .inl (.inl (kA 1, 10, .inl drt))), (d3, .inl (.inl (kA 3, 10, .inl dgv))), (s, .inl (.inr (5, [.ref s0, .ref s1, .ref s2, .ref s3, .ref s4, .ref s5, .ref s6, .ref s7, .ref s8, .ref s9, .ref s10, .ref s11, .int (nI sn), .int (nI sl), .int (nI se)]))), (s7, .inl (.inl (kA 1, 10, .inl sc7)))]) rfl (by decide +kernel) [0, 1, 2, 3, 4] (lv' := [(4, .int (nI (v4_5_527 + 1))), (3, .int (nI (v3_5_527 + 1))), (0, .ref d), (1, .ref s), (2, .int (nI fr))]) rfl ?_
        exact ih5_527 (v4_5_527 + 1) (v3_5_527 + 1) (upd fd1_5_527 v3_5_527 (dus v4_5_527)) (show (v3_5_527 + 1) + fr = (v4_5_527 + 1) by first | assumption | omega) (show (v4_5_527 + 1) ≤ 10 by first | assumption | omega) (show (v4_5_527 + 1) ≤ 100000 by first | assumption | omega) (show (v3_5_527 + 1) ≤ 100000 by first | assumption | omega) (show 100001 - (v4_5_527 + 1) < m5_527 by first | exact Nat.lt_of_lt_of_le (Nat.sub_lt_sub_left (Nat.lt_of_le_of_lt (show v4_5_527 ≤ 100000 by assumption) (Nat.lt_succ_self 100000)) (Nat.lt_succ_self v4_5_527)) (Nat.le_of_lt_succ hm5_527) | omega)
  refine jm_sub [0, 1, 2, 3, 4, 5, 6] (w' := [(d, .inl (.inr (1, [.ref d0, .ref d1, .ref d2, .ref d3]))), (d0, .inl (.inl (kA 1, 10, .inl dus))), (d1, .inl (.inl (kA 1, 10, .inl dru))), (d2, .inl (.inl (kA 1, 10, .inl drt))), (d3, .inl (.inl (kA 3, 10, .inl dgv))), (s, .inl (.inr (5, [.ref s0, .ref s1, .ref s2, .ref s3, .ref s4, .ref s5, .ref s6, .ref s7, .ref s8, .ref s9, .ref s10, .ref s11, .int (nI sn), .int (nI sl), .int (nI se)]))), (s7, .inl (.inl (kA 1, 10, .inl sc7)))]) rfl (by decide +kernel) [0, 1, 2, 3, 4] (lv' := [(4, .int (nI fr)), (3, .int 0), (0, .ref d), (1, .ref s), (2, .int (nI fr))]) rfl ?_
  exact lp5_527 (100001 - fr + 1) fr 0 dru (show 0 + fr = fr by first | assumption | omega) (show fr ≤ 10 by first | assumption | omega) (show fr ≤ 100000 by first | assumption | omega) (show 0 ≤ 100000 by first | assumption | omega) (Nat.lt_succ_self _)
set_option maxHeartbeats 4000000 in
set_option maxRecDepth 100000 in
theorem s_X1_countUses (lau : Launch) (gg : va_G) (kA : Nat → ClassId) (d : Nat) (t : Nat) (d0 : Nat) (d1 : Nat) (d2 : Nat) (d3 : Nat) (dus : Nat → Int32) (dgv : Nat → Int32) (t0 : Nat) (tsz : Nat) (ttm : Nat) (tft : Nat) (trow : Nat → Int32) (n : Nat) (htsz : tsz ≤ 60) (httm : ttm ≤ 60) (htft : tft ≤ 1) (htro : RoOk n tsz trow) (hn : n ≤ 10) : CtV lau yX1_countUses cX1_countUses 3 (none) 2 0 0 gg kA [.ref d, .ref t] (mflat [(d, .inl (.inr (1, [.ref d0, .ref d1, .ref d2, .ref d3]))), (d0, .inl (.inl (kA 1, 10, .inl dus))), (d3, .inl (.inl (kA 3, 10, .inl dgv))), (t, .inl (.inr (10, [.ref t0, .int (nI tsz), .int (nI ttm), .int (nI tft)]))), (t0, .inl (.inl (kA 1, 60, .inl trow)))]) (S := (Nat → Int32) × (Nat → Int32)) (fun ((y_d0, y_d3) : (Nat → Int32) × (Nat → Int32)) => True) (fun ((y_d0, y_d3) : (Nat → Int32) × (Nat → Int32)) => mflat [(d, .inl (.inr (1, [.ref d0, .ref d1, .ref d2, .ref d3]))), (d0, .inl (.inl (kA 1, 10, .inl y_d0))), (d3, .inl (.inl (kA 3, 10, .inl y_d3))), (t, .inl (.inr (10, [.ref t0, .int (nI tsz), .int (nI ttm), .int (nI tft)]))), (t0, .inl (.inl (kA 1, 60, .inl trow)))]) := by
  refine nx_startV (by decide +kernel) (Nat.le_of_ble_eq_true rfl) ?_
  intro x hnm h hq
  have h : Ok x cX1_countUses RX1 kA (rmC 2 0 0) 3 := h
  show J x (mflat [(d, .inl (.inr (1, [.ref d0, .ref d1, .ref d2, .ref d3]))), (d0, .inl (.inl (kA 1, 10, .inl dus))), (d3, .inl (.inl (kA 3, 10, .inl dgv))), (t, .inl (.inr (10, [.ref t0, .int (nI tsz), .int (nI ttm), .int (nI tft)]))), (t0, .inl (.inl (kA 1, 60, .inl trow)))]) [(0, .ref d), (1, .ref t)] 0 0 0 []
  refine j_aload_n h 0 rfl rfl dX1_countUses_0 ?_
  refine jm_get h iw_X1 0 rfl rfl 0 (by decide +kernel) tw_462 rfl dX1_countUses_1 ?_
  refine j_iconst (v := 0) h (by decide) dX1_countUses_4 ?_
  refine jm_callSv (np := 2) (isC := [1]) (isR := [0, 2, 3, 4]) (wc := [(d0, .inl (.inl (kA 1, 10, .inl dus)))]) (wr := [(d, .inl (.inr (1, [.ref d0, .ref d1, .ref d2, .ref d3]))), (d3, .inl (.inl (kA 3, 10, .inl dgv))), (t, .inl (.inr (10, [.ref t0, .int (nI tsz), .int (nI ttm), .int (nI tft)]))), (t0, .inl (.inl (kA 1, 60, .inl trow)))]) (rest := []) (As := [.ref d0, .int 0]) h (s_J7_fill_53178 _ _ kA d0 0 10 dus (show 10 ≤ 100 by first | assumption | omega)) tw_1037 tw_829 tw_106 tw_830 (by decide +kernel) rfl ⟨Nat.le_of_ble_eq_true rfl, Nat.le_of_ble_eq_true rfl⟩ (by decide +kernel) rfl rfl (by decide +kernel) (by decide +kernel) (Nat.le_of_ble_eq_true rfl) rfl ⟨Nat.le_of_ble_eq_true rfl, Nat.le_of_ble_eq_true rfl⟩ dX1_countUses_5 ?_
  rintro q4418 e4419
  show J x (mflat [(d, .inl (.inr (1, [.ref d0, .ref d1, .ref d2, .ref d3]))), (d3, .inl (.inl (kA 3, 10, .inl dgv))), (t, .inl (.inr (10, [.ref t0, .int (nI tsz), .int (nI ttm), .int (nI tft)]))), (t0, .inl (.inl (kA 1, 60, .inl trow))), (d0, .inl (.inl (kA 1, 10, .inl q4418)))]) [(0, .ref d), (1, .ref t)] 0 0 8 []
  refine j_iconst (v := 0) h (by decide) dX1_countUses_8 ?_
  refine j_istore_n (lv' := [(2, .int 0), (0, .ref d), (1, .ref t)]) h dX1_countUses_9 rfl (by decide) rfl ?_
  have lp10_553 : ∀ (m10_553 : Nat), ∀ (v2_10_553 : Nat) (fd3_10_553 : Nat → Int32), (v2_10_553 ≤ 100000) → 100001 - v2_10_553 < m10_553 → J x (mflat [(d, .inl (.inr (1, [.ref d0, .ref d1, .ref d2, .ref d3]))), (d3, .inl (.inl (kA 3, 10, .inl fd3_10_553))), (t, .inl (.inr (10, [.ref t0, .int (nI tsz), .int (nI ttm), .int (nI tft)]))), (t0, .inl (.inl (kA 1, 60, .inl trow))), (d0, .inl (.inl (kA 1, 10, .inl q4418)))]) [(2, .int (nI v2_10_553)), (0, .ref d), (1, .ref t)] 0 0 10 [] := by
    intro m10_553
    induction m10_553 with
    | zero =>
      intro v2_10_553 fd3_10_553 i10_553_0 hm10_553
      exact absurd hm10_553 (Nat.not_lt_zero _)
    | succ m10_553 ih10_553 =>
      intro v2_10_553 fd3_10_553 i10_553_0 hm10_553
      refine j_iload_n h 0 rfl rfl dX1_countUses_10 ?_
      refine j_bipush (v := 10) h (by decide) dX1_countUses_11 ?_
      refine j_icmp_ge h 29 dX1_countUses_13 (by decide) (fun z4434 => ?_) (fun z4434 => ?_)
      · have z4434n : 10 ≤ v2_10_553 := (nI_leI (a := 10) (b := v2_10_553) (by omega) (by omega)).mp z4434
        refine j_iconst (v := 0) h (by decide) dX1_countUses_29 ?_
        refine j_istore_n (lv' := [(2, .int 0), (0, .ref d), (1, .ref t)]) h dX1_countUses_30 rfl (by decide) rfl ?_
        have lp31_556 : ∀ (m31_556 : Nat), ∀ (v2_31_556 : Nat) (fd0_31_556 : Nat → Int32), (v2_31_556 ≤ 100000) → 100001 - v2_31_556 < m31_556 → J x (mflat [(d, .inl (.inr (1, [.ref d0, .ref d1, .ref d2, .ref d3]))), (d3, .inl (.inl (kA 3, 10, .inl fd3_10_553))), (t, .inl (.inr (10, [.ref t0, .int (nI tsz), .int (nI ttm), .int (nI tft)]))), (t0, .inl (.inl (kA 1, 60, .inl trow))), (d0, .inl (.inl (kA 1, 10, .inl fd0_31_556)))]) [(2, .int (nI v2_31_556)), (0, .ref d), (1, .ref t)] 0 0 31 [] := by
          intro m31_556
          induction m31_556 with
          | zero =>
            intro v2_31_556 fd0_31_556 i31_556_0 hm31_556
            exact absurd hm31_556 (Nat.not_lt_zero _)
          | succ m31_556 ih31_556 =>
            intro v2_31_556 fd0_31_556 i31_556_0 hm31_556
            refine j_iload_n h 0 rfl rfl dX1_countUses_31 ?_
            refine j_aload_n h 2 rfl rfl dX1_countUses_32 ?_
            refine jm_get h iw_X10 2 rfl rfl 1 (by decide +kernel) tw_306 rfl dX1_countUses_33 ?_
            refine j_icmp_ge h 60 dX1_countUses_36 (by decide) (fun z4443 => ?_) (fun z4443 => ?_)
            · have z4443n : tsz ≤ v2_31_556 := (nI_leI (a := tsz) (b := v2_31_556) (by omega) (by omega)).mp z4443
              exact jm_vret h hq dX1_countUses_60 (fd0_31_556, fd3_10_553) [0, 4, 1, 2, 3] rfl (by decide) trivial (Nat.le_of_ble_eq_true rfl) (Nat.le_of_ble_eq_true rfl)
            · have z4443n : ¬ tsz ≤ v2_31_556 := fun q9 => z4443 ((nI_leI (a := tsz) (b := v2_31_556) (by omega) (by omega)).mpr q9)
              refine j_aload_n h 1 rfl rfl dX1_countUses_39 ?_
              refine jm_get h iw_X1 0 rfl rfl 0 (by decide +kernel) tw_462 rfl dX1_countUses_40 ?_
              refine j_aload_n h 2 rfl rfl dX1_countUses_43 ?_
              refine jm_get h iw_X10 2 rfl rfl 0 (by decide +kernel) tw_303 rfl dX1_countUses_44 ?_
              refine j_iload_n h 0 rfl rfl dX1_countUses_47 ?_
              refine jm_iald h 3 rfl v2_31_556 rfl (by omega) (by omega) dX1_countUses_48 ?_
              obtain ⟨t4444, u4445, u4446⟩ := (show RoOk n tsz trow by assumption) v2_31_556 (by omega)
              refine j_top (b := nI t4444) (u4446) ?_
              refine j_dup2 h rfl rfl dX1_countUses_49 ?_
              refine jm_iald h 4 rfl t4444 rfl (by omega) (by omega) dX1_countUses_50 ?_
              refine j_iconst (v := 1) h (by decide) dX1_countUses_51 ?_
              refine j_iadd h dX1_countUses_52 ?_
              refine jm_iast (w' := [(d, .inl (.inr (1, [.ref d0, .ref d1, .ref d2, .ref d3]))), (d3, .inl (.inl (kA 3, 10, .inl fd3_10_553))), (t, .inl (.inr (10, [.ref t0, .int (nI tsz), .int (nI ttm), .int (nI tft)]))), (t0, .inl (.inl (kA 1, 60, .inl trow))), (d0, .inl (.inl (kA 1, 10, .inl (upd fd0_31_556 t4444 ((fd0_31_556 t4444) + 1)))))]) h 4 rfl t4444 rfl (by omega) (by omega) dX1_countUses_53 rfl ?_
              refine j_iinc (v := nI (v2_31_556 + 1)) (lv' := [(2, .int (nI (v2_31_556 + 1))), (0, .ref d), (1, .ref t)]) h dX1_countUses_54 0 rfl (nI_add v2_31_556 1) (by decide) rfl ?_
              refine j_goto h 31 dX1_countUses_57 (by decide) ?_
              refine jm_sub [0, 1, 2, 3, 4] (w' := [(d, .inl (.inr (1, [.ref d0, .ref d1, .ref d2, .ref d3]))), (d3, .inl (.inl (kA 3, 10, .inl fd3_10_553))), (t, .inl (.inr (10, [.ref t0, .int (nI tsz), .int (nI ttm), .int (nI tft)]))), (t0, .inl (.inl (kA 1, 60, .inl trow))), (d0, .inl (.inl (kA 1, 10, .inl (upd fd0_31_556 t4444 ((fd0_31_556 t4444) + 1)))))]) rfl (by decide +kernel) [0, 1, 2] (lv' := [(2, .int (nI (v2_31_556 + 1))), (0, .ref d), (1, .ref t)]) rfl ?_
              exact ih31_556 (v2_31_556 + 1) (upd fd0_31_556 t4444 ((fd0_31_556 t4444) + 1)) (show (v2_31_556 + 1) ≤ 100000 by first | assumption | omega) (show 100001 - (v2_31_556 + 1) < m31_556 by first | exact Nat.lt_of_lt_of_le (Nat.sub_lt_sub_left (Nat.lt_of_le_of_lt (show v2_31_556 ≤ 100000 by assumption) (Nat.lt_succ_self 100000)) (Nat.lt_succ_self v2_31_556)) (Nat.le_of_lt_succ hm31_556) | omega)
        refine jm_sub [0, 1, 2, 3, 4] (w' := [(d, .inl (.inr (1, [.ref d0, .ref d1, .ref d2, .ref d3]))), (d3, .inl (.inl (kA 3, 10, .inl fd3_10_553))), (t, .inl (.inr (10, [.ref t0, .int (nI tsz), .int (nI ttm), .int (nI tft)]))), (t0, .inl (.inl (kA 1, 60, .inl trow))), (d0, .inl (.inl (kA 1, 10, .inl q4418)))]) rfl (by decide +kernel) [0, 1, 2] (lv' := [(2, .int 0), (0, .ref d), (1, .ref t)]) rfl ?_
        exact lp31_556 (100001 - 0 + 1) 0 q4418 (show 0 ≤ 100000 by first | assumption | omega) (Nat.lt_succ_self _)
      · have z4434n : ¬ 10 ≤ v2_10_553 := fun q9 => z4434 ((nI_leI (a := 10) (b := v2_10_553) (by omega) (by omega)).mpr q9)
        refine j_aload_n h 1 rfl rfl dX1_countUses_16 ?_
        refine jm_get h iw_X1 0 rfl rfl 3 (by decide +kernel) tw_465 rfl dX1_countUses_17 ?_
        refine j_iload_n h 0 rfl rfl dX1_countUses_20 ?_
        refine j_iconst (v := 0) h (by decide) dX1_countUses_21 ?_
        refine jm_zast (w' := [(d, .inl (.inr (1, [.ref d0, .ref d1, .ref d2, .ref d3]))), (d3, .inl (.inl (kA 3, 10, .inl (upd fd3_10_553 v2_10_553 (vp_nar .boolean 0))))), (t, .inl (.inr (10, [.ref t0, .int (nI tsz), .int (nI ttm), .int (nI tft)]))), (t0, .inl (.inl (kA 1, 60, .inl trow))), (d0, .inl (.inl (kA 1, 10, .inl q4418)))]) h 1 rfl v2_10_553 rfl (by omega) (by omega) dX1_countUses_22 rfl ?_
        refine j_iinc (v := nI (v2_10_553 + 1)) (lv' := [(2, .int (nI (v2_10_553 + 1))), (0, .ref d), (1, .ref t)]) h dX1_countUses_23 0 rfl (nI_add v2_10_553 1) (by decide) rfl ?_
        refine j_goto h 10 dX1_countUses_26 (by decide) ?_
        refine jm_sub [0, 1, 2, 3, 4] (w' := [(d, .inl (.inr (1, [.ref d0, .ref d1, .ref d2, .ref d3]))), (d3, .inl (.inl (kA 3, 10, .inl (upd fd3_10_553 v2_10_553 (vp_nar .boolean 0))))), (t, .inl (.inr (10, [.ref t0, .int (nI tsz), .int (nI ttm), .int (nI tft)]))), (t0, .inl (.inl (kA 1, 60, .inl trow))), (d0, .inl (.inl (kA 1, 10, .inl q4418)))]) rfl (by decide +kernel) [0, 1, 2] (lv' := [(2, .int (nI (v2_10_553 + 1))), (0, .ref d), (1, .ref t)]) rfl ?_
        exact ih10_553 (v2_10_553 + 1) (upd fd3_10_553 v2_10_553 (vp_nar .boolean 0)) (show (v2_10_553 + 1) ≤ 100000 by first | assumption | omega) (show 100001 - (v2_10_553 + 1) < m10_553 by first | exact Nat.lt_of_lt_of_le (Nat.sub_lt_sub_left (Nat.lt_of_le_of_lt (show v2_10_553 ≤ 100000 by assumption) (Nat.lt_succ_self 100000)) (Nat.lt_succ_self v2_10_553)) (Nat.le_of_lt_succ hm10_553) | omega)
  refine jm_sub [0, 1, 2, 3, 4] (w' := [(d, .inl (.inr (1, [.ref d0, .ref d1, .ref d2, .ref d3]))), (d3, .inl (.inl (kA 3, 10, .inl dgv))), (t, .inl (.inr (10, [.ref t0, .int (nI tsz), .int (nI ttm), .int (nI tft)]))), (t0, .inl (.inl (kA 1, 60, .inl trow))), (d0, .inl (.inl (kA 1, 10, .inl q4418)))]) rfl (by decide +kernel) [0, 1, 2] (lv' := [(2, .int 0), (0, .ref d), (1, .ref t)]) rfl ?_
  exact lp10_553 (100001 - 0 + 1) 0 dgv (show 0 ≤ 100000 by first | assumption | omega) (Nat.lt_succ_self _)
set_option maxHeartbeats 4000000 in
set_option maxRecDepth 100000 in
theorem s_X1_firstRow (lau : Launch) (gg : va_G) (kA : Nat → ClassId) (d : Nat) (s : Nat) (k : Nat) (mo : Int32) (d0 : Nat) (d1 : Nat) (d2 : Nat) (d3 : Nat) (dus : Nat → Int32) (dru : Nat → Int32) (drt : Nat → Int32) (dgv : Nat → Int32) (s0 : Nat) (s1 : Nat) (s2 : Nat) (s3 : Nat) (s4 : Nat) (s5 : Nat) (s6 : Nat) (s7 : Nat) (s8 : Nat) (s9 : Nat) (s10 : Nat) (s11 : Nat) (sn : Nat) (sl : Nat) (se : Nat) (sc7 : Nat → Int32) (hsn : sn ≤ 6) (hsl : sl ≤ 10) (hse : se ≤ 4) (hslt : LtOk sl sc7) (hk : k < sl) : CtI lau yX1_firstRow cX1_firstRow 5 (some .int) 3 0 0 gg kA [.ref d, .ref s, .int (nI k), .int mo] (mflat [(d, .inl (.inr (1, [.ref d0, .ref d1, .ref d2, .ref d3]))), (d0, .inl (.inl (kA 1, 10, .inl dus))), (d1, .inl (.inl (kA 1, 10, .inl dru))), (d2, .inl (.inl (kA 1, 10, .inl drt))), (d3, .inl (.inl (kA 3, 10, .inl dgv))), (s, .inl (.inr (5, [.ref s0, .ref s1, .ref s2, .ref s3, .ref s4, .ref s5, .ref s6, .ref s7, .ref s8, .ref s9, .ref s10, .ref s11, .int (nI sn), .int (nI sl), .int (nI se)]))), (s7, .inl (.inl (kA 1, 10, .inl sc7)))]) (S := Nat × (Nat → Int32) × (Nat → Int32) × (Nat → Int32)) (fun (r : Int32) ((y_r, y_d1, y_d2, y_d3) : Nat × (Nat → Int32) × (Nat → Int32) × (Nat → Int32)) => r = nI y_r ∧ (y_r < sl)) (fun ((y_r, y_d1, y_d2, y_d3) : Nat × (Nat → Int32) × (Nat → Int32) × (Nat → Int32)) => mflat [(d, .inl (.inr (1, [.ref d0, .ref d1, .ref d2, .ref d3]))), (d0, .inl (.inl (kA 1, 10, .inl dus))), (d1, .inl (.inl (kA 1, 10, .inl y_d1))), (d2, .inl (.inl (kA 1, 10, .inl y_d2))), (d3, .inl (.inl (kA 3, 10, .inl y_d3))), (s, .inl (.inr (5, [.ref s0, .ref s1, .ref s2, .ref s3, .ref s4, .ref s5, .ref s6, .ref s7, .ref s8, .ref s9, .ref s10, .ref s11, .int (nI sn), .int (nI sl), .int (nI se)]))), (s7, .inl (.inl (kA 1, 10, .inl sc7)))]) := by
  refine nx_startI (by decide +kernel) (Nat.le_of_ble_eq_true rfl) ?_
  intro x hnm h hq
  have h : Ok x cX1_firstRow RX1 kA (rmC 3 0 0) 5 := h
  show J x (mflat [(d, .inl (.inr (1, [.ref d0, .ref d1, .ref d2, .ref d3]))), (d0, .inl (.inl (kA 1, 10, .inl dus))), (d1, .inl (.inl (kA 1, 10, .inl dru))), (d2, .inl (.inl (kA 1, 10, .inl drt))), (d3, .inl (.inl (kA 3, 10, .inl dgv))), (s, .inl (.inr (5, [.ref s0, .ref s1, .ref s2, .ref s3, .ref s4, .ref s5, .ref s6, .ref s7, .ref s8, .ref s9, .ref s10, .ref s11, .int (nI sn), .int (nI sl), .int (nI se)]))), (s7, .inl (.inl (kA 1, 10, .inl sc7)))]) [(0, .ref d), (1, .ref s), (2, .int (nI k)), (3, .int mo)] 0 0 0 []
  refine j_iconst (v := 0) h (by decide) dX1_firstRow_0 ?_
  refine j_istore (lv' := [(4, .int 0), (0, .ref d), (1, .ref s), (2, .int (nI k)), (3, .int mo)]) h dX1_firstRow_1 (by decide) rfl ?_
  have lp3_562 : ∀ (m3_562 : Nat), ∀ (v4_3_562 : Nat) (fd1_3_562 : Nat → Int32) (fd2_3_562 : Nat → Int32) (fd3_3_562 : Nat → Int32), (v4_3_562 ≤ 100000) → 100001 - v4_3_562 < m3_562 → J x (mflat [(d, .inl (.inr (1, [.ref d0, .ref d1, .ref d2, .ref d3]))), (d0, .inl (.inl (kA 1, 10, .inl dus))), (d1, .inl (.inl (kA 1, 10, .inl fd1_3_562))), (d2, .inl (.inl (kA 1, 10, .inl fd2_3_562))), (d3, .inl (.inl (kA 3, 10, .inl fd3_3_562))), (s, .inl (.inr (5, [.ref s0, .ref s1, .ref s2, .ref s3, .ref s4, .ref s5, .ref s6, .ref s7, .ref s8, .ref s9, .ref s10, .ref s11, .int (nI sn), .int (nI sl), .int (nI se)]))), (s7, .inl (.inl (kA 1, 10, .inl sc7)))]) [(4, .int (nI v4_3_562)), (0, .ref d), (1, .ref s), (2, .int (nI k)), (3, .int mo)] 0 0 3 [] := by
    intro m3_562
    induction m3_562 with
    | zero =>
      intro v4_3_562 fd1_3_562 fd2_3_562 fd3_3_562 i3_562_0 hm3_562
      exact absurd hm3_562 (Nat.not_lt_zero _)
    | succ m3_562 ih3_562 =>
      intro v4_3_562 fd1_3_562 fd2_3_562 fd3_3_562 i3_562_0 hm3_562
      refine j_iload h 0 rfl dX1_firstRow_3 ?_
      refine j_aload_n h 2 rfl rfl dX1_firstRow_5 ?_
      refine jm_get h iw_X5 5 rfl rfl 13 (by decide +kernel) tw_223 rfl dX1_firstRow_6 ?_
      refine j_icmp_ge h 74 dX1_firstRow_9 (by decide) (fun z4502 => ?_) (fun z4502 => ?_)
      · have z4502n : sl ≤ v4_3_562 := (nI_leI (a := sl) (b := v4_3_562) (by omega) (by omega)).mp z4502
        refine j_iload_n h 3 rfl rfl dX1_firstRow_74 ?_
        exact jm_iret h hq dX1_firstRow_75 (k, fd1_3_562, fd2_3_562, fd3_3_562) [0, 1, 2, 3, 4, 5, 6] rfl (by decide) ⟨rfl, (show k < sl by first | assumption | omega)⟩ (Nat.le_of_ble_eq_true rfl) (Nat.le_of_ble_eq_true rfl)
      · have z4502n : ¬ sl ≤ v4_3_562 := fun q9 => z4502 ((nI_leI (a := sl) (b := v4_3_562) (by omega) (by omega)).mpr q9)
        refine j_aload_n h 1 rfl rfl dX1_firstRow_12 ?_
        refine jm_get h iw_X1 0 rfl rfl 3 (by decide +kernel) tw_465 rfl dX1_firstRow_13 ?_
        refine j_iload h 0 rfl dX1_firstRow_16 ?_
        refine jm_zald h 4 rfl v4_3_562 rfl (by omega) (by omega) dX1_firstRow_18 ?_
        refine j_if_ne h 68 dX1_firstRow_19 (by decide) (fun z4503 => ?_) (fun z4503 => ?_)
        · show J x (mflat [(d, .inl (.inr (1, [.ref d0, .ref d1, .ref d2, .ref d3]))), (d0, .inl (.inl (kA 1, 10, .inl dus))), (d1, .inl (.inl (kA 1, 10, .inl fd1_3_562))), (d2, .inl (.inl (kA 1, 10, .inl fd2_3_562))), (d3, .inl (.inl (kA 3, 10, .inl fd3_3_562))), (s, .inl (.inr (5, [.ref s0, .ref s1, .ref s2, .ref s3, .ref s4, .ref s5, .ref s6, .ref s7, .ref s8, .ref s9, .ref s10, .ref s11, .int (nI sn), .int (nI sl), .int (nI se)]))), (s7, .inl (.inl (kA 1, 10, .inl sc7)))]) [(4, .int (nI v4_3_562)), (0, .ref d), (1, .ref s), (2, .int (nI k)), (3, .int mo)] 0 0 68 []
          refine j_iinc (v := nI (v4_3_562 + 1)) (lv' := [(4, .int (nI (v4_3_562 + 1))), (0, .ref d), (1, .ref s), (2, .int (nI k)), (3, .int mo)]) h dX1_firstRow_68 0 rfl (nI_add v4_3_562 1) (by decide) rfl ?_
          refine j_goto h 3 dX1_firstRow_71 (by decide) ?_
          refine jm_sub [0, 1, 2, 3, 4, 5, 6] (w' := [(d, .inl (.inr (1, [.ref d0, .ref d1, .ref d2, .ref d3]))), (d0, .inl (.inl (kA 1, 10, .inl dus))), (d1, .inl (.inl (kA 1, 10, .inl fd1_3_562))), (d2, .inl (.inl (kA 1, 10, .inl fd2_3_562))), (d3, .inl (.inl (kA 3, 10, .inl fd3_3_562))), (s, .inl (.inr (5, [.ref s0, .ref s1, .ref s2, .ref s3, .ref s4, .ref s5, .ref s6, .ref s7, .ref s8, .ref s9, .ref s10, .ref s11, .int (nI sn), .int (nI sl), .int (nI se)]))), (s7, .inl (.inl (kA 1, 10, .inl sc7)))]) rfl (by decide +kernel) [0, 1, 2, 3, 4] (lv' := [(4, .int (nI (v4_3_562 + 1))), (0, .ref d), (1, .ref s), (2, .int (nI k)), (3, .int mo)]) rfl ?_
          exact ih3_562 (v4_3_562 + 1) fd1_3_562 fd2_3_562 fd3_3_562 (show (v4_3_562 + 1) ≤ 100000 by first | assumption | omega) (show 100001 - (v4_3_562 + 1) < m3_562 by first | exact Nat.lt_of_lt_of_le (Nat.sub_lt_sub_left (Nat.lt_of_le_of_lt (show v4_3_562 ≤ 100000 by assumption) (Nat.lt_succ_self 100000)) (Nat.lt_succ_self v4_3_562)) (Nat.le_of_lt_succ hm3_562) | omega)
        · show J x (mflat [(d, .inl (.inr (1, [.ref d0, .ref d1, .ref d2, .ref d3]))), (d0, .inl (.inl (kA 1, 10, .inl dus))), (d1, .inl (.inl (kA 1, 10, .inl fd1_3_562))), (d2, .inl (.inl (kA 1, 10, .inl fd2_3_562))), (d3, .inl (.inl (kA 3, 10, .inl fd3_3_562))), (s, .inl (.inr (5, [.ref s0, .ref s1, .ref s2, .ref s3, .ref s4, .ref s5, .ref s6, .ref s7, .ref s8, .ref s9, .ref s10, .ref s11, .int (nI sn), .int (nI sl), .int (nI se)]))), (s7, .inl (.inl (kA 1, 10, .inl sc7)))]) [(4, .int (nI v4_3_562)), (0, .ref d), (1, .ref s), (2, .int (nI k)), (3, .int mo)] 0 0 22 []
          refine j_aload_n h 1 rfl rfl dX1_firstRow_22 ?_
          refine jm_get h iw_X1 0 rfl rfl 3 (by decide +kernel) tw_465 rfl dX1_firstRow_23 ?_
          refine j_iload h 0 rfl dX1_firstRow_26 ?_
          refine j_iconst (v := 1) h (by decide) dX1_firstRow_28 ?_
          refine jm_zast (w' := [(d, .inl (.inr (1, [.ref d0, .ref d1, .ref d2, .ref d3]))), (d0, .inl (.inl (kA 1, 10, .inl dus))), (d1, .inl (.inl (kA 1, 10, .inl fd1_3_562))), (d2, .inl (.inl (kA 1, 10, .inl fd2_3_562))), (d3, .inl (.inl (kA 3, 10, .inl (upd fd3_3_562 v4_3_562 (vp_nar .boolean 1))))), (s, .inl (.inr (5, [.ref s0, .ref s1, .ref s2, .ref s3, .ref s4, .ref s5, .ref s6, .ref s7, .ref s8, .ref s9, .ref s10, .ref s11, .int (nI sn), .int (nI sl), .int (nI se)]))), (s7, .inl (.inl (kA 1, 10, .inl sc7)))]) h 4 rfl v4_3_562 rfl (by omega) (by omega) dX1_firstRow_29 rfl ?_
          refine j_aload_n h 1 rfl rfl dX1_firstRow_30 ?_
          refine jm_get h iw_X1 0 rfl rfl 0 (by decide +kernel) tw_462 rfl dX1_firstRow_31 ?_
          refine j_iload_n h 3 rfl rfl dX1_firstRow_34 ?_
          refine jm_iald h 1 rfl k rfl (by omega) (by omega) dX1_firstRow_35 ?_
          refine j_aload_n h 2 rfl rfl dX1_firstRow_36 ?_
          refine jm_get h iw_X5 5 rfl rfl 7 (by decide +kernel) tw_200 rfl dX1_firstRow_37 ?_
          refine j_iload h 0 rfl dX1_firstRow_40 ?_
          refine jm_iald h 6 rfl v4_3_562 rfl (by omega) (by omega) dX1_firstRow_42 ?_
          obtain ⟨t4504, u4505, u4506, u4507⟩ := (show LtOk sl sc7 by assumption) v4_3_562 (by omega)
          refine j_top (b := nI t4504) (u4507) ?_
          refine j_imul h dX1_firstRow_43 ?_
          refine j_aload_n h 1 rfl rfl dX1_firstRow_44 ?_
          refine j_aload_n h 2 rfl rfl dX1_firstRow_45 ?_
          refine j_iload_n h 3 rfl rfl dX1_firstRow_46 ?_
          refine j_iconst (v := 1) h (by decide) dX1_firstRow_47 ?_
          refine j_iadd h dX1_firstRow_48 ?_
          refine j_top (b := nI (k + 1)) (nI_add k 1) ?_
          refine jm_callVi (np := 2) (isC := [0, 1, 2, 3, 4, 5, 6]) (isR := []) (wc := [(d, .inl (.inr (1, [.ref d0, .ref d1, .ref d2, .ref d3]))), (d0, .inl (.inl (kA 1, 10, .inl dus))), (d1, .inl (.inl (kA 1, 10, .inl fd1_3_562))), (d2, .inl (.inl (kA 1, 10, .inl fd2_3_562))), (d3, .inl (.inl (kA 3, 10, .inl (upd fd3_3_562 v4_3_562 (vp_nar .boolean 1))))), (s, .inl (.inr (5, [.ref s0, .ref s1, .ref s2, .ref s3, .ref s4, .ref s5, .ref s6, .ref s7, .ref s8, .ref s9, .ref s10, .ref s11, .int (nI sn), .int (nI sl), .int (nI se)]))), (s7, .inl (.inl (kA 1, 10, .inl sc7)))]) (wr := []) (rest := [.int ((dus k) * (nI t4504))]) (As := [.ref s, .int (nI (k + 1))]) (q0 := 0) h (s_X1_leastOfRest _ _ kA d s (k + 1) d0 d1 d2 d3 dus fd1_3_562 fd2_3_562 (upd fd3_3_562 v4_3_562 (vp_nar .boolean 1)) s0 s1 s2 s3 s4 s5 s6 s7 s8 s9 s10 s11 sn sl se sc7 (show sn ≤ 6 by first | assumption | omega) (show sl ≤ 10 by first | assumption | omega) (show se ≤ 4 by first | assumption | omega) (show LtOk sl sc7 by first | assumption | omega) (show (k + 1) ≤ 10 by first | assumption | omega)) tw_1038 tw_1040 tw_32 tw_98 tw_1041 (by decide +kernel) rfl ⟨Nat.le_of_ble_eq_true rfl, Nat.le_of_ble_eq_true rfl⟩ rfl rfl (by decide +kernel) rfl rfl (by decide +kernel) (by decide +kernel) (Nat.le_of_ble_eq_true rfl) rfl ⟨Nat.le_of_ble_eq_true rfl, Nat.le_of_ble_eq_true rfl⟩ dX1_firstRow_49 ?_
          rintro r4511 ⟨q4508, q4509⟩ e4510
          show J x (mflat [(d, .inl (.inr (1, [.ref d0, .ref d1, .ref d2, .ref d3]))), (d0, .inl (.inl (kA 1, 10, .inl dus))), (d1, .inl (.inl (kA 1, 10, .inl q4508))), (d2, .inl (.inl (kA 1, 10, .inl q4509))), (d3, .inl (.inl (kA 3, 10, .inl (upd fd3_3_562 v4_3_562 (vp_nar .boolean 1))))), (s, .inl (.inr (5, [.ref s0, .ref s1, .ref s2, .ref s3, .ref s4, .ref s5, .ref s6, .ref s7, .ref s8, .ref s9, .ref s10, .ref s11, .int (nI sn), .int (nI sl), .int (nI se)]))), (s7, .inl (.inl (kA 1, 10, .inl sc7)))]) [(4, .int (nI v4_3_562)), (0, .ref d), (1, .ref s), (2, .int (nI k)), (3, .int mo)] 0 0 52 [.int r4511, .int ((dus k) * (nI t4504))]
          refine j_iadd h dX1_firstRow_52 ?_
          refine j_iload_n h 4 rfl rfl dX1_firstRow_53 ?_
          refine j_icmp_gt h 60 dX1_firstRow_54 (by decide) (fun z4512 => ?_) (fun z4512 => ?_)
          · show J x (mflat [(d, .inl (.inr (1, [.ref d0, .ref d1, .ref d2, .ref d3]))), (d0, .inl (.inl (kA 1, 10, .inl dus))), (d1, .inl (.inl (kA 1, 10, .inl q4508))), (d2, .inl (.inl (kA 1, 10, .inl q4509))), (d3, .inl (.inl (kA 3, 10, .inl (upd fd3_3_562 v4_3_562 (vp_nar .boolean 1))))), (s, .inl (.inr (5, [.ref s0, .ref s1, .ref s2, .ref s3, .ref s4, .ref s5, .ref s6, .ref s7, .ref s8, .ref s9, .ref s10, .ref s11, .int (nI sn), .int (nI sl), .int (nI se)]))), (s7, .inl (.inl (kA 1, 10, .inl sc7)))]) [(4, .int (nI v4_3_562)), (0, .ref d), (1, .ref s), (2, .int (nI k)), (3, .int mo)] 0 0 60 []
            refine j_aload_n h 1 rfl rfl dX1_firstRow_60 ?_
            refine jm_get h iw_X1 0 rfl rfl 3 (by decide +kernel) tw_465 rfl dX1_firstRow_61 ?_
            refine j_iload h 0 rfl dX1_firstRow_64 ?_
            refine j_iconst (v := 0) h (by decide) dX1_firstRow_66 ?_
            refine jm_zast (w' := [(d, .inl (.inr (1, [.ref d0, .ref d1, .ref d2, .ref d3]))), (d0, .inl (.inl (kA 1, 10, .inl dus))), (d1, .inl (.inl (kA 1, 10, .inl q4508))), (d2, .inl (.inl (kA 1, 10, .inl q4509))), (d3, .inl (.inl (kA 3, 10, .inl (upd (upd fd3_3_562 v4_3_562 (vp_nar .boolean 1)) v4_3_562 (vp_nar .boolean 0))))), (s, .inl (.inr (5, [.ref s0, .ref s1, .ref s2, .ref s3, .ref s4, .ref s5, .ref s6, .ref s7, .ref s8, .ref s9, .ref s10, .ref s11, .int (nI sn), .int (nI sl), .int (nI se)]))), (s7, .inl (.inl (kA 1, 10, .inl sc7)))]) h 4 rfl v4_3_562 rfl (by omega) (by omega) dX1_firstRow_67 rfl ?_
            refine j_iinc (v := nI (v4_3_562 + 1)) (lv' := [(4, .int (nI (v4_3_562 + 1))), (0, .ref d), (1, .ref s), (2, .int (nI k)), (3, .int mo)]) h dX1_firstRow_68 0 rfl (nI_add v4_3_562 1) (by decide) rfl ?_
            refine j_goto h 3 dX1_firstRow_71 (by decide) ?_
            refine jm_sub [0, 1, 2, 3, 4, 5, 6] (w' := [(d, .inl (.inr (1, [.ref d0, .ref d1, .ref d2, .ref d3]))), (d0, .inl (.inl (kA 1, 10, .inl dus))), (d1, .inl (.inl (kA 1, 10, .inl q4508))), (d2, .inl (.inl (kA 1, 10, .inl q4509))), (d3, .inl (.inl (kA 3, 10, .inl (upd (upd fd3_3_562 v4_3_562 (vp_nar .boolean 1)) v4_3_562 (vp_nar .boolean 0))))), (s, .inl (.inr (5, [.ref s0, .ref s1, .ref s2, .ref s3, .ref s4, .ref s5, .ref s6, .ref s7, .ref s8, .ref s9, .ref s10, .ref s11, .int (nI sn), .int (nI sl), .int (nI se)]))), (s7, .inl (.inl (kA 1, 10, .inl sc7)))]) rfl (by decide +kernel) [0, 1, 2, 3, 4] (lv' := [(4, .int (nI (v4_3_562 + 1))), (0, .ref d), (1, .ref s), (2, .int (nI k)), (3, .int mo)]) rfl ?_
            exact ih3_562 (v4_3_562 + 1) q4508 q4509 (upd (upd fd3_3_562 v4_3_562 (vp_nar .boolean 1)) v4_3_562 (vp_nar .boolean 0)) (show (v4_3_562 + 1) ≤ 100000 by first | assumption | omega) (show 100001 - (v4_3_562 + 1) < m3_562 by first | exact Nat.lt_of_lt_of_le (Nat.sub_lt_sub_left (Nat.lt_of_le_of_lt (show v4_3_562 ≤ 100000 by assumption) (Nat.lt_succ_self 100000)) (Nat.lt_succ_self v4_3_562)) (Nat.le_of_lt_succ hm3_562) | omega)
          · show J x (mflat [(d, .inl (.inr (1, [.ref d0, .ref d1, .ref d2, .ref d3]))), (d0, .inl (.inl (kA 1, 10, .inl dus))), (d1, .inl (.inl (kA 1, 10, .inl q4508))), (d2, .inl (.inl (kA 1, 10, .inl q4509))), (d3, .inl (.inl (kA 3, 10, .inl (upd fd3_3_562 v4_3_562 (vp_nar .boolean 1))))), (s, .inl (.inr (5, [.ref s0, .ref s1, .ref s2, .ref s3, .ref s4, .ref s5, .ref s6, .ref s7, .ref s8, .ref s9, .ref s10, .ref s11, .int (nI sn), .int (nI sl), .int (nI se)]))), (s7, .inl (.inl (kA 1, 10, .inl sc7)))]) [(4, .int (nI v4_3_562)), (0, .ref d), (1, .ref s), (2, .int (nI k)), (3, .int mo)] 0 0 57 []
            refine j_iload h 0 rfl dX1_firstRow_57 ?_
            exact jm_iret h hq dX1_firstRow_59 (v4_3_562, q4508, q4509, (upd fd3_3_562 v4_3_562 (vp_nar .boolean 1))) [0, 1, 2, 3, 4, 5, 6] rfl (by decide) ⟨rfl, (show v4_3_562 < sl by first | assumption | omega)⟩ (Nat.le_of_ble_eq_true rfl) (Nat.le_of_ble_eq_true rfl)
  refine jm_sub [0, 1, 2, 3, 4, 5, 6] (w' := [(d, .inl (.inr (1, [.ref d0, .ref d1, .ref d2, .ref d3]))), (d0, .inl (.inl (kA 1, 10, .inl dus))), (d1, .inl (.inl (kA 1, 10, .inl dru))), (d2, .inl (.inl (kA 1, 10, .inl drt))), (d3, .inl (.inl (kA 3, 10, .inl dgv))), (s, .inl (.inr (5, [.ref s0, .ref s1, .ref s2, .ref s3, .ref s4, .ref s5, .ref s6, .ref s7, .ref s8, .ref s9, .ref s10, .ref s11, .int (nI sn), .int (nI sl), .int (nI se)]))), (s7, .inl (.inl (kA 1, 10, .inl sc7)))]) rfl (by decide +kernel) [0, 1, 2, 3, 4] (lv' := [(4, .int 0), (0, .ref d), (1, .ref s), (2, .int (nI k)), (3, .int mo)]) rfl ?_
  exact lp3_562 (100001 - 0 + 1) 0 dru drt dgv (show 0 ≤ 100000 by first | assumption | omega) (Nat.lt_succ_self _)
set_option maxHeartbeats 4000000 in
set_option maxRecDepth 100000 in
theorem s_X1_dealRows (lau : Launch) (gg : va_G) (kA : Nat → ClassId) (d : Nat) (s : Nat) (t : Nat) (o : Nat) (d0 : Nat) (d1 : Nat) (d2 : Nat) (d3 : Nat) (dus : Nat → Int32) (dru : Nat → Int32) (drt : Nat → Int32) (dgv : Nat → Int32) (s0 : Nat) (s1 : Nat) (s2 : Nat) (s3 : Nat) (s4 : Nat) (s5 : Nat) (s6 : Nat) (s7 : Nat) (s8 : Nat) (s9 : Nat) (s10 : Nat) (s11 : Nat) (sn : Nat) (sl : Nat) (se : Nat) (sc7 : Nat → Int32) (t0 : Nat) (tsz : Nat) (ttm : Nat) (tft : Nat) (trow : Nat → Int32) (of : Nat → Int32) (hsn : sn ≤ 6) (hsl : sl ≤ 10) (hse : se ≤ 4) (hslt : LtOk sl sc7) (htsz : tsz ≤ 60) (httm : ttm ≤ 60) (htft : tft ≤ 1) (htro : RoOk sl tsz trow) : CtI lau yX1_dealRows cX1_dealRows 8 (some .int) 4 0 0 gg kA [.ref d, .ref s, .ref t, .ref o] (mflat [(d, .inl (.inr (1, [.ref d0, .ref d1, .ref d2, .ref d3]))), (d0, .inl (.inl (kA 1, 10, .inl dus))), (d1, .inl (.inl (kA 1, 10, .inl dru))), (d2, .inl (.inl (kA 1, 10, .inl drt))), (d3, .inl (.inl (kA 3, 10, .inl dgv))), (s, .inl (.inr (5, [.ref s0, .ref s1, .ref s2, .ref s3, .ref s4, .ref s5, .ref s6, .ref s7, .ref s8, .ref s9, .ref s10, .ref s11, .int (nI sn), .int (nI sl), .int (nI se)]))), (s7, .inl (.inl (kA 1, 10, .inl sc7))), (t, .inl (.inr (10, [.ref t0, .int (nI tsz), .int (nI ttm), .int (nI tft)]))), (t0, .inl (.inl (kA 1, 60, .inl trow))), (o, .inl (.inl (kA 1, 60, .inl of)))]) (S := (Nat → Int32) × (Nat → Int32) × (Nat → Int32) × (Nat → Int32) × (Nat → Int32)) (fun (r : Int32) ((y_d0, y_d1, y_d2, y_d3, y_o) : (Nat → Int32) × (Nat → Int32) × (Nat → Int32) × (Nat → Int32) × (Nat → Int32)) => True) (fun ((y_d0, y_d1, y_d2, y_d3, y_o) : (Nat → Int32) × (Nat → Int32) × (Nat → Int32) × (Nat → Int32) × (Nat → Int32)) => mflat [(d, .inl (.inr (1, [.ref d0, .ref d1, .ref d2, .ref d3]))), (d0, .inl (.inl (kA 1, 10, .inl y_d0))), (d1, .inl (.inl (kA 1, 10, .inl y_d1))), (d2, .inl (.inl (kA 1, 10, .inl y_d2))), (d3, .inl (.inl (kA 3, 10, .inl y_d3))), (s, .inl (.inr (5, [.ref s0, .ref s1, .ref s2, .ref s3, .ref s4, .ref s5, .ref s6, .ref s7, .ref s8, .ref s9, .ref s10, .ref s11, .int (nI sn), .int (nI sl), .int (nI se)]))), (s7, .inl (.inl (kA 1, 10, .inl sc7))), (t, .inl (.inr (10, [.ref t0, .int (nI tsz), .int (nI ttm), .int (nI tft)]))), (t0, .inl (.inl (kA 1, 60, .inl trow))), (o, .inl (.inl (kA 1, 60, .inl y_o)))]) := by
  refine nx_startI (by decide +kernel) (Nat.le_of_ble_eq_true rfl) ?_
  intro x hnm h hq
  have h : Ok x cX1_dealRows RX1 kA (rmC 4 0 0) 8 := h
  show J x (mflat [(d, .inl (.inr (1, [.ref d0, .ref d1, .ref d2, .ref d3]))), (d0, .inl (.inl (kA 1, 10, .inl dus))), (d1, .inl (.inl (kA 1, 10, .inl dru))), (d2, .inl (.inl (kA 1, 10, .inl drt))), (d3, .inl (.inl (kA 3, 10, .inl dgv))), (s, .inl (.inr (5, [.ref s0, .ref s1, .ref s2, .ref s3, .ref s4, .ref s5, .ref s6, .ref s7, .ref s8, .ref s9, .ref s10, .ref s11, .int (nI sn), .int (nI sl), .int (nI se)]))), (s7, .inl (.inl (kA 1, 10, .inl sc7))), (t, .inl (.inr (10, [.ref t0, .int (nI tsz), .int (nI ttm), .int (nI tft)]))), (t0, .inl (.inl (kA 1, 60, .inl trow))), (o, .inl (.inl (kA 1, 60, .inl of)))]) [(0, .ref d), (1, .ref s), (2, .ref t), (3, .ref o)] 0 0 0 []
  refine j_aload_n h 0 rfl rfl dX1_dealRows_0 ?_
  refine j_aload_n h 2 rfl rfl dX1_dealRows_1 ?_
  refine jm_callVv (np := 1) (isC := [0, 1, 4, 7, 8]) (isR := [2, 3, 5, 6, 9]) (wc := [(d, .inl (.inr (1, [.ref d0, .ref d1, .ref d2, .ref d3]))), (d0, .inl (.inl (kA 1, 10, .inl dus))), (d3, .inl (.inl (kA 3, 10, .inl dgv))), (t, .inl (.inr (10, [.ref t0, .int (nI tsz), .int (nI ttm), .int (nI tft)]))), (t0, .inl (.inl (kA 1, 60, .inl trow)))]) (wr := [(d1, .inl (.inl (kA 1, 10, .inl dru))), (d2, .inl (.inl (kA 1, 10, .inl drt))), (s, .inl (.inr (5, [.ref s0, .ref s1, .ref s2, .ref s3, .ref s4, .ref s5, .ref s6, .ref s7, .ref s8, .ref s9, .ref s10, .ref s11, .int (nI sn), .int (nI sl), .int (nI se)]))), (s7, .inl (.inl (kA 1, 10, .inl sc7))), (o, .inl (.inl (kA 1, 60, .inl of)))]) (rest := []) (As := [.ref t]) (q0 := 0) h (s_X1_countUses _ _ kA d t d0 d1 d2 d3 dus dgv t0 tsz ttm tft trow sl (show tsz ≤ 60 by first | assumption | omega) (show ttm ≤ 60 by first | assumption | omega) (show tft ≤ 1 by first | assumption | omega) (show RoOk sl tsz trow by first | assumption | omega) (show sl ≤ 10 by first | assumption | omega)) tw_1033 tw_1035 tw_31 tw_98 tw_1036 (by decide +kernel) rfl ⟨Nat.le_of_ble_eq_true rfl, Nat.le_of_ble_eq_true rfl⟩ rfl rfl (by decide +kernel) rfl rfl (by decide +kernel) (by decide +kernel) (Nat.le_of_ble_eq_true rfl) rfl ⟨Nat.le_of_ble_eq_true rfl, Nat.le_of_ble_eq_true rfl⟩ dX1_dealRows_2 ?_
  rintro ⟨q4562, q4563⟩ e4564
  show J x (mflat [(d1, .inl (.inl (kA 1, 10, .inl dru))), (d2, .inl (.inl (kA 1, 10, .inl drt))), (s, .inl (.inr (5, [.ref s0, .ref s1, .ref s2, .ref s3, .ref s4, .ref s5, .ref s6, .ref s7, .ref s8, .ref s9, .ref s10, .ref s11, .int (nI sn), .int (nI sl), .int (nI se)]))), (s7, .inl (.inl (kA 1, 10, .inl sc7))), (o, .inl (.inl (kA 1, 60, .inl of))), (d, .inl (.inr (1, [.ref d0, .ref d1, .ref d2, .ref d3]))), (d0, .inl (.inl (kA 1, 10, .inl q4562))), (d3, .inl (.inl (kA 3, 10, .inl q4563))), (t, .inl (.inr (10, [.ref t0, .int (nI tsz), .int (nI ttm), .int (nI tft)]))), (t0, .inl (.inl (kA 1, 60, .inl trow)))]) [(0, .ref d), (1, .ref s), (2, .ref t), (3, .ref o)] 0 0 5 []
  refine j_aload_n h 0 rfl rfl dX1_dealRows_5 ?_
  refine j_aload_n h 1 rfl rfl dX1_dealRows_6 ?_
  refine j_iconst (v := 0) h (by decide) dX1_dealRows_7 ?_
  refine jm_callVi (np := 2) (isC := [5, 6, 0, 1, 7, 2, 3]) (isR := [4, 8, 9]) (wc := [(d, .inl (.inr (1, [.ref d0, .ref d1, .ref d2, .ref d3]))), (d0, .inl (.inl (kA 1, 10, .inl q4562))), (d1, .inl (.inl (kA 1, 10, .inl dru))), (d2, .inl (.inl (kA 1, 10, .inl drt))), (d3, .inl (.inl (kA 3, 10, .inl q4563))), (s, .inl (.inr (5, [.ref s0, .ref s1, .ref s2, .ref s3, .ref s4, .ref s5, .ref s6, .ref s7, .ref s8, .ref s9, .ref s10, .ref s11, .int (nI sn), .int (nI sl), .int (nI se)]))), (s7, .inl (.inl (kA 1, 10, .inl sc7)))]) (wr := [(o, .inl (.inl (kA 1, 60, .inl of))), (t, .inl (.inr (10, [.ref t0, .int (nI tsz), .int (nI ttm), .int (nI tft)]))), (t0, .inl (.inl (kA 1, 60, .inl trow)))]) (rest := []) (As := [.ref s, .int 0]) (q0 := 0) h (s_X1_leastOfRest _ _ kA d s 0 d0 d1 d2 d3 q4562 dru drt q4563 s0 s1 s2 s3 s4 s5 s6 s7 s8 s9 s10 s11 sn sl se sc7 (show sn ≤ 6 by first | assumption | omega) (show sl ≤ 10 by first | assumption | omega) (show se ≤ 4 by first | assumption | omega) (show LtOk sl sc7 by first | assumption | omega) (show 0 ≤ 10 by first | assumption | omega)) tw_1038 tw_1040 tw_32 tw_98 tw_1041 (by decide +kernel) rfl ⟨Nat.le_of_ble_eq_true rfl, Nat.le_of_ble_eq_true rfl⟩ rfl rfl (by decide +kernel) rfl rfl (by decide +kernel) (by decide +kernel) (Nat.le_of_ble_eq_true rfl) rfl ⟨Nat.le_of_ble_eq_true rfl, Nat.le_of_ble_eq_true rfl⟩ dX1_dealRows_8 ?_
  rintro r4569 ⟨q4566, q4567⟩ e4568
  show J x (mflat [(o, .inl (.inl (kA 1, 60, .inl of))), (t, .inl (.inr (10, [.ref t0, .int (nI tsz), .int (nI ttm), .int (nI tft)]))), (t0, .inl (.inl (kA 1, 60, .inl trow))), (d, .inl (.inr (1, [.ref d0, .ref d1, .ref d2, .ref d3]))), (d0, .inl (.inl (kA 1, 10, .inl q4562))), (d1, .inl (.inl (kA 1, 10, .inl q4566))), (d2, .inl (.inl (kA 1, 10, .inl q4567))), (d3, .inl (.inl (kA 3, 10, .inl q4563))), (s, .inl (.inr (5, [.ref s0, .ref s1, .ref s2, .ref s3, .ref s4, .ref s5, .ref s6, .ref s7, .ref s8, .ref s9, .ref s10, .ref s11, .int (nI sn), .int (nI sl), .int (nI se)]))), (s7, .inl (.inl (kA 1, 10, .inl sc7)))]) [(0, .ref d), (1, .ref s), (2, .ref t), (3, .ref o)] 0 0 11 [.int r4569]
  refine j_istore (lv' := [(4, .int r4569), (0, .ref d), (1, .ref s), (2, .ref t), (3, .ref o)]) h dX1_dealRows_11 (by decide) rfl ?_
  refine j_iconst (v := 0) h (by decide) dX1_dealRows_13 ?_
  refine j_istore (lv' := [(5, .int 0), (4, .int r4569), (0, .ref d), (1, .ref s), (2, .ref t), (3, .ref o)]) h dX1_dealRows_14 (by decide) rfl ?_
  refine j_iconst (v := 0) h (by decide) dX1_dealRows_16 ?_
  refine j_istore (lv' := [(6, .int 0), (5, .int 0), (4, .int r4569), (0, .ref d), (1, .ref s), (2, .ref t), (3, .ref o)]) h dX1_dealRows_17 (by decide) rfl ?_
  have lp19_568 : ∀ (m19_568 : Nat), ∀ (v6_19_568 : Nat) (v5_19_568 : Int32) (fo_19_568 : Nat → Int32) (fd1_19_568 : Nat → Int32) (fd2_19_568 : Nat → Int32) (fd3_19_568 : Nat → Int32), (v6_19_568 ≤ 100000) → 100001 - v6_19_568 < m19_568 → J x (mflat [(o, .inl (.inl (kA 1, 60, .inl fo_19_568))), (t, .inl (.inr (10, [.ref t0, .int (nI tsz), .int (nI ttm), .int (nI tft)]))), (t0, .inl (.inl (kA 1, 60, .inl trow))), (d, .inl (.inr (1, [.ref d0, .ref d1, .ref d2, .ref d3]))), (d0, .inl (.inl (kA 1, 10, .inl q4562))), (d1, .inl (.inl (kA 1, 10, .inl fd1_19_568))), (d2, .inl (.inl (kA 1, 10, .inl fd2_19_568))), (d3, .inl (.inl (kA 3, 10, .inl fd3_19_568))), (s, .inl (.inr (5, [.ref s0, .ref s1, .ref s2, .ref s3, .ref s4, .ref s5, .ref s6, .ref s7, .ref s8, .ref s9, .ref s10, .ref s11, .int (nI sn), .int (nI sl), .int (nI se)]))), (s7, .inl (.inl (kA 1, 10, .inl sc7)))]) [(6, .int (nI v6_19_568)), (5, .int v5_19_568), (4, .int r4569), (0, .ref d), (1, .ref s), (2, .ref t), (3, .ref o)] 0 0 19 [] := by
    intro m19_568
    induction m19_568 with
    | zero =>
      intro v6_19_568 v5_19_568 fo_19_568 fd1_19_568 fd2_19_568 fd3_19_568 i19_568_0 hm19_568
      exact absurd hm19_568 (Nat.not_lt_zero _)
    | succ m19_568 ih19_568 =>
      intro v6_19_568 v5_19_568 fo_19_568 fd1_19_568 fd2_19_568 fd3_19_568 i19_568_0 hm19_568
      refine j_iload h 0 rfl dX1_dealRows_19 ?_
      refine j_aload_n h 4 rfl rfl dX1_dealRows_21 ?_
      refine jm_get h iw_X5 8 rfl rfl 13 (by decide +kernel) tw_223 rfl dX1_dealRows_22 ?_
      refine j_icmp_ge h 81 dX1_dealRows_25 (by decide) (fun z4597 => ?_) (fun z4597 => ?_)
      · have z4597n : sl ≤ v6_19_568 := (nI_leI (a := sl) (b := v6_19_568) (by omega) (by omega)).mp z4597
        refine j_iload h 2 rfl dX1_dealRows_81 ?_
        exact jm_iret h hq dX1_dealRows_83 (q4562, fd1_19_568, fd2_19_568, fd3_19_568, fo_19_568) [3, 4, 5, 6, 7, 8, 9, 1, 2, 0] rfl (by decide) trivial (Nat.le_of_ble_eq_true rfl) (Nat.le_of_ble_eq_true rfl)
      · have z4597n : ¬ sl ≤ v6_19_568 := fun q9 => z4597 ((nI_leI (a := sl) (b := v6_19_568) (by omega) (by omega)).mpr q9)
        refine j_iload h 0 rfl dX1_dealRows_28 ?_
        refine j_aload_n h 6 rfl rfl dX1_dealRows_30 ?_
        refine jm_alen (v := 60) h 0 1 rfl rfl rfl dX1_dealRows_31 ?_
        refine j_icmp_ge h 81 dX1_dealRows_32 (by decide) (fun z4598 => ?_) (fun z4598 => ?_)
        · have z4598n : 60 ≤ v6_19_568 := (nI_leI (a := 60) (b := v6_19_568) (by omega) (by omega)).mp z4598
          refine j_iload h 2 rfl dX1_dealRows_81 ?_
          exact jm_iret h hq dX1_dealRows_83 (q4562, fd1_19_568, fd2_19_568, fd3_19_568, fo_19_568) [3, 4, 5, 6, 7, 8, 9, 1, 2, 0] rfl (by decide) trivial (Nat.le_of_ble_eq_true rfl) (Nat.le_of_ble_eq_true rfl)
        · have z4598n : ¬ 60 ≤ v6_19_568 := fun q9 => z4598 ((nI_leI (a := 60) (b := v6_19_568) (by omega) (by omega)).mpr q9)
          refine j_aload_n h 3 rfl rfl dX1_dealRows_35 ?_
          refine j_aload_n h 4 rfl rfl dX1_dealRows_36 ?_
          refine j_iload h 0 rfl dX1_dealRows_37 ?_
          refine j_iload h 2 rfl dX1_dealRows_39 ?_
          refine j_iload h 1 rfl dX1_dealRows_41 ?_
          refine j_isub h dX1_dealRows_43 ?_
          refine jm_callVi (np := 3) (isC := [3, 4, 5, 6, 7, 8, 9]) (isR := [0, 1, 2]) (wc := [(d, .inl (.inr (1, [.ref d0, .ref d1, .ref d2, .ref d3]))), (d0, .inl (.inl (kA 1, 10, .inl q4562))), (d1, .inl (.inl (kA 1, 10, .inl fd1_19_568))), (d2, .inl (.inl (kA 1, 10, .inl fd2_19_568))), (d3, .inl (.inl (kA 3, 10, .inl fd3_19_568))), (s, .inl (.inr (5, [.ref s0, .ref s1, .ref s2, .ref s3, .ref s4, .ref s5, .ref s6, .ref s7, .ref s8, .ref s9, .ref s10, .ref s11, .int (nI sn), .int (nI sl), .int (nI se)]))), (s7, .inl (.inl (kA 1, 10, .inl sc7)))]) (wr := [(o, .inl (.inl (kA 1, 60, .inl fo_19_568))), (t, .inl (.inr (10, [.ref t0, .int (nI tsz), .int (nI ttm), .int (nI tft)]))), (t0, .inl (.inl (kA 1, 60, .inl trow)))]) (rest := []) (As := [.ref s, .int (nI v6_19_568), .int (r4569 - v5_19_568)]) (q0 := 0) h (s_X1_firstRow _ _ kA d s v6_19_568 (r4569 - v5_19_568) d0 d1 d2 d3 q4562 fd1_19_568 fd2_19_568 fd3_19_568 s0 s1 s2 s3 s4 s5 s6 s7 s8 s9 s10 s11 sn sl se sc7 (show sn ≤ 6 by first | assumption | omega) (show sl ≤ 10 by first | assumption | omega) (show se ≤ 4 by first | assumption | omega) (show LtOk sl sc7 by first | assumption | omega) (show v6_19_568 < sl by first | assumption | omega)) tw_1045 tw_1047 tw_33 tw_98 tw_1048 (by decide +kernel) rfl ⟨Nat.le_of_ble_eq_true rfl, Nat.le_of_ble_eq_true rfl⟩ rfl rfl (by decide +kernel) rfl rfl (by decide +kernel) (by decide +kernel) (Nat.le_of_ble_eq_true rfl) rfl ⟨Nat.le_of_ble_eq_true rfl, Nat.le_of_ble_eq_true rfl⟩ dX1_dealRows_44 ?_
          rintro r4604 ⟨q4599, q4600, q4601, q4602⟩ e4603
          obtain ⟨p4605, p4606⟩ := e4603
          subst p4605
          replace p4606 : q4599 < sl := p4606
          show J x (mflat [(o, .inl (.inl (kA 1, 60, .inl fo_19_568))), (t, .inl (.inr (10, [.ref t0, .int (nI tsz), .int (nI ttm), .int (nI tft)]))), (t0, .inl (.inl (kA 1, 60, .inl trow))), (d, .inl (.inr (1, [.ref d0, .ref d1, .ref d2, .ref d3]))), (d0, .inl (.inl (kA 1, 10, .inl q4562))), (d1, .inl (.inl (kA 1, 10, .inl q4600))), (d2, .inl (.inl (kA 1, 10, .inl q4601))), (d3, .inl (.inl (kA 3, 10, .inl q4602))), (s, .inl (.inr (5, [.ref s0, .ref s1, .ref s2, .ref s3, .ref s4, .ref s5, .ref s6, .ref s7, .ref s8, .ref s9, .ref s10, .ref s11, .int (nI sn), .int (nI sl), .int (nI se)]))), (s7, .inl (.inl (kA 1, 10, .inl sc7)))]) [(6, .int (nI v6_19_568)), (5, .int v5_19_568), (4, .int r4569), (0, .ref d), (1, .ref s), (2, .ref t), (3, .ref o)] 0 0 47 [.int (nI q4599)]
          refine j_istore (lv' := [(7, .int (nI q4599)), (6, .int (nI v6_19_568)), (5, .int v5_19_568), (4, .int r4569), (0, .ref d), (1, .ref s), (2, .ref t), (3, .ref o)]) h dX1_dealRows_47 (by decide) rfl ?_
          refine j_aload_n h 7 rfl rfl dX1_dealRows_49 ?_
          refine j_iload h 1 rfl dX1_dealRows_50 ?_
          refine j_iload h 0 rfl dX1_dealRows_52 ?_
          refine jm_iast (w' := [(o, .inl (.inl (kA 1, 60, .inl (upd fo_19_568 v6_19_568 (nI q4599))))), (t, .inl (.inr (10, [.ref t0, .int (nI tsz), .int (nI ttm), .int (nI tft)]))), (t0, .inl (.inl (kA 1, 60, .inl trow))), (d, .inl (.inr (1, [.ref d0, .ref d1, .ref d2, .ref d3]))), (d0, .inl (.inl (kA 1, 10, .inl q4562))), (d1, .inl (.inl (kA 1, 10, .inl q4600))), (d2, .inl (.inl (kA 1, 10, .inl q4601))), (d3, .inl (.inl (kA 3, 10, .inl q4602))), (s, .inl (.inr (5, [.ref s0, .ref s1, .ref s2, .ref s3, .ref s4, .ref s5, .ref s6, .ref s7, .ref s8, .ref s9, .ref s10, .ref s11, .int (nI sn), .int (nI sl), .int (nI se)]))), (s7, .inl (.inl (kA 1, 10, .inl sc7)))]) h 0 rfl v6_19_568 rfl (by omega) (by omega) dX1_dealRows_54 rfl ?_
          refine j_iload h 2 rfl dX1_dealRows_55 ?_
          refine j_aload_n h 4 rfl rfl dX1_dealRows_57 ?_
          refine jm_get h iw_X1 3 rfl rfl 0 (by decide +kernel) tw_462 rfl dX1_dealRows_58 ?_
          refine j_iload h 1 rfl dX1_dealRows_61 ?_
          refine jm_iald h 4 rfl v6_19_568 rfl (by omega) (by omega) dX1_dealRows_63 ?_
          refine j_aload_n h 5 rfl rfl dX1_dealRows_64 ?_
          refine jm_get h iw_X5 8 rfl rfl 7 (by decide +kernel) tw_200 rfl dX1_dealRows_65 ?_
          refine j_iload h 0 rfl dX1_dealRows_68 ?_
          refine jm_iald h 9 rfl q4599 rfl (by omega) (by omega) dX1_dealRows_70 ?_
          obtain ⟨t4607, u4608, u4609, u4610⟩ := (show LtOk sl sc7 by assumption) q4599 (by omega)
          refine j_top (b := nI t4607) (u4610) ?_
          refine j_imul h dX1_dealRows_71 ?_
          refine j_iadd h dX1_dealRows_72 ?_
          refine j_istore (lv' := [(5, .int (v5_19_568 + ((q4562 v6_19_568) * (nI t4607)))), (7, .int (nI q4599)), (6, .int (nI v6_19_568)), (4, .int r4569), (0, .ref d), (1, .ref s), (2, .ref t), (3, .ref o)]) h dX1_dealRows_73 (by decide) rfl ?_
          refine j_iinc (v := nI (v6_19_568 + 1)) (lv' := [(6, .int (nI (v6_19_568 + 1))), (5, .int (v5_19_568 + ((q4562 v6_19_568) * (nI t4607)))), (7, .int (nI q4599)), (4, .int r4569), (0, .ref d), (1, .ref s), (2, .ref t), (3, .ref o)]) h dX1_dealRows_75 2 rfl (nI_add v6_19_568 1) (by decide) rfl ?_
          refine j_goto h 19 dX1_dealRows_78 (by decide) ?_
          refine jm_sub [0, 1, 2, 3, 4, 5, 6, 7, 8, 9] (w' := [(o, .inl (.inl (kA 1, 60, .inl (upd fo_19_568 v6_19_568 (nI q4599))))), (t, .inl (.inr (10, [.ref t0, .int (nI tsz), .int (nI ttm), .int (nI tft)]))), (t0, .inl (.inl (kA 1, 60, .inl trow))), (d, .inl (.inr (1, [.ref d0, .ref d1, .ref d2, .ref d3]))), (d0, .inl (.inl (kA 1, 10, .inl q4562))), (d1, .inl (.inl (kA 1, 10, .inl q4600))), (d2, .inl (.inl (kA 1, 10, .inl q4601))), (d3, .inl (.inl (kA 3, 10, .inl q4602))), (s, .inl (.inr (5, [.ref s0, .ref s1, .ref s2, .ref s3, .ref s4, .ref s5, .ref s6, .ref s7, .ref s8, .ref s9, .ref s10, .ref s11, .int (nI sn), .int (nI sl), .int (nI se)]))), (s7, .inl (.inl (kA 1, 10, .inl sc7)))]) rfl (by decide +kernel) [0, 1, 3, 4, 5, 6, 7] (lv' := [(6, .int (nI (v6_19_568 + 1))), (5, .int (v5_19_568 + ((q4562 v6_19_568) * (nI t4607)))), (4, .int r4569), (0, .ref d), (1, .ref s), (2, .ref t), (3, .ref o)]) rfl ?_
          exact ih19_568 (v6_19_568 + 1) (v5_19_568 + ((q4562 v6_19_568) * (nI t4607))) (upd fo_19_568 v6_19_568 (nI q4599)) q4600 q4601 q4602 (show (v6_19_568 + 1) ≤ 100000 by first | assumption | omega) (show 100001 - (v6_19_568 + 1) < m19_568 by first | exact Nat.lt_of_lt_of_le (Nat.sub_lt_sub_left (Nat.lt_of_le_of_lt (show v6_19_568 ≤ 100000 by assumption) (Nat.lt_succ_self 100000)) (Nat.lt_succ_self v6_19_568)) (Nat.le_of_lt_succ hm19_568) | omega)
  refine jm_sub [0, 1, 2, 3, 4, 5, 6, 7, 8, 9] (w' := [(o, .inl (.inl (kA 1, 60, .inl of))), (t, .inl (.inr (10, [.ref t0, .int (nI tsz), .int (nI ttm), .int (nI tft)]))), (t0, .inl (.inl (kA 1, 60, .inl trow))), (d, .inl (.inr (1, [.ref d0, .ref d1, .ref d2, .ref d3]))), (d0, .inl (.inl (kA 1, 10, .inl q4562))), (d1, .inl (.inl (kA 1, 10, .inl q4566))), (d2, .inl (.inl (kA 1, 10, .inl q4567))), (d3, .inl (.inl (kA 3, 10, .inl q4563))), (s, .inl (.inr (5, [.ref s0, .ref s1, .ref s2, .ref s3, .ref s4, .ref s5, .ref s6, .ref s7, .ref s8, .ref s9, .ref s10, .ref s11, .int (nI sn), .int (nI sl), .int (nI se)]))), (s7, .inl (.inl (kA 1, 10, .inl sc7)))]) rfl (by decide +kernel) [0, 1, 2, 3, 4, 5, 6] (lv' := [(6, .int 0), (5, .int 0), (4, .int r4569), (0, .ref d), (1, .ref s), (2, .ref t), (3, .ref o)]) rfl ?_
  exact lp19_568 (100001 - 0 + 1) 0 0 of q4566 q4567 q4563 (show 0 ≤ 100000 by first | assumption | omega) (Nat.lt_succ_self _)
