theorem dX3_isGoneOnFrom_0 : decode cX3_isGoneOnFrom 0 = .ok (.aload_n 0, 1) := by decide +kernel
theorem dX3_isGoneOnFrom_1 : decode cX3_isGoneOnFrom 1 = .ok (.getfield 32, 3) := by decide +kernel
theorem dX3_isGoneOnFrom_4 : decode cX3_isGoneOnFrom 4 = .ok (.iload_n 1, 1) := by decide +kernel
theorem dX3_isGoneOnFrom_5 : decode cX3_isGoneOnFrom 5 = .ok (.aaload, 1) := by decide +kernel
theorem dX3_isGoneOnFrom_6 : decode cX3_isGoneOnFrom 6 = .ok (.iload_n 2, 1) := by decide +kernel
theorem dX3_isGoneOnFrom_7 : decode cX3_isGoneOnFrom 7 = .ok (.iaload, 1) := by decide +kernel
theorem dX3_isGoneOnFrom_8 : decode cX3_isGoneOnFrom 8 = .ok (.istore_n 3, 1) := by decide +kernel
theorem dX3_isGoneOnFrom_9 : decode cX3_isGoneOnFrom 9 = .ok (.iload_n 3, 1) := by decide +kernel
theorem dX3_isGoneOnFrom_10 : decode cX3_isGoneOnFrom 10 = .ok (.iconst (-1), 1) := by decide +kernel
theorem dX3_isGoneOnFrom_11 : decode cX3_isGoneOnFrom 11 = .ok (.if_icmp .ne 5, 3) := by decide +kernel
theorem dX3_isGoneOnFrom_14 : decode cX3_isGoneOnFrom 14 = .ok (.iconst 0, 1) := by decide +kernel
theorem dX3_isGoneOnFrom_15 : decode cX3_isGoneOnFrom 15 = .ok (.ireturn, 1) := by decide +kernel
theorem dX3_isGoneOnFrom_16 : decode cX3_isGoneOnFrom 16 = .ok (.aload_n 0, 1) := by decide +kernel
theorem dX3_isGoneOnFrom_17 : decode cX3_isGoneOnFrom 17 = .ok (.getfield 20, 3) := by decide +kernel
theorem tw_385 : Cond.fieldLink RX3 20 "LimpCode$Grid" "reached" "[J" ∈ TT := nx_mem 385 (by decide +kernel) (by decide +kernel)
theorem dX3_isGoneOnFrom_20 : decode cX3_isGoneOnFrom 20 = .ok (.iload_n 2, 1) := by decide +kernel
theorem dX3_isGoneOnFrom_21 : decode cX3_isGoneOnFrom 21 = .ok (.laload, 1) := by decide +kernel
theorem dX3_isGoneOnFrom_22 : decode cX3_isGoneOnFrom 22 = .ok (.aload_n 0, 1) := by decide +kernel
theorem dX3_isGoneOnFrom_23 : decode cX3_isGoneOnFrom 23 = .ok (.getfield 38, 3) := by decide +kernel
theorem tw_383 : Cond.fieldLink RX3 38 "LimpCode$Grid" "fits" "[J" ∈ TT := nx_mem 383 (by decide +kernel) (by decide +kernel)
theorem dX3_isGoneOnFrom_26 : decode cX3_isGoneOnFrom 26 = .ok (.iload_n 1, 1) := by decide +kernel
theorem dX3_isGoneOnFrom_27 : decode cX3_isGoneOnFrom 27 = .ok (.laload, 1) := by decide +kernel
theorem dX3_isGoneOnFrom_28 : decode cX3_isGoneOnFrom 28 = .ok (.land, 1) := by decide +kernel
theorem dX3_isGoneOnFrom_29 : decode cX3_isGoneOnFrom 29 = .ok (.aload_n 0, 1) := by decide +kernel
theorem dX3_isGoneOnFrom_30 : decode cX3_isGoneOnFrom 30 = .ok (.getfield 26, 3) := by decide +kernel
theorem dX3_isGoneOnFrom_33 : decode cX3_isGoneOnFrom 33 = .ok (.iload_n 1, 1) := by decide +kernel
theorem dX3_isGoneOnFrom_34 : decode cX3_isGoneOnFrom 34 = .ok (.iaload, 1) := by decide +kernel
theorem dX3_isGoneOnFrom_35 : decode cX3_isGoneOnFrom 35 = .ok (.lshl, 1) := by decide +kernel
theorem dX3_isGoneOnFrom_36 : decode cX3_isGoneOnFrom 36 = .ok (.aload_n 0, 1) := by decide +kernel
theorem dX3_isGoneOnFrom_37 : decode cX3_isGoneOnFrom 37 = .ok (.getfield 16, 3) := by decide +kernel
theorem tw_384 : Cond.fieldLink RX3 16 "LimpCode$Grid" "alive" "[J" ∈ TT := nx_mem 384 (by decide +kernel) (by decide +kernel)
theorem dX3_isGoneOnFrom_40 : decode cX3_isGoneOnFrom 40 = .ok (.iload_n 3, 1) := by decide +kernel
theorem dX3_isGoneOnFrom_41 : decode cX3_isGoneOnFrom 41 = .ok (.laload, 1) := by decide +kernel
theorem dX3_isGoneOnFrom_42 : decode cX3_isGoneOnFrom 42 = .ok (.land, 1) := by decide +kernel
theorem dX3_isGoneOnFrom_43 : decode cX3_isGoneOnFrom 43 = .ok (.lconst 0, 1) := by decide +kernel
theorem dX3_isGoneOnFrom_44 : decode cX3_isGoneOnFrom 44 = .ok (.lcmp, 1) := by decide +kernel
theorem dX3_isGoneOnFrom_45 : decode cX3_isGoneOnFrom 45 = .ok (.ifCond .eq 7, 3) := by decide +kernel
theorem dX3_isGoneOnFrom_52 : decode cX3_isGoneOnFrom 52 = .ok (.iconst 0, 1) := by decide +kernel
theorem dX3_isGoneOnFrom_53 : decode cX3_isGoneOnFrom 53 = .ok (.ireturn, 1) := by decide +kernel
theorem dX3_isGoneOnFrom_48 : decode cX3_isGoneOnFrom 48 = .ok (.iconst 1, 1) := by decide +kernel
theorem dX3_isGoneOnFrom_49 : decode cX3_isGoneOnFrom 49 = .ok (.goto 4, 3) := by decide +kernel
theorem dX3_reachNext_0 : decode cX3_reachNext 0 = .ok (.aload_n 0, 1) := by decide +kernel
theorem dX3_reachNext_1 : decode cX3_reachNext 1 = .ok (.getfield 23, 3) := by decide +kernel
theorem tw_386 : Cond.fieldLink RX3 23 "LimpCode$Grid" "reachedNext" "[J" ∈ TT := nx_mem 386 (by decide +kernel) (by decide +kernel)
theorem dX3_reachNext_4 : decode cX3_reachNext 4 = .ok (.iconst 0, 1) := by decide +kernel
theorem dX3_reachNext_5 : decode cX3_reachNext 5 = .ok (.lconst 0, 1) := by decide +kernel
theorem dX3_reachNext_6 : decode cX3_reachNext 6 = .ok (.lastore, 1) := by decide +kernel
theorem dX3_reachNext_7 : decode cX3_reachNext 7 = .ok (.aload_n 0, 1) := by decide +kernel
theorem dX3_reachNext_8 : decode cX3_reachNext 8 = .ok (.getfield 23, 3) := by decide +kernel
theorem dX3_reachNext_11 : decode cX3_reachNext 11 = .ok (.iconst 1, 1) := by decide +kernel
theorem dX3_reachNext_12 : decode cX3_reachNext 12 = .ok (.lconst 0, 1) := by decide +kernel
theorem dX3_reachNext_13 : decode cX3_reachNext 13 = .ok (.lastore, 1) := by decide +kernel
theorem dX3_reachNext_14 : decode cX3_reachNext 14 = .ok (.iconst 0, 1) := by decide +kernel
theorem dX3_reachNext_15 : decode cX3_reachNext 15 = .ok (.istore_n 1, 1) := by decide +kernel
theorem dX3_reachNext_16 : decode cX3_reachNext 16 = .ok (.iload_n 1, 1) := by decide +kernel
theorem dX3_reachNext_17 : decode cX3_reachNext 17 = .ok (.aload_n 0, 1) := by decide +kernel
theorem dX3_reachNext_18 : decode cX3_reachNext 18 = .ok (.getfield 45, 3) := by decide +kernel
theorem dX3_reachNext_21 : decode cX3_reachNext 21 = .ok (.if_icmp .ge 65, 3) := by decide +kernel
theorem dX3_reachNext_86 : decode cX3_reachNext 86 = .ok (.aload_n 0, 1) := by decide +kernel
theorem dX3_reachNext_87 : decode cX3_reachNext 87 = .ok (.getfield 20, 3) := by decide +kernel
theorem dX3_reachNext_90 : decode cX3_reachNext 90 = .ok (.iconst 0, 1) := by decide +kernel
theorem dX3_reachNext_91 : decode cX3_reachNext 91 = .ok (.aload_n 0, 1) := by decide +kernel
theorem dX3_reachNext_92 : decode cX3_reachNext 92 = .ok (.getfield 23, 3) := by decide +kernel
theorem dX3_reachNext_95 : decode cX3_reachNext 95 = .ok (.iconst 0, 1) := by decide +kernel
theorem dX3_reachNext_96 : decode cX3_reachNext 96 = .ok (.laload, 1) := by decide +kernel
theorem dX3_reachNext_97 : decode cX3_reachNext 97 = .ok (.lastore, 1) := by decide +kernel
theorem dX3_reachNext_98 : decode cX3_reachNext 98 = .ok (.aload_n 0, 1) := by decide +kernel
theorem dX3_reachNext_99 : decode cX3_reachNext 99 = .ok (.getfield 20, 3) := by decide +kernel
theorem dX3_reachNext_102 : decode cX3_reachNext 102 = .ok (.iconst 1, 1) := by decide +kernel
theorem dX3_reachNext_103 : decode cX3_reachNext 103 = .ok (.aload_n 0, 1) := by decide +kernel
theorem dX3_reachNext_104 : decode cX3_reachNext 104 = .ok (.getfield 23, 3) := by decide +kernel
theorem dX3_reachNext_107 : decode cX3_reachNext 107 = .ok (.iconst 1, 1) := by decide +kernel
theorem dX3_reachNext_108 : decode cX3_reachNext 108 = .ok (.laload, 1) := by decide +kernel
theorem dX3_reachNext_109 : decode cX3_reachNext 109 = .ok (.lastore, 1) := by decide +kernel
theorem dX3_reachNext_110 : decode cX3_reachNext 110 = .ok (.return_, 1) := by decide +kernel
theorem dX3_reachNext_24 : decode cX3_reachNext 24 = .ok (.iconst 0, 1) := by decide +kernel
theorem dX3_reachNext_25 : decode cX3_reachNext 25 = .ok (.istore_n 2, 1) := by decide +kernel
theorem dX3_reachNext_26 : decode cX3_reachNext 26 = .ok (.iload_n 2, 1) := by decide +kernel
theorem dX3_reachNext_27 : decode cX3_reachNext 27 = .ok (.iconst 1, 1) := by decide +kernel
theorem dX3_reachNext_28 : decode cX3_reachNext 28 = .ok (.if_icmp .gt 52, 3) := by decide +kernel
theorem dX3_reachNext_31 : decode cX3_reachNext 31 = .ok (.aload_n 0, 1) := by decide +kernel
theorem dX3_reachNext_32 : decode cX3_reachNext 32 = .ok (.getfield 32, 3) := by decide +kernel
theorem dX3_reachNext_35 : decode cX3_reachNext 35 = .ok (.iload_n 1, 1) := by decide +kernel
theorem dX3_reachNext_36 : decode cX3_reachNext 36 = .ok (.aaload, 1) := by decide +kernel
theorem dX3_reachNext_37 : decode cX3_reachNext 37 = .ok (.iload_n 2, 1) := by decide +kernel
theorem dX3_reachNext_38 : decode cX3_reachNext 38 = .ok (.iaload, 1) := by decide +kernel
theorem dX3_reachNext_39 : decode cX3_reachNext 39 = .ok (.istore_n 3, 1) := by decide +kernel
theorem dX3_reachNext_40 : decode cX3_reachNext 40 = .ok (.iload_n 3, 1) := by decide +kernel
theorem dX3_reachNext_41 : decode cX3_reachNext 41 = .ok (.iconst (-1), 1) := by decide +kernel
theorem dX3_reachNext_42 : decode cX3_reachNext 42 = .ok (.if_icmp .eq 32, 3) := by decide +kernel
theorem dX3_reachNext_74 : decode cX3_reachNext 74 = .ok (.iinc 2 1, 3) := by decide +kernel
theorem dX3_reachNext_77 : decode cX3_reachNext 77 = .ok (.goto (-51), 3) := by decide +kernel
theorem dX3_reachNext_45 : decode cX3_reachNext 45 = .ok (.aload_n 0, 1) := by decide +kernel
theorem dX3_reachNext_46 : decode cX3_reachNext 46 = .ok (.getfield 23, 3) := by decide +kernel
theorem dX3_reachNext_49 : decode cX3_reachNext 49 = .ok (.iload_n 3, 1) := by decide +kernel
theorem dX3_reachNext_50 : decode cX3_reachNext 50 = .ok (.dup2, 1) := by decide +kernel
theorem dX3_reachNext_51 : decode cX3_reachNext 51 = .ok (.laload, 1) := by decide +kernel
theorem dX3_reachNext_52 : decode cX3_reachNext 52 = .ok (.aload_n 0, 1) := by decide +kernel
theorem dX3_reachNext_53 : decode cX3_reachNext 53 = .ok (.getfield 20, 3) := by decide +kernel
theorem dX3_reachNext_56 : decode cX3_reachNext 56 = .ok (.iload_n 2, 1) := by decide +kernel
theorem dX3_reachNext_57 : decode cX3_reachNext 57 = .ok (.laload, 1) := by decide +kernel
theorem dX3_reachNext_58 : decode cX3_reachNext 58 = .ok (.aload_n 0, 1) := by decide +kernel
theorem dX3_reachNext_59 : decode cX3_reachNext 59 = .ok (.getfield 38, 3) := by decide +kernel
theorem dX3_reachNext_62 : decode cX3_reachNext 62 = .ok (.iload_n 1, 1) := by decide +kernel
theorem dX3_reachNext_63 : decode cX3_reachNext 63 = .ok (.laload, 1) := by decide +kernel
theorem dX3_reachNext_64 : decode cX3_reachNext 64 = .ok (.land, 1) := by decide +kernel
theorem dX3_reachNext_65 : decode cX3_reachNext 65 = .ok (.aload_n 0, 1) := by decide +kernel
theorem dX3_reachNext_66 : decode cX3_reachNext 66 = .ok (.getfield 26, 3) := by decide +kernel
theorem dX3_reachNext_69 : decode cX3_reachNext 69 = .ok (.iload_n 1, 1) := by decide +kernel
theorem dX3_reachNext_70 : decode cX3_reachNext 70 = .ok (.iaload, 1) := by decide +kernel
theorem dX3_reachNext_71 : decode cX3_reachNext 71 = .ok (.lshl, 1) := by decide +kernel
theorem dX3_reachNext_72 : decode cX3_reachNext 72 = .ok (.lor, 1) := by decide +kernel
theorem dX3_reachNext_73 : decode cX3_reachNext 73 = .ok (.lastore, 1) := by decide +kernel
theorem dX3_reachNext_80 : decode cX3_reachNext 80 = .ok (.iinc 1 1, 3) := by decide +kernel
theorem dX3_reachNext_83 : decode cX3_reachNext 83 = .ok (.goto (-67), 3) := by decide +kernel
theorem dX3_drawMasks_0 : decode cX3_drawMasks 0 = .ok (.iconst 0, 1) := by decide +kernel
theorem dX3_drawMasks_1 : decode cX3_drawMasks 1 = .ok (.istore_n 1, 1) := by decide +kernel
theorem dX3_drawMasks_2 : decode cX3_drawMasks 2 = .ok (.iload_n 1, 1) := by decide +kernel
theorem dX3_drawMasks_3 : decode cX3_drawMasks 3 = .ok (.aload_n 0, 1) := by decide +kernel
theorem dX3_drawMasks_4 : decode cX3_drawMasks 4 = .ok (.getfield 45, 3) := by decide +kernel
theorem dX3_drawMasks_7 : decode cX3_drawMasks 7 = .ok (.if_icmp .ge 59, 3) := by decide +kernel
theorem dX3_drawMasks_66 : decode cX3_drawMasks 66 = .ok (.iconst 0, 1) := by decide +kernel
theorem dX3_drawMasks_67 : decode cX3_drawMasks 67 = .ok (.istore_n 1, 1) := by decide +kernel
theorem dX3_drawMasks_68 : decode cX3_drawMasks 68 = .ok (.iload_n 1, 1) := by decide +kernel
theorem dX3_drawMasks_69 : decode cX3_drawMasks 69 = .ok (.iconst 1, 1) := by decide +kernel
theorem dX3_drawMasks_70 : decode cX3_drawMasks 70 = .ok (.if_icmp .gt 61, 3) := by decide +kernel
theorem dX3_drawMasks_73 : decode cX3_drawMasks 73 = .ok (.aload_n 0, 1) := by decide +kernel
theorem dX3_drawMasks_74 : decode cX3_drawMasks 74 = .ok (.getfield 16, 3) := by decide +kernel
theorem dX3_drawMasks_77 : decode cX3_drawMasks 77 = .ok (.iload_n 1, 1) := by decide +kernel
theorem dX3_drawMasks_78 : decode cX3_drawMasks 78 = .ok (.lconst 0, 1) := by decide +kernel
theorem dX3_drawMasks_79 : decode cX3_drawMasks 79 = .ok (.lastore, 1) := by decide +kernel
theorem dX3_drawMasks_80 : decode cX3_drawMasks 80 = .ok (.iconst 0, 1) := by decide +kernel
theorem dX3_drawMasks_81 : decode cX3_drawMasks 81 = .ok (.istore_n 2, 1) := by decide +kernel
theorem dX3_drawMasks_82 : decode cX3_drawMasks 82 = .ok (.iload_n 2, 1) := by decide +kernel
theorem dX3_drawMasks_83 : decode cX3_drawMasks 83 = .ok (.aload_n 0, 1) := by decide +kernel
theorem dX3_drawMasks_84 : decode cX3_drawMasks 84 = .ok (.getfield 92, 3) := by decide +kernel
theorem dX3_drawMasks_87 : decode cX3_drawMasks 87 = .ok (.if_icmp .gt 38, 3) := by decide +kernel
theorem dX3_drawMasks_125 : decode cX3_drawMasks 125 = .ok (.iinc 1 1, 3) := by decide +kernel
theorem dX3_drawMasks_128 : decode cX3_drawMasks 128 = .ok (.goto (-60), 3) := by decide +kernel
theorem dX3_drawMasks_90 : decode cX3_drawMasks 90 = .ok (.aload_n 0, 1) := by decide +kernel
theorem dX3_drawMasks_91 : decode cX3_drawMasks 91 = .ok (.getfield 16, 3) := by decide +kernel
theorem dX3_drawMasks_94 : decode cX3_drawMasks 94 = .ok (.iload_n 1, 1) := by decide +kernel
theorem dX3_drawMasks_95 : decode cX3_drawMasks 95 = .ok (.dup2, 1) := by decide +kernel
theorem dX3_drawMasks_96 : decode cX3_drawMasks 96 = .ok (.laload, 1) := by decide +kernel
theorem dX3_drawMasks_97 : decode cX3_drawMasks 97 = .ok (.aload_n 0, 1) := by decide +kernel
theorem dX3_drawMasks_98 : decode cX3_drawMasks 98 = .ok (.getfield 11, 3) := by decide +kernel
theorem dX3_drawMasks_101 : decode cX3_drawMasks 101 = .ok (.iload_n 1, 1) := by decide +kernel
theorem dX3_drawMasks_102 : decode cX3_drawMasks 102 = .ok (.aaload, 1) := by decide +kernel
theorem dX3_drawMasks_103 : decode cX3_drawMasks 103 = .ok (.iload_n 2, 1) := by decide +kernel
theorem dX3_drawMasks_104 : decode cX3_drawMasks 104 = .ok (.laload, 1) := by decide +kernel
theorem dX3_drawMasks_105 : decode cX3_drawMasks 105 = .ok (.lconst 0, 1) := by decide +kernel
theorem dX3_drawMasks_106 : decode cX3_drawMasks 106 = .ok (.lcmp, 1) := by decide +kernel
theorem dX3_drawMasks_107 : decode cX3_drawMasks 107 = .ok (.ifCond .le 9, 3) := by decide +kernel
theorem dX3_drawMasks_116 : decode cX3_drawMasks 116 = .ok (.lconst 0, 1) := by decide +kernel
theorem dX3_drawMasks_117 : decode cX3_drawMasks 117 = .ok (.lor, 1) := by decide +kernel
theorem dX3_drawMasks_118 : decode cX3_drawMasks 118 = .ok (.lastore, 1) := by decide +kernel
theorem dX3_drawMasks_119 : decode cX3_drawMasks 119 = .ok (.iinc 2 1, 3) := by decide +kernel
theorem dX3_drawMasks_122 : decode cX3_drawMasks 122 = .ok (.goto (-40), 3) := by decide +kernel
theorem dX3_drawMasks_110 : decode cX3_drawMasks 110 = .ok (.lconst 1, 1) := by decide +kernel
theorem dX3_drawMasks_111 : decode cX3_drawMasks 111 = .ok (.iload_n 2, 1) := by decide +kernel
theorem dX3_drawMasks_112 : decode cX3_drawMasks 112 = .ok (.lshl, 1) := by decide +kernel
theorem dX3_drawMasks_113 : decode cX3_drawMasks 113 = .ok (.goto 4, 3) := by decide +kernel
theorem dX3_drawMasks_131 : decode cX3_drawMasks 131 = .ok (.aload_n 0, 1) := by decide +kernel
theorem dX3_drawMasks_132 : decode cX3_drawMasks 132 = .ok (.getfield 20, 3) := by decide +kernel
theorem dX3_drawMasks_135 : decode cX3_drawMasks 135 = .ok (.iconst 0, 1) := by decide +kernel
theorem dX3_drawMasks_136 : decode cX3_drawMasks 136 = .ok (.lconst 1, 1) := by decide +kernel
theorem dX3_drawMasks_137 : decode cX3_drawMasks 137 = .ok (.lastore, 1) := by decide +kernel
theorem dX3_drawMasks_138 : decode cX3_drawMasks 138 = .ok (.aload_n 0, 1) := by decide +kernel
theorem dX3_drawMasks_139 : decode cX3_drawMasks 139 = .ok (.getfield 20, 3) := by decide +kernel
theorem dX3_drawMasks_142 : decode cX3_drawMasks 142 = .ok (.iconst 1, 1) := by decide +kernel
theorem dX3_drawMasks_143 : decode cX3_drawMasks 143 = .ok (.lconst 0, 1) := by decide +kernel
theorem dX3_drawMasks_144 : decode cX3_drawMasks 144 = .ok (.lastore, 1) := by decide +kernel
theorem dX3_drawMasks_145 : decode cX3_drawMasks 145 = .ok (.return_, 1) := by decide +kernel
theorem dX3_drawMasks_10 : decode cX3_drawMasks 10 = .ok (.aload_n 0, 1) := by decide +kernel
theorem dX3_drawMasks_11 : decode cX3_drawMasks 11 = .ok (.getfield 38, 3) := by decide +kernel
theorem dX3_drawMasks_14 : decode cX3_drawMasks 14 = .ok (.iload_n 1, 1) := by decide +kernel
theorem dX3_drawMasks_15 : decode cX3_drawMasks 15 = .ok (.lconst 0, 1) := by decide +kernel
theorem dX3_drawMasks_16 : decode cX3_drawMasks 16 = .ok (.lastore, 1) := by decide +kernel
theorem dX3_drawMasks_17 : decode cX3_drawMasks 17 = .ok (.iconst 0, 1) := by decide +kernel
theorem dX3_drawMasks_18 : decode cX3_drawMasks 18 = .ok (.istore_n 2, 1) := by decide +kernel
theorem dX3_drawMasks_19 : decode cX3_drawMasks 19 = .ok (.iload_n 2, 1) := by decide +kernel
theorem dX3_drawMasks_20 : decode cX3_drawMasks 20 = .ok (.aload_n 0, 1) := by decide +kernel
theorem dX3_drawMasks_21 : decode cX3_drawMasks 21 = .ok (.getfield 92, 3) := by decide +kernel
theorem dX3_drawMasks_24 : decode cX3_drawMasks 24 = .ok (.if_icmp .ge 36, 3) := by decide +kernel
theorem dX3_drawMasks_60 : decode cX3_drawMasks 60 = .ok (.iinc 1 1, 3) := by decide +kernel
theorem dX3_drawMasks_63 : decode cX3_drawMasks 63 = .ok (.goto (-61), 3) := by decide +kernel
theorem dX3_drawMasks_27 : decode cX3_drawMasks 27 = .ok (.aload_n 0, 1) := by decide +kernel
theorem dX3_drawMasks_28 : decode cX3_drawMasks 28 = .ok (.getfield 38, 3) := by decide +kernel
theorem dX3_drawMasks_31 : decode cX3_drawMasks 31 = .ok (.iload_n 1, 1) := by decide +kernel
theorem dX3_drawMasks_32 : decode cX3_drawMasks 32 = .ok (.dup2, 1) := by decide +kernel
theorem dX3_drawMasks_33 : decode cX3_drawMasks 33 = .ok (.laload, 1) := by decide +kernel
theorem dX3_drawMasks_34 : decode cX3_drawMasks 34 = .ok (.aload_n 0, 1) := by decide +kernel
theorem dX3_drawMasks_35 : decode cX3_drawMasks 35 = .ok (.getfield 35, 3) := by decide +kernel
theorem dX3_drawMasks_38 : decode cX3_drawMasks 38 = .ok (.iload_n 1, 1) := by decide +kernel
theorem dX3_drawMasks_39 : decode cX3_drawMasks 39 = .ok (.aaload, 1) := by decide +kernel
theorem dX3_drawMasks_40 : decode cX3_drawMasks 40 = .ok (.iload_n 2, 1) := by decide +kernel
theorem dX3_drawMasks_41 : decode cX3_drawMasks 41 = .ok (.iaload, 1) := by decide +kernel
theorem dX3_drawMasks_42 : decode cX3_drawMasks 42 = .ok (.ifCond .ne 9, 3) := by decide +kernel
theorem dX3_drawMasks_51 : decode cX3_drawMasks 51 = .ok (.lconst 0, 1) := by decide +kernel
theorem dX3_drawMasks_52 : decode cX3_drawMasks 52 = .ok (.lor, 1) := by decide +kernel
theorem dX3_drawMasks_53 : decode cX3_drawMasks 53 = .ok (.lastore, 1) := by decide +kernel
theorem dX3_drawMasks_54 : decode cX3_drawMasks 54 = .ok (.iinc 2 1, 3) := by decide +kernel
theorem dX3_drawMasks_57 : decode cX3_drawMasks 57 = .ok (.goto (-38), 3) := by decide +kernel
theorem dX3_drawMasks_45 : decode cX3_drawMasks 45 = .ok (.lconst 1, 1) := by decide +kernel
theorem dX3_drawMasks_46 : decode cX3_drawMasks 46 = .ok (.iload_n 2, 1) := by decide +kernel
theorem dX3_drawMasks_47 : decode cX3_drawMasks 47 = .ok (.lshl, 1) := by decide +kernel
theorem dX3_drawMasks_48 : decode cX3_drawMasks 48 = .ok (.goto 4, 3) := by decide +kernel
theorem dX3_standingAt_0 : decode cX3_standingAt 0 = .ok (.aload_n 0, 1) := by decide +kernel
theorem dX3_standingAt_1 : decode cX3_standingAt 1 = .ok (.invokevirtual 118, 3) := by decide +kernel
theorem tw_1115 : Cond.methodLink RX3 118 yX3_drawMasks ∈ TT := nx_mem 1115 (by decide +kernel) (by decide +kernel)
theorem tw_1117 : Cond.instanceMethod yX3_drawMasks ∈ TT := nx_mem 1117 (by decide +kernel) (by decide +kernel)
theorem tw_35 : Cond.selects RX3 yX3_drawMasks yX3_drawMasks ∈ TT := nx_mem 35 (by decide +kernel) (by decide +kernel)
theorem tw_1118 : Cond.code yX3_drawMasks cX3_drawMasks 3 none ∈ TT := nx_mem 1118 (by decide +kernel) (by decide +kernel)
theorem dX3_standingAt_4 : decode cX3_standingAt 4 = .ok (.iconst 0, 1) := by decide +kernel
theorem dX3_standingAt_5 : decode cX3_standingAt 5 = .ok (.istore_n 2, 1) := by decide +kernel
theorem dX3_standingAt_6 : decode cX3_standingAt 6 = .ok (.iload_n 2, 1) := by decide +kernel
theorem dX3_standingAt_7 : decode cX3_standingAt 7 = .ok (.iload_n 1, 1) := by decide +kernel
theorem dX3_standingAt_8 : decode cX3_standingAt 8 = .ok (.if_icmp .ge 19, 3) := by decide +kernel
theorem dX3_standingAt_27 : decode cX3_standingAt 27 = .ok (.iconst 0, 1) := by decide +kernel
theorem dX3_standingAt_28 : decode cX3_standingAt 28 = .ok (.istore_n 2, 1) := by decide +kernel
theorem dX3_standingAt_29 : decode cX3_standingAt 29 = .ok (.iconst 0, 1) := by decide +kernel
theorem dX3_standingAt_30 : decode cX3_standingAt 30 = .ok (.istore_n 3, 1) := by decide +kernel
theorem dX3_standingAt_31 : decode cX3_standingAt 31 = .ok (.iload_n 3, 1) := by decide +kernel
theorem dX3_standingAt_32 : decode cX3_standingAt 32 = .ok (.aload_n 0, 1) := by decide +kernel
theorem dX3_standingAt_33 : decode cX3_standingAt 33 = .ok (.getfield 45, 3) := by decide +kernel
theorem dX3_standingAt_36 : decode cX3_standingAt 36 = .ok (.if_icmp .ge 33, 3) := by decide +kernel
theorem dX3_standingAt_69 : decode cX3_standingAt 69 = .ok (.iload_n 2, 1) := by decide +kernel
theorem dX3_standingAt_70 : decode cX3_standingAt 70 = .ok (.ireturn, 1) := by decide +kernel
theorem dX3_standingAt_39 : decode cX3_standingAt 39 = .ok (.aload_n 0, 1) := by decide +kernel
theorem dX3_standingAt_40 : decode cX3_standingAt 40 = .ok (.iload_n 3, 1) := by decide +kernel
theorem dX3_standingAt_41 : decode cX3_standingAt 41 = .ok (.iconst 0, 1) := by decide +kernel
theorem dX3_standingAt_42 : decode cX3_standingAt 42 = .ok (.invokevirtual 124, 3) := by decide +kernel
theorem tw_1123 : Cond.methodLink RX3 124 yX3_isGoneOnFrom ∈ TT := nx_mem 1123 (by decide +kernel) (by decide +kernel)
theorem tw_1125 : Cond.instanceMethod yX3_isGoneOnFrom ∈ TT := nx_mem 1125 (by decide +kernel) (by decide +kernel)
theorem tw_37 : Cond.selects RX3 yX3_isGoneOnFrom yX3_isGoneOnFrom ∈ TT := nx_mem 37 (by decide +kernel) (by decide +kernel)
theorem tw_1126 : Cond.code yX3_isGoneOnFrom cX3_isGoneOnFrom 4 (some .boolean) ∈ TT := nx_mem 1126 (by decide +kernel) (by decide +kernel)
theorem dX3_standingAt_45 : decode cX3_standingAt 45 = .ok (.ifCond .ne 12, 3) := by decide +kernel
theorem dX3_standingAt_57 : decode cX3_standingAt 57 = .ok (.iload_n 2, 1) := by decide +kernel
theorem dX3_standingAt_58 : decode cX3_standingAt 58 = .ok (.iconst 1, 1) := by decide +kernel
theorem dX3_standingAt_59 : decode cX3_standingAt 59 = .ok (.iload_n 3, 1) := by decide +kernel
theorem dX3_standingAt_60 : decode cX3_standingAt 60 = .ok (.ishl, 1) := by decide +kernel
theorem dX3_standingAt_61 : decode cX3_standingAt 61 = .ok (.ior, 1) := by decide +kernel
theorem dX3_standingAt_62 : decode cX3_standingAt 62 = .ok (.istore_n 2, 1) := by decide +kernel
theorem dX3_standingAt_63 : decode cX3_standingAt 63 = .ok (.iinc 3 1, 3) := by decide +kernel
theorem dX3_standingAt_66 : decode cX3_standingAt 66 = .ok (.goto (-35), 3) := by decide +kernel
theorem dX3_standingAt_48 : decode cX3_standingAt 48 = .ok (.aload_n 0, 1) := by decide +kernel
theorem dX3_standingAt_49 : decode cX3_standingAt 49 = .ok (.iload_n 3, 1) := by decide +kernel
theorem dX3_standingAt_50 : decode cX3_standingAt 50 = .ok (.iconst 1, 1) := by decide +kernel
theorem dX3_standingAt_51 : decode cX3_standingAt 51 = .ok (.invokevirtual 124, 3) := by decide +kernel
theorem dX3_standingAt_54 : decode cX3_standingAt 54 = .ok (.ifCond .eq 9, 3) := by decide +kernel
theorem dX3_standingAt_11 : decode cX3_standingAt 11 = .ok (.iload_n 2, 1) := by decide +kernel
theorem dX3_standingAt_12 : decode cX3_standingAt 12 = .ok (.bipush 60, 2) := by decide +kernel
theorem dX3_standingAt_14 : decode cX3_standingAt 14 = .ok (.if_icmp .ge 13, 3) := by decide +kernel
theorem dX3_standingAt_17 : decode cX3_standingAt 17 = .ok (.aload_n 0, 1) := by decide +kernel
theorem dX3_standingAt_18 : decode cX3_standingAt 18 = .ok (.invokevirtual 121, 3) := by decide +kernel
theorem tw_1119 : Cond.methodLink RX3 121 yX3_reachNext ∈ TT := nx_mem 1119 (by decide +kernel) (by decide +kernel)
theorem tw_1121 : Cond.instanceMethod yX3_reachNext ∈ TT := nx_mem 1121 (by decide +kernel) (by decide +kernel)
theorem tw_36 : Cond.selects RX3 yX3_reachNext yX3_reachNext ∈ TT := nx_mem 36 (by decide +kernel) (by decide +kernel)
theorem tw_1122 : Cond.code yX3_reachNext cX3_reachNext 4 none ∈ TT := nx_mem 1122 (by decide +kernel) (by decide +kernel)
theorem dX3_standingAt_21 : decode cX3_standingAt 21 = .ok (.iinc 2 1, 3) := by decide +kernel
theorem dX3_standingAt_24 : decode cX3_standingAt 24 = .ok (.goto (-18), 3) := by decide +kernel
set_option maxHeartbeats 4000000 in
set_option maxRecDepth 100000 in
theorem s_X3_isGoneOnFrom (lau : Launch) (gg : va_G) (kA : Nat → ClassId) (g : Nat) (k : Nat) (f : Nat) (g0 : Nat) (g1 : Nat) (g2 : Nat) (g3 : Nat) (g4 : Nat) (g5 : Nat) (g6 : Nat) (g7 : Nat) (gn : Nat) (gtm : Nat) (gms : Nat) (M : Nat) (gtk : Nat → Int32) (gaf : Nat → Nat → Int32) (gfi : Nat → Int64) (gal : Nat → Int64) (gre : Nat → Int64) (hM : M ≤ 10) (hgn : gn ≤ M) (hgtm : gtm ≤ 60) (hgtk : LtOk gn gtk) (hgaf : FtOk gn gaf) (hk : k < gn) (hf : f ≤ 1) : CtI lau yX3_isGoneOnFrom cX3_isGoneOnFrom 4 (some .boolean) 1 0 0 gg kA [.ref g, .int (nI k), .int (nI f)] (mflat [(g, .inl (.inr (3, [.ref g0, .ref g1, .ref g2, .ref g3, .ref g4, .ref g5, .ref g6, .ref g7, .int (nI gn), .int (nI gtm), .int (nI gms)]))), (g0, .inl (.inl (kA 1, M, .inl gtk))), (g1, .inr (kA 6, kA 1, M, 2, .inl gaf)), (g4, .inl (.inl (kA 2, M, .inr (.inl gfi)))), (g5, .inl (.inl (kA 2, 2, .inr (.inl gal)))), (g6, .inl (.inl (kA 2, 2, .inr (.inl gre))))]) (S := Nat) (fun (r : Int32) (y_r : Nat) => r = nI y_r ∧ (y_r ≤ 1)) (fun (y_r : Nat) => mflat [(g, .inl (.inr (3, [.ref g0, .ref g1, .ref g2, .ref g3, .ref g4, .ref g5, .ref g6, .ref g7, .int (nI gn), .int (nI gtm), .int (nI gms)]))), (g0, .inl (.inl (kA 1, M, .inl gtk))), (g1, .inr (kA 6, kA 1, M, 2, .inl gaf)), (g4, .inl (.inl (kA 2, M, .inr (.inl gfi)))), (g5, .inl (.inl (kA 2, 2, .inr (.inl gal)))), (g6, .inl (.inl (kA 2, 2, .inr (.inl gre))))]) := by
  refine nx_startI (by decide +kernel) (Nat.le_of_ble_eq_true rfl) ?_
  intro x hnm h hq
  have h : Ok x cX3_isGoneOnFrom RX3 kA (rmC 1 0 0) 4 := h
  show J x (mflat [(g, .inl (.inr (3, [.ref g0, .ref g1, .ref g2, .ref g3, .ref g4, .ref g5, .ref g6, .ref g7, .int (nI gn), .int (nI gtm), .int (nI gms)]))), (g0, .inl (.inl (kA 1, M, .inl gtk))), (g1, .inr (kA 6, kA 1, M, 2, .inl gaf)), (g4, .inl (.inl (kA 2, M, .inr (.inl gfi)))), (g5, .inl (.inl (kA 2, 2, .inr (.inl gal)))), (g6, .inl (.inl (kA 2, 2, .inr (.inl gre))))]) [(0, .ref g), (1, .int (nI k)), (2, .int (nI f))] 0 0 0 []
  refine j_aload_n h 0 rfl rfl dX3_isGoneOnFrom_0 ?_
  refine jm_get h iw_X3 0 rfl rfl 1 (by decide +kernel) tw_379 rfl dX3_isGoneOnFrom_1 ?_
  refine j_iload_n h 1 rfl rfl dX3_isGoneOnFrom_4 ?_
  refine jm_gout h 2 6 rfl rfl k rfl (by omega) (by omega) dX3_isGoneOnFrom_5 ?_
  refine j_iload_n h 2 rfl rfl dX3_isGoneOnFrom_6 ?_
  refine jm_gald h 2 rfl k (by omega) f rfl (by omega) (by omega) dX3_isGoneOnFrom_7 ?_
  obtain ⟨t4616, u4617, u4618⟩ := (show FtOk gn gaf by assumption) k f (by omega) (by omega)
  refine j_top (b := pm t4616) (u4618) ?_
  refine j_istore_n (lv' := [(3, .int (pm t4616)), (0, .ref g), (1, .int (nI k)), (2, .int (nI f))]) h dX3_isGoneOnFrom_8 rfl (by decide) rfl ?_
  refine j_iload_n h 0 rfl rfl dX3_isGoneOnFrom_9 ?_
  refine j_iconst (v := (-1)) h (by decide) dX3_isGoneOnFrom_10 ?_
  rcases t4616 with _ | j4619
  · show J x (mflat [(g, .inl (.inr (3, [.ref g0, .ref g1, .ref g2, .ref g3, .ref g4, .ref g5, .ref g6, .ref g7, .int (nI gn), .int (nI gtm), .int (nI gms)]))), (g0, .inl (.inl (kA 1, M, .inl gtk))), (g1, .inr (kA 6, kA 1, M, 2, .inl gaf)), (g4, .inl (.inl (kA 2, M, .inr (.inl gfi)))), (g5, .inl (.inl (kA 2, 2, .inr (.inl gal)))), (g6, .inl (.inl (kA 2, 2, .inr (.inl gre))))]) [(3, .int (-1)), (0, .ref g), (1, .int (nI k)), (2, .int (nI f))] 0 0 11 [.int (-1), .int (-1)]
    refine j_icmp_ne h 16 dX3_isGoneOnFrom_11 (by decide) (fun q => absurd (by decide) q) (fun _ => ?_)
    refine j_iconst (v := 0) h (by decide) dX3_isGoneOnFrom_14 ?_
    exact jm_zret h hq rfl dX3_isGoneOnFrom_15 0 [0, 1, 2, 3, 4, 5] rfl (by decide) ⟨rfl, (show 0 ≤ 1 by first | assumption | omega)⟩ (Nat.le_of_ble_eq_true rfl) (Nat.le_of_ble_eq_true rfl)
  · show J x (mflat [(g, .inl (.inr (3, [.ref g0, .ref g1, .ref g2, .ref g3, .ref g4, .ref g5, .ref g6, .ref g7, .int (nI gn), .int (nI gtm), .int (nI gms)]))), (g0, .inl (.inl (kA 1, M, .inl gtk))), (g1, .inr (kA 6, kA 1, M, 2, .inl gaf)), (g4, .inl (.inl (kA 2, M, .inr (.inl gfi)))), (g5, .inl (.inl (kA 2, 2, .inr (.inl gal)))), (g6, .inl (.inl (kA 2, 2, .inr (.inl gre))))]) [(3, .int (nI j4619)), (0, .ref g), (1, .int (nI k)), (2, .int (nI f))] 0 0 11 [.int (-1), .int (nI j4619)]
    refine j_icmp_ne h 16 dX3_isGoneOnFrom_11 (by decide) (fun _ => ?_) (fun q => absurd q (nI_m1 (by omega)))
    refine j_aload_n h 1 rfl rfl dX3_isGoneOnFrom_16 ?_
    refine jm_get h iw_X3 0 rfl rfl 6 (by decide +kernel) tw_385 rfl dX3_isGoneOnFrom_17 ?_
    refine j_iload_n h 3 rfl rfl dX3_isGoneOnFrom_20 ?_
    refine jm_lald h 5 rfl f rfl (by omega) (by omega) dX3_isGoneOnFrom_21 ?_
    refine j_aload_n h 1 rfl rfl dX3_isGoneOnFrom_22 ?_
    refine jm_get h iw_X3 0 rfl rfl 4 (by decide +kernel) tw_383 rfl dX3_isGoneOnFrom_23 ?_
    refine j_iload_n h 2 rfl rfl dX3_isGoneOnFrom_26 ?_
    refine jm_lald h 3 rfl k rfl (by omega) (by omega) dX3_isGoneOnFrom_27 ?_
    refine j_land h dX3_isGoneOnFrom_28 ?_
    refine j_aload_n h 1 rfl rfl dX3_isGoneOnFrom_29 ?_
    refine jm_get h iw_X3 0 rfl rfl 0 (by decide +kernel) tw_377 rfl dX3_isGoneOnFrom_30 ?_
    refine j_iload_n h 2 rfl rfl dX3_isGoneOnFrom_33 ?_
    refine jm_iald h 1 rfl k rfl (by omega) (by omega) dX3_isGoneOnFrom_34 ?_
    refine j_lshl h dX3_isGoneOnFrom_35 ?_
    refine j_aload_n h 1 rfl rfl dX3_isGoneOnFrom_36 ?_
    refine jm_get h iw_X3 0 rfl rfl 5 (by decide +kernel) tw_384 rfl dX3_isGoneOnFrom_37 ?_
    refine j_iload_n h 0 rfl rfl dX3_isGoneOnFrom_40 ?_
    refine jm_lald h 4 rfl j4619 rfl (by omega) (by omega) dX3_isGoneOnFrom_41 ?_
    refine j_land h dX3_isGoneOnFrom_42 ?_
    refine j_lconst (v := 0) h (by decide) dX3_isGoneOnFrom_43 ?_
    refine j_lcmp h dX3_isGoneOnFrom_44 ?_
    refine j_if_eq h 52 dX3_isGoneOnFrom_45 (by decide) (fun z4620 => ?_) (fun z4620 => ?_)
    · show J x (mflat [(g, .inl (.inr (3, [.ref g0, .ref g1, .ref g2, .ref g3, .ref g4, .ref g5, .ref g6, .ref g7, .int (nI gn), .int (nI gtm), .int (nI gms)]))), (g0, .inl (.inl (kA 1, M, .inl gtk))), (g1, .inr (kA 6, kA 1, M, 2, .inl gaf)), (g4, .inl (.inl (kA 2, M, .inr (.inl gfi)))), (g5, .inl (.inl (kA 2, 2, .inr (.inl gal)))), (g6, .inl (.inl (kA 2, 2, .inr (.inl gre))))]) [(3, .int (nI j4619)), (0, .ref g), (1, .int (nI k)), (2, .int (nI f))] 0 0 52 []
      refine j_iconst (v := 0) h (by decide) dX3_isGoneOnFrom_52 ?_
      exact jm_zret h hq rfl dX3_isGoneOnFrom_53 0 [0, 1, 2, 3, 4, 5] rfl (by decide) ⟨rfl, (show 0 ≤ 1 by first | assumption | omega)⟩ (Nat.le_of_ble_eq_true rfl) (Nat.le_of_ble_eq_true rfl)
    · show J x (mflat [(g, .inl (.inr (3, [.ref g0, .ref g1, .ref g2, .ref g3, .ref g4, .ref g5, .ref g6, .ref g7, .int (nI gn), .int (nI gtm), .int (nI gms)]))), (g0, .inl (.inl (kA 1, M, .inl gtk))), (g1, .inr (kA 6, kA 1, M, 2, .inl gaf)), (g4, .inl (.inl (kA 2, M, .inr (.inl gfi)))), (g5, .inl (.inl (kA 2, 2, .inr (.inl gal)))), (g6, .inl (.inl (kA 2, 2, .inr (.inl gre))))]) [(3, .int (nI j4619)), (0, .ref g), (1, .int (nI k)), (2, .int (nI f))] 0 0 48 []
      refine j_iconst (v := 1) h (by decide) dX3_isGoneOnFrom_48 ?_
      refine j_goto h 53 dX3_isGoneOnFrom_49 (by decide) ?_
      exact jm_zret h hq rfl dX3_isGoneOnFrom_53 1 [0, 1, 2, 3, 4, 5] rfl (by decide) ⟨rfl, (show 1 ≤ 1 by first | assumption | omega)⟩ (Nat.le_of_ble_eq_true rfl) (Nat.le_of_ble_eq_true rfl)
set_option maxHeartbeats 4000000 in
set_option maxRecDepth 100000 in
theorem s_X3_reachNext (lau : Launch) (gg : va_G) (kA : Nat → ClassId) (g : Nat) (g0 : Nat) (g1 : Nat) (g2 : Nat) (g3 : Nat) (g4 : Nat) (g5 : Nat) (g6 : Nat) (g7 : Nat) (gn : Nat) (gtm : Nat) (gms : Nat) (M : Nat) (gtk : Nat → Int32) (gaf : Nat → Nat → Int32) (gfi : Nat → Int64) (gre : Nat → Int64) (grn : Nat → Int64) (hM : M ≤ 10) (hgn : gn ≤ M) (hgtm : gtm ≤ 60) (hgtk : LtOk gn gtk) (hgaf : FtOk gn gaf) : CtV lau yX3_reachNext cX3_reachNext 4 (none) 1 0 0 gg kA [.ref g] (mflat [(g, .inl (.inr (3, [.ref g0, .ref g1, .ref g2, .ref g3, .ref g4, .ref g5, .ref g6, .ref g7, .int (nI gn), .int (nI gtm), .int (nI gms)]))), (g0, .inl (.inl (kA 1, M, .inl gtk))), (g1, .inr (kA 6, kA 1, M, 2, .inl gaf)), (g4, .inl (.inl (kA 2, M, .inr (.inl gfi)))), (g6, .inl (.inl (kA 2, 2, .inr (.inl gre)))), (g7, .inl (.inl (kA 2, 2, .inr (.inl grn))))]) (S := (Nat → Int64) × (Nat → Int64)) (fun ((y_g6, y_g7) : (Nat → Int64) × (Nat → Int64)) => True) (fun ((y_g6, y_g7) : (Nat → Int64) × (Nat → Int64)) => mflat [(g, .inl (.inr (3, [.ref g0, .ref g1, .ref g2, .ref g3, .ref g4, .ref g5, .ref g6, .ref g7, .int (nI gn), .int (nI gtm), .int (nI gms)]))), (g0, .inl (.inl (kA 1, M, .inl gtk))), (g1, .inr (kA 6, kA 1, M, 2, .inl gaf)), (g4, .inl (.inl (kA 2, M, .inr (.inl gfi)))), (g6, .inl (.inl (kA 2, 2, .inr (.inl y_g6)))), (g7, .inl (.inl (kA 2, 2, .inr (.inl y_g7))))]) := by
  refine nx_startV (by decide +kernel) (Nat.le_of_ble_eq_true rfl) ?_
  intro x hnm h hq
  have h : Ok x cX3_reachNext RX3 kA (rmC 1 0 0) 4 := h
  show J x (mflat [(g, .inl (.inr (3, [.ref g0, .ref g1, .ref g2, .ref g3, .ref g4, .ref g5, .ref g6, .ref g7, .int (nI gn), .int (nI gtm), .int (nI gms)]))), (g0, .inl (.inl (kA 1, M, .inl gtk))), (g1, .inr (kA 6, kA 1, M, 2, .inl gaf)), (g4, .inl (.inl (kA 2, M, .inr (.inl gfi)))), (g6, .inl (.inl (kA 2, 2, .inr (.inl gre)))), (g7, .inl (.inl (kA 2, 2, .inr (.inl grn))))]) [(0, .ref g)] 0 0 0 []
  refine j_aload_n h 0 rfl rfl dX3_reachNext_0 ?_
  refine jm_get h iw_X3 0 rfl rfl 7 (by decide +kernel) tw_386 rfl dX3_reachNext_1 ?_
  refine j_iconst (v := 0) h (by decide) dX3_reachNext_4 ?_
  refine j_lconst (v := 0) h (by decide) dX3_reachNext_5 ?_
  refine jm_last (w' := [(g, .inl (.inr (3, [.ref g0, .ref g1, .ref g2, .ref g3, .ref g4, .ref g5, .ref g6, .ref g7, .int (nI gn), .int (nI gtm), .int (nI gms)]))), (g0, .inl (.inl (kA 1, M, .inl gtk))), (g1, .inr (kA 6, kA 1, M, 2, .inl gaf)), (g4, .inl (.inl (kA 2, M, .inr (.inl gfi)))), (g6, .inl (.inl (kA 2, 2, .inr (.inl gre)))), (g7, .inl (.inl (kA 2, 2, .inr (.inl (vp_updL grn 0 0)))))]) h 5 rfl 0 (by decide +kernel) (by decide +kernel) (by omega) dX3_reachNext_6 rfl ?_
  refine j_aload_n h 0 rfl rfl dX3_reachNext_7 ?_
  refine jm_get h iw_X3 0 rfl rfl 7 (by decide +kernel) tw_386 rfl dX3_reachNext_8 ?_
  refine j_iconst (v := 1) h (by decide) dX3_reachNext_11 ?_
  refine j_lconst (v := 0) h (by decide) dX3_reachNext_12 ?_
  refine jm_last (w' := [(g, .inl (.inr (3, [.ref g0, .ref g1, .ref g2, .ref g3, .ref g4, .ref g5, .ref g6, .ref g7, .int (nI gn), .int (nI gtm), .int (nI gms)]))), (g0, .inl (.inl (kA 1, M, .inl gtk))), (g1, .inr (kA 6, kA 1, M, 2, .inl gaf)), (g4, .inl (.inl (kA 2, M, .inr (.inl gfi)))), (g6, .inl (.inl (kA 2, 2, .inr (.inl gre)))), (g7, .inl (.inl (kA 2, 2, .inr (.inl (vp_updL (vp_updL grn 0 0) 1 0)))))]) h 5 rfl 1 (by decide +kernel) (by decide +kernel) (by omega) dX3_reachNext_13 rfl ?_
  refine j_iconst (v := 0) h (by decide) dX3_reachNext_14 ?_
  refine j_istore_n (lv' := [(1, .int 0), (0, .ref g)]) h dX3_reachNext_15 rfl (by decide) rfl ?_
  have lp16_589 : ∀ (m16_589 : Nat), ∀ (v1_16_589 : Nat) (fg7_16_589 : Nat → Int64), (v1_16_589 ≤ 100000) → 100001 - v1_16_589 < m16_589 → J x (mflat [(g, .inl (.inr (3, [.ref g0, .ref g1, .ref g2, .ref g3, .ref g4, .ref g5, .ref g6, .ref g7, .int (nI gn), .int (nI gtm), .int (nI gms)]))), (g0, .inl (.inl (kA 1, M, .inl gtk))), (g1, .inr (kA 6, kA 1, M, 2, .inl gaf)), (g4, .inl (.inl (kA 2, M, .inr (.inl gfi)))), (g6, .inl (.inl (kA 2, 2, .inr (.inl gre)))), (g7, .inl (.inl (kA 2, 2, .inr (.inl fg7_16_589))))]) [(1, .int (nI v1_16_589)), (0, .ref g)] 0 0 16 [] := by
    intro m16_589
    induction m16_589 with
    | zero =>
      intro v1_16_589 fg7_16_589 i16_589_0 hm16_589
      exact absurd hm16_589 (Nat.not_lt_zero _)
    | succ m16_589 ih16_589 =>
      intro v1_16_589 fg7_16_589 i16_589_0 hm16_589
      refine j_iload_n h 0 rfl rfl dX3_reachNext_16 ?_
      refine j_aload_n h 1 rfl rfl dX3_reachNext_17 ?_
      refine jm_get h iw_X3 0 rfl rfl 8 (by decide +kernel) tw_387 rfl dX3_reachNext_18 ?_
      refine j_icmp_ge h 86 dX3_reachNext_21 (by decide) (fun z4696 => ?_) (fun z4696 => ?_)
      · have z4696n : gn ≤ v1_16_589 := (nI_leI (a := gn) (b := v1_16_589) (by omega) (by omega)).mp z4696
        refine j_aload_n h 1 rfl rfl dX3_reachNext_86 ?_
        refine jm_get h iw_X3 0 rfl rfl 6 (by decide +kernel) tw_385 rfl dX3_reachNext_87 ?_
        refine j_iconst (v := 0) h (by decide) dX3_reachNext_90 ?_
        refine j_aload_n h 1 rfl rfl dX3_reachNext_91 ?_
        refine jm_get h iw_X3 0 rfl rfl 7 (by decide +kernel) tw_386 rfl dX3_reachNext_92 ?_
        refine j_iconst (v := 0) h (by decide) dX3_reachNext_95 ?_
        refine jm_lald h 5 rfl 0 (by decide +kernel) (by decide +kernel) (by omega) dX3_reachNext_96 ?_
        refine jm_last (w' := [(g, .inl (.inr (3, [.ref g0, .ref g1, .ref g2, .ref g3, .ref g4, .ref g5, .ref g6, .ref g7, .int (nI gn), .int (nI gtm), .int (nI gms)]))), (g0, .inl (.inl (kA 1, M, .inl gtk))), (g1, .inr (kA 6, kA 1, M, 2, .inl gaf)), (g4, .inl (.inl (kA 2, M, .inr (.inl gfi)))), (g6, .inl (.inl (kA 2, 2, .inr (.inl (vp_updL gre 0 (fg7_16_589 0)))))), (g7, .inl (.inl (kA 2, 2, .inr (.inl fg7_16_589))))]) h 4 rfl 0 (by decide +kernel) (by decide +kernel) (by omega) dX3_reachNext_97 rfl ?_
        refine j_aload_n h 1 rfl rfl dX3_reachNext_98 ?_
        refine jm_get h iw_X3 0 rfl rfl 6 (by decide +kernel) tw_385 rfl dX3_reachNext_99 ?_
        refine j_iconst (v := 1) h (by decide) dX3_reachNext_102 ?_
        refine j_aload_n h 1 rfl rfl dX3_reachNext_103 ?_
        refine jm_get h iw_X3 0 rfl rfl 7 (by decide +kernel) tw_386 rfl dX3_reachNext_104 ?_
        refine j_iconst (v := 1) h (by decide) dX3_reachNext_107 ?_
        refine jm_lald h 5 rfl 1 (by decide +kernel) (by decide +kernel) (by omega) dX3_reachNext_108 ?_
        refine jm_last (w' := [(g, .inl (.inr (3, [.ref g0, .ref g1, .ref g2, .ref g3, .ref g4, .ref g5, .ref g6, .ref g7, .int (nI gn), .int (nI gtm), .int (nI gms)]))), (g0, .inl (.inl (kA 1, M, .inl gtk))), (g1, .inr (kA 6, kA 1, M, 2, .inl gaf)), (g4, .inl (.inl (kA 2, M, .inr (.inl gfi)))), (g6, .inl (.inl (kA 2, 2, .inr (.inl (vp_updL (vp_updL gre 0 (fg7_16_589 0)) 1 (fg7_16_589 1)))))), (g7, .inl (.inl (kA 2, 2, .inr (.inl fg7_16_589))))]) h 4 rfl 1 (by decide +kernel) (by decide +kernel) (by omega) dX3_reachNext_109 rfl ?_
        exact jm_vret h hq dX3_reachNext_110 ((vp_updL (vp_updL gre 0 (fg7_16_589 0)) 1 (fg7_16_589 1)), fg7_16_589) [0, 1, 2, 3, 4, 5] rfl (by decide) trivial (Nat.le_of_ble_eq_true rfl) (Nat.le_of_ble_eq_true rfl)
      · have z4696n : ¬ gn ≤ v1_16_589 := fun q9 => z4696 ((nI_leI (a := gn) (b := v1_16_589) (by omega) (by omega)).mpr q9)
        refine j_iconst (v := 0) h (by decide) dX3_reachNext_24 ?_
        refine j_istore_n (lv' := [(2, .int 0), (1, .int (nI v1_16_589)), (0, .ref g)]) h dX3_reachNext_25 rfl (by decide) rfl ?_
        have lp26_592 : ∀ (m26_592 : Nat), ∀ (v2_26_592 : Nat) (fg7_26_592 : Nat → Int64), (v2_26_592 ≤ 100000) → 100001 - v2_26_592 < m26_592 → J x (mflat [(g, .inl (.inr (3, [.ref g0, .ref g1, .ref g2, .ref g3, .ref g4, .ref g5, .ref g6, .ref g7, .int (nI gn), .int (nI gtm), .int (nI gms)]))), (g0, .inl (.inl (kA 1, M, .inl gtk))), (g1, .inr (kA 6, kA 1, M, 2, .inl gaf)), (g4, .inl (.inl (kA 2, M, .inr (.inl gfi)))), (g6, .inl (.inl (kA 2, 2, .inr (.inl gre)))), (g7, .inl (.inl (kA 2, 2, .inr (.inl fg7_26_592))))]) [(2, .int (nI v2_26_592)), (1, .int (nI v1_16_589)), (0, .ref g)] 0 0 26 [] := by
          intro m26_592
          induction m26_592 with
          | zero =>
            intro v2_26_592 fg7_26_592 i26_592_0 hm26_592
            exact absurd hm26_592 (Nat.not_lt_zero _)
          | succ m26_592 ih26_592 =>
            intro v2_26_592 fg7_26_592 i26_592_0 hm26_592
            refine j_iload_n h 0 rfl rfl dX3_reachNext_26 ?_
            refine j_iconst (v := 1) h (by decide) dX3_reachNext_27 ?_
            refine j_icmp_gt h 80 dX3_reachNext_28 (by decide) (fun z4706 => ?_) (fun z4706 => ?_)
            · have z4706n : 1 < v2_26_592 := (nI_ltI (a := 1) (b := v2_26_592) (by omega) (by omega)).mp z4706
              refine j_iinc (v := nI (v1_16_589 + 1)) (lv' := [(1, .int (nI (v1_16_589 + 1))), (2, .int (nI v2_26_592)), (0, .ref g)]) h dX3_reachNext_80 1 rfl (nI_add v1_16_589 1) (by decide) rfl ?_
              refine j_goto h 16 dX3_reachNext_83 (by decide) ?_
              refine jm_sub [0, 1, 2, 3, 4, 5] (w' := [(g, .inl (.inr (3, [.ref g0, .ref g1, .ref g2, .ref g3, .ref g4, .ref g5, .ref g6, .ref g7, .int (nI gn), .int (nI gtm), .int (nI gms)]))), (g0, .inl (.inl (kA 1, M, .inl gtk))), (g1, .inr (kA 6, kA 1, M, 2, .inl gaf)), (g4, .inl (.inl (kA 2, M, .inr (.inl gfi)))), (g6, .inl (.inl (kA 2, 2, .inr (.inl gre)))), (g7, .inl (.inl (kA 2, 2, .inr (.inl fg7_26_592))))]) rfl (by decide +kernel) [0, 2] (lv' := [(1, .int (nI (v1_16_589 + 1))), (0, .ref g)]) rfl ?_
              exact ih16_589 (v1_16_589 + 1) fg7_26_592 (show (v1_16_589 + 1) ≤ 100000 by first | assumption | omega) (show 100001 - (v1_16_589 + 1) < m16_589 by first | exact Nat.lt_of_lt_of_le (Nat.sub_lt_sub_left (Nat.lt_of_le_of_lt (show v1_16_589 ≤ 100000 by assumption) (Nat.lt_succ_self 100000)) (Nat.lt_succ_self v1_16_589)) (Nat.le_of_lt_succ hm16_589) | omega)
            · have z4706n : ¬ 1 < v2_26_592 := fun q9 => z4706 ((nI_ltI (a := 1) (b := v2_26_592) (by omega) (by omega)).mpr q9)
              refine j_aload_n h 2 rfl rfl dX3_reachNext_31 ?_
              refine jm_get h iw_X3 0 rfl rfl 1 (by decide +kernel) tw_379 rfl dX3_reachNext_32 ?_
              refine j_iload_n h 1 rfl rfl dX3_reachNext_35 ?_
              refine jm_gout h 2 6 rfl rfl v1_16_589 rfl (by omega) (by omega) dX3_reachNext_36 ?_
              refine j_iload_n h 0 rfl rfl dX3_reachNext_37 ?_
              refine jm_gald h 2 rfl v1_16_589 (by omega) v2_26_592 rfl (by omega) (by omega) dX3_reachNext_38 ?_
              obtain ⟨t4707, u4708, u4709⟩ := (show FtOk gn gaf by assumption) v1_16_589 v2_26_592 (by omega) (by omega)
              refine j_top (b := pm t4707) (u4709) ?_
              refine j_istore_n (lv' := [(3, .int (pm t4707)), (2, .int (nI v2_26_592)), (1, .int (nI v1_16_589)), (0, .ref g)]) h dX3_reachNext_39 rfl (by decide) rfl ?_
              refine j_iload_n h 0 rfl rfl dX3_reachNext_40 ?_
              refine j_iconst (v := (-1)) h (by decide) dX3_reachNext_41 ?_
              rcases t4707 with _ | j4710
              · show J x (mflat [(g, .inl (.inr (3, [.ref g0, .ref g1, .ref g2, .ref g3, .ref g4, .ref g5, .ref g6, .ref g7, .int (nI gn), .int (nI gtm), .int (nI gms)]))), (g0, .inl (.inl (kA 1, M, .inl gtk))), (g1, .inr (kA 6, kA 1, M, 2, .inl gaf)), (g4, .inl (.inl (kA 2, M, .inr (.inl gfi)))), (g6, .inl (.inl (kA 2, 2, .inr (.inl gre)))), (g7, .inl (.inl (kA 2, 2, .inr (.inl fg7_26_592))))]) [(3, .int (-1)), (2, .int (nI v2_26_592)), (1, .int (nI v1_16_589)), (0, .ref g)] 0 0 42 [.int (-1), .int (-1)]
                refine j_icmp_eq h 74 dX3_reachNext_42 (by decide) (fun _ => ?_) (fun q => absurd (by decide) q)
                refine j_iinc (v := nI (v2_26_592 + 1)) (lv' := [(2, .int (nI (v2_26_592 + 1))), (3, .int (-1)), (1, .int (nI v1_16_589)), (0, .ref g)]) h dX3_reachNext_74 1 rfl (nI_add v2_26_592 1) (by decide) rfl ?_
                refine j_goto h 26 dX3_reachNext_77 (by decide) ?_
                refine jm_sub [0, 1, 2, 3, 4, 5] (w' := [(g, .inl (.inr (3, [.ref g0, .ref g1, .ref g2, .ref g3, .ref g4, .ref g5, .ref g6, .ref g7, .int (nI gn), .int (nI gtm), .int (nI gms)]))), (g0, .inl (.inl (kA 1, M, .inl gtk))), (g1, .inr (kA 6, kA 1, M, 2, .inl gaf)), (g4, .inl (.inl (kA 2, M, .inr (.inl gfi)))), (g6, .inl (.inl (kA 2, 2, .inr (.inl gre)))), (g7, .inl (.inl (kA 2, 2, .inr (.inl fg7_26_592))))]) rfl (by decide +kernel) [0, 2, 3] (lv' := [(2, .int (nI (v2_26_592 + 1))), (1, .int (nI v1_16_589)), (0, .ref g)]) rfl ?_
                exact ih26_592 (v2_26_592 + 1) fg7_26_592 (show (v2_26_592 + 1) ≤ 100000 by first | assumption | omega) (show 100001 - (v2_26_592 + 1) < m26_592 by first | exact Nat.lt_of_lt_of_le (Nat.sub_lt_sub_left (Nat.lt_of_le_of_lt (show v2_26_592 ≤ 100000 by assumption) (Nat.lt_succ_self 100000)) (Nat.lt_succ_self v2_26_592)) (Nat.le_of_lt_succ hm26_592) | omega)
              · show J x (mflat [(g, .inl (.inr (3, [.ref g0, .ref g1, .ref g2, .ref g3, .ref g4, .ref g5, .ref g6, .ref g7, .int (nI gn), .int (nI gtm), .int (nI gms)]))), (g0, .inl (.inl (kA 1, M, .inl gtk))), (g1, .inr (kA 6, kA 1, M, 2, .inl gaf)), (g4, .inl (.inl (kA 2, M, .inr (.inl gfi)))), (g6, .inl (.inl (kA 2, 2, .inr (.inl gre)))), (g7, .inl (.inl (kA 2, 2, .inr (.inl fg7_26_592))))]) [(3, .int (nI j4710)), (2, .int (nI v2_26_592)), (1, .int (nI v1_16_589)), (0, .ref g)] 0 0 42 [.int (-1), .int (nI j4710)]
                refine j_icmp_eq h 74 dX3_reachNext_42 (by decide) (fun q => absurd q (nI_m1 (by omega))) (fun _ => ?_)
                refine j_aload_n h 3 rfl rfl dX3_reachNext_45 ?_
                refine jm_get h iw_X3 0 rfl rfl 7 (by decide +kernel) tw_386 rfl dX3_reachNext_46 ?_
                refine j_iload_n h 0 rfl rfl dX3_reachNext_49 ?_
                refine j_dup2 h rfl rfl dX3_reachNext_50 ?_
                refine jm_lald h 5 rfl j4710 rfl (by omega) (by omega) dX3_reachNext_51 ?_
                refine j_aload_n h 3 rfl rfl dX3_reachNext_52 ?_
                refine jm_get h iw_X3 0 rfl rfl 6 (by decide +kernel) tw_385 rfl dX3_reachNext_53 ?_
                refine j_iload_n h 1 rfl rfl dX3_reachNext_56 ?_
                refine jm_lald h 4 rfl v2_26_592 rfl (by omega) (by omega) dX3_reachNext_57 ?_
                refine j_aload_n h 3 rfl rfl dX3_reachNext_58 ?_
                refine jm_get h iw_X3 0 rfl rfl 4 (by decide +kernel) tw_383 rfl dX3_reachNext_59 ?_
                refine j_iload_n h 2 rfl rfl dX3_reachNext_62 ?_
                refine jm_lald h 3 rfl v1_16_589 rfl (by omega) (by omega) dX3_reachNext_63 ?_
                refine j_land h dX3_reachNext_64 ?_
                refine j_aload_n h 3 rfl rfl dX3_reachNext_65 ?_
                refine jm_get h iw_X3 0 rfl rfl 0 (by decide +kernel) tw_377 rfl dX3_reachNext_66 ?_
                refine j_iload_n h 2 rfl rfl dX3_reachNext_69 ?_
                refine jm_iald h 1 rfl v1_16_589 rfl (by omega) (by omega) dX3_reachNext_70 ?_
                refine j_lshl h dX3_reachNext_71 ?_
                refine j_lor h dX3_reachNext_72 ?_
                refine jm_last (w' := [(g, .inl (.inr (3, [.ref g0, .ref g1, .ref g2, .ref g3, .ref g4, .ref g5, .ref g6, .ref g7, .int (nI gn), .int (nI gtm), .int (nI gms)]))), (g0, .inl (.inl (kA 1, M, .inl gtk))), (g1, .inr (kA 6, kA 1, M, 2, .inl gaf)), (g4, .inl (.inl (kA 2, M, .inr (.inl gfi)))), (g6, .inl (.inl (kA 2, 2, .inr (.inl gre)))), (g7, .inl (.inl (kA 2, 2, .inr (.inl (vp_updL fg7_26_592 j4710 ((fg7_26_592 j4710) ||| (((gre v2_26_592) &&& (gfi v1_16_589)) <<< ((gtk v1_16_589).toInt64 &&& 63))))))))]) h 5 rfl j4710 rfl (by omega) (by omega) dX3_reachNext_73 rfl ?_
                refine j_iinc (v := nI (v2_26_592 + 1)) (lv' := [(2, .int (nI (v2_26_592 + 1))), (3, .int (nI j4710)), (1, .int (nI v1_16_589)), (0, .ref g)]) h dX3_reachNext_74 1 rfl (nI_add v2_26_592 1) (by decide) rfl ?_
                refine j_goto h 26 dX3_reachNext_77 (by decide) ?_
                refine jm_sub [0, 1, 2, 3, 4, 5] (w' := [(g, .inl (.inr (3, [.ref g0, .ref g1, .ref g2, .ref g3, .ref g4, .ref g5, .ref g6, .ref g7, .int (nI gn), .int (nI gtm), .int (nI gms)]))), (g0, .inl (.inl (kA 1, M, .inl gtk))), (g1, .inr (kA 6, kA 1, M, 2, .inl gaf)), (g4, .inl (.inl (kA 2, M, .inr (.inl gfi)))), (g6, .inl (.inl (kA 2, 2, .inr (.inl gre)))), (g7, .inl (.inl (kA 2, 2, .inr (.inl (vp_updL fg7_26_592 j4710 ((fg7_26_592 j4710) ||| (((gre v2_26_592) &&& (gfi v1_16_589)) <<< ((gtk v1_16_589).toInt64 &&& 63))))))))]) rfl (by decide +kernel) [0, 2, 3] (lv' := [(2, .int (nI (v2_26_592 + 1))), (1, .int (nI v1_16_589)), (0, .ref g)]) rfl ?_
                exact ih26_592 (v2_26_592 + 1) (vp_updL fg7_26_592 j4710 ((fg7_26_592 j4710) ||| (((gre v2_26_592) &&& (gfi v1_16_589)) <<< ((gtk v1_16_589).toInt64 &&& 63)))) (show (v2_26_592 + 1) ≤ 100000 by first | assumption | omega) (show 100001 - (v2_26_592 + 1) < m26_592 by first | exact Nat.lt_of_lt_of_le (Nat.sub_lt_sub_left (Nat.lt_of_le_of_lt (show v2_26_592 ≤ 100000 by assumption) (Nat.lt_succ_self 100000)) (Nat.lt_succ_self v2_26_592)) (Nat.le_of_lt_succ hm26_592) | omega)
        refine jm_sub [0, 1, 2, 3, 4, 5] (w' := [(g, .inl (.inr (3, [.ref g0, .ref g1, .ref g2, .ref g3, .ref g4, .ref g5, .ref g6, .ref g7, .int (nI gn), .int (nI gtm), .int (nI gms)]))), (g0, .inl (.inl (kA 1, M, .inl gtk))), (g1, .inr (kA 6, kA 1, M, 2, .inl gaf)), (g4, .inl (.inl (kA 2, M, .inr (.inl gfi)))), (g6, .inl (.inl (kA 2, 2, .inr (.inl gre)))), (g7, .inl (.inl (kA 2, 2, .inr (.inl fg7_16_589))))]) rfl (by decide +kernel) [0, 1, 2] (lv' := [(2, .int 0), (1, .int (nI v1_16_589)), (0, .ref g)]) rfl ?_
        exact lp26_592 (100001 - 0 + 1) 0 fg7_16_589 (show 0 ≤ 100000 by first | assumption | omega) (Nat.lt_succ_self _)
  refine jm_sub [0, 1, 2, 3, 4, 5] (w' := [(g, .inl (.inr (3, [.ref g0, .ref g1, .ref g2, .ref g3, .ref g4, .ref g5, .ref g6, .ref g7, .int (nI gn), .int (nI gtm), .int (nI gms)]))), (g0, .inl (.inl (kA 1, M, .inl gtk))), (g1, .inr (kA 6, kA 1, M, 2, .inl gaf)), (g4, .inl (.inl (kA 2, M, .inr (.inl gfi)))), (g6, .inl (.inl (kA 2, 2, .inr (.inl gre)))), (g7, .inl (.inl (kA 2, 2, .inr (.inl (vp_updL (vp_updL grn 0 0) 1 0)))))]) rfl (by decide +kernel) [0, 1] (lv' := [(1, .int 0), (0, .ref g)]) rfl ?_
  exact lp16_589 (100001 - 0 + 1) 0 (vp_updL (vp_updL grn 0 0) 1 0) (show 0 ≤ 100000 by first | assumption | omega) (Nat.lt_succ_self _)
set_option maxHeartbeats 4000000 in
set_option maxRecDepth 100000 in
theorem s_X3_drawMasks (lau : Launch) (gg : va_G) (kA : Nat → ClassId) (g : Nat) (g0 : Nat) (g1 : Nat) (g2 : Nat) (g3 : Nat) (g4 : Nat) (g5 : Nat) (g6 : Nat) (g7 : Nat) (gn : Nat) (gtm : Nat) (gms : Nat) (M : Nat) (gco : Nat → Nat → Int32) (gwy : Nat → Nat → Int64) (gfi : Nat → Int64) (gal : Nat → Int64) (gre : Nat → Int64) (hM : M ≤ 10) (hgn : gn ≤ M) (hgtm : gtm ≤ 60) : CtV lau yX3_drawMasks cX3_drawMasks 3 (none) 1 0 0 gg kA [.ref g] (mflat [(g, .inl (.inr (3, [.ref g0, .ref g1, .ref g2, .ref g3, .ref g4, .ref g5, .ref g6, .ref g7, .int (nI gn), .int (nI gtm), .int (nI gms)]))), (g2, .inr (kA 6, kA 1, M, 60, .inl gco)), (g3, .inr (kA 7, kA 2, 8, 61, .inr gwy)), (g4, .inl (.inl (kA 2, M, .inr (.inl gfi)))), (g5, .inl (.inl (kA 2, 2, .inr (.inl gal)))), (g6, .inl (.inl (kA 2, 2, .inr (.inl gre))))]) (S := (Nat → Int64) × (Nat → Int64) × (Nat → Int64)) (fun ((y_g4, y_g5, y_g6) : (Nat → Int64) × (Nat → Int64) × (Nat → Int64)) => True) (fun ((y_g4, y_g5, y_g6) : (Nat → Int64) × (Nat → Int64) × (Nat → Int64)) => mflat [(g, .inl (.inr (3, [.ref g0, .ref g1, .ref g2, .ref g3, .ref g4, .ref g5, .ref g6, .ref g7, .int (nI gn), .int (nI gtm), .int (nI gms)]))), (g2, .inr (kA 6, kA 1, M, 60, .inl gco)), (g3, .inr (kA 7, kA 2, 8, 61, .inr gwy)), (g4, .inl (.inl (kA 2, M, .inr (.inl y_g4)))), (g5, .inl (.inl (kA 2, 2, .inr (.inl y_g5)))), (g6, .inl (.inl (kA 2, 2, .inr (.inl y_g6))))]) := by
  refine nx_startV (by decide +kernel) (Nat.le_of_ble_eq_true rfl) ?_
  intro x hnm h hq
  have h : Ok x cX3_drawMasks RX3 kA (rmC 1 0 0) 3 := h
  show J x (mflat [(g, .inl (.inr (3, [.ref g0, .ref g1, .ref g2, .ref g3, .ref g4, .ref g5, .ref g6, .ref g7, .int (nI gn), .int (nI gtm), .int (nI gms)]))), (g2, .inr (kA 6, kA 1, M, 60, .inl gco)), (g3, .inr (kA 7, kA 2, 8, 61, .inr gwy)), (g4, .inl (.inl (kA 2, M, .inr (.inl gfi)))), (g5, .inl (.inl (kA 2, 2, .inr (.inl gal)))), (g6, .inl (.inl (kA 2, 2, .inr (.inl gre))))]) [(0, .ref g)] 0 0 0 []
  refine j_iconst (v := 0) h (by decide) dX3_drawMasks_0 ?_
  refine j_istore_n (lv' := [(1, .int 0), (0, .ref g)]) h dX3_drawMasks_1 rfl (by decide) rfl ?_
  have lp2_673 : ∀ (m2_673 : Nat), ∀ (v1_2_673 : Nat) (fg4_2_673 : Nat → Int64), (v1_2_673 ≤ 100000) → 100001 - v1_2_673 < m2_673 → J x (mflat [(g, .inl (.inr (3, [.ref g0, .ref g1, .ref g2, .ref g3, .ref g4, .ref g5, .ref g6, .ref g7, .int (nI gn), .int (nI gtm), .int (nI gms)]))), (g2, .inr (kA 6, kA 1, M, 60, .inl gco)), (g3, .inr (kA 7, kA 2, 8, 61, .inr gwy)), (g4, .inl (.inl (kA 2, M, .inr (.inl fg4_2_673)))), (g5, .inl (.inl (kA 2, 2, .inr (.inl gal)))), (g6, .inl (.inl (kA 2, 2, .inr (.inl gre))))]) [(1, .int (nI v1_2_673)), (0, .ref g)] 0 0 2 [] := by
    intro m2_673
    induction m2_673 with
    | zero =>
      intro v1_2_673 fg4_2_673 i2_673_0 hm2_673
      exact absurd hm2_673 (Nat.not_lt_zero _)
    | succ m2_673 ih2_673 =>
      intro v1_2_673 fg4_2_673 i2_673_0 hm2_673
      refine j_iload_n h 0 rfl rfl dX3_drawMasks_2 ?_
      refine j_aload_n h 1 rfl rfl dX3_drawMasks_3 ?_
      refine jm_get h iw_X3 0 rfl rfl 8 (by decide +kernel) tw_387 rfl dX3_drawMasks_4 ?_
      refine j_icmp_ge h 66 dX3_drawMasks_7 (by decide) (fun z4846 => ?_) (fun z4846 => ?_)
      · have z4846n : gn ≤ v1_2_673 := (nI_leI (a := gn) (b := v1_2_673) (by omega) (by omega)).mp z4846
        refine j_iconst (v := 0) h (by decide) dX3_drawMasks_66 ?_
        refine j_istore_n (lv' := [(1, .int 0), (0, .ref g)]) h dX3_drawMasks_67 rfl (by decide) rfl ?_
        have lp68_682 : ∀ (m68_682 : Nat), ∀ (v1_68_682 : Nat) (fg5_68_682 : Nat → Int64), (v1_68_682 ≤ 100000) → 100001 - v1_68_682 < m68_682 → J x (mflat [(g, .inl (.inr (3, [.ref g0, .ref g1, .ref g2, .ref g3, .ref g4, .ref g5, .ref g6, .ref g7, .int (nI gn), .int (nI gtm), .int (nI gms)]))), (g2, .inr (kA 6, kA 1, M, 60, .inl gco)), (g3, .inr (kA 7, kA 2, 8, 61, .inr gwy)), (g4, .inl (.inl (kA 2, M, .inr (.inl fg4_2_673)))), (g5, .inl (.inl (kA 2, 2, .inr (.inl fg5_68_682)))), (g6, .inl (.inl (kA 2, 2, .inr (.inl gre))))]) [(1, .int (nI v1_68_682)), (0, .ref g)] 0 0 68 [] := by
          intro m68_682
          induction m68_682 with
          | zero =>
            intro v1_68_682 fg5_68_682 i68_682_0 hm68_682
            exact absurd hm68_682 (Nat.not_lt_zero _)
          | succ m68_682 ih68_682 =>
            intro v1_68_682 fg5_68_682 i68_682_0 hm68_682
            refine j_iload_n h 0 rfl rfl dX3_drawMasks_68 ?_
            refine j_iconst (v := 1) h (by decide) dX3_drawMasks_69 ?_
            refine j_icmp_gt h 131 dX3_drawMasks_70 (by decide) (fun z4860 => ?_) (fun z4860 => ?_)
            · have z4860n : 1 < v1_68_682 := (nI_ltI (a := 1) (b := v1_68_682) (by omega) (by omega)).mp z4860
              refine j_aload_n h 1 rfl rfl dX3_drawMasks_131 ?_
              refine jm_get h iw_X3 0 rfl rfl 6 (by decide +kernel) tw_385 rfl dX3_drawMasks_132 ?_
              refine j_iconst (v := 0) h (by decide) dX3_drawMasks_135 ?_
              refine j_lconst (v := 1) h (by decide) dX3_drawMasks_136 ?_
              refine jm_last (w' := [(g, .inl (.inr (3, [.ref g0, .ref g1, .ref g2, .ref g3, .ref g4, .ref g5, .ref g6, .ref g7, .int (nI gn), .int (nI gtm), .int (nI gms)]))), (g2, .inr (kA 6, kA 1, M, 60, .inl gco)), (g3, .inr (kA 7, kA 2, 8, 61, .inr gwy)), (g4, .inl (.inl (kA 2, M, .inr (.inl fg4_2_673)))), (g5, .inl (.inl (kA 2, 2, .inr (.inl fg5_68_682)))), (g6, .inl (.inl (kA 2, 2, .inr (.inl (vp_updL gre 0 1)))))]) h 5 rfl 0 (by decide +kernel) (by decide +kernel) (by omega) dX3_drawMasks_137 rfl ?_
              refine j_aload_n h 1 rfl rfl dX3_drawMasks_138 ?_
              refine jm_get h iw_X3 0 rfl rfl 6 (by decide +kernel) tw_385 rfl dX3_drawMasks_139 ?_
              refine j_iconst (v := 1) h (by decide) dX3_drawMasks_142 ?_
              refine j_lconst (v := 0) h (by decide) dX3_drawMasks_143 ?_
              refine jm_last (w' := [(g, .inl (.inr (3, [.ref g0, .ref g1, .ref g2, .ref g3, .ref g4, .ref g5, .ref g6, .ref g7, .int (nI gn), .int (nI gtm), .int (nI gms)]))), (g2, .inr (kA 6, kA 1, M, 60, .inl gco)), (g3, .inr (kA 7, kA 2, 8, 61, .inr gwy)), (g4, .inl (.inl (kA 2, M, .inr (.inl fg4_2_673)))), (g5, .inl (.inl (kA 2, 2, .inr (.inl fg5_68_682)))), (g6, .inl (.inl (kA 2, 2, .inr (.inl (vp_updL (vp_updL gre 0 1) 1 0)))))]) h 5 rfl 1 (by decide +kernel) (by decide +kernel) (by omega) dX3_drawMasks_144 rfl ?_
              exact jm_vret h hq dX3_drawMasks_145 (fg4_2_673, fg5_68_682, (vp_updL (vp_updL gre 0 1) 1 0)) [0, 1, 2, 3, 4, 5] rfl (by decide) trivial (Nat.le_of_ble_eq_true rfl) (Nat.le_of_ble_eq_true rfl)
            · have z4860n : ¬ 1 < v1_68_682 := fun q9 => z4860 ((nI_ltI (a := 1) (b := v1_68_682) (by omega) (by omega)).mpr q9)
              refine j_aload_n h 1 rfl rfl dX3_drawMasks_73 ?_
              refine jm_get h iw_X3 0 rfl rfl 5 (by decide +kernel) tw_384 rfl dX3_drawMasks_74 ?_
              refine j_iload_n h 0 rfl rfl dX3_drawMasks_77 ?_
              refine j_lconst (v := 0) h (by decide) dX3_drawMasks_78 ?_
              refine jm_last (w' := [(g, .inl (.inr (3, [.ref g0, .ref g1, .ref g2, .ref g3, .ref g4, .ref g5, .ref g6, .ref g7, .int (nI gn), .int (nI gtm), .int (nI gms)]))), (g2, .inr (kA 6, kA 1, M, 60, .inl gco)), (g3, .inr (kA 7, kA 2, 8, 61, .inr gwy)), (g4, .inl (.inl (kA 2, M, .inr (.inl fg4_2_673)))), (g5, .inl (.inl (kA 2, 2, .inr (.inl (vp_updL fg5_68_682 v1_68_682 0))))), (g6, .inl (.inl (kA 2, 2, .inr (.inl gre))))]) h 4 rfl v1_68_682 rfl (by omega) (by omega) dX3_drawMasks_79 rfl ?_
              refine j_iconst (v := 0) h (by decide) dX3_drawMasks_80 ?_
              refine j_istore_n (lv' := [(2, .int 0), (1, .int (nI v1_68_682)), (0, .ref g)]) h dX3_drawMasks_81 rfl (by decide) rfl ?_
              have lp82_685 : ∀ (m82_685 : Nat), ∀ (v2_82_685 : Nat) (fg5_82_685 : Nat → Int64), (v2_82_685 ≤ 100000) → 100001 - v2_82_685 < m82_685 → J x (mflat [(g, .inl (.inr (3, [.ref g0, .ref g1, .ref g2, .ref g3, .ref g4, .ref g5, .ref g6, .ref g7, .int (nI gn), .int (nI gtm), .int (nI gms)]))), (g2, .inr (kA 6, kA 1, M, 60, .inl gco)), (g3, .inr (kA 7, kA 2, 8, 61, .inr gwy)), (g4, .inl (.inl (kA 2, M, .inr (.inl fg4_2_673)))), (g5, .inl (.inl (kA 2, 2, .inr (.inl fg5_82_685)))), (g6, .inl (.inl (kA 2, 2, .inr (.inl gre))))]) [(2, .int (nI v2_82_685)), (1, .int (nI v1_68_682)), (0, .ref g)] 0 0 82 [] := by
                intro m82_685
                induction m82_685 with
                | zero =>
                  intro v2_82_685 fg5_82_685 i82_685_0 hm82_685
                  exact absurd hm82_685 (Nat.not_lt_zero _)
                | succ m82_685 ih82_685 =>
                  intro v2_82_685 fg5_82_685 i82_685_0 hm82_685
                  refine j_iload_n h 0 rfl rfl dX3_drawMasks_82 ?_
                  refine j_aload_n h 2 rfl rfl dX3_drawMasks_83 ?_
                  refine jm_get h iw_X3 0 rfl rfl 9 (by decide +kernel) tw_389 rfl dX3_drawMasks_84 ?_
                  refine j_icmp_gt h 125 dX3_drawMasks_87 (by decide) (fun z4865 => ?_) (fun z4865 => ?_)
                  · have z4865n : gtm < v2_82_685 := (nI_ltI (a := gtm) (b := v2_82_685) (by omega) (by omega)).mp z4865
                    refine j_iinc (v := nI (v1_68_682 + 1)) (lv' := [(1, .int (nI (v1_68_682 + 1))), (2, .int (nI v2_82_685)), (0, .ref g)]) h dX3_drawMasks_125 1 rfl (nI_add v1_68_682 1) (by decide) rfl ?_
                    refine j_goto h 68 dX3_drawMasks_128 (by decide) ?_
                    refine jm_sub [0, 1, 2, 3, 4, 5] (w' := [(g, .inl (.inr (3, [.ref g0, .ref g1, .ref g2, .ref g3, .ref g4, .ref g5, .ref g6, .ref g7, .int (nI gn), .int (nI gtm), .int (nI gms)]))), (g2, .inr (kA 6, kA 1, M, 60, .inl gco)), (g3, .inr (kA 7, kA 2, 8, 61, .inr gwy)), (g4, .inl (.inl (kA 2, M, .inr (.inl fg4_2_673)))), (g5, .inl (.inl (kA 2, 2, .inr (.inl fg5_82_685)))), (g6, .inl (.inl (kA 2, 2, .inr (.inl gre))))]) rfl (by decide +kernel) [0, 2] (lv' := [(1, .int (nI (v1_68_682 + 1))), (0, .ref g)]) rfl ?_
                    exact ih68_682 (v1_68_682 + 1) fg5_82_685 (show (v1_68_682 + 1) ≤ 100000 by first | assumption | omega) (show 100001 - (v1_68_682 + 1) < m68_682 by first | exact Nat.lt_of_lt_of_le (Nat.sub_lt_sub_left (Nat.lt_of_le_of_lt (show v1_68_682 ≤ 100000 by assumption) (Nat.lt_succ_self 100000)) (Nat.lt_succ_self v1_68_682)) (Nat.le_of_lt_succ hm68_682) | omega)
                  · have z4865n : ¬ gtm < v2_82_685 := fun q9 => z4865 ((nI_ltI (a := gtm) (b := v2_82_685) (by omega) (by omega)).mpr q9)
                    refine j_aload_n h 2 rfl rfl dX3_drawMasks_90 ?_
                    refine jm_get h iw_X3 0 rfl rfl 5 (by decide +kernel) tw_384 rfl dX3_drawMasks_91 ?_
                    refine j_iload_n h 1 rfl rfl dX3_drawMasks_94 ?_
                    refine j_dup2 h rfl rfl dX3_drawMasks_95 ?_
                    refine jm_lald h 4 rfl v1_68_682 rfl (by omega) (by omega) dX3_drawMasks_96 ?_
                    refine j_aload_n h 2 rfl rfl dX3_drawMasks_97 ?_
                    refine jm_get h iw_X3 0 rfl rfl 3 (by decide +kernel) tw_382 rfl dX3_drawMasks_98 ?_
                    refine j_iload_n h 1 rfl rfl dX3_drawMasks_101 ?_
                    refine jm_gout h 2 7 rfl rfl v1_68_682 rfl (by omega) (by omega) dX3_drawMasks_102 ?_
                    refine j_iload_n h 0 rfl rfl dX3_drawMasks_103 ?_
                    refine jm_glald h 2 rfl v1_68_682 (by omega) v2_82_685 rfl (by omega) (by omega) dX3_drawMasks_104 ?_
                    refine j_lconst (v := 0) h (by decide) dX3_drawMasks_105 ?_
                    refine j_lcmp h dX3_drawMasks_106 ?_
                    refine j_if_le h 116 dX3_drawMasks_107 (by decide) (fun z4866 => ?_) (fun z4866 => ?_)
                    · show J x (mflat [(g, .inl (.inr (3, [.ref g0, .ref g1, .ref g2, .ref g3, .ref g4, .ref g5, .ref g6, .ref g7, .int (nI gn), .int (nI gtm), .int (nI gms)]))), (g2, .inr (kA 6, kA 1, M, 60, .inl gco)), (g3, .inr (kA 7, kA 2, 8, 61, .inr gwy)), (g4, .inl (.inl (kA 2, M, .inr (.inl fg4_2_673)))), (g5, .inl (.inl (kA 2, 2, .inr (.inl fg5_82_685)))), (g6, .inl (.inl (kA 2, 2, .inr (.inl gre))))]) [(2, .int (nI v2_82_685)), (1, .int (nI v1_68_682)), (0, .ref g)] 0 0 116 [.long (fg5_82_685 v1_68_682), .int (nI v1_68_682), .ref g5]
                      refine j_lconst (v := 0) h (by decide) dX3_drawMasks_116 ?_
                      refine j_lor h dX3_drawMasks_117 ?_
                      refine jm_last (w' := [(g, .inl (.inr (3, [.ref g0, .ref g1, .ref g2, .ref g3, .ref g4, .ref g5, .ref g6, .ref g7, .int (nI gn), .int (nI gtm), .int (nI gms)]))), (g2, .inr (kA 6, kA 1, M, 60, .inl gco)), (g3, .inr (kA 7, kA 2, 8, 61, .inr gwy)), (g4, .inl (.inl (kA 2, M, .inr (.inl fg4_2_673)))), (g5, .inl (.inl (kA 2, 2, .inr (.inl (vp_updL fg5_82_685 v1_68_682 ((fg5_82_685 v1_68_682) ||| 0)))))), (g6, .inl (.inl (kA 2, 2, .inr (.inl gre))))]) h 4 rfl v1_68_682 rfl (by omega) (by omega) dX3_drawMasks_118 rfl ?_
                      refine j_iinc (v := nI (v2_82_685 + 1)) (lv' := [(2, .int (nI (v2_82_685 + 1))), (1, .int (nI v1_68_682)), (0, .ref g)]) h dX3_drawMasks_119 0 rfl (nI_add v2_82_685 1) (by decide) rfl ?_
                      refine j_goto h 82 dX3_drawMasks_122 (by decide) ?_
                      refine jm_sub [0, 1, 2, 3, 4, 5] (w' := [(g, .inl (.inr (3, [.ref g0, .ref g1, .ref g2, .ref g3, .ref g4, .ref g5, .ref g6, .ref g7, .int (nI gn), .int (nI gtm), .int (nI gms)]))), (g2, .inr (kA 6, kA 1, M, 60, .inl gco)), (g3, .inr (kA 7, kA 2, 8, 61, .inr gwy)), (g4, .inl (.inl (kA 2, M, .inr (.inl fg4_2_673)))), (g5, .inl (.inl (kA 2, 2, .inr (.inl (vp_updL fg5_82_685 v1_68_682 ((fg5_82_685 v1_68_682) ||| 0)))))), (g6, .inl (.inl (kA 2, 2, .inr (.inl gre))))]) rfl (by decide +kernel) [0, 1, 2] (lv' := [(2, .int (nI (v2_82_685 + 1))), (1, .int (nI v1_68_682)), (0, .ref g)]) rfl ?_
                      exact ih82_685 (v2_82_685 + 1) (vp_updL fg5_82_685 v1_68_682 ((fg5_82_685 v1_68_682) ||| 0)) (show (v2_82_685 + 1) ≤ 100000 by first | assumption | omega) (show 100001 - (v2_82_685 + 1) < m82_685 by first | exact Nat.lt_of_lt_of_le (Nat.sub_lt_sub_left (Nat.lt_of_le_of_lt (show v2_82_685 ≤ 100000 by assumption) (Nat.lt_succ_self 100000)) (Nat.lt_succ_self v2_82_685)) (Nat.le_of_lt_succ hm82_685) | omega)
                    · show J x (mflat [(g, .inl (.inr (3, [.ref g0, .ref g1, .ref g2, .ref g3, .ref g4, .ref g5, .ref g6, .ref g7, .int (nI gn), .int (nI gtm), .int (nI gms)]))), (g2, .inr (kA 6, kA 1, M, 60, .inl gco)), (g3, .inr (kA 7, kA 2, 8, 61, .inr gwy)), (g4, .inl (.inl (kA 2, M, .inr (.inl fg4_2_673)))), (g5, .inl (.inl (kA 2, 2, .inr (.inl fg5_82_685)))), (g6, .inl (.inl (kA 2, 2, .inr (.inl gre))))]) [(2, .int (nI v2_82_685)), (1, .int (nI v1_68_682)), (0, .ref g)] 0 0 110 [.long (fg5_82_685 v1_68_682), .int (nI v1_68_682), .ref g5]
                      refine j_lconst (v := 1) h (by decide) dX3_drawMasks_110 ?_
                      refine j_iload_n h 0 rfl rfl dX3_drawMasks_111 ?_
                      refine j_lshl h dX3_drawMasks_112 ?_
                      refine j_goto h 117 dX3_drawMasks_113 (by decide) ?_
                      refine j_lor h dX3_drawMasks_117 ?_
                      refine jm_last (w' := [(g, .inl (.inr (3, [.ref g0, .ref g1, .ref g2, .ref g3, .ref g4, .ref g5, .ref g6, .ref g7, .int (nI gn), .int (nI gtm), .int (nI gms)]))), (g2, .inr (kA 6, kA 1, M, 60, .inl gco)), (g3, .inr (kA 7, kA 2, 8, 61, .inr gwy)), (g4, .inl (.inl (kA 2, M, .inr (.inl fg4_2_673)))), (g5, .inl (.inl (kA 2, 2, .inr (.inl (vp_updL fg5_82_685 v1_68_682 ((fg5_82_685 v1_68_682) ||| (1 <<< ((nI v2_82_685).toInt64 &&& 63)))))))), (g6, .inl (.inl (kA 2, 2, .inr (.inl gre))))]) h 4 rfl v1_68_682 rfl (by omega) (by omega) dX3_drawMasks_118 rfl ?_
                      refine j_iinc (v := nI (v2_82_685 + 1)) (lv' := [(2, .int (nI (v2_82_685 + 1))), (1, .int (nI v1_68_682)), (0, .ref g)]) h dX3_drawMasks_119 0 rfl (nI_add v2_82_685 1) (by decide) rfl ?_
                      refine j_goto h 82 dX3_drawMasks_122 (by decide) ?_
                      refine jm_sub [0, 1, 2, 3, 4, 5] (w' := [(g, .inl (.inr (3, [.ref g0, .ref g1, .ref g2, .ref g3, .ref g4, .ref g5, .ref g6, .ref g7, .int (nI gn), .int (nI gtm), .int (nI gms)]))), (g2, .inr (kA 6, kA 1, M, 60, .inl gco)), (g3, .inr (kA 7, kA 2, 8, 61, .inr gwy)), (g4, .inl (.inl (kA 2, M, .inr (.inl fg4_2_673)))), (g5, .inl (.inl (kA 2, 2, .inr (.inl (vp_updL fg5_82_685 v1_68_682 ((fg5_82_685 v1_68_682) ||| (1 <<< ((nI v2_82_685).toInt64 &&& 63)))))))), (g6, .inl (.inl (kA 2, 2, .inr (.inl gre))))]) rfl (by decide +kernel) [0, 1, 2] (lv' := [(2, .int (nI (v2_82_685 + 1))), (1, .int (nI v1_68_682)), (0, .ref g)]) rfl ?_
                      exact ih82_685 (v2_82_685 + 1) (vp_updL fg5_82_685 v1_68_682 ((fg5_82_685 v1_68_682) ||| (1 <<< ((nI v2_82_685).toInt64 &&& 63)))) (show (v2_82_685 + 1) ≤ 100000 by first | assumption | omega) (show 100001 - (v2_82_685 + 1) < m82_685 by first | exact Nat.lt_of_lt_of_le (Nat.sub_lt_sub_left (Nat.lt_of_le_of_lt (show v2_82_685 ≤ 100000 by assumption) (Nat.lt_succ_self 100000)) (Nat.lt_succ_self v2_82_685)) (Nat.le_of_lt_succ hm82_685) | omega)
              refine jm_sub [0, 1, 2, 3, 4, 5] (w' := [(g, .inl (.inr (3, [.ref g0, .ref g1, .ref g2, .ref g3, .ref g4, .ref g5, .ref g6, .ref g7, .int (nI gn), .int (nI gtm), .int (nI gms)]))), (g2, .inr (kA 6, kA 1, M, 60, .inl gco)), (g3, .inr (kA 7, kA 2, 8, 61, .inr gwy)), (g4, .inl (.inl (kA 2, M, .inr (.inl fg4_2_673)))), (g5, .inl (.inl (kA 2, 2, .inr (.inl (vp_updL fg5_68_682 v1_68_682 0))))), (g6, .inl (.inl (kA 2, 2, .inr (.inl gre))))]) rfl (by decide +kernel) [0, 1, 2] (lv' := [(2, .int 0), (1, .int (nI v1_68_682)), (0, .ref g)]) rfl ?_
              exact lp82_685 (100001 - 0 + 1) 0 (vp_updL fg5_68_682 v1_68_682 0) (show 0 ≤ 100000 by first | assumption | omega) (Nat.lt_succ_self _)
        refine jm_sub [0, 1, 2, 3, 4, 5] (w' := [(g, .inl (.inr (3, [.ref g0, .ref g1, .ref g2, .ref g3, .ref g4, .ref g5, .ref g6, .ref g7, .int (nI gn), .int (nI gtm), .int (nI gms)]))), (g2, .inr (kA 6, kA 1, M, 60, .inl gco)), (g3, .inr (kA 7, kA 2, 8, 61, .inr gwy)), (g4, .inl (.inl (kA 2, M, .inr (.inl fg4_2_673)))), (g5, .inl (.inl (kA 2, 2, .inr (.inl gal)))), (g6, .inl (.inl (kA 2, 2, .inr (.inl gre))))]) rfl (by decide +kernel) [0, 1] (lv' := [(1, .int 0), (0, .ref g)]) rfl ?_
        exact lp68_682 (100001 - 0 + 1) 0 gal (show 0 ≤ 100000 by first | assumption | omega) (Nat.lt_succ_self _)
      · have z4846n : ¬ gn ≤ v1_2_673 := fun q9 => z4846 ((nI_leI (a := gn) (b := v1_2_673) (by omega) (by omega)).mpr q9)
        refine j_aload_n h 1 rfl rfl dX3_drawMasks_10 ?_
        refine jm_get h iw_X3 0 rfl rfl 4 (by decide +kernel) tw_383 rfl dX3_drawMasks_11 ?_
        refine j_iload_n h 0 rfl rfl dX3_drawMasks_14 ?_
        refine j_lconst (v := 0) h (by decide) dX3_drawMasks_15 ?_
        refine jm_last (w' := [(g, .inl (.inr (3, [.ref g0, .ref g1, .ref g2, .ref g3, .ref g4, .ref g5, .ref g6, .ref g7, .int (nI gn), .int (nI gtm), .int (nI gms)]))), (g2, .inr (kA 6, kA 1, M, 60, .inl gco)), (g3, .inr (kA 7, kA 2, 8, 61, .inr gwy)), (g4, .inl (.inl (kA 2, M, .inr (.inl (vp_updL fg4_2_673 v1_2_673 0))))), (g5, .inl (.inl (kA 2, 2, .inr (.inl gal)))), (g6, .inl (.inl (kA 2, 2, .inr (.inl gre))))]) h 3 rfl v1_2_673 rfl (by omega) (by omega) dX3_drawMasks_16 rfl ?_
        refine j_iconst (v := 0) h (by decide) dX3_drawMasks_17 ?_
        refine j_istore_n (lv' := [(2, .int 0), (1, .int (nI v1_2_673)), (0, .ref g)]) h dX3_drawMasks_18 rfl (by decide) rfl ?_
        have lp19_688 : ∀ (m19_688 : Nat), ∀ (v2_19_688 : Nat) (fg4_19_688 : Nat → Int64), (v2_19_688 ≤ 100000) → 100001 - v2_19_688 < m19_688 → J x (mflat [(g, .inl (.inr (3, [.ref g0, .ref g1, .ref g2, .ref g3, .ref g4, .ref g5, .ref g6, .ref g7, .int (nI gn), .int (nI gtm), .int (nI gms)]))), (g2, .inr (kA 6, kA 1, M, 60, .inl gco)), (g3, .inr (kA 7, kA 2, 8, 61, .inr gwy)), (g4, .inl (.inl (kA 2, M, .inr (.inl fg4_19_688)))), (g5, .inl (.inl (kA 2, 2, .inr (.inl gal)))), (g6, .inl (.inl (kA 2, 2, .inr (.inl gre))))]) [(2, .int (nI v2_19_688)), (1, .int (nI v1_2_673)), (0, .ref g)] 0 0 19 [] := by
          intro m19_688
          induction m19_688 with
          | zero =>
            intro v2_19_688 fg4_19_688 i19_688_0 hm19_688
            exact absurd hm19_688 (Nat.not_lt_zero _)
          | succ m19_688 ih19_688 =>
            intro v2_19_688 fg4_19_688 i19_688_0 hm19_688
            refine j_iload_n h 0 rfl rfl dX3_drawMasks_19 ?_
            refine j_aload_n h 2 rfl rfl dX3_drawMasks_20 ?_
            refine jm_get h iw_X3 0 rfl rfl 9 (by decide +kernel) tw_389 rfl dX3_drawMasks_21 ?_
            refine j_icmp_ge h 60 dX3_drawMasks_24 (by decide) (fun z4871 => ?_) (fun z4871 => ?_)
            · have z4871n : gtm ≤ v2_19_688 := (nI_leI (a := gtm) (b := v2_19_688) (by omega) (by omega)).mp z4871
              refine j_iinc (v := nI (v1_2_673 + 1)) (lv' := [(1, .int (nI (v1_2_673 + 1))), (2, .int (nI v2_19_688)), (0, .ref g)]) h dX3_drawMasks_60 1 rfl (nI_add v1_2_673 1) (by decide) rfl ?_
              refine j_goto h 2 dX3_drawMasks_63 (by decide) ?_
              refine jm_sub [0, 1, 2, 3, 4, 5] (w' := [(g, .inl (.inr (3, [.ref g0, .ref g1, .ref g2, .ref g3, .ref g4, .ref g5, .ref g6, .ref g7, .int (nI gn), .int (nI gtm), .int (nI gms)]))), (g2, .inr (kA 6, kA 1, M, 60, .inl gco)), (g3, .inr (kA 7, kA 2, 8, 61, .inr gwy)), (g4, .inl (.inl (kA 2, M, .inr (.inl fg4_19_688)))), (g5, .inl (.inl (kA 2, 2, .inr (.inl gal)))), (g6, .inl (.inl (kA 2, 2, .inr (.inl gre))))]) rfl (by decide +kernel) [0, 2] (lv' := [(1, .int (nI (v1_2_673 + 1))), (0, .ref g)]) rfl ?_
              exact ih2_673 (v1_2_673 + 1) fg4_19_688 (show (v1_2_673 + 1) ≤ 100000 by first | assumption | omega) (show 100001 - (v1_2_673 + 1) < m2_673 by first | exact Nat.lt_of_lt_of_le (Nat.sub_lt_sub_left (Nat.lt_of_le_of_lt (show v1_2_673 ≤ 100000 by assumption) (Nat.lt_succ_self 100000)) (Nat.lt_succ_self v1_2_673)) (Nat.le_of_lt_succ hm2_673) | omega)
            · have z4871n : ¬ gtm ≤ v2_19_688 := fun q9 => z4871 ((nI_leI (a := gtm) (b := v2_19_688) (by omega) (by omega)).mpr q9)
              refine j_aload_n h 2 rfl rfl dX3_drawMasks_27 ?_
              refine jm_get h iw_X3 0 rfl rfl 4 (by decide +kernel) tw_383 rfl dX3_drawMasks_28 ?_
              refine j_iload_n h 1 rfl rfl dX3_drawMasks_31 ?_
              refine j_dup2 h rfl rfl dX3_drawMasks_32 ?_
              refine jm_lald h 3 rfl v1_2_673 rfl (by omega) (by omega) dX3_drawMasks_33 ?_
              refine j_aload_n h 2 rfl rfl dX3_drawMasks_34 ?_
              refine jm_get h iw_X3 0 rfl rfl 2 (by decide +kernel) tw_381 rfl dX3_drawMasks_35 ?_
              refine j_iload_n h 1 rfl rfl dX3_drawMasks_38 ?_
              refine jm_gout h 1 6 rfl rfl v1_2_673 rfl (by omega) (by omega) dX3_drawMasks_39 ?_
              refine j_iload_n h 0 rfl rfl dX3_drawMasks_40 ?_
              refine jm_gald h 1 rfl v1_2_673 (by omega) v2_19_688 rfl (by omega) (by omega) dX3_drawMasks_41 ?_
              refine j_if_ne h 51 dX3_drawMasks_42 (by decide) (fun z4872 => ?_) (fun z4872 => ?_)
              · show J x (mflat [(g, .inl (.inr (3, [.ref g0, .ref g1, .ref g2, .ref g3, .ref g4, .ref g5, .ref g6, .ref g7, .int (nI gn), .int (nI gtm), .int (nI gms)]))), (g2, .inr (kA 6, kA 1, M, 60, .inl gco)), (g3, .inr (kA 7, kA 2, 8, 61, .inr gwy)), (g4, .inl (.inl (kA 2, M, .inr (.inl fg4_19_688)))), (g5, .inl (.inl (kA 2, 2, .inr (.inl gal)))), (g6, .inl (.inl (kA 2, 2, .inr (.inl gre))))]) [(2, .int (nI v2_19_688)), (1, .int (nI v1_2_673)), (0, .ref g)] 0 0 51 [.long (fg4_19_688 v1_2_673), .int (nI v1_2_673), .ref g4]
                refine j_lconst (v := 0) h (by decide) dX3_drawMasks_51 ?_
                refine j_lor h dX3_drawMasks_52 ?_
                refine jm_last (w' := [(g, .inl (.inr (3, [.ref g0, .ref g1, .ref g2, .ref g3, .ref g4, .ref g5, .ref g6, .ref g7, .int (nI gn), .int (nI gtm), .int (nI gms)]))), (g2, .inr (kA 6, kA 1, M, 60, .inl gco)), (g3, .inr (kA 7, kA 2, 8, 61, .inr gwy)), (g4, .inl (.inl (kA 2, M, .inr (.inl (vp_updL fg4_19_688 v1_2_673 ((fg4_19_688 v1_2_673) ||| 0)))))), (g5, .inl (.inl (kA 2, 2, .inr (.inl gal)))), (g6, .inl (.inl (kA 2, 2, .inr (.inl gre))))]) h 3 rfl v1_2_673 rfl (by omega) (by omega) dX3_drawMasks_53 rfl ?_
                refine j_iinc (v := nI (v2_19_688 + 1)) (lv' := [(2, .int (nI (v2_19_688 + 1))), (1, .int (nI v1_2_673)), (0, .ref g)]) h dX3_drawMasks_54 0 rfl (nI_add v2_19_688 1) (by decide) rfl ?_
                refine j_goto h 19 dX3_drawMasks_57 (by decide) ?_
                refine jm_sub [0, 1, 2, 3, 4, 5] (w' := [(g, .inl (.inr (3, [.ref g0, .ref g1, .ref g2, .ref g3, .ref g4, .ref g5, .ref g6, .ref g7, .int (nI gn), .int (nI gtm), .int (nI gms)]))), (g2, .inr (kA 6, kA 1, M, 60, .inl gco)), (g3, .inr (kA 7, kA 2, 8, 61, .inr gwy)), (g4, .inl (.inl (kA 2, M, .inr (.inl (vp_updL fg4_19_688 v1_2_673 ((fg4_19_688 v1_2_673) ||| 0)))))), (g5, .inl (.inl (kA 2, 2, .inr (.inl gal)))), (g6, .inl (.inl (kA 2, 2, .inr (.inl gre))))]) rfl (by decide +kernel) [0, 1, 2] (lv' := [(2, .int (nI (v2_19_688 + 1))), (1, .int (nI v1_2_673)), (0, .ref g)]) rfl ?_
                exact ih19_688 (v2_19_688 + 1) (vp_updL fg4_19_688 v1_2_673 ((fg4_19_688 v1_2_673) ||| 0)) (show (v2_19_688 + 1) ≤ 100000 by first | assumption | omega) (show 100001 - (v2_19_688 + 1) < m19_688 by first | exact Nat.lt_of_lt_of_le (Nat.sub_lt_sub_left (Nat.lt_of_le_of_lt (show v2_19_688 ≤ 100000 by assumption) (Nat.lt_succ_self 100000)) (Nat.lt_succ_self v2_19_688)) (Nat.le_of_lt_succ hm19_688) | omega)
              · show J x (mflat [(g, .inl (.inr (3, [.ref g0, .ref g1, .ref g2, .ref g3, .ref g4, .ref g5, .ref g6, .ref g7, .int (nI gn), .int (nI gtm), .int (nI gms)]))), (g2, .inr (kA 6, kA 1, M, 60, .inl gco)), (g3, .inr (kA 7, kA 2, 8, 61, .inr gwy)), (g4, .inl (.inl (kA 2, M, .inr (.inl fg4_19_688)))), (g5, .inl (.inl (kA 2, 2, .inr (.inl gal)))), (g6, .inl (.inl (kA 2, 2, .inr (.inl gre))))]) [(2, .int (nI v2_19_688)), (1, .int (nI v1_2_673)), (0, .ref g)] 0 0 45 [.long (fg4_19_688 v1_2_673), .int (nI v1_2_673), .ref g4]
                refine j_lconst (v := 1) h (by decide) dX3_drawMasks_45 ?_
                refine j_iload_n h 0 rfl rfl dX3_drawMasks_46 ?_
                refine j_lshl h dX3_drawMasks_47 ?_
                refine j_goto h 52 dX3_drawMasks_48 (by decide) ?_
                refine j_lor h dX3_drawMasks_52 ?_
                refine jm_last (w' := [(g, .inl (.inr (3, [.ref g0, .ref g1, .ref g2, .ref g3, .ref g4, .ref g5, .ref g6, .ref g7, .int (nI gn), .int (nI gtm), .int (nI gms)]))), (g2, .inr (kA 6, kA 1, M, 60, .inl gco)), (g3, .inr (kA 7, kA 2, 8, 61, .inr gwy)), (g4, .inl (.inl (kA 2, M, .inr (.inl (vp_updL fg4_19_688 v1_2_673 ((fg4_19_688 v1_2_673) ||| (1 <<< ((nI v2_19_688).toInt64 &&& 63)))))))), (g5, .inl (.inl (kA 2, 2, .inr (.inl gal)))), (g6, .inl (.inl (kA 2, 2, .inr (.inl gre))))]) h 3 rfl v1_2_673 rfl (by omega) (by omega) dX3_drawMasks_53 rfl ?_
                refine j_iinc (v := nI (v2_19_688 + 1)) (lv' := [(2, .int (nI (v2_19_688 + 1))), (1, .int (nI v1_2_673)), (0, .ref g)]) h dX3_drawMasks_54 0 rfl (nI_add v2_19_688 1) (by decide) rfl ?_
                refine j_goto h 19 dX3_drawMasks_57 (by decide) ?_
                refine jm_sub [0, 1, 2, 3, 4, 5] (w' := [(g, .inl (.inr (3, [.ref g0, .ref g1, .ref g2, .ref g3, .ref g4, .ref g5, .ref g6, .ref g7, .int (nI gn), .int (nI gtm), .int (nI gms)]))), (g2, .inr (kA 6, kA 1, M, 60, .inl gco)), (g3, .inr (kA 7, kA 2, 8, 61, .inr gwy)), (g4, .inl (.inl (kA 2, M, .inr (.inl (vp_updL fg4_19_688 v1_2_673 ((fg4_19_688 v1_2_673) ||| (1 <<< ((nI v2_19_688).toInt64 &&& 63)))))))), (g5, .inl (.inl (kA 2, 2, .inr (.inl gal)))), (g6, .inl (.inl (kA 2, 2, .inr (.inl gre))))]) rfl (by decide +kernel) [0, 1, 2] (lv' := [(2, .int (nI (v2_19_688 + 1))), (1, .int (nI v1_2_673)), (0, .ref g)]) rfl ?_
                exact ih19_688 (v2_19_688 + 1) (vp_updL fg4_19_688 v1_2_673 ((fg4_19_688 v1_2_673) ||| (1 <<< ((nI v2_19_688).toInt64 &&& 63)))) (show (v2_19_688 + 1) ≤ 100000 by first | assumption | omega) (show 100001 - (v2_19_688 + 1) < m19_688 by first | exact Nat.lt_of_lt_of_le (Nat.sub_lt_sub_left (Nat.lt_of_le_of_lt (show v2_19_688 ≤ 100000 by assumption) (Nat.lt_succ_self 100000)) (Nat.lt_succ_self v2_19_688)) (Nat.le_of_lt_succ hm19_688) | omega)
        refine jm_sub [0, 1, 2, 3, 4, 5] (w' := [(g, .inl (.inr (3, [.ref g0, .ref g1, .ref g2, .ref g3, .ref g4, .ref g5, .ref g6, .ref g7, .int (nI gn), .int (nI gtm), .int (nI gms)]))), (g2, .inr (kA 6, kA 1, M, 60, .inl gco)), (g3, .inr (kA 7, kA 2, 8, 61, .inr gwy)), (g4, .inl (.inl (kA 2, M, .inr (.inl (vp_updL fg4_2_673 v1_2_673 0))))), (g5, .inl (.inl (kA 2, 2, .inr (.inl gal)))), (g6, .inl (.inl (kA 2, 2, .inr (.inl gre))))]) rfl (by decide +kernel) [0, 1, 2] (lv' := [(2, .int 0), (1, .int (nI v1_2_673)), (0, .ref g)]) rfl ?_
        exact lp19_688 (100001 - 0 + 1) 0 (vp_updL fg4_2_673 v1_2_673 0) (show 0 ≤ 100000 by first | assumption | omega) (Nat.lt_succ_self _)
  refine jm_sub [0, 1, 2, 3, 4, 5] (w' := [(g, .inl (.inr (3, [.ref g0, .ref g1, .ref g2, .ref g3, .ref g4, .ref g5, .ref g6, .ref g7, .int (nI gn), .int (nI gtm), .int (nI gms)]))), (g2, .inr (kA 6, kA 1, M, 60, .inl gco)), (g3, .inr (kA 7, kA 2, 8, 61, .inr gwy)), (g4, .inl (.inl (kA 2, M, .inr (.inl gfi)))), (g5, .inl (.inl (kA 2, 2, .inr (.inl gal)))), (g6, .inl (.inl (kA 2, 2, .inr (.inl gre))))]) rfl (by decide +kernel) [0, 1] (lv' := [(1, .int 0), (0, .ref g)]) rfl ?_
  exact lp2_673 (100001 - 0 + 1) 0 gfi (show 0 ≤ 100000 by first | assumption | omega) (Nat.lt_succ_self _)
set_option maxHeartbeats 4000000 in
set_option maxRecDepth 100000 in
theorem s_X3_standingAt (lau : Launch) (gg : va_G) (kA : Nat → ClassId) (g : Nat) (pl : Int32) (g0 : Nat) (g1 : Nat) (g2 : Nat) (g3 : Nat) (g4 : Nat) (g5 : Nat) (g6 : Nat) (g7 : Nat) (gn : Nat) (gtm : Nat) (gms : Nat) (M : Nat) (gtk : Nat → Int32) (gaf : Nat → Nat → Int32) (gco : Nat → Nat → Int32) (gwy : Nat → Nat → Int64) (gfi : Nat → Int64) (gal : Nat → Int64) (gre : Nat → Int64) (grn : Nat → Int64) (hM : M ≤ 10) (hgn : gn ≤ M) (hgtm : gtm ≤ 60) (hgtk : LtOk gn gtk) (hgaf : FtOk gn gaf) (hgco : CoOk gn gtm gtk gco) : CtI lau yX3_standingAt cX3_standingAt 4 (some .int) 2 0 0 gg kA [.ref g, .int pl] (mflat [(g, .inl (.inr (3, [.ref g0, .ref g1, .ref g2, .ref g3, .ref g4, .ref g5, .ref g6, .ref g7, .int (nI gn), .int (nI gtm), .int (nI gms)]))), (g0, .inl (.inl (kA 1, M, .inl gtk))), (g1, .inr (kA 6, kA 1, M, 2, .inl gaf)), (g2, .inr (kA 6, kA 1, M, 60, .inl gco)), (g3, .inr (kA 7, kA 2, 8, 61, .inr gwy)), (g4, .inl (.inl (kA 2, M, .inr (.inl gfi)))), (g5, .inl (.inl (kA 2, 2, .inr (.inl gal)))), (g6, .inl (.inl (kA 2, 2, .inr (.inl gre)))), (g7, .inl (.inl (kA 2, 2, .inr (.inl grn))))]) (S := (Nat → Int64) × (Nat → Int64) × (Nat → Int64) × (Nat → Int64)) (fun (r : Int32) ((y_g4, y_g5, y_g6, y_g7) : (Nat → Int64) × (Nat → Int64) × (Nat → Int64) × (Nat → Int64)) => True) (fun ((y_g4, y_g5, y_g6, y_g7) : (Nat → Int64) × (Nat → Int64) × (Nat → Int64) × (Nat → Int64)) => mflat [(g, .inl (.inr (3, [.ref g0, .ref g1, .ref g2, .ref g3, .ref g4, .ref g5, .ref g6, .ref g7, .int (nI gn), .int (nI gtm), .int (nI gms)]))), (g0, .inl (.inl (kA 1, M, .inl gtk))), (g1, .inr (kA 6, kA 1, M, 2, .inl gaf)), (g2, .inr (kA 6, kA 1, M, 60, .inl gco)), (g3, .inr (kA 7, kA 2, 8, 61, .inr gwy)), (g4, .inl (.inl (kA 2, M, .inr (.inl y_g4)))), (g5, .inl (.inl (kA 2, 2, .inr (.inl y_g5)))), (g6, .inl (.inl (kA 2, 2, .inr (.inl y_g6)))), (g7, .inl (.inl (kA 2, 2, .inr (.inl y_g7))))]) := by
  refine nx_startI (by decide +kernel) (Nat.le_of_ble_eq_true rfl) ?_
  intro x hnm h hq
  have h : Ok x cX3_standingAt RX3 kA (rmC 2 0 0) 4 := h
  show J x (mflat [(g, .inl (.inr (3, [.ref g0, .ref g1, .ref g2, .ref g3, .ref g4, .ref g5, .ref g6, .ref g7, .int (nI gn), .int (nI gtm), .int (nI gms)]))), (g0, .inl (.inl (kA 1, M, .inl gtk))), (g1, .inr (kA 6, kA 1, M, 2, .inl gaf)), (g2, .inr (kA 6, kA 1, M, 60, .inl gco)), (g3, .inr (kA 7, kA 2, 8, 61, .inr gwy)), (g4, .inl (.inl (kA 2, M, .inr (.inl gfi)))), (g5, .inl (.inl (kA 2, 2, .inr (.inl gal)))), (g6, .inl (.inl (kA 2, 2, .inr (.inl gre)))), (g7, .inl (.inl (kA 2, 2, .inr (.inl grn))))]) [(0, .ref g), (1, .int pl)] 0 0 0 []
  refine j_aload_n h 0 rfl rfl dX3_standingAt_0 ?_
  refine jm_callVv (np := 0) (isC := [0, 3, 4, 5, 6, 7]) (isR := [1, 2, 8]) (wc := [(g, .inl (.inr (3, [.ref g0, .ref g1, .ref g2, .ref g3, .ref g4, .ref g5, .ref g6, .ref g7, .int (nI gn), .int (nI gtm), .int (nI gms)]))), (g2, .inr (kA 6, kA 1, M, 60, .inl gco)), (g3, .inr (kA 7, kA 2, 8, 61, .inr gwy)), (g4, .inl (.inl (kA 2, M, .inr (.inl gfi)))), (g5, .inl (.inl (kA 2, 2, .inr (.inl gal)))), (g6, .inl (.inl (kA 2, 2, .inr (.inl gre))))]) (wr := [(g0, .inl (.inl (kA 1, M, .inl gtk))), (g1, .inr (kA 6, kA 1, M, 2, .inl gaf)), (g7, .inl (.inl (kA 2, 2, .inr (.inl grn))))]) (rest := []) (As := []) (q0 := 0) h (s_X3_drawMasks _ _ kA g g0 g1 g2 g3 g4 g5 g6 g7 gn gtm gms M gco gwy gfi gal gre (show M ≤ 10 by first | assumption | omega) (show gn ≤ M by first | assumption | omega) (show gtm ≤ 60 by first | assumption | omega)) tw_1115 tw_1117 tw_35 tw_95 tw_1118 (by decide +kernel) rfl ⟨Nat.le_of_ble_eq_true rfl, Nat.le_of_ble_eq_true rfl⟩ rfl rfl (by decide +kernel) rfl rfl (by decide +kernel) (by decide +kernel) (Nat.le_of_ble_eq_true rfl) rfl ⟨Nat.le_of_ble_eq_true rfl, Nat.le_of_ble_eq_true rfl⟩ dX3_standingAt_1 ?_
  rintro ⟨q5155, q5156, q5157⟩ e5158
  show J x (mflat [(g0, .inl (.inl (kA 1, M, .inl gtk))), (g1, .inr (kA 6, kA 1, M, 2, .inl gaf)), (g7, .inl (.inl (kA 2, 2, .inr (.inl grn)))), (g, .inl (.inr (3, [.ref g0, .ref g1, .ref g2, .ref g3, .ref g4, .ref g5, .ref g6, .ref g7, .int (nI gn), .int (nI gtm), .int (nI gms)]))), (g2, .inr (kA 6, kA 1, M, 60, .inl gco)), (g3, .inr (kA 7, kA 2, 8, 61, .inr gwy)), (g4, .inl (.inl (kA 2, M, .inr (.inl q5155)))), (g5, .inl (.inl (kA 2, 2, .inr (.inl q5156)))), (g6, .inl (.inl (kA 2, 2, .inr (.inl q5157))))]) [(0, .ref g), (1, .int pl)] 0 0 4 []
  refine j_iconst (v := 0) h (by decide) dX3_standingAt_4 ?_
  refine j_istore_n (lv' := [(2, .int 0), (0, .ref g), (1, .int pl)]) h dX3_standingAt_5 rfl (by decide) rfl ?_
  have lp6_726 : ∀ (m6_726 : Nat), ∀ (v2_6_726 : Nat) (fg7_6_726 : Nat → Int64) (fg6_6_726 : Nat → Int64), (v2_6_726 ≤ 100000) → 100001 - v2_6_726 < m6_726 → J x (mflat [(g0, .inl (.inl (kA 1, M, .inl gtk))), (g1, .inr (kA 6, kA 1, M, 2, .inl gaf)), (g7, .inl (.inl (kA 2, 2, .inr (.inl fg7_6_726)))), (g, .inl (.inr (3, [.ref g0, .ref g1, .ref g2, .ref g3, .ref g4, .ref g5, .ref g6, .ref g7, .int (nI gn), .int (nI gtm), .int (nI gms)]))), (g2, .inr (kA 6, kA 1, M, 60, .inl gco)), (g3, .inr (kA 7, kA 2, 8, 61, .inr gwy)), (g4, .inl (.inl (kA 2, M, .inr (.inl q5155)))), (g5, .inl (.inl (kA 2, 2, .inr (.inl q5156)))), (g6, .inl (.inl (kA 2, 2, .inr (.inl fg6_6_726))))]) [(2, .int (nI v2_6_726)), (0, .ref g), (1, .int pl)] 0 0 6 [] := by
    intro m6_726
    induction m6_726 with
    | zero =>
      intro v2_6_726 fg7_6_726 fg6_6_726 i6_726_0 hm6_726
      exact absurd hm6_726 (Nat.not_lt_zero _)
    | succ m6_726 ih6_726 =>
      intro v2_6_726 fg7_6_726 fg6_6_726 i6_726_0 hm6_726
      refine j_iload_n h 0 rfl rfl dX3_standingAt_6 ?_
      refine j_iload_n h 2 rfl rfl dX3_standingAt_7 ?_
      refine j_icmp_ge h 27 dX3_standingAt_8 (by decide) (fun z5327 => ?_) (fun z5327 => ?_)
      · show J x (mflat [(g0, .inl (.inl (kA 1, M, .inl gtk))), (g1, .inr (kA 6, kA 1, M, 2, .inl gaf)), (g7, .inl (.inl (kA 2, 2, .inr (.inl fg7_6_726)))), (g, .inl (.inr (3, [.ref g0, .ref g1, .ref g2, .ref g3, .ref g4, .ref g5, .ref g6, .ref g7, .int (nI gn), .int (nI gtm), .int (nI gms)]))), (g2, .inr (kA 6, kA 1, M, 60, .inl gco)), (g3, .inr (kA 7, kA 2, 8, 61, .inr gwy)), (g4, .inl (.inl (kA 2, M, .inr (.inl q5155)))), (g5, .inl (.inl (kA 2, 2, .inr (.inl q5156)))), (g6, .inl (.inl (kA 2, 2, .inr (.inl fg6_6_726))))]) [(2, .int (nI v2_6_726)), (0, .ref g), (1, .int pl)] 0 0 27 []
        refine j_iconst (v := 0) h (by decide) dX3_standingAt_27 ?_
        refine j_istore_n (lv' := [(2, .int 0), (0, .ref g), (1, .int pl)]) h dX3_standingAt_28 rfl (by decide) rfl ?_
        refine j_iconst (v := 0) h (by decide) dX3_standingAt_29 ?_
        refine j_istore_n (lv' := [(3, .int 0), (2, .int 0), (0, .ref g), (1, .int pl)]) h dX3_standingAt_30 rfl (by decide) rfl ?_
        have lp31_730 : ∀ (m31_730 : Nat), ∀ (v3_31_730 : Nat) (v2_31_730 : Int32), (v3_31_730 ≤ 100000) → 100001 - v3_31_730 < m31_730 → J x (mflat [(g0, .inl (.inl (kA 1, M, .inl gtk))), (g1, .inr (kA 6, kA 1, M, 2, .inl gaf)), (g7, .inl (.inl (kA 2, 2, .inr (.inl fg7_6_726)))), (g, .inl (.inr (3, [.ref g0, .ref g1, .ref g2, .ref g3, .ref g4, .ref g5, .ref g6, .ref g7, .int (nI gn), .int (nI gtm), .int (nI gms)]))), (g2, .inr (kA 6, kA 1, M, 60, .inl gco)), (g3, .inr (kA 7, kA 2, 8, 61, .inr gwy)), (g4, .inl (.inl (kA 2, M, .inr (.inl q5155)))), (g5, .inl (.inl (kA 2, 2, .inr (.inl q5156)))), (g6, .inl (.inl (kA 2, 2, .inr (.inl fg6_6_726))))]) [(3, .int (nI v3_31_730)), (2, .int v2_31_730), (0, .ref g), (1, .int pl)] 0 0 31 [] := by
          intro m31_730
          induction m31_730 with
          | zero =>
            intro v3_31_730 v2_31_730 i31_730_0 hm31_730
            exact absurd hm31_730 (Nat.not_lt_zero _)
          | succ m31_730 ih31_730 =>
            intro v3_31_730 v2_31_730 i31_730_0 hm31_730
            refine j_iload_n h 0 rfl rfl dX3_standingAt_31 ?_
            refine j_aload_n h 2 rfl rfl dX3_standingAt_32 ?_
            refine jm_get h iw_X3 3 rfl rfl 8 (by decide +kernel) tw_387 rfl dX3_standingAt_33 ?_
            refine j_icmp_ge h 69 dX3_standingAt_36 (by decide) (fun z5367 => ?_) (fun z5367 => ?_)
            · have z5367n : gn ≤ v3_31_730 := (nI_leI (a := gn) (b := v3_31_730) (by omega) (by omega)).mp z5367
              refine j_iload_n h 1 rfl rfl dX3_standingAt_69 ?_
              exact jm_iret h hq dX3_standingAt_70 (q5155, q5156, fg6_6_726, fg7_6_726) [3, 0, 1, 4, 5, 6, 7, 8, 2] rfl (by decide) trivial (Nat.le_of_ble_eq_true rfl) (Nat.le_of_ble_eq_true rfl)
            · have z5367n : ¬ gn ≤ v3_31_730 := fun q9 => z5367 ((nI_leI (a := gn) (b := v3_31_730) (by omega) (by omega)).mpr q9)
              refine j_aload_n h 2 rfl rfl dX3_standingAt_39 ?_
              refine j_iload_n h 0 rfl rfl dX3_standingAt_40 ?_
              refine j_iconst (v := 0) h (by decide) dX3_standingAt_41 ?_
              refine jm_callVi (np := 2) (isC := [3, 0, 1, 6, 7, 8]) (isR := [2, 4, 5]) (wc := [(g, .inl (.inr (3, [.ref g0, .ref g1, .ref g2, .ref g3, .ref g4, .ref g5, .ref g6, .ref g7, .int (nI gn), .int (nI gtm), .int (nI gms)]))), (g0, .inl (.inl (kA 1, M, .inl gtk))), (g1, .inr (kA 6, kA 1, M, 2, .inl gaf)), (g4, .inl (.inl (kA 2, M, .inr (.inl q5155)))), (g5, .inl (.inl (kA 2, 2, .inr (.inl q5156)))), (g6, .inl (.inl (kA 2, 2, .inr (.inl fg6_6_726))))]) (wr := [(g7, .inl (.inl (kA 2, 2, .inr (.inl fg7_6_726)))), (g2, .inr (kA 6, kA 1, M, 60, .inl gco)), (g3, .inr (kA 7, kA 2, 8, 61, .inr gwy))]) (rest := []) (As := [.int (nI v3_31_730), .int 0]) (q0 := 0) h (s_X3_isGoneOnFrom _ _ kA g v3_31_730 0 g0 g1 g2 g3 g4 g5 g6 g7 gn gtm gms M gtk gaf q5155 q5156 fg6_6_726 (show M ≤ 10 by first | assumption | omega) (show gn ≤ M by first | assumption | omega) (show gtm ≤ 60 by first | assumption | omega) (show LtOk gn gtk by first | assumption | omega) (show FtOk gn gaf by first | assumption | omega) (show v3_31_730 < gn by first | assumption | omega) (show 0 ≤ 1 by first | assumption | omega)) tw_1123 tw_1125 tw_37 tw_95 tw_1126 (by decide +kernel) rfl ⟨Nat.le_of_ble_eq_true rfl, Nat.le_of_ble_eq_true rfl⟩ rfl rfl (by decide +kernel) rfl rfl (by decide +kernel) (by decide +kernel) (Nat.le_of_ble_eq_true rfl) rfl ⟨Nat.le_of_ble_eq_true rfl, Nat.le_of_ble_eq_true rfl⟩ dX3_standingAt_42 ?_
              rintro r5370 q5368 e5369
              obtain ⟨p5371, p5372⟩ := e5369
              subst p5371
              replace p5372 : q5368 ≤ 1 := p5372
              show J x (mflat [(g7, .inl (.inl (kA 2, 2, .inr (.inl fg7_6_726)))), (g2, .inr (kA 6, kA 1, M, 60, .inl gco)), (g3, .inr (kA 7, kA 2, 8, 61, .inr gwy)), (g, .inl (.inr (3, [.ref g0, .ref g1, .ref g2, .ref g3, .ref g4, .ref g5, .ref g6, .ref g7, .int (nI gn), .int (nI gtm), .int (nI gms)]))), (g0, .inl (.inl (kA 1, M, .inl gtk))), (g1, .inr (kA 6, kA 1, M, 2, .inl gaf)), (g4, .inl (.inl (kA 2, M, .inr (.inl q5155)))), (g5, .inl (.inl (kA 2, 2, .inr (.inl q5156)))), (g6, .inl (.inl (kA 2, 2, .inr (.inl fg6_6_726))))]) [(3, .int (nI v3_31_730)), (2, .int v2_31_730), (0, .ref g), (1, .int pl)] 0 0 45 [.int (nI q5368)]
              refine j_if_ne h 57 dX3_standingAt_45 (by decide) (fun z5373 => ?_) (fun z5373 => ?_)
              · have z5373n : ¬ q5368 = 0 := fun q9 => z5373 ((nI_eq (a := q5368) (b := 0) (by omega) (by omega)).mpr q9)
                refine j_iload_n h 1 rfl rfl dX3_standingAt_57 ?_
                refine j_iconst (v := 1) h (by decide) dX3_standingAt_58 ?_
                refine j_iload_n h 0 rfl rfl dX3_standingAt_59 ?_
                refine j_ishl h dX3_standingAt_60 ?_
                refine j_ior h dX3_standingAt_61 ?_
                refine j_istore_n (lv' := [(2, .int (v2_31_730 ||| ((1 : Int32) <<< ((nI v3_31_730) &&& 31)))), (3, .int (nI v3_31_730)), (0, .ref g), (1, .int pl)]) h dX3_standingAt_62 rfl (by decide) rfl ?_
                refine j_iinc (v := nI (v3_31_730 + 1)) (lv' := [(3, .int (nI (v3_31_730 + 1))), (2, .int (v2_31_730 ||| ((1 : Int32) <<< ((nI v3_31_730) &&& 31)))), (0, .ref g), (1, .int pl)]) h dX3_standingAt_63 1 rfl (nI_add v3_31_730 1) (by decide) rfl ?_
                refine j_goto h 31 dX3_standingAt_66 (by decide) ?_
                refine jm_sub [4, 5, 0, 3, 1, 2, 6, 7, 8] (w' := [(g0, .inl (.inl (kA 1, M, .inl gtk))), (g1, .inr (kA 6, kA 1, M, 2, .inl gaf)), (g7, .inl (.inl (kA 2, 2, .inr (.inl fg7_6_726)))), (g, .inl (.inr (3, [.ref g0, .ref g1, .ref g2, .ref g3, .ref g4, .ref g5, .ref g6, .ref g7, .int (nI gn), .int (nI gtm), .int (nI gms)]))), (g2, .inr (kA 6, kA 1, M, 60, .inl gco)), (g3, .inr (kA 7, kA 2, 8, 61, .inr gwy)), (g4, .inl (.inl (kA 2, M, .inr (.inl q5155)))), (g5, .inl (.inl (kA 2, 2, .inr (.inl q5156)))), (g6, .inl (.inl (kA 2, 2, .inr (.inl fg6_6_726))))]) rfl (by decide +kernel) [0, 1, 2, 3] (lv' := [(3, .int (nI (v3_31_730 + 1))), (2, .int (v2_31_730 ||| ((1 : Int32) <<< ((nI v3_31_730) &&& 31)))), (0, .ref g), (1, .int pl)]) rfl ?_
                exact ih31_730 (v3_31_730 + 1) (v2_31_730 ||| ((1 : Int32) <<< ((nI v3_31_730) &&& 31))) (show (v3_31_730 + 1) ≤ 100000 by first | assumption | omega) (show 100001 - (v3_31_730 + 1) < m31_730 by first | exact Nat.lt_of_lt_of_le (Nat.sub_lt_sub_left (Nat.lt_of_le_of_lt (show v3_31_730 ≤ 100000 by assumption) (Nat.lt_succ_self 100000)) (Nat.lt_succ_self v3_31_730)) (Nat.le_of_lt_succ hm31_730) | omega)
              · have z5373n : q5368 = 0 := (nI_eq (a := q5368) (b := 0) (by omega) (by omega)).mp z5373
                refine j_aload_n h 2 rfl rfl dX3_standingAt_48 ?_
                refine j_iload_n h 0 rfl rfl dX3_standingAt_49 ?_
                refine j_iconst (v := 1) h (by decide) dX3_standingAt_50 ?_
                refine jm_callVi (np := 2) (isC := [3, 4, 5, 6, 7, 8]) (isR := [0, 1, 2]) (wc := [(g, .inl (.inr (3, [.ref g0, .ref g1, .ref g2, .ref g3, .ref g4, .ref g5, .ref g6, .ref g7, .int (nI gn), .int (nI gtm), .int (nI gms)]))), (g0, .inl (.inl (kA 1, M, .inl gtk))), (g1, .inr (kA 6, kA 1, M, 2, .inl gaf)), (g4, .inl (.inl (kA 2, M, .inr (.inl q5155)))), (g5, .inl (.inl (kA 2, 2, .inr (.inl q5156)))), (g6, .inl (.inl (kA 2, 2, .inr (.inl fg6_6_726))))]) (wr := [(g7, .inl (.inl (kA 2, 2, .inr (.inl fg7_6_726)))), (g2, .inr (kA 6, kA 1, M, 60, .inl gco)), (g3, .inr (kA 7, kA 2, 8, 61, .inr gwy))]) (rest := []) (As := [.int (nI v3_31_730), .int 1]) (q0 := 0) h (s_X3_isGoneOnFrom _ _ kA g v3_31_730 1 g0 g1 g2 g3 g4 g5 g6 g7 gn gtm gms M gtk gaf q5155 q5156 fg6_6_726 (show M ≤ 10 by first | assumption | omega) (show gn ≤ M by first | assumption | omega) (show gtm ≤ 60 by first | assumption | omega) (show LtOk gn gtk by first | assumption | omega) (show FtOk gn gaf by first | assumption | omega) (show v3_31_730 < gn by first | assumption | omega) (show 1 ≤ 1 by first | assumption | omega)) tw_1123 tw_1125 tw_37 tw_95 tw_1126 (by decide +kernel) rfl ⟨Nat.le_of_ble_eq_true rfl, Nat.le_of_ble_eq_true rfl⟩ rfl rfl (by decide +kernel) rfl rfl (by decide +kernel) (by decide +kernel) (Nat.le_of_ble_eq_true rfl) rfl ⟨Nat.le_of_ble_eq_true rfl, Nat.le_of_ble_eq_true rfl⟩ dX3_standingAt_51 ?_
                rintro r5376 q5374 e5375
                obtain ⟨p5377, p5378⟩ := e5375
                subst p5377
                replace p5378 : q5374 ≤ 1 := p5378
                show J x (mflat [(g7, .inl (.inl (kA 2, 2, .inr (.inl fg7_6_726)))), (g2, .inr (kA 6, kA 1, M, 60, .inl gco)), (g3, .inr (kA 7, kA 2, 8, 61, .inr gwy)), (g, .inl (.inr (3, [.ref g0, .ref g1, .ref g2, .ref g3, .ref g4, .ref g5, .ref g6, .ref g7, .int (nI gn), .int (nI gtm), .int (nI gms)]))), (g0, .inl (.inl (kA 1, M, .inl gtk))), (g1, .inr (kA 6, kA 1, M, 2, .inl gaf)), (g4, .inl (.inl (kA 2, M, .inr (.inl q5155)))), (g5, .inl (.inl (kA 2, 2, .inr (.inl q5156)))), (g6, .inl (.inl (kA 2, 2, .inr (.inl fg6_6_726))))]) [(3, .int (nI v3_31_730)), (2, .int v2_31_730), (0, .ref g), (1, .int pl)] 0 0 54 [.int (nI q5374)]
                refine j_if_eq h 63 dX3_standingAt_54 (by decide) (fun z5379 => ?_) (fun z5379 => ?_)
                · have z5379n : q5374 = 0 := (nI_eq (a := q5374) (b := 0) (by omega) (by omega)).mp z5379
                  refine j_iinc (v := nI (v3_31_730 + 1)) (lv' := [(3, .int (nI (v3_31_730 + 1))), (2, .int v2_31_730), (0, .ref g), (1, .int pl)]) h dX3_standingAt_63 0 rfl (nI_add v3_31_730 1) (by decide) rfl ?_
                  refine j_goto h 31 dX3_standingAt_66 (by decide) ?_
                  refine jm_sub [4, 5, 0, 3, 1, 2, 6, 7, 8] (w' := [(g0, .inl (.inl (kA 1, M, .inl gtk))), (g1, .inr (kA 6, kA 1, M, 2, .inl gaf)), (g7, .inl (.inl (kA 2, 2, .inr (.inl fg7_6_726)))), (g, .inl (.inr (3, [.ref g0, .ref g1, .ref g2, .ref g3, .ref g4, .ref g5, .ref g6, .ref g7, .int (nI gn), .int (nI gtm), .int (nI gms)]))), (g2, .inr (kA 6, kA 1, M, 60, .inl gco)), (g3, .inr (kA 7, kA 2, 8, 61, .inr gwy)), (g4, .inl (.inl (kA 2, M, .inr (.inl q5155)))), (g5, .inl (.inl (kA 2, 2, .inr (.inl q5156)))), (g6, .inl (.inl (kA 2, 2, .inr (.inl fg6_6_726))))]) rfl (by decide +kernel) [0, 1, 2, 3] (lv' := [(3, .int (nI (v3_31_730 + 1))), (2, .int v2_31_730), (0, .ref g), (1, .int pl)]) rfl ?_
                  exact ih31_730 (v3_31_730 + 1) v2_31_730 (show (v3_31_730 + 1) ≤ 100000 by first | assumption | omega) (show 100001 - (v3_31_730 + 1) < m31_730 by first | exact Nat.lt_of_lt_of_le (Nat.sub_lt_sub_left (Nat.lt_of_le_of_lt (show v3_31_730 ≤ 100000 by assumption) (Nat.lt_succ_self 100000)) (Nat.lt_succ_self v3_31_730)) (Nat.le_of_lt_succ hm31_730) | omega)
                · have z5379n : ¬ q5374 = 0 := fun q9 => z5379 ((nI_eq (a := q5374) (b := 0) (by omega) (by omega)).mpr q9)
                  refine j_iload_n h 1 rfl rfl dX3_standingAt_57 ?_
                  refine j_iconst (v := 1) h (by decide) dX3_standingAt_58 ?_
                  refine j_iload_n h 0 rfl rfl dX3_standingAt_59 ?_
                  refine j_ishl h dX3_standingAt_60 ?_
                  refine j_ior h dX3_standingAt_61 ?_
                  refine j_istore_n (lv' := [(2, .int (v2_31_730 ||| ((1 : Int32) <<< ((nI v3_31_730) &&& 31)))), (3, .int (nI v3_31_730)), (0, .ref g), (1, .int pl)]) h dX3_standingAt_62 rfl (by decide) rfl ?_
                  refine j_iinc (v := nI (v3_31_730 + 1)) (lv' := [(3, .int (nI (v3_31_730 + 1))), (2, .int (v2_31_730 ||| ((1 : Int32) <<< ((nI v3_31_730) &&& 31)))), (0, .ref g), (1, .int pl)]) h dX3_standingAt_63 1 rfl (nI_add v3_31_730 1) (by decide) rfl ?_
                  refine j_goto h 31 dX3_standingAt_66 (by decide) ?_
                  refine jm_sub [4, 5, 0, 3, 1, 2, 6, 7, 8] (w' := [(g0, .inl (.inl (kA 1, M, .inl gtk))), (g1, .inr (kA 6, kA 1, M, 2, .inl gaf)), (g7, .inl (.inl (kA 2, 2, .inr (.inl fg7_6_726)))), (g, .inl (.inr (3, [.ref g0, .ref g1, .ref g2, .ref g3, .ref g4, .ref g5, .ref g6, .ref g7, .int (nI gn), .int (nI gtm), .int (nI gms)]))), (g2, .inr (kA 6, kA 1, M, 60, .inl gco)), (g3, .inr (kA 7, kA 2, 8, 61, .inr gwy)), (g4, .inl (.inl (kA 2, M, .inr (.inl q5155)))), (g5, .inl (.inl (kA 2, 2, .inr (.inl q5156)))), (g6, .inl (.inl (kA 2, 2, .inr (.inl fg6_6_726))))]) rfl (by decide +kernel) [0, 1, 2, 3] (lv' := [(3, .int (nI (v3_31_730 + 1))), (2, .int (v2_31_730 ||| ((1 : Int32) <<< ((nI v3_31_730) &&& 31)))), (0, .ref g), (1, .int pl)]) rfl ?_
                  exact ih31_730 (v3_31_730 + 1) (v2_31_730 ||| ((1 : Int32) <<< ((nI v3_31_730) &&& 31))) (show (v3_31_730 + 1) ≤ 100000 by first | assumption | omega) (show 100001 - (v3_31_730 + 1) < m31_730 by first | exact Nat.lt_of_lt_of_le (Nat.sub_lt_sub_left (Nat.lt_of_le_of_lt (show v3_31_730 ≤ 100000 by assumption) (Nat.lt_succ_self 100000)) (Nat.lt_succ_self v3_31_730)) (Nat.le_of_lt_succ hm31_730) | omega)
        refine jm_sub [0, 1, 2, 3, 4, 5, 6, 7, 8] (w' := [(g0, .inl (.inl (kA 1, M, .inl gtk))), (g1, .inr (kA 6, kA 1, M, 2, .inl gaf)), (g7, .inl (.inl (kA 2, 2, .inr (.inl fg7_6_726)))), (g, .inl (.inr (3, [.ref g0, .ref g1, .ref g2, .ref g3, .ref g4, .ref g5, .ref g6, .ref g7, .int (nI gn), .int (nI gtm), .int (nI gms)]))), (g2, .inr (kA 6, kA 1, M, 60, .inl gco)), (g3, .inr (kA 7, kA 2, 8, 61, .inr gwy)), (g4, .inl (.inl (kA 2, M, .inr (.inl q5155)))), (g5, .inl (.inl (kA 2, 2, .inr (.inl q5156)))), (g6, .inl (.inl (kA 2, 2, .inr (.inl fg6_6_726))))]) rfl (by decide +kernel) [0, 1, 2, 3] (lv' := [(3, .int 0), (2, .int 0), (0, .ref g), (1, .int pl)]) rfl ?_
        exact lp31_730 (100001 - 0 + 1) 0 0 (show 0 ≤ 100000 by first | assumption | omega) (Nat.lt_succ_self _)
      · show J x (mflat [(g0, .inl (.inl (kA 1, M, .inl gtk))), (g1, .inr (kA 6, kA 1, M, 2, .inl gaf)), (g7, .inl (.inl (kA 2, 2, .inr (.inl fg7_6_726)))), (g, .inl (.inr (3, [.ref g0, .ref g1, .ref g2, .ref g3, .ref g4, .ref g5, .ref g6, .ref g7, .int (nI gn), .int (nI gtm), .int (nI gms)]))), (g2, .inr (kA 6, kA 1, M, 60, .inl gco)), (g3, .inr (kA 7, kA 2, 8, 61, .inr gwy)), (g4, .inl (.inl (kA 2, M, .inr (.inl q5155)))), (g5, .inl (.inl (kA 2, 2, .inr (.inl q5156)))), (g6, .inl (.inl (kA 2, 2, .inr (.inl fg6_6_726))))]) [(2, .int (nI v2_6_726)), (0, .ref g), (1, .int pl)] 0 0 11 []
        refine j_iload_n h 0 rfl rfl dX3_standingAt_11 ?_
        refine j_bipush (v := 60) h (by decide) dX3_standingAt_12 ?_
        refine j_icmp_ge h 27 dX3_standingAt_14 (by decide) (fun z5380 => ?_) (fun z5380 => ?_)
        · have z5380n : 60 ≤ v2_6_726 := (nI_leI (a := 60) (b := v2_6_726) (by omega) (by omega)).mp z5380
          refine j_iconst (v := 0) h (by decide) dX3_standingAt_27 ?_
          refine j_istore_n (lv' := [(2, .int 0), (0, .ref g), (1, .int pl)]) h dX3_standingAt_28 rfl (by decide) rfl ?_
          refine j_iconst (v := 0) h (by decide) dX3_standingAt_29 ?_
          refine j_istore_n (lv' := [(3, .int 0), (2, .int 0), (0, .ref g), (1, .int pl)]) h dX3_standingAt_30 rfl (by decide) rfl ?_
          have lp31_734 : ∀ (m31_734 : Nat), ∀ (v3_31_734 : Nat) (v2_31_734 : Int32), (v3_31_734 ≤ 100000) → 100001 - v3_31_734 < m31_734 → J x (mflat [(g0, .inl (.inl (kA 1, M, .inl gtk))), (g1, .inr (kA 6, kA 1, M, 2, .inl gaf)), (g7, .inl (.inl (kA 2, 2, .inr (.inl fg7_6_726)))), (g, .inl (.inr (3, [.ref g0, .ref g1, .ref g2, .ref g3, .ref g4, .ref g5, .ref g6, .ref g7, .int (nI gn), .int (nI gtm), .int (nI gms)]))), (g2, .inr (kA 6, kA 1, M, 60, .inl gco)), (g3, .inr (kA 7, kA 2, 8, 61, .inr gwy)), (g4, .inl (.inl (kA 2, M, .inr (.inl q5155)))), (g5, .inl (.inl (kA 2, 2, .inr (.inl q5156)))), (g6, .inl (.inl (kA 2, 2, .inr (.inl fg6_6_726))))]) [(3, .int (nI v3_31_734)), (2, .int v2_31_734), (0, .ref g), (1, .int pl)] 0 0 31 [] := by
            intro m31_734
            induction m31_734 with
            | zero =>
              intro v3_31_734 v2_31_734 i31_734_0 hm31_734
              exact absurd hm31_734 (Nat.not_lt_zero _)
            | succ m31_734 ih31_734 =>
              intro v3_31_734 v2_31_734 i31_734_0 hm31_734
              refine j_iload_n h 0 rfl rfl dX3_standingAt_31 ?_
              refine j_aload_n h 2 rfl rfl dX3_standingAt_32 ?_
              refine jm_get h iw_X3 3 rfl rfl 8 (by decide +kernel) tw_387 rfl dX3_standingAt_33 ?_
              refine j_icmp_ge h 69 dX3_standingAt_36 (by decide) (fun z5420 => ?_) (fun z5420 => ?_)
              · have z5420n : gn ≤ v3_31_734 := (nI_leI (a := gn) (b := v3_31_734) (by omega) (by omega)).mp z5420
                refine j_iload_n h 1 rfl rfl dX3_standingAt_69 ?_
                exact jm_iret h hq dX3_standingAt_70 (q5155, q5156, fg6_6_726, fg7_6_726) [3, 0, 1, 4, 5, 6, 7, 8, 2] rfl (by decide) trivial (Nat.le_of_ble_eq_true rfl) (Nat.le_of_ble_eq_true rfl)
              · have z5420n : ¬ gn ≤ v3_31_734 := fun q9 => z5420 ((nI_leI (a := gn) (b := v3_31_734) (by omega) (by omega)).mpr q9)
                refine j_aload_n h 2 rfl rfl dX3_standingAt_39 ?_
                refine j_iload_n h 0 rfl rfl dX3_standingAt_40 ?_
                refine j_iconst (v := 0) h (by decide) dX3_standingAt_41 ?_
                refine jm_callVi (np := 2) (isC := [3, 0, 1, 6, 7, 8]) (isR := [2, 4, 5]) (wc := [(g, .inl (.inr (3, [.ref g0, .ref g1, .ref g2, .ref g3, .ref g4, .ref g5, .ref g6, .ref g7, .int (nI gn), .int (nI gtm), .int (nI gms)]))), (g0, .inl (.inl (kA 1, M, .inl gtk))), (g1, .inr (kA 6, kA 1, M, 2, .inl gaf)), (g4, .inl (.inl (kA 2, M, .inr (.inl q5155)))), (g5, .inl (.inl (kA 2, 2, .inr (.inl q5156)))), (g6, .inl (.inl (kA 2, 2, .inr (.inl fg6_6_726))))]) (wr := [(g7, .inl (.inl (kA 2, 2, .inr (.inl fg7_6_726)))), (g2, .inr (kA 6, kA 1, M, 60, .inl gco)), (g3, .inr (kA 7, kA 2, 8, 61, .inr gwy))]) (rest := []) (As := [.int (nI v3_31_734), .int 0]) (q0 := 0) h (s_X3_isGoneOnFrom _ _ kA g v3_31_734 0 g0 g1 g2 g3 g4 g5 g6 g7 gn gtm gms M gtk gaf q5155 q5156 fg6_6_726 (show M ≤ 10 by first | assumption | omega) (show gn ≤ M by first | assumption | omega) (show gtm ≤ 60 by first | assumption | omega) (show LtOk gn gtk by first | assumption | omega) (show FtOk gn gaf by first | assumption | omega) (show v3_31_734 < gn by first | assumption | omega) (show 0 ≤ 1 by first | assumption | omega)) tw_1123 tw_1125 tw_37 tw_95 tw_1126 (by decide +kernel) rfl ⟨Nat.le_of_ble_eq_true rfl, Nat.le_of_ble_eq_true rfl⟩ rfl rfl (by decide +kernel) rfl rfl (by decide +kernel) (by decide +kernel) (Nat.le_of_ble_eq_true rfl) rfl ⟨Nat.le_of_ble_eq_true rfl, Nat.le_of_ble_eq_true rfl⟩ dX3_standingAt_42 ?_
                rintro r5423 q5421 e5422
                obtain ⟨p5424, p5425⟩ := e5422
                subst p5424
                replace p5425 : q5421 ≤ 1 := p5425
                show J x (mflat [(g7, .inl (.inl (kA 2, 2, .inr (.inl fg7_6_726)))), (g2, .inr (kA 6, kA 1, M, 60, .inl gco)), (g3, .inr (kA 7, kA 2, 8, 61, .inr gwy)), (g, .inl (.inr (3, [.ref g0, .ref g1, .ref g2, .ref g3, .ref g4, .ref g5, .ref g6, .ref g7, .int (nI gn), .int (nI gtm), .int (nI gms)]))), (g0, .inl (.inl (kA 1, M, .inl gtk))), (g1, .inr (kA 6, kA 1, M, 2, .inl gaf)), (g4, .inl (.inl (kA 2, M, .inr (.inl q5155)))), (g5, .inl (.inl (kA 2, 2, .inr (.inl q5156)))), (g6, .inl (.inl (kA 2, 2, .inr (.inl fg6_6_726))))]) [(3, .int (nI v3_31_734)), (2, .int v2_31_734), (0, .ref g), (1, .int pl)] 0 0 45 [.int (nI q5421)]
                refine j_if_ne h 57 dX3_standingAt_45 (by decide) (fun z5426 => ?_) (fun z5426 => ?_)
                · have z5426n : ¬ q5421 = 0 := fun q9 => z5426 ((nI_eq (a := q5421) (b := 0) (by omega) (by omega)).mpr q9)
                  refine j_iload_n h 1 rfl rfl dX3_standingAt_57 ?_
                  refine j_iconst (v := 1) h (by decide) dX3_standingAt_58 ?_
                  refine j_iload_n h 0 rfl rfl dX3_standingAt_59 ?_
                  refine j_ishl h dX3_standingAt_60 ?_
                  refine j_ior h dX3_standingAt_61 ?_
                  refine j_istore_n (lv' := [(2, .int (v2_31_734 ||| ((1 : Int32) <<< ((nI v3_31_734) &&& 31)))), (3, .int (nI v3_31_734)), (0, .ref g), (1, .int pl)]) h dX3_standingAt_62 rfl (by decide) rfl ?_
                  refine j_iinc (v := nI (v3_31_734 + 1)) (lv' := [(3, .int (nI (v3_31_734 + 1))), (2, .int (v2_31_734 ||| ((1 : Int32) <<< ((nI v3_31_734) &&& 31)))), (0, .ref g), (1, .int pl)]) h dX3_standingAt_63 1 rfl (nI_add v3_31_734 1) (by decide) rfl ?_
                  refine j_goto h 31 dX3_standingAt_66 (by decide) ?_
                  refine jm_sub [4, 5, 0, 3, 1, 2, 6, 7, 8] (w' := [(g0, .inl (.inl (kA 1, M, .inl gtk))), (g1, .inr (kA 6, kA 1, M, 2, .inl gaf)), (g7, .inl (.inl (kA 2, 2, .inr (.inl fg7_6_726)))), (g, .inl (.inr (3, [.ref g0, .ref g1, .ref g2, .ref g3, .ref g4, .ref g5, .ref g6, .ref g7, .int (nI gn), .int (nI gtm), .int (nI gms)]))), (g2, .inr (kA 6, kA 1, M, 60, .inl gco)), (g3, .inr (kA 7, kA 2, 8, 61, .inr gwy)), (g4, .inl (.inl (kA 2, M, .inr (.inl q5155)))), (g5, .inl (.inl (kA 2, 2, .inr (.inl q5156)))), (g6, .inl (.inl (kA 2, 2, .inr (.inl fg6_6_726))))]) rfl (by decide +kernel) [0, 1, 2, 3] (lv' := [(3, .int (nI (v3_31_734 + 1))), (2, .int (v2_31_734 ||| ((1 : Int32) <<< ((nI v3_31_734) &&& 31)))), (0, .ref g), (1, .int pl)]) rfl ?_
                  exact ih31_734 (v3_31_734 + 1) (v2_31_734 ||| ((1 : Int32) <<< ((nI v3_31_734) &&& 31))) (show (v3_31_734 + 1) ≤ 100000 by first | assumption | omega) (show 100001 - (v3_31_734 + 1) < m31_734 by first | exact Nat.lt_of_lt_of_le (Nat.sub_lt_sub_left (Nat.lt_of_le_of_lt (show v3_31_734 ≤ 100000 by assumption) (Nat.lt_succ_self 100000)) (Nat.lt_succ_self v3_31_734)) (Nat.le_of_lt_succ hm31_734) | omega)
                · have z5426n : q5421 = 0 := (nI_eq (a := q5421) (b := 0) (by omega) (by omega)).mp z5426
                  refine j_aload_n h 2 rfl rfl dX3_standingAt_48 ?_
                  refine j_iload_n h 0 rfl rfl dX3_standingAt_49 ?_
                  refine j_iconst (v := 1) h (by decide) dX3_standingAt_50 ?_
                  refine jm_callVi (np := 2) (isC := [3, 4, 5, 6, 7, 8]) (isR := [0, 1, 2]) (wc := [(g, .inl (.inr (3, [.ref g0, .ref g1, .ref g2, .ref g3, .ref g4, .ref g5, .ref g6, .ref g7, .int (nI gn), .int (nI gtm), .int (nI gms)]))), (g0, .inl (.inl (kA 1, M, .inl gtk))), (g1, .inr (kA 6, kA 1, M, 2, .inl gaf)), (g4, .inl (.inl (kA 2, M, .inr (.inl q5155)))), (g5, .inl (.inl (kA 2, 2, .inr (.inl q5156)))), (g6, .inl (.inl (kA 2, 2, .inr (.inl fg6_6_726))))]) (wr := [(g7, .inl (.inl (kA 2, 2, .inr (.inl fg7_6_726)))), (g2, .inr (kA 6, kA 1, M, 60, .inl gco)), (g3, .inr (kA 7, kA 2, 8, 61, .inr gwy))]) (rest := []) (As := [.int (nI v3_31_734), .int 1]) (q0 := 0) h (s_X3_isGoneOnFrom _ _ kA g v3_31_734 1 g0 g1 g2 g3 g4 g5 g6 g7 gn gtm gms M gtk gaf q5155 q5156 fg6_6_726 (show M ≤ 10 by first | assumption | omega) (show gn ≤ M by first | assumption | omega) (show gtm ≤ 60 by first | assumption | omega) (show LtOk gn gtk by first | assumption | omega) (show FtOk gn gaf by first | assumption | omega) (show v3_31_734 < gn by first | assumption | omega) (show 1 ≤ 1 by first | assumption | omega)) tw_1123 tw_1125 tw_37 tw_95 tw_1126 (by decide +kernel) rfl ⟨Nat.le_of_ble_eq_true rfl, Nat.le_of_ble_eq_true rfl⟩ rfl rfl (by decide +kernel) rfl rfl (by decide +kernel) (by decide +kernel) (Nat.le_of_ble_eq_true rfl) rfl ⟨Nat.le_of_ble_eq_true rfl, Nat.le_of_ble_eq_true rfl⟩ dX3_standingAt_51 ?_
                  rintro r5429 q5427 e5428
                  obtain ⟨p5430, p5431⟩ := e5428
                  subst p5430
                  replace p5431 : q5427 ≤ 1 := p5431
                  show J x (mflat [(g7, .inl (.inl (kA 2, 2, .inr (.inl fg7_6_726)))), (g2, .inr (kA 6, kA 1, M, 60, .inl gco)), (g3, .inr (kA 7, kA 2, 8, 61, .inr gwy)), (g, .inl (.inr (3, [.ref g0, .ref g1, .ref g2, .ref g3, .ref g4, .ref g5, .ref g6, .ref g7, .int (nI gn), .int (nI gtm), .int (nI gms)]))), (g0, .inl (.inl (kA 1, M, .inl gtk))), (g1, .inr (kA 6, kA 1, M, 2, .inl gaf)), (g4, .inl (.inl (kA 2, M, .inr (.inl q5155)))), (g5, .inl (.inl (kA 2, 2, .inr (.inl q5156)))), (g6, .inl (.inl (kA 2, 2, .inr (.inl fg6_6_726))))]) [(3, .int (nI v3_31_734)), (2, .int v2_31_734), (0, .ref g), (1, .int pl)] 0 0 54 [.int (nI q5427)]
                  refine j_if_eq h 63 dX3_standingAt_54 (by decide) (fun z5432 => ?_) (fun z5432 => ?_)
                  · have z5432n : q5427 = 0 := (nI_eq (a := q5427) (b := 0) (by omega) (by omega)).mp z5432
                    refine j_iinc (v := nI (v3_31_734 + 1)) (lv' := [(3, .int (nI (v3_31_734 + 1))), (2, .int v2_31_734), (0, .ref g), (1, .int pl)]) h dX3_standingAt_63 0 rfl (nI_add v3_31_734 1) (by decide) rfl ?_
                    refine j_goto h 31 dX3_standingAt_66 (by decide) ?_
                    refine jm_sub [4, 5, 0, 3, 1, 2, 6, 7, 8] (w' := [(g0, .inl (.inl (kA 1, M, .inl gtk))), (g1, .inr (kA 6, kA 1, M, 2, .inl gaf)), (g7, .inl (.inl (kA 2, 2, .inr (.inl fg7_6_726)))), (g, .inl (.inr (3, [.ref g0, .ref g1, .ref g2, .ref g3, .ref g4, .ref g5, .ref g6, .ref g7, .int (nI gn), .int (nI gtm), .int (nI gms)]))), (g2, .inr (kA 6, kA 1, M, 60, .inl gco)), (g3, .inr (kA 7, kA 2, 8, 61, .inr gwy)), (g4, .inl (.inl (kA 2, M, .inr (.inl q5155)))), (g5, .inl (.inl (kA 2, 2, .inr (.inl q5156)))), (g6, .inl (.inl (kA 2, 2, .inr (.inl fg6_6_726))))]) rfl (by decide +kernel) [0, 1, 2, 3] (lv' := [(3, .int (nI (v3_31_734 + 1))), (2, .int v2_31_734), (0, .ref g), (1, .int pl)]) rfl ?_
                    exact ih31_734 (v3_31_734 + 1) v2_31_734 (show (v3_31_734 + 1) ≤ 100000 by first | assumption | omega) (show 100001 - (v3_31_734 + 1) < m31_734 by first | exact Nat.lt_of_lt_of_le (Nat.sub_lt_sub_left (Nat.lt_of_le_of_lt (show v3_31_734 ≤ 100000 by assumption) (Nat.lt_succ_self 100000)) (Nat.lt_succ_self v3_31_734)) (Nat.le_of_lt_succ hm31_734) | omega)
                  · have z5432n : ¬ q5427 = 0 := fun q9 => z5432 ((nI_eq (a := q5427) (b := 0) (by omega) (by omega)).mpr q9)
                    refine j_iload_n h 1 rfl rfl dX3_standingAt_57 ?_
                    refine j_iconst (v := 1) h (by decide) dX3_standingAt_58 ?_
                    refine j_iload_n h 0 rfl rfl dX3_standingAt_59 ?_
                    refine j_ishl h dX3_standingAt_60 ?_
                    refine j_ior h dX3_standingAt_61 ?_
                    refine j_istore_n (lv' := [(2, .int (v2_31_734 ||| ((1 : Int32) <<< ((nI v3_31_734) &&& 31)))), (3, .int (nI v3_31_734)), (0, .ref g), (1, .int pl)]) h dX3_standingAt_62 rfl (by decide) rfl ?_
                    refine j_iinc (v := nI (v3_31_734 + 1)) (lv' := [(3, .int (nI (v3_31_734 + 1))), (2, .int (v2_31_734 ||| ((1 : Int32) <<< ((nI v3_31_734) &&& 31)))), (0, .ref g), (1, .int pl)]) h dX3_standingAt_63 1 rfl (nI_add v3_31_734 1) (by decide) rfl ?_
                    refine j_goto h 31 dX3_standingAt_66 (by decide) ?_
                    refine jm_sub [4, 5, 0, 3, 1, 2, 6, 7, 8] (w' := [(g0, .inl (.inl (kA 1, M, .inl gtk))), (g1, .inr (kA 6, kA 1, M, 2, .inl gaf)), (g7, .inl (.inl (kA 2, 2, .inr (.inl fg7_6_726)))), (g, .inl (.inr (3, [.ref g0, .ref g1, .ref g2, .ref g3, .ref g4, .ref g5, .ref g6, .ref g7, .int (nI gn), .int (nI gtm), .int (nI gms)]))), (g2, .inr (kA 6, kA 1, M, 60, .inl gco)), (g3, .inr (kA 7, kA 2, 8, 61, .inr gwy)), (g4, .inl (.inl (kA 2, M, .inr (.inl q5155)))), (g5, .inl (.inl (kA 2, 2, .inr (.inl q5156)))), (g6, .inl (.inl (kA 2, 2, .inr (.inl fg6_6_726))))]) rfl (by decide +kernel) [0, 1, 2, 3] (lv' := [(3, .int (nI (v3_31_734 + 1))), (2, .int (v2_31_734 ||| ((1 : Int32) <<< ((nI v3_31_734) &&& 31)))), (0, .ref g), (1, .int pl)]) rfl ?_
                    exact ih31_734 (v3_31_734 + 1) (v2_31_734 ||| ((1 : Int32) <<< ((nI v3_31_734) &&& 31))) (show (v3_31_734 + 1) ≤ 100000 by first | assumption | omega) (show 100001 - (v3_31_734 + 1) < m31_734 by first | exact Nat.lt_of_lt_of_le (Nat.sub_lt_sub_left (Nat.lt_of_le_of_lt (show v3_31_734 ≤ 100000 by assumption) (Nat.lt_succ_self 100000)) (Nat.lt_succ_self v3_31_734)) (Nat.le_of_lt_succ hm31_734) | omega)
          refine jm_sub [0, 1, 2, 3, 4, 5, 6, 7, 8] (w' := [(g0, .inl (.inl (kA 1, M, .inl gtk))), (g1, .inr (kA 6, kA 1, M, 2, .inl gaf)), (g7, .inl (.inl (kA 2, 2, .inr (.inl fg7_6_726)))), (g, .inl (.inr (3, [.ref g0, .ref g1, .ref g2, .ref g3, .ref g4, .ref g5, .ref g6, .ref g7, .int (nI gn), .int (nI gtm), .int (nI gms)]))), (g2, .inr (kA 6, kA 1, M, 60, .inl gco)), (g3, .inr (kA 7, kA 2, 8, 61, .inr gwy)), (g4, .inl (.inl (kA 2, M, .inr (.inl q5155)))), (g5, .inl (.inl (kA 2, 2, .inr (.inl q5156)))), (g6, .inl (.inl (kA 2, 2, .inr (.inl fg6_6_726))))]) rfl (by decide +kernel) [0, 1, 2, 3] (lv' := [(3, .int 0), (2, .int 0), (0, .ref g), (1, .int pl)]) rfl ?_
          exact lp31_734 (100001 - 0 + 1) 0 0 (show 0 ≤ 100000 by first | assumption | omega) (Nat.lt_succ_self _)
        · have z5380n : ¬ 60 ≤ v2_6_726 := fun q9 => z5380 ((nI_leI (a := 60) (b := v2_6_726) (by omega) (by omega)).mpr q9)
          refine j_aload_n h 1 rfl rfl dX3_standingAt_17 ?_
          refine jm_callVv (np := 0) (isC := [3, 0, 1, 6, 8, 2]) (isR := [4, 5, 7]) (wc := [(g, .inl (.inr (3, [.ref g0, .ref g1, .ref g2, .ref g3, .ref g4, .ref g5, .ref g6, .ref g7, .int (nI gn), .int (nI gtm), .int (nI gms)]))), (g0, .inl (.inl (kA 1, M, .inl gtk))), (g1, .inr (kA 6, kA 1, M, 2, .inl gaf)), (g4, .inl (.inl (kA 2, M, .inr (.inl q5155)))), (g6, .inl (.inl (kA 2, 2, .inr (.inl fg6_6_726)))), (g7, .inl (.inl (kA 2, 2, .inr (.inl fg7_6_726))))]) (wr := [(g2, .inr (kA 6, kA 1, M, 60, .inl gco)), (g3, .inr (kA 7, kA 2, 8, 61, .inr gwy)), (g5, .inl (.inl (kA 2, 2, .inr (.inl q5156))))]) (rest := []) (As := []) (q0 := 0) h (s_X3_reachNext _ _ kA g g0 g1 g2 g3 g4 g5 g6 g7 gn gtm gms M gtk gaf q5155 fg6_6_726 fg7_6_726 (show M ≤ 10 by first | assumption | omega) (show gn ≤ M by first | assumption | omega) (show gtm ≤ 60 by first | assumption | omega) (show LtOk gn gtk by first | assumption | omega) (show FtOk gn gaf by first | assumption | omega)) tw_1119 tw_1121 tw_36 tw_95 tw_1122 (by decide +kernel) rfl ⟨Nat.le_of_ble_eq_true rfl, Nat.le_of_ble_eq_true rfl⟩ rfl rfl (by decide +kernel) rfl rfl (by decide +kernel) (by decide +kernel) (Nat.le_of_ble_eq_true rfl) rfl ⟨Nat.le_of_ble_eq_true rfl, Nat.le_of_ble_eq_true rfl⟩ dX3_standingAt_18 ?_
          rintro ⟨q5433, q5434⟩ e5435
          show J x (mflat [(g2, .inr (kA 6, kA 1, M, 60, .inl gco)), (g3, .inr (kA 7, kA 2, 8, 61, .inr gwy)), (g5, .inl (.inl (kA 2, 2, .inr (.inl q5156)))), (g, .inl (.inr (3, [.ref g0, .ref g1, .ref g2, .ref g3, .ref g4, .ref g5, .ref g6, .ref g7, .int (nI gn), .int (nI gtm), .int (nI gms)]))), (g0, .inl (.inl (kA 1, M, .inl gtk))), (g1, .inr (kA 6, kA 1, M, 2, .inl gaf)), (g4, .inl (.inl (kA 2, M, .inr (.inl q5155)))), (g6, .inl (.inl (kA 2, 2, .inr (.inl q5433)))), (g7, .inl (.inl (kA 2, 2, .inr (.inl q5434))))]) [(2, .int (nI v2_6_726)), (0, .ref g), (1, .int pl)] 0 0 21 []
          refine j_iinc (v := nI (v2_6_726 + 1)) (lv' := [(2, .int (nI (v2_6_726 + 1))), (0, .ref g), (1, .int pl)]) h dX3_standingAt_21 0 rfl (nI_add v2_6_726 1) (by decide) rfl ?_
          refine j_goto h 6 dX3_standingAt_24 (by decide) ?_
          refine jm_sub [4, 5, 8, 3, 0, 1, 6, 2, 7] (w' := [(g0, .inl (.inl (kA 1, M, .inl gtk))), (g1, .inr (kA 6, kA 1, M, 2, .inl gaf)), (g7, .inl (.inl (kA 2, 2, .inr (.inl q5434)))), (g, .inl (.inr (3, [.ref g0, .ref g1, .ref g2, .ref g3, .ref g4, .ref g5, .ref g6, .ref g7, .int (nI gn), .int (nI gtm), .int (nI gms)]))), (g2, .inr (kA 6, kA 1, M, 60, .inl gco)), (g3, .inr (kA 7, kA 2, 8, 61, .inr gwy)), (g4, .inl (.inl (kA 2, M, .inr (.inl q5155)))), (g5, .inl (.inl (kA 2, 2, .inr (.inl q5156)))), (g6, .inl (.inl (kA 2, 2, .inr (.inl q5433))))]) rfl (by decide +kernel) [0, 1, 2] (lv' := [(2, .int (nI (v2_6_726 + 1))), (0, .ref g), (1, .int pl)]) rfl ?_
          exact ih6_726 (v2_6_726 + 1) q5434 q5433 (show (v2_6_726 + 1) ≤ 100000 by first | assumption | omega) (show 100001 - (v2_6_726 + 1) < m6_726 by first | exact Nat.lt_of_lt_of_le (Nat.sub_lt_sub_left (Nat.lt_of_le_of_lt (show v2_6_726 ≤ 100000 by assumption) (Nat.lt_succ_self 100000)) (Nat.lt_succ_self v2_6_726)) (Nat.le_of_lt_succ hm6_726) | omega)
  refine jm_sub [0, 1, 2, 3, 4, 5, 6, 7, 8] (w' := [(g0, .inl (.inl (kA 1, M, .inl gtk))), (g1, .inr (kA 6, kA 1, M, 2, .inl gaf)), (g7, .inl (.inl (kA 2, 2, .inr (.inl grn)))), (g, .inl (.inr (3, [.ref g0, .ref g1, .ref g2, .ref g3, .ref g4, .ref g5, .ref g6, .ref g7, .int (nI gn), .int (nI gtm), .int (nI gms)]))), (g2, .inr (kA 6, kA 1, M, 60, .inl gco)), (g3, .inr (kA 7, kA 2, 8, 61, .inr gwy)), (g4, .inl (.inl (kA 2, M, .inr (.inl q5155)))), (g5, .inl (.inl (kA 2, 2, .inr (.inl q5156)))), (g6, .inl (.inl (kA 2, 2, .inr (.inl q5157))))]) rfl (by decide +kernel) [0, 1, 2] (lv' := [(2, .int 0), (0, .ref g), (1, .int pl)]) rfl ?_
  exact lp6_726 (100001 - 0 + 1) 0 grn q5157 (show 0 ≤ 100000 by first | assumption | omega) (Nat.lt_succ_self _)
