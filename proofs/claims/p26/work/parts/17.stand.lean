theorem dX3_isGoneOnFrom_0 : decode cX3_isGoneOnFrom 0 = .ok (.aload_n 0, 1) := by decide +kernel
theorem dX3_isGoneOnFrom_1 : decode cX3_isGoneOnFrom 1 = .ok (.getfield 32, 3) := by decide +kernel
theorem dX3_isGoneOnFrom_4 : decode cX3_isGoneOnFrom 4 = .ok (.iload_n 1, 1) := by decide +kernel
theorem dX3_isGoneOnFrom_5 : decode cX3_isGoneOnFrom 5 = .ok (.aaload, 1) := by decide +kernel
theorem dX3_isGoneOnFrom_6 : decode cX3_isGoneOnFrom 6 = .ok (.iload_n 2, 1) := by decide +kernel
theorem dX3_isGoneOnFrom_7 : decode cX3_isGoneOnFrom 7 = .ok (.iaload, 1) := by decide +kernel
theorem dX3_isGoneOnFrom_8 : decode cX3_isGoneOnFrom 8 = .ok (.istore_n 3, 1) := by decide +kernel
theorem dX3_isGoneOnFrom_9 : decode cX3_isGoneOnFrom 9 = .ok (.iload_n 3, 1) := by decide +kernel
theorem dX3_isGoneOnFrom_10 : decode cX3_isGoneOnFrom 10 = .ok (.iconst (-1), 1) := by decide +kernel
theorem dX3_isGoneOnFrom_11 : decode cX3_isGoneOnFrom 11 = .ok (.if_icmp .ne 5, 3) := by decide +kernel
theorem dX3_isGoneOnFrom_14 : decode cX3_isGoneOnFrom 14 = .ok (.iconst 0, 1) := by decide +kernel
theorem dX3_isGoneOnFrom_15 : decode cX3_isGoneOnFrom 15 = .ok (.ireturn, 1) := by decide +kernel
theorem dX3_isGoneOnFrom_16 : decode cX3_isGoneOnFrom 16 = .ok (.aload_n 0, 1) := by decide +kernel
theorem dX3_isGoneOnFrom_17 : decode cX3_isGoneOnFrom 17 = .ok (.getfield 20, 3) := by decide +kernel
theorem tw_385 : Cond.fieldLink RX3 20 "LimpCode$Grid" "reached" "[J" ∈ TT := nx_mem 385 (by decide +kernel) (by decide +kernel)
theorem dX3_isGoneOnFrom_20 : decode cX3_isGoneOnFrom 20 = .ok (.iload_n 2, 1) := by decide +kernel
theorem dX3_isGoneOnFrom_21 : decode cX3_isGoneOnFrom 21 = .ok (.laload, 1) := by decide +kernel
theorem dX3_isGoneOnFrom_22 : decode cX3_isGoneOnFrom 22 = .ok (.aload_n 0, 1) := by decide +kernel
theorem dX3_isGoneOnFrom_23 : decode cX3_isGoneOnFrom 23 = .ok (.getfield 38, 3) := by decide +kernel
theorem tw_383 : Cond.fieldLink RX3 38 "LimpCode$Grid" "fits" "[J" ∈ TT := nx_mem 383 (by decide +kernel) (by decide +kernel)
theorem dX3_isGoneOnFrom_26 : decode cX3_isGoneOnFrom 26 = .ok (.iload_n 1, 1) := by decide +kernel
theorem dX3_isGoneOnFrom_27 : decode cX3_isGoneOnFrom 27 = .ok (.laload, 1) := by decide +kernel
theorem dX3_isGoneOnFrom_28 : decode cX3_isGoneOnFrom 28 = .ok (.land, 1) := by decide +kernel
theorem dX3_isGoneOnFrom_29 : decode cX3_isGoneOnFrom 29 = .ok (.aload_n 0, 1) := by decide +kernel
theorem dX3_isGoneOnFrom_30 : decode cX3_isGoneOnFrom 30 = .ok (.getfield 26, 3) := by decide +kernel
theorem dX3_isGoneOnFrom_33 : decode cX3_isGoneOnFrom 33 = .ok (.iload_n 1, 1) := by decide +kernel
theorem dX3_isGoneOnFrom_34 : decode cX3_isGoneOnFrom 34 = .ok (.iaload, 1) := by decide +kernel
theorem dX3_isGoneOnFrom_35 : decode cX3_isGoneOnFrom 35 = .ok (.lshl, 1) := by decide +kernel
theorem dX3_isGoneOnFrom_36 : decode cX3_isGoneOnFrom 36 = .ok (.aload_n 0, 1) := by decide +kernel
theorem dX3_isGoneOnFrom_37 : decode cX3_isGoneOnFrom 37 = .ok (.getfield 16, 3) := by decide +kernel
theorem tw_384 : Cond.fieldLink RX3 16 "LimpCode$Grid" "alive" "[J" ∈ TT := nx_mem 384 (by decide +kernel) (by decide +kernel)
theorem dX3_isGoneOnFrom_40 : decode cX3_isGoneOnFrom 40 = .ok (.iload_n 3, 1) := by decide +kernel
theorem dX3_isGoneOnFrom_41 : decode cX3_isGoneOnFrom 41 = .ok (.laload, 1) := by decide +kernel
theorem dX3_isGoneOnFrom_42 : decode cX3_isGoneOnFrom 42 = .ok (.land, 1) := by decide +kernel
theorem dX3_isGoneOnFrom_43 : decode cX3_isGoneOnFrom 43 = .ok (.lconst 0, 1) := by decide +kernel
theorem dX3_isGoneOnFrom_44 : decode cX3_isGoneOnFrom 44 = .ok (.lcmp, 1) := by decide +kernel
theorem dX3_isGoneOnFrom_45 : decode cX3_isGoneOnFrom 45 = .ok (.ifCond .eq 7, 3) := by decide +kernel
theorem dX3_isGoneOnFrom_52 : decode cX3_isGoneOnFrom 52 = .ok (.iconst 0, 1) := by decide +kernel
theorem dX3_isGoneOnFrom_53 : decode cX3_isGoneOnFrom 53 = .ok (.ireturn, 1) := by decide +kernel
theorem dX3_isGoneOnFrom_48 : decode cX3_isGoneOnFrom 48 = .ok (.iconst 1, 1) := by decide +kernel
theorem dX3_isGoneOnFrom_49 : decode cX3_isGoneOnFrom 49 = .ok (.goto 4, 3) := by decide +kernel
theorem dX3_reachNext_0 : decode cX3_reachNext 0 = .ok (.aload_n 0, 1) := by decide +kernel
theorem dX3_reachNext_1 : decode cX3_reachNext 1 = .ok (.getfield 23, 3) := by decide +kernel
theorem tw_386 : Cond.fieldLink RX3 23 "LimpCode$Grid" "reachedNext" "[J" ∈ TT := nx_mem 386 (by decide +kernel) (by decide +kernel)
theorem dX3_reachNext_4 : decode cX3_reachNext 4 = .ok (.iconst 0, 1) := by decide +kernel
theorem dX3_reachNext_5 : decode cX3_reachNext 5 = .ok (.lconst 0, 1) := by decide +kernel
theorem dX3_reachNext_6 : decode cX3_reachNext 6 = .ok (.lastore, 1) := by decide +kernel
theorem dX3_reachNext_7 : decode cX3_reachNext 7 = .ok (.aload_n 0, 1) := by decide +kernel
theorem dX3_reachNext_8 : decode cX3_reachNext 8 = .ok (.getfield 23, 3) := by decide +kernel
theorem dX3_reachNext_11 : decode cX3_reachNext 11 = .ok (.iconst 1, 1) := by decide +kernel
theorem dX3_reachNext_12 : decode cX3_reachNext 12 = .ok (.lconst 0, 1) := by decide +kernel
theorem dX3_reachNext_13 : decode cX3_reachNext 13 = .ok (.lastore, 1) := by decide +kernel
theorem dX3_reachNext_14 : decode cX3_reachNext 14 = .ok (.iconst 0, 1) := by decide +kernel
theorem dX3_reachNext_15 : decode cX3_reachNext 15 = .ok (.istore_n 1, 1) := by decide +kernel
theorem dX3_reachNext_16 : decode cX3_reachNext 16 = .ok (.iload_n 1, 1) := by decide +kernel
theorem dX3_reachNext_17 : decode cX3_reachNext 17 = .ok (.aload_n 0, 1) := by decide +kernel
theorem dX3_reachNext_18 : decode cX3_reachNext 18 = .ok (.getfield 45, 3) := by decide +kernel
theorem dX3_reachNext_21 : decode cX3_reachNext 21 = .ok (.if_icmp .ge 65, 3) := by decide +kernel
theorem dX3_reachNext_86 : decode cX3_reachNext 86 = .ok (.aload_n 0, 1) := by decide +kernel
theorem dX3_reachNext_87 : decode cX3_reachNext 87 = .ok (.getfield 20, 3) := by decide +kernel
theorem dX3_reachNext_90 : decode cX3_reachNext 90 = .ok (.iconst 0, 1) := by decide +kernel
theorem dX3_reachNext_91 : decode cX3_reachNext 91 = .ok (.aload_n 0, 1) := by decide +kernel
theorem dX3_reachNext_92 : decode cX3_reachNext 92 = .ok (.getfield 23, 3) := by decide +kernel
theorem dX3_reachNext_95 : decode cX3_reachNext 95 = .ok (.iconst 0, 1) := by decide +kernel
theorem dX3_reachNext_96 : decode cX3_reachNext 96 = .ok (.laload, 1) := by decide +kernel
theorem dX3_reachNext_97 : decode cX3_reachNext 97 = .ok (.lastore, 1) := by decide +kernel
theorem dX3_reachNext_98 : decode cX3_reachNext 98 = .ok (.aload_n 0, 1) := by decide +kernel
theorem dX3_reachNext_99 : decode cX3_reachNext 99 = .ok (.getfield 20, 3) := by decide +kernel
theorem dX3_reachNext_102 : decode cX3_reachNext 102 = .ok (.iconst 1, 1) := by decide +kernel
theorem dX3_reachNext_103 : decode cX3_reachNext 103 = .ok (.aload_n 0, 1) := by decide +kernel
theorem dX3_reachNext_104 : decode cX3_reachNext 104 = .ok (.getfield 23, 3) := by decide +kernel
theorem dX3_reachNext_107 : decode cX3_reachNext 107 = .ok (.iconst 1, 1) := by decide +kernel
theorem dX3_reachNext_108 : decode cX3_reachNext 108 = .ok (.laload, 1) := by decide +kernel
theorem dX3_reachNext_109 : decode cX3_reachNext 109 = .ok (.lastore, 1) := by decide +kernel
theorem dX3_reachNext_110 : decode cX3_reachNext 110 = .ok (.return_, 1) := by decide +kernel
theorem dX3_reachNext_24 : decode cX3_reachNext 24 = .ok (.iconst 0, 1) := by decide +kernel
theorem dX3_reachNext_25 : decode cX3_reachNext 25 = .ok (.istore_n 2, 1) := by decide +kernel
theorem dX3_reachNext_26 : decode cX3_reachNext 26 = .ok (.iload_n 2, 1) := by decide +kernel
theorem dX3_reachNext_27 : decode cX3_reachNext 27 = .ok (.iconst 1, 1) := by decide +kernel
theorem dX3_reachNext_28 : decode cX3_reachNext 28 = .ok (.if_icmp .gt 52, 3) := by decide +kernel
theorem dX3_reachNext_31 : decode cX3_reachNext 31 = .ok (.aload_n 0, 1) := by decide +kernel
theorem dX3_reachNext_32 : decode cX3_reachNext 32 = .ok (.getfield 32, 3) := by decide +kernel
theorem dX3_reachNext_35 : decode cX3_reachNext 35 = .ok (.iload_n 1, 1) := by decide +kernel
theorem dX3_reachNext_36 : decode cX3_reachNext 36 = .ok (.aaload, 1) := by decide +kernel
theorem dX3_reachNext_37 : decode cX3_reachNext 37 = .ok (.iload_n 2, 1) := by decide +kernel
theorem dX3_reachNext_38 : decode cX3_reachNext 38 = .ok (.iaload, 1) := by decide +kernel
theorem dX3_reachNext_39 : decode cX3_reachNext 39 = .ok (.istore_n 3, 1) := by decide +kernel
theorem dX3_reachNext_40 : decode cX3_reachNext 40 = .ok (.iload_n 3, 1) := by decide +kernel
theorem dX3_reachNext_41 : decode cX3_reachNext 41 = .ok (.iconst (-1), 1) := by decide +kernel
theorem dX3_reachNext_42 : decode cX3_reachNext 42 = .ok (.if_icmp .eq 32, 3) := by decide +kernel
theorem dX3_reachNext_74 : decode cX3_reachNext 74 = .ok (.iinc 2 1, 3) := by decide +kernel
theorem dX3_reachNext_77 : decode cX3_reachNext 77 = .ok (.goto (-51), 3) := by decide +kernel
theorem dX3_reachNext_45 : decode cX3_reachNext 45 = .ok (.aload_n 0, 1) := by decide +kernel
theorem dX3_reachNext_46 : decode cX3_reachNext 46 = .ok (.getfield 23, 3) := by decide +kernel
theorem dX3_reachNext_49 : decode cX3_reachNext 49 = .ok (.iload_n 3, 1) := by decide +kernel
theorem dX3_reachNext_50 : decode cX3_reachNext 50 = .ok (.dup2, 1) := by decide +kernel
theorem dX3_reachNext_51 : decode cX3_reachNext 51 = .ok (.laload, 1) := by decide +kernel
theorem dX3_reachNext_52 : decode cX3_reachNext 52 = .ok (.aload_n 0, 1) := by decide +kernel
theorem dX3_reachNext_53 : decode cX3_reachNext 53 = .ok (.getfield 20, 3) := by decide +kernel
theorem dX3_reachNext_56 : decode cX3_reachNext 56 = .ok (.iload_n 2, 1) := by decide +kernel
theorem dX3_reachNext_57 : decode cX3_reachNext 57 = .ok (.laload, 1) := by decide +kernel
theorem dX3_reachNext_58 : decode cX3_reachNext 58 = .ok (.aload_n 0, 1) := by decide +kernel
theorem dX3_reachNext_59 : decode cX3_reachNext 59 = .ok (.getfield 38, 3) := by decide +kernel
theorem dX3_reachNext_62 : decode cX3_reachNext 62 = .ok (.iload_n 1, 1) := by decide +kernel
theorem dX3_reachNext_63 : decode cX3_reachNext 63 = .ok (.laload, 1) := by decide +kernel
theorem dX3_reachNext_64 : decode cX3_reachNext 64 = .ok (.land, 1) := by decide +kernel
theorem dX3_reachNext_65 : decode cX3_reachNext 65 = .ok (.aload_n 0, 1) := by decide +kernel
theorem dX3_reachNext_66 : decode cX3_reachNext 66 = .ok (.getfield 26, 3) := by decide +kernel
theorem dX3_reachNext_69 : decode cX3_reachNext 69 = .ok (.iload_n 1, 1) := by decide +kernel
theorem dX3_reachNext_70 : decode cX3_reachNext 70 = .ok (.iaload, 1) := by decide +kernel
theorem dX3_reachNext_71 : decode cX3_reachNext 71 = .ok (.lshl, 1) := by decide +kernel
theorem dX3_reachNext_72 : decode cX3_reachNext 72 = .ok (.lor, 1) := by decide +kernel
theorem dX3_reachNext_73 : decode cX3_reachNext 73 = .ok (.lastore, 1) := by decide +kernel
theorem dX3_reachNext_80 : decode cX3_reachNext 80 = .ok (.iinc 1 1, 3) := by decide +kernel
theorem dX3_reachNext_83 : decode cX3_reachNext 83 = .ok (.goto (-67), 3) := by decide +kernel
theorem dX3_drawMasks_0 : decode cX3_drawMasks 0 = .ok (.iconst 0, 1) := by decide +kernel
theorem dX3_drawMasks_1 : decode cX3_drawMasks 1 = .ok (.istore_n 1, 1) := by decide +kernel
theorem dX3_drawMasks_2 : decode cX3_drawMasks 2 = .ok (.iload_n 1, 1) := by decide +kernel
theorem dX3_drawMasks_3 : decode cX3_drawMasks 3 = .ok (.aload_n 0, 1) := by decide +kernel
theorem dX3_drawMasks_4 : decode cX3_drawMasks 4 = .ok (.getfield 45, 3) := by decide +kernel
theorem dX3_drawMasks_7 : decode cX3_drawMasks 7 = .ok (.if_icmp .ge 59, 3) := by decide +kernel
theorem dX3_drawMasks_66 : decode cX3_drawMasks 66 = .ok (.iconst 0, 1) := by decide +kernel
theorem dX3_drawMasks_67 : decode cX3_drawMasks 67 = .ok (.istore_n 1, 1) := by decide +kernel
theorem dX3_drawMasks_68 : decode cX3_drawMasks 68 = .ok (.iload_n 1, 1) := by decide +kernel
theorem dX3_drawMasks_69 : decode cX3_drawMasks 69 = .ok (.iconst 1, 1) := by decide +kernel
theorem dX3_drawMasks_70 : decode cX3_drawMasks 70 = .ok (.if_icmp .gt 61, 3) := by decide +kernel
theorem dX3_drawMasks_73 : decode cX3_drawMasks 73 = .ok (.aload_n 0, 1) := by decide +kernel
theorem dX3_drawMasks_74 : decode cX3_drawMasks 74 = .ok (.getfield 16, 3) := by decide +kernel
theorem dX3_drawMasks_77 : decode cX3_drawMasks 77 = .ok (.iload_n 1, 1) := by decide +kernel
theorem dX3_drawMasks_78 : decode cX3_drawMasks 78 = .ok (.lconst 0, 1) := by decide +kernel
theorem dX3_drawMasks_79 : decode cX3_drawMasks 79 = .ok (.lastore, 1) := by decide +kernel
theorem dX3_drawMasks_80 : decode cX3_drawMasks 80 = .ok (.iconst 0, 1) := by decide +kernel
theorem dX3_drawMasks_81 : decode cX3_drawMasks 81 = .ok (.istore_n 2, 1) := by decide +kernel
theorem dX3_drawMasks_82 : decode cX3_drawMasks 82 = .ok (.iload_n 2, 1) := by decide +kernel
theorem dX3_drawMasks_83 : decode cX3_drawMasks 83 = .ok (.aload_n 0, 1) := by decide +kernel
theorem dX3_drawMasks_84 : decode cX3_drawMasks 84 = .ok (.getfield 92, 3) := by decide +kernel
theorem dX3_drawMasks_87 : decode cX3_drawMasks 87 = .ok (.if_icmp .gt 38, 3) := by decide +kernel
theorem dX3_drawMasks_125 : decode cX3_drawMasks 125 = .ok (.iinc 1 1, 3) := by decide +kernel
theorem dX3_drawMasks_128 : decode cX3_drawMasks 128 = .ok (.goto (-60), 3) := by decide +kernel
theorem dX3_drawMasks_90 : decode cX3_drawMasks 90 = .ok (.aload_n 0, 1) := by decide +kernel
theorem dX3_drawMasks_91 : decode cX3_drawMasks 91 = .ok (.getfield 16, 3) := by decide +kernel
theorem dX3_drawMasks_94 : decode cX3_drawMasks 94 = .ok (.iload_n 1, 1) := by decide +kernel
theorem dX3_drawMasks_95 : decode cX3_drawMasks 95 = .ok (.dup2, 1) := by decide +kernel
theorem dX3_drawMasks_96 : decode cX3_drawMasks 96 = .ok (.laload, 1) := by decide +kernel
theorem dX3_drawMasks_97 : decode cX3_drawMasks 97 = .ok (.aload_n 0, 1) := by decide +kernel
theorem dX3_drawMasks_98 : decode cX3_drawMasks 98 = .ok (.getfield 11, 3) := by decide +kernel
theorem dX3_drawMasks_101 : decode cX3_drawMasks 101 = .ok (.iload_n 1, 1) := by decide +kernel
theorem dX3_drawMasks_102 : decode cX3_drawMasks 102 = .ok (.aaload, 1) := by decide +kernel
theorem dX3_drawMasks_103 : decode cX3_drawMasks 103 = .ok (.iload_n 2, 1) := by decide +kernel
theorem dX3_drawMasks_104 : decode cX3_drawMasks 104 = .ok (.laload, 1) := by decide +kernel
theorem dX3_drawMasks_105 : decode cX3_drawMasks 105 = .ok (.lconst 0, 1) := by decide +kernel
theorem dX3_drawMasks_106 : decode cX3_drawMasks 106 = .ok (.lcmp, 1) := by decide +kernel
theorem dX3_drawMasks_107 : decode cX3_drawMasks 107 = .ok (.ifCond .le 9, 3) := by decide +kernel
theorem dX3_drawMasks_116 : decode cX3_drawMasks 116 = .ok (.lconst 0, 1) := by decide +kernel
theorem dX3_drawMasks_117 : decode cX3_drawMasks 117 = .ok (.lor, 1) := by decide +kernel
theorem dX3_drawMasks_118 : decode cX3_drawMasks 118 = .ok (.lastore, 1) := by decide +kernel
theorem dX3_drawMasks_119 : decode cX3_drawMasks 119 = .ok (.iinc 2 1, 3) := by decide +kernel
theorem dX3_drawMasks_122 : decode cX3_drawMasks 122 = .ok (.goto (-40), 3) := by decide +kernel
theorem dX3_drawMasks_110 : decode cX3_drawMasks 110 = .ok (.lconst 1, 1) := by decide +kernel
theorem dX3_drawMasks_111 : decode cX3_drawMasks 111 = .ok (.iload_n 2, 1) := by decide +kernel
theorem dX3_drawMasks_112 : decode cX3_drawMasks 112 = .ok (.lshl, 1) := by decide +kernel
theorem dX3_drawMasks_113 : decode cX3_drawMasks 113 = .ok (.goto 4, 3) := by decide +kernel
theorem dX3_drawMasks_131 : decode cX3_drawMasks 131 = .ok (.aload_n 0, 1) := by decide +kernel
theorem dX3_drawMasks_132 : decode cX3_drawMasks 132 = .ok (.getfield 20, 3) := by decide +kernel
theorem dX3_drawMasks_135 : decode cX3_drawMasks 135 = .ok (.iconst 0, 1) := by decide +kernel
theorem dX3_drawMasks_136 : decode cX3_drawMasks 136 = .ok (.lconst 1, 1) := by decide +kernel
theorem dX3_drawMasks_137 : decode cX3_drawMasks 137 = .ok (.lastore, 1) := by decide +kernel
theorem dX3_drawMasks_138 : decode cX3_drawMasks 138 = .ok (.aload_n 0, 1) := by decide +kernel
theorem dX3_drawMasks_139 : decode cX3_drawMasks 139 = .ok (.getfield 20, 3) := by decide +kernel
theorem dX3_drawMasks_142 : decode cX3_drawMasks 142 = .ok (.iconst 1, 1) := by decide +kernel
theorem dX3_drawMasks_143 : decode cX3_drawMasks 143 = .ok (.lconst 0, 1) := by decide +kernel
theorem dX3_drawMasks_144 : decode cX3_drawMasks 144 = .ok (.lastore, 1) := by decide +kernel
theorem dX3_drawMasks_145 : decode cX3_drawMasks 145 = .ok (.return_, 1) := by decide +kernel
theorem dX3_drawMasks_10 : decode cX3_drawMasks 10 = .ok (.aload_n 0, 1) := by decide +kernel
theorem dX3_drawMasks_11 : decode cX3_drawMasks 11 = .ok (.getfield 38, 3) := by decide +kernel
theorem dX3_drawMasks_14 : decode cX3_drawMasks 14 = .ok (.iload_n 1, 1) := by decide +kernel
theorem dX3_drawMasks_15 : decode cX3_drawMasks 15 = .ok (.lconst 0, 1) := by decide +kernel
theorem dX3_drawMasks_16 : decode cX3_drawMasks 16 = .ok (.lastore, 1) := by decide +kernel
theorem dX3_drawMasks_17 : decode cX3_drawMasks 17 = .ok (.iconst 0, 1) := by decide +kernel
theorem dX3_drawMasks_18 : decode cX3_drawMasks 18 = .ok (.istore_n 2, 1) := by decide +kernel
theorem dX3_drawMasks_19 : decode cX3_drawMasks 19 = .ok (.iload_n 2, 1) := by decide +kernel
theorem dX3_drawMasks_20 : decode cX3_drawMasks 20 = .ok (.aload_n 0, 1) := by decide +kernel
theorem dX3_drawMasks_21 : decode cX3_drawMasks 21 = .ok (.getfield 92, 3) := by decide +kernel
theorem dX3_drawMasks_24 : decode cX3_drawMasks 24 = .ok (.if_icmp .ge 36, 3) := by decide +kernel
theorem dX3_drawMasks_60 : decode cX3_drawMasks 60 = .ok (.iinc 1 1, 3) := by decide +kernel
theorem dX3_drawMasks_63 : decode cX3_drawMasks 63 = .ok (.goto (-61), 3) := by decide +kernel
theorem dX3_drawMasks_27 : decode cX3_drawMasks 27 = .ok (.aload_n 0, 1) := by decide +kernel
theorem dX3_drawMasks_28 : decode cX3_drawMasks 28 = .ok (.getfield 38, 3) := by decide +kernel
theorem dX3_drawMasks_31 : decode cX3_drawMasks 31 = .ok (.iload_n 1, 1) := by decide +kernel
theorem dX3_drawMasks_32 : decode cX3_drawMasks 32 = .ok (.dup2, 1) := by decide +kernel
theorem dX3_drawMasks_33 : decode cX3_drawMasks 33 = .ok (.laload, 1) := by decide +kernel
theorem dX3_drawMasks_34 : decode cX3_drawMasks 34 = .ok (.aload_n 0, 1) := by decide +kernel
theorem dX3_drawMasks_35 : decode cX3_drawMasks 35 = .ok (.getfield 35, 3) := by decide +kernel
theorem dX3_drawMasks_38 : decode cX3_drawMasks 38 = .ok (.iload_n 1, 1) := by decide +kernel
theorem dX3_drawMasks_39 : decode cX3_drawMasks 39 = .ok (.aaload, 1) := by decide +kernel
theorem dX3_drawMasks_40 : decode cX3_drawMasks 40 = .ok (.iload_n 2, 1) := by decide +kernel
theorem dX3_drawMasks_41 : decode cX3_drawMasks 41 = .ok (.iaload, 1) := by decide +kernel
theorem dX3_drawMasks_42 : decode cX3_drawMasks 42 = .ok (.ifCond .ne 9, 3) := by decide +kernel
theorem dX3_drawMasks_51 : decode cX3_drawMasks 51 = .ok (.lconst 0, 1) := by decide +kernel
theorem dX3_drawMasks_52 : decode cX3_drawMasks 52 = .ok (.lor, 1) := by decide +kernel
theorem dX3_drawMasks_53 : decode cX3_drawMasks 53 = .ok (.lastore, 1) := by decide +kernel
theorem dX3_drawMasks_54 : decode cX3_drawMasks 54 = .ok (.iinc 2 1, 3) := by decide +kernel
theorem dX3_drawMasks_57 : decode cX3_drawMasks 57 = .ok (.goto (-38), 3) := by decide +kernel
theorem dX3_drawMasks_45 : decode cX3_drawMasks 45 = .ok (.lconst 1, 1) := by decide +kernel
theorem dX3_drawMasks_46 : decode cX3_drawMasks 46 = .ok (.iload_n 2, 1) := by decide +kernel
theorem dX3_drawMasks_47 : decode cX3_drawMasks 47 = .ok (.lshl, 1) := by decide +kernel
theorem dX3_drawMasks_48 : decode cX3_drawMasks 48 = .ok (.goto 4, 3) := by decide +kernel
theorem dX3_standingAt_0 : decode cX3_standingAt 0 = .ok (.aload_n 0, 1) := by decide +kernel
theorem dX3_standingAt_1 : decode cX3_standingAt 1 = .ok (.invokevirtual 118, 3) := by decide +kernel
theorem tw_1115 : Cond.methodLink RX3 118 yX3_drawMasks ∈ TT := nx_mem 1115 (by decide +kernel) (by decide +kernel)
theorem tw_1117 : Cond.instanceMethod yX3_drawMasks ∈ TT := nx_mem 1117 (by decide +kernel) (by decide +kernel)
theorem tw_35 : Cond.selects RX3 yX3_drawMasks yX3_drawMasks ∈ TT := nx_mem 35 (by decide +kernel) (by decide +kernel)
theorem tw_1118 : Cond.code yX3_drawMasks cX3_drawMasks 3 none ∈ TT := nx_mem 1118 (by decide +kernel) (by decide +kernel)
theorem dX3_standingAt_4 : decode cX3_standingAt 4 = .ok (.iconst 0, 1) := by decide +kernel
theorem dX3_standingAt_5 : decode cX3_standingAt 5 = .ok (.istore_n 2, 1) := by decide +kernel
theorem dX3_standingAt_6 : decode cX3_standingAt 6 = .ok (.iload_n 2, 1) := by decide +kernel
theorem dX3_standingAt_7 : decode cX3_standingAt 7 = .ok (.iload_n 1, 1) := by decide +kernel
theorem dX3_standingAt_8 : decode cX3_standingAt 8 = .ok (.if_icmp .ge 19, 3) := by decide +kernel
theorem dX3_standingAt_27 : decode cX3_standingAt 27 = .ok (.iconst 0, 1) := by decide +kernel
theorem dX3_standingAt_28 : decode cX3_standingAt 28 = .ok (.istore_n 2, 1) := by decide +kernel
theorem dX3_standingAt_29 : decode cX3_standingAt 29 = .ok (.iconst 0, 1) := by decide +kernel
theorem dX3_standingAt_30 : decode cX3_standingAt 30 = .ok (.istore_n 3, 1) := by decide +kernel
theorem dX3_standingAt_31 : decode cX3_standingAt 31 = .ok (.iload_n 3, 1) := by decide +kernel
theorem dX3_standingAt_32 : decode cX3_standingAt 32 = .ok (.aload_n 0, 1) := by decide +kernel
theorem dX3_standingAt_33 : decode cX3_standingAt 33 = .ok (.getfield 45, 3) := by decide +kernel
theorem dX3_standingAt_36 : decode cX3_standingAt 36 = .ok (.if_icmp .ge 33, 3) := by decide +kernel
theorem dX3_standingAt_69 : decode cX3_standingAt 69 = .ok (.iload_n 2, 1) := by decide +kernel
theorem dX3_standingAt_70 : decode cX3_standingAt 70 = .ok (.ireturn, 1) := by decide +kernel
theorem dX3_standingAt_39 : decode cX3_standingAt 39 = .ok (.aload_n 0, 1) := by decide +kernel
theorem dX3_standingAt_40 : decode cX3_standingAt 40 = .ok (.iload_n 3, 1) := by decide +kernel
theorem dX3_standingAt_41 : decode cX3_standingAt 41 = .ok (.iconst 0, 1) := by decide +kernel
theorem dX3_standingAt_42 : decode cX3_standingAt 42 = .ok (.invokevirtual 124, 3) := by decide +kernel
theorem tw_1123 : Cond.methodLink RX3 124 yX3_isGoneOnFrom ∈ TT := nx_mem 1123 (by decide +kernel) (by decide +kernel)
theorem tw_1125 : Cond.instanceMethod yX3_isGoneOnFrom ∈ TT := nx_mem 1125 (by decide +kernel) (by decide +kernel)
theorem tw_37 : Cond.selects RX3 yX3_isGoneOnFrom yX3_isGoneOnFrom ∈ TT := nx_mem 37 (by decide +kernel) (by decide +kernel)
theorem tw_1126 : Cond.code yX3_isGoneOnFrom cX3_isGoneOnFrom 4 (some .boolean) ∈ TT := nx_mem 1126 (by decide +kernel) (by decide +kernel)
theorem dX3_standingAt_45 : decode cX3_standingAt 45 = .ok (.ifCond .ne 12, 3) := by decide +kernel
theorem dX3_standingAt_57 : decode cX3_standingAt 57 = .ok (.iload_n 2, 1) := by decide +kernel
theorem dX3_standingAt_58 : decode cX3_standingAt 58 = .ok (.iconst 1, 1) := by decide +kernel
theorem dX3_standingAt_59 : decode cX3_standingAt 59 = .ok (.iload_n 3, 1) := by decide +kernel
theorem dX3_standingAt_60 : decode cX3_standingAt 60 = .ok (.ishl, 1) := by decide +kernel
theorem dX3_standingAt_61 : decode cX3_standingAt 61 = .ok (.ior, 1) := by decide +kernel
theorem dX3_standingAt_62 : decode cX3_standingAt 62 = .ok (.istore_n 2, 1) := by decide +kernel
theorem dX3_standingAt_63 : decode cX3_standingAt 63 = .ok (.iinc 3 1, 3) := by decide +kernel
theorem dX3_standingAt_66 : decode cX3_standingAt 66 = .ok (.goto (-35), 3) := by decide +kernel
theorem dX3_standingAt_48 : decode cX3_standingAt 48 = .ok (.aload_n 0, 1) := by decide +kernel
theorem dX3_standingAt_49 : decode cX3_standingAt 49 = .ok (.iload_n 3, 1) := by decide +kernel
theorem dX3_standingAt_50 : decode cX3_standingAt 50 = .ok (.iconst 1, 1) := by decide +kernel
theorem dX3_standingAt_51 : decode cX3_standingAt 51 = .ok (.invokevirtual 124, 3) := by decide +kernel
theorem dX3_standingAt_54 : decode cX3_standingAt 54 = .ok (.ifCond .eq 9, 3) := by decide +kernel
theorem dX3_standingAt_11 : decode cX3_standingAt 11 = .ok (.iload_n 2, 1) := by decide +kernel
theorem dX3_standingAt_12 : decode cX3_standingAt 12 = .ok (.bipush 60, 2) := by decide +kernel
theorem dX3_standingAt_14 : decode cX3_standingAt 14 = .ok (.if_icmp .ge 13, 3) := by decide +kernel
theorem dX3_standingAt_17 : decode cX3_standingAt 17 = .ok (.aload_n 0, 1) := by decide +kernel
theorem dX3_standingAt_18 : decode cX3_standingAt 18 = .ok (.invokevirtual 121, 3) := by decide +kernel
theorem tw_1119 : Cond.methodLink RX3 121 yX3_reachNext ∈ TT := nx_mem 1119 (by decide +kernel) (by decide +kernel)
theorem tw_1121 : Cond.instanceMethod yX3_reachNext ∈ TT := nx_mem 1121 (by decide +kernel) (by decide +kernel)
theorem tw_36 : Cond.selects RX3 yX3_reachNext yX3_reachNext ∈ TT := nx_mem 36 (by decide +kernel) (by decide +kernel)
theorem tw_1122 : Cond.code yX3_reachNext cX3_reachNext 4 none ∈ TT := nx_mem 1122 (by decide +kernel) (by decide +kernel)
theorem dX3_standingAt_21 : decode cX3_standingAt 21 = .ok (.iinc 2 1, 3) := by decide +kernel
theorem dX3_standingAt_24 : decode cX3_standingAt 24 = .ok (.goto (-18), 3) := by decide +kernel
