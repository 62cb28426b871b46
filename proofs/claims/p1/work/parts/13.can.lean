theorem dX3_reachNext_0 : decode cX3_reachNext 0 = .ok (.aload_n 0, 1) := by decide +kernel
theorem dX3_reachNext_1 : decode cX3_reachNext 1 = .ok (.getfield 23, 3) := by decide +kernel
theorem dX3_reachNext_4 : decode cX3_reachNext 4 = .ok (.iconst 0, 1) := by decide +kernel
theorem dX3_reachNext_5 : decode cX3_reachNext 5 = .ok (.lconst 0, 1) := by decide +kernel
theorem dX3_reachNext_6 : decode cX3_reachNext 6 = .ok (.lastore, 1) := by decide +kernel
theorem dX3_reachNext_7 : decode cX3_reachNext 7 = .ok (.aload_n 0, 1) := by decide +kernel
theorem dX3_reachNext_8 : decode cX3_reachNext 8 = .ok (.getfield 23, 3) := by decide +kernel
theorem dX3_reachNext_11 : decode cX3_reachNext 11 = .ok (.iconst 1, 1) := by decide +kernel
theorem dX3_reachNext_12 : decode cX3_reachNext 12 = .ok (.lconst 0, 1) := by decide +kernel
theorem dX3_reachNext_13 : decode cX3_reachNext 13 = .ok (.lastore, 1) := by decide +kernel
theorem dX3_reachNext_14 : decode cX3_reachNext 14 = .ok (.iconst 0, 1) := by decide +kernel
theorem dX3_reachNext_15 : decode cX3_reachNext 15 = .ok (.istore_n 1, 1) := by decide +kernel
theorem dX3_reachNext_16 : decode cX3_reachNext 16 = .ok (.iload_n 1, 1) := by decide +kernel
theorem dX3_reachNext_17 : decode cX3_reachNext 17 = .ok (.aload_n 0, 1) := by decide +kernel
theorem dX3_reachNext_18 : decode cX3_reachNext 18 = .ok (.getfield 45, 3) := by decide +kernel
theorem dX3_reachNext_21 : decode cX3_reachNext 21 = .ok (.if_icmp .ge 65, 3) := by decide +kernel
theorem dX3_reachNext_86 : decode cX3_reachNext 86 = .ok (.aload_n 0, 1) := by decide +kernel
theorem dX3_reachNext_87 : decode cX3_reachNext 87 = .ok (.getfield 20, 3) := by decide +kernel
theorem dX3_reachNext_90 : decode cX3_reachNext 90 = .ok (.iconst 0, 1) := by decide +kernel
theorem dX3_reachNext_91 : decode cX3_reachNext 91 = .ok (.aload_n 0, 1) := by decide +kernel
theorem dX3_reachNext_92 : decode cX3_reachNext 92 = .ok (.getfield 23, 3) := by decide +kernel
theorem dX3_reachNext_95 : decode cX3_reachNext 95 = .ok (.iconst 0, 1) := by decide +kernel
theorem dX3_reachNext_96 : decode cX3_reachNext 96 = .ok (.laload, 1) := by decide +kernel
theorem dX3_reachNext_97 : decode cX3_reachNext 97 = .ok (.lastore, 1) := by decide +kernel
theorem dX3_reachNext_98 : decode cX3_reachNext 98 = .ok (.aload_n 0, 1) := by decide +kernel
theorem dX3_reachNext_99 : decode cX3_reachNext 99 = .ok (.getfield 20, 3) := by decide +kernel
theorem dX3_reachNext_102 : decode cX3_reachNext 102 = .ok (.iconst 1, 1) := by decide +kernel
theorem dX3_reachNext_103 : decode cX3_reachNext 103 = .ok (.aload_n 0, 1) := by decide +kernel
theorem dX3_reachNext_104 : decode cX3_reachNext 104 = .ok (.getfield 23, 3) := by decide +kernel
theorem dX3_reachNext_107 : decode cX3_reachNext 107 = .ok (.iconst 1, 1) := by decide +kernel
theorem dX3_reachNext_108 : decode cX3_reachNext 108 = .ok (.laload, 1) := by decide +kernel
theorem dX3_reachNext_109 : decode cX3_reachNext 109 = .ok (.lastore, 1) := by decide +kernel
theorem dX3_reachNext_110 : decode cX3_reachNext 110 = .ok (.return_, 1) := by decide +kernel
theorem dX3_drawMasks_0 : decode cX3_drawMasks 0 = .ok (.iconst 0, 1) := by decide +kernel
theorem dX3_drawMasks_1 : decode cX3_drawMasks 1 = .ok (.istore_n 1, 1) := by decide +kernel
theorem dX3_drawMasks_2 : decode cX3_drawMasks 2 = .ok (.iload_n 1, 1) := by decide +kernel
theorem dX3_drawMasks_3 : decode cX3_drawMasks 3 = .ok (.aload_n 0, 1) := by decide +kernel
theorem dX3_drawMasks_4 : decode cX3_drawMasks 4 = .ok (.getfield 45, 3) := by decide +kernel
theorem dX3_drawMasks_7 : decode cX3_drawMasks 7 = .ok (.if_icmp .ge 59, 3) := by decide +kernel
theorem dX3_drawMasks_66 : decode cX3_drawMasks 66 = .ok (.iconst 0, 1) := by decide +kernel
theorem dX3_drawMasks_67 : decode cX3_drawMasks 67 = .ok (.istore_n 1, 1) := by decide +kernel
theorem dX3_drawMasks_68 : decode cX3_drawMasks 68 = .ok (.iload_n 1, 1) := by decide +kernel
theorem dX3_drawMasks_69 : decode cX3_drawMasks 69 = .ok (.iconst 1, 1) := by decide +kernel
theorem dX3_drawMasks_70 : decode cX3_drawMasks 70 = .ok (.if_icmp .gt 61, 3) := by decide +kernel
theorem dX3_drawMasks_73 : decode cX3_drawMasks 73 = .ok (.aload_n 0, 1) := by decide +kernel
theorem dX3_drawMasks_74 : decode cX3_drawMasks 74 = .ok (.getfield 16, 3) := by decide +kernel
theorem dX3_drawMasks_77 : decode cX3_drawMasks 77 = .ok (.iload_n 1, 1) := by decide +kernel
theorem dX3_drawMasks_78 : decode cX3_drawMasks 78 = .ok (.lconst 0, 1) := by decide +kernel
theorem dX3_drawMasks_79 : decode cX3_drawMasks 79 = .ok (.lastore, 1) := by decide +kernel
theorem dX3_drawMasks_80 : decode cX3_drawMasks 80 = .ok (.iconst 0, 1) := by decide +kernel
theorem dX3_drawMasks_81 : decode cX3_drawMasks 81 = .ok (.istore_n 2, 1) := by decide +kernel
theorem dX3_drawMasks_82 : decode cX3_drawMasks 82 = .ok (.iload_n 2, 1) := by decide +kernel
theorem dX3_drawMasks_83 : decode cX3_drawMasks 83 = .ok (.aload_n 0, 1) := by decide +kernel
theorem dX3_drawMasks_84 : decode cX3_drawMasks 84 = .ok (.getfield 92, 3) := by decide +kernel
theorem dX3_drawMasks_87 : decode cX3_drawMasks 87 = .ok (.if_icmp .gt 38, 3) := by decide +kernel
theorem dX3_drawMasks_125 : decode cX3_drawMasks 125 = .ok (.iinc 1 1, 3) := by decide +kernel
theorem dX3_drawMasks_128 : decode cX3_drawMasks 128 = .ok (.goto (-60), 3) := by decide +kernel
theorem dX3_drawMasks_131 : decode cX3_drawMasks 131 = .ok (.aload_n 0, 1) := by decide +kernel
theorem dX3_drawMasks_132 : decode cX3_drawMasks 132 = .ok (.getfield 20, 3) := by decide +kernel
theorem dX3_drawMasks_135 : decode cX3_drawMasks 135 = .ok (.iconst 0, 1) := by decide +kernel
theorem dX3_drawMasks_136 : decode cX3_drawMasks 136 = .ok (.lconst 1, 1) := by decide +kernel
theorem dX3_drawMasks_137 : decode cX3_drawMasks 137 = .ok (.lastore, 1) := by decide +kernel
theorem dX3_drawMasks_138 : decode cX3_drawMasks 138 = .ok (.aload_n 0, 1) := by decide +kernel
theorem dX3_drawMasks_139 : decode cX3_drawMasks 139 = .ok (.getfield 20, 3) := by decide +kernel
theorem dX3_drawMasks_142 : decode cX3_drawMasks 142 = .ok (.iconst 1, 1) := by decide +kernel
theorem dX3_drawMasks_143 : decode cX3_drawMasks 143 = .ok (.lconst 0, 1) := by decide +kernel
theorem dX3_drawMasks_144 : decode cX3_drawMasks 144 = .ok (.lastore, 1) := by decide +kernel
theorem dX3_drawMasks_145 : decode cX3_drawMasks 145 = .ok (.return_, 1) := by decide +kernel
theorem dX3_drawMasks_90 : decode cX3_drawMasks 90 = .ok (.aload_n 0, 1) := by decide +kernel
theorem dX3_drawMasks_91 : decode cX3_drawMasks 91 = .ok (.getfield 16, 3) := by decide +kernel
theorem dX3_drawMasks_94 : decode cX3_drawMasks 94 = .ok (.iload_n 1, 1) := by decide +kernel
theorem dX3_drawMasks_95 : decode cX3_drawMasks 95 = .ok (.dup2, 1) := by decide +kernel
theorem dX3_drawMasks_96 : decode cX3_drawMasks 96 = .ok (.laload, 1) := by decide +kernel
theorem dX3_drawMasks_97 : decode cX3_drawMasks 97 = .ok (.aload_n 0, 1) := by decide +kernel
theorem dX3_drawMasks_98 : decode cX3_drawMasks 98 = .ok (.getfield 11, 3) := by decide +kernel
theorem dX3_drawMasks_101 : decode cX3_drawMasks 101 = .ok (.iload_n 1, 1) := by decide +kernel
theorem dX3_drawMasks_102 : decode cX3_drawMasks 102 = .ok (.aaload, 1) := by decide +kernel
theorem dX3_drawMasks_103 : decode cX3_drawMasks 103 = .ok (.iload_n 2, 1) := by decide +kernel
theorem dX3_drawMasks_104 : decode cX3_drawMasks 104 = .ok (.laload, 1) := by decide +kernel
theorem dX3_drawMasks_105 : decode cX3_drawMasks 105 = .ok (.lconst 0, 1) := by decide +kernel
theorem dX3_drawMasks_106 : decode cX3_drawMasks 106 = .ok (.lcmp, 1) := by decide +kernel
theorem dX3_drawMasks_107 : decode cX3_drawMasks 107 = .ok (.ifCond .le 9, 3) := by decide +kernel
theorem dX3_drawMasks_116 : decode cX3_drawMasks 116 = .ok (.lconst 0, 1) := by decide +kernel
theorem dX3_drawMasks_117 : decode cX3_drawMasks 117 = .ok (.lor, 1) := by decide +kernel
theorem dX3_drawMasks_118 : decode cX3_drawMasks 118 = .ok (.lastore, 1) := by decide +kernel
theorem dX3_drawMasks_119 : decode cX3_drawMasks 119 = .ok (.iinc 2 1, 3) := by decide +kernel
theorem dX3_drawMasks_122 : decode cX3_drawMasks 122 = .ok (.goto (-40), 3) := by decide +kernel
theorem dX3_drawMasks_110 : decode cX3_drawMasks 110 = .ok (.lconst 1, 1) := by decide +kernel
theorem dX3_drawMasks_111 : decode cX3_drawMasks 111 = .ok (.iload_n 2, 1) := by decide +kernel
theorem dX3_drawMasks_112 : decode cX3_drawMasks 112 = .ok (.lshl, 1) := by decide +kernel
theorem dX3_drawMasks_113 : decode cX3_drawMasks 113 = .ok (.goto 4, 3) := by decide +kernel
theorem dX3_standingAt_0 : decode cX3_standingAt 0 = .ok (.aload_n 0, 1) := by decide +kernel
theorem dX3_standingAt_1 : decode cX3_standingAt 1 = .ok (.invokevirtual 118, 3) := by decide +kernel
theorem tw_1115 : Cond.methodLink RX3 118 yX3_drawMasks ∈ TT := nx_mem 1115 (by decide +kernel) (by decide +kernel)
theorem tw_1117 : Cond.instanceMethod yX3_drawMasks ∈ TT := nx_mem 1117 (by decide +kernel) (by decide +kernel)
theorem tw_35 : Cond.selects RX3 yX3_drawMasks yX3_drawMasks ∈ TT := nx_mem 35 (by decide +kernel) (by decide +kernel)
theorem tw_1118 : Cond.code yX3_drawMasks cX3_drawMasks 3 none ∈ TT := nx_mem 1118 (by decide +kernel) (by decide +kernel)
theorem dX3_standingAt_4 : decode cX3_standingAt 4 = .ok (.iconst 0, 1) := by decide +kernel
theorem dX3_standingAt_5 : decode cX3_standingAt 5 = .ok (.istore_n 2, 1) := by decide +kernel
theorem dX3_standingAt_6 : decode cX3_standingAt 6 = .ok (.iload_n 2, 1) := by decide +kernel
theorem dX3_standingAt_7 : decode cX3_standingAt 7 = .ok (.iload_n 1, 1) := by decide +kernel
theorem dX3_standingAt_8 : decode cX3_standingAt 8 = .ok (.if_icmp .ge 19, 3) := by decide +kernel
theorem dX3_standingAt_27 : decode cX3_standingAt 27 = .ok (.iconst 0, 1) := by decide +kernel
theorem dX3_standingAt_28 : decode cX3_standingAt 28 = .ok (.istore_n 2, 1) := by decide +kernel
theorem dX3_standingAt_29 : decode cX3_standingAt 29 = .ok (.iconst 0, 1) := by decide +kernel
theorem dX3_standingAt_30 : decode cX3_standingAt 30 = .ok (.istore_n 3, 1) := by decide +kernel
theorem dX3_standingAt_31 : decode cX3_standingAt 31 = .ok (.iload_n 3, 1) := by decide +kernel
theorem dX3_standingAt_32 : decode cX3_standingAt 32 = .ok (.aload_n 0, 1) := by decide +kernel
theorem dX3_standingAt_33 : decode cX3_standingAt 33 = .ok (.getfield 45, 3) := by decide +kernel
theorem dX3_standingAt_36 : decode cX3_standingAt 36 = .ok (.if_icmp .ge 33, 3) := by decide +kernel
theorem dX3_standingAt_69 : decode cX3_standingAt 69 = .ok (.iload_n 2, 1) := by decide +kernel
theorem dX3_standingAt_70 : decode cX3_standingAt 70 = .ok (.ireturn, 1) := by decide +kernel
theorem dX3_standingAt_11 : decode cX3_standingAt 11 = .ok (.iload_n 2, 1) := by decide +kernel
theorem dX3_standingAt_12 : decode cX3_standingAt 12 = .ok (.bipush 60, 2) := by decide +kernel
theorem dX3_standingAt_14 : decode cX3_standingAt 14 = .ok (.if_icmp .ge 13, 3) := by decide +kernel
theorem dX3_standingAt_17 : decode cX3_standingAt 17 = .ok (.aload_n 0, 1) := by decide +kernel
theorem dX3_standingAt_18 : decode cX3_standingAt 18 = .ok (.invokevirtual 121, 3) := by decide +kernel
theorem tw_1119 : Cond.methodLink RX3 121 yX3_reachNext ∈ TT := nx_mem 1119 (by decide +kernel) (by decide +kernel)
theorem tw_1121 : Cond.instanceMethod yX3_reachNext ∈ TT := nx_mem 1121 (by decide +kernel) (by decide +kernel)
theorem tw_36 : Cond.selects RX3 yX3_reachNext yX3_reachNext ∈ TT := nx_mem 36 (by decide +kernel) (by decide +kernel)
theorem tw_1122 : Cond.code yX3_reachNext cX3_reachNext 4 none ∈ TT := nx_mem 1122 (by decide +kernel) (by decide +kernel)
theorem dX3_standingAt_21 : decode cX3_standingAt 21 = .ok (.iinc 2 1, 3) := by decide +kernel
theorem dX3_standingAt_24 : decode cX3_standingAt 24 = .ok (.goto (-18), 3) := by decide +kernel
theorem le59 {p : Int32} (h : p < 60) : p ≤ nI 59 := by
  rw [Int32.lt_iff_toInt_lt] at h
  rw [Int32.le_iff_toInt_le]
  have e1 : (60 : Int32).toInt = 60 := by decide
  have e2 : (nI 59).toInt = 59 := by decide
  omega
theorem dX11_can_0 : decode cX11_can 0 = .ok (.iload_n 1, 1) := by decide +kernel
theorem dX11_can_1 : decode cX11_can 1 = .ok (.ifCond .lt 19, 3) := by decide +kernel
theorem dX11_can_20 : decode cX11_can 20 = .ok (.iconst (-1), 1) := by decide +kernel
theorem dX11_can_21 : decode cX11_can 21 = .ok (.ireturn, 1) := by decide +kernel
theorem dX11_can_4 : decode cX11_can 4 = .ok (.iload_n 1, 1) := by decide +kernel
theorem dX11_can_5 : decode cX11_can 5 = .ok (.bipush 60, 2) := by decide +kernel
theorem dX11_can_7 : decode cX11_can 7 = .ok (.if_icmp .gt 13, 3) := by decide +kernel
theorem dX11_can_10 : decode cX11_can 10 = .ok (.iload_n 2, 1) := by decide +kernel
theorem dX11_can_11 : decode cX11_can 11 = .ok (.ifCond .lt 9, 3) := by decide +kernel
theorem dX11_can_14 : decode cX11_can 14 = .ok (.iload_n 2, 1) := by decide +kernel
theorem dX11_can_15 : decode cX11_can 15 = .ok (.bipush 60, 2) := by decide +kernel
theorem dX11_can_17 : decode cX11_can 17 = .ok (.if_icmp .lt 5, 3) := by decide +kernel
theorem dX11_can_22 : decode cX11_can 22 = .ok (.aload_n 0, 1) := by decide +kernel
theorem dX11_can_23 : decode cX11_can 23 = .ok (.iload_n 1, 1) := by decide +kernel
theorem dX11_can_24 : decode cX11_can 24 = .ok (.iload_n 3, 1) := by decide +kernel
theorem dX11_can_25 : decode cX11_can 25 = .ok (.invokevirtual 286, 3) := by decide +kernel
theorem dX11_can_28 : decode cX11_can 28 = .ok (.ifCond .ne 5, 3) := by decide +kernel
theorem dX11_can_33 : decode cX11_can 33 = .ok (.aload_n 0, 1) := by decide +kernel
theorem dX11_can_34 : decode cX11_can 34 = .ok (.getfield 74, 3) := by decide +kernel
theorem dX11_can_37 : decode cX11_can 37 = .ok (.iload_n 1, 1) := by decide +kernel
theorem dX11_can_38 : decode cX11_can 38 = .ok (.iconst 0, 1) := by decide +kernel
theorem dX11_can_39 : decode cX11_can 39 = .ok (.invokevirtual 251, 3) := by decide +kernel
theorem dX11_can_42 : decode cX11_can 42 = .ok (.pop2, 1) := by decide +kernel
theorem dX11_can_43 : decode cX11_can 43 = .ok (.aload_n 0, 1) := by decide +kernel
theorem dX11_can_44 : decode cX11_can 44 = .ok (.getfield 74, 3) := by decide +kernel
theorem dX11_can_47 : decode cX11_can 47 = .ok (.iload_n 2, 1) := by decide +kernel
theorem dX11_can_48 : decode cX11_can 48 = .ok (.invokevirtual 289, 3) := by decide +kernel
theorem tw_1111 : Cond.methodLink RX11 289 yX3_standingAt ∈ TT := nx_mem 1111 (by decide +kernel) (by decide +kernel)
theorem tw_1112 : Cond.instanceMethod yX3_standingAt ∈ TT := nx_mem 1112 (by decide +kernel) (by decide +kernel)
theorem tw_1113 : Cond.selects RX3 yX3_standingAt yX3_standingAt ∈ TT := nx_mem 1113 (by decide +kernel) (by decide +kernel)
theorem tw_1114 : Cond.code yX3_standingAt cX3_standingAt 4 (some .int) ∈ TT := nx_mem 1114 (by decide +kernel) (by decide +kernel)
theorem dX11_can_51 : decode cX11_can 51 = .ok (.ireturn, 1) := by decide +kernel
theorem dJ7_fill_53178_0 : decode cJ7_fill_53178 0 = .ok (.iconst 0, 1) := by decide +kernel
theorem dJ7_fill_53178_1 : decode cJ7_fill_53178 1 = .ok (.istore_n 2, 1) := by decide +kernel
theorem dJ7_fill_53178_2 : decode cJ7_fill_53178 2 = .ok (.aload_n 0, 1) := by decide +kernel
theorem dJ7_fill_53178_3 : decode cJ7_fill_53178 3 = .ok (.arraylength, 1) := by decide +kernel
theorem dJ7_fill_53178_4 : decode cJ7_fill_53178 4 = .ok (.istore_n 3, 1) := by decide +kernel
theorem dJ7_fill_53178_5 : decode cJ7_fill_53178 5 = .ok (.iload_n 2, 1) := by decide +kernel
theorem dJ7_fill_53178_6 : decode cJ7_fill_53178 6 = .ok (.iload_n 3, 1) := by decide +kernel
theorem dJ7_fill_53178_7 : decode cJ7_fill_53178 7 = .ok (.if_icmp .ge 13, 3) := by decide +kernel
theorem dJ7_fill_53178_20 : decode cJ7_fill_53178 20 = .ok (.return_, 1) := by decide +kernel
theorem dJ7_fill_53178_10 : decode cJ7_fill_53178 10 = .ok (.aload_n 0, 1) := by decide +kernel
theorem dJ7_fill_53178_11 : decode cJ7_fill_53178 11 = .ok (.iload_n 2, 1) := by decide +kernel
theorem dJ7_fill_53178_12 : decode cJ7_fill_53178 12 = .ok (.iload_n 1, 1) := by decide +kernel
theorem dJ7_fill_53178_13 : decode cJ7_fill_53178 13 = .ok (.iastore, 1) := by decide +kernel
theorem dJ7_fill_53178_14 : decode cJ7_fill_53178 14 = .ok (.iinc 2 1, 3) := by decide +kernel
theorem dJ7_fill_53178_17 : decode cJ7_fill_53178 17 = .ok (.goto (-12), 3) := by decide +kernel
theorem dX1_countUses_0 : decode cX1_countUses 0 = .ok (.aload_n 0, 1) := by decide +kernel
theorem dX1_countUses_1 : decode cX1_countUses 1 = .ok (.getfield 9, 3) := by decide +kernel
theorem dX1_countUses_4 : decode cX1_countUses 4 = .ok (.iconst 0, 1) := by decide +kernel
theorem dX1_countUses_5 : decode cX1_countUses 5 = .ok (.invokestatic 46, 3) := by decide +kernel
theorem tw_1037 : Cond.methodLink RX1 46 yJ7_fill_53178 ∈ TT := nx_mem 1037 (by decide +kernel) (by decide +kernel)
theorem tw_829 : Cond.static yJ7_fill_53178 ∈ TT := nx_mem 829 (by decide +kernel) (by decide +kernel)
theorem tw_106 : Cond.initialized RJ7 ∈ TT := nx_mem 106 (by decide +kernel) (by decide +kernel)
theorem tw_830 : Cond.code yJ7_fill_53178 cJ7_fill_53178 4 none ∈ TT := nx_mem 830 (by decide +kernel) (by decide +kernel)
theorem dX1_countUses_8 : decode cX1_countUses 8 = .ok (.iconst 0, 1) := by decide +kernel
theorem dX1_countUses_9 : decode cX1_countUses 9 = .ok (.istore_n 2, 1) := by decide +kernel
theorem dX1_countUses_10 : decode cX1_countUses 10 = .ok (.iload_n 2, 1) := by decide +kernel
theorem dX1_countUses_11 : decode cX1_countUses 11 = .ok (.bipush 10, 2) := by decide +kernel
theorem dX1_countUses_13 : decode cX1_countUses 13 = .ok (.if_icmp .ge 16, 3) := by decide +kernel
theorem dX1_countUses_29 : decode cX1_countUses 29 = .ok (.iconst 0, 1) := by decide +kernel
theorem dX1_countUses_30 : decode cX1_countUses 30 = .ok (.istore_n 2, 1) := by decide +kernel
theorem dX1_countUses_31 : decode cX1_countUses 31 = .ok (.iload_n 2, 1) := by decide +kernel
theorem dX1_countUses_32 : decode cX1_countUses 32 = .ok (.aload_n 1, 1) := by decide +kernel
theorem dX1_countUses_33 : decode cX1_countUses 33 = .ok (.getfield 52, 3) := by decide +kernel
theorem tw_306 : Cond.fieldLink RX1 52 "LimpCode$Text" "size" "I" ∈ TT := nx_mem 306 (by decide +kernel) (by decide +kernel)
theorem dX1_countUses_36 : decode cX1_countUses 36 = .ok (.if_icmp .ge 24, 3) := by decide +kernel
theorem dX1_countUses_60 : decode cX1_countUses 60 = .ok (.return_, 1) := by decide +kernel
theorem dX1_countUses_16 : decode cX1_countUses 16 = .ok (.aload_n 0, 1) := by decide +kernel
theorem dX1_countUses_17 : decode cX1_countUses 17 = .ok (.getfield 21, 3) := by decide +kernel
theorem dX1_countUses_20 : decode cX1_countUses 20 = .ok (.iload_n 2, 1) := by decide +kernel
theorem dX1_countUses_21 : decode cX1_countUses 21 = .ok (.iconst 0, 1) := by decide +kernel
theorem dX1_countUses_22 : decode cX1_countUses 22 = .ok (.bastore, 1) := by decide +kernel
theorem dX1_countUses_23 : decode cX1_countUses 23 = .ok (.iinc 2 1, 3) := by decide +kernel
theorem dX1_countUses_26 : decode cX1_countUses 26 = .ok (.goto (-16), 3) := by decide +kernel
theorem dX1_sortUpwards_0 : decode cX1_sortUpwards 0 = .ok (.iconst 1, 1) := by decide +kernel
theorem dX1_sortUpwards_1 : decode cX1_sortUpwards 1 = .ok (.istore_n 2, 1) := by decide +kernel
theorem dX1_sortUpwards_2 : decode cX1_sortUpwards 2 = .ok (.iload_n 2, 1) := by decide +kernel
theorem dX1_sortUpwards_3 : decode cX1_sortUpwards 3 = .ok (.iload_n 1, 1) := by decide +kernel
theorem dX1_sortUpwards_4 : decode cX1_sortUpwards 4 = .ok (.if_icmp .ge 52, 3) := by decide +kernel
theorem dX1_sortUpwards_56 : decode cX1_sortUpwards 56 = .ok (.return_, 1) := by decide +kernel
theorem dX1_leastOfRest_0 : decode cX1_leastOfRest 0 = .ok (.iconst 0, 1) := by decide +kernel
theorem dX1_leastOfRest_1 : decode cX1_leastOfRest 1 = .ok (.istore_n 3, 1) := by decide +kernel
theorem dX1_leastOfRest_2 : decode cX1_leastOfRest 2 = .ok (.iload_n 2, 1) := by decide +kernel
theorem dX1_leastOfRest_3 : decode cX1_leastOfRest 3 = .ok (.istore 4, 2) := by decide +kernel
theorem dX1_leastOfRest_5 : decode cX1_leastOfRest 5 = .ok (.iload 4, 2) := by decide +kernel
theorem dX1_leastOfRest_7 : decode cX1_leastOfRest 7 = .ok (.aload_n 1, 1) := by decide +kernel
theorem dX1_leastOfRest_8 : decode cX1_leastOfRest 8 = .ok (.getfield 33, 3) := by decide +kernel
theorem tw_223 : Cond.fieldLink RX1 33 "LimpCode$School" "letterCount" "I" ∈ TT := nx_mem 223 (by decide +kernel) (by decide +kernel)
theorem dX1_leastOfRest_11 : decode cX1_leastOfRest 11 = .ok (.if_icmp .ge 25, 3) := by decide +kernel
theorem dX1_leastOfRest_36 : decode cX1_leastOfRest 36 = .ok (.iconst 0, 1) := by decide +kernel
theorem dX1_leastOfRest_37 : decode cX1_leastOfRest 37 = .ok (.istore 4, 2) := by decide +kernel
theorem dX1_leastOfRest_39 : decode cX1_leastOfRest 39 = .ok (.iconst 0, 1) := by decide +kernel
theorem dX1_leastOfRest_40 : decode cX1_leastOfRest 40 = .ok (.istore 5, 2) := by decide +kernel
theorem dX1_leastOfRest_42 : decode cX1_leastOfRest 42 = .ok (.iload 5, 2) := by decide +kernel
theorem dX1_leastOfRest_44 : decode cX1_leastOfRest 44 = .ok (.aload_n 1, 1) := by decide +kernel
theorem dX1_leastOfRest_45 : decode cX1_leastOfRest 45 = .ok (.getfield 33, 3) := by decide +kernel
theorem dX1_leastOfRest_48 : decode cX1_leastOfRest 48 = .ok (.if_icmp .ge 42, 3) := by decide +kernel
theorem dX1_leastOfRest_90 : decode cX1_leastOfRest 90 = .ok (.aload_n 0, 1) := by decide +kernel
theorem dX1_leastOfRest_91 : decode cX1_leastOfRest 91 = .ok (.getfield 15, 3) := by decide +kernel
theorem dX1_leastOfRest_94 : decode cX1_leastOfRest 94 = .ok (.iload_n 3, 1) := by decide +kernel
theorem dX1_leastOfRest_95 : decode cX1_leastOfRest 95 = .ok (.invokestatic 60, 3) := by decide +kernel
theorem tw_1042 : Cond.methodLink RX1 60 yX1_sortUpwards ∈ TT := nx_mem 1042 (by decide +kernel) (by decide +kernel)
theorem tw_1043 : Cond.static yX1_sortUpwards ∈ TT := nx_mem 1043 (by decide +kernel) (by decide +kernel)
theorem tw_1044 : Cond.code yX1_sortUpwards cX1_sortUpwards 5 none ∈ TT := nx_mem 1044 (by decide +kernel) (by decide +kernel)
theorem dX1_leastOfRest_98 : decode cX1_leastOfRest 98 = .ok (.aload_n 0, 1) := by decide +kernel
theorem dX1_leastOfRest_99 : decode cX1_leastOfRest 99 = .ok (.getfield 18, 3) := by decide +kernel
theorem dX1_leastOfRest_102 : decode cX1_leastOfRest 102 = .ok (.iload 4, 2) := by decide +kernel
theorem dX1_leastOfRest_104 : decode cX1_leastOfRest 104 = .ok (.invokestatic 60, 3) := by decide +kernel
theorem dX1_leastOfRest_107 : decode cX1_leastOfRest 107 = .ok (.iconst 0, 1) := by decide +kernel
theorem dX1_leastOfRest_108 : decode cX1_leastOfRest 108 = .ok (.istore 5, 2) := by decide +kernel
theorem dX1_leastOfRest_110 : decode cX1_leastOfRest 110 = .ok (.iconst 0, 1) := by decide +kernel
theorem dX1_leastOfRest_111 : decode cX1_leastOfRest 111 = .ok (.istore 6, 2) := by decide +kernel
theorem dX1_leastOfRest_113 : decode cX1_leastOfRest 113 = .ok (.iload 6, 2) := by decide +kernel
theorem dX1_leastOfRest_115 : decode cX1_leastOfRest 115 = .ok (.iload 4, 2) := by decide +kernel
theorem dX1_leastOfRest_117 : decode cX1_leastOfRest 117 = .ok (.if_icmp .ge 33, 3) := by decide +kernel
theorem dX1_leastOfRest_150 : decode cX1_leastOfRest 150 = .ok (.iload 5, 2) := by decide +kernel
theorem dX1_leastOfRest_152 : decode cX1_leastOfRest 152 = .ok (.ireturn, 1) := by decide +kernel
theorem dX1_dealRows_0 : decode cX1_dealRows 0 = .ok (.aload_n 0, 1) := by decide +kernel
theorem dX1_dealRows_1 : decode cX1_dealRows 1 = .ok (.aload_n 2, 1) := by decide +kernel
theorem dX1_dealRows_2 : decode cX1_dealRows 2 = .ok (.invokevirtual 25, 3) := by decide +kernel
theorem tw_1033 : Cond.methodLink RX1 25 yX1_countUses ∈ TT := nx_mem 1033 (by decide +kernel) (by decide +kernel)
theorem tw_1035 : Cond.instanceMethod yX1_countUses ∈ TT := nx_mem 1035 (by decide +kernel) (by decide +kernel)
theorem tw_31 : Cond.selects RX1 yX1_countUses yX1_countUses ∈ TT := nx_mem 31 (by decide +kernel) (by decide +kernel)
theorem tw_1036 : Cond.code yX1_countUses cX1_countUses 3 none ∈ TT := nx_mem 1036 (by decide +kernel) (by decide +kernel)
theorem dX1_dealRows_5 : decode cX1_dealRows 5 = .ok (.aload_n 0, 1) := by decide +kernel
theorem dX1_dealRows_6 : decode cX1_dealRows 6 = .ok (.aload_n 1, 1) := by decide +kernel
theorem dX1_dealRows_7 : decode cX1_dealRows 7 = .ok (.iconst 0, 1) := by decide +kernel
theorem dX1_dealRows_8 : decode cX1_dealRows 8 = .ok (.invokevirtual 29, 3) := by decide +kernel
theorem tw_1038 : Cond.methodLink RX1 29 yX1_leastOfRest ∈ TT := nx_mem 1038 (by decide +kernel) (by decide +kernel)
theorem tw_1040 : Cond.instanceMethod yX1_leastOfRest ∈ TT := nx_mem 1040 (by decide +kernel) (by decide +kernel)
theorem tw_32 : Cond.selects RX1 yX1_leastOfRest yX1_leastOfRest ∈ TT := nx_mem 32 (by decide +kernel) (by decide +kernel)
theorem tw_1041 : Cond.code yX1_leastOfRest cX1_leastOfRest 7 (some .int) ∈ TT := nx_mem 1041 (by decide +kernel) (by decide +kernel)
theorem dX1_dealRows_11 : decode cX1_dealRows 11 = .ok (.istore 4, 2) := by decide +kernel
theorem dX1_dealRows_13 : decode cX1_dealRows 13 = .ok (.iconst 0, 1) := by decide +kernel
theorem dX1_dealRows_14 : decode cX1_dealRows 14 = .ok (.istore 5, 2) := by decide +kernel
theorem dX1_dealRows_16 : decode cX1_dealRows 16 = .ok (.iconst 0, 1) := by decide +kernel
theorem dX1_dealRows_17 : decode cX1_dealRows 17 = .ok (.istore 6, 2) := by decide +kernel
theorem dX1_dealRows_19 : decode cX1_dealRows 19 = .ok (.iload 6, 2) := by decide +kernel
theorem dX1_dealRows_21 : decode cX1_dealRows 21 = .ok (.aload_n 1, 1) := by decide +kernel
theorem dX1_dealRows_22 : decode cX1_dealRows 22 = .ok (.getfield 33, 3) := by decide +kernel
theorem dX1_dealRows_25 : decode cX1_dealRows 25 = .ok (.if_icmp .ge 56, 3) := by decide +kernel
theorem dX1_dealRows_81 : decode cX1_dealRows 81 = .ok (.iload 4, 2) := by decide +kernel
theorem dX1_dealRows_83 : decode cX1_dealRows 83 = .ok (.ireturn, 1) := by decide +kernel
theorem dX11_dealt_0 : decode cX11_dealt 0 = .ok (.aload_n 0, 1) := by decide +kernel
theorem dX11_dealt_1 : decode cX11_dealt 1 = .ok (.aload_n 0, 1) := by decide +kernel
theorem dX11_dealt_2 : decode cX11_dealt 2 = .ok (.getfield 26, 3) := by decide +kernel
theorem dX11_dealt_5 : decode cX11_dealt 5 = .ok (.getfield 126, 3) := by decide +kernel
theorem dX11_dealt_8 : decode cX11_dealt 8 = .ok (.putfield 143, 3) := by decide +kernel
theorem dX11_dealt_11 : decode cX11_dealt 11 = .ok (.aload_n 0, 1) := by decide +kernel
theorem dX11_dealt_12 : decode cX11_dealt 12 = .ok (.getfield 94, 3) := by decide +kernel
theorem dX11_dealt_15 : decode cX11_dealt 15 = .ok (.aload_n 0, 1) := by decide +kernel
theorem dX11_dealt_16 : decode cX11_dealt 16 = .ok (.getfield 26, 3) := by decide +kernel
theorem dX11_dealt_19 : decode cX11_dealt 19 = .ok (.aload_n 0, 1) := by decide +kernel
theorem dX11_dealt_20 : decode cX11_dealt 20 = .ok (.getfield 46, 3) := by decide +kernel
theorem dX11_dealt_23 : decode cX11_dealt 23 = .ok (.iconst 0, 1) := by decide +kernel
theorem dX11_dealt_24 : decode cX11_dealt 24 = .ok (.aaload, 1) := by decide +kernel
theorem dX11_dealt_25 : decode cX11_dealt 25 = .ok (.aload_n 0, 1) := by decide +kernel
theorem dX11_dealt_26 : decode cX11_dealt 26 = .ok (.getfield 105, 3) := by decide +kernel
theorem dX11_dealt_29 : decode cX11_dealt 29 = .ok (.invokevirtual 255, 3) := by decide +kernel
theorem tw_1029 : Cond.methodLink RX11 255 yX1_dealRows ∈ TT := nx_mem 1029 (by decide +kernel) (by decide +kernel)
theorem tw_1030 : Cond.instanceMethod yX1_dealRows ∈ TT := nx_mem 1030 (by decide +kernel) (by decide +kernel)
theorem tw_1031 : Cond.selects RX1 yX1_dealRows yX1_dealRows ∈ TT := nx_mem 1031 (by decide +kernel) (by decide +kernel)
theorem tw_1032 : Cond.code yX1_dealRows cX1_dealRows 8 (some .int) ∈ TT := nx_mem 1032 (by decide +kernel) (by decide +kernel)
theorem dX11_dealt_32 : decode cX11_dealt 32 = .ok (.ireturn, 1) := by decide +kernel
set_option maxHeartbeats 4000000 in
set_option maxRecDepth 100000 in
theorem c_X3_reachNext (l : Launch) (g : va_G) (kA : Nat → ClassId) (h0 : Nat) (a0 : Nat) (a1 : Nat) (a2 : Nat) (a3 : Nat) (a4 : Nat) (a5 : Nat) (a6 : Nat) (a7 : Nat) (tm : Int32) (f6 : Nat → Int64) (f7 : Nat → Int64)  : CtV l yX3_reachNext cX3_reachNext 4 (none) 1 0 0 g kA [.ref h0] [(h0, .inr (3, [.ref a0, .ref a1, .ref a2, .ref a3, .ref a4, .ref a5, .ref a6, .ref a7, .int 0, .int tm, .int 0])), (a6, .inl (kA 2, 2, .inr (.inl f6))), (a7, .inl (kA 2, 2, .inr (.inl f7)))] (S := (Nat → Int64) × (Nat → Int64)) (fun ((g6, g7) : (Nat → Int64) × (Nat → Int64)) => True) (fun ((g6, g7) : (Nat → Int64) × (Nat → Int64)) => [(h0, .inr (3, [.ref a0, .ref a1, .ref a2, .ref a3, .ref a4, .ref a5, .ref a6, .ref a7, .int 0, .int tm, .int 0])), (a6, .inl (kA 2, 2, .inr (.inl g6))), (a7, .inl (kA 2, 2, .inr (.inl g7)))]) := by
  refine nx_startV (by decide +kernel) (Nat.le_of_ble_eq_true rfl) ?_
  intro x hnm h hq
  have h : Ok x cX3_reachNext RX3 kA (rmC 1 0 0) 4 := h
  show J x [(h0, .inr (3, [.ref a0, .ref a1, .ref a2, .ref a3, .ref a4, .ref a5, .ref a6, .ref a7, .int 0, .int tm, .int 0])), (a6, .inl (kA 2, 2, .inr (.inl f6))), (a7, .inl (kA 2, 2, .inr (.inl f7)))] [(0, .ref h0)] 0 0 0 []
  refine j_aload_n h 0 rfl rfl dX3_reachNext_0 ?_
  refine j_get h iw_X3 0 rfl rfl 7 (by decide) tw_386 rfl dX3_reachNext_1 ?_
  refine j_iconst (v := 0) h (by decide) dX3_reachNext_4 ?_
  refine j_lconst (v := 0) h (by decide) dX3_reachNext_5 ?_
  refine j_last (ws' := [(h0, .inr (3, [.ref a0, .ref a1, .ref a2, .ref a3, .ref a4, .ref a5, .ref a6, .ref a7, .int 0, .int tm, .int 0])), (a6, .inl (kA 2, 2, .inr (.inl f6))), (a7, .inl (kA 2, 2, .inr (.inl (vp_updL f7 0 0))))]) h 2 rfl 0 (by decide) (by decide) (by decide) dX3_reachNext_6 rfl ?_
  refine j_aload_n h 0 rfl rfl dX3_reachNext_7 ?_
  refine j_get h iw_X3 0 rfl rfl 7 (by decide) tw_386 rfl dX3_reachNext_8 ?_
  refine j_iconst (v := 1) h (by decide) dX3_reachNext_11 ?_
  refine j_lconst (v := 0) h (by decide) dX3_reachNext_12 ?_
  refine j_last (ws' := [(h0, .inr (3, [.ref a0, .ref a1, .ref a2, .ref a3, .ref a4, .ref a5, .ref a6, .ref a7, .int 0, .int tm, .int 0])), (a6, .inl (kA 2, 2, .inr (.inl f6))), (a7, .inl (kA 2, 2, .inr (.inl (vp_updL (vp_updL f7 0 0) 1 0))))]) h 2 rfl 1 (by decide) (by decide) (by decide) dX3_reachNext_13 rfl ?_
  refine j_iconst (v := 0) h (by decide) dX3_reachNext_14 ?_
  refine j_istore_n (lv' := [(1, .int 0), (0, .ref h0)]) h dX3_reachNext_15 rfl (by decide) rfl ?_
  refine j_iload_n h 0 rfl rfl dX3_reachNext_16 ?_
  refine j_aload_n h 1 rfl rfl dX3_reachNext_17 ?_
  refine j_get h iw_X3 0 rfl rfl 8 (by decide) tw_387 rfl dX3_reachNext_18 ?_
  refine j_icmp_ge h 86 dX3_reachNext_21 (by decide) (fun _ => ?_) (fun q => absurd (by decide) q)
  refine j_aload_n h 1 rfl rfl dX3_reachNext_86 ?_
  refine j_get h iw_X3 0 rfl rfl 6 (by decide) tw_385 rfl dX3_reachNext_87 ?_
  refine j_iconst (v := 0) h (by decide) dX3_reachNext_90 ?_
  refine j_aload_n h 1 rfl rfl dX3_reachNext_91 ?_
  refine j_get h iw_X3 0 rfl rfl 7 (by decide) tw_386 rfl dX3_reachNext_92 ?_
  refine j_iconst (v := 0) h (by decide) dX3_reachNext_95 ?_
  refine j_lald h 2 rfl 0 (by decide) (by decide) (by decide) dX3_reachNext_96 ?_
  refine j_topl (b := 0) rfl ?_
  refine j_last (ws' := [(h0, .inr (3, [.ref a0, .ref a1, .ref a2, .ref a3, .ref a4, .ref a5, .ref a6, .ref a7, .int 0, .int tm, .int 0])), (a6, .inl (kA 2, 2, .inr (.inl (vp_updL f6 0 0)))), (a7, .inl (kA 2, 2, .inr (.inl (vp_updL (vp_updL f7 0 0) 1 0))))]) h 1 rfl 0 (by decide) (by decide) (by decide) dX3_reachNext_97 rfl ?_
  refine j_aload_n h 1 rfl rfl dX3_reachNext_98 ?_
  refine j_get h iw_X3 0 rfl rfl 6 (by decide) tw_385 rfl dX3_reachNext_99 ?_
  refine j_iconst (v := 1) h (by decide) dX3_reachNext_102 ?_
  refine j_aload_n h 1 rfl rfl dX3_reachNext_103 ?_
  refine j_get h iw_X3 0 rfl rfl 7 (by decide) tw_386 rfl dX3_reachNext_104 ?_
  refine j_iconst (v := 1) h (by decide) dX3_reachNext_107 ?_
  refine j_lald h 2 rfl 1 (by decide) (by decide) (by decide) dX3_reachNext_108 ?_
  refine j_topl (b := 0) rfl ?_
  refine j_last (ws' := [(h0, .inr (3, [.ref a0, .ref a1, .ref a2, .ref a3, .ref a4, .ref a5, .ref a6, .ref a7, .int 0, .int tm, .int 0])), (a6, .inl (kA 2, 2, .inr (.inl (vp_updL (vp_updL f6 0 0) 1 0)))), (a7, .inl (kA 2, 2, .inr (.inl (vp_updL (vp_updL f7 0 0) 1 0))))]) h 1 rfl 1 (by decide) (by decide) (by decide) dX3_reachNext_109 rfl ?_
  exact j_vret h hq dX3_reachNext_110 ((vp_updL (vp_updL f6 0 0) 1 0), (vp_updL (vp_updL f7 0 0) 1 0)) [0, 1, 2] rfl rfl (by decide) trivial (Nat.le_of_ble_eq_true rfl) (Nat.le_of_ble_eq_true rfl)
set_option maxHeartbeats 4000000 in
set_option maxRecDepth 100000 in
theorem c_X3_drawMasks (l : Launch) (g : va_G) (kA : Nat → ClassId) (h0 : Nat) (a0 : Nat) (a1 : Nat) (a2 : Nat) (a3 : Nat) (a4 : Nat) (a5 : Nat) (a6 : Nat) (a7 : Nat) (j : Nat) (f0 : Nat → Int64) (f1 : Nat → Int64) (f5 : Nat → Int64) (f6 : Nat → Int64) (hj : j ≤ 60) : CtV l yX3_drawMasks cX3_drawMasks 3 (none) 1 0 0 g kA [.ref h0] [(h0, .inr (3, [.ref a0, .ref a1, .ref a2, .ref a3, .ref a4, .ref a5, .ref a6, .ref a7, .int 0, .int (nI j), .int 0])), (a3, .inl (kA 7, 8, .inr (.inr (.inr (.inr (nx_q a3 8)))))), ((a3 + 1 + 0), .inl (kA 2, 61, .inr (.inl f0))), ((a3 + 1 + 1), .inl (kA 2, 61, .inr (.inl f1))), (a5, .inl (kA 2, 2, .inr (.inl f5))), (a6, .inl (kA 2, 2, .inr (.inl f6)))] (S := (Nat → Int64)) (fun (g6 : (Nat → Int64)) => True) (fun (g6 : (Nat → Int64)) => [(h0, .inr (3, [.ref a0, .ref a1, .ref a2, .ref a3, .ref a4, .ref a5, .ref a6, .ref a7, .int 0, .int (nI j), .int 0])), (a6, .inl (kA 2, 2, .inr (.inl g6)))]) := by
  refine nx_startV (by decide +kernel) (Nat.le_of_ble_eq_true rfl) ?_
  intro x hnm h hq
  have h : Ok x cX3_drawMasks RX3 kA (rmC 1 0 0) 3 := h
  show J x [(h0, .inr (3, [.ref a0, .ref a1, .ref a2, .ref a3, .ref a4, .ref a5, .ref a6, .ref a7, .int 0, .int (nI j), .int 0])), (a3, .inl (kA 7, 8, .inr (.inr (.inr (.inr (nx_q a3 8)))))), ((a3 + 1 + 0), .inl (kA 2, 61, .inr (.inl f0))), ((a3 + 1 + 1), .inl (kA 2, 61, .inr (.inl f1))), (a5, .inl (kA 2, 2, .inr (.inl f5))), (a6, .inl (kA 2, 2, .inr (.inl f6)))] [(0, .ref h0)] 0 0 0 []
  refine j_iconst (v := 0) h (by decide) dX3_drawMasks_0 ?_
  refine j_istore_n (lv' := [(1, .int 0), (0, .ref h0)]) h dX3_drawMasks_1 rfl (by decide) rfl ?_
  refine j_iload_n h 0 rfl rfl dX3_drawMasks_2 ?_
  refine j_aload_n h 1 rfl rfl dX3_drawMasks_3 ?_
  refine j_get h iw_X3 0 rfl rfl 8 (by decide) tw_387 rfl dX3_drawMasks_4 ?_
  refine j_icmp_ge h 66 dX3_drawMasks_7 (by decide) (fun _ => ?_) (fun q => absurd (by decide) q)
  refine j_iconst (v := 0) h (by decide) dX3_drawMasks_66 ?_
  refine j_istore_n (lv' := [(1, .int 0), (0, .ref h0)]) h dX3_drawMasks_67 rfl (by decide) rfl ?_
  refine j_iload_n h 0 rfl rfl dX3_drawMasks_68 ?_
  refine j_iconst (v := 1) h (by decide) dX3_drawMasks_69 ?_
  refine j_icmp_gt h 131 dX3_drawMasks_70 (by decide) (fun q => absurd q (by decide)) (fun _ => ?_)
  refine j_aload_n h 1 rfl rfl dX3_drawMasks_73 ?_
  refine j_get h iw_X3 0 rfl rfl 5 (by decide) tw_384 rfl dX3_drawMasks_74 ?_
  refine j_iload_n h 0 rfl rfl dX3_drawMasks_77 ?_
  refine j_lconst (v := 0) h (by decide) dX3_drawMasks_78 ?_
  refine j_last (ws' := [(h0, .inr (3, [.ref a0, .ref a1, .ref a2, .ref a3, .ref a4, .ref a5, .ref a6, .ref a7, .int 0, .int (nI j), .int 0])), (a3, .inl (kA 7, 8, .inr (.inr (.inr (.inr (nx_q a3 8)))))), ((a3 + 1 + 0), .inl (kA 2, 61, .inr (.inl f0))), ((a3 + 1 + 1), .inl (kA 2, 61, .inr (.inl f1))), (a5, .inl (kA 2, 2, .inr (.inl (vp_updL f5 0 0)))), (a6, .inl (kA 2, 2, .inr (.inl f6)))]) h 4 rfl 0 (by decide) (by decide) (by decide) dX3_drawMasks_79 rfl ?_
  refine j_iconst (v := 0) h (by decide) dX3_drawMasks_80 ?_
  refine j_istore_n (lv' := [(2, .int 0), (1, .int 0), (0, .ref h0)]) h dX3_drawMasks_81 rfl (by decide) rfl ?_
  have lp82_2 : ∀ (n82_2 k82_2 : Nat), k82_2 + n82_2 = j + 1 → ∀ (f82_2_0 : Nat → Int64), J x [(h0, .inr (3, [.ref a0, .ref a1, .ref a2, .ref a3, .ref a4, .ref a5, .ref a6, .ref a7, .int 0, .int (nI j), .int 0])), (a3, .inl (kA 7, 8, .inr (.inr (.inr (.inr (nx_q a3 8)))))), ((a3 + 1 + 0), .inl (kA 2, 61, .inr (.inl f0))), ((a3 + 1 + 1), .inl (kA 2, 61, .inr (.inl f1))), (a5, .inl (kA 2, 2, .inr (.inl f82_2_0))), (a6, .inl (kA 2, 2, .inr (.inl f6)))] [(2, .int (nI k82_2)), (1, .int 0), (0, .ref h0)] 0 0 82 [] := by
    intro n82_2
    induction n82_2 with
    | zero =>
      intro k82_2 hk82_2 f82_2_0
      have hN82_2 : j + 1 = k82_2 := by omega
      subst hN82_2
      refine j_iload_n h 0 rfl rfl dX3_drawMasks_82 ?_
      refine j_aload_n h 2 rfl rfl dX3_drawMasks_83 ?_
      refine j_get h iw_X3 0 rfl rfl 9 (by decide) tw_389 rfl dX3_drawMasks_84 ?_
      refine j_icmp_gt h 125 dX3_drawMasks_87 (by decide) (fun _ => ?_) (fun q => absurd (nI_lt (by omega) (by omega)) q)
      refine j_iinc (v := 1) (lv' := [(1, .int 1), (2, .int (nI (j + 1))), (0, .ref h0)]) h dX3_drawMasks_125 1 rfl (by decide) (by decide) rfl ?_
      refine j_goto h 68 dX3_drawMasks_128 (by decide) ?_
      refine j_iload_n h 0 rfl rfl dX3_drawMasks_68 ?_
      refine j_iconst (v := 1) h (by decide) dX3_drawMasks_69 ?_
      refine j_icmp_gt h 131 dX3_drawMasks_70 (by decide) (fun q => absurd q (by decide)) (fun _ => ?_)
      refine j_aload_n h 2 rfl rfl dX3_drawMasks_73 ?_
      refine j_get h iw_X3 0 rfl rfl 5 (by decide) tw_384 rfl dX3_drawMasks_74 ?_
      refine j_iload_n h 0 rfl rfl dX3_drawMasks_77 ?_
      refine j_lconst (v := 0) h (by decide) dX3_drawMasks_78 ?_
      refine j_last (ws' := [(h0, .inr (3, [.ref a0, .ref a1, .ref a2, .ref a3, .ref a4, .ref a5, .ref a6, .ref a7, .int 0, .int (nI j), .int 0])), (a3, .inl (kA 7, 8, .inr (.inr (.inr (.inr (nx_q a3 8)))))), ((a3 + 1 + 0), .inl (kA 2, 61, .inr (.inl f0))), ((a3 + 1 + 1), .inl (kA 2, 61, .inr (.inl f1))), (a5, .inl (kA 2, 2, .inr (.inl (vp_updL f82_2_0 1 0)))), (a6, .inl (kA 2, 2, .inr (.inl f6)))]) h 4 rfl 1 (by decide) (by decide) (by decide) dX3_drawMasks_79 rfl ?_
      refine j_iconst (v := 0) h (by decide) dX3_drawMasks_80 ?_
      refine j_istore_n (lv' := [(2, .int 0), (1, .int 1), (0, .ref h0)]) h dX3_drawMasks_81 rfl (by decide) rfl ?_
      have lp82_3 : ∀ (n82_3 k82_3 : Nat), k82_3 + n82_3 = j + 1 → ∀ (f82_3_0 : Nat → Int64), J x [(h0, .inr (3, [.ref a0, .ref a1, .ref a2, .ref a3, .ref a4, .ref a5, .ref a6, .ref a7, .int 0, .int (nI j), .int 0])), (a3, .inl (kA 7, 8, .inr (.inr (.inr (.inr (nx_q a3 8)))))), ((a3 + 1 + 0), .inl (kA 2, 61, .inr (.inl f0))), ((a3 + 1 + 1), .inl (kA 2, 61, .inr (.inl f1))), (a5, .inl (kA 2, 2, .inr (.inl f82_3_0))), (a6, .inl (kA 2, 2, .inr (.inl f6)))] [(2, .int (nI k82_3)), (1, .int 1), (0, .ref h0)] 0 0 82 [] := by
        intro n82_3
        induction n82_3 with
        | zero =>
          intro k82_3 hk82_3 f82_3_0
          have hN82_3 : j + 1 = k82_3 := by omega
          subst hN82_3
          refine j_iload_n h 0 rfl rfl dX3_drawMasks_82 ?_
          refine j_aload_n h 2 rfl rfl dX3_drawMasks_83 ?_
          refine j_get h iw_X3 0 rfl rfl 9 (by decide) tw_389 rfl dX3_drawMasks_84 ?_
          refine j_icmp_gt h 125 dX3_drawMasks_87 (by decide) (fun _ => ?_) (fun q => absurd (nI_lt (by omega) (by omega)) q)
          refine j_iinc (v := 2) (lv' := [(1, .int 2), (2, .int (nI (j + 1))), (0, .ref h0)]) h dX3_drawMasks_125 1 rfl (by decide) (by decide) rfl ?_
          refine j_goto h 68 dX3_drawMasks_128 (by decide) ?_
          refine j_iload_n h 0 rfl rfl dX3_drawMasks_68 ?_
          refine j_iconst (v := 1) h (by decide) dX3_drawMasks_69 ?_
          refine j_icmp_gt h 131 dX3_drawMasks_70 (by decide) (fun _ => ?_) (fun q => absurd (by decide) q)
          refine j_aload_n h 2 rfl rfl dX3_drawMasks_131 ?_
          refine j_get h iw_X3 0 rfl rfl 6 (by decide) tw_385 rfl dX3_drawMasks_132 ?_
          refine j_iconst (v := 0) h (by decide) dX3_drawMasks_135 ?_
          refine j_lconst (v := 1) h (by decide) dX3_drawMasks_136 ?_
          refine j_last (ws' := [(h0, .inr (3, [.ref a0, .ref a1, .ref a2, .ref a3, .ref a4, .ref a5, .ref a6, .ref a7, .int 0, .int (nI j), .int 0])), (a3, .inl (kA 7, 8, .inr (.inr (.inr (.inr (nx_q a3 8)))))), ((a3 + 1 + 0), .inl (kA 2, 61, .inr (.inl f0))), ((a3 + 1 + 1), .inl (kA 2, 61, .inr (.inl f1))), (a5, .inl (kA 2, 2, .inr (.inl f82_3_0))), (a6, .inl (kA 2, 2, .inr (.inl (vp_updL f6 0 1))))]) h 5 rfl 0 (by decide) (by decide) (by decide) dX3_drawMasks_137 rfl ?_
          refine j_aload_n h 2 rfl rfl dX3_drawMasks_138 ?_
          refine j_get h iw_X3 0 rfl rfl 6 (by decide) tw_385 rfl dX3_drawMasks_139 ?_
          refine j_iconst (v := 1) h (by decide) dX3_drawMasks_142 ?_
          refine j_lconst (v := 0) h (by decide) dX3_drawMasks_143 ?_
          refine j_last (ws' := [(h0, .inr (3, [.ref a0, .ref a1, .ref a2, .ref a3, .ref a4, .ref a5, .ref a6, .ref a7, .int 0, .int (nI j), .int 0])), (a3, .inl (kA 7, 8, .inr (.inr (.inr (.inr (nx_q a3 8)))))), ((a3 + 1 + 0), .inl (kA 2, 61, .inr (.inl f0))), ((a3 + 1 + 1), .inl (kA 2, 61, .inr (.inl f1))), (a5, .inl (kA 2, 2, .inr (.inl f82_3_0))), (a6, .inl (kA 2, 2, .inr (.inl (vp_updL (vp_updL f6 0 1) 1 0))))]) h 5 rfl 1 (by decide) (by decide) (by decide) dX3_drawMasks_144 rfl ?_
          exact j_vret h hq dX3_drawMasks_145 (vp_updL (vp_updL f6 0 1) 1 0) [0, 5] rfl rfl (by decide) trivial (Nat.le_of_ble_eq_true rfl) (Nat.le_of_ble_eq_true rfl)
        | succ n82_3 ih82_3 =>
          intro k82_3 hk82_3 f82_3_0
          have hlt82_3 : k82_3 < j + 1 := by omega
          refine j_iload_n h 0 rfl rfl dX3_drawMasks_82 ?_
          refine j_aload_n h 2 rfl rfl dX3_drawMasks_83 ?_
          refine j_get h iw_X3 0 rfl rfl 9 (by decide) tw_389 rfl dX3_drawMasks_84 ?_
          refine j_icmp_gt h 125 dX3_drawMasks_87 (by decide) (fun q => absurd q (nI_nlt (by omega) (by omega))) (fun _ => ?_)
          refine j_aload_n h 2 rfl rfl dX3_drawMasks_90 ?_
          refine j_get h iw_X3 0 rfl rfl 5 (by decide) tw_384 rfl dX3_drawMasks_91 ?_
          refine j_iload_n h 1 rfl rfl dX3_drawMasks_94 ?_
          refine j_dup2 h rfl rfl dX3_drawMasks_95 ?_
          refine j_lald h 4 rfl 1 (by decide) (by decide) (by decide) dX3_drawMasks_96 ?_
          refine j_aload_n h 2 rfl rfl dX3_drawMasks_97 ?_
          refine j_get h iw_X3 0 rfl rfl 3 (by decide) tw_382 rfl dX3_drawMasks_98 ?_
          refine j_iload_n h 1 rfl rfl dX3_drawMasks_101 ?_
          refine j_aldA h 1 7 rfl rfl 1 (by decide) (by decide) (by decide) (rfl) dX3_drawMasks_102 ?_
          refine j_iload_n h 0 rfl rfl dX3_drawMasks_103 ?_
          refine j_lald h 3 rfl k82_3 rfl (by omega) (by decide) dX3_drawMasks_104 ?_
          refine j_lconst (v := 0) h (by decide) dX3_drawMasks_105 ?_
          refine j_lcmp h dX3_drawMasks_106 ?_
          refine j_if_le h 116 dX3_drawMasks_107 (by decide) (fun z322 => ?_) (fun z322 => ?_)
          · refine j_lconst (v := 0) h (by decide) dX3_drawMasks_116 ?_
            refine j_lor h dX3_drawMasks_117 ?_
            refine j_last (ws' := [(h0, .inr (3, [.ref a0, .ref a1, .ref a2, .ref a3, .ref a4, .ref a5, .ref a6, .ref a7, .int 0, .int (nI j), .int 0])), (a3, .inl (kA 7, 8, .inr (.inr (.inr (.inr (nx_q a3 8)))))), ((a3 + 1 + 0), .inl (kA 2, 61, .inr (.inl f0))), ((a3 + 1 + 1), .inl (kA 2, 61, .inr (.inl f1))), (a5, .inl (kA 2, 2, .inr (.inl (vp_updL f82_3_0 1 ((f82_3_0 1) ||| 0))))), (a6, .inl (kA 2, 2, .inr (.inl f6)))]) h 4 rfl 1 (by decide) (by decide) (by decide) dX3_drawMasks_118 rfl ?_
            refine j_iinc (v := nI (k82_3 + 1)) (lv' := [(2, .int (nI (k82_3 + 1))), (1, .int 1), (0, .ref h0)]) h dX3_drawMasks_119 0 rfl (nI_1 k82_3) (by decide) rfl ?_
            refine j_goto h 82 dX3_drawMasks_122 (by decide) ?_
            refine j_sub [0, 1, 2, 3, 4, 5] (ws' := [(h0, .inr (3, [.ref a0, .ref a1, .ref a2, .ref a3, .ref a4, .ref a5, .ref a6, .ref a7, .int 0, .int (nI j), .int 0])), (a3, .inl (kA 7, 8, .inr (.inr (.inr (.inr (nx_q a3 8)))))), ((a3 + 1 + 0), .inl (kA 2, 61, .inr (.inl f0))), ((a3 + 1 + 1), .inl (kA 2, 61, .inr (.inl f1))), (a5, .inl (kA 2, 2, .inr (.inl (vp_updL f82_3_0 1 ((f82_3_0 1) ||| 0))))), (a6, .inl (kA 2, 2, .inr (.inl f6)))]) rfl rfl (by decide) [0, 1, 2] (lv' := [(2, .int (nI (k82_3 + 1))), (1, .int 1), (0, .ref h0)]) rfl ?_
            exact ih82_3 (k82_3 + 1) (by omega) (vp_updL f82_3_0 1 ((f82_3_0 1) ||| 0))
          · refine j_lconst (v := 1) h (by decide) dX3_drawMasks_110 ?_
            refine j_iload_n h 0 rfl rfl dX3_drawMasks_111 ?_
            refine j_lshl h dX3_drawMasks_112 ?_
            refine j_goto h 117 dX3_drawMasks_113 (by decide) ?_
            refine j_lor h dX3_drawMasks_117 ?_
            refine j_last (ws' := [(h0, .inr (3, [.ref a0, .ref a1, .ref a2, .ref a3, .ref a4, .ref a5, .ref a6, .ref a7, .int 0, .int (nI j), .int 0])), (a3, .inl (kA 7, 8, .inr (.inr (.inr (.inr (nx_q a3 8)))))), ((a3 + 1 + 0), .inl (kA 2, 61, .inr (.inl f0))), ((a3 + 1 + 1), .inl (kA 2, 61, .inr (.inl f1))), (a5, .inl (kA 2, 2, .inr (.inl (vp_updL f82_3_0 1 ((f82_3_0 1) ||| (1 <<< ((nI k82_3).toInt64 &&& 63))))))), (a6, .inl (kA 2, 2, .inr (.inl f6)))]) h 4 rfl 1 (by decide) (by decide) (by decide) dX3_drawMasks_118 rfl ?_
            refine j_iinc (v := nI (k82_3 + 1)) (lv' := [(2, .int (nI (k82_3 + 1))), (1, .int 1), (0, .ref h0)]) h dX3_drawMasks_119 0 rfl (nI_1 k82_3) (by decide) rfl ?_
            refine j_goto h 82 dX3_drawMasks_122 (by decide) ?_
            refine j_sub [0, 1, 2, 3, 4, 5] (ws' := [(h0, .inr (3, [.ref a0, .ref a1, .ref a2, .ref a3, .ref a4, .ref a5, .ref a6, .ref a7, .int 0, .int (nI j), .int 0])), (a3, .inl (kA 7, 8, .inr (.inr (.inr (.inr (nx_q a3 8)))))), ((a3 + 1 + 0), .inl (kA 2, 61, .inr (.inl f0))), ((a3 + 1 + 1), .inl (kA 2, 61, .inr (.inl f1))), (a5, .inl (kA 2, 2, .inr (.inl (vp_updL f82_3_0 1 ((f82_3_0 1) ||| (1 <<< ((nI k82_3).toInt64 &&& 63))))))), (a6, .inl (kA 2, 2, .inr (.inl f6)))]) rfl rfl (by decide) [0, 1, 2] (lv' := [(2, .int (nI (k82_3 + 1))), (1, .int 1), (0, .ref h0)]) rfl ?_
            exact ih82_3 (k82_3 + 1) (by omega) (vp_updL f82_3_0 1 ((f82_3_0 1) ||| (1 <<< ((nI k82_3).toInt64 &&& 63))))
      refine j_sub [0, 1, 2, 3, 4, 5] (ws' := [(h0, .inr (3, [.ref a0, .ref a1, .ref a2, .ref a3, .ref a4, .ref a5, .ref a6, .ref a7, .int 0, .int (nI j), .int 0])), (a3, .inl (kA 7, 8, .inr (.inr (.inr (.inr (nx_q a3 8)))))), ((a3 + 1 + 0), .inl (kA 2, 61, .inr (.inl f0))), ((a3 + 1 + 1), .inl (kA 2, 61, .inr (.inl f1))), (a5, .inl (kA 2, 2, .inr (.inl (vp_updL f82_2_0 1 0)))), (a6, .inl (kA 2, 2, .inr (.inl f6)))]) rfl rfl (by decide) [0, 1, 2] (lv' := [(2, .int 0), (1, .int 1), (0, .ref h0)]) rfl ?_
      exact lp82_3 (j + 1) 0 (by omega) (vp_updL f82_2_0 1 0)
    | succ n82_2 ih82_2 =>
      intro k82_2 hk82_2 f82_2_0
      have hlt82_2 : k82_2 < j + 1 := by omega
      refine j_iload_n h 0 rfl rfl dX3_drawMasks_82 ?_
      refine j_aload_n h 2 rfl rfl dX3_drawMasks_83 ?_
      refine j_get h iw_X3 0 rfl rfl 9 (by decide) tw_389 rfl dX3_drawMasks_84 ?_
      refine j_icmp_gt h 125 dX3_drawMasks_87 (by decide) (fun q => absurd q (nI_nlt (by omega) (by omega))) (fun _ => ?_)
      refine j_aload_n h 2 rfl rfl dX3_drawMasks_90 ?_
      refine j_get h iw_X3 0 rfl rfl 5 (by decide) tw_384 rfl dX3_drawMasks_91 ?_
      refine j_iload_n h 1 rfl rfl dX3_drawMasks_94 ?_
      refine j_dup2 h rfl rfl dX3_drawMasks_95 ?_
      refine j_lald h 4 rfl 0 (by decide) (by decide) (by decide) dX3_drawMasks_96 ?_
      refine j_aload_n h 2 rfl rfl dX3_drawMasks_97 ?_
      refine j_get h iw_X3 0 rfl rfl 3 (by decide) tw_382 rfl dX3_drawMasks_98 ?_
      refine j_iload_n h 1 rfl rfl dX3_drawMasks_101 ?_
      refine j_aldA h 1 7 rfl rfl 0 (by decide) (by decide) (by decide) (rfl) dX3_drawMasks_102 ?_
      refine j_iload_n h 0 rfl rfl dX3_drawMasks_103 ?_
      refine j_lald h 2 rfl k82_2 rfl (by omega) (by decide) dX3_drawMasks_104 ?_
      refine j_lconst (v := 0) h (by decide) dX3_drawMasks_105 ?_
      refine j_lcmp h dX3_drawMasks_106 ?_
      refine j_if_le h 116 dX3_drawMasks_107 (by decide) (fun z323 => ?_) (fun z323 => ?_)
      · refine j_lconst (v := 0) h (by decide) dX3_drawMasks_116 ?_
        refine j_lor h dX3_drawMasks_117 ?_
        refine j_last (ws' := [(h0, .inr (3, [.ref a0, .ref a1, .ref a2, .ref a3, .ref a4, .ref a5, .ref a6, .ref a7, .int 0, .int (nI j), .int 0])), (a3, .inl (kA 7, 8, .inr (.inr (.inr (.inr (nx_q a3 8)))))), ((a3 + 1 + 0), .inl (kA 2, 61, .inr (.inl f0))), ((a3 + 1 + 1), .inl (kA 2, 61, .inr (.inl f1))), (a5, .inl (kA 2, 2, .inr (.inl (vp_updL f82_2_0 0 ((f82_2_0 0) ||| 0))))), (a6, .inl (kA 2, 2, .inr (.inl f6)))]) h 4 rfl 0 (by decide) (by decide) (by decide) dX3_drawMasks_118 rfl ?_
        refine j_iinc (v := nI (k82_2 + 1)) (lv' := [(2, .int (nI (k82_2 + 1))), (1, .int 0), (0, .ref h0)]) h dX3_drawMasks_119 0 rfl (nI_1 k82_2) (by decide) rfl ?_
        refine j_goto h 82 dX3_drawMasks_122 (by decide) ?_
        refine j_sub [0, 1, 2, 3, 4, 5] (ws' := [(h0, .inr (3, [.ref a0, .ref a1, .ref a2, .ref a3, .ref a4, .ref a5, .ref a6, .ref a7, .int 0, .int (nI j), .int 0])), (a3, .inl (kA 7, 8, .inr (.inr (.inr (.inr (nx_q a3 8)))))), ((a3 + 1 + 0), .inl (kA 2, 61, .inr (.inl f0))), ((a3 + 1 + 1), .inl (kA 2, 61, .inr (.inl f1))), (a5, .inl (kA 2, 2, .inr (.inl (vp_updL f82_2_0 0 ((f82_2_0 0) ||| 0))))), (a6, .inl (kA 2, 2, .inr (.inl f6)))]) rfl rfl (by decide) [0, 1, 2] (lv' := [(2, .int (nI (k82_2 + 1))), (1, .int 0), (0, .ref h0)]) rfl ?_
        exact ih82_2 (k82_2 + 1) (by omega) (vp_updL f82_2_0 0 ((f82_2_0 0) ||| 0))
      · refine j_lconst (v := 1) h (by decide) dX3_drawMasks_110 ?_
        refine j_iload_n h 0 rfl rfl dX3_drawMasks_111 ?_
        refine j_lshl h dX3_drawMasks_112 ?_
        refine j_goto h 117 dX3_drawMasks_113 (by decide) ?_
        refine j_lor h dX3_drawMasks_117 ?_
        refine j_last (ws' := [(h0, .inr (3, [.ref a0, .ref a1, .ref a2, .ref a3, .ref a4, .ref a5, .ref a6, .ref a7, .int 0, .int (nI j), .int 0])), (a3, .inl (kA 7, 8, .inr (.inr (.inr (.inr (nx_q a3 8)))))), ((a3 + 1 + 0), .inl (kA 2, 61, .inr (.inl f0))), ((a3 + 1 + 1), .inl (kA 2, 61, .inr (.inl f1))), (a5, .inl (kA 2, 2, .inr (.inl (vp_updL f82_2_0 0 ((f82_2_0 0) ||| (1 <<< ((nI k82_2).toInt64 &&& 63))))))), (a6, .inl (kA 2, 2, .inr (.inl f6)))]) h 4 rfl 0 (by decide) (by decide) (by decide) dX3_drawMasks_118 rfl ?_
        refine j_iinc (v := nI (k82_2 + 1)) (lv' := [(2, .int (nI (k82_2 + 1))), (1, .int 0), (0, .ref h0)]) h dX3_drawMasks_119 0 rfl (nI_1 k82_2) (by decide) rfl ?_
        refine j_goto h 82 dX3_drawMasks_122 (by decide) ?_
        refine j_sub [0, 1, 2, 3, 4, 5] (ws' := [(h0, .inr (3, [.ref a0, .ref a1, .ref a2, .ref a3, .ref a4, .ref a5, .ref a6, .ref a7, .int 0, .int (nI j), .int 0])), (a3, .inl (kA 7, 8, .inr (.inr (.inr (.inr (nx_q a3 8)))))), ((a3 + 1 + 0), .inl (kA 2, 61, .inr (.inl f0))), ((a3 + 1 + 1), .inl (kA 2, 61, .inr (.inl f1))), (a5, .inl (kA 2, 2, .inr (.inl (vp_updL f82_2_0 0 ((f82_2_0 0) ||| (1 <<< ((nI k82_2).toInt64 &&& 63))))))), (a6, .inl (kA 2, 2, .inr (.inl f6)))]) rfl rfl (by decide) [0, 1, 2] (lv' := [(2, .int (nI (k82_2 + 1))), (1, .int 0), (0, .ref h0)]) rfl ?_
        exact ih82_2 (k82_2 + 1) (by omega) (vp_updL f82_2_0 0 ((f82_2_0 0) ||| (1 <<< ((nI k82_2).toInt64 &&& 63))))
  refine j_sub [0, 1, 2, 3, 4, 5] (ws' := [(h0, .inr (3, [.ref a0, .ref a1, .ref a2, .ref a3, .ref a4, .ref a5, .ref a6, .ref a7, .int 0, .int (nI j), .int 0])), (a3, .inl (kA 7, 8, .inr (.inr (.inr (.inr (nx_q a3 8)))))), ((a3 + 1 + 0), .inl (kA 2, 61, .inr (.inl f0))), ((a3 + 1 + 1), .inl (kA 2, 61, .inr (.inl f1))), (a5, .inl (kA 2, 2, .inr (.inl (vp_updL f5 0 0)))), (a6, .inl (kA 2, 2, .inr (.inl f6)))]) rfl rfl (by decide) [0, 1, 2] (lv' := [(2, .int 0), (1, .int 0), (0, .ref h0)]) rfl ?_
  exact lp82_2 (j + 1) 0 (by omega) (vp_updL f5 0 0)
set_option maxHeartbeats 4000000 in
set_option maxRecDepth 100000 in
theorem c_X3_standingAt (l : Launch) (g : va_G) (kA : Nat → ClassId) (h0 : Nat) (a0 : Nat) (a1 : Nat) (a2 : Nat) (a3 : Nat) (a4 : Nat) (a5 : Nat) (a6 : Nat) (a7 : Nat) (j : Nat) (f0 : Nat → Int64) (f1 : Nat → Int64) (f5 : Nat → Int64) (f6 : Nat → Int64) (f7 : Nat → Int64) (pl : Nat) (hj : j ≤ 60) (hp : pl ≤ 59) : CtI l yX3_standingAt cX3_standingAt 4 (some .int) 2 0 0 g kA [.ref h0, .int (nI pl)] [(h0, .inr (3, [.ref a0, .ref a1, .ref a2, .ref a3, .ref a4, .ref a5, .ref a6, .ref a7, .int 0, .int (nI j), .int 0])), (a3, .inl (kA 7, 8, .inr (.inr (.inr (.inr (nx_q a3 8)))))), ((a3 + 1 + 0), .inl (kA 2, 61, .inr (.inl f0))), ((a3 + 1 + 1), .inl (kA 2, 61, .inr (.inl f1))), (a5, .inl (kA 2, 2, .inr (.inl f5))), (a6, .inl (kA 2, 2, .inr (.inl f6))), (a7, .inl (kA 2, 2, .inr (.inl f7)))] (S := Unit) (fun (r : Int32) (_ : Unit) => r = 0) (fun (_ : Unit) => []) := by
  refine nx_startI (by decide +kernel) (Nat.le_of_ble_eq_true rfl) ?_
  intro x hnm h hq
  have h : Ok x cX3_standingAt RX3 kA (rmC 2 0 0) 4 := h
  show J x [(h0, .inr (3, [.ref a0, .ref a1, .ref a2, .ref a3, .ref a4, .ref a5, .ref a6, .ref a7, .int 0, .int (nI j), .int 0])), (a3, .inl (kA 7, 8, .inr (.inr (.inr (.inr (nx_q a3 8)))))), ((a3 + 1 + 0), .inl (kA 2, 61, .inr (.inl f0))), ((a3 + 1 + 1), .inl (kA 2, 61, .inr (.inl f1))), (a5, .inl (kA 2, 2, .inr (.inl f5))), (a6, .inl (kA 2, 2, .inr (.inl f6))), (a7, .inl (kA 2, 2, .inr (.inl f7)))] [(0, .ref h0), (1, .int (nI pl))] 0 0 0 []
  refine j_aload_n h 0 rfl rfl dX3_standingAt_0 ?_
  refine j_callVv (np := 0) (isC := [0, 1, 2, 3, 4, 5]) (isR := [6]) (wc := [(h0, .inr (3, [.ref a0, .ref a1, .ref a2, .ref a3, .ref a4, .ref a5, .ref a6, .ref a7, .int 0, .int (nI j), .int 0])), (a3, .inl (kA 7, 8, .inr (.inr (.inr (.inr (nx_q a3 8)))))), ((a3 + 1 + 0), .inl (kA 2, 61, .inr (.inl f0))), ((a3 + 1 + 1), .inl (kA 2, 61, .inr (.inl f1))), (a5, .inl (kA 2, 2, .inr (.inl f5))), (a6, .inl (kA 2, 2, .inr (.inl f6)))]) (wr := [(a7, .inl (kA 2, 2, .inr (.inl f7)))]) (rest := []) (As := []) (q0 := 0) h (c_X3_drawMasks _ _ kA h0 a0 a1 a2 a3 a4 a5 a6 a7 j f0 f1 f5 f6 hj) tw_1115 tw_1117 tw_35 tw_95 tw_1118 (by decide +kernel) rfl ⟨Nat.le_of_ble_eq_true rfl, Nat.le_of_ble_eq_true rfl⟩ rfl rfl rfl (by decide) rfl rfl (by decide) (by decide) (Nat.le_of_ble_eq_true rfl) rfl ⟨Nat.le_of_ble_eq_true rfl, Nat.le_of_ble_eq_true rfl⟩ dX3_standingAt_1 ?_
  rintro q324 e325
  show J x [(a7, .inl (kA 2, 2, .inr (.inl f7))), (h0, .inr (3, [.ref a0, .ref a1, .ref a2, .ref a3, .ref a4, .ref a5, .ref a6, .ref a7, .int 0, .int (nI j), .int 0])), (a6, .inl (kA 2, 2, .inr (.inl q324)))] [(0, .ref h0), (1, .int (nI pl))] 0 0 4 []
  refine j_iconst (v := 0) h (by decide) dX3_standingAt_4 ?_
  refine j_istore_n (lv' := [(2, .int 0), (0, .ref h0), (1, .int (nI pl))]) h dX3_standingAt_5 rfl (by decide) rfl ?_
  have lp6_4 : ∀ (n6_4 k6_4 : Nat), k6_4 + n6_4 = pl → ∀ (f6_4_0 : Nat → Int64) (f6_4_1 : Nat → Int64), J x [(a7, .inl (kA 2, 2, .inr (.inl f6_4_1))), (h0, .inr (3, [.ref a0, .ref a1, .ref a2, .ref a3, .ref a4, .ref a5, .ref a6, .ref a7, .int 0, .int (nI j), .int 0])), (a6, .inl (kA 2, 2, .inr (.inl f6_4_0)))] [(2, .int (nI k6_4)), (0, .ref h0), (1, .int (nI pl))] 0 0 6 [] := by
    intro n6_4
    induction n6_4 with
    | zero =>
      intro k6_4 hk6_4 f6_4_0 f6_4_1
      have hN6_4 : pl = k6_4 := by omega
      subst hN6_4
      refine j_iload_n h 0 rfl rfl dX3_standingAt_6 ?_
      refine j_iload_n h 2 rfl rfl dX3_standingAt_7 ?_
      refine j_icmp_ge h 27 dX3_standingAt_8 (by decide) (fun _ => ?_) (fun q => absurd (Int32.le_refl _) q)
      refine j_iconst (v := 0) h (by decide) dX3_standingAt_27 ?_
      refine j_istore_n (lv' := [(2, .int 0), (0, .ref h0), (1, .int (nI pl))]) h dX3_standingAt_28 rfl (by decide) rfl ?_
      refine j_iconst (v := 0) h (by decide) dX3_standingAt_29 ?_
      refine j_istore_n (lv' := [(3, .int 0), (2, .int 0), (0, .ref h0), (1, .int (nI pl))]) h dX3_standingAt_30 rfl (by decide) rfl ?_
      refine j_iload_n h 0 rfl rfl dX3_standingAt_31 ?_
      refine j_aload_n h 2 rfl rfl dX3_standingAt_32 ?_
      refine j_get h iw_X3 1 rfl rfl 8 (by decide) tw_387 rfl dX3_standingAt_33 ?_
      refine j_icmp_ge h 69 dX3_standingAt_36 (by decide) (fun _ => ?_) (fun q => absurd (by decide) q)
      refine j_iload_n h 1 rfl rfl dX3_standingAt_69 ?_
      exact j_iret h hq dX3_standingAt_70 () [] rfl rfl (by decide) (by first | rfl | simp only [↓reduceIte]) (Nat.le_of_ble_eq_true rfl) (Nat.le_of_ble_eq_true rfl)
    | succ n6_4 ih6_4 =>
      intro k6_4 hk6_4 f6_4_0 f6_4_1
      have hlt6_4 : k6_4 < pl := by omega
      refine j_iload_n h 0 rfl rfl dX3_standingAt_6 ?_
      refine j_iload_n h 2 rfl rfl dX3_standingAt_7 ?_
      refine j_icmp_ge h 27 dX3_standingAt_8 (by decide) (fun q => absurd q (nI_ge hlt6_4 (by omega))) (fun _ => ?_)
      refine j_iload_n h 0 rfl rfl dX3_standingAt_11 ?_
      refine j_bipush (v := 60) h (by decide) dX3_standingAt_12 ?_
      refine j_icmp_ge h 27 dX3_standingAt_14 (by decide) (fun q => absurd q (nI_ge (b := 60) (by omega) (by decide))) (fun _ => ?_)
      refine j_aload_n h 1 rfl rfl dX3_standingAt_17 ?_
      refine j_callVv (np := 0) (isC := [1, 2, 0]) (isR := []) (wc := [(h0, .inr (3, [.ref a0, .ref a1, .ref a2, .ref a3, .ref a4, .ref a5, .ref a6, .ref a7, .int 0, .int (nI j), .int 0])), (a6, .inl (kA 2, 2, .inr (.inl f6_4_0))), (a7, .inl (kA 2, 2, .inr (.inl f6_4_1)))]) (wr := []) (rest := []) (As := []) (q0 := 0) h (c_X3_reachNext _ _ kA h0 a0 a1 a2 a3 a4 a5 a6 a7 (nI j) f6_4_0 f6_4_1 ) tw_1119 tw_1121 tw_36 tw_95 tw_1122 (by decide +kernel) rfl ⟨Nat.le_of_ble_eq_true rfl, Nat.le_of_ble_eq_true rfl⟩ rfl rfl rfl (by decide) rfl rfl (by decide) (by decide) (Nat.le_of_ble_eq_true rfl) rfl ⟨Nat.le_of_ble_eq_true rfl, Nat.le_of_ble_eq_true rfl⟩ dX3_standingAt_18 ?_
      rintro ⟨q326, q327⟩ e328
      show J x [(h0, .inr (3, [.ref a0, .ref a1, .ref a2, .ref a3, .ref a4, .ref a5, .ref a6, .ref a7, .int 0, .int (nI j), .int 0])), (a6, .inl (kA 2, 2, .inr (.inl q326))), (a7, .inl (kA 2, 2, .inr (.inl q327)))] [(2, .int (nI k6_4)), (0, .ref h0), (1, .int (nI pl))] 0 0 21 []
      refine j_iinc (v := nI (k6_4 + 1)) (lv' := [(2, .int (nI (k6_4 + 1))), (0, .ref h0), (1, .int (nI pl))]) h dX3_standingAt_21 0 rfl (nI_1 k6_4) (by decide) rfl ?_
      refine j_goto h 6 dX3_standingAt_24 (by decide) ?_
      refine j_sub [2, 0, 1] (ws' := [(a7, .inl (kA 2, 2, .inr (.inl q327))), (h0, .inr (3, [.ref a0, .ref a1, .ref a2, .ref a3, .ref a4, .ref a5, .ref a6, .ref a7, .int 0, .int (nI j), .int 0])), (a6, .inl (kA 2, 2, .inr (.inl q326)))]) rfl rfl (by decide) [0, 1, 2] (lv' := [(2, .int (nI (k6_4 + 1))), (0, .ref h0), (1, .int (nI pl))]) rfl ?_
      exact ih6_4 (k6_4 + 1) (by omega) q326 q327
  refine j_sub [0, 1, 2] (ws' := [(a7, .inl (kA 2, 2, .inr (.inl f7))), (h0, .inr (3, [.ref a0, .ref a1, .ref a2, .ref a3, .ref a4, .ref a5, .ref a6, .ref a7, .int 0, .int (nI j), .int 0])), (a6, .inl (kA 2, 2, .inr (.inl q324)))]) rfl rfl (by decide) [0, 1, 2] (lv' := [(2, .int 0), (0, .ref h0), (1, .int (nI pl))]) rfl ?_
  exact lp6_4 pl 0 (by omega) q324 f7
set_option maxHeartbeats 4000000 in
set_option maxRecDepth 100000 in
theorem c_X11_can (l : Launch) (g : va_G) (kA : Nat → ClassId) (h0 : Nat) (u : Nat → Nat) (t : Int32) (p : Int32) (z : Int32)  : CtI l yX11_can cX11_can 4 (some .int) 5 0 0 g kA [.ref h0, .int t, .int p, .int z] [(h0, .inr (11, [.ref (u 0), .ref (u 1), .ref (u 2), .ref (u 3), .ref (u 4), .ref (u 5), .ref (u 6), .ref (u 7), .ref (u 8), .ref (u 9), .ref (u 10), .ref (u 11), .ref (u 12), .ref (u 13), .ref (u 14), .ref (u 15), .ref (u 16), .int 0, .int 0])), ((u 8), .inr (0, [.ref (u 63), .ref (u 64), .ref (u 65)])), ((u 65), .inl (kA 3, 4, .inl (fun _ => 0))), ((u 7), .inr (8, [.ref (u 57), .ref (u 58), .ref (u 59), .ref (u 60), .ref (u 61), .ref (u 62), .int 0])), ((u 9), .inr (3, [.ref (u 66), .ref (u 67), .ref (u 68), .ref (u 69), .ref (u 70), .ref (u 71), .ref (u 72), .ref (u 73), .int 0, .int 0, .int 0])), ((u 2), .inr (5, [.ref (u 18), .ref (u 19), .ref (u 20), .ref (u 21), .ref (u 22), .ref (u 23), .ref (u 24), .ref (u 25), .ref (u 26), .ref (u 27), .ref (u 28), .ref (u 29), .int 0, .int 0, .int 0])), ((u 4), .inr (2, [.ref (u 42), .ref (u 43), .int 0, .int 0, .int 0, .int 0])), ((u 10), .inr (3, [.ref (u 74), .ref (u 75), .ref (u 76), .ref (u 77), .ref (u 78), .ref (u 79), .ref (u 80), .ref (u 81), .int 0, .int 0, .int 0])), ((u 77), .inl (kA 7, 8, .inr (.inr (.inr (.inr (nx_q (u 77) 8)))))), (((u 77) + 1 + 0), .inl (kA 2, 61, .inr (.inl (fun _ => 0)))), (((u 77) + 1 + 1), .inl (kA 2, 61, .inr (.inl (fun _ => 0)))), ((u 79), .inl (kA 2, 2, .inr (.inl (fun _ => 0)))), ((u 80), .inl (kA 2, 2, .inr (.inl (fun _ => 0)))), ((u 81), .inl (kA 2, 2, .inr (.inl (fun _ => 0))))] (S := Unit) (fun (r : Int32) (_ : Unit) => r = vCan t p) (fun (_ : Unit) => []) := by
  refine nx_startI (by decide +kernel) (Nat.le_of_ble_eq_true rfl) ?_
  intro x hnm h hq
  have h : Ok x cX11_can RX11 kA (rmC 5 0 0) 4 := h
  show J x [(h0, .inr (11, [.ref (u 0), .ref (u 1), .ref (u 2), .ref (u 3), .ref (u 4), .ref (u 5), .ref (u 6), .ref (u 7), .ref (u 8), .ref (u 9), .ref (u 10), .ref (u 11), .ref (u 12), .ref (u 13), .ref (u 14), .ref (u 15), .ref (u 16), .int 0, .int 0])), ((u 8), .inr (0, [.ref (u 63), .ref (u 64), .ref (u 65)])), ((u 65), .inl (kA 3, 4, .inl (fun _ => 0))), ((u 7), .inr (8, [.ref (u 57), .ref (u 58), .ref (u 59), .ref (u 60), .ref (u 61), .ref (u 62), .int 0])), ((u 9), .inr (3, [.ref (u 66), .ref (u 67), .ref (u 68), .ref (u 69), .ref (u 70), .ref (u 71), .ref (u 72), .ref (u 73), .int 0, .int 0, .int 0])), ((u 2), .inr (5, [.ref (u 18), .ref (u 19), .ref (u 20), .ref (u 21), .ref (u 22), .ref (u 23), .ref (u 24), .ref (u 25), .ref (u 26), .ref (u 27), .ref (u 28), .ref (u 29), .int 0, .int 0, .int 0])), ((u 4), .inr (2, [.ref (u 42), .ref (u 43), .int 0, .int 0, .int 0, .int 0])), ((u 10), .inr (3, [.ref (u 74), .ref (u 75), .ref (u 76), .ref (u 77), .ref (u 78), .ref (u 79), .ref (u 80), .ref (u 81), .int 0, .int 0, .int 0])), ((u 77), .inl (kA 7, 8, .inr (.inr (.inr (.inr (nx_q (u 77) 8)))))), (((u 77) + 1 + 0), .inl (kA 2, 61, .inr (.inl (fun _ => 0)))), (((u 77) + 1 + 1), .inl (kA 2, 61, .inr (.inl (fun _ => 0)))), ((u 79), .inl (kA 2, 2, .inr (.inl (fun _ => 0)))), ((u 80), .inl (kA 2, 2, .inr (.inl (fun _ => 0)))), ((u 81), .inl (kA 2, 2, .inr (.inl (fun _ => 0))))] [(0, .ref h0), (1, .int t), (2, .int p), (3, .int z)] 0 0 0 []
  rcases bRg_cases t 60 (by decide) with ⟨hT, hc⟩ | ⟨hT, hc, hd⟩ | ⟨j, hj, rfl, hBj⟩
  · refine j_iload_n h 1 rfl rfl dX11_can_0 ?_
    refine j_if_lt h 20 dX11_can_1 (by decide) (fun _ => ?_) (fun q => absurd (hc) q)
    refine j_iconst (v := (-1)) h (by decide) dX11_can_20 ?_
    exact j_iret h hq dX11_can_21 () [] rfl rfl (by decide) (vCan_1 hT).symm (Nat.le_of_ble_eq_true rfl) (Nat.le_of_ble_eq_true rfl)
  · refine j_iload_n h 1 rfl rfl dX11_can_0 ?_
    refine j_if_lt h 20 dX11_can_1 (by decide) (fun q => absurd q (hc)) (fun _ => ?_)
    refine j_iload_n h 1 rfl rfl dX11_can_4 ?_
    refine j_bipush (v := 60) h (by decide) dX11_can_5 ?_
    refine j_icmp_gt h 20 dX11_can_7 (by decide) (fun _ => ?_) (fun q => absurd (hd) q)
    refine j_iconst (v := (-1)) h (by decide) dX11_can_20 ?_
    exact j_iret h hq dX11_can_21 () [] rfl rfl (by decide) (vCan_1 hT).symm (Nat.le_of_ble_eq_true rfl) (Nat.le_of_ble_eq_true rfl)
  · rcases bRg_cases p 59 (by decide) with ⟨hU, hc⟩ | ⟨hU, hc, hd⟩ | ⟨pl, hp, rfl, hBp⟩
    · refine j_iload_n h 1 rfl rfl dX11_can_0 ?_
      refine j_if_lt h 20 dX11_can_1 (by decide) (fun q => absurd q (nI_pos (by omega))) (fun _ => ?_)
      refine j_iload_n h 1 rfl rfl dX11_can_4 ?_
      refine j_bipush (v := 60) h (by decide) dX11_can_5 ?_
      refine j_icmp_gt h 20 dX11_can_7 (by decide) (fun q => absurd q (nI_nlt (a := 60) (by omega) (by decide))) (fun _ => ?_)
      refine j_iload_n h 2 rfl rfl dX11_can_10 ?_
      refine j_if_lt h 20 dX11_can_11 (by decide) (fun _ => ?_) (fun q => absurd (hc) q)
      refine j_iconst (v := (-1)) h (by decide) dX11_can_20 ?_
      exact j_iret h hq dX11_can_21 () [] rfl rfl (by decide) (vCan_2 hU).symm (Nat.le_of_ble_eq_true rfl) (Nat.le_of_ble_eq_true rfl)
    · refine j_iload_n h 1 rfl rfl dX11_can_0 ?_
      refine j_if_lt h 20 dX11_can_1 (by decide) (fun q => absurd q (nI_pos (by omega))) (fun _ => ?_)
      refine j_iload_n h 1 rfl rfl dX11_can_4 ?_
      refine j_bipush (v := 60) h (by decide) dX11_can_5 ?_
      refine j_icmp_gt h 20 dX11_can_7 (by decide) (fun q => absurd q (nI_nlt (a := 60) (by omega) (by decide))) (fun _ => ?_)
      refine j_iload_n h 2 rfl rfl dX11_can_10 ?_
      refine j_if_lt h 20 dX11_can_11 (by decide) (fun q => absurd q (hc)) (fun _ => ?_)
      refine j_iload_n h 2 rfl rfl dX11_can_14 ?_
      refine j_bipush (v := 60) h (by decide) dX11_can_15 ?_
      refine j_icmp_lt h 22 dX11_can_17 (by decide) (fun q => absurd q ((fun q9 => absurd hd (Int32.not_lt.mpr (le59 q9))))) (fun _ => ?_)
      refine j_iconst (v := (-1)) h (by decide) dX11_can_20 ?_
      exact j_iret h hq dX11_can_21 () [] rfl rfl (by decide) (vCan_2 hU).symm (Nat.le_of_ble_eq_true rfl) (Nat.le_of_ble_eq_true rfl)
    · refine j_iload_n h 1 rfl rfl dX11_can_0 ?_
      refine j_if_lt h 20 dX11_can_1 (by decide) (fun q => absurd q (nI_pos (by omega))) (fun _ => ?_)
      refine j_iload_n h 1 rfl rfl dX11_can_4 ?_
      refine j_bipush (v := 60) h (by decide) dX11_can_5 ?_
      refine j_icmp_gt h 20 dX11_can_7 (by decide) (fun q => absurd q (nI_nlt (a := 60) (by omega) (by decide))) (fun _ => ?_)
      refine j_iload_n h 2 rfl rfl dX11_can_10 ?_
      refine j_if_lt h 20 dX11_can_11 (by decide) (fun q => absurd q (nI_pos (by omega))) (fun _ => ?_)
      refine j_iload_n h 2 rfl rfl dX11_can_14 ?_
      refine j_bipush (v := 60) h (by decide) dX11_can_15 ?_
      refine j_icmp_lt h 22 dX11_can_17 (by decide) (fun _ => ?_) (fun q => absurd (nI_lt (b := 60) (by omega) (by decide)) q)
      refine j_aload_n h 0 rfl rfl dX11_can_22 ?_
      refine j_iload_n h 1 rfl rfl dX11_can_23 ?_
      refine j_iload_n h 3 rfl rfl dX11_can_24 ?_
      refine j_callVi (np := 2) (isC := [0, 1, 2, 3, 4, 5, 6, 7]) (isR := [8, 9, 10, 11, 12, 13]) (wc := [(h0, .inr (11, [.ref (u 0), .ref (u 1), .ref (u 2), .ref (u 3), .ref (u 4), .ref (u 5), .ref (u 6), .ref (u 7), .ref (u 8), .ref (u 9), .ref (u 10), .ref (u 11), .ref (u 12), .ref (u 13), .ref (u 14), .ref (u 15), .ref (u 16), .int 0, .int 0])), ((u 8), .inr (0, [.ref (u 63), .ref (u 64), .ref (u 65)])), ((u 65), .inl (kA 3, 4, .inl (fun _ => 0))), ((u 7), .inr (8, [.ref (u 57), .ref (u 58), .ref (u 59), .ref (u 60), .ref (u 61), .ref (u 62), .int 0])), ((u 9), .inr (3, [.ref (u 66), .ref (u 67), .ref (u 68), .ref (u 69), .ref (u 70), .ref (u 71), .ref (u 72), .ref (u 73), .int 0, .int 0, .int 0])), ((u 2), .inr (5, [.ref (u 18), .ref (u 19), .ref (u 20), .ref (u 21), .ref (u 22), .ref (u 23), .ref (u 24), .ref (u 25), .ref (u 26), .ref (u 27), .ref (u 28), .ref (u 29), .int 0, .int 0, .int 0])), ((u 4), .inr (2, [.ref (u 42), .ref (u 43), .int 0, .int 0, .int 0, .int 0])), ((u 10), .inr (3, [.ref (u 74), .ref (u 75), .ref (u 76), .ref (u 77), .ref (u 78), .ref (u 79), .ref (u 80), .ref (u 81), .int 0, .int 0, .int 0]))]) (wr := [((u 77), .inl (kA 7, 8, .inr (.inr (.inr (.inr (nx_q (u 77) 8)))))), (((u 77) + 1 + 0), .inl (kA 2, 61, .inr (.inl (fun _ => 0)))), (((u 77) + 1 + 1), .inl (kA 2, 61, .inr (.inl (fun _ => 0)))), ((u 79), .inl (kA 2, 2, .inr (.inl (fun _ => 0)))), ((u 80), .inl (kA 2, 2, .inr (.inl (fun _ => 0)))), ((u 81), .inl (kA 2, 2, .inr (.inl (fun _ => 0))))]) (rest := []) (As := [.int (nI j), .int z]) (q0 := 0) h (c_X11_fillMeant _ _ kA h0 u (nI j) z ) tw_1094 tw_1096 tw_34 tw_87 tw_1097 (by decide +kernel) rfl ⟨Nat.le_of_ble_eq_true rfl, Nat.le_of_ble_eq_true rfl⟩ rfl rfl rfl (by decide) rfl rfl (by decide) (by decide) (Nat.le_of_ble_eq_true rfl) rfl ⟨Nat.le_of_ble_eq_true rfl, Nat.le_of_ble_eq_true rfl⟩ dX11_can_25 ?_
      rintro r _ e329
      subst e329
      show J x [((u 77), .inl (kA 7, 8, .inr (.inr (.inr (.inr (nx_q (u 77) 8)))))), (((u 77) + 1 + 0), .inl (kA 2, 61, .inr (.inl (fun _ => 0)))), (((u 77) + 1 + 1), .inl (kA 2, 61, .inr (.inl (fun _ => 0)))), ((u 79), .inl (kA 2, 2, .inr (.inl (fun _ => 0)))), ((u 80), .inl (kA 2, 2, .inr (.inl (fun _ => 0)))), ((u 81), .inl (kA 2, 2, .inr (.inl (fun _ => 0)))), (h0, .inr (11, [.ref (u 0), .ref (u 1), .ref (u 2), .ref (u 3), .ref (u 4), .ref (u 5), .ref (u 6), .ref (u 7), .ref (u 8), .ref (u 9), .ref (u 10), .ref (u 11), .ref (u 12), .ref (u 13), .ref (u 14), .ref (u 15), .ref (u 16), .int 0, .int 0])), ((u 10), .inr (3, [.ref (u 74), .ref (u 75), .ref (u 76), .ref (u 77), .ref (u 78), .ref (u 79), .ref (u 80), .ref (u 81), .int 0, .int 0, .int 0]))] [(0, .ref h0), (1, .int (nI j)), (2, .int (nI pl)), (3, .int z)] 0 0 28 [.int 1]
      refine j_if_ne h 33 dX11_can_28 (by decide) (fun _ => ?_) (fun q => absurd q (by decide))
      refine j_aload_n h 0 rfl rfl dX11_can_33 ?_
      refine j_get h iw_X11 6 rfl rfl 10 (by decide) tw_485 rfl dX11_can_34 ?_
      refine j_iload_n h 1 rfl rfl dX11_can_37 ?_
      refine j_iconst (v := 0) h (by decide) dX11_can_38 ?_
      refine j_callVl (np := 2) (isC := [7, 0, 1, 2]) (isR := [3, 4, 5, 6]) (wc := [((u 10), .inr (3, [.ref (u 74), .ref (u 75), .ref (u 76), .ref (u 77), .ref (u 78), .ref (u 79), .ref (u 80), .ref (u 81), .int 0, .int 0, .int 0])), ((u 77), .inl (kA 7, 8, .inr (.inr (.inr (.inr (nx_q (u 77) 8)))))), (((u 77) + 1 + 0), .inl (kA 2, 61, .inr (.inl (fun _ => 0)))), (((u 77) + 1 + 1), .inl (kA 2, 61, .inr (.inl (fun _ => 0))))]) (wr := [((u 79), .inl (kA 2, 2, .inr (.inl (fun _ => 0)))), ((u 80), .inl (kA 2, 2, .inr (.inl (fun _ => 0)))), ((u 81), .inl (kA 2, 2, .inr (.inl (fun _ => 0)))), (h0, .inr (11, [.ref (u 0), .ref (u 1), .ref (u 2), .ref (u 3), .ref (u 4), .ref (u 5), .ref (u 6), .ref (u 7), .ref (u 8), .ref (u 9), .ref (u 10), .ref (u 11), .ref (u 12), .ref (u 13), .ref (u 14), .ref (u 15), .ref (u 16), .int 0, .int 0]))]) (rest := []) (As := [.int (nI j), .int 0]) (q0 := 0) h (c_X3_countWays _ _ kA (u 10) (u 74) (u 75) (u 76) (u 77) (u 78) (u 79) (u 80) (u 81) (fun _ => 0) (fun _ => 0) j (by omega)) tw_867 tw_868 tw_869 tw_95 tw_870 (by decide +kernel) rfl ⟨Nat.le_of_ble_eq_true rfl, Nat.le_of_ble_eq_true rfl⟩ rfl rfl rfl (by decide) rfl rfl (by decide) (by decide) (Nat.le_of_ble_eq_true rfl) rfl ⟨Nat.le_of_ble_eq_true rfl, Nat.le_of_ble_eq_true rfl⟩ dX11_can_39 ?_
      rintro r ⟨q330, q331⟩ e332
      subst e332
      show J x [((u 79), .inl (kA 2, 2, .inr (.inl (fun _ => 0)))), ((u 80), .inl (kA 2, 2, .inr (.inl (fun _ => 0)))), ((u 81), .inl (kA 2, 2, .inr (.inl (fun _ => 0)))), (h0, .inr (11, [.ref (u 0), .ref (u 1), .ref (u 2), .ref (u 3), .ref (u 4), .ref (u 5), .ref (u 6), .ref (u 7), .ref (u 8), .ref (u 9), .ref (u 10), .ref (u 11), .ref (u 12), .ref (u 13), .ref (u 14), .ref (u 15), .ref (u 16), .int 0, .int 0])), ((u 10), .inr (3, [.ref (u 74), .ref (u 75), .ref (u 76), .ref (u 77), .ref (u 78), .ref (u 79), .ref (u 80), .ref (u 81), .int 0, .int (nI j), .int 0])), ((u 77), .inl (kA 7, 8, .inr (.inr (.inr (.inr (nx_q (u 77) 8)))))), (((u 77) + 1 + 0), .inl (kA 2, 61, .inr (.inl q330))), (((u 77) + 1 + 1), .inl (kA 2, 61, .inr (.inl q331)))] [(0, .ref h0), (1, .int (nI j)), (2, .int (nI pl)), (3, .int z)] 0 0 42 [.long (vWy j)]
      refine j_pop2 h rfl dX11_can_42 ?_
      refine j_aload_n h 0 rfl rfl dX11_can_43 ?_
      refine j_get h iw_X11 3 rfl rfl 10 (by decide) tw_485 rfl dX11_can_44 ?_
      refine j_iload_n h 2 rfl rfl dX11_can_47 ?_
      refine j_callVi (np := 1) (isC := [4, 5, 6, 7, 0, 1, 2]) (isR := [3]) (wc := [((u 10), .inr (3, [.ref (u 74), .ref (u 75), .ref (u 76), .ref (u 77), .ref (u 78), .ref (u 79), .ref (u 80), .ref (u 81), .int 0, .int (nI j), .int 0])), ((u 77), .inl (kA 7, 8, .inr (.inr (.inr (.inr (nx_q (u 77) 8)))))), (((u 77) + 1 + 0), .inl (kA 2, 61, .inr (.inl q330))), (((u 77) + 1 + 1), .inl (kA 2, 61, .inr (.inl q331))), ((u 79), .inl (kA 2, 2, .inr (.inl (fun _ => 0)))), ((u 80), .inl (kA 2, 2, .inr (.inl (fun _ => 0)))), ((u 81), .inl (kA 2, 2, .inr (.inl (fun _ => 0))))]) (wr := [(h0, .inr (11, [.ref (u 0), .ref (u 1), .ref (u 2), .ref (u 3), .ref (u 4), .ref (u 5), .ref (u 6), .ref (u 7), .ref (u 8), .ref (u 9), .ref (u 10), .ref (u 11), .ref (u 12), .ref (u 13), .ref (u 14), .ref (u 15), .ref (u 16), .int 0, .int 0]))]) (rest := []) (As := [.int (nI pl)]) (q0 := 0) h (c_X3_standingAt _ _ kA (u 10) (u 74) (u 75) (u 76) (u 77) (u 78) (u 79) (u 80) (u 81) j q330 q331 (fun _ => 0) (fun _ => 0) (fun _ => 0) pl (by omega) (by omega)) tw_1111 tw_1112 tw_1113 tw_95 tw_1114 (by decide +kernel) rfl ⟨Nat.le_of_ble_eq_true rfl, Nat.le_of_ble_eq_true rfl⟩ rfl rfl rfl (by decide) rfl rfl (by decide) (by decide) (Nat.le_of_ble_eq_true rfl) rfl ⟨Nat.le_of_ble_eq_true rfl, Nat.le_of_ble_eq_true rfl⟩ dX11_can_48 ?_
      rintro r _ e333
      subst e333
      show J x [(h0, .inr (11, [.ref (u 0), .ref (u 1), .ref (u 2), .ref (u 3), .ref (u 4), .ref (u 5), .ref (u 6), .ref (u 7), .ref (u 8), .ref (u 9), .ref (u 10), .ref (u 11), .ref (u 12), .ref (u 13), .ref (u 14), .ref (u 15), .ref (u 16), .int 0, .int 0]))] [(0, .ref h0), (1, .int (nI j)), (2, .int (nI pl)), (3, .int z)] 0 0 51 [.int 0]
      exact j_iret h hq dX11_can_51 () [] rfl rfl (by decide) (vCan_3 hBj hBp).symm (Nat.le_of_ble_eq_true rfl) (Nat.le_of_ble_eq_true rfl)
set_option maxHeartbeats 4000000 in
set_option maxRecDepth 100000 in
theorem c_J7_fill (l : Launch) (g : va_G) (kA : Nat → ClassId) (r : Nat) (f : Nat → Int32) (v : Int32)  : CtV l yJ7_fill_53178 cJ7_fill_53178 4 (none) 1 0 0 g kA [.ref r, .int v] [(r, .inl (kA 1, 10, .inl f))] (S := (Nat → Int32)) (fun (f1 : (Nat → Int32)) => True) (fun (f1 : (Nat → Int32)) => [(r, .inl (kA 1, 10, .inl f1))]) := by
  refine nx_startV (by decide +kernel) (Nat.le_of_ble_eq_true rfl) ?_
  intro x hnm h hq
  have h : Ok x cJ7_fill_53178 RJ7 kA (rmC 1 0 0) 4 := h
  show J x [(r, .inl (kA 1, 10, .inl f))] [(0, .ref r), (1, .int v)] 0 0 0 []
  refine j_iconst (v := 0) h (by decide) dJ7_fill_53178_0 ?_
  refine j_istore_n (lv' := [(2, .int 0), (0, .ref r), (1, .int v)]) h dJ7_fill_53178_1 rfl (by decide) rfl ?_
  refine j_aload_n h 1 rfl rfl dJ7_fill_53178_2 ?_
  refine j_alen (v := 10) h 0 1 rfl rfl rfl dJ7_fill_53178_3 ?_
  refine j_istore_n (lv' := [(3, .int 10), (2, .int 0), (0, .ref r), (1, .int v)]) h dJ7_fill_53178_4 rfl (by decide) rfl ?_
  have lp5_5 : ∀ (n5_5 k5_5 : Nat), k5_5 + n5_5 = 10 → ∀ (f5_5_0 : Nat → Int32), J x [(r, .inl (kA 1, 10, .inl f5_5_0))] [(2, .int (nI k5_5)), (0, .ref r), (1, .int v), (3, .int 10)] 0 0 5 [] := by
    intro n5_5
    induction n5_5 with
    | zero =>
      intro k5_5 hk5_5 f5_5_0
      have hN5_5 : 10 = k5_5 := by omega
      subst hN5_5
      refine j_iload_n h 0 rfl rfl dJ7_fill_53178_5 ?_
      refine j_iload_n h 3 rfl rfl dJ7_fill_53178_6 ?_
      refine j_icmp_ge h 20 dJ7_fill_53178_7 (by decide) (fun _ => ?_) (fun q => absurd (by decide) q)
      exact j_vret h hq dJ7_fill_53178_20 f5_5_0 [0] rfl rfl (by decide) trivial (Nat.le_of_ble_eq_true rfl) (Nat.le_of_ble_eq_true rfl)
    | succ n5_5 ih5_5 =>
      intro k5_5 hk5_5 f5_5_0
      have hlt5_5 : k5_5 < 10 := by omega
      refine j_iload_n h 0 rfl rfl dJ7_fill_53178_5 ?_
      refine j_iload_n h 3 rfl rfl dJ7_fill_53178_6 ?_
      refine j_icmp_ge h 20 dJ7_fill_53178_7 (by decide) (fun q => absurd q (nI_ge (b := 10) hlt5_5 (by decide))) (fun _ => ?_)
      refine j_aload_n h 1 rfl rfl dJ7_fill_53178_10 ?_
      refine j_iload_n h 0 rfl rfl dJ7_fill_53178_11 ?_
      refine j_iload_n h 2 rfl rfl dJ7_fill_53178_12 ?_
      refine j_iast (ws' := [(r, .inl (kA 1, 10, .inl (upd f5_5_0 k5_5 v)))]) h 0 rfl k5_5 rfl (by omega) (by decide) dJ7_fill_53178_13 rfl ?_
      refine j_iinc (v := nI (k5_5 + 1)) (lv' := [(2, .int (nI (k5_5 + 1))), (0, .ref r), (1, .int v), (3, .int 10)]) h dJ7_fill_53178_14 0 rfl (nI_1 k5_5) (by decide) rfl ?_
      refine j_goto h 5 dJ7_fill_53178_17 (by decide) ?_
      refine j_sub [0] (ws' := [(r, .inl (kA 1, 10, .inl (upd f5_5_0 k5_5 v)))]) rfl rfl (by decide) [0, 1, 2, 3] (lv' := [(2, .int (nI (k5_5 + 1))), (0, .ref r), (1, .int v), (3, .int 10)]) rfl ?_
      exact ih5_5 (k5_5 + 1) (by omega) (upd f5_5_0 k5_5 v)
  refine j_sub [0] (ws' := [(r, .inl (kA 1, 10, .inl f))]) rfl rfl (by decide) [1, 2, 3, 0] (lv' := [(2, .int 0), (0, .ref r), (1, .int v), (3, .int 10)]) rfl ?_
  exact lp5_5 10 0 (by omega) f
set_option maxHeartbeats 4000000 in
set_option maxRecDepth 100000 in
theorem c_X1_countUses (l : Launch) (g : va_G) (kA : Nat → ClassId) (h0 : Nat) (a0 : Nat) (a1 : Nat) (a2 : Nat) (a3 : Nat) (t : Nat) (t0 : Nat) (f : Nat → Int32) (g1 : Nat → Int32)  : CtV l yX1_countUses cX1_countUses 3 (none) 2 0 0 g kA [.ref h0, .ref t] [(h0, .inr (1, [.ref a0, .ref a1, .ref a2, .ref a3])), (t, .inr (10, [.ref t0, .int 0, .int 0, .int 0])), (a0, .inl (kA 1, 10, .inl f)), (a3, .inl (kA 3, 10, .inl g1))] (S := Unit) (fun (_ : Unit) => True) (fun (_ : Unit) => [(h0, .inr (1, [.ref a0, .ref a1, .ref a2, .ref a3]))]) := by
  refine nx_startV (by decide +kernel) (Nat.le_of_ble_eq_true rfl) ?_
  intro x hnm h hq
  have h : Ok x cX1_countUses RX1 kA (rmC 2 0 0) 3 := h
  show J x [(h0, .inr (1, [.ref a0, .ref a1, .ref a2, .ref a3])), (t, .inr (10, [.ref t0, .int 0, .int 0, .int 0])), (a0, .inl (kA 1, 10, .inl f)), (a3, .inl (kA 3, 10, .inl g1))] [(0, .ref h0), (1, .ref t)] 0 0 0 []
  refine j_aload_n h 0 rfl rfl dX1_countUses_0 ?_
  refine j_get h iw_X1 0 rfl rfl 0 (by decide) tw_462 rfl dX1_countUses_1 ?_
  refine j_iconst (v := 0) h (by decide) dX1_countUses_4 ?_
  refine j_callSv (np := 2) (isC := [2]) (isR := [0, 1, 3]) (wc := [(a0, .inl (kA 1, 10, .inl f))]) (wr := [(h0, .inr (1, [.ref a0, .ref a1, .ref a2, .ref a3])), (t, .inr (10, [.ref t0, .int 0, .int 0, .int 0])), (a3, .inl (kA 3, 10, .inl g1))]) (rest := []) (As := [.ref a0, .int 0]) h (c_J7_fill _ _ kA a0 f 0 ) tw_1037 tw_829 tw_106 tw_830 (by decide +kernel) rfl ⟨Nat.le_of_ble_eq_true rfl, Nat.le_of_ble_eq_true rfl⟩ rfl (by decide) rfl rfl (by decide) (by decide) (Nat.le_of_ble_eq_true rfl) rfl ⟨Nat.le_of_ble_eq_true rfl, Nat.le_of_ble_eq_true rfl⟩ dX1_countUses_5 ?_
  rintro q334 e335
  show J x [(h0, .inr (1, [.ref a0, .ref a1, .ref a2, .ref a3])), (t, .inr (10, [.ref t0, .int 0, .int 0, .int 0])), (a3, .inl (kA 3, 10, .inl g1)), (a0, .inl (kA 1, 10, .inl q334))] [(0, .ref h0), (1, .ref t)] 0 0 8 []
  refine j_iconst (v := 0) h (by decide) dX1_countUses_8 ?_
  refine j_istore_n (lv' := [(2, .int 0), (0, .ref h0), (1, .ref t)]) h dX1_countUses_9 rfl (by decide) rfl ?_
  have lp10_6 : ∀ (n10_6 k10_6 : Nat), k10_6 + n10_6 = 10 → ∀ (f10_6_0 : Nat → Int32), J x [(h0, .inr (1, [.ref a0, .ref a1, .ref a2, .ref a3])), (t, .inr (10, [.ref t0, .int 0, .int 0, .int 0])), (a3, .inl (kA 3, 10, .inl f10_6_0)), (a0, .inl (kA 1, 10, .inl q334))] [(2, .int (nI k10_6)), (0, .ref h0), (1, .ref t)] 0 0 10 [] := by
    intro n10_6
    induction n10_6 with
    | zero =>
      intro k10_6 hk10_6 f10_6_0
      have hN10_6 : 10 = k10_6 := by omega
      subst hN10_6
      refine j_iload_n h 0 rfl rfl dX1_countUses_10 ?_
      refine j_bipush (v := 10) h (by decide) dX1_countUses_11 ?_
      refine j_icmp_ge h 29 dX1_countUses_13 (by decide) (fun _ => ?_) (fun q => absurd (by decide) q)
      refine j_iconst (v := 0) h (by decide) dX1_countUses_29 ?_
      refine j_istore_n (lv' := [(2, .int 0), (0, .ref h0), (1, .ref t)]) h dX1_countUses_30 rfl (by decide) rfl ?_
      refine j_iload_n h 0 rfl rfl dX1_countUses_31 ?_
      refine j_aload_n h 2 rfl rfl dX1_countUses_32 ?_
      refine j_get h iw_X10 1 rfl rfl 1 (by decide) tw_306 rfl dX1_countUses_33 ?_
      refine j_icmp_ge h 60 dX1_countUses_36 (by decide) (fun _ => ?_) (fun q => absurd (by decide) q)
      exact j_vret h hq dX1_countUses_60 () [0] rfl rfl (by decide) trivial (Nat.le_of_ble_eq_true rfl) (Nat.le_of_ble_eq_true rfl)
    | succ n10_6 ih10_6 =>
      intro k10_6 hk10_6 f10_6_0
      have hlt10_6 : k10_6 < 10 := by omega
      refine j_iload_n h 0 rfl rfl dX1_countUses_10 ?_
      refine j_bipush (v := 10) h (by decide) dX1_countUses_11 ?_
      refine j_icmp_ge h 29 dX1_countUses_13 (by decide) (fun q => absurd q (nI_ge (b := 10) hlt10_6 (by decide))) (fun _ => ?_)
      refine j_aload_n h 1 rfl rfl dX1_countUses_16 ?_
      refine j_get h iw_X1 0 rfl rfl 3 (by decide) tw_465 rfl dX1_countUses_17 ?_
      refine j_iload_n h 0 rfl rfl dX1_countUses_20 ?_
      refine j_iconst (v := 0) h (by decide) dX1_countUses_21 ?_
      refine j_zast (ws' := [(h0, .inr (1, [.ref a0, .ref a1, .ref a2, .ref a3])), (t, .inr (10, [.ref t0, .int 0, .int 0, .int 0])), (a3, .inl (kA 3, 10, .inl (upd f10_6_0 k10_6 (vp_nar .boolean 0)))), (a0, .inl (kA 1, 10, .inl q334))]) h 2 rfl k10_6 rfl (by omega) (by decide) dX1_countUses_22 rfl ?_
      refine j_iinc (v := nI (k10_6 + 1)) (lv' := [(2, .int (nI (k10_6 + 1))), (0, .ref h0), (1, .ref t)]) h dX1_countUses_23 0 rfl (nI_1 k10_6) (by decide) rfl ?_
      refine j_goto h 10 dX1_countUses_26 (by decide) ?_
      refine j_sub [0, 1, 2, 3] (ws' := [(h0, .inr (1, [.ref a0, .ref a1, .ref a2, .ref a3])), (t, .inr (10, [.ref t0, .int 0, .int 0, .int 0])), (a3, .inl (kA 3, 10, .inl (upd f10_6_0 k10_6 (vp_nar .boolean 0)))), (a0, .inl (kA 1, 10, .inl q334))]) rfl rfl (by decide) [0, 1, 2] (lv' := [(2, .int (nI (k10_6 + 1))), (0, .ref h0), (1, .ref t)]) rfl ?_
      exact ih10_6 (k10_6 + 1) (by omega) (upd f10_6_0 k10_6 (vp_nar .boolean 0))
  refine j_sub [0, 1, 2, 3] (ws' := [(h0, .inr (1, [.ref a0, .ref a1, .ref a2, .ref a3])), (t, .inr (10, [.ref t0, .int 0, .int 0, .int 0])), (a3, .inl (kA 3, 10, .inl g1)), (a0, .inl (kA 1, 10, .inl q334))]) rfl rfl (by decide) [0, 1, 2] (lv' := [(2, .int 0), (0, .ref h0), (1, .ref t)]) rfl ?_
  exact lp10_6 10 0 (by omega) g1
set_option maxHeartbeats 4000000 in
set_option maxRecDepth 100000 in
theorem c_X1_sortUpwards (l : Launch) (g : va_G) (kA : Nat → ClassId) (r : Nat)  : CtV l yX1_sortUpwards cX1_sortUpwards 5 (none) 1 0 0 g kA [.ref r, .int 0] [] (S := Unit) (fun (_ : Unit) => True) (fun (_ : Unit) => []) := by
  refine nx_startV (by decide +kernel) (Nat.le_of_ble_eq_true rfl) ?_
  intro x hnm h hq
  have h : Ok x cX1_sortUpwards RX1 kA (rmC 1 0 0) 5 := h
  show J x [] [(0, .ref r), (1, .int 0)] 0 0 0 []
  refine j_iconst (v := 1) h (by decide) dX1_sortUpwards_0 ?_
  refine j_istore_n (lv' := [(2, .int 1), (0, .ref r), (1, .int 0)]) h dX1_sortUpwards_1 rfl (by decide) rfl ?_
  refine j_iload_n h 0 rfl rfl dX1_sortUpwards_2 ?_
  refine j_iload_n h 2 rfl rfl dX1_sortUpwards_3 ?_
  refine j_icmp_ge h 56 dX1_sortUpwards_4 (by decide) (fun _ => ?_) (fun q => absurd (by decide) q)
  exact j_vret h hq dX1_sortUpwards_56 () [] rfl rfl (by decide) trivial (Nat.le_of_ble_eq_true rfl) (Nat.le_of_ble_eq_true rfl)
set_option maxHeartbeats 4000000 in
set_option maxRecDepth 100000 in
theorem c_X1_leastOfRest (l : Launch) (g : va_G) (kA : Nat → ClassId) (h0 : Nat) (a0 : Nat) (a1 : Nat) (a2 : Nat) (a3 : Nat) (s : Nat) (c0 : Nat) (c1 : Nat) (c2 : Nat) (c3 : Nat) (c4 : Nat) (c5 : Nat) (c6 : Nat) (c7 : Nat) (c8 : Nat) (c9 : Nat) (c10 : Nat) (c11 : Nat)  : CtI l yX1_leastOfRest cX1_leastOfRest 7 (some .int) 2 0 0 g kA [.ref h0, .ref s, .int 0] [(h0, .inr (1, [.ref a0, .ref a1, .ref a2, .ref a3])), (s, .inr (5, [.ref c0, .ref c1, .ref c2, .ref c3, .ref c4, .ref c5, .ref c6, .ref c7, .ref c8, .ref c9, .ref c10, .ref c11, .int 0, .int 0, .int 0]))] (S := Unit) (fun (r : Int32) (_ : Unit) => r = 0) (fun (_ : Unit) => [(h0, .inr (1, [.ref a0, .ref a1, .ref a2, .ref a3])), (s, .inr (5, [.ref c0, .ref c1, .ref c2, .ref c3, .ref c4, .ref c5, .ref c6, .ref c7, .ref c8, .ref c9, .ref c10, .ref c11, .int 0, .int 0, .int 0]))]) := by
  refine nx_startI (by decide +kernel) (Nat.le_of_ble_eq_true rfl) ?_
  intro x hnm h hq
  have h : Ok x cX1_leastOfRest RX1 kA (rmC 2 0 0) 7 := h
  show J x [(h0, .inr (1, [.ref a0, .ref a1, .ref a2, .ref a3])), (s, .inr (5, [.ref c0, .ref c1, .ref c2, .ref c3, .ref c4, .ref c5, .ref c6, .ref c7, .ref c8, .ref c9, .ref c10, .ref c11, .int 0, .int 0, .int 0]))] [(0, .ref h0), (1, .ref s), (2, .int 0)] 0 0 0 []
  refine j_iconst (v := 0) h (by decide) dX1_leastOfRest_0 ?_
  refine j_istore_n (lv' := [(3, .int 0), (0, .ref h0), (1, .ref s), (2, .int 0)]) h dX1_leastOfRest_1 rfl (by decide) rfl ?_
  refine j_iload_n h 3 rfl rfl dX1_leastOfRest_2 ?_
  refine j_istore (lv' := [(4, .int 0), (3, .int 0), (0, .ref h0), (1, .ref s), (2, .int 0)]) h dX1_leastOfRest_3 (by decide) rfl ?_
  refine j_iload h 0 rfl dX1_leastOfRest_5 ?_
  refine j_aload_n h 3 rfl rfl dX1_leastOfRest_7 ?_
  refine j_get h iw_X5 1 rfl rfl 13 (by decide) tw_223 rfl dX1_leastOfRest_8 ?_
  refine j_icmp_ge h 36 dX1_leastOfRest_11 (by decide) (fun _ => ?_) (fun q => absurd (by decide) q)
  refine j_iconst (v := 0) h (by decide) dX1_leastOfRest_36 ?_
  refine j_istore (lv' := [(4, .int 0), (3, .int 0), (0, .ref h0), (1, .ref s), (2, .int 0)]) h dX1_leastOfRest_37 (by decide) rfl ?_
  refine j_iconst (v := 0) h (by decide) dX1_leastOfRest_39 ?_
  refine j_istore (lv' := [(5, .int 0), (4, .int 0), (3, .int 0), (0, .ref h0), (1, .ref s), (2, .int 0)]) h dX1_leastOfRest_40 (by decide) rfl ?_
  refine j_iload h 0 rfl dX1_leastOfRest_42 ?_
  refine j_aload_n h 4 rfl rfl dX1_leastOfRest_44 ?_
  refine j_get h iw_X5 1 rfl rfl 13 (by decide) tw_223 rfl dX1_leastOfRest_45 ?_
  refine j_icmp_ge h 90 dX1_leastOfRest_48 (by decide) (fun _ => ?_) (fun q => absurd (by decide) q)
  refine j_aload_n h 3 rfl rfl dX1_leastOfRest_90 ?_
  refine j_get h iw_X1 0 rfl rfl 1 (by decide) tw_463 rfl dX1_leastOfRest_91 ?_
  refine j_iload_n h 2 rfl rfl dX1_leastOfRest_94 ?_
  refine j_callSv (np := 2) (isC := []) (isR := [0, 1]) (wc := []) (wr := [(h0, .inr (1, [.ref a0, .ref a1, .ref a2, .ref a3])), (s, .inr (5, [.ref c0, .ref c1, .ref c2, .ref c3, .ref c4, .ref c5, .ref c6, .ref c7, .ref c8, .ref c9, .ref c10, .ref c11, .int 0, .int 0, .int 0]))]) (rest := []) (As := [.ref a1, .int 0]) h (c_X1_sortUpwards _ _ kA a1 ) tw_1042 tw_1043 tw_98 tw_1044 (by decide +kernel) rfl ⟨Nat.le_of_ble_eq_true rfl, Nat.le_of_ble_eq_true rfl⟩ rfl (by decide) rfl rfl (by decide) (by decide) (Nat.le_of_ble_eq_true rfl) rfl ⟨Nat.le_of_ble_eq_true rfl, Nat.le_of_ble_eq_true rfl⟩ dX1_leastOfRest_95 ?_
  rintro _ e336
  show J x [(h0, .inr (1, [.ref a0, .ref a1, .ref a2, .ref a3])), (s, .inr (5, [.ref c0, .ref c1, .ref c2, .ref c3, .ref c4, .ref c5, .ref c6, .ref c7, .ref c8, .ref c9, .ref c10, .ref c11, .int 0, .int 0, .int 0]))] [(5, .int 0), (4, .int 0), (3, .int 0), (0, .ref h0), (1, .ref s), (2, .int 0)] 0 0 98 []
  refine j_aload_n h 3 rfl rfl dX1_leastOfRest_98 ?_
  refine j_get h iw_X1 0 rfl rfl 2 (by decide) tw_464 rfl dX1_leastOfRest_99 ?_
  refine j_iload h 1 rfl dX1_leastOfRest_102 ?_
  refine j_callSv (np := 2) (isC := []) (isR := [0, 1]) (wc := []) (wr := [(h0, .inr (1, [.ref a0, .ref a1, .ref a2, .ref a3])), (s, .inr (5, [.ref c0, .ref c1, .ref c2, .ref c3, .ref c4, .ref c5, .ref c6, .ref c7, .ref c8, .ref c9, .ref c10, .ref c11, .int 0, .int 0, .int 0]))]) (rest := []) (As := [.ref a2, .int 0]) h (c_X1_sortUpwards _ _ kA a2 ) tw_1042 tw_1043 tw_98 tw_1044 (by decide +kernel) rfl ⟨Nat.le_of_ble_eq_true rfl, Nat.le_of_ble_eq_true rfl⟩ rfl (by decide) rfl rfl (by decide) (by decide) (Nat.le_of_ble_eq_true rfl) rfl ⟨Nat.le_of_ble_eq_true rfl, Nat.le_of_ble_eq_true rfl⟩ dX1_leastOfRest_104 ?_
  rintro _ e337
  show J x [(h0, .inr (1, [.ref a0, .ref a1, .ref a2, .ref a3])), (s, .inr (5, [.ref c0, .ref c1, .ref c2, .ref c3, .ref c4, .ref c5, .ref c6, .ref c7, .ref c8, .ref c9, .ref c10, .ref c11, .int 0, .int 0, .int 0]))] [(5, .int 0), (4, .int 0), (3, .int 0), (0, .ref h0), (1, .ref s), (2, .int 0)] 0 0 107 []
  refine j_iconst (v := 0) h (by decide) dX1_leastOfRest_107 ?_
  refine j_istore (lv' := [(5, .int 0), (4, .int 0), (3, .int 0), (0, .ref h0), (1, .ref s), (2, .int 0)]) h dX1_leastOfRest_108 (by decide) rfl ?_
  refine j_iconst (v := 0) h (by decide) dX1_leastOfRest_110 ?_
  refine j_istore (lv' := [(6, .int 0), (5, .int 0), (4, .int 0), (3, .int 0), (0, .ref h0), (1, .ref s), (2, .int 0)]) h dX1_leastOfRest_111 (by decide) rfl ?_
  refine j_iload h 0 rfl dX1_leastOfRest_113 ?_
  refine j_iload h 2 rfl dX1_leastOfRest_115 ?_
  refine j_icmp_ge h 150 dX1_leastOfRest_117 (by decide) (fun _ => ?_) (fun q => absurd (by decide) q)
  refine j_iload h 1 rfl dX1_leastOfRest_150 ?_
  exact j_iret h hq dX1_leastOfRest_152 () [0, 1] rfl rfl (by decide) (by first | rfl | simp only [↓reduceIte]) (Nat.le_of_ble_eq_true rfl) (Nat.le_of_ble_eq_true rfl)
set_option maxHeartbeats 4000000 in
set_option maxRecDepth 100000 in
theorem c_X1_dealRows (l : Launch) (g : va_G) (kA : Nat → ClassId) (h0 : Nat) (a0 : Nat) (a1 : Nat) (a2 : Nat) (a3 : Nat) (s : Nat) (c0 : Nat) (c1 : Nat) (c2 : Nat) (c3 : Nat) (c4 : Nat) (c5 : Nat) (c6 : Nat) (c7 : Nat) (c8 : Nat) (c9 : Nat) (c10 : Nat) (c11 : Nat) (t : Nat) (t0 : Nat) (y : Nat) (f : Nat → Int32) (g1 : Nat → Int32)  : CtI l yX1_dealRows cX1_dealRows 8 (some .int) 3 0 0 g kA [.ref h0, .ref s, .ref t, .ref y] [(h0, .inr (1, [.ref a0, .ref a1, .ref a2, .ref a3])), (s, .inr (5, [.ref c0, .ref c1, .ref c2, .ref c3, .ref c4, .ref c5, .ref c6, .ref c7, .ref c8, .ref c9, .ref c10, .ref c11, .int 0, .int 0, .int 0])), (t, .inr (10, [.ref t0, .int 0, .int 0, .int 0])), (a0, .inl (kA 1, 10, .inl f)), (a3, .inl (kA 3, 10, .inl g1))] (S := Unit) (fun (r : Int32) (_ : Unit) => r = 0) (fun (_ : Unit) => []) := by
  refine nx_startI (by decide +kernel) (Nat.le_of_ble_eq_true rfl) ?_
  intro x hnm h hq
  have h : Ok x cX1_dealRows RX1 kA (rmC 3 0 0) 8 := h
  show J x [(h0, .inr (1, [.ref a0, .ref a1, .ref a2, .ref a3])), (s, .inr (5, [.ref c0, .ref c1, .ref c2, .ref c3, .ref c4, .ref c5, .ref c6, .ref c7, .ref c8, .ref c9, .ref c10, .ref c11, .int 0, .int 0, .int 0])), (t, .inr (10, [.ref t0, .int 0, .int 0, .int 0])), (a0, .inl (kA 1, 10, .inl f)), (a3, .inl (kA 3, 10, .inl g1))] [(0, .ref h0), (1, .ref s), (2, .ref t), (3, .ref y)] 0 0 0 []
  refine j_aload_n h 0 rfl rfl dX1_dealRows_0 ?_
  refine j_aload_n h 2 rfl rfl dX1_dealRows_1 ?_
  refine j_callVv (np := 1) (isC := [0, 2, 3, 4]) (isR := [1]) (wc := [(h0, .inr (1, [.ref a0, .ref a1, .ref a2, .ref a3])), (t, .inr (10, [.ref t0, .int 0, .int 0, .int 0])), (a0, .inl (kA 1, 10, .inl f)), (a3, .inl (kA 3, 10, .inl g1))]) (wr := [(s, .inr (5, [.ref c0, .ref c1, .ref c2, .ref c3, .ref c4, .ref c5, .ref c6, .ref c7, .ref c8, .ref c9, .ref c10, .ref c11, .int 0, .int 0, .int 0]))]) (rest := []) (As := [.ref t]) (q0 := 0) h (c_X1_countUses _ _ kA h0 a0 a1 a2 a3 t t0 f g1 ) tw_1033 tw_1035 tw_31 tw_98 tw_1036 (by decide +kernel) rfl ⟨Nat.le_of_ble_eq_true rfl, Nat.le_of_ble_eq_true rfl⟩ rfl rfl rfl (by decide) rfl rfl (by decide) (by decide) (Nat.le_of_ble_eq_true rfl) rfl ⟨Nat.le_of_ble_eq_true rfl, Nat.le_of_ble_eq_true rfl⟩ dX1_dealRows_2 ?_
  rintro _ e338
  show J x [(s, .inr (5, [.ref c0, .ref c1, .ref c2, .ref c3, .ref c4, .ref c5, .ref c6, .ref c7, .ref c8, .ref c9, .ref c10, .ref c11, .int 0, .int 0, .int 0])), (h0, .inr (1, [.ref a0, .ref a1, .ref a2, .ref a3]))] [(0, .ref h0), (1, .ref s), (2, .ref t), (3, .ref y)] 0 0 5 []
  refine j_aload_n h 0 rfl rfl dX1_dealRows_5 ?_
  refine j_aload_n h 1 rfl rfl dX1_dealRows_6 ?_
  refine j_iconst (v := 0) h (by decide) dX1_dealRows_7 ?_
  refine j_callVi (np := 2) (isC := [1, 0]) (isR := []) (wc := [(h0, .inr (1, [.ref a0, .ref a1, .ref a2, .ref a3])), (s, .inr (5, [.ref c0, .ref c1, .ref c2, .ref c3, .ref c4, .ref c5, .ref c6, .ref c7, .ref c8, .ref c9, .ref c10, .ref c11, .int 0, .int 0, .int 0]))]) (wr := []) (rest := []) (As := [.ref s, .int 0]) (q0 := 0) h (c_X1_leastOfRest _ _ kA h0 a0 a1 a2 a3 s c0 c1 c2 c3 c4 c5 c6 c7 c8 c9 c10 c11 ) tw_1038 tw_1040 tw_32 tw_98 tw_1041 (by decide +kernel) rfl ⟨Nat.le_of_ble_eq_true rfl, Nat.le_of_ble_eq_true rfl⟩ rfl rfl rfl (by decide) rfl rfl (by decide) (by decide) (Nat.le_of_ble_eq_true rfl) rfl ⟨Nat.le_of_ble_eq_true rfl, Nat.le_of_ble_eq_true rfl⟩ dX1_dealRows_8 ?_
  rintro r _ e339
  subst e339
  show J x [(h0, .inr (1, [.ref a0, .ref a1, .ref a2, .ref a3])), (s, .inr (5, [.ref c0, .ref c1, .ref c2, .ref c3, .ref c4, .ref c5, .ref c6, .ref c7, .ref c8, .ref c9, .ref c10, .ref c11, .int 0, .int 0, .int 0]))] [(0, .ref h0), (1, .ref s), (2, .ref t), (3, .ref y)] 0 0 11 [.int 0]
  refine j_istore (lv' := [(4, .int 0), (0, .ref h0), (1, .ref s), (2, .ref t), (3, .ref y)]) h dX1_dealRows_11 (by decide) rfl ?_
  refine j_iconst (v := 0) h (by decide) dX1_dealRows_13 ?_
  refine j_istore (lv' := [(5, .int 0), (4, .int 0), (0, .ref h0), (1, .ref s), (2, .ref t), (3, .ref y)]) h dX1_dealRows_14 (by decide) rfl ?_
  refine j_iconst (v := 0) h (by decide) dX1_dealRows_16 ?_
  refine j_istore (lv' := [(6, .int 0), (5, .int 0), (4, .int 0), (0, .ref h0), (1, .ref s), (2, .ref t), (3, .ref y)]) h dX1_dealRows_17 (by decide) rfl ?_
  refine j_iload h 0 rfl dX1_dealRows_19 ?_
  refine j_aload_n h 4 rfl rfl dX1_dealRows_21 ?_
  refine j_get h iw_X5 1 rfl rfl 13 (by decide) tw_223 rfl dX1_dealRows_22 ?_
  refine j_icmp_ge h 81 dX1_dealRows_25 (by decide) (fun _ => ?_) (fun q => absurd (by decide) q)
  refine j_iload h 2 rfl dX1_dealRows_81 ?_
  exact j_iret h hq dX1_dealRows_83 () [] rfl rfl (by decide) (by first | rfl | simp only [↓reduceIte]) (Nat.le_of_ble_eq_true rfl) (Nat.le_of_ble_eq_true rfl)
set_option maxHeartbeats 4000000 in
set_option maxRecDepth 100000 in
theorem c_X11_dealt (l : Launch) (g : va_G) (kA : Nat → ClassId) (h0 : Nat) (u : Nat → Nat)  : CtI l yX11_dealt cX11_dealt 1 (some .int) 4 0 0 g kA [.ref h0] [(h0, .inr (11, [.ref (u 0), .ref (u 1), .ref (u 2), .ref (u 3), .ref (u 4), .ref (u 5), .ref (u 6), .ref (u 7), .ref (u 8), .ref (u 9), .ref (u 10), .ref (u 11), .ref (u 12), .ref (u 13), .ref (u 14), .ref (u 15), .ref (u 16), .int 0, .int 0])), ((u 2), .inr (5, [.ref (u 18), .ref (u 19), .ref (u 20), .ref (u 21), .ref (u 22), .ref (u 23), .ref (u 24), .ref (u 25), .ref (u 26), .ref (u 27), .ref (u 28), .ref (u 29), .int 0, .int 0, .int 0])), ((u 13), .inr (1, [.ref (u 82), .ref (u 83), .ref (u 84), .ref (u 85)])), ((u 82), .inl (kA 1, 10, .inl (fun _ => 0))), ((u 85), .inl (kA 3, 10, .inl (fun _ => 0))), ((u 6), .inl (kA 5, 2, .inr (.inr (.inr (.inr (va_up (va_up (fun _ => none) 0 (some (u 53))) 1 (some (u 54)))))))), ((u 53), .inr (10, [.ref (u 55), .int 0, .int 0, .int 0]))] (S := Unit) (fun (r : Int32) (_ : Unit) => r = 0) (fun (_ : Unit) => []) := by
  refine nx_startI (by decide +kernel) (Nat.le_of_ble_eq_true rfl) ?_
  intro x hnm h hq
  have h : Ok x cX11_dealt RX11 kA (rmC 4 0 0) 1 := h
  show J x [(h0, .inr (11, [.ref (u 0), .ref (u 1), .ref (u 2), .ref (u 3), .ref (u 4), .ref (u 5), .ref (u 6), .ref (u 7), .ref (u 8), .ref (u 9), .ref (u 10), .ref (u 11), .ref (u 12), .ref (u 13), .ref (u 14), .ref (u 15), .ref (u 16), .int 0, .int 0])), ((u 2), .inr (5, [.ref (u 18), .ref (u 19), .ref (u 20), .ref (u 21), .ref (u 22), .ref (u 23), .ref (u 24), .ref (u 25), .ref (u 26), .ref (u 27), .ref (u 28), .ref (u 29), .int 0, .int 0, .int 0])), ((u 13), .inr (1, [.ref (u 82), .ref (u 83), .ref (u 84), .ref (u 85)])), ((u 82), .inl (kA 1, 10, .inl (fun _ => 0))), ((u 85), .inl (kA 3, 10, .inl (fun _ => 0))), ((u 6), .inl (kA 5, 2, .inr (.inr (.inr (.inr (va_up (va_up (fun _ => none) 0 (some (u 53))) 1 (some (u 54)))))))), ((u 53), .inr (10, [.ref (u 55), .int 0, .int 0, .int 0]))] [(0, .ref h0)] 0 0 0 []
  refine j_aload_n h 0 rfl rfl dX11_dealt_0 ?_
  refine j_aload_n h 0 rfl rfl dX11_dealt_1 ?_
  refine j_get h iw_X11 0 rfl rfl 2 (by decide) tw_477 rfl dX11_dealt_2 ?_
  refine j_get h iw_X5 1 rfl rfl 13 (by decide) tw_225 rfl dX11_dealt_5 ?_
  refine j_put (ws' := [(h0, .inr (11, [.ref (u 0), .ref (u 1), .ref (u 2), .ref (u 3), .ref (u 4), .ref (u 5), .ref (u 6), .ref (u 7), .ref (u 8), .ref (u 9), .ref (u 10), .ref (u 11), .ref (u 12), .ref (u 13), .ref (u 14), .ref (u 15), .ref (u 16), .int 0, .int 0])), ((u 2), .inr (5, [.ref (u 18), .ref (u 19), .ref (u 20), .ref (u 21), .ref (u 22), .ref (u 23), .ref (u 24), .ref (u 25), .ref (u 26), .ref (u 27), .ref (u 28), .ref (u 29), .int 0, .int 0, .int 0])), ((u 13), .inr (1, [.ref (u 82), .ref (u 83), .ref (u 84), .ref (u 85)])), ((u 82), .inl (kA 1, 10, .inl (fun _ => 0))), ((u 85), .inl (kA 3, 10, .inl (fun _ => 0))), ((u 6), .inl (kA 5, 2, .inr (.inr (.inr (.inr (va_up (va_up (fun _ => none) 0 (some (u 53))) 1 (some (u 54)))))))), ((u 53), .inr (10, [.ref (u 55), .int 0, .int 0, .int 0]))]) h iw_X11 tyX11 tyX11_ok nmX11 0 rfl rfl 17 (by decide) tw_492 rfl rfl rfl (Nat.le_of_ble_eq_true rfl) dX11_dealt_8 rfl ?_
  refine j_aload_n h 0 rfl rfl dX11_dealt_11 ?_
  refine j_get h iw_X11 0 rfl rfl 13 (by decide) tw_488 rfl dX11_dealt_12 ?_
  refine j_aload_n h 0 rfl rfl dX11_dealt_15 ?_
  refine j_get h iw_X11 0 rfl rfl 2 (by decide) tw_477 rfl dX11_dealt_16 ?_
  refine j_aload_n h 0 rfl rfl dX11_dealt_19 ?_
  refine j_get h iw_X11 0 rfl rfl 6 (by decide) tw_481 rfl dX11_dealt_20 ?_
  refine j_iconst (v := 0) h (by decide) dX11_dealt_23 ?_
  refine j_aldO h 5 5 rfl rfl 0 (by decide) (by decide) (by decide) (rfl) dX11_dealt_24 ?_
  refine j_aload_n h 0 rfl rfl dX11_dealt_25 ?_
  refine j_get h iw_X11 0 rfl rfl 16 (by decide) tw_491 rfl dX11_dealt_26 ?_
  refine j_callVi (np := 3) (isC := [2, 1, 6, 3, 4]) (isR := [0, 5]) (wc := [((u 13), .inr (1, [.ref (u 82), .ref (u 83), .ref (u 84), .ref (u 85)])), ((u 2), .inr (5, [.ref (u 18), .ref (u 19), .ref (u 20), .ref (u 21), .ref (u 22), .ref (u 23), .ref (u 24), .ref (u 25), .ref (u 26), .ref (u 27), .ref (u 28), .ref (u 29), .int 0, .int 0, .int 0])), ((u 53), .inr (10, [.ref (u 55), .int 0, .int 0, .int 0])), ((u 82), .inl (kA 1, 10, .inl (fun _ => 0))), ((u 85), .inl (kA 3, 10, .inl (fun _ => 0)))]) (wr := [(h0, .inr (11, [.ref (u 0), .ref (u 1), .ref (u 2), .ref (u 3), .ref (u 4), .ref (u 5), .ref (u 6), .ref (u 7), .ref (u 8), .ref (u 9), .ref (u 10), .ref (u 11), .ref (u 12), .ref (u 13), .ref (u 14), .ref (u 15), .ref (u 16), .int 0, .int 0])), ((u 6), .inl (kA 5, 2, .inr (.inr (.inr (.inr (va_up (va_up (fun _ => none) 0 (some (u 53))) 1 (some (u 54))))))))]) (rest := []) (As := [.ref (u 2), .ref (u 53), .ref (u 16)]) (q0 := 0) h (c_X1_dealRows _ _ kA (u 13) (u 82) (u 83) (u 84) (u 85) (u 2) (u 18) (u 19) (u 20) (u 21) (u 22) (u 23) (u 24) (u 25) (u 26) (u 27) (u 28) (u 29) (u 53) (u 55) (u 16) (fun _ => 0) (fun _ => 0) ) tw_1029 tw_1030 tw_1031 tw_98 tw_1032 (by decide +kernel) rfl ⟨Nat.le_of_ble_eq_true rfl, Nat.le_of_ble_eq_true rfl⟩ rfl rfl rfl (by decide) rfl rfl (by decide) (by decide) (Nat.le_of_ble_eq_true rfl) rfl ⟨Nat.le_of_ble_eq_true rfl, Nat.le_of_ble_eq_true rfl⟩ dX11_dealt_29 ?_
  rintro r _ e340
  subst e340
  show J x [(h0, .inr (11, [.ref (u 0), .ref (u 1), .ref (u 2), .ref (u 3), .ref (u 4), .ref (u 5), .ref (u 6), .ref (u 7), .ref (u 8), .ref (u 9), .ref (u 10), .ref (u 11), .ref (u 12), .ref (u 13), .ref (u 14), .ref (u 15), .ref (u 16), .int 0, .int 0])), ((u 6), .inl (kA 5, 2, .inr (.inr (.inr (.inr (va_up (va_up (fun _ => none) 0 (some (u 53))) 1 (some (u 54))))))))] [(0, .ref h0)] 0 0 32 [.int 0]
  exact j_iret h hq dX11_dealt_32 () [] rfl rfl (by decide) (by first | rfl | simp only [↓reduceIte]) (Nat.le_of_ble_eq_true rfl) (Nat.le_of_ble_eq_true rfl)
