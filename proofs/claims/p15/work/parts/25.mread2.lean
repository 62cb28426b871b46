theorem dX12_four_0 : decode cX12_four 0 = .ok (.bipush 24, 2) := by decide +kernel
theorem dX12_four_2 : decode cX12_four 2 = .ok (.istore_n 2, 1) := by decide +kernel
theorem dX12_four_3 : decode cX12_four 3 = .ok (.iload_n 2, 1) := by decide +kernel
theorem dX12_four_4 : decode cX12_four 4 = .ok (.ifCond .lt 35, 3) := by decide +kernel
theorem dX12_four_7 : decode cX12_four 7 = .ok (.aload_n 0, 1) := by decide +kernel
theorem dX12_four_8 : decode cX12_four 8 = .ok (.getfield 7, 3) := by decide +kernel
theorem dX12_four_11 : decode cX12_four 11 = .ok (.aload_n 0, 1) := by decide +kernel
theorem dX12_four_12 : decode cX12_four 12 = .ok (.getfield 163, 3) := by decide +kernel
theorem tw_1157 : Cond.fieldLink RX12 163 "LimpCodeModel" "taped" "I" ∈ TT := nx_mem 1157 (by decide +kernel) (by decide +kernel)
theorem dX12_four_15 : decode cX12_four 15 = .ok (.iload_n 1, 1) := by decide +kernel
theorem dX12_four_16 : decode cX12_four 16 = .ok (.iload_n 2, 1) := by decide +kernel
theorem dX12_four_17 : decode cX12_four 17 = .ok (.ishr, 1) := by decide +kernel
theorem dX12_four_18 : decode cX12_four 18 = .ok (.sipush 255, 3) := by decide +kernel
theorem dX12_four_21 : decode cX12_four 21 = .ok (.iand, 1) := by decide +kernel
theorem dX12_four_22 : decode cX12_four 22 = .ok (.iastore, 1) := by decide +kernel
theorem dX12_four_23 : decode cX12_four 23 = .ok (.aload_n 0, 1) := by decide +kernel
theorem dX12_four_24 : decode cX12_four 24 = .ok (.dup, 1) := by decide +kernel
theorem dX12_four_25 : decode cX12_four 25 = .ok (.getfield 163, 3) := by decide +kernel
theorem dX12_four_28 : decode cX12_four 28 = .ok (.iconst 1, 1) := by decide +kernel
theorem dX12_four_29 : decode cX12_four 29 = .ok (.iadd, 1) := by decide +kernel
theorem dX12_four_30 : decode cX12_four 30 = .ok (.putfield 163, 3) := by decide +kernel
theorem dX12_four_33 : decode cX12_four 33 = .ok (.iinc 2 (-8), 3) := by decide +kernel
theorem dX12_four_36 : decode cX12_four 36 = .ok (.goto (-33), 3) := by decide +kernel
theorem dX12_four_39 : decode cX12_four 39 = .ok (.return_, 1) := by decide +kernel
theorem dX12_feed_0 : decode cX12_feed 0 = .ok (.aload_n 0, 1) := by decide +kernel
theorem dX12_feed_1 : decode cX12_feed 1 = .ok (.getfield 163, 3) := by decide +kernel
theorem dX12_feed_4 : decode cX12_feed 4 = .ok (.bipush 20, 2) := by decide +kernel
theorem dX12_feed_6 : decode cX12_feed 6 = .ok (.iadd, 1) := by decide +kernel
theorem dX12_feed_7 : decode cX12_feed 7 = .ok (.sipush 1600, 3) := by decide +kernel
theorem dX12_feed_10 : decode cX12_feed 10 = .ok (.if_icmp .le 5, 3) := by decide +kernel
theorem dX12_feed_15 : decode cX12_feed 15 = .ok (.aload_n 0, 1) := by decide +kernel
theorem dX12_feed_16 : decode cX12_feed 16 = .ok (.iload_n 1, 1) := by decide +kernel
theorem dX12_feed_17 : decode cX12_feed 17 = .ok (.invokevirtual 166, 3) := by decide +kernel
theorem tw_1371 : Cond.methodLink RX12 166 yX12_four ∈ TT := nx_mem 1371 (by decide +kernel) (by decide +kernel)
theorem tw_1373 : Cond.instanceMethod yX12_four ∈ TT := nx_mem 1373 (by decide +kernel) (by decide +kernel)
theorem tw_39 : Cond.selects RX12 yX12_four yX12_four ∈ TT := nx_mem 39 (by decide +kernel) (by decide +kernel)
theorem tw_1374 : Cond.code yX12_four cX12_four 3 none ∈ TT := nx_mem 1374 (by decide +kernel) (by decide +kernel)
theorem dX12_feed_20 : decode cX12_feed 20 = .ok (.aload_n 0, 1) := by decide +kernel
theorem dX12_feed_21 : decode cX12_feed 21 = .ok (.iload_n 2, 1) := by decide +kernel
theorem dX12_feed_22 : decode cX12_feed 22 = .ok (.invokevirtual 166, 3) := by decide +kernel
theorem dX12_feed_25 : decode cX12_feed 25 = .ok (.aload_n 0, 1) := by decide +kernel
theorem dX12_feed_26 : decode cX12_feed 26 = .ok (.iload_n 3, 1) := by decide +kernel
theorem dX12_feed_27 : decode cX12_feed 27 = .ok (.invokevirtual 166, 3) := by decide +kernel
theorem dX12_feed_30 : decode cX12_feed 30 = .ok (.aload_n 0, 1) := by decide +kernel
theorem dX12_feed_31 : decode cX12_feed 31 = .ok (.iload 4, 2) := by decide +kernel
theorem dX12_feed_33 : decode cX12_feed 33 = .ok (.invokevirtual 166, 3) := by decide +kernel
theorem dX12_feed_36 : decode cX12_feed 36 = .ok (.aload_n 0, 1) := by decide +kernel
theorem dX12_feed_37 : decode cX12_feed 37 = .ok (.iload 5, 2) := by decide +kernel
theorem dX12_feed_39 : decode cX12_feed 39 = .ok (.invokevirtual 166, 3) := by decide +kernel
theorem dX12_feed_42 : decode cX12_feed 42 = .ok (.aload_n 0, 1) := by decide +kernel
theorem dX12_feed_43 : decode cX12_feed 43 = .ok (.getfield 163, 3) := by decide +kernel
theorem dX12_feed_46 : decode cX12_feed 46 = .ok (.ireturn, 1) := by decide +kernel
theorem dX12_feed_13 : decode cX12_feed 13 = .ok (.iconst (-1), 1) := by decide +kernel
theorem dX12_feed_14 : decode cX12_feed 14 = .ok (.ireturn, 1) := by decide +kernel
theorem dX12_end_0 : decode cX12_end 0 = .ok (.iload_n 1, 1) := by decide +kernel
theorem dX12_end_1 : decode cX12_end 1 = .ok (.ifCond .lt 11, 3) := by decide +kernel
theorem dX12_end_12 : decode cX12_end 12 = .ok (.iconst (-1), 1) := by decide +kernel
theorem dX12_end_13 : decode cX12_end 13 = .ok (.ireturn, 1) := by decide +kernel
theorem dX12_end_4 : decode cX12_end 4 = .ok (.iload_n 1, 1) := by decide +kernel
theorem dX12_end_5 : decode cX12_end 5 = .ok (.aload_n 0, 1) := by decide +kernel
theorem dX12_end_6 : decode cX12_end 6 = .ok (.getfield 163, 3) := by decide +kernel
theorem dX12_end_9 : decode cX12_end 9 = .ok (.if_icmp .le 5, 3) := by decide +kernel
theorem dX12_end_14 : decode cX12_end 14 = .ok (.aload_n 0, 1) := by decide +kernel
theorem dX12_end_15 : decode cX12_end 15 = .ok (.iload_n 1, 1) := by decide +kernel
theorem dX12_end_16 : decode cX12_end 16 = .ok (.putfield 163, 3) := by decide +kernel
theorem dX12_end_19 : decode cX12_end 19 = .ok (.iload_n 1, 1) := by decide +kernel
theorem dX12_end_20 : decode cX12_end 20 = .ok (.ireturn, 1) := by decide +kernel
theorem dX12_later_0 : decode cX12_later 0 = .ok (.iload_n 1, 1) := by decide +kernel
theorem dX12_later_1 : decode cX12_later 1 = .ok (.ifCond .lt 22, 3) := by decide +kernel
theorem dX12_later_23 : decode cX12_later 23 = .ok (.iconst (-1), 1) := by decide +kernel
theorem dX12_later_24 : decode cX12_later 24 = .ok (.ireturn, 1) := by decide +kernel
theorem dX12_later_4 : decode cX12_later 4 = .ok (.iload_n 1, 1) := by decide +kernel
theorem dX12_later_5 : decode cX12_later 5 = .ok (.sipush 1000, 3) := by decide +kernel
theorem dX12_later_8 : decode cX12_later 8 = .ok (.if_icmp .gt 15, 3) := by decide +kernel
theorem dX12_later_11 : decode cX12_later 11 = .ok (.aload_n 0, 1) := by decide +kernel
theorem dX12_later_12 : decode cX12_later 12 = .ok (.getfield 422, 3) := by decide +kernel
theorem tw_1219 : Cond.fieldLink RX12 422 "LimpCodeModel" "time" "I" ∈ TT := nx_mem 1219 (by decide +kernel) (by decide +kernel)
theorem dX12_later_15 : decode cX12_later 15 = .ok (.iload_n 1, 1) := by decide +kernel
theorem dX12_later_16 : decode cX12_later 16 = .ok (.iadd, 1) := by decide +kernel
theorem dX12_later_17 : decode cX12_later 17 = .ok (.ldc_w 425, 3) := by decide +kernel
theorem tw_1666 : Cond.constant RX12 425 100000 ∈ TT := nx_mem 1666 (by decide +kernel) (by decide +kernel)
theorem dX12_later_20 : decode cX12_later 20 = .ok (.if_icmp .le 5, 3) := by decide +kernel
theorem dX12_later_25 : decode cX12_later 25 = .ok (.aload_n 0, 1) := by decide +kernel
theorem dX12_later_26 : decode cX12_later 26 = .ok (.dup, 1) := by decide +kernel
theorem dX12_later_27 : decode cX12_later 27 = .ok (.getfield 422, 3) := by decide +kernel
theorem dX12_later_30 : decode cX12_later 30 = .ok (.iload_n 1, 1) := by decide +kernel
theorem dX12_later_31 : decode cX12_later 31 = .ok (.iadd, 1) := by decide +kernel
theorem dX12_later_32 : decode cX12_later 32 = .ok (.putfield 422, 3) := by decide +kernel
theorem dX12_later_35 : decode cX12_later 35 = .ok (.aload_n 0, 1) := by decide +kernel
theorem dX12_later_36 : decode cX12_later 36 = .ok (.getfield 422, 3) := by decide +kernel
theorem dX12_later_39 : decode cX12_later 39 = .ok (.ireturn, 1) := by decide +kernel
theorem dX12_fault_0 : decode cX12_fault 0 = .ok (.iload_n 1, 1) := by decide +kernel
theorem dX12_fault_1 : decode cX12_fault 1 = .ok (.ifCond .ne 10, 3) := by decide +kernel
theorem dX12_fault_11 : decode cX12_fault 11 = .ok (.iload_n 1, 1) := by decide +kernel
theorem dX12_fault_12 : decode cX12_fault 12 = .ok (.iconst 1, 1) := by decide +kernel
theorem dX12_fault_13 : decode cX12_fault 13 = .ok (.if_icmp .ne 10, 3) := by decide +kernel
theorem dX12_fault_23 : decode cX12_fault 23 = .ok (.iconst (-1), 1) := by decide +kernel
theorem dX12_fault_24 : decode cX12_fault 24 = .ok (.ireturn, 1) := by decide +kernel
theorem dX12_fault_16 : decode cX12_fault 16 = .ok (.aload_n 0, 1) := by decide +kernel
theorem dX12_fault_17 : decode cX12_fault 17 = .ok (.getfield 13, 3) := by decide +kernel
theorem tw_1159 : Cond.fieldLink RX12 13 "LimpCodeModel" "faultPlace" "I" ∈ TT := nx_mem 1159 (by decide +kernel) (by decide +kernel)
theorem dX12_fault_20 : decode cX12_fault 20 = .ok (.goto 4, 3) := by decide +kernel
theorem dX12_fault_4 : decode cX12_fault 4 = .ok (.aload_n 0, 1) := by decide +kernel
theorem dX12_fault_5 : decode cX12_fault 5 = .ok (.getfield 200, 3) := by decide +kernel
theorem tw_1158 : Cond.fieldLink RX12 200 "LimpCodeModel" "fault" "I" ∈ TT := nx_mem 1158 (by decide +kernel) (by decide +kernel)
theorem dX12_fault_8 : decode cX12_fault 8 = .ok (.goto 16, 3) := by decide +kernel
theorem dX12_wrong_0 : decode cX12_wrong 0 = .ok (.aload_n 0, 1) := by decide +kernel
theorem dX12_wrong_1 : decode cX12_wrong 1 = .ok (.getfield 200, 3) := by decide +kernel
theorem dX12_wrong_4 : decode cX12_wrong 4 = .ok (.ifCond .le 4, 3) := by decide +kernel
theorem dX12_wrong_8 : decode cX12_wrong 8 = .ok (.aload_n 0, 1) := by decide +kernel
theorem dX12_wrong_9 : decode cX12_wrong 9 = .ok (.aload_n 0, 1) := by decide +kernel
theorem dX12_wrong_10 : decode cX12_wrong 10 = .ok (.getfield 190, 3) := by decide +kernel
theorem dX12_wrong_13 : decode cX12_wrong 13 = .ok (.iconst 3, 1) := by decide +kernel
theorem dX12_wrong_14 : decode cX12_wrong 14 = .ok (.if_icmp .ne 7, 3) := by decide +kernel
theorem dX12_wrong_21 : decode cX12_wrong 21 = .ok (.iload_n 1, 1) := by decide +kernel
theorem dX12_wrong_22 : decode cX12_wrong 22 = .ok (.putfield 200, 3) := by decide +kernel
theorem dX12_wrong_25 : decode cX12_wrong 25 = .ok (.aload_n 0, 1) := by decide +kernel
theorem dX12_wrong_26 : decode cX12_wrong 26 = .ok (.aload_n 0, 1) := by decide +kernel
theorem dX12_wrong_27 : decode cX12_wrong 27 = .ok (.getfield 180, 3) := by decide +kernel
theorem dX12_wrong_30 : decode cX12_wrong 30 = .ok (.putfield 13, 3) := by decide +kernel
theorem dX12_wrong_33 : decode cX12_wrong 33 = .ok (.return_, 1) := by decide +kernel
theorem dX12_wrong_17 : decode cX12_wrong 17 = .ok (.iconst 1, 1) := by decide +kernel
theorem dX12_wrong_18 : decode cX12_wrong 18 = .ok (.goto 4, 3) := by decide +kernel
theorem dX12_wrong_7 : decode cX12_wrong 7 = .ok (.return_, 1) := by decide +kernel
theorem dX12_isWord_0 : decode cX12_isWord 0 = .ok (.aload_n 0, 1) := by decide +kernel
theorem dX12_isWord_1 : decode cX12_isWord 1 = .ok (.getfield 190, 3) := by decide +kernel
theorem dX12_isWord_4 : decode cX12_isWord 4 = .ok (.iconst 1, 1) := by decide +kernel
theorem dX12_isWord_5 : decode cX12_isWord 5 = .ok (.if_icmp .ne 16, 3) := by decide +kernel
theorem dX12_isWord_21 : decode cX12_isWord 21 = .ok (.iconst 0, 1) := by decide +kernel
theorem dX12_isWord_22 : decode cX12_isWord 22 = .ok (.ireturn, 1) := by decide +kernel
theorem dX12_isWord_8 : decode cX12_isWord 8 = .ok (.aload_n 0, 1) := by decide +kernel
theorem dX12_isWord_9 : decode cX12_isWord 9 = .ok (.getfield 183, 3) := by decide +kernel
theorem dX12_isWord_12 : decode cX12_isWord 12 = .ok (.lload_n 1, 1) := by decide +kernel
theorem dX12_isWord_13 : decode cX12_isWord 13 = .ok (.lcmp, 1) := by decide +kernel
theorem dX12_isWord_14 : decode cX12_isWord 14 = .ok (.ifCond .ne 7, 3) := by decide +kernel
theorem dX12_isWord_17 : decode cX12_isWord 17 = .ok (.iconst 1, 1) := by decide +kernel
theorem dX12_isWord_18 : decode cX12_isWord 18 = .ok (.goto 4, 3) := by decide +kernel
theorem dX12_isName_0 : decode cX12_isName 0 = .ok (.aload_n 0, 1) := by decide +kernel
theorem dX12_isName_1 : decode cX12_isName 1 = .ok (.getfield 190, 3) := by decide +kernel
theorem dX12_isName_4 : decode cX12_isName 4 = .ok (.iconst 1, 1) := by decide +kernel
theorem dX12_isName_5 : decode cX12_isName 5 = .ok (.if_icmp .ne 117, 3) := by decide +kernel
theorem dX12_isName_122 : decode cX12_isName 122 = .ok (.iconst 0, 1) := by decide +kernel
theorem dX12_isName_123 : decode cX12_isName 123 = .ok (.ireturn, 1) := by decide +kernel
theorem dX12_isName_8 : decode cX12_isName 8 = .ok (.aload_n 0, 1) := by decide +kernel
theorem dX12_isName_9 : decode cX12_isName 9 = .ok (.getfield 183, 3) := by decide +kernel
theorem dX12_isName_12 : decode cX12_isName 12 = .ok (.ldc2_w 203, 3) := by decide +kernel
theorem tw_1405 : Cond.constantLong RX12 203 1937007984 ∈ TT := nx_mem 1405 (by decide +kernel) (by decide +kernel)
theorem dX12_isName_15 : decode cX12_isName 15 = .ok (.lcmp, 1) := by decide +kernel
theorem dX12_isName_16 : decode cX12_isName 16 = .ok (.ifCond .eq 106, 3) := by decide +kernel
theorem dX12_isName_19 : decode cX12_isName 19 = .ok (.aload_n 0, 1) := by decide +kernel
theorem dX12_isName_20 : decode cX12_isName 20 = .ok (.getfield 183, 3) := by decide +kernel
theorem dX12_isName_23 : decode cX12_isName 23 = .ok (.ldc2_w 205, 3) := by decide +kernel
theorem tw_1422 : Cond.constantLong RX12 205 499850634611 ∈ TT := nx_mem 1422 (by decide +kernel) (by decide +kernel)
theorem dX12_isName_26 : decode cX12_isName 26 = .ok (.lcmp, 1) := by decide +kernel
theorem dX12_isName_27 : decode cX12_isName 27 = .ok (.ifCond .eq 95, 3) := by decide +kernel
theorem dX12_isName_30 : decode cX12_isName 30 = .ok (.aload_n 0, 1) := by decide +kernel
theorem dX12_isName_31 : decode cX12_isName 31 = .ok (.getfield 183, 3) := by decide +kernel
theorem dX12_isName_34 : decode cX12_isName 34 = .ok (.ldc2_w 207, 3) := by decide +kernel
theorem tw_1423 : Cond.constantLong RX12 207 1819243876 ∈ TT := nx_mem 1423 (by decide +kernel) (by decide +kernel)
theorem dX12_isName_37 : decode cX12_isName 37 = .ok (.lcmp, 1) := by decide +kernel
theorem dX12_isName_38 : decode cX12_isName 38 = .ok (.ifCond .eq 84, 3) := by decide +kernel
theorem dX12_isName_41 : decode cX12_isName 41 = .ok (.aload_n 0, 1) := by decide +kernel
theorem dX12_isName_42 : decode cX12_isName 42 = .ok (.getfield 183, 3) := by decide +kernel
theorem dX12_isName_45 : decode cX12_isName 45 = .ok (.ldc2_w 209, 3) := by decide +kernel
theorem tw_1424 : Cond.constantLong RX12 209 1818584692 ∈ TT := nx_mem 1424 (by decide +kernel) (by decide +kernel)
theorem dX12_isName_48 : decode cX12_isName 48 = .ok (.lcmp, 1) := by decide +kernel
theorem dX12_isName_49 : decode cX12_isName 49 = .ok (.ifCond .eq 73, 3) := by decide +kernel
theorem dX12_isName_52 : decode cX12_isName 52 = .ok (.aload_n 0, 1) := by decide +kernel
theorem dX12_isName_53 : decode cX12_isName 53 = .ok (.getfield 183, 3) := by decide +kernel
theorem dX12_isName_56 : decode cX12_isName 56 = .ok (.ldc2_w 211, 3) := by decide +kernel
theorem tw_1425 : Cond.constantLong RX12 211 491394656372 ∈ TT := nx_mem 1425 (by decide +kernel) (by decide +kernel)
theorem dX12_isName_59 : decode cX12_isName 59 = .ok (.lcmp, 1) := by decide +kernel
theorem dX12_isName_60 : decode cX12_isName 60 = .ok (.ifCond .eq 62, 3) := by decide +kernel
theorem dX12_isName_63 : decode cX12_isName 63 = .ok (.aload_n 0, 1) := by decide +kernel
theorem dX12_isName_64 : decode cX12_isName 64 = .ok (.getfield 183, 3) := by decide +kernel
theorem dX12_isName_67 : decode cX12_isName 67 = .ok (.ldc2_w 213, 3) := by decide +kernel
theorem tw_1426 : Cond.constantLong RX12 213 495874305132 ∈ TT := nx_mem 1426 (by decide +kernel) (by decide +kernel)
theorem dX12_isName_70 : decode cX12_isName 70 = .ok (.lcmp, 1) := by decide +kernel
theorem dX12_isName_71 : decode cX12_isName 71 = .ok (.ifCond .eq 51, 3) := by decide +kernel
theorem dX12_isName_74 : decode cX12_isName 74 = .ok (.aload_n 0, 1) := by decide +kernel
theorem dX12_isName_75 : decode cX12_isName 75 = .ok (.getfield 183, 3) := by decide +kernel
theorem dX12_isName_78 : decode cX12_isName 78 = .ok (.ldc2_w 215, 3) := by decide +kernel
theorem tw_1427 : Cond.constantLong RX12 215 119183001281906 ∈ TT := nx_mem 1427 (by decide +kernel) (by decide +kernel)
theorem dX12_isName_81 : decode cX12_isName 81 = .ok (.lcmp, 1) := by decide +kernel
theorem dX12_isName_82 : decode cX12_isName 82 = .ok (.ifCond .eq 40, 3) := by decide +kernel
theorem dX12_isName_85 : decode cX12_isName 85 = .ok (.aload_n 0, 1) := by decide +kernel
theorem dX12_isName_86 : decode cX12_isName 86 = .ok (.getfield 183, 3) := by decide +kernel
theorem dX12_isName_89 : decode cX12_isName 89 = .ok (.ldc2_w 217, 3) := by decide +kernel
theorem tw_1428 : Cond.constantLong RX12 217 6644082 ∈ TT := nx_mem 1428 (by decide +kernel) (by decide +kernel)
theorem dX12_isName_92 : decode cX12_isName 92 = .ok (.lcmp, 1) := by decide +kernel
theorem dX12_isName_93 : decode cX12_isName 93 = .ok (.ifCond .eq 29, 3) := by decide +kernel
theorem dX12_isName_96 : decode cX12_isName 96 = .ok (.aload_n 0, 1) := by decide +kernel
theorem dX12_isName_97 : decode cX12_isName 97 = .ok (.getfield 183, 3) := by decide +kernel
theorem dX12_isName_100 : decode cX12_isName 100 = .ok (.ldc2_w 219, 3) := by decide +kernel
theorem tw_1429 : Cond.constantLong RX12 219 112615912075891 ∈ TT := nx_mem 1429 (by decide +kernel) (by decide +kernel)
theorem dX12_isName_103 : decode cX12_isName 103 = .ok (.lcmp, 1) := by decide +kernel
theorem dX12_isName_104 : decode cX12_isName 104 = .ok (.ifCond .eq 18, 3) := by decide +kernel
theorem dX12_isName_107 : decode cX12_isName 107 = .ok (.aload_n 0, 1) := by decide +kernel
theorem dX12_isName_108 : decode cX12_isName 108 = .ok (.getfield 183, 3) := by decide +kernel
theorem dX12_isName_111 : decode cX12_isName 111 = .ok (.ldc2_w 221, 3) := by decide +kernel
theorem tw_1430 : Cond.constantLong RX12 221 1651470187 ∈ TT := nx_mem 1430 (by decide +kernel) (by decide +kernel)
theorem dX12_isName_114 : decode cX12_isName 114 = .ok (.lcmp, 1) := by decide +kernel
theorem dX12_isName_115 : decode cX12_isName 115 = .ok (.ifCond .eq 7, 3) := by decide +kernel
theorem dX12_isName_118 : decode cX12_isName 118 = .ok (.iconst 1, 1) := by decide +kernel
theorem dX12_isName_119 : decode cX12_isName 119 = .ok (.goto 4, 3) := by decide +kernel
theorem dX12_toldNumber_0 : decode cX12_toldNumber 0 = .ok (.aload_n 0, 1) := by decide +kernel
theorem dX12_toldNumber_1 : decode cX12_toldNumber 1 = .ok (.getfield 200, 3) := by decide +kernel
theorem dX12_toldNumber_4 : decode cX12_toldNumber 4 = .ok (.ifCond .le 5, 3) := by decide +kernel
theorem dX12_toldNumber_9 : decode cX12_toldNumber 9 = .ok (.aload_n 0, 1) := by decide +kernel
theorem dX12_toldNumber_10 : decode cX12_toldNumber 10 = .ok (.lload_n 1, 1) := by decide +kernel
theorem dX12_toldNumber_11 : decode cX12_toldNumber 11 = .ok (.invokevirtual 223, 3) := by decide +kernel
theorem tw_1406 : Cond.methodLink RX12 223 yX12_isWord ∈ TT := nx_mem 1406 (by decide +kernel) (by decide +kernel)
theorem tw_1408 : Cond.instanceMethod yX12_isWord ∈ TT := nx_mem 1408 (by decide +kernel) (by decide +kernel)
theorem tw_44 : Cond.selects RX12 yX12_isWord yX12_isWord ∈ TT := nx_mem 44 (by decide +kernel) (by decide +kernel)
theorem tw_1409 : Cond.code yX12_isWord cX12_isWord 3 (some .boolean) ∈ TT := nx_mem 1409 (by decide +kernel) (by decide +kernel)
theorem dX12_toldNumber_14 : decode cX12_toldNumber 14 = .ok (.ifCond .ne 8, 3) := by decide +kernel
theorem dX12_toldNumber_22 : decode cX12_toldNumber 22 = .ok (.aload_n 0, 1) := by decide +kernel
theorem dX12_toldNumber_23 : decode cX12_toldNumber 23 = .ok (.getfield 200, 3) := by decide +kernel
theorem dX12_toldNumber_26 : decode cX12_toldNumber 26 = .ok (.ifCond .le 5, 3) := by decide +kernel
theorem dX12_toldNumber_31 : decode cX12_toldNumber 31 = .ok (.aload_n 0, 1) := by decide +kernel
theorem dX12_toldNumber_32 : decode cX12_toldNumber 32 = .ok (.invokevirtual 230, 3) := by decide +kernel
theorem tw_1387 : Cond.methodLink RX12 230 yX12_token ∈ TT := nx_mem 1387 (by decide +kernel) (by decide +kernel)
theorem tw_1389 : Cond.instanceMethod yX12_token ∈ TT := nx_mem 1389 (by decide +kernel) (by decide +kernel)
theorem tw_41 : Cond.selects RX12 yX12_token yX12_token ∈ TT := nx_mem 41 (by decide +kernel) (by decide +kernel)
theorem tw_1390 : Cond.code yX12_token cX12_token 3 none ∈ TT := nx_mem 1390 (by decide +kernel) (by decide +kernel)
theorem dX12_toldNumber_35 : decode cX12_toldNumber 35 = .ok (.aload_n 0, 1) := by decide +kernel
theorem dX12_toldNumber_36 : decode cX12_toldNumber 36 = .ok (.getfield 190, 3) := by decide +kernel
theorem dX12_toldNumber_39 : decode cX12_toldNumber 39 = .ok (.iconst 2, 1) := by decide +kernel
theorem dX12_toldNumber_40 : decode cX12_toldNumber 40 = .ok (.if_icmp .eq 11, 3) := by decide +kernel
theorem dX12_toldNumber_51 : decode cX12_toldNumber 51 = .ok (.aload_n 0, 1) := by decide +kernel
theorem dX12_toldNumber_52 : decode cX12_toldNumber 52 = .ok (.getfield 187, 3) := by decide +kernel
theorem dX12_toldNumber_55 : decode cX12_toldNumber 55 = .ok (.iload_n 3, 1) := by decide +kernel
theorem dX12_toldNumber_56 : decode cX12_toldNumber 56 = .ok (.if_icmp .lt 12, 3) := by decide +kernel
theorem dX12_toldNumber_68 : decode cX12_toldNumber 68 = .ok (.aload_n 0, 1) := by decide +kernel
theorem dX12_toldNumber_69 : decode cX12_toldNumber 69 = .ok (.iconst 4, 1) := by decide +kernel
theorem dX12_toldNumber_70 : decode cX12_toldNumber 70 = .ok (.invokevirtual 227, 3) := by decide +kernel
theorem tw_1431 : Cond.methodLink RX12 227 yX12_wrong ∈ TT := nx_mem 1431 (by decide +kernel) (by decide +kernel)
theorem tw_1433 : Cond.instanceMethod yX12_wrong ∈ TT := nx_mem 1433 (by decide +kernel) (by decide +kernel)
theorem tw_48 : Cond.selects RX12 yX12_wrong yX12_wrong ∈ TT := nx_mem 48 (by decide +kernel) (by decide +kernel)
theorem tw_1434 : Cond.code yX12_wrong cX12_wrong 2 none ∈ TT := nx_mem 1434 (by decide +kernel) (by decide +kernel)
theorem dX12_toldNumber_73 : decode cX12_toldNumber 73 = .ok (.aload_n 0, 1) := by decide +kernel
theorem dX12_toldNumber_74 : decode cX12_toldNumber 74 = .ok (.getfield 187, 3) := by decide +kernel
theorem dX12_toldNumber_77 : decode cX12_toldNumber 77 = .ok (.istore 5, 2) := by decide +kernel
theorem dX12_toldNumber_79 : decode cX12_toldNumber 79 = .ok (.aload_n 0, 1) := by decide +kernel
theorem dX12_toldNumber_80 : decode cX12_toldNumber 80 = .ok (.getfield 200, 3) := by decide +kernel
theorem dX12_toldNumber_83 : decode cX12_toldNumber 83 = .ok (.ifCond .ne 7, 3) := by decide +kernel
theorem dX12_toldNumber_90 : decode cX12_toldNumber 90 = .ok (.iload 5, 2) := by decide +kernel
theorem dX12_toldNumber_92 : decode cX12_toldNumber 92 = .ok (.ireturn, 1) := by decide +kernel
theorem dX12_toldNumber_86 : decode cX12_toldNumber 86 = .ok (.aload_n 0, 1) := by decide +kernel
theorem dX12_toldNumber_87 : decode cX12_toldNumber 87 = .ok (.invokevirtual 230, 3) := by decide +kernel
theorem dX12_toldNumber_59 : decode cX12_toldNumber 59 = .ok (.aload_n 0, 1) := by decide +kernel
theorem dX12_toldNumber_60 : decode cX12_toldNumber 60 = .ok (.getfield 187, 3) := by decide +kernel
theorem dX12_toldNumber_63 : decode cX12_toldNumber 63 = .ok (.iload 4, 2) := by decide +kernel
theorem dX12_toldNumber_65 : decode cX12_toldNumber 65 = .ok (.if_icmp .le 8, 3) := by decide +kernel
theorem dX12_toldNumber_43 : decode cX12_toldNumber 43 = .ok (.aload_n 0, 1) := by decide +kernel
theorem dX12_toldNumber_44 : decode cX12_toldNumber 44 = .ok (.iconst 2, 1) := by decide +kernel
theorem dX12_toldNumber_45 : decode cX12_toldNumber 45 = .ok (.invokevirtual 227, 3) := by decide +kernel
theorem dX12_toldNumber_48 : decode cX12_toldNumber 48 = .ok (.goto 25, 3) := by decide +kernel
theorem dX12_toldNumber_29 : decode cX12_toldNumber 29 = .ok (.iconst 0, 1) := by decide +kernel
theorem dX12_toldNumber_30 : decode cX12_toldNumber 30 = .ok (.ireturn, 1) := by decide +kernel
theorem dX12_toldNumber_17 : decode cX12_toldNumber 17 = .ok (.aload_n 0, 1) := by decide +kernel
theorem dX12_toldNumber_18 : decode cX12_toldNumber 18 = .ok (.iconst 2, 1) := by decide +kernel
theorem dX12_toldNumber_19 : decode cX12_toldNumber 19 = .ok (.invokevirtual 227, 3) := by decide +kernel
theorem dX12_toldNumber_7 : decode cX12_toldNumber 7 = .ok (.iconst 0, 1) := by decide +kernel
theorem dX12_toldNumber_8 : decode cX12_toldNumber 8 = .ok (.ireturn, 1) := by decide +kernel
theorem dX12_find_0 : decode cX12_find 0 = .ok (.iconst (-1), 1) := by decide +kernel
theorem dX12_find_1 : decode cX12_find 1 = .ok (.istore_n 3, 1) := by decide +kernel
theorem dX12_find_2 : decode cX12_find 2 = .ok (.iconst 0, 1) := by decide +kernel
theorem dX12_find_3 : decode cX12_find 3 = .ok (.istore 4, 2) := by decide +kernel
theorem dX12_find_5 : decode cX12_find 5 = .ok (.iload 4, 2) := by decide +kernel
theorem dX12_find_7 : decode cX12_find 7 = .ok (.iload_n 2, 1) := by decide +kernel
theorem dX12_find_8 : decode cX12_find 8 = .ok (.if_icmp .ge 33, 3) := by decide +kernel
theorem dX12_find_41 : decode cX12_find 41 = .ok (.iload_n 3, 1) := by decide +kernel
theorem dX12_find_42 : decode cX12_find 42 = .ok (.ireturn, 1) := by decide +kernel
theorem dX12_find_11 : decode cX12_find 11 = .ok (.aload_n 0, 1) := by decide +kernel
theorem dX12_find_12 : decode cX12_find 12 = .ok (.getfield 17, 3) := by decide +kernel
theorem tw_1166 : Cond.fieldLink RX12 17 "LimpCodeModel" "nName" "[J" ∈ TT := nx_mem 1166 (by decide +kernel) (by decide +kernel)
theorem dX12_find_15 : decode cX12_find 15 = .ok (.iload_n 1, 1) := by decide +kernel
theorem dX12_find_16 : decode cX12_find 16 = .ok (.iload 4, 2) := by decide +kernel
theorem dX12_find_18 : decode cX12_find 18 = .ok (.iadd, 1) := by decide +kernel
theorem dX12_find_19 : decode cX12_find 19 = .ok (.laload, 1) := by decide +kernel
theorem dX12_find_20 : decode cX12_find 20 = .ok (.aload_n 0, 1) := by decide +kernel
theorem dX12_find_21 : decode cX12_find 21 = .ok (.getfield 183, 3) := by decide +kernel
theorem dX12_find_24 : decode cX12_find 24 = .ok (.lcmp, 1) := by decide +kernel
theorem dX12_find_25 : decode cX12_find 25 = .ok (.ifCond .ne 8, 3) := by decide +kernel
theorem dX12_find_33 : decode cX12_find 33 = .ok (.iload_n 3, 1) := by decide +kernel
theorem dX12_find_34 : decode cX12_find 34 = .ok (.istore_n 3, 1) := by decide +kernel
theorem dX12_find_35 : decode cX12_find 35 = .ok (.iinc 4 1, 3) := by decide +kernel
theorem dX12_find_38 : decode cX12_find 38 = .ok (.goto (-33), 3) := by decide +kernel
theorem dX12_find_28 : decode cX12_find 28 = .ok (.iload 4, 2) := by decide +kernel
theorem dX12_find_30 : decode cX12_find 30 = .ok (.goto 4, 3) := by decide +kernel
theorem dX12_newName_0 : decode cX12_newName 0 = .ok (.aload_n 0, 1) := by decide +kernel
theorem dX12_newName_1 : decode cX12_newName 1 = .ok (.invokevirtual 230, 3) := by decide +kernel
theorem dX12_newName_4 : decode cX12_newName 4 = .ok (.aload_n 0, 1) := by decide +kernel
theorem dX12_newName_5 : decode cX12_newName 5 = .ok (.invokevirtual 233, 3) := by decide +kernel
theorem tw_1418 : Cond.methodLink RX12 233 yX12_isName ∈ TT := nx_mem 1418 (by decide +kernel) (by decide +kernel)
theorem tw_1420 : Cond.instanceMethod yX12_isName ∈ TT := nx_mem 1420 (by decide +kernel) (by decide +kernel)
theorem tw_47 : Cond.selects RX12 yX12_isName yX12_isName ∈ TT := nx_mem 47 (by decide +kernel) (by decide +kernel)
theorem tw_1421 : Cond.code yX12_isName cX12_isName 1 (some .boolean) ∈ TT := nx_mem 1421 (by decide +kernel) (by decide +kernel)
theorem dX12_newName_8 : decode cX12_newName 8 = .ok (.ifCond .ne 11, 3) := by decide +kernel
theorem dX12_newName_19 : decode cX12_newName 19 = .ok (.aload_n 0, 1) := by decide +kernel
theorem dX12_newName_20 : decode cX12_newName 20 = .ok (.iload_n 1, 1) := by decide +kernel
theorem dX12_newName_21 : decode cX12_newName 21 = .ok (.iload_n 2, 1) := by decide +kernel
theorem dX12_newName_22 : decode cX12_newName 22 = .ok (.invokevirtual 237, 3) := by decide +kernel
theorem tw_1435 : Cond.methodLink RX12 237 yX12_find ∈ TT := nx_mem 1435 (by decide +kernel) (by decide +kernel)
theorem tw_1437 : Cond.instanceMethod yX12_find ∈ TT := nx_mem 1437 (by decide +kernel) (by decide +kernel)
theorem tw_49 : Cond.selects RX12 yX12_find yX12_find ∈ TT := nx_mem 49 (by decide +kernel) (by decide +kernel)
theorem tw_1438 : Cond.code yX12_find cX12_find 5 (some .int) ∈ TT := nx_mem 1438 (by decide +kernel) (by decide +kernel)
theorem dX12_newName_25 : decode cX12_newName 25 = .ok (.ifCond .lt 8, 3) := by decide +kernel
theorem dX12_newName_33 : decode cX12_newName 33 = .ok (.aload_n 0, 1) := by decide +kernel
theorem dX12_newName_34 : decode cX12_newName 34 = .ok (.getfield 200, 3) := by decide +kernel
theorem dX12_newName_37 : decode cX12_newName 37 = .ok (.ifCond .le 4, 3) := by decide +kernel
theorem dX12_newName_41 : decode cX12_newName 41 = .ok (.aload_n 0, 1) := by decide +kernel
theorem dX12_newName_42 : decode cX12_newName 42 = .ok (.getfield 17, 3) := by decide +kernel
theorem dX12_newName_45 : decode cX12_newName 45 = .ok (.iload_n 1, 1) := by decide +kernel
theorem dX12_newName_46 : decode cX12_newName 46 = .ok (.iload_n 2, 1) := by decide +kernel
theorem dX12_newName_47 : decode cX12_newName 47 = .ok (.iadd, 1) := by decide +kernel
theorem dX12_newName_48 : decode cX12_newName 48 = .ok (.aload_n 0, 1) := by decide +kernel
theorem dX12_newName_49 : decode cX12_newName 49 = .ok (.getfield 183, 3) := by decide +kernel
theorem dX12_newName_52 : decode cX12_newName 52 = .ok (.lastore, 1) := by decide +kernel
theorem dX12_newName_53 : decode cX12_newName 53 = .ok (.aload_n 0, 1) := by decide +kernel
theorem dX12_newName_54 : decode cX12_newName 54 = .ok (.invokevirtual 230, 3) := by decide +kernel
theorem dX12_newName_57 : decode cX12_newName 57 = .ok (.return_, 1) := by decide +kernel
theorem dX12_newName_40 : decode cX12_newName 40 = .ok (.return_, 1) := by decide +kernel
theorem dX12_newName_28 : decode cX12_newName 28 = .ok (.aload_n 0, 1) := by decide +kernel
theorem dX12_newName_29 : decode cX12_newName 29 = .ok (.iconst 3, 1) := by decide +kernel
theorem dX12_newName_30 : decode cX12_newName 30 = .ok (.invokevirtual 227, 3) := by decide +kernel
theorem dX12_newName_11 : decode cX12_newName 11 = .ok (.aload_n 0, 1) := by decide +kernel
theorem dX12_newName_12 : decode cX12_newName 12 = .ok (.iconst 2, 1) := by decide +kernel
theorem dX12_newName_13 : decode cX12_newName 13 = .ok (.invokevirtual 227, 3) := by decide +kernel
theorem dX12_newName_16 : decode cX12_newName 16 = .ok (.goto 17, 3) := by decide +kernel
theorem dX12_old_0 : decode cX12_old 0 = .ok (.aload_n 0, 1) := by decide +kernel
theorem dX12_old_1 : decode cX12_old 1 = .ok (.iload_n 1, 1) := by decide +kernel
theorem dX12_old_2 : decode cX12_old 2 = .ok (.iload_n 2, 1) := by decide +kernel
theorem dX12_old_3 : decode cX12_old 3 = .ok (.invokevirtual 237, 3) := by decide +kernel
theorem dX12_old_6 : decode cX12_old 6 = .ok (.istore_n 3, 1) := by decide +kernel
theorem dX12_old_7 : decode cX12_old 7 = .ok (.aload_n 0, 1) := by decide +kernel
theorem dX12_old_8 : decode cX12_old 8 = .ok (.invokevirtual 233, 3) := by decide +kernel
theorem dX12_old_11 : decode cX12_old 11 = .ok (.ifCond .ne 11, 3) := by decide +kernel
theorem dX12_old_22 : decode cX12_old 22 = .ok (.iload_n 3, 1) := by decide +kernel
theorem dX12_old_23 : decode cX12_old 23 = .ok (.ifCond .ge 8, 3) := by decide +kernel
theorem dX12_old_26 : decode cX12_old 26 = .ok (.aload_n 0, 1) := by decide +kernel
theorem dX12_old_27 : decode cX12_old 27 = .ok (.iconst 5, 1) := by decide +kernel
theorem dX12_old_28 : decode cX12_old 28 = .ok (.invokevirtual 227, 3) := by decide +kernel
theorem dX12_old_31 : decode cX12_old 31 = .ok (.iload_n 3, 1) := by decide +kernel
theorem dX12_old_32 : decode cX12_old 32 = .ok (.ireturn, 1) := by decide +kernel
theorem dX12_old_14 : decode cX12_old 14 = .ok (.aload_n 0, 1) := by decide +kernel
theorem dX12_old_15 : decode cX12_old 15 = .ok (.iconst 2, 1) := by decide +kernel
theorem dX12_old_16 : decode cX12_old 16 = .ok (.invokevirtual 227, 3) := by decide +kernel
theorem dX12_old_19 : decode cX12_old 19 = .ok (.goto 12, 3) := by decide +kernel
theorem dX12_readStep_0 : decode cX12_readStep 0 = .ok (.aload_n 0, 1) := by decide +kernel
theorem dX12_readStep_1 : decode cX12_readStep 1 = .ok (.iconst 0, 1) := by decide +kernel
theorem dX12_readStep_2 : decode cX12_readStep 2 = .ok (.aload_n 0, 1) := by decide +kernel
theorem dX12_readStep_3 : decode cX12_readStep 3 = .ok (.getfield 241, 3) := by decide +kernel
theorem tw_1181 : Cond.fieldLink RX12 241 "LimpCodeModel" "nSteps" "I" ∈ TT := nx_mem 1181 (by decide +kernel) (by decide +kernel)
theorem dX12_readStep_6 : decode cX12_readStep 6 = .ok (.invokevirtual 244, 3) := by decide +kernel
theorem tw_1414 : Cond.methodLink RX12 244 yX12_newName ∈ TT := nx_mem 1414 (by decide +kernel) (by decide +kernel)
theorem tw_1416 : Cond.instanceMethod yX12_newName ∈ TT := nx_mem 1416 (by decide +kernel) (by decide +kernel)
theorem tw_46 : Cond.selects RX12 yX12_newName yX12_newName ∈ TT := nx_mem 46 (by decide +kernel) (by decide +kernel)
theorem tw_1417 : Cond.code yX12_newName cX12_newName 3 none ∈ TT := nx_mem 1417 (by decide +kernel) (by decide +kernel)
theorem dX12_readStep_9 : decode cX12_readStep 9 = .ok (.aload_n 0, 1) := by decide +kernel
theorem dX12_readStep_10 : decode cX12_readStep 10 = .ok (.getfield 21, 3) := by decide +kernel
theorem tw_1167 : Cond.fieldLink RX12 21 "LimpCodeModel" "nTakes" "[I" ∈ TT := nx_mem 1167 (by decide +kernel) (by decide +kernel)
theorem dX12_readStep_13 : decode cX12_readStep 13 = .ok (.aload_n 0, 1) := by decide +kernel
theorem dX12_readStep_14 : decode cX12_readStep 14 = .ok (.getfield 241, 3) := by decide +kernel
theorem dX12_readStep_17 : decode cX12_readStep 17 = .ok (.aload_n 0, 1) := by decide +kernel
theorem dX12_readStep_18 : decode cX12_readStep 18 = .ok (.ldc2_w 205, 3) := by decide +kernel
theorem dX12_readStep_21 : decode cX12_readStep 21 = .ok (.iconst 1, 1) := by decide +kernel
theorem dX12_readStep_22 : decode cX12_readStep 22 = .ok (.bipush 9, 2) := by decide +kernel
theorem dX12_readStep_24 : decode cX12_readStep 24 = .ok (.invokevirtual 248, 3) := by decide +kernel
theorem tw_1439 : Cond.methodLink RX12 248 yX12_toldNumber ∈ TT := nx_mem 1439 (by decide +kernel) (by decide +kernel)
theorem tw_1441 : Cond.instanceMethod yX12_toldNumber ∈ TT := nx_mem 1441 (by decide +kernel) (by decide +kernel)
theorem tw_50 : Cond.selects RX12 yX12_toldNumber yX12_toldNumber ∈ TT := nx_mem 50 (by decide +kernel) (by decide +kernel)
theorem tw_1442 : Cond.code yX12_toldNumber cX12_toldNumber 6 (some .int) ∈ TT := nx_mem 1442 (by decide +kernel) (by decide +kernel)
theorem dX12_readStep_27 : decode cX12_readStep 27 = .ok (.iastore, 1) := by decide +kernel
theorem dX12_readStep_28 : decode cX12_readStep 28 = .ok (.aload_n 0, 1) := by decide +kernel
theorem dX12_readStep_29 : decode cX12_readStep 29 = .ok (.getfield 24, 3) := by decide +kernel
theorem tw_1168 : Cond.fieldLink RX12 24 "LimpCodeModel" "nLoud" "[I" ∈ TT := nx_mem 1168 (by decide +kernel) (by decide +kernel)
theorem dX12_readStep_32 : decode cX12_readStep 32 = .ok (.aload_n 0, 1) := by decide +kernel
theorem dX12_readStep_33 : decode cX12_readStep 33 = .ok (.getfield 241, 3) := by decide +kernel
theorem dX12_readStep_36 : decode cX12_readStep 36 = .ok (.aload_n 0, 1) := by decide +kernel
theorem dX12_readStep_37 : decode cX12_readStep 37 = .ok (.ldc2_w 207, 3) := by decide +kernel
theorem dX12_readStep_40 : decode cX12_readStep 40 = .ok (.iconst 0, 1) := by decide +kernel
theorem dX12_readStep_41 : decode cX12_readStep 41 = .ok (.bipush 9, 2) := by decide +kernel
theorem dX12_readStep_43 : decode cX12_readStep 43 = .ok (.invokevirtual 248, 3) := by decide +kernel
theorem dX12_readStep_46 : decode cX12_readStep 46 = .ok (.iastore, 1) := by decide +kernel
theorem dX12_readStep_47 : decode cX12_readStep 47 = .ok (.aload_n 0, 1) := by decide +kernel
theorem dX12_readStep_48 : decode cX12_readStep 48 = .ok (.getfield 200, 3) := by decide +kernel
theorem dX12_readStep_51 : decode cX12_readStep 51 = .ok (.ifCond .le 4, 3) := by decide +kernel
theorem dX12_readStep_55 : decode cX12_readStep 55 = .ok (.aload_n 0, 1) := by decide +kernel
theorem dX12_readStep_56 : decode cX12_readStep 56 = .ok (.ldc2_w 209, 3) := by decide +kernel
theorem dX12_readStep_59 : decode cX12_readStep 59 = .ok (.invokevirtual 223, 3) := by decide +kernel
theorem dX12_readStep_62 : decode cX12_readStep 62 = .ok (.ifCond .eq 7, 3) := by decide +kernel
theorem dX12_readStep_69 : decode cX12_readStep 69 = .ok (.aload_n 0, 1) := by decide +kernel
theorem dX12_readStep_70 : decode cX12_readStep 70 = .ok (.ldc2_w 211, 3) := by decide +kernel
theorem dX12_readStep_73 : decode cX12_readStep 73 = .ok (.invokevirtual 223, 3) := by decide +kernel
theorem dX12_readStep_76 : decode cX12_readStep 76 = .ok (.ifCond .eq 7, 3) := by decide +kernel
theorem dX12_readStep_83 : decode cX12_readStep 83 = .ok (.aload_n 0, 1) := by decide +kernel
theorem dX12_readStep_84 : decode cX12_readStep 84 = .ok (.ldc2_w 213, 3) := by decide +kernel
theorem dX12_readStep_87 : decode cX12_readStep 87 = .ok (.invokevirtual 223, 3) := by decide +kernel
theorem dX12_readStep_90 : decode cX12_readStep 90 = .ok (.ifCond .eq 7, 3) := by decide +kernel
theorem dX12_readStep_97 : decode cX12_readStep 97 = .ok (.iconst 0, 1) := by decide +kernel
theorem dX12_readStep_98 : decode cX12_readStep 98 = .ok (.istore_n 1, 1) := by decide +kernel
theorem dX12_readStep_99 : decode cX12_readStep 99 = .ok (.iload_n 1, 1) := by decide +kernel
theorem dX12_readStep_100 : decode cX12_readStep 100 = .ok (.ifCond .eq 7, 3) := by decide +kernel
theorem dX12_readStep_107 : decode cX12_readStep 107 = .ok (.aload_n 0, 1) := by decide +kernel
theorem dX12_readStep_108 : decode cX12_readStep 108 = .ok (.getfield 27, 3) := by decide +kernel
theorem tw_1169 : Cond.fieldLink RX12 27 "LimpCodeModel" "nKind" "[I" ∈ TT := nx_mem 1169 (by decide +kernel) (by decide +kernel)
theorem dX12_readStep_111 : decode cX12_readStep 111 = .ok (.aload_n 0, 1) := by decide +kernel
theorem dX12_readStep_112 : decode cX12_readStep 112 = .ok (.getfield 241, 3) := by decide +kernel
theorem dX12_readStep_115 : decode cX12_readStep 115 = .ok (.iload_n 1, 1) := by decide +kernel
theorem dX12_readStep_116 : decode cX12_readStep 116 = .ok (.iastore, 1) := by decide +kernel
theorem dX12_readStep_117 : decode cX12_readStep 117 = .ok (.aload_n 0, 1) := by decide +kernel
theorem dX12_readStep_118 : decode cX12_readStep 118 = .ok (.dup, 1) := by decide +kernel
theorem dX12_readStep_119 : decode cX12_readStep 119 = .ok (.getfield 241, 3) := by decide +kernel
theorem dX12_readStep_122 : decode cX12_readStep 122 = .ok (.iconst 1, 1) := by decide +kernel
theorem dX12_readStep_123 : decode cX12_readStep 123 = .ok (.iadd, 1) := by decide +kernel
theorem dX12_readStep_124 : decode cX12_readStep 124 = .ok (.putfield 241, 3) := by decide +kernel
theorem dX12_readStep_127 : decode cX12_readStep 127 = .ok (.return_, 1) := by decide +kernel
theorem dX12_readStep_93 : decode cX12_readStep 93 = .ok (.iconst 3, 1) := by decide +kernel
theorem dX12_readStep_94 : decode cX12_readStep 94 = .ok (.goto 4, 3) := by decide +kernel
theorem dX12_readStep_103 : decode cX12_readStep 103 = .ok (.aload_n 0, 1) := by decide +kernel
theorem dX12_readStep_104 : decode cX12_readStep 104 = .ok (.invokevirtual 230, 3) := by decide +kernel
theorem dX12_readStep_79 : decode cX12_readStep 79 = .ok (.iconst 2, 1) := by decide +kernel
theorem dX12_readStep_80 : decode cX12_readStep 80 = .ok (.goto 18, 3) := by decide +kernel
theorem dX12_readStep_65 : decode cX12_readStep 65 = .ok (.iconst 1, 1) := by decide +kernel
theorem dX12_readStep_66 : decode cX12_readStep 66 = .ok (.goto 32, 3) := by decide +kernel
theorem dX12_readStep_54 : decode cX12_readStep 54 = .ok (.return_, 1) := by decide +kernel
theorem dX12_readLetter_0 : decode cX12_readLetter 0 = .ok (.aload_n 0, 1) := by decide +kernel
theorem dX12_readLetter_1 : decode cX12_readLetter 1 = .ok (.bipush 16, 2) := by decide +kernel
theorem dX12_readLetter_3 : decode cX12_readLetter 3 = .ok (.aload_n 0, 1) := by decide +kernel
theorem dX12_readLetter_4 : decode cX12_readLetter 4 = .ok (.getfield 252, 3) := by decide +kernel
theorem tw_1182 : Cond.fieldLink RX12 252 "LimpCodeModel" "nLetters" "I" ∈ TT := nx_mem 1182 (by decide +kernel) (by decide +kernel)
theorem dX12_readLetter_7 : decode cX12_readLetter 7 = .ok (.invokevirtual 244, 3) := by decide +kernel
theorem dX12_readLetter_10 : decode cX12_readLetter 10 = .ok (.iconst 0, 1) := by decide +kernel
theorem dX12_readLetter_11 : decode cX12_readLetter 11 = .ok (.istore_n 1, 1) := by decide +kernel
theorem dX12_readLetter_12 : decode cX12_readLetter 12 = .ok (.iconst 1, 1) := by decide +kernel
theorem dX12_readLetter_13 : decode cX12_readLetter 13 = .ok (.istore_n 2, 1) := by decide +kernel
theorem dX12_readLetter_14 : decode cX12_readLetter 14 = .ok (.iload_n 2, 1) := by decide +kernel
theorem dX12_readLetter_15 : decode cX12_readLetter 15 = .ok (.ifCond .eq 76, 3) := by decide +kernel
theorem dX12_readLetter_18 : decode cX12_readLetter 18 = .ok (.aload_n 0, 1) := by decide +kernel
theorem dX12_readLetter_19 : decode cX12_readLetter 19 = .ok (.getfield 200, 3) := by decide +kernel
theorem dX12_readLetter_22 : decode cX12_readLetter 22 = .ok (.ifCond .ne 69, 3) := by decide +kernel
theorem dX12_readLetter_91 : decode cX12_readLetter 91 = .ok (.aload_n 0, 1) := by decide +kernel
theorem dX12_readLetter_92 : decode cX12_readLetter 92 = .ok (.getfield 200, 3) := by decide +kernel
theorem dX12_readLetter_95 : decode cX12_readLetter 95 = .ok (.ifCond .le 4, 3) := by decide +kernel
theorem dX12_readLetter_99 : decode cX12_readLetter 99 = .ok (.aload_n 0, 1) := by decide +kernel
theorem dX12_readLetter_100 : decode cX12_readLetter 100 = .ok (.getfield 30, 3) := by decide +kernel
theorem tw_1170 : Cond.fieldLink RX12 30 "LimpCodeModel" "nMany" "[I" ∈ TT := nx_mem 1170 (by decide +kernel) (by decide +kernel)
theorem dX12_readLetter_103 : decode cX12_readLetter 103 = .ok (.aload_n 0, 1) := by decide +kernel
theorem dX12_readLetter_104 : decode cX12_readLetter 104 = .ok (.getfield 252, 3) := by decide +kernel
theorem dX12_readLetter_107 : decode cX12_readLetter 107 = .ok (.iload_n 1, 1) := by decide +kernel
theorem dX12_readLetter_108 : decode cX12_readLetter 108 = .ok (.iastore, 1) := by decide +kernel
theorem dX12_readLetter_109 : decode cX12_readLetter 109 = .ok (.aload_n 0, 1) := by decide +kernel
theorem dX12_readLetter_110 : decode cX12_readLetter 110 = .ok (.dup, 1) := by decide +kernel
theorem dX12_readLetter_111 : decode cX12_readLetter 111 = .ok (.getfield 252, 3) := by decide +kernel
theorem dX12_readLetter_114 : decode cX12_readLetter 114 = .ok (.iconst 1, 1) := by decide +kernel
theorem dX12_readLetter_115 : decode cX12_readLetter 115 = .ok (.iadd, 1) := by decide +kernel
theorem dX12_readLetter_116 : decode cX12_readLetter 116 = .ok (.putfield 252, 3) := by decide +kernel
theorem dX12_readLetter_119 : decode cX12_readLetter 119 = .ok (.return_, 1) := by decide +kernel
theorem dX12_readLetter_98 : decode cX12_readLetter 98 = .ok (.return_, 1) := by decide +kernel
theorem dX12_readLetter_25 : decode cX12_readLetter 25 = .ok (.iload_n 1, 1) := by decide +kernel
theorem dX12_readLetter_26 : decode cX12_readLetter 26 = .ok (.iconst 5, 1) := by decide +kernel
theorem dX12_readLetter_27 : decode cX12_readLetter 27 = .ok (.if_icmp .ne 8, 3) := by decide +kernel
theorem dX12_readLetter_35 : decode cX12_readLetter 35 = .ok (.aload_n 0, 1) := by decide +kernel
theorem dX12_readLetter_36 : decode cX12_readLetter 36 = .ok (.iconst 0, 1) := by decide +kernel
theorem dX12_readLetter_37 : decode cX12_readLetter 37 = .ok (.aload_n 0, 1) := by decide +kernel
theorem dX12_readLetter_38 : decode cX12_readLetter 38 = .ok (.getfield 241, 3) := by decide +kernel
theorem dX12_readLetter_41 : decode cX12_readLetter 41 = .ok (.invokevirtual 255, 3) := by decide +kernel
theorem tw_1447 : Cond.methodLink RX12 255 yX12_old ∈ TT := nx_mem 1447 (by decide +kernel) (by decide +kernel)
theorem tw_1449 : Cond.instanceMethod yX12_old ∈ TT := nx_mem 1449 (by decide +kernel) (by decide +kernel)
theorem tw_52 : Cond.selects RX12 yX12_old yX12_old ∈ TT := nx_mem 52 (by decide +kernel) (by decide +kernel)
theorem tw_1450 : Cond.code yX12_old cX12_old 4 (some .int) ∈ TT := nx_mem 1450 (by decide +kernel) (by decide +kernel)
theorem dX12_readLetter_44 : decode cX12_readLetter 44 = .ok (.istore_n 3, 1) := by decide +kernel
theorem dX12_readLetter_45 : decode cX12_readLetter 45 = .ok (.aload_n 0, 1) := by decide +kernel
theorem dX12_readLetter_46 : decode cX12_readLetter 46 = .ok (.getfield 200, 3) := by decide +kernel
theorem dX12_readLetter_49 : decode cX12_readLetter 49 = .ok (.ifCond .le 4, 3) := by decide +kernel
theorem dX12_readLetter_53 : decode cX12_readLetter 53 = .ok (.aload_n 0, 1) := by decide +kernel
theorem dX12_readLetter_54 : decode cX12_readLetter 54 = .ok (.getfield 33, 3) := by decide +kernel
theorem tw_1171 : Cond.fieldLink RX12 33 "LimpCodeModel" "nRow" "[I" ∈ TT := nx_mem 1171 (by decide +kernel) (by decide +kernel)
theorem dX12_readLetter_57 : decode cX12_readLetter 57 = .ok (.iconst 5, 1) := by decide +kernel
theorem dX12_readLetter_58 : decode cX12_readLetter 58 = .ok (.aload_n 0, 1) := by decide +kernel
theorem dX12_readLetter_59 : decode cX12_readLetter 59 = .ok (.getfield 252, 3) := by decide +kernel
theorem dX12_readLetter_62 : decode cX12_readLetter 62 = .ok (.imul, 1) := by decide +kernel
theorem dX12_readLetter_63 : decode cX12_readLetter 63 = .ok (.iload_n 1, 1) := by decide +kernel
theorem dX12_readLetter_64 : decode cX12_readLetter 64 = .ok (.iadd, 1) := by decide +kernel
theorem dX12_readLetter_65 : decode cX12_readLetter 65 = .ok (.iload_n 3, 1) := by decide +kernel
theorem dX12_readLetter_66 : decode cX12_readLetter 66 = .ok (.iastore, 1) := by decide +kernel
theorem dX12_readLetter_67 : decode cX12_readLetter 67 = .ok (.iinc 1 1, 3) := by decide +kernel
theorem dX12_readLetter_70 : decode cX12_readLetter 70 = .ok (.aload_n 0, 1) := by decide +kernel
theorem dX12_readLetter_71 : decode cX12_readLetter 71 = .ok (.invokevirtual 230, 3) := by decide +kernel
theorem dX12_readLetter_74 : decode cX12_readLetter 74 = .ok (.aload_n 0, 1) := by decide +kernel
theorem dX12_readLetter_75 : decode cX12_readLetter 75 = .ok (.getfield 190, 3) := by decide +kernel
theorem dX12_readLetter_78 : decode cX12_readLetter 78 = .ok (.iconst 1, 1) := by decide +kernel
theorem dX12_readLetter_79 : decode cX12_readLetter 79 = .ok (.if_icmp .ne 7, 3) := by decide +kernel
theorem dX12_readLetter_86 : decode cX12_readLetter 86 = .ok (.iconst 0, 1) := by decide +kernel
theorem dX12_readLetter_87 : decode cX12_readLetter 87 = .ok (.istore_n 2, 1) := by decide +kernel
theorem dX12_readLetter_88 : decode cX12_readLetter 88 = .ok (.goto (-74), 3) := by decide +kernel
theorem dX12_readLetter_82 : decode cX12_readLetter 82 = .ok (.iconst 1, 1) := by decide +kernel
theorem dX12_readLetter_83 : decode cX12_readLetter 83 = .ok (.goto 4, 3) := by decide +kernel
theorem dX12_readLetter_52 : decode cX12_readLetter 52 = .ok (.return_, 1) := by decide +kernel
theorem dX12_readLetter_30 : decode cX12_readLetter 30 = .ok (.aload_n 0, 1) := by decide +kernel
theorem dX12_readLetter_31 : decode cX12_readLetter 31 = .ok (.iconst 2, 1) := by decide +kernel
theorem dX12_readLetter_32 : decode cX12_readLetter 32 = .ok (.invokevirtual 227, 3) := by decide +kernel
theorem dX12_readBook_0 : decode cX12_readBook 0 = .ok (.aload_n 0, 1) := by decide +kernel
theorem dX12_readBook_1 : decode cX12_readBook 1 = .ok (.invokevirtual 230, 3) := by decide +kernel
theorem dX12_readBook_4 : decode cX12_readBook 4 = .ok (.iconst 0, 1) := by decide +kernel
theorem dX12_readBook_5 : decode cX12_readBook 5 = .ok (.istore_n 1, 1) := by decide +kernel
theorem dX12_readBook_6 : decode cX12_readBook 6 = .ok (.iconst 1, 1) := by decide +kernel
theorem dX12_readBook_7 : decode cX12_readBook 7 = .ok (.istore_n 2, 1) := by decide +kernel
theorem dX12_readBook_8 : decode cX12_readBook 8 = .ok (.iload_n 2, 1) := by decide +kernel
theorem dX12_readBook_9 : decode cX12_readBook 9 = .ok (.ifCond .eq 77, 3) := by decide +kernel
theorem dX12_readBook_12 : decode cX12_readBook 12 = .ok (.aload_n 0, 1) := by decide +kernel
theorem dX12_readBook_13 : decode cX12_readBook 13 = .ok (.getfield 200, 3) := by decide +kernel
theorem dX12_readBook_16 : decode cX12_readBook 16 = .ok (.ifCond .ne 70, 3) := by decide +kernel
theorem dX12_readBook_86 : decode cX12_readBook 86 = .ok (.aload_n 0, 1) := by decide +kernel
theorem dX12_readBook_87 : decode cX12_readBook 87 = .ok (.getfield 39, 3) := by decide +kernel
theorem tw_1173 : Cond.fieldLink RX12 39 "LimpCodeModel" "nBook" "[I" ∈ TT := nx_mem 1173 (by decide +kernel) (by decide +kernel)
theorem dX12_readBook_90 : decode cX12_readBook 90 = .ok (.aload_n 0, 1) := by decide +kernel
theorem dX12_readBook_91 : decode cX12_readBook 91 = .ok (.getfield 258, 3) := by decide +kernel
theorem tw_1183 : Cond.fieldLink RX12 258 "LimpCodeModel" "nEars" "I" ∈ TT := nx_mem 1183 (by decide +kernel) (by decide +kernel)
theorem dX12_readBook_94 : decode cX12_readBook 94 = .ok (.iload_n 1, 1) := by decide +kernel
theorem dX12_readBook_95 : decode cX12_readBook 95 = .ok (.iastore, 1) := by decide +kernel
theorem dX12_readBook_96 : decode cX12_readBook 96 = .ok (.return_, 1) := by decide +kernel
theorem dX12_readBook_19 : decode cX12_readBook 19 = .ok (.aload_n 0, 1) := by decide +kernel
theorem dX12_readBook_20 : decode cX12_readBook 20 = .ok (.bipush 16, 2) := by decide +kernel
theorem dX12_readBook_22 : decode cX12_readBook 22 = .ok (.aload_n 0, 1) := by decide +kernel
theorem dX12_readBook_23 : decode cX12_readBook 23 = .ok (.getfield 252, 3) := by decide +kernel
theorem dX12_readBook_26 : decode cX12_readBook 26 = .ok (.invokevirtual 255, 3) := by decide +kernel
theorem dX12_readBook_29 : decode cX12_readBook 29 = .ok (.istore_n 3, 1) := by decide +kernel
theorem dX12_readBook_30 : decode cX12_readBook 30 = .ok (.aload_n 0, 1) := by decide +kernel
theorem dX12_readBook_31 : decode cX12_readBook 31 = .ok (.getfield 200, 3) := by decide +kernel
theorem dX12_readBook_34 : decode cX12_readBook 34 = .ok (.ifCond .ne 17, 3) := by decide +kernel
theorem dX12_readBook_51 : decode cX12_readBook 51 = .ok (.aload_n 0, 1) := by decide +kernel
theorem dX12_readBook_52 : decode cX12_readBook 52 = .ok (.getfield 200, 3) := by decide +kernel
theorem dX12_readBook_55 : decode cX12_readBook 55 = .ok (.ifCond .le 4, 3) := by decide +kernel
theorem dX12_readBook_59 : decode cX12_readBook 59 = .ok (.iload_n 1, 1) := by decide +kernel
theorem dX12_readBook_60 : decode cX12_readBook 60 = .ok (.iconst 1, 1) := by decide +kernel
theorem dX12_readBook_61 : decode cX12_readBook 61 = .ok (.iload_n 3, 1) := by decide +kernel
theorem dX12_readBook_62 : decode cX12_readBook 62 = .ok (.ishl, 1) := by decide +kernel
theorem dX12_readBook_63 : decode cX12_readBook 63 = .ok (.ior, 1) := by decide +kernel
theorem dX12_readBook_64 : decode cX12_readBook 64 = .ok (.istore_n 1, 1) := by decide +kernel
theorem dX12_readBook_65 : decode cX12_readBook 65 = .ok (.aload_n 0, 1) := by decide +kernel
theorem dX12_readBook_66 : decode cX12_readBook 66 = .ok (.invokevirtual 230, 3) := by decide +kernel
theorem dX12_readBook_69 : decode cX12_readBook 69 = .ok (.aload_n 0, 1) := by decide +kernel
theorem dX12_readBook_70 : decode cX12_readBook 70 = .ok (.getfield 190, 3) := by decide +kernel
theorem dX12_readBook_73 : decode cX12_readBook 73 = .ok (.iconst 1, 1) := by decide +kernel
theorem dX12_readBook_74 : decode cX12_readBook 74 = .ok (.if_icmp .ne 7, 3) := by decide +kernel
theorem dX12_readBook_81 : decode cX12_readBook 81 = .ok (.iconst 0, 1) := by decide +kernel
theorem dX12_readBook_82 : decode cX12_readBook 82 = .ok (.istore_n 2, 1) := by decide +kernel
theorem dX12_readBook_83 : decode cX12_readBook 83 = .ok (.goto (-75), 3) := by decide +kernel
theorem dX12_readBook_77 : decode cX12_readBook 77 = .ok (.iconst 1, 1) := by decide +kernel
theorem dX12_readBook_78 : decode cX12_readBook 78 = .ok (.goto 4, 3) := by decide +kernel
theorem dX12_readBook_58 : decode cX12_readBook 58 = .ok (.return_, 1) := by decide +kernel
theorem dX12_readBook_37 : decode cX12_readBook 37 = .ok (.iload_n 1, 1) := by decide +kernel
theorem dX12_readBook_38 : decode cX12_readBook 38 = .ok (.iload_n 3, 1) := by decide +kernel
theorem dX12_readBook_39 : decode cX12_readBook 39 = .ok (.ishr, 1) := by decide +kernel
theorem dX12_readBook_40 : decode cX12_readBook 40 = .ok (.iconst 1, 1) := by decide +kernel
theorem dX12_readBook_41 : decode cX12_readBook 41 = .ok (.iand, 1) := by decide +kernel
theorem dX12_readBook_42 : decode cX12_readBook 42 = .ok (.iconst 1, 1) := by decide +kernel
theorem dX12_readBook_43 : decode cX12_readBook 43 = .ok (.if_icmp .ne 8, 3) := by decide +kernel
theorem dX12_readBook_46 : decode cX12_readBook 46 = .ok (.aload_n 0, 1) := by decide +kernel
theorem dX12_readBook_47 : decode cX12_readBook 47 = .ok (.iconst 3, 1) := by decide +kernel
theorem dX12_readBook_48 : decode cX12_readBook 48 = .ok (.invokevirtual 227, 3) := by decide +kernel
theorem dX12_readEar_0 : decode cX12_readEar 0 = .ok (.aload_n 0, 1) := by decide +kernel
theorem dX12_readEar_1 : decode cX12_readEar 1 = .ok (.bipush 32, 2) := by decide +kernel
theorem dX12_readEar_3 : decode cX12_readEar 3 = .ok (.aload_n 0, 1) := by decide +kernel
theorem dX12_readEar_4 : decode cX12_readEar 4 = .ok (.getfield 258, 3) := by decide +kernel
theorem dX12_readEar_7 : decode cX12_readEar 7 = .ok (.invokevirtual 244, 3) := by decide +kernel
theorem dX12_readEar_10 : decode cX12_readEar 10 = .ok (.aload_n 0, 1) := by decide +kernel
theorem dX12_readEar_11 : decode cX12_readEar 11 = .ok (.getfield 36, 3) := by decide +kernel
theorem tw_1172 : Cond.fieldLink RX12 36 "LimpCodeModel" "nFloors" "[I" ∈ TT := nx_mem 1172 (by decide +kernel) (by decide +kernel)
theorem dX12_readEar_14 : decode cX12_readEar 14 = .ok (.aload_n 0, 1) := by decide +kernel
theorem dX12_readEar_15 : decode cX12_readEar 15 = .ok (.getfield 258, 3) := by decide +kernel
theorem dX12_readEar_18 : decode cX12_readEar 18 = .ok (.aload_n 0, 1) := by decide +kernel
theorem dX12_readEar_19 : decode cX12_readEar 19 = .ok (.ldc2_w 219, 3) := by decide +kernel
theorem dX12_readEar_22 : decode cX12_readEar 22 = .ok (.iconst 0, 1) := by decide +kernel
theorem dX12_readEar_23 : decode cX12_readEar 23 = .ok (.bipush 9, 2) := by decide +kernel
theorem dX12_readEar_25 : decode cX12_readEar 25 = .ok (.invokevirtual 248, 3) := by decide +kernel
theorem dX12_readEar_28 : decode cX12_readEar 28 = .ok (.iastore, 1) := by decide +kernel
theorem dX12_readEar_29 : decode cX12_readEar 29 = .ok (.aload_n 0, 1) := by decide +kernel
theorem dX12_readEar_30 : decode cX12_readEar 30 = .ok (.getfield 200, 3) := by decide +kernel
theorem dX12_readEar_33 : decode cX12_readEar 33 = .ok (.ifCond .le 4, 3) := by decide +kernel
theorem dX12_readEar_37 : decode cX12_readEar 37 = .ok (.aload_n 0, 1) := by decide +kernel
theorem dX12_readEar_38 : decode cX12_readEar 38 = .ok (.getfield 39, 3) := by decide +kernel
theorem dX12_readEar_41 : decode cX12_readEar 41 = .ok (.aload_n 0, 1) := by decide +kernel
theorem dX12_readEar_42 : decode cX12_readEar 42 = .ok (.getfield 258, 3) := by decide +kernel
theorem dX12_readEar_45 : decode cX12_readEar 45 = .ok (.iconst (-1), 1) := by decide +kernel
theorem dX12_readEar_46 : decode cX12_readEar 46 = .ok (.iastore, 1) := by decide +kernel
theorem dX12_readEar_47 : decode cX12_readEar 47 = .ok (.aload_n 0, 1) := by decide +kernel
theorem dX12_readEar_48 : decode cX12_readEar 48 = .ok (.ldc2_w 221, 3) := by decide +kernel
theorem dX12_readEar_51 : decode cX12_readEar 51 = .ok (.invokevirtual 223, 3) := by decide +kernel
theorem dX12_readEar_54 : decode cX12_readEar 54 = .ok (.ifCond .eq 7, 3) := by decide +kernel
theorem dX12_readEar_61 : decode cX12_readEar 61 = .ok (.aload_n 0, 1) := by decide +kernel
theorem dX12_readEar_62 : decode cX12_readEar 62 = .ok (.getfield 200, 3) := by decide +kernel
theorem dX12_readEar_65 : decode cX12_readEar 65 = .ok (.ifCond .ne 13, 3) := by decide +kernel
theorem dX12_readEar_78 : decode cX12_readEar 78 = .ok (.return_, 1) := by decide +kernel
theorem dX12_readEar_68 : decode cX12_readEar 68 = .ok (.aload_n 0, 1) := by decide +kernel
theorem dX12_readEar_69 : decode cX12_readEar 69 = .ok (.dup, 1) := by decide +kernel
theorem dX12_readEar_70 : decode cX12_readEar 70 = .ok (.getfield 258, 3) := by decide +kernel
theorem dX12_readEar_73 : decode cX12_readEar 73 = .ok (.iconst 1, 1) := by decide +kernel
theorem dX12_readEar_74 : decode cX12_readEar 74 = .ok (.iadd, 1) := by decide +kernel
theorem dX12_readEar_75 : decode cX12_readEar 75 = .ok (.putfield 258, 3) := by decide +kernel
theorem dX12_readEar_57 : decode cX12_readEar 57 = .ok (.aload_n 0, 1) := by decide +kernel
theorem dX12_readEar_58 : decode cX12_readEar 58 = .ok (.invokevirtual 261, 3) := by decide +kernel
theorem tw_1455 : Cond.methodLink RX12 261 yX12_readBook ∈ TT := nx_mem 1455 (by decide +kernel) (by decide +kernel)
theorem tw_1457 : Cond.instanceMethod yX12_readBook ∈ TT := nx_mem 1457 (by decide +kernel) (by decide +kernel)
theorem tw_54 : Cond.selects RX12 yX12_readBook yX12_readBook ∈ TT := nx_mem 54 (by decide +kernel) (by decide +kernel)
theorem tw_1458 : Cond.code yX12_readBook cX12_readBook 4 none ∈ TT := nx_mem 1458 (by decide +kernel) (by decide +kernel)
theorem dX12_readEar_36 : decode cX12_readEar 36 = .ok (.return_, 1) := by decide +kernel
theorem dX12_readLine_0 : decode cX12_readLine 0 = .ok (.aload_n 0, 1) := by decide +kernel
theorem dX12_readLine_1 : decode cX12_readLine 1 = .ok (.ldc2_w 203, 3) := by decide +kernel
theorem dX12_readLine_4 : decode cX12_readLine 4 = .ok (.invokevirtual 223, 3) := by decide +kernel
theorem dX12_readLine_7 : decode cX12_readLine 7 = .ok (.ifCond .eq 19, 3) := by decide +kernel
theorem dX12_readLine_26 : decode cX12_readLine 26 = .ok (.aload_n 0, 1) := by decide +kernel
theorem dX12_readLine_27 : decode cX12_readLine 27 = .ok (.ldc2_w 215, 3) := by decide +kernel
theorem dX12_readLine_30 : decode cX12_readLine 30 = .ok (.invokevirtual 223, 3) := by decide +kernel
theorem dX12_readLine_33 : decode cX12_readLine 33 = .ok (.ifCond .eq 19, 3) := by decide +kernel
theorem dX12_readLine_52 : decode cX12_readLine 52 = .ok (.aload_n 0, 1) := by decide +kernel
theorem dX12_readLine_53 : decode cX12_readLine 53 = .ok (.ldc2_w 217, 3) := by decide +kernel
theorem dX12_readLine_56 : decode cX12_readLine 56 = .ok (.invokevirtual 223, 3) := by decide +kernel
theorem dX12_readLine_59 : decode cX12_readLine 59 = .ok (.ifCond .eq 18, 3) := by decide +kernel
theorem dX12_readLine_77 : decode cX12_readLine 77 = .ok (.aload_n 0, 1) := by decide +kernel
theorem dX12_readLine_78 : decode cX12_readLine 78 = .ok (.iconst 2, 1) := by decide +kernel
theorem dX12_readLine_79 : decode cX12_readLine 79 = .ok (.invokevirtual 227, 3) := by decide +kernel
theorem dX12_readLine_82 : decode cX12_readLine 82 = .ok (.aload_n 0, 1) := by decide +kernel
theorem dX12_readLine_83 : decode cX12_readLine 83 = .ok (.getfield 200, 3) := by decide +kernel
theorem dX12_readLine_86 : decode cX12_readLine 86 = .ok (.ifCond .ne 17, 3) := by decide +kernel
theorem dX12_readLine_103 : decode cX12_readLine 103 = .ok (.aload_n 0, 1) := by decide +kernel
theorem dX12_readLine_104 : decode cX12_readLine 104 = .ok (.getfield 200, 3) := by decide +kernel
theorem dX12_readLine_107 : decode cX12_readLine 107 = .ok (.ifCond .ne 7, 3) := by decide +kernel
theorem dX12_readLine_114 : decode cX12_readLine 114 = .ok (.return_, 1) := by decide +kernel
theorem dX12_readLine_110 : decode cX12_readLine 110 = .ok (.aload_n 0, 1) := by decide +kernel
theorem dX12_readLine_111 : decode cX12_readLine 111 = .ok (.invokevirtual 230, 3) := by decide +kernel
theorem dX12_readLine_89 : decode cX12_readLine 89 = .ok (.aload_n 0, 1) := by decide +kernel
theorem dX12_readLine_90 : decode cX12_readLine 90 = .ok (.getfield 190, 3) := by decide +kernel
theorem dX12_readLine_93 : decode cX12_readLine 93 = .ok (.bipush 59, 2) := by decide +kernel
theorem dX12_readLine_95 : decode cX12_readLine 95 = .ok (.if_icmp .eq 8, 3) := by decide +kernel
theorem dX12_readLine_98 : decode cX12_readLine 98 = .ok (.aload_n 0, 1) := by decide +kernel
theorem dX12_readLine_99 : decode cX12_readLine 99 = .ok (.iconst 2, 1) := by decide +kernel
theorem dX12_readLine_100 : decode cX12_readLine 100 = .ok (.invokevirtual 227, 3) := by decide +kernel
theorem dX12_readLine_62 : decode cX12_readLine 62 = .ok (.aload_n 0, 1) := by decide +kernel
theorem dX12_readLine_63 : decode cX12_readLine 63 = .ok (.getfield 258, 3) := by decide +kernel
theorem dX12_readLine_66 : decode cX12_readLine 66 = .ok (.iconst 4, 1) := by decide +kernel
theorem dX12_readLine_67 : decode cX12_readLine 67 = .ok (.if_icmp .ge 10, 3) := by decide +kernel
theorem dX12_readLine_70 : decode cX12_readLine 70 = .ok (.aload_n 0, 1) := by decide +kernel
theorem dX12_readLine_71 : decode cX12_readLine 71 = .ok (.invokevirtual 270, 3) := by decide +kernel
theorem tw_1451 : Cond.methodLink RX12 270 yX12_readEar ∈ TT := nx_mem 1451 (by decide +kernel) (by decide +kernel)
theorem tw_1453 : Cond.instanceMethod yX12_readEar ∈ TT := nx_mem 1453 (by decide +kernel) (by decide +kernel)
theorem tw_53 : Cond.selects RX12 yX12_readEar yX12_readEar ∈ TT := nx_mem 53 (by decide +kernel) (by decide +kernel)
theorem tw_1454 : Cond.code yX12_readEar cX12_readEar 1 none ∈ TT := nx_mem 1454 (by decide +kernel) (by decide +kernel)
theorem dX12_readLine_74 : decode cX12_readLine 74 = .ok (.goto 8, 3) := by decide +kernel
theorem dX12_readLine_36 : decode cX12_readLine 36 = .ok (.aload_n 0, 1) := by decide +kernel
theorem dX12_readLine_37 : decode cX12_readLine 37 = .ok (.getfield 252, 3) := by decide +kernel
theorem dX12_readLine_40 : decode cX12_readLine 40 = .ok (.bipush 10, 2) := by decide +kernel
theorem dX12_readLine_42 : decode cX12_readLine 42 = .ok (.if_icmp .ge 10, 3) := by decide +kernel
theorem dX12_readLine_45 : decode cX12_readLine 45 = .ok (.aload_n 0, 1) := by decide +kernel
theorem dX12_readLine_46 : decode cX12_readLine 46 = .ok (.invokevirtual 267, 3) := by decide +kernel
theorem tw_1443 : Cond.methodLink RX12 267 yX12_readLetter ∈ TT := nx_mem 1443 (by decide +kernel) (by decide +kernel)
theorem tw_1445 : Cond.instanceMethod yX12_readLetter ∈ TT := nx_mem 1445 (by decide +kernel) (by decide +kernel)
theorem tw_51 : Cond.selects RX12 yX12_readLetter yX12_readLetter ∈ TT := nx_mem 51 (by decide +kernel) (by decide +kernel)
theorem tw_1446 : Cond.code yX12_readLetter cX12_readLetter 4 none ∈ TT := nx_mem 1446 (by decide +kernel) (by decide +kernel)
theorem dX12_readLine_49 : decode cX12_readLine 49 = .ok (.goto 33, 3) := by decide +kernel
theorem dX12_readLine_10 : decode cX12_readLine 10 = .ok (.aload_n 0, 1) := by decide +kernel
theorem dX12_readLine_11 : decode cX12_readLine 11 = .ok (.getfield 241, 3) := by decide +kernel
theorem dX12_readLine_14 : decode cX12_readLine 14 = .ok (.bipush 6, 2) := by decide +kernel
theorem dX12_readLine_16 : decode cX12_readLine 16 = .ok (.if_icmp .ge 10, 3) := by decide +kernel
theorem dX12_readLine_19 : decode cX12_readLine 19 = .ok (.aload_n 0, 1) := by decide +kernel
theorem dX12_readLine_20 : decode cX12_readLine 20 = .ok (.invokevirtual 264, 3) := by decide +kernel
theorem tw_1410 : Cond.methodLink RX12 264 yX12_readStep ∈ TT := nx_mem 1410 (by decide +kernel) (by decide +kernel)
theorem tw_1412 : Cond.instanceMethod yX12_readStep ∈ TT := nx_mem 1412 (by decide +kernel) (by decide +kernel)
theorem tw_45 : Cond.selects RX12 yX12_readStep yX12_readStep ∈ TT := nx_mem 45 (by decide +kernel) (by decide +kernel)
theorem tw_1413 : Cond.code yX12_readStep cX12_readStep 2 none ∈ TT := nx_mem 1413 (by decide +kernel) (by decide +kernel)
theorem dX12_readLine_23 : decode cX12_readLine 23 = .ok (.goto 59, 3) := by decide +kernel
theorem dX12_readAll_0 : decode cX12_readAll 0 = .ok (.aload_n 0, 1) := by decide +kernel
theorem dX12_readAll_1 : decode cX12_readAll 1 = .ok (.aload_n 0, 1) := by decide +kernel
theorem dX12_readAll_2 : decode cX12_readAll 2 = .ok (.getfield 163, 3) := by decide +kernel
theorem dX12_readAll_5 : decode cX12_readAll 5 = .ok (.putfield 173, 3) := by decide +kernel
theorem dX12_readAll_8 : decode cX12_readAll 8 = .ok (.aload_n 0, 1) := by decide +kernel
theorem dX12_readAll_9 : decode cX12_readAll 9 = .ok (.iconst 0, 1) := by decide +kernel
theorem dX12_readAll_10 : decode cX12_readAll 10 = .ok (.putfield 163, 3) := by decide +kernel
theorem dX12_readAll_13 : decode cX12_readAll 13 = .ok (.aload_n 0, 1) := by decide +kernel
theorem dX12_readAll_14 : decode cX12_readAll 14 = .ok (.iconst 0, 1) := by decide +kernel
theorem dX12_readAll_15 : decode cX12_readAll 15 = .ok (.putfield 170, 3) := by decide +kernel
theorem dX12_readAll_18 : decode cX12_readAll 18 = .ok (.aload_n 0, 1) := by decide +kernel
theorem dX12_readAll_19 : decode cX12_readAll 19 = .ok (.iconst 0, 1) := by decide +kernel
theorem dX12_readAll_20 : decode cX12_readAll 20 = .ok (.putfield 200, 3) := by decide +kernel
theorem dX12_readAll_23 : decode cX12_readAll 23 = .ok (.aload_n 0, 1) := by decide +kernel
theorem dX12_readAll_24 : decode cX12_readAll 24 = .ok (.iconst (-1), 1) := by decide +kernel
theorem dX12_readAll_25 : decode cX12_readAll 25 = .ok (.putfield 13, 3) := by decide +kernel
theorem dX12_readAll_28 : decode cX12_readAll 28 = .ok (.aload_n 0, 1) := by decide +kernel
theorem dX12_readAll_29 : decode cX12_readAll 29 = .ok (.iconst 0, 1) := by decide +kernel
theorem dX12_readAll_30 : decode cX12_readAll 30 = .ok (.putfield 241, 3) := by decide +kernel
theorem dX12_readAll_33 : decode cX12_readAll 33 = .ok (.aload_n 0, 1) := by decide +kernel
theorem dX12_readAll_34 : decode cX12_readAll 34 = .ok (.iconst 0, 1) := by decide +kernel
theorem dX12_readAll_35 : decode cX12_readAll 35 = .ok (.putfield 252, 3) := by decide +kernel
theorem dX12_readAll_38 : decode cX12_readAll 38 = .ok (.aload_n 0, 1) := by decide +kernel
theorem dX12_readAll_39 : decode cX12_readAll 39 = .ok (.iconst 0, 1) := by decide +kernel
theorem dX12_readAll_40 : decode cX12_readAll 40 = .ok (.putfield 258, 3) := by decide +kernel
theorem dX12_readAll_43 : decode cX12_readAll 43 = .ok (.aload_n 0, 1) := by decide +kernel
theorem dX12_readAll_44 : decode cX12_readAll 44 = .ok (.invokevirtual 230, 3) := by decide +kernel
theorem dX12_readAll_47 : decode cX12_readAll 47 = .ok (.aload_n 0, 1) := by decide +kernel
theorem dX12_readAll_48 : decode cX12_readAll 48 = .ok (.getfield 200, 3) := by decide +kernel
theorem dX12_readAll_51 : decode cX12_readAll 51 = .ok (.ifCond .ne 17, 3) := by decide +kernel
theorem dX12_readAll_54 : decode cX12_readAll 54 = .ok (.aload_n 0, 1) := by decide +kernel
theorem dX12_readAll_55 : decode cX12_readAll 55 = .ok (.getfield 190, 3) := by decide +kernel
theorem dX12_readAll_58 : decode cX12_readAll 58 = .ok (.ifCond .eq 10, 3) := by decide +kernel
theorem dX12_readAll_68 : decode cX12_readAll 68 = .ok (.return_, 1) := by decide +kernel
theorem dX12_readAll_61 : decode cX12_readAll 61 = .ok (.aload_n 0, 1) := by decide +kernel
theorem dX12_readAll_62 : decode cX12_readAll 62 = .ok (.invokevirtual 273, 3) := by decide +kernel
theorem tw_1401 : Cond.methodLink RX12 273 yX12_readLine ∈ TT := nx_mem 1401 (by decide +kernel) (by decide +kernel)
theorem tw_1403 : Cond.instanceMethod yX12_readLine ∈ TT := nx_mem 1403 (by decide +kernel) (by decide +kernel)
theorem tw_43 : Cond.selects RX12 yX12_readLine yX12_readLine ∈ TT := nx_mem 43 (by decide +kernel) (by decide +kernel)
theorem tw_1404 : Cond.code yX12_readLine cX12_readLine 1 none ∈ TT := nx_mem 1404 (by decide +kernel) (by decide +kernel)
theorem dX12_readAll_65 : decode cX12_readAll 65 = .ok (.goto (-18), 3) := by decide +kernel
set_option maxHeartbeats 4000000 in
set_option maxRecDepth 100000 in
theorem s_X12_end (lau : Launch) (gg : va_G) (kA : Nat → ClassId) (m : Nat) (n : Int32) (m0 : Nat) (mtp : Nat) (mfa : Nat) (mfp : Int32) (mat : Nat) (msz : Nat) (mso : Nat) (mpl : Int32) (mnu : Int32) (mwd : Int64) (m10 : Nat) (m11 : Nat) (m12 : Nat) (m13 : Nat) (m14 : Nat) (m15 : Nat) (m16 : Nat) (m17 : Nat) (m18 : Nat) (m19 : Nat) (m20 : Nat) (m21 : Nat) (m22 : Nat) (m23 : Nat) (m24 : Nat) (mns : Nat) (mnl : Nat) (mne : Nat) (mst : Nat) (mlt : Nat) (mer : Nat) (m31 : Nat) (m32 : Nat) (m33 : Nat) (m34 : Nat) (m35 : Nat) (mwm : Nat) (mwt : Nat) (mwf : Nat) (m39 : Nat) (m40 : Nat) (m41 : Nat) (mla : Nat) (m43 : Nat) (m44 : Nat) (m45 : Nat) (m46 : Nat) (m47 : Nat) (m48 : Nat) (mtm : Nat) (m50 : Nat) (m51 : Nat) (m52 : Nat) (m53 : Nat) (m54 : Nat) (m55 : Nat) (m56 : Nat) (m57 : Nat) (m58 : Nat) (m59 : Nat) (m60 : Nat) (m61 : Nat) (msn : Nat) (mti : Nat) (m64 : Nat) (m65 : Nat) (m66 : Nat) (m67 : Nat) (m68 : Nat) (m69 : Nat) (hmtp : mtp ≤ 1600) : CtI lau yX12_end cX12_end 2 (some .int) 1 0 0 gg kA [.ref m, .int n] (mflat [(m, .inl (.inr (12, (.ref m0 :: .int (nI mtp) :: .int (nI mfa) :: .int mfp :: .int (nI mat) :: .int (nI msz) :: .int (nI mso) :: .int mpl :: .int mnu :: .long mwd :: .ref m10 :: .ref m11 :: .ref m12 :: .ref m13 :: .ref m14 :: .ref m15 :: .ref m16 :: .ref m17 :: .ref m18 :: .ref m19 :: .ref m20 :: .ref m21 :: .ref m22 :: .ref m23 :: .ref m24 :: .int (nI mns) :: .int (nI mnl) :: .int (nI mne) :: .int (nI mst) :: .int (nI mlt) :: .int (nI mer) :: .ref m31 :: .ref m32 :: .ref m33 :: .ref m34 :: .ref m35 :: .int (nI mwm) :: .int (nI mwt) :: .int (nI mwf) :: .ref m39 :: .ref m40 :: .ref m41 :: .int (nI mla) :: .ref m43 :: .ref m44 :: .ref m45 :: .ref m46 :: .ref m47 :: .ref m48 :: .int (nI mtm) :: .ref m50 :: .ref m51 :: .ref m52 :: .ref m53 :: .ref m54 :: .ref m55 :: .ref m56 :: .ref m57 :: .ref m58 :: .ref m59 :: .ref m60 :: .ref m61 :: .int (nI msn) :: .int (nI mti) :: .ref m64 :: .ref m65 :: .ref m66 :: .ref m67 :: .ref m68 :: .ref m69 :: []))))]) (S := Nat) (fun (r : Int32) (y_m_1 : Nat) => (r = endR mtp n) ∧ (y_m_1 = endS mtp n)) (fun (y_m_1 : Nat) => mflat [(m, .inl (.inr (12, (.ref m0 :: .int (nI y_m_1) :: .int (nI mfa) :: .int mfp :: .int (nI mat) :: .int (nI msz) :: .int (nI mso) :: .int mpl :: .int mnu :: .long mwd :: .ref m10 :: .ref m11 :: .ref m12 :: .ref m13 :: .ref m14 :: .ref m15 :: .ref m16 :: .ref m17 :: .ref m18 :: .ref m19 :: .ref m20 :: .ref m21 :: .ref m22 :: .ref m23 :: .ref m24 :: .int (nI mns) :: .int (nI mnl) :: .int (nI mne) :: .int (nI mst) :: .int (nI mlt) :: .int (nI mer) :: .ref m31 :: .ref m32 :: .ref m33 :: .ref m34 :: .ref m35 :: .int (nI mwm) :: .int (nI mwt) :: .int (nI mwf) :: .ref m39 :: .ref m40 :: .ref m41 :: .int (nI mla) :: .ref m43 :: .ref m44 :: .ref m45 :: .ref m46 :: .ref m47 :: .ref m48 :: .int (nI mtm) :: .ref m50 :: .ref m51 :: .ref m52 :: .ref m53 :: .ref m54 :: .ref m55 :: .ref m56 :: .ref m57 :: .ref m58 :: .ref m59 :: .ref m60 :: .ref m61 :: .int (nI msn) :: .int (nI mti) :: .ref m64 :: .ref m65 :: .ref m66 :: .ref m67 :: .ref m68 :: .ref m69 :: []))))]) := by
  refine nx_startI (by decide +kernel) (Nat.le_of_ble_eq_true rfl) ?_
  intro x hnm h hq
  have h : Ok x cX12_end RX12 kA (rmC 1 0 0) 2 := h
  show J x (mflat [(m, .inl (.inr (12, (.ref m0 :: .int (nI mtp) :: .int (nI mfa) :: .int mfp :: .int (nI mat) :: .int (nI msz) :: .int (nI mso) :: .int mpl :: .int mnu :: .long mwd :: .ref m10 :: .ref m11 :: .ref m12 :: .ref m13 :: .ref m14 :: .ref m15 :: .ref m16 :: .ref m17 :: .ref m18 :: .ref m19 :: .ref m20 :: .ref m21 :: .ref m22 :: .ref m23 :: .ref m24 :: .int (nI mns) :: .int (nI mnl) :: .int (nI mne) :: .int (nI mst) :: .int (nI mlt) :: .int (nI mer) :: .ref m31 :: .ref m32 :: .ref m33 :: .ref m34 :: .ref m35 :: .int (nI mwm) :: .int (nI mwt) :: .int (nI mwf) :: .ref m39 :: .ref m40 :: .ref m41 :: .int (nI mla) :: .ref m43 :: .ref m44 :: .ref m45 :: .ref m46 :: .ref m47 :: .ref m48 :: .int (nI mtm) :: .ref m50 :: .ref m51 :: .ref m52 :: .ref m53 :: .ref m54 :: .ref m55 :: .ref m56 :: .ref m57 :: .ref m58 :: .ref m59 :: .ref m60 :: .ref m61 :: .int (nI msn) :: .int (nI mti) :: .ref m64 :: .ref m65 :: .ref m66 :: .ref m67 :: .ref m68 :: .ref m69 :: []))))]) [(0, .ref m), (1, .int n)] 0 0 0 []
  refine j_iload_n h 1 rfl rfl dX12_end_0 ?_
  refine j_if_lt h 12 dX12_end_1 (by decide) (fun z11062 => ?_) (fun z11062 => ?_)
  · show J x (mflat [(m, .inl (.inr (12, (.ref m0 :: .int (nI mtp) :: .int (nI mfa) :: .int mfp :: .int (nI mat) :: .int (nI msz) :: .int (nI mso) :: .int mpl :: .int mnu :: .long mwd :: .ref m10 :: .ref m11 :: .ref m12 :: .ref m13 :: .ref m14 :: .ref m15 :: .ref m16 :: .ref m17 :: .ref m18 :: .ref m19 :: .ref m20 :: .ref m21 :: .ref m22 :: .ref m23 :: .ref m24 :: .int (nI mns) :: .int (nI mnl) :: .int (nI mne) :: .int (nI mst) :: .int (nI mlt) :: .int (nI mer) :: .ref m31 :: .ref m32 :: .ref m33 :: .ref m34 :: .ref m35 :: .int (nI mwm) :: .int (nI mwt) :: .int (nI mwf) :: .ref m39 :: .ref m40 :: .ref m41 :: .int (nI mla) :: .ref m43 :: .ref m44 :: .ref m45 :: .ref m46 :: .ref m47 :: .ref m48 :: .int (nI mtm) :: .ref m50 :: .ref m51 :: .ref m52 :: .ref m53 :: .ref m54 :: .ref m55 :: .ref m56 :: .ref m57 :: .ref m58 :: .ref m59 :: .ref m60 :: .ref m61 :: .int (nI msn) :: .int (nI mti) :: .ref m64 :: .ref m65 :: .ref m66 :: .ref m67 :: .ref m68 :: .ref m69 :: []))))]) [(0, .ref m), (1, .int n)] 0 0 12 []
    refine j_iconst (v := (-1)) h (by decide) dX12_end_12 ?_
    exact jm_iret h hq dX12_end_13 mtp [0] rfl (by decide) ⟨(show (-1) = endR mtp n from (end_neg (by assumption)).2.symm), (show mtp = endS mtp n from (end_neg (by assumption)).1.symm)⟩ (Nat.le_of_ble_eq_true rfl) (Nat.le_of_ble_eq_true rfl)
  · obtain ⟨j11063, hj11063, rfl⟩ := nI_of z11062
    show J x (mflat [(m, .inl (.inr (12, (.ref m0 :: .int (nI mtp) :: .int (nI mfa) :: .int mfp :: .int (nI mat) :: .int (nI msz) :: .int (nI mso) :: .int mpl :: .int mnu :: .long mwd :: .ref m10 :: .ref m11 :: .ref m12 :: .ref m13 :: .ref m14 :: .ref m15 :: .ref m16 :: .ref m17 :: .ref m18 :: .ref m19 :: .ref m20 :: .ref m21 :: .ref m22 :: .ref m23 :: .ref m24 :: .int (nI mns) :: .int (nI mnl) :: .int (nI mne) :: .int (nI mst) :: .int (nI mlt) :: .int (nI mer) :: .ref m31 :: .ref m32 :: .ref m33 :: .ref m34 :: .ref m35 :: .int (nI mwm) :: .int (nI mwt) :: .int (nI mwf) :: .ref m39 :: .ref m40 :: .ref m41 :: .int (nI mla) :: .ref m43 :: .ref m44 :: .ref m45 :: .ref m46 :: .ref m47 :: .ref m48 :: .int (nI mtm) :: .ref m50 :: .ref m51 :: .ref m52 :: .ref m53 :: .ref m54 :: .ref m55 :: .ref m56 :: .ref m57 :: .ref m58 :: .ref m59 :: .ref m60 :: .ref m61 :: .int (nI msn) :: .int (nI mti) :: .ref m64 :: .ref m65 :: .ref m66 :: .ref m67 :: .ref m68 :: .ref m69 :: []))))]) [(0, .ref m), (1, .int (nI j11063))] 0 0 4 []
    refine j_iload_n h 1 rfl rfl dX12_end_4 ?_
    refine j_aload_n h 0 rfl rfl dX12_end_5 ?_
    refine jm_get h iw_X12 0 rfl rfl 1 (by decide +kernel) tw_1157 rfl dX12_end_6 ?_
    refine j_icmp_le h 14 dX12_end_9 (by decide) (fun z11064 => ?_) (fun z11064 => ?_)
    · have z11064n : j11063 ≤ mtp := (nI_leI (a := j11063) (b := mtp) (by omega) (by omega)).mp z11064
      refine j_aload_n h 0 rfl rfl dX12_end_14 ?_
      refine j_iload_n h 1 rfl rfl dX12_end_15 ?_
      refine jm_put (w' := [(m, .inl (.inr (12, (.ref m0 :: .int (nI j11063) :: .int (nI mfa) :: .int mfp :: .int (nI mat) :: .int (nI msz) :: .int (nI mso) :: .int mpl :: .int mnu :: .long mwd :: .ref m10 :: .ref m11 :: .ref m12 :: .ref m13 :: .ref m14 :: .ref m15 :: .ref m16 :: .ref m17 :: .ref m18 :: .ref m19 :: .ref m20 :: .ref m21 :: .ref m22 :: .ref m23 :: .ref m24 :: .int (nI mns) :: .int (nI mnl) :: .int (nI mne) :: .int (nI mst) :: .int (nI mlt) :: .int (nI mer) :: .ref m31 :: .ref m32 :: .ref m33 :: .ref m34 :: .ref m35 :: .int (nI mwm) :: .int (nI mwt) :: .int (nI mwf) :: .ref m39 :: .ref m40 :: .ref m41 :: .int (nI mla) :: .ref m43 :: .ref m44 :: .ref m45 :: .ref m46 :: .ref m47 :: .ref m48 :: .int (nI mtm) :: .ref m50 :: .ref m51 :: .ref m52 :: .ref m53 :: .ref m54 :: .ref m55 :: .ref m56 :: .ref m57 :: .ref m58 :: .ref m59 :: .ref m60 :: .ref m61 :: .int (nI msn) :: .int (nI mti) :: .ref m64 :: .ref m65 :: .ref m66 :: .ref m67 :: .ref m68 :: .ref m69 :: []))))]) h iw_X12 tyX12 tyX12_ok nmX12 0 rfl rfl 1 (by decide +kernel) tw_1157 rfl rfl rfl (Nat.le_of_ble_eq_true rfl) dX12_end_16 rfl ?_
      refine j_iload_n h 1 rfl rfl dX12_end_19 ?_
      exact jm_iret h hq dX12_end_20 j11063 [0] rfl (by decide) ⟨(show (nI j11063) = endR mtp (nI j11063) from (end_ok (by omega) (by omega)).2.symm), (show j11063 = endS mtp (nI j11063) from (end_ok (by omega) (by omega)).1.symm)⟩ (Nat.le_of_ble_eq_true rfl) (Nat.le_of_ble_eq_true rfl)
    · have z11064n : ¬ j11063 ≤ mtp := fun q9 => z11064 ((nI_leI (a := j11063) (b := mtp) (by omega) (by omega)).mpr q9)
      refine j_iconst (v := (-1)) h (by decide) dX12_end_12 ?_
      exact jm_iret h hq dX12_end_13 mtp [0] rfl (by decide) ⟨(show (-1) = endR mtp (nI j11063) from (end_big (by omega) (by omega)).2.symm), (show mtp = endS mtp (nI j11063) from (end_big (by omega) (by omega)).1.symm)⟩ (Nat.le_of_ble_eq_true rfl) (Nat.le_of_ble_eq_true rfl)
set_option maxHeartbeats 4000000 in
set_option maxRecDepth 100000 in
theorem s_X12_later (lau : Launch) (gg : va_G) (kA : Nat → ClassId) (m : Nat) (n : Int32) (m0 : Nat) (mtp : Nat) (mfa : Nat) (mfp : Int32) (mat : Nat) (msz : Nat) (mso : Nat) (mpl : Int32) (mnu : Int32) (mwd : Int64) (m10 : Nat) (m11 : Nat) (m12 : Nat) (m13 : Nat) (m14 : Nat) (m15 : Nat) (m16 : Nat) (m17 : Nat) (m18 : Nat) (m19 : Nat) (m20 : Nat) (m21 : Nat) (m22 : Nat) (m23 : Nat) (m24 : Nat) (mns : Nat) (mnl : Nat) (mne : Nat) (mst : Nat) (mlt : Nat) (mer : Nat) (m31 : Nat) (m32 : Nat) (m33 : Nat) (m34 : Nat) (m35 : Nat) (mwm : Nat) (mwt : Nat) (mwf : Nat) (m39 : Nat) (m40 : Nat) (m41 : Nat) (mla : Nat) (m43 : Nat) (m44 : Nat) (m45 : Nat) (m46 : Nat) (m47 : Nat) (m48 : Nat) (mtm : Nat) (m50 : Nat) (m51 : Nat) (m52 : Nat) (m53 : Nat) (m54 : Nat) (m55 : Nat) (m56 : Nat) (m57 : Nat) (m58 : Nat) (m59 : Nat) (m60 : Nat) (m61 : Nat) (msn : Nat) (mti : Nat) (m64 : Nat) (m65 : Nat) (m66 : Nat) (m67 : Nat) (m68 : Nat) (m69 : Nat) (hmti : mti ≤ 100000) : CtI lau yX12_later cX12_later 2 (some .int) 1 0 0 gg kA [.ref m, .int n] (mflat [(m, .inl (.inr (12, (.ref m0 :: .int (nI mtp) :: .int (nI mfa) :: .int mfp :: .int (nI mat) :: .int (nI msz) :: .int (nI mso) :: .int mpl :: .int mnu :: .long mwd :: .ref m10 :: .ref m11 :: .ref m12 :: .ref m13 :: .ref m14 :: .ref m15 :: .ref m16 :: .ref m17 :: .ref m18 :: .ref m19 :: .ref m20 :: .ref m21 :: .ref m22 :: .ref m23 :: .ref m24 :: .int (nI mns) :: .int (nI mnl) :: .int (nI mne) :: .int (nI mst) :: .int (nI mlt) :: .int (nI mer) :: .ref m31 :: .ref m32 :: .ref m33 :: .ref m34 :: .ref m35 :: .int (nI mwm) :: .int (nI mwt) :: .int (nI mwf) :: .ref m39 :: .ref m40 :: .ref m41 :: .int (nI mla) :: .ref m43 :: .ref m44 :: .ref m45 :: .ref m46 :: .ref m47 :: .ref m48 :: .int (nI mtm) :: .ref m50 :: .ref m51 :: .ref m52 :: .ref m53 :: .ref m54 :: .ref m55 :: .ref m56 :: .ref m57 :: .ref m58 :: .ref m59 :: .ref m60 :: .ref m61 :: .int (nI msn) :: .int (nI mti) :: .ref m64 :: .ref m65 :: .ref m66 :: .ref m67 :: .ref m68 :: .ref m69 :: []))))]) (S := Nat) (fun (r : Int32) (y_m_63 : Nat) => (r = latR mti n) ∧ (y_m_63 = latS mti n)) (fun (y_m_63 : Nat) => mflat [(m, .inl (.inr (12, (.ref m0 :: .int (nI mtp) :: .int (nI mfa) :: .int mfp :: .int (nI mat) :: .int (nI msz) :: .int (nI mso) :: .int mpl :: .int mnu :: .long mwd :: .ref m10 :: .ref m11 :: .ref m12 :: .ref m13 :: .ref m14 :: .ref m15 :: .ref m16 :: .ref m17 :: .ref m18 :: .ref m19 :: .ref m20 :: .ref m21 :: .ref m22 :: .ref m23 :: .ref m24 :: .int (nI mns) :: .int (nI mnl) :: .int (nI mne) :: .int (nI mst) :: .int (nI mlt) :: .int (nI mer) :: .ref m31 :: .ref m32 :: .ref m33 :: .ref m34 :: .ref m35 :: .int (nI mwm) :: .int (nI mwt) :: .int (nI mwf) :: .ref m39 :: .ref m40 :: .ref m41 :: .int (nI mla) :: .ref m43 :: .ref m44 :: .ref m45 :: .ref m46 :: .ref m47 :: .ref m48 :: .int (nI mtm) :: .ref m50 :: .ref m51 :: .ref m52 :: .ref m53 :: .ref m54 :: .ref m55 :: .ref m56 :: .ref m57 :: .ref m58 :: .ref m59 :: .ref m60 :: .ref m61 :: .int (nI msn) :: .int (nI y_m_63) :: .ref m64 :: .ref m65 :: .ref m66 :: .ref m67 :: .ref m68 :: .ref m69 :: []))))]) := by
  refine nx_startI (by decide +kernel) (Nat.le_of_ble_eq_true rfl) ?_
  intro x hnm h hq
  have h : Ok x cX12_later RX12 kA (rmC 1 0 0) 2 := h
  show J x (mflat [(m, .inl (.inr (12, (.ref m0 :: .int (nI mtp) :: .int (nI mfa) :: .int mfp :: .int (nI mat) :: .int (nI msz) :: .int (nI mso) :: .int mpl :: .int mnu :: .long mwd :: .ref m10 :: .ref m11 :: .ref m12 :: .ref m13 :: .ref m14 :: .ref m15 :: .ref m16 :: .ref m17 :: .ref m18 :: .ref m19 :: .ref m20 :: .ref m21 :: .ref m22 :: .ref m23 :: .ref m24 :: .int (nI mns) :: .int (nI mnl) :: .int (nI mne) :: .int (nI mst) :: .int (nI mlt) :: .int (nI mer) :: .ref m31 :: .ref m32 :: .ref m33 :: .ref m34 :: .ref m35 :: .int (nI mwm) :: .int (nI mwt) :: .int (nI mwf) :: .ref m39 :: .ref m40 :: .ref m41 :: .int (nI mla) :: .ref m43 :: .ref m44 :: .ref m45 :: .ref m46 :: .ref m47 :: .ref m48 :: .int (nI mtm) :: .ref m50 :: .ref m51 :: .ref m52 :: .ref m53 :: .ref m54 :: .ref m55 :: .ref m56 :: .ref m57 :: .ref m58 :: .ref m59 :: .ref m60 :: .ref m61 :: .int (nI msn) :: .int (nI mti) :: .ref m64 :: .ref m65 :: .ref m66 :: .ref m67 :: .ref m68 :: .ref m69 :: []))))]) [(0, .ref m), (1, .int n)] 0 0 0 []
  refine j_iload_n h 1 rfl rfl dX12_later_0 ?_
  refine j_if_lt h 23 dX12_later_1 (by decide) (fun z11069 => ?_) (fun z11069 => ?_)
  · show J x (mflat [(m, .inl (.inr (12, (.ref m0 :: .int (nI mtp) :: .int (nI mfa) :: .int mfp :: .int (nI mat) :: .int (nI msz) :: .int (nI mso) :: .int mpl :: .int mnu :: .long mwd :: .ref m10 :: .ref m11 :: .ref m12 :: .ref m13 :: .ref m14 :: .ref m15 :: .ref m16 :: .ref m17 :: .ref m18 :: .ref m19 :: .ref m20 :: .ref m21 :: .ref m22 :: .ref m23 :: .ref m24 :: .int (nI mns) :: .int (nI mnl) :: .int (nI mne) :: .int (nI mst) :: .int (nI mlt) :: .int (nI mer) :: .ref m31 :: .ref m32 :: .ref m33 :: .ref m34 :: .ref m35 :: .int (nI mwm) :: .int (nI mwt) :: .int (nI mwf) :: .ref m39 :: .ref m40 :: .ref m41 :: .int (nI mla) :: .ref m43 :: .ref m44 :: .ref m45 :: .ref m46 :: .ref m47 :: .ref m48 :: .int (nI mtm) :: .ref m50 :: .ref m51 :: .ref m52 :: .ref m53 :: .ref m54 :: .ref m55 :: .ref m56 :: .ref m57 :: .ref m58 :: .ref m59 :: .ref m60 :: .ref m61 :: .int (nI msn) :: .int (nI mti) :: .ref m64 :: .ref m65 :: .ref m66 :: .ref m67 :: .ref m68 :: .ref m69 :: []))))]) [(0, .ref m), (1, .int n)] 0 0 23 []
    refine j_iconst (v := (-1)) h (by decide) dX12_later_23 ?_
    exact jm_iret h hq dX12_later_24 mti [0] rfl (by decide) ⟨(show (-1) = latR mti n from (lat_neg (by assumption)).2.symm), (show mti = latS mti n from (lat_neg (by assumption)).1.symm)⟩ (Nat.le_of_ble_eq_true rfl) (Nat.le_of_ble_eq_true rfl)
  · obtain ⟨j11070, hj11070, rfl⟩ := nI_of z11069
    show J x (mflat [(m, .inl (.inr (12, (.ref m0 :: .int (nI mtp) :: .int (nI mfa) :: .int mfp :: .int (nI mat) :: .int (nI msz) :: .int (nI mso) :: .int mpl :: .int mnu :: .long mwd :: .ref m10 :: .ref m11 :: .ref m12 :: .ref m13 :: .ref m14 :: .ref m15 :: .ref m16 :: .ref m17 :: .ref m18 :: .ref m19 :: .ref m20 :: .ref m21 :: .ref m22 :: .ref m23 :: .ref m24 :: .int (nI mns) :: .int (nI mnl) :: .int (nI mne) :: .int (nI mst) :: .int (nI mlt) :: .int (nI mer) :: .ref m31 :: .ref m32 :: .ref m33 :: .ref m34 :: .ref m35 :: .int (nI mwm) :: .int (nI mwt) :: .int (nI mwf) :: .ref m39 :: .ref m40 :: .ref m41 :: .int (nI mla) :: .ref m43 :: .ref m44 :: .ref m45 :: .ref m46 :: .ref m47 :: .ref m48 :: .int (nI mtm) :: .ref m50 :: .ref m51 :: .ref m52 :: .ref m53 :: .ref m54 :: .ref m55 :: .ref m56 :: .ref m57 :: .ref m58 :: .ref m59 :: .ref m60 :: .ref m61 :: .int (nI msn) :: .int (nI mti) :: .ref m64 :: .ref m65 :: .ref m66 :: .ref m67 :: .ref m68 :: .ref m69 :: []))))]) [(0, .ref m), (1, .int (nI j11070))] 0 0 4 []
    refine j_iload_n h 1 rfl rfl dX12_later_4 ?_
    refine j_sipush (v := 1000) h (by decide) dX12_later_5 ?_
    refine j_icmp_gt h 23 dX12_later_8 (by decide) (fun z11071 => ?_) (fun z11071 => ?_)
    · have z11071n : 1000 < j11070 := (nI_ltI (a := 1000) (b := j11070) (by omega) (by omega)).mp z11071
      refine j_iconst (v := (-1)) h (by decide) dX12_later_23 ?_
      exact jm_iret h hq dX12_later_24 mti [0] rfl (by decide) ⟨(show (-1) = latR mti (nI j11070) from (lat_big (by omega) (by omega)).2.symm), (show mti = latS mti (nI j11070) from (lat_big (by omega) (by omega)).1.symm)⟩ (Nat.le_of_ble_eq_true rfl) (Nat.le_of_ble_eq_true rfl)
    · have z11071n : ¬ 1000 < j11070 := fun q9 => z11071 ((nI_ltI (a := 1000) (b := j11070) (by omega) (by omega)).mpr q9)
      refine j_aload_n h 0 rfl rfl dX12_later_11 ?_
      refine jm_get h iw_X12 0 rfl rfl 63 (by decide +kernel) tw_1219 rfl dX12_later_12 ?_
      refine j_iload_n h 1 rfl rfl dX12_later_15 ?_
      refine j_iadd h dX12_later_16 ?_
      refine j_top (b := nI (mti + j11070)) (nI_add mti j11070) ?_
      refine j_ldcw h tw_1666 dX12_later_17 ?_
      refine j_icmp_le h 25 dX12_later_20 (by decide) (fun z11072 => ?_) (fun z11072 => ?_)
      · have z11072n : (mti + j11070) ≤ 100000 := (nI_leI (a := (mti + j11070)) (b := 100000) (by omega) (by omega)).mp z11072
        refine j_aload_n h 0 rfl rfl dX12_later_25 ?_
        refine j_dup h rfl dX12_later_26 ?_
        refine jm_get h iw_X12 0 rfl rfl 63 (by decide +kernel) tw_1219 rfl dX12_later_27 ?_
        refine j_iload_n h 1 rfl rfl dX12_later_30 ?_
        refine j_iadd h dX12_later_31 ?_
        refine j_top (b := nI (mti + j11070)) (nI_add mti j11070) ?_
        refine jm_put (w' := [(m, .inl (.inr (12, (.ref m0 :: .int (nI mtp) :: .int (nI mfa) :: .int mfp :: .int (nI mat) :: .int (nI msz) :: .int (nI mso) :: .int mpl :: .int mnu :: .long mwd :: .ref m10 :: .ref m11 :: .ref m12 :: .ref m13 :: .ref m14 :: .ref m15 :: .ref m16 :: .ref m17 :: .ref m18 :: .ref m19 :: .ref m20 :: .ref m21 :: .ref m22 :: .ref m23 :: .ref m24 :: .int (nI mns) :: .int (nI mnl) :: .int (nI mne) :: .int (nI mst) :: .int (nI mlt) :: .int (nI mer) :: .ref m31 :: .ref m32 :: .ref m33 :: .ref m34 :: .ref m35 :: .int (nI mwm) :: .int (nI mwt) :: .int (nI mwf) :: .ref m39 :: .ref m40 :: .ref m41 :: .int (nI mla) :: .ref m43 :: .ref m44 :: .ref m45 :: .ref m46 :: .ref m47 :: .ref m48 :: .int (nI mtm) :: .ref m50 :: .ref m51 :: .ref m52 :: .ref m53 :: .ref m54 :: .ref m55 :: .ref m56 :: .ref m57 :: .ref m58 :: .ref m59 :: .ref m60 :: .ref m61 :: .int (nI msn) :: .int (nI (mti + j11070)) :: .ref m64 :: .ref m65 :: .ref m66 :: .ref m67 :: .ref m68 :: .ref m69 :: []))))]) h iw_X12 tyX12 tyX12_ok nmX12 0 rfl rfl 63 (by decide +kernel) tw_1219 rfl rfl rfl (Nat.le_of_ble_eq_true rfl) dX12_later_32 rfl ?_
        refine j_aload_n h 0 rfl rfl dX12_later_35 ?_
        refine jm_get h iw_X12 0 rfl rfl 63 (by decide +kernel) tw_1219 rfl dX12_later_36 ?_
        exact jm_iret h hq dX12_later_39 (mti + j11070) [0] rfl (by decide) ⟨(show (nI (mti + j11070)) = latR mti (nI j11070) from (lat_ok (by omega) (by omega) (by omega)).2.symm), (show (mti + j11070) = latS mti (nI j11070) from (lat_ok (by omega) (by omega) (by omega)).1.symm)⟩ (Nat.le_of_ble_eq_true rfl) (Nat.le_of_ble_eq_true rfl)
      · have z11072n : ¬ (mti + j11070) ≤ 100000 := fun q9 => z11072 ((nI_leI (a := (mti + j11070)) (b := 100000) (by omega) (by omega)).mpr q9)
        refine j_iconst (v := (-1)) h (by decide) dX12_later_23 ?_
        exact jm_iret h hq dX12_later_24 mti [0] rfl (by decide) ⟨(show (-1) = latR mti (nI j11070) from (lat_ovr (by omega) (by omega) (by omega)).2.symm), (show mti = latS mti (nI j11070) from (lat_ovr (by omega) (by omega) (by omega)).1.symm)⟩ (Nat.le_of_ble_eq_true rfl) (Nat.le_of_ble_eq_true rfl)
