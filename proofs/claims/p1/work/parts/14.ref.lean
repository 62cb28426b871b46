theorem ix2 (t f : Nat) : (2 : Int32) * nI t + nI f = nI (2 * t + f) := by
  rw [show (2 : Int32) = nI 2 from rfl, pk_mul, nI_add]
theorem b01_out {w : Int32} (h : ¬ w = 0 ∧ ¬ w = 1) : bRg w 0 1 = 0 := by
  rcases bRg_cases w 1 (by decide) with ⟨q, -⟩ | ⟨q, -⟩ | ⟨j, hj, rfl, -⟩
  · exact q
  · exact q
  · rcases (show j = 0 ∨ j = 1 by omega) with rfl | rfl
    · exact absurd rfl h.1
    · exact absurd rfl h.2
theorem dX12_isIn_0 : decode cX12_isIn 0 = .ok (.iload_n 0, 1) := by decide +kernel
theorem dX12_isIn_1 : decode cX12_isIn 1 = .ok (.iload_n 1, 1) := by decide +kernel
theorem dX12_isIn_2 : decode cX12_isIn 2 = .ok (.if_icmp .lt 12, 3) := by decide +kernel
theorem dX12_isIn_14 : decode cX12_isIn 14 = .ok (.iconst 0, 1) := by decide +kernel
theorem dX12_isIn_15 : decode cX12_isIn 15 = .ok (.ireturn, 1) := by decide +kernel
theorem dX12_isIn_5 : decode cX12_isIn 5 = .ok (.iload_n 0, 1) := by decide +kernel
theorem dX12_isIn_6 : decode cX12_isIn 6 = .ok (.iload_n 2, 1) := by decide +kernel
theorem dX12_isIn_7 : decode cX12_isIn 7 = .ok (.if_icmp .gt 7, 3) := by decide +kernel
theorem dX12_isIn_10 : decode cX12_isIn 10 = .ok (.iconst 1, 1) := by decide +kernel
theorem dX12_isIn_11 : decode cX12_isIn 11 = .ok (.goto 4, 3) := by decide +kernel
theorem dX12_isStep_0 : decode cX12_isStep 0 = .ok (.iload_n 1, 1) := by decide +kernel
theorem dX12_isStep_1 : decode cX12_isStep 1 = .ok (.iconst 0, 1) := by decide +kernel
theorem dX12_isStep_2 : decode cX12_isStep 2 = .ok (.aload_n 0, 1) := by decide +kernel
theorem dX12_isStep_3 : decode cX12_isStep 3 = .ok (.getfield 279, 3) := by decide +kernel
theorem tw_1184 : Cond.fieldLink RX12 279 "LimpCodeModel" "steps" "I" ∈ TT := nx_mem 1184 (by decide +kernel) (by decide +kernel)
theorem dX12_isStep_6 : decode cX12_isStep 6 = .ok (.iconst 1, 1) := by decide +kernel
theorem dX12_isStep_7 : decode cX12_isStep 7 = .ok (.isub, 1) := by decide +kernel
theorem dX12_isStep_8 : decode cX12_isStep 8 = .ok (.invokestatic 297, 3) := by decide +kernel
theorem tw_1487 : Cond.methodLink RX12 297 yX12_isIn ∈ TT := nx_mem 1487 (by decide +kernel) (by decide +kernel)
theorem tw_1488 : Cond.static yX12_isIn ∈ TT := nx_mem 1488 (by decide +kernel) (by decide +kernel)
theorem tw_1489 : Cond.code yX12_isIn cX12_isIn 3 (some .boolean) ∈ TT := nx_mem 1489 (by decide +kernel) (by decide +kernel)
theorem dX12_isStep_11 : decode cX12_isStep 11 = .ok (.ireturn, 1) := by decide +kernel
theorem dX12_isLetterOf_0 : decode cX12_isLetterOf 0 = .ok (.iload_n 1, 1) := by decide +kernel
theorem dX12_isLetterOf_1 : decode cX12_isLetterOf 1 = .ok (.iconst 0, 1) := by decide +kernel
theorem dX12_isLetterOf_2 : decode cX12_isLetterOf 2 = .ok (.aload_n 0, 1) := by decide +kernel
theorem dX12_isLetterOf_3 : decode cX12_isLetterOf 3 = .ok (.getfield 282, 3) := by decide +kernel
theorem tw_1185 : Cond.fieldLink RX12 282 "LimpCodeModel" "letters" "I" ∈ TT := nx_mem 1185 (by decide +kernel) (by decide +kernel)
theorem dX12_isLetterOf_6 : decode cX12_isLetterOf 6 = .ok (.iconst 1, 1) := by decide +kernel
theorem dX12_isLetterOf_7 : decode cX12_isLetterOf 7 = .ok (.isub, 1) := by decide +kernel
theorem dX12_isLetterOf_8 : decode cX12_isLetterOf 8 = .ok (.invokestatic 297, 3) := by decide +kernel
theorem dX12_isLetterOf_11 : decode cX12_isLetterOf 11 = .ok (.ireturn, 1) := by decide +kernel
theorem dX12_isEar_0 : decode cX12_isEar 0 = .ok (.iload_n 1, 1) := by decide +kernel
theorem dX12_isEar_1 : decode cX12_isEar 1 = .ok (.iconst 0, 1) := by decide +kernel
theorem dX12_isEar_2 : decode cX12_isEar 2 = .ok (.aload_n 0, 1) := by decide +kernel
theorem dX12_isEar_3 : decode cX12_isEar 3 = .ok (.getfield 285, 3) := by decide +kernel
theorem tw_1186 : Cond.fieldLink RX12 285 "LimpCodeModel" "ears" "I" ∈ TT := nx_mem 1186 (by decide +kernel) (by decide +kernel)
theorem dX12_isEar_6 : decode cX12_isEar 6 = .ok (.iconst 1, 1) := by decide +kernel
theorem dX12_isEar_7 : decode cX12_isEar 7 = .ok (.isub, 1) := by decide +kernel
theorem dX12_isEar_8 : decode cX12_isEar 8 = .ok (.invokestatic 297, 3) := by decide +kernel
theorem dX12_isEar_11 : decode cX12_isEar 11 = .ok (.ireturn, 1) := by decide +kernel
theorem dX12_isText_0 : decode cX12_isText 0 = .ok (.iload_n 0, 1) := by decide +kernel
theorem dX12_isText_1 : decode cX12_isText 1 = .ok (.ifCond .eq 8, 3) := by decide +kernel
theorem dX12_isText_9 : decode cX12_isText 9 = .ok (.iconst 1, 1) := by decide +kernel
theorem dX12_isText_10 : decode cX12_isText 10 = .ok (.goto 4, 3) := by decide +kernel
theorem dX12_isText_14 : decode cX12_isText 14 = .ok (.ireturn, 1) := by decide +kernel
theorem dX12_isText_4 : decode cX12_isText 4 = .ok (.iload_n 0, 1) := by decide +kernel
theorem dX12_isText_5 : decode cX12_isText 5 = .ok (.iconst 1, 1) := by decide +kernel
theorem dX12_isText_6 : decode cX12_isText 6 = .ok (.if_icmp .ne 7, 3) := by decide +kernel
theorem dX12_isText_13 : decode cX12_isText 13 = .ok (.iconst 0, 1) := by decide +kernel
theorem dX12_isBox_0 : decode cX12_isBox 0 = .ok (.iload_n 0, 1) := by decide +kernel
theorem dX12_isBox_1 : decode cX12_isBox 1 = .ok (.ifCond .lt 12, 3) := by decide +kernel
theorem dX12_isBox_13 : decode cX12_isBox 13 = .ok (.iconst 0, 1) := by decide +kernel
theorem dX12_isBox_14 : decode cX12_isBox 14 = .ok (.ireturn, 1) := by decide +kernel
theorem dX12_isBox_4 : decode cX12_isBox 4 = .ok (.iload_n 0, 1) := by decide +kernel
theorem dX12_isBox_5 : decode cX12_isBox 5 = .ok (.iconst 3, 1) := by decide +kernel
theorem dX12_isBox_6 : decode cX12_isBox 6 = .ok (.if_icmp .ge 7, 3) := by decide +kernel
theorem dX12_isBox_9 : decode cX12_isBox 9 = .ok (.iconst 1, 1) := by decide +kernel
theorem dX12_isBox_10 : decode cX12_isBox 10 = .ok (.goto 4, 3) := by decide +kernel
theorem dX12_four_0 : decode cX12_four 0 = .ok (.bipush 24, 2) := by decide +kernel
theorem dX12_four_2 : decode cX12_four 2 = .ok (.istore_n 2, 1) := by decide +kernel
theorem dX12_four_3 : decode cX12_four 3 = .ok (.iload_n 2, 1) := by decide +kernel
theorem dX12_four_4 : decode cX12_four 4 = .ok (.ifCond .lt 35, 3) := by decide +kernel
theorem dX12_four_7 : decode cX12_four 7 = .ok (.aload_n 0, 1) := by decide +kernel
theorem dX12_four_8 : decode cX12_four 8 = .ok (.getfield 7, 3) := by decide +kernel
theorem dX12_four_11 : decode cX12_four 11 = .ok (.aload_n 0, 1) := by decide +kernel
theorem dX12_four_12 : decode cX12_four 12 = .ok (.getfield 163, 3) := by decide +kernel
theorem tw_1157 : Cond.fieldLink RX12 163 "LimpCodeModel" "taped" "I" ∈ TT := nx_mem 1157 (by decide +kernel) (by decide +kernel)
theorem dX12_four_15 : decode cX12_four 15 = .ok (.iload_n 1, 1) := by decide +kernel
theorem dX12_four_16 : decode cX12_four 16 = .ok (.iload_n 2, 1) := by decide +kernel
theorem dX12_four_17 : decode cX12_four 17 = .ok (.ishr, 1) := by decide +kernel
theorem dX12_four_18 : decode cX12_four 18 = .ok (.sipush 255, 3) := by decide +kernel
theorem dX12_four_21 : decode cX12_four 21 = .ok (.iand, 1) := by decide +kernel
theorem dX12_four_22 : decode cX12_four 22 = .ok (.iastore, 1) := by decide +kernel
theorem dX12_four_23 : decode cX12_four 23 = .ok (.aload_n 0, 1) := by decide +kernel
theorem dX12_four_24 : decode cX12_four 24 = .ok (.dup, 1) := by decide +kernel
theorem dX12_four_25 : decode cX12_four 25 = .ok (.getfield 163, 3) := by decide +kernel
theorem dX12_four_28 : decode cX12_four 28 = .ok (.iconst 1, 1) := by decide +kernel
theorem dX12_four_29 : decode cX12_four 29 = .ok (.iadd, 1) := by decide +kernel
theorem dX12_four_30 : decode cX12_four 30 = .ok (.putfield 163, 3) := by decide +kernel
theorem dX12_four_33 : decode cX12_four 33 = .ok (.iinc 2 (-8), 3) := by decide +kernel
theorem dX12_four_36 : decode cX12_four 36 = .ok (.goto (-33), 3) := by decide +kernel
theorem dX12_four_39 : decode cX12_four 39 = .ok (.return_, 1) := by decide +kernel
theorem dX12_feed_0 : decode cX12_feed 0 = .ok (.aload_n 0, 1) := by decide +kernel
theorem dX12_feed_1 : decode cX12_feed 1 = .ok (.getfield 163, 3) := by decide +kernel
theorem dX12_feed_4 : decode cX12_feed 4 = .ok (.bipush 20, 2) := by decide +kernel
theorem dX12_feed_6 : decode cX12_feed 6 = .ok (.iadd, 1) := by decide +kernel
theorem dX12_feed_7 : decode cX12_feed 7 = .ok (.sipush 1600, 3) := by decide +kernel
theorem dX12_feed_10 : decode cX12_feed 10 = .ok (.if_icmp .le 5, 3) := by decide +kernel
theorem dX12_feed_15 : decode cX12_feed 15 = .ok (.aload_n 0, 1) := by decide +kernel
theorem dX12_feed_16 : decode cX12_feed 16 = .ok (.iload_n 1, 1) := by decide +kernel
theorem dX12_feed_17 : decode cX12_feed 17 = .ok (.invokevirtual 166, 3) := by decide +kernel
theorem tw_1371 : Cond.methodLink RX12 166 yX12_four ∈ TT := nx_mem 1371 (by decide +kernel) (by decide +kernel)
theorem tw_1373 : Cond.instanceMethod yX12_four ∈ TT := nx_mem 1373 (by decide +kernel) (by decide +kernel)
theorem tw_39 : Cond.selects RX12 yX12_four yX12_four ∈ TT := nx_mem 39 (by decide +kernel) (by decide +kernel)
theorem tw_1374 : Cond.code yX12_four cX12_four 3 none ∈ TT := nx_mem 1374 (by decide +kernel) (by decide +kernel)
theorem dX12_feed_20 : decode cX12_feed 20 = .ok (.aload_n 0, 1) := by decide +kernel
theorem dX12_feed_21 : decode cX12_feed 21 = .ok (.iload_n 2, 1) := by decide +kernel
theorem dX12_feed_22 : decode cX12_feed 22 = .ok (.invokevirtual 166, 3) := by decide +kernel
theorem dX12_feed_25 : decode cX12_feed 25 = .ok (.aload_n 0, 1) := by decide +kernel
theorem dX12_feed_26 : decode cX12_feed 26 = .ok (.iload_n 3, 1) := by decide +kernel
theorem dX12_feed_27 : decode cX12_feed 27 = .ok (.invokevirtual 166, 3) := by decide +kernel
theorem dX12_feed_30 : decode cX12_feed 30 = .ok (.aload_n 0, 1) := by decide +kernel
theorem dX12_feed_31 : decode cX12_feed 31 = .ok (.iload 4, 2) := by decide +kernel
theorem dX12_feed_33 : decode cX12_feed 33 = .ok (.invokevirtual 166, 3) := by decide +kernel
theorem dX12_feed_36 : decode cX12_feed 36 = .ok (.aload_n 0, 1) := by decide +kernel
theorem dX12_feed_37 : decode cX12_feed 37 = .ok (.iload 5, 2) := by decide +kernel
theorem dX12_feed_39 : decode cX12_feed 39 = .ok (.invokevirtual 166, 3) := by decide +kernel
theorem dX12_feed_42 : decode cX12_feed 42 = .ok (.aload_n 0, 1) := by decide +kernel
theorem dX12_feed_43 : decode cX12_feed 43 = .ok (.getfield 163, 3) := by decide +kernel
theorem dX12_feed_46 : decode cX12_feed 46 = .ok (.ireturn, 1) := by decide +kernel
theorem dX12_end_0 : decode cX12_end 0 = .ok (.iload_n 1, 1) := by decide +kernel
theorem dX12_end_1 : decode cX12_end 1 = .ok (.ifCond .lt 11, 3) := by decide +kernel
theorem dX12_end_12 : decode cX12_end 12 = .ok (.iconst (-1), 1) := by decide +kernel
theorem dX12_end_13 : decode cX12_end 13 = .ok (.ireturn, 1) := by decide +kernel
theorem dX12_end_4 : decode cX12_end 4 = .ok (.iload_n 1, 1) := by decide +kernel
theorem dX12_end_5 : decode cX12_end 5 = .ok (.aload_n 0, 1) := by decide +kernel
theorem dX12_end_6 : decode cX12_end 6 = .ok (.getfield 163, 3) := by decide +kernel
theorem dX12_end_9 : decode cX12_end 9 = .ok (.if_icmp .le 5, 3) := by decide +kernel
theorem dX12_end_14 : decode cX12_end 14 = .ok (.aload_n 0, 1) := by decide +kernel
theorem dX12_end_15 : decode cX12_end 15 = .ok (.iload_n 1, 1) := by decide +kernel
theorem dX12_end_16 : decode cX12_end 16 = .ok (.putfield 163, 3) := by decide +kernel
theorem dX12_end_19 : decode cX12_end 19 = .ok (.iload_n 1, 1) := by decide +kernel
theorem dX12_end_20 : decode cX12_end 20 = .ok (.ireturn, 1) := by decide +kernel
theorem dX12_fault_0 : decode cX12_fault 0 = .ok (.iload_n 1, 1) := by decide +kernel
theorem dX12_fault_1 : decode cX12_fault 1 = .ok (.ifCond .ne 10, 3) := by decide +kernel
theorem dX12_fault_11 : decode cX12_fault 11 = .ok (.iload_n 1, 1) := by decide +kernel
theorem dX12_fault_12 : decode cX12_fault 12 = .ok (.iconst 1, 1) := by decide +kernel
theorem dX12_fault_13 : decode cX12_fault 13 = .ok (.if_icmp .ne 10, 3) := by decide +kernel
theorem dX12_fault_23 : decode cX12_fault 23 = .ok (.iconst (-1), 1) := by decide +kernel
theorem dX12_fault_24 : decode cX12_fault 24 = .ok (.ireturn, 1) := by decide +kernel
theorem dX12_fault_16 : decode cX12_fault 16 = .ok (.aload_n 0, 1) := by decide +kernel
theorem dX12_fault_17 : decode cX12_fault 17 = .ok (.getfield 13, 3) := by decide +kernel
theorem dX12_fault_20 : decode cX12_fault 20 = .ok (.goto 4, 3) := by decide +kernel
theorem dX12_fault_4 : decode cX12_fault 4 = .ok (.aload_n 0, 1) := by decide +kernel
theorem dX12_fault_5 : decode cX12_fault 5 = .ok (.getfield 200, 3) := by decide +kernel
theorem tw_1158 : Cond.fieldLink RX12 200 "LimpCodeModel" "fault" "I" ∈ TT := nx_mem 1158 (by decide +kernel) (by decide +kernel)
theorem dX12_fault_8 : decode cX12_fault 8 = .ok (.goto 16, 3) := by decide +kernel
theorem dX12_step_0 : decode cX12_step 0 = .ok (.aload_n 0, 1) := by decide +kernel
theorem dX12_step_1 : decode cX12_step 1 = .ok (.iload_n 1, 1) := by decide +kernel
theorem dX12_step_2 : decode cX12_step 2 = .ok (.invokevirtual 322, 3) := by decide +kernel
theorem tw_1483 : Cond.methodLink RX12 322 yX12_isStep ∈ TT := nx_mem 1483 (by decide +kernel) (by decide +kernel)
theorem tw_1485 : Cond.instanceMethod yX12_isStep ∈ TT := nx_mem 1485 (by decide +kernel) (by decide +kernel)
theorem tw_59 : Cond.selects RX12 yX12_isStep yX12_isStep ∈ TT := nx_mem 59 (by decide +kernel) (by decide +kernel)
theorem tw_1486 : Cond.code yX12_isStep cX12_isStep 2 (some .boolean) ∈ TT := nx_mem 1486 (by decide +kernel) (by decide +kernel)
theorem dX12_step_5 : decode cX12_step 5 = .ok (.ifCond .eq 31, 3) := by decide +kernel
theorem dX12_step_36 : decode cX12_step 36 = .ok (.iconst (-1), 1) := by decide +kernel
theorem dX12_step_37 : decode cX12_step 37 = .ok (.ireturn, 1) := by decide +kernel
theorem dX12_say_0 : decode cX12_say 0 = .ok (.iload_n 1, 1) := by decide +kernel
theorem dX12_say_1 : decode cX12_say 1 = .ok (.invokestatic 325, 3) := by decide +kernel
theorem tw_1494 : Cond.methodLink RX12 325 yX12_isText ∈ TT := nx_mem 1494 (by decide +kernel) (by decide +kernel)
theorem tw_1495 : Cond.static yX12_isText ∈ TT := nx_mem 1495 (by decide +kernel) (by decide +kernel)
theorem tw_1496 : Cond.code yX12_isText cX12_isText 1 (some .boolean) ∈ TT := nx_mem 1496 (by decide +kernel) (by decide +kernel)
theorem dX12_say_4 : decode cX12_say 4 = .ok (.ifCond .ne 5, 3) := by decide +kernel
theorem dX12_say_9 : decode cX12_say 9 = .ok (.aload_n 0, 1) := by decide +kernel
theorem dX12_say_10 : decode cX12_say 10 = .ok (.getfield 319, 3) := by decide +kernel
theorem dX12_say_13 : decode cX12_say 13 = .ok (.istore_n 2, 1) := by decide +kernel
theorem dX12_say_14 : decode cX12_say 14 = .ok (.aload_n 0, 1) := by decide +kernel
theorem dX12_say_15 : decode cX12_say 15 = .ok (.getfield 316, 3) := by decide +kernel
theorem dX12_say_18 : decode cX12_say 18 = .ok (.istore_n 3, 1) := by decide +kernel
theorem dX12_say_19 : decode cX12_say 19 = .ok (.iconst 0, 1) := by decide +kernel
theorem dX12_say_20 : decode cX12_say 20 = .ok (.istore 4, 2) := by decide +kernel
theorem dX12_say_22 : decode cX12_say 22 = .ok (.iload 4, 2) := by decide +kernel
theorem dX12_say_24 : decode cX12_say 24 = .ok (.aload_n 0, 1) := by decide +kernel
theorem dX12_say_25 : decode cX12_say 25 = .ok (.getfield 94, 3) := by decide +kernel
theorem dX12_say_28 : decode cX12_say 28 = .ok (.iload_n 1, 1) := by decide +kernel
theorem dX12_say_29 : decode cX12_say 29 = .ok (.iaload, 1) := by decide +kernel
theorem dX12_say_30 : decode cX12_say 30 = .ok (.if_icmp .ge 53, 3) := by decide +kernel
theorem dX12_say_83 : decode cX12_say 83 = .ok (.iload_n 2, 1) := by decide +kernel
theorem dX12_say_84 : decode cX12_say 84 = .ok (.ifCond .lt 9, 3) := by decide +kernel
theorem dX12_say_87 : decode cX12_say 87 = .ok (.iload_n 3, 1) := by decide +kernel
theorem dX12_say_88 : decode cX12_say 88 = .ok (.bipush 60, 2) := by decide +kernel
theorem dX12_say_90 : decode cX12_say 90 = .ok (.if_icmp .le 5, 3) := by decide +kernel
theorem dX12_say_95 : decode cX12_say 95 = .ok (.iconst 0, 1) := by decide +kernel
theorem dX12_say_96 : decode cX12_say 96 = .ok (.istore 4, 2) := by decide +kernel
theorem dX12_say_98 : decode cX12_say 98 = .ok (.iload 4, 2) := by decide +kernel
theorem dX12_say_100 : decode cX12_say 100 = .ok (.aload_n 0, 1) := by decide +kernel
theorem dX12_say_101 : decode cX12_say 101 = .ok (.getfield 94, 3) := by decide +kernel
theorem dX12_say_104 : decode cX12_say 104 = .ok (.iload_n 1, 1) := by decide +kernel
theorem dX12_say_105 : decode cX12_say 105 = .ok (.iaload, 1) := by decide +kernel
theorem dX12_say_106 : decode cX12_say 106 = .ok (.if_icmp .ge 61, 3) := by decide +kernel
theorem dX12_say_167 : decode cX12_say 167 = .ok (.aload_n 0, 1) := by decide +kernel
theorem dX12_say_168 : decode cX12_say 168 = .ok (.getfield 316, 3) := by decide +kernel
theorem dX12_say_171 : decode cX12_say 171 = .ok (.ireturn, 1) := by decide +kernel
theorem dX12_say_7 : decode cX12_say 7 = .ok (.iconst (-1), 1) := by decide +kernel
theorem dX12_say_8 : decode cX12_say 8 = .ok (.ireturn, 1) := by decide +kernel
theorem dX12_stop_0 : decode cX12_stop 0 = .ok (.aload_n 0, 1) := by decide +kernel
theorem dX12_stop_1 : decode cX12_stop 1 = .ok (.getfield 316, 3) := by decide +kernel
theorem dX12_stop_4 : decode cX12_stop 4 = .ok (.istore_n 1, 1) := by decide +kernel
theorem dX12_stop_5 : decode cX12_stop 5 = .ok (.aload_n 0, 1) := by decide +kernel
theorem dX12_stop_6 : decode cX12_stop 6 = .ok (.invokevirtual 160, 3) := by decide +kernel
theorem dX12_stop_9 : decode cX12_stop 9 = .ok (.iload_n 1, 1) := by decide +kernel
theorem dX12_stop_10 : decode cX12_stop 10 = .ok (.ireturn, 1) := by decide +kernel
theorem dX12_heard_0 : decode cX12_heard 0 = .ok (.aload_n 0, 1) := by decide +kernel
theorem dX12_heard_1 : decode cX12_heard 1 = .ok (.iload_n 1, 1) := by decide +kernel
theorem dX12_heard_2 : decode cX12_heard 2 = .ok (.invokevirtual 331, 3) := by decide +kernel
theorem tw_1506 : Cond.methodLink RX12 331 yX12_isEar ∈ TT := nx_mem 1506 (by decide +kernel) (by decide +kernel)
theorem tw_1508 : Cond.instanceMethod yX12_isEar ∈ TT := nx_mem 1508 (by decide +kernel) (by decide +kernel)
theorem tw_60 : Cond.selects RX12 yX12_isEar yX12_isEar ∈ TT := nx_mem 60 (by decide +kernel) (by decide +kernel)
theorem tw_1509 : Cond.code yX12_isEar cX12_isEar 2 (some .boolean) ∈ TT := nx_mem 1509 (by decide +kernel) (by decide +kernel)
theorem dX12_heard_5 : decode cX12_heard 5 = .ok (.ifCond .eq 31, 3) := by decide +kernel
theorem dX12_heard_36 : decode cX12_heard 36 = .ok (.iconst (-1), 1) := by decide +kernel
theorem dX12_heard_37 : decode cX12_heard 37 = .ok (.ireturn, 1) := by decide +kernel
theorem dX12_reads_0 : decode cX12_reads 0 = .ok (.aload_n 0, 1) := by decide +kernel
theorem dX12_reads_1 : decode cX12_reads 1 = .ok (.iconst 0, 1) := by decide +kernel
theorem dX12_reads_2 : decode cX12_reads 2 = .ok (.putfield 294, 3) := by decide +kernel
theorem tw_1198 : Cond.fieldLink RX12 294 "LimpCodeModel" "lain" "I" ∈ TT := nx_mem 1198 (by decide +kernel) (by decide +kernel)
theorem dX12_reads_5 : decode cX12_reads 5 = .ok (.aload_n 0, 1) := by decide +kernel
theorem dX12_reads_6 : decode cX12_reads 6 = .ok (.iload_n 1, 1) := by decide +kernel
theorem dX12_reads_7 : decode cX12_reads 7 = .ok (.invokevirtual 331, 3) := by decide +kernel
theorem dX12_reads_10 : decode cX12_reads 10 = .ok (.ifCond .eq 12, 3) := by decide +kernel
theorem dX12_reads_22 : decode cX12_reads 22 = .ok (.ldc2_w 348, 3) := by decide +kernel
theorem tw_1518 : Cond.constantLong RX12 348 (-1) ∈ TT := nx_mem 1518 (by decide +kernel) (by decide +kernel)
theorem dX12_reads_25 : decode cX12_reads 25 = .ok (.lreturn, 1) := by decide +kernel
theorem dX12_stuck_0 : decode cX12_stuck 0 = .ok (.aload_n 0, 1) := by decide +kernel
theorem dX12_stuck_1 : decode cX12_stuck 1 = .ok (.iload_n 1, 1) := by decide +kernel
theorem dX12_stuck_2 : decode cX12_stuck 2 = .ok (.invokevirtual 331, 3) := by decide +kernel
theorem dX12_stuck_5 : decode cX12_stuck 5 = .ok (.ifCond .ne 6, 3) := by decide +kernel
theorem dX12_stuck_8 : decode cX12_stuck 8 = .ok (.bipush (-2), 2) := by decide +kernel
theorem dX12_stuck_10 : decode cX12_stuck 10 = .ok (.ireturn, 1) := by decide +kernel
theorem dX12_alike_0 : decode cX12_alike 0 = .ok (.aload_n 0, 1) := by decide +kernel
theorem dX12_alike_1 : decode cX12_alike 1 = .ok (.iload_n 1, 1) := by decide +kernel
theorem dX12_alike_2 : decode cX12_alike 2 = .ok (.invokevirtual 331, 3) := by decide +kernel
theorem dX12_alike_5 : decode cX12_alike 5 = .ok (.ifCond .eq 29, 3) := by decide +kernel
theorem dX12_alike_34 : decode cX12_alike 34 = .ok (.iconst (-1), 1) := by decide +kernel
theorem dX12_alike_35 : decode cX12_alike 35 = .ok (.ireturn, 1) := by decide +kernel
theorem dX12_cobble_0 : decode cX12_cobble 0 = .ok (.aload_n 0, 1) := by decide +kernel
theorem dX12_cobble_1 : decode cX12_cobble 1 = .ok (.iload_n 1, 1) := by decide +kernel
theorem dX12_cobble_2 : decode cX12_cobble 2 = .ok (.invokevirtual 322, 3) := by decide +kernel
theorem dX12_cobble_5 : decode cX12_cobble 5 = .ok (.ifCond .eq 31, 3) := by decide +kernel
theorem dX12_cobble_36 : decode cX12_cobble 36 = .ok (.iconst (-1), 1) := by decide +kernel
theorem dX12_cobble_37 : decode cX12_cobble 37 = .ok (.ireturn, 1) := by decide +kernel
theorem dX12_sound_0 : decode cX12_sound 0 = .ok (.aload_n 0, 1) := by decide +kernel
theorem dX12_sound_1 : decode cX12_sound 1 = .ok (.iload_n 1, 1) := by decide +kernel
theorem dX12_sound_2 : decode cX12_sound 2 = .ok (.invokevirtual 331, 3) := by decide +kernel
theorem dX12_sound_5 : decode cX12_sound 5 = .ok (.ifCond .eq 43, 3) := by decide +kernel
theorem dX12_sound_48 : decode cX12_sound 48 = .ok (.iconst (-1), 1) := by decide +kernel
theorem dX12_sound_49 : decode cX12_sound 49 = .ok (.ireturn, 1) := by decide +kernel
theorem dX12_tell_0 : decode cX12_tell 0 = .ok (.iload_n 1, 1) := by decide +kernel
theorem dX12_tell_1 : decode cX12_tell 1 = .ok (.invokestatic 325, 3) := by decide +kernel
theorem dX12_tell_4 : decode cX12_tell 4 = .ok (.ifCond .eq 45, 3) := by decide +kernel
theorem dX12_tell_49 : decode cX12_tell 49 = .ok (.iconst (-1), 1) := by decide +kernel
theorem dX12_tell_50 : decode cX12_tell 50 = .ok (.ireturn, 1) := by decide +kernel
theorem dX12_tell_7 : decode cX12_tell 7 = .ok (.aload_n 0, 1) := by decide +kernel
theorem dX12_tell_8 : decode cX12_tell 8 = .ok (.iload_n 2, 1) := by decide +kernel
theorem dX12_tell_9 : decode cX12_tell 9 = .ok (.invokevirtual 361, 3) := by decide +kernel
theorem tw_1551 : Cond.methodLink RX12 361 yX12_isLetterOf ∈ TT := nx_mem 1551 (by decide +kernel) (by decide +kernel)
theorem tw_1553 : Cond.instanceMethod yX12_isLetterOf ∈ TT := nx_mem 1553 (by decide +kernel) (by decide +kernel)
theorem tw_67 : Cond.selects RX12 yX12_isLetterOf yX12_isLetterOf ∈ TT := nx_mem 67 (by decide +kernel) (by decide +kernel)
theorem tw_1554 : Cond.code yX12_isLetterOf cX12_isLetterOf 2 (some .boolean) ∈ TT := nx_mem 1554 (by decide +kernel) (by decide +kernel)
theorem dX12_tell_12 : decode cX12_tell 12 = .ok (.ifCond .eq 37, 3) := by decide +kernel
theorem dX12_hush_0 : decode cX12_hush 0 = .ok (.iload_n 1, 1) := by decide +kernel
theorem dX12_hush_1 : decode cX12_hush 1 = .ok (.invokestatic 325, 3) := by decide +kernel
theorem dX12_hush_4 : decode cX12_hush 4 = .ok (.ifCond .ne 5, 3) := by decide +kernel
theorem dX12_hush_9 : decode cX12_hush 9 = .ok (.aload_n 0, 1) := by decide +kernel
theorem dX12_hush_10 : decode cX12_hush 10 = .ok (.getfield 94, 3) := by decide +kernel
theorem dX12_hush_13 : decode cX12_hush 13 = .ok (.iload_n 1, 1) := by decide +kernel
theorem dX12_hush_14 : decode cX12_hush 14 = .ok (.iaload, 1) := by decide +kernel
theorem dX12_hush_15 : decode cX12_hush 15 = .ok (.istore_n 2, 1) := by decide +kernel
theorem dX12_hush_16 : decode cX12_hush 16 = .ok (.aload_n 0, 1) := by decide +kernel
theorem dX12_hush_17 : decode cX12_hush 17 = .ok (.getfield 94, 3) := by decide +kernel
theorem dX12_hush_20 : decode cX12_hush 20 = .ok (.iload_n 1, 1) := by decide +kernel
theorem dX12_hush_21 : decode cX12_hush 21 = .ok (.iconst 0, 1) := by decide +kernel
theorem dX12_hush_22 : decode cX12_hush 22 = .ok (.iastore, 1) := by decide +kernel
theorem dX12_hush_23 : decode cX12_hush 23 = .ok (.iload_n 2, 1) := by decide +kernel
theorem dX12_hush_24 : decode cX12_hush 24 = .ok (.ireturn, 1) := by decide +kernel
theorem dX12_hush_7 : decode cX12_hush 7 = .ok (.iconst (-1), 1) := by decide +kernel
theorem dX12_hush_8 : decode cX12_hush 8 = .ok (.ireturn, 1) := by decide +kernel
theorem dX12_areTwo_0 : decode cX12_areTwo 0 = .ok (.aload_n 0, 1) := by decide +kernel
theorem dX12_areTwo_1 : decode cX12_areTwo 1 = .ok (.iload_n 1, 1) := by decide +kernel
theorem dX12_areTwo_2 : decode cX12_areTwo 2 = .ok (.invokevirtual 331, 3) := by decide +kernel
theorem dX12_areTwo_5 : decode cX12_areTwo 5 = .ok (.ifCond .eq 20, 3) := by decide +kernel
theorem dX12_areTwo_25 : decode cX12_areTwo 25 = .ok (.iconst 0, 1) := by decide +kernel
theorem dX12_areTwo_26 : decode cX12_areTwo 26 = .ok (.ireturn, 1) := by decide +kernel
theorem dX12_doubled_0 : decode cX12_doubled 0 = .ok (.aload_n 0, 1) := by decide +kernel
theorem dX12_doubled_1 : decode cX12_doubled 1 = .ok (.iconst 0, 1) := by decide +kernel
theorem dX12_doubled_2 : decode cX12_doubled 2 = .ok (.putfield 294, 3) := by decide +kernel
theorem dX12_doubled_5 : decode cX12_doubled 5 = .ok (.aload_n 0, 1) := by decide +kernel
theorem dX12_doubled_6 : decode cX12_doubled 6 = .ok (.iload_n 1, 1) := by decide +kernel
theorem dX12_doubled_7 : decode cX12_doubled 7 = .ok (.iload_n 2, 1) := by decide +kernel
theorem dX12_doubled_8 : decode cX12_doubled 8 = .ok (.invokevirtual 387, 3) := by decide +kernel
theorem tw_1575 : Cond.methodLink RX12 387 yX12_areTwo ∈ TT := nx_mem 1575 (by decide +kernel) (by decide +kernel)
theorem tw_1577 : Cond.instanceMethod yX12_areTwo ∈ TT := nx_mem 1577 (by decide +kernel) (by decide +kernel)
theorem tw_70 : Cond.selects RX12 yX12_areTwo yX12_areTwo ∈ TT := nx_mem 70 (by decide +kernel) (by decide +kernel)
theorem tw_1578 : Cond.code yX12_areTwo cX12_areTwo 3 (some .boolean) ∈ TT := nx_mem 1578 (by decide +kernel) (by decide +kernel)
theorem dX12_doubled_11 : decode cX12_doubled 11 = .ok (.ifCond .ne 7, 3) := by decide +kernel
theorem dX12_doubled_14 : decode cX12_doubled 14 = .ok (.ldc2_w 348, 3) := by decide +kernel
theorem dX12_doubled_17 : decode cX12_doubled 17 = .ok (.lreturn, 1) := by decide +kernel
theorem dX12_secret_0 : decode cX12_secret 0 = .ok (.aload_n 0, 1) := by decide +kernel
theorem dX12_secret_1 : decode cX12_secret 1 = .ok (.iconst 0, 1) := by decide +kernel
theorem dX12_secret_2 : decode cX12_secret 2 = .ok (.putfield 294, 3) := by decide +kernel
theorem dX12_secret_5 : decode cX12_secret 5 = .ok (.aload_n 0, 1) := by decide +kernel
theorem dX12_secret_6 : decode cX12_secret 6 = .ok (.iload_n 1, 1) := by decide +kernel
theorem dX12_secret_7 : decode cX12_secret 7 = .ok (.iload_n 2, 1) := by decide +kernel
theorem dX12_secret_8 : decode cX12_secret 8 = .ok (.invokevirtual 387, 3) := by decide +kernel
theorem dX12_secret_11 : decode cX12_secret 11 = .ok (.ifCond .eq 21, 3) := by decide +kernel
theorem dX12_secret_32 : decode cX12_secret 32 = .ok (.iconst (-1), 1) := by decide +kernel
theorem dX12_secret_33 : decode cX12_secret 33 = .ok (.ireturn, 1) := by decide +kernel
theorem dX12_lies_0 : decode cX12_lies 0 = .ok (.iload_n 1, 1) := by decide +kernel
theorem dX12_lies_1 : decode cX12_lies 1 = .ok (.iconst 0, 1) := by decide +kernel
theorem dX12_lies_2 : decode cX12_lies 2 = .ok (.aload_n 0, 1) := by decide +kernel
theorem dX12_lies_3 : decode cX12_lies 3 = .ok (.getfield 294, 3) := by decide +kernel
theorem dX12_lies_6 : decode cX12_lies 6 = .ok (.iconst 1, 1) := by decide +kernel
theorem dX12_lies_7 : decode cX12_lies 7 = .ok (.isub, 1) := by decide +kernel
theorem dX12_lies_8 : decode cX12_lies 8 = .ok (.invokestatic 297, 3) := by decide +kernel
theorem dX12_lies_11 : decode cX12_lies 11 = .ok (.ifCond .eq 12, 3) := by decide +kernel
theorem dX12_lies_23 : decode cX12_lies 23 = .ok (.iconst (-1), 1) := by decide +kernel
theorem dX12_lies_24 : decode cX12_lies 24 = .ok (.ireturn, 1) := by decide +kernel
theorem dX12_untell_0 : decode cX12_untell 0 = .ok (.iload_n 1, 1) := by decide +kernel
theorem dX12_untell_1 : decode cX12_untell 1 = .ok (.iconst 0, 1) := by decide +kernel
theorem dX12_untell_2 : decode cX12_untell 2 = .ok (.aload_n 0, 1) := by decide +kernel
theorem dX12_untell_3 : decode cX12_untell 3 = .ok (.getfield 291, 3) := by decide +kernel
theorem tw_1218 : Cond.fieldLink RX12 291 "LimpCodeModel" "sounds" "I" ∈ TT := nx_mem 1218 (by decide +kernel) (by decide +kernel)
theorem dX12_untell_6 : decode cX12_untell 6 = .ok (.iconst 1, 1) := by decide +kernel
theorem dX12_untell_7 : decode cX12_untell 7 = .ok (.isub, 1) := by decide +kernel
theorem dX12_untell_8 : decode cX12_untell 8 = .ok (.invokestatic 297, 3) := by decide +kernel
theorem dX12_untell_11 : decode cX12_untell 11 = .ok (.ifCond .eq 12, 3) := by decide +kernel
theorem dX12_untell_23 : decode cX12_untell 23 = .ok (.iconst 0, 1) := by decide +kernel
theorem dX12_untell_24 : decode cX12_untell 24 = .ok (.ireturn, 1) := by decide +kernel
theorem dX12_later_0 : decode cX12_later 0 = .ok (.iload_n 1, 1) := by decide +kernel
theorem dX12_later_1 : decode cX12_later 1 = .ok (.ifCond .lt 22, 3) := by decide +kernel
theorem dX12_later_23 : decode cX12_later 23 = .ok (.iconst (-1), 1) := by decide +kernel
theorem dX12_later_24 : decode cX12_later 24 = .ok (.ireturn, 1) := by decide +kernel
theorem dX12_later_4 : decode cX12_later 4 = .ok (.iload_n 1, 1) := by decide +kernel
theorem dX12_later_5 : decode cX12_later 5 = .ok (.sipush 1000, 3) := by decide +kernel
theorem dX12_later_8 : decode cX12_later 8 = .ok (.if_icmp .gt 15, 3) := by decide +kernel
theorem dX12_later_11 : decode cX12_later 11 = .ok (.aload_n 0, 1) := by decide +kernel
theorem dX12_later_12 : decode cX12_later 12 = .ok (.getfield 422, 3) := by decide +kernel
theorem tw_1219 : Cond.fieldLink RX12 422 "LimpCodeModel" "time" "I" ∈ TT := nx_mem 1219 (by decide +kernel) (by decide +kernel)
theorem dX12_later_15 : decode cX12_later 15 = .ok (.iload_n 1, 1) := by decide +kernel
theorem dX12_later_16 : decode cX12_later 16 = .ok (.iadd, 1) := by decide +kernel
theorem dX12_later_17 : decode cX12_later 17 = .ok (.ldc_w 425, 3) := by decide +kernel
theorem tw_1666 : Cond.constant RX12 425 100000 ∈ TT := nx_mem 1666 (by decide +kernel) (by decide +kernel)
theorem dX12_later_20 : decode cX12_later 20 = .ok (.if_icmp .le 5, 3) := by decide +kernel
theorem dX12_later_25 : decode cX12_later 25 = .ok (.aload_n 0, 1) := by decide +kernel
theorem dX12_later_26 : decode cX12_later 26 = .ok (.dup, 1) := by decide +kernel
theorem dX12_later_27 : decode cX12_later 27 = .ok (.getfield 422, 3) := by decide +kernel
theorem dX12_later_30 : decode cX12_later 30 = .ok (.iload_n 1, 1) := by decide +kernel
theorem dX12_later_31 : decode cX12_later 31 = .ok (.iadd, 1) := by decide +kernel
theorem dX12_later_32 : decode cX12_later 32 = .ok (.putfield 422, 3) := by decide +kernel
theorem dX12_later_35 : decode cX12_later 35 = .ok (.aload_n 0, 1) := by decide +kernel
theorem dX12_later_36 : decode cX12_later 36 = .ok (.getfield 422, 3) := by decide +kernel
theorem dX12_later_39 : decode cX12_later 39 = .ok (.ireturn, 1) := by decide +kernel
theorem dX12_limp_0 : decode cX12_limp 0 = .ok (.iload_n 1, 1) := by decide +kernel
theorem dX12_limp_1 : decode cX12_limp 1 = .ok (.iconst 0, 1) := by decide +kernel
theorem dX12_limp_2 : decode cX12_limp 2 = .ok (.iconst 1, 1) := by decide +kernel
theorem dX12_limp_3 : decode cX12_limp 3 = .ok (.invokestatic 297, 3) := by decide +kernel
theorem dX12_limp_6 : decode cX12_limp 6 = .ok (.ifCond .ne 5, 3) := by decide +kernel
theorem dX12_limp_11 : decode cX12_limp 11 = .ok (.iconst 0, 1) := by decide +kernel
theorem dX12_limp_12 : decode cX12_limp 12 = .ok (.istore_n 2, 1) := by decide +kernel
theorem dX12_limp_13 : decode cX12_limp 13 = .ok (.iconst 0, 1) := by decide +kernel
theorem dX12_limp_14 : decode cX12_limp 14 = .ok (.istore_n 3, 1) := by decide +kernel
theorem dX12_limp_15 : decode cX12_limp 15 = .ok (.iconst 0, 1) := by decide +kernel
theorem dX12_limp_16 : decode cX12_limp 16 = .ok (.istore 4, 2) := by decide +kernel
theorem dX12_limp_18 : decode cX12_limp 18 = .ok (.iconst 0, 1) := by decide +kernel
theorem dX12_limp_19 : decode cX12_limp 19 = .ok (.istore 5, 2) := by decide +kernel
theorem dX12_limp_21 : decode cX12_limp 21 = .ok (.iload 5, 2) := by decide +kernel
theorem dX12_limp_23 : decode cX12_limp 23 = .ok (.aload_n 0, 1) := by decide +kernel
theorem dX12_limp_24 : decode cX12_limp 24 = .ok (.getfield 313, 3) := by decide +kernel
theorem dX12_limp_27 : decode cX12_limp 27 = .ok (.if_icmp .ge 74, 3) := by decide +kernel
theorem dX12_limp_101 : decode cX12_limp 101 = .ok (.iload_n 3, 1) := by decide +kernel
theorem dX12_limp_102 : decode cX12_limp 102 = .ok (.ifCond .ne 5, 3) := by decide +kernel
theorem dX12_limp_105 : decode cX12_limp 105 = .ok (.iload_n 1, 1) := by decide +kernel
theorem dX12_limp_106 : decode cX12_limp 106 = .ok (.ireturn, 1) := by decide +kernel
theorem dX12_limp_9 : decode cX12_limp 9 = .ok (.iconst (-1), 1) := by decide +kernel
theorem dX12_limp_10 : decode cX12_limp 10 = .ok (.ireturn, 1) := by decide +kernel
theorem dX12_about_0 : decode cX12_about 0 = .ok (.iload_n 1, 1) := by decide +kernel
theorem dX12_about_1 : decode cX12_about 1 = .ok (.tableswitch 127 0 11 #[63, 68, 73, 78, 83, 88, 93, 100, 107, 112, 117, 122], 63) := by decide +kernel
theorem dX12_about_64 : decode cX12_about 64 = .ok (.aload_n 0, 1) := by decide +kernel
theorem dX12_about_65 : decode cX12_about 65 = .ok (.getfield 279, 3) := by decide +kernel
theorem dX12_about_68 : decode cX12_about 68 = .ok (.ireturn, 1) := by decide +kernel
theorem dX12_about_69 : decode cX12_about 69 = .ok (.aload_n 0, 1) := by decide +kernel
theorem dX12_about_70 : decode cX12_about 70 = .ok (.getfield 282, 3) := by decide +kernel
theorem dX12_about_73 : decode cX12_about 73 = .ok (.ireturn, 1) := by decide +kernel
theorem dX12_about_74 : decode cX12_about 74 = .ok (.aload_n 0, 1) := by decide +kernel
theorem dX12_about_75 : decode cX12_about 75 = .ok (.getfield 285, 3) := by decide +kernel
theorem dX12_about_78 : decode cX12_about 78 = .ok (.ireturn, 1) := by decide +kernel
theorem dX12_about_79 : decode cX12_about 79 = .ok (.aload_n 0, 1) := by decide +kernel
theorem dX12_about_80 : decode cX12_about 80 = .ok (.getfield 316, 3) := by decide +kernel
theorem dX12_about_83 : decode cX12_about 83 = .ok (.ireturn, 1) := by decide +kernel
theorem dX12_about_84 : decode cX12_about 84 = .ok (.aload_n 0, 1) := by decide +kernel
theorem dX12_about_85 : decode cX12_about 85 = .ok (.getfield 313, 3) := by decide +kernel
theorem dX12_about_88 : decode cX12_about 88 = .ok (.ireturn, 1) := by decide +kernel
theorem dX12_about_89 : decode cX12_about 89 = .ok (.aload_n 0, 1) := by decide +kernel
theorem dX12_about_90 : decode cX12_about 90 = .ok (.getfield 319, 3) := by decide +kernel
theorem dX12_about_93 : decode cX12_about 93 = .ok (.ireturn, 1) := by decide +kernel
theorem dX12_about_94 : decode cX12_about 94 = .ok (.aload_n 0, 1) := by decide +kernel
theorem dX12_about_95 : decode cX12_about 95 = .ok (.getfield 94, 3) := by decide +kernel
theorem dX12_about_98 : decode cX12_about 98 = .ok (.iconst 0, 1) := by decide +kernel
theorem dX12_about_99 : decode cX12_about 99 = .ok (.iaload, 1) := by decide +kernel
theorem dX12_about_100 : decode cX12_about 100 = .ok (.ireturn, 1) := by decide +kernel
theorem dX12_about_101 : decode cX12_about 101 = .ok (.aload_n 0, 1) := by decide +kernel
theorem dX12_about_102 : decode cX12_about 102 = .ok (.getfield 94, 3) := by decide +kernel
theorem dX12_about_105 : decode cX12_about 105 = .ok (.iconst 1, 1) := by decide +kernel
theorem dX12_about_106 : decode cX12_about 106 = .ok (.iaload, 1) := by decide +kernel
theorem dX12_about_107 : decode cX12_about 107 = .ok (.ireturn, 1) := by decide +kernel
theorem dX12_about_108 : decode cX12_about 108 = .ok (.aload_n 0, 1) := by decide +kernel
theorem dX12_about_109 : decode cX12_about 109 = .ok (.getfield 291, 3) := by decide +kernel
theorem dX12_about_112 : decode cX12_about 112 = .ok (.ireturn, 1) := by decide +kernel
theorem dX12_about_113 : decode cX12_about 113 = .ok (.aload_n 0, 1) := by decide +kernel
theorem dX12_about_114 : decode cX12_about 114 = .ok (.getfield 422, 3) := by decide +kernel
theorem dX12_about_117 : decode cX12_about 117 = .ok (.ireturn, 1) := by decide +kernel
theorem dX12_about_118 : decode cX12_about 118 = .ok (.aload_n 0, 1) := by decide +kernel
theorem dX12_about_119 : decode cX12_about 119 = .ok (.getfield 163, 3) := by decide +kernel
theorem dX12_about_122 : decode cX12_about 122 = .ok (.ireturn, 1) := by decide +kernel
theorem dX12_about_123 : decode cX12_about 123 = .ok (.aload_n 0, 1) := by decide +kernel
theorem dX12_about_124 : decode cX12_about 124 = .ok (.getfield 294, 3) := by decide +kernel
theorem dX12_about_127 : decode cX12_about 127 = .ok (.ireturn, 1) := by decide +kernel
theorem dX12_about_128 : decode cX12_about 128 = .ok (.iconst (-1), 1) := by decide +kernel
theorem dX12_about_129 : decode cX12_about 129 = .ok (.ireturn, 1) := by decide +kernel
set_option maxHeartbeats 4000000 in
set_option maxRecDepth 100000 in
theorem c_X12_isIn (l : Launch) (g : va_G) (kA : Nat → ClassId) (v : Int32) (lo : Int32) (hi : Int32)  : CtI l yX12_isIn cX12_isIn 3 (some .boolean) 1 0 0 g kA [.int v, .int lo, .int hi] [] (S := Unit) (fun (r : Int32) (_ : Unit) => r = bRg v lo hi) (fun (_ : Unit) => []) := by
  refine nx_startI (by decide +kernel) (Nat.le_of_ble_eq_true rfl) ?_
  intro x hnm h hq
  have h : Ok x cX12_isIn RX12 kA (rmC 1 0 0) 3 := h
  show J x [] [(0, .int v), (1, .int lo), (2, .int hi)] 0 0 0 []
  refine j_iload_n h 0 rfl rfl dX12_isIn_0 ?_
  refine j_iload_n h 1 rfl rfl dX12_isIn_1 ?_
  refine j_icmp_lt h 14 dX12_isIn_2 (by decide) (fun z341 => ?_) (fun z341 => ?_)
  · refine j_iconst (v := 0) h (by decide) dX12_isIn_14 ?_
    exact j_zret h hq rfl dX12_isIn_15 () [] rfl rfl (by decide) (by first | rfl | (unfold bRg; simp only [z341, ↓reduceIte]; done) | (subst_vars; decide)) (Nat.le_of_ble_eq_true rfl) (Nat.le_of_ble_eq_true rfl)
  · refine j_iload_n h 0 rfl rfl dX12_isIn_5 ?_
    refine j_iload_n h 2 rfl rfl dX12_isIn_6 ?_
    refine j_icmp_gt h 14 dX12_isIn_7 (by decide) (fun z342 => ?_) (fun z342 => ?_)
    · refine j_iconst (v := 0) h (by decide) dX12_isIn_14 ?_
      exact j_zret h hq rfl dX12_isIn_15 () [] rfl rfl (by decide) (by first | rfl | (unfold bRg; simp only [z341, z342, ↓reduceIte]; done) | (subst_vars; decide)) (Nat.le_of_ble_eq_true rfl) (Nat.le_of_ble_eq_true rfl)
    · refine j_iconst (v := 1) h (by decide) dX12_isIn_10 ?_
      refine j_goto h 15 dX12_isIn_11 (by decide) ?_
      exact j_zret h hq rfl dX12_isIn_15 () [] rfl rfl (by decide) (by first | rfl | (unfold bRg; simp only [z341, z342, ↓reduceIte]; done) | (subst_vars; decide)) (Nat.le_of_ble_eq_true rfl) (Nat.le_of_ble_eq_true rfl)
set_option maxHeartbeats 4000000 in
set_option maxRecDepth 100000 in
theorem c_X12_isStep (l : Launch) (g : va_G) (kA : Nat → ClassId) (h0 : Nat) (m : Nat → Nat) (e : Int32)  : CtI l yX12_isStep cX12_isStep 2 (some .boolean) 2 0 0 g kA [.ref h0, .int e] [(h0, .inr (12, (.ref (m 0) :: .int 0 :: .int 0 :: .int (-1) :: .int 0 :: .int 0 :: .int 0 :: .int 0 :: .int 0 :: .long 0 :: .ref (m 10) :: .ref (m 11) :: .ref (m 12) :: .ref (m 13) :: .ref (m 14) :: .ref (m 15) :: .ref (m 16) :: .ref (m 17) :: .ref (m 18) :: .ref (m 19) :: .ref (m 20) :: .ref (m 21) :: .ref (m 22) :: .ref (m 23) :: .ref (m 24) :: .int 0 :: .int 0 :: .int 0 :: .int 0 :: .int 0 :: .int 0 :: .ref (m 31) :: .ref (m 32) :: .ref (m 33) :: .ref (m 34) :: .ref (m 35) :: .int 0 :: .int 0 :: .int 0 :: .ref (m 39) :: .ref (m 40) :: .ref (m 41) :: .int 0 :: .ref (m 43) :: .ref (m 44) :: .ref (m 45) :: .ref (m 46) :: .ref (m 47) :: .ref (m 48) :: .int 0 :: .ref (m 50) :: .ref (m 51) :: .ref (m 52) :: .ref (m 53) :: .ref (m 54) :: .ref (m 55) :: .ref (m 56) :: .ref (m 57) :: .ref (m 58) :: .ref (m 59) :: .ref (m 60) :: .ref (m 61) :: .int 0 :: .int 0 :: .ref (m 64) :: .ref (m 65) :: .ref (m 66) :: .ref (m 67) :: .ref (m 68) :: .ref (m 69) :: [])))] (S := Unit) (fun (r : Int32) (_ : Unit) => r = 0) (fun (_ : Unit) => [(h0, .inr (12, (.ref (m 0) :: .int 0 :: .int 0 :: .int (-1) :: .int 0 :: .int 0 :: .int 0 :: .int 0 :: .int 0 :: .long 0 :: .ref (m 10) :: .ref (m 11) :: .ref (m 12) :: .ref (m 13) :: .ref (m 14) :: .ref (m 15) :: .ref (m 16) :: .ref (m 17) :: .ref (m 18) :: .ref (m 19) :: .ref (m 20) :: .ref (m 21) :: .ref (m 22) :: .ref (m 23) :: .ref (m 24) :: .int 0 :: .int 0 :: .int 0 :: .int 0 :: .int 0 :: .int 0 :: .ref (m 31) :: .ref (m 32) :: .ref (m 33) :: .ref (m 34) :: .ref (m 35) :: .int 0 :: .int 0 :: .int 0 :: .ref (m 39) :: .ref (m 40) :: .ref (m 41) :: .int 0 :: .ref (m 43) :: .ref (m 44) :: .ref (m 45) :: .ref (m 46) :: .ref (m 47) :: .ref (m 48) :: .int 0 :: .ref (m 50) :: .ref (m 51) :: .ref (m 52) :: .ref (m 53) :: .ref (m 54) :: .ref (m 55) :: .ref (m 56) :: .ref (m 57) :: .ref (m 58) :: .ref (m 59) :: .ref (m 60) :: .ref (m 61) :: .int 0 :: .int 0 :: .ref (m 64) :: .ref (m 65) :: .ref (m 66) :: .ref (m 67) :: .ref (m 68) :: .ref (m 69) :: [])))]) := by
  refine nx_startI (by decide +kernel) (Nat.le_of_ble_eq_true rfl) ?_
  intro x hnm h hq
  have h : Ok x cX12_isStep RX12 kA (rmC 2 0 0) 2 := h
  show J x [(h0, .inr (12, (.ref (m 0) :: .int 0 :: .int 0 :: .int (-1) :: .int 0 :: .int 0 :: .int 0 :: .int 0 :: .int 0 :: .long 0 :: .ref (m 10) :: .ref (m 11) :: .ref (m 12) :: .ref (m 13) :: .ref (m 14) :: .ref (m 15) :: .ref (m 16) :: .ref (m 17) :: .ref (m 18) :: .ref (m 19) :: .ref (m 20) :: .ref (m 21) :: .ref (m 22) :: .ref (m 23) :: .ref (m 24) :: .int 0 :: .int 0 :: .int 0 :: .int 0 :: .int 0 :: .int 0 :: .ref (m 31) :: .ref (m 32) :: .ref (m 33) :: .ref (m 34) :: .ref (m 35) :: .int 0 :: .int 0 :: .int 0 :: .ref (m 39) :: .ref (m 40) :: .ref (m 41) :: .int 0 :: .ref (m 43) :: .ref (m 44) :: .ref (m 45) :: .ref (m 46) :: .ref (m 47) :: .ref (m 48) :: .int 0 :: .ref (m 50) :: .ref (m 51) :: .ref (m 52) :: .ref (m 53) :: .ref (m 54) :: .ref (m 55) :: .ref (m 56) :: .ref (m 57) :: .ref (m 58) :: .ref (m 59) :: .ref (m 60) :: .ref (m 61) :: .int 0 :: .int 0 :: .ref (m 64) :: .ref (m 65) :: .ref (m 66) :: .ref (m 67) :: .ref (m 68) :: .ref (m 69) :: [])))] [(0, .ref h0), (1, .int e)] 0 0 0 []
  refine j_iload_n h 1 rfl rfl dX12_isStep_0 ?_
  refine j_iconst (v := 0) h (by decide) dX12_isStep_1 ?_
  refine j_aload_n h 0 rfl rfl dX12_isStep_2 ?_
  refine j_get h iw_X12 0 rfl rfl 28 (by decide) tw_1184 rfl dX12_isStep_3 ?_
  refine j_iconst (v := 1) h (by decide) dX12_isStep_6 ?_
  refine j_isub h dX12_isStep_7 ?_
  refine j_top (b := (-1)) (by decide) ?_
  refine j_callSi (np := 3) (isC := []) (isR := [0]) (wc := []) (wr := [(h0, .inr (12, (.ref (m 0) :: .int 0 :: .int 0 :: .int (-1) :: .int 0 :: .int 0 :: .int 0 :: .int 0 :: .int 0 :: .long 0 :: .ref (m 10) :: .ref (m 11) :: .ref (m 12) :: .ref (m 13) :: .ref (m 14) :: .ref (m 15) :: .ref (m 16) :: .ref (m 17) :: .ref (m 18) :: .ref (m 19) :: .ref (m 20) :: .ref (m 21) :: .ref (m 22) :: .ref (m 23) :: .ref (m 24) :: .int 0 :: .int 0 :: .int 0 :: .int 0 :: .int 0 :: .int 0 :: .ref (m 31) :: .ref (m 32) :: .ref (m 33) :: .ref (m 34) :: .ref (m 35) :: .int 0 :: .int 0 :: .int 0 :: .ref (m 39) :: .ref (m 40) :: .ref (m 41) :: .int 0 :: .ref (m 43) :: .ref (m 44) :: .ref (m 45) :: .ref (m 46) :: .ref (m 47) :: .ref (m 48) :: .int 0 :: .ref (m 50) :: .ref (m 51) :: .ref (m 52) :: .ref (m 53) :: .ref (m 54) :: .ref (m 55) :: .ref (m 56) :: .ref (m 57) :: .ref (m 58) :: .ref (m 59) :: .ref (m 60) :: .ref (m 61) :: .int 0 :: .int 0 :: .ref (m 64) :: .ref (m 65) :: .ref (m 66) :: .ref (m 67) :: .ref (m 68) :: .ref (m 69) :: [])))]) (rest := []) (As := [.int e, .int 0, .int (-1)]) h (c_X12_isIn _ _ kA e 0 (-1) ) tw_1487 tw_1488 tw_99 tw_1489 (by decide +kernel) rfl ⟨Nat.le_of_ble_eq_true rfl, Nat.le_of_ble_eq_true rfl⟩ rfl (by decide) rfl rfl (by decide) (by decide) (Nat.le_of_ble_eq_true rfl) rfl ⟨Nat.le_of_ble_eq_true rfl, Nat.le_of_ble_eq_true rfl⟩ dX12_isStep_8 ?_
  rintro r _ e343
  subst e343
  show J x [(h0, .inr (12, (.ref (m 0) :: .int 0 :: .int 0 :: .int (-1) :: .int 0 :: .int 0 :: .int 0 :: .int 0 :: .int 0 :: .long 0 :: .ref (m 10) :: .ref (m 11) :: .ref (m 12) :: .ref (m 13) :: .ref (m 14) :: .ref (m 15) :: .ref (m 16) :: .ref (m 17) :: .ref (m 18) :: .ref (m 19) :: .ref (m 20) :: .ref (m 21) :: .ref (m 22) :: .ref (m 23) :: .ref (m 24) :: .int 0 :: .int 0 :: .int 0 :: .int 0 :: .int 0 :: .int 0 :: .ref (m 31) :: .ref (m 32) :: .ref (m 33) :: .ref (m 34) :: .ref (m 35) :: .int 0 :: .int 0 :: .int 0 :: .ref (m 39) :: .ref (m 40) :: .ref (m 41) :: .int 0 :: .ref (m 43) :: .ref (m 44) :: .ref (m 45) :: .ref (m 46) :: .ref (m 47) :: .ref (m 48) :: .int 0 :: .ref (m 50) :: .ref (m 51) :: .ref (m 52) :: .ref (m 53) :: .ref (m 54) :: .ref (m 55) :: .ref (m 56) :: .ref (m 57) :: .ref (m 58) :: .ref (m 59) :: .ref (m 60) :: .ref (m 61) :: .int 0 :: .int 0 :: .ref (m 64) :: .ref (m 65) :: .ref (m 66) :: .ref (m 67) :: .ref (m 68) :: .ref (m 69) :: [])))] [(0, .ref h0), (1, .int e)] 0 0 11 [.int (bRg e 0 (-1))]
  refine j_top (b := 0) (bRg_e e) ?_
  exact j_zret h hq rfl dX12_isStep_11 () [0] rfl rfl (by decide) (by first | rfl | simp only [↓reduceIte]) (Nat.le_of_ble_eq_true rfl) (Nat.le_of_ble_eq_true rfl)
set_option maxHeartbeats 4000000 in
set_option maxRecDepth 100000 in
theorem c_X12_isLetterOf (l : Launch) (g : va_G) (kA : Nat → ClassId) (h0 : Nat) (m : Nat → Nat) (e : Int32)  : CtI l yX12_isLetterOf cX12_isLetterOf 2 (some .boolean) 2 0 0 g kA [.ref h0, .int e] [(h0, .inr (12, (.ref (m 0) :: .int 0 :: .int 0 :: .int (-1) :: .int 0 :: .int 0 :: .int 0 :: .int 0 :: .int 0 :: .long 0 :: .ref (m 10) :: .ref (m 11) :: .ref (m 12) :: .ref (m 13) :: .ref (m 14) :: .ref (m 15) :: .ref (m 16) :: .ref (m 17) :: .ref (m 18) :: .ref (m 19) :: .ref (m 20) :: .ref (m 21) :: .ref (m 22) :: .ref (m 23) :: .ref (m 24) :: .int 0 :: .int 0 :: .int 0 :: .int 0 :: .int 0 :: .int 0 :: .ref (m 31) :: .ref (m 32) :: .ref (m 33) :: .ref (m 34) :: .ref (m 35) :: .int 0 :: .int 0 :: .int 0 :: .ref (m 39) :: .ref (m 40) :: .ref (m 41) :: .int 0 :: .ref (m 43) :: .ref (m 44) :: .ref (m 45) :: .ref (m 46) :: .ref (m 47) :: .ref (m 48) :: .int 0 :: .ref (m 50) :: .ref (m 51) :: .ref (m 52) :: .ref (m 53) :: .ref (m 54) :: .ref (m 55) :: .ref (m 56) :: .ref (m 57) :: .ref (m 58) :: .ref (m 59) :: .ref (m 60) :: .ref (m 61) :: .int 0 :: .int 0 :: .ref (m 64) :: .ref (m 65) :: .ref (m 66) :: .ref (m 67) :: .ref (m 68) :: .ref (m 69) :: [])))] (S := Unit) (fun (r : Int32) (_ : Unit) => r = 0) (fun (_ : Unit) => [(h0, .inr (12, (.ref (m 0) :: .int 0 :: .int 0 :: .int (-1) :: .int 0 :: .int 0 :: .int 0 :: .int 0 :: .int 0 :: .long 0 :: .ref (m 10) :: .ref (m 11) :: .ref (m 12) :: .ref (m 13) :: .ref (m 14) :: .ref (m 15) :: .ref (m 16) :: .ref (m 17) :: .ref (m 18) :: .ref (m 19) :: .ref (m 20) :: .ref (m 21) :: .ref (m 22) :: .ref (m 23) :: .ref (m 24) :: .int 0 :: .int 0 :: .int 0 :: .int 0 :: .int 0 :: .int 0 :: .ref (m 31) :: .ref (m 32) :: .ref (m 33) :: .ref (m 34) :: .ref (m 35) :: .int 0 :: .int 0 :: .int 0 :: .ref (m 39) :: .ref (m 40) :: .ref (m 41) :: .int 0 :: .ref (m 43) :: .ref (m 44) :: .ref (m 45) :: .ref (m 46) :: .ref (m 47) :: .ref (m 48) :: .int 0 :: .ref (m 50) :: .ref (m 51) :: .ref (m 52) :: .ref (m 53) :: .ref (m 54) :: .ref (m 55) :: .ref (m 56) :: .ref (m 57) :: .ref (m 58) :: .ref (m 59) :: .ref (m 60) :: .ref (m 61) :: .int 0 :: .int 0 :: .ref (m 64) :: .ref (m 65) :: .ref (m 66) :: .ref (m 67) :: .ref (m 68) :: .ref (m 69) :: [])))]) := by
  refine nx_startI (by decide +kernel) (Nat.le_of_ble_eq_true rfl) ?_
  intro x hnm h hq
  have h : Ok x cX12_isLetterOf RX12 kA (rmC 2 0 0) 2 := h
  show J x [(h0, .inr (12, (.ref (m 0) :: .int 0 :: .int 0 :: .int (-1) :: .int 0 :: .int 0 :: .int 0 :: .int 0 :: .int 0 :: .long 0 :: .ref (m 10) :: .ref (m 11) :: .ref (m 12) :: .ref (m 13) :: .ref (m 14) :: .ref (m 15) :: .ref (m 16) :: .ref (m 17) :: .ref (m 18) :: .ref (m 19) :: .ref (m 20) :: .ref (m 21) :: .ref (m 22) :: .ref (m 23) :: .ref (m 24) :: .int 0 :: .int 0 :: .int 0 :: .int 0 :: .int 0 :: .int 0 :: .ref (m 31) :: .ref (m 32) :: .ref (m 33) :: .ref (m 34) :: .ref (m 35) :: .int 0 :: .int 0 :: .int 0 :: .ref (m 39) :: .ref (m 40) :: .ref (m 41) :: .int 0 :: .ref (m 43) :: .ref (m 44) :: .ref (m 45) :: .ref (m 46) :: .ref (m 47) :: .ref (m 48) :: .int 0 :: .ref (m 50) :: .ref (m 51) :: .ref (m 52) :: .ref (m 53) :: .ref (m 54) :: .ref (m 55) :: .ref (m 56) :: .ref (m 57) :: .ref (m 58) :: .ref (m 59) :: .ref (m 60) :: .ref (m 61) :: .int 0 :: .int 0 :: .ref (m 64) :: .ref (m 65) :: .ref (m 66) :: .ref (m 67) :: .ref (m 68) :: .ref (m 69) :: [])))] [(0, .ref h0), (1, .int e)] 0 0 0 []
  refine j_iload_n h 1 rfl rfl dX12_isLetterOf_0 ?_
  refine j_iconst (v := 0) h (by decide) dX12_isLetterOf_1 ?_
  refine j_aload_n h 0 rfl rfl dX12_isLetterOf_2 ?_
  refine j_get h iw_X12 0 rfl rfl 29 (by decide) tw_1185 rfl dX12_isLetterOf_3 ?_
  refine j_iconst (v := 1) h (by decide) dX12_isLetterOf_6 ?_
  refine j_isub h dX12_isLetterOf_7 ?_
  refine j_top (b := (-1)) (by decide) ?_
  refine j_callSi (np := 3) (isC := []) (isR := [0]) (wc := []) (wr := [(h0, .inr (12, (.ref (m 0) :: .int 0 :: .int 0 :: .int (-1) :: .int 0 :: .int 0 :: .int 0 :: .int 0 :: .int 0 :: .long 0 :: .ref (m 10) :: .ref (m 11) :: .ref (m 12) :: .ref (m 13) :: .ref (m 14) :: .ref (m 15) :: .ref (m 16) :: .ref (m 17) :: .ref (m 18) :: .ref (m 19) :: .ref (m 20) :: .ref (m 21) :: .ref (m 22) :: .ref (m 23) :: .ref (m 24) :: .int 0 :: .int 0 :: .int 0 :: .int 0 :: .int 0 :: .int 0 :: .ref (m 31) :: .ref (m 32) :: .ref (m 33) :: .ref (m 34) :: .ref (m 35) :: .int 0 :: .int 0 :: .int 0 :: .ref (m 39) :: .ref (m 40) :: .ref (m 41) :: .int 0 :: .ref (m 43) :: .ref (m 44) :: .ref (m 45) :: .ref (m 46) :: .ref (m 47) :: .ref (m 48) :: .int 0 :: .ref (m 50) :: .ref (m 51) :: .ref (m 52) :: .ref (m 53) :: .ref (m 54) :: .ref (m 55) :: .ref (m 56) :: .ref (m 57) :: .ref (m 58) :: .ref (m 59) :: .ref (m 60) :: .ref (m 61) :: .int 0 :: .int 0 :: .ref (m 64) :: .ref (m 65) :: .ref (m 66) :: .ref (m 67) :: .ref (m 68) :: .ref (m 69) :: [])))]) (rest := []) (As := [.int e, .int 0, .int (-1)]) h (c_X12_isIn _ _ kA e 0 (-1) ) tw_1487 tw_1488 tw_99 tw_1489 (by decide +kernel) rfl ⟨Nat.le_of_ble_eq_true rfl, Nat.le_of_ble_eq_true rfl⟩ rfl (by decide) rfl rfl (by decide) (by decide) (Nat.le_of_ble_eq_true rfl) rfl ⟨Nat.le_of_ble_eq_true rfl, Nat.le_of_ble_eq_true rfl⟩ dX12_isLetterOf_8 ?_
  rintro r _ e344
  subst e344
  show J x [(h0, .inr (12, (.ref (m 0) :: .int 0 :: .int 0 :: .int (-1) :: .int 0 :: .int 0 :: .int 0 :: .int 0 :: .int 0 :: .long 0 :: .ref (m 10) :: .ref (m 11) :: .ref (m 12) :: .ref (m 13) :: .ref (m 14) :: .ref (m 15) :: .ref (m 16) :: .ref (m 17) :: .ref (m 18) :: .ref (m 19) :: .ref (m 20) :: .ref (m 21) :: .ref (m 22) :: .ref (m 23) :: .ref (m 24) :: .int 0 :: .int 0 :: .int 0 :: .int 0 :: .int 0 :: .int 0 :: .ref (m 31) :: .ref (m 32) :: .ref (m 33) :: .ref (m 34) :: .ref (m 35) :: .int 0 :: .int 0 :: .int 0 :: .ref (m 39) :: .ref (m 40) :: .ref (m 41) :: .int 0 :: .ref (m 43) :: .ref (m 44) :: .ref (m 45) :: .ref (m 46) :: .ref (m 47) :: .ref (m 48) :: .int 0 :: .ref (m 50) :: .ref (m 51) :: .ref (m 52) :: .ref (m 53) :: .ref (m 54) :: .ref (m 55) :: .ref (m 56) :: .ref (m 57) :: .ref (m 58) :: .ref (m 59) :: .ref (m 60) :: .ref (m 61) :: .int 0 :: .int 0 :: .ref (m 64) :: .ref (m 65) :: .ref (m 66) :: .ref (m 67) :: .ref (m 68) :: .ref (m 69) :: [])))] [(0, .ref h0), (1, .int e)] 0 0 11 [.int (bRg e 0 (-1))]
  refine j_top (b := 0) (bRg_e e) ?_
  exact j_zret h hq rfl dX12_isLetterOf_11 () [0] rfl rfl (by decide) (by first | rfl | simp only [↓reduceIte]) (Nat.le_of_ble_eq_true rfl) (Nat.le_of_ble_eq_true rfl)
set_option maxHeartbeats 4000000 in
set_option maxRecDepth 100000 in
theorem c_X12_isEar (l : Launch) (g : va_G) (kA : Nat → ClassId) (h0 : Nat) (m : Nat → Nat) (e : Int32)  : CtI l yX12_isEar cX12_isEar 2 (some .boolean) 2 0 0 g kA [.ref h0, .int e] [(h0, .inr (12, (.ref (m 0) :: .int 0 :: .int 0 :: .int (-1) :: .int 0 :: .int 0 :: .int 0 :: .int 0 :: .int 0 :: .long 0 :: .ref (m 10) :: .ref (m 11) :: .ref (m 12) :: .ref (m 13) :: .ref (m 14) :: .ref (m 15) :: .ref (m 16) :: .ref (m 17) :: .ref (m 18) :: .ref (m 19) :: .ref (m 20) :: .ref (m 21) :: .ref (m 22) :: .ref (m 23) :: .ref (m 24) :: .int 0 :: .int 0 :: .int 0 :: .int 0 :: .int 0 :: .int 0 :: .ref (m 31) :: .ref (m 32) :: .ref (m 33) :: .ref (m 34) :: .ref (m 35) :: .int 0 :: .int 0 :: .int 0 :: .ref (m 39) :: .ref (m 40) :: .ref (m 41) :: .int 0 :: .ref (m 43) :: .ref (m 44) :: .ref (m 45) :: .ref (m 46) :: .ref (m 47) :: .ref (m 48) :: .int 0 :: .ref (m 50) :: .ref (m 51) :: .ref (m 52) :: .ref (m 53) :: .ref (m 54) :: .ref (m 55) :: .ref (m 56) :: .ref (m 57) :: .ref (m 58) :: .ref (m 59) :: .ref (m 60) :: .ref (m 61) :: .int 0 :: .int 0 :: .ref (m 64) :: .ref (m 65) :: .ref (m 66) :: .ref (m 67) :: .ref (m 68) :: .ref (m 69) :: [])))] (S := Unit) (fun (r : Int32) (_ : Unit) => r = 0) (fun (_ : Unit) => [(h0, .inr (12, (.ref (m 0) :: .int 0 :: .int 0 :: .int (-1) :: .int 0 :: .int 0 :: .int 0 :: .int 0 :: .int 0 :: .long 0 :: .ref (m 10) :: .ref (m 11) :: .ref (m 12) :: .ref (m 13) :: .ref (m 14) :: .ref (m 15) :: .ref (m 16) :: .ref (m 17) :: .ref (m 18) :: .ref (m 19) :: .ref (m 20) :: .ref (m 21) :: .ref (m 22) :: .ref (m 23) :: .ref (m 24) :: .int 0 :: .int 0 :: .int 0 :: .int 0 :: .int 0 :: .int 0 :: .ref (m 31) :: .ref (m 32) :: .ref (m 33) :: .ref (m 34) :: .ref (m 35) :: .int 0 :: .int 0 :: .int 0 :: .ref (m 39) :: .ref (m 40) :: .ref (m 41) :: .int 0 :: .ref (m 43) :: .ref (m 44) :: .ref (m 45) :: .ref (m 46) :: .ref (m 47) :: .ref (m 48) :: .int 0 :: .ref (m 50) :: .ref (m 51) :: .ref (m 52) :: .ref (m 53) :: .ref (m 54) :: .ref (m 55) :: .ref (m 56) :: .ref (m 57) :: .ref (m 58) :: .ref (m 59) :: .ref (m 60) :: .ref (m 61) :: .int 0 :: .int 0 :: .ref (m 64) :: .ref (m 65) :: .ref (m 66) :: .ref (m 67) :: .ref (m 68) :: .ref (m 69) :: [])))]) := by
  refine nx_startI (by decide +kernel) (Nat.le_of_ble_eq_true rfl) ?_
  intro x hnm h hq
  have h : Ok x cX12_isEar RX12 kA (rmC 2 0 0) 2 := h
  show J x [(h0, .inr (12, (.ref (m 0) :: .int 0 :: .int 0 :: .int (-1) :: .int 0 :: .int 0 :: .int 0 :: .int 0 :: .int 0 :: .long 0 :: .ref (m 10) :: .ref (m 11) :: .ref (m 12) :: .ref (m 13) :: .ref (m 14) :: .ref (m 15) :: .ref (m 16) :: .ref (m 17) :: .ref (m 18) :: .ref (m 19) :: .ref (m 20) :: .ref (m 21) :: .ref (m 22) :: .ref (m 23) :: .ref (m 24) :: .int 0 :: .int 0 :: .int 0 :: .int 0 :: .int 0 :: .int 0 :: .ref (m 31) :: .ref (m 32) :: .ref (m 33) :: .ref (m 34) :: .ref (m 35) :: .int 0 :: .int 0 :: .int 0 :: .ref (m 39) :: .ref (m 40) :: .ref (m 41) :: .int 0 :: .ref (m 43) :: .ref (m 44) :: .ref (m 45) :: .ref (m 46) :: .ref (m 47) :: .ref (m 48) :: .int 0 :: .ref (m 50) :: .ref (m 51) :: .ref (m 52) :: .ref (m 53) :: .ref (m 54) :: .ref (m 55) :: .ref (m 56) :: .ref (m 57) :: .ref (m 58) :: .ref (m 59) :: .ref (m 60) :: .ref (m 61) :: .int 0 :: .int 0 :: .ref (m 64) :: .ref (m 65) :: .ref (m 66) :: .ref (m 67) :: .ref (m 68) :: .ref (m 69) :: [])))] [(0, .ref h0), (1, .int e)] 0 0 0 []
  refine j_iload_n h 1 rfl rfl dX12_isEar_0 ?_
  refine j_iconst (v := 0) h (by decide) dX12_isEar_1 ?_
  refine j_aload_n h 0 rfl rfl dX12_isEar_2 ?_
  refine j_get h iw_X12 0 rfl rfl 30 (by decide) tw_1186 rfl dX12_isEar_3 ?_
  refine j_iconst (v := 1) h (by decide) dX12_isEar_6 ?_
  refine j_isub h dX12_isEar_7 ?_
  refine j_top (b := (-1)) (by decide) ?_
  refine j_callSi (np := 3) (isC := []) (isR := [0]) (wc := []) (wr := [(h0, .inr (12, (.ref (m 0) :: .int 0 :: .int 0 :: .int (-1) :: .int 0 :: .int 0 :: .int 0 :: .int 0 :: .int 0 :: .long 0 :: .ref (m 10) :: .ref (m 11) :: .ref (m 12) :: .ref (m 13) :: .ref (m 14) :: .ref (m 15) :: .ref (m 16) :: .ref (m 17) :: .ref (m 18) :: .ref (m 19) :: .ref (m 20) :: .ref (m 21) :: .ref (m 22) :: .ref (m 23) :: .ref (m 24) :: .int 0 :: .int 0 :: .int 0 :: .int 0 :: .int 0 :: .int 0 :: .ref (m 31) :: .ref (m 32) :: .ref (m 33) :: .ref (m 34) :: .ref (m 35) :: .int 0 :: .int 0 :: .int 0 :: .ref (m 39) :: .ref (m 40) :: .ref (m 41) :: .int 0 :: .ref (m 43) :: .ref (m 44) :: .ref (m 45) :: .ref (m 46) :: .ref (m 47) :: .ref (m 48) :: .int 0 :: .ref (m 50) :: .ref (m 51) :: .ref (m 52) :: .ref (m 53) :: .ref (m 54) :: .ref (m 55) :: .ref (m 56) :: .ref (m 57) :: .ref (m 58) :: .ref (m 59) :: .ref (m 60) :: .ref (m 61) :: .int 0 :: .int 0 :: .ref (m 64) :: .ref (m 65) :: .ref (m 66) :: .ref (m 67) :: .ref (m 68) :: .ref (m 69) :: [])))]) (rest := []) (As := [.int e, .int 0, .int (-1)]) h (c_X12_isIn _ _ kA e 0 (-1) ) tw_1487 tw_1488 tw_99 tw_1489 (by decide +kernel) rfl ⟨Nat.le_of_ble_eq_true rfl, Nat.le_of_ble_eq_true rfl⟩ rfl (by decide) rfl rfl (by decide) (by decide) (Nat.le_of_ble_eq_true rfl) rfl ⟨Nat.le_of_ble_eq_true rfl, Nat.le_of_ble_eq_true rfl⟩ dX12_isEar_8 ?_
  rintro r _ e345
  subst e345
  show J x [(h0, .inr (12, (.ref (m 0) :: .int 0 :: .int 0 :: .int (-1) :: .int 0 :: .int 0 :: .int 0 :: .int 0 :: .int 0 :: .long 0 :: .ref (m 10) :: .ref (m 11) :: .ref (m 12) :: .ref (m 13) :: .ref (m 14) :: .ref (m 15) :: .ref (m 16) :: .ref (m 17) :: .ref (m 18) :: .ref (m 19) :: .ref (m 20) :: .ref (m 21) :: .ref (m 22) :: .ref (m 23) :: .ref (m 24) :: .int 0 :: .int 0 :: .int 0 :: .int 0 :: .int 0 :: .int 0 :: .ref (m 31) :: .ref (m 32) :: .ref (m 33) :: .ref (m 34) :: .ref (m 35) :: .int 0 :: .int 0 :: .int 0 :: .ref (m 39) :: .ref (m 40) :: .ref (m 41) :: .int 0 :: .ref (m 43) :: .ref (m 44) :: .ref (m 45) :: .ref (m 46) :: .ref (m 47) :: .ref (m 48) :: .int 0 :: .ref (m 50) :: .ref (m 51) :: .ref (m 52) :: .ref (m 53) :: .ref (m 54) :: .ref (m 55) :: .ref (m 56) :: .ref (m 57) :: .ref (m 58) :: .ref (m 59) :: .ref (m 60) :: .ref (m 61) :: .int 0 :: .int 0 :: .ref (m 64) :: .ref (m 65) :: .ref (m 66) :: .ref (m 67) :: .ref (m 68) :: .ref (m 69) :: [])))] [(0, .ref h0), (1, .int e)] 0 0 11 [.int (bRg e 0 (-1))]
  refine j_top (b := 0) (bRg_e e) ?_
  exact j_zret h hq rfl dX12_isEar_11 () [0] rfl rfl (by decide) (by first | rfl | simp only [↓reduceIte]) (Nat.le_of_ble_eq_true rfl) (Nat.le_of_ble_eq_true rfl)
set_option maxHeartbeats 4000000 in
set_option maxRecDepth 100000 in
theorem c_X12_isText (l : Launch) (g : va_G) (kA : Nat → ClassId) (t : Int32)  : CtI l yX12_isText cX12_isText 1 (some .boolean) 1 0 0 g kA [.int t] [] (S := Unit) (fun (r : Int32) (_ : Unit) => r = bTx t) (fun (_ : Unit) => []) := by
  refine nx_startI (by decide +kernel) (Nat.le_of_ble_eq_true rfl) ?_
  intro x hnm h hq
  have h : Ok x cX12_isText RX12 kA (rmC 1 0 0) 1 := h
  show J x [] [(0, .int t)] 0 0 0 []
  rcases bTx_cases t with rfl | rfl | hT
  · refine j_iload_n h 0 rfl rfl dX12_isText_0 ?_
    refine j_if_eq h 9 dX12_isText_1 (by decide) (fun _ => ?_) (fun q => absurd (by decide) q)
    refine j_iconst (v := 1) h (by decide) dX12_isText_9 ?_
    refine j_goto h 14 dX12_isText_10 (by decide) ?_
    exact j_zret h hq rfl dX12_isText_14 () [] rfl rfl (by decide) (by decide) (Nat.le_of_ble_eq_true rfl) (Nat.le_of_ble_eq_true rfl)
  · refine j_iload_n h 0 rfl rfl dX12_isText_0 ?_
    refine j_if_eq h 9 dX12_isText_1 (by decide) (fun q => absurd q (by decide)) (fun _ => ?_)
    refine j_iload_n h 0 rfl rfl dX12_isText_4 ?_
    refine j_iconst (v := 1) h (by decide) dX12_isText_5 ?_
    refine j_icmp_ne h 13 dX12_isText_6 (by decide) (fun q => absurd (by decide) q) (fun _ => ?_)
    refine j_iconst (v := 1) h (by decide) dX12_isText_9 ?_
    refine j_goto h 14 dX12_isText_10 (by decide) ?_
    exact j_zret h hq rfl dX12_isText_14 () [] rfl rfl (by decide) (by decide) (Nat.le_of_ble_eq_true rfl) (Nat.le_of_ble_eq_true rfl)
  · refine j_iload_n h 0 rfl rfl dX12_isText_0 ?_
    refine j_if_eq h 9 dX12_isText_1 (by decide) (fun q => absurd q (fun q9 => absurd hT (by rw [q9]; decide))) (fun _ => ?_)
    refine j_iload_n h 0 rfl rfl dX12_isText_4 ?_
    refine j_iconst (v := 1) h (by decide) dX12_isText_5 ?_
    refine j_icmp_ne h 13 dX12_isText_6 (by decide) (fun _ => ?_) (fun q => absurd q (fun q9 => absurd hT (by rw [q9]; decide)))
    refine j_iconst (v := 0) h (by decide) dX12_isText_13 ?_
    exact j_zret h hq rfl dX12_isText_14 () [] rfl rfl (by decide) hT.symm (Nat.le_of_ble_eq_true rfl) (Nat.le_of_ble_eq_true rfl)
set_option maxHeartbeats 4000000 in
set_option maxRecDepth 100000 in
theorem c_X12_isBox (l : Launch) (g : va_G) (kA : Nat → ClassId) (t : Int32)  : CtI l yX12_isBox cX12_isBox 1 (some .boolean) 1 0 0 g kA [.int t] [] (S := Unit) (fun (r : Int32) (_ : Unit) => r = bBx t) (fun (_ : Unit) => []) := by
  refine nx_startI (by decide +kernel) (Nat.le_of_ble_eq_true rfl) ?_
  intro x hnm h hq
  have h : Ok x cX12_isBox RX12 kA (rmC 1 0 0) 1 := h
  show J x [] [(0, .int t)] 0 0 0 []
  refine j_iload_n h 0 rfl rfl dX12_isBox_0 ?_
  refine j_if_lt h 13 dX12_isBox_1 (by decide) (fun z346 => ?_) (fun z346 => ?_)
  · refine j_iconst (v := 0) h (by decide) dX12_isBox_13 ?_
    exact j_zret h hq rfl dX12_isBox_14 () [] rfl rfl (by decide) (by first | rfl | (unfold bBx; simp only [z346, ↓reduceIte]; done) | (subst_vars; decide)) (Nat.le_of_ble_eq_true rfl) (Nat.le_of_ble_eq_true rfl)
  · refine j_iload_n h 0 rfl rfl dX12_isBox_4 ?_
    refine j_iconst (v := 3) h (by decide) dX12_isBox_5 ?_
    refine j_icmp_ge h 13 dX12_isBox_6 (by decide) (fun z347 => ?_) (fun z347 => ?_)
    · refine j_iconst (v := 0) h (by decide) dX12_isBox_13 ?_
      exact j_zret h hq rfl dX12_isBox_14 () [] rfl rfl (by decide) (by first | rfl | (unfold bBx; simp only [z346, z347, ↓reduceIte]; done) | (subst_vars; decide)) (Nat.le_of_ble_eq_true rfl) (Nat.le_of_ble_eq_true rfl)
    · refine j_iconst (v := 1) h (by decide) dX12_isBox_9 ?_
      refine j_goto h 14 dX12_isBox_10 (by decide) ?_
      exact j_zret h hq rfl dX12_isBox_14 () [] rfl rfl (by decide) (by first | rfl | (unfold bBx; simp only [z346, z347, ↓reduceIte]; done) | (subst_vars; decide)) (Nat.le_of_ble_eq_true rfl) (Nat.le_of_ble_eq_true rfl)
set_option maxHeartbeats 4000000 in
set_option maxRecDepth 100000 in
theorem c_X12_four0 (l : Launch) (g : va_G) (kA : Nat → ClassId) (h0 : Nat) (m : Nat → Nat) (f : Nat → Int32) (v : Int32)  : CtV l yX12_four cX12_four 3 (none) 1 0 0 g kA [.ref h0, .int v] [(h0, .inr (12, (.ref (m 0) :: .int 0 :: .int 0 :: .int (-1) :: .int 0 :: .int 0 :: .int 0 :: .int 0 :: .int 0 :: .long 0 :: .ref (m 10) :: .ref (m 11) :: .ref (m 12) :: .ref (m 13) :: .ref (m 14) :: .ref (m 15) :: .ref (m 16) :: .ref (m 17) :: .ref (m 18) :: .ref (m 19) :: .ref (m 20) :: .ref (m 21) :: .ref (m 22) :: .ref (m 23) :: .ref (m 24) :: .int 0 :: .int 0 :: .int 0 :: .int 0 :: .int 0 :: .int 0 :: .ref (m 31) :: .ref (m 32) :: .ref (m 33) :: .ref (m 34) :: .ref (m 35) :: .int 0 :: .int 0 :: .int 0 :: .ref (m 39) :: .ref (m 40) :: .ref (m 41) :: .int 0 :: .ref (m 43) :: .ref (m 44) :: .ref (m 45) :: .ref (m 46) :: .ref (m 47) :: .ref (m 48) :: .int 0 :: .ref (m 50) :: .ref (m 51) :: .ref (m 52) :: .ref (m 53) :: .ref (m 54) :: .ref (m 55) :: .ref (m 56) :: .ref (m 57) :: .ref (m 58) :: .ref (m 59) :: .ref (m 60) :: .ref (m 61) :: .int 0 :: .int 0 :: .ref (m 64) :: .ref (m 65) :: .ref (m 66) :: .ref (m 67) :: .ref (m 68) :: .ref (m 69) :: []))), ((m 0), .inl (kA 1, 1600, .inl f))] (S := (Nat → Int32)) (fun (f1 : (Nat → Int32)) => True) (fun (f1 : (Nat → Int32)) => [(h0, .inr (12, (.ref (m 0) :: .int 4 :: .int 0 :: .int (-1) :: .int 0 :: .int 0 :: .int 0 :: .int 0 :: .int 0 :: .long 0 :: .ref (m 10) :: .ref (m 11) :: .ref (m 12) :: .ref (m 13) :: .ref (m 14) :: .ref (m 15) :: .ref (m 16) :: .ref (m 17) :: .ref (m 18) :: .ref (m 19) :: .ref (m 20) :: .ref (m 21) :: .ref (m 22) :: .ref (m 23) :: .ref (m 24) :: .int 0 :: .int 0 :: .int 0 :: .int 0 :: .int 0 :: .int 0 :: .ref (m 31) :: .ref (m 32) :: .ref (m 33) :: .ref (m 34) :: .ref (m 35) :: .int 0 :: .int 0 :: .int 0 :: .ref (m 39) :: .ref (m 40) :: .ref (m 41) :: .int 0 :: .ref (m 43) :: .ref (m 44) :: .ref (m 45) :: .ref (m 46) :: .ref (m 47) :: .ref (m 48) :: .int 0 :: .ref (m 50) :: .ref (m 51) :: .ref (m 52) :: .ref (m 53) :: .ref (m 54) :: .ref (m 55) :: .ref (m 56) :: .ref (m 57) :: .ref (m 58) :: .ref (m 59) :: .ref (m 60) :: .ref (m 61) :: .int 0 :: .int 0 :: .ref (m 64) :: .ref (m 65) :: .ref (m 66) :: .ref (m 67) :: .ref (m 68) :: .ref (m 69) :: []))), ((m 0), .inl (kA 1, 1600, .inl f1))]) := by
  refine nx_startV (by decide +kernel) (Nat.le_of_ble_eq_true rfl) ?_
  intro x hnm h hq
  have h : Ok x cX12_four RX12 kA (rmC 1 0 0) 3 := h
  show J x [(h0, .inr (12, (.ref (m 0) :: .int 0 :: .int 0 :: .int (-1) :: .int 0 :: .int 0 :: .int 0 :: .int 0 :: .int 0 :: .long 0 :: .ref (m 10) :: .ref (m 11) :: .ref (m 12) :: .ref (m 13) :: .ref (m 14) :: .ref (m 15) :: .ref (m 16) :: .ref (m 17) :: .ref (m 18) :: .ref (m 19) :: .ref (m 20) :: .ref (m 21) :: .ref (m 22) :: .ref (m 23) :: .ref (m 24) :: .int 0 :: .int 0 :: .int 0 :: .int 0 :: .int 0 :: .int 0 :: .ref (m 31) :: .ref (m 32) :: .ref (m 33) :: .ref (m 34) :: .ref (m 35) :: .int 0 :: .int 0 :: .int 0 :: .ref (m 39) :: .ref (m 40) :: .ref (m 41) :: .int 0 :: .ref (m 43) :: .ref (m 44) :: .ref (m 45) :: .ref (m 46) :: .ref (m 47) :: .ref (m 48) :: .int 0 :: .ref (m 50) :: .ref (m 51) :: .ref (m 52) :: .ref (m 53) :: .ref (m 54) :: .ref (m 55) :: .ref (m 56) :: .ref (m 57) :: .ref (m 58) :: .ref (m 59) :: .ref (m 60) :: .ref (m 61) :: .int 0 :: .int 0 :: .ref (m 64) :: .ref (m 65) :: .ref (m 66) :: .ref (m 67) :: .ref (m 68) :: .ref (m 69) :: []))), ((m 0), .inl (kA 1, 1600, .inl f))] [(0, .ref h0), (1, .int v)] 0 0 0 []
  refine j_bipush (v := 24) h (by decide) dX12_four_0 ?_
  refine j_istore_n (lv' := [(2, .int 24), (0, .ref h0), (1, .int v)]) h dX12_four_2 rfl (by decide) rfl ?_
  refine j_iload_n h 0 rfl rfl dX12_four_3 ?_
  refine j_if_lt h 39 dX12_four_4 (by decide) (fun q => absurd q (by decide)) (fun _ => ?_)
  refine j_aload_n h 1 rfl rfl dX12_four_7 ?_
  refine j_get h iw_X12 0 rfl rfl 0 (by decide) tw_1156 rfl dX12_four_8 ?_
  refine j_aload_n h 1 rfl rfl dX12_four_11 ?_
  refine j_get h iw_X12 0 rfl rfl 1 (by decide) tw_1157 rfl dX12_four_12 ?_
  refine j_iload_n h 2 rfl rfl dX12_four_15 ?_
  refine j_iload_n h 0 rfl rfl dX12_four_16 ?_
  refine j_ishr h dX12_four_17 ?_
  refine j_sipush (v := 255) h (by decide) dX12_four_18 ?_
  refine j_iand h dX12_four_21 ?_
  refine j_iast (ws' := [(h0, .inr (12, (.ref (m 0) :: .int 0 :: .int 0 :: .int (-1) :: .int 0 :: .int 0 :: .int 0 :: .int 0 :: .int 0 :: .long 0 :: .ref (m 10) :: .ref (m 11) :: .ref (m 12) :: .ref (m 13) :: .ref (m 14) :: .ref (m 15) :: .ref (m 16) :: .ref (m 17) :: .ref (m 18) :: .ref (m 19) :: .ref (m 20) :: .ref (m 21) :: .ref (m 22) :: .ref (m 23) :: .ref (m 24) :: .int 0 :: .int 0 :: .int 0 :: .int 0 :: .int 0 :: .int 0 :: .ref (m 31) :: .ref (m 32) :: .ref (m 33) :: .ref (m 34) :: .ref (m 35) :: .int 0 :: .int 0 :: .int 0 :: .ref (m 39) :: .ref (m 40) :: .ref (m 41) :: .int 0 :: .ref (m 43) :: .ref (m 44) :: .ref (m 45) :: .ref (m 46) :: .ref (m 47) :: .ref (m 48) :: .int 0 :: .ref (m 50) :: .ref (m 51) :: .ref (m 52) :: .ref (m 53) :: .ref (m 54) :: .ref (m 55) :: .ref (m 56) :: .ref (m 57) :: .ref (m 58) :: .ref (m 59) :: .ref (m 60) :: .ref (m 61) :: .int 0 :: .int 0 :: .ref (m 64) :: .ref (m 65) :: .ref (m 66) :: .ref (m 67) :: .ref (m 68) :: .ref (m 69) :: []))), ((m 0), .inl (kA 1, 1600, .inl (upd f 0 ((v >>> (24 &&& 31)) &&& 255))))]) h 1 rfl 0 (by decide) (by decide) (by decide) dX12_four_22 rfl ?_
  refine j_aload_n h 1 rfl rfl dX12_four_23 ?_
  refine j_dup h rfl dX12_four_24 ?_
  refine j_get h iw_X12 0 rfl rfl 1 (by decide) tw_1157 rfl dX12_four_25 ?_
  refine j_iconst (v := 1) h (by decide) dX12_four_28 ?_
  refine j_iadd h dX12_four_29 ?_
  refine j_top (b := 1) (by decide) ?_
  refine j_put (ws' := [(h0, .inr (12, (.ref (m 0) :: .int 1 :: .int 0 :: .int (-1) :: .int 0 :: .int 0 :: .int 0 :: .int 0 :: .int 0 :: .long 0 :: .ref (m 10) :: .ref (m 11) :: .ref (m 12) :: .ref (m 13) :: .ref (m 14) :: .ref (m 15) :: .ref (m 16) :: .ref (m 17) :: .ref (m 18) :: .ref (m 19) :: .ref (m 20) :: .ref (m 21) :: .ref (m 22) :: .ref (m 23) :: .ref (m 24) :: .int 0 :: .int 0 :: .int 0 :: .int 0 :: .int 0 :: .int 0 :: .ref (m 31) :: .ref (m 32) :: .ref (m 33) :: .ref (m 34) :: .ref (m 35) :: .int 0 :: .int 0 :: .int 0 :: .ref (m 39) :: .ref (m 40) :: .ref (m 41) :: .int 0 :: .ref (m 43) :: .ref (m 44) :: .ref (m 45) :: .ref (m 46) :: .ref (m 47) :: .ref (m 48) :: .int 0 :: .ref (m 50) :: .ref (m 51) :: .ref (m 52) :: .ref (m 53) :: .ref (m 54) :: .ref (m 55) :: .ref (m 56) :: .ref (m 57) :: .ref (m 58) :: .ref (m 59) :: .ref (m 60) :: .ref (m 61) :: .int 0 :: .int 0 :: .ref (m 64) :: .ref (m 65) :: .ref (m 66) :: .ref (m 67) :: .ref (m 68) :: .ref (m 69) :: []))), ((m 0), .inl (kA 1, 1600, .inl (upd f 0 ((v >>> (24 &&& 31)) &&& 255))))]) h iw_X12 tyX12 tyX12_ok nmX12 0 rfl rfl 1 (by decide) tw_1157 rfl rfl rfl (Nat.le_of_ble_eq_true rfl) dX12_four_30 rfl ?_
  refine j_iinc (v := 16) (lv' := [(2, .int 16), (0, .ref h0), (1, .int v)]) h dX12_four_33 0 rfl (by decide) (by decide) rfl ?_
  refine j_goto h 3 dX12_four_36 (by decide) ?_
  refine j_iload_n h 0 rfl rfl dX12_four_3 ?_
  refine j_if_lt h 39 dX12_four_4 (by decide) (fun q => absurd q (by decide)) (fun _ => ?_)
  refine j_aload_n h 1 rfl rfl dX12_four_7 ?_
  refine j_get h iw_X12 0 rfl rfl 0 (by decide) tw_1156 rfl dX12_four_8 ?_
  refine j_aload_n h 1 rfl rfl dX12_four_11 ?_
  refine j_get h iw_X12 0 rfl rfl 1 (by decide) tw_1157 rfl dX12_four_12 ?_
  refine j_iload_n h 2 rfl rfl dX12_four_15 ?_
  refine j_iload_n h 0 rfl rfl dX12_four_16 ?_
  refine j_ishr h dX12_four_17 ?_
  refine j_sipush (v := 255) h (by decide) dX12_four_18 ?_
  refine j_iand h dX12_four_21 ?_
  refine j_iast (ws' := [(h0, .inr (12, (.ref (m 0) :: .int 1 :: .int 0 :: .int (-1) :: .int 0 :: .int 0 :: .int 0 :: .int 0 :: .int 0 :: .long 0 :: .ref (m 10) :: .ref (m 11) :: .ref (m 12) :: .ref (m 13) :: .ref (m 14) :: .ref (m 15) :: .ref (m 16) :: .ref (m 17) :: .ref (m 18) :: .ref (m 19) :: .ref (m 20) :: .ref (m 21) :: .ref (m 22) :: .ref (m 23) :: .ref (m 24) :: .int 0 :: .int 0 :: .int 0 :: .int 0 :: .int 0 :: .int 0 :: .ref (m 31) :: .ref (m 32) :: .ref (m 33) :: .ref (m 34) :: .ref (m 35) :: .int 0 :: .int 0 :: .int 0 :: .ref (m 39) :: .ref (m 40) :: .ref (m 41) :: .int 0 :: .ref (m 43) :: .ref (m 44) :: .ref (m 45) :: .ref (m 46) :: .ref (m 47) :: .ref (m 48) :: .int 0 :: .ref (m 50) :: .ref (m 51) :: .ref (m 52) :: .ref (m 53) :: .ref (m 54) :: .ref (m 55) :: .ref (m 56) :: .ref (m 57) :: .ref (m 58) :: .ref (m 59) :: .ref (m 60) :: .ref (m 61) :: .int 0 :: .int 0 :: .ref (m 64) :: .ref (m 65) :: .ref (m 66) :: .ref (m 67) :: .ref (m 68) :: .ref (m 69) :: []))), ((m 0), .inl (kA 1, 1600, .inl (upd (upd f 0 ((v >>> (24 &&& 31)) &&& 255)) 1 ((v >>> (16 &&& 31)) &&& 255))))]) h 1 rfl 1 (by decide) (by decide) (by decide) dX12_four_22 rfl ?_
  refine j_aload_n h 1 rfl rfl dX12_four_23 ?_
  refine j_dup h rfl dX12_four_24 ?_
  refine j_get h iw_X12 0 rfl rfl 1 (by decide) tw_1157 rfl dX12_four_25 ?_
  refine j_iconst (v := 1) h (by decide) dX12_four_28 ?_
  refine j_iadd h dX12_four_29 ?_
  refine j_top (b := 2) (by decide) ?_
  refine j_put (ws' := [(h0, .inr (12, (.ref (m 0) :: .int 2 :: .int 0 :: .int (-1) :: .int 0 :: .int 0 :: .int 0 :: .int 0 :: .int 0 :: .long 0 :: .ref (m 10) :: .ref (m 11) :: .ref (m 12) :: .ref (m 13) :: .ref (m 14) :: .ref (m 15) :: .ref (m 16) :: .ref (m 17) :: .ref (m 18) :: .ref (m 19) :: .ref (m 20) :: .ref (m 21) :: .ref (m 22) :: .ref (m 23) :: .ref (m 24) :: .int 0 :: .int 0 :: .int 0 :: .int 0 :: .int 0 :: .int 0 :: .ref (m 31) :: .ref (m 32) :: .ref (m 33) :: .ref (m 34) :: .ref (m 35) :: .int 0 :: .int 0 :: .int 0 :: .ref (m 39) :: .ref (m 40) :: .ref (m 41) :: .int 0 :: .ref (m 43) :: .ref (m 44) :: .ref (m 45) :: .ref (m 46) :: .ref (m 47) :: .ref (m 48) :: .int 0 :: .ref (m 50) :: .ref (m 51) :: .ref (m 52) :: .ref (m 53) :: .ref (m 54) :: .ref (m 55) :: .ref (m 56) :: .ref (m 57) :: .ref (m 58) :: .ref (m 59) :: .ref (m 60) :: .ref (m 61) :: .int 0 :: .int 0 :: .ref (m 64) :: .ref (m 65) :: .ref (m 66) :: .ref (m 67) :: .ref (m 68) :: .ref (m 69) :: []))), ((m 0), .inl (kA 1, 1600, .inl (upd (upd f 0 ((v >>> (24 &&& 31)) &&& 255)) 1 ((v >>> (16 &&& 31)) &&& 255))))]) h iw_X12 tyX12 tyX12_ok nmX12 0 rfl rfl 1 (by decide) tw_1157 rfl rfl rfl (Nat.le_of_ble_eq_true rfl) dX12_four_30 rfl ?_
  refine j_iinc (v := 8) (lv' := [(2, .int 8), (0, .ref h0), (1, .int v)]) h dX12_four_33 0 rfl (by decide) (by decide) rfl ?_
  refine j_goto h 3 dX12_four_36 (by decide) ?_
  refine j_iload_n h 0 rfl rfl dX12_four_3 ?_
  refine j_if_lt h 39 dX12_four_4 (by decide) (fun q => absurd q (by decide)) (fun _ => ?_)
  refine j_aload_n h 1 rfl rfl dX12_four_7 ?_
  refine j_get h iw_X12 0 rfl rfl 0 (by decide) tw_1156 rfl dX12_four_8 ?_
  refine j_aload_n h 1 rfl rfl dX12_four_11 ?_
  refine j_get h iw_X12 0 rfl rfl 1 (by decide) tw_1157 rfl dX12_four_12 ?_
  refine j_iload_n h 2 rfl rfl dX12_four_15 ?_
  refine j_iload_n h 0 rfl rfl dX12_four_16 ?_
  refine j_ishr h dX12_four_17 ?_
  refine j_sipush (v := 255) h (by decide) dX12_four_18 ?_
  refine j_iand h dX12_four_21 ?_
  refine j_iast (ws' := [(h0, .inr (12, (.ref (m 0) :: .int 2 :: .int 0 :: .int (-1) :: .int 0 :: .int 0 :: .int 0 :: .int 0 :: .int 0 :: .long 0 :: .ref (m 10) :: .ref (m 11) :: .ref (m 12) :: .ref (m 13) :: .ref (m 14) :: .ref (m 15) :: .ref (m 16) :: .ref (m 17) :: .ref (m 18) :: .ref (m 19) :: .ref (m 20) :: .ref (m 21) :: .ref (m 22) :: .ref (m 23) :: .ref (m 24) :: .int 0 :: .int 0 :: .int 0 :: .int 0 :: .int 0 :: .int 0 :: .ref (m 31) :: .ref (m 32) :: .ref (m 33) :: .ref (m 34) :: .ref (m 35) :: .int 0 :: .int 0 :: .int 0 :: .ref (m 39) :: .ref (m 40) :: .ref (m 41) :: .int 0 :: .ref (m 43) :: .ref (m 44) :: .ref (m 45) :: .ref (m 46) :: .ref (m 47) :: .ref (m 48) :: .int 0 :: .ref (m 50) :: .ref (m 51) :: .ref (m 52) :: .ref (m 53) :: .ref (m 54) :: .ref (m 55) :: .ref (m 56) :: .ref (m 57) :: .ref (m 58) :: .ref (m 59) :: .ref (m 60) :: .ref (m 61) :: .int 0 :: .int 0 :: .ref (m 64) :: .ref (m 65) :: .ref (m 66) :: .ref (m 67) :: .ref (m 68) :: .ref (m 69) :: []))), ((m 0), .inl (kA 1, 1600, .inl (upd (upd (upd f 0 ((v >>> (24 &&& 31)) &&& 255)) 1 ((v >>> (16 &&& 31)) &&& 255)) 2 ((v >>> (8 &&& 31)) &&& 255))))]) h 1 rfl 2 (by decide) (by decide) (by decide) dX12_four_22 rfl ?_
  refine j_aload_n h 1 rfl rfl dX12_four_23 ?_
  refine j_dup h rfl dX12_four_24 ?_
  refine j_get h iw_X12 0 rfl rfl 1 (by decide) tw_1157 rfl dX12_four_25 ?_
  refine j_iconst (v := 1) h (by decide) dX12_four_28 ?_
  refine j_iadd h dX12_four_29 ?_
  refine j_top (b := 3) (by decide) ?_
  refine j_put (ws' := [(h0, .inr (12, (.ref (m 0) :: .int 3 :: .int 0 :: .int (-1) :: .int 0 :: .int 0 :: .int 0 :: .int 0 :: .int 0 :: .long 0 :: .ref (m 10) :: .ref (m 11) :: .ref (m 12) :: .ref (m 13) :: .ref (m 14) :: .ref (m 15) :: .ref (m 16) :: .ref (m 17) :: .ref (m 18) :: .ref (m 19) :: .ref (m 20) :: .ref (m 21) :: .ref (m 22) :: .ref (m 23) :: .ref (m 24) :: .int 0 :: .int 0 :: .int 0 :: .int 0 :: .int 0 :: .int 0 :: .ref (m 31) :: .ref (m 32) :: .ref (m 33) :: .ref (m 34) :: .ref (m 35) :: .int 0 :: .int 0 :: .int 0 :: .ref (m 39) :: .ref (m 40) :: .ref (m 41) :: .int 0 :: .ref (m 43) :: .ref (m 44) :: .ref (m 45) :: .ref (m 46) :: .ref (m 47) :: .ref (m 48) :: .int 0 :: .ref (m 50) :: .ref (m 51) :: .ref (m 52) :: .ref (m 53) :: .ref (m 54) :: .ref (m 55) :: .ref (m 56) :: .ref (m 57) :: .ref (m 58) :: .ref (m 59) :: .ref (m 60) :: .ref (m 61) :: .int 0 :: .int 0 :: .ref (m 64) :: .ref (m 65) :: .ref (m 66) :: .ref (m 67) :: .ref (m 68) :: .ref (m 69) :: []))), ((m 0), .inl (kA 1, 1600, .inl (upd (upd (upd f 0 ((v >>> (24 &&& 31)) &&& 255)) 1 ((v >>> (16 &&& 31)) &&& 255)) 2 ((v >>> (8 &&& 31)) &&& 255))))]) h iw_X12 tyX12 tyX12_ok nmX12 0 rfl rfl 1 (by decide) tw_1157 rfl rfl rfl (Nat.le_of_ble_eq_true rfl) dX12_four_30 rfl ?_
  refine j_iinc (v := 0) (lv' := [(2, .int 0), (0, .ref h0), (1, .int v)]) h dX12_four_33 0 rfl (by decide) (by decide) rfl ?_
  refine j_goto h 3 dX12_four_36 (by decide) ?_
  refine j_iload_n h 0 rfl rfl dX12_four_3 ?_
  refine j_if_lt h 39 dX12_four_4 (by decide) (fun q => absurd q (by decide)) (fun _ => ?_)
  refine j_aload_n h 1 rfl rfl dX12_four_7 ?_
  refine j_get h iw_X12 0 rfl rfl 0 (by decide) tw_1156 rfl dX12_four_8 ?_
  refine j_aload_n h 1 rfl rfl dX12_four_11 ?_
  refine j_get h iw_X12 0 rfl rfl 1 (by decide) tw_1157 rfl dX12_four_12 ?_
  refine j_iload_n h 2 rfl rfl dX12_four_15 ?_
  refine j_iload_n h 0 rfl rfl dX12_four_16 ?_
  refine j_ishr h dX12_four_17 ?_
  refine j_sipush (v := 255) h (by decide) dX12_four_18 ?_
  refine j_iand h dX12_four_21 ?_
  refine j_iast (ws' := [(h0, .inr (12, (.ref (m 0) :: .int 3 :: .int 0 :: .int (-1) :: .int 0 :: .int 0 :: .int 0 :: .int 0 :: .int 0 :: .long 0 :: .ref (m 10) :: .ref (m 11) :: .ref (m 12) :: .ref (m 13) :: .ref (m 14) :: .ref (m 15) :: .ref (m 16) :: .ref (m 17) :: .ref (m 18) :: .ref (m 19) :: .ref (m 20) :: .ref (m 21) :: .ref (m 22) :: .ref (m 23) :: .ref (m 24) :: .int 0 :: .int 0 :: .int 0 :: .int 0 :: .int 0 :: .int 0 :: .ref (m 31) :: .ref (m 32) :: .ref (m 33) :: .ref (m 34) :: .ref (m 35) :: .int 0 :: .int 0 :: .int 0 :: .ref (m 39) :: .ref (m 40) :: .ref (m 41) :: .int 0 :: .ref (m 43) :: .ref (m 44) :: .ref (m 45) :: .ref (m 46) :: .ref (m 47) :: .ref (m 48) :: .int 0 :: .ref (m 50) :: .ref (m 51) :: .ref (m 52) :: .ref (m 53) :: .ref (m 54) :: .ref (m 55) :: .ref (m 56) :: .ref (m 57) :: .ref (m 58) :: .ref (m 59) :: .ref (m 60) :: .ref (m 61) :: .int 0 :: .int 0 :: .ref (m 64) :: .ref (m 65) :: .ref (m 66) :: .ref (m 67) :: .ref (m 68) :: .ref (m 69) :: []))), ((m 0), .inl (kA 1, 1600, .inl (upd (upd (upd (upd f 0 ((v >>> (24 &&& 31)) &&& 255)) 1 ((v >>> (16 &&& 31)) &&& 255)) 2 ((v >>> (8 &&& 31)) &&& 255)) 3 ((v >>> (0 &&& 31)) &&& 255))))]) h 1 rfl 3 (by decide) (by decide) (by decide) dX12_four_22 rfl ?_
  refine j_aload_n h 1 rfl rfl dX12_four_23 ?_
  refine j_dup h rfl dX12_four_24 ?_
  refine j_get h iw_X12 0 rfl rfl 1 (by decide) tw_1157 rfl dX12_four_25 ?_
  refine j_iconst (v := 1) h (by decide) dX12_four_28 ?_
  refine j_iadd h dX12_four_29 ?_
  refine j_top (b := 4) (by decide) ?_
  refine j_put (ws' := [(h0, .inr (12, (.ref (m 0) :: .int 4 :: .int 0 :: .int (-1) :: .int 0 :: .int 0 :: .int 0 :: .int 0 :: .int 0 :: .long 0 :: .ref (m 10) :: .ref (m 11) :: .ref (m 12) :: .ref (m 13) :: .ref (m 14) :: .ref (m 15) :: .ref (m 16) :: .ref (m 17) :: .ref (m 18) :: .ref (m 19) :: .ref (m 20) :: .ref (m 21) :: .ref (m 22) :: .ref (m 23) :: .ref (m 24) :: .int 0 :: .int 0 :: .int 0 :: .int 0 :: .int 0 :: .int 0 :: .ref (m 31) :: .ref (m 32) :: .ref (m 33) :: .ref (m 34) :: .ref (m 35) :: .int 0 :: .int 0 :: .int 0 :: .ref (m 39) :: .ref (m 40) :: .ref (m 41) :: .int 0 :: .ref (m 43) :: .ref (m 44) :: .ref (m 45) :: .ref (m 46) :: .ref (m 47) :: .ref (m 48) :: .int 0 :: .ref (m 50) :: .ref (m 51) :: .ref (m 52) :: .ref (m 53) :: .ref (m 54) :: .ref (m 55) :: .ref (m 56) :: .ref (m 57) :: .ref (m 58) :: .ref (m 59) :: .ref (m 60) :: .ref (m 61) :: .int 0 :: .int 0 :: .ref (m 64) :: .ref (m 65) :: .ref (m 66) :: .ref (m 67) :: .ref (m 68) :: .ref (m 69) :: []))), ((m 0), .inl (kA 1, 1600, .inl (upd (upd (upd (upd f 0 ((v >>> (24 &&& 31)) &&& 255)) 1 ((v >>> (16 &&& 31)) &&& 255)) 2 ((v >>> (8 &&& 31)) &&& 255)) 3 ((v >>> (0 &&& 31)) &&& 255))))]) h iw_X12 tyX12 tyX12_ok nmX12 0 rfl rfl 1 (by decide) tw_1157 rfl rfl rfl (Nat.le_of_ble_eq_true rfl) dX12_four_30 rfl ?_
  refine j_iinc (v := (-8)) (lv' := [(2, .int (-8)), (0, .ref h0), (1, .int v)]) h dX12_four_33 0 rfl (by decide) (by decide) rfl ?_
  refine j_goto h 3 dX12_four_36 (by decide) ?_
  refine j_iload_n h 0 rfl rfl dX12_four_3 ?_
  refine j_if_lt h 39 dX12_four_4 (by decide) (fun _ => ?_) (fun q => absurd (by decide) q)
  exact j_vret h hq dX12_four_39 (upd (upd (upd (upd f 0 ((v >>> (24 &&& 31)) &&& 255)) 1 ((v >>> (16 &&& 31)) &&& 255)) 2 ((v >>> (8 &&& 31)) &&& 255)) 3 ((v >>> (0 &&& 31)) &&& 255)) [0, 1] rfl rfl (by decide) trivial (Nat.le_of_ble_eq_true rfl) (Nat.le_of_ble_eq_true rfl)
set_option maxHeartbeats 4000000 in
set_option maxRecDepth 100000 in
theorem c_X12_four4 (l : Launch) (g : va_G) (kA : Nat → ClassId) (h0 : Nat) (m : Nat → Nat) (f : Nat → Int32) (v : Int32)  : CtV l yX12_four cX12_four 3 (none) 1 0 0 g kA [.ref h0, .int v] [(h0, .inr (12, (.ref (m 0) :: .int 4 :: .int 0 :: .int (-1) :: .int 0 :: .int 0 :: .int 0 :: .int 0 :: .int 0 :: .long 0 :: .ref (m 10) :: .ref (m 11) :: .ref (m 12) :: .ref (m 13) :: .ref (m 14) :: .ref (m 15) :: .ref (m 16) :: .ref (m 17) :: .ref (m 18) :: .ref (m 19) :: .ref (m 20) :: .ref (m 21) :: .ref (m 22) :: .ref (m 23) :: .ref (m 24) :: .int 0 :: .int 0 :: .int 0 :: .int 0 :: .int 0 :: .int 0 :: .ref (m 31) :: .ref (m 32) :: .ref (m 33) :: .ref (m 34) :: .ref (m 35) :: .int 0 :: .int 0 :: .int 0 :: .ref (m 39) :: .ref (m 40) :: .ref (m 41) :: .int 0 :: .ref (m 43) :: .ref (m 44) :: .ref (m 45) :: .ref (m 46) :: .ref (m 47) :: .ref (m 48) :: .int 0 :: .ref (m 50) :: .ref (m 51) :: .ref (m 52) :: .ref (m 53) :: .ref (m 54) :: .ref (m 55) :: .ref (m 56) :: .ref (m 57) :: .ref (m 58) :: .ref (m 59) :: .ref (m 60) :: .ref (m 61) :: .int 0 :: .int 0 :: .ref (m 64) :: .ref (m 65) :: .ref (m 66) :: .ref (m 67) :: .ref (m 68) :: .ref (m 69) :: []))), ((m 0), .inl (kA 1, 1600, .inl f))] (S := (Nat → Int32)) (fun (f1 : (Nat → Int32)) => True) (fun (f1 : (Nat → Int32)) => [(h0, .inr (12, (.ref (m 0) :: .int 8 :: .int 0 :: .int (-1) :: .int 0 :: .int 0 :: .int 0 :: .int 0 :: .int 0 :: .long 0 :: .ref (m 10) :: .ref (m 11) :: .ref (m 12) :: .ref (m 13) :: .ref (m 14) :: .ref (m 15) :: .ref (m 16) :: .ref (m 17) :: .ref (m 18) :: .ref (m 19) :: .ref (m 20) :: .ref (m 21) :: .ref (m 22) :: .ref (m 23) :: .ref (m 24) :: .int 0 :: .int 0 :: .int 0 :: .int 0 :: .int 0 :: .int 0 :: .ref (m 31) :: .ref (m 32) :: .ref (m 33) :: .ref (m 34) :: .ref (m 35) :: .int 0 :: .int 0 :: .int 0 :: .ref (m 39) :: .ref (m 40) :: .ref (m 41) :: .int 0 :: .ref (m 43) :: .ref (m 44) :: .ref (m 45) :: .ref (m 46) :: .ref (m 47) :: .ref (m 48) :: .int 0 :: .ref (m 50) :: .ref (m 51) :: .ref (m 52) :: .ref (m 53) :: .ref (m 54) :: .ref (m 55) :: .ref (m 56) :: .ref (m 57) :: .ref (m 58) :: .ref (m 59) :: .ref (m 60) :: .ref (m 61) :: .int 0 :: .int 0 :: .ref (m 64) :: .ref (m 65) :: .ref (m 66) :: .ref (m 67) :: .ref (m 68) :: .ref (m 69) :: []))), ((m 0), .inl (kA 1, 1600, .inl f1))]) := by
  refine nx_startV (by decide +kernel) (Nat.le_of_ble_eq_true rfl) ?_
  intro x hnm h hq
  have h : Ok x cX12_four RX12 kA (rmC 1 0 0) 3 := h
  show J x [(h0, .inr (12, (.ref (m 0) :: .int 4 :: .int 0 :: .int (-1) :: .int 0 :: .int 0 :: .int 0 :: .int 0 :: .int 0 :: .long 0 :: .ref (m 10) :: .ref (m 11) :: .ref (m 12) :: .ref (m 13) :: .ref (m 14) :: .ref (m 15) :: .ref (m 16) :: .ref (m 17) :: .ref (m 18) :: .ref (m 19) :: .ref (m 20) :: .ref (m 21) :: .ref (m 22) :: .ref (m 23) :: .ref (m 24) :: .int 0 :: .int 0 :: .int 0 :: .int 0 :: .int 0 :: .int 0 :: .ref (m 31) :: .ref (m 32) :: .ref (m 33) :: .ref (m 34) :: .ref (m 35) :: .int 0 :: .int 0 :: .int 0 :: .ref (m 39) :: .ref (m 40) :: .ref (m 41) :: .int 0 :: .ref (m 43) :: .ref (m 44) :: .ref (m 45) :: .ref (m 46) :: .ref (m 47) :: .ref (m 48) :: .int 0 :: .ref (m 50) :: .ref (m 51) :: .ref (m 52) :: .ref (m 53) :: .ref (m 54) :: .ref (m 55) :: .ref (m 56) :: .ref (m 57) :: .ref (m 58) :: .ref (m 59) :: .ref (m 60) :: .ref (m 61) :: .int 0 :: .int 0 :: .ref (m 64) :: .ref (m 65) :: .ref (m 66) :: .ref (m 67) :: .ref (m 68) :: .ref (m 69) :: []))), ((m 0), .inl (kA 1, 1600, .inl f))] [(0, .ref h0), (1, .int v)] 0 0 0 []
  refine j_bipush (v := 24) h (by decide) dX12_four_0 ?_
  refine j_istore_n (lv' := [(2, .int 24), (0, .ref h0), (1, .int v)]) h dX12_four_2 rfl (by decide) rfl ?_
  refine j_iload_n h 0 rfl rfl dX12_four_3 ?_
  refine j_if_lt h 39 dX12_four_4 (by decide) (fun q => absurd q (by decide)) (fun _ => ?_)
  refine j_aload_n h 1 rfl rfl dX12_four_7 ?_
  refine j_get h iw_X12 0 rfl rfl 0 (by decide) tw_1156 rfl dX12_four_8 ?_
  refine j_aload_n h 1 rfl rfl dX12_four_11 ?_
  refine j_get h iw_X12 0 rfl rfl 1 (by decide) tw_1157 rfl dX12_four_12 ?_
  refine j_iload_n h 2 rfl rfl dX12_four_15 ?_
  refine j_iload_n h 0 rfl rfl dX12_four_16 ?_
  refine j_ishr h dX12_four_17 ?_
  refine j_sipush (v := 255) h (by decide) dX12_four_18 ?_
  refine j_iand h dX12_four_21 ?_
  refine j_iast (ws' := [(h0, .inr (12, (.ref (m 0) :: .int 4 :: .int 0 :: .int (-1) :: .int 0 :: .int 0 :: .int 0 :: .int 0 :: .int 0 :: .long 0 :: .ref (m 10) :: .ref (m 11) :: .ref (m 12) :: .ref (m 13) :: .ref (m 14) :: .ref (m 15) :: .ref (m 16) :: .ref (m 17) :: .ref (m 18) :: .ref (m 19) :: .ref (m 20) :: .ref (m 21) :: .ref (m 22) :: .ref (m 23) :: .ref (m 24) :: .int 0 :: .int 0 :: .int 0 :: .int 0 :: .int 0 :: .int 0 :: .ref (m 31) :: .ref (m 32) :: .ref (m 33) :: .ref (m 34) :: .ref (m 35) :: .int 0 :: .int 0 :: .int 0 :: .ref (m 39) :: .ref (m 40) :: .ref (m 41) :: .int 0 :: .ref (m 43) :: .ref (m 44) :: .ref (m 45) :: .ref (m 46) :: .ref (m 47) :: .ref (m 48) :: .int 0 :: .ref (m 50) :: .ref (m 51) :: .ref (m 52) :: .ref (m 53) :: .ref (m 54) :: .ref (m 55) :: .ref (m 56) :: .ref (m 57) :: .ref (m 58) :: .ref (m 59) :: .ref (m 60) :: .ref (m 61) :: .int 0 :: .int 0 :: .ref (m 64) :: .ref (m 65) :: .ref (m 66) :: .ref (m 67) :: .ref (m 68) :: .ref (m 69) :: []))), ((m 0), .inl (kA 1, 1600, .inl (upd f 4 ((v >>> (24 &&& 31)) &&& 255))))]) h 1 rfl 4 (by decide) (by decide) (by decide) dX12_four_22 rfl ?_
  refine j_aload_n h 1 rfl rfl dX12_four_23 ?_
  refine j_dup h rfl dX12_four_24 ?_
  refine j_get h iw_X12 0 rfl rfl 1 (by decide) tw_1157 rfl dX12_four_25 ?_
  refine j_iconst (v := 1) h (by decide) dX12_four_28 ?_
  refine j_iadd h dX12_four_29 ?_
  refine j_top (b := 5) (by decide) ?_
  refine j_put (ws' := [(h0, .inr (12, (.ref (m 0) :: .int 5 :: .int 0 :: .int (-1) :: .int 0 :: .int 0 :: .int 0 :: .int 0 :: .int 0 :: .long 0 :: .ref (m 10) :: .ref (m 11) :: .ref (m 12) :: .ref (m 13) :: .ref (m 14) :: .ref (m 15) :: .ref (m 16) :: .ref (m 17) :: .ref (m 18) :: .ref (m 19) :: .ref (m 20) :: .ref (m 21) :: .ref (m 22) :: .ref (m 23) :: .ref (m 24) :: .int 0 :: .int 0 :: .int 0 :: .int 0 :: .int 0 :: .int 0 :: .ref (m 31) :: .ref (m 32) :: .ref (m 33) :: .ref (m 34) :: .ref (m 35) :: .int 0 :: .int 0 :: .int 0 :: .ref (m 39) :: .ref (m 40) :: .ref (m 41) :: .int 0 :: .ref (m 43) :: .ref (m 44) :: .ref (m 45) :: .ref (m 46) :: .ref (m 47) :: .ref (m 48) :: .int 0 :: .ref (m 50) :: .ref (m 51) :: .ref (m 52) :: .ref (m 53) :: .ref (m 54) :: .ref (m 55) :: .ref (m 56) :: .ref (m 57) :: .ref (m 58) :: .ref (m 59) :: .ref (m 60) :: .ref (m 61) :: .int 0 :: .int 0 :: .ref (m 64) :: .ref (m 65) :: .ref (m 66) :: .ref (m 67) :: .ref (m 68) :: .ref (m 69) :: []))), ((m 0), .inl (kA 1, 1600, .inl (upd f 4 ((v >>> (24 &&& 31)) &&& 255))))]) h iw_X12 tyX12 tyX12_ok nmX12 0 rfl rfl 1 (by decide) tw_1157 rfl rfl rfl (Nat.le_of_ble_eq_true rfl) dX12_four_30 rfl ?_
  refine j_iinc (v := 16) (lv' := [(2, .int 16), (0, .ref h0), (1, .int v)]) h dX12_four_33 0 rfl (by decide) (by decide) rfl ?_
  refine j_goto h 3 dX12_four_36 (by decide) ?_
  refine j_iload_n h 0 rfl rfl dX12_four_3 ?_
  refine j_if_lt h 39 dX12_four_4 (by decide) (fun q => absurd q (by decide)) (fun _ => ?_)
  refine j_aload_n h 1 rfl rfl dX12_four_7 ?_
  refine j_get h iw_X12 0 rfl rfl 0 (by decide) tw_1156 rfl dX12_four_8 ?_
  refine j_aload_n h 1 rfl rfl dX12_four_11 ?_
  refine j_get h iw_X12 0 rfl rfl 1 (by decide) tw_1157 rfl dX12_four_12 ?_
  refine j_iload_n h 2 rfl rfl dX12_four_15 ?_
  refine j_iload_n h 0 rfl rfl dX12_four_16 ?_
  refine j_ishr h dX12_four_17 ?_
  refine j_sipush (v := 255) h (by decide) dX12_four_18 ?_
  refine j_iand h dX12_four_21 ?_
  refine j_iast (ws' := [(h0, .inr (12, (.ref (m 0) :: .int 5 :: .int 0 :: .int (-1) :: .int 0 :: .int 0 :: .int 0 :: .int 0 :: .int 0 :: .long 0 :: .ref (m 10) :: .ref (m 11) :: .ref (m 12) :: .ref (m 13) :: .ref (m 14) :: .ref (m 15) :: .ref (m 16) :: .ref (m 17) :: .ref (m 18) :: .ref (m 19) :: .ref (m 20) :: .ref (m 21) :: .ref (m 22) :: .ref (m 23) :: .ref (m 24) :: .int 0 :: .int 0 :: .int 0 :: .int 0 :: .int 0 :: .int 0 :: .ref (m 31) :: .ref (m 32) :: .ref (m 33) :: .ref (m 34) :: .ref (m 35) :: .int 0 :: .int 0 :: .int 0 :: .ref (m 39) :: .ref (m 40) :: .ref (m 41) :: .int 0 :: .ref (m 43) :: .ref (m 44) :: .ref (m 45) :: .ref (m 46) :: .ref (m 47) :: .ref (m 48) :: .int 0 :: .ref (m 50) :: .ref (m 51) :: .ref (m 52) :: .ref (m 53) :: .ref (m 54) :: .ref (m 55) :: .ref (m 56) :: .ref (m 57) :: .ref (m 58) :: .ref (m 59) :: .ref (m 60) :: .ref (m 61) :: .int 0 :: .int 0 :: .ref (m 64) :: .ref (m 65) :: .ref (m 66) :: .ref (m 67) :: .ref (m 68) :: .ref (m 69) :: []))), ((m 0), .inl (kA 1, 1600, .inl (upd (upd f 4 ((v >>> (24 &&& 31)) &&& 255)) 5 ((v >>> (16 &&& 31)) &&& 255))))]) h 1 rfl 5 (by decide) (by decide) (by decide) dX12_four_22 rfl ?_
  refine j_aload_n h 1 rfl rfl dX12_four_23 ?_
  refine j_dup h rfl dX12_four_24 ?_
  refine j_get h iw_X12 0 rfl rfl 1 (by decide) tw_1157 rfl dX12_four_25 ?_
  refine j_iconst (v := 1) h (by decide) dX12_four_28 ?_
  refine j_iadd h dX12_four_29 ?_
  refine j_top (b := 6) (by decide) ?_
  refine j_put (ws' := [(h0, .inr (12, (.ref (m 0) :: .int 6 :: .int 0 :: .int (-1) :: .int 0 :: .int 0 :: .int 0 :: .int 0 :: .int 0 :: .long 0 :: .ref (m 10) :: .ref (m 11) :: .ref (m 12) :: .ref (m 13) :: .ref (m 14) :: .ref (m 15) :: .ref (m 16) :: .ref (m 17) :: .ref (m 18) :: .ref (m 19) :: .ref (m 20) :: .ref (m 21) :: .ref (m 22) :: .ref (m 23) :: .ref (m 24) :: .int 0 :: .int 0 :: .int 0 :: .int 0 :: .int 0 :: .int 0 :: .ref (m 31) :: .ref (m 32) :: .ref (m 33) :: .ref (m 34) :: .ref (m 35) :: .int 0 :: .int 0 :: .int 0 :: .ref (m 39) :: .ref (m 40) :: .ref (m 41) :: .int 0 :: .ref (m 43) :: .ref (m 44) :: .ref (m 45) :: .ref (m 46) :: .ref (m 47) :: .ref (m 48) :: .int 0 :: .ref (m 50) :: .ref (m 51) :: .ref (m 52) :: .ref (m 53) :: .ref (m 54) :: .ref (m 55) :: .ref (m 56) :: .ref (m 57) :: .ref (m 58) :: .ref (m 59) :: .ref (m 60) :: .ref (m 61) :: .int 0 :: .int 0 :: .ref (m 64) :: .ref (m 65) :: .ref (m 66) :: .ref (m 67) :: .ref (m 68) :: .ref (m 69) :: []))), ((m 0), .inl (kA 1, 1600, .inl (upd (upd f 4 ((v >>> (24 &&& 31)) &&& 255)) 5 ((v >>> (16 &&& 31)) &&& 255))))]) h iw_X12 tyX12 tyX12_ok nmX12 0 rfl rfl 1 (by decide) tw_1157 rfl rfl rfl (Nat.le_of_ble_eq_true rfl) dX12_four_30 rfl ?_
  refine j_iinc (v := 8) (lv' := [(2, .int 8), (0, .ref h0), (1, .int v)]) h dX12_four_33 0 rfl (by decide) (by decide) rfl ?_
  refine j_goto h 3 dX12_four_36 (by decide) ?_
  refine j_iload_n h 0 rfl rfl dX12_four_3 ?_
  refine j_if_lt h 39 dX12_four_4 (by decide) (fun q => absurd q (by decide)) (fun _ => ?_)
  refine j_aload_n h 1 rfl rfl dX12_four_7 ?_
  refine j_get h iw_X12 0 rfl rfl 0 (by decide) tw_1156 rfl dX12_four_8 ?_
  refine j_aload_n h 1 rfl rfl dX12_four_11 ?_
  refine j_get h iw_X12 0 rfl rfl 1 (by decide) tw_1157 rfl dX12_four_12 ?_
  refine j_iload_n h 2 rfl rfl dX12_four_15 ?_
  refine j_iload_n h 0 rfl rfl dX12_four_16 ?_
  refine j_ishr h dX12_four_17 ?_
  refine j_sipush (v := 255) h (by decide) dX12_four_18 ?_
  refine j_iand h dX12_four_21 ?_
  refine j_iast (ws' := [(h0, .inr (12, (.ref (m 0) :: .int 6 :: .int 0 :: .int (-1) :: .int 0 :: .int 0 :: .int 0 :: .int 0 :: .int 0 :: .long 0 :: .ref (m 10) :: .ref (m 11) :: .ref (m 12) :: .ref (m 13) :: .ref (m 14) :: .ref (m 15) :: .ref (m 16) :: .ref (m 17) :: .ref (m 18) :: .ref (m 19) :: .ref (m 20) :: .ref (m 21) :: .ref (m 22) :: .ref (m 23) :: .ref (m 24) :: .int 0 :: .int 0 :: .int 0 :: .int 0 :: .int 0 :: .int 0 :: .ref (m 31) :: .ref (m 32) :: .ref (m 33) :: .ref (m 34) :: .ref (m 35) :: .int 0 :: .int 0 :: .int 0 :: .ref (m 39) :: .ref (m 40) :: .ref (m 41) :: .int 0 :: .ref (m 43) :: .ref (m 44) :: .ref (m 45) :: .ref (m 46) :: .ref (m 47) :: .ref (m 48) :: .int 0 :: .ref (m 50) :: .ref (m 51) :: .ref (m 52) :: .ref (m 53) :: .ref (m 54) :: .ref (m 55) :: .ref (m 56) :: .ref (m 57) :: .ref (m 58) :: .ref (m 59) :: .ref (m 60) :: .ref (m 61) :: .int 0 :: .int 0 :: .ref (m 64) :: .ref (m 65) :: .ref (m 66) :: .ref (m 67) :: .ref (m 68) :: .ref (m 69) :: []))), ((m 0), .inl (kA 1, 1600, .inl (upd (upd (upd f 4 ((v >>> (24 &&& 31)) &&& 255)) 5 ((v >>> (16 &&& 31)) &&& 255)) 6 ((v >>> (8 &&& 31)) &&& 255))))]) h 1 rfl 6 (by decide) (by decide) (by decide) dX12_four_22 rfl ?_
  refine j_aload_n h 1 rfl rfl dX12_four_23 ?_
  refine j_dup h rfl dX12_four_24 ?_
  refine j_get h iw_X12 0 rfl rfl 1 (by decide) tw_1157 rfl dX12_four_25 ?_
  refine j_iconst (v := 1) h (by decide) dX12_four_28 ?_
  refine j_iadd h dX12_four_29 ?_
  refine j_top (b := 7) (by decide) ?_
  refine j_put (ws' := [(h0, .inr (12, (.ref (m 0) :: .int 7 :: .int 0 :: .int (-1) :: .int 0 :: .int 0 :: .int 0 :: .int 0 :: .int 0 :: .long 0 :: .ref (m 10) :: .ref (m 11) :: .ref (m 12) :: .ref (m 13) :: .ref (m 14) :: .ref (m 15) :: .ref (m 16) :: .ref (m 17) :: .ref (m 18) :: .ref (m 19) :: .ref (m 20) :: .ref (m 21) :: .ref (m 22) :: .ref (m 23) :: .ref (m 24) :: .int 0 :: .int 0 :: .int 0 :: .int 0 :: .int 0 :: .int 0 :: .ref (m 31) :: .ref (m 32) :: .ref (m 33) :: .ref (m 34) :: .ref (m 35) :: .int 0 :: .int 0 :: .int 0 :: .ref (m 39) :: .ref (m 40) :: .ref (m 41) :: .int 0 :: .ref (m 43) :: .ref (m 44) :: .ref (m 45) :: .ref (m 46) :: .ref (m 47) :: .ref (m 48) :: .int 0 :: .ref (m 50) :: .ref (m 51) :: .ref (m 52) :: .ref (m 53) :: .ref (m 54) :: .ref (m 55) :: .ref (m 56) :: .ref (m 57) :: .ref (m 58) :: .ref (m 59) :: .ref (m 60) :: .ref (m 61) :: .int 0 :: .int 0 :: .ref (m 64) :: .ref (m 65) :: .ref (m 66) :: .ref (m 67) :: .ref (m 68) :: .ref (m 69) :: []))), ((m 0), .inl (kA 1, 1600, .inl (upd (upd (upd f 4 ((v >>> (24 &&& 31)) &&& 255)) 5 ((v >>> (16 &&& 31)) &&& 255)) 6 ((v >>> (8 &&& 31)) &&& 255))))]) h iw_X12 tyX12 tyX12_ok nmX12 0 rfl rfl 1 (by decide) tw_1157 rfl rfl rfl (Nat.le_of_ble_eq_true rfl) dX12_four_30 rfl ?_
  refine j_iinc (v := 0) (lv' := [(2, .int 0), (0, .ref h0), (1, .int v)]) h dX12_four_33 0 rfl (by decide) (by decide) rfl ?_
  refine j_goto h 3 dX12_four_36 (by decide) ?_
  refine j_iload_n h 0 rfl rfl dX12_four_3 ?_
  refine j_if_lt h 39 dX12_four_4 (by decide) (fun q => absurd q (by decide)) (fun _ => ?_)
  refine j_aload_n h 1 rfl rfl dX12_four_7 ?_
  refine j_get h iw_X12 0 rfl rfl 0 (by decide) tw_1156 rfl dX12_four_8 ?_
  refine j_aload_n h 1 rfl rfl dX12_four_11 ?_
  refine j_get h iw_X12 0 rfl rfl 1 (by decide) tw_1157 rfl dX12_four_12 ?_
  refine j_iload_n h 2 rfl rfl dX12_four_15 ?_
  refine j_iload_n h 0 rfl rfl dX12_four_16 ?_
  refine j_ishr h dX12_four_17 ?_
  refine j_sipush (v := 255) h (by decide) dX12_four_18 ?_
  refine j_iand h dX12_four_21 ?_
  refine j_iast (ws' := [(h0, .inr (12, (.ref (m 0) :: .int 7 :: .int 0 :: .int (-1) :: .int 0 :: .int 0 :: .int 0 :: .int 0 :: .int 0 :: .long 0 :: .ref (m 10) :: .ref (m 11) :: .ref (m 12) :: .ref (m 13) :: .ref (m 14) :: .ref (m 15) :: .ref (m 16) :: .ref (m 17) :: .ref (m 18) :: .ref (m 19) :: .ref (m 20) :: .ref (m 21) :: .ref (m 22) :: .ref (m 23) :: .ref (m 24) :: .int 0 :: .int 0 :: .int 0 :: .int 0 :: .int 0 :: .int 0 :: .ref (m 31) :: .ref (m 32) :: .ref (m 33) :: .ref (m 34) :: .ref (m 35) :: .int 0 :: .int 0 :: .int 0 :: .ref (m 39) :: .ref (m 40) :: .ref (m 41) :: .int 0 :: .ref (m 43) :: .ref (m 44) :: .ref (m 45) :: .ref (m 46) :: .ref (m 47) :: .ref (m 48) :: .int 0 :: .ref (m 50) :: .ref (m 51) :: .ref (m 52) :: .ref (m 53) :: .ref (m 54) :: .ref (m 55) :: .ref (m 56) :: .ref (m 57) :: .ref (m 58) :: .ref (m 59) :: .ref (m 60) :: .ref (m 61) :: .int 0 :: .int 0 :: .ref (m 64) :: .ref (m 65) :: .ref (m 66) :: .ref (m 67) :: .ref (m 68) :: .ref (m 69) :: []))), ((m 0), .inl (kA 1, 1600, .inl (upd (upd (upd (upd f 4 ((v >>> (24 &&& 31)) &&& 255)) 5 ((v >>> (16 &&& 31)) &&& 255)) 6 ((v >>> (8 &&& 31)) &&& 255)) 7 ((v >>> (0 &&& 31)) &&& 255))))]) h 1 rfl 7 (by decide) (by decide) (by decide) dX12_four_22 rfl ?_
  refine j_aload_n h 1 rfl rfl dX12_four_23 ?_
  refine j_dup h rfl dX12_four_24 ?_
  refine j_get h iw_X12 0 rfl rfl 1 (by decide) tw_1157 rfl dX12_four_25 ?_
  refine j_iconst (v := 1) h (by decide) dX12_four_28 ?_
  refine j_iadd h dX12_four_29 ?_
  refine j_top (b := 8) (by decide) ?_
  refine j_put (ws' := [(h0, .inr (12, (.ref (m 0) :: .int 8 :: .int 0 :: .int (-1) :: .int 0 :: .int 0 :: .int 0 :: .int 0 :: .int 0 :: .long 0 :: .ref (m 10) :: .ref (m 11) :: .ref (m 12) :: .ref (m 13) :: .ref (m 14) :: .ref (m 15) :: .ref (m 16) :: .ref (m 17) :: .ref (m 18) :: .ref (m 19) :: .ref (m 20) :: .ref (m 21) :: .ref (m 22) :: .ref (m 23) :: .ref (m 24) :: .int 0 :: .int 0 :: .int 0 :: .int 0 :: .int 0 :: .int 0 :: .ref (m 31) :: .ref (m 32) :: .ref (m 33) :: .ref (m 34) :: .ref (m 35) :: .int 0 :: .int 0 :: .int 0 :: .ref (m 39) :: .ref (m 40) :: .ref (m 41) :: .int 0 :: .ref (m 43) :: .ref (m 44) :: .ref (m 45) :: .ref (m 46) :: .ref (m 47) :: .ref (m 48) :: .int 0 :: .ref (m 50) :: .ref (m 51) :: .ref (m 52) :: .ref (m 53) :: .ref (m 54) :: .ref (m 55) :: .ref (m 56) :: .ref (m 57) :: .ref (m 58) :: .ref (m 59) :: .ref (m 60) :: .ref (m 61) :: .int 0 :: .int 0 :: .ref (m 64) :: .ref (m 65) :: .ref (m 66) :: .ref (m 67) :: .ref (m 68) :: .ref (m 69) :: []))), ((m 0), .inl (kA 1, 1600, .inl (upd (upd (upd (upd f 4 ((v >>> (24 &&& 31)) &&& 255)) 5 ((v >>> (16 &&& 31)) &&& 255)) 6 ((v >>> (8 &&& 31)) &&& 255)) 7 ((v >>> (0 &&& 31)) &&& 255))))]) h iw_X12 tyX12 tyX12_ok nmX12 0 rfl rfl 1 (by decide) tw_1157 rfl rfl rfl (Nat.le_of_ble_eq_true rfl) dX12_four_30 rfl ?_
  refine j_iinc (v := (-8)) (lv' := [(2, .int (-8)), (0, .ref h0), (1, .int v)]) h dX12_four_33 0 rfl (by decide) (by decide) rfl ?_
  refine j_goto h 3 dX12_four_36 (by decide) ?_
  refine j_iload_n h 0 rfl rfl dX12_four_3 ?_
  refine j_if_lt h 39 dX12_four_4 (by decide) (fun _ => ?_) (fun q => absurd (by decide) q)
  exact j_vret h hq dX12_four_39 (upd (upd (upd (upd f 4 ((v >>> (24 &&& 31)) &&& 255)) 5 ((v >>> (16 &&& 31)) &&& 255)) 6 ((v >>> (8 &&& 31)) &&& 255)) 7 ((v >>> (0 &&& 31)) &&& 255)) [0, 1] rfl rfl (by decide) trivial (Nat.le_of_ble_eq_true rfl) (Nat.le_of_ble_eq_true rfl)
set_option maxHeartbeats 4000000 in
set_option maxRecDepth 100000 in
theorem c_X12_four8 (l : Launch) (g : va_G) (kA : Nat → ClassId) (h0 : Nat) (m : Nat → Nat) (f : Nat → Int32) (v : Int32)  : CtV l yX12_four cX12_four 3 (none) 1 0 0 g kA [.ref h0, .int v] [(h0, .inr (12, (.ref (m 0) :: .int 8 :: .int 0 :: .int (-1) :: .int 0 :: .int 0 :: .int 0 :: .int 0 :: .int 0 :: .long 0 :: .ref (m 10) :: .ref (m 11) :: .ref (m 12) :: .ref (m 13) :: .ref (m 14) :: .ref (m 15) :: .ref (m 16) :: .ref (m 17) :: .ref (m 18) :: .ref (m 19) :: .ref (m 20) :: .ref (m 21) :: .ref (m 22) :: .ref (m 23) :: .ref (m 24) :: .int 0 :: .int 0 :: .int 0 :: .int 0 :: .int 0 :: .int 0 :: .ref (m 31) :: .ref (m 32) :: .ref (m 33) :: .ref (m 34) :: .ref (m 35) :: .int 0 :: .int 0 :: .int 0 :: .ref (m 39) :: .ref (m 40) :: .ref (m 41) :: .int 0 :: .ref (m 43) :: .ref (m 44) :: .ref (m 45) :: .ref (m 46) :: .ref (m 47) :: .ref (m 48) :: .int 0 :: .ref (m 50) :: .ref (m 51) :: .ref (m 52) :: .ref (m 53) :: .ref (m 54) :: .ref (m 55) :: .ref (m 56) :: .ref (m 57) :: .ref (m 58) :: .ref (m 59) :: .ref (m 60) :: .ref (m 61) :: .int 0 :: .int 0 :: .ref (m 64) :: .ref (m 65) :: .ref (m 66) :: .ref (m 67) :: .ref (m 68) :: .ref (m 69) :: []))), ((m 0), .inl (kA 1, 1600, .inl f))] (S := (Nat → Int32)) (fun (f1 : (Nat → Int32)) => True) (fun (f1 : (Nat → Int32)) => [(h0, .inr (12, (.ref (m 0) :: .int 12 :: .int 0 :: .int (-1) :: .int 0 :: .int 0 :: .int 0 :: .int 0 :: .int 0 :: .long 0 :: .ref (m 10) :: .ref (m 11) :: .ref (m 12) :: .ref (m 13) :: .ref (m 14) :: .ref (m 15) :: .ref (m 16) :: .ref (m 17) :: .ref (m 18) :: .ref (m 19) :: .ref (m 20) :: .ref (m 21) :: .ref (m 22) :: .ref (m 23) :: .ref (m 24) :: .int 0 :: .int 0 :: .int 0 :: .int 0 :: .int 0 :: .int 0 :: .ref (m 31) :: .ref (m 32) :: .ref (m 33) :: .ref (m 34) :: .ref (m 35) :: .int 0 :: .int 0 :: .int 0 :: .ref (m 39) :: .ref (m 40) :: .ref (m 41) :: .int 0 :: .ref (m 43) :: .ref (m 44) :: .ref (m 45) :: .ref (m 46) :: .ref (m 47) :: .ref (m 48) :: .int 0 :: .ref (m 50) :: .ref (m 51) :: .ref (m 52) :: .ref (m 53) :: .ref (m 54) :: .ref (m 55) :: .ref (m 56) :: .ref (m 57) :: .ref (m 58) :: .ref (m 59) :: .ref (m 60) :: .ref (m 61) :: .int 0 :: .int 0 :: .ref (m 64) :: .ref (m 65) :: .ref (m 66) :: .ref (m 67) :: .ref (m 68) :: .ref (m 69) :: []))), ((m 0), .inl (kA 1, 1600, .inl f1))]) := by
  refine nx_startV (by decide +kernel) (Nat.le_of_ble_eq_true rfl) ?_
  intro x hnm h hq
  have h : Ok x cX12_four RX12 kA (rmC 1 0 0) 3 := h
  show J x [(h0, .inr (12, (.ref (m 0) :: .int 8 :: .int 0 :: .int (-1) :: .int 0 :: .int 0 :: .int 0 :: .int 0 :: .int 0 :: .long 0 :: .ref (m 10) :: .ref (m 11) :: .ref (m 12) :: .ref (m 13) :: .ref (m 14) :: .ref (m 15) :: .ref (m 16) :: .ref (m 17) :: .ref (m 18) :: .ref (m 19) :: .ref (m 20) :: .ref (m 21) :: .ref (m 22) :: .ref (m 23) :: .ref (m 24) :: .int 0 :: .int 0 :: .int 0 :: .int 0 :: .int 0 :: .int 0 :: .ref (m 31) :: .ref (m 32) :: .ref (m 33) :: .ref (m 34) :: .ref (m 35) :: .int 0 :: .int 0 :: .int 0 :: .ref (m 39) :: .ref (m 40) :: .ref (m 41) :: .int 0 :: .ref (m 43) :: .ref (m 44) :: .ref (m 45) :: .ref (m 46) :: .ref (m 47) :: .ref (m 48) :: .int 0 :: .ref (m 50) :: .ref (m 51) :: .ref (m 52) :: .ref (m 53) :: .ref (m 54) :: .ref (m 55) :: .ref (m 56) :: .ref (m 57) :: .ref (m 58) :: .ref (m 59) :: .ref (m 60) :: .ref (m 61) :: .int 0 :: .int 0 :: .ref (m 64) :: .ref (m 65) :: .ref (m 66) :: .ref (m 67) :: .ref (m 68) :: .ref (m 69) :: []))), ((m 0), .inl (kA 1, 1600, .inl f))] [(0, .ref h0), (1, .int v)] 0 0 0 []
  refine j_bipush (v := 24) h (by decide) dX12_four_0 ?_
  refine j_istore_n (lv' := [(2, .int 24), (0, .ref h0), (1, .int v)]) h dX12_four_2 rfl (by decide) rfl ?_
  refine j_iload_n h 0 rfl rfl dX12_four_3 ?_
  refine j_if_lt h 39 dX12_four_4 (by decide) (fun q => absurd q (by decide)) (fun _ => ?_)
  refine j_aload_n h 1 rfl rfl dX12_four_7 ?_
  refine j_get h iw_X12 0 rfl rfl 0 (by decide) tw_1156 rfl dX12_four_8 ?_
  refine j_aload_n h 1 rfl rfl dX12_four_11 ?_
  refine j_get h iw_X12 0 rfl rfl 1 (by decide) tw_1157 rfl dX12_four_12 ?_
  refine j_iload_n h 2 rfl rfl dX12_four_15 ?_
  refine j_iload_n h 0 rfl rfl dX12_four_16 ?_
  refine j_ishr h dX12_four_17 ?_
  refine j_sipush (v := 255) h (by decide) dX12_four_18 ?_
  refine j_iand h dX12_four_21 ?_
  refine j_iast (ws' := [(h0, .inr (12, (.ref (m 0) :: .int 8 :: .int 0 :: .int (-1) :: .int 0 :: .int 0 :: .int 0 :: .int 0 :: .int 0 :: .long 0 :: .ref (m 10) :: .ref (m 11) :: .ref (m 12) :: .ref (m 13) :: .ref (m 14) :: .ref (m 15) :: .ref (m 16) :: .ref (m 17) :: .ref (m 18) :: .ref (m 19) :: .ref (m 20) :: .ref (m 21) :: .ref (m 22) :: .ref (m 23) :: .ref (m 24) :: .int 0 :: .int 0 :: .int 0 :: .int 0 :: .int 0 :: .int 0 :: .ref (m 31) :: .ref (m 32) :: .ref (m 33) :: .ref (m 34) :: .ref (m 35) :: .int 0 :: .int 0 :: .int 0 :: .ref (m 39) :: .ref (m 40) :: .ref (m 41) :: .int 0 :: .ref (m 43) :: .ref (m 44) :: .ref (m 45) :: .ref (m 46) :: .ref (m 47) :: .ref (m 48) :: .int 0 :: .ref (m 50) :: .ref (m 51) :: .ref (m 52) :: .ref (m 53) :: .ref (m 54) :: .ref (m 55) :: .ref (m 56) :: .ref (m 57) :: .ref (m 58) :: .ref (m 59) :: .ref (m 60) :: .ref (m 61) :: .int 0 :: .int 0 :: .ref (m 64) :: .ref (m 65) :: .ref (m 66) :: .ref (m 67) :: .ref (m 68) :: .ref (m 69) :: []))), ((m 0), .inl (kA 1, 1600, .inl (upd f 8 ((v >>> (24 &&& 31)) &&& 255))))]) h 1 rfl 8 (by decide) (by decide) (by decide) dX12_four_22 rfl ?_
  refine j_aload_n h 1 rfl rfl dX12_four_23 ?_
  refine j_dup h rfl dX12_four_24 ?_
  refine j_get h iw_X12 0 rfl rfl 1 (by decide) tw_1157 rfl dX12_four_25 ?_
  refine j_iconst (v := 1) h (by decide) dX12_four_28 ?_
  refine j_iadd h dX12_four_29 ?_
  refine j_top (b := 9) (by decide) ?_
  refine j_put (ws' := [(h0, .inr (12, (.ref (m 0) :: .int 9 :: .int 0 :: .int (-1) :: .int 0 :: .int 0 :: .int 0 :: .int 0 :: .int 0 :: .long 0 :: .ref (m 10) :: .ref (m 11) :: .ref (m 12) :: .ref (m 13) :: .ref (m 14) :: .ref (m 15) :: .ref (m 16) :: .ref (m 17) :: .ref (m 18) :: .ref (m 19) :: .ref (m 20) :: .ref (m 21) :: .ref (m 22) :: .ref (m 23) :: .ref (m 24) :: .int 0 :: .int 0 :: .int 0 :: .int 0 :: .int 0 :: .int 0 :: .ref (m 31) :: .ref (m 32) :: .ref (m 33) :: .ref (m 34) :: .ref (m 35) :: .int 0 :: .int 0 :: .int 0 :: .ref (m 39) :: .ref (m 40) :: .ref (m 41) :: .int 0 :: .ref (m 43) :: .ref (m 44) :: .ref (m 45) :: .ref (m 46) :: .ref (m 47) :: .ref (m 48) :: .int 0 :: .ref (m 50) :: .ref (m 51) :: .ref (m 52) :: .ref (m 53) :: .ref (m 54) :: .ref (m 55) :: .ref (m 56) :: .ref (m 57) :: .ref (m 58) :: .ref (m 59) :: .ref (m 60) :: .ref (m 61) :: .int 0 :: .int 0 :: .ref (m 64) :: .ref (m 65) :: .ref (m 66) :: .ref (m 67) :: .ref (m 68) :: .ref (m 69) :: []))), ((m 0), .inl (kA 1, 1600, .inl (upd f 8 ((v >>> (24 &&& 31)) &&& 255))))]) h iw_X12 tyX12 tyX12_ok nmX12 0 rfl rfl 1 (by decide) tw_1157 rfl rfl rfl (Nat.le_of_ble_eq_true rfl) dX12_four_30 rfl ?_
  refine j_iinc (v := 16) (lv' := [(2, .int 16), (0, .ref h0), (1, .int v)]) h dX12_four_33 0 rfl (by decide) (by decide) rfl ?_
  refine j_goto h 3 dX12_four_36 (by decide) ?_
  refine j_iload_n h 0 rfl rfl dX12_four_3 ?_
  refine j_if_lt h 39 dX12_four_4 (by decide) (fun q => absurd q (by decide)) (fun _ => ?_)
  refine j_aload_n h 1 rfl rfl dX12_four_7 ?_
  refine j_get h iw_X12 0 rfl rfl 0 (by decide) tw_1156 rfl dX12_four_8 ?_
  refine j_aload_n h 1 rfl rfl dX12_four_11 ?_
  refine j_get h iw_X12 0 rfl rfl 1 (by decide) tw_1157 rfl dX12_four_12 ?_
  refine j_iload_n h 2 rfl rfl dX12_four_15 ?_
  refine j_iload_n h 0 rfl rfl dX12_four_16 ?_
  refine j_ishr h dX12_four_17 ?_
  refine j_sipush (v := 255) h (by decide) dX12_four_18 ?_
  refine j_iand h dX12_four_21 ?_
  refine j_iast (ws' := [(h0, .inr (12, (.ref (m 0) :: .int 9 :: .int 0 :: .int (-1) :: .int 0 :: .int 0 :: .int 0 :: .int 0 :: .int 0 :: .long 0 :: .ref (m 10) :: .ref (m 11) :: .ref (m 12) :: .ref (m 13) :: .ref (m 14) :: .ref (m 15) :: .ref (m 16) :: .ref (m 17) :: .ref (m 18) :: .ref (m 19) :: .ref (m 20) :: .ref (m 21) :: .ref (m 22) :: .ref (m 23) :: .ref (m 24) :: .int 0 :: .int 0 :: .int 0 :: .int 0 :: .int 0 :: .int 0 :: .ref (m 31) :: .ref (m 32) :: .ref (m 33) :: .ref (m 34) :: .ref (m 35) :: .int 0 :: .int 0 :: .int 0 :: .ref (m 39) :: .ref (m 40) :: .ref (m 41) :: .int 0 :: .ref (m 43) :: .ref (m 44) :: .ref (m 45) :: .ref (m 46) :: .ref (m 47) :: .ref (m 48) :: .int 0 :: .ref (m 50) :: .ref (m 51) :: .ref (m 52) :: .ref (m 53) :: .ref (m 54) :: .ref (m 55) :: .ref (m 56) :: .ref (m 57) :: .ref (m 58) :: .ref (m 59) :: .ref (m 60) :: .ref (m 61) :: .int 0 :: .int 0 :: .ref (m 64) :: .ref (m 65) :: .ref (m 66) :: .ref (m 67) :: .ref (m 68) :: .ref (m 69) :: []))), ((m 0), .inl (kA 1, 1600, .inl (upd (upd f 8 ((v >>> (24 &&& 31)) &&& 255)) 9 ((v >>> (16 &&& 31)) &&& 255))))]) h 1 rfl 9 (by decide) (by decide) (by decide) dX12_four_22 rfl ?_
  refine j_aload_n h 1 rfl rfl dX12_four_23 ?_
  refine j_dup h rfl dX12_four_24 ?_
  refine j_get h iw_X12 0 rfl rfl 1 (by decide) tw_1157 rfl dX12_four_25 ?_
  refine j_iconst (v := 1) h (by decide) dX12_four_28 ?_
  refine j_iadd h dX12_four_29 ?_
  refine j_top (b := 10) (by decide) ?_
  refine j_put (ws' := [(h0, .inr (12, (.ref (m 0) :: .int 10 :: .int 0 :: .int (-1) :: .int 0 :: .int 0 :: .int 0 :: .int 0 :: .int 0 :: .long 0 :: .ref (m 10) :: .ref (m 11) :: .ref (m 12) :: .ref (m 13) :: .ref (m 14) :: .ref (m 15) :: .ref (m 16) :: .ref (m 17) :: .ref (m 18) :: .ref (m 19) :: .ref (m 20) :: .ref (m 21) :: .ref (m 22) :: .ref (m 23) :: .ref (m 24) :: .int 0 :: .int 0 :: .int 0 :: .int 0 :: .int 0 :: .int 0 :: .ref (m 31) :: .ref (m 32) :: .ref (m 33) :: .ref (m 34) :: .ref (m 35) :: .int 0 :: .int 0 :: .int 0 :: .ref (m 39) :: .ref (m 40) :: .ref (m 41) :: .int 0 :: .ref (m 43) :: .ref (m 44) :: .ref (m 45) :: .ref (m 46) :: .ref (m 47) :: .ref (m 48) :: .int 0 :: .ref (m 50) :: .ref (m 51) :: .ref (m 52) :: .ref (m 53) :: .ref (m 54) :: .ref (m 55) :: .ref (m 56) :: .ref (m 57) :: .ref (m 58) :: .ref (m 59) :: .ref (m 60) :: .ref (m 61) :: .int 0 :: .int 0 :: .ref (m 64) :: .ref (m 65) :: .ref (m 66) :: .ref (m 67) :: .ref (m 68) :: .ref (m 69) :: []))), ((m 0), .inl (kA 1, 1600, .inl (upd (upd f 8 ((v >>> (24 &&& 31)) &&& 255)) 9 ((v >>> (16 &&& 31)) &&& 255))))]) h iw_X12 tyX12 tyX12_ok nmX12 0 rfl rfl 1 (by decide) tw_1157 rfl rfl rfl (Nat.le_of_ble_eq_true rfl) dX12_four_30 rfl ?_
  refine j_iinc (v := 8) (lv' := [(2, .int 8), (0, .ref h0), (1, .int v)]) h dX12_four_33 0 rfl (by decide) (by decide) rfl ?_
  refine j_goto h 3 dX12_four_36 (by decide) ?_
  refine j_iload_n h 0 rfl rfl dX12_four_3 ?_
  refine j_if_lt h 39 dX12_four_4 (by decide) (fun q => absurd q (by decide)) (fun _ => ?_)
  refine j_aload_n h 1 rfl rfl dX12_four_7 ?_
  refine j_get h iw_X12 0 rfl rfl 0 (by decide) tw_1156 rfl dX12_four_8 ?_
  refine j_aload_n h 1 rfl rfl dX12_four_11 ?_
  refine j_get h iw_X12 0 rfl rfl 1 (by decide) tw_1157 rfl dX12_four_12 ?_
  refine j_iload_n h 2 rfl rfl dX12_four_15 ?_
  refine j_iload_n h 0 rfl rfl dX12_four_16 ?_
  refine j_ishr h dX12_four_17 ?_
  refine j_sipush (v := 255) h (by decide) dX12_four_18 ?_
  refine j_iand h dX12_four_21 ?_
  refine j_iast (ws' := [(h0, .inr (12, (.ref (m 0) :: .int 10 :: .int 0 :: .int (-1) :: .int 0 :: .int 0 :: .int 0 :: .int 0 :: .int 0 :: .long 0 :: .ref (m 10) :: .ref (m 11) :: .ref (m 12) :: .ref (m 13) :: .ref (m 14) :: .ref (m 15) :: .ref (m 16) :: .ref (m 17) :: .ref (m 18) :: .ref (m 19) :: .ref (m 20) :: .ref (m 21) :: .ref (m 22) :: .ref (m 23) :: .ref (m 24) :: .int 0 :: .int 0 :: .int 0 :: .int 0 :: .int 0 :: .int 0 :: .ref (m 31) :: .ref (m 32) :: .ref (m 33) :: .ref (m 34) :: .ref (m 35) :: .int 0 :: .int 0 :: .int 0 :: .ref (m 39) :: .ref (m 40) :: .ref (m 41) :: .int 0 :: .ref (m 43) :: .ref (m 44) :: .ref (m 45) :: .ref (m 46) :: .ref (m 47) :: .ref (m 48) :: .int 0 :: .ref (m 50) :: .ref (m 51) :: .ref (m 52) :: .ref (m 53) :: .ref (m 54) :: .ref (m 55) :: .ref (m 56) :: .ref (m 57) :: .ref (m 58) :: .ref (m 59) :: .ref (m 60) :: .ref (m 61) :: .int 0 :: .int 0 :: .ref (m 64) :: .ref (m 65) :: .ref (m 66) :: .ref (m 67) :: .ref (m 68) :: .ref (m 69) :: []))), ((m 0), .inl (kA 1, 1600, .inl (upd (upd (upd f 8 ((v >>> (24 &&& 31)) &&& 255)) 9 ((v >>> (16 &&& 31)) &&& 255)) 10 ((v >>> (8 &&& 31)) &&& 255))))]) h 1 rfl 10 (by decide) (by decide) (by decide) dX12_four_22 rfl ?_
  refine j_aload_n h 1 rfl rfl dX12_four_23 ?_
  refine j_dup h rfl dX12_four_24 ?_
  refine j_get h iw_X12 0 rfl rfl 1 (by decide) tw_1157 rfl dX12_four_25 ?_
  refine j_iconst (v := 1) h (by decide) dX12_four_28 ?_
  refine j_iadd h dX12_four_29 ?_
  refine j_top (b := 11) (by decide) ?_
  refine j_put (ws' := [(h0, .inr (12, (.ref (m 0) :: .int 11 :: .int 0 :: .int (-1) :: .int 0 :: .int 0 :: .int 0 :: .int 0 :: .int 0 :: .long 0 :: .ref (m 10) :: .ref (m 11) :: .ref (m 12) :: .ref (m 13) :: .ref (m 14) :: .ref (m 15) :: .ref (m 16) :: .ref (m 17) :: .ref (m 18) :: .ref (m 19) :: .ref (m 20) :: .ref (m 21) :: .ref (m 22) :: .ref (m 23) :: .ref (m 24) :: .int 0 :: .int 0 :: .int 0 :: .int 0 :: .int 0 :: .int 0 :: .ref (m 31) :: .ref (m 32) :: .ref (m 33) :: .ref (m 34) :: .ref (m 35) :: .int 0 :: .int 0 :: .int 0 :: .ref (m 39) :: .ref (m 40) :: .ref (m 41) :: .int 0 :: .ref (m 43) :: .ref (m 44) :: .ref (m 45) :: .ref (m 46) :: .ref (m 47) :: .ref (m 48) :: .int 0 :: .ref (m 50) :: .ref (m 51) :: .ref (m 52) :: .ref (m 53) :: .ref (m 54) :: .ref (m 55) :: .ref (m 56) :: .ref (m 57) :: .ref (m 58) :: .ref (m 59) :: .ref (m 60) :: .ref (m 61) :: .int 0 :: .int 0 :: .ref (m 64) :: .ref (m 65) :: .ref (m 66) :: .ref (m 67) :: .ref (m 68) :: .ref (m 69) :: []))), ((m 0), .inl (kA 1, 1600, .inl (upd (upd (upd f 8 ((v >>> (24 &&& 31)) &&& 255)) 9 ((v >>> (16 &&& 31)) &&& 255)) 10 ((v >>> (8 &&& 31)) &&& 255))))]) h iw_X12 tyX12 tyX12_ok nmX12 0 rfl rfl 1 (by decide) tw_1157 rfl rfl rfl (Nat.le_of_ble_eq_true rfl) dX12_four_30 rfl ?_
  refine j_iinc (v := 0) (lv' := [(2, .int 0), (0, .ref h0), (1, .int v)]) h dX12_four_33 0 rfl (by decide) (by decide) rfl ?_
  refine j_goto h 3 dX12_four_36 (by decide) ?_
  refine j_iload_n h 0 rfl rfl dX12_four_3 ?_
  refine j_if_lt h 39 dX12_four_4 (by decide) (fun q => absurd q (by decide)) (fun _ => ?_)
  refine j_aload_n h 1 rfl rfl dX12_four_7 ?_
  refine j_get h iw_X12 0 rfl rfl 0 (by decide) tw_1156 rfl dX12_four_8 ?_
  refine j_aload_n h 1 rfl rfl dX12_four_11 ?_
  refine j_get h iw_X12 0 rfl rfl 1 (by decide) tw_1157 rfl dX12_four_12 ?_
  refine j_iload_n h 2 rfl rfl dX12_four_15 ?_
  refine j_iload_n h 0 rfl rfl dX12_four_16 ?_
  refine j_ishr h dX12_four_17 ?_
  refine j_sipush (v := 255) h (by decide) dX12_four_18 ?_
  refine j_iand h dX12_four_21 ?_
  refine j_iast (ws' := [(h0, .inr (12, (.ref (m 0) :: .int 11 :: .int 0 :: .int (-1) :: .int 0 :: .int 0 :: .int 0 :: .int 0 :: .int 0 :: .long 0 :: .ref (m 10) :: .ref (m 11) :: .ref (m 12) :: .ref (m 13) :: .ref (m 14) :: .ref (m 15) :: .ref (m 16) :: .ref (m 17) :: .ref (m 18) :: .ref (m 19) :: .ref (m 20) :: .ref (m 21) :: .ref (m 22) :: .ref (m 23) :: .ref (m 24) :: .int 0 :: .int 0 :: .int 0 :: .int 0 :: .int 0 :: .int 0 :: .ref (m 31) :: .ref (m 32) :: .ref (m 33) :: .ref (m 34) :: .ref (m 35) :: .int 0 :: .int 0 :: .int 0 :: .ref (m 39) :: .ref (m 40) :: .ref (m 41) :: .int 0 :: .ref (m 43) :: .ref (m 44) :: .ref (m 45) :: .ref (m 46) :: .ref (m 47) :: .ref (m 48) :: .int 0 :: .ref (m 50) :: .ref (m 51) :: .ref (m 52) :: .ref (m 53) :: .ref (m 54) :: .ref (m 55) :: .ref (m 56) :: .ref (m 57) :: .ref (m 58) :: .ref (m 59) :: .ref (m 60) :: .ref (m 61) :: .int 0 :: .int 0 :: .ref (m 64) :: .ref (m 65) :: .ref (m 66) :: .ref (m 67) :: .ref (m 68) :: .ref (m 69) :: []))), ((m 0), .inl (kA 1, 1600, .inl (upd (upd (upd (upd f 8 ((v >>> (24 &&& 31)) &&& 255)) 9 ((v >>> (16 &&& 31)) &&& 255)) 10 ((v >>> (8 &&& 31)) &&& 255)) 11 ((v >>> (0 &&& 31)) &&& 255))))]) h 1 rfl 11 (by decide) (by decide) (by decide) dX12_four_22 rfl ?_
  refine j_aload_n h 1 rfl rfl dX12_four_23 ?_
  refine j_dup h rfl dX12_four_24 ?_
  refine j_get h iw_X12 0 rfl rfl 1 (by decide) tw_1157 rfl dX12_four_25 ?_
  refine j_iconst (v := 1) h (by decide) dX12_four_28 ?_
  refine j_iadd h dX12_four_29 ?_
  refine j_top (b := 12) (by decide) ?_
  refine j_put (ws' := [(h0, .inr (12, (.ref (m 0) :: .int 12 :: .int 0 :: .int (-1) :: .int 0 :: .int 0 :: .int 0 :: .int 0 :: .int 0 :: .long 0 :: .ref (m 10) :: .ref (m 11) :: .ref (m 12) :: .ref (m 13) :: .ref (m 14) :: .ref (m 15) :: .ref (m 16) :: .ref (m 17) :: .ref (m 18) :: .ref (m 19) :: .ref (m 20) :: .ref (m 21) :: .ref (m 22) :: .ref (m 23) :: .ref (m 24) :: .int 0 :: .int 0 :: .int 0 :: .int 0 :: .int 0 :: .int 0 :: .ref (m 31) :: .ref (m 32) :: .ref (m 33) :: .ref (m 34) :: .ref (m 35) :: .int 0 :: .int 0 :: .int 0 :: .ref (m 39) :: .ref (m 40) :: .ref (m 41) :: .int 0 :: .ref (m 43) :: .ref (m 44) :: .ref (m 45) :: .ref (m 46) :: .ref (m 47) :: .ref (m 48) :: .int 0 :: .ref (m 50) :: .ref (m 51) :: .ref (m 52) :: .ref (m 53) :: .ref (m 54) :: .ref (m 55) :: .ref (m 56) :: .ref (m 57) :: .ref (m 58) :: .ref (m 59) :: .ref (m 60) :: .ref (m 61) :: .int 0 :: .int 0 :: .ref (m 64) :: .ref (m 65) :: .ref (m 66) :: .ref (m 67) :: .ref (m 68) :: .ref (m 69) :: []))), ((m 0), .inl (kA 1, 1600, .inl (upd (upd (upd (upd f 8 ((v >>> (24 &&& 31)) &&& 255)) 9 ((v >>> (16 &&& 31)) &&& 255)) 10 ((v >>> (8 &&& 31)) &&& 255)) 11 ((v >>> (0 &&& 31)) &&& 255))))]) h iw_X12 tyX12 tyX12_ok nmX12 0 rfl rfl 1 (by decide) tw_1157 rfl rfl rfl (Nat.le_of_ble_eq_true rfl) dX12_four_30 rfl ?_
  refine j_iinc (v := (-8)) (lv' := [(2, .int (-8)), (0, .ref h0), (1, .int v)]) h dX12_four_33 0 rfl (by decide) (by decide) rfl ?_
  refine j_goto h 3 dX12_four_36 (by decide) ?_
  refine j_iload_n h 0 rfl rfl dX12_four_3 ?_
  refine j_if_lt h 39 dX12_four_4 (by decide) (fun _ => ?_) (fun q => absurd (by decide) q)
  exact j_vret h hq dX12_four_39 (upd (upd (upd (upd f 8 ((v >>> (24 &&& 31)) &&& 255)) 9 ((v >>> (16 &&& 31)) &&& 255)) 10 ((v >>> (8 &&& 31)) &&& 255)) 11 ((v >>> (0 &&& 31)) &&& 255)) [0, 1] rfl rfl (by decide) trivial (Nat.le_of_ble_eq_true rfl) (Nat.le_of_ble_eq_true rfl)
set_option maxHeartbeats 4000000 in
set_option maxRecDepth 100000 in
theorem c_X12_four12 (l : Launch) (g : va_G) (kA : Nat → ClassId) (h0 : Nat) (m : Nat → Nat) (f : Nat → Int32) (v : Int32)  : CtV l yX12_four cX12_four 3 (none) 1 0 0 g kA [.ref h0, .int v] [(h0, .inr (12, (.ref (m 0) :: .int 12 :: .int 0 :: .int (-1) :: .int 0 :: .int 0 :: .int 0 :: .int 0 :: .int 0 :: .long 0 :: .ref (m 10) :: .ref (m 11) :: .ref (m 12) :: .ref (m 13) :: .ref (m 14) :: .ref (m 15) :: .ref (m 16) :: .ref (m 17) :: .ref (m 18) :: .ref (m 19) :: .ref (m 20) :: .ref (m 21) :: .ref (m 22) :: .ref (m 23) :: .ref (m 24) :: .int 0 :: .int 0 :: .int 0 :: .int 0 :: .int 0 :: .int 0 :: .ref (m 31) :: .ref (m 32) :: .ref (m 33) :: .ref (m 34) :: .ref (m 35) :: .int 0 :: .int 0 :: .int 0 :: .ref (m 39) :: .ref (m 40) :: .ref (m 41) :: .int 0 :: .ref (m 43) :: .ref (m 44) :: .ref (m 45) :: .ref (m 46) :: .ref (m 47) :: .ref (m 48) :: .int 0 :: .ref (m 50) :: .ref (m 51) :: .ref (m 52) :: .ref (m 53) :: .ref (m 54) :: .ref (m 55) :: .ref (m 56) :: .ref (m 57) :: .ref (m 58) :: .ref (m 59) :: .ref (m 60) :: .ref (m 61) :: .int 0 :: .int 0 :: .ref (m 64) :: .ref (m 65) :: .ref (m 66) :: .ref (m 67) :: .ref (m 68) :: .ref (m 69) :: []))), ((m 0), .inl (kA 1, 1600, .inl f))] (S := (Nat → Int32)) (fun (f1 : (Nat → Int32)) => True) (fun (f1 : (Nat → Int32)) => [(h0, .inr (12, (.ref (m 0) :: .int 16 :: .int 0 :: .int (-1) :: .int 0 :: .int 0 :: .int 0 :: .int 0 :: .int 0 :: .long 0 :: .ref (m 10) :: .ref (m 11) :: .ref (m 12) :: .ref (m 13) :: .ref (m 14) :: .ref (m 15) :: .ref (m 16) :: .ref (m 17) :: .ref (m 18) :: .ref (m 19) :: .ref (m 20) :: .ref (m 21) :: .ref (m 22) :: .ref (m 23) :: .ref (m 24) :: .int 0 :: .int 0 :: .int 0 :: .int 0 :: .int 0 :: .int 0 :: .ref (m 31) :: .ref (m 32) :: .ref (m 33) :: .ref (m 34) :: .ref (m 35) :: .int 0 :: .int 0 :: .int 0 :: .ref (m 39) :: .ref (m 40) :: .ref (m 41) :: .int 0 :: .ref (m 43) :: .ref (m 44) :: .ref (m 45) :: .ref (m 46) :: .ref (m 47) :: .ref (m 48) :: .int 0 :: .ref (m 50) :: .ref (m 51) :: .ref (m 52) :: .ref (m 53) :: .ref (m 54) :: .ref (m 55) :: .ref (m 56) :: .ref (m 57) :: .ref (m 58) :: .ref (m 59) :: .ref (m 60) :: .ref (m 61) :: .int 0 :: .int 0 :: .ref (m 64) :: .ref (m 65) :: .ref (m 66) :: .ref (m 67) :: .ref (m 68) :: .ref (m 69) :: []))), ((m 0), .inl (kA 1, 1600, .inl f1))]) := by
  refine nx_startV (by decide +kernel) (Nat.le_of_ble_eq_true rfl) ?_
  intro x hnm h hq
  have h : Ok x cX12_four RX12 kA (rmC 1 0 0) 3 := h
  show J x [(h0, .inr (12, (.ref (m 0) :: .int 12 :: .int 0 :: .int (-1) :: .int 0 :: .int 0 :: .int 0 :: .int 0 :: .int 0 :: .long 0 :: .ref (m 10) :: .ref (m 11) :: .ref (m 12) :: .ref (m 13) :: .ref (m 14) :: .ref (m 15) :: .ref (m 16) :: .ref (m 17) :: .ref (m 18) :: .ref (m 19) :: .ref (m 20) :: .ref (m 21) :: .ref (m 22) :: .ref (m 23) :: .ref (m 24) :: .int 0 :: .int 0 :: .int 0 :: .int 0 :: .int 0 :: .int 0 :: .ref (m 31) :: .ref (m 32) :: .ref (m 33) :: .ref (m 34) :: .ref (m 35) :: .int 0 :: .int 0 :: .int 0 :: .ref (m 39) :: .ref (m 40) :: .ref (m 41) :: .int 0 :: .ref (m 43) :: .ref (m 44) :: .ref (m 45) :: .ref (m 46) :: .ref (m 47) :: .ref (m 48) :: .int 0 :: .ref (m 50) :: .ref (m 51) :: .ref (m 52) :: .ref (m 53) :: .ref (m 54) :: .ref (m 55) :: .ref (m 56) :: .ref (m 57) :: .ref (m 58) :: .ref (m 59) :: .ref (m 60) :: .ref (m 61) :: .int 0 :: .int 0 :: .ref (m 64) :: .ref (m 65) :: .ref (m 66) :: .ref (m 67) :: .ref (m 68) :: .ref (m 69) :: []))), ((m 0), .inl (kA 1, 1600, .inl f))] [(0, .ref h0), (1, .int v)] 0 0 0 []
  refine j_bipush (v := 24) h (by decide) dX12_four_0 ?_
  refine j_istore_n (lv' := [(2, .int 24), (0, .ref h0), (1, .int v)]) h dX12_four_2 rfl (by decide) rfl ?_
  refine j_iload_n h 0 rfl rfl dX12_four_3 ?_
  refine j_if_lt h 39 dX12_four_4 (by decide) (fun q => absurd q (by decide)) (fun _ => ?_)
  refine j_aload_n h 1 rfl rfl dX12_four_7 ?_
  refine j_get h iw_X12 0 rfl rfl 0 (by decide) tw_1156 rfl dX12_four_8 ?_
  refine j_aload_n h 1 rfl rfl dX12_four_11 ?_
  refine j_get h iw_X12 0 rfl rfl 1 (by decide) tw_1157 rfl dX12_four_12 ?_
  refine j_iload_n h 2 rfl rfl dX12_four_15 ?_
  refine j_iload_n h 0 rfl rfl dX12_four_16 ?_
  refine j_ishr h dX12_four_17 ?_
  refine j_sipush (v := 255) h (by decide) dX12_four_18 ?_
  refine j_iand h dX12_four_21 ?_
  refine j_iast (ws' := [(h0, .inr (12, (.ref (m 0) :: .int 12 :: .int 0 :: .int (-1) :: .int 0 :: .int 0 :: .int 0 :: .int 0 :: .int 0 :: .long 0 :: .ref (m 10) :: .ref (m 11) :: .ref (m 12) :: .ref (m 13) :: .ref (m 14) :: .ref (m 15) :: .ref (m 16) :: .ref (m 17) :: .ref (m 18) :: .ref (m 19) :: .ref (m 20) :: .ref (m 21) :: .ref (m 22) :: .ref (m 23) :: .ref (m 24) :: .int 0 :: .int 0 :: .int 0 :: .int 0 :: .int 0 :: .int 0 :: .ref (m 31) :: .ref (m 32) :: .ref (m 33) :: .ref (m 34) :: .ref (m 35) :: .int 0 :: .int 0 :: .int 0 :: .ref (m 39) :: .ref (m 40) :: .ref (m 41) :: .int 0 :: .ref (m 43) :: .ref (m 44) :: .ref (m 45) :: .ref (m 46) :: .ref (m 47) :: .ref (m 48) :: .int 0 :: .ref (m 50) :: .ref (m 51) :: .ref (m 52) :: .ref (m 53) :: .ref (m 54) :: .ref (m 55) :: .ref (m 56) :: .ref (m 57) :: .ref (m 58) :: .ref (m 59) :: .ref (m 60) :: .ref (m 61) :: .int 0 :: .int 0 :: .ref (m 64) :: .ref (m 65) :: .ref (m 66) :: .ref (m 67) :: .ref (m 68) :: .ref (m 69) :: []))), ((m 0), .inl (kA 1, 1600, .inl (upd f 12 ((v >>> (24 &&& 31)) &&& 255))))]) h 1 rfl 12 (by decide) (by decide) (by decide) dX12_four_22 rfl ?_
  refine j_aload_n h 1 rfl rfl dX12_four_23 ?_
  refine j_dup h rfl dX12_four_24 ?_
  refine j_get h iw_X12 0 rfl rfl 1 (by decide) tw_1157 rfl dX12_four_25 ?_
  refine j_iconst (v := 1) h (by decide) dX12_four_28 ?_
  refine j_iadd h dX12_four_29 ?_
  refine j_top (b := 13) (by decide) ?_
  refine j_put (ws' := [(h0, .inr (12, (.ref (m 0) :: .int 13 :: .int 0 :: .int (-1) :: .int 0 :: .int 0 :: .int 0 :: .int 0 :: .int 0 :: .long 0 :: .ref (m 10) :: .ref (m 11) :: .ref (m 12) :: .ref (m 13) :: .ref (m 14) :: .ref (m 15) :: .ref (m 16) :: .ref (m 17) :: .ref (m 18) :: .ref (m 19) :: .ref (m 20) :: .ref (m 21) :: .ref (m 22) :: .ref (m 23) :: .ref (m 24) :: .int 0 :: .int 0 :: .int 0 :: .int 0 :: .int 0 :: .int 0 :: .ref (m 31) :: .ref (m 32) :: .ref (m 33) :: .ref (m 34) :: .ref (m 35) :: .int 0 :: .int 0 :: .int 0 :: .ref (m 39) :: .ref (m 40) :: .ref (m 41) :: .int 0 :: .ref (m 43) :: .ref (m 44) :: .ref (m 45) :: .ref (m 46) :: .ref (m 47) :: .ref (m 48) :: .int 0 :: .ref (m 50) :: .ref (m 51) :: .ref (m 52) :: .ref (m 53) :: .ref (m 54) :: .ref (m 55) :: .ref (m 56) :: .ref (m 57) :: .ref (m 58) :: .ref (m 59) :: .ref (m 60) :: .ref (m 61) :: .int 0 :: .int 0 :: .ref (m 64) :: .ref (m 65) :: .ref (m 66) :: .ref (m 67) :: .ref (m 68) :: .ref (m 69) :: []))), ((m 0), .inl (kA 1, 1600, .inl (upd f 12 ((v >>> (24 &&& 31)) &&& 255))))]) h iw_X12 tyX12 tyX12_ok nmX12 0 rfl rfl 1 (by decide) tw_1157 rfl rfl rfl (Nat.le_of_ble_eq_true rfl) dX12_four_30 rfl ?_
  refine j_iinc (v := 16) (lv' := [(2, .int 16), (0, .ref h0), (1, .int v)]) h dX12_four_33 0 rfl (by decide) (by decide) rfl ?_
  refine j_goto h 3 dX12_four_36 (by decide) ?_
  refine j_iload_n h 0 rfl rfl dX12_four_3 ?_
  refine j_if_lt h 39 dX12_four_4 (by decide) (fun q => absurd q (by decide)) (fun _ => ?_)
  refine j_aload_n h 1 rfl rfl dX12_four_7 ?_
  refine j_get h iw_X12 0 rfl rfl 0 (by decide) tw_1156 rfl dX12_four_8 ?_
  refine j_aload_n h 1 rfl rfl dX12_four_11 ?_
  refine j_get h iw_X12 0 rfl rfl 1 (by decide) tw_1157 rfl dX12_four_12 ?_
  refine j_iload_n h 2 rfl rfl dX12_four_15 ?_
  refine j_iload_n h 0 rfl rfl dX12_four_16 ?_
  refine j_ishr h dX12_four_17 ?_
  refine j_sipush (v := 255) h (by decide) dX12_four_18 ?_
  refine j_iand h dX12_four_21 ?_
  refine j_iast (ws' := [(h0, .inr (12, (.ref (m 0) :: .int 13 :: .int 0 :: .int (-1) :: .int 0 :: .int 0 :: .int 0 :: .int 0 :: .int 0 :: .long 0 :: .ref (m 10) :: .ref (m 11) :: .ref (m 12) :: .ref (m 13) :: .ref (m 14) :: .ref (m 15) :: .ref (m 16) :: .ref (m 17) :: .ref (m 18) :: .ref (m 19) :: .ref (m 20) :: .ref (m 21) :: .ref (m 22) :: .ref (m 23) :: .ref (m 24) :: .int 0 :: .int 0 :: .int 0 :: .int 0 :: .int 0 :: .int 0 :: .ref (m 31) :: .ref (m 32) :: .ref (m 33) :: .ref (m 34) :: .ref (m 35) :: .int 0 :: .int 0 :: .int 0 :: .ref (m 39) :: .ref (m 40) :: .ref (m 41) :: .int 0 :: .ref (m 43) :: .ref (m 44) :: .ref (m 45) :: .ref (m 46) :: .ref (m 47) :: .ref (m 48) :: .int 0 :: .ref (m 50) :: .ref (m 51) :: .ref (m 52) :: .ref (m 53) :: .ref (m 54) :: .ref (m 55) :: .ref (m 56) :: .ref (m 57) :: .ref (m 58) :: .ref (m 59) :: .ref (m 60) :: .ref (m 61) :: .int 0 :: .int 0 :: .ref (m 64) :: .ref (m 65) :: .ref (m 66) :: .ref (m 67) :: .ref (m 68) :: .ref (m 69) :: []))), ((m 0), .inl (kA 1, 1600, .inl (upd (upd f 12 ((v >>> (24 &&& 31)) &&& 255)) 13 ((v >>> (16 &&& 31)) &&& 255))))]) h 1 rfl 13 (by decide) (by decide) (by decide) dX12_four_22 rfl ?_
  refine j_aload_n h 1 rfl rfl dX12_four_23 ?_
  refine j_dup h rfl dX12_four_24 ?_
  refine j_get h iw_X12 0 rfl rfl 1 (by decide) tw_1157 rfl dX12_four_25 ?_
  refine j_iconst (v := 1) h (by decide) dX12_four_28 ?_
  refine j_iadd h dX12_four_29 ?_
  refine j_top (b := 14) (by decide) ?_
  refine j_put (ws' := [(h0, .inr (12, (.ref (m 0) :: .int 14 :: .int 0 :: .int (-1) :: .int 0 :: .int 0 :: .int 0 :: .int 0 :: .int 0 :: .long 0 :: .ref (m 10) :: .ref (m 11) :: .ref (m 12) :: .ref (m 13) :: .ref (m 14) :: .ref (m 15) :: .ref (m 16) :: .ref (m 17) :: .ref (m 18) :: .ref (m 19) :: .ref (m 20) :: .ref (m 21) :: .ref (m 22) :: .ref (m 23) :: .ref (m 24) :: .int 0 :: .int 0 :: .int 0 :: .int 0 :: .int 0 :: .int 0 :: .ref (m 31) :: .ref (m 32) :: .ref (m 33) :: .ref (m 34) :: .ref (m 35) :: .int 0 :: .int 0 :: .int 0 :: .ref (m 39) :: .ref (m 40) :: .ref (m 41) :: .int 0 :: .ref (m 43) :: .ref (m 44) :: .ref (m 45) :: .ref (m 46) :: .ref (m 47) :: .ref (m 48) :: .int 0 :: .ref (m 50) :: .ref (m 51) :: .ref (m 52) :: .ref (m 53) :: .ref (m 54) :: .ref (m 55) :: .ref (m 56) :: .ref (m 57) :: .ref (m 58) :: .ref (m 59) :: .ref (m 60) :: .ref (m 61) :: .int 0 :: .int 0 :: .ref (m 64) :: .ref (m 65) :: .ref (m 66) :: .ref (m 67) :: .ref (m 68) :: .ref (m 69) :: []))), ((m 0), .inl (kA 1, 1600, .inl (upd (upd f 12 ((v >>> (24 &&& 31)) &&& 255)) 13 ((v >>> (16 &&& 31)) &&& 255))))]) h iw_X12 tyX12 tyX12_ok nmX12 0 rfl rfl 1 (by decide) tw_1157 rfl rfl rfl (Nat.le_of_ble_eq_true rfl) dX12_four_30 rfl ?_
  refine j_iinc (v := 8) (lv' := [(2, .int 8), (0, .ref h0), (1, .int v)]) h dX12_four_33 0 rfl (by decide) (by decide) rfl ?_
  refine j_goto h 3 dX12_four_36 (by decide) ?_
  refine j_iload_n h 0 rfl rfl dX12_four_3 ?_
  refine j_if_lt h 39 dX12_four_4 (by decide) (fun q => absurd q (by decide)) (fun _ => ?_)
  refine j_aload_n h 1 rfl rfl dX12_four_7 ?_
  refine j_get h iw_X12 0 rfl rfl 0 (by decide) tw_1156 rfl dX12_four_8 ?_
  refine j_aload_n h 1 rfl rfl dX12_four_11 ?_
  refine j_get h iw_X12 0 rfl rfl 1 (by decide) tw_1157 rfl dX12_four_12 ?_
  refine j_iload_n h 2 rfl rfl dX12_four_15 ?_
  refine j_iload_n h 0 rfl rfl dX12_four_16 ?_
  refine j_ishr h dX12_four_17 ?_
  refine j_sipush (v := 255) h (by decide) dX12_four_18 ?_
  refine j_iand h dX12_four_21 ?_
  refine j_iast (ws' := [(h0, .inr (12, (.ref (m 0) :: .int 14 :: .int 0 :: .int (-1) :: .int 0 :: .int 0 :: .int 0 :: .int 0 :: .int 0 :: .long 0 :: .ref (m 10) :: .ref (m 11) :: .ref (m 12) :: .ref (m 13) :: .ref (m 14) :: .ref (m 15) :: .ref (m 16) :: .ref (m 17) :: .ref (m 18) :: .ref (m 19) :: .ref (m 20) :: .ref (m 21) :: .ref (m 22) :: .ref (m 23) :: .ref (m 24) :: .int 0 :: .int 0 :: .int 0 :: .int 0 :: .int 0 :: .int 0 :: .ref (m 31) :: .ref (m 32) :: .ref (m 33) :: .ref (m 34) :: .ref (m 35) :: .int 0 :: .int 0 :: .int 0 :: .ref (m 39) :: .ref (m 40) :: .ref (m 41) :: .int 0 :: .ref (m 43) :: .ref (m 44) :: .ref (m 45) :: .ref (m 46) :: .ref (m 47) :: .ref (m 48) :: .int 0 :: .ref (m 50) :: .ref (m 51) :: .ref (m 52) :: .ref (m 53) :: .ref (m 54) :: .ref (m 55) :: .ref (m 56) :: .ref (m 57) :: .ref (m 58) :: .ref (m 59) :: .ref (m 60) :: .ref (m 61) :: .int 0 :: .int 0 :: .ref (m 64) :: .ref (m 65) :: .ref (m 66) :: .ref (m 67) :: .ref (m 68) :: .ref (m 69) :: []))), ((m 0), .inl (kA 1, 1600, .inl (upd (upd (upd f 12 ((v >>> (24 &&& 31)) &&& 255)) 13 ((v >>> (16 &&& 31)) &&& 255)) 14 ((v >>> (8 &&& 31)) &&& 255))))]) h 1 rfl 14 (by decide) (by decide) (by decide) dX12_four_22 rfl ?_
  refine j_aload_n h 1 rfl rfl dX12_four_23 ?_
  refine j_dup h rfl dX12_four_24 ?_
  refine j_get h iw_X12 0 rfl rfl 1 (by decide) tw_1157 rfl dX12_four_25 ?_
  refine j_iconst (v := 1) h (by decide) dX12_four_28 ?_
  refine j_iadd h dX12_four_29 ?_
  refine j_top (b := 15) (by decide) ?_
  refine j_put (ws' := [(h0, .inr (12, (.ref (m 0) :: .int 15 :: .int 0 :: .int (-1) :: .int 0 :: .int 0 :: .int 0 :: .int 0 :: .int 0 :: .long 0 :: .ref (m 10) :: .ref (m 11) :: .ref (m 12) :: .ref (m 13) :: .ref (m 14) :: .ref (m 15) :: .ref (m 16) :: .ref (m 17) :: .ref (m 18) :: .ref (m 19) :: .ref (m 20) :: .ref (m 21) :: .ref (m 22) :: .ref (m 23) :: .ref (m 24) :: .int 0 :: .int 0 :: .int 0 :: .int 0 :: .int 0 :: .int 0 :: .ref (m 31) :: .ref (m 32) :: .ref (m 33) :: .ref (m 34) :: .ref (m 35) :: .int 0 :: .int 0 :: .int 0 :: .ref (m 39) :: .ref (m 40) :: .ref (m 41) :: .int 0 :: .ref (m 43) :: .ref (m 44) :: .ref (m 45) :: .ref (m 46) :: .ref (m 47) :: .ref (m 48) :: .int 0 :: .ref (m 50) :: .ref (m 51) :: .ref (m 52) :: .ref (m 53) :: .ref (m 54) :: .ref (m 55) :: .ref (m 56) :: .ref (m 57) :: .ref (m 58) :: .ref (m 59) :: .ref (m 60) :: .ref (m 61) :: .int 0 :: .int 0 :: .ref (m 64) :: .ref (m 65) :: .ref (m 66) :: .ref (m 67) :: .ref (m 68) :: .ref (m 69) :: []))), ((m 0), .inl (kA 1, 1600, .inl (upd (upd (upd f 12 ((v >>> (24 &&& 31)) &&& 255)) 13 ((v >>> (16 &&& 31)) &&& 255)) 14 ((v >>> (8 &&& 31)) &&& 255))))]) h iw_X12 tyX12 tyX12_ok nmX12 0 rfl rfl 1 (by decide) tw_1157 rfl rfl rfl (Nat.le_of_ble_eq_true rfl) dX12_four_30 rfl ?_
  refine j_iinc (v := 0) (lv' := [(2, .int 0), (0, .ref h0), (1, .int v)]) h dX12_four_33 0 rfl (by decide) (by decide) rfl ?_
  refine j_goto h 3 dX12_four_36 (by decide) ?_
  refine j_iload_n h 0 rfl rfl dX12_four_3 ?_
  refine j_if_lt h 39 dX12_four_4 (by decide) (fun q => absurd q (by decide)) (fun _ => ?_)
  refine j_aload_n h 1 rfl rfl dX12_four_7 ?_
  refine j_get h iw_X12 0 rfl rfl 0 (by decide) tw_1156 rfl dX12_four_8 ?_
  refine j_aload_n h 1 rfl rfl dX12_four_11 ?_
  refine j_get h iw_X12 0 rfl rfl 1 (by decide) tw_1157 rfl dX12_four_12 ?_
  refine j_iload_n h 2 rfl rfl dX12_four_15 ?_
  refine j_iload_n h 0 rfl rfl dX12_four_16 ?_
  refine j_ishr h dX12_four_17 ?_
  refine j_sipush (v := 255) h (by decide) dX12_four_18 ?_
  refine j_iand h dX12_four_21 ?_
  refine j_iast (ws' := [(h0, .inr (12, (.ref (m 0) :: .int 15 :: .int 0 :: .int (-1) :: .int 0 :: .int 0 :: .int 0 :: .int 0 :: .int 0 :: .long 0 :: .ref (m 10) :: .ref (m 11) :: .ref (m 12) :: .ref (m 13) :: .ref (m 14) :: .ref (m 15) :: .ref (m 16) :: .ref (m 17) :: .ref (m 18) :: .ref (m 19) :: .ref (m 20) :: .ref (m 21) :: .ref (m 22) :: .ref (m 23) :: .ref (m 24) :: .int 0 :: .int 0 :: .int 0 :: .int 0 :: .int 0 :: .int 0 :: .ref (m 31) :: .ref (m 32) :: .ref (m 33) :: .ref (m 34) :: .ref (m 35) :: .int 0 :: .int 0 :: .int 0 :: .ref (m 39) :: .ref (m 40) :: .ref (m 41) :: .int 0 :: .ref (m 43) :: .ref (m 44) :: .ref (m 45) :: .ref (m 46) :: .ref (m 47) :: .ref (m 48) :: .int 0 :: .ref (m 50) :: .ref (m 51) :: .ref (m 52) :: .ref (m 53) :: .ref (m 54) :: .ref (m 55) :: .ref (m 56) :: .ref (m 57) :: .ref (m 58) :: .ref (m 59) :: .ref (m 60) :: .ref (m 61) :: .int 0 :: .int 0 :: .ref (m 64) :: .ref (m 65) :: .ref (m 66) :: .ref (m 67) :: .ref (m 68) :: .ref (m 69) :: []))), ((m 0), .inl (kA 1, 1600, .inl (upd (upd (upd (upd f 12 ((v >>> (24 &&& 31)) &&& 255)) 13 ((v >>> (16 &&& 31)) &&& 255)) 14 ((v >>> (8 &&& 31)) &&& 255)) 15 ((v >>> (0 &&& 31)) &&& 255))))]) h 1 rfl 15 (by decide) (by decide) (by decide) dX12_four_22 rfl ?_
  refine j_aload_n h 1 rfl rfl dX12_four_23 ?_
  refine j_dup h rfl dX12_four_24 ?_
  refine j_get h iw_X12 0 rfl rfl 1 (by decide) tw_1157 rfl dX12_four_25 ?_
  refine j_iconst (v := 1) h (by decide) dX12_four_28 ?_
  refine j_iadd h dX12_four_29 ?_
  refine j_top (b := 16) (by decide) ?_
  refine j_put (ws' := [(h0, .inr (12, (.ref (m 0) :: .int 16 :: .int 0 :: .int (-1) :: .int 0 :: .int 0 :: .int 0 :: .int 0 :: .int 0 :: .long 0 :: .ref (m 10) :: .ref (m 11) :: .ref (m 12) :: .ref (m 13) :: .ref (m 14) :: .ref (m 15) :: .ref (m 16) :: .ref (m 17) :: .ref (m 18) :: .ref (m 19) :: .ref (m 20) :: .ref (m 21) :: .ref (m 22) :: .ref (m 23) :: .ref (m 24) :: .int 0 :: .int 0 :: .int 0 :: .int 0 :: .int 0 :: .int 0 :: .ref (m 31) :: .ref (m 32) :: .ref (m 33) :: .ref (m 34) :: .ref (m 35) :: .int 0 :: .int 0 :: .int 0 :: .ref (m 39) :: .ref (m 40) :: .ref (m 41) :: .int 0 :: .ref (m 43) :: .ref (m 44) :: .ref (m 45) :: .ref (m 46) :: .ref (m 47) :: .ref (m 48) :: .int 0 :: .ref (m 50) :: .ref (m 51) :: .ref (m 52) :: .ref (m 53) :: .ref (m 54) :: .ref (m 55) :: .ref (m 56) :: .ref (m 57) :: .ref (m 58) :: .ref (m 59) :: .ref (m 60) :: .ref (m 61) :: .int 0 :: .int 0 :: .ref (m 64) :: .ref (m 65) :: .ref (m 66) :: .ref (m 67) :: .ref (m 68) :: .ref (m 69) :: []))), ((m 0), .inl (kA 1, 1600, .inl (upd (upd (upd (upd f 12 ((v >>> (24 &&& 31)) &&& 255)) 13 ((v >>> (16 &&& 31)) &&& 255)) 14 ((v >>> (8 &&& 31)) &&& 255)) 15 ((v >>> (0 &&& 31)) &&& 255))))]) h iw_X12 tyX12 tyX12_ok nmX12 0 rfl rfl 1 (by decide) tw_1157 rfl rfl rfl (Nat.le_of_ble_eq_true rfl) dX12_four_30 rfl ?_
  refine j_iinc (v := (-8)) (lv' := [(2, .int (-8)), (0, .ref h0), (1, .int v)]) h dX12_four_33 0 rfl (by decide) (by decide) rfl ?_
  refine j_goto h 3 dX12_four_36 (by decide) ?_
  refine j_iload_n h 0 rfl rfl dX12_four_3 ?_
  refine j_if_lt h 39 dX12_four_4 (by decide) (fun _ => ?_) (fun q => absurd (by decide) q)
  exact j_vret h hq dX12_four_39 (upd (upd (upd (upd f 12 ((v >>> (24 &&& 31)) &&& 255)) 13 ((v >>> (16 &&& 31)) &&& 255)) 14 ((v >>> (8 &&& 31)) &&& 255)) 15 ((v >>> (0 &&& 31)) &&& 255)) [0, 1] rfl rfl (by decide) trivial (Nat.le_of_ble_eq_true rfl) (Nat.le_of_ble_eq_true rfl)
set_option maxHeartbeats 4000000 in
set_option maxRecDepth 100000 in
theorem c_X12_four16 (l : Launch) (g : va_G) (kA : Nat → ClassId) (h0 : Nat) (m : Nat → Nat) (f : Nat → Int32) (v : Int32)  : CtV l yX12_four cX12_four 3 (none) 1 0 0 g kA [.ref h0, .int v] [(h0, .inr (12, (.ref (m 0) :: .int 16 :: .int 0 :: .int (-1) :: .int 0 :: .int 0 :: .int 0 :: .int 0 :: .int 0 :: .long 0 :: .ref (m 10) :: .ref (m 11) :: .ref (m 12) :: .ref (m 13) :: .ref (m 14) :: .ref (m 15) :: .ref (m 16) :: .ref (m 17) :: .ref (m 18) :: .ref (m 19) :: .ref (m 20) :: .ref (m 21) :: .ref (m 22) :: .ref (m 23) :: .ref (m 24) :: .int 0 :: .int 0 :: .int 0 :: .int 0 :: .int 0 :: .int 0 :: .ref (m 31) :: .ref (m 32) :: .ref (m 33) :: .ref (m 34) :: .ref (m 35) :: .int 0 :: .int 0 :: .int 0 :: .ref (m 39) :: .ref (m 40) :: .ref (m 41) :: .int 0 :: .ref (m 43) :: .ref (m 44) :: .ref (m 45) :: .ref (m 46) :: .ref (m 47) :: .ref (m 48) :: .int 0 :: .ref (m 50) :: .ref (m 51) :: .ref (m 52) :: .ref (m 53) :: .ref (m 54) :: .ref (m 55) :: .ref (m 56) :: .ref (m 57) :: .ref (m 58) :: .ref (m 59) :: .ref (m 60) :: .ref (m 61) :: .int 0 :: .int 0 :: .ref (m 64) :: .ref (m 65) :: .ref (m 66) :: .ref (m 67) :: .ref (m 68) :: .ref (m 69) :: []))), ((m 0), .inl (kA 1, 1600, .inl f))] (S := (Nat → Int32)) (fun (f1 : (Nat → Int32)) => True) (fun (f1 : (Nat → Int32)) => [(h0, .inr (12, (.ref (m 0) :: .int 20 :: .int 0 :: .int (-1) :: .int 0 :: .int 0 :: .int 0 :: .int 0 :: .int 0 :: .long 0 :: .ref (m 10) :: .ref (m 11) :: .ref (m 12) :: .ref (m 13) :: .ref (m 14) :: .ref (m 15) :: .ref (m 16) :: .ref (m 17) :: .ref (m 18) :: .ref (m 19) :: .ref (m 20) :: .ref (m 21) :: .ref (m 22) :: .ref (m 23) :: .ref (m 24) :: .int 0 :: .int 0 :: .int 0 :: .int 0 :: .int 0 :: .int 0 :: .ref (m 31) :: .ref (m 32) :: .ref (m 33) :: .ref (m 34) :: .ref (m 35) :: .int 0 :: .int 0 :: .int 0 :: .ref (m 39) :: .ref (m 40) :: .ref (m 41) :: .int 0 :: .ref (m 43) :: .ref (m 44) :: .ref (m 45) :: .ref (m 46) :: .ref (m 47) :: .ref (m 48) :: .int 0 :: .ref (m 50) :: .ref (m 51) :: .ref (m 52) :: .ref (m 53) :: .ref (m 54) :: .ref (m 55) :: .ref (m 56) :: .ref (m 57) :: .ref (m 58) :: .ref (m 59) :: .ref (m 60) :: .ref (m 61) :: .int 0 :: .int 0 :: .ref (m 64) :: .ref (m 65) :: .ref (m 66) :: .ref (m 67) :: .ref (m 68) :: .ref (m 69) :: []))), ((m 0), .inl (kA 1, 1600, .inl f1))]) := by
  refine nx_startV (by decide +kernel) (Nat.le_of_ble_eq_true rfl) ?_
  intro x hnm h hq
  have h : Ok x cX12_four RX12 kA (rmC 1 0 0) 3 := h
  show J x [(h0, .inr (12, (.ref (m 0) :: .int 16 :: .int 0 :: .int (-1) :: .int 0 :: .int 0 :: .int 0 :: .int 0 :: .int 0 :: .long 0 :: .ref (m 10) :: .ref (m 11) :: .ref (m 12) :: .ref (m 13) :: .ref (m 14) :: .ref (m 15) :: .ref (m 16) :: .ref (m 17) :: .ref (m 18) :: .ref (m 19) :: .ref (m 20) :: .ref (m 21) :: .ref (m 22) :: .ref (m 23) :: .ref (m 24) :: .int 0 :: .int 0 :: .int 0 :: .int 0 :: .int 0 :: .int 0 :: .ref (m 31) :: .ref (m 32) :: .ref (m 33) :: .ref (m 34) :: .ref (m 35) :: .int 0 :: .int 0 :: .int 0 :: .ref (m 39) :: .ref (m 40) :: .ref (m 41) :: .int 0 :: .ref (m 43) :: .ref (m 44) :: .ref (m 45) :: .ref (m 46) :: .ref (m 47) :: .ref (m 48) :: .int 0 :: .ref (m 50) :: .ref (m 51) :: .ref (m 52) :: .ref (m 53) :: .ref (m 54) :: .ref (m 55) :: .ref (m 56) :: .ref (m 57) :: .ref (m 58) :: .ref (m 59) :: .ref (m 60) :: .ref (m 61) :: .int 0 :: .int 0 :: .ref (m 64) :: .ref (m 65) :: .ref (m 66) :: .ref (m 67) :: .ref (m 68) :: .ref (m 69) :: []))), ((m 0), .inl (kA 1, 1600, .inl f))] [(0, .ref h0), (1, .int v)] 0 0 0 []
  refine j_bipush (v := 24) h (by decide) dX12_four_0 ?_
  refine j_istore_n (lv' := [(2, .int 24), (0, .ref h0), (1, .int v)]) h dX12_four_2 rfl (by decide) rfl ?_
  refine j_iload_n h 0 rfl rfl dX12_four_3 ?_
  refine j_if_lt h 39 dX12_four_4 (by decide) (fun q => absurd q (by decide)) (fun _ => ?_)
  refine j_aload_n h 1 rfl rfl dX12_four_7 ?_
  refine j_get h iw_X12 0 rfl rfl 0 (by decide) tw_1156 rfl dX12_four_8 ?_
  refine j_aload_n h 1 rfl rfl dX12_four_11 ?_
  refine j_get h iw_X12 0 rfl rfl 1 (by decide) tw_1157 rfl dX12_four_12 ?_
  refine j_iload_n h 2 rfl rfl dX12_four_15 ?_
  refine j_iload_n h 0 rfl rfl dX12_four_16 ?_
  refine j_ishr h dX12_four_17 ?_
  refine j_sipush (v := 255) h (by decide) dX12_four_18 ?_
  refine j_iand h dX12_four_21 ?_
  refine j_iast (ws' := [(h0, .inr (12, (.ref (m 0) :: .int 16 :: .int 0 :: .int (-1) :: .int 0 :: .int 0 :: .int 0 :: .int 0 :: .int 0 :: .long 0 :: .ref (m 10) :: .ref (m 11) :: .ref (m 12) :: .ref (m 13) :: .ref (m 14) :: .ref (m 15) :: .ref (m 16) :: .ref (m 17) :: .ref (m 18) :: .ref (m 19) :: .ref (m 20) :: .ref (m 21) :: .ref (m 22) :: .ref (m 23) :: .ref (m 24) :: .int 0 :: .int 0 :: .int 0 :: .int 0 :: .int 0 :: .int 0 :: .ref (m 31) :: .ref (m 32) :: .ref (m 33) :: .ref (m 34) :: .ref (m 35) :: .int 0 :: .int 0 :: .int 0 :: .ref (m 39) :: .ref (m 40) :: .ref (m 41) :: .int 0 :: .ref (m 43) :: .ref (m 44) :: .ref (m 45) :: .ref (m 46) :: .ref (m 47) :: .ref (m 48) :: .int 0 :: .ref (m 50) :: .ref (m 51) :: .ref (m 52) :: .ref (m 53) :: .ref (m 54) :: .ref (m 55) :: .ref (m 56) :: .ref (m 57) :: .ref (m 58) :: .ref (m 59) :: .ref (m 60) :: .ref (m 61) :: .int 0 :: .int 0 :: .ref (m 64) :: .ref (m 65) :: .ref (m 66) :: .ref (m 67) :: .ref (m 68) :: .ref (m 69) :: []))), ((m 0), .inl (kA 1, 1600, .inl (upd f 16 ((v >>> (24 &&& 31)) &&& 255))))]) h 1 rfl 16 (by decide) (by decide) (by decide) dX12_four_22 rfl ?_
  refine j_aload_n h 1 rfl rfl dX12_four_23 ?_
  refine j_dup h rfl dX12_four_24 ?_
  refine j_get h iw_X12 0 rfl rfl 1 (by decide) tw_1157 rfl dX12_four_25 ?_
  refine j_iconst (v := 1) h (by decide) dX12_four_28 ?_
  refine j_iadd h dX12_four_29 ?_
  refine j_top (b := 17) (by decide) ?_
  refine j_put (ws' := [(h0, .inr (12, (.ref (m 0) :: .int 17 :: .int 0 :: .int (-1) :: .int 0 :: .int 0 :: .int 0 :: .int 0 :: .int 0 :: .long 0 :: .ref (m 10) :: .ref (m 11) :: .ref (m 12) :: .ref (m 13) :: .ref (m 14) :: .ref (m 15) :: .ref (m 16) :: .ref (m 17) :: .ref (m 18) :: .ref (m 19) :: .ref (m 20) :: .ref (m 21) :: .ref (m 22) :: .ref (m 23) :: .ref (m 24) :: .int 0 :: .int 0 :: .int 0 :: .int 0 :: .int 0 :: .int 0 :: .ref (m 31) :: .ref (m 32) :: .ref (m 33) :: .ref (m 34) :: .ref (m 35) :: .int 0 :: .int 0 :: .int 0 :: .ref (m 39) :: .ref (m 40) :: .ref (m 41) :: .int 0 :: .ref (m 43) :: .ref (m 44) :: .ref (m 45) :: .ref (m 46) :: .ref (m 47) :: .ref (m 48) :: .int 0 :: .ref (m 50) :: .ref (m 51) :: .ref (m 52) :: .ref (m 53) :: .ref (m 54) :: .ref (m 55) :: .ref (m 56) :: .ref (m 57) :: .ref (m 58) :: .ref (m 59) :: .ref (m 60) :: .ref (m 61) :: .int 0 :: .int 0 :: .ref (m 64) :: .ref (m 65) :: .ref (m 66) :: .ref (m 67) :: .ref (m 68) :: .ref (m 69) :: []))), ((m 0), .inl (kA 1, 1600, .inl (upd f 16 ((v >>> (24 &&& 31)) &&& 255))))]) h iw_X12 tyX12 tyX12_ok nmX12 0 rfl rfl 1 (by decide) tw_1157 rfl rfl rfl (Nat.le_of_ble_eq_true rfl) dX12_four_30 rfl ?_
  refine j_iinc (v := 16) (lv' := [(2, .int 16), (0, .ref h0), (1, .int v)]) h dX12_four_33 0 rfl (by decide) (by decide) rfl ?_
  refine j_goto h 3 dX12_four_36 (by decide) ?_
  refine j_iload_n h 0 rfl rfl dX12_four_3 ?_
  refine j_if_lt h 39 dX12_four_4 (by decide) (fun q => absurd q (by decide)) (fun _ => ?_)
  refine j_aload_n h 1 rfl rfl dX12_four_7 ?_
  refine j_get h iw_X12 0 rfl rfl 0 (by decide) tw_1156 rfl dX12_four_8 ?_
  refine j_aload_n h 1 rfl rfl dX12_four_11 ?_
  refine j_get h iw_X12 0 rfl rfl 1 (by decide) tw_1157 rfl dX12_four_12 ?_
  refine j_iload_n h 2 rfl rfl dX12_four_15 ?_
  refine j_iload_n h 0 rfl rfl dX12_four_16 ?_
  refine j_ishr h dX12_four_17 ?_
  refine j_sipush (v := 255) h (by decide) dX12_four_18 ?_
  refine j_iand h dX12_four_21 ?_
  refine j_iast (ws' := [(h0, .inr (12, (.ref (m 0) :: .int 17 :: .int 0 :: .int (-1) :: .int 0 :: .int 0 :: .int 0 :: .int 0 :: .int 0 :: .long 0 :: .ref (m 10) :: .ref (m 11) :: .ref (m 12) :: .ref (m 13) :: .ref (m 14) :: .ref (m 15) :: .ref (m 16) :: .ref (m 17) :: .ref (m 18) :: .ref (m 19) :: .ref (m 20) :: .ref (m 21) :: .ref (m 22) :: .ref (m 23) :: .ref (m 24) :: .int 0 :: .int 0 :: .int 0 :: .int 0 :: .int 0 :: .int 0 :: .ref (m 31) :: .ref (m 32) :: .ref (m 33) :: .ref (m 34) :: .ref (m 35) :: .int 0 :: .int 0 :: .int 0 :: .ref (m 39) :: .ref (m 40) :: .ref (m 41) :: .int 0 :: .ref (m 43) :: .ref (m 44) :: .ref (m 45) :: .ref (m 46) :: .ref (m 47) :: .ref (m 48) :: .int 0 :: .ref (m 50) :: .ref (m 51) :: .ref (m 52) :: .ref (m 53) :: .ref (m 54) :: .ref (m 55) :: .ref (m 56) :: .ref (m 57) :: .ref (m 58) :: .ref (m 59) :: .ref (m 60) :: .ref (m 61) :: .int 0 :: .int 0 :: .ref (m 64) :: .ref (m 65) :: .ref (m 66) :: .ref (m 67) :: .ref (m 68) :: .ref (m 69) :: []))), ((m 0), .inl (kA 1, 1600, .inl (upd (upd f 16 ((v >>> (24 &&& 31)) &&& 255)) 17 ((v >>> (16 &&& 31)) &&& 255))))]) h 1 rfl 17 (by decide) (by decide) (by decide) dX12_four_22 rfl ?_
  refine j_aload_n h 1 rfl rfl dX12_four_23 ?_
  refine j_dup h rfl dX12_four_24 ?_
  refine j_get h iw_X12 0 rfl rfl 1 (by decide) tw_1157 rfl dX12_four_25 ?_
  refine j_iconst (v := 1) h (by decide) dX12_four_28 ?_
  refine j_iadd h dX12_four_29 ?_
  refine j_top (b := 18) (by decide) ?_
  refine j_put (ws' := [(h0, .inr (12, (.ref (m 0) :: .int 18 :: .int 0 :: .int (-1) :: .int 0 :: .int 0 :: .int 0 :: .int 0 :: .int 0 :: .long 0 :: .ref (m 10) :: .ref (m 11) :: .ref (m 12) :: .ref (m 13) :: .ref (m 14) :: .ref (m 15) :: .ref (m 16) :: .ref (m 17) :: .ref (m 18) :: .ref (m 19) :: .ref (m 20) :: .ref (m 21) :: .ref (m 22) :: .ref (m 23) :: .ref (m 24) :: .int 0 :: .int 0 :: .int 0 :: .int 0 :: .int 0 :: .int 0 :: .ref (m 31) :: .ref (m 32) :: .ref (m 33) :: .ref (m 34) :: .ref (m 35) :: .int 0 :: .int 0 :: .int 0 :: .ref (m 39) :: .ref (m 40) :: .ref (m 41) :: .int 0 :: .ref (m 43) :: .ref (m 44) :: .ref (m 45) :: .ref (m 46) :: .ref (m 47) :: .ref (m 48) :: .int 0 :: .ref (m 50) :: .ref (m 51) :: .ref (m 52) :: .ref (m 53) :: .ref (m 54) :: .ref (m 55) :: .ref (m 56) :: .ref (m 57) :: .ref (m 58) :: .ref (m 59) :: .ref (m 60) :: .ref (m 61) :: .int 0 :: .int 0 :: .ref (m 64) :: .ref (m 65) :: .ref (m 66) :: .ref (m 67) :: .ref (m 68) :: .ref (m 69) :: []))), ((m 0), .inl (kA 1, 1600, .inl (upd (upd f 16 ((v >>> (24 &&& 31)) &&& 255)) 17 ((v >>> (16 &&& 31)) &&& 255))))]) h iw_X12 tyX12 tyX12_ok nmX12 0 rfl rfl 1 (by decide) tw_1157 rfl rfl rfl (Nat.le_of_ble_eq_true rfl) dX12_four_30 rfl ?_
  refine j_iinc (v := 8) (lv' := [(2, .int 8), (0, .ref h0), (1, .int v)]) h dX12_four_33 0 rfl (by decide) (by decide) rfl ?_
  refine j_goto h 3 dX12_four_36 (by decide) ?_
  refine j_iload_n h 0 rfl rfl dX12_four_3 ?_
  refine j_if_lt h 39 dX12_four_4 (by decide) (fun q => absurd q (by decide)) (fun _ => ?_)
  refine j_aload_n h 1 rfl rfl dX12_four_7 ?_
  refine j_get h iw_X12 0 rfl rfl 0 (by decide) tw_1156 rfl dX12_four_8 ?_
  refine j_aload_n h 1 rfl rfl dX12_four_11 ?_
  refine j_get h iw_X12 0 rfl rfl 1 (by decide) tw_1157 rfl dX12_four_12 ?_
  refine j_iload_n h 2 rfl rfl dX12_four_15 ?_
  refine j_iload_n h 0 rfl rfl dX12_four_16 ?_
  refine j_ishr h dX12_four_17 ?_
  refine j_sipush (v := 255) h (by decide) dX12_four_18 ?_
  refine j_iand h dX12_four_21 ?_
  refine j_iast (ws' := [(h0, .inr (12, (.ref (m 0) :: .int 18 :: .int 0 :: .int (-1) :: .int 0 :: .int 0 :: .int 0 :: .int 0 :: .int 0 :: .long 0 :: .ref (m 10) :: .ref (m 11) :: .ref (m 12) :: .ref (m 13) :: .ref (m 14) :: .ref (m 15) :: .ref (m 16) :: .ref (m 17) :: .ref (m 18) :: .ref (m 19) :: .ref (m 20) :: .ref (m 21) :: .ref (m 22) :: .ref (m 23) :: .ref (m 24) :: .int 0 :: .int 0 :: .int 0 :: .int 0 :: .int 0 :: .int 0 :: .ref (m 31) :: .ref (m 32) :: .ref (m 33) :: .ref (m 34) :: .ref (m 35) :: .int 0 :: .int 0 :: .int 0 :: .ref (m 39) :: .ref (m 40) :: .ref (m 41) :: .int 0 :: .ref (m 43) :: .ref (m 44) :: .ref (m 45) :: .ref (m 46) :: .ref (m 47) :: .ref (m 48) :: .int 0 :: .ref (m 50) :: .ref (m 51) :: .ref (m 52) :: .ref (m 53) :: .ref (m 54) :: .ref (m 55) :: .ref (m 56) :: .ref (m 57) :: .ref (m 58) :: .ref (m 59) :: .ref (m 60) :: .ref (m 61) :: .int 0 :: .int 0 :: .ref (m 64) :: .ref (m 65) :: .ref (m 66) :: .ref (m 67) :: .ref (m 68) :: .ref (m 69) :: []))), ((m 0), .inl (kA 1, 1600, .inl (upd (upd (upd f 16 ((v >>> (24 &&& 31)) &&& 255)) 17 ((v >>> (16 &&& 31)) &&& 255)) 18 ((v >>> (8 &&& 31)) &&& 255))))]) h 1 rfl 18 (by decide) (by decide) (by decide) dX12_four_22 rfl ?_
  refine j_aload_n h 1 rfl rfl dX12_four_23 ?_
  refine j_dup h rfl dX12_four_24 ?_
  refine j_get h iw_X12 0 rfl rfl 1 (by decide) tw_1157 rfl dX12_four_25 ?_
  refine j_iconst (v := 1) h (by decide) dX12_four_28 ?_
  refine j_iadd h dX12_four_29 ?_
  refine j_top (b := 19) (by decide) ?_
  refine j_put (ws' := [(h0, .inr (12, (.ref (m 0) :: .int 19 :: .int 0 :: .int (-1) :: .int 0 :: .int 0 :: .int 0 :: .int 0 :: .int 0 :: .long 0 :: .ref (m 10) :: .ref (m 11) :: .ref (m 12) :: .ref (m 13) :: .ref (m 14) :: .ref (m 15) :: .ref (m 16) :: .ref (m 17) :: .ref (m 18) :: .ref (m 19) :: .ref (m 20) :: .ref (m 21) :: .ref (m 22) :: .ref (m 23) :: .ref (m 24) :: .int 0 :: .int 0 :: .int 0 :: .int 0 :: .int 0 :: .int 0 :: .ref (m 31) :: .ref (m 32) :: .ref (m 33) :: .ref (m 34) :: .ref (m 35) :: .int 0 :: .int 0 :: .int 0 :: .ref (m 39) :: .ref (m 40) :: .ref (m 41) :: .int 0 :: .ref (m 43) :: .ref (m 44) :: .ref (m 45) :: .ref (m 46) :: .ref (m 47) :: .ref (m 48) :: .int 0 :: .ref (m 50) :: .ref (m 51) :: .ref (m 52) :: .ref (m 53) :: .ref (m 54) :: .ref (m 55) :: .ref (m 56) :: .ref (m 57) :: .ref (m 58) :: .ref (m 59) :: .ref (m 60) :: .ref (m 61) :: .int 0 :: .int 0 :: .ref (m 64) :: .ref (m 65) :: .ref (m 66) :: .ref (m 67) :: .ref (m 68) :: .ref (m 69) :: []))), ((m 0), .inl (kA 1, 1600, .inl (upd (upd (upd f 16 ((v >>> (24 &&& 31)) &&& 255)) 17 ((v >>> (16 &&& 31)) &&& 255)) 18 ((v >>> (8 &&& 31)) &&& 255))))]) h iw_X12 tyX12 tyX12_ok nmX12 0 rfl rfl 1 (by decide) tw_1157 rfl rfl rfl (Nat.le_of_ble_eq_true rfl) dX12_four_30 rfl ?_
  refine j_iinc (v := 0) (lv' := [(2, .int 0), (0, .ref h0), (1, .int v)]) h dX12_four_33 0 rfl (by decide) (by decide) rfl ?_
  refine j_goto h 3 dX12_four_36 (by decide) ?_
  refine j_iload_n h 0 rfl rfl dX12_four_3 ?_
  refine j_if_lt h 39 dX12_four_4 (by decide) (fun q => absurd q (by decide)) (fun _ => ?_)
  refine j_aload_n h 1 rfl rfl dX12_four_7 ?_
  refine j_get h iw_X12 0 rfl rfl 0 (by decide) tw_1156 rfl dX12_four_8 ?_
  refine j_aload_n h 1 rfl rfl dX12_four_11 ?_
  refine j_get h iw_X12 0 rfl rfl 1 (by decide) tw_1157 rfl dX12_four_12 ?_
  refine j_iload_n h 2 rfl rfl dX12_four_15 ?_
  refine j_iload_n h 0 rfl rfl dX12_four_16 ?_
  refine j_ishr h dX12_four_17 ?_
  refine j_sipush (v := 255) h (by decide) dX12_four_18 ?_
  refine j_iand h dX12_four_21 ?_
  refine j_iast (ws' := [(h0, .inr (12, (.ref (m 0) :: .int 19 :: .int 0 :: .int (-1) :: .int 0 :: .int 0 :: .int 0 :: .int 0 :: .int 0 :: .long 0 :: .ref (m 10) :: .ref (m 11) :: .ref (m 12) :: .ref (m 13) :: .ref (m 14) :: .ref (m 15) :: .ref (m 16) :: .ref (m 17) :: .ref (m 18) :: .ref (m 19) :: .ref (m 20) :: .ref (m 21) :: .ref (m 22) :: .ref (m 23) :: .ref (m 24) :: .int 0 :: .int 0 :: .int 0 :: .int 0 :: .int 0 :: .int 0 :: .ref (m 31) :: .ref (m 32) :: .ref (m 33) :: .ref (m 34) :: .ref (m 35) :: .int 0 :: .int 0 :: .int 0 :: .ref (m 39) :: .ref (m 40) :: .ref (m 41) :: .int 0 :: .ref (m 43) :: .ref (m 44) :: .ref (m 45) :: .ref (m 46) :: .ref (m 47) :: .ref (m 48) :: .int 0 :: .ref (m 50) :: .ref (m 51) :: .ref (m 52) :: .ref (m 53) :: .ref (m 54) :: .ref (m 55) :: .ref (m 56) :: .ref (m 57) :: .ref (m 58) :: .ref (m 59) :: .ref (m 60) :: .ref (m 61) :: .int 0 :: .int 0 :: .ref (m 64) :: .ref (m 65) :: .ref (m 66) :: .ref (m 67) :: .ref (m 68) :: .ref (m 69) :: []))), ((m 0), .inl (kA 1, 1600, .inl (upd (upd (upd (upd f 16 ((v >>> (24 &&& 31)) &&& 255)) 17 ((v >>> (16 &&& 31)) &&& 255)) 18 ((v >>> (8 &&& 31)) &&& 255)) 19 ((v >>> (0 &&& 31)) &&& 255))))]) h 1 rfl 19 (by decide) (by decide) (by decide) dX12_four_22 rfl ?_
  refine j_aload_n h 1 rfl rfl dX12_four_23 ?_
  refine j_dup h rfl dX12_four_24 ?_
  refine j_get h iw_X12 0 rfl rfl 1 (by decide) tw_1157 rfl dX12_four_25 ?_
  refine j_iconst (v := 1) h (by decide) dX12_four_28 ?_
  refine j_iadd h dX12_four_29 ?_
  refine j_top (b := 20) (by decide) ?_
  refine j_put (ws' := [(h0, .inr (12, (.ref (m 0) :: .int 20 :: .int 0 :: .int (-1) :: .int 0 :: .int 0 :: .int 0 :: .int 0 :: .int 0 :: .long 0 :: .ref (m 10) :: .ref (m 11) :: .ref (m 12) :: .ref (m 13) :: .ref (m 14) :: .ref (m 15) :: .ref (m 16) :: .ref (m 17) :: .ref (m 18) :: .ref (m 19) :: .ref (m 20) :: .ref (m 21) :: .ref (m 22) :: .ref (m 23) :: .ref (m 24) :: .int 0 :: .int 0 :: .int 0 :: .int 0 :: .int 0 :: .int 0 :: .ref (m 31) :: .ref (m 32) :: .ref (m 33) :: .ref (m 34) :: .ref (m 35) :: .int 0 :: .int 0 :: .int 0 :: .ref (m 39) :: .ref (m 40) :: .ref (m 41) :: .int 0 :: .ref (m 43) :: .ref (m 44) :: .ref (m 45) :: .ref (m 46) :: .ref (m 47) :: .ref (m 48) :: .int 0 :: .ref (m 50) :: .ref (m 51) :: .ref (m 52) :: .ref (m 53) :: .ref (m 54) :: .ref (m 55) :: .ref (m 56) :: .ref (m 57) :: .ref (m 58) :: .ref (m 59) :: .ref (m 60) :: .ref (m 61) :: .int 0 :: .int 0 :: .ref (m 64) :: .ref (m 65) :: .ref (m 66) :: .ref (m 67) :: .ref (m 68) :: .ref (m 69) :: []))), ((m 0), .inl (kA 1, 1600, .inl (upd (upd (upd (upd f 16 ((v >>> (24 &&& 31)) &&& 255)) 17 ((v >>> (16 &&& 31)) &&& 255)) 18 ((v >>> (8 &&& 31)) &&& 255)) 19 ((v >>> (0 &&& 31)) &&& 255))))]) h iw_X12 tyX12 tyX12_ok nmX12 0 rfl rfl 1 (by decide) tw_1157 rfl rfl rfl (Nat.le_of_ble_eq_true rfl) dX12_four_30 rfl ?_
  refine j_iinc (v := (-8)) (lv' := [(2, .int (-8)), (0, .ref h0), (1, .int v)]) h dX12_four_33 0 rfl (by decide) (by decide) rfl ?_
  refine j_goto h 3 dX12_four_36 (by decide) ?_
  refine j_iload_n h 0 rfl rfl dX12_four_3 ?_
  refine j_if_lt h 39 dX12_four_4 (by decide) (fun _ => ?_) (fun q => absurd (by decide) q)
  exact j_vret h hq dX12_four_39 (upd (upd (upd (upd f 16 ((v >>> (24 &&& 31)) &&& 255)) 17 ((v >>> (16 &&& 31)) &&& 255)) 18 ((v >>> (8 &&& 31)) &&& 255)) 19 ((v >>> (0 &&& 31)) &&& 255)) [0, 1] rfl rfl (by decide) trivial (Nat.le_of_ble_eq_true rfl) (Nat.le_of_ble_eq_true rfl)
set_option maxHeartbeats 4000000 in
set_option maxRecDepth 100000 in
theorem c_X12_feed (l : Launch) (g : va_G) (kA : Nat → ClassId) (h0 : Nat) (m : Nat → Nat) (a : Int32) (b : Int32) (c : Int32) (d : Int32) (e : Int32)  : CtI l yX12_feed cX12_feed 6 (some .int) 3 0 0 g kA [.ref h0, .int a, .int b, .int c, .int d, .int e] [(h0, .inr (12, (.ref (m 0) :: .int 0 :: .int 0 :: .int (-1) :: .int 0 :: .int 0 :: .int 0 :: .int 0 :: .int 0 :: .long 0 :: .ref (m 10) :: .ref (m 11) :: .ref (m 12) :: .ref (m 13) :: .ref (m 14) :: .ref (m 15) :: .ref (m 16) :: .ref (m 17) :: .ref (m 18) :: .ref (m 19) :: .ref (m 20) :: .ref (m 21) :: .ref (m 22) :: .ref (m 23) :: .ref (m 24) :: .int 0 :: .int 0 :: .int 0 :: .int 0 :: .int 0 :: .int 0 :: .ref (m 31) :: .ref (m 32) :: .ref (m 33) :: .ref (m 34) :: .ref (m 35) :: .int 0 :: .int 0 :: .int 0 :: .ref (m 39) :: .ref (m 40) :: .ref (m 41) :: .int 0 :: .ref (m 43) :: .ref (m 44) :: .ref (m 45) :: .ref (m 46) :: .ref (m 47) :: .ref (m 48) :: .int 0 :: .ref (m 50) :: .ref (m 51) :: .ref (m 52) :: .ref (m 53) :: .ref (m 54) :: .ref (m 55) :: .ref (m 56) :: .ref (m 57) :: .ref (m 58) :: .ref (m 59) :: .ref (m 60) :: .ref (m 61) :: .int 0 :: .int 0 :: .ref (m 64) :: .ref (m 65) :: .ref (m 66) :: .ref (m 67) :: .ref (m 68) :: .ref (m 69) :: []))), ((m 0), .inl (kA 1, 1600, .inl (fun _ => 0)))] (S := Unit) (fun (r : Int32) (_ : Unit) => r = 20) (fun (_ : Unit) => []) := by
  refine nx_startI (by decide +kernel) (Nat.le_of_ble_eq_true rfl) ?_
  intro x hnm h hq
  have h : Ok x cX12_feed RX12 kA (rmC 3 0 0) 6 := h
  show J x [(h0, .inr (12, (.ref (m 0) :: .int 0 :: .int 0 :: .int (-1) :: .int 0 :: .int 0 :: .int 0 :: .int 0 :: .int 0 :: .long 0 :: .ref (m 10) :: .ref (m 11) :: .ref (m 12) :: .ref (m 13) :: .ref (m 14) :: .ref (m 15) :: .ref (m 16) :: .ref (m 17) :: .ref (m 18) :: .ref (m 19) :: .ref (m 20) :: .ref (m 21) :: .ref (m 22) :: .ref (m 23) :: .ref (m 24) :: .int 0 :: .int 0 :: .int 0 :: .int 0 :: .int 0 :: .int 0 :: .ref (m 31) :: .ref (m 32) :: .ref (m 33) :: .ref (m 34) :: .ref (m 35) :: .int 0 :: .int 0 :: .int 0 :: .ref (m 39) :: .ref (m 40) :: .ref (m 41) :: .int 0 :: .ref (m 43) :: .ref (m 44) :: .ref (m 45) :: .ref (m 46) :: .ref (m 47) :: .ref (m 48) :: .int 0 :: .ref (m 50) :: .ref (m 51) :: .ref (m 52) :: .ref (m 53) :: .ref (m 54) :: .ref (m 55) :: .ref (m 56) :: .ref (m 57) :: .ref (m 58) :: .ref (m 59) :: .ref (m 60) :: .ref (m 61) :: .int 0 :: .int 0 :: .ref (m 64) :: .ref (m 65) :: .ref (m 66) :: .ref (m 67) :: .ref (m 68) :: .ref (m 69) :: []))), ((m 0), .inl (kA 1, 1600, .inl (fun _ => 0)))] [(0, .ref h0), (1, .int a), (2, .int b), (3, .int c), (4, .int d), (5, .int e)] 0 0 0 []
  refine j_aload_n h 0 rfl rfl dX12_feed_0 ?_
  refine j_get h iw_X12 0 rfl rfl 1 (by decide) tw_1157 rfl dX12_feed_1 ?_
  refine j_bipush (v := 20) h (by decide) dX12_feed_4 ?_
  refine j_iadd h dX12_feed_6 ?_
  refine j_top (b := 20) (by decide) ?_
  refine j_sipush (v := 1600) h (by decide) dX12_feed_7 ?_
  refine j_icmp_le h 15 dX12_feed_10 (by decide) (fun _ => ?_) (fun q => absurd (by decide) q)
  refine j_aload_n h 0 rfl rfl dX12_feed_15 ?_
  refine j_iload_n h 1 rfl rfl dX12_feed_16 ?_
  refine j_callVv (np := 1) (isC := [0, 1]) (isR := []) (wc := [(h0, .inr (12, (.ref (m 0) :: .int 0 :: .int 0 :: .int (-1) :: .int 0 :: .int 0 :: .int 0 :: .int 0 :: .int 0 :: .long 0 :: .ref (m 10) :: .ref (m 11) :: .ref (m 12) :: .ref (m 13) :: .ref (m 14) :: .ref (m 15) :: .ref (m 16) :: .ref (m 17) :: .ref (m 18) :: .ref (m 19) :: .ref (m 20) :: .ref (m 21) :: .ref (m 22) :: .ref (m 23) :: .ref (m 24) :: .int 0 :: .int 0 :: .int 0 :: .int 0 :: .int 0 :: .int 0 :: .ref (m 31) :: .ref (m 32) :: .ref (m 33) :: .ref (m 34) :: .ref (m 35) :: .int 0 :: .int 0 :: .int 0 :: .ref (m 39) :: .ref (m 40) :: .ref (m 41) :: .int 0 :: .ref (m 43) :: .ref (m 44) :: .ref (m 45) :: .ref (m 46) :: .ref (m 47) :: .ref (m 48) :: .int 0 :: .ref (m 50) :: .ref (m 51) :: .ref (m 52) :: .ref (m 53) :: .ref (m 54) :: .ref (m 55) :: .ref (m 56) :: .ref (m 57) :: .ref (m 58) :: .ref (m 59) :: .ref (m 60) :: .ref (m 61) :: .int 0 :: .int 0 :: .ref (m 64) :: .ref (m 65) :: .ref (m 66) :: .ref (m 67) :: .ref (m 68) :: .ref (m 69) :: []))), ((m 0), .inl (kA 1, 1600, .inl (fun _ => 0)))]) (wr := []) (rest := []) (As := [.int a]) (q0 := 0) h (c_X12_four0 _ _ kA h0 m (fun _ => 0) a ) tw_1371 tw_1373 tw_39 tw_99 tw_1374 (by decide +kernel) rfl ⟨Nat.le_of_ble_eq_true rfl, Nat.le_of_ble_eq_true rfl⟩ rfl rfl rfl (by decide) rfl rfl (by decide) (by decide) (Nat.le_of_ble_eq_true rfl) rfl ⟨Nat.le_of_ble_eq_true rfl, Nat.le_of_ble_eq_true rfl⟩ dX12_feed_17 ?_
  rintro q348 e349
  show J x [(h0, .inr (12, (.ref (m 0) :: .int 4 :: .int 0 :: .int (-1) :: .int 0 :: .int 0 :: .int 0 :: .int 0 :: .int 0 :: .long 0 :: .ref (m 10) :: .ref (m 11) :: .ref (m 12) :: .ref (m 13) :: .ref (m 14) :: .ref (m 15) :: .ref (m 16) :: .ref (m 17) :: .ref (m 18) :: .ref (m 19) :: .ref (m 20) :: .ref (m 21) :: .ref (m 22) :: .ref (m 23) :: .ref (m 24) :: .int 0 :: .int 0 :: .int 0 :: .int 0 :: .int 0 :: .int 0 :: .ref (m 31) :: .ref (m 32) :: .ref (m 33) :: .ref (m 34) :: .ref (m 35) :: .int 0 :: .int 0 :: .int 0 :: .ref (m 39) :: .ref (m 40) :: .ref (m 41) :: .int 0 :: .ref (m 43) :: .ref (m 44) :: .ref (m 45) :: .ref (m 46) :: .ref (m 47) :: .ref (m 48) :: .int 0 :: .ref (m 50) :: .ref (m 51) :: .ref (m 52) :: .ref (m 53) :: .ref (m 54) :: .ref (m 55) :: .ref (m 56) :: .ref (m 57) :: .ref (m 58) :: .ref (m 59) :: .ref (m 60) :: .ref (m 61) :: .int 0 :: .int 0 :: .ref (m 64) :: .ref (m 65) :: .ref (m 66) :: .ref (m 67) :: .ref (m 68) :: .ref (m 69) :: []))), ((m 0), .inl (kA 1, 1600, .inl q348))] [(0, .ref h0), (1, .int a), (2, .int b), (3, .int c), (4, .int d), (5, .int e)] 0 0 20 []
  refine j_aload_n h 0 rfl rfl dX12_feed_20 ?_
  refine j_iload_n h 2 rfl rfl dX12_feed_21 ?_
  refine j_callVv (np := 1) (isC := [0, 1]) (isR := []) (wc := [(h0, .inr (12, (.ref (m 0) :: .int 4 :: .int 0 :: .int (-1) :: .int 0 :: .int 0 :: .int 0 :: .int 0 :: .int 0 :: .long 0 :: .ref (m 10) :: .ref (m 11) :: .ref (m 12) :: .ref (m 13) :: .ref (m 14) :: .ref (m 15) :: .ref (m 16) :: .ref (m 17) :: .ref (m 18) :: .ref (m 19) :: .ref (m 20) :: .ref (m 21) :: .ref (m 22) :: .ref (m 23) :: .ref (m 24) :: .int 0 :: .int 0 :: .int 0 :: .int 0 :: .int 0 :: .int 0 :: .ref (m 31) :: .ref (m 32) :: .ref (m 33) :: .ref (m 34) :: .ref (m 35) :: .int 0 :: .int 0 :: .int 0 :: .ref (m 39) :: .ref (m 40) :: .ref (m 41) :: .int 0 :: .ref (m 43) :: .ref (m 44) :: .ref (m 45) :: .ref (m 46) :: .ref (m 47) :: .ref (m 48) :: .int 0 :: .ref (m 50) :: .ref (m 51) :: .ref (m 52) :: .ref (m 53) :: .ref (m 54) :: .ref (m 55) :: .ref (m 56) :: .ref (m 57) :: .ref (m 58) :: .ref (m 59) :: .ref (m 60) :: .ref (m 61) :: .int 0 :: .int 0 :: .ref (m 64) :: .ref (m 65) :: .ref (m 66) :: .ref (m 67) :: .ref (m 68) :: .ref (m 69) :: []))), ((m 0), .inl (kA 1, 1600, .inl q348))]) (wr := []) (rest := []) (As := [.int b]) (q0 := 0) h (c_X12_four4 _ _ kA h0 m q348 b ) tw_1371 tw_1373 tw_39 tw_99 tw_1374 (by decide +kernel) rfl ⟨Nat.le_of_ble_eq_true rfl, Nat.le_of_ble_eq_true rfl⟩ rfl rfl rfl (by decide) rfl rfl (by decide) (by decide) (Nat.le_of_ble_eq_true rfl) rfl ⟨Nat.le_of_ble_eq_true rfl, Nat.le_of_ble_eq_true rfl⟩ dX12_feed_22 ?_
  rintro q350 e351
  show J x [(h0, .inr (12, (.ref (m 0) :: .int 8 :: .int 0 :: .int (-1) :: .int 0 :: .int 0 :: .int 0 :: .int 0 :: .int 0 :: .long 0 :: .ref (m 10) :: .ref (m 11) :: .ref (m 12) :: .ref (m 13) :: .ref (m 14) :: .ref (m 15) :: .ref (m 16) :: .ref (m 17) :: .ref (m 18) :: .ref (m 19) :: .ref (m 20) :: .ref (m 21) :: .ref (m 22) :: .ref (m 23) :: .ref (m 24) :: .int 0 :: .int 0 :: .int 0 :: .int 0 :: .int 0 :: .int 0 :: .ref (m 31) :: .ref (m 32) :: .ref (m 33) :: .ref (m 34) :: .ref (m 35) :: .int 0 :: .int 0 :: .int 0 :: .ref (m 39) :: .ref (m 40) :: .ref (m 41) :: .int 0 :: .ref (m 43) :: .ref (m 44) :: .ref (m 45) :: .ref (m 46) :: .ref (m 47) :: .ref (m 48) :: .int 0 :: .ref (m 50) :: .ref (m 51) :: .ref (m 52) :: .ref (m 53) :: .ref (m 54) :: .ref (m 55) :: .ref (m 56) :: .ref (m 57) :: .ref (m 58) :: .ref (m 59) :: .ref (m 60) :: .ref (m 61) :: .int 0 :: .int 0 :: .ref (m 64) :: .ref (m 65) :: .ref (m 66) :: .ref (m 67) :: .ref (m 68) :: .ref (m 69) :: []))), ((m 0), .inl (kA 1, 1600, .inl q350))] [(0, .ref h0), (1, .int a), (2, .int b), (3, .int c), (4, .int d), (5, .int e)] 0 0 25 []
  refine j_aload_n h 0 rfl rfl dX12_feed_25 ?_
  refine j_iload_n h 3 rfl rfl dX12_feed_26 ?_
  refine j_callVv (np := 1) (isC := [0, 1]) (isR := []) (wc := [(h0, .inr (12, (.ref (m 0) :: .int 8 :: .int 0 :: .int (-1) :: .int 0 :: .int 0 :: .int 0 :: .int 0 :: .int 0 :: .long 0 :: .ref (m 10) :: .ref (m 11) :: .ref (m 12) :: .ref (m 13) :: .ref (m 14) :: .ref (m 15) :: .ref (m 16) :: .ref (m 17) :: .ref (m 18) :: .ref (m 19) :: .ref (m 20) :: .ref (m 21) :: .ref (m 22) :: .ref (m 23) :: .ref (m 24) :: .int 0 :: .int 0 :: .int 0 :: .int 0 :: .int 0 :: .int 0 :: .ref (m 31) :: .ref (m 32) :: .ref (m 33) :: .ref (m 34) :: .ref (m 35) :: .int 0 :: .int 0 :: .int 0 :: .ref (m 39) :: .ref (m 40) :: .ref (m 41) :: .int 0 :: .ref (m 43) :: .ref (m 44) :: .ref (m 45) :: .ref (m 46) :: .ref (m 47) :: .ref (m 48) :: .int 0 :: .ref (m 50) :: .ref (m 51) :: .ref (m 52) :: .ref (m 53) :: .ref (m 54) :: .ref (m 55) :: .ref (m 56) :: .ref (m 57) :: .ref (m 58) :: .ref (m 59) :: .ref (m 60) :: .ref (m 61) :: .int 0 :: .int 0 :: .ref (m 64) :: .ref (m 65) :: .ref (m 66) :: .ref (m 67) :: .ref (m 68) :: .ref (m 69) :: []))), ((m 0), .inl (kA 1, 1600, .inl q350))]) (wr := []) (rest := []) (As := [.int c]) (q0 := 0) h (c_X12_four8 _ _ kA h0 m q350 c ) tw_1371 tw_1373 tw_39 tw_99 tw_1374 (by decide +kernel) rfl ⟨Nat.le_of_ble_eq_true rfl, Nat.le_of_ble_eq_true rfl⟩ rfl rfl rfl (by decide) rfl rfl (by decide) (by decide) (Nat.le_of_ble_eq_true rfl) rfl ⟨Nat.le_of_ble_eq_true rfl, Nat.le_of_ble_eq_true rfl⟩ dX12_feed_27 ?_
  rintro q352 e353
  show J x [(h0, .inr (12, (.ref (m 0) :: .int 12 :: .int 0 :: .int (-1) :: .int 0 :: .int 0 :: .int 0 :: .int 0 :: .int 0 :: .long 0 :: .ref (m 10) :: .ref (m 11) :: .ref (m 12) :: .ref (m 13) :: .ref (m 14) :: .ref (m 15) :: .ref (m 16) :: .ref (m 17) :: .ref (m 18) :: .ref (m 19) :: .ref (m 20) :: .ref (m 21) :: .ref (m 22) :: .ref (m 23) :: .ref (m 24) :: .int 0 :: .int 0 :: .int 0 :: .int 0 :: .int 0 :: .int 0 :: .ref (m 31) :: .ref (m 32) :: .ref (m 33) :: .ref (m 34) :: .ref (m 35) :: .int 0 :: .int 0 :: .int 0 :: .ref (m 39) :: .ref (m 40) :: .ref (m 41) :: .int 0 :: .ref (m 43) :: .ref (m 44) :: .ref (m 45) :: .ref (m 46) :: .ref (m 47) :: .ref (m 48) :: .int 0 :: .ref (m 50) :: .ref (m 51) :: .ref (m 52) :: .ref (m 53) :: .ref (m 54) :: .ref (m 55) :: .ref (m 56) :: .ref (m 57) :: .ref (m 58) :: .ref (m 59) :: .ref (m 60) :: .ref (m 61) :: .int 0 :: .int 0 :: .ref (m 64) :: .ref (m 65) :: .ref (m 66) :: .ref (m 67) :: .ref (m 68) :: .ref (m 69) :: []))), ((m 0), .inl (kA 1, 1600, .inl q352))] [(0, .ref h0), (1, .int a), (2, .int b), (3, .int c), (4, .int d), (5, .int e)] 0 0 30 []
  refine j_aload_n h 0 rfl rfl dX12_feed_30 ?_
  refine j_iload h 4 rfl dX12_feed_31 ?_
  refine j_callVv (np := 1) (isC := [0, 1]) (isR := []) (wc := [(h0, .inr (12, (.ref (m 0) :: .int 12 :: .int 0 :: .int (-1) :: .int 0 :: .int 0 :: .int 0 :: .int 0 :: .int 0 :: .long 0 :: .ref (m 10) :: .ref (m 11) :: .ref (m 12) :: .ref (m 13) :: .ref (m 14) :: .ref (m 15) :: .ref (m 16) :: .ref (m 17) :: .ref (m 18) :: .ref (m 19) :: .ref (m 20) :: .ref (m 21) :: .ref (m 22) :: .ref (m 23) :: .ref (m 24) :: .int 0 :: .int 0 :: .int 0 :: .int 0 :: .int 0 :: .int 0 :: .ref (m 31) :: .ref (m 32) :: .ref (m 33) :: .ref (m 34) :: .ref (m 35) :: .int 0 :: .int 0 :: .int 0 :: .ref (m 39) :: .ref (m 40) :: .ref (m 41) :: .int 0 :: .ref (m 43) :: .ref (m 44) :: .ref (m 45) :: .ref (m 46) :: .ref (m 47) :: .ref (m 48) :: .int 0 :: .ref (m 50) :: .ref (m 51) :: .ref (m 52) :: .ref (m 53) :: .ref (m 54) :: .ref (m 55) :: .ref (m 56) :: .ref (m 57) :: .ref (m 58) :: .ref (m 59) :: .ref (m 60) :: .ref (m 61) :: .int 0 :: .int 0 :: .ref (m 64) :: .ref (m 65) :: .ref (m 66) :: .ref (m 67) :: .ref (m 68) :: .ref (m 69) :: []))), ((m 0), .inl (kA 1, 1600, .inl q352))]) (wr := []) (rest := []) (As := [.int d]) (q0 := 0) h (c_X12_four12 _ _ kA h0 m q352 d ) tw_1371 tw_1373 tw_39 tw_99 tw_1374 (by decide +kernel) rfl ⟨Nat.le_of_ble_eq_true rfl, Nat.le_of_ble_eq_true rfl⟩ rfl rfl rfl (by decide) rfl rfl (by decide) (by decide) (Nat.le_of_ble_eq_true rfl) rfl ⟨Nat.le_of_ble_eq_true rfl, Nat.le_of_ble_eq_true rfl⟩ dX12_feed_33 ?_
  rintro q354 e355
  show J x [(h0, .inr (12, (.ref (m 0) :: .int 16 :: .int 0 :: .int (-1) :: .int 0 :: .int 0 :: .int 0 :: .int 0 :: .int 0 :: .long 0 :: .ref (m 10) :: .ref (m 11) :: .ref (m 12) :: .ref (m 13) :: .ref (m 14) :: .ref (m 15) :: .ref (m 16) :: .ref (m 17) :: .ref (m 18) :: .ref (m 19) :: .ref (m 20) :: .ref (m 21) :: .ref (m 22) :: .ref (m 23) :: .ref (m 24) :: .int 0 :: .int 0 :: .int 0 :: .int 0 :: .int 0 :: .int 0 :: .ref (m 31) :: .ref (m 32) :: .ref (m 33) :: .ref (m 34) :: .ref (m 35) :: .int 0 :: .int 0 :: .int 0 :: .ref (m 39) :: .ref (m 40) :: .ref (m 41) :: .int 0 :: .ref (m 43) :: .ref (m 44) :: .ref (m 45) :: .ref (m 46) :: .ref (m 47) :: .ref (m 48) :: .int 0 :: .ref (m 50) :: .ref (m 51) :: .ref (m 52) :: .ref (m 53) :: .ref (m 54) :: .ref (m 55) :: .ref (m 56) :: .ref (m 57) :: .ref (m 58) :: .ref (m 59) :: .ref (m 60) :: .ref (m 61) :: .int 0 :: .int 0 :: .ref (m 64) :: .ref (m 65) :: .ref (m 66) :: .ref (m 67) :: .ref (m 68) :: .ref (m 69) :: []))), ((m 0), .inl (kA 1, 1600, .inl q354))] [(0, .ref h0), (1, .int a), (2, .int b), (3, .int c), (4, .int d), (5, .int e)] 0 0 36 []
  refine j_aload_n h 0 rfl rfl dX12_feed_36 ?_
  refine j_iload h 5 rfl dX12_feed_37 ?_
  refine j_callVv (np := 1) (isC := [0, 1]) (isR := []) (wc := [(h0, .inr (12, (.ref (m 0) :: .int 16 :: .int 0 :: .int (-1) :: .int 0 :: .int 0 :: .int 0 :: .int 0 :: .int 0 :: .long 0 :: .ref (m 10) :: .ref (m 11) :: .ref (m 12) :: .ref (m 13) :: .ref (m 14) :: .ref (m 15) :: .ref (m 16) :: .ref (m 17) :: .ref (m 18) :: .ref (m 19) :: .ref (m 20) :: .ref (m 21) :: .ref (m 22) :: .ref (m 23) :: .ref (m 24) :: .int 0 :: .int 0 :: .int 0 :: .int 0 :: .int 0 :: .int 0 :: .ref (m 31) :: .ref (m 32) :: .ref (m 33) :: .ref (m 34) :: .ref (m 35) :: .int 0 :: .int 0 :: .int 0 :: .ref (m 39) :: .ref (m 40) :: .ref (m 41) :: .int 0 :: .ref (m 43) :: .ref (m 44) :: .ref (m 45) :: .ref (m 46) :: .ref (m 47) :: .ref (m 48) :: .int 0 :: .ref (m 50) :: .ref (m 51) :: .ref (m 52) :: .ref (m 53) :: .ref (m 54) :: .ref (m 55) :: .ref (m 56) :: .ref (m 57) :: .ref (m 58) :: .ref (m 59) :: .ref (m 60) :: .ref (m 61) :: .int 0 :: .int 0 :: .ref (m 64) :: .ref (m 65) :: .ref (m 66) :: .ref (m 67) :: .ref (m 68) :: .ref (m 69) :: []))), ((m 0), .inl (kA 1, 1600, .inl q354))]) (wr := []) (rest := []) (As := [.int e]) (q0 := 0) h (c_X12_four16 _ _ kA h0 m q354 e ) tw_1371 tw_1373 tw_39 tw_99 tw_1374 (by decide +kernel) rfl ⟨Nat.le_of_ble_eq_true rfl, Nat.le_of_ble_eq_true rfl⟩ rfl rfl rfl (by decide) rfl rfl (by decide) (by decide) (Nat.le_of_ble_eq_true rfl) rfl ⟨Nat.le_of_ble_eq_true rfl, Nat.le_of_ble_eq_true rfl⟩ dX12_feed_39 ?_
  rintro q356 e357
  show J x [(h0, .inr (12, (.ref (m 0) :: .int 20 :: .int 0 :: .int (-1) :: .int 0 :: .int 0 :: .int 0 :: .int 0 :: .int 0 :: .long 0 :: .ref (m 10) :: .ref (m 11) :: .ref (m 12) :: .ref (m 13) :: .ref (m 14) :: .ref (m 15) :: .ref (m 16) :: .ref (m 17) :: .ref (m 18) :: .ref (m 19) :: .ref (m 20) :: .ref (m 21) :: .ref (m 22) :: .ref (m 23) :: .ref (m 24) :: .int 0 :: .int 0 :: .int 0 :: .int 0 :: .int 0 :: .int 0 :: .ref (m 31) :: .ref (m 32) :: .ref (m 33) :: .ref (m 34) :: .ref (m 35) :: .int 0 :: .int 0 :: .int 0 :: .ref (m 39) :: .ref (m 40) :: .ref (m 41) :: .int 0 :: .ref (m 43) :: .ref (m 44) :: .ref (m 45) :: .ref (m 46) :: .ref (m 47) :: .ref (m 48) :: .int 0 :: .ref (m 50) :: .ref (m 51) :: .ref (m 52) :: .ref (m 53) :: .ref (m 54) :: .ref (m 55) :: .ref (m 56) :: .ref (m 57) :: .ref (m 58) :: .ref (m 59) :: .ref (m 60) :: .ref (m 61) :: .int 0 :: .int 0 :: .ref (m 64) :: .ref (m 65) :: .ref (m 66) :: .ref (m 67) :: .ref (m 68) :: .ref (m 69) :: []))), ((m 0), .inl (kA 1, 1600, .inl q356))] [(0, .ref h0), (1, .int a), (2, .int b), (3, .int c), (4, .int d), (5, .int e)] 0 0 42 []
  refine j_aload_n h 0 rfl rfl dX12_feed_42 ?_
  refine j_get h iw_X12 0 rfl rfl 1 (by decide) tw_1157 rfl dX12_feed_43 ?_
  exact j_iret h hq dX12_feed_46 () [] rfl rfl (by decide) (by first | rfl | simp only [↓reduceIte]) (Nat.le_of_ble_eq_true rfl) (Nat.le_of_ble_eq_true rfl)
set_option maxHeartbeats 4000000 in
set_option maxRecDepth 100000 in
theorem c_X12_end (l : Launch) (g : va_G) (kA : Nat → ClassId) (h0 : Nat) (m : Nat → Nat) (n : Int32)  : CtI l yX12_end cX12_end 2 (some .int) 3 0 0 g kA [.ref h0, .int n] [(h0, .inr (12, (.ref (m 0) :: .int 0 :: .int 0 :: .int (-1) :: .int 0 :: .int 0 :: .int 0 :: .int 0 :: .int 0 :: .long 0 :: .ref (m 10) :: .ref (m 11) :: .ref (m 12) :: .ref (m 13) :: .ref (m 14) :: .ref (m 15) :: .ref (m 16) :: .ref (m 17) :: .ref (m 18) :: .ref (m 19) :: .ref (m 20) :: .ref (m 21) :: .ref (m 22) :: .ref (m 23) :: .ref (m 24) :: .int 0 :: .int 0 :: .int 0 :: .int 0 :: .int 0 :: .int 0 :: .ref (m 31) :: .ref (m 32) :: .ref (m 33) :: .ref (m 34) :: .ref (m 35) :: .int 0 :: .int 0 :: .int 0 :: .ref (m 39) :: .ref (m 40) :: .ref (m 41) :: .int 0 :: .ref (m 43) :: .ref (m 44) :: .ref (m 45) :: .ref (m 46) :: .ref (m 47) :: .ref (m 48) :: .int 0 :: .ref (m 50) :: .ref (m 51) :: .ref (m 52) :: .ref (m 53) :: .ref (m 54) :: .ref (m 55) :: .ref (m 56) :: .ref (m 57) :: .ref (m 58) :: .ref (m 59) :: .ref (m 60) :: .ref (m 61) :: .int 0 :: .int 0 :: .ref (m 64) :: .ref (m 65) :: .ref (m 66) :: .ref (m 67) :: .ref (m 68) :: .ref (m 69) :: [])))] (S := Unit) (fun (r : Int32) (_ : Unit) => r = vEnd n) (fun (_ : Unit) => []) := by
  refine nx_startI (by decide +kernel) (Nat.le_of_ble_eq_true rfl) ?_
  intro x hnm h hq
  have h : Ok x cX12_end RX12 kA (rmC 3 0 0) 2 := h
  show J x [(h0, .inr (12, (.ref (m 0) :: .int 0 :: .int 0 :: .int (-1) :: .int 0 :: .int 0 :: .int 0 :: .int 0 :: .int 0 :: .long 0 :: .ref (m 10) :: .ref (m 11) :: .ref (m 12) :: .ref (m 13) :: .ref (m 14) :: .ref (m 15) :: .ref (m 16) :: .ref (m 17) :: .ref (m 18) :: .ref (m 19) :: .ref (m 20) :: .ref (m 21) :: .ref (m 22) :: .ref (m 23) :: .ref (m 24) :: .int 0 :: .int 0 :: .int 0 :: .int 0 :: .int 0 :: .int 0 :: .ref (m 31) :: .ref (m 32) :: .ref (m 33) :: .ref (m 34) :: .ref (m 35) :: .int 0 :: .int 0 :: .int 0 :: .ref (m 39) :: .ref (m 40) :: .ref (m 41) :: .int 0 :: .ref (m 43) :: .ref (m 44) :: .ref (m 45) :: .ref (m 46) :: .ref (m 47) :: .ref (m 48) :: .int 0 :: .ref (m 50) :: .ref (m 51) :: .ref (m 52) :: .ref (m 53) :: .ref (m 54) :: .ref (m 55) :: .ref (m 56) :: .ref (m 57) :: .ref (m 58) :: .ref (m 59) :: .ref (m 60) :: .ref (m 61) :: .int 0 :: .int 0 :: .ref (m 64) :: .ref (m 65) :: .ref (m 66) :: .ref (m 67) :: .ref (m 68) :: .ref (m 69) :: [])))] [(0, .ref h0), (1, .int n)] 0 0 0 []
  refine j_iload_n h 1 rfl rfl dX12_end_0 ?_
  refine j_if_lt h 12 dX12_end_1 (by decide) (fun z358 => ?_) (fun z358 => ?_)
  · refine j_iconst (v := (-1)) h (by decide) dX12_end_12 ?_
    exact j_iret h hq dX12_end_13 () [] rfl rfl (by decide) (by first | rfl | (unfold vEnd; simp only [z358, ↓reduceIte]; done) | (subst_vars; decide)) (Nat.le_of_ble_eq_true rfl) (Nat.le_of_ble_eq_true rfl)
  · refine j_iload_n h 1 rfl rfl dX12_end_4 ?_
    refine j_aload_n h 0 rfl rfl dX12_end_5 ?_
    refine j_get h iw_X12 0 rfl rfl 1 (by decide) tw_1157 rfl dX12_end_6 ?_
    refine j_icmp_le h 14 dX12_end_9 (by decide) (fun z359 => ?_) (fun z359 => ?_)
    · refine j_aload_n h 0 rfl rfl dX12_end_14 ?_
      refine j_iload_n h 1 rfl rfl dX12_end_15 ?_
      refine j_put (ws' := [(h0, .inr (12, (.ref (m 0) :: .int n :: .int 0 :: .int (-1) :: .int 0 :: .int 0 :: .int 0 :: .int 0 :: .int 0 :: .long 0 :: .ref (m 10) :: .ref (m 11) :: .ref (m 12) :: .ref (m 13) :: .ref (m 14) :: .ref (m 15) :: .ref (m 16) :: .ref (m 17) :: .ref (m 18) :: .ref (m 19) :: .ref (m 20) :: .ref (m 21) :: .ref (m 22) :: .ref (m 23) :: .ref (m 24) :: .int 0 :: .int 0 :: .int 0 :: .int 0 :: .int 0 :: .int 0 :: .ref (m 31) :: .ref (m 32) :: .ref (m 33) :: .ref (m 34) :: .ref (m 35) :: .int 0 :: .int 0 :: .int 0 :: .ref (m 39) :: .ref (m 40) :: .ref (m 41) :: .int 0 :: .ref (m 43) :: .ref (m 44) :: .ref (m 45) :: .ref (m 46) :: .ref (m 47) :: .ref (m 48) :: .int 0 :: .ref (m 50) :: .ref (m 51) :: .ref (m 52) :: .ref (m 53) :: .ref (m 54) :: .ref (m 55) :: .ref (m 56) :: .ref (m 57) :: .ref (m 58) :: .ref (m 59) :: .ref (m 60) :: .ref (m 61) :: .int 0 :: .int 0 :: .ref (m 64) :: .ref (m 65) :: .ref (m 66) :: .ref (m 67) :: .ref (m 68) :: .ref (m 69) :: [])))]) h iw_X12 tyX12 tyX12_ok nmX12 0 rfl rfl 1 (by decide) tw_1157 rfl rfl rfl (Nat.le_of_ble_eq_true rfl) dX12_end_16 rfl ?_
      refine j_iload_n h 1 rfl rfl dX12_end_19 ?_
      exact j_iret h hq dX12_end_20 () [] rfl rfl (by decide) (by first | rfl | (unfold vEnd; simp only [z358, z359, ↓reduceIte]; done) | (subst_vars; decide)) (Nat.le_of_ble_eq_true rfl) (Nat.le_of_ble_eq_true rfl)
    · refine j_iconst (v := (-1)) h (by decide) dX12_end_12 ?_
      exact j_iret h hq dX12_end_13 () [] rfl rfl (by decide) (by first | rfl | (unfold vEnd; simp only [z358, z359, ↓reduceIte]; done) | (subst_vars; decide)) (Nat.le_of_ble_eq_true rfl) (Nat.le_of_ble_eq_true rfl)
set_option maxHeartbeats 4000000 in
set_option maxRecDepth 100000 in
theorem c_X12_fault (l : Launch) (g : va_G) (kA : Nat → ClassId) (h0 : Nat) (m : Nat → Nat) (w : Int32)  : CtI l yX12_fault cX12_fault 2 (some .int) 3 0 0 g kA [.ref h0, .int w] [(h0, .inr (12, (.ref (m 0) :: .int 0 :: .int 0 :: .int (-1) :: .int 0 :: .int 0 :: .int 0 :: .int 0 :: .int 0 :: .long 0 :: .ref (m 10) :: .ref (m 11) :: .ref (m 12) :: .ref (m 13) :: .ref (m 14) :: .ref (m 15) :: .ref (m 16) :: .ref (m 17) :: .ref (m 18) :: .ref (m 19) :: .ref (m 20) :: .ref (m 21) :: .ref (m 22) :: .ref (m 23) :: .ref (m 24) :: .int 0 :: .int 0 :: .int 0 :: .int 0 :: .int 0 :: .int 0 :: .ref (m 31) :: .ref (m 32) :: .ref (m 33) :: .ref (m 34) :: .ref (m 35) :: .int 0 :: .int 0 :: .int 0 :: .ref (m 39) :: .ref (m 40) :: .ref (m 41) :: .int 0 :: .ref (m 43) :: .ref (m 44) :: .ref (m 45) :: .ref (m 46) :: .ref (m 47) :: .ref (m 48) :: .int 0 :: .ref (m 50) :: .ref (m 51) :: .ref (m 52) :: .ref (m 53) :: .ref (m 54) :: .ref (m 55) :: .ref (m 56) :: .ref (m 57) :: .ref (m 58) :: .ref (m 59) :: .ref (m 60) :: .ref (m 61) :: .int 0 :: .int 0 :: .ref (m 64) :: .ref (m 65) :: .ref (m 66) :: .ref (m 67) :: .ref (m 68) :: .ref (m 69) :: [])))] (S := Unit) (fun (r : Int32) (_ : Unit) => r = vFault w) (fun (_ : Unit) => []) := by
  refine nx_startI (by decide +kernel) (Nat.le_of_ble_eq_true rfl) ?_
  intro x hnm h hq
  have h : Ok x cX12_fault RX12 kA (rmC 3 0 0) 2 := h
  show J x [(h0, .inr (12, (.ref (m 0) :: .int 0 :: .int 0 :: .int (-1) :: .int 0 :: .int 0 :: .int 0 :: .int 0 :: .int 0 :: .long 0 :: .ref (m 10) :: .ref (m 11) :: .ref (m 12) :: .ref (m 13) :: .ref (m 14) :: .ref (m 15) :: .ref (m 16) :: .ref (m 17) :: .ref (m 18) :: .ref (m 19) :: .ref (m 20) :: .ref (m 21) :: .ref (m 22) :: .ref (m 23) :: .ref (m 24) :: .int 0 :: .int 0 :: .int 0 :: .int 0 :: .int 0 :: .int 0 :: .ref (m 31) :: .ref (m 32) :: .ref (m 33) :: .ref (m 34) :: .ref (m 35) :: .int 0 :: .int 0 :: .int 0 :: .ref (m 39) :: .ref (m 40) :: .ref (m 41) :: .int 0 :: .ref (m 43) :: .ref (m 44) :: .ref (m 45) :: .ref (m 46) :: .ref (m 47) :: .ref (m 48) :: .int 0 :: .ref (m 50) :: .ref (m 51) :: .ref (m 52) :: .ref (m 53) :: .ref (m 54) :: .ref (m 55) :: .ref (m 56) :: .ref (m 57) :: .ref (m 58) :: .ref (m 59) :: .ref (m 60) :: .ref (m 61) :: .int 0 :: .int 0 :: .ref (m 64) :: .ref (m 65) :: .ref (m 66) :: .ref (m 67) :: .ref (m 68) :: .ref (m 69) :: [])))] [(0, .ref h0), (1, .int w)] 0 0 0 []
  refine j_iload_n h 1 rfl rfl dX12_fault_0 ?_
  refine j_if_ne h 11 dX12_fault_1 (by decide) (fun z360 => ?_) (fun z360 => ?_)
  · refine j_iload_n h 1 rfl rfl dX12_fault_11 ?_
    refine j_iconst (v := 1) h (by decide) dX12_fault_12 ?_
    refine j_icmp_ne h 23 dX12_fault_13 (by decide) (fun z361 => ?_) (fun z361 => ?_)
    · refine j_iconst (v := (-1)) h (by decide) dX12_fault_23 ?_
      exact j_iret h hq dX12_fault_24 () [] rfl rfl (by decide) (by first | rfl | (unfold vFault; simp only [z360, z361, ↓reduceIte]; done) | (subst_vars; decide)) (Nat.le_of_ble_eq_true rfl) (Nat.le_of_ble_eq_true rfl)
    · refine j_aload_n h 0 rfl rfl dX12_fault_16 ?_
      refine j_get h iw_X12 0 rfl rfl 3 (by decide) tw_1159 rfl dX12_fault_17 ?_
      refine j_goto h 24 dX12_fault_20 (by decide) ?_
      exact j_iret h hq dX12_fault_24 () [] rfl rfl (by decide) (by first | rfl | (unfold vFault; simp only [z360, z361, ↓reduceIte]; done) | (subst_vars; decide)) (Nat.le_of_ble_eq_true rfl) (Nat.le_of_ble_eq_true rfl)
  · refine j_aload_n h 0 rfl rfl dX12_fault_4 ?_
    refine j_get h iw_X12 0 rfl rfl 2 (by decide) tw_1158 rfl dX12_fault_5 ?_
    refine j_goto h 24 dX12_fault_8 (by decide) ?_
    exact j_iret h hq dX12_fault_24 () [] rfl rfl (by decide) (by first | rfl | (unfold vFault; simp only [z360, ↓reduceIte]; done) | (subst_vars; decide)) (Nat.le_of_ble_eq_true rfl) (Nat.le_of_ble_eq_true rfl)
set_option maxHeartbeats 4000000 in
set_option maxRecDepth 100000 in
theorem c_X12_step (l : Launch) (g : va_G) (kA : Nat → ClassId) (h0 : Nat) (m : Nat → Nat) (e : Int32)  : CtI l yX12_step cX12_step 2 (some .int) 3 0 0 g kA [.ref h0, .int e] [(h0, .inr (12, (.ref (m 0) :: .int 0 :: .int 0 :: .int (-1) :: .int 0 :: .int 0 :: .int 0 :: .int 0 :: .int 0 :: .long 0 :: .ref (m 10) :: .ref (m 11) :: .ref (m 12) :: .ref (m 13) :: .ref (m 14) :: .ref (m 15) :: .ref (m 16) :: .ref (m 17) :: .ref (m 18) :: .ref (m 19) :: .ref (m 20) :: .ref (m 21) :: .ref (m 22) :: .ref (m 23) :: .ref (m 24) :: .int 0 :: .int 0 :: .int 0 :: .int 0 :: .int 0 :: .int 0 :: .ref (m 31) :: .ref (m 32) :: .ref (m 33) :: .ref (m 34) :: .ref (m 35) :: .int 0 :: .int 0 :: .int 0 :: .ref (m 39) :: .ref (m 40) :: .ref (m 41) :: .int 0 :: .ref (m 43) :: .ref (m 44) :: .ref (m 45) :: .ref (m 46) :: .ref (m 47) :: .ref (m 48) :: .int 0 :: .ref (m 50) :: .ref (m 51) :: .ref (m 52) :: .ref (m 53) :: .ref (m 54) :: .ref (m 55) :: .ref (m 56) :: .ref (m 57) :: .ref (m 58) :: .ref (m 59) :: .ref (m 60) :: .ref (m 61) :: .int 0 :: .int 0 :: .ref (m 64) :: .ref (m 65) :: .ref (m 66) :: .ref (m 67) :: .ref (m 68) :: .ref (m 69) :: [])))] (S := Unit) (fun (r : Int32) (_ : Unit) => r = (-1)) (fun (_ : Unit) => []) := by
  refine nx_startI (by decide +kernel) (Nat.le_of_ble_eq_true rfl) ?_
  intro x hnm h hq
  have h : Ok x cX12_step RX12 kA (rmC 3 0 0) 2 := h
  show J x [(h0, .inr (12, (.ref (m 0) :: .int 0 :: .int 0 :: .int (-1) :: .int 0 :: .int 0 :: .int 0 :: .int 0 :: .int 0 :: .long 0 :: .ref (m 10) :: .ref (m 11) :: .ref (m 12) :: .ref (m 13) :: .ref (m 14) :: .ref (m 15) :: .ref (m 16) :: .ref (m 17) :: .ref (m 18) :: .ref (m 19) :: .ref (m 20) :: .ref (m 21) :: .ref (m 22) :: .ref (m 23) :: .ref (m 24) :: .int 0 :: .int 0 :: .int 0 :: .int 0 :: .int 0 :: .int 0 :: .ref (m 31) :: .ref (m 32) :: .ref (m 33) :: .ref (m 34) :: .ref (m 35) :: .int 0 :: .int 0 :: .int 0 :: .ref (m 39) :: .ref (m 40) :: .ref (m 41) :: .int 0 :: .ref (m 43) :: .ref (m 44) :: .ref (m 45) :: .ref (m 46) :: .ref (m 47) :: .ref (m 48) :: .int 0 :: .ref (m 50) :: .ref (m 51) :: .ref (m 52) :: .ref (m 53) :: .ref (m 54) :: .ref (m 55) :: .ref (m 56) :: .ref (m 57) :: .ref (m 58) :: .ref (m 59) :: .ref (m 60) :: .ref (m 61) :: .int 0 :: .int 0 :: .ref (m 64) :: .ref (m 65) :: .ref (m 66) :: .ref (m 67) :: .ref (m 68) :: .ref (m 69) :: [])))] [(0, .ref h0), (1, .int e)] 0 0 0 []
  refine j_aload_n h 0 rfl rfl dX12_step_0 ?_
  refine j_iload_n h 1 rfl rfl dX12_step_1 ?_
  refine j_callVi (np := 1) (isC := [0]) (isR := []) (wc := [(h0, .inr (12, (.ref (m 0) :: .int 0 :: .int 0 :: .int (-1) :: .int 0 :: .int 0 :: .int 0 :: .int 0 :: .int 0 :: .long 0 :: .ref (m 10) :: .ref (m 11) :: .ref (m 12) :: .ref (m 13) :: .ref (m 14) :: .ref (m 15) :: .ref (m 16) :: .ref (m 17) :: .ref (m 18) :: .ref (m 19) :: .ref (m 20) :: .ref (m 21) :: .ref (m 22) :: .ref (m 23) :: .ref (m 24) :: .int 0 :: .int 0 :: .int 0 :: .int 0 :: .int 0 :: .int 0 :: .ref (m 31) :: .ref (m 32) :: .ref (m 33) :: .ref (m 34) :: .ref (m 35) :: .int 0 :: .int 0 :: .int 0 :: .ref (m 39) :: .ref (m 40) :: .ref (m 41) :: .int 0 :: .ref (m 43) :: .ref (m 44) :: .ref (m 45) :: .ref (m 46) :: .ref (m 47) :: .ref (m 48) :: .int 0 :: .ref (m 50) :: .ref (m 51) :: .ref (m 52) :: .ref (m 53) :: .ref (m 54) :: .ref (m 55) :: .ref (m 56) :: .ref (m 57) :: .ref (m 58) :: .ref (m 59) :: .ref (m 60) :: .ref (m 61) :: .int 0 :: .int 0 :: .ref (m 64) :: .ref (m 65) :: .ref (m 66) :: .ref (m 67) :: .ref (m 68) :: .ref (m 69) :: [])))]) (wr := []) (rest := []) (As := [.int e]) (q0 := 0) h (c_X12_isStep _ _ kA h0 m e ) tw_1483 tw_1485 tw_59 tw_99 tw_1486 (by decide +kernel) rfl ⟨Nat.le_of_ble_eq_true rfl, Nat.le_of_ble_eq_true rfl⟩ rfl rfl rfl (by decide) rfl rfl (by decide) (by decide) (Nat.le_of_ble_eq_true rfl) rfl ⟨Nat.le_of_ble_eq_true rfl, Nat.le_of_ble_eq_true rfl⟩ dX12_step_2 ?_
  rintro r _ e362
  subst e362
  show J x [(h0, .inr (12, (.ref (m 0) :: .int 0 :: .int 0 :: .int (-1) :: .int 0 :: .int 0 :: .int 0 :: .int 0 :: .int 0 :: .long 0 :: .ref (m 10) :: .ref (m 11) :: .ref (m 12) :: .ref (m 13) :: .ref (m 14) :: .ref (m 15) :: .ref (m 16) :: .ref (m 17) :: .ref (m 18) :: .ref (m 19) :: .ref (m 20) :: .ref (m 21) :: .ref (m 22) :: .ref (m 23) :: .ref (m 24) :: .int 0 :: .int 0 :: .int 0 :: .int 0 :: .int 0 :: .int 0 :: .ref (m 31) :: .ref (m 32) :: .ref (m 33) :: .ref (m 34) :: .ref (m 35) :: .int 0 :: .int 0 :: .int 0 :: .ref (m 39) :: .ref (m 40) :: .ref (m 41) :: .int 0 :: .ref (m 43) :: .ref (m 44) :: .ref (m 45) :: .ref (m 46) :: .ref (m 47) :: .ref (m 48) :: .int 0 :: .ref (m 50) :: .ref (m 51) :: .ref (m 52) :: .ref (m 53) :: .ref (m 54) :: .ref (m 55) :: .ref (m 56) :: .ref (m 57) :: .ref (m 58) :: .ref (m 59) :: .ref (m 60) :: .ref (m 61) :: .int 0 :: .int 0 :: .ref (m 64) :: .ref (m 65) :: .ref (m 66) :: .ref (m 67) :: .ref (m 68) :: .ref (m 69) :: [])))] [(0, .ref h0), (1, .int e)] 0 0 5 [.int 0]
  refine j_if_eq h 36 dX12_step_5 (by decide) (fun _ => ?_) (fun q => absurd (by decide) q)
  refine j_iconst (v := (-1)) h (by decide) dX12_step_36 ?_
  exact j_iret h hq dX12_step_37 () [] rfl rfl (by decide) (by first | rfl | simp only [↓reduceIte]) (Nat.le_of_ble_eq_true rfl) (Nat.le_of_ble_eq_true rfl)
set_option maxHeartbeats 4000000 in
set_option maxRecDepth 100000 in
theorem c_X12_say (l : Launch) (g : va_G) (kA : Nat → ClassId) (h0 : Nat) (m : Nat → Nat) (t : Int32)  : CtI l yX12_say cX12_say 7 (some .int) 3 0 0 g kA [.ref h0, .int t] [(h0, .inr (12, (.ref (m 0) :: .int 0 :: .int 0 :: .int (-1) :: .int 0 :: .int 0 :: .int 0 :: .int 0 :: .int 0 :: .long 0 :: .ref (m 10) :: .ref (m 11) :: .ref (m 12) :: .ref (m 13) :: .ref (m 14) :: .ref (m 15) :: .ref (m 16) :: .ref (m 17) :: .ref (m 18) :: .ref (m 19) :: .ref (m 20) :: .ref (m 21) :: .ref (m 22) :: .ref (m 23) :: .ref (m 24) :: .int 0 :: .int 0 :: .int 0 :: .int 0 :: .int 0 :: .int 0 :: .ref (m 31) :: .ref (m 32) :: .ref (m 33) :: .ref (m 34) :: .ref (m 35) :: .int 0 :: .int 0 :: .int 0 :: .ref (m 39) :: .ref (m 40) :: .ref (m 41) :: .int 0 :: .ref (m 43) :: .ref (m 44) :: .ref (m 45) :: .ref (m 46) :: .ref (m 47) :: .ref (m 48) :: .int 0 :: .ref (m 50) :: .ref (m 51) :: .ref (m 52) :: .ref (m 53) :: .ref (m 54) :: .ref (m 55) :: .ref (m 56) :: .ref (m 57) :: .ref (m 58) :: .ref (m 59) :: .ref (m 60) :: .ref (m 61) :: .int 0 :: .int 0 :: .ref (m 64) :: .ref (m 65) :: .ref (m 66) :: .ref (m 67) :: .ref (m 68) :: .ref (m 69) :: []))), ((m 45), .inl (kA 1, 2, .inl (fun _ => 0)))] (S := Unit) (fun (r : Int32) (_ : Unit) => r = vTxt t) (fun (_ : Unit) => []) := by
  refine nx_startI (by decide +kernel) (Nat.le_of_ble_eq_true rfl) ?_
  intro x hnm h hq
  have h : Ok x cX12_say RX12 kA (rmC 3 0 0) 7 := h
  show J x [(h0, .inr (12, (.ref (m 0) :: .int 0 :: .int 0 :: .int (-1) :: .int 0 :: .int 0 :: .int 0 :: .int 0 :: .int 0 :: .long 0 :: .ref (m 10) :: .ref (m 11) :: .ref (m 12) :: .ref (m 13) :: .ref (m 14) :: .ref (m 15) :: .ref (m 16) :: .ref (m 17) :: .ref (m 18) :: .ref (m 19) :: .ref (m 20) :: .ref (m 21) :: .ref (m 22) :: .ref (m 23) :: .ref (m 24) :: .int 0 :: .int 0 :: .int 0 :: .int 0 :: .int 0 :: .int 0 :: .ref (m 31) :: .ref (m 32) :: .ref (m 33) :: .ref (m 34) :: .ref (m 35) :: .int 0 :: .int 0 :: .int 0 :: .ref (m 39) :: .ref (m 40) :: .ref (m 41) :: .int 0 :: .ref (m 43) :: .ref (m 44) :: .ref (m 45) :: .ref (m 46) :: .ref (m 47) :: .ref (m 48) :: .int 0 :: .ref (m 50) :: .ref (m 51) :: .ref (m 52) :: .ref (m 53) :: .ref (m 54) :: .ref (m 55) :: .ref (m 56) :: .ref (m 57) :: .ref (m 58) :: .ref (m 59) :: .ref (m 60) :: .ref (m 61) :: .int 0 :: .int 0 :: .ref (m 64) :: .ref (m 65) :: .ref (m 66) :: .ref (m 67) :: .ref (m 68) :: .ref (m 69) :: []))), ((m 45), .inl (kA 1, 2, .inl (fun _ => 0)))] [(0, .ref h0), (1, .int t)] 0 0 0 []
  rcases bTx_cases t with rfl | rfl | hT
  · refine j_iload_n h 1 rfl rfl dX12_say_0 ?_
    refine j_callSi (np := 1) (isC := []) (isR := [0, 1]) (wc := []) (wr := [(h0, .inr (12, (.ref (m 0) :: .int 0 :: .int 0 :: .int (-1) :: .int 0 :: .int 0 :: .int 0 :: .int 0 :: .int 0 :: .long 0 :: .ref (m 10) :: .ref (m 11) :: .ref (m 12) :: .ref (m 13) :: .ref (m 14) :: .ref (m 15) :: .ref (m 16) :: .ref (m 17) :: .ref (m 18) :: .ref (m 19) :: .ref (m 20) :: .ref (m 21) :: .ref (m 22) :: .ref (m 23) :: .ref (m 24) :: .int 0 :: .int 0 :: .int 0 :: .int 0 :: .int 0 :: .int 0 :: .ref (m 31) :: .ref (m 32) :: .ref (m 33) :: .ref (m 34) :: .ref (m 35) :: .int 0 :: .int 0 :: .int 0 :: .ref (m 39) :: .ref (m 40) :: .ref (m 41) :: .int 0 :: .ref (m 43) :: .ref (m 44) :: .ref (m 45) :: .ref (m 46) :: .ref (m 47) :: .ref (m 48) :: .int 0 :: .ref (m 50) :: .ref (m 51) :: .ref (m 52) :: .ref (m 53) :: .ref (m 54) :: .ref (m 55) :: .ref (m 56) :: .ref (m 57) :: .ref (m 58) :: .ref (m 59) :: .ref (m 60) :: .ref (m 61) :: .int 0 :: .int 0 :: .ref (m 64) :: .ref (m 65) :: .ref (m 66) :: .ref (m 67) :: .ref (m 68) :: .ref (m 69) :: []))), ((m 45), .inl (kA 1, 2, .inl (fun _ => 0)))]) (rest := []) (As := [.int 0]) h (c_X12_isText _ _ kA 0 ) tw_1494 tw_1495 tw_99 tw_1496 (by decide +kernel) rfl ⟨Nat.le_of_ble_eq_true rfl, Nat.le_of_ble_eq_true rfl⟩ rfl (by decide) rfl rfl (by decide) (by decide) (Nat.le_of_ble_eq_true rfl) rfl ⟨Nat.le_of_ble_eq_true rfl, Nat.le_of_ble_eq_true rfl⟩ dX12_say_1 ?_
    rintro r _ e363
    subst e363
    show J x [(h0, .inr (12, (.ref (m 0) :: .int 0 :: .int 0 :: .int (-1) :: .int 0 :: .int 0 :: .int 0 :: .int 0 :: .int 0 :: .long 0 :: .ref (m 10) :: .ref (m 11) :: .ref (m 12) :: .ref (m 13) :: .ref (m 14) :: .ref (m 15) :: .ref (m 16) :: .ref (m 17) :: .ref (m 18) :: .ref (m 19) :: .ref (m 20) :: .ref (m 21) :: .ref (m 22) :: .ref (m 23) :: .ref (m 24) :: .int 0 :: .int 0 :: .int 0 :: .int 0 :: .int 0 :: .int 0 :: .ref (m 31) :: .ref (m 32) :: .ref (m 33) :: .ref (m 34) :: .ref (m 35) :: .int 0 :: .int 0 :: .int 0 :: .ref (m 39) :: .ref (m 40) :: .ref (m 41) :: .int 0 :: .ref (m 43) :: .ref (m 44) :: .ref (m 45) :: .ref (m 46) :: .ref (m 47) :: .ref (m 48) :: .int 0 :: .ref (m 50) :: .ref (m 51) :: .ref (m 52) :: .ref (m 53) :: .ref (m 54) :: .ref (m 55) :: .ref (m 56) :: .ref (m 57) :: .ref (m 58) :: .ref (m 59) :: .ref (m 60) :: .ref (m 61) :: .int 0 :: .int 0 :: .ref (m 64) :: .ref (m 65) :: .ref (m 66) :: .ref (m 67) :: .ref (m 68) :: .ref (m 69) :: []))), ((m 45), .inl (kA 1, 2, .inl (fun _ => 0)))] [(0, .ref h0), (1, .int 0)] 0 0 4 [.int (bTx 0)]
    refine j_top (b := 1) (by decide) ?_
    refine j_if_ne h 9 dX12_say_4 (by decide) (fun _ => ?_) (fun q => absurd q (by decide))
    refine j_aload_n h 0 rfl rfl dX12_say_9 ?_
    refine j_get h iw_X12 0 rfl rfl 38 (by decide) tw_1194 rfl dX12_say_10 ?_
    refine j_istore_n (lv' := [(2, .int 0), (0, .ref h0), (1, .int 0)]) h dX12_say_13 rfl (by decide) rfl ?_
    refine j_aload_n h 1 rfl rfl dX12_say_14 ?_
    refine j_get h iw_X12 0 rfl rfl 37 (by decide) tw_1193 rfl dX12_say_15 ?_
    refine j_istore_n (lv' := [(3, .int 0), (2, .int 0), (0, .ref h0), (1, .int 0)]) h dX12_say_18 rfl (by decide) rfl ?_
    refine j_iconst (v := 0) h (by decide) dX12_say_19 ?_
    refine j_istore (lv' := [(4, .int 0), (3, .int 0), (2, .int 0), (0, .ref h0), (1, .int 0)]) h dX12_say_20 (by decide) rfl ?_
    refine j_iload h 0 rfl dX12_say_22 ?_
    refine j_aload_n h 3 rfl rfl dX12_say_24 ?_
    refine j_get h iw_X12 0 rfl rfl 45 (by decide) tw_1201 rfl dX12_say_25 ?_
    refine j_iload_n h 4 rfl rfl dX12_say_28 ?_
    refine j_iald h 1 rfl 0 (by decide) (by decide) (by decide) dX12_say_29 ?_
    refine j_top (b := 0) rfl ?_
    refine j_icmp_ge h 83 dX12_say_30 (by decide) (fun _ => ?_) (fun q => absurd (by decide) q)
    refine j_iload_n h 2 rfl rfl dX12_say_83 ?_
    refine j_if_lt h 93 dX12_say_84 (by decide) (fun q => absurd q (by decide)) (fun _ => ?_)
    refine j_iload_n h 1 rfl rfl dX12_say_87 ?_
    refine j_bipush (v := 60) h (by decide) dX12_say_88 ?_
    refine j_icmp_le h 95 dX12_say_90 (by decide) (fun _ => ?_) (fun q => absurd (by decide) q)
    refine j_iconst (v := 0) h (by decide) dX12_say_95 ?_
    refine j_istore (lv' := [(4, .int 0), (3, .int 0), (2, .int 0), (0, .ref h0), (1, .int 0)]) h dX12_say_96 (by decide) rfl ?_
    refine j_iload h 0 rfl dX12_say_98 ?_
    refine j_aload_n h 3 rfl rfl dX12_say_100 ?_
    refine j_get h iw_X12 0 rfl rfl 45 (by decide) tw_1201 rfl dX12_say_101 ?_
    refine j_iload_n h 4 rfl rfl dX12_say_104 ?_
    refine j_iald h 1 rfl 0 (by decide) (by decide) (by decide) dX12_say_105 ?_
    refine j_top (b := 0) rfl ?_
    refine j_icmp_ge h 167 dX12_say_106 (by decide) (fun _ => ?_) (fun q => absurd (by decide) q)
    refine j_aload_n h 3 rfl rfl dX12_say_167 ?_
    refine j_get h iw_X12 0 rfl rfl 37 (by decide) tw_1193 rfl dX12_say_168 ?_
    exact j_iret h hq dX12_say_171 () [] rfl rfl (by decide) (by decide) (Nat.le_of_ble_eq_true rfl) (Nat.le_of_ble_eq_true rfl)
  · refine j_iload_n h 1 rfl rfl dX12_say_0 ?_
    refine j_callSi (np := 1) (isC := []) (isR := [0, 1]) (wc := []) (wr := [(h0, .inr (12, (.ref (m 0) :: .int 0 :: .int 0 :: .int (-1) :: .int 0 :: .int 0 :: .int 0 :: .int 0 :: .int 0 :: .long 0 :: .ref (m 10) :: .ref (m 11) :: .ref (m 12) :: .ref (m 13) :: .ref (m 14) :: .ref (m 15) :: .ref (m 16) :: .ref (m 17) :: .ref (m 18) :: .ref (m 19) :: .ref (m 20) :: .ref (m 21) :: .ref (m 22) :: .ref (m 23) :: .ref (m 24) :: .int 0 :: .int 0 :: .int 0 :: .int 0 :: .int 0 :: .int 0 :: .ref (m 31) :: .ref (m 32) :: .ref (m 33) :: .ref (m 34) :: .ref (m 35) :: .int 0 :: .int 0 :: .int 0 :: .ref (m 39) :: .ref (m 40) :: .ref (m 41) :: .int 0 :: .ref (m 43) :: .ref (m 44) :: .ref (m 45) :: .ref (m 46) :: .ref (m 47) :: .ref (m 48) :: .int 0 :: .ref (m 50) :: .ref (m 51) :: .ref (m 52) :: .ref (m 53) :: .ref (m 54) :: .ref (m 55) :: .ref (m 56) :: .ref (m 57) :: .ref (m 58) :: .ref (m 59) :: .ref (m 60) :: .ref (m 61) :: .int 0 :: .int 0 :: .ref (m 64) :: .ref (m 65) :: .ref (m 66) :: .ref (m 67) :: .ref (m 68) :: .ref (m 69) :: []))), ((m 45), .inl (kA 1, 2, .inl (fun _ => 0)))]) (rest := []) (As := [.int 1]) h (c_X12_isText _ _ kA 1 ) tw_1494 tw_1495 tw_99 tw_1496 (by decide +kernel) rfl ⟨Nat.le_of_ble_eq_true rfl, Nat.le_of_ble_eq_true rfl⟩ rfl (by decide) rfl rfl (by decide) (by decide) (Nat.le_of_ble_eq_true rfl) rfl ⟨Nat.le_of_ble_eq_true rfl, Nat.le_of_ble_eq_true rfl⟩ dX12_say_1 ?_
    rintro r _ e364
    subst e364
    show J x [(h0, .inr (12, (.ref (m 0) :: .int 0 :: .int 0 :: .int (-1) :: .int 0 :: .int 0 :: .int 0 :: .int 0 :: .int 0 :: .long 0 :: .ref (m 10) :: .ref (m 11) :: .ref (m 12) :: .ref (m 13) :: .ref (m 14) :: .ref (m 15) :: .ref (m 16) :: .ref (m 17) :: .ref (m 18) :: .ref (m 19) :: .ref (m 20) :: .ref (m 21) :: .ref (m 22) :: .ref (m 23) :: .ref (m 24) :: .int 0 :: .int 0 :: .int 0 :: .int 0 :: .int 0 :: .int 0 :: .ref (m 31) :: .ref (m 32) :: .ref (m 33) :: .ref (m 34) :: .ref (m 35) :: .int 0 :: .int 0 :: .int 0 :: .ref (m 39) :: .ref (m 40) :: .ref (m 41) :: .int 0 :: .ref (m 43) :: .ref (m 44) :: .ref (m 45) :: .ref (m 46) :: .ref (m 47) :: .ref (m 48) :: .int 0 :: .ref (m 50) :: .ref (m 51) :: .ref (m 52) :: .ref (m 53) :: .ref (m 54) :: .ref (m 55) :: .ref (m 56) :: .ref (m 57) :: .ref (m 58) :: .ref (m 59) :: .ref (m 60) :: .ref (m 61) :: .int 0 :: .int 0 :: .ref (m 64) :: .ref (m 65) :: .ref (m 66) :: .ref (m 67) :: .ref (m 68) :: .ref (m 69) :: []))), ((m 45), .inl (kA 1, 2, .inl (fun _ => 0)))] [(0, .ref h0), (1, .int 1)] 0 0 4 [.int (bTx 1)]
    refine j_top (b := 1) (by decide) ?_
    refine j_if_ne h 9 dX12_say_4 (by decide) (fun _ => ?_) (fun q => absurd q (by decide))
    refine j_aload_n h 0 rfl rfl dX12_say_9 ?_
    refine j_get h iw_X12 0 rfl rfl 38 (by decide) tw_1194 rfl dX12_say_10 ?_
    refine j_istore_n (lv' := [(2, .int 0), (0, .ref h0), (1, .int 1)]) h dX12_say_13 rfl (by decide) rfl ?_
    refine j_aload_n h 1 rfl rfl dX12_say_14 ?_
    refine j_get h iw_X12 0 rfl rfl 37 (by decide) tw_1193 rfl dX12_say_15 ?_
    refine j_istore_n (lv' := [(3, .int 0), (2, .int 0), (0, .ref h0), (1, .int 1)]) h dX12_say_18 rfl (by decide) rfl ?_
    refine j_iconst (v := 0) h (by decide) dX12_say_19 ?_
    refine j_istore (lv' := [(4, .int 0), (3, .int 0), (2, .int 0), (0, .ref h0), (1, .int 1)]) h dX12_say_20 (by decide) rfl ?_
    refine j_iload h 0 rfl dX12_say_22 ?_
    refine j_aload_n h 3 rfl rfl dX12_say_24 ?_
    refine j_get h iw_X12 0 rfl rfl 45 (by decide) tw_1201 rfl dX12_say_25 ?_
    refine j_iload_n h 4 rfl rfl dX12_say_28 ?_
    refine j_iald h 1 rfl 1 (by decide) (by decide) (by decide) dX12_say_29 ?_
    refine j_top (b := 0) rfl ?_
    refine j_icmp_ge h 83 dX12_say_30 (by decide) (fun _ => ?_) (fun q => absurd (by decide) q)
    refine j_iload_n h 2 rfl rfl dX12_say_83 ?_
    refine j_if_lt h 93 dX12_say_84 (by decide) (fun q => absurd q (by decide)) (fun _ => ?_)
    refine j_iload_n h 1 rfl rfl dX12_say_87 ?_
    refine j_bipush (v := 60) h (by decide) dX12_say_88 ?_
    refine j_icmp_le h 95 dX12_say_90 (by decide) (fun _ => ?_) (fun q => absurd (by decide) q)
    refine j_iconst (v := 0) h (by decide) dX12_say_95 ?_
    refine j_istore (lv' := [(4, .int 0), (3, .int 0), (2, .int 0), (0, .ref h0), (1, .int 1)]) h dX12_say_96 (by decide) rfl ?_
    refine j_iload h 0 rfl dX12_say_98 ?_
    refine j_aload_n h 3 rfl rfl dX12_say_100 ?_
    refine j_get h iw_X12 0 rfl rfl 45 (by decide) tw_1201 rfl dX12_say_101 ?_
    refine j_iload_n h 4 rfl rfl dX12_say_104 ?_
    refine j_iald h 1 rfl 1 (by decide) (by decide) (by decide) dX12_say_105 ?_
    refine j_top (b := 0) rfl ?_
    refine j_icmp_ge h 167 dX12_say_106 (by decide) (fun _ => ?_) (fun q => absurd (by decide) q)
    refine j_aload_n h 3 rfl rfl dX12_say_167 ?_
    refine j_get h iw_X12 0 rfl rfl 37 (by decide) tw_1193 rfl dX12_say_168 ?_
    exact j_iret h hq dX12_say_171 () [] rfl rfl (by decide) (by decide) (Nat.le_of_ble_eq_true rfl) (Nat.le_of_ble_eq_true rfl)
  · refine j_iload_n h 1 rfl rfl dX12_say_0 ?_
    refine j_callSi (np := 1) (isC := []) (isR := [0, 1]) (wc := []) (wr := [(h0, .inr (12, (.ref (m 0) :: .int 0 :: .int 0 :: .int (-1) :: .int 0 :: .int 0 :: .int 0 :: .int 0 :: .int 0 :: .long 0 :: .ref (m 10) :: .ref (m 11) :: .ref (m 12) :: .ref (m 13) :: .ref (m 14) :: .ref (m 15) :: .ref (m 16) :: .ref (m 17) :: .ref (m 18) :: .ref (m 19) :: .ref (m 20) :: .ref (m 21) :: .ref (m 22) :: .ref (m 23) :: .ref (m 24) :: .int 0 :: .int 0 :: .int 0 :: .int 0 :: .int 0 :: .int 0 :: .ref (m 31) :: .ref (m 32) :: .ref (m 33) :: .ref (m 34) :: .ref (m 35) :: .int 0 :: .int 0 :: .int 0 :: .ref (m 39) :: .ref (m 40) :: .ref (m 41) :: .int 0 :: .ref (m 43) :: .ref (m 44) :: .ref (m 45) :: .ref (m 46) :: .ref (m 47) :: .ref (m 48) :: .int 0 :: .ref (m 50) :: .ref (m 51) :: .ref (m 52) :: .ref (m 53) :: .ref (m 54) :: .ref (m 55) :: .ref (m 56) :: .ref (m 57) :: .ref (m 58) :: .ref (m 59) :: .ref (m 60) :: .ref (m 61) :: .int 0 :: .int 0 :: .ref (m 64) :: .ref (m 65) :: .ref (m 66) :: .ref (m 67) :: .ref (m 68) :: .ref (m 69) :: []))), ((m 45), .inl (kA 1, 2, .inl (fun _ => 0)))]) (rest := []) (As := [.int t]) h (c_X12_isText _ _ kA t ) tw_1494 tw_1495 tw_99 tw_1496 (by decide +kernel) rfl ⟨Nat.le_of_ble_eq_true rfl, Nat.le_of_ble_eq_true rfl⟩ rfl (by decide) rfl rfl (by decide) (by decide) (Nat.le_of_ble_eq_true rfl) rfl ⟨Nat.le_of_ble_eq_true rfl, Nat.le_of_ble_eq_true rfl⟩ dX12_say_1 ?_
    rintro r _ e365
    subst e365
    show J x [(h0, .inr (12, (.ref (m 0) :: .int 0 :: .int 0 :: .int (-1) :: .int 0 :: .int 0 :: .int 0 :: .int 0 :: .int 0 :: .long 0 :: .ref (m 10) :: .ref (m 11) :: .ref (m 12) :: .ref (m 13) :: .ref (m 14) :: .ref (m 15) :: .ref (m 16) :: .ref (m 17) :: .ref (m 18) :: .ref (m 19) :: .ref (m 20) :: .ref (m 21) :: .ref (m 22) :: .ref (m 23) :: .ref (m 24) :: .int 0 :: .int 0 :: .int 0 :: .int 0 :: .int 0 :: .int 0 :: .ref (m 31) :: .ref (m 32) :: .ref (m 33) :: .ref (m 34) :: .ref (m 35) :: .int 0 :: .int 0 :: .int 0 :: .ref (m 39) :: .ref (m 40) :: .ref (m 41) :: .int 0 :: .ref (m 43) :: .ref (m 44) :: .ref (m 45) :: .ref (m 46) :: .ref (m 47) :: .ref (m 48) :: .int 0 :: .ref (m 50) :: .ref (m 51) :: .ref (m 52) :: .ref (m 53) :: .ref (m 54) :: .ref (m 55) :: .ref (m 56) :: .ref (m 57) :: .ref (m 58) :: .ref (m 59) :: .ref (m 60) :: .ref (m 61) :: .int 0 :: .int 0 :: .ref (m 64) :: .ref (m 65) :: .ref (m 66) :: .ref (m 67) :: .ref (m 68) :: .ref (m 69) :: []))), ((m 45), .inl (kA 1, 2, .inl (fun _ => 0)))] [(0, .ref h0), (1, .int t)] 0 0 4 [.int (bTx t)]
    refine j_top (b := 0) (hT) ?_
    refine j_if_ne h 9 dX12_say_4 (by decide) (fun q => absurd (by decide) q) (fun _ => ?_)
    refine j_iconst (v := (-1)) h (by decide) dX12_say_7 ?_
    exact j_iret h hq dX12_say_8 () [] rfl rfl (by decide) (by unfold vTxt; simp only [hT, ↓reduceIte]) (Nat.le_of_ble_eq_true rfl) (Nat.le_of_ble_eq_true rfl)
set_option maxHeartbeats 4000000 in
set_option maxRecDepth 100000 in
theorem c_X12_stop (l : Launch) (g : va_G) (kA : Nat → ClassId) (h0 : Nat) (m : Nat → Nat) (fw : Nat → Int32)  : CtI l yX12_stop cX12_stop 2 (some .int) 3 0 0 g kA [.ref h0] [(h0, .inr (12, (.ref (m 0) :: .int 0 :: .int 0 :: .int (-1) :: .int 0 :: .int 0 :: .int 0 :: .int 0 :: .int 0 :: .long 0 :: .ref (m 10) :: .ref (m 11) :: .ref (m 12) :: .ref (m 13) :: .ref (m 14) :: .ref (m 15) :: .ref (m 16) :: .ref (m 17) :: .ref (m 18) :: .ref (m 19) :: .ref (m 20) :: .ref (m 21) :: .ref (m 22) :: .ref (m 23) :: .ref (m 24) :: .int 0 :: .int 0 :: .int 0 :: .int 0 :: .int 0 :: .int 0 :: .ref (m 31) :: .ref (m 32) :: .ref (m 33) :: .ref (m 34) :: .ref (m 35) :: .int 0 :: .int 0 :: .int 0 :: .ref (m 39) :: .ref (m 40) :: .ref (m 41) :: .int 0 :: .ref (m 43) :: .ref (m 44) :: .ref (m 45) :: .ref (m 46) :: .ref (m 47) :: .ref (m 48) :: .int 0 :: .ref (m 50) :: .ref (m 51) :: .ref (m 52) :: .ref (m 53) :: .ref (m 54) :: .ref (m 55) :: .ref (m 56) :: .ref (m 57) :: .ref (m 58) :: .ref (m 59) :: .ref (m 60) :: .ref (m 61) :: .int 0 :: .int 0 :: .ref (m 64) :: .ref (m 65) :: .ref (m 66) :: .ref (m 67) :: .ref (m 68) :: .ref (m 69) :: []))), ((m 34), .inl (kA 1, 60, .inl fw))] (S := Unit) (fun (r : Int32) (_ : Unit) => r = 0) (fun (_ : Unit) => []) := by
  refine nx_startI (by decide +kernel) (Nat.le_of_ble_eq_true rfl) ?_
  intro x hnm h hq
  have h : Ok x cX12_stop RX12 kA (rmC 3 0 0) 2 := h
  show J x [(h0, .inr (12, (.ref (m 0) :: .int 0 :: .int 0 :: .int (-1) :: .int 0 :: .int 0 :: .int 0 :: .int 0 :: .int 0 :: .long 0 :: .ref (m 10) :: .ref (m 11) :: .ref (m 12) :: .ref (m 13) :: .ref (m 14) :: .ref (m 15) :: .ref (m 16) :: .ref (m 17) :: .ref (m 18) :: .ref (m 19) :: .ref (m 20) :: .ref (m 21) :: .ref (m 22) :: .ref (m 23) :: .ref (m 24) :: .int 0 :: .int 0 :: .int 0 :: .int 0 :: .int 0 :: .int 0 :: .ref (m 31) :: .ref (m 32) :: .ref (m 33) :: .ref (m 34) :: .ref (m 35) :: .int 0 :: .int 0 :: .int 0 :: .ref (m 39) :: .ref (m 40) :: .ref (m 41) :: .int 0 :: .ref (m 43) :: .ref (m 44) :: .ref (m 45) :: .ref (m 46) :: .ref (m 47) :: .ref (m 48) :: .int 0 :: .ref (m 50) :: .ref (m 51) :: .ref (m 52) :: .ref (m 53) :: .ref (m 54) :: .ref (m 55) :: .ref (m 56) :: .ref (m 57) :: .ref (m 58) :: .ref (m 59) :: .ref (m 60) :: .ref (m 61) :: .int 0 :: .int 0 :: .ref (m 64) :: .ref (m 65) :: .ref (m 66) :: .ref (m 67) :: .ref (m 68) :: .ref (m 69) :: []))), ((m 34), .inl (kA 1, 60, .inl fw))] [(0, .ref h0)] 0 0 0 []
  refine j_aload_n h 0 rfl rfl dX12_stop_0 ?_
  refine j_get h iw_X12 0 rfl rfl 37 (by decide) tw_1193 rfl dX12_stop_1 ?_
  refine j_istore_n (lv' := [(1, .int 0), (0, .ref h0)]) h dX12_stop_4 rfl (by decide) rfl ?_
  refine j_aload_n h 1 rfl rfl dX12_stop_5 ?_
  refine j_callVv (np := 0) (isC := [0, 1]) (isR := []) (wc := [(h0, .inr (12, (.ref (m 0) :: .int 0 :: .int 0 :: .int (-1) :: .int 0 :: .int 0 :: .int 0 :: .int 0 :: .int 0 :: .long 0 :: .ref (m 10) :: .ref (m 11) :: .ref (m 12) :: .ref (m 13) :: .ref (m 14) :: .ref (m 15) :: .ref (m 16) :: .ref (m 17) :: .ref (m 18) :: .ref (m 19) :: .ref (m 20) :: .ref (m 21) :: .ref (m 22) :: .ref (m 23) :: .ref (m 24) :: .int 0 :: .int 0 :: .int 0 :: .int 0 :: .int 0 :: .int 0 :: .ref (m 31) :: .ref (m 32) :: .ref (m 33) :: .ref (m 34) :: .ref (m 35) :: .int 0 :: .int 0 :: .int 0 :: .ref (m 39) :: .ref (m 40) :: .ref (m 41) :: .int 0 :: .ref (m 43) :: .ref (m 44) :: .ref (m 45) :: .ref (m 46) :: .ref (m 47) :: .ref (m 48) :: .int 0 :: .ref (m 50) :: .ref (m 51) :: .ref (m 52) :: .ref (m 53) :: .ref (m 54) :: .ref (m 55) :: .ref (m 56) :: .ref (m 57) :: .ref (m 58) :: .ref (m 59) :: .ref (m 60) :: .ref (m 61) :: .int 0 :: .int 0 :: .ref (m 64) :: .ref (m 65) :: .ref (m 66) :: .ref (m 67) :: .ref (m 68) :: .ref (m 69) :: []))), ((m 34), .inl (kA 1, 60, .inl fw))]) (wr := []) (rest := []) (As := []) (q0 := 0) h (c_X12_clearWalk _ _ kA h0 m fw ) tw_1152 tw_1154 tw_38 tw_99 tw_1155 (by decide +kernel) rfl ⟨Nat.le_of_ble_eq_true rfl, Nat.le_of_ble_eq_true rfl⟩ rfl rfl rfl (by decide) rfl rfl (by decide) (by decide) (Nat.le_of_ble_eq_true rfl) rfl ⟨Nat.le_of_ble_eq_true rfl, Nat.le_of_ble_eq_true rfl⟩ dX12_stop_6 ?_
  rintro q366 e367
  show J x [(h0, .inr (12, (.ref (m 0) :: .int 0 :: .int 0 :: .int (-1) :: .int 0 :: .int 0 :: .int 0 :: .int 0 :: .int 0 :: .long 0 :: .ref (m 10) :: .ref (m 11) :: .ref (m 12) :: .ref (m 13) :: .ref (m 14) :: .ref (m 15) :: .ref (m 16) :: .ref (m 17) :: .ref (m 18) :: .ref (m 19) :: .ref (m 20) :: .ref (m 21) :: .ref (m 22) :: .ref (m 23) :: .ref (m 24) :: .int 0 :: .int 0 :: .int 0 :: .int 0 :: .int 0 :: .int 0 :: .ref (m 31) :: .ref (m 32) :: .ref (m 33) :: .ref (m 34) :: .ref (m 35) :: .int 0 :: .int 0 :: .int 0 :: .ref (m 39) :: .ref (m 40) :: .ref (m 41) :: .int 0 :: .ref (m 43) :: .ref (m 44) :: .ref (m 45) :: .ref (m 46) :: .ref (m 47) :: .ref (m 48) :: .int 0 :: .ref (m 50) :: .ref (m 51) :: .ref (m 52) :: .ref (m 53) :: .ref (m 54) :: .ref (m 55) :: .ref (m 56) :: .ref (m 57) :: .ref (m 58) :: .ref (m 59) :: .ref (m 60) :: .ref (m 61) :: .int 0 :: .int 0 :: .ref (m 64) :: .ref (m 65) :: .ref (m 66) :: .ref (m 67) :: .ref (m 68) :: .ref (m 69) :: []))), ((m 34), .inl (kA 1, 60, .inl q366))] [(1, .int 0), (0, .ref h0)] 0 0 9 []
  refine j_iload_n h 0 rfl rfl dX12_stop_9 ?_
  exact j_iret h hq dX12_stop_10 () [] rfl rfl (by decide) (by first | rfl | simp only [↓reduceIte]) (Nat.le_of_ble_eq_true rfl) (Nat.le_of_ble_eq_true rfl)
set_option maxHeartbeats 4000000 in
set_option maxRecDepth 100000 in
theorem c_X12_heard (l : Launch) (g : va_G) (kA : Nat → ClassId) (h0 : Nat) (m : Nat → Nat) (e : Int32) (n : Int32)  : CtI l yX12_heard cX12_heard 3 (some .int) 3 0 0 g kA [.ref h0, .int e, .int n] [(h0, .inr (12, (.ref (m 0) :: .int 0 :: .int 0 :: .int (-1) :: .int 0 :: .int 0 :: .int 0 :: .int 0 :: .int 0 :: .long 0 :: .ref (m 10) :: .ref (m 11) :: .ref (m 12) :: .ref (m 13) :: .ref (m 14) :: .ref (m 15) :: .ref (m 16) :: .ref (m 17) :: .ref (m 18) :: .ref (m 19) :: .ref (m 20) :: .ref (m 21) :: .ref (m 22) :: .ref (m 23) :: .ref (m 24) :: .int 0 :: .int 0 :: .int 0 :: .int 0 :: .int 0 :: .int 0 :: .ref (m 31) :: .ref (m 32) :: .ref (m 33) :: .ref (m 34) :: .ref (m 35) :: .int 0 :: .int 0 :: .int 0 :: .ref (m 39) :: .ref (m 40) :: .ref (m 41) :: .int 0 :: .ref (m 43) :: .ref (m 44) :: .ref (m 45) :: .ref (m 46) :: .ref (m 47) :: .ref (m 48) :: .int 0 :: .ref (m 50) :: .ref (m 51) :: .ref (m 52) :: .ref (m 53) :: .ref (m 54) :: .ref (m 55) :: .ref (m 56) :: .ref (m 57) :: .ref (m 58) :: .ref (m 59) :: .ref (m 60) :: .ref (m 61) :: .int 0 :: .int 0 :: .ref (m 64) :: .ref (m 65) :: .ref (m 66) :: .ref (m 67) :: .ref (m 68) :: .ref (m 69) :: [])))] (S := Unit) (fun (r : Int32) (_ : Unit) => r = (-1)) (fun (_ : Unit) => []) := by
  refine nx_startI (by decide +kernel) (Nat.le_of_ble_eq_true rfl) ?_
  intro x hnm h hq
  have h : Ok x cX12_heard RX12 kA (rmC 3 0 0) 3 := h
  show J x [(h0, .inr (12, (.ref (m 0) :: .int 0 :: .int 0 :: .int (-1) :: .int 0 :: .int 0 :: .int 0 :: .int 0 :: .int 0 :: .long 0 :: .ref (m 10) :: .ref (m 11) :: .ref (m 12) :: .ref (m 13) :: .ref (m 14) :: .ref (m 15) :: .ref (m 16) :: .ref (m 17) :: .ref (m 18) :: .ref (m 19) :: .ref (m 20) :: .ref (m 21) :: .ref (m 22) :: .ref (m 23) :: .ref (m 24) :: .int 0 :: .int 0 :: .int 0 :: .int 0 :: .int 0 :: .int 0 :: .ref (m 31) :: .ref (m 32) :: .ref (m 33) :: .ref (m 34) :: .ref (m 35) :: .int 0 :: .int 0 :: .int 0 :: .ref (m 39) :: .ref (m 40) :: .ref (m 41) :: .int 0 :: .ref (m 43) :: .ref (m 44) :: .ref (m 45) :: .ref (m 46) :: .ref (m 47) :: .ref (m 48) :: .int 0 :: .ref (m 50) :: .ref (m 51) :: .ref (m 52) :: .ref (m 53) :: .ref (m 54) :: .ref (m 55) :: .ref (m 56) :: .ref (m 57) :: .ref (m 58) :: .ref (m 59) :: .ref (m 60) :: .ref (m 61) :: .int 0 :: .int 0 :: .ref (m 64) :: .ref (m 65) :: .ref (m 66) :: .ref (m 67) :: .ref (m 68) :: .ref (m 69) :: [])))] [(0, .ref h0), (1, .int e), (2, .int n)] 0 0 0 []
  refine j_aload_n h 0 rfl rfl dX12_heard_0 ?_
  refine j_iload_n h 1 rfl rfl dX12_heard_1 ?_
  refine j_callVi (np := 1) (isC := [0]) (isR := []) (wc := [(h0, .inr (12, (.ref (m 0) :: .int 0 :: .int 0 :: .int (-1) :: .int 0 :: .int 0 :: .int 0 :: .int 0 :: .int 0 :: .long 0 :: .ref (m 10) :: .ref (m 11) :: .ref (m 12) :: .ref (m 13) :: .ref (m 14) :: .ref (m 15) :: .ref (m 16) :: .ref (m 17) :: .ref (m 18) :: .ref (m 19) :: .ref (m 20) :: .ref (m 21) :: .ref (m 22) :: .ref (m 23) :: .ref (m 24) :: .int 0 :: .int 0 :: .int 0 :: .int 0 :: .int 0 :: .int 0 :: .ref (m 31) :: .ref (m 32) :: .ref (m 33) :: .ref (m 34) :: .ref (m 35) :: .int 0 :: .int 0 :: .int 0 :: .ref (m 39) :: .ref (m 40) :: .ref (m 41) :: .int 0 :: .ref (m 43) :: .ref (m 44) :: .ref (m 45) :: .ref (m 46) :: .ref (m 47) :: .ref (m 48) :: .int 0 :: .ref (m 50) :: .ref (m 51) :: .ref (m 52) :: .ref (m 53) :: .ref (m 54) :: .ref (m 55) :: .ref (m 56) :: .ref (m 57) :: .ref (m 58) :: .ref (m 59) :: .ref (m 60) :: .ref (m 61) :: .int 0 :: .int 0 :: .ref (m 64) :: .ref (m 65) :: .ref (m 66) :: .ref (m 67) :: .ref (m 68) :: .ref (m 69) :: [])))]) (wr := []) (rest := []) (As := [.int e]) (q0 := 0) h (c_X12_isEar _ _ kA h0 m e ) tw_1506 tw_1508 tw_60 tw_99 tw_1509 (by decide +kernel) rfl ⟨Nat.le_of_ble_eq_true rfl, Nat.le_of_ble_eq_true rfl⟩ rfl rfl rfl (by decide) rfl rfl (by decide) (by decide) (Nat.le_of_ble_eq_true rfl) rfl ⟨Nat.le_of_ble_eq_true rfl, Nat.le_of_ble_eq_true rfl⟩ dX12_heard_2 ?_
  rintro r _ e368
  subst e368
  show J x [(h0, .inr (12, (.ref (m 0) :: .int 0 :: .int 0 :: .int (-1) :: .int 0 :: .int 0 :: .int 0 :: .int 0 :: .int 0 :: .long 0 :: .ref (m 10) :: .ref (m 11) :: .ref (m 12) :: .ref (m 13) :: .ref (m 14) :: .ref (m 15) :: .ref (m 16) :: .ref (m 17) :: .ref (m 18) :: .ref (m 19) :: .ref (m 20) :: .ref (m 21) :: .ref (m 22) :: .ref (m 23) :: .ref (m 24) :: .int 0 :: .int 0 :: .int 0 :: .int 0 :: .int 0 :: .int 0 :: .ref (m 31) :: .ref (m 32) :: .ref (m 33) :: .ref (m 34) :: .ref (m 35) :: .int 0 :: .int 0 :: .int 0 :: .ref (m 39) :: .ref (m 40) :: .ref (m 41) :: .int 0 :: .ref (m 43) :: .ref (m 44) :: .ref (m 45) :: .ref (m 46) :: .ref (m 47) :: .ref (m 48) :: .int 0 :: .ref (m 50) :: .ref (m 51) :: .ref (m 52) :: .ref (m 53) :: .ref (m 54) :: .ref (m 55) :: .ref (m 56) :: .ref (m 57) :: .ref (m 58) :: .ref (m 59) :: .ref (m 60) :: .ref (m 61) :: .int 0 :: .int 0 :: .ref (m 64) :: .ref (m 65) :: .ref (m 66) :: .ref (m 67) :: .ref (m 68) :: .ref (m 69) :: [])))] [(0, .ref h0), (1, .int e), (2, .int n)] 0 0 5 [.int 0]
  refine j_if_eq h 36 dX12_heard_5 (by decide) (fun _ => ?_) (fun q => absurd (by decide) q)
  refine j_iconst (v := (-1)) h (by decide) dX12_heard_36 ?_
  exact j_iret h hq dX12_heard_37 () [] rfl rfl (by decide) (by first | rfl | simp only [↓reduceIte]) (Nat.le_of_ble_eq_true rfl) (Nat.le_of_ble_eq_true rfl)
set_option maxHeartbeats 4000000 in
set_option maxRecDepth 100000 in
theorem c_X12_reads (l : Launch) (g : va_G) (kA : Nat → ClassId) (h0 : Nat) (m : Nat → Nat) (e : Int32) (n : Int32)  : CtL l yX12_reads cX12_reads 9 (some .long) 3 0 0 g kA [.ref h0, .int e, .int n] [(h0, .inr (12, (.ref (m 0) :: .int 0 :: .int 0 :: .int (-1) :: .int 0 :: .int 0 :: .int 0 :: .int 0 :: .int 0 :: .long 0 :: .ref (m 10) :: .ref (m 11) :: .ref (m 12) :: .ref (m 13) :: .ref (m 14) :: .ref (m 15) :: .ref (m 16) :: .ref (m 17) :: .ref (m 18) :: .ref (m 19) :: .ref (m 20) :: .ref (m 21) :: .ref (m 22) :: .ref (m 23) :: .ref (m 24) :: .int 0 :: .int 0 :: .int 0 :: .int 0 :: .int 0 :: .int 0 :: .ref (m 31) :: .ref (m 32) :: .ref (m 33) :: .ref (m 34) :: .ref (m 35) :: .int 0 :: .int 0 :: .int 0 :: .ref (m 39) :: .ref (m 40) :: .ref (m 41) :: .int 0 :: .ref (m 43) :: .ref (m 44) :: .ref (m 45) :: .ref (m 46) :: .ref (m 47) :: .ref (m 48) :: .int 0 :: .ref (m 50) :: .ref (m 51) :: .ref (m 52) :: .ref (m 53) :: .ref (m 54) :: .ref (m 55) :: .ref (m 56) :: .ref (m 57) :: .ref (m 58) :: .ref (m 59) :: .ref (m 60) :: .ref (m 61) :: .int 0 :: .int 0 :: .ref (m 64) :: .ref (m 65) :: .ref (m 66) :: .ref (m 67) :: .ref (m 68) :: .ref (m 69) :: [])))] (S := Unit) (fun (r : Int64) (_ : Unit) => r = (-1)) (fun (_ : Unit) => []) := by
  refine nx_startL (by decide +kernel) (Nat.le_of_ble_eq_true rfl) ?_
  intro x hnm h hq
  have h : Ok x cX12_reads RX12 kA (rmC 3 0 0) 9 := h
  show J x [(h0, .inr (12, (.ref (m 0) :: .int 0 :: .int 0 :: .int (-1) :: .int 0 :: .int 0 :: .int 0 :: .int 0 :: .int 0 :: .long 0 :: .ref (m 10) :: .ref (m 11) :: .ref (m 12) :: .ref (m 13) :: .ref (m 14) :: .ref (m 15) :: .ref (m 16) :: .ref (m 17) :: .ref (m 18) :: .ref (m 19) :: .ref (m 20) :: .ref (m 21) :: .ref (m 22) :: .ref (m 23) :: .ref (m 24) :: .int 0 :: .int 0 :: .int 0 :: .int 0 :: .int 0 :: .int 0 :: .ref (m 31) :: .ref (m 32) :: .ref (m 33) :: .ref (m 34) :: .ref (m 35) :: .int 0 :: .int 0 :: .int 0 :: .ref (m 39) :: .ref (m 40) :: .ref (m 41) :: .int 0 :: .ref (m 43) :: .ref (m 44) :: .ref (m 45) :: .ref (m 46) :: .ref (m 47) :: .ref (m 48) :: .int 0 :: .ref (m 50) :: .ref (m 51) :: .ref (m 52) :: .ref (m 53) :: .ref (m 54) :: .ref (m 55) :: .ref (m 56) :: .ref (m 57) :: .ref (m 58) :: .ref (m 59) :: .ref (m 60) :: .ref (m 61) :: .int 0 :: .int 0 :: .ref (m 64) :: .ref (m 65) :: .ref (m 66) :: .ref (m 67) :: .ref (m 68) :: .ref (m 69) :: [])))] [(0, .ref h0), (1, .int e), (2, .int n)] 0 0 0 []
  refine j_aload_n h 0 rfl rfl dX12_reads_0 ?_
  refine j_iconst (v := 0) h (by decide) dX12_reads_1 ?_
  refine j_put (ws' := [(h0, .inr (12, (.ref (m 0) :: .int 0 :: .int 0 :: .int (-1) :: .int 0 :: .int 0 :: .int 0 :: .int 0 :: .int 0 :: .long 0 :: .ref (m 10) :: .ref (m 11) :: .ref (m 12) :: .ref (m 13) :: .ref (m 14) :: .ref (m 15) :: .ref (m 16) :: .ref (m 17) :: .ref (m 18) :: .ref (m 19) :: .ref (m 20) :: .ref (m 21) :: .ref (m 22) :: .ref (m 23) :: .ref (m 24) :: .int 0 :: .int 0 :: .int 0 :: .int 0 :: .int 0 :: .int 0 :: .ref (m 31) :: .ref (m 32) :: .ref (m 33) :: .ref (m 34) :: .ref (m 35) :: .int 0 :: .int 0 :: .int 0 :: .ref (m 39) :: .ref (m 40) :: .ref (m 41) :: .int 0 :: .ref (m 43) :: .ref (m 44) :: .ref (m 45) :: .ref (m 46) :: .ref (m 47) :: .ref (m 48) :: .int 0 :: .ref (m 50) :: .ref (m 51) :: .ref (m 52) :: .ref (m 53) :: .ref (m 54) :: .ref (m 55) :: .ref (m 56) :: .ref (m 57) :: .ref (m 58) :: .ref (m 59) :: .ref (m 60) :: .ref (m 61) :: .int 0 :: .int 0 :: .ref (m 64) :: .ref (m 65) :: .ref (m 66) :: .ref (m 67) :: .ref (m 68) :: .ref (m 69) :: [])))]) h iw_X12 tyX12 tyX12_ok nmX12 0 rfl rfl 42 (by decide) tw_1198 rfl rfl rfl (Nat.le_of_ble_eq_true rfl) dX12_reads_2 rfl ?_
  refine j_aload_n h 0 rfl rfl dX12_reads_5 ?_
  refine j_iload_n h 1 rfl rfl dX12_reads_6 ?_
  refine j_callVi (np := 1) (isC := [0]) (isR := []) (wc := [(h0, .inr (12, (.ref (m 0) :: .int 0 :: .int 0 :: .int (-1) :: .int 0 :: .int 0 :: .int 0 :: .int 0 :: .int 0 :: .long 0 :: .ref (m 10) :: .ref (m 11) :: .ref (m 12) :: .ref (m 13) :: .ref (m 14) :: .ref (m 15) :: .ref (m 16) :: .ref (m 17) :: .ref (m 18) :: .ref (m 19) :: .ref (m 20) :: .ref (m 21) :: .ref (m 22) :: .ref (m 23) :: .ref (m 24) :: .int 0 :: .int 0 :: .int 0 :: .int 0 :: .int 0 :: .int 0 :: .ref (m 31) :: .ref (m 32) :: .ref (m 33) :: .ref (m 34) :: .ref (m 35) :: .int 0 :: .int 0 :: .int 0 :: .ref (m 39) :: .ref (m 40) :: .ref (m 41) :: .int 0 :: .ref (m 43) :: .ref (m 44) :: .ref (m 45) :: .ref (m 46) :: .ref (m 47) :: .ref (m 48) :: .int 0 :: .ref (m 50) :: .ref (m 51) :: .ref (m 52) :: .ref (m 53) :: .ref (m 54) :: .ref (m 55) :: .ref (m 56) :: .ref (m 57) :: .ref (m 58) :: .ref (m 59) :: .ref (m 60) :: .ref (m 61) :: .int 0 :: .int 0 :: .ref (m 64) :: .ref (m 65) :: .ref (m 66) :: .ref (m 67) :: .ref (m 68) :: .ref (m 69) :: [])))]) (wr := []) (rest := []) (As := [.int e]) (q0 := 0) h (c_X12_isEar _ _ kA h0 m e ) tw_1506 tw_1508 tw_60 tw_99 tw_1509 (by decide +kernel) rfl ⟨Nat.le_of_ble_eq_true rfl, Nat.le_of_ble_eq_true rfl⟩ rfl rfl rfl (by decide) rfl rfl (by decide) (by decide) (Nat.le_of_ble_eq_true rfl) rfl ⟨Nat.le_of_ble_eq_true rfl, Nat.le_of_ble_eq_true rfl⟩ dX12_reads_7 ?_
  rintro r _ e369
  subst e369
  show J x [(h0, .inr (12, (.ref (m 0) :: .int 0 :: .int 0 :: .int (-1) :: .int 0 :: .int 0 :: .int 0 :: .int 0 :: .int 0 :: .long 0 :: .ref (m 10) :: .ref (m 11) :: .ref (m 12) :: .ref (m 13) :: .ref (m 14) :: .ref (m 15) :: .ref (m 16) :: .ref (m 17) :: .ref (m 18) :: .ref (m 19) :: .ref (m 20) :: .ref (m 21) :: .ref (m 22) :: .ref (m 23) :: .ref (m 24) :: .int 0 :: .int 0 :: .int 0 :: .int 0 :: .int 0 :: .int 0 :: .ref (m 31) :: .ref (m 32) :: .ref (m 33) :: .ref (m 34) :: .ref (m 35) :: .int 0 :: .int 0 :: .int 0 :: .ref (m 39) :: .ref (m 40) :: .ref (m 41) :: .int 0 :: .ref (m 43) :: .ref (m 44) :: .ref (m 45) :: .ref (m 46) :: .ref (m 47) :: .ref (m 48) :: .int 0 :: .ref (m 50) :: .ref (m 51) :: .ref (m 52) :: .ref (m 53) :: .ref (m 54) :: .ref (m 55) :: .ref (m 56) :: .ref (m 57) :: .ref (m 58) :: .ref (m 59) :: .ref (m 60) :: .ref (m 61) :: .int 0 :: .int 0 :: .ref (m 64) :: .ref (m 65) :: .ref (m 66) :: .ref (m 67) :: .ref (m 68) :: .ref (m 69) :: [])))] [(0, .ref h0), (1, .int e), (2, .int n)] 0 0 10 [.int 0]
  refine j_if_eq h 22 dX12_reads_10 (by decide) (fun _ => ?_) (fun q => absurd (by decide) q)
  refine j_ldc2 h tw_1518 dX12_reads_22 ?_
  exact j_lret h hq dX12_reads_25 () [] rfl rfl (by decide) (by first | rfl | simp only [↓reduceIte]) (Nat.le_of_ble_eq_true rfl) (Nat.le_of_ble_eq_true rfl)
set_option maxHeartbeats 4000000 in
set_option maxRecDepth 100000 in
theorem c_X12_stuck (l : Launch) (g : va_G) (kA : Nat → ClassId) (h0 : Nat) (m : Nat → Nat) (e : Int32)  : CtI l yX12_stuck cX12_stuck 8 (some .int) 3 0 0 g kA [.ref h0, .int e] [(h0, .inr (12, (.ref (m 0) :: .int 0 :: .int 0 :: .int (-1) :: .int 0 :: .int 0 :: .int 0 :: .int 0 :: .int 0 :: .long 0 :: .ref (m 10) :: .ref (m 11) :: .ref (m 12) :: .ref (m 13) :: .ref (m 14) :: .ref (m 15) :: .ref (m 16) :: .ref (m 17) :: .ref (m 18) :: .ref (m 19) :: .ref (m 20) :: .ref (m 21) :: .ref (m 22) :: .ref (m 23) :: .ref (m 24) :: .int 0 :: .int 0 :: .int 0 :: .int 0 :: .int 0 :: .int 0 :: .ref (m 31) :: .ref (m 32) :: .ref (m 33) :: .ref (m 34) :: .ref (m 35) :: .int 0 :: .int 0 :: .int 0 :: .ref (m 39) :: .ref (m 40) :: .ref (m 41) :: .int 0 :: .ref (m 43) :: .ref (m 44) :: .ref (m 45) :: .ref (m 46) :: .ref (m 47) :: .ref (m 48) :: .int 0 :: .ref (m 50) :: .ref (m 51) :: .ref (m 52) :: .ref (m 53) :: .ref (m 54) :: .ref (m 55) :: .ref (m 56) :: .ref (m 57) :: .ref (m 58) :: .ref (m 59) :: .ref (m 60) :: .ref (m 61) :: .int 0 :: .int 0 :: .ref (m 64) :: .ref (m 65) :: .ref (m 66) :: .ref (m 67) :: .ref (m 68) :: .ref (m 69) :: [])))] (S := Unit) (fun (r : Int32) (_ : Unit) => r = (-2)) (fun (_ : Unit) => []) := by
  refine nx_startI (by decide +kernel) (Nat.le_of_ble_eq_true rfl) ?_
  intro x hnm h hq
  have h : Ok x cX12_stuck RX12 kA (rmC 3 0 0) 8 := h
  show J x [(h0, .inr (12, (.ref (m 0) :: .int 0 :: .int 0 :: .int (-1) :: .int 0 :: .int 0 :: .int 0 :: .int 0 :: .int 0 :: .long 0 :: .ref (m 10) :: .ref (m 11) :: .ref (m 12) :: .ref (m 13) :: .ref (m 14) :: .ref (m 15) :: .ref (m 16) :: .ref (m 17) :: .ref (m 18) :: .ref (m 19) :: .ref (m 20) :: .ref (m 21) :: .ref (m 22) :: .ref (m 23) :: .ref (m 24) :: .int 0 :: .int 0 :: .int 0 :: .int 0 :: .int 0 :: .int 0 :: .ref (m 31) :: .ref (m 32) :: .ref (m 33) :: .ref (m 34) :: .ref (m 35) :: .int 0 :: .int 0 :: .int 0 :: .ref (m 39) :: .ref (m 40) :: .ref (m 41) :: .int 0 :: .ref (m 43) :: .ref (m 44) :: .ref (m 45) :: .ref (m 46) :: .ref (m 47) :: .ref (m 48) :: .int 0 :: .ref (m 50) :: .ref (m 51) :: .ref (m 52) :: .ref (m 53) :: .ref (m 54) :: .ref (m 55) :: .ref (m 56) :: .ref (m 57) :: .ref (m 58) :: .ref (m 59) :: .ref (m 60) :: .ref (m 61) :: .int 0 :: .int 0 :: .ref (m 64) :: .ref (m 65) :: .ref (m 66) :: .ref (m 67) :: .ref (m 68) :: .ref (m 69) :: [])))] [(0, .ref h0), (1, .int e)] 0 0 0 []
  refine j_aload_n h 0 rfl rfl dX12_stuck_0 ?_
  refine j_iload_n h 1 rfl rfl dX12_stuck_1 ?_
  refine j_callVi (np := 1) (isC := [0]) (isR := []) (wc := [(h0, .inr (12, (.ref (m 0) :: .int 0 :: .int 0 :: .int (-1) :: .int 0 :: .int 0 :: .int 0 :: .int 0 :: .int 0 :: .long 0 :: .ref (m 10) :: .ref (m 11) :: .ref (m 12) :: .ref (m 13) :: .ref (m 14) :: .ref (m 15) :: .ref (m 16) :: .ref (m 17) :: .ref (m 18) :: .ref (m 19) :: .ref (m 20) :: .ref (m 21) :: .ref (m 22) :: .ref (m 23) :: .ref (m 24) :: .int 0 :: .int 0 :: .int 0 :: .int 0 :: .int 0 :: .int 0 :: .ref (m 31) :: .ref (m 32) :: .ref (m 33) :: .ref (m 34) :: .ref (m 35) :: .int 0 :: .int 0 :: .int 0 :: .ref (m 39) :: .ref (m 40) :: .ref (m 41) :: .int 0 :: .ref (m 43) :: .ref (m 44) :: .ref (m 45) :: .ref (m 46) :: .ref (m 47) :: .ref (m 48) :: .int 0 :: .ref (m 50) :: .ref (m 51) :: .ref (m 52) :: .ref (m 53) :: .ref (m 54) :: .ref (m 55) :: .ref (m 56) :: .ref (m 57) :: .ref (m 58) :: .ref (m 59) :: .ref (m 60) :: .ref (m 61) :: .int 0 :: .int 0 :: .ref (m 64) :: .ref (m 65) :: .ref (m 66) :: .ref (m 67) :: .ref (m 68) :: .ref (m 69) :: [])))]) (wr := []) (rest := []) (As := [.int e]) (q0 := 0) h (c_X12_isEar _ _ kA h0 m e ) tw_1506 tw_1508 tw_60 tw_99 tw_1509 (by decide +kernel) rfl ⟨Nat.le_of_ble_eq_true rfl, Nat.le_of_ble_eq_true rfl⟩ rfl rfl rfl (by decide) rfl rfl (by decide) (by decide) (Nat.le_of_ble_eq_true rfl) rfl ⟨Nat.le_of_ble_eq_true rfl, Nat.le_of_ble_eq_true rfl⟩ dX12_stuck_2 ?_
  rintro r _ e370
  subst e370
  show J x [(h0, .inr (12, (.ref (m 0) :: .int 0 :: .int 0 :: .int (-1) :: .int 0 :: .int 0 :: .int 0 :: .int 0 :: .int 0 :: .long 0 :: .ref (m 10) :: .ref (m 11) :: .ref (m 12) :: .ref (m 13) :: .ref (m 14) :: .ref (m 15) :: .ref (m 16) :: .ref (m 17) :: .ref (m 18) :: .ref (m 19) :: .ref (m 20) :: .ref (m 21) :: .ref (m 22) :: .ref (m 23) :: .ref (m 24) :: .int 0 :: .int 0 :: .int 0 :: .int 0 :: .int 0 :: .int 0 :: .ref (m 31) :: .ref (m 32) :: .ref (m 33) :: .ref (m 34) :: .ref (m 35) :: .int 0 :: .int 0 :: .int 0 :: .ref (m 39) :: .ref (m 40) :: .ref (m 41) :: .int 0 :: .ref (m 43) :: .ref (m 44) :: .ref (m 45) :: .ref (m 46) :: .ref (m 47) :: .ref (m 48) :: .int 0 :: .ref (m 50) :: .ref (m 51) :: .ref (m 52) :: .ref (m 53) :: .ref (m 54) :: .ref (m 55) :: .ref (m 56) :: .ref (m 57) :: .ref (m 58) :: .ref (m 59) :: .ref (m 60) :: .ref (m 61) :: .int 0 :: .int 0 :: .ref (m 64) :: .ref (m 65) :: .ref (m 66) :: .ref (m 67) :: .ref (m 68) :: .ref (m 69) :: [])))] [(0, .ref h0), (1, .int e)] 0 0 5 [.int 0]
  refine j_if_ne h 11 dX12_stuck_5 (by decide) (fun q => absurd (by decide) q) (fun _ => ?_)
  refine j_bipush (v := (-2)) h (by decide) dX12_stuck_8 ?_
  exact j_iret h hq dX12_stuck_10 () [] rfl rfl (by decide) (by first | rfl | simp only [↓reduceIte]) (Nat.le_of_ble_eq_true rfl) (Nat.le_of_ble_eq_true rfl)
set_option maxHeartbeats 4000000 in
set_option maxRecDepth 100000 in
theorem c_X12_alike (l : Launch) (g : va_G) (kA : Nat → ClassId) (h0 : Nat) (m : Nat → Nat) (e : Int32) (a : Int32) (b : Int32) (f : Int32)  : CtI l yX12_alike cX12_alike 7 (some .int) 3 0 0 g kA [.ref h0, .int e, .int a, .int b, .int f] [(h0, .inr (12, (.ref (m 0) :: .int 0 :: .int 0 :: .int (-1) :: .int 0 :: .int 0 :: .int 0 :: .int 0 :: .int 0 :: .long 0 :: .ref (m 10) :: .ref (m 11) :: .ref (m 12) :: .ref (m 13) :: .ref (m 14) :: .ref (m 15) :: .ref (m 16) :: .ref (m 17) :: .ref (m 18) :: .ref (m 19) :: .ref (m 20) :: .ref (m 21) :: .ref (m 22) :: .ref (m 23) :: .ref (m 24) :: .int 0 :: .int 0 :: .int 0 :: .int 0 :: .int 0 :: .int 0 :: .ref (m 31) :: .ref (m 32) :: .ref (m 33) :: .ref (m 34) :: .ref (m 35) :: .int 0 :: .int 0 :: .int 0 :: .ref (m 39) :: .ref (m 40) :: .ref (m 41) :: .int 0 :: .ref (m 43) :: .ref (m 44) :: .ref (m 45) :: .ref (m 46) :: .ref (m 47) :: .ref (m 48) :: .int 0 :: .ref (m 50) :: .ref (m 51) :: .ref (m 52) :: .ref (m 53) :: .ref (m 54) :: .ref (m 55) :: .ref (m 56) :: .ref (m 57) :: .ref (m 58) :: .ref (m 59) :: .ref (m 60) :: .ref (m 61) :: .int 0 :: .int 0 :: .ref (m 64) :: .ref (m 65) :: .ref (m 66) :: .ref (m 67) :: .ref (m 68) :: .ref (m 69) :: [])))] (S := Unit) (fun (r : Int32) (_ : Unit) => r = (-1)) (fun (_ : Unit) => []) := by
  refine nx_startI (by decide +kernel) (Nat.le_of_ble_eq_true rfl) ?_
  intro x hnm h hq
  have h : Ok x cX12_alike RX12 kA (rmC 3 0 0) 7 := h
  show J x [(h0, .inr (12, (.ref (m 0) :: .int 0 :: .int 0 :: .int (-1) :: .int 0 :: .int 0 :: .int 0 :: .int 0 :: .int 0 :: .long 0 :: .ref (m 10) :: .ref (m 11) :: .ref (m 12) :: .ref (m 13) :: .ref (m 14) :: .ref (m 15) :: .ref (m 16) :: .ref (m 17) :: .ref (m 18) :: .ref (m 19) :: .ref (m 20) :: .ref (m 21) :: .ref (m 22) :: .ref (m 23) :: .ref (m 24) :: .int 0 :: .int 0 :: .int 0 :: .int 0 :: .int 0 :: .int 0 :: .ref (m 31) :: .ref (m 32) :: .ref (m 33) :: .ref (m 34) :: .ref (m 35) :: .int 0 :: .int 0 :: .int 0 :: .ref (m 39) :: .ref (m 40) :: .ref (m 41) :: .int 0 :: .ref (m 43) :: .ref (m 44) :: .ref (m 45) :: .ref (m 46) :: .ref (m 47) :: .ref (m 48) :: .int 0 :: .ref (m 50) :: .ref (m 51) :: .ref (m 52) :: .ref (m 53) :: .ref (m 54) :: .ref (m 55) :: .ref (m 56) :: .ref (m 57) :: .ref (m 58) :: .ref (m 59) :: .ref (m 60) :: .ref (m 61) :: .int 0 :: .int 0 :: .ref (m 64) :: .ref (m 65) :: .ref (m 66) :: .ref (m 67) :: .ref (m 68) :: .ref (m 69) :: [])))] [(0, .ref h0), (1, .int e), (2, .int a), (3, .int b), (4, .int f)] 0 0 0 []
  refine j_aload_n h 0 rfl rfl dX12_alike_0 ?_
  refine j_iload_n h 1 rfl rfl dX12_alike_1 ?_
  refine j_callVi (np := 1) (isC := [0]) (isR := []) (wc := [(h0, .inr (12, (.ref (m 0) :: .int 0 :: .int 0 :: .int (-1) :: .int 0 :: .int 0 :: .int 0 :: .int 0 :: .int 0 :: .long 0 :: .ref (m 10) :: .ref (m 11) :: .ref (m 12) :: .ref (m 13) :: .ref (m 14) :: .ref (m 15) :: .ref (m 16) :: .ref (m 17) :: .ref (m 18) :: .ref (m 19) :: .ref (m 20) :: .ref (m 21) :: .ref (m 22) :: .ref (m 23) :: .ref (m 24) :: .int 0 :: .int 0 :: .int 0 :: .int 0 :: .int 0 :: .int 0 :: .ref (m 31) :: .ref (m 32) :: .ref (m 33) :: .ref (m 34) :: .ref (m 35) :: .int 0 :: .int 0 :: .int 0 :: .ref (m 39) :: .ref (m 40) :: .ref (m 41) :: .int 0 :: .ref (m 43) :: .ref (m 44) :: .ref (m 45) :: .ref (m 46) :: .ref (m 47) :: .ref (m 48) :: .int 0 :: .ref (m 50) :: .ref (m 51) :: .ref (m 52) :: .ref (m 53) :: .ref (m 54) :: .ref (m 55) :: .ref (m 56) :: .ref (m 57) :: .ref (m 58) :: .ref (m 59) :: .ref (m 60) :: .ref (m 61) :: .int 0 :: .int 0 :: .ref (m 64) :: .ref (m 65) :: .ref (m 66) :: .ref (m 67) :: .ref (m 68) :: .ref (m 69) :: [])))]) (wr := []) (rest := []) (As := [.int e]) (q0 := 0) h (c_X12_isEar _ _ kA h0 m e ) tw_1506 tw_1508 tw_60 tw_99 tw_1509 (by decide +kernel) rfl ⟨Nat.le_of_ble_eq_true rfl, Nat.le_of_ble_eq_true rfl⟩ rfl rfl rfl (by decide) rfl rfl (by decide) (by decide) (Nat.le_of_ble_eq_true rfl) rfl ⟨Nat.le_of_ble_eq_true rfl, Nat.le_of_ble_eq_true rfl⟩ dX12_alike_2 ?_
  rintro r _ e371
  subst e371
  show J x [(h0, .inr (12, (.ref (m 0) :: .int 0 :: .int 0 :: .int (-1) :: .int 0 :: .int 0 :: .int 0 :: .int 0 :: .int 0 :: .long 0 :: .ref (m 10) :: .ref (m 11) :: .ref (m 12) :: .ref (m 13) :: .ref (m 14) :: .ref (m 15) :: .ref (m 16) :: .ref (m 17) :: .ref (m 18) :: .ref (m 19) :: .ref (m 20) :: .ref (m 21) :: .ref (m 22) :: .ref (m 23) :: .ref (m 24) :: .int 0 :: .int 0 :: .int 0 :: .int 0 :: .int 0 :: .int 0 :: .ref (m 31) :: .ref (m 32) :: .ref (m 33) :: .ref (m 34) :: .ref (m 35) :: .int 0 :: .int 0 :: .int 0 :: .ref (m 39) :: .ref (m 40) :: .ref (m 41) :: .int 0 :: .ref (m 43) :: .ref (m 44) :: .ref (m 45) :: .ref (m 46) :: .ref (m 47) :: .ref (m 48) :: .int 0 :: .ref (m 50) :: .ref (m 51) :: .ref (m 52) :: .ref (m 53) :: .ref (m 54) :: .ref (m 55) :: .ref (m 56) :: .ref (m 57) :: .ref (m 58) :: .ref (m 59) :: .ref (m 60) :: .ref (m 61) :: .int 0 :: .int 0 :: .ref (m 64) :: .ref (m 65) :: .ref (m 66) :: .ref (m 67) :: .ref (m 68) :: .ref (m 69) :: [])))] [(0, .ref h0), (1, .int e), (2, .int a), (3, .int b), (4, .int f)] 0 0 5 [.int 0]
  refine j_if_eq h 34 dX12_alike_5 (by decide) (fun _ => ?_) (fun q => absurd (by decide) q)
  refine j_iconst (v := (-1)) h (by decide) dX12_alike_34 ?_
  exact j_iret h hq dX12_alike_35 () [] rfl rfl (by decide) (by first | rfl | simp only [↓reduceIte]) (Nat.le_of_ble_eq_true rfl) (Nat.le_of_ble_eq_true rfl)
set_option maxHeartbeats 4000000 in
set_option maxRecDepth 100000 in
theorem c_X12_cobble (l : Launch) (g : va_G) (kA : Nat → ClassId) (h0 : Nat) (m : Nat → Nat) (e : Int32) (b : Int32)  : CtI l yX12_cobble cX12_cobble 3 (some .int) 3 0 0 g kA [.ref h0, .int e, .int b] [(h0, .inr (12, (.ref (m 0) :: .int 0 :: .int 0 :: .int (-1) :: .int 0 :: .int 0 :: .int 0 :: .int 0 :: .int 0 :: .long 0 :: .ref (m 10) :: .ref (m 11) :: .ref (m 12) :: .ref (m 13) :: .ref (m 14) :: .ref (m 15) :: .ref (m 16) :: .ref (m 17) :: .ref (m 18) :: .ref (m 19) :: .ref (m 20) :: .ref (m 21) :: .ref (m 22) :: .ref (m 23) :: .ref (m 24) :: .int 0 :: .int 0 :: .int 0 :: .int 0 :: .int 0 :: .int 0 :: .ref (m 31) :: .ref (m 32) :: .ref (m 33) :: .ref (m 34) :: .ref (m 35) :: .int 0 :: .int 0 :: .int 0 :: .ref (m 39) :: .ref (m 40) :: .ref (m 41) :: .int 0 :: .ref (m 43) :: .ref (m 44) :: .ref (m 45) :: .ref (m 46) :: .ref (m 47) :: .ref (m 48) :: .int 0 :: .ref (m 50) :: .ref (m 51) :: .ref (m 52) :: .ref (m 53) :: .ref (m 54) :: .ref (m 55) :: .ref (m 56) :: .ref (m 57) :: .ref (m 58) :: .ref (m 59) :: .ref (m 60) :: .ref (m 61) :: .int 0 :: .int 0 :: .ref (m 64) :: .ref (m 65) :: .ref (m 66) :: .ref (m 67) :: .ref (m 68) :: .ref (m 69) :: [])))] (S := Unit) (fun (r : Int32) (_ : Unit) => r = (-1)) (fun (_ : Unit) => []) := by
  refine nx_startI (by decide +kernel) (Nat.le_of_ble_eq_true rfl) ?_
  intro x hnm h hq
  have h : Ok x cX12_cobble RX12 kA (rmC 3 0 0) 3 := h
  show J x [(h0, .inr (12, (.ref (m 0) :: .int 0 :: .int 0 :: .int (-1) :: .int 0 :: .int 0 :: .int 0 :: .int 0 :: .int 0 :: .long 0 :: .ref (m 10) :: .ref (m 11) :: .ref (m 12) :: .ref (m 13) :: .ref (m 14) :: .ref (m 15) :: .ref (m 16) :: .ref (m 17) :: .ref (m 18) :: .ref (m 19) :: .ref (m 20) :: .ref (m 21) :: .ref (m 22) :: .ref (m 23) :: .ref (m 24) :: .int 0 :: .int 0 :: .int 0 :: .int 0 :: .int 0 :: .int 0 :: .ref (m 31) :: .ref (m 32) :: .ref (m 33) :: .ref (m 34) :: .ref (m 35) :: .int 0 :: .int 0 :: .int 0 :: .ref (m 39) :: .ref (m 40) :: .ref (m 41) :: .int 0 :: .ref (m 43) :: .ref (m 44) :: .ref (m 45) :: .ref (m 46) :: .ref (m 47) :: .ref (m 48) :: .int 0 :: .ref (m 50) :: .ref (m 51) :: .ref (m 52) :: .ref (m 53) :: .ref (m 54) :: .ref (m 55) :: .ref (m 56) :: .ref (m 57) :: .ref (m 58) :: .ref (m 59) :: .ref (m 60) :: .ref (m 61) :: .int 0 :: .int 0 :: .ref (m 64) :: .ref (m 65) :: .ref (m 66) :: .ref (m 67) :: .ref (m 68) :: .ref (m 69) :: [])))] [(0, .ref h0), (1, .int e), (2, .int b)] 0 0 0 []
  refine j_aload_n h 0 rfl rfl dX12_cobble_0 ?_
  refine j_iload_n h 1 rfl rfl dX12_cobble_1 ?_
  refine j_callVi (np := 1) (isC := [0]) (isR := []) (wc := [(h0, .inr (12, (.ref (m 0) :: .int 0 :: .int 0 :: .int (-1) :: .int 0 :: .int 0 :: .int 0 :: .int 0 :: .int 0 :: .long 0 :: .ref (m 10) :: .ref (m 11) :: .ref (m 12) :: .ref (m 13) :: .ref (m 14) :: .ref (m 15) :: .ref (m 16) :: .ref (m 17) :: .ref (m 18) :: .ref (m 19) :: .ref (m 20) :: .ref (m 21) :: .ref (m 22) :: .ref (m 23) :: .ref (m 24) :: .int 0 :: .int 0 :: .int 0 :: .int 0 :: .int 0 :: .int 0 :: .ref (m 31) :: .ref (m 32) :: .ref (m 33) :: .ref (m 34) :: .ref (m 35) :: .int 0 :: .int 0 :: .int 0 :: .ref (m 39) :: .ref (m 40) :: .ref (m 41) :: .int 0 :: .ref (m 43) :: .ref (m 44) :: .ref (m 45) :: .ref (m 46) :: .ref (m 47) :: .ref (m 48) :: .int 0 :: .ref (m 50) :: .ref (m 51) :: .ref (m 52) :: .ref (m 53) :: .ref (m 54) :: .ref (m 55) :: .ref (m 56) :: .ref (m 57) :: .ref (m 58) :: .ref (m 59) :: .ref (m 60) :: .ref (m 61) :: .int 0 :: .int 0 :: .ref (m 64) :: .ref (m 65) :: .ref (m 66) :: .ref (m 67) :: .ref (m 68) :: .ref (m 69) :: [])))]) (wr := []) (rest := []) (As := [.int e]) (q0 := 0) h (c_X12_isStep _ _ kA h0 m e ) tw_1483 tw_1485 tw_59 tw_99 tw_1486 (by decide +kernel) rfl ⟨Nat.le_of_ble_eq_true rfl, Nat.le_of_ble_eq_true rfl⟩ rfl rfl rfl (by decide) rfl rfl (by decide) (by decide) (Nat.le_of_ble_eq_true rfl) rfl ⟨Nat.le_of_ble_eq_true rfl, Nat.le_of_ble_eq_true rfl⟩ dX12_cobble_2 ?_
  rintro r _ e372
  subst e372
  show J x [(h0, .inr (12, (.ref (m 0) :: .int 0 :: .int 0 :: .int (-1) :: .int 0 :: .int 0 :: .int 0 :: .int 0 :: .int 0 :: .long 0 :: .ref (m 10) :: .ref (m 11) :: .ref (m 12) :: .ref (m 13) :: .ref (m 14) :: .ref (m 15) :: .ref (m 16) :: .ref (m 17) :: .ref (m 18) :: .ref (m 19) :: .ref (m 20) :: .ref (m 21) :: .ref (m 22) :: .ref (m 23) :: .ref (m 24) :: .int 0 :: .int 0 :: .int 0 :: .int 0 :: .int 0 :: .int 0 :: .ref (m 31) :: .ref (m 32) :: .ref (m 33) :: .ref (m 34) :: .ref (m 35) :: .int 0 :: .int 0 :: .int 0 :: .ref (m 39) :: .ref (m 40) :: .ref (m 41) :: .int 0 :: .ref (m 43) :: .ref (m 44) :: .ref (m 45) :: .ref (m 46) :: .ref (m 47) :: .ref (m 48) :: .int 0 :: .ref (m 50) :: .ref (m 51) :: .ref (m 52) :: .ref (m 53) :: .ref (m 54) :: .ref (m 55) :: .ref (m 56) :: .ref (m 57) :: .ref (m 58) :: .ref (m 59) :: .ref (m 60) :: .ref (m 61) :: .int 0 :: .int 0 :: .ref (m 64) :: .ref (m 65) :: .ref (m 66) :: .ref (m 67) :: .ref (m 68) :: .ref (m 69) :: [])))] [(0, .ref h0), (1, .int e), (2, .int b)] 0 0 5 [.int 0]
  refine j_if_eq h 36 dX12_cobble_5 (by decide) (fun _ => ?_) (fun q => absurd (by decide) q)
  refine j_iconst (v := (-1)) h (by decide) dX12_cobble_36 ?_
  exact j_iret h hq dX12_cobble_37 () [] rfl rfl (by decide) (by first | rfl | simp only [↓reduceIte]) (Nat.le_of_ble_eq_true rfl) (Nat.le_of_ble_eq_true rfl)
set_option maxHeartbeats 4000000 in
set_option maxRecDepth 100000 in
theorem c_X12_sound (l : Launch) (g : va_G) (kA : Nat → ClassId) (h0 : Nat) (m : Nat → Nat) (e : Int32) (a : Int32) (b : Int32) (d : Int32)  : CtI l yX12_sound cX12_sound 5 (some .int) 3 0 0 g kA [.ref h0, .int e, .int a, .int b, .int d] [(h0, .inr (12, (.ref (m 0) :: .int 0 :: .int 0 :: .int (-1) :: .int 0 :: .int 0 :: .int 0 :: .int 0 :: .int 0 :: .long 0 :: .ref (m 10) :: .ref (m 11) :: .ref (m 12) :: .ref (m 13) :: .ref (m 14) :: .ref (m 15) :: .ref (m 16) :: .ref (m 17) :: .ref (m 18) :: .ref (m 19) :: .ref (m 20) :: .ref (m 21) :: .ref (m 22) :: .ref (m 23) :: .ref (m 24) :: .int 0 :: .int 0 :: .int 0 :: .int 0 :: .int 0 :: .int 0 :: .ref (m 31) :: .ref (m 32) :: .ref (m 33) :: .ref (m 34) :: .ref (m 35) :: .int 0 :: .int 0 :: .int 0 :: .ref (m 39) :: .ref (m 40) :: .ref (m 41) :: .int 0 :: .ref (m 43) :: .ref (m 44) :: .ref (m 45) :: .ref (m 46) :: .ref (m 47) :: .ref (m 48) :: .int 0 :: .ref (m 50) :: .ref (m 51) :: .ref (m 52) :: .ref (m 53) :: .ref (m 54) :: .ref (m 55) :: .ref (m 56) :: .ref (m 57) :: .ref (m 58) :: .ref (m 59) :: .ref (m 60) :: .ref (m 61) :: .int 0 :: .int 0 :: .ref (m 64) :: .ref (m 65) :: .ref (m 66) :: .ref (m 67) :: .ref (m 68) :: .ref (m 69) :: [])))] (S := Unit) (fun (r : Int32) (_ : Unit) => r = (-1)) (fun (_ : Unit) => []) := by
  refine nx_startI (by decide +kernel) (Nat.le_of_ble_eq_true rfl) ?_
  intro x hnm h hq
  have h : Ok x cX12_sound RX12 kA (rmC 3 0 0) 5 := h
  show J x [(h0, .inr (12, (.ref (m 0) :: .int 0 :: .int 0 :: .int (-1) :: .int 0 :: .int 0 :: .int 0 :: .int 0 :: .int 0 :: .long 0 :: .ref (m 10) :: .ref (m 11) :: .ref (m 12) :: .ref (m 13) :: .ref (m 14) :: .ref (m 15) :: .ref (m 16) :: .ref (m 17) :: .ref (m 18) :: .ref (m 19) :: .ref (m 20) :: .ref (m 21) :: .ref (m 22) :: .ref (m 23) :: .ref (m 24) :: .int 0 :: .int 0 :: .int 0 :: .int 0 :: .int 0 :: .int 0 :: .ref (m 31) :: .ref (m 32) :: .ref (m 33) :: .ref (m 34) :: .ref (m 35) :: .int 0 :: .int 0 :: .int 0 :: .ref (m 39) :: .ref (m 40) :: .ref (m 41) :: .int 0 :: .ref (m 43) :: .ref (m 44) :: .ref (m 45) :: .ref (m 46) :: .ref (m 47) :: .ref (m 48) :: .int 0 :: .ref (m 50) :: .ref (m 51) :: .ref (m 52) :: .ref (m 53) :: .ref (m 54) :: .ref (m 55) :: .ref (m 56) :: .ref (m 57) :: .ref (m 58) :: .ref (m 59) :: .ref (m 60) :: .ref (m 61) :: .int 0 :: .int 0 :: .ref (m 64) :: .ref (m 65) :: .ref (m 66) :: .ref (m 67) :: .ref (m 68) :: .ref (m 69) :: [])))] [(0, .ref h0), (1, .int e), (2, .int a), (3, .int b), (4, .int d)] 0 0 0 []
  refine j_aload_n h 0 rfl rfl dX12_sound_0 ?_
  refine j_iload_n h 1 rfl rfl dX12_sound_1 ?_
  refine j_callVi (np := 1) (isC := [0]) (isR := []) (wc := [(h0, .inr (12, (.ref (m 0) :: .int 0 :: .int 0 :: .int (-1) :: .int 0 :: .int 0 :: .int 0 :: .int 0 :: .int 0 :: .long 0 :: .ref (m 10) :: .ref (m 11) :: .ref (m 12) :: .ref (m 13) :: .ref (m 14) :: .ref (m 15) :: .ref (m 16) :: .ref (m 17) :: .ref (m 18) :: .ref (m 19) :: .ref (m 20) :: .ref (m 21) :: .ref (m 22) :: .ref (m 23) :: .ref (m 24) :: .int 0 :: .int 0 :: .int 0 :: .int 0 :: .int 0 :: .int 0 :: .ref (m 31) :: .ref (m 32) :: .ref (m 33) :: .ref (m 34) :: .ref (m 35) :: .int 0 :: .int 0 :: .int 0 :: .ref (m 39) :: .ref (m 40) :: .ref (m 41) :: .int 0 :: .ref (m 43) :: .ref (m 44) :: .ref (m 45) :: .ref (m 46) :: .ref (m 47) :: .ref (m 48) :: .int 0 :: .ref (m 50) :: .ref (m 51) :: .ref (m 52) :: .ref (m 53) :: .ref (m 54) :: .ref (m 55) :: .ref (m 56) :: .ref (m 57) :: .ref (m 58) :: .ref (m 59) :: .ref (m 60) :: .ref (m 61) :: .int 0 :: .int 0 :: .ref (m 64) :: .ref (m 65) :: .ref (m 66) :: .ref (m 67) :: .ref (m 68) :: .ref (m 69) :: [])))]) (wr := []) (rest := []) (As := [.int e]) (q0 := 0) h (c_X12_isEar _ _ kA h0 m e ) tw_1506 tw_1508 tw_60 tw_99 tw_1509 (by decide +kernel) rfl ⟨Nat.le_of_ble_eq_true rfl, Nat.le_of_ble_eq_true rfl⟩ rfl rfl rfl (by decide) rfl rfl (by decide) (by decide) (Nat.le_of_ble_eq_true rfl) rfl ⟨Nat.le_of_ble_eq_true rfl, Nat.le_of_ble_eq_true rfl⟩ dX12_sound_2 ?_
  rintro r _ e373
  subst e373
  show J x [(h0, .inr (12, (.ref (m 0) :: .int 0 :: .int 0 :: .int (-1) :: .int 0 :: .int 0 :: .int 0 :: .int 0 :: .int 0 :: .long 0 :: .ref (m 10) :: .ref (m 11) :: .ref (m 12) :: .ref (m 13) :: .ref (m 14) :: .ref (m 15) :: .ref (m 16) :: .ref (m 17) :: .ref (m 18) :: .ref (m 19) :: .ref (m 20) :: .ref (m 21) :: .ref (m 22) :: .ref (m 23) :: .ref (m 24) :: .int 0 :: .int 0 :: .int 0 :: .int 0 :: .int 0 :: .int 0 :: .ref (m 31) :: .ref (m 32) :: .ref (m 33) :: .ref (m 34) :: .ref (m 35) :: .int 0 :: .int 0 :: .int 0 :: .ref (m 39) :: .ref (m 40) :: .ref (m 41) :: .int 0 :: .ref (m 43) :: .ref (m 44) :: .ref (m 45) :: .ref (m 46) :: .ref (m 47) :: .ref (m 48) :: .int 0 :: .ref (m 50) :: .ref (m 51) :: .ref (m 52) :: .ref (m 53) :: .ref (m 54) :: .ref (m 55) :: .ref (m 56) :: .ref (m 57) :: .ref (m 58) :: .ref (m 59) :: .ref (m 60) :: .ref (m 61) :: .int 0 :: .int 0 :: .ref (m 64) :: .ref (m 65) :: .ref (m 66) :: .ref (m 67) :: .ref (m 68) :: .ref (m 69) :: [])))] [(0, .ref h0), (1, .int e), (2, .int a), (3, .int b), (4, .int d)] 0 0 5 [.int 0]
  refine j_if_eq h 48 dX12_sound_5 (by decide) (fun _ => ?_) (fun q => absurd (by decide) q)
  refine j_iconst (v := (-1)) h (by decide) dX12_sound_48 ?_
  exact j_iret h hq dX12_sound_49 () [] rfl rfl (by decide) (by first | rfl | simp only [↓reduceIte]) (Nat.le_of_ble_eq_true rfl) (Nat.le_of_ble_eq_true rfl)
set_option maxHeartbeats 4000000 in
set_option maxRecDepth 100000 in
theorem c_X12_tell (l : Launch) (g : va_G) (kA : Nat → ClassId) (h0 : Nat) (m : Nat → Nat) (t : Int32) (e : Int32)  : CtI l yX12_tell cX12_tell 3 (some .int) 3 0 0 g kA [.ref h0, .int t, .int e] [(h0, .inr (12, (.ref (m 0) :: .int 0 :: .int 0 :: .int (-1) :: .int 0 :: .int 0 :: .int 0 :: .int 0 :: .int 0 :: .long 0 :: .ref (m 10) :: .ref (m 11) :: .ref (m 12) :: .ref (m 13) :: .ref (m 14) :: .ref (m 15) :: .ref (m 16) :: .ref (m 17) :: .ref (m 18) :: .ref (m 19) :: .ref (m 20) :: .ref (m 21) :: .ref (m 22) :: .ref (m 23) :: .ref (m 24) :: .int 0 :: .int 0 :: .int 0 :: .int 0 :: .int 0 :: .int 0 :: .ref (m 31) :: .ref (m 32) :: .ref (m 33) :: .ref (m 34) :: .ref (m 35) :: .int 0 :: .int 0 :: .int 0 :: .ref (m 39) :: .ref (m 40) :: .ref (m 41) :: .int 0 :: .ref (m 43) :: .ref (m 44) :: .ref (m 45) :: .ref (m 46) :: .ref (m 47) :: .ref (m 48) :: .int 0 :: .ref (m 50) :: .ref (m 51) :: .ref (m 52) :: .ref (m 53) :: .ref (m 54) :: .ref (m 55) :: .ref (m 56) :: .ref (m 57) :: .ref (m 58) :: .ref (m 59) :: .ref (m 60) :: .ref (m 61) :: .int 0 :: .int 0 :: .ref (m 64) :: .ref (m 65) :: .ref (m 66) :: .ref (m 67) :: .ref (m 68) :: .ref (m 69) :: [])))] (S := Unit) (fun (r : Int32) (_ : Unit) => r = (-1)) (fun (_ : Unit) => []) := by
  refine nx_startI (by decide +kernel) (Nat.le_of_ble_eq_true rfl) ?_
  intro x hnm h hq
  have h : Ok x cX12_tell RX12 kA (rmC 3 0 0) 3 := h
  show J x [(h0, .inr (12, (.ref (m 0) :: .int 0 :: .int 0 :: .int (-1) :: .int 0 :: .int 0 :: .int 0 :: .int 0 :: .int 0 :: .long 0 :: .ref (m 10) :: .ref (m 11) :: .ref (m 12) :: .ref (m 13) :: .ref (m 14) :: .ref (m 15) :: .ref (m 16) :: .ref (m 17) :: .ref (m 18) :: .ref (m 19) :: .ref (m 20) :: .ref (m 21) :: .ref (m 22) :: .ref (m 23) :: .ref (m 24) :: .int 0 :: .int 0 :: .int 0 :: .int 0 :: .int 0 :: .int 0 :: .ref (m 31) :: .ref (m 32) :: .ref (m 33) :: .ref (m 34) :: .ref (m 35) :: .int 0 :: .int 0 :: .int 0 :: .ref (m 39) :: .ref (m 40) :: .ref (m 41) :: .int 0 :: .ref (m 43) :: .ref (m 44) :: .ref (m 45) :: .ref (m 46) :: .ref (m 47) :: .ref (m 48) :: .int 0 :: .ref (m 50) :: .ref (m 51) :: .ref (m 52) :: .ref (m 53) :: .ref (m 54) :: .ref (m 55) :: .ref (m 56) :: .ref (m 57) :: .ref (m 58) :: .ref (m 59) :: .ref (m 60) :: .ref (m 61) :: .int 0 :: .int 0 :: .ref (m 64) :: .ref (m 65) :: .ref (m 66) :: .ref (m 67) :: .ref (m 68) :: .ref (m 69) :: [])))] [(0, .ref h0), (1, .int t), (2, .int e)] 0 0 0 []
  refine j_iload_n h 1 rfl rfl dX12_tell_0 ?_
  refine j_callSi (np := 1) (isC := []) (isR := [0]) (wc := []) (wr := [(h0, .inr (12, (.ref (m 0) :: .int 0 :: .int 0 :: .int (-1) :: .int 0 :: .int 0 :: .int 0 :: .int 0 :: .int 0 :: .long 0 :: .ref (m 10) :: .ref (m 11) :: .ref (m 12) :: .ref (m 13) :: .ref (m 14) :: .ref (m 15) :: .ref (m 16) :: .ref (m 17) :: .ref (m 18) :: .ref (m 19) :: .ref (m 20) :: .ref (m 21) :: .ref (m 22) :: .ref (m 23) :: .ref (m 24) :: .int 0 :: .int 0 :: .int 0 :: .int 0 :: .int 0 :: .int 0 :: .ref (m 31) :: .ref (m 32) :: .ref (m 33) :: .ref (m 34) :: .ref (m 35) :: .int 0 :: .int 0 :: .int 0 :: .ref (m 39) :: .ref (m 40) :: .ref (m 41) :: .int 0 :: .ref (m 43) :: .ref (m 44) :: .ref (m 45) :: .ref (m 46) :: .ref (m 47) :: .ref (m 48) :: .int 0 :: .ref (m 50) :: .ref (m 51) :: .ref (m 52) :: .ref (m 53) :: .ref (m 54) :: .ref (m 55) :: .ref (m 56) :: .ref (m 57) :: .ref (m 58) :: .ref (m 59) :: .ref (m 60) :: .ref (m 61) :: .int 0 :: .int 0 :: .ref (m 64) :: .ref (m 65) :: .ref (m 66) :: .ref (m 67) :: .ref (m 68) :: .ref (m 69) :: [])))]) (rest := []) (As := [.int t]) h (c_X12_isText _ _ kA t ) tw_1494 tw_1495 tw_99 tw_1496 (by decide +kernel) rfl ⟨Nat.le_of_ble_eq_true rfl, Nat.le_of_ble_eq_true rfl⟩ rfl (by decide) rfl rfl (by decide) (by decide) (Nat.le_of_ble_eq_true rfl) rfl ⟨Nat.le_of_ble_eq_true rfl, Nat.le_of_ble_eq_true rfl⟩ dX12_tell_1 ?_
  rintro r _ e374
  subst e374
  show J x [(h0, .inr (12, (.ref (m 0) :: .int 0 :: .int 0 :: .int (-1) :: .int 0 :: .int 0 :: .int 0 :: .int 0 :: .int 0 :: .long 0 :: .ref (m 10) :: .ref (m 11) :: .ref (m 12) :: .ref (m 13) :: .ref (m 14) :: .ref (m 15) :: .ref (m 16) :: .ref (m 17) :: .ref (m 18) :: .ref (m 19) :: .ref (m 20) :: .ref (m 21) :: .ref (m 22) :: .ref (m 23) :: .ref (m 24) :: .int 0 :: .int 0 :: .int 0 :: .int 0 :: .int 0 :: .int 0 :: .ref (m 31) :: .ref (m 32) :: .ref (m 33) :: .ref (m 34) :: .ref (m 35) :: .int 0 :: .int 0 :: .int 0 :: .ref (m 39) :: .ref (m 40) :: .ref (m 41) :: .int 0 :: .ref (m 43) :: .ref (m 44) :: .ref (m 45) :: .ref (m 46) :: .ref (m 47) :: .ref (m 48) :: .int 0 :: .ref (m 50) :: .ref (m 51) :: .ref (m 52) :: .ref (m 53) :: .ref (m 54) :: .ref (m 55) :: .ref (m 56) :: .ref (m 57) :: .ref (m 58) :: .ref (m 59) :: .ref (m 60) :: .ref (m 61) :: .int 0 :: .int 0 :: .ref (m 64) :: .ref (m 65) :: .ref (m 66) :: .ref (m 67) :: .ref (m 68) :: .ref (m 69) :: [])))] [(0, .ref h0), (1, .int t), (2, .int e)] 0 0 4 [.int (bTx t)]
  refine j_if_eq h 49 dX12_tell_4 (by decide) (fun z375 => ?_) (fun z375 => ?_)
  · refine j_iconst (v := (-1)) h (by decide) dX12_tell_49 ?_
    exact j_iret h hq dX12_tell_50 () [] rfl rfl (by decide) (by first | rfl | simp only [z375, ↓reduceIte]) (Nat.le_of_ble_eq_true rfl) (Nat.le_of_ble_eq_true rfl)
  · refine j_aload_n h 0 rfl rfl dX12_tell_7 ?_
    refine j_iload_n h 2 rfl rfl dX12_tell_8 ?_
    refine j_callVi (np := 1) (isC := [0]) (isR := []) (wc := [(h0, .inr (12, (.ref (m 0) :: .int 0 :: .int 0 :: .int (-1) :: .int 0 :: .int 0 :: .int 0 :: .int 0 :: .int 0 :: .long 0 :: .ref (m 10) :: .ref (m 11) :: .ref (m 12) :: .ref (m 13) :: .ref (m 14) :: .ref (m 15) :: .ref (m 16) :: .ref (m 17) :: .ref (m 18) :: .ref (m 19) :: .ref (m 20) :: .ref (m 21) :: .ref (m 22) :: .ref (m 23) :: .ref (m 24) :: .int 0 :: .int 0 :: .int 0 :: .int 0 :: .int 0 :: .int 0 :: .ref (m 31) :: .ref (m 32) :: .ref (m 33) :: .ref (m 34) :: .ref (m 35) :: .int 0 :: .int 0 :: .int 0 :: .ref (m 39) :: .ref (m 40) :: .ref (m 41) :: .int 0 :: .ref (m 43) :: .ref (m 44) :: .ref (m 45) :: .ref (m 46) :: .ref (m 47) :: .ref (m 48) :: .int 0 :: .ref (m 50) :: .ref (m 51) :: .ref (m 52) :: .ref (m 53) :: .ref (m 54) :: .ref (m 55) :: .ref (m 56) :: .ref (m 57) :: .ref (m 58) :: .ref (m 59) :: .ref (m 60) :: .ref (m 61) :: .int 0 :: .int 0 :: .ref (m 64) :: .ref (m 65) :: .ref (m 66) :: .ref (m 67) :: .ref (m 68) :: .ref (m 69) :: [])))]) (wr := []) (rest := []) (As := [.int e]) (q0 := 0) h (c_X12_isLetterOf _ _ kA h0 m e ) tw_1551 tw_1553 tw_67 tw_99 tw_1554 (by decide +kernel) rfl ⟨Nat.le_of_ble_eq_true rfl, Nat.le_of_ble_eq_true rfl⟩ rfl rfl rfl (by decide) rfl rfl (by decide) (by decide) (Nat.le_of_ble_eq_true rfl) rfl ⟨Nat.le_of_ble_eq_true rfl, Nat.le_of_ble_eq_true rfl⟩ dX12_tell_9 ?_
    rintro r _ e376
    subst e376
    show J x [(h0, .inr (12, (.ref (m 0) :: .int 0 :: .int 0 :: .int (-1) :: .int 0 :: .int 0 :: .int 0 :: .int 0 :: .int 0 :: .long 0 :: .ref (m 10) :: .ref (m 11) :: .ref (m 12) :: .ref (m 13) :: .ref (m 14) :: .ref (m 15) :: .ref (m 16) :: .ref (m 17) :: .ref (m 18) :: .ref (m 19) :: .ref (m 20) :: .ref (m 21) :: .ref (m 22) :: .ref (m 23) :: .ref (m 24) :: .int 0 :: .int 0 :: .int 0 :: .int 0 :: .int 0 :: .int 0 :: .ref (m 31) :: .ref (m 32) :: .ref (m 33) :: .ref (m 34) :: .ref (m 35) :: .int 0 :: .int 0 :: .int 0 :: .ref (m 39) :: .ref (m 40) :: .ref (m 41) :: .int 0 :: .ref (m 43) :: .ref (m 44) :: .ref (m 45) :: .ref (m 46) :: .ref (m 47) :: .ref (m 48) :: .int 0 :: .ref (m 50) :: .ref (m 51) :: .ref (m 52) :: .ref (m 53) :: .ref (m 54) :: .ref (m 55) :: .ref (m 56) :: .ref (m 57) :: .ref (m 58) :: .ref (m 59) :: .ref (m 60) :: .ref (m 61) :: .int 0 :: .int 0 :: .ref (m 64) :: .ref (m 65) :: .ref (m 66) :: .ref (m 67) :: .ref (m 68) :: .ref (m 69) :: [])))] [(0, .ref h0), (1, .int t), (2, .int e)] 0 0 12 [.int 0]
    refine j_if_eq h 49 dX12_tell_12 (by decide) (fun _ => ?_) (fun q => absurd (by decide) q)
    refine j_iconst (v := (-1)) h (by decide) dX12_tell_49 ?_
    exact j_iret h hq dX12_tell_50 () [] rfl rfl (by decide) (by first | rfl | simp only [z375, ↓reduceIte]) (Nat.le_of_ble_eq_true rfl) (Nat.le_of_ble_eq_true rfl)
set_option maxHeartbeats 4000000 in
set_option maxRecDepth 100000 in
theorem c_X12_hush (l : Launch) (g : va_G) (kA : Nat → ClassId) (h0 : Nat) (m : Nat → Nat) (t : Int32)  : CtI l yX12_hush cX12_hush 3 (some .int) 3 0 0 g kA [.ref h0, .int t] [(h0, .inr (12, (.ref (m 0) :: .int 0 :: .int 0 :: .int (-1) :: .int 0 :: .int 0 :: .int 0 :: .int 0 :: .int 0 :: .long 0 :: .ref (m 10) :: .ref (m 11) :: .ref (m 12) :: .ref (m 13) :: .ref (m 14) :: .ref (m 15) :: .ref (m 16) :: .ref (m 17) :: .ref (m 18) :: .ref (m 19) :: .ref (m 20) :: .ref (m 21) :: .ref (m 22) :: .ref (m 23) :: .ref (m 24) :: .int 0 :: .int 0 :: .int 0 :: .int 0 :: .int 0 :: .int 0 :: .ref (m 31) :: .ref (m 32) :: .ref (m 33) :: .ref (m 34) :: .ref (m 35) :: .int 0 :: .int 0 :: .int 0 :: .ref (m 39) :: .ref (m 40) :: .ref (m 41) :: .int 0 :: .ref (m 43) :: .ref (m 44) :: .ref (m 45) :: .ref (m 46) :: .ref (m 47) :: .ref (m 48) :: .int 0 :: .ref (m 50) :: .ref (m 51) :: .ref (m 52) :: .ref (m 53) :: .ref (m 54) :: .ref (m 55) :: .ref (m 56) :: .ref (m 57) :: .ref (m 58) :: .ref (m 59) :: .ref (m 60) :: .ref (m 61) :: .int 0 :: .int 0 :: .ref (m 64) :: .ref (m 65) :: .ref (m 66) :: .ref (m 67) :: .ref (m 68) :: .ref (m 69) :: []))), ((m 45), .inl (kA 1, 2, .inl (fun _ => 0)))] (S := Unit) (fun (r : Int32) (_ : Unit) => r = vTxt t) (fun (_ : Unit) => []) := by
  refine nx_startI (by decide +kernel) (Nat.le_of_ble_eq_true rfl) ?_
  intro x hnm h hq
  have h : Ok x cX12_hush RX12 kA (rmC 3 0 0) 3 := h
  show J x [(h0, .inr (12, (.ref (m 0) :: .int 0 :: .int 0 :: .int (-1) :: .int 0 :: .int 0 :: .int 0 :: .int 0 :: .int 0 :: .long 0 :: .ref (m 10) :: .ref (m 11) :: .ref (m 12) :: .ref (m 13) :: .ref (m 14) :: .ref (m 15) :: .ref (m 16) :: .ref (m 17) :: .ref (m 18) :: .ref (m 19) :: .ref (m 20) :: .ref (m 21) :: .ref (m 22) :: .ref (m 23) :: .ref (m 24) :: .int 0 :: .int 0 :: .int 0 :: .int 0 :: .int 0 :: .int 0 :: .ref (m 31) :: .ref (m 32) :: .ref (m 33) :: .ref (m 34) :: .ref (m 35) :: .int 0 :: .int 0 :: .int 0 :: .ref (m 39) :: .ref (m 40) :: .ref (m 41) :: .int 0 :: .ref (m 43) :: .ref (m 44) :: .ref (m 45) :: .ref (m 46) :: .ref (m 47) :: .ref (m 48) :: .int 0 :: .ref (m 50) :: .ref (m 51) :: .ref (m 52) :: .ref (m 53) :: .ref (m 54) :: .ref (m 55) :: .ref (m 56) :: .ref (m 57) :: .ref (m 58) :: .ref (m 59) :: .ref (m 60) :: .ref (m 61) :: .int 0 :: .int 0 :: .ref (m 64) :: .ref (m 65) :: .ref (m 66) :: .ref (m 67) :: .ref (m 68) :: .ref (m 69) :: []))), ((m 45), .inl (kA 1, 2, .inl (fun _ => 0)))] [(0, .ref h0), (1, .int t)] 0 0 0 []
  rcases bTx_cases t with rfl | rfl | hT
  · refine j_iload_n h 1 rfl rfl dX12_hush_0 ?_
    refine j_callSi (np := 1) (isC := []) (isR := [0, 1]) (wc := []) (wr := [(h0, .inr (12, (.ref (m 0) :: .int 0 :: .int 0 :: .int (-1) :: .int 0 :: .int 0 :: .int 0 :: .int 0 :: .int 0 :: .long 0 :: .ref (m 10) :: .ref (m 11) :: .ref (m 12) :: .ref (m 13) :: .ref (m 14) :: .ref (m 15) :: .ref (m 16) :: .ref (m 17) :: .ref (m 18) :: .ref (m 19) :: .ref (m 20) :: .ref (m 21) :: .ref (m 22) :: .ref (m 23) :: .ref (m 24) :: .int 0 :: .int 0 :: .int 0 :: .int 0 :: .int 0 :: .int 0 :: .ref (m 31) :: .ref (m 32) :: .ref (m 33) :: .ref (m 34) :: .ref (m 35) :: .int 0 :: .int 0 :: .int 0 :: .ref (m 39) :: .ref (m 40) :: .ref (m 41) :: .int 0 :: .ref (m 43) :: .ref (m 44) :: .ref (m 45) :: .ref (m 46) :: .ref (m 47) :: .ref (m 48) :: .int 0 :: .ref (m 50) :: .ref (m 51) :: .ref (m 52) :: .ref (m 53) :: .ref (m 54) :: .ref (m 55) :: .ref (m 56) :: .ref (m 57) :: .ref (m 58) :: .ref (m 59) :: .ref (m 60) :: .ref (m 61) :: .int 0 :: .int 0 :: .ref (m 64) :: .ref (m 65) :: .ref (m 66) :: .ref (m 67) :: .ref (m 68) :: .ref (m 69) :: []))), ((m 45), .inl (kA 1, 2, .inl (fun _ => 0)))]) (rest := []) (As := [.int 0]) h (c_X12_isText _ _ kA 0 ) tw_1494 tw_1495 tw_99 tw_1496 (by decide +kernel) rfl ⟨Nat.le_of_ble_eq_true rfl, Nat.le_of_ble_eq_true rfl⟩ rfl (by decide) rfl rfl (by decide) (by decide) (Nat.le_of_ble_eq_true rfl) rfl ⟨Nat.le_of_ble_eq_true rfl, Nat.le_of_ble_eq_true rfl⟩ dX12_hush_1 ?_
    rintro r _ e377
    subst e377
    show J x [(h0, .inr (12, (.ref (m 0) :: .int 0 :: .int 0 :: .int (-1) :: .int 0 :: .int 0 :: .int 0 :: .int 0 :: .int 0 :: .long 0 :: .ref (m 10) :: .ref (m 11) :: .ref (m 12) :: .ref (m 13) :: .ref (m 14) :: .ref (m 15) :: .ref (m 16) :: .ref (m 17) :: .ref (m 18) :: .ref (m 19) :: .ref (m 20) :: .ref (m 21) :: .ref (m 22) :: .ref (m 23) :: .ref (m 24) :: .int 0 :: .int 0 :: .int 0 :: .int 0 :: .int 0 :: .int 0 :: .ref (m 31) :: .ref (m 32) :: .ref (m 33) :: .ref (m 34) :: .ref (m 35) :: .int 0 :: .int 0 :: .int 0 :: .ref (m 39) :: .ref (m 40) :: .ref (m 41) :: .int 0 :: .ref (m 43) :: .ref (m 44) :: .ref (m 45) :: .ref (m 46) :: .ref (m 47) :: .ref (m 48) :: .int 0 :: .ref (m 50) :: .ref (m 51) :: .ref (m 52) :: .ref (m 53) :: .ref (m 54) :: .ref (m 55) :: .ref (m 56) :: .ref (m 57) :: .ref (m 58) :: .ref (m 59) :: .ref (m 60) :: .ref (m 61) :: .int 0 :: .int 0 :: .ref (m 64) :: .ref (m 65) :: .ref (m 66) :: .ref (m 67) :: .ref (m 68) :: .ref (m 69) :: []))), ((m 45), .inl (kA 1, 2, .inl (fun _ => 0)))] [(0, .ref h0), (1, .int 0)] 0 0 4 [.int (bTx 0)]
    refine j_top (b := 1) (by decide) ?_
    refine j_if_ne h 9 dX12_hush_4 (by decide) (fun _ => ?_) (fun q => absurd q (by decide))
    refine j_aload_n h 0 rfl rfl dX12_hush_9 ?_
    refine j_get h iw_X12 0 rfl rfl 45 (by decide) tw_1201 rfl dX12_hush_10 ?_
    refine j_iload_n h 1 rfl rfl dX12_hush_13 ?_
    refine j_iald h 1 rfl 0 (by decide) (by decide) (by decide) dX12_hush_14 ?_
    refine j_top (b := 0) rfl ?_
    refine j_istore_n (lv' := [(2, .int 0), (0, .ref h0), (1, .int 0)]) h dX12_hush_15 rfl (by decide) rfl ?_
    refine j_aload_n h 1 rfl rfl dX12_hush_16 ?_
    refine j_get h iw_X12 0 rfl rfl 45 (by decide) tw_1201 rfl dX12_hush_17 ?_
    refine j_iload_n h 2 rfl rfl dX12_hush_20 ?_
    refine j_iconst (v := 0) h (by decide) dX12_hush_21 ?_
    refine j_iast (ws' := [(h0, .inr (12, (.ref (m 0) :: .int 0 :: .int 0 :: .int (-1) :: .int 0 :: .int 0 :: .int 0 :: .int 0 :: .int 0 :: .long 0 :: .ref (m 10) :: .ref (m 11) :: .ref (m 12) :: .ref (m 13) :: .ref (m 14) :: .ref (m 15) :: .ref (m 16) :: .ref (m 17) :: .ref (m 18) :: .ref (m 19) :: .ref (m 20) :: .ref (m 21) :: .ref (m 22) :: .ref (m 23) :: .ref (m 24) :: .int 0 :: .int 0 :: .int 0 :: .int 0 :: .int 0 :: .int 0 :: .ref (m 31) :: .ref (m 32) :: .ref (m 33) :: .ref (m 34) :: .ref (m 35) :: .int 0 :: .int 0 :: .int 0 :: .ref (m 39) :: .ref (m 40) :: .ref (m 41) :: .int 0 :: .ref (m 43) :: .ref (m 44) :: .ref (m 45) :: .ref (m 46) :: .ref (m 47) :: .ref (m 48) :: .int 0 :: .ref (m 50) :: .ref (m 51) :: .ref (m 52) :: .ref (m 53) :: .ref (m 54) :: .ref (m 55) :: .ref (m 56) :: .ref (m 57) :: .ref (m 58) :: .ref (m 59) :: .ref (m 60) :: .ref (m 61) :: .int 0 :: .int 0 :: .ref (m 64) :: .ref (m 65) :: .ref (m 66) :: .ref (m 67) :: .ref (m 68) :: .ref (m 69) :: []))), ((m 45), .inl (kA 1, 2, .inl (upd (fun _ => 0) 0 0)))]) h 1 rfl 0 (by decide) (by decide) (by decide) dX12_hush_22 rfl ?_
    refine j_iload_n h 0 rfl rfl dX12_hush_23 ?_
    exact j_iret h hq dX12_hush_24 () [] rfl rfl (by decide) (by decide) (Nat.le_of_ble_eq_true rfl) (Nat.le_of_ble_eq_true rfl)
  · refine j_iload_n h 1 rfl rfl dX12_hush_0 ?_
    refine j_callSi (np := 1) (isC := []) (isR := [0, 1]) (wc := []) (wr := [(h0, .inr (12, (.ref (m 0) :: .int 0 :: .int 0 :: .int (-1) :: .int 0 :: .int 0 :: .int 0 :: .int 0 :: .int 0 :: .long 0 :: .ref (m 10) :: .ref (m 11) :: .ref (m 12) :: .ref (m 13) :: .ref (m 14) :: .ref (m 15) :: .ref (m 16) :: .ref (m 17) :: .ref (m 18) :: .ref (m 19) :: .ref (m 20) :: .ref (m 21) :: .ref (m 22) :: .ref (m 23) :: .ref (m 24) :: .int 0 :: .int 0 :: .int 0 :: .int 0 :: .int 0 :: .int 0 :: .ref (m 31) :: .ref (m 32) :: .ref (m 33) :: .ref (m 34) :: .ref (m 35) :: .int 0 :: .int 0 :: .int 0 :: .ref (m 39) :: .ref (m 40) :: .ref (m 41) :: .int 0 :: .ref (m 43) :: .ref (m 44) :: .ref (m 45) :: .ref (m 46) :: .ref (m 47) :: .ref (m 48) :: .int 0 :: .ref (m 50) :: .ref (m 51) :: .ref (m 52) :: .ref (m 53) :: .ref (m 54) :: .ref (m 55) :: .ref (m 56) :: .ref (m 57) :: .ref (m 58) :: .ref (m 59) :: .ref (m 60) :: .ref (m 61) :: .int 0 :: .int 0 :: .ref (m 64) :: .ref (m 65) :: .ref (m 66) :: .ref (m 67) :: .ref (m 68) :: .ref (m 69) :: []))), ((m 45), .inl (kA 1, 2, .inl (fun _ => 0)))]) (rest := []) (As := [.int 1]) h (c_X12_isText _ _ kA 1 ) tw_1494 tw_1495 tw_99 tw_1496 (by decide +kernel) rfl ⟨Nat.le_of_ble_eq_true rfl, Nat.le_of_ble_eq_true rfl⟩ rfl (by decide) rfl rfl (by decide) (by decide) (Nat.le_of_ble_eq_true rfl) rfl ⟨Nat.le_of_ble_eq_true rfl, Nat.le_of_ble_eq_true rfl⟩ dX12_hush_1 ?_
    rintro r _ e378
    subst e378
    show J x [(h0, .inr (12, (.ref (m 0) :: .int 0 :: .int 0 :: .int (-1) :: .int 0 :: .int 0 :: .int 0 :: .int 0 :: .int 0 :: .long 0 :: .ref (m 10) :: .ref (m 11) :: .ref (m 12) :: .ref (m 13) :: .ref (m 14) :: .ref (m 15) :: .ref (m 16) :: .ref (m 17) :: .ref (m 18) :: .ref (m 19) :: .ref (m 20) :: .ref (m 21) :: .ref (m 22) :: .ref (m 23) :: .ref (m 24) :: .int 0 :: .int 0 :: .int 0 :: .int 0 :: .int 0 :: .int 0 :: .ref (m 31) :: .ref (m 32) :: .ref (m 33) :: .ref (m 34) :: .ref (m 35) :: .int 0 :: .int 0 :: .int 0 :: .ref (m 39) :: .ref (m 40) :: .ref (m 41) :: .int 0 :: .ref (m 43) :: .ref (m 44) :: .ref (m 45) :: .ref (m 46) :: .ref (m 47) :: .ref (m 48) :: .int 0 :: .ref (m 50) :: .ref (m 51) :: .ref (m 52) :: .ref (m 53) :: .ref (m 54) :: .ref (m 55) :: .ref (m 56) :: .ref (m 57) :: .ref (m 58) :: .ref (m 59) :: .ref (m 60) :: .ref (m 61) :: .int 0 :: .int 0 :: .ref (m 64) :: .ref (m 65) :: .ref (m 66) :: .ref (m 67) :: .ref (m 68) :: .ref (m 69) :: []))), ((m 45), .inl (kA 1, 2, .inl (fun _ => 0)))] [(0, .ref h0), (1, .int 1)] 0 0 4 [.int (bTx 1)]
    refine j_top (b := 1) (by decide) ?_
    refine j_if_ne h 9 dX12_hush_4 (by decide) (fun _ => ?_) (fun q => absurd q (by decide))
    refine j_aload_n h 0 rfl rfl dX12_hush_9 ?_
    refine j_get h iw_X12 0 rfl rfl 45 (by decide) tw_1201 rfl dX12_hush_10 ?_
    refine j_iload_n h 1 rfl rfl dX12_hush_13 ?_
    refine j_iald h 1 rfl 1 (by decide) (by decide) (by decide) dX12_hush_14 ?_
    refine j_top (b := 0) rfl ?_
    refine j_istore_n (lv' := [(2, .int 0), (0, .ref h0), (1, .int 1)]) h dX12_hush_15 rfl (by decide) rfl ?_
    refine j_aload_n h 1 rfl rfl dX12_hush_16 ?_
    refine j_get h iw_X12 0 rfl rfl 45 (by decide) tw_1201 rfl dX12_hush_17 ?_
    refine j_iload_n h 2 rfl rfl dX12_hush_20 ?_
    refine j_iconst (v := 0) h (by decide) dX12_hush_21 ?_
    refine j_iast (ws' := [(h0, .inr (12, (.ref (m 0) :: .int 0 :: .int 0 :: .int (-1) :: .int 0 :: .int 0 :: .int 0 :: .int 0 :: .int 0 :: .long 0 :: .ref (m 10) :: .ref (m 11) :: .ref (m 12) :: .ref (m 13) :: .ref (m 14) :: .ref (m 15) :: .ref (m 16) :: .ref (m 17) :: .ref (m 18) :: .ref (m 19) :: .ref (m 20) :: .ref (m 21) :: .ref (m 22) :: .ref (m 23) :: .ref (m 24) :: .int 0 :: .int 0 :: .int 0 :: .int 0 :: .int 0 :: .int 0 :: .ref (m 31) :: .ref (m 32) :: .ref (m 33) :: .ref (m 34) :: .ref (m 35) :: .int 0 :: .int 0 :: .int 0 :: .ref (m 39) :: .ref (m 40) :: .ref (m 41) :: .int 0 :: .ref (m 43) :: .ref (m 44) :: .ref (m 45) :: .ref (m 46) :: .ref (m 47) :: .ref (m 48) :: .int 0 :: .ref (m 50) :: .ref (m 51) :: .ref (m 52) :: .ref (m 53) :: .ref (m 54) :: .ref (m 55) :: .ref (m 56) :: .ref (m 57) :: .ref (m 58) :: .ref (m 59) :: .ref (m 60) :: .ref (m 61) :: .int 0 :: .int 0 :: .ref (m 64) :: .ref (m 65) :: .ref (m 66) :: .ref (m 67) :: .ref (m 68) :: .ref (m 69) :: []))), ((m 45), .inl (kA 1, 2, .inl (upd (fun _ => 0) 1 0)))]) h 1 rfl 1 (by decide) (by decide) (by decide) dX12_hush_22 rfl ?_
    refine j_iload_n h 0 rfl rfl dX12_hush_23 ?_
    exact j_iret h hq dX12_hush_24 () [] rfl rfl (by decide) (by decide) (Nat.le_of_ble_eq_true rfl) (Nat.le_of_ble_eq_true rfl)
  · refine j_iload_n h 1 rfl rfl dX12_hush_0 ?_
    refine j_callSi (np := 1) (isC := []) (isR := [0, 1]) (wc := []) (wr := [(h0, .inr (12, (.ref (m 0) :: .int 0 :: .int 0 :: .int (-1) :: .int 0 :: .int 0 :: .int 0 :: .int 0 :: .int 0 :: .long 0 :: .ref (m 10) :: .ref (m 11) :: .ref (m 12) :: .ref (m 13) :: .ref (m 14) :: .ref (m 15) :: .ref (m 16) :: .ref (m 17) :: .ref (m 18) :: .ref (m 19) :: .ref (m 20) :: .ref (m 21) :: .ref (m 22) :: .ref (m 23) :: .ref (m 24) :: .int 0 :: .int 0 :: .int 0 :: .int 0 :: .int 0 :: .int 0 :: .ref (m 31) :: .ref (m 32) :: .ref (m 33) :: .ref (m 34) :: .ref (m 35) :: .int 0 :: .int 0 :: .int 0 :: .ref (m 39) :: .ref (m 40) :: .ref (m 41) :: .int 0 :: .ref (m 43) :: .ref (m 44) :: .ref (m 45) :: .ref (m 46) :: .ref (m 47) :: .ref (m 48) :: .int 0 :: .ref (m 50) :: .ref (m 51) :: .ref (m 52) :: .ref (m 53) :: .ref (m 54) :: .ref (m 55) :: .ref (m 56) :: .ref (m 57) :: .ref (m 58) :: .ref (m 59) :: .ref (m 60) :: .ref (m 61) :: .int 0 :: .int 0 :: .ref (m 64) :: .ref (m 65) :: .ref (m 66) :: .ref (m 67) :: .ref (m 68) :: .ref (m 69) :: []))), ((m 45), .inl (kA 1, 2, .inl (fun _ => 0)))]) (rest := []) (As := [.int t]) h (c_X12_isText _ _ kA t ) tw_1494 tw_1495 tw_99 tw_1496 (by decide +kernel) rfl ⟨Nat.le_of_ble_eq_true rfl, Nat.le_of_ble_eq_true rfl⟩ rfl (by decide) rfl rfl (by decide) (by decide) (Nat.le_of_ble_eq_true rfl) rfl ⟨Nat.le_of_ble_eq_true rfl, Nat.le_of_ble_eq_true rfl⟩ dX12_hush_1 ?_
    rintro r _ e379
    subst e379
    show J x [(h0, .inr (12, (.ref (m 0) :: .int 0 :: .int 0 :: .int (-1) :: .int 0 :: .int 0 :: .int 0 :: .int 0 :: .int 0 :: .long 0 :: .ref (m 10) :: .ref (m 11) :: .ref (m 12) :: .ref (m 13) :: .ref (m 14) :: .ref (m 15) :: .ref (m 16) :: .ref (m 17) :: .ref (m 18) :: .ref (m 19) :: .ref (m 20) :: .ref (m 21) :: .ref (m 22) :: .ref (m 23) :: .ref (m 24) :: .int 0 :: .int 0 :: .int 0 :: .int 0 :: .int 0 :: .int 0 :: .ref (m 31) :: .ref (m 32) :: .ref (m 33) :: .ref (m 34) :: .ref (m 35) :: .int 0 :: .int 0 :: .int 0 :: .ref (m 39) :: .ref (m 40) :: .ref (m 41) :: .int 0 :: .ref (m 43) :: .ref (m 44) :: .ref (m 45) :: .ref (m 46) :: .ref (m 47) :: .ref (m 48) :: .int 0 :: .ref (m 50) :: .ref (m 51) :: .ref (m 52) :: .ref (m 53) :: .ref (m 54) :: .ref (m 55) :: .ref (m 56) :: .ref (m 57) :: .ref (m 58) :: .ref (m 59) :: .ref (m 60) :: .ref (m 61) :: .int 0 :: .int 0 :: .ref (m 64) :: .ref (m 65) :: .ref (m 66) :: .ref (m 67) :: .ref (m 68) :: .ref (m 69) :: []))), ((m 45), .inl (kA 1, 2, .inl (fun _ => 0)))] [(0, .ref h0), (1, .int t)] 0 0 4 [.int (bTx t)]
    refine j_top (b := 0) (hT) ?_
    refine j_if_ne h 9 dX12_hush_4 (by decide) (fun q => absurd (by decide) q) (fun _ => ?_)
    refine j_iconst (v := (-1)) h (by decide) dX12_hush_7 ?_
    exact j_iret h hq dX12_hush_8 () [] rfl rfl (by decide) (by unfold vTxt; simp only [hT, ↓reduceIte]) (Nat.le_of_ble_eq_true rfl) (Nat.le_of_ble_eq_true rfl)
set_option maxHeartbeats 4000000 in
set_option maxRecDepth 100000 in
theorem c_X12_areTwo (l : Launch) (g : va_G) (kA : Nat → ClassId) (h0 : Nat) (m : Nat → Nat) (a : Int32) (b : Int32)  : CtI l yX12_areTwo cX12_areTwo 3 (some .boolean) 3 0 0 g kA [.ref h0, .int a, .int b] [(h0, .inr (12, (.ref (m 0) :: .int 0 :: .int 0 :: .int (-1) :: .int 0 :: .int 0 :: .int 0 :: .int 0 :: .int 0 :: .long 0 :: .ref (m 10) :: .ref (m 11) :: .ref (m 12) :: .ref (m 13) :: .ref (m 14) :: .ref (m 15) :: .ref (m 16) :: .ref (m 17) :: .ref (m 18) :: .ref (m 19) :: .ref (m 20) :: .ref (m 21) :: .ref (m 22) :: .ref (m 23) :: .ref (m 24) :: .int 0 :: .int 0 :: .int 0 :: .int 0 :: .int 0 :: .int 0 :: .ref (m 31) :: .ref (m 32) :: .ref (m 33) :: .ref (m 34) :: .ref (m 35) :: .int 0 :: .int 0 :: .int 0 :: .ref (m 39) :: .ref (m 40) :: .ref (m 41) :: .int 0 :: .ref (m 43) :: .ref (m 44) :: .ref (m 45) :: .ref (m 46) :: .ref (m 47) :: .ref (m 48) :: .int 0 :: .ref (m 50) :: .ref (m 51) :: .ref (m 52) :: .ref (m 53) :: .ref (m 54) :: .ref (m 55) :: .ref (m 56) :: .ref (m 57) :: .ref (m 58) :: .ref (m 59) :: .ref (m 60) :: .ref (m 61) :: .int 0 :: .int 0 :: .ref (m 64) :: .ref (m 65) :: .ref (m 66) :: .ref (m 67) :: .ref (m 68) :: .ref (m 69) :: [])))] (S := Unit) (fun (r : Int32) (_ : Unit) => r = 0) (fun (_ : Unit) => [(h0, .inr (12, (.ref (m 0) :: .int 0 :: .int 0 :: .int (-1) :: .int 0 :: .int 0 :: .int 0 :: .int 0 :: .int 0 :: .long 0 :: .ref (m 10) :: .ref (m 11) :: .ref (m 12) :: .ref (m 13) :: .ref (m 14) :: .ref (m 15) :: .ref (m 16) :: .ref (m 17) :: .ref (m 18) :: .ref (m 19) :: .ref (m 20) :: .ref (m 21) :: .ref (m 22) :: .ref (m 23) :: .ref (m 24) :: .int 0 :: .int 0 :: .int 0 :: .int 0 :: .int 0 :: .int 0 :: .ref (m 31) :: .ref (m 32) :: .ref (m 33) :: .ref (m 34) :: .ref (m 35) :: .int 0 :: .int 0 :: .int 0 :: .ref (m 39) :: .ref (m 40) :: .ref (m 41) :: .int 0 :: .ref (m 43) :: .ref (m 44) :: .ref (m 45) :: .ref (m 46) :: .ref (m 47) :: .ref (m 48) :: .int 0 :: .ref (m 50) :: .ref (m 51) :: .ref (m 52) :: .ref (m 53) :: .ref (m 54) :: .ref (m 55) :: .ref (m 56) :: .ref (m 57) :: .ref (m 58) :: .ref (m 59) :: .ref (m 60) :: .ref (m 61) :: .int 0 :: .int 0 :: .ref (m 64) :: .ref (m 65) :: .ref (m 66) :: .ref (m 67) :: .ref (m 68) :: .ref (m 69) :: [])))]) := by
  refine nx_startI (by decide +kernel) (Nat.le_of_ble_eq_true rfl) ?_
  intro x hnm h hq
  have h : Ok x cX12_areTwo RX12 kA (rmC 3 0 0) 3 := h
  show J x [(h0, .inr (12, (.ref (m 0) :: .int 0 :: .int 0 :: .int (-1) :: .int 0 :: .int 0 :: .int 0 :: .int 0 :: .int 0 :: .long 0 :: .ref (m 10) :: .ref (m 11) :: .ref (m 12) :: .ref (m 13) :: .ref (m 14) :: .ref (m 15) :: .ref (m 16) :: .ref (m 17) :: .ref (m 18) :: .ref (m 19) :: .ref (m 20) :: .ref (m 21) :: .ref (m 22) :: .ref (m 23) :: .ref (m 24) :: .int 0 :: .int 0 :: .int 0 :: .int 0 :: .int 0 :: .int 0 :: .ref (m 31) :: .ref (m 32) :: .ref (m 33) :: .ref (m 34) :: .ref (m 35) :: .int 0 :: .int 0 :: .int 0 :: .ref (m 39) :: .ref (m 40) :: .ref (m 41) :: .int 0 :: .ref (m 43) :: .ref (m 44) :: .ref (m 45) :: .ref (m 46) :: .ref (m 47) :: .ref (m 48) :: .int 0 :: .ref (m 50) :: .ref (m 51) :: .ref (m 52) :: .ref (m 53) :: .ref (m 54) :: .ref (m 55) :: .ref (m 56) :: .ref (m 57) :: .ref (m 58) :: .ref (m 59) :: .ref (m 60) :: .ref (m 61) :: .int 0 :: .int 0 :: .ref (m 64) :: .ref (m 65) :: .ref (m 66) :: .ref (m 67) :: .ref (m 68) :: .ref (m 69) :: [])))] [(0, .ref h0), (1, .int a), (2, .int b)] 0 0 0 []
  refine j_aload_n h 0 rfl rfl dX12_areTwo_0 ?_
  refine j_iload_n h 1 rfl rfl dX12_areTwo_1 ?_
  refine j_callVi (np := 1) (isC := [0]) (isR := []) (wc := [(h0, .inr (12, (.ref (m 0) :: .int 0 :: .int 0 :: .int (-1) :: .int 0 :: .int 0 :: .int 0 :: .int 0 :: .int 0 :: .long 0 :: .ref (m 10) :: .ref (m 11) :: .ref (m 12) :: .ref (m 13) :: .ref (m 14) :: .ref (m 15) :: .ref (m 16) :: .ref (m 17) :: .ref (m 18) :: .ref (m 19) :: .ref (m 20) :: .ref (m 21) :: .ref (m 22) :: .ref (m 23) :: .ref (m 24) :: .int 0 :: .int 0 :: .int 0 :: .int 0 :: .int 0 :: .int 0 :: .ref (m 31) :: .ref (m 32) :: .ref (m 33) :: .ref (m 34) :: .ref (m 35) :: .int 0 :: .int 0 :: .int 0 :: .ref (m 39) :: .ref (m 40) :: .ref (m 41) :: .int 0 :: .ref (m 43) :: .ref (m 44) :: .ref (m 45) :: .ref (m 46) :: .ref (m 47) :: .ref (m 48) :: .int 0 :: .ref (m 50) :: .ref (m 51) :: .ref (m 52) :: .ref (m 53) :: .ref (m 54) :: .ref (m 55) :: .ref (m 56) :: .ref (m 57) :: .ref (m 58) :: .ref (m 59) :: .ref (m 60) :: .ref (m 61) :: .int 0 :: .int 0 :: .ref (m 64) :: .ref (m 65) :: .ref (m 66) :: .ref (m 67) :: .ref (m 68) :: .ref (m 69) :: [])))]) (wr := []) (rest := []) (As := [.int a]) (q0 := 0) h (c_X12_isEar _ _ kA h0 m a ) tw_1506 tw_1508 tw_60 tw_99 tw_1509 (by decide +kernel) rfl ⟨Nat.le_of_ble_eq_true rfl, Nat.le_of_ble_eq_true rfl⟩ rfl rfl rfl (by decide) rfl rfl (by decide) (by decide) (Nat.le_of_ble_eq_true rfl) rfl ⟨Nat.le_of_ble_eq_true rfl, Nat.le_of_ble_eq_true rfl⟩ dX12_areTwo_2 ?_
  rintro r _ e380
  subst e380
  show J x [(h0, .inr (12, (.ref (m 0) :: .int 0 :: .int 0 :: .int (-1) :: .int 0 :: .int 0 :: .int 0 :: .int 0 :: .int 0 :: .long 0 :: .ref (m 10) :: .ref (m 11) :: .ref (m 12) :: .ref (m 13) :: .ref (m 14) :: .ref (m 15) :: .ref (m 16) :: .ref (m 17) :: .ref (m 18) :: .ref (m 19) :: .ref (m 20) :: .ref (m 21) :: .ref (m 22) :: .ref (m 23) :: .ref (m 24) :: .int 0 :: .int 0 :: .int 0 :: .int 0 :: .int 0 :: .int 0 :: .ref (m 31) :: .ref (m 32) :: .ref (m 33) :: .ref (m 34) :: .ref (m 35) :: .int 0 :: .int 0 :: .int 0 :: .ref (m 39) :: .ref (m 40) :: .ref (m 41) :: .int 0 :: .ref (m 43) :: .ref (m 44) :: .ref (m 45) :: .ref (m 46) :: .ref (m 47) :: .ref (m 48) :: .int 0 :: .ref (m 50) :: .ref (m 51) :: .ref (m 52) :: .ref (m 53) :: .ref (m 54) :: .ref (m 55) :: .ref (m 56) :: .ref (m 57) :: .ref (m 58) :: .ref (m 59) :: .ref (m 60) :: .ref (m 61) :: .int 0 :: .int 0 :: .ref (m 64) :: .ref (m 65) :: .ref (m 66) :: .ref (m 67) :: .ref (m 68) :: .ref (m 69) :: [])))] [(0, .ref h0), (1, .int a), (2, .int b)] 0 0 5 [.int 0]
  refine j_if_eq h 25 dX12_areTwo_5 (by decide) (fun _ => ?_) (fun q => absurd (by decide) q)
  refine j_iconst (v := 0) h (by decide) dX12_areTwo_25 ?_
  exact j_zret h hq rfl dX12_areTwo_26 () [0] rfl rfl (by decide) (by first | rfl | simp only [↓reduceIte]) (Nat.le_of_ble_eq_true rfl) (Nat.le_of_ble_eq_true rfl)
set_option maxHeartbeats 4000000 in
set_option maxRecDepth 100000 in
theorem c_X12_doubled (l : Launch) (g : va_G) (kA : Nat → ClassId) (h0 : Nat) (m : Nat → Nat) (a : Int32) (b : Int32)  : CtL l yX12_doubled cX12_doubled 5 (some .long) 4 0 0 g kA [.ref h0, .int a, .int b] [(h0, .inr (12, (.ref (m 0) :: .int 0 :: .int 0 :: .int (-1) :: .int 0 :: .int 0 :: .int 0 :: .int 0 :: .int 0 :: .long 0 :: .ref (m 10) :: .ref (m 11) :: .ref (m 12) :: .ref (m 13) :: .ref (m 14) :: .ref (m 15) :: .ref (m 16) :: .ref (m 17) :: .ref (m 18) :: .ref (m 19) :: .ref (m 20) :: .ref (m 21) :: .ref (m 22) :: .ref (m 23) :: .ref (m 24) :: .int 0 :: .int 0 :: .int 0 :: .int 0 :: .int 0 :: .int 0 :: .ref (m 31) :: .ref (m 32) :: .ref (m 33) :: .ref (m 34) :: .ref (m 35) :: .int 0 :: .int 0 :: .int 0 :: .ref (m 39) :: .ref (m 40) :: .ref (m 41) :: .int 0 :: .ref (m 43) :: .ref (m 44) :: .ref (m 45) :: .ref (m 46) :: .ref (m 47) :: .ref (m 48) :: .int 0 :: .ref (m 50) :: .ref (m 51) :: .ref (m 52) :: .ref (m 53) :: .ref (m 54) :: .ref (m 55) :: .ref (m 56) :: .ref (m 57) :: .ref (m 58) :: .ref (m 59) :: .ref (m 60) :: .ref (m 61) :: .int 0 :: .int 0 :: .ref (m 64) :: .ref (m 65) :: .ref (m 66) :: .ref (m 67) :: .ref (m 68) :: .ref (m 69) :: [])))] (S := Unit) (fun (r : Int64) (_ : Unit) => r = (-1)) (fun (_ : Unit) => []) := by
  refine nx_startL (by decide +kernel) (Nat.le_of_ble_eq_true rfl) ?_
  intro x hnm h hq
  have h : Ok x cX12_doubled RX12 kA (rmC 4 0 0) 5 := h
  show J x [(h0, .inr (12, (.ref (m 0) :: .int 0 :: .int 0 :: .int (-1) :: .int 0 :: .int 0 :: .int 0 :: .int 0 :: .int 0 :: .long 0 :: .ref (m 10) :: .ref (m 11) :: .ref (m 12) :: .ref (m 13) :: .ref (m 14) :: .ref (m 15) :: .ref (m 16) :: .ref (m 17) :: .ref (m 18) :: .ref (m 19) :: .ref (m 20) :: .ref (m 21) :: .ref (m 22) :: .ref (m 23) :: .ref (m 24) :: .int 0 :: .int 0 :: .int 0 :: .int 0 :: .int 0 :: .int 0 :: .ref (m 31) :: .ref (m 32) :: .ref (m 33) :: .ref (m 34) :: .ref (m 35) :: .int 0 :: .int 0 :: .int 0 :: .ref (m 39) :: .ref (m 40) :: .ref (m 41) :: .int 0 :: .ref (m 43) :: .ref (m 44) :: .ref (m 45) :: .ref (m 46) :: .ref (m 47) :: .ref (m 48) :: .int 0 :: .ref (m 50) :: .ref (m 51) :: .ref (m 52) :: .ref (m 53) :: .ref (m 54) :: .ref (m 55) :: .ref (m 56) :: .ref (m 57) :: .ref (m 58) :: .ref (m 59) :: .ref (m 60) :: .ref (m 61) :: .int 0 :: .int 0 :: .ref (m 64) :: .ref (m 65) :: .ref (m 66) :: .ref (m 67) :: .ref (m 68) :: .ref (m 69) :: [])))] [(0, .ref h0), (1, .int a), (2, .int b)] 0 0 0 []
  refine j_aload_n h 0 rfl rfl dX12_doubled_0 ?_
  refine j_iconst (v := 0) h (by decide) dX12_doubled_1 ?_
  refine j_put (ws' := [(h0, .inr (12, (.ref (m 0) :: .int 0 :: .int 0 :: .int (-1) :: .int 0 :: .int 0 :: .int 0 :: .int 0 :: .int 0 :: .long 0 :: .ref (m 10) :: .ref (m 11) :: .ref (m 12) :: .ref (m 13) :: .ref (m 14) :: .ref (m 15) :: .ref (m 16) :: .ref (m 17) :: .ref (m 18) :: .ref (m 19) :: .ref (m 20) :: .ref (m 21) :: .ref (m 22) :: .ref (m 23) :: .ref (m 24) :: .int 0 :: .int 0 :: .int 0 :: .int 0 :: .int 0 :: .int 0 :: .ref (m 31) :: .ref (m 32) :: .ref (m 33) :: .ref (m 34) :: .ref (m 35) :: .int 0 :: .int 0 :: .int 0 :: .ref (m 39) :: .ref (m 40) :: .ref (m 41) :: .int 0 :: .ref (m 43) :: .ref (m 44) :: .ref (m 45) :: .ref (m 46) :: .ref (m 47) :: .ref (m 48) :: .int 0 :: .ref (m 50) :: .ref (m 51) :: .ref (m 52) :: .ref (m 53) :: .ref (m 54) :: .ref (m 55) :: .ref (m 56) :: .ref (m 57) :: .ref (m 58) :: .ref (m 59) :: .ref (m 60) :: .ref (m 61) :: .int 0 :: .int 0 :: .ref (m 64) :: .ref (m 65) :: .ref (m 66) :: .ref (m 67) :: .ref (m 68) :: .ref (m 69) :: [])))]) h iw_X12 tyX12 tyX12_ok nmX12 0 rfl rfl 42 (by decide) tw_1198 rfl rfl rfl (Nat.le_of_ble_eq_true rfl) dX12_doubled_2 rfl ?_
  refine j_aload_n h 0 rfl rfl dX12_doubled_5 ?_
  refine j_iload_n h 1 rfl rfl dX12_doubled_6 ?_
  refine j_iload_n h 2 rfl rfl dX12_doubled_7 ?_
  refine j_callVi (np := 2) (isC := [0]) (isR := []) (wc := [(h0, .inr (12, (.ref (m 0) :: .int 0 :: .int 0 :: .int (-1) :: .int 0 :: .int 0 :: .int 0 :: .int 0 :: .int 0 :: .long 0 :: .ref (m 10) :: .ref (m 11) :: .ref (m 12) :: .ref (m 13) :: .ref (m 14) :: .ref (m 15) :: .ref (m 16) :: .ref (m 17) :: .ref (m 18) :: .ref (m 19) :: .ref (m 20) :: .ref (m 21) :: .ref (m 22) :: .ref (m 23) :: .ref (m 24) :: .int 0 :: .int 0 :: .int 0 :: .int 0 :: .int 0 :: .int 0 :: .ref (m 31) :: .ref (m 32) :: .ref (m 33) :: .ref (m 34) :: .ref (m 35) :: .int 0 :: .int 0 :: .int 0 :: .ref (m 39) :: .ref (m 40) :: .ref (m 41) :: .int 0 :: .ref (m 43) :: .ref (m 44) :: .ref (m 45) :: .ref (m 46) :: .ref (m 47) :: .ref (m 48) :: .int 0 :: .ref (m 50) :: .ref (m 51) :: .ref (m 52) :: .ref (m 53) :: .ref (m 54) :: .ref (m 55) :: .ref (m 56) :: .ref (m 57) :: .ref (m 58) :: .ref (m 59) :: .ref (m 60) :: .ref (m 61) :: .int 0 :: .int 0 :: .ref (m 64) :: .ref (m 65) :: .ref (m 66) :: .ref (m 67) :: .ref (m 68) :: .ref (m 69) :: [])))]) (wr := []) (rest := []) (As := [.int a, .int b]) (q0 := 0) h (c_X12_areTwo _ _ kA h0 m a b ) tw_1575 tw_1577 tw_70 tw_99 tw_1578 (by decide +kernel) rfl ⟨Nat.le_of_ble_eq_true rfl, Nat.le_of_ble_eq_true rfl⟩ rfl rfl rfl (by decide) rfl rfl (by decide) (by decide) (Nat.le_of_ble_eq_true rfl) rfl ⟨Nat.le_of_ble_eq_true rfl, Nat.le_of_ble_eq_true rfl⟩ dX12_doubled_8 ?_
  rintro r _ e381
  subst e381
  show J x [(h0, .inr (12, (.ref (m 0) :: .int 0 :: .int 0 :: .int (-1) :: .int 0 :: .int 0 :: .int 0 :: .int 0 :: .int 0 :: .long 0 :: .ref (m 10) :: .ref (m 11) :: .ref (m 12) :: .ref (m 13) :: .ref (m 14) :: .ref (m 15) :: .ref (m 16) :: .ref (m 17) :: .ref (m 18) :: .ref (m 19) :: .ref (m 20) :: .ref (m 21) :: .ref (m 22) :: .ref (m 23) :: .ref (m 24) :: .int 0 :: .int 0 :: .int 0 :: .int 0 :: .int 0 :: .int 0 :: .ref (m 31) :: .ref (m 32) :: .ref (m 33) :: .ref (m 34) :: .ref (m 35) :: .int 0 :: .int 0 :: .int 0 :: .ref (m 39) :: .ref (m 40) :: .ref (m 41) :: .int 0 :: .ref (m 43) :: .ref (m 44) :: .ref (m 45) :: .ref (m 46) :: .ref (m 47) :: .ref (m 48) :: .int 0 :: .ref (m 50) :: .ref (m 51) :: .ref (m 52) :: .ref (m 53) :: .ref (m 54) :: .ref (m 55) :: .ref (m 56) :: .ref (m 57) :: .ref (m 58) :: .ref (m 59) :: .ref (m 60) :: .ref (m 61) :: .int 0 :: .int 0 :: .ref (m 64) :: .ref (m 65) :: .ref (m 66) :: .ref (m 67) :: .ref (m 68) :: .ref (m 69) :: [])))] [(0, .ref h0), (1, .int a), (2, .int b)] 0 0 11 [.int 0]
  refine j_if_ne h 18 dX12_doubled_11 (by decide) (fun q => absurd (by decide) q) (fun _ => ?_)
  refine j_ldc2 h tw_1518 dX12_doubled_14 ?_
  exact j_lret h hq dX12_doubled_17 () [] rfl rfl (by decide) (by first | rfl | simp only [↓reduceIte]) (Nat.le_of_ble_eq_true rfl) (Nat.le_of_ble_eq_true rfl)
set_option maxHeartbeats 4000000 in
set_option maxRecDepth 100000 in
theorem c_X12_secret (l : Launch) (g : va_G) (kA : Nat → ClassId) (h0 : Nat) (m : Nat → Nat) (a : Int32) (b : Int32) (e : Int32)  : CtI l yX12_secret cX12_secret 8 (some .int) 4 0 0 g kA [.ref h0, .int a, .int b, .int e] [(h0, .inr (12, (.ref (m 0) :: .int 0 :: .int 0 :: .int (-1) :: .int 0 :: .int 0 :: .int 0 :: .int 0 :: .int 0 :: .long 0 :: .ref (m 10) :: .ref (m 11) :: .ref (m 12) :: .ref (m 13) :: .ref (m 14) :: .ref (m 15) :: .ref (m 16) :: .ref (m 17) :: .ref (m 18) :: .ref (m 19) :: .ref (m 20) :: .ref (m 21) :: .ref (m 22) :: .ref (m 23) :: .ref (m 24) :: .int 0 :: .int 0 :: .int 0 :: .int 0 :: .int 0 :: .int 0 :: .ref (m 31) :: .ref (m 32) :: .ref (m 33) :: .ref (m 34) :: .ref (m 35) :: .int 0 :: .int 0 :: .int 0 :: .ref (m 39) :: .ref (m 40) :: .ref (m 41) :: .int 0 :: .ref (m 43) :: .ref (m 44) :: .ref (m 45) :: .ref (m 46) :: .ref (m 47) :: .ref (m 48) :: .int 0 :: .ref (m 50) :: .ref (m 51) :: .ref (m 52) :: .ref (m 53) :: .ref (m 54) :: .ref (m 55) :: .ref (m 56) :: .ref (m 57) :: .ref (m 58) :: .ref (m 59) :: .ref (m 60) :: .ref (m 61) :: .int 0 :: .int 0 :: .ref (m 64) :: .ref (m 65) :: .ref (m 66) :: .ref (m 67) :: .ref (m 68) :: .ref (m 69) :: [])))] (S := Unit) (fun (r : Int32) (_ : Unit) => r = (-1)) (fun (_ : Unit) => []) := by
  refine nx_startI (by decide +kernel) (Nat.le_of_ble_eq_true rfl) ?_
  intro x hnm h hq
  have h : Ok x cX12_secret RX12 kA (rmC 4 0 0) 8 := h
  show J x [(h0, .inr (12, (.ref (m 0) :: .int 0 :: .int 0 :: .int (-1) :: .int 0 :: .int 0 :: .int 0 :: .int 0 :: .int 0 :: .long 0 :: .ref (m 10) :: .ref (m 11) :: .ref (m 12) :: .ref (m 13) :: .ref (m 14) :: .ref (m 15) :: .ref (m 16) :: .ref (m 17) :: .ref (m 18) :: .ref (m 19) :: .ref (m 20) :: .ref (m 21) :: .ref (m 22) :: .ref (m 23) :: .ref (m 24) :: .int 0 :: .int 0 :: .int 0 :: .int 0 :: .int 0 :: .int 0 :: .ref (m 31) :: .ref (m 32) :: .ref (m 33) :: .ref (m 34) :: .ref (m 35) :: .int 0 :: .int 0 :: .int 0 :: .ref (m 39) :: .ref (m 40) :: .ref (m 41) :: .int 0 :: .ref (m 43) :: .ref (m 44) :: .ref (m 45) :: .ref (m 46) :: .ref (m 47) :: .ref (m 48) :: .int 0 :: .ref (m 50) :: .ref (m 51) :: .ref (m 52) :: .ref (m 53) :: .ref (m 54) :: .ref (m 55) :: .ref (m 56) :: .ref (m 57) :: .ref (m 58) :: .ref (m 59) :: .ref (m 60) :: .ref (m 61) :: .int 0 :: .int 0 :: .ref (m 64) :: .ref (m 65) :: .ref (m 66) :: .ref (m 67) :: .ref (m 68) :: .ref (m 69) :: [])))] [(0, .ref h0), (1, .int a), (2, .int b), (3, .int e)] 0 0 0 []
  refine j_aload_n h 0 rfl rfl dX12_secret_0 ?_
  refine j_iconst (v := 0) h (by decide) dX12_secret_1 ?_
  refine j_put (ws' := [(h0, .inr (12, (.ref (m 0) :: .int 0 :: .int 0 :: .int (-1) :: .int 0 :: .int 0 :: .int 0 :: .int 0 :: .int 0 :: .long 0 :: .ref (m 10) :: .ref (m 11) :: .ref (m 12) :: .ref (m 13) :: .ref (m 14) :: .ref (m 15) :: .ref (m 16) :: .ref (m 17) :: .ref (m 18) :: .ref (m 19) :: .ref (m 20) :: .ref (m 21) :: .ref (m 22) :: .ref (m 23) :: .ref (m 24) :: .int 0 :: .int 0 :: .int 0 :: .int 0 :: .int 0 :: .int 0 :: .ref (m 31) :: .ref (m 32) :: .ref (m 33) :: .ref (m 34) :: .ref (m 35) :: .int 0 :: .int 0 :: .int 0 :: .ref (m 39) :: .ref (m 40) :: .ref (m 41) :: .int 0 :: .ref (m 43) :: .ref (m 44) :: .ref (m 45) :: .ref (m 46) :: .ref (m 47) :: .ref (m 48) :: .int 0 :: .ref (m 50) :: .ref (m 51) :: .ref (m 52) :: .ref (m 53) :: .ref (m 54) :: .ref (m 55) :: .ref (m 56) :: .ref (m 57) :: .ref (m 58) :: .ref (m 59) :: .ref (m 60) :: .ref (m 61) :: .int 0 :: .int 0 :: .ref (m 64) :: .ref (m 65) :: .ref (m 66) :: .ref (m 67) :: .ref (m 68) :: .ref (m 69) :: [])))]) h iw_X12 tyX12 tyX12_ok nmX12 0 rfl rfl 42 (by decide) tw_1198 rfl rfl rfl (Nat.le_of_ble_eq_true rfl) dX12_secret_2 rfl ?_
  refine j_aload_n h 0 rfl rfl dX12_secret_5 ?_
  refine j_iload_n h 1 rfl rfl dX12_secret_6 ?_
  refine j_iload_n h 2 rfl rfl dX12_secret_7 ?_
  refine j_callVi (np := 2) (isC := [0]) (isR := []) (wc := [(h0, .inr (12, (.ref (m 0) :: .int 0 :: .int 0 :: .int (-1) :: .int 0 :: .int 0 :: .int 0 :: .int 0 :: .int 0 :: .long 0 :: .ref (m 10) :: .ref (m 11) :: .ref (m 12) :: .ref (m 13) :: .ref (m 14) :: .ref (m 15) :: .ref (m 16) :: .ref (m 17) :: .ref (m 18) :: .ref (m 19) :: .ref (m 20) :: .ref (m 21) :: .ref (m 22) :: .ref (m 23) :: .ref (m 24) :: .int 0 :: .int 0 :: .int 0 :: .int 0 :: .int 0 :: .int 0 :: .ref (m 31) :: .ref (m 32) :: .ref (m 33) :: .ref (m 34) :: .ref (m 35) :: .int 0 :: .int 0 :: .int 0 :: .ref (m 39) :: .ref (m 40) :: .ref (m 41) :: .int 0 :: .ref (m 43) :: .ref (m 44) :: .ref (m 45) :: .ref (m 46) :: .ref (m 47) :: .ref (m 48) :: .int 0 :: .ref (m 50) :: .ref (m 51) :: .ref (m 52) :: .ref (m 53) :: .ref (m 54) :: .ref (m 55) :: .ref (m 56) :: .ref (m 57) :: .ref (m 58) :: .ref (m 59) :: .ref (m 60) :: .ref (m 61) :: .int 0 :: .int 0 :: .ref (m 64) :: .ref (m 65) :: .ref (m 66) :: .ref (m 67) :: .ref (m 68) :: .ref (m 69) :: [])))]) (wr := []) (rest := []) (As := [.int a, .int b]) (q0 := 0) h (c_X12_areTwo _ _ kA h0 m a b ) tw_1575 tw_1577 tw_70 tw_99 tw_1578 (by decide +kernel) rfl ⟨Nat.le_of_ble_eq_true rfl, Nat.le_of_ble_eq_true rfl⟩ rfl rfl rfl (by decide) rfl rfl (by decide) (by decide) (Nat.le_of_ble_eq_true rfl) rfl ⟨Nat.le_of_ble_eq_true rfl, Nat.le_of_ble_eq_true rfl⟩ dX12_secret_8 ?_
  rintro r _ e382
  subst e382
  show J x [(h0, .inr (12, (.ref (m 0) :: .int 0 :: .int 0 :: .int (-1) :: .int 0 :: .int 0 :: .int 0 :: .int 0 :: .int 0 :: .long 0 :: .ref (m 10) :: .ref (m 11) :: .ref (m 12) :: .ref (m 13) :: .ref (m 14) :: .ref (m 15) :: .ref (m 16) :: .ref (m 17) :: .ref (m 18) :: .ref (m 19) :: .ref (m 20) :: .ref (m 21) :: .ref (m 22) :: .ref (m 23) :: .ref (m 24) :: .int 0 :: .int 0 :: .int 0 :: .int 0 :: .int 0 :: .int 0 :: .ref (m 31) :: .ref (m 32) :: .ref (m 33) :: .ref (m 34) :: .ref (m 35) :: .int 0 :: .int 0 :: .int 0 :: .ref (m 39) :: .ref (m 40) :: .ref (m 41) :: .int 0 :: .ref (m 43) :: .ref (m 44) :: .ref (m 45) :: .ref (m 46) :: .ref (m 47) :: .ref (m 48) :: .int 0 :: .ref (m 50) :: .ref (m 51) :: .ref (m 52) :: .ref (m 53) :: .ref (m 54) :: .ref (m 55) :: .ref (m 56) :: .ref (m 57) :: .ref (m 58) :: .ref (m 59) :: .ref (m 60) :: .ref (m 61) :: .int 0 :: .int 0 :: .ref (m 64) :: .ref (m 65) :: .ref (m 66) :: .ref (m 67) :: .ref (m 68) :: .ref (m 69) :: [])))] [(0, .ref h0), (1, .int a), (2, .int b), (3, .int e)] 0 0 11 [.int 0]
  refine j_if_eq h 32 dX12_secret_11 (by decide) (fun _ => ?_) (fun q => absurd (by decide) q)
  refine j_iconst (v := (-1)) h (by decide) dX12_secret_32 ?_
  exact j_iret h hq dX12_secret_33 () [] rfl rfl (by decide) (by first | rfl | simp only [↓reduceIte]) (Nat.le_of_ble_eq_true rfl) (Nat.le_of_ble_eq_true rfl)
set_option maxHeartbeats 4000000 in
set_option maxRecDepth 100000 in
theorem c_X12_lies (l : Launch) (g : va_G) (kA : Nat → ClassId) (h0 : Nat) (m : Nat → Nat) (e : Int32)  : CtI l yX12_lies cX12_lies 2 (some .int) 3 0 0 g kA [.ref h0, .int e] [(h0, .inr (12, (.ref (m 0) :: .int 0 :: .int 0 :: .int (-1) :: .int 0 :: .int 0 :: .int 0 :: .int 0 :: .int 0 :: .long 0 :: .ref (m 10) :: .ref (m 11) :: .ref (m 12) :: .ref (m 13) :: .ref (m 14) :: .ref (m 15) :: .ref (m 16) :: .ref (m 17) :: .ref (m 18) :: .ref (m 19) :: .ref (m 20) :: .ref (m 21) :: .ref (m 22) :: .ref (m 23) :: .ref (m 24) :: .int 0 :: .int 0 :: .int 0 :: .int 0 :: .int 0 :: .int 0 :: .ref (m 31) :: .ref (m 32) :: .ref (m 33) :: .ref (m 34) :: .ref (m 35) :: .int 0 :: .int 0 :: .int 0 :: .ref (m 39) :: .ref (m 40) :: .ref (m 41) :: .int 0 :: .ref (m 43) :: .ref (m 44) :: .ref (m 45) :: .ref (m 46) :: .ref (m 47) :: .ref (m 48) :: .int 0 :: .ref (m 50) :: .ref (m 51) :: .ref (m 52) :: .ref (m 53) :: .ref (m 54) :: .ref (m 55) :: .ref (m 56) :: .ref (m 57) :: .ref (m 58) :: .ref (m 59) :: .ref (m 60) :: .ref (m 61) :: .int 0 :: .int 0 :: .ref (m 64) :: .ref (m 65) :: .ref (m 66) :: .ref (m 67) :: .ref (m 68) :: .ref (m 69) :: [])))] (S := Unit) (fun (r : Int32) (_ : Unit) => r = (-1)) (fun (_ : Unit) => []) := by
  refine nx_startI (by decide +kernel) (Nat.le_of_ble_eq_true rfl) ?_
  intro x hnm h hq
  have h : Ok x cX12_lies RX12 kA (rmC 3 0 0) 2 := h
  show J x [(h0, .inr (12, (.ref (m 0) :: .int 0 :: .int 0 :: .int (-1) :: .int 0 :: .int 0 :: .int 0 :: .int 0 :: .int 0 :: .long 0 :: .ref (m 10) :: .ref (m 11) :: .ref (m 12) :: .ref (m 13) :: .ref (m 14) :: .ref (m 15) :: .ref (m 16) :: .ref (m 17) :: .ref (m 18) :: .ref (m 19) :: .ref (m 20) :: .ref (m 21) :: .ref (m 22) :: .ref (m 23) :: .ref (m 24) :: .int 0 :: .int 0 :: .int 0 :: .int 0 :: .int 0 :: .int 0 :: .ref (m 31) :: .ref (m 32) :: .ref (m 33) :: .ref (m 34) :: .ref (m 35) :: .int 0 :: .int 0 :: .int 0 :: .ref (m 39) :: .ref (m 40) :: .ref (m 41) :: .int 0 :: .ref (m 43) :: .ref (m 44) :: .ref (m 45) :: .ref (m 46) :: .ref (m 47) :: .ref (m 48) :: .int 0 :: .ref (m 50) :: .ref (m 51) :: .ref (m 52) :: .ref (m 53) :: .ref (m 54) :: .ref (m 55) :: .ref (m 56) :: .ref (m 57) :: .ref (m 58) :: .ref (m 59) :: .ref (m 60) :: .ref (m 61) :: .int 0 :: .int 0 :: .ref (m 64) :: .ref (m 65) :: .ref (m 66) :: .ref (m 67) :: .ref (m 68) :: .ref (m 69) :: [])))] [(0, .ref h0), (1, .int e)] 0 0 0 []
  refine j_iload_n h 1 rfl rfl dX12_lies_0 ?_
  refine j_iconst (v := 0) h (by decide) dX12_lies_1 ?_
  refine j_aload_n h 0 rfl rfl dX12_lies_2 ?_
  refine j_get h iw_X12 0 rfl rfl 42 (by decide) tw_1198 rfl dX12_lies_3 ?_
  refine j_iconst (v := 1) h (by decide) dX12_lies_6 ?_
  refine j_isub h dX12_lies_7 ?_
  refine j_top (b := (-1)) (by decide) ?_
  refine j_callSi (np := 3) (isC := []) (isR := [0]) (wc := []) (wr := [(h0, .inr (12, (.ref (m 0) :: .int 0 :: .int 0 :: .int (-1) :: .int 0 :: .int 0 :: .int 0 :: .int 0 :: .int 0 :: .long 0 :: .ref (m 10) :: .ref (m 11) :: .ref (m 12) :: .ref (m 13) :: .ref (m 14) :: .ref (m 15) :: .ref (m 16) :: .ref (m 17) :: .ref (m 18) :: .ref (m 19) :: .ref (m 20) :: .ref (m 21) :: .ref (m 22) :: .ref (m 23) :: .ref (m 24) :: .int 0 :: .int 0 :: .int 0 :: .int 0 :: .int 0 :: .int 0 :: .ref (m 31) :: .ref (m 32) :: .ref (m 33) :: .ref (m 34) :: .ref (m 35) :: .int 0 :: .int 0 :: .int 0 :: .ref (m 39) :: .ref (m 40) :: .ref (m 41) :: .int 0 :: .ref (m 43) :: .ref (m 44) :: .ref (m 45) :: .ref (m 46) :: .ref (m 47) :: .ref (m 48) :: .int 0 :: .ref (m 50) :: .ref (m 51) :: .ref (m 52) :: .ref (m 53) :: .ref (m 54) :: .ref (m 55) :: .ref (m 56) :: .ref (m 57) :: .ref (m 58) :: .ref (m 59) :: .ref (m 60) :: .ref (m 61) :: .int 0 :: .int 0 :: .ref (m 64) :: .ref (m 65) :: .ref (m 66) :: .ref (m 67) :: .ref (m 68) :: .ref (m 69) :: [])))]) (rest := []) (As := [.int e, .int 0, .int (-1)]) h (c_X12_isIn _ _ kA e 0 (-1) ) tw_1487 tw_1488 tw_99 tw_1489 (by decide +kernel) rfl ⟨Nat.le_of_ble_eq_true rfl, Nat.le_of_ble_eq_true rfl⟩ rfl (by decide) rfl rfl (by decide) (by decide) (Nat.le_of_ble_eq_true rfl) rfl ⟨Nat.le_of_ble_eq_true rfl, Nat.le_of_ble_eq_true rfl⟩ dX12_lies_8 ?_
  rintro r _ e383
  subst e383
  show J x [(h0, .inr (12, (.ref (m 0) :: .int 0 :: .int 0 :: .int (-1) :: .int 0 :: .int 0 :: .int 0 :: .int 0 :: .int 0 :: .long 0 :: .ref (m 10) :: .ref (m 11) :: .ref (m 12) :: .ref (m 13) :: .ref (m 14) :: .ref (m 15) :: .ref (m 16) :: .ref (m 17) :: .ref (m 18) :: .ref (m 19) :: .ref (m 20) :: .ref (m 21) :: .ref (m 22) :: .ref (m 23) :: .ref (m 24) :: .int 0 :: .int 0 :: .int 0 :: .int 0 :: .int 0 :: .int 0 :: .ref (m 31) :: .ref (m 32) :: .ref (m 33) :: .ref (m 34) :: .ref (m 35) :: .int 0 :: .int 0 :: .int 0 :: .ref (m 39) :: .ref (m 40) :: .ref (m 41) :: .int 0 :: .ref (m 43) :: .ref (m 44) :: .ref (m 45) :: .ref (m 46) :: .ref (m 47) :: .ref (m 48) :: .int 0 :: .ref (m 50) :: .ref (m 51) :: .ref (m 52) :: .ref (m 53) :: .ref (m 54) :: .ref (m 55) :: .ref (m 56) :: .ref (m 57) :: .ref (m 58) :: .ref (m 59) :: .ref (m 60) :: .ref (m 61) :: .int 0 :: .int 0 :: .ref (m 64) :: .ref (m 65) :: .ref (m 66) :: .ref (m 67) :: .ref (m 68) :: .ref (m 69) :: [])))] [(0, .ref h0), (1, .int e)] 0 0 11 [.int (bRg e 0 (-1))]
  refine j_top (b := 0) (bRg_e e) ?_
  refine j_if_eq h 23 dX12_lies_11 (by decide) (fun _ => ?_) (fun q => absurd (by decide) q)
  refine j_iconst (v := (-1)) h (by decide) dX12_lies_23 ?_
  exact j_iret h hq dX12_lies_24 () [] rfl rfl (by decide) (by first | rfl | simp only [↓reduceIte]) (Nat.le_of_ble_eq_true rfl) (Nat.le_of_ble_eq_true rfl)
set_option maxHeartbeats 4000000 in
set_option maxRecDepth 100000 in
theorem c_X12_untell (l : Launch) (g : va_G) (kA : Nat → ClassId) (h0 : Nat) (m : Nat → Nat) (e : Int32)  : CtI l yX12_untell cX12_untell 2 (some .boolean) 3 0 0 g kA [.ref h0, .int e] [(h0, .inr (12, (.ref (m 0) :: .int 0 :: .int 0 :: .int (-1) :: .int 0 :: .int 0 :: .int 0 :: .int 0 :: .int 0 :: .long 0 :: .ref (m 10) :: .ref (m 11) :: .ref (m 12) :: .ref (m 13) :: .ref (m 14) :: .ref (m 15) :: .ref (m 16) :: .ref (m 17) :: .ref (m 18) :: .ref (m 19) :: .ref (m 20) :: .ref (m 21) :: .ref (m 22) :: .ref (m 23) :: .ref (m 24) :: .int 0 :: .int 0 :: .int 0 :: .int 0 :: .int 0 :: .int 0 :: .ref (m 31) :: .ref (m 32) :: .ref (m 33) :: .ref (m 34) :: .ref (m 35) :: .int 0 :: .int 0 :: .int 0 :: .ref (m 39) :: .ref (m 40) :: .ref (m 41) :: .int 0 :: .ref (m 43) :: .ref (m 44) :: .ref (m 45) :: .ref (m 46) :: .ref (m 47) :: .ref (m 48) :: .int 0 :: .ref (m 50) :: .ref (m 51) :: .ref (m 52) :: .ref (m 53) :: .ref (m 54) :: .ref (m 55) :: .ref (m 56) :: .ref (m 57) :: .ref (m 58) :: .ref (m 59) :: .ref (m 60) :: .ref (m 61) :: .int 0 :: .int 0 :: .ref (m 64) :: .ref (m 65) :: .ref (m 66) :: .ref (m 67) :: .ref (m 68) :: .ref (m 69) :: [])))] (S := Unit) (fun (r : Int32) (_ : Unit) => r = 0) (fun (_ : Unit) => []) := by
  refine nx_startI (by decide +kernel) (Nat.le_of_ble_eq_true rfl) ?_
  intro x hnm h hq
  have h : Ok x cX12_untell RX12 kA (rmC 3 0 0) 2 := h
  show J x [(h0, .inr (12, (.ref (m 0) :: .int 0 :: .int 0 :: .int (-1) :: .int 0 :: .int 0 :: .int 0 :: .int 0 :: .int 0 :: .long 0 :: .ref (m 10) :: .ref (m 11) :: .ref (m 12) :: .ref (m 13) :: .ref (m 14) :: .ref (m 15) :: .ref (m 16) :: .ref (m 17) :: .ref (m 18) :: .ref (m 19) :: .ref (m 20) :: .ref (m 21) :: .ref (m 22) :: .ref (m 23) :: .ref (m 24) :: .int 0 :: .int 0 :: .int 0 :: .int 0 :: .int 0 :: .int 0 :: .ref (m 31) :: .ref (m 32) :: .ref (m 33) :: .ref (m 34) :: .ref (m 35) :: .int 0 :: .int 0 :: .int 0 :: .ref (m 39) :: .ref (m 40) :: .ref (m 41) :: .int 0 :: .ref (m 43) :: .ref (m 44) :: .ref (m 45) :: .ref (m 46) :: .ref (m 47) :: .ref (m 48) :: .int 0 :: .ref (m 50) :: .ref (m 51) :: .ref (m 52) :: .ref (m 53) :: .ref (m 54) :: .ref (m 55) :: .ref (m 56) :: .ref (m 57) :: .ref (m 58) :: .ref (m 59) :: .ref (m 60) :: .ref (m 61) :: .int 0 :: .int 0 :: .ref (m 64) :: .ref (m 65) :: .ref (m 66) :: .ref (m 67) :: .ref (m 68) :: .ref (m 69) :: [])))] [(0, .ref h0), (1, .int e)] 0 0 0 []
  refine j_iload_n h 1 rfl rfl dX12_untell_0 ?_
  refine j_iconst (v := 0) h (by decide) dX12_untell_1 ?_
  refine j_aload_n h 0 rfl rfl dX12_untell_2 ?_
  refine j_get h iw_X12 0 rfl rfl 62 (by decide) tw_1218 rfl dX12_untell_3 ?_
  refine j_iconst (v := 1) h (by decide) dX12_untell_6 ?_
  refine j_isub h dX12_untell_7 ?_
  refine j_top (b := (-1)) (by decide) ?_
  refine j_callSi (np := 3) (isC := []) (isR := [0]) (wc := []) (wr := [(h0, .inr (12, (.ref (m 0) :: .int 0 :: .int 0 :: .int (-1) :: .int 0 :: .int 0 :: .int 0 :: .int 0 :: .int 0 :: .long 0 :: .ref (m 10) :: .ref (m 11) :: .ref (m 12) :: .ref (m 13) :: .ref (m 14) :: .ref (m 15) :: .ref (m 16) :: .ref (m 17) :: .ref (m 18) :: .ref (m 19) :: .ref (m 20) :: .ref (m 21) :: .ref (m 22) :: .ref (m 23) :: .ref (m 24) :: .int 0 :: .int 0 :: .int 0 :: .int 0 :: .int 0 :: .int 0 :: .ref (m 31) :: .ref (m 32) :: .ref (m 33) :: .ref (m 34) :: .ref (m 35) :: .int 0 :: .int 0 :: .int 0 :: .ref (m 39) :: .ref (m 40) :: .ref (m 41) :: .int 0 :: .ref (m 43) :: .ref (m 44) :: .ref (m 45) :: .ref (m 46) :: .ref (m 47) :: .ref (m 48) :: .int 0 :: .ref (m 50) :: .ref (m 51) :: .ref (m 52) :: .ref (m 53) :: .ref (m 54) :: .ref (m 55) :: .ref (m 56) :: .ref (m 57) :: .ref (m 58) :: .ref (m 59) :: .ref (m 60) :: .ref (m 61) :: .int 0 :: .int 0 :: .ref (m 64) :: .ref (m 65) :: .ref (m 66) :: .ref (m 67) :: .ref (m 68) :: .ref (m 69) :: [])))]) (rest := []) (As := [.int e, .int 0, .int (-1)]) h (c_X12_isIn _ _ kA e 0 (-1) ) tw_1487 tw_1488 tw_99 tw_1489 (by decide +kernel) rfl ⟨Nat.le_of_ble_eq_true rfl, Nat.le_of_ble_eq_true rfl⟩ rfl (by decide) rfl rfl (by decide) (by decide) (Nat.le_of_ble_eq_true rfl) rfl ⟨Nat.le_of_ble_eq_true rfl, Nat.le_of_ble_eq_true rfl⟩ dX12_untell_8 ?_
  rintro r _ e384
  subst e384
  show J x [(h0, .inr (12, (.ref (m 0) :: .int 0 :: .int 0 :: .int (-1) :: .int 0 :: .int 0 :: .int 0 :: .int 0 :: .int 0 :: .long 0 :: .ref (m 10) :: .ref (m 11) :: .ref (m 12) :: .ref (m 13) :: .ref (m 14) :: .ref (m 15) :: .ref (m 16) :: .ref (m 17) :: .ref (m 18) :: .ref (m 19) :: .ref (m 20) :: .ref (m 21) :: .ref (m 22) :: .ref (m 23) :: .ref (m 24) :: .int 0 :: .int 0 :: .int 0 :: .int 0 :: .int 0 :: .int 0 :: .ref (m 31) :: .ref (m 32) :: .ref (m 33) :: .ref (m 34) :: .ref (m 35) :: .int 0 :: .int 0 :: .int 0 :: .ref (m 39) :: .ref (m 40) :: .ref (m 41) :: .int 0 :: .ref (m 43) :: .ref (m 44) :: .ref (m 45) :: .ref (m 46) :: .ref (m 47) :: .ref (m 48) :: .int 0 :: .ref (m 50) :: .ref (m 51) :: .ref (m 52) :: .ref (m 53) :: .ref (m 54) :: .ref (m 55) :: .ref (m 56) :: .ref (m 57) :: .ref (m 58) :: .ref (m 59) :: .ref (m 60) :: .ref (m 61) :: .int 0 :: .int 0 :: .ref (m 64) :: .ref (m 65) :: .ref (m 66) :: .ref (m 67) :: .ref (m 68) :: .ref (m 69) :: [])))] [(0, .ref h0), (1, .int e)] 0 0 11 [.int (bRg e 0 (-1))]
  refine j_top (b := 0) (bRg_e e) ?_
  refine j_if_eq h 23 dX12_untell_11 (by decide) (fun _ => ?_) (fun q => absurd (by decide) q)
  refine j_iconst (v := 0) h (by decide) dX12_untell_23 ?_
  exact j_zret h hq rfl dX12_untell_24 () [] rfl rfl (by decide) (by first | rfl | simp only [↓reduceIte]) (Nat.le_of_ble_eq_true rfl) (Nat.le_of_ble_eq_true rfl)
set_option maxHeartbeats 4000000 in
set_option maxRecDepth 100000 in
theorem c_X12_later (l : Launch) (g : va_G) (kA : Nat → ClassId) (h0 : Nat) (m : Nat → Nat) (b : Int32)  : CtI l yX12_later cX12_later 2 (some .int) 3 0 0 g kA [.ref h0, .int b] [(h0, .inr (12, (.ref (m 0) :: .int 0 :: .int 0 :: .int (-1) :: .int 0 :: .int 0 :: .int 0 :: .int 0 :: .int 0 :: .long 0 :: .ref (m 10) :: .ref (m 11) :: .ref (m 12) :: .ref (m 13) :: .ref (m 14) :: .ref (m 15) :: .ref (m 16) :: .ref (m 17) :: .ref (m 18) :: .ref (m 19) :: .ref (m 20) :: .ref (m 21) :: .ref (m 22) :: .ref (m 23) :: .ref (m 24) :: .int 0 :: .int 0 :: .int 0 :: .int 0 :: .int 0 :: .int 0 :: .ref (m 31) :: .ref (m 32) :: .ref (m 33) :: .ref (m 34) :: .ref (m 35) :: .int 0 :: .int 0 :: .int 0 :: .ref (m 39) :: .ref (m 40) :: .ref (m 41) :: .int 0 :: .ref (m 43) :: .ref (m 44) :: .ref (m 45) :: .ref (m 46) :: .ref (m 47) :: .ref (m 48) :: .int 0 :: .ref (m 50) :: .ref (m 51) :: .ref (m 52) :: .ref (m 53) :: .ref (m 54) :: .ref (m 55) :: .ref (m 56) :: .ref (m 57) :: .ref (m 58) :: .ref (m 59) :: .ref (m 60) :: .ref (m 61) :: .int 0 :: .int 0 :: .ref (m 64) :: .ref (m 65) :: .ref (m 66) :: .ref (m 67) :: .ref (m 68) :: .ref (m 69) :: [])))] (S := Unit) (fun (r : Int32) (_ : Unit) => r = vLater b) (fun (_ : Unit) => []) := by
  refine nx_startI (by decide +kernel) (Nat.le_of_ble_eq_true rfl) ?_
  intro x hnm h hq
  have h : Ok x cX12_later RX12 kA (rmC 3 0 0) 2 := h
  show J x [(h0, .inr (12, (.ref (m 0) :: .int 0 :: .int 0 :: .int (-1) :: .int 0 :: .int 0 :: .int 0 :: .int 0 :: .int 0 :: .long 0 :: .ref (m 10) :: .ref (m 11) :: .ref (m 12) :: .ref (m 13) :: .ref (m 14) :: .ref (m 15) :: .ref (m 16) :: .ref (m 17) :: .ref (m 18) :: .ref (m 19) :: .ref (m 20) :: .ref (m 21) :: .ref (m 22) :: .ref (m 23) :: .ref (m 24) :: .int 0 :: .int 0 :: .int 0 :: .int 0 :: .int 0 :: .int 0 :: .ref (m 31) :: .ref (m 32) :: .ref (m 33) :: .ref (m 34) :: .ref (m 35) :: .int 0 :: .int 0 :: .int 0 :: .ref (m 39) :: .ref (m 40) :: .ref (m 41) :: .int 0 :: .ref (m 43) :: .ref (m 44) :: .ref (m 45) :: .ref (m 46) :: .ref (m 47) :: .ref (m 48) :: .int 0 :: .ref (m 50) :: .ref (m 51) :: .ref (m 52) :: .ref (m 53) :: .ref (m 54) :: .ref (m 55) :: .ref (m 56) :: .ref (m 57) :: .ref (m 58) :: .ref (m 59) :: .ref (m 60) :: .ref (m 61) :: .int 0 :: .int 0 :: .ref (m 64) :: .ref (m 65) :: .ref (m 66) :: .ref (m 67) :: .ref (m 68) :: .ref (m 69) :: [])))] [(0, .ref h0), (1, .int b)] 0 0 0 []
  refine j_iload_n h 1 rfl rfl dX12_later_0 ?_
  refine j_if_lt h 23 dX12_later_1 (by decide) (fun z385 => ?_) (fun z385 => ?_)
  · refine j_iconst (v := (-1)) h (by decide) dX12_later_23 ?_
    exact j_iret h hq dX12_later_24 () [] rfl rfl (by decide) (by first | rfl | (unfold vLater; simp only [z385, ↓reduceIte]; done) | (subst_vars; decide)) (Nat.le_of_ble_eq_true rfl) (Nat.le_of_ble_eq_true rfl)
  · refine j_iload_n h 1 rfl rfl dX12_later_4 ?_
    refine j_sipush (v := 1000) h (by decide) dX12_later_5 ?_
    refine j_icmp_gt h 23 dX12_later_8 (by decide) (fun z386 => ?_) (fun z386 => ?_)
    · refine j_iconst (v := (-1)) h (by decide) dX12_later_23 ?_
      exact j_iret h hq dX12_later_24 () [] rfl rfl (by decide) (by first | rfl | (unfold vLater; simp only [z385, z386, ↓reduceIte]; done) | (subst_vars; decide)) (Nat.le_of_ble_eq_true rfl) (Nat.le_of_ble_eq_true rfl)
    · refine j_aload_n h 0 rfl rfl dX12_later_11 ?_
      refine j_get h iw_X12 0 rfl rfl 63 (by decide) tw_1219 rfl dX12_later_12 ?_
      refine j_iload_n h 1 rfl rfl dX12_later_15 ?_
      refine j_iadd h dX12_later_16 ?_
      refine j_top (b := b) (Int32.zero_add b) ?_
      refine j_ldcw h tw_1666 dX12_later_17 ?_
      refine j_icmp_le h 25 dX12_later_20 (by decide) (fun z387 => ?_) (fun z387 => ?_)
      · refine j_aload_n h 0 rfl rfl dX12_later_25 ?_
        refine j_dup h rfl dX12_later_26 ?_
        refine j_get h iw_X12 0 rfl rfl 63 (by decide) tw_1219 rfl dX12_later_27 ?_
        refine j_iload_n h 1 rfl rfl dX12_later_30 ?_
        refine j_iadd h dX12_later_31 ?_
        refine j_top (b := b) (Int32.zero_add b) ?_
        refine j_put (ws' := [(h0, .inr (12, (.ref (m 0) :: .int 0 :: .int 0 :: .int (-1) :: .int 0 :: .int 0 :: .int 0 :: .int 0 :: .int 0 :: .long 0 :: .ref (m 10) :: .ref (m 11) :: .ref (m 12) :: .ref (m 13) :: .ref (m 14) :: .ref (m 15) :: .ref (m 16) :: .ref (m 17) :: .ref (m 18) :: .ref (m 19) :: .ref (m 20) :: .ref (m 21) :: .ref (m 22) :: .ref (m 23) :: .ref (m 24) :: .int 0 :: .int 0 :: .int 0 :: .int 0 :: .int 0 :: .int 0 :: .ref (m 31) :: .ref (m 32) :: .ref (m 33) :: .ref (m 34) :: .ref (m 35) :: .int 0 :: .int 0 :: .int 0 :: .ref (m 39) :: .ref (m 40) :: .ref (m 41) :: .int 0 :: .ref (m 43) :: .ref (m 44) :: .ref (m 45) :: .ref (m 46) :: .ref (m 47) :: .ref (m 48) :: .int 0 :: .ref (m 50) :: .ref (m 51) :: .ref (m 52) :: .ref (m 53) :: .ref (m 54) :: .ref (m 55) :: .ref (m 56) :: .ref (m 57) :: .ref (m 58) :: .ref (m 59) :: .ref (m 60) :: .ref (m 61) :: .int 0 :: .int b :: .ref (m 64) :: .ref (m 65) :: .ref (m 66) :: .ref (m 67) :: .ref (m 68) :: .ref (m 69) :: [])))]) h iw_X12 tyX12 tyX12_ok nmX12 0 rfl rfl 63 (by decide) tw_1219 rfl rfl rfl (Nat.le_of_ble_eq_true rfl) dX12_later_32 rfl ?_
        refine j_aload_n h 0 rfl rfl dX12_later_35 ?_
        refine j_get h iw_X12 0 rfl rfl 63 (by decide) tw_1219 rfl dX12_later_36 ?_
        exact j_iret h hq dX12_later_39 () [] rfl rfl (by decide) (by first | rfl | (unfold vLater; simp only [z385, z386, z387, ↓reduceIte]; done) | (subst_vars; decide)) (Nat.le_of_ble_eq_true rfl) (Nat.le_of_ble_eq_true rfl)
      · refine j_iconst (v := (-1)) h (by decide) dX12_later_23 ?_
        exact j_iret h hq dX12_later_24 () [] rfl rfl (by decide) (by first | rfl | (unfold vLater; simp only [z385, z386, z387, ↓reduceIte]; done) | (subst_vars; decide)) (Nat.le_of_ble_eq_true rfl) (Nat.le_of_ble_eq_true rfl)
set_option maxHeartbeats 4000000 in
set_option maxRecDepth 100000 in
theorem c_X12_limp (l : Launch) (g : va_G) (kA : Nat → ClassId) (h0 : Nat) (m : Nat → Nat) (w : Int32)  : CtI l yX12_limp cX12_limp 7 (some .int) 3 0 0 g kA [.ref h0, .int w] [(h0, .inr (12, (.ref (m 0) :: .int 0 :: .int 0 :: .int (-1) :: .int 0 :: .int 0 :: .int 0 :: .int 0 :: .int 0 :: .long 0 :: .ref (m 10) :: .ref (m 11) :: .ref (m 12) :: .ref (m 13) :: .ref (m 14) :: .ref (m 15) :: .ref (m 16) :: .ref (m 17) :: .ref (m 18) :: .ref (m 19) :: .ref (m 20) :: .ref (m 21) :: .ref (m 22) :: .ref (m 23) :: .ref (m 24) :: .int 0 :: .int 0 :: .int 0 :: .int 0 :: .int 0 :: .int 0 :: .ref (m 31) :: .ref (m 32) :: .ref (m 33) :: .ref (m 34) :: .ref (m 35) :: .int 0 :: .int 0 :: .int 0 :: .ref (m 39) :: .ref (m 40) :: .ref (m 41) :: .int 0 :: .ref (m 43) :: .ref (m 44) :: .ref (m 45) :: .ref (m 46) :: .ref (m 47) :: .ref (m 48) :: .int 0 :: .ref (m 50) :: .ref (m 51) :: .ref (m 52) :: .ref (m 53) :: .ref (m 54) :: .ref (m 55) :: .ref (m 56) :: .ref (m 57) :: .ref (m 58) :: .ref (m 59) :: .ref (m 60) :: .ref (m 61) :: .int 0 :: .int 0 :: .ref (m 64) :: .ref (m 65) :: .ref (m 66) :: .ref (m 67) :: .ref (m 68) :: .ref (m 69) :: [])))] (S := Unit) (fun (r : Int32) (_ : Unit) => r = vLimp w) (fun (_ : Unit) => []) := by
  refine nx_startI (by decide +kernel) (Nat.le_of_ble_eq_true rfl) ?_
  intro x hnm h hq
  have h : Ok x cX12_limp RX12 kA (rmC 3 0 0) 7 := h
  show J x [(h0, .inr (12, (.ref (m 0) :: .int 0 :: .int 0 :: .int (-1) :: .int 0 :: .int 0 :: .int 0 :: .int 0 :: .int 0 :: .long 0 :: .ref (m 10) :: .ref (m 11) :: .ref (m 12) :: .ref (m 13) :: .ref (m 14) :: .ref (m 15) :: .ref (m 16) :: .ref (m 17) :: .ref (m 18) :: .ref (m 19) :: .ref (m 20) :: .ref (m 21) :: .ref (m 22) :: .ref (m 23) :: .ref (m 24) :: .int 0 :: .int 0 :: .int 0 :: .int 0 :: .int 0 :: .int 0 :: .ref (m 31) :: .ref (m 32) :: .ref (m 33) :: .ref (m 34) :: .ref (m 35) :: .int 0 :: .int 0 :: .int 0 :: .ref (m 39) :: .ref (m 40) :: .ref (m 41) :: .int 0 :: .ref (m 43) :: .ref (m 44) :: .ref (m 45) :: .ref (m 46) :: .ref (m 47) :: .ref (m 48) :: .int 0 :: .ref (m 50) :: .ref (m 51) :: .ref (m 52) :: .ref (m 53) :: .ref (m 54) :: .ref (m 55) :: .ref (m 56) :: .ref (m 57) :: .ref (m 58) :: .ref (m 59) :: .ref (m 60) :: .ref (m 61) :: .int 0 :: .int 0 :: .ref (m 64) :: .ref (m 65) :: .ref (m 66) :: .ref (m 67) :: .ref (m 68) :: .ref (m 69) :: [])))] [(0, .ref h0), (1, .int w)] 0 0 0 []
  rcases b01_cases w with rfl | rfl | hT
  · refine j_iload_n h 1 rfl rfl dX12_limp_0 ?_
    refine j_iconst (v := 0) h (by decide) dX12_limp_1 ?_
    refine j_iconst (v := 1) h (by decide) dX12_limp_2 ?_
    refine j_callSi (np := 3) (isC := []) (isR := [0]) (wc := []) (wr := [(h0, .inr (12, (.ref (m 0) :: .int 0 :: .int 0 :: .int (-1) :: .int 0 :: .int 0 :: .int 0 :: .int 0 :: .int 0 :: .long 0 :: .ref (m 10) :: .ref (m 11) :: .ref (m 12) :: .ref (m 13) :: .ref (m 14) :: .ref (m 15) :: .ref (m 16) :: .ref (m 17) :: .ref (m 18) :: .ref (m 19) :: .ref (m 20) :: .ref (m 21) :: .ref (m 22) :: .ref (m 23) :: .ref (m 24) :: .int 0 :: .int 0 :: .int 0 :: .int 0 :: .int 0 :: .int 0 :: .ref (m 31) :: .ref (m 32) :: .ref (m 33) :: .ref (m 34) :: .ref (m 35) :: .int 0 :: .int 0 :: .int 0 :: .ref (m 39) :: .ref (m 40) :: .ref (m 41) :: .int 0 :: .ref (m 43) :: .ref (m 44) :: .ref (m 45) :: .ref (m 46) :: .ref (m 47) :: .ref (m 48) :: .int 0 :: .ref (m 50) :: .ref (m 51) :: .ref (m 52) :: .ref (m 53) :: .ref (m 54) :: .ref (m 55) :: .ref (m 56) :: .ref (m 57) :: .ref (m 58) :: .ref (m 59) :: .ref (m 60) :: .ref (m 61) :: .int 0 :: .int 0 :: .ref (m 64) :: .ref (m 65) :: .ref (m 66) :: .ref (m 67) :: .ref (m 68) :: .ref (m 69) :: [])))]) (rest := []) (As := [.int 0, .int 0, .int 1]) h (c_X12_isIn _ _ kA 0 0 1 ) tw_1487 tw_1488 tw_99 tw_1489 (by decide +kernel) rfl ⟨Nat.le_of_ble_eq_true rfl, Nat.le_of_ble_eq_true rfl⟩ rfl (by decide) rfl rfl (by decide) (by decide) (Nat.le_of_ble_eq_true rfl) rfl ⟨Nat.le_of_ble_eq_true rfl, Nat.le_of_ble_eq_true rfl⟩ dX12_limp_3 ?_
    rintro r _ e388
    subst e388
    show J x [(h0, .inr (12, (.ref (m 0) :: .int 0 :: .int 0 :: .int (-1) :: .int 0 :: .int 0 :: .int 0 :: .int 0 :: .int 0 :: .long 0 :: .ref (m 10) :: .ref (m 11) :: .ref (m 12) :: .ref (m 13) :: .ref (m 14) :: .ref (m 15) :: .ref (m 16) :: .ref (m 17) :: .ref (m 18) :: .ref (m 19) :: .ref (m 20) :: .ref (m 21) :: .ref (m 22) :: .ref (m 23) :: .ref (m 24) :: .int 0 :: .int 0 :: .int 0 :: .int 0 :: .int 0 :: .int 0 :: .ref (m 31) :: .ref (m 32) :: .ref (m 33) :: .ref (m 34) :: .ref (m 35) :: .int 0 :: .int 0 :: .int 0 :: .ref (m 39) :: .ref (m 40) :: .ref (m 41) :: .int 0 :: .ref (m 43) :: .ref (m 44) :: .ref (m 45) :: .ref (m 46) :: .ref (m 47) :: .ref (m 48) :: .int 0 :: .ref (m 50) :: .ref (m 51) :: .ref (m 52) :: .ref (m 53) :: .ref (m 54) :: .ref (m 55) :: .ref (m 56) :: .ref (m 57) :: .ref (m 58) :: .ref (m 59) :: .ref (m 60) :: .ref (m 61) :: .int 0 :: .int 0 :: .ref (m 64) :: .ref (m 65) :: .ref (m 66) :: .ref (m 67) :: .ref (m 68) :: .ref (m 69) :: [])))] [(0, .ref h0), (1, .int 0)] 0 0 6 [.int (bRg 0 0 1)]
    refine j_top (b := 1) (by decide) ?_
    refine j_if_ne h 11 dX12_limp_6 (by decide) (fun _ => ?_) (fun q => absurd q (by decide))
    refine j_iconst (v := 0) h (by decide) dX12_limp_11 ?_
    refine j_istore_n (lv' := [(2, .int 0), (0, .ref h0), (1, .int 0)]) h dX12_limp_12 rfl (by decide) rfl ?_
    refine j_iconst (v := 0) h (by decide) dX12_limp_13 ?_
    refine j_istore_n (lv' := [(3, .int 0), (2, .int 0), (0, .ref h0), (1, .int 0)]) h dX12_limp_14 rfl (by decide) rfl ?_
    refine j_iconst (v := 0) h (by decide) dX12_limp_15 ?_
    refine j_istore (lv' := [(4, .int 0), (3, .int 0), (2, .int 0), (0, .ref h0), (1, .int 0)]) h dX12_limp_16 (by decide) rfl ?_
    refine j_iconst (v := 0) h (by decide) dX12_limp_18 ?_
    refine j_istore (lv' := [(5, .int 0), (4, .int 0), (3, .int 0), (2, .int 0), (0, .ref h0), (1, .int 0)]) h dX12_limp_19 (by decide) rfl ?_
    refine j_iload h 0 rfl dX12_limp_21 ?_
    refine j_aload_n h 4 rfl rfl dX12_limp_23 ?_
    refine j_get h iw_X12 0 rfl rfl 36 (by decide) tw_1192 rfl dX12_limp_24 ?_
    refine j_icmp_ge h 101 dX12_limp_27 (by decide) (fun _ => ?_) (fun q => absurd (by decide) q)
    refine j_iload_n h 2 rfl rfl dX12_limp_101 ?_
    refine j_if_ne h 107 dX12_limp_102 (by decide) (fun q => absurd (by decide) q) (fun _ => ?_)
    refine j_iload_n h 5 rfl rfl dX12_limp_105 ?_
    exact j_iret h hq dX12_limp_106 () [] rfl rfl (by decide) (by decide) (Nat.le_of_ble_eq_true rfl) (Nat.le_of_ble_eq_true rfl)
  · refine j_iload_n h 1 rfl rfl dX12_limp_0 ?_
    refine j_iconst (v := 0) h (by decide) dX12_limp_1 ?_
    refine j_iconst (v := 1) h (by decide) dX12_limp_2 ?_
    refine j_callSi (np := 3) (isC := []) (isR := [0]) (wc := []) (wr := [(h0, .inr (12, (.ref (m 0) :: .int 0 :: .int 0 :: .int (-1) :: .int 0 :: .int 0 :: .int 0 :: .int 0 :: .int 0 :: .long 0 :: .ref (m 10) :: .ref (m 11) :: .ref (m 12) :: .ref (m 13) :: .ref (m 14) :: .ref (m 15) :: .ref (m 16) :: .ref (m 17) :: .ref (m 18) :: .ref (m 19) :: .ref (m 20) :: .ref (m 21) :: .ref (m 22) :: .ref (m 23) :: .ref (m 24) :: .int 0 :: .int 0 :: .int 0 :: .int 0 :: .int 0 :: .int 0 :: .ref (m 31) :: .ref (m 32) :: .ref (m 33) :: .ref (m 34) :: .ref (m 35) :: .int 0 :: .int 0 :: .int 0 :: .ref (m 39) :: .ref (m 40) :: .ref (m 41) :: .int 0 :: .ref (m 43) :: .ref (m 44) :: .ref (m 45) :: .ref (m 46) :: .ref (m 47) :: .ref (m 48) :: .int 0 :: .ref (m 50) :: .ref (m 51) :: .ref (m 52) :: .ref (m 53) :: .ref (m 54) :: .ref (m 55) :: .ref (m 56) :: .ref (m 57) :: .ref (m 58) :: .ref (m 59) :: .ref (m 60) :: .ref (m 61) :: .int 0 :: .int 0 :: .ref (m 64) :: .ref (m 65) :: .ref (m 66) :: .ref (m 67) :: .ref (m 68) :: .ref (m 69) :: [])))]) (rest := []) (As := [.int 1, .int 0, .int 1]) h (c_X12_isIn _ _ kA 1 0 1 ) tw_1487 tw_1488 tw_99 tw_1489 (by decide +kernel) rfl ⟨Nat.le_of_ble_eq_true rfl, Nat.le_of_ble_eq_true rfl⟩ rfl (by decide) rfl rfl (by decide) (by decide) (Nat.le_of_ble_eq_true rfl) rfl ⟨Nat.le_of_ble_eq_true rfl, Nat.le_of_ble_eq_true rfl⟩ dX12_limp_3 ?_
    rintro r _ e389
    subst e389
    show J x [(h0, .inr (12, (.ref (m 0) :: .int 0 :: .int 0 :: .int (-1) :: .int 0 :: .int 0 :: .int 0 :: .int 0 :: .int 0 :: .long 0 :: .ref (m 10) :: .ref (m 11) :: .ref (m 12) :: .ref (m 13) :: .ref (m 14) :: .ref (m 15) :: .ref (m 16) :: .ref (m 17) :: .ref (m 18) :: .ref (m 19) :: .ref (m 20) :: .ref (m 21) :: .ref (m 22) :: .ref (m 23) :: .ref (m 24) :: .int 0 :: .int 0 :: .int 0 :: .int 0 :: .int 0 :: .int 0 :: .ref (m 31) :: .ref (m 32) :: .ref (m 33) :: .ref (m 34) :: .ref (m 35) :: .int 0 :: .int 0 :: .int 0 :: .ref (m 39) :: .ref (m 40) :: .ref (m 41) :: .int 0 :: .ref (m 43) :: .ref (m 44) :: .ref (m 45) :: .ref (m 46) :: .ref (m 47) :: .ref (m 48) :: .int 0 :: .ref (m 50) :: .ref (m 51) :: .ref (m 52) :: .ref (m 53) :: .ref (m 54) :: .ref (m 55) :: .ref (m 56) :: .ref (m 57) :: .ref (m 58) :: .ref (m 59) :: .ref (m 60) :: .ref (m 61) :: .int 0 :: .int 0 :: .ref (m 64) :: .ref (m 65) :: .ref (m 66) :: .ref (m 67) :: .ref (m 68) :: .ref (m 69) :: [])))] [(0, .ref h0), (1, .int 1)] 0 0 6 [.int (bRg 1 0 1)]
    refine j_top (b := 1) (by decide) ?_
    refine j_if_ne h 11 dX12_limp_6 (by decide) (fun _ => ?_) (fun q => absurd q (by decide))
    refine j_iconst (v := 0) h (by decide) dX12_limp_11 ?_
    refine j_istore_n (lv' := [(2, .int 0), (0, .ref h0), (1, .int 1)]) h dX12_limp_12 rfl (by decide) rfl ?_
    refine j_iconst (v := 0) h (by decide) dX12_limp_13 ?_
    refine j_istore_n (lv' := [(3, .int 0), (2, .int 0), (0, .ref h0), (1, .int 1)]) h dX12_limp_14 rfl (by decide) rfl ?_
    refine j_iconst (v := 0) h (by decide) dX12_limp_15 ?_
    refine j_istore (lv' := [(4, .int 0), (3, .int 0), (2, .int 0), (0, .ref h0), (1, .int 1)]) h dX12_limp_16 (by decide) rfl ?_
    refine j_iconst (v := 0) h (by decide) dX12_limp_18 ?_
    refine j_istore (lv' := [(5, .int 0), (4, .int 0), (3, .int 0), (2, .int 0), (0, .ref h0), (1, .int 1)]) h dX12_limp_19 (by decide) rfl ?_
    refine j_iload h 0 rfl dX12_limp_21 ?_
    refine j_aload_n h 4 rfl rfl dX12_limp_23 ?_
    refine j_get h iw_X12 0 rfl rfl 36 (by decide) tw_1192 rfl dX12_limp_24 ?_
    refine j_icmp_ge h 101 dX12_limp_27 (by decide) (fun _ => ?_) (fun q => absurd (by decide) q)
    refine j_iload_n h 2 rfl rfl dX12_limp_101 ?_
    refine j_if_ne h 107 dX12_limp_102 (by decide) (fun q => absurd (by decide) q) (fun _ => ?_)
    refine j_iload_n h 5 rfl rfl dX12_limp_105 ?_
    exact j_iret h hq dX12_limp_106 () [] rfl rfl (by decide) (by decide) (Nat.le_of_ble_eq_true rfl) (Nat.le_of_ble_eq_true rfl)
  · refine j_iload_n h 1 rfl rfl dX12_limp_0 ?_
    refine j_iconst (v := 0) h (by decide) dX12_limp_1 ?_
    refine j_iconst (v := 1) h (by decide) dX12_limp_2 ?_
    refine j_callSi (np := 3) (isC := []) (isR := [0]) (wc := []) (wr := [(h0, .inr (12, (.ref (m 0) :: .int 0 :: .int 0 :: .int (-1) :: .int 0 :: .int 0 :: .int 0 :: .int 0 :: .int 0 :: .long 0 :: .ref (m 10) :: .ref (m 11) :: .ref (m 12) :: .ref (m 13) :: .ref (m 14) :: .ref (m 15) :: .ref (m 16) :: .ref (m 17) :: .ref (m 18) :: .ref (m 19) :: .ref (m 20) :: .ref (m 21) :: .ref (m 22) :: .ref (m 23) :: .ref (m 24) :: .int 0 :: .int 0 :: .int 0 :: .int 0 :: .int 0 :: .int 0 :: .ref (m 31) :: .ref (m 32) :: .ref (m 33) :: .ref (m 34) :: .ref (m 35) :: .int 0 :: .int 0 :: .int 0 :: .ref (m 39) :: .ref (m 40) :: .ref (m 41) :: .int 0 :: .ref (m 43) :: .ref (m 44) :: .ref (m 45) :: .ref (m 46) :: .ref (m 47) :: .ref (m 48) :: .int 0 :: .ref (m 50) :: .ref (m 51) :: .ref (m 52) :: .ref (m 53) :: .ref (m 54) :: .ref (m 55) :: .ref (m 56) :: .ref (m 57) :: .ref (m 58) :: .ref (m 59) :: .ref (m 60) :: .ref (m 61) :: .int 0 :: .int 0 :: .ref (m 64) :: .ref (m 65) :: .ref (m 66) :: .ref (m 67) :: .ref (m 68) :: .ref (m 69) :: [])))]) (rest := []) (As := [.int w, .int 0, .int 1]) h (c_X12_isIn _ _ kA w 0 1 ) tw_1487 tw_1488 tw_99 tw_1489 (by decide +kernel) rfl ⟨Nat.le_of_ble_eq_true rfl, Nat.le_of_ble_eq_true rfl⟩ rfl (by decide) rfl rfl (by decide) (by decide) (Nat.le_of_ble_eq_true rfl) rfl ⟨Nat.le_of_ble_eq_true rfl, Nat.le_of_ble_eq_true rfl⟩ dX12_limp_3 ?_
    rintro r _ e390
    subst e390
    show J x [(h0, .inr (12, (.ref (m 0) :: .int 0 :: .int 0 :: .int (-1) :: .int 0 :: .int 0 :: .int 0 :: .int 0 :: .int 0 :: .long 0 :: .ref (m 10) :: .ref (m 11) :: .ref (m 12) :: .ref (m 13) :: .ref (m 14) :: .ref (m 15) :: .ref (m 16) :: .ref (m 17) :: .ref (m 18) :: .ref (m 19) :: .ref (m 20) :: .ref (m 21) :: .ref (m 22) :: .ref (m 23) :: .ref (m 24) :: .int 0 :: .int 0 :: .int 0 :: .int 0 :: .int 0 :: .int 0 :: .ref (m 31) :: .ref (m 32) :: .ref (m 33) :: .ref (m 34) :: .ref (m 35) :: .int 0 :: .int 0 :: .int 0 :: .ref (m 39) :: .ref (m 40) :: .ref (m 41) :: .int 0 :: .ref (m 43) :: .ref (m 44) :: .ref (m 45) :: .ref (m 46) :: .ref (m 47) :: .ref (m 48) :: .int 0 :: .ref (m 50) :: .ref (m 51) :: .ref (m 52) :: .ref (m 53) :: .ref (m 54) :: .ref (m 55) :: .ref (m 56) :: .ref (m 57) :: .ref (m 58) :: .ref (m 59) :: .ref (m 60) :: .ref (m 61) :: .int 0 :: .int 0 :: .ref (m 64) :: .ref (m 65) :: .ref (m 66) :: .ref (m 67) :: .ref (m 68) :: .ref (m 69) :: [])))] [(0, .ref h0), (1, .int w)] 0 0 6 [.int (bRg w 0 1)]
    refine j_top (b := 0) (b01_out hT) ?_
    refine j_if_ne h 11 dX12_limp_6 (by decide) (fun q => absurd (by decide) q) (fun _ => ?_)
    refine j_iconst (v := (-1)) h (by decide) dX12_limp_9 ?_
    exact j_iret h hq dX12_limp_10 () [] rfl rfl (by decide) (by unfold vLimp; rw [if_neg hT.1, if_neg hT.2]) (Nat.le_of_ble_eq_true rfl) (Nat.le_of_ble_eq_true rfl)
set_option maxHeartbeats 4000000 in
set_option maxRecDepth 100000 in
theorem c_X12_about (l : Launch) (g : va_G) (kA : Nat → ClassId) (h0 : Nat) (m : Nat → Nat) (w : Int32)  : CtI l yX12_about cX12_about 2 (some .int) 3 0 0 g kA [.ref h0, .int w] [(h0, .inr (12, (.ref (m 0) :: .int 0 :: .int 0 :: .int (-1) :: .int 0 :: .int 0 :: .int 0 :: .int 0 :: .int 0 :: .long 0 :: .ref (m 10) :: .ref (m 11) :: .ref (m 12) :: .ref (m 13) :: .ref (m 14) :: .ref (m 15) :: .ref (m 16) :: .ref (m 17) :: .ref (m 18) :: .ref (m 19) :: .ref (m 20) :: .ref (m 21) :: .ref (m 22) :: .ref (m 23) :: .ref (m 24) :: .int 0 :: .int 0 :: .int 0 :: .int 0 :: .int 0 :: .int 0 :: .ref (m 31) :: .ref (m 32) :: .ref (m 33) :: .ref (m 34) :: .ref (m 35) :: .int 0 :: .int 0 :: .int 0 :: .ref (m 39) :: .ref (m 40) :: .ref (m 41) :: .int 0 :: .ref (m 43) :: .ref (m 44) :: .ref (m 45) :: .ref (m 46) :: .ref (m 47) :: .ref (m 48) :: .int 0 :: .ref (m 50) :: .ref (m 51) :: .ref (m 52) :: .ref (m 53) :: .ref (m 54) :: .ref (m 55) :: .ref (m 56) :: .ref (m 57) :: .ref (m 58) :: .ref (m 59) :: .ref (m 60) :: .ref (m 61) :: .int 0 :: .int 0 :: .ref (m 64) :: .ref (m 65) :: .ref (m 66) :: .ref (m 67) :: .ref (m 68) :: .ref (m 69) :: []))), ((m 45), .inl (kA 1, 2, .inl (fun _ => 0)))] (S := Unit) (fun (r : Int32) (_ : Unit) => r = vAb w) (fun (_ : Unit) => []) := by
  refine nx_startI (by decide +kernel) (Nat.le_of_ble_eq_true rfl) ?_
  intro x hnm h hq
  have h : Ok x cX12_about RX12 kA (rmC 3 0 0) 2 := h
  show J x [(h0, .inr (12, (.ref (m 0) :: .int 0 :: .int 0 :: .int (-1) :: .int 0 :: .int 0 :: .int 0 :: .int 0 :: .int 0 :: .long 0 :: .ref (m 10) :: .ref (m 11) :: .ref (m 12) :: .ref (m 13) :: .ref (m 14) :: .ref (m 15) :: .ref (m 16) :: .ref (m 17) :: .ref (m 18) :: .ref (m 19) :: .ref (m 20) :: .ref (m 21) :: .ref (m 22) :: .ref (m 23) :: .ref (m 24) :: .int 0 :: .int 0 :: .int 0 :: .int 0 :: .int 0 :: .int 0 :: .ref (m 31) :: .ref (m 32) :: .ref (m 33) :: .ref (m 34) :: .ref (m 35) :: .int 0 :: .int 0 :: .int 0 :: .ref (m 39) :: .ref (m 40) :: .ref (m 41) :: .int 0 :: .ref (m 43) :: .ref (m 44) :: .ref (m 45) :: .ref (m 46) :: .ref (m 47) :: .ref (m 48) :: .int 0 :: .ref (m 50) :: .ref (m 51) :: .ref (m 52) :: .ref (m 53) :: .ref (m 54) :: .ref (m 55) :: .ref (m 56) :: .ref (m 57) :: .ref (m 58) :: .ref (m 59) :: .ref (m 60) :: .ref (m 61) :: .int 0 :: .int 0 :: .ref (m 64) :: .ref (m 65) :: .ref (m 66) :: .ref (m 67) :: .ref (m 68) :: .ref (m 69) :: []))), ((m 45), .inl (kA 1, 2, .inl (fun _ => 0)))] [(0, .ref h0), (1, .int w)] 0 0 0 []
  rcases ab_cases w with rfl | rfl | rfl | rfl | rfl | rfl | rfl | rfl | rfl | rfl | rfl | rfl | hT
  · refine j_iload_n h 1 rfl rfl dX12_about_0 ?_
    refine j_tabIn h 64 dX12_about_1 (by decide) (by decide) rfl (by decide) ?_
    refine j_aload_n h 0 rfl rfl dX12_about_64 ?_
    refine j_get h iw_X12 0 rfl rfl 28 (by decide) tw_1184 rfl dX12_about_65 ?_
    exact j_iret h hq dX12_about_68 () [] rfl rfl (by decide) (by decide) (Nat.le_of_ble_eq_true rfl) (Nat.le_of_ble_eq_true rfl)
  · refine j_iload_n h 1 rfl rfl dX12_about_0 ?_
    refine j_tabIn h 69 dX12_about_1 (by decide) (by decide) rfl (by decide) ?_
    refine j_aload_n h 0 rfl rfl dX12_about_69 ?_
    refine j_get h iw_X12 0 rfl rfl 29 (by decide) tw_1185 rfl dX12_about_70 ?_
    exact j_iret h hq dX12_about_73 () [] rfl rfl (by decide) (by decide) (Nat.le_of_ble_eq_true rfl) (Nat.le_of_ble_eq_true rfl)
  · refine j_iload_n h 1 rfl rfl dX12_about_0 ?_
    refine j_tabIn h 74 dX12_about_1 (by decide) (by decide) rfl (by decide) ?_
    refine j_aload_n h 0 rfl rfl dX12_about_74 ?_
    refine j_get h iw_X12 0 rfl rfl 30 (by decide) tw_1186 rfl dX12_about_75 ?_
    exact j_iret h hq dX12_about_78 () [] rfl rfl (by decide) (by decide) (Nat.le_of_ble_eq_true rfl) (Nat.le_of_ble_eq_true rfl)
  · refine j_iload_n h 1 rfl rfl dX12_about_0 ?_
    refine j_tabIn h 79 dX12_about_1 (by decide) (by decide) rfl (by decide) ?_
    refine j_aload_n h 0 rfl rfl dX12_about_79 ?_
    refine j_get h iw_X12 0 rfl rfl 37 (by decide) tw_1193 rfl dX12_about_80 ?_
    exact j_iret h hq dX12_about_83 () [] rfl rfl (by decide) (by decide) (Nat.le_of_ble_eq_true rfl) (Nat.le_of_ble_eq_true rfl)
  · refine j_iload_n h 1 rfl rfl dX12_about_0 ?_
    refine j_tabIn h 84 dX12_about_1 (by decide) (by decide) rfl (by decide) ?_
    refine j_aload_n h 0 rfl rfl dX12_about_84 ?_
    refine j_get h iw_X12 0 rfl rfl 36 (by decide) tw_1192 rfl dX12_about_85 ?_
    exact j_iret h hq dX12_about_88 () [] rfl rfl (by decide) (by decide) (Nat.le_of_ble_eq_true rfl) (Nat.le_of_ble_eq_true rfl)
  · refine j_iload_n h 1 rfl rfl dX12_about_0 ?_
    refine j_tabIn h 89 dX12_about_1 (by decide) (by decide) rfl (by decide) ?_
    refine j_aload_n h 0 rfl rfl dX12_about_89 ?_
    refine j_get h iw_X12 0 rfl rfl 38 (by decide) tw_1194 rfl dX12_about_90 ?_
    exact j_iret h hq dX12_about_93 () [] rfl rfl (by decide) (by decide) (Nat.le_of_ble_eq_true rfl) (Nat.le_of_ble_eq_true rfl)
  · refine j_iload_n h 1 rfl rfl dX12_about_0 ?_
    refine j_tabIn h 94 dX12_about_1 (by decide) (by decide) rfl (by decide) ?_
    refine j_aload_n h 0 rfl rfl dX12_about_94 ?_
    refine j_get h iw_X12 0 rfl rfl 45 (by decide) tw_1201 rfl dX12_about_95 ?_
    refine j_iconst (v := 0) h (by decide) dX12_about_98 ?_
    refine j_iald h 1 rfl 0 (by decide) (by decide) (by decide) dX12_about_99 ?_
    refine j_top (b := 0) rfl ?_
    exact j_iret h hq dX12_about_100 () [] rfl rfl (by decide) (by decide) (Nat.le_of_ble_eq_true rfl) (Nat.le_of_ble_eq_true rfl)
  · refine j_iload_n h 1 rfl rfl dX12_about_0 ?_
    refine j_tabIn h 101 dX12_about_1 (by decide) (by decide) rfl (by decide) ?_
    refine j_aload_n h 0 rfl rfl dX12_about_101 ?_
    refine j_get h iw_X12 0 rfl rfl 45 (by decide) tw_1201 rfl dX12_about_102 ?_
    refine j_iconst (v := 1) h (by decide) dX12_about_105 ?_
    refine j_iald h 1 rfl 1 (by decide) (by decide) (by decide) dX12_about_106 ?_
    refine j_top (b := 0) rfl ?_
    exact j_iret h hq dX12_about_107 () [] rfl rfl (by decide) (by decide) (Nat.le_of_ble_eq_true rfl) (Nat.le_of_ble_eq_true rfl)
  · refine j_iload_n h 1 rfl rfl dX12_about_0 ?_
    refine j_tabIn h 108 dX12_about_1 (by decide) (by decide) rfl (by decide) ?_
    refine j_aload_n h 0 rfl rfl dX12_about_108 ?_
    refine j_get h iw_X12 0 rfl rfl 62 (by decide) tw_1218 rfl dX12_about_109 ?_
    exact j_iret h hq dX12_about_112 () [] rfl rfl (by decide) (by decide) (Nat.le_of_ble_eq_true rfl) (Nat.le_of_ble_eq_true rfl)
  · refine j_iload_n h 1 rfl rfl dX12_about_0 ?_
    refine j_tabIn h 113 dX12_about_1 (by decide) (by decide) rfl (by decide) ?_
    refine j_aload_n h 0 rfl rfl dX12_about_113 ?_
    refine j_get h iw_X12 0 rfl rfl 63 (by decide) tw_1219 rfl dX12_about_114 ?_
    exact j_iret h hq dX12_about_117 () [] rfl rfl (by decide) (by decide) (Nat.le_of_ble_eq_true rfl) (Nat.le_of_ble_eq_true rfl)
  · refine j_iload_n h 1 rfl rfl dX12_about_0 ?_
    refine j_tabIn h 118 dX12_about_1 (by decide) (by decide) rfl (by decide) ?_
    refine j_aload_n h 0 rfl rfl dX12_about_118 ?_
    refine j_get h iw_X12 0 rfl rfl 1 (by decide) tw_1157 rfl dX12_about_119 ?_
    exact j_iret h hq dX12_about_122 () [] rfl rfl (by decide) (by decide) (Nat.le_of_ble_eq_true rfl) (Nat.le_of_ble_eq_true rfl)
  · refine j_iload_n h 1 rfl rfl dX12_about_0 ?_
    refine j_tabIn h 123 dX12_about_1 (by decide) (by decide) rfl (by decide) ?_
    refine j_aload_n h 0 rfl rfl dX12_about_123 ?_
    refine j_get h iw_X12 0 rfl rfl 42 (by decide) tw_1198 rfl dX12_about_124 ?_
    exact j_iret h hq dX12_about_127 () [] rfl rfl (by decide) (by decide) (Nat.le_of_ble_eq_true rfl) (Nat.le_of_ble_eq_true rfl)
  · refine j_iload_n h 1 rfl rfl dX12_about_0 ?_
    refine j_tabOut h 128 dX12_about_1 hT (by decide) ?_
    refine j_iconst (v := (-1)) h (by decide) dX12_about_128 ?_
    exact j_iret h hq dX12_about_129 () [] rfl rfl (by decide) (by unfold vAb; rw [if_pos hT]) (Nat.le_of_ble_eq_true rfl) (Nat.le_of_ble_eq_true rfl)
