theorem SzOk_0 (sz : Nat → Int32) : SzOk 0 sz := fun i h => absurd h (Nat.not_lt_zero i)
theorem RwOk_0 (n : Nat) (sz : Nat → Int32) (rw : Nat → Nat → Int32) : RwOk 0 n sz rw := fun i _ _ h => absurd h (Nat.not_lt_zero i)
theorem LsOk_0 (sz : Nat → Int32) (rw : Nat → Nat → Int32) (tk lt : Nat → Int32) : LsOk 0 sz rw tk lt := fun i _ h => absurd h (Nat.not_lt_zero i)
theorem dX6_refuse_0 : decode cX6_refuse 0 = .ok (.aload_n 0, 1) := by decide +kernel
theorem dX6_refuse_1 : decode cX6_refuse 1 = .ok (.aload_n 1, 1) := by decide +kernel
theorem dX6_refuse_2 : decode cX6_refuse 2 = .ok (.getfield 28, 3) := by decide +kernel
theorem tw_124 : Cond.fieldLink RX6 28 "LimpCode$Tape" "kind" "I" ∈ TT := nx_mem 124 (by decide +kernel) (by decide +kernel)
theorem dX6_refuse_5 : decode cX6_refuse 5 = .ok (.iconst 4, 1) := by decide +kernel
theorem dX6_refuse_6 : decode cX6_refuse 6 = .ok (.if_icmp .ne 7, 3) := by decide +kernel
theorem dX6_refuse_13 : decode cX6_refuse 13 = .ok (.iload_n 2, 1) := by decide +kernel
theorem dX6_refuse_14 : decode cX6_refuse 14 = .ok (.putfield 15, 3) := by decide +kernel
theorem iw_X6 : ∀ w ∈ u_ws RX6 TX6 3, w ∈ TT := nx_mems _ [160, 162, 164] (by decide +kernel) (by decide +kernel)
theorem tw_155 : Cond.fieldLink RX6 15 "LimpCode$SchoolReader" "fault" "I" ∈ TT := nx_mem 155 (by decide +kernel) (by decide +kernel)
theorem dX6_refuse_17 : decode cX6_refuse 17 = .ok (.aload_n 0, 1) := by decide +kernel
theorem dX6_refuse_18 : decode cX6_refuse 18 = .ok (.aload_n 1, 1) := by decide +kernel
theorem dX6_refuse_19 : decode cX6_refuse 19 = .ok (.getfield 160, 3) := by decide +kernel
theorem tw_127 : Cond.fieldLink RX6 160 "LimpCode$Tape" "place" "I" ∈ TT := nx_mem 127 (by decide +kernel) (by decide +kernel)
theorem dX6_refuse_22 : decode cX6_refuse 22 = .ok (.putfield 9, 3) := by decide +kernel
theorem tw_157 : Cond.fieldLink RX6 9 "LimpCode$SchoolReader" "faultPlace" "I" ∈ TT := nx_mem 157 (by decide +kernel) (by decide +kernel)
theorem dX6_refuse_25 : decode cX6_refuse 25 = .ok (.iconst 0, 1) := by decide +kernel
theorem dX6_refuse_26 : decode cX6_refuse 26 = .ok (.ireturn, 1) := by decide +kernel
theorem dX6_refuse_9 : decode cX6_refuse 9 = .ok (.iconst 1, 1) := by decide +kernel
theorem dX6_refuse_10 : decode cX6_refuse 10 = .ok (.goto 4, 3) := by decide +kernel
theorem dX6_find_0 : decode cX6_find 0 = .ok (.iconst 0, 1) := by decide +kernel
theorem dX6_find_1 : decode cX6_find 1 = .ok (.istore 4, 2) := by decide +kernel
theorem dX6_find_3 : decode cX6_find 3 = .ok (.iload 4, 2) := by decide +kernel
theorem dX6_find_5 : decode cX6_find 5 = .ok (.iload_n 1, 1) := by decide +kernel
theorem dX6_find_6 : decode cX6_find 6 = .ok (.if_icmp .ge 28, 3) := by decide +kernel
theorem dX6_find_34 : decode cX6_find 34 = .ok (.iconst (-1), 1) := by decide +kernel
theorem dX6_find_35 : decode cX6_find 35 = .ok (.ireturn, 1) := by decide +kernel
theorem dX6_find_9 : decode cX6_find 9 = .ok (.iload 4, 2) := by decide +kernel
theorem dX6_find_11 : decode cX6_find 11 = .ok (.aload_n 0, 1) := by decide +kernel
theorem dX6_find_12 : decode cX6_find 12 = .ok (.arraylength, 1) := by decide +kernel
theorem dX6_find_13 : decode cX6_find 13 = .ok (.if_icmp .ge 21, 3) := by decide +kernel
theorem dX6_find_16 : decode cX6_find 16 = .ok (.aload_n 0, 1) := by decide +kernel
theorem dX6_find_17 : decode cX6_find 17 = .ok (.iload 4, 2) := by decide +kernel
theorem dX6_find_19 : decode cX6_find 19 = .ok (.laload, 1) := by decide +kernel
theorem dX6_find_20 : decode cX6_find 20 = .ok (.lload_n 2, 1) := by decide +kernel
theorem dX6_find_21 : decode cX6_find 21 = .ok (.lcmp, 1) := by decide +kernel
theorem dX6_find_22 : decode cX6_find 22 = .ok (.ifCond .ne 6, 3) := by decide +kernel
theorem dX6_find_28 : decode cX6_find 28 = .ok (.iinc 4 1, 3) := by decide +kernel
theorem dX6_find_31 : decode cX6_find 31 = .ok (.goto (-28), 3) := by decide +kernel
theorem dX6_find_25 : decode cX6_find 25 = .ok (.iload 4, 2) := by decide +kernel
theorem dX6_find_27 : decode cX6_find 27 = .ok (.ireturn, 1) := by decide +kernel
theorem dX6_knownName_0 : decode cX6_knownName 0 = .ok (.aload_n 1, 1) := by decide +kernel
theorem dX6_knownName_1 : decode cX6_knownName 1 = .ok (.invokevirtual 147, 3) := by decide +kernel
theorem tw_656 : Cond.methodLink RX6 147 yX9_isAtName ∈ TT := nx_mem 656 (by decide +kernel) (by decide +kernel)
theorem tw_657 : Cond.instanceMethod yX9_isAtName ∈ TT := nx_mem 657 (by decide +kernel) (by decide +kernel)
theorem tw_658 : Cond.selects RX9 yX9_isAtName yX9_isAtName ∈ TT := nx_mem 658 (by decide +kernel) (by decide +kernel)
theorem tw_659 : Cond.code yX9_isAtName cX9_isAtName 1 (some .boolean) ∈ TT := nx_mem 659 (by decide +kernel) (by decide +kernel)
theorem dX6_knownName_4 : decode cX6_knownName 4 = .ok (.ifCond .ne 12, 3) := by decide +kernel
theorem dX6_knownName_16 : decode cX6_knownName 16 = .ok (.aload_n 2, 1) := by decide +kernel
theorem dX6_knownName_17 : decode cX6_knownName 17 = .ok (.iload_n 3, 1) := by decide +kernel
theorem dX6_knownName_18 : decode cX6_knownName 18 = .ok (.aload_n 1, 1) := by decide +kernel
theorem dX6_knownName_19 : decode cX6_knownName 19 = .ok (.getfield 151, 3) := by decide +kernel
theorem tw_130 : Cond.fieldLink RX6 151 "LimpCode$Tape" "word" "J" ∈ TT := nx_mem 130 (by decide +kernel) (by decide +kernel)
theorem dX6_knownName_22 : decode cX6_knownName 22 = .ok (.invokestatic 155, 3) := by decide +kernel
theorem tw_671 : Cond.methodLink RX6 155 yX6_find ∈ TT := nx_mem 671 (by decide +kernel) (by decide +kernel)
theorem tw_672 : Cond.static yX6_find ∈ TT := nx_mem 672 (by decide +kernel) (by decide +kernel)
theorem tw_89 : Cond.initialized RX6 ∈ TT := nx_mem 89 (by decide +kernel) (by decide +kernel)
theorem tw_673 : Cond.code yX6_find cX6_find 5 (some .int) ∈ TT := nx_mem 673 (by decide +kernel) (by decide +kernel)
theorem dX6_knownName_25 : decode cX6_knownName 25 = .ok (.istore 4, 2) := by decide +kernel
theorem dX6_knownName_27 : decode cX6_knownName 27 = .ok (.iload 4, 2) := by decide +kernel
theorem dX6_knownName_29 : decode cX6_knownName 29 = .ok (.iconst (-1), 1) := by decide +kernel
theorem dX6_knownName_30 : decode cX6_knownName 30 = .ok (.if_icmp .ne 10, 3) := by decide +kernel
theorem dX6_knownName_33 : decode cX6_knownName 33 = .ok (.aload_n 0, 1) := by decide +kernel
theorem dX6_knownName_34 : decode cX6_knownName 34 = .ok (.aload_n 1, 1) := by decide +kernel
theorem dX6_knownName_35 : decode cX6_knownName 35 = .ok (.iconst 5, 1) := by decide +kernel
theorem dX6_knownName_36 : decode cX6_knownName 36 = .ok (.invokevirtual 51, 3) := by decide +kernel
theorem tw_647 : Cond.methodLink RX6 51 yX6_refuse ∈ TT := nx_mem 647 (by decide +kernel) (by decide +kernel)
theorem tw_649 : Cond.instanceMethod yX6_refuse ∈ TT := nx_mem 649 (by decide +kernel) (by decide +kernel)
theorem tw_4 : Cond.selects RX6 yX6_refuse yX6_refuse ∈ TT := nx_mem 4 (by decide +kernel) (by decide +kernel)
theorem tw_650 : Cond.code yX6_refuse cX6_refuse 3 (some .boolean) ∈ TT := nx_mem 650 (by decide +kernel) (by decide +kernel)
theorem dX6_knownName_39 : decode cX6_knownName 39 = .ok (.pop, 1) := by decide +kernel
theorem dX6_knownName_40 : decode cX6_knownName 40 = .ok (.iload 4, 2) := by decide +kernel
theorem dX6_knownName_42 : decode cX6_knownName 42 = .ok (.ireturn, 1) := by decide +kernel
theorem dX6_knownName_7 : decode cX6_knownName 7 = .ok (.aload_n 0, 1) := by decide +kernel
theorem dX6_knownName_8 : decode cX6_knownName 8 = .ok (.aload_n 1, 1) := by decide +kernel
theorem dX6_knownName_9 : decode cX6_knownName 9 = .ok (.iconst 2, 1) := by decide +kernel
theorem dX6_knownName_10 : decode cX6_knownName 10 = .ok (.invokevirtual 51, 3) := by decide +kernel
theorem dX6_knownName_13 : decode cX6_knownName 13 = .ok (.pop, 1) := by decide +kernel
theorem dX6_knownName_14 : decode cX6_knownName 14 = .ok (.iconst (-1), 1) := by decide +kernel
theorem dX6_knownName_15 : decode cX6_knownName 15 = .ok (.ireturn, 1) := by decide +kernel
theorem dX6_readNewName_0 : decode cX6_readNewName 0 = .ok (.aload_n 1, 1) := by decide +kernel
theorem dX6_readNewName_1 : decode cX6_readNewName 1 = .ok (.invokevirtual 147, 3) := by decide +kernel
theorem dX6_readNewName_4 : decode cX6_readNewName 4 = .ok (.ifCond .eq 13, 3) := by decide +kernel
theorem dX6_readNewName_17 : decode cX6_readNewName 17 = .ok (.aload_n 0, 1) := by decide +kernel
theorem dX6_readNewName_18 : decode cX6_readNewName 18 = .ok (.aload_n 1, 1) := by decide +kernel
theorem dX6_readNewName_19 : decode cX6_readNewName 19 = .ok (.iconst 2, 1) := by decide +kernel
theorem dX6_readNewName_20 : decode cX6_readNewName 20 = .ok (.invokevirtual 51, 3) := by decide +kernel
theorem dX6_readNewName_23 : decode cX6_readNewName 23 = .ok (.ireturn, 1) := by decide +kernel
theorem dX6_readNewName_7 : decode cX6_readNewName 7 = .ok (.iload_n 3, 1) := by decide +kernel
theorem dX6_readNewName_8 : decode cX6_readNewName 8 = .ok (.ifCond .lt 9, 3) := by decide +kernel
theorem dX6_readNewName_11 : decode cX6_readNewName 11 = .ok (.iload_n 3, 1) := by decide +kernel
theorem dX6_readNewName_12 : decode cX6_readNewName 12 = .ok (.aload_n 2, 1) := by decide +kernel
theorem dX6_readNewName_13 : decode cX6_readNewName 13 = .ok (.arraylength, 1) := by decide +kernel
theorem dX6_readNewName_14 : decode cX6_readNewName 14 = .ok (.if_icmp .lt 10, 3) := by decide +kernel
theorem dX6_readNewName_24 : decode cX6_readNewName 24 = .ok (.aload_n 2, 1) := by decide +kernel
theorem dX6_readNewName_25 : decode cX6_readNewName 25 = .ok (.iload_n 3, 1) := by decide +kernel
theorem dX6_readNewName_26 : decode cX6_readNewName 26 = .ok (.aload_n 1, 1) := by decide +kernel
theorem dX6_readNewName_27 : decode cX6_readNewName 27 = .ok (.getfield 151, 3) := by decide +kernel
theorem dX6_readNewName_30 : decode cX6_readNewName 30 = .ok (.invokestatic 155, 3) := by decide +kernel
theorem dX6_readNewName_33 : decode cX6_readNewName 33 = .ok (.iconst (-1), 1) := by decide +kernel
theorem dX6_readNewName_34 : decode cX6_readNewName 34 = .ok (.if_icmp .eq 10, 3) := by decide +kernel
theorem dX6_readNewName_44 : decode cX6_readNewName 44 = .ok (.aload_n 2, 1) := by decide +kernel
theorem dX6_readNewName_45 : decode cX6_readNewName 45 = .ok (.iload_n 3, 1) := by decide +kernel
theorem dX6_readNewName_46 : decode cX6_readNewName 46 = .ok (.aload_n 1, 1) := by decide +kernel
theorem dX6_readNewName_47 : decode cX6_readNewName 47 = .ok (.getfield 151, 3) := by decide +kernel
theorem dX6_readNewName_50 : decode cX6_readNewName 50 = .ok (.lastore, 1) := by decide +kernel
theorem dX6_readNewName_51 : decode cX6_readNewName 51 = .ok (.aload_n 1, 1) := by decide +kernel
theorem dX6_readNewName_52 : decode cX6_readNewName 52 = .ok (.invokevirtual 58, 3) := by decide +kernel
theorem tw_651 : Cond.methodLink RX6 58 yX9_readNext ∈ TT := nx_mem 651 (by decide +kernel) (by decide +kernel)
theorem dX6_readNewName_55 : decode cX6_readNewName 55 = .ok (.iconst 1, 1) := by decide +kernel
theorem dX6_readNewName_56 : decode cX6_readNewName 56 = .ok (.ireturn, 1) := by decide +kernel
theorem dX6_readNewName_37 : decode cX6_readNewName 37 = .ok (.aload_n 0, 1) := by decide +kernel
theorem dX6_readNewName_38 : decode cX6_readNewName 38 = .ok (.aload_n 1, 1) := by decide +kernel
theorem dX6_readNewName_39 : decode cX6_readNewName 39 = .ok (.iconst 3, 1) := by decide +kernel
theorem dX6_readNewName_40 : decode cX6_readNewName 40 = .ok (.invokevirtual 51, 3) := by decide +kernel
theorem dX6_readNewName_43 : decode cX6_readNewName 43 = .ok (.ireturn, 1) := by decide +kernel
theorem dX6_passWord_0 : decode cX6_passWord 0 = .ok (.aload_n 1, 1) := by decide +kernel
theorem dX6_passWord_1 : decode cX6_passWord 1 = .ok (.aload_n 2, 1) := by decide +kernel
theorem dX6_passWord_2 : decode cX6_passWord 2 = .ok (.invokevirtual 33, 3) := by decide +kernel
theorem tw_591 : Cond.methodLink RX6 33 yX9_isAt ∈ TT := nx_mem 591 (by decide +kernel) (by decide +kernel)
theorem dX6_passWord_5 : decode cX6_passWord 5 = .ok (.ifCond .ne 10, 3) := by decide +kernel
theorem dX6_passWord_15 : decode cX6_passWord 15 = .ok (.aload_n 1, 1) := by decide +kernel
theorem dX6_passWord_16 : decode cX6_passWord 16 = .ok (.invokevirtual 58, 3) := by decide +kernel
theorem dX6_passWord_19 : decode cX6_passWord 19 = .ok (.iconst 1, 1) := by decide +kernel
theorem dX6_passWord_20 : decode cX6_passWord 20 = .ok (.ireturn, 1) := by decide +kernel
theorem dX6_passWord_8 : decode cX6_passWord 8 = .ok (.aload_n 0, 1) := by decide +kernel
theorem dX6_passWord_9 : decode cX6_passWord 9 = .ok (.aload_n 1, 1) := by decide +kernel
theorem dX6_passWord_10 : decode cX6_passWord 10 = .ok (.iconst 2, 1) := by decide +kernel
theorem dX6_passWord_11 : decode cX6_passWord 11 = .ok (.invokevirtual 51, 3) := by decide +kernel
theorem dX6_passWord_14 : decode cX6_passWord 14 = .ok (.ireturn, 1) := by decide +kernel
theorem dX6_passNumber_0 : decode cX6_passNumber 0 = .ok (.aload_n 1, 1) := by decide +kernel
theorem dX6_passNumber_1 : decode cX6_passNumber 1 = .ok (.getfield 28, 3) := by decide +kernel
theorem dX6_passNumber_4 : decode cX6_passNumber 4 = .ok (.iconst 2, 1) := by decide +kernel
theorem dX6_passNumber_5 : decode cX6_passNumber 5 = .ok (.if_icmp .eq 10, 3) := by decide +kernel
theorem dX6_passNumber_15 : decode cX6_passNumber 15 = .ok (.aload_n 1, 1) := by decide +kernel
theorem dX6_passNumber_16 : decode cX6_passNumber 16 = .ok (.getfield 159, 3) := by decide +kernel
theorem tw_132 : Cond.fieldLink RX6 159 "LimpCode$Tape" "number" "I" ∈ TT := nx_mem 132 (by decide +kernel) (by decide +kernel)
theorem dX6_passNumber_19 : decode cX6_passNumber 19 = .ok (.iload_n 2, 1) := by decide +kernel
theorem dX6_passNumber_20 : decode cX6_passNumber 20 = .ok (.if_icmp .lt 11, 3) := by decide +kernel
theorem dX6_passNumber_31 : decode cX6_passNumber 31 = .ok (.aload_n 0, 1) := by decide +kernel
theorem dX6_passNumber_32 : decode cX6_passNumber 32 = .ok (.aload_n 1, 1) := by decide +kernel
theorem dX6_passNumber_33 : decode cX6_passNumber 33 = .ok (.iconst 4, 1) := by decide +kernel
theorem dX6_passNumber_34 : decode cX6_passNumber 34 = .ok (.invokevirtual 51, 3) := by decide +kernel
theorem dX6_passNumber_37 : decode cX6_passNumber 37 = .ok (.ireturn, 1) := by decide +kernel
theorem dX6_passNumber_23 : decode cX6_passNumber 23 = .ok (.aload_n 1, 1) := by decide +kernel
theorem dX6_passNumber_24 : decode cX6_passNumber 24 = .ok (.getfield 159, 3) := by decide +kernel
theorem dX6_passNumber_27 : decode cX6_passNumber 27 = .ok (.iload_n 3, 1) := by decide +kernel
theorem dX6_passNumber_28 : decode cX6_passNumber 28 = .ok (.if_icmp .le 10, 3) := by decide +kernel
theorem dX6_passNumber_38 : decode cX6_passNumber 38 = .ok (.aload_n 0, 1) := by decide +kernel
theorem dX6_passNumber_39 : decode cX6_passNumber 39 = .ok (.aload_n 1, 1) := by decide +kernel
theorem dX6_passNumber_40 : decode cX6_passNumber 40 = .ok (.getfield 159, 3) := by decide +kernel
theorem dX6_passNumber_43 : decode cX6_passNumber 43 = .ok (.putfield 82, 3) := by decide +kernel
theorem tw_159 : Cond.fieldLink RX6 82 "LimpCode$SchoolReader" "number" "I" ∈ TT := nx_mem 159 (by decide +kernel) (by decide +kernel)
theorem dX6_passNumber_46 : decode cX6_passNumber 46 = .ok (.aload_n 1, 1) := by decide +kernel
theorem dX6_passNumber_47 : decode cX6_passNumber 47 = .ok (.invokevirtual 58, 3) := by decide +kernel
theorem dX6_passNumber_50 : decode cX6_passNumber 50 = .ok (.iconst 1, 1) := by decide +kernel
theorem dX6_passNumber_51 : decode cX6_passNumber 51 = .ok (.ireturn, 1) := by decide +kernel
theorem dX6_passNumber_8 : decode cX6_passNumber 8 = .ok (.aload_n 0, 1) := by decide +kernel
theorem dX6_passNumber_9 : decode cX6_passNumber 9 = .ok (.aload_n 1, 1) := by decide +kernel
theorem dX6_passNumber_10 : decode cX6_passNumber 10 = .ok (.iconst 2, 1) := by decide +kernel
theorem dX6_passNumber_11 : decode cX6_passNumber 11 = .ok (.invokevirtual 51, 3) := by decide +kernel
theorem dX6_passNumber_14 : decode cX6_passNumber 14 = .ok (.ireturn, 1) := by decide +kernel
theorem dX6_passSemicolon_0 : decode cX6_passSemicolon 0 = .ok (.aload_n 1, 1) := by decide +kernel
theorem dX6_passSemicolon_1 : decode cX6_passSemicolon 1 = .ok (.getfield 28, 3) := by decide +kernel
theorem dX6_passSemicolon_4 : decode cX6_passSemicolon 4 = .ok (.iconst 3, 1) := by decide +kernel
theorem dX6_passSemicolon_5 : decode cX6_passSemicolon 5 = .ok (.if_icmp .eq 10, 3) := by decide +kernel
theorem dX6_passSemicolon_15 : decode cX6_passSemicolon 15 = .ok (.aload_n 1, 1) := by decide +kernel
theorem dX6_passSemicolon_16 : decode cX6_passSemicolon 16 = .ok (.invokevirtual 58, 3) := by decide +kernel
theorem dX6_passSemicolon_19 : decode cX6_passSemicolon 19 = .ok (.iconst 1, 1) := by decide +kernel
theorem dX6_passSemicolon_20 : decode cX6_passSemicolon 20 = .ok (.ireturn, 1) := by decide +kernel
theorem dX6_passSemicolon_8 : decode cX6_passSemicolon 8 = .ok (.aload_n 0, 1) := by decide +kernel
theorem dX6_passSemicolon_9 : decode cX6_passSemicolon 9 = .ok (.aload_n 1, 1) := by decide +kernel
theorem dX6_passSemicolon_10 : decode cX6_passSemicolon 10 = .ok (.iconst 2, 1) := by decide +kernel
theorem dX6_passSemicolon_11 : decode cX6_passSemicolon 11 = .ok (.invokevirtual 51, 3) := by decide +kernel
theorem dX6_passSemicolon_14 : decode cX6_passSemicolon 14 = .ok (.ireturn, 1) := by decide +kernel
theorem dX6_readSide_0 : decode cX6_readSide 0 = .ok (.iconst 2, 1) := by decide +kernel
theorem dX6_readSide_1 : decode cX6_readSide 1 = .ok (.istore_n 2, 1) := by decide +kernel
theorem dX6_readSide_2 : decode cX6_readSide 2 = .ok (.aload_n 1, 1) := by decide +kernel
theorem dX6_readSide_3 : decode cX6_readSide 3 = .ok (.ldc 101, 2) := by decide +kernel
theorem dX6_readSide_5 : decode cX6_readSide 5 = .ok (.invokevirtual 33, 3) := by decide +kernel
theorem dX6_readSide_8 : decode cX6_readSide 8 = .ok (.ifCond .eq 8, 3) := by decide +kernel
theorem dX6_readSide_16 : decode cX6_readSide 16 = .ok (.aload_n 1, 1) := by decide +kernel
theorem dX6_readSide_17 : decode cX6_readSide 17 = .ok (.ldc 103, 2) := by decide +kernel
theorem dX6_readSide_19 : decode cX6_readSide 19 = .ok (.invokevirtual 33, 3) := by decide +kernel
theorem dX6_readSide_22 : decode cX6_readSide 22 = .ok (.ifCond .eq 8, 3) := by decide +kernel
theorem dX6_readSide_30 : decode cX6_readSide 30 = .ok (.aload_n 1, 1) := by decide +kernel
theorem dX6_readSide_31 : decode cX6_readSide 31 = .ok (.ldc 105, 2) := by decide +kernel
theorem dX6_readSide_33 : decode cX6_readSide 33 = .ok (.invokevirtual 33, 3) := by decide +kernel
theorem dX6_readSide_36 : decode cX6_readSide 36 = .ok (.ifCond .eq 5, 3) := by decide +kernel
theorem dX6_readSide_41 : decode cX6_readSide 41 = .ok (.iload_n 2, 1) := by decide +kernel
theorem dX6_readSide_42 : decode cX6_readSide 42 = .ok (.iconst 2, 1) := by decide +kernel
theorem dX6_readSide_43 : decode cX6_readSide 43 = .ok (.if_icmp .eq 7, 3) := by decide +kernel
theorem dX6_readSide_50 : decode cX6_readSide 50 = .ok (.iload_n 2, 1) := by decide +kernel
theorem dX6_readSide_51 : decode cX6_readSide 51 = .ok (.ireturn, 1) := by decide +kernel
theorem dX6_readSide_39 : decode cX6_readSide 39 = .ok (.iconst 3, 1) := by decide +kernel
theorem dX6_readSide_40 : decode cX6_readSide 40 = .ok (.istore_n 2, 1) := by decide +kernel
theorem dX6_readSide_46 : decode cX6_readSide 46 = .ok (.aload_n 1, 1) := by decide +kernel
theorem dX6_readSide_47 : decode cX6_readSide 47 = .ok (.invokevirtual 58, 3) := by decide +kernel
theorem dX6_readSide_25 : decode cX6_readSide 25 = .ok (.iconst 1, 1) := by decide +kernel
theorem dX6_readSide_26 : decode cX6_readSide 26 = .ok (.istore_n 2, 1) := by decide +kernel
theorem dX6_readSide_27 : decode cX6_readSide 27 = .ok (.goto 14, 3) := by decide +kernel
theorem dX6_readSide_11 : decode cX6_readSide 11 = .ok (.iconst 0, 1) := by decide +kernel
theorem dX6_readSide_12 : decode cX6_readSide 12 = .ok (.istore_n 2, 1) := by decide +kernel
theorem dX6_readSide_13 : decode cX6_readSide 13 = .ok (.goto 28, 3) := by decide +kernel
theorem dX6_readStep_0 : decode cX6_readStep 0 = .ok (.aload_n 2, 1) := by decide +kernel
theorem dX6_readStep_1 : decode cX6_readStep 1 = .ok (.getfield 55, 3) := by decide +kernel
theorem tw_219 : Cond.fieldLink RX6 55 "LimpCode$School" "stepCount" "I" ∈ TT := nx_mem 219 (by decide +kernel) (by decide +kernel)
theorem dX6_readStep_4 : decode cX6_readStep 4 = .ok (.istore_n 3, 1) := by decide +kernel
theorem dX6_readStep_5 : decode cX6_readStep 5 = .ok (.iload_n 3, 1) := by decide +kernel
theorem dX6_readStep_6 : decode cX6_readStep 6 = .ok (.bipush 6, 2) := by decide +kernel
theorem dX6_readStep_8 : decode cX6_readStep 8 = .ok (.if_icmp .lt 10, 3) := by decide +kernel
theorem dX6_readStep_18 : decode cX6_readStep 18 = .ok (.aload_n 1, 1) := by decide +kernel
theorem dX6_readStep_19 : decode cX6_readStep 19 = .ok (.invokevirtual 58, 3) := by decide +kernel
theorem dX6_readStep_22 : decode cX6_readStep 22 = .ok (.aload_n 0, 1) := by decide +kernel
theorem dX6_readStep_23 : decode cX6_readStep 23 = .ok (.aload_n 1, 1) := by decide +kernel
theorem dX6_readStep_24 : decode cX6_readStep 24 = .ok (.aload_n 2, 1) := by decide +kernel
theorem dX6_readStep_25 : decode cX6_readStep 25 = .ok (.getfield 61, 3) := by decide +kernel
theorem tw_176 : Cond.fieldLink RX6 61 "LimpCode$School" "stepNames" "[J" ∈ TT := nx_mem 176 (by decide +kernel) (by decide +kernel)
theorem dX6_readStep_28 : decode cX6_readStep 28 = .ok (.iload_n 3, 1) := by decide +kernel
theorem dX6_readStep_29 : decode cX6_readStep 29 = .ok (.invokevirtual 65, 3) := by decide +kernel
theorem tw_652 : Cond.methodLink RX6 65 yX6_readNewName ∈ TT := nx_mem 652 (by decide +kernel) (by decide +kernel)
theorem tw_654 : Cond.instanceMethod yX6_readNewName ∈ TT := nx_mem 654 (by decide +kernel) (by decide +kernel)
theorem tw_5 : Cond.selects RX6 yX6_readNewName yX6_readNewName ∈ TT := nx_mem 5 (by decide +kernel) (by decide +kernel)
theorem tw_655 : Cond.code yX6_readNewName cX6_readNewName 4 (some .boolean) ∈ TT := nx_mem 655 (by decide +kernel) (by decide +kernel)
theorem dX6_readStep_32 : decode cX6_readStep 32 = .ok (.ifCond .ne 5, 3) := by decide +kernel
theorem dX6_readStep_37 : decode cX6_readStep 37 = .ok (.aload_n 0, 1) := by decide +kernel
theorem dX6_readStep_38 : decode cX6_readStep 38 = .ok (.aload_n 1, 1) := by decide +kernel
theorem dX6_readStep_39 : decode cX6_readStep 39 = .ok (.ldc 69, 2) := by decide +kernel
theorem dX6_readStep_41 : decode cX6_readStep 41 = .ok (.invokevirtual 71, 3) := by decide +kernel
theorem tw_675 : Cond.methodLink RX6 71 yX6_passWord ∈ TT := nx_mem 675 (by decide +kernel) (by decide +kernel)
theorem tw_677 : Cond.instanceMethod yX6_passWord ∈ TT := nx_mem 677 (by decide +kernel) (by decide +kernel)
theorem tw_6 : Cond.selects RX6 yX6_passWord yX6_passWord ∈ TT := nx_mem 6 (by decide +kernel) (by decide +kernel)
theorem tw_678 : Cond.code yX6_passWord cX6_passWord 3 (some .boolean) ∈ TT := nx_mem 678 (by decide +kernel) (by decide +kernel)
theorem dX6_readStep_44 : decode cX6_readStep 44 = .ok (.ifCond .eq 14, 3) := by decide +kernel
theorem dX6_readStep_58 : decode cX6_readStep 58 = .ok (.iconst 0, 1) := by decide +kernel
theorem dX6_readStep_59 : decode cX6_readStep 59 = .ok (.ireturn, 1) := by decide +kernel
theorem dX6_readStep_47 : decode cX6_readStep 47 = .ok (.aload_n 0, 1) := by decide +kernel
theorem dX6_readStep_48 : decode cX6_readStep 48 = .ok (.aload_n 1, 1) := by decide +kernel
theorem dX6_readStep_49 : decode cX6_readStep 49 = .ok (.iconst 1, 1) := by decide +kernel
theorem dX6_readStep_50 : decode cX6_readStep 50 = .ok (.bipush 9, 2) := by decide +kernel
theorem dX6_readStep_52 : decode cX6_readStep 52 = .ok (.invokevirtual 75, 3) := by decide +kernel
theorem tw_679 : Cond.methodLink RX6 75 yX6_passNumber ∈ TT := nx_mem 679 (by decide +kernel) (by decide +kernel)
theorem tw_681 : Cond.instanceMethod yX6_passNumber ∈ TT := nx_mem 681 (by decide +kernel) (by decide +kernel)
theorem tw_7 : Cond.selects RX6 yX6_passNumber yX6_passNumber ∈ TT := nx_mem 7 (by decide +kernel) (by decide +kernel)
theorem tw_682 : Cond.code yX6_passNumber cX6_passNumber 4 (some .boolean) ∈ TT := nx_mem 682 (by decide +kernel) (by decide +kernel)
theorem dX6_readStep_55 : decode cX6_readStep 55 = .ok (.ifCond .ne 5, 3) := by decide +kernel
theorem dX6_readStep_60 : decode cX6_readStep 60 = .ok (.aload_n 2, 1) := by decide +kernel
theorem dX6_readStep_61 : decode cX6_readStep 61 = .ok (.getfield 79, 3) := by decide +kernel
theorem tw_178 : Cond.fieldLink RX6 79 "LimpCode$School" "takes" "[I" ∈ TT := nx_mem 178 (by decide +kernel) (by decide +kernel)
theorem dX6_readStep_64 : decode cX6_readStep 64 = .ok (.iload_n 3, 1) := by decide +kernel
theorem dX6_readStep_65 : decode cX6_readStep 65 = .ok (.aload_n 0, 1) := by decide +kernel
theorem dX6_readStep_66 : decode cX6_readStep 66 = .ok (.getfield 82, 3) := by decide +kernel
theorem dX6_readStep_69 : decode cX6_readStep 69 = .ok (.iastore, 1) := by decide +kernel
theorem dX6_readStep_70 : decode cX6_readStep 70 = .ok (.aload_n 0, 1) := by decide +kernel
theorem dX6_readStep_71 : decode cX6_readStep 71 = .ok (.aload_n 1, 1) := by decide +kernel
theorem dX6_readStep_72 : decode cX6_readStep 72 = .ok (.ldc 85, 2) := by decide +kernel
theorem dX6_readStep_74 : decode cX6_readStep 74 = .ok (.invokevirtual 71, 3) := by decide +kernel
theorem dX6_readStep_77 : decode cX6_readStep 77 = .ok (.ifCond .eq 14, 3) := by decide +kernel
theorem dX6_readStep_91 : decode cX6_readStep 91 = .ok (.iconst 0, 1) := by decide +kernel
theorem dX6_readStep_92 : decode cX6_readStep 92 = .ok (.ireturn, 1) := by decide +kernel
theorem dX6_readStep_80 : decode cX6_readStep 80 = .ok (.aload_n 0, 1) := by decide +kernel
theorem dX6_readStep_81 : decode cX6_readStep 81 = .ok (.aload_n 1, 1) := by decide +kernel
theorem dX6_readStep_82 : decode cX6_readStep 82 = .ok (.iconst 0, 1) := by decide +kernel
theorem dX6_readStep_83 : decode cX6_readStep 83 = .ok (.bipush 9, 2) := by decide +kernel
theorem dX6_readStep_85 : decode cX6_readStep 85 = .ok (.invokevirtual 75, 3) := by decide +kernel
theorem dX6_readStep_88 : decode cX6_readStep 88 = .ok (.ifCond .ne 5, 3) := by decide +kernel
theorem dX6_readStep_93 : decode cX6_readStep 93 = .ok (.aload_n 2, 1) := by decide +kernel
theorem dX6_readStep_94 : decode cX6_readStep 94 = .ok (.getfield 87, 3) := by decide +kernel
theorem tw_184 : Cond.fieldLink RX6 87 "LimpCode$School" "toldLoud" "[I" ∈ TT := nx_mem 184 (by decide +kernel) (by decide +kernel)
theorem dX6_readStep_97 : decode cX6_readStep 97 = .ok (.iload_n 3, 1) := by decide +kernel
theorem dX6_readStep_98 : decode cX6_readStep 98 = .ok (.aload_n 0, 1) := by decide +kernel
theorem dX6_readStep_99 : decode cX6_readStep 99 = .ok (.getfield 82, 3) := by decide +kernel
theorem dX6_readStep_102 : decode cX6_readStep 102 = .ok (.iastore, 1) := by decide +kernel
theorem dX6_readStep_103 : decode cX6_readStep 103 = .ok (.aload_n 2, 1) := by decide +kernel
theorem dX6_readStep_104 : decode cX6_readStep 104 = .ok (.getfield 90, 3) := by decide +kernel
theorem tw_187 : Cond.fieldLink RX6 90 "LimpCode$School" "sides" "[I" ∈ TT := nx_mem 187 (by decide +kernel) (by decide +kernel)
theorem dX6_readStep_107 : decode cX6_readStep 107 = .ok (.iload_n 3, 1) := by decide +kernel
theorem dX6_readStep_108 : decode cX6_readStep 108 = .ok (.aload_n 0, 1) := by decide +kernel
theorem dX6_readStep_109 : decode cX6_readStep 109 = .ok (.aload_n 1, 1) := by decide +kernel
theorem dX6_readStep_110 : decode cX6_readStep 110 = .ok (.invokevirtual 93, 3) := by decide +kernel
theorem tw_684 : Cond.methodLink RX6 93 yX6_readSide ∈ TT := nx_mem 684 (by decide +kernel) (by decide +kernel)
theorem tw_686 : Cond.instanceMethod yX6_readSide ∈ TT := nx_mem 686 (by decide +kernel) (by decide +kernel)
theorem tw_8 : Cond.selects RX6 yX6_readSide yX6_readSide ∈ TT := nx_mem 8 (by decide +kernel) (by decide +kernel)
theorem tw_687 : Cond.code yX6_readSide cX6_readSide 3 (some .int) ∈ TT := nx_mem 687 (by decide +kernel) (by decide +kernel)
theorem dX6_readStep_113 : decode cX6_readStep 113 = .ok (.iastore, 1) := by decide +kernel
theorem dX6_readStep_114 : decode cX6_readStep 114 = .ok (.aload_n 2, 1) := by decide +kernel
theorem dX6_readStep_115 : decode cX6_readStep 115 = .ok (.iload_n 3, 1) := by decide +kernel
theorem dX6_readStep_116 : decode cX6_readStep 116 = .ok (.iconst 1, 1) := by decide +kernel
theorem dX6_readStep_117 : decode cX6_readStep 117 = .ok (.iadd, 1) := by decide +kernel
theorem dX6_readStep_118 : decode cX6_readStep 118 = .ok (.putfield 55, 3) := by decide +kernel
theorem dX6_readStep_121 : decode cX6_readStep 121 = .ok (.aload_n 0, 1) := by decide +kernel
theorem dX6_readStep_122 : decode cX6_readStep 122 = .ok (.aload_n 1, 1) := by decide +kernel
theorem dX6_readStep_123 : decode cX6_readStep 123 = .ok (.invokevirtual 97, 3) := by decide +kernel
theorem tw_691 : Cond.methodLink RX6 97 yX6_passSemicolon ∈ TT := nx_mem 691 (by decide +kernel) (by decide +kernel)
theorem tw_693 : Cond.instanceMethod yX6_passSemicolon ∈ TT := nx_mem 693 (by decide +kernel) (by decide +kernel)
theorem tw_9 : Cond.selects RX6 yX6_passSemicolon yX6_passSemicolon ∈ TT := nx_mem 9 (by decide +kernel) (by decide +kernel)
theorem tw_694 : Cond.code yX6_passSemicolon cX6_passSemicolon 2 (some .boolean) ∈ TT := nx_mem 694 (by decide +kernel) (by decide +kernel)
theorem dX6_readStep_126 : decode cX6_readStep 126 = .ok (.ireturn, 1) := by decide +kernel
theorem dX6_readStep_35 : decode cX6_readStep 35 = .ok (.iconst 0, 1) := by decide +kernel
theorem dX6_readStep_36 : decode cX6_readStep 36 = .ok (.ireturn, 1) := by decide +kernel
theorem dX6_readStep_11 : decode cX6_readStep 11 = .ok (.aload_n 0, 1) := by decide +kernel
theorem dX6_readStep_12 : decode cX6_readStep 12 = .ok (.aload_n 1, 1) := by decide +kernel
theorem dX6_readStep_13 : decode cX6_readStep 13 = .ok (.iconst 2, 1) := by decide +kernel
theorem dX6_readStep_14 : decode cX6_readStep 14 = .ok (.invokevirtual 51, 3) := by decide +kernel
theorem dX6_readStep_17 : decode cX6_readStep 17 = .ok (.ireturn, 1) := by decide +kernel
theorem dX6_readLetter_0 : decode cX6_readLetter 0 = .ok (.aload_n 2, 1) := by decide +kernel
theorem dX6_readLetter_1 : decode cX6_readLetter 1 = .ok (.getfield 107, 3) := by decide +kernel
theorem tw_226 : Cond.fieldLink RX6 107 "LimpCode$School" "letterCount" "I" ∈ TT := nx_mem 226 (by decide +kernel) (by decide +kernel)
theorem dX6_readLetter_4 : decode cX6_readLetter 4 = .ok (.istore_n 3, 1) := by decide +kernel
theorem dX6_readLetter_5 : decode cX6_readLetter 5 = .ok (.iload_n 3, 1) := by decide +kernel
theorem dX6_readLetter_6 : decode cX6_readLetter 6 = .ok (.bipush 10, 2) := by decide +kernel
theorem dX6_readLetter_8 : decode cX6_readLetter 8 = .ok (.if_icmp .lt 10, 3) := by decide +kernel
theorem dX6_readLetter_18 : decode cX6_readLetter 18 = .ok (.aload_n 1, 1) := by decide +kernel
theorem dX6_readLetter_19 : decode cX6_readLetter 19 = .ok (.invokevirtual 58, 3) := by decide +kernel
theorem dX6_readLetter_22 : decode cX6_readLetter 22 = .ok (.aload_n 0, 1) := by decide +kernel
theorem dX6_readLetter_23 : decode cX6_readLetter 23 = .ok (.aload_n 1, 1) := by decide +kernel
theorem dX6_readLetter_24 : decode cX6_readLetter 24 = .ok (.aload_n 2, 1) := by decide +kernel
theorem dX6_readLetter_25 : decode cX6_readLetter 25 = .ok (.getfield 110, 3) := by decide +kernel
theorem tw_190 : Cond.fieldLink RX6 110 "LimpCode$School" "letterNames" "[J" ∈ TT := nx_mem 190 (by decide +kernel) (by decide +kernel)
theorem dX6_readLetter_28 : decode cX6_readLetter 28 = .ok (.iload_n 3, 1) := by decide +kernel
theorem dX6_readLetter_29 : decode cX6_readLetter 29 = .ok (.invokevirtual 65, 3) := by decide +kernel
theorem dX6_readLetter_32 : decode cX6_readLetter 32 = .ok (.ifCond .ne 5, 3) := by decide +kernel
theorem dX6_readLetter_37 : decode cX6_readLetter 37 = .ok (.iconst 0, 1) := by decide +kernel
theorem dX6_readLetter_38 : decode cX6_readLetter 38 = .ok (.istore 4, 2) := by decide +kernel
theorem dX6_readLetter_40 : decode cX6_readLetter 40 = .ok (.iload 4, 2) := by decide +kernel
theorem dX6_readLetter_42 : decode cX6_readLetter 42 = .ok (.iconst 5, 1) := by decide +kernel
theorem dX6_readLetter_43 : decode cX6_readLetter 43 = .ok (.if_icmp .ge 60, 3) := by decide +kernel
theorem dX6_readLetter_46 : decode cX6_readLetter 46 = .ok (.iload 4, 2) := by decide +kernel
theorem dX6_readLetter_48 : decode cX6_readLetter 48 = .ok (.ifCond .eq 11, 3) := by decide +kernel
theorem dX6_readLetter_59 : decode cX6_readLetter 59 = .ok (.aload_n 0, 1) := by decide +kernel
theorem dX6_readLetter_60 : decode cX6_readLetter 60 = .ok (.aload_n 1, 1) := by decide +kernel
theorem dX6_readLetter_61 : decode cX6_readLetter 61 = .ok (.aload_n 2, 1) := by decide +kernel
theorem dX6_readLetter_62 : decode cX6_readLetter 62 = .ok (.getfield 61, 3) := by decide +kernel
theorem dX6_readLetter_65 : decode cX6_readLetter 65 = .ok (.aload_n 2, 1) := by decide +kernel
theorem dX6_readLetter_66 : decode cX6_readLetter 66 = .ok (.getfield 55, 3) := by decide +kernel
theorem dX6_readLetter_69 : decode cX6_readLetter 69 = .ok (.invokevirtual 113, 3) := by decide +kernel
theorem tw_700 : Cond.methodLink RX6 113 yX6_knownName ∈ TT := nx_mem 700 (by decide +kernel) (by decide +kernel)
theorem tw_702 : Cond.instanceMethod yX6_knownName ∈ TT := nx_mem 702 (by decide +kernel) (by decide +kernel)
theorem tw_11 : Cond.selects RX6 yX6_knownName yX6_knownName ∈ TT := nx_mem 11 (by decide +kernel) (by decide +kernel)
theorem tw_703 : Cond.code yX6_knownName cX6_knownName 5 (some .int) ∈ TT := nx_mem 703 (by decide +kernel) (by decide +kernel)
theorem dX6_readLetter_72 : decode cX6_readLetter 72 = .ok (.istore 5, 2) := by decide +kernel
theorem dX6_readLetter_74 : decode cX6_readLetter 74 = .ok (.iload 5, 2) := by decide +kernel
theorem dX6_readLetter_76 : decode cX6_readLetter 76 = .ok (.iconst (-1), 1) := by decide +kernel
theorem dX6_readLetter_77 : decode cX6_readLetter 77 = .ok (.if_icmp .ne 5, 3) := by decide +kernel
theorem dX6_readLetter_80 : decode cX6_readLetter 80 = .ok (.iconst 0, 1) := by decide +kernel
theorem dX6_readLetter_81 : decode cX6_readLetter 81 = .ok (.ireturn, 1) := by decide +kernel
theorem dX6_readLetter_82 : decode cX6_readLetter 82 = .ok (.aload_n 1, 1) := by decide +kernel
theorem dX6_readLetter_83 : decode cX6_readLetter 83 = .ok (.invokevirtual 58, 3) := by decide +kernel
theorem dX6_readLetter_86 : decode cX6_readLetter 86 = .ok (.aload_n 2, 1) := by decide +kernel
theorem dX6_readLetter_87 : decode cX6_readLetter 87 = .ok (.getfield 117, 3) := by decide +kernel
theorem tw_196 : Cond.fieldLink RX6 117 "LimpCode$School" "letterRows" "[[I" ∈ TT := nx_mem 196 (by decide +kernel) (by decide +kernel)
theorem dX6_readLetter_90 : decode cX6_readLetter 90 = .ok (.iload_n 3, 1) := by decide +kernel
theorem dX6_readLetter_91 : decode cX6_readLetter 91 = .ok (.aaload, 1) := by decide +kernel
theorem dX6_readLetter_92 : decode cX6_readLetter 92 = .ok (.iload 4, 2) := by decide +kernel
theorem dX6_readLetter_94 : decode cX6_readLetter 94 = .ok (.iload 5, 2) := by decide +kernel
theorem dX6_readLetter_96 : decode cX6_readLetter 96 = .ok (.iastore, 1) := by decide +kernel
theorem dX6_readLetter_97 : decode cX6_readLetter 97 = .ok (.iinc 4 1, 3) := by decide +kernel
theorem dX6_readLetter_100 : decode cX6_readLetter 100 = .ok (.goto (-60), 3) := by decide +kernel
theorem dX6_readLetter_103 : decode cX6_readLetter 103 = .ok (.aload_n 2, 1) := by decide +kernel
theorem dX6_readLetter_104 : decode cX6_readLetter 104 = .ok (.getfield 121, 3) := by decide +kernel
theorem tw_192 : Cond.fieldLink RX6 121 "LimpCode$School" "letterSizes" "[I" ∈ TT := nx_mem 192 (by decide +kernel) (by decide +kernel)
theorem dX6_readLetter_107 : decode cX6_readLetter 107 = .ok (.iload_n 3, 1) := by decide +kernel
theorem dX6_readLetter_108 : decode cX6_readLetter 108 = .ok (.iload 4, 2) := by decide +kernel
theorem dX6_readLetter_110 : decode cX6_readLetter 110 = .ok (.iastore, 1) := by decide +kernel
theorem dX6_readLetter_111 : decode cX6_readLetter 111 = .ok (.aload_n 2, 1) := by decide +kernel
theorem dX6_readLetter_112 : decode cX6_readLetter 112 = .ok (.iload_n 3, 1) := by decide +kernel
theorem dX6_readLetter_113 : decode cX6_readLetter 113 = .ok (.invokevirtual 124, 3) := by decide +kernel
theorem tw_704 : Cond.methodLink RX6 124 yX5_measureLetter ∈ TT := nx_mem 704 (by decide +kernel) (by decide +kernel)
theorem tw_705 : Cond.instanceMethod yX5_measureLetter ∈ TT := nx_mem 705 (by decide +kernel) (by decide +kernel)
theorem tw_706 : Cond.selects RX5 yX5_measureLetter yX5_measureLetter ∈ TT := nx_mem 706 (by decide +kernel) (by decide +kernel)
theorem tw_707 : Cond.code yX5_measureLetter cX5_measureLetter 7 none ∈ TT := nx_mem 707 (by decide +kernel) (by decide +kernel)
theorem dX6_readLetter_116 : decode cX6_readLetter 116 = .ok (.aload_n 2, 1) := by decide +kernel
theorem dX6_readLetter_117 : decode cX6_readLetter 117 = .ok (.iload_n 3, 1) := by decide +kernel
theorem dX6_readLetter_118 : decode cX6_readLetter 118 = .ok (.iconst 1, 1) := by decide +kernel
theorem dX6_readLetter_119 : decode cX6_readLetter 119 = .ok (.iadd, 1) := by decide +kernel
theorem dX6_readLetter_120 : decode cX6_readLetter 120 = .ok (.putfield 107, 3) := by decide +kernel
theorem dX6_readLetter_123 : decode cX6_readLetter 123 = .ok (.aload_n 0, 1) := by decide +kernel
theorem dX6_readLetter_124 : decode cX6_readLetter 124 = .ok (.aload_n 1, 1) := by decide +kernel
theorem dX6_readLetter_125 : decode cX6_readLetter 125 = .ok (.invokevirtual 97, 3) := by decide +kernel
theorem dX6_readLetter_128 : decode cX6_readLetter 128 = .ok (.ireturn, 1) := by decide +kernel
theorem dX6_readLetter_51 : decode cX6_readLetter 51 = .ok (.aload_n 1, 1) := by decide +kernel
theorem dX6_readLetter_52 : decode cX6_readLetter 52 = .ok (.getfield 28, 3) := by decide +kernel
theorem dX6_readLetter_55 : decode cX6_readLetter 55 = .ok (.iconst 3, 1) := by decide +kernel
theorem dX6_readLetter_56 : decode cX6_readLetter 56 = .ok (.if_icmp .eq 47, 3) := by decide +kernel
theorem dX6_readLetter_35 : decode cX6_readLetter 35 = .ok (.iconst 0, 1) := by decide +kernel
theorem dX6_readLetter_36 : decode cX6_readLetter 36 = .ok (.ireturn, 1) := by decide +kernel
theorem dX6_readLetter_11 : decode cX6_readLetter 11 = .ok (.aload_n 0, 1) := by decide +kernel
theorem dX6_readLetter_12 : decode cX6_readLetter 12 = .ok (.aload_n 1, 1) := by decide +kernel
theorem dX6_readLetter_13 : decode cX6_readLetter 13 = .ok (.iconst 2, 1) := by decide +kernel
theorem dX6_readLetter_14 : decode cX6_readLetter 14 = .ok (.invokevirtual 51, 3) := by decide +kernel
theorem dX6_readLetter_17 : decode cX6_readLetter 17 = .ok (.ireturn, 1) := by decide +kernel
theorem dX6_readBook_0 : decode cX6_readBook 0 = .ok (.iconst 0, 1) := by decide +kernel
theorem dX6_readBook_1 : decode cX6_readBook 1 = .ok (.istore_n 3, 1) := by decide +kernel
theorem dX6_readBook_2 : decode cX6_readBook 2 = .ok (.iconst 0, 1) := by decide +kernel
theorem dX6_readBook_3 : decode cX6_readBook 3 = .ok (.istore 4, 2) := by decide +kernel
theorem dX6_readBook_5 : decode cX6_readBook 5 = .ok (.iload 4, 2) := by decide +kernel
theorem dX6_readBook_7 : decode cX6_readBook 7 = .ok (.bipush 10, 2) := by decide +kernel
theorem dX6_readBook_9 : decode cX6_readBook 9 = .ok (.if_icmp .gt 76, 3) := by decide +kernel
theorem dX6_readBook_12 : decode cX6_readBook 12 = .ok (.iload_n 3, 1) := by decide +kernel
theorem dX6_readBook_13 : decode cX6_readBook 13 = .ok (.ifCond .eq 13, 3) := by decide +kernel
theorem dX6_readBook_26 : decode cX6_readBook 26 = .ok (.aload_n 0, 1) := by decide +kernel
theorem dX6_readBook_27 : decode cX6_readBook 27 = .ok (.aload_n 1, 1) := by decide +kernel
theorem dX6_readBook_28 : decode cX6_readBook 28 = .ok (.aload_n 2, 1) := by decide +kernel
theorem dX6_readBook_29 : decode cX6_readBook 29 = .ok (.getfield 110, 3) := by decide +kernel
theorem dX6_readBook_32 : decode cX6_readBook 32 = .ok (.aload_n 2, 1) := by decide +kernel
theorem dX6_readBook_33 : decode cX6_readBook 33 = .ok (.getfield 107, 3) := by decide +kernel
theorem dX6_readBook_36 : decode cX6_readBook 36 = .ok (.invokevirtual 113, 3) := by decide +kernel
theorem dX6_readBook_39 : decode cX6_readBook 39 = .ok (.istore 5, 2) := by decide +kernel
theorem dX6_readBook_41 : decode cX6_readBook 41 = .ok (.iload 5, 2) := by decide +kernel
theorem dX6_readBook_43 : decode cX6_readBook 43 = .ok (.iconst (-1), 1) := by decide +kernel
theorem dX6_readBook_44 : decode cX6_readBook 44 = .ok (.if_icmp .ne 5, 3) := by decide +kernel
theorem dX6_readBook_47 : decode cX6_readBook 47 = .ok (.iconst (-1), 1) := by decide +kernel
theorem dX6_readBook_48 : decode cX6_readBook 48 = .ok (.ireturn, 1) := by decide +kernel
theorem dX6_readBook_49 : decode cX6_readBook 49 = .ok (.iload_n 3, 1) := by decide +kernel
theorem dX6_readBook_50 : decode cX6_readBook 50 = .ok (.iload 5, 2) := by decide +kernel
theorem dX6_readBook_52 : decode cX6_readBook 52 = .ok (.ishr, 1) := by decide +kernel
theorem dX6_readBook_53 : decode cX6_readBook 53 = .ok (.iconst 1, 1) := by decide +kernel
theorem dX6_readBook_54 : decode cX6_readBook 54 = .ok (.iand, 1) := by decide +kernel
theorem dX6_readBook_55 : decode cX6_readBook 55 = .ok (.iconst 1, 1) := by decide +kernel
theorem dX6_readBook_56 : decode cX6_readBook 56 = .ok (.if_icmp .ne 12, 3) := by decide +kernel
theorem dX6_readBook_68 : decode cX6_readBook 68 = .ok (.aload_n 1, 1) := by decide +kernel
theorem dX6_readBook_69 : decode cX6_readBook 69 = .ok (.invokevirtual 58, 3) := by decide +kernel
theorem dX6_readBook_72 : decode cX6_readBook 72 = .ok (.iload_n 3, 1) := by decide +kernel
theorem dX6_readBook_73 : decode cX6_readBook 73 = .ok (.iconst 1, 1) := by decide +kernel
theorem dX6_readBook_74 : decode cX6_readBook 74 = .ok (.iload 5, 2) := by decide +kernel
theorem dX6_readBook_76 : decode cX6_readBook 76 = .ok (.ishl, 1) := by decide +kernel
theorem dX6_readBook_77 : decode cX6_readBook 77 = .ok (.ior, 1) := by decide +kernel
theorem dX6_readBook_78 : decode cX6_readBook 78 = .ok (.istore_n 3, 1) := by decide +kernel
theorem dX6_readBook_79 : decode cX6_readBook 79 = .ok (.iinc 4 1, 3) := by decide +kernel
theorem dX6_readBook_82 : decode cX6_readBook 82 = .ok (.goto (-77), 3) := by decide +kernel
theorem dX6_readBook_59 : decode cX6_readBook 59 = .ok (.aload_n 0, 1) := by decide +kernel
theorem dX6_readBook_60 : decode cX6_readBook 60 = .ok (.aload_n 1, 1) := by decide +kernel
theorem dX6_readBook_61 : decode cX6_readBook 61 = .ok (.iconst 3, 1) := by decide +kernel
theorem dX6_readBook_62 : decode cX6_readBook 62 = .ok (.invokevirtual 51, 3) := by decide +kernel
theorem dX6_readBook_65 : decode cX6_readBook 65 = .ok (.pop, 1) := by decide +kernel
theorem dX6_readBook_66 : decode cX6_readBook 66 = .ok (.iconst (-1), 1) := by decide +kernel
theorem dX6_readBook_67 : decode cX6_readBook 67 = .ok (.ireturn, 1) := by decide +kernel
theorem dX6_readBook_85 : decode cX6_readBook 85 = .ok (.iload_n 3, 1) := by decide +kernel
theorem dX6_readBook_86 : decode cX6_readBook 86 = .ok (.ireturn, 1) := by decide +kernel
theorem dX6_readBook_16 : decode cX6_readBook 16 = .ok (.aload_n 1, 1) := by decide +kernel
theorem dX6_readBook_17 : decode cX6_readBook 17 = .ok (.getfield 28, 3) := by decide +kernel
theorem dX6_readBook_20 : decode cX6_readBook 20 = .ok (.iconst 3, 1) := by decide +kernel
theorem dX6_readBook_21 : decode cX6_readBook 21 = .ok (.if_icmp .ne 5, 3) := by decide +kernel
theorem dX6_readBook_24 : decode cX6_readBook 24 = .ok (.iload_n 3, 1) := by decide +kernel
theorem dX6_readBook_25 : decode cX6_readBook 25 = .ok (.ireturn, 1) := by decide +kernel
theorem dX6_readEar_0 : decode cX6_readEar 0 = .ok (.aload_n 2, 1) := by decide +kernel
theorem dX6_readEar_1 : decode cX6_readEar 1 = .ok (.getfield 128, 3) := by decide +kernel
theorem tw_229 : Cond.fieldLink RX6 128 "LimpCode$School" "earCount" "I" ∈ TT := nx_mem 229 (by decide +kernel) (by decide +kernel)
theorem dX6_readEar_4 : decode cX6_readEar 4 = .ok (.istore_n 3, 1) := by decide +kernel
theorem dX6_readEar_5 : decode cX6_readEar 5 = .ok (.iload_n 3, 1) := by decide +kernel
theorem dX6_readEar_6 : decode cX6_readEar 6 = .ok (.iconst 4, 1) := by decide +kernel
theorem dX6_readEar_7 : decode cX6_readEar 7 = .ok (.if_icmp .lt 10, 3) := by decide +kernel
theorem dX6_readEar_17 : decode cX6_readEar 17 = .ok (.aload_n 1, 1) := by decide +kernel
theorem dX6_readEar_18 : decode cX6_readEar 18 = .ok (.invokevirtual 58, 3) := by decide +kernel
theorem dX6_readEar_21 : decode cX6_readEar 21 = .ok (.aload_n 0, 1) := by decide +kernel
theorem dX6_readEar_22 : decode cX6_readEar 22 = .ok (.aload_n 1, 1) := by decide +kernel
theorem dX6_readEar_23 : decode cX6_readEar 23 = .ok (.aload_n 2, 1) := by decide +kernel
theorem dX6_readEar_24 : decode cX6_readEar 24 = .ok (.getfield 131, 3) := by decide +kernel
theorem tw_210 : Cond.fieldLink RX6 131 "LimpCode$School" "earNames" "[J" ∈ TT := nx_mem 210 (by decide +kernel) (by decide +kernel)
theorem dX6_readEar_27 : decode cX6_readEar 27 = .ok (.iload_n 3, 1) := by decide +kernel
theorem dX6_readEar_28 : decode cX6_readEar 28 = .ok (.invokevirtual 65, 3) := by decide +kernel
theorem dX6_readEar_31 : decode cX6_readEar 31 = .ok (.ifCond .ne 5, 3) := by decide +kernel
theorem dX6_readEar_36 : decode cX6_readEar 36 = .ok (.aload_n 0, 1) := by decide +kernel
theorem dX6_readEar_37 : decode cX6_readEar 37 = .ok (.aload_n 1, 1) := by decide +kernel
theorem dX6_readEar_38 : decode cX6_readEar 38 = .ok (.ldc 134, 2) := by decide +kernel
theorem dX6_readEar_40 : decode cX6_readEar 40 = .ok (.invokevirtual 71, 3) := by decide +kernel
theorem dX6_readEar_43 : decode cX6_readEar 43 = .ok (.ifCond .eq 14, 3) := by decide +kernel
theorem dX6_readEar_57 : decode cX6_readEar 57 = .ok (.iconst 0, 1) := by decide +kernel
theorem dX6_readEar_58 : decode cX6_readEar 58 = .ok (.ireturn, 1) := by decide +kernel
theorem dX6_readEar_46 : decode cX6_readEar 46 = .ok (.aload_n 0, 1) := by decide +kernel
theorem dX6_readEar_47 : decode cX6_readEar 47 = .ok (.aload_n 1, 1) := by decide +kernel
theorem dX6_readEar_48 : decode cX6_readEar 48 = .ok (.iconst 0, 1) := by decide +kernel
theorem dX6_readEar_49 : decode cX6_readEar 49 = .ok (.bipush 9, 2) := by decide +kernel
theorem dX6_readEar_51 : decode cX6_readEar 51 = .ok (.invokevirtual 75, 3) := by decide +kernel
theorem dX6_readEar_54 : decode cX6_readEar 54 = .ok (.ifCond .ne 5, 3) := by decide +kernel
theorem dX6_readEar_59 : decode cX6_readEar 59 = .ok (.aload_n 2, 1) := by decide +kernel
theorem dX6_readEar_60 : decode cX6_readEar 60 = .ok (.getfield 136, 3) := by decide +kernel
theorem tw_212 : Cond.fieldLink RX6 136 "LimpCode$School" "floors" "[I" ∈ TT := nx_mem 212 (by decide +kernel) (by decide +kernel)
theorem dX6_readEar_63 : decode cX6_readEar 63 = .ok (.iload_n 3, 1) := by decide +kernel
theorem dX6_readEar_64 : decode cX6_readEar 64 = .ok (.aload_n 0, 1) := by decide +kernel
theorem dX6_readEar_65 : decode cX6_readEar 65 = .ok (.getfield 82, 3) := by decide +kernel
theorem dX6_readEar_68 : decode cX6_readEar 68 = .ok (.iastore, 1) := by decide +kernel
theorem dX6_readEar_69 : decode cX6_readEar 69 = .ok (.aload_n 2, 1) := by decide +kernel
theorem dX6_readEar_70 : decode cX6_readEar 70 = .ok (.getfield 138, 3) := by decide +kernel
theorem tw_215 : Cond.fieldLink RX6 138 "LimpCode$School" "books" "[I" ∈ TT := nx_mem 215 (by decide +kernel) (by decide +kernel)
theorem dX6_readEar_73 : decode cX6_readEar 73 = .ok (.iload_n 3, 1) := by decide +kernel
theorem dX6_readEar_74 : decode cX6_readEar 74 = .ok (.sipush 1023, 3) := by decide +kernel
theorem dX6_readEar_77 : decode cX6_readEar 77 = .ok (.iastore, 1) := by decide +kernel
theorem dX6_readEar_78 : decode cX6_readEar 78 = .ok (.aload_n 1, 1) := by decide +kernel
theorem dX6_readEar_79 : decode cX6_readEar 79 = .ok (.ldc 141, 2) := by decide +kernel
theorem dX6_readEar_81 : decode cX6_readEar 81 = .ok (.invokevirtual 33, 3) := by decide +kernel
theorem dX6_readEar_84 : decode cX6_readEar 84 = .ok (.ifCond .eq 31, 3) := by decide +kernel
theorem dX6_readEar_115 : decode cX6_readEar 115 = .ok (.aload_n 2, 1) := by decide +kernel
theorem dX6_readEar_116 : decode cX6_readEar 116 = .ok (.iload_n 3, 1) := by decide +kernel
theorem dX6_readEar_117 : decode cX6_readEar 117 = .ok (.iconst 1, 1) := by decide +kernel
theorem dX6_readEar_118 : decode cX6_readEar 118 = .ok (.iadd, 1) := by decide +kernel
theorem dX6_readEar_119 : decode cX6_readEar 119 = .ok (.putfield 128, 3) := by decide +kernel
theorem dX6_readEar_122 : decode cX6_readEar 122 = .ok (.aload_n 0, 1) := by decide +kernel
theorem dX6_readEar_123 : decode cX6_readEar 123 = .ok (.aload_n 1, 1) := by decide +kernel
theorem dX6_readEar_124 : decode cX6_readEar 124 = .ok (.invokevirtual 97, 3) := by decide +kernel
theorem dX6_readEar_127 : decode cX6_readEar 127 = .ok (.ireturn, 1) := by decide +kernel
theorem dX6_readEar_87 : decode cX6_readEar 87 = .ok (.aload_n 1, 1) := by decide +kernel
theorem dX6_readEar_88 : decode cX6_readEar 88 = .ok (.invokevirtual 58, 3) := by decide +kernel
theorem dX6_readEar_91 : decode cX6_readEar 91 = .ok (.aload_n 2, 1) := by decide +kernel
theorem dX6_readEar_92 : decode cX6_readEar 92 = .ok (.getfield 138, 3) := by decide +kernel
theorem dX6_readEar_95 : decode cX6_readEar 95 = .ok (.iload_n 3, 1) := by decide +kernel
theorem dX6_readEar_96 : decode cX6_readEar 96 = .ok (.aload_n 0, 1) := by decide +kernel
theorem dX6_readEar_97 : decode cX6_readEar 97 = .ok (.aload_n 1, 1) := by decide +kernel
theorem dX6_readEar_98 : decode cX6_readEar 98 = .ok (.aload_n 2, 1) := by decide +kernel
theorem dX6_readEar_99 : decode cX6_readEar 99 = .ok (.invokevirtual 143, 3) := by decide +kernel
theorem tw_723 : Cond.methodLink RX6 143 yX6_readBook ∈ TT := nx_mem 723 (by decide +kernel) (by decide +kernel)
theorem tw_725 : Cond.instanceMethod yX6_readBook ∈ TT := nx_mem 725 (by decide +kernel) (by decide +kernel)
theorem tw_13 : Cond.selects RX6 yX6_readBook yX6_readBook ∈ TT := nx_mem 13 (by decide +kernel) (by decide +kernel)
theorem tw_726 : Cond.code yX6_readBook cX6_readBook 6 (some .int) ∈ TT := nx_mem 726 (by decide +kernel) (by decide +kernel)
theorem dX6_readEar_102 : decode cX6_readEar 102 = .ok (.iastore, 1) := by decide +kernel
theorem dX6_readEar_103 : decode cX6_readEar 103 = .ok (.aload_n 2, 1) := by decide +kernel
theorem dX6_readEar_104 : decode cX6_readEar 104 = .ok (.getfield 138, 3) := by decide +kernel
theorem dX6_readEar_107 : decode cX6_readEar 107 = .ok (.iload_n 3, 1) := by decide +kernel
theorem dX6_readEar_108 : decode cX6_readEar 108 = .ok (.iaload, 1) := by decide +kernel
theorem dX6_readEar_109 : decode cX6_readEar 109 = .ok (.iconst (-1), 1) := by decide +kernel
theorem dX6_readEar_110 : decode cX6_readEar 110 = .ok (.if_icmp .ne 5, 3) := by decide +kernel
theorem dX6_readEar_113 : decode cX6_readEar 113 = .ok (.iconst 0, 1) := by decide +kernel
theorem dX6_readEar_114 : decode cX6_readEar 114 = .ok (.ireturn, 1) := by decide +kernel
theorem dX6_readEar_34 : decode cX6_readEar 34 = .ok (.iconst 0, 1) := by decide +kernel
theorem dX6_readEar_35 : decode cX6_readEar 35 = .ok (.ireturn, 1) := by decide +kernel
theorem dX6_readEar_10 : decode cX6_readEar 10 = .ok (.aload_n 0, 1) := by decide +kernel
theorem dX6_readEar_11 : decode cX6_readEar 11 = .ok (.aload_n 1, 1) := by decide +kernel
theorem dX6_readEar_12 : decode cX6_readEar 12 = .ok (.iconst 2, 1) := by decide +kernel
theorem dX6_readEar_13 : decode cX6_readEar 13 = .ok (.invokevirtual 51, 3) := by decide +kernel
theorem dX6_readEar_16 : decode cX6_readEar 16 = .ok (.ireturn, 1) := by decide +kernel
theorem dX6_readSchool_0 : decode cX6_readSchool 0 = .ok (.aload_n 0, 1) := by decide +kernel
theorem dX6_readSchool_1 : decode cX6_readSchool 1 = .ok (.iconst 0, 1) := by decide +kernel
theorem dX6_readSchool_2 : decode cX6_readSchool 2 = .ok (.putfield 15, 3) := by decide +kernel
theorem dX6_readSchool_5 : decode cX6_readSchool 5 = .ok (.aload_n 0, 1) := by decide +kernel
theorem dX6_readSchool_6 : decode cX6_readSchool 6 = .ok (.iconst (-1), 1) := by decide +kernel
theorem dX6_readSchool_7 : decode cX6_readSchool 7 = .ok (.putfield 9, 3) := by decide +kernel
theorem dX6_readSchool_10 : decode cX6_readSchool 10 = .ok (.aload_n 2, 1) := by decide +kernel
theorem dX6_readSchool_11 : decode cX6_readSchool 11 = .ok (.invokevirtual 18, 3) := by decide +kernel
theorem tw_557 : Cond.methodLink RX6 18 yX5_clear ∈ TT := nx_mem 557 (by decide +kernel) (by decide +kernel)
theorem tw_558 : Cond.instanceMethod yX5_clear ∈ TT := nx_mem 558 (by decide +kernel) (by decide +kernel)
theorem tw_559 : Cond.selects RX5 yX5_clear yX5_clear ∈ TT := nx_mem 559 (by decide +kernel) (by decide +kernel)
theorem tw_560 : Cond.code yX5_clear cX5_clear 1 none ∈ TT := nx_mem 560 (by decide +kernel) (by decide +kernel)
theorem dX6_readSchool_14 : decode cX6_readSchool 14 = .ok (.aload_n 1, 1) := by decide +kernel
theorem dX6_readSchool_15 : decode cX6_readSchool 15 = .ok (.invokevirtual 23, 3) := by decide +kernel
theorem tw_561 : Cond.methodLink RX6 23 yX9_rewind ∈ TT := nx_mem 561 (by decide +kernel) (by decide +kernel)
theorem tw_562 : Cond.instanceMethod yX9_rewind ∈ TT := nx_mem 562 (by decide +kernel) (by decide +kernel)
theorem tw_563 : Cond.selects RX9 yX9_rewind yX9_rewind ∈ TT := nx_mem 563 (by decide +kernel) (by decide +kernel)
theorem tw_564 : Cond.code yX9_rewind cX9_rewind 1 none ∈ TT := nx_mem 564 (by decide +kernel) (by decide +kernel)
theorem dX6_readSchool_18 : decode cX6_readSchool 18 = .ok (.iconst 1, 1) := by decide +kernel
theorem dX6_readSchool_19 : decode cX6_readSchool 19 = .ok (.istore_n 3, 1) := by decide +kernel
theorem dX6_readSchool_20 : decode cX6_readSchool 20 = .ok (.iconst 0, 1) := by decide +kernel
theorem dX6_readSchool_21 : decode cX6_readSchool 21 = .ok (.istore 4, 2) := by decide +kernel
theorem dX6_readSchool_23 : decode cX6_readSchool 23 = .ok (.iload 4, 2) := by decide +kernel
theorem dX6_readSchool_25 : decode cX6_readSchool 25 = .ok (.sipush 1600, 3) := by decide +kernel
theorem dX6_readSchool_28 : decode cX6_readSchool 28 = .ok (.if_icmp .ge 84, 3) := by decide +kernel
theorem dX6_readSchool_31 : decode cX6_readSchool 31 = .ok (.iload_n 3, 1) := by decide +kernel
theorem dX6_readSchool_32 : decode cX6_readSchool 32 = .ok (.ifCond .eq 80, 3) := by decide +kernel
theorem dX6_readSchool_35 : decode cX6_readSchool 35 = .ok (.aload_n 1, 1) := by decide +kernel
theorem dX6_readSchool_36 : decode cX6_readSchool 36 = .ok (.getfield 28, 3) := by decide +kernel
theorem dX6_readSchool_39 : decode cX6_readSchool 39 = .ok (.ifCond .eq 73, 3) := by decide +kernel
theorem dX6_readSchool_112 : decode cX6_readSchool 112 = .ok (.iload_n 3, 1) := by decide +kernel
theorem dX6_readSchool_113 : decode cX6_readSchool 113 = .ok (.ireturn, 1) := by decide +kernel
theorem dX6_readSchool_42 : decode cX6_readSchool 42 = .ok (.aload_n 1, 1) := by decide +kernel
theorem dX6_readSchool_43 : decode cX6_readSchool 43 = .ok (.ldc 31, 2) := by decide +kernel
theorem dX6_readSchool_45 : decode cX6_readSchool 45 = .ok (.invokevirtual 33, 3) := by decide +kernel
theorem dX6_readSchool_48 : decode cX6_readSchool 48 = .ok (.ifCond .eq 13, 3) := by decide +kernel
theorem dX6_readSchool_61 : decode cX6_readSchool 61 = .ok (.aload_n 1, 1) := by decide +kernel
theorem dX6_readSchool_62 : decode cX6_readSchool 62 = .ok (.ldc 41, 2) := by decide +kernel
theorem dX6_readSchool_64 : decode cX6_readSchool 64 = .ok (.invokevirtual 33, 3) := by decide +kernel
theorem dX6_readSchool_67 : decode cX6_readSchool 67 = .ok (.ifCond .eq 13, 3) := by decide +kernel
theorem dX6_readSchool_80 : decode cX6_readSchool 80 = .ok (.aload_n 1, 1) := by decide +kernel
theorem dX6_readSchool_81 : decode cX6_readSchool 81 = .ok (.ldc 46, 2) := by decide +kernel
theorem dX6_readSchool_83 : decode cX6_readSchool 83 = .ok (.invokevirtual 33, 3) := by decide +kernel
theorem dX6_readSchool_86 : decode cX6_readSchool 86 = .ok (.ifCond .eq 13, 3) := by decide +kernel
theorem dX6_readSchool_99 : decode cX6_readSchool 99 = .ok (.aload_n 0, 1) := by decide +kernel
theorem dX6_readSchool_100 : decode cX6_readSchool 100 = .ok (.aload_n 1, 1) := by decide +kernel
theorem dX6_readSchool_101 : decode cX6_readSchool 101 = .ok (.iconst 2, 1) := by decide +kernel
theorem dX6_readSchool_102 : decode cX6_readSchool 102 = .ok (.invokevirtual 51, 3) := by decide +kernel
theorem dX6_readSchool_105 : decode cX6_readSchool 105 = .ok (.istore_n 3, 1) := by decide +kernel
theorem dX6_readSchool_106 : decode cX6_readSchool 106 = .ok (.iinc 4 1, 3) := by decide +kernel
theorem dX6_readSchool_109 : decode cX6_readSchool 109 = .ok (.goto (-86), 3) := by decide +kernel
theorem dX6_readSchool_89 : decode cX6_readSchool 89 = .ok (.aload_n 0, 1) := by decide +kernel
theorem dX6_readSchool_90 : decode cX6_readSchool 90 = .ok (.aload_n 1, 1) := by decide +kernel
theorem dX6_readSchool_91 : decode cX6_readSchool 91 = .ok (.aload_n 2, 1) := by decide +kernel
theorem dX6_readSchool_92 : decode cX6_readSchool 92 = .ok (.invokevirtual 48, 3) := by decide +kernel
theorem tw_717 : Cond.methodLink RX6 48 yX6_readEar ∈ TT := nx_mem 717 (by decide +kernel) (by decide +kernel)
theorem tw_719 : Cond.instanceMethod yX6_readEar ∈ TT := nx_mem 719 (by decide +kernel) (by decide +kernel)
theorem tw_12 : Cond.selects RX6 yX6_readEar yX6_readEar ∈ TT := nx_mem 12 (by decide +kernel) (by decide +kernel)
theorem tw_720 : Cond.code yX6_readEar cX6_readEar 4 (some .boolean) ∈ TT := nx_mem 720 (by decide +kernel) (by decide +kernel)
theorem dX6_readSchool_95 : decode cX6_readSchool 95 = .ok (.istore_n 3, 1) := by decide +kernel
theorem dX6_readSchool_96 : decode cX6_readSchool 96 = .ok (.goto 10, 3) := by decide +kernel
theorem dX6_readSchool_70 : decode cX6_readSchool 70 = .ok (.aload_n 0, 1) := by decide +kernel
theorem dX6_readSchool_71 : decode cX6_readSchool 71 = .ok (.aload_n 1, 1) := by decide +kernel
theorem dX6_readSchool_72 : decode cX6_readSchool 72 = .ok (.aload_n 2, 1) := by decide +kernel
theorem dX6_readSchool_73 : decode cX6_readSchool 73 = .ok (.invokevirtual 43, 3) := by decide +kernel
theorem tw_696 : Cond.methodLink RX6 43 yX6_readLetter ∈ TT := nx_mem 696 (by decide +kernel) (by decide +kernel)
theorem tw_698 : Cond.instanceMethod yX6_readLetter ∈ TT := nx_mem 698 (by decide +kernel) (by decide +kernel)
theorem tw_10 : Cond.selects RX6 yX6_readLetter yX6_readLetter ∈ TT := nx_mem 10 (by decide +kernel) (by decide +kernel)
theorem tw_699 : Cond.code yX6_readLetter cX6_readLetter 6 (some .boolean) ∈ TT := nx_mem 699 (by decide +kernel) (by decide +kernel)
theorem dX6_readSchool_76 : decode cX6_readSchool 76 = .ok (.istore_n 3, 1) := by decide +kernel
theorem dX6_readSchool_77 : decode cX6_readSchool 77 = .ok (.goto 29, 3) := by decide +kernel
theorem dX6_readSchool_51 : decode cX6_readSchool 51 = .ok (.aload_n 0, 1) := by decide +kernel
theorem dX6_readSchool_52 : decode cX6_readSchool 52 = .ok (.aload_n 1, 1) := by decide +kernel
theorem dX6_readSchool_53 : decode cX6_readSchool 53 = .ok (.aload_n 2, 1) := by decide +kernel
theorem dX6_readSchool_54 : decode cX6_readSchool 54 = .ok (.invokevirtual 37, 3) := by decide +kernel
theorem tw_643 : Cond.methodLink RX6 37 yX6_readStep ∈ TT := nx_mem 643 (by decide +kernel) (by decide +kernel)
theorem tw_645 : Cond.instanceMethod yX6_readStep ∈ TT := nx_mem 645 (by decide +kernel) (by decide +kernel)
theorem tw_3 : Cond.selects RX6 yX6_readStep yX6_readStep ∈ TT := nx_mem 3 (by decide +kernel) (by decide +kernel)
theorem tw_646 : Cond.code yX6_readStep cX6_readStep 4 (some .boolean) ∈ TT := nx_mem 646 (by decide +kernel) (by decide +kernel)
theorem dX6_readSchool_57 : decode cX6_readSchool 57 = .ok (.istore_n 3, 1) := by decide +kernel
theorem dX6_readSchool_58 : decode cX6_readSchool 58 = .ok (.goto 48, 3) := by decide +kernel
