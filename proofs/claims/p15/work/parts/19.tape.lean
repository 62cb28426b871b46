theorem dX9_hasRoomFor_0 : decode cX9_hasRoomFor 0 = .ok (.aload_n 0, 1) := by decide +kernel
theorem dX9_hasRoomFor_1 : decode cX9_hasRoomFor 1 = .ok (.getfield 15, 3) := by decide +kernel
theorem iw_X9 : ∀ w ∈ u_ws RX9 TX9 7, w ∈ TT := nx_mems _ [133, 135, 137, 139, 141, 143, 145] (by decide +kernel) (by decide +kernel)
theorem tw_122 : Cond.fieldLink RX9 15 "LimpCode$Tape" "size" "I" ∈ TT := nx_mem 122 (by decide +kernel) (by decide +kernel)
theorem dX9_hasRoomFor_4 : decode cX9_hasRoomFor 4 = .ok (.iload_n 1, 1) := by decide +kernel
theorem dX9_hasRoomFor_5 : decode cX9_hasRoomFor 5 = .ok (.iadd, 1) := by decide +kernel
theorem dX9_hasRoomFor_6 : decode cX9_hasRoomFor 6 = .ok (.aload_n 0, 1) := by decide +kernel
theorem dX9_hasRoomFor_7 : decode cX9_hasRoomFor 7 = .ok (.getfield 9, 3) := by decide +kernel
theorem tw_121 : Cond.fieldLink RX9 9 "LimpCode$Tape" "bytes" "[B" ∈ TT := nx_mem 121 (by decide +kernel) (by decide +kernel)
theorem dX9_hasRoomFor_10 : decode cX9_hasRoomFor 10 = .ok (.arraylength, 1) := by decide +kernel
theorem dX9_hasRoomFor_11 : decode cX9_hasRoomFor 11 = .ok (.if_icmp .gt 7, 3) := by decide +kernel
theorem dX9_hasRoomFor_18 : decode cX9_hasRoomFor 18 = .ok (.iconst 0, 1) := by decide +kernel
theorem dX9_hasRoomFor_19 : decode cX9_hasRoomFor 19 = .ok (.ireturn, 1) := by decide +kernel
theorem dX9_hasRoomFor_14 : decode cX9_hasRoomFor 14 = .ok (.iconst 1, 1) := by decide +kernel
theorem dX9_hasRoomFor_15 : decode cX9_hasRoomFor 15 = .ok (.goto 4, 3) := by decide +kernel
theorem dX9_put_0 : decode cX9_put 0 = .ok (.bipush 24, 2) := by decide +kernel
theorem dX9_put_2 : decode cX9_put 2 = .ok (.istore_n 2, 1) := by decide +kernel
theorem dX9_put_3 : decode cX9_put 3 = .ok (.iload_n 2, 1) := by decide +kernel
theorem dX9_put_4 : decode cX9_put 4 = .ok (.ifCond .lt 44, 3) := by decide +kernel
theorem dX9_put_7 : decode cX9_put 7 = .ok (.aload_n 0, 1) := by decide +kernel
theorem dX9_put_8 : decode cX9_put 8 = .ok (.getfield 15, 3) := by decide +kernel
theorem dX9_put_11 : decode cX9_put 11 = .ok (.aload_n 0, 1) := by decide +kernel
theorem dX9_put_12 : decode cX9_put 12 = .ok (.getfield 9, 3) := by decide +kernel
theorem dX9_put_15 : decode cX9_put 15 = .ok (.arraylength, 1) := by decide +kernel
theorem dX9_put_16 : decode cX9_put 16 = .ok (.if_icmp .ge 26, 3) := by decide +kernel
theorem dX9_put_42 : decode cX9_put 42 = .ok (.iinc 2 (-8), 3) := by decide +kernel
theorem dX9_put_45 : decode cX9_put 45 = .ok (.goto (-42), 3) := by decide +kernel
theorem dX9_put_48 : decode cX9_put 48 = .ok (.return_, 1) := by decide +kernel
theorem dX9_put_19 : decode cX9_put 19 = .ok (.aload_n 0, 1) := by decide +kernel
theorem dX9_put_20 : decode cX9_put 20 = .ok (.getfield 9, 3) := by decide +kernel
theorem dX9_put_23 : decode cX9_put 23 = .ok (.aload_n 0, 1) := by decide +kernel
theorem dX9_put_24 : decode cX9_put 24 = .ok (.getfield 15, 3) := by decide +kernel
theorem dX9_put_27 : decode cX9_put 27 = .ok (.iload_n 1, 1) := by decide +kernel
theorem dX9_put_28 : decode cX9_put 28 = .ok (.iload_n 2, 1) := by decide +kernel
theorem dX9_put_29 : decode cX9_put 29 = .ok (.ishr, 1) := by decide +kernel
theorem dX9_put_30 : decode cX9_put 30 = .ok (.i2b, 1) := by decide +kernel
theorem dX9_put_31 : decode cX9_put 31 = .ok (.bastore, 1) := by decide +kernel
theorem dX9_put_32 : decode cX9_put 32 = .ok (.aload_n 0, 1) := by decide +kernel
theorem dX9_put_33 : decode cX9_put 33 = .ok (.dup, 1) := by decide +kernel
theorem dX9_put_34 : decode cX9_put 34 = .ok (.getfield 15, 3) := by decide +kernel
theorem dX9_put_37 : decode cX9_put 37 = .ok (.iconst 1, 1) := by decide +kernel
theorem dX9_put_38 : decode cX9_put 38 = .ok (.iadd, 1) := by decide +kernel
theorem dX9_put_39 : decode cX9_put 39 = .ok (.putfield 15, 3) := by decide +kernel
theorem dX9_isBlank_0 : decode cX9_isBlank 0 = .ok (.iload_n 0, 1) := by decide +kernel
theorem dX9_isBlank_1 : decode cX9_isBlank 1 = .ok (.bipush 32, 2) := by decide +kernel
theorem dX9_isBlank_3 : decode cX9_isBlank 3 = .ok (.if_icmp .eq 9, 3) := by decide +kernel
theorem dX9_isBlank_12 : decode cX9_isBlank 12 = .ok (.iconst 1, 1) := by decide +kernel
theorem dX9_isBlank_13 : decode cX9_isBlank 13 = .ok (.goto 4, 3) := by decide +kernel
theorem dX9_isBlank_17 : decode cX9_isBlank 17 = .ok (.ireturn, 1) := by decide +kernel
theorem dX9_isBlank_6 : decode cX9_isBlank 6 = .ok (.iload_n 0, 1) := by decide +kernel
theorem dX9_isBlank_7 : decode cX9_isBlank 7 = .ok (.bipush 10, 2) := by decide +kernel
theorem dX9_isBlank_9 : decode cX9_isBlank 9 = .ok (.if_icmp .ne 7, 3) := by decide +kernel
theorem dX9_isBlank_16 : decode cX9_isBlank 16 = .ok (.iconst 0, 1) := by decide +kernel
theorem dX9_isLetter_0 : decode cX9_isLetter 0 = .ok (.iload_n 0, 1) := by decide +kernel
theorem dX9_isLetter_1 : decode cX9_isLetter 1 = .ok (.bipush 97, 2) := by decide +kernel
theorem dX9_isLetter_3 : decode cX9_isLetter 3 = .ok (.if_icmp .lt 13, 3) := by decide +kernel
theorem dX9_isLetter_16 : decode cX9_isLetter 16 = .ok (.iconst 0, 1) := by decide +kernel
theorem dX9_isLetter_17 : decode cX9_isLetter 17 = .ok (.ireturn, 1) := by decide +kernel
theorem dX9_isLetter_6 : decode cX9_isLetter 6 = .ok (.iload_n 0, 1) := by decide +kernel
theorem dX9_isLetter_7 : decode cX9_isLetter 7 = .ok (.bipush 122, 2) := by decide +kernel
theorem dX9_isLetter_9 : decode cX9_isLetter 9 = .ok (.if_icmp .gt 7, 3) := by decide +kernel
theorem dX9_isLetter_12 : decode cX9_isLetter 12 = .ok (.iconst 1, 1) := by decide +kernel
theorem dX9_isLetter_13 : decode cX9_isLetter 13 = .ok (.goto 4, 3) := by decide +kernel
theorem dX9_isDigit_0 : decode cX9_isDigit 0 = .ok (.iload_n 0, 1) := by decide +kernel
theorem dX9_isDigit_1 : decode cX9_isDigit 1 = .ok (.bipush 48, 2) := by decide +kernel
theorem dX9_isDigit_3 : decode cX9_isDigit 3 = .ok (.if_icmp .lt 13, 3) := by decide +kernel
theorem dX9_isDigit_16 : decode cX9_isDigit 16 = .ok (.iconst 0, 1) := by decide +kernel
theorem dX9_isDigit_17 : decode cX9_isDigit 17 = .ok (.ireturn, 1) := by decide +kernel
theorem dX9_isDigit_6 : decode cX9_isDigit 6 = .ok (.iload_n 0, 1) := by decide +kernel
theorem dX9_isDigit_7 : decode cX9_isDigit 7 = .ok (.bipush 57, 2) := by decide +kernel
theorem dX9_isDigit_9 : decode cX9_isDigit 9 = .ok (.if_icmp .gt 7, 3) := by decide +kernel
theorem dX9_isDigit_12 : decode cX9_isDigit 12 = .ok (.iconst 1, 1) := by decide +kernel
theorem dX9_isDigit_13 : decode cX9_isDigit 13 = .ok (.goto 4, 3) := by decide +kernel
theorem dX9_byteAt_0 : decode cX9_byteAt 0 = .ok (.iload_n 1, 1) := by decide +kernel
theorem dX9_byteAt_1 : decode cX9_byteAt 1 = .ok (.ifCond .lt 29, 3) := by decide +kernel
theorem dX9_byteAt_30 : decode cX9_byteAt 30 = .ok (.iconst 0, 1) := by decide +kernel
theorem dX9_byteAt_31 : decode cX9_byteAt 31 = .ok (.ireturn, 1) := by decide +kernel
theorem dX9_byteAt_4 : decode cX9_byteAt 4 = .ok (.iload_n 1, 1) := by decide +kernel
theorem dX9_byteAt_5 : decode cX9_byteAt 5 = .ok (.aload_n 0, 1) := by decide +kernel
theorem dX9_byteAt_6 : decode cX9_byteAt 6 = .ok (.getfield 15, 3) := by decide +kernel
theorem dX9_byteAt_9 : decode cX9_byteAt 9 = .ok (.if_icmp .ge 21, 3) := by decide +kernel
theorem dX9_byteAt_12 : decode cX9_byteAt 12 = .ok (.iload_n 1, 1) := by decide +kernel
theorem dX9_byteAt_13 : decode cX9_byteAt 13 = .ok (.aload_n 0, 1) := by decide +kernel
theorem dX9_byteAt_14 : decode cX9_byteAt 14 = .ok (.getfield 9, 3) := by decide +kernel
theorem dX9_byteAt_17 : decode cX9_byteAt 17 = .ok (.arraylength, 1) := by decide +kernel
theorem dX9_byteAt_18 : decode cX9_byteAt 18 = .ok (.if_icmp .ge 12, 3) := by decide +kernel
theorem dX9_byteAt_21 : decode cX9_byteAt 21 = .ok (.aload_n 0, 1) := by decide +kernel
theorem dX9_byteAt_22 : decode cX9_byteAt 22 = .ok (.getfield 9, 3) := by decide +kernel
theorem dX9_byteAt_25 : decode cX9_byteAt 25 = .ok (.iload_n 1, 1) := by decide +kernel
theorem dX9_byteAt_26 : decode cX9_byteAt 26 = .ok (.baload, 1) := by decide +kernel
theorem dX9_byteAt_27 : decode cX9_byteAt 27 = .ok (.goto 4, 3) := by decide +kernel
theorem dX9_readWord_0 : decode cX9_readWord 0 = .ok (.aload_n 0, 1) := by decide +kernel
theorem dX9_readWord_1 : decode cX9_readWord 1 = .ok (.lconst 0, 1) := by decide +kernel
theorem dX9_readWord_2 : decode cX9_readWord 2 = .ok (.putfield 51, 3) := by decide +kernel
theorem tw_129 : Cond.fieldLink RX9 51 "LimpCode$Tape" "word" "J" ∈ TT := nx_mem 129 (by decide +kernel) (by decide +kernel)
theorem dX9_readWord_5 : decode cX9_readWord 5 = .ok (.aload_n 0, 1) := by decide +kernel
theorem dX9_readWord_6 : decode cX9_readWord 6 = .ok (.getfield 19, 3) := by decide +kernel
theorem tw_128 : Cond.fieldLink RX9 19 "LimpCode$Tape" "behind" "I" ∈ TT := nx_mem 128 (by decide +kernel) (by decide +kernel)
theorem dX9_readWord_9 : decode cX9_readWord 9 = .ok (.aload_n 0, 1) := by decide +kernel
theorem dX9_readWord_10 : decode cX9_readWord 10 = .ok (.getfield 15, 3) := by decide +kernel
theorem dX9_readWord_13 : decode cX9_readWord 13 = .ok (.if_icmp .ge 55, 3) := by decide +kernel
theorem dX9_readWord_68 : decode cX9_readWord 68 = .ok (.aload_n 0, 1) := by decide +kernel
theorem dX9_readWord_69 : decode cX9_readWord 69 = .ok (.aload_n 0, 1) := by decide +kernel
theorem dX9_readWord_70 : decode cX9_readWord 70 = .ok (.getfield 19, 3) := by decide +kernel
theorem dX9_readWord_73 : decode cX9_readWord 73 = .ok (.aload_n 0, 1) := by decide +kernel
theorem dX9_readWord_74 : decode cX9_readWord 74 = .ok (.getfield 25, 3) := by decide +kernel
theorem tw_126 : Cond.fieldLink RX9 25 "LimpCode$Tape" "place" "I" ∈ TT := nx_mem 126 (by decide +kernel) (by decide +kernel)
theorem dX9_readWord_77 : decode cX9_readWord 77 = .ok (.isub, 1) := by decide +kernel
theorem dX9_readWord_78 : decode cX9_readWord 78 = .ok (.bipush 8, 2) := by decide +kernel
theorem dX9_readWord_80 : decode cX9_readWord 80 = .ok (.if_icmp .le 7, 3) := by decide +kernel
theorem dX9_readWord_87 : decode cX9_readWord 87 = .ok (.iconst 1, 1) := by decide +kernel
theorem dX9_readWord_88 : decode cX9_readWord 88 = .ok (.putfield 36, 3) := by decide +kernel
theorem tw_125 : Cond.fieldLink RX9 36 "LimpCode$Tape" "kind" "I" ∈ TT := nx_mem 125 (by decide +kernel) (by decide +kernel)
theorem dX9_readWord_91 : decode cX9_readWord 91 = .ok (.return_, 1) := by decide +kernel
theorem dX9_readWord_83 : decode cX9_readWord 83 = .ok (.iconst 4, 1) := by decide +kernel
theorem dX9_readWord_84 : decode cX9_readWord 84 = .ok (.goto 4, 3) := by decide +kernel
theorem dX9_readWord_16 : decode cX9_readWord 16 = .ok (.aload_n 0, 1) := by decide +kernel
theorem dX9_readWord_17 : decode cX9_readWord 17 = .ok (.aload_n 0, 1) := by decide +kernel
theorem dX9_readWord_18 : decode cX9_readWord 18 = .ok (.getfield 19, 3) := by decide +kernel
theorem dX9_readWord_21 : decode cX9_readWord 21 = .ok (.invokevirtual 28, 3) := by decide +kernel
theorem tw_569 : Cond.methodLink RX9 28 yX9_byteAt ∈ TT := nx_mem 569 (by decide +kernel) (by decide +kernel)
theorem tw_571 : Cond.instanceMethod yX9_byteAt ∈ TT := nx_mem 571 (by decide +kernel) (by decide +kernel)
theorem tw_0 : Cond.selects RX9 yX9_byteAt yX9_byteAt ∈ TT := nx_mem 0 (by decide +kernel) (by decide +kernel)
theorem tw_88 : Cond.initialized RX9 ∈ TT := nx_mem 88 (by decide +kernel) (by decide +kernel)
theorem tw_572 : Cond.code yX9_byteAt cX9_byteAt 2 (some .int) ∈ TT := nx_mem 572 (by decide +kernel) (by decide +kernel)
theorem dX9_readWord_24 : decode cX9_readWord 24 = .ok (.invokestatic 39, 3) := by decide +kernel
theorem tw_576 : Cond.methodLink RX9 39 yX9_isLetter ∈ TT := nx_mem 576 (by decide +kernel) (by decide +kernel)
theorem tw_577 : Cond.static yX9_isLetter ∈ TT := nx_mem 577 (by decide +kernel) (by decide +kernel)
theorem tw_578 : Cond.code yX9_isLetter cX9_isLetter 1 (some .boolean) ∈ TT := nx_mem 578 (by decide +kernel) (by decide +kernel)
theorem dX9_readWord_27 : decode cX9_readWord 27 = .ok (.ifCond .eq 41, 3) := by decide +kernel
theorem dX9_readWord_30 : decode cX9_readWord 30 = .ok (.aload_n 0, 1) := by decide +kernel
theorem dX9_readWord_31 : decode cX9_readWord 31 = .ok (.aload_n 0, 1) := by decide +kernel
theorem dX9_readWord_32 : decode cX9_readWord 32 = .ok (.getfield 51, 3) := by decide +kernel
theorem dX9_readWord_35 : decode cX9_readWord 35 = .ok (.iconst 5, 1) := by decide +kernel
theorem dX9_readWord_36 : decode cX9_readWord 36 = .ok (.lshl, 1) := by decide +kernel
theorem dX9_readWord_37 : decode cX9_readWord 37 = .ok (.aload_n 0, 1) := by decide +kernel
theorem dX9_readWord_38 : decode cX9_readWord 38 = .ok (.aload_n 0, 1) := by decide +kernel
theorem dX9_readWord_39 : decode cX9_readWord 39 = .ok (.getfield 19, 3) := by decide +kernel
theorem dX9_readWord_42 : decode cX9_readWord 42 = .ok (.invokevirtual 28, 3) := by decide +kernel
theorem dX9_readWord_45 : decode cX9_readWord 45 = .ok (.bipush 97, 2) := by decide +kernel
theorem dX9_readWord_47 : decode cX9_readWord 47 = .ok (.isub, 1) := by decide +kernel
theorem dX9_readWord_48 : decode cX9_readWord 48 = .ok (.iconst 1, 1) := by decide +kernel
theorem dX9_readWord_49 : decode cX9_readWord 49 = .ok (.iadd, 1) := by decide +kernel
theorem dX9_readWord_50 : decode cX9_readWord 50 = .ok (.i2l, 1) := by decide +kernel
theorem dX9_readWord_51 : decode cX9_readWord 51 = .ok (.lor, 1) := by decide +kernel
theorem dX9_readWord_52 : decode cX9_readWord 52 = .ok (.putfield 51, 3) := by decide +kernel
theorem dX9_readWord_55 : decode cX9_readWord 55 = .ok (.aload_n 0, 1) := by decide +kernel
theorem dX9_readWord_56 : decode cX9_readWord 56 = .ok (.dup, 1) := by decide +kernel
theorem dX9_readWord_57 : decode cX9_readWord 57 = .ok (.getfield 19, 3) := by decide +kernel
theorem dX9_readWord_60 : decode cX9_readWord 60 = .ok (.iconst 1, 1) := by decide +kernel
theorem dX9_readWord_61 : decode cX9_readWord 61 = .ok (.iadd, 1) := by decide +kernel
theorem dX9_readWord_62 : decode cX9_readWord 62 = .ok (.putfield 19, 3) := by decide +kernel
theorem dX9_readWord_65 : decode cX9_readWord 65 = .ok (.goto (-60), 3) := by decide +kernel
theorem dX9_readNumber_0 : decode cX9_readNumber 0 = .ok (.aload_n 0, 1) := by decide +kernel
theorem dX9_readNumber_1 : decode cX9_readNumber 1 = .ok (.iconst 0, 1) := by decide +kernel
theorem dX9_readNumber_2 : decode cX9_readNumber 2 = .ok (.putfield 55, 3) := by decide +kernel
theorem tw_131 : Cond.fieldLink RX9 55 "LimpCode$Tape" "number" "I" ∈ TT := nx_mem 131 (by decide +kernel) (by decide +kernel)
theorem dX9_readNumber_5 : decode cX9_readNumber 5 = .ok (.aload_n 0, 1) := by decide +kernel
theorem dX9_readNumber_6 : decode cX9_readNumber 6 = .ok (.getfield 19, 3) := by decide +kernel
theorem dX9_readNumber_9 : decode cX9_readNumber 9 = .ok (.aload_n 0, 1) := by decide +kernel
theorem dX9_readNumber_10 : decode cX9_readNumber 10 = .ok (.getfield 15, 3) := by decide +kernel
theorem dX9_readNumber_13 : decode cX9_readNumber 13 = .ok (.if_icmp .ge 53, 3) := by decide +kernel
theorem dX9_readNumber_66 : decode cX9_readNumber 66 = .ok (.aload_n 0, 1) := by decide +kernel
theorem dX9_readNumber_67 : decode cX9_readNumber 67 = .ok (.getfield 19, 3) := by decide +kernel
theorem dX9_readNumber_70 : decode cX9_readNumber 70 = .ok (.aload_n 0, 1) := by decide +kernel
theorem dX9_readNumber_71 : decode cX9_readNumber 71 = .ok (.getfield 25, 3) := by decide +kernel
theorem dX9_readNumber_74 : decode cX9_readNumber 74 = .ok (.isub, 1) := by decide +kernel
theorem dX9_readNumber_75 : decode cX9_readNumber 75 = .ok (.iconst 4, 1) := by decide +kernel
theorem dX9_readNumber_76 : decode cX9_readNumber 76 = .ok (.if_icmp .le 7, 3) := by decide +kernel
theorem dX9_readNumber_83 : decode cX9_readNumber 83 = .ok (.iconst 0, 1) := by decide +kernel
theorem dX9_readNumber_84 : decode cX9_readNumber 84 = .ok (.istore_n 1, 1) := by decide +kernel
theorem dX9_readNumber_85 : decode cX9_readNumber 85 = .ok (.aload_n 0, 1) := by decide +kernel
theorem dX9_readNumber_86 : decode cX9_readNumber 86 = .ok (.iload_n 1, 1) := by decide +kernel
theorem dX9_readNumber_87 : decode cX9_readNumber 87 = .ok (.ifCond .ne 17, 3) := by decide +kernel
theorem dX9_readNumber_90 : decode cX9_readNumber 90 = .ok (.aload_n 0, 1) := by decide +kernel
theorem dX9_readNumber_91 : decode cX9_readNumber 91 = .ok (.aload_n 0, 1) := by decide +kernel
theorem dX9_readNumber_92 : decode cX9_readNumber 92 = .ok (.getfield 19, 3) := by decide +kernel
theorem dX9_readNumber_95 : decode cX9_readNumber 95 = .ok (.invokevirtual 28, 3) := by decide +kernel
theorem dX9_readNumber_98 : decode cX9_readNumber 98 = .ok (.invokestatic 39, 3) := by decide +kernel
theorem dX9_readNumber_101 : decode cX9_readNumber 101 = .ok (.ifCond .eq 7, 3) := by decide +kernel
theorem dX9_readNumber_108 : decode cX9_readNumber 108 = .ok (.iconst 2, 1) := by decide +kernel
theorem dX9_readNumber_109 : decode cX9_readNumber 109 = .ok (.putfield 36, 3) := by decide +kernel
theorem dX9_readNumber_112 : decode cX9_readNumber 112 = .ok (.return_, 1) := by decide +kernel
theorem dX9_readNumber_104 : decode cX9_readNumber 104 = .ok (.iconst 4, 1) := by decide +kernel
theorem dX9_readNumber_105 : decode cX9_readNumber 105 = .ok (.goto 4, 3) := by decide +kernel
theorem dX9_readNumber_79 : decode cX9_readNumber 79 = .ok (.iconst 1, 1) := by decide +kernel
theorem dX9_readNumber_80 : decode cX9_readNumber 80 = .ok (.goto 4, 3) := by decide +kernel
theorem dX9_readNumber_16 : decode cX9_readNumber 16 = .ok (.aload_n 0, 1) := by decide +kernel
theorem dX9_readNumber_17 : decode cX9_readNumber 17 = .ok (.aload_n 0, 1) := by decide +kernel
theorem dX9_readNumber_18 : decode cX9_readNumber 18 = .ok (.getfield 19, 3) := by decide +kernel
theorem dX9_readNumber_21 : decode cX9_readNumber 21 = .ok (.invokevirtual 28, 3) := by decide +kernel
theorem dX9_readNumber_24 : decode cX9_readNumber 24 = .ok (.invokestatic 45, 3) := by decide +kernel
theorem tw_583 : Cond.methodLink RX9 45 yX9_isDigit ∈ TT := nx_mem 583 (by decide +kernel) (by decide +kernel)
theorem tw_584 : Cond.static yX9_isDigit ∈ TT := nx_mem 584 (by decide +kernel) (by decide +kernel)
theorem tw_585 : Cond.code yX9_isDigit cX9_isDigit 1 (some .boolean) ∈ TT := nx_mem 585 (by decide +kernel) (by decide +kernel)
theorem dX9_readNumber_27 : decode cX9_readNumber 27 = .ok (.ifCond .eq 39, 3) := by decide +kernel
theorem dX9_readNumber_30 : decode cX9_readNumber 30 = .ok (.aload_n 0, 1) := by decide +kernel
theorem dX9_readNumber_31 : decode cX9_readNumber 31 = .ok (.aload_n 0, 1) := by decide +kernel
theorem dX9_readNumber_32 : decode cX9_readNumber 32 = .ok (.getfield 55, 3) := by decide +kernel
theorem dX9_readNumber_35 : decode cX9_readNumber 35 = .ok (.bipush 10, 2) := by decide +kernel
theorem dX9_readNumber_37 : decode cX9_readNumber 37 = .ok (.imul, 1) := by decide +kernel
theorem dX9_readNumber_38 : decode cX9_readNumber 38 = .ok (.aload_n 0, 1) := by decide +kernel
theorem dX9_readNumber_39 : decode cX9_readNumber 39 = .ok (.aload_n 0, 1) := by decide +kernel
theorem dX9_readNumber_40 : decode cX9_readNumber 40 = .ok (.getfield 19, 3) := by decide +kernel
theorem dX9_readNumber_43 : decode cX9_readNumber 43 = .ok (.invokevirtual 28, 3) := by decide +kernel
theorem dX9_readNumber_46 : decode cX9_readNumber 46 = .ok (.iadd, 1) := by decide +kernel
theorem dX9_readNumber_47 : decode cX9_readNumber 47 = .ok (.bipush 48, 2) := by decide +kernel
theorem dX9_readNumber_49 : decode cX9_readNumber 49 = .ok (.isub, 1) := by decide +kernel
theorem dX9_readNumber_50 : decode cX9_readNumber 50 = .ok (.putfield 55, 3) := by decide +kernel
theorem dX9_readNumber_53 : decode cX9_readNumber 53 = .ok (.aload_n 0, 1) := by decide +kernel
theorem dX9_readNumber_54 : decode cX9_readNumber 54 = .ok (.dup, 1) := by decide +kernel
theorem dX9_readNumber_55 : decode cX9_readNumber 55 = .ok (.getfield 19, 3) := by decide +kernel
theorem dX9_readNumber_58 : decode cX9_readNumber 58 = .ok (.iconst 1, 1) := by decide +kernel
theorem dX9_readNumber_59 : decode cX9_readNumber 59 = .ok (.iadd, 1) := by decide +kernel
theorem dX9_readNumber_60 : decode cX9_readNumber 60 = .ok (.putfield 19, 3) := by decide +kernel
theorem dX9_readNumber_63 : decode cX9_readNumber 63 = .ok (.goto (-58), 3) := by decide +kernel
theorem dX9_readNext_0 : decode cX9_readNext 0 = .ok (.aload_n 0, 1) := by decide +kernel
theorem dX9_readNext_1 : decode cX9_readNext 1 = .ok (.aload_n 0, 1) := by decide +kernel
theorem dX9_readNext_2 : decode cX9_readNext 2 = .ok (.getfield 19, 3) := by decide +kernel
theorem dX9_readNext_5 : decode cX9_readNext 5 = .ok (.putfield 25, 3) := by decide +kernel
theorem dX9_readNext_8 : decode cX9_readNext 8 = .ok (.aload_n 0, 1) := by decide +kernel
theorem dX9_readNext_9 : decode cX9_readNext 9 = .ok (.getfield 25, 3) := by decide +kernel
theorem dX9_readNext_12 : decode cX9_readNext 12 = .ok (.aload_n 0, 1) := by decide +kernel
theorem dX9_readNext_13 : decode cX9_readNext 13 = .ok (.getfield 15, 3) := by decide +kernel
theorem dX9_readNext_16 : decode cX9_readNext 16 = .ok (.if_icmp .ge 30, 3) := by decide +kernel
theorem dX9_readNext_46 : decode cX9_readNext 46 = .ok (.aload_n 0, 1) := by decide +kernel
theorem dX9_readNext_47 : decode cX9_readNext 47 = .ok (.aload_n 0, 1) := by decide +kernel
theorem dX9_readNext_48 : decode cX9_readNext 48 = .ok (.getfield 25, 3) := by decide +kernel
theorem dX9_readNext_51 : decode cX9_readNext 51 = .ok (.putfield 19, 3) := by decide +kernel
theorem dX9_readNext_54 : decode cX9_readNext 54 = .ok (.aload_n 0, 1) := by decide +kernel
theorem dX9_readNext_55 : decode cX9_readNext 55 = .ok (.aload_n 0, 1) := by decide +kernel
theorem dX9_readNext_56 : decode cX9_readNext 56 = .ok (.getfield 25, 3) := by decide +kernel
theorem dX9_readNext_59 : decode cX9_readNext 59 = .ok (.invokevirtual 28, 3) := by decide +kernel
theorem dX9_readNext_62 : decode cX9_readNext 62 = .ok (.istore_n 1, 1) := by decide +kernel
theorem dX9_readNext_63 : decode cX9_readNext 63 = .ok (.aload_n 0, 1) := by decide +kernel
theorem dX9_readNext_64 : decode cX9_readNext 64 = .ok (.getfield 25, 3) := by decide +kernel
theorem dX9_readNext_67 : decode cX9_readNext 67 = .ok (.aload_n 0, 1) := by decide +kernel
theorem dX9_readNext_68 : decode cX9_readNext 68 = .ok (.getfield 15, 3) := by decide +kernel
theorem dX9_readNext_71 : decode cX9_readNext 71 = .ok (.if_icmp .lt 11, 3) := by decide +kernel
theorem dX9_readNext_82 : decode cX9_readNext 82 = .ok (.iload_n 1, 1) := by decide +kernel
theorem dX9_readNext_83 : decode cX9_readNext 83 = .ok (.bipush 59, 2) := by decide +kernel
theorem dX9_readNext_85 : decode cX9_readNext 85 = .ok (.if_icmp .ne 21, 3) := by decide +kernel
theorem dX9_readNext_106 : decode cX9_readNext 106 = .ok (.iload_n 1, 1) := by decide +kernel
theorem dX9_readNext_107 : decode cX9_readNext 107 = .ok (.invokestatic 39, 3) := by decide +kernel
theorem dX9_readNext_110 : decode cX9_readNext 110 = .ok (.ifCond .eq 10, 3) := by decide +kernel
theorem dX9_readNext_120 : decode cX9_readNext 120 = .ok (.iload_n 1, 1) := by decide +kernel
theorem dX9_readNext_121 : decode cX9_readNext 121 = .ok (.invokestatic 45, 3) := by decide +kernel
theorem dX9_readNext_124 : decode cX9_readNext 124 = .ok (.ifCond .eq 10, 3) := by decide +kernel
theorem dX9_readNext_134 : decode cX9_readNext 134 = .ok (.aload_n 0, 1) := by decide +kernel
theorem dX9_readNext_135 : decode cX9_readNext 135 = .ok (.iconst 4, 1) := by decide +kernel
theorem dX9_readNext_136 : decode cX9_readNext 136 = .ok (.putfield 36, 3) := by decide +kernel
theorem dX9_readNext_139 : decode cX9_readNext 139 = .ok (.return_, 1) := by decide +kernel
theorem dX9_readNext_127 : decode cX9_readNext 127 = .ok (.aload_n 0, 1) := by decide +kernel
theorem dX9_readNext_128 : decode cX9_readNext 128 = .ok (.invokevirtual 48, 3) := by decide +kernel
theorem tw_586 : Cond.methodLink RX9 48 yX9_readNumber ∈ TT := nx_mem 586 (by decide +kernel) (by decide +kernel)
theorem tw_588 : Cond.instanceMethod yX9_readNumber ∈ TT := nx_mem 588 (by decide +kernel) (by decide +kernel)
theorem tw_2 : Cond.selects RX9 yX9_readNumber yX9_readNumber ∈ TT := nx_mem 2 (by decide +kernel) (by decide +kernel)
theorem tw_589 : Cond.code yX9_readNumber cX9_readNumber 2 none ∈ TT := nx_mem 589 (by decide +kernel) (by decide +kernel)
theorem dX9_readNext_131 : decode cX9_readNext 131 = .ok (.goto 8, 3) := by decide +kernel
theorem dX9_readNext_113 : decode cX9_readNext 113 = .ok (.aload_n 0, 1) := by decide +kernel
theorem dX9_readNext_114 : decode cX9_readNext 114 = .ok (.invokevirtual 42, 3) := by decide +kernel
theorem tw_579 : Cond.methodLink RX9 42 yX9_readWord ∈ TT := nx_mem 579 (by decide +kernel) (by decide +kernel)
theorem tw_581 : Cond.instanceMethod yX9_readWord ∈ TT := nx_mem 581 (by decide +kernel) (by decide +kernel)
theorem tw_1 : Cond.selects RX9 yX9_readWord yX9_readWord ∈ TT := nx_mem 1 (by decide +kernel) (by decide +kernel)
theorem tw_582 : Cond.code yX9_readWord cX9_readWord 1 none ∈ TT := nx_mem 582 (by decide +kernel) (by decide +kernel)
theorem dX9_readNext_117 : decode cX9_readNext 117 = .ok (.goto 22, 3) := by decide +kernel
theorem dX9_readNext_88 : decode cX9_readNext 88 = .ok (.aload_n 0, 1) := by decide +kernel
theorem dX9_readNext_89 : decode cX9_readNext 89 = .ok (.iconst 3, 1) := by decide +kernel
theorem dX9_readNext_90 : decode cX9_readNext 90 = .ok (.putfield 36, 3) := by decide +kernel
theorem dX9_readNext_93 : decode cX9_readNext 93 = .ok (.aload_n 0, 1) := by decide +kernel
theorem dX9_readNext_94 : decode cX9_readNext 94 = .ok (.aload_n 0, 1) := by decide +kernel
theorem dX9_readNext_95 : decode cX9_readNext 95 = .ok (.getfield 25, 3) := by decide +kernel
theorem dX9_readNext_98 : decode cX9_readNext 98 = .ok (.iconst 1, 1) := by decide +kernel
theorem dX9_readNext_99 : decode cX9_readNext 99 = .ok (.iadd, 1) := by decide +kernel
theorem dX9_readNext_100 : decode cX9_readNext 100 = .ok (.putfield 19, 3) := by decide +kernel
theorem dX9_readNext_103 : decode cX9_readNext 103 = .ok (.goto 36, 3) := by decide +kernel
theorem dX9_readNext_74 : decode cX9_readNext 74 = .ok (.aload_n 0, 1) := by decide +kernel
theorem dX9_readNext_75 : decode cX9_readNext 75 = .ok (.iconst 0, 1) := by decide +kernel
theorem dX9_readNext_76 : decode cX9_readNext 76 = .ok (.putfield 36, 3) := by decide +kernel
theorem dX9_readNext_79 : decode cX9_readNext 79 = .ok (.goto 60, 3) := by decide +kernel
theorem dX9_readNext_19 : decode cX9_readNext 19 = .ok (.aload_n 0, 1) := by decide +kernel
theorem dX9_readNext_20 : decode cX9_readNext 20 = .ok (.aload_n 0, 1) := by decide +kernel
theorem dX9_readNext_21 : decode cX9_readNext 21 = .ok (.getfield 25, 3) := by decide +kernel
theorem dX9_readNext_24 : decode cX9_readNext 24 = .ok (.invokevirtual 28, 3) := by decide +kernel
theorem dX9_readNext_27 : decode cX9_readNext 27 = .ok (.invokestatic 32, 3) := by decide +kernel
theorem tw_573 : Cond.methodLink RX9 32 yX9_isBlank ∈ TT := nx_mem 573 (by decide +kernel) (by decide +kernel)
theorem tw_574 : Cond.static yX9_isBlank ∈ TT := nx_mem 574 (by decide +kernel) (by decide +kernel)
theorem tw_575 : Cond.code yX9_isBlank cX9_isBlank 1 (some .boolean) ∈ TT := nx_mem 575 (by decide +kernel) (by decide +kernel)
theorem dX9_readNext_30 : decode cX9_readNext 30 = .ok (.ifCond .eq 16, 3) := by decide +kernel
theorem dX9_readNext_33 : decode cX9_readNext 33 = .ok (.aload_n 0, 1) := by decide +kernel
theorem dX9_readNext_34 : decode cX9_readNext 34 = .ok (.dup, 1) := by decide +kernel
theorem dX9_readNext_35 : decode cX9_readNext 35 = .ok (.getfield 25, 3) := by decide +kernel
theorem dX9_readNext_38 : decode cX9_readNext 38 = .ok (.iconst 1, 1) := by decide +kernel
theorem dX9_readNext_39 : decode cX9_readNext 39 = .ok (.iadd, 1) := by decide +kernel
theorem dX9_readNext_40 : decode cX9_readNext 40 = .ok (.putfield 25, 3) := by decide +kernel
theorem dX9_readNext_43 : decode cX9_readNext 43 = .ok (.goto (-35), 3) := by decide +kernel
theorem dX9_rewind_0 : decode cX9_rewind 0 = .ok (.aload_n 0, 1) := by decide +kernel
theorem dX9_rewind_1 : decode cX9_rewind 1 = .ok (.iconst 0, 1) := by decide +kernel
theorem dX9_rewind_2 : decode cX9_rewind 2 = .ok (.putfield 19, 3) := by decide +kernel
theorem dX9_rewind_5 : decode cX9_rewind 5 = .ok (.aload_n 0, 1) := by decide +kernel
theorem dX9_rewind_6 : decode cX9_rewind 6 = .ok (.invokevirtual 22, 3) := by decide +kernel
theorem tw_565 : Cond.methodLink RX9 22 yX9_readNext ∈ TT := nx_mem 565 (by decide +kernel) (by decide +kernel)
theorem tw_566 : Cond.instanceMethod yX9_readNext ∈ TT := nx_mem 566 (by decide +kernel) (by decide +kernel)
theorem tw_567 : Cond.selects RX9 yX9_readNext yX9_readNext ∈ TT := nx_mem 567 (by decide +kernel) (by decide +kernel)
theorem tw_568 : Cond.code yX9_readNext cX9_readNext 2 none ∈ TT := nx_mem 568 (by decide +kernel) (by decide +kernel)
theorem dX9_rewind_9 : decode cX9_rewind 9 = .ok (.return_, 1) := by decide +kernel
theorem dX9_isAt_0 : decode cX9_isAt 0 = .ok (.aload_n 0, 1) := by decide +kernel
theorem dX9_isAt_1 : decode cX9_isAt 1 = .ok (.getfield 36, 3) := by decide +kernel
theorem dX9_isAt_4 : decode cX9_isAt 4 = .ok (.iconst 1, 1) := by decide +kernel
theorem dX9_isAt_5 : decode cX9_isAt 5 = .ok (.if_icmp .ne 19, 3) := by decide +kernel
theorem dX9_isAt_24 : decode cX9_isAt 24 = .ok (.iconst 0, 1) := by decide +kernel
theorem dX9_isAt_25 : decode cX9_isAt 25 = .ok (.ireturn, 1) := by decide +kernel
theorem dX9_isAt_8 : decode cX9_isAt 8 = .ok (.aload_n 0, 1) := by decide +kernel
theorem dX9_isAt_9 : decode cX9_isAt 9 = .ok (.getfield 19, 3) := by decide +kernel
theorem dX9_isAt_12 : decode cX9_isAt 12 = .ok (.aload_n 0, 1) := by decide +kernel
theorem dX9_isAt_13 : decode cX9_isAt 13 = .ok (.getfield 25, 3) := by decide +kernel
theorem dX9_isAt_16 : decode cX9_isAt 16 = .ok (.isub, 1) := by decide +kernel
theorem dX9_isAt_17 : decode cX9_isAt 17 = .ok (.aload_n 1, 1) := by decide +kernel
theorem dX9_isAt_18 : decode cX9_isAt 18 = .ok (.invokevirtual 58, 3) := by decide +kernel
theorem tw_595 : Cond.methodLink RX9 58 yJ0_length_8abf5 ∈ TT := nx_mem 595 (by decide +kernel) (by decide +kernel)
theorem tw_596 : Cond.instanceMethod yJ0_length_8abf5 ∈ TT := nx_mem 596 (by decide +kernel) (by decide +kernel)
theorem tw_597 : Cond.selects "java/lang/String" yJ0_length_8abf5 yJ0_length_8abf5 ∈ TT := nx_mem 597 (by decide +kernel) (by decide +kernel)
theorem tw_598 : Cond.code yJ0_length_8abf5 cJ0_length_8abf5 1 (some .int) ∈ TT := nx_mem 598 (by decide +kernel) (by decide +kernel)
theorem dX9_isAt_21 : decode cX9_isAt 21 = .ok (.if_icmp .eq 5, 3) := by decide +kernel
theorem dX9_isAt_26 : decode cX9_isAt 26 = .ok (.iconst 0, 1) := by decide +kernel
theorem dX9_isAt_27 : decode cX9_isAt 27 = .ok (.istore_n 2, 1) := by decide +kernel
theorem dX9_isAt_28 : decode cX9_isAt 28 = .ok (.iload_n 2, 1) := by decide +kernel
theorem dX9_isAt_29 : decode cX9_isAt 29 = .ok (.aload_n 1, 1) := by decide +kernel
theorem dX9_isAt_30 : decode cX9_isAt 30 = .ok (.invokevirtual 58, 3) := by decide +kernel
theorem dX9_isAt_33 : decode cX9_isAt 33 = .ok (.if_icmp .ge 29, 3) := by decide +kernel
theorem dX9_isAt_62 : decode cX9_isAt 62 = .ok (.iconst 1, 1) := by decide +kernel
theorem dX9_isAt_63 : decode cX9_isAt 63 = .ok (.ireturn, 1) := by decide +kernel
theorem dX9_isAt_36 : decode cX9_isAt 36 = .ok (.aload_n 0, 1) := by decide +kernel
theorem dX9_isAt_37 : decode cX9_isAt 37 = .ok (.aload_n 0, 1) := by decide +kernel
theorem dX9_isAt_38 : decode cX9_isAt 38 = .ok (.getfield 25, 3) := by decide +kernel
theorem dX9_isAt_41 : decode cX9_isAt 41 = .ok (.iload_n 2, 1) := by decide +kernel
theorem dX9_isAt_42 : decode cX9_isAt 42 = .ok (.iadd, 1) := by decide +kernel
theorem dX9_isAt_43 : decode cX9_isAt 43 = .ok (.invokevirtual 28, 3) := by decide +kernel
theorem dX9_isAt_46 : decode cX9_isAt 46 = .ok (.aload_n 1, 1) := by decide +kernel
theorem dX9_isAt_47 : decode cX9_isAt 47 = .ok (.iload_n 2, 1) := by decide +kernel
theorem dX9_isAt_48 : decode cX9_isAt 48 = .ok (.invokevirtual 64, 3) := by decide +kernel
theorem tw_605 : Cond.methodLink RX9 64 yJ0_charAt_5068e ∈ TT := nx_mem 605 (by decide +kernel) (by decide +kernel)
theorem tw_606 : Cond.instanceMethod yJ0_charAt_5068e ∈ TT := nx_mem 606 (by decide +kernel) (by decide +kernel)
theorem tw_607 : Cond.selects "java/lang/String" yJ0_charAt_5068e yJ0_charAt_5068e ∈ TT := nx_mem 607 (by decide +kernel) (by decide +kernel)
theorem tw_608 : Cond.code yJ0_charAt_5068e cJ0_charAt_5068e 2 (some .char) ∈ TT := nx_mem 608 (by decide +kernel) (by decide +kernel)
theorem dX9_isAt_51 : decode cX9_isAt 51 = .ok (.if_icmp .eq 5, 3) := by decide +kernel
theorem dX9_isAt_56 : decode cX9_isAt 56 = .ok (.iinc 2 1, 3) := by decide +kernel
theorem dX9_isAt_59 : decode cX9_isAt 59 = .ok (.goto (-31), 3) := by decide +kernel
theorem dX9_isAt_54 : decode cX9_isAt 54 = .ok (.iconst 0, 1) := by decide +kernel
theorem dX9_isAt_55 : decode cX9_isAt 55 = .ok (.ireturn, 1) := by decide +kernel
theorem dX9_isAtName_0 : decode cX9_isAtName 0 = .ok (.aload_n 0, 1) := by decide +kernel
theorem dX9_isAtName_1 : decode cX9_isAtName 1 = .ok (.getfield 36, 3) := by decide +kernel
theorem dX9_isAtName_4 : decode cX9_isAtName 4 = .ok (.iconst 1, 1) := by decide +kernel
theorem dX9_isAtName_5 : decode cX9_isAtName 5 = .ok (.if_icmp .ne 97, 3) := by decide +kernel
theorem dX9_isAtName_102 : decode cX9_isAtName 102 = .ok (.iconst 0, 1) := by decide +kernel
theorem dX9_isAtName_103 : decode cX9_isAtName 103 = .ok (.ireturn, 1) := by decide +kernel
theorem dX9_isAtName_8 : decode cX9_isAtName 8 = .ok (.aload_n 0, 1) := by decide +kernel
theorem dX9_isAtName_9 : decode cX9_isAtName 9 = .ok (.ldc 68, 2) := by decide +kernel
theorem dX9_isAtName_11 : decode cX9_isAtName 11 = .ok (.invokevirtual 70, 3) := by decide +kernel
theorem tw_661 : Cond.methodLink RX9 70 yX9_isAt ∈ TT := nx_mem 661 (by decide +kernel) (by decide +kernel)
theorem tw_592 : Cond.instanceMethod yX9_isAt ∈ TT := nx_mem 592 (by decide +kernel) (by decide +kernel)
theorem tw_593 : Cond.selects RX9 yX9_isAt yX9_isAt ∈ TT := nx_mem 593 (by decide +kernel) (by decide +kernel)
theorem tw_594 : Cond.code yX9_isAt cX9_isAt 3 (some .boolean) ∈ TT := nx_mem 594 (by decide +kernel) (by decide +kernel)
theorem dX9_isAtName_14 : decode cX9_isAtName 14 = .ok (.ifCond .ne 88, 3) := by decide +kernel
theorem dX9_isAtName_17 : decode cX9_isAtName 17 = .ok (.aload_n 0, 1) := by decide +kernel
theorem dX9_isAtName_18 : decode cX9_isAtName 18 = .ok (.ldc 74, 2) := by decide +kernel
theorem dX9_isAtName_20 : decode cX9_isAtName 20 = .ok (.invokevirtual 70, 3) := by decide +kernel
theorem dX9_isAtName_23 : decode cX9_isAtName 23 = .ok (.ifCond .ne 79, 3) := by decide +kernel
theorem dX9_isAtName_26 : decode cX9_isAtName 26 = .ok (.aload_n 0, 1) := by decide +kernel
theorem dX9_isAtName_27 : decode cX9_isAtName 27 = .ok (.ldc 76, 2) := by decide +kernel
theorem dX9_isAtName_29 : decode cX9_isAtName 29 = .ok (.invokevirtual 70, 3) := by decide +kernel
theorem dX9_isAtName_32 : decode cX9_isAtName 32 = .ok (.ifCond .ne 70, 3) := by decide +kernel
theorem dX9_isAtName_35 : decode cX9_isAtName 35 = .ok (.aload_n 0, 1) := by decide +kernel
theorem dX9_isAtName_36 : decode cX9_isAtName 36 = .ok (.ldc 78, 2) := by decide +kernel
theorem dX9_isAtName_38 : decode cX9_isAtName 38 = .ok (.invokevirtual 70, 3) := by decide +kernel
theorem dX9_isAtName_41 : decode cX9_isAtName 41 = .ok (.ifCond .ne 61, 3) := by decide +kernel
theorem dX9_isAtName_44 : decode cX9_isAtName 44 = .ok (.aload_n 0, 1) := by decide +kernel
theorem dX9_isAtName_45 : decode cX9_isAtName 45 = .ok (.ldc 80, 2) := by decide +kernel
theorem dX9_isAtName_47 : decode cX9_isAtName 47 = .ok (.invokevirtual 70, 3) := by decide +kernel
theorem dX9_isAtName_50 : decode cX9_isAtName 50 = .ok (.ifCond .ne 52, 3) := by decide +kernel
theorem dX9_isAtName_53 : decode cX9_isAtName 53 = .ok (.aload_n 0, 1) := by decide +kernel
theorem dX9_isAtName_54 : decode cX9_isAtName 54 = .ok (.ldc 82, 2) := by decide +kernel
theorem dX9_isAtName_56 : decode cX9_isAtName 56 = .ok (.invokevirtual 70, 3) := by decide +kernel
theorem dX9_isAtName_59 : decode cX9_isAtName 59 = .ok (.ifCond .ne 43, 3) := by decide +kernel
theorem dX9_isAtName_62 : decode cX9_isAtName 62 = .ok (.aload_n 0, 1) := by decide +kernel
theorem dX9_isAtName_63 : decode cX9_isAtName 63 = .ok (.ldc 84, 2) := by decide +kernel
theorem dX9_isAtName_65 : decode cX9_isAtName 65 = .ok (.invokevirtual 70, 3) := by decide +kernel
theorem dX9_isAtName_68 : decode cX9_isAtName 68 = .ok (.ifCond .ne 34, 3) := by decide +kernel
theorem dX9_isAtName_71 : decode cX9_isAtName 71 = .ok (.aload_n 0, 1) := by decide +kernel
theorem dX9_isAtName_72 : decode cX9_isAtName 72 = .ok (.ldc 86, 2) := by decide +kernel
theorem dX9_isAtName_74 : decode cX9_isAtName 74 = .ok (.invokevirtual 70, 3) := by decide +kernel
theorem dX9_isAtName_77 : decode cX9_isAtName 77 = .ok (.ifCond .ne 25, 3) := by decide +kernel
theorem dX9_isAtName_80 : decode cX9_isAtName 80 = .ok (.aload_n 0, 1) := by decide +kernel
theorem dX9_isAtName_81 : decode cX9_isAtName 81 = .ok (.ldc 88, 2) := by decide +kernel
theorem dX9_isAtName_83 : decode cX9_isAtName 83 = .ok (.invokevirtual 70, 3) := by decide +kernel
theorem dX9_isAtName_86 : decode cX9_isAtName 86 = .ok (.ifCond .ne 16, 3) := by decide +kernel
theorem dX9_isAtName_89 : decode cX9_isAtName 89 = .ok (.aload_n 0, 1) := by decide +kernel
theorem dX9_isAtName_90 : decode cX9_isAtName 90 = .ok (.ldc 90, 2) := by decide +kernel
theorem dX9_isAtName_92 : decode cX9_isAtName 92 = .ok (.invokevirtual 70, 3) := by decide +kernel
theorem dX9_isAtName_95 : decode cX9_isAtName 95 = .ok (.ifCond .ne 7, 3) := by decide +kernel
theorem dX9_isAtName_98 : decode cX9_isAtName 98 = .ok (.iconst 1, 1) := by decide +kernel
theorem dX9_isAtName_99 : decode cX9_isAtName 99 = .ok (.goto 4, 3) := by decide +kernel
set_option maxHeartbeats 4000000 in
set_option maxRecDepth 100000 in
theorem s_X9_hasRoomFor (lau : Launch) (gg : va_G) (kA : Nat → ClassId) (t : Nat) (m : Nat) (t0 : Nat) (tsz : Nat) (tkd : Int32) (tpl : Int32) (tbh : Int32) (twd : Int64) (tnu : Int32) (tby : Nat → Int32) (htsz : tsz ≤ 1600) (hm : m ≤ 1000) : CtI lau yX9_hasRoomFor cX9_hasRoomFor 2 (some .boolean) 1 0 0 gg kA [.ref t, .int (nI m)] (mflat [(t, .inl (.inr (9, [.ref t0, .int (nI tsz), .int tkd, .int tpl, .int tbh, .long twd, .int tnu]))), (t0, .inl (.inl (kA 0, 1600, .inl tby)))]) (S := Nat) (fun (r : Int32) (y_r : Nat) => r = nI y_r ∧ (y_r ≤ 1) ∧ (y_r = 1 ↔ tsz + m ≤ 1600)) (fun (y_r : Nat) => mflat [(t, .inl (.inr (9, [.ref t0, .int (nI tsz), .int tkd, .int tpl, .int tbh, .long twd, .int tnu]))), (t0, .inl (.inl (kA 0, 1600, .inl tby)))]) := by
  refine nx_startI (by decide +kernel) (Nat.le_of_ble_eq_true rfl) ?_
  intro x hnm h hq
  have h : Ok x cX9_hasRoomFor RX9 kA (rmC 1 0 0) 2 := h
  show J x (mflat [(t, .inl (.inr (9, [.ref t0, .int (nI tsz), .int tkd, .int tpl, .int tbh, .long twd, .int tnu]))), (t0, .inl (.inl (kA 0, 1600, .inl tby)))]) [(0, .ref t), (1, .int (nI m))] 0 0 0 []
  refine j_aload_n h 0 rfl rfl dX9_hasRoomFor_0 ?_
  refine jm_get h iw_X9 0 rfl rfl 1 (by decide +kernel) tw_122 rfl dX9_hasRoomFor_1 ?_
  refine j_iload_n h 1 rfl rfl dX9_hasRoomFor_4 ?_
  refine j_iadd h dX9_hasRoomFor_5 ?_
  refine j_top (b := nI (tsz + m)) (nI_add tsz m) ?_
  refine j_aload_n h 0 rfl rfl dX9_hasRoomFor_6 ?_
  refine jm_get h iw_X9 0 rfl rfl 0 (by decide +kernel) tw_121 rfl dX9_hasRoomFor_7 ?_
  refine jm_alen (v := 1600) h 1 0 rfl rfl rfl dX9_hasRoomFor_10 ?_
  refine j_icmp_gt h 18 dX9_hasRoomFor_11 (by decide) (fun z5470 => ?_) (fun z5470 => ?_)
  · have z5470n : 1600 < (tsz + m) := (nI_ltI (a := 1600) (b := (tsz + m)) (by omega) (by omega)).mp z5470
    refine j_iconst (v := 0) h (by decide) dX9_hasRoomFor_18 ?_
    exact jm_zret h hq rfl dX9_hasRoomFor_19 0 [0, 1] rfl (by decide) ⟨rfl, (show 0 ≤ 1 by first | assumption | omega), (show 0 = 1 ↔ tsz + m ≤ 1600 by first | assumption | omega)⟩ (Nat.le_of_ble_eq_true rfl) (Nat.le_of_ble_eq_true rfl)
  · have z5470n : ¬ 1600 < (tsz + m) := fun q9 => z5470 ((nI_ltI (a := 1600) (b := (tsz + m)) (by omega) (by omega)).mpr q9)
    refine j_iconst (v := 1) h (by decide) dX9_hasRoomFor_14 ?_
    refine j_goto h 19 dX9_hasRoomFor_15 (by decide) ?_
    exact jm_zret h hq rfl dX9_hasRoomFor_19 1 [0, 1] rfl (by decide) ⟨rfl, (show 1 ≤ 1 by first | assumption | omega), (show 1 = 1 ↔ tsz + m ≤ 1600 by first | assumption | omega)⟩ (Nat.le_of_ble_eq_true rfl) (Nat.le_of_ble_eq_true rfl)
