theorem dX9_hasRoomFor_0 : decode cX9_hasRoomFor 0 = .ok (.aload_n 0, 1) := by decide +kernel
theorem dX9_hasRoomFor_1 : decode cX9_hasRoomFor 1 = .ok (.getfield 15, 3) := by decide +kernel
theorem iw_X9 : ∀ w ∈ u_ws RX9 TX9 7, w ∈ TT := nx_mems _ [133, 135, 137, 139, 141, 143, 145] (by decide +kernel) (by decide +kernel)
theorem tw_122 : Cond.fieldLink RX9 15 "LimpCode$Tape" "size" "I" ∈ TT := nx_mem 122 (by decide +kernel) (by decide +kernel)
theorem dX9_hasRoomFor_4 : decode cX9_hasRoomFor 4 = .ok (.iload_n 1, 1) := by decide +kernel
theorem dX9_hasRoomFor_5 : decode cX9_hasRoomFor 5 = .ok (.iadd, 1) := by decide +kernel
theorem dX9_hasRoomFor_6 : decode cX9_hasRoomFor 6 = .ok (.aload_n 0, 1) := by decide +kernel
theorem dX9_hasRoomFor_7 : decode cX9_hasRoomFor 7 = .ok (.getfield 9, 3) := by decide +kernel
theorem tw_121 : Cond.fieldLink RX9 9 "LimpCode$Tape" "bytes" "[B" ∈ TT := nx_mem 121 (by decide +kernel) (by decide +kernel)
theorem dX9_hasRoomFor_10 : decode cX9_hasRoomFor 10 = .ok (.arraylength, 1) := by decide +kernel
theorem dX9_hasRoomFor_11 : decode cX9_hasRoomFor 11 = .ok (.if_icmp .gt 7, 3) := by decide +kernel
theorem dX9_hasRoomFor_18 : decode cX9_hasRoomFor 18 = .ok (.iconst 0, 1) := by decide +kernel
theorem dX9_hasRoomFor_19 : decode cX9_hasRoomFor 19 = .ok (.ireturn, 1) := by decide +kernel
theorem dX9_hasRoomFor_14 : decode cX9_hasRoomFor 14 = .ok (.iconst 1, 1) := by decide +kernel
theorem dX9_hasRoomFor_15 : decode cX9_hasRoomFor 15 = .ok (.goto 4, 3) := by decide +kernel
theorem dX9_put_0 : decode cX9_put 0 = .ok (.bipush 24, 2) := by decide +kernel
theorem dX9_put_2 : decode cX9_put 2 = .ok (.istore_n 2, 1) := by decide +kernel
theorem dX9_put_3 : decode cX9_put 3 = .ok (.iload_n 2, 1) := by decide +kernel
theorem dX9_put_4 : decode cX9_put 4 = .ok (.ifCond .lt 44, 3) := by decide +kernel
theorem dX9_put_7 : decode cX9_put 7 = .ok (.aload_n 0, 1) := by decide +kernel
theorem dX9_put_8 : decode cX9_put 8 = .ok (.getfield 15, 3) := by decide +kernel
theorem dX9_put_11 : decode cX9_put 11 = .ok (.aload_n 0, 1) := by decide +kernel
theorem dX9_put_12 : decode cX9_put 12 = .ok (.getfield 9, 3) := by decide +kernel
theorem dX9_put_15 : decode cX9_put 15 = .ok (.arraylength, 1) := by decide +kernel
theorem dX9_put_16 : decode cX9_put 16 = .ok (.if_icmp .ge 26, 3) := by decide +kernel
theorem dX9_put_42 : decode cX9_put 42 = .ok (.iinc 2 (-8), 3) := by decide +kernel
theorem dX9_put_45 : decode cX9_put 45 = .ok (.goto (-42), 3) := by decide +kernel
theorem dX9_put_48 : decode cX9_put 48 = .ok (.return_, 1) := by decide +kernel
theorem dX9_put_19 : decode cX9_put 19 = .ok (.aload_n 0, 1) := by decide +kernel
theorem dX9_put_20 : decode cX9_put 20 = .ok (.getfield 9, 3) := by decide +kernel
theorem dX9_put_23 : decode cX9_put 23 = .ok (.aload_n 0, 1) := by decide +kernel
theorem dX9_put_24 : decode cX9_put 24 = .ok (.getfield 15, 3) := by decide +kernel
theorem dX9_put_27 : decode cX9_put 27 = .ok (.iload_n 1, 1) := by decide +kernel
theorem dX9_put_28 : decode cX9_put 28 = .ok (.iload_n 2, 1) := by decide +kernel
theorem dX9_put_29 : decode cX9_put 29 = .ok (.ishr, 1) := by decide +kernel
theorem dX9_put_30 : decode cX9_put 30 = .ok (.i2b, 1) := by decide +kernel
theorem dX9_put_31 : decode cX9_put 31 = .ok (.bastore, 1) := by decide +kernel
theorem dX9_put_32 : decode cX9_put 32 = .ok (.aload_n 0, 1) := by decide +kernel
theorem dX9_put_33 : decode cX9_put 33 = .ok (.dup, 1) := by decide +kernel
theorem dX9_put_34 : decode cX9_put 34 = .ok (.getfield 15, 3) := by decide +kernel
theorem dX9_put_37 : decode cX9_put 37 = .ok (.iconst 1, 1) := by decide +kernel
theorem dX9_put_38 : decode cX9_put 38 = .ok (.iadd, 1) := by decide +kernel
theorem dX9_put_39 : decode cX9_put 39 = .ok (.putfield 15, 3) := by decide +kernel
theorem dX9_isBlank_0 : decode cX9_isBlank 0 = .ok (.iload_n 0, 1) := by decide +kernel
theorem dX9_isBlank_1 : decode cX9_isBlank 1 = .ok (.bipush 32, 2) := by decide +kernel
theorem dX9_isBlank_3 : decode cX9_isBlank 3 = .ok (.if_icmp .eq 9, 3) := by decide +kernel
theorem dX9_isBlank_12 : decode cX9_isBlank 12 = .ok (.iconst 1, 1) := by decide +kernel
theorem dX9_isBlank_13 : decode cX9_isBlank 13 = .ok (.goto 4, 3) := by decide +kernel
theorem dX9_isBlank_17 : decode cX9_isBlank 17 = .ok (.ireturn, 1) := by decide +kernel
theorem dX9_isBlank_6 : decode cX9_isBlank 6 = .ok (.iload_n 0, 1) := by decide +kernel
theorem dX9_isBlank_7 : decode cX9_isBlank 7 = .ok (.bipush 10, 2) := by decide +kernel
theorem dX9_isBlank_9 : decode cX9_isBlank 9 = .ok (.if_icmp .ne 7, 3) := by decide +kernel
theorem dX9_isBlank_16 : decode cX9_isBlank 16 = .ok (.iconst 0, 1) := by decide +kernel
theorem dX9_isLetter_0 : decode cX9_isLetter 0 = .ok (.iload_n 0, 1) := by decide +kernel
theorem dX9_isLetter_1 : decode cX9_isLetter 1 = .ok (.bipush 97, 2) := by decide +kernel
theorem dX9_isLetter_3 : decode cX9_isLetter 3 = .ok (.if_icmp .lt 13, 3) := by decide +kernel
theorem dX9_isLetter_16 : decode cX9_isLetter 16 = .ok (.iconst 0, 1) := by decide +kernel
theorem dX9_isLetter_17 : decode cX9_isLetter 17 = .ok (.ireturn, 1) := by decide +kernel
theorem dX9_isLetter_6 : decode cX9_isLetter 6 = .ok (.iload_n 0, 1) := by decide +kernel
theorem dX9_isLetter_7 : decode cX9_isLetter 7 = .ok (.bipush 122, 2) := by decide +kernel
theorem dX9_isLetter_9 : decode cX9_isLetter 9 = .ok (.if_icmp .gt 7, 3) := by decide +kernel
theorem dX9_isLetter_12 : decode cX9_isLetter 12 = .ok (.iconst 1, 1) := by decide +kernel
theorem dX9_isLetter_13 : decode cX9_isLetter 13 = .ok (.goto 4, 3) := by decide +kernel
theorem dX9_isDigit_0 : decode cX9_isDigit 0 = .ok (.iload_n 0, 1) := by decide +kernel
theorem dX9_isDigit_1 : decode cX9_isDigit 1 = .ok (.bipush 48, 2) := by decide +kernel
theorem dX9_isDigit_3 : decode cX9_isDigit 3 = .ok (.if_icmp .lt 13, 3) := by decide +kernel
theorem dX9_isDigit_16 : decode cX9_isDigit 16 = .ok (.iconst 0, 1) := by decide +kernel
theorem dX9_isDigit_17 : decode cX9_isDigit 17 = .ok (.ireturn, 1) := by decide +kernel
theorem dX9_isDigit_6 : decode cX9_isDigit 6 = .ok (.iload_n 0, 1) := by decide +kernel
theorem dX9_isDigit_7 : decode cX9_isDigit 7 = .ok (.bipush 57, 2) := by decide +kernel
theorem dX9_isDigit_9 : decode cX9_isDigit 9 = .ok (.if_icmp .gt 7, 3) := by decide +kernel
theorem dX9_isDigit_12 : decode cX9_isDigit 12 = .ok (.iconst 1, 1) := by decide +kernel
theorem dX9_isDigit_13 : decode cX9_isDigit 13 = .ok (.goto 4, 3) := by decide +kernel
theorem dX9_byteAt_0 : decode cX9_byteAt 0 = .ok (.iload_n 1, 1) := by decide +kernel
theorem dX9_byteAt_1 : decode cX9_byteAt 1 = .ok (.ifCond .lt 29, 3) := by decide +kernel
theorem dX9_byteAt_30 : decode cX9_byteAt 30 = .ok (.iconst 0, 1) := by decide +kernel
theorem dX9_byteAt_31 : decode cX9_byteAt 31 = .ok (.ireturn, 1) := by decide +kernel
theorem dX9_byteAt_4 : decode cX9_byteAt 4 = .ok (.iload_n 1, 1) := by decide +kernel
theorem dX9_byteAt_5 : decode cX9_byteAt 5 = .ok (.aload_n 0, 1) := by decide +kernel
theorem dX9_byteAt_6 : decode cX9_byteAt 6 = .ok (.getfield 15, 3) := by decide +kernel
theorem dX9_byteAt_9 : decode cX9_byteAt 9 = .ok (.if_icmp .ge 21, 3) := by decide +kernel
theorem dX9_byteAt_12 : decode cX9_byteAt 12 = .ok (.iload_n 1, 1) := by decide +kernel
theorem dX9_byteAt_13 : decode cX9_byteAt 13 = .ok (.aload_n 0, 1) := by decide +kernel
theorem dX9_byteAt_14 : decode cX9_byteAt 14 = .ok (.getfield 9, 3) := by decide +kernel
theorem dX9_byteAt_17 : decode cX9_byteAt 17 = .ok (.arraylength, 1) := by decide +kernel
theorem dX9_byteAt_18 : decode cX9_byteAt 18 = .ok (.if_icmp .ge 12, 3) := by decide +kernel
theorem dX9_byteAt_21 : decode cX9_byteAt 21 = .ok (.aload_n 0, 1) := by decide +kernel
theorem dX9_byteAt_22 : decode cX9_byteAt 22 = .ok (.getfield 9, 3) := by decide +kernel
theorem dX9_byteAt_25 : decode cX9_byteAt 25 = .ok (.iload_n 1, 1) := by decide +kernel
theorem dX9_byteAt_26 : decode cX9_byteAt 26 = .ok (.baload, 1) := by decide +kernel
theorem dX9_byteAt_27 : decode cX9_byteAt 27 = .ok (.goto 4, 3) := by decide +kernel
theorem dX9_readWord_0 : decode cX9_readWord 0 = .ok (.aload_n 0, 1) := by decide +kernel
theorem dX9_readWord_1 : decode cX9_readWord 1 = .ok (.lconst 0, 1) := by decide +kernel
theorem dX9_readWord_2 : decode cX9_readWord 2 = .ok (.putfield 51, 3) := by decide +kernel
theorem tw_129 : Cond.fieldLink RX9 51 "LimpCode$Tape" "word" "J" ∈ TT := nx_mem 129 (by decide +kernel) (by decide +kernel)
theorem dX9_readWord_5 : decode cX9_readWord 5 = .ok (.aload_n 0, 1) := by decide +kernel
theorem dX9_readWord_6 : decode cX9_readWord 6 = .ok (.getfield 19, 3) := by decide +kernel
theorem tw_128 : Cond.fieldLink RX9 19 "LimpCode$Tape" "behind" "I" ∈ TT := nx_mem 128 (by decide +kernel) (by decide +kernel)
theorem dX9_readWord_9 : decode cX9_readWord 9 = .ok (.aload_n 0, 1) := by decide +kernel
theorem dX9_readWord_10 : decode cX9_readWord 10 = .ok (.getfield 15, 3) := by decide +kernel
theorem dX9_readWord_13 : decode cX9_readWord 13 = .ok (.if_icmp .ge 55, 3) := by decide +kernel
theorem dX9_readWord_68 : decode cX9_readWord 68 = .ok (.aload_n 0, 1) := by decide +kernel
theorem dX9_readWord_69 : decode cX9_readWord 69 = .ok (.aload_n 0, 1) := by decide +kernel
theorem dX9_readWord_70 : decode cX9_readWord 70 = .ok (.getfield 19, 3) := by decide +kernel
theorem dX9_readWord_73 : decode cX9_readWord 73 = .ok (.aload_n 0, 1) := by decide +kernel
theorem dX9_readWord_74 : decode cX9_readWord 74 = .ok (.getfield 25, 3) := by decide +kernel
theorem tw_126 : Cond.fieldLink RX9 25 "LimpCode$Tape" "place" "I" ∈ TT := nx_mem 126 (by decide +kernel) (by decide +kernel)
theorem dX9_readWord_77 : decode cX9_readWord 77 = .ok (.isub, 1) := by decide +kernel
theorem dX9_readWord_78 : decode cX9_readWord 78 = .ok (.bipush 8, 2) := by decide +kernel
theorem dX9_readWord_80 : decode cX9_readWord 80 = .ok (.if_icmp .le 7, 3) := by decide +kernel
theorem dX9_readWord_87 : decode cX9_readWord 87 = .ok (.iconst 1, 1) := by decide +kernel
theorem dX9_readWord_88 : decode cX9_readWord 88 = .ok (.putfield 36, 3) := by decide +kernel
theorem tw_125 : Cond.fieldLink RX9 36 "LimpCode$Tape" "kind" "I" ∈ TT := nx_mem 125 (by decide +kernel) (by decide +kernel)
theorem dX9_readWord_91 : decode cX9_readWord 91 = .ok (.return_, 1) := by decide +kernel
theorem dX9_readWord_83 : decode cX9_readWord 83 = .ok (.iconst 4, 1) := by decide +kernel
theorem dX9_readWord_84 : decode cX9_readWord 84 = .ok (.goto 4, 3) := by decide +kernel
theorem dX9_readWord_16 : decode cX9_readWord 16 = .ok (.aload_n 0, 1) := by decide +kernel
theorem dX9_readWord_17 : decode cX9_readWord 17 = .ok (.aload_n 0, 1) := by decide +kernel
theorem dX9_readWord_18 : decode cX9_readWord 18 = .ok (.getfield 19, 3) := by decide +kernel
theorem dX9_readWord_21 : decode cX9_readWord 21 = .ok (.invokevirtual 28, 3) := by decide +kernel
theorem tw_569 : Cond.methodLink RX9 28 yX9_byteAt ∈ TT := nx_mem 569 (by decide +kernel) (by decide +kernel)
theorem tw_571 : Cond.instanceMethod yX9_byteAt ∈ TT := nx_mem 571 (by decide +kernel) (by decide +kernel)
theorem tw_0 : Cond.selects RX9 yX9_byteAt yX9_byteAt ∈ TT := nx_mem 0 (by decide +kernel) (by decide +kernel)
theorem tw_88 : Cond.initialized RX9 ∈ TT := nx_mem 88 (by decide +kernel) (by decide +kernel)
theorem tw_572 : Cond.code yX9_byteAt cX9_byteAt 2 (some .int) ∈ TT := nx_mem 572 (by decide +kernel) (by decide +kernel)
theorem dX9_readWord_24 : decode cX9_readWord 24 = .ok (.invokestatic 39, 3) := by decide +kernel
theorem tw_576 : Cond.methodLink RX9 39 yX9_isLetter ∈ TT := nx_mem 576 (by decide +kernel) (by decide +kernel)
theorem tw_577 : Cond.static yX9_isLetter ∈ TT := nx_mem 577 (by decide +kernel) (by decide +kernel)
theorem tw_578 : Cond.code yX9_isLetter cX9_isLetter 1 (some .boolean) ∈ TT := nx_mem 578 (by decide +kernel) (by decide +kernel)
theorem dX9_readWord_27 : decode cX9_readWord 27 = .ok (.ifCond .eq 41, 3) := by decide +kernel
theorem dX9_readWord_30 : decode cX9_readWord 30 = .ok (.aload_n 0, 1) := by decide +kernel
theorem dX9_readWord_31 : decode cX9_readWord 31 = .ok (.aload_n 0, 1) := by decide +kernel
theorem dX9_readWord_32 : decode cX9_readWord 32 = .ok (.getfield 51, 3) := by decide +kernel
theorem dX9_readWord_35 : decode cX9_readWord 35 = .ok (.iconst 5, 1) := by decide +kernel
theorem dX9_readWord_36 : decode cX9_readWord 36 = .ok (.lshl, 1) := by decide +kernel
theorem dX9_readWord_37 : decode cX9_readWord 37 = .ok (.aload_n 0, 1) := by decide +kernel
theorem dX9_readWord_38 : decode cX9_readWord 38 = .ok (.aload_n 0, 1) := by decide +kernel
theorem dX9_readWord_39 : decode cX9_readWord 39 = .ok (.getfield 19, 3) := by decide +kernel
theorem dX9_readWord_42 : decode cX9_readWord 42 = .ok (.invokevirtual 28, 3) := by decide +kernel
theorem dX9_readWord_45 : decode cX9_readWord 45 = .ok (.bipush 97, 2) := by decide +kernel
theorem dX9_readWord_47 : decode cX9_readWord 47 = .ok (.isub, 1) := by decide +kernel
theorem dX9_readWord_48 : decode cX9_readWord 48 = .ok (.iconst 1, 1) := by decide +kernel
theorem dX9_readWord_49 : decode cX9_readWord 49 = .ok (.iadd, 1) := by decide +kernel
theorem dX9_readWord_50 : decode cX9_readWord 50 = .ok (.i2l, 1) := by decide +kernel
theorem dX9_readWord_51 : decode cX9_readWord 51 = .ok (.lor, 1) := by decide +kernel
theorem dX9_readWord_52 : decode cX9_readWord 52 = .ok (.putfield 51, 3) := by decide +kernel
theorem dX9_readWord_55 : decode cX9_readWord 55 = .ok (.aload_n 0, 1) := by decide +kernel
theorem dX9_readWord_56 : decode cX9_readWord 56 = .ok (.dup, 1) := by decide +kernel
theorem dX9_readWord_57 : decode cX9_readWord 57 = .ok (.getfield 19, 3) := by decide +kernel
theorem dX9_readWord_60 : decode cX9_readWord 60 = .ok (.iconst 1, 1) := by decide +kernel
theorem dX9_readWord_61 : decode cX9_readWord 61 = .ok (.iadd, 1) := by decide +kernel
theorem dX9_readWord_62 : decode cX9_readWord 62 = .ok (.putfield 19, 3) := by decide +kernel
theorem dX9_readWord_65 : decode cX9_readWord 65 = .ok (.goto (-60), 3) := by decide +kernel
theorem dX9_readNumber_0 : decode cX9_readNumber 0 = .ok (.aload_n 0, 1) := by decide +kernel
theorem dX9_readNumber_1 : decode cX9_readNumber 1 = .ok (.iconst 0, 1) := by decide +kernel
theorem dX9_readNumber_2 : decode cX9_readNumber 2 = .ok (.putfield 55, 3) := by decide +kernel
theorem tw_131 : Cond.fieldLink RX9 55 "LimpCode$Tape" "number" "I" ∈ TT := nx_mem 131 (by decide +kernel) (by decide +kernel)
theorem dX9_readNumber_5 : decode cX9_readNumber 5 = .ok (.aload_n 0, 1) := by decide +kernel
theorem dX9_readNumber_6 : decode cX9_readNumber 6 = .ok (.getfield 19, 3) := by decide +kernel
theorem dX9_readNumber_9 : decode cX9_readNumber 9 = .ok (.aload_n 0, 1) := by decide +kernel
theorem dX9_readNumber_10 : decode cX9_readNumber 10 = .ok (.getfield 15, 3) := by decide +kernel
theorem dX9_readNumber_13 : decode cX9_readNumber 13 = .ok (.if_icmp .ge 53, 3) := by decide +kernel
theorem dX9_readNumber_66 : decode cX9_readNumber 66 = .ok (.aload_n 0, 1) := by decide +kernel
theorem dX9_readNumber_67 : decode cX9_readNumber 67 = .ok (.getfield 19, 3) := by decide +kernel
theorem dX9_readNumber_70 : decode cX9_readNumber 70 = .ok (.aload_n 0, 1) := by decide +kernel
theorem dX9_readNumber_71 : decode cX9_readNumber 71 = .ok (.getfield 25, 3) := by decide +kernel
theorem dX9_readNumber_74 : decode cX9_readNumber 74 = .ok (.isub, 1) := by decide +kernel
theorem dX9_readNumber_75 : decode cX9_readNumber 75 = .ok (.iconst 4, 1) := by decide +kernel
theorem dX9_readNumber_76 : decode cX9_readNumber 76 = .ok (.if_icmp .le 7, 3) := by decide +kernel
theorem dX9_readNumber_83 : decode cX9_readNumber 83 = .ok (.iconst 0, 1) := by decide +kernel
theorem dX9_readNumber_84 : decode cX9_readNumber 84 = .ok (.istore_n 1, 1) := by decide +kernel
theorem dX9_readNumber_85 : decode cX9_readNumber 85 = .ok (.aload_n 0, 1) := by decide +kernel
theorem dX9_readNumber_86 : decode cX9_readNumber 86 = .ok (.iload_n 1, 1) := by decide +kernel
theorem dX9_readNumber_87 : decode cX9_readNumber 87 = .ok (.ifCond .ne 17, 3) := by decide +kernel
theorem dX9_readNumber_90 : decode cX9_readNumber 90 = .ok (.aload_n 0, 1) := by decide +kernel
theorem dX9_readNumber_91 : decode cX9_readNumber 91 = .ok (.aload_n 0, 1) := by decide +kernel
theorem dX9_readNumber_92 : decode cX9_readNumber 92 = .ok (.getfield 19, 3) := by decide +kernel
theorem dX9_readNumber_95 : decode cX9_readNumber 95 = .ok (.invokevirtual 28, 3) := by decide +kernel
theorem dX9_readNumber_98 : decode cX9_readNumber 98 = .ok (.invokestatic 39, 3) := by decide +kernel
theorem dX9_readNumber_101 : decode cX9_readNumber 101 = .ok (.ifCond .eq 7, 3) := by decide +kernel
theorem dX9_readNumber_108 : decode cX9_readNumber 108 = .ok (.iconst 2, 1) := by decide +kernel
theorem dX9_readNumber_109 : decode cX9_readNumber 109 = .ok (.putfield 36, 3) := by decide +kernel
theorem dX9_readNumber_112 : decode cX9_readNumber 112 = .ok (.return_, 1) := by decide +kernel
theorem dX9_readNumber_104 : decode cX9_readNumber 104 = .ok (.iconst 4, 1) := by decide +kernel
theorem dX9_readNumber_105 : decode cX9_readNumber 105 = .ok (.goto 4, 3) := by decide +kernel
theorem dX9_readNumber_79 : decode cX9_readNumber 79 = .ok (.iconst 1, 1) := by decide +kernel
theorem dX9_readNumber_80 : decode cX9_readNumber 80 = .ok (.goto 4, 3) := by decide +kernel
theorem dX9_readNumber_16 : decode cX9_readNumber 16 = .ok (.aload_n 0, 1) := by decide +kernel
theorem dX9_readNumber_17 : decode cX9_readNumber 17 = .ok (.aload_n 0, 1) := by decide +kernel
theorem dX9_readNumber_18 : decode cX9_readNumber 18 = .ok (.getfield 19, 3) := by decide +kernel
theorem dX9_readNumber_21 : decode cX9_readNumber 21 = .ok (.invokevirtual 28, 3) := by decide +kernel
theorem dX9_readNumber_24 : decode cX9_readNumber 24 = .ok (.invokestatic 45, 3) := by decide +kernel
theorem tw_583 : Cond.methodLink RX9 45 yX9_isDigit ∈ TT := nx_mem 583 (by decide +kernel) (by decide +kernel)
theorem tw_584 : Cond.static yX9_isDigit ∈ TT := nx_mem 584 (by decide +kernel) (by decide +kernel)
theorem tw_585 : Cond.code yX9_isDigit cX9_isDigit 1 (some .boolean) ∈ TT := nx_mem 585 (by decide +kernel) (by decide +kernel)
theorem dX9_readNumber_27 : decode cX9_readNumber 27 = .ok (.ifCond .eq 39, 3) := by decide +kernel
theorem dX9_readNumber_30 : decode cX9_readNumber 30 = .ok (.aload_n 0, 1) := by decide +kernel
theorem dX9_readNumber_31 : decode cX9_readNumber 31 = .ok (.aload_n 0, 1) := by decide +kernel
theorem dX9_readNumber_32 : decode cX9_readNumber 32 = .ok (.getfield 55, 3) := by decide +kernel
theorem dX9_readNumber_35 : decode cX9_readNumber 35 = .ok (.bipush 10, 2) := by decide +kernel
theorem dX9_readNumber_37 : decode cX9_readNumber 37 = .ok (.imul, 1) := by decide +kernel
theorem dX9_readNumber_38 : decode cX9_readNumber 38 = .ok (.aload_n 0, 1) := by decide +kernel
theorem dX9_readNumber_39 : decode cX9_readNumber 39 = .ok (.aload_n 0, 1) := by decide +kernel
theorem dX9_readNumber_40 : decode cX9_readNumber 40 = .ok (.getfield 19, 3) := by decide +kernel
theorem dX9_readNumber_43 : decode cX9_readNumber 43 = .ok (.invokevirtual 28, 3) := by decide +kernel
theorem dX9_readNumber_46 : decode cX9_readNumber 46 = .ok (.iadd, 1) := by decide +kernel
theorem dX9_readNumber_47 : decode cX9_readNumber 47 = .ok (.bipush 48, 2) := by decide +kernel
theorem dX9_readNumber_49 : decode cX9_readNumber 49 = .ok (.isub, 1) := by decide +kernel
theorem dX9_readNumber_50 : decode cX9_readNumber 50 = .ok (.putfield 55, 3) := by decide +kernel
theorem dX9_readNumber_53 : decode cX9_readNumber 53 = .ok (.aload_n 0, 1) := by decide +kernel
theorem dX9_readNumber_54 : decode cX9_readNumber 54 = .ok (.dup, 1) := by decide +kernel
theorem dX9_readNumber_55 : decode cX9_readNumber 55 = .ok (.getfield 19, 3) := by decide +kernel
theorem dX9_readNumber_58 : decode cX9_readNumber 58 = .ok (.iconst 1, 1) := by decide +kernel
theorem dX9_readNumber_59 : decode cX9_readNumber 59 = .ok (.iadd, 1) := by decide +kernel
theorem dX9_readNumber_60 : decode cX9_readNumber 60 = .ok (.putfield 19, 3) := by decide +kernel
theorem dX9_readNumber_63 : decode cX9_readNumber 63 = .ok (.goto (-58), 3) := by decide +kernel
theorem dX9_readNext_0 : decode cX9_readNext 0 = .ok (.aload_n 0, 1) := by decide +kernel
theorem dX9_readNext_1 : decode cX9_readNext 1 = .ok (.aload_n 0, 1) := by decide +kernel
theorem dX9_readNext_2 : decode cX9_readNext 2 = .ok (.getfield 19, 3) := by decide +kernel
theorem dX9_readNext_5 : decode cX9_readNext 5 = .ok (.putfield 25, 3) := by decide +kernel
theorem dX9_readNext_8 : decode cX9_readNext 8 = .ok (.aload_n 0, 1) := by decide +kernel
theorem dX9_readNext_9 : decode cX9_readNext 9 = .ok (.getfield 25, 3) := by decide +kernel
theorem dX9_readNext_12 : decode cX9_readNext 12 = .ok (.aload_n 0, 1) := by decide +kernel
theorem dX9_readNext_13 : decode cX9_readNext 13 = .ok (.getfield 15, 3) := by decide +kernel
theorem dX9_readNext_16 : decode cX9_readNext 16 = .ok (.if_icmp .ge 30, 3) := by decide +kernel
theorem dX9_readNext_46 : decode cX9_readNext 46 = .ok (.aload_n 0, 1) := by decide +kernel
theorem dX9_readNext_47 : decode cX9_readNext 47 = .ok (.aload_n 0, 1) := by decide +kernel
theorem dX9_readNext_48 : decode cX9_readNext 48 = .ok (.getfield 25, 3) := by decide +kernel
theorem dX9_readNext_51 : decode cX9_readNext 51 = .ok (.putfield 19, 3) := by decide +kernel
theorem dX9_readNext_54 : decode cX9_readNext 54 = .ok (.aload_n 0, 1) := by decide +kernel
theorem dX9_readNext_55 : decode cX9_readNext 55 = .ok (.aload_n 0, 1) := by decide +kernel
theorem dX9_readNext_56 : decode cX9_readNext 56 = .ok (.getfield 25, 3) := by decide +kernel
theorem dX9_readNext_59 : decode cX9_readNext 59 = .ok (.invokevirtual 28, 3) := by decide +kernel
theorem dX9_readNext_62 : decode cX9_readNext 62 = .ok (.istore_n 1, 1) := by decide +kernel
theorem dX9_readNext_63 : decode cX9_readNext 63 = .ok (.aload_n 0, 1) := by decide +kernel
theorem dX9_readNext_64 : decode cX9_readNext 64 = .ok (.getfield 25, 3) := by decide +kernel
theorem dX9_readNext_67 : decode cX9_readNext 67 = .ok (.aload_n 0, 1) := by decide +kernel
theorem dX9_readNext_68 : decode cX9_readNext 68 = .ok (.getfield 15, 3) := by decide +kernel
theorem dX9_readNext_71 : decode cX9_readNext 71 = .ok (.if_icmp .lt 11, 3) := by decide +kernel
theorem dX9_readNext_82 : decode cX9_readNext 82 = .ok (.iload_n 1, 1) := by decide +kernel
theorem dX9_readNext_83 : decode cX9_readNext 83 = .ok (.bipush 59, 2) := by decide +kernel
theorem dX9_readNext_85 : decode cX9_readNext 85 = .ok (.if_icmp .ne 21, 3) := by decide +kernel
theorem dX9_readNext_106 : decode cX9_readNext 106 = .ok (.iload_n 1, 1) := by decide +kernel
theorem dX9_readNext_107 : decode cX9_readNext 107 = .ok (.invokestatic 39, 3) := by decide +kernel
theorem dX9_readNext_110 : decode cX9_readNext 110 = .ok (.ifCond .eq 10, 3) := by decide +kernel
theorem dX9_readNext_120 : decode cX9_readNext 120 = .ok (.iload_n 1, 1) := by decide +kernel
theorem dX9_readNext_121 : decode cX9_readNext 121 = .ok (.invokestatic 45, 3) := by decide +kernel
theorem dX9_readNext_124 : decode cX9_readNext 124 = .ok (.ifCond .eq 10, 3) := by decide +kernel
theorem dX9_readNext_134 : decode cX9_readNext 134 = .ok (.aload_n 0, 1) := by decide +kernel
theorem dX9_readNext_135 : decode cX9_readNext 135 = .ok (.iconst 4, 1) := by decide +kernel
theorem dX9_readNext_136 : decode cX9_readNext 136 = .ok (.putfield 36, 3) := by decide +kernel
theorem dX9_readNext_139 : decode cX9_readNext 139 = .ok (.return_, 1) := by decide +kernel
theorem dX9_readNext_127 : decode cX9_readNext 127 = .ok (.aload_n 0, 1) := by decide +kernel
theorem dX9_readNext_128 : decode cX9_readNext 128 = .ok (.invokevirtual 48, 3) := by decide +kernel
theorem tw_586 : Cond.methodLink RX9 48 yX9_readNumber ∈ TT := nx_mem 586 (by decide +kernel) (by decide +kernel)
theorem tw_588 : Cond.instanceMethod yX9_readNumber ∈ TT := nx_mem 588 (by decide +kernel) (by decide +kernel)
theorem tw_2 : Cond.selects RX9 yX9_readNumber yX9_readNumber ∈ TT := nx_mem 2 (by decide +kernel) (by decide +kernel)
theorem tw_589 : Cond.code yX9_readNumber cX9_readNumber 2 none ∈ TT := nx_mem 589 (by decide +kernel) (by decide +kernel)
theorem dX9_readNext_131 : decode cX9_readNext 131 = .ok (.goto 8, 3) := by decide +kernel
theorem dX9_readNext_113 : decode cX9_readNext 113 = .ok (.aload_n 0, 1) := by decide +kernel
theorem dX9_readNext_114 : decode cX9_readNext 114 = .ok (.invokevirtual 42, 3) := by decide +kernel
theorem tw_579 : Cond.methodLink RX9 42 yX9_readWord ∈ TT := nx_mem 579 (by decide +kernel) (by decide +kernel)
theorem tw_581 : Cond.instanceMethod yX9_readWord ∈ TT := nx_mem 581 (by decide +kernel) (by decide +kernel)
theorem tw_1 : Cond.selects RX9 yX9_readWord yX9_readWord ∈ TT := nx_mem 1 (by decide +kernel) (by decide +kernel)
theorem tw_582 : Cond.code yX9_readWord cX9_readWord 1 none ∈ TT := nx_mem 582 (by decide +kernel) (by decide +kernel)
theorem dX9_readNext_117 : decode cX9_readNext 117 = .ok (.goto 22, 3) := by decide +kernel
theorem dX9_readNext_88 : decode cX9_readNext 88 = .ok (.aload_n 0, 1) := by decide +kernel
theorem dX9_readNext_89 : decode cX9_readNext 89 = .ok (.iconst 3, 1) := by decide +kernel
theorem dX9_readNext_90 : decode cX9_readNext 90 = .ok (.putfield 36, 3) := by decide +kernel
theorem dX9_readNext_93 : decode cX9_readNext 93 = .ok (.aload_n 0, 1) := by decide +kernel
theorem dX9_readNext_94 : decode cX9_readNext 94 = .ok (.aload_n 0, 1) := by decide +kernel
theorem dX9_readNext_95 : decode cX9_readNext 95 = .ok (.getfield 25, 3) := by decide +kernel
theorem dX9_readNext_98 : decode cX9_readNext 98 = .ok (.iconst 1, 1) := by decide +kernel
theorem dX9_readNext_99 : decode cX9_readNext 99 = .ok (.iadd, 1) := by decide +kernel
theorem dX9_readNext_100 : decode cX9_readNext 100 = .ok (.putfield 19, 3) := by decide +kernel
theorem dX9_readNext_103 : decode cX9_readNext 103 = .ok (.goto 36, 3) := by decide +kernel
theorem dX9_readNext_74 : decode cX9_readNext 74 = .ok (.aload_n 0, 1) := by decide +kernel
theorem dX9_readNext_75 : decode cX9_readNext 75 = .ok (.iconst 0, 1) := by decide +kernel
theorem dX9_readNext_76 : decode cX9_readNext 76 = .ok (.putfield 36, 3) := by decide +kernel
theorem dX9_readNext_79 : decode cX9_readNext 79 = .ok (.goto 60, 3) := by decide +kernel
theorem dX9_readNext_19 : decode cX9_readNext 19 = .ok (.aload_n 0, 1) := by decide +kernel
theorem dX9_readNext_20 : decode cX9_readNext 20 = .ok (.aload_n 0, 1) := by decide +kernel
theorem dX9_readNext_21 : decode cX9_readNext 21 = .ok (.getfield 25, 3) := by decide +kernel
theorem dX9_readNext_24 : decode cX9_readNext 24 = .ok (.invokevirtual 28, 3) := by decide +kernel
theorem dX9_readNext_27 : decode cX9_readNext 27 = .ok (.invokestatic 32, 3) := by decide +kernel
theorem tw_573 : Cond.methodLink RX9 32 yX9_isBlank ∈ TT := nx_mem 573 (by decide +kernel) (by decide +kernel)
theorem tw_574 : Cond.static yX9_isBlank ∈ TT := nx_mem 574 (by decide +kernel) (by decide +kernel)
theorem tw_575 : Cond.code yX9_isBlank cX9_isBlank 1 (some .boolean) ∈ TT := nx_mem 575 (by decide +kernel) (by decide +kernel)
theorem dX9_readNext_30 : decode cX9_readNext 30 = .ok (.ifCond .eq 16, 3) := by decide +kernel
theorem dX9_readNext_33 : decode cX9_readNext 33 = .ok (.aload_n 0, 1) := by decide +kernel
theorem dX9_readNext_34 : decode cX9_readNext 34 = .ok (.dup, 1) := by decide +kernel
theorem dX9_readNext_35 : decode cX9_readNext 35 = .ok (.getfield 25, 3) := by decide +kernel
theorem dX9_readNext_38 : decode cX9_readNext 38 = .ok (.iconst 1, 1) := by decide +kernel
theorem dX9_readNext_39 : decode cX9_readNext 39 = .ok (.iadd, 1) := by decide +kernel
theorem dX9_readNext_40 : decode cX9_readNext 40 = .ok (.putfield 25, 3) := by decide +kernel
theorem dX9_readNext_43 : decode cX9_readNext 43 = .ok (.goto (-35), 3) := by decide +kernel
theorem dX9_rewind_0 : decode cX9_rewind 0 = .ok (.aload_n 0, 1) := by decide +kernel
theorem dX9_rewind_1 : decode cX9_rewind 1 = .ok (.iconst 0, 1) := by decide +kernel
theorem dX9_rewind_2 : decode cX9_rewind 2 = .ok (.putfield 19, 3) := by decide +kernel
theorem dX9_rewind_5 : decode cX9_rewind 5 = .ok (.aload_n 0, 1) := by decide +kernel
theorem dX9_rewind_6 : decode cX9_rewind 6 = .ok (.invokevirtual 22, 3) := by decide +kernel
theorem tw_565 : Cond.methodLink RX9 22 yX9_readNext ∈ TT := nx_mem 565 (by decide +kernel) (by decide +kernel)
theorem tw_566 : Cond.instanceMethod yX9_readNext ∈ TT := nx_mem 566 (by decide +kernel) (by decide +kernel)
theorem tw_567 : Cond.selects RX9 yX9_readNext yX9_readNext ∈ TT := nx_mem 567 (by decide +kernel) (by decide +kernel)
theorem tw_568 : Cond.code yX9_readNext cX9_readNext 2 none ∈ TT := nx_mem 568 (by decide +kernel) (by decide +kernel)
theorem dX9_rewind_9 : decode cX9_rewind 9 = .ok (.return_, 1) := by decide +kernel
theorem dX9_isAt_0 : decode cX9_isAt 0 = .ok (.aload_n 0, 1) := by decide +kernel
theorem dX9_isAt_1 : decode cX9_isAt 1 = .ok (.getfield 36, 3) := by decide +kernel
theorem dX9_isAt_4 : decode cX9_isAt 4 = .ok (.iconst 1, 1) := by decide +kernel
theorem dX9_isAt_5 : decode cX9_isAt 5 = .ok (.if_icmp .ne 19, 3) := by decide +kernel
theorem dX9_isAt_24 : decode cX9_isAt 24 = .ok (.iconst 0, 1) := by decide +kernel
theorem dX9_isAt_25 : decode cX9_isAt 25 = .ok (.ireturn, 1) := by decide +kernel
theorem dX9_isAt_8 : decode cX9_isAt 8 = .ok (.aload_n 0, 1) := by decide +kernel
theorem dX9_isAt_9 : decode cX9_isAt 9 = .ok (.getfield 19, 3) := by decide +kernel
theorem dX9_isAt_12 : decode cX9_isAt 12 = .ok (.aload_n 0, 1) := by decide +kernel
theorem dX9_isAt_13 : decode cX9_isAt 13 = .ok (.getfield 25, 3) := by decide +kernel
theorem dX9_isAt_16 : decode cX9_isAt 16 = .ok (.isub, 1) := by decide +kernel
theorem dX9_isAt_17 : decode cX9_isAt 17 = .ok (.aload_n 1, 1) := by decide +kernel
theorem dX9_isAt_18 : decode cX9_isAt 18 = .ok (.invokevirtual 58, 3) := by decide +kernel
theorem tw_595 : Cond.methodLink RX9 58 yJ0_length_8abf5 ∈ TT := nx_mem 595 (by decide +kernel) (by decide +kernel)
theorem tw_596 : Cond.instanceMethod yJ0_length_8abf5 ∈ TT := nx_mem 596 (by decide +kernel) (by decide +kernel)
theorem tw_597 : Cond.selects "java/lang/String" yJ0_length_8abf5 yJ0_length_8abf5 ∈ TT := nx_mem 597 (by decide +kernel) (by decide +kernel)
theorem tw_598 : Cond.code yJ0_length_8abf5 cJ0_length_8abf5 1 (some .int) ∈ TT := nx_mem 598 (by decide +kernel) (by decide +kernel)
theorem dX9_isAt_21 : decode cX9_isAt 21 = .ok (.if_icmp .eq 5, 3) := by decide +kernel
theorem dX9_isAt_26 : decode cX9_isAt 26 = .ok (.iconst 0, 1) := by decide +kernel
theorem dX9_isAt_27 : decode cX9_isAt 27 = .ok (.istore_n 2, 1) := by decide +kernel
theorem dX9_isAt_28 : decode cX9_isAt 28 = .ok (.iload_n 2, 1) := by decide +kernel
theorem dX9_isAt_29 : decode cX9_isAt 29 = .ok (.aload_n 1, 1) := by decide +kernel
theorem dX9_isAt_30 : decode cX9_isAt 30 = .ok (.invokevirtual 58, 3) := by decide +kernel
theorem dX9_isAt_33 : decode cX9_isAt 33 = .ok (.if_icmp .ge 29, 3) := by decide +kernel
theorem dX9_isAt_62 : decode cX9_isAt 62 = .ok (.iconst 1, 1) := by decide +kernel
theorem dX9_isAt_63 : decode cX9_isAt 63 = .ok (.ireturn, 1) := by decide +kernel
theorem dX9_isAt_36 : decode cX9_isAt 36 = .ok (.aload_n 0, 1) := by decide +kernel
theorem dX9_isAt_37 : decode cX9_isAt 37 = .ok (.aload_n 0, 1) := by decide +kernel
theorem dX9_isAt_38 : decode cX9_isAt 38 = .ok (.getfield 25, 3) := by decide +kernel
theorem dX9_isAt_41 : decode cX9_isAt 41 = .ok (.iload_n 2, 1) := by decide +kernel
theorem dX9_isAt_42 : decode cX9_isAt 42 = .ok (.iadd, 1) := by decide +kernel
theorem dX9_isAt_43 : decode cX9_isAt 43 = .ok (.invokevirtual 28, 3) := by decide +kernel
theorem dX9_isAt_46 : decode cX9_isAt 46 = .ok (.aload_n 1, 1) := by decide +kernel
theorem dX9_isAt_47 : decode cX9_isAt 47 = .ok (.iload_n 2, 1) := by decide +kernel
theorem dX9_isAt_48 : decode cX9_isAt 48 = .ok (.invokevirtual 64, 3) := by decide +kernel
theorem tw_605 : Cond.methodLink RX9 64 yJ0_charAt_5068e ∈ TT := nx_mem 605 (by decide +kernel) (by decide +kernel)
theorem tw_606 : Cond.instanceMethod yJ0_charAt_5068e ∈ TT := nx_mem 606 (by decide +kernel) (by decide +kernel)
theorem tw_607 : Cond.selects "java/lang/String" yJ0_charAt_5068e yJ0_charAt_5068e ∈ TT := nx_mem 607 (by decide +kernel) (by decide +kernel)
theorem tw_608 : Cond.code yJ0_charAt_5068e cJ0_charAt_5068e 2 (some .char) ∈ TT := nx_mem 608 (by decide +kernel) (by decide +kernel)
theorem dX9_isAt_51 : decode cX9_isAt 51 = .ok (.if_icmp .eq 5, 3) := by decide +kernel
theorem dX9_isAt_56 : decode cX9_isAt 56 = .ok (.iinc 2 1, 3) := by decide +kernel
theorem dX9_isAt_59 : decode cX9_isAt 59 = .ok (.goto (-31), 3) := by decide +kernel
theorem dX9_isAt_54 : decode cX9_isAt 54 = .ok (.iconst 0, 1) := by decide +kernel
theorem dX9_isAt_55 : decode cX9_isAt 55 = .ok (.ireturn, 1) := by decide +kernel
theorem dX9_isAtName_0 : decode cX9_isAtName 0 = .ok (.aload_n 0, 1) := by decide +kernel
theorem dX9_isAtName_1 : decode cX9_isAtName 1 = .ok (.getfield 36, 3) := by decide +kernel
theorem dX9_isAtName_4 : decode cX9_isAtName 4 = .ok (.iconst 1, 1) := by decide +kernel
theorem dX9_isAtName_5 : decode cX9_isAtName 5 = .ok (.if_icmp .ne 97, 3) := by decide +kernel
theorem dX9_isAtName_102 : decode cX9_isAtName 102 = .ok (.iconst 0, 1) := by decide +kernel
theorem dX9_isAtName_103 : decode cX9_isAtName 103 = .ok (.ireturn, 1) := by decide +kernel
theorem dX9_isAtName_8 : decode cX9_isAtName 8 = .ok (.aload_n 0, 1) := by decide +kernel
theorem dX9_isAtName_9 : decode cX9_isAtName 9 = .ok (.ldc 68, 2) := by decide +kernel
theorem dX9_isAtName_11 : decode cX9_isAtName 11 = .ok (.invokevirtual 70, 3) := by decide +kernel
theorem tw_661 : Cond.methodLink RX9 70 yX9_isAt ∈ TT := nx_mem 661 (by decide +kernel) (by decide +kernel)
theorem tw_592 : Cond.instanceMethod yX9_isAt ∈ TT := nx_mem 592 (by decide +kernel) (by decide +kernel)
theorem tw_593 : Cond.selects RX9 yX9_isAt yX9_isAt ∈ TT := nx_mem 593 (by decide +kernel) (by decide +kernel)
theorem tw_594 : Cond.code yX9_isAt cX9_isAt 3 (some .boolean) ∈ TT := nx_mem 594 (by decide +kernel) (by decide +kernel)
theorem dX9_isAtName_14 : decode cX9_isAtName 14 = .ok (.ifCond .ne 88, 3) := by decide +kernel
theorem dX9_isAtName_17 : decode cX9_isAtName 17 = .ok (.aload_n 0, 1) := by decide +kernel
theorem dX9_isAtName_18 : decode cX9_isAtName 18 = .ok (.ldc 74, 2) := by decide +kernel
theorem dX9_isAtName_20 : decode cX9_isAtName 20 = .ok (.invokevirtual 70, 3) := by decide +kernel
theorem dX9_isAtName_23 : decode cX9_isAtName 23 = .ok (.ifCond .ne 79, 3) := by decide +kernel
theorem dX9_isAtName_26 : decode cX9_isAtName 26 = .ok (.aload_n 0, 1) := by decide +kernel
theorem dX9_isAtName_27 : decode cX9_isAtName 27 = .ok (.ldc 76, 2) := by decide +kernel
theorem dX9_isAtName_29 : decode cX9_isAtName 29 = .ok (.invokevirtual 70, 3) := by decide +kernel
theorem dX9_isAtName_32 : decode cX9_isAtName 32 = .ok (.ifCond .ne 70, 3) := by decide +kernel
theorem dX9_isAtName_35 : decode cX9_isAtName 35 = .ok (.aload_n 0, 1) := by decide +kernel
theorem dX9_isAtName_36 : decode cX9_isAtName 36 = .ok (.ldc 78, 2) := by decide +kernel
theorem dX9_isAtName_38 : decode cX9_isAtName 38 = .ok (.invokevirtual 70, 3) := by decide +kernel
theorem dX9_isAtName_41 : decode cX9_isAtName 41 = .ok (.ifCond .ne 61, 3) := by decide +kernel
theorem dX9_isAtName_44 : decode cX9_isAtName 44 = .ok (.aload_n 0, 1) := by decide +kernel
theorem dX9_isAtName_45 : decode cX9_isAtName 45 = .ok (.ldc 80, 2) := by decide +kernel
theorem dX9_isAtName_47 : decode cX9_isAtName 47 = .ok (.invokevirtual 70, 3) := by decide +kernel
theorem dX9_isAtName_50 : decode cX9_isAtName 50 = .ok (.ifCond .ne 52, 3) := by decide +kernel
theorem dX9_isAtName_53 : decode cX9_isAtName 53 = .ok (.aload_n 0, 1) := by decide +kernel
theorem dX9_isAtName_54 : decode cX9_isAtName 54 = .ok (.ldc 82, 2) := by decide +kernel
theorem dX9_isAtName_56 : decode cX9_isAtName 56 = .ok (.invokevirtual 70, 3) := by decide +kernel
theorem dX9_isAtName_59 : decode cX9_isAtName 59 = .ok (.ifCond .ne 43, 3) := by decide +kernel
theorem dX9_isAtName_62 : decode cX9_isAtName 62 = .ok (.aload_n 0, 1) := by decide +kernel
theorem dX9_isAtName_63 : decode cX9_isAtName 63 = .ok (.ldc 84, 2) := by decide +kernel
theorem dX9_isAtName_65 : decode cX9_isAtName 65 = .ok (.invokevirtual 70, 3) := by decide +kernel
theorem dX9_isAtName_68 : decode cX9_isAtName 68 = .ok (.ifCond .ne 34, 3) := by decide +kernel
theorem dX9_isAtName_71 : decode cX9_isAtName 71 = .ok (.aload_n 0, 1) := by decide +kernel
theorem dX9_isAtName_72 : decode cX9_isAtName 72 = .ok (.ldc 86, 2) := by decide +kernel
theorem dX9_isAtName_74 : decode cX9_isAtName 74 = .ok (.invokevirtual 70, 3) := by decide +kernel
theorem dX9_isAtName_77 : decode cX9_isAtName 77 = .ok (.ifCond .ne 25, 3) := by decide +kernel
theorem dX9_isAtName_80 : decode cX9_isAtName 80 = .ok (.aload_n 0, 1) := by decide +kernel
theorem dX9_isAtName_81 : decode cX9_isAtName 81 = .ok (.ldc 88, 2) := by decide +kernel
theorem dX9_isAtName_83 : decode cX9_isAtName 83 = .ok (.invokevirtual 70, 3) := by decide +kernel
theorem dX9_isAtName_86 : decode cX9_isAtName 86 = .ok (.ifCond .ne 16, 3) := by decide +kernel
theorem dX9_isAtName_89 : decode cX9_isAtName 89 = .ok (.aload_n 0, 1) := by decide +kernel
theorem dX9_isAtName_90 : decode cX9_isAtName 90 = .ok (.ldc 90, 2) := by decide +kernel
theorem dX9_isAtName_92 : decode cX9_isAtName 92 = .ok (.invokevirtual 70, 3) := by decide +kernel
theorem dX9_isAtName_95 : decode cX9_isAtName 95 = .ok (.ifCond .ne 7, 3) := by decide +kernel
theorem dX9_isAtName_98 : decode cX9_isAtName 98 = .ok (.iconst 1, 1) := by decide +kernel
theorem dX9_isAtName_99 : decode cX9_isAtName 99 = .ok (.goto 4, 3) := by decide +kernel
set_option maxHeartbeats 4000000 in
set_option maxRecDepth 100000 in
theorem s_X9_hasRoomFor (lau : Launch) (gg : va_G) (kA : Nat → ClassId) (t : Nat) (m : Nat) (t0 : Nat) (tsz : Nat) (tkd : Int32) (tpl : Int32) (tbh : Int32) (twd : Int64) (tnu : Int32) (tby : Nat → Int32) (htsz : tsz ≤ 1600) (hm : m ≤ 1000) : CtI lau yX9_hasRoomFor cX9_hasRoomFor 2 (some .boolean) 1 0 0 gg kA [.ref t, .int (nI m)] (mflat [(t, .inl (.inr (9, [.ref t0, .int (nI tsz), .int tkd, .int tpl, .int tbh, .long twd, .int tnu]))), (t0, .inl (.inl (kA 0, 1600, .inl tby)))]) (S := Nat) (fun (r : Int32) (y_r : Nat) => r = nI y_r ∧ (y_r ≤ 1) ∧ (y_r = 1 ↔ tsz + m ≤ 1600)) (fun (y_r : Nat) => mflat [(t, .inl (.inr (9, [.ref t0, .int (nI tsz), .int tkd, .int tpl, .int tbh, .long twd, .int tnu]))), (t0, .inl (.inl (kA 0, 1600, .inl tby)))]) := by
  refine nx_startI (by decide +kernel) (Nat.le_of_ble_eq_true rfl) ?_
  intro x hnm h hq
  have h : Ok x cX9_hasRoomFor RX9 kA (rmC 1 0 0) 2 := h
  show J x (mflat [(t, .inl (.inr (9, [.ref t0, .int (nI tsz), .int tkd, .int tpl, .int tbh, .long twd, .int tnu]))), (t0, .inl (.inl (kA 0, 1600, .inl tby)))]) [(0, .ref t), (1, .int (nI m))] 0 0 0 []
  refine j_aload_n h 0 rfl rfl dX9_hasRoomFor_0 ?_
  refine jm_get h iw_X9 0 rfl rfl 1 (by decide) tw_122 rfl dX9_hasRoomFor_1 ?_
  refine j_iload_n h 1 rfl rfl dX9_hasRoomFor_4 ?_
  refine j_iadd h dX9_hasRoomFor_5 ?_
  refine j_top (b := nI (tsz + m)) (nI_add tsz m) ?_
  refine j_aload_n h 0 rfl rfl dX9_hasRoomFor_6 ?_
  refine jm_get h iw_X9 0 rfl rfl 0 (by decide) tw_121 rfl dX9_hasRoomFor_7 ?_
  refine jm_alen (v := 1600) h 1 0 rfl rfl rfl dX9_hasRoomFor_10 ?_
  refine j_icmp_gt h 18 dX9_hasRoomFor_11 (by decide) (fun z5470 => ?_) (fun z5470 => ?_)
  · have z5470n : 1600 < (tsz + m) := (nI_ltI (a := 1600) (b := (tsz + m)) (by omega) (by omega)).mp z5470
    refine j_iconst (v := 0) h (by decide) dX9_hasRoomFor_18 ?_
    exact jm_zret h hq rfl dX9_hasRoomFor_19 0 [0, 1] rfl (by decide) ⟨rfl, (show 0 ≤ 1 by first | assumption | omega), (show 0 = 1 ↔ tsz + m ≤ 1600 by first | assumption | omega)⟩ (Nat.le_of_ble_eq_true rfl) (Nat.le_of_ble_eq_true rfl)
  · have z5470n : ¬ 1600 < (tsz + m) := fun q9 => z5470 ((nI_ltI (a := 1600) (b := (tsz + m)) (by omega) (by omega)).mpr q9)
    refine j_iconst (v := 1) h (by decide) dX9_hasRoomFor_14 ?_
    refine j_goto h 19 dX9_hasRoomFor_15 (by decide) ?_
    exact jm_zret h hq rfl dX9_hasRoomFor_19 1 [0, 1] rfl (by decide) ⟨rfl, (show 1 ≤ 1 by first | assumption | omega), (show 1 = 1 ↔ tsz + m ≤ 1600 by first | assumption | omega)⟩ (Nat.le_of_ble_eq_true rfl) (Nat.le_of_ble_eq_true rfl)
set_option maxHeartbeats 4000000 in
set_option maxRecDepth 100000 in
theorem s_X9_put (lau : Launch) (gg : va_G) (kA : Nat → ClassId) (t : Nat) (fo : Int32) (t0 : Nat) (tsz : Nat) (tkd : Int32) (tpl : Int32) (tbh : Int32) (twd : Int64) (tnu : Int32) (tby : Nat → Int32) (hts : tsz + 4 ≤ 1600) : CtV lau yX9_put cX9_put 3 (none) 1 0 0 gg kA [.ref t, .int fo] (mflat [(t, .inl (.inr (9, [.ref t0, .int (nI tsz), .int tkd, .int tpl, .int tbh, .long twd, .int tnu]))), (t0, .inl (.inl (kA 0, 1600, .inl tby)))]) (S := Nat × (Nat → Int32)) (fun ((y_t_1, y_t0) : Nat × (Nat → Int32)) => y_t_1 = tsz + 4) (fun ((y_t_1, y_t0) : Nat × (Nat → Int32)) => mflat [(t, .inl (.inr (9, [.ref t0, .int (nI y_t_1), .int tkd, .int tpl, .int tbh, .long twd, .int tnu]))), (t0, .inl (.inl (kA 0, 1600, .inl y_t0)))]) := by
  refine nx_startV (by decide +kernel) (Nat.le_of_ble_eq_true rfl) ?_
  intro x hnm h hq
  have h : Ok x cX9_put RX9 kA (rmC 1 0 0) 3 := h
  show J x (mflat [(t, .inl (.inr (9, [.ref t0, .int (nI tsz), .int tkd, .int tpl, .int tbh, .long twd, .int tnu]))), (t0, .inl (.inl (kA 0, 1600, .inl tby)))]) [(0, .ref t), (1, .int fo)] 0 0 0 []
  refine j_bipush (v := 24) h (by decide) dX9_put_0 ?_
  refine j_istore_n (lv' := [(2, .int 24), (0, .ref t), (1, .int fo)]) h dX9_put_2 rfl (by decide) rfl ?_
  refine j_iload_n h 0 rfl rfl dX9_put_3 ?_
  refine j_if_lt h 48 dX9_put_4 (by decide) (fun q => absurd q (by decide)) (fun _ => ?_)
  refine j_aload_n h 1 rfl rfl dX9_put_7 ?_
  refine jm_get h iw_X9 0 rfl rfl 1 (by decide) tw_122 rfl dX9_put_8 ?_
  refine j_aload_n h 1 rfl rfl dX9_put_11 ?_
  refine jm_get h iw_X9 0 rfl rfl 0 (by decide) tw_121 rfl dX9_put_12 ?_
  refine jm_alen (v := 1600) h 1 0 rfl rfl rfl dX9_put_15 ?_
  refine j_icmp_ge h 42 dX9_put_16 (by decide) (fun z5486 => ?_) (fun z5486 => ?_)
  · have z5486n : 1600 ≤ tsz := (nI_leI (a := 1600) (b := tsz) (by omega) (by omega)).mp z5486
    refine j_iinc (v := 16) (lv' := [(2, .int 16), (0, .ref t), (1, .int fo)]) h dX9_put_42 0 rfl (by decide) (by decide) rfl ?_
    refine j_goto h 3 dX9_put_45 (by decide) ?_
    refine j_iload_n h 0 rfl rfl dX9_put_3 ?_
    refine j_if_lt h 48 dX9_put_4 (by decide) (fun q => absurd q (by decide)) (fun _ => ?_)
    refine j_aload_n h 1 rfl rfl dX9_put_7 ?_
    refine jm_get h iw_X9 0 rfl rfl 1 (by decide) tw_122 rfl dX9_put_8 ?_
    refine j_aload_n h 1 rfl rfl dX9_put_11 ?_
    refine jm_get h iw_X9 0 rfl rfl 0 (by decide) tw_121 rfl dX9_put_12 ?_
    refine jm_alen (v := 1600) h 1 0 rfl rfl rfl dX9_put_15 ?_
    refine j_icmp_ge h 42 dX9_put_16 (by decide) (fun z5487 => ?_) (fun z5487 => ?_)
    · have z5487n : 1600 ≤ tsz := (nI_leI (a := 1600) (b := tsz) (by omega) (by omega)).mp z5487
      refine j_iinc (v := 8) (lv' := [(2, .int 8), (0, .ref t), (1, .int fo)]) h dX9_put_42 0 rfl (by decide) (by decide) rfl ?_
      refine j_goto h 3 dX9_put_45 (by decide) ?_
      refine j_iload_n h 0 rfl rfl dX9_put_3 ?_
      refine j_if_lt h 48 dX9_put_4 (by decide) (fun q => absurd q (by decide)) (fun _ => ?_)
      refine j_aload_n h 1 rfl rfl dX9_put_7 ?_
      refine jm_get h iw_X9 0 rfl rfl 1 (by decide) tw_122 rfl dX9_put_8 ?_
      refine j_aload_n h 1 rfl rfl dX9_put_11 ?_
      refine jm_get h iw_X9 0 rfl rfl 0 (by decide) tw_121 rfl dX9_put_12 ?_
      refine jm_alen (v := 1600) h 1 0 rfl rfl rfl dX9_put_15 ?_
      refine j_icmp_ge h 42 dX9_put_16 (by decide) (fun z5488 => ?_) (fun z5488 => ?_)
      · have z5488n : 1600 ≤ tsz := (nI_leI (a := 1600) (b := tsz) (by omega) (by omega)).mp z5488
        refine j_iinc (v := 0) (lv' := [(2, .int 0), (0, .ref t), (1, .int fo)]) h dX9_put_42 0 rfl (by decide) (by decide) rfl ?_
        refine j_goto h 3 dX9_put_45 (by decide) ?_
        refine j_iload_n h 0 rfl rfl dX9_put_3 ?_
        refine j_if_lt h 48 dX9_put_4 (by decide) (fun q => absurd q (by decide)) (fun _ => ?_)
        refine j_aload_n h 1 rfl rfl dX9_put_7 ?_
        refine jm_get h iw_X9 0 rfl rfl 1 (by decide) tw_122 rfl dX9_put_8 ?_
        refine j_aload_n h 1 rfl rfl dX9_put_11 ?_
        refine jm_get h iw_X9 0 rfl rfl 0 (by decide) tw_121 rfl dX9_put_12 ?_
        refine jm_alen (v := 1600) h 1 0 rfl rfl rfl dX9_put_15 ?_
        refine j_icmp_ge h 42 dX9_put_16 (by decide) (fun z5489 => ?_) (fun z5489 => ?_)
        · have z5489n : 1600 ≤ tsz := (nI_leI (a := 1600) (b := tsz) (by omega) (by omega)).mp z5489
          refine j_iinc (v := (-8)) (lv' := [(2, .int (-8)), (0, .ref t), (1, .int fo)]) h dX9_put_42 0 rfl (by decide) (by decide) rfl ?_
          refine j_goto h 3 dX9_put_45 (by decide) ?_
          refine j_iload_n h 0 rfl rfl dX9_put_3 ?_
          refine j_if_lt h 48 dX9_put_4 (by decide) (fun _ => ?_) (fun q => absurd (by decide) q)
          exact jm_vret h hq dX9_put_48 (tsz, tby) [0, 1] rfl (by decide) (show tsz = tsz + 4 by first | assumption | omega) (Nat.le_of_ble_eq_true rfl) (Nat.le_of_ble_eq_true rfl)
        · have z5489n : ¬ 1600 ≤ tsz := fun q9 => z5489 ((nI_leI (a := 1600) (b := tsz) (by omega) (by omega)).mpr q9)
          refine j_aload_n h 1 rfl rfl dX9_put_19 ?_
          refine jm_get h iw_X9 0 rfl rfl 0 (by decide) tw_121 rfl dX9_put_20 ?_
          refine j_aload_n h 1 rfl rfl dX9_put_23 ?_
          refine jm_get h iw_X9 0 rfl rfl 1 (by decide) tw_122 rfl dX9_put_24 ?_
          refine j_iload_n h 2 rfl rfl dX9_put_27 ?_
          refine j_iload_n h 0 rfl rfl dX9_put_28 ?_
          refine j_ishr h dX9_put_29 ?_
          refine j_i2b h dX9_put_30 ?_
          refine jm_bast (w' := [(t, .inl (.inr (9, [.ref t0, .int (nI tsz), .int tkd, .int tpl, .int tbh, .long twd, .int tnu]))), (t0, .inl (.inl (kA 0, 1600, .inl (upd tby tsz (vp_nar .byte ((fo >>> (0 &&& 31)).toInt8.toInt32))))))]) h 1 rfl tsz rfl (by omega) (by omega) dX9_put_31 rfl ?_
          refine j_aload_n h 1 rfl rfl dX9_put_32 ?_
          refine j_dup h rfl dX9_put_33 ?_
          refine jm_get h iw_X9 0 rfl rfl 1 (by decide) tw_122 rfl dX9_put_34 ?_
          refine j_iconst (v := 1) h (by decide) dX9_put_37 ?_
          refine j_iadd h dX9_put_38 ?_
          refine j_top (b := nI (tsz + 1)) (nI_add tsz 1) ?_
          refine jm_put (w' := [(t, .inl (.inr (9, [.ref t0, .int (nI (tsz + 1)), .int tkd, .int tpl, .int tbh, .long twd, .int tnu]))), (t0, .inl (.inl (kA 0, 1600, .inl (upd tby tsz (vp_nar .byte ((fo >>> (0 &&& 31)).toInt8.toInt32))))))]) h iw_X9 tyX9 tyX9_ok nmX9 0 rfl rfl 1 (by decide) tw_122 rfl rfl rfl (Nat.le_of_ble_eq_true rfl) dX9_put_39 rfl ?_
          refine j_iinc (v := (-8)) (lv' := [(2, .int (-8)), (0, .ref t), (1, .int fo)]) h dX9_put_42 0 rfl (by decide) (by decide) rfl ?_
          refine j_goto h 3 dX9_put_45 (by decide) ?_
          refine j_iload_n h 0 rfl rfl dX9_put_3 ?_
          refine j_if_lt h 48 dX9_put_4 (by decide) (fun _ => ?_) (fun q => absurd (by decide) q)
          exact jm_vret h hq dX9_put_48 ((tsz + 1), (upd tby tsz (vp_nar .byte ((fo >>> (0 &&& 31)).toInt8.toInt32)))) [0, 1] rfl (by decide) (show (tsz + 1) = tsz + 4 by first | assumption | omega) (Nat.le_of_ble_eq_true rfl) (Nat.le_of_ble_eq_true rfl)
      · have z5488n : ¬ 1600 ≤ tsz := fun q9 => z5488 ((nI_leI (a := 1600) (b := tsz) (by omega) (by omega)).mpr q9)
        refine j_aload_n h 1 rfl rfl dX9_put_19 ?_
        refine jm_get h iw_X9 0 rfl rfl 0 (by decide) tw_121 rfl dX9_put_20 ?_
        refine j_aload_n h 1 rfl rfl dX9_put_23 ?_
        refine jm_get h iw_X9 0 rfl rfl 1 (by decide) tw_122 rfl dX9_put_24 ?_
        refine j_iload_n h 2 rfl rfl dX9_put_27 ?_
        refine j_iload_n h 0 rfl rfl dX9_put_28 ?_
        refine j_ishr h dX9_put_29 ?_
        refine j_i2b h dX9_put_30 ?_
        refine jm_bast (w' := [(t, .inl (.inr (9, [.ref t0, .int (nI tsz), .int tkd, .int tpl, .int tbh, .long twd, .int tnu]))), (t0, .inl (.inl (kA 0, 1600, .inl (upd tby tsz (vp_nar .byte ((fo >>> (8 &&& 31)).toInt8.toInt32))))))]) h 1 rfl tsz rfl (by omega) (by omega) dX9_put_31 rfl ?_
        refine j_aload_n h 1 rfl rfl dX9_put_32 ?_
        refine j_dup h rfl dX9_put_33 ?_
        refine jm_get h iw_X9 0 rfl rfl 1 (by decide) tw_122 rfl dX9_put_34 ?_
        refine j_iconst (v := 1) h (by decide) dX9_put_37 ?_
        refine j_iadd h dX9_put_38 ?_
        refine j_top (b := nI (tsz + 1)) (nI_add tsz 1) ?_
        refine jm_put (w' := [(t, .inl (.inr (9, [.ref t0, .int (nI (tsz + 1)), .int tkd, .int tpl, .int tbh, .long twd, .int tnu]))), (t0, .inl (.inl (kA 0, 1600, .inl (upd tby tsz (vp_nar .byte ((fo >>> (8 &&& 31)).toInt8.toInt32))))))]) h iw_X9 tyX9 tyX9_ok nmX9 0 rfl rfl 1 (by decide) tw_122 rfl rfl rfl (Nat.le_of_ble_eq_true rfl) dX9_put_39 rfl ?_
        refine j_iinc (v := 0) (lv' := [(2, .int 0), (0, .ref t), (1, .int fo)]) h dX9_put_42 0 rfl (by decide) (by decide) rfl ?_
        refine j_goto h 3 dX9_put_45 (by decide) ?_
        refine j_iload_n h 0 rfl rfl dX9_put_3 ?_
        refine j_if_lt h 48 dX9_put_4 (by decide) (fun q => absurd q (by decide)) (fun _ => ?_)
        refine j_aload_n h 1 rfl rfl dX9_put_7 ?_
        refine jm_get h iw_X9 0 rfl rfl 1 (by decide) tw_122 rfl dX9_put_8 ?_
        refine j_aload_n h 1 rfl rfl dX9_put_11 ?_
        refine jm_get h iw_X9 0 rfl rfl 0 (by decide) tw_121 rfl dX9_put_12 ?_
        refine jm_alen (v := 1600) h 1 0 rfl rfl rfl dX9_put_15 ?_
        refine j_icmp_ge h 42 dX9_put_16 (by decide) (fun z5490 => ?_) (fun z5490 => ?_)
        · have z5490n : 1600 ≤ (tsz + 1) := (nI_leI (a := 1600) (b := (tsz + 1)) (by omega) (by omega)).mp z5490
          refine j_iinc (v := (-8)) (lv' := [(2, .int (-8)), (0, .ref t), (1, .int fo)]) h dX9_put_42 0 rfl (by decide) (by decide) rfl ?_
          refine j_goto h 3 dX9_put_45 (by decide) ?_
          refine j_iload_n h 0 rfl rfl dX9_put_3 ?_
          refine j_if_lt h 48 dX9_put_4 (by decide) (fun _ => ?_) (fun q => absurd (by decide) q)
          exact jm_vret h hq dX9_put_48 ((tsz + 1), (upd tby tsz (vp_nar .byte ((fo >>> (8 &&& 31)).toInt8.toInt32)))) [0, 1] rfl (by decide) (show (tsz + 1) = tsz + 4 by first | assumption | omega) (Nat.le_of_ble_eq_true rfl) (Nat.le_of_ble_eq_true rfl)
        · have z5490n : ¬ 1600 ≤ (tsz + 1) := fun q9 => z5490 ((nI_leI (a := 1600) (b := (tsz + 1)) (by omega) (by omega)).mpr q9)
          refine j_aload_n h 1 rfl rfl dX9_put_19 ?_
          refine jm_get h iw_X9 0 rfl rfl 0 (by decide) tw_121 rfl dX9_put_20 ?_
          refine j_aload_n h 1 rfl rfl dX9_put_23 ?_
          refine jm_get h iw_X9 0 rfl rfl 1 (by decide) tw_122 rfl dX9_put_24 ?_
          refine j_iload_n h 2 rfl rfl dX9_put_27 ?_
          refine j_iload_n h 0 rfl rfl dX9_put_28 ?_
          refine j_ishr h dX9_put_29 ?_
          refine j_i2b h dX9_put_30 ?_
          refine jm_bast (w' := [(t, .inl (.inr (9, [.ref t0, .int (nI (tsz + 1)), .int tkd, .int tpl, .int tbh, .long twd, .int tnu]))), (t0, .inl (.inl (kA 0, 1600, .inl (upd (upd tby tsz (vp_nar .byte ((fo >>> (8 &&& 31)).toInt8.toInt32))) (tsz + 1) (vp_nar .byte ((fo >>> (0 &&& 31)).toInt8.toInt32))))))]) h 1 rfl (tsz + 1) rfl (by omega) (by omega) dX9_put_31 rfl ?_
          refine j_aload_n h 1 rfl rfl dX9_put_32 ?_
          refine j_dup h rfl dX9_put_33 ?_
          refine jm_get h iw_X9 0 rfl rfl 1 (by decide) tw_122 rfl dX9_put_34 ?_
          refine j_iconst (v := 1) h (by decide) dX9_put_37 ?_
          refine j_iadd h dX9_put_38 ?_
          refine j_top (b := nI ((tsz + 1) + 1)) (nI_add (tsz + 1) 1) ?_
          refine jm_put (w' := [(t, .inl (.inr (9, [.ref t0, .int (nI ((tsz + 1) + 1)), .int tkd, .int tpl, .int tbh, .long twd, .int tnu]))), (t0, .inl (.inl (kA 0, 1600, .inl (upd (upd tby tsz (vp_nar .byte ((fo >>> (8 &&& 31)).toInt8.toInt32))) (tsz + 1) (vp_nar .byte ((fo >>> (0 &&& 31)).toInt8.toInt32))))))]) h iw_X9 tyX9 tyX9_ok nmX9 0 rfl rfl 1 (by decide) tw_122 rfl rfl rfl (Nat.le_of_ble_eq_true rfl) dX9_put_39 rfl ?_
          refine j_iinc (v := (-8)) (lv' := [(2, .int (-8)), (0, .ref t), (1, .int fo)]) h dX9_put_42 0 rfl (by decide) (by decide) rfl ?_
          refine j_goto h 3 dX9_put_45 (by decide) ?_
          refine j_iload_n h 0 rfl rfl dX9_put_3 ?_
          refine j_if_lt h 48 dX9_put_4 (by decide) (fun _ => ?_) (fun q => absurd (by decide) q)
          exact jm_vret h hq dX9_put_48 (((tsz + 1) + 1), (upd (upd tby tsz (vp_nar .byte ((fo >>> (8 &&& 31)).toInt8.toInt32))) (tsz + 1) (vp_nar .byte ((fo >>> (0 &&& 31)).toInt8.toInt32)))) [0, 1] rfl (by decide) (show ((tsz + 1) + 1) = tsz + 4 by first | assumption | omega) (Nat.le_of_ble_eq_true rfl) (Nat.le_of_ble_eq_true rfl)
    · have z5487n : ¬ 1600 ≤ tsz := fun q9 => z5487 ((nI_leI (a := 1600) (b := tsz) (by omega) (by omega)).mpr q9)
      refine j_aload_n h 1 rfl rfl dX9_put_19 ?_
      refine jm_get h iw_X9 0 rfl rfl 0 (by decide) tw_121 rfl dX9_put_20 ?_
      refine j_aload_n h 1 rfl rfl dX9_put_23 ?_
      refine jm_get h iw_X9 0 rfl rfl 1 (by decide) tw_122 rfl dX9_put_24 ?_
      refine j_iload_n h 2 rfl rfl dX9_put_27 ?_
      refine j_iload_n h 0 rfl rfl dX9_put_28 ?_
      refine j_ishr h dX9_put_29 ?_
      refine j_i2b h dX9_put_30 ?_
      refine jm_bast (w' := [(t, .inl (.inr (9, [.ref t0, .int (nI tsz), .int tkd, .int tpl, .int tbh, .long twd, .int tnu]))), (t0, .inl (.inl (kA 0, 1600, .inl (upd tby tsz (vp_nar .byte ((fo >>> (16 &&& 31)).toInt8.toInt32))))))]) h 1 rfl tsz rfl (by omega) (by omega) dX9_put_31 rfl ?_
      refine j_aload_n h 1 rfl rfl dX9_put_32 ?_
      refine j_dup h rfl dX9_put_33 ?_
      refine jm_get h iw_X9 0 rfl rfl 1 (by decide) tw_122 rfl dX9_put_34 ?_
      refine j_iconst (v := 1) h (by decide) dX9_put_37 ?_
      refine j_iadd h dX9_put_38 ?_
      refine j_top (b := nI (tsz + 1)) (nI_add tsz 1) ?_
      refine jm_put (w' := [(t, .inl (.inr (9, [.ref t0, .int (nI (tsz + 1)), .int tkd, .int tpl, .int tbh, .long twd, .int tnu]))), (t0, .inl (.inl (kA 0, 1600, .inl (upd tby tsz (vp_nar .byte ((fo >>> (16 &&& 31)).toInt8.toInt32))))))]) h iw_X9 tyX9 tyX9_ok nmX9 0 rfl rfl 1 (by decide) tw_122 rfl rfl rfl (Nat.le_of_ble_eq_true rfl) dX9_put_39 rfl ?_
      refine j_iinc (v := 8) (lv' := [(2, .int 8), (0, .ref t), (1, .int fo)]) h dX9_put_42 0 rfl (by decide) (by decide) rfl ?_
      refine j_goto h 3 dX9_put_45 (by decide) ?_
      refine j_iload_n h 0 rfl rfl dX9_put_3 ?_
      refine j_if_lt h 48 dX9_put_4 (by decide) (fun q => absurd q (by decide)) (fun _ => ?_)
      refine j_aload_n h 1 rfl rfl dX9_put_7 ?_
      refine jm_get h iw_X9 0 rfl rfl 1 (by decide) tw_122 rfl dX9_put_8 ?_
      refine j_aload_n h 1 rfl rfl dX9_put_11 ?_
      refine jm_get h iw_X9 0 rfl rfl 0 (by decide) tw_121 rfl dX9_put_12 ?_
      refine jm_alen (v := 1600) h 1 0 rfl rfl rfl dX9_put_15 ?_
      refine j_icmp_ge h 42 dX9_put_16 (by decide) (fun z5491 => ?_) (fun z5491 => ?_)
      · have z5491n : 1600 ≤ (tsz + 1) := (nI_leI (a := 1600) (b := (tsz + 1)) (by omega) (by omega)).mp z5491
        refine j_iinc (v := 0) (lv' := [(2, .int 0), (0, .ref t), (1, .int fo)]) h dX9_put_42 0 rfl (by decide) (by decide) rfl ?_
        refine j_goto h 3 dX9_put_45 (by decide) ?_
        refine j_iload_n h 0 rfl rfl dX9_put_3 ?_
        refine j_if_lt h 48 dX9_put_4 (by decide) (fun q => absurd q (by decide)) (fun _ => ?_)
        refine j_aload_n h 1 rfl rfl dX9_put_7 ?_
        refine jm_get h iw_X9 0 rfl rfl 1 (by decide) tw_122 rfl dX9_put_8 ?_
        refine j_aload_n h 1 rfl rfl dX9_put_11 ?_
        refine jm_get h iw_X9 0 rfl rfl 0 (by decide) tw_121 rfl dX9_put_12 ?_
        refine jm_alen (v := 1600) h 1 0 rfl rfl rfl dX9_put_15 ?_
        refine j_icmp_ge h 42 dX9_put_16 (by decide) (fun z5492 => ?_) (fun z5492 => ?_)
        · have z5492n : 1600 ≤ (tsz + 1) := (nI_leI (a := 1600) (b := (tsz + 1)) (by omega) (by omega)).mp z5492
          refine j_iinc (v := (-8)) (lv' := [(2, .int (-8)), (0, .ref t), (1, .int fo)]) h dX9_put_42 0 rfl (by decide) (by decide) rfl ?_
          refine j_goto h 3 dX9_put_45 (by decide) ?_
          refine j_iload_n h 0 rfl rfl dX9_put_3 ?_
          refine j_if_lt h 48 dX9_put_4 (by decide) (fun _ => ?_) (fun q => absurd (by decide) q)
          exact jm_vret h hq dX9_put_48 ((tsz + 1), (upd tby tsz (vp_nar .byte ((fo >>> (16 &&& 31)).toInt8.toInt32)))) [0, 1] rfl (by decide) (show (tsz + 1) = tsz + 4 by first | assumption | omega) (Nat.le_of_ble_eq_true rfl) (Nat.le_of_ble_eq_true rfl)
        · have z5492n : ¬ 1600 ≤ (tsz + 1) := fun q9 => z5492 ((nI_leI (a := 1600) (b := (tsz + 1)) (by omega) (by omega)).mpr q9)
          refine j_aload_n h 1 rfl rfl dX9_put_19 ?_
          refine jm_get h iw_X9 0 rfl rfl 0 (by decide) tw_121 rfl dX9_put_20 ?_
          refine j_aload_n h 1 rfl rfl dX9_put_23 ?_
          refine jm_get h iw_X9 0 rfl rfl 1 (by decide) tw_122 rfl dX9_put_24 ?_
          refine j_iload_n h 2 rfl rfl dX9_put_27 ?_
          refine j_iload_n h 0 rfl rfl dX9_put_28 ?_
          refine j_ishr h dX9_put_29 ?_
          refine j_i2b h dX9_put_30 ?_
          refine jm_bast (w' := [(t, .inl (.inr (9, [.ref t0, .int (nI (tsz + 1)), .int tkd, .int tpl, .int tbh, .long twd, .int tnu]))), (t0, .inl (.inl (kA 0, 1600, .inl (upd (upd tby tsz (vp_nar .byte ((fo >>> (16 &&& 31)).toInt8.toInt32))) (tsz + 1) (vp_nar .byte ((fo >>> (0 &&& 31)).toInt8.toInt32))))))]) h 1 rfl (tsz + 1) rfl (by omega) (by omega) dX9_put_31 rfl ?_
          refine j_aload_n h 1 rfl rfl dX9_put_32 ?_
          refine j_dup h rfl dX9_put_33 ?_
          refine jm_get h iw_X9 0 rfl rfl 1 (by decide) tw_122 rfl dX9_put_34 ?_
          refine j_iconst (v := 1) h (by decide) dX9_put_37 ?_
          refine j_iadd h dX9_put_38 ?_
          refine j_top (b := nI ((tsz + 1) + 1)) (nI_add (tsz + 1) 1) ?_
          refine jm_put (w' := [(t, .inl (.inr (9, [.ref t0, .int (nI ((tsz + 1) + 1)), .int tkd, .int tpl, .int tbh, .long twd, .int tnu]))), (t0, .inl (.inl (kA 0, 1600, .inl (upd (upd tby tsz (vp_nar .byte ((fo >>> (16 &&& 31)).toInt8.toInt32))) (tsz + 1) (vp_nar .byte ((fo >>> (0 &&& 31)).toInt8.toInt32))))))]) h iw_X9 tyX9 tyX9_ok nmX9 0 rfl rfl 1 (by decide) tw_122 rfl rfl rfl (Nat.le_of_ble_eq_true rfl) dX9_put_39 rfl ?_
          refine j_iinc (v := (-8)) (lv' := [(2, .int (-8)), (0, .ref t), (1, .int fo)]) h dX9_put_42 0 rfl (by decide) (by decide) rfl ?_
          refine j_goto h 3 dX9_put_45 (by decide) ?_
          refine j_iload_n h 0 rfl rfl dX9_put_3 ?_
          refine j_if_lt h 48 dX9_put_4 (by decide) (fun _ => ?_) (fun q => absurd (by decide) q)
          exact jm_vret h hq dX9_put_48 (((tsz + 1) + 1), (upd (upd tby tsz (vp_nar .byte ((fo >>> (16 &&& 31)).toInt8.toInt32))) (tsz + 1) (vp_nar .byte ((fo >>> (0 &&& 31)).toInt8.toInt32)))) [0, 1] rfl (by decide) (show ((tsz + 1) + 1) = tsz + 4 by first | assumption | omega) (Nat.le_of_ble_eq_true rfl) (Nat.le_of_ble_eq_true rfl)
      · have z5491n : ¬ 1600 ≤ (tsz + 1) := fun q9 => z5491 ((nI_leI (a := 1600) (b := (tsz + 1)) (by omega) (by omega)).mpr q9)
        refine j_aload_n h 1 rfl rfl dX9_put_19 ?_
        refine jm_get h iw_X9 0 rfl rfl 0 (by decide) tw_121 rfl dX9_put_20 ?_
        refine j_aload_n h 1 rfl rfl dX9_put_23 ?_
        refine jm_get h iw_X9 0 rfl rfl 1 (by decide) tw_122 rfl dX9_put_24 ?_
        refine j_iload_n h 2 rfl rfl dX9_put_27 ?_
        refine j_iload_n h 0 rfl rfl dX9_put_28 ?_
        refine j_ishr h dX9_put_29 ?_
        refine j_i2b h dX9_put_30 ?_
        refine jm_bast (w' := [(t, .inl (.inr (9, [.ref t0, .int (nI (tsz + 1)), .int tkd, .int tpl, .int tbh, .long twd, .int tnu]))), (t0, .inl (.inl (kA 0, 1600, .inl (upd (upd tby tsz (vp_nar .byte ((fo >>> (16 &&& 31)).toInt8.toInt32))) (tsz + 1) (vp_nar .byte ((fo >>> (8 &&& 31)).toInt8.toInt32))))))]) h 1 rfl (tsz + 1) rfl (by omega) (by omega) dX9_put_31 rfl ?_
        refine j_aload_n h 1 rfl rfl dX9_put_32 ?_
        refine j_dup h rfl dX9_put_33 ?_
        refine jm_get h iw_X9 0 rfl rfl 1 (by decide) tw_122 rfl dX9_put_34 ?_
        refine j_iconst (v := 1) h (by decide) dX9_put_37 ?_
        refine j_iadd h dX9_put_38 ?_
        refine j_top (b := nI ((tsz + 1) + 1)) (nI_add (tsz + 1) 1) ?_
        refine jm_put (w' := [(t, .inl (.inr (9, [.ref t0, .int (nI ((tsz + 1) + 1)), .int tkd, .int tpl, .int tbh, .long twd, .int tnu]))), (t0, .inl (.inl (kA 0, 1600, .inl (upd (upd tby tsz (vp_nar .byte ((fo >>> (16 &&& 31)).toInt8.toInt32))) (tsz + 1) (vp_nar .byte ((fo >>> (8 &&& 31)).toInt8.toInt32))))))]) h iw_X9 tyX9 tyX9_ok nmX9 0 rfl rfl 1 (by decide) tw_122 rfl rfl rfl (Nat.le_of_ble_eq_true rfl) dX9_put_39 rfl ?_
        refine j_iinc (v := 0) (lv' := [(2, .int 0), (0, .ref t), (1, .int fo)]) h dX9_put_42 0 rfl (by decide) (by decide) rfl ?_
        refine j_goto h 3 dX9_put_45 (by decide) ?_
        refine j_iload_n h 0 rfl rfl dX9_put_3 ?_
        refine j_if_lt h 48 dX9_put_4 (by decide) (fun q => absurd q (by decide)) (fun _ => ?_)
        refine j_aload_n h 1 rfl rfl dX9_put_7 ?_
        refine jm_get h iw_X9 0 rfl rfl 1 (by decide) tw_122 rfl dX9_put_8 ?_
        refine j_aload_n h 1 rfl rfl dX9_put_11 ?_
        refine jm_get h iw_X9 0 rfl rfl 0 (by decide) tw_121 rfl dX9_put_12 ?_
        refine jm_alen (v := 1600) h 1 0 rfl rfl rfl dX9_put_15 ?_
        refine j_icmp_ge h 42 dX9_put_16 (by decide) (fun z5493 => ?_) (fun z5493 => ?_)
        · have z5493n : 1600 ≤ ((tsz + 1) + 1) := (nI_leI (a := 1600) (b := ((tsz + 1) + 1)) (by omega) (by omega)).mp z5493
          refine j_iinc (v := (-8)) (lv' := [(2, .int (-8)), (0, .ref t), (1, .int fo)]) h dX9_put_42 0 rfl (by decide) (by decide) rfl ?_
          refine j_goto h 3 dX9_put_45 (by decide) ?_
          refine j_iload_n h 0 rfl rfl dX9_put_3 ?_
          refine j_if_lt h 48 dX9_put_4 (by decide) (fun _ => ?_) (fun q => absurd (by decide) q)
          exact jm_vret h hq dX9_put_48 (((tsz + 1) + 1), (upd (upd tby tsz (vp_nar .byte ((fo >>> (16 &&& 31)).toInt8.toInt32))) (tsz + 1) (vp_nar .byte ((fo >>> (8 &&& 31)).toInt8.toInt32)))) [0, 1] rfl (by decide) (show ((tsz + 1) + 1) = tsz + 4 by first | assumption | omega) (Nat.le_of_ble_eq_true rfl) (Nat.le_of_ble_eq_true rfl)
        · have z5493n : ¬ 1600 ≤ ((tsz + 1) + 1) := fun q9 => z5493 ((nI_leI (a := 1600) (b := ((tsz + 1) + 1)) (by omega) (by omega)).mpr q9)
          refine j_aload_n h 1 rfl rfl dX9_put_19 ?_
          refine jm_get h iw_X9 0 rfl rfl 0 (by decide) tw_121 rfl dX9_put_20 ?_
          refine j_aload_n h 1 rfl rfl dX9_put_23 ?_
          refine jm_get h iw_X9 0 rfl rfl 1 (by decide) tw_122 rfl dX9_put_24 ?_
          refine j_iload_n h 2 rfl rfl dX9_put_27 ?_
          refine j_iload_n h 0 rfl rfl dX9_put_28 ?_
          refine j_ishr h dX9_put_29 ?_
          refine j_i2b h dX9_put_30 ?_
          refine jm_bast (w' := [(t, .inl (.inr (9, [.ref t0, .int (nI ((tsz + 1) + 1)), .int tkd, .int tpl, .int tbh, .long twd, .int tnu]))), (t0, .inl (.inl (kA 0, 1600, .inl (upd (upd (upd tby tsz (vp_nar .byte ((fo >>> (16 &&& 31)).toInt8.toInt32))) (tsz + 1) (vp_nar .byte ((fo >>> (8 &&& 31)).toInt8.toInt32))) ((tsz + 1) + 1) (vp_nar .byte ((fo >>> (0 &&& 31)).toInt8.toInt32))))))]) h 1 rfl ((tsz + 1) + 1) rfl (by omega) (by omega) dX9_put_31 rfl ?_
          refine j_aload_n h 1 rfl rfl dX9_put_32 ?_
          refine j_dup h rfl dX9_put_33 ?_
          refine jm_get h iw_X9 0 rfl rfl 1 (by decide) tw_122 rfl dX9_put_34 ?_
          refine j_iconst (v := 1) h (by decide) dX9_put_37 ?_
          refine j_iadd h dX9_put_38 ?_
          refine j_top (b := nI (((tsz + 1) + 1) + 1)) (nI_add ((tsz + 1) + 1) 1) ?_
          refine jm_put (w' := [(t, .inl (.inr (9, [.ref t0, .int (nI (((tsz + 1) + 1) + 1)), .int tkd, .int tpl, .int tbh, .long twd, .int tnu]))), (t0, .inl (.inl (kA 0, 1600, .inl (upd (upd (upd tby tsz (vp_nar .byte ((fo >>> (16 &&& 31)).toInt8.toInt32))) (tsz + 1) (vp_nar .byte ((fo >>> (8 &&& 31)).toInt8.toInt32))) ((tsz + 1) + 1) (vp_nar .byte ((fo >>> (0 &&& 31)).toInt8.toInt32))))))]) h iw_X9 tyX9 tyX9_ok nmX9 0 rfl rfl 1 (by decide) tw_122 rfl rfl rfl (Nat.le_of_ble_eq_true rfl) dX9_put_39 rfl ?_
          refine j_iinc (v := (-8)) (lv' := [(2, .int (-8)), (0, .ref t), (1, .int fo)]) h dX9_put_42 0 rfl (by decide) (by decide) rfl ?_
          refine j_goto h 3 dX9_put_45 (by decide) ?_
          refine j_iload_n h 0 rfl rfl dX9_put_3 ?_
          refine j_if_lt h 48 dX9_put_4 (by decide) (fun _ => ?_) (fun q => absurd (by decide) q)
          exact jm_vret h hq dX9_put_48 ((((tsz + 1) + 1) + 1), (upd (upd (upd tby tsz (vp_nar .byte ((fo >>> (16 &&& 31)).toInt8.toInt32))) (tsz + 1) (vp_nar .byte ((fo >>> (8 &&& 31)).toInt8.toInt32))) ((tsz + 1) + 1) (vp_nar .byte ((fo >>> (0 &&& 31)).toInt8.toInt32)))) [0, 1] rfl (by decide) (show (((tsz + 1) + 1) + 1) = tsz + 4 by first | assumption | omega) (Nat.le_of_ble_eq_true rfl) (Nat.le_of_ble_eq_true rfl)
  · have z5486n : ¬ 1600 ≤ tsz := fun q9 => z5486 ((nI_leI (a := 1600) (b := tsz) (by omega) (by omega)).mpr q9)
    refine j_aload_n h 1 rfl rfl dX9_put_19 ?_
    refine jm_get h iw_X9 0 rfl rfl 0 (by decide) tw_121 rfl dX9_put_20 ?_
    refine j_aload_n h 1 rfl rfl dX9_put_23 ?_
    refine jm_get h iw_X9 0 rfl rfl 1 (by decide) tw_122 rfl dX9_put_24 ?_
    refine j_iload_n h 2 rfl rfl dX9_put_27 ?_
    refine j_iload_n h 0 rfl rfl dX9_put_28 ?_
    refine j_ishr h dX9_put_29 ?_
    refine j_i2b h dX9_put_30 ?_
    refine jm_bast (w' := [(t, .inl (.inr (9, [.ref t0, .int (nI tsz), .int tkd, .int tpl, .int tbh, .long twd, .int tnu]))), (t0, .inl (.inl (kA 0, 1600, .inl (upd tby tsz (vp_nar .byte ((fo >>> (24 &&& 31)).toInt8.toInt32))))))]) h 1 rfl tsz rfl (by omega) (by omega) dX9_put_31 rfl ?_
    refine j_aload_n h 1 rfl rfl dX9_put_32 ?_
    refine j_dup h rfl dX9_put_33 ?_
    refine jm_get h iw_X9 0 rfl rfl 1 (by decide) tw_122 rfl dX9_put_34 ?_
    refine j_iconst (v := 1) h (by decide) dX9_put_37 ?_
    refine j_iadd h dX9_put_38 ?_
    refine j_top (b := nI (tsz + 1)) (nI_add tsz 1) ?_
    refine jm_put (w' := [(t, .inl (.inr (9, [.ref t0, .int (nI (tsz + 1)), .int tkd, .int tpl, .int tbh, .long twd, .int tnu]))), (t0, .inl (.inl (kA 0, 1600, .inl (upd tby tsz (vp_nar .byte ((fo >>> (24 &&& 31)).toInt8.toInt32))))))]) h iw_X9 tyX9 tyX9_ok nmX9 0 rfl rfl 1 (by decide) tw_122 rfl rfl rfl (Nat.le_of_ble_eq_true rfl) dX9_put_39 rfl ?_
    refine j_iinc (v := 16) (lv' := [(2, .int 16), (0, .ref t), (1, .int fo)]) h dX9_put_42 0 rfl (by decide) (by decide) rfl ?_
    refine j_goto h 3 dX9_put_45 (by decide) ?_
    refine j_iload_n h 0 rfl rfl dX9_put_3 ?_
    refine j_if_lt h 48 dX9_put_4 (by decide) (fun q => absurd q (by decide)) (fun _ => ?_)
    refine j_aload_n h 1 rfl rfl dX9_put_7 ?_
    refine jm_get h iw_X9 0 rfl rfl 1 (by decide) tw_122 rfl dX9_put_8 ?_
    refine j_aload_n h 1 rfl rfl dX9_put_11 ?_
    refine jm_get h iw_X9 0 rfl rfl 0 (by decide) tw_121 rfl dX9_put_12 ?_
    refine jm_alen (v := 1600) h 1 0 rfl rfl rfl dX9_put_15 ?_
    refine j_icmp_ge h 42 dX9_put_16 (by decide) (fun z5494 => ?_) (fun z5494 => ?_)
    · have z5494n : 1600 ≤ (tsz + 1) := (nI_leI (a := 1600) (b := (tsz + 1)) (by omega) (by omega)).mp z5494
      refine j_iinc (v := 8) (lv' := [(2, .int 8), (0, .ref t), (1, .int fo)]) h dX9_put_42 0 rfl (by decide) (by decide) rfl ?_
      refine j_goto h 3 dX9_put_45 (by decide) ?_
      refine j_iload_n h 0 rfl rfl dX9_put_3 ?_
      refine j_if_lt h 48 dX9_put_4 (by decide) (fun q => absurd q (by decide)) (fun _ => ?_)
      refine j_aload_n h 1 rfl rfl dX9_put_7 ?_
      refine jm_get h iw_X9 0 rfl rfl 1 (by decide) tw_122 rfl dX9_put_8 ?_
      refine j_aload_n h 1 rfl rfl dX9_put_11 ?_
      refine jm_get h iw_X9 0 rfl rfl 0 (by decide) tw_121 rfl dX9_put_12 ?_
      refine jm_alen (v := 1600) h 1 0 rfl rfl rfl dX9_put_15 ?_
      refine j_icmp_ge h 42 dX9_put_16 (by decide) (fun z5495 => ?_) (fun z5495 => ?_)
      · have z5495n : 1600 ≤ (tsz + 1) := (nI_leI (a := 1600) (b := (tsz + 1)) (by omega) (by omega)).mp z5495
        refine j_iinc (v := 0) (lv' := [(2, .int 0), (0, .ref t), (1, .int fo)]) h dX9_put_42 0 rfl (by decide) (by decide) rfl ?_
        refine j_goto h 3 dX9_put_45 (by decide) ?_
        refine j_iload_n h 0 rfl rfl dX9_put_3 ?_
        refine j_if_lt h 48 dX9_put_4 (by decide) (fun q => absurd q (by decide)) (fun _ => ?_)
        refine j_aload_n h 1 rfl rfl dX9_put_7 ?_
        refine jm_get h iw_X9 0 rfl rfl 1 (by decide) tw_122 rfl dX9_put_8 ?_
        refine j_aload_n h 1 rfl rfl dX9_put_11 ?_
        refine jm_get h iw_X9 0 rfl rfl 0 (by decide) tw_121 rfl dX9_put_12 ?_
        refine jm_alen (v := 1600) h 1 0 rfl rfl rfl dX9_put_15 ?_
        refine j_icmp_ge h 42 dX9_put_16 (by decide) (fun z5496 => ?_) (fun z5496 => ?_)
        · have z5496n : 1600 ≤ (tsz + 1) := (nI_leI (a := 1600) (b := (tsz + 1)) (by omega) (by omega)).mp z5496
          refine j_iinc (v := (-8)) (lv' := [(2, .int (-8)), (0, .ref t), (1, .int fo)]) h dX9_put_42 0 rfl (by decide) (by decide) rfl ?_
          refine j_goto h 3 dX9_put_45 (by decide) ?_
          refine j_iload_n h 0 rfl rfl dX9_put_3 ?_
          refine j_if_lt h 48 dX9_put_4 (by decide) (fun _ => ?_) (fun q => absurd (by decide) q)
          exact jm_vret h hq dX9_put_48 ((tsz + 1), (upd tby tsz (vp_nar .byte ((fo >>> (24 &&& 31)).toInt8.toInt32)))) [0, 1] rfl (by decide) (show (tsz + 1) = tsz + 4 by first | assumption | omega) (Nat.le_of_ble_eq_true rfl) (Nat.le_of_ble_eq_true rfl)
        · have z5496n : ¬ 1600 ≤ (tsz + 1) := fun q9 => z5496 ((nI_leI (a := 1600) (b := (tsz + 1)) (by omega) (by omega)).mpr q9)
          refine j_aload_n h 1 rfl rfl dX9_put_19 ?_
          refine jm_get h iw_X9 0 rfl rfl 0 (by decide) tw_121 rfl dX9_put_20 ?_
          refine j_aload_n h 1 rfl rfl dX9_put_23 ?_
          refine jm_get h iw_X9 0 rfl rfl 1 (by decide) tw_122 rfl dX9_put_24 ?_
          refine j_iload_n h 2 rfl rfl dX9_put_27 ?_
          refine j_iload_n h 0 rfl rfl dX9_put_28 ?_
          refine j_ishr h dX9_put_29 ?_
          refine j_i2b h dX9_put_30 ?_
          refine jm_bast (w' := [(t, .inl (.inr (9, [.ref t0, .int (nI (tsz + 1)), .int tkd, .int tpl, .int tbh, .long twd, .int tnu]))), (t0, .inl (.inl (kA 0, 1600, .inl (upd (upd tby tsz (vp_nar .byte ((fo >>> (24 &&& 31)).toInt8.toInt32))) (tsz + 1) (vp_nar .byte ((fo >>> (0 &&& 31)).toInt8.toInt32))))))]) h 1 rfl (tsz + 1) rfl (by omega) (by omega) dX9_put_31 rfl ?_
          refine j_aload_n h 1 rfl rfl dX9_put_32 ?_
          refine j_dup h rfl dX9_put_33 ?_
          refine jm_get h iw_X9 0 rfl rfl 1 (by decide) tw_122 rfl dX9_put_34 ?_
          refine j_iconst (v := 1) h (by decide) dX9_put_37 ?_
          refine j_iadd h dX9_put_38 ?_
          refine j_top (b := nI ((tsz + 1) + 1)) (nI_add (tsz + 1) 1) ?_
          refine jm_put (w' := [(t, .inl (.inr (9, [.ref t0, .int (nI ((tsz + 1) + 1)), .int tkd, .int tpl, .int tbh, .long twd, .int tnu]))), (t0, .inl (.inl (kA 0, 1600, .inl (upd (upd tby tsz (vp_nar .byte ((fo >>> (24 &&& 31)).toInt8.toInt32))) (tsz + 1) (vp_nar .byte ((fo >>> (0 &&& 31)).toInt8.toInt32))))))]) h iw_X9 tyX9 tyX9_ok nmX9 0 rfl rfl 1 (by decide) tw_122 rfl rfl rfl (Nat.le_of_ble_eq_true rfl) dX9_put_39 rfl ?_
          refine j_iinc (v := (-8)) (lv' := [(2, .int (-8)), (0, .ref t), (1, .int fo)]) h dX9_put_42 0 rfl (by decide) (by decide) rfl ?_
          refine j_goto h 3 dX9_put_45 (by decide) ?_
          refine j_iload_n h 0 rfl rfl dX9_put_3 ?_
          refine j_if_lt h 48 dX9_put_4 (by decide) (fun _ => ?_) (fun q => absurd (by decide) q)
          exact jm_vret h hq dX9_put_48 (((tsz + 1) + 1), (upd (upd tby tsz (vp_nar .byte ((fo >>> (24 &&& 31)).toInt8.toInt32))) (tsz + 1) (vp_nar .byte ((fo >>> (0 &&& 31)).toInt8.toInt32)))) [0, 1] rfl (by decide) (show ((tsz + 1) + 1) = tsz + 4 by first | assumption | omega) (Nat.le_of_ble_eq_true rfl) (Nat.le_of_ble_eq_true rfl)
      · have z5495n : ¬ 1600 ≤ (tsz + 1) := fun q9 => z5495 ((nI_leI (a := 1600) (b := (tsz + 1)) (by omega) (by omega)).mpr q9)
        refine j_aload_n h 1 rfl rfl dX9_put_19 ?_
        refine jm_get h iw_X9 0 rfl rfl 0 (by decide) tw_121 rfl dX9_put_20 ?_
        refine j_aload_n h 1 rfl rfl dX9_put_23 ?_
        refine jm_get h iw_X9 0 rfl rfl 1 (by decide) tw_122 rfl dX9_put_24 ?_
        refine j_iload_n h 2 rfl rfl dX9_put_27 ?_
        refine j_iload_n h 0 rfl rfl dX9_put_28 ?_
        refine j_ishr h dX9_put_29 ?_
        refine j_i2b h dX9_put_30 ?_
        refine jm_bast (w' := [(t, .inl (.inr (9, [.ref t0, .int (nI (tsz + 1)), .int tkd, .int tpl, .int tbh, .long twd, .int tnu]))), (t0, .inl (.inl (kA 0, 1600, .inl (upd (upd tby tsz (vp_nar .byte ((fo >>> (24 &&& 31)).toInt8.toInt32))) (tsz + 1) (vp_nar .byte ((fo >>> (8 &&& 31)).toInt8.toInt32))))))]) h 1 rfl (tsz + 1) rfl (by omega) (by omega) dX9_put_31 rfl ?_
        refine j_aload_n h 1 rfl rfl dX9_put_32 ?_
        refine j_dup h rfl dX9_put_33 ?_
        refine jm_get h iw_X9 0 rfl rfl 1 (by decide) tw_122 rfl dX9_put_34 ?_
        refine j_iconst (v := 1) h (by decide) dX9_put_37 ?_
        refine j_iadd h dX9_put_38 ?_
        refine j_top (b := nI ((tsz + 1) + 1)) (nI_add (tsz + 1) 1) ?_
        refine jm_put (w' := [(t, .inl (.inr (9, [.ref t0, .int (nI ((tsz + 1) + 1)), .int tkd, .int tpl, .int tbh, .long twd, .int tnu]))), (t0, .inl (.inl (kA 0, 1600, .inl (upd (upd tby tsz (vp_nar .byte ((fo >>> (24 &&& 31)).toInt8.toInt32))) (tsz + 1) (vp_nar .byte ((fo >>> (8 &&& 31)).toInt8.toInt32))))))]) h iw_X9 tyX9 tyX9_ok nmX9 0 rfl rfl 1 (by decide) tw_122 rfl rfl rfl (Nat.le_of_ble_eq_true rfl) dX9_put_39 rfl ?_
        refine j_iinc (v := 0) (lv' := [(2, .int 0), (0, .ref t), (1, .int fo)]) h dX9_put_42 0 rfl (by decide) (by decide) rfl ?_
        refine j_goto h 3 dX9_put_45 (by decide) ?_
        refine j_iload_n h 0 rfl rfl dX9_put_3 ?_
        refine j_if_lt h 48 dX9_put_4 (by decide) (fun q => absurd q (by decide)) (fun _ => ?_)
        refine j_aload_n h 1 rfl rfl dX9_put_7 ?_
        refine jm_get h iw_X9 0 rfl rfl 1 (by decide) tw_122 rfl dX9_put_8 ?_
        refine j_aload_n h 1 rfl rfl dX9_put_11 ?_
        refine jm_get h iw_X9 0 rfl rfl 0 (by decide) tw_121 rfl dX9_put_12 ?_
        refine jm_alen (v := 1600) h 1 0 rfl rfl rfl dX9_put_15 ?_
        refine j_icmp_ge h 42 dX9_put_16 (by decide) (fun z5497 => ?_) (fun z5497 => ?_)
        · have z5497n : 1600 ≤ ((tsz + 1) + 1) := (nI_leI (a := 1600) (b := ((tsz + 1) + 1)) (by omega) (by omega)).mp z5497
          refine j_iinc (v := (-8)) (lv' := [(2, .int (-8)), (0, .ref t), (1, .int fo)]) h dX9_put_42 0 rfl (by decide) (by decide) rfl ?_
          refine j_goto h 3 dX9_put_45 (by decide) ?_
          refine j_iload_n h 0 rfl rfl dX9_put_3 ?_
          refine j_if_lt h 48 dX9_put_4 (by decide) (fun _ => ?_) (fun q => absurd (by decide) q)
          exact jm_vret h hq dX9_put_48 (((tsz + 1) + 1), (upd (upd tby tsz (vp_nar .byte ((fo >>> (24 &&& 31)).toInt8.toInt32))) (tsz + 1) (vp_nar .byte ((fo >>> (8 &&& 31)).toInt8.toInt32)))) [0, 1] rfl (by decide) (show ((tsz + 1) + 1) = tsz + 4 by first | assumption | omega) (Nat.le_of_ble_eq_true rfl) (Nat.le_of_ble_eq_true rfl)
        · have z5497n : ¬ 1600 ≤ ((tsz + 1) + 1) := fun q9 => z5497 ((nI_leI (a := 1600) (b := ((tsz + 1) + 1)) (by omega) (by omega)).mpr q9)
          refine j_aload_n h 1 rfl rfl dX9_put_19 ?_
          refine jm_get h iw_X9 0 rfl rfl 0 (by decide) tw_121 rfl dX9_put_20 ?_
          refine j_aload_n h 1 rfl rfl dX9_put_23 ?_
          refine jm_get h iw_X9 0 rfl rfl 1 (by decide) tw_122 rfl dX9_put_24 ?_
          refine j_iload_n h 2 rfl rfl dX9_put_27 ?_
          refine j_iload_n h 0 rfl rfl dX9_put_28 ?_
          refine j_ishr h dX9_put_29 ?_
          refine j_i2b h dX9_put_30 ?_
          refine jm_bast (w' := [(t, .inl (.inr (9, [.ref t0, .int (nI ((tsz + 1) + 1)), .int tkd, .int tpl, .int tbh, .long twd, .int tnu]))), (t0, .inl (.inl (kA 0, 1600, .inl (upd (upd (upd tby tsz (vp_nar .byte ((fo >>> (24 &&& 31)).toInt8.toInt32))) (tsz + 1) (vp_nar .byte ((fo >>> (8 &&& 31)).toInt8.toInt32))) ((tsz + 1) + 1) (vp_nar .byte ((fo >>> (0 &&& 31)).toInt8.toInt32))))))]) h 1 rfl ((tsz + 1) + 1) rfl (by omega) (by omega) dX9_put_31 rfl ?_
          refine j_aload_n h 1 rfl rfl dX9_put_32 ?_
          refine j_dup h rfl dX9_put_33 ?_
          refine jm_get h iw_X9 0 rfl rfl 1 (by decide) tw_122 rfl dX9_put_34 ?_
          refine j_iconst (v := 1) h (by decide) dX9_put_37 ?_
          refine j_iadd h dX9_put_38 ?_
          refine j_top (b := nI (((tsz + 1) + 1) + 1)) (nI_add ((tsz + 1) + 1) 1) ?_
          refine jm_put (w' := [(t, .inl (.inr (9, [.ref t0, .int (nI (((tsz + 1) + 1) + 1)), .int tkd, .int tpl, .int tbh, .long twd, .int tnu]))), (t0, .inl (.inl (kA 0, 1600, .inl (upd (upd (upd tby tsz (vp_nar .byte ((fo >>> (24 &&& 31)).toInt8.toInt32))) (tsz + 1) (vp_nar .byte ((fo >>> (8 &&& 31)).toInt8.toInt32))) ((tsz + 1) + 1) (vp_nar .byte ((fo >>> (0 &&& 31)).toInt8.toInt32))))))]) h iw_X9 tyX9 tyX9_ok nmX9 0 rfl rfl 1 (by decide) tw_122 rfl rfl rfl (Nat.le_of_ble_eq_true rfl) dX9_put_39 rfl ?_
          refine j_iinc (v := (-8)) (lv' := [(2, .int (-8)), (0, .ref t), (1, .int fo)]) h dX9_put_42 0 rfl (by decide) (by decide) rfl ?_
          refine j_goto h 3 dX9_put_45 (by decide) ?_
          refine j_iload_n h 0 rfl rfl dX9_put_3 ?_
          refine j_if_lt h 48 dX9_put_4 (by decide) (fun _ => ?_) (fun q => absurd (by decide) q)
          exact jm_vret h hq dX9_put_48 ((((tsz + 1) + 1) + 1), (upd (upd (upd tby tsz (vp_nar .byte ((fo >>> (24 &&& 31)).toInt8.toInt32))) (tsz + 1) (vp_nar .byte ((fo >>> (8 &&& 31)).toInt8.toInt32))) ((tsz + 1) + 1) (vp_nar .byte ((fo >>> (0 &&& 31)).toInt8.toInt32)))) [0, 1] rfl (by decide) (show (((tsz + 1) + 1) + 1) = tsz + 4 by first | assumption | omega) (Nat.le_of_ble_eq_true rfl) (Nat.le_of_ble_eq_true rfl)
    · have z5494n : ¬ 1600 ≤ (tsz + 1) := fun q9 => z5494 ((nI_leI (a := 1600) (b := (tsz + 1)) (by omega) (by omega)).mpr q9)
      refine j_aload_n h 1 rfl rfl dX9_put_19 ?_
      refine jm_get h iw_X9 0 rfl rfl 0 (by decide) tw_121 rfl dX9_put_20 ?_
      refine j_aload_n h 1 rfl rfl dX9_put_23 ?_
      refine jm_get h iw_X9 0 rfl rfl 1 (by decide) tw_122 rfl dX9_put_24 ?_
      refine j_iload_n h 2 rfl rfl dX9_put_27 ?_
      refine j_iload_n h 0 rfl rfl dX9_put_28 ?_
      refine j_ishr h dX9_put_29 ?_
      refine j_i2b h dX9_put_30 ?_
      refine jm_bast (w' := [(t, .inl (.inr (9, [.ref t0, .int (nI (tsz + 1)), .int tkd, .int tpl, .int tbh, .long twd, .int tnu]))), (t0, .inl (.inl (kA 0, 1600, .inl (upd (upd tby tsz (vp_nar .byte ((fo >>> (24 &&& 31)).toInt8.toInt32))) (tsz + 1) (vp_nar .byte ((fo >>> (16 &&& 31)).toInt8.toInt32))))))]) h 1 rfl (tsz + 1) rfl (by omega) (by omega) dX9_put_31 rfl ?_
      refine j_aload_n h 1 rfl rfl dX9_put_32 ?_
      refine j_dup h rfl dX9_put_33 ?_
      refine jm_get h iw_X9 0 rfl rfl 1 (by decide) tw_122 rfl dX9_put_34 ?_
      refine j_iconst (v := 1) h (by decide) dX9_put_37 ?_
      refine j_iadd h dX9_put_38 ?_
      refine j_top (b := nI ((tsz + 1) + 1)) (nI_add (tsz + 1) 1) ?_
      refine jm_put (w' := [(t, .inl (.inr (9, [.ref t0, .int (nI ((tsz + 1) + 1)), .int tkd, .int tpl, .int tbh, .long twd, .int tnu]))), (t0, .inl (.inl (kA 0, 1600, .inl (upd (upd tby tsz (vp_nar .byte ((fo >>> (24 &&& 31)).toInt8.toInt32))) (tsz + 1) (vp_nar .byte ((fo >>> (16 &&& 31)).toInt8.toInt32))))))]) h iw_X9 tyX9 tyX9_ok nmX9 0 rfl rfl 1 (by decide) tw_122 rfl rfl rfl (Nat.le_of_ble_eq_true rfl) dX9_put_39 rfl ?_
      refine j_iinc (v := 8) (lv' := [(2, .int 8), (0, .ref t), (1, .int fo)]) h dX9_put_42 0 rfl (by decide) (by decide) rfl ?_
      refine j_goto h 3 dX9_put_45 (by decide) ?_
      refine j_iload_n h 0 rfl rfl dX9_put_3 ?_
      refine j_if_lt h 48 dX9_put_4 (by decide) (fun q => absurd q (by decide)) (fun _ => ?_)
      refine j_aload_n h 1 rfl rfl dX9_put_7 ?_
      refine jm_get h iw_X9 0 rfl rfl 1 (by decide) tw_122 rfl dX9_put_8 ?_
      refine j_aload_n h 1 rfl rfl dX9_put_11 ?_
      refine jm_get h iw_X9 0 rfl rfl 0 (by decide) tw_121 rfl dX9_put_12 ?_
      refine jm_alen (v := 1600) h 1 0 rfl rfl rfl dX9_put_15 ?_
      refine j_icmp_ge h 42 dX9_put_16 (by decide) (fun z5498 => ?_) (fun z5498 => ?_)
      · have z5498n : 1600 ≤ ((tsz + 1) + 1) := (nI_leI (a := 1600) (b := ((tsz + 1) + 1)) (by omega) (by omega)).mp z5498
        refine j_iinc (v := 0) (lv' := [(2, .int 0), (0, .ref t), (1, .int fo)]) h dX9_put_42 0 rfl (by decide) (by decide) rfl ?_
        refine j_goto h 3 dX9_put_45 (by decide) ?_
        refine j_iload_n h 0 rfl rfl dX9_put_3 ?_
        refine j_if_lt h 48 dX9_put_4 (by decide) (fun q => absurd q (by decide)) (fun _ => ?_)
        refine j_aload_n h 1 rfl rfl dX9_put_7 ?_
        refine jm_get h iw_X9 0 rfl rfl 1 (by decide) tw_122 rfl dX9_put_8 ?_
        refine j_aload_n h 1 rfl rfl dX9_put_11 ?_
        refine jm_get h iw_X9 0 rfl rfl 0 (by decide) tw_121 rfl dX9_put_12 ?_
        refine jm_alen (v := 1600) h 1 0 rfl rfl rfl dX9_put_15 ?_
        refine j_icmp_ge h 42 dX9_put_16 (by decide) (fun z5499 => ?_) (fun z5499 => ?_)
        · have z5499n : 1600 ≤ ((tsz + 1) + 1) := (nI_leI (a := 1600) (b := ((tsz + 1) + 1)) (by omega) (by omega)).mp z5499
          refine j_iinc (v := (-8)) (lv' := [(2, .int (-8)), (0, .ref t), (1, .int fo)]) h dX9_put_42 0 rfl (by decide) (by decide) rfl ?_
          refine j_goto h 3 dX9_put_45 (by decide) ?_
          refine j_iload_n h 0 rfl rfl dX9_put_3 ?_
          refine j_if_lt h 48 dX9_put_4 (by decide) (fun _ => ?_) (fun q => absurd (by decide) q)
          exact jm_vret h hq dX9_put_48 (((tsz + 1) + 1), (upd (upd tby tsz (vp_nar .byte ((fo >>> (24 &&& 31)).toInt8.toInt32))) (tsz + 1) (vp_nar .byte ((fo >>> (16 &&& 31)).toInt8.toInt32)))) [0, 1] rfl (by decide) (show ((tsz + 1) + 1) = tsz + 4 by first | assumption | omega) (Nat.le_of_ble_eq_true rfl) (Nat.le_of_ble_eq_true rfl)
        · have z5499n : ¬ 1600 ≤ ((tsz + 1) + 1) := fun q9 => z5499 ((nI_leI (a := 1600) (b := ((tsz + 1) + 1)) (by omega) (by omega)).mpr q9)
          refine j_aload_n h 1 rfl rfl dX9_put_19 ?_
          refine jm_get h iw_X9 0 rfl rfl 0 (by decide) tw_121 rfl dX9_put_20 ?_
          refine j_aload_n h 1 rfl rfl dX9_put_23 ?_
          refine jm_get h iw_X9 0 rfl rfl 1 (by decide) tw_122 rfl dX9_put_24 ?_
          refine j_iload_n h 2 rfl rfl dX9_put_27 ?_
          refine j_iload_n h 0 rfl rfl dX9_put_28 ?_
          refine j_ishr h dX9_put_29 ?_
          refine j_i2b h dX9_put_30 ?_
          refine jm_bast (w' := [(t, .inl (.inr (9, [.ref t0, .int (nI ((tsz + 1) + 1)), .int tkd, .int tpl, .int tbh, .long twd, .int tnu]))), (t0, .inl (.inl (kA 0, 1600, .inl (upd (upd (upd tby tsz (vp_nar .byte ((fo >>> (24 &&& 31)).toInt8.toInt32))) (tsz + 1) (vp_nar .byte ((fo >>> (16 &&& 31)).toInt8.toInt32))) ((tsz + 1) + 1) (vp_nar .byte ((fo >>> (0 &&& 31)).toInt8.toInt32))))))]) h 1 rfl ((tsz + 1) + 1) rfl (by omega) (by omega) dX9_put_31 rfl ?_
          refine j_aload_n h 1 rfl rfl dX9_put_32 ?_
          refine j_dup h rfl dX9_put_33 ?_
          refine jm_get h iw_X9 0 rfl rfl 1 (by decide) tw_122 rfl dX9_put_34 ?_
          refine j_iconst (v := 1) h (by decide) dX9_put_37 ?_
          refine j_iadd h dX9_put_38 ?_
          refine j_top (b := nI (((tsz + 1) + 1) + 1)) (nI_add ((tsz + 1) + 1) 1) ?_
          refine jm_put (w' := [(t, .inl (.inr (9, [.ref t0, .int (nI (((tsz + 1) + 1) + 1)), .int tkd, .int tpl, .int tbh, .long twd, .int tnu]))), (t0, .inl (.inl (kA 0, 1600, .inl (upd (upd (upd tby tsz (vp_nar .byte ((fo >>> (24 &&& 31)).toInt8.toInt32))) (tsz + 1) (vp_nar .byte ((fo >>> (16 &&& 31)).toInt8.toInt32))) ((tsz + 1) + 1) (vp_nar .byte ((fo >>> (0 &&& 31)).toInt8.toInt32))))))]) h iw_X9 tyX9 tyX9_ok nmX9 0 rfl rfl 1 (by decide) tw_122 rfl rfl rfl (Nat.le_of_ble_eq_true rfl) dX9_put_39 rfl ?_
          refine j_iinc (v := (-8)) (lv' := [(2, .int (-8)), (0, .ref t), (1, .int fo)]) h dX9_put_42 0 rfl (by decide) (by decide) rfl ?_
          refine j_goto h 3 dX9_put_45 (by decide) ?_
          refine j_iload_n h 0 rfl rfl dX9_put_3 ?_
          refine j_if_lt h 48 dX9_put_4 (by decide) (fun _ => ?_) (fun q => absurd (by decide) q)
          exact jm_vret h hq dX9_put_48 ((((tsz + 1) + 1) + 1), (upd (upd (upd tby tsz (vp_nar .byte ((fo >>> (24 &&& 31)).toInt8.toInt32))) (tsz + 1) (vp_nar .byte ((fo >>> (16 &&& 31)).toInt8.toInt32))) ((tsz + 1) + 1) (vp_nar .byte ((fo >>> (0 &&& 31)).toInt8.toInt32)))) [0, 1] rfl (by decide) (show (((tsz + 1) + 1) + 1) = tsz + 4 by first | assumption | omega) (Nat.le_of_ble_eq_true rfl) (Nat.le_of_ble_eq_true rfl)
      · have z5498n : ¬ 1600 ≤ ((tsz + 1) + 1) := fun q9 => z5498 ((nI_leI (a := 1600) (b := ((tsz + 1) + 1)) (by omega) (by omega)).mpr q9)
        refine j_aload_n h 1 rfl rfl dX9_put_19 ?_
        refine jm_get h iw_X9 0 rfl rfl 0 (by decide) tw_121 rfl dX9_put_20 ?_
        refine j_aload_n h 1 rfl rfl dX9_put_23 ?_
        refine jm_get h iw_X9 0 rfl rfl 1 (by decide) tw_122 rfl dX9_put_24 ?_
        refine j_iload_n h 2 rfl rfl dX9_put_27 ?_
        refine j_iload_n h 0 rfl rfl dX9_put_28 ?_
        refine j_ishr h dX9_put_29 ?_
        refine j_i2b h dX9_put_30 ?_
        refine jm_bast (w' := [(t, .inl (.inr (9, [.ref t0, .int (nI ((tsz + 1) + 1)), .int tkd, .int tpl, .int tbh, .long twd, .int tnu]))), (t0, .inl (.inl (kA 0, 1600, .inl (upd (upd (upd tby tsz (vp_nar .byte ((fo >>> (24 &&& 31)).toInt8.toInt32))) (tsz + 1) (vp_nar .byte ((fo >>> (16 &&& 31)).toInt8.toInt32))) ((tsz + 1) + 1) (vp_nar .byte ((fo >>> (8 &&& 31)).toInt8.toInt32))))))]) h 1 rfl ((tsz + 1) + 1) rfl (by omega) (by omega) dX9_put_31 rfl ?_
        refine j_aload_n h 1 rfl rfl dX9_put_32 ?_
        refine j_dup h rfl dX9_put_33 ?_
        refine jm_get h iw_X9 0 rfl rfl 1 (by decide) tw_122 rfl dX9_put_34 ?_
        refine j_iconst (v := 1) h (by decide) dX9_put_37 ?_
        refine j_iadd h dX9_put_38 ?_
        refine j_top (b := nI (((tsz + 1) + 1) + 1)) (nI_add ((tsz + 1) + 1) 1) ?_
        refine jm_put (w' := [(t, .inl (.inr (9, [.ref t0, .int (nI (((tsz + 1) + 1) + 1)), .int tkd, .int tpl, .int tbh, .long twd, .int tnu]))), (t0, .inl (.inl (kA 0, 1600, .inl (upd (upd (upd tby tsz (vp_nar .byte ((fo >>> (24 &&& 31)).toInt8.toInt32))) (tsz + 1) (vp_nar .byte ((fo >>> (16 &&& 31)).toInt8.toInt32))) ((tsz + 1) + 1) (vp_nar .byte ((fo >>> (8 &&& 31)).toInt8.toInt32))))))]) h iw_X9 tyX9 tyX9_ok nmX9 0 rfl rfl 1 (by decide) tw_122 rfl rfl rfl (Nat.le_of_ble_eq_true rfl) dX9_put_39 rfl ?_
        refine j_iinc (v := 0) (lv' := [(2, .int 0), (0, .ref t), (1, .int fo)]) h dX9_put_42 0 rfl (by decide) (by decide) rfl ?_
        refine j_goto h 3 dX9_put_45 (by decide) ?_
        refine j_iload_n h 0 rfl rfl dX9_put_3 ?_
        refine j_if_lt h 48 dX9_put_4 (by decide) (fun q => absurd q (by decide)) (fun _ => ?_)
        refine j_aload_n h 1 rfl rfl dX9_put_7 ?_
        refine jm_get h iw_X9 0 rfl rfl 1 (by decide) tw_122 rfl dX9_put_8 ?_
        refine j_aload_n h 1 rfl rfl dX9_put_11 ?_
        refine jm_get h iw_X9 0 rfl rfl 0 (by decide) tw_121 rfl dX9_put_12 ?_
        refine jm_alen (v := 1600) h 1 0 rfl rfl rfl dX9_put_15 ?_
        refine j_icmp_ge h 42 dX9_put_16 (by decide) (fun z5500 => ?_) (fun z5500 => ?_)
        · have z5500n : 1600 ≤ (((tsz + 1) + 1) + 1) := (nI_leI (a := 1600) (b := (((tsz + 1) + 1) + 1)) (by omega) (by omega)).mp z5500
          refine j_iinc (v := (-8)) (lv' := [(2, .int (-8)), (0, .ref t), (1, .int fo)]) h dX9_put_42 0 rfl (by decide) (by decide) rfl ?_
          refine j_goto h 3 dX9_put_45 (by decide) ?_
          refine j_iload_n h 0 rfl rfl dX9_put_3 ?_
          refine j_if_lt h 48 dX9_put_4 (by decide) (fun _ => ?_) (fun q => absurd (by decide) q)
          exact jm_vret h hq dX9_put_48 ((((tsz + 1) + 1) + 1), (upd (upd (upd tby tsz (vp_nar .byte ((fo >>> (24 &&& 31)).toInt8.toInt32))) (tsz + 1) (vp_nar .byte ((fo >>> (16 &&& 31)).toInt8.toInt32))) ((tsz + 1) + 1) (vp_nar .byte ((fo >>> (8 &&& 31)).toInt8.toInt32)))) [0, 1] rfl (by decide) (show (((tsz + 1) + 1) + 1) = tsz + 4 by first | assumption | omega) (Nat.le_of_ble_eq_true rfl) (Nat.le_of_ble_eq_true rfl)
        · have z5500n : ¬ 1600 ≤ (((tsz + 1) + 1) + 1) := fun q9 => z5500 ((nI_leI (a := 1600) (b := (((tsz + 1) + 1) + 1)) (by omega) (by omega)).mpr q9)
          refine j_aload_n h 1 rfl rfl dX9_put_19 ?_
          refine jm_get h iw_X9 0 rfl rfl 0 (by decide) tw_121 rfl dX9_put_20 ?_
          refine j_aload_n h 1 rfl rfl dX9_put_23 ?_
          refine jm_get h iw_X9 0 rfl rfl 1 (by decide) tw_122 rfl dX9_put_24 ?_
          refine j_iload_n h 2 rfl rfl dX9_put_27 ?_
          refine j_iload_n h 0 rfl rfl dX9_put_28 ?_
          refine j_ishr h dX9_put_29 ?_
          refine j_i2b h dX9_put_30 ?_
          refine jm_bast (w' := [(t, .inl (.inr (9, [.ref t0, .int (nI (((tsz + 1) + 1) + 1)), .int tkd, .int tpl, .int tbh, .long twd, .int tnu]))), (t0, .inl (.inl (kA 0, 1600, .inl (upd (upd (upd (upd tby tsz (vp_nar .byte ((fo >>> (24 &&& 31)).toInt8.toInt32))) (tsz + 1) (vp_nar .byte ((fo >>> (16 &&& 31)).toInt8.toInt32))) ((tsz + 1) + 1) (vp_nar .byte ((fo >>> (8 &&& 31)).toInt8.toInt32))) (((tsz + 1) + 1) + 1) (vp_nar .byte ((fo >>> (0 &&& 31)).toInt8.toInt32))))))]) h 1 rfl (((tsz + 1) + 1) + 1) rfl (by omega) (by omega) dX9_put_31 rfl ?_
          refine j_aload_n h 1 rfl rfl dX9_put_32 ?_
          refine j_dup h rfl dX9_put_33 ?_
          refine jm_get h iw_X9 0 rfl rfl 1 (by decide) tw_122 rfl dX9_put_34 ?_
          refine j_iconst (v := 1) h (by decide) dX9_put_37 ?_
          refine j_iadd h dX9_put_38 ?_
          refine j_top (b := nI ((((tsz + 1) + 1) + 1) + 1)) (nI_add (((tsz + 1) + 1) + 1) 1) ?_
          refine jm_put (w' := [(t, .inl (.inr (9, [.ref t0, .int (nI ((((tsz + 1) + 1) + 1) + 1)), .int tkd, .int tpl, .int tbh, .long twd, .int tnu]))), (t0, .inl (.inl (kA 0, 1600, .inl (upd (upd (upd (upd tby tsz (vp_nar .byte ((fo >>> (24 &&& 31)).toInt8.toInt32))) (tsz + 1) (vp_nar .byte ((fo >>> (16 &&& 31)).toInt8.toInt32))) ((tsz + 1) + 1) (vp_nar .byte ((fo >>> (8 &&& 31)).toInt8.toInt32))) (((tsz + 1) + 1) + 1) (vp_nar .byte ((fo >>> (0 &&& 31)).toInt8.toInt32))))))]) h iw_X9 tyX9 tyX9_ok nmX9 0 rfl rfl 1 (by decide) tw_122 rfl rfl rfl (Nat.le_of_ble_eq_true rfl) dX9_put_39 rfl ?_
          refine j_iinc (v := (-8)) (lv' := [(2, .int (-8)), (0, .ref t), (1, .int fo)]) h dX9_put_42 0 rfl (by decide) (by decide) rfl ?_
          refine j_goto h 3 dX9_put_45 (by decide) ?_
          refine j_iload_n h 0 rfl rfl dX9_put_3 ?_
          refine j_if_lt h 48 dX9_put_4 (by decide) (fun _ => ?_) (fun q => absurd (by decide) q)
          exact jm_vret h hq dX9_put_48 (((((tsz + 1) + 1) + 1) + 1), (upd (upd (upd (upd tby tsz (vp_nar .byte ((fo >>> (24 &&& 31)).toInt8.toInt32))) (tsz + 1) (vp_nar .byte ((fo >>> (16 &&& 31)).toInt8.toInt32))) ((tsz + 1) + 1) (vp_nar .byte ((fo >>> (8 &&& 31)).toInt8.toInt32))) (((tsz + 1) + 1) + 1) (vp_nar .byte ((fo >>> (0 &&& 31)).toInt8.toInt32)))) [0, 1] rfl (by decide) (show ((((tsz + 1) + 1) + 1) + 1) = tsz + 4 by first | assumption | omega) (Nat.le_of_ble_eq_true rfl) (Nat.le_of_ble_eq_true rfl)
set_option maxHeartbeats 4000000 in
set_option maxRecDepth 100000 in
theorem s_X9_isBlank (lau : Launch) (gg : va_G) (kA : Nat → ClassId) (bb : Int32)  : CtI lau yX9_isBlank cX9_isBlank 1 (some .boolean) 1 0 0 gg kA [.int bb] (mflat []) (S := Nat) (fun (r : Int32) (y_r : Nat) => r = nI y_r ∧ (y_r ≤ 1)) (fun (y_r : Nat) => mflat []) := by
  refine nx_startI (by decide +kernel) (Nat.le_of_ble_eq_true rfl) ?_
  intro x hnm h hq
  have h : Ok x cX9_isBlank RX9 kA (rmC 1 0 0) 1 := h
  show J x (mflat []) [(0, .int bb)] 0 0 0 []
  refine j_iload_n h 0 rfl rfl dX9_isBlank_0 ?_
  refine j_bipush (v := 32) h (by decide) dX9_isBlank_1 ?_
  refine j_icmp_eq h 12 dX9_isBlank_3 (by decide) (fun z5503 => ?_) (fun z5503 => ?_)
  · subst z5503
    show J x (mflat []) [(0, .int 32)] 0 0 12 []
    refine j_iconst (v := 1) h (by decide) dX9_isBlank_12 ?_
    refine j_goto h 17 dX9_isBlank_13 (by decide) ?_
    exact jm_zret h hq rfl dX9_isBlank_17 1 [] rfl (by decide) ⟨rfl, (show 1 ≤ 1 by first | assumption | omega)⟩ (Nat.le_of_ble_eq_true rfl) (Nat.le_of_ble_eq_true rfl)
  · show J x (mflat []) [(0, .int bb)] 0 0 6 []
    refine j_iload_n h 0 rfl rfl dX9_isBlank_6 ?_
    refine j_bipush (v := 10) h (by decide) dX9_isBlank_7 ?_
    refine j_icmp_ne h 16 dX9_isBlank_9 (by decide) (fun z5504 => ?_) (fun z5504 => ?_)
    · show J x (mflat []) [(0, .int bb)] 0 0 16 []
      refine j_iconst (v := 0) h (by decide) dX9_isBlank_16 ?_
      exact jm_zret h hq rfl dX9_isBlank_17 0 [] rfl (by decide) ⟨rfl, (show 0 ≤ 1 by first | assumption | omega)⟩ (Nat.le_of_ble_eq_true rfl) (Nat.le_of_ble_eq_true rfl)
    · subst z5504
      show J x (mflat []) [(0, .int 10)] 0 0 12 []
      refine j_iconst (v := 1) h (by decide) dX9_isBlank_12 ?_
      refine j_goto h 17 dX9_isBlank_13 (by decide) ?_
      exact jm_zret h hq rfl dX9_isBlank_17 1 [] rfl (by decide) ⟨rfl, (show 1 ≤ 1 by first | assumption | omega)⟩ (Nat.le_of_ble_eq_true rfl) (Nat.le_of_ble_eq_true rfl)
set_option maxHeartbeats 4000000 in
set_option maxRecDepth 100000 in
theorem s_X9_isLetter (lau : Launch) (gg : va_G) (kA : Nat → ClassId) (bb : Int32)  : CtI lau yX9_isLetter cX9_isLetter 1 (some .boolean) 1 0 0 gg kA [.int bb] (mflat []) (S := Nat) (fun (r : Int32) (y_r : Nat) => r = nI y_r ∧ (y_r ≤ 1)) (fun (y_r : Nat) => mflat []) := by
  refine nx_startI (by decide +kernel) (Nat.le_of_ble_eq_true rfl) ?_
  intro x hnm h hq
  have h : Ok x cX9_isLetter RX9 kA (rmC 1 0 0) 1 := h
  show J x (mflat []) [(0, .int bb)] 0 0 0 []
  refine j_iload_n h 0 rfl rfl dX9_isLetter_0 ?_
  refine j_bipush (v := 97) h (by decide) dX9_isLetter_1 ?_
  refine j_icmp_lt h 16 dX9_isLetter_3 (by decide) (fun z5507 => ?_) (fun z5507 => ?_)
  · show J x (mflat []) [(0, .int bb)] 0 0 16 []
    refine j_iconst (v := 0) h (by decide) dX9_isLetter_16 ?_
    exact jm_zret h hq rfl dX9_isLetter_17 0 [] rfl (by decide) ⟨rfl, (show 0 ≤ 1 by first | assumption | omega)⟩ (Nat.le_of_ble_eq_true rfl) (Nat.le_of_ble_eq_true rfl)
  · show J x (mflat []) [(0, .int bb)] 0 0 6 []
    refine j_iload_n h 0 rfl rfl dX9_isLetter_6 ?_
    refine j_bipush (v := 122) h (by decide) dX9_isLetter_7 ?_
    refine j_icmp_gt h 16 dX9_isLetter_9 (by decide) (fun z5508 => ?_) (fun z5508 => ?_)
    · show J x (mflat []) [(0, .int bb)] 0 0 16 []
      refine j_iconst (v := 0) h (by decide) dX9_isLetter_16 ?_
      exact jm_zret h hq rfl dX9_isLetter_17 0 [] rfl (by decide) ⟨rfl, (show 0 ≤ 1 by first | assumption | omega)⟩ (Nat.le_of_ble_eq_true rfl) (Nat.le_of_ble_eq_true rfl)
    · show J x (mflat []) [(0, .int bb)] 0 0 12 []
      refine j_iconst (v := 1) h (by decide) dX9_isLetter_12 ?_
      refine j_goto h 17 dX9_isLetter_13 (by decide) ?_
      exact jm_zret h hq rfl dX9_isLetter_17 1 [] rfl (by decide) ⟨rfl, (show 1 ≤ 1 by first | assumption | omega)⟩ (Nat.le_of_ble_eq_true rfl) (Nat.le_of_ble_eq_true rfl)
set_option maxHeartbeats 4000000 in
set_option maxRecDepth 100000 in
theorem s_X9_isDigit (lau : Launch) (gg : va_G) (kA : Nat → ClassId) (bb : Int32)  : CtI lau yX9_isDigit cX9_isDigit 1 (some .boolean) 1 0 0 gg kA [.int bb] (mflat []) (S := Nat) (fun (r : Int32) (y_r : Nat) => r = nI y_r ∧ (y_r ≤ 1)) (fun (y_r : Nat) => mflat []) := by
  refine nx_startI (by decide +kernel) (Nat.le_of_ble_eq_true rfl) ?_
  intro x hnm h hq
  have h : Ok x cX9_isDigit RX9 kA (rmC 1 0 0) 1 := h
  show J x (mflat []) [(0, .int bb)] 0 0 0 []
  refine j_iload_n h 0 rfl rfl dX9_isDigit_0 ?_
  refine j_bipush (v := 48) h (by decide) dX9_isDigit_1 ?_
  refine j_icmp_lt h 16 dX9_isDigit_3 (by decide) (fun z5511 => ?_) (fun z5511 => ?_)
  · show J x (mflat []) [(0, .int bb)] 0 0 16 []
    refine j_iconst (v := 0) h (by decide) dX9_isDigit_16 ?_
    exact jm_zret h hq rfl dX9_isDigit_17 0 [] rfl (by decide) ⟨rfl, (show 0 ≤ 1 by first | assumption | omega)⟩ (Nat.le_of_ble_eq_true rfl) (Nat.le_of_ble_eq_true rfl)
  · show J x (mflat []) [(0, .int bb)] 0 0 6 []
    refine j_iload_n h 0 rfl rfl dX9_isDigit_6 ?_
    refine j_bipush (v := 57) h (by decide) dX9_isDigit_7 ?_
    refine j_icmp_gt h 16 dX9_isDigit_9 (by decide) (fun z5512 => ?_) (fun z5512 => ?_)
    · show J x (mflat []) [(0, .int bb)] 0 0 16 []
      refine j_iconst (v := 0) h (by decide) dX9_isDigit_16 ?_
      exact jm_zret h hq rfl dX9_isDigit_17 0 [] rfl (by decide) ⟨rfl, (show 0 ≤ 1 by first | assumption | omega)⟩ (Nat.le_of_ble_eq_true rfl) (Nat.le_of_ble_eq_true rfl)
    · show J x (mflat []) [(0, .int bb)] 0 0 12 []
      refine j_iconst (v := 1) h (by decide) dX9_isDigit_12 ?_
      refine j_goto h 17 dX9_isDigit_13 (by decide) ?_
      exact jm_zret h hq rfl dX9_isDigit_17 1 [] rfl (by decide) ⟨rfl, (show 1 ≤ 1 by first | assumption | omega)⟩ (Nat.le_of_ble_eq_true rfl) (Nat.le_of_ble_eq_true rfl)
set_option maxHeartbeats 4000000 in
set_option maxRecDepth 100000 in
theorem s_X9_byteAt (lau : Launch) (gg : va_G) (kA : Nat → ClassId) (t : Nat) (aa : Int32) (t0 : Nat) (tsz : Nat) (tkd : Int32) (tpl : Int32) (tbh : Int32) (twd : Int64) (tnu : Int32) (tby : Nat → Int32) (htsz : tsz ≤ 1600) : CtI lau yX9_byteAt cX9_byteAt 2 (some .int) 1 0 0 gg kA [.ref t, .int aa] (mflat [(t, .inl (.inr (9, [.ref t0, .int (nI tsz), .int tkd, .int tpl, .int tbh, .long twd, .int tnu]))), (t0, .inl (.inl (kA 0, 1600, .inl tby)))]) (S := Unit) (fun (r : Int32) (_ : Unit) => True) (fun (_ : Unit) => mflat [(t, .inl (.inr (9, [.ref t0, .int (nI tsz), .int tkd, .int tpl, .int tbh, .long twd, .int tnu]))), (t0, .inl (.inl (kA 0, 1600, .inl tby)))]) := by
  refine nx_startI (by decide +kernel) (Nat.le_of_ble_eq_true rfl) ?_
  intro x hnm h hq
  have h : Ok x cX9_byteAt RX9 kA (rmC 1 0 0) 2 := h
  show J x (mflat [(t, .inl (.inr (9, [.ref t0, .int (nI tsz), .int tkd, .int tpl, .int tbh, .long twd, .int tnu]))), (t0, .inl (.inl (kA 0, 1600, .inl tby)))]) [(0, .ref t), (1, .int aa)] 0 0 0 []
  refine j_iload_n h 1 rfl rfl dX9_byteAt_0 ?_
  refine j_if_lt h 30 dX9_byteAt_1 (by decide) (fun z5517 => ?_) (fun z5517 => ?_)
  · show J x (mflat [(t, .inl (.inr (9, [.ref t0, .int (nI tsz), .int tkd, .int tpl, .int tbh, .long twd, .int tnu]))), (t0, .inl (.inl (kA 0, 1600, .inl tby)))]) [(0, .ref t), (1, .int aa)] 0 0 30 []
    refine j_iconst (v := 0) h (by decide) dX9_byteAt_30 ?_
    exact jm_iret h hq dX9_byteAt_31 () [0, 1] rfl (by decide) trivial (Nat.le_of_ble_eq_true rfl) (Nat.le_of_ble_eq_true rfl)
  · obtain ⟨j5518, hj5518, rfl⟩ := nI_of z5517
    show J x (mflat [(t, .inl (.inr (9, [.ref t0, .int (nI tsz), .int tkd, .int tpl, .int tbh, .long twd, .int tnu]))), (t0, .inl (.inl (kA 0, 1600, .inl tby)))]) [(0, .ref t), (1, .int (nI j5518))] 0 0 4 []
    refine j_iload_n h 1 rfl rfl dX9_byteAt_4 ?_
    refine j_aload_n h 0 rfl rfl dX9_byteAt_5 ?_
    refine jm_get h iw_X9 0 rfl rfl 1 (by decide) tw_122 rfl dX9_byteAt_6 ?_
    refine j_icmp_ge h 30 dX9_byteAt_9 (by decide) (fun z5519 => ?_) (fun z5519 => ?_)
    · have z5519n : tsz ≤ j5518 := (nI_leI (a := tsz) (b := j5518) (by omega) (by omega)).mp z5519
      refine j_iconst (v := 0) h (by decide) dX9_byteAt_30 ?_
      exact jm_iret h hq dX9_byteAt_31 () [0, 1] rfl (by decide) trivial (Nat.le_of_ble_eq_true rfl) (Nat.le_of_ble_eq_true rfl)
    · have z5519n : ¬ tsz ≤ j5518 := fun q9 => z5519 ((nI_leI (a := tsz) (b := j5518) (by omega) (by omega)).mpr q9)
      refine j_iload_n h 1 rfl rfl dX9_byteAt_12 ?_
      refine j_aload_n h 0 rfl rfl dX9_byteAt_13 ?_
      refine jm_get h iw_X9 0 rfl rfl 0 (by decide) tw_121 rfl dX9_byteAt_14 ?_
      refine jm_alen (v := 1600) h 1 0 rfl rfl rfl dX9_byteAt_17 ?_
      refine j_icmp_ge h 30 dX9_byteAt_18 (by decide) (fun z5520 => ?_) (fun z5520 => ?_)
      · have z5520n : 1600 ≤ j5518 := (nI_leI (a := 1600) (b := j5518) (by omega) (by omega)).mp z5520
        refine j_iconst (v := 0) h (by decide) dX9_byteAt_30 ?_
        exact jm_iret h hq dX9_byteAt_31 () [0, 1] rfl (by decide) trivial (Nat.le_of_ble_eq_true rfl) (Nat.le_of_ble_eq_true rfl)
      · have z5520n : ¬ 1600 ≤ j5518 := fun q9 => z5520 ((nI_leI (a := 1600) (b := j5518) (by omega) (by omega)).mpr q9)
        refine j_aload_n h 0 rfl rfl dX9_byteAt_21 ?_
        refine jm_get h iw_X9 0 rfl rfl 0 (by decide) tw_121 rfl dX9_byteAt_22 ?_
        refine j_iload_n h 1 rfl rfl dX9_byteAt_25 ?_
        refine jm_bald h 1 rfl j5518 rfl (by omega) (by omega) dX9_byteAt_26 ?_
        refine j_goto h 31 dX9_byteAt_27 (by decide) ?_
        exact jm_iret h hq dX9_byteAt_31 () [0, 1] rfl (by decide) trivial (Nat.le_of_ble_eq_true rfl) (Nat.le_of_ble_eq_true rfl)
set_option maxHeartbeats 4000000 in
set_option maxRecDepth 100000 in
theorem s_X9_readWord (lau : Launch) (gg : va_G) (kA : Nat → ClassId) (t : Nat) (t0 : Nat) (tsz : Nat) (tkd : Int32) (tpl : Nat) (tbh : Nat) (twd : Int64) (tnu : Int32) (tby : Nat → Int32) (htsz : tsz ≤ 1600) (htpl : tpl ≤ tsz) (htbh : tbh ≤ tsz) : CtV lau yX9_readWord cX9_readWord 1 (none) 2 0 0 gg kA [.ref t] (mflat [(t, .inl (.inr (9, [.ref t0, .int (nI tsz), .int tkd, .int (nI tpl), .int (nI tbh), .long twd, .int tnu]))), (t0, .inl (.inl (kA 0, 1600, .inl tby)))]) (S := Int32 × Nat × Int64) (fun ((y_t_2, y_t_4, y_t_5) : Int32 × Nat × Int64) => (tpl ≤ tsz) ∧ (y_t_4 ≤ tsz)) (fun ((y_t_2, y_t_4, y_t_5) : Int32 × Nat × Int64) => mflat [(t, .inl (.inr (9, [.ref t0, .int (nI tsz), .int y_t_2, .int (nI tpl), .int (nI y_t_4), .long y_t_5, .int tnu]))), (t0, .inl (.inl (kA 0, 1600, .inl tby)))]) := by
  refine nx_startV (by decide +kernel) (Nat.le_of_ble_eq_true rfl) ?_
  intro x hnm h hq
  have h : Ok x cX9_readWord RX9 kA (rmC 2 0 0) 1 := h
  show J x (mflat [(t, .inl (.inr (9, [.ref t0, .int (nI tsz), .int tkd, .int (nI tpl), .int (nI tbh), .long twd, .int tnu]))), (t0, .inl (.inl (kA 0, 1600, .inl tby)))]) [(0, .ref t)] 0 0 0 []
  refine j_aload_n h 0 rfl rfl dX9_readWord_0 ?_
  refine j_lconst (v := 0) h (by decide) dX9_readWord_1 ?_
  refine jm_put (w' := [(t, .inl (.inr (9, [.ref t0, .int (nI tsz), .int tkd, .int (nI tpl), .int (nI tbh), .long 0, .int tnu]))), (t0, .inl (.inl (kA 0, 1600, .inl tby)))]) h iw_X9 tyX9 tyX9_ok nmX9 0 rfl rfl 5 (by decide) tw_129 rfl rfl rfl (Nat.le_of_ble_eq_true rfl) dX9_readWord_2 rfl ?_
  have lp5_740 : ∀ (m5_740 : Nat), ∀ (wt4_5_740 : Nat) (wt5_5_740 : Int64), (wt4_5_740 ≤ tsz) → (wt4_5_740 ≤ 100000) → tsz + 1 - wt4_5_740 < m5_740 → J x (mflat [(t, .inl (.inr (9, [.ref t0, .int (nI tsz), .int tkd, .int (nI tpl), .int (nI wt4_5_740), .long wt5_5_740, .int tnu]))), (t0, .inl (.inl (kA 0, 1600, .inl tby)))]) [(0, .ref t)] 0 0 5 [] := by
    intro m5_740
    induction m5_740 with
    | zero =>
      intro wt4_5_740 wt5_5_740 i5_740_0 i5_740_1 hm5_740
      exact absurd hm5_740 (Nat.not_lt_zero _)
    | succ m5_740 ih5_740 =>
      intro wt4_5_740 wt5_5_740 i5_740_0 i5_740_1 hm5_740
      refine j_aload_n h 0 rfl rfl dX9_readWord_5 ?_
      refine jm_get h iw_X9 0 rfl rfl 4 (by decide) tw_128 rfl dX9_readWord_6 ?_
      refine j_aload_n h 0 rfl rfl dX9_readWord_9 ?_
      refine jm_get h iw_X9 0 rfl rfl 1 (by decide) tw_122 rfl dX9_readWord_10 ?_
      refine j_icmp_ge h 68 dX9_readWord_13 (by decide) (fun z5586 => ?_) (fun z5586 => ?_)
      · have z5586n : tsz ≤ wt4_5_740 := (nI_leI (a := tsz) (b := wt4_5_740) (by omega) (by omega)).mp z5586
        refine j_aload_n h 0 rfl rfl dX9_readWord_68 ?_
        refine j_aload_n h 0 rfl rfl dX9_readWord_69 ?_
        refine jm_get h iw_X9 0 rfl rfl 4 (by decide) tw_128 rfl dX9_readWord_70 ?_
        refine j_aload_n h 0 rfl rfl dX9_readWord_73 ?_
        refine jm_get h iw_X9 0 rfl rfl 3 (by decide) tw_126 rfl dX9_readWord_74 ?_
        refine j_isub h dX9_readWord_77 ?_
        refine j_bipush (v := 8) h (by decide) dX9_readWord_78 ?_
        refine j_icmp_le h 87 dX9_readWord_80 (by decide) (fun z5587 => ?_) (fun z5587 => ?_)
        · show J x (mflat [(t, .inl (.inr (9, [.ref t0, .int (nI tsz), .int tkd, .int (nI tpl), .int (nI wt4_5_740), .long wt5_5_740, .int tnu]))), (t0, .inl (.inl (kA 0, 1600, .inl tby)))]) [(0, .ref t)] 0 0 87 [.ref t]
          refine j_iconst (v := 1) h (by decide) dX9_readWord_87 ?_
          refine jm_put (w' := [(t, .inl (.inr (9, [.ref t0, .int (nI tsz), .int 1, .int (nI tpl), .int (nI wt4_5_740), .long wt5_5_740, .int tnu]))), (t0, .inl (.inl (kA 0, 1600, .inl tby)))]) h iw_X9 tyX9 tyX9_ok nmX9 0 rfl rfl 2 (by decide) tw_125 rfl rfl rfl (Nat.le_of_ble_eq_true rfl) dX9_readWord_88 rfl ?_
          exact jm_vret h hq dX9_readWord_91 (1, wt4_5_740, wt5_5_740) [0, 1] rfl (by decide) ⟨(show tpl ≤ tsz by first | assumption | omega), (show wt4_5_740 ≤ tsz by first | assumption | omega)⟩ (Nat.le_of_ble_eq_true rfl) (Nat.le_of_ble_eq_true rfl)
        · show J x (mflat [(t, .inl (.inr (9, [.ref t0, .int (nI tsz), .int tkd, .int (nI tpl), .int (nI wt4_5_740), .long wt5_5_740, .int tnu]))), (t0, .inl (.inl (kA 0, 1600, .inl tby)))]) [(0, .ref t)] 0 0 83 [.ref t]
          refine j_iconst (v := 4) h (by decide) dX9_readWord_83 ?_
          refine j_goto h 88 dX9_readWord_84 (by decide) ?_
          refine jm_put (w' := [(t, .inl (.inr (9, [.ref t0, .int (nI tsz), .int 4, .int (nI tpl), .int (nI wt4_5_740), .long wt5_5_740, .int tnu]))), (t0, .inl (.inl (kA 0, 1600, .inl tby)))]) h iw_X9 tyX9 tyX9_ok nmX9 0 rfl rfl 2 (by decide) tw_125 rfl rfl rfl (Nat.le_of_ble_eq_true rfl) dX9_readWord_88 rfl ?_
          exact jm_vret h hq dX9_readWord_91 (4, wt4_5_740, wt5_5_740) [0, 1] rfl (by decide) ⟨(show tpl ≤ tsz by first | assumption | omega), (show wt4_5_740 ≤ tsz by first | assumption | omega)⟩ (Nat.le_of_ble_eq_true rfl) (Nat.le_of_ble_eq_true rfl)
      · have z5586n : ¬ tsz ≤ wt4_5_740 := fun q9 => z5586 ((nI_leI (a := tsz) (b := wt4_5_740) (by omega) (by omega)).mpr q9)
        refine j_aload_n h 0 rfl rfl dX9_readWord_16 ?_
        refine j_aload_n h 0 rfl rfl dX9_readWord_17 ?_
        refine jm_get h iw_X9 0 rfl rfl 4 (by decide) tw_128 rfl dX9_readWord_18 ?_
        refine jm_callVi (np := 1) (isC := [0, 1]) (isR := []) (wc := [(t, .inl (.inr (9, [.ref t0, .int (nI tsz), .int tkd, .int (nI tpl), .int (nI wt4_5_740), .long wt5_5_740, .int tnu]))), (t0, .inl (.inl (kA 0, 1600, .inl tby)))]) (wr := []) (rest := []) (As := [.int (nI wt4_5_740)]) (q0 := 0) h (s_X9_byteAt _ _ kA t (nI wt4_5_740) t0 tsz tkd (nI tpl) (nI wt4_5_740) wt5_5_740 tnu tby (show tsz ≤ 1600 by first | assumption | omega)) tw_569 tw_571 tw_0 tw_88 tw_572 (by decide +kernel) rfl ⟨Nat.le_of_ble_eq_true rfl, Nat.le_of_ble_eq_true rfl⟩ rfl rfl (by decide) rfl rfl (by decide) (by decide) (Nat.le_of_ble_eq_true rfl) rfl ⟨Nat.le_of_ble_eq_true rfl, Nat.le_of_ble_eq_true rfl⟩ dX9_readWord_21 ?_
        rintro r5589 _ e5588
        show J x (mflat [(t, .inl (.inr (9, [.ref t0, .int (nI tsz), .int tkd, .int (nI tpl), .int (nI wt4_5_740), .long wt5_5_740, .int tnu]))), (t0, .inl (.inl (kA 0, 1600, .inl tby)))]) [(0, .ref t)] 0 0 24 [.int r5589]
        refine jm_callSi (np := 1) (isC := []) (isR := [0, 1]) (wc := []) (wr := [(t, .inl (.inr (9, [.ref t0, .int (nI tsz), .int tkd, .int (nI tpl), .int (nI wt4_5_740), .long wt5_5_740, .int tnu]))), (t0, .inl (.inl (kA 0, 1600, .inl tby)))]) (rest := []) (As := [.int r5589]) h (s_X9_isLetter _ _ kA r5589 ) tw_576 tw_577 tw_88 tw_578 (by decide +kernel) rfl ⟨Nat.le_of_ble_eq_true rfl, Nat.le_of_ble_eq_true rfl⟩ (by decide) rfl rfl (by decide) (by decide) (Nat.le_of_ble_eq_true rfl) rfl ⟨Nat.le_of_ble_eq_true rfl, Nat.le_of_ble_eq_true rfl⟩ dX9_readWord_24 ?_
        rintro r5592 q5590 e5591
        obtain ⟨p5593, p5594⟩ := e5591
        subst p5593
        replace p5594 : q5590 ≤ 1 := p5594
        show J x (mflat [(t, .inl (.inr (9, [.ref t0, .int (nI tsz), .int tkd, .int (nI tpl), .int (nI wt4_5_740), .long wt5_5_740, .int tnu]))), (t0, .inl (.inl (kA 0, 1600, .inl tby)))]) [(0, .ref t)] 0 0 27 [.int (nI q5590)]
        refine j_if_eq h 68 dX9_readWord_27 (by decide) (fun z5595 => ?_) (fun z5595 => ?_)
        · have z5595n : q5590 = 0 := (nI_eq (a := q5590) (b := 0) (by omega) (by omega)).mp z5595
          refine j_aload_n h 0 rfl rfl dX9_readWord_68 ?_
          refine j_aload_n h 0 rfl rfl dX9_readWord_69 ?_
          refine jm_get h iw_X9 0 rfl rfl 4 (by decide) tw_128 rfl dX9_readWord_70 ?_
          refine j_aload_n h 0 rfl rfl dX9_readWord_73 ?_
          refine jm_get h iw_X9 0 rfl rfl 3 (by decide) tw_126 rfl dX9_readWord_74 ?_
          refine j_isub h dX9_readWord_77 ?_
          refine j_bipush (v := 8) h (by decide) dX9_readWord_78 ?_
          refine j_icmp_le h 87 dX9_readWord_80 (by decide) (fun z5596 => ?_) (fun z5596 => ?_)
          · show J x (mflat [(t, .inl (.inr (9, [.ref t0, .int (nI tsz), .int tkd, .int (nI tpl), .int (nI wt4_5_740), .long wt5_5_740, .int tnu]))), (t0, .inl (.inl (kA 0, 1600, .inl tby)))]) [(0, .ref t)] 0 0 87 [.ref t]
            refine j_iconst (v := 1) h (by decide) dX9_readWord_87 ?_
            refine jm_put (w' := [(t, .inl (.inr (9, [.ref t0, .int (nI tsz), .int 1, .int (nI tpl), .int (nI wt4_5_740), .long wt5_5_740, .int tnu]))), (t0, .inl (.inl (kA 0, 1600, .inl tby)))]) h iw_X9 tyX9 tyX9_ok nmX9 0 rfl rfl 2 (by decide) tw_125 rfl rfl rfl (Nat.le_of_ble_eq_true rfl) dX9_readWord_88 rfl ?_
            exact jm_vret h hq dX9_readWord_91 (1, wt4_5_740, wt5_5_740) [0, 1] rfl (by decide) ⟨(show tpl ≤ tsz by first | assumption | omega), (show wt4_5_740 ≤ tsz by first | assumption | omega)⟩ (Nat.le_of_ble_eq_true rfl) (Nat.le_of_ble_eq_true rfl)
          · show J x (mflat [(t, .inl (.inr (9, [.ref t0, .int (nI tsz), .int tkd, .int (nI tpl), .int (nI wt4_5_740), .long wt5_5_740, .int tnu]))), (t0, .inl (.inl (kA 0, 1600, .inl tby)))]) [(0, .ref t)] 0 0 83 [.ref t]
            refine j_iconst (v := 4) h (by decide) dX9_readWord_83 ?_
            refine j_goto h 88 dX9_readWord_84 (by decide) ?_
            refine jm_put (w' := [(t, .inl (.inr (9, [.ref t0, .int (nI tsz), .int 4, .int (nI tpl), .int (nI wt4_5_740), .long wt5_5_740, .int tnu]))), (t0, .inl (.inl (kA 0, 1600, .inl tby)))]) h iw_X9 tyX9 tyX9_ok nmX9 0 rfl rfl 2 (by decide) tw_125 rfl rfl rfl (Nat.le_of_ble_eq_true rfl) dX9_readWord_88 rfl ?_
            exact jm_vret h hq dX9_readWord_91 (4, wt4_5_740, wt5_5_740) [0, 1] rfl (by decide) ⟨(show tpl ≤ tsz by first | assumption | omega), (show wt4_5_740 ≤ tsz by first | assumption | omega)⟩ (Nat.le_of_ble_eq_true rfl) (Nat.le_of_ble_eq_true rfl)
        · have z5595n : ¬ q5590 = 0 := fun q9 => z5595 ((nI_eq (a := q5590) (b := 0) (by omega) (by omega)).mpr q9)
          refine j_aload_n h 0 rfl rfl dX9_readWord_30 ?_
          refine j_aload_n h 0 rfl rfl dX9_readWord_31 ?_
          refine jm_get h iw_X9 0 rfl rfl 5 (by decide) tw_129 rfl dX9_readWord_32 ?_
          refine j_iconst (v := 5) h (by decide) dX9_readWord_35 ?_
          refine j_lshl h dX9_readWord_36 ?_
          refine j_aload_n h 0 rfl rfl dX9_readWord_37 ?_
          refine j_aload_n h 0 rfl rfl dX9_readWord_38 ?_
          refine jm_get h iw_X9 0 rfl rfl 4 (by decide) tw_128 rfl dX9_readWord_39 ?_
          refine jm_callVi (np := 1) (isC := [0, 1]) (isR := []) (wc := [(t, .inl (.inr (9, [.ref t0, .int (nI tsz), .int tkd, .int (nI tpl), .int (nI wt4_5_740), .long wt5_5_740, .int tnu]))), (t0, .inl (.inl (kA 0, 1600, .inl tby)))]) (wr := []) (rest := [.long (wt5_5_740 <<< ((5 : Int32).toInt64 &&& 63)), .ref t]) (As := [.int (nI wt4_5_740)]) (q0 := 0) h (s_X9_byteAt _ _ kA t (nI wt4_5_740) t0 tsz tkd (nI tpl) (nI wt4_5_740) wt5_5_740 tnu tby (show tsz ≤ 1600 by first | assumption | omega)) tw_569 tw_571 tw_0 tw_88 tw_572 (by decide +kernel) rfl ⟨Nat.le_of_ble_eq_true rfl, Nat.le_of_ble_eq_true rfl⟩ rfl rfl (by decide) rfl rfl (by decide) (by decide) (Nat.le_of_ble_eq_true rfl) rfl ⟨Nat.le_of_ble_eq_true rfl, Nat.le_of_ble_eq_true rfl⟩ dX9_readWord_42 ?_
          rintro r5598 _ e5597
          show J x (mflat [(t, .inl (.inr (9, [.ref t0, .int (nI tsz), .int tkd, .int (nI tpl), .int (nI wt4_5_740), .long wt5_5_740, .int tnu]))), (t0, .inl (.inl (kA 0, 1600, .inl tby)))]) [(0, .ref t)] 0 0 45 [.int r5598, .long (wt5_5_740 <<< ((5 : Int32).toInt64 &&& 63)), .ref t]
          refine j_bipush (v := 97) h (by decide) dX9_readWord_45 ?_
          refine j_isub h dX9_readWord_47 ?_
          refine j_iconst (v := 1) h (by decide) dX9_readWord_48 ?_
          refine j_iadd h dX9_readWord_49 ?_
          refine j_i2l h dX9_readWord_50 ?_
          refine j_lor h dX9_readWord_51 ?_
          refine jm_put (w' := [(t, .inl (.inr (9, [.ref t0, .int (nI tsz), .int tkd, .int (nI tpl), .int (nI wt4_5_740), .long ((wt5_5_740 <<< ((5 : Int32).toInt64 &&& 63)) ||| (((r5598 - 97) + 1).toInt64)), .int tnu]))), (t0, .inl (.inl (kA 0, 1600, .inl tby)))]) h iw_X9 tyX9 tyX9_ok nmX9 0 rfl rfl 5 (by decide) tw_129 rfl rfl rfl (Nat.le_of_ble_eq_true rfl) dX9_readWord_52 rfl ?_
          refine j_aload_n h 0 rfl rfl dX9_readWord_55 ?_
          refine j_dup h rfl dX9_readWord_56 ?_
          refine jm_get h iw_X9 0 rfl rfl 4 (by decide) tw_128 rfl dX9_readWord_57 ?_
          refine j_iconst (v := 1) h (by decide) dX9_readWord_60 ?_
          refine j_iadd h dX9_readWord_61 ?_
          refine j_top (b := nI (wt4_5_740 + 1)) (nI_add wt4_5_740 1) ?_
          refine jm_put (w' := [(t, .inl (.inr (9, [.ref t0, .int (nI tsz), .int tkd, .int (nI tpl), .int (nI (wt4_5_740 + 1)), .long ((wt5_5_740 <<< ((5 : Int32).toInt64 &&& 63)) ||| (((r5598 - 97) + 1).toInt64)), .int tnu]))), (t0, .inl (.inl (kA 0, 1600, .inl tby)))]) h iw_X9 tyX9 tyX9_ok nmX9 0 rfl rfl 4 (by decide) tw_128 rfl rfl rfl (Nat.le_of_ble_eq_true rfl) dX9_readWord_62 rfl ?_
          refine j_goto h 5 dX9_readWord_65 (by decide) ?_
          refine jm_sub [0, 1] (w' := [(t, .inl (.inr (9, [.ref t0, .int (nI tsz), .int tkd, .int (nI tpl), .int (nI (wt4_5_740 + 1)), .long ((wt5_5_740 <<< ((5 : Int32).toInt64 &&& 63)) ||| (((r5598 - 97) + 1).toInt64)), .int tnu]))), (t0, .inl (.inl (kA 0, 1600, .inl tby)))]) rfl (by decide) [0] (lv' := [(0, .ref t)]) rfl ?_
          exact ih5_740 (wt4_5_740 + 1) ((wt5_5_740 <<< ((5 : Int32).toInt64 &&& 63)) ||| (((r5598 - 97) + 1).toInt64)) (show (wt4_5_740 + 1) ≤ tsz by first | assumption | omega) (show (wt4_5_740 + 1) ≤ 100000 by first | assumption | omega) (show tsz + 1 - (wt4_5_740 + 1) < m5_740 by omega)
  refine jm_sub [0, 1] (w' := [(t, .inl (.inr (9, [.ref t0, .int (nI tsz), .int tkd, .int (nI tpl), .int (nI tbh), .long 0, .int tnu]))), (t0, .inl (.inl (kA 0, 1600, .inl tby)))]) rfl (by decide) [0] (lv' := [(0, .ref t)]) rfl ?_
  exact lp5_740 (tsz + 1 - tbh + 1) tbh 0 (show tbh ≤ tsz by first | assumption | omega) (show tbh ≤ 100000 by first | assumption | omega) (Nat.lt_succ_self _)
set_option maxHeartbeats 4000000 in
set_option maxRecDepth 100000 in
theorem s_X9_readNumber (lau : Launch) (gg : va_G) (kA : Nat → ClassId) (t : Nat) (t0 : Nat) (tsz : Nat) (tkd : Int32) (tpl : Nat) (tbh : Nat) (twd : Int64) (tnu : Int32) (tby : Nat → Int32) (htsz : tsz ≤ 1600) (htpl : tpl ≤ tsz) (htbh : tbh ≤ tsz) : CtV lau yX9_readNumber cX9_readNumber 2 (none) 2 0 0 gg kA [.ref t] (mflat [(t, .inl (.inr (9, [.ref t0, .int (nI tsz), .int tkd, .int (nI tpl), .int (nI tbh), .long twd, .int tnu]))), (t0, .inl (.inl (kA 0, 1600, .inl tby)))]) (S := Int32 × Nat × Int32) (fun ((y_t_2, y_t_4, y_t_6) : Int32 × Nat × Int32) => (tpl ≤ tsz) ∧ (y_t_4 ≤ tsz)) (fun ((y_t_2, y_t_4, y_t_6) : Int32 × Nat × Int32) => mflat [(t, .inl (.inr (9, [.ref t0, .int (nI tsz), .int y_t_2, .int (nI tpl), .int (nI y_t_4), .long twd, .int y_t_6]))), (t0, .inl (.inl (kA 0, 1600, .inl tby)))]) := by
  refine nx_startV (by decide +kernel) (Nat.le_of_ble_eq_true rfl) ?_
  intro x hnm h hq
  have h : Ok x cX9_readNumber RX9 kA (rmC 2 0 0) 2 := h
  show J x (mflat [(t, .inl (.inr (9, [.ref t0, .int (nI tsz), .int tkd, .int (nI tpl), .int (nI tbh), .long twd, .int tnu]))), (t0, .inl (.inl (kA 0, 1600, .inl tby)))]) [(0, .ref t)] 0 0 0 []
  refine j_aload_n h 0 rfl rfl dX9_readNumber_0 ?_
  refine j_iconst (v := 0) h (by decide) dX9_readNumber_1 ?_
  refine jm_put (w' := [(t, .inl (.inr (9, [.ref t0, .int (nI tsz), .int tkd, .int (nI tpl), .int (nI tbh), .long twd, .int 0]))), (t0, .inl (.inl (kA 0, 1600, .inl tby)))]) h iw_X9 tyX9 tyX9_ok nmX9 0 rfl rfl 6 (by decide) tw_131 rfl rfl rfl (Nat.le_of_ble_eq_true rfl) dX9_readNumber_2 rfl ?_
  have lp5_746 : ∀ (m5_746 : Nat), ∀ (wt4_5_746 : Nat) (wt6_5_746 : Int32), (wt4_5_746 ≤ tsz) → (wt4_5_746 ≤ 100000) → tsz + 1 - wt4_5_746 < m5_746 → J x (mflat [(t, .inl (.inr (9, [.ref t0, .int (nI tsz), .int tkd, .int (nI tpl), .int (nI wt4_5_746), .long twd, .int wt6_5_746]))), (t0, .inl (.inl (kA 0, 1600, .inl tby)))]) [(0, .ref t)] 0 0 5 [] := by
    intro m5_746
    induction m5_746 with
    | zero =>
      intro wt4_5_746 wt6_5_746 i5_746_0 i5_746_1 hm5_746
      exact absurd hm5_746 (Nat.not_lt_zero _)
    | succ m5_746 ih5_746 =>
      intro wt4_5_746 wt6_5_746 i5_746_0 i5_746_1 hm5_746
      refine j_aload_n h 0 rfl rfl dX9_readNumber_5 ?_
      refine jm_get h iw_X9 0 rfl rfl 4 (by decide) tw_128 rfl dX9_readNumber_6 ?_
      refine j_aload_n h 0 rfl rfl dX9_readNumber_9 ?_
      refine jm_get h iw_X9 0 rfl rfl 1 (by decide) tw_122 rfl dX9_readNumber_10 ?_
      refine j_icmp_ge h 66 dX9_readNumber_13 (by decide) (fun z5744 => ?_) (fun z5744 => ?_)
      · have z5744n : tsz ≤ wt4_5_746 := (nI_leI (a := tsz) (b := wt4_5_746) (by omega) (by omega)).mp z5744
        refine j_aload_n h 0 rfl rfl dX9_readNumber_66 ?_
        refine jm_get h iw_X9 0 rfl rfl 4 (by decide) tw_128 rfl dX9_readNumber_67 ?_
        refine j_aload_n h 0 rfl rfl dX9_readNumber_70 ?_
        refine jm_get h iw_X9 0 rfl rfl 3 (by decide) tw_126 rfl dX9_readNumber_71 ?_
        refine j_isub h dX9_readNumber_74 ?_
        refine j_iconst (v := 4) h (by decide) dX9_readNumber_75 ?_
        refine j_icmp_le h 83 dX9_readNumber_76 (by decide) (fun z5745 => ?_) (fun z5745 => ?_)
        · show J x (mflat [(t, .inl (.inr (9, [.ref t0, .int (nI tsz), .int tkd, .int (nI tpl), .int (nI wt4_5_746), .long twd, .int wt6_5_746]))), (t0, .inl (.inl (kA 0, 1600, .inl tby)))]) [(0, .ref t)] 0 0 83 []
          refine j_iconst (v := 0) h (by decide) dX9_readNumber_83 ?_
          refine j_istore_n (lv' := [(1, .int 0), (0, .ref t)]) h dX9_readNumber_84 rfl (by decide) rfl ?_
          refine j_aload_n h 1 rfl rfl dX9_readNumber_85 ?_
          refine j_iload_n h 0 rfl rfl dX9_readNumber_86 ?_
          refine j_if_ne h 104 dX9_readNumber_87 (by decide) (fun q => absurd (by decide) q) (fun _ => ?_)
          refine j_aload_n h 1 rfl rfl dX9_readNumber_90 ?_
          refine j_aload_n h 1 rfl rfl dX9_readNumber_91 ?_
          refine jm_get h iw_X9 0 rfl rfl 4 (by decide) tw_128 rfl dX9_readNumber_92 ?_
          refine jm_callVi (np := 1) (isC := [0, 1]) (isR := []) (wc := [(t, .inl (.inr (9, [.ref t0, .int (nI tsz), .int tkd, .int (nI tpl), .int (nI wt4_5_746), .long twd, .int wt6_5_746]))), (t0, .inl (.inl (kA 0, 1600, .inl tby)))]) (wr := []) (rest := [.ref t]) (As := [.int (nI wt4_5_746)]) (q0 := 0) h (s_X9_byteAt _ _ kA t (nI wt4_5_746) t0 tsz tkd (nI tpl) (nI wt4_5_746) twd wt6_5_746 tby (show tsz ≤ 1600 by first | assumption | omega)) tw_569 tw_571 tw_0 tw_88 tw_572 (by decide +kernel) rfl ⟨Nat.le_of_ble_eq_true rfl, Nat.le_of_ble_eq_true rfl⟩ rfl rfl (by decide) rfl rfl (by decide) (by decide) (Nat.le_of_ble_eq_true rfl) rfl ⟨Nat.le_of_ble_eq_true rfl, Nat.le_of_ble_eq_true rfl⟩ dX9_readNumber_95 ?_
          rintro r5747 _ e5746
          show J x (mflat [(t, .inl (.inr (9, [.ref t0, .int (nI tsz), .int tkd, .int (nI tpl), .int (nI wt4_5_746), .long twd, .int wt6_5_746]))), (t0, .inl (.inl (kA 0, 1600, .inl tby)))]) [(1, .int 0), (0, .ref t)] 0 0 98 [.int r5747, .ref t]
          refine jm_callSi (np := 1) (isC := []) (isR := [0, 1]) (wc := []) (wr := [(t, .inl (.inr (9, [.ref t0, .int (nI tsz), .int tkd, .int (nI tpl), .int (nI wt4_5_746), .long twd, .int wt6_5_746]))), (t0, .inl (.inl (kA 0, 1600, .inl tby)))]) (rest := [.ref t]) (As := [.int r5747]) h (s_X9_isLetter _ _ kA r5747 ) tw_576 tw_577 tw_88 tw_578 (by decide +kernel) rfl ⟨Nat.le_of_ble_eq_true rfl, Nat.le_of_ble_eq_true rfl⟩ (by decide) rfl rfl (by decide) (by decide) (Nat.le_of_ble_eq_true rfl) rfl ⟨Nat.le_of_ble_eq_true rfl, Nat.le_of_ble_eq_true rfl⟩ dX9_readNumber_98 ?_
          rintro r5750 q5748 e5749
          obtain ⟨p5751, p5752⟩ := e5749
          subst p5751
          replace p5752 : q5748 ≤ 1 := p5752
          show J x (mflat [(t, .inl (.inr (9, [.ref t0, .int (nI tsz), .int tkd, .int (nI tpl), .int (nI wt4_5_746), .long twd, .int wt6_5_746]))), (t0, .inl (.inl (kA 0, 1600, .inl tby)))]) [(1, .int 0), (0, .ref t)] 0 0 101 [.int (nI q5748), .ref t]
          refine j_if_eq h 108 dX9_readNumber_101 (by decide) (fun z5753 => ?_) (fun z5753 => ?_)
          · have z5753n : q5748 = 0 := (nI_eq (a := q5748) (b := 0) (by omega) (by omega)).mp z5753
            refine j_iconst (v := 2) h (by decide) dX9_readNumber_108 ?_
            refine jm_put (w' := [(t, .inl (.inr (9, [.ref t0, .int (nI tsz), .int 2, .int (nI tpl), .int (nI wt4_5_746), .long twd, .int wt6_5_746]))), (t0, .inl (.inl (kA 0, 1600, .inl tby)))]) h iw_X9 tyX9 tyX9_ok nmX9 0 rfl rfl 2 (by decide) tw_125 rfl rfl rfl (Nat.le_of_ble_eq_true rfl) dX9_readNumber_109 rfl ?_
            exact jm_vret h hq dX9_readNumber_112 (2, wt4_5_746, wt6_5_746) [0, 1] rfl (by decide) ⟨(show tpl ≤ tsz by first | assumption | omega), (show wt4_5_746 ≤ tsz by first | assumption | omega)⟩ (Nat.le_of_ble_eq_true rfl) (Nat.le_of_ble_eq_true rfl)
          · have z5753n : ¬ q5748 = 0 := fun q9 => z5753 ((nI_eq (a := q5748) (b := 0) (by omega) (by omega)).mpr q9)
            refine j_iconst (v := 4) h (by decide) dX9_readNumber_104 ?_
            refine j_goto h 109 dX9_readNumber_105 (by decide) ?_
            refine jm_put (w' := [(t, .inl (.inr (9, [.ref t0, .int (nI tsz), .int 4, .int (nI tpl), .int (nI wt4_5_746), .long twd, .int wt6_5_746]))), (t0, .inl (.inl (kA 0, 1600, .inl tby)))]) h iw_X9 tyX9 tyX9_ok nmX9 0 rfl rfl 2 (by decide) tw_125 rfl rfl rfl (Nat.le_of_ble_eq_true rfl) dX9_readNumber_109 rfl ?_
            exact jm_vret h hq dX9_readNumber_112 (4, wt4_5_746, wt6_5_746) [0, 1] rfl (by decide) ⟨(show tpl ≤ tsz by first | assumption | omega), (show wt4_5_746 ≤ tsz by first | assumption | omega)⟩ (Nat.le_of_ble_eq_true rfl) (Nat.le_of_ble_eq_true rfl)
        · show J x (mflat [(t, .inl (.inr (9, [.ref t0, .int (nI tsz), .int tkd, .int (nI tpl), .int (nI wt4_5_746), .long twd, .int wt6_5_746]))), (t0, .inl (.inl (kA 0, 1600, .inl tby)))]) [(0, .ref t)] 0 0 79 []
          refine j_iconst (v := 1) h (by decide) dX9_readNumber_79 ?_
          refine j_goto h 84 dX9_readNumber_80 (by decide) ?_
          refine j_istore_n (lv' := [(1, .int 1), (0, .ref t)]) h dX9_readNumber_84 rfl (by decide) rfl ?_
          refine j_aload_n h 1 rfl rfl dX9_readNumber_85 ?_
          refine j_iload_n h 0 rfl rfl dX9_readNumber_86 ?_
          refine j_if_ne h 104 dX9_readNumber_87 (by decide) (fun _ => ?_) (fun q => absurd q (by decide))
          refine j_iconst (v := 4) h (by decide) dX9_readNumber_104 ?_
          refine j_goto h 109 dX9_readNumber_105 (by decide) ?_
          refine jm_put (w' := [(t, .inl (.inr (9, [.ref t0, .int (nI tsz), .int 4, .int (nI tpl), .int (nI wt4_5_746), .long twd, .int wt6_5_746]))), (t0, .inl (.inl (kA 0, 1600, .inl tby)))]) h iw_X9 tyX9 tyX9_ok nmX9 0 rfl rfl 2 (by decide) tw_125 rfl rfl rfl (Nat.le_of_ble_eq_true rfl) dX9_readNumber_109 rfl ?_
          exact jm_vret h hq dX9_readNumber_112 (4, wt4_5_746, wt6_5_746) [0, 1] rfl (by decide) ⟨(show tpl ≤ tsz by first | assumption | omega), (show wt4_5_746 ≤ tsz by first | assumption | omega)⟩ (Nat.le_of_ble_eq_true rfl) (Nat.le_of_ble_eq_true rfl)
      · have z5744n : ¬ tsz ≤ wt4_5_746 := fun q9 => z5744 ((nI_leI (a := tsz) (b := wt4_5_746) (by omega) (by omega)).mpr q9)
        refine j_aload_n h 0 rfl rfl dX9_readNumber_16 ?_
        refine j_aload_n h 0 rfl rfl dX9_readNumber_17 ?_
        refine jm_get h iw_X9 0 rfl rfl 4 (by decide) tw_128 rfl dX9_readNumber_18 ?_
        refine jm_callVi (np := 1) (isC := [0, 1]) (isR := []) (wc := [(t, .inl (.inr (9, [.ref t0, .int (nI tsz), .int tkd, .int (nI tpl), .int (nI wt4_5_746), .long twd, .int wt6_5_746]))), (t0, .inl (.inl (kA 0, 1600, .inl tby)))]) (wr := []) (rest := []) (As := [.int (nI wt4_5_746)]) (q0 := 0) h (s_X9_byteAt _ _ kA t (nI wt4_5_746) t0 tsz tkd (nI tpl) (nI wt4_5_746) twd wt6_5_746 tby (show tsz ≤ 1600 by first | assumption | omega)) tw_569 tw_571 tw_0 tw_88 tw_572 (by decide +kernel) rfl ⟨Nat.le_of_ble_eq_true rfl, Nat.le_of_ble_eq_true rfl⟩ rfl rfl (by decide) rfl rfl (by decide) (by decide) (Nat.le_of_ble_eq_true rfl) rfl ⟨Nat.le_of_ble_eq_true rfl, Nat.le_of_ble_eq_true rfl⟩ dX9_readNumber_21 ?_
        rintro r5755 _ e5754
        show J x (mflat [(t, .inl (.inr (9, [.ref t0, .int (nI tsz), .int tkd, .int (nI tpl), .int (nI wt4_5_746), .long twd, .int wt6_5_746]))), (t0, .inl (.inl (kA 0, 1600, .inl tby)))]) [(0, .ref t)] 0 0 24 [.int r5755]
        refine jm_callSi (np := 1) (isC := []) (isR := [0, 1]) (wc := []) (wr := [(t, .inl (.inr (9, [.ref t0, .int (nI tsz), .int tkd, .int (nI tpl), .int (nI wt4_5_746), .long twd, .int wt6_5_746]))), (t0, .inl (.inl (kA 0, 1600, .inl tby)))]) (rest := []) (As := [.int r5755]) h (s_X9_isDigit _ _ kA r5755 ) tw_583 tw_584 tw_88 tw_585 (by decide +kernel) rfl ⟨Nat.le_of_ble_eq_true rfl, Nat.le_of_ble_eq_true rfl⟩ (by decide) rfl rfl (by decide) (by decide) (Nat.le_of_ble_eq_true rfl) rfl ⟨Nat.le_of_ble_eq_true rfl, Nat.le_of_ble_eq_true rfl⟩ dX9_readNumber_24 ?_
        rintro r5758 q5756 e5757
        obtain ⟨p5759, p5760⟩ := e5757
        subst p5759
        replace p5760 : q5756 ≤ 1 := p5760
        show J x (mflat [(t, .inl (.inr (9, [.ref t0, .int (nI tsz), .int tkd, .int (nI tpl), .int (nI wt4_5_746), .long twd, .int wt6_5_746]))), (t0, .inl (.inl (kA 0, 1600, .inl tby)))]) [(0, .ref t)] 0 0 27 [.int (nI q5756)]
        refine j_if_eq h 66 dX9_readNumber_27 (by decide) (fun z5761 => ?_) (fun z5761 => ?_)
        · have z5761n : q5756 = 0 := (nI_eq (a := q5756) (b := 0) (by omega) (by omega)).mp z5761
          refine j_aload_n h 0 rfl rfl dX9_readNumber_66 ?_
          refine jm_get h iw_X9 0 rfl rfl 4 (by decide) tw_128 rfl dX9_readNumber_67 ?_
          refine j_aload_n h 0 rfl rfl dX9_readNumber_70 ?_
          refine jm_get h iw_X9 0 rfl rfl 3 (by decide) tw_126 rfl dX9_readNumber_71 ?_
          refine j_isub h dX9_readNumber_74 ?_
          refine j_iconst (v := 4) h (by decide) dX9_readNumber_75 ?_
          refine j_icmp_le h 83 dX9_readNumber_76 (by decide) (fun z5762 => ?_) (fun z5762 => ?_)
          · show J x (mflat [(t, .inl (.inr (9, [.ref t0, .int (nI tsz), .int tkd, .int (nI tpl), .int (nI wt4_5_746), .long twd, .int wt6_5_746]))), (t0, .inl (.inl (kA 0, 1600, .inl tby)))]) [(0, .ref t)] 0 0 83 []
            refine j_iconst (v := 0) h (by decide) dX9_readNumber_83 ?_
            refine j_istore_n (lv' := [(1, .int 0), (0, .ref t)]) h dX9_readNumber_84 rfl (by decide) rfl ?_
            refine j_aload_n h 1 rfl rfl dX9_readNumber_85 ?_
            refine j_iload_n h 0 rfl rfl dX9_readNumber_86 ?_
            refine j_if_ne h 104 dX9_readNumber_87 (by decide) (fun q => absurd (by decide) q) (fun _ => ?_)
            refine j_aload_n h 1 rfl rfl dX9_readNumber_90 ?_
            refine j_aload_n h 1 rfl rfl dX9_readNumber_91 ?_
            refine jm_get h iw_X9 0 rfl rfl 4 (by decide) tw_128 rfl dX9_readNumber_92 ?_
            refine jm_callVi (np := 1) (isC := [0, 1]) (isR := []) (wc := [(t, .inl (.inr (9, [.ref t0, .int (nI tsz), .int tkd, .int (nI tpl), .int (nI wt4_5_746), .long twd, .int wt6_5_746]))), (t0, .inl (.inl (kA 0, 1600, .inl tby)))]) (wr := []) (rest := [.ref t]) (As := [.int (nI wt4_5_746)]) (q0 := 0) h (s_X9_byteAt _ _ kA t (nI wt4_5_746) t0 tsz tkd (nI tpl) (nI wt4_5_746) twd wt6_5_746 tby (show tsz ≤ 1600 by first | assumption | omega)) tw_569 tw_571 tw_0 tw_88 tw_572 (by decide +kernel) rfl ⟨Nat.le_of_ble_eq_true rfl, Nat.le_of_ble_eq_true rfl⟩ rfl rfl (by decide) rfl rfl (by decide) (by decide) (Nat.le_of_ble_eq_true rfl) rfl ⟨Nat.le_of_ble_eq_true rfl, Nat.le_of_ble_eq_true rfl⟩ dX9_readNumber_95 ?_
            rintro r5764 _ e5763
            show J x (mflat [(t, .inl (.inr (9, [.ref t0, .int (nI tsz), .int tkd, .int (nI tpl), .int (nI wt4_5_746), .long twd, .int wt6_5_746]))), (t0, .inl (.inl (kA 0, 1600, .inl tby)))]) [(1, .int 0), (0, .ref t)] 0 0 98 [.int r5764, .ref t]
            refine jm_callSi (np := 1) (isC := []) (isR := [0, 1]) (wc := []) (wr := [(t, .inl (.inr (9, [.ref t0, .int (nI tsz), .int tkd, .int (nI tpl), .int (nI wt4_5_746), .long twd, .int wt6_5_746]))), (t0, .inl (.inl (kA 0, 1600, .inl tby)))]) (rest := [.ref t]) (As := [.int r5764]) h (s_X9_isLetter _ _ kA r5764 ) tw_576 tw_577 tw_88 tw_578 (by decide +kernel) rfl ⟨Nat.le_of_ble_eq_true rfl, Nat.le_of_ble_eq_true rfl⟩ (by decide) rfl rfl (by decide) (by decide) (Nat.le_of_ble_eq_true rfl) rfl ⟨Nat.le_of_ble_eq_true rfl, Nat.le_of_ble_eq_true rfl⟩ dX9_readNumber_98 ?_
            rintro r5767 q5765 e5766
            obtain ⟨p5768, p5769⟩ := e5766
            subst p5768
            replace p5769 : q5765 ≤ 1 := p5769
            show J x (mflat [(t, .inl (.inr (9, [.ref t0, .int (nI tsz), .int tkd, .int (nI tpl), .int (nI wt4_5_746), .long twd, .int wt6_5_746]))), (t0, .inl (.inl (kA 0, 1600, .inl tby)))]) [(1, .int 0), (0, .ref t)] 0 0 101 [.int (nI q5765), .ref t]
            refine j_if_eq h 108 dX9_readNumber_101 (by decide) (fun z5770 => ?_) (fun z5770 => ?_)
            · have z5770n : q5765 = 0 := (nI_eq (a := q5765) (b := 0) (by omega) (by omega)).mp z5770
              refine j_iconst (v := 2) h (by decide) dX9_readNumber_108 ?_
              refine jm_put (w' := [(t, .inl (.inr (9, [.ref t0, .int (nI tsz), .int 2, .int (nI tpl), .int (nI wt4_5_746), .long twd, .int wt6_5_746]))), (t0, .inl (.inl (kA 0, 1600, .inl tby)))]) h iw_X9 tyX9 tyX9_ok nmX9 0 rfl rfl 2 (by decide) tw_125 rfl rfl rfl (Nat.le_of_ble_eq_true rfl) dX9_readNumber_109 rfl ?_
              exact jm_vret h hq dX9_readNumber_112 (2, wt4_5_746, wt6_5_746) [0, 1] rfl (by decide) ⟨(show tpl ≤ tsz by first | assumption | omega), (show wt4_5_746 ≤ tsz by first | assumption | omega)⟩ (Nat.le_of_ble_eq_true rfl) (Nat.le_of_ble_eq_true rfl)
            · have z5770n : ¬ q5765 = 0 := fun q9 => z5770 ((nI_eq (a := q5765) (b := 0) (by omega) (by omega)).mpr q9)
              refine j_iconst (v := 4) h (by decide) dX9_readNumber_104 ?_
              refine j_goto h 109 dX9_readNumber_105 (by decide) ?_
              refine jm_put (w' := [(t, .inl (.inr (9, [.ref t0, .int (nI tsz), .int 4, .int (nI tpl), .int (nI wt4_5_746), .long twd, .int wt6_5_746]))), (t0, .inl (.inl (kA 0, 1600, .inl tby)))]) h iw_X9 tyX9 tyX9_ok nmX9 0 rfl rfl 2 (by decide) tw_125 rfl rfl rfl (Nat.le_of_ble_eq_true rfl) dX9_readNumber_109 rfl ?_
              exact jm_vret h hq dX9_readNumber_112 (4, wt4_5_746, wt6_5_746) [0, 1] rfl (by decide) ⟨(show tpl ≤ tsz by first | assumption | omega), (show wt4_5_746 ≤ tsz by first | assumption | omega)⟩ (Nat.le_of_ble_eq_true rfl) (Nat.le_of_ble_eq_true rfl)
          · show J x (mflat [(t, .inl (.inr (9, [.ref t0, .int (nI tsz), .int tkd, .int (nI tpl), .int (nI wt4_5_746), .long twd, .int wt6_5_746]))), (t0, .inl (.inl (kA 0, 1600, .inl tby)))]) [(0, .ref t)] 0 0 79 []
            refine j_iconst (v := 1) h (by decide) dX9_readNumber_79 ?_
            refine j_goto h 84 dX9_readNumber_80 (by decide) ?_
            refine j_istore_n (lv' := [(1, .int 1), (0, .ref t)]) h dX9_readNumber_84 rfl (by decide) rfl ?_
            refine j_aload_n h 1 rfl rfl dX9_readNumber_85 ?_
            refine j_iload_n h 0 rfl rfl dX9_readNumber_86 ?_
            refine j_if_ne h 104 dX9_readNumber_87 (by decide) (fun _ => ?_) (fun q => absurd q (by decide))
            refine j_iconst (v := 4) h (by decide) dX9_readNumber_104 ?_
            refine j_goto h 109 dX9_readNumber_105 (by decide) ?_
            refine jm_put (w' := [(t, .inl (.inr (9, [.ref t0, .int (nI tsz), .int 4, .int (nI tpl), .int (nI wt4_5_746), .long twd, .int wt6_5_746]))), (t0, .inl (.inl (kA 0, 1600, .inl tby)))]) h iw_X9 tyX9 tyX9_ok nmX9 0 rfl rfl 2 (by decide) tw_125 rfl rfl rfl (Nat.le_of_ble_eq_true rfl) dX9_readNumber_109 rfl ?_
            exact jm_vret h hq dX9_readNumber_112 (4, wt4_5_746, wt6_5_746) [0, 1] rfl (by decide) ⟨(show tpl ≤ tsz by first | assumption | omega), (show wt4_5_746 ≤ tsz by first | assumption | omega)⟩ (Nat.le_of_ble_eq_true rfl) (Nat.le_of_ble_eq_true rfl)
        · have z5761n : ¬ q5756 = 0 := fun q9 => z5761 ((nI_eq (a := q5756) (b := 0) (by omega) (by omega)).mpr q9)
          refine j_aload_n h 0 rfl rfl dX9_readNumber_30 ?_
          refine j_aload_n h 0 rfl rfl dX9_readNumber_31 ?_
          refine jm_get h iw_X9 0 rfl rfl 6 (by decide) tw_131 rfl dX9_readNumber_32 ?_
          refine j_bipush (v := 10) h (by decide) dX9_readNumber_35 ?_
          refine j_imul h dX9_readNumber_37 ?_
          refine j_aload_n h 0 rfl rfl dX9_readNumber_38 ?_
          refine j_aload_n h 0 rfl rfl dX9_readNumber_39 ?_
          refine jm_get h iw_X9 0 rfl rfl 4 (by decide) tw_128 rfl dX9_readNumber_40 ?_
          refine jm_callVi (np := 1) (isC := [0, 1]) (isR := []) (wc := [(t, .inl (.inr (9, [.ref t0, .int (nI tsz), .int tkd, .int (nI tpl), .int (nI wt4_5_746), .long twd, .int wt6_5_746]))), (t0, .inl (.inl (kA 0, 1600, .inl tby)))]) (wr := []) (rest := [.int (wt6_5_746 * 10), .ref t]) (As := [.int (nI wt4_5_746)]) (q0 := 0) h (s_X9_byteAt _ _ kA t (nI wt4_5_746) t0 tsz tkd (nI tpl) (nI wt4_5_746) twd wt6_5_746 tby (show tsz ≤ 1600 by first | assumption | omega)) tw_569 tw_571 tw_0 tw_88 tw_572 (by decide +kernel) rfl ⟨Nat.le_of_ble_eq_true rfl, Nat.le_of_ble_eq_true rfl⟩ rfl rfl (by decide) rfl rfl (by decide) (by decide) (Nat.le_of_ble_eq_true rfl) rfl ⟨Nat.le_of_ble_eq_true rfl, Nat.le_of_ble_eq_true rfl⟩ dX9_readNumber_43 ?_
          rintro r5772 _ e5771
          show J x (mflat [(t, .inl (.inr (9, [.ref t0, .int (nI tsz), .int tkd, .int (nI tpl), .int (nI wt4_5_746), .long twd, .int wt6_5_746]))), (t0, .inl (.inl (kA 0, 1600, .inl tby)))]) [(0, .ref t)] 0 0 46 [.int r5772, .int (wt6_5_746 * 10), .ref t]
          refine j_iadd h dX9_readNumber_46 ?_
          refine j_bipush (v := 48) h (by decide) dX9_readNumber_47 ?_
          refine j_isub h dX9_readNumber_49 ?_
          refine jm_put (w' := [(t, .inl (.inr (9, [.ref t0, .int (nI tsz), .int tkd, .int (nI tpl), .int (nI wt4_5_746), .long twd, .int (((wt6_5_746 * 10) + r5772) - 48)]))), (t0, .inl (.inl (kA 0, 1600, .inl tby)))]) h iw_X9 tyX9 tyX9_ok nmX9 0 rfl rfl 6 (by decide) tw_131 rfl rfl rfl (Nat.le_of_ble_eq_true rfl) dX9_readNumber_50 rfl ?_
          refine j_aload_n h 0 rfl rfl dX9_readNumber_53 ?_
          refine j_dup h rfl dX9_readNumber_54 ?_
          refine jm_get h iw_X9 0 rfl rfl 4 (by decide) tw_128 rfl dX9_readNumber_55 ?_
          refine j_iconst (v := 1) h (by decide) dX9_readNumber_58 ?_
          refine j_iadd h dX9_readNumber_59 ?_
          refine j_top (b := nI (wt4_5_746 + 1)) (nI_add wt4_5_746 1) ?_
          refine jm_put (w' := [(t, .inl (.inr (9, [.ref t0, .int (nI tsz), .int tkd, .int (nI tpl), .int (nI (wt4_5_746 + 1)), .long twd, .int (((wt6_5_746 * 10) + r5772) - 48)]))), (t0, .inl (.inl (kA 0, 1600, .inl tby)))]) h iw_X9 tyX9 tyX9_ok nmX9 0 rfl rfl 4 (by decide) tw_128 rfl rfl rfl (Nat.le_of_ble_eq_true rfl) dX9_readNumber_60 rfl ?_
          refine j_goto h 5 dX9_readNumber_63 (by decide) ?_
          refine jm_sub [0, 1] (w' := [(t, .inl (.inr (9, [.ref t0, .int (nI tsz), .int tkd, .int (nI tpl), .int (nI (wt4_5_746 + 1)), .long twd, .int (((wt6_5_746 * 10) + r5772) - 48)]))), (t0, .inl (.inl (kA 0, 1600, .inl tby)))]) rfl (by decide) [0] (lv' := [(0, .ref t)]) rfl ?_
          exact ih5_746 (wt4_5_746 + 1) (((wt6_5_746 * 10) + r5772) - 48) (show (wt4_5_746 + 1) ≤ tsz by first | assumption | omega) (show (wt4_5_746 + 1) ≤ 100000 by first | assumption | omega) (show tsz + 1 - (wt4_5_746 + 1) < m5_746 by omega)
  refine jm_sub [0, 1] (w' := [(t, .inl (.inr (9, [.ref t0, .int (nI tsz), .int tkd, .int (nI tpl), .int (nI tbh), .long twd, .int 0]))), (t0, .inl (.inl (kA 0, 1600, .inl tby)))]) rfl (by decide) [0] (lv' := [(0, .ref t)]) rfl ?_
  exact lp5_746 (tsz + 1 - tbh + 1) tbh 0 (show tbh ≤ tsz by first | assumption | omega) (show tbh ≤ 100000 by first | assumption | omega) (Nat.lt_succ_self _)
set_option maxHeartbeats 4000000 in
set_option maxRecDepth 100000 in
theorem s_X9_readNext (lau : Launch) (gg : va_G) (kA : Nat → ClassId) (t : Nat) (t0 : Nat) (tsz : Nat) (tkd : Int32) (tpl : Int32) (tbh : Nat) (twd : Int64) (tnu : Int32) (tby : Nat → Int32) (htsz : tsz ≤ 1600) (htbh : tbh ≤ tsz) : CtV lau yX9_readNext cX9_readNext 2 (none) 3 0 0 gg kA [.ref t] (mflat [(t, .inl (.inr (9, [.ref t0, .int (nI tsz), .int tkd, .int tpl, .int (nI tbh), .long twd, .int tnu]))), (t0, .inl (.inl (kA 0, 1600, .inl tby)))]) (S := Int32 × Nat × Nat × Int64 × Int32) (fun ((y_t_2, y_t_3, y_t_4, y_t_5, y_t_6) : Int32 × Nat × Nat × Int64 × Int32) => (y_t_3 ≤ tsz) ∧ (y_t_4 ≤ tsz)) (fun ((y_t_2, y_t_3, y_t_4, y_t_5, y_t_6) : Int32 × Nat × Nat × Int64 × Int32) => mflat [(t, .inl (.inr (9, [.ref t0, .int (nI tsz), .int y_t_2, .int (nI y_t_3), .int (nI y_t_4), .long y_t_5, .int y_t_6]))), (t0, .inl (.inl (kA 0, 1600, .inl tby)))]) := by
  refine nx_startV (by decide +kernel) (Nat.le_of_ble_eq_true rfl) ?_
  intro x hnm h hq
  have h : Ok x cX9_readNext RX9 kA (rmC 3 0 0) 2 := h
  show J x (mflat [(t, .inl (.inr (9, [.ref t0, .int (nI tsz), .int tkd, .int tpl, .int (nI tbh), .long twd, .int tnu]))), (t0, .inl (.inl (kA 0, 1600, .inl tby)))]) [(0, .ref t)] 0 0 0 []
  refine j_aload_n h 0 rfl rfl dX9_readNext_0 ?_
  refine j_aload_n h 0 rfl rfl dX9_readNext_1 ?_
  refine jm_get h iw_X9 0 rfl rfl 4 (by decide) tw_128 rfl dX9_readNext_2 ?_
  refine jm_put (w' := [(t, .inl (.inr (9, [.ref t0, .int (nI tsz), .int tkd, .int (nI tbh), .int (nI tbh), .long twd, .int tnu]))), (t0, .inl (.inl (kA 0, 1600, .inl tby)))]) h iw_X9 tyX9 tyX9_ok nmX9 0 rfl rfl 3 (by decide) tw_126 rfl rfl rfl (Nat.le_of_ble_eq_true rfl) dX9_readNext_5 rfl ?_
  have lp8_752 : ∀ (m8_752 : Nat), ∀ (wt3_8_752 : Nat), (wt3_8_752 ≤ tsz) → (wt3_8_752 ≤ 100000) → tsz + 1 - wt3_8_752 < m8_752 → J x (mflat [(t, .inl (.inr (9, [.ref t0, .int (nI tsz), .int tkd, .int (nI wt3_8_752), .int (nI tbh), .long twd, .int tnu]))), (t0, .inl (.inl (kA 0, 1600, .inl tby)))]) [(0, .ref t)] 0 0 8 [] := by
    intro m8_752
    induction m8_752 with
    | zero =>
      intro wt3_8_752 i8_752_0 i8_752_1 hm8_752
      exact absurd hm8_752 (Nat.not_lt_zero _)
    | succ m8_752 ih8_752 =>
      intro wt3_8_752 i8_752_0 i8_752_1 hm8_752
      refine j_aload_n h 0 rfl rfl dX9_readNext_8 ?_
      refine jm_get h iw_X9 0 rfl rfl 3 (by decide) tw_126 rfl dX9_readNext_9 ?_
      refine j_aload_n h 0 rfl rfl dX9_readNext_12 ?_
      refine jm_get h iw_X9 0 rfl rfl 1 (by decide) tw_122 rfl dX9_readNext_13 ?_
      refine j_icmp_ge h 46 dX9_readNext_16 (by decide) (fun z6118 => ?_) (fun z6118 => ?_)
      · have z6118n : tsz ≤ wt3_8_752 := (nI_leI (a := tsz) (b := wt3_8_752) (by omega) (by omega)).mp z6118
        refine j_aload_n h 0 rfl rfl dX9_readNext_46 ?_
        refine j_aload_n h 0 rfl rfl dX9_readNext_47 ?_
        refine jm_get h iw_X9 0 rfl rfl 3 (by decide) tw_126 rfl dX9_readNext_48 ?_
        refine jm_put (w' := [(t, .inl (.inr (9, [.ref t0, .int (nI tsz), .int tkd, .int (nI wt3_8_752), .int (nI wt3_8_752), .long twd, .int tnu]))), (t0, .inl (.inl (kA 0, 1600, .inl tby)))]) h iw_X9 tyX9 tyX9_ok nmX9 0 rfl rfl 4 (by decide) tw_128 rfl rfl rfl (Nat.le_of_ble_eq_true rfl) dX9_readNext_51 rfl ?_
        refine j_aload_n h 0 rfl rfl dX9_readNext_54 ?_
        refine j_aload_n h 0 rfl rfl dX9_readNext_55 ?_
        refine jm_get h iw_X9 0 rfl rfl 3 (by decide) tw_126 rfl dX9_readNext_56 ?_
        refine jm_callVi (np := 1) (isC := [0, 1]) (isR := []) (wc := [(t, .inl (.inr (9, [.ref t0, .int (nI tsz), .int tkd, .int (nI wt3_8_752), .int (nI wt3_8_752), .long twd, .int tnu]))), (t0, .inl (.inl (kA 0, 1600, .inl tby)))]) (wr := []) (rest := []) (As := [.int (nI wt3_8_752)]) (q0 := 0) h (s_X9_byteAt _ _ kA t (nI wt3_8_752) t0 tsz tkd (nI wt3_8_752) (nI wt3_8_752) twd tnu tby (show tsz ≤ 1600 by first | assumption | omega)) tw_569 tw_571 tw_0 tw_88 tw_572 (by decide +kernel) rfl ⟨Nat.le_of_ble_eq_true rfl, Nat.le_of_ble_eq_true rfl⟩ rfl rfl (by decide) rfl rfl (by decide) (by decide) (Nat.le_of_ble_eq_true rfl) rfl ⟨Nat.le_of_ble_eq_true rfl, Nat.le_of_ble_eq_true rfl⟩ dX9_readNext_59 ?_
        rintro r6120 _ e6119
        show J x (mflat [(t, .inl (.inr (9, [.ref t0, .int (nI tsz), .int tkd, .int (nI wt3_8_752), .int (nI wt3_8_752), .long twd, .int tnu]))), (t0, .inl (.inl (kA 0, 1600, .inl tby)))]) [(0, .ref t)] 0 0 62 [.int r6120]
        refine j_istore_n (lv' := [(1, .int r6120), (0, .ref t)]) h dX9_readNext_62 rfl (by decide) rfl ?_
        refine j_aload_n h 1 rfl rfl dX9_readNext_63 ?_
        refine jm_get h iw_X9 0 rfl rfl 3 (by decide) tw_126 rfl dX9_readNext_64 ?_
        refine j_aload_n h 1 rfl rfl dX9_readNext_67 ?_
        refine jm_get h iw_X9 0 rfl rfl 1 (by decide) tw_122 rfl dX9_readNext_68 ?_
        refine j_icmp_lt h 82 dX9_readNext_71 (by decide) (fun z6121 => ?_) (fun z6121 => ?_)
        · have z6121n : wt3_8_752 < tsz := (nI_ltI (a := wt3_8_752) (b := tsz) (by omega) (by omega)).mp z6121
          refine j_iload_n h 0 rfl rfl dX9_readNext_82 ?_
          refine j_bipush (v := 59) h (by decide) dX9_readNext_83 ?_
          refine j_icmp_ne h 106 dX9_readNext_85 (by decide) (fun z6122 => ?_) (fun z6122 => ?_)
          · show J x (mflat [(t, .inl (.inr (9, [.ref t0, .int (nI tsz), .int tkd, .int (nI wt3_8_752), .int (nI wt3_8_752), .long twd, .int tnu]))), (t0, .inl (.inl (kA 0, 1600, .inl tby)))]) [(1, .int r6120), (0, .ref t)] 0 0 106 []
            refine j_iload_n h 0 rfl rfl dX9_readNext_106 ?_
            refine jm_callSi (np := 1) (isC := []) (isR := [0, 1]) (wc := []) (wr := [(t, .inl (.inr (9, [.ref t0, .int (nI tsz), .int tkd, .int (nI wt3_8_752), .int (nI wt3_8_752), .long twd, .int tnu]))), (t0, .inl (.inl (kA 0, 1600, .inl tby)))]) (rest := []) (As := [.int r6120]) h (s_X9_isLetter _ _ kA r6120 ) tw_576 tw_577 tw_88 tw_578 (by decide +kernel) rfl ⟨Nat.le_of_ble_eq_true rfl, Nat.le_of_ble_eq_true rfl⟩ (by decide) rfl rfl (by decide) (by decide) (Nat.le_of_ble_eq_true rfl) rfl ⟨Nat.le_of_ble_eq_true rfl, Nat.le_of_ble_eq_true rfl⟩ dX9_readNext_107 ?_
            rintro r6125 q6123 e6124
            obtain ⟨p6126, p6127⟩ := e6124
            subst p6126
            replace p6127 : q6123 ≤ 1 := p6127
            show J x (mflat [(t, .inl (.inr (9, [.ref t0, .int (nI tsz), .int tkd, .int (nI wt3_8_752), .int (nI wt3_8_752), .long twd, .int tnu]))), (t0, .inl (.inl (kA 0, 1600, .inl tby)))]) [(1, .int r6120), (0, .ref t)] 0 0 110 [.int (nI q6123)]
            refine j_if_eq h 120 dX9_readNext_110 (by decide) (fun z6128 => ?_) (fun z6128 => ?_)
            · have z6128n : q6123 = 0 := (nI_eq (a := q6123) (b := 0) (by omega) (by omega)).mp z6128
              refine j_iload_n h 0 rfl rfl dX9_readNext_120 ?_
              refine jm_callSi (np := 1) (isC := []) (isR := [0, 1]) (wc := []) (wr := [(t, .inl (.inr (9, [.ref t0, .int (nI tsz), .int tkd, .int (nI wt3_8_752), .int (nI wt3_8_752), .long twd, .int tnu]))), (t0, .inl (.inl (kA 0, 1600, .inl tby)))]) (rest := []) (As := [.int r6120]) h (s_X9_isDigit _ _ kA r6120 ) tw_583 tw_584 tw_88 tw_585 (by decide +kernel) rfl ⟨Nat.le_of_ble_eq_true rfl, Nat.le_of_ble_eq_true rfl⟩ (by decide) rfl rfl (by decide) (by decide) (Nat.le_of_ble_eq_true rfl) rfl ⟨Nat.le_of_ble_eq_true rfl, Nat.le_of_ble_eq_true rfl⟩ dX9_readNext_121 ?_
              rintro r6131 q6129 e6130
              obtain ⟨p6132, p6133⟩ := e6130
              subst p6132
              replace p6133 : q6129 ≤ 1 := p6133
              show J x (mflat [(t, .inl (.inr (9, [.ref t0, .int (nI tsz), .int tkd, .int (nI wt3_8_752), .int (nI wt3_8_752), .long twd, .int tnu]))), (t0, .inl (.inl (kA 0, 1600, .inl tby)))]) [(1, .int r6120), (0, .ref t)] 0 0 124 [.int (nI q6129)]
              refine j_if_eq h 134 dX9_readNext_124 (by decide) (fun z6134 => ?_) (fun z6134 => ?_)
              · have z6134n : q6129 = 0 := (nI_eq (a := q6129) (b := 0) (by omega) (by omega)).mp z6134
                refine j_aload_n h 1 rfl rfl dX9_readNext_134 ?_
                refine j_iconst (v := 4) h (by decide) dX9_readNext_135 ?_
                refine jm_put (w' := [(t, .inl (.inr (9, [.ref t0, .int (nI tsz), .int 4, .int (nI wt3_8_752), .int (nI wt3_8_752), .long twd, .int tnu]))), (t0, .inl (.inl (kA 0, 1600, .inl tby)))]) h iw_X9 tyX9 tyX9_ok nmX9 0 rfl rfl 2 (by decide) tw_125 rfl rfl rfl (Nat.le_of_ble_eq_true rfl) dX9_readNext_136 rfl ?_
                exact jm_vret h hq dX9_readNext_139 (4, wt3_8_752, wt3_8_752, twd, tnu) [0, 1] rfl (by decide) ⟨(show wt3_8_752 ≤ tsz by first | assumption | omega), (show wt3_8_752 ≤ tsz by first | assumption | omega)⟩ (Nat.le_of_ble_eq_true rfl) (Nat.le_of_ble_eq_true rfl)
              · have z6134n : ¬ q6129 = 0 := fun q9 => z6134 ((nI_eq (a := q6129) (b := 0) (by omega) (by omega)).mpr q9)
                refine j_aload_n h 1 rfl rfl dX9_readNext_127 ?_
                refine jm_callVv (np := 0) (isC := [0, 1]) (isR := []) (wc := [(t, .inl (.inr (9, [.ref t0, .int (nI tsz), .int tkd, .int (nI wt3_8_752), .int (nI wt3_8_752), .long twd, .int tnu]))), (t0, .inl (.inl (kA 0, 1600, .inl tby)))]) (wr := []) (rest := []) (As := []) (q0 := 0) h (s_X9_readNumber _ _ kA t t0 tsz tkd wt3_8_752 wt3_8_752 twd tnu tby (show tsz ≤ 1600 by first | assumption | omega) (show wt3_8_752 ≤ tsz by first | assumption | omega) (show wt3_8_752 ≤ tsz by first | assumption | omega)) tw_586 tw_588 tw_2 tw_88 tw_589 (by decide +kernel) rfl ⟨Nat.le_of_ble_eq_true rfl, Nat.le_of_ble_eq_true rfl⟩ rfl rfl (by decide) rfl rfl (by decide) (by decide) (Nat.le_of_ble_eq_true rfl) rfl ⟨Nat.le_of_ble_eq_true rfl, Nat.le_of_ble_eq_true rfl⟩ dX9_readNext_128 ?_
                rintro ⟨q6135, q6136, q6137⟩ e6138
                obtain ⟨p6140, p6141⟩ := e6138
                replace p6140 : wt3_8_752 ≤ tsz := p6140
                replace p6141 : q6136 ≤ tsz := p6141
                show J x (mflat [(t, .inl (.inr (9, [.ref t0, .int (nI tsz), .int q6135, .int (nI wt3_8_752), .int (nI q6136), .long twd, .int q6137]))), (t0, .inl (.inl (kA 0, 1600, .inl tby)))]) [(1, .int r6120), (0, .ref t)] 0 0 131 []
                refine j_goto h 139 dX9_readNext_131 (by decide) ?_
                exact jm_vret h hq dX9_readNext_139 (q6135, wt3_8_752, q6136, twd, q6137) [0, 1] rfl (by decide) ⟨(show wt3_8_752 ≤ tsz by first | assumption | omega), (show q6136 ≤ tsz by first | assumption | omega)⟩ (Nat.le_of_ble_eq_true rfl) (Nat.le_of_ble_eq_true rfl)
            · have z6128n : ¬ q6123 = 0 := fun q9 => z6128 ((nI_eq (a := q6123) (b := 0) (by omega) (by omega)).mpr q9)
              refine j_aload_n h 1 rfl rfl dX9_readNext_113 ?_
              refine jm_callVv (np := 0) (isC := [0, 1]) (isR := []) (wc := [(t, .inl (.inr (9, [.ref t0, .int (nI tsz), .int tkd, .int (nI wt3_8_752), .int (nI wt3_8_752), .long twd, .int tnu]))), (t0, .inl (.inl (kA 0, 1600, .inl tby)))]) (wr := []) (rest := []) (As := []) (q0 := 0) h (s_X9_readWord _ _ kA t t0 tsz tkd wt3_8_752 wt3_8_752 twd tnu tby (show tsz ≤ 1600 by first | assumption | omega) (show wt3_8_752 ≤ tsz by first | assumption | omega) (show wt3_8_752 ≤ tsz by first | assumption | omega)) tw_579 tw_581 tw_1 tw_88 tw_582 (by decide +kernel) rfl ⟨Nat.le_of_ble_eq_true rfl, Nat.le_of_ble_eq_true rfl⟩ rfl rfl (by decide) rfl rfl (by decide) (by decide) (Nat.le_of_ble_eq_true rfl) rfl ⟨Nat.le_of_ble_eq_true rfl, Nat.le_of_ble_eq_true rfl⟩ dX9_readNext_114 ?_
              rintro ⟨q6142, q6143, q6144⟩ e6145
              obtain ⟨p6147, p6148⟩ := e6145
              replace p6147 : wt3_8_752 ≤ tsz := p6147
              replace p6148 : q6143 ≤ tsz := p6148
              show J x (mflat [(t, .inl (.inr (9, [.ref t0, .int (nI tsz), .int q6142, .int (nI wt3_8_752), .int (nI q6143), .long q6144, .int tnu]))), (t0, .inl (.inl (kA 0, 1600, .inl tby)))]) [(1, .int r6120), (0, .ref t)] 0 0 117 []
              refine j_goto h 139 dX9_readNext_117 (by decide) ?_
              exact jm_vret h hq dX9_readNext_139 (q6142, wt3_8_752, q6143, q6144, tnu) [0, 1] rfl (by decide) ⟨(show wt3_8_752 ≤ tsz by first | assumption | omega), (show q6143 ≤ tsz by first | assumption | omega)⟩ (Nat.le_of_ble_eq_true rfl) (Nat.le_of_ble_eq_true rfl)
          · subst z6122
            show J x (mflat [(t, .inl (.inr (9, [.ref t0, .int (nI tsz), .int tkd, .int (nI wt3_8_752), .int (nI wt3_8_752), .long twd, .int tnu]))), (t0, .inl (.inl (kA 0, 1600, .inl tby)))]) [(1, .int 59), (0, .ref t)] 0 0 88 []
            refine j_aload_n h 1 rfl rfl dX9_readNext_88 ?_
            refine j_iconst (v := 3) h (by decide) dX9_readNext_89 ?_
            refine jm_put (w' := [(t, .inl (.inr (9, [.ref t0, .int (nI tsz), .int 3, .int (nI wt3_8_752), .int (nI wt3_8_752), .long twd, .int tnu]))), (t0, .inl (.inl (kA 0, 1600, .inl tby)))]) h iw_X9 tyX9 tyX9_ok nmX9 0 rfl rfl 2 (by decide) tw_125 rfl rfl rfl (Nat.le_of_ble_eq_true rfl) dX9_readNext_90 rfl ?_
            refine j_aload_n h 1 rfl rfl dX9_readNext_93 ?_
            refine j_aload_n h 1 rfl rfl dX9_readNext_94 ?_
            refine jm_get h iw_X9 0 rfl rfl 3 (by decide) tw_126 rfl dX9_readNext_95 ?_
            refine j_iconst (v := 1) h (by decide) dX9_readNext_98 ?_
            refine j_iadd h dX9_readNext_99 ?_
            refine j_top (b := nI (wt3_8_752 + 1)) (nI_add wt3_8_752 1) ?_
            refine jm_put (w' := [(t, .inl (.inr (9, [.ref t0, .int (nI tsz), .int 3, .int (nI wt3_8_752), .int (nI (wt3_8_752 + 1)), .long twd, .int tnu]))), (t0, .inl (.inl (kA 0, 1600, .inl tby)))]) h iw_X9 tyX9 tyX9_ok nmX9 0 rfl rfl 4 (by decide) tw_128 rfl rfl rfl (Nat.le_of_ble_eq_true rfl) dX9_readNext_100 rfl ?_
            refine j_goto h 139 dX9_readNext_103 (by decide) ?_
            exact jm_vret h hq dX9_readNext_139 (3, wt3_8_752, (wt3_8_752 + 1), twd, tnu) [0, 1] rfl (by decide) ⟨(show wt3_8_752 ≤ tsz by first | assumption | omega), (show (wt3_8_752 + 1) ≤ tsz by first | assumption | omega)⟩ (Nat.le_of_ble_eq_true rfl) (Nat.le_of_ble_eq_true rfl)
        · have z6121n : ¬ wt3_8_752 < tsz := fun q9 => z6121 ((nI_ltI (a := wt3_8_752) (b := tsz) (by omega) (by omega)).mpr q9)
          refine j_aload_n h 1 rfl rfl dX9_readNext_74 ?_
          refine j_iconst (v := 0) h (by decide) dX9_readNext_75 ?_
          refine jm_put (w' := [(t, .inl (.inr (9, [.ref t0, .int (nI tsz), .int 0, .int (nI wt3_8_752), .int (nI wt3_8_752), .long twd, .int tnu]))), (t0, .inl (.inl (kA 0, 1600, .inl tby)))]) h iw_X9 tyX9 tyX9_ok nmX9 0 rfl rfl 2 (by decide) tw_125 rfl rfl rfl (Nat.le_of_ble_eq_true rfl) dX9_readNext_76 rfl ?_
          refine j_goto h 139 dX9_readNext_79 (by decide) ?_
          exact jm_vret h hq dX9_readNext_139 (0, wt3_8_752, wt3_8_752, twd, tnu) [0, 1] rfl (by decide) ⟨(show wt3_8_752 ≤ tsz by first | assumption | omega), (show wt3_8_752 ≤ tsz by first | assumption | omega)⟩ (Nat.le_of_ble_eq_true rfl) (Nat.le_of_ble_eq_true rfl)
      · have z6118n : ¬ tsz ≤ wt3_8_752 := fun q9 => z6118 ((nI_leI (a := tsz) (b := wt3_8_752) (by omega) (by omega)).mpr q9)
        refine j_aload_n h 0 rfl rfl dX9_readNext_19 ?_
        refine j_aload_n h 0 rfl rfl dX9_readNext_20 ?_
        refine jm_get h iw_X9 0 rfl rfl 3 (by decide) tw_126 rfl dX9_readNext_21 ?_
        refine jm_callVi (np := 1) (isC := [0, 1]) (isR := []) (wc := [(t, .inl (.inr (9, [.ref t0, .int (nI tsz), .int tkd, .int (nI wt3_8_752), .int (nI tbh), .long twd, .int tnu]))), (t0, .inl (.inl (kA 0, 1600, .inl tby)))]) (wr := []) (rest := []) (As := [.int (nI wt3_8_752)]) (q0 := 0) h (s_X9_byteAt _ _ kA t (nI wt3_8_752) t0 tsz tkd (nI wt3_8_752) (nI tbh) twd tnu tby (show tsz ≤ 1600 by first | assumption | omega)) tw_569 tw_571 tw_0 tw_88 tw_572 (by decide +kernel) rfl ⟨Nat.le_of_ble_eq_true rfl, Nat.le_of_ble_eq_true rfl⟩ rfl rfl (by decide) rfl rfl (by decide) (by decide) (Nat.le_of_ble_eq_true rfl) rfl ⟨Nat.le_of_ble_eq_true rfl, Nat.le_of_ble_eq_true rfl⟩ dX9_readNext_24 ?_
        rintro r6150 _ e6149
        show J x (mflat [(t, .inl (.inr (9, [.ref t0, .int (nI tsz), .int tkd, .int (nI wt3_8_752), .int (nI tbh), .long twd, .int tnu]))), (t0, .inl (.inl (kA 0, 1600, .inl tby)))]) [(0, .ref t)] 0 0 27 [.int r6150]
        refine jm_callSi (np := 1) (isC := []) (isR := [0, 1]) (wc := []) (wr := [(t, .inl (.inr (9, [.ref t0, .int (nI tsz), .int tkd, .int (nI wt3_8_752), .int (nI tbh), .long twd, .int tnu]))), (t0, .inl (.inl (kA 0, 1600, .inl tby)))]) (rest := []) (As := [.int r6150]) h (s_X9_isBlank _ _ kA r6150 ) tw_573 tw_574 tw_88 tw_575 (by decide +kernel) rfl ⟨Nat.le_of_ble_eq_true rfl, Nat.le_of_ble_eq_true rfl⟩ (by decide) rfl rfl (by decide) (by decide) (Nat.le_of_ble_eq_true rfl) rfl ⟨Nat.le_of_ble_eq_true rfl, Nat.le_of_ble_eq_true rfl⟩ dX9_readNext_27 ?_
        rintro r6153 q6151 e6152
        obtain ⟨p6154, p6155⟩ := e6152
        subst p6154
        replace p6155 : q6151 ≤ 1 := p6155
        show J x (mflat [(t, .inl (.inr (9, [.ref t0, .int (nI tsz), .int tkd, .int (nI wt3_8_752), .int (nI tbh), .long twd, .int tnu]))), (t0, .inl (.inl (kA 0, 1600, .inl tby)))]) [(0, .ref t)] 0 0 30 [.int (nI q6151)]
        refine j_if_eq h 46 dX9_readNext_30 (by decide) (fun z6156 => ?_) (fun z6156 => ?_)
        · have z6156n : q6151 = 0 := (nI_eq (a := q6151) (b := 0) (by omega) (by omega)).mp z6156
          refine j_aload_n h 0 rfl rfl dX9_readNext_46 ?_
          refine j_aload_n h 0 rfl rfl dX9_readNext_47 ?_
          refine jm_get h iw_X9 0 rfl rfl 3 (by decide) tw_126 rfl dX9_readNext_48 ?_
          refine jm_put (w' := [(t, .inl (.inr (9, [.ref t0, .int (nI tsz), .int tkd, .int (nI wt3_8_752), .int (nI wt3_8_752), .long twd, .int tnu]))), (t0, .inl (.inl (kA 0, 1600, .inl tby)))]) h iw_X9 tyX9 tyX9_ok nmX9 0 rfl rfl 4 (by decide) tw_128 rfl rfl rfl (Nat.le_of_ble_eq_true rfl) dX9_readNext_51 rfl ?_
          refine j_aload_n h 0 rfl rfl dX9_readNext_54 ?_
          refine j_aload_n h 0 rfl rfl dX9_readNext_55 ?_
          refine jm_get h iw_X9 0 rfl rfl 3 (by decide) tw_126 rfl dX9_readNext_56 ?_
          refine jm_callVi (np := 1) (isC := [0, 1]) (isR := []) (wc := [(t, .inl (.inr (9, [.ref t0, .int (nI tsz), .int tkd, .int (nI wt3_8_752), .int (nI wt3_8_752), .long twd, .int tnu]))), (t0, .inl (.inl (kA 0, 1600, .inl tby)))]) (wr := []) (rest := []) (As := [.int (nI wt3_8_752)]) (q0 := 0) h (s_X9_byteAt _ _ kA t (nI wt3_8_752) t0 tsz tkd (nI wt3_8_752) (nI wt3_8_752) twd tnu tby (show tsz ≤ 1600 by first | assumption | omega)) tw_569 tw_571 tw_0 tw_88 tw_572 (by decide +kernel) rfl ⟨Nat.le_of_ble_eq_true rfl, Nat.le_of_ble_eq_true rfl⟩ rfl rfl (by decide) rfl rfl (by decide) (by decide) (Nat.le_of_ble_eq_true rfl) rfl ⟨Nat.le_of_ble_eq_true rfl, Nat.le_of_ble_eq_true rfl⟩ dX9_readNext_59 ?_
          rintro r6158 _ e6157
          show J x (mflat [(t, .inl (.inr (9, [.ref t0, .int (nI tsz), .int tkd, .int (nI wt3_8_752), .int (nI wt3_8_752), .long twd, .int tnu]))), (t0, .inl (.inl (kA 0, 1600, .inl tby)))]) [(0, .ref t)] 0 0 62 [.int r6158]
          refine j_istore_n (lv' := [(1, .int r6158), (0, .ref t)]) h dX9_readNext_62 rfl (by decide) rfl ?_
          refine j_aload_n h 1 rfl rfl dX9_readNext_63 ?_
          refine jm_get h iw_X9 0 rfl rfl 3 (by decide) tw_126 rfl dX9_readNext_64 ?_
          refine j_aload_n h 1 rfl rfl dX9_readNext_67 ?_
          refine jm_get h iw_X9 0 rfl rfl 1 (by decide) tw_122 rfl dX9_readNext_68 ?_
          refine j_icmp_lt h 82 dX9_readNext_71 (by decide) (fun z6159 => ?_) (fun z6159 => ?_)
          · have z6159n : wt3_8_752 < tsz := (nI_ltI (a := wt3_8_752) (b := tsz) (by omega) (by omega)).mp z6159
            refine j_iload_n h 0 rfl rfl dX9_readNext_82 ?_
            refine j_bipush (v := 59) h (by decide) dX9_readNext_83 ?_
            refine j_icmp_ne h 106 dX9_readNext_85 (by decide) (fun z6160 => ?_) (fun z6160 => ?_)
            · show J x (mflat [(t, .inl (.inr (9, [.ref t0, .int (nI tsz), .int tkd, .int (nI wt3_8_752), .int (nI wt3_8_752), .long twd, .int tnu]))), (t0, .inl (.inl (kA 0, 1600, .inl tby)))]) [(1, .int r6158), (0, .ref t)] 0 0 106 []
              refine j_iload_n h 0 rfl rfl dX9_readNext_106 ?_
              refine jm_callSi (np := 1) (isC := []) (isR := [0, 1]) (wc := []) (wr := [(t, .inl (.inr (9, [.ref t0, .int (nI tsz), .int tkd, .int (nI wt3_8_752), .int (nI wt3_8_752), .long twd, .int tnu]))), (t0, .inl (.inl (kA 0, 1600, .inl tby)))]) (rest := []) (As := [.int r6158]) h (s_X9_isLetter _ _ kA r6158 ) tw_576 tw_577 tw_88 tw_578 (by decide +kernel) rfl ⟨Nat.le_of_ble_eq_true rfl, Nat.le_of_ble_eq_true rfl⟩ (by decide) rfl rfl (by decide) (by decide) (Nat.le_of_ble_eq_true rfl) rfl ⟨Nat.le_of_ble_eq_true rfl, Nat.le_of_ble_eq_true rfl⟩ dX9_readNext_107 ?_
              rintro r6163 q6161 e6162
              obtain ⟨p6164, p6165⟩ := e6162
              subst p6164
              replace p6165 : q6161 ≤ 1 := p6165
              show J x (mflat [(t, .inl (.inr (9, [.ref t0, .int (nI tsz), .int tkd, .int (nI wt3_8_752), .int (nI wt3_8_752), .long twd, .int tnu]))), (t0, .inl (.inl (kA 0, 1600, .inl tby)))]) [(1, .int r6158), (0, .ref t)] 0 0 110 [.int (nI q6161)]
              refine j_if_eq h 120 dX9_readNext_110 (by decide) (fun z6166 => ?_) (fun z6166 => ?_)
              · have z6166n : q6161 = 0 := (nI_eq (a := q6161) (b := 0) (by omega) (by omega)).mp z6166
                refine j_iload_n h 0 rfl rfl dX9_readNext_120 ?_
                refine jm_callSi (np := 1) (isC := []) (isR := [0, 1]) (wc := []) (wr := [(t, .inl (.inr (9, [.ref t0, .int (nI tsz), .int tkd, .int (nI wt3_8_752), .int (nI wt3_8_752), .long twd, .int tnu]))), (t0, .inl (.inl (kA 0, 1600, .inl tby)))]) (rest := []) (As := [.int r6158]) h (s_X9_isDigit _ _ kA r6158 ) tw_583 tw_584 tw_88 tw_585 (by decide +kernel) rfl ⟨Nat.le_of_ble_eq_true rfl, Nat.le_of_ble_eq_true rfl⟩ (by decide) rfl rfl (by decide) (by decide) (Nat.le_of_ble_eq_true rfl) rfl ⟨Nat.le_of_ble_eq_true rfl, Nat.le_of_ble_eq_true rfl⟩ dX9_readNext_121 ?_
                rintro r6169 q6167 e6168
                obtain ⟨p6170, p6171⟩ := e6168
                subst p6170
                replace p6171 : q6167 ≤ 1 := p6171
                show J x (mflat [(t, .inl (.inr (9, [.ref t0, .int (nI tsz), .int tkd, .int (nI wt3_8_752), .int (nI wt3_8_752), .long twd, .int tnu]))), (t0, .inl (.inl (kA 0, 1600, .inl tby)))]) [(1, .int r6158), (0, .ref t)] 0 0 124 [.int (nI q6167)]
                refine j_if_eq h 134 dX9_readNext_124 (by decide) (fun z6172 => ?_) (fun z6172 => ?_)
                · have z6172n : q6167 = 0 := (nI_eq (a := q6167) (b := 0) (by omega) (by omega)).mp z6172
                  refine j_aload_n h 1 rfl rfl dX9_readNext_134 ?_
                  refine j_iconst (v := 4) h (by decide) dX9_readNext_135 ?_
                  refine jm_put (w' := [(t, .inl (.inr (9, [.ref t0, .int (nI tsz), .int 4, .int (nI wt3_8_752), .int (nI wt3_8_752), .long twd, .int tnu]))), (t0, .inl (.inl (kA 0, 1600, .inl tby)))]) h iw_X9 tyX9 tyX9_ok nmX9 0 rfl rfl 2 (by decide) tw_125 rfl rfl rfl (Nat.le_of_ble_eq_true rfl) dX9_readNext_136 rfl ?_
                  exact jm_vret h hq dX9_readNext_139 (4, wt3_8_752, wt3_8_752, twd, tnu) [0, 1] rfl (by decide) ⟨(show wt3_8_752 ≤ tsz by first | assumption | omega), (show wt3_8_752 ≤ tsz by first | assumption | omega)⟩ (Nat.le_of_ble_eq_true rfl) (Nat.le_of_ble_eq_true rfl)
                · have z6172n : ¬ q6167 = 0 := fun q9 => z6172 ((nI_eq (a := q6167) (b := 0) (by omega) (by omega)).mpr q9)
                  refine j_aload_n h 1 rfl rfl dX9_readNext_127 ?_
                  refine jm_callVv (np := 0) (isC := [0, 1]) (isR := []) (wc := [(t, .inl (.inr (9, [.ref t0, .int (nI tsz), .int tkd, .int (nI wt3_8_752), .int (nI wt3_8_752), .long twd, .int tnu]))), (t0, .inl (.inl (kA 0, 1600, .inl tby)))]) (wr := []) (rest := []) (As := []) (q0 := 0) h (s_X9_readNumber _ _ kA t t0 tsz tkd wt3_8_752 wt3_8_752 twd tnu tby (show tsz ≤ 1600 by first | assumption | omega) (show wt3_8_752 ≤ tsz by first | assumption | omega) (show wt3_8_752 ≤ tsz by first | assumption | omega)) tw_586 tw_588 tw_2 tw_88 tw_589 (by decide +kernel) rfl ⟨Nat.le_of_ble_eq_true rfl, Nat.le_of_ble_eq_true rfl⟩ rfl rfl (by decide) rfl rfl (by decide) (by decide) (Nat.le_of_ble_eq_true rfl) rfl ⟨Nat.le_of_ble_eq_true rfl, Nat.le_of_ble_eq_true rfl⟩ dX9_readNext_128 ?_
                  rintro ⟨q6173, q6174, q6175⟩ e6176
                  obtain ⟨p6178, p6179⟩ := e6176
                  replace p6178 : wt3_8_752 ≤ tsz := p6178
                  replace p6179 : q6174 ≤ tsz := p6179
                  show J x (mflat [(t, .inl (.inr (9, [.ref t0, .int (nI tsz), .int q6173, .int (nI wt3_8_752), .int (nI q6174), .long twd, .int q6175]))), (t0, .inl (.inl (kA 0, 1600, .inl tby)))]) [(1, .int r6158), (0, .ref t)] 0 0 131 []
                  refine j_goto h 139 dX9_readNext_131 (by decide) ?_
                  exact jm_vret h hq dX9_readNext_139 (q6173, wt3_8_752, q6174, twd, q6175) [0, 1] rfl (by decide) ⟨(show wt3_8_752 ≤ tsz by first | assumption | omega), (show q6174 ≤ tsz by first | assumption | omega)⟩ (Nat.le_of_ble_eq_true rfl) (Nat.le_of_ble_eq_true rfl)
              · have z6166n : ¬ q6161 = 0 := fun q9 => z6166 ((nI_eq (a := q6161) (b := 0) (by omega) (by omega)).mpr q9)
                refine j_aload_n h 1 rfl rfl dX9_readNext_113 ?_
                refine jm_callVv (np := 0) (isC := [0, 1]) (isR := []) (wc := [(t, .inl (.inr (9, [.ref t0, .int (nI tsz), .int tkd, .int (nI wt3_8_752), .int (nI wt3_8_752), .long twd, .int tnu]))), (t0, .inl (.inl (kA 0, 1600, .inl tby)))]) (wr := []) (rest := []) (As := []) (q0 := 0) h (s_X9_readWord _ _ kA t t0 tsz tkd wt3_8_752 wt3_8_752 twd tnu tby (show tsz ≤ 1600 by first | assumption | omega) (show wt3_8_752 ≤ tsz by first | assumption | omega) (show wt3_8_752 ≤ tsz by first | assumption | omega)) tw_579 tw_581 tw_1 tw_88 tw_582 (by decide +kernel) rfl ⟨Nat.le_of_ble_eq_true rfl, Nat.le_of_ble_eq_true rfl⟩ rfl rfl (by decide) rfl rfl (by decide) (by decide) (Nat.le_of_ble_eq_true rfl) rfl ⟨Nat.le_of_ble_eq_true rfl, Nat.le_of_ble_eq_true rfl⟩ dX9_readNext_114 ?_
                rintro ⟨q6180, q6181, q6182⟩ e6183
                obtain ⟨p6185, p6186⟩ := e6183
                replace p6185 : wt3_8_752 ≤ tsz := p6185
                replace p6186 : q6181 ≤ tsz := p6186
                show J x (mflat [(t, .inl (.inr (9, [.ref t0, .int (nI tsz), .int q6180, .int (nI wt3_8_752), .int (nI q6181), .long q6182, .int tnu]))), (t0, .inl (.inl (kA 0, 1600, .inl tby)))]) [(1, .int r6158), (0, .ref t)] 0 0 117 []
                refine j_goto h 139 dX9_readNext_117 (by decide) ?_
                exact jm_vret h hq dX9_readNext_139 (q6180, wt3_8_752, q6181, q6182, tnu) [0, 1] rfl (by decide) ⟨(show wt3_8_752 ≤ tsz by first | assumption | omega), (show q6181 ≤ tsz by first | assumption | omega)⟩ (Nat.le_of_ble_eq_true rfl) (Nat.le_of_ble_eq_true rfl)
            · subst z6160
              show J x (mflat [(t, .inl (.inr (9, [.ref t0, .int (nI tsz), .int tkd, .int (nI wt3_8_752), .int (nI wt3_8_752), .long twd, .int tnu]))), (t0, .inl (.inl (kA 0, 1600, .inl tby)))]) [(1, .int 59), (0, .ref t)] 0 0 88 []
              refine j_aload_n h 1 rfl rfl dX9_readNext_88 ?_
              refine j_iconst (v := 3) h (by decide) dX9_readNext_89 ?_
              refine jm_put (w' := [(t, .inl (.inr (9, [.ref t0, .int (nI tsz), .int 3, .int (nI wt3_8_752), .int (nI wt3_8_752), .long twd, .int tnu]))), (t0, .inl (.inl (kA 0, 1600, .inl tby)))]) h iw_X9 tyX9 tyX9_ok nmX9 0 rfl rfl 2 (by decide) tw_125 rfl rfl rfl (Nat.le_of_ble_eq_true rfl) dX9_readNext_90 rfl ?_
              refine j_aload_n h 1 rfl rfl dX9_readNext_93 ?_
              refine j_aload_n h 1 rfl rfl dX9_readNext_94 ?_
              refine jm_get h iw_X9 0 rfl rfl 3 (by decide) tw_126 rfl dX9_readNext_95 ?_
              refine j_iconst (v := 1) h (by decide) dX9_readNext_98 ?_
              refine j_iadd h dX9_readNext_99 ?_
              refine j_top (b := nI (wt3_8_752 + 1)) (nI_add wt3_8_752 1) ?_
              refine jm_put (w' := [(t, .inl (.inr (9, [.ref t0, .int (nI tsz), .int 3, .int (nI wt3_8_752), .int (nI (wt3_8_752 + 1)), .long twd, .int tnu]))), (t0, .inl (.inl (kA 0, 1600, .inl tby)))]) h iw_X9 tyX9 tyX9_ok nmX9 0 rfl rfl 4 (by decide) tw_128 rfl rfl rfl (Nat.le_of_ble_eq_true rfl) dX9_readNext_100 rfl ?_
              refine j_goto h 139 dX9_readNext_103 (by decide) ?_
              exact jm_vret h hq dX9_readNext_139 (3, wt3_8_752, (wt3_8_752 + 1), twd, tnu) [0, 1] rfl (by decide) ⟨(show wt3_8_752 ≤ tsz by first | assumption | omega), (show (wt3_8_752 + 1) ≤ tsz by first | assumption | omega)⟩ (Nat.le_of_ble_eq_true rfl) (Nat.le_of_ble_eq_true rfl)
          · have z6159n : ¬ wt3_8_752 < tsz := fun q9 => z6159 ((nI_ltI (a := wt3_8_752) (b := tsz) (by omega) (by omega)).mpr q9)
            refine j_aload_n h 1 rfl rfl dX9_readNext_74 ?_
            refine j_iconst (v := 0) h (by decide) dX9_readNext_75 ?_
            refine jm_put (w' := [(t, .inl (.inr (9, [.ref t0, .int (nI tsz), .int 0, .int (nI wt3_8_752), .int (nI wt3_8_752), .long twd, .int tnu]))), (t0, .inl (.inl (kA 0, 1600, .inl tby)))]) h iw_X9 tyX9 tyX9_ok nmX9 0 rfl rfl 2 (by decide) tw_125 rfl rfl rfl (Nat.le_of_ble_eq_true rfl) dX9_readNext_76 rfl ?_
            refine j_goto h 139 dX9_readNext_79 (by decide) ?_
            exact jm_vret h hq dX9_readNext_139 (0, wt3_8_752, wt3_8_752, twd, tnu) [0, 1] rfl (by decide) ⟨(show wt3_8_752 ≤ tsz by first | assumption | omega), (show wt3_8_752 ≤ tsz by first | assumption | omega)⟩ (Nat.le_of_ble_eq_true rfl) (Nat.le_of_ble_eq_true rfl)
        · have z6156n : ¬ q6151 = 0 := fun q9 => z6156 ((nI_eq (a := q6151) (b := 0) (by omega) (by omega)).mpr q9)
          refine j_aload_n h 0 rfl rfl dX9_readNext_33 ?_
          refine j_dup h rfl dX9_readNext_34 ?_
          refine jm_get h iw_X9 0 rfl rfl 3 (by decide) tw_126 rfl dX9_readNext_35 ?_
          refine j_iconst (v := 1) h (by decide) dX9_readNext_38 ?_
          refine j_iadd h dX9_readNext_39 ?_
          refine j_top (b := nI (wt3_8_752 + 1)) (nI_add wt3_8_752 1) ?_
          refine jm_put (w' := [(t, .inl (.inr (9, [.ref t0, .int (nI tsz), .int tkd, .int (nI (wt3_8_752 + 1)), .int (nI tbh), .long twd, .int tnu]))), (t0, .inl (.inl (kA 0, 1600, .inl tby)))]) h iw_X9 tyX9 tyX9_ok nmX9 0 rfl rfl 3 (by decide) tw_126 rfl rfl rfl (Nat.le_of_ble_eq_true rfl) dX9_readNext_40 rfl ?_
          refine j_goto h 8 dX9_readNext_43 (by decide) ?_
          refine jm_sub [0, 1] (w' := [(t, .inl (.inr (9, [.ref t0, .int (nI tsz), .int tkd, .int (nI (wt3_8_752 + 1)), .int (nI tbh), .long twd, .int tnu]))), (t0, .inl (.inl (kA 0, 1600, .inl tby)))]) rfl (by decide) [0] (lv' := [(0, .ref t)]) rfl ?_
          exact ih8_752 (wt3_8_752 + 1) (show (wt3_8_752 + 1) ≤ tsz by first | assumption | omega) (show (wt3_8_752 + 1) ≤ 100000 by first | assumption | omega) (show tsz + 1 - (wt3_8_752 + 1) < m8_752 by omega)
  refine jm_sub [0, 1] (w' := [(t, .inl (.inr (9, [.ref t0, .int (nI tsz), .int tkd, .int (nI tbh), .int (nI tbh), .long twd, .int tnu]))), (t0, .inl (.inl (kA 0, 1600, .inl tby)))]) rfl (by decide) [0] (lv' := [(0, .ref t)]) rfl ?_
  exact lp8_752 (tsz + 1 - tbh + 1) tbh (show tbh ≤ tsz by first | assumption | omega) (show tbh ≤ 100000 by first | assumption | omega) (Nat.lt_succ_self _)
set_option maxHeartbeats 4000000 in
set_option maxRecDepth 100000 in
theorem s_X9_rewind (lau : Launch) (gg : va_G) (kA : Nat → ClassId) (t : Nat) (t0 : Nat) (tsz : Nat) (tkd : Int32) (tpl : Int32) (tbh : Int32) (twd : Int64) (tnu : Int32) (tby : Nat → Int32) (htsz : tsz ≤ 1600) : CtV lau yX9_rewind cX9_rewind 1 (none) 4 0 0 gg kA [.ref t] (mflat [(t, .inl (.inr (9, [.ref t0, .int (nI tsz), .int tkd, .int tpl, .int tbh, .long twd, .int tnu]))), (t0, .inl (.inl (kA 0, 1600, .inl tby)))]) (S := Int32 × Nat × Nat × Int64 × Int32) (fun ((y_t_2, y_t_3, y_t_4, y_t_5, y_t_6) : Int32 × Nat × Nat × Int64 × Int32) => (y_t_3 ≤ tsz) ∧ (y_t_4 ≤ tsz)) (fun ((y_t_2, y_t_3, y_t_4, y_t_5, y_t_6) : Int32 × Nat × Nat × Int64 × Int32) => mflat [(t, .inl (.inr (9, [.ref t0, .int (nI tsz), .int y_t_2, .int (nI y_t_3), .int (nI y_t_4), .long y_t_5, .int y_t_6]))), (t0, .inl (.inl (kA 0, 1600, .inl tby)))]) := by
  refine nx_startV (by decide +kernel) (Nat.le_of_ble_eq_true rfl) ?_
  intro x hnm h hq
  have h : Ok x cX9_rewind RX9 kA (rmC 4 0 0) 1 := h
  show J x (mflat [(t, .inl (.inr (9, [.ref t0, .int (nI tsz), .int tkd, .int tpl, .int tbh, .long twd, .int tnu]))), (t0, .inl (.inl (kA 0, 1600, .inl tby)))]) [(0, .ref t)] 0 0 0 []
  refine j_aload_n h 0 rfl rfl dX9_rewind_0 ?_
  refine j_iconst (v := 0) h (by decide) dX9_rewind_1 ?_
  refine jm_put (w' := [(t, .inl (.inr (9, [.ref t0, .int (nI tsz), .int tkd, .int tpl, .int 0, .long twd, .int tnu]))), (t0, .inl (.inl (kA 0, 1600, .inl tby)))]) h iw_X9 tyX9 tyX9_ok nmX9 0 rfl rfl 4 (by decide) tw_128 rfl rfl rfl (Nat.le_of_ble_eq_true rfl) dX9_rewind_2 rfl ?_
  refine j_aload_n h 0 rfl rfl dX9_rewind_5 ?_
  refine jm_callVv (np := 0) (isC := [0, 1]) (isR := []) (wc := [(t, .inl (.inr (9, [.ref t0, .int (nI tsz), .int tkd, .int tpl, .int 0, .long twd, .int tnu]))), (t0, .inl (.inl (kA 0, 1600, .inl tby)))]) (wr := []) (rest := []) (As := []) (q0 := 0) h (s_X9_readNext _ _ kA t t0 tsz tkd tpl 0 twd tnu tby (show tsz ≤ 1600 by first | assumption | omega) (show 0 ≤ tsz by first | assumption | omega)) tw_565 tw_566 tw_567 tw_88 tw_568 (by decide +kernel) rfl ⟨Nat.le_of_ble_eq_true rfl, Nat.le_of_ble_eq_true rfl⟩ rfl rfl (by decide) rfl rfl (by decide) (by decide) (Nat.le_of_ble_eq_true rfl) rfl ⟨Nat.le_of_ble_eq_true rfl, Nat.le_of_ble_eq_true rfl⟩ dX9_rewind_6 ?_
  rintro ⟨q6196, q6197, q6198, q6199, q6200⟩ e6201
  obtain ⟨p6203, p6204⟩ := e6201
  replace p6203 : q6197 ≤ tsz := p6203
  replace p6204 : q6198 ≤ tsz := p6204
  show J x (mflat [(t, .inl (.inr (9, [.ref t0, .int (nI tsz), .int q6196, .int (nI q6197), .int (nI q6198), .long q6199, .int q6200]))), (t0, .inl (.inl (kA 0, 1600, .inl tby)))]) [(0, .ref t)] 0 0 9 []
  exact jm_vret h hq dX9_rewind_9 (q6196, q6197, q6198, q6199, q6200) [0, 1] rfl (by decide) ⟨(show q6197 ≤ tsz by first | assumption | omega), (show q6198 ≤ tsz by first | assumption | omega)⟩ (Nat.le_of_ble_eq_true rfl) (Nat.le_of_ble_eq_true rfl)
set_option maxHeartbeats 4000000 in
set_option maxRecDepth 100000 in
theorem s_X9_isAt (lau : Launch) (gg : va_G) (kA : Nat → ClassId) (t : Nat) (si : Nat) (t0 : Nat) (tsz : Nat) (tkd : Int32) (tpl : Int32) (tbh : Int32) (twd : Int64) (tnu : Int32) (tby : Nat → Int32) (htsz : tsz ≤ 1600) (hsi : si < 20) : CtI lau yX9_isAt cX9_isAt 3 (some .boolean) 5 0 0 gg kA [.ref t, .ref (kA (100 + si))] (mflat [(t, .inl (.inr (9, [.ref t0, .int (nI tsz), .int tkd, .int tpl, .int tbh, .long twd, .int tnu]))), (t0, .inl (.inl (kA 0, 1600, .inl tby)))]) (S := Nat × Int32) (fun (r : Int32) ((y_r, y_t_2) : Nat × Int32) => r = nI y_r ∧ (y_r ≤ 1)) (fun ((y_r, y_t_2) : Nat × Int32) => mflat [(t, .inl (.inr (9, [.ref t0, .int (nI tsz), .int y_t_2, .int tpl, .int tbh, .long twd, .int tnu]))), (t0, .inl (.inl (kA 0, 1600, .inl tby)))]) := by
  refine nx_startI (by decide +kernel) (Nat.le_of_ble_eq_true rfl) ?_
  intro x hnm h hq
  have h : Ok x cX9_isAt RX9 kA (rmC 5 0 0) 3 := h
  show J x (mflat [(t, .inl (.inr (9, [.ref t0, .int (nI tsz), .int tkd, .int tpl, .int tbh, .long twd, .int tnu]))), (t0, .inl (.inl (kA 0, 1600, .inl tby)))]) [(0, .ref t), (1, .ref (kA (100 + si)))] 0 0 0 []
  have hsl := sL_le si hsi
  refine j_aload_n h 0 rfl rfl dX9_isAt_0 ?_
  refine jm_get h iw_X9 0 rfl rfl 2 (by decide) tw_125 rfl dX9_isAt_1 ?_
  refine j_iconst (v := 1) h (by decide) dX9_isAt_4 ?_
  refine j_icmp_ne h 24 dX9_isAt_5 (by decide) (fun z6240 => ?_) (fun z6240 => ?_)
  · show J x (mflat [(t, .inl (.inr (9, [.ref t0, .int (nI tsz), .int tkd, .int tpl, .int tbh, .long twd, .int tnu]))), (t0, .inl (.inl (kA 0, 1600, .inl tby)))]) [(0, .ref t), (1, .ref (kA (100 + si)))] 0 0 24 []
    refine j_iconst (v := 0) h (by decide) dX9_isAt_24 ?_
    exact jm_zret h hq rfl dX9_isAt_25 (0, tkd) [0, 1] rfl (by decide) ⟨rfl, (show 0 ≤ 1 by first | assumption | omega)⟩ (Nat.le_of_ble_eq_true rfl) (Nat.le_of_ble_eq_true rfl)
  · subst z6240
    show J x (mflat [(t, .inl (.inr (9, [.ref t0, .int (nI tsz), .int 1, .int tpl, .int tbh, .long twd, .int tnu]))), (t0, .inl (.inl (kA 0, 1600, .inl tby)))]) [(0, .ref t), (1, .ref (kA (100 + si)))] 0 0 8 []
    refine j_aload_n h 0 rfl rfl dX9_isAt_8 ?_
    refine jm_get h iw_X9 0 rfl rfl 4 (by decide) tw_128 rfl dX9_isAt_9 ?_
    refine j_aload_n h 0 rfl rfl dX9_isAt_12 ?_
    refine jm_get h iw_X9 0 rfl rfl 3 (by decide) tw_126 rfl dX9_isAt_13 ?_
    refine j_isub h dX9_isAt_16 ?_
    refine j_aload_n h 1 rfl rfl dX9_isAt_17 ?_
    refine jm_callVKi (np := 0) (isC := []) (isR := [0, 1]) (wc := []) (wr := [(t, .inl (.inr (9, [.ref t0, .int (nI tsz), .int 1, .int tpl, .int tbh, .long twd, .int tnu]))), (t0, .inl (.inl (kA 0, 1600, .inl tby)))]) (rest := [.int (tbh - tpl)]) (As := []) (si := si) h (s_J0_length_8abf5 _ _ kA si (show si < 20 by first | assumption | omega)) (by omega) tw_595 tw_596 tw_597 tw_100 tw_598 (by decide +kernel) rfl ⟨Nat.le_of_ble_eq_true rfl, Nat.le_of_ble_eq_true rfl⟩ (by decide) rfl rfl (by decide) (by decide) (Nat.le_of_ble_eq_true rfl) rfl ⟨Nat.le_of_ble_eq_true rfl, Nat.le_of_ble_eq_true rfl⟩ dX9_isAt_18 ?_
    rintro r6242 _ e6241
    have p6243 := e6241
    subst p6243
    show J x (mflat [(t, .inl (.inr (9, [.ref t0, .int (nI tsz), .int 1, .int tpl, .int tbh, .long twd, .int tnu]))), (t0, .inl (.inl (kA 0, 1600, .inl tby)))]) [(0, .ref t), (1, .ref (kA (100 + si)))] 0 0 21 [.int (nI (sL si)), .int (tbh - tpl)]
    refine j_icmp_eq h 26 dX9_isAt_21 (by decide) (fun z6244 => ?_) (fun z6244 => ?_)
    · show J x (mflat [(t, .inl (.inr (9, [.ref t0, .int (nI tsz), .int 1, .int tpl, .int tbh, .long twd, .int tnu]))), (t0, .inl (.inl (kA 0, 1600, .inl tby)))]) [(0, .ref t), (1, .ref (kA (100 + si)))] 0 0 26 []
      refine j_iconst (v := 0) h (by decide) dX9_isAt_26 ?_
      refine j_istore_n (lv' := [(2, .int 0), (0, .ref t), (1, .ref (kA (100 + si)))]) h dX9_isAt_27 rfl (by decide) rfl ?_
      have lp28_758 : ∀ (m28_758 : Nat), ∀ (v2_28_758 : Nat), (v2_28_758 ≤ 100000) → 100001 - v2_28_758 < m28_758 → J x (mflat [(t, .inl (.inr (9, [.ref t0, .int (nI tsz), .int 1, .int tpl, .int tbh, .long twd, .int tnu]))), (t0, .inl (.inl (kA 0, 1600, .inl tby)))]) [(2, .int (nI v2_28_758)), (0, .ref t), (1, .ref (kA (100 + si)))] 0 0 28 [] := by
        intro m28_758
        induction m28_758 with
        | zero =>
          intro v2_28_758 i28_758_0 hm28_758
          exact absurd hm28_758 (Nat.not_lt_zero _)
        | succ m28_758 ih28_758 =>
          intro v2_28_758 i28_758_0 hm28_758
          refine j_iload_n h 0 rfl rfl dX9_isAt_28 ?_
          refine j_aload_n h 2 rfl rfl dX9_isAt_29 ?_
          refine jm_callVKi (np := 0) (isC := []) (isR := [0, 1]) (wc := []) (wr := [(t, .inl (.inr (9, [.ref t0, .int (nI tsz), .int 1, .int tpl, .int tbh, .long twd, .int tnu]))), (t0, .inl (.inl (kA 0, 1600, .inl tby)))]) (rest := [.int (nI v2_28_758)]) (As := []) (si := si) h (s_J0_length_8abf5 _ _ kA si (show si < 20 by first | assumption | omega)) (by omega) tw_595 tw_596 tw_597 tw_100 tw_598 (by decide +kernel) rfl ⟨Nat.le_of_ble_eq_true rfl, Nat.le_of_ble_eq_true rfl⟩ (by decide) rfl rfl (by decide) (by decide) (Nat.le_of_ble_eq_true rfl) rfl ⟨Nat.le_of_ble_eq_true rfl, Nat.le_of_ble_eq_true rfl⟩ dX9_isAt_30 ?_
          rintro r6266 _ e6265
          have p6267 := e6265
          subst p6267
          show J x (mflat [(t, .inl (.inr (9, [.ref t0, .int (nI tsz), .int 1, .int tpl, .int tbh, .long twd, .int tnu]))), (t0, .inl (.inl (kA 0, 1600, .inl tby)))]) [(2, .int (nI v2_28_758)), (0, .ref t), (1, .ref (kA (100 + si)))] 0 0 33 [.int (nI (sL si)), .int (nI v2_28_758)]
          refine j_icmp_ge h 62 dX9_isAt_33 (by decide) (fun z6268 => ?_) (fun z6268 => ?_)
          · have z6268n : (sL si) ≤ v2_28_758 := (nI_leI (a := (sL si)) (b := v2_28_758) (by omega) (by omega)).mp z6268
            refine j_iconst (v := 1) h (by decide) dX9_isAt_62 ?_
            exact jm_zret h hq rfl dX9_isAt_63 (1, 1) [0, 1] rfl (by decide) ⟨rfl, (show 1 ≤ 1 by first | assumption | omega)⟩ (Nat.le_of_ble_eq_true rfl) (Nat.le_of_ble_eq_true rfl)
          · have z6268n : ¬ (sL si) ≤ v2_28_758 := fun q9 => z6268 ((nI_leI (a := (sL si)) (b := v2_28_758) (by omega) (by omega)).mpr q9)
            refine j_aload_n h 1 rfl rfl dX9_isAt_36 ?_
            refine j_aload_n h 1 rfl rfl dX9_isAt_37 ?_
            refine jm_get h iw_X9 0 rfl rfl 3 (by decide) tw_126 rfl dX9_isAt_38 ?_
            refine j_iload_n h 0 rfl rfl dX9_isAt_41 ?_
            refine j_iadd h dX9_isAt_42 ?_
            refine jm_callVi (np := 1) (isC := [0, 1]) (isR := []) (wc := [(t, .inl (.inr (9, [.ref t0, .int (nI tsz), .int 1, .int tpl, .int tbh, .long twd, .int tnu]))), (t0, .inl (.inl (kA 0, 1600, .inl tby)))]) (wr := []) (rest := []) (As := [.int (tpl + (nI v2_28_758))]) (q0 := 0) h (s_X9_byteAt _ _ kA t (tpl + (nI v2_28_758)) t0 tsz 1 tpl tbh twd tnu tby (show tsz ≤ 1600 by first | assumption | omega)) tw_569 tw_571 tw_0 tw_88 tw_572 (by decide +kernel) rfl ⟨Nat.le_of_ble_eq_true rfl, Nat.le_of_ble_eq_true rfl⟩ rfl rfl (by decide) rfl rfl (by decide) (by decide) (Nat.le_of_ble_eq_true rfl) rfl ⟨Nat.le_of_ble_eq_true rfl, Nat.le_of_ble_eq_true rfl⟩ dX9_isAt_43 ?_
            rintro r6270 _ e6269
            show J x (mflat [(t, .inl (.inr (9, [.ref t0, .int (nI tsz), .int 1, .int tpl, .int tbh, .long twd, .int tnu]))), (t0, .inl (.inl (kA 0, 1600, .inl tby)))]) [(2, .int (nI v2_28_758)), (0, .ref t), (1, .ref (kA (100 + si)))] 0 0 46 [.int r6270]
            refine j_aload_n h 2 rfl rfl dX9_isAt_46 ?_
            refine j_iload_n h 0 rfl rfl dX9_isAt_47 ?_
            refine jm_callVKi (np := 1) (isC := []) (isR := [0, 1]) (wc := []) (wr := [(t, .inl (.inr (9, [.ref t0, .int (nI tsz), .int 1, .int tpl, .int tbh, .long twd, .int tnu]))), (t0, .inl (.inl (kA 0, 1600, .inl tby)))]) (rest := [.int r6270]) (As := [.int (nI v2_28_758)]) (si := si) h (s_J0_charAt_5068e _ _ kA si v2_28_758 (show si < 20 by first | assumption | omega) (show v2_28_758 < sL si by first | assumption | omega)) (by omega) tw_605 tw_606 tw_607 tw_100 tw_608 (by decide +kernel) rfl ⟨Nat.le_of_ble_eq_true rfl, Nat.le_of_ble_eq_true rfl⟩ (by decide) rfl rfl (by decide) (by decide) (Nat.le_of_ble_eq_true rfl) rfl ⟨Nat.le_of_ble_eq_true rfl, Nat.le_of_ble_eq_true rfl⟩ dX9_isAt_48 ?_
            rintro r6272 _ e6271
            have p6273 := e6271
            subst p6273
            show J x (mflat [(t, .inl (.inr (9, [.ref t0, .int (nI tsz), .int 1, .int tpl, .int tbh, .long twd, .int tnu]))), (t0, .inl (.inl (kA 0, 1600, .inl tby)))]) [(2, .int (nI v2_28_758)), (0, .ref t), (1, .ref (kA (100 + si)))] 0 0 51 [.int ((sB si).getD v2_28_758 0), .int r6270]
            refine j_icmp_eq h 56 dX9_isAt_51 (by decide) (fun z6274 => ?_) (fun z6274 => ?_)
            · show J x (mflat [(t, .inl (.inr (9, [.ref t0, .int (nI tsz), .int 1, .int tpl, .int tbh, .long twd, .int tnu]))), (t0, .inl (.inl (kA 0, 1600, .inl tby)))]) [(2, .int (nI v2_28_758)), (0, .ref t), (1, .ref (kA (100 + si)))] 0 0 56 []
              refine j_iinc (v := nI (v2_28_758 + 1)) (lv' := [(2, .int (nI (v2_28_758 + 1))), (0, .ref t), (1, .ref (kA (100 + si)))]) h dX9_isAt_56 0 rfl (nI_add v2_28_758 1) (by decide) rfl ?_
              refine j_goto h 28 dX9_isAt_59 (by decide) ?_
              refine jm_sub [0, 1] (w' := [(t, .inl (.inr (9, [.ref t0, .int (nI tsz), .int 1, .int tpl, .int tbh, .long twd, .int tnu]))), (t0, .inl (.inl (kA 0, 1600, .inl tby)))]) rfl (by decide) [0, 1, 2] (lv' := [(2, .int (nI (v2_28_758 + 1))), (0, .ref t), (1, .ref (kA (100 + si)))]) rfl ?_
              exact ih28_758 (v2_28_758 + 1) (show (v2_28_758 + 1) ≤ 100000 by first | assumption | omega) (show 100001 - (v2_28_758 + 1) < m28_758 by omega)
            · show J x (mflat [(t, .inl (.inr (9, [.ref t0, .int (nI tsz), .int 1, .int tpl, .int tbh, .long twd, .int tnu]))), (t0, .inl (.inl (kA 0, 1600, .inl tby)))]) [(2, .int (nI v2_28_758)), (0, .ref t), (1, .ref (kA (100 + si)))] 0 0 54 []
              refine j_iconst (v := 0) h (by decide) dX9_isAt_54 ?_
              exact jm_zret h hq rfl dX9_isAt_55 (0, 1) [0, 1] rfl (by decide) ⟨rfl, (show 0 ≤ 1 by first | assumption | omega)⟩ (Nat.le_of_ble_eq_true rfl) (Nat.le_of_ble_eq_true rfl)
      refine jm_sub [0, 1] (w' := [(t, .inl (.inr (9, [.ref t0, .int (nI tsz), .int 1, .int tpl, .int tbh, .long twd, .int tnu]))), (t0, .inl (.inl (kA 0, 1600, .inl tby)))]) rfl (by decide) [0, 1, 2] (lv' := [(2, .int 0), (0, .ref t), (1, .ref (kA (100 + si)))]) rfl ?_
      exact lp28_758 (100001 - 0 + 1) 0 (show 0 ≤ 100000 by first | assumption | omega) (Nat.lt_succ_self _)
    · show J x (mflat [(t, .inl (.inr (9, [.ref t0, .int (nI tsz), .int 1, .int tpl, .int tbh, .long twd, .int tnu]))), (t0, .inl (.inl (kA 0, 1600, .inl tby)))]) [(0, .ref t), (1, .ref (kA (100 + si)))] 0 0 24 []
      refine j_iconst (v := 0) h (by decide) dX9_isAt_24 ?_
      exact jm_zret h hq rfl dX9_isAt_25 (0, 1) [0, 1] rfl (by decide) ⟨rfl, (show 0 ≤ 1 by first | assumption | omega)⟩ (Nat.le_of_ble_eq_true rfl) (Nat.le_of_ble_eq_true rfl)
set_option maxHeartbeats 4000000 in
set_option maxRecDepth 100000 in
theorem s_X9_isAtName (lau : Launch) (gg : va_G) (kA : Nat → ClassId) (t : Nat) (t0 : Nat) (tsz : Nat) (tkd : Int32) (tpl : Int32) (tbh : Int32) (twd : Int64) (tnu : Int32) (tby : Nat → Int32) (htsz : tsz ≤ 1600) : CtI lau yX9_isAtName cX9_isAtName 1 (some .boolean) 6 0 0 gg kA [.ref t] (mflat [(t, .inl (.inr (9, [.ref t0, .int (nI tsz), .int tkd, .int tpl, .int tbh, .long twd, .int tnu]))), (t0, .inl (.inl (kA 0, 1600, .inl tby)))]) (S := Nat × Int32) (fun (r : Int32) ((y_r, y_t_2) : Nat × Int32) => r = nI y_r ∧ (y_r ≤ 1)) (fun ((y_r, y_t_2) : Nat × Int32) => mflat [(t, .inl (.inr (9, [.ref t0, .int (nI tsz), .int y_t_2, .int tpl, .int tbh, .long twd, .int tnu]))), (t0, .inl (.inl (kA 0, 1600, .inl tby)))]) := by
  refine nx_startI (by decide +kernel) (Nat.le_of_ble_eq_true rfl) ?_
  intro x hnm h hq
  have h : Ok x cX9_isAtName RX9 kA (rmC 6 0 0) 1 := h
  show J x (mflat [(t, .inl (.inr (9, [.ref t0, .int (nI tsz), .int tkd, .int tpl, .int tbh, .long twd, .int tnu]))), (t0, .inl (.inl (kA 0, 1600, .inl tby)))]) [(0, .ref t)] 0 0 0 []
  refine j_aload_n h 0 rfl rfl dX9_isAtName_0 ?_
  refine jm_get h iw_X9 0 rfl rfl 2 (by decide) tw_125 rfl dX9_isAtName_1 ?_
  refine j_iconst (v := 1) h (by decide) dX9_isAtName_4 ?_
  refine j_icmp_ne h 102 dX9_isAtName_5 (by decide) (fun z6346 => ?_) (fun z6346 => ?_)
  · show J x (mflat [(t, .inl (.inr (9, [.ref t0, .int (nI tsz), .int tkd, .int tpl, .int tbh, .long twd, .int tnu]))), (t0, .inl (.inl (kA 0, 1600, .inl tby)))]) [(0, .ref t)] 0 0 102 []
    refine j_iconst (v := 0) h (by decide) dX9_isAtName_102 ?_
    exact jm_zret h hq rfl dX9_isAtName_103 (0, tkd) [0, 1] rfl (by decide) ⟨rfl, (show 0 ≤ 1 by first | assumption | omega)⟩ (Nat.le_of_ble_eq_true rfl) (Nat.le_of_ble_eq_true rfl)
  · subst z6346
    show J x (mflat [(t, .inl (.inr (9, [.ref t0, .int (nI tsz), .int 1, .int tpl, .int tbh, .long twd, .int tnu]))), (t0, .inl (.inl (kA 0, 1600, .inl tby)))]) [(0, .ref t)] 0 0 8 []
    refine j_aload_n h 0 rfl rfl dX9_isAtName_8 ?_
    refine j_ldcS h 1 (by decide) rfl rfl dX9_isAtName_9 ?_
    refine jm_callVi (np := 1) (isC := [0, 1]) (isR := []) (wc := [(t, .inl (.inr (9, [.ref t0, .int (nI tsz), .int 1, .int tpl, .int tbh, .long twd, .int tnu]))), (t0, .inl (.inl (kA 0, 1600, .inl tby)))]) (wr := []) (rest := []) (As := [.ref (kA (100 + 1))]) (q0 := 0) h (s_X9_isAt _ _ kA t 1 t0 tsz 1 tpl tbh twd tnu tby (show tsz ≤ 1600 by first | assumption | omega) (show 1 < 20 by first | assumption | omega)) tw_661 tw_592 tw_593 tw_88 tw_594 (by decide +kernel) rfl ⟨Nat.le_of_ble_eq_true rfl, Nat.le_of_ble_eq_true rfl⟩ rfl rfl (by decide) rfl rfl (by decide) (by decide) (Nat.le_of_ble_eq_true rfl) rfl ⟨Nat.le_of_ble_eq_true rfl, Nat.le_of_ble_eq_true rfl⟩ dX9_isAtName_11 ?_
    rintro r6350 ⟨q6347, q6348⟩ e6349
    obtain ⟨p6351, p6352⟩ := e6349
    subst p6351
    replace p6352 : q6347 ≤ 1 := p6352
    show J x (mflat [(t, .inl (.inr (9, [.ref t0, .int (nI tsz), .int q6348, .int tpl, .int tbh, .long twd, .int tnu]))), (t0, .inl (.inl (kA 0, 1600, .inl tby)))]) [(0, .ref t)] 0 0 14 [.int (nI q6347)]
    refine j_if_ne h 102 dX9_isAtName_14 (by decide) (fun z6353 => ?_) (fun z6353 => ?_)
    · have z6353n : ¬ q6347 = 0 := fun q9 => z6353 ((nI_eq (a := q6347) (b := 0) (by omega) (by omega)).mpr q9)
      refine j_iconst (v := 0) h (by decide) dX9_isAtName_102 ?_
      exact jm_zret h hq rfl dX9_isAtName_103 (0, q6348) [0, 1] rfl (by decide) ⟨rfl, (show 0 ≤ 1 by first | assumption | omega)⟩ (Nat.le_of_ble_eq_true rfl) (Nat.le_of_ble_eq_true rfl)
    · have z6353n : q6347 = 0 := (nI_eq (a := q6347) (b := 0) (by omega) (by omega)).mp z6353
      refine j_aload_n h 0 rfl rfl dX9_isAtName_17 ?_
      refine j_ldcS h 2 (by decide) rfl rfl dX9_isAtName_18 ?_
      refine jm_callVi (np := 1) (isC := [0, 1]) (isR := []) (wc := [(t, .inl (.inr (9, [.ref t0, .int (nI tsz), .int q6348, .int tpl, .int tbh, .long twd, .int tnu]))), (t0, .inl (.inl (kA 0, 1600, .inl tby)))]) (wr := []) (rest := []) (As := [.ref (kA (100 + 2))]) (q0 := 0) h (s_X9_isAt _ _ kA t 2 t0 tsz q6348 tpl tbh twd tnu tby (show tsz ≤ 1600 by first | assumption | omega) (show 2 < 20 by first | assumption | omega)) tw_661 tw_592 tw_593 tw_88 tw_594 (by decide +kernel) rfl ⟨Nat.le_of_ble_eq_true rfl, Nat.le_of_ble_eq_true rfl⟩ rfl rfl (by decide) rfl rfl (by decide) (by decide) (Nat.le_of_ble_eq_true rfl) rfl ⟨Nat.le_of_ble_eq_true rfl, Nat.le_of_ble_eq_true rfl⟩ dX9_isAtName_20 ?_
      rintro r6357 ⟨q6354, q6355⟩ e6356
      obtain ⟨p6358, p6359⟩ := e6356
      subst p6358
      replace p6359 : q6354 ≤ 1 := p6359
      show J x (mflat [(t, .inl (.inr (9, [.ref t0, .int (nI tsz), .int q6355, .int tpl, .int tbh, .long twd, .int tnu]))), (t0, .inl (.inl (kA 0, 1600, .inl tby)))]) [(0, .ref t)] 0 0 23 [.int (nI q6354)]
      refine j_if_ne h 102 dX9_isAtName_23 (by decide) (fun z6360 => ?_) (fun z6360 => ?_)
      · have z6360n : ¬ q6354 = 0 := fun q9 => z6360 ((nI_eq (a := q6354) (b := 0) (by omega) (by omega)).mpr q9)
        refine j_iconst (v := 0) h (by decide) dX9_isAtName_102 ?_
        exact jm_zret h hq rfl dX9_isAtName_103 (0, q6355) [0, 1] rfl (by decide) ⟨rfl, (show 0 ≤ 1 by first | assumption | omega)⟩ (Nat.le_of_ble_eq_true rfl) (Nat.le_of_ble_eq_true rfl)
      · have z6360n : q6354 = 0 := (nI_eq (a := q6354) (b := 0) (by omega) (by omega)).mp z6360
        refine j_aload_n h 0 rfl rfl dX9_isAtName_26 ?_
        refine j_ldcS h 3 (by decide) rfl rfl dX9_isAtName_27 ?_
        refine jm_callVi (np := 1) (isC := [0, 1]) (isR := []) (wc := [(t, .inl (.inr (9, [.ref t0, .int (nI tsz), .int q6355, .int tpl, .int tbh, .long twd, .int tnu]))), (t0, .inl (.inl (kA 0, 1600, .inl tby)))]) (wr := []) (rest := []) (As := [.ref (kA (100 + 3))]) (q0 := 0) h (s_X9_isAt _ _ kA t 3 t0 tsz q6355 tpl tbh twd tnu tby (show tsz ≤ 1600 by first | assumption | omega) (show 3 < 20 by first | assumption | omega)) tw_661 tw_592 tw_593 tw_88 tw_594 (by decide +kernel) rfl ⟨Nat.le_of_ble_eq_true rfl, Nat.le_of_ble_eq_true rfl⟩ rfl rfl (by decide) rfl rfl (by decide) (by decide) (Nat.le_of_ble_eq_true rfl) rfl ⟨Nat.le_of_ble_eq_true rfl, Nat.le_of_ble_eq_true rfl⟩ dX9_isAtName_29 ?_
        rintro r6364 ⟨q6361, q6362⟩ e6363
        obtain ⟨p6365, p6366⟩ := e6363
        subst p6365
        replace p6366 : q6361 ≤ 1 := p6366
        show J x (mflat [(t, .inl (.inr (9, [.ref t0, .int (nI tsz), .int q6362, .int tpl, .int tbh, .long twd, .int tnu]))), (t0, .inl (.inl (kA 0, 1600, .inl tby)))]) [(0, .ref t)] 0 0 32 [.int (nI q6361)]
        refine j_if_ne h 102 dX9_isAtName_32 (by decide) (fun z6367 => ?_) (fun z6367 => ?_)
        · have z6367n : ¬ q6361 = 0 := fun q9 => z6367 ((nI_eq (a := q6361) (b := 0) (by omega) (by omega)).mpr q9)
          refine j_iconst (v := 0) h (by decide) dX9_isAtName_102 ?_
          exact jm_zret h hq rfl dX9_isAtName_103 (0, q6362) [0, 1] rfl (by decide) ⟨rfl, (show 0 ≤ 1 by first | assumption | omega)⟩ (Nat.le_of_ble_eq_true rfl) (Nat.le_of_ble_eq_true rfl)
        · have z6367n : q6361 = 0 := (nI_eq (a := q6361) (b := 0) (by omega) (by omega)).mp z6367
          refine j_aload_n h 0 rfl rfl dX9_isAtName_35 ?_
          refine j_ldcS h 4 (by decide) rfl rfl dX9_isAtName_36 ?_
          refine jm_callVi (np := 1) (isC := [0, 1]) (isR := []) (wc := [(t, .inl (.inr (9, [.ref t0, .int (nI tsz), .int q6362, .int tpl, .int tbh, .long twd, .int tnu]))), (t0, .inl (.inl (kA 0, 1600, .inl tby)))]) (wr := []) (rest := []) (As := [.ref (kA (100 + 4))]) (q0 := 0) h (s_X9_isAt _ _ kA t 4 t0 tsz q6362 tpl tbh twd tnu tby (show tsz ≤ 1600 by first | assumption | omega) (show 4 < 20 by first | assumption | omega)) tw_661 tw_592 tw_593 tw_88 tw_594 (by decide +kernel) rfl ⟨Nat.le_of_ble_eq_true rfl, Nat.le_of_ble_eq_true rfl⟩ rfl rfl (by decide) rfl rfl (by decide) (by decide) (Nat.le_of_ble_eq_true rfl) rfl ⟨Nat.le_of_ble_eq_true rfl, Nat.le_of_ble_eq_true rfl⟩ dX9_isAtName_38 ?_
          rintro r6371 ⟨q6368, q6369⟩ e6370
          obtain ⟨p6372, p6373⟩ := e6370
          subst p6372
          replace p6373 : q6368 ≤ 1 := p6373
          show J x (mflat [(t, .inl (.inr (9, [.ref t0, .int (nI tsz), .int q6369, .int tpl, .int tbh, .long twd, .int tnu]))), (t0, .inl (.inl (kA 0, 1600, .inl tby)))]) [(0, .ref t)] 0 0 41 [.int (nI q6368)]
          refine j_if_ne h 102 dX9_isAtName_41 (by decide) (fun z6374 => ?_) (fun z6374 => ?_)
          · have z6374n : ¬ q6368 = 0 := fun q9 => z6374 ((nI_eq (a := q6368) (b := 0) (by omega) (by omega)).mpr q9)
            refine j_iconst (v := 0) h (by decide) dX9_isAtName_102 ?_
            exact jm_zret h hq rfl dX9_isAtName_103 (0, q6369) [0, 1] rfl (by decide) ⟨rfl, (show 0 ≤ 1 by first | assumption | omega)⟩ (Nat.le_of_ble_eq_true rfl) (Nat.le_of_ble_eq_true rfl)
          · have z6374n : q6368 = 0 := (nI_eq (a := q6368) (b := 0) (by omega) (by omega)).mp z6374
            refine j_aload_n h 0 rfl rfl dX9_isAtName_44 ?_
            refine j_ldcS h 5 (by decide) rfl rfl dX9_isAtName_45 ?_
            refine jm_callVi (np := 1) (isC := [0, 1]) (isR := []) (wc := [(t, .inl (.inr (9, [.ref t0, .int (nI tsz), .int q6369, .int tpl, .int tbh, .long twd, .int tnu]))), (t0, .inl (.inl (kA 0, 1600, .inl tby)))]) (wr := []) (rest := []) (As := [.ref (kA (100 + 5))]) (q0 := 0) h (s_X9_isAt _ _ kA t 5 t0 tsz q6369 tpl tbh twd tnu tby (show tsz ≤ 1600 by first | assumption | omega) (show 5 < 20 by first | assumption | omega)) tw_661 tw_592 tw_593 tw_88 tw_594 (by decide +kernel) rfl ⟨Nat.le_of_ble_eq_true rfl, Nat.le_of_ble_eq_true rfl⟩ rfl rfl (by decide) rfl rfl (by decide) (by decide) (Nat.le_of_ble_eq_true rfl) rfl ⟨Nat.le_of_ble_eq_true rfl, Nat.le_of_ble_eq_true rfl⟩ dX9_isAtName_47 ?_
            rintro r6378 ⟨q6375, q6376⟩ e6377
            obtain ⟨p6379, p6380⟩ := e6377
            subst p6379
            replace p6380 : q6375 ≤ 1 := p6380
            show J x (mflat [(t, .inl (.inr (9, [.ref t0, .int (nI tsz), .int q6376, .int tpl, .int tbh, .long twd, .int tnu]))), (t0, .inl (.inl (kA 0, 1600, .inl tby)))]) [(0, .ref t)] 0 0 50 [.int (nI q6375)]
            refine j_if_ne h 102 dX9_isAtName_50 (by decide) (fun z6381 => ?_) (fun z6381 => ?_)
            · have z6381n : ¬ q6375 = 0 := fun q9 => z6381 ((nI_eq (a := q6375) (b := 0) (by omega) (by omega)).mpr q9)
              refine j_iconst (v := 0) h (by decide) dX9_isAtName_102 ?_
              exact jm_zret h hq rfl dX9_isAtName_103 (0, q6376) [0, 1] rfl (by decide) ⟨rfl, (show 0 ≤ 1 by first | assumption | omega)⟩ (Nat.le_of_ble_eq_true rfl) (Nat.le_of_ble_eq_true rfl)
            · have z6381n : q6375 = 0 := (nI_eq (a := q6375) (b := 0) (by omega) (by omega)).mp z6381
              refine j_aload_n h 0 rfl rfl dX9_isAtName_53 ?_
              refine j_ldcS h 6 (by decide) rfl rfl dX9_isAtName_54 ?_
              refine jm_callVi (np := 1) (isC := [0, 1]) (isR := []) (wc := [(t, .inl (.inr (9, [.ref t0, .int (nI tsz), .int q6376, .int tpl, .int tbh, .long twd, .int tnu]))), (t0, .inl (.inl (kA 0, 1600, .inl tby)))]) (wr := []) (rest := []) (As := [.ref (kA (100 + 6))]) (q0 := 0) h (s_X9_isAt _ _ kA t 6 t0 tsz q6376 tpl tbh twd tnu tby (show tsz ≤ 1600 by first | assumption | omega) (show 6 < 20 by first | assumption | omega)) tw_661 tw_592 tw_593 tw_88 tw_594 (by decide +kernel) rfl ⟨Nat.le_of_ble_eq_true rfl, Nat.le_of_ble_eq_true rfl⟩ rfl rfl (by decide) rfl rfl (by decide) (by decide) (Nat.le_of_ble_eq_true rfl) rfl ⟨Nat.le_of_ble_eq_true rfl, Nat.le_of_ble_eq_true rfl⟩ dX9_isAtName_56 ?_
              rintro r6385 ⟨q6382, q6383⟩ e6384
              obtain ⟨p6386, p6387⟩ := e6384
              subst p6386
              replace p6387 : q6382 ≤ 1 := p6387
              show J x (mflat [(t, .inl (.inr (9, [.ref t0, .int (nI tsz), .int q6383, .int tpl, .int tbh, .long twd, .int tnu]))), (t0, .inl (.inl (kA 0, 1600, .inl tby)))]) [(0, .ref t)] 0 0 59 [.int (nI q6382)]
              refine j_if_ne h 102 dX9_isAtName_59 (by decide) (fun z6388 => ?_) (fun z6388 => ?_)
              · have z6388n : ¬ q6382 = 0 := fun q9 => z6388 ((nI_eq (a := q6382) (b := 0) (by omega) (by omega)).mpr q9)
                refine j_iconst (v := 0) h (by decide) dX9_isAtName_102 ?_
                exact jm_zret h hq rfl dX9_isAtName_103 (0, q6383) [0, 1] rfl (by decide) ⟨rfl, (show 0 ≤ 1 by first | assumption | omega)⟩ (Nat.le_of_ble_eq_true rfl) (Nat.le_of_ble_eq_true rfl)
              · have z6388n : q6382 = 0 := (nI_eq (a := q6382) (b := 0) (by omega) (by omega)).mp z6388
                refine j_aload_n h 0 rfl rfl dX9_isAtName_62 ?_
                refine j_ldcS h 7 (by decide) rfl rfl dX9_isAtName_63 ?_
                refine jm_callVi (np := 1) (isC := [0, 1]) (isR := []) (wc := [(t, .inl (.inr (9, [.ref t0, .int (nI tsz), .int q6383, .int tpl, .int tbh, .long twd, .int tnu]))), (t0, .inl (.inl (kA 0, 1600, .inl tby)))]) (wr := []) (rest := []) (As := [.ref (kA (100 + 7))]) (q0 := 0) h (s_X9_isAt _ _ kA t 7 t0 tsz q6383 tpl tbh twd tnu tby (show tsz ≤ 1600 by first | assumption | omega) (show 7 < 20 by first | assumption | omega)) tw_661 tw_592 tw_593 tw_88 tw_594 (by decide +kernel) rfl ⟨Nat.le_of_ble_eq_true rfl, Nat.le_of_ble_eq_true rfl⟩ rfl rfl (by decide) rfl rfl (by decide) (by decide) (Nat.le_of_ble_eq_true rfl) rfl ⟨Nat.le_of_ble_eq_true rfl, Nat.le_of_ble_eq_true rfl⟩ dX9_isAtName_65 ?_
                rintro r6392 ⟨q6389, q6390⟩ e6391
                obtain ⟨p6393, p6394⟩ := e6391
                subst p6393
                replace p6394 : q6389 ≤ 1 := p6394
                show J x (mflat [(t, .inl (.inr (9, [.ref t0, .int (nI tsz), .int q6390, .int tpl, .int tbh, .long twd, .int tnu]))), (t0, .inl (.inl (kA 0, 1600, .inl tby)))]) [(0, .ref t)] 0 0 68 [.int (nI q6389)]
                refine j_if_ne h 102 dX9_isAtName_68 (by decide) (fun z6395 => ?_) (fun z6395 => ?_)
                · have z6395n : ¬ q6389 = 0 := fun q9 => z6395 ((nI_eq (a := q6389) (b := 0) (by omega) (by omega)).mpr q9)
                  refine j_iconst (v := 0) h (by decide) dX9_isAtName_102 ?_
                  exact jm_zret h hq rfl dX9_isAtName_103 (0, q6390) [0, 1] rfl (by decide) ⟨rfl, (show 0 ≤ 1 by first | assumption | omega)⟩ (Nat.le_of_ble_eq_true rfl) (Nat.le_of_ble_eq_true rfl)
                · have z6395n : q6389 = 0 := (nI_eq (a := q6389) (b := 0) (by omega) (by omega)).mp z6395
                  refine j_aload_n h 0 rfl rfl dX9_isAtName_71 ?_
                  refine j_ldcS h 8 (by decide) rfl rfl dX9_isAtName_72 ?_
                  refine jm_callVi (np := 1) (isC := [0, 1]) (isR := []) (wc := [(t, .inl (.inr (9, [.ref t0, .int (nI tsz), .int q6390, .int tpl, .int tbh, .long twd, .int tnu]))), (t0, .inl (.inl (kA 0, 1600, .inl tby)))]) (wr := []) (rest := []) (As := [.ref (kA (100 + 8))]) (q0 := 0) h (s_X9_isAt _ _ kA t 8 t0 tsz q6390 tpl tbh twd tnu tby (show tsz ≤ 1600 by first | assumption | omega) (show 8 < 20 by first | assumption | omega)) tw_661 tw_592 tw_593 tw_88 tw_594 (by decide +kernel) rfl ⟨Nat.le_of_ble_eq_true rfl, Nat.le_of_ble_eq_true rfl⟩ rfl rfl (by decide) rfl rfl (by decide) (by decide) (Nat.le_of_ble_eq_true rfl) rfl ⟨Nat.le_of_ble_eq_true rfl, Nat.le_of_ble_eq_true rfl⟩ dX9_isAtName_74 ?_
                  rintro r6399 ⟨q6396, q6397⟩ e6398
                  obtain ⟨p6400, p6401⟩ := e6398
                  subst p6400
                  replace p6401 : q6396 ≤ 1 := p6401
                  show J x (mflat [(t, .inl (.inr (9, [.ref t0, .int (nI tsz), .int q6397, .int tpl, .int tbh, .long twd, .int tnu]))), (t0, .inl (.inl (kA 0, 1600, .inl tby)))]) [(0, .ref t)] 0 0 77 [.int (nI q6396)]
                  refine j_if_ne h 102 dX9_isAtName_77 (by decide) (fun z6402 => ?_) (fun z6402 => ?_)
                  · have z6402n : ¬ q6396 = 0 := fun q9 => z6402 ((nI_eq (a := q6396) (b := 0) (by omega) (by omega)).mpr q9)
                    refine j_iconst (v := 0) h (by decide) dX9_isAtName_102 ?_
                    exact jm_zret h hq rfl dX9_isAtName_103 (0, q6397) [0, 1] rfl (by decide) ⟨rfl, (show 0 ≤ 1 by first | assumption | omega)⟩ (Nat.le_of_ble_eq_true rfl) (Nat.le_of_ble_eq_true rfl)
                  · have z6402n : q6396 = 0 := (nI_eq (a := q6396) (b := 0) (by omega) (by omega)).mp z6402
                    refine j_aload_n h 0 rfl rfl dX9_isAtName_80 ?_
                    refine j_ldcS h 9 (by decide) rfl rfl dX9_isAtName_81 ?_
                    refine jm_callVi (np := 1) (isC := [0, 1]) (isR := []) (wc := [(t, .inl (.inr (9, [.ref t0, .int (nI tsz), .int q6397, .int tpl, .int tbh, .long twd, .int tnu]))), (t0, .inl (.inl (kA 0, 1600, .inl tby)))]) (wr := []) (rest := []) (As := [.ref (kA (100 + 9))]) (q0 := 0) h (s_X9_isAt _ _ kA t 9 t0 tsz q6397 tpl tbh twd tnu tby (show tsz ≤ 1600 by first | assumption | omega) (show 9 < 20 by first | assumption | omega)) tw_661 tw_592 tw_593 tw_88 tw_594 (by decide +kernel) rfl ⟨Nat.le_of_ble_eq_true rfl, Nat.le_of_ble_eq_true rfl⟩ rfl rfl (by decide) rfl rfl (by decide) (by decide) (Nat.le_of_ble_eq_true rfl) rfl ⟨Nat.le_of_ble_eq_true rfl, Nat.le_of_ble_eq_true rfl⟩ dX9_isAtName_83 ?_
                    rintro r6406 ⟨q6403, q6404⟩ e6405
                    obtain ⟨p6407, p6408⟩ := e6405
                    subst p6407
                    replace p6408 : q6403 ≤ 1 := p6408
                    show J x (mflat [(t, .inl (.inr (9, [.ref t0, .int (nI tsz), .int q6404, .int tpl, .int tbh, .long twd, .int tnu]))), (t0, .inl (.inl (kA 0, 1600, .inl tby)))]) [(0, .ref t)] 0 0 86 [.int (nI q6403)]
                    refine j_if_ne h 102 dX9_isAtName_86 (by decide) (fun z6409 => ?_) (fun z6409 => ?_)
                    · have z6409n : ¬ q6403 = 0 := fun q9 => z6409 ((nI_eq (a := q6403) (b := 0) (by omega) (by omega)).mpr q9)
                      refine j_iconst (v := 0) h (by decide) dX9_isAtName_102 ?_
                      exact jm_zret h hq rfl dX9_isAtName_103 (0, q6404) [0, 1] rfl (by decide) ⟨rfl, (show 0 ≤ 1 by first | assumption | omega)⟩ (Nat.le_of_ble_eq_true rfl) (Nat.le_of_ble_eq_true rfl)
                    · have z6409n : q6403 = 0 := (nI_eq (a := q6403) (b := 0) (by omega) (by omega)).mp z6409
                      refine j_aload_n h 0 rfl rfl dX9_isAtName_89 ?_
                      refine j_ldcS h 10 (by decide) rfl rfl dX9_isAtName_90 ?_
                      refine jm_callVi (np := 1) (isC := [0, 1]) (isR := []) (wc := [(t, .inl (.inr (9, [.ref t0, .int (nI tsz), .int q6404, .int tpl, .int tbh, .long twd, .int tnu]))), (t0, .inl (.inl (kA 0, 1600, .inl tby)))]) (wr := []) (rest := []) (As := [.ref (kA (100 + 10))]) (q0 := 0) h (s_X9_isAt _ _ kA t 10 t0 tsz q6404 tpl tbh twd tnu tby (show tsz ≤ 1600 by first | assumption | omega) (show 10 < 20 by first | assumption | omega)) tw_661 tw_592 tw_593 tw_88 tw_594 (by decide +kernel) rfl ⟨Nat.le_of_ble_eq_true rfl, Nat.le_of_ble_eq_true rfl⟩ rfl rfl (by decide) rfl rfl (by decide) (by decide) (Nat.le_of_ble_eq_true rfl) rfl ⟨Nat.le_of_ble_eq_true rfl, Nat.le_of_ble_eq_true rfl⟩ dX9_isAtName_92 ?_
                      rintro r6413 ⟨q6410, q6411⟩ e6412
                      obtain ⟨p6414, p6415⟩ := e6412
                      subst p6414
                      replace p6415 : q6410 ≤ 1 := p6415
                      show J x (mflat [(t, .inl (.inr (9, [.ref t0, .int (nI tsz), .int q6411, .int tpl, .int tbh, .long twd, .int tnu]))), (t0, .inl (.inl (kA 0, 1600, .inl tby)))]) [(0, .ref t)] 0 0 95 [.int (nI q6410)]
                      refine j_if_ne h 102 dX9_isAtName_95 (by decide) (fun z6416 => ?_) (fun z6416 => ?_)
                      · have z6416n : ¬ q6410 = 0 := fun q9 => z6416 ((nI_eq (a := q6410) (b := 0) (by omega) (by omega)).mpr q9)
                        refine j_iconst (v := 0) h (by decide) dX9_isAtName_102 ?_
                        exact jm_zret h hq rfl dX9_isAtName_103 (0, q6411) [0, 1] rfl (by decide) ⟨rfl, (show 0 ≤ 1 by first | assumption | omega)⟩ (Nat.le_of_ble_eq_true rfl) (Nat.le_of_ble_eq_true rfl)
                      · have z6416n : q6410 = 0 := (nI_eq (a := q6410) (b := 0) (by omega) (by omega)).mp z6416
                        refine j_iconst (v := 1) h (by decide) dX9_isAtName_98 ?_
                        refine j_goto h 103 dX9_isAtName_99 (by decide) ?_
                        exact jm_zret h hq rfl dX9_isAtName_103 (1, q6411) [0, 1] rfl (by decide) ⟨rfl, (show 1 ≤ 1 by first | assumption | omega)⟩ (Nat.le_of_ble_eq_true rfl) (Nat.le_of_ble_eq_true rfl)
