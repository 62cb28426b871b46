theorem dJ7_fill_53178_0 : decode cJ7_fill_53178 0 = .ok (.iconst 0, 1) := by decide +kernel
theorem dJ7_fill_53178_1 : decode cJ7_fill_53178 1 = .ok (.istore_n 2, 1) := by decide +kernel
theorem dJ7_fill_53178_2 : decode cJ7_fill_53178 2 = .ok (.aload_n 0, 1) := by decide +kernel
theorem dJ7_fill_53178_3 : decode cJ7_fill_53178 3 = .ok (.arraylength, 1) := by decide +kernel
theorem dJ7_fill_53178_4 : decode cJ7_fill_53178 4 = .ok (.istore_n 3, 1) := by decide +kernel
theorem dJ7_fill_53178_5 : decode cJ7_fill_53178 5 = .ok (.iload_n 2, 1) := by decide +kernel
theorem dJ7_fill_53178_6 : decode cJ7_fill_53178 6 = .ok (.iload_n 3, 1) := by decide +kernel
theorem dJ7_fill_53178_7 : decode cJ7_fill_53178 7 = .ok (.if_icmp .ge 13, 3) := by decide +kernel
theorem dJ7_fill_53178_20 : decode cJ7_fill_53178 20 = .ok (.return_, 1) := by decide +kernel
theorem dJ7_fill_53178_10 : decode cJ7_fill_53178 10 = .ok (.aload_n 0, 1) := by decide +kernel
theorem dJ7_fill_53178_11 : decode cJ7_fill_53178 11 = .ok (.iload_n 2, 1) := by decide +kernel
theorem dJ7_fill_53178_12 : decode cJ7_fill_53178 12 = .ok (.iload_n 1, 1) := by decide +kernel
theorem dJ7_fill_53178_13 : decode cJ7_fill_53178 13 = .ok (.iastore, 1) := by decide +kernel
theorem dJ7_fill_53178_14 : decode cJ7_fill_53178 14 = .ok (.iinc 2 1, 3) := by decide +kernel
theorem dJ7_fill_53178_17 : decode cJ7_fill_53178 17 = .ok (.goto (-12), 3) := by decide +kernel
theorem dX0_open_0 : decode cX0_open 0 = .ok (.iconst 0, 1) := by decide +kernel
theorem dX0_open_1 : decode cX0_open 1 = .ok (.istore_n 1, 1) := by decide +kernel
theorem dX0_open_2 : decode cX0_open 2 = .ok (.iload_n 1, 1) := by decide +kernel
theorem dX0_open_3 : decode cX0_open 3 = .ok (.iconst 4, 1) := by decide +kernel
theorem dX0_open_4 : decode cX0_open 4 = .ok (.if_icmp .ge 16, 3) := by decide +kernel
theorem dX0_open_7 : decode cX0_open 7 = .ok (.aload_n 0, 1) := by decide +kernel
theorem dX0_open_8 : decode cX0_open 8 = .ok (.getfield 19, 3) := by decide +kernel
theorem iw_X0 : ∀ w ∈ u_ws RX0 TX0 3, w ∈ TT := nx_mems _ [360, 362, 364] (by decide +kernel) (by decide +kernel)
theorem tw_359 : Cond.fieldLink RX0 19 "LimpCode$Bounds" "narrowed" "[Z" ∈ TT := nx_mem 359 (by decide +kernel) (by decide +kernel)
theorem dX0_open_11 : decode cX0_open 11 = .ok (.iload_n 1, 1) := by decide +kernel
theorem dX0_open_12 : decode cX0_open 12 = .ok (.iconst 0, 1) := by decide +kernel
theorem dX0_open_13 : decode cX0_open 13 = .ok (.bastore, 1) := by decide +kernel
theorem dX0_open_14 : decode cX0_open 14 = .ok (.iinc 1 1, 3) := by decide +kernel
theorem dX0_open_17 : decode cX0_open 17 = .ok (.goto (-15), 3) := by decide +kernel
theorem dX0_open_20 : decode cX0_open 20 = .ok (.return_, 1) := by decide +kernel
theorem dX0_narrow_0 : decode cX0_narrow 0 = .ok (.iload_n 1, 1) := by decide +kernel
theorem dX0_narrow_1 : decode cX0_narrow 1 = .ok (.ifCond .lt 18, 3) := by decide +kernel
theorem dX0_narrow_19 : decode cX0_narrow 19 = .ok (.return_, 1) := by decide +kernel
theorem dX0_narrow_4 : decode cX0_narrow 4 = .ok (.iload_n 1, 1) := by decide +kernel
theorem dX0_narrow_5 : decode cX0_narrow 5 = .ok (.iconst 4, 1) := by decide +kernel
theorem dX0_narrow_6 : decode cX0_narrow 6 = .ok (.if_icmp .ge 13, 3) := by decide +kernel
theorem dX0_narrow_9 : decode cX0_narrow 9 = .ok (.iload_n 2, 1) := by decide +kernel
theorem dX0_narrow_10 : decode cX0_narrow 10 = .ok (.ifCond .lt 9, 3) := by decide +kernel
theorem dX0_narrow_13 : decode cX0_narrow 13 = .ok (.iload_n 2, 1) := by decide +kernel
theorem dX0_narrow_14 : decode cX0_narrow 14 = .ok (.bipush 60, 2) := by decide +kernel
theorem dX0_narrow_16 : decode cX0_narrow 16 = .ok (.if_icmp .lt 4, 3) := by decide +kernel
theorem dX0_narrow_20 : decode cX0_narrow 20 = .ok (.aload_n 0, 1) := by decide +kernel
theorem dX0_narrow_21 : decode cX0_narrow 21 = .ok (.getfield 19, 3) := by decide +kernel
theorem dX0_narrow_24 : decode cX0_narrow 24 = .ok (.iload_n 1, 1) := by decide +kernel
theorem dX0_narrow_25 : decode cX0_narrow 25 = .ok (.baload, 1) := by decide +kernel
theorem dX0_narrow_26 : decode cX0_narrow 26 = .ok (.ifCond .ne 31, 3) := by decide +kernel
theorem dX0_narrow_57 : decode cX0_narrow 57 = .ok (.aload_n 0, 1) := by decide +kernel
theorem dX0_narrow_58 : decode cX0_narrow 58 = .ok (.getfield 11, 3) := by decide +kernel
theorem tw_357 : Cond.fieldLink RX0 11 "LimpCode$Bounds" "least" "[[I" ∈ TT := nx_mem 357 (by decide +kernel) (by decide +kernel)
theorem dX0_narrow_61 : decode cX0_narrow 61 = .ok (.iload_n 1, 1) := by decide +kernel
theorem dX0_narrow_62 : decode cX0_narrow 62 = .ok (.aaload, 1) := by decide +kernel
theorem dX0_narrow_63 : decode cX0_narrow 63 = .ok (.iload_n 2, 1) := by decide +kernel
theorem dX0_narrow_64 : decode cX0_narrow 64 = .ok (.aload_n 0, 1) := by decide +kernel
theorem dX0_narrow_65 : decode cX0_narrow 65 = .ok (.getfield 11, 3) := by decide +kernel
theorem dX0_narrow_68 : decode cX0_narrow 68 = .ok (.iload_n 1, 1) := by decide +kernel
theorem dX0_narrow_69 : decode cX0_narrow 69 = .ok (.aaload, 1) := by decide +kernel
theorem dX0_narrow_70 : decode cX0_narrow 70 = .ok (.iload_n 2, 1) := by decide +kernel
theorem dX0_narrow_71 : decode cX0_narrow 71 = .ok (.iaload, 1) := by decide +kernel
theorem dX0_narrow_72 : decode cX0_narrow 72 = .ok (.iload_n 3, 1) := by decide +kernel
theorem dX0_narrow_73 : decode cX0_narrow 73 = .ok (.invokestatic 29, 3) := by decide +kernel
theorem tw_831 : Cond.methodLink RX0 29 yJ9_max_7cf53 ∈ TT := nx_mem 831 (by decide +kernel) (by decide +kernel)
theorem dX0_narrow_76 : decode cX0_narrow 76 = .ok (.iastore, 1) := by decide +kernel
theorem dX0_narrow_77 : decode cX0_narrow 77 = .ok (.aload_n 0, 1) := by decide +kernel
theorem dX0_narrow_78 : decode cX0_narrow 78 = .ok (.getfield 16, 3) := by decide +kernel
theorem tw_358 : Cond.fieldLink RX0 16 "LimpCode$Bounds" "most" "[[I" ∈ TT := nx_mem 358 (by decide +kernel) (by decide +kernel)
theorem dX0_narrow_81 : decode cX0_narrow 81 = .ok (.iload_n 1, 1) := by decide +kernel
theorem dX0_narrow_82 : decode cX0_narrow 82 = .ok (.aaload, 1) := by decide +kernel
theorem dX0_narrow_83 : decode cX0_narrow 83 = .ok (.iload_n 2, 1) := by decide +kernel
theorem dX0_narrow_84 : decode cX0_narrow 84 = .ok (.aload_n 0, 1) := by decide +kernel
theorem dX0_narrow_85 : decode cX0_narrow 85 = .ok (.getfield 16, 3) := by decide +kernel
theorem dX0_narrow_88 : decode cX0_narrow 88 = .ok (.iload_n 1, 1) := by decide +kernel
theorem dX0_narrow_89 : decode cX0_narrow 89 = .ok (.aaload, 1) := by decide +kernel
theorem dX0_narrow_90 : decode cX0_narrow 90 = .ok (.iload_n 2, 1) := by decide +kernel
theorem dX0_narrow_91 : decode cX0_narrow 91 = .ok (.iaload, 1) := by decide +kernel
theorem dX0_narrow_92 : decode cX0_narrow 92 = .ok (.iload 4, 2) := by decide +kernel
theorem dX0_narrow_94 : decode cX0_narrow 94 = .ok (.invokestatic 35, 3) := by decide +kernel
theorem tw_832 : Cond.methodLink RX0 35 yJ9_min_7cf53 ∈ TT := nx_mem 832 (by decide +kernel) (by decide +kernel)
theorem dX0_narrow_97 : decode cX0_narrow 97 = .ok (.iastore, 1) := by decide +kernel
theorem dX0_narrow_98 : decode cX0_narrow 98 = .ok (.return_, 1) := by decide +kernel
theorem dX0_narrow_29 : decode cX0_narrow 29 = .ok (.aload_n 0, 1) := by decide +kernel
theorem dX0_narrow_30 : decode cX0_narrow 30 = .ok (.getfield 19, 3) := by decide +kernel
theorem dX0_narrow_33 : decode cX0_narrow 33 = .ok (.iload_n 1, 1) := by decide +kernel
theorem dX0_narrow_34 : decode cX0_narrow 34 = .ok (.iconst 1, 1) := by decide +kernel
theorem dX0_narrow_35 : decode cX0_narrow 35 = .ok (.bastore, 1) := by decide +kernel
theorem dX0_narrow_36 : decode cX0_narrow 36 = .ok (.aload_n 0, 1) := by decide +kernel
theorem dX0_narrow_37 : decode cX0_narrow 37 = .ok (.getfield 11, 3) := by decide +kernel
theorem dX0_narrow_40 : decode cX0_narrow 40 = .ok (.iload_n 1, 1) := by decide +kernel
theorem dX0_narrow_41 : decode cX0_narrow 41 = .ok (.aaload, 1) := by decide +kernel
theorem dX0_narrow_42 : decode cX0_narrow 42 = .ok (.iconst 0, 1) := by decide +kernel
theorem dX0_narrow_43 : decode cX0_narrow 43 = .ok (.invokestatic 23, 3) := by decide +kernel
theorem tw_828 : Cond.methodLink RX0 23 yJ7_fill_53178 ∈ TT := nx_mem 828 (by decide +kernel) (by decide +kernel)
theorem tw_829 : Cond.static yJ7_fill_53178 ∈ TT := nx_mem 829 (by decide +kernel) (by decide +kernel)
theorem tw_106 : Cond.initialized RJ7 ∈ TT := nx_mem 106 (by decide +kernel) (by decide +kernel)
theorem tw_830 : Cond.code yJ7_fill_53178 cJ7_fill_53178 4 none ∈ TT := nx_mem 830 (by decide +kernel) (by decide +kernel)
theorem dX0_narrow_46 : decode cX0_narrow 46 = .ok (.aload_n 0, 1) := by decide +kernel
theorem dX0_narrow_47 : decode cX0_narrow 47 = .ok (.getfield 16, 3) := by decide +kernel
theorem dX0_narrow_50 : decode cX0_narrow 50 = .ok (.iload_n 1, 1) := by decide +kernel
theorem dX0_narrow_51 : decode cX0_narrow 51 = .ok (.aaload, 1) := by decide +kernel
theorem dX0_narrow_52 : decode cX0_narrow 52 = .ok (.bipush 9, 2) := by decide +kernel
theorem dX0_narrow_54 : decode cX0_narrow 54 = .ok (.invokestatic 23, 3) := by decide +kernel
theorem dX0_fix_0 : decode cX0_fix 0 = .ok (.iconst 0, 1) := by decide +kernel
theorem dX0_fix_1 : decode cX0_fix 1 = .ok (.istore 4, 2) := by decide +kernel
theorem dX0_fix_3 : decode cX0_fix 3 = .ok (.iload 4, 2) := by decide +kernel
theorem dX0_fix_5 : decode cX0_fix 5 = .ok (.iload_n 3, 1) := by decide +kernel
theorem dX0_fix_6 : decode cX0_fix 6 = .ok (.if_icmp .ge 31, 3) := by decide +kernel
theorem dX0_fix_37 : decode cX0_fix 37 = .ok (.return_, 1) := by decide +kernel
theorem dX0_fix_9 : decode cX0_fix 9 = .ok (.iload 4, 2) := by decide +kernel
theorem dX0_fix_11 : decode cX0_fix 11 = .ok (.aload_n 2, 1) := by decide +kernel
theorem dX0_fix_12 : decode cX0_fix 12 = .ok (.arraylength, 1) := by decide +kernel
theorem dX0_fix_13 : decode cX0_fix 13 = .ok (.if_icmp .ge 24, 3) := by decide +kernel
theorem dX0_fix_16 : decode cX0_fix 16 = .ok (.aload_n 0, 1) := by decide +kernel
theorem dX0_fix_17 : decode cX0_fix 17 = .ok (.iload_n 1, 1) := by decide +kernel
theorem dX0_fix_18 : decode cX0_fix 18 = .ok (.iload 4, 2) := by decide +kernel
theorem dX0_fix_20 : decode cX0_fix 20 = .ok (.aload_n 2, 1) := by decide +kernel
theorem dX0_fix_21 : decode cX0_fix 21 = .ok (.iload 4, 2) := by decide +kernel
theorem dX0_fix_23 : decode cX0_fix 23 = .ok (.iaload, 1) := by decide +kernel
theorem dX0_fix_24 : decode cX0_fix 24 = .ok (.aload_n 2, 1) := by decide +kernel
theorem dX0_fix_25 : decode cX0_fix 25 = .ok (.iload 4, 2) := by decide +kernel
theorem dX0_fix_27 : decode cX0_fix 27 = .ok (.iaload, 1) := by decide +kernel
theorem dX0_fix_28 : decode cX0_fix 28 = .ok (.invokevirtual 38, 3) := by decide +kernel
theorem tw_824 : Cond.methodLink RX0 38 yX0_narrow ∈ TT := nx_mem 824 (by decide +kernel) (by decide +kernel)
theorem tw_825 : Cond.instanceMethod yX0_narrow ∈ TT := nx_mem 825 (by decide +kernel) (by decide +kernel)
theorem tw_826 : Cond.selects RX0 yX0_narrow yX0_narrow ∈ TT := nx_mem 826 (by decide +kernel) (by decide +kernel)
theorem tw_94 : Cond.initialized RX0 ∈ TT := nx_mem 94 (by decide +kernel) (by decide +kernel)
theorem tw_827 : Cond.code yX0_narrow cX0_narrow 5 none ∈ TT := nx_mem 827 (by decide +kernel) (by decide +kernel)
theorem dX0_fix_31 : decode cX0_fix 31 = .ok (.iinc 4 1, 3) := by decide +kernel
theorem dX0_fix_34 : decode cX0_fix 34 = .ok (.goto (-31), 3) := by decide +kernel
theorem dX0_areQuiet_0 : decode cX0_areQuiet 0 = .ok (.iload_n 2, 1) := by decide +kernel
theorem dX0_areQuiet_1 : decode cX0_areQuiet 1 = .ok (.istore 4, 2) := by decide +kernel
theorem dX0_areQuiet_3 : decode cX0_areQuiet 3 = .ok (.iload 4, 2) := by decide +kernel
theorem dX0_areQuiet_5 : decode cX0_areQuiet 5 = .ok (.iload_n 3, 1) := by decide +kernel
theorem dX0_areQuiet_6 : decode cX0_areQuiet 6 = .ok (.if_icmp .ge 30, 3) := by decide +kernel
theorem dX0_areQuiet_36 : decode cX0_areQuiet 36 = .ok (.iconst 1, 1) := by decide +kernel
theorem dX0_areQuiet_37 : decode cX0_areQuiet 37 = .ok (.ireturn, 1) := by decide +kernel
theorem dX0_areQuiet_9 : decode cX0_areQuiet 9 = .ok (.iload 4, 2) := by decide +kernel
theorem dX0_areQuiet_11 : decode cX0_areQuiet 11 = .ok (.bipush 60, 2) := by decide +kernel
theorem dX0_areQuiet_13 : decode cX0_areQuiet 13 = .ok (.if_icmp .ge 23, 3) := by decide +kernel
theorem dX0_areQuiet_16 : decode cX0_areQuiet 16 = .ok (.aload_n 0, 1) := by decide +kernel
theorem dX0_areQuiet_17 : decode cX0_areQuiet 17 = .ok (.getfield 11, 3) := by decide +kernel
theorem dX0_areQuiet_20 : decode cX0_areQuiet 20 = .ok (.iload_n 1, 1) := by decide +kernel
theorem dX0_areQuiet_21 : decode cX0_areQuiet 21 = .ok (.aaload, 1) := by decide +kernel
theorem dX0_areQuiet_22 : decode cX0_areQuiet 22 = .ok (.iload 4, 2) := by decide +kernel
theorem dX0_areQuiet_24 : decode cX0_areQuiet 24 = .ok (.iaload, 1) := by decide +kernel
theorem dX0_areQuiet_25 : decode cX0_areQuiet 25 = .ok (.ifCond .le 5, 3) := by decide +kernel
theorem dX0_areQuiet_30 : decode cX0_areQuiet 30 = .ok (.iinc 4 1, 3) := by decide +kernel
theorem dX0_areQuiet_33 : decode cX0_areQuiet 33 = .ok (.goto (-30), 3) := by decide +kernel
theorem dX0_areQuiet_28 : decode cX0_areQuiet 28 = .ok (.iconst 0, 1) := by decide +kernel
theorem dX0_areQuiet_29 : decode cX0_areQuiet 29 = .ok (.ireturn, 1) := by decide +kernel
theorem dX0_areQuietFrom_0 : decode cX0_areQuietFrom 0 = .ok (.iconst 0, 1) := by decide +kernel
theorem dX0_areQuietFrom_1 : decode cX0_areQuietFrom 1 = .ok (.istore_n 2, 1) := by decide +kernel
theorem dX0_areQuietFrom_2 : decode cX0_areQuietFrom 2 = .ok (.iload_n 2, 1) := by decide +kernel
theorem dX0_areQuietFrom_3 : decode cX0_areQuietFrom 3 = .ok (.iconst 4, 1) := by decide +kernel
theorem dX0_areQuietFrom_4 : decode cX0_areQuietFrom 4 = .ok (.if_icmp .ge 31, 3) := by decide +kernel
theorem dX0_areQuietFrom_7 : decode cX0_areQuietFrom 7 = .ok (.aload_n 0, 1) := by decide +kernel
theorem dX0_areQuietFrom_8 : decode cX0_areQuietFrom 8 = .ok (.getfield 19, 3) := by decide +kernel
theorem dX0_areQuietFrom_11 : decode cX0_areQuietFrom 11 = .ok (.iload_n 2, 1) := by decide +kernel
theorem dX0_areQuietFrom_12 : decode cX0_areQuietFrom 12 = .ok (.baload, 1) := by decide +kernel
theorem dX0_areQuietFrom_13 : decode cX0_areQuietFrom 13 = .ok (.ifCond .eq 16, 3) := by decide +kernel
theorem dX0_areQuietFrom_29 : decode cX0_areQuietFrom 29 = .ok (.iinc 2 1, 3) := by decide +kernel
theorem dX0_areQuietFrom_32 : decode cX0_areQuietFrom 32 = .ok (.goto (-30), 3) := by decide +kernel
theorem dX0_areQuietFrom_16 : decode cX0_areQuietFrom 16 = .ok (.aload_n 0, 1) := by decide +kernel
theorem dX0_areQuietFrom_17 : decode cX0_areQuietFrom 17 = .ok (.iload_n 2, 1) := by decide +kernel
theorem dX0_areQuietFrom_18 : decode cX0_areQuietFrom 18 = .ok (.iload_n 1, 1) := by decide +kernel
theorem dX0_areQuietFrom_19 : decode cX0_areQuietFrom 19 = .ok (.bipush 60, 2) := by decide +kernel
theorem dX0_areQuietFrom_21 : decode cX0_areQuietFrom 21 = .ok (.invokevirtual 42, 3) := by decide +kernel
theorem tw_851 : Cond.methodLink RX0 42 yX0_areQuiet ∈ TT := nx_mem 851 (by decide +kernel) (by decide +kernel)
theorem tw_853 : Cond.instanceMethod yX0_areQuiet ∈ TT := nx_mem 853 (by decide +kernel) (by decide +kernel)
theorem tw_18 : Cond.selects RX0 yX0_areQuiet yX0_areQuiet ∈ TT := nx_mem 18 (by decide +kernel) (by decide +kernel)
theorem tw_854 : Cond.code yX0_areQuiet cX0_areQuiet 5 (some .boolean) ∈ TT := nx_mem 854 (by decide +kernel) (by decide +kernel)
theorem dX0_areQuietFrom_24 : decode cX0_areQuietFrom 24 = .ok (.ifCond .ne 5, 3) := by decide +kernel
theorem dX0_areQuietFrom_27 : decode cX0_areQuietFrom 27 = .ok (.iconst 0, 1) := by decide +kernel
theorem dX0_areQuietFrom_28 : decode cX0_areQuietFrom 28 = .ok (.ireturn, 1) := by decide +kernel
theorem dX0_areQuietFrom_35 : decode cX0_areQuietFrom 35 = .ok (.iconst 1, 1) := by decide +kernel
theorem dX0_areQuietFrom_36 : decode cX0_areQuietFrom 36 = .ok (.ireturn, 1) := by decide +kernel
theorem dX0_costTo_0 : decode cX0_costTo 0 = .ok (.aload_n 0, 1) := by decide +kernel
theorem dX0_costTo_1 : decode cX0_costTo 1 = .ok (.iload_n 1, 1) := by decide +kernel
theorem dX0_costTo_2 : decode cX0_costTo 2 = .ok (.iload 4, 2) := by decide +kernel
theorem dX0_costTo_4 : decode cX0_costTo 4 = .ok (.iconst 1, 1) := by decide +kernel
theorem dX0_costTo_5 : decode cX0_costTo 5 = .ok (.iadd, 1) := by decide +kernel
theorem dX0_costTo_6 : decode cX0_costTo 6 = .ok (.iload 4, 2) := by decide +kernel
theorem dX0_costTo_8 : decode cX0_costTo 8 = .ok (.iload_n 3, 1) := by decide +kernel
theorem dX0_costTo_9 : decode cX0_costTo 9 = .ok (.iadd, 1) := by decide +kernel
theorem dX0_costTo_10 : decode cX0_costTo 10 = .ok (.invokevirtual 42, 3) := by decide +kernel
theorem dX0_costTo_13 : decode cX0_costTo 13 = .ok (.ifCond .eq 16, 3) := by decide +kernel
theorem dX0_costTo_29 : decode cX0_costTo 29 = .ok (.bipush 100, 2) := by decide +kernel
theorem dX0_costTo_31 : decode cX0_costTo 31 = .ok (.ireturn, 1) := by decide +kernel
theorem dX0_costTo_16 : decode cX0_costTo 16 = .ok (.iload_n 2, 1) := by decide +kernel
theorem dX0_costTo_17 : decode cX0_costTo 17 = .ok (.aload_n 0, 1) := by decide +kernel
theorem dX0_costTo_18 : decode cX0_costTo 18 = .ok (.getfield 11, 3) := by decide +kernel
theorem dX0_costTo_21 : decode cX0_costTo 21 = .ok (.iload_n 1, 1) := by decide +kernel
theorem dX0_costTo_22 : decode cX0_costTo 22 = .ok (.aaload, 1) := by decide +kernel
theorem dX0_costTo_23 : decode cX0_costTo 23 = .ok (.iload 4, 2) := by decide +kernel
theorem dX0_costTo_25 : decode cX0_costTo 25 = .ok (.iaload, 1) := by decide +kernel
theorem dX0_costTo_26 : decode cX0_costTo 26 = .ok (.if_icmp .ge 6, 3) := by decide +kernel
theorem dX0_costTo_32 : decode cX0_costTo 32 = .ok (.iload_n 2, 1) := by decide +kernel
theorem dX0_costTo_33 : decode cX0_costTo 33 = .ok (.aload_n 0, 1) := by decide +kernel
theorem dX0_costTo_34 : decode cX0_costTo 34 = .ok (.getfield 16, 3) := by decide +kernel
theorem dX0_costTo_37 : decode cX0_costTo 37 = .ok (.iload_n 1, 1) := by decide +kernel
theorem dX0_costTo_38 : decode cX0_costTo 38 = .ok (.aaload, 1) := by decide +kernel
theorem dX0_costTo_39 : decode cX0_costTo 39 = .ok (.iload 4, 2) := by decide +kernel
theorem dX0_costTo_41 : decode cX0_costTo 41 = .ok (.iaload, 1) := by decide +kernel
theorem dX0_costTo_42 : decode cX0_costTo 42 = .ok (.if_icmp .gt 5, 3) := by decide +kernel
theorem dX0_costTo_47 : decode cX0_costTo 47 = .ok (.aload_n 0, 1) := by decide +kernel
theorem dX0_costTo_48 : decode cX0_costTo 48 = .ok (.getfield 16, 3) := by decide +kernel
theorem dX0_costTo_51 : decode cX0_costTo 51 = .ok (.iload_n 1, 1) := by decide +kernel
theorem dX0_costTo_52 : decode cX0_costTo 52 = .ok (.aaload, 1) := by decide +kernel
theorem dX0_costTo_53 : decode cX0_costTo 53 = .ok (.iload 4, 2) := by decide +kernel
theorem dX0_costTo_55 : decode cX0_costTo 55 = .ok (.iaload, 1) := by decide +kernel
theorem dX0_costTo_56 : decode cX0_costTo 56 = .ok (.ifCond .ne 7, 3) := by decide +kernel
theorem dX0_costTo_63 : decode cX0_costTo 63 = .ok (.bipush 100, 2) := by decide +kernel
theorem dX0_costTo_65 : decode cX0_costTo 65 = .ok (.ireturn, 1) := by decide +kernel
theorem dX0_costTo_59 : decode cX0_costTo 59 = .ok (.iconst 1, 1) := by decide +kernel
theorem dX0_costTo_60 : decode cX0_costTo 60 = .ok (.goto 5, 3) := by decide +kernel
theorem dX0_costTo_45 : decode cX0_costTo 45 = .ok (.iconst 0, 1) := by decide +kernel
theorem dX0_costTo_46 : decode cX0_costTo 46 = .ok (.ireturn, 1) := by decide +kernel
theorem dX0_costOf_0 : decode cX0_costOf 0 = .ok (.iconst 0, 1) := by decide +kernel
theorem dX0_costOf_1 : decode cX0_costOf 1 = .ok (.istore 5, 2) := by decide +kernel
theorem dX0_costOf_3 : decode cX0_costOf 3 = .ok (.iconst 0, 1) := by decide +kernel
theorem dX0_costOf_4 : decode cX0_costOf 4 = .ok (.istore 6, 2) := by decide +kernel
theorem dX0_costOf_6 : decode cX0_costOf 6 = .ok (.iload 6, 2) := by decide +kernel
theorem dX0_costOf_8 : decode cX0_costOf 8 = .ok (.aload_n 1, 1) := by decide +kernel
theorem dX0_costOf_9 : decode cX0_costOf 9 = .ok (.getfield 46, 3) := by decide +kernel
theorem tw_230 : Cond.fieldLink RX0 46 "LimpCode$School" "earCount" "I" ∈ TT := nx_mem 230 (by decide +kernel) (by decide +kernel)
theorem dX0_costOf_12 : decode cX0_costOf 12 = .ok (.if_icmp .ge 44, 3) := by decide +kernel
theorem dX0_costOf_56 : decode cX0_costOf 56 = .ok (.iload 5, 2) := by decide +kernel
theorem dX0_costOf_58 : decode cX0_costOf 58 = .ok (.bipush 100, 2) := by decide +kernel
theorem dX0_costOf_60 : decode cX0_costOf 60 = .ok (.invokestatic 35, 3) := by decide +kernel
theorem dX0_costOf_63 : decode cX0_costOf 63 = .ok (.ireturn, 1) := by decide +kernel
theorem dX0_costOf_15 : decode cX0_costOf 15 = .ok (.iload 5, 2) := by decide +kernel
theorem dX0_costOf_17 : decode cX0_costOf 17 = .ok (.aload_n 0, 1) := by decide +kernel
theorem dX0_costOf_18 : decode cX0_costOf 18 = .ok (.getfield 19, 3) := by decide +kernel
theorem dX0_costOf_21 : decode cX0_costOf 21 = .ok (.iload 6, 2) := by decide +kernel
theorem dX0_costOf_23 : decode cX0_costOf 23 = .ok (.baload, 1) := by decide +kernel
theorem dX0_costOf_24 : decode cX0_costOf 24 = .ok (.ifCond .eq 22, 3) := by decide +kernel
theorem dX0_costOf_46 : decode cX0_costOf 46 = .ok (.iconst 0, 1) := by decide +kernel
theorem dX0_costOf_47 : decode cX0_costOf 47 = .ok (.iadd, 1) := by decide +kernel
theorem dX0_costOf_48 : decode cX0_costOf 48 = .ok (.istore 5, 2) := by decide +kernel
theorem dX0_costOf_50 : decode cX0_costOf 50 = .ok (.iinc 6 1, 3) := by decide +kernel
theorem dX0_costOf_53 : decode cX0_costOf 53 = .ok (.goto (-47), 3) := by decide +kernel
theorem dX0_costOf_27 : decode cX0_costOf 27 = .ok (.aload_n 0, 1) := by decide +kernel
theorem dX0_costOf_28 : decode cX0_costOf 28 = .ok (.iload 6, 2) := by decide +kernel
theorem dX0_costOf_30 : decode cX0_costOf 30 = .ok (.aload_n 1, 1) := by decide +kernel
theorem dX0_costOf_31 : decode cX0_costOf 31 = .ok (.iload_n 2, 1) := by decide +kernel
theorem dX0_costOf_32 : decode cX0_costOf 32 = .ok (.iload 6, 2) := by decide +kernel
theorem dX0_costOf_34 : decode cX0_costOf 34 = .ok (.invokevirtual 52, 3) := by decide +kernel
theorem tw_846 : Cond.methodLink RX0 52 yX5_heardBelow ∈ TT := nx_mem 846 (by decide +kernel) (by decide +kernel)
theorem dX0_costOf_37 : decode cX0_costOf 37 = .ok (.iload_n 3, 1) := by decide +kernel
theorem dX0_costOf_38 : decode cX0_costOf 38 = .ok (.iload 4, 2) := by decide +kernel
theorem dX0_costOf_40 : decode cX0_costOf 40 = .ok (.invokevirtual 55, 3) := by decide +kernel
theorem tw_847 : Cond.methodLink RX0 55 yX0_costTo ∈ TT := nx_mem 847 (by decide +kernel) (by decide +kernel)
theorem tw_849 : Cond.instanceMethod yX0_costTo ∈ TT := nx_mem 849 (by decide +kernel) (by decide +kernel)
theorem tw_17 : Cond.selects RX0 yX0_costTo yX0_costTo ∈ TT := nx_mem 17 (by decide +kernel) (by decide +kernel)
theorem tw_850 : Cond.code yX0_costTo cX0_costTo 5 (some .int) ∈ TT := nx_mem 850 (by decide +kernel) (by decide +kernel)
theorem dX0_costOf_43 : decode cX0_costOf 43 = .ok (.goto 4, 3) := by decide +kernel
theorem dX8_add_0 : decode cX8_add 0 = .ok (.aload_n 0, 1) := by decide +kernel
theorem dX8_add_1 : decode cX8_add 1 = .ok (.getfield 30, 3) := by decide +kernel
theorem iw_X8 : ∀ w ∈ u_ws RX8 TX8 7, w ∈ TT := nx_mems _ [335, 337, 339, 341, 343, 345, 347] (by decide +kernel) (by decide +kernel)
theorem tw_333 : Cond.fieldLink RX8 30 "LimpCode$Sounds" "count" "I" ∈ TT := nx_mem 333 (by decide +kernel) (by decide +kernel)
theorem dX8_add_4 : decode cX8_add 4 = .ok (.bipush 30, 2) := by decide +kernel
theorem dX8_add_6 : decode cX8_add 6 = .ok (.if_icmp .lt 5, 3) := by decide +kernel
theorem dX8_add_11 : decode cX8_add 11 = .ok (.aload_n 0, 1) := by decide +kernel
theorem dX8_add_12 : decode cX8_add 12 = .ok (.getfield 9, 3) := by decide +kernel
theorem tw_327 : Cond.fieldLink RX8 9 "LimpCode$Sounds" "ears" "[I" ∈ TT := nx_mem 327 (by decide +kernel) (by decide +kernel)
theorem dX8_add_15 : decode cX8_add 15 = .ok (.aload_n 0, 1) := by decide +kernel
theorem dX8_add_16 : decode cX8_add 16 = .ok (.getfield 30, 3) := by decide +kernel
theorem dX8_add_19 : decode cX8_add 19 = .ok (.iload_n 1, 1) := by decide +kernel
theorem dX8_add_20 : decode cX8_add 20 = .ok (.iastore, 1) := by decide +kernel
theorem dX8_add_21 : decode cX8_add 21 = .ok (.aload_n 0, 1) := by decide +kernel
theorem dX8_add_22 : decode cX8_add 22 = .ok (.getfield 15, 3) := by decide +kernel
theorem tw_328 : Cond.fieldLink RX8 15 "LimpCode$Sounds" "moments" "[I" ∈ TT := nx_mem 328 (by decide +kernel) (by decide +kernel)
theorem dX8_add_25 : decode cX8_add 25 = .ok (.aload_n 0, 1) := by decide +kernel
theorem dX8_add_26 : decode cX8_add 26 = .ok (.getfield 30, 3) := by decide +kernel
theorem dX8_add_29 : decode cX8_add 29 = .ok (.iload_n 2, 1) := by decide +kernel
theorem dX8_add_30 : decode cX8_add 30 = .ok (.iastore, 1) := by decide +kernel
theorem dX8_add_31 : decode cX8_add 31 = .ok (.aload_n 0, 1) := by decide +kernel
theorem dX8_add_32 : decode cX8_add 32 = .ok (.getfield 18, 3) := by decide +kernel
theorem tw_329 : Cond.fieldLink RX8 18 "LimpCode$Sounds" "leasts" "[I" ∈ TT := nx_mem 329 (by decide +kernel) (by decide +kernel)
theorem dX8_add_35 : decode cX8_add 35 = .ok (.aload_n 0, 1) := by decide +kernel
theorem dX8_add_36 : decode cX8_add 36 = .ok (.getfield 30, 3) := by decide +kernel
theorem dX8_add_39 : decode cX8_add 39 = .ok (.iload_n 3, 1) := by decide +kernel
theorem dX8_add_40 : decode cX8_add 40 = .ok (.iastore, 1) := by decide +kernel
theorem dX8_add_41 : decode cX8_add 41 = .ok (.aload_n 0, 1) := by decide +kernel
theorem dX8_add_42 : decode cX8_add 42 = .ok (.getfield 21, 3) := by decide +kernel
theorem tw_330 : Cond.fieldLink RX8 21 "LimpCode$Sounds" "mosts" "[I" ∈ TT := nx_mem 330 (by decide +kernel) (by decide +kernel)
theorem dX8_add_45 : decode cX8_add 45 = .ok (.aload_n 0, 1) := by decide +kernel
theorem dX8_add_46 : decode cX8_add 46 = .ok (.getfield 30, 3) := by decide +kernel
theorem dX8_add_49 : decode cX8_add 49 = .ok (.iload 4, 2) := by decide +kernel
theorem dX8_add_51 : decode cX8_add 51 = .ok (.iastore, 1) := by decide +kernel
theorem dX8_add_52 : decode cX8_add 52 = .ok (.aload_n 0, 1) := by decide +kernel
theorem dX8_add_53 : decode cX8_add 53 = .ok (.getfield 24, 3) := by decide +kernel
theorem tw_331 : Cond.fieldLink RX8 24 "LimpCode$Sounds" "toldAt" "[I" ∈ TT := nx_mem 331 (by decide +kernel) (by decide +kernel)
theorem dX8_add_56 : decode cX8_add 56 = .ok (.aload_n 0, 1) := by decide +kernel
theorem dX8_add_57 : decode cX8_add 57 = .ok (.getfield 30, 3) := by decide +kernel
theorem dX8_add_60 : decode cX8_add 60 = .ok (.iload 5, 2) := by decide +kernel
theorem dX8_add_62 : decode cX8_add 62 = .ok (.iastore, 1) := by decide +kernel
theorem dX8_add_63 : decode cX8_add 63 = .ok (.aload_n 0, 1) := by decide +kernel
theorem dX8_add_64 : decode cX8_add 64 = .ok (.getfield 27, 3) := by decide +kernel
theorem tw_332 : Cond.fieldLink RX8 27 "LimpCode$Sounds" "untoldAt" "[I" ∈ TT := nx_mem 332 (by decide +kernel) (by decide +kernel)
theorem dX8_add_67 : decode cX8_add 67 = .ok (.aload_n 0, 1) := by decide +kernel
theorem dX8_add_68 : decode cX8_add 68 = .ok (.getfield 30, 3) := by decide +kernel
theorem dX8_add_71 : decode cX8_add 71 = .ok (.ldc 34, 2) := by decide +kernel
theorem tw_1076 : Cond.constant RX8 34 2147483647 ∈ TT := nx_mem 1076 (by decide +kernel) (by decide +kernel)
theorem dX8_add_73 : decode cX8_add 73 = .ok (.iastore, 1) := by decide +kernel
theorem dX8_add_74 : decode cX8_add 74 = .ok (.aload_n 0, 1) := by decide +kernel
theorem dX8_add_75 : decode cX8_add 75 = .ok (.dup, 1) := by decide +kernel
theorem dX8_add_76 : decode cX8_add 76 = .ok (.getfield 30, 3) := by decide +kernel
theorem dX8_add_79 : decode cX8_add 79 = .ok (.iconst 1, 1) := by decide +kernel
theorem dX8_add_80 : decode cX8_add 80 = .ok (.iadd, 1) := by decide +kernel
theorem dX8_add_81 : decode cX8_add 81 = .ok (.putfield 30, 3) := by decide +kernel
theorem dX8_add_84 : decode cX8_add 84 = .ok (.aload_n 0, 1) := by decide +kernel
theorem dX8_add_85 : decode cX8_add 85 = .ok (.getfield 30, 3) := by decide +kernel
theorem dX8_add_88 : decode cX8_add 88 = .ok (.iconst 1, 1) := by decide +kernel
theorem dX8_add_89 : decode cX8_add 89 = .ok (.isub, 1) := by decide +kernel
theorem dX8_add_90 : decode cX8_add 90 = .ok (.ireturn, 1) := by decide +kernel
theorem dX8_add_9 : decode cX8_add 9 = .ok (.iconst (-1), 1) := by decide +kernel
theorem dX8_add_10 : decode cX8_add 10 = .ok (.ireturn, 1) := by decide +kernel
theorem dX8_takeBack_0 : decode cX8_takeBack 0 = .ok (.iload_n 1, 1) := by decide +kernel
theorem dX8_takeBack_1 : decode cX8_takeBack 1 = .ok (.ifCond .lt 22, 3) := by decide +kernel
theorem dX8_takeBack_23 : decode cX8_takeBack 23 = .ok (.iconst 0, 1) := by decide +kernel
theorem dX8_takeBack_24 : decode cX8_takeBack 24 = .ok (.ireturn, 1) := by decide +kernel
theorem dX8_takeBack_4 : decode cX8_takeBack 4 = .ok (.iload_n 1, 1) := by decide +kernel
theorem dX8_takeBack_5 : decode cX8_takeBack 5 = .ok (.aload_n 0, 1) := by decide +kernel
theorem dX8_takeBack_6 : decode cX8_takeBack 6 = .ok (.getfield 30, 3) := by decide +kernel
theorem dX8_takeBack_9 : decode cX8_takeBack 9 = .ok (.if_icmp .ge 14, 3) := by decide +kernel
theorem dX8_takeBack_12 : decode cX8_takeBack 12 = .ok (.aload_n 0, 1) := by decide +kernel
theorem dX8_takeBack_13 : decode cX8_takeBack 13 = .ok (.getfield 27, 3) := by decide +kernel
theorem dX8_takeBack_16 : decode cX8_takeBack 16 = .ok (.iload_n 1, 1) := by decide +kernel
theorem dX8_takeBack_17 : decode cX8_takeBack 17 = .ok (.iaload, 1) := by decide +kernel
theorem dX8_takeBack_18 : decode cX8_takeBack 18 = .ok (.ldc 34, 2) := by decide +kernel
theorem dX8_takeBack_20 : decode cX8_takeBack 20 = .ok (.if_icmp .eq 5, 3) := by decide +kernel
theorem dX8_takeBack_25 : decode cX8_takeBack 25 = .ok (.aload_n 0, 1) := by decide +kernel
theorem dX8_takeBack_26 : decode cX8_takeBack 26 = .ok (.getfield 27, 3) := by decide +kernel
theorem dX8_takeBack_29 : decode cX8_takeBack 29 = .ok (.iload_n 1, 1) := by decide +kernel
theorem dX8_takeBack_30 : decode cX8_takeBack 30 = .ok (.iload_n 2, 1) := by decide +kernel
theorem dX8_takeBack_31 : decode cX8_takeBack 31 = .ok (.iastore, 1) := by decide +kernel
theorem dX8_takeBack_32 : decode cX8_takeBack 32 = .ok (.iconst 1, 1) := by decide +kernel
theorem dX8_takeBack_33 : decode cX8_takeBack 33 = .ok (.ireturn, 1) := by decide +kernel
theorem dX8_narrowAsKnown_0 : decode cX8_narrowAsKnown 0 = .ok (.iconst 0, 1) := by decide +kernel
theorem dX8_narrowAsKnown_1 : decode cX8_narrowAsKnown 1 = .ok (.istore_n 3, 1) := by decide +kernel
theorem dX8_narrowAsKnown_2 : decode cX8_narrowAsKnown 2 = .ok (.iload_n 3, 1) := by decide +kernel
theorem dX8_narrowAsKnown_3 : decode cX8_narrowAsKnown 3 = .ok (.aload_n 0, 1) := by decide +kernel
theorem dX8_narrowAsKnown_4 : decode cX8_narrowAsKnown 4 = .ok (.getfield 30, 3) := by decide +kernel
theorem dX8_narrowAsKnown_7 : decode cX8_narrowAsKnown 7 = .ok (.if_icmp .ge 80, 3) := by decide +kernel
theorem dX8_narrowAsKnown_87 : decode cX8_narrowAsKnown 87 = .ok (.return_, 1) := by decide +kernel
theorem dX8_narrowAsKnown_10 : decode cX8_narrowAsKnown 10 = .ok (.aload_n 0, 1) := by decide +kernel
theorem dX8_narrowAsKnown_11 : decode cX8_narrowAsKnown 11 = .ok (.getfield 27, 3) := by decide +kernel
theorem dX8_narrowAsKnown_14 : decode cX8_narrowAsKnown 14 = .ok (.iload_n 3, 1) := by decide +kernel
theorem dX8_narrowAsKnown_15 : decode cX8_narrowAsKnown 15 = .ok (.iaload, 1) := by decide +kernel
theorem dX8_narrowAsKnown_16 : decode cX8_narrowAsKnown 16 = .ok (.ldc 34, 2) := by decide +kernel
theorem dX8_narrowAsKnown_18 : decode cX8_narrowAsKnown 18 = .ok (.if_icmp .eq 17, 3) := by decide +kernel
theorem dX8_narrowAsKnown_35 : decode cX8_narrowAsKnown 35 = .ok (.iconst 0, 1) := by decide +kernel
theorem dX8_narrowAsKnown_36 : decode cX8_narrowAsKnown 36 = .ok (.istore 4, 2) := by decide +kernel
theorem dX8_narrowAsKnown_38 : decode cX8_narrowAsKnown 38 = .ok (.aload_n 0, 1) := by decide +kernel
theorem dX8_narrowAsKnown_39 : decode cX8_narrowAsKnown 39 = .ok (.getfield 24, 3) := by decide +kernel
theorem dX8_narrowAsKnown_42 : decode cX8_narrowAsKnown 42 = .ok (.iload_n 3, 1) := by decide +kernel
theorem dX8_narrowAsKnown_43 : decode cX8_narrowAsKnown 43 = .ok (.iaload, 1) := by decide +kernel
theorem dX8_narrowAsKnown_44 : decode cX8_narrowAsKnown 44 = .ok (.iload_n 2, 1) := by decide +kernel
theorem dX8_narrowAsKnown_45 : decode cX8_narrowAsKnown 45 = .ok (.if_icmp .gt 36, 3) := by decide +kernel
theorem dX8_narrowAsKnown_81 : decode cX8_narrowAsKnown 81 = .ok (.iinc 3 1, 3) := by decide +kernel
theorem dX8_narrowAsKnown_84 : decode cX8_narrowAsKnown 84 = .ok (.goto (-82), 3) := by decide +kernel
theorem dX8_narrowAsKnown_48 : decode cX8_narrowAsKnown 48 = .ok (.iload 4, 2) := by decide +kernel
theorem dX8_narrowAsKnown_50 : decode cX8_narrowAsKnown 50 = .ok (.ifCond .ne 31, 3) := by decide +kernel
theorem dX8_narrowAsKnown_53 : decode cX8_narrowAsKnown 53 = .ok (.aload_n 1, 1) := by decide +kernel
theorem dX8_narrowAsKnown_54 : decode cX8_narrowAsKnown 54 = .ok (.aload_n 0, 1) := by decide +kernel
theorem dX8_narrowAsKnown_55 : decode cX8_narrowAsKnown 55 = .ok (.getfield 9, 3) := by decide +kernel
theorem dX8_narrowAsKnown_58 : decode cX8_narrowAsKnown 58 = .ok (.iload_n 3, 1) := by decide +kernel
theorem dX8_narrowAsKnown_59 : decode cX8_narrowAsKnown 59 = .ok (.iaload, 1) := by decide +kernel
theorem dX8_narrowAsKnown_60 : decode cX8_narrowAsKnown 60 = .ok (.aload_n 0, 1) := by decide +kernel
theorem dX8_narrowAsKnown_61 : decode cX8_narrowAsKnown 61 = .ok (.getfield 15, 3) := by decide +kernel
theorem dX8_narrowAsKnown_64 : decode cX8_narrowAsKnown 64 = .ok (.iload_n 3, 1) := by decide +kernel
theorem dX8_narrowAsKnown_65 : decode cX8_narrowAsKnown 65 = .ok (.iaload, 1) := by decide +kernel
theorem dX8_narrowAsKnown_66 : decode cX8_narrowAsKnown 66 = .ok (.aload_n 0, 1) := by decide +kernel
theorem dX8_narrowAsKnown_67 : decode cX8_narrowAsKnown 67 = .ok (.getfield 18, 3) := by decide +kernel
theorem dX8_narrowAsKnown_70 : decode cX8_narrowAsKnown 70 = .ok (.iload_n 3, 1) := by decide +kernel
theorem dX8_narrowAsKnown_71 : decode cX8_narrowAsKnown 71 = .ok (.iaload, 1) := by decide +kernel
theorem dX8_narrowAsKnown_72 : decode cX8_narrowAsKnown 72 = .ok (.aload_n 0, 1) := by decide +kernel
theorem dX8_narrowAsKnown_73 : decode cX8_narrowAsKnown 73 = .ok (.getfield 21, 3) := by decide +kernel
theorem dX8_narrowAsKnown_76 : decode cX8_narrowAsKnown 76 = .ok (.iload_n 3, 1) := by decide +kernel
theorem dX8_narrowAsKnown_77 : decode cX8_narrowAsKnown 77 = .ok (.iaload, 1) := by decide +kernel
theorem dX8_narrowAsKnown_78 : decode cX8_narrowAsKnown 78 = .ok (.invokevirtual 35, 3) := by decide +kernel
theorem tw_1102 : Cond.methodLink RX8 35 yX0_narrow ∈ TT := nx_mem 1102 (by decide +kernel) (by decide +kernel)
theorem dX8_narrowAsKnown_21 : decode cX8_narrowAsKnown 21 = .ok (.aload_n 0, 1) := by decide +kernel
theorem dX8_narrowAsKnown_22 : decode cX8_narrowAsKnown 22 = .ok (.getfield 27, 3) := by decide +kernel
theorem dX8_narrowAsKnown_25 : decode cX8_narrowAsKnown 25 = .ok (.iload_n 3, 1) := by decide +kernel
theorem dX8_narrowAsKnown_26 : decode cX8_narrowAsKnown 26 = .ok (.iaload, 1) := by decide +kernel
theorem dX8_narrowAsKnown_27 : decode cX8_narrowAsKnown 27 = .ok (.iload_n 2, 1) := by decide +kernel
theorem dX8_narrowAsKnown_28 : decode cX8_narrowAsKnown 28 = .ok (.if_icmp .gt 7, 3) := by decide +kernel
theorem dX8_narrowAsKnown_31 : decode cX8_narrowAsKnown 31 = .ok (.iconst 1, 1) := by decide +kernel
theorem dX8_narrowAsKnown_32 : decode cX8_narrowAsKnown 32 = .ok (.goto 4, 3) := by decide +kernel
set_option maxHeartbeats 4000000 in
set_option maxRecDepth 100000 in
theorem s_J7_fill_53178 (lau : Launch) (gg : va_G) (kA : Nat → ClassId) (r0 : Nat) (v : Int32) (n0 : Nat) (f : Nat → Int32) (hn0 : n0 ≤ 100) : CtV lau yJ7_fill_53178 cJ7_fill_53178 4 (none) 1 0 0 gg kA [.ref r0, .int v] (mflat [(r0, .inl (.inl (kA 1, n0, .inl f)))]) (S := (Nat → Int32)) (fun (y_r0 : (Nat → Int32)) => True) (fun (y_r0 : (Nat → Int32)) => mflat [(r0, .inl (.inl (kA 1, n0, .inl y_r0)))]) := by
  refine nx_startV (by decide +kernel) (Nat.le_of_ble_eq_true rfl) ?_
  intro x hnm h hq
  have h : Ok x cJ7_fill_53178 RJ7 kA (rmC 1 0 0) 4 := h
  show J x (mflat [(r0, .inl (.inl (kA 1, n0, .inl f)))]) [(0, .ref r0), (1, .int v)] 0 0 0 []
  refine j_iconst (v := 0) h (by decide) dJ7_fill_53178_0 ?_
  refine j_istore_n (lv' := [(2, .int 0), (0, .ref r0), (1, .int v)]) h dJ7_fill_53178_1 rfl (by decide) rfl ?_
  refine j_aload_n h 1 rfl rfl dJ7_fill_53178_2 ?_
  refine jm_alen (v := nI n0) h 0 1 rfl rfl rfl dJ7_fill_53178_3 ?_
  refine j_istore_n (lv' := [(3, .int (nI n0)), (2, .int 0), (0, .ref r0), (1, .int v)]) h dJ7_fill_53178_4 rfl (by decide) rfl ?_
  have lp5_66 : ∀ (m5_66 : Nat), ∀ (v2_5_66 : Nat) (fr0_5_66 : Nat → Int32), (v2_5_66 ≤ 100000) → 100001 - v2_5_66 < m5_66 → J x (mflat [(r0, .inl (.inl (kA 1, n0, .inl fr0_5_66)))]) [(3, .int (nI n0)), (2, .int (nI v2_5_66)), (0, .ref r0), (1, .int v)] 0 0 5 [] := by
    intro m5_66
    induction m5_66 with
    | zero =>
      intro v2_5_66 fr0_5_66 i5_66_0 hm5_66
      exact absurd hm5_66 (Nat.not_lt_zero _)
    | succ m5_66 ih5_66 =>
      intro v2_5_66 fr0_5_66 i5_66_0 hm5_66
      refine j_iload_n h 1 rfl rfl dJ7_fill_53178_5 ?_
      refine j_iload_n h 0 rfl rfl dJ7_fill_53178_6 ?_
      refine j_icmp_ge h 20 dJ7_fill_53178_7 (by decide) (fun z1058 => ?_) (fun z1058 => ?_)
      · have z1058n : n0 ≤ v2_5_66 := (nI_leI (a := n0) (b := v2_5_66) (by omega) (by omega)).mp z1058
        exact jm_vret h hq dJ7_fill_53178_20 fr0_5_66 [0] rfl (by decide) trivial (Nat.le_of_ble_eq_true rfl) (Nat.le_of_ble_eq_true rfl)
      · have z1058n : ¬ n0 ≤ v2_5_66 := fun q9 => z1058 ((nI_leI (a := n0) (b := v2_5_66) (by omega) (by omega)).mpr q9)
        refine j_aload_n h 2 rfl rfl dJ7_fill_53178_10 ?_
        refine j_iload_n h 1 rfl rfl dJ7_fill_53178_11 ?_
        refine j_iload_n h 3 rfl rfl dJ7_fill_53178_12 ?_
        refine jm_iast (w' := [(r0, .inl (.inl (kA 1, n0, .inl (upd fr0_5_66 v2_5_66 v))))]) h 0 rfl v2_5_66 rfl (by omega) (by omega) dJ7_fill_53178_13 rfl ?_
        refine j_iinc (v := nI (v2_5_66 + 1)) (lv' := [(2, .int (nI (v2_5_66 + 1))), (3, .int (nI n0)), (0, .ref r0), (1, .int v)]) h dJ7_fill_53178_14 1 rfl (nI_add v2_5_66 1) (by decide) rfl ?_
        refine j_goto h 5 dJ7_fill_53178_17 (by decide) ?_
        refine jm_sub [0] (w' := [(r0, .inl (.inl (kA 1, n0, .inl (upd fr0_5_66 v2_5_66 v))))]) rfl (by decide +kernel) [1, 0, 2, 3] (lv' := [(3, .int (nI n0)), (2, .int (nI (v2_5_66 + 1))), (0, .ref r0), (1, .int v)]) rfl ?_
        exact ih5_66 (v2_5_66 + 1) (upd fr0_5_66 v2_5_66 v) (show (v2_5_66 + 1) ≤ 100000 by first | assumption | omega) (show 100001 - (v2_5_66 + 1) < m5_66 by first | exact Nat.lt_of_lt_of_le (Nat.sub_lt_sub_left (Nat.lt_of_le_of_lt (show v2_5_66 ≤ 100000 by assumption) (Nat.lt_succ_self 100000)) (Nat.lt_succ_self v2_5_66)) (Nat.le_of_lt_succ hm5_66) | omega)
  refine jm_sub [0] (w' := [(r0, .inl (.inl (kA 1, n0, .inl f)))]) rfl (by decide +kernel) [0, 1, 2, 3] (lv' := [(3, .int (nI n0)), (2, .int 0), (0, .ref r0), (1, .int v)]) rfl ?_
  exact lp5_66 (100001 - 0 + 1) 0 f (show 0 ≤ 100000 by first | assumption | omega) (Nat.lt_succ_self _)
set_option maxHeartbeats 4000000 in
set_option maxRecDepth 100000 in
theorem s_J7_fill_G (lau : Launch) (gg : va_G) (kA : Nat → ClassId) (g : Nat) (rx : Nat) (v : Int32) (gf : Nat → Nat → Int32) (hr : rx < 4) : CtV lau yJ7_fill_53178 cJ7_fill_53178 4 (none) 1 0 0 gg kA [.ref (g + 1 + rx), .int v] (mflat [(g, .inr (kA 6, kA 1, 4, 60, .inl gf))]) (S := (Nat → Nat → Int32)) (fun (y_g : (Nat → Nat → Int32)) => True) (fun (y_g : (Nat → Nat → Int32)) => mflat [(g, .inr (kA 6, kA 1, 4, 60, .inl y_g))]) := by
  refine nx_startV (by decide +kernel) (Nat.le_of_ble_eq_true rfl) ?_
  intro x hnm h hq
  have h : Ok x cJ7_fill_53178 RJ7 kA (rmC 1 0 0) 4 := h
  show J x (mflat [(g, .inr (kA 6, kA 1, 4, 60, .inl gf))]) [(0, .ref (g + 1 + rx)), (1, .int v)] 0 0 0 []
  refine j_iconst (v := 0) h (by decide) dJ7_fill_53178_0 ?_
  refine j_istore_n (lv' := [(2, .int 0), (0, .ref (g + 1 + rx)), (1, .int v)]) h dJ7_fill_53178_1 rfl (by decide) rfl ?_
  refine j_aload_n h 1 rfl rfl dJ7_fill_53178_2 ?_
  refine jm_glen (v := 60) h 0 1 rfl rfl rx (by omega) rfl dJ7_fill_53178_3 ?_
  refine j_istore_n (lv' := [(3, .int 60), (2, .int 0), (0, .ref (g + 1 + rx)), (1, .int v)]) h dJ7_fill_53178_4 rfl (by decide) rfl ?_
  have lp5_72 : ∀ (m5_72 : Nat), ∀ (v2_5_72 : Nat) (fg_5_72 : Nat → Nat → Int32), (v2_5_72 ≤ 100000) → 100001 - v2_5_72 < m5_72 → J x (mflat [(g, .inr (kA 6, kA 1, 4, 60, .inl fg_5_72))]) [(3, .int 60), (2, .int (nI v2_5_72)), (0, .ref (g + 1 + rx)), (1, .int v)] 0 0 5 [] := by
    intro m5_72
    induction m5_72 with
    | zero =>
      intro v2_5_72 fg_5_72 i5_72_0 hm5_72
      exact absurd hm5_72 (Nat.not_lt_zero _)
    | succ m5_72 ih5_72 =>
      intro v2_5_72 fg_5_72 i5_72_0 hm5_72
      refine j_iload_n h 1 rfl rfl dJ7_fill_53178_5 ?_
      refine j_iload_n h 0 rfl rfl dJ7_fill_53178_6 ?_
      refine j_icmp_ge h 20 dJ7_fill_53178_7 (by decide) (fun z1062 => ?_) (fun z1062 => ?_)
      · have z1062n : 60 ≤ v2_5_72 := (nI_leI (a := 60) (b := v2_5_72) (by omega) (by omega)).mp z1062
        exact jm_vret h hq dJ7_fill_53178_20 fg_5_72 [0] rfl (by decide) trivial (Nat.le_of_ble_eq_true rfl) (Nat.le_of_ble_eq_true rfl)
      · have z1062n : ¬ 60 ≤ v2_5_72 := fun q9 => z1062 ((nI_leI (a := 60) (b := v2_5_72) (by omega) (by omega)).mpr q9)
        refine j_aload_n h 2 rfl rfl dJ7_fill_53178_10 ?_
        refine j_iload_n h 1 rfl rfl dJ7_fill_53178_11 ?_
        refine j_iload_n h 3 rfl rfl dJ7_fill_53178_12 ?_
        refine jm_gast (w' := [(g, .inr (kA 6, kA 1, 4, 60, .inl (upG fg_5_72 rx v2_5_72 v)))]) h 0 rfl rx (by omega) v2_5_72 rfl (by omega) (by omega) dJ7_fill_53178_13 rfl ?_
        refine j_iinc (v := nI (v2_5_72 + 1)) (lv' := [(2, .int (nI (v2_5_72 + 1))), (3, .int 60), (0, .ref (g + 1 + rx)), (1, .int v)]) h dJ7_fill_53178_14 1 rfl (nI_add v2_5_72 1) (by decide) rfl ?_
        refine j_goto h 5 dJ7_fill_53178_17 (by decide) ?_
        refine jm_sub [0] (w' := [(g, .inr (kA 6, kA 1, 4, 60, .inl (upG fg_5_72 rx v2_5_72 v)))]) rfl (by decide +kernel) [1, 0, 2, 3] (lv' := [(3, .int 60), (2, .int (nI (v2_5_72 + 1))), (0, .ref (g + 1 + rx)), (1, .int v)]) rfl ?_
        exact ih5_72 (v2_5_72 + 1) (upG fg_5_72 rx v2_5_72 v) (show (v2_5_72 + 1) ≤ 100000 by first | assumption | omega) (show 100001 - (v2_5_72 + 1) < m5_72 by first | exact Nat.lt_of_lt_of_le (Nat.sub_lt_sub_left (Nat.lt_of_le_of_lt (show v2_5_72 ≤ 100000 by assumption) (Nat.lt_succ_self 100000)) (Nat.lt_succ_self v2_5_72)) (Nat.le_of_lt_succ hm5_72) | omega)
  refine jm_sub [0] (w' := [(g, .inr (kA 6, kA 1, 4, 60, .inl gf))]) rfl (by decide +kernel) [0, 1, 2, 3] (lv' := [(3, .int 60), (2, .int 0), (0, .ref (g + 1 + rx)), (1, .int v)]) rfl ?_
  exact lp5_72 (100001 - 0 + 1) 0 gf (show 0 ≤ 100000 by first | assumption | omega) (Nat.lt_succ_self _)
set_option maxHeartbeats 4000000 in
set_option maxRecDepth 100000 in
theorem s_X0_open (lau : Launch) (gg : va_G) (kA : Nat → ClassId) (d : Nat) (d0 : Nat) (d1 : Nat) (d2 : Nat) (dnd : Nat → Int32)  : CtV lau yX0_open cX0_open 2 (none) 1 0 0 gg kA [.ref d] (mflat [(d, .inl (.inr (0, [.ref d0, .ref d1, .ref d2]))), (d2, .inl (.inl (kA 3, 4, .inl dnd)))]) (S := (Nat → Int32)) (fun (y_d2 : (Nat → Int32)) => True) (fun (y_d2 : (Nat → Int32)) => mflat [(d, .inl (.inr (0, [.ref d0, .ref d1, .ref d2]))), (d2, .inl (.inl (kA 3, 4, .inl y_d2)))]) := by
  refine nx_startV (by decide +kernel) (Nat.le_of_ble_eq_true rfl) ?_
  intro x hnm h hq
  have h : Ok x cX0_open RX0 kA (rmC 1 0 0) 2 := h
  show J x (mflat [(d, .inl (.inr (0, [.ref d0, .ref d1, .ref d2]))), (d2, .inl (.inl (kA 3, 4, .inl dnd)))]) [(0, .ref d)] 0 0 0 []
  refine j_iconst (v := 0) h (by decide) dX0_open_0 ?_
  refine j_istore_n (lv' := [(1, .int 0), (0, .ref d)]) h dX0_open_1 rfl (by decide) rfl ?_
  have lp2_78 : ∀ (m2_78 : Nat), ∀ (v1_2_78 : Nat) (fd2_2_78 : Nat → Int32), (v1_2_78 ≤ 100000) → 100001 - v1_2_78 < m2_78 → J x (mflat [(d, .inl (.inr (0, [.ref d0, .ref d1, .ref d2]))), (d2, .inl (.inl (kA 3, 4, .inl fd2_2_78)))]) [(1, .int (nI v1_2_78)), (0, .ref d)] 0 0 2 [] := by
    intro m2_78
    induction m2_78 with
    | zero =>
      intro v1_2_78 fd2_2_78 i2_78_0 hm2_78
      exact absurd hm2_78 (Nat.not_lt_zero _)
    | succ m2_78 ih2_78 =>
      intro v1_2_78 fd2_2_78 i2_78_0 hm2_78
      refine j_iload_n h 0 rfl rfl dX0_open_2 ?_
      refine j_iconst (v := 4) h (by decide) dX0_open_3 ?_
      refine j_icmp_ge h 20 dX0_open_4 (by decide) (fun z1066 => ?_) (fun z1066 => ?_)
      · have z1066n : 4 ≤ v1_2_78 := (nI_leI (a := 4) (b := v1_2_78) (by omega) (by omega)).mp z1066
        exact jm_vret h hq dX0_open_20 fd2_2_78 [0, 1] rfl (by decide) trivial (Nat.le_of_ble_eq_true rfl) (Nat.le_of_ble_eq_true rfl)
      · have z1066n : ¬ 4 ≤ v1_2_78 := fun q9 => z1066 ((nI_leI (a := 4) (b := v1_2_78) (by omega) (by omega)).mpr q9)
        refine j_aload_n h 1 rfl rfl dX0_open_7 ?_
        refine jm_get h iw_X0 0 rfl rfl 2 (by decide +kernel) tw_359 rfl dX0_open_8 ?_
        refine j_iload_n h 0 rfl rfl dX0_open_11 ?_
        refine j_iconst (v := 0) h (by decide) dX0_open_12 ?_
        refine jm_zast (w' := [(d, .inl (.inr (0, [.ref d0, .ref d1, .ref d2]))), (d2, .inl (.inl (kA 3, 4, .inl (upd fd2_2_78 v1_2_78 (vp_nar .boolean 0)))))]) h 1 rfl v1_2_78 rfl (by omega) (by omega) dX0_open_13 rfl ?_
        refine j_iinc (v := nI (v1_2_78 + 1)) (lv' := [(1, .int (nI (v1_2_78 + 1))), (0, .ref d)]) h dX0_open_14 0 rfl (nI_add v1_2_78 1) (by decide) rfl ?_
        refine j_goto h 2 dX0_open_17 (by decide) ?_
        refine jm_sub [0, 1] (w' := [(d, .inl (.inr (0, [.ref d0, .ref d1, .ref d2]))), (d2, .inl (.inl (kA 3, 4, .inl (upd fd2_2_78 v1_2_78 (vp_nar .boolean 0)))))]) rfl (by decide +kernel) [0, 1] (lv' := [(1, .int (nI (v1_2_78 + 1))), (0, .ref d)]) rfl ?_
        exact ih2_78 (v1_2_78 + 1) (upd fd2_2_78 v1_2_78 (vp_nar .boolean 0)) (show (v1_2_78 + 1) ≤ 100000 by first | assumption | omega) (show 100001 - (v1_2_78 + 1) < m2_78 by first | exact Nat.lt_of_lt_of_le (Nat.sub_lt_sub_left (Nat.lt_of_le_of_lt (show v1_2_78 ≤ 100000 by assumption) (Nat.lt_succ_self 100000)) (Nat.lt_succ_self v1_2_78)) (Nat.le_of_lt_succ hm2_78) | omega)
  refine jm_sub [0, 1] (w' := [(d, .inl (.inr (0, [.ref d0, .ref d1, .ref d2]))), (d2, .inl (.inl (kA 3, 4, .inl dnd)))]) rfl (by decide +kernel) [0, 1] (lv' := [(1, .int 0), (0, .ref d)]) rfl ?_
  exact lp2_78 (100001 - 0 + 1) 0 dnd (show 0 ≤ 100000 by first | assumption | omega) (Nat.lt_succ_self _)
set_option maxHeartbeats 4000000 in
set_option maxRecDepth 100000 in
theorem s_X0_narrow (lau : Launch) (gg : va_G) (kA : Nat → ClassId) (d : Nat) (er : Int32) (mo : Int32) (lw : Int32) (hg : Int32) (d0 : Nat) (d1 : Nat) (d2 : Nat) (dls : Nat → Nat → Int32) (dms : Nat → Nat → Int32) (dnd : Nat → Int32)  : CtV lau yX0_narrow cX0_narrow 5 (none) 2 0 0 gg kA [.ref d, .int er, .int mo, .int lw, .int hg] (mflat [(d, .inl (.inr (0, [.ref d0, .ref d1, .ref d2]))), (d0, .inr (kA 6, kA 1, 4, 60, .inl dls)), (d1, .inr (kA 6, kA 1, 4, 60, .inl dms)), (d2, .inl (.inl (kA 3, 4, .inl dnd)))]) (S := (Nat → Nat → Int32) × (Nat → Nat → Int32) × (Nat → Int32)) (fun ((y_d0, y_d1, y_d2) : (Nat → Nat → Int32) × (Nat → Nat → Int32) × (Nat → Int32)) => True) (fun ((y_d0, y_d1, y_d2) : (Nat → Nat → Int32) × (Nat → Nat → Int32) × (Nat → Int32)) => mflat [(d, .inl (.inr (0, [.ref d0, .ref d1, .ref d2]))), (d0, .inr (kA 6, kA 1, 4, 60, .inl y_d0)), (d1, .inr (kA 6, kA 1, 4, 60, .inl y_d1)), (d2, .inl (.inl (kA 3, 4, .inl y_d2)))]) := by
  refine nx_startV (by decide +kernel) (Nat.le_of_ble_eq_true rfl) ?_
  intro x hnm h hq
  have h : Ok x cX0_narrow RX0 kA (rmC 2 0 0) 5 := h
  show J x (mflat [(d, .inl (.inr (0, [.ref d0, .ref d1, .ref d2]))), (d0, .inr (kA 6, kA 1, 4, 60, .inl dls)), (d1, .inr (kA 6, kA 1, 4, 60, .inl dms)), (d2, .inl (.inl (kA 3, 4, .inl dnd)))]) [(0, .ref d), (1, .int er), (2, .int mo), (3, .int lw), (4, .int hg)] 0 0 0 []
  refine j_iload_n h 1 rfl rfl dX0_narrow_0 ?_
  refine j_if_lt h 19 dX0_narrow_1 (by decide) (fun z1080 => ?_) (fun z1080 => ?_)
  · show J x (mflat [(d, .inl (.inr (0, [.ref d0, .ref d1, .ref d2]))), (d0, .inr (kA 6, kA 1, 4, 60, .inl dls)), (d1, .inr (kA 6, kA 1, 4, 60, .inl dms)), (d2, .inl (.inl (kA 3, 4, .inl dnd)))]) [(0, .ref d), (1, .int er), (2, .int mo), (3, .int lw), (4, .int hg)] 0 0 19 []
    exact jm_vret h hq dX0_narrow_19 (dls, dms, dnd) [0, 1, 2, 3] rfl (by decide) trivial (Nat.le_of_ble_eq_true rfl) (Nat.le_of_ble_eq_true rfl)
  · obtain ⟨j1081, hj1081, rfl⟩ := nI_of z1080
    show J x (mflat [(d, .inl (.inr (0, [.ref d0, .ref d1, .ref d2]))), (d0, .inr (kA 6, kA 1, 4, 60, .inl dls)), (d1, .inr (kA 6, kA 1, 4, 60, .inl dms)), (d2, .inl (.inl (kA 3, 4, .inl dnd)))]) [(0, .ref d), (1, .int (nI j1081)), (2, .int mo), (3, .int lw), (4, .int hg)] 0 0 4 []
    refine j_iload_n h 1 rfl rfl dX0_narrow_4 ?_
    refine j_iconst (v := 4) h (by decide) dX0_narrow_5 ?_
    refine j_icmp_ge h 19 dX0_narrow_6 (by decide) (fun z1082 => ?_) (fun z1082 => ?_)
    · have z1082n : 4 ≤ j1081 := (nI_leI (a := 4) (b := j1081) (by omega) (by omega)).mp z1082
      exact jm_vret h hq dX0_narrow_19 (dls, dms, dnd) [0, 1, 2, 3] rfl (by decide) trivial (Nat.le_of_ble_eq_true rfl) (Nat.le_of_ble_eq_true rfl)
    · have z1082n : ¬ 4 ≤ j1081 := fun q9 => z1082 ((nI_leI (a := 4) (b := j1081) (by omega) (by omega)).mpr q9)
      refine j_iload_n h 2 rfl rfl dX0_narrow_9 ?_
      refine j_if_lt h 19 dX0_narrow_10 (by decide) (fun z1083 => ?_) (fun z1083 => ?_)
      · show J x (mflat [(d, .inl (.inr (0, [.ref d0, .ref d1, .ref d2]))), (d0, .inr (kA 6, kA 1, 4, 60, .inl dls)), (d1, .inr (kA 6, kA 1, 4, 60, .inl dms)), (d2, .inl (.inl (kA 3, 4, .inl dnd)))]) [(0, .ref d), (1, .int (nI j1081)), (2, .int mo), (3, .int lw), (4, .int hg)] 0 0 19 []
        exact jm_vret h hq dX0_narrow_19 (dls, dms, dnd) [0, 1, 2, 3] rfl (by decide) trivial (Nat.le_of_ble_eq_true rfl) (Nat.le_of_ble_eq_true rfl)
      · obtain ⟨j1084, hj1084, rfl⟩ := nI_of z1083
        show J x (mflat [(d, .inl (.inr (0, [.ref d0, .ref d1, .ref d2]))), (d0, .inr (kA 6, kA 1, 4, 60, .inl dls)), (d1, .inr (kA 6, kA 1, 4, 60, .inl dms)), (d2, .inl (.inl (kA 3, 4, .inl dnd)))]) [(0, .ref d), (1, .int (nI j1081)), (2, .int (nI j1084)), (3, .int lw), (4, .int hg)] 0 0 13 []
        refine j_iload_n h 2 rfl rfl dX0_narrow_13 ?_
        refine j_bipush (v := 60) h (by decide) dX0_narrow_14 ?_
        refine j_icmp_lt h 20 dX0_narrow_16 (by decide) (fun z1085 => ?_) (fun z1085 => ?_)
        · have z1085n : j1084 < 60 := (nI_ltI (a := j1084) (b := 60) (by omega) (by omega)).mp z1085
          refine j_aload_n h 0 rfl rfl dX0_narrow_20 ?_
          refine jm_get h iw_X0 0 rfl rfl 2 (by decide +kernel) tw_359 rfl dX0_narrow_21 ?_
          refine j_iload_n h 1 rfl rfl dX0_narrow_24 ?_
          refine jm_zald h 3 rfl j1081 rfl (by omega) (by omega) dX0_narrow_25 ?_
          refine j_if_ne h 57 dX0_narrow_26 (by decide) (fun z1086 => ?_) (fun z1086 => ?_)
          · show J x (mflat [(d, .inl (.inr (0, [.ref d0, .ref d1, .ref d2]))), (d0, .inr (kA 6, kA 1, 4, 60, .inl dls)), (d1, .inr (kA 6, kA 1, 4, 60, .inl dms)), (d2, .inl (.inl (kA 3, 4, .inl dnd)))]) [(0, .ref d), (1, .int (nI j1081)), (2, .int (nI j1084)), (3, .int lw), (4, .int hg)] 0 0 57 []
            refine j_aload_n h 0 rfl rfl dX0_narrow_57 ?_
            refine jm_get h iw_X0 0 rfl rfl 0 (by decide +kernel) tw_357 rfl dX0_narrow_58 ?_
            refine j_iload_n h 1 rfl rfl dX0_narrow_61 ?_
            refine jm_gout h 1 6 rfl rfl j1081 rfl (by omega) (by omega) dX0_narrow_62 ?_
            refine j_iload_n h 2 rfl rfl dX0_narrow_63 ?_
            refine j_aload_n h 0 rfl rfl dX0_narrow_64 ?_
            refine jm_get h iw_X0 0 rfl rfl 0 (by decide +kernel) tw_357 rfl dX0_narrow_65 ?_
            refine j_iload_n h 1 rfl rfl dX0_narrow_68 ?_
            refine jm_gout h 1 6 rfl rfl j1081 rfl (by omega) (by omega) dX0_narrow_69 ?_
            refine j_iload_n h 2 rfl rfl dX0_narrow_70 ?_
            refine jm_gald h 1 rfl j1081 (by omega) j1084 rfl (by omega) (by omega) dX0_narrow_71 ?_
            refine j_iload_n h 3 rfl rfl dX0_narrow_72 ?_
            refine j_mmax h tw_831 tw_803 tw_105 tw_804 (Nat.le_of_ble_eq_true rfl) (Nat.le_of_ble_eq_true rfl) (Nat.le_of_ble_eq_true rfl) (Nat.le_of_ble_eq_true rfl) (Nat.le_of_ble_eq_true rfl) dX0_narrow_73 ?_
            refine jm_gast (w' := [(d, .inl (.inr (0, [.ref d0, .ref d1, .ref d2]))), (d0, .inr (kA 6, kA 1, 4, 60, .inl (upG dls j1081 j1084 (if (dls j1081 j1084) < lw then lw else dls j1081 j1084)))), (d1, .inr (kA 6, kA 1, 4, 60, .inl dms)), (d2, .inl (.inl (kA 3, 4, .inl dnd)))]) h 1 rfl j1081 (by omega) j1084 rfl (by omega) (by omega) dX0_narrow_76 rfl ?_
            refine j_aload_n h 0 rfl rfl dX0_narrow_77 ?_
            refine jm_get h iw_X0 0 rfl rfl 1 (by decide +kernel) tw_358 rfl dX0_narrow_78 ?_
            refine j_iload_n h 1 rfl rfl dX0_narrow_81 ?_
            refine jm_gout h 2 6 rfl rfl j1081 rfl (by omega) (by omega) dX0_narrow_82 ?_
            refine j_iload_n h 2 rfl rfl dX0_narrow_83 ?_
            refine j_aload_n h 0 rfl rfl dX0_narrow_84 ?_
            refine jm_get h iw_X0 0 rfl rfl 1 (by decide +kernel) tw_358 rfl dX0_narrow_85 ?_
            refine j_iload_n h 1 rfl rfl dX0_narrow_88 ?_
            refine jm_gout h 2 6 rfl rfl j1081 rfl (by omega) (by omega) dX0_narrow_89 ?_
            refine j_iload_n h 2 rfl rfl dX0_narrow_90 ?_
            refine jm_gald h 2 rfl j1081 (by omega) j1084 rfl (by omega) (by omega) dX0_narrow_91 ?_
            refine j_iload h 4 rfl dX0_narrow_92 ?_
            refine j_mmin h tw_832 tw_809 tw_105 tw_810 (Nat.le_of_ble_eq_true rfl) (Nat.le_of_ble_eq_true rfl) (Nat.le_of_ble_eq_true rfl) (Nat.le_of_ble_eq_true rfl) (Nat.le_of_ble_eq_true rfl) dX0_narrow_94 ?_
            refine jm_gast (w' := [(d, .inl (.inr (0, [.ref d0, .ref d1, .ref d2]))), (d0, .inr (kA 6, kA 1, 4, 60, .inl (upG dls j1081 j1084 (if (dls j1081 j1084) < lw then lw else dls j1081 j1084)))), (d1, .inr (kA 6, kA 1, 4, 60, .inl (upG dms j1081 j1084 (if hg < (dms j1081 j1084) then hg else dms j1081 j1084)))), (d2, .inl (.inl (kA 3, 4, .inl dnd)))]) h 2 rfl j1081 (by omega) j1084 rfl (by omega) (by omega) dX0_narrow_97 rfl ?_
            exact jm_vret h hq dX0_narrow_98 ((upG dls j1081 j1084 (if (dls j1081 j1084) < lw then lw else dls j1081 j1084)), (upG dms j1081 j1084 (if hg < (dms j1081 j1084) then hg else dms j1081 j1084)), dnd) [0, 1, 2, 3] rfl (by decide) trivial (Nat.le_of_ble_eq_true rfl) (Nat.le_of_ble_eq_true rfl)
          · show J x (mflat [(d, .inl (.inr (0, [.ref d0, .ref d1, .ref d2]))), (d0, .inr (kA 6, kA 1, 4, 60, .inl dls)), (d1, .inr (kA 6, kA 1, 4, 60, .inl dms)), (d2, .inl (.inl (kA 3, 4, .inl dnd)))]) [(0, .ref d), (1, .int (nI j1081)), (2, .int (nI j1084)), (3, .int lw), (4, .int hg)] 0 0 29 []
            refine j_aload_n h 0 rfl rfl dX0_narrow_29 ?_
            refine jm_get h iw_X0 0 rfl rfl 2 (by decide +kernel) tw_359 rfl dX0_narrow_30 ?_
            refine j_iload_n h 1 rfl rfl dX0_narrow_33 ?_
            refine j_iconst (v := 1) h (by decide) dX0_narrow_34 ?_
            refine jm_zast (w' := [(d, .inl (.inr (0, [.ref d0, .ref d1, .ref d2]))), (d0, .inr (kA 6, kA 1, 4, 60, .inl dls)), (d1, .inr (kA 6, kA 1, 4, 60, .inl dms)), (d2, .inl (.inl (kA 3, 4, .inl (upd dnd j1081 (vp_nar .boolean 1)))))]) h 3 rfl j1081 rfl (by omega) (by omega) dX0_narrow_35 rfl ?_
            refine j_aload_n h 0 rfl rfl dX0_narrow_36 ?_
            refine jm_get h iw_X0 0 rfl rfl 0 (by decide +kernel) tw_357 rfl dX0_narrow_37 ?_
            refine j_iload_n h 1 rfl rfl dX0_narrow_40 ?_
            refine jm_gout h 1 6 rfl rfl j1081 rfl (by omega) (by omega) dX0_narrow_41 ?_
            refine j_iconst (v := 0) h (by decide) dX0_narrow_42 ?_
            refine jm_callSv (np := 2) (isC := [1]) (isR := [0, 2, 3]) (wc := [(d0, .inr (kA 6, kA 1, 4, 60, .inl dls))]) (wr := [(d, .inl (.inr (0, [.ref d0, .ref d1, .ref d2]))), (d1, .inr (kA 6, kA 1, 4, 60, .inl dms)), (d2, .inl (.inl (kA 3, 4, .inl (upd dnd j1081 (vp_nar .boolean 1)))))]) (rest := []) (As := [.ref (d0 + 1 + j1081), .int 0]) h (s_J7_fill_G _ _ kA d0 j1081 0 dls (show j1081 < 4 by first | assumption | omega)) tw_828 tw_829 tw_106 tw_830 (by decide +kernel) rfl ⟨Nat.le_of_ble_eq_true rfl, Nat.le_of_ble_eq_true rfl⟩ (by decide +kernel) rfl rfl (by decide +kernel) (by decide +kernel) (Nat.le_of_ble_eq_true rfl) rfl ⟨Nat.le_of_ble_eq_true rfl, Nat.le_of_ble_eq_true rfl⟩ dX0_narrow_43 ?_
            rintro q1087 e1088
            show J x (mflat [(d, .inl (.inr (0, [.ref d0, .ref d1, .ref d2]))), (d1, .inr (kA 6, kA 1, 4, 60, .inl dms)), (d2, .inl (.inl (kA 3, 4, .inl (upd dnd j1081 (vp_nar .boolean 1))))), (d0, .inr (kA 6, kA 1, 4, 60, .inl q1087))]) [(0, .ref d), (1, .int (nI j1081)), (2, .int (nI j1084)), (3, .int lw), (4, .int hg)] 0 0 46 []
            refine j_aload_n h 0 rfl rfl dX0_narrow_46 ?_
            refine jm_get h iw_X0 0 rfl rfl 1 (by decide +kernel) tw_358 rfl dX0_narrow_47 ?_
            refine j_iload_n h 1 rfl rfl dX0_narrow_50 ?_
            refine jm_gout h 1 6 rfl rfl j1081 rfl (by omega) (by omega) dX0_narrow_51 ?_
            refine j_bipush (v := 9) h (by decide) dX0_narrow_52 ?_
            refine jm_callSv (np := 2) (isC := [1]) (isR := [0, 2, 3]) (wc := [(d1, .inr (kA 6, kA 1, 4, 60, .inl dms))]) (wr := [(d, .inl (.inr (0, [.ref d0, .ref d1, .ref d2]))), (d2, .inl (.inl (kA 3, 4, .inl (upd dnd j1081 (vp_nar .boolean 1))))), (d0, .inr (kA 6, kA 1, 4, 60, .inl q1087))]) (rest := []) (As := [.ref (d1 + 1 + j1081), .int 9]) h (s_J7_fill_G _ _ kA d1 j1081 9 dms (show j1081 < 4 by first | assumption | omega)) tw_828 tw_829 tw_106 tw_830 (by decide +kernel) rfl ⟨Nat.le_of_ble_eq_true rfl, Nat.le_of_ble_eq_true rfl⟩ (by decide +kernel) rfl rfl (by decide +kernel) (by decide +kernel) (Nat.le_of_ble_eq_true rfl) rfl ⟨Nat.le_of_ble_eq_true rfl, Nat.le_of_ble_eq_true rfl⟩ dX0_narrow_54 ?_
            rintro q1090 e1091
            show J x (mflat [(d, .inl (.inr (0, [.ref d0, .ref d1, .ref d2]))), (d2, .inl (.inl (kA 3, 4, .inl (upd dnd j1081 (vp_nar .boolean 1))))), (d0, .inr (kA 6, kA 1, 4, 60, .inl q1087)), (d1, .inr (kA 6, kA 1, 4, 60, .inl q1090))]) [(0, .ref d), (1, .int (nI j1081)), (2, .int (nI j1084)), (3, .int lw), (4, .int hg)] 0 0 57 []
            refine j_aload_n h 0 rfl rfl dX0_narrow_57 ?_
            refine jm_get h iw_X0 0 rfl rfl 0 (by decide +kernel) tw_357 rfl dX0_narrow_58 ?_
            refine j_iload_n h 1 rfl rfl dX0_narrow_61 ?_
            refine jm_gout h 2 6 rfl rfl j1081 rfl (by omega) (by omega) dX0_narrow_62 ?_
            refine j_iload_n h 2 rfl rfl dX0_narrow_63 ?_
            refine j_aload_n h 0 rfl rfl dX0_narrow_64 ?_
            refine jm_get h iw_X0 0 rfl rfl 0 (by decide +kernel) tw_357 rfl dX0_narrow_65 ?_
            refine j_iload_n h 1 rfl rfl dX0_narrow_68 ?_
            refine jm_gout h 2 6 rfl rfl j1081 rfl (by omega) (by omega) dX0_narrow_69 ?_
            refine j_iload_n h 2 rfl rfl dX0_narrow_70 ?_
            refine jm_gald h 2 rfl j1081 (by omega) j1084 rfl (by omega) (by omega) dX0_narrow_71 ?_
            refine j_iload_n h 3 rfl rfl dX0_narrow_72 ?_
            refine j_mmax h tw_831 tw_803 tw_105 tw_804 (Nat.le_of_ble_eq_true rfl) (Nat.le_of_ble_eq_true rfl) (Nat.le_of_ble_eq_true rfl) (Nat.le_of_ble_eq_true rfl) (Nat.le_of_ble_eq_true rfl) dX0_narrow_73 ?_
            refine jm_gast (w' := [(d, .inl (.inr (0, [.ref d0, .ref d1, .ref d2]))), (d2, .inl (.inl (kA 3, 4, .inl (upd dnd j1081 (vp_nar .boolean 1))))), (d0, .inr (kA 6, kA 1, 4, 60, .inl (upG q1087 j1081 j1084 (if (q1087 j1081 j1084) < lw then lw else q1087 j1081 j1084)))), (d1, .inr (kA 6, kA 1, 4, 60, .inl q1090))]) h 2 rfl j1081 (by omega) j1084 rfl (by omega) (by omega) dX0_narrow_76 rfl ?_
            refine j_aload_n h 0 rfl rfl dX0_narrow_77 ?_
            refine jm_get h iw_X0 0 rfl rfl 1 (by decide +kernel) tw_358 rfl dX0_narrow_78 ?_
            refine j_iload_n h 1 rfl rfl dX0_narrow_81 ?_
            refine jm_gout h 3 6 rfl rfl j1081 rfl (by omega) (by omega) dX0_narrow_82 ?_
            refine j_iload_n h 2 rfl rfl dX0_narrow_83 ?_
            refine j_aload_n h 0 rfl rfl dX0_narrow_84 ?_
            refine jm_get h iw_X0 0 rfl rfl 1 (by decide +kernel) tw_358 rfl dX0_narrow_85 ?_
            refine j_iload_n h 1 rfl rfl dX0_narrow_88 ?_
            refine jm_gout h 3 6 rfl rfl j1081 rfl (by omega) (by omega) dX0_narrow_89 ?_
            refine j_iload_n h 2 rfl rfl dX0_narrow_90 ?_
            refine jm_gald h 3 rfl j1081 (by omega) j1084 rfl (by omega) (by omega) dX0_narrow_91 ?_
            refine j_iload h 4 rfl dX0_narrow_92 ?_
            refine j_mmin h tw_832 tw_809 tw_105 tw_810 (Nat.le_of_ble_eq_true rfl) (Nat.le_of_ble_eq_true rfl) (Nat.le_of_ble_eq_true rfl) (Nat.le_of_ble_eq_true rfl) (Nat.le_of_ble_eq_true rfl) dX0_narrow_94 ?_
            refine jm_gast (w' := [(d, .inl (.inr (0, [.ref d0, .ref d1, .ref d2]))), (d2, .inl (.inl (kA 3, 4, .inl (upd dnd j1081 (vp_nar .boolean 1))))), (d0, .inr (kA 6, kA 1, 4, 60, .inl (upG q1087 j1081 j1084 (if (q1087 j1081 j1084) < lw then lw else q1087 j1081 j1084)))), (d1, .inr (kA 6, kA 1, 4, 60, .inl (upG q1090 j1081 j1084 (if hg < (q1090 j1081 j1084) then hg else q1090 j1081 j1084))))]) h 3 rfl j1081 (by omega) j1084 rfl (by omega) (by omega) dX0_narrow_97 rfl ?_
            exact jm_vret h hq dX0_narrow_98 ((upG q1087 j1081 j1084 (if (q1087 j1081 j1084) < lw then lw else q1087 j1081 j1084)), (upG q1090 j1081 j1084 (if hg < (q1090 j1081 j1084) then hg else q1090 j1081 j1084)), (upd dnd j1081 (vp_nar .boolean 1))) [0, 2, 3, 1] rfl (by decide) trivial (Nat.le_of_ble_eq_true rfl) (Nat.le_of_ble_eq_true rfl)
        · have z1085n : ¬ j1084 < 60 := fun q9 => z1085 ((nI_ltI (a := j1084) (b := 60) (by omega) (by omega)).mpr q9)
          exact jm_vret h hq dX0_narrow_19 (dls, dms, dnd) [0, 1, 2, 3] rfl (by decide) trivial (Nat.le_of_ble_eq_true rfl) (Nat.le_of_ble_eq_true rfl)
set_option maxHeartbeats 4000000 in
set_option maxRecDepth 100000 in
theorem s_X0_fix (lau : Launch) (gg : va_G) (kA : Nat → ClassId) (d : Nat) (er : Int32) (o : Nat) (tm : Nat) (d0 : Nat) (d1 : Nat) (d2 : Nat) (dls : Nat → Nat → Int32) (dms : Nat → Nat → Int32) (dnd : Nat → Int32) (of : Nat → Int32) (htm : tm ≤ 60) : CtV lau yX0_fix cX0_fix 5 (none) 3 0 0 gg kA [.ref d, .int er, .ref o, .int (nI tm)] (mflat [(d, .inl (.inr (0, [.ref d0, .ref d1, .ref d2]))), (d0, .inr (kA 6, kA 1, 4, 60, .inl dls)), (d1, .inr (kA 6, kA 1, 4, 60, .inl dms)), (d2, .inl (.inl (kA 3, 4, .inl dnd))), (o, .inl (.inl (kA 1, 60, .inl of)))]) (S := (Nat → Nat → Int32) × (Nat → Nat → Int32) × (Nat → Int32)) (fun ((y_d0, y_d1, y_d2) : (Nat → Nat → Int32) × (Nat → Nat → Int32) × (Nat → Int32)) => True) (fun ((y_d0, y_d1, y_d2) : (Nat → Nat → Int32) × (Nat → Nat → Int32) × (Nat → Int32)) => mflat [(d, .inl (.inr (0, [.ref d0, .ref d1, .ref d2]))), (d0, .inr (kA 6, kA 1, 4, 60, .inl y_d0)), (d1, .inr (kA 6, kA 1, 4, 60, .inl y_d1)), (d2, .inl (.inl (kA 3, 4, .inl y_d2))), (o, .inl (.inl (kA 1, 60, .inl of)))]) := by
  refine nx_startV (by decide +kernel) (Nat.le_of_ble_eq_true rfl) ?_
  intro x hnm h hq
  have h : Ok x cX0_fix RX0 kA (rmC 3 0 0) 5 := h
  show J x (mflat [(d, .inl (.inr (0, [.ref d0, .ref d1, .ref d2]))), (d0, .inr (kA 6, kA 1, 4, 60, .inl dls)), (d1, .inr (kA 6, kA 1, 4, 60, .inl dms)), (d2, .inl (.inl (kA 3, 4, .inl dnd))), (o, .inl (.inl (kA 1, 60, .inl of)))]) [(0, .ref d), (1, .int er), (2, .ref o), (3, .int (nI tm))] 0 0 0 []
  refine j_iconst (v := 0) h (by decide) dX0_fix_0 ?_
  refine j_istore (lv' := [(4, .int 0), (0, .ref d), (1, .int er), (2, .ref o), (3, .int (nI tm))]) h dX0_fix_1 (by decide) rfl ?_
  have lp3_84 : ∀ (m3_84 : Nat), ∀ (v4_3_84 : Nat) (fd0_3_84 : Nat → Nat → Int32) (fd1_3_84 : Nat → Nat → Int32) (fd2_3_84 : Nat → Int32), (v4_3_84 ≤ 100000) → 100001 - v4_3_84 < m3_84 → J x (mflat [(d, .inl (.inr (0, [.ref d0, .ref d1, .ref d2]))), (d0, .inr (kA 6, kA 1, 4, 60, .inl fd0_3_84)), (d1, .inr (kA 6, kA 1, 4, 60, .inl fd1_3_84)), (d2, .inl (.inl (kA 3, 4, .inl fd2_3_84))), (o, .inl (.inl (kA 1, 60, .inl of)))]) [(4, .int (nI v4_3_84)), (0, .ref d), (1, .int er), (2, .ref o), (3, .int (nI tm))] 0 0 3 [] := by
    intro m3_84
    induction m3_84 with
    | zero =>
      intro v4_3_84 fd0_3_84 fd1_3_84 fd2_3_84 i3_84_0 hm3_84
      exact absurd hm3_84 (Nat.not_lt_zero _)
    | succ m3_84 ih3_84 =>
      intro v4_3_84 fd0_3_84 fd1_3_84 fd2_3_84 i3_84_0 hm3_84
      refine j_iload h 0 rfl dX0_fix_3 ?_
      refine j_iload_n h 4 rfl rfl dX0_fix_5 ?_
      refine j_icmp_ge h 37 dX0_fix_6 (by decide) (fun z1126 => ?_) (fun z1126 => ?_)
      · have z1126n : tm ≤ v4_3_84 := (nI_leI (a := tm) (b := v4_3_84) (by omega) (by omega)).mp z1126
        exact jm_vret h hq dX0_fix_37 (fd0_3_84, fd1_3_84, fd2_3_84) [0, 1, 2, 3, 4] rfl (by decide) trivial (Nat.le_of_ble_eq_true rfl) (Nat.le_of_ble_eq_true rfl)
      · have z1126n : ¬ tm ≤ v4_3_84 := fun q9 => z1126 ((nI_leI (a := tm) (b := v4_3_84) (by omega) (by omega)).mpr q9)
        refine j_iload h 0 rfl dX0_fix_9 ?_
        refine j_aload_n h 3 rfl rfl dX0_fix_11 ?_
        refine jm_alen (v := 60) h 4 1 rfl rfl rfl dX0_fix_12 ?_
        refine j_icmp_ge h 37 dX0_fix_13 (by decide) (fun z1127 => ?_) (fun z1127 => ?_)
        · have z1127n : 60 ≤ v4_3_84 := (nI_leI (a := 60) (b := v4_3_84) (by omega) (by omega)).mp z1127
          exact jm_vret h hq dX0_fix_37 (fd0_3_84, fd1_3_84, fd2_3_84) [0, 1, 2, 3, 4] rfl (by decide) trivial (Nat.le_of_ble_eq_true rfl) (Nat.le_of_ble_eq_true rfl)
        · have z1127n : ¬ 60 ≤ v4_3_84 := fun q9 => z1127 ((nI_leI (a := 60) (b := v4_3_84) (by omega) (by omega)).mpr q9)
          refine j_aload_n h 1 rfl rfl dX0_fix_16 ?_
          refine j_iload_n h 2 rfl rfl dX0_fix_17 ?_
          refine j_iload h 0 rfl dX0_fix_18 ?_
          refine j_aload_n h 3 rfl rfl dX0_fix_20 ?_
          refine j_iload h 0 rfl dX0_fix_21 ?_
          refine jm_iald h 4 rfl v4_3_84 rfl (by omega) (by omega) dX0_fix_23 ?_
          refine j_aload_n h 3 rfl rfl dX0_fix_24 ?_
          refine j_iload h 0 rfl dX0_fix_25 ?_
          refine jm_iald h 4 rfl v4_3_84 rfl (by omega) (by omega) dX0_fix_27 ?_
          refine jm_callVv (np := 4) (isC := [0, 1, 2, 3]) (isR := [4]) (wc := [(d, .inl (.inr (0, [.ref d0, .ref d1, .ref d2]))), (d0, .inr (kA 6, kA 1, 4, 60, .inl fd0_3_84)), (d1, .inr (kA 6, kA 1, 4, 60, .inl fd1_3_84)), (d2, .inl (.inl (kA 3, 4, .inl fd2_3_84)))]) (wr := [(o, .inl (.inl (kA 1, 60, .inl of)))]) (rest := []) (As := [.int er, .int (nI v4_3_84), .int (of v4_3_84), .int (of v4_3_84)]) (q0 := 0) h (s_X0_narrow _ _ kA d er (nI v4_3_84) (of v4_3_84) (of v4_3_84) d0 d1 d2 fd0_3_84 fd1_3_84 fd2_3_84 ) tw_824 tw_825 tw_826 tw_94 tw_827 (by decide +kernel) rfl ⟨Nat.le_of_ble_eq_true rfl, Nat.le_of_ble_eq_true rfl⟩ rfl rfl (by decide +kernel) rfl rfl (by decide +kernel) (by decide +kernel) (Nat.le_of_ble_eq_true rfl) rfl ⟨Nat.le_of_ble_eq_true rfl, Nat.le_of_ble_eq_true rfl⟩ dX0_fix_28 ?_
          rintro ⟨q1128, q1129, q1130⟩ e1131
          show J x (mflat [(o, .inl (.inl (kA 1, 60, .inl of))), (d, .inl (.inr (0, [.ref d0, .ref d1, .ref d2]))), (d0, .inr (kA 6, kA 1, 4, 60, .inl q1128)), (d1, .inr (kA 6, kA 1, 4, 60, .inl q1129)), (d2, .inl (.inl (kA 3, 4, .inl q1130)))]) [(4, .int (nI v4_3_84)), (0, .ref d), (1, .int er), (2, .ref o), (3, .int (nI tm))] 0 0 31 []
          refine j_iinc (v := nI (v4_3_84 + 1)) (lv' := [(4, .int (nI (v4_3_84 + 1))), (0, .ref d), (1, .int er), (2, .ref o), (3, .int (nI tm))]) h dX0_fix_31 0 rfl (nI_add v4_3_84 1) (by decide) rfl ?_
          refine j_goto h 3 dX0_fix_34 (by decide) ?_
          refine jm_sub [1, 2, 3, 4, 0] (w' := [(d, .inl (.inr (0, [.ref d0, .ref d1, .ref d2]))), (d0, .inr (kA 6, kA 1, 4, 60, .inl q1128)), (d1, .inr (kA 6, kA 1, 4, 60, .inl q1129)), (d2, .inl (.inl (kA 3, 4, .inl q1130))), (o, .inl (.inl (kA 1, 60, .inl of)))]) rfl (by decide +kernel) [0, 1, 2, 3, 4] (lv' := [(4, .int (nI (v4_3_84 + 1))), (0, .ref d), (1, .int er), (2, .ref o), (3, .int (nI tm))]) rfl ?_
          exact ih3_84 (v4_3_84 + 1) q1128 q1129 q1130 (show (v4_3_84 + 1) ≤ 100000 by first | assumption | omega) (show 100001 - (v4_3_84 + 1) < m3_84 by first | exact Nat.lt_of_lt_of_le (Nat.sub_lt_sub_left (Nat.lt_of_le_of_lt (show v4_3_84 ≤ 100000 by assumption) (Nat.lt_succ_self 100000)) (Nat.lt_succ_self v4_3_84)) (Nat.le_of_lt_succ hm3_84) | omega)
  refine jm_sub [0, 1, 2, 3, 4] (w' := [(d, .inl (.inr (0, [.ref d0, .ref d1, .ref d2]))), (d0, .inr (kA 6, kA 1, 4, 60, .inl dls)), (d1, .inr (kA 6, kA 1, 4, 60, .inl dms)), (d2, .inl (.inl (kA 3, 4, .inl dnd))), (o, .inl (.inl (kA 1, 60, .inl of)))]) rfl (by decide +kernel) [0, 1, 2, 3, 4] (lv' := [(4, .int 0), (0, .ref d), (1, .int er), (2, .ref o), (3, .int (nI tm))]) rfl ?_
  exact lp3_84 (100001 - 0 + 1) 0 dls dms dnd (show 0 ≤ 100000 by first | assumption | omega) (Nat.lt_succ_self _)
set_option maxHeartbeats 4000000 in
set_option maxRecDepth 100000 in
theorem s_X0_areQuiet (lau : Launch) (gg : va_G) (kA : Nat → ClassId) (d : Nat) (er : Nat) (fr : Nat) (be : Nat) (d0 : Nat) (d1 : Nat) (d2 : Nat) (dls : Nat → Nat → Int32) (her : er < 4) (hfr : fr ≤ 1000) (hbe : be ≤ 1000) : CtI lau yX0_areQuiet cX0_areQuiet 5 (some .boolean) 1 0 0 gg kA [.ref d, .int (nI er), .int (nI fr), .int (nI be)] (mflat [(d, .inl (.inr (0, [.ref d0, .ref d1, .ref d2]))), (d0, .inr (kA 6, kA 1, 4, 60, .inl dls))]) (S := Nat) (fun (r : Int32) (y_r : Nat) => r = nI y_r ∧ (y_r ≤ 1)) (fun (y_r : Nat) => mflat [(d, .inl (.inr (0, [.ref d0, .ref d1, .ref d2]))), (d0, .inr (kA 6, kA 1, 4, 60, .inl dls))]) := by
  refine nx_startI (by decide +kernel) (Nat.le_of_ble_eq_true rfl) ?_
  intro x hnm h hq
  have h : Ok x cX0_areQuiet RX0 kA (rmC 1 0 0) 5 := h
  show J x (mflat [(d, .inl (.inr (0, [.ref d0, .ref d1, .ref d2]))), (d0, .inr (kA 6, kA 1, 4, 60, .inl dls))]) [(0, .ref d), (1, .int (nI er)), (2, .int (nI fr)), (3, .int (nI be))] 0 0 0 []
  refine j_iload_n h 2 rfl rfl dX0_areQuiet_0 ?_
  refine j_istore (lv' := [(4, .int (nI fr)), (0, .ref d), (1, .int (nI er)), (2, .int (nI fr)), (3, .int (nI be))]) h dX0_areQuiet_1 (by decide) rfl ?_
  have lp3_90 : ∀ (m3_90 : Nat), ∀ (v4_3_90 : Nat), (v4_3_90 ≤ 100000) → 100001 - v4_3_90 < m3_90 → J x (mflat [(d, .inl (.inr (0, [.ref d0, .ref d1, .ref d2]))), (d0, .inr (kA 6, kA 1, 4, 60, .inl dls))]) [(4, .int (nI v4_3_90)), (0, .ref d), (1, .int (nI er)), (2, .int (nI fr)), (3, .int (nI be))] 0 0 3 [] := by
    intro m3_90
    induction m3_90 with
    | zero =>
      intro v4_3_90 i3_90_0 hm3_90
      exact absurd hm3_90 (Nat.not_lt_zero _)
    | succ m3_90 ih3_90 =>
      intro v4_3_90 i3_90_0 hm3_90
      refine j_iload h 0 rfl dX0_areQuiet_3 ?_
      refine j_iload_n h 4 rfl rfl dX0_areQuiet_5 ?_
      refine j_icmp_ge h 36 dX0_areQuiet_6 (by decide) (fun z1148 => ?_) (fun z1148 => ?_)
      · have z1148n : be ≤ v4_3_90 := (nI_leI (a := be) (b := v4_3_90) (by omega) (by omega)).mp z1148
        refine j_iconst (v := 1) h (by decide) dX0_areQuiet_36 ?_
        exact jm_zret h hq rfl dX0_areQuiet_37 1 [0, 1] rfl (by decide) ⟨rfl, (show 1 ≤ 1 by first | assumption | omega)⟩ (Nat.le_of_ble_eq_true rfl) (Nat.le_of_ble_eq_true rfl)
      · have z1148n : ¬ be ≤ v4_3_90 := fun q9 => z1148 ((nI_leI (a := be) (b := v4_3_90) (by omega) (by omega)).mpr q9)
        refine j_iload h 0 rfl dX0_areQuiet_9 ?_
        refine j_bipush (v := 60) h (by decide) dX0_areQuiet_11 ?_
        refine j_icmp_ge h 36 dX0_areQuiet_13 (by decide) (fun z1149 => ?_) (fun z1149 => ?_)
        · have z1149n : 60 ≤ v4_3_90 := (nI_leI (a := 60) (b := v4_3_90) (by omega) (by omega)).mp z1149
          refine j_iconst (v := 1) h (by decide) dX0_areQuiet_36 ?_
          exact jm_zret h hq rfl dX0_areQuiet_37 1 [0, 1] rfl (by decide) ⟨rfl, (show 1 ≤ 1 by first | assumption | omega)⟩ (Nat.le_of_ble_eq_true rfl) (Nat.le_of_ble_eq_true rfl)
        · have z1149n : ¬ 60 ≤ v4_3_90 := fun q9 => z1149 ((nI_leI (a := 60) (b := v4_3_90) (by omega) (by omega)).mpr q9)
          refine j_aload_n h 1 rfl rfl dX0_areQuiet_16 ?_
          refine jm_get h iw_X0 0 rfl rfl 0 (by decide +kernel) tw_357 rfl dX0_areQuiet_17 ?_
          refine j_iload_n h 2 rfl rfl dX0_areQuiet_20 ?_
          refine jm_gout h 1 6 rfl rfl er rfl (by omega) (by omega) dX0_areQuiet_21 ?_
          refine j_iload h 0 rfl dX0_areQuiet_22 ?_
          refine jm_gald h 1 rfl er (by omega) v4_3_90 rfl (by omega) (by omega) dX0_areQuiet_24 ?_
          refine j_if_le h 30 dX0_areQuiet_25 (by decide) (fun z1150 => ?_) (fun z1150 => ?_)
          · show J x (mflat [(d, .inl (.inr (0, [.ref d0, .ref d1, .ref d2]))), (d0, .inr (kA 6, kA 1, 4, 60, .inl dls))]) [(4, .int (nI v4_3_90)), (0, .ref d), (1, .int (nI er)), (2, .int (nI fr)), (3, .int (nI be))] 0 0 30 []
            refine j_iinc (v := nI (v4_3_90 + 1)) (lv' := [(4, .int (nI (v4_3_90 + 1))), (0, .ref d), (1, .int (nI er)), (2, .int (nI fr)), (3, .int (nI be))]) h dX0_areQuiet_30 0 rfl (nI_add v4_3_90 1) (by decide) rfl ?_
            refine j_goto h 3 dX0_areQuiet_33 (by decide) ?_
            refine jm_sub [0, 1] (w' := [(d, .inl (.inr (0, [.ref d0, .ref d1, .ref d2]))), (d0, .inr (kA 6, kA 1, 4, 60, .inl dls))]) rfl (by decide +kernel) [0, 1, 2, 3, 4] (lv' := [(4, .int (nI (v4_3_90 + 1))), (0, .ref d), (1, .int (nI er)), (2, .int (nI fr)), (3, .int (nI be))]) rfl ?_
            exact ih3_90 (v4_3_90 + 1) (show (v4_3_90 + 1) ≤ 100000 by first | assumption | omega) (show 100001 - (v4_3_90 + 1) < m3_90 by first | exact Nat.lt_of_lt_of_le (Nat.sub_lt_sub_left (Nat.lt_of_le_of_lt (show v4_3_90 ≤ 100000 by assumption) (Nat.lt_succ_self 100000)) (Nat.lt_succ_self v4_3_90)) (Nat.le_of_lt_succ hm3_90) | omega)
          · show J x (mflat [(d, .inl (.inr (0, [.ref d0, .ref d1, .ref d2]))), (d0, .inr (kA 6, kA 1, 4, 60, .inl dls))]) [(4, .int (nI v4_3_90)), (0, .ref d), (1, .int (nI er)), (2, .int (nI fr)), (3, .int (nI be))] 0 0 28 []
            refine j_iconst (v := 0) h (by decide) dX0_areQuiet_28 ?_
            exact jm_zret h hq rfl dX0_areQuiet_29 0 [0, 1] rfl (by decide) ⟨rfl, (show 0 ≤ 1 by first | assumption | omega)⟩ (Nat.le_of_ble_eq_true rfl) (Nat.le_of_ble_eq_true rfl)
  refine jm_sub [0, 1] (w' := [(d, .inl (.inr (0, [.ref d0, .ref d1, .ref d2]))), (d0, .inr (kA 6, kA 1, 4, 60, .inl dls))]) rfl (by decide +kernel) [0, 1, 2, 3, 4] (lv' := [(4, .int (nI fr)), (0, .ref d), (1, .int (nI er)), (2, .int (nI fr)), (3, .int (nI be))]) rfl ?_
  exact lp3_90 (100001 - fr + 1) fr (show fr ≤ 100000 by first | assumption | omega) (Nat.lt_succ_self _)
set_option maxHeartbeats 4000000 in
set_option maxRecDepth 100000 in
theorem s_X0_areQuietFrom (lau : Launch) (gg : va_G) (kA : Nat → ClassId) (d : Nat) (tm : Nat) (d0 : Nat) (d1 : Nat) (d2 : Nat) (dls : Nat → Nat → Int32) (dnd : Nat → Int32) (htm : tm ≤ 60) : CtI lau yX0_areQuietFrom cX0_areQuietFrom 3 (some .boolean) 2 0 0 gg kA [.ref d, .int (nI tm)] (mflat [(d, .inl (.inr (0, [.ref d0, .ref d1, .ref d2]))), (d0, .inr (kA 6, kA 1, 4, 60, .inl dls)), (d2, .inl (.inl (kA 3, 4, .inl dnd)))]) (S := Nat) (fun (r : Int32) (y_r : Nat) => r = nI y_r ∧ (y_r ≤ 1)) (fun (y_r : Nat) => mflat [(d, .inl (.inr (0, [.ref d0, .ref d1, .ref d2]))), (d0, .inr (kA 6, kA 1, 4, 60, .inl dls)), (d2, .inl (.inl (kA 3, 4, .inl dnd)))]) := by
  refine nx_startI (by decide +kernel) (Nat.le_of_ble_eq_true rfl) ?_
  intro x hnm h hq
  have h : Ok x cX0_areQuietFrom RX0 kA (rmC 2 0 0) 3 := h
  show J x (mflat [(d, .inl (.inr (0, [.ref d0, .ref d1, .ref d2]))), (d0, .inr (kA 6, kA 1, 4, 60, .inl dls)), (d2, .inl (.inl (kA 3, 4, .inl dnd)))]) [(0, .ref d), (1, .int (nI tm))] 0 0 0 []
  refine j_iconst (v := 0) h (by decide) dX0_areQuietFrom_0 ?_
  refine j_istore_n (lv' := [(2, .int 0), (0, .ref d), (1, .int (nI tm))]) h dX0_areQuietFrom_1 rfl (by decide) rfl ?_
  have lp2_96 : ∀ (m2_96 : Nat), ∀ (v2_2_96 : Nat), (v2_2_96 ≤ 100000) → 100001 - v2_2_96 < m2_96 → J x (mflat [(d, .inl (.inr (0, [.ref d0, .ref d1, .ref d2]))), (d0, .inr (kA 6, kA 1, 4, 60, .inl dls)), (d2, .inl (.inl (kA 3, 4, .inl dnd)))]) [(2, .int (nI v2_2_96)), (0, .ref d), (1, .int (nI tm))] 0 0 2 [] := by
    intro m2_96
    induction m2_96 with
    | zero =>
      intro v2_2_96 i2_96_0 hm2_96
      exact absurd hm2_96 (Nat.not_lt_zero _)
    | succ m2_96 ih2_96 =>
      intro v2_2_96 i2_96_0 hm2_96
      refine j_iload_n h 0 rfl rfl dX0_areQuietFrom_2 ?_
      refine j_iconst (v := 4) h (by decide) dX0_areQuietFrom_3 ?_
      refine j_icmp_ge h 35 dX0_areQuietFrom_4 (by decide) (fun z1189 => ?_) (fun z1189 => ?_)
      · have z1189n : 4 ≤ v2_2_96 := (nI_leI (a := 4) (b := v2_2_96) (by omega) (by omega)).mp z1189
        refine j_iconst (v := 1) h (by decide) dX0_areQuietFrom_35 ?_
        exact jm_zret h hq rfl dX0_areQuietFrom_36 1 [0, 1, 2] rfl (by decide) ⟨rfl, (show 1 ≤ 1 by first | assumption | omega)⟩ (Nat.le_of_ble_eq_true rfl) (Nat.le_of_ble_eq_true rfl)
      · have z1189n : ¬ 4 ≤ v2_2_96 := fun q9 => z1189 ((nI_leI (a := 4) (b := v2_2_96) (by omega) (by omega)).mpr q9)
        refine j_aload_n h 1 rfl rfl dX0_areQuietFrom_7 ?_
        refine jm_get h iw_X0 0 rfl rfl 2 (by decide +kernel) tw_359 rfl dX0_areQuietFrom_8 ?_
        refine j_iload_n h 0 rfl rfl dX0_areQuietFrom_11 ?_
        refine jm_zald h 2 rfl v2_2_96 rfl (by omega) (by omega) dX0_areQuietFrom_12 ?_
        refine j_if_eq h 29 dX0_areQuietFrom_13 (by decide) (fun z1190 => ?_) (fun z1190 => ?_)
        · show J x (mflat [(d, .inl (.inr (0, [.ref d0, .ref d1, .ref d2]))), (d0, .inr (kA 6, kA 1, 4, 60, .inl dls)), (d2, .inl (.inl (kA 3, 4, .inl dnd)))]) [(2, .int (nI v2_2_96)), (0, .ref d), (1, .int (nI tm))] 0 0 29 []
          refine j_iinc (v := nI (v2_2_96 + 1)) (lv' := [(2, .int (nI (v2_2_96 + 1))), (0, .ref d), (1, .int (nI tm))]) h dX0_areQuietFrom_29 0 rfl (nI_add v2_2_96 1) (by decide) rfl ?_
          refine j_goto h 2 dX0_areQuietFrom_32 (by decide) ?_
          refine jm_sub [0, 1, 2] (w' := [(d, .inl (.inr (0, [.ref d0, .ref d1, .ref d2]))), (d0, .inr (kA 6, kA 1, 4, 60, .inl dls)), (d2, .inl (.inl (kA 3, 4, .inl dnd)))]) rfl (by decide +kernel) [0, 1, 2] (lv' := [(2, .int (nI (v2_2_96 + 1))), (0, .ref d), (1, .int (nI tm))]) rfl ?_
          exact ih2_96 (v2_2_96 + 1) (show (v2_2_96 + 1) ≤ 100000 by first | assumption | omega) (show 100001 - (v2_2_96 + 1) < m2_96 by first | exact Nat.lt_of_lt_of_le (Nat.sub_lt_sub_left (Nat.lt_of_le_of_lt (show v2_2_96 ≤ 100000 by assumption) (Nat.lt_succ_self 100000)) (Nat.lt_succ_self v2_2_96)) (Nat.le_of_lt_succ hm2_96) | omega)
        · show J x (mflat [(d, .inl (.inr (0, [.ref d0, .ref d1, .ref d2]))), (d0, .inr (kA 6, kA 1, 4, 60, .inl dls)), (d2, .inl (.inl (kA 3, 4, .inl dnd)))]) [(2, .int (nI v2_2_96)), (0, .ref d), (1, .int (nI tm))] 0 0 16 []
          refine j_aload_n h 1 rfl rfl dX0_areQuietFrom_16 ?_
          refine j_iload_n h 0 rfl rfl dX0_areQuietFrom_17 ?_
          refine j_iload_n h 2 rfl rfl dX0_areQuietFrom_18 ?_
          refine j_bipush (v := 60) h (by decide) dX0_areQuietFrom_19 ?_
          refine jm_callVi (np := 3) (isC := [0, 1]) (isR := [2]) (wc := [(d, .inl (.inr (0, [.ref d0, .ref d1, .ref d2]))), (d0, .inr (kA 6, kA 1, 4, 60, .inl dls))]) (wr := [(d2, .inl (.inl (kA 3, 4, .inl dnd)))]) (rest := []) (As := [.int (nI v2_2_96), .int (nI tm), .int 60]) (q0 := 0) h (s_X0_areQuiet _ _ kA d v2_2_96 tm 60 d0 d1 d2 dls (show v2_2_96 < 4 by first | assumption | omega) (show tm ≤ 1000 by first | assumption | omega) (show 60 ≤ 1000 by first | assumption | omega)) tw_851 tw_853 tw_18 tw_94 tw_854 (by decide +kernel) rfl ⟨Nat.le_of_ble_eq_true rfl, Nat.le_of_ble_eq_true rfl⟩ rfl rfl (by decide +kernel) rfl rfl (by decide +kernel) (by decide +kernel) (Nat.le_of_ble_eq_true rfl) rfl ⟨Nat.le_of_ble_eq_true rfl, Nat.le_of_ble_eq_true rfl⟩ dX0_areQuietFrom_21 ?_
          rintro r1193 q1191 e1192
          obtain ⟨p1194, p1195⟩ := e1192
          subst p1194
          replace p1195 : q1191 ≤ 1 := p1195
          show J x (mflat [(d2, .inl (.inl (kA 3, 4, .inl dnd))), (d, .inl (.inr (0, [.ref d0, .ref d1, .ref d2]))), (d0, .inr (kA 6, kA 1, 4, 60, .inl dls))]) [(2, .int (nI v2_2_96)), (0, .ref d), (1, .int (nI tm))] 0 0 24 [.int (nI q1191)]
          refine j_if_ne h 29 dX0_areQuietFrom_24 (by decide) (fun z1196 => ?_) (fun z1196 => ?_)
          · have z1196n : ¬ q1191 = 0 := fun q9 => z1196 ((nI_eq (a := q1191) (b := 0) (by omega) (by omega)).mpr q9)
            refine j_iinc (v := nI (v2_2_96 + 1)) (lv' := [(2, .int (nI (v2_2_96 + 1))), (0, .ref d), (1, .int (nI tm))]) h dX0_areQuietFrom_29 0 rfl (nI_add v2_2_96 1) (by decide) rfl ?_
            refine j_goto h 2 dX0_areQuietFrom_32 (by decide) ?_
            refine jm_sub [1, 2, 0] (w' := [(d, .inl (.inr (0, [.ref d0, .ref d1, .ref d2]))), (d0, .inr (kA 6, kA 1, 4, 60, .inl dls)), (d2, .inl (.inl (kA 3, 4, .inl dnd)))]) rfl (by decide +kernel) [0, 1, 2] (lv' := [(2, .int (nI (v2_2_96 + 1))), (0, .ref d), (1, .int (nI tm))]) rfl ?_
            exact ih2_96 (v2_2_96 + 1) (show (v2_2_96 + 1) ≤ 100000 by first | assumption | omega) (show 100001 - (v2_2_96 + 1) < m2_96 by first | exact Nat.lt_of_lt_of_le (Nat.sub_lt_sub_left (Nat.lt_of_le_of_lt (show v2_2_96 ≤ 100000 by assumption) (Nat.lt_succ_self 100000)) (Nat.lt_succ_self v2_2_96)) (Nat.le_of_lt_succ hm2_96) | omega)
          · have z1196n : q1191 = 0 := (nI_eq (a := q1191) (b := 0) (by omega) (by omega)).mp z1196
            refine j_iconst (v := 0) h (by decide) dX0_areQuietFrom_27 ?_
            exact jm_zret h hq rfl dX0_areQuietFrom_28 0 [1, 2, 0] rfl (by decide) ⟨rfl, (show 0 ≤ 1 by first | assumption | omega)⟩ (Nat.le_of_ble_eq_true rfl) (Nat.le_of_ble_eq_true rfl)
  refine jm_sub [0, 1, 2] (w' := [(d, .inl (.inr (0, [.ref d0, .ref d1, .ref d2]))), (d0, .inr (kA 6, kA 1, 4, 60, .inl dls)), (d2, .inl (.inl (kA 3, 4, .inl dnd)))]) rfl (by decide +kernel) [0, 1, 2] (lv' := [(2, .int 0), (0, .ref d), (1, .int (nI tm))]) rfl ?_
  exact lp2_96 (100001 - 0 + 1) 0 (show 0 ≤ 100000 by first | assumption | omega) (Nat.lt_succ_self _)
set_option maxHeartbeats 4000000 in
set_option maxRecDepth 100000 in
theorem s_X0_costTo (lau : Launch) (gg : va_G) (kA : Nat → ClassId) (d : Nat) (er : Nat) (hd : Int32) (tk : Nat) (mo : Nat) (d0 : Nat) (d1 : Nat) (d2 : Nat) (dls : Nat → Nat → Int32) (dms : Nat → Nat → Int32) (her : er < 4) (htk : tk ≤ 9) (hmo : mo < 60) : CtI lau yX0_costTo cX0_costTo 5 (some .int) 2 0 0 gg kA [.ref d, .int (nI er), .int hd, .int (nI tk), .int (nI mo)] (mflat [(d, .inl (.inr (0, [.ref d0, .ref d1, .ref d2]))), (d0, .inr (kA 6, kA 1, 4, 60, .inl dls)), (d1, .inr (kA 6, kA 1, 4, 60, .inl dms))]) (S := Nat) (fun (r : Int32) (y_r : Nat) => r = nI y_r ∧ (y_r ≤ 100)) (fun (y_r : Nat) => mflat [(d, .inl (.inr (0, [.ref d0, .ref d1, .ref d2]))), (d0, .inr (kA 6, kA 1, 4, 60, .inl dls)), (d1, .inr (kA 6, kA 1, 4, 60, .inl dms))]) := by
  refine nx_startI (by decide +kernel) (Nat.le_of_ble_eq_true rfl) ?_
  intro x hnm h hq
  have h : Ok x cX0_costTo RX0 kA (rmC 2 0 0) 5 := h
  show J x (mflat [(d, .inl (.inr (0, [.ref d0, .ref d1, .ref d2]))), (d0, .inr (kA 6, kA 1, 4, 60, .inl dls)), (d1, .inr (kA 6, kA 1, 4, 60, .inl dms))]) [(0, .ref d), (1, .int (nI er)), (2, .int hd), (3, .int (nI tk)), (4, .int (nI mo))] 0 0 0 []
  refine j_aload_n h 0 rfl rfl dX0_costTo_0 ?_
  refine j_iload_n h 1 rfl rfl dX0_costTo_1 ?_
  refine j_iload h 4 rfl dX0_costTo_2 ?_
  refine j_iconst (v := 1) h (by decide) dX0_costTo_4 ?_
  refine j_iadd h dX0_costTo_5 ?_
  refine j_top (b := nI (mo + 1)) (nI_add mo 1) ?_
  refine j_iload h 4 rfl dX0_costTo_6 ?_
  refine j_iload_n h 3 rfl rfl dX0_costTo_8 ?_
  refine j_iadd h dX0_costTo_9 ?_
  refine j_top (b := nI (mo + tk)) (nI_add mo tk) ?_
  refine jm_callVi (np := 3) (isC := [0, 1]) (isR := [2]) (wc := [(d, .inl (.inr (0, [.ref d0, .ref d1, .ref d2]))), (d0, .inr (kA 6, kA 1, 4, 60, .inl dls))]) (wr := [(d1, .inr (kA 6, kA 1, 4, 60, .inl dms))]) (rest := []) (As := [.int (nI er), .int (nI (mo + 1)), .int (nI (mo + tk))]) (q0 := 0) h (s_X0_areQuiet _ _ kA d er (mo + 1) (mo + tk) d0 d1 d2 dls (show er < 4 by first | assumption | omega) (show (mo + 1) ≤ 1000 by first | assumption | omega) (show (mo + tk) ≤ 1000 by first | assumption | omega)) tw_851 tw_853 tw_18 tw_94 tw_854 (by decide +kernel) rfl ⟨Nat.le_of_ble_eq_true rfl, Nat.le_of_ble_eq_true rfl⟩ rfl rfl (by decide +kernel) rfl rfl (by decide +kernel) (by decide +kernel) (Nat.le_of_ble_eq_true rfl) rfl ⟨Nat.le_of_ble_eq_true rfl, Nat.le_of_ble_eq_true rfl⟩ dX0_costTo_10 ?_
  rintro r1208 q1206 e1207
  obtain ⟨p1209, p1210⟩ := e1207
  subst p1209
  replace p1210 : q1206 ≤ 1 := p1210
  show J x (mflat [(d1, .inr (kA 6, kA 1, 4, 60, .inl dms)), (d, .inl (.inr (0, [.ref d0, .ref d1, .ref d2]))), (d0, .inr (kA 6, kA 1, 4, 60, .inl dls))]) [(0, .ref d), (1, .int (nI er)), (2, .int hd), (3, .int (nI tk)), (4, .int (nI mo))] 0 0 13 [.int (nI q1206)]
  refine j_if_eq h 29 dX0_costTo_13 (by decide) (fun z1211 => ?_) (fun z1211 => ?_)
  · have z1211n : q1206 = 0 := (nI_eq (a := q1206) (b := 0) (by omega) (by omega)).mp z1211
    refine j_bipush (v := 100) h (by decide) dX0_costTo_29 ?_
    exact jm_iret h hq dX0_costTo_31 100 [1, 2, 0] rfl (by decide) ⟨rfl, (show 100 ≤ 100 by first | assumption | omega)⟩ (Nat.le_of_ble_eq_true rfl) (Nat.le_of_ble_eq_true rfl)
  · have z1211n : ¬ q1206 = 0 := fun q9 => z1211 ((nI_eq (a := q1206) (b := 0) (by omega) (by omega)).mpr q9)
    refine j_iload_n h 2 rfl rfl dX0_costTo_16 ?_
    refine j_aload_n h 0 rfl rfl dX0_costTo_17 ?_
    refine jm_get h iw_X0 1 rfl rfl 0 (by decide +kernel) tw_357 rfl dX0_costTo_18 ?_
    refine j_iload_n h 1 rfl rfl dX0_costTo_21 ?_
    refine jm_gout h 2 6 rfl rfl er rfl (by omega) (by omega) dX0_costTo_22 ?_
    refine j_iload h 4 rfl dX0_costTo_23 ?_
    refine jm_gald h 2 rfl er (by omega) mo rfl (by omega) (by omega) dX0_costTo_25 ?_
    refine j_icmp_ge h 32 dX0_costTo_26 (by decide) (fun z1212 => ?_) (fun z1212 => ?_)
    · show J x (mflat [(d1, .inr (kA 6, kA 1, 4, 60, .inl dms)), (d, .inl (.inr (0, [.ref d0, .ref d1, .ref d2]))), (d0, .inr (kA 6, kA 1, 4, 60, .inl dls))]) [(0, .ref d), (1, .int (nI er)), (2, .int hd), (3, .int (nI tk)), (4, .int (nI mo))] 0 0 32 []
      refine j_iload_n h 2 rfl rfl dX0_costTo_32 ?_
      refine j_aload_n h 0 rfl rfl dX0_costTo_33 ?_
      refine jm_get h iw_X0 1 rfl rfl 1 (by decide +kernel) tw_358 rfl dX0_costTo_34 ?_
      refine j_iload_n h 1 rfl rfl dX0_costTo_37 ?_
      refine jm_gout h 0 6 rfl rfl er rfl (by omega) (by omega) dX0_costTo_38 ?_
      refine j_iload h 4 rfl dX0_costTo_39 ?_
      refine jm_gald h 0 rfl er (by omega) mo rfl (by omega) (by omega) dX0_costTo_41 ?_
      refine j_icmp_gt h 47 dX0_costTo_42 (by decide) (fun z1213 => ?_) (fun z1213 => ?_)
      · show J x (mflat [(d1, .inr (kA 6, kA 1, 4, 60, .inl dms)), (d, .inl (.inr (0, [.ref d0, .ref d1, .ref d2]))), (d0, .inr (kA 6, kA 1, 4, 60, .inl dls))]) [(0, .ref d), (1, .int (nI er)), (2, .int hd), (3, .int (nI tk)), (4, .int (nI mo))] 0 0 47 []
        refine j_aload_n h 0 rfl rfl dX0_costTo_47 ?_
        refine jm_get h iw_X0 1 rfl rfl 1 (by decide +kernel) tw_358 rfl dX0_costTo_48 ?_
        refine j_iload_n h 1 rfl rfl dX0_costTo_51 ?_
        refine jm_gout h 0 6 rfl rfl er rfl (by omega) (by omega) dX0_costTo_52 ?_
        refine j_iload h 4 rfl dX0_costTo_53 ?_
        refine jm_gald h 0 rfl er (by omega) mo rfl (by omega) (by omega) dX0_costTo_55 ?_
        refine j_if_ne h 63 dX0_costTo_56 (by decide) (fun z1214 => ?_) (fun z1214 => ?_)
        · show J x (mflat [(d1, .inr (kA 6, kA 1, 4, 60, .inl dms)), (d, .inl (.inr (0, [.ref d0, .ref d1, .ref d2]))), (d0, .inr (kA 6, kA 1, 4, 60, .inl dls))]) [(0, .ref d), (1, .int (nI er)), (2, .int hd), (3, .int (nI tk)), (4, .int (nI mo))] 0 0 63 []
          refine j_bipush (v := 100) h (by decide) dX0_costTo_63 ?_
          exact jm_iret h hq dX0_costTo_65 100 [1, 2, 0] rfl (by decide) ⟨rfl, (show 100 ≤ 100 by first | assumption | omega)⟩ (Nat.le_of_ble_eq_true rfl) (Nat.le_of_ble_eq_true rfl)
        · show J x (mflat [(d1, .inr (kA 6, kA 1, 4, 60, .inl dms)), (d, .inl (.inr (0, [.ref d0, .ref d1, .ref d2]))), (d0, .inr (kA 6, kA 1, 4, 60, .inl dls))]) [(0, .ref d), (1, .int (nI er)), (2, .int hd), (3, .int (nI tk)), (4, .int (nI mo))] 0 0 59 []
          refine j_iconst (v := 1) h (by decide) dX0_costTo_59 ?_
          refine j_goto h 65 dX0_costTo_60 (by decide) ?_
          exact jm_iret h hq dX0_costTo_65 1 [1, 2, 0] rfl (by decide) ⟨rfl, (show 1 ≤ 100 by first | assumption | omega)⟩ (Nat.le_of_ble_eq_true rfl) (Nat.le_of_ble_eq_true rfl)
      · show J x (mflat [(d1, .inr (kA 6, kA 1, 4, 60, .inl dms)), (d, .inl (.inr (0, [.ref d0, .ref d1, .ref d2]))), (d0, .inr (kA 6, kA 1, 4, 60, .inl dls))]) [(0, .ref d), (1, .int (nI er)), (2, .int hd), (3, .int (nI tk)), (4, .int (nI mo))] 0 0 45 []
        refine j_iconst (v := 0) h (by decide) dX0_costTo_45 ?_
        exact jm_iret h hq dX0_costTo_46 0 [1, 2, 0] rfl (by decide) ⟨rfl, (show 0 ≤ 100 by first | assumption | omega)⟩ (Nat.le_of_ble_eq_true rfl) (Nat.le_of_ble_eq_true rfl)
    · show J x (mflat [(d1, .inr (kA 6, kA 1, 4, 60, .inl dms)), (d, .inl (.inr (0, [.ref d0, .ref d1, .ref d2]))), (d0, .inr (kA 6, kA 1, 4, 60, .inl dls))]) [(0, .ref d), (1, .int (nI er)), (2, .int hd), (3, .int (nI tk)), (4, .int (nI mo))] 0 0 29 []
      refine j_bipush (v := 100) h (by decide) dX0_costTo_29 ?_
      exact jm_iret h hq dX0_costTo_31 100 [1, 2, 0] rfl (by decide) ⟨rfl, (show 100 ≤ 100 by first | assumption | omega)⟩ (Nat.le_of_ble_eq_true rfl) (Nat.le_of_ble_eq_true rfl)
set_option maxHeartbeats 4000000 in
set_option maxRecDepth 100000 in
theorem s_X0_costOf (lau : Launch) (gg : va_G) (kA : Nat → ClassId) (d : Nat) (s : Nat) (ld : Int32) (tk : Nat) (mo : Nat) (d0 : Nat) (d1 : Nat) (d2 : Nat) (dls : Nat → Nat → Int32) (dms : Nat → Nat → Int32) (dnd : Nat → Int32) (s0 : Nat) (s1 : Nat) (s2 : Nat) (s3 : Nat) (s4 : Nat) (s5 : Nat) (s6 : Nat) (s7 : Nat) (s8 : Nat) (s9 : Nat) (s10 : Nat) (s11 : Nat) (sn : Nat) (sl : Nat) (se : Nat) (sc10 : Nat → Int32) (hsn : sn ≤ 6) (hsl : sl ≤ 10) (hse : se ≤ 4) (htk : tk ≤ 9) (hmo : mo < 60) : CtI lau yX0_costOf cX0_costOf 7 (some .int) 3 0 0 gg kA [.ref d, .ref s, .int ld, .int (nI tk), .int (nI mo)] (mflat [(d, .inl (.inr (0, [.ref d0, .ref d1, .ref d2]))), (d0, .inr (kA 6, kA 1, 4, 60, .inl dls)), (d1, .inr (kA 6, kA 1, 4, 60, .inl dms)), (d2, .inl (.inl (kA 3, 4, .inl dnd))), (s, .inl (.inr (5, [.ref s0, .ref s1, .ref s2, .ref s3, .ref s4, .ref s5, .ref s6, .ref s7, .ref s8, .ref s9, .ref s10, .ref s11, .int (nI sn), .int (nI sl), .int (nI se)]))), (s10, .inl (.inl (kA 1, 4, .inl sc10)))]) (S := Nat) (fun (r : Int32) (y_r : Nat) => r = nI y_r ∧ (y_r ≤ 100)) (fun (y_r : Nat) => mflat [(d, .inl (.inr (0, [.ref d0, .ref d1, .ref d2]))), (d0, .inr (kA 6, kA 1, 4, 60, .inl dls)), (d1, .inr (kA 6, kA 1, 4, 60, .inl dms)), (d2, .inl (.inl (kA 3, 4, .inl dnd))), (s, .inl (.inr (5, [.ref s0, .ref s1, .ref s2, .ref s3, .ref s4, .ref s5, .ref s6, .ref s7, .ref s8, .ref s9, .ref s10, .ref s11, .int (nI sn), .int (nI sl), .int (nI se)]))), (s10, .inl (.inl (kA 1, 4, .inl sc10)))]) := by
  refine nx_startI (by decide +kernel) (Nat.le_of_ble_eq_true rfl) ?_
  intro x hnm h hq
  have h : Ok x cX0_costOf RX0 kA (rmC 3 0 0) 7 := h
  show J x (mflat [(d, .inl (.inr (0, [.ref d0, .ref d1, .ref d2]))), (d0, .inr (kA 6, kA 1, 4, 60, .inl dls)), (d1, .inr (kA 6, kA 1, 4, 60, .inl dms)), (d2, .inl (.inl (kA 3, 4, .inl dnd))), (s, .inl (.inr (5, [.ref s0, .ref s1, .ref s2, .ref s3, .ref s4, .ref s5, .ref s6, .ref s7, .ref s8, .ref s9, .ref s10, .ref s11, .int (nI sn), .int (nI sl), .int (nI se)]))), (s10, .inl (.inl (kA 1, 4, .inl sc10)))]) [(0, .ref d), (1, .ref s), (2, .int ld), (3, .int (nI tk)), (4, .int (nI mo))] 0 0 0 []
  refine j_iconst (v := 0) h (by decide) dX0_costOf_0 ?_
  refine j_istore (lv' := [(5, .int 0), (0, .ref d), (1, .ref s), (2, .int ld), (3, .int (nI tk)), (4, .int (nI mo))]) h dX0_costOf_1 (by decide) rfl ?_
  refine j_iconst (v := 0) h (by decide) dX0_costOf_3 ?_
  refine j_istore (lv' := [(6, .int 0), (5, .int 0), (0, .ref d), (1, .ref s), (2, .int ld), (3, .int (nI tk)), (4, .int (nI mo))]) h dX0_costOf_4 (by decide) rfl ?_
  have lp6_102 : ∀ (m6_102 : Nat), ∀ (v6_6_102 : Nat) (v5_6_102 : Nat), (v5_6_102 ≤ 100 * v6_6_102) → (v6_6_102 ≤ 4) → (v6_6_102 ≤ 100000) → (v5_6_102 ≤ 100000) → 100001 - v6_6_102 < m6_102 → J x (mflat [(d, .inl (.inr (0, [.ref d0, .ref d1, .ref d2]))), (d0, .inr (kA 6, kA 1, 4, 60, .inl dls)), (d1, .inr (kA 6, kA 1, 4, 60, .inl dms)), (d2, .inl (.inl (kA 3, 4, .inl dnd))), (s, .inl (.inr (5, [.ref s0, .ref s1, .ref s2, .ref s3, .ref s4, .ref s5, .ref s6, .ref s7, .ref s8, .ref s9, .ref s10, .ref s11, .int (nI sn), .int (nI sl), .int (nI se)]))), (s10, .inl (.inl (kA 1, 4, .inl sc10)))]) [(6, .int (nI v6_6_102)), (5, .int (nI v5_6_102)), (0, .ref d), (1, .ref s), (2, .int ld), (3, .int (nI tk)), (4, .int (nI mo))] 0 0 6 [] := by
    intro m6_102
    induction m6_102 with
    | zero =>
      intro v6_6_102 v5_6_102 i6_102_0 i6_102_1 i6_102_2 i6_102_3 hm6_102
      exact absurd hm6_102 (Nat.not_lt_zero _)
    | succ m6_102 ih6_102 =>
      intro v6_6_102 v5_6_102 i6_102_0 i6_102_1 i6_102_2 i6_102_3 hm6_102
      refine j_iload h 0 rfl dX0_costOf_6 ?_
      refine j_aload_n h 3 rfl rfl dX0_costOf_8 ?_
      refine jm_get h iw_X5 4 rfl rfl 14 (by decide +kernel) tw_230 rfl dX0_costOf_9 ?_
      refine j_icmp_ge h 56 dX0_costOf_12 (by decide) (fun z1260 => ?_) (fun z1260 => ?_)
      · have z1260n : se ≤ v6_6_102 := (nI_leI (a := se) (b := v6_6_102) (by omega) (by omega)).mp z1260
        refine j_iload h 1 rfl dX0_costOf_56 ?_
        refine j_bipush (v := 100) h (by decide) dX0_costOf_58 ?_
        refine j_mmin h tw_832 tw_809 tw_105 tw_810 (Nat.le_of_ble_eq_true rfl) (Nat.le_of_ble_eq_true rfl) (Nat.le_of_ble_eq_true rfl) (Nat.le_of_ble_eq_true rfl) (Nat.le_of_ble_eq_true rfl) dX0_costOf_60 ?_
        refine j_top (b := nI (min v5_6_102 100)) (nx_min (a := v5_6_102) (b := 100) (by omega) (by omega)) ?_
        exact jm_iret h hq dX0_costOf_63 (min v5_6_102 100) [0, 1, 2, 3, 4, 5] rfl (by decide) ⟨rfl, (show (min v5_6_102 100) ≤ 100 by first | assumption | omega)⟩ (Nat.le_of_ble_eq_true rfl) (Nat.le_of_ble_eq_true rfl)
      · have z1260n : ¬ se ≤ v6_6_102 := fun q9 => z1260 ((nI_leI (a := se) (b := v6_6_102) (by omega) (by omega)).mpr q9)
        refine j_iload h 1 rfl dX0_costOf_15 ?_
        refine j_aload_n h 2 rfl rfl dX0_costOf_17 ?_
        refine jm_get h iw_X0 0 rfl rfl 2 (by decide +kernel) tw_359 rfl dX0_costOf_18 ?_
        refine j_iload h 0 rfl dX0_costOf_21 ?_
        refine jm_zald h 3 rfl v6_6_102 rfl (by omega) (by omega) dX0_costOf_23 ?_
        refine j_if_eq h 46 dX0_costOf_24 (by decide) (fun z1261 => ?_) (fun z1261 => ?_)
        · show J x (mflat [(d, .inl (.inr (0, [.ref d0, .ref d1, .ref d2]))), (d0, .inr (kA 6, kA 1, 4, 60, .inl dls)), (d1, .inr (kA 6, kA 1, 4, 60, .inl dms)), (d2, .inl (.inl (kA 3, 4, .inl dnd))), (s, .inl (.inr (5, [.ref s0, .ref s1, .ref s2, .ref s3, .ref s4, .ref s5, .ref s6, .ref s7, .ref s8, .ref s9, .ref s10, .ref s11, .int (nI sn), .int (nI sl), .int (nI se)]))), (s10, .inl (.inl (kA 1, 4, .inl sc10)))]) [(6, .int (nI v6_6_102)), (5, .int (nI v5_6_102)), (0, .ref d), (1, .ref s), (2, .int ld), (3, .int (nI tk)), (4, .int (nI mo))] 0 0 46 [.int (nI v5_6_102)]
          refine j_iconst (v := 0) h (by decide) dX0_costOf_46 ?_
          refine j_iadd h dX0_costOf_47 ?_
          refine j_top (b := nI (v5_6_102 + 0)) (nI_add v5_6_102 0) ?_
          refine j_istore (lv' := [(5, .int (nI (v5_6_102 + 0))), (6, .int (nI v6_6_102)), (0, .ref d), (1, .ref s), (2, .int ld), (3, .int (nI tk)), (4, .int (nI mo))]) h dX0_costOf_48 (by decide) rfl ?_
          refine j_iinc (v := nI (v6_6_102 + 1)) (lv' := [(6, .int (nI (v6_6_102 + 1))), (5, .int (nI (v5_6_102 + 0))), (0, .ref d), (1, .ref s), (2, .int ld), (3, .int (nI tk)), (4, .int (nI mo))]) h dX0_costOf_50 1 rfl (nI_add v6_6_102 1) (by decide) rfl ?_
          refine j_goto h 6 dX0_costOf_53 (by decide) ?_
          refine jm_sub [0, 1, 2, 3, 4, 5] (w' := [(d, .inl (.inr (0, [.ref d0, .ref d1, .ref d2]))), (d0, .inr (kA 6, kA 1, 4, 60, .inl dls)), (d1, .inr (kA 6, kA 1, 4, 60, .inl dms)), (d2, .inl (.inl (kA 3, 4, .inl dnd))), (s, .inl (.inr (5, [.ref s0, .ref s1, .ref s2, .ref s3, .ref s4, .ref s5, .ref s6, .ref s7, .ref s8, .ref s9, .ref s10, .ref s11, .int (nI sn), .int (nI sl), .int (nI se)]))), (s10, .inl (.inl (kA 1, 4, .inl sc10)))]) rfl (by decide +kernel) [0, 1, 2, 3, 4, 5, 6] (lv' := [(6, .int (nI (v6_6_102 + 1))), (5, .int (nI (v5_6_102 + 0))), (0, .ref d), (1, .ref s), (2, .int ld), (3, .int (nI tk)), (4, .int (nI mo))]) rfl ?_
          exact ih6_102 (v6_6_102 + 1) (v5_6_102 + 0) (show (v5_6_102 + 0) ≤ 100 * (v6_6_102 + 1) by first | assumption | omega) (show (v6_6_102 + 1) ≤ 4 by first | assumption | omega) (show (v6_6_102 + 1) ≤ 100000 by first | assumption | omega) (show (v5_6_102 + 0) ≤ 100000 by first | assumption | omega) (show 100001 - (v6_6_102 + 1) < m6_102 by first | exact Nat.lt_of_lt_of_le (Nat.sub_lt_sub_left (Nat.lt_of_le_of_lt (show v6_6_102 ≤ 100000 by assumption) (Nat.lt_succ_self 100000)) (Nat.lt_succ_self v6_6_102)) (Nat.le_of_lt_succ hm6_102) | omega)
        · show J x (mflat [(d, .inl (.inr (0, [.ref d0, .ref d1, .ref d2]))), (d0, .inr (kA 6, kA 1, 4, 60, .inl dls)), (d1, .inr (kA 6, kA 1, 4, 60, .inl dms)), (d2, .inl (.inl (kA 3, 4, .inl dnd))), (s, .inl (.inr (5, [.ref s0, .ref s1, .ref s2, .ref s3, .ref s4, .ref s5, .ref s6, .ref s7, .ref s8, .ref s9, .ref s10, .ref s11, .int (nI sn), .int (nI sl), .int (nI se)]))), (s10, .inl (.inl (kA 1, 4, .inl sc10)))]) [(6, .int (nI v6_6_102)), (5, .int (nI v5_6_102)), (0, .ref d), (1, .ref s), (2, .int ld), (3, .int (nI tk)), (4, .int (nI mo))] 0 0 27 [.int (nI v5_6_102)]
          refine j_aload_n h 2 rfl rfl dX0_costOf_27 ?_
          refine j_iload h 0 rfl dX0_costOf_28 ?_
          refine j_aload_n h 3 rfl rfl dX0_costOf_30 ?_
          refine j_iload_n h 4 rfl rfl dX0_costOf_31 ?_
          refine j_iload h 0 rfl dX0_costOf_32 ?_
          refine jm_callVi (np := 2) (isC := [4, 5]) (isR := [0, 1, 2, 3]) (wc := [(s, .inl (.inr (5, [.ref s0, .ref s1, .ref s2, .ref s3, .ref s4, .ref s5, .ref s6, .ref s7, .ref s8, .ref s9, .ref s10, .ref s11, .int (nI sn), .int (nI sl), .int (nI se)]))), (s10, .inl (.inl (kA 1, 4, .inl sc10)))]) (wr := [(d, .inl (.inr (0, [.ref d0, .ref d1, .ref d2]))), (d0, .inr (kA 6, kA 1, 4, 60, .inl dls)), (d1, .inr (kA 6, kA 1, 4, 60, .inl dms)), (d2, .inl (.inl (kA 3, 4, .inl dnd)))]) (rest := [.int (nI v6_6_102), .ref d, .int (nI v5_6_102)]) (As := [.int ld, .int (nI v6_6_102)]) (q0 := 0) h (s_X5_heardBelow _ _ kA s ld (nI v6_6_102) s0 s1 s2 s3 s4 s5 s6 s7 s8 s9 s10 s11 sn sl se sc10 (show sn ≤ 6 by first | assumption | omega) (show sl ≤ 10 by first | assumption | omega) (show se ≤ 4 by first | assumption | omega)) tw_846 tw_798 tw_799 tw_90 tw_800 (by decide +kernel) rfl ⟨Nat.le_of_ble_eq_true rfl, Nat.le_of_ble_eq_true rfl⟩ rfl rfl (by decide +kernel) rfl rfl (by decide +kernel) (by decide +kernel) (Nat.le_of_ble_eq_true rfl) rfl ⟨Nat.le_of_ble_eq_true rfl, Nat.le_of_ble_eq_true rfl⟩ dX0_costOf_34 ?_
          rintro r1263 _ e1262
          show J x (mflat [(d, .inl (.inr (0, [.ref d0, .ref d1, .ref d2]))), (d0, .inr (kA 6, kA 1, 4, 60, .inl dls)), (d1, .inr (kA 6, kA 1, 4, 60, .inl dms)), (d2, .inl (.inl (kA 3, 4, .inl dnd))), (s, .inl (.inr (5, [.ref s0, .ref s1, .ref s2, .ref s3, .ref s4, .ref s5, .ref s6, .ref s7, .ref s8, .ref s9, .ref s10, .ref s11, .int (nI sn), .int (nI sl), .int (nI se)]))), (s10, .inl (.inl (kA 1, 4, .inl sc10)))]) [(6, .int (nI v6_6_102)), (5, .int (nI v5_6_102)), (0, .ref d), (1, .ref s), (2, .int ld), (3, .int (nI tk)), (4, .int (nI mo))] 0 0 37 [.int r1263, .int (nI v6_6_102), .ref d, .int (nI v5_6_102)]
          refine j_iload_n h 5 rfl rfl dX0_costOf_37 ?_
          refine j_iload h 6 rfl dX0_costOf_38 ?_
          refine jm_callVi (np := 4) (isC := [0, 1, 2]) (isR := [3, 4, 5]) (wc := [(d, .inl (.inr (0, [.ref d0, .ref d1, .ref d2]))), (d0, .inr (kA 6, kA 1, 4, 60, .inl dls)), (d1, .inr (kA 6, kA 1, 4, 60, .inl dms))]) (wr := [(d2, .inl (.inl (kA 3, 4, .inl dnd))), (s, .inl (.inr (5, [.ref s0, .ref s1, .ref s2, .ref s3, .ref s4, .ref s5, .ref s6, .ref s7, .ref s8, .ref s9, .ref s10, .ref s11, .int (nI sn), .int (nI sl), .int (nI se)]))), (s10, .inl (.inl (kA 1, 4, .inl sc10)))]) (rest := [.int (nI v5_6_102)]) (As := [.int (nI v6_6_102), .int r1263, .int (nI tk), .int (nI mo)]) (q0 := 0) h (s_X0_costTo _ _ kA d v6_6_102 r1263 tk mo d0 d1 d2 dls dms (show v6_6_102 < 4 by first | assumption | omega) (show tk ≤ 9 by first | assumption | omega) (show mo < 60 by first | assumption | omega)) tw_847 tw_849 tw_17 tw_94 tw_850 (by decide +kernel) rfl ⟨Nat.le_of_ble_eq_true rfl, Nat.le_of_ble_eq_true rfl⟩ rfl rfl (by decide +kernel) rfl rfl (by decide +kernel) (by decide +kernel) (Nat.le_of_ble_eq_true rfl) rfl ⟨Nat.le_of_ble_eq_true rfl, Nat.le_of_ble_eq_true rfl⟩ dX0_costOf_40 ?_
          rintro r1266 q1264 e1265
          obtain ⟨p1267, p1268⟩ := e1265
          subst p1267
          replace p1268 : q1264 ≤ 100 := p1268
          show J x (mflat [(d2, .inl (.inl (kA 3, 4, .inl dnd))), (s, .inl (.inr (5, [.ref s0, .ref s1, .ref s2, .ref s3, .ref s4, .ref s5, .ref s6, .ref s7, .ref s8, .ref s9, .ref s10, .ref s11, .int (nI sn), .int (nI sl), .int (nI se)]))), (s10, .inl (.inl (kA 1, 4, .inl sc10))), (d, .inl (.inr (0, [.ref d0, .ref d1, .ref d2]))), (d0, .inr (kA 6, kA 1, 4, 60, .inl dls)), (d1, .inr (kA 6, kA 1, 4, 60, .inl dms))]) [(6, .int (nI v6_6_102)), (5, .int (nI v5_6_102)), (0, .ref d), (1, .ref s), (2, .int ld), (3, .int (nI tk)), (4, .int (nI mo))] 0 0 43 [.int (nI q1264), .int (nI v5_6_102)]
          refine j_goto h 47 dX0_costOf_43 (by decide) ?_
          refine j_iadd h dX0_costOf_47 ?_
          refine j_top (b := nI (v5_6_102 + q1264)) (nI_add v5_6_102 q1264) ?_
          refine j_istore (lv' := [(5, .int (nI (v5_6_102 + q1264))), (6, .int (nI v6_6_102)), (0, .ref d), (1, .ref s), (2, .int ld), (3, .int (nI tk)), (4, .int (nI mo))]) h dX0_costOf_48 (by decide) rfl ?_
          refine j_iinc (v := nI (v6_6_102 + 1)) (lv' := [(6, .int (nI (v6_6_102 + 1))), (5, .int (nI (v5_6_102 + q1264))), (0, .ref d), (1, .ref s), (2, .int ld), (3, .int (nI tk)), (4, .int (nI mo))]) h dX0_costOf_50 1 rfl (nI_add v6_6_102 1) (by decide) rfl ?_
          refine j_goto h 6 dX0_costOf_53 (by decide) ?_
          refine jm_sub [3, 4, 5, 0, 1, 2] (w' := [(d, .inl (.inr (0, [.ref d0, .ref d1, .ref d2]))), (d0, .inr (kA 6, kA 1, 4, 60, .inl dls)), (d1, .inr (kA 6, kA 1, 4, 60, .inl dms)), (d2, .inl (.inl (kA 3, 4, .inl dnd))), (s, .inl (.inr (5, [.ref s0, .ref s1, .ref s2, .ref s3, .ref s4, .ref s5, .ref s6, .ref s7, .ref s8, .ref s9, .ref s10, .ref s11, .int (nI sn), .int (nI sl), .int (nI se)]))), (s10, .inl (.inl (kA 1, 4, .inl sc10)))]) rfl (by decide +kernel) [0, 1, 2, 3, 4, 5, 6] (lv' := [(6, .int (nI (v6_6_102 + 1))), (5, .int (nI (v5_6_102 + q1264))), (0, .ref d), (1, .ref s), (2, .int ld), (3, .int (nI tk)), (4, .int (nI mo))]) rfl ?_
          exact ih6_102 (v6_6_102 + 1) (v5_6_102 + q1264) (show (v5_6_102 + q1264) ≤ 100 * (v6_6_102 + 1) by first | assumption | omega) (show (v6_6_102 + 1) ≤ 4 by first | assumption | omega) (show (v6_6_102 + 1) ≤ 100000 by first | assumption | omega) (show (v5_6_102 + q1264) ≤ 100000 by first | assumption | omega) (show 100001 - (v6_6_102 + 1) < m6_102 by first | exact Nat.lt_of_lt_of_le (Nat.sub_lt_sub_left (Nat.lt_of_le_of_lt (show v6_6_102 ≤ 100000 by assumption) (Nat.lt_succ_self 100000)) (Nat.lt_succ_self v6_6_102)) (Nat.le_of_lt_succ hm6_102) | omega)
  refine jm_sub [0, 1, 2, 3, 4, 5] (w' := [(d, .inl (.inr (0, [.ref d0, .ref d1, .ref d2]))), (d0, .inr (kA 6, kA 1, 4, 60, .inl dls)), (d1, .inr (kA 6, kA 1, 4, 60, .inl dms)), (d2, .inl (.inl (kA 3, 4, .inl dnd))), (s, .inl (.inr (5, [.ref s0, .ref s1, .ref s2, .ref s3, .ref s4, .ref s5, .ref s6, .ref s7, .ref s8, .ref s9, .ref s10, .ref s11, .int (nI sn), .int (nI sl), .int (nI se)]))), (s10, .inl (.inl (kA 1, 4, .inl sc10)))]) rfl (by decide +kernel) [0, 1, 2, 3, 4, 5, 6] (lv' := [(6, .int 0), (5, .int 0), (0, .ref d), (1, .ref s), (2, .int ld), (3, .int (nI tk)), (4, .int (nI mo))]) rfl ?_
  exact lp6_102 (100001 - 0 + 1) 0 0 (show 0 ≤ 100 * 0 by first | assumption | omega) (show 0 ≤ 4 by first | assumption | omega) (show 0 ≤ 100000 by first | assumption | omega) (show 0 ≤ 100000 by first | assumption | omega) (Nat.lt_succ_self _)
set_option maxHeartbeats 4000000 in
set_option maxRecDepth 100000 in
theorem s_X8_narrowAsKnown (lau : Launch) (gg : va_G) (kA : Nat → ClassId) (z : Nat) (d : Nat) (kn : Int32) (z0 : Nat) (z1 : Nat) (z2 : Nat) (z3 : Nat) (z4 : Nat) (z5 : Nat) (zn : Nat) (zf0 : Nat → Int32) (zf1 : Nat → Int32) (zf2 : Nat → Int32) (zf3 : Nat → Int32) (zf4 : Nat → Int32) (zf5 : Nat → Int32) (d0 : Nat) (d1 : Nat) (d2 : Nat) (dls : Nat → Nat → Int32) (dms : Nat → Nat → Int32) (dnd : Nat → Int32) (hzn : zn ≤ 30) : CtV lau yX8_narrowAsKnown cX8_narrowAsKnown 5 (none) 3 0 0 gg kA [.ref z, .ref d, .int kn] (mflat [(z, .inl (.inr (8, [.ref z0, .ref z1, .ref z2, .ref z3, .ref z4, .ref z5, .int (nI zn)]))), (z0, .inl (.inl (kA 1, 30, .inl zf0))), (z1, .inl (.inl (kA 1, 30, .inl zf1))), (z2, .inl (.inl (kA 1, 30, .inl zf2))), (z3, .inl (.inl (kA 1, 30, .inl zf3))), (z4, .inl (.inl (kA 1, 30, .inl zf4))), (z5, .inl (.inl (kA 1, 30, .inl zf5))), (d, .inl (.inr (0, [.ref d0, .ref d1, .ref d2]))), (d0, .inr (kA 6, kA 1, 4, 60, .inl dls)), (d1, .inr (kA 6, kA 1, 4, 60, .inl dms)), (d2, .inl (.inl (kA 3, 4, .inl dnd)))]) (S := (Nat → Nat → Int32) × (Nat → Nat → Int32) × (Nat → Int32)) (fun ((y_d0, y_d1, y_d2) : (Nat → Nat → Int32) × (Nat → Nat → Int32) × (Nat → Int32)) => True) (fun ((y_d0, y_d1, y_d2) : (Nat → Nat → Int32) × (Nat → Nat → Int32) × (Nat → Int32)) => mflat [(z, .inl (.inr (8, [.ref z0, .ref z1, .ref z2, .ref z3, .ref z4, .ref z5, .int (nI zn)]))), (z0, .inl (.inl (kA 1, 30, .inl zf0))), (z1, .inl (.inl (kA 1, 30, .inl zf1))), (z2, .inl (.inl (kA 1, 30, .inl zf2))), (z3, .inl (.inl (kA 1, 30, .inl zf3))), (z4, .inl (.inl (kA 1, 30, .inl zf4))), (z5, .inl (.inl (kA 1, 30, .inl zf5))), (d, .inl (.inr (0, [.ref d0, .ref d1, .ref d2]))), (d0, .inr (kA 6, kA 1, 4, 60, .inl y_d0)), (d1, .inr (kA 6, kA 1, 4, 60, .inl y_d1)), (d2, .inl (.inl (kA 3, 4, .inl y_d2)))]) := by
  refine nx_startV (by decide +kernel) (Nat.le_of_ble_eq_true rfl) ?_
  intro x hnm h hq
  have h : Ok x cX8_narrowAsKnown RX8 kA (rmC 3 0 0) 5 := h
  show J x (mflat [(z, .inl (.inr (8, [.ref z0, .ref z1, .ref z2, .ref z3, .ref z4, .ref z5, .int (nI zn)]))), (z0, .inl (.inl (kA 1, 30, .inl zf0))), (z1, .inl (.inl (kA 1, 30, .inl zf1))), (z2, .inl (.inl (kA 1, 30, .inl zf2))), (z3, .inl (.inl (kA 1, 30, .inl zf3))), (z4, .inl (.inl (kA 1, 30, .inl zf4))), (z5, .inl (.inl (kA 1, 30, .inl zf5))), (d, .inl (.inr (0, [.ref d0, .ref d1, .ref d2]))), (d0, .inr (kA 6, kA 1, 4, 60, .inl dls)), (d1, .inr (kA 6, kA 1, 4, 60, .inl dms)), (d2, .inl (.inl (kA 3, 4, .inl dnd)))]) [(0, .ref z), (1, .ref d), (2, .int kn)] 0 0 0 []
  refine j_iconst (v := 0) h (by decide) dX8_narrowAsKnown_0 ?_
  refine j_istore_n (lv' := [(3, .int 0), (0, .ref z), (1, .ref d), (2, .int kn)]) h dX8_narrowAsKnown_1 rfl (by decide) rfl ?_
  have lp2_108 : ∀ (m2_108 : Nat), ∀ (v3_2_108 : Nat) (fd0_2_108 : Nat → Nat → Int32) (fd1_2_108 : Nat → Nat → Int32) (fd2_2_108 : Nat → Int32), (v3_2_108 ≤ 100000) → 100001 - v3_2_108 < m2_108 → J x (mflat [(z, .inl (.inr (8, [.ref z0, .ref z1, .ref z2, .ref z3, .ref z4, .ref z5, .int (nI zn)]))), (z0, .inl (.inl (kA 1, 30, .inl zf0))), (z1, .inl (.inl (kA 1, 30, .inl zf1))), (z2, .inl (.inl (kA 1, 30, .inl zf2))), (z3, .inl (.inl (kA 1, 30, .inl zf3))), (z4, .inl (.inl (kA 1, 30, .inl zf4))), (z5, .inl (.inl (kA 1, 30, .inl zf5))), (d, .inl (.inr (0, [.ref d0, .ref d1, .ref d2]))), (d0, .inr (kA 6, kA 1, 4, 60, .inl fd0_2_108)), (d1, .inr (kA 6, kA 1, 4, 60, .inl fd1_2_108)), (d2, .inl (.inl (kA 3, 4, .inl fd2_2_108)))]) [(3, .int (nI v3_2_108)), (0, .ref z), (1, .ref d), (2, .int kn)] 0 0 2 [] := by
    intro m2_108
    induction m2_108 with
    | zero =>
      intro v3_2_108 fd0_2_108 fd1_2_108 fd2_2_108 i2_108_0 hm2_108
      exact absurd hm2_108 (Nat.not_lt_zero _)
    | succ m2_108 ih2_108 =>
      intro v3_2_108 fd0_2_108 fd1_2_108 fd2_2_108 i2_108_0 hm2_108
      refine j_iload_n h 0 rfl rfl dX8_narrowAsKnown_2 ?_
      refine j_aload_n h 1 rfl rfl dX8_narrowAsKnown_3 ?_
      refine jm_get h iw_X8 0 rfl rfl 6 (by decide +kernel) tw_333 rfl dX8_narrowAsKnown_4 ?_
      refine j_icmp_ge h 87 dX8_narrowAsKnown_7 (by decide) (fun z1363 => ?_) (fun z1363 => ?_)
      · have z1363n : zn ≤ v3_2_108 := (nI_leI (a := zn) (b := v3_2_108) (by omega) (by omega)).mp z1363
        exact jm_vret h hq dX8_narrowAsKnown_87 (fd0_2_108, fd1_2_108, fd2_2_108) [0, 1, 2, 3, 4, 5, 6, 7, 8, 9, 10] rfl (by decide) trivial (Nat.le_of_ble_eq_true rfl) (Nat.le_of_ble_eq_true rfl)
      · have z1363n : ¬ zn ≤ v3_2_108 := fun q9 => z1363 ((nI_leI (a := zn) (b := v3_2_108) (by omega) (by omega)).mpr q9)
        refine j_aload_n h 1 rfl rfl dX8_narrowAsKnown_10 ?_
        refine jm_get h iw_X8 0 rfl rfl 5 (by decide +kernel) tw_332 rfl dX8_narrowAsKnown_11 ?_
        refine j_iload_n h 0 rfl rfl dX8_narrowAsKnown_14 ?_
        refine jm_iald h 6 rfl v3_2_108 rfl (by omega) (by omega) dX8_narrowAsKnown_15 ?_
        refine j_ldc h tw_1076 dX8_narrowAsKnown_16 ?_
        refine j_icmp_eq h 35 dX8_narrowAsKnown_18 (by decide) (fun z1364 => ?_) (fun z1364 => ?_)
        · show J x (mflat [(z, .inl (.inr (8, [.ref z0, .ref z1, .ref z2, .ref z3, .ref z4, .ref z5, .int (nI zn)]))), (z0, .inl (.inl (kA 1, 30, .inl zf0))), (z1, .inl (.inl (kA 1, 30, .inl zf1))), (z2, .inl (.inl (kA 1, 30, .inl zf2))), (z3, .inl (.inl (kA 1, 30, .inl zf3))), (z4, .inl (.inl (kA 1, 30, .inl zf4))), (z5, .inl (.inl (kA 1, 30, .inl zf5))), (d, .inl (.inr (0, [.ref d0, .ref d1, .ref d2]))), (d0, .inr (kA 6, kA 1, 4, 60, .inl fd0_2_108)), (d1, .inr (kA 6, kA 1, 4, 60, .inl fd1_2_108)), (d2, .inl (.inl (kA 3, 4, .inl fd2_2_108)))]) [(3, .int (nI v3_2_108)), (0, .ref z), (1, .ref d), (2, .int kn)] 0 0 35 []
          refine j_iconst (v := 0) h (by decide) dX8_narrowAsKnown_35 ?_
          refine j_istore (lv' := [(4, .int 0), (3, .int (nI v3_2_108)), (0, .ref z), (1, .ref d), (2, .int kn)]) h dX8_narrowAsKnown_36 (by decide) rfl ?_
          refine j_aload_n h 2 rfl rfl dX8_narrowAsKnown_38 ?_
          refine jm_get h iw_X8 0 rfl rfl 4 (by decide +kernel) tw_331 rfl dX8_narrowAsKnown_39 ?_
          refine j_iload_n h 1 rfl rfl dX8_narrowAsKnown_42 ?_
          refine jm_iald h 5 rfl v3_2_108 rfl (by omega) (by omega) dX8_narrowAsKnown_43 ?_
          refine j_iload_n h 4 rfl rfl dX8_narrowAsKnown_44 ?_
          refine j_icmp_gt h 81 dX8_narrowAsKnown_45 (by decide) (fun z1365 => ?_) (fun z1365 => ?_)
          · show J x (mflat [(z, .inl (.inr (8, [.ref z0, .ref z1, .ref z2, .ref z3, .ref z4, .ref z5, .int (nI zn)]))), (z0, .inl (.inl (kA 1, 30, .inl zf0))), (z1, .inl (.inl (kA 1, 30, .inl zf1))), (z2, .inl (.inl (kA 1, 30, .inl zf2))), (z3, .inl (.inl (kA 1, 30, .inl zf3))), (z4, .inl (.inl (kA 1, 30, .inl zf4))), (z5, .inl (.inl (kA 1, 30, .inl zf5))), (d, .inl (.inr (0, [.ref d0, .ref d1, .ref d2]))), (d0, .inr (kA 6, kA 1, 4, 60, .inl fd0_2_108)), (d1, .inr (kA 6, kA 1, 4, 60, .inl fd1_2_108)), (d2, .inl (.inl (kA 3, 4, .inl fd2_2_108)))]) [(4, .int 0), (3, .int (nI v3_2_108)), (0, .ref z), (1, .ref d), (2, .int kn)] 0 0 81 []
            refine j_iinc (v := nI (v3_2_108 + 1)) (lv' := [(3, .int (nI (v3_2_108 + 1))), (4, .int 0), (0, .ref z), (1, .ref d), (2, .int kn)]) h dX8_narrowAsKnown_81 1 rfl (nI_add v3_2_108 1) (by decide) rfl ?_
            refine j_goto h 2 dX8_narrowAsKnown_84 (by decide) ?_
            refine jm_sub [0, 1, 2, 3, 4, 5, 6, 7, 8, 9, 10] (w' := [(z, .inl (.inr (8, [.ref z0, .ref z1, .ref z2, .ref z3, .ref z4, .ref z5, .int (nI zn)]))), (z0, .inl (.inl (kA 1, 30, .inl zf0))), (z1, .inl (.inl (kA 1, 30, .inl zf1))), (z2, .inl (.inl (kA 1, 30, .inl zf2))), (z3, .inl (.inl (kA 1, 30, .inl zf3))), (z4, .inl (.inl (kA 1, 30, .inl zf4))), (z5, .inl (.inl (kA 1, 30, .inl zf5))), (d, .inl (.inr (0, [.ref d0, .ref d1, .ref d2]))), (d0, .inr (kA 6, kA 1, 4, 60, .inl fd0_2_108)), (d1, .inr (kA 6, kA 1, 4, 60, .inl fd1_2_108)), (d2, .inl (.inl (kA 3, 4, .inl fd2_2_108)))]) rfl (by decide +kernel) [0, 2, 3, 4] (lv' := [(3, .int (nI (v3_2_108 + 1))), (0, .ref z), (1, .ref d), (2, .int kn)]) rfl ?_
            exact ih2_108 (v3_2_108 + 1) fd0_2_108 fd1_2_108 fd2_2_108 (show (v3_2_108 + 1) ≤ 100000 by first | assumption | omega) (show 100001 - (v3_2_108 + 1) < m2_108 by first | exact Nat.lt_of_lt_of_le (Nat.sub_lt_sub_left (Nat.lt_of_le_of_lt (show v3_2_108 ≤ 100000 by assumption) (Nat.lt_succ_self 100000)) (Nat.lt_succ_self v3_2_108)) (Nat.le_of_lt_succ hm2_108) | omega)
          · show J x (mflat [(z, .inl (.inr (8, [.ref z0, .ref z1, .ref z2, .ref z3, .ref z4, .ref z5, .int (nI zn)]))), (z0, .inl (.inl (kA 1, 30, .inl zf0))), (z1, .inl (.inl (kA 1, 30, .inl zf1))), (z2, .inl (.inl (kA 1, 30, .inl zf2))), (z3, .inl (.inl (kA 1, 30, .inl zf3))), (z4, .inl (.inl (kA 1, 30, .inl zf4))), (z5, .inl (.inl (kA 1, 30, .inl zf5))), (d, .inl (.inr (0, [.ref d0, .ref d1, .ref d2]))), (d0, .inr (kA 6, kA 1, 4, 60, .inl fd0_2_108)), (d1, .inr (kA 6, kA 1, 4, 60, .inl fd1_2_108)), (d2, .inl (.inl (kA 3, 4, .inl fd2_2_108)))]) [(4, .int 0), (3, .int (nI v3_2_108)), (0, .ref z), (1, .ref d), (2, .int kn)] 0 0 48 []
            refine j_iload h 0 rfl dX8_narrowAsKnown_48 ?_
            refine j_if_ne h 81 dX8_narrowAsKnown_50 (by decide) (fun q => absurd (by decide) q) (fun _ => ?_)
            refine j_aload_n h 3 rfl rfl dX8_narrowAsKnown_53 ?_
            refine j_aload_n h 2 rfl rfl dX8_narrowAsKnown_54 ?_
            refine jm_get h iw_X8 0 rfl rfl 0 (by decide +kernel) tw_327 rfl dX8_narrowAsKnown_55 ?_
            refine j_iload_n h 1 rfl rfl dX8_narrowAsKnown_58 ?_
            refine jm_iald h 1 rfl v3_2_108 rfl (by omega) (by omega) dX8_narrowAsKnown_59 ?_
            refine j_aload_n h 2 rfl rfl dX8_narrowAsKnown_60 ?_
            refine jm_get h iw_X8 0 rfl rfl 1 (by decide +kernel) tw_328 rfl dX8_narrowAsKnown_61 ?_
            refine j_iload_n h 1 rfl rfl dX8_narrowAsKnown_64 ?_
            refine jm_iald h 2 rfl v3_2_108 rfl (by omega) (by omega) dX8_narrowAsKnown_65 ?_
            refine j_aload_n h 2 rfl rfl dX8_narrowAsKnown_66 ?_
            refine jm_get h iw_X8 0 rfl rfl 2 (by decide +kernel) tw_329 rfl dX8_narrowAsKnown_67 ?_
            refine j_iload_n h 1 rfl rfl dX8_narrowAsKnown_70 ?_
            refine jm_iald h 3 rfl v3_2_108 rfl (by omega) (by omega) dX8_narrowAsKnown_71 ?_
            refine j_aload_n h 2 rfl rfl dX8_narrowAsKnown_72 ?_
            refine jm_get h iw_X8 0 rfl rfl 3 (by decide +kernel) tw_330 rfl dX8_narrowAsKnown_73 ?_
            refine j_iload_n h 1 rfl rfl dX8_narrowAsKnown_76 ?_
            refine jm_iald h 4 rfl v3_2_108 rfl (by omega) (by omega) dX8_narrowAsKnown_77 ?_
            refine jm_callVv (np := 4) (isC := [7, 8, 9, 10]) (isR := [0, 1, 2, 3, 4, 5, 6]) (wc := [(d, .inl (.inr (0, [.ref d0, .ref d1, .ref d2]))), (d0, .inr (kA 6, kA 1, 4, 60, .inl fd0_2_108)), (d1, .inr (kA 6, kA 1, 4, 60, .inl fd1_2_108)), (d2, .inl (.inl (kA 3, 4, .inl fd2_2_108)))]) (wr := [(z, .inl (.inr (8, [.ref z0, .ref z1, .ref z2, .ref z3, .ref z4, .ref z5, .int (nI zn)]))), (z0, .inl (.inl (kA 1, 30, .inl zf0))), (z1, .inl (.inl (kA 1, 30, .inl zf1))), (z2, .inl (.inl (kA 1, 30, .inl zf2))), (z3, .inl (.inl (kA 1, 30, .inl zf3))), (z4, .inl (.inl (kA 1, 30, .inl zf4))), (z5, .inl (.inl (kA 1, 30, .inl zf5)))]) (rest := []) (As := [.int (zf0 v3_2_108), .int (zf1 v3_2_108), .int (zf2 v3_2_108), .int (zf3 v3_2_108)]) (q0 := 0) h (s_X0_narrow _ _ kA d (zf0 v3_2_108) (zf1 v3_2_108) (zf2 v3_2_108) (zf3 v3_2_108) d0 d1 d2 fd0_2_108 fd1_2_108 fd2_2_108 ) tw_1102 tw_825 tw_826 tw_94 tw_827 (by decide +kernel) rfl ⟨Nat.le_of_ble_eq_true rfl, Nat.le_of_ble_eq_true rfl⟩ rfl rfl (by decide +kernel) rfl rfl (by decide +kernel) (by decide +kernel) (Nat.le_of_ble_eq_true rfl) rfl ⟨Nat.le_of_ble_eq_true rfl, Nat.le_of_ble_eq_true rfl⟩ dX8_narrowAsKnown_78 ?_
            rintro ⟨q1366, q1367, q1368⟩ e1369
            show J x (mflat [(z, .inl (.inr (8, [.ref z0, .ref z1, .ref z2, .ref z3, .ref z4, .ref z5, .int (nI zn)]))), (z0, .inl (.inl (kA 1, 30, .inl zf0))), (z1, .inl (.inl (kA 1, 30, .inl zf1))), (z2, .inl (.inl (kA 1, 30, .inl zf2))), (z3, .inl (.inl (kA 1, 30, .inl zf3))), (z4, .inl (.inl (kA 1, 30, .inl zf4))), (z5, .inl (.inl (kA 1, 30, .inl zf5))), (d, .inl (.inr (0, [.ref d0, .ref d1, .ref d2]))), (d0, .inr (kA 6, kA 1, 4, 60, .inl q1366)), (d1, .inr (kA 6, kA 1, 4, 60, .inl q1367)), (d2, .inl (.inl (kA 3, 4, .inl q1368)))]) [(4, .int 0), (3, .int (nI v3_2_108)), (0, .ref z), (1, .ref d), (2, .int kn)] 0 0 81 []
            refine j_iinc (v := nI (v3_2_108 + 1)) (lv' := [(3, .int (nI (v3_2_108 + 1))), (4, .int 0), (0, .ref z), (1, .ref d), (2, .int kn)]) h dX8_narrowAsKnown_81 1 rfl (nI_add v3_2_108 1) (by decide) rfl ?_
            refine j_goto h 2 dX8_narrowAsKnown_84 (by decide) ?_
            refine jm_sub [0, 1, 2, 3, 4, 5, 6, 7, 8, 9, 10] (w' := [(z, .inl (.inr (8, [.ref z0, .ref z1, .ref z2, .ref z3, .ref z4, .ref z5, .int (nI zn)]))), (z0, .inl (.inl (kA 1, 30, .inl zf0))), (z1, .inl (.inl (kA 1, 30, .inl zf1))), (z2, .inl (.inl (kA 1, 30, .inl zf2))), (z3, .inl (.inl (kA 1, 30, .inl zf3))), (z4, .inl (.inl (kA 1, 30, .inl zf4))), (z5, .inl (.inl (kA 1, 30, .inl zf5))), (d, .inl (.inr (0, [.ref d0, .ref d1, .ref d2]))), (d0, .inr (kA 6, kA 1, 4, 60, .inl q1366)), (d1, .inr (kA 6, kA 1, 4, 60, .inl q1367)), (d2, .inl (.inl (kA 3, 4, .inl q1368)))]) rfl (by decide +kernel) [0, 2, 3, 4] (lv' := [(3, .int (nI (v3_2_108 + 1))), (0, .ref z), (1, .ref d), (2, .int kn)]) rfl ?_
            exact ih2_108 (v3_2_108 + 1) q1366 q1367 q1368 (show (v3_2_108 + 1) ≤ 100000 by first | assumption | omega) (show 100001 - (v3_2_108 + 1) < m2_108 by first | exact Nat.lt_of_lt_of_le (Nat.sub_lt_sub_left (Nat.lt_of_le_of_lt (show v3_2_108 ≤ 100000 by assumption) (Nat.lt_succ_self 100000)) (Nat.lt_succ_self v3_2_108)) (Nat.le_of_lt_succ hm2_108) | omega)
        · show J x (mflat [(z, .inl (.inr (8, [.ref z0, .ref z1, .ref z2, .ref z3, .ref z4, .ref z5, .int (nI zn)]))), (z0, .inl (.inl (kA 1, 30, .inl zf0))), (z1, .inl (.inl (kA 1, 30, .inl zf1))), (z2, .inl (.inl (kA 1, 30, .inl zf2))), (z3, .inl (.inl (kA 1, 30, .inl zf3))), (z4, .inl (.inl (kA 1, 30, .inl zf4))), (z5, .inl (.inl (kA 1, 30, .inl zf5))), (d, .inl (.inr (0, [.ref d0, .ref d1, .ref d2]))), (d0, .inr (kA 6, kA 1, 4, 60, .inl fd0_2_108)), (d1, .inr (kA 6, kA 1, 4, 60, .inl fd1_2_108)), (d2, .inl (.inl (kA 3, 4, .inl fd2_2_108)))]) [(3, .int (nI v3_2_108)), (0, .ref z), (1, .ref d), (2, .int kn)] 0 0 21 []
          refine j_aload_n h 1 rfl rfl dX8_narrowAsKnown_21 ?_
          refine jm_get h iw_X8 0 rfl rfl 5 (by decide +kernel) tw_332 rfl dX8_narrowAsKnown_22 ?_
          refine j_iload_n h 0 rfl rfl dX8_narrowAsKnown_25 ?_
          refine jm_iald h 6 rfl v3_2_108 rfl (by omega) (by omega) dX8_narrowAsKnown_26 ?_
          refine j_iload_n h 3 rfl rfl dX8_narrowAsKnown_27 ?_
          refine j_icmp_gt h 35 dX8_narrowAsKnown_28 (by decide) (fun z1371 => ?_) (fun z1371 => ?_)
          · show J x (mflat [(z, .inl (.inr (8, [.ref z0, .ref z1, .ref z2, .ref z3, .ref z4, .ref z5, .int (nI zn)]))), (z0, .inl (.inl (kA 1, 30, .inl zf0))), (z1, .inl (.inl (kA 1, 30, .inl zf1))), (z2, .inl (.inl (kA 1, 30, .inl zf2))), (z3, .inl (.inl (kA 1, 30, .inl zf3))), (z4, .inl (.inl (kA 1, 30, .inl zf4))), (z5, .inl (.inl (kA 1, 30, .inl zf5))), (d, .inl (.inr (0, [.ref d0, .ref d1, .ref d2]))), (d0, .inr (kA 6, kA 1, 4, 60, .inl fd0_2_108)), (d1, .inr (kA 6, kA 1, 4, 60, .inl fd1_2_108)), (d2, .inl (.inl (kA 3, 4, .inl fd2_2_108)))]) [(3, .int (nI v3_2_108)), (0, .ref z), (1, .ref d), (2, .int kn)] 0 0 35 []
            refine j_iconst (v := 0) h (by decide) dX8_narrowAsKnown_35 ?_
            refine j_istore (lv' := [(4, .int 0), (3, .int (nI v3_2_108)), (0, .ref z), (1, .ref d), (2, .int kn)]) h dX8_narrowAsKnown_36 (by decide) rfl ?_
            refine j_aload_n h 2 rfl rfl dX8_narrowAsKnown_38 ?_
            refine jm_get h iw_X8 0 rfl rfl 4 (by decide +kernel) tw_331 rfl dX8_narrowAsKnown_39 ?_
            refine j_iload_n h 1 rfl rfl dX8_narrowAsKnown_42 ?_
            refine jm_iald h 5 rfl v3_2_108 rfl (by omega) (by omega) dX8_narrowAsKnown_43 ?_
            refine j_iload_n h 4 rfl rfl dX8_narrowAsKnown_44 ?_
            refine j_icmp_gt h 81 dX8_narrowAsKnown_45 (by decide) (fun z1372 => ?_) (fun z1372 => ?_)
            · show J x (mflat [(z, .inl (.inr (8, [.ref z0, .ref z1, .ref z2, .ref z3, .ref z4, .ref z5, .int (nI zn)]))), (z0, .inl (.inl (kA 1, 30, .inl zf0))), (z1, .inl (.inl (kA 1, 30, .inl zf1))), (z2, .inl (.inl (kA 1, 30, .inl zf2))), (z3, .inl (.inl (kA 1, 30, .inl zf3))), (z4, .inl (.inl (kA 1, 30, .inl zf4))), (z5, .inl (.inl (kA 1, 30, .inl zf5))), (d, .inl (.inr (0, [.ref d0, .ref d1, .ref d2]))), (d0, .inr (kA 6, kA 1, 4, 60, .inl fd0_2_108)), (d1, .inr (kA 6, kA 1, 4, 60, .inl fd1_2_108)), (d2, .inl (.inl (kA 3, 4, .inl fd2_2_108)))]) [(4, .int 0), (3, .int (nI v3_2_108)), (0, .ref z), (1, .ref d), (2, .int kn)] 0 0 81 []
              refine j_iinc (v := nI (v3_2_108 + 1)) (lv' := [(3, .int (nI (v3_2_108 + 1))), (4, .int 0), (0, .ref z), (1, .ref d), (2, .int kn)]) h dX8_narrowAsKnown_81 1 rfl (nI_add v3_2_108 1) (by decide) rfl ?_
              refine j_goto h 2 dX8_narrowAsKnown_84 (by decide) ?_
              refine jm_sub [0, 1, 2, 3, 4, 5, 6, 7, 8, 9, 10] (w' := [(z, .inl (.inr (8, [.ref z0, .ref z1, .ref z2, .ref z3, .ref z4, .ref z5, .int (nI zn)]))), (z0, .inl (.inl (kA 1, 30, .inl zf0))), (z1, .inl (.inl (kA 1, 30, .inl zf1))), (z2, .inl (.inl (kA 1, 30, .inl zf2))), (z3, .inl (.inl (kA 1, 30, .inl zf3))), (z4, .inl (.inl (kA 1, 30, .inl zf4))), (z5, .inl (.inl (kA 1, 30, .inl zf5))), (d, .inl (.inr (0, [.ref d0, .ref d1, .ref d2]))), (d0, .inr (kA 6, kA 1, 4, 60, .inl fd0_2_108)), (d1, .inr (kA 6, kA 1, 4, 60, .inl fd1_2_108)), (d2, .inl (.inl (kA 3, 4, .inl fd2_2_108)))]) rfl (by decide +kernel) [0, 2, 3, 4] (lv' := [(3, .int (nI (v3_2_108 + 1))), (0, .ref z), (1, .ref d), (2, .int kn)]) rfl ?_
              exact ih2_108 (v3_2_108 + 1) fd0_2_108 fd1_2_108 fd2_2_108 (show (v3_2_108 + 1) ≤ 100000 by first | assumption | omega) (show 100001 - (v3_2_108 + 1) < m2_108 by first | exact Nat.lt_of_lt_of_le (Nat.sub_lt_sub_left (Nat.lt_of_le_of_lt (show v3_2_108 ≤ 100000 by assumption) (Nat.lt_succ_self 100000)) (Nat.lt_succ_self v3_2_108)) (Nat.le_of_lt_succ hm2_108) | omega)
            · show J x (mflat [(z, .inl (.inr (8, [.ref z0, .ref z1, .ref z2, .ref z3, .ref z4, .ref z5, .int (nI zn)]))), (z0, .inl (.inl (kA 1, 30, .inl zf0))), (z1, .inl (.inl (kA 1, 30, .inl zf1))), (z2, .inl (.inl (kA 1, 30, .inl zf2))), (z3, .inl (.inl (kA 1, 30, .inl zf3))), (z4, .inl (.inl (kA 1, 30, .inl zf4))), (z5, .inl (.inl (kA 1, 30, .inl zf5))), (d, .inl (.inr (0, [.ref d0, .ref d1, .ref d2]))), (d0, .inr (kA 6, kA 1, 4, 60, .inl fd0_2_108)), (d1, .inr (kA 6, kA 1, 4, 60, .inl fd1_2_108)), (d2, .inl (.inl (kA 3, 4, .inl fd2_2_108)))]) [(4, .int 0), (3, .int (nI v3_2_108)), (0, .ref z), (1, .ref d), (2, .int kn)] 0 0 48 []
              refine j_iload h 0 rfl dX8_narrowAsKnown_48 ?_
              refine j_if_ne h 81 dX8_narrowAsKnown_50 (by decide) (fun q => absurd (by decide) q) (fun _ => ?_)
              refine j_aload_n h 3 rfl rfl dX8_narrowAsKnown_53 ?_
              refine j_aload_n h 2 rfl rfl dX8_narrowAsKnown_54 ?_
              refine jm_get h iw_X8 0 rfl rfl 0 (by decide +kernel) tw_327 rfl dX8_narrowAsKnown_55 ?_
              refine j_iload_n h 1 rfl rfl dX8_narrowAsKnown_58 ?_
              refine jm_iald h 1 rfl v3_2_108 rfl (by omega) (by omega) dX8_narrowAsKnown_59 ?_
              refine j_aload_n h 2 rfl rfl dX8_narrowAsKnown_60 ?_
              refine jm_get h iw_X8 0 rfl rfl 1 (by decide +kernel) tw_328 rfl dX8_narrowAsKnown_61 ?_
              refine j_iload_n h 1 rfl rfl dX8_narrowAsKnown_64 ?_
              refine jm_iald h 2 rfl v3_2_108 rfl (by omega) (by omega) dX8_narrowAsKnown_65 ?_
              refine j_aload_n h 2 rfl rfl dX8_narrowAsKnown_66 ?_
              refine jm_get h iw_X8 0 rfl rfl 2 (by decide +kernel) tw_329 rfl dX8_narrowAsKnown_67 ?_
              refine j_iload_n h 1 rfl rfl dX8_narrowAsKnown_70 ?_
              refine jm_iald h 3 rfl v3_2_108 rfl (by omega) (by omega) dX8_narrowAsKnown_71 ?_
              refine j_aload_n h 2 rfl rfl dX8_narrowAsKnown_72 ?_
              refine jm_get h iw_X8 0 rfl rfl 3 (by decide +kernel) tw_330 rfl dX8_narrowAsKnown_73 ?_
              refine j_iload_n h 1 rfl rfl dX8_narrowAsKnown_76 ?_
              refine jm_iald h 4 rfl v3_2_108 rfl (by omega) (by omega) dX8_narrowAsKnown_77 ?_
              refine jm_callVv (np := 4) (isC := [7, 8, 9, 10]) (isR := [0, 1, 2, 3, 4, 5, 6]) (wc := [(d, .inl (.inr (0, [.ref d0, .ref d1, .ref d2]))), (d0, .inr (kA 6, kA 1, 4, 60, .inl fd0_2_108)), (d1, .inr (kA 6, kA 1, 4, 60, .inl fd1_2_108)), (d2, .inl (.inl (kA 3, 4, .inl fd2_2_108)))]) (wr := [(z, .inl (.inr (8, [.ref z0, .ref z1, .ref z2, .ref z3, .ref z4, .ref z5, .int (nI zn)]))), (z0, .inl (.inl (kA 1, 30, .inl zf0))), (z1, .inl (.inl (kA 1, 30, .inl zf1))), (z2, .inl (.inl (kA 1, 30, .inl zf2))), (z3, .inl (.inl (kA 1, 30, .inl zf3))), (z4, .inl (.inl (kA 1, 30, .inl zf4))), (z5, .inl (.inl (kA 1, 30, .inl zf5)))]) (rest := []) (As := [.int (zf0 v3_2_108), .int (zf1 v3_2_108), .int (zf2 v3_2_108), .int (zf3 v3_2_108)]) (q0 := 0) h (s_X0_narrow _ _ kA d (zf0 v3_2_108) (zf1 v3_2_108) (zf2 v3_2_108) (zf3 v3_2_108) d0 d1 d2 fd0_2_108 fd1_2_108 fd2_2_108 ) tw_1102 tw_825 tw_826 tw_94 tw_827 (by decide +kernel) rfl ⟨Nat.le_of_ble_eq_true rfl, Nat.le_of_ble_eq_true rfl⟩ rfl rfl (by decide +kernel) rfl rfl (by decide +kernel) (by decide +kernel) (Nat.le_of_ble_eq_true rfl) rfl ⟨Nat.le_of_ble_eq_true rfl, Nat.le_of_ble_eq_true rfl⟩ dX8_narrowAsKnown_78 ?_
              rintro ⟨q1373, q1374, q1375⟩ e1376
              show J x (mflat [(z, .inl (.inr (8, [.ref z0, .ref z1, .ref z2, .ref z3, .ref z4, .ref z5, .int (nI zn)]))), (z0, .inl (.inl (kA 1, 30, .inl zf0))), (z1, .inl (.inl (kA 1, 30, .inl zf1))), (z2, .inl (.inl (kA 1, 30, .inl zf2))), (z3, .inl (.inl (kA 1, 30, .inl zf3))), (z4, .inl (.inl (kA 1, 30, .inl zf4))), (z5, .inl (.inl (kA 1, 30, .inl zf5))), (d, .inl (.inr (0, [.ref d0, .ref d1, .ref d2]))), (d0, .inr (kA 6, kA 1, 4, 60, .inl q1373)), (d1, .inr (kA 6, kA 1, 4, 60, .inl q1374)), (d2, .inl (.inl (kA 3, 4, .inl q1375)))]) [(4, .int 0), (3, .int (nI v3_2_108)), (0, .ref z), (1, .ref d), (2, .int kn)] 0 0 81 []
              refine j_iinc (v := nI (v3_2_108 + 1)) (lv' := [(3, .int (nI (v3_2_108 + 1))), (4, .int 0), (0, .ref z), (1, .ref d), (2, .int kn)]) h dX8_narrowAsKnown_81 1 rfl (nI_add v3_2_108 1) (by decide) rfl ?_
              refine j_goto h 2 dX8_narrowAsKnown_84 (by decide) ?_
              refine jm_sub [0, 1, 2, 3, 4, 5, 6, 7, 8, 9, 10] (w' := [(z, .inl (.inr (8, [.ref z0, .ref z1, .ref z2, .ref z3, .ref z4, .ref z5, .int (nI zn)]))), (z0, .inl (.inl (kA 1, 30, .inl zf0))), (z1, .inl (.inl (kA 1, 30, .inl zf1))), (z2, .inl (.inl (kA 1, 30, .inl zf2))), (z3, .inl (.inl (kA 1, 30, .inl zf3))), (z4, .inl (.inl (kA 1, 30, .inl zf4))), (z5, .inl (.inl (kA 1, 30, .inl zf5))), (d, .inl (.inr (0, [.ref d0, .ref d1, .ref d2]))), (d0, .inr (kA 6, kA 1, 4, 60, .inl q1373)), (d1, .inr (kA 6, kA 1, 4, 60, .inl q1374)), (d2, .inl (.inl (kA 3, 4, .inl q1375)))]) rfl (by decide +kernel) [0, 2, 3, 4] (lv' := [(3, .int (nI (v3_2_108 + 1))), (0, .ref z), (1, .ref d), (2, .int kn)]) rfl ?_
              exact ih2_108 (v3_2_108 + 1) q1373 q1374 q1375 (show (v3_2_108 + 1) ≤ 100000 by first | assumption | omega) (show 100001 - (v3_2_108 + 1) < m2_108 by first | exact Nat.lt_of_lt_of_le (Nat.sub_lt_sub_left (Nat.lt_of_le_of_lt (show v3_2_108 ≤ 100000 by assumption) (Nat.lt_succ_self 100000)) (Nat.lt_succ_self v3_2_108)) (Nat.le_of_lt_succ hm2_108) | omega)
          · show J x (mflat [(z, .inl (.inr (8, [.ref z0, .ref z1, .ref z2, .ref z3, .ref z4, .ref z5, .int (nI zn)]))), (z0, .inl (.inl (kA 1, 30, .inl zf0))), (z1, .inl (.inl (kA 1, 30, .inl zf1))), (z2, .inl (.inl (kA 1, 30, .inl zf2))), (z3, .inl (.inl (kA 1, 30, .inl zf3))), (z4, .inl (.inl (kA 1, 30, .inl zf4))), (z5, .inl (.inl (kA 1, 30, .inl zf5))), (d, .inl (.inr (0, [.ref d0, .ref d1, .ref d2]))), (d0, .inr (kA 6, kA 1, 4, 60, .inl fd0_2_108)), (d1, .inr (kA 6, kA 1, 4, 60, .inl fd1_2_108)), (d2, .inl (.inl (kA 3, 4, .inl fd2_2_108)))]) [(3, .int (nI v3_2_108)), (0, .ref z), (1, .ref d), (2, .int kn)] 0 0 31 []
            refine j_iconst (v := 1) h (by decide) dX8_narrowAsKnown_31 ?_
            refine j_goto h 36 dX8_narrowAsKnown_32 (by decide) ?_
            refine j_istore (lv' := [(4, .int 1), (3, .int (nI v3_2_108)), (0, .ref z), (1, .ref d), (2, .int kn)]) h dX8_narrowAsKnown_36 (by decide) rfl ?_
            refine j_aload_n h 2 rfl rfl dX8_narrowAsKnown_38 ?_
            refine jm_get h iw_X8 0 rfl rfl 4 (by decide +kernel) tw_331 rfl dX8_narrowAsKnown_39 ?_
            refine j_iload_n h 1 rfl rfl dX8_narrowAsKnown_42 ?_
            refine jm_iald h 5 rfl v3_2_108 rfl (by omega) (by omega) dX8_narrowAsKnown_43 ?_
            refine j_iload_n h 4 rfl rfl dX8_narrowAsKnown_44 ?_
            refine j_icmp_gt h 81 dX8_narrowAsKnown_45 (by decide) (fun z1378 => ?_) (fun z1378 => ?_)
            · show J x (mflat [(z, .inl (.inr (8, [.ref z0, .ref z1, .ref z2, .ref z3, .ref z4, .ref z5, .int (nI zn)]))), (z0, .inl (.inl (kA 1, 30, .inl zf0))), (z1, .inl (.inl (kA 1, 30, .inl zf1))), (z2, .inl (.inl (kA 1, 30, .inl zf2))), (z3, .inl (.inl (kA 1, 30, .inl zf3))), (z4, .inl (.inl (kA 1, 30, .inl zf4))), (z5, .inl (.inl (kA 1, 30, .inl zf5))), (d, .inl (.inr (0, [.ref d0, .ref d1, .ref d2]))), (d0, .inr (kA 6, kA 1, 4, 60, .inl fd0_2_108)), (d1, .inr (kA 6, kA 1, 4, 60, .inl fd1_2_108)), (d2, .inl (.inl (kA 3, 4, .inl fd2_2_108)))]) [(4, .int 1), (3, .int (nI v3_2_108)), (0, .ref z), (1, .ref d), (2, .int kn)] 0 0 81 []
              refine j_iinc (v := nI (v3_2_108 + 1)) (lv' := [(3, .int (nI (v3_2_108 + 1))), (4, .int 1), (0, .ref z), (1, .ref d), (2, .int kn)]) h dX8_narrowAsKnown_81 1 rfl (nI_add v3_2_108 1) (by decide) rfl ?_
              refine j_goto h 2 dX8_narrowAsKnown_84 (by decide) ?_
              refine jm_sub [0, 1, 2, 3, 4, 5, 6, 7, 8, 9, 10] (w' := [(z, .inl (.inr (8, [.ref z0, .ref z1, .ref z2, .ref z3, .ref z4, .ref z5, .int (nI zn)]))), (z0, .inl (.inl (kA 1, 30, .inl zf0))), (z1, .inl (.inl (kA 1, 30, .inl zf1))), (z2, .inl (.inl (kA 1, 30, .inl zf2))), (z3, .inl (.inl (kA 1, 30, .inl zf3))), (z4, .inl (.inl (kA 1, 30, .inl zf4))), (z5, .inl (.inl (kA 1, 30, .inl zf5))), (d, .inl (.inr (0, [.ref d0, .ref d1, .ref d2]))), (d0, .inr (kA 6, kA 1, 4, 60, .inl fd0_2_108)), (d1, .inr (kA 6, kA 1, 4, 60, .inl fd1_2_108)), (d2, .inl (.inl (kA 3, 4, .inl fd2_2_108)))]) rfl (by decide +kernel) [0, 2, 3, 4] (lv' := [(3, .int (nI (v3_2_108 + 1))), (0, .ref z), (1, .ref d), (2, .int kn)]) rfl ?_
              exact ih2_108 (v3_2_108 + 1) fd0_2_108 fd1_2_108 fd2_2_108 (show (v3_2_108 + 1) ≤ 100000 by first | assumption | omega) (show 100001 - (v3_2_108 + 1) < m2_108 by first | exact Nat.lt_of_lt_of_le (Nat.sub_lt_sub_left (Nat.lt_of_le_of_lt (show v3_2_108 ≤ 100000 by assumption) (Nat.lt_succ_self 100000)) (Nat.lt_succ_self v3_2_108)) (Nat.le_of_lt_succ hm2_108) | omega)
            · show J x (mflat [(z, .inl (.inr (8, [.ref z0, .ref z1, .ref z2, .ref z3, .ref z4, .ref z5, .int (nI zn)]))), (z0, .inl (.inl (kA 1, 30, .inl zf0))), (z1, .inl (.inl (kA 1, 30, .inl zf1))), (z2, .inl (.inl (kA 1, 30, .inl zf2))), (z3, .inl (.inl (kA 1, 30, .inl zf3))), (z4, .inl (.inl (kA 1, 30, .inl zf4))), (z5, .inl (.inl (kA 1, 30, .inl zf5))), (d, .inl (.inr (0, [.ref d0, .ref d1, .ref d2]))), (d0, .inr (kA 6, kA 1, 4, 60, .inl fd0_2_108)), (d1, .inr (kA 6, kA 1, 4, 60, .inl fd1_2_108)), (d2, .inl (.inl (kA 3, 4, .inl fd2_2_108)))]) [(4, .int 1), (3, .int (nI v3_2_108)), (0, .ref z), (1, .ref d), (2, .int kn)] 0 0 48 []
              refine j_iload h 0 rfl dX8_narrowAsKnown_48 ?_
              refine j_if_ne h 81 dX8_narrowAsKnown_50 (by decide) (fun _ => ?_) (fun q => absurd q (by decide))
              refine j_iinc (v := nI (v3_2_108 + 1)) (lv' := [(3, .int (nI (v3_2_108 + 1))), (4, .int 1), (0, .ref z), (1, .ref d), (2, .int kn)]) h dX8_narrowAsKnown_81 1 rfl (nI_add v3_2_108 1) (by decide) rfl ?_
              refine j_goto h 2 dX8_narrowAsKnown_84 (by decide) ?_
              refine jm_sub [0, 1, 2, 3, 4, 5, 6, 7, 8, 9, 10] (w' := [(z, .inl (.inr (8, [.ref z0, .ref z1, .ref z2, .ref z3, .ref z4, .ref z5, .int (nI zn)]))), (z0, .inl (.inl (kA 1, 30, .inl zf0))), (z1, .inl (.inl (kA 1, 30, .inl zf1))), (z2, .inl (.inl (kA 1, 30, .inl zf2))), (z3, .inl (.inl (kA 1, 30, .inl zf3))), (z4, .inl (.inl (kA 1, 30, .inl zf4))), (z5, .inl (.inl (kA 1, 30, .inl zf5))), (d, .inl (.inr (0, [.ref d0, .ref d1, .ref d2]))), (d0, .inr (kA 6, kA 1, 4, 60, .inl fd0_2_108)), (d1, .inr (kA 6, kA 1, 4, 60, .inl fd1_2_108)), (d2, .inl (.inl (kA 3, 4, .inl fd2_2_108)))]) rfl (by decide +kernel) [0, 2, 3, 4] (lv' := [(3, .int (nI (v3_2_108 + 1))), (0, .ref z), (1, .ref d), (2, .int kn)]) rfl ?_
              exact ih2_108 (v3_2_108 + 1) fd0_2_108 fd1_2_108 fd2_2_108 (show (v3_2_108 + 1) ≤ 100000 by first | assumption | omega) (show 100001 - (v3_2_108 + 1) < m2_108 by first | exact Nat.lt_of_lt_of_le (Nat.sub_lt_sub_left (Nat.lt_of_le_of_lt (show v3_2_108 ≤ 100000 by assumption) (Nat.lt_succ_self 100000)) (Nat.lt_succ_self v3_2_108)) (Nat.le_of_lt_succ hm2_108) | omega)
  refine jm_sub [0, 1, 2, 3, 4, 5, 6, 7, 8, 9, 10] (w' := [(z, .inl (.inr (8, [.ref z0, .ref z1, .ref z2, .ref z3, .ref z4, .ref z5, .int (nI zn)]))), (z0, .inl (.inl (kA 1, 30, .inl zf0))), (z1, .inl (.inl (kA 1, 30, .inl zf1))), (z2, .inl (.inl (kA 1, 30, .inl zf2))), (z3, .inl (.inl (kA 1, 30, .inl zf3))), (z4, .inl (.inl (kA 1, 30, .inl zf4))), (z5, .inl (.inl (kA 1, 30, .inl zf5))), (d, .inl (.inr (0, [.ref d0, .ref d1, .ref d2]))), (d0, .inr (kA 6, kA 1, 4, 60, .inl dls)), (d1, .inr (kA 6, kA 1, 4, 60, .inl dms)), (d2, .inl (.inl (kA 3, 4, .inl dnd)))]) rfl (by decide +kernel) [0, 1, 2, 3] (lv' := [(3, .int 0), (0, .ref z), (1, .ref d), (2, .int kn)]) rfl ?_
  exact lp2_108 (100001 - 0 + 1) 0 dls dms dnd (show 0 ≤ 100000 by first | assumption | omega) (Nat.lt_succ_self _)
