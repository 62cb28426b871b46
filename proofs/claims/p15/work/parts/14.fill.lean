theorem tsum_mono {n c : Nat} {tk row : Nat → Int32} (ht : TkOk n tk) (hr : ∀ j, j < c → ∃ k, k < n ∧ row j = nI k) (hn : n ≤ 6) {i j : Nat} (h : i ≤ j) (hj : j ≤ c) : tsum tk row i ≤ tsum tk row j := by
  rcases (show i = j ∨ i < j by omega) with rfl | q
  · exact Nat.le_refl _
  · exact Nat.le_of_lt (tsum_lt ht hr hn q hj)
theorem dX3_takeSteps_0 : decode cX3_takeSteps 0 = .ok (.aload_n 0, 1) := by decide +kernel
theorem dX3_takeSteps_1 : decode cX3_takeSteps 1 = .ok (.aload_n 1, 1) := by decide +kernel
theorem dX3_takeSteps_2 : decode cX3_takeSteps 2 = .ok (.getfield 60, 3) := by decide +kernel
theorem tw_220 : Cond.fieldLink RX3 60 "LimpCode$School" "stepCount" "I" ∈ TT := nx_mem 220 (by decide +kernel) (by decide +kernel)
theorem dX3_takeSteps_5 : decode cX3_takeSteps 5 = .ok (.putfield 45, 3) := by decide +kernel
theorem dX3_takeSteps_8 : decode cX3_takeSteps 8 = .ok (.iconst 0, 1) := by decide +kernel
theorem dX3_takeSteps_9 : decode cX3_takeSteps 9 = .ok (.istore_n 2, 1) := by decide +kernel
theorem dX3_takeSteps_10 : decode cX3_takeSteps 10 = .ok (.iload_n 2, 1) := by decide +kernel
theorem dX3_takeSteps_11 : decode cX3_takeSteps 11 = .ok (.aload_n 0, 1) := by decide +kernel
theorem dX3_takeSteps_12 : decode cX3_takeSteps 12 = .ok (.getfield 45, 3) := by decide +kernel
theorem dX3_takeSteps_15 : decode cX3_takeSteps 15 = .ok (.if_icmp .ge 49, 3) := by decide +kernel
theorem dX3_takeSteps_64 : decode cX3_takeSteps 64 = .ok (.return_, 1) := by decide +kernel
theorem dX3_takeSteps_18 : decode cX3_takeSteps 18 = .ok (.aload_n 0, 1) := by decide +kernel
theorem dX3_takeSteps_19 : decode cX3_takeSteps 19 = .ok (.getfield 26, 3) := by decide +kernel
theorem dX3_takeSteps_22 : decode cX3_takeSteps 22 = .ok (.iload_n 2, 1) := by decide +kernel
theorem dX3_takeSteps_23 : decode cX3_takeSteps 23 = .ok (.aload_n 1, 1) := by decide +kernel
theorem dX3_takeSteps_24 : decode cX3_takeSteps 24 = .ok (.getfield 63, 3) := by decide +kernel
theorem tw_179 : Cond.fieldLink RX3 63 "LimpCode$School" "takes" "[I" ∈ TT := nx_mem 179 (by decide +kernel) (by decide +kernel)
theorem dX3_takeSteps_27 : decode cX3_takeSteps 27 = .ok (.iload_n 2, 1) := by decide +kernel
theorem dX3_takeSteps_28 : decode cX3_takeSteps 28 = .ok (.iaload, 1) := by decide +kernel
theorem dX3_takeSteps_29 : decode cX3_takeSteps 29 = .ok (.iastore, 1) := by decide +kernel
theorem dX3_takeSteps_30 : decode cX3_takeSteps 30 = .ok (.aload_n 0, 1) := by decide +kernel
theorem dX3_takeSteps_31 : decode cX3_takeSteps 31 = .ok (.getfield 32, 3) := by decide +kernel
theorem dX3_takeSteps_34 : decode cX3_takeSteps 34 = .ok (.iload_n 2, 1) := by decide +kernel
theorem dX3_takeSteps_35 : decode cX3_takeSteps 35 = .ok (.aaload, 1) := by decide +kernel
theorem dX3_takeSteps_36 : decode cX3_takeSteps 36 = .ok (.iconst 0, 1) := by decide +kernel
theorem dX3_takeSteps_37 : decode cX3_takeSteps 37 = .ok (.aload_n 1, 1) := by decide +kernel
theorem dX3_takeSteps_38 : decode cX3_takeSteps 38 = .ok (.iload_n 2, 1) := by decide +kernel
theorem dX3_takeSteps_39 : decode cX3_takeSteps 39 = .ok (.iconst 0, 1) := by decide +kernel
theorem dX3_takeSteps_40 : decode cX3_takeSteps 40 = .ok (.invokevirtual 64, 3) := by decide +kernel
theorem tw_841 : Cond.methodLink RX3 64 yX5_footAfter ∈ TT := nx_mem 841 (by decide +kernel) (by decide +kernel)
theorem dX3_takeSteps_43 : decode cX3_takeSteps 43 = .ok (.iastore, 1) := by decide +kernel
theorem dX3_takeSteps_44 : decode cX3_takeSteps 44 = .ok (.aload_n 0, 1) := by decide +kernel
theorem dX3_takeSteps_45 : decode cX3_takeSteps 45 = .ok (.getfield 32, 3) := by decide +kernel
theorem dX3_takeSteps_48 : decode cX3_takeSteps 48 = .ok (.iload_n 2, 1) := by decide +kernel
theorem dX3_takeSteps_49 : decode cX3_takeSteps 49 = .ok (.aaload, 1) := by decide +kernel
theorem dX3_takeSteps_50 : decode cX3_takeSteps 50 = .ok (.iconst 1, 1) := by decide +kernel
theorem dX3_takeSteps_51 : decode cX3_takeSteps 51 = .ok (.aload_n 1, 1) := by decide +kernel
theorem dX3_takeSteps_52 : decode cX3_takeSteps 52 = .ok (.iload_n 2, 1) := by decide +kernel
theorem dX3_takeSteps_53 : decode cX3_takeSteps 53 = .ok (.iconst 1, 1) := by decide +kernel
theorem dX3_takeSteps_54 : decode cX3_takeSteps 54 = .ok (.invokevirtual 64, 3) := by decide +kernel
theorem dX3_takeSteps_57 : decode cX3_takeSteps 57 = .ok (.iastore, 1) := by decide +kernel
theorem dX3_takeSteps_58 : decode cX3_takeSteps 58 = .ok (.iinc 2 1, 3) := by decide +kernel
theorem dX3_takeSteps_61 : decode cX3_takeSteps 61 = .ok (.goto (-51), 3) := by decide +kernel
theorem dX3_fillSteps_0 : decode cX3_fillSteps 0 = .ok (.aload_n 0, 1) := by decide +kernel
theorem dX3_fillSteps_1 : decode cX3_fillSteps 1 = .ok (.aload_n 1, 1) := by decide +kernel
theorem dX3_fillSteps_2 : decode cX3_fillSteps 2 = .ok (.invokevirtual 41, 3) := by decide +kernel
theorem tw_837 : Cond.methodLink RX3 41 yX3_takeSteps ∈ TT := nx_mem 837 (by decide +kernel) (by decide +kernel)
theorem tw_839 : Cond.instanceMethod yX3_takeSteps ∈ TT := nx_mem 839 (by decide +kernel) (by decide +kernel)
theorem tw_16 : Cond.selects RX3 yX3_takeSteps yX3_takeSteps ∈ TT := nx_mem 16 (by decide +kernel) (by decide +kernel)
theorem tw_840 : Cond.code yX3_takeSteps cX3_takeSteps 3 none ∈ TT := nx_mem 840 (by decide +kernel) (by decide +kernel)
theorem dX3_fillSteps_5 : decode cX3_fillSteps 5 = .ok (.iconst 0, 1) := by decide +kernel
theorem dX3_fillSteps_6 : decode cX3_fillSteps 6 = .ok (.istore 5, 2) := by decide +kernel
theorem dX3_fillSteps_8 : decode cX3_fillSteps 8 = .ok (.iload 5, 2) := by decide +kernel
theorem dX3_fillSteps_10 : decode cX3_fillSteps 10 = .ok (.aload_n 0, 1) := by decide +kernel
theorem dX3_fillSteps_11 : decode cX3_fillSteps 11 = .ok (.getfield 45, 3) := by decide +kernel
theorem dX3_fillSteps_14 : decode cX3_fillSteps 14 = .ok (.if_icmp .ge 85, 3) := by decide +kernel
theorem dX3_fillSteps_99 : decode cX3_fillSteps 99 = .ok (.return_, 1) := by decide +kernel
theorem dX3_fillSteps_17 : decode cX3_fillSteps 17 = .ok (.iconst 0, 1) := by decide +kernel
theorem dX3_fillSteps_18 : decode cX3_fillSteps 18 = .ok (.istore 6, 2) := by decide +kernel
theorem dX3_fillSteps_20 : decode cX3_fillSteps 20 = .ok (.iload 6, 2) := by decide +kernel
theorem dX3_fillSteps_22 : decode cX3_fillSteps 22 = .ok (.iload 4, 2) := by decide +kernel
theorem dX3_fillSteps_24 : decode cX3_fillSteps 24 = .ok (.if_icmp .ge 69, 3) := by decide +kernel
theorem dX3_fillSteps_93 : decode cX3_fillSteps 93 = .ok (.iinc 5 1, 3) := by decide +kernel
theorem dX3_fillSteps_96 : decode cX3_fillSteps 96 = .ok (.goto (-88), 3) := by decide +kernel
theorem dX3_fillSteps_27 : decode cX3_fillSteps 27 = .ok (.iload 6, 2) := by decide +kernel
theorem dX3_fillSteps_29 : decode cX3_fillSteps 29 = .ok (.aload_n 0, 1) := by decide +kernel
theorem dX3_fillSteps_30 : decode cX3_fillSteps 30 = .ok (.getfield 26, 3) := by decide +kernel
theorem dX3_fillSteps_33 : decode cX3_fillSteps 33 = .ok (.iload 5, 2) := by decide +kernel
theorem dX3_fillSteps_35 : decode cX3_fillSteps 35 = .ok (.iaload, 1) := by decide +kernel
theorem dX3_fillSteps_36 : decode cX3_fillSteps 36 = .ok (.iadd, 1) := by decide +kernel
theorem dX3_fillSteps_37 : decode cX3_fillSteps 37 = .ok (.iload 4, 2) := by decide +kernel
theorem dX3_fillSteps_39 : decode cX3_fillSteps 39 = .ok (.if_icmp .gt 7, 3) := by decide +kernel
theorem dX3_fillSteps_46 : decode cX3_fillSteps 46 = .ok (.iconst 0, 1) := by decide +kernel
theorem dX3_fillSteps_47 : decode cX3_fillSteps 47 = .ok (.istore 7, 2) := by decide +kernel
theorem dX3_fillSteps_49 : decode cX3_fillSteps 49 = .ok (.aload_n 0, 1) := by decide +kernel
theorem dX3_fillSteps_50 : decode cX3_fillSteps 50 = .ok (.getfield 35, 3) := by decide +kernel
theorem dX3_fillSteps_53 : decode cX3_fillSteps 53 = .ok (.iload 5, 2) := by decide +kernel
theorem dX3_fillSteps_55 : decode cX3_fillSteps 55 = .ok (.aaload, 1) := by decide +kernel
theorem dX3_fillSteps_56 : decode cX3_fillSteps 56 = .ok (.iload 6, 2) := by decide +kernel
theorem dX3_fillSteps_58 : decode cX3_fillSteps 58 = .ok (.iload 7, 2) := by decide +kernel
theorem dX3_fillSteps_60 : decode cX3_fillSteps 60 = .ok (.ifCond .eq 24, 3) := by decide +kernel
theorem dX3_fillSteps_84 : decode cX3_fillSteps 84 = .ok (.bipush 100, 2) := by decide +kernel
theorem dX3_fillSteps_86 : decode cX3_fillSteps 86 = .ok (.iastore, 1) := by decide +kernel
theorem dX3_fillSteps_87 : decode cX3_fillSteps 87 = .ok (.iinc 6 1, 3) := by decide +kernel
theorem dX3_fillSteps_90 : decode cX3_fillSteps 90 = .ok (.goto (-70), 3) := by decide +kernel
theorem dX3_fillSteps_42 : decode cX3_fillSteps 42 = .ok (.iconst 1, 1) := by decide +kernel
theorem dX3_fillSteps_43 : decode cX3_fillSteps 43 = .ok (.goto 4, 3) := by decide +kernel
theorem dX3_fillSteps_63 : decode cX3_fillSteps 63 = .ok (.aload_n 3, 1) := by decide +kernel
theorem dX3_fillSteps_64 : decode cX3_fillSteps 64 = .ok (.aload_n 1, 1) := by decide +kernel
theorem dX3_fillSteps_65 : decode cX3_fillSteps 65 = .ok (.aload_n 2, 1) := by decide +kernel
theorem dX3_fillSteps_66 : decode cX3_fillSteps 66 = .ok (.iload 5, 2) := by decide +kernel
theorem dX3_fillSteps_68 : decode cX3_fillSteps 68 = .ok (.iaload, 1) := by decide +kernel
theorem dX3_fillSteps_69 : decode cX3_fillSteps 69 = .ok (.aload_n 0, 1) := by decide +kernel
theorem dX3_fillSteps_70 : decode cX3_fillSteps 70 = .ok (.getfield 26, 3) := by decide +kernel
theorem dX3_fillSteps_73 : decode cX3_fillSteps 73 = .ok (.iload 5, 2) := by decide +kernel
theorem dX3_fillSteps_75 : decode cX3_fillSteps 75 = .ok (.iaload, 1) := by decide +kernel
theorem dX3_fillSteps_76 : decode cX3_fillSteps 76 = .ok (.iload 6, 2) := by decide +kernel
theorem dX3_fillSteps_78 : decode cX3_fillSteps 78 = .ok (.invokevirtual 49, 3) := by decide +kernel
theorem tw_842 : Cond.methodLink RX3 49 yX0_costOf ∈ TT := nx_mem 842 (by decide +kernel) (by decide +kernel)
theorem tw_843 : Cond.instanceMethod yX0_costOf ∈ TT := nx_mem 843 (by decide +kernel) (by decide +kernel)
theorem tw_844 : Cond.selects RX0 yX0_costOf yX0_costOf ∈ TT := nx_mem 844 (by decide +kernel) (by decide +kernel)
theorem tw_845 : Cond.code yX0_costOf cX0_costOf 7 (some .int) ∈ TT := nx_mem 845 (by decide +kernel) (by decide +kernel)
theorem dX3_fillSteps_81 : decode cX3_fillSteps 81 = .ok (.goto 5, 3) := by decide +kernel
theorem dX3_fillTimed_0 : decode cX3_fillTimed 0 = .ok (.aload_n 0, 1) := by decide +kernel
theorem dX3_fillTimed_1 : decode cX3_fillTimed 1 = .ok (.aload_n 1, 1) := by decide +kernel
theorem dX3_fillTimed_2 : decode cX3_fillTimed 2 = .ok (.invokevirtual 41, 3) := by decide +kernel
theorem dX3_fillTimed_5 : decode cX3_fillTimed 5 = .ok (.iconst 0, 1) := by decide +kernel
theorem dX3_fillTimed_6 : decode cX3_fillTimed 6 = .ok (.istore 4, 2) := by decide +kernel
theorem dX3_fillTimed_8 : decode cX3_fillTimed 8 = .ok (.iload 4, 2) := by decide +kernel
theorem dX3_fillTimed_10 : decode cX3_fillTimed 10 = .ok (.aload_n 0, 1) := by decide +kernel
theorem dX3_fillTimed_11 : decode cX3_fillTimed 11 = .ok (.getfield 45, 3) := by decide +kernel
theorem dX3_fillTimed_14 : decode cX3_fillTimed 14 = .ok (.if_icmp .ge 99, 3) := by decide +kernel
theorem dX3_fillTimed_113 : decode cX3_fillTimed 113 = .ok (.return_, 1) := by decide +kernel
theorem dX3_fillTimed_17 : decode cX3_fillTimed 17 = .ok (.aload_n 1, 1) := by decide +kernel
theorem dX3_fillTimed_18 : decode cX3_fillTimed 18 = .ok (.getfield 55, 3) := by decide +kernel
theorem tw_186 : Cond.fieldLink RX3 55 "LimpCode$School" "sides" "[I" ∈ TT := nx_mem 186 (by decide +kernel) (by decide +kernel)
theorem dX3_fillTimed_21 : decode cX3_fillTimed 21 = .ok (.iload 4, 2) := by decide +kernel
theorem dX3_fillTimed_23 : decode cX3_fillTimed 23 = .ok (.iaload, 1) := by decide +kernel
theorem dX3_fillTimed_24 : decode cX3_fillTimed 24 = .ok (.iconst 3, 1) := by decide +kernel
theorem dX3_fillTimed_25 : decode cX3_fillTimed 25 = .ok (.if_icmp .ne 7, 3) := by decide +kernel
theorem dX3_fillTimed_32 : decode cX3_fillTimed 32 = .ok (.iconst 0, 1) := by decide +kernel
theorem dX3_fillTimed_33 : decode cX3_fillTimed 33 = .ok (.istore 5, 2) := by decide +kernel
theorem dX3_fillTimed_35 : decode cX3_fillTimed 35 = .ok (.iconst 0, 1) := by decide +kernel
theorem dX3_fillTimed_36 : decode cX3_fillTimed 36 = .ok (.istore 6, 2) := by decide +kernel
theorem dX3_fillTimed_38 : decode cX3_fillTimed 38 = .ok (.iload 6, 2) := by decide +kernel
theorem dX3_fillTimed_40 : decode cX3_fillTimed 40 = .ok (.iload_n 3, 1) := by decide +kernel
theorem dX3_fillTimed_41 : decode cX3_fillTimed 41 = .ok (.if_icmp .ge 66, 3) := by decide +kernel
theorem dX3_fillTimed_107 : decode cX3_fillTimed 107 = .ok (.iinc 4 1, 3) := by decide +kernel
theorem dX3_fillTimed_110 : decode cX3_fillTimed 110 = .ok (.goto (-102), 3) := by decide +kernel
theorem dX3_fillTimed_44 : decode cX3_fillTimed 44 = .ok (.iload 5, 2) := by decide +kernel
theorem dX3_fillTimed_46 : decode cX3_fillTimed 46 = .ok (.ifCond .ne 13, 3) := by decide +kernel
theorem dX3_fillTimed_49 : decode cX3_fillTimed 49 = .ok (.iload_n 2, 1) := by decide +kernel
theorem dX3_fillTimed_50 : decode cX3_fillTimed 50 = .ok (.iload 6, 2) := by decide +kernel
theorem dX3_fillTimed_52 : decode cX3_fillTimed 52 = .ok (.ishr, 1) := by decide +kernel
theorem dX3_fillTimed_53 : decode cX3_fillTimed 53 = .ok (.iconst 1, 1) := by decide +kernel
theorem dX3_fillTimed_54 : decode cX3_fillTimed 54 = .ok (.iand, 1) := by decide +kernel
theorem dX3_fillTimed_55 : decode cX3_fillTimed 55 = .ok (.iconst 1, 1) := by decide +kernel
theorem dX3_fillTimed_56 : decode cX3_fillTimed 56 = .ok (.if_icmp .ne 7, 3) := by decide +kernel
theorem dX3_fillTimed_63 : decode cX3_fillTimed 63 = .ok (.iconst 0, 1) := by decide +kernel
theorem dX3_fillTimed_64 : decode cX3_fillTimed 64 = .ok (.istore 7, 2) := by decide +kernel
theorem dX3_fillTimed_66 : decode cX3_fillTimed 66 = .ok (.aload_n 0, 1) := by decide +kernel
theorem dX3_fillTimed_67 : decode cX3_fillTimed 67 = .ok (.getfield 35, 3) := by decide +kernel
theorem dX3_fillTimed_70 : decode cX3_fillTimed 70 = .ok (.iload 4, 2) := by decide +kernel
theorem dX3_fillTimed_72 : decode cX3_fillTimed 72 = .ok (.aaload, 1) := by decide +kernel
theorem dX3_fillTimed_73 : decode cX3_fillTimed 73 = .ok (.iload 6, 2) := by decide +kernel
theorem dX3_fillTimed_75 : decode cX3_fillTimed 75 = .ok (.iload 7, 2) := by decide +kernel
theorem dX3_fillTimed_77 : decode cX3_fillTimed 77 = .ok (.ifCond .eq 21, 3) := by decide +kernel
theorem dX3_fillTimed_98 : decode cX3_fillTimed 98 = .ok (.bipush 100, 2) := by decide +kernel
theorem dX3_fillTimed_100 : decode cX3_fillTimed 100 = .ok (.iastore, 1) := by decide +kernel
theorem dX3_fillTimed_101 : decode cX3_fillTimed 101 = .ok (.iinc 6 1, 3) := by decide +kernel
theorem dX3_fillTimed_104 : decode cX3_fillTimed 104 = .ok (.goto (-66), 3) := by decide +kernel
theorem dX3_fillTimed_59 : decode cX3_fillTimed 59 = .ok (.iconst 1, 1) := by decide +kernel
theorem dX3_fillTimed_60 : decode cX3_fillTimed 60 = .ok (.goto 4, 3) := by decide +kernel
theorem dX3_fillTimed_80 : decode cX3_fillTimed 80 = .ok (.iload 6, 2) := by decide +kernel
theorem dX3_fillTimed_82 : decode cX3_fillTimed 82 = .ok (.aload_n 0, 1) := by decide +kernel
theorem dX3_fillTimed_83 : decode cX3_fillTimed 83 = .ok (.getfield 26, 3) := by decide +kernel
theorem dX3_fillTimed_86 : decode cX3_fillTimed 86 = .ok (.iload 4, 2) := by decide +kernel
theorem dX3_fillTimed_88 : decode cX3_fillTimed 88 = .ok (.iaload, 1) := by decide +kernel
theorem dX3_fillTimed_89 : decode cX3_fillTimed 89 = .ok (.iadd, 1) := by decide +kernel
theorem dX3_fillTimed_90 : decode cX3_fillTimed 90 = .ok (.iload_n 3, 1) := by decide +kernel
theorem dX3_fillTimed_91 : decode cX3_fillTimed 91 = .ok (.if_icmp .gt 7, 3) := by decide +kernel
theorem dX3_fillTimed_94 : decode cX3_fillTimed 94 = .ok (.iconst 0, 1) := by decide +kernel
theorem dX3_fillTimed_95 : decode cX3_fillTimed 95 = .ok (.goto 5, 3) := by decide +kernel
theorem dX3_fillTimed_28 : decode cX3_fillTimed 28 = .ok (.iconst 1, 1) := by decide +kernel
theorem dX3_fillTimed_29 : decode cX3_fillTimed 29 = .ok (.goto 4, 3) := by decide +kernel
theorem dX3_letterCost_0 : decode cX3_letterCost 0 = .ok (.iconst 0, 1) := by decide +kernel
theorem dX3_letterCost_1 : decode cX3_letterCost 1 = .ok (.istore 4, 2) := by decide +kernel
theorem dX3_letterCost_3 : decode cX3_letterCost 3 = .ok (.iload_n 3, 1) := by decide +kernel
theorem dX3_letterCost_4 : decode cX3_letterCost 4 = .ok (.istore 5, 2) := by decide +kernel
theorem dX3_letterCost_6 : decode cX3_letterCost 6 = .ok (.iconst 0, 1) := by decide +kernel
theorem dX3_letterCost_7 : decode cX3_letterCost 7 = .ok (.istore 6, 2) := by decide +kernel
theorem dX3_letterCost_9 : decode cX3_letterCost 9 = .ok (.iload 6, 2) := by decide +kernel
theorem dX3_letterCost_11 : decode cX3_letterCost 11 = .ok (.aload_n 0, 1) := by decide +kernel
theorem dX3_letterCost_12 : decode cX3_letterCost 12 = .ok (.getfield 81, 3) := by decide +kernel
theorem tw_193 : Cond.fieldLink RX3 81 "LimpCode$School" "letterSizes" "[I" ∈ TT := nx_mem 193 (by decide +kernel) (by decide +kernel)
theorem dX3_letterCost_15 : decode cX3_letterCost 15 = .ok (.iload_n 2, 1) := by decide +kernel
theorem dX3_letterCost_16 : decode cX3_letterCost 16 = .ok (.iaload, 1) := by decide +kernel
theorem dX3_letterCost_17 : decode cX3_letterCost 17 = .ok (.if_icmp .ge 54, 3) := by decide +kernel
theorem dX3_letterCost_71 : decode cX3_letterCost 71 = .ok (.iload 4, 2) := by decide +kernel
theorem dX3_letterCost_73 : decode cX3_letterCost 73 = .ok (.bipush 100, 2) := by decide +kernel
theorem dX3_letterCost_75 : decode cX3_letterCost 75 = .ok (.invokestatic 87, 3) := by decide +kernel
theorem tw_862 : Cond.methodLink RX3 87 yJ9_min_7cf53 ∈ TT := nx_mem 862 (by decide +kernel) (by decide +kernel)
theorem dX3_letterCost_78 : decode cX3_letterCost 78 = .ok (.ireturn, 1) := by decide +kernel
theorem dX3_letterCost_20 : decode cX3_letterCost 20 = .ok (.iload 4, 2) := by decide +kernel
theorem dX3_letterCost_22 : decode cX3_letterCost 22 = .ok (.bipush 100, 2) := by decide +kernel
theorem dX3_letterCost_24 : decode cX3_letterCost 24 = .ok (.if_icmp .ge 47, 3) := by decide +kernel
theorem dX3_letterCost_27 : decode cX3_letterCost 27 = .ok (.aload_n 0, 1) := by decide +kernel
theorem dX3_letterCost_28 : decode cX3_letterCost 28 = .ok (.getfield 84, 3) := by decide +kernel
theorem tw_197 : Cond.fieldLink RX3 84 "LimpCode$School" "letterRows" "[[I" ∈ TT := nx_mem 197 (by decide +kernel) (by decide +kernel)
theorem dX3_letterCost_31 : decode cX3_letterCost 31 = .ok (.iload_n 2, 1) := by decide +kernel
theorem dX3_letterCost_32 : decode cX3_letterCost 32 = .ok (.aaload, 1) := by decide +kernel
theorem dX3_letterCost_33 : decode cX3_letterCost 33 = .ok (.iload 6, 2) := by decide +kernel
theorem dX3_letterCost_35 : decode cX3_letterCost 35 = .ok (.iaload, 1) := by decide +kernel
theorem dX3_letterCost_36 : decode cX3_letterCost 36 = .ok (.istore 7, 2) := by decide +kernel
theorem dX3_letterCost_38 : decode cX3_letterCost 38 = .ok (.iload 4, 2) := by decide +kernel
theorem dX3_letterCost_40 : decode cX3_letterCost 40 = .ok (.aload_n 1, 1) := by decide +kernel
theorem dX3_letterCost_41 : decode cX3_letterCost 41 = .ok (.getfield 35, 3) := by decide +kernel
theorem dX3_letterCost_44 : decode cX3_letterCost 44 = .ok (.iload 7, 2) := by decide +kernel
theorem dX3_letterCost_46 : decode cX3_letterCost 46 = .ok (.aaload, 1) := by decide +kernel
theorem dX3_letterCost_47 : decode cX3_letterCost 47 = .ok (.iload 5, 2) := by decide +kernel
theorem dX3_letterCost_49 : decode cX3_letterCost 49 = .ok (.iaload, 1) := by decide +kernel
theorem dX3_letterCost_50 : decode cX3_letterCost 50 = .ok (.iadd, 1) := by decide +kernel
theorem dX3_letterCost_51 : decode cX3_letterCost 51 = .ok (.istore 4, 2) := by decide +kernel
theorem dX3_letterCost_53 : decode cX3_letterCost 53 = .ok (.iload 5, 2) := by decide +kernel
theorem dX3_letterCost_55 : decode cX3_letterCost 55 = .ok (.aload_n 1, 1) := by decide +kernel
theorem dX3_letterCost_56 : decode cX3_letterCost 56 = .ok (.getfield 26, 3) := by decide +kernel
theorem dX3_letterCost_59 : decode cX3_letterCost 59 = .ok (.iload 7, 2) := by decide +kernel
theorem dX3_letterCost_61 : decode cX3_letterCost 61 = .ok (.iaload, 1) := by decide +kernel
theorem dX3_letterCost_62 : decode cX3_letterCost 62 = .ok (.iadd, 1) := by decide +kernel
theorem dX3_letterCost_63 : decode cX3_letterCost 63 = .ok (.istore 5, 2) := by decide +kernel
theorem dX3_letterCost_65 : decode cX3_letterCost 65 = .ok (.iinc 6 1, 3) := by decide +kernel
theorem dX3_letterCost_68 : decode cX3_letterCost 68 = .ok (.goto (-59), 3) := by decide +kernel
theorem dX3_fillLetters_0 : decode cX3_fillLetters 0 = .ok (.aload_n 0, 1) := by decide +kernel
theorem dX3_fillLetters_1 : decode cX3_fillLetters 1 = .ok (.aload_n 1, 1) := by decide +kernel
theorem dX3_fillLetters_2 : decode cX3_fillLetters 2 = .ok (.getfield 68, 3) := by decide +kernel
theorem tw_227 : Cond.fieldLink RX3 68 "LimpCode$School" "letterCount" "I" ∈ TT := nx_mem 227 (by decide +kernel) (by decide +kernel)
theorem dX3_fillLetters_5 : decode cX3_fillLetters 5 = .ok (.putfield 45, 3) := by decide +kernel
theorem dX3_fillLetters_8 : decode cX3_fillLetters 8 = .ok (.iconst 0, 1) := by decide +kernel
theorem dX3_fillLetters_9 : decode cX3_fillLetters 9 = .ok (.istore 5, 2) := by decide +kernel
theorem dX3_fillLetters_11 : decode cX3_fillLetters 11 = .ok (.iload 5, 2) := by decide +kernel
theorem dX3_fillLetters_13 : decode cX3_fillLetters 13 = .ok (.aload_n 0, 1) := by decide +kernel
theorem dX3_fillLetters_14 : decode cX3_fillLetters 14 = .ok (.getfield 45, 3) := by decide +kernel
theorem dX3_fillLetters_17 : decode cX3_fillLetters 17 = .ok (.if_icmp .ge 148, 3) := by decide +kernel
theorem dX3_fillLetters_165 : decode cX3_fillLetters 165 = .ok (.return_, 1) := by decide +kernel
theorem dX3_fillLetters_20 : decode cX3_fillLetters 20 = .ok (.iload_n 3, 1) := by decide +kernel
theorem dX3_fillLetters_21 : decode cX3_fillLetters 21 = .ok (.iload 5, 2) := by decide +kernel
theorem dX3_fillLetters_23 : decode cX3_fillLetters 23 = .ok (.ishr, 1) := by decide +kernel
theorem dX3_fillLetters_24 : decode cX3_fillLetters 24 = .ok (.iconst 1, 1) := by decide +kernel
theorem dX3_fillLetters_25 : decode cX3_fillLetters 25 = .ok (.iand, 1) := by decide +kernel
theorem dX3_fillLetters_26 : decode cX3_fillLetters 26 = .ok (.iconst 1, 1) := by decide +kernel
theorem dX3_fillLetters_27 : decode cX3_fillLetters 27 = .ok (.if_icmp .ne 7, 3) := by decide +kernel
theorem dX3_fillLetters_34 : decode cX3_fillLetters 34 = .ok (.iconst 0, 1) := by decide +kernel
theorem dX3_fillLetters_35 : decode cX3_fillLetters 35 = .ok (.istore 6, 2) := by decide +kernel
theorem dX3_fillLetters_37 : decode cX3_fillLetters 37 = .ok (.aload_n 0, 1) := by decide +kernel
theorem dX3_fillLetters_38 : decode cX3_fillLetters 38 = .ok (.getfield 26, 3) := by decide +kernel
theorem dX3_fillLetters_41 : decode cX3_fillLetters 41 = .ok (.iload 5, 2) := by decide +kernel
theorem dX3_fillLetters_43 : decode cX3_fillLetters 43 = .ok (.aload_n 1, 1) := by decide +kernel
theorem dX3_fillLetters_44 : decode cX3_fillLetters 44 = .ok (.getfield 71, 3) := by decide +kernel
theorem tw_203 : Cond.fieldLink RX3 71 "LimpCode$School" "letterTakes" "[I" ∈ TT := nx_mem 203 (by decide +kernel) (by decide +kernel)
theorem dX3_fillLetters_47 : decode cX3_fillLetters 47 = .ok (.iload 5, 2) := by decide +kernel
theorem dX3_fillLetters_49 : decode cX3_fillLetters 49 = .ok (.iaload, 1) := by decide +kernel
theorem dX3_fillLetters_50 : decode cX3_fillLetters 50 = .ok (.iastore, 1) := by decide +kernel
theorem dX3_fillLetters_51 : decode cX3_fillLetters 51 = .ok (.aload_n 0, 1) := by decide +kernel
theorem dX3_fillLetters_52 : decode cX3_fillLetters 52 = .ok (.getfield 32, 3) := by decide +kernel
theorem dX3_fillLetters_55 : decode cX3_fillLetters 55 = .ok (.iload 5, 2) := by decide +kernel
theorem dX3_fillLetters_57 : decode cX3_fillLetters 57 = .ok (.aaload, 1) := by decide +kernel
theorem dX3_fillLetters_58 : decode cX3_fillLetters 58 = .ok (.iconst 0, 1) := by decide +kernel
theorem dX3_fillLetters_59 : decode cX3_fillLetters 59 = .ok (.aload_n 1, 1) := by decide +kernel
theorem dX3_fillLetters_60 : decode cX3_fillLetters 60 = .ok (.getfield 74, 3) := by decide +kernel
theorem tw_206 : Cond.fieldLink RX3 74 "LimpCode$School" "letterAfter" "[[I" ∈ TT := nx_mem 206 (by decide +kernel) (by decide +kernel)
theorem dX3_fillLetters_63 : decode cX3_fillLetters 63 = .ok (.iload 5, 2) := by decide +kernel
theorem dX3_fillLetters_65 : decode cX3_fillLetters 65 = .ok (.aaload, 1) := by decide +kernel
theorem dX3_fillLetters_66 : decode cX3_fillLetters 66 = .ok (.iconst 0, 1) := by decide +kernel
theorem dX3_fillLetters_67 : decode cX3_fillLetters 67 = .ok (.iaload, 1) := by decide +kernel
theorem dX3_fillLetters_68 : decode cX3_fillLetters 68 = .ok (.iastore, 1) := by decide +kernel
theorem dX3_fillLetters_69 : decode cX3_fillLetters 69 = .ok (.aload_n 0, 1) := by decide +kernel
theorem dX3_fillLetters_70 : decode cX3_fillLetters 70 = .ok (.getfield 32, 3) := by decide +kernel
theorem dX3_fillLetters_73 : decode cX3_fillLetters 73 = .ok (.iload 5, 2) := by decide +kernel
theorem dX3_fillLetters_75 : decode cX3_fillLetters 75 = .ok (.aaload, 1) := by decide +kernel
theorem dX3_fillLetters_76 : decode cX3_fillLetters 76 = .ok (.iconst 1, 1) := by decide +kernel
theorem dX3_fillLetters_77 : decode cX3_fillLetters 77 = .ok (.aload_n 1, 1) := by decide +kernel
theorem dX3_fillLetters_78 : decode cX3_fillLetters 78 = .ok (.getfield 74, 3) := by decide +kernel
theorem dX3_fillLetters_81 : decode cX3_fillLetters 81 = .ok (.iload 5, 2) := by decide +kernel
theorem dX3_fillLetters_83 : decode cX3_fillLetters 83 = .ok (.aaload, 1) := by decide +kernel
theorem dX3_fillLetters_84 : decode cX3_fillLetters 84 = .ok (.iconst 1, 1) := by decide +kernel
theorem dX3_fillLetters_85 : decode cX3_fillLetters 85 = .ok (.iaload, 1) := by decide +kernel
theorem dX3_fillLetters_86 : decode cX3_fillLetters 86 = .ok (.iastore, 1) := by decide +kernel
theorem dX3_fillLetters_87 : decode cX3_fillLetters 87 = .ok (.iconst 0, 1) := by decide +kernel
theorem dX3_fillLetters_88 : decode cX3_fillLetters 88 = .ok (.istore 7, 2) := by decide +kernel
theorem dX3_fillLetters_90 : decode cX3_fillLetters 90 = .ok (.iload 7, 2) := by decide +kernel
theorem dX3_fillLetters_92 : decode cX3_fillLetters 92 = .ok (.iload 4, 2) := by decide +kernel
theorem dX3_fillLetters_94 : decode cX3_fillLetters 94 = .ok (.if_icmp .ge 65, 3) := by decide +kernel
theorem dX3_fillLetters_159 : decode cX3_fillLetters 159 = .ok (.iinc 5 1, 3) := by decide +kernel
theorem dX3_fillLetters_162 : decode cX3_fillLetters 162 = .ok (.goto (-151), 3) := by decide +kernel
theorem dX3_fillLetters_97 : decode cX3_fillLetters 97 = .ok (.iload 7, 2) := by decide +kernel
theorem dX3_fillLetters_99 : decode cX3_fillLetters 99 = .ok (.aload_n 0, 1) := by decide +kernel
theorem dX3_fillLetters_100 : decode cX3_fillLetters 100 = .ok (.getfield 26, 3) := by decide +kernel
theorem dX3_fillLetters_103 : decode cX3_fillLetters 103 = .ok (.iload 5, 2) := by decide +kernel
theorem dX3_fillLetters_105 : decode cX3_fillLetters 105 = .ok (.iaload, 1) := by decide +kernel
theorem dX3_fillLetters_106 : decode cX3_fillLetters 106 = .ok (.iadd, 1) := by decide +kernel
theorem dX3_fillLetters_107 : decode cX3_fillLetters 107 = .ok (.iload 4, 2) := by decide +kernel
theorem dX3_fillLetters_109 : decode cX3_fillLetters 109 = .ok (.if_icmp .gt 7, 3) := by decide +kernel
theorem dX3_fillLetters_116 : decode cX3_fillLetters 116 = .ok (.iconst 0, 1) := by decide +kernel
theorem dX3_fillLetters_117 : decode cX3_fillLetters 117 = .ok (.istore 8, 2) := by decide +kernel
theorem dX3_fillLetters_119 : decode cX3_fillLetters 119 = .ok (.aload_n 0, 1) := by decide +kernel
theorem dX3_fillLetters_120 : decode cX3_fillLetters 120 = .ok (.getfield 35, 3) := by decide +kernel
theorem dX3_fillLetters_123 : decode cX3_fillLetters 123 = .ok (.iload 5, 2) := by decide +kernel
theorem dX3_fillLetters_125 : decode cX3_fillLetters 125 = .ok (.aaload, 1) := by decide +kernel
theorem dX3_fillLetters_126 : decode cX3_fillLetters 126 = .ok (.iload 7, 2) := by decide +kernel
theorem dX3_fillLetters_128 : decode cX3_fillLetters 128 = .ok (.iload 6, 2) := by decide +kernel
theorem dX3_fillLetters_130 : decode cX3_fillLetters 130 = .ok (.ifCond .eq 20, 3) := by decide +kernel
theorem dX3_fillLetters_150 : decode cX3_fillLetters 150 = .ok (.bipush 100, 2) := by decide +kernel
theorem dX3_fillLetters_152 : decode cX3_fillLetters 152 = .ok (.iastore, 1) := by decide +kernel
theorem dX3_fillLetters_153 : decode cX3_fillLetters 153 = .ok (.iinc 7 1, 3) := by decide +kernel
theorem dX3_fillLetters_156 : decode cX3_fillLetters 156 = .ok (.goto (-66), 3) := by decide +kernel
theorem dX3_fillLetters_112 : decode cX3_fillLetters 112 = .ok (.iconst 1, 1) := by decide +kernel
theorem dX3_fillLetters_113 : decode cX3_fillLetters 113 = .ok (.goto 4, 3) := by decide +kernel
theorem dX3_fillLetters_30 : decode cX3_fillLetters 30 = .ok (.iconst 1, 1) := by decide +kernel
theorem dX3_fillLetters_31 : decode cX3_fillLetters 31 = .ok (.goto 4, 3) := by decide +kernel
theorem dX3_fillLetters_133 : decode cX3_fillLetters 133 = .ok (.iload 8, 2) := by decide +kernel
theorem dX3_fillLetters_135 : decode cX3_fillLetters 135 = .ok (.ifCond .eq 15, 3) := by decide +kernel
theorem dX3_fillLetters_138 : decode cX3_fillLetters 138 = .ok (.aload_n 1, 1) := by decide +kernel
theorem dX3_fillLetters_139 : decode cX3_fillLetters 139 = .ok (.aload_n 2, 1) := by decide +kernel
theorem dX3_fillLetters_140 : decode cX3_fillLetters 140 = .ok (.iload 5, 2) := by decide +kernel
theorem dX3_fillLetters_142 : decode cX3_fillLetters 142 = .ok (.iload 7, 2) := by decide +kernel
theorem dX3_fillLetters_144 : decode cX3_fillLetters 144 = .ok (.invokestatic 77, 3) := by decide +kernel
theorem tw_859 : Cond.methodLink RX3 77 yX3_letterCost ∈ TT := nx_mem 859 (by decide +kernel) (by decide +kernel)
theorem tw_860 : Cond.static yX3_letterCost ∈ TT := nx_mem 860 (by decide +kernel) (by decide +kernel)
theorem tw_861 : Cond.code yX3_letterCost cX3_letterCost 8 (some .int) ∈ TT := nx_mem 861 (by decide +kernel) (by decide +kernel)
theorem dX3_fillLetters_147 : decode cX3_fillLetters 147 = .ok (.goto 5, 3) := by decide +kernel
set_option maxHeartbeats 4000000 in
set_option maxRecDepth 100000 in
theorem s_X3_takeSteps (lau : Launch) (gg : va_G) (kA : Nat → ClassId) (g : Nat) (s : Nat) (g0 : Nat) (g1 : Nat) (g2 : Nat) (g3 : Nat) (g4 : Nat) (g5 : Nat) (g6 : Nat) (g7 : Nat) (gn0 : Int32) (gt0 : Int32) (gm0 : Int32) (gtk : Nat → Int32) (gaf : Nat → Nat → Int32) (s0 : Nat) (s1 : Nat) (s2 : Nat) (s3 : Nat) (s4 : Nat) (s5 : Nat) (s6 : Nat) (s7 : Nat) (s8 : Nat) (s9 : Nat) (s10 : Nat) (s11 : Nat) (sn : Nat) (sl : Nat) (se : Nat) (sc1 : Nat → Int32) (sc3 : Nat → Int32) (hsn : sn ≤ 6) (hsl : sl ≤ 10) (hse : se ≤ 4) (hstk : TkOk sn sc1) : CtV lau yX3_takeSteps cX3_takeSteps 3 (none) 3 0 0 gg kA [.ref g, .ref s] (mflat [(g, .inl (.inr (3, [.ref g0, .ref g1, .ref g2, .ref g3, .ref g4, .ref g5, .ref g6, .ref g7, .int gn0, .int gt0, .int gm0]))), (g0, .inl (.inl (kA 1, 6, .inl gtk))), (g1, .inr (kA 6, kA 1, 6, 2, .inl gaf)), (s, .inl (.inr (5, [.ref s0, .ref s1, .ref s2, .ref s3, .ref s4, .ref s5, .ref s6, .ref s7, .ref s8, .ref s9, .ref s10, .ref s11, .int (nI sn), .int (nI sl), .int (nI se)]))), (s1, .inl (.inl (kA 1, 6, .inl sc1))), (s3, .inl (.inl (kA 1, 6, .inl sc3)))]) (S := (Nat → Int32) × (Nat → Nat → Int32)) (fun ((y_g0, y_g1) : (Nat → Int32) × (Nat → Nat → Int32)) => (TkOk sn y_g0) ∧ (EqTo sn y_g0 sc1) ∧ (FtOk sn y_g1)) (fun ((y_g0, y_g1) : (Nat → Int32) × (Nat → Nat → Int32)) => mflat [(g, .inl (.inr (3, [.ref g0, .ref g1, .ref g2, .ref g3, .ref g4, .ref g5, .ref g6, .ref g7, .int (nI sn), .int gt0, .int gm0]))), (g0, .inl (.inl (kA 1, 6, .inl y_g0))), (g1, .inr (kA 6, kA 1, 6, 2, .inl y_g1)), (s, .inl (.inr (5, [.ref s0, .ref s1, .ref s2, .ref s3, .ref s4, .ref s5, .ref s6, .ref s7, .ref s8, .ref s9, .ref s10, .ref s11, .int (nI sn), .int (nI sl), .int (nI se)]))), (s1, .inl (.inl (kA 1, 6, .inl sc1))), (s3, .inl (.inl (kA 1, 6, .inl sc3)))]) := by
  refine nx_startV (by decide +kernel) (Nat.le_of_ble_eq_true rfl) ?_
  intro x hnm h hq
  have h : Ok x cX3_takeSteps RX3 kA (rmC 3 0 0) 3 := h
  show J x (mflat [(g, .inl (.inr (3, [.ref g0, .ref g1, .ref g2, .ref g3, .ref g4, .ref g5, .ref g6, .ref g7, .int gn0, .int gt0, .int gm0]))), (g0, .inl (.inl (kA 1, 6, .inl gtk))), (g1, .inr (kA 6, kA 1, 6, 2, .inl gaf)), (s, .inl (.inr (5, [.ref s0, .ref s1, .ref s2, .ref s3, .ref s4, .ref s5, .ref s6, .ref s7, .ref s8, .ref s9, .ref s10, .ref s11, .int (nI sn), .int (nI sl), .int (nI se)]))), (s1, .inl (.inl (kA 1, 6, .inl sc1))), (s3, .inl (.inl (kA 1, 6, .inl sc3)))]) [(0, .ref g), (1, .ref s)] 0 0 0 []
  refine j_aload_n h 0 rfl rfl dX3_takeSteps_0 ?_
  refine j_aload_n h 1 rfl rfl dX3_takeSteps_1 ?_
  refine jm_get h iw_X5 3 rfl rfl 12 (by decide +kernel) tw_220 rfl dX3_takeSteps_2 ?_
  refine jm_put (w' := [(g, .inl (.inr (3, [.ref g0, .ref g1, .ref g2, .ref g3, .ref g4, .ref g5, .ref g6, .ref g7, .int (nI sn), .int gt0, .int gm0]))), (g0, .inl (.inl (kA 1, 6, .inl gtk))), (g1, .inr (kA 6, kA 1, 6, 2, .inl gaf)), (s, .inl (.inr (5, [.ref s0, .ref s1, .ref s2, .ref s3, .ref s4, .ref s5, .ref s6, .ref s7, .ref s8, .ref s9, .ref s10, .ref s11, .int (nI sn), .int (nI sl), .int (nI se)]))), (s1, .inl (.inl (kA 1, 6, .inl sc1))), (s3, .inl (.inl (kA 1, 6, .inl sc3)))]) h iw_X3 tyX3 tyX3_ok nmX3 0 rfl rfl 8 (by decide +kernel) tw_387 rfl rfl rfl (Nat.le_of_ble_eq_true rfl) dX3_takeSteps_5 rfl ?_
  refine j_iconst (v := 0) h (by decide) dX3_takeSteps_8 ?_
  refine j_istore_n (lv' := [(2, .int 0), (0, .ref g), (1, .ref s)]) h dX3_takeSteps_9 rfl (by decide) rfl ?_
  have lp10_210 : ∀ (m10_210 : Nat), ∀ (v2_10_210 : Nat) (fg0_10_210 : Nat → Int32) (fg1_10_210 : Nat → Nat → Int32), (TkOk v2_10_210 fg0_10_210) → (EqTo v2_10_210 fg0_10_210 sc1) → (FtOk v2_10_210 fg1_10_210) → (v2_10_210 ≤ sn) → (v2_10_210 ≤ 100000) → 100001 - v2_10_210 < m10_210 → J x (mflat [(g, .inl (.inr (3, [.ref g0, .ref g1, .ref g2, .ref g3, .ref g4, .ref g5, .ref g6, .ref g7, .int (nI sn), .int gt0, .int gm0]))), (g0, .inl (.inl (kA 1, 6, .inl fg0_10_210))), (g1, .inr (kA 6, kA 1, 6, 2, .inl fg1_10_210)), (s, .inl (.inr (5, [.ref s0, .ref s1, .ref s2, .ref s3, .ref s4, .ref s5, .ref s6, .ref s7, .ref s8, .ref s9, .ref s10, .ref s11, .int (nI sn), .int (nI sl), .int (nI se)]))), (s1, .inl (.inl (kA 1, 6, .inl sc1))), (s3, .inl (.inl (kA 1, 6, .inl sc3)))]) [(2, .int (nI v2_10_210)), (0, .ref g), (1, .ref s)] 0 0 10 [] := by
    intro m10_210
    induction m10_210 with
    | zero =>
      intro v2_10_210 fg0_10_210 fg1_10_210 i10_210_0 i10_210_1 i10_210_2 i10_210_3 i10_210_4 hm10_210
      exact absurd hm10_210 (Nat.not_lt_zero _)
    | succ m10_210 ih10_210 =>
      intro v2_10_210 fg0_10_210 fg1_10_210 i10_210_0 i10_210_1 i10_210_2 i10_210_3 i10_210_4 hm10_210
      refine j_iload_n h 0 rfl rfl dX3_takeSteps_10 ?_
      refine j_aload_n h 1 rfl rfl dX3_takeSteps_11 ?_
      refine jm_get h iw_X3 0 rfl rfl 8 (by decide +kernel) tw_387 rfl dX3_takeSteps_12 ?_
      refine j_icmp_ge h 64 dX3_takeSteps_15 (by decide) (fun z1988 => ?_) (fun z1988 => ?_)
      · have z1988n : sn ≤ v2_10_210 := (nI_leI (a := sn) (b := v2_10_210) (by omega) (by omega)).mp z1988
        exact jm_vret h hq dX3_takeSteps_64 (fg0_10_210, fg1_10_210) [0, 1, 2, 3, 4, 5] rfl (by decide) ⟨(show TkOk sn fg0_10_210 from (show v2_10_210 = sn by omega) ▸ i10_210_0), (show EqTo sn fg0_10_210 sc1 from (show v2_10_210 = sn by omega) ▸ i10_210_1), (show FtOk sn fg1_10_210 from (show v2_10_210 = sn by omega) ▸ i10_210_2)⟩ (Nat.le_of_ble_eq_true rfl) (Nat.le_of_ble_eq_true rfl)
      · have z1988n : ¬ sn ≤ v2_10_210 := fun q9 => z1988 ((nI_leI (a := sn) (b := v2_10_210) (by omega) (by omega)).mpr q9)
        refine j_aload_n h 1 rfl rfl dX3_takeSteps_18 ?_
        refine jm_get h iw_X3 0 rfl rfl 0 (by decide +kernel) tw_377 rfl dX3_takeSteps_19 ?_
        refine j_iload_n h 0 rfl rfl dX3_takeSteps_22 ?_
        refine j_aload_n h 2 rfl rfl dX3_takeSteps_23 ?_
        refine jm_get h iw_X5 3 rfl rfl 1 (by decide +kernel) tw_179 rfl dX3_takeSteps_24 ?_
        refine j_iload_n h 0 rfl rfl dX3_takeSteps_27 ?_
        refine jm_iald h 4 rfl v2_10_210 rfl (by omega) (by omega) dX3_takeSteps_28 ?_
        obtain ⟨t1989, u1990, u1991, u1992⟩ := (show TkOk sn sc1 by assumption) v2_10_210 (by omega)
        refine j_top (b := nI t1989) (u1992) ?_
        refine jm_iast (w' := [(g, .inl (.inr (3, [.ref g0, .ref g1, .ref g2, .ref g3, .ref g4, .ref g5, .ref g6, .ref g7, .int (nI sn), .int gt0, .int gm0]))), (g0, .inl (.inl (kA 1, 6, .inl (upd fg0_10_210 v2_10_210 (nI t1989))))), (g1, .inr (kA 6, kA 1, 6, 2, .inl fg1_10_210)), (s, .inl (.inr (5, [.ref s0, .ref s1, .ref s2, .ref s3, .ref s4, .ref s5, .ref s6, .ref s7, .ref s8, .ref s9, .ref s10, .ref s11, .int (nI sn), .int (nI sl), .int (nI se)]))), (s1, .inl (.inl (kA 1, 6, .inl sc1))), (s3, .inl (.inl (kA 1, 6, .inl sc3)))]) h 1 rfl v2_10_210 rfl (by omega) (by omega) dX3_takeSteps_29 rfl ?_
        refine j_aload_n h 1 rfl rfl dX3_takeSteps_30 ?_
        refine jm_get h iw_X3 0 rfl rfl 1 (by decide +kernel) tw_379 rfl dX3_takeSteps_31 ?_
        refine j_iload_n h 0 rfl rfl dX3_takeSteps_34 ?_
        refine jm_gout h 2 6 rfl rfl v2_10_210 rfl (by omega) (by omega) dX3_takeSteps_35 ?_
        refine j_iconst (v := 0) h (by decide) dX3_takeSteps_36 ?_
        refine j_aload_n h 2 rfl rfl dX3_takeSteps_37 ?_
        refine j_iload_n h 0 rfl rfl dX3_takeSteps_38 ?_
        refine j_iconst (v := 0) h (by decide) dX3_takeSteps_39 ?_
        refine jm_callVi (np := 2) (isC := [3, 5]) (isR := [0, 1, 2, 4]) (wc := [(s, .inl (.inr (5, [.ref s0, .ref s1, .ref s2, .ref s3, .ref s4, .ref s5, .ref s6, .ref s7, .ref s8, .ref s9, .ref s10, .ref s11, .int (nI sn), .int (nI sl), .int (nI se)]))), (s3, .inl (.inl (kA 1, 6, .inl sc3)))]) (wr := [(g, .inl (.inr (3, [.ref g0, .ref g1, .ref g2, .ref g3, .ref g4, .ref g5, .ref g6, .ref g7, .int (nI sn), .int gt0, .int gm0]))), (g0, .inl (.inl (kA 1, 6, .inl (upd fg0_10_210 v2_10_210 (nI t1989))))), (g1, .inr (kA 6, kA 1, 6, 2, .inl fg1_10_210)), (s1, .inl (.inl (kA 1, 6, .inl sc1)))]) (rest := [.int 0, .ref (g1 + 1 + v2_10_210)]) (As := [.int (nI v2_10_210), .int 0]) (q0 := 0) h (s_X5_footAfter _ _ kA s v2_10_210 0 s0 s1 s2 s3 s4 s5 s6 s7 s8 s9 s10 s11 sn sl se sc3 (show sn ≤ 6 by first | assumption | omega) (show sl ≤ 10 by first | assumption | omega) (show se ≤ 4 by first | assumption | omega) (show v2_10_210 < sn by first | assumption | omega) (show 0 ≤ 1 by first | assumption | omega)) tw_841 tw_709 tw_710 tw_90 tw_711 (by decide +kernel) rfl ⟨Nat.le_of_ble_eq_true rfl, Nat.le_of_ble_eq_true rfl⟩ rfl rfl (by decide +kernel) rfl rfl (by decide +kernel) (by decide +kernel) (Nat.le_of_ble_eq_true rfl) rfl ⟨Nat.le_of_ble_eq_true rfl, Nat.le_of_ble_eq_true rfl⟩ dX3_takeSteps_40 ?_
        rintro r1995 q1993 e1994
        obtain ⟨p1996, p1997⟩ := e1994
        subst p1996
        replace p1997 : q1993 ≤ 2 := p1997
        show J x (mflat [(g, .inl (.inr (3, [.ref g0, .ref g1, .ref g2, .ref g3, .ref g4, .ref g5, .ref g6, .ref g7, .int (nI sn), .int gt0, .int gm0]))), (g0, .inl (.inl (kA 1, 6, .inl (upd fg0_10_210 v2_10_210 (nI t1989))))), (g1, .inr (kA 6, kA 1, 6, 2, .inl fg1_10_210)), (s1, .inl (.inl (kA 1, 6, .inl sc1))), (s, .inl (.inr (5, [.ref s0, .ref s1, .ref s2, .ref s3, .ref s4, .ref s5, .ref s6, .ref s7, .ref s8, .ref s9, .ref s10, .ref s11, .int (nI sn), .int (nI sl), .int (nI se)]))), (s3, .inl (.inl (kA 1, 6, .inl sc3)))]) [(2, .int (nI v2_10_210)), (0, .ref g), (1, .ref s)] 0 0 43 [.int (pm q1993), .int 0, .ref (g1 + 1 + v2_10_210)]
        refine jm_gast (w' := [(g, .inl (.inr (3, [.ref g0, .ref g1, .ref g2, .ref g3, .ref g4, .ref g5, .ref g6, .ref g7, .int (nI sn), .int gt0, .int gm0]))), (g0, .inl (.inl (kA 1, 6, .inl (upd fg0_10_210 v2_10_210 (nI t1989))))), (g1, .inr (kA 6, kA 1, 6, 2, .inl (upG fg1_10_210 v2_10_210 0 (pm q1993)))), (s1, .inl (.inl (kA 1, 6, .inl sc1))), (s, .inl (.inr (5, [.ref s0, .ref s1, .ref s2, .ref s3, .ref s4, .ref s5, .ref s6, .ref s7, .ref s8, .ref s9, .ref s10, .ref s11, .int (nI sn), .int (nI sl), .int (nI se)]))), (s3, .inl (.inl (kA 1, 6, .inl sc3)))]) h 2 rfl v2_10_210 (by omega) 0 (by decide +kernel) (by decide +kernel) (by omega) dX3_takeSteps_43 rfl ?_
        refine j_aload_n h 1 rfl rfl dX3_takeSteps_44 ?_
        refine jm_get h iw_X3 0 rfl rfl 1 (by decide +kernel) tw_379 rfl dX3_takeSteps_45 ?_
        refine j_iload_n h 0 rfl rfl dX3_takeSteps_48 ?_
        refine jm_gout h 2 6 rfl rfl v2_10_210 rfl (by omega) (by omega) dX3_takeSteps_49 ?_
        refine j_iconst (v := 1) h (by decide) dX3_takeSteps_50 ?_
        refine j_aload_n h 2 rfl rfl dX3_takeSteps_51 ?_
        refine j_iload_n h 0 rfl rfl dX3_takeSteps_52 ?_
        refine j_iconst (v := 1) h (by decide) dX3_takeSteps_53 ?_
        refine jm_callVi (np := 2) (isC := [4, 5]) (isR := [0, 1, 2, 3]) (wc := [(s, .inl (.inr (5, [.ref s0, .ref s1, .ref s2, .ref s3, .ref s4, .ref s5, .ref s6, .ref s7, .ref s8, .ref s9, .ref s10, .ref s11, .int (nI sn), .int (nI sl), .int (nI se)]))), (s3, .inl (.inl (kA 1, 6, .inl sc3)))]) (wr := [(g, .inl (.inr (3, [.ref g0, .ref g1, .ref g2, .ref g3, .ref g4, .ref g5, .ref g6, .ref g7, .int (nI sn), .int gt0, .int gm0]))), (g0, .inl (.inl (kA 1, 6, .inl (upd fg0_10_210 v2_10_210 (nI t1989))))), (g1, .inr (kA 6, kA 1, 6, 2, .inl (upG fg1_10_210 v2_10_210 0 (pm q1993)))), (s1, .inl (.inl (kA 1, 6, .inl sc1)))]) (rest := [.int 1, .ref (g1 + 1 + v2_10_210)]) (As := [.int (nI v2_10_210), .int 1]) (q0 := 0) h (s_X5_footAfter _ _ kA s v2_10_210 1 s0 s1 s2 s3 s4 s5 s6 s7 s8 s9 s10 s11 sn sl se sc3 (show sn ≤ 6 by first | assumption | omega) (show sl ≤ 10 by first | assumption | omega) (show se ≤ 4 by first | assumption | omega) (show v2_10_210 < sn by first | assumption | omega) (show 1 ≤ 1 by first | assumption | omega)) tw_841 tw_709 tw_710 tw_90 tw_711 (by decide +kernel) rfl ⟨Nat.le_of_ble_eq_true rfl, Nat.le_of_ble_eq_true rfl⟩ rfl rfl (by decide +kernel) rfl rfl (by decide +kernel) (by decide +kernel) (Nat.le_of_ble_eq_true rfl) rfl ⟨Nat.le_of_ble_eq_true rfl, Nat.le_of_ble_eq_true rfl⟩ dX3_takeSteps_54 ?_
        rintro r2000 q1998 e1999
        obtain ⟨p2001, p2002⟩ := e1999
        subst p2001
        replace p2002 : q1998 ≤ 2 := p2002
        show J x (mflat [(g, .inl (.inr (3, [.ref g0, .ref g1, .ref g2, .ref g3, .ref g4, .ref g5, .ref g6, .ref g7, .int (nI sn), .int gt0, .int gm0]))), (g0, .inl (.inl (kA 1, 6, .inl (upd fg0_10_210 v2_10_210 (nI t1989))))), (g1, .inr (kA 6, kA 1, 6, 2, .inl (upG fg1_10_210 v2_10_210 0 (pm q1993)))), (s1, .inl (.inl (kA 1, 6, .inl sc1))), (s, .inl (.inr (5, [.ref s0, .ref s1, .ref s2, .ref s3, .ref s4, .ref s5, .ref s6, .ref s7, .ref s8, .ref s9, .ref s10, .ref s11, .int (nI sn), .int (nI sl), .int (nI se)]))), (s3, .inl (.inl (kA 1, 6, .inl sc3)))]) [(2, .int (nI v2_10_210)), (0, .ref g), (1, .ref s)] 0 0 57 [.int (pm q1998), .int 1, .ref (g1 + 1 + v2_10_210)]
        refine jm_gast (w' := [(g, .inl (.inr (3, [.ref g0, .ref g1, .ref g2, .ref g3, .ref g4, .ref g5, .ref g6, .ref g7, .int (nI sn), .int gt0, .int gm0]))), (g0, .inl (.inl (kA 1, 6, .inl (upd fg0_10_210 v2_10_210 (nI t1989))))), (g1, .inr (kA 6, kA 1, 6, 2, .inl (upG (upG fg1_10_210 v2_10_210 0 (pm q1993)) v2_10_210 1 (pm q1998)))), (s1, .inl (.inl (kA 1, 6, .inl sc1))), (s, .inl (.inr (5, [.ref s0, .ref s1, .ref s2, .ref s3, .ref s4, .ref s5, .ref s6, .ref s7, .ref s8, .ref s9, .ref s10, .ref s11, .int (nI sn), .int (nI sl), .int (nI se)]))), (s3, .inl (.inl (kA 1, 6, .inl sc3)))]) h 2 rfl v2_10_210 (by omega) 1 (by decide +kernel) (by decide +kernel) (by omega) dX3_takeSteps_57 rfl ?_
        refine j_iinc (v := nI (v2_10_210 + 1)) (lv' := [(2, .int (nI (v2_10_210 + 1))), (0, .ref g), (1, .ref s)]) h dX3_takeSteps_58 0 rfl (nI_add v2_10_210 1) (by decide) rfl ?_
        refine j_goto h 10 dX3_takeSteps_61 (by decide) ?_
        refine jm_sub [0, 1, 2, 4, 3, 5] (w' := [(g, .inl (.inr (3, [.ref g0, .ref g1, .ref g2, .ref g3, .ref g4, .ref g5, .ref g6, .ref g7, .int (nI sn), .int gt0, .int gm0]))), (g0, .inl (.inl (kA 1, 6, .inl (upd fg0_10_210 v2_10_210 (nI t1989))))), (g1, .inr (kA 6, kA 1, 6, 2, .inl (upG (upG fg1_10_210 v2_10_210 0 (pm q1993)) v2_10_210 1 (pm q1998)))), (s, .inl (.inr (5, [.ref s0, .ref s1, .ref s2, .ref s3, .ref s4, .ref s5, .ref s6, .ref s7, .ref s8, .ref s9, .ref s10, .ref s11, .int (nI sn), .int (nI sl), .int (nI se)]))), (s1, .inl (.inl (kA 1, 6, .inl sc1))), (s3, .inl (.inl (kA 1, 6, .inl sc3)))]) rfl (by decide +kernel) [0, 1, 2] (lv' := [(2, .int (nI (v2_10_210 + 1))), (0, .ref g), (1, .ref s)]) rfl ?_
        exact ih10_210 (v2_10_210 + 1) (upd fg0_10_210 v2_10_210 (nI t1989)) (upG (upG fg1_10_210 v2_10_210 0 (pm q1993)) v2_10_210 1 (pm q1998)) (show TkOk (v2_10_210 + 1) (upd fg0_10_210 v2_10_210 (nI t1989)) by first | exact TkOk_step (by assumption) (by omega) (by omega) | assumption | exact TkOk_0 _ | omega) (show EqTo (v2_10_210 + 1) (upd fg0_10_210 v2_10_210 (nI t1989)) sc1 by first | exact EqTo_step (by assumption) (by assumption) | assumption | exact EqTo_0 _ _ | omega) (show FtOk (v2_10_210 + 1) (upG (upG fg1_10_210 v2_10_210 0 (pm q1993)) v2_10_210 1 (pm q1998)) by first | assumption | exact ml_la (by assumption) (by omega) (by omega) | exact FtOk_0 _ | omega) (show (v2_10_210 + 1) ≤ sn by first | assumption | omega) (show (v2_10_210 + 1) ≤ 100000 by first | assumption | omega) (show 100001 - (v2_10_210 + 1) < m10_210 by first | exact Nat.lt_of_lt_of_le (Nat.sub_lt_sub_left (Nat.lt_of_le_of_lt (show v2_10_210 ≤ 100000 by assumption) (Nat.lt_succ_self 100000)) (Nat.lt_succ_self v2_10_210)) (Nat.le_of_lt_succ hm10_210) | omega)
  refine jm_sub [0, 1, 2, 3, 4, 5] (w' := [(g, .inl (.inr (3, [.ref g0, .ref g1, .ref g2, .ref g3, .ref g4, .ref g5, .ref g6, .ref g7, .int (nI sn), .int gt0, .int gm0]))), (g0, .inl (.inl (kA 1, 6, .inl gtk))), (g1, .inr (kA 6, kA 1, 6, 2, .inl gaf)), (s, .inl (.inr (5, [.ref s0, .ref s1, .ref s2, .ref s3, .ref s4, .ref s5, .ref s6, .ref s7, .ref s8, .ref s9, .ref s10, .ref s11, .int (nI sn), .int (nI sl), .int (nI se)]))), (s1, .inl (.inl (kA 1, 6, .inl sc1))), (s3, .inl (.inl (kA 1, 6, .inl sc3)))]) rfl (by decide +kernel) [0, 1, 2] (lv' := [(2, .int 0), (0, .ref g), (1, .ref s)]) rfl ?_
  exact lp10_210 (100001 - 0 + 1) 0 gtk gaf (show TkOk 0 gtk by first | assumption | exact TkOk_0 _ | exact TkOk_step (by assumption) (by omega) (by omega) | omega) (show EqTo 0 gtk sc1 by first | assumption | exact EqTo_0 _ _ | exact EqTo_step (by assumption) (by assumption) | omega) (show FtOk 0 gaf by first | assumption | exact FtOk_0 _ | exact ml_la (by assumption) (by omega) (by omega) | omega) (show 0 ≤ sn by first | assumption | omega) (show 0 ≤ 100000 by first | assumption | omega) (Nat.lt_succ_self _)
set_option maxHeartbeats 4000000 in
set_option maxRecDepth 100000 in
theorem s_X3_fillSteps (lau : Launch) (gg : va_G) (kA : Nat → ClassId) (g : Nat) (s : Nat) (lo : Nat) (d : Nat) (wt : Nat) (g0 : Nat) (g1 : Nat) (g2 : Nat) (g3 : Nat) (g4 : Nat) (g5 : Nat) (g6 : Nat) (g7 : Nat) (gn0 : Int32) (gt0 : Int32) (gm0 : Int32) (gtk : Nat → Int32) (gaf : Nat → Nat → Int32) (gco : Nat → Nat → Int32) (s0 : Nat) (s1 : Nat) (s2 : Nat) (s3 : Nat) (s4 : Nat) (s5 : Nat) (s6 : Nat) (s7 : Nat) (s8 : Nat) (s9 : Nat) (s10 : Nat) (s11 : Nat) (sn : Nat) (sl : Nat) (se : Nat) (sc1 : Nat → Int32) (sc3 : Nat → Int32) (sc10 : Nat → Int32) (lof : Nat → Int32) (d0 : Nat) (d1 : Nat) (d2 : Nat) (dls : Nat → Nat → Int32) (dms : Nat → Nat → Int32) (dnd : Nat → Int32) (hsn : sn ≤ 6) (hsl : sl ≤ 10) (hse : se ≤ 4) (hstk : TkOk sn sc1) (hwt : wt ≤ 60) : CtV lau yX3_fillSteps cX3_fillSteps 8 (none) 4 0 0 gg kA [.ref g, .ref s, .ref lo, .ref d, .int (nI wt)] (mflat [(g, .inl (.inr (3, [.ref g0, .ref g1, .ref g2, .ref g3, .ref g4, .ref g5, .ref g6, .ref g7, .int gn0, .int gt0, .int gm0]))), (g0, .inl (.inl (kA 1, 6, .inl gtk))), (g1, .inr (kA 6, kA 1, 6, 2, .inl gaf)), (g2, .inr (kA 6, kA 1, 6, 60, .inl gco)), (s, .inl (.inr (5, [.ref s0, .ref s1, .ref s2, .ref s3, .ref s4, .ref s5, .ref s6, .ref s7, .ref s8, .ref s9, .ref s10, .ref s11, .int (nI sn), .int (nI sl), .int (nI se)]))), (s1, .inl (.inl (kA 1, 6, .inl sc1))), (s3, .inl (.inl (kA 1, 6, .inl sc3))), (s10, .inl (.inl (kA 1, 4, .inl sc10))), (lo, .inl (.inl (kA 1, 6, .inl lof))), (d, .inl (.inr (0, [.ref d0, .ref d1, .ref d2]))), (d0, .inr (kA 6, kA 1, 4, 60, .inl dls)), (d1, .inr (kA 6, kA 1, 4, 60, .inl dms)), (d2, .inl (.inl (kA 3, 4, .inl dnd)))]) (S := (Nat → Int32) × (Nat → Nat → Int32) × (Nat → Nat → Int32)) (fun ((y_g0, y_g1, y_g2) : (Nat → Int32) × (Nat → Nat → Int32) × (Nat → Nat → Int32)) => (TkOk sn y_g0) ∧ (EqTo sn y_g0 sc1) ∧ (FtOk sn y_g1) ∧ (CoOk sn wt y_g0 y_g2)) (fun ((y_g0, y_g1, y_g2) : (Nat → Int32) × (Nat → Nat → Int32) × (Nat → Nat → Int32)) => mflat [(g, .inl (.inr (3, [.ref g0, .ref g1, .ref g2, .ref g3, .ref g4, .ref g5, .ref g6, .ref g7, .int (nI sn), .int gt0, .int gm0]))), (g0, .inl (.inl (kA 1, 6, .inl y_g0))), (g1, .inr (kA 6, kA 1, 6, 2, .inl y_g1)), (g2, .inr (kA 6, kA 1, 6, 60, .inl y_g2)), (s, .inl (.inr (5, [.ref s0, .ref s1, .ref s2, .ref s3, .ref s4, .ref s5, .ref s6, .ref s7, .ref s8, .ref s9, .ref s10, .ref s11, .int (nI sn), .int (nI sl), .int (nI se)]))), (s1, .inl (.inl (kA 1, 6, .inl sc1))), (s3, .inl (.inl (kA 1, 6, .inl sc3))), (s10, .inl (.inl (kA 1, 4, .inl sc10))), (lo, .inl (.inl (kA 1, 6, .inl lof))), (d, .inl (.inr (0, [.ref d0, .ref d1, .ref d2]))), (d0, .inr (kA 6, kA 1, 4, 60, .inl dls)), (d1, .inr (kA 6, kA 1, 4, 60, .inl dms)), (d2, .inl (.inl (kA 3, 4, .inl dnd)))]) := by
  refine nx_startV (by decide +kernel) (Nat.le_of_ble_eq_true rfl) ?_
  intro x hnm h hq
  have h : Ok x cX3_fillSteps RX3 kA (rmC 4 0 0) 8 := h
  show J x (mflat [(g, .inl (.inr (3, [.ref g0, .ref g1, .ref g2, .ref g3, .ref g4, .ref g5, .ref g6, .ref g7, .int gn0, .int gt0, .int gm0]))), (g0, .inl (.inl (kA 1, 6, .inl gtk))), (g1, .inr (kA 6, kA 1, 6, 2, .inl gaf)), (g2, .inr (kA 6, kA 1, 6, 60, .inl gco)), (s, .inl (.inr (5, [.ref s0, .ref s1, .ref s2, .ref s3, .ref s4, .ref s5, .ref s6, .ref s7, .ref s8, .ref s9, .ref s10, .ref s11, .int (nI sn), .int (nI sl), .int (nI se)]))), (s1, .inl (.inl (kA 1, 6, .inl sc1))), (s3, .inl (.inl (kA 1, 6, .inl sc3))), (s10, .inl (.inl (kA 1, 4, .inl sc10))), (lo, .inl (.inl (kA 1, 6, .inl lof))), (d, .inl (.inr (0, [.ref d0, .ref d1, .ref d2]))), (d0, .inr (kA 6, kA 1, 4, 60, .inl dls)), (d1, .inr (kA 6, kA 1, 4, 60, .inl dms)), (d2, .inl (.inl (kA 3, 4, .inl dnd)))]) [(0, .ref g), (1, .ref s), (2, .ref lo), (3, .ref d), (4, .int (nI wt))] 0 0 0 []
  refine j_aload_n h 0 rfl rfl dX3_fillSteps_0 ?_
  refine j_aload_n h 1 rfl rfl dX3_fillSteps_1 ?_
  refine jm_callVv (np := 1) (isC := [0, 1, 2, 4, 5, 6]) (isR := [3, 7, 8, 9, 10, 11, 12]) (wc := [(g, .inl (.inr (3, [.ref g0, .ref g1, .ref g2, .ref g3, .ref g4, .ref g5, .ref g6, .ref g7, .int gn0, .int gt0, .int gm0]))), (g0, .inl (.inl (kA 1, 6, .inl gtk))), (g1, .inr (kA 6, kA 1, 6, 2, .inl gaf)), (s, .inl (.inr (5, [.ref s0, .ref s1, .ref s2, .ref s3, .ref s4, .ref s5, .ref s6, .ref s7, .ref s8, .ref s9, .ref s10, .ref s11, .int (nI sn), .int (nI sl), .int (nI se)]))), (s1, .inl (.inl (kA 1, 6, .inl sc1))), (s3, .inl (.inl (kA 1, 6, .inl sc3)))]) (wr := [(g2, .inr (kA 6, kA 1, 6, 60, .inl gco)), (s10, .inl (.inl (kA 1, 4, .inl sc10))), (lo, .inl (.inl (kA 1, 6, .inl lof))), (d, .inl (.inr (0, [.ref d0, .ref d1, .ref d2]))), (d0, .inr (kA 6, kA 1, 4, 60, .inl dls)), (d1, .inr (kA 6, kA 1, 4, 60, .inl dms)), (d2, .inl (.inl (kA 3, 4, .inl dnd)))]) (rest := []) (As := [.ref s]) (q0 := 0) h (s_X3_takeSteps _ _ kA g s g0 g1 g2 g3 g4 g5 g6 g7 gn0 gt0 gm0 gtk gaf s0 s1 s2 s3 s4 s5 s6 s7 s8 s9 s10 s11 sn sl se sc1 sc3 (show sn ≤ 6 by first | assumption | omega) (show sl ≤ 10 by first | assumption | omega) (show se ≤ 4 by first | assumption | omega) (show TkOk sn sc1 by first | assumption | omega)) tw_837 tw_839 tw_16 tw_95 tw_840 (by decide +kernel) rfl ⟨Nat.le_of_ble_eq_true rfl, Nat.le_of_ble_eq_true rfl⟩ rfl rfl (by decide +kernel) rfl rfl (by decide +kernel) (by decide +kernel) (Nat.le_of_ble_eq_true rfl) rfl ⟨Nat.le_of_ble_eq_true rfl, Nat.le_of_ble_eq_true rfl⟩ dX3_fillSteps_2 ?_
  rintro ⟨q2112, q2113⟩ e2114
  obtain ⟨p2116, p2117, p2118⟩ := e2114
  replace p2116 : TkOk sn q2112 := p2116
  replace p2117 : EqTo sn q2112 sc1 := p2117
  replace p2118 : FtOk sn q2113 := p2118
  show J x (mflat [(g2, .inr (kA 6, kA 1, 6, 60, .inl gco)), (s10, .inl (.inl (kA 1, 4, .inl sc10))), (lo, .inl (.inl (kA 1, 6, .inl lof))), (d, .inl (.inr (0, [.ref d0, .ref d1, .ref d2]))), (d0, .inr (kA 6, kA 1, 4, 60, .inl dls)), (d1, .inr (kA 6, kA 1, 4, 60, .inl dms)), (d2, .inl (.inl (kA 3, 4, .inl dnd))), (g, .inl (.inr (3, [.ref g0, .ref g1, .ref g2, .ref g3, .ref g4, .ref g5, .ref g6, .ref g7, .int (nI sn), .int gt0, .int gm0]))), (g0, .inl (.inl (kA 1, 6, .inl q2112))), (g1, .inr (kA 6, kA 1, 6, 2, .inl q2113)), (s, .inl (.inr (5, [.ref s0, .ref s1, .ref s2, .ref s3, .ref s4, .ref s5, .ref s6, .ref s7, .ref s8, .ref s9, .ref s10, .ref s11, .int (nI sn), .int (nI sl), .int (nI se)]))), (s1, .inl (.inl (kA 1, 6, .inl sc1))), (s3, .inl (.inl (kA 1, 6, .inl sc3)))]) [(0, .ref g), (1, .ref s), (2, .ref lo), (3, .ref d), (4, .int (nI wt))] 0 0 5 []
  refine j_iconst (v := 0) h (by decide) dX3_fillSteps_5 ?_
  refine j_istore (lv' := [(5, .int 0), (0, .ref g), (1, .ref s), (2, .ref lo), (3, .ref d), (4, .int (nI wt))]) h dX3_fillSteps_6 (by decide) rfl ?_
  have lp8_231 : ∀ (m8_231 : Nat), ∀ (v5_8_231 : Nat) (fg2_8_231 : Nat → Nat → Int32), (CoOk v5_8_231 wt q2112 fg2_8_231) → (v5_8_231 ≤ sn) → (v5_8_231 ≤ 100000) → 100001 - v5_8_231 < m8_231 → J x (mflat [(g2, .inr (kA 6, kA 1, 6, 60, .inl fg2_8_231)), (s10, .inl (.inl (kA 1, 4, .inl sc10))), (lo, .inl (.inl (kA 1, 6, .inl lof))), (d, .inl (.inr (0, [.ref d0, .ref d1, .ref d2]))), (d0, .inr (kA 6, kA 1, 4, 60, .inl dls)), (d1, .inr (kA 6, kA 1, 4, 60, .inl dms)), (d2, .inl (.inl (kA 3, 4, .inl dnd))), (g, .inl (.inr (3, [.ref g0, .ref g1, .ref g2, .ref g3, .ref g4, .ref g5, .ref g6, .ref g7, .int (nI sn), .int gt0, .int gm0]))), (g0, .inl (.inl (kA 1, 6, .inl q2112))), (g1, .inr (kA 6, kA 1, 6, 2, .inl q2113)), (s, .inl (.inr (5, [.ref s0, .ref s1, .ref s2, .ref s3, .ref s4, .ref s5, .ref s6, .ref s7, .ref s8, .ref s9, .ref s10, .ref s11, .int (nI sn), .int (nI sl), .int (nI se)]))), (s1, .inl (.inl (kA 1, 6, .inl sc1))), (s3, .inl (.inl (kA 1, 6, .inl sc3)))]) [(5, .int (nI v5_8_231)), (0, .ref g), (1, .ref s), (2, .ref lo), (3, .ref d), (4, .int (nI wt))] 0 0 8 [] := by
    intro m8_231
    induction m8_231 with
    | zero =>
      intro v5_8_231 fg2_8_231 i8_231_0 i8_231_1 i8_231_2 hm8_231
      exact absurd hm8_231 (Nat.not_lt_zero _)
    | succ m8_231 ih8_231 =>
      intro v5_8_231 fg2_8_231 i8_231_0 i8_231_1 i8_231_2 hm8_231
      refine j_iload h 0 rfl dX3_fillSteps_8 ?_
      refine j_aload_n h 1 rfl rfl dX3_fillSteps_10 ?_
      refine jm_get h iw_X3 7 rfl rfl 8 (by decide +kernel) tw_387 rfl dX3_fillSteps_11 ?_
      refine j_icmp_ge h 99 dX3_fillSteps_14 (by decide) (fun z2187 => ?_) (fun z2187 => ?_)
      · have z2187n : sn ≤ v5_8_231 := (nI_leI (a := sn) (b := v5_8_231) (by omega) (by omega)).mp z2187
        exact jm_vret h hq dX3_fillSteps_99 (q2112, q2113, fg2_8_231) [7, 8, 9, 0, 10, 11, 12, 1, 2, 3, 4, 5, 6] rfl (by decide) ⟨(show TkOk sn q2112 by first | assumption | omega), (show EqTo sn q2112 sc1 by first | assumption | omega), (show FtOk sn q2113 by first | assumption | omega), (show CoOk sn wt q2112 fg2_8_231 from (show v5_8_231 = sn by omega) ▸ i8_231_0)⟩ (Nat.le_of_ble_eq_true rfl) (Nat.le_of_ble_eq_true rfl)
      · have z2187n : ¬ sn ≤ v5_8_231 := fun q9 => z2187 ((nI_leI (a := sn) (b := v5_8_231) (by omega) (by omega)).mpr q9)
        refine j_iconst (v := 0) h (by decide) dX3_fillSteps_17 ?_
        refine j_istore (lv' := [(6, .int 0), (5, .int (nI v5_8_231)), (0, .ref g), (1, .ref s), (2, .ref lo), (3, .ref d), (4, .int (nI wt))]) h dX3_fillSteps_18 (by decide) rfl ?_
        have lp20_234 : ∀ (m20_234 : Nat), ∀ (v6_20_234 : Nat) (fg2_20_234 : Nat → Nat → Int32), (CoOk v5_8_231 wt q2112 fg2_20_234) → (CoRow v5_8_231 v6_20_234 wt q2112 fg2_20_234) → (v6_20_234 ≤ 100000) → 100001 - v6_20_234 < m20_234 → J x (mflat [(g2, .inr (kA 6, kA 1, 6, 60, .inl fg2_20_234)), (s10, .inl (.inl (kA 1, 4, .inl sc10))), (lo, .inl (.inl (kA 1, 6, .inl lof))), (d, .inl (.inr (0, [.ref d0, .ref d1, .ref d2]))), (d0, .inr (kA 6, kA 1, 4, 60, .inl dls)), (d1, .inr (kA 6, kA 1, 4, 60, .inl dms)), (d2, .inl (.inl (kA 3, 4, .inl dnd))), (g, .inl (.inr (3, [.ref g0, .ref g1, .ref g2, .ref g3, .ref g4, .ref g5, .ref g6, .ref g7, .int (nI sn), .int gt0, .int gm0]))), (g0, .inl (.inl (kA 1, 6, .inl q2112))), (g1, .inr (kA 6, kA 1, 6, 2, .inl q2113)), (s, .inl (.inr (5, [.ref s0, .ref s1, .ref s2, .ref s3, .ref s4, .ref s5, .ref s6, .ref s7, .ref s8, .ref s9, .ref s10, .ref s11, .int (nI sn), .int (nI sl), .int (nI se)]))), (s1, .inl (.inl (kA 1, 6, .inl sc1))), (s3, .inl (.inl (kA 1, 6, .inl sc3)))]) [(6, .int (nI v6_20_234)), (5, .int (nI v5_8_231)), (0, .ref g), (1, .ref s), (2, .ref lo), (3, .ref d), (4, .int (nI wt))] 0 0 20 [] := by
          intro m20_234
          induction m20_234 with
          | zero =>
            intro v6_20_234 fg2_20_234 i20_234_0 i20_234_1 i20_234_2 hm20_234
            exact absurd hm20_234 (Nat.not_lt_zero _)
          | succ m20_234 ih20_234 =>
            intro v6_20_234 fg2_20_234 i20_234_0 i20_234_1 i20_234_2 hm20_234
            refine j_iload h 0 rfl dX3_fillSteps_20 ?_
            refine j_iload h 6 rfl dX3_fillSteps_22 ?_
            refine j_icmp_ge h 93 dX3_fillSteps_24 (by decide) (fun z2210 => ?_) (fun z2210 => ?_)
            · have z2210n : wt ≤ v6_20_234 := (nI_leI (a := wt) (b := v6_20_234) (by omega) (by omega)).mp z2210
              refine j_iinc (v := nI (v5_8_231 + 1)) (lv' := [(5, .int (nI (v5_8_231 + 1))), (6, .int (nI v6_20_234)), (0, .ref g), (1, .ref s), (2, .ref lo), (3, .ref d), (4, .int (nI wt))]) h dX3_fillSteps_93 1 rfl (nI_add v5_8_231 1) (by decide) rfl ?_
              refine j_goto h 8 dX3_fillSteps_96 (by decide) ?_
              refine jm_sub [0, 1, 2, 3, 4, 5, 6, 7, 8, 9, 10, 11, 12] (w' := [(g2, .inr (kA 6, kA 1, 6, 60, .inl fg2_20_234)), (s10, .inl (.inl (kA 1, 4, .inl sc10))), (lo, .inl (.inl (kA 1, 6, .inl lof))), (d, .inl (.inr (0, [.ref d0, .ref d1, .ref d2]))), (d0, .inr (kA 6, kA 1, 4, 60, .inl dls)), (d1, .inr (kA 6, kA 1, 4, 60, .inl dms)), (d2, .inl (.inl (kA 3, 4, .inl dnd))), (g, .inl (.inr (3, [.ref g0, .ref g1, .ref g2, .ref g3, .ref g4, .ref g5, .ref g6, .ref g7, .int (nI sn), .int gt0, .int gm0]))), (g0, .inl (.inl (kA 1, 6, .inl q2112))), (g1, .inr (kA 6, kA 1, 6, 2, .inl q2113)), (s, .inl (.inr (5, [.ref s0, .ref s1, .ref s2, .ref s3, .ref s4, .ref s5, .ref s6, .ref s7, .ref s8, .ref s9, .ref s10, .ref s11, .int (nI sn), .int (nI sl), .int (nI se)]))), (s1, .inl (.inl (kA 1, 6, .inl sc1))), (s3, .inl (.inl (kA 1, 6, .inl sc3)))]) rfl (by decide +kernel) [0, 2, 3, 4, 5, 6] (lv' := [(5, .int (nI (v5_8_231 + 1))), (0, .ref g), (1, .ref s), (2, .ref lo), (3, .ref d), (4, .int (nI wt))]) rfl ?_
              exact ih8_231 (v5_8_231 + 1) fg2_20_234 (show CoOk (v5_8_231 + 1) wt q2112 fg2_20_234 by first | assumption | exact CoOk_next (by assumption) (by assumption) (by omega) | exact CoOk_up (by assumption) | exact CoOk_0 _ _ _ | omega) (show (v5_8_231 + 1) ≤ sn by first | assumption | omega) (show (v5_8_231 + 1) ≤ 100000 by first | assumption | omega) (show 100001 - (v5_8_231 + 1) < m8_231 by first | exact Nat.lt_of_lt_of_le (Nat.sub_lt_sub_left (Nat.lt_of_le_of_lt (show v5_8_231 ≤ 100000 by assumption) (Nat.lt_succ_self 100000)) (Nat.lt_succ_self v5_8_231)) (Nat.le_of_lt_succ hm8_231) | omega)
            · have z2210n : ¬ wt ≤ v6_20_234 := fun q9 => z2210 ((nI_leI (a := wt) (b := v6_20_234) (by omega) (by omega)).mpr q9)
              refine j_iload h 0 rfl dX3_fillSteps_27 ?_
              refine j_aload_n h 2 rfl rfl dX3_fillSteps_29 ?_
              refine jm_get h iw_X3 7 rfl rfl 0 (by decide +kernel) tw_377 rfl dX3_fillSteps_30 ?_
              refine j_iload h 1 rfl dX3_fillSteps_33 ?_
              refine jm_iald h 8 rfl v5_8_231 rfl (by omega) (by omega) dX3_fillSteps_35 ?_
              obtain ⟨t2211, u2212, u2213, u2214⟩ := (show TkOk sn q2112 by assumption) v5_8_231 (by omega)
              refine j_top (b := nI t2211) (u2214) ?_
              refine j_iadd h dX3_fillSteps_36 ?_
              refine j_top (b := nI (v6_20_234 + t2211)) (nI_add v6_20_234 t2211) ?_
              refine j_iload h 6 rfl dX3_fillSteps_37 ?_
              refine j_icmp_gt h 46 dX3_fillSteps_39 (by decide) (fun z2215 => ?_) (fun z2215 => ?_)
              · have z2215n : wt < (v6_20_234 + t2211) := (nI_ltI (a := wt) (b := (v6_20_234 + t2211)) (by omega) (by omega)).mp z2215
                refine j_iconst (v := 0) h (by decide) dX3_fillSteps_46 ?_
                refine j_istore (lv' := [(7, .int 0), (6, .int (nI v6_20_234)), (5, .int (nI v5_8_231)), (0, .ref g), (1, .ref s), (2, .ref lo), (3, .ref d), (4, .int (nI wt))]) h dX3_fillSteps_47 (by decide) rfl ?_
                refine j_aload_n h 3 rfl rfl dX3_fillSteps_49 ?_
                refine jm_get h iw_X3 7 rfl rfl 2 (by decide +kernel) tw_381 rfl dX3_fillSteps_50 ?_
                refine j_iload h 2 rfl dX3_fillSteps_53 ?_
                refine jm_gout h 0 6 rfl rfl v5_8_231 rfl (by omega) (by omega) dX3_fillSteps_55 ?_
                refine j_iload h 1 rfl dX3_fillSteps_56 ?_
                refine j_iload h 0 rfl dX3_fillSteps_58 ?_
                refine j_if_eq h 84 dX3_fillSteps_60 (by decide) (fun _ => ?_) (fun q => absurd (by decide) q)
                refine j_bipush (v := 100) h (by decide) dX3_fillSteps_84 ?_
                refine jm_gast (w' := [(g2, .inr (kA 6, kA 1, 6, 60, .inl (upG fg2_20_234 v5_8_231 v6_20_234 100))), (s10, .inl (.inl (kA 1, 4, .inl sc10))), (lo, .inl (.inl (kA 1, 6, .inl lof))), (d, .inl (.inr (0, [.ref d0, .ref d1, .ref d2]))), (d0, .inr (kA 6, kA 1, 4, 60, .inl dls)), (d1, .inr (kA 6, kA 1, 4, 60, .inl dms)), (d2, .inl (.inl (kA 3, 4, .inl dnd))), (g, .inl (.inr (3, [.ref g0, .ref g1, .ref g2, .ref g3, .ref g4, .ref g5, .ref g6, .ref g7, .int (nI sn), .int gt0, .int gm0]))), (g0, .inl (.inl (kA 1, 6, .inl q2112))), (g1, .inr (kA 6, kA 1, 6, 2, .inl q2113)), (s, .inl (.inr (5, [.ref s0, .ref s1, .ref s2, .ref s3, .ref s4, .ref s5, .ref s6, .ref s7, .ref s8, .ref s9, .ref s10, .ref s11, .int (nI sn), .int (nI sl), .int (nI se)]))), (s1, .inl (.inl (kA 1, 6, .inl sc1))), (s3, .inl (.inl (kA 1, 6, .inl sc3)))]) h 0 rfl v5_8_231 (by omega) v6_20_234 rfl (by omega) (by omega) dX3_fillSteps_86 rfl ?_
                refine j_iinc (v := nI (v6_20_234 + 1)) (lv' := [(6, .int (nI (v6_20_234 + 1))), (7, .int 0), (5, .int (nI v5_8_231)), (0, .ref g), (1, .ref s), (2, .ref lo), (3, .ref d), (4, .int (nI wt))]) h dX3_fillSteps_87 1 rfl (nI_add v6_20_234 1) (by decide) rfl ?_
                refine j_goto h 20 dX3_fillSteps_90 (by decide) ?_
                refine jm_sub [0, 1, 2, 3, 4, 5, 6, 7, 8, 9, 10, 11, 12] (w' := [(g2, .inr (kA 6, kA 1, 6, 60, .inl (upG fg2_20_234 v5_8_231 v6_20_234 100))), (s10, .inl (.inl (kA 1, 4, .inl sc10))), (lo, .inl (.inl (kA 1, 6, .inl lof))), (d, .inl (.inr (0, [.ref d0, .ref d1, .ref d2]))), (d0, .inr (kA 6, kA 1, 4, 60, .inl dls)), (d1, .inr (kA 6, kA 1, 4, 60, .inl dms)), (d2, .inl (.inl (kA 3, 4, .inl dnd))), (g, .inl (.inr (3, [.ref g0, .ref g1, .ref g2, .ref g3, .ref g4, .ref g5, .ref g6, .ref g7, .int (nI sn), .int gt0, .int gm0]))), (g0, .inl (.inl (kA 1, 6, .inl q2112))), (g1, .inr (kA 6, kA 1, 6, 2, .inl q2113)), (s, .inl (.inr (5, [.ref s0, .ref s1, .ref s2, .ref s3, .ref s4, .ref s5, .ref s6, .ref s7, .ref s8, .ref s9, .ref s10, .ref s11, .int (nI sn), .int (nI sl), .int (nI se)]))), (s1, .inl (.inl (kA 1, 6, .inl sc1))), (s3, .inl (.inl (kA 1, 6, .inl sc3)))]) rfl (by decide +kernel) [0, 2, 3, 4, 5, 6, 7] (lv' := [(6, .int (nI (v6_20_234 + 1))), (5, .int (nI v5_8_231)), (0, .ref g), (1, .ref s), (2, .ref lo), (3, .ref d), (4, .int (nI wt))]) rfl ?_
                exact ih20_234 (v6_20_234 + 1) (upG fg2_20_234 v5_8_231 v6_20_234 100) (show CoOk v5_8_231 wt q2112 (upG fg2_20_234 v5_8_231 v6_20_234 100) by first | assumption | exact CoOk_up (by assumption) | exact CoOk_0 _ _ _ | exact CoOk_next (by assumption) (by assumption) (by omega) | omega) (show CoRow v5_8_231 (v6_20_234 + 1) wt q2112 (upG fg2_20_234 v5_8_231 v6_20_234 100) from CoRow_up (c := 100) (by assumption) (by omega) (by first | (intro hc9; exact absurd hc9 (by omega)) | (intro _; exact co_fit (by first | exact pk_us | assumption) (by omega) (by omega)))) (show (v6_20_234 + 1) ≤ 100000 by first | assumption | omega) (show 100001 - (v6_20_234 + 1) < m20_234 by first | exact Nat.lt_of_lt_of_le (Nat.sub_lt_sub_left (Nat.lt_of_le_of_lt (show v6_20_234 ≤ 100000 by assumption) (Nat.lt_succ_self 100000)) (Nat.lt_succ_self v6_20_234)) (Nat.le_of_lt_succ hm20_234) | omega)
              · have z2215n : ¬ wt < (v6_20_234 + t2211) := fun q9 => z2215 ((nI_ltI (a := wt) (b := (v6_20_234 + t2211)) (by omega) (by omega)).mpr q9)
                refine j_iconst (v := 1) h (by decide) dX3_fillSteps_42 ?_
                refine j_goto h 47 dX3_fillSteps_43 (by decide) ?_
                refine j_istore (lv' := [(7, .int 1), (6, .int (nI v6_20_234)), (5, .int (nI v5_8_231)), (0, .ref g), (1, .ref s), (2, .ref lo), (3, .ref d), (4, .int (nI wt))]) h dX3_fillSteps_47 (by decide) rfl ?_
                refine j_aload_n h 3 rfl rfl dX3_fillSteps_49 ?_
                refine jm_get h iw_X3 7 rfl rfl 2 (by decide +kernel) tw_381 rfl dX3_fillSteps_50 ?_
                refine j_iload h 2 rfl dX3_fillSteps_53 ?_
                refine jm_gout h 0 6 rfl rfl v5_8_231 rfl (by omega) (by omega) dX3_fillSteps_55 ?_
                refine j_iload h 1 rfl dX3_fillSteps_56 ?_
                refine j_iload h 0 rfl dX3_fillSteps_58 ?_
                refine j_if_eq h 84 dX3_fillSteps_60 (by decide) (fun q => absurd q (by decide)) (fun _ => ?_)
                refine j_aload_n h 6 rfl rfl dX3_fillSteps_63 ?_
                refine j_aload_n h 4 rfl rfl dX3_fillSteps_64 ?_
                refine j_aload_n h 5 rfl rfl dX3_fillSteps_65 ?_
                refine j_iload h 2 rfl dX3_fillSteps_66 ?_
                refine jm_iald h 2 rfl v5_8_231 rfl (by omega) (by omega) dX3_fillSteps_68 ?_
                refine j_aload_n h 3 rfl rfl dX3_fillSteps_69 ?_
                refine jm_get h iw_X3 7 rfl rfl 0 (by decide +kernel) tw_377 rfl dX3_fillSteps_70 ?_
                refine j_iload h 2 rfl dX3_fillSteps_73 ?_
                refine jm_iald h 8 rfl v5_8_231 rfl (by omega) (by omega) dX3_fillSteps_75 ?_
                refine j_top (b := nI t2211) (u2214) ?_
                refine j_iload h 1 rfl dX3_fillSteps_76 ?_
                refine jm_callVi (np := 4) (isC := [3, 4, 5, 6, 10, 1]) (isR := [0, 2, 7, 8, 9, 11, 12]) (wc := [(d, .inl (.inr (0, [.ref d0, .ref d1, .ref d2]))), (d0, .inr (kA 6, kA 1, 4, 60, .inl dls)), (d1, .inr (kA 6, kA 1, 4, 60, .inl dms)), (d2, .inl (.inl (kA 3, 4, .inl dnd))), (s, .inl (.inr (5, [.ref s0, .ref s1, .ref s2, .ref s3, .ref s4, .ref s5, .ref s6, .ref s7, .ref s8, .ref s9, .ref s10, .ref s11, .int (nI sn), .int (nI sl), .int (nI se)]))), (s10, .inl (.inl (kA 1, 4, .inl sc10)))]) (wr := [(g2, .inr (kA 6, kA 1, 6, 60, .inl fg2_20_234)), (lo, .inl (.inl (kA 1, 6, .inl lof))), (g, .inl (.inr (3, [.ref g0, .ref g1, .ref g2, .ref g3, .ref g4, .ref g5, .ref g6, .ref g7, .int (nI sn), .int gt0, .int gm0]))), (g0, .inl (.inl (kA 1, 6, .inl q2112))), (g1, .inr (kA 6, kA 1, 6, 2, .inl q2113)), (s1, .inl (.inl (kA 1, 6, .inl sc1))), (s3, .inl (.inl (kA 1, 6, .inl sc3)))]) (rest := [.int (nI v6_20_234), .ref (g2 + 1 + v5_8_231)]) (As := [.ref s, .int (lof v5_8_231), .int (nI t2211), .int (nI v6_20_234)]) (q0 := 0) h (s_X0_costOf _ _ kA d s (lof v5_8_231) t2211 v6_20_234 d0 d1 d2 dls dms dnd s0 s1 s2 s3 s4 s5 s6 s7 s8 s9 s10 s11 sn sl se sc10 (show sn ≤ 6 by first | assumption | omega) (show sl ≤ 10 by first | assumption | omega) (show se ≤ 4 by first | assumption | omega) (show t2211 ≤ 9 by first | assumption | omega) (show v6_20_234 < 60 by first | assumption | omega)) tw_842 tw_843 tw_844 tw_94 tw_845 (by decide +kernel) rfl ⟨Nat.le_of_ble_eq_true rfl, Nat.le_of_ble_eq_true rfl⟩ rfl rfl (by decide +kernel) rfl rfl (by decide +kernel) (by decide +kernel) (Nat.le_of_ble_eq_true rfl) rfl ⟨Nat.le_of_ble_eq_true rfl, Nat.le_of_ble_eq_true rfl⟩ dX3_fillSteps_78 ?_
                rintro r2218 q2216 e2217
                obtain ⟨p2219, p2220⟩ := e2217
                subst p2219
                replace p2220 : q2216 ≤ 100 := p2220
                show J x (mflat [(g2, .inr (kA 6, kA 1, 6, 60, .inl fg2_20_234)), (lo, .inl (.inl (kA 1, 6, .inl lof))), (g, .inl (.inr (3, [.ref g0, .ref g1, .ref g2, .ref g3, .ref g4, .ref g5, .ref g6, .ref g7, .int (nI sn), .int gt0, .int gm0]))), (g0, .inl (.inl (kA 1, 6, .inl q2112))), (g1, .inr (kA 6, kA 1, 6, 2, .inl q2113)), (s1, .inl (.inl (kA 1, 6, .inl sc1))), (s3, .inl (.inl (kA 1, 6, .inl sc3))), (d, .inl (.inr (0, [.ref d0, .ref d1, .ref d2]))), (d0, .inr (kA 6, kA 1, 4, 60, .inl dls)), (d1, .inr (kA 6, kA 1, 4, 60, .inl dms)), (d2, .inl (.inl (kA 3, 4, .inl dnd))), (s, .inl (.inr (5, [.ref s0, .ref s1, .ref s2, .ref s3, .ref s4, .ref s5, .ref s6, .ref s7, .ref s8, .ref s9, .ref s10, .ref s11, .int (nI sn), .int (nI sl), .int (nI se)]))), (s10, .inl (.inl (kA 1, 4, .inl sc10)))]) [(7, .int 1), (6, .int (nI v6_20_234)), (5, .int (nI v5_8_231)), (0, .ref g), (1, .ref s), (2, .ref lo), (3, .ref d), (4, .int (nI wt))] 0 0 81 [.int (nI q2216), .int (nI v6_20_234), .ref (g2 + 1 + v5_8_231)]
                refine j_goto h 86 dX3_fillSteps_81 (by decide) ?_
                refine jm_gast (w' := [(g2, .inr (kA 6, kA 1, 6, 60, .inl (upG fg2_20_234 v5_8_231 v6_20_234 (nI q2216)))), (lo, .inl (.inl (kA 1, 6, .inl lof))), (g, .inl (.inr (3, [.ref g0, .ref g1, .ref g2, .ref g3, .ref g4, .ref g5, .ref g6, .ref g7, .int (nI sn), .int gt0, .int gm0]))), (g0, .inl (.inl (kA 1, 6, .inl q2112))), (g1, .inr (kA 6, kA 1, 6, 2, .inl q2113)), (s1, .inl (.inl (kA 1, 6, .inl sc1))), (s3, .inl (.inl (kA 1, 6, .inl sc3))), (d, .inl (.inr (0, [.ref d0, .ref d1, .ref d2]))), (d0, .inr (kA 6, kA 1, 4, 60, .inl dls)), (d1, .inr (kA 6, kA 1, 4, 60, .inl dms)), (d2, .inl (.inl (kA 3, 4, .inl dnd))), (s, .inl (.inr (5, [.ref s0, .ref s1, .ref s2, .ref s3, .ref s4, .ref s5, .ref s6, .ref s7, .ref s8, .ref s9, .ref s10, .ref s11, .int (nI sn), .int (nI sl), .int (nI se)]))), (s10, .inl (.inl (kA 1, 4, .inl sc10)))]) h 0 rfl v5_8_231 (by omega) v6_20_234 rfl (by omega) (by omega) dX3_fillSteps_86 rfl ?_
                refine j_iinc (v := nI (v6_20_234 + 1)) (lv' := [(6, .int (nI (v6_20_234 + 1))), (7, .int 1), (5, .int (nI v5_8_231)), (0, .ref g), (1, .ref s), (2, .ref lo), (3, .ref d), (4, .int (nI wt))]) h dX3_fillSteps_87 1 rfl (nI_add v6_20_234 1) (by decide) rfl ?_
                refine j_goto h 20 dX3_fillSteps_90 (by decide) ?_
                refine jm_sub [0, 12, 1, 7, 8, 9, 10, 2, 3, 4, 11, 5, 6] (w' := [(g2, .inr (kA 6, kA 1, 6, 60, .inl (upG fg2_20_234 v5_8_231 v6_20_234 (nI q2216)))), (s10, .inl (.inl (kA 1, 4, .inl sc10))), (lo, .inl (.inl (kA 1, 6, .inl lof))), (d, .inl (.inr (0, [.ref d0, .ref d1, .ref d2]))), (d0, .inr (kA 6, kA 1, 4, 60, .inl dls)), (d1, .inr (kA 6, kA 1, 4, 60, .inl dms)), (d2, .inl (.inl (kA 3, 4, .inl dnd))), (g, .inl (.inr (3, [.ref g0, .ref g1, .ref g2, .ref g3, .ref g4, .ref g5, .ref g6, .ref g7, .int (nI sn), .int gt0, .int gm0]))), (g0, .inl (.inl (kA 1, 6, .inl q2112))), (g1, .inr (kA 6, kA 1, 6, 2, .inl q2113)), (s, .inl (.inr (5, [.ref s0, .ref s1, .ref s2, .ref s3, .ref s4, .ref s5, .ref s6, .ref s7, .ref s8, .ref s9, .ref s10, .ref s11, .int (nI sn), .int (nI sl), .int (nI se)]))), (s1, .inl (.inl (kA 1, 6, .inl sc1))), (s3, .inl (.inl (kA 1, 6, .inl sc3)))]) rfl (by decide +kernel) [0, 2, 3, 4, 5, 6, 7] (lv' := [(6, .int (nI (v6_20_234 + 1))), (5, .int (nI v5_8_231)), (0, .ref g), (1, .ref s), (2, .ref lo), (3, .ref d), (4, .int (nI wt))]) rfl ?_
                exact ih20_234 (v6_20_234 + 1) (upG fg2_20_234 v5_8_231 v6_20_234 (nI q2216)) (show CoOk v5_8_231 wt q2112 (upG fg2_20_234 v5_8_231 v6_20_234 (nI q2216)) by first | assumption | exact CoOk_up (by assumption) | exact CoOk_0 _ _ _ | exact CoOk_next (by assumption) (by assumption) (by omega) | omega) (show CoRow v5_8_231 (v6_20_234 + 1) wt q2112 (upG fg2_20_234 v5_8_231 v6_20_234 (nI q2216)) from CoRow_up (c := q2216) (by assumption) (by omega) (by first | (intro hc9; exact absurd hc9 (by omega)) | (intro _; exact co_fit (by first | exact pk_us | assumption) (by omega) (by omega)))) (show (v6_20_234 + 1) ≤ 100000 by first | assumption | omega) (show 100001 - (v6_20_234 + 1) < m20_234 by first | exact Nat.lt_of_lt_of_le (Nat.sub_lt_sub_left (Nat.lt_of_le_of_lt (show v6_20_234 ≤ 100000 by assumption) (Nat.lt_succ_self 100000)) (Nat.lt_succ_self v6_20_234)) (Nat.le_of_lt_succ hm20_234) | omega)
        refine jm_sub [0, 1, 2, 3, 4, 5, 6, 7, 8, 9, 10, 11, 12] (w' := [(g2, .inr (kA 6, kA 1, 6, 60, .inl fg2_8_231)), (s10, .inl (.inl (kA 1, 4, .inl sc10))), (lo, .inl (.inl (kA 1, 6, .inl lof))), (d, .inl (.inr (0, [.ref d0, .ref d1, .ref d2]))), (d0, .inr (kA 6, kA 1, 4, 60, .inl dls)), (d1, .inr (kA 6, kA 1, 4, 60, .inl dms)), (d2, .inl (.inl (kA 3, 4, .inl dnd))), (g, .inl (.inr (3, [.ref g0, .ref g1, .ref g2, .ref g3, .ref g4, .ref g5, .ref g6, .ref g7, .int (nI sn), .int gt0, .int gm0]))), (g0, .inl (.inl (kA 1, 6, .inl q2112))), (g1, .inr (kA 6, kA 1, 6, 2, .inl q2113)), (s, .inl (.inr (5, [.ref s0, .ref s1, .ref s2, .ref s3, .ref s4, .ref s5, .ref s6, .ref s7, .ref s8, .ref s9, .ref s10, .ref s11, .int (nI sn), .int (nI sl), .int (nI se)]))), (s1, .inl (.inl (kA 1, 6, .inl sc1))), (s3, .inl (.inl (kA 1, 6, .inl sc3)))]) rfl (by decide +kernel) [0, 1, 2, 3, 4, 5, 6] (lv' := [(6, .int 0), (5, .int (nI v5_8_231)), (0, .ref g), (1, .ref s), (2, .ref lo), (3, .ref d), (4, .int (nI wt))]) rfl ?_
        exact lp20_234 (100001 - 0 + 1) 0 fg2_8_231 (show CoOk v5_8_231 wt q2112 fg2_8_231 by first | assumption | exact CoOk_up (by assumption) | exact CoOk_0 _ _ _ | exact CoOk_next (by assumption) (by assumption) (by omega) | omega) (show CoRow v5_8_231 0 wt q2112 fg2_8_231 by first | assumption | exact CoRow_0 _ _ _ _ | omega) (show 0 ≤ 100000 by first | assumption | omega) (Nat.lt_succ_self _)
  refine jm_sub [0, 1, 2, 3, 4, 5, 6, 7, 8, 9, 10, 11, 12] (w' := [(g2, .inr (kA 6, kA 1, 6, 60, .inl gco)), (s10, .inl (.inl (kA 1, 4, .inl sc10))), (lo, .inl (.inl (kA 1, 6, .inl lof))), (d, .inl (.inr (0, [.ref d0, .ref d1, .ref d2]))), (d0, .inr (kA 6, kA 1, 4, 60, .inl dls)), (d1, .inr (kA 6, kA 1, 4, 60, .inl dms)), (d2, .inl (.inl (kA 3, 4, .inl dnd))), (g, .inl (.inr (3, [.ref g0, .ref g1, .ref g2, .ref g3, .ref g4, .ref g5, .ref g6, .ref g7, .int (nI sn), .int gt0, .int gm0]))), (g0, .inl (.inl (kA 1, 6, .inl q2112))), (g1, .inr (kA 6, kA 1, 6, 2, .inl q2113)), (s, .inl (.inr (5, [.ref s0, .ref s1, .ref s2, .ref s3, .ref s4, .ref s5, .ref s6, .ref s7, .ref s8, .ref s9, .ref s10, .ref s11, .int (nI sn), .int (nI sl), .int (nI se)]))), (s1, .inl (.inl (kA 1, 6, .inl sc1))), (s3, .inl (.inl (kA 1, 6, .inl sc3)))]) rfl (by decide +kernel) [0, 1, 2, 3, 4, 5] (lv' := [(5, .int 0), (0, .ref g), (1, .ref s), (2, .ref lo), (3, .ref d), (4, .int (nI wt))]) rfl ?_
  exact lp8_231 (100001 - 0 + 1) 0 gco (show CoOk 0 wt q2112 gco by first | assumption | exact CoOk_0 _ _ _ | exact CoOk_up (by assumption) | exact CoOk_next (by assumption) (by assumption) (by omega) | omega) (show 0 ≤ sn by first | assumption | omega) (show 0 ≤ 100000 by first | assumption | omega) (Nat.lt_succ_self _)
set_option maxHeartbeats 4000000 in
set_option maxRecDepth 100000 in
theorem s_X3_fillTimed (lau : Launch) (gg : va_G) (kA : Nat → ClassId) (g : Nat) (s : Nat) (set : Int32) (wt : Nat) (g0 : Nat) (g1 : Nat) (g2 : Nat) (g3 : Nat) (g4 : Nat) (g5 : Nat) (g6 : Nat) (g7 : Nat) (gn0 : Int32) (gt0 : Int32) (gm0 : Int32) (gtk : Nat → Int32) (gaf : Nat → Nat → Int32) (gco : Nat → Nat → Int32) (s0 : Nat) (s1 : Nat) (s2 : Nat) (s3 : Nat) (s4 : Nat) (s5 : Nat) (s6 : Nat) (s7 : Nat) (s8 : Nat) (s9 : Nat) (s10 : Nat) (s11 : Nat) (sn : Nat) (sl : Nat) (se : Nat) (sc1 : Nat → Int32) (sc3 : Nat → Int32) (hsn : sn ≤ 6) (hsl : sl ≤ 10) (hse : se ≤ 4) (hstk : TkOk sn sc1) (hwt : wt ≤ 60) : CtV lau yX3_fillTimed cX3_fillTimed 8 (none) 4 0 0 gg kA [.ref g, .ref s, .int set, .int (nI wt)] (mflat [(g, .inl (.inr (3, [.ref g0, .ref g1, .ref g2, .ref g3, .ref g4, .ref g5, .ref g6, .ref g7, .int gn0, .int gt0, .int gm0]))), (g0, .inl (.inl (kA 1, 6, .inl gtk))), (g1, .inr (kA 6, kA 1, 6, 2, .inl gaf)), (g2, .inr (kA 6, kA 1, 6, 60, .inl gco)), (s, .inl (.inr (5, [.ref s0, .ref s1, .ref s2, .ref s3, .ref s4, .ref s5, .ref s6, .ref s7, .ref s8, .ref s9, .ref s10, .ref s11, .int (nI sn), .int (nI sl), .int (nI se)]))), (s1, .inl (.inl (kA 1, 6, .inl sc1))), (s3, .inl (.inl (kA 1, 6, .inl sc3)))]) (S := (Nat → Int32) × (Nat → Nat → Int32) × (Nat → Nat → Int32)) (fun ((y_g0, y_g1, y_g2) : (Nat → Int32) × (Nat → Nat → Int32) × (Nat → Nat → Int32)) => (TkOk sn y_g0) ∧ (EqTo sn y_g0 sc1) ∧ (FtOk sn y_g1) ∧ (CoOk sn wt y_g0 y_g2)) (fun ((y_g0, y_g1, y_g2) : (Nat → Int32) × (Nat → Nat → Int32) × (Nat → Nat → Int32)) => mflat [(g, .inl (.inr (3, [.ref g0, .ref g1, .ref g2, .ref g3, .ref g4, .ref g5, .ref g6, .ref g7, .int (nI sn), .int gt0, .int gm0]))), (g0, .inl (.inl (kA 1, 6, .inl y_g0))), (g1, .inr (kA 6, kA 1, 6, 2, .inl y_g1)), (g2, .inr (kA 6, kA 1, 6, 60, .inl y_g2)), (s, .inl (.inr (5, [.ref s0, .ref s1, .ref s2, .ref s3, .ref s4, .ref s5, .ref s6, .ref s7, .ref s8, .ref s9, .ref s10, .ref s11, .int (nI sn), .int (nI sl), .int (nI se)]))), (s1, .inl (.inl (kA 1, 6, .inl sc1))), (s3, .inl (.inl (kA 1, 6, .inl sc3)))]) := by
  refine nx_startV (by decide +kernel) (Nat.le_of_ble_eq_true rfl) ?_
  intro x hnm h hq
  have h : Ok x cX3_fillTimed RX3 kA (rmC 4 0 0) 8 := h
  show J x (mflat [(g, .inl (.inr (3, [.ref g0, .ref g1, .ref g2, .ref g3, .ref g4, .ref g5, .ref g6, .ref g7, .int gn0, .int gt0, .int gm0]))), (g0, .inl (.inl (kA 1, 6, .inl gtk))), (g1, .inr (kA 6, kA 1, 6, 2, .inl gaf)), (g2, .inr (kA 6, kA 1, 6, 60, .inl gco)), (s, .inl (.inr (5, [.ref s0, .ref s1, .ref s2, .ref s3, .ref s4, .ref s5, .ref s6, .ref s7, .ref s8, .ref s9, .ref s10, .ref s11, .int (nI sn), .int (nI sl), .int (nI se)]))), (s1, .inl (.inl (kA 1, 6, .inl sc1))), (s3, .inl (.inl (kA 1, 6, .inl sc3)))]) [(0, .ref g), (1, .ref s), (2, .int set), (3, .int (nI wt))] 0 0 0 []
  refine j_aload_n h 0 rfl rfl dX3_fillTimed_0 ?_
  refine j_aload_n h 1 rfl rfl dX3_fillTimed_1 ?_
  refine jm_callVv (np := 1) (isC := [0, 1, 2, 4, 5, 6]) (isR := [3]) (wc := [(g, .inl (.inr (3, [.ref g0, .ref g1, .ref g2, .ref g3, .ref g4, .ref g5, .ref g6, .ref g7, .int gn0, .int gt0, .int gm0]))), (g0, .inl (.inl (kA 1, 6, .inl gtk))), (g1, .inr (kA 6, kA 1, 6, 2, .inl gaf)), (s, .inl (.inr (5, [.ref s0, .ref s1, .ref s2, .ref s3, .ref s4, .ref s5, .ref s6, .ref s7, .ref s8, .ref s9, .ref s10, .ref s11, .int (nI sn), .int (nI sl), .int (nI se)]))), (s1, .inl (.inl (kA 1, 6, .inl sc1))), (s3, .inl (.inl (kA 1, 6, .inl sc3)))]) (wr := [(g2, .inr (kA 6, kA 1, 6, 60, .inl gco))]) (rest := []) (As := [.ref s]) (q0 := 0) h (s_X3_takeSteps _ _ kA g s g0 g1 g2 g3 g4 g5 g6 g7 gn0 gt0 gm0 gtk gaf s0 s1 s2 s3 s4 s5 s6 s7 s8 s9 s10 s11 sn sl se sc1 sc3 (show sn ≤ 6 by first | assumption | omega) (show sl ≤ 10 by first | assumption | omega) (show se ≤ 4 by first | assumption | omega) (show TkOk sn sc1 by first | assumption | omega)) tw_837 tw_839 tw_16 tw_95 tw_840 (by decide +kernel) rfl ⟨Nat.le_of_ble_eq_true rfl, Nat.le_of_ble_eq_true rfl⟩ rfl rfl (by decide +kernel) rfl rfl (by decide +kernel) (by decide +kernel) (Nat.le_of_ble_eq_true rfl) rfl ⟨Nat.le_of_ble_eq_true rfl, Nat.le_of_ble_eq_true rfl⟩ dX3_fillTimed_2 ?_
  rintro ⟨q2351, q2352⟩ e2353
  obtain ⟨p2355, p2356, p2357⟩ := e2353
  replace p2355 : TkOk sn q2351 := p2355
  replace p2356 : EqTo sn q2351 sc1 := p2356
  replace p2357 : FtOk sn q2352 := p2357
  show J x (mflat [(g2, .inr (kA 6, kA 1, 6, 60, .inl gco)), (g, .inl (.inr (3, [.ref g0, .ref g1, .ref g2, .ref g3, .ref g4, .ref g5, .ref g6, .ref g7, .int (nI sn), .int gt0, .int gm0]))), (g0, .inl (.inl (kA 1, 6, .inl q2351))), (g1, .inr (kA 6, kA 1, 6, 2, .inl q2352)), (s, .inl (.inr (5, [.ref s0, .ref s1, .ref s2, .ref s3, .ref s4, .ref s5, .ref s6, .ref s7, .ref s8, .ref s9, .ref s10, .ref s11, .int (nI sn), .int (nI sl), .int (nI se)]))), (s1, .inl (.inl (kA 1, 6, .inl sc1))), (s3, .inl (.inl (kA 1, 6, .inl sc3)))]) [(0, .ref g), (1, .ref s), (2, .int set), (3, .int (nI wt))] 0 0 5 []
  refine j_iconst (v := 0) h (by decide) dX3_fillTimed_5 ?_
  refine j_istore (lv' := [(4, .int 0), (0, .ref g), (1, .ref s), (2, .int set), (3, .int (nI wt))]) h dX3_fillTimed_6 (by decide) rfl ?_
  have lp8_270 : ∀ (m8_270 : Nat), ∀ (v4_8_270 : Nat) (fg2_8_270 : Nat → Nat → Int32), (CoOk v4_8_270 wt q2351 fg2_8_270) → (v4_8_270 ≤ sn) → (v4_8_270 ≤ 100000) → 100001 - v4_8_270 < m8_270 → J x (mflat [(g2, .inr (kA 6, kA 1, 6, 60, .inl fg2_8_270)), (g, .inl (.inr (3, [.ref g0, .ref g1, .ref g2, .ref g3, .ref g4, .ref g5, .ref g6, .ref g7, .int (nI sn), .int gt0, .int gm0]))), (g0, .inl (.inl (kA 1, 6, .inl q2351))), (g1, .inr (kA 6, kA 1, 6, 2, .inl q2352)), (s, .inl (.inr (5, [.ref s0, .ref s1, .ref s2, .ref s3, .ref s4, .ref s5, .ref s6, .ref s7, .ref s8, .ref s9, .ref s10, .ref s11, .int (nI sn), .int (nI sl), .int (nI se)]))), (s1, .inl (.inl (kA 1, 6, .inl sc1))), (s3, .inl (.inl (kA 1, 6, .inl sc3)))]) [(4, .int (nI v4_8_270)), (0, .ref g), (1, .ref s), (2, .int set), (3, .int (nI wt))] 0 0 8 [] := by
    intro m8_270
    induction m8_270 with
    | zero =>
      intro v4_8_270 fg2_8_270 i8_270_0 i8_270_1 i8_270_2 hm8_270
      exact absurd hm8_270 (Nat.not_lt_zero _)
    | succ m8_270 ih8_270 =>
      intro v4_8_270 fg2_8_270 i8_270_0 i8_270_1 i8_270_2 hm8_270
      refine j_iload h 0 rfl dX3_fillTimed_8 ?_
      refine j_aload_n h 1 rfl rfl dX3_fillTimed_10 ?_
      refine jm_get h iw_X3 1 rfl rfl 8 (by decide +kernel) tw_387 rfl dX3_fillTimed_11 ?_
      refine j_icmp_ge h 113 dX3_fillTimed_14 (by decide) (fun z2440 => ?_) (fun z2440 => ?_)
      · have z2440n : sn ≤ v4_8_270 := (nI_leI (a := sn) (b := v4_8_270) (by omega) (by omega)).mp z2440
        exact jm_vret h hq dX3_fillTimed_113 (q2351, q2352, fg2_8_270) [1, 2, 3, 0, 4, 5, 6] rfl (by decide) ⟨(show TkOk sn q2351 by first | assumption | omega), (show EqTo sn q2351 sc1 by first | assumption | omega), (show FtOk sn q2352 by first | assumption | omega), (show CoOk sn wt q2351 fg2_8_270 from (show v4_8_270 = sn by omega) ▸ i8_270_0)⟩ (Nat.le_of_ble_eq_true rfl) (Nat.le_of_ble_eq_true rfl)
      · have z2440n : ¬ sn ≤ v4_8_270 := fun q9 => z2440 ((nI_leI (a := sn) (b := v4_8_270) (by omega) (by omega)).mpr q9)
        refine j_aload_n h 2 rfl rfl dX3_fillTimed_17 ?_
        refine jm_get h iw_X5 4 rfl rfl 3 (by decide +kernel) tw_186 rfl dX3_fillTimed_18 ?_
        refine j_iload h 0 rfl dX3_fillTimed_21 ?_
        refine jm_iald h 6 rfl v4_8_270 rfl (by omega) (by omega) dX3_fillTimed_23 ?_
        refine j_iconst (v := 3) h (by decide) dX3_fillTimed_24 ?_
        refine j_icmp_ne h 32 dX3_fillTimed_25 (by decide) (fun z2441 => ?_) (fun z2441 => ?_)
        · show J x (mflat [(g2, .inr (kA 6, kA 1, 6, 60, .inl fg2_8_270)), (g, .inl (.inr (3, [.ref g0, .ref g1, .ref g2, .ref g3, .ref g4, .ref g5, .ref g6, .ref g7, .int (nI sn), .int gt0, .int gm0]))), (g0, .inl (.inl (kA 1, 6, .inl q2351))), (g1, .inr (kA 6, kA 1, 6, 2, .inl q2352)), (s, .inl (.inr (5, [.ref s0, .ref s1, .ref s2, .ref s3, .ref s4, .ref s5, .ref s6, .ref s7, .ref s8, .ref s9, .ref s10, .ref s11, .int (nI sn), .int (nI sl), .int (nI se)]))), (s1, .inl (.inl (kA 1, 6, .inl sc1))), (s3, .inl (.inl (kA 1, 6, .inl sc3)))]) [(4, .int (nI v4_8_270)), (0, .ref g), (1, .ref s), (2, .int set), (3, .int (nI wt))] 0 0 32 []
          refine j_iconst (v := 0) h (by decide) dX3_fillTimed_32 ?_
          refine j_istore (lv' := [(5, .int 0), (4, .int (nI v4_8_270)), (0, .ref g), (1, .ref s), (2, .int set), (3, .int (nI wt))]) h dX3_fillTimed_33 (by decide) rfl ?_
          refine j_iconst (v := 0) h (by decide) dX3_fillTimed_35 ?_
          refine j_istore (lv' := [(6, .int 0), (5, .int 0), (4, .int (nI v4_8_270)), (0, .ref g), (1, .ref s), (2, .int set), (3, .int (nI wt))]) h dX3_fillTimed_36 (by decide) rfl ?_
          have lp38_273 : ∀ (m38_273 : Nat), ∀ (v6_38_273 : Nat) (fg2_38_273 : Nat → Nat → Int32), (CoOk v4_8_270 wt q2351 fg2_38_273) → (CoRow v4_8_270 v6_38_273 wt q2351 fg2_38_273) → (v6_38_273 ≤ 100000) → 100001 - v6_38_273 < m38_273 → J x (mflat [(g2, .inr (kA 6, kA 1, 6, 60, .inl fg2_38_273)), (g, .inl (.inr (3, [.ref g0, .ref g1, .ref g2, .ref g3, .ref g4, .ref g5, .ref g6, .ref g7, .int (nI sn), .int gt0, .int gm0]))), (g0, .inl (.inl (kA 1, 6, .inl q2351))), (g1, .inr (kA 6, kA 1, 6, 2, .inl q2352)), (s, .inl (.inr (5, [.ref s0, .ref s1, .ref s2, .ref s3, .ref s4, .ref s5, .ref s6, .ref s7, .ref s8, .ref s9, .ref s10, .ref s11, .int (nI sn), .int (nI sl), .int (nI se)]))), (s1, .inl (.inl (kA 1, 6, .inl sc1))), (s3, .inl (.inl (kA 1, 6, .inl sc3)))]) [(6, .int (nI v6_38_273)), (5, .int 0), (4, .int (nI v4_8_270)), (0, .ref g), (1, .ref s), (2, .int set), (3, .int (nI wt))] 0 0 38 [] := by
            intro m38_273
            induction m38_273 with
            | zero =>
              intro v6_38_273 fg2_38_273 i38_273_0 i38_273_1 i38_273_2 hm38_273
              exact absurd hm38_273 (Nat.not_lt_zero _)
            | succ m38_273 ih38_273 =>
              intro v6_38_273 fg2_38_273 i38_273_0 i38_273_1 i38_273_2 hm38_273
              refine j_iload h 0 rfl dX3_fillTimed_38 ?_
              refine j_iload_n h 6 rfl rfl dX3_fillTimed_40 ?_
              refine j_icmp_ge h 107 dX3_fillTimed_41 (by decide) (fun z2456 => ?_) (fun z2456 => ?_)
              · have z2456n : wt ≤ v6_38_273 := (nI_leI (a := wt) (b := v6_38_273) (by omega) (by omega)).mp z2456
                refine j_iinc (v := nI (v4_8_270 + 1)) (lv' := [(4, .int (nI (v4_8_270 + 1))), (6, .int (nI v6_38_273)), (5, .int 0), (0, .ref g), (1, .ref s), (2, .int set), (3, .int (nI wt))]) h dX3_fillTimed_107 2 rfl (nI_add v4_8_270 1) (by decide) rfl ?_
                refine j_goto h 8 dX3_fillTimed_110 (by decide) ?_
                refine jm_sub [0, 1, 2, 3, 4, 5, 6] (w' := [(g2, .inr (kA 6, kA 1, 6, 60, .inl fg2_38_273)), (g, .inl (.inr (3, [.ref g0, .ref g1, .ref g2, .ref g3, .ref g4, .ref g5, .ref g6, .ref g7, .int (nI sn), .int gt0, .int gm0]))), (g0, .inl (.inl (kA 1, 6, .inl q2351))), (g1, .inr (kA 6, kA 1, 6, 2, .inl q2352)), (s, .inl (.inr (5, [.ref s0, .ref s1, .ref s2, .ref s3, .ref s4, .ref s5, .ref s6, .ref s7, .ref s8, .ref s9, .ref s10, .ref s11, .int (nI sn), .int (nI sl), .int (nI se)]))), (s1, .inl (.inl (kA 1, 6, .inl sc1))), (s3, .inl (.inl (kA 1, 6, .inl sc3)))]) rfl (by decide +kernel) [0, 3, 4, 5, 6] (lv' := [(4, .int (nI (v4_8_270 + 1))), (0, .ref g), (1, .ref s), (2, .int set), (3, .int (nI wt))]) rfl ?_
                exact ih8_270 (v4_8_270 + 1) fg2_38_273 (show CoOk (v4_8_270 + 1) wt q2351 fg2_38_273 by first | assumption | exact CoOk_next (by assumption) (by assumption) (by omega) | exact CoOk_up (by assumption) | exact CoOk_0 _ _ _ | omega) (show (v4_8_270 + 1) ≤ sn by first | assumption | omega) (show (v4_8_270 + 1) ≤ 100000 by first | assumption | omega) (show 100001 - (v4_8_270 + 1) < m8_270 by first | exact Nat.lt_of_lt_of_le (Nat.sub_lt_sub_left (Nat.lt_of_le_of_lt (show v4_8_270 ≤ 100000 by assumption) (Nat.lt_succ_self 100000)) (Nat.lt_succ_self v4_8_270)) (Nat.le_of_lt_succ hm8_270) | omega)
              · have z2456n : ¬ wt ≤ v6_38_273 := fun q9 => z2456 ((nI_leI (a := wt) (b := v6_38_273) (by omega) (by omega)).mpr q9)
                refine j_iload h 1 rfl dX3_fillTimed_44 ?_
                refine j_if_ne h 59 dX3_fillTimed_46 (by decide) (fun q => absurd (by decide) q) (fun _ => ?_)
                refine j_iload_n h 5 rfl rfl dX3_fillTimed_49 ?_
                refine j_iload h 0 rfl dX3_fillTimed_50 ?_
                refine j_ishr h dX3_fillTimed_52 ?_
                refine j_iconst (v := 1) h (by decide) dX3_fillTimed_53 ?_
                refine j_iand h dX3_fillTimed_54 ?_
                refine j_iconst (v := 1) h (by decide) dX3_fillTimed_55 ?_
                refine j_icmp_ne h 63 dX3_fillTimed_56 (by decide) (fun z2457 => ?_) (fun z2457 => ?_)
                · show J x (mflat [(g2, .inr (kA 6, kA 1, 6, 60, .inl fg2_38_273)), (g, .inl (.inr (3, [.ref g0, .ref g1, .ref g2, .ref g3, .ref g4, .ref g5, .ref g6, .ref g7, .int (nI sn), .int gt0, .int gm0]))), (g0, .inl (.inl (kA 1, 6, .inl q2351))), (g1, .inr (kA 6, kA 1, 6, 2, .inl q2352)), (s, .inl (.inr (5, [.ref s0, .ref s1, .ref s2, .ref s3, .ref s4, .ref s5, .ref s6, .ref s7, .ref s8, .ref s9, .ref s10, .ref s11, .int (nI sn), .int (nI sl), .int (nI se)]))), (s1, .inl (.inl (kA 1, 6, .inl sc1))), (s3, .inl (.inl (kA 1, 6, .inl sc3)))]) [(6, .int (nI v6_38_273)), (5, .int 0), (4, .int (nI v4_8_270)), (0, .ref g), (1, .ref s), (2, .int set), (3, .int (nI wt))] 0 0 63 []
                  refine j_iconst (v := 0) h (by decide) dX3_fillTimed_63 ?_
                  refine j_istore (lv' := [(7, .int 0), (6, .int (nI v6_38_273)), (5, .int 0), (4, .int (nI v4_8_270)), (0, .ref g), (1, .ref s), (2, .int set), (3, .int (nI wt))]) h dX3_fillTimed_64 (by decide) rfl ?_
                  refine j_aload_n h 4 rfl rfl dX3_fillTimed_66 ?_
                  refine jm_get h iw_X3 1 rfl rfl 2 (by decide +kernel) tw_381 rfl dX3_fillTimed_67 ?_
                  refine j_iload h 3 rfl dX3_fillTimed_70 ?_
                  refine jm_gout h 0 6 rfl rfl v4_8_270 rfl (by omega) (by omega) dX3_fillTimed_72 ?_
                  refine j_iload h 1 rfl dX3_fillTimed_73 ?_
                  refine j_iload h 0 rfl dX3_fillTimed_75 ?_
                  refine j_if_eq h 98 dX3_fillTimed_77 (by decide) (fun _ => ?_) (fun q => absurd (by decide) q)
                  refine j_bipush (v := 100) h (by decide) dX3_fillTimed_98 ?_
                  refine jm_gast (w' := [(g2, .inr (kA 6, kA 1, 6, 60, .inl (upG fg2_38_273 v4_8_270 v6_38_273 100))), (g, .inl (.inr (3, [.ref g0, .ref g1, .ref g2, .ref g3, .ref g4, .ref g5, .ref g6, .ref g7, .int (nI sn), .int gt0, .int gm0]))), (g0, .inl (.inl (kA 1, 6, .inl q2351))), (g1, .inr (kA 6, kA 1, 6, 2, .inl q2352)), (s, .inl (.inr (5, [.ref s0, .ref s1, .ref s2, .ref s3, .ref s4, .ref s5, .ref s6, .ref s7, .ref s8, .ref s9, .ref s10, .ref s11, .int (nI sn), .int (nI sl), .int (nI se)]))), (s1, .inl (.inl (kA 1, 6, .inl sc1))), (s3, .inl (.inl (kA 1, 6, .inl sc3)))]) h 0 rfl v4_8_270 (by omega) v6_38_273 rfl (by omega) (by omega) dX3_fillTimed_100 rfl ?_
                  refine j_iinc (v := nI (v6_38_273 + 1)) (lv' := [(6, .int (nI (v6_38_273 + 1))), (7, .int 0), (5, .int 0), (4, .int (nI v4_8_270)), (0, .ref g), (1, .ref s), (2, .int set), (3, .int (nI wt))]) h dX3_fillTimed_101 1 rfl (nI_add v6_38_273 1) (by decide) rfl ?_
                  refine j_goto h 38 dX3_fillTimed_104 (by decide) ?_
                  refine jm_sub [0, 1, 2, 3, 4, 5, 6] (w' := [(g2, .inr (kA 6, kA 1, 6, 60, .inl (upG fg2_38_273 v4_8_270 v6_38_273 100))), (g, .inl (.inr (3, [.ref g0, .ref g1, .ref g2, .ref g3, .ref g4, .ref g5, .ref g6, .ref g7, .int (nI sn), .int gt0, .int gm0]))), (g0, .inl (.inl (kA 1, 6, .inl q2351))), (g1, .inr (kA 6, kA 1, 6, 2, .inl q2352)), (s, .inl (.inr (5, [.ref s0, .ref s1, .ref s2, .ref s3, .ref s4, .ref s5, .ref s6, .ref s7, .ref s8, .ref s9, .ref s10, .ref s11, .int (nI sn), .int (nI sl), .int (nI se)]))), (s1, .inl (.inl (kA 1, 6, .inl sc1))), (s3, .inl (.inl (kA 1, 6, .inl sc3)))]) rfl (by decide +kernel) [0, 2, 3, 4, 5, 6, 7] (lv' := [(6, .int (nI (v6_38_273 + 1))), (5, .int 0), (4, .int (nI v4_8_270)), (0, .ref g), (1, .ref s), (2, .int set), (3, .int (nI wt))]) rfl ?_
                  exact ih38_273 (v6_38_273 + 1) (upG fg2_38_273 v4_8_270 v6_38_273 100) (show CoOk v4_8_270 wt q2351 (upG fg2_38_273 v4_8_270 v6_38_273 100) by first | assumption | exact CoOk_up (by assumption) | exact CoOk_0 _ _ _ | exact CoOk_next (by assumption) (by assumption) (by omega) | omega) (show CoRow v4_8_270 (v6_38_273 + 1) wt q2351 (upG fg2_38_273 v4_8_270 v6_38_273 100) from CoRow_up (c := 100) (by assumption) (by omega) (by first | (intro hc9; exact absurd hc9 (by omega)) | (intro _; exact co_fit (by first | exact pk_us | assumption) (by omega) (by omega)))) (show (v6_38_273 + 1) ≤ 100000 by first | assumption | omega) (show 100001 - (v6_38_273 + 1) < m38_273 by first | exact Nat.lt_of_lt_of_le (Nat.sub_lt_sub_left (Nat.lt_of_le_of_lt (show v6_38_273 ≤ 100000 by assumption) (Nat.lt_succ_self 100000)) (Nat.lt_succ_self v6_38_273)) (Nat.le_of_lt_succ hm38_273) | omega)
                · show J x (mflat [(g2, .inr (kA 6, kA 1, 6, 60, .inl fg2_38_273)), (g, .inl (.inr (3, [.ref g0, .ref g1, .ref g2, .ref g3, .ref g4, .ref g5, .ref g6, .ref g7, .int (nI sn), .int gt0, .int gm0]))), (g0, .inl (.inl (kA 1, 6, .inl q2351))), (g1, .inr (kA 6, kA 1, 6, 2, .inl q2352)), (s, .inl (.inr (5, [.ref s0, .ref s1, .ref s2, .ref s3, .ref s4, .ref s5, .ref s6, .ref s7, .ref s8, .ref s9, .ref s10, .ref s11, .int (nI sn), .int (nI sl), .int (nI se)]))), (s1, .inl (.inl (kA 1, 6, .inl sc1))), (s3, .inl (.inl (kA 1, 6, .inl sc3)))]) [(6, .int (nI v6_38_273)), (5, .int 0), (4, .int (nI v4_8_270)), (0, .ref g), (1, .ref s), (2, .int set), (3, .int (nI wt))] 0 0 59 []
                  refine j_iconst (v := 1) h (by decide) dX3_fillTimed_59 ?_
                  refine j_goto h 64 dX3_fillTimed_60 (by decide) ?_
                  refine j_istore (lv' := [(7, .int 1), (6, .int (nI v6_38_273)), (5, .int 0), (4, .int (nI v4_8_270)), (0, .ref g), (1, .ref s), (2, .int set), (3, .int (nI wt))]) h dX3_fillTimed_64 (by decide) rfl ?_
                  refine j_aload_n h 4 rfl rfl dX3_fillTimed_66 ?_
                  refine jm_get h iw_X3 1 rfl rfl 2 (by decide +kernel) tw_381 rfl dX3_fillTimed_67 ?_
                  refine j_iload h 3 rfl dX3_fillTimed_70 ?_
                  refine jm_gout h 0 6 rfl rfl v4_8_270 rfl (by omega) (by omega) dX3_fillTimed_72 ?_
                  refine j_iload h 1 rfl dX3_fillTimed_73 ?_
                  refine j_iload h 0 rfl dX3_fillTimed_75 ?_
                  refine j_if_eq h 98 dX3_fillTimed_77 (by decide) (fun q => absurd q (by decide)) (fun _ => ?_)
                  refine j_iload h 1 rfl dX3_fillTimed_80 ?_
                  refine j_aload_n h 4 rfl rfl dX3_fillTimed_82 ?_
                  refine jm_get h iw_X3 1 rfl rfl 0 (by decide +kernel) tw_377 rfl dX3_fillTimed_83 ?_
                  refine j_iload h 3 rfl dX3_fillTimed_86 ?_
                  refine jm_iald h 2 rfl v4_8_270 rfl (by omega) (by omega) dX3_fillTimed_88 ?_
                  obtain ⟨t2458, u2459, u2460, u2461⟩ := (show TkOk sn q2351 by assumption) v4_8_270 (by omega)
                  refine j_top (b := nI t2458) (u2461) ?_
                  refine j_iadd h dX3_fillTimed_89 ?_
                  refine j_top (b := nI (v6_38_273 + t2458)) (nI_add v6_38_273 t2458) ?_
                  refine j_iload_n h 7 rfl rfl dX3_fillTimed_90 ?_
                  refine j_icmp_gt h 98 dX3_fillTimed_91 (by decide) (fun z2462 => ?_) (fun z2462 => ?_)
                  · have z2462n : wt < (v6_38_273 + t2458) := (nI_ltI (a := wt) (b := (v6_38_273 + t2458)) (by omega) (by omega)).mp z2462
                    refine j_bipush (v := 100) h (by decide) dX3_fillTimed_98 ?_
                    refine jm_gast (w' := [(g2, .inr (kA 6, kA 1, 6, 60, .inl (upG fg2_38_273 v4_8_270 v6_38_273 100))), (g, .inl (.inr (3, [.ref g0, .ref g1, .ref g2, .ref g3, .ref g4, .ref g5, .ref g6, .ref g7, .int (nI sn), .int gt0, .int gm0]))), (g0, .inl (.inl (kA 1, 6, .inl q2351))), (g1, .inr (kA 6, kA 1, 6, 2, .inl q2352)), (s, .inl (.inr (5, [.ref s0, .ref s1, .ref s2, .ref s3, .ref s4, .ref s5, .ref s6, .ref s7, .ref s8, .ref s9, .ref s10, .ref s11, .int (nI sn), .int (nI sl), .int (nI se)]))), (s1, .inl (.inl (kA 1, 6, .inl sc1))), (s3, .inl (.inl (kA 1, 6, .inl sc3)))]) h 0 rfl v4_8_270 (by omega) v6_38_273 rfl (by omega) (by omega) dX3_fillTimed_100 rfl ?_
                    refine j_iinc (v := nI (v6_38_273 + 1)) (lv' := [(6, .int (nI (v6_38_273 + 1))), (7, .int 1), (5, .int 0), (4, .int (nI v4_8_270)), (0, .ref g), (1, .ref s), (2, .int set), (3, .int (nI wt))]) h dX3_fillTimed_101 1 rfl (nI_add v6_38_273 1) (by decide) rfl ?_
                    refine j_goto h 38 dX3_fillTimed_104 (by decide) ?_
                    refine jm_sub [0, 1, 2, 3, 4, 5, 6] (w' := [(g2, .inr (kA 6, kA 1, 6, 60, .inl (upG fg2_38_273 v4_8_270 v6_38_273 100))), (g, .inl (.inr (3, [.ref g0, .ref g1, .ref g2, .ref g3, .ref g4, .ref g5, .ref g6, .ref g7, .int (nI sn), .int gt0, .int gm0]))), (g0, .inl (.inl (kA 1, 6, .inl q2351))), (g1, .inr (kA 6, kA 1, 6, 2, .inl q2352)), (s, .inl (.inr (5, [.ref s0, .ref s1, .ref s2, .ref s3, .ref s4, .ref s5, .ref s6, .ref s7, .ref s8, .ref s9, .ref s10, .ref s11, .int (nI sn), .int (nI sl), .int (nI se)]))), (s1, .inl (.inl (kA 1, 6, .inl sc1))), (s3, .inl (.inl (kA 1, 6, .inl sc3)))]) rfl (by decide +kernel) [0, 2, 3, 4, 5, 6, 7] (lv' := [(6, .int (nI (v6_38_273 + 1))), (5, .int 0), (4, .int (nI v4_8_270)), (0, .ref g), (1, .ref s), (2, .int set), (3, .int (nI wt))]) rfl ?_
                    exact ih38_273 (v6_38_273 + 1) (upG fg2_38_273 v4_8_270 v6_38_273 100) (show CoOk v4_8_270 wt q2351 (upG fg2_38_273 v4_8_270 v6_38_273 100) by first | assumption | exact CoOk_up (by assumption) | exact CoOk_0 _ _ _ | exact CoOk_next (by assumption) (by assumption) (by omega) | omega) (show CoRow v4_8_270 (v6_38_273 + 1) wt q2351 (upG fg2_38_273 v4_8_270 v6_38_273 100) from CoRow_up (c := 100) (by assumption) (by omega) (by first | (intro hc9; exact absurd hc9 (by omega)) | (intro _; exact co_fit (by first | exact pk_us | assumption) (by omega) (by omega)))) (show (v6_38_273 + 1) ≤ 100000 by first | assumption | omega) (show 100001 - (v6_38_273 + 1) < m38_273 by first | exact Nat.lt_of_lt_of_le (Nat.sub_lt_sub_left (Nat.lt_of_le_of_lt (show v6_38_273 ≤ 100000 by assumption) (Nat.lt_succ_self 100000)) (Nat.lt_succ_self v6_38_273)) (Nat.le_of_lt_succ hm38_273) | omega)
                  · have z2462n : ¬ wt < (v6_38_273 + t2458) := fun q9 => z2462 ((nI_ltI (a := wt) (b := (v6_38_273 + t2458)) (by omega) (by omega)).mpr q9)
                    refine j_iconst (v := 0) h (by decide) dX3_fillTimed_94 ?_
                    refine j_goto h 100 dX3_fillTimed_95 (by decide) ?_
                    refine jm_gast (w' := [(g2, .inr (kA 6, kA 1, 6, 60, .inl (upG fg2_38_273 v4_8_270 v6_38_273 0))), (g, .inl (.inr (3, [.ref g0, .ref g1, .ref g2, .ref g3, .ref g4, .ref g5, .ref g6, .ref g7, .int (nI sn), .int gt0, .int gm0]))), (g0, .inl (.inl (kA 1, 6, .inl q2351))), (g1, .inr (kA 6, kA 1, 6, 2, .inl q2352)), (s, .inl (.inr (5, [.ref s0, .ref s1, .ref s2, .ref s3, .ref s4, .ref s5, .ref s6, .ref s7, .ref s8, .ref s9, .ref s10, .ref s11, .int (nI sn), .int (nI sl), .int (nI se)]))), (s1, .inl (.inl (kA 1, 6, .inl sc1))), (s3, .inl (.inl (kA 1, 6, .inl sc3)))]) h 0 rfl v4_8_270 (by omega) v6_38_273 rfl (by omega) (by omega) dX3_fillTimed_100 rfl ?_
                    refine j_iinc (v := nI (v6_38_273 + 1)) (lv' := [(6, .int (nI (v6_38_273 + 1))), (7, .int 1), (5, .int 0), (4, .int (nI v4_8_270)), (0, .ref g), (1, .ref s), (2, .int set), (3, .int (nI wt))]) h dX3_fillTimed_101 1 rfl (nI_add v6_38_273 1) (by decide) rfl ?_
                    refine j_goto h 38 dX3_fillTimed_104 (by decide) ?_
                    refine jm_sub [0, 1, 2, 3, 4, 5, 6] (w' := [(g2, .inr (kA 6, kA 1, 6, 60, .inl (upG fg2_38_273 v4_8_270 v6_38_273 0))), (g, .inl (.inr (3, [.ref g0, .ref g1, .ref g2, .ref g3, .ref g4, .ref g5, .ref g6, .ref g7, .int (nI sn), .int gt0, .int gm0]))), (g0, .inl (.inl (kA 1, 6, .inl q2351))), (g1, .inr (kA 6, kA 1, 6, 2, .inl q2352)), (s, .inl (.inr (5, [.ref s0, .ref s1, .ref s2, .ref s3, .ref s4, .ref s5, .ref s6, .ref s7, .ref s8, .ref s9, .ref s10, .ref s11, .int (nI sn), .int (nI sl), .int (nI se)]))), (s1, .inl (.inl (kA 1, 6, .inl sc1))), (s3, .inl (.inl (kA 1, 6, .inl sc3)))]) rfl (by decide +kernel) [0, 2, 3, 4, 5, 6, 7] (lv' := [(6, .int (nI (v6_38_273 + 1))), (5, .int 0), (4, .int (nI v4_8_270)), (0, .ref g), (1, .ref s), (2, .int set), (3, .int (nI wt))]) rfl ?_
                    exact ih38_273 (v6_38_273 + 1) (upG fg2_38_273 v4_8_270 v6_38_273 0) (show CoOk v4_8_270 wt q2351 (upG fg2_38_273 v4_8_270 v6_38_273 0) by first | assumption | exact CoOk_up (by assumption) | exact CoOk_0 _ _ _ | exact CoOk_next (by assumption) (by assumption) (by omega) | omega) (show CoRow v4_8_270 (v6_38_273 + 1) wt q2351 (upG fg2_38_273 v4_8_270 v6_38_273 0) from CoRow_up (c := 0) (by assumption) (by omega) (by first | (intro hc9; exact absurd hc9 (by omega)) | (intro _; exact co_fit (by first | exact pk_us | assumption) (by omega) (by omega)))) (show (v6_38_273 + 1) ≤ 100000 by first | assumption | omega) (show 100001 - (v6_38_273 + 1) < m38_273 by first | exact Nat.lt_of_lt_of_le (Nat.sub_lt_sub_left (Nat.lt_of_le_of_lt (show v6_38_273 ≤ 100000 by assumption) (Nat.lt_succ_self 100000)) (Nat.lt_succ_self v6_38_273)) (Nat.le_of_lt_succ hm38_273) | omega)
          refine jm_sub [0, 1, 2, 3, 4, 5, 6] (w' := [(g2, .inr (kA 6, kA 1, 6, 60, .inl fg2_8_270)), (g, .inl (.inr (3, [.ref g0, .ref g1, .ref g2, .ref g3, .ref g4, .ref g5, .ref g6, .ref g7, .int (nI sn), .int gt0, .int gm0]))), (g0, .inl (.inl (kA 1, 6, .inl q2351))), (g1, .inr (kA 6, kA 1, 6, 2, .inl q2352)), (s, .inl (.inr (5, [.ref s0, .ref s1, .ref s2, .ref s3, .ref s4, .ref s5, .ref s6, .ref s7, .ref s8, .ref s9, .ref s10, .ref s11, .int (nI sn), .int (nI sl), .int (nI se)]))), (s1, .inl (.inl (kA 1, 6, .inl sc1))), (s3, .inl (.inl (kA 1, 6, .inl sc3)))]) rfl (by decide +kernel) [0, 1, 2, 3, 4, 5, 6] (lv' := [(6, .int 0), (5, .int 0), (4, .int (nI v4_8_270)), (0, .ref g), (1, .ref s), (2, .int set), (3, .int (nI wt))]) rfl ?_
          exact lp38_273 (100001 - 0 + 1) 0 fg2_8_270 (show CoOk v4_8_270 wt q2351 fg2_8_270 by first | assumption | exact CoOk_up (by assumption) | exact CoOk_0 _ _ _ | exact CoOk_next (by assumption) (by assumption) (by omega) | omega) (show CoRow v4_8_270 0 wt q2351 fg2_8_270 by first | assumption | exact CoRow_0 _ _ _ _ | omega) (show 0 ≤ 100000 by first | assumption | omega) (Nat.lt_succ_self _)
        · show J x (mflat [(g2, .inr (kA 6, kA 1, 6, 60, .inl fg2_8_270)), (g, .inl (.inr (3, [.ref g0, .ref g1, .ref g2, .ref g3, .ref g4, .ref g5, .ref g6, .ref g7, .int (nI sn), .int gt0, .int gm0]))), (g0, .inl (.inl (kA 1, 6, .inl q2351))), (g1, .inr (kA 6, kA 1, 6, 2, .inl q2352)), (s, .inl (.inr (5, [.ref s0, .ref s1, .ref s2, .ref s3, .ref s4, .ref s5, .ref s6, .ref s7, .ref s8, .ref s9, .ref s10, .ref s11, .int (nI sn), .int (nI sl), .int (nI se)]))), (s1, .inl (.inl (kA 1, 6, .inl sc1))), (s3, .inl (.inl (kA 1, 6, .inl sc3)))]) [(4, .int (nI v4_8_270)), (0, .ref g), (1, .ref s), (2, .int set), (3, .int (nI wt))] 0 0 28 []
          refine j_iconst (v := 1) h (by decide) dX3_fillTimed_28 ?_
          refine j_goto h 33 dX3_fillTimed_29 (by decide) ?_
          refine j_istore (lv' := [(5, .int 1), (4, .int (nI v4_8_270)), (0, .ref g), (1, .ref s), (2, .int set), (3, .int (nI wt))]) h dX3_fillTimed_33 (by decide) rfl ?_
          refine j_iconst (v := 0) h (by decide) dX3_fillTimed_35 ?_
          refine j_istore (lv' := [(6, .int 0), (5, .int 1), (4, .int (nI v4_8_270)), (0, .ref g), (1, .ref s), (2, .int set), (3, .int (nI wt))]) h dX3_fillTimed_36 (by decide) rfl ?_
          have lp38_276 : ∀ (m38_276 : Nat), ∀ (v6_38_276 : Nat) (fg2_38_276 : Nat → Nat → Int32), (CoOk v4_8_270 wt q2351 fg2_38_276) → (CoRow v4_8_270 v6_38_276 wt q2351 fg2_38_276) → (v6_38_276 ≤ 100000) → 100001 - v6_38_276 < m38_276 → J x (mflat [(g2, .inr (kA 6, kA 1, 6, 60, .inl fg2_38_276)), (g, .inl (.inr (3, [.ref g0, .ref g1, .ref g2, .ref g3, .ref g4, .ref g5, .ref g6, .ref g7, .int (nI sn), .int gt0, .int gm0]))), (g0, .inl (.inl (kA 1, 6, .inl q2351))), (g1, .inr (kA 6, kA 1, 6, 2, .inl q2352)), (s, .inl (.inr (5, [.ref s0, .ref s1, .ref s2, .ref s3, .ref s4, .ref s5, .ref s6, .ref s7, .ref s8, .ref s9, .ref s10, .ref s11, .int (nI sn), .int (nI sl), .int (nI se)]))), (s1, .inl (.inl (kA 1, 6, .inl sc1))), (s3, .inl (.inl (kA 1, 6, .inl sc3)))]) [(6, .int (nI v6_38_276)), (5, .int 1), (4, .int (nI v4_8_270)), (0, .ref g), (1, .ref s), (2, .int set), (3, .int (nI wt))] 0 0 38 [] := by
            intro m38_276
            induction m38_276 with
            | zero =>
              intro v6_38_276 fg2_38_276 i38_276_0 i38_276_1 i38_276_2 hm38_276
              exact absurd hm38_276 (Nat.not_lt_zero _)
            | succ m38_276 ih38_276 =>
              intro v6_38_276 fg2_38_276 i38_276_0 i38_276_1 i38_276_2 hm38_276
              refine j_iload h 0 rfl dX3_fillTimed_38 ?_
              refine j_iload_n h 6 rfl rfl dX3_fillTimed_40 ?_
              refine j_icmp_ge h 107 dX3_fillTimed_41 (by decide) (fun z2475 => ?_) (fun z2475 => ?_)
              · have z2475n : wt ≤ v6_38_276 := (nI_leI (a := wt) (b := v6_38_276) (by omega) (by omega)).mp z2475
                refine j_iinc (v := nI (v4_8_270 + 1)) (lv' := [(4, .int (nI (v4_8_270 + 1))), (6, .int (nI v6_38_276)), (5, .int 1), (0, .ref g), (1, .ref s), (2, .int set), (3, .int (nI wt))]) h dX3_fillTimed_107 2 rfl (nI_add v4_8_270 1) (by decide) rfl ?_
                refine j_goto h 8 dX3_fillTimed_110 (by decide) ?_
                refine jm_sub [0, 1, 2, 3, 4, 5, 6] (w' := [(g2, .inr (kA 6, kA 1, 6, 60, .inl fg2_38_276)), (g, .inl (.inr (3, [.ref g0, .ref g1, .ref g2, .ref g3, .ref g4, .ref g5, .ref g6, .ref g7, .int (nI sn), .int gt0, .int gm0]))), (g0, .inl (.inl (kA 1, 6, .inl q2351))), (g1, .inr (kA 6, kA 1, 6, 2, .inl q2352)), (s, .inl (.inr (5, [.ref s0, .ref s1, .ref s2, .ref s3, .ref s4, .ref s5, .ref s6, .ref s7, .ref s8, .ref s9, .ref s10, .ref s11, .int (nI sn), .int (nI sl), .int (nI se)]))), (s1, .inl (.inl (kA 1, 6, .inl sc1))), (s3, .inl (.inl (kA 1, 6, .inl sc3)))]) rfl (by decide +kernel) [0, 3, 4, 5, 6] (lv' := [(4, .int (nI (v4_8_270 + 1))), (0, .ref g), (1, .ref s), (2, .int set), (3, .int (nI wt))]) rfl ?_
                exact ih8_270 (v4_8_270 + 1) fg2_38_276 (show CoOk (v4_8_270 + 1) wt q2351 fg2_38_276 by first | assumption | exact CoOk_next (by assumption) (by assumption) (by omega) | exact CoOk_up (by assumption) | exact CoOk_0 _ _ _ | omega) (show (v4_8_270 + 1) ≤ sn by first | assumption | omega) (show (v4_8_270 + 1) ≤ 100000 by first | assumption | omega) (show 100001 - (v4_8_270 + 1) < m8_270 by first | exact Nat.lt_of_lt_of_le (Nat.sub_lt_sub_left (Nat.lt_of_le_of_lt (show v4_8_270 ≤ 100000 by assumption) (Nat.lt_succ_self 100000)) (Nat.lt_succ_self v4_8_270)) (Nat.le_of_lt_succ hm8_270) | omega)
              · have z2475n : ¬ wt ≤ v6_38_276 := fun q9 => z2475 ((nI_leI (a := wt) (b := v6_38_276) (by omega) (by omega)).mpr q9)
                refine j_iload h 1 rfl dX3_fillTimed_44 ?_
                refine j_if_ne h 59 dX3_fillTimed_46 (by decide) (fun _ => ?_) (fun q => absurd q (by decide))
                refine j_iconst (v := 1) h (by decide) dX3_fillTimed_59 ?_
                refine j_goto h 64 dX3_fillTimed_60 (by decide) ?_
                refine j_istore (lv' := [(7, .int 1), (6, .int (nI v6_38_276)), (5, .int 1), (4, .int (nI v4_8_270)), (0, .ref g), (1, .ref s), (2, .int set), (3, .int (nI wt))]) h dX3_fillTimed_64 (by decide) rfl ?_
                refine j_aload_n h 4 rfl rfl dX3_fillTimed_66 ?_
                refine jm_get h iw_X3 1 rfl rfl 2 (by decide +kernel) tw_381 rfl dX3_fillTimed_67 ?_
                refine j_iload h 3 rfl dX3_fillTimed_70 ?_
                refine jm_gout h 0 6 rfl rfl v4_8_270 rfl (by omega) (by omega) dX3_fillTimed_72 ?_
                refine j_iload h 1 rfl dX3_fillTimed_73 ?_
                refine j_iload h 0 rfl dX3_fillTimed_75 ?_
                refine j_if_eq h 98 dX3_fillTimed_77 (by decide) (fun q => absurd q (by decide)) (fun _ => ?_)
                refine j_iload h 1 rfl dX3_fillTimed_80 ?_
                refine j_aload_n h 4 rfl rfl dX3_fillTimed_82 ?_
                refine jm_get h iw_X3 1 rfl rfl 0 (by decide +kernel) tw_377 rfl dX3_fillTimed_83 ?_
                refine j_iload h 3 rfl dX3_fillTimed_86 ?_
                refine jm_iald h 2 rfl v4_8_270 rfl (by omega) (by omega) dX3_fillTimed_88 ?_
                obtain ⟨t2476, u2477, u2478, u2479⟩ := (show TkOk sn q2351 by assumption) v4_8_270 (by omega)
                refine j_top (b := nI t2476) (u2479) ?_
                refine j_iadd h dX3_fillTimed_89 ?_
                refine j_top (b := nI (v6_38_276 + t2476)) (nI_add v6_38_276 t2476) ?_
                refine j_iload_n h 7 rfl rfl dX3_fillTimed_90 ?_
                refine j_icmp_gt h 98 dX3_fillTimed_91 (by decide) (fun z2480 => ?_) (fun z2480 => ?_)
                · have z2480n : wt < (v6_38_276 + t2476) := (nI_ltI (a := wt) (b := (v6_38_276 + t2476)) (by omega) (by omega)).mp z2480
                  refine j_bipush (v := 100) h (by decide) dX3_fillTimed_98 ?_
                  refine jm_gast (w' := [(g2, .inr (kA 6, kA 1, 6, 60, .inl (upG fg2_38_276 v4_8_270 v6_38_276 100))), (g, .inl (.inr (3, [.ref g0, .ref g1, .ref g2, .ref g3, .ref g4, .ref g5, .ref g6, .ref g7, .int (nI sn), .int gt0, .int gm0]))), (g0, .inl (.inl (kA 1, 6, .inl q2351))), (g1, .inr (kA 6, kA 1, 6, 2, .inl q2352)), (s, .inl (.inr (5, [.ref s0, .ref s1, .ref s2, .ref s3, .ref s4, .ref s5, .ref s6, .ref s7, .ref s8, .ref s9, .ref s10, .ref s11, .int (nI sn), .int (nI sl), .int (nI se)]))), (s1, .inl (.inl (kA 1, 6, .inl sc1))), (s3, .inl (.inl (kA 1, 6, .inl sc3)))]) h 0 rfl v4_8_270 (by omega) v6_38_276 rfl (by omega) (by omega) dX3_fillTimed_100 rfl ?_
                  refine j_iinc (v := nI (v6_38_276 + 1)) (lv' := [(6, .int (nI (v6_38_276 + 1))), (7, .int 1), (5, .int 1), (4, .int (nI v4_8_270)), (0, .ref g), (1, .ref s), (2, .int set), (3, .int (nI wt))]) h dX3_fillTimed_101 1 rfl (nI_add v6_38_276 1) (by decide) rfl ?_
                  refine j_goto h 38 dX3_fillTimed_104 (by decide) ?_
                  refine jm_sub [0, 1, 2, 3, 4, 5, 6] (w' := [(g2, .inr (kA 6, kA 1, 6, 60, .inl (upG fg2_38_276 v4_8_270 v6_38_276 100))), (g, .inl (.inr (3, [.ref g0, .ref g1, .ref g2, .ref g3, .ref g4, .ref g5, .ref g6, .ref g7, .int (nI sn), .int gt0, .int gm0]))), (g0, .inl (.inl (kA 1, 6, .inl q2351))), (g1, .inr (kA 6, kA 1, 6, 2, .inl q2352)), (s, .inl (.inr (5, [.ref s0, .ref s1, .ref s2, .ref s3, .ref s4, .ref s5, .ref s6, .ref s7, .ref s8, .ref s9, .ref s10, .ref s11, .int (nI sn), .int (nI sl), .int (nI se)]))), (s1, .inl (.inl (kA 1, 6, .inl sc1))), (s3, .inl (.inl (kA 1, 6, .inl sc3)))]) rfl (by decide +kernel) [0, 2, 3, 4, 5, 6, 7] (lv' := [(6, .int (nI (v6_38_276 + 1))), (5, .int 1), (4, .int (nI v4_8_270)), (0, .ref g), (1, .ref s), (2, .int set), (3, .int (nI wt))]) rfl ?_
                  exact ih38_276 (v6_38_276 + 1) (upG fg2_38_276 v4_8_270 v6_38_276 100) (show CoOk v4_8_270 wt q2351 (upG fg2_38_276 v4_8_270 v6_38_276 100) by first | assumption | exact CoOk_up (by assumption) | exact CoOk_0 _ _ _ | exact CoOk_next (by assumption) (by assumption) (by omega) | omega) (show CoRow v4_8_270 (v6_38_276 + 1) wt q2351 (upG fg2_38_276 v4_8_270 v6_38_276 100) from CoRow_up (c := 100) (by assumption) (by omega) (by first | (intro hc9; exact absurd hc9 (by omega)) | (intro _; exact co_fit (by first | exact pk_us | assumption) (by omega) (by omega)))) (show (v6_38_276 + 1) ≤ 100000 by first | assumption | omega) (show 100001 - (v6_38_276 + 1) < m38_276 by first | exact Nat.lt_of_lt_of_le (Nat.sub_lt_sub_left (Nat.lt_of_le_of_lt (show v6_38_276 ≤ 100000 by assumption) (Nat.lt_succ_self 100000)) (Nat.lt_succ_self v6_38_276)) (Nat.le_of_lt_succ hm38_276) | omega)
                · have z2480n : ¬ wt < (v6_38_276 + t2476) := fun q9 => z2480 ((nI_ltI (a := wt) (b := (v6_38_276 + t2476)) (by omega) (by omega)).mpr q9)
                  refine j_iconst (v := 0) h (by decide) dX3_fillTimed_94 ?_
                  refine j_goto h 100 dX3_fillTimed_95 (by decide) ?_
                  refine jm_gast (w' := [(g2, .inr (kA 6, kA 1, 6, 60, .inl (upG fg2_38_276 v4_8_270 v6_38_276 0))), (g, .inl (.inr (3, [.ref g0, .ref g1, .ref g2, .ref g3, .ref g4, .ref g5, .ref g6, .ref g7, .int (nI sn), .int gt0, .int gm0]))), (g0, .inl (.inl (kA 1, 6, .inl q2351))), (g1, .inr (kA 6, kA 1, 6, 2, .inl q2352)), (s, .inl (.inr (5, [.ref s0, .ref s1, .ref s2, .ref s3, .ref s4, .ref s5, .ref s6, .ref s7, .ref s8, .ref s9, .ref s10, .ref s11, .int (nI sn), .int (nI sl), .int (nI se)]))), (s1, .inl (.inl (kA 1, 6, .inl sc1))), (s3, .inl (.inl (kA 1, 6, .inl sc3)))]) h 0 rfl v4_8_270 (by omega) v6_38_276 rfl (by omega) (by omega) dX3_fillTimed_100 rfl ?_
                  refine j_iinc (v := nI (v6_38_276 + 1)) (lv' := [(6, .int (nI (v6_38_276 + 1))), (7, .int 1), (5, .int 1), (4, .int (nI v4_8_270)), (0, .ref g), (1, .ref s), (2, .int set), (3, .int (nI wt))]) h dX3_fillTimed_101 1 rfl (nI_add v6_38_276 1) (by decide) rfl ?_
                  refine j_goto h 38 dX3_fillTimed_104 (by decide) ?_
                  refine jm_sub [0, 1, 2, 3, 4, 5, 6] (w' := [(g2, .inr (kA 6, kA 1, 6, 60, .inl (upG fg2_38_276 v4_8_270 v6_38_276 0))), (g, .inl (.inr (3, [.ref g0, .ref g1, .ref g2, .ref g3, .ref g4, .ref g5, .ref g6, .ref g7, .int (nI sn), .int gt0, .int gm0]))), (g0, .inl (.inl (kA 1, 6, .inl q2351))), (g1, .inr (kA 6, kA 1, 6, 2, .inl q2352)), (s, .inl (.inr (5, [.ref s0, .ref s1, .ref s2, .ref s3, .ref s4, .ref s5, .ref s6, .ref s7, .ref s8, .ref s9, .ref s10, .ref s11, .int (nI sn), .int (nI sl), .int (nI se)]))), (s1, .inl (.inl (kA 1, 6, .inl sc1))), (s3, .inl (.inl (kA 1, 6, .inl sc3)))]) rfl (by decide +kernel) [0, 2, 3, 4, 5, 6, 7] (lv' := [(6, .int (nI (v6_38_276 + 1))), (5, .int 1), (4, .int (nI v4_8_270)), (0, .ref g), (1, .ref s), (2, .int set), (3, .int (nI wt))]) rfl ?_
                  exact ih38_276 (v6_38_276 + 1) (upG fg2_38_276 v4_8_270 v6_38_276 0) (show CoOk v4_8_270 wt q2351 (upG fg2_38_276 v4_8_270 v6_38_276 0) by first | assumption | exact CoOk_up (by assumption) | exact CoOk_0 _ _ _ | exact CoOk_next (by assumption) (by assumption) (by omega) | omega) (show CoRow v4_8_270 (v6_38_276 + 1) wt q2351 (upG fg2_38_276 v4_8_270 v6_38_276 0) from CoRow_up (c := 0) (by assumption) (by omega) (by first | (intro hc9; exact absurd hc9 (by omega)) | (intro _; exact co_fit (by first | exact pk_us | assumption) (by omega) (by omega)))) (show (v6_38_276 + 1) ≤ 100000 by first | assumption | omega) (show 100001 - (v6_38_276 + 1) < m38_276 by first | exact Nat.lt_of_lt_of_le (Nat.sub_lt_sub_left (Nat.lt_of_le_of_lt (show v6_38_276 ≤ 100000 by assumption) (Nat.lt_succ_self 100000)) (Nat.lt_succ_self v6_38_276)) (Nat.le_of_lt_succ hm38_276) | omega)
          refine jm_sub [0, 1, 2, 3, 4, 5, 6] (w' := [(g2, .inr (kA 6, kA 1, 6, 60, .inl fg2_8_270)), (g, .inl (.inr (3, [.ref g0, .ref g1, .ref g2, .ref g3, .ref g4, .ref g5, .ref g6, .ref g7, .int (nI sn), .int gt0, .int gm0]))), (g0, .inl (.inl (kA 1, 6, .inl q2351))), (g1, .inr (kA 6, kA 1, 6, 2, .inl q2352)), (s, .inl (.inr (5, [.ref s0, .ref s1, .ref s2, .ref s3, .ref s4, .ref s5, .ref s6, .ref s7, .ref s8, .ref s9, .ref s10, .ref s11, .int (nI sn), .int (nI sl), .int (nI se)]))), (s1, .inl (.inl (kA 1, 6, .inl sc1))), (s3, .inl (.inl (kA 1, 6, .inl sc3)))]) rfl (by decide +kernel) [0, 1, 2, 3, 4, 5, 6] (lv' := [(6, .int 0), (5, .int 1), (4, .int (nI v4_8_270)), (0, .ref g), (1, .ref s), (2, .int set), (3, .int (nI wt))]) rfl ?_
          exact lp38_276 (100001 - 0 + 1) 0 fg2_8_270 (show CoOk v4_8_270 wt q2351 fg2_8_270 by first | assumption | exact CoOk_up (by assumption) | exact CoOk_0 _ _ _ | exact CoOk_next (by assumption) (by assumption) (by omega) | omega) (show CoRow v4_8_270 0 wt q2351 fg2_8_270 by first | assumption | exact CoRow_0 _ _ _ _ | omega) (show 0 ≤ 100000 by first | assumption | omega) (Nat.lt_succ_self _)
  refine jm_sub [0, 1, 2, 3, 4, 5, 6] (w' := [(g2, .inr (kA 6, kA 1, 6, 60, .inl gco)), (g, .inl (.inr (3, [.ref g0, .ref g1, .ref g2, .ref g3, .ref g4, .ref g5, .ref g6, .ref g7, .int (nI sn), .int gt0, .int gm0]))), (g0, .inl (.inl (kA 1, 6, .inl q2351))), (g1, .inr (kA 6, kA 1, 6, 2, .inl q2352)), (s, .inl (.inr (5, [.ref s0, .ref s1, .ref s2, .ref s3, .ref s4, .ref s5, .ref s6, .ref s7, .ref s8, .ref s9, .ref s10, .ref s11, .int (nI sn), .int (nI sl), .int (nI se)]))), (s1, .inl (.inl (kA 1, 6, .inl sc1))), (s3, .inl (.inl (kA 1, 6, .inl sc3)))]) rfl (by decide +kernel) [0, 1, 2, 3, 4] (lv' := [(4, .int 0), (0, .ref g), (1, .ref s), (2, .int set), (3, .int (nI wt))]) rfl ?_
  exact lp8_270 (100001 - 0 + 1) 0 gco (show CoOk 0 wt q2351 gco by first | assumption | exact CoOk_0 _ _ _ | exact CoOk_up (by assumption) | exact CoOk_next (by assumption) (by assumption) (by omega) | omega) (show 0 ≤ sn by first | assumption | omega) (show 0 ≤ 100000 by first | assumption | omega) (Nat.lt_succ_self _)
set_option maxHeartbeats 4000000 in
set_option maxRecDepth 100000 in
theorem s_X3_letterCost (lau : Launch) (gg : va_G) (kA : Nat → ClassId) (s : Nat) (f : Nat) (k : Nat) (fr : Nat) (s0 : Nat) (s1 : Nat) (s2 : Nat) (s3 : Nat) (s4 : Nat) (s5 : Nat) (s6 : Nat) (s7 : Nat) (s8 : Nat) (s9 : Nat) (s10 : Nat) (s11 : Nat) (sn : Nat) (sl : Nat) (se : Nat) (sc5 : Nat → Int32) (sc6 : Nat → Nat → Int32) (f0 : Nat) (f1 : Nat) (f2 : Nat) (f3 : Nat) (f4 : Nat) (f5 : Nat) (f6 : Nat) (f7 : Nat) (fn : Nat) (ft0 : Int32) (fm0 : Int32) (ftk : Nat → Int32) (fco : Nat → Nat → Int32) (wt : Nat) (c : Nat) (hsn : sn ≤ 6) (hsl : sl ≤ 10) (hse : se ≤ 4) (hssz : SzOk sl sc5) (hsrw : RwOk sl sn sc5 sc6) (hfn : fn = sn) (hftk : TkOk sn ftk) (hfco : CoOk sn wt ftk fco) (hwt : wt ≤ 60) (hk : k < sl) (hc5 : c ≤ 5) (hce : sc5 k = nI c) (hend : fr + tsum ftk (sc6 k) c ≤ wt) : CtI lau yX3_letterCost cX3_letterCost 8 (some .int) 1 0 0 gg kA [.ref s, .ref f, .int (nI k), .int (nI fr)] (mflat [(s, .inl (.inr (5, [.ref s0, .ref s1, .ref s2, .ref s3, .ref s4, .ref s5, .ref s6, .ref s7, .ref s8, .ref s9, .ref s10, .ref s11, .int (nI sn), .int (nI sl), .int (nI se)]))), (s5, .inl (.inl (kA 1, 10, .inl sc5))), (s6, .inr (kA 6, kA 1, 10, 5, .inl sc6)), (f, .inl (.inr (3, [.ref f0, .ref f1, .ref f2, .ref f3, .ref f4, .ref f5, .ref f6, .ref f7, .int (nI fn), .int ft0, .int fm0]))), (f0, .inl (.inl (kA 1, 6, .inl ftk))), (f2, .inr (kA 6, kA 1, 6, 60, .inl fco))]) (S := Nat) (fun (r : Int32) (y_r : Nat) => r = nI y_r ∧ (y_r ≤ 100)) (fun (y_r : Nat) => mflat [(s, .inl (.inr (5, [.ref s0, .ref s1, .ref s2, .ref s3, .ref s4, .ref s5, .ref s6, .ref s7, .ref s8, .ref s9, .ref s10, .ref s11, .int (nI sn), .int (nI sl), .int (nI se)]))), (s5, .inl (.inl (kA 1, 10, .inl sc5))), (s6, .inr (kA 6, kA 1, 10, 5, .inl sc6)), (f, .inl (.inr (3, [.ref f0, .ref f1, .ref f2, .ref f3, .ref f4, .ref f5, .ref f6, .ref f7, .int (nI fn), .int ft0, .int fm0]))), (f0, .inl (.inl (kA 1, 6, .inl ftk))), (f2, .inr (kA 6, kA 1, 6, 60, .inl fco))]) := by
  refine nx_startI (by decide +kernel) (Nat.le_of_ble_eq_true rfl) ?_
  intro x hnm h hq
  have h : Ok x cX3_letterCost RX3 kA (rmC 1 0 0) 8 := h
  show J x (mflat [(s, .inl (.inr (5, [.ref s0, .ref s1, .ref s2, .ref s3, .ref s4, .ref s5, .ref s6, .ref s7, .ref s8, .ref s9, .ref s10, .ref s11, .int (nI sn), .int (nI sl), .int (nI se)]))), (s5, .inl (.inl (kA 1, 10, .inl sc5))), (s6, .inr (kA 6, kA 1, 10, 5, .inl sc6)), (f, .inl (.inr (3, [.ref f0, .ref f1, .ref f2, .ref f3, .ref f4, .ref f5, .ref f6, .ref f7, .int (nI fn), .int ft0, .int fm0]))), (f0, .inl (.inl (kA 1, 6, .inl ftk))), (f2, .inr (kA 6, kA 1, 6, 60, .inl fco))]) [(0, .ref s), (1, .ref f), (2, .int (nI k)), (3, .int (nI fr))] 0 0 0 []
  refine j_iconst (v := 0) h (by decide) dX3_letterCost_0 ?_
  refine j_istore (lv' := [(4, .int 0), (0, .ref s), (1, .ref f), (2, .int (nI k)), (3, .int (nI fr))]) h dX3_letterCost_1 (by decide) rfl ?_
  refine j_iload_n h 4 rfl rfl dX3_letterCost_3 ?_
  refine j_istore (lv' := [(5, .int (nI fr)), (4, .int 0), (0, .ref s), (1, .ref f), (2, .int (nI k)), (3, .int (nI fr))]) h dX3_letterCost_4 (by decide) rfl ?_
  refine j_iconst (v := 0) h (by decide) dX3_letterCost_6 ?_
  refine j_istore (lv' := [(6, .int 0), (5, .int (nI fr)), (4, .int 0), (0, .ref s), (1, .ref f), (2, .int (nI k)), (3, .int (nI fr))]) h dX3_letterCost_7 (by decide) rfl ?_
  have lp9_282 : ∀ (m9_282 : Nat), ∀ (v6_9_282 : Nat) (v5_9_282 : Nat) (v4_9_282 : Nat), (v5_9_282 - fr = tsum ftk (sc6 k) v6_9_282) → (fr ≤ v5_9_282) → (v4_9_282 ≤ 200) → (v6_9_282 ≤ c) → (v5_9_282 ≤ 60) → (v6_9_282 ≤ 100000) → (v5_9_282 ≤ 100000) → (v4_9_282 ≤ 100000) → 100001 - v6_9_282 < m9_282 → J x (mflat [(s, .inl (.inr (5, [.ref s0, .ref s1, .ref s2, .ref s3, .ref s4, .ref s5, .ref s6, .ref s7, .ref s8, .ref s9, .ref s10, .ref s11, .int (nI sn), .int (nI sl), .int (nI se)]))), (s5, .inl (.inl (kA 1, 10, .inl sc5))), (s6, .inr (kA 6, kA 1, 10, 5, .inl sc6)), (f, .inl (.inr (3, [.ref f0, .ref f1, .ref f2, .ref f3, .ref f4, .ref f5, .ref f6, .ref f7, .int (nI fn), .int ft0, .int fm0]))), (f0, .inl (.inl (kA 1, 6, .inl ftk))), (f2, .inr (kA 6, kA 1, 6, 60, .inl fco))]) [(6, .int (nI v6_9_282)), (5, .int (nI v5_9_282)), (4, .int (nI v4_9_282)), (0, .ref s), (1, .ref f), (2, .int (nI k)), (3, .int (nI fr))] 0 0 9 [] := by
    intro m9_282
    induction m9_282 with
    | zero =>
      intro v6_9_282 v5_9_282 v4_9_282 i9_282_0 i9_282_1 i9_282_2 i9_282_3 i9_282_4 i9_282_5 i9_282_6 i9_282_7 hm9_282
      exact absurd hm9_282 (Nat.not_lt_zero _)
    | succ m9_282 ih9_282 =>
      intro v6_9_282 v5_9_282 v4_9_282 i9_282_0 i9_282_1 i9_282_2 i9_282_3 i9_282_4 i9_282_5 i9_282_6 i9_282_7 hm9_282
      have hzz := tsum_mono hftk (fun j9 hj9 => hsrw k j9 c hk hce hc5 hj9) hsn (i := v6_9_282) (j := c) (by omega) (Nat.le_refl c)
      refine j_iload h 0 rfl dX3_letterCost_9 ?_
      refine j_aload_n h 3 rfl rfl dX3_letterCost_11 ?_
      refine jm_get h iw_X5 0 rfl rfl 5 (by decide +kernel) tw_193 rfl dX3_letterCost_12 ?_
      refine j_iload_n h 5 rfl rfl dX3_letterCost_15 ?_
      refine jm_iald h 1 rfl k rfl (by omega) (by omega) dX3_letterCost_16 ?_
      refine j_top (b := nI c) (hce) ?_
      refine j_icmp_ge h 71 dX3_letterCost_17 (by decide) (fun z2549 => ?_) (fun z2549 => ?_)
      · have z2549n : c ≤ v6_9_282 := (nI_leI (a := c) (b := v6_9_282) (by omega) (by omega)).mp z2549
        refine j_iload h 2 rfl dX3_letterCost_71 ?_
        refine j_bipush (v := 100) h (by decide) dX3_letterCost_73 ?_
        refine j_mmin h tw_862 tw_809 tw_105 tw_810 (Nat.le_of_ble_eq_true rfl) (Nat.le_of_ble_eq_true rfl) (Nat.le_of_ble_eq_true rfl) (Nat.le_of_ble_eq_true rfl) (Nat.le_of_ble_eq_true rfl) dX3_letterCost_75 ?_
        refine j_top (b := nI (min v4_9_282 100)) (nx_min (a := v4_9_282) (b := 100) (by omega) (by omega)) ?_
        exact jm_iret h hq dX3_letterCost_78 (min v4_9_282 100) [0, 1, 2, 3, 4, 5] rfl (by decide) ⟨rfl, (show (min v4_9_282 100) ≤ 100 by first | assumption | omega)⟩ (Nat.le_of_ble_eq_true rfl) (Nat.le_of_ble_eq_true rfl)
      · have z2549n : ¬ c ≤ v6_9_282 := fun q9 => z2549 ((nI_leI (a := c) (b := v6_9_282) (by omega) (by omega)).mpr q9)
        refine j_iload h 2 rfl dX3_letterCost_20 ?_
        refine j_bipush (v := 100) h (by decide) dX3_letterCost_22 ?_
        refine j_icmp_ge h 71 dX3_letterCost_24 (by decide) (fun z2550 => ?_) (fun z2550 => ?_)
        · have z2550n : 100 ≤ v4_9_282 := (nI_leI (a := 100) (b := v4_9_282) (by omega) (by omega)).mp z2550
          refine j_iload h 2 rfl dX3_letterCost_71 ?_
          refine j_bipush (v := 100) h (by decide) dX3_letterCost_73 ?_
          refine j_mmin h tw_862 tw_809 tw_105 tw_810 (Nat.le_of_ble_eq_true rfl) (Nat.le_of_ble_eq_true rfl) (Nat.le_of_ble_eq_true rfl) (Nat.le_of_ble_eq_true rfl) (Nat.le_of_ble_eq_true rfl) dX3_letterCost_75 ?_
          refine j_top (b := nI (min v4_9_282 100)) (nx_min (a := v4_9_282) (b := 100) (by omega) (by omega)) ?_
          exact jm_iret h hq dX3_letterCost_78 (min v4_9_282 100) [0, 1, 2, 3, 4, 5] rfl (by decide) ⟨rfl, (show (min v4_9_282 100) ≤ 100 by first | assumption | omega)⟩ (Nat.le_of_ble_eq_true rfl) (Nat.le_of_ble_eq_true rfl)
        · have z2550n : ¬ 100 ≤ v4_9_282 := fun q9 => z2550 ((nI_leI (a := 100) (b := v4_9_282) (by omega) (by omega)).mpr q9)
          refine j_aload_n h 3 rfl rfl dX3_letterCost_27 ?_
          refine jm_get h iw_X5 0 rfl rfl 6 (by decide +kernel) tw_197 rfl dX3_letterCost_28 ?_
          refine j_iload_n h 5 rfl rfl dX3_letterCost_31 ?_
          refine jm_gout h 2 6 rfl rfl k rfl (by omega) (by omega) dX3_letterCost_32 ?_
          refine j_iload h 0 rfl dX3_letterCost_33 ?_
          refine jm_gald h 2 rfl k (by omega) v6_9_282 rfl (by omega) (by omega) dX3_letterCost_35 ?_
          obtain ⟨t2551, u2552, u2553⟩ := (show RwOk sl sn sc5 sc6 by assumption) k v6_9_282 c (by omega) hce (by omega) (by omega)
          refine j_top (b := nI t2551) (u2553) ?_
          refine j_istore (lv' := [(7, .int (nI t2551)), (6, .int (nI v6_9_282)), (5, .int (nI v5_9_282)), (4, .int (nI v4_9_282)), (0, .ref s), (1, .ref f), (2, .int (nI k)), (3, .int (nI fr))]) h dX3_letterCost_36 (by decide) rfl ?_
          refine j_iload h 3 rfl dX3_letterCost_38 ?_
          refine j_aload_n h 5 rfl rfl dX3_letterCost_40 ?_
          refine jm_get h iw_X3 3 rfl rfl 2 (by decide +kernel) tw_381 rfl dX3_letterCost_41 ?_
          refine j_iload h 0 rfl dX3_letterCost_44 ?_
          refine jm_gout h 5 6 rfl rfl t2551 rfl (by omega) (by omega) dX3_letterCost_46 ?_
          refine j_iload h 2 rfl dX3_letterCost_47 ?_
          have u2554 := tsum_lt hftk (fun j9 hj9 => hsrw k j9 c hk hce hc5 hj9) hsn (i := v6_9_282) (j := c) (by omega) (Nat.le_refl c)
          refine jm_gald h 5 rfl t2551 (by omega) v5_9_282 rfl (by omega) (by omega) dX3_letterCost_49 ?_
          obtain ⟨t2555, u2556, u2557, u2558⟩ := hfco t2551 v5_9_282 (by omega) (by omega)
          refine j_top (b := nI t2555) (u2557) ?_
          refine j_iadd h dX3_letterCost_50 ?_
          refine j_top (b := nI (v4_9_282 + t2555)) (nI_add v4_9_282 t2555) ?_
          refine j_istore (lv' := [(4, .int (nI (v4_9_282 + t2555))), (7, .int (nI t2551)), (6, .int (nI v6_9_282)), (5, .int (nI v5_9_282)), (0, .ref s), (1, .ref f), (2, .int (nI k)), (3, .int (nI fr))]) h dX3_letterCost_51 (by decide) rfl ?_
          refine j_iload h 3 rfl dX3_letterCost_53 ?_
          refine j_aload_n h 5 rfl rfl dX3_letterCost_55 ?_
          refine jm_get h iw_X3 3 rfl rfl 0 (by decide +kernel) tw_377 rfl dX3_letterCost_56 ?_
          refine j_iload h 1 rfl dX3_letterCost_59 ?_
          refine jm_iald h 4 rfl t2551 rfl (by omega) (by omega) dX3_letterCost_61 ?_
          obtain ⟨t2559, u2560, u2561, u2562⟩ := (show TkOk sn ftk by assumption) t2551 (by omega)
          refine j_top (b := nI t2559) (u2562) ?_
          refine j_iadd h dX3_letterCost_62 ?_
          refine j_top (b := nI (v5_9_282 + t2559)) (nI_add v5_9_282 t2559) ?_
          refine j_istore (lv' := [(5, .int (nI (v5_9_282 + t2559))), (4, .int (nI (v4_9_282 + t2555))), (7, .int (nI t2551)), (6, .int (nI v6_9_282)), (0, .ref s), (1, .ref f), (2, .int (nI k)), (3, .int (nI fr))]) h dX3_letterCost_63 (by decide) rfl ?_
          have e99_282 := tsum_s (tk := ftk) (row := sc6 k) (j := v6_9_282) (S := v5_9_282 - fr) i9_282_0 (by assumption) (by omega) (by assumption) (by omega)
          have e89_282 := tsum_mono hftk (fun j9 hj9 => hsrw k j9 c hk hce hc5 hj9) hsn (i := v6_9_282 + 1) (j := c) (by omega) (Nat.le_refl c)
          refine j_iinc (v := nI (v6_9_282 + 1)) (lv' := [(6, .int (nI (v6_9_282 + 1))), (5, .int (nI (v5_9_282 + t2559))), (4, .int (nI (v4_9_282 + t2555))), (7, .int (nI t2551)), (0, .ref s), (1, .ref f), (2, .int (nI k)), (3, .int (nI fr))]) h dX3_letterCost_65 3 rfl (nI_add v6_9_282 1) (by decide) rfl ?_
          refine j_goto h 9 dX3_letterCost_68 (by decide) ?_
          refine jm_sub [0, 1, 2, 3, 4, 5] (w' := [(s, .inl (.inr (5, [.ref s0, .ref s1, .ref s2, .ref s3, .ref s4, .ref s5, .ref s6, .ref s7, .ref s8, .ref s9, .ref s10, .ref s11, .int (nI sn), .int (nI sl), .int (nI se)]))), (s5, .inl (.inl (kA 1, 10, .inl sc5))), (s6, .inr (kA 6, kA 1, 10, 5, .inl sc6)), (f, .inl (.inr (3, [.ref f0, .ref f1, .ref f2, .ref f3, .ref f4, .ref f5, .ref f6, .ref f7, .int (nI fn), .int ft0, .int fm0]))), (f0, .inl (.inl (kA 1, 6, .inl ftk))), (f2, .inr (kA 6, kA 1, 6, 60, .inl fco))]) rfl (by decide +kernel) [0, 1, 2, 4, 5, 6, 7] (lv' := [(6, .int (nI (v6_9_282 + 1))), (5, .int (nI (v5_9_282 + t2559))), (4, .int (nI (v4_9_282 + t2555))), (0, .ref s), (1, .ref f), (2, .int (nI k)), (3, .int (nI fr))]) rfl ?_
          exact ih9_282 (v6_9_282 + 1) (v5_9_282 + t2559) (v4_9_282 + t2555) (show (v5_9_282 + t2559) - fr = tsum ftk (sc6 k) (v6_9_282 + 1) by first | assumption | omega) (show fr ≤ (v5_9_282 + t2559) by first | assumption | omega) (show (v4_9_282 + t2555) ≤ 200 by first | assumption | omega) (show (v6_9_282 + 1) ≤ c by first | assumption | omega) (show (v5_9_282 + t2559) ≤ 60 by first | assumption | omega) (show (v6_9_282 + 1) ≤ 100000 by first | assumption | omega) (show (v5_9_282 + t2559) ≤ 100000 by first | assumption | omega) (show (v4_9_282 + t2555) ≤ 100000 by first | assumption | omega) (show 100001 - (v6_9_282 + 1) < m9_282 by first | exact Nat.lt_of_lt_of_le (Nat.sub_lt_sub_left (Nat.lt_of_le_of_lt (show v6_9_282 ≤ 100000 by assumption) (Nat.lt_succ_self 100000)) (Nat.lt_succ_self v6_9_282)) (Nat.le_of_lt_succ hm9_282) | omega)
  refine jm_sub [0, 1, 2, 3, 4, 5] (w' := [(s, .inl (.inr (5, [.ref s0, .ref s1, .ref s2, .ref s3, .ref s4, .ref s5, .ref s6, .ref s7, .ref s8, .ref s9, .ref s10, .ref s11, .int (nI sn), .int (nI sl), .int (nI se)]))), (s5, .inl (.inl (kA 1, 10, .inl sc5))), (s6, .inr (kA 6, kA 1, 10, 5, .inl sc6)), (f, .inl (.inr (3, [.ref f0, .ref f1, .ref f2, .ref f3, .ref f4, .ref f5, .ref f6, .ref f7, .int (nI fn), .int ft0, .int fm0]))), (f0, .inl (.inl (kA 1, 6, .inl ftk))), (f2, .inr (kA 6, kA 1, 6, 60, .inl fco))]) rfl (by decide +kernel) [0, 1, 2, 3, 4, 5, 6] (lv' := [(6, .int 0), (5, .int (nI fr)), (4, .int 0), (0, .ref s), (1, .ref f), (2, .int (nI k)), (3, .int (nI fr))]) rfl ?_
  exact lp9_282 (100001 - 0 + 1) 0 fr 0 (show fr - fr = tsum ftk (sc6 k) 0 from by rw [Nat.sub_self]; rfl) (show fr ≤ fr by first | assumption | omega) (show 0 ≤ 200 by first | assumption | omega) (show 0 ≤ c by first | assumption | omega) (show fr ≤ 60 by first | assumption | omega) (show 0 ≤ 100000 by first | assumption | omega) (show fr ≤ 100000 by first | assumption | omega) (show 0 ≤ 100000 by first | assumption | omega) (Nat.lt_succ_self _)
set_option maxHeartbeats 4000000 in
set_option maxRecDepth 100000 in
theorem s_X3_fillLetters (lau : Launch) (gg : va_G) (kA : Nat → ClassId) (g : Nat) (s : Nat) (f : Nat) (bk : Int32) (wt : Nat) (g0 : Nat) (g1 : Nat) (g2 : Nat) (g3 : Nat) (g4 : Nat) (g5 : Nat) (g6 : Nat) (g7 : Nat) (gn0 : Int32) (gt0 : Int32) (gm0 : Int32) (gtk : Nat → Int32) (gaf : Nat → Nat → Int32) (gco : Nat → Nat → Int32) (s0 : Nat) (s1 : Nat) (s2 : Nat) (s3 : Nat) (s4 : Nat) (s5 : Nat) (s6 : Nat) (s7 : Nat) (s8 : Nat) (s9 : Nat) (s10 : Nat) (s11 : Nat) (sn : Nat) (sl : Nat) (se : Nat) (sc5 : Nat → Int32) (sc6 : Nat → Nat → Int32) (sc7 : Nat → Int32) (sc8 : Nat → Nat → Int32) (f0 : Nat) (f1 : Nat) (f2 : Nat) (f3 : Nat) (f4 : Nat) (f5 : Nat) (f6 : Nat) (f7 : Nat) (fn : Nat) (ft0 : Int32) (fm0 : Int32) (ftk : Nat → Int32) (fco : Nat → Nat → Int32) (hsn : sn ≤ 6) (hsl : sl ≤ 10) (hse : se ≤ 4) (hssz : SzOk sl sc5) (hsrw : RwOk sl sn sc5 sc6) (hslt : LtOk sl sc7) (hsla : FtOk sl sc8) (hfn : fn = sn) (hftk : TkOk sn ftk) (hfco : CoOk sn wt ftk fco) (hwt : wt ≤ 60) (hlsf : LsOk sl sc5 sc6 ftk sc7) : CtV lau yX3_fillLetters cX3_fillLetters 9 (none) 2 0 0 gg kA [.ref g, .ref s, .ref f, .int bk, .int (nI wt)] (mflat [(g, .inl (.inr (3, [.ref g0, .ref g1, .ref g2, .ref g3, .ref g4, .ref g5, .ref g6, .ref g7, .int gn0, .int gt0, .int gm0]))), (g0, .inl (.inl (kA 1, 10, .inl gtk))), (g1, .inr (kA 6, kA 1, 10, 2, .inl gaf)), (g2, .inr (kA 6, kA 1, 10, 60, .inl gco)), (s, .inl (.inr (5, [.ref s0, .ref s1, .ref s2, .ref s3, .ref s4, .ref s5, .ref s6, .ref s7, .ref s8, .ref s9, .ref s10, .ref s11, .int (nI sn), .int (nI sl), .int (nI se)]))), (s5, .inl (.inl (kA 1, 10, .inl sc5))), (s6, .inr (kA 6, kA 1, 10, 5, .inl sc6)), (s7, .inl (.inl (kA 1, 10, .inl sc7))), (s8, .inr (kA 6, kA 1, 10, 2, .inl sc8)), (f, .inl (.inr (3, [.ref f0, .ref f1, .ref f2, .ref f3, .ref f4, .ref f5, .ref f6, .ref f7, .int (nI fn), .int ft0, .int fm0]))), (f0, .inl (.inl (kA 1, 6, .inl ftk))), (f2, .inr (kA 6, kA 1, 6, 60, .inl fco))]) (S := (Nat → Int32) × (Nat → Nat → Int32) × (Nat → Nat → Int32)) (fun ((y_g0, y_g1, y_g2) : (Nat → Int32) × (Nat → Nat → Int32) × (Nat → Nat → Int32)) => (LtOk sl y_g0) ∧ (FtOk sl y_g1) ∧ (CoOk sl wt y_g0 y_g2)) (fun ((y_g0, y_g1, y_g2) : (Nat → Int32) × (Nat → Nat → Int32) × (Nat → Nat → Int32)) => mflat [(g, .inl (.inr (3, [.ref g0, .ref g1, .ref g2, .ref g3, .ref g4, .ref g5, .ref g6, .ref g7, .int (nI sl), .int gt0, .int gm0]))), (g0, .inl (.inl (kA 1, 10, .inl y_g0))), (g1, .inr (kA 6, kA 1, 10, 2, .inl y_g1)), (g2, .inr (kA 6, kA 1, 10, 60, .inl y_g2)), (s, .inl (.inr (5, [.ref s0, .ref s1, .ref s2, .ref s3, .ref s4, .ref s5, .ref s6, .ref s7, .ref s8, .ref s9, .ref s10, .ref s11, .int (nI sn), .int (nI sl), .int (nI se)]))), (s5, .inl (.inl (kA 1, 10, .inl sc5))), (s6, .inr (kA 6, kA 1, 10, 5, .inl sc6)), (s7, .inl (.inl (kA 1, 10, .inl sc7))), (s8, .inr (kA 6, kA 1, 10, 2, .inl sc8)), (f, .inl (.inr (3, [.ref f0, .ref f1, .ref f2, .ref f3, .ref f4, .ref f5, .ref f6, .ref f7, .int (nI fn), .int ft0, .int fm0]))), (f0, .inl (.inl (kA 1, 6, .inl ftk))), (f2, .inr (kA 6, kA 1, 6, 60, .inl fco))]) := by
  refine nx_startV (by decide +kernel) (Nat.le_of_ble_eq_true rfl) ?_
  intro x hnm h hq
  have h : Ok x cX3_fillLetters RX3 kA (rmC 2 0 0) 9 := h
  show J x (mflat [(g, .inl (.inr (3, [.ref g0, .ref g1, .ref g2, .ref g3, .ref g4, .ref g5, .ref g6, .ref g7, .int gn0, .int gt0, .int gm0]))), (g0, .inl (.inl (kA 1, 10, .inl gtk))), (g1, .inr (kA 6, kA 1, 10, 2, .inl gaf)), (g2, .inr (kA 6, kA 1, 10, 60, .inl gco)), (s, .inl (.inr (5, [.ref s0, .ref s1, .ref s2, .ref s3, .ref s4, .ref s5, .ref s6, .ref s7, .ref s8, .ref s9, .ref s10, .ref s11, .int (nI sn), .int (nI sl), .int (nI se)]))), (s5, .inl (.inl (kA 1, 10, .inl sc5))), (s6, .inr (kA 6, kA 1, 10, 5, .inl sc6)), (s7, .inl (.inl (kA 1, 10, .inl sc7))), (s8, .inr (kA 6, kA 1, 10, 2, .inl sc8)), (f, .inl (.inr (3, [.ref f0, .ref f1, .ref f2, .ref f3, .ref f4, .ref f5, .ref f6, .ref f7, .int (nI fn), .int ft0, .int fm0]))), (f0, .inl (.inl (kA 1, 6, .inl ftk))), (f2, .inr (kA 6, kA 1, 6, 60, .inl fco))]) [(0, .ref g), (1, .ref s), (2, .ref f), (3, .int bk), (4, .int (nI wt))] 0 0 0 []
  refine j_aload_n h 0 rfl rfl dX3_fillLetters_0 ?_
  refine j_aload_n h 1 rfl rfl dX3_fillLetters_1 ?_
  refine jm_get h iw_X5 4 rfl rfl 13 (by decide +kernel) tw_227 rfl dX3_fillLetters_2 ?_
  refine jm_put (w' := [(g, .inl (.inr (3, [.ref g0, .ref g1, .ref g2, .ref g3, .ref g4, .ref g5, .ref g6, .ref g7, .int (nI sl), .int gt0, .int gm0]))), (g0, .inl (.inl (kA 1, 10, .inl gtk))), (g1, .inr (kA 6, kA 1, 10, 2, .inl gaf)), (g2, .inr (kA 6, kA 1, 10, 60, .inl gco)), (s, .inl (.inr (5, [.ref s0, .ref s1, .ref s2, .ref s3, .ref s4, .ref s5, .ref s6, .ref s7, .ref s8, .ref s9, .ref s10, .ref s11, .int (nI sn), .int (nI sl), .int (nI se)]))), (s5, .inl (.inl (kA 1, 10, .inl sc5))), (s6, .inr (kA 6, kA 1, 10, 5, .inl sc6)), (s7, .inl (.inl (kA 1, 10, .inl sc7))), (s8, .inr (kA 6, kA 1, 10, 2, .inl sc8)), (f, .inl (.inr (3, [.ref f0, .ref f1, .ref f2, .ref f3, .ref f4, .ref f5, .ref f6, .ref f7, .int (nI fn), .int ft0, .int fm0]))), (f0, .inl (.inl (kA 1, 6, .inl ftk))), (f2, .inr (kA 6, kA 1, 6, 60, .inl fco))]) h iw_X3 tyX3 tyX3_ok nmX3 0 rfl rfl 8 (by decide +kernel) tw_387 rfl rfl rfl (Nat.le_of_ble_eq_true rfl) dX3_fillLetters_5 rfl ?_
  refine j_iconst (v := 0) h (by decide) dX3_fillLetters_8 ?_
  refine j_istore (lv' := [(5, .int 0), (0, .ref g), (1, .ref s), (2, .ref f), (3, .int bk), (4, .int (nI wt))]) h dX3_fillLetters_9 (by decide) rfl ?_
  have lp11_318 : ∀ (m11_318 : Nat), ∀ (v5_11_318 : Nat) (fg0_11_318 : Nat → Int32) (fg1_11_318 : Nat → Nat → Int32) (fg2_11_318 : Nat → Nat → Int32), (LtOk v5_11_318 fg0_11_318) → (FtOk v5_11_318 fg1_11_318) → (CoOk v5_11_318 wt fg0_11_318 fg2_11_318) → (v5_11_318 ≤ sl) → (v5_11_318 ≤ 100000) → 100001 - v5_11_318 < m11_318 → J x (mflat [(g, .inl (.inr (3, [.ref g0, .ref g1, .ref g2, .ref g3, .ref g4, .ref g5, .ref g6, .ref g7, .int (nI sl), .int gt0, .int gm0]))), (g0, .inl (.inl (kA 1, 10, .inl fg0_11_318))), (g1, .inr (kA 6, kA 1, 10, 2, .inl fg1_11_318)), (g2, .inr (kA 6, kA 1, 10, 60, .inl fg2_11_318)), (s, .inl (.inr (5, [.ref s0, .ref s1, .ref s2, .ref s3, .ref s4, .ref s5, .ref s6, .ref s7, .ref s8, .ref s9, .ref s10, .ref s11, .int (nI sn), .int (nI sl), .int (nI se)]))), (s5, .inl (.inl (kA 1, 10, .inl sc5))), (s6, .inr (kA 6, kA 1, 10, 5, .inl sc6)), (s7, .inl (.inl (kA 1, 10, .inl sc7))), (s8, .inr (kA 6, kA 1, 10, 2, .inl sc8)), (f, .inl (.inr (3, [.ref f0, .ref f1, .ref f2, .ref f3, .ref f4, .ref f5, .ref f6, .ref f7, .int (nI fn), .int ft0, .int fm0]))), (f0, .inl (.inl (kA 1, 6, .inl ftk))), (f2, .inr (kA 6, kA 1, 6, 60, .inl fco))]) [(5, .int (nI v5_11_318)), (0, .ref g), (1, .ref s), (2, .ref f), (3, .int bk), (4, .int (nI wt))] 0 0 11 [] := by
    intro m11_318
    induction m11_318 with
    | zero =>
      intro v5_11_318 fg0_11_318 fg1_11_318 fg2_11_318 i11_318_0 i11_318_1 i11_318_2 i11_318_3 i11_318_4 hm11_318
      exact absurd hm11_318 (Nat.not_lt_zero _)
    | succ m11_318 ih11_318 =>
      intro v5_11_318 fg0_11_318 fg1_11_318 fg2_11_318 i11_318_0 i11_318_1 i11_318_2 i11_318_3 i11_318_4 hm11_318
      refine j_iload h 0 rfl dX3_fillLetters_11 ?_
      refine j_aload_n h 1 rfl rfl dX3_fillLetters_13 ?_
      refine jm_get h iw_X3 0 rfl rfl 8 (by decide +kernel) tw_387 rfl dX3_fillLetters_14 ?_
      refine j_icmp_ge h 165 dX3_fillLetters_17 (by decide) (fun z2883 => ?_) (fun z2883 => ?_)
      · have z2883n : sl ≤ v5_11_318 := (nI_leI (a := sl) (b := v5_11_318) (by omega) (by omega)).mp z2883
        exact jm_vret h hq dX3_fillLetters_165 (fg0_11_318, fg1_11_318, fg2_11_318) [0, 1, 2, 3, 4, 5, 6, 7, 8, 9, 10, 11] rfl (by decide) ⟨(show LtOk sl fg0_11_318 from (show v5_11_318 = sl by omega) ▸ i11_318_0), (show FtOk sl fg1_11_318 from (show v5_11_318 = sl by omega) ▸ i11_318_1), (show CoOk sl wt fg0_11_318 fg2_11_318 from (show v5_11_318 = sl by omega) ▸ i11_318_2)⟩ (Nat.le_of_ble_eq_true rfl) (Nat.le_of_ble_eq_true rfl)
      · have z2883n : ¬ sl ≤ v5_11_318 := fun q9 => z2883 ((nI_leI (a := sl) (b := v5_11_318) (by omega) (by omega)).mpr q9)
        refine j_iload_n h 4 rfl rfl dX3_fillLetters_20 ?_
        refine j_iload h 0 rfl dX3_fillLetters_21 ?_
        refine j_ishr h dX3_fillLetters_23 ?_
        refine j_iconst (v := 1) h (by decide) dX3_fillLetters_24 ?_
        refine j_iand h dX3_fillLetters_25 ?_
        refine j_iconst (v := 1) h (by decide) dX3_fillLetters_26 ?_
        refine j_icmp_ne h 34 dX3_fillLetters_27 (by decide) (fun z2884 => ?_) (fun z2884 => ?_)
        · show J x (mflat [(g, .inl (.inr (3, [.ref g0, .ref g1, .ref g2, .ref g3, .ref g4, .ref g5, .ref g6, .ref g7, .int (nI sl), .int gt0, .int gm0]))), (g0, .inl (.inl (kA 1, 10, .inl fg0_11_318))), (g1, .inr (kA 6, kA 1, 10, 2, .inl fg1_11_318)), (g2, .inr (kA 6, kA 1, 10, 60, .inl fg2_11_318)), (s, .inl (.inr (5, [.ref s0, .ref s1, .ref s2, .ref s3, .ref s4, .ref s5, .ref s6, .ref s7, .ref s8, .ref s9, .ref s10, .ref s11, .int (nI sn), .int (nI sl), .int (nI se)]))), (s5, .inl (.inl (kA 1, 10, .inl sc5))), (s6, .inr (kA 6, kA 1, 10, 5, .inl sc6)), (s7, .inl (.inl (kA 1, 10, .inl sc7))), (s8, .inr (kA 6, kA 1, 10, 2, .inl sc8)), (f, .inl (.inr (3, [.ref f0, .ref f1, .ref f2, .ref f3, .ref f4, .ref f5, .ref f6, .ref f7, .int (nI fn), .int ft0, .int fm0]))), (f0, .inl (.inl (kA 1, 6, .inl ftk))), (f2, .inr (kA 6, kA 1, 6, 60, .inl fco))]) [(5, .int (nI v5_11_318)), (0, .ref g), (1, .ref s), (2, .ref f), (3, .int bk), (4, .int (nI wt))] 0 0 34 []
          refine j_iconst (v := 0) h (by decide) dX3_fillLetters_34 ?_
          refine j_istore (lv' := [(6, .int 0), (5, .int (nI v5_11_318)), (0, .ref g), (1, .ref s), (2, .ref f), (3, .int bk), (4, .int (nI wt))]) h dX3_fillLetters_35 (by decide) rfl ?_
          refine j_aload_n h 2 rfl rfl dX3_fillLetters_37 ?_
          refine jm_get h iw_X3 0 rfl rfl 0 (by decide +kernel) tw_377 rfl dX3_fillLetters_38 ?_
          refine j_iload h 1 rfl dX3_fillLetters_41 ?_
          refine j_aload_n h 3 rfl rfl dX3_fillLetters_43 ?_
          refine jm_get h iw_X5 4 rfl rfl 7 (by decide +kernel) tw_203 rfl dX3_fillLetters_44 ?_
          refine j_iload h 1 rfl dX3_fillLetters_47 ?_
          refine jm_iald h 7 rfl v5_11_318 rfl (by omega) (by omega) dX3_fillLetters_49 ?_
          obtain ⟨t2885, u2886, u2887, u2888⟩ := (show LtOk sl sc7 by assumption) v5_11_318 (by omega)
          refine j_top (b := nI t2885) (u2888) ?_
          refine jm_iast (w' := [(g, .inl (.inr (3, [.ref g0, .ref g1, .ref g2, .ref g3, .ref g4, .ref g5, .ref g6, .ref g7, .int (nI sl), .int gt0, .int gm0]))), (g0, .inl (.inl (kA 1, 10, .inl (upd fg0_11_318 v5_11_318 (nI t2885))))), (g1, .inr (kA 6, kA 1, 10, 2, .inl fg1_11_318)), (g2, .inr (kA 6, kA 1, 10, 60, .inl fg2_11_318)), (s, .inl (.inr (5, [.ref s0, .ref s1, .ref s2, .ref s3, .ref s4, .ref s5, .ref s6, .ref s7, .ref s8, .ref s9, .ref s10, .ref s11, .int (nI sn), .int (nI sl), .int (nI se)]))), (s5, .inl (.inl (kA 1, 10, .inl sc5))), (s6, .inr (kA 6, kA 1, 10, 5, .inl sc6)), (s7, .inl (.inl (kA 1, 10, .inl sc7))), (s8, .inr (kA 6, kA 1, 10, 2, .inl sc8)), (f, .inl (.inr (3, [.ref f0, .ref f1, .ref f2, .ref f3, .ref f4, .ref f5, .ref f6, .ref f7, .int (nI fn), .int ft0, .int fm0]))), (f0, .inl (.inl (kA 1, 6, .inl ftk))), (f2, .inr (kA 6, kA 1, 6, 60, .inl fco))]) h 1 rfl v5_11_318 rfl (by omega) (by omega) dX3_fillLetters_50 rfl ?_
          refine j_aload_n h 2 rfl rfl dX3_fillLetters_51 ?_
          refine jm_get h iw_X3 0 rfl rfl 1 (by decide +kernel) tw_379 rfl dX3_fillLetters_52 ?_
          refine j_iload h 1 rfl dX3_fillLetters_55 ?_
          refine jm_gout h 2 6 rfl rfl v5_11_318 rfl (by omega) (by omega) dX3_fillLetters_57 ?_
          refine j_iconst (v := 0) h (by decide) dX3_fillLetters_58 ?_
          refine j_aload_n h 3 rfl rfl dX3_fillLetters_59 ?_
          refine jm_get h iw_X5 4 rfl rfl 8 (by decide +kernel) tw_206 rfl dX3_fillLetters_60 ?_
          refine j_iload h 1 rfl dX3_fillLetters_63 ?_
          refine jm_gout h 8 6 rfl rfl v5_11_318 rfl (by omega) (by omega) dX3_fillLetters_65 ?_
          refine j_iconst (v := 0) h (by decide) dX3_fillLetters_66 ?_
          refine jm_gald h 8 rfl v5_11_318 (by omega) 0 (by decide +kernel) (by decide +kernel) (by omega) dX3_fillLetters_67 ?_
          obtain ⟨t2889, u2890, u2891⟩ := (show FtOk sl sc8 by assumption) v5_11_318 0 (by omega) (by omega)
          refine j_top (b := pm t2889) (u2891) ?_
          refine jm_gast (w' := [(g, .inl (.inr (3, [.ref g0, .ref g1, .ref g2, .ref g3, .ref g4, .ref g5, .ref g6, .ref g7, .int (nI sl), .int gt0, .int gm0]))), (g0, .inl (.inl (kA 1, 10, .inl (upd fg0_11_318 v5_11_318 (nI t2885))))), (g1, .inr (kA 6, kA 1, 10, 2, .inl (upG fg1_11_318 v5_11_318 0 (pm t2889)))), (g2, .inr (kA 6, kA 1, 10, 60, .inl fg2_11_318)), (s, .inl (.inr (5, [.ref s0, .ref s1, .ref s2, .ref s3, .ref s4, .ref s5, .ref s6, .ref s7, .ref s8, .ref s9, .ref s10, .ref s11, .int (nI sn), .int (nI sl), .int (nI se)]))), (s5, .inl (.inl (kA 1, 10, .inl sc5))), (s6, .inr (kA 6, kA 1, 10, 5, .inl sc6)), (s7, .inl (.inl (kA 1, 10, .inl sc7))), (s8, .inr (kA 6, kA 1, 10, 2, .inl sc8)), (f, .inl (.inr (3, [.ref f0, .ref f1, .ref f2, .ref f3, .ref f4, .ref f5, .ref f6, .ref f7, .int (nI fn), .int ft0, .int fm0]))), (f0, .inl (.inl (kA 1, 6, .inl ftk))), (f2, .inr (kA 6, kA 1, 6, 60, .inl fco))]) h 2 rfl v5_11_318 (by omega) 0 (by decide +kernel) (by decide +kernel) (by omega) dX3_fillLetters_68 rfl ?_
          refine j_aload_n h 2 rfl rfl dX3_fillLetters_69 ?_
          refine jm_get h iw_X3 0 rfl rfl 1 (by decide +kernel) tw_379 rfl dX3_fillLetters_70 ?_
          refine j_iload h 1 rfl dX3_fillLetters_73 ?_
          refine jm_gout h 2 6 rfl rfl v5_11_318 rfl (by omega) (by omega) dX3_fillLetters_75 ?_
          refine j_iconst (v := 1) h (by decide) dX3_fillLetters_76 ?_
          refine j_aload_n h 3 rfl rfl dX3_fillLetters_77 ?_
          refine jm_get h iw_X5 4 rfl rfl 8 (by decide +kernel) tw_206 rfl dX3_fillLetters_78 ?_
          refine j_iload h 1 rfl dX3_fillLetters_81 ?_
          refine jm_gout h 8 6 rfl rfl v5_11_318 rfl (by omega) (by omega) dX3_fillLetters_83 ?_
          refine j_iconst (v := 1) h (by decide) dX3_fillLetters_84 ?_
          refine jm_gald h 8 rfl v5_11_318 (by omega) 1 (by decide +kernel) (by decide +kernel) (by omega) dX3_fillLetters_85 ?_
          obtain ⟨t2892, u2893, u2894⟩ := (show FtOk sl sc8 by assumption) v5_11_318 1 (by omega) (by omega)
          refine j_top (b := pm t2892) (u2894) ?_
          refine jm_gast (w' := [(g, .inl (.inr (3, [.ref g0, .ref g1, .ref g2, .ref g3, .ref g4, .ref g5, .ref g6, .ref g7, .int (nI sl), .int gt0, .int gm0]))), (g0, .inl (.inl (kA 1, 10, .inl (upd fg0_11_318 v5_11_318 (nI t2885))))), (g1, .inr (kA 6, kA 1, 10, 2, .inl (upG (upG fg1_11_318 v5_11_318 0 (pm t2889)) v5_11_318 1 (pm t2892)))), (g2, .inr (kA 6, kA 1, 10, 60, .inl fg2_11_318)), (s, .inl (.inr (5, [.ref s0, .ref s1, .ref s2, .ref s3, .ref s4, .ref s5, .ref s6, .ref s7, .ref s8, .ref s9, .ref s10, .ref s11, .int (nI sn), .int (nI sl), .int (nI se)]))), (s5, .inl (.inl (kA 1, 10, .inl sc5))), (s6, .inr (kA 6, kA 1, 10, 5, .inl sc6)), (s7, .inl (.inl (kA 1, 10, .inl sc7))), (s8, .inr (kA 6, kA 1, 10, 2, .inl sc8)), (f, .inl (.inr (3, [.ref f0, .ref f1, .ref f2, .ref f3, .ref f4, .ref f5, .ref f6, .ref f7, .int (nI fn), .int ft0, .int fm0]))), (f0, .inl (.inl (kA 1, 6, .inl ftk))), (f2, .inr (kA 6, kA 1, 6, 60, .inl fco))]) h 2 rfl v5_11_318 (by omega) 1 (by decide +kernel) (by decide +kernel) (by omega) dX3_fillLetters_86 rfl ?_
          refine j_iconst (v := 0) h (by decide) dX3_fillLetters_87 ?_
          refine j_istore (lv' := [(7, .int 0), (6, .int 0), (5, .int (nI v5_11_318)), (0, .ref g), (1, .ref s), (2, .ref f), (3, .int bk), (4, .int (nI wt))]) h dX3_fillLetters_88 (by decide) rfl ?_
          have lp90_321 : ∀ (m90_321 : Nat), ∀ (v7_90_321 : Nat) (fg2_90_321 : Nat → Nat → Int32), (CoOk v5_11_318 wt (upd fg0_11_318 v5_11_318 (nI t2885)) fg2_90_321) → (CoRow v5_11_318 v7_90_321 wt (upd fg0_11_318 v5_11_318 (nI t2885)) fg2_90_321) → (v7_90_321 ≤ 100000) → 100001 - v7_90_321 < m90_321 → J x (mflat [(g, .inl (.inr (3, [.ref g0, .ref g1, .ref g2, .ref g3, .ref g4, .ref g5, .ref g6, .ref g7, .int (nI sl), .int gt0, .int gm0]))), (g0, .inl (.inl (kA 1, 10, .inl (upd fg0_11_318 v5_11_318 (nI t2885))))), (g1, .inr (kA 6, kA 1, 10, 2, .inl (upG (upG fg1_11_318 v5_11_318 0 (pm t2889)) v5_11_318 1 (pm t2892)))), (g2, .inr (kA 6, kA 1, 10, 60, .inl fg2_90_321)), (s, .inl (.inr (5, [.ref s0, .ref s1, .ref s2, .ref s3, .ref s4, .ref s5, .ref s6, .ref s7, .ref s8, .ref s9, .ref s10, .ref s11, .int (nI sn), .int (nI sl), .int (nI se)]))), (s5, .inl (.inl (kA 1, 10, .inl sc5))), (s6, .inr (kA 6, kA 1, 10, 5, .inl sc6)), (s7, .inl (.inl (kA 1, 10, .inl sc7))), (s8, .inr (kA 6, kA 1, 10, 2, .inl sc8)), (f, .inl (.inr (3, [.ref f0, .ref f1, .ref f2, .ref f3, .ref f4, .ref f5, .ref f6, .ref f7, .int (nI fn), .int ft0, .int fm0]))), (f0, .inl (.inl (kA 1, 6, .inl ftk))), (f2, .inr (kA 6, kA 1, 6, 60, .inl fco))]) [(7, .int (nI v7_90_321)), (6, .int 0), (5, .int (nI v5_11_318)), (0, .ref g), (1, .ref s), (2, .ref f), (3, .int bk), (4, .int (nI wt))] 0 0 90 [] := by
            intro m90_321
            induction m90_321 with
            | zero =>
              intro v7_90_321 fg2_90_321 i90_321_0 i90_321_1 i90_321_2 hm90_321
              exact absurd hm90_321 (Nat.not_lt_zero _)
            | succ m90_321 ih90_321 =>
              intro v7_90_321 fg2_90_321 i90_321_0 i90_321_1 i90_321_2 hm90_321
              refine j_iload h 0 rfl dX3_fillLetters_90 ?_
              refine j_iload h 7 rfl dX3_fillLetters_92 ?_
              refine j_icmp_ge h 159 dX3_fillLetters_94 (by decide) (fun z2899 => ?_) (fun z2899 => ?_)
              · have z2899n : wt ≤ v7_90_321 := (nI_leI (a := wt) (b := v7_90_321) (by omega) (by omega)).mp z2899
                refine j_iinc (v := nI (v5_11_318 + 1)) (lv' := [(5, .int (nI (v5_11_318 + 1))), (7, .int (nI v7_90_321)), (6, .int 0), (0, .ref g), (1, .ref s), (2, .ref f), (3, .int bk), (4, .int (nI wt))]) h dX3_fillLetters_159 2 rfl (nI_add v5_11_318 1) (by decide) rfl ?_
                refine j_goto h 11 dX3_fillLetters_162 (by decide) ?_
                refine jm_sub [0, 1, 2, 3, 4, 5, 6, 7, 8, 9, 10, 11] (w' := [(g, .inl (.inr (3, [.ref g0, .ref g1, .ref g2, .ref g3, .ref g4, .ref g5, .ref g6, .ref g7, .int (nI sl), .int gt0, .int gm0]))), (g0, .inl (.inl (kA 1, 10, .inl (upd fg0_11_318 v5_11_318 (nI t2885))))), (g1, .inr (kA 6, kA 1, 10, 2, .inl (upG (upG fg1_11_318 v5_11_318 0 (pm t2889)) v5_11_318 1 (pm t2892)))), (g2, .inr (kA 6, kA 1, 10, 60, .inl fg2_90_321)), (s, .inl (.inr (5, [.ref s0, .ref s1, .ref s2, .ref s3, .ref s4, .ref s5, .ref s6, .ref s7, .ref s8, .ref s9, .ref s10, .ref s11, .int (nI sn), .int (nI sl), .int (nI se)]))), (s5, .inl (.inl (kA 1, 10, .inl sc5))), (s6, .inr (kA 6, kA 1, 10, 5, .inl sc6)), (s7, .inl (.inl (kA 1, 10, .inl sc7))), (s8, .inr (kA 6, kA 1, 10, 2, .inl sc8)), (f, .inl (.inr (3, [.ref f0, .ref f1, .ref f2, .ref f3, .ref f4, .ref f5, .ref f6, .ref f7, .int (nI fn), .int ft0, .int fm0]))), (f0, .inl (.inl (kA 1, 6, .inl ftk))), (f2, .inr (kA 6, kA 1, 6, 60, .inl fco))]) rfl (by decide +kernel) [0, 3, 4, 5, 6, 7] (lv' := [(5, .int (nI (v5_11_318 + 1))), (0, .ref g), (1, .ref s), (2, .ref f), (3, .int bk), (4, .int (nI wt))]) rfl ?_
                exact ih11_318 (v5_11_318 + 1) (upd fg0_11_318 v5_11_318 (nI t2885)) (upG (upG fg1_11_318 v5_11_318 0 (pm t2889)) v5_11_318 1 (pm t2892)) fg2_90_321 (show LtOk (v5_11_318 + 1) (upd fg0_11_318 v5_11_318 (nI t2885)) by first | exact LtOk_step (by assumption) (by omega) (by omega) | assumption | exact LtOk_0 _ | omega) (show FtOk (v5_11_318 + 1) (upG (upG fg1_11_318 v5_11_318 0 (pm t2889)) v5_11_318 1 (pm t2892)) by first | assumption | exact ml_la (by assumption) (by omega) (by omega) | exact FtOk_0 _ | omega) (show CoOk (v5_11_318 + 1) wt (upd fg0_11_318 v5_11_318 (nI t2885)) fg2_90_321 by first | assumption | exact CoOk_tk (by assumption) | exact CoOk_next (by assumption) (by assumption) (by omega) | exact CoOk_up (by assumption) | exact CoOk_0 _ _ _ | exact CoOk_next (by assumption) (by assumption) (by omega) | omega) (show (v5_11_318 + 1) ≤ sl by first | assumption | omega) (show (v5_11_318 + 1) ≤ 100000 by first | assumption | omega) (show 100001 - (v5_11_318 + 1) < m11_318 by first | exact Nat.lt_of_lt_of_le (Nat.sub_lt_sub_left (Nat.lt_of_le_of_lt (show v5_11_318 ≤ 100000 by assumption) (Nat.lt_succ_self 100000)) (Nat.lt_succ_self v5_11_318)) (Nat.le_of_lt_succ hm11_318) | omega)
              · have z2899n : ¬ wt ≤ v7_90_321 := fun q9 => z2899 ((nI_leI (a := wt) (b := v7_90_321) (by omega) (by omega)).mpr q9)
                refine j_iload h 0 rfl dX3_fillLetters_97 ?_
                refine j_aload_n h 3 rfl rfl dX3_fillLetters_99 ?_
                refine jm_get h iw_X3 0 rfl rfl 0 (by decide +kernel) tw_377 rfl dX3_fillLetters_100 ?_
                refine j_iload h 2 rfl dX3_fillLetters_103 ?_
                refine jm_iald h 1 rfl v5_11_318 rfl (by omega) (by omega) dX3_fillLetters_105 ?_
                refine j_top (b := (nI t2885)) (pk_us) ?_
                refine j_iadd h dX3_fillLetters_106 ?_
                refine j_top (b := nI (v7_90_321 + t2885)) (nI_add v7_90_321 t2885) ?_
                refine j_iload h 7 rfl dX3_fillLetters_107 ?_
                refine j_icmp_gt h 116 dX3_fillLetters_109 (by decide) (fun z2900 => ?_) (fun z2900 => ?_)
                · have z2900n : wt < (v7_90_321 + t2885) := (nI_ltI (a := wt) (b := (v7_90_321 + t2885)) (by omega) (by omega)).mp z2900
                  refine j_iconst (v := 0) h (by decide) dX3_fillLetters_116 ?_
                  refine j_istore (lv' := [(8, .int 0), (7, .int (nI v7_90_321)), (6, .int 0), (5, .int (nI v5_11_318)), (0, .ref g), (1, .ref s), (2, .ref f), (3, .int bk), (4, .int (nI wt))]) h dX3_fillLetters_117 (by decide) rfl ?_
                  refine j_aload_n h 4 rfl rfl dX3_fillLetters_119 ?_
                  refine jm_get h iw_X3 0 rfl rfl 2 (by decide +kernel) tw_381 rfl dX3_fillLetters_120 ?_
                  refine j_iload h 3 rfl dX3_fillLetters_123 ?_
                  refine jm_gout h 3 6 rfl rfl v5_11_318 rfl (by omega) (by omega) dX3_fillLetters_125 ?_
                  refine j_iload h 1 rfl dX3_fillLetters_126 ?_
                  refine j_iload h 2 rfl dX3_fillLetters_128 ?_
                  refine j_if_eq h 150 dX3_fillLetters_130 (by decide) (fun _ => ?_) (fun q => absurd (by decide) q)
                  refine j_bipush (v := 100) h (by decide) dX3_fillLetters_150 ?_
                  refine jm_gast (w' := [(g, .inl (.inr (3, [.ref g0, .ref g1, .ref g2, .ref g3, .ref g4, .ref g5, .ref g6, .ref g7, .int (nI sl), .int gt0, .int gm0]))), (g0, .inl (.inl (kA 1, 10, .inl (upd fg0_11_318 v5_11_318 (nI t2885))))), (g1, .inr (kA 6, kA 1, 10, 2, .inl (upG (upG fg1_11_318 v5_11_318 0 (pm t2889)) v5_11_318 1 (pm t2892)))), (g2, .inr (kA 6, kA 1, 10, 60, .inl (upG fg2_90_321 v5_11_318 v7_90_321 100))), (s, .inl (.inr (5, [.ref s0, .ref s1, .ref s2, .ref s3, .ref s4, .ref s5, .ref s6, .ref s7, .ref s8, .ref s9, .ref s10, .ref s11, .int (nI sn), .int (nI sl), .int (nI se)]))), (s5, .inl (.inl (kA 1, 10, .inl sc5))), (s6, .inr (kA 6, kA 1, 10, 5, .inl sc6)), (s7, .inl (.inl (kA 1, 10, .inl sc7))), (s8, .inr (kA 6, kA 1, 10, 2, .inl sc8)), (f, .inl (.inr (3, [.ref f0, .ref f1, .ref f2, .ref f3, .ref f4, .ref f5, .ref f6, .ref f7, .int (nI fn), .int ft0, .int fm0]))), (f0, .inl (.inl (kA 1, 6, .inl ftk))), (f2, .inr (kA 6, kA 1, 6, 60, .inl fco))]) h 3 rfl v5_11_318 (by omega) v7_90_321 rfl (by omega) (by omega) dX3_fillLetters_152 rfl ?_
                  refine j_iinc (v := nI (v7_90_321 + 1)) (lv' := [(7, .int (nI (v7_90_321 + 1))), (8, .int 0), (6, .int 0), (5, .int (nI v5_11_318)), (0, .ref g), (1, .ref s), (2, .ref f), (3, .int bk), (4, .int (nI wt))]) h dX3_fillLetters_153 1 rfl (nI_add v7_90_321 1) (by decide) rfl ?_
                  refine j_goto h 90 dX3_fillLetters_156 (by decide) ?_
                  refine jm_sub [0, 1, 2, 3, 4, 5, 6, 7, 8, 9, 10, 11] (w' := [(g, .inl (.inr (3, [.ref g0, .ref g1, .ref g2, .ref g3, .ref g4, .ref g5, .ref g6, .ref g7, .int (nI sl), .int gt0, .int gm0]))), (g0, .inl (.inl (kA 1, 10, .inl (upd fg0_11_318 v5_11_318 (nI t2885))))), (g1, .inr (kA 6, kA 1, 10, 2, .inl (upG (upG fg1_11_318 v5_11_318 0 (pm t2889)) v5_11_318 1 (pm t2892)))), (g2, .inr (kA 6, kA 1, 10, 60, .inl (upG fg2_90_321 v5_11_318 v7_90_321 100))), (s, .inl (.inr (5, [.ref s0, .ref s1, .ref s2, .ref s3, .ref s4, .ref s5, .ref s6, .ref s7, .ref s8, .ref s9, .ref s10, .ref s11, .int (nI sn), .int (nI sl), .int (nI se)]))), (s5, .inl (.inl (kA 1, 10, .inl sc5))), (s6, .inr (kA 6, kA 1, 10, 5, .inl sc6)), (s7, .inl (.inl (kA 1, 10, .inl sc7))), (s8, .inr (kA 6, kA 1, 10, 2, .inl sc8)), (f, .inl (.inr (3, [.ref f0, .ref f1, .ref f2, .ref f3, .ref f4, .ref f5, .ref f6, .ref f7, .int (nI fn), .int ft0, .int fm0]))), (f0, .inl (.inl (kA 1, 6, .inl ftk))), (f2, .inr (kA 6, kA 1, 6, 60, .inl fco))]) rfl (by decide +kernel) [0, 2, 3, 4, 5, 6, 7, 8] (lv' := [(7, .int (nI (v7_90_321 + 1))), (6, .int 0), (5, .int (nI v5_11_318)), (0, .ref g), (1, .ref s), (2, .ref f), (3, .int bk), (4, .int (nI wt))]) rfl ?_
                  exact ih90_321 (v7_90_321 + 1) (upG fg2_90_321 v5_11_318 v7_90_321 100) (show CoOk v5_11_318 wt (upd fg0_11_318 v5_11_318 (nI t2885)) (upG fg2_90_321 v5_11_318 v7_90_321 100) by first | exact CoOk_tk (by assumption) | exact CoOk_up (by assumption) | assumption | exact CoOk_next (by assumption) (by assumption) (by omega) | exact CoOk_0 _ _ _ | exact CoOk_next (by assumption) (by assumption) (by omega) | omega) (show CoRow v5_11_318 (v7_90_321 + 1) wt (upd fg0_11_318 v5_11_318 (nI t2885)) (upG fg2_90_321 v5_11_318 v7_90_321 100) from CoRow_up (c := 100) (by assumption) (by omega) (by first | (intro hc9; exact absurd hc9 (by omega)) | (intro _; exact co_fit (by first | exact pk_us | assumption) (by omega) (by omega)))) (show (v7_90_321 + 1) ≤ 100000 by first | assumption | omega) (show 100001 - (v7_90_321 + 1) < m90_321 by first | exact Nat.lt_of_lt_of_le (Nat.sub_lt_sub_left (Nat.lt_of_le_of_lt (show v7_90_321 ≤ 100000 by assumption) (Nat.lt_succ_self 100000)) (Nat.lt_succ_self v7_90_321)) (Nat.le_of_lt_succ hm90_321) | omega)
                · have z2900n : ¬ wt < (v7_90_321 + t2885) := fun q9 => z2900 ((nI_ltI (a := wt) (b := (v7_90_321 + t2885)) (by omega) (by omega)).mpr q9)
                  refine j_iconst (v := 1) h (by decide) dX3_fillLetters_112 ?_
                  refine j_goto h 117 dX3_fillLetters_113 (by decide) ?_
                  refine j_istore (lv' := [(8, .int 1), (7, .int (nI v7_90_321)), (6, .int 0), (5, .int (nI v5_11_318)), (0, .ref g), (1, .ref s), (2, .ref f), (3, .int bk), (4, .int (nI wt))]) h dX3_fillLetters_117 (by decide) rfl ?_
                  refine j_aload_n h 4 rfl rfl dX3_fillLetters_119 ?_
                  refine jm_get h iw_X3 0 rfl rfl 2 (by decide +kernel) tw_381 rfl dX3_fillLetters_120 ?_
                  refine j_iload h 3 rfl dX3_fillLetters_123 ?_
                  refine jm_gout h 3 6 rfl rfl v5_11_318 rfl (by omega) (by omega) dX3_fillLetters_125 ?_
                  refine j_iload h 1 rfl dX3_fillLetters_126 ?_
                  refine j_iload h 2 rfl dX3_fillLetters_128 ?_
                  refine j_if_eq h 150 dX3_fillLetters_130 (by decide) (fun _ => ?_) (fun q => absurd (by decide) q)
                  refine j_bipush (v := 100) h (by decide) dX3_fillLetters_150 ?_
                  refine jm_gast (w' := [(g, .inl (.inr (3, [.ref g0, .ref g1, .ref g2, .ref g3, .ref g4, .ref g5, .ref g6, .ref g7, .int (nI sl), .int gt0, .int gm0]))), (g0, .inl (.inl (kA 1, 10, .inl (upd fg0_11_318 v5_11_318 (nI t2885))))), (g1, .inr (kA 6, kA 1, 10, 2, .inl (upG (upG fg1_11_318 v5_11_318 0 (pm t2889)) v5_11_318 1 (pm t2892)))), (g2, .inr (kA 6, kA 1, 10, 60, .inl (upG fg2_90_321 v5_11_318 v7_90_321 100))), (s, .inl (.inr (5, [.ref s0, .ref s1, .ref s2, .ref s3, .ref s4, .ref s5, .ref s6, .ref s7, .ref s8, .ref s9, .ref s10, .ref s11, .int (nI sn), .int (nI sl), .int (nI se)]))), (s5, .inl (.inl (kA 1, 10, .inl sc5))), (s6, .inr (kA 6, kA 1, 10, 5, .inl sc6)), (s7, .inl (.inl (kA 1, 10, .inl sc7))), (s8, .inr (kA 6, kA 1, 10, 2, .inl sc8)), (f, .inl (.inr (3, [.ref f0, .ref f1, .ref f2, .ref f3, .ref f4, .ref f5, .ref f6, .ref f7, .int (nI fn), .int ft0, .int fm0]))), (f0, .inl (.inl (kA 1, 6, .inl ftk))), (f2, .inr (kA 6, kA 1, 6, 60, .inl fco))]) h 3 rfl v5_11_318 (by omega) v7_90_321 rfl (by omega) (by omega) dX3_fillLetters_152 rfl ?_
                  refine j_iinc (v := nI (v7_90_321 + 1)) (lv' := [(7, .int (nI (v7_90_321 + 1))), (8, .int 1), (6, .int 0), (5, .int (nI v5_11_318)), (0, .ref g), (1, .ref s), (2, .ref f), (3, .int bk), (4, .int (nI wt))]) h dX3_fillLetters_153 1 rfl (nI_add v7_90_321 1) (by decide) rfl ?_
                  refine j_goto h 90 dX3_fillLetters_156 (by decide) ?_
                  refine jm_sub [0, 1, 2, 3, 4, 5, 6, 7, 8, 9, 10, 11] (w' := [(g, .inl (.inr (3, [.ref g0, .ref g1, .ref g2, .ref g3, .ref g4, .ref g5, .ref g6, .ref g7, .int (nI sl), .int gt0, .int gm0]))), (g0, .inl (.inl (kA 1, 10, .inl (upd fg0_11_318 v5_11_318 (nI t2885))))), (g1, .inr (kA 6, kA 1, 10, 2, .inl (upG (upG fg1_11_318 v5_11_318 0 (pm t2889)) v5_11_318 1 (pm t2892)))), (g2, .inr (kA 6, kA 1, 10, 60, .inl (upG fg2_90_321 v5_11_318 v7_90_321 100))), (s, .inl (.inr (5, [.ref s0, .ref s1, .ref s2, .ref s3, .ref s4, .ref s5, .ref s6, .ref s7, .ref s8, .ref s9, .ref s10, .ref s11, .int (nI sn), .int (nI sl), .int (nI se)]))), (s5, .inl (.inl (kA 1, 10, .inl sc5))), (s6, .inr (kA 6, kA 1, 10, 5, .inl sc6)), (s7, .inl (.inl (kA 1, 10, .inl sc7))), (s8, .inr (kA 6, kA 1, 10, 2, .inl sc8)), (f, .inl (.inr (3, [.ref f0, .ref f1, .ref f2, .ref f3, .ref f4, .ref f5, .ref f6, .ref f7, .int (nI fn), .int ft0, .int fm0]))), (f0, .inl (.inl (kA 1, 6, .inl ftk))), (f2, .inr (kA 6, kA 1, 6, 60, .inl fco))]) rfl (by decide +kernel) [0, 2, 3, 4, 5, 6, 7, 8] (lv' := [(7, .int (nI (v7_90_321 + 1))), (6, .int 0), (5, .int (nI v5_11_318)), (0, .ref g), (1, .ref s), (2, .ref f), (3, .int bk), (4, .int (nI wt))]) rfl ?_
                  exact ih90_321 (v7_90_321 + 1) (upG fg2_90_321 v5_11_318 v7_90_321 100) (show CoOk v5_11_318 wt (upd fg0_11_318 v5_11_318 (nI t2885)) (upG fg2_90_321 v5_11_318 v7_90_321 100) by first | exact CoOk_tk (by assumption) | exact CoOk_up (by assumption) | assumption | exact CoOk_next (by assumption) (by assumption) (by omega) | exact CoOk_0 _ _ _ | exact CoOk_next (by assumption) (by assumption) (by omega) | omega) (show CoRow v5_11_318 (v7_90_321 + 1) wt (upd fg0_11_318 v5_11_318 (nI t2885)) (upG fg2_90_321 v5_11_318 v7_90_321 100) from CoRow_up (c := 100) (by assumption) (by omega) (by first | (intro hc9; exact absurd hc9 (by omega)) | (intro _; exact co_fit (by first | exact pk_us | assumption) (by omega) (by omega)))) (show (v7_90_321 + 1) ≤ 100000 by first | assumption | omega) (show 100001 - (v7_90_321 + 1) < m90_321 by first | exact Nat.lt_of_lt_of_le (Nat.sub_lt_sub_left (Nat.lt_of_le_of_lt (show v7_90_321 ≤ 100000 by assumption) (Nat.lt_succ_self 100000)) (Nat.lt_succ_self v7_90_321)) (Nat.le_of_lt_succ hm90_321) | omega)
          refine jm_sub [0, 1, 2, 3, 4, 5, 6, 7, 8, 9, 10, 11] (w' := [(g, .inl (.inr (3, [.ref g0, .ref g1, .ref g2, .ref g3, .ref g4, .ref g5, .ref g6, .ref g7, .int (nI sl), .int gt0, .int gm0]))), (g0, .inl (.inl (kA 1, 10, .inl (upd fg0_11_318 v5_11_318 (nI t2885))))), (g1, .inr (kA 6, kA 1, 10, 2, .inl (upG (upG fg1_11_318 v5_11_318 0 (pm t2889)) v5_11_318 1 (pm t2892)))), (g2, .inr (kA 6, kA 1, 10, 60, .inl fg2_11_318)), (s, .inl (.inr (5, [.ref s0, .ref s1, .ref s2, .ref s3, .ref s4, .ref s5, .ref s6, .ref s7, .ref s8, .ref s9, .ref s10, .ref s11, .int (nI sn), .int (nI sl), .int (nI se)]))), (s5, .inl (.inl (kA 1, 10, .inl sc5))), (s6, .inr (kA 6, kA 1, 10, 5, .inl sc6)), (s7, .inl (.inl (kA 1, 10, .inl sc7))), (s8, .inr (kA 6, kA 1, 10, 2, .inl sc8)), (f, .inl (.inr (3, [.ref f0, .ref f1, .ref f2, .ref f3, .ref f4, .ref f5, .ref f6, .ref f7, .int (nI fn), .int ft0, .int fm0]))), (f0, .inl (.inl (kA 1, 6, .inl ftk))), (f2, .inr (kA 6, kA 1, 6, 60, .inl fco))]) rfl (by decide +kernel) [0, 1, 2, 3, 4, 5, 6, 7] (lv' := [(7, .int 0), (6, .int 0), (5, .int (nI v5_11_318)), (0, .ref g), (1, .ref s), (2, .ref f), (3, .int bk), (4, .int (nI wt))]) rfl ?_
          exact lp90_321 (100001 - 0 + 1) 0 fg2_11_318 (show CoOk v5_11_318 wt (upd fg0_11_318 v5_11_318 (nI t2885)) fg2_11_318 by first | exact CoOk_tk (by assumption) | assumption | exact CoOk_next (by assumption) (by assumption) (by omega) | exact CoOk_up (by assumption) | exact CoOk_0 _ _ _ | exact CoOk_next (by assumption) (by assumption) (by omega) | omega) (show CoRow v5_11_318 0 wt (upd fg0_11_318 v5_11_318 (nI t2885)) fg2_11_318 by first | assumption | exact CoRow_0 _ _ _ _ | omega) (show 0 ≤ 100000 by first | assumption | omega) (Nat.lt_succ_self _)
        · show J x (mflat [(g, .inl (.inr (3, [.ref g0, .ref g1, .ref g2, .ref g3, .ref g4, .ref g5, .ref g6, .ref g7, .int (nI sl), .int gt0, .int gm0]))), (g0, .inl (.inl (kA 1, 10, .inl fg0_11_318))), (g1, .inr (kA 6, kA 1, 10, 2, .inl fg1_11_318)), (g2, .inr (kA 6, kA 1, 10, 60, .inl fg2_11_318)), (s, .inl (.inr (5, [.ref s0, .ref s1, .ref s2, .ref s3, .ref s4, .ref s5, .ref s6, .ref s7, .ref s8, .ref s9, .ref s10, .ref s11, .int (nI sn), .int (nI sl), .int (nI se)]))), (s5, .inl (.inl (kA 1, 10, .inl sc5))), (s6, .inr (kA 6, kA 1, 10, 5, .inl sc6)), (s7, .inl (.inl (kA 1, 10, .inl sc7))), (s8, .inr (kA 6, kA 1, 10, 2, .inl sc8)), (f, .inl (.inr (3, [.ref f0, .ref f1, .ref f2, .ref f3, .ref f4, .ref f5, .ref f6, .ref f7, .int (nI fn), .int ft0, .int fm0]))), (f0, .inl (.inl (kA 1, 6, .inl ftk))), (f2, .inr (kA 6, kA 1, 6, 60, .inl fco))]) [(5, .int (nI v5_11_318)), (0, .ref g), (1, .ref s), (2, .ref f), (3, .int bk), (4, .int (nI wt))] 0 0 30 []
          refine j_iconst (v := 1) h (by decide) dX3_fillLetters_30 ?_
          refine j_goto h 35 dX3_fillLetters_31 (by decide) ?_
          refine j_istore (lv' := [(6, .int 1), (5, .int (nI v5_11_318)), (0, .ref g), (1, .ref s), (2, .ref f), (3, .int bk), (4, .int (nI wt))]) h dX3_fillLetters_35 (by decide) rfl ?_
          refine j_aload_n h 2 rfl rfl dX3_fillLetters_37 ?_
          refine jm_get h iw_X3 0 rfl rfl 0 (by decide +kernel) tw_377 rfl dX3_fillLetters_38 ?_
          refine j_iload h 1 rfl dX3_fillLetters_41 ?_
          refine j_aload_n h 3 rfl rfl dX3_fillLetters_43 ?_
          refine jm_get h iw_X5 4 rfl rfl 7 (by decide +kernel) tw_203 rfl dX3_fillLetters_44 ?_
          refine j_iload h 1 rfl dX3_fillLetters_47 ?_
          refine jm_iald h 7 rfl v5_11_318 rfl (by omega) (by omega) dX3_fillLetters_49 ?_
          obtain ⟨t2901, u2902, u2903, u2904⟩ := (show LtOk sl sc7 by assumption) v5_11_318 (by omega)
          refine j_top (b := nI t2901) (u2904) ?_
          refine jm_iast (w' := [(g, .inl (.inr (3, [.ref g0, .ref g1, .ref g2, .ref g3, .ref g4, .ref g5, .ref g6, .ref g7, .int (nI sl), .int gt0, .int gm0]))), (g0, .inl (.inl (kA 1, 10, .inl (upd fg0_11_318 v5_11_318 (nI t2901))))), (g1, .inr (kA 6, kA 1, 10, 2, .inl fg1_11_318)), (g2, .inr (kA 6, kA 1, 10, 60, .inl fg2_11_318)), (s, .inl (.inr (5, [.ref s0, .ref s1, .ref s2, .ref s3, .ref s4, .ref s5, .ref s6, .ref s7, .ref s8, .ref s9, .ref s10, .ref s11, .int (nI sn), .int (nI sl), .int (nI se)]))), (s5, .inl (.inl (kA 1, 10, .inl sc5))), (s6, .inr (kA 6, kA 1, 10, 5, .inl sc6)), (s7, .inl (.inl (kA 1, 10, .inl sc7))), (s8, .inr (kA 6, kA 1, 10, 2, .inl sc8)), (f, .inl (.inr (3, [.ref f0, .ref f1, .ref f2, .ref f3, .ref f4, .ref f5, .ref f6, .ref f7, .int (nI fn), .int ft0, .int fm0]))), (f0, .inl (.inl (kA 1, 6, .inl ftk))), (f2, .inr (kA 6, kA 1, 6, 60, .inl fco))]) h 1 rfl v5_11_318 rfl (by omega) (by omega) dX3_fillLetters_50 rfl ?_
          refine j_aload_n h 2 rfl rfl dX3_fillLetters_51 ?_
          refine jm_get h iw_X3 0 rfl rfl 1 (by decide +kernel) tw_379 rfl dX3_fillLetters_52 ?_
          refine j_iload h 1 rfl dX3_fillLetters_55 ?_
          refine jm_gout h 2 6 rfl rfl v5_11_318 rfl (by omega) (by omega) dX3_fillLetters_57 ?_
          refine j_iconst (v := 0) h (by decide) dX3_fillLetters_58 ?_
          refine j_aload_n h 3 rfl rfl dX3_fillLetters_59 ?_
          refine jm_get h iw_X5 4 rfl rfl 8 (by decide +kernel) tw_206 rfl dX3_fillLetters_60 ?_
          refine j_iload h 1 rfl dX3_fillLetters_63 ?_
          refine jm_gout h 8 6 rfl rfl v5_11_318 rfl (by omega) (by omega) dX3_fillLetters_65 ?_
          refine j_iconst (v := 0) h (by decide) dX3_fillLetters_66 ?_
          refine jm_gald h 8 rfl v5_11_318 (by omega) 0 (by decide +kernel) (by decide +kernel) (by omega) dX3_fillLetters_67 ?_
          obtain ⟨t2905, u2906, u2907⟩ := (show FtOk sl sc8 by assumption) v5_11_318 0 (by omega) (by omega)
          refine j_top (b := pm t2905) (u2907) ?_
          refine jm_gast (w' := [(g, .inl (.inr (3, [.ref g0, .ref g1, .ref g2, .ref g3, .ref g4, .ref g5, .ref g6, .ref g7, .int (nI sl), .int gt0, .int gm0]))), (g0, .inl (.inl (kA 1, 10, .inl (upd fg0_11_318 v5_11_318 (nI t2901))))), (g1, .inr (kA 6, kA 1, 10, 2, .inl (upG fg1_11_318 v5_11_318 0 (pm t2905)))), (g2, .inr (kA 6, kA 1, 10, 60, .inl fg2_11_318)), (s, .inl (.inr (5, [.ref s0, .ref s1, .ref s2, .ref s3, .ref s4, .ref s5, .ref s6, .ref s7, .ref s8, .ref s9, .ref s10, .ref s11, .int (nI sn), .int (nI sl), .int (nI se)]))), (s5, .inl (.inl (kA 1, 10, .inl sc5))), (s6, .inr (kA 6, kA 1, 10, 5, .inl sc6)), (s7, .inl (.inl (kA 1, 10, .inl sc7))), (s8, .inr (kA 6, kA 1, 10, 2, .inl sc8)), (f, .inl (.inr (3, [.ref f0, .ref f1, .ref f2, .ref f3, .ref f4, .ref f5, .ref f6, .ref f7, .int (nI fn), .int ft0, .int fm0]))), (f0, .inl (.inl (kA 1, 6, .inl ftk))), (f2, .inr (kA 6, kA 1, 6, 60, .inl fco))]) h 2 rfl v5_11_318 (by omega) 0 (by decide +kernel) (by decide +kernel) (by omega) dX3_fillLetters_68 rfl ?_
          refine j_aload_n h 2 rfl rfl dX3_fillLetters_69 ?_
          refine jm_get h iw_X3 0 rfl rfl 1 (by decide +kernel) tw_379 rfl dX3_fillLetters_70 ?_
          refine j_iload h 1 rfl dX3_fillLetters_73 ?_
          refine jm_gout h 2 6 rfl rfl v5_11_318 rfl (by omega) (by omega) dX3_fillLetters_75 ?_
          refine j_iconst (v := 1) h (by decide) dX3_fillLetters_76 ?_
          refine j_aload_n h 3 rfl rfl dX3_fillLetters_77 ?_
          refine jm_get h iw_X5 4 rfl rfl 8 (by decide +kernel) tw_206 rfl dX3_fillLetters_78 ?_
          refine j_iload h 1 rfl dX3_fillLetters_81 ?_
          refine jm_gout h 8 6 rfl rfl v5_11_318 rfl (by omega) (by omega) dX3_fillLetters_83 ?_
          refine j_iconst (v := 1) h (by decide) dX3_fillLetters_84 ?_
          refine jm_gald h 8 rfl v5_11_318 (by omega) 1 (by decide +kernel) (by decide +kernel) (by omega) dX3_fillLetters_85 ?_
          obtain ⟨t2908, u2909, u2910⟩ := (show FtOk sl sc8 by assumption) v5_11_318 1 (by omega) (by omega)
          refine j_top (b := pm t2908) (u2910) ?_
          refine jm_gast (w' := [(g, .inl (.inr (3, [.ref g0, .ref g1, .ref g2, .ref g3, .ref g4, .ref g5, .ref g6, .ref g7, .int (nI sl), .int gt0, .int gm0]))), (g0, .inl (.inl (kA 1, 10, .inl (upd fg0_11_318 v5_11_318 (nI t2901))))), (g1, .inr (kA 6, kA 1, 10, 2, .inl (upG (upG fg1_11_318 v5_11_318 0 (pm t2905)) v5_11_318 1 (pm t2908)))), (g2, .inr (kA 6, kA 1, 10, 60, .inl fg2_11_318)), (s, .inl (.inr (5, [.ref s0, .ref s1, .ref s2, .ref s3, .ref s4, .ref s5, .ref s6, .ref s7, .ref s8, .ref s9, .ref s10, .ref s11, .int (nI sn), .int (nI sl), .int (nI se)]))), (s5, .inl (.inl (kA 1, 10, .inl sc5))), (s6, .inr (kA 6, kA 1, 10, 5, .inl sc6)), (s7, .inl (.inl (kA 1, 10, .inl sc7))), (s8, .inr (kA 6, kA 1, 10, 2, .inl sc8)), (f, .inl (.inr (3, [.ref f0, .ref f1, .ref f2, .ref f3, .ref f4, .ref f5, .ref f6, .ref f7, .int (nI fn), .int ft0, .int fm0]))), (f0, .inl (.inl (kA 1, 6, .inl ftk))), (f2, .inr (kA 6, kA 1, 6, 60, .inl fco))]) h 2 rfl v5_11_318 (by omega) 1 (by decide +kernel) (by decide +kernel) (by omega) dX3_fillLetters_86 rfl ?_
          refine j_iconst (v := 0) h (by decide) dX3_fillLetters_87 ?_
          refine j_istore (lv' := [(7, .int 0), (6, .int 1), (5, .int (nI v5_11_318)), (0, .ref g), (1, .ref s), (2, .ref f), (3, .int bk), (4, .int (nI wt))]) h dX3_fillLetters_88 (by decide) rfl ?_
          have lp90_324 : ∀ (m90_324 : Nat), ∀ (v7_90_324 : Nat) (fg2_90_324 : Nat → Nat → Int32), (CoOk v5_11_318 wt (upd fg0_11_318 v5_11_318 (nI t2901)) fg2_90_324) → (CoRow v5_11_318 v7_90_324 wt (upd fg0_11_318 v5_11_318 (nI t2901)) fg2_90_324) → (v7_90_324 ≤ 100000) → 100001 - v7_90_324 < m90_324 → J x (mflat [(g, .inl (.inr (3, [.ref g0, .ref g1, .ref g2, .ref g3, .ref g4, .ref g5, .ref g6, .ref g7, .int (nI sl), .int gt0, .int gm0]))), (g0, .inl (.inl (kA 1, 10, .inl (upd fg0_11_318 v5_11_318 (nI t2901))))), (g1, .inr (kA 6, kA 1, 10, 2, .inl (upG (upG fg1_11_318 v5_11_318 0 (pm t2905)) v5_11_318 1 (pm t2908)))), (g2, .inr (kA 6, kA 1, 10, 60, .inl fg2_90_324)), (s, .inl (.inr (5, [.ref s0, .ref s1, .ref s2, .ref s3, .ref s4, .ref s5, .ref s6, .ref s7, .ref s8, .ref s9, .ref s10, .ref s11, .int (nI sn), .int (nI sl), .int (nI se)]))), (s5, .inl (.inl (kA 1, 10, .inl sc5))), (s6, .inr (kA 6, kA 1, 10, 5, .inl sc6)), (s7, .inl (.inl (kA 1, 10, .inl sc7))), (s8, .inr (kA 6, kA 1, 10, 2, .inl sc8)), (f, .inl (.inr (3, [.ref f0, .ref f1, .ref f2, .ref f3, .ref f4, .ref f5, .ref f6, .ref f7, .int (nI fn), .int ft0, .int fm0]))), (f0, .inl (.inl (kA 1, 6, .inl ftk))), (f2, .inr (kA 6, kA 1, 6, 60, .inl fco))]) [(7, .int (nI v7_90_324)), (6, .int 1), (5, .int (nI v5_11_318)), (0, .ref g), (1, .ref s), (2, .ref f), (3, .int bk), (4, .int (nI wt))] 0 0 90 [] := by
            intro m90_324
            induction m90_324 with
            | zero =>
              intro v7_90_324 fg2_90_324 i90_324_0 i90_324_1 i90_324_2 hm90_324
              exact absurd hm90_324 (Nat.not_lt_zero _)
            | succ m90_324 ih90_324 =>
              intro v7_90_324 fg2_90_324 i90_324_0 i90_324_1 i90_324_2 hm90_324
              refine j_iload h 0 rfl dX3_fillLetters_90 ?_
              refine j_iload h 7 rfl dX3_fillLetters_92 ?_
              refine j_icmp_ge h 159 dX3_fillLetters_94 (by decide) (fun z2935 => ?_) (fun z2935 => ?_)
              · have z2935n : wt ≤ v7_90_324 := (nI_leI (a := wt) (b := v7_90_324) (by omega) (by omega)).mp z2935
                refine j_iinc (v := nI (v5_11_318 + 1)) (lv' := [(5, .int (nI (v5_11_318 + 1))), (7, .int (nI v7_90_324)), (6, .int 1), (0, .ref g), (1, .ref s), (2, .ref f), (3, .int bk), (4, .int (nI wt))]) h dX3_fillLetters_159 2 rfl (nI_add v5_11_318 1) (by decide) rfl ?_
                refine j_goto h 11 dX3_fillLetters_162 (by decide) ?_
                refine jm_sub [0, 1, 2, 3, 4, 5, 6, 7, 8, 9, 10, 11] (w' := [(g, .inl (.inr (3, [.ref g0, .ref g1, .ref g2, .ref g3, .ref g4, .ref g5, .ref g6, .ref g7, .int (nI sl), .int gt0, .int gm0]))), (g0, .inl (.inl (kA 1, 10, .inl (upd fg0_11_318 v5_11_318 (nI t2901))))), (g1, .inr (kA 6, kA 1, 10, 2, .inl (upG (upG fg1_11_318 v5_11_318 0 (pm t2905)) v5_11_318 1 (pm t2908)))), (g2, .inr (kA 6, kA 1, 10, 60, .inl fg2_90_324)), (s, .inl (.inr (5, [.ref s0, .ref s1, .ref s2, .ref s3, .ref s4, .ref s5, .ref s6, .ref s7, .ref s8, .ref s9, .ref s10, .ref s11, .int (nI sn), .int (nI sl), .int (nI se)]))), (s5, .inl (.inl (kA 1, 10, .inl sc5))), (s6, .inr (kA 6, kA 1, 10, 5, .inl sc6)), (s7, .inl (.inl (kA 1, 10, .inl sc7))), (s8, .inr (kA 6, kA 1, 10, 2, .inl sc8)), (f, .inl (.inr (3, [.ref f0, .ref f1, .ref f2, .ref f3, .ref f4, .ref f5, .ref f6, .ref f7, .int (nI fn), .int ft0, .int fm0]))), (f0, .inl (.inl (kA 1, 6, .inl ftk))), (f2, .inr (kA 6, kA 1, 6, 60, .inl fco))]) rfl (by decide +kernel) [0, 3, 4, 5, 6, 7] (lv' := [(5, .int (nI (v5_11_318 + 1))), (0, .ref g), (1, .ref s), (2, .ref f), (3, .int bk), (4, .int (nI wt))]) rfl ?_
                exact ih11_318 (v5_11_318 + 1) (upd fg0_11_318 v5_11_318 (nI t2901)) (upG (upG fg1_11_318 v5_11_318 0 (pm t2905)) v5_11_318 1 (pm t2908)) fg2_90_324 (show LtOk (v5_11_318 + 1) (upd fg0_11_318 v5_11_318 (nI t2901)) by first | exact LtOk_step (by assumption) (by omega) (by omega) | assumption | exact LtOk_0 _ | omega) (show FtOk (v5_11_318 + 1) (upG (upG fg1_11_318 v5_11_318 0 (pm t2905)) v5_11_318 1 (pm t2908)) by first | assumption | exact ml_la (by assumption) (by omega) (by omega) | exact FtOk_0 _ | omega) (show CoOk (v5_11_318 + 1) wt (upd fg0_11_318 v5_11_318 (nI t2901)) fg2_90_324 by first | assumption | exact CoOk_tk (by assumption) | exact CoOk_next (by assumption) (by assumption) (by omega) | exact CoOk_up (by assumption) | exact CoOk_0 _ _ _ | exact CoOk_next (by assumption) (by assumption) (by omega) | omega) (show (v5_11_318 + 1) ≤ sl by first | assumption | omega) (show (v5_11_318 + 1) ≤ 100000 by first | assumption | omega) (show 100001 - (v5_11_318 + 1) < m11_318 by first | exact Nat.lt_of_lt_of_le (Nat.sub_lt_sub_left (Nat.lt_of_le_of_lt (show v5_11_318 ≤ 100000 by assumption) (Nat.lt_succ_self 100000)) (Nat.lt_succ_self v5_11_318)) (Nat.le_of_lt_succ hm11_318) | omega)
              · have z2935n : ¬ wt ≤ v7_90_324 := fun q9 => z2935 ((nI_leI (a := wt) (b := v7_90_324) (by omega) (by omega)).mpr q9)
                refine j_iload h 0 rfl dX3_fillLetters_97 ?_
                refine j_aload_n h 3 rfl rfl dX3_fillLetters_99 ?_
                refine jm_get h iw_X3 0 rfl rfl 0 (by decide +kernel) tw_377 rfl dX3_fillLetters_100 ?_
                refine j_iload h 2 rfl dX3_fillLetters_103 ?_
                refine jm_iald h 1 rfl v5_11_318 rfl (by omega) (by omega) dX3_fillLetters_105 ?_
                refine j_top (b := (nI t2901)) (pk_us) ?_
                refine j_iadd h dX3_fillLetters_106 ?_
                refine j_top (b := nI (v7_90_324 + t2901)) (nI_add v7_90_324 t2901) ?_
                refine j_iload h 7 rfl dX3_fillLetters_107 ?_
                refine j_icmp_gt h 116 dX3_fillLetters_109 (by decide) (fun z2936 => ?_) (fun z2936 => ?_)
                · have z2936n : wt < (v7_90_324 + t2901) := (nI_ltI (a := wt) (b := (v7_90_324 + t2901)) (by omega) (by omega)).mp z2936
                  refine j_iconst (v := 0) h (by decide) dX3_fillLetters_116 ?_
                  refine j_istore (lv' := [(8, .int 0), (7, .int (nI v7_90_324)), (6, .int 1), (5, .int (nI v5_11_318)), (0, .ref g), (1, .ref s), (2, .ref f), (3, .int bk), (4, .int (nI wt))]) h dX3_fillLetters_117 (by decide) rfl ?_
                  refine j_aload_n h 4 rfl rfl dX3_fillLetters_119 ?_
                  refine jm_get h iw_X3 0 rfl rfl 2 (by decide +kernel) tw_381 rfl dX3_fillLetters_120 ?_
                  refine j_iload h 3 rfl dX3_fillLetters_123 ?_
                  refine jm_gout h 3 6 rfl rfl v5_11_318 rfl (by omega) (by omega) dX3_fillLetters_125 ?_
                  refine j_iload h 1 rfl dX3_fillLetters_126 ?_
                  refine j_iload h 2 rfl dX3_fillLetters_128 ?_
                  refine j_if_eq h 150 dX3_fillLetters_130 (by decide) (fun q => absurd q (by decide)) (fun _ => ?_)
                  refine j_iload h 0 rfl dX3_fillLetters_133 ?_
                  refine j_if_eq h 150 dX3_fillLetters_135 (by decide) (fun _ => ?_) (fun q => absurd (by decide) q)
                  refine j_bipush (v := 100) h (by decide) dX3_fillLetters_150 ?_
                  refine jm_gast (w' := [(g, .inl (.inr (3, [.ref g0, .ref g1, .ref g2, .ref g3, .ref g4, .ref g5, .ref g6, .ref g7, .int (nI sl), .int gt0, .int gm0]))), (g0, .inl (.inl (kA 1, 10, .inl (upd fg0_11_318 v5_11_318 (nI t2901))))), (g1, .inr (kA 6, kA 1, 10, 2, .inl (upG (upG fg1_11_318 v5_11_318 0 (pm t2905)) v5_11_318 1 (pm t2908)))), (g2, .inr (kA 6, kA 1, 10, 60, .inl (upG fg2_90_324 v5_11_318 v7_90_324 100))), (s, .inl (.inr (5, [.ref s0, .ref s1, .ref s2, .ref s3, .ref s4, .ref s5, .ref s6, .ref s7, .ref s8, .ref s9, .ref s10, .ref s11, .int (nI sn), .int (nI sl), .int (nI se)]))), (s5, .inl (.inl (kA 1, 10, .inl sc5))), (s6, .inr (kA 6, kA 1, 10, 5, .inl sc6)), (s7, .inl (.inl (kA 1, 10, .inl sc7))), (s8, .inr (kA 6, kA 1, 10, 2, .inl sc8)), (f, .inl (.inr (3, [.ref f0, .ref f1, .ref f2, .ref f3, .ref f4, .ref f5, .ref f6, .ref f7, .int (nI fn), .int ft0, .int fm0]))), (f0, .inl (.inl (kA 1, 6, .inl ftk))), (f2, .inr (kA 6, kA 1, 6, 60, .inl fco))]) h 3 rfl v5_11_318 (by omega) v7_90_324 rfl (by omega) (by omega) dX3_fillLetters_152 rfl ?_
                  refine j_iinc (v := nI (v7_90_324 + 1)) (lv' := [(7, .int (nI (v7_90_324 + 1))), (8, .int 0), (6, .int 1), (5, .int (nI v5_11_318)), (0, .ref g), (1, .ref s), (2, .ref f), (3, .int bk), (4, .int (nI wt))]) h dX3_fillLetters_153 1 rfl (nI_add v7_90_324 1) (by decide) rfl ?_
                  refine j_goto h 90 dX3_fillLetters_156 (by decide) ?_
                  refine jm_sub [0, 1, 2, 3, 4, 5, 6, 7, 8, 9, 10, 11] (w' := [(g, .inl (.inr (3, [.ref g0, .ref g1, .ref g2, .ref g3, .ref g4, .ref g5, .ref g6, .ref g7, .int (nI sl), .int gt0, .int gm0]))), (g0, .inl (.inl (kA 1, 10, .inl (upd fg0_11_318 v5_11_318 (nI t2901))))), (g1, .inr (kA 6, kA 1, 10, 2, .inl (upG (upG fg1_11_318 v5_11_318 0 (pm t2905)) v5_11_318 1 (pm t2908)))), (g2, .inr (kA 6, kA 1, 10, 60, .inl (upG fg2_90_324 v5_11_318 v7_90_324 100))), (s, .inl (.inr (5, [.ref s0, .ref s1, .ref s2, .ref s3, .ref s4, .ref s5, .ref s6, .ref s7, .ref s8, .ref s9, .ref s10, .ref s11, .int (nI sn), .int (nI sl), .int (nI se)]))), (s5, .inl (.inl (kA 1, 10, .inl sc5))), (s6, .inr (kA 6, kA 1, 10, 5, .inl sc6)), (s7, .inl (.inl (kA 1, 10, .inl sc7))), (s8, .inr (kA 6, kA 1, 10, 2, .inl sc8)), (f, .inl (.inr (3, [.ref f0, .ref f1, .ref f2, .ref f3, .ref f4, .ref f5, .ref f6, .ref f7, .int (nI fn), .int ft0, .int fm0]))), (f0, .inl (.inl (kA 1, 6, .inl ftk))), (f2, .inr (kA 6, kA 1, 6, 60, .inl fco))]) rfl (by decide +kernel) [0, 2, 3, 4, 5, 6, 7, 8] (lv' := [(7, .int (nI (v7_90_324 + 1))), (6, .int 1), (5, .int (nI v5_11_318)), (0, .ref g), (1, .ref s), (2, .ref f), (3, .int bk), (4, .int (nI wt))]) rfl ?_
                  exact ih90_324 (v7_90_324 + 1) (upG fg2_90_324 v5_11_318 v7_90_324 100) (show CoOk v5_11_318 wt (upd fg0_11_318 v5_11_318 (nI t2901)) (upG fg2_90_324 v5_11_318 v7_90_324 100) by first | exact CoOk_tk (by assumption) | exact CoOk_up (by assumption) | assumption | exact CoOk_next (by assumption) (by assumption) (by omega) | exact CoOk_0 _ _ _ | exact CoOk_next (by assumption) (by assumption) (by omega) | omega) (show CoRow v5_11_318 (v7_90_324 + 1) wt (upd fg0_11_318 v5_11_318 (nI t2901)) (upG fg2_90_324 v5_11_318 v7_90_324 100) from CoRow_up (c := 100) (by assumption) (by omega) (by first | (intro hc9; exact absurd hc9 (by omega)) | (intro _; exact co_fit (by first | exact pk_us | assumption) (by omega) (by omega)))) (show (v7_90_324 + 1) ≤ 100000 by first | assumption | omega) (show 100001 - (v7_90_324 + 1) < m90_324 by first | exact Nat.lt_of_lt_of_le (Nat.sub_lt_sub_left (Nat.lt_of_le_of_lt (show v7_90_324 ≤ 100000 by assumption) (Nat.lt_succ_self 100000)) (Nat.lt_succ_self v7_90_324)) (Nat.le_of_lt_succ hm90_324) | omega)
                · have z2936n : ¬ wt < (v7_90_324 + t2901) := fun q9 => z2936 ((nI_ltI (a := wt) (b := (v7_90_324 + t2901)) (by omega) (by omega)).mpr q9)
                  refine j_iconst (v := 1) h (by decide) dX3_fillLetters_112 ?_
                  refine j_goto h 117 dX3_fillLetters_113 (by decide) ?_
                  refine j_istore (lv' := [(8, .int 1), (7, .int (nI v7_90_324)), (6, .int 1), (5, .int (nI v5_11_318)), (0, .ref g), (1, .ref s), (2, .ref f), (3, .int bk), (4, .int (nI wt))]) h dX3_fillLetters_117 (by decide) rfl ?_
                  refine j_aload_n h 4 rfl rfl dX3_fillLetters_119 ?_
                  refine jm_get h iw_X3 0 rfl rfl 2 (by decide +kernel) tw_381 rfl dX3_fillLetters_120 ?_
                  refine j_iload h 3 rfl dX3_fillLetters_123 ?_
                  refine jm_gout h 3 6 rfl rfl v5_11_318 rfl (by omega) (by omega) dX3_fillLetters_125 ?_
                  refine j_iload h 1 rfl dX3_fillLetters_126 ?_
                  refine j_iload h 2 rfl dX3_fillLetters_128 ?_
                  refine j_if_eq h 150 dX3_fillLetters_130 (by decide) (fun q => absurd q (by decide)) (fun _ => ?_)
                  refine j_iload h 0 rfl dX3_fillLetters_133 ?_
                  refine j_if_eq h 150 dX3_fillLetters_135 (by decide) (fun q => absurd q (by decide)) (fun _ => ?_)
                  refine j_aload_n h 5 rfl rfl dX3_fillLetters_138 ?_
                  refine j_aload_n h 6 rfl rfl dX3_fillLetters_139 ?_
                  refine j_iload h 3 rfl dX3_fillLetters_140 ?_
                  refine j_iload h 1 rfl dX3_fillLetters_142 ?_
                  obtain ⟨c2937, u2938, u2939, u2940⟩ := hssz v5_11_318 (by omega)
                  have u2941 := hlsf v5_11_318 c2937 (by omega) u2940 u2939
                  have u2941b := tsum_le hftk (fun j9 hj9 => hsrw v5_11_318 j9 c2937 (by omega) u2940 u2939 hj9) hsn (i := c2937) (Nat.le_refl _)
                  have u2941c := (nI_eq (by omega) (by omega)).mp (u2904.symm.trans u2941)
                  refine jm_callSi (np := 4) (isC := [4, 5, 6, 9, 10, 11]) (isR := [0, 1, 2, 3, 7, 8]) (wc := [(s, .inl (.inr (5, [.ref s0, .ref s1, .ref s2, .ref s3, .ref s4, .ref s5, .ref s6, .ref s7, .ref s8, .ref s9, .ref s10, .ref s11, .int (nI sn), .int (nI sl), .int (nI se)]))), (s5, .inl (.inl (kA 1, 10, .inl sc5))), (s6, .inr (kA 6, kA 1, 10, 5, .inl sc6)), (f, .inl (.inr (3, [.ref f0, .ref f1, .ref f2, .ref f3, .ref f4, .ref f5, .ref f6, .ref f7, .int (nI fn), .int ft0, .int fm0]))), (f0, .inl (.inl (kA 1, 6, .inl ftk))), (f2, .inr (kA 6, kA 1, 6, 60, .inl fco))]) (wr := [(g, .inl (.inr (3, [.ref g0, .ref g1, .ref g2, .ref g3, .ref g4, .ref g5, .ref g6, .ref g7, .int (nI sl), .int gt0, .int gm0]))), (g0, .inl (.inl (kA 1, 10, .inl (upd fg0_11_318 v5_11_318 (nI t2901))))), (g1, .inr (kA 6, kA 1, 10, 2, .inl (upG (upG fg1_11_318 v5_11_318 0 (pm t2905)) v5_11_318 1 (pm t2908)))), (g2, .inr (kA 6, kA 1, 10, 60, .inl fg2_90_324)), (s7, .inl (.inl (kA 1, 10, .inl sc7))), (s8, .inr (kA 6, kA 1, 10, 2, .inl sc8))]) (rest := [.int (nI v7_90_324), .ref (g2 + 1 + v5_11_318)]) (As := [.ref s, .ref f, .int (nI v5_11_318), .int (nI v7_90_324)]) h (s_X3_letterCost _ _ kA s f v5_11_318 v7_90_324 s0 s1 s2 s3 s4 s5 s6 s7 s8 s9 s10 s11 sn sl se sc5 sc6 f0 f1 f2 f3 f4 f5 f6 f7 fn ft0 fm0 ftk fco wt c2937 (show sn ≤ 6 by first | assumption | omega) (show sl ≤ 10 by first | assumption | omega) (show se ≤ 4 by first | assumption | omega) (show SzOk sl sc5 by first | assumption | omega) (show RwOk sl sn sc5 sc6 by first | assumption | omega) (show fn = sn by first | assumption | omega) (show TkOk sn ftk by first | assumption | omega) (show CoOk sn wt ftk fco by first | assumption | exact CoOk_tk (by assumption) | exact CoOk_next (by assumption) (by assumption) (by omega) | exact CoOk_up (by assumption) | exact CoOk_0 _ _ _ | exact CoOk_next (by assumption) (by assumption) (by omega) | omega) (show wt ≤ 60 by first | assumption | omega) (show v5_11_318 < sl by first | assumption | omega) (show c2937 ≤ 5 by first | assumption | omega) (show sc5 v5_11_318 = nI c2937 by first | assumption | omega) (show v7_90_324 + tsum ftk (sc6 v5_11_318) c2937 ≤ wt by first | assumption | omega)) tw_859 tw_860 tw_95 tw_861 (by decide +kernel) rfl ⟨Nat.le_of_ble_eq_true rfl, Nat.le_of_ble_eq_true rfl⟩ (by decide +kernel) rfl rfl (by decide +kernel) (by decide +kernel) (Nat.le_of_ble_eq_true rfl) rfl ⟨Nat.le_of_ble_eq_true rfl, Nat.le_of_ble_eq_true rfl⟩ dX3_fillLetters_144 ?_
                  rintro r2944 q2942 e2943
                  obtain ⟨p2945, p2946⟩ := e2943
                  subst p2945
                  replace p2946 : q2942 ≤ 100 := p2946
                  show J x (mflat [(g, .inl (.inr (3, [.ref g0, .ref g1, .ref g2, .ref g3, .ref g4, .ref g5, .ref g6, .ref g7, .int (nI sl), .int gt0, .int gm0]))), (g0, .inl (.inl (kA 1, 10, .inl (upd fg0_11_318 v5_11_318 (nI t2901))))), (g1, .inr (kA 6, kA 1, 10, 2, .inl (upG (upG fg1_11_318 v5_11_318 0 (pm t2905)) v5_11_318 1 (pm t2908)))), (g2, .inr (kA 6, kA 1, 10, 60, .inl fg2_90_324)), (s7, .inl (.inl (kA 1, 10, .inl sc7))), (s8, .inr (kA 6, kA 1, 10, 2, .inl sc8)), (s, .inl (.inr (5, [.ref s0, .ref s1, .ref s2, .ref s3, .ref s4, .ref s5, .ref s6, .ref s7, .ref s8, .ref s9, .ref s10, .ref s11, .int (nI sn), .int (nI sl), .int (nI se)]))), (s5, .inl (.inl (kA 1, 10, .inl sc5))), (s6, .inr (kA 6, kA 1, 10, 5, .inl sc6)), (f, .inl (.inr (3, [.ref f0, .ref f1, .ref f2, .ref f3, .ref f4, .ref f5, .ref f6, .ref f7, .int (nI fn), .int ft0, .int fm0]))), (f0, .inl (.inl (kA 1, 6, .inl ftk))), (f2, .inr (kA 6, kA 1, 6, 60, .inl fco))]) [(8, .int 1), (7, .int (nI v7_90_324)), (6, .int 1), (5, .int (nI v5_11_318)), (0, .ref g), (1, .ref s), (2, .ref f), (3, .int bk), (4, .int (nI wt))] 0 0 147 [.int (nI q2942), .int (nI v7_90_324), .ref (g2 + 1 + v5_11_318)]
                  refine j_goto h 152 dX3_fillLetters_147 (by decide) ?_
                  refine jm_gast (w' := [(g, .inl (.inr (3, [.ref g0, .ref g1, .ref g2, .ref g3, .ref g4, .ref g5, .ref g6, .ref g7, .int (nI sl), .int gt0, .int gm0]))), (g0, .inl (.inl (kA 1, 10, .inl (upd fg0_11_318 v5_11_318 (nI t2901))))), (g1, .inr (kA 6, kA 1, 10, 2, .inl (upG (upG fg1_11_318 v5_11_318 0 (pm t2905)) v5_11_318 1 (pm t2908)))), (g2, .inr (kA 6, kA 1, 10, 60, .inl (upG fg2_90_324 v5_11_318 v7_90_324 (nI q2942)))), (s7, .inl (.inl (kA 1, 10, .inl sc7))), (s8, .inr (kA 6, kA 1, 10, 2, .inl sc8)), (s, .inl (.inr (5, [.ref s0, .ref s1, .ref s2, .ref s3, .ref s4, .ref s5, .ref s6, .ref s7, .ref s8, .ref s9, .ref s10, .ref s11, .int (nI sn), .int (nI sl), .int (nI se)]))), (s5, .inl (.inl (kA 1, 10, .inl sc5))), (s6, .inr (kA 6, kA 1, 10, 5, .inl sc6)), (f, .inl (.inr (3, [.ref f0, .ref f1, .ref f2, .ref f3, .ref f4, .ref f5, .ref f6, .ref f7, .int (nI fn), .int ft0, .int fm0]))), (f0, .inl (.inl (kA 1, 6, .inl ftk))), (f2, .inr (kA 6, kA 1, 6, 60, .inl fco))]) h 3 rfl v5_11_318 (by omega) v7_90_324 rfl (by omega) (by omega) dX3_fillLetters_152 rfl ?_
                  refine j_iinc (v := nI (v7_90_324 + 1)) (lv' := [(7, .int (nI (v7_90_324 + 1))), (8, .int 1), (6, .int 1), (5, .int (nI v5_11_318)), (0, .ref g), (1, .ref s), (2, .ref f), (3, .int bk), (4, .int (nI wt))]) h dX3_fillLetters_153 1 rfl (nI_add v7_90_324 1) (by decide) rfl ?_
                  refine j_goto h 90 dX3_fillLetters_156 (by decide) ?_
                  refine jm_sub [0, 1, 2, 3, 6, 7, 8, 4, 5, 9, 10, 11] (w' := [(g, .inl (.inr (3, [.ref g0, .ref g1, .ref g2, .ref g3, .ref g4, .ref g5, .ref g6, .ref g7, .int (nI sl), .int gt0, .int gm0]))), (g0, .inl (.inl (kA 1, 10, .inl (upd fg0_11_318 v5_11_318 (nI t2901))))), (g1, .inr (kA 6, kA 1, 10, 2, .inl (upG (upG fg1_11_318 v5_11_318 0 (pm t2905)) v5_11_318 1 (pm t2908)))), (g2, .inr (kA 6, kA 1, 10, 60, .inl (upG fg2_90_324 v5_11_318 v7_90_324 (nI q2942)))), (s, .inl (.inr (5, [.ref s0, .ref s1, .ref s2, .ref s3, .ref s4, .ref s5, .ref s6, .ref s7, .ref s8, .ref s9, .ref s10, .ref s11, .int (nI sn), .int (nI sl), .int (nI se)]))), (s5, .inl (.inl (kA 1, 10, .inl sc5))), (s6, .inr (kA 6, kA 1, 10, 5, .inl sc6)), (s7, .inl (.inl (kA 1, 10, .inl sc7))), (s8, .inr (kA 6, kA 1, 10, 2, .inl sc8)), (f, .inl (.inr (3, [.ref f0, .ref f1, .ref f2, .ref f3, .ref f4, .ref f5, .ref f6, .ref f7, .int (nI fn), .int ft0, .int fm0]))), (f0, .inl (.inl (kA 1, 6, .inl ftk))), (f2, .inr (kA 6, kA 1, 6, 60, .inl fco))]) rfl (by decide +kernel) [0, 2, 3, 4, 5, 6, 7, 8] (lv' := [(7, .int (nI (v7_90_324 + 1))), (6, .int 1), (5, .int (nI v5_11_318)), (0, .ref g), (1, .ref s), (2, .ref f), (3, .int bk), (4, .int (nI wt))]) rfl ?_
                  exact ih90_324 (v7_90_324 + 1) (upG fg2_90_324 v5_11_318 v7_90_324 (nI q2942)) (show CoOk v5_11_318 wt (upd fg0_11_318 v5_11_318 (nI t2901)) (upG fg2_90_324 v5_11_318 v7_90_324 (nI q2942)) by first | exact CoOk_tk (by assumption) | exact CoOk_up (by assumption) | assumption | exact CoOk_next (by assumption) (by assumption) (by omega) | exact CoOk_0 _ _ _ | exact CoOk_next (by assumption) (by assumption) (by omega) | omega) (show CoRow v5_11_318 (v7_90_324 + 1) wt (upd fg0_11_318 v5_11_318 (nI t2901)) (upG fg2_90_324 v5_11_318 v7_90_324 (nI q2942)) from CoRow_up (c := q2942) (by assumption) (by omega) (by first | (intro hc9; exact absurd hc9 (by omega)) | (intro _; exact co_fit (by first | exact pk_us | assumption) (by omega) (by omega)))) (show (v7_90_324 + 1) ≤ 100000 by first | assumption | omega) (show 100001 - (v7_90_324 + 1) < m90_324 by first | exact Nat.lt_of_lt_of_le (Nat.sub_lt_sub_left (Nat.lt_of_le_of_lt (show v7_90_324 ≤ 100000 by assumption) (Nat.lt_succ_self 100000)) (Nat.lt_succ_self v7_90_324)) (Nat.le_of_lt_succ hm90_324) | omega)
          refine jm_sub [0, 1, 2, 3, 4, 5, 6, 7, 8, 9, 10, 11] (w' := [(g, .inl (.inr (3, [.ref g0, .ref g1, .ref g2, .ref g3, .ref g4, .ref g5, .ref g6, .ref g7, .int (nI sl), .int gt0, .int gm0]))), (g0, .inl (.inl (kA 1, 10, .inl (upd fg0_11_318 v5_11_318 (nI t2901))))), (g1, .inr (kA 6, kA 1, 10, 2, .inl (upG (upG fg1_11_318 v5_11_318 0 (pm t2905)) v5_11_318 1 (pm t2908)))), (g2, .inr (kA 6, kA 1, 10, 60, .inl fg2_11_318)), (s, .inl (.inr (5, [.ref s0, .ref s1, .ref s2, .ref s3, .ref s4, .ref s5, .ref s6, .ref s7, .ref s8, .ref s9, .ref s10, .ref s11, .int (nI sn), .int (nI sl), .int (nI se)]))), (s5, .inl (.inl (kA 1, 10, .inl sc5))), (s6, .inr (kA 6, kA 1, 10, 5, .inl sc6)), (s7, .inl (.inl (kA 1, 10, .inl sc7))), (s8, .inr (kA 6, kA 1, 10, 2, .inl sc8)), (f, .inl (.inr (3, [.ref f0, .ref f1, .ref f2, .ref f3, .ref f4, .ref f5, .ref f6, .ref f7, .int (nI fn), .int ft0, .int fm0]))), (f0, .inl (.inl (kA 1, 6, .inl ftk))), (f2, .inr (kA 6, kA 1, 6, 60, .inl fco))]) rfl (by decide +kernel) [0, 1, 2, 3, 4, 5, 6, 7] (lv' := [(7, .int 0), (6, .int 1), (5, .int (nI v5_11_318)), (0, .ref g), (1, .ref s), (2, .ref f), (3, .int bk), (4, .int (nI wt))]) rfl ?_
          exact lp90_324 (100001 - 0 + 1) 0 fg2_11_318 (show CoOk v5_11_318 wt (upd fg0_11_318 v5_11_318 (nI t2901)) fg2_11_318 by first | exact CoOk_tk (by assumption) | assumption | exact CoOk_next (by assumption) (by assumption) (by omega) | exact CoOk_up (by assumption) | exact CoOk_0 _ _ _ | exact CoOk_next (by assumption) (by assumption) (by omega) | omega) (show CoRow v5_11_318 0 wt (upd fg0_11_318 v5_11_318 (nI t2901)) fg2_11_318 by first | assumption | exact CoRow_0 _ _ _ _ | omega) (show 0 ≤ 100000 by first | assumption | omega) (Nat.lt_succ_self _)
  refine jm_sub [0, 1, 2, 3, 4, 5, 6, 7, 8, 9, 10, 11] (w' := [(g, .inl (.inr (3, [.ref g0, .ref g1, .ref g2, .ref g3, .ref g4, .ref g5, .ref g6, .ref g7, .int (nI sl), .int gt0, .int gm0]))), (g0, .inl (.inl (kA 1, 10, .inl gtk))), (g1, .inr (kA 6, kA 1, 10, 2, .inl gaf)), (g2, .inr (kA 6, kA 1, 10, 60, .inl gco)), (s, .inl (.inr (5, [.ref s0, .ref s1, .ref s2, .ref s3, .ref s4, .ref s5, .ref s6, .ref s7, .ref s8, .ref s9, .ref s10, .ref s11, .int (nI sn), .int (nI sl), .int (nI se)]))), (s5, .inl (.inl (kA 1, 10, .inl sc5))), (s6, .inr (kA 6, kA 1, 10, 5, .inl sc6)), (s7, .inl (.inl (kA 1, 10, .inl sc7))), (s8, .inr (kA 6, kA 1, 10, 2, .inl sc8)), (f, .inl (.inr (3, [.ref f0, .ref f1, .ref f2, .ref f3, .ref f4, .ref f5, .ref f6, .ref f7, .int (nI fn), .int ft0, .int fm0]))), (f0, .inl (.inl (kA 1, 6, .inl ftk))), (f2, .inr (kA 6, kA 1, 6, 60, .inl fco))]) rfl (by decide +kernel) [0, 1, 2, 3, 4, 5] (lv' := [(5, .int 0), (0, .ref g), (1, .ref s), (2, .ref f), (3, .int bk), (4, .int (nI wt))]) rfl ?_
  exact lp11_318 (100001 - 0 + 1) 0 gtk gaf gco (show LtOk 0 gtk by first | assumption | exact LtOk_0 _ | exact LtOk_step (by assumption) (by omega) (by omega) | omega) (show FtOk 0 gaf by first | assumption | exact FtOk_0 _ | exact ml_la (by assumption) (by omega) (by omega) | omega) (show CoOk 0 wt gtk gco by first | assumption | exact CoOk_0 _ _ _ | exact CoOk_tk (by assumption) | exact CoOk_next (by assumption) (by assumption) (by omega) | exact CoOk_up (by assumption) | exact CoOk_next (by assumption) (by assumption) (by omega) | omega) (show 0 ≤ sl by first | assumption | omega) (show 0 ≤ 100000 by first | assumption | omega) (Nat.lt_succ_self _)
