theorem RoOk_one (t : Nat) (f : Nat → Int32) : RoOk (t + 1) 1 (upd f 0 0) := fun i hi => by
  have e : i = 0 := by omega
  subst e
  exact ⟨0, by omega, pk_us⟩
def WkOk (s : Nat) (f : Nat → Int32) : Prop := ∀ i, i < s → ∃ m, m ≤ 6 ∧ f i = pm m
theorem WkOk_one (f : Nat → Int32) : WkOk 1 (upd f 0 (-1)) := fun i hi => by
  have e : i = 0 := by omega
  subst e
  exact ⟨0, by decide, pk_us⟩
theorem WkOk_mono {s s' : Nat} {f : Nat → Int32} (h : WkOk s f) (hs : s' ≤ s) : WkOk s' f := fun i hi => h i (by omega)
theorem WkOk_step {s k : Nat} {f : Nat → Int32} (h : WkOk (s + 1) f) (hk : k < 6) : WkOk (s + 1 + 1) (upd (upd f s (nI k)) (s + 1) (-1)) := fun i hi => by
  by_cases e : i = s + 1
  · subst e
    exact ⟨0, by decide, pk_us⟩
  · rw [pk_un e]
    by_cases e2 : i = s
    · subst e2
      exact ⟨k + 1, by omega, pk_us⟩
    · rw [pk_un e2]
      exact h i (by omega)
theorem dX4_matching_0 : decode cX4_matching 0 = .ok (.iload_n 1, 1) := by decide +kernel
theorem dX4_matching_1 : decode cX4_matching 1 = .ok (.aload_n 0, 1) := by decide +kernel
theorem dX4_matching_2 : decode cX4_matching 2 = .ok (.arraylength, 1) := by decide +kernel
theorem dX4_matching_3 : decode cX4_matching 3 = .ok (.invokestatic 61, 3) := by decide +kernel
theorem tw_928 : Cond.methodLink RX4 61 yJ9_min_7cf53 ∈ TT := nx_mem 928 (by decide +kernel) (by decide +kernel)
theorem dX4_matching_6 : decode cX4_matching 6 = .ok (.iload 4, 2) := by decide +kernel
theorem dX4_matching_8 : decode cX4_matching 8 = .ok (.aload_n 2, 1) := by decide +kernel
theorem dX4_matching_9 : decode cX4_matching 9 = .ok (.arraylength, 1) := by decide +kernel
theorem dX4_matching_10 : decode cX4_matching 10 = .ok (.invokestatic 61, 3) := by decide +kernel
theorem dX4_matching_13 : decode cX4_matching 13 = .ok (.iload_n 3, 1) := by decide +kernel
theorem dX4_matching_14 : decode cX4_matching 14 = .ok (.isub, 1) := by decide +kernel
theorem dX4_matching_15 : decode cX4_matching 15 = .ok (.invokestatic 61, 3) := by decide +kernel
theorem dX4_matching_18 : decode cX4_matching 18 = .ok (.istore 5, 2) := by decide +kernel
theorem dX4_matching_20 : decode cX4_matching 20 = .ok (.iconst 0, 1) := by decide +kernel
theorem dX4_matching_21 : decode cX4_matching 21 = .ok (.istore 6, 2) := by decide +kernel
theorem dX4_matching_23 : decode cX4_matching 23 = .ok (.iload 6, 2) := by decide +kernel
theorem dX4_matching_25 : decode cX4_matching 25 = .ok (.iload 5, 2) := by decide +kernel
theorem dX4_matching_27 : decode cX4_matching 27 = .ok (.if_icmp .ge 25, 3) := by decide +kernel
theorem dX4_matching_52 : decode cX4_matching 52 = .ok (.iload 5, 2) := by decide +kernel
theorem dX4_matching_54 : decode cX4_matching 54 = .ok (.iconst 0, 1) := by decide +kernel
theorem dX4_matching_55 : decode cX4_matching 55 = .ok (.invokestatic 66, 3) := by decide +kernel
theorem tw_929 : Cond.methodLink RX4 66 yJ9_max_7cf53 ∈ TT := nx_mem 929 (by decide +kernel) (by decide +kernel)
theorem dX4_matching_58 : decode cX4_matching 58 = .ok (.ireturn, 1) := by decide +kernel
theorem dX4_matching_30 : decode cX4_matching 30 = .ok (.aload_n 0, 1) := by decide +kernel
theorem dX4_matching_31 : decode cX4_matching 31 = .ok (.iload 6, 2) := by decide +kernel
theorem dX4_matching_33 : decode cX4_matching 33 = .ok (.iaload, 1) := by decide +kernel
theorem dX4_matching_34 : decode cX4_matching 34 = .ok (.aload_n 2, 1) := by decide +kernel
theorem dX4_matching_35 : decode cX4_matching 35 = .ok (.iload_n 3, 1) := by decide +kernel
theorem dX4_matching_36 : decode cX4_matching 36 = .ok (.iload 6, 2) := by decide +kernel
theorem dX4_matching_38 : decode cX4_matching 38 = .ok (.iadd, 1) := by decide +kernel
theorem dX4_matching_39 : decode cX4_matching 39 = .ok (.iaload, 1) := by decide +kernel
theorem dX4_matching_40 : decode cX4_matching 40 = .ok (.if_icmp .eq 6, 3) := by decide +kernel
theorem dX4_matching_46 : decode cX4_matching 46 = .ok (.iinc 6 1, 3) := by decide +kernel
theorem dX4_matching_49 : decode cX4_matching 49 = .ok (.goto (-26), 3) := by decide +kernel
theorem dX4_matching_43 : decode cX4_matching 43 = .ok (.iload 6, 2) := by decide +kernel
theorem dX4_matching_45 : decode cX4_matching 45 = .ok (.ireturn, 1) := by decide +kernel
theorem dX4_learn_0 : decode cX4_learn 0 = .ok (.aload_n 0, 1) := by decide +kernel
theorem dX4_learn_1 : decode cX4_learn 1 = .ok (.aload_n 1, 1) := by decide +kernel
theorem dX4_learn_2 : decode cX4_learn 2 = .ok (.iload_n 3, 1) := by decide +kernel
theorem dX4_learn_3 : decode cX4_learn 3 = .ok (.invokevirtual 27, 3) := by decide +kernel
theorem tw_900 : Cond.methodLink RX4 27 yX5_hasEar ∈ TT := nx_mem 900 (by decide +kernel) (by decide +kernel)
theorem dX4_learn_6 : decode cX4_learn 6 = .ok (.ifCond .eq 12, 3) := by decide +kernel
theorem dX4_learn_18 : decode cX4_learn 18 = .ok (.iconst 0, 1) := by decide +kernel
theorem dX4_learn_19 : decode cX4_learn 19 = .ok (.putfield 36, 3) := by decide +kernel
theorem iw_X4 : ∀ w ∈ u_ws RX4 TX4 5, w ∈ TT := nx_mems _ [426, 428, 430, 432, 434] (by decide +kernel) (by decide +kernel)
theorem tw_425 : Cond.fieldLink RX4 36 "LimpCode$Listener" "book" "I" ∈ TT := nx_mem 425 (by decide +kernel) (by decide +kernel)
theorem dX4_learn_22 : decode cX4_learn 22 = .ok (.iconst 0, 1) := by decide +kernel
theorem dX4_learn_23 : decode cX4_learn 23 = .ok (.istore 4, 2) := by decide +kernel
theorem dX4_learn_25 : decode cX4_learn 25 = .ok (.iload 4, 2) := by decide +kernel
theorem dX4_learn_27 : decode cX4_learn 27 = .ok (.aload_n 1, 1) := by decide +kernel
theorem dX4_learn_28 : decode cX4_learn 28 = .ok (.getfield 40, 3) := by decide +kernel
theorem tw_218 : Cond.fieldLink RX4 40 "LimpCode$School" "stepCount" "I" ∈ TT := nx_mem 218 (by decide +kernel) (by decide +kernel)
theorem dX4_learn_31 : decode cX4_learn 31 = .ok (.if_icmp .ge 25, 3) := by decide +kernel
theorem dX4_learn_56 : decode cX4_learn 56 = .ok (.iconst 0, 1) := by decide +kernel
theorem dX4_learn_57 : decode cX4_learn 57 = .ok (.istore 4, 2) := by decide +kernel
theorem dX4_learn_59 : decode cX4_learn 59 = .ok (.iload 4, 2) := by decide +kernel
theorem dX4_learn_61 : decode cX4_learn 61 = .ok (.aload_n 1, 1) := by decide +kernel
theorem dX4_learn_62 : decode cX4_learn 62 = .ok (.getfield 47, 3) := by decide +kernel
theorem tw_224 : Cond.fieldLink RX4 47 "LimpCode$School" "letterCount" "I" ∈ TT := nx_mem 224 (by decide +kernel) (by decide +kernel)
theorem dX4_learn_65 : decode cX4_learn 65 = .ok (.if_icmp .ge 26, 3) := by decide +kernel
theorem dX4_learn_91 : decode cX4_learn 91 = .ok (.aload_n 0, 1) := by decide +kernel
theorem dX4_learn_92 : decode cX4_learn 92 = .ok (.getfield 23, 3) := by decide +kernel
theorem tw_424 : Cond.fieldLink RX4 23 "LimpCode$Listener" "read" "[J" ∈ TT := nx_mem 424 (by decide +kernel) (by decide +kernel)
theorem dX4_learn_95 : decode cX4_learn 95 = .ok (.iconst 0, 1) := by decide +kernel
theorem dX4_learn_96 : decode cX4_learn 96 = .ok (.lconst 1, 1) := by decide +kernel
theorem dX4_learn_97 : decode cX4_learn 97 = .ok (.lastore, 1) := by decide +kernel
theorem dX4_learn_98 : decode cX4_learn 98 = .ok (.aload_n 0, 1) := by decide +kernel
theorem dX4_learn_99 : decode cX4_learn 99 = .ok (.getfield 23, 3) := by decide +kernel
theorem dX4_learn_102 : decode cX4_learn 102 = .ok (.iconst 1, 1) := by decide +kernel
theorem dX4_learn_103 : decode cX4_learn 103 = .ok (.lconst 0, 1) := by decide +kernel
theorem dX4_learn_104 : decode cX4_learn 104 = .ok (.lastore, 1) := by decide +kernel
theorem dX4_learn_105 : decode cX4_learn 105 = .ok (.return_, 1) := by decide +kernel
theorem dX4_learn_68 : decode cX4_learn 68 = .ok (.aload_n 1, 1) := by decide +kernel
theorem dX4_learn_69 : decode cX4_learn 69 = .ok (.iload 4, 2) := by decide +kernel
theorem dX4_learn_71 : decode cX4_learn 71 = .ok (.aload_n 2, 1) := by decide +kernel
theorem dX4_learn_72 : decode cX4_learn 72 = .ok (.iload_n 3, 1) := by decide +kernel
theorem dX4_learn_73 : decode cX4_learn 73 = .ok (.aload_n 0, 1) := by decide +kernel
theorem dX4_learn_74 : decode cX4_learn 74 = .ok (.getfield 13, 3) := by decide +kernel
theorem tw_421 : Cond.fieldLink RX4 13 "LimpCode$Listener" "letterSounds" "[[I" ∈ TT := nx_mem 421 (by decide +kernel) (by decide +kernel)
theorem dX4_learn_77 : decode cX4_learn 77 = .ok (.iload 4, 2) := by decide +kernel
theorem dX4_learn_79 : decode cX4_learn 79 = .ok (.aaload, 1) := by decide +kernel
theorem dX4_learn_80 : decode cX4_learn 80 = .ok (.iconst 0, 1) := by decide +kernel
theorem dX4_learn_81 : decode cX4_learn 81 = .ok (.invokevirtual 50, 3) := by decide +kernel
theorem tw_902 : Cond.methodLink RX4 50 yX5_hearLetter ∈ TT := nx_mem 902 (by decide +kernel) (by decide +kernel)
theorem dX4_learn_84 : decode cX4_learn 84 = .ok (.pop, 1) := by decide +kernel
theorem dX4_learn_85 : decode cX4_learn 85 = .ok (.iinc 4 1, 3) := by decide +kernel
theorem dX4_learn_88 : decode cX4_learn 88 = .ok (.goto (-29), 3) := by decide +kernel
theorem dX4_learn_34 : decode cX4_learn 34 = .ok (.aload_n 0, 1) := by decide +kernel
theorem dX4_learn_35 : decode cX4_learn 35 = .ok (.getfield 16, 3) := by decide +kernel
theorem tw_422 : Cond.fieldLink RX4 16 "LimpCode$Listener" "stepSounds" "[I" ∈ TT := nx_mem 422 (by decide +kernel) (by decide +kernel)
theorem dX4_learn_38 : decode cX4_learn 38 = .ok (.iload 4, 2) := by decide +kernel
theorem dX4_learn_40 : decode cX4_learn 40 = .ok (.aload_n 1, 1) := by decide +kernel
theorem dX4_learn_41 : decode cX4_learn 41 = .ok (.aload_n 2, 1) := by decide +kernel
theorem dX4_learn_42 : decode cX4_learn 42 = .ok (.iload 4, 2) := by decide +kernel
theorem dX4_learn_44 : decode cX4_learn 44 = .ok (.iaload, 1) := by decide +kernel
theorem dX4_learn_45 : decode cX4_learn 45 = .ok (.iload_n 3, 1) := by decide +kernel
theorem dX4_learn_46 : decode cX4_learn 46 = .ok (.invokevirtual 43, 3) := by decide +kernel
theorem tw_901 : Cond.methodLink RX4 43 yX5_heardBelow ∈ TT := nx_mem 901 (by decide +kernel) (by decide +kernel)
theorem dX4_learn_49 : decode cX4_learn 49 = .ok (.iastore, 1) := by decide +kernel
theorem dX4_learn_50 : decode cX4_learn 50 = .ok (.iinc 4 1, 3) := by decide +kernel
theorem dX4_learn_53 : decode cX4_learn 53 = .ok (.goto (-28), 3) := by decide +kernel
theorem dX4_learn_9 : decode cX4_learn 9 = .ok (.aload_n 1, 1) := by decide +kernel
theorem dX4_learn_10 : decode cX4_learn 10 = .ok (.getfield 33, 3) := by decide +kernel
theorem tw_214 : Cond.fieldLink RX4 33 "LimpCode$School" "books" "[I" ∈ TT := nx_mem 214 (by decide +kernel) (by decide +kernel)
theorem dX4_learn_13 : decode cX4_learn 13 = .ok (.iload_n 3, 1) := by decide +kernel
theorem dX4_learn_14 : decode cX4_learn 14 = .ok (.iaload, 1) := by decide +kernel
theorem dX4_learn_15 : decode cX4_learn 15 = .ok (.goto 4, 3) := by decide +kernel
theorem dX4_soundsSame_0 : decode cX4_soundsSame 0 = .ok (.aload_n 1, 1) := by decide +kernel
theorem dX4_soundsSame_1 : decode cX4_soundsSame 1 = .ok (.getfield 54, 3) := by decide +kernel
theorem tw_201 : Cond.fieldLink RX4 54 "LimpCode$School" "letterTakes" "[I" ∈ TT := nx_mem 201 (by decide +kernel) (by decide +kernel)
theorem dX4_soundsSame_4 : decode cX4_soundsSame 4 = .ok (.iload_n 2, 1) := by decide +kernel
theorem dX4_soundsSame_5 : decode cX4_soundsSame 5 = .ok (.iaload, 1) := by decide +kernel
theorem dX4_soundsSame_6 : decode cX4_soundsSame 6 = .ok (.istore 4, 2) := by decide +kernel
theorem dX4_soundsSame_8 : decode cX4_soundsSame 8 = .ok (.iload 4, 2) := by decide +kernel
theorem dX4_soundsSame_10 : decode cX4_soundsSame 10 = .ok (.aload_n 1, 1) := by decide +kernel
theorem dX4_soundsSame_11 : decode cX4_soundsSame 11 = .ok (.getfield 54, 3) := by decide +kernel
theorem dX4_soundsSame_14 : decode cX4_soundsSame 14 = .ok (.iload_n 3, 1) := by decide +kernel
theorem dX4_soundsSame_15 : decode cX4_soundsSame 15 = .ok (.iaload, 1) := by decide +kernel
theorem dX4_soundsSame_16 : decode cX4_soundsSame 16 = .ok (.if_icmp .ne 32, 3) := by decide +kernel
theorem dX4_soundsSame_48 : decode cX4_soundsSame 48 = .ok (.iconst 0, 1) := by decide +kernel
theorem dX4_soundsSame_49 : decode cX4_soundsSame 49 = .ok (.ireturn, 1) := by decide +kernel
theorem dX4_soundsSame_19 : decode cX4_soundsSame 19 = .ok (.aload_n 0, 1) := by decide +kernel
theorem dX4_soundsSame_20 : decode cX4_soundsSame 20 = .ok (.getfield 13, 3) := by decide +kernel
theorem dX4_soundsSame_23 : decode cX4_soundsSame 23 = .ok (.iload_n 3, 1) := by decide +kernel
theorem dX4_soundsSame_24 : decode cX4_soundsSame 24 = .ok (.aaload, 1) := by decide +kernel
theorem dX4_soundsSame_25 : decode cX4_soundsSame 25 = .ok (.iload 4, 2) := by decide +kernel
theorem dX4_soundsSame_27 : decode cX4_soundsSame 27 = .ok (.aload_n 0, 1) := by decide +kernel
theorem dX4_soundsSame_28 : decode cX4_soundsSame 28 = .ok (.getfield 13, 3) := by decide +kernel
theorem dX4_soundsSame_31 : decode cX4_soundsSame 31 = .ok (.iload_n 2, 1) := by decide +kernel
theorem dX4_soundsSame_32 : decode cX4_soundsSame 32 = .ok (.aaload, 1) := by decide +kernel
theorem dX4_soundsSame_33 : decode cX4_soundsSame 33 = .ok (.iconst 0, 1) := by decide +kernel
theorem dX4_soundsSame_34 : decode cX4_soundsSame 34 = .ok (.iload 4, 2) := by decide +kernel
theorem dX4_soundsSame_36 : decode cX4_soundsSame 36 = .ok (.invokestatic 57, 3) := by decide +kernel
theorem tw_925 : Cond.methodLink RX4 57 yX4_matching ∈ TT := nx_mem 925 (by decide +kernel) (by decide +kernel)
theorem tw_926 : Cond.static yX4_matching ∈ TT := nx_mem 926 (by decide +kernel) (by decide +kernel)
theorem tw_96 : Cond.initialized RX4 ∈ TT := nx_mem 96 (by decide +kernel) (by decide +kernel)
theorem tw_927 : Cond.code yX4_matching cX4_matching 7 (some .int) ∈ TT := nx_mem 927 (by decide +kernel) (by decide +kernel)
theorem dX4_soundsSame_39 : decode cX4_soundsSame 39 = .ok (.iload 4, 2) := by decide +kernel
theorem dX4_soundsSame_41 : decode cX4_soundsSame 41 = .ok (.if_icmp .ne 7, 3) := by decide +kernel
theorem dX4_soundsSame_44 : decode cX4_soundsSame 44 = .ok (.iconst 1, 1) := by decide +kernel
theorem dX4_soundsSame_45 : decode cX4_soundsSame 45 = .ok (.goto 4, 3) := by decide +kernel
theorem dX4_canBeginBy_0 : decode cX4_canBeginBy 0 = .ok (.aload_n 0, 1) := by decide +kernel
theorem dX4_canBeginBy_1 : decode cX4_canBeginBy 1 = .ok (.getfield 23, 3) := by decide +kernel
theorem dX4_canBeginBy_4 : decode cX4_canBeginBy 4 = .ok (.iload 4, 2) := by decide +kernel
theorem dX4_canBeginBy_6 : decode cX4_canBeginBy 6 = .ok (.laload, 1) := by decide +kernel
theorem dX4_canBeginBy_7 : decode cX4_canBeginBy 7 = .ok (.iload_n 3, 1) := by decide +kernel
theorem dX4_canBeginBy_8 : decode cX4_canBeginBy 8 = .ok (.lshr, 1) := by decide +kernel
theorem dX4_canBeginBy_9 : decode cX4_canBeginBy 9 = .ok (.lconst 1, 1) := by decide +kernel
theorem dX4_canBeginBy_10 : decode cX4_canBeginBy 10 = .ok (.land, 1) := by decide +kernel
theorem dX4_canBeginBy_11 : decode cX4_canBeginBy 11 = .ok (.lconst 1, 1) := by decide +kernel
theorem dX4_canBeginBy_12 : decode cX4_canBeginBy 12 = .ok (.lcmp, 1) := by decide +kernel
theorem dX4_canBeginBy_13 : decode cX4_canBeginBy 13 = .ok (.ifCond .ne 20, 3) := by decide +kernel
theorem dX4_canBeginBy_33 : decode cX4_canBeginBy 33 = .ok (.iconst 0, 1) := by decide +kernel
theorem dX4_canBeginBy_34 : decode cX4_canBeginBy 34 = .ok (.ireturn, 1) := by decide +kernel
theorem dX4_canBeginBy_16 : decode cX4_canBeginBy 16 = .ok (.aload_n 1, 1) := by decide +kernel
theorem dX4_canBeginBy_17 : decode cX4_canBeginBy 17 = .ok (.getfield 85, 3) := by decide +kernel
theorem tw_207 : Cond.fieldLink RX4 85 "LimpCode$School" "letterAfter" "[[I" ∈ TT := nx_mem 207 (by decide +kernel) (by decide +kernel)
theorem dX4_canBeginBy_20 : decode cX4_canBeginBy 20 = .ok (.iload_n 2, 1) := by decide +kernel
theorem dX4_canBeginBy_21 : decode cX4_canBeginBy 21 = .ok (.aaload, 1) := by decide +kernel
theorem dX4_canBeginBy_22 : decode cX4_canBeginBy 22 = .ok (.iload 4, 2) := by decide +kernel
theorem dX4_canBeginBy_24 : decode cX4_canBeginBy 24 = .ok (.iaload, 1) := by decide +kernel
theorem dX4_canBeginBy_25 : decode cX4_canBeginBy 25 = .ok (.iconst (-1), 1) := by decide +kernel
theorem dX4_canBeginBy_26 : decode cX4_canBeginBy 26 = .ok (.if_icmp .eq 7, 3) := by decide +kernel
theorem dX4_canBeginBy_29 : decode cX4_canBeginBy 29 = .ok (.iconst 1, 1) := by decide +kernel
theorem dX4_canBeginBy_30 : decode cX4_canBeginBy 30 = .ok (.goto 4, 3) := by decide +kernel
theorem dX4_canBegin_0 : decode cX4_canBegin 0 = .ok (.aload_n 0, 1) := by decide +kernel
theorem dX4_canBegin_1 : decode cX4_canBegin 1 = .ok (.getfield 36, 3) := by decide +kernel
theorem dX4_canBegin_4 : decode cX4_canBegin 4 = .ok (.iload_n 2, 1) := by decide +kernel
theorem dX4_canBegin_5 : decode cX4_canBegin 5 = .ok (.ishr, 1) := by decide +kernel
theorem dX4_canBegin_6 : decode cX4_canBegin 6 = .ok (.iconst 1, 1) := by decide +kernel
theorem dX4_canBegin_7 : decode cX4_canBegin 7 = .ok (.iand, 1) := by decide +kernel
theorem dX4_canBegin_8 : decode cX4_canBegin 8 = .ok (.iconst 1, 1) := by decide +kernel
theorem dX4_canBegin_9 : decode cX4_canBegin 9 = .ok (.if_icmp .ne 29, 3) := by decide +kernel
theorem dX4_canBegin_38 : decode cX4_canBegin 38 = .ok (.iconst 0, 1) := by decide +kernel
theorem dX4_canBegin_39 : decode cX4_canBegin 39 = .ok (.ireturn, 1) := by decide +kernel
theorem dX4_canBegin_12 : decode cX4_canBegin 12 = .ok (.aload_n 0, 1) := by decide +kernel
theorem dX4_canBegin_13 : decode cX4_canBegin 13 = .ok (.aload_n 1, 1) := by decide +kernel
theorem dX4_canBegin_14 : decode cX4_canBegin 14 = .ok (.iload_n 2, 1) := by decide +kernel
theorem dX4_canBegin_15 : decode cX4_canBegin 15 = .ok (.iload_n 3, 1) := by decide +kernel
theorem dX4_canBegin_16 : decode cX4_canBegin 16 = .ok (.iconst 0, 1) := by decide +kernel
theorem dX4_canBegin_17 : decode cX4_canBegin 17 = .ok (.invokevirtual 81, 3) := by decide +kernel
theorem tw_921 : Cond.methodLink RX4 81 yX4_canBeginBy ∈ TT := nx_mem 921 (by decide +kernel) (by decide +kernel)
theorem tw_923 : Cond.instanceMethod yX4_canBeginBy ∈ TT := nx_mem 923 (by decide +kernel) (by decide +kernel)
theorem tw_24 : Cond.selects RX4 yX4_canBeginBy yX4_canBeginBy ∈ TT := nx_mem 24 (by decide +kernel) (by decide +kernel)
theorem tw_924 : Cond.code yX4_canBeginBy cX4_canBeginBy 5 (some .boolean) ∈ TT := nx_mem 924 (by decide +kernel) (by decide +kernel)
theorem dX4_canBegin_20 : decode cX4_canBegin 20 = .ok (.ifCond .ne 14, 3) := by decide +kernel
theorem dX4_canBegin_34 : decode cX4_canBegin 34 = .ok (.iconst 1, 1) := by decide +kernel
theorem dX4_canBegin_35 : decode cX4_canBegin 35 = .ok (.goto 4, 3) := by decide +kernel
theorem dX4_canBegin_23 : decode cX4_canBegin 23 = .ok (.aload_n 0, 1) := by decide +kernel
theorem dX4_canBegin_24 : decode cX4_canBegin 24 = .ok (.aload_n 1, 1) := by decide +kernel
theorem dX4_canBegin_25 : decode cX4_canBegin 25 = .ok (.iload_n 2, 1) := by decide +kernel
theorem dX4_canBegin_26 : decode cX4_canBegin 26 = .ok (.iload_n 3, 1) := by decide +kernel
theorem dX4_canBegin_27 : decode cX4_canBegin 27 = .ok (.iconst 1, 1) := by decide +kernel
theorem dX4_canBegin_28 : decode cX4_canBegin 28 = .ok (.invokevirtual 81, 3) := by decide +kernel
theorem dX4_canBegin_31 : decode cX4_canBegin 31 = .ok (.ifCond .eq 7, 3) := by decide +kernel
theorem dX4_markRead_0 : decode cX4_markRead 0 = .ok (.iconst 0, 1) := by decide +kernel
theorem dX4_markRead_1 : decode cX4_markRead 1 = .ok (.istore 4, 2) := by decide +kernel
theorem dX4_markRead_3 : decode cX4_markRead 3 = .ok (.iload 4, 2) := by decide +kernel
theorem dX4_markRead_5 : decode cX4_markRead 5 = .ok (.iconst 1, 1) := by decide +kernel
theorem dX4_markRead_6 : decode cX4_markRead 6 = .ok (.if_icmp .gt 48, 3) := by decide +kernel
theorem dX4_markRead_9 : decode cX4_markRead 9 = .ok (.aload_n 0, 1) := by decide +kernel
theorem dX4_markRead_10 : decode cX4_markRead 10 = .ok (.aload_n 1, 1) := by decide +kernel
theorem dX4_markRead_11 : decode cX4_markRead 11 = .ok (.iload_n 2, 1) := by decide +kernel
theorem dX4_markRead_12 : decode cX4_markRead 12 = .ok (.iload_n 3, 1) := by decide +kernel
theorem dX4_markRead_13 : decode cX4_markRead 13 = .ok (.iload 4, 2) := by decide +kernel
theorem dX4_markRead_15 : decode cX4_markRead 15 = .ok (.invokevirtual 81, 3) := by decide +kernel
theorem dX4_markRead_18 : decode cX4_markRead 18 = .ok (.ifCond .eq 30, 3) := by decide +kernel
theorem dX4_markRead_48 : decode cX4_markRead 48 = .ok (.iinc 4 1, 3) := by decide +kernel
theorem dX4_markRead_51 : decode cX4_markRead 51 = .ok (.goto (-48), 3) := by decide +kernel
theorem dX4_markRead_21 : decode cX4_markRead 21 = .ok (.aload_n 0, 1) := by decide +kernel
theorem dX4_markRead_22 : decode cX4_markRead 22 = .ok (.getfield 23, 3) := by decide +kernel
theorem dX4_markRead_25 : decode cX4_markRead 25 = .ok (.aload_n 1, 1) := by decide +kernel
theorem dX4_markRead_26 : decode cX4_markRead 26 = .ok (.getfield 85, 3) := by decide +kernel
theorem dX4_markRead_29 : decode cX4_markRead 29 = .ok (.iload_n 2, 1) := by decide +kernel
theorem dX4_markRead_30 : decode cX4_markRead 30 = .ok (.aaload, 1) := by decide +kernel
theorem dX4_markRead_31 : decode cX4_markRead 31 = .ok (.iload 4, 2) := by decide +kernel
theorem dX4_markRead_33 : decode cX4_markRead 33 = .ok (.iaload, 1) := by decide +kernel
theorem dX4_markRead_34 : decode cX4_markRead 34 = .ok (.dup2, 1) := by decide +kernel
theorem dX4_markRead_35 : decode cX4_markRead 35 = .ok (.laload, 1) := by decide +kernel
theorem dX4_markRead_36 : decode cX4_markRead 36 = .ok (.lconst 1, 1) := by decide +kernel
theorem dX4_markRead_37 : decode cX4_markRead 37 = .ok (.iload_n 3, 1) := by decide +kernel
theorem dX4_markRead_38 : decode cX4_markRead 38 = .ok (.aload_n 1, 1) := by decide +kernel
theorem dX4_markRead_39 : decode cX4_markRead 39 = .ok (.getfield 54, 3) := by decide +kernel
theorem dX4_markRead_42 : decode cX4_markRead 42 = .ok (.iload_n 2, 1) := by decide +kernel
theorem dX4_markRead_43 : decode cX4_markRead 43 = .ok (.iaload, 1) := by decide +kernel
theorem dX4_markRead_44 : decode cX4_markRead 44 = .ok (.iadd, 1) := by decide +kernel
theorem dX4_markRead_45 : decode cX4_markRead 45 = .ok (.lshl, 1) := by decide +kernel
theorem dX4_markRead_46 : decode cX4_markRead 46 = .ok (.lor, 1) := by decide +kernel
theorem dX4_markRead_47 : decode cX4_markRead 47 = .ok (.lastore, 1) := by decide +kernel
theorem dX4_markRead_54 : decode cX4_markRead 54 = .ok (.return_, 1) := by decide +kernel
theorem dX4_readOn_0 : decode cX4_readOn 0 = .ok (.aload_n 1, 1) := by decide +kernel
theorem dX4_readOn_1 : decode cX4_readOn 1 = .ok (.getfield 54, 3) := by decide +kernel
theorem dX4_readOn_4 : decode cX4_readOn 4 = .ok (.iload_n 2, 1) := by decide +kernel
theorem dX4_readOn_5 : decode cX4_readOn 5 = .ok (.iaload, 1) := by decide +kernel
theorem dX4_readOn_6 : decode cX4_readOn 6 = .ok (.istore 6, 2) := by decide +kernel
theorem dX4_readOn_8 : decode cX4_readOn 8 = .ok (.aload_n 0, 1) := by decide +kernel
theorem dX4_readOn_9 : decode cX4_readOn 9 = .ok (.aload_n 1, 1) := by decide +kernel
theorem dX4_readOn_10 : decode cX4_readOn 10 = .ok (.iload_n 2, 1) := by decide +kernel
theorem dX4_readOn_11 : decode cX4_readOn 11 = .ok (.iload 4, 2) := by decide +kernel
theorem dX4_readOn_13 : decode cX4_readOn 13 = .ok (.invokevirtual 73, 3) := by decide +kernel
theorem tw_917 : Cond.methodLink RX4 73 yX4_canBegin ∈ TT := nx_mem 917 (by decide +kernel) (by decide +kernel)
theorem tw_919 : Cond.instanceMethod yX4_canBegin ∈ TT := nx_mem 919 (by decide +kernel) (by decide +kernel)
theorem tw_23 : Cond.selects RX4 yX4_canBegin yX4_canBegin ∈ TT := nx_mem 23 (by decide +kernel) (by decide +kernel)
theorem tw_920 : Cond.code yX4_canBegin cX4_canBegin 4 (some .boolean) ∈ TT := nx_mem 920 (by decide +kernel) (by decide +kernel)
theorem dX4_readOn_16 : decode cX4_readOn 16 = .ok (.ifCond .eq 13, 3) := by decide +kernel
theorem dX4_readOn_29 : decode cX4_readOn 29 = .ok (.iconst 0, 1) := by decide +kernel
theorem dX4_readOn_30 : decode cX4_readOn 30 = .ok (.ireturn, 1) := by decide +kernel
theorem dX4_readOn_19 : decode cX4_readOn 19 = .ok (.iload 4, 2) := by decide +kernel
theorem dX4_readOn_21 : decode cX4_readOn 21 = .ok (.iload 6, 2) := by decide +kernel
theorem dX4_readOn_23 : decode cX4_readOn 23 = .ok (.iadd, 1) := by decide +kernel
theorem dX4_readOn_24 : decode cX4_readOn 24 = .ok (.bipush 60, 2) := by decide +kernel
theorem dX4_readOn_26 : decode cX4_readOn 26 = .ok (.if_icmp .le 5, 3) := by decide +kernel
theorem dX4_readOn_31 : decode cX4_readOn 31 = .ok (.aload_n 0, 1) := by decide +kernel
theorem dX4_readOn_32 : decode cX4_readOn 32 = .ok (.getfield 13, 3) := by decide +kernel
theorem dX4_readOn_35 : decode cX4_readOn 35 = .ok (.iload_n 2, 1) := by decide +kernel
theorem dX4_readOn_36 : decode cX4_readOn 36 = .ok (.aaload, 1) := by decide +kernel
theorem dX4_readOn_37 : decode cX4_readOn 37 = .ok (.iload 6, 2) := by decide +kernel
theorem dX4_readOn_39 : decode cX4_readOn 39 = .ok (.aload_n 3, 1) := by decide +kernel
theorem dX4_readOn_40 : decode cX4_readOn 40 = .ok (.iload 4, 2) := by decide +kernel
theorem dX4_readOn_42 : decode cX4_readOn 42 = .ok (.iload 5, 2) := by decide +kernel
theorem dX4_readOn_44 : decode cX4_readOn 44 = .ok (.invokestatic 57, 3) := by decide +kernel
theorem dX4_readOn_47 : decode cX4_readOn 47 = .ok (.istore 7, 2) := by decide +kernel
theorem dX4_readOn_49 : decode cX4_readOn 49 = .ok (.iload 7, 2) := by decide +kernel
theorem dX4_readOn_51 : decode cX4_readOn 51 = .ok (.iload 6, 2) := by decide +kernel
theorem dX4_readOn_53 : decode cX4_readOn 53 = .ok (.if_icmp .ne 11, 3) := by decide +kernel
theorem dX4_readOn_64 : decode cX4_readOn 64 = .ok (.iload 4, 2) := by decide +kernel
theorem dX4_readOn_66 : decode cX4_readOn 66 = .ok (.iload 7, 2) := by decide +kernel
theorem dX4_readOn_68 : decode cX4_readOn 68 = .ok (.iadd, 1) := by decide +kernel
theorem dX4_readOn_69 : decode cX4_readOn 69 = .ok (.ireturn, 1) := by decide +kernel
theorem dX4_readOn_56 : decode cX4_readOn 56 = .ok (.aload_n 0, 1) := by decide +kernel
theorem dX4_readOn_57 : decode cX4_readOn 57 = .ok (.aload_n 1, 1) := by decide +kernel
theorem dX4_readOn_58 : decode cX4_readOn 58 = .ok (.iload_n 2, 1) := by decide +kernel
theorem dX4_readOn_59 : decode cX4_readOn 59 = .ok (.iload 4, 2) := by decide +kernel
theorem dX4_readOn_61 : decode cX4_readOn 61 = .ok (.invokevirtual 77, 3) := by decide +kernel
theorem tw_930 : Cond.methodLink RX4 77 yX4_markRead ∈ TT := nx_mem 930 (by decide +kernel) (by decide +kernel)
theorem tw_932 : Cond.instanceMethod yX4_markRead ∈ TT := nx_mem 932 (by decide +kernel) (by decide +kernel)
theorem tw_25 : Cond.selects RX4 yX4_markRead yX4_markRead ∈ TT := nx_mem 25 (by decide +kernel) (by decide +kernel)
theorem tw_933 : Cond.code yX4_markRead cX4_markRead 5 none ∈ TT := nx_mem 933 (by decide +kernel) (by decide +kernel)
theorem dX4_firstUnheard_0 : decode cX4_firstUnheard 0 = .ok (.iconst 0, 1) := by decide +kernel
theorem dX4_firstUnheard_1 : decode cX4_firstUnheard 1 = .ok (.istore 4, 2) := by decide +kernel
theorem dX4_firstUnheard_3 : decode cX4_firstUnheard 3 = .ok (.iconst 0, 1) := by decide +kernel
theorem dX4_firstUnheard_4 : decode cX4_firstUnheard 4 = .ok (.istore 5, 2) := by decide +kernel
theorem dX4_firstUnheard_6 : decode cX4_firstUnheard 6 = .ok (.iload 5, 2) := by decide +kernel
theorem dX4_firstUnheard_8 : decode cX4_firstUnheard 8 = .ok (.iload_n 3, 1) := by decide +kernel
theorem dX4_firstUnheard_9 : decode cX4_firstUnheard 9 = .ok (.if_icmp .ge 45, 3) := by decide +kernel
theorem dX4_firstUnheard_54 : decode cX4_firstUnheard 54 = .ok (.iload 4, 2) := by decide +kernel
theorem dX4_firstUnheard_56 : decode cX4_firstUnheard 56 = .ok (.iload_n 3, 1) := by decide +kernel
theorem dX4_firstUnheard_57 : decode cX4_firstUnheard 57 = .ok (.if_icmp .ge 8, 3) := by decide +kernel
theorem dX4_firstUnheard_65 : decode cX4_firstUnheard 65 = .ok (.iconst (-1), 1) := by decide +kernel
theorem dX4_firstUnheard_66 : decode cX4_firstUnheard 66 = .ok (.ireturn, 1) := by decide +kernel
theorem dX4_firstUnheard_60 : decode cX4_firstUnheard 60 = .ok (.iload 4, 2) := by decide +kernel
theorem dX4_firstUnheard_62 : decode cX4_firstUnheard 62 = .ok (.goto 4, 3) := by decide +kernel
theorem dX4_firstUnheard_12 : decode cX4_firstUnheard 12 = .ok (.iconst 0, 1) := by decide +kernel
theorem dX4_firstUnheard_13 : decode cX4_firstUnheard 13 = .ok (.istore 6, 2) := by decide +kernel
theorem dX4_firstUnheard_15 : decode cX4_firstUnheard 15 = .ok (.iload 6, 2) := by decide +kernel
theorem dX4_firstUnheard_17 : decode cX4_firstUnheard 17 = .ok (.aload_n 1, 1) := by decide +kernel
theorem dX4_firstUnheard_18 : decode cX4_firstUnheard 18 = .ok (.getfield 47, 3) := by decide +kernel
theorem dX4_firstUnheard_21 : decode cX4_firstUnheard 21 = .ok (.if_icmp .ge 27, 3) := by decide +kernel
theorem dX4_firstUnheard_48 : decode cX4_firstUnheard 48 = .ok (.iinc 5 1, 3) := by decide +kernel
theorem dX4_firstUnheard_51 : decode cX4_firstUnheard 51 = .ok (.goto (-45), 3) := by decide +kernel
theorem dX4_firstUnheard_24 : decode cX4_firstUnheard 24 = .ok (.iload 4, 2) := by decide +kernel
theorem dX4_firstUnheard_26 : decode cX4_firstUnheard 26 = .ok (.aload_n 0, 1) := by decide +kernel
theorem dX4_firstUnheard_27 : decode cX4_firstUnheard 27 = .ok (.aload_n 1, 1) := by decide +kernel
theorem dX4_firstUnheard_28 : decode cX4_firstUnheard 28 = .ok (.iload 6, 2) := by decide +kernel
theorem dX4_firstUnheard_30 : decode cX4_firstUnheard 30 = .ok (.aload_n 2, 1) := by decide +kernel
theorem dX4_firstUnheard_31 : decode cX4_firstUnheard 31 = .ok (.iload 5, 2) := by decide +kernel
theorem dX4_firstUnheard_33 : decode cX4_firstUnheard 33 = .ok (.iload_n 3, 1) := by decide +kernel
theorem dX4_firstUnheard_34 : decode cX4_firstUnheard 34 = .ok (.invokevirtual 69, 3) := by decide +kernel
theorem tw_913 : Cond.methodLink RX4 69 yX4_readOn ∈ TT := nx_mem 913 (by decide +kernel) (by decide +kernel)
theorem tw_915 : Cond.instanceMethod yX4_readOn ∈ TT := nx_mem 915 (by decide +kernel) (by decide +kernel)
theorem tw_22 : Cond.selects RX4 yX4_readOn yX4_readOn ∈ TT := nx_mem 22 (by decide +kernel) (by decide +kernel)
theorem tw_916 : Cond.code yX4_readOn cX4_readOn 8 (some .int) ∈ TT := nx_mem 916 (by decide +kernel) (by decide +kernel)
theorem dX4_firstUnheard_37 : decode cX4_firstUnheard 37 = .ok (.invokestatic 66, 3) := by decide +kernel
theorem dX4_firstUnheard_40 : decode cX4_firstUnheard 40 = .ok (.istore 4, 2) := by decide +kernel
theorem dX4_firstUnheard_42 : decode cX4_firstUnheard 42 = .ok (.iinc 6 1, 3) := by decide +kernel
theorem dX4_firstUnheard_45 : decode cX4_firstUnheard 45 = .ok (.goto (-30), 3) := by decide +kernel
theorem dX4_readUpTo_0 : decode cX4_readUpTo 0 = .ok (.aload_n 1, 1) := by decide +kernel
theorem dX4_readUpTo_1 : decode cX4_readUpTo 1 = .ok (.getfield 54, 3) := by decide +kernel
theorem dX4_readUpTo_4 : decode cX4_readUpTo 4 = .ok (.iload_n 2, 1) := by decide +kernel
theorem dX4_readUpTo_5 : decode cX4_readUpTo 5 = .ok (.iaload, 1) := by decide +kernel
theorem dX4_readUpTo_6 : decode cX4_readUpTo 6 = .ok (.istore 4, 2) := by decide +kernel
theorem dX4_readUpTo_8 : decode cX4_readUpTo 8 = .ok (.iload_n 3, 1) := by decide +kernel
theorem dX4_readUpTo_9 : decode cX4_readUpTo 9 = .ok (.iload 4, 2) := by decide +kernel
theorem dX4_readUpTo_11 : decode cX4_readUpTo 11 = .ok (.isub, 1) := by decide +kernel
theorem dX4_readUpTo_12 : decode cX4_readUpTo 12 = .ok (.istore 5, 2) := by decide +kernel
theorem dX4_readUpTo_14 : decode cX4_readUpTo 14 = .ok (.iload 5, 2) := by decide +kernel
theorem dX4_readUpTo_16 : decode cX4_readUpTo 16 = .ok (.ifCond .lt 14, 3) := by decide +kernel
theorem dX4_readUpTo_19 : decode cX4_readUpTo 19 = .ok (.aload_n 0, 1) := by decide +kernel
theorem dX4_readUpTo_20 : decode cX4_readUpTo 20 = .ok (.aload_n 1, 1) := by decide +kernel
theorem dX4_readUpTo_21 : decode cX4_readUpTo 21 = .ok (.iload_n 2, 1) := by decide +kernel
theorem dX4_readUpTo_22 : decode cX4_readUpTo 22 = .ok (.iload 5, 2) := by decide +kernel
theorem dX4_readUpTo_24 : decode cX4_readUpTo 24 = .ok (.invokevirtual 73, 3) := by decide +kernel
theorem dX4_readUpTo_27 : decode cX4_readUpTo 27 = .ok (.ifCond .ne 4, 3) := by decide +kernel
theorem dX4_readUpTo_31 : decode cX4_readUpTo 31 = .ok (.aload_n 0, 1) := by decide +kernel
theorem dX4_readUpTo_32 : decode cX4_readUpTo 32 = .ok (.getfield 13, 3) := by decide +kernel
theorem dX4_readUpTo_35 : decode cX4_readUpTo 35 = .ok (.iload_n 2, 1) := by decide +kernel
theorem dX4_readUpTo_36 : decode cX4_readUpTo 36 = .ok (.aaload, 1) := by decide +kernel
theorem dX4_readUpTo_37 : decode cX4_readUpTo 37 = .ok (.iload 4, 2) := by decide +kernel
theorem dX4_readUpTo_39 : decode cX4_readUpTo 39 = .ok (.aload_n 0, 1) := by decide +kernel
theorem dX4_readUpTo_40 : decode cX4_readUpTo 40 = .ok (.getfield 20, 3) := by decide +kernel
theorem tw_423 : Cond.fieldLink RX4 20 "LimpCode$Listener" "heardSoFar" "[I" ∈ TT := nx_mem 423 (by decide +kernel) (by decide +kernel)
theorem dX4_readUpTo_43 : decode cX4_readUpTo 43 = .ok (.iload 5, 2) := by decide +kernel
theorem dX4_readUpTo_45 : decode cX4_readUpTo 45 = .ok (.iload_n 3, 1) := by decide +kernel
theorem dX4_readUpTo_46 : decode cX4_readUpTo 46 = .ok (.invokestatic 57, 3) := by decide +kernel
theorem dX4_readUpTo_49 : decode cX4_readUpTo 49 = .ok (.iload 4, 2) := by decide +kernel
theorem dX4_readUpTo_51 : decode cX4_readUpTo 51 = .ok (.if_icmp .ne 11, 3) := by decide +kernel
theorem dX4_readUpTo_62 : decode cX4_readUpTo 62 = .ok (.return_, 1) := by decide +kernel
theorem dX4_readUpTo_54 : decode cX4_readUpTo 54 = .ok (.aload_n 0, 1) := by decide +kernel
theorem dX4_readUpTo_55 : decode cX4_readUpTo 55 = .ok (.aload_n 1, 1) := by decide +kernel
theorem dX4_readUpTo_56 : decode cX4_readUpTo 56 = .ok (.iload_n 2, 1) := by decide +kernel
theorem dX4_readUpTo_57 : decode cX4_readUpTo 57 = .ok (.iload 5, 2) := by decide +kernel
theorem dX4_readUpTo_59 : decode cX4_readUpTo 59 = .ok (.invokevirtual 77, 3) := by decide +kernel
theorem dX4_readUpTo_30 : decode cX4_readUpTo 30 = .ok (.return_, 1) := by decide +kernel
theorem dX4_hearStep_0 : decode cX4_hearStep 0 = .ok (.ldc2_w 88, 3) := by decide +kernel
theorem tw_1000 : Cond.constantLong RX4 88 2 ∈ TT := nx_mem 1000 (by decide +kernel) (by decide +kernel)
theorem dX4_hearStep_3 : decode cX4_hearStep 3 = .ok (.iload_n 3, 1) := by decide +kernel
theorem dX4_hearStep_4 : decode cX4_hearStep 4 = .ok (.lshl, 1) := by decide +kernel
theorem dX4_hearStep_5 : decode cX4_hearStep 5 = .ok (.lconst 1, 1) := by decide +kernel
theorem dX4_hearStep_6 : decode cX4_hearStep 6 = .ok (.lsub, 1) := by decide +kernel
theorem dX4_hearStep_7 : decode cX4_hearStep 7 = .ok (.lstore 4, 2) := by decide +kernel
theorem dX4_hearStep_9 : decode cX4_hearStep 9 = .ok (.aload_n 0, 1) := by decide +kernel
theorem dX4_hearStep_10 : decode cX4_hearStep 10 = .ok (.getfield 23, 3) := by decide +kernel
theorem dX4_hearStep_13 : decode cX4_hearStep 13 = .ok (.iconst 0, 1) := by decide +kernel
theorem dX4_hearStep_14 : decode cX4_hearStep 14 = .ok (.dup2, 1) := by decide +kernel
theorem dX4_hearStep_15 : decode cX4_hearStep 15 = .ok (.laload, 1) := by decide +kernel
theorem dX4_hearStep_16 : decode cX4_hearStep 16 = .ok (.lload 4, 2) := by decide +kernel
theorem dX4_hearStep_18 : decode cX4_hearStep 18 = .ok (.land, 1) := by decide +kernel
theorem dX4_hearStep_19 : decode cX4_hearStep 19 = .ok (.lastore, 1) := by decide +kernel
theorem dX4_hearStep_20 : decode cX4_hearStep 20 = .ok (.aload_n 0, 1) := by decide +kernel
theorem dX4_hearStep_21 : decode cX4_hearStep 21 = .ok (.getfield 23, 3) := by decide +kernel
theorem dX4_hearStep_24 : decode cX4_hearStep 24 = .ok (.iconst 1, 1) := by decide +kernel
theorem dX4_hearStep_25 : decode cX4_hearStep 25 = .ok (.dup2, 1) := by decide +kernel
theorem dX4_hearStep_26 : decode cX4_hearStep 26 = .ok (.laload, 1) := by decide +kernel
theorem dX4_hearStep_27 : decode cX4_hearStep 27 = .ok (.lload 4, 2) := by decide +kernel
theorem dX4_hearStep_29 : decode cX4_hearStep 29 = .ok (.land, 1) := by decide +kernel
theorem dX4_hearStep_30 : decode cX4_hearStep 30 = .ok (.lastore, 1) := by decide +kernel
theorem dX4_hearStep_31 : decode cX4_hearStep 31 = .ok (.aload_n 0, 1) := by decide +kernel
theorem dX4_hearStep_32 : decode cX4_hearStep 32 = .ok (.getfield 20, 3) := by decide +kernel
theorem dX4_hearStep_35 : decode cX4_hearStep 35 = .ok (.iload_n 3, 1) := by decide +kernel
theorem dX4_hearStep_36 : decode cX4_hearStep 36 = .ok (.aload_n 0, 1) := by decide +kernel
theorem dX4_hearStep_37 : decode cX4_hearStep 37 = .ok (.getfield 16, 3) := by decide +kernel
theorem dX4_hearStep_40 : decode cX4_hearStep 40 = .ok (.iload_n 2, 1) := by decide +kernel
theorem dX4_hearStep_41 : decode cX4_hearStep 41 = .ok (.iaload, 1) := by decide +kernel
theorem dX4_hearStep_42 : decode cX4_hearStep 42 = .ok (.aload_n 1, 1) := by decide +kernel
theorem dX4_hearStep_43 : decode cX4_hearStep 43 = .ok (.getfield 90, 3) := by decide +kernel
theorem tw_181 : Cond.fieldLink RX4 90 "LimpCode$School" "takes" "[I" ∈ TT := nx_mem 181 (by decide +kernel) (by decide +kernel)
theorem dX4_hearStep_46 : decode cX4_hearStep 46 = .ok (.iload_n 2, 1) := by decide +kernel
theorem dX4_hearStep_47 : decode cX4_hearStep 47 = .ok (.iaload, 1) := by decide +kernel
theorem dX4_hearStep_48 : decode cX4_hearStep 48 = .ok (.invokestatic 93, 3) := by decide +kernel
theorem dX4_hearStep_51 : decode cX4_hearStep 51 = .ok (.istore 6, 2) := by decide +kernel
theorem dX4_hearStep_53 : decode cX4_hearStep 53 = .ok (.iload_n 3, 1) := by decide +kernel
theorem dX4_hearStep_54 : decode cX4_hearStep 54 = .ok (.iconst 1, 1) := by decide +kernel
theorem dX4_hearStep_55 : decode cX4_hearStep 55 = .ok (.iadd, 1) := by decide +kernel
theorem dX4_hearStep_56 : decode cX4_hearStep 56 = .ok (.istore 7, 2) := by decide +kernel
theorem dX4_hearStep_58 : decode cX4_hearStep 58 = .ok (.iload 7, 2) := by decide +kernel
theorem dX4_hearStep_60 : decode cX4_hearStep 60 = .ok (.iload 6, 2) := by decide +kernel
theorem dX4_hearStep_62 : decode cX4_hearStep 62 = .ok (.if_icmp .gt 36, 3) := by decide +kernel
theorem dX4_hearStep_98 : decode cX4_hearStep 98 = .ok (.return_, 1) := by decide +kernel
theorem dX4_hearStep_65 : decode cX4_hearStep 65 = .ok (.iconst 0, 1) := by decide +kernel
theorem dX4_hearStep_66 : decode cX4_hearStep 66 = .ok (.istore 8, 2) := by decide +kernel
theorem dX4_hearStep_68 : decode cX4_hearStep 68 = .ok (.iload 8, 2) := by decide +kernel
theorem dX4_hearStep_70 : decode cX4_hearStep 70 = .ok (.aload_n 1, 1) := by decide +kernel
theorem dX4_hearStep_71 : decode cX4_hearStep 71 = .ok (.getfield 47, 3) := by decide +kernel
theorem dX4_hearStep_74 : decode cX4_hearStep 74 = .ok (.if_icmp .ge 18, 3) := by decide +kernel
theorem dX4_hearStep_92 : decode cX4_hearStep 92 = .ok (.iinc 7 1, 3) := by decide +kernel
theorem dX4_hearStep_95 : decode cX4_hearStep 95 = .ok (.goto (-37), 3) := by decide +kernel
theorem dX4_hearStep_77 : decode cX4_hearStep 77 = .ok (.aload_n 0, 1) := by decide +kernel
theorem dX4_hearStep_78 : decode cX4_hearStep 78 = .ok (.aload_n 1, 1) := by decide +kernel
theorem dX4_hearStep_79 : decode cX4_hearStep 79 = .ok (.iload 8, 2) := by decide +kernel
theorem dX4_hearStep_81 : decode cX4_hearStep 81 = .ok (.iload 7, 2) := by decide +kernel
theorem dX4_hearStep_83 : decode cX4_hearStep 83 = .ok (.invokevirtual 97, 3) := by decide +kernel
theorem tw_1002 : Cond.methodLink RX4 97 yX4_readUpTo ∈ TT := nx_mem 1002 (by decide +kernel) (by decide +kernel)
theorem tw_1004 : Cond.instanceMethod yX4_readUpTo ∈ TT := nx_mem 1004 (by decide +kernel) (by decide +kernel)
theorem tw_30 : Cond.selects RX4 yX4_readUpTo yX4_readUpTo ∈ TT := nx_mem 30 (by decide +kernel) (by decide +kernel)
theorem tw_1005 : Cond.code yX4_readUpTo cX4_readUpTo 6 none ∈ TT := nx_mem 1005 (by decide +kernel) (by decide +kernel)
theorem dX4_hearStep_86 : decode cX4_hearStep 86 = .ok (.iinc 8 1, 3) := by decide +kernel
theorem dX4_hearStep_89 : decode cX4_hearStep 89 = .ok (.goto (-21), 3) := by decide +kernel
theorem dX4_canReadUpTo_0 : decode cX4_canReadUpTo 0 = .ok (.aload_n 0, 1) := by decide +kernel
theorem dX4_canReadUpTo_1 : decode cX4_canReadUpTo 1 = .ok (.getfield 23, 3) := by decide +kernel
theorem dX4_canReadUpTo_4 : decode cX4_canReadUpTo 4 = .ok (.iconst 0, 1) := by decide +kernel
theorem dX4_canReadUpTo_5 : decode cX4_canReadUpTo 5 = .ok (.laload, 1) := by decide +kernel
theorem dX4_canReadUpTo_6 : decode cX4_canReadUpTo 6 = .ok (.aload_n 0, 1) := by decide +kernel
theorem dX4_canReadUpTo_7 : decode cX4_canReadUpTo 7 = .ok (.getfield 23, 3) := by decide +kernel
theorem dX4_canReadUpTo_10 : decode cX4_canReadUpTo 10 = .ok (.iconst 1, 1) := by decide +kernel
theorem dX4_canReadUpTo_11 : decode cX4_canReadUpTo 11 = .ok (.laload, 1) := by decide +kernel
theorem dX4_canReadUpTo_12 : decode cX4_canReadUpTo 12 = .ok (.lor, 1) := by decide +kernel
theorem dX4_canReadUpTo_13 : decode cX4_canReadUpTo 13 = .ok (.iload_n 1, 1) := by decide +kernel
theorem dX4_canReadUpTo_14 : decode cX4_canReadUpTo 14 = .ok (.lshr, 1) := by decide +kernel
theorem dX4_canReadUpTo_15 : decode cX4_canReadUpTo 15 = .ok (.lconst 1, 1) := by decide +kernel
theorem dX4_canReadUpTo_16 : decode cX4_canReadUpTo 16 = .ok (.land, 1) := by decide +kernel
theorem dX4_canReadUpTo_17 : decode cX4_canReadUpTo 17 = .ok (.lconst 1, 1) := by decide +kernel
theorem dX4_canReadUpTo_18 : decode cX4_canReadUpTo 18 = .ok (.lcmp, 1) := by decide +kernel
theorem dX4_canReadUpTo_19 : decode cX4_canReadUpTo 19 = .ok (.ifCond .ne 7, 3) := by decide +kernel
theorem dX4_canReadUpTo_26 : decode cX4_canReadUpTo 26 = .ok (.iconst 0, 1) := by decide +kernel
theorem dX4_canReadUpTo_27 : decode cX4_canReadUpTo 27 = .ok (.ireturn, 1) := by decide +kernel
theorem dX4_canReadUpTo_22 : decode cX4_canReadUpTo 22 = .ok (.iconst 1, 1) := by decide +kernel
theorem dX4_canReadUpTo_23 : decode cX4_canReadUpTo 23 = .ok (.goto 4, 3) := by decide +kernel
theorem dX7_begin_0 : decode cX7_begin 0 = .ok (.aload_n 0, 1) := by decide +kernel
theorem dX7_begin_1 : decode cX7_begin 1 = .ok (.iconst 0, 1) := by decide +kernel
theorem dX7_begin_2 : decode cX7_begin 2 = .ok (.putfield 25, 3) := by decide +kernel
theorem iw_X7 : ∀ w ∈ u_ws RX7 TX7 4, w ∈ TT := nx_mems _ [447, 449, 451, 453] (by decide +kernel) (by decide +kernel)
theorem tw_446 : Cond.fieldLink RX7 25 "LimpCode$SecretSearch" "size" "I" ∈ TT := nx_mem 446 (by decide +kernel) (by decide +kernel)
theorem dX7_begin_5 : decode cX7_begin 5 = .ok (.aload_n 0, 1) := by decide +kernel
theorem dX7_begin_6 : decode cX7_begin 6 = .ok (.getfield 9, 3) := by decide +kernel
theorem tw_443 : Cond.fieldLink RX7 9 "LimpCode$SecretSearch" "walk" "[I" ∈ TT := nx_mem 443 (by decide +kernel) (by decide +kernel)
theorem dX7_begin_9 : decode cX7_begin 9 = .ok (.iconst 0, 1) := by decide +kernel
theorem dX7_begin_10 : decode cX7_begin 10 = .ok (.iconst (-1), 1) := by decide +kernel
theorem dX7_begin_11 : decode cX7_begin 11 = .ok (.iastore, 1) := by decide +kernel
theorem dX7_begin_12 : decode cX7_begin 12 = .ok (.aload_n 0, 1) := by decide +kernel
theorem dX7_begin_13 : decode cX7_begin 13 = .ok (.getfield 15, 3) := by decide +kernel
theorem tw_444 : Cond.fieldLink RX7 15 "LimpCode$SecretSearch" "begins" "[I" ∈ TT := nx_mem 444 (by decide +kernel) (by decide +kernel)
theorem dX7_begin_16 : decode cX7_begin 16 = .ok (.iconst 0, 1) := by decide +kernel
theorem dX7_begin_17 : decode cX7_begin 17 = .ok (.iconst 0, 1) := by decide +kernel
theorem dX7_begin_18 : decode cX7_begin 18 = .ok (.iastore, 1) := by decide +kernel
theorem dX7_begin_19 : decode cX7_begin 19 = .ok (.aload_n 0, 1) := by decide +kernel
theorem dX7_begin_20 : decode cX7_begin 20 = .ok (.getfield 18, 3) := by decide +kernel
theorem tw_445 : Cond.fieldLink RX7 18 "LimpCode$SecretSearch" "feet" "[I" ∈ TT := nx_mem 445 (by decide +kernel) (by decide +kernel)
theorem dX7_begin_23 : decode cX7_begin 23 = .ok (.iconst 0, 1) := by decide +kernel
theorem dX7_begin_24 : decode cX7_begin 24 = .ok (.iconst 0, 1) := by decide +kernel
theorem dX7_begin_25 : decode cX7_begin 25 = .ok (.iastore, 1) := by decide +kernel
theorem dX7_begin_26 : decode cX7_begin 26 = .ok (.return_, 1) := by decide +kernel
theorem dX7_goOn_0 : decode cX7_goOn 0 = .ok (.aload_n 0, 1) := by decide +kernel
theorem dX7_goOn_1 : decode cX7_goOn 1 = .ok (.getfield 15, 3) := by decide +kernel
theorem dX7_goOn_4 : decode cX7_goOn 4 = .ok (.aload_n 0, 1) := by decide +kernel
theorem dX7_goOn_5 : decode cX7_goOn 5 = .ok (.getfield 25, 3) := by decide +kernel
theorem dX7_goOn_8 : decode cX7_goOn 8 = .ok (.iaload, 1) := by decide +kernel
theorem dX7_goOn_9 : decode cX7_goOn 9 = .ok (.istore 4, 2) := by decide +kernel
theorem dX7_goOn_11 : decode cX7_goOn 11 = .ok (.aload_n 2, 1) := by decide +kernel
theorem dX7_goOn_12 : decode cX7_goOn 12 = .ok (.aload_n 0, 1) := by decide +kernel
theorem dX7_goOn_13 : decode cX7_goOn 13 = .ok (.getfield 9, 3) := by decide +kernel
theorem dX7_goOn_16 : decode cX7_goOn 16 = .ok (.aload_n 0, 1) := by decide +kernel
theorem dX7_goOn_17 : decode cX7_goOn 17 = .ok (.getfield 25, 3) := by decide +kernel
theorem dX7_goOn_20 : decode cX7_goOn 20 = .ok (.iaload, 1) := by decide +kernel
theorem dX7_goOn_21 : decode cX7_goOn 21 = .ok (.iconst 1, 1) := by decide +kernel
theorem dX7_goOn_22 : decode cX7_goOn 22 = .ok (.iadd, 1) := by decide +kernel
theorem dX7_goOn_23 : decode cX7_goOn 23 = .ok (.iload 4, 2) := by decide +kernel
theorem dX7_goOn_25 : decode cX7_goOn 25 = .ok (.aload_n 0, 1) := by decide +kernel
theorem dX7_goOn_26 : decode cX7_goOn 26 = .ok (.getfield 18, 3) := by decide +kernel
theorem dX7_goOn_29 : decode cX7_goOn 29 = .ok (.aload_n 0, 1) := by decide +kernel
theorem dX7_goOn_30 : decode cX7_goOn 30 = .ok (.getfield 25, 3) := by decide +kernel
theorem dX7_goOn_33 : decode cX7_goOn 33 = .ok (.iaload, 1) := by decide +kernel
theorem dX7_goOn_34 : decode cX7_goOn 34 = .ok (.iconst 0, 1) := by decide +kernel
theorem dX7_goOn_35 : decode cX7_goOn 35 = .ok (.invokevirtual 46, 3) := by decide +kernel
theorem tw_995 : Cond.methodLink RX7 46 yX3_itemFrom ∈ TT := nx_mem 995 (by decide +kernel) (by decide +kernel)
theorem dX7_goOn_38 : decode cX7_goOn 38 = .ok (.istore 5, 2) := by decide +kernel
theorem dX7_goOn_40 : decode cX7_goOn 40 = .ok (.iload 5, 2) := by decide +kernel
theorem dX7_goOn_42 : decode cX7_goOn 42 = .ok (.iconst (-1), 1) := by decide +kernel
theorem dX7_goOn_43 : decode cX7_goOn 43 = .ok (.if_icmp .eq 12, 3) := by decide +kernel
theorem dX7_goOn_55 : decode cX7_goOn 55 = .ok (.aload_n 0, 1) := by decide +kernel
theorem dX7_goOn_56 : decode cX7_goOn 56 = .ok (.dup, 1) := by decide +kernel
theorem dX7_goOn_57 : decode cX7_goOn 57 = .ok (.getfield 25, 3) := by decide +kernel
theorem dX7_goOn_60 : decode cX7_goOn 60 = .ok (.iconst 1, 1) := by decide +kernel
theorem dX7_goOn_61 : decode cX7_goOn 61 = .ok (.isub, 1) := by decide +kernel
theorem dX7_goOn_62 : decode cX7_goOn 62 = .ok (.putfield 25, 3) := by decide +kernel
theorem dX7_goOn_65 : decode cX7_goOn 65 = .ok (.return_, 1) := by decide +kernel
theorem dX7_goOn_46 : decode cX7_goOn 46 = .ok (.aload_n 0, 1) := by decide +kernel
theorem dX7_goOn_47 : decode cX7_goOn 47 = .ok (.getfield 25, 3) := by decide +kernel
theorem dX7_goOn_50 : decode cX7_goOn 50 = .ok (.bipush 60, 2) := by decide +kernel
theorem dX7_goOn_52 : decode cX7_goOn 52 = .ok (.if_icmp .lt 14, 3) := by decide +kernel
theorem dX7_goOn_66 : decode cX7_goOn 66 = .ok (.aload_n 3, 1) := by decide +kernel
theorem dX7_goOn_67 : decode cX7_goOn 67 = .ok (.aload_n 1, 1) := by decide +kernel
theorem dX7_goOn_68 : decode cX7_goOn 68 = .ok (.iload 5, 2) := by decide +kernel
theorem dX7_goOn_70 : decode cX7_goOn 70 = .ok (.iload 4, 2) := by decide +kernel
theorem dX7_goOn_72 : decode cX7_goOn 72 = .ok (.invokevirtual 50, 3) := by decide +kernel
theorem tw_996 : Cond.methodLink RX7 50 yX4_hearStep ∈ TT := nx_mem 996 (by decide +kernel) (by decide +kernel)
theorem tw_997 : Cond.instanceMethod yX4_hearStep ∈ TT := nx_mem 997 (by decide +kernel) (by decide +kernel)
theorem tw_998 : Cond.selects RX4 yX4_hearStep yX4_hearStep ∈ TT := nx_mem 998 (by decide +kernel) (by decide +kernel)
theorem tw_999 : Cond.code yX4_hearStep cX4_hearStep 9 none ∈ TT := nx_mem 999 (by decide +kernel) (by decide +kernel)
theorem dX7_goOn_75 : decode cX7_goOn 75 = .ok (.aload_n 0, 1) := by decide +kernel
theorem dX7_goOn_76 : decode cX7_goOn 76 = .ok (.getfield 9, 3) := by decide +kernel
theorem dX7_goOn_79 : decode cX7_goOn 79 = .ok (.aload_n 0, 1) := by decide +kernel
theorem dX7_goOn_80 : decode cX7_goOn 80 = .ok (.getfield 25, 3) := by decide +kernel
theorem dX7_goOn_83 : decode cX7_goOn 83 = .ok (.iload 5, 2) := by decide +kernel
theorem dX7_goOn_85 : decode cX7_goOn 85 = .ok (.iastore, 1) := by decide +kernel
theorem dX7_goOn_86 : decode cX7_goOn 86 = .ok (.aload_n 0, 1) := by decide +kernel
theorem dX7_goOn_87 : decode cX7_goOn 87 = .ok (.getfield 15, 3) := by decide +kernel
theorem dX7_goOn_90 : decode cX7_goOn 90 = .ok (.aload_n 0, 1) := by decide +kernel
theorem dX7_goOn_91 : decode cX7_goOn 91 = .ok (.getfield 25, 3) := by decide +kernel
theorem dX7_goOn_94 : decode cX7_goOn 94 = .ok (.iconst 1, 1) := by decide +kernel
theorem dX7_goOn_95 : decode cX7_goOn 95 = .ok (.iadd, 1) := by decide +kernel
theorem dX7_goOn_96 : decode cX7_goOn 96 = .ok (.iload 4, 2) := by decide +kernel
theorem dX7_goOn_98 : decode cX7_goOn 98 = .ok (.aload_n 2, 1) := by decide +kernel
theorem dX7_goOn_99 : decode cX7_goOn 99 = .ok (.getfield 54, 3) := by decide +kernel
theorem tw_378 : Cond.fieldLink RX7 54 "LimpCode$Grid" "takes" "[I" ∈ TT := nx_mem 378 (by decide +kernel) (by decide +kernel)
theorem dX7_goOn_102 : decode cX7_goOn 102 = .ok (.iload 5, 2) := by decide +kernel
theorem dX7_goOn_104 : decode cX7_goOn 104 = .ok (.iaload, 1) := by decide +kernel
theorem dX7_goOn_105 : decode cX7_goOn 105 = .ok (.iadd, 1) := by decide +kernel
theorem dX7_goOn_106 : decode cX7_goOn 106 = .ok (.iastore, 1) := by decide +kernel
theorem dX7_goOn_107 : decode cX7_goOn 107 = .ok (.aload_n 0, 1) := by decide +kernel
theorem dX7_goOn_108 : decode cX7_goOn 108 = .ok (.getfield 18, 3) := by decide +kernel
theorem dX7_goOn_111 : decode cX7_goOn 111 = .ok (.aload_n 0, 1) := by decide +kernel
theorem dX7_goOn_112 : decode cX7_goOn 112 = .ok (.getfield 25, 3) := by decide +kernel
theorem dX7_goOn_115 : decode cX7_goOn 115 = .ok (.iconst 1, 1) := by decide +kernel
theorem dX7_goOn_116 : decode cX7_goOn 116 = .ok (.iadd, 1) := by decide +kernel
theorem dX7_goOn_117 : decode cX7_goOn 117 = .ok (.aload_n 2, 1) := by decide +kernel
theorem dX7_goOn_118 : decode cX7_goOn 118 = .ok (.getfield 57, 3) := by decide +kernel
theorem tw_380 : Cond.fieldLink RX7 57 "LimpCode$Grid" "after" "[[I" ∈ TT := nx_mem 380 (by decide +kernel) (by decide +kernel)
theorem dX7_goOn_121 : decode cX7_goOn 121 = .ok (.iload 5, 2) := by decide +kernel
theorem dX7_goOn_123 : decode cX7_goOn 123 = .ok (.aaload, 1) := by decide +kernel
theorem dX7_goOn_124 : decode cX7_goOn 124 = .ok (.aload_n 0, 1) := by decide +kernel
theorem dX7_goOn_125 : decode cX7_goOn 125 = .ok (.getfield 18, 3) := by decide +kernel
theorem dX7_goOn_128 : decode cX7_goOn 128 = .ok (.aload_n 0, 1) := by decide +kernel
theorem dX7_goOn_129 : decode cX7_goOn 129 = .ok (.getfield 25, 3) := by decide +kernel
theorem dX7_goOn_132 : decode cX7_goOn 132 = .ok (.iaload, 1) := by decide +kernel
theorem dX7_goOn_133 : decode cX7_goOn 133 = .ok (.iaload, 1) := by decide +kernel
theorem dX7_goOn_134 : decode cX7_goOn 134 = .ok (.iastore, 1) := by decide +kernel
theorem dX7_goOn_135 : decode cX7_goOn 135 = .ok (.aload_n 0, 1) := by decide +kernel
theorem dX7_goOn_136 : decode cX7_goOn 136 = .ok (.getfield 9, 3) := by decide +kernel
theorem dX7_goOn_139 : decode cX7_goOn 139 = .ok (.aload_n 0, 1) := by decide +kernel
theorem dX7_goOn_140 : decode cX7_goOn 140 = .ok (.getfield 25, 3) := by decide +kernel
theorem dX7_goOn_143 : decode cX7_goOn 143 = .ok (.iconst 1, 1) := by decide +kernel
theorem dX7_goOn_144 : decode cX7_goOn 144 = .ok (.iadd, 1) := by decide +kernel
theorem dX7_goOn_145 : decode cX7_goOn 145 = .ok (.iconst (-1), 1) := by decide +kernel
theorem dX7_goOn_146 : decode cX7_goOn 146 = .ok (.iastore, 1) := by decide +kernel
theorem dX7_goOn_147 : decode cX7_goOn 147 = .ok (.aload_n 0, 1) := by decide +kernel
theorem dX7_goOn_148 : decode cX7_goOn 148 = .ok (.dup, 1) := by decide +kernel
theorem dX7_goOn_149 : decode cX7_goOn 149 = .ok (.getfield 25, 3) := by decide +kernel
theorem dX7_goOn_152 : decode cX7_goOn 152 = .ok (.iconst 1, 1) := by decide +kernel
theorem dX7_goOn_153 : decode cX7_goOn 153 = .ok (.iadd, 1) := by decide +kernel
theorem dX7_goOn_154 : decode cX7_goOn 154 = .ok (.putfield 25, 3) := by decide +kernel
theorem dX7_goOn_157 : decode cX7_goOn 157 = .ok (.return_, 1) := by decide +kernel
set_option maxHeartbeats 4000000 in
set_option maxRecDepth 100000 in
theorem s_X4_matching (lau : Launch) (gg : va_G) (kA : Nat → ClassId) (g : Nat) (rx : Nat) (ln : Nat) (o : Nat) (fr : Nat) (tm : Nat) (gf : Nat → Nat → Int32) (of : Nat → Int32) (hrx : rx < 10) (hln : ln ≤ 45) (hfr : fr ≤ tm) (htm : tm ≤ 60) : CtI lau yX4_matching cX4_matching 7 (some .int) 1 0 0 gg kA [.ref (g + 1 + rx), .int (nI ln), .ref o, .int (nI fr), .int (nI tm)] (mflat [(g, .inr (kA 6, kA 1, 10, 45, .inl gf)), (o, .inl (.inl (kA 1, 60, .inl of)))]) (S := Nat) (fun (r : Int32) (y_r : Nat) => r = nI y_r ∧ (y_r ≤ ln)) (fun (y_r : Nat) => mflat [(g, .inr (kA 6, kA 1, 10, 45, .inl gf)), (o, .inl (.inl (kA 1, 60, .inl of)))]) := by
  refine nx_startI (by decide +kernel) (Nat.le_of_ble_eq_true rfl) ?_
  intro x hnm h hq
  have h : Ok x cX4_matching RX4 kA (rmC 1 0 0) 7 := h
  show J x (mflat [(g, .inr (kA 6, kA 1, 10, 45, .inl gf)), (o, .inl (.inl (kA 1, 60, .inl of)))]) [(0, .ref (g + 1 + rx)), (1, .int (nI ln)), (2, .ref o), (3, .int (nI fr)), (4, .int (nI tm))] 0 0 0 []
  refine j_iload_n h 1 rfl rfl dX4_matching_0 ?_
  refine j_aload_n h 0 rfl rfl dX4_matching_1 ?_
  refine jm_glen (v := 45) h 0 1 rfl rfl rx (by omega) rfl dX4_matching_2 ?_
  refine j_mmin h tw_928 tw_809 tw_105 tw_810 (Nat.le_of_ble_eq_true rfl) (Nat.le_of_ble_eq_true rfl) (Nat.le_of_ble_eq_true rfl) (Nat.le_of_ble_eq_true rfl) (Nat.le_of_ble_eq_true rfl) dX4_matching_3 ?_
  refine j_top (b := nI (min ln 45)) (nx_min (a := ln) (b := 45) (by omega) (by omega)) ?_
  refine j_iload h 4 rfl dX4_matching_6 ?_
  refine j_aload_n h 2 rfl rfl dX4_matching_8 ?_
  refine jm_alen (v := 60) h 1 1 rfl rfl rfl dX4_matching_9 ?_
  refine j_mmin h tw_928 tw_809 tw_105 tw_810 (Nat.le_of_ble_eq_true rfl) (Nat.le_of_ble_eq_true rfl) (Nat.le_of_ble_eq_true rfl) (Nat.le_of_ble_eq_true rfl) (Nat.le_of_ble_eq_true rfl) dX4_matching_10 ?_
  refine j_top (b := nI (min tm 60)) (nx_min (a := tm) (b := 60) (by omega) (by omega)) ?_
  refine j_iload_n h 3 rfl rfl dX4_matching_13 ?_
  refine j_isub h dX4_matching_14 ?_
  refine j_top (b := nI ((min tm 60) - fr)) (pk_sub (a := (min tm 60)) (b := fr) (by omega)) ?_
  refine j_mmin h tw_928 tw_809 tw_105 tw_810 (Nat.le_of_ble_eq_true rfl) (Nat.le_of_ble_eq_true rfl) (Nat.le_of_ble_eq_true rfl) (Nat.le_of_ble_eq_true rfl) (Nat.le_of_ble_eq_true rfl) dX4_matching_15 ?_
  refine j_top (b := nI (min (min ln 45) ((min tm 60) - fr))) (nx_min (a := (min ln 45)) (b := ((min tm 60) - fr)) (by omega) (by omega)) ?_
  refine j_istore (lv' := [(5, .int (nI (min (min ln 45) ((min tm 60) - fr)))), (0, .ref (g + 1 + rx)), (1, .int (nI ln)), (2, .ref o), (3, .int (nI fr)), (4, .int (nI tm))]) h dX4_matching_18 (by decide) rfl ?_
  refine j_iconst (v := 0) h (by decide) dX4_matching_20 ?_
  refine j_istore (lv' := [(6, .int 0), (5, .int (nI (min (min ln 45) ((min tm 60) - fr)))), (0, .ref (g + 1 + rx)), (1, .int (nI ln)), (2, .ref o), (3, .int (nI fr)), (4, .int (nI tm))]) h dX4_matching_21 (by decide) rfl ?_
  have lp23_330 : ∀ (m23_330 : Nat), ∀ (v6_23_330 : Nat), (v6_23_330 ≤ 100000) → 100001 - v6_23_330 < m23_330 → J x (mflat [(g, .inr (kA 6, kA 1, 10, 45, .inl gf)), (o, .inl (.inl (kA 1, 60, .inl of)))]) [(6, .int (nI v6_23_330)), (5, .int (nI (min (min ln 45) ((min tm 60) - fr)))), (0, .ref (g + 1 + rx)), (1, .int (nI ln)), (2, .ref o), (3, .int (nI fr)), (4, .int (nI tm))] 0 0 23 [] := by
    intro m23_330
    induction m23_330 with
    | zero =>
      intro v6_23_330 i23_330_0 hm23_330
      exact absurd hm23_330 (Nat.not_lt_zero _)
    | succ m23_330 ih23_330 =>
      intro v6_23_330 i23_330_0 hm23_330
      refine j_iload h 0 rfl dX4_matching_23 ?_
      refine j_iload h 1 rfl dX4_matching_25 ?_
      refine j_icmp_ge h 52 dX4_matching_27 (by decide) (fun z2957 => ?_) (fun z2957 => ?_)
      · have z2957n : (min (min ln 45) ((min tm 60) - fr)) ≤ v6_23_330 := (nI_leI (a := (min (min ln 45) ((min tm 60) - fr))) (b := v6_23_330) (by omega) (by omega)).mp z2957
        refine j_iload h 1 rfl dX4_matching_52 ?_
        refine j_iconst (v := 0) h (by decide) dX4_matching_54 ?_
        refine j_mmax h tw_929 tw_803 tw_105 tw_804 (Nat.le_of_ble_eq_true rfl) (Nat.le_of_ble_eq_true rfl) (Nat.le_of_ble_eq_true rfl) (Nat.le_of_ble_eq_true rfl) (Nat.le_of_ble_eq_true rfl) dX4_matching_55 ?_
        refine j_top (b := nI (max (min (min ln 45) ((min tm 60) - fr)) 0)) (nx_max (a := (min (min ln 45) ((min tm 60) - fr))) (b := 0) (by omega) (by omega)) ?_
        exact jm_iret h hq dX4_matching_58 (max (min (min ln 45) ((min tm 60) - fr)) 0) [0, 1] rfl (by decide) ⟨rfl, (show (max (min (min ln 45) ((min tm 60) - fr)) 0) ≤ ln by first | assumption | omega)⟩ (Nat.le_of_ble_eq_true rfl) (Nat.le_of_ble_eq_true rfl)
      · have z2957n : ¬ (min (min ln 45) ((min tm 60) - fr)) ≤ v6_23_330 := fun q9 => z2957 ((nI_leI (a := (min (min ln 45) ((min tm 60) - fr))) (b := v6_23_330) (by omega) (by omega)).mpr q9)
        refine j_aload_n h 2 rfl rfl dX4_matching_30 ?_
        refine j_iload h 0 rfl dX4_matching_31 ?_
        refine jm_gald h 0 rfl rx (by omega) v6_23_330 rfl (by omega) (by omega) dX4_matching_33 ?_
        refine j_aload_n h 4 rfl rfl dX4_matching_34 ?_
        refine j_iload_n h 5 rfl rfl dX4_matching_35 ?_
        refine j_iload h 0 rfl dX4_matching_36 ?_
        refine j_iadd h dX4_matching_38 ?_
        refine j_top (b := nI (fr + v6_23_330)) (nI_add fr v6_23_330) ?_
        refine jm_iald h 1 rfl (fr + v6_23_330) rfl (by omega) (by omega) dX4_matching_39 ?_
        refine j_icmp_eq h 46 dX4_matching_40 (by decide) (fun z2958 => ?_) (fun z2958 => ?_)
        · show J x (mflat [(g, .inr (kA 6, kA 1, 10, 45, .inl gf)), (o, .inl (.inl (kA 1, 60, .inl of)))]) [(6, .int (nI v6_23_330)), (5, .int (nI (min (min ln 45) ((min tm 60) - fr)))), (0, .ref (g + 1 + rx)), (1, .int (nI ln)), (2, .ref o), (3, .int (nI fr)), (4, .int (nI tm))] 0 0 46 []
          refine j_iinc (v := nI (v6_23_330 + 1)) (lv' := [(6, .int (nI (v6_23_330 + 1))), (5, .int (nI (min (min ln 45) ((min tm 60) - fr)))), (0, .ref (g + 1 + rx)), (1, .int (nI ln)), (2, .ref o), (3, .int (nI fr)), (4, .int (nI tm))]) h dX4_matching_46 0 rfl (nI_add v6_23_330 1) (by decide) rfl ?_
          refine j_goto h 23 dX4_matching_49 (by decide) ?_
          refine jm_sub [0, 1] (w' := [(g, .inr (kA 6, kA 1, 10, 45, .inl gf)), (o, .inl (.inl (kA 1, 60, .inl of)))]) rfl (by decide +kernel) [0, 1, 2, 3, 4, 5, 6] (lv' := [(6, .int (nI (v6_23_330 + 1))), (5, .int (nI (min (min ln 45) ((min tm 60) - fr)))), (0, .ref (g + 1 + rx)), (1, .int (nI ln)), (2, .ref o), (3, .int (nI fr)), (4, .int (nI tm))]) rfl ?_
          exact ih23_330 (v6_23_330 + 1) (show (v6_23_330 + 1) ≤ 100000 by first | assumption | omega) (show 100001 - (v6_23_330 + 1) < m23_330 by first | exact Nat.lt_of_lt_of_le (Nat.sub_lt_sub_left (Nat.lt_of_le_of_lt (show v6_23_330 ≤ 100000 by assumption) (Nat.lt_succ_self 100000)) (Nat.lt_succ_self v6_23_330)) (Nat.le_of_lt_succ hm23_330) | omega)
        · show J x (mflat [(g, .inr (kA 6, kA 1, 10, 45, .inl gf)), (o, .inl (.inl (kA 1, 60, .inl of)))]) [(6, .int (nI v6_23_330)), (5, .int (nI (min (min ln 45) ((min tm 60) - fr)))), (0, .ref (g + 1 + rx)), (1, .int (nI ln)), (2, .ref o), (3, .int (nI fr)), (4, .int (nI tm))] 0 0 43 []
          refine j_iload h 0 rfl dX4_matching_43 ?_
          exact jm_iret h hq dX4_matching_45 v6_23_330 [0, 1] rfl (by decide) ⟨rfl, (show v6_23_330 ≤ ln by first | assumption | omega)⟩ (Nat.le_of_ble_eq_true rfl) (Nat.le_of_ble_eq_true rfl)
  refine jm_sub [0, 1] (w' := [(g, .inr (kA 6, kA 1, 10, 45, .inl gf)), (o, .inl (.inl (kA 1, 60, .inl of)))]) rfl (by decide +kernel) [0, 1, 2, 3, 4, 5, 6] (lv' := [(6, .int 0), (5, .int (nI (min (min ln 45) ((min tm 60) - fr)))), (0, .ref (g + 1 + rx)), (1, .int (nI ln)), (2, .ref o), (3, .int (nI fr)), (4, .int (nI tm))]) rfl ?_
  exact lp23_330 (100001 - 0 + 1) 0 (show 0 ≤ 100000 by first | assumption | omega) (Nat.lt_succ_self _)
set_option maxHeartbeats 4000000 in
set_option maxRecDepth 100000 in
theorem s_X4_matchingG (lau : Launch) (gg : va_G) (kA : Nat → ClassId) (g : Nat) (rx : Nat) (ln : Nat) (ry : Nat) (fr : Nat) (tm : Nat) (gf : Nat → Nat → Int32) (hrx : rx < 10) (hln : ln ≤ 45) (hfr : fr ≤ tm) (hry : ry < 10) (htm : tm ≤ 45) : CtI lau yX4_matching cX4_matching 7 (some .int) 1 0 0 gg kA [.ref (g + 1 + rx), .int (nI ln), .ref (g + 1 + ry), .int (nI fr), .int (nI tm)] (mflat [(g, .inr (kA 6, kA 1, 10, 45, .inl gf))]) (S := Nat) (fun (r : Int32) (y_r : Nat) => r = nI y_r ∧ (y_r ≤ ln)) (fun (y_r : Nat) => mflat [(g, .inr (kA 6, kA 1, 10, 45, .inl gf))]) := by
  refine nx_startI (by decide +kernel) (Nat.le_of_ble_eq_true rfl) ?_
  intro x hnm h hq
  have h : Ok x cX4_matching RX4 kA (rmC 1 0 0) 7 := h
  show J x (mflat [(g, .inr (kA 6, kA 1, 10, 45, .inl gf))]) [(0, .ref (g + 1 + rx)), (1, .int (nI ln)), (2, .ref (g + 1 + ry)), (3, .int (nI fr)), (4, .int (nI tm))] 0 0 0 []
  refine j_iload_n h 1 rfl rfl dX4_matching_0 ?_
  refine j_aload_n h 0 rfl rfl dX4_matching_1 ?_
  refine jm_glen (v := 45) h 0 1 rfl rfl rx (by omega) rfl dX4_matching_2 ?_
  refine j_mmin h tw_928 tw_809 tw_105 tw_810 (Nat.le_of_ble_eq_true rfl) (Nat.le_of_ble_eq_true rfl) (Nat.le_of_ble_eq_true rfl) (Nat.le_of_ble_eq_true rfl) (Nat.le_of_ble_eq_true rfl) dX4_matching_3 ?_
  refine j_top (b := nI (min ln 45)) (nx_min (a := ln) (b := 45) (by omega) (by omega)) ?_
  refine j_iload h 4 rfl dX4_matching_6 ?_
  refine j_aload_n h 2 rfl rfl dX4_matching_8 ?_
  refine jm_glen (v := 45) h 0 1 rfl rfl ry (by omega) rfl dX4_matching_9 ?_
  refine j_mmin h tw_928 tw_809 tw_105 tw_810 (Nat.le_of_ble_eq_true rfl) (Nat.le_of_ble_eq_true rfl) (Nat.le_of_ble_eq_true rfl) (Nat.le_of_ble_eq_true rfl) (Nat.le_of_ble_eq_true rfl) dX4_matching_10 ?_
  refine j_top (b := nI (min tm 45)) (nx_min (a := tm) (b := 45) (by omega) (by omega)) ?_
  refine j_iload_n h 3 rfl rfl dX4_matching_13 ?_
  refine j_isub h dX4_matching_14 ?_
  refine j_top (b := nI ((min tm 45) - fr)) (pk_sub (a := (min tm 45)) (b := fr) (by omega)) ?_
  refine j_mmin h tw_928 tw_809 tw_105 tw_810 (Nat.le_of_ble_eq_true rfl) (Nat.le_of_ble_eq_true rfl) (Nat.le_of_ble_eq_true rfl) (Nat.le_of_ble_eq_true rfl) (Nat.le_of_ble_eq_true rfl) dX4_matching_15 ?_
  refine j_top (b := nI (min (min ln 45) ((min tm 45) - fr))) (nx_min (a := (min ln 45)) (b := ((min tm 45) - fr)) (by omega) (by omega)) ?_
  refine j_istore (lv' := [(5, .int (nI (min (min ln 45) ((min tm 45) - fr)))), (0, .ref (g + 1 + rx)), (1, .int (nI ln)), (2, .ref (g + 1 + ry)), (3, .int (nI fr)), (4, .int (nI tm))]) h dX4_matching_18 (by decide) rfl ?_
  refine j_iconst (v := 0) h (by decide) dX4_matching_20 ?_
  refine j_istore (lv' := [(6, .int 0), (5, .int (nI (min (min ln 45) ((min tm 45) - fr)))), (0, .ref (g + 1 + rx)), (1, .int (nI ln)), (2, .ref (g + 1 + ry)), (3, .int (nI fr)), (4, .int (nI tm))]) h dX4_matching_21 (by decide) rfl ?_
  have lp23_336 : ∀ (m23_336 : Nat), ∀ (v6_23_336 : Nat), (v6_23_336 ≤ 100000) → 100001 - v6_23_336 < m23_336 → J x (mflat [(g, .inr (kA 6, kA 1, 10, 45, .inl gf))]) [(6, .int (nI v6_23_336)), (5, .int (nI (min (min ln 45) ((min tm 45) - fr)))), (0, .ref (g + 1 + rx)), (1, .int (nI ln)), (2, .ref (g + 1 + ry)), (3, .int (nI fr)), (4, .int (nI tm))] 0 0 23 [] := by
    intro m23_336
    induction m23_336 with
    | zero =>
      intro v6_23_336 i23_336_0 hm23_336
      exact absurd hm23_336 (Nat.not_lt_zero _)
    | succ m23_336 ih23_336 =>
      intro v6_23_336 i23_336_0 hm23_336
      refine j_iload h 0 rfl dX4_matching_23 ?_
      refine j_iload h 1 rfl dX4_matching_25 ?_
      refine j_icmp_ge h 52 dX4_matching_27 (by decide) (fun z2969 => ?_) (fun z2969 => ?_)
      · have z2969n : (min (min ln 45) ((min tm 45) - fr)) ≤ v6_23_336 := (nI_leI (a := (min (min ln 45) ((min tm 45) - fr))) (b := v6_23_336) (by omega) (by omega)).mp z2969
        refine j_iload h 1 rfl dX4_matching_52 ?_
        refine j_iconst (v := 0) h (by decide) dX4_matching_54 ?_
        refine j_mmax h tw_929 tw_803 tw_105 tw_804 (Nat.le_of_ble_eq_true rfl) (Nat.le_of_ble_eq_true rfl) (Nat.le_of_ble_eq_true rfl) (Nat.le_of_ble_eq_true rfl) (Nat.le_of_ble_eq_true rfl) dX4_matching_55 ?_
        refine j_top (b := nI (max (min (min ln 45) ((min tm 45) - fr)) 0)) (nx_max (a := (min (min ln 45) ((min tm 45) - fr))) (b := 0) (by omega) (by omega)) ?_
        exact jm_iret h hq dX4_matching_58 (max (min (min ln 45) ((min tm 45) - fr)) 0) [0] rfl (by decide) ⟨rfl, (show (max (min (min ln 45) ((min tm 45) - fr)) 0) ≤ ln by first | assumption | omega)⟩ (Nat.le_of_ble_eq_true rfl) (Nat.le_of_ble_eq_true rfl)
      · have z2969n : ¬ (min (min ln 45) ((min tm 45) - fr)) ≤ v6_23_336 := fun q9 => z2969 ((nI_leI (a := (min (min ln 45) ((min tm 45) - fr))) (b := v6_23_336) (by omega) (by omega)).mpr q9)
        refine j_aload_n h 2 rfl rfl dX4_matching_30 ?_
        refine j_iload h 0 rfl dX4_matching_31 ?_
        refine jm_gald h 0 rfl rx (by omega) v6_23_336 rfl (by omega) (by omega) dX4_matching_33 ?_
        refine j_aload_n h 4 rfl rfl dX4_matching_34 ?_
        refine j_iload_n h 5 rfl rfl dX4_matching_35 ?_
        refine j_iload h 0 rfl dX4_matching_36 ?_
        refine j_iadd h dX4_matching_38 ?_
        refine j_top (b := nI (fr + v6_23_336)) (nI_add fr v6_23_336) ?_
        refine jm_gald h 0 rfl ry (by omega) (fr + v6_23_336) rfl (by omega) (by omega) dX4_matching_39 ?_
        refine j_icmp_eq h 46 dX4_matching_40 (by decide) (fun z2970 => ?_) (fun z2970 => ?_)
        · show J x (mflat [(g, .inr (kA 6, kA 1, 10, 45, .inl gf))]) [(6, .int (nI v6_23_336)), (5, .int (nI (min (min ln 45) ((min tm 45) - fr)))), (0, .ref (g + 1 + rx)), (1, .int (nI ln)), (2, .ref (g + 1 + ry)), (3, .int (nI fr)), (4, .int (nI tm))] 0 0 46 []
          refine j_iinc (v := nI (v6_23_336 + 1)) (lv' := [(6, .int (nI (v6_23_336 + 1))), (5, .int (nI (min (min ln 45) ((min tm 45) - fr)))), (0, .ref (g + 1 + rx)), (1, .int (nI ln)), (2, .ref (g + 1 + ry)), (3, .int (nI fr)), (4, .int (nI tm))]) h dX4_matching_46 0 rfl (nI_add v6_23_336 1) (by decide) rfl ?_
          refine j_goto h 23 dX4_matching_49 (by decide) ?_
          refine jm_sub [0] (w' := [(g, .inr (kA 6, kA 1, 10, 45, .inl gf))]) rfl (by decide +kernel) [0, 1, 2, 3, 4, 5, 6] (lv' := [(6, .int (nI (v6_23_336 + 1))), (5, .int (nI (min (min ln 45) ((min tm 45) - fr)))), (0, .ref (g + 1 + rx)), (1, .int (nI ln)), (2, .ref (g + 1 + ry)), (3, .int (nI fr)), (4, .int (nI tm))]) rfl ?_
          exact ih23_336 (v6_23_336 + 1) (show (v6_23_336 + 1) ≤ 100000 by first | assumption | omega) (show 100001 - (v6_23_336 + 1) < m23_336 by first | exact Nat.lt_of_lt_of_le (Nat.sub_lt_sub_left (Nat.lt_of_le_of_lt (show v6_23_336 ≤ 100000 by assumption) (Nat.lt_succ_self 100000)) (Nat.lt_succ_self v6_23_336)) (Nat.le_of_lt_succ hm23_336) | omega)
        · show J x (mflat [(g, .inr (kA 6, kA 1, 10, 45, .inl gf))]) [(6, .int (nI v6_23_336)), (5, .int (nI (min (min ln 45) ((min tm 45) - fr)))), (0, .ref (g + 1 + rx)), (1, .int (nI ln)), (2, .ref (g + 1 + ry)), (3, .int (nI fr)), (4, .int (nI tm))] 0 0 43 []
          refine j_iload h 0 rfl dX4_matching_43 ?_
          exact jm_iret h hq dX4_matching_45 v6_23_336 [0] rfl (by decide) ⟨rfl, (show v6_23_336 ≤ ln by first | assumption | omega)⟩ (Nat.le_of_ble_eq_true rfl) (Nat.le_of_ble_eq_true rfl)
  refine jm_sub [0] (w' := [(g, .inr (kA 6, kA 1, 10, 45, .inl gf))]) rfl (by decide +kernel) [0, 1, 2, 3, 4, 5, 6] (lv' := [(6, .int 0), (5, .int (nI (min (min ln 45) ((min tm 45) - fr)))), (0, .ref (g + 1 + rx)), (1, .int (nI ln)), (2, .ref (g + 1 + ry)), (3, .int (nI fr)), (4, .int (nI tm))]) rfl ?_
  exact lp23_336 (100001 - 0 + 1) 0 (show 0 ≤ 100000 by first | assumption | omega) (Nat.lt_succ_self _)
set_option maxHeartbeats 4000000 in
set_option maxRecDepth 100000 in
theorem s_X4_learn (lau : Launch) (gg : va_G) (kA : Nat → ClassId) (v : Nat) (s : Nat) (lo : Nat) (er : Int32) (v0 : Nat) (v1 : Nat) (v2 : Nat) (v3 : Nat) (vbk : Int32) (vls : Nat → Nat → Int32) (vss : Nat → Int32) (vrd : Nat → Int64) (s0 : Nat) (s1 : Nat) (s2 : Nat) (s3 : Nat) (s4 : Nat) (s5 : Nat) (s6 : Nat) (s7 : Nat) (s8 : Nat) (s9 : Nat) (s10 : Nat) (s11 : Nat) (sn : Nat) (sl : Nat) (se : Nat) (sc1 : Nat → Int32) (sc5 : Nat → Int32) (sc6 : Nat → Nat → Int32) (sc10 : Nat → Int32) (sc11 : Nat → Int32) (lof : Nat → Int32) (hsn : sn ≤ 6) (hsl : sl ≤ 10) (hse : se ≤ 4) (hstk : TkOk sn sc1) (hssz : SzOk sl sc5) (hsrw : RwOk sl sn sc5 sc6) : CtV lau yX4_learn cX4_learn 5 (none) 4 0 0 gg kA [.ref v, .ref s, .ref lo, .int er] (mflat [(v, .inl (.inr (4, [.ref v0, .ref v1, .ref v2, .ref v3, .int vbk]))), (v0, .inr (kA 6, kA 1, 10, 45, .inl vls)), (v1, .inl (.inl (kA 1, 6, .inl vss))), (v3, .inl (.inl (kA 2, 2, .inr (.inl vrd)))), (s, .inl (.inr (5, [.ref s0, .ref s1, .ref s2, .ref s3, .ref s4, .ref s5, .ref s6, .ref s7, .ref s8, .ref s9, .ref s10, .ref s11, .int (nI sn), .int (nI sl), .int (nI se)]))), (s1, .inl (.inl (kA 1, 6, .inl sc1))), (s5, .inl (.inl (kA 1, 10, .inl sc5))), (s6, .inr (kA 6, kA 1, 10, 5, .inl sc6)), (s10, .inl (.inl (kA 1, 4, .inl sc10))), (s11, .inl (.inl (kA 1, 4, .inl sc11))), (lo, .inl (.inl (kA 1, 6, .inl lof)))]) (S := Int32 × (Nat → Nat → Int32) × (Nat → Int32) × (Nat → Int64)) (fun ((y_v_4, y_v0, y_v1, y_v3) : Int32 × (Nat → Nat → Int32) × (Nat → Int32) × (Nat → Int64)) => True) (fun ((y_v_4, y_v0, y_v1, y_v3) : Int32 × (Nat → Nat → Int32) × (Nat → Int32) × (Nat → Int64)) => mflat [(v, .inl (.inr (4, [.ref v0, .ref v1, .ref v2, .ref v3, .int y_v_4]))), (v0, .inr (kA 6, kA 1, 10, 45, .inl y_v0)), (v1, .inl (.inl (kA 1, 6, .inl y_v1))), (v3, .inl (.inl (kA 2, 2, .inr (.inl y_v3)))), (s, .inl (.inr (5, [.ref s0, .ref s1, .ref s2, .ref s3, .ref s4, .ref s5, .ref s6, .ref s7, .ref s8, .ref s9, .ref s10, .ref s11, .int (nI sn), .int (nI sl), .int (nI se)]))), (s1, .inl (.inl (kA 1, 6, .inl sc1))), (s5, .inl (.inl (kA 1, 10, .inl sc5))), (s6, .inr (kA 6, kA 1, 10, 5, .inl sc6)), (s10, .inl (.inl (kA 1, 4, .inl sc10))), (s11, .inl (.inl (kA 1, 4, .inl sc11))), (lo, .inl (.inl (kA 1, 6, .inl lof)))]) := by
  refine nx_startV (by decide +kernel) (Nat.le_of_ble_eq_true rfl) ?_
  intro x hnm h hq
  have h : Ok x cX4_learn RX4 kA (rmC 4 0 0) 5 := h
  show J x (mflat [(v, .inl (.inr (4, [.ref v0, .ref v1, .ref v2, .ref v3, .int vbk]))), (v0, .inr (kA 6, kA 1, 10, 45, .inl vls)), (v1, .inl (.inl (kA 1, 6, .inl vss))), (v3, .inl (.inl (kA 2, 2, .inr (.inl vrd)))), (s, .inl (.inr (5, [.ref s0, .ref s1, .ref s2, .ref s3, .ref s4, .ref s5, .ref s6, .ref s7, .ref s8, .ref s9, .ref s10, .ref s11, .int (nI sn), .int (nI sl), .int (nI se)]))), (s1, .inl (.inl (kA 1, 6, .inl sc1))), (s5, .inl (.inl (kA 1, 10, .inl sc5))), (s6, .inr (kA 6, kA 1, 10, 5, .inl sc6)), (s10, .inl (.inl (kA 1, 4, .inl sc10))), (s11, .inl (.inl (kA 1, 4, .inl sc11))), (lo, .inl (.inl (kA 1, 6, .inl lof)))]) [(0, .ref v), (1, .ref s), (2, .ref lo), (3, .int er)] 0 0 0 []
  refine j_aload_n h 0 rfl rfl dX4_learn_0 ?_
  refine j_aload_n h 1 rfl rfl dX4_learn_1 ?_
  refine j_iload_n h 3 rfl rfl dX4_learn_2 ?_
  refine jm_callVi (np := 1) (isC := [4]) (isR := [0, 1, 2, 3, 5, 6, 7, 8, 9, 10]) (wc := [(s, .inl (.inr (5, [.ref s0, .ref s1, .ref s2, .ref s3, .ref s4, .ref s5, .ref s6, .ref s7, .ref s8, .ref s9, .ref s10, .ref s11, .int (nI sn), .int (nI sl), .int (nI se)])))]) (wr := [(v, .inl (.inr (4, [.ref v0, .ref v1, .ref v2, .ref v3, .int vbk]))), (v0, .inr (kA 6, kA 1, 10, 45, .inl vls)), (v1, .inl (.inl (kA 1, 6, .inl vss))), (v3, .inl (.inl (kA 2, 2, .inr (.inl vrd)))), (s1, .inl (.inl (kA 1, 6, .inl sc1))), (s5, .inl (.inl (kA 1, 10, .inl sc5))), (s6, .inr (kA 6, kA 1, 10, 5, .inl sc6)), (s10, .inl (.inl (kA 1, 4, .inl sc10))), (s11, .inl (.inl (kA 1, 4, .inl sc11))), (lo, .inl (.inl (kA 1, 6, .inl lof)))]) (rest := [.ref v]) (As := [.int er]) (q0 := 0) h (s_X5_hasEar _ _ kA s er s0 s1 s2 s3 s4 s5 s6 s7 s8 s9 s10 s11 (nI sn) (nI sl) (nI se) ) tw_900 tw_790 tw_791 tw_90 tw_792 (by decide +kernel) rfl ⟨Nat.le_of_ble_eq_true rfl, Nat.le_of_ble_eq_true rfl⟩ rfl rfl (by decide +kernel) rfl rfl (by decide +kernel) (by decide +kernel) (Nat.le_of_ble_eq_true rfl) rfl ⟨Nat.le_of_ble_eq_true rfl, Nat.le_of_ble_eq_true rfl⟩ dX4_learn_3 ?_
  rintro r3120 _ e3119
  have p3121 := e3119
  subst p3121
  show J x (mflat [(v, .inl (.inr (4, [.ref v0, .ref v1, .ref v2, .ref v3, .int vbk]))), (v0, .inr (kA 6, kA 1, 10, 45, .inl vls)), (v1, .inl (.inl (kA 1, 6, .inl vss))), (v3, .inl (.inl (kA 2, 2, .inr (.inl vrd)))), (s1, .inl (.inl (kA 1, 6, .inl sc1))), (s5, .inl (.inl (kA 1, 10, .inl sc5))), (s6, .inr (kA 6, kA 1, 10, 5, .inl sc6)), (s10, .inl (.inl (kA 1, 4, .inl sc10))), (s11, .inl (.inl (kA 1, 4, .inl sc11))), (lo, .inl (.inl (kA 1, 6, .inl lof))), (s, .inl (.inr (5, [.ref s0, .ref s1, .ref s2, .ref s3, .ref s4, .ref s5, .ref s6, .ref s7, .ref s8, .ref s9, .ref s10, .ref s11, .int (nI sn), .int (nI sl), .int (nI se)])))]) [(0, .ref v), (1, .ref s), (2, .ref lo), (3, .int er)] 0 0 6 [.int (bIx er (nI se)), .ref v]
  rcases bIx_cases er se (by omega) with hTj3122 | ⟨j3122, hj3122, rfl, hBj3122⟩
  · refine j_top (b := 0) hTj3122 ?_
    show J x (mflat [(v, .inl (.inr (4, [.ref v0, .ref v1, .ref v2, .ref v3, .int vbk]))), (v0, .inr (kA 6, kA 1, 10, 45, .inl vls)), (v1, .inl (.inl (kA 1, 6, .inl vss))), (v3, .inl (.inl (kA 2, 2, .inr (.inl vrd)))), (s1, .inl (.inl (kA 1, 6, .inl sc1))), (s5, .inl (.inl (kA 1, 10, .inl sc5))), (s6, .inr (kA 6, kA 1, 10, 5, .inl sc6)), (s10, .inl (.inl (kA 1, 4, .inl sc10))), (s11, .inl (.inl (kA 1, 4, .inl sc11))), (lo, .inl (.inl (kA 1, 6, .inl lof))), (s, .inl (.inr (5, [.ref s0, .ref s1, .ref s2, .ref s3, .ref s4, .ref s5, .ref s6, .ref s7, .ref s8, .ref s9, .ref s10, .ref s11, .int (nI sn), .int (nI sl), .int (nI se)])))]) [(0, .ref v), (1, .ref s), (2, .ref lo), (3, .int er)] 0 0 6 [.int 0, .ref v]
    refine j_if_eq h 18 dX4_learn_6 (by decide) (fun _ => ?_) (fun q => absurd (by decide) q)
    refine j_iconst (v := 0) h (by decide) dX4_learn_18 ?_
    refine jm_put (w' := [(v, .inl (.inr (4, [.ref v0, .ref v1, .ref v2, .ref v3, .int 0]))), (v0, .inr (kA 6, kA 1, 10, 45, .inl vls)), (v1, .inl (.inl (kA 1, 6, .inl vss))), (v3, .inl (.inl (kA 2, 2, .inr (.inl vrd)))), (s1, .inl (.inl (kA 1, 6, .inl sc1))), (s5, .inl (.inl (kA 1, 10, .inl sc5))), (s6, .inr (kA 6, kA 1, 10, 5, .inl sc6)), (s10, .inl (.inl (kA 1, 4, .inl sc10))), (s11, .inl (.inl (kA 1, 4, .inl sc11))), (lo, .inl (.inl (kA 1, 6, .inl lof))), (s, .inl (.inr (5, [.ref s0, .ref s1, .ref s2, .ref s3, .ref s4, .ref s5, .ref s6, .ref s7, .ref s8, .ref s9, .ref s10, .ref s11, .int (nI sn), .int (nI sl), .int (nI se)])))]) h iw_X4 tyX4 tyX4_ok nmX4 0 rfl rfl 4 (by decide +kernel) tw_425 rfl rfl rfl (Nat.le_of_ble_eq_true rfl) dX4_learn_19 rfl ?_
    refine j_iconst (v := 0) h (by decide) dX4_learn_22 ?_
    refine j_istore (lv' := [(4, .int 0), (0, .ref v), (1, .ref s), (2, .ref lo), (3, .int er)]) h dX4_learn_23 (by decide) rfl ?_
    have lp25_369 : ∀ (m25_369 : Nat), ∀ (v4_25_369 : Nat) (fv1_25_369 : Nat → Int32), (v4_25_369 ≤ 100000) → 100001 - v4_25_369 < m25_369 → J x (mflat [(v, .inl (.inr (4, [.ref v0, .ref v1, .ref v2, .ref v3, .int 0]))), (v0, .inr (kA 6, kA 1, 10, 45, .inl vls)), (v1, .inl (.inl (kA 1, 6, .inl fv1_25_369))), (v3, .inl (.inl (kA 2, 2, .inr (.inl vrd)))), (s1, .inl (.inl (kA 1, 6, .inl sc1))), (s5, .inl (.inl (kA 1, 10, .inl sc5))), (s6, .inr (kA 6, kA 1, 10, 5, .inl sc6)), (s10, .inl (.inl (kA 1, 4, .inl sc10))), (s11, .inl (.inl (kA 1, 4, .inl sc11))), (lo, .inl (.inl (kA 1, 6, .inl lof))), (s, .inl (.inr (5, [.ref s0, .ref s1, .ref s2, .ref s3, .ref s4, .ref s5, .ref s6, .ref s7, .ref s8, .ref s9, .ref s10, .ref s11, .int (nI sn), .int (nI sl), .int (nI se)])))]) [(4, .int (nI v4_25_369)), (0, .ref v), (1, .ref s), (2, .ref lo), (3, .int er)] 0 0 25 [] := by
      intro m25_369
      induction m25_369 with
      | zero =>
        intro v4_25_369 fv1_25_369 i25_369_0 hm25_369
        exact absurd hm25_369 (Nat.not_lt_zero _)
      | succ m25_369 ih25_369 =>
        intro v4_25_369 fv1_25_369 i25_369_0 hm25_369
        refine j_iload h 0 rfl dX4_learn_25 ?_
        refine j_aload_n h 2 rfl rfl dX4_learn_27 ?_
        refine jm_get h iw_X5 10 rfl rfl 12 (by decide +kernel) tw_218 rfl dX4_learn_28 ?_
        refine j_icmp_ge h 56 dX4_learn_31 (by decide) (fun z3171 => ?_) (fun z3171 => ?_)
        · have z3171n : sn ≤ v4_25_369 := (nI_leI (a := sn) (b := v4_25_369) (by omega) (by omega)).mp z3171
          refine j_iconst (v := 0) h (by decide) dX4_learn_56 ?_
          refine j_istore (lv' := [(4, .int 0), (0, .ref v), (1, .ref s), (2, .ref lo), (3, .int er)]) h dX4_learn_57 (by decide) rfl ?_
          have lp59_372 : ∀ (m59_372 : Nat), ∀ (v4_59_372 : Nat) (fv0_59_372 : Nat → Nat → Int32), (v4_59_372 ≤ 100000) → 100001 - v4_59_372 < m59_372 → J x (mflat [(v, .inl (.inr (4, [.ref v0, .ref v1, .ref v2, .ref v3, .int 0]))), (v0, .inr (kA 6, kA 1, 10, 45, .inl fv0_59_372)), (v1, .inl (.inl (kA 1, 6, .inl fv1_25_369))), (v3, .inl (.inl (kA 2, 2, .inr (.inl vrd)))), (s1, .inl (.inl (kA 1, 6, .inl sc1))), (s5, .inl (.inl (kA 1, 10, .inl sc5))), (s6, .inr (kA 6, kA 1, 10, 5, .inl sc6)), (s10, .inl (.inl (kA 1, 4, .inl sc10))), (s11, .inl (.inl (kA 1, 4, .inl sc11))), (lo, .inl (.inl (kA 1, 6, .inl lof))), (s, .inl (.inr (5, [.ref s0, .ref s1, .ref s2, .ref s3, .ref s4, .ref s5, .ref s6, .ref s7, .ref s8, .ref s9, .ref s10, .ref s11, .int (nI sn), .int (nI sl), .int (nI se)])))]) [(4, .int (nI v4_59_372)), (0, .ref v), (1, .ref s), (2, .ref lo), (3, .int er)] 0 0 59 [] := by
            intro m59_372
            induction m59_372 with
            | zero =>
              intro v4_59_372 fv0_59_372 i59_372_0 hm59_372
              exact absurd hm59_372 (Nat.not_lt_zero _)
            | succ m59_372 ih59_372 =>
              intro v4_59_372 fv0_59_372 i59_372_0 hm59_372
              refine j_iload h 0 rfl dX4_learn_59 ?_
              refine j_aload_n h 2 rfl rfl dX4_learn_61 ?_
              refine jm_get h iw_X5 10 rfl rfl 13 (by decide +kernel) tw_224 rfl dX4_learn_62 ?_
              refine j_icmp_ge h 91 dX4_learn_65 (by decide) (fun z3186 => ?_) (fun z3186 => ?_)
              · have z3186n : sl ≤ v4_59_372 := (nI_leI (a := sl) (b := v4_59_372) (by omega) (by omega)).mp z3186
                refine j_aload_n h 1 rfl rfl dX4_learn_91 ?_
                refine jm_get h iw_X4 0 rfl rfl 3 (by decide +kernel) tw_424 rfl dX4_learn_92 ?_
                refine j_iconst (v := 0) h (by decide) dX4_learn_95 ?_
                refine j_lconst (v := 1) h (by decide) dX4_learn_96 ?_
                refine jm_last (w' := [(v, .inl (.inr (4, [.ref v0, .ref v1, .ref v2, .ref v3, .int 0]))), (v0, .inr (kA 6, kA 1, 10, 45, .inl fv0_59_372)), (v1, .inl (.inl (kA 1, 6, .inl fv1_25_369))), (v3, .inl (.inl (kA 2, 2, .inr (.inl (vp_updL vrd 0 1))))), (s1, .inl (.inl (kA 1, 6, .inl sc1))), (s5, .inl (.inl (kA 1, 10, .inl sc5))), (s6, .inr (kA 6, kA 1, 10, 5, .inl sc6)), (s10, .inl (.inl (kA 1, 4, .inl sc10))), (s11, .inl (.inl (kA 1, 4, .inl sc11))), (lo, .inl (.inl (kA 1, 6, .inl lof))), (s, .inl (.inr (5, [.ref s0, .ref s1, .ref s2, .ref s3, .ref s4, .ref s5, .ref s6, .ref s7, .ref s8, .ref s9, .ref s10, .ref s11, .int (nI sn), .int (nI sl), .int (nI se)])))]) h 3 rfl 0 (by decide +kernel) (by decide +kernel) (by omega) dX4_learn_97 rfl ?_
                refine j_aload_n h 1 rfl rfl dX4_learn_98 ?_
                refine jm_get h iw_X4 0 rfl rfl 3 (by decide +kernel) tw_424 rfl dX4_learn_99 ?_
                refine j_iconst (v := 1) h (by decide) dX4_learn_102 ?_
                refine j_lconst (v := 0) h (by decide) dX4_learn_103 ?_
                refine jm_last (w' := [(v, .inl (.inr (4, [.ref v0, .ref v1, .ref v2, .ref v3, .int 0]))), (v0, .inr (kA 6, kA 1, 10, 45, .inl fv0_59_372)), (v1, .inl (.inl (kA 1, 6, .inl fv1_25_369))), (v3, .inl (.inl (kA 2, 2, .inr (.inl (vp_updL (vp_updL vrd 0 1) 1 0))))), (s1, .inl (.inl (kA 1, 6, .inl sc1))), (s5, .inl (.inl (kA 1, 10, .inl sc5))), (s6, .inr (kA 6, kA 1, 10, 5, .inl sc6)), (s10, .inl (.inl (kA 1, 4, .inl sc10))), (s11, .inl (.inl (kA 1, 4, .inl sc11))), (lo, .inl (.inl (kA 1, 6, .inl lof))), (s, .inl (.inr (5, [.ref s0, .ref s1, .ref s2, .ref s3, .ref s4, .ref s5, .ref s6, .ref s7, .ref s8, .ref s9, .ref s10, .ref s11, .int (nI sn), .int (nI sl), .int (nI se)])))]) h 3 rfl 1 (by decide +kernel) (by decide +kernel) (by omega) dX4_learn_104 rfl ?_
                exact jm_vret h hq dX4_learn_105 (0, fv0_59_372, fv1_25_369, (vp_updL (vp_updL vrd 0 1) 1 0)) [0, 1, 2, 3, 10, 4, 5, 6, 7, 8, 9] rfl (by decide) trivial (Nat.le_of_ble_eq_true rfl) (Nat.le_of_ble_eq_true rfl)
              · have z3186n : ¬ sl ≤ v4_59_372 := fun q9 => z3186 ((nI_leI (a := sl) (b := v4_59_372) (by omega) (by omega)).mpr q9)
                refine j_aload_n h 2 rfl rfl dX4_learn_68 ?_
                refine j_iload h 0 rfl dX4_learn_69 ?_
                refine j_aload_n h 3 rfl rfl dX4_learn_71 ?_
                refine j_iload_n h 4 rfl rfl dX4_learn_72 ?_
                refine j_aload_n h 1 rfl rfl dX4_learn_73 ?_
                refine jm_get h iw_X4 0 rfl rfl 0 (by decide +kernel) tw_421 rfl dX4_learn_74 ?_
                refine j_iload h 0 rfl dX4_learn_77 ?_
                refine jm_gout h 1 6 rfl rfl v4_59_372 rfl (by omega) (by omega) dX4_learn_79 ?_
                refine j_iconst (v := 0) h (by decide) dX4_learn_80 ?_
                refine jm_callVi (np := 5) (isC := [10, 4, 5, 6, 7, 9, 1]) (isR := [0, 2, 3, 8]) (wc := [(s, .inl (.inr (5, [.ref s0, .ref s1, .ref s2, .ref s3, .ref s4, .ref s5, .ref s6, .ref s7, .ref s8, .ref s9, .ref s10, .ref s11, .int (nI sn), .int (nI sl), .int (nI se)]))), (s1, .inl (.inl (kA 1, 6, .inl sc1))), (s5, .inl (.inl (kA 1, 10, .inl sc5))), (s6, .inr (kA 6, kA 1, 10, 5, .inl sc6)), (s10, .inl (.inl (kA 1, 4, .inl sc10))), (lo, .inl (.inl (kA 1, 6, .inl lof))), (v0, .inr (kA 6, kA 1, 10, 45, .inl fv0_59_372))]) (wr := [(v, .inl (.inr (4, [.ref v0, .ref v1, .ref v2, .ref v3, .int 0]))), (v1, .inl (.inl (kA 1, 6, .inl fv1_25_369))), (v3, .inl (.inl (kA 2, 2, .inr (.inl vrd)))), (s11, .inl (.inl (kA 1, 4, .inl sc11)))]) (rest := []) (As := [.int (nI v4_59_372), .ref lo, .int er, .ref (v0 + 1 + v4_59_372), .int 0]) (q0 := 0) h (s_X5_hearLetterG _ _ kA s v4_59_372 lo er v0 v4_59_372 0 s0 s1 s2 s3 s4 s5 s6 s7 s8 s9 s10 s11 sn sl se sc1 sc5 sc6 sc10 lof fv0_59_372 (show sn ≤ 6 by first | assumption | omega) (show sl ≤ 10 by first | assumption | omega) (show se ≤ 4 by first | assumption | omega) (show TkOk sn sc1 by first | assumption | omega) (show SzOk sl sc5 by first | assumption | omega) (show RwOk sl sn sc5 sc6 by first | assumption | omega) (show v4_59_372 < sl by first | assumption | omega) (show v4_59_372 < 10 by first | assumption | omega) (show 0 ≤ 45 by first | assumption | omega)) tw_902 tw_903 tw_904 tw_90 tw_905 (by decide +kernel) rfl ⟨Nat.le_of_ble_eq_true rfl, Nat.le_of_ble_eq_true rfl⟩ rfl rfl (by decide +kernel) rfl rfl (by decide +kernel) (by decide +kernel) (Nat.le_of_ble_eq_true rfl) rfl ⟨Nat.le_of_ble_eq_true rfl, Nat.le_of_ble_eq_true rfl⟩ dX4_learn_81 ?_
                rintro r3190 ⟨q3187, q3188⟩ e3189
                obtain ⟨p3191, p3192⟩ := e3189
                subst p3191
                replace p3192 : q3187 ≤ 45 := p3192
                show J x (mflat [(v, .inl (.inr (4, [.ref v0, .ref v1, .ref v2, .ref v3, .int 0]))), (v1, .inl (.inl (kA 1, 6, .inl fv1_25_369))), (v3, .inl (.inl (kA 2, 2, .inr (.inl vrd)))), (s11, .inl (.inl (kA 1, 4, .inl sc11))), (s, .inl (.inr (5, [.ref s0, .ref s1, .ref s2, .ref s3, .ref s4, .ref s5, .ref s6, .ref s7, .ref s8, .ref s9, .ref s10, .ref s11, .int (nI sn), .int (nI sl), .int (nI se)]))), (s1, .inl (.inl (kA 1, 6, .inl sc1))), (s5, .inl (.inl (kA 1, 10, .inl sc5))), (s6, .inr (kA 6, kA 1, 10, 5, .inl sc6)), (s10, .inl (.inl (kA 1, 4, .inl sc10))), (lo, .inl (.inl (kA 1, 6, .inl lof))), (v0, .inr (kA 6, kA 1, 10, 45, .inl q3188))]) [(4, .int (nI v4_59_372)), (0, .ref v), (1, .ref s), (2, .ref lo), (3, .int er)] 0 0 84 [.int (nI q3187)]
                refine j_pop h rfl dX4_learn_84 ?_
                refine j_iinc (v := nI (v4_59_372 + 1)) (lv' := [(4, .int (nI (v4_59_372 + 1))), (0, .ref v), (1, .ref s), (2, .ref lo), (3, .int er)]) h dX4_learn_85 0 rfl (nI_add v4_59_372 1) (by decide) rfl ?_
                refine j_goto h 59 dX4_learn_88 (by decide) ?_
                refine jm_sub [0, 10, 1, 2, 5, 6, 7, 8, 3, 9, 4] (w' := [(v, .inl (.inr (4, [.ref v0, .ref v1, .ref v2, .ref v3, .int 0]))), (v0, .inr (kA 6, kA 1, 10, 45, .inl q3188)), (v1, .inl (.inl (kA 1, 6, .inl fv1_25_369))), (v3, .inl (.inl (kA 2, 2, .inr (.inl vrd)))), (s1, .inl (.inl (kA 1, 6, .inl sc1))), (s5, .inl (.inl (kA 1, 10, .inl sc5))), (s6, .inr (kA 6, kA 1, 10, 5, .inl sc6)), (s10, .inl (.inl (kA 1, 4, .inl sc10))), (s11, .inl (.inl (kA 1, 4, .inl sc11))), (lo, .inl (.inl (kA 1, 6, .inl lof))), (s, .inl (.inr (5, [.ref s0, .ref s1, .ref s2, .ref s3, .ref s4, .ref s5, .ref s6, .ref s7, .ref s8, .ref s9, .ref s10, .ref s11, .int (nI sn), .int (nI sl), .int (nI se)])))]) rfl (by decide +kernel) [0, 1, 2, 3, 4] (lv' := [(4, .int (nI (v4_59_372 + 1))), (0, .ref v), (1, .ref s), (2, .ref lo), (3, .int er)]) rfl ?_
                exact ih59_372 (v4_59_372 + 1) q3188 (show (v4_59_372 + 1) ≤ 100000 by first | assumption | omega) (show 100001 - (v4_59_372 + 1) < m59_372 by first | exact Nat.lt_of_lt_of_le (Nat.sub_lt_sub_left (Nat.lt_of_le_of_lt (show v4_59_372 ≤ 100000 by assumption) (Nat.lt_succ_self 100000)) (Nat.lt_succ_self v4_59_372)) (Nat.le_of_lt_succ hm59_372) | omega)
          refine jm_sub [0, 1, 2, 3, 4, 5, 6, 7, 8, 9, 10] (w' := [(v, .inl (.inr (4, [.ref v0, .ref v1, .ref v2, .ref v3, .int 0]))), (v0, .inr (kA 6, kA 1, 10, 45, .inl vls)), (v1, .inl (.inl (kA 1, 6, .inl fv1_25_369))), (v3, .inl (.inl (kA 2, 2, .inr (.inl vrd)))), (s1, .inl (.inl (kA 1, 6, .inl sc1))), (s5, .inl (.inl (kA 1, 10, .inl sc5))), (s6, .inr (kA 6, kA 1, 10, 5, .inl sc6)), (s10, .inl (.inl (kA 1, 4, .inl sc10))), (s11, .inl (.inl (kA 1, 4, .inl sc11))), (lo, .inl (.inl (kA 1, 6, .inl lof))), (s, .inl (.inr (5, [.ref s0, .ref s1, .ref s2, .ref s3, .ref s4, .ref s5, .ref s6, .ref s7, .ref s8, .ref s9, .ref s10, .ref s11, .int (nI sn), .int (nI sl), .int (nI se)])))]) rfl (by decide +kernel) [0, 1, 2, 3, 4] (lv' := [(4, .int 0), (0, .ref v), (1, .ref s), (2, .ref lo), (3, .int er)]) rfl ?_
          exact lp59_372 (100001 - 0 + 1) 0 vls (show 0 ≤ 100000 by first | assumption | omega) (Nat.lt_succ_self _)
        · have z3171n : ¬ sn ≤ v4_25_369 := fun q9 => z3171 ((nI_leI (a := sn) (b := v4_25_369) (by omega) (by omega)).mpr q9)
          refine j_aload_n h 1 rfl rfl dX4_learn_34 ?_
          refine jm_get h iw_X4 0 rfl rfl 1 (by decide +kernel) tw_422 rfl dX4_learn_35 ?_
          refine j_iload h 0 rfl dX4_learn_38 ?_
          refine j_aload_n h 2 rfl rfl dX4_learn_40 ?_
          refine j_aload_n h 3 rfl rfl dX4_learn_41 ?_
          refine j_iload h 0 rfl dX4_learn_42 ?_
          refine jm_iald h 9 rfl v4_25_369 rfl (by omega) (by omega) dX4_learn_44 ?_
          refine j_iload_n h 4 rfl rfl dX4_learn_45 ?_
          refine jm_callVi (np := 2) (isC := [10, 7]) (isR := [0, 1, 2, 3, 4, 5, 6, 8, 9]) (wc := [(s, .inl (.inr (5, [.ref s0, .ref s1, .ref s2, .ref s3, .ref s4, .ref s5, .ref s6, .ref s7, .ref s8, .ref s9, .ref s10, .ref s11, .int (nI sn), .int (nI sl), .int (nI se)]))), (s10, .inl (.inl (kA 1, 4, .inl sc10)))]) (wr := [(v, .inl (.inr (4, [.ref v0, .ref v1, .ref v2, .ref v3, .int 0]))), (v0, .inr (kA 6, kA 1, 10, 45, .inl vls)), (v1, .inl (.inl (kA 1, 6, .inl fv1_25_369))), (v3, .inl (.inl (kA 2, 2, .inr (.inl vrd)))), (s1, .inl (.inl (kA 1, 6, .inl sc1))), (s5, .inl (.inl (kA 1, 10, .inl sc5))), (s6, .inr (kA 6, kA 1, 10, 5, .inl sc6)), (s11, .inl (.inl (kA 1, 4, .inl sc11))), (lo, .inl (.inl (kA 1, 6, .inl lof)))]) (rest := [.int (nI v4_25_369), .ref v1]) (As := [.int (lof v4_25_369), .int er]) (q0 := 0) h (s_X5_heardBelow _ _ kA s (lof v4_25_369) er s0 s1 s2 s3 s4 s5 s6 s7 s8 s9 s10 s11 sn sl se sc10 (show sn ≤ 6 by first | assumption | omega) (show sl ≤ 10 by first | assumption | omega) (show se ≤ 4 by first | assumption | omega)) tw_901 tw_798 tw_799 tw_90 tw_800 (by decide +kernel) rfl ⟨Nat.le_of_ble_eq_true rfl, Nat.le_of_ble_eq_true rfl⟩ rfl rfl (by decide +kernel) rfl rfl (by decide +kernel) (by decide +kernel) (Nat.le_of_ble_eq_true rfl) rfl ⟨Nat.le_of_ble_eq_true rfl, Nat.le_of_ble_eq_true rfl⟩ dX4_learn_46 ?_
          rintro r3194 _ e3193
          show J x (mflat [(v, .inl (.inr (4, [.ref v0, .ref v1, .ref v2, .ref v3, .int 0]))), (v0, .inr (kA 6, kA 1, 10, 45, .inl vls)), (v1, .inl (.inl (kA 1, 6, .inl fv1_25_369))), (v3, .inl (.inl (kA 2, 2, .inr (.inl vrd)))), (s1, .inl (.inl (kA 1, 6, .inl sc1))), (s5, .inl (.inl (kA 1, 10, .inl sc5))), (s6, .inr (kA 6, kA 1, 10, 5, .inl sc6)), (s11, .inl (.inl (kA 1, 4, .inl sc11))), (lo, .inl (.inl (kA 1, 6, .inl lof))), (s, .inl (.inr (5, [.ref s0, .ref s1, .ref s2, .ref s3, .ref s4, .ref s5, .ref s6, .ref s7, .ref s8, .ref s9, .ref s10, .ref s11, .int (nI sn), .int (nI sl), .int (nI se)]))), (s10, .inl (.inl (kA 1, 4, .inl sc10)))]) [(4, .int (nI v4_25_369)), (0, .ref v), (1, .ref s), (2, .ref lo), (3, .int er)] 0 0 49 [.int r3194, .int (nI v4_25_369), .ref v1]
          refine jm_iast (w' := [(v, .inl (.inr (4, [.ref v0, .ref v1, .ref v2, .ref v3, .int 0]))), (v0, .inr (kA 6, kA 1, 10, 45, .inl vls)), (v1, .inl (.inl (kA 1, 6, .inl (upd fv1_25_369 v4_25_369 r3194)))), (v3, .inl (.inl (kA 2, 2, .inr (.inl vrd)))), (s1, .inl (.inl (kA 1, 6, .inl sc1))), (s5, .inl (.inl (kA 1, 10, .inl sc5))), (s6, .inr (kA 6, kA 1, 10, 5, .inl sc6)), (s11, .inl (.inl (kA 1, 4, .inl sc11))), (lo, .inl (.inl (kA 1, 6, .inl lof))), (s, .inl (.inr (5, [.ref s0, .ref s1, .ref s2, .ref s3, .ref s4, .ref s5, .ref s6, .ref s7, .ref s8, .ref s9, .ref s10, .ref s11, .int (nI sn), .int (nI sl), .int (nI se)]))), (s10, .inl (.inl (kA 1, 4, .inl sc10)))]) h 2 rfl v4_25_369 rfl (by omega) (by omega) dX4_learn_49 rfl ?_
          refine j_iinc (v := nI (v4_25_369 + 1)) (lv' := [(4, .int (nI (v4_25_369 + 1))), (0, .ref v), (1, .ref s), (2, .ref lo), (3, .int er)]) h dX4_learn_50 0 rfl (nI_add v4_25_369 1) (by decide) rfl ?_
          refine j_goto h 25 dX4_learn_53 (by decide) ?_
          refine jm_sub [0, 1, 2, 3, 4, 5, 6, 10, 7, 8, 9] (w' := [(v, .inl (.inr (4, [.ref v0, .ref v1, .ref v2, .ref v3, .int 0]))), (v0, .inr (kA 6, kA 1, 10, 45, .inl vls)), (v1, .inl (.inl (kA 1, 6, .inl (upd fv1_25_369 v4_25_369 r3194)))), (v3, .inl (.inl (kA 2, 2, .inr (.inl vrd)))), (s1, .inl (.inl (kA 1, 6, .inl sc1))), (s5, .inl (.inl (kA 1, 10, .inl sc5))), (s6, .inr (kA 6, kA 1, 10, 5, .inl sc6)), (s10, .inl (.inl (kA 1, 4, .inl sc10))), (s11, .inl (.inl (kA 1, 4, .inl sc11))), (lo, .inl (.inl (kA 1, 6, .inl lof))), (s, .inl (.inr (5, [.ref s0, .ref s1, .ref s2, .ref s3, .ref s4, .ref s5, .ref s6, .ref s7, .ref s8, .ref s9, .ref s10, .ref s11, .int (nI sn), .int (nI sl), .int (nI se)])))]) rfl (by decide +kernel) [0, 1, 2, 3, 4] (lv' := [(4, .int (nI (v4_25_369 + 1))), (0, .ref v), (1, .ref s), (2, .ref lo), (3, .int er)]) rfl ?_
          exact ih25_369 (v4_25_369 + 1) (upd fv1_25_369 v4_25_369 r3194) (show (v4_25_369 + 1) ≤ 100000 by first | assumption | omega) (show 100001 - (v4_25_369 + 1) < m25_369 by first | exact Nat.lt_of_lt_of_le (Nat.sub_lt_sub_left (Nat.lt_of_le_of_lt (show v4_25_369 ≤ 100000 by assumption) (Nat.lt_succ_self 100000)) (Nat.lt_succ_self v4_25_369)) (Nat.le_of_lt_succ hm25_369) | omega)
    refine jm_sub [0, 1, 2, 3, 4, 5, 6, 7, 8, 9, 10] (w' := [(v, .inl (.inr (4, [.ref v0, .ref v1, .ref v2, .ref v3, .int 0]))), (v0, .inr (kA 6, kA 1, 10, 45, .inl vls)), (v1, .inl (.inl (kA 1, 6, .inl vss))), (v3, .inl (.inl (kA 2, 2, .inr (.inl vrd)))), (s1, .inl (.inl (kA 1, 6, .inl sc1))), (s5, .inl (.inl (kA 1, 10, .inl sc5))), (s6, .inr (kA 6, kA 1, 10, 5, .inl sc6)), (s10, .inl (.inl (kA 1, 4, .inl sc10))), (s11, .inl (.inl (kA 1, 4, .inl sc11))), (lo, .inl (.inl (kA 1, 6, .inl lof))), (s, .inl (.inr (5, [.ref s0, .ref s1, .ref s2, .ref s3, .ref s4, .ref s5, .ref s6, .ref s7, .ref s8, .ref s9, .ref s10, .ref s11, .int (nI sn), .int (nI sl), .int (nI se)])))]) rfl (by decide +kernel) [0, 1, 2, 3, 4] (lv' := [(4, .int 0), (0, .ref v), (1, .ref s), (2, .ref lo), (3, .int er)]) rfl ?_
    exact lp25_369 (100001 - 0 + 1) 0 vss (show 0 ≤ 100000 by first | assumption | omega) (Nat.lt_succ_self _)
  · refine j_top (b := 1) hBj3122 ?_
    show J x (mflat [(v, .inl (.inr (4, [.ref v0, .ref v1, .ref v2, .ref v3, .int vbk]))), (v0, .inr (kA 6, kA 1, 10, 45, .inl vls)), (v1, .inl (.inl (kA 1, 6, .inl vss))), (v3, .inl (.inl (kA 2, 2, .inr (.inl vrd)))), (s1, .inl (.inl (kA 1, 6, .inl sc1))), (s5, .inl (.inl (kA 1, 10, .inl sc5))), (s6, .inr (kA 6, kA 1, 10, 5, .inl sc6)), (s10, .inl (.inl (kA 1, 4, .inl sc10))), (s11, .inl (.inl (kA 1, 4, .inl sc11))), (lo, .inl (.inl (kA 1, 6, .inl lof))), (s, .inl (.inr (5, [.ref s0, .ref s1, .ref s2, .ref s3, .ref s4, .ref s5, .ref s6, .ref s7, .ref s8, .ref s9, .ref s10, .ref s11, .int (nI sn), .int (nI sl), .int (nI se)])))]) [(0, .ref v), (1, .ref s), (2, .ref lo), (3, .int (nI j3122))] 0 0 6 [.int 1, .ref v]
    refine j_if_eq h 18 dX4_learn_6 (by decide) (fun q => absurd q (by decide)) (fun _ => ?_)
    refine j_aload_n h 1 rfl rfl dX4_learn_9 ?_
    refine jm_get h iw_X5 10 rfl rfl 11 (by decide +kernel) tw_214 rfl dX4_learn_10 ?_
    refine j_iload_n h 3 rfl rfl dX4_learn_13 ?_
    refine jm_iald h 8 rfl j3122 rfl (by omega) (by omega) dX4_learn_14 ?_
    refine j_goto h 19 dX4_learn_15 (by decide) ?_
    refine jm_put (w' := [(v, .inl (.inr (4, [.ref v0, .ref v1, .ref v2, .ref v3, .int (sc11 j3122)]))), (v0, .inr (kA 6, kA 1, 10, 45, .inl vls)), (v1, .inl (.inl (kA 1, 6, .inl vss))), (v3, .inl (.inl (kA 2, 2, .inr (.inl vrd)))), (s1, .inl (.inl (kA 1, 6, .inl sc1))), (s5, .inl (.inl (kA 1, 10, .inl sc5))), (s6, .inr (kA 6, kA 1, 10, 5, .inl sc6)), (s10, .inl (.inl (kA 1, 4, .inl sc10))), (s11, .inl (.inl (kA 1, 4, .inl sc11))), (lo, .inl (.inl (kA 1, 6, .inl lof))), (s, .inl (.inr (5, [.ref s0, .ref s1, .ref s2, .ref s3, .ref s4, .ref s5, .ref s6, .ref s7, .ref s8, .ref s9, .ref s10, .ref s11, .int (nI sn), .int (nI sl), .int (nI se)])))]) h iw_X4 tyX4 tyX4_ok nmX4 0 rfl rfl 4 (by decide +kernel) tw_425 rfl rfl rfl (Nat.le_of_ble_eq_true rfl) dX4_learn_19 rfl ?_
    refine j_iconst (v := 0) h (by decide) dX4_learn_22 ?_
    refine j_istore (lv' := [(4, .int 0), (0, .ref v), (1, .ref s), (2, .ref lo), (3, .int (nI j3122))]) h dX4_learn_23 (by decide) rfl ?_
    have lp25_381 : ∀ (m25_381 : Nat), ∀ (v4_25_381 : Nat) (fv1_25_381 : Nat → Int32), (v4_25_381 ≤ 100000) → 100001 - v4_25_381 < m25_381 → J x (mflat [(v, .inl (.inr (4, [.ref v0, .ref v1, .ref v2, .ref v3, .int (sc11 j3122)]))), (v0, .inr (kA 6, kA 1, 10, 45, .inl vls)), (v1, .inl (.inl (kA 1, 6, .inl fv1_25_381))), (v3, .inl (.inl (kA 2, 2, .inr (.inl vrd)))), (s1, .inl (.inl (kA 1, 6, .inl sc1))), (s5, .inl (.inl (kA 1, 10, .inl sc5))), (s6, .inr (kA 6, kA 1, 10, 5, .inl sc6)), (s10, .inl (.inl (kA 1, 4, .inl sc10))), (s11, .inl (.inl (kA 1, 4, .inl sc11))), (lo, .inl (.inl (kA 1, 6, .inl lof))), (s, .inl (.inr (5, [.ref s0, .ref s1, .ref s2, .ref s3, .ref s4, .ref s5, .ref s6, .ref s7, .ref s8, .ref s9, .ref s10, .ref s11, .int (nI sn), .int (nI sl), .int (nI se)])))]) [(4, .int (nI v4_25_381)), (0, .ref v), (1, .ref s), (2, .ref lo), (3, .int (nI j3122))] 0 0 25 [] := by
      intro m25_381
      induction m25_381 with
      | zero =>
        intro v4_25_381 fv1_25_381 i25_381_0 hm25_381
        exact absurd hm25_381 (Nat.not_lt_zero _)
      | succ m25_381 ih25_381 =>
        intro v4_25_381 fv1_25_381 i25_381_0 hm25_381
        refine j_iload h 0 rfl dX4_learn_25 ?_
        refine j_aload_n h 2 rfl rfl dX4_learn_27 ?_
        refine jm_get h iw_X5 10 rfl rfl 12 (by decide +kernel) tw_218 rfl dX4_learn_28 ?_
        refine j_icmp_ge h 56 dX4_learn_31 (by decide) (fun z3243 => ?_) (fun z3243 => ?_)
        · have z3243n : sn ≤ v4_25_381 := (nI_leI (a := sn) (b := v4_25_381) (by omega) (by omega)).mp z3243
          refine j_iconst (v := 0) h (by decide) dX4_learn_56 ?_
          refine j_istore (lv' := [(4, .int 0), (0, .ref v), (1, .ref s), (2, .ref lo), (3, .int (nI j3122))]) h dX4_learn_57 (by decide) rfl ?_
          have lp59_384 : ∀ (m59_384 : Nat), ∀ (v4_59_384 : Nat) (fv0_59_384 : Nat → Nat → Int32), (v4_59_384 ≤ 100000) → 100001 - v4_59_384 < m59_384 → J x (mflat [(v, .inl (.inr (4, [.ref v0, .ref v1, .ref v2, .ref v3, .int (sc11 j3122)]))), (v0, .inr (kA 6, kA 1, 10, 45, .inl fv0_59_384)), (v1, .inl (.inl (kA 1, 6, .inl fv1_25_381))), (v3, .inl (.inl (kA 2, 2, .inr (.inl vrd)))), (s1, .inl (.inl (kA 1, 6, .inl sc1))), (s5, .inl (.inl (kA 1, 10, .inl sc5))), (s6, .inr (kA 6, kA 1, 10, 5, .inl sc6)), (s10, .inl (.inl (kA 1, 4, .inl sc10))), (s11, .inl (.inl (kA 1, 4, .inl sc11))), (lo, .inl (.inl (kA 1, 6, .inl lof))), (s, .inl (.inr (5, [.ref s0, .ref s1, .ref s2, .ref s3, .ref s4, .ref s5, .ref s6, .ref s7, .ref s8, .ref s9, .ref s10, .ref s11, .int (nI sn), .int (nI sl), .int (nI se)])))]) [(4, .int (nI v4_59_384)), (0, .ref v), (1, .ref s), (2, .ref lo), (3, .int (nI j3122))] 0 0 59 [] := by
            intro m59_384
            induction m59_384 with
            | zero =>
              intro v4_59_384 fv0_59_384 i59_384_0 hm59_384
              exact absurd hm59_384 (Nat.not_lt_zero _)
            | succ m59_384 ih59_384 =>
              intro v4_59_384 fv0_59_384 i59_384_0 hm59_384
              refine j_iload h 0 rfl dX4_learn_59 ?_
              refine j_aload_n h 2 rfl rfl dX4_learn_61 ?_
              refine jm_get h iw_X5 10 rfl rfl 13 (by decide +kernel) tw_224 rfl dX4_learn_62 ?_
              refine j_icmp_ge h 91 dX4_learn_65 (by decide) (fun z3258 => ?_) (fun z3258 => ?_)
              · have z3258n : sl ≤ v4_59_384 := (nI_leI (a := sl) (b := v4_59_384) (by omega) (by omega)).mp z3258
                refine j_aload_n h 1 rfl rfl dX4_learn_91 ?_
                refine jm_get h iw_X4 0 rfl rfl 3 (by decide +kernel) tw_424 rfl dX4_learn_92 ?_
                refine j_iconst (v := 0) h (by decide) dX4_learn_95 ?_
                refine j_lconst (v := 1) h (by decide) dX4_learn_96 ?_
                refine jm_last (w' := [(v, .inl (.inr (4, [.ref v0, .ref v1, .ref v2, .ref v3, .int (sc11 j3122)]))), (v0, .inr (kA 6, kA 1, 10, 45, .inl fv0_59_384)), (v1, .inl (.inl (kA 1, 6, .inl fv1_25_381))), (v3, .inl (.inl (kA 2, 2, .inr (.inl (vp_updL vrd 0 1))))), (s1, .inl (.inl (kA 1, 6, .inl sc1))), (s5, .inl (.inl (kA 1, 10, .inl sc5))), (s6, .inr (kA 6, kA 1, 10, 5, .inl sc6)), (s10, .inl (.inl (kA 1, 4, .inl sc10))), (s11, .inl (.inl (kA 1, 4, .inl sc11))), (lo, .inl (.inl (kA 1, 6, .inl lof))), (s, .inl (.inr (5, [.ref s0, .ref s1, .ref s2, .ref s3, .ref s4, .ref s5, .ref s6, .ref s7, .ref s8, .ref s9, .ref s10, .ref s11, .int (nI sn), .int (nI sl), .int (nI se)])))]) h 3 rfl 0 (by decide +kernel) (by decide +kernel) (by omega) dX4_learn_97 rfl ?_
                refine j_aload_n h 1 rfl rfl dX4_learn_98 ?_
                refine jm_get h iw_X4 0 rfl rfl 3 (by decide +kernel) tw_424 rfl dX4_learn_99 ?_
                refine j_iconst (v := 1) h (by decide) dX4_learn_102 ?_
                refine j_lconst (v := 0) h (by decide) dX4_learn_103 ?_
                refine jm_last (w' := [(v, .inl (.inr (4, [.ref v0, .ref v1, .ref v2, .ref v3, .int (sc11 j3122)]))), (v0, .inr (kA 6, kA 1, 10, 45, .inl fv0_59_384)), (v1, .inl (.inl (kA 1, 6, .inl fv1_25_381))), (v3, .inl (.inl (kA 2, 2, .inr (.inl (vp_updL (vp_updL vrd 0 1) 1 0))))), (s1, .inl (.inl (kA 1, 6, .inl sc1))), (s5, .inl (.inl (kA 1, 10, .inl sc5))), (s6, .inr (kA 6, kA 1, 10, 5, .inl sc6)), (s10, .inl (.inl (kA 1, 4, .inl sc10))), (s11, .inl (.inl (kA 1, 4, .inl sc11))), (lo, .inl (.inl (kA 1, 6, .inl lof))), (s, .inl (.inr (5, [.ref s0, .ref s1, .ref s2, .ref s3, .ref s4, .ref s5, .ref s6, .ref s7, .ref s8, .ref s9, .ref s10, .ref s11, .int (nI sn), .int (nI sl), .int (nI se)])))]) h 3 rfl 1 (by decide +kernel) (by decide +kernel) (by omega) dX4_learn_104 rfl ?_
                exact jm_vret h hq dX4_learn_105 ((sc11 j3122), fv0_59_384, fv1_25_381, (vp_updL (vp_updL vrd 0 1) 1 0)) [0, 1, 2, 3, 10, 4, 5, 6, 7, 8, 9] rfl (by decide) trivial (Nat.le_of_ble_eq_true rfl) (Nat.le_of_ble_eq_true rfl)
              · have z3258n : ¬ sl ≤ v4_59_384 := fun q9 => z3258 ((nI_leI (a := sl) (b := v4_59_384) (by omega) (by omega)).mpr q9)
                refine j_aload_n h 2 rfl rfl dX4_learn_68 ?_
                refine j_iload h 0 rfl dX4_learn_69 ?_
                refine j_aload_n h 3 rfl rfl dX4_learn_71 ?_
                refine j_iload_n h 4 rfl rfl dX4_learn_72 ?_
                refine j_aload_n h 1 rfl rfl dX4_learn_73 ?_
                refine jm_get h iw_X4 0 rfl rfl 0 (by decide +kernel) tw_421 rfl dX4_learn_74 ?_
                refine j_iload h 0 rfl dX4_learn_77 ?_
                refine jm_gout h 1 6 rfl rfl v4_59_384 rfl (by omega) (by omega) dX4_learn_79 ?_
                refine j_iconst (v := 0) h (by decide) dX4_learn_80 ?_
                refine jm_callVi (np := 5) (isC := [10, 4, 5, 6, 7, 9, 1]) (isR := [0, 2, 3, 8]) (wc := [(s, .inl (.inr (5, [.ref s0, .ref s1, .ref s2, .ref s3, .ref s4, .ref s5, .ref s6, .ref s7, .ref s8, .ref s9, .ref s10, .ref s11, .int (nI sn), .int (nI sl), .int (nI se)]))), (s1, .inl (.inl (kA 1, 6, .inl sc1))), (s5, .inl (.inl (kA 1, 10, .inl sc5))), (s6, .inr (kA 6, kA 1, 10, 5, .inl sc6)), (s10, .inl (.inl (kA 1, 4, .inl sc10))), (lo, .inl (.inl (kA 1, 6, .inl lof))), (v0, .inr (kA 6, kA 1, 10, 45, .inl fv0_59_384))]) (wr := [(v, .inl (.inr (4, [.ref v0, .ref v1, .ref v2, .ref v3, .int (sc11 j3122)]))), (v1, .inl (.inl (kA 1, 6, .inl fv1_25_381))), (v3, .inl (.inl (kA 2, 2, .inr (.inl vrd)))), (s11, .inl (.inl (kA 1, 4, .inl sc11)))]) (rest := []) (As := [.int (nI v4_59_384), .ref lo, .int (nI j3122), .ref (v0 + 1 + v4_59_384), .int 0]) (q0 := 0) h (s_X5_hearLetterG _ _ kA s v4_59_384 lo (nI j3122) v0 v4_59_384 0 s0 s1 s2 s3 s4 s5 s6 s7 s8 s9 s10 s11 sn sl se sc1 sc5 sc6 sc10 lof fv0_59_384 (show sn ≤ 6 by first | assumption | omega) (show sl ≤ 10 by first | assumption | omega) (show se ≤ 4 by first | assumption | omega) (show TkOk sn sc1 by first | assumption | omega) (show SzOk sl sc5 by first | assumption | omega) (show RwOk sl sn sc5 sc6 by first | assumption | omega) (show v4_59_384 < sl by first | assumption | omega) (show v4_59_384 < 10 by first | assumption | omega) (show 0 ≤ 45 by first | assumption | omega)) tw_902 tw_903 tw_904 tw_90 tw_905 (by decide +kernel) rfl ⟨Nat.le_of_ble_eq_true rfl, Nat.le_of_ble_eq_true rfl⟩ rfl rfl (by decide +kernel) rfl rfl (by decide +kernel) (by decide +kernel) (Nat.le_of_ble_eq_true rfl) rfl ⟨Nat.le_of_ble_eq_true rfl, Nat.le_of_ble_eq_true rfl⟩ dX4_learn_81 ?_
                rintro r3262 ⟨q3259, q3260⟩ e3261
                obtain ⟨p3263, p3264⟩ := e3261
                subst p3263
                replace p3264 : q3259 ≤ 45 := p3264
                show J x (mflat [(v, .inl (.inr (4, [.ref v0, .ref v1, .ref v2, .ref v3, .int (sc11 j3122)]))), (v1, .inl (.inl (kA 1, 6, .inl fv1_25_381))), (v3, .inl (.inl (kA 2, 2, .inr (.inl vrd)))), (s11, .inl (.inl (kA 1, 4, .inl sc11))), (s, .inl (.inr (5, [.ref s0, .ref s1, .ref s2, .ref s3, .ref s4, .ref s5, .ref s6, .ref s7, .ref s8, .ref s9, .ref s10, .ref s11, .int (nI sn), .int (nI sl), .int (nI se)]))), (s1, .inl (.inl (kA 1, 6, .inl sc1))), (s5, .inl (.inl (kA 1, 10, .inl sc5))), (s6, .inr (kA 6, kA 1, 10, 5, .inl sc6)), (s10, .inl (.inl (kA 1, 4, .inl sc10))), (lo, .inl (.inl (kA 1, 6, .inl lof))), (v0, .inr (kA 6, kA 1, 10, 45, .inl q3260))]) [(4, .int (nI v4_59_384)), (0, .ref v), (1, .ref s), (2, .ref lo), (3, .int (nI j3122))] 0 0 84 [.int (nI q3259)]
                refine j_pop h rfl dX4_learn_84 ?_
                refine j_iinc (v := nI (v4_59_384 + 1)) (lv' := [(4, .int (nI (v4_59_384 + 1))), (0, .ref v), (1, .ref s), (2, .ref lo), (3, .int (nI j3122))]) h dX4_learn_85 0 rfl (nI_add v4_59_384 1) (by decide) rfl ?_
                refine j_goto h 59 dX4_learn_88 (by decide) ?_
                refine jm_sub [0, 10, 1, 2, 5, 6, 7, 8, 3, 9, 4] (w' := [(v, .inl (.inr (4, [.ref v0, .ref v1, .ref v2, .ref v3, .int (sc11 j3122)]))), (v0, .inr (kA 6, kA 1, 10, 45, .inl q3260)), (v1, .inl (.inl (kA 1, 6, .inl fv1_25_381))), (v3, .inl (.inl (kA 2, 2, .inr (.inl vrd)))), (s1, .inl (.inl (kA 1, 6, .inl sc1))), (s5, .inl (.inl (kA 1, 10, .inl sc5))), (s6, .inr (kA 6, kA 1, 10, 5, .inl sc6)), (s10, .inl (.inl (kA 1, 4, .inl sc10))), (s11, .inl (.inl (kA 1, 4, .inl sc11))), (lo, .inl (.inl (kA 1, 6, .inl lof))), (s, .inl (.inr (5, [.ref s0, .ref s1, .ref s2, .ref s3, .ref s4, .ref s5, .ref s6, .ref s7, .ref s8, .ref s9, .ref s10, .ref s11, .int (nI sn), .int (nI sl), .int (nI se)])))]) rfl (by decide +kernel) [0, 1, 2, 3, 4] (lv' := [(4, .int (nI (v4_59_384 + 1))), (0, .ref v), (1, .ref s), (2, .ref lo), (3, .int (nI j3122))]) rfl ?_
                exact ih59_384 (v4_59_384 + 1) q3260 (show (v4_59_384 + 1) ≤ 100000 by first | assumption | omega) (show 100001 - (v4_59_384 + 1) < m59_384 by first | exact Nat.lt_of_lt_of_le (Nat.sub_lt_sub_left (Nat.lt_of_le_of_lt (show v4_59_384 ≤ 100000 by assumption) (Nat.lt_succ_self 100000)) (Nat.lt_succ_self v4_59_384)) (Nat.le_of_lt_succ hm59_384) | omega)
          refine jm_sub [0, 1, 2, 3, 4, 5, 6, 7, 8, 9, 10] (w' := [(v, .inl (.inr (4, [.ref v0, .ref v1, .ref v2, .ref v3, .int (sc11 j3122)]))), (v0, .inr (kA 6, kA 1, 10, 45, .inl vls)), (v1, .inl (.inl (kA 1, 6, .inl fv1_25_381))), (v3, .inl (.inl (kA 2, 2, .inr (.inl vrd)))), (s1, .inl (.inl (kA 1, 6, .inl sc1))), (s5, .inl (.inl (kA 1, 10, .inl sc5))), (s6, .inr (kA 6, kA 1, 10, 5, .inl sc6)), (s10, .inl (.inl (kA 1, 4, .inl sc10))), (s11, .inl (.inl (kA 1, 4, .inl sc11))), (lo, .inl (.inl (kA 1, 6, .inl lof))), (s, .inl (.inr (5, [.ref s0, .ref s1, .ref s2, .ref s3, .ref s4, .ref s5, .ref s6, .ref s7, .ref s8, .ref s9, .ref s10, .ref s11, .int (nI sn), .int (nI sl), .int (nI se)])))]) rfl (by decide +kernel) [0, 1, 2, 3, 4] (lv' := [(4, .int 0), (0, .ref v), (1, .ref s), (2, .ref lo), (3, .int (nI j3122))]) rfl ?_
          exact lp59_384 (100001 - 0 + 1) 0 vls (show 0 ≤ 100000 by first | assumption | omega) (Nat.lt_succ_self _)
        · have z3243n : ¬ sn ≤ v4_25_381 := fun q9 => z3243 ((nI_leI (a := sn) (b := v4_25_381) (by omega) (by omega)).mpr q9)
          refine j_aload_n h 1 rfl rfl dX4_learn_34 ?_
          refine jm_get h iw_X4 0 rfl rfl 1 (by decide +kernel) tw_422 rfl dX4_learn_35 ?_
          refine j_iload h 0 rfl dX4_learn_38 ?_
          refine j_aload_n h 2 rfl rfl dX4_learn_40 ?_
          refine j_aload_n h 3 rfl rfl dX4_learn_41 ?_
          refine j_iload h 0 rfl dX4_learn_42 ?_
          refine jm_iald h 9 rfl v4_25_381 rfl (by omega) (by omega) dX4_learn_44 ?_
          refine j_iload_n h 4 rfl rfl dX4_learn_45 ?_
          refine jm_callVi (np := 2) (isC := [10, 7]) (isR := [0, 1, 2, 3, 4, 5, 6, 8, 9]) (wc := [(s, .inl (.inr (5, [.ref s0, .ref s1, .ref s2, .ref s3, .ref s4, .ref s5, .ref s6, .ref s7, .ref s8, .ref s9, .ref s10, .ref s11, .int (nI sn), .int (nI sl), .int (nI se)]))), (s10, .inl (.inl (kA 1, 4, .inl sc10)))]) (wr := [(v, .inl (.inr (4, [.ref v0, .ref v1, .ref v2, .ref v3, .int (sc11 j3122)]))), (v0, .inr (kA 6, kA 1, 10, 45, .inl vls)), (v1, .inl (.inl (kA 1, 6, .inl fv1_25_381))), (v3, .inl (.inl (kA 2, 2, .inr (.inl vrd)))), (s1, .inl (.inl (kA 1, 6, .inl sc1))), (s5, .inl (.inl (kA 1, 10, .inl sc5))), (s6, .inr (kA 6, kA 1, 10, 5, .inl sc6)), (s11, .inl (.inl (kA 1, 4, .inl sc11))), (lo, .inl (.inl (kA 1, 6, .inl lof)))]) (rest := [.int (nI v4_25_381), .ref v1]) (As := [.int (lof v4_25_381), .int (nI j3122)]) (q0 := 0) h (s_X5_heardBelow _ _ kA s (lof v4_25_381) (nI j3122) s0 s1 s2 s3 s4 s5 s6 s7 s8 s9 s10 s11 sn sl se sc10 (show sn ≤ 6 by first | assumption | omega) (show sl ≤ 10 by first | assumption | omega) (show se ≤ 4 by first | assumption | omega)) tw_901 tw_798 tw_799 tw_90 tw_800 (by decide +kernel) rfl ⟨Nat.le_of_ble_eq_true rfl, Nat.le_of_ble_eq_true rfl⟩ rfl rfl (by decide +kernel) rfl rfl (by decide +kernel) (by decide +kernel) (Nat.le_of_ble_eq_true rfl) rfl ⟨Nat.le_of_ble_eq_true rfl, Nat.le_of_ble_eq_true rfl⟩ dX4_learn_46 ?_
          rintro r3266 _ e3265
          show J x (mflat [(v, .inl (.inr (4, [.ref v0, .ref v1, .ref v2, .ref v3, .int (sc11 j3122)]))), (v0, .inr (kA 6, kA 1, 10, 45, .inl vls)), (v1, .inl (.inl (kA 1, 6, .inl fv1_25_381))), (v3, .inl (.inl (kA 2, 2, .inr (.inl vrd)))), (s1, .inl (.inl (kA 1, 6, .inl sc1))), (s5, .inl (.inl (kA 1, 10, .inl sc5))), (s6, .inr (kA 6, kA 1, 10, 5, .inl sc6)), (s11, .inl (.inl (kA 1, 4, .inl sc11))), (lo, .inl (.inl (kA 1, 6, .inl lof))), (s, .inl (.inr (5, [.ref s0, .ref s1, .ref s2, .ref s3, .ref s4, .ref s5, .ref s6, .ref s7, .ref s8, .ref s9, .ref s10, .ref s11, .int (nI sn), .int (nI sl), .int (nI se)]))), (s10, .inl (.inl (kA 1, 4, .inl sc10)))]) [(4, .int (nI v4_25_381)), (0, .ref v), (1, .ref s), (2, .ref lo), (3, .int (nI j3122))] 0 0 49 [.int r3266, .int (nI v4_25_381), .ref v1]
          refine jm_iast (w' := [(v, .inl (.inr (4, [.ref v0, .ref v1, .ref v2, .ref v3, .int (sc11 j3122)]))), (v0, .inr (kA 6, kA 1, 10, 45, .inl vls)), (v1, .inl (.inl (kA 1, 6, .inl (upd fv1_25_381 v4_25_381 r3266)))), (v3, .inl (.inl (kA 2, 2, .inr (.inl vrd)))), (s1, .inl (.inl (kA 1, 6, .inl sc1))), (s5, .inl (.inl (kA 1, 10, .inl sc5))), (s6, .inr (kA 6, kA 1, 10, 5, .inl sc6)), (s11, .inl (.inl (kA 1, 4, .inl sc11))), (lo, .inl (.inl (kA 1, 6, .inl lof))), (s, .inl (.inr (5, [.ref s0, .ref s1, .ref s2, .ref s3, .ref s4, .ref s5, .ref s6, .ref s7, .ref s8, .ref s9, .ref s10, .ref s11, .int (nI sn), .int (nI sl), .int (nI se)]))), (s10, .inl (.inl (kA 1, 4, .inl sc10)))]) h 2 rfl v4_25_381 rfl (by omega) (by omega) dX4_learn_49 rfl ?_
          refine j_iinc (v := nI (v4_25_381 + 1)) (lv' := [(4, .int (nI (v4_25_381 + 1))), (0, .ref v), (1, .ref s), (2, .ref lo), (3, .int (nI j3122))]) h dX4_learn_50 0 rfl (nI_add v4_25_381 1) (by decide) rfl ?_
          refine j_goto h 25 dX4_learn_53 (by decide) ?_
          refine jm_sub [0, 1, 2, 3, 4, 5, 6, 10, 7, 8, 9] (w' := [(v, .inl (.inr (4, [.ref v0, .ref v1, .ref v2, .ref v3, .int (sc11 j3122)]))), (v0, .inr (kA 6, kA 1, 10, 45, .inl vls)), (v1, .inl (.inl (kA 1, 6, .inl (upd fv1_25_381 v4_25_381 r3266)))), (v3, .inl (.inl (kA 2, 2, .inr (.inl vrd)))), (s1, .inl (.inl (kA 1, 6, .inl sc1))), (s5, .inl (.inl (kA 1, 10, .inl sc5))), (s6, .inr (kA 6, kA 1, 10, 5, .inl sc6)), (s10, .inl (.inl (kA 1, 4, .inl sc10))), (s11, .inl (.inl (kA 1, 4, .inl sc11))), (lo, .inl (.inl (kA 1, 6, .inl lof))), (s, .inl (.inr (5, [.ref s0, .ref s1, .ref s2, .ref s3, .ref s4, .ref s5, .ref s6, .ref s7, .ref s8, .ref s9, .ref s10, .ref s11, .int (nI sn), .int (nI sl), .int (nI se)])))]) rfl (by decide +kernel) [0, 1, 2, 3, 4] (lv' := [(4, .int (nI (v4_25_381 + 1))), (0, .ref v), (1, .ref s), (2, .ref lo), (3, .int (nI j3122))]) rfl ?_
          exact ih25_381 (v4_25_381 + 1) (upd fv1_25_381 v4_25_381 r3266) (show (v4_25_381 + 1) ≤ 100000 by first | assumption | omega) (show 100001 - (v4_25_381 + 1) < m25_381 by first | exact Nat.lt_of_lt_of_le (Nat.sub_lt_sub_left (Nat.lt_of_le_of_lt (show v4_25_381 ≤ 100000 by assumption) (Nat.lt_succ_self 100000)) (Nat.lt_succ_self v4_25_381)) (Nat.le_of_lt_succ hm25_381) | omega)
    refine jm_sub [0, 1, 2, 3, 4, 5, 6, 7, 8, 9, 10] (w' := [(v, .inl (.inr (4, [.ref v0, .ref v1, .ref v2, .ref v3, .int (sc11 j3122)]))), (v0, .inr (kA 6, kA 1, 10, 45, .inl vls)), (v1, .inl (.inl (kA 1, 6, .inl vss))), (v3, .inl (.inl (kA 2, 2, .inr (.inl vrd)))), (s1, .inl (.inl (kA 1, 6, .inl sc1))), (s5, .inl (.inl (kA 1, 10, .inl sc5))), (s6, .inr (kA 6, kA 1, 10, 5, .inl sc6)), (s10, .inl (.inl (kA 1, 4, .inl sc10))), (s11, .inl (.inl (kA 1, 4, .inl sc11))), (lo, .inl (.inl (kA 1, 6, .inl lof))), (s, .inl (.inr (5, [.ref s0, .ref s1, .ref s2, .ref s3, .ref s4, .ref s5, .ref s6, .ref s7, .ref s8, .ref s9, .ref s10, .ref s11, .int (nI sn), .int (nI sl), .int (nI se)])))]) rfl (by decide +kernel) [0, 1, 2, 3, 4] (lv' := [(4, .int 0), (0, .ref v), (1, .ref s), (2, .ref lo), (3, .int (nI j3122))]) rfl ?_
    exact lp25_381 (100001 - 0 + 1) 0 vss (show 0 ≤ 100000 by first | assumption | omega) (Nat.lt_succ_self _)
set_option maxHeartbeats 4000000 in
set_option maxRecDepth 100000 in
theorem s_X4_soundsSame (lau : Launch) (gg : va_G) (kA : Nat → ClassId) (v : Nat) (s : Nat) (k : Nat) (k2 : Nat) (v0 : Nat) (v1 : Nat) (v2 : Nat) (v3 : Nat) (vbk : Int32) (vls : Nat → Nat → Int32) (s0 : Nat) (s1 : Nat) (s2 : Nat) (s3 : Nat) (s4 : Nat) (s5 : Nat) (s6 : Nat) (s7 : Nat) (s8 : Nat) (s9 : Nat) (s10 : Nat) (s11 : Nat) (sn : Nat) (sl : Nat) (se : Nat) (sc7 : Nat → Int32) (hsn : sn ≤ 6) (hsl : sl ≤ 10) (hse : se ≤ 4) (hslt : LtOk sl sc7) (hk : k < sl) (hk2 : k2 < sl) : CtI lau yX4_soundsSame cX4_soundsSame 5 (some .boolean) 2 0 0 gg kA [.ref v, .ref s, .int (nI k), .int (nI k2)] (mflat [(v, .inl (.inr (4, [.ref v0, .ref v1, .ref v2, .ref v3, .int vbk]))), (v0, .inr (kA 6, kA 1, 10, 45, .inl vls)), (s, .inl (.inr (5, [.ref s0, .ref s1, .ref s2, .ref s3, .ref s4, .ref s5, .ref s6, .ref s7, .ref s8, .ref s9, .ref s10, .ref s11, .int (nI sn), .int (nI sl), .int (nI se)]))), (s7, .inl (.inl (kA 1, 10, .inl sc7)))]) (S := Nat) (fun (r : Int32) (y_r : Nat) => r = nI y_r ∧ (y_r ≤ 1)) (fun (y_r : Nat) => mflat [(v, .inl (.inr (4, [.ref v0, .ref v1, .ref v2, .ref v3, .int vbk]))), (v0, .inr (kA 6, kA 1, 10, 45, .inl vls)), (s, .inl (.inr (5, [.ref s0, .ref s1, .ref s2, .ref s3, .ref s4, .ref s5, .ref s6, .ref s7, .ref s8, .ref s9, .ref s10, .ref s11, .int (nI sn), .int (nI sl), .int (nI se)]))), (s7, .inl (.inl (kA 1, 10, .inl sc7)))]) := by
  refine nx_startI (by decide +kernel) (Nat.le_of_ble_eq_true rfl) ?_
  intro x hnm h hq
  have h : Ok x cX4_soundsSame RX4 kA (rmC 2 0 0) 5 := h
  show J x (mflat [(v, .inl (.inr (4, [.ref v0, .ref v1, .ref v2, .ref v3, .int vbk]))), (v0, .inr (kA 6, kA 1, 10, 45, .inl vls)), (s, .inl (.inr (5, [.ref s0, .ref s1, .ref s2, .ref s3, .ref s4, .ref s5, .ref s6, .ref s7, .ref s8, .ref s9, .ref s10, .ref s11, .int (nI sn), .int (nI sl), .int (nI se)]))), (s7, .inl (.inl (kA 1, 10, .inl sc7)))]) [(0, .ref v), (1, .ref s), (2, .int (nI k)), (3, .int (nI k2))] 0 0 0 []
  refine j_aload_n h 1 rfl rfl dX4_soundsSame_0 ?_
  refine jm_get h iw_X5 2 rfl rfl 7 (by decide +kernel) tw_201 rfl dX4_soundsSame_1 ?_
  refine j_iload_n h 2 rfl rfl dX4_soundsSame_4 ?_
  refine jm_iald h 3 rfl k rfl (by omega) (by omega) dX4_soundsSame_5 ?_
  obtain ⟨t3282, u3283, u3284, u3285⟩ := (show LtOk sl sc7 by assumption) k (by omega)
  refine j_top (b := nI t3282) (u3285) ?_
  refine j_istore (lv' := [(4, .int (nI t3282)), (0, .ref v), (1, .ref s), (2, .int (nI k)), (3, .int (nI k2))]) h dX4_soundsSame_6 (by decide) rfl ?_
  refine j_iload h 0 rfl dX4_soundsSame_8 ?_
  refine j_aload_n h 2 rfl rfl dX4_soundsSame_10 ?_
  refine jm_get h iw_X5 2 rfl rfl 7 (by decide +kernel) tw_201 rfl dX4_soundsSame_11 ?_
  refine j_iload_n h 4 rfl rfl dX4_soundsSame_14 ?_
  refine jm_iald h 3 rfl k2 rfl (by omega) (by omega) dX4_soundsSame_15 ?_
  obtain ⟨t3286, u3287, u3288, u3289⟩ := (show LtOk sl sc7 by assumption) k2 (by omega)
  refine j_top (b := nI t3286) (u3289) ?_
  refine j_icmp_ne h 48 dX4_soundsSame_16 (by decide) (fun z3290 => ?_) (fun z3290 => ?_)
  · have z3290n : ¬ t3282 = t3286 := fun q9 => z3290 ((nI_eq (a := t3282) (b := t3286) (by omega) (by omega)).mpr q9)
    refine j_iconst (v := 0) h (by decide) dX4_soundsSame_48 ?_
    exact jm_zret h hq rfl dX4_soundsSame_49 0 [0, 1, 2, 3] rfl (by decide) ⟨rfl, (show 0 ≤ 1 by first | assumption | omega)⟩ (Nat.le_of_ble_eq_true rfl) (Nat.le_of_ble_eq_true rfl)
  · have z3290n : t3282 = t3286 := (nI_eq (a := t3282) (b := t3286) (by omega) (by omega)).mp z3290
    refine j_aload_n h 1 rfl rfl dX4_soundsSame_19 ?_
    refine jm_get h iw_X4 0 rfl rfl 0 (by decide +kernel) tw_421 rfl dX4_soundsSame_20 ?_
    refine j_iload_n h 4 rfl rfl dX4_soundsSame_23 ?_
    refine jm_gout h 1 6 rfl rfl k2 rfl (by omega) (by omega) dX4_soundsSame_24 ?_
    refine j_iload h 0 rfl dX4_soundsSame_25 ?_
    refine j_aload_n h 1 rfl rfl dX4_soundsSame_27 ?_
    refine jm_get h iw_X4 0 rfl rfl 0 (by decide +kernel) tw_421 rfl dX4_soundsSame_28 ?_
    refine j_iload_n h 3 rfl rfl dX4_soundsSame_31 ?_
    refine jm_gout h 1 6 rfl rfl k rfl (by omega) (by omega) dX4_soundsSame_32 ?_
    refine j_iconst (v := 0) h (by decide) dX4_soundsSame_33 ?_
    refine j_iload h 0 rfl dX4_soundsSame_34 ?_
    refine jm_callSi (np := 5) (isC := [1]) (isR := [0, 2, 3]) (wc := [(v0, .inr (kA 6, kA 1, 10, 45, .inl vls))]) (wr := [(v, .inl (.inr (4, [.ref v0, .ref v1, .ref v2, .ref v3, .int vbk]))), (s, .inl (.inr (5, [.ref s0, .ref s1, .ref s2, .ref s3, .ref s4, .ref s5, .ref s6, .ref s7, .ref s8, .ref s9, .ref s10, .ref s11, .int (nI sn), .int (nI sl), .int (nI se)]))), (s7, .inl (.inl (kA 1, 10, .inl sc7)))]) (rest := []) (As := [.ref (v0 + 1 + k2), .int (nI t3282), .ref (v0 + 1 + k), .int 0, .int (nI t3282)]) h (s_X4_matchingG _ _ kA v0 k2 t3282 k 0 t3282 vls (show k2 < 10 by first | assumption | omega) (show t3282 ≤ 45 by first | assumption | omega) (show 0 ≤ t3282 by first | assumption | omega) (show k < 10 by first | assumption | omega) (show t3282 ≤ 45 by first | assumption | omega)) tw_925 tw_926 tw_96 tw_927 (by decide +kernel) rfl ⟨Nat.le_of_ble_eq_true rfl, Nat.le_of_ble_eq_true rfl⟩ (by decide +kernel) rfl rfl (by decide +kernel) (by decide +kernel) (Nat.le_of_ble_eq_true rfl) rfl ⟨Nat.le_of_ble_eq_true rfl, Nat.le_of_ble_eq_true rfl⟩ dX4_soundsSame_36 ?_
    rintro r3293 q3291 e3292
    obtain ⟨p3294, p3295⟩ := e3292
    subst p3294
    replace p3295 : q3291 ≤ t3282 := p3295
    show J x (mflat [(v, .inl (.inr (4, [.ref v0, .ref v1, .ref v2, .ref v3, .int vbk]))), (s, .inl (.inr (5, [.ref s0, .ref s1, .ref s2, .ref s3, .ref s4, .ref s5, .ref s6, .ref s7, .ref s8, .ref s9, .ref s10, .ref s11, .int (nI sn), .int (nI sl), .int (nI se)]))), (s7, .inl (.inl (kA 1, 10, .inl sc7))), (v0, .inr (kA 6, kA 1, 10, 45, .inl vls))]) [(4, .int (nI t3282)), (0, .ref v), (1, .ref s), (2, .int (nI k)), (3, .int (nI k2))] 0 0 39 [.int (nI q3291)]
    refine j_iload h 0 rfl dX4_soundsSame_39 ?_
    refine j_icmp_ne h 48 dX4_soundsSame_41 (by decide) (fun z3296 => ?_) (fun z3296 => ?_)
    · have z3296n : ¬ q3291 = t3282 := fun q9 => z3296 ((nI_eq (a := q3291) (b := t3282) (by omega) (by omega)).mpr q9)
      refine j_iconst (v := 0) h (by decide) dX4_soundsSame_48 ?_
      exact jm_zret h hq rfl dX4_soundsSame_49 0 [0, 3, 1, 2] rfl (by decide) ⟨rfl, (show 0 ≤ 1 by first | assumption | omega)⟩ (Nat.le_of_ble_eq_true rfl) (Nat.le_of_ble_eq_true rfl)
    · have z3296n : q3291 = t3282 := (nI_eq (a := q3291) (b := t3282) (by omega) (by omega)).mp z3296
      refine j_iconst (v := 1) h (by decide) dX4_soundsSame_44 ?_
      refine j_goto h 49 dX4_soundsSame_45 (by decide) ?_
      exact jm_zret h hq rfl dX4_soundsSame_49 1 [0, 3, 1, 2] rfl (by decide) ⟨rfl, (show 1 ≤ 1 by first | assumption | omega)⟩ (Nat.le_of_ble_eq_true rfl) (Nat.le_of_ble_eq_true rfl)
set_option maxHeartbeats 4000000 in
set_option maxRecDepth 100000 in
theorem s_X4_canBeginBy (lau : Launch) (gg : va_G) (kA : Nat → ClassId) (v : Nat) (s : Nat) (k : Nat) (t : Nat) (f : Nat) (v0 : Nat) (v1 : Nat) (v2 : Nat) (v3 : Nat) (vbk : Int32) (vrd : Nat → Int64) (s0 : Nat) (s1 : Nat) (s2 : Nat) (s3 : Nat) (s4 : Nat) (s5 : Nat) (s6 : Nat) (s7 : Nat) (s8 : Nat) (s9 : Nat) (s10 : Nat) (s11 : Nat) (sn : Nat) (sl : Nat) (se : Nat) (sc8 : Nat → Nat → Int32) (hsn : sn ≤ 6) (hsl : sl ≤ 10) (hse : se ≤ 4) (hsla : FtOk sl sc8) (hk : k < sl) (hf : f ≤ 1) : CtI lau yX4_canBeginBy cX4_canBeginBy 5 (some .boolean) 1 0 0 gg kA [.ref v, .ref s, .int (nI k), .int (nI t), .int (nI f)] (mflat [(v, .inl (.inr (4, [.ref v0, .ref v1, .ref v2, .ref v3, .int vbk]))), (v3, .inl (.inl (kA 2, 2, .inr (.inl vrd)))), (s, .inl (.inr (5, [.ref s0, .ref s1, .ref s2, .ref s3, .ref s4, .ref s5, .ref s6, .ref s7, .ref s8, .ref s9, .ref s10, .ref s11, .int (nI sn), .int (nI sl), .int (nI se)]))), (s8, .inr (kA 6, kA 1, 10, 2, .inl sc8))]) (S := Nat) (fun (r : Int32) (y_r : Nat) => r = nI y_r ∧ (y_r ≤ 1) ∧ (y_r ≠ 0 → ∃ g, g ≤ 1 ∧ sc8 k f = nI g)) (fun (y_r : Nat) => mflat [(v, .inl (.inr (4, [.ref v0, .ref v1, .ref v2, .ref v3, .int vbk]))), (v3, .inl (.inl (kA 2, 2, .inr (.inl vrd)))), (s, .inl (.inr (5, [.ref s0, .ref s1, .ref s2, .ref s3, .ref s4, .ref s5, .ref s6, .ref s7, .ref s8, .ref s9, .ref s10, .ref s11, .int (nI sn), .int (nI sl), .int (nI se)]))), (s8, .inr (kA 6, kA 1, 10, 2, .inl sc8))]) := by
  refine nx_startI (by decide +kernel) (Nat.le_of_ble_eq_true rfl) ?_
  intro x hnm h hq
  have h : Ok x cX4_canBeginBy RX4 kA (rmC 1 0 0) 5 := h
  show J x (mflat [(v, .inl (.inr (4, [.ref v0, .ref v1, .ref v2, .ref v3, .int vbk]))), (v3, .inl (.inl (kA 2, 2, .inr (.inl vrd)))), (s, .inl (.inr (5, [.ref s0, .ref s1, .ref s2, .ref s3, .ref s4, .ref s5, .ref s6, .ref s7, .ref s8, .ref s9, .ref s10, .ref s11, .int (nI sn), .int (nI sl), .int (nI se)]))), (s8, .inr (kA 6, kA 1, 10, 2, .inl sc8))]) [(0, .ref v), (1, .ref s), (2, .int (nI k)), (3, .int (nI t)), (4, .int (nI f))] 0 0 0 []
  refine j_aload_n h 0 rfl rfl dX4_canBeginBy_0 ?_
  refine jm_get h iw_X4 0 rfl rfl 3 (by decide +kernel) tw_424 rfl dX4_canBeginBy_1 ?_
  refine j_iload h 4 rfl dX4_canBeginBy_4 ?_
  refine jm_lald h 1 rfl f rfl (by omega) (by omega) dX4_canBeginBy_6 ?_
  refine j_iload_n h 3 rfl rfl dX4_canBeginBy_7 ?_
  refine j_lshr h dX4_canBeginBy_8 ?_
  refine j_lconst (v := 1) h (by decide) dX4_canBeginBy_9 ?_
  refine j_land h dX4_canBeginBy_10 ?_
  refine j_lconst (v := 1) h (by decide) dX4_canBeginBy_11 ?_
  refine j_lcmp h dX4_canBeginBy_12 ?_
  refine j_if_ne h 33 dX4_canBeginBy_13 (by decide) (fun z3302 => ?_) (fun z3302 => ?_)
  · show J x (mflat [(v, .inl (.inr (4, [.ref v0, .ref v1, .ref v2, .ref v3, .int vbk]))), (v3, .inl (.inl (kA 2, 2, .inr (.inl vrd)))), (s, .inl (.inr (5, [.ref s0, .ref s1, .ref s2, .ref s3, .ref s4, .ref s5, .ref s6, .ref s7, .ref s8, .ref s9, .ref s10, .ref s11, .int (nI sn), .int (nI sl), .int (nI se)]))), (s8, .inr (kA 6, kA 1, 10, 2, .inl sc8))]) [(0, .ref v), (1, .ref s), (2, .int (nI k)), (3, .int (nI t)), (4, .int (nI f))] 0 0 33 []
    refine j_iconst (v := 0) h (by decide) dX4_canBeginBy_33 ?_
    exact jm_zret h hq rfl dX4_canBeginBy_34 0 [0, 1, 2, 3] rfl (by decide) ⟨rfl, (show 0 ≤ 1 by first | assumption | omega), (show 0 ≠ 0 → ∃ g, g ≤ 1 ∧ sc8 k f = nI g from fun h9 => absurd rfl h9)⟩ (Nat.le_of_ble_eq_true rfl) (Nat.le_of_ble_eq_true rfl)
  · show J x (mflat [(v, .inl (.inr (4, [.ref v0, .ref v1, .ref v2, .ref v3, .int vbk]))), (v3, .inl (.inl (kA 2, 2, .inr (.inl vrd)))), (s, .inl (.inr (5, [.ref s0, .ref s1, .ref s2, .ref s3, .ref s4, .ref s5, .ref s6, .ref s7, .ref s8, .ref s9, .ref s10, .ref s11, .int (nI sn), .int (nI sl), .int (nI se)]))), (s8, .inr (kA 6, kA 1, 10, 2, .inl sc8))]) [(0, .ref v), (1, .ref s), (2, .int (nI k)), (3, .int (nI t)), (4, .int (nI f))] 0 0 16 []
    refine j_aload_n h 1 rfl rfl dX4_canBeginBy_16 ?_
    refine jm_get h iw_X5 2 rfl rfl 8 (by decide +kernel) tw_207 rfl dX4_canBeginBy_17 ?_
    refine j_iload_n h 2 rfl rfl dX4_canBeginBy_20 ?_
    refine jm_gout h 3 6 rfl rfl k rfl (by omega) (by omega) dX4_canBeginBy_21 ?_
    refine j_iload h 4 rfl dX4_canBeginBy_22 ?_
    refine jm_gald h 3 rfl k (by omega) f rfl (by omega) (by omega) dX4_canBeginBy_24 ?_
    obtain ⟨t3303, u3304, u3305⟩ := (show FtOk sl sc8 by assumption) k f (by omega) (by omega)
    refine j_top (b := pm t3303) (u3305) ?_
    refine j_iconst (v := (-1)) h (by decide) dX4_canBeginBy_25 ?_
    rcases t3303 with _ | j3306
    · show J x (mflat [(v, .inl (.inr (4, [.ref v0, .ref v1, .ref v2, .ref v3, .int vbk]))), (v3, .inl (.inl (kA 2, 2, .inr (.inl vrd)))), (s, .inl (.inr (5, [.ref s0, .ref s1, .ref s2, .ref s3, .ref s4, .ref s5, .ref s6, .ref s7, .ref s8, .ref s9, .ref s10, .ref s11, .int (nI sn), .int (nI sl), .int (nI se)]))), (s8, .inr (kA 6, kA 1, 10, 2, .inl sc8))]) [(0, .ref v), (1, .ref s), (2, .int (nI k)), (3, .int (nI t)), (4, .int (nI f))] 0 0 26 [.int (-1), .int (-1)]
      refine j_icmp_eq h 33 dX4_canBeginBy_26 (by decide) (fun _ => ?_) (fun q => absurd (by decide) q)
      refine j_iconst (v := 0) h (by decide) dX4_canBeginBy_33 ?_
      exact jm_zret h hq rfl dX4_canBeginBy_34 0 [0, 1, 2, 3] rfl (by decide) ⟨rfl, (show 0 ≤ 1 by first | assumption | omega), (show 0 ≠ 0 → ∃ g, g ≤ 1 ∧ sc8 k f = nI g from fun h9 => absurd rfl h9)⟩ (Nat.le_of_ble_eq_true rfl) (Nat.le_of_ble_eq_true rfl)
    · show J x (mflat [(v, .inl (.inr (4, [.ref v0, .ref v1, .ref v2, .ref v3, .int vbk]))), (v3, .inl (.inl (kA 2, 2, .inr (.inl vrd)))), (s, .inl (.inr (5, [.ref s0, .ref s1, .ref s2, .ref s3, .ref s4, .ref s5, .ref s6, .ref s7, .ref s8, .ref s9, .ref s10, .ref s11, .int (nI sn), .int (nI sl), .int (nI se)]))), (s8, .inr (kA 6, kA 1, 10, 2, .inl sc8))]) [(0, .ref v), (1, .ref s), (2, .int (nI k)), (3, .int (nI t)), (4, .int (nI f))] 0 0 26 [.int (-1), .int (nI j3306)]
      refine j_icmp_eq h 33 dX4_canBeginBy_26 (by decide) (fun q => absurd q (nI_m1 (by omega))) (fun _ => ?_)
      refine j_iconst (v := 1) h (by decide) dX4_canBeginBy_29 ?_
      refine j_goto h 34 dX4_canBeginBy_30 (by decide) ?_
      exact jm_zret h hq rfl dX4_canBeginBy_34 1 [0, 1, 2, 3] rfl (by decide) ⟨rfl, (show 1 ≤ 1 by first | assumption | omega), (show 1 ≠ 0 → ∃ g, g ≤ 1 ∧ sc8 k f = nI g from fun _ => ⟨j3306, by omega, u3305⟩)⟩ (Nat.le_of_ble_eq_true rfl) (Nat.le_of_ble_eq_true rfl)
set_option maxHeartbeats 4000000 in
set_option maxRecDepth 100000 in
theorem s_X4_canBegin (lau : Launch) (gg : va_G) (kA : Nat → ClassId) (v : Nat) (s : Nat) (k : Nat) (t : Nat) (v0 : Nat) (v1 : Nat) (v2 : Nat) (v3 : Nat) (vbk : Int32) (vrd : Nat → Int64) (s0 : Nat) (s1 : Nat) (s2 : Nat) (s3 : Nat) (s4 : Nat) (s5 : Nat) (s6 : Nat) (s7 : Nat) (s8 : Nat) (s9 : Nat) (s10 : Nat) (s11 : Nat) (sn : Nat) (sl : Nat) (se : Nat) (sc8 : Nat → Nat → Int32) (hsn : sn ≤ 6) (hsl : sl ≤ 10) (hse : se ≤ 4) (hsla : FtOk sl sc8) (hk : k < sl) : CtI lau yX4_canBegin cX4_canBegin 4 (some .boolean) 2 0 0 gg kA [.ref v, .ref s, .int (nI k), .int (nI t)] (mflat [(v, .inl (.inr (4, [.ref v0, .ref v1, .ref v2, .ref v3, .int vbk]))), (v3, .inl (.inl (kA 2, 2, .inr (.inl vrd)))), (s, .inl (.inr (5, [.ref s0, .ref s1, .ref s2, .ref s3, .ref s4, .ref s5, .ref s6, .ref s7, .ref s8, .ref s9, .ref s10, .ref s11, .int (nI sn), .int (nI sl), .int (nI se)]))), (s8, .inr (kA 6, kA 1, 10, 2, .inl sc8))]) (S := Nat) (fun (r : Int32) (y_r : Nat) => r = nI y_r ∧ (y_r ≤ 1)) (fun (y_r : Nat) => mflat [(v, .inl (.inr (4, [.ref v0, .ref v1, .ref v2, .ref v3, .int vbk]))), (v3, .inl (.inl (kA 2, 2, .inr (.inl vrd)))), (s, .inl (.inr (5, [.ref s0, .ref s1, .ref s2, .ref s3, .ref s4, .ref s5, .ref s6, .ref s7, .ref s8, .ref s9, .ref s10, .ref s11, .int (nI sn), .int (nI sl), .int (nI se)]))), (s8, .inr (kA 6, kA 1, 10, 2, .inl sc8))]) := by
  refine nx_startI (by decide +kernel) (Nat.le_of_ble_eq_true rfl) ?_
  intro x hnm h hq
  have h : Ok x cX4_canBegin RX4 kA (rmC 2 0 0) 4 := h
  show J x (mflat [(v, .inl (.inr (4, [.ref v0, .ref v1, .ref v2, .ref v3, .int vbk]))), (v3, .inl (.inl (kA 2, 2, .inr (.inl vrd)))), (s, .inl (.inr (5, [.ref s0, .ref s1, .ref s2, .ref s3, .ref s4, .ref s5, .ref s6, .ref s7, .ref s8, .ref s9, .ref s10, .ref s11, .int (nI sn), .int (nI sl), .int (nI se)]))), (s8, .inr (kA 6, kA 1, 10, 2, .inl sc8))]) [(0, .ref v), (1, .ref s), (2, .int (nI k)), (3, .int (nI t))] 0 0 0 []
  refine j_aload_n h 0 rfl rfl dX4_canBegin_0 ?_
  refine jm_get h iw_X4 0 rfl rfl 4 (by decide +kernel) tw_425 rfl dX4_canBegin_1 ?_
  refine j_iload_n h 2 rfl rfl dX4_canBegin_4 ?_
  refine j_ishr h dX4_canBegin_5 ?_
  refine j_iconst (v := 1) h (by decide) dX4_canBegin_6 ?_
  refine j_iand h dX4_canBegin_7 ?_
  refine j_iconst (v := 1) h (by decide) dX4_canBegin_8 ?_
  refine j_icmp_ne h 38 dX4_canBegin_9 (by decide) (fun z3322 => ?_) (fun z3322 => ?_)
  · show J x (mflat [(v, .inl (.inr (4, [.ref v0, .ref v1, .ref v2, .ref v3, .int vbk]))), (v3, .inl (.inl (kA 2, 2, .inr (.inl vrd)))), (s, .inl (.inr (5, [.ref s0, .ref s1, .ref s2, .ref s3, .ref s4, .ref s5, .ref s6, .ref s7, .ref s8, .ref s9, .ref s10, .ref s11, .int (nI sn), .int (nI sl), .int (nI se)]))), (s8, .inr (kA 6, kA 1, 10, 2, .inl sc8))]) [(0, .ref v), (1, .ref s), (2, .int (nI k)), (3, .int (nI t))] 0 0 38 []
    refine j_iconst (v := 0) h (by decide) dX4_canBegin_38 ?_
    exact jm_zret h hq rfl dX4_canBegin_39 0 [0, 1, 2, 3] rfl (by decide) ⟨rfl, (show 0 ≤ 1 by first | assumption | omega)⟩ (Nat.le_of_ble_eq_true rfl) (Nat.le_of_ble_eq_true rfl)
  · show J x (mflat [(v, .inl (.inr (4, [.ref v0, .ref v1, .ref v2, .ref v3, .int vbk]))), (v3, .inl (.inl (kA 2, 2, .inr (.inl vrd)))), (s, .inl (.inr (5, [.ref s0, .ref s1, .ref s2, .ref s3, .ref s4, .ref s5, .ref s6, .ref s7, .ref s8, .ref s9, .ref s10, .ref s11, .int (nI sn), .int (nI sl), .int (nI se)]))), (s8, .inr (kA 6, kA 1, 10, 2, .inl sc8))]) [(0, .ref v), (1, .ref s), (2, .int (nI k)), (3, .int (nI t))] 0 0 12 []
    refine j_aload_n h 0 rfl rfl dX4_canBegin_12 ?_
    refine j_aload_n h 1 rfl rfl dX4_canBegin_13 ?_
    refine j_iload_n h 2 rfl rfl dX4_canBegin_14 ?_
    refine j_iload_n h 3 rfl rfl dX4_canBegin_15 ?_
    refine j_iconst (v := 0) h (by decide) dX4_canBegin_16 ?_
    refine jm_callVi (np := 4) (isC := [0, 1, 2, 3]) (isR := []) (wc := [(v, .inl (.inr (4, [.ref v0, .ref v1, .ref v2, .ref v3, .int vbk]))), (v3, .inl (.inl (kA 2, 2, .inr (.inl vrd)))), (s, .inl (.inr (5, [.ref s0, .ref s1, .ref s2, .ref s3, .ref s4, .ref s5, .ref s6, .ref s7, .ref s8, .ref s9, .ref s10, .ref s11, .int (nI sn), .int (nI sl), .int (nI se)]))), (s8, .inr (kA 6, kA 1, 10, 2, .inl sc8))]) (wr := []) (rest := []) (As := [.ref s, .int (nI k), .int (nI t), .int 0]) (q0 := 0) h (s_X4_canBeginBy _ _ kA v s k t 0 v0 v1 v2 v3 vbk vrd s0 s1 s2 s3 s4 s5 s6 s7 s8 s9 s10 s11 sn sl se sc8 (show sn ≤ 6 by first | assumption | omega) (show sl ≤ 10 by first | assumption | omega) (show se ≤ 4 by first | assumption | omega) (show FtOk sl sc8 by first | assumption | omega) (show k < sl by first | assumption | omega) (show 0 ≤ 1 by first | assumption | omega)) tw_921 tw_923 tw_24 tw_96 tw_924 (by decide +kernel) rfl ⟨Nat.le_of_ble_eq_true rfl, Nat.le_of_ble_eq_true rfl⟩ rfl rfl (by decide +kernel) rfl rfl (by decide +kernel) (by decide +kernel) (Nat.le_of_ble_eq_true rfl) rfl ⟨Nat.le_of_ble_eq_true rfl, Nat.le_of_ble_eq_true rfl⟩ dX4_canBegin_17 ?_
    rintro r3325 q3323 e3324
    obtain ⟨p3326, p3327, p3328⟩ := e3324
    subst p3326
    replace p3327 : q3323 ≤ 1 := p3327
    replace p3328 : q3323 ≠ 0 → ∃ g, g ≤ 1 ∧ sc8 k 0 = nI g := p3328
    show J x (mflat [(v, .inl (.inr (4, [.ref v0, .ref v1, .ref v2, .ref v3, .int vbk]))), (v3, .inl (.inl (kA 2, 2, .inr (.inl vrd)))), (s, .inl (.inr (5, [.ref s0, .ref s1, .ref s2, .ref s3, .ref s4, .ref s5, .ref s6, .ref s7, .ref s8, .ref s9, .ref s10, .ref s11, .int (nI sn), .int (nI sl), .int (nI se)]))), (s8, .inr (kA 6, kA 1, 10, 2, .inl sc8))]) [(0, .ref v), (1, .ref s), (2, .int (nI k)), (3, .int (nI t))] 0 0 20 [.int (nI q3323)]
    refine j_if_ne h 34 dX4_canBegin_20 (by decide) (fun z3329 => ?_) (fun z3329 => ?_)
    · have z3329n : ¬ q3323 = 0 := fun q9 => z3329 ((nI_eq (a := q3323) (b := 0) (by omega) (by omega)).mpr q9)
      refine j_iconst (v := 1) h (by decide) dX4_canBegin_34 ?_
      refine j_goto h 39 dX4_canBegin_35 (by decide) ?_
      exact jm_zret h hq rfl dX4_canBegin_39 1 [0, 1, 2, 3] rfl (by decide) ⟨rfl, (show 1 ≤ 1 by first | assumption | omega)⟩ (Nat.le_of_ble_eq_true rfl) (Nat.le_of_ble_eq_true rfl)
    · have z3329n : q3323 = 0 := (nI_eq (a := q3323) (b := 0) (by omega) (by omega)).mp z3329
      refine j_aload_n h 0 rfl rfl dX4_canBegin_23 ?_
      refine j_aload_n h 1 rfl rfl dX4_canBegin_24 ?_
      refine j_iload_n h 2 rfl rfl dX4_canBegin_25 ?_
      refine j_iload_n h 3 rfl rfl dX4_canBegin_26 ?_
      refine j_iconst (v := 1) h (by decide) dX4_canBegin_27 ?_
      refine jm_callVi (np := 4) (isC := [0, 1, 2, 3]) (isR := []) (wc := [(v, .inl (.inr (4, [.ref v0, .ref v1, .ref v2, .ref v3, .int vbk]))), (v3, .inl (.inl (kA 2, 2, .inr (.inl vrd)))), (s, .inl (.inr (5, [.ref s0, .ref s1, .ref s2, .ref s3, .ref s4, .ref s5, .ref s6, .ref s7, .ref s8, .ref s9, .ref s10, .ref s11, .int (nI sn), .int (nI sl), .int (nI se)]))), (s8, .inr (kA 6, kA 1, 10, 2, .inl sc8))]) (wr := []) (rest := []) (As := [.ref s, .int (nI k), .int (nI t), .int 1]) (q0 := 0) h (s_X4_canBeginBy _ _ kA v s k t 1 v0 v1 v2 v3 vbk vrd s0 s1 s2 s3 s4 s5 s6 s7 s8 s9 s10 s11 sn sl se sc8 (show sn ≤ 6 by first | assumption | omega) (show sl ≤ 10 by first | assumption | omega) (show se ≤ 4 by first | assumption | omega) (show FtOk sl sc8 by first | assumption | omega) (show k < sl by first | assumption | omega) (show 1 ≤ 1 by first | assumption | omega)) tw_921 tw_923 tw_24 tw_96 tw_924 (by decide +kernel) rfl ⟨Nat.le_of_ble_eq_true rfl, Nat.le_of_ble_eq_true rfl⟩ rfl rfl (by decide +kernel) rfl rfl (by decide +kernel) (by decide +kernel) (Nat.le_of_ble_eq_true rfl) rfl ⟨Nat.le_of_ble_eq_true rfl, Nat.le_of_ble_eq_true rfl⟩ dX4_canBegin_28 ?_
      rintro r3332 q3330 e3331
      obtain ⟨p3333, p3334, p3335⟩ := e3331
      subst p3333
      replace p3334 : q3330 ≤ 1 := p3334
      replace p3335 : q3330 ≠ 0 → ∃ g, g ≤ 1 ∧ sc8 k 1 = nI g := p3335
      show J x (mflat [(v, .inl (.inr (4, [.ref v0, .ref v1, .ref v2, .ref v3, .int vbk]))), (v3, .inl (.inl (kA 2, 2, .inr (.inl vrd)))), (s, .inl (.inr (5, [.ref s0, .ref s1, .ref s2, .ref s3, .ref s4, .ref s5, .ref s6, .ref s7, .ref s8, .ref s9, .ref s10, .ref s11, .int (nI sn), .int (nI sl), .int (nI se)]))), (s8, .inr (kA 6, kA 1, 10, 2, .inl sc8))]) [(0, .ref v), (1, .ref s), (2, .int (nI k)), (3, .int (nI t))] 0 0 31 [.int (nI q3330)]
      refine j_if_eq h 38 dX4_canBegin_31 (by decide) (fun z3336 => ?_) (fun z3336 => ?_)
      · have z3336n : q3330 = 0 := (nI_eq (a := q3330) (b := 0) (by omega) (by omega)).mp z3336
        refine j_iconst (v := 0) h (by decide) dX4_canBegin_38 ?_
        exact jm_zret h hq rfl dX4_canBegin_39 0 [0, 1, 2, 3] rfl (by decide) ⟨rfl, (show 0 ≤ 1 by first | assumption | omega)⟩ (Nat.le_of_ble_eq_true rfl) (Nat.le_of_ble_eq_true rfl)
      · have z3336n : ¬ q3330 = 0 := fun q9 => z3336 ((nI_eq (a := q3330) (b := 0) (by omega) (by omega)).mpr q9)
        refine j_iconst (v := 1) h (by decide) dX4_canBegin_34 ?_
        refine j_goto h 39 dX4_canBegin_35 (by decide) ?_
        exact jm_zret h hq rfl dX4_canBegin_39 1 [0, 1, 2, 3] rfl (by decide) ⟨rfl, (show 1 ≤ 1 by first | assumption | omega)⟩ (Nat.le_of_ble_eq_true rfl) (Nat.le_of_ble_eq_true rfl)
set_option maxHeartbeats 4000000 in
set_option maxRecDepth 100000 in
theorem s_X4_markRead (lau : Launch) (gg : va_G) (kA : Nat → ClassId) (v : Nat) (s : Nat) (k : Nat) (t : Nat) (v0 : Nat) (v1 : Nat) (v2 : Nat) (v3 : Nat) (vbk : Int32) (vrd : Nat → Int64) (s0 : Nat) (s1 : Nat) (s2 : Nat) (s3 : Nat) (s4 : Nat) (s5 : Nat) (s6 : Nat) (s7 : Nat) (s8 : Nat) (s9 : Nat) (s10 : Nat) (s11 : Nat) (sn : Nat) (sl : Nat) (se : Nat) (sc7 : Nat → Int32) (sc8 : Nat → Nat → Int32) (hsn : sn ≤ 6) (hsl : sl ≤ 10) (hse : se ≤ 4) (hslt : LtOk sl sc7) (hsla : FtOk sl sc8) (hk : k < sl) : CtV lau yX4_markRead cX4_markRead 5 (none) 2 0 0 gg kA [.ref v, .ref s, .int (nI k), .int (nI t)] (mflat [(v, .inl (.inr (4, [.ref v0, .ref v1, .ref v2, .ref v3, .int vbk]))), (v3, .inl (.inl (kA 2, 2, .inr (.inl vrd)))), (s, .inl (.inr (5, [.ref s0, .ref s1, .ref s2, .ref s3, .ref s4, .ref s5, .ref s6, .ref s7, .ref s8, .ref s9, .ref s10, .ref s11, .int (nI sn), .int (nI sl), .int (nI se)]))), (s7, .inl (.inl (kA 1, 10, .inl sc7))), (s8, .inr (kA 6, kA 1, 10, 2, .inl sc8))]) (S := (Nat → Int64)) (fun (y_v3 : (Nat → Int64)) => True) (fun (y_v3 : (Nat → Int64)) => mflat [(v, .inl (.inr (4, [.ref v0, .ref v1, .ref v2, .ref v3, .int vbk]))), (v3, .inl (.inl (kA 2, 2, .inr (.inl y_v3)))), (s, .inl (.inr (5, [.ref s0, .ref s1, .ref s2, .ref s3, .ref s4, .ref s5, .ref s6, .ref s7, .ref s8, .ref s9, .ref s10, .ref s11, .int (nI sn), .int (nI sl), .int (nI se)]))), (s7, .inl (.inl (kA 1, 10, .inl sc7))), (s8, .inr (kA 6, kA 1, 10, 2, .inl sc8))]) := by
  refine nx_startV (by decide +kernel) (Nat.le_of_ble_eq_true rfl) ?_
  intro x hnm h hq
  have h : Ok x cX4_markRead RX4 kA (rmC 2 0 0) 5 := h
  show J x (mflat [(v, .inl (.inr (4, [.ref v0, .ref v1, .ref v2, .ref v3, .int vbk]))), (v3, .inl (.inl (kA 2, 2, .inr (.inl vrd)))), (s, .inl (.inr (5, [.ref s0, .ref s1, .ref s2, .ref s3, .ref s4, .ref s5, .ref s6, .ref s7, .ref s8, .ref s9, .ref s10, .ref s11, .int (nI sn), .int (nI sl), .int (nI se)]))), (s7, .inl (.inl (kA 1, 10, .inl sc7))), (s8, .inr (kA 6, kA 1, 10, 2, .inl sc8))]) [(0, .ref v), (1, .ref s), (2, .int (nI k)), (3, .int (nI t))] 0 0 0 []
  refine j_iconst (v := 0) h (by decide) dX4_markRead_0 ?_
  refine j_istore (lv' := [(4, .int 0), (0, .ref v), (1, .ref s), (2, .int (nI k)), (3, .int (nI t))]) h dX4_markRead_1 (by decide) rfl ?_
  have lp3_390 : ∀ (m3_390 : Nat), ∀ (v4_3_390 : Nat) (fv3_3_390 : Nat → Int64), (v4_3_390 ≤ 100000) → 100001 - v4_3_390 < m3_390 → J x (mflat [(v, .inl (.inr (4, [.ref v0, .ref v1, .ref v2, .ref v3, .int vbk]))), (v3, .inl (.inl (kA 2, 2, .inr (.inl fv3_3_390)))), (s, .inl (.inr (5, [.ref s0, .ref s1, .ref s2, .ref s3, .ref s4, .ref s5, .ref s6, .ref s7, .ref s8, .ref s9, .ref s10, .ref s11, .int (nI sn), .int (nI sl), .int (nI se)]))), (s7, .inl (.inl (kA 1, 10, .inl sc7))), (s8, .inr (kA 6, kA 1, 10, 2, .inl sc8))]) [(4, .int (nI v4_3_390)), (0, .ref v), (1, .ref s), (2, .int (nI k)), (3, .int (nI t))] 0 0 3 [] := by
    intro m3_390
    induction m3_390 with
    | zero =>
      intro v4_3_390 fv3_3_390 i3_390_0 hm3_390
      exact absurd hm3_390 (Nat.not_lt_zero _)
    | succ m3_390 ih3_390 =>
      intro v4_3_390 fv3_3_390 i3_390_0 hm3_390
      refine j_iload h 0 rfl dX4_markRead_3 ?_
      refine j_iconst (v := 1) h (by decide) dX4_markRead_5 ?_
      refine j_icmp_gt h 54 dX4_markRead_6 (by decide) (fun z3410 => ?_) (fun z3410 => ?_)
      · have z3410n : 1 < v4_3_390 := (nI_ltI (a := 1) (b := v4_3_390) (by omega) (by omega)).mp z3410
        exact jm_vret h hq dX4_markRead_54 fv3_3_390 [0, 1, 2, 3, 4] rfl (by decide) trivial (Nat.le_of_ble_eq_true rfl) (Nat.le_of_ble_eq_true rfl)
      · have z3410n : ¬ 1 < v4_3_390 := fun q9 => z3410 ((nI_ltI (a := 1) (b := v4_3_390) (by omega) (by omega)).mpr q9)
        refine j_aload_n h 1 rfl rfl dX4_markRead_9 ?_
        refine j_aload_n h 2 rfl rfl dX4_markRead_10 ?_
        refine j_iload_n h 3 rfl rfl dX4_markRead_11 ?_
        refine j_iload_n h 4 rfl rfl dX4_markRead_12 ?_
        refine j_iload h 0 rfl dX4_markRead_13 ?_
        refine jm_callVi (np := 4) (isC := [0, 1, 2, 4]) (isR := [3]) (wc := [(v, .inl (.inr (4, [.ref v0, .ref v1, .ref v2, .ref v3, .int vbk]))), (v3, .inl (.inl (kA 2, 2, .inr (.inl fv3_3_390)))), (s, .inl (.inr (5, [.ref s0, .ref s1, .ref s2, .ref s3, .ref s4, .ref s5, .ref s6, .ref s7, .ref s8, .ref s9, .ref s10, .ref s11, .int (nI sn), .int (nI sl), .int (nI se)]))), (s8, .inr (kA 6, kA 1, 10, 2, .inl sc8))]) (wr := [(s7, .inl (.inl (kA 1, 10, .inl sc7)))]) (rest := []) (As := [.ref s, .int (nI k), .int (nI t), .int (nI v4_3_390)]) (q0 := 0) h (s_X4_canBeginBy _ _ kA v s k t v4_3_390 v0 v1 v2 v3 vbk fv3_3_390 s0 s1 s2 s3 s4 s5 s6 s7 s8 s9 s10 s11 sn sl se sc8 (show sn ≤ 6 by first | assumption | omega) (show sl ≤ 10 by first | assumption | omega) (show se ≤ 4 by first | assumption | omega) (show FtOk sl sc8 by first | assumption | omega) (show k < sl by first | assumption | omega) (show v4_3_390 ≤ 1 by first | assumption | omega)) tw_921 tw_923 tw_24 tw_96 tw_924 (by decide +kernel) rfl ⟨Nat.le_of_ble_eq_true rfl, Nat.le_of_ble_eq_true rfl⟩ rfl rfl (by decide +kernel) rfl rfl (by decide +kernel) (by decide +kernel) (Nat.le_of_ble_eq_true rfl) rfl ⟨Nat.le_of_ble_eq_true rfl, Nat.le_of_ble_eq_true rfl⟩ dX4_markRead_15 ?_
        rintro r3413 q3411 e3412
        obtain ⟨p3414, p3415, p3416⟩ := e3412
        subst p3414
        replace p3415 : q3411 ≤ 1 := p3415
        replace p3416 : q3411 ≠ 0 → ∃ g, g ≤ 1 ∧ sc8 k v4_3_390 = nI g := p3416
        show J x (mflat [(s7, .inl (.inl (kA 1, 10, .inl sc7))), (v, .inl (.inr (4, [.ref v0, .ref v1, .ref v2, .ref v3, .int vbk]))), (v3, .inl (.inl (kA 2, 2, .inr (.inl fv3_3_390)))), (s, .inl (.inr (5, [.ref s0, .ref s1, .ref s2, .ref s3, .ref s4, .ref s5, .ref s6, .ref s7, .ref s8, .ref s9, .ref s10, .ref s11, .int (nI sn), .int (nI sl), .int (nI se)]))), (s8, .inr (kA 6, kA 1, 10, 2, .inl sc8))]) [(4, .int (nI v4_3_390)), (0, .ref v), (1, .ref s), (2, .int (nI k)), (3, .int (nI t))] 0 0 18 [.int (nI q3411)]
        refine j_if_eq h 48 dX4_markRead_18 (by decide) (fun z3417 => ?_) (fun z3417 => ?_)
        · have z3417n : q3411 = 0 := (nI_eq (a := q3411) (b := 0) (by omega) (by omega)).mp z3417
          refine j_iinc (v := nI (v4_3_390 + 1)) (lv' := [(4, .int (nI (v4_3_390 + 1))), (0, .ref v), (1, .ref s), (2, .int (nI k)), (3, .int (nI t))]) h dX4_markRead_48 0 rfl (nI_add v4_3_390 1) (by decide) rfl ?_
          refine j_goto h 3 dX4_markRead_51 (by decide) ?_
          refine jm_sub [1, 2, 3, 0, 4] (w' := [(v, .inl (.inr (4, [.ref v0, .ref v1, .ref v2, .ref v3, .int vbk]))), (v3, .inl (.inl (kA 2, 2, .inr (.inl fv3_3_390)))), (s, .inl (.inr (5, [.ref s0, .ref s1, .ref s2, .ref s3, .ref s4, .ref s5, .ref s6, .ref s7, .ref s8, .ref s9, .ref s10, .ref s11, .int (nI sn), .int (nI sl), .int (nI se)]))), (s7, .inl (.inl (kA 1, 10, .inl sc7))), (s8, .inr (kA 6, kA 1, 10, 2, .inl sc8))]) rfl (by decide +kernel) [0, 1, 2, 3, 4] (lv' := [(4, .int (nI (v4_3_390 + 1))), (0, .ref v), (1, .ref s), (2, .int (nI k)), (3, .int (nI t))]) rfl ?_
          exact ih3_390 (v4_3_390 + 1) fv3_3_390 (show (v4_3_390 + 1) ≤ 100000 by first | assumption | omega) (show 100001 - (v4_3_390 + 1) < m3_390 by first | exact Nat.lt_of_lt_of_le (Nat.sub_lt_sub_left (Nat.lt_of_le_of_lt (show v4_3_390 ≤ 100000 by assumption) (Nat.lt_succ_self 100000)) (Nat.lt_succ_self v4_3_390)) (Nat.le_of_lt_succ hm3_390) | omega)
        · have z3417n : ¬ q3411 = 0 := fun q9 => z3417 ((nI_eq (a := q3411) (b := 0) (by omega) (by omega)).mpr q9)
          refine j_aload_n h 1 rfl rfl dX4_markRead_21 ?_
          obtain ⟨t3418, u3419, u3420⟩ := p3416 (by omega)
          refine jm_get h iw_X4 1 rfl rfl 3 (by decide +kernel) tw_424 rfl dX4_markRead_22 ?_
          refine j_aload_n h 2 rfl rfl dX4_markRead_25 ?_
          refine jm_get h iw_X5 3 rfl rfl 8 (by decide +kernel) tw_207 rfl dX4_markRead_26 ?_
          refine j_iload_n h 3 rfl rfl dX4_markRead_29 ?_
          refine jm_gout h 4 6 rfl rfl k rfl (by omega) (by omega) dX4_markRead_30 ?_
          refine j_iload h 0 rfl dX4_markRead_31 ?_
          refine jm_gald h 4 rfl k (by omega) v4_3_390 rfl (by omega) (by omega) dX4_markRead_33 ?_
          refine j_top (b := nI t3418) (u3420) ?_
          refine j_dup2 h rfl rfl dX4_markRead_34 ?_
          refine jm_lald h 2 rfl t3418 rfl (by omega) (by omega) dX4_markRead_35 ?_
          refine j_lconst (v := 1) h (by decide) dX4_markRead_36 ?_
          refine j_iload_n h 4 rfl rfl dX4_markRead_37 ?_
          refine j_aload_n h 2 rfl rfl dX4_markRead_38 ?_
          refine jm_get h iw_X5 3 rfl rfl 7 (by decide +kernel) tw_201 rfl dX4_markRead_39 ?_
          refine j_iload_n h 3 rfl rfl dX4_markRead_42 ?_
          refine jm_iald h 0 rfl k rfl (by omega) (by omega) dX4_markRead_43 ?_
          obtain ⟨t3421, u3422, u3423, u3424⟩ := (show LtOk sl sc7 by assumption) k (by omega)
          refine j_top (b := nI t3421) (u3424) ?_
          refine j_iadd h dX4_markRead_44 ?_
          refine j_top (b := nI (t + t3421)) (nI_add t t3421) ?_
          refine j_lshl h dX4_markRead_45 ?_
          refine j_lor h dX4_markRead_46 ?_
          refine jm_last (w' := [(s7, .inl (.inl (kA 1, 10, .inl sc7))), (v, .inl (.inr (4, [.ref v0, .ref v1, .ref v2, .ref v3, .int vbk]))), (v3, .inl (.inl (kA 2, 2, .inr (.inl (vp_updL fv3_3_390 t3418 ((fv3_3_390 t3418) ||| (1 <<< ((nI (t + t3421)).toInt64 &&& 63)))))))), (s, .inl (.inr (5, [.ref s0, .ref s1, .ref s2, .ref s3, .ref s4, .ref s5, .ref s6, .ref s7, .ref s8, .ref s9, .ref s10, .ref s11, .int (nI sn), .int (nI sl), .int (nI se)]))), (s8, .inr (kA 6, kA 1, 10, 2, .inl sc8))]) h 2 rfl t3418 rfl (by omega) (by omega) dX4_markRead_47 rfl ?_
          refine j_iinc (v := nI (v4_3_390 + 1)) (lv' := [(4, .int (nI (v4_3_390 + 1))), (0, .ref v), (1, .ref s), (2, .int (nI k)), (3, .int (nI t))]) h dX4_markRead_48 0 rfl (nI_add v4_3_390 1) (by decide) rfl ?_
          refine j_goto h 3 dX4_markRead_51 (by decide) ?_
          refine jm_sub [1, 2, 3, 0, 4] (w' := [(v, .inl (.inr (4, [.ref v0, .ref v1, .ref v2, .ref v3, .int vbk]))), (v3, .inl (.inl (kA 2, 2, .inr (.inl (vp_updL fv3_3_390 t3418 ((fv3_3_390 t3418) ||| (1 <<< ((nI (t + t3421)).toInt64 &&& 63)))))))), (s, .inl (.inr (5, [.ref s0, .ref s1, .ref s2, .ref s3, .ref s4, .ref s5, .ref s6, .ref s7, .ref s8, .ref s9, .ref s10, .ref s11, .int (nI sn), .int (nI sl), .int (nI se)]))), (s7, .inl (.inl (kA 1, 10, .inl sc7))), (s8, .inr (kA 6, kA 1, 10, 2, .inl sc8))]) rfl (by decide +kernel) [0, 1, 2, 3, 4] (lv' := [(4, .int (nI (v4_3_390 + 1))), (0, .ref v), (1, .ref s), (2, .int (nI k)), (3, .int (nI t))]) rfl ?_
          exact ih3_390 (v4_3_390 + 1) (vp_updL fv3_3_390 t3418 ((fv3_3_390 t3418) ||| (1 <<< ((nI (t + t3421)).toInt64 &&& 63)))) (show (v4_3_390 + 1) ≤ 100000 by first | assumption | omega) (show 100001 - (v4_3_390 + 1) < m3_390 by first | exact Nat.lt_of_lt_of_le (Nat.sub_lt_sub_left (Nat.lt_of_le_of_lt (show v4_3_390 ≤ 100000 by assumption) (Nat.lt_succ_self 100000)) (Nat.lt_succ_self v4_3_390)) (Nat.le_of_lt_succ hm3_390) | omega)
  refine jm_sub [0, 1, 2, 3, 4] (w' := [(v, .inl (.inr (4, [.ref v0, .ref v1, .ref v2, .ref v3, .int vbk]))), (v3, .inl (.inl (kA 2, 2, .inr (.inl vrd)))), (s, .inl (.inr (5, [.ref s0, .ref s1, .ref s2, .ref s3, .ref s4, .ref s5, .ref s6, .ref s7, .ref s8, .ref s9, .ref s10, .ref s11, .int (nI sn), .int (nI sl), .int (nI se)]))), (s7, .inl (.inl (kA 1, 10, .inl sc7))), (s8, .inr (kA 6, kA 1, 10, 2, .inl sc8))]) rfl (by decide +kernel) [0, 1, 2, 3, 4] (lv' := [(4, .int 0), (0, .ref v), (1, .ref s), (2, .int (nI k)), (3, .int (nI t))]) rfl ?_
  exact lp3_390 (100001 - 0 + 1) 0 vrd (show 0 ≤ 100000 by first | assumption | omega) (Nat.lt_succ_self _)
set_option maxHeartbeats 4000000 in
set_option maxRecDepth 100000 in
theorem s_X4_readOn (lau : Launch) (gg : va_G) (kA : Nat → ClassId) (v : Nat) (s : Nat) (k : Nat) (o : Nat) (t : Nat) (tm : Nat) (v0 : Nat) (v1 : Nat) (v2 : Nat) (v3 : Nat) (vbk : Int32) (vls : Nat → Nat → Int32) (vrd : Nat → Int64) (s0 : Nat) (s1 : Nat) (s2 : Nat) (s3 : Nat) (s4 : Nat) (s5 : Nat) (s6 : Nat) (s7 : Nat) (s8 : Nat) (s9 : Nat) (s10 : Nat) (s11 : Nat) (sn : Nat) (sl : Nat) (se : Nat) (sc7 : Nat → Int32) (sc8 : Nat → Nat → Int32) (of : Nat → Int32) (hsn : sn ≤ 6) (hsl : sl ≤ 10) (hse : se ≤ 4) (hslt : LtOk sl sc7) (hsla : FtOk sl sc8) (hk : k < sl) (ht : t ≤ tm) (htm : tm ≤ 60) : CtI lau yX4_readOn cX4_readOn 8 (some .int) 3 0 0 gg kA [.ref v, .ref s, .int (nI k), .ref o, .int (nI t), .int (nI tm)] (mflat [(v, .inl (.inr (4, [.ref v0, .ref v1, .ref v2, .ref v3, .int vbk]))), (v0, .inr (kA 6, kA 1, 10, 45, .inl vls)), (v3, .inl (.inl (kA 2, 2, .inr (.inl vrd)))), (s, .inl (.inr (5, [.ref s0, .ref s1, .ref s2, .ref s3, .ref s4, .ref s5, .ref s6, .ref s7, .ref s8, .ref s9, .ref s10, .ref s11, .int (nI sn), .int (nI sl), .int (nI se)]))), (s7, .inl (.inl (kA 1, 10, .inl sc7))), (s8, .inr (kA 6, kA 1, 10, 2, .inl sc8)), (o, .inl (.inl (kA 1, 60, .inl of)))]) (S := Nat × (Nat → Int64)) (fun (r : Int32) ((y_r, y_v3) : Nat × (Nat → Int64)) => r = nI y_r ∧ (y_r ≤ 200)) (fun ((y_r, y_v3) : Nat × (Nat → Int64)) => mflat [(v, .inl (.inr (4, [.ref v0, .ref v1, .ref v2, .ref v3, .int vbk]))), (v0, .inr (kA 6, kA 1, 10, 45, .inl vls)), (v3, .inl (.inl (kA 2, 2, .inr (.inl y_v3)))), (s, .inl (.inr (5, [.ref s0, .ref s1, .ref s2, .ref s3, .ref s4, .ref s5, .ref s6, .ref s7, .ref s8, .ref s9, .ref s10, .ref s11, .int (nI sn), .int (nI sl), .int (nI se)]))), (s7, .inl (.inl (kA 1, 10, .inl sc7))), (s8, .inr (kA 6, kA 1, 10, 2, .inl sc8)), (o, .inl (.inl (kA 1, 60, .inl of)))]) := by
  refine nx_startI (by decide +kernel) (Nat.le_of_ble_eq_true rfl) ?_
  intro x hnm h hq
  have h : Ok x cX4_readOn RX4 kA (rmC 3 0 0) 8 := h
  show J x (mflat [(v, .inl (.inr (4, [.ref v0, .ref v1, .ref v2, .ref v3, .int vbk]))), (v0, .inr (kA 6, kA 1, 10, 45, .inl vls)), (v3, .inl (.inl (kA 2, 2, .inr (.inl vrd)))), (s, .inl (.inr (5, [.ref s0, .ref s1, .ref s2, .ref s3, .ref s4, .ref s5, .ref s6, .ref s7, .ref s8, .ref s9, .ref s10, .ref s11, .int (nI sn), .int (nI sl), .int (nI se)]))), (s7, .inl (.inl (kA 1, 10, .inl sc7))), (s8, .inr (kA 6, kA 1, 10, 2, .inl sc8)), (o, .inl (.inl (kA 1, 60, .inl of)))]) [(0, .ref v), (1, .ref s), (2, .int (nI k)), (3, .ref o), (4, .int (nI t)), (5, .int (nI tm))] 0 0 0 []
  refine j_aload_n h 1 rfl rfl dX4_readOn_0 ?_
  refine jm_get h iw_X5 3 rfl rfl 7 (by decide +kernel) tw_201 rfl dX4_readOn_1 ?_
  refine j_iload_n h 2 rfl rfl dX4_readOn_4 ?_
  refine jm_iald h 4 rfl k rfl (by omega) (by omega) dX4_readOn_5 ?_
  obtain ⟨t3445, u3446, u3447, u3448⟩ := (show LtOk sl sc7 by assumption) k (by omega)
  refine j_top (b := nI t3445) (u3448) ?_
  refine j_istore (lv' := [(6, .int (nI t3445)), (0, .ref v), (1, .ref s), (2, .int (nI k)), (3, .ref o), (4, .int (nI t)), (5, .int (nI tm))]) h dX4_readOn_6 (by decide) rfl ?_
  refine j_aload_n h 1 rfl rfl dX4_readOn_8 ?_
  refine j_aload_n h 2 rfl rfl dX4_readOn_9 ?_
  refine j_iload_n h 3 rfl rfl dX4_readOn_10 ?_
  refine j_iload h 5 rfl dX4_readOn_11 ?_
  refine jm_callVi (np := 3) (isC := [0, 2, 3, 5]) (isR := [1, 4, 6]) (wc := [(v, .inl (.inr (4, [.ref v0, .ref v1, .ref v2, .ref v3, .int vbk]))), (v3, .inl (.inl (kA 2, 2, .inr (.inl vrd)))), (s, .inl (.inr (5, [.ref s0, .ref s1, .ref s2, .ref s3, .ref s4, .ref s5, .ref s6, .ref s7, .ref s8, .ref s9, .ref s10, .ref s11, .int (nI sn), .int (nI sl), .int (nI se)]))), (s8, .inr (kA 6, kA 1, 10, 2, .inl sc8))]) (wr := [(v0, .inr (kA 6, kA 1, 10, 45, .inl vls)), (s7, .inl (.inl (kA 1, 10, .inl sc7))), (o, .inl (.inl (kA 1, 60, .inl of)))]) (rest := []) (As := [.ref s, .int (nI k), .int (nI t)]) (q0 := 0) h (s_X4_canBegin _ _ kA v s k t v0 v1 v2 v3 vbk vrd s0 s1 s2 s3 s4 s5 s6 s7 s8 s9 s10 s11 sn sl se sc8 (show sn ≤ 6 by first | assumption | omega) (show sl ≤ 10 by first | assumption | omega) (show se ≤ 4 by first | assumption | omega) (show FtOk sl sc8 by first | assumption | omega) (show k < sl by first | assumption | omega)) tw_917 tw_919 tw_23 tw_96 tw_920 (by decide +kernel) rfl ⟨Nat.le_of_ble_eq_true rfl, Nat.le_of_ble_eq_true rfl⟩ rfl rfl (by decide +kernel) rfl rfl (by decide +kernel) (by decide +kernel) (Nat.le_of_ble_eq_true rfl) rfl ⟨Nat.le_of_ble_eq_true rfl, Nat.le_of_ble_eq_true rfl⟩ dX4_readOn_13 ?_
  rintro r3451 q3449 e3450
  obtain ⟨p3452, p3453⟩ := e3450
  subst p3452
  replace p3453 : q3449 ≤ 1 := p3453
  show J x (mflat [(v0, .inr (kA 6, kA 1, 10, 45, .inl vls)), (s7, .inl (.inl (kA 1, 10, .inl sc7))), (o, .inl (.inl (kA 1, 60, .inl of))), (v, .inl (.inr (4, [.ref v0, .ref v1, .ref v2, .ref v3, .int vbk]))), (v3, .inl (.inl (kA 2, 2, .inr (.inl vrd)))), (s, .inl (.inr (5, [.ref s0, .ref s1, .ref s2, .ref s3, .ref s4, .ref s5, .ref s6, .ref s7, .ref s8, .ref s9, .ref s10, .ref s11, .int (nI sn), .int (nI sl), .int (nI se)]))), (s8, .inr (kA 6, kA 1, 10, 2, .inl sc8))]) [(6, .int (nI t3445)), (0, .ref v), (1, .ref s), (2, .int (nI k)), (3, .ref o), (4, .int (nI t)), (5, .int (nI tm))] 0 0 16 [.int (nI q3449)]
  refine j_if_eq h 29 dX4_readOn_16 (by decide) (fun z3454 => ?_) (fun z3454 => ?_)
  · have z3454n : q3449 = 0 := (nI_eq (a := q3449) (b := 0) (by omega) (by omega)).mp z3454
    refine j_iconst (v := 0) h (by decide) dX4_readOn_29 ?_
    exact jm_iret h hq dX4_readOn_30 (0, vrd) [3, 0, 4, 5, 1, 6, 2] rfl (by decide) ⟨rfl, (show 0 ≤ 200 by first | assumption | omega)⟩ (Nat.le_of_ble_eq_true rfl) (Nat.le_of_ble_eq_true rfl)
  · have z3454n : ¬ q3449 = 0 := fun q9 => z3454 ((nI_eq (a := q3449) (b := 0) (by omega) (by omega)).mpr q9)
    refine j_iload h 5 rfl dX4_readOn_19 ?_
    refine j_iload h 0 rfl dX4_readOn_21 ?_
    refine j_iadd h dX4_readOn_23 ?_
    refine j_top (b := nI (t + t3445)) (nI_add t t3445) ?_
    refine j_bipush (v := 60) h (by decide) dX4_readOn_24 ?_
    refine j_icmp_le h 31 dX4_readOn_26 (by decide) (fun z3455 => ?_) (fun z3455 => ?_)
    · have z3455n : (t + t3445) ≤ 60 := (nI_leI (a := (t + t3445)) (b := 60) (by omega) (by omega)).mp z3455
      refine j_aload_n h 1 rfl rfl dX4_readOn_31 ?_
      refine jm_get h iw_X4 3 rfl rfl 0 (by decide +kernel) tw_421 rfl dX4_readOn_32 ?_
      refine j_iload_n h 3 rfl rfl dX4_readOn_35 ?_
      refine jm_gout h 0 6 rfl rfl k rfl (by omega) (by omega) dX4_readOn_36 ?_
      refine j_iload h 0 rfl dX4_readOn_37 ?_
      refine j_aload_n h 4 rfl rfl dX4_readOn_39 ?_
      refine j_iload h 5 rfl dX4_readOn_40 ?_
      refine j_iload h 6 rfl dX4_readOn_42 ?_
      refine jm_callSi (np := 5) (isC := [0, 2]) (isR := [1, 3, 4, 5, 6]) (wc := [(v0, .inr (kA 6, kA 1, 10, 45, .inl vls)), (o, .inl (.inl (kA 1, 60, .inl of)))]) (wr := [(s7, .inl (.inl (kA 1, 10, .inl sc7))), (v, .inl (.inr (4, [.ref v0, .ref v1, .ref v2, .ref v3, .int vbk]))), (v3, .inl (.inl (kA 2, 2, .inr (.inl vrd)))), (s, .inl (.inr (5, [.ref s0, .ref s1, .ref s2, .ref s3, .ref s4, .ref s5, .ref s6, .ref s7, .ref s8, .ref s9, .ref s10, .ref s11, .int (nI sn), .int (nI sl), .int (nI se)]))), (s8, .inr (kA 6, kA 1, 10, 2, .inl sc8))]) (rest := []) (As := [.ref (v0 + 1 + k), .int (nI t3445), .ref o, .int (nI t), .int (nI tm)]) h (s_X4_matching _ _ kA v0 k t3445 o t tm vls of (show k < 10 by first | assumption | omega) (show t3445 ≤ 45 by first | assumption | omega) (show t ≤ tm by first | assumption | omega) (show tm ≤ 60 by first | assumption | omega)) tw_925 tw_926 tw_96 tw_927 (by decide +kernel) rfl ⟨Nat.le_of_ble_eq_true rfl, Nat.le_of_ble_eq_true rfl⟩ (by decide +kernel) rfl rfl (by decide +kernel) (by decide +kernel) (Nat.le_of_ble_eq_true rfl) rfl ⟨Nat.le_of_ble_eq_true rfl, Nat.le_of_ble_eq_true rfl⟩ dX4_readOn_44 ?_
      rintro r3458 q3456 e3457
      obtain ⟨p3459, p3460⟩ := e3457
      subst p3459
      replace p3460 : q3456 ≤ t3445 := p3460
      show J x (mflat [(s7, .inl (.inl (kA 1, 10, .inl sc7))), (v, .inl (.inr (4, [.ref v0, .ref v1, .ref v2, .ref v3, .int vbk]))), (v3, .inl (.inl (kA 2, 2, .inr (.inl vrd)))), (s, .inl (.inr (5, [.ref s0, .ref s1, .ref s2, .ref s3, .ref s4, .ref s5, .ref s6, .ref s7, .ref s8, .ref s9, .ref s10, .ref s11, .int (nI sn), .int (nI sl), .int (nI se)]))), (s8, .inr (kA 6, kA 1, 10, 2, .inl sc8)), (v0, .inr (kA 6, kA 1, 10, 45, .inl vls)), (o, .inl (.inl (kA 1, 60, .inl of)))]) [(6, .int (nI t3445)), (0, .ref v), (1, .ref s), (2, .int (nI k)), (3, .ref o), (4, .int (nI t)), (5, .int (nI tm))] 0 0 47 [.int (nI q3456)]
      refine j_istore (lv' := [(7, .int (nI q3456)), (6, .int (nI t3445)), (0, .ref v), (1, .ref s), (2, .int (nI k)), (3, .ref o), (4, .int (nI t)), (5, .int (nI tm))]) h dX4_readOn_47 (by decide) rfl ?_
      refine j_iload h 0 rfl dX4_readOn_49 ?_
      refine j_iload h 1 rfl dX4_readOn_51 ?_
      refine j_icmp_ne h 64 dX4_readOn_53 (by decide) (fun z3461 => ?_) (fun z3461 => ?_)
      · have z3461n : ¬ q3456 = t3445 := fun q9 => z3461 ((nI_eq (a := q3456) (b := t3445) (by omega) (by omega)).mpr q9)
        refine j_iload h 6 rfl dX4_readOn_64 ?_
        refine j_iload h 0 rfl dX4_readOn_66 ?_
        refine j_iadd h dX4_readOn_68 ?_
        refine j_top (b := nI (t + q3456)) (nI_add t q3456) ?_
        exact jm_iret h hq dX4_readOn_69 ((t + q3456), vrd) [1, 5, 2, 3, 0, 4, 6] rfl (by decide) ⟨rfl, (show (t + q3456) ≤ 200 by first | assumption | omega)⟩ (Nat.le_of_ble_eq_true rfl) (Nat.le_of_ble_eq_true rfl)
      · have z3461n : q3456 = t3445 := (nI_eq (a := q3456) (b := t3445) (by omega) (by omega)).mp z3461
        refine j_aload_n h 2 rfl rfl dX4_readOn_56 ?_
        refine j_aload_n h 3 rfl rfl dX4_readOn_57 ?_
        refine j_iload_n h 4 rfl rfl dX4_readOn_58 ?_
        refine j_iload h 6 rfl dX4_readOn_59 ?_
        refine jm_callVv (np := 3) (isC := [1, 2, 3, 0, 4]) (isR := [5, 6]) (wc := [(v, .inl (.inr (4, [.ref v0, .ref v1, .ref v2, .ref v3, .int vbk]))), (v3, .inl (.inl (kA 2, 2, .inr (.inl vrd)))), (s, .inl (.inr (5, [.ref s0, .ref s1, .ref s2, .ref s3, .ref s4, .ref s5, .ref s6, .ref s7, .ref s8, .ref s9, .ref s10, .ref s11, .int (nI sn), .int (nI sl), .int (nI se)]))), (s7, .inl (.inl (kA 1, 10, .inl sc7))), (s8, .inr (kA 6, kA 1, 10, 2, .inl sc8))]) (wr := [(v0, .inr (kA 6, kA 1, 10, 45, .inl vls)), (o, .inl (.inl (kA 1, 60, .inl of)))]) (rest := []) (As := [.ref s, .int (nI k), .int (nI t)]) (q0 := 0) h (s_X4_markRead _ _ kA v s k t v0 v1 v2 v3 vbk vrd s0 s1 s2 s3 s4 s5 s6 s7 s8 s9 s10 s11 sn sl se sc7 sc8 (show sn ≤ 6 by first | assumption | omega) (show sl ≤ 10 by first | assumption | omega) (show se ≤ 4 by first | assumption | omega) (show LtOk sl sc7 by first | assumption | omega) (show FtOk sl sc8 by first | assumption | omega) (show k < sl by first | assumption | omega)) tw_930 tw_932 tw_25 tw_96 tw_933 (by decide +kernel) rfl ⟨Nat.le_of_ble_eq_true rfl, Nat.le_of_ble_eq_true rfl⟩ rfl rfl (by decide +kernel) rfl rfl (by decide +kernel) (by decide +kernel) (Nat.le_of_ble_eq_true rfl) rfl ⟨Nat.le_of_ble_eq_true rfl, Nat.le_of_ble_eq_true rfl⟩ dX4_readOn_61 ?_
        rintro q3462 e3463
        show J x (mflat [(v0, .inr (kA 6, kA 1, 10, 45, .inl vls)), (o, .inl (.inl (kA 1, 60, .inl of))), (v, .inl (.inr (4, [.ref v0, .ref v1, .ref v2, .ref v3, .int vbk]))), (v3, .inl (.inl (kA 2, 2, .inr (.inl q3462)))), (s, .inl (.inr (5, [.ref s0, .ref s1, .ref s2, .ref s3, .ref s4, .ref s5, .ref s6, .ref s7, .ref s8, .ref s9, .ref s10, .ref s11, .int (nI sn), .int (nI sl), .int (nI se)]))), (s7, .inl (.inl (kA 1, 10, .inl sc7))), (s8, .inr (kA 6, kA 1, 10, 2, .inl sc8))]) [(7, .int (nI q3456)), (6, .int (nI t3445)), (0, .ref v), (1, .ref s), (2, .int (nI k)), (3, .ref o), (4, .int (nI t)), (5, .int (nI tm))] 0 0 64 []
        refine j_iload h 6 rfl dX4_readOn_64 ?_
        refine j_iload h 0 rfl dX4_readOn_66 ?_
        refine j_iadd h dX4_readOn_68 ?_
        refine j_top (b := nI (t + q3456)) (nI_add t q3456) ?_
        exact jm_iret h hq dX4_readOn_69 ((t + q3456), q3462) [2, 0, 3, 4, 5, 6, 1] rfl (by decide) ⟨rfl, (show (t + q3456) ≤ 200 by first | assumption | omega)⟩ (Nat.le_of_ble_eq_true rfl) (Nat.le_of_ble_eq_true rfl)
    · have z3455n : ¬ (t + t3445) ≤ 60 := fun q9 => z3455 ((nI_leI (a := (t + t3445)) (b := 60) (by omega) (by omega)).mpr q9)
      refine j_iconst (v := 0) h (by decide) dX4_readOn_29 ?_
      exact jm_iret h hq dX4_readOn_30 (0, vrd) [3, 0, 4, 5, 1, 6, 2] rfl (by decide) ⟨rfl, (show 0 ≤ 200 by first | assumption | omega)⟩ (Nat.le_of_ble_eq_true rfl) (Nat.le_of_ble_eq_true rfl)
set_option maxHeartbeats 4000000 in
set_option maxRecDepth 100000 in
theorem s_X4_firstUnheard (lau : Launch) (gg : va_G) (kA : Nat → ClassId) (v : Nat) (s : Nat) (o : Nat) (tm : Nat) (v0 : Nat) (v1 : Nat) (v2 : Nat) (v3 : Nat) (vbk : Int32) (vls : Nat → Nat → Int32) (vrd : Nat → Int64) (s0 : Nat) (s1 : Nat) (s2 : Nat) (s3 : Nat) (s4 : Nat) (s5 : Nat) (s6 : Nat) (s7 : Nat) (s8 : Nat) (s9 : Nat) (s10 : Nat) (s11 : Nat) (sn : Nat) (sl : Nat) (se : Nat) (sc7 : Nat → Int32) (sc8 : Nat → Nat → Int32) (of : Nat → Int32) (hsn : sn ≤ 6) (hsl : sl ≤ 10) (hse : se ≤ 4) (hslt : LtOk sl sc7) (hsla : FtOk sl sc8) (htm : tm ≤ 60) : CtI lau yX4_firstUnheard cX4_firstUnheard 7 (some .int) 4 0 0 gg kA [.ref v, .ref s, .ref o, .int (nI tm)] (mflat [(v, .inl (.inr (4, [.ref v0, .ref v1, .ref v2, .ref v3, .int vbk]))), (v0, .inr (kA 6, kA 1, 10, 45, .inl vls)), (v3, .inl (.inl (kA 2, 2, .inr (.inl vrd)))), (s, .inl (.inr (5, [.ref s0, .ref s1, .ref s2, .ref s3, .ref s4, .ref s5, .ref s6, .ref s7, .ref s8, .ref s9, .ref s10, .ref s11, .int (nI sn), .int (nI sl), .int (nI se)]))), (s7, .inl (.inl (kA 1, 10, .inl sc7))), (s8, .inr (kA 6, kA 1, 10, 2, .inl sc8)), (o, .inl (.inl (kA 1, 60, .inl of)))]) (S := (Nat → Int64)) (fun (r : Int32) (y_v3 : (Nat → Int64)) => True) (fun (y_v3 : (Nat → Int64)) => mflat [(v, .inl (.inr (4, [.ref v0, .ref v1, .ref v2, .ref v3, .int vbk]))), (v0, .inr (kA 6, kA 1, 10, 45, .inl vls)), (v3, .inl (.inl (kA 2, 2, .inr (.inl y_v3)))), (s, .inl (.inr (5, [.ref s0, .ref s1, .ref s2, .ref s3, .ref s4, .ref s5, .ref s6, .ref s7, .ref s8, .ref s9, .ref s10, .ref s11, .int (nI sn), .int (nI sl), .int (nI se)]))), (s7, .inl (.inl (kA 1, 10, .inl sc7))), (s8, .inr (kA 6, kA 1, 10, 2, .inl sc8)), (o, .inl (.inl (kA 1, 60, .inl of)))]) := by
  refine nx_startI (by decide +kernel) (Nat.le_of_ble_eq_true rfl) ?_
  intro x hnm h hq
  have h : Ok x cX4_firstUnheard RX4 kA (rmC 4 0 0) 7 := h
  show J x (mflat [(v, .inl (.inr (4, [.ref v0, .ref v1, .ref v2, .ref v3, .int vbk]))), (v0, .inr (kA 6, kA 1, 10, 45, .inl vls)), (v3, .inl (.inl (kA 2, 2, .inr (.inl vrd)))), (s, .inl (.inr (5, [.ref s0, .ref s1, .ref s2, .ref s3, .ref s4, .ref s5, .ref s6, .ref s7, .ref s8, .ref s9, .ref s10, .ref s11, .int (nI sn), .int (nI sl), .int (nI se)]))), (s7, .inl (.inl (kA 1, 10, .inl sc7))), (s8, .inr (kA 6, kA 1, 10, 2, .inl sc8)), (o, .inl (.inl (kA 1, 60, .inl of)))]) [(0, .ref v), (1, .ref s), (2, .ref o), (3, .int (nI tm))] 0 0 0 []
  refine j_iconst (v := 0) h (by decide) dX4_firstUnheard_0 ?_
  refine j_istore (lv' := [(4, .int 0), (0, .ref v), (1, .ref s), (2, .ref o), (3, .int (nI tm))]) h dX4_firstUnheard_1 (by decide) rfl ?_
  refine j_iconst (v := 0) h (by decide) dX4_firstUnheard_3 ?_
  refine j_istore (lv' := [(5, .int 0), (4, .int 0), (0, .ref v), (1, .ref s), (2, .ref o), (3, .int (nI tm))]) h dX4_firstUnheard_4 (by decide) rfl ?_
  have lp6_411 : ∀ (m6_411 : Nat), ∀ (v5_6_411 : Nat) (v4_6_411 : Nat) (fv3_6_411 : Nat → Int64), (v5_6_411 ≤ 100000) → (v4_6_411 ≤ 100000) → 100001 - v5_6_411 < m6_411 → J x (mflat [(v, .inl (.inr (4, [.ref v0, .ref v1, .ref v2, .ref v3, .int vbk]))), (v0, .inr (kA 6, kA 1, 10, 45, .inl vls)), (v3, .inl (.inl (kA 2, 2, .inr (.inl fv3_6_411)))), (s, .inl (.inr (5, [.ref s0, .ref s1, .ref s2, .ref s3, .ref s4, .ref s5, .ref s6, .ref s7, .ref s8, .ref s9, .ref s10, .ref s11, .int (nI sn), .int (nI sl), .int (nI se)]))), (s7, .inl (.inl (kA 1, 10, .inl sc7))), (s8, .inr (kA 6, kA 1, 10, 2, .inl sc8)), (o, .inl (.inl (kA 1, 60, .inl of)))]) [(5, .int (nI v5_6_411)), (4, .int (nI v4_6_411)), (0, .ref v), (1, .ref s), (2, .ref o), (3, .int (nI tm))] 0 0 6 [] := by
    intro m6_411
    induction m6_411 with
    | zero =>
      intro v5_6_411 v4_6_411 fv3_6_411 i6_411_0 i6_411_1 hm6_411
      exact absurd hm6_411 (Nat.not_lt_zero _)
    | succ m6_411 ih6_411 =>
      intro v5_6_411 v4_6_411 fv3_6_411 i6_411_0 i6_411_1 hm6_411
      refine j_iload h 0 rfl dX4_firstUnheard_6 ?_
      refine j_iload_n h 5 rfl rfl dX4_firstUnheard_8 ?_
      refine j_icmp_ge h 54 dX4_firstUnheard_9 (by decide) (fun z3580 => ?_) (fun z3580 => ?_)
      · have z3580n : tm ≤ v5_6_411 := (nI_leI (a := tm) (b := v5_6_411) (by omega) (by omega)).mp z3580
        refine j_iload h 1 rfl dX4_firstUnheard_54 ?_
        refine j_iload_n h 5 rfl rfl dX4_firstUnheard_56 ?_
        refine j_icmp_ge h 65 dX4_firstUnheard_57 (by decide) (fun z3581 => ?_) (fun z3581 => ?_)
        · have z3581n : tm ≤ v4_6_411 := (nI_leI (a := tm) (b := v4_6_411) (by omega) (by omega)).mp z3581
          refine j_iconst (v := (-1)) h (by decide) dX4_firstUnheard_65 ?_
          exact jm_iret h hq dX4_firstUnheard_66 fv3_6_411 [0, 1, 2, 3, 4, 5, 6] rfl (by decide) trivial (Nat.le_of_ble_eq_true rfl) (Nat.le_of_ble_eq_true rfl)
        · have z3581n : ¬ tm ≤ v4_6_411 := fun q9 => z3581 ((nI_leI (a := tm) (b := v4_6_411) (by omega) (by omega)).mpr q9)
          refine j_iload h 1 rfl dX4_firstUnheard_60 ?_
          refine j_goto h 66 dX4_firstUnheard_62 (by decide) ?_
          exact jm_iret h hq dX4_firstUnheard_66 fv3_6_411 [0, 1, 2, 3, 4, 5, 6] rfl (by decide) trivial (Nat.le_of_ble_eq_true rfl) (Nat.le_of_ble_eq_true rfl)
      · have z3580n : ¬ tm ≤ v5_6_411 := fun q9 => z3580 ((nI_leI (a := tm) (b := v5_6_411) (by omega) (by omega)).mpr q9)
        refine j_iconst (v := 0) h (by decide) dX4_firstUnheard_12 ?_
        refine j_istore (lv' := [(6, .int 0), (5, .int (nI v5_6_411)), (4, .int (nI v4_6_411)), (0, .ref v), (1, .ref s), (2, .ref o), (3, .int (nI tm))]) h dX4_firstUnheard_13 (by decide) rfl ?_
        have lp15_414 : ∀ (m15_414 : Nat), ∀ (v6_15_414 : Nat) (v4_15_414 : Nat) (fv3_15_414 : Nat → Int64), (v6_15_414 ≤ 100000) → (v4_15_414 ≤ 100000) → 100001 - v6_15_414 < m15_414 → J x (mflat [(v, .inl (.inr (4, [.ref v0, .ref v1, .ref v2, .ref v3, .int vbk]))), (v0, .inr (kA 6, kA 1, 10, 45, .inl vls)), (v3, .inl (.inl (kA 2, 2, .inr (.inl fv3_15_414)))), (s, .inl (.inr (5, [.ref s0, .ref s1, .ref s2, .ref s3, .ref s4, .ref s5, .ref s6, .ref s7, .ref s8, .ref s9, .ref s10, .ref s11, .int (nI sn), .int (nI sl), .int (nI se)]))), (s7, .inl (.inl (kA 1, 10, .inl sc7))), (s8, .inr (kA 6, kA 1, 10, 2, .inl sc8)), (o, .inl (.inl (kA 1, 60, .inl of)))]) [(6, .int (nI v6_15_414)), (5, .int (nI v5_6_411)), (4, .int (nI v4_15_414)), (0, .ref v), (1, .ref s), (2, .ref o), (3, .int (nI tm))] 0 0 15 [] := by
          intro m15_414
          induction m15_414 with
          | zero =>
            intro v6_15_414 v4_15_414 fv3_15_414 i15_414_0 i15_414_1 hm15_414
            exact absurd hm15_414 (Nat.not_lt_zero _)
          | succ m15_414 ih15_414 =>
            intro v6_15_414 v4_15_414 fv3_15_414 i15_414_0 i15_414_1 hm15_414
            refine j_iload h 0 rfl dX4_firstUnheard_15 ?_
            refine j_aload_n h 4 rfl rfl dX4_firstUnheard_17 ?_
            refine jm_get h iw_X5 3 rfl rfl 13 (by decide +kernel) tw_224 rfl dX4_firstUnheard_18 ?_
            refine j_icmp_ge h 48 dX4_firstUnheard_21 (by decide) (fun z3596 => ?_) (fun z3596 => ?_)
            · have z3596n : sl ≤ v6_15_414 := (nI_leI (a := sl) (b := v6_15_414) (by omega) (by omega)).mp z3596
              refine j_iinc (v := nI (v5_6_411 + 1)) (lv' := [(5, .int (nI (v5_6_411 + 1))), (6, .int (nI v6_15_414)), (4, .int (nI v4_15_414)), (0, .ref v), (1, .ref s), (2, .ref o), (3, .int (nI tm))]) h dX4_firstUnheard_48 1 rfl (nI_add v5_6_411 1) (by decide) rfl ?_
              refine j_goto h 6 dX4_firstUnheard_51 (by decide) ?_
              refine jm_sub [0, 1, 2, 3, 4, 5, 6] (w' := [(v, .inl (.inr (4, [.ref v0, .ref v1, .ref v2, .ref v3, .int vbk]))), (v0, .inr (kA 6, kA 1, 10, 45, .inl vls)), (v3, .inl (.inl (kA 2, 2, .inr (.inl fv3_15_414)))), (s, .inl (.inr (5, [.ref s0, .ref s1, .ref s2, .ref s3, .ref s4, .ref s5, .ref s6, .ref s7, .ref s8, .ref s9, .ref s10, .ref s11, .int (nI sn), .int (nI sl), .int (nI se)]))), (s7, .inl (.inl (kA 1, 10, .inl sc7))), (s8, .inr (kA 6, kA 1, 10, 2, .inl sc8)), (o, .inl (.inl (kA 1, 60, .inl of)))]) rfl (by decide +kernel) [0, 2, 3, 4, 5, 6] (lv' := [(5, .int (nI (v5_6_411 + 1))), (4, .int (nI v4_15_414)), (0, .ref v), (1, .ref s), (2, .ref o), (3, .int (nI tm))]) rfl ?_
              exact ih6_411 (v5_6_411 + 1) v4_15_414 fv3_15_414 (show (v5_6_411 + 1) ≤ 100000 by first | assumption | omega) (show v4_15_414 ≤ 100000 by first | assumption | omega) (show 100001 - (v5_6_411 + 1) < m6_411 by first | exact Nat.lt_of_lt_of_le (Nat.sub_lt_sub_left (Nat.lt_of_le_of_lt (show v5_6_411 ≤ 100000 by assumption) (Nat.lt_succ_self 100000)) (Nat.lt_succ_self v5_6_411)) (Nat.le_of_lt_succ hm6_411) | omega)
            · have z3596n : ¬ sl ≤ v6_15_414 := fun q9 => z3596 ((nI_leI (a := sl) (b := v6_15_414) (by omega) (by omega)).mpr q9)
              refine j_iload h 2 rfl dX4_firstUnheard_24 ?_
              refine j_aload_n h 3 rfl rfl dX4_firstUnheard_26 ?_
              refine j_aload_n h 4 rfl rfl dX4_firstUnheard_27 ?_
              refine j_iload h 0 rfl dX4_firstUnheard_28 ?_
              refine j_aload_n h 5 rfl rfl dX4_firstUnheard_30 ?_
              refine j_iload h 1 rfl dX4_firstUnheard_31 ?_
              refine j_iload_n h 6 rfl rfl dX4_firstUnheard_33 ?_
              refine jm_callVi (np := 5) (isC := [0, 1, 2, 3, 4, 5, 6]) (isR := []) (wc := [(v, .inl (.inr (4, [.ref v0, .ref v1, .ref v2, .ref v3, .int vbk]))), (v0, .inr (kA 6, kA 1, 10, 45, .inl vls)), (v3, .inl (.inl (kA 2, 2, .inr (.inl fv3_15_414)))), (s, .inl (.inr (5, [.ref s0, .ref s1, .ref s2, .ref s3, .ref s4, .ref s5, .ref s6, .ref s7, .ref s8, .ref s9, .ref s10, .ref s11, .int (nI sn), .int (nI sl), .int (nI se)]))), (s7, .inl (.inl (kA 1, 10, .inl sc7))), (s8, .inr (kA 6, kA 1, 10, 2, .inl sc8)), (o, .inl (.inl (kA 1, 60, .inl of)))]) (wr := []) (rest := [.int (nI v4_15_414)]) (As := [.ref s, .int (nI v6_15_414), .ref o, .int (nI v5_6_411), .int (nI tm)]) (q0 := 0) h (s_X4_readOn _ _ kA v s v6_15_414 o v5_6_411 tm v0 v1 v2 v3 vbk vls fv3_15_414 s0 s1 s2 s3 s4 s5 s6 s7 s8 s9 s10 s11 sn sl se sc7 sc8 of (show sn ≤ 6 by first | assumption | omega) (show sl ≤ 10 by first | assumption | omega) (show se ≤ 4 by first | assumption | omega) (show LtOk sl sc7 by first | assumption | omega) (show FtOk sl sc8 by first | assumption | omega) (show v6_15_414 < sl by first | assumption | omega) (show v5_6_411 ≤ tm by first | assumption | omega) (show tm ≤ 60 by first | assumption | omega)) tw_913 tw_915 tw_22 tw_96 tw_916 (by decide +kernel) rfl ⟨Nat.le_of_ble_eq_true rfl, Nat.le_of_ble_eq_true rfl⟩ rfl rfl (by decide +kernel) rfl rfl (by decide +kernel) (by decide +kernel) (Nat.le_of_ble_eq_true rfl) rfl ⟨Nat.le_of_ble_eq_true rfl, Nat.le_of_ble_eq_true rfl⟩ dX4_firstUnheard_34 ?_
              rintro r3600 ⟨q3597, q3598⟩ e3599
              obtain ⟨p3601, p3602⟩ := e3599
              subst p3601
              replace p3602 : q3597 ≤ 200 := p3602
              show J x (mflat [(v, .inl (.inr (4, [.ref v0, .ref v1, .ref v2, .ref v3, .int vbk]))), (v0, .inr (kA 6, kA 1, 10, 45, .inl vls)), (v3, .inl (.inl (kA 2, 2, .inr (.inl q3598)))), (s, .inl (.inr (5, [.ref s0, .ref s1, .ref s2, .ref s3, .ref s4, .ref s5, .ref s6, .ref s7, .ref s8, .ref s9, .ref s10, .ref s11, .int (nI sn), .int (nI sl), .int (nI se)]))), (s7, .inl (.inl (kA 1, 10, .inl sc7))), (s8, .inr (kA 6, kA 1, 10, 2, .inl sc8)), (o, .inl (.inl (kA 1, 60, .inl of)))]) [(6, .int (nI v6_15_414)), (5, .int (nI v5_6_411)), (4, .int (nI v4_15_414)), (0, .ref v), (1, .ref s), (2, .ref o), (3, .int (nI tm))] 0 0 37 [.int (nI q3597), .int (nI v4_15_414)]
              refine j_mmax h tw_929 tw_803 tw_105 tw_804 (Nat.le_of_ble_eq_true rfl) (Nat.le_of_ble_eq_true rfl) (Nat.le_of_ble_eq_true rfl) (Nat.le_of_ble_eq_true rfl) (Nat.le_of_ble_eq_true rfl) dX4_firstUnheard_37 ?_
              refine j_top (b := nI (max v4_15_414 q3597)) (nx_max (a := v4_15_414) (b := q3597) (by omega) (by omega)) ?_
              refine j_istore (lv' := [(4, .int (nI (max v4_15_414 q3597))), (6, .int (nI v6_15_414)), (5, .int (nI v5_6_411)), (0, .ref v), (1, .ref s), (2, .ref o), (3, .int (nI tm))]) h dX4_firstUnheard_40 (by decide) rfl ?_
              refine j_iinc (v := nI (v6_15_414 + 1)) (lv' := [(6, .int (nI (v6_15_414 + 1))), (4, .int (nI (max v4_15_414 q3597))), (5, .int (nI v5_6_411)), (0, .ref v), (1, .ref s), (2, .ref o), (3, .int (nI tm))]) h dX4_firstUnheard_42 1 rfl (nI_add v6_15_414 1) (by decide) rfl ?_
              refine j_goto h 15 dX4_firstUnheard_45 (by decide) ?_
              refine jm_sub [0, 1, 2, 3, 4, 5, 6] (w' := [(v, .inl (.inr (4, [.ref v0, .ref v1, .ref v2, .ref v3, .int vbk]))), (v0, .inr (kA 6, kA 1, 10, 45, .inl vls)), (v3, .inl (.inl (kA 2, 2, .inr (.inl q3598)))), (s, .inl (.inr (5, [.ref s0, .ref s1, .ref s2, .ref s3, .ref s4, .ref s5, .ref s6, .ref s7, .ref s8, .ref s9, .ref s10, .ref s11, .int (nI sn), .int (nI sl), .int (nI se)]))), (s7, .inl (.inl (kA 1, 10, .inl sc7))), (s8, .inr (kA 6, kA 1, 10, 2, .inl sc8)), (o, .inl (.inl (kA 1, 60, .inl of)))]) rfl (by decide +kernel) [0, 2, 1, 3, 4, 5, 6] (lv' := [(6, .int (nI (v6_15_414 + 1))), (5, .int (nI v5_6_411)), (4, .int (nI (max v4_15_414 q3597))), (0, .ref v), (1, .ref s), (2, .ref o), (3, .int (nI tm))]) rfl ?_
              exact ih15_414 (v6_15_414 + 1) (max v4_15_414 q3597) q3598 (show (v6_15_414 + 1) ≤ 100000 by first | assumption | omega) (show (max v4_15_414 q3597) ≤ 100000 by first | assumption | omega) (show 100001 - (v6_15_414 + 1) < m15_414 by first | exact Nat.lt_of_lt_of_le (Nat.sub_lt_sub_left (Nat.lt_of_le_of_lt (show v6_15_414 ≤ 100000 by assumption) (Nat.lt_succ_self 100000)) (Nat.lt_succ_self v6_15_414)) (Nat.le_of_lt_succ hm15_414) | omega)
        refine jm_sub [0, 1, 2, 3, 4, 5, 6] (w' := [(v, .inl (.inr (4, [.ref v0, .ref v1, .ref v2, .ref v3, .int vbk]))), (v0, .inr (kA 6, kA 1, 10, 45, .inl vls)), (v3, .inl (.inl (kA 2, 2, .inr (.inl fv3_6_411)))), (s, .inl (.inr (5, [.ref s0, .ref s1, .ref s2, .ref s3, .ref s4, .ref s5, .ref s6, .ref s7, .ref s8, .ref s9, .ref s10, .ref s11, .int (nI sn), .int (nI sl), .int (nI se)]))), (s7, .inl (.inl (kA 1, 10, .inl sc7))), (s8, .inr (kA 6, kA 1, 10, 2, .inl sc8)), (o, .inl (.inl (kA 1, 60, .inl of)))]) rfl (by decide +kernel) [0, 1, 2, 3, 4, 5, 6] (lv' := [(6, .int 0), (5, .int (nI v5_6_411)), (4, .int (nI v4_6_411)), (0, .ref v), (1, .ref s), (2, .ref o), (3, .int (nI tm))]) rfl ?_
        exact lp15_414 (100001 - 0 + 1) 0 v4_6_411 fv3_6_411 (show 0 ≤ 100000 by first | assumption | omega) (show v4_6_411 ≤ 100000 by first | assumption | omega) (Nat.lt_succ_self _)
  refine jm_sub [0, 1, 2, 3, 4, 5, 6] (w' := [(v, .inl (.inr (4, [.ref v0, .ref v1, .ref v2, .ref v3, .int vbk]))), (v0, .inr (kA 6, kA 1, 10, 45, .inl vls)), (v3, .inl (.inl (kA 2, 2, .inr (.inl vrd)))), (s, .inl (.inr (5, [.ref s0, .ref s1, .ref s2, .ref s3, .ref s4, .ref s5, .ref s6, .ref s7, .ref s8, .ref s9, .ref s10, .ref s11, .int (nI sn), .int (nI sl), .int (nI se)]))), (s7, .inl (.inl (kA 1, 10, .inl sc7))), (s8, .inr (kA 6, kA 1, 10, 2, .inl sc8)), (o, .inl (.inl (kA 1, 60, .inl of)))]) rfl (by decide +kernel) [0, 1, 2, 3, 4, 5] (lv' := [(5, .int 0), (4, .int 0), (0, .ref v), (1, .ref s), (2, .ref o), (3, .int (nI tm))]) rfl ?_
  exact lp6_411 (100001 - 0 + 1) 0 0 vrd (show 0 ≤ 100000 by first | assumption | omega) (show 0 ≤ 100000 by first | assumption | omega) (Nat.lt_succ_self _)
set_option maxHeartbeats 4000000 in
set_option maxRecDepth 100000 in
theorem s_X4_readUpTo (lau : Launch) (gg : va_G) (kA : Nat → ClassId) (v : Nat) (s : Nat) (k : Nat) (en : Nat) (v0 : Nat) (v1 : Nat) (v2 : Nat) (v3 : Nat) (vbk : Int32) (vls : Nat → Nat → Int32) (vhs : Nat → Int32) (vrd : Nat → Int64) (s0 : Nat) (s1 : Nat) (s2 : Nat) (s3 : Nat) (s4 : Nat) (s5 : Nat) (s6 : Nat) (s7 : Nat) (s8 : Nat) (s9 : Nat) (s10 : Nat) (s11 : Nat) (sn : Nat) (sl : Nat) (se : Nat) (sc7 : Nat → Int32) (sc8 : Nat → Nat → Int32) (hsn : sn ≤ 6) (hsl : sl ≤ 10) (hse : se ≤ 4) (hslt : LtOk sl sc7) (hsla : FtOk sl sc8) (hk : k < sl) (hen : en ≤ 60) : CtV lau yX4_readUpTo cX4_readUpTo 6 (none) 3 0 0 gg kA [.ref v, .ref s, .int (nI k), .int (nI en)] (mflat [(v, .inl (.inr (4, [.ref v0, .ref v1, .ref v2, .ref v3, .int vbk]))), (v0, .inr (kA 6, kA 1, 10, 45, .inl vls)), (v2, .inl (.inl (kA 1, 60, .inl vhs))), (v3, .inl (.inl (kA 2, 2, .inr (.inl vrd)))), (s, .inl (.inr (5, [.ref s0, .ref s1, .ref s2, .ref s3, .ref s4, .ref s5, .ref s6, .ref s7, .ref s8, .ref s9, .ref s10, .ref s11, .int (nI sn), .int (nI sl), .int (nI se)]))), (s7, .inl (.inl (kA 1, 10, .inl sc7))), (s8, .inr (kA 6, kA 1, 10, 2, .inl sc8))]) (S := (Nat → Int64)) (fun (y_v3 : (Nat → Int64)) => True) (fun (y_v3 : (Nat → Int64)) => mflat [(v, .inl (.inr (4, [.ref v0, .ref v1, .ref v2, .ref v3, .int vbk]))), (v0, .inr (kA 6, kA 1, 10, 45, .inl vls)), (v2, .inl (.inl (kA 1, 60, .inl vhs))), (v3, .inl (.inl (kA 2, 2, .inr (.inl y_v3)))), (s, .inl (.inr (5, [.ref s0, .ref s1, .ref s2, .ref s3, .ref s4, .ref s5, .ref s6, .ref s7, .ref s8, .ref s9, .ref s10, .ref s11, .int (nI sn), .int (nI sl), .int (nI se)]))), (s7, .inl (.inl (kA 1, 10, .inl sc7))), (s8, .inr (kA 6, kA 1, 10, 2, .inl sc8))]) := by
  refine nx_startV (by decide +kernel) (Nat.le_of_ble_eq_true rfl) ?_
  intro x hnm h hq
  have h : Ok x cX4_readUpTo RX4 kA (rmC 3 0 0) 6 := h
  show J x (mflat [(v, .inl (.inr (4, [.ref v0, .ref v1, .ref v2, .ref v3, .int vbk]))), (v0, .inr (kA 6, kA 1, 10, 45, .inl vls)), (v2, .inl (.inl (kA 1, 60, .inl vhs))), (v3, .inl (.inl (kA 2, 2, .inr (.inl vrd)))), (s, .inl (.inr (5, [.ref s0, .ref s1, .ref s2, .ref s3, .ref s4, .ref s5, .ref s6, .ref s7, .ref s8, .ref s9, .ref s10, .ref s11, .int (nI sn), .int (nI sl), .int (nI se)]))), (s7, .inl (.inl (kA 1, 10, .inl sc7))), (s8, .inr (kA 6, kA 1, 10, 2, .inl sc8))]) [(0, .ref v), (1, .ref s), (2, .int (nI k)), (3, .int (nI en))] 0 0 0 []
  refine j_aload_n h 1 rfl rfl dX4_readUpTo_0 ?_
  refine jm_get h iw_X5 4 rfl rfl 7 (by decide +kernel) tw_201 rfl dX4_readUpTo_1 ?_
  refine j_iload_n h 2 rfl rfl dX4_readUpTo_4 ?_
  refine jm_iald h 5 rfl k rfl (by omega) (by omega) dX4_readUpTo_5 ?_
  obtain ⟨t3623, u3624, u3625, u3626⟩ := (show LtOk sl sc7 by assumption) k (by omega)
  refine j_top (b := nI t3623) (u3626) ?_
  refine j_istore (lv' := [(4, .int (nI t3623)), (0, .ref v), (1, .ref s), (2, .int (nI k)), (3, .int (nI en))]) h dX4_readUpTo_6 (by decide) rfl ?_
  refine j_iload_n h 4 rfl rfl dX4_readUpTo_8 ?_
  refine j_iload h 0 rfl dX4_readUpTo_9 ?_
  refine j_isub h dX4_readUpTo_11 ?_
  by_cases z3627 : t3623 ≤ en
  · refine j_top (b := nI (en - t3623)) (pk_sub (a := en) (b := t3623) (by omega)) ?_
    show J x (mflat [(v, .inl (.inr (4, [.ref v0, .ref v1, .ref v2, .ref v3, .int vbk]))), (v0, .inr (kA 6, kA 1, 10, 45, .inl vls)), (v2, .inl (.inl (kA 1, 60, .inl vhs))), (v3, .inl (.inl (kA 2, 2, .inr (.inl vrd)))), (s, .inl (.inr (5, [.ref s0, .ref s1, .ref s2, .ref s3, .ref s4, .ref s5, .ref s6, .ref s7, .ref s8, .ref s9, .ref s10, .ref s11, .int (nI sn), .int (nI sl), .int (nI se)]))), (s7, .inl (.inl (kA 1, 10, .inl sc7))), (s8, .inr (kA 6, kA 1, 10, 2, .inl sc8))]) [(4, .int (nI t3623)), (0, .ref v), (1, .ref s), (2, .int (nI k)), (3, .int (nI en))] 0 0 12 [.int (nI (en - t3623))]
    refine j_istore (lv' := [(5, .int (nI (en - t3623))), (4, .int (nI t3623)), (0, .ref v), (1, .ref s), (2, .int (nI k)), (3, .int (nI en))]) h dX4_readUpTo_12 (by decide) rfl ?_
    refine j_iload h 0 rfl dX4_readUpTo_14 ?_
    refine j_if_lt h 30 dX4_readUpTo_16 (by decide) (fun q => absurd q (nI_pos (by omega))) (fun _ => ?_)
    refine j_aload_n h 2 rfl rfl dX4_readUpTo_19 ?_
    refine j_aload_n h 3 rfl rfl dX4_readUpTo_20 ?_
    refine j_iload_n h 4 rfl rfl dX4_readUpTo_21 ?_
    refine j_iload h 0 rfl dX4_readUpTo_22 ?_
    refine jm_callVi (np := 3) (isC := [0, 3, 4, 6]) (isR := [1, 2, 5]) (wc := [(v, .inl (.inr (4, [.ref v0, .ref v1, .ref v2, .ref v3, .int vbk]))), (v3, .inl (.inl (kA 2, 2, .inr (.inl vrd)))), (s, .inl (.inr (5, [.ref s0, .ref s1, .ref s2, .ref s3, .ref s4, .ref s5, .ref s6, .ref s7, .ref s8, .ref s9, .ref s10, .ref s11, .int (nI sn), .int (nI sl), .int (nI se)]))), (s8, .inr (kA 6, kA 1, 10, 2, .inl sc8))]) (wr := [(v0, .inr (kA 6, kA 1, 10, 45, .inl vls)), (v2, .inl (.inl (kA 1, 60, .inl vhs))), (s7, .inl (.inl (kA 1, 10, .inl sc7)))]) (rest := []) (As := [.ref s, .int (nI k), .int (nI (en - t3623))]) (q0 := 0) h (s_X4_canBegin _ _ kA v s k (en - t3623) v0 v1 v2 v3 vbk vrd s0 s1 s2 s3 s4 s5 s6 s7 s8 s9 s10 s11 sn sl se sc8 (show sn ≤ 6 by first | assumption | omega) (show sl ≤ 10 by first | assumption | omega) (show se ≤ 4 by first | assumption | omega) (show FtOk sl sc8 by first | assumption | omega) (show k < sl by first | assumption | omega)) tw_917 tw_919 tw_23 tw_96 tw_920 (by decide +kernel) rfl ⟨Nat.le_of_ble_eq_true rfl, Nat.le_of_ble_eq_true rfl⟩ rfl rfl (by decide +kernel) rfl rfl (by decide +kernel) (by decide +kernel) (Nat.le_of_ble_eq_true rfl) rfl ⟨Nat.le_of_ble_eq_true rfl, Nat.le_of_ble_eq_true rfl⟩ dX4_readUpTo_24 ?_
    rintro r3630 q3628 e3629
    obtain ⟨p3631, p3632⟩ := e3629
    subst p3631
    replace p3632 : q3628 ≤ 1 := p3632
    show J x (mflat [(v0, .inr (kA 6, kA 1, 10, 45, .inl vls)), (v2, .inl (.inl (kA 1, 60, .inl vhs))), (s7, .inl (.inl (kA 1, 10, .inl sc7))), (v, .inl (.inr (4, [.ref v0, .ref v1, .ref v2, .ref v3, .int vbk]))), (v3, .inl (.inl (kA 2, 2, .inr (.inl vrd)))), (s, .inl (.inr (5, [.ref s0, .ref s1, .ref s2, .ref s3, .ref s4, .ref s5, .ref s6, .ref s7, .ref s8, .ref s9, .ref s10, .ref s11, .int (nI sn), .int (nI sl), .int (nI se)]))), (s8, .inr (kA 6, kA 1, 10, 2, .inl sc8))]) [(5, .int (nI (en - t3623))), (4, .int (nI t3623)), (0, .ref v), (1, .ref s), (2, .int (nI k)), (3, .int (nI en))] 0 0 27 [.int (nI q3628)]
    refine j_if_ne h 31 dX4_readUpTo_27 (by decide) (fun z3633 => ?_) (fun z3633 => ?_)
    · have z3633n : ¬ q3628 = 0 := fun q9 => z3633 ((nI_eq (a := q3628) (b := 0) (by omega) (by omega)).mpr q9)
      refine j_aload_n h 2 rfl rfl dX4_readUpTo_31 ?_
      refine jm_get h iw_X4 3 rfl rfl 0 (by decide +kernel) tw_421 rfl dX4_readUpTo_32 ?_
      refine j_iload_n h 4 rfl rfl dX4_readUpTo_35 ?_
      refine jm_gout h 0 6 rfl rfl k rfl (by omega) (by omega) dX4_readUpTo_36 ?_
      refine j_iload h 1 rfl dX4_readUpTo_37 ?_
      refine j_aload_n h 2 rfl rfl dX4_readUpTo_39 ?_
      refine jm_get h iw_X4 3 rfl rfl 2 (by decide +kernel) tw_423 rfl dX4_readUpTo_40 ?_
      refine j_iload h 0 rfl dX4_readUpTo_43 ?_
      refine j_iload_n h 5 rfl rfl dX4_readUpTo_45 ?_
      refine jm_callSi (np := 5) (isC := [0, 1]) (isR := [2, 3, 4, 5, 6]) (wc := [(v0, .inr (kA 6, kA 1, 10, 45, .inl vls)), (v2, .inl (.inl (kA 1, 60, .inl vhs)))]) (wr := [(s7, .inl (.inl (kA 1, 10, .inl sc7))), (v, .inl (.inr (4, [.ref v0, .ref v1, .ref v2, .ref v3, .int vbk]))), (v3, .inl (.inl (kA 2, 2, .inr (.inl vrd)))), (s, .inl (.inr (5, [.ref s0, .ref s1, .ref s2, .ref s3, .ref s4, .ref s5, .ref s6, .ref s7, .ref s8, .ref s9, .ref s10, .ref s11, .int (nI sn), .int (nI sl), .int (nI se)]))), (s8, .inr (kA 6, kA 1, 10, 2, .inl sc8))]) (rest := []) (As := [.ref (v0 + 1 + k), .int (nI t3623), .ref v2, .int (nI (en - t3623)), .int (nI en)]) h (s_X4_matching _ _ kA v0 k t3623 v2 (en - t3623) en vls vhs (show k < 10 by first | assumption | omega) (show t3623 ≤ 45 by first | assumption | omega) (show (en - t3623) ≤ en by first | assumption | omega) (show en ≤ 60 by first | assumption | omega)) tw_925 tw_926 tw_96 tw_927 (by decide +kernel) rfl ⟨Nat.le_of_ble_eq_true rfl, Nat.le_of_ble_eq_true rfl⟩ (by decide +kernel) rfl rfl (by decide +kernel) (by decide +kernel) (Nat.le_of_ble_eq_true rfl) rfl ⟨Nat.le_of_ble_eq_true rfl, Nat.le_of_ble_eq_true rfl⟩ dX4_readUpTo_46 ?_
      rintro r3636 q3634 e3635
      obtain ⟨p3637, p3638⟩ := e3635
      subst p3637
      replace p3638 : q3634 ≤ t3623 := p3638
      show J x (mflat [(s7, .inl (.inl (kA 1, 10, .inl sc7))), (v, .inl (.inr (4, [.ref v0, .ref v1, .ref v2, .ref v3, .int vbk]))), (v3, .inl (.inl (kA 2, 2, .inr (.inl vrd)))), (s, .inl (.inr (5, [.ref s0, .ref s1, .ref s2, .ref s3, .ref s4, .ref s5, .ref s6, .ref s7, .ref s8, .ref s9, .ref s10, .ref s11, .int (nI sn), .int (nI sl), .int (nI se)]))), (s8, .inr (kA 6, kA 1, 10, 2, .inl sc8)), (v0, .inr (kA 6, kA 1, 10, 45, .inl vls)), (v2, .inl (.inl (kA 1, 60, .inl vhs)))]) [(5, .int (nI (en - t3623))), (4, .int (nI t3623)), (0, .ref v), (1, .ref s), (2, .int (nI k)), (3, .int (nI en))] 0 0 49 [.int (nI q3634)]
      refine j_iload h 1 rfl dX4_readUpTo_49 ?_
      refine j_icmp_ne h 62 dX4_readUpTo_51 (by decide) (fun z3639 => ?_) (fun z3639 => ?_)
      · have z3639n : ¬ q3634 = t3623 := fun q9 => z3639 ((nI_eq (a := q3634) (b := t3623) (by omega) (by omega)).mpr q9)
        exact jm_vret h hq dX4_readUpTo_62 vrd [1, 5, 6, 2, 3, 0, 4] rfl (by decide) trivial (Nat.le_of_ble_eq_true rfl) (Nat.le_of_ble_eq_true rfl)
      · have z3639n : q3634 = t3623 := (nI_eq (a := q3634) (b := t3623) (by omega) (by omega)).mp z3639
        refine j_aload_n h 2 rfl rfl dX4_readUpTo_54 ?_
        refine j_aload_n h 3 rfl rfl dX4_readUpTo_55 ?_
        refine j_iload_n h 4 rfl rfl dX4_readUpTo_56 ?_
        refine j_iload h 0 rfl dX4_readUpTo_57 ?_
        refine jm_callVv (np := 3) (isC := [1, 2, 3, 0, 4]) (isR := [5, 6]) (wc := [(v, .inl (.inr (4, [.ref v0, .ref v1, .ref v2, .ref v3, .int vbk]))), (v3, .inl (.inl (kA 2, 2, .inr (.inl vrd)))), (s, .inl (.inr (5, [.ref s0, .ref s1, .ref s2, .ref s3, .ref s4, .ref s5, .ref s6, .ref s7, .ref s8, .ref s9, .ref s10, .ref s11, .int (nI sn), .int (nI sl), .int (nI se)]))), (s7, .inl (.inl (kA 1, 10, .inl sc7))), (s8, .inr (kA 6, kA 1, 10, 2, .inl sc8))]) (wr := [(v0, .inr (kA 6, kA 1, 10, 45, .inl vls)), (v2, .inl (.inl (kA 1, 60, .inl vhs)))]) (rest := []) (As := [.ref s, .int (nI k), .int (nI (en - t3623))]) (q0 := 0) h (s_X4_markRead _ _ kA v s k (en - t3623) v0 v1 v2 v3 vbk vrd s0 s1 s2 s3 s4 s5 s6 s7 s8 s9 s10 s11 sn sl se sc7 sc8 (show sn ≤ 6 by first | assumption | omega) (show sl ≤ 10 by first | assumption | omega) (show se ≤ 4 by first | assumption | omega) (show LtOk sl sc7 by first | assumption | omega) (show FtOk sl sc8 by first | assumption | omega) (show k < sl by first | assumption | omega)) tw_930 tw_932 tw_25 tw_96 tw_933 (by decide +kernel) rfl ⟨Nat.le_of_ble_eq_true rfl, Nat.le_of_ble_eq_true rfl⟩ rfl rfl (by decide +kernel) rfl rfl (by decide +kernel) (by decide +kernel) (Nat.le_of_ble_eq_true rfl) rfl ⟨Nat.le_of_ble_eq_true rfl, Nat.le_of_ble_eq_true rfl⟩ dX4_readUpTo_59 ?_
        rintro q3640 e3641
        show J x (mflat [(v0, .inr (kA 6, kA 1, 10, 45, .inl vls)), (v2, .inl (.inl (kA 1, 60, .inl vhs))), (v, .inl (.inr (4, [.ref v0, .ref v1, .ref v2, .ref v3, .int vbk]))), (v3, .inl (.inl (kA 2, 2, .inr (.inl q3640)))), (s, .inl (.inr (5, [.ref s0, .ref s1, .ref s2, .ref s3, .ref s4, .ref s5, .ref s6, .ref s7, .ref s8, .ref s9, .ref s10, .ref s11, .int (nI sn), .int (nI sl), .int (nI se)]))), (s7, .inl (.inl (kA 1, 10, .inl sc7))), (s8, .inr (kA 6, kA 1, 10, 2, .inl sc8))]) [(5, .int (nI (en - t3623))), (4, .int (nI t3623)), (0, .ref v), (1, .ref s), (2, .int (nI k)), (3, .int (nI en))] 0 0 62 []
        exact jm_vret h hq dX4_readUpTo_62 q3640 [2, 0, 1, 3, 4, 5, 6] rfl (by decide) trivial (Nat.le_of_ble_eq_true rfl) (Nat.le_of_ble_eq_true rfl)
    · have z3633n : q3628 = 0 := (nI_eq (a := q3628) (b := 0) (by omega) (by omega)).mp z3633
      exact jm_vret h hq dX4_readUpTo_30 vrd [3, 0, 1, 4, 5, 2, 6] rfl (by decide) trivial (Nat.le_of_ble_eq_true rfl) (Nat.le_of_ble_eq_true rfl)
  · have hz3627 : (nI en) - (nI t3623) < 0 := pk_sneg (a := en) (b := t3623) (by omega) (by omega)
    show J x (mflat [(v, .inl (.inr (4, [.ref v0, .ref v1, .ref v2, .ref v3, .int vbk]))), (v0, .inr (kA 6, kA 1, 10, 45, .inl vls)), (v2, .inl (.inl (kA 1, 60, .inl vhs))), (v3, .inl (.inl (kA 2, 2, .inr (.inl vrd)))), (s, .inl (.inr (5, [.ref s0, .ref s1, .ref s2, .ref s3, .ref s4, .ref s5, .ref s6, .ref s7, .ref s8, .ref s9, .ref s10, .ref s11, .int (nI sn), .int (nI sl), .int (nI se)]))), (s7, .inl (.inl (kA 1, 10, .inl sc7))), (s8, .inr (kA 6, kA 1, 10, 2, .inl sc8))]) [(4, .int (nI t3623)), (0, .ref v), (1, .ref s), (2, .int (nI k)), (3, .int (nI en))] 0 0 12 [.int ((nI en) - (nI t3623))]
    refine j_istore (lv' := [(5, .int ((nI en) - (nI t3623))), (4, .int (nI t3623)), (0, .ref v), (1, .ref s), (2, .int (nI k)), (3, .int (nI en))]) h dX4_readUpTo_12 (by decide) rfl ?_
    refine j_iload h 0 rfl dX4_readUpTo_14 ?_
    refine j_if_lt h 30 dX4_readUpTo_16 (by decide) (fun _ => ?_) (fun q => absurd (hz3627) q)
    exact jm_vret h hq dX4_readUpTo_30 vrd [0, 1, 2, 3, 4, 5, 6] rfl (by decide) trivial (Nat.le_of_ble_eq_true rfl) (Nat.le_of_ble_eq_true rfl)
set_option maxHeartbeats 4000000 in
set_option maxRecDepth 100000 in
theorem s_X4_hearStep (lau : Launch) (gg : va_G) (kA : Nat → ClassId) (v : Nat) (s : Nat) (k : Nat) (fr : Nat) (v0 : Nat) (v1 : Nat) (v2 : Nat) (v3 : Nat) (vbk : Int32) (vls : Nat → Nat → Int32) (vss : Nat → Int32) (vhs : Nat → Int32) (vrd : Nat → Int64) (s0 : Nat) (s1 : Nat) (s2 : Nat) (s3 : Nat) (s4 : Nat) (s5 : Nat) (s6 : Nat) (s7 : Nat) (s8 : Nat) (s9 : Nat) (s10 : Nat) (s11 : Nat) (sn : Nat) (sl : Nat) (se : Nat) (sc1 : Nat → Int32) (sc7 : Nat → Int32) (sc8 : Nat → Nat → Int32) (hsn : sn ≤ 6) (hsl : sl ≤ 10) (hse : se ≤ 4) (hstk : TkOk sn sc1) (hslt : LtOk sl sc7) (hsla : FtOk sl sc8) (hk : k < sn) (hfr : fr ≤ 60) : CtV lau yX4_hearStep cX4_hearStep 9 (none) 4 0 0 gg kA [.ref v, .ref s, .int (nI k), .int (nI fr)] (mflat [(v, .inl (.inr (4, [.ref v0, .ref v1, .ref v2, .ref v3, .int vbk]))), (v0, .inr (kA 6, kA 1, 10, 45, .inl vls)), (v1, .inl (.inl (kA 1, 6, .inl vss))), (v2, .inl (.inl (kA 1, 60, .inl vhs))), (v3, .inl (.inl (kA 2, 2, .inr (.inl vrd)))), (s, .inl (.inr (5, [.ref s0, .ref s1, .ref s2, .ref s3, .ref s4, .ref s5, .ref s6, .ref s7, .ref s8, .ref s9, .ref s10, .ref s11, .int (nI sn), .int (nI sl), .int (nI se)]))), (s1, .inl (.inl (kA 1, 6, .inl sc1))), (s7, .inl (.inl (kA 1, 10, .inl sc7))), (s8, .inr (kA 6, kA 1, 10, 2, .inl sc8))]) (S := (Nat → Int32) × (Nat → Int64)) (fun ((y_v2, y_v3) : (Nat → Int32) × (Nat → Int64)) => True) (fun ((y_v2, y_v3) : (Nat → Int32) × (Nat → Int64)) => mflat [(v, .inl (.inr (4, [.ref v0, .ref v1, .ref v2, .ref v3, .int vbk]))), (v0, .inr (kA 6, kA 1, 10, 45, .inl vls)), (v1, .inl (.inl (kA 1, 6, .inl vss))), (v2, .inl (.inl (kA 1, 60, .inl y_v2))), (v3, .inl (.inl (kA 2, 2, .inr (.inl y_v3)))), (s, .inl (.inr (5, [.ref s0, .ref s1, .ref s2, .ref s3, .ref s4, .ref s5, .ref s6, .ref s7, .ref s8, .ref s9, .ref s10, .ref s11, .int (nI sn), .int (nI sl), .int (nI se)]))), (s1, .inl (.inl (kA 1, 6, .inl sc1))), (s7, .inl (.inl (kA 1, 10, .inl sc7))), (s8, .inr (kA 6, kA 1, 10, 2, .inl sc8))]) := by
  refine nx_startV (by decide +kernel) (Nat.le_of_ble_eq_true rfl) ?_
  intro x hnm h hq
  have h : Ok x cX4_hearStep RX4 kA (rmC 4 0 0) 9 := h
  show J x (mflat [(v, .inl (.inr (4, [.ref v0, .ref v1, .ref v2, .ref v3, .int vbk]))), (v0, .inr (kA 6, kA 1, 10, 45, .inl vls)), (v1, .inl (.inl (kA 1, 6, .inl vss))), (v2, .inl (.inl (kA 1, 60, .inl vhs))), (v3, .inl (.inl (kA 2, 2, .inr (.inl vrd)))), (s, .inl (.inr (5, [.ref s0, .ref s1, .ref s2, .ref s3, .ref s4, .ref s5, .ref s6, .ref s7, .ref s8, .ref s9, .ref s10, .ref s11, .int (nI sn), .int (nI sl), .int (nI se)]))), (s1, .inl (.inl (kA 1, 6, .inl sc1))), (s7, .inl (.inl (kA 1, 10, .inl sc7))), (s8, .inr (kA 6, kA 1, 10, 2, .inl sc8))]) [(0, .ref v), (1, .ref s), (2, .int (nI k)), (3, .int (nI fr))] 0 0 0 []
  refine j_ldc2 h tw_1000 dX4_hearStep_0 ?_
  refine j_iload_n h 3 rfl rfl dX4_hearStep_3 ?_
  refine j_lshl h dX4_hearStep_4 ?_
  refine j_lconst (v := 1) h (by decide) dX4_hearStep_5 ?_
  refine j_lsub h dX4_hearStep_6 ?_
  refine j_lstore (lv' := [(4, .long ((2 <<< ((nI fr).toInt64 &&& 63)) - 1)), (0, .ref v), (1, .ref s), (2, .int (nI k)), (3, .int (nI fr))]) h dX4_hearStep_7 (by decide) rfl ?_
  refine j_aload_n h 1 rfl rfl dX4_hearStep_9 ?_
  refine jm_get h iw_X4 0 rfl rfl 3 (by decide +kernel) tw_424 rfl dX4_hearStep_10 ?_
  refine j_iconst (v := 0) h (by decide) dX4_hearStep_13 ?_
  refine j_dup2 h rfl rfl dX4_hearStep_14 ?_
  refine jm_lald h 4 rfl 0 (by decide +kernel) (by decide +kernel) (by omega) dX4_hearStep_15 ?_
  refine j_lload h 0 rfl dX4_hearStep_16 ?_
  refine j_land h dX4_hearStep_18 ?_
  refine jm_last (w' := [(v, .inl (.inr (4, [.ref v0, .ref v1, .ref v2, .ref v3, .int vbk]))), (v0, .inr (kA 6, kA 1, 10, 45, .inl vls)), (v1, .inl (.inl (kA 1, 6, .inl vss))), (v2, .inl (.inl (kA 1, 60, .inl vhs))), (v3, .inl (.inl (kA 2, 2, .inr (.inl (vp_updL vrd 0 ((vrd 0) &&& ((2 <<< ((nI fr).toInt64 &&& 63)) - 1))))))), (s, .inl (.inr (5, [.ref s0, .ref s1, .ref s2, .ref s3, .ref s4, .ref s5, .ref s6, .ref s7, .ref s8, .ref s9, .ref s10, .ref s11, .int (nI sn), .int (nI sl), .int (nI se)]))), (s1, .inl (.inl (kA 1, 6, .inl sc1))), (s7, .inl (.inl (kA 1, 10, .inl sc7))), (s8, .inr (kA 6, kA 1, 10, 2, .inl sc8))]) h 4 rfl 0 (by decide +kernel) (by decide +kernel) (by omega) dX4_hearStep_19 rfl ?_
  refine j_aload_n h 1 rfl rfl dX4_hearStep_20 ?_
  refine jm_get h iw_X4 0 rfl rfl 3 (by decide +kernel) tw_424 rfl dX4_hearStep_21 ?_
  refine j_iconst (v := 1) h (by decide) dX4_hearStep_24 ?_
  refine j_dup2 h rfl rfl dX4_hearStep_25 ?_
  refine jm_lald h 4 rfl 1 (by decide +kernel) (by decide +kernel) (by omega) dX4_hearStep_26 ?_
  refine j_lload h 0 rfl dX4_hearStep_27 ?_
  refine j_land h dX4_hearStep_29 ?_
  refine jm_last (w' := [(v, .inl (.inr (4, [.ref v0, .ref v1, .ref v2, .ref v3, .int vbk]))), (v0, .inr (kA 6, kA 1, 10, 45, .inl vls)), (v1, .inl (.inl (kA 1, 6, .inl vss))), (v2, .inl (.inl (kA 1, 60, .inl vhs))), (v3, .inl (.inl (kA 2, 2, .inr (.inl (vp_updL (vp_updL vrd 0 ((vrd 0) &&& ((2 <<< ((nI fr).toInt64 &&& 63)) - 1))) 1 (((vp_updL vrd 0 ((vrd 0) &&& ((2 <<< ((nI fr).toInt64 &&& 63)) - 1))) 1) &&& ((2 <<< ((nI fr).toInt64 &&& 63)) - 1))))))), (s, .inl (.inr (5, [.ref s0, .ref s1, .ref s2, .ref s3, .ref s4, .ref s5, .ref s6, .ref s7, .ref s8, .ref s9, .ref s10, .ref s11, .int (nI sn), .int (nI sl), .int (nI se)]))), (s1, .inl (.inl (kA 1, 6, .inl sc1))), (s7, .inl (.inl (kA 1, 10, .inl sc7))), (s8, .inr (kA 6, kA 1, 10, 2, .inl sc8))]) h 4 rfl 1 (by decide +kernel) (by decide +kernel) (by omega) dX4_hearStep_30 rfl ?_
  refine j_aload_n h 1 rfl rfl dX4_hearStep_31 ?_
  refine jm_get h iw_X4 0 rfl rfl 2 (by decide +kernel) tw_423 rfl dX4_hearStep_32 ?_
  refine j_iload_n h 4 rfl rfl dX4_hearStep_35 ?_
  refine j_aload_n h 1 rfl rfl dX4_hearStep_36 ?_
  refine jm_get h iw_X4 0 rfl rfl 1 (by decide +kernel) tw_422 rfl dX4_hearStep_37 ?_
  refine j_iload_n h 3 rfl rfl dX4_hearStep_40 ?_
  refine jm_iald h 2 rfl k rfl (by omega) (by omega) dX4_hearStep_41 ?_
  refine j_aload_n h 2 rfl rfl dX4_hearStep_42 ?_
  refine jm_get h iw_X5 5 rfl rfl 1 (by decide +kernel) tw_181 rfl dX4_hearStep_43 ?_
  refine j_iload_n h 3 rfl rfl dX4_hearStep_46 ?_
  refine jm_iald h 6 rfl k rfl (by omega) (by omega) dX4_hearStep_47 ?_
  obtain ⟨t3693, u3694, u3695, u3696⟩ := (show TkOk sn sc1 by assumption) k (by omega)
  refine j_top (b := nI t3693) (u3696) ?_
  refine jm_callSNi (np := 4) (isC := [3]) (isR := [0, 1, 2, 4, 5, 6, 7, 8]) (wc := [(v2, .inl (.inl (kA 1, 60, .inl vhs)))]) (wr := [(v, .inl (.inr (4, [.ref v0, .ref v1, .ref v2, .ref v3, .int vbk]))), (v0, .inr (kA 6, kA 1, 10, 45, .inl vls)), (v1, .inl (.inl (kA 1, 6, .inl vss))), (v3, .inl (.inl (kA 2, 2, .inr (.inl (vp_updL (vp_updL vrd 0 ((vrd 0) &&& ((2 <<< ((nI fr).toInt64 &&& 63)) - 1))) 1 (((vp_updL vrd 0 ((vrd 0) &&& ((2 <<< ((nI fr).toInt64 &&& 63)) - 1))) 1) &&& ((2 <<< ((nI fr).toInt64 &&& 63)) - 1))))))), (s, .inl (.inr (5, [.ref s0, .ref s1, .ref s2, .ref s3, .ref s4, .ref s5, .ref s6, .ref s7, .ref s8, .ref s9, .ref s10, .ref s11, .int (nI sn), .int (nI sl), .int (nI se)]))), (s1, .inl (.inl (kA 1, 6, .inl sc1))), (s7, .inl (.inl (kA 1, 10, .inl sc7))), (s8, .inr (kA 6, kA 1, 10, 2, .inl sc8))]) (rest := []) (As := [.ref v2, .int (nI fr), .int (vss k), .int (nI t3693)]) h (s_X11_putStep _ _ kA v2 fr (vss k) t3693 60 vhs (show 60 ≤ 60 by first | assumption | omega) (show fr ≤ 60 by first | assumption | omega) (show t3693 ≤ 9 by first | assumption | omega)) (by decide +kernel) tw_806 tw_87 tw_807 (by decide +kernel) rfl ⟨Nat.le_of_ble_eq_true rfl, Nat.le_of_ble_eq_true rfl⟩ (by decide +kernel) rfl rfl (by decide +kernel) (by decide +kernel) (Nat.le_of_ble_eq_true rfl) rfl ⟨Nat.le_of_ble_eq_true rfl, Nat.le_of_ble_eq_true rfl⟩ dX4_hearStep_48 ?_
  rintro r3700 ⟨q3697, q3698⟩ e3699
  obtain ⟨p3701, p3702, p3703⟩ := e3699
  subst p3701
  replace p3702 : q3697 ≤ 60 := p3702
  replace p3703 : fr ≤ q3697 := p3703
  show J x (mflat [(v, .inl (.inr (4, [.ref v0, .ref v1, .ref v2, .ref v3, .int vbk]))), (v0, .inr (kA 6, kA 1, 10, 45, .inl vls)), (v1, .inl (.inl (kA 1, 6, .inl vss))), (v3, .inl (.inl (kA 2, 2, .inr (.inl (vp_updL (vp_updL vrd 0 ((vrd 0) &&& ((2 <<< ((nI fr).toInt64 &&& 63)) - 1))) 1 (((vp_updL vrd 0 ((vrd 0) &&& ((2 <<< ((nI fr).toInt64 &&& 63)) - 1))) 1) &&& ((2 <<< ((nI fr).toInt64 &&& 63)) - 1))))))), (s, .inl (.inr (5, [.ref s0, .ref s1, .ref s2, .ref s3, .ref s4, .ref s5, .ref s6, .ref s7, .ref s8, .ref s9, .ref s10, .ref s11, .int (nI sn), .int (nI sl), .int (nI se)]))), (s1, .inl (.inl (kA 1, 6, .inl sc1))), (s7, .inl (.inl (kA 1, 10, .inl sc7))), (s8, .inr (kA 6, kA 1, 10, 2, .inl sc8)), (v2, .inl (.inl (kA 1, 60, .inl q3698)))]) [(4, .long ((2 <<< ((nI fr).toInt64 &&& 63)) - 1)), (0, .ref v), (1, .ref s), (2, .int (nI k)), (3, .int (nI fr))] 0 0 51 [.int (nI q3697)]
  refine j_istore (lv' := [(6, .int (nI q3697)), (4, .long ((2 <<< ((nI fr).toInt64 &&& 63)) - 1)), (0, .ref v), (1, .ref s), (2, .int (nI k)), (3, .int (nI fr))]) h dX4_hearStep_51 (by decide) rfl ?_
  refine j_iload_n h 5 rfl rfl dX4_hearStep_53 ?_
  refine j_iconst (v := 1) h (by decide) dX4_hearStep_54 ?_
  refine j_iadd h dX4_hearStep_55 ?_
  refine j_top (b := nI (fr + 1)) (nI_add fr 1) ?_
  refine j_istore (lv' := [(7, .int (nI (fr + 1))), (6, .int (nI q3697)), (4, .long ((2 <<< ((nI fr).toInt64 &&& 63)) - 1)), (0, .ref v), (1, .ref s), (2, .int (nI k)), (3, .int (nI fr))]) h dX4_hearStep_56 (by decide) rfl ?_
  have lp58_435 : ∀ (m58_435 : Nat), ∀ (v7_58_435 : Nat) (fv3_58_435 : Nat → Int64), (v7_58_435 ≤ 100000) → 100001 - v7_58_435 < m58_435 → J x (mflat [(v, .inl (.inr (4, [.ref v0, .ref v1, .ref v2, .ref v3, .int vbk]))), (v0, .inr (kA 6, kA 1, 10, 45, .inl vls)), (v1, .inl (.inl (kA 1, 6, .inl vss))), (v3, .inl (.inl (kA 2, 2, .inr (.inl fv3_58_435)))), (s, .inl (.inr (5, [.ref s0, .ref s1, .ref s2, .ref s3, .ref s4, .ref s5, .ref s6, .ref s7, .ref s8, .ref s9, .ref s10, .ref s11, .int (nI sn), .int (nI sl), .int (nI se)]))), (s1, .inl (.inl (kA 1, 6, .inl sc1))), (s7, .inl (.inl (kA 1, 10, .inl sc7))), (s8, .inr (kA 6, kA 1, 10, 2, .inl sc8)), (v2, .inl (.inl (kA 1, 60, .inl q3698)))]) [(7, .int (nI v7_58_435)), (6, .int (nI q3697)), (4, .long ((2 <<< ((nI fr).toInt64 &&& 63)) - 1)), (0, .ref v), (1, .ref s), (2, .int (nI k)), (3, .int (nI fr))] 0 0 58 [] := by
    intro m58_435
    induction m58_435 with
    | zero =>
      intro v7_58_435 fv3_58_435 i58_435_0 hm58_435
      exact absurd hm58_435 (Nat.not_lt_zero _)
    | succ m58_435 ih58_435 =>
      intro v7_58_435 fv3_58_435 i58_435_0 hm58_435
      refine j_iload h 0 rfl dX4_hearStep_58 ?_
      refine j_iload h 1 rfl dX4_hearStep_60 ?_
      refine j_icmp_gt h 98 dX4_hearStep_62 (by decide) (fun z3730 => ?_) (fun z3730 => ?_)
      · have z3730n : q3697 < v7_58_435 := (nI_ltI (a := q3697) (b := v7_58_435) (by omega) (by omega)).mp z3730
        exact jm_vret h hq dX4_hearStep_98 (q3698, fv3_58_435) [0, 1, 2, 8, 3, 4, 5, 6, 7] rfl (by decide) trivial (Nat.le_of_ble_eq_true rfl) (Nat.le_of_ble_eq_true rfl)
      · have z3730n : ¬ q3697 < v7_58_435 := fun q9 => z3730 ((nI_ltI (a := q3697) (b := v7_58_435) (by omega) (by omega)).mpr q9)
        refine j_iconst (v := 0) h (by decide) dX4_hearStep_65 ?_
        refine j_istore (lv' := [(8, .int 0), (7, .int (nI v7_58_435)), (6, .int (nI q3697)), (4, .long ((2 <<< ((nI fr).toInt64 &&& 63)) - 1)), (0, .ref v), (1, .ref s), (2, .int (nI k)), (3, .int (nI fr))]) h dX4_hearStep_66 (by decide) rfl ?_
        have lp68_438 : ∀ (m68_438 : Nat), ∀ (v8_68_438 : Nat) (fv3_68_438 : Nat → Int64), (v8_68_438 ≤ 100000) → 100001 - v8_68_438 < m68_438 → J x (mflat [(v, .inl (.inr (4, [.ref v0, .ref v1, .ref v2, .ref v3, .int vbk]))), (v0, .inr (kA 6, kA 1, 10, 45, .inl vls)), (v1, .inl (.inl (kA 1, 6, .inl vss))), (v3, .inl (.inl (kA 2, 2, .inr (.inl fv3_68_438)))), (s, .inl (.inr (5, [.ref s0, .ref s1, .ref s2, .ref s3, .ref s4, .ref s5, .ref s6, .ref s7, .ref s8, .ref s9, .ref s10, .ref s11, .int (nI sn), .int (nI sl), .int (nI se)]))), (s1, .inl (.inl (kA 1, 6, .inl sc1))), (s7, .inl (.inl (kA 1, 10, .inl sc7))), (s8, .inr (kA 6, kA 1, 10, 2, .inl sc8)), (v2, .inl (.inl (kA 1, 60, .inl q3698)))]) [(8, .int (nI v8_68_438)), (7, .int (nI v7_58_435)), (6, .int (nI q3697)), (4, .long ((2 <<< ((nI fr).toInt64 &&& 63)) - 1)), (0, .ref v), (1, .ref s), (2, .int (nI k)), (3, .int (nI fr))] 0 0 68 [] := by
          intro m68_438
          induction m68_438 with
          | zero =>
            intro v8_68_438 fv3_68_438 i68_438_0 hm68_438
            exact absurd hm68_438 (Nat.not_lt_zero _)
          | succ m68_438 ih68_438 =>
            intro v8_68_438 fv3_68_438 i68_438_0 hm68_438
            refine j_iload h 0 rfl dX4_hearStep_68 ?_
            refine j_aload_n h 5 rfl rfl dX4_hearStep_70 ?_
            refine jm_get h iw_X5 4 rfl rfl 13 (by decide +kernel) tw_224 rfl dX4_hearStep_71 ?_
            refine j_icmp_ge h 92 dX4_hearStep_74 (by decide) (fun z3739 => ?_) (fun z3739 => ?_)
            · have z3739n : sl ≤ v8_68_438 := (nI_leI (a := sl) (b := v8_68_438) (by omega) (by omega)).mp z3739
              refine j_iinc (v := nI (v7_58_435 + 1)) (lv' := [(7, .int (nI (v7_58_435 + 1))), (8, .int (nI v8_68_438)), (6, .int (nI q3697)), (4, .long ((2 <<< ((nI fr).toInt64 &&& 63)) - 1)), (0, .ref v), (1, .ref s), (2, .int (nI k)), (3, .int (nI fr))]) h dX4_hearStep_92 1 rfl (nI_add v7_58_435 1) (by decide) rfl ?_
              refine j_goto h 58 dX4_hearStep_95 (by decide) ?_
              refine jm_sub [0, 1, 2, 3, 4, 5, 6, 7, 8] (w' := [(v, .inl (.inr (4, [.ref v0, .ref v1, .ref v2, .ref v3, .int vbk]))), (v0, .inr (kA 6, kA 1, 10, 45, .inl vls)), (v1, .inl (.inl (kA 1, 6, .inl vss))), (v3, .inl (.inl (kA 2, 2, .inr (.inl fv3_68_438)))), (s, .inl (.inr (5, [.ref s0, .ref s1, .ref s2, .ref s3, .ref s4, .ref s5, .ref s6, .ref s7, .ref s8, .ref s9, .ref s10, .ref s11, .int (nI sn), .int (nI sl), .int (nI se)]))), (s1, .inl (.inl (kA 1, 6, .inl sc1))), (s7, .inl (.inl (kA 1, 10, .inl sc7))), (s8, .inr (kA 6, kA 1, 10, 2, .inl sc8)), (v2, .inl (.inl (kA 1, 60, .inl q3698)))]) rfl (by decide +kernel) [0, 2, 3, 4, 5, 6, 7] (lv' := [(7, .int (nI (v7_58_435 + 1))), (6, .int (nI q3697)), (4, .long ((2 <<< ((nI fr).toInt64 &&& 63)) - 1)), (0, .ref v), (1, .ref s), (2, .int (nI k)), (3, .int (nI fr))]) rfl ?_
              exact ih58_435 (v7_58_435 + 1) fv3_68_438 (show (v7_58_435 + 1) ≤ 100000 by first | assumption | omega) (show 100001 - (v7_58_435 + 1) < m58_435 by first | exact Nat.lt_of_lt_of_le (Nat.sub_lt_sub_left (Nat.lt_of_le_of_lt (show v7_58_435 ≤ 100000 by assumption) (Nat.lt_succ_self 100000)) (Nat.lt_succ_self v7_58_435)) (Nat.le_of_lt_succ hm58_435) | omega)
            · have z3739n : ¬ sl ≤ v8_68_438 := fun q9 => z3739 ((nI_leI (a := sl) (b := v8_68_438) (by omega) (by omega)).mpr q9)
              refine j_aload_n h 4 rfl rfl dX4_hearStep_77 ?_
              refine j_aload_n h 5 rfl rfl dX4_hearStep_78 ?_
              refine j_iload h 0 rfl dX4_hearStep_79 ?_
              refine j_iload h 1 rfl dX4_hearStep_81 ?_
              refine jm_callVv (np := 3) (isC := [0, 1, 8, 3, 4, 6, 7]) (isR := [2, 5]) (wc := [(v, .inl (.inr (4, [.ref v0, .ref v1, .ref v2, .ref v3, .int vbk]))), (v0, .inr (kA 6, kA 1, 10, 45, .inl vls)), (v2, .inl (.inl (kA 1, 60, .inl q3698))), (v3, .inl (.inl (kA 2, 2, .inr (.inl fv3_68_438)))), (s, .inl (.inr (5, [.ref s0, .ref s1, .ref s2, .ref s3, .ref s4, .ref s5, .ref s6, .ref s7, .ref s8, .ref s9, .ref s10, .ref s11, .int (nI sn), .int (nI sl), .int (nI se)]))), (s7, .inl (.inl (kA 1, 10, .inl sc7))), (s8, .inr (kA 6, kA 1, 10, 2, .inl sc8))]) (wr := [(v1, .inl (.inl (kA 1, 6, .inl vss))), (s1, .inl (.inl (kA 1, 6, .inl sc1)))]) (rest := []) (As := [.ref s, .int (nI v8_68_438), .int (nI v7_58_435)]) (q0 := 0) h (s_X4_readUpTo _ _ kA v s v8_68_438 v7_58_435 v0 v1 v2 v3 vbk vls q3698 fv3_68_438 s0 s1 s2 s3 s4 s5 s6 s7 s8 s9 s10 s11 sn sl se sc7 sc8 (show sn ≤ 6 by first | assumption | omega) (show sl ≤ 10 by first | assumption | omega) (show se ≤ 4 by first | assumption | omega) (show LtOk sl sc7 by first | assumption | omega) (show FtOk sl sc8 by first | assumption | omega) (show v8_68_438 < sl by first | assumption | omega) (show v7_58_435 ≤ 60 by first | assumption | omega)) tw_1002 tw_1004 tw_30 tw_96 tw_1005 (by decide +kernel) rfl ⟨Nat.le_of_ble_eq_true rfl, Nat.le_of_ble_eq_true rfl⟩ rfl rfl (by decide +kernel) rfl rfl (by decide +kernel) (by decide +kernel) (Nat.le_of_ble_eq_true rfl) rfl ⟨Nat.le_of_ble_eq_true rfl, Nat.le_of_ble_eq_true rfl⟩ dX4_hearStep_83 ?_
              rintro q3740 e3741
              show J x (mflat [(v1, .inl (.inl (kA 1, 6, .inl vss))), (s1, .inl (.inl (kA 1, 6, .inl sc1))), (v, .inl (.inr (4, [.ref v0, .ref v1, .ref v2, .ref v3, .int vbk]))), (v0, .inr (kA 6, kA 1, 10, 45, .inl vls)), (v2, .inl (.inl (kA 1, 60, .inl q3698))), (v3, .inl (.inl (kA 2, 2, .inr (.inl q3740)))), (s, .inl (.inr (5, [.ref s0, .ref s1, .ref s2, .ref s3, .ref s4, .ref s5, .ref s6, .ref s7, .ref s8, .ref s9, .ref s10, .ref s11, .int (nI sn), .int (nI sl), .int (nI se)]))), (s7, .inl (.inl (kA 1, 10, .inl sc7))), (s8, .inr (kA 6, kA 1, 10, 2, .inl sc8))]) [(8, .int (nI v8_68_438)), (7, .int (nI v7_58_435)), (6, .int (nI q3697)), (4, .long ((2 <<< ((nI fr).toInt64 &&& 63)) - 1)), (0, .ref v), (1, .ref s), (2, .int (nI k)), (3, .int (nI fr))] 0 0 86 []
              refine j_iinc (v := nI (v8_68_438 + 1)) (lv' := [(8, .int (nI (v8_68_438 + 1))), (7, .int (nI v7_58_435)), (6, .int (nI q3697)), (4, .long ((2 <<< ((nI fr).toInt64 &&& 63)) - 1)), (0, .ref v), (1, .ref s), (2, .int (nI k)), (3, .int (nI fr))]) h dX4_hearStep_86 0 rfl (nI_add v8_68_438 1) (by decide) rfl ?_
              refine j_goto h 68 dX4_hearStep_89 (by decide) ?_
              refine jm_sub [2, 3, 0, 5, 6, 1, 7, 8, 4] (w' := [(v, .inl (.inr (4, [.ref v0, .ref v1, .ref v2, .ref v3, .int vbk]))), (v0, .inr (kA 6, kA 1, 10, 45, .inl vls)), (v1, .inl (.inl (kA 1, 6, .inl vss))), (v3, .inl (.inl (kA 2, 2, .inr (.inl q3740)))), (s, .inl (.inr (5, [.ref s0, .ref s1, .ref s2, .ref s3, .ref s4, .ref s5, .ref s6, .ref s7, .ref s8, .ref s9, .ref s10, .ref s11, .int (nI sn), .int (nI sl), .int (nI se)]))), (s1, .inl (.inl (kA 1, 6, .inl sc1))), (s7, .inl (.inl (kA 1, 10, .inl sc7))), (s8, .inr (kA 6, kA 1, 10, 2, .inl sc8)), (v2, .inl (.inl (kA 1, 60, .inl q3698)))]) rfl (by decide +kernel) [0, 1, 2, 3, 4, 5, 6, 7] (lv' := [(8, .int (nI (v8_68_438 + 1))), (7, .int (nI v7_58_435)), (6, .int (nI q3697)), (4, .long ((2 <<< ((nI fr).toInt64 &&& 63)) - 1)), (0, .ref v), (1, .ref s), (2, .int (nI k)), (3, .int (nI fr))]) rfl ?_
              exact ih68_438 (v8_68_438 + 1) q3740 (show (v8_68_438 + 1) ≤ 100000 by first | assumption | omega) (show 100001 - (v8_68_438 + 1) < m68_438 by first | exact Nat.lt_of_lt_of_le (Nat.sub_lt_sub_left (Nat.lt_of_le_of_lt (show v8_68_438 ≤ 100000 by assumption) (Nat.lt_succ_self 100000)) (Nat.lt_succ_self v8_68_438)) (Nat.le_of_lt_succ hm68_438) | omega)
        refine jm_sub [0, 1, 2, 3, 4, 5, 6, 7, 8] (w' := [(v, .inl (.inr (4, [.ref v0, .ref v1, .ref v2, .ref v3, .int vbk]))), (v0, .inr (kA 6, kA 1, 10, 45, .inl vls)), (v1, .inl (.inl (kA 1, 6, .inl vss))), (v3, .inl (.inl (kA 2, 2, .inr (.inl fv3_58_435)))), (s, .inl (.inr (5, [.ref s0, .ref s1, .ref s2, .ref s3, .ref s4, .ref s5, .ref s6, .ref s7, .ref s8, .ref s9, .ref s10, .ref s11, .int (nI sn), .int (nI sl), .int (nI se)]))), (s1, .inl (.inl (kA 1, 6, .inl sc1))), (s7, .inl (.inl (kA 1, 10, .inl sc7))), (s8, .inr (kA 6, kA 1, 10, 2, .inl sc8)), (v2, .inl (.inl (kA 1, 60, .inl q3698)))]) rfl (by decide +kernel) [0, 1, 2, 3, 4, 5, 6, 7] (lv' := [(8, .int 0), (7, .int (nI v7_58_435)), (6, .int (nI q3697)), (4, .long ((2 <<< ((nI fr).toInt64 &&& 63)) - 1)), (0, .ref v), (1, .ref s), (2, .int (nI k)), (3, .int (nI fr))]) rfl ?_
        exact lp68_438 (100001 - 0 + 1) 0 fv3_58_435 (show 0 ≤ 100000 by first | assumption | omega) (Nat.lt_succ_self _)
  refine jm_sub [0, 1, 2, 3, 4, 5, 6, 7, 8] (w' := [(v, .inl (.inr (4, [.ref v0, .ref v1, .ref v2, .ref v3, .int vbk]))), (v0, .inr (kA 6, kA 1, 10, 45, .inl vls)), (v1, .inl (.inl (kA 1, 6, .inl vss))), (v3, .inl (.inl (kA 2, 2, .inr (.inl (vp_updL (vp_updL vrd 0 ((vrd 0) &&& ((2 <<< ((nI fr).toInt64 &&& 63)) - 1))) 1 (((vp_updL vrd 0 ((vrd 0) &&& ((2 <<< ((nI fr).toInt64 &&& 63)) - 1))) 1) &&& ((2 <<< ((nI fr).toInt64 &&& 63)) - 1))))))), (s, .inl (.inr (5, [.ref s0, .ref s1, .ref s2, .ref s3, .ref s4, .ref s5, .ref s6, .ref s7, .ref s8, .ref s9, .ref s10, .ref s11, .int (nI sn), .int (nI sl), .int (nI se)]))), (s1, .inl (.inl (kA 1, 6, .inl sc1))), (s7, .inl (.inl (kA 1, 10, .inl sc7))), (s8, .inr (kA 6, kA 1, 10, 2, .inl sc8)), (v2, .inl (.inl (kA 1, 60, .inl q3698)))]) rfl (by decide +kernel) [0, 1, 2, 3, 4, 5, 6] (lv' := [(7, .int (nI (fr + 1))), (6, .int (nI q3697)), (4, .long ((2 <<< ((nI fr).toInt64 &&& 63)) - 1)), (0, .ref v), (1, .ref s), (2, .int (nI k)), (3, .int (nI fr))]) rfl ?_
  exact lp58_435 (100001 - (fr + 1) + 1) (fr + 1) (vp_updL (vp_updL vrd 0 ((vrd 0) &&& ((2 <<< ((nI fr).toInt64 &&& 63)) - 1))) 1 (((vp_updL vrd 0 ((vrd 0) &&& ((2 <<< ((nI fr).toInt64 &&& 63)) - 1))) 1) &&& ((2 <<< ((nI fr).toInt64 &&& 63)) - 1))) (show (fr + 1) ≤ 100000 by first | assumption | omega) (Nat.lt_succ_self _)
set_option maxHeartbeats 4000000 in
set_option maxRecDepth 100000 in
theorem s_X4_canReadUpTo (lau : Launch) (gg : va_G) (kA : Nat → ClassId) (v : Nat) (tm : Int32) (v0 : Nat) (v1 : Nat) (v2 : Nat) (v3 : Nat) (vbk : Int32) (vrd : Nat → Int64)  : CtI lau yX4_canReadUpTo cX4_canReadUpTo 2 (some .boolean) 1 0 0 gg kA [.ref v, .int tm] (mflat [(v, .inl (.inr (4, [.ref v0, .ref v1, .ref v2, .ref v3, .int vbk]))), (v3, .inl (.inl (kA 2, 2, .inr (.inl vrd))))]) (S := Nat) (fun (r : Int32) (y_r : Nat) => r = nI y_r ∧ (y_r ≤ 1)) (fun (y_r : Nat) => mflat [(v, .inl (.inr (4, [.ref v0, .ref v1, .ref v2, .ref v3, .int vbk]))), (v3, .inl (.inl (kA 2, 2, .inr (.inl vrd))))]) := by
  refine nx_startI (by decide +kernel) (Nat.le_of_ble_eq_true rfl) ?_
  intro x hnm h hq
  have h : Ok x cX4_canReadUpTo RX4 kA (rmC 1 0 0) 2 := h
  show J x (mflat [(v, .inl (.inr (4, [.ref v0, .ref v1, .ref v2, .ref v3, .int vbk]))), (v3, .inl (.inl (kA 2, 2, .inr (.inl vrd))))]) [(0, .ref v), (1, .int tm)] 0 0 0 []
  refine j_aload_n h 0 rfl rfl dX4_canReadUpTo_0 ?_
  refine jm_get h iw_X4 0 rfl rfl 3 (by decide +kernel) tw_424 rfl dX4_canReadUpTo_1 ?_
  refine j_iconst (v := 0) h (by decide) dX4_canReadUpTo_4 ?_
  refine jm_lald h 1 rfl 0 (by decide +kernel) (by decide +kernel) (by omega) dX4_canReadUpTo_5 ?_
  refine j_aload_n h 0 rfl rfl dX4_canReadUpTo_6 ?_
  refine jm_get h iw_X4 0 rfl rfl 3 (by decide +kernel) tw_424 rfl dX4_canReadUpTo_7 ?_
  refine j_iconst (v := 1) h (by decide) dX4_canReadUpTo_10 ?_
  refine jm_lald h 1 rfl 1 (by decide +kernel) (by decide +kernel) (by omega) dX4_canReadUpTo_11 ?_
  refine j_lor h dX4_canReadUpTo_12 ?_
  refine j_iload_n h 1 rfl rfl dX4_canReadUpTo_13 ?_
  refine j_lshr h dX4_canReadUpTo_14 ?_
  refine j_lconst (v := 1) h (by decide) dX4_canReadUpTo_15 ?_
  refine j_land h dX4_canReadUpTo_16 ?_
  refine j_lconst (v := 1) h (by decide) dX4_canReadUpTo_17 ?_
  refine j_lcmp h dX4_canReadUpTo_18 ?_
  refine j_if_ne h 26 dX4_canReadUpTo_19 (by decide) (fun z3744 => ?_) (fun z3744 => ?_)
  · show J x (mflat [(v, .inl (.inr (4, [.ref v0, .ref v1, .ref v2, .ref v3, .int vbk]))), (v3, .inl (.inl (kA 2, 2, .inr (.inl vrd))))]) [(0, .ref v), (1, .int tm)] 0 0 26 []
    refine j_iconst (v := 0) h (by decide) dX4_canReadUpTo_26 ?_
    exact jm_zret h hq rfl dX4_canReadUpTo_27 0 [0, 1] rfl (by decide) ⟨rfl, (show 0 ≤ 1 by first | assumption | omega)⟩ (Nat.le_of_ble_eq_true rfl) (Nat.le_of_ble_eq_true rfl)
  · show J x (mflat [(v, .inl (.inr (4, [.ref v0, .ref v1, .ref v2, .ref v3, .int vbk]))), (v3, .inl (.inl (kA 2, 2, .inr (.inl vrd))))]) [(0, .ref v), (1, .int tm)] 0 0 22 []
    refine j_iconst (v := 1) h (by decide) dX4_canReadUpTo_22 ?_
    refine j_goto h 27 dX4_canReadUpTo_23 (by decide) ?_
    exact jm_zret h hq rfl dX4_canReadUpTo_27 1 [0, 1] rfl (by decide) ⟨rfl, (show 1 ≤ 1 by first | assumption | omega)⟩ (Nat.le_of_ble_eq_true rfl) (Nat.le_of_ble_eq_true rfl)
set_option maxHeartbeats 4000000 in
set_option maxRecDepth 100000 in
theorem s_X7_begin (lau : Launch) (gg : va_G) (kA : Nat → ClassId) (sk : Nat) (sk0 : Nat) (sk1 : Nat) (sk2 : Nat) (skz : Int32) (skw : Nat → Int32) (skb : Nat → Int32) (skf : Nat → Int32) (tm : Nat)  : CtV lau yX7_begin cX7_begin 1 (none) 1 0 0 gg kA [.ref sk] (mflat [(sk, .inl (.inr (7, [.ref sk0, .ref sk1, .ref sk2, .int skz]))), (sk0, .inl (.inl (kA 1, 61, .inl skw))), (sk1, .inl (.inl (kA 1, 61, .inl skb))), (sk2, .inl (.inl (kA 1, 61, .inl skf)))]) (S := (Nat → Int32) × (Nat → Int32) × (Nat → Int32)) (fun ((y_sk0, y_sk1, y_sk2) : (Nat → Int32) × (Nat → Int32) × (Nat → Int32)) => (RoOk (tm + 1) 1 y_sk1) ∧ (RoOk 2 1 y_sk2) ∧ (WkOk 1 y_sk0)) (fun ((y_sk0, y_sk1, y_sk2) : (Nat → Int32) × (Nat → Int32) × (Nat → Int32)) => mflat [(sk, .inl (.inr (7, [.ref sk0, .ref sk1, .ref sk2, .int 0]))), (sk0, .inl (.inl (kA 1, 61, .inl y_sk0))), (sk1, .inl (.inl (kA 1, 61, .inl y_sk1))), (sk2, .inl (.inl (kA 1, 61, .inl y_sk2)))]) := by
  refine nx_startV (by decide +kernel) (Nat.le_of_ble_eq_true rfl) ?_
  intro x hnm h hq
  have h : Ok x cX7_begin RX7 kA (rmC 1 0 0) 1 := h
  show J x (mflat [(sk, .inl (.inr (7, [.ref sk0, .ref sk1, .ref sk2, .int skz]))), (sk0, .inl (.inl (kA 1, 61, .inl skw))), (sk1, .inl (.inl (kA 1, 61, .inl skb))), (sk2, .inl (.inl (kA 1, 61, .inl skf)))]) [(0, .ref sk)] 0 0 0 []
  refine j_aload_n h 0 rfl rfl dX7_begin_0 ?_
  refine j_iconst (v := 0) h (by decide) dX7_begin_1 ?_
  refine jm_put (w' := [(sk, .inl (.inr (7, [.ref sk0, .ref sk1, .ref sk2, .int 0]))), (sk0, .inl (.inl (kA 1, 61, .inl skw))), (sk1, .inl (.inl (kA 1, 61, .inl skb))), (sk2, .inl (.inl (kA 1, 61, .inl skf)))]) h iw_X7 tyX7 tyX7_ok nmX7 0 rfl rfl 3 (by decide +kernel) tw_446 rfl rfl rfl (Nat.le_of_ble_eq_true rfl) dX7_begin_2 rfl ?_
  refine j_aload_n h 0 rfl rfl dX7_begin_5 ?_
  refine jm_get h iw_X7 0 rfl rfl 0 (by decide +kernel) tw_443 rfl dX7_begin_6 ?_
  refine j_iconst (v := 0) h (by decide) dX7_begin_9 ?_
  refine j_iconst (v := (-1)) h (by decide) dX7_begin_10 ?_
  refine jm_iast (w' := [(sk, .inl (.inr (7, [.ref sk0, .ref sk1, .ref sk2, .int 0]))), (sk0, .inl (.inl (kA 1, 61, .inl (upd skw 0 (-1))))), (sk1, .inl (.inl (kA 1, 61, .inl skb))), (sk2, .inl (.inl (kA 1, 61, .inl skf)))]) h 1 rfl 0 (by decide +kernel) (by decide +kernel) (by omega) dX7_begin_11 rfl ?_
  refine j_aload_n h 0 rfl rfl dX7_begin_12 ?_
  refine jm_get h iw_X7 0 rfl rfl 1 (by decide +kernel) tw_444 rfl dX7_begin_13 ?_
  refine j_iconst (v := 0) h (by decide) dX7_begin_16 ?_
  refine j_iconst (v := 0) h (by decide) dX7_begin_17 ?_
  refine jm_iast (w' := [(sk, .inl (.inr (7, [.ref sk0, .ref sk1, .ref sk2, .int 0]))), (sk0, .inl (.inl (kA 1, 61, .inl (upd skw 0 (-1))))), (sk1, .inl (.inl (kA 1, 61, .inl (upd skb 0 0)))), (sk2, .inl (.inl (kA 1, 61, .inl skf)))]) h 2 rfl 0 (by decide +kernel) (by decide +kernel) (by omega) dX7_begin_18 rfl ?_
  refine j_aload_n h 0 rfl rfl dX7_begin_19 ?_
  refine jm_get h iw_X7 0 rfl rfl 2 (by decide +kernel) tw_445 rfl dX7_begin_20 ?_
  refine j_iconst (v := 0) h (by decide) dX7_begin_23 ?_
  refine j_iconst (v := 0) h (by decide) dX7_begin_24 ?_
  refine jm_iast (w' := [(sk, .inl (.inr (7, [.ref sk0, .ref sk1, .ref sk2, .int 0]))), (sk0, .inl (.inl (kA 1, 61, .inl (upd skw 0 (-1))))), (sk1, .inl (.inl (kA 1, 61, .inl (upd skb 0 0)))), (sk2, .inl (.inl (kA 1, 61, .inl (upd skf 0 0))))]) h 3 rfl 0 (by decide +kernel) (by decide +kernel) (by omega) dX7_begin_25 rfl ?_
  exact jm_vret h hq dX7_begin_26 ((upd skw 0 (-1)), (upd skb 0 0), (upd skf 0 0)) [0, 1, 2, 3] rfl (by decide) ⟨(show RoOk (tm + 1) 1 (upd skb 0 0) by first | exact RoOk_one _ _ | assumption | omega), (show RoOk 2 1 (upd skf 0 0) by first | assumption | exact RoOk_one _ _ | omega), (show WkOk 1 (upd skw 0 (-1)) by first | exact WkOk_one _ | assumption | omega)⟩ (Nat.le_of_ble_eq_true rfl) (Nat.le_of_ble_eq_true rfl)
set_option maxHeartbeats 4000000 in
set_option maxRecDepth 100000 in
theorem s_X7_goOn (lau : Launch) (gg : va_G) (kA : Nat → ClassId) (sk : Nat) (s : Nat) (g : Nat) (v : Nat) (sk0 : Nat) (sk1 : Nat) (sk2 : Nat) (skz : Nat) (skw : Nat → Int32) (skb : Nat → Int32) (skf : Nat → Int32) (s0 : Nat) (s1 : Nat) (s2 : Nat) (s3 : Nat) (s4 : Nat) (s5 : Nat) (s6 : Nat) (s7 : Nat) (s8 : Nat) (s9 : Nat) (s10 : Nat) (s11 : Nat) (sn : Nat) (sl : Nat) (se : Nat) (sc1 : Nat → Int32) (sc7 : Nat → Int32) (sc8 : Nat → Nat → Int32) (g0 : Nat) (g1 : Nat) (g2 : Nat) (g3 : Nat) (g4 : Nat) (g5 : Nat) (g6 : Nat) (g7 : Nat) (gn : Nat) (gtm : Nat) (gms : Nat) (gtk : Nat → Int32) (gaf : Nat → Nat → Int32) (gco : Nat → Nat → Int32) (gwy : Nat → Nat → Int64) (v0 : Nat) (v1 : Nat) (v2 : Nat) (v3 : Nat) (vbk : Int32) (vls : Nat → Nat → Int32) (vss : Nat → Int32) (vhs : Nat → Int32) (vrd : Nat → Int64) (hsn : sn ≤ 6) (hsl : sl ≤ 10) (hse : se ≤ 4) (hstk : TkOk sn sc1) (hslt : LtOk sl sc7) (hsla : FtOk sl sc8) (hgn : gn ≤ 6) (hgtm : gtm ≤ 60) (hgtk : LtOk gn gtk) (hgaf : FtOk gn gaf) (hgco : CoOk gn gtm gtk gco) (hsb : RoOk (gtm + 1) (skz + 1) skb) (hsf : RoOk 2 (skz + 1) skf) (hsw : WkOk (skz + 1) skw) (hskz : skz ≤ 60) (hgs : gn ≤ sn) : CtV lau yX7_goOn cX7_goOn 6 (none) 5 0 0 gg kA [.ref sk, .ref s, .ref g, .ref v] (mflat [(sk, .inl (.inr (7, [.ref sk0, .ref sk1, .ref sk2, .int (nI skz)]))), (sk0, .inl (.inl (kA 1, 61, .inl skw))), (sk1, .inl (.inl (kA 1, 61, .inl skb))), (sk2, .inl (.inl (kA 1, 61, .inl skf))), (s, .inl (.inr (5, [.ref s0, .ref s1, .ref s2, .ref s3, .ref s4, .ref s5, .ref s6, .ref s7, .ref s8, .ref s9, .ref s10, .ref s11, .int (nI sn), .int (nI sl), .int (nI se)]))), (s1, .inl (.inl (kA 1, 6, .inl sc1))), (s7, .inl (.inl (kA 1, 10, .inl sc7))), (s8, .inr (kA 6, kA 1, 10, 2, .inl sc8)), (g, .inl (.inr (3, [.ref g0, .ref g1, .ref g2, .ref g3, .ref g4, .ref g5, .ref g6, .ref g7, .int (nI gn), .int (nI gtm), .int (nI gms)]))), (g0, .inl (.inl (kA 1, 6, .inl gtk))), (g1, .inr (kA 6, kA 1, 6, 2, .inl gaf)), (g2, .inr (kA 6, kA 1, 6, 60, .inl gco)), (g3, .inr (kA 7, kA 2, 8, 61, .inr gwy)), (v, .inl (.inr (4, [.ref v0, .ref v1, .ref v2, .ref v3, .int vbk]))), (v0, .inr (kA 6, kA 1, 10, 45, .inl vls)), (v1, .inl (.inl (kA 1, 6, .inl vss))), (v2, .inl (.inl (kA 1, 60, .inl vhs))), (v3, .inl (.inl (kA 2, 2, .inr (.inl vrd))))]) (S := Nat × (Nat → Int32) × (Nat → Int32) × (Nat → Int32) × (Nat → Int32) × (Nat → Int64)) (fun ((y_sk_3, y_sk0, y_sk1, y_sk2, y_v2, y_v3) : Nat × (Nat → Int32) × (Nat → Int32) × (Nat → Int32) × (Nat → Int32) × (Nat → Int64)) => (y_sk_3 ≤ 61) ∧ (RoOk (gtm + 1) y_sk_3 y_sk1) ∧ (RoOk 2 y_sk_3 y_sk2) ∧ (WkOk y_sk_3 y_sk0)) (fun ((y_sk_3, y_sk0, y_sk1, y_sk2, y_v2, y_v3) : Nat × (Nat → Int32) × (Nat → Int32) × (Nat → Int32) × (Nat → Int32) × (Nat → Int64)) => mflat [(sk, .inl (.inr (7, [.ref sk0, .ref sk1, .ref sk2, .int (pm y_sk_3)]))), (sk0, .inl (.inl (kA 1, 61, .inl y_sk0))), (sk1, .inl (.inl (kA 1, 61, .inl y_sk1))), (sk2, .inl (.inl (kA 1, 61, .inl y_sk2))), (s, .inl (.inr (5, [.ref s0, .ref s1, .ref s2, .ref s3, .ref s4, .ref s5, .ref s6, .ref s7, .ref s8, .ref s9, .ref s10, .ref s11, .int (nI sn), .int (nI sl), .int (nI se)]))), (s1, .inl (.inl (kA 1, 6, .inl sc1))), (s7, .inl (.inl (kA 1, 10, .inl sc7))), (s8, .inr (kA 6, kA 1, 10, 2, .inl sc8)), (g, .inl (.inr (3, [.ref g0, .ref g1, .ref g2, .ref g3, .ref g4, .ref g5, .ref g6, .ref g7, .int (nI gn), .int (nI gtm), .int (nI gms)]))), (g0, .inl (.inl (kA 1, 6, .inl gtk))), (g1, .inr (kA 6, kA 1, 6, 2, .inl gaf)), (g2, .inr (kA 6, kA 1, 6, 60, .inl gco)), (g3, .inr (kA 7, kA 2, 8, 61, .inr gwy)), (v, .inl (.inr (4, [.ref v0, .ref v1, .ref v2, .ref v3, .int vbk]))), (v0, .inr (kA 6, kA 1, 10, 45, .inl vls)), (v1, .inl (.inl (kA 1, 6, .inl vss))), (v2, .inl (.inl (kA 1, 60, .inl y_v2))), (v3, .inl (.inl (kA 2, 2, .inr (.inl y_v3))))]) := by
  refine nx_startV (by decide +kernel) (Nat.le_of_ble_eq_true rfl) ?_
  intro x hnm h hq
  have h : Ok x cX7_goOn RX7 kA (rmC 5 0 0) 6 := h
  show J x (mflat [(sk, .inl (.inr (7, [.ref sk0, .ref sk1, .ref sk2, .int (nI skz)]))), (sk0, .inl (.inl (kA 1, 61, .inl skw))), (sk1, .inl (.inl (kA 1, 61, .inl skb))), (sk2, .inl (.inl (kA 1, 61, .inl skf))), (s, .inl (.inr (5, [.ref s0, .ref s1, .ref s2, .ref s3, .ref s4, .ref s5, .ref s6, .ref s7, .ref s8, .ref s9, .ref s10, .ref s11, .int (nI sn), .int (nI sl), .int (nI se)]))), (s1, .inl (.inl (kA 1, 6, .inl sc1))), (s7, .inl (.inl (kA 1, 10, .inl sc7))), (s8, .inr (kA 6, kA 1, 10, 2, .inl sc8)), (g, .inl (.inr (3, [.ref g0, .ref g1, .ref g2, .ref g3, .ref g4, .ref g5, .ref g6, .ref g7, .int (nI gn), .int (nI gtm), .int (nI gms)]))), (g0, .inl (.inl (kA 1, 6, .inl gtk))), (g1, .inr (kA 6, kA 1, 6, 2, .inl gaf)), (g2, .inr (kA 6, kA 1, 6, 60, .inl gco)), (g3, .inr (kA 7, kA 2, 8, 61, .inr gwy)), (v, .inl (.inr (4, [.ref v0, .ref v1, .ref v2, .ref v3, .int vbk]))), (v0, .inr (kA 6, kA 1, 10, 45, .inl vls)), (v1, .inl (.inl (kA 1, 6, .inl vss))), (v2, .inl (.inl (kA 1, 60, .inl vhs))), (v3, .inl (.inl (kA 2, 2, .inr (.inl vrd))))]) [(0, .ref sk), (1, .ref s), (2, .ref g), (3, .ref v)] 0 0 0 []
  refine j_aload_n h 0 rfl rfl dX7_goOn_0 ?_
  refine jm_get h iw_X7 0 rfl rfl 1 (by decide +kernel) tw_444 rfl dX7_goOn_1 ?_
  refine j_aload_n h 0 rfl rfl dX7_goOn_4 ?_
  refine jm_get h iw_X7 0 rfl rfl 3 (by decide +kernel) tw_446 rfl dX7_goOn_5 ?_
  refine jm_iald h 2 rfl skz rfl (by omega) (by omega) dX7_goOn_8 ?_
  obtain ⟨t3814, u3815, u3816⟩ := (show RoOk (gtm + 1) (skz + 1) skb by assumption) skz (by omega)
  refine j_top (b := nI t3814) (u3816) ?_
  refine j_istore (lv' := [(4, .int (nI t3814)), (0, .ref sk), (1, .ref s), (2, .ref g), (3, .ref v)]) h dX7_goOn_9 (by decide) rfl ?_
  refine j_aload_n h 3 rfl rfl dX7_goOn_11 ?_
  refine j_aload_n h 1 rfl rfl dX7_goOn_12 ?_
  refine jm_get h iw_X7 0 rfl rfl 0 (by decide +kernel) tw_443 rfl dX7_goOn_13 ?_
  refine j_aload_n h 1 rfl rfl dX7_goOn_16 ?_
  refine jm_get h iw_X7 0 rfl rfl 3 (by decide +kernel) tw_446 rfl dX7_goOn_17 ?_
  refine jm_iald h 1 rfl skz rfl (by omega) (by omega) dX7_goOn_20 ?_
  obtain ⟨t3817, u3818, u3819⟩ := (show WkOk (skz + 1) skw by assumption) skz (by omega)
  refine j_top (b := pm t3817) (u3819) ?_
  refine j_iconst (v := 1) h (by decide) dX7_goOn_21 ?_
  rcases t3817 with _ | j3820
  · show J x (mflat [(sk, .inl (.inr (7, [.ref sk0, .ref sk1, .ref sk2, .int (nI skz)]))), (sk0, .inl (.inl (kA 1, 61, .inl skw))), (sk1, .inl (.inl (kA 1, 61, .inl skb))), (sk2, .inl (.inl (kA 1, 61, .inl skf))), (s, .inl (.inr (5, [.ref s0, .ref s1, .ref s2, .ref s3, .ref s4, .ref s5, .ref s6, .ref s7, .ref s8, .ref s9, .ref s10, .ref s11, .int (nI sn), .int (nI sl), .int (nI se)]))), (s1, .inl (.inl (kA 1, 6, .inl sc1))), (s7, .inl (.inl (kA 1, 10, .inl sc7))), (s8, .inr (kA 6, kA 1, 10, 2, .inl sc8)), (g, .inl (.inr (3, [.ref g0, .ref g1, .ref g2, .ref g3, .ref g4, .ref g5, .ref g6, .ref g7, .int (nI gn), .int (nI gtm), .int (nI gms)]))), (g0, .inl (.inl (kA 1, 6, .inl gtk))), (g1, .inr (kA 6, kA 1, 6, 2, .inl gaf)), (g2, .inr (kA 6, kA 1, 6, 60, .inl gco)), (g3, .inr (kA 7, kA 2, 8, 61, .inr gwy)), (v, .inl (.inr (4, [.ref v0, .ref v1, .ref v2, .ref v3, .int vbk]))), (v0, .inr (kA 6, kA 1, 10, 45, .inl vls)), (v1, .inl (.inl (kA 1, 6, .inl vss))), (v2, .inl (.inl (kA 1, 60, .inl vhs))), (v3, .inl (.inl (kA 2, 2, .inr (.inl vrd))))]) [(4, .int (nI t3814)), (0, .ref sk), (1, .ref s), (2, .ref g), (3, .ref v)] 0 0 22 [.int 1, .int (-1), .ref g]
    refine j_iadd h dX7_goOn_22 ?_
    refine j_top (b := 0) (by decide) ?_
    refine j_iload h 0 rfl dX7_goOn_23 ?_
    refine j_aload_n h 1 rfl rfl dX7_goOn_25 ?_
    refine jm_get h iw_X7 0 rfl rfl 2 (by decide +kernel) tw_445 rfl dX7_goOn_26 ?_
    refine j_aload_n h 1 rfl rfl dX7_goOn_29 ?_
    refine jm_get h iw_X7 0 rfl rfl 3 (by decide +kernel) tw_446 rfl dX7_goOn_30 ?_
    refine jm_iald h 3 rfl skz rfl (by omega) (by omega) dX7_goOn_33 ?_
    obtain ⟨t3821, u3822, u3823⟩ := (show RoOk 2 (skz + 1) skf by assumption) skz (by omega)
    refine j_top (b := nI t3821) (u3823) ?_
    refine j_iconst (v := 0) h (by decide) dX7_goOn_34 ?_
    refine jm_callVi (np := 4) (isC := [8, 9, 10, 11, 12]) (isR := [0, 1, 2, 3, 4, 5, 6, 7, 13, 14, 15, 16, 17]) (wc := [(g, .inl (.inr (3, [.ref g0, .ref g1, .ref g2, .ref g3, .ref g4, .ref g5, .ref g6, .ref g7, .int (nI gn), .int (nI gtm), .int (nI gms)]))), (g0, .inl (.inl (kA 1, 6, .inl gtk))), (g1, .inr (kA 6, kA 1, 6, 2, .inl gaf)), (g2, .inr (kA 6, kA 1, 6, 60, .inl gco)), (g3, .inr (kA 7, kA 2, 8, 61, .inr gwy))]) (wr := [(sk, .inl (.inr (7, [.ref sk0, .ref sk1, .ref sk2, .int (nI skz)]))), (sk0, .inl (.inl (kA 1, 61, .inl skw))), (sk1, .inl (.inl (kA 1, 61, .inl skb))), (sk2, .inl (.inl (kA 1, 61, .inl skf))), (s, .inl (.inr (5, [.ref s0, .ref s1, .ref s2, .ref s3, .ref s4, .ref s5, .ref s6, .ref s7, .ref s8, .ref s9, .ref s10, .ref s11, .int (nI sn), .int (nI sl), .int (nI se)]))), (s1, .inl (.inl (kA 1, 6, .inl sc1))), (s7, .inl (.inl (kA 1, 10, .inl sc7))), (s8, .inr (kA 6, kA 1, 10, 2, .inl sc8)), (v, .inl (.inr (4, [.ref v0, .ref v1, .ref v2, .ref v3, .int vbk]))), (v0, .inr (kA 6, kA 1, 10, 45, .inl vls)), (v1, .inl (.inl (kA 1, 6, .inl vss))), (v2, .inl (.inl (kA 1, 60, .inl vhs))), (v3, .inl (.inl (kA 2, 2, .inr (.inl vrd))))]) (rest := []) (As := [.int 0, .int (nI t3814), .int (nI t3821), .int 0]) (q0 := 0) h (s_X3_itemFrom _ _ kA g 0 t3814 t3821 0 g0 g1 g2 g3 g4 g5 g6 g7 gn gtm gms 6 gtk gaf gco gwy (show 6 ≤ 10 by first | assumption | omega) (show gn ≤ 6 by first | assumption | omega) (show gtm ≤ 60 by first | assumption | omega) (show LtOk gn gtk by first | assumption | omega) (show FtOk gn gaf by first | assumption | omega) (show CoOk gn gtm gtk gco by first | assumption | omega) (show t3821 ≤ 1 by first | assumption | omega) (show 0 ≤ 3 by first | assumption | omega) (show 0 ≤ 100 by first | assumption | omega) (show t3814 ≤ 60 by first | assumption | omega)) tw_995 tw_888 tw_889 tw_95 tw_890 (by decide +kernel) rfl ⟨Nat.le_of_ble_eq_true rfl, Nat.le_of_ble_eq_true rfl⟩ rfl rfl (by decide +kernel) rfl rfl (by decide +kernel) (by decide +kernel) (Nat.le_of_ble_eq_true rfl) rfl ⟨Nat.le_of_ble_eq_true rfl, Nat.le_of_ble_eq_true rfl⟩ dX7_goOn_35 ?_
    rintro r3826 q3824 e3825
    obtain ⟨p3827, p3828, p3829⟩ := e3825
    subst p3827
    replace p3828 : q3824 ≤ gn := p3828
    replace p3829 : ∀ i, q3824 = i + 1 → i < gn ∧ GoOk gtk gaf gco gtm i t3814 t3821 0 := p3829
    show J x (mflat [(sk, .inl (.inr (7, [.ref sk0, .ref sk1, .ref sk2, .int (nI skz)]))), (sk0, .inl (.inl (kA 1, 61, .inl skw))), (sk1, .inl (.inl (kA 1, 61, .inl skb))), (sk2, .inl (.inl (kA 1, 61, .inl skf))), (s, .inl (.inr (5, [.ref s0, .ref s1, .ref s2, .ref s3, .ref s4, .ref s5, .ref s6, .ref s7, .ref s8, .ref s9, .ref s10, .ref s11, .int (nI sn), .int (nI sl), .int (nI se)]))), (s1, .inl (.inl (kA 1, 6, .inl sc1))), (s7, .inl (.inl (kA 1, 10, .inl sc7))), (s8, .inr (kA 6, kA 1, 10, 2, .inl sc8)), (v, .inl (.inr (4, [.ref v0, .ref v1, .ref v2, .ref v3, .int vbk]))), (v0, .inr (kA 6, kA 1, 10, 45, .inl vls)), (v1, .inl (.inl (kA 1, 6, .inl vss))), (v2, .inl (.inl (kA 1, 60, .inl vhs))), (v3, .inl (.inl (kA 2, 2, .inr (.inl vrd)))), (g, .inl (.inr (3, [.ref g0, .ref g1, .ref g2, .ref g3, .ref g4, .ref g5, .ref g6, .ref g7, .int (nI gn), .int (nI gtm), .int (nI gms)]))), (g0, .inl (.inl (kA 1, 6, .inl gtk))), (g1, .inr (kA 6, kA 1, 6, 2, .inl gaf)), (g2, .inr (kA 6, kA 1, 6, 60, .inl gco)), (g3, .inr (kA 7, kA 2, 8, 61, .inr gwy))]) [(4, .int (nI t3814)), (0, .ref sk), (1, .ref s), (2, .ref g), (3, .ref v)] 0 0 38 [.int (pm q3824)]
    refine j_istore (lv' := [(5, .int (pm q3824)), (4, .int (nI t3814)), (0, .ref sk), (1, .ref s), (2, .ref g), (3, .ref v)]) h dX7_goOn_38 (by decide) rfl ?_
    refine j_iload h 0 rfl dX7_goOn_40 ?_
    refine j_iconst (v := (-1)) h (by decide) dX7_goOn_42 ?_
    rcases q3824 with _ | j3830
    · show J x (mflat [(sk, .inl (.inr (7, [.ref sk0, .ref sk1, .ref sk2, .int (nI skz)]))), (sk0, .inl (.inl (kA 1, 61, .inl skw))), (sk1, .inl (.inl (kA 1, 61, .inl skb))), (sk2, .inl (.inl (kA 1, 61, .inl skf))), (s, .inl (.inr (5, [.ref s0, .ref s1, .ref s2, .ref s3, .ref s4, .ref s5, .ref s6, .ref s7, .ref s8, .ref s9, .ref s10, .ref s11, .int (nI sn), .int (nI sl), .int (nI se)]))), (s1, .inl (.inl (kA 1, 6, .inl sc1))), (s7, .inl (.inl (kA 1, 10, .inl sc7))), (s8, .inr (kA 6, kA 1, 10, 2, .inl sc8)), (v, .inl (.inr (4, [.ref v0, .ref v1, .ref v2, .ref v3, .int vbk]))), (v0, .inr (kA 6, kA 1, 10, 45, .inl vls)), (v1, .inl (.inl (kA 1, 6, .inl vss))), (v2, .inl (.inl (kA 1, 60, .inl vhs))), (v3, .inl (.inl (kA 2, 2, .inr (.inl vrd)))), (g, .inl (.inr (3, [.ref g0, .ref g1, .ref g2, .ref g3, .ref g4, .ref g5, .ref g6, .ref g7, .int (nI gn), .int (nI gtm), .int (nI gms)]))), (g0, .inl (.inl (kA 1, 6, .inl gtk))), (g1, .inr (kA 6, kA 1, 6, 2, .inl gaf)), (g2, .inr (kA 6, kA 1, 6, 60, .inl gco)), (g3, .inr (kA 7, kA 2, 8, 61, .inr gwy))]) [(5, .int (-1)), (4, .int (nI t3814)), (0, .ref sk), (1, .ref s), (2, .ref g), (3, .ref v)] 0 0 43 [.int (-1), .int (-1)]
      refine j_icmp_eq h 55 dX7_goOn_43 (by decide) (fun _ => ?_) (fun q => absurd (by decide) q)
      refine j_aload_n h 2 rfl rfl dX7_goOn_55 ?_
      refine j_dup h rfl dX7_goOn_56 ?_
      refine jm_get h iw_X7 0 rfl rfl 3 (by decide +kernel) tw_446 rfl dX7_goOn_57 ?_
      refine j_iconst (v := 1) h (by decide) dX7_goOn_60 ?_
      refine j_isub h dX7_goOn_61 ?_
      obtain ⟨y3831, hy3832⟩ : ∃ y9, y9 = skz := ⟨_, rfl⟩
      refine j_top (b := pm y3831) (by rw [hy3832]; exact pm_sub skz) ?_
      refine jm_put (w' := [(sk, .inl (.inr (7, [.ref sk0, .ref sk1, .ref sk2, .int (pm y3831)]))), (sk0, .inl (.inl (kA 1, 61, .inl skw))), (sk1, .inl (.inl (kA 1, 61, .inl skb))), (sk2, .inl (.inl (kA 1, 61, .inl skf))), (s, .inl (.inr (5, [.ref s0, .ref s1, .ref s2, .ref s3, .ref s4, .ref s5, .ref s6, .ref s7, .ref s8, .ref s9, .ref s10, .ref s11, .int (nI sn), .int (nI sl), .int (nI se)]))), (s1, .inl (.inl (kA 1, 6, .inl sc1))), (s7, .inl (.inl (kA 1, 10, .inl sc7))), (s8, .inr (kA 6, kA 1, 10, 2, .inl sc8)), (v, .inl (.inr (4, [.ref v0, .ref v1, .ref v2, .ref v3, .int vbk]))), (v0, .inr (kA 6, kA 1, 10, 45, .inl vls)), (v1, .inl (.inl (kA 1, 6, .inl vss))), (v2, .inl (.inl (kA 1, 60, .inl vhs))), (v3, .inl (.inl (kA 2, 2, .inr (.inl vrd)))), (g, .inl (.inr (3, [.ref g0, .ref g1, .ref g2, .ref g3, .ref g4, .ref g5, .ref g6, .ref g7, .int (nI gn), .int (nI gtm), .int (nI gms)]))), (g0, .inl (.inl (kA 1, 6, .inl gtk))), (g1, .inr (kA 6, kA 1, 6, 2, .inl gaf)), (g2, .inr (kA 6, kA 1, 6, 60, .inl gco)), (g3, .inr (kA 7, kA 2, 8, 61, .inr gwy))]) h iw_X7 tyX7 tyX7_ok nmX7 0 rfl rfl 3 (by decide +kernel) tw_446 rfl rfl rfl (Nat.le_of_ble_eq_true rfl) dX7_goOn_62 rfl ?_
      exact jm_vret h hq dX7_goOn_65 (y3831, skw, skb, skf, vhs, vrd) [0, 1, 2, 3, 4, 5, 6, 7, 13, 14, 15, 16, 17, 8, 9, 10, 11, 12] rfl (by decide) ⟨(show y3831 ≤ 61 by first | assumption | omega), (show RoOk (gtm + 1) y3831 skb by first | assumption | exact RoOk_mono (by assumption) (by omega) | exact RoOk_step (by assumption) (by omega) | omega), (show RoOk 2 y3831 skf by first | assumption | exact RoOk_mono (by assumption) (by omega) | exact RoOk_step (by assumption) (by omega) | omega), (show WkOk y3831 skw by first | assumption | exact WkOk_mono (by assumption) (by omega) | exact WkOk_step (by assumption) (by omega) | omega)⟩ (Nat.le_of_ble_eq_true rfl) (Nat.le_of_ble_eq_true rfl)
    · show J x (mflat [(sk, .inl (.inr (7, [.ref sk0, .ref sk1, .ref sk2, .int (nI skz)]))), (sk0, .inl (.inl (kA 1, 61, .inl skw))), (sk1, .inl (.inl (kA 1, 61, .inl skb))), (sk2, .inl (.inl (kA 1, 61, .inl skf))), (s, .inl (.inr (5, [.ref s0, .ref s1, .ref s2, .ref s3, .ref s4, .ref s5, .ref s6, .ref s7, .ref s8, .ref s9, .ref s10, .ref s11, .int (nI sn), .int (nI sl), .int (nI se)]))), (s1, .inl (.inl (kA 1, 6, .inl sc1))), (s7, .inl (.inl (kA 1, 10, .inl sc7))), (s8, .inr (kA 6, kA 1, 10, 2, .inl sc8)), (v, .inl (.inr (4, [.ref v0, .ref v1, .ref v2, .ref v3, .int vbk]))), (v0, .inr (kA 6, kA 1, 10, 45, .inl vls)), (v1, .inl (.inl (kA 1, 6, .inl vss))), (v2, .inl (.inl (kA 1, 60, .inl vhs))), (v3, .inl (.inl (kA 2, 2, .inr (.inl vrd)))), (g, .inl (.inr (3, [.ref g0, .ref g1, .ref g2, .ref g3, .ref g4, .ref g5, .ref g6, .ref g7, .int (nI gn), .int (nI gtm), .int (nI gms)]))), (g0, .inl (.inl (kA 1, 6, .inl gtk))), (g1, .inr (kA 6, kA 1, 6, 2, .inl gaf)), (g2, .inr (kA 6, kA 1, 6, 60, .inl gco)), (g3, .inr (kA 7, kA 2, 8, 61, .inr gwy))]) [(5, .int (nI j3830)), (4, .int (nI t3814)), (0, .ref sk), (1, .ref s), (2, .ref g), (3, .ref v)] 0 0 43 [.int (-1), .int (nI j3830)]
      refine j_icmp_eq h 55 dX7_goOn_43 (by decide) (fun q => absurd q (nI_m1 (by omega))) (fun _ => ?_)
      refine j_aload_n h 2 rfl rfl dX7_goOn_46 ?_
      refine jm_get h iw_X7 0 rfl rfl 3 (by decide +kernel) tw_446 rfl dX7_goOn_47 ?_
      refine j_bipush (v := 60) h (by decide) dX7_goOn_50 ?_
      refine j_icmp_lt h 66 dX7_goOn_52 (by decide) (fun z3833 => ?_) (fun z3833 => ?_)
      · have z3833n : skz < 60 := (nI_ltI (a := skz) (b := 60) (by omega) (by omega)).mp z3833
        obtain ⟨u3837, t3834, t3835, t3836, u3838, u3839, u3840, u3841, u3842, u3843, u3844, u3845⟩ := p3829 j3830 rfl
        refine j_aload_n h 5 rfl rfl dX7_goOn_66 ?_
        refine j_aload_n h 3 rfl rfl dX7_goOn_67 ?_
        refine j_iload h 0 rfl dX7_goOn_68 ?_
        refine j_iload h 1 rfl dX7_goOn_70 ?_
        refine jm_callVv (np := 3) (isC := [8, 9, 10, 11, 12, 4, 5, 6, 7]) (isR := [0, 1, 2, 3, 13, 14, 15, 16, 17]) (wc := [(v, .inl (.inr (4, [.ref v0, .ref v1, .ref v2, .ref v3, .int vbk]))), (v0, .inr (kA 6, kA 1, 10, 45, .inl vls)), (v1, .inl (.inl (kA 1, 6, .inl vss))), (v2, .inl (.inl (kA 1, 60, .inl vhs))), (v3, .inl (.inl (kA 2, 2, .inr (.inl vrd)))), (s, .inl (.inr (5, [.ref s0, .ref s1, .ref s2, .ref s3, .ref s4, .ref s5, .ref s6, .ref s7, .ref s8, .ref s9, .ref s10, .ref s11, .int (nI sn), .int (nI sl), .int (nI se)]))), (s1, .inl (.inl (kA 1, 6, .inl sc1))), (s7, .inl (.inl (kA 1, 10, .inl sc7))), (s8, .inr (kA 6, kA 1, 10, 2, .inl sc8))]) (wr := [(sk, .inl (.inr (7, [.ref sk0, .ref sk1, .ref sk2, .int (nI skz)]))), (sk0, .inl (.inl (kA 1, 61, .inl skw))), (sk1, .inl (.inl (kA 1, 61, .inl skb))), (sk2, .inl (.inl (kA 1, 61, .inl skf))), (g, .inl (.inr (3, [.ref g0, .ref g1, .ref g2, .ref g3, .ref g4, .ref g5, .ref g6, .ref g7, .int (nI gn), .int (nI gtm), .int (nI gms)]))), (g0, .inl (.inl (kA 1, 6, .inl gtk))), (g1, .inr (kA 6, kA 1, 6, 2, .inl gaf)), (g2, .inr (kA 6, kA 1, 6, 60, .inl gco)), (g3, .inr (kA 7, kA 2, 8, 61, .inr gwy))]) (rest := []) (As := [.ref s, .int (nI j3830), .int (nI t3814)]) (q0 := 0) h (s_X4_hearStep _ _ kA v s j3830 t3814 v0 v1 v2 v3 vbk vls vss vhs vrd s0 s1 s2 s3 s4 s5 s6 s7 s8 s9 s10 s11 sn sl se sc1 sc7 sc8 (show sn ≤ 6 by first | assumption | omega) (show sl ≤ 10 by first | assumption | omega) (show se ≤ 4 by first | assumption | omega) (show TkOk sn sc1 by first | assumption | omega) (show LtOk sl sc7 by first | assumption | omega) (show FtOk sl sc8 by first | assumption | omega) (show j3830 < sn by first | assumption | omega) (show t3814 ≤ 60 by first | assumption | omega)) tw_996 tw_997 tw_998 tw_96 tw_999 (by decide +kernel) rfl ⟨Nat.le_of_ble_eq_true rfl, Nat.le_of_ble_eq_true rfl⟩ rfl rfl (by decide +kernel) rfl rfl (by decide +kernel) (by decide +kernel) (Nat.le_of_ble_eq_true rfl) rfl ⟨Nat.le_of_ble_eq_true rfl, Nat.le_of_ble_eq_true rfl⟩ dX7_goOn_72 ?_
        rintro ⟨q3846, q3847⟩ e3848
        show J x (mflat [(sk, .inl (.inr (7, [.ref sk0, .ref sk1, .ref sk2, .int (nI skz)]))), (sk0, .inl (.inl (kA 1, 61, .inl skw))), (sk1, .inl (.inl (kA 1, 61, .inl skb))), (sk2, .inl (.inl (kA 1, 61, .inl skf))), (g, .inl (.inr (3, [.ref g0, .ref g1, .ref g2, .ref g3, .ref g4, .ref g5, .ref g6, .ref g7, .int (nI gn), .int (nI gtm), .int (nI gms)]))), (g0, .inl (.inl (kA 1, 6, .inl gtk))), (g1, .inr (kA 6, kA 1, 6, 2, .inl gaf)), (g2, .inr (kA 6, kA 1, 6, 60, .inl gco)), (g3, .inr (kA 7, kA 2, 8, 61, .inr gwy)), (v, .inl (.inr (4, [.ref v0, .ref v1, .ref v2, .ref v3, .int vbk]))), (v0, .inr (kA 6, kA 1, 10, 45, .inl vls)), (v1, .inl (.inl (kA 1, 6, .inl vss))), (v2, .inl (.inl (kA 1, 60, .inl q3846))), (v3, .inl (.inl (kA 2, 2, .inr (.inl q3847)))), (s, .inl (.inr (5, [.ref s0, .ref s1, .ref s2, .ref s3, .ref s4, .ref s5, .ref s6, .ref s7, .ref s8, .ref s9, .ref s10, .ref s11, .int (nI sn), .int (nI sl), .int (nI se)]))), (s1, .inl (.inl (kA 1, 6, .inl sc1))), (s7, .inl (.inl (kA 1, 10, .inl sc7))), (s8, .inr (kA 6, kA 1, 10, 2, .inl sc8))]) [(5, .int (nI j3830)), (4, .int (nI t3814)), (0, .ref sk), (1, .ref s), (2, .ref g), (3, .ref v)] 0 0 75 []
        refine j_aload_n h 2 rfl rfl dX7_goOn_75 ?_
        refine jm_get h iw_X7 0 rfl rfl 0 (by decide +kernel) tw_443 rfl dX7_goOn_76 ?_
        refine j_aload_n h 2 rfl rfl dX7_goOn_79 ?_
        refine jm_get h iw_X7 0 rfl rfl 3 (by decide +kernel) tw_446 rfl dX7_goOn_80 ?_
        refine j_iload h 0 rfl dX7_goOn_83 ?_
        refine jm_iast (w' := [(sk, .inl (.inr (7, [.ref sk0, .ref sk1, .ref sk2, .int (nI skz)]))), (sk0, .inl (.inl (kA 1, 61, .inl (upd skw skz (nI j3830))))), (sk1, .inl (.inl (kA 1, 61, .inl skb))), (sk2, .inl (.inl (kA 1, 61, .inl skf))), (g, .inl (.inr (3, [.ref g0, .ref g1, .ref g2, .ref g3, .ref g4, .ref g5, .ref g6, .ref g7, .int (nI gn), .int (nI gtm), .int (nI gms)]))), (g0, .inl (.inl (kA 1, 6, .inl gtk))), (g1, .inr (kA 6, kA 1, 6, 2, .inl gaf)), (g2, .inr (kA 6, kA 1, 6, 60, .inl gco)), (g3, .inr (kA 7, kA 2, 8, 61, .inr gwy)), (v, .inl (.inr (4, [.ref v0, .ref v1, .ref v2, .ref v3, .int vbk]))), (v0, .inr (kA 6, kA 1, 10, 45, .inl vls)), (v1, .inl (.inl (kA 1, 6, .inl vss))), (v2, .inl (.inl (kA 1, 60, .inl q3846))), (v3, .inl (.inl (kA 2, 2, .inr (.inl q3847)))), (s, .inl (.inr (5, [.ref s0, .ref s1, .ref s2, .ref s3, .ref s4, .ref s5, .ref s6, .ref s7, .ref s8, .ref s9, .ref s10, .ref s11, .int (nI sn), .int (nI sl), .int (nI se)]))), (s1, .inl (.inl (kA 1, 6, .inl sc1))), (s7, .inl (.inl (kA 1, 10, .inl sc7))), (s8, .inr (kA 6, kA 1, 10, 2, .inl sc8))]) h 1 rfl skz rfl (by omega) (by omega) dX7_goOn_85 rfl ?_
        refine j_aload_n h 2 rfl rfl dX7_goOn_86 ?_
        refine jm_get h iw_X7 0 rfl rfl 1 (by decide +kernel) tw_444 rfl dX7_goOn_87 ?_
        refine j_aload_n h 2 rfl rfl dX7_goOn_90 ?_
        refine jm_get h iw_X7 0 rfl rfl 3 (by decide +kernel) tw_446 rfl dX7_goOn_91 ?_
        refine j_iconst (v := 1) h (by decide) dX7_goOn_94 ?_
        refine j_iadd h dX7_goOn_95 ?_
        refine j_top (b := nI (skz + 1)) (nI_add skz 1) ?_
        refine j_iload h 1 rfl dX7_goOn_96 ?_
        refine j_aload_n h 4 rfl rfl dX7_goOn_98 ?_
        refine jm_get h iw_X3 4 rfl rfl 0 (by decide +kernel) tw_378 rfl dX7_goOn_99 ?_
        refine j_iload h 0 rfl dX7_goOn_102 ?_
        refine jm_iald h 5 rfl j3830 rfl (by omega) (by omega) dX7_goOn_104 ?_
        refine j_top (b := nI t3835) (u3842) ?_
        refine j_iadd h dX7_goOn_105 ?_
        refine j_top (b := nI (t3814 + t3835)) (nI_add t3814 t3835) ?_
        refine jm_iast (w' := [(sk, .inl (.inr (7, [.ref sk0, .ref sk1, .ref sk2, .int (nI skz)]))), (sk0, .inl (.inl (kA 1, 61, .inl (upd skw skz (nI j3830))))), (sk1, .inl (.inl (kA 1, 61, .inl (upd skb (skz + 1) (nI (t3814 + t3835)))))), (sk2, .inl (.inl (kA 1, 61, .inl skf))), (g, .inl (.inr (3, [.ref g0, .ref g1, .ref g2, .ref g3, .ref g4, .ref g5, .ref g6, .ref g7, .int (nI gn), .int (nI gtm), .int (nI gms)]))), (g0, .inl (.inl (kA 1, 6, .inl gtk))), (g1, .inr (kA 6, kA 1, 6, 2, .inl gaf)), (g2, .inr (kA 6, kA 1, 6, 60, .inl gco)), (g3, .inr (kA 7, kA 2, 8, 61, .inr gwy)), (v, .inl (.inr (4, [.ref v0, .ref v1, .ref v2, .ref v3, .int vbk]))), (v0, .inr (kA 6, kA 1, 10, 45, .inl vls)), (v1, .inl (.inl (kA 1, 6, .inl vss))), (v2, .inl (.inl (kA 1, 60, .inl q3846))), (v3, .inl (.inl (kA 2, 2, .inr (.inl q3847)))), (s, .inl (.inr (5, [.ref s0, .ref s1, .ref s2, .ref s3, .ref s4, .ref s5, .ref s6, .ref s7, .ref s8, .ref s9, .ref s10, .ref s11, .int (nI sn), .int (nI sl), .int (nI se)]))), (s1, .inl (.inl (kA 1, 6, .inl sc1))), (s7, .inl (.inl (kA 1, 10, .inl sc7))), (s8, .inr (kA 6, kA 1, 10, 2, .inl sc8))]) h 2 rfl (skz + 1) rfl (by omega) (by omega) dX7_goOn_106 rfl ?_
        refine j_aload_n h 2 rfl rfl dX7_goOn_107 ?_
        refine jm_get h iw_X7 0 rfl rfl 2 (by decide +kernel) tw_445 rfl dX7_goOn_108 ?_
        refine j_aload_n h 2 rfl rfl dX7_goOn_111 ?_
        refine jm_get h iw_X7 0 rfl rfl 3 (by decide +kernel) tw_446 rfl dX7_goOn_112 ?_
        refine j_iconst (v := 1) h (by decide) dX7_goOn_115 ?_
        refine j_iadd h dX7_goOn_116 ?_
        refine j_top (b := nI (skz + 1)) (nI_add skz 1) ?_
        refine j_aload_n h 4 rfl rfl dX7_goOn_117 ?_
        refine jm_get h iw_X3 4 rfl rfl 1 (by decide +kernel) tw_380 rfl dX7_goOn_118 ?_
        refine j_iload h 0 rfl dX7_goOn_121 ?_
        refine jm_gout h 6 6 rfl rfl j3830 rfl (by omega) (by omega) dX7_goOn_123 ?_
        refine j_aload_n h 2 rfl rfl dX7_goOn_124 ?_
        refine jm_get h iw_X7 0 rfl rfl 2 (by decide +kernel) tw_445 rfl dX7_goOn_125 ?_
        refine j_aload_n h 2 rfl rfl dX7_goOn_128 ?_
        refine jm_get h iw_X7 0 rfl rfl 3 (by decide +kernel) tw_446 rfl dX7_goOn_129 ?_
        refine jm_iald h 3 rfl skz rfl (by omega) (by omega) dX7_goOn_132 ?_
        refine j_top (b := nI t3821) (u3823) ?_
        refine jm_gald h 6 rfl j3830 (by omega) t3821 rfl (by omega) (by omega) dX7_goOn_133 ?_
        refine j_top (b := nI t3834) (u3839) ?_
        refine jm_iast (w' := [(sk, .inl (.inr (7, [.ref sk0, .ref sk1, .ref sk2, .int (nI skz)]))), (sk0, .inl (.inl (kA 1, 61, .inl (upd skw skz (nI j3830))))), (sk1, .inl (.inl (kA 1, 61, .inl (upd skb (skz + 1) (nI (t3814 + t3835)))))), (sk2, .inl (.inl (kA 1, 61, .inl (upd skf (skz + 1) (nI t3834))))), (g, .inl (.inr (3, [.ref g0, .ref g1, .ref g2, .ref g3, .ref g4, .ref g5, .ref g6, .ref g7, .int (nI gn), .int (nI gtm), .int (nI gms)]))), (g0, .inl (.inl (kA 1, 6, .inl gtk))), (g1, .inr (kA 6, kA 1, 6, 2, .inl gaf)), (g2, .inr (kA 6, kA 1, 6, 60, .inl gco)), (g3, .inr (kA 7, kA 2, 8, 61, .inr gwy)), (v, .inl (.inr (4, [.ref v0, .ref v1, .ref v2, .ref v3, .int vbk]))), (v0, .inr (kA 6, kA 1, 10, 45, .inl vls)), (v1, .inl (.inl (kA 1, 6, .inl vss))), (v2, .inl (.inl (kA 1, 60, .inl q3846))), (v3, .inl (.inl (kA 2, 2, .inr (.inl q3847)))), (s, .inl (.inr (5, [.ref s0, .ref s1, .ref s2, .ref s3, .ref s4, .ref s5, .ref s6, .ref s7, .ref s8, .ref s9, .ref s10, .ref s11, .int (nI sn), .int (nI sl), .int (nI se)]))), (s1, .inl (.inl (kA 1, 6, .inl sc1))), (s7, .inl (.inl (kA 1, 10, .inl sc7))), (s8, .inr (kA 6, kA 1, 10, 2, .inl sc8))]) h 3 rfl (skz + 1) rfl (by omega) (by omega) dX7_goOn_134 rfl ?_
        refine j_aload_n h 2 rfl rfl dX7_goOn_135 ?_
        refine jm_get h iw_X7 0 rfl rfl 0 (by decide +kernel) tw_443 rfl dX7_goOn_136 ?_
        refine j_aload_n h 2 rfl rfl dX7_goOn_139 ?_
        refine jm_get h iw_X7 0 rfl rfl 3 (by decide +kernel) tw_446 rfl dX7_goOn_140 ?_
        refine j_iconst (v := 1) h (by decide) dX7_goOn_143 ?_
        refine j_iadd h dX7_goOn_144 ?_
        refine j_top (b := nI (skz + 1)) (nI_add skz 1) ?_
        refine j_iconst (v := (-1)) h (by decide) dX7_goOn_145 ?_
        refine jm_iast (w' := [(sk, .inl (.inr (7, [.ref sk0, .ref sk1, .ref sk2, .int (nI skz)]))), (sk0, .inl (.inl (kA 1, 61, .inl (upd (upd skw skz (nI j3830)) (skz + 1) (-1))))), (sk1, .inl (.inl (kA 1, 61, .inl (upd skb (skz + 1) (nI (t3814 + t3835)))))), (sk2, .inl (.inl (kA 1, 61, .inl (upd skf (skz + 1) (nI t3834))))), (g, .inl (.inr (3, [.ref g0, .ref g1, .ref g2, .ref g3, .ref g4, .ref g5, .ref g6, .ref g7, .int (nI gn), .int (nI gtm), .int (nI gms)]))), (g0, .inl (.inl (kA 1, 6, .inl gtk))), (g1, .inr (kA 6, kA 1, 6, 2, .inl gaf)), (g2, .inr (kA 6, kA 1, 6, 60, .inl gco)), (g3, .inr (kA 7, kA 2, 8, 61, .inr gwy)), (v, .inl (.inr (4, [.ref v0, .ref v1, .ref v2, .ref v3, .int vbk]))), (v0, .inr (kA 6, kA 1, 10, 45, .inl vls)), (v1, .inl (.inl (kA 1, 6, .inl vss))), (v2, .inl (.inl (kA 1, 60, .inl q3846))), (v3, .inl (.inl (kA 2, 2, .inr (.inl q3847)))), (s, .inl (.inr (5, [.ref s0, .ref s1, .ref s2, .ref s3, .ref s4, .ref s5, .ref s6, .ref s7, .ref s8, .ref s9, .ref s10, .ref s11, .int (nI sn), .int (nI sl), .int (nI se)]))), (s1, .inl (.inl (kA 1, 6, .inl sc1))), (s7, .inl (.inl (kA 1, 10, .inl sc7))), (s8, .inr (kA 6, kA 1, 10, 2, .inl sc8))]) h 1 rfl (skz + 1) rfl (by omega) (by omega) dX7_goOn_146 rfl ?_
        refine j_aload_n h 2 rfl rfl dX7_goOn_147 ?_
        refine j_dup h rfl dX7_goOn_148 ?_
        refine jm_get h iw_X7 0 rfl rfl 3 (by decide +kernel) tw_446 rfl dX7_goOn_149 ?_
        refine j_iconst (v := 1) h (by decide) dX7_goOn_152 ?_
        refine j_iadd h dX7_goOn_153 ?_
        refine j_top (b := nI (skz + 1)) (nI_add skz 1) ?_
        refine jm_put (w' := [(sk, .inl (.inr (7, [.ref sk0, .ref sk1, .ref sk2, .int (nI (skz + 1))]))), (sk0, .inl (.inl (kA 1, 61, .inl (upd (upd skw skz (nI j3830)) (skz + 1) (-1))))), (sk1, .inl (.inl (kA 1, 61, .inl (upd skb (skz + 1) (nI (t3814 + t3835)))))), (sk2, .inl (.inl (kA 1, 61, .inl (upd skf (skz + 1) (nI t3834))))), (g, .inl (.inr (3, [.ref g0, .ref g1, .ref g2, .ref g3, .ref g4, .ref g5, .ref g6, .ref g7, .int (nI gn), .int (nI gtm), .int (nI gms)]))), (g0, .inl (.inl (kA 1, 6, .inl gtk))), (g1, .inr (kA 6, kA 1, 6, 2, .inl gaf)), (g2, .inr (kA 6, kA 1, 6, 60, .inl gco)), (g3, .inr (kA 7, kA 2, 8, 61, .inr gwy)), (v, .inl (.inr (4, [.ref v0, .ref v1, .ref v2, .ref v3, .int vbk]))), (v0, .inr (kA 6, kA 1, 10, 45, .inl vls)), (v1, .inl (.inl (kA 1, 6, .inl vss))), (v2, .inl (.inl (kA 1, 60, .inl q3846))), (v3, .inl (.inl (kA 2, 2, .inr (.inl q3847)))), (s, .inl (.inr (5, [.ref s0, .ref s1, .ref s2, .ref s3, .ref s4, .ref s5, .ref s6, .ref s7, .ref s8, .ref s9, .ref s10, .ref s11, .int (nI sn), .int (nI sl), .int (nI se)]))), (s1, .inl (.inl (kA 1, 6, .inl sc1))), (s7, .inl (.inl (kA 1, 10, .inl sc7))), (s8, .inr (kA 6, kA 1, 10, 2, .inl sc8))]) h iw_X7 tyX7 tyX7_ok nmX7 0 rfl rfl 3 (by decide +kernel) tw_446 rfl rfl rfl (Nat.le_of_ble_eq_true rfl) dX7_goOn_154 rfl ?_
        exact jm_vret h hq dX7_goOn_157 (((skz + 1) + 1), (upd (upd skw skz (nI j3830)) (skz + 1) (-1)), (upd skb (skz + 1) (nI (t3814 + t3835))), (upd skf (skz + 1) (nI t3834)), q3846, q3847) [0, 1, 2, 3, 14, 15, 16, 17, 4, 5, 6, 7, 8, 9, 10, 11, 12, 13] rfl (by decide) ⟨(show ((skz + 1) + 1) ≤ 61 by first | assumption | omega), (show RoOk (gtm + 1) ((skz + 1) + 1) (upd skb (skz + 1) (nI (t3814 + t3835))) by first | assumption | exact RoOk_step (by assumption) (by omega) | exact RoOk_mono (by assumption) (by omega) | omega), (show RoOk 2 ((skz + 1) + 1) (upd skf (skz + 1) (nI t3834)) by first | assumption | exact RoOk_step (by assumption) (by omega) | exact RoOk_mono (by assumption) (by omega) | omega), (show WkOk ((skz + 1) + 1) (upd (upd skw skz (nI j3830)) (skz + 1) (-1)) by first | exact WkOk_step (by assumption) (by omega) | exact WkOk_mono (by assumption) (by omega) | assumption | omega)⟩ (Nat.le_of_ble_eq_true rfl) (Nat.le_of_ble_eq_true rfl)
      · have z3833n : ¬ skz < 60 := fun q9 => z3833 ((nI_ltI (a := skz) (b := 60) (by omega) (by omega)).mpr q9)
        refine j_aload_n h 2 rfl rfl dX7_goOn_55 ?_
        refine j_dup h rfl dX7_goOn_56 ?_
        refine jm_get h iw_X7 0 rfl rfl 3 (by decide +kernel) tw_446 rfl dX7_goOn_57 ?_
        refine j_iconst (v := 1) h (by decide) dX7_goOn_60 ?_
        refine j_isub h dX7_goOn_61 ?_
        obtain ⟨y3850, hy3851⟩ : ∃ y9, y9 = skz := ⟨_, rfl⟩
        refine j_top (b := pm y3850) (by rw [hy3851]; exact pm_sub skz) ?_
        refine jm_put (w' := [(sk, .inl (.inr (7, [.ref sk0, .ref sk1, .ref sk2, .int (pm y3850)]))), (sk0, .inl (.inl (kA 1, 61, .inl skw))), (sk1, .inl (.inl (kA 1, 61, .inl skb))), (sk2, .inl (.inl (kA 1, 61, .inl skf))), (s, .inl (.inr (5, [.ref s0, .ref s1, .ref s2, .ref s3, .ref s4, .ref s5, .ref s6, .ref s7, .ref s8, .ref s9, .ref s10, .ref s11, .int (nI sn), .int (nI sl), .int (nI se)]))), (s1, .inl (.inl (kA 1, 6, .inl sc1))), (s7, .inl (.inl (kA 1, 10, .inl sc7))), (s8, .inr (kA 6, kA 1, 10, 2, .inl sc8)), (v, .inl (.inr (4, [.ref v0, .ref v1, .ref v2, .ref v3, .int vbk]))), (v0, .inr (kA 6, kA 1, 10, 45, .inl vls)), (v1, .inl (.inl (kA 1, 6, .inl vss))), (v2, .inl (.inl (kA 1, 60, .inl vhs))), (v3, .inl (.inl (kA 2, 2, .inr (.inl vrd)))), (g, .inl (.inr (3, [.ref g0, .ref g1, .ref g2, .ref g3, .ref g4, .ref g5, .ref g6, .ref g7, .int (nI gn), .int (nI gtm), .int (nI gms)]))), (g0, .inl (.inl (kA 1, 6, .inl gtk))), (g1, .inr (kA 6, kA 1, 6, 2, .inl gaf)), (g2, .inr (kA 6, kA 1, 6, 60, .inl gco)), (g3, .inr (kA 7, kA 2, 8, 61, .inr gwy))]) h iw_X7 tyX7 tyX7_ok nmX7 0 rfl rfl 3 (by decide +kernel) tw_446 rfl rfl rfl (Nat.le_of_ble_eq_true rfl) dX7_goOn_62 rfl ?_
        exact jm_vret h hq dX7_goOn_65 (y3850, skw, skb, skf, vhs, vrd) [0, 1, 2, 3, 4, 5, 6, 7, 13, 14, 15, 16, 17, 8, 9, 10, 11, 12] rfl (by decide) ⟨(show y3850 ≤ 61 by first | assumption | omega), (show RoOk (gtm + 1) y3850 skb by first | assumption | exact RoOk_mono (by assumption) (by omega) | exact RoOk_step (by assumption) (by omega) | omega), (show RoOk 2 y3850 skf by first | assumption | exact RoOk_mono (by assumption) (by omega) | exact RoOk_step (by assumption) (by omega) | omega), (show WkOk y3850 skw by first | assumption | exact WkOk_mono (by assumption) (by omega) | exact WkOk_step (by assumption) (by omega) | omega)⟩ (Nat.le_of_ble_eq_true rfl) (Nat.le_of_ble_eq_true rfl)
  · show J x (mflat [(sk, .inl (.inr (7, [.ref sk0, .ref sk1, .ref sk2, .int (nI skz)]))), (sk0, .inl (.inl (kA 1, 61, .inl skw))), (sk1, .inl (.inl (kA 1, 61, .inl skb))), (sk2, .inl (.inl (kA 1, 61, .inl skf))), (s, .inl (.inr (5, [.ref s0, .ref s1, .ref s2, .ref s3, .ref s4, .ref s5, .ref s6, .ref s7, .ref s8, .ref s9, .ref s10, .ref s11, .int (nI sn), .int (nI sl), .int (nI se)]))), (s1, .inl (.inl (kA 1, 6, .inl sc1))), (s7, .inl (.inl (kA 1, 10, .inl sc7))), (s8, .inr (kA 6, kA 1, 10, 2, .inl sc8)), (g, .inl (.inr (3, [.ref g0, .ref g1, .ref g2, .ref g3, .ref g4, .ref g5, .ref g6, .ref g7, .int (nI gn), .int (nI gtm), .int (nI gms)]))), (g0, .inl (.inl (kA 1, 6, .inl gtk))), (g1, .inr (kA 6, kA 1, 6, 2, .inl gaf)), (g2, .inr (kA 6, kA 1, 6, 60, .inl gco)), (g3, .inr (kA 7, kA 2, 8, 61, .inr gwy)), (v, .inl (.inr (4, [.ref v0, .ref v1, .ref v2, .ref v3, .int vbk]))), (v0, .inr (kA 6, kA 1, 10, 45, .inl vls)), (v1, .inl (.inl (kA 1, 6, .inl vss))), (v2, .inl (.inl (kA 1, 60, .inl vhs))), (v3, .inl (.inl (kA 2, 2, .inr (.inl vrd))))]) [(4, .int (nI t3814)), (0, .ref sk), (1, .ref s), (2, .ref g), (3, .ref v)] 0 0 22 [.int 1, .int (nI j3820), .ref g]
    refine j_iadd h dX7_goOn_22 ?_
    refine j_top (b := nI (j3820 + 1)) (nI_add j3820 1) ?_
    refine j_iload h 0 rfl dX7_goOn_23 ?_
    refine j_aload_n h 1 rfl rfl dX7_goOn_25 ?_
    refine jm_get h iw_X7 0 rfl rfl 2 (by decide +kernel) tw_445 rfl dX7_goOn_26 ?_
    refine j_aload_n h 1 rfl rfl dX7_goOn_29 ?_
    refine jm_get h iw_X7 0 rfl rfl 3 (by decide +kernel) tw_446 rfl dX7_goOn_30 ?_
    refine jm_iald h 3 rfl skz rfl (by omega) (by omega) dX7_goOn_33 ?_
    obtain ⟨t3852, u3853, u3854⟩ := (show RoOk 2 (skz + 1) skf by assumption) skz (by omega)
    refine j_top (b := nI t3852) (u3854) ?_
    refine j_iconst (v := 0) h (by decide) dX7_goOn_34 ?_
    refine jm_callVi (np := 4) (isC := [8, 9, 10, 11, 12]) (isR := [0, 1, 2, 3, 4, 5, 6, 7, 13, 14, 15, 16, 17]) (wc := [(g, .inl (.inr (3, [.ref g0, .ref g1, .ref g2, .ref g3, .ref g4, .ref g5, .ref g6, .ref g7, .int (nI gn), .int (nI gtm), .int (nI gms)]))), (g0, .inl (.inl (kA 1, 6, .inl gtk))), (g1, .inr (kA 6, kA 1, 6, 2, .inl gaf)), (g2, .inr (kA 6, kA 1, 6, 60, .inl gco)), (g3, .inr (kA 7, kA 2, 8, 61, .inr gwy))]) (wr := [(sk, .inl (.inr (7, [.ref sk0, .ref sk1, .ref sk2, .int (nI skz)]))), (sk0, .inl (.inl (kA 1, 61, .inl skw))), (sk1, .inl (.inl (kA 1, 61, .inl skb))), (sk2, .inl (.inl (kA 1, 61, .inl skf))), (s, .inl (.inr (5, [.ref s0, .ref s1, .ref s2, .ref s3, .ref s4, .ref s5, .ref s6, .ref s7, .ref s8, .ref s9, .ref s10, .ref s11, .int (nI sn), .int (nI sl), .int (nI se)]))), (s1, .inl (.inl (kA 1, 6, .inl sc1))), (s7, .inl (.inl (kA 1, 10, .inl sc7))), (s8, .inr (kA 6, kA 1, 10, 2, .inl sc8)), (v, .inl (.inr (4, [.ref v0, .ref v1, .ref v2, .ref v3, .int vbk]))), (v0, .inr (kA 6, kA 1, 10, 45, .inl vls)), (v1, .inl (.inl (kA 1, 6, .inl vss))), (v2, .inl (.inl (kA 1, 60, .inl vhs))), (v3, .inl (.inl (kA 2, 2, .inr (.inl vrd))))]) (rest := []) (As := [.int (nI (j3820 + 1)), .int (nI t3814), .int (nI t3852), .int 0]) (q0 := 0) h (s_X3_itemFrom _ _ kA g (j3820 + 1) t3814 t3852 0 g0 g1 g2 g3 g4 g5 g6 g7 gn gtm gms 6 gtk gaf gco gwy (show 6 ≤ 10 by first | assumption | omega) (show gn ≤ 6 by first | assumption | omega) (show gtm ≤ 60 by first | assumption | omega) (show LtOk gn gtk by first | assumption | omega) (show FtOk gn gaf by first | assumption | omega) (show CoOk gn gtm gtk gco by first | assumption | omega) (show t3852 ≤ 1 by first | assumption | omega) (show 0 ≤ 3 by first | assumption | omega) (show (j3820 + 1) ≤ 100 by first | assumption | omega) (show t3814 ≤ 60 by first | assumption | omega)) tw_995 tw_888 tw_889 tw_95 tw_890 (by decide +kernel) rfl ⟨Nat.le_of_ble_eq_true rfl, Nat.le_of_ble_eq_true rfl⟩ rfl rfl (by decide +kernel) rfl rfl (by decide +kernel) (by decide +kernel) (Nat.le_of_ble_eq_true rfl) rfl ⟨Nat.le_of_ble_eq_true rfl, Nat.le_of_ble_eq_true rfl⟩ dX7_goOn_35 ?_
    rintro r3857 q3855 e3856
    obtain ⟨p3858, p3859, p3860⟩ := e3856
    subst p3858
    replace p3859 : q3855 ≤ gn := p3859
    replace p3860 : ∀ i, q3855 = i + 1 → i < gn ∧ GoOk gtk gaf gco gtm i t3814 t3852 0 := p3860
    show J x (mflat [(sk, .inl (.inr (7, [.ref sk0, .ref sk1, .ref sk2, .int (nI skz)]))), (sk0, .inl (.inl (kA 1, 61, .inl skw))), (sk1, .inl (.inl (kA 1, 61, .inl skb))), (sk2, .inl (.inl (kA 1, 61, .inl skf))), (s, .inl (.inr (5, [.ref s0, .ref s1, .ref s2, .ref s3, .ref s4, .ref s5, .ref s6, .ref s7, .ref s8, .ref s9, .ref s10, .ref s11, .int (nI sn), .int (nI sl), .int (nI se)]))), (s1, .inl (.inl (kA 1, 6, .inl sc1))), (s7, .inl (.inl (kA 1, 10, .inl sc7))), (s8, .inr (kA 6, kA 1, 10, 2, .inl sc8)), (v, .inl (.inr (4, [.ref v0, .ref v1, .ref v2, .ref v3, .int vbk]))), (v0, .inr (kA 6, kA 1, 10, 45, .inl vls)), (v1, .inl (.inl (kA 1, 6, .inl vss))), (v2, .inl (.inl (kA 1, 60, .inl vhs))), (v3, .inl (.inl (kA 2, 2, .inr (.inl vrd)))), (g, .inl (.inr (3, [.ref g0, .ref g1, .ref g2, .ref g3, .ref g4, .ref g5, .ref g6, .ref g7, .int (nI gn), .int (nI gtm), .int (nI gms)]))), (g0, .inl (.inl (kA 1, 6, .inl gtk))), (g1, .inr (kA 6, kA 1, 6, 2, .inl gaf)), (g2, .inr (kA 6, kA 1, 6, 60, .inl gco)), (g3, .inr (kA 7, kA 2, 8, 61, .inr gwy))]) [(4, .int (nI t3814)), (0, .ref sk), (1, .ref s), (2, .ref g), (3, .ref v)] 0 0 38 [.int (pm q3855)]
    refine j_istore (lv' := [(5, .int (pm q3855)), (4, .int (nI t3814)), (0, .ref sk), (1, .ref s), (2, .ref g), (3, .ref v)]) h dX7_goOn_38 (by decide) rfl ?_
    refine j_iload h 0 rfl dX7_goOn_40 ?_
    refine j_iconst (v := (-1)) h (by decide) dX7_goOn_42 ?_
    rcases q3855 with _ | j3861
    · show J x (mflat [(sk, .inl (.inr (7, [.ref sk0, .ref sk1, .ref sk2, .int (nI skz)]))), (sk0, .inl (.inl (kA 1, 61, .inl skw))), (sk1, .inl (.inl (kA 1, 61, .inl skb))), (sk2, .inl (.inl (kA 1, 61, .inl skf))), (s, .inl (.inr (5, [.ref s0, .ref s1, .ref s2, .ref s3, .ref s4, .ref s5, .ref s6, .ref s7, .ref s8, .ref s9, .ref s10, .ref s11, .int (nI sn), .int (nI sl), .int (nI se)]))), (s1, .inl (.inl (kA 1, 6, .inl sc1))), (s7, .inl (.inl (kA 1, 10, .inl sc7))), (s8, .inr (kA 6, kA 1, 10, 2, .inl sc8)), (v, .inl (.inr (4, [.ref v0, .ref v1, .ref v2, .ref v3, .int vbk]))), (v0, .inr (kA 6, kA 1, 10, 45, .inl vls)), (v1, .inl (.inl (kA 1, 6, .inl vss))), (v2, .inl (.inl (kA 1, 60, .inl vhs))), (v3, .inl (.inl (kA 2, 2, .inr (.inl vrd)))), (g, .inl (.inr (3, [.ref g0, .ref g1, .ref g2, .ref g3, .ref g4, .ref g5, .ref g6, .ref g7, .int (nI gn), .int (nI gtm), .int (nI gms)]))), (g0, .inl (.inl (kA 1, 6, .inl gtk))), (g1, .inr (kA 6, kA 1, 6, 2, .inl gaf)), (g2, .inr (kA 6, kA 1, 6, 60, .inl gco)), (g3, .inr (kA 7, kA 2, 8, 61, .inr gwy))]) [(5, .int (-1)), (4, .int (nI t3814)), (0, .ref sk), (1, .ref s), (2, .ref g), (3, .ref v)] 0 0 43 [.int (-1), .int (-1)]
      refine j_icmp_eq h 55 dX7_goOn_43 (by decide) (fun _ => ?_) (fun q => absurd (by decide) q)
      refine j_aload_n h 2 rfl rfl dX7_goOn_55 ?_
      refine j_dup h rfl dX7_goOn_56 ?_
      refine jm_get h iw_X7 0 rfl rfl 3 (by decide +kernel) tw_446 rfl dX7_goOn_57 ?_
      refine j_iconst (v := 1) h (by decide) dX7_goOn_60 ?_
      refine j_isub h dX7_goOn_61 ?_
      obtain ⟨y3862, hy3863⟩ : ∃ y9, y9 = skz := ⟨_, rfl⟩
      refine j_top (b := pm y3862) (by rw [hy3863]; exact pm_sub skz) ?_
      refine jm_put (w' := [(sk, .inl (.inr (7, [.ref sk0, .ref sk1, .ref sk2, .int (pm y3862)]))), (sk0, .inl (.inl (kA 1, 61, .inl skw))), (sk1, .inl (.inl (kA 1, 61, .inl skb))), (sk2, .inl (.inl (kA 1, 61, .inl skf))), (s, .inl (.inr (5, [.ref s0, .ref s1, .ref s2, .ref s3, .ref s4, .ref s5, .ref s6, .ref s7, .ref s8, .ref s9, .ref s10, .ref s11, .int (nI sn), .int (nI sl), .int (nI se)]))), (s1, .inl (.inl (kA 1, 6, .inl sc1))), (s7, .inl (.inl (kA 1, 10, .inl sc7))), (s8, .inr (kA 6, kA 1, 10, 2, .inl sc8)), (v, .inl (.inr (4, [.ref v0, .ref v1, .ref v2, .ref v3, .int vbk]))), (v0, .inr (kA 6, kA 1, 10, 45, .inl vls)), (v1, .inl (.inl (kA 1, 6, .inl vss))), (v2, .inl (.inl (kA 1, 60, .inl vhs))), (v3, .inl (.inl (kA 2, 2, .inr (.inl vrd)))), (g, .inl (.inr (3, [.ref g0, .ref g1, .ref g2, .ref g3, .ref g4, .ref g5, .ref g6, .ref g7, .int (nI gn), .int (nI gtm), .int (nI gms)]))), (g0, .inl (.inl (kA 1, 6, .inl gtk))), (g1, .inr (kA 6, kA 1, 6, 2, .inl gaf)), (g2, .inr (kA 6, kA 1, 6, 60, .inl gco)), (g3, .inr (kA 7, kA 2, 8, 61, .inr gwy))]) h iw_X7 tyX7 tyX7_ok nmX7 0 rfl rfl 3 (by decide +kernel) tw_446 rfl rfl rfl (Nat.le_of_ble_eq_true rfl) dX7_goOn_62 rfl ?_
      exact jm_vret h hq dX7_goOn_65 (y3862, skw, skb, skf, vhs, vrd) [0, 1, 2, 3, 4, 5, 6, 7, 13, 14, 15, 16, 17, 8, 9, 10, 11, 12] rfl (by decide) ⟨(show y3862 ≤ 61 by first | assumption | omega), (show RoOk (gtm + 1) y3862 skb by first | assumption | exact RoOk_mono (by assumption) (by omega) | exact RoOk_step (by assumption) (by omega) | omega), (show RoOk 2 y3862 skf by first | assumption | exact RoOk_mono (by assumption) (by omega) | exact RoOk_step (by assumption) (by omega) | omega), (show WkOk y3862 skw by first | assumption | exact WkOk_mono (by assumption) (by omega) | exact WkOk_step (by assumption) (by omega) | omega)⟩ (Nat.le_of_ble_eq_true rfl) (Nat.le_of_ble_eq_true rfl)
    · show J x (mflat [(sk, .inl (.inr (7, [.ref sk0, .ref sk1, .ref sk2, .int (nI skz)]))), (sk0, .inl (.inl (kA 1, 61, .inl skw))), (sk1, .inl (.inl (kA 1, 61, .inl skb))), (sk2, .inl (.inl (kA 1, 61, .inl skf))), (s, .inl (.inr (5, [.ref s0, .ref s1, .ref s2, .ref s3, .ref s4, .ref s5, .ref s6, .ref s7, .ref s8, .ref s9, .ref s10, .ref s11, .int (nI sn), .int (nI sl), .int (nI se)]))), (s1, .inl (.inl (kA 1, 6, .inl sc1))), (s7, .inl (.inl (kA 1, 10, .inl sc7))), (s8, .inr (kA 6, kA 1, 10, 2, .inl sc8)), (v, .inl (.inr (4, [.ref v0, .ref v1, .ref v2, .ref v3, .int vbk]))), (v0, .inr (kA 6, kA 1, 10, 45, .inl vls)), (v1, .inl (.inl (kA 1, 6, .inl vss))), (v2, .inl (.inl (kA 1, 60, .inl vhs))), (v3, .inl (.inl (kA 2, 2, .inr (.inl vrd)))), (g, .inl (.inr (3, [.ref g0, .ref g1, .ref g2, .ref g3, .ref g4, .ref g5, .ref g6, .ref g7, .int (nI gn), .int (nI gtm), .int (nI gms)]))), (g0, .inl (.inl (kA 1, 6, .inl gtk))), (g1, .inr (kA 6, kA 1, 6, 2, .inl gaf)), (g2, .inr (kA 6, kA 1, 6, 60, .inl gco)), (g3, .inr (kA 7, kA 2, 8, 61, .inr gwy))]) [(5, .int (nI j3861)), (4, .int (nI t3814)), (0, .ref sk), (1, .ref s), (2, .ref g), (3, .ref v)] 0 0 43 [.int (-1), .int (nI j3861)]
      refine j_icmp_eq h 55 dX7_goOn_43 (by decide) (fun q => absurd q (nI_m1 (by omega))) (fun _ => ?_)
      refine j_aload_n h 2 rfl rfl dX7_goOn_46 ?_
      refine jm_get h iw_X7 0 rfl rfl 3 (by decide +kernel) tw_446 rfl dX7_goOn_47 ?_
      refine j_bipush (v := 60) h (by decide) dX7_goOn_50 ?_
      refine j_icmp_lt h 66 dX7_goOn_52 (by decide) (fun z3864 => ?_) (fun z3864 => ?_)
      · have z3864n : skz < 60 := (nI_ltI (a := skz) (b := 60) (by omega) (by omega)).mp z3864
        obtain ⟨u3868, t3865, t3866, t3867, u3869, u3870, u3871, u3872, u3873, u3874, u3875, u3876⟩ := p3860 j3861 rfl
        refine j_aload_n h 5 rfl rfl dX7_goOn_66 ?_
        refine j_aload_n h 3 rfl rfl dX7_goOn_67 ?_
        refine j_iload h 0 rfl dX7_goOn_68 ?_
        refine j_iload h 1 rfl dX7_goOn_70 ?_
        refine jm_callVv (np := 3) (isC := [8, 9, 10, 11, 12, 4, 5, 6, 7]) (isR := [0, 1, 2, 3, 13, 14, 15, 16, 17]) (wc := [(v, .inl (.inr (4, [.ref v0, .ref v1, .ref v2, .ref v3, .int vbk]))), (v0, .inr (kA 6, kA 1, 10, 45, .inl vls)), (v1, .inl (.inl (kA 1, 6, .inl vss))), (v2, .inl (.inl (kA 1, 60, .inl vhs))), (v3, .inl (.inl (kA 2, 2, .inr (.inl vrd)))), (s, .inl (.inr (5, [.ref s0, .ref s1, .ref s2, .ref s3, .ref s4, .ref s5, .ref s6, .ref s7, .ref s8, .ref s9, .ref s10, .ref s11, .int (nI sn), .int (nI sl), .int (nI se)]))), (s1, .inl (.inl (kA 1, 6, .inl sc1))), (s7, .inl (.inl (kA 1, 10, .inl sc7))), (s8, .inr (kA 6, kA 1, 10, 2, .inl sc8))]) (wr := [(sk, .inl (.inr (7, [.ref sk0, .ref sk1, .ref sk2, .int (nI skz)]))), (sk0, .inl (.inl (kA 1, 61, .inl skw))), (sk1, .inl (.inl (kA 1, 61, .inl skb))), (sk2, .inl (.inl (kA 1, 61, .inl skf))), (g, .inl (.inr (3, [.ref g0, .ref g1, .ref g2, .ref g3, .ref g4, .ref g5, .ref g6, .ref g7, .int (nI gn), .int (nI gtm), .int (nI gms)]))), (g0, .inl (.inl (kA 1, 6, .inl gtk))), (g1, .inr (kA 6, kA 1, 6, 2, .inl gaf)), (g2, .inr (kA 6, kA 1, 6, 60, .inl gco)), (g3, .inr (kA 7, kA 2, 8, 61, .inr gwy))]) (rest := []) (As := [.ref s, .int (nI j3861), .int (nI t3814)]) (q0 := 0) h (s_X4_hearStep _ _ kA v s j3861 t3814 v0 v1 v2 v3 vbk vls vss vhs vrd s0 s1 s2 s3 s4 s5 s6 s7 s8 s9 s10 s11 sn sl se sc1 sc7 sc8 (show sn ≤ 6 by first | assumption | omega) (show sl ≤ 10 by first | assumption | omega) (show se ≤ 4 by first | assumption | omega) (show TkOk sn sc1 by first | assumption | omega) (show LtOk sl sc7 by first | assumption | omega) (show FtOk sl sc8 by first | assumption | omega) (show j3861 < sn by first | assumption | omega) (show t3814 ≤ 60 by first | assumption | omega)) tw_996 tw_997 tw_998 tw_96 tw_999 (by decide +kernel) rfl ⟨Nat.le_of_ble_eq_true rfl, Nat.le_of_ble_eq_true rfl⟩ rfl rfl (by decide +kernel) rfl rfl (by decide +kernel) (by decide +kernel) (Nat.le_of_ble_eq_true rfl) rfl ⟨Nat.le_of_ble_eq_true rfl, Nat.le_of_ble_eq_true rfl⟩ dX7_goOn_72 ?_
        rintro ⟨q3877, q3878⟩ e3879
        show J x (mflat [(sk, .inl (.inr (7, [.ref sk0, .ref sk1, .ref sk2, .int (nI skz)]))), (sk0, .inl (.inl (kA 1, 61, .inl skw))), (sk1, .inl (.inl (kA 1, 61, .inl skb))), (sk2, .inl (.inl (kA 1, 61, .inl skf))), (g, .inl (.inr (3, [.ref g0, .ref g1, .ref g2, .ref g3, .ref g4, .ref g5, .ref g6, .ref g7, .int (nI gn), .int (nI gtm), .int (nI gms)]))), (g0, .inl (.inl (kA 1, 6, .inl gtk))), (g1, .inr (kA 6, kA 1, 6, 2, .inl gaf)), (g2, .inr (kA 6, kA 1, 6, 60, .inl gco)), (g3, .inr (kA 7, kA 2, 8, 61, .inr gwy)), (v, .inl (.inr (4, [.ref v0, .ref v1, .ref v2, .ref v3, .int vbk]))), (v0, .inr (kA 6, kA 1, 10, 45, .inl vls)), (v1, .inl (.inl (kA 1, 6, .inl vss))), (v2, .inl (.inl (kA 1, 60, .inl q3877))), (v3, .inl (.inl (kA 2, 2, .inr (.inl q3878)))), (s, .inl (.inr (5, [.ref s0, .ref s1, .ref s2, .ref s3, .ref s4, .ref s5, .ref s6, .ref s7, .ref s8, .ref s9, .ref s10, .ref s11, .int (nI sn), .int (nI sl), .int (nI se)]))), (s1, .inl (.inl (kA 1, 6, .inl sc1))), (s7, .inl (.inl (kA 1, 10, .inl sc7))), (s8, .inr (kA 6, kA 1, 10, 2, .inl sc8))]) [(5, .int (nI j3861)), (4, .int (nI t3814)), (0, .ref sk), (1, .ref s), (2, .ref g), (3, .ref v)] 0 0 75 []
        refine j_aload_n h 2 rfl rfl dX7_goOn_75 ?_
        refine jm_get h iw_X7 0 rfl rfl 0 (by decide +kernel) tw_443 rfl dX7_goOn_76 ?_
        refine j_aload_n h 2 rfl rfl dX7_goOn_79 ?_
        refine jm_get h iw_X7 0 rfl rfl 3 (by decide +kernel) tw_446 rfl dX7_goOn_80 ?_
        refine j_iload h 0 rfl dX7_goOn_83 ?_
        refine jm_iast (w' := [(sk, .inl (.inr (7, [.ref sk0, .ref sk1, .ref sk2, .int (nI skz)]))), (sk0, .inl (.inl (kA 1, 61, .inl (upd skw skz (nI j3861))))), (sk1, .inl (.inl (kA 1, 61, .inl skb))), (sk2, .inl (.inl (kA 1, 61, .inl skf))), (g, .inl (.inr (3, [.ref g0, .ref g1, .ref g2, .ref g3, .ref g4, .ref g5, .ref g6, .ref g7, .int (nI gn), .int (nI gtm), .int (nI gms)]))), (g0, .inl (.inl (kA 1, 6, .inl gtk))), (g1, .inr (kA 6, kA 1, 6, 2, .inl gaf)), (g2, .inr (kA 6, kA 1, 6, 60, .inl gco)), (g3, .inr (kA 7, kA 2, 8, 61, .inr gwy)), (v, .inl (.inr (4, [.ref v0, .ref v1, .ref v2, .ref v3, .int vbk]))), (v0, .inr (kA 6, kA 1, 10, 45, .inl vls)), (v1, .inl (.inl (kA 1, 6, .inl vss))), (v2, .inl (.inl (kA 1, 60, .inl q3877))), (v3, .inl (.inl (kA 2, 2, .inr (.inl q3878)))), (s, .inl (.inr (5, [.ref s0, .ref s1, .ref s2, .ref s3, .ref s4, .ref s5, .ref s6, .ref s7, .ref s8, .ref s9, .ref s10, .ref s11, .int (nI sn), .int (nI sl), .int (nI se)]))), (s1, .inl (.inl (kA 1, 6, .inl sc1))), (s7, .inl (.inl (kA 1, 10, .inl sc7))), (s8, .inr (kA 6, kA 1, 10, 2, .inl sc8))]) h 1 rfl skz rfl (by omega) (by omega) dX7_goOn_85 rfl ?_
        refine j_aload_n h 2 rfl rfl dX7_goOn_86 ?_
        refine jm_get h iw_X7 0 rfl rfl 1 (by decide +kernel) tw_444 rfl dX7_goOn_87 ?_
        refine j_aload_n h 2 rfl rfl dX7_goOn_90 ?_
        refine jm_get h iw_X7 0 rfl rfl 3 (by decide +kernel) tw_446 rfl dX7_goOn_91 ?_
        refine j_iconst (v := 1) h (by decide) dX7_goOn_94 ?_
        refine j_iadd h dX7_goOn_95 ?_
        refine j_top (b := nI (skz + 1)) (nI_add skz 1) ?_
        refine j_iload h 1 rfl dX7_goOn_96 ?_
        refine j_aload_n h 4 rfl rfl dX7_goOn_98 ?_
        refine jm_get h iw_X3 4 rfl rfl 0 (by decide +kernel) tw_378 rfl dX7_goOn_99 ?_
        refine j_iload h 0 rfl dX7_goOn_102 ?_
        refine jm_iald h 5 rfl j3861 rfl (by omega) (by omega) dX7_goOn_104 ?_
        refine j_top (b := nI t3866) (u3873) ?_
        refine j_iadd h dX7_goOn_105 ?_
        refine j_top (b := nI (t3814 + t3866)) (nI_add t3814 t3866) ?_
        refine jm_iast (w' := [(sk, .inl (.inr (7, [.ref sk0, .ref sk1, .ref sk2, .int (nI skz)]))), (sk0, .inl (.inl (kA 1, 61, .inl (upd skw skz (nI j3861))))), (sk1, .inl (.inl (kA 1, 61, .inl (upd skb (skz + 1) (nI (t3814 + t3866)))))), (sk2, .inl (.inl (kA 1, 61, .inl skf))), (g, .inl (.inr (3, [.ref g0, .ref g1, .ref g2, .ref g3, .ref g4, .ref g5, .ref g6, .ref g7, .int (nI gn), .int (nI gtm), .int (nI gms)]))), (g0, .inl (.inl (kA 1, 6, .inl gtk))), (g1, .inr (kA 6, kA 1, 6, 2, .inl gaf)), (g2, .inr (kA 6, kA 1, 6, 60, .inl gco)), (g3, .inr (kA 7, kA 2, 8, 61, .inr gwy)), (v, .inl (.inr (4, [.ref v0, .ref v1, .ref v2, .ref v3, .int vbk]))), (v0, .inr (kA 6, kA 1, 10, 45, .inl vls)), (v1, .inl (.inl (kA 1, 6, .inl vss))), (v2, .inl (.inl (kA 1, 60, .inl q3877))), (v3, .inl (.inl (kA 2, 2, .inr (.inl q3878)))), (s, .inl (.inr (5, [.ref s0, .ref s1, .ref s2, .ref s3, .ref s4, .ref s5, .ref s6, .ref s7, .ref s8, .ref s9, .ref s10, .ref s11, .int (nI sn), .int (nI sl), .int (nI se)]))), (s1, .inl (.inl (kA 1, 6, .inl sc1))), (s7, .inl (.inl (kA 1, 10, .inl sc7))), (s8, .inr (kA 6, kA 1, 10, 2, .inl sc8))]) h 2 rfl (skz + 1) rfl (by omega) (by omega) dX7_goOn_106 rfl ?_
        refine j_aload_n h 2 rfl rfl dX7_goOn_107 ?_
        refine jm_get h iw_X7 0 rfl rfl 2 (by decide +kernel) tw_445 rfl dX7_goOn_108 ?_
        refine j_aload_n h 2 rfl rfl dX7_goOn_111 ?_
        refine jm_get h iw_X7 0 rfl rfl 3 (by decide +kernel) tw_446 rfl dX7_goOn_112 ?_
        refine j_iconst (v := 1) h (by decide) dX7_goOn_115 ?_
        refine j_iadd h dX7_goOn_116 ?_
        refine j_top (b := nI (skz + 1)) (nI_add skz 1) ?_
        refine j_aload_n h 4 rfl rfl dX7_goOn_117 ?_
        refine jm_get h iw_X3 4 rfl rfl 1 (by decide +kernel) tw_380 rfl dX7_goOn_118 ?_
        refine j_iload h 0 rfl dX7_goOn_121 ?_
        refine jm_gout h 6 6 rfl rfl j3861 rfl (by omega) (by omega) dX7_goOn_123 ?_
        refine j_aload_n h 2 rfl rfl dX7_goOn_124 ?_
        refine jm_get h iw_X7 0 rfl rfl 2 (by decide +kernel) tw_445 rfl dX7_goOn_125 ?_
        refine j_aload_n h 2 rfl rfl dX7_goOn_128 ?_
        refine jm_get h iw_X7 0 rfl rfl 3 (by decide +kernel) tw_446 rfl dX7_goOn_129 ?_
        refine jm_iald h 3 rfl skz rfl (by omega) (by omega) dX7_goOn_132 ?_
        refine j_top (b := nI t3852) (u3854) ?_
        refine jm_gald h 6 rfl j3861 (by omega) t3852 rfl (by omega) (by omega) dX7_goOn_133 ?_
        refine j_top (b := nI t3865) (u3870) ?_
        refine jm_iast (w' := [(sk, .inl (.inr (7, [.ref sk0, .ref sk1, .ref sk2, .int (nI skz)]))), (sk0, .inl (.inl (kA 1, 61, .inl (upd skw skz (nI j3861))))), (sk1, .inl (.inl (kA 1, 61, .inl (upd skb (skz + 1) (nI (t3814 + t3866)))))), (sk2, .inl (.inl (kA 1, 61, .inl (upd skf (skz + 1) (nI t3865))))), (g, .inl (.inr (3, [.ref g0, .ref g1, .ref g2, .ref g3, .ref g4, .ref g5, .ref g6, .ref g7, .int (nI gn), .int (nI gtm), .int (nI gms)]))), (g0, .inl (.inl (kA 1, 6, .inl gtk))), (g1, .inr (kA 6, kA 1, 6, 2, .inl gaf)), (g2, .inr (kA 6, kA 1, 6, 60, .inl gco)), (g3, .inr (kA 7, kA 2, 8, 61, .inr gwy)), (v, .inl (.inr (4, [.ref v0, .ref v1, .ref v2, .ref v3, .int vbk]))), (v0, .inr (kA 6, kA 1, 10, 45, .inl vls)), (v1, .inl (.inl (kA 1, 6, .inl vss))), (v2, .inl (.inl (kA 1, 60, .inl q3877))), (v3, .inl (.inl (kA 2, 2, .inr (.inl q3878)))), (s, .inl (.inr (5, [.ref s0, .ref s1, .ref s2, .ref s3, .ref s4, .ref s5, .ref s6, .ref s7, .ref s8, .ref s9, .ref s10, .ref s11, .int (nI sn), .int (nI sl), .int (nI se)]))), (s1, .inl (.inl (kA 1, 6, .inl sc1))), (s7, .inl (.inl (kA 1, 10, .inl sc7))), (s8, .inr (kA 6, kA 1, 10, 2, .inl sc8))]) h 3 rfl (skz + 1) rfl (by omega) (by omega) dX7_goOn_134 rfl ?_
        refine j_aload_n h 2 rfl rfl dX7_goOn_135 ?_
        refine jm_get h iw_X7 0 rfl rfl 0 (by decide +kernel) tw_443 rfl dX7_goOn_136 ?_
        refine j_aload_n h 2 rfl rfl dX7_goOn_139 ?_
        refine jm_get h iw_X7 0 rfl rfl 3 (by decide +kernel) tw_446 rfl dX7_goOn_140 ?_
        refine j_iconst (v := 1) h (by decide) dX7_goOn_143 ?_
        refine j_iadd h dX7_goOn_144 ?_
        refine j_top (b := nI (skz + 1)) (nI_add skz 1) ?_
        refine j_iconst (v := (-1)) h (by decide) dX7_goOn_145 ?_
        refine jm_iast (w' := [(sk, .inl (.inr (7, [.ref sk0, .ref sk1, .ref sk2, .int (nI skz)]))), (sk0, .inl (.inl (kA 1, 61, .inl (upd (upd skw skz (nI j3861)) (skz + 1) (-1))))), (sk1, .inl (.inl (kA 1, 61, .inl (upd skb (skz + 1) (nI (t3814 + t3866)))))), (sk2, .inl (.inl (kA 1, 61, .inl (upd skf (skz + 1) (nI t3865))))), (g, .inl (.inr (3, [.ref g0, .ref g1, .ref g2, .ref g3, .ref g4, .ref g5, .ref g6, .ref g7, .int (nI gn), .int (nI gtm), .int (nI gms)]))), (g0, .inl (.inl (kA 1, 6, .inl gtk))), (g1, .inr (kA 6, kA 1, 6, 2, .inl gaf)), (g2, .inr (kA 6, kA 1, 6, 60, .inl gco)), (g3, .inr (kA 7, kA 2, 8, 61, .inr gwy)), (v, .inl (.inr (4, [.ref v0, .ref v1, .ref v2, .ref v3, .int vbk]))), (v0, .inr (kA 6, kA 1, 10, 45, .inl vls)), (v1, .inl (.inl (kA 1, 6, .inl vss))), (v2, .inl (.inl (kA 1, 60, .inl q3877))), (v3, .inl (.inl (kA 2, 2, .inr (.inl q3878)))), (s, .inl (.inr (5, [.ref s0, .ref s1, .ref s2, .ref s3, .ref s4, .ref s5, .ref s6, .ref s7, .ref s8, .ref s9, .ref s10, .ref s11, .int (nI sn), .int (nI sl), .int (nI se)]))), (s1, .inl (.inl (kA 1, 6, .inl sc1))), (s7, .inl (.inl (kA 1, 10, .inl sc7))), (s8, .inr (kA 6, kA 1, 10, 2, .inl sc8))]) h 1 rfl (skz + 1) rfl (by omega) (by omega) dX7_goOn_146 rfl ?_
        refine j_aload_n h 2 rfl rfl dX7_goOn_147 ?_
        refine j_dup h rfl dX7_goOn_148 ?_
        refine jm_get h iw_X7 0 rfl rfl 3 (by decide +kernel) tw_446 rfl dX7_goOn_149 ?_
        refine j_iconst (v := 1) h (by decide) dX7_goOn_152 ?_
        refine j_iadd h dX7_goOn_153 ?_
        refine j_top (b := nI (skz + 1)) (nI_add skz 1) ?_
        refine jm_put (w' := [(sk, .inl (.inr (7, [.ref sk0, .ref sk1, .ref sk2, .int (nI (skz + 1))]))), (sk0, .inl (.inl (kA 1, 61, .inl (upd (upd skw skz (nI j3861)) (skz + 1) (-1))))), (sk1, .inl (.inl (kA 1, 61, .inl (upd skb (skz + 1) (nI (t3814 + t3866)))))), (sk2, .inl (.inl (kA 1, 61, .inl (upd skf (skz + 1) (nI t3865))))), (g, .inl (.inr (3, [.ref g0, .ref g1, .ref g2, .ref g3, .ref g4, .ref g5, .ref g6, .ref g7, .int (nI gn), .int (nI gtm), .int (nI gms)]))), (g0, .inl (.inl (kA 1, 6, .inl gtk))), (g1, .inr (kA 6, kA 1, 6, 2, .inl gaf)), (g2, .inr (kA 6, kA 1, 6, 60, .inl gco)), (g3, .inr (kA 7, kA 2, 8, 61, .inr gwy)), (v, .inl (.inr (4, [.ref v0, .ref v1, .ref v2, .ref v3, .int vbk]))), (v0, .inr (kA 6, kA 1, 10, 45, .inl vls)), (v1, .inl (.inl (kA 1, 6, .inl vss))), (v2, .inl (.inl (kA 1, 60, .inl q3877))), (v3, .inl (.inl (kA 2, 2, .inr (.inl q3878)))), (s, .inl (.inr (5, [.ref s0, .ref s1, .ref s2, .ref s3, .ref s4, .ref s5, .ref s6, .ref s7, .ref s8, .ref s9, .ref s10, .ref s11, .int (nI sn), .int (nI sl), .int (nI se)]))), (s1, .inl (.inl (kA 1, 6, .inl sc1))), (s7, .inl (.inl (kA 1, 10, .inl sc7))), (s8, .inr (kA 6, kA 1, 10, 2, .inl sc8))]) h iw_X7 tyX7 tyX7_ok nmX7 0 rfl rfl 3 (by decide +kernel) tw_446 rfl rfl rfl (Nat.le_of_ble_eq_true rfl) dX7_goOn_154 rfl ?_
        exact jm_vret h hq dX7_goOn_157 (((skz + 1) + 1), (upd (upd skw skz (nI j3861)) (skz + 1) (-1)), (upd skb (skz + 1) (nI (t3814 + t3866))), (upd skf (skz + 1) (nI t3865)), q3877, q3878) [0, 1, 2, 3, 14, 15, 16, 17, 4, 5, 6, 7, 8, 9, 10, 11, 12, 13] rfl (by decide) ⟨(show ((skz + 1) + 1) ≤ 61 by first | assumption | omega), (show RoOk (gtm + 1) ((skz + 1) + 1) (upd skb (skz + 1) (nI (t3814 + t3866))) by first | assumption | exact RoOk_step (by assumption) (by omega) | exact RoOk_mono (by assumption) (by omega) | omega), (show RoOk 2 ((skz + 1) + 1) (upd skf (skz + 1) (nI t3865)) by first | assumption | exact RoOk_step (by assumption) (by omega) | exact RoOk_mono (by assumption) (by omega) | omega), (show WkOk ((skz + 1) + 1) (upd (upd skw skz (nI j3861)) (skz + 1) (-1)) by first | exact WkOk_step (by assumption) (by omega) | exact WkOk_mono (by assumption) (by omega) | assumption | omega)⟩ (Nat.le_of_ble_eq_true rfl) (Nat.le_of_ble_eq_true rfl)
      · have z3864n : ¬ skz < 60 := fun q9 => z3864 ((nI_ltI (a := skz) (b := 60) (by omega) (by omega)).mpr q9)
        refine j_aload_n h 2 rfl rfl dX7_goOn_55 ?_
        refine j_dup h rfl dX7_goOn_56 ?_
        refine jm_get h iw_X7 0 rfl rfl 3 (by decide +kernel) tw_446 rfl dX7_goOn_57 ?_
        refine j_iconst (v := 1) h (by decide) dX7_goOn_60 ?_
        refine j_isub h dX7_goOn_61 ?_
        obtain ⟨y3881, hy3882⟩ : ∃ y9, y9 = skz := ⟨_, rfl⟩
        refine j_top (b := pm y3881) (by rw [hy3882]; exact pm_sub skz) ?_
        refine jm_put (w' := [(sk, .inl (.inr (7, [.ref sk0, .ref sk1, .ref sk2, .int (pm y3881)]))), (sk0, .inl (.inl (kA 1, 61, .inl skw))), (sk1, .inl (.inl (kA 1, 61, .inl skb))), (sk2, .inl (.inl (kA 1, 61, .inl skf))), (s, .inl (.inr (5, [.ref s0, .ref s1, .ref s2, .ref s3, .ref s4, .ref s5, .ref s6, .ref s7, .ref s8, .ref s9, .ref s10, .ref s11, .int (nI sn), .int (nI sl), .int (nI se)]))), (s1, .inl (.inl (kA 1, 6, .inl sc1))), (s7, .inl (.inl (kA 1, 10, .inl sc7))), (s8, .inr (kA 6, kA 1, 10, 2, .inl sc8)), (v, .inl (.inr (4, [.ref v0, .ref v1, .ref v2, .ref v3, .int vbk]))), (v0, .inr (kA 6, kA 1, 10, 45, .inl vls)), (v1, .inl (.inl (kA 1, 6, .inl vss))), (v2, .inl (.inl (kA 1, 60, .inl vhs))), (v3, .inl (.inl (kA 2, 2, .inr (.inl vrd)))), (g, .inl (.inr (3, [.ref g0, .ref g1, .ref g2, .ref g3, .ref g4, .ref g5, .ref g6, .ref g7, .int (nI gn), .int (nI gtm), .int (nI gms)]))), (g0, .inl (.inl (kA 1, 6, .inl gtk))), (g1, .inr (kA 6, kA 1, 6, 2, .inl gaf)), (g2, .inr (kA 6, kA 1, 6, 60, .inl gco)), (g3, .inr (kA 7, kA 2, 8, 61, .inr gwy))]) h iw_X7 tyX7 tyX7_ok nmX7 0 rfl rfl 3 (by decide +kernel) tw_446 rfl rfl rfl (Nat.le_of_ble_eq_true rfl) dX7_goOn_62 rfl ?_
        exact jm_vret h hq dX7_goOn_65 (y3881, skw, skb, skf, vhs, vrd) [0, 1, 2, 3, 4, 5, 6, 7, 13, 14, 15, 16, 17, 8, 9, 10, 11, 12] rfl (by decide) ⟨(show y3881 ≤ 61 by first | assumption | omega), (show RoOk (gtm + 1) y3881 skb by first | assumption | exact RoOk_mono (by assumption) (by omega) | exact RoOk_step (by assumption) (by omega) | omega), (show RoOk 2 y3881 skf by first | assumption | exact RoOk_mono (by assumption) (by omega) | exact RoOk_step (by assumption) (by omega) | omega), (show WkOk y3881 skw by first | assumption | exact WkOk_mono (by assumption) (by omega) | exact WkOk_step (by assumption) (by omega) | omega)⟩ (Nat.le_of_ble_eq_true rfl) (Nat.le_of_ble_eq_true rfl)
