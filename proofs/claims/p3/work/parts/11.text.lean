def LtOk (l : Nat) (lt : Nat → Int32) : Prop := ∀ i, i < l → ∃ k, 1 ≤ k ∧ k ≤ 45 ∧ lt i = nI k
def LaOk (l : Nat) (la : Nat → Nat → Int32) : Prop := ∀ i f, i < l → f ≤ 1 → la i f = -1 ∨ ∃ g, g ≤ 1 ∧ la i f = nI g
theorem EOk_zero (n : Nat) (row : Nat → Int32) : EOk n 0 0 0 row := ⟨by decide, by decide, by decide, fun i hi => absurd hi (Nat.not_lt_zero i)⟩
theorem EOk_same {n sz tm ft : Nat} {row row' : Nat → Int32} (h : EOk n sz tm ft row) (e : ∀ i, i < 60 → row' i = row i) : EOk n sz tm ft row' := ⟨h.1, h.2.1, h.2.2.1, fun i hi => by rw [e i (by have := h.1; omega)]; exact h.2.2.2 i hi⟩
theorem cpy60 (f g : Nat → Int32) : ∀ i, i < 60 → va_cpy f g 0 0 60 i = f i := fun i hi => by
  rw [pk_cpy_in (Nat.zero_le i) (by omega)]
  congr 1
  omega
theorem dX2_walkAll_0 : decode cX2_walkAll 0 = .ok (.aload_n 0, 1) := by decide +kernel
theorem dX2_walkAll_1 : decode cX2_walkAll 1 = .ok (.getfield 32, 3) := by decide +kernel
theorem dX2_walkAll_4 : decode cX2_walkAll 4 = .ok (.istore_n 3, 1) := by decide +kernel
theorem dX2_walkAll_5 : decode cX2_walkAll 5 = .ok (.aload_n 0, 1) := by decide +kernel
theorem dX2_walkAll_6 : decode cX2_walkAll 6 = .ok (.getfield 36, 3) := by decide +kernel
theorem dX2_walkAll_9 : decode cX2_walkAll 9 = .ok (.istore 4, 2) := by decide +kernel
theorem dX2_walkAll_11 : decode cX2_walkAll 11 = .ok (.aload_n 0, 1) := by decide +kernel
theorem dX2_walkAll_12 : decode cX2_walkAll 12 = .ok (.getfield 39, 3) := by decide +kernel
theorem dX2_walkAll_15 : decode cX2_walkAll 15 = .ok (.istore 5, 2) := by decide +kernel
theorem dX2_walkAll_17 : decode cX2_walkAll 17 = .ok (.iconst 0, 1) := by decide +kernel
theorem dX2_walkAll_18 : decode cX2_walkAll 18 = .ok (.istore 6, 2) := by decide +kernel
theorem dX2_walkAll_20 : decode cX2_walkAll 20 = .ok (.iload 6, 2) := by decide +kernel
theorem dX2_walkAll_22 : decode cX2_walkAll 22 = .ok (.aload_n 2, 1) := by decide +kernel
theorem dX2_walkAll_23 : decode cX2_walkAll 23 = .ok (.getfield 53, 3) := by decide +kernel
theorem iw_X10 : ∀ w ∈ u_ws RX10 TX10 4, w ∈ TT := nx_mems _ [312, 314, 316, 318] (by decide +kernel) (by decide +kernel)
theorem tw_307 : Cond.fieldLink RX2 53 "LimpCode$Text" "size" "I" ∈ TT := nx_mem 307 (by decide +kernel) (by decide +kernel)
theorem dX2_walkAll_26 : decode cX2_walkAll 26 = .ok (.if_icmp .ge 43, 3) := by decide +kernel
theorem dX2_walkAll_69 : decode cX2_walkAll 69 = .ok (.iconst 1, 1) := by decide +kernel
theorem dX2_walkAll_70 : decode cX2_walkAll 70 = .ok (.ireturn, 1) := by decide +kernel
theorem dX2_walkAll_29 : decode cX2_walkAll 29 = .ok (.aload_n 0, 1) := by decide +kernel
theorem dX2_walkAll_30 : decode cX2_walkAll 30 = .ok (.aload_n 1, 1) := by decide +kernel
theorem dX2_walkAll_31 : decode cX2_walkAll 31 = .ok (.aload_n 2, 1) := by decide +kernel
theorem dX2_walkAll_32 : decode cX2_walkAll 32 = .ok (.getfield 56, 3) := by decide +kernel
theorem tw_304 : Cond.fieldLink RX2 56 "LimpCode$Text" "row" "[I" ∈ TT := nx_mem 304 (by decide +kernel) (by decide +kernel)
theorem dX2_walkAll_35 : decode cX2_walkAll 35 = .ok (.iload 6, 2) := by decide +kernel
theorem dX2_walkAll_37 : decode cX2_walkAll 37 = .ok (.iaload, 1) := by decide +kernel
theorem dX2_walkAll_38 : decode cX2_walkAll 38 = .ok (.invokevirtual 57, 3) := by decide +kernel
theorem tw_771 : Cond.methodLink RX2 57 yX2_walkLetter ∈ TT := nx_mem 771 (by decide +kernel) (by decide +kernel)
theorem tw_773 : Cond.instanceMethod yX2_walkLetter ∈ TT := nx_mem 773 (by decide +kernel) (by decide +kernel)
theorem tw_15 : Cond.selects RX2 yX2_walkLetter yX2_walkLetter ∈ TT := nx_mem 15 (by decide +kernel) (by decide +kernel)
theorem tw_774 : Cond.code yX2_walkLetter cX2_walkLetter 4 (some .boolean) ∈ TT := nx_mem 774 (by decide +kernel) (by decide +kernel)
theorem dX2_walkAll_41 : decode cX2_walkAll 41 = .ok (.ifCond .ne 22, 3) := by decide +kernel
theorem dX2_walkAll_44 : decode cX2_walkAll 44 = .ok (.aload_n 0, 1) := by decide +kernel
theorem dX2_walkAll_45 : decode cX2_walkAll 45 = .ok (.iload_n 3, 1) := by decide +kernel
theorem dX2_walkAll_46 : decode cX2_walkAll 46 = .ok (.putfield 32, 3) := by decide +kernel
theorem dX2_walkAll_49 : decode cX2_walkAll 49 = .ok (.aload_n 0, 1) := by decide +kernel
theorem dX2_walkAll_50 : decode cX2_walkAll 50 = .ok (.iload 4, 2) := by decide +kernel
theorem dX2_walkAll_52 : decode cX2_walkAll 52 = .ok (.putfield 36, 3) := by decide +kernel
theorem dX2_walkAll_55 : decode cX2_walkAll 55 = .ok (.aload_n 0, 1) := by decide +kernel
theorem dX2_walkAll_56 : decode cX2_walkAll 56 = .ok (.iload 5, 2) := by decide +kernel
theorem dX2_walkAll_58 : decode cX2_walkAll 58 = .ok (.putfield 39, 3) := by decide +kernel
theorem dX2_walkAll_61 : decode cX2_walkAll 61 = .ok (.iconst 0, 1) := by decide +kernel
theorem dX2_walkAll_62 : decode cX2_walkAll 62 = .ok (.ireturn, 1) := by decide +kernel
theorem dX2_walkAll_63 : decode cX2_walkAll 63 = .ok (.iinc 6 1, 3) := by decide +kernel
theorem dX2_walkAll_66 : decode cX2_walkAll 66 = .ok (.goto (-46), 3) := by decide +kernel
theorem dX2_takenBy_0 : decode cX2_takenBy 0 = .ok (.iconst 0, 1) := by decide +kernel
theorem dX2_takenBy_1 : decode cX2_takenBy 1 = .ok (.istore_n 3, 1) := by decide +kernel
theorem dX2_takenBy_2 : decode cX2_takenBy 2 = .ok (.iconst 0, 1) := by decide +kernel
theorem dX2_takenBy_3 : decode cX2_takenBy 3 = .ok (.istore 4, 2) := by decide +kernel
theorem dX2_takenBy_5 : decode cX2_takenBy 5 = .ok (.iconst 0, 1) := by decide +kernel
theorem dX2_takenBy_6 : decode cX2_takenBy 6 = .ok (.istore 5, 2) := by decide +kernel
theorem dX2_takenBy_8 : decode cX2_takenBy 8 = .ok (.iload 5, 2) := by decide +kernel
theorem dX2_takenBy_10 : decode cX2_takenBy 10 = .ok (.aload_n 0, 1) := by decide +kernel
theorem dX2_takenBy_11 : decode cX2_takenBy 11 = .ok (.getfield 32, 3) := by decide +kernel
theorem dX2_takenBy_14 : decode cX2_takenBy 14 = .ok (.if_icmp .ge 55, 3) := by decide +kernel
theorem dX2_takenBy_69 : decode cX2_takenBy 69 = .ok (.iload_n 3, 1) := by decide +kernel
theorem dX2_takenBy_70 : decode cX2_takenBy 70 = .ok (.ireturn, 1) := by decide +kernel
theorem dX2_takenBy_17 : decode cX2_takenBy 17 = .ok (.aload_n 0, 1) := by decide +kernel
theorem dX2_takenBy_18 : decode cX2_takenBy 18 = .ok (.getfield 9, 3) := by decide +kernel
theorem dX2_takenBy_21 : decode cX2_takenBy 21 = .ok (.iload 5, 2) := by decide +kernel
theorem dX2_takenBy_23 : decode cX2_takenBy 23 = .ok (.iaload, 1) := by decide +kernel
theorem dX2_takenBy_24 : decode cX2_takenBy 24 = .ok (.istore 6, 2) := by decide +kernel
theorem dX2_takenBy_26 : decode cX2_takenBy 26 = .ok (.aload_n 1, 1) := by decide +kernel
theorem dX2_takenBy_27 : decode cX2_takenBy 27 = .ok (.getfield 81, 3) := by decide +kernel
theorem tw_188 : Cond.fieldLink RX2 81 "LimpCode$School" "sides" "[I" ∈ TT := nx_mem 188 (by decide +kernel) (by decide +kernel)
theorem dX2_takenBy_30 : decode cX2_takenBy 30 = .ok (.iload 6, 2) := by decide +kernel
theorem dX2_takenBy_32 : decode cX2_takenBy 32 = .ok (.iaload, 1) := by decide +kernel
theorem dX2_takenBy_33 : decode cX2_takenBy 33 = .ok (.iconst 3, 1) := by decide +kernel
theorem dX2_takenBy_34 : decode cX2_takenBy 34 = .ok (.if_icmp .eq 29, 3) := by decide +kernel
theorem dX2_takenBy_63 : decode cX2_takenBy 63 = .ok (.iinc 5 1, 3) := by decide +kernel
theorem dX2_takenBy_66 : decode cX2_takenBy 66 = .ok (.goto (-58), 3) := by decide +kernel
theorem dX2_takenBy_37 : decode cX2_takenBy 37 = .ok (.iload_n 3, 1) := by decide +kernel
theorem dX2_takenBy_38 : decode cX2_takenBy 38 = .ok (.iload 4, 2) := by decide +kernel
theorem dX2_takenBy_40 : decode cX2_takenBy 40 = .ok (.iload_n 2, 1) := by decide +kernel
theorem dX2_takenBy_41 : decode cX2_takenBy 41 = .ok (.if_icmp .ne 13, 3) := by decide +kernel
theorem dX2_takenBy_54 : decode cX2_takenBy 54 = .ok (.iconst 0, 1) := by decide +kernel
theorem dX2_takenBy_55 : decode cX2_takenBy 55 = .ok (.iadd, 1) := by decide +kernel
theorem dX2_takenBy_56 : decode cX2_takenBy 56 = .ok (.istore_n 3, 1) := by decide +kernel
theorem dX2_takenBy_57 : decode cX2_takenBy 57 = .ok (.iconst 1, 1) := by decide +kernel
theorem dX2_takenBy_58 : decode cX2_takenBy 58 = .ok (.iload 4, 2) := by decide +kernel
theorem dX2_takenBy_60 : decode cX2_takenBy 60 = .ok (.isub, 1) := by decide +kernel
theorem dX2_takenBy_61 : decode cX2_takenBy 61 = .ok (.istore 4, 2) := by decide +kernel
theorem dX2_takenBy_44 : decode cX2_takenBy 44 = .ok (.aload_n 1, 1) := by decide +kernel
theorem dX2_takenBy_45 : decode cX2_takenBy 45 = .ok (.getfield 50, 3) := by decide +kernel
theorem dX2_takenBy_48 : decode cX2_takenBy 48 = .ok (.iload 6, 2) := by decide +kernel
theorem dX2_takenBy_50 : decode cX2_takenBy 50 = .ok (.iaload, 1) := by decide +kernel
theorem dX2_takenBy_51 : decode cX2_takenBy 51 = .ok (.goto 4, 3) := by decide +kernel
theorem dX2_begin_0 : decode cX2_begin 0 = .ok (.aload_n 0, 1) := by decide +kernel
theorem dX2_begin_1 : decode cX2_begin 1 = .ok (.invokevirtual 18, 3) := by decide +kernel
theorem tw_735 : Cond.methodLink RX2 18 yX2_standStill ∈ TT := nx_mem 735 (by decide +kernel) (by decide +kernel)
theorem tw_736 : Cond.instanceMethod yX2_standStill ∈ TT := nx_mem 736 (by decide +kernel) (by decide +kernel)
theorem tw_737 : Cond.selects RX2 yX2_standStill yX2_standStill ∈ TT := nx_mem 737 (by decide +kernel) (by decide +kernel)
theorem tw_738 : Cond.code yX2_standStill cX2_standStill 1 none ∈ TT := nx_mem 738 (by decide +kernel) (by decide +kernel)
theorem dX2_begin_4 : decode cX2_begin 4 = .ok (.aload_n 1, 1) := by decide +kernel
theorem dX2_begin_5 : decode cX2_begin 5 = .ok (.getfield 21, 3) := by decide +kernel
theorem tw_183 : Cond.fieldLink RX2 21 "LimpCode$School" "toldLoud" "[I" ∈ TT := nx_mem 183 (by decide +kernel) (by decide +kernel)
theorem dX2_begin_8 : decode cX2_begin 8 = .ok (.iconst 0, 1) := by decide +kernel
theorem dX2_begin_9 : decode cX2_begin 9 = .ok (.aload_n 0, 1) := by decide +kernel
theorem dX2_begin_10 : decode cX2_begin 10 = .ok (.getfield 15, 3) := by decide +kernel
theorem dX2_begin_13 : decode cX2_begin 13 = .ok (.iconst 0, 1) := by decide +kernel
theorem dX2_begin_14 : decode cX2_begin 14 = .ok (.bipush 6, 2) := by decide +kernel
theorem dX2_begin_16 : decode cX2_begin 16 = .ok (.invokestatic 26, 3) := by decide +kernel
theorem tw_739 : Cond.methodLink RX2 26 arraycopyName ∈ TT := nx_mem 739 (by decide +kernel) (by decide +kernel)
theorem tw_741 : Cond.native arraycopyName ∈ TT := nx_mem 741 (by decide +kernel) (by decide +kernel)
theorem tw_740 : Cond.static arraycopyName ∈ TT := nx_mem 740 (by decide +kernel) (by decide +kernel)
theorem tw_104 : Cond.initialized "java/lang/System" ∈ TT := nx_mem 104 (by decide +kernel) (by decide +kernel)
theorem dX2_begin_19 : decode cX2_begin 19 = .ok (.return_, 1) := by decide +kernel
theorem dX2_copyFrom_0 : decode cX2_copyFrom 0 = .ok (.aload_n 1, 1) := by decide +kernel
theorem dX2_copyFrom_1 : decode cX2_copyFrom 1 = .ok (.getfield 9, 3) := by decide +kernel
theorem dX2_copyFrom_4 : decode cX2_copyFrom 4 = .ok (.iconst 0, 1) := by decide +kernel
theorem dX2_copyFrom_5 : decode cX2_copyFrom 5 = .ok (.aload_n 0, 1) := by decide +kernel
theorem dX2_copyFrom_6 : decode cX2_copyFrom 6 = .ok (.getfield 9, 3) := by decide +kernel
theorem dX2_copyFrom_9 : decode cX2_copyFrom 9 = .ok (.iconst 0, 1) := by decide +kernel
theorem dX2_copyFrom_10 : decode cX2_copyFrom 10 = .ok (.bipush 60, 2) := by decide +kernel
theorem dX2_copyFrom_12 : decode cX2_copyFrom 12 = .ok (.invokestatic 26, 3) := by decide +kernel
theorem dX2_copyFrom_15 : decode cX2_copyFrom 15 = .ok (.aload_n 1, 1) := by decide +kernel
theorem dX2_copyFrom_16 : decode cX2_copyFrom 16 = .ok (.getfield 15, 3) := by decide +kernel
theorem dX2_copyFrom_19 : decode cX2_copyFrom 19 = .ok (.iconst 0, 1) := by decide +kernel
theorem dX2_copyFrom_20 : decode cX2_copyFrom 20 = .ok (.aload_n 0, 1) := by decide +kernel
theorem dX2_copyFrom_21 : decode cX2_copyFrom 21 = .ok (.getfield 15, 3) := by decide +kernel
theorem dX2_copyFrom_24 : decode cX2_copyFrom 24 = .ok (.iconst 0, 1) := by decide +kernel
theorem dX2_copyFrom_25 : decode cX2_copyFrom 25 = .ok (.bipush 6, 2) := by decide +kernel
theorem dX2_copyFrom_27 : decode cX2_copyFrom 27 = .ok (.invokestatic 26, 3) := by decide +kernel
theorem dX2_copyFrom_30 : decode cX2_copyFrom 30 = .ok (.aload_n 0, 1) := by decide +kernel
theorem dX2_copyFrom_31 : decode cX2_copyFrom 31 = .ok (.aload_n 1, 1) := by decide +kernel
theorem dX2_copyFrom_32 : decode cX2_copyFrom 32 = .ok (.getfield 32, 3) := by decide +kernel
theorem dX2_copyFrom_35 : decode cX2_copyFrom 35 = .ok (.putfield 32, 3) := by decide +kernel
theorem dX2_copyFrom_38 : decode cX2_copyFrom 38 = .ok (.aload_n 0, 1) := by decide +kernel
theorem dX2_copyFrom_39 : decode cX2_copyFrom 39 = .ok (.aload_n 1, 1) := by decide +kernel
theorem dX2_copyFrom_40 : decode cX2_copyFrom 40 = .ok (.getfield 36, 3) := by decide +kernel
theorem dX2_copyFrom_43 : decode cX2_copyFrom 43 = .ok (.putfield 36, 3) := by decide +kernel
theorem dX2_copyFrom_46 : decode cX2_copyFrom 46 = .ok (.aload_n 0, 1) := by decide +kernel
theorem dX2_copyFrom_47 : decode cX2_copyFrom 47 = .ok (.aload_n 1, 1) := by decide +kernel
theorem dX2_copyFrom_48 : decode cX2_copyFrom 48 = .ok (.getfield 39, 3) := by decide +kernel
theorem dX2_copyFrom_51 : decode cX2_copyFrom 51 = .ok (.putfield 39, 3) := by decide +kernel
theorem dX2_copyFrom_54 : decode cX2_copyFrom 54 = .ok (.return_, 1) := by decide +kernel
theorem dX10_clear_0 : decode cX10_clear 0 = .ok (.aload_n 0, 1) := by decide +kernel
theorem dX10_clear_1 : decode cX10_clear 1 = .ok (.iconst 0, 1) := by decide +kernel
theorem dX10_clear_2 : decode cX10_clear 2 = .ok (.putfield 15, 3) := by decide +kernel
theorem tw_305 : Cond.fieldLink RX10 15 "LimpCode$Text" "size" "I" ∈ TT := nx_mem 305 (by decide +kernel) (by decide +kernel)
theorem dX10_clear_5 : decode cX10_clear 5 = .ok (.aload_n 0, 1) := by decide +kernel
theorem dX10_clear_6 : decode cX10_clear 6 = .ok (.iconst 0, 1) := by decide +kernel
theorem dX10_clear_7 : decode cX10_clear 7 = .ok (.putfield 19, 3) := by decide +kernel
theorem tw_309 : Cond.fieldLink RX10 19 "LimpCode$Text" "time" "I" ∈ TT := nx_mem 309 (by decide +kernel) (by decide +kernel)
theorem dX10_clear_10 : decode cX10_clear 10 = .ok (.aload_n 0, 1) := by decide +kernel
theorem dX10_clear_11 : decode cX10_clear 11 = .ok (.iconst 0, 1) := by decide +kernel
theorem dX10_clear_12 : decode cX10_clear 12 = .ok (.putfield 22, 3) := by decide +kernel
theorem tw_311 : Cond.fieldLink RX10 22 "LimpCode$Text" "foot" "I" ∈ TT := nx_mem 311 (by decide +kernel) (by decide +kernel)
theorem dX10_clear_15 : decode cX10_clear 15 = .ok (.return_, 1) := by decide +kernel
theorem dX10_add_0 : decode cX10_add 0 = .ok (.aload_n 1, 1) := by decide +kernel
theorem dX10_add_1 : decode cX10_add 1 = .ok (.iload_n 2, 1) := by decide +kernel
theorem dX10_add_2 : decode cX10_add 2 = .ok (.invokevirtual 25, 3) := by decide +kernel
theorem tw_951 : Cond.methodLink RX10 25 yX5_hasLetter ∈ TT := nx_mem 951 (by decide +kernel) (by decide +kernel)
theorem dX10_add_5 : decode cX10_add 5 = .ok (.ifCond .eq 15, 3) := by decide +kernel
theorem dX10_add_20 : decode cX10_add 20 = .ok (.iconst 0, 1) := by decide +kernel
theorem dX10_add_21 : decode cX10_add 21 = .ok (.ireturn, 1) := by decide +kernel
theorem dX10_add_8 : decode cX10_add 8 = .ok (.aload_n 0, 1) := by decide +kernel
theorem dX10_add_9 : decode cX10_add 9 = .ok (.getfield 15, 3) := by decide +kernel
theorem dX10_add_12 : decode cX10_add 12 = .ok (.aload_n 0, 1) := by decide +kernel
theorem dX10_add_13 : decode cX10_add 13 = .ok (.getfield 9, 3) := by decide +kernel
theorem tw_302 : Cond.fieldLink RX10 9 "LimpCode$Text" "row" "[I" ∈ TT := nx_mem 302 (by decide +kernel) (by decide +kernel)
theorem dX10_add_16 : decode cX10_add 16 = .ok (.arraylength, 1) := by decide +kernel
theorem dX10_add_17 : decode cX10_add 17 = .ok (.if_icmp .lt 5, 3) := by decide +kernel
theorem dX10_add_22 : decode cX10_add 22 = .ok (.aload_n 1, 1) := by decide +kernel
theorem dX10_add_23 : decode cX10_add 23 = .ok (.getfield 31, 3) := by decide +kernel
theorem tw_205 : Cond.fieldLink RX10 31 "LimpCode$School" "letterAfter" "[[I" ∈ TT := nx_mem 205 (by decide +kernel) (by decide +kernel)
theorem dX10_add_26 : decode cX10_add 26 = .ok (.iload_n 2, 1) := by decide +kernel
theorem dX10_add_27 : decode cX10_add 27 = .ok (.aaload, 1) := by decide +kernel
theorem dX10_add_28 : decode cX10_add 28 = .ok (.aload_n 0, 1) := by decide +kernel
theorem dX10_add_29 : decode cX10_add 29 = .ok (.getfield 22, 3) := by decide +kernel
theorem dX10_add_32 : decode cX10_add 32 = .ok (.iaload, 1) := by decide +kernel
theorem dX10_add_33 : decode cX10_add 33 = .ok (.istore_n 3, 1) := by decide +kernel
theorem dX10_add_34 : decode cX10_add 34 = .ok (.iload_n 3, 1) := by decide +kernel
theorem dX10_add_35 : decode cX10_add 35 = .ok (.iconst (-1), 1) := by decide +kernel
theorem dX10_add_36 : decode cX10_add 36 = .ok (.if_icmp .eq 19, 3) := by decide +kernel
theorem dX10_add_55 : decode cX10_add 55 = .ok (.iconst 0, 1) := by decide +kernel
theorem dX10_add_56 : decode cX10_add 56 = .ok (.ireturn, 1) := by decide +kernel
theorem dX10_add_39 : decode cX10_add 39 = .ok (.aload_n 0, 1) := by decide +kernel
theorem dX10_add_40 : decode cX10_add 40 = .ok (.getfield 19, 3) := by decide +kernel
theorem dX10_add_43 : decode cX10_add 43 = .ok (.aload_n 1, 1) := by decide +kernel
theorem dX10_add_44 : decode cX10_add 44 = .ok (.getfield 35, 3) := by decide +kernel
theorem tw_202 : Cond.fieldLink RX10 35 "LimpCode$School" "letterTakes" "[I" ∈ TT := nx_mem 202 (by decide +kernel) (by decide +kernel)
theorem dX10_add_47 : decode cX10_add 47 = .ok (.iload_n 2, 1) := by decide +kernel
theorem dX10_add_48 : decode cX10_add 48 = .ok (.iaload, 1) := by decide +kernel
theorem dX10_add_49 : decode cX10_add 49 = .ok (.iadd, 1) := by decide +kernel
theorem dX10_add_50 : decode cX10_add 50 = .ok (.bipush 60, 2) := by decide +kernel
theorem dX10_add_52 : decode cX10_add 52 = .ok (.if_icmp .le 5, 3) := by decide +kernel
theorem dX10_add_57 : decode cX10_add 57 = .ok (.aload_n 0, 1) := by decide +kernel
theorem dX10_add_58 : decode cX10_add 58 = .ok (.getfield 9, 3) := by decide +kernel
theorem dX10_add_61 : decode cX10_add 61 = .ok (.aload_n 0, 1) := by decide +kernel
theorem dX10_add_62 : decode cX10_add 62 = .ok (.getfield 15, 3) := by decide +kernel
theorem dX10_add_65 : decode cX10_add 65 = .ok (.iload_n 2, 1) := by decide +kernel
theorem dX10_add_66 : decode cX10_add 66 = .ok (.iastore, 1) := by decide +kernel
theorem dX10_add_67 : decode cX10_add 67 = .ok (.aload_n 0, 1) := by decide +kernel
theorem dX10_add_68 : decode cX10_add 68 = .ok (.dup, 1) := by decide +kernel
theorem dX10_add_69 : decode cX10_add 69 = .ok (.getfield 15, 3) := by decide +kernel
theorem dX10_add_72 : decode cX10_add 72 = .ok (.iconst 1, 1) := by decide +kernel
theorem dX10_add_73 : decode cX10_add 73 = .ok (.iadd, 1) := by decide +kernel
theorem dX10_add_74 : decode cX10_add 74 = .ok (.putfield 15, 3) := by decide +kernel
theorem dX10_add_77 : decode cX10_add 77 = .ok (.aload_n 0, 1) := by decide +kernel
theorem dX10_add_78 : decode cX10_add 78 = .ok (.dup, 1) := by decide +kernel
theorem dX10_add_79 : decode cX10_add 79 = .ok (.getfield 19, 3) := by decide +kernel
theorem dX10_add_82 : decode cX10_add 82 = .ok (.aload_n 1, 1) := by decide +kernel
theorem dX10_add_83 : decode cX10_add 83 = .ok (.getfield 35, 3) := by decide +kernel
theorem dX10_add_86 : decode cX10_add 86 = .ok (.iload_n 2, 1) := by decide +kernel
theorem dX10_add_87 : decode cX10_add 87 = .ok (.iaload, 1) := by decide +kernel
theorem dX10_add_88 : decode cX10_add 88 = .ok (.iadd, 1) := by decide +kernel
theorem dX10_add_89 : decode cX10_add 89 = .ok (.putfield 19, 3) := by decide +kernel
theorem dX10_add_92 : decode cX10_add 92 = .ok (.aload_n 0, 1) := by decide +kernel
theorem dX10_add_93 : decode cX10_add 93 = .ok (.iload_n 3, 1) := by decide +kernel
theorem dX10_add_94 : decode cX10_add 94 = .ok (.putfield 22, 3) := by decide +kernel
theorem dX10_add_97 : decode cX10_add 97 = .ok (.iconst 1, 1) := by decide +kernel
theorem dX10_add_98 : decode cX10_add 98 = .ok (.ireturn, 1) := by decide +kernel
set_option maxHeartbeats 4000000 in
set_option maxRecDepth 100000 in
theorem g_X2_walkAll (lau : Launch) (gg : va_G) (kA : Nat → ClassId) (h0 : Nat) (a0 : Nat) (a1 : Nat) (s : Nat) (c0 : Nat) (c1 : Nat) (c2 : Nat) (c3 : Nat) (c4 : Nat) (c5 : Nat) (c6 : Nat) (c7 : Nat) (c8 : Nat) (c9 : Nat) (c10 : Nat) (c11 : Nat) (t : Nat) (t0 : Nat) (n : Nat) (l : Nat) (e : Nat) (sz : Nat) (tm : Nat) (ft : Nat) (kp : Int32) (row : Nat → Int32) (tk : Nat → Int32) (sd : Nat → Int32) (szs : Nat → Int32) (rws : Nat → Nat → Int32) (tz : Nat) (tt : Int32) (tf : Int32) (trow : Nat → Int32) (hn : n ≤ 6) (hl : l ≤ 10) (htk : TkOk n tk) (hss : SzOk l szs) (hrw : RwOk l n szs rws) (hE : EOk n sz tm ft row) (htz : tz ≤ 60) (htr : ∀ i, i < tz → ∃ k, k < l ∧ trow i = nI k) : CtI lau yX2_walkAll cX2_walkAll 7 (some .boolean) 5 0 0 gg kA [.ref h0, .ref s, .ref t] (mflat [(h0, .inl (.inr (2, [.ref a0, .ref a1, .int (nI sz), .int (nI tm), .int (nI ft), .int kp]))), (a0, .inl (.inl (kA 1, 60, .inl row))), (s, .inl (.inr (5, [.ref c0, .ref c1, .ref c2, .ref c3, .ref c4, .ref c5, .ref c6, .ref c7, .ref c8, .ref c9, .ref c10, .ref c11, .int (nI n), .int (nI l), .int (nI e)]))), (c1, .inl (.inl (kA 1, 6, .inl tk))), (c3, .inl (.inl (kA 1, 6, .inl sd))), (c5, .inl (.inl (kA 1, 10, .inl szs))), (c6, .inr (kA 6, kA 1, 10, 5, .inl rws)), (t, .inl (.inr (10, [.ref t0, .int (nI tz), .int tt, .int tf]))), (t0, .inl (.inl (kA 1, 60, .inl trow)))]) (S := Nat × Nat × Nat × (Nat → Int32)) (fun (r : Int32) ((sz1, tm1, ft1, row1) : Nat × Nat × Nat × (Nat → Int32)) => (r = 0 ∨ r = 1) ∧ EOk n sz1 tm1 ft1 row1) (fun ((sz1, tm1, ft1, row1) : Nat × Nat × Nat × (Nat → Int32)) => mflat [(h0, .inl (.inr (2, [.ref a0, .ref a1, .int (nI sz1), .int (nI tm1), .int (nI ft1), .int kp]))), (a0, .inl (.inl (kA 1, 60, .inl row1))), (s, .inl (.inr (5, [.ref c0, .ref c1, .ref c2, .ref c3, .ref c4, .ref c5, .ref c6, .ref c7, .ref c8, .ref c9, .ref c10, .ref c11, .int (nI n), .int (nI l), .int (nI e)]))), (c1, .inl (.inl (kA 1, 6, .inl tk))), (c3, .inl (.inl (kA 1, 6, .inl sd))), (c5, .inl (.inl (kA 1, 10, .inl szs))), (c6, .inr (kA 6, kA 1, 10, 5, .inl rws)), (t, .inl (.inr (10, [.ref t0, .int (nI tz), .int tt, .int tf]))), (t0, .inl (.inl (kA 1, 60, .inl trow)))]) := by
  refine nx_startI (by decide +kernel) (Nat.le_of_ble_eq_true rfl) ?_
  intro x hnm h hq
  have h : Ok x cX2_walkAll RX2 kA (rmC 5 0 0) 7 := h
  show J x (mflat [(h0, .inl (.inr (2, [.ref a0, .ref a1, .int (nI sz), .int (nI tm), .int (nI ft), .int kp]))), (a0, .inl (.inl (kA 1, 60, .inl row))), (s, .inl (.inr (5, [.ref c0, .ref c1, .ref c2, .ref c3, .ref c4, .ref c5, .ref c6, .ref c7, .ref c8, .ref c9, .ref c10, .ref c11, .int (nI n), .int (nI l), .int (nI e)]))), (c1, .inl (.inl (kA 1, 6, .inl tk))), (c3, .inl (.inl (kA 1, 6, .inl sd))), (c5, .inl (.inl (kA 1, 10, .inl szs))), (c6, .inr (kA 6, kA 1, 10, 5, .inl rws)), (t, .inl (.inr (10, [.ref t0, .int (nI tz), .int tt, .int tf]))), (t0, .inl (.inl (kA 1, 60, .inl trow)))]) [(0, .ref h0), (1, .ref s), (2, .ref t)] 0 0 0 []
  refine j_aload_n h 0 rfl rfl dX2_walkAll_0 ?_
  refine jm_get h iw_X2 0 rfl rfl 2 (by decide) tw_274 rfl dX2_walkAll_1 ?_
  refine j_istore_n (lv' := [(3, .int (nI sz)), (0, .ref h0), (1, .ref s), (2, .ref t)]) h dX2_walkAll_4 rfl (by decide) rfl ?_
  refine j_aload_n h 1 rfl rfl dX2_walkAll_5 ?_
  refine jm_get h iw_X2 0 rfl rfl 3 (by decide) tw_276 rfl dX2_walkAll_6 ?_
  refine j_istore (lv' := [(4, .int (nI tm)), (3, .int (nI sz)), (0, .ref h0), (1, .ref s), (2, .ref t)]) h dX2_walkAll_9 (by decide) rfl ?_
  refine j_aload_n h 2 rfl rfl dX2_walkAll_11 ?_
  refine jm_get h iw_X2 0 rfl rfl 4 (by decide) tw_278 rfl dX2_walkAll_12 ?_
  refine j_istore (lv' := [(5, .int (nI ft)), (4, .int (nI tm)), (3, .int (nI sz)), (0, .ref h0), (1, .ref s), (2, .ref t)]) h dX2_walkAll_15 (by decide) rfl ?_
  refine j_iconst (v := 0) h (by decide) dX2_walkAll_17 ?_
  refine j_istore (lv' := [(6, .int 0), (5, .int (nI ft)), (4, .int (nI tm)), (3, .int (nI sz)), (0, .ref h0), (1, .ref s), (2, .ref t)]) h dX2_walkAll_18 (by decide) rfl ?_
  have lp20_4 : ∀ (n20_4 k20_4 : Nat), k20_4 + n20_4 = tz → ∀ (f20_4_0 : Nat → Int32) (z20_4 : Nat) (t20_4 : Nat) (f20_4 : Nat), (EOk n z20_4 t20_4 f20_4 f20_4_0 ∧ sz ≤ z20_4) → J x (mflat [(h0, .inl (.inr (2, [.ref a0, .ref a1, .int (nI z20_4), .int (nI t20_4), .int (nI f20_4), .int kp]))), (a0, .inl (.inl (kA 1, 60, .inl f20_4_0))), (s, .inl (.inr (5, [.ref c0, .ref c1, .ref c2, .ref c3, .ref c4, .ref c5, .ref c6, .ref c7, .ref c8, .ref c9, .ref c10, .ref c11, .int (nI n), .int (nI l), .int (nI e)]))), (c1, .inl (.inl (kA 1, 6, .inl tk))), (c3, .inl (.inl (kA 1, 6, .inl sd))), (c5, .inl (.inl (kA 1, 10, .inl szs))), (c6, .inr (kA 6, kA 1, 10, 5, .inl rws)), (t, .inl (.inr (10, [.ref t0, .int (nI tz), .int tt, .int tf]))), (t0, .inl (.inl (kA 1, 60, .inl trow)))]) [(6, .int (nI k20_4)), (0, .ref h0), (1, .ref s), (2, .ref t), (3, .int (nI sz)), (4, .int (nI tm)), (5, .int (nI ft))] 0 0 20 [] := by
    intro n20_4
    induction n20_4 with
    | zero =>
      intro k20_4 hk20_4 f20_4_0 z20_4 t20_4 f20_4 inv20_4
      have hN20_4 : tz = k20_4 := by omega
      subst hN20_4
      refine j_iload h 0 rfl dX2_walkAll_20 ?_
      refine j_aload_n h 3 rfl rfl dX2_walkAll_22 ?_
      refine jm_get h iw_X10 7 rfl rfl 1 (by decide) tw_307 rfl dX2_walkAll_23 ?_
      refine j_icmp_ge h 69 dX2_walkAll_26 (by decide) (fun _ => ?_) (fun q => absurd (Int32.le_refl _) q)
      refine j_iconst (v := 1) h (by decide) dX2_walkAll_69 ?_
      exact jm_zret h hq rfl dX2_walkAll_70 (z20_4, t20_4, f20_4, f20_4_0) [0, 1, 2, 3, 4, 5, 6, 7, 8] rfl (by decide) ⟨Or.inr rfl, inv20_4.1⟩ (Nat.le_of_ble_eq_true rfl) (Nat.le_of_ble_eq_true rfl)
    | succ n20_4 ih20_4 =>
      intro k20_4 hk20_4 f20_4_0 z20_4 t20_4 f20_4 inv20_4
      have hlt20_4 : k20_4 < tz := by omega
      refine j_iload h 0 rfl dX2_walkAll_20 ?_
      refine j_aload_n h 3 rfl rfl dX2_walkAll_22 ?_
      refine jm_get h iw_X10 7 rfl rfl 1 (by decide) tw_307 rfl dX2_walkAll_23 ?_
      refine j_icmp_ge h 69 dX2_walkAll_26 (by decide) (fun q => absurd q (nI_ge hlt20_4 (by omega))) (fun _ => ?_)
      refine j_aload_n h 1 rfl rfl dX2_walkAll_29 ?_
      refine j_aload_n h 2 rfl rfl dX2_walkAll_30 ?_
      refine j_aload_n h 3 rfl rfl dX2_walkAll_31 ?_
      refine jm_get h iw_X10 7 rfl rfl 0 (by decide) tw_304 rfl dX2_walkAll_32 ?_
      refine j_iload h 0 rfl dX2_walkAll_35 ?_
      refine jm_iald h 8 rfl k20_4 rfl (by omega) (by omega) dX2_walkAll_37 ?_
      obtain ⟨j41, hj42, hje43⟩ := htr k20_4 (by omega)
      refine j_top (b := nI j41) (hje43) ?_
      refine jm_callVi (np := 2) (isC := [0, 1, 2, 3, 4, 5, 6]) (isR := [7, 8]) (wc := [(h0, .inl (.inr (2, [.ref a0, .ref a1, .int (nI z20_4), .int (nI t20_4), .int (nI f20_4), .int kp]))), (a0, .inl (.inl (kA 1, 60, .inl f20_4_0))), (s, .inl (.inr (5, [.ref c0, .ref c1, .ref c2, .ref c3, .ref c4, .ref c5, .ref c6, .ref c7, .ref c8, .ref c9, .ref c10, .ref c11, .int (nI n), .int (nI l), .int (nI e)]))), (c1, .inl (.inl (kA 1, 6, .inl tk))), (c3, .inl (.inl (kA 1, 6, .inl sd))), (c5, .inl (.inl (kA 1, 10, .inl szs))), (c6, .inr (kA 6, kA 1, 10, 5, .inl rws))]) (wr := [(t, .inl (.inr (10, [.ref t0, .int (nI tz), .int tt, .int tf]))), (t0, .inl (.inl (kA 1, 60, .inl trow)))]) (rest := []) (As := [.ref s, .int (nI j41)]) (q0 := 0) h (g_X2_walkLetter _ _ kA h0 a0 a1 s c0 c1 c2 c3 c4 c5 c6 c7 c8 c9 c10 c11 n l e z20_4 t20_4 f20_4 kp f20_4_0 tk sd szs rws (nI j41) hn hl htk hss hrw inv20_4.1) tw_771 tw_773 tw_15 tw_91 tw_774 (by decide +kernel) rfl ⟨Nat.le_of_ble_eq_true rfl, Nat.le_of_ble_eq_true rfl⟩ rfl rfl (by decide) rfl rfl (by decide) (by decide) (Nat.le_of_ble_eq_true rfl) rfl ⟨Nat.le_of_ble_eq_true rfl, Nat.le_of_ble_eq_true rfl⟩ dX2_walkAll_38 ?_
      rintro r49 ⟨q44, q45, q46, q47⟩ e48
      obtain ⟨hr52, hE50, hs51⟩ := e48
      show J x (mflat [(t, .inl (.inr (10, [.ref t0, .int (nI tz), .int tt, .int tf]))), (t0, .inl (.inl (kA 1, 60, .inl trow))), (h0, .inl (.inr (2, [.ref a0, .ref a1, .int (nI q44), .int (nI q45), .int (nI q46), .int kp]))), (a0, .inl (.inl (kA 1, 60, .inl q47))), (s, .inl (.inr (5, [.ref c0, .ref c1, .ref c2, .ref c3, .ref c4, .ref c5, .ref c6, .ref c7, .ref c8, .ref c9, .ref c10, .ref c11, .int (nI n), .int (nI l), .int (nI e)]))), (c1, .inl (.inl (kA 1, 6, .inl tk))), (c3, .inl (.inl (kA 1, 6, .inl sd))), (c5, .inl (.inl (kA 1, 10, .inl szs))), (c6, .inr (kA 6, kA 1, 10, 5, .inl rws))]) [(6, .int (nI k20_4)), (0, .ref h0), (1, .ref s), (2, .ref t), (3, .int (nI sz)), (4, .int (nI tm)), (5, .int (nI ft))] 0 0 41 [.int r49]
      rcases hr52 with rfl | rfl
      · refine j_if_ne h 63 dX2_walkAll_41 (by decide) (fun q => absurd (by decide) q) (fun _ => ?_)
        refine j_aload_n h 1 rfl rfl dX2_walkAll_44 ?_
        refine j_iload_n h 4 rfl rfl dX2_walkAll_45 ?_
        refine jm_put (w' := [(t, .inl (.inr (10, [.ref t0, .int (nI tz), .int tt, .int tf]))), (t0, .inl (.inl (kA 1, 60, .inl trow))), (h0, .inl (.inr (2, [.ref a0, .ref a1, .int (nI sz), .int (nI q45), .int (nI q46), .int kp]))), (a0, .inl (.inl (kA 1, 60, .inl q47))), (s, .inl (.inr (5, [.ref c0, .ref c1, .ref c2, .ref c3, .ref c4, .ref c5, .ref c6, .ref c7, .ref c8, .ref c9, .ref c10, .ref c11, .int (nI n), .int (nI l), .int (nI e)]))), (c1, .inl (.inl (kA 1, 6, .inl tk))), (c3, .inl (.inl (kA 1, 6, .inl sd))), (c5, .inl (.inl (kA 1, 10, .inl szs))), (c6, .inr (kA 6, kA 1, 10, 5, .inl rws))]) h iw_X2 tyX2 tyX2_ok nmX2 2 rfl rfl 2 (by decide) tw_274 rfl rfl rfl (Nat.le_of_ble_eq_true rfl) dX2_walkAll_46 rfl ?_
        refine j_aload_n h 1 rfl rfl dX2_walkAll_49 ?_
        refine j_iload h 5 rfl dX2_walkAll_50 ?_
        refine jm_put (w' := [(t, .inl (.inr (10, [.ref t0, .int (nI tz), .int tt, .int tf]))), (t0, .inl (.inl (kA 1, 60, .inl trow))), (h0, .inl (.inr (2, [.ref a0, .ref a1, .int (nI sz), .int (nI tm), .int (nI q46), .int kp]))), (a0, .inl (.inl (kA 1, 60, .inl q47))), (s, .inl (.inr (5, [.ref c0, .ref c1, .ref c2, .ref c3, .ref c4, .ref c5, .ref c6, .ref c7, .ref c8, .ref c9, .ref c10, .ref c11, .int (nI n), .int (nI l), .int (nI e)]))), (c1, .inl (.inl (kA 1, 6, .inl tk))), (c3, .inl (.inl (kA 1, 6, .inl sd))), (c5, .inl (.inl (kA 1, 10, .inl szs))), (c6, .inr (kA 6, kA 1, 10, 5, .inl rws))]) h iw_X2 tyX2 tyX2_ok nmX2 2 rfl rfl 3 (by decide) tw_276 rfl rfl rfl (Nat.le_of_ble_eq_true rfl) dX2_walkAll_52 rfl ?_
        refine j_aload_n h 1 rfl rfl dX2_walkAll_55 ?_
        refine j_iload h 6 rfl dX2_walkAll_56 ?_
        refine jm_put (w' := [(t, .inl (.inr (10, [.ref t0, .int (nI tz), .int tt, .int tf]))), (t0, .inl (.inl (kA 1, 60, .inl trow))), (h0, .inl (.inr (2, [.ref a0, .ref a1, .int (nI sz), .int (nI tm), .int (nI ft), .int kp]))), (a0, .inl (.inl (kA 1, 60, .inl q47))), (s, .inl (.inr (5, [.ref c0, .ref c1, .ref c2, .ref c3, .ref c4, .ref c5, .ref c6, .ref c7, .ref c8, .ref c9, .ref c10, .ref c11, .int (nI n), .int (nI l), .int (nI e)]))), (c1, .inl (.inl (kA 1, 6, .inl tk))), (c3, .inl (.inl (kA 1, 6, .inl sd))), (c5, .inl (.inl (kA 1, 10, .inl szs))), (c6, .inr (kA 6, kA 1, 10, 5, .inl rws))]) h iw_X2 tyX2 tyX2_ok nmX2 2 rfl rfl 4 (by decide) tw_278 rfl rfl rfl (Nat.le_of_ble_eq_true rfl) dX2_walkAll_58 rfl ?_
        refine j_iconst (v := 0) h (by decide) dX2_walkAll_61 ?_
        exact jm_zret h hq rfl dX2_walkAll_62 (sz, tm, ft, q47) [2, 3, 4, 5, 6, 7, 8, 0, 1] rfl (by decide) ⟨Or.inl rfl, EOk_back hE hE50 (Nat.le_trans inv20_4.2 hs51)⟩ (Nat.le_of_ble_eq_true rfl) (Nat.le_of_ble_eq_true rfl)
      · refine j_if_ne h 63 dX2_walkAll_41 (by decide) (fun _ => ?_) (fun q => absurd q (by decide))
        refine j_iinc (v := nI (k20_4 + 1)) (lv' := [(6, .int (nI (k20_4 + 1))), (0, .ref h0), (1, .ref s), (2, .ref t), (3, .int (nI sz)), (4, .int (nI tm)), (5, .int (nI ft))]) h dX2_walkAll_63 0 rfl (nI_1 k20_4) (by decide) rfl ?_
        refine j_goto h 20 dX2_walkAll_66 (by decide) ?_
        refine jm_sub [2, 3, 4, 5, 6, 7, 8, 0, 1] (w' := [(h0, .inl (.inr (2, [.ref a0, .ref a1, .int (nI q44), .int (nI q45), .int (nI q46), .int kp]))), (a0, .inl (.inl (kA 1, 60, .inl q47))), (s, .inl (.inr (5, [.ref c0, .ref c1, .ref c2, .ref c3, .ref c4, .ref c5, .ref c6, .ref c7, .ref c8, .ref c9, .ref c10, .ref c11, .int (nI n), .int (nI l), .int (nI e)]))), (c1, .inl (.inl (kA 1, 6, .inl tk))), (c3, .inl (.inl (kA 1, 6, .inl sd))), (c5, .inl (.inl (kA 1, 10, .inl szs))), (c6, .inr (kA 6, kA 1, 10, 5, .inl rws)), (t, .inl (.inr (10, [.ref t0, .int (nI tz), .int tt, .int tf]))), (t0, .inl (.inl (kA 1, 60, .inl trow)))]) rfl (by decide) [0, 1, 2, 3, 4, 5, 6] (lv' := [(6, .int (nI (k20_4 + 1))), (0, .ref h0), (1, .ref s), (2, .ref t), (3, .int (nI sz)), (4, .int (nI tm)), (5, .int (nI ft))]) rfl ?_
        exact ih20_4 (k20_4 + 1) (by omega) q47 q44 q45 q46 (⟨hE50, Nat.le_trans inv20_4.2 hs51⟩)
  refine jm_sub [0, 1, 2, 3, 4, 5, 6, 7, 8] (w' := [(h0, .inl (.inr (2, [.ref a0, .ref a1, .int (nI sz), .int (nI tm), .int (nI ft), .int kp]))), (a0, .inl (.inl (kA 1, 60, .inl row))), (s, .inl (.inr (5, [.ref c0, .ref c1, .ref c2, .ref c3, .ref c4, .ref c5, .ref c6, .ref c7, .ref c8, .ref c9, .ref c10, .ref c11, .int (nI n), .int (nI l), .int (nI e)]))), (c1, .inl (.inl (kA 1, 6, .inl tk))), (c3, .inl (.inl (kA 1, 6, .inl sd))), (c5, .inl (.inl (kA 1, 10, .inl szs))), (c6, .inr (kA 6, kA 1, 10, 5, .inl rws)), (t, .inl (.inr (10, [.ref t0, .int (nI tz), .int tt, .int tf]))), (t0, .inl (.inl (kA 1, 60, .inl trow)))]) rfl (by decide) [0, 4, 5, 6, 3, 2, 1] (lv' := [(6, .int 0), (0, .ref h0), (1, .ref s), (2, .ref t), (3, .int (nI sz)), (4, .int (nI tm)), (5, .int (nI ft))]) rfl ?_
  exact lp20_4 (tz - 0) 0 (by omega) row sz tm ft (⟨hE, Nat.le_refl _⟩)
set_option maxHeartbeats 4000000 in
set_option maxRecDepth 100000 in
theorem g_X2_takenBy (lau : Launch) (gg : va_G) (kA : Nat → ClassId) (h0 : Nat) (a0 : Nat) (a1 : Nat) (s : Nat) (c0 : Nat) (c1 : Nat) (c2 : Nat) (c3 : Nat) (c4 : Nat) (c5 : Nat) (c6 : Nat) (c7 : Nat) (c8 : Nat) (c9 : Nat) (c10 : Nat) (c11 : Nat) (n : Nat) (l : Nat) (e : Nat) (sz : Nat) (tm : Int32) (ft : Int32) (kp : Int32) (row : Nat → Int32) (tk : Nat → Int32) (sd : Nat → Int32) (wh : Int32) (hn : n ≤ 6) (hsz : sz ≤ 60) (hrow : ∀ i, i < sz → ∃ k, k < n ∧ row i = nI k) : CtI lau yX2_takenBy cX2_takenBy 7 (some .int) 1 0 0 gg kA [.ref h0, .ref s, .int wh] (mflat [(h0, .inl (.inr (2, [.ref a0, .ref a1, .int (nI sz), .int tm, .int ft, .int kp]))), (a0, .inl (.inl (kA 1, 60, .inl row))), (s, .inl (.inr (5, [.ref c0, .ref c1, .ref c2, .ref c3, .ref c4, .ref c5, .ref c6, .ref c7, .ref c8, .ref c9, .ref c10, .ref c11, .int (nI n), .int (nI l), .int (nI e)]))), (c1, .inl (.inl (kA 1, 6, .inl tk))), (c3, .inl (.inl (kA 1, 6, .inl sd)))]) (S := Unit) (fun (r : Int32) (_ : Unit) => True) (fun (_ : Unit) => mflat [(h0, .inl (.inr (2, [.ref a0, .ref a1, .int (nI sz), .int tm, .int ft, .int kp]))), (a0, .inl (.inl (kA 1, 60, .inl row))), (s, .inl (.inr (5, [.ref c0, .ref c1, .ref c2, .ref c3, .ref c4, .ref c5, .ref c6, .ref c7, .ref c8, .ref c9, .ref c10, .ref c11, .int (nI n), .int (nI l), .int (nI e)]))), (c1, .inl (.inl (kA 1, 6, .inl tk))), (c3, .inl (.inl (kA 1, 6, .inl sd)))]) := by
  refine nx_startI (by decide +kernel) (Nat.le_of_ble_eq_true rfl) ?_
  intro x hnm h hq
  have h : Ok x cX2_takenBy RX2 kA (rmC 1 0 0) 7 := h
  show J x (mflat [(h0, .inl (.inr (2, [.ref a0, .ref a1, .int (nI sz), .int tm, .int ft, .int kp]))), (a0, .inl (.inl (kA 1, 60, .inl row))), (s, .inl (.inr (5, [.ref c0, .ref c1, .ref c2, .ref c3, .ref c4, .ref c5, .ref c6, .ref c7, .ref c8, .ref c9, .ref c10, .ref c11, .int (nI n), .int (nI l), .int (nI e)]))), (c1, .inl (.inl (kA 1, 6, .inl tk))), (c3, .inl (.inl (kA 1, 6, .inl sd)))]) [(0, .ref h0), (1, .ref s), (2, .int wh)] 0 0 0 []
  refine j_iconst (v := 0) h (by decide) dX2_takenBy_0 ?_
  refine j_istore_n (lv' := [(3, .int 0), (0, .ref h0), (1, .ref s), (2, .int wh)]) h dX2_takenBy_1 rfl (by decide) rfl ?_
  refine j_iconst (v := 0) h (by decide) dX2_takenBy_2 ?_
  refine j_istore (lv' := [(4, .int 0), (3, .int 0), (0, .ref h0), (1, .ref s), (2, .int wh)]) h dX2_takenBy_3 (by decide) rfl ?_
  refine j_iconst (v := 0) h (by decide) dX2_takenBy_5 ?_
  refine j_istore (lv' := [(5, .int 0), (4, .int 0), (3, .int 0), (0, .ref h0), (1, .ref s), (2, .int wh)]) h dX2_takenBy_6 (by decide) rfl ?_
  have lp8_5 : ∀ (n8_5 k8_5 : Nat), k8_5 + n8_5 = sz → ∀ (ta8_5 : Int32) (tu8_5 : Int32), J x (mflat [(h0, .inl (.inr (2, [.ref a0, .ref a1, .int (nI sz), .int tm, .int ft, .int kp]))), (a0, .inl (.inl (kA 1, 60, .inl row))), (s, .inl (.inr (5, [.ref c0, .ref c1, .ref c2, .ref c3, .ref c4, .ref c5, .ref c6, .ref c7, .ref c8, .ref c9, .ref c10, .ref c11, .int (nI n), .int (nI l), .int (nI e)]))), (c1, .inl (.inl (kA 1, 6, .inl tk))), (c3, .inl (.inl (kA 1, 6, .inl sd)))]) [(5, .int (nI k8_5)), (3, .int ta8_5), (4, .int tu8_5), (0, .ref h0), (1, .ref s), (2, .int wh)] 0 0 8 [] := by
    intro n8_5
    induction n8_5 with
    | zero =>
      intro k8_5 hk8_5 ta8_5 tu8_5
      have hN8_5 : sz = k8_5 := by omega
      subst hN8_5
      refine j_iload h 0 rfl dX2_takenBy_8 ?_
      refine j_aload_n h 3 rfl rfl dX2_takenBy_10 ?_
      refine jm_get h iw_X2 0 rfl rfl 2 (by decide) tw_274 rfl dX2_takenBy_11 ?_
      refine j_icmp_ge h 69 dX2_takenBy_14 (by decide) (fun _ => ?_) (fun q => absurd (Int32.le_refl _) q)
      refine j_iload_n h 1 rfl rfl dX2_takenBy_69 ?_
      exact jm_iret h hq dX2_takenBy_70 () [0, 1, 2, 3, 4] rfl (by decide) trivial (Nat.le_of_ble_eq_true rfl) (Nat.le_of_ble_eq_true rfl)
    | succ n8_5 ih8_5 =>
      intro k8_5 hk8_5 ta8_5 tu8_5
      have hlt8_5 : k8_5 < sz := by omega
      refine j_iload h 0 rfl dX2_takenBy_8 ?_
      refine j_aload_n h 3 rfl rfl dX2_takenBy_10 ?_
      refine jm_get h iw_X2 0 rfl rfl 2 (by decide) tw_274 rfl dX2_takenBy_11 ?_
      refine j_icmp_ge h 69 dX2_takenBy_14 (by decide) (fun q => absurd q (nI_ge hlt8_5 (by omega))) (fun _ => ?_)
      refine j_aload_n h 3 rfl rfl dX2_takenBy_17 ?_
      refine jm_get h iw_X2 0 rfl rfl 0 (by decide) tw_271 rfl dX2_takenBy_18 ?_
      refine j_iload h 0 rfl dX2_takenBy_21 ?_
      refine jm_iald h 1 rfl k8_5 rfl (by omega) (by omega) dX2_takenBy_23 ?_
      obtain ⟨k, hk, hke⟩ := hrow k8_5 (by omega)
      refine j_top (b := nI k) (hke) ?_
      refine j_istore (lv' := [(6, .int (nI k)), (5, .int (nI k8_5)), (3, .int ta8_5), (4, .int tu8_5), (0, .ref h0), (1, .ref s), (2, .int wh)]) h dX2_takenBy_24 (by decide) rfl ?_
      refine j_aload_n h 5 rfl rfl dX2_takenBy_26 ?_
      refine jm_get h iw_X5 2 rfl rfl 3 (by decide) tw_188 rfl dX2_takenBy_27 ?_
      refine j_iload h 0 rfl dX2_takenBy_30 ?_
      refine jm_iald h 4 rfl k rfl (by omega) (by omega) dX2_takenBy_32 ?_
      refine j_iconst (v := 3) h (by decide) dX2_takenBy_33 ?_
      refine j_icmp_eq h 63 dX2_takenBy_34 (by decide) (fun z53 => ?_) (fun z53 => ?_)
      · refine j_iinc (v := nI (k8_5 + 1)) (lv' := [(5, .int (nI (k8_5 + 1))), (6, .int (nI k)), (3, .int ta8_5), (4, .int tu8_5), (0, .ref h0), (1, .ref s), (2, .int wh)]) h dX2_takenBy_63 1 rfl (nI_1 k8_5) (by decide) rfl ?_
        refine j_goto h 8 dX2_takenBy_66 (by decide) ?_
        refine jm_sub [0, 1, 2, 3, 4] (w' := [(h0, .inl (.inr (2, [.ref a0, .ref a1, .int (nI sz), .int tm, .int ft, .int kp]))), (a0, .inl (.inl (kA 1, 60, .inl row))), (s, .inl (.inr (5, [.ref c0, .ref c1, .ref c2, .ref c3, .ref c4, .ref c5, .ref c6, .ref c7, .ref c8, .ref c9, .ref c10, .ref c11, .int (nI n), .int (nI l), .int (nI e)]))), (c1, .inl (.inl (kA 1, 6, .inl tk))), (c3, .inl (.inl (kA 1, 6, .inl sd)))]) rfl (by decide) [0, 2, 3, 4, 5, 6] (lv' := [(5, .int (nI (k8_5 + 1))), (3, .int ta8_5), (4, .int tu8_5), (0, .ref h0), (1, .ref s), (2, .int wh)]) rfl ?_
        exact ih8_5 (k8_5 + 1) (by omega) ta8_5 tu8_5
      · refine j_iload_n h 2 rfl rfl dX2_takenBy_37 ?_
        refine j_iload h 3 rfl dX2_takenBy_38 ?_
        refine j_iload_n h 6 rfl rfl dX2_takenBy_40 ?_
        refine j_icmp_ne h 54 dX2_takenBy_41 (by decide) (fun z54 => ?_) (fun z54 => ?_)
        · refine j_iconst (v := 0) h (by decide) dX2_takenBy_54 ?_
          refine j_iadd h dX2_takenBy_55 ?_
          refine j_istore_n (lv' := [(3, .int (ta8_5 + 0)), (6, .int (nI k)), (5, .int (nI k8_5)), (4, .int tu8_5), (0, .ref h0), (1, .ref s), (2, .int wh)]) h dX2_takenBy_56 rfl (by decide) rfl ?_
          refine j_iconst (v := 1) h (by decide) dX2_takenBy_57 ?_
          refine j_iload h 3 rfl dX2_takenBy_58 ?_
          refine j_isub h dX2_takenBy_60 ?_
          refine j_istore (lv' := [(4, .int (1 - tu8_5)), (3, .int (ta8_5 + 0)), (6, .int (nI k)), (5, .int (nI k8_5)), (0, .ref h0), (1, .ref s), (2, .int wh)]) h dX2_takenBy_61 (by decide) rfl ?_
          refine j_iinc (v := nI (k8_5 + 1)) (lv' := [(5, .int (nI (k8_5 + 1))), (4, .int (1 - tu8_5)), (3, .int (ta8_5 + 0)), (6, .int (nI k)), (0, .ref h0), (1, .ref s), (2, .int wh)]) h dX2_takenBy_63 3 rfl (nI_1 k8_5) (by decide) rfl ?_
          refine j_goto h 8 dX2_takenBy_66 (by decide) ?_
          refine jm_sub [0, 1, 2, 3, 4] (w' := [(h0, .inl (.inr (2, [.ref a0, .ref a1, .int (nI sz), .int tm, .int ft, .int kp]))), (a0, .inl (.inl (kA 1, 60, .inl row))), (s, .inl (.inr (5, [.ref c0, .ref c1, .ref c2, .ref c3, .ref c4, .ref c5, .ref c6, .ref c7, .ref c8, .ref c9, .ref c10, .ref c11, .int (nI n), .int (nI l), .int (nI e)]))), (c1, .inl (.inl (kA 1, 6, .inl tk))), (c3, .inl (.inl (kA 1, 6, .inl sd)))]) rfl (by decide) [0, 2, 1, 4, 5, 6] (lv' := [(5, .int (nI (k8_5 + 1))), (3, .int (ta8_5 + 0)), (4, .int (1 - tu8_5)), (0, .ref h0), (1, .ref s), (2, .int wh)]) rfl ?_
          exact ih8_5 (k8_5 + 1) (by omega) (ta8_5 + 0) (1 - tu8_5)
        · refine j_aload_n h 5 rfl rfl dX2_takenBy_44 ?_
          refine jm_get h iw_X5 2 rfl rfl 1 (by decide) tw_180 rfl dX2_takenBy_45 ?_
          refine j_iload h 0 rfl dX2_takenBy_48 ?_
          refine jm_iald h 3 rfl k rfl (by omega) (by omega) dX2_takenBy_50 ?_
          refine j_goto h 55 dX2_takenBy_51 (by decide) ?_
          refine j_iadd h dX2_takenBy_55 ?_
          refine j_istore_n (lv' := [(3, .int (ta8_5 + (tk k))), (6, .int (nI k)), (5, .int (nI k8_5)), (4, .int tu8_5), (0, .ref h0), (1, .ref s), (2, .int wh)]) h dX2_takenBy_56 rfl (by decide) rfl ?_
          refine j_iconst (v := 1) h (by decide) dX2_takenBy_57 ?_
          refine j_iload h 3 rfl dX2_takenBy_58 ?_
          refine j_isub h dX2_takenBy_60 ?_
          refine j_istore (lv' := [(4, .int (1 - tu8_5)), (3, .int (ta8_5 + (tk k))), (6, .int (nI k)), (5, .int (nI k8_5)), (0, .ref h0), (1, .ref s), (2, .int wh)]) h dX2_takenBy_61 (by decide) rfl ?_
          refine j_iinc (v := nI (k8_5 + 1)) (lv' := [(5, .int (nI (k8_5 + 1))), (4, .int (1 - tu8_5)), (3, .int (ta8_5 + (tk k))), (6, .int (nI k)), (0, .ref h0), (1, .ref s), (2, .int wh)]) h dX2_takenBy_63 3 rfl (nI_1 k8_5) (by decide) rfl ?_
          refine j_goto h 8 dX2_takenBy_66 (by decide) ?_
          refine jm_sub [0, 1, 2, 3, 4] (w' := [(h0, .inl (.inr (2, [.ref a0, .ref a1, .int (nI sz), .int tm, .int ft, .int kp]))), (a0, .inl (.inl (kA 1, 60, .inl row))), (s, .inl (.inr (5, [.ref c0, .ref c1, .ref c2, .ref c3, .ref c4, .ref c5, .ref c6, .ref c7, .ref c8, .ref c9, .ref c10, .ref c11, .int (nI n), .int (nI l), .int (nI e)]))), (c1, .inl (.inl (kA 1, 6, .inl tk))), (c3, .inl (.inl (kA 1, 6, .inl sd)))]) rfl (by decide) [0, 2, 1, 4, 5, 6] (lv' := [(5, .int (nI (k8_5 + 1))), (3, .int (ta8_5 + (tk k))), (4, .int (1 - tu8_5)), (0, .ref h0), (1, .ref s), (2, .int wh)]) rfl ?_
          exact ih8_5 (k8_5 + 1) (by omega) (ta8_5 + (tk k)) (1 - tu8_5)
  refine jm_sub [0, 1, 2, 3, 4] (w' := [(h0, .inl (.inr (2, [.ref a0, .ref a1, .int (nI sz), .int tm, .int ft, .int kp]))), (a0, .inl (.inl (kA 1, 60, .inl row))), (s, .inl (.inr (5, [.ref c0, .ref c1, .ref c2, .ref c3, .ref c4, .ref c5, .ref c6, .ref c7, .ref c8, .ref c9, .ref c10, .ref c11, .int (nI n), .int (nI l), .int (nI e)]))), (c1, .inl (.inl (kA 1, 6, .inl tk))), (c3, .inl (.inl (kA 1, 6, .inl sd)))]) rfl (by decide) [0, 2, 1, 3, 4, 5] (lv' := [(5, .int 0), (3, .int 0), (4, .int 0), (0, .ref h0), (1, .ref s), (2, .int wh)]) rfl ?_
  exact lp8_5 (sz - 0) 0 (by omega) 0 0
set_option maxHeartbeats 4000000 in
set_option maxRecDepth 100000 in
theorem g_X2_begin (lau : Launch) (gg : va_G) (kA : Nat → ClassId) (h0 : Nat) (a0 : Nat) (a1 : Nat) (s : Nat) (c0 : Nat) (c1 : Nat) (c2 : Nat) (c3 : Nat) (c4 : Nat) (c5 : Nat) (c6 : Nat) (c7 : Nat) (c8 : Nat) (c9 : Nat) (c10 : Nat) (c11 : Nat) (n : Nat) (l : Nat) (e : Nat) (sz : Int32) (tm : Int32) (ft : Int32) (kp : Int32) (lo : Nat → Int32) (tl : Nat → Int32)  : CtV lau yX2_begin cX2_begin 2 (none) 2 0 0 gg kA [.ref h0, .ref s] (mflat [(h0, .inl (.inr (2, [.ref a0, .ref a1, .int sz, .int tm, .int ft, .int kp]))), (a1, .inl (.inl (kA 1, 6, .inl lo))), (s, .inl (.inr (5, [.ref c0, .ref c1, .ref c2, .ref c3, .ref c4, .ref c5, .ref c6, .ref c7, .ref c8, .ref c9, .ref c10, .ref c11, .int (nI n), .int (nI l), .int (nI e)]))), (c2, .inl (.inl (kA 1, 6, .inl tl)))]) (S := (Nat → Int32)) (fun (lo1 : (Nat → Int32)) => True) (fun (lo1 : (Nat → Int32)) => mflat [(h0, .inl (.inr (2, [.ref a0, .ref a1, .int 0, .int 0, .int 0, .int kp]))), (a1, .inl (.inl (kA 1, 6, .inl lo1))), (s, .inl (.inr (5, [.ref c0, .ref c1, .ref c2, .ref c3, .ref c4, .ref c5, .ref c6, .ref c7, .ref c8, .ref c9, .ref c10, .ref c11, .int (nI n), .int (nI l), .int (nI e)]))), (c2, .inl (.inl (kA 1, 6, .inl tl)))]) := by
  refine nx_startV (by decide +kernel) (Nat.le_of_ble_eq_true rfl) ?_
  intro x hnm h hq
  have h : Ok x cX2_begin RX2 kA (rmC 2 0 0) 2 := h
  show J x (mflat [(h0, .inl (.inr (2, [.ref a0, .ref a1, .int sz, .int tm, .int ft, .int kp]))), (a1, .inl (.inl (kA 1, 6, .inl lo))), (s, .inl (.inr (5, [.ref c0, .ref c1, .ref c2, .ref c3, .ref c4, .ref c5, .ref c6, .ref c7, .ref c8, .ref c9, .ref c10, .ref c11, .int (nI n), .int (nI l), .int (nI e)]))), (c2, .inl (.inl (kA 1, 6, .inl tl)))]) [(0, .ref h0), (1, .ref s)] 0 0 0 []
  refine j_aload_n h 0 rfl rfl dX2_begin_0 ?_
  refine jm_callVv (np := 0) (isC := [0]) (isR := [1, 2, 3]) (wc := [(h0, .inl (.inr (2, [.ref a0, .ref a1, .int sz, .int tm, .int ft, .int kp])))]) (wr := [(a1, .inl (.inl (kA 1, 6, .inl lo))), (s, .inl (.inr (5, [.ref c0, .ref c1, .ref c2, .ref c3, .ref c4, .ref c5, .ref c6, .ref c7, .ref c8, .ref c9, .ref c10, .ref c11, .int (nI n), .int (nI l), .int (nI e)]))), (c2, .inl (.inl (kA 1, 6, .inl tl)))]) (rest := []) (As := []) (q0 := 0) h (g_X2_standStill _ _ kA h0 a0 a1 sz tm ft kp ) tw_735 tw_736 tw_737 tw_91 tw_738 (by decide +kernel) rfl ⟨Nat.le_of_ble_eq_true rfl, Nat.le_of_ble_eq_true rfl⟩ rfl rfl (by decide) rfl rfl (by decide) (by decide) (Nat.le_of_ble_eq_true rfl) rfl ⟨Nat.le_of_ble_eq_true rfl, Nat.le_of_ble_eq_true rfl⟩ dX2_begin_1 ?_
  rintro _ e55
  show J x (mflat [(a1, .inl (.inl (kA 1, 6, .inl lo))), (s, .inl (.inr (5, [.ref c0, .ref c1, .ref c2, .ref c3, .ref c4, .ref c5, .ref c6, .ref c7, .ref c8, .ref c9, .ref c10, .ref c11, .int (nI n), .int (nI l), .int (nI e)]))), (c2, .inl (.inl (kA 1, 6, .inl tl))), (h0, .inl (.inr (2, [.ref a0, .ref a1, .int 0, .int 0, .int 0, .int kp])))]) [(0, .ref h0), (1, .ref s)] 0 0 4 []
  refine j_aload_n h 1 rfl rfl dX2_begin_4 ?_
  refine jm_get h iw_X5 1 rfl rfl 2 (by decide) tw_183 rfl dX2_begin_5 ?_
  refine j_iconst (v := 0) h (by decide) dX2_begin_8 ?_
  refine j_aload_n h 0 rfl rfl dX2_begin_9 ?_
  refine jm_get h iw_X2 3 rfl rfl 1 (by decide) tw_272 rfl dX2_begin_10 ?_
  refine j_iconst (v := 0) h (by decide) dX2_begin_13 ?_
  refine j_bipush (v := 6) h (by decide) dX2_begin_14 ?_
  refine jm_copyi (w' := [(a1, .inl (.inl (kA 1, 6, .inl (va_cpy tl lo 0 0 6)))), (s, .inl (.inr (5, [.ref c0, .ref c1, .ref c2, .ref c3, .ref c4, .ref c5, .ref c6, .ref c7, .ref c8, .ref c9, .ref c10, .ref c11, .int (nI n), .int (nI l), .int (nI e)]))), (c2, .inl (.inl (kA 1, 6, .inl tl))), (h0, .inl (.inr (2, [.ref a0, .ref a1, .int 0, .int 0, .int 0, .int kp])))]) h tw_739 tw_741 tw_740 tw_104 2 0 rfl rfl 0 0 6 (by decide) (by decide) (by decide) (by decide) (by decide) (by decide) (by decide) (Nat.le_of_ble_eq_true rfl) (Nat.le_of_ble_eq_true rfl) (Nat.le_of_ble_eq_true rfl) dX2_begin_16 rfl ?_
  exact jm_vret h hq dX2_begin_19 (va_cpy tl lo 0 0 6) [3, 0, 1, 2] rfl (by decide) trivial (Nat.le_of_ble_eq_true rfl) (Nat.le_of_ble_eq_true rfl)
set_option maxHeartbeats 4000000 in
set_option maxRecDepth 100000 in
theorem g_X2_copyFrom (lau : Launch) (gg : va_G) (kA : Nat → ClassId) (h0 : Nat) (a0 : Nat) (a1 : Nat) (o : Nat) (o0 : Nat) (o1 : Nat) (xz : Int32) (xt : Int32) (xf : Int32) (xk : Int32) (yz : Int32) (yt : Int32) (yf : Int32) (yk : Int32) (row : Nat → Int32) (lo : Nat → Int32) (orow : Nat → Int32) (olo : Nat → Int32)  : CtV lau yX2_copyFrom cX2_copyFrom 2 (none) 1 0 0 gg kA [.ref h0, .ref o] (mflat [(h0, .inl (.inr (2, [.ref a0, .ref a1, .int xz, .int xt, .int xf, .int xk]))), (a0, .inl (.inl (kA 1, 60, .inl row))), (a1, .inl (.inl (kA 1, 6, .inl lo))), (o, .inl (.inr (2, [.ref o0, .ref o1, .int yz, .int yt, .int yf, .int yk]))), (o0, .inl (.inl (kA 1, 60, .inl orow))), (o1, .inl (.inl (kA 1, 6, .inl olo)))]) (S := (Nat → Int32) × (Nat → Int32)) (fun ((r1, l1) : (Nat → Int32) × (Nat → Int32)) => ∀ i, i < 60 → r1 i = orow i) (fun ((r1, l1) : (Nat → Int32) × (Nat → Int32)) => mflat [(h0, .inl (.inr (2, [.ref a0, .ref a1, .int yz, .int yt, .int yf, .int xk]))), (a0, .inl (.inl (kA 1, 60, .inl r1))), (a1, .inl (.inl (kA 1, 6, .inl l1))), (o, .inl (.inr (2, [.ref o0, .ref o1, .int yz, .int yt, .int yf, .int yk]))), (o0, .inl (.inl (kA 1, 60, .inl orow))), (o1, .inl (.inl (kA 1, 6, .inl olo)))]) := by
  refine nx_startV (by decide +kernel) (Nat.le_of_ble_eq_true rfl) ?_
  intro x hnm h hq
  have h : Ok x cX2_copyFrom RX2 kA (rmC 1 0 0) 2 := h
  show J x (mflat [(h0, .inl (.inr (2, [.ref a0, .ref a1, .int xz, .int xt, .int xf, .int xk]))), (a0, .inl (.inl (kA 1, 60, .inl row))), (a1, .inl (.inl (kA 1, 6, .inl lo))), (o, .inl (.inr (2, [.ref o0, .ref o1, .int yz, .int yt, .int yf, .int yk]))), (o0, .inl (.inl (kA 1, 60, .inl orow))), (o1, .inl (.inl (kA 1, 6, .inl olo)))]) [(0, .ref h0), (1, .ref o)] 0 0 0 []
  refine j_aload_n h 1 rfl rfl dX2_copyFrom_0 ?_
  refine jm_get h iw_X2 3 rfl rfl 0 (by decide) tw_271 rfl dX2_copyFrom_1 ?_
  refine j_iconst (v := 0) h (by decide) dX2_copyFrom_4 ?_
  refine j_aload_n h 0 rfl rfl dX2_copyFrom_5 ?_
  refine jm_get h iw_X2 0 rfl rfl 0 (by decide) tw_271 rfl dX2_copyFrom_6 ?_
  refine j_iconst (v := 0) h (by decide) dX2_copyFrom_9 ?_
  refine j_bipush (v := 60) h (by decide) dX2_copyFrom_10 ?_
  refine jm_copyi (w' := [(h0, .inl (.inr (2, [.ref a0, .ref a1, .int xz, .int xt, .int xf, .int xk]))), (a0, .inl (.inl (kA 1, 60, .inl (va_cpy orow row 0 0 60)))), (a1, .inl (.inl (kA 1, 6, .inl lo))), (o, .inl (.inr (2, [.ref o0, .ref o1, .int yz, .int yt, .int yf, .int yk]))), (o0, .inl (.inl (kA 1, 60, .inl orow))), (o1, .inl (.inl (kA 1, 6, .inl olo)))]) h tw_739 tw_741 tw_740 tw_104 4 1 rfl rfl 0 0 60 (by decide) (by decide) (by decide) (by decide) (by decide) (by decide) (by decide) (Nat.le_of_ble_eq_true rfl) (Nat.le_of_ble_eq_true rfl) (Nat.le_of_ble_eq_true rfl) dX2_copyFrom_12 rfl ?_
  refine j_aload_n h 1 rfl rfl dX2_copyFrom_15 ?_
  refine jm_get h iw_X2 3 rfl rfl 1 (by decide) tw_272 rfl dX2_copyFrom_16 ?_
  refine j_iconst (v := 0) h (by decide) dX2_copyFrom_19 ?_
  refine j_aload_n h 0 rfl rfl dX2_copyFrom_20 ?_
  refine jm_get h iw_X2 0 rfl rfl 1 (by decide) tw_272 rfl dX2_copyFrom_21 ?_
  refine j_iconst (v := 0) h (by decide) dX2_copyFrom_24 ?_
  refine j_bipush (v := 6) h (by decide) dX2_copyFrom_25 ?_
  refine jm_copyi (w' := [(h0, .inl (.inr (2, [.ref a0, .ref a1, .int xz, .int xt, .int xf, .int xk]))), (a0, .inl (.inl (kA 1, 60, .inl (va_cpy orow row 0 0 60)))), (a1, .inl (.inl (kA 1, 6, .inl (va_cpy olo lo 0 0 6)))), (o, .inl (.inr (2, [.ref o0, .ref o1, .int yz, .int yt, .int yf, .int yk]))), (o0, .inl (.inl (kA 1, 60, .inl orow))), (o1, .inl (.inl (kA 1, 6, .inl olo)))]) h tw_739 tw_741 tw_740 tw_104 5 2 rfl rfl 0 0 6 (by decide) (by decide) (by decide) (by decide) (by decide) (by decide) (by decide) (Nat.le_of_ble_eq_true rfl) (Nat.le_of_ble_eq_true rfl) (Nat.le_of_ble_eq_true rfl) dX2_copyFrom_27 rfl ?_
  refine j_aload_n h 0 rfl rfl dX2_copyFrom_30 ?_
  refine j_aload_n h 1 rfl rfl dX2_copyFrom_31 ?_
  refine jm_get h iw_X2 3 rfl rfl 2 (by decide) tw_274 rfl dX2_copyFrom_32 ?_
  refine jm_put (w' := [(h0, .inl (.inr (2, [.ref a0, .ref a1, .int yz, .int xt, .int xf, .int xk]))), (a0, .inl (.inl (kA 1, 60, .inl (va_cpy orow row 0 0 60)))), (a1, .inl (.inl (kA 1, 6, .inl (va_cpy olo lo 0 0 6)))), (o, .inl (.inr (2, [.ref o0, .ref o1, .int yz, .int yt, .int yf, .int yk]))), (o0, .inl (.inl (kA 1, 60, .inl orow))), (o1, .inl (.inl (kA 1, 6, .inl olo)))]) h iw_X2 tyX2 tyX2_ok nmX2 0 rfl rfl 2 (by decide) tw_274 rfl rfl rfl (Nat.le_of_ble_eq_true rfl) dX2_copyFrom_35 rfl ?_
  refine j_aload_n h 0 rfl rfl dX2_copyFrom_38 ?_
  refine j_aload_n h 1 rfl rfl dX2_copyFrom_39 ?_
  refine jm_get h iw_X2 3 rfl rfl 3 (by decide) tw_276 rfl dX2_copyFrom_40 ?_
  refine jm_put (w' := [(h0, .inl (.inr (2, [.ref a0, .ref a1, .int yz, .int yt, .int xf, .int xk]))), (a0, .inl (.inl (kA 1, 60, .inl (va_cpy orow row 0 0 60)))), (a1, .inl (.inl (kA 1, 6, .inl (va_cpy olo lo 0 0 6)))), (o, .inl (.inr (2, [.ref o0, .ref o1, .int yz, .int yt, .int yf, .int yk]))), (o0, .inl (.inl (kA 1, 60, .inl orow))), (o1, .inl (.inl (kA 1, 6, .inl olo)))]) h iw_X2 tyX2 tyX2_ok nmX2 0 rfl rfl 3 (by decide) tw_276 rfl rfl rfl (Nat.le_of_ble_eq_true rfl) dX2_copyFrom_43 rfl ?_
  refine j_aload_n h 0 rfl rfl dX2_copyFrom_46 ?_
  refine j_aload_n h 1 rfl rfl dX2_copyFrom_47 ?_
  refine jm_get h iw_X2 3 rfl rfl 4 (by decide) tw_278 rfl dX2_copyFrom_48 ?_
  refine jm_put (w' := [(h0, .inl (.inr (2, [.ref a0, .ref a1, .int yz, .int yt, .int yf, .int xk]))), (a0, .inl (.inl (kA 1, 60, .inl (va_cpy orow row 0 0 60)))), (a1, .inl (.inl (kA 1, 6, .inl (va_cpy olo lo 0 0 6)))), (o, .inl (.inr (2, [.ref o0, .ref o1, .int yz, .int yt, .int yf, .int yk]))), (o0, .inl (.inl (kA 1, 60, .inl orow))), (o1, .inl (.inl (kA 1, 6, .inl olo)))]) h iw_X2 tyX2 tyX2_ok nmX2 0 rfl rfl 4 (by decide) tw_278 rfl rfl rfl (Nat.le_of_ble_eq_true rfl) dX2_copyFrom_51 rfl ?_
  exact jm_vret h hq dX2_copyFrom_54 ((va_cpy orow row 0 0 60), (va_cpy olo lo 0 0 6)) [0, 1, 2, 3, 4, 5] rfl (by decide) (cpy60 _ _) (Nat.le_of_ble_eq_true rfl) (Nat.le_of_ble_eq_true rfl)
set_option maxHeartbeats 4000000 in
set_option maxRecDepth 100000 in
theorem g_X10_clear (lau : Launch) (gg : va_G) (kA : Nat → ClassId) (h0 : Nat) (a0 : Nat) (x1 : Int32) (y1 : Int32) (z1 : Int32)  : CtV lau yX10_clear cX10_clear 1 (none) 1 0 0 gg kA [.ref h0] (mflat [(h0, .inl (.inr (10, [.ref a0, .int x1, .int y1, .int z1])))]) (S := Unit) (fun (_ : Unit) => True) (fun (_ : Unit) => mflat [(h0, .inl (.inr (10, [.ref a0, .int 0, .int 0, .int 0])))]) := by
  refine nx_startV (by decide +kernel) (Nat.le_of_ble_eq_true rfl) ?_
  intro x hnm h hq
  have h : Ok x cX10_clear RX10 kA (rmC 1 0 0) 1 := h
  show J x (mflat [(h0, .inl (.inr (10, [.ref a0, .int x1, .int y1, .int z1])))]) [(0, .ref h0)] 0 0 0 []
  refine j_aload_n h 0 rfl rfl dX10_clear_0 ?_
  refine j_iconst (v := 0) h (by decide) dX10_clear_1 ?_
  refine jm_put (w' := [(h0, .inl (.inr (10, [.ref a0, .int 0, .int y1, .int z1])))]) h iw_X10 tyX10 tyX10_ok nmX10 0 rfl rfl 1 (by decide) tw_305 rfl rfl rfl (Nat.le_of_ble_eq_true rfl) dX10_clear_2 rfl ?_
  refine j_aload_n h 0 rfl rfl dX10_clear_5 ?_
  refine j_iconst (v := 0) h (by decide) dX10_clear_6 ?_
  refine jm_put (w' := [(h0, .inl (.inr (10, [.ref a0, .int 0, .int 0, .int z1])))]) h iw_X10 tyX10 tyX10_ok nmX10 0 rfl rfl 2 (by decide) tw_309 rfl rfl rfl (Nat.le_of_ble_eq_true rfl) dX10_clear_7 rfl ?_
  refine j_aload_n h 0 rfl rfl dX10_clear_10 ?_
  refine j_iconst (v := 0) h (by decide) dX10_clear_11 ?_
  refine jm_put (w' := [(h0, .inl (.inr (10, [.ref a0, .int 0, .int 0, .int 0])))]) h iw_X10 tyX10 tyX10_ok nmX10 0 rfl rfl 3 (by decide) tw_311 rfl rfl rfl (Nat.le_of_ble_eq_true rfl) dX10_clear_12 rfl ?_
  exact jm_vret h hq dX10_clear_15 () [0] rfl (by decide) trivial (Nat.le_of_ble_eq_true rfl) (Nat.le_of_ble_eq_true rfl)
set_option maxHeartbeats 4000000 in
set_option maxRecDepth 100000 in
theorem g_X10_add (lau : Launch) (gg : va_G) (kA : Nat → ClassId) (h0 : Nat) (a0 : Nat) (s : Nat) (c0 : Nat) (c1 : Nat) (c2 : Nat) (c3 : Nat) (c4 : Nat) (c5 : Nat) (c6 : Nat) (c7 : Nat) (c8 : Nat) (c9 : Nat) (c10 : Nat) (c11 : Nat) (n : Nat) (l : Nat) (e : Nat) (sz : Nat) (tm : Nat) (ft : Nat) (row : Nat → Int32) (lt : Nat → Int32) (la : Nat → Nat → Int32) (st0 : Int32) (hl : l ≤ 10) (hlt : LtOk l lt) (hla : LaOk l la) (hE : EOk l sz tm ft row) : CtI lau yX10_add cX10_add 4 (some .boolean) 2 0 0 gg kA [.ref h0, .ref s, .int st0] (mflat [(h0, .inl (.inr (10, [.ref a0, .int (nI sz), .int (nI tm), .int (nI ft)]))), (a0, .inl (.inl (kA 1, 60, .inl row))), (s, .inl (.inr (5, [.ref c0, .ref c1, .ref c2, .ref c3, .ref c4, .ref c5, .ref c6, .ref c7, .ref c8, .ref c9, .ref c10, .ref c11, .int (nI n), .int (nI l), .int (nI e)]))), (c7, .inl (.inl (kA 1, 10, .inl lt))), (c8, .inr (kA 6, kA 1, 10, 2, .inl la))]) (S := Nat × Nat × Nat × (Nat → Int32)) (fun (r : Int32) ((sz1, tm1, ft1, row1) : Nat × Nat × Nat × (Nat → Int32)) => (r = 0 ∨ r = 1) ∧ EOk l sz1 tm1 ft1 row1) (fun ((sz1, tm1, ft1, row1) : Nat × Nat × Nat × (Nat → Int32)) => mflat [(h0, .inl (.inr (10, [.ref a0, .int (nI sz1), .int (nI tm1), .int (nI ft1)]))), (a0, .inl (.inl (kA 1, 60, .inl row1))), (s, .inl (.inr (5, [.ref c0, .ref c1, .ref c2, .ref c3, .ref c4, .ref c5, .ref c6, .ref c7, .ref c8, .ref c9, .ref c10, .ref c11, .int (nI n), .int (nI l), .int (nI e)]))), (c7, .inl (.inl (kA 1, 10, .inl lt))), (c8, .inr (kA 6, kA 1, 10, 2, .inl la))]) := by
  refine nx_startI (by decide +kernel) (Nat.le_of_ble_eq_true rfl) ?_
  intro x hnm h hq
  have h : Ok x cX10_add RX10 kA (rmC 2 0 0) 4 := h
  show J x (mflat [(h0, .inl (.inr (10, [.ref a0, .int (nI sz), .int (nI tm), .int (nI ft)]))), (a0, .inl (.inl (kA 1, 60, .inl row))), (s, .inl (.inr (5, [.ref c0, .ref c1, .ref c2, .ref c3, .ref c4, .ref c5, .ref c6, .ref c7, .ref c8, .ref c9, .ref c10, .ref c11, .int (nI n), .int (nI l), .int (nI e)]))), (c7, .inl (.inl (kA 1, 10, .inl lt))), (c8, .inr (kA 6, kA 1, 10, 2, .inl la))]) [(0, .ref h0), (1, .ref s), (2, .int st0)] 0 0 0 []
  obtain ⟨hsz, htm, hft, hrow⟩ := id hE
  rcases bIx_cases st0 l (by omega) with hT | ⟨k, hk, rfl, hB⟩
  · refine j_aload_n h 1 rfl rfl dX10_add_0 ?_
    refine j_iload_n h 2 rfl rfl dX10_add_1 ?_
    refine jm_callVi (np := 1) (isC := [2]) (isR := [0, 1, 3, 4]) (wc := [(s, .inl (.inr (5, [.ref c0, .ref c1, .ref c2, .ref c3, .ref c4, .ref c5, .ref c6, .ref c7, .ref c8, .ref c9, .ref c10, .ref c11, .int (nI n), .int (nI l), .int (nI e)])))]) (wr := [(h0, .inl (.inr (10, [.ref a0, .int (nI sz), .int (nI tm), .int (nI ft)]))), (a0, .inl (.inl (kA 1, 60, .inl row))), (c7, .inl (.inl (kA 1, 10, .inl lt))), (c8, .inr (kA 6, kA 1, 10, 2, .inl la))]) (rest := []) (As := [.int st0]) (q0 := 0) h (g_X5_hasLetter _ _ kA s c0 c1 c2 c3 c4 c5 c6 c7 c8 c9 c10 c11 (nI n) (nI l) (nI e) st0 ) tw_951 tw_776 tw_777 tw_90 tw_778 (by decide +kernel) rfl ⟨Nat.le_of_ble_eq_true rfl, Nat.le_of_ble_eq_true rfl⟩ rfl rfl (by decide) rfl rfl (by decide) (by decide) (Nat.le_of_ble_eq_true rfl) rfl ⟨Nat.le_of_ble_eq_true rfl, Nat.le_of_ble_eq_true rfl⟩ dX10_add_2 ?_
    rintro r _ e56
    subst e56
    show J x (mflat [(h0, .inl (.inr (10, [.ref a0, .int (nI sz), .int (nI tm), .int (nI ft)]))), (a0, .inl (.inl (kA 1, 60, .inl row))), (c7, .inl (.inl (kA 1, 10, .inl lt))), (c8, .inr (kA 6, kA 1, 10, 2, .inl la)), (s, .inl (.inr (5, [.ref c0, .ref c1, .ref c2, .ref c3, .ref c4, .ref c5, .ref c6, .ref c7, .ref c8, .ref c9, .ref c10, .ref c11, .int (nI n), .int (nI l), .int (nI e)])))]) [(0, .ref h0), (1, .ref s), (2, .int st0)] 0 0 5 [.int (bIx st0 (nI l))]
    refine j_top (b := 0) (hT) ?_
    refine j_if_eq h 20 dX10_add_5 (by decide) (fun _ => ?_) (fun q => absurd (by decide) q)
    refine j_iconst (v := 0) h (by decide) dX10_add_20 ?_
    exact jm_zret h hq rfl dX10_add_21 (sz, tm, ft, row) [0, 1, 4, 2, 3] rfl (by decide) ⟨Or.inl rfl, hE⟩ (Nat.le_of_ble_eq_true rfl) (Nat.le_of_ble_eq_true rfl)
  · obtain ⟨t, ht1, ht9, hte⟩ := hlt k hk
    refine j_aload_n h 1 rfl rfl dX10_add_0 ?_
    refine j_iload_n h 2 rfl rfl dX10_add_1 ?_
    refine jm_callVi (np := 1) (isC := [2]) (isR := [0, 1, 3, 4]) (wc := [(s, .inl (.inr (5, [.ref c0, .ref c1, .ref c2, .ref c3, .ref c4, .ref c5, .ref c6, .ref c7, .ref c8, .ref c9, .ref c10, .ref c11, .int (nI n), .int (nI l), .int (nI e)])))]) (wr := [(h0, .inl (.inr (10, [.ref a0, .int (nI sz), .int (nI tm), .int (nI ft)]))), (a0, .inl (.inl (kA 1, 60, .inl row))), (c7, .inl (.inl (kA 1, 10, .inl lt))), (c8, .inr (kA 6, kA 1, 10, 2, .inl la))]) (rest := []) (As := [.int (nI k)]) (q0 := 0) h (g_X5_hasLetter _ _ kA s c0 c1 c2 c3 c4 c5 c6 c7 c8 c9 c10 c11 (nI n) (nI l) (nI e) (nI k) ) tw_951 tw_776 tw_777 tw_90 tw_778 (by decide +kernel) rfl ⟨Nat.le_of_ble_eq_true rfl, Nat.le_of_ble_eq_true rfl⟩ rfl rfl (by decide) rfl rfl (by decide) (by decide) (Nat.le_of_ble_eq_true rfl) rfl ⟨Nat.le_of_ble_eq_true rfl, Nat.le_of_ble_eq_true rfl⟩ dX10_add_2 ?_
    rintro r _ e57
    subst e57
    show J x (mflat [(h0, .inl (.inr (10, [.ref a0, .int (nI sz), .int (nI tm), .int (nI ft)]))), (a0, .inl (.inl (kA 1, 60, .inl row))), (c7, .inl (.inl (kA 1, 10, .inl lt))), (c8, .inr (kA 6, kA 1, 10, 2, .inl la)), (s, .inl (.inr (5, [.ref c0, .ref c1, .ref c2, .ref c3, .ref c4, .ref c5, .ref c6, .ref c7, .ref c8, .ref c9, .ref c10, .ref c11, .int (nI n), .int (nI l), .int (nI e)])))]) [(0, .ref h0), (1, .ref s), (2, .int (nI k))] 0 0 5 [.int (bIx (nI k) (nI l))]
    refine j_top (b := 1) (hB) ?_
    refine j_if_eq h 20 dX10_add_5 (by decide) (fun q => absurd q (by decide)) (fun _ => ?_)
    refine j_aload_n h 0 rfl rfl dX10_add_8 ?_
    refine jm_get h iw_X10 0 rfl rfl 1 (by decide) tw_305 rfl dX10_add_9 ?_
    refine j_aload_n h 0 rfl rfl dX10_add_12 ?_
    refine jm_get h iw_X10 0 rfl rfl 0 (by decide) tw_302 rfl dX10_add_13 ?_
    refine jm_alen (v := 60) h 1 1 rfl rfl rfl dX10_add_16 ?_
    refine j_icmp_lt h 22 dX10_add_17 (by decide) (fun z58 => ?_) (fun z58 => ?_)
    · have z58n : sz < 60 := (nI_ltI (a := sz) (b := 60) (by omega) (by omega)).mp z58
      refine j_aload_n h 1 rfl rfl dX10_add_22 ?_
      refine jm_get h iw_X5 4 rfl rfl 8 (by decide) tw_205 rfl dX10_add_23 ?_
      refine j_iload_n h 2 rfl rfl dX10_add_26 ?_
      refine jm_gout h 3 6 rfl rfl k rfl (by omega) (by omega) dX10_add_27 ?_
      refine j_aload_n h 0 rfl rfl dX10_add_28 ?_
      refine jm_get h iw_X10 0 rfl rfl 3 (by decide) tw_311 rfl dX10_add_29 ?_
      refine jm_gald h 3 rfl k (by omega) ft rfl (by omega) (by omega) dX10_add_32 ?_
      rcases hla k ft hk hft with hF | ⟨g, hg, hF⟩
      · refine j_top (b := -1) hF ?_
        refine j_istore_n (lv' := [(3, .int (-1)), (0, .ref h0), (1, .ref s), (2, .int (nI k))]) h dX10_add_33 rfl (by decide) rfl ?_
        refine j_iload_n h 0 rfl rfl dX10_add_34 ?_
        refine j_iconst (v := (-1)) h (by decide) dX10_add_35 ?_
        refine j_icmp_eq h 55 dX10_add_36 (by decide) (fun _ => ?_) (fun q => absurd (by decide) q)
        refine j_iconst (v := 0) h (by decide) dX10_add_55 ?_
        exact jm_zret h hq rfl dX10_add_56 (sz, tm, ft, row) [0, 1, 4, 2, 3] rfl (by decide) ⟨Or.inl rfl, hE⟩ (Nat.le_of_ble_eq_true rfl) (Nat.le_of_ble_eq_true rfl)
      · refine j_top (b := nI g) hF ?_
        refine j_istore_n (lv' := [(3, .int (nI g)), (0, .ref h0), (1, .ref s), (2, .int (nI k))]) h dX10_add_33 rfl (by decide) rfl ?_
        refine j_iload_n h 0 rfl rfl dX10_add_34 ?_
        refine j_iconst (v := (-1)) h (by decide) dX10_add_35 ?_
        refine j_icmp_eq h 55 dX10_add_36 (by decide) (fun q => absurd q (nI_m1 (by omega))) (fun _ => ?_)
        refine j_aload_n h 1 rfl rfl dX10_add_39 ?_
        refine jm_get h iw_X10 0 rfl rfl 2 (by decide) tw_309 rfl dX10_add_40 ?_
        refine j_aload_n h 2 rfl rfl dX10_add_43 ?_
        refine jm_get h iw_X5 4 rfl rfl 7 (by decide) tw_202 rfl dX10_add_44 ?_
        refine j_iload_n h 3 rfl rfl dX10_add_47 ?_
        refine jm_iald h 2 rfl k rfl (by omega) (by omega) dX10_add_48 ?_
        refine j_top (b := nI t) (hte) ?_
        refine j_iadd h dX10_add_49 ?_
        refine j_top (b := nI (tm + t)) (nI_add tm t) ?_
        refine j_bipush (v := 60) h (by decide) dX10_add_50 ?_
        refine j_icmp_le h 57 dX10_add_52 (by decide) (fun z59 => ?_) (fun z59 => ?_)
        · have z59n : (tm + t) ≤ 60 := (nI_leI (a := (tm + t)) (b := 60) (by omega) (by omega)).mp z59
          refine j_aload_n h 1 rfl rfl dX10_add_57 ?_
          refine jm_get h iw_X10 0 rfl rfl 0 (by decide) tw_302 rfl dX10_add_58 ?_
          refine j_aload_n h 1 rfl rfl dX10_add_61 ?_
          refine jm_get h iw_X10 0 rfl rfl 1 (by decide) tw_305 rfl dX10_add_62 ?_
          refine j_iload_n h 3 rfl rfl dX10_add_65 ?_
          refine jm_iast (w' := [(h0, .inl (.inr (10, [.ref a0, .int (nI sz), .int (nI tm), .int (nI ft)]))), (a0, .inl (.inl (kA 1, 60, .inl (upd row sz (nI k))))), (c7, .inl (.inl (kA 1, 10, .inl lt))), (c8, .inr (kA 6, kA 1, 10, 2, .inl la)), (s, .inl (.inr (5, [.ref c0, .ref c1, .ref c2, .ref c3, .ref c4, .ref c5, .ref c6, .ref c7, .ref c8, .ref c9, .ref c10, .ref c11, .int (nI n), .int (nI l), .int (nI e)])))]) h 1 rfl sz rfl (by omega) (by omega) dX10_add_66 rfl ?_
          refine j_aload_n h 1 rfl rfl dX10_add_67 ?_
          refine j_dup h rfl dX10_add_68 ?_
          refine jm_get h iw_X10 0 rfl rfl 1 (by decide) tw_305 rfl dX10_add_69 ?_
          refine j_iconst (v := 1) h (by decide) dX10_add_72 ?_
          refine j_iadd h dX10_add_73 ?_
          refine j_top (b := nI (sz + 1)) (nI_add sz 1) ?_
          refine jm_put (w' := [(h0, .inl (.inr (10, [.ref a0, .int (nI (sz + 1)), .int (nI tm), .int (nI ft)]))), (a0, .inl (.inl (kA 1, 60, .inl (upd row sz (nI k))))), (c7, .inl (.inl (kA 1, 10, .inl lt))), (c8, .inr (kA 6, kA 1, 10, 2, .inl la)), (s, .inl (.inr (5, [.ref c0, .ref c1, .ref c2, .ref c3, .ref c4, .ref c5, .ref c6, .ref c7, .ref c8, .ref c9, .ref c10, .ref c11, .int (nI n), .int (nI l), .int (nI e)])))]) h iw_X10 tyX10 tyX10_ok nmX10 0 rfl rfl 1 (by decide) tw_305 rfl rfl rfl (Nat.le_of_ble_eq_true rfl) dX10_add_74 rfl ?_
          refine j_aload_n h 1 rfl rfl dX10_add_77 ?_
          refine j_dup h rfl dX10_add_78 ?_
          refine jm_get h iw_X10 0 rfl rfl 2 (by decide) tw_309 rfl dX10_add_79 ?_
          refine j_aload_n h 2 rfl rfl dX10_add_82 ?_
          refine jm_get h iw_X5 4 rfl rfl 7 (by decide) tw_202 rfl dX10_add_83 ?_
          refine j_iload_n h 3 rfl rfl dX10_add_86 ?_
          refine jm_iald h 2 rfl k rfl (by omega) (by omega) dX10_add_87 ?_
          refine j_top (b := nI t) (hte) ?_
          refine j_iadd h dX10_add_88 ?_
          refine j_top (b := nI (tm + t)) (nI_add tm t) ?_
          refine jm_put (w' := [(h0, .inl (.inr (10, [.ref a0, .int (nI (sz + 1)), .int (nI (tm + t)), .int (nI ft)]))), (a0, .inl (.inl (kA 1, 60, .inl (upd row sz (nI k))))), (c7, .inl (.inl (kA 1, 10, .inl lt))), (c8, .inr (kA 6, kA 1, 10, 2, .inl la)), (s, .inl (.inr (5, [.ref c0, .ref c1, .ref c2, .ref c3, .ref c4, .ref c5, .ref c6, .ref c7, .ref c8, .ref c9, .ref c10, .ref c11, .int (nI n), .int (nI l), .int (nI e)])))]) h iw_X10 tyX10 tyX10_ok nmX10 0 rfl rfl 2 (by decide) tw_309 rfl rfl rfl (Nat.le_of_ble_eq_true rfl) dX10_add_89 rfl ?_
          refine j_aload_n h 1 rfl rfl dX10_add_92 ?_
          refine j_iload_n h 0 rfl rfl dX10_add_93 ?_
          refine jm_put (w' := [(h0, .inl (.inr (10, [.ref a0, .int (nI (sz + 1)), .int (nI (tm + t)), .int (nI g)]))), (a0, .inl (.inl (kA 1, 60, .inl (upd row sz (nI k))))), (c7, .inl (.inl (kA 1, 10, .inl lt))), (c8, .inr (kA 6, kA 1, 10, 2, .inl la)), (s, .inl (.inr (5, [.ref c0, .ref c1, .ref c2, .ref c3, .ref c4, .ref c5, .ref c6, .ref c7, .ref c8, .ref c9, .ref c10, .ref c11, .int (nI n), .int (nI l), .int (nI e)])))]) h iw_X10 tyX10 tyX10_ok nmX10 0 rfl rfl 3 (by decide) tw_311 rfl rfl rfl (Nat.le_of_ble_eq_true rfl) dX10_add_94 rfl ?_
          refine j_iconst (v := 1) h (by decide) dX10_add_97 ?_
          exact jm_zret h hq rfl dX10_add_98 ((sz + 1), (tm + t), g, (upd row sz (nI k))) [0, 1, 4, 2, 3] rfl (by decide) ⟨Or.inr rfl, EOk_step hE (by omega) (by omega) hg hk⟩ (Nat.le_of_ble_eq_true rfl) (Nat.le_of_ble_eq_true rfl)
        · have z59n : ¬ (tm + t) ≤ 60 := fun q9 => z59 ((nI_leI (a := (tm + t)) (b := 60) (by omega) (by omega)).mpr q9)
          refine j_iconst (v := 0) h (by decide) dX10_add_55 ?_
          exact jm_zret h hq rfl dX10_add_56 (sz, tm, ft, row) [0, 1, 4, 2, 3] rfl (by decide) ⟨Or.inl rfl, hE⟩ (Nat.le_of_ble_eq_true rfl) (Nat.le_of_ble_eq_true rfl)
    · have z58n : ¬ sz < 60 := fun q9 => z58 ((nI_ltI (a := sz) (b := 60) (by omega) (by omega)).mpr q9)
      refine j_iconst (v := 0) h (by decide) dX10_add_20 ?_
      exact jm_zret h hq rfl dX10_add_21 (sz, tm, ft, row) [0, 1, 4, 2, 3] rfl (by decide) ⟨Or.inl rfl, hE⟩ (Nat.le_of_ble_eq_true rfl) (Nat.le_of_ble_eq_true rfl)
