theorem bIx2_0 {e : Int32} (h0 : ¬ e = 0) (h1 : ¬ e = 1) : bIx e 2 = 0 := by
  rcases bIx_cases e 2 (by decide) with h | ⟨k, hk, rfl, _⟩
  · exact h
  · rcases (show k = 0 ∨ k = 1 by omega) with rfl | rfl
    · exact absurd rfl h0
    · exact absurd rfl h1
theorem tsum_ge {L n : Nat} {ls row : Nat → Int32} (hl : LtOk L ls) (hL : L ≤ 10) (hr : ∀ k, k < n → ∃ l, l < L ∧ row k = nI l) : ∀ {i : Nat}, i ≤ n → i ≤ tsum ls row i ∧ tsum ls row i ≤ 45 * i
  | 0, _ => ⟨Nat.le_refl _, Nat.le_refl _⟩
  | i + 1, h => by
    have h1 := tsum_ge hl hL hr (i := i) (by omega)
    obtain ⟨k, hk, hke⟩ := hr i (by omega)
    obtain ⟨t, t1, t9, hte⟩ := hl k hk
    show i + 1 ≤ tsum ls row i + (ls (row i).toNatClampNeg).toNatClampNeg ∧ tsum ls row i + (ls (row i).toNatClampNeg).toNatClampNeg ≤ 45 * (i + 1)
    rw [hke, nI_clamp (by omega), hte, nI_clamp (by omega)]
    omega
theorem tsum_sle {tk row : Nat → Int32} {i : Nat} : ∀ {j : Nat}, i ≤ j → tsum tk row i ≤ tsum tk row j
  | 0, h => by
    have : i = 0 := by omega
    subst this
    exact Nat.le_refl _
  | j + 1, h => by
    rcases (show i = j + 1 ∨ i ≤ j by omega) with rfl | q
    · exact Nat.le_refl _
    · exact Nat.le_trans (tsum_sle q) (Nat.le_add_right _ _)
theorem tsum_eqr {tk row row' : Nat → Int32} : ∀ {n : Nat}, (∀ k, k < n → row k = row' k) → tsum tk row n = tsum tk row' n
  | 0, _ => rfl
  | n + 1, h => by
    show tsum tk row n + (tk (row n).toNatClampNeg).toNatClampNeg = tsum tk row' n + (tk (row' n).toNatClampNeg).toNatClampNeg
    rw [h n (Nat.lt_succ_self n), tsum_eqr (fun k hk => h k (by omega))]
theorem TcOk_tx {L t n : Nat} {fb tx tm : Nat → Int32} (h : TcOk L fb tx tm) (ht : t < 2) (hn : tm t = nI n) (h60 : n ≤ 60) : ∀ k, k < n → ∃ l, l < L ∧ tx (60 * t + k) = nI l := fun k hk => by
  obtain ⟨n', a, b, g, g0, g1, gs⟩ := h t ht
  rw [hn, nI_eq (by omega) (by omega)] at b
  subst b
  obtain ⟨l, x, y, _⟩ := gs k hk
  exact ⟨l, x, y⟩
theorem rem_int {x y : Int32} (hy : 0 < y) : (x - x / y * y).toInt < y.toInt := by
  have c : (0 : Int32).toInt = 0 := by decide
  have hy0 : 0 < y.toInt := by
    have := Int32.lt_iff_toInt_lt.mp hy
    rw [c] at this
    exact this
  have a := (x % y).toInt_lt
  have b := (x % y).le_toInt
  rw [Int32.toInt_mod] at a b
  have e : (x - x / y * y).toInt = x.toInt.tmod y.toInt := by
    rw [Int32.toInt_sub, Int32.toInt_mul, Int32.toInt_div, Int.bmod_mul_bmod, Int.sub_bmod_bmod, Int.mul_comm, ← Int.tmod_def]
    exact Jvm.Kit.bmod32 b a
  rw [e]
  exact Int.tmod_lt_of_pos x.toInt hy0
theorem rem_mu {x y : Int32} (hy : ¬ y ≤ 0) : (x - x / y * y).toNatClampNeg < y.toNatClampNeg := by
  have h := rem_int (x := x) (Int32.not_le.mp hy)
  have c : (0 : Int32).toInt = 0 := by decide
  have hy0 : 0 < y.toInt := by
    have := Int32.lt_iff_toInt_lt.mp (Int32.not_le.mp hy)
    rw [c] at this
    exact this
  show (x - x / y * y).toInt.toNat < y.toInt.toNat
  omega
theorem TsOk_cl {ls tx tm : Nat → Int32} {t : Nat} (h : TsOk ls tx tm) : TsOk ls tx (upd tm t 0) := fun s n hs hn h60 => by
  by_cases e : s = t
  · subst e
    rw [pk_us] at hn
    have : n = 0 := ((nI_eq (a := 0) (b := n) (by decide) (by omega)).mp hn).symm
    subst this
    exact Nat.zero_le 60
  · rw [pk_un e] at hn
    exact h s n hs hn h60
theorem dX12_timeOf_0 : decode cX12_timeOf 0 = .ok (.iconst 0, 1) := by decide +kernel
theorem dX12_timeOf_1 : decode cX12_timeOf 1 = .ok (.istore_n 2, 1) := by decide +kernel
theorem dX12_timeOf_2 : decode cX12_timeOf 2 = .ok (.iconst 0, 1) := by decide +kernel
theorem dX12_timeOf_3 : decode cX12_timeOf 3 = .ok (.istore_n 3, 1) := by decide +kernel
theorem dX12_timeOf_4 : decode cX12_timeOf 4 = .ok (.iload_n 3, 1) := by decide +kernel
theorem dX12_timeOf_5 : decode cX12_timeOf 5 = .ok (.aload_n 0, 1) := by decide +kernel
theorem dX12_timeOf_6 : decode cX12_timeOf 6 = .ok (.getfield 94, 3) := by decide +kernel
theorem dX12_timeOf_9 : decode cX12_timeOf 9 = .ok (.iload_n 1, 1) := by decide +kernel
theorem dX12_timeOf_10 : decode cX12_timeOf 10 = .ok (.iaload, 1) := by decide +kernel
theorem dX12_timeOf_11 : decode cX12_timeOf 11 = .ok (.if_icmp .ge 28, 3) := by decide +kernel
theorem dX12_timeOf_39 : decode cX12_timeOf 39 = .ok (.iload_n 2, 1) := by decide +kernel
theorem dX12_timeOf_40 : decode cX12_timeOf 40 = .ok (.ireturn, 1) := by decide +kernel
theorem dX12_timeOf_14 : decode cX12_timeOf 14 = .ok (.iload_n 2, 1) := by decide +kernel
theorem dX12_timeOf_15 : decode cX12_timeOf 15 = .ok (.aload_n 0, 1) := by decide +kernel
theorem dX12_timeOf_16 : decode cX12_timeOf 16 = .ok (.getfield 63, 3) := by decide +kernel
theorem dX12_timeOf_19 : decode cX12_timeOf 19 = .ok (.aload_n 0, 1) := by decide +kernel
theorem dX12_timeOf_20 : decode cX12_timeOf 20 = .ok (.getfield 91, 3) := by decide +kernel
theorem tw_1200 : Cond.fieldLink RX12 91 "LimpCodeModel" "texts" "[I" ∈ TT := nx_mem 1200 (by decide +kernel) (by decide +kernel)
theorem dX12_timeOf_23 : decode cX12_timeOf 23 = .ok (.bipush 60, 2) := by decide +kernel
theorem dX12_timeOf_25 : decode cX12_timeOf 25 = .ok (.iload_n 1, 1) := by decide +kernel
theorem dX12_timeOf_26 : decode cX12_timeOf 26 = .ok (.imul, 1) := by decide +kernel
theorem dX12_timeOf_27 : decode cX12_timeOf 27 = .ok (.iload_n 3, 1) := by decide +kernel
theorem dX12_timeOf_28 : decode cX12_timeOf 28 = .ok (.iadd, 1) := by decide +kernel
theorem dX12_timeOf_29 : decode cX12_timeOf 29 = .ok (.iaload, 1) := by decide +kernel
theorem dX12_timeOf_30 : decode cX12_timeOf 30 = .ok (.iaload, 1) := by decide +kernel
theorem dX12_timeOf_31 : decode cX12_timeOf 31 = .ok (.iadd, 1) := by decide +kernel
theorem dX12_timeOf_32 : decode cX12_timeOf 32 = .ok (.istore_n 2, 1) := by decide +kernel
theorem dX12_timeOf_33 : decode cX12_timeOf 33 = .ok (.iinc 3 1, 3) := by decide +kernel
theorem dX12_timeOf_36 : decode cX12_timeOf 36 = .ok (.goto (-32), 3) := by decide +kernel
theorem dX12_footOf_0 : decode cX12_footOf 0 = .ok (.iconst 0, 1) := by decide +kernel
theorem dX12_footOf_1 : decode cX12_footOf 1 = .ok (.istore_n 2, 1) := by decide +kernel
theorem dX12_footOf_2 : decode cX12_footOf 2 = .ok (.iconst 0, 1) := by decide +kernel
theorem dX12_footOf_3 : decode cX12_footOf 3 = .ok (.istore_n 3, 1) := by decide +kernel
theorem dX12_footOf_4 : decode cX12_footOf 4 = .ok (.iload_n 3, 1) := by decide +kernel
theorem dX12_footOf_5 : decode cX12_footOf 5 = .ok (.aload_n 0, 1) := by decide +kernel
theorem dX12_footOf_6 : decode cX12_footOf 6 = .ok (.getfield 94, 3) := by decide +kernel
theorem dX12_footOf_9 : decode cX12_footOf 9 = .ok (.iload_n 1, 1) := by decide +kernel
theorem dX12_footOf_10 : decode cX12_footOf 10 = .ok (.iaload, 1) := by decide +kernel
theorem dX12_footOf_11 : decode cX12_footOf 11 = .ok (.if_icmp .ge 30, 3) := by decide +kernel
theorem dX12_footOf_41 : decode cX12_footOf 41 = .ok (.iload_n 2, 1) := by decide +kernel
theorem dX12_footOf_42 : decode cX12_footOf 42 = .ok (.ireturn, 1) := by decide +kernel
theorem dX12_footOf_14 : decode cX12_footOf 14 = .ok (.aload_n 0, 1) := by decide +kernel
theorem dX12_footOf_15 : decode cX12_footOf 15 = .ok (.getfield 69, 3) := by decide +kernel
theorem dX12_footOf_18 : decode cX12_footOf 18 = .ok (.iconst 2, 1) := by decide +kernel
theorem dX12_footOf_19 : decode cX12_footOf 19 = .ok (.aload_n 0, 1) := by decide +kernel
theorem dX12_footOf_20 : decode cX12_footOf 20 = .ok (.getfield 91, 3) := by decide +kernel
theorem dX12_footOf_23 : decode cX12_footOf 23 = .ok (.bipush 60, 2) := by decide +kernel
theorem dX12_footOf_25 : decode cX12_footOf 25 = .ok (.iload_n 1, 1) := by decide +kernel
theorem dX12_footOf_26 : decode cX12_footOf 26 = .ok (.imul, 1) := by decide +kernel
theorem dX12_footOf_27 : decode cX12_footOf 27 = .ok (.iload_n 3, 1) := by decide +kernel
theorem dX12_footOf_28 : decode cX12_footOf 28 = .ok (.iadd, 1) := by decide +kernel
theorem dX12_footOf_29 : decode cX12_footOf 29 = .ok (.iaload, 1) := by decide +kernel
theorem dX12_footOf_30 : decode cX12_footOf 30 = .ok (.imul, 1) := by decide +kernel
theorem dX12_footOf_31 : decode cX12_footOf 31 = .ok (.iload_n 2, 1) := by decide +kernel
theorem dX12_footOf_32 : decode cX12_footOf 32 = .ok (.iadd, 1) := by decide +kernel
theorem dX12_footOf_33 : decode cX12_footOf 33 = .ok (.iaload, 1) := by decide +kernel
theorem dX12_footOf_34 : decode cX12_footOf 34 = .ok (.istore_n 2, 1) := by decide +kernel
theorem dX12_footOf_35 : decode cX12_footOf 35 = .ok (.iinc 3 1, 3) := by decide +kernel
theorem dX12_footOf_38 : decode cX12_footOf 38 = .ok (.goto (-34), 3) := by decide +kernel
theorem dX12_hush_0 : decode cX12_hush 0 = .ok (.iload_n 1, 1) := by decide +kernel
theorem dX12_hush_1 : decode cX12_hush 1 = .ok (.invokestatic 325, 3) := by decide +kernel
theorem tw_1494 : Cond.methodLink RX12 325 yX12_isText ∈ TT := nx_mem 1494 (by decide +kernel) (by decide +kernel)
theorem tw_1495 : Cond.static yX12_isText ∈ TT := nx_mem 1495 (by decide +kernel) (by decide +kernel)
theorem tw_1496 : Cond.code yX12_isText cX12_isText 1 (some .boolean) ∈ TT := nx_mem 1496 (by decide +kernel) (by decide +kernel)
theorem dX12_hush_4 : decode cX12_hush 4 = .ok (.ifCond .ne 5, 3) := by decide +kernel
theorem dX12_hush_7 : decode cX12_hush 7 = .ok (.iconst (-1), 1) := by decide +kernel
theorem dX12_hush_8 : decode cX12_hush 8 = .ok (.ireturn, 1) := by decide +kernel
theorem dX12_hush_9 : decode cX12_hush 9 = .ok (.aload_n 0, 1) := by decide +kernel
theorem dX12_hush_10 : decode cX12_hush 10 = .ok (.getfield 94, 3) := by decide +kernel
theorem dX12_hush_13 : decode cX12_hush 13 = .ok (.iload_n 1, 1) := by decide +kernel
theorem dX12_hush_14 : decode cX12_hush 14 = .ok (.iaload, 1) := by decide +kernel
theorem dX12_hush_15 : decode cX12_hush 15 = .ok (.istore_n 2, 1) := by decide +kernel
theorem dX12_hush_16 : decode cX12_hush 16 = .ok (.aload_n 0, 1) := by decide +kernel
theorem dX12_hush_17 : decode cX12_hush 17 = .ok (.getfield 94, 3) := by decide +kernel
theorem dX12_hush_20 : decode cX12_hush 20 = .ok (.iload_n 1, 1) := by decide +kernel
theorem dX12_hush_21 : decode cX12_hush 21 = .ok (.iconst 0, 1) := by decide +kernel
theorem dX12_hush_22 : decode cX12_hush 22 = .ok (.iastore, 1) := by decide +kernel
theorem dX12_hush_23 : decode cX12_hush 23 = .ok (.iload_n 2, 1) := by decide +kernel
theorem dX12_hush_24 : decode cX12_hush 24 = .ok (.ireturn, 1) := by decide +kernel
theorem dX12_tell_0 : decode cX12_tell 0 = .ok (.iload_n 1, 1) := by decide +kernel
theorem dX12_tell_1 : decode cX12_tell 1 = .ok (.invokestatic 325, 3) := by decide +kernel
theorem dX12_tell_4 : decode cX12_tell 4 = .ok (.ifCond .eq 45, 3) := by decide +kernel
theorem dX12_tell_49 : decode cX12_tell 49 = .ok (.iconst (-1), 1) := by decide +kernel
theorem dX12_tell_50 : decode cX12_tell 50 = .ok (.ireturn, 1) := by decide +kernel
theorem dX12_tell_7 : decode cX12_tell 7 = .ok (.aload_n 0, 1) := by decide +kernel
theorem dX12_tell_8 : decode cX12_tell 8 = .ok (.iload_n 2, 1) := by decide +kernel
theorem dX12_tell_9 : decode cX12_tell 9 = .ok (.invokevirtual 361, 3) := by decide +kernel
theorem tw_1551 : Cond.methodLink RX12 361 yX12_isLetterOf ∈ TT := nx_mem 1551 (by decide +kernel) (by decide +kernel)
theorem tw_1553 : Cond.instanceMethod yX12_isLetterOf ∈ TT := nx_mem 1553 (by decide +kernel) (by decide +kernel)
theorem tw_67 : Cond.selects RX12 yX12_isLetterOf yX12_isLetterOf ∈ TT := nx_mem 67 (by decide +kernel) (by decide +kernel)
theorem tw_1554 : Cond.code yX12_isLetterOf cX12_isLetterOf 2 (some .boolean) ∈ TT := nx_mem 1554 (by decide +kernel) (by decide +kernel)
theorem dX12_tell_12 : decode cX12_tell 12 = .ok (.ifCond .eq 37, 3) := by decide +kernel
theorem dX12_tell_15 : decode cX12_tell 15 = .ok (.aload_n 0, 1) := by decide +kernel
theorem dX12_tell_16 : decode cX12_tell 16 = .ok (.getfield 69, 3) := by decide +kernel
theorem dX12_tell_19 : decode cX12_tell 19 = .ok (.iconst 2, 1) := by decide +kernel
theorem dX12_tell_20 : decode cX12_tell 20 = .ok (.iload_n 2, 1) := by decide +kernel
theorem dX12_tell_21 : decode cX12_tell 21 = .ok (.imul, 1) := by decide +kernel
theorem dX12_tell_22 : decode cX12_tell 22 = .ok (.aload_n 0, 1) := by decide +kernel
theorem dX12_tell_23 : decode cX12_tell 23 = .ok (.iload_n 1, 1) := by decide +kernel
theorem dX12_tell_24 : decode cX12_tell 24 = .ok (.invokevirtual 364, 3) := by decide +kernel
theorem tw_1559 : Cond.methodLink RX12 364 yX12_footOf ∈ TT := nx_mem 1559 (by decide +kernel) (by decide +kernel)
theorem tw_1561 : Cond.instanceMethod yX12_footOf ∈ TT := nx_mem 1561 (by decide +kernel) (by decide +kernel)
theorem tw_68 : Cond.selects RX12 yX12_footOf yX12_footOf ∈ TT := nx_mem 68 (by decide +kernel) (by decide +kernel)
theorem tw_1562 : Cond.code yX12_footOf cX12_footOf 4 (some .int) ∈ TT := nx_mem 1562 (by decide +kernel) (by decide +kernel)
theorem dX12_tell_27 : decode cX12_tell 27 = .ok (.iadd, 1) := by decide +kernel
theorem dX12_tell_28 : decode cX12_tell 28 = .ok (.iaload, 1) := by decide +kernel
theorem dX12_tell_29 : decode cX12_tell 29 = .ok (.ifCond .lt 20, 3) := by decide +kernel
theorem dX12_tell_32 : decode cX12_tell 32 = .ok (.aload_n 0, 1) := by decide +kernel
theorem dX12_tell_33 : decode cX12_tell 33 = .ok (.iload_n 1, 1) := by decide +kernel
theorem dX12_tell_34 : decode cX12_tell 34 = .ok (.invokevirtual 367, 3) := by decide +kernel
theorem tw_1563 : Cond.methodLink RX12 367 yX12_timeOf ∈ TT := nx_mem 1563 (by decide +kernel) (by decide +kernel)
theorem tw_1565 : Cond.instanceMethod yX12_timeOf ∈ TT := nx_mem 1565 (by decide +kernel) (by decide +kernel)
theorem tw_69 : Cond.selects RX12 yX12_timeOf yX12_timeOf ∈ TT := nx_mem 69 (by decide +kernel) (by decide +kernel)
theorem tw_1566 : Cond.code yX12_timeOf cX12_timeOf 4 (some .int) ∈ TT := nx_mem 1566 (by decide +kernel) (by decide +kernel)
theorem dX12_tell_37 : decode cX12_tell 37 = .ok (.aload_n 0, 1) := by decide +kernel
theorem dX12_tell_38 : decode cX12_tell 38 = .ok (.getfield 63, 3) := by decide +kernel
theorem dX12_tell_41 : decode cX12_tell 41 = .ok (.iload_n 2, 1) := by decide +kernel
theorem dX12_tell_42 : decode cX12_tell 42 = .ok (.iaload, 1) := by decide +kernel
theorem dX12_tell_43 : decode cX12_tell 43 = .ok (.iadd, 1) := by decide +kernel
theorem dX12_tell_44 : decode cX12_tell 44 = .ok (.bipush 60, 2) := by decide +kernel
theorem dX12_tell_46 : decode cX12_tell 46 = .ok (.if_icmp .le 5, 3) := by decide +kernel
theorem dX12_tell_51 : decode cX12_tell 51 = .ok (.aload_n 0, 1) := by decide +kernel
theorem dX12_tell_52 : decode cX12_tell 52 = .ok (.getfield 91, 3) := by decide +kernel
theorem dX12_tell_55 : decode cX12_tell 55 = .ok (.bipush 60, 2) := by decide +kernel
theorem dX12_tell_57 : decode cX12_tell 57 = .ok (.iload_n 1, 1) := by decide +kernel
theorem dX12_tell_58 : decode cX12_tell 58 = .ok (.imul, 1) := by decide +kernel
theorem dX12_tell_59 : decode cX12_tell 59 = .ok (.aload_n 0, 1) := by decide +kernel
theorem dX12_tell_60 : decode cX12_tell 60 = .ok (.getfield 94, 3) := by decide +kernel
theorem dX12_tell_63 : decode cX12_tell 63 = .ok (.iload_n 1, 1) := by decide +kernel
theorem dX12_tell_64 : decode cX12_tell 64 = .ok (.iaload, 1) := by decide +kernel
theorem dX12_tell_65 : decode cX12_tell 65 = .ok (.iadd, 1) := by decide +kernel
theorem dX12_tell_66 : decode cX12_tell 66 = .ok (.iload_n 2, 1) := by decide +kernel
theorem dX12_tell_67 : decode cX12_tell 67 = .ok (.iastore, 1) := by decide +kernel
theorem dX12_tell_68 : decode cX12_tell 68 = .ok (.aload_n 0, 1) := by decide +kernel
theorem dX12_tell_69 : decode cX12_tell 69 = .ok (.getfield 94, 3) := by decide +kernel
theorem dX12_tell_72 : decode cX12_tell 72 = .ok (.iload_n 1, 1) := by decide +kernel
theorem dX12_tell_73 : decode cX12_tell 73 = .ok (.dup2, 1) := by decide +kernel
theorem dX12_tell_74 : decode cX12_tell 74 = .ok (.iaload, 1) := by decide +kernel
theorem dX12_tell_75 : decode cX12_tell 75 = .ok (.iconst 1, 1) := by decide +kernel
theorem dX12_tell_76 : decode cX12_tell 76 = .ok (.iadd, 1) := by decide +kernel
theorem dX12_tell_77 : decode cX12_tell 77 = .ok (.iastore, 1) := by decide +kernel
theorem dX12_tell_78 : decode cX12_tell 78 = .ok (.aload_n 0, 1) := by decide +kernel
theorem dX12_tell_79 : decode cX12_tell 79 = .ok (.iload_n 1, 1) := by decide +kernel
theorem dX12_tell_80 : decode cX12_tell 80 = .ok (.invokevirtual 367, 3) := by decide +kernel
theorem dX12_tell_83 : decode cX12_tell 83 = .ok (.ireturn, 1) := by decide +kernel
theorem dX12_say_0 : decode cX12_say 0 = .ok (.iload_n 1, 1) := by decide +kernel
theorem dX12_say_1 : decode cX12_say 1 = .ok (.invokestatic 325, 3) := by decide +kernel
theorem dX12_say_4 : decode cX12_say 4 = .ok (.ifCond .ne 5, 3) := by decide +kernel
theorem dX12_say_7 : decode cX12_say 7 = .ok (.iconst (-1), 1) := by decide +kernel
theorem dX12_say_8 : decode cX12_say 8 = .ok (.ireturn, 1) := by decide +kernel
theorem dX12_say_9 : decode cX12_say 9 = .ok (.aload_n 0, 1) := by decide +kernel
theorem dX12_say_10 : decode cX12_say 10 = .ok (.getfield 319, 3) := by decide +kernel
theorem dX12_say_13 : decode cX12_say 13 = .ok (.istore_n 2, 1) := by decide +kernel
theorem dX12_say_14 : decode cX12_say 14 = .ok (.aload_n 0, 1) := by decide +kernel
theorem dX12_say_15 : decode cX12_say 15 = .ok (.getfield 316, 3) := by decide +kernel
theorem dX12_say_18 : decode cX12_say 18 = .ok (.istore_n 3, 1) := by decide +kernel
theorem dX12_say_19 : decode cX12_say 19 = .ok (.iconst 0, 1) := by decide +kernel
theorem dX12_say_20 : decode cX12_say 20 = .ok (.istore 4, 2) := by decide +kernel
theorem dX12_say_22 : decode cX12_say 22 = .ok (.iload 4, 2) := by decide +kernel
theorem dX12_say_24 : decode cX12_say 24 = .ok (.aload_n 0, 1) := by decide +kernel
theorem dX12_say_25 : decode cX12_say 25 = .ok (.getfield 94, 3) := by decide +kernel
theorem dX12_say_28 : decode cX12_say 28 = .ok (.iload_n 1, 1) := by decide +kernel
theorem dX12_say_29 : decode cX12_say 29 = .ok (.iaload, 1) := by decide +kernel
theorem dX12_say_30 : decode cX12_say 30 = .ok (.if_icmp .ge 53, 3) := by decide +kernel
theorem dX12_say_83 : decode cX12_say 83 = .ok (.iload_n 2, 1) := by decide +kernel
theorem dX12_say_84 : decode cX12_say 84 = .ok (.ifCond .lt 9, 3) := by decide +kernel
theorem dX12_say_93 : decode cX12_say 93 = .ok (.iconst (-1), 1) := by decide +kernel
theorem dX12_say_94 : decode cX12_say 94 = .ok (.ireturn, 1) := by decide +kernel
theorem dX12_say_87 : decode cX12_say 87 = .ok (.iload_n 3, 1) := by decide +kernel
theorem dX12_say_88 : decode cX12_say 88 = .ok (.bipush 60, 2) := by decide +kernel
theorem dX12_say_90 : decode cX12_say 90 = .ok (.if_icmp .le 5, 3) := by decide +kernel
theorem dX12_say_95 : decode cX12_say 95 = .ok (.iconst 0, 1) := by decide +kernel
theorem dX12_say_96 : decode cX12_say 96 = .ok (.istore 4, 2) := by decide +kernel
theorem dX12_say_98 : decode cX12_say 98 = .ok (.iload 4, 2) := by decide +kernel
theorem dX12_say_100 : decode cX12_say 100 = .ok (.aload_n 0, 1) := by decide +kernel
theorem dX12_say_101 : decode cX12_say 101 = .ok (.getfield 94, 3) := by decide +kernel
theorem dX12_say_104 : decode cX12_say 104 = .ok (.iload_n 1, 1) := by decide +kernel
theorem dX12_say_105 : decode cX12_say 105 = .ok (.iaload, 1) := by decide +kernel
theorem dX12_say_106 : decode cX12_say 106 = .ok (.if_icmp .ge 61, 3) := by decide +kernel
theorem dX12_say_167 : decode cX12_say 167 = .ok (.aload_n 0, 1) := by decide +kernel
theorem dX12_say_168 : decode cX12_say 168 = .ok (.getfield 316, 3) := by decide +kernel
theorem dX12_say_171 : decode cX12_say 171 = .ok (.ireturn, 1) := by decide +kernel
theorem dX12_say_109 : decode cX12_say 109 = .ok (.aload_n 0, 1) := by decide +kernel
theorem dX12_say_110 : decode cX12_say 110 = .ok (.getfield 91, 3) := by decide +kernel
theorem dX12_say_113 : decode cX12_say 113 = .ok (.bipush 60, 2) := by decide +kernel
theorem dX12_say_115 : decode cX12_say 115 = .ok (.iload_n 1, 1) := by decide +kernel
theorem dX12_say_116 : decode cX12_say 116 = .ok (.imul, 1) := by decide +kernel
theorem dX12_say_117 : decode cX12_say 117 = .ok (.iload 4, 2) := by decide +kernel
theorem dX12_say_119 : decode cX12_say 119 = .ok (.iadd, 1) := by decide +kernel
theorem dX12_say_120 : decode cX12_say 120 = .ok (.iaload, 1) := by decide +kernel
theorem dX12_say_121 : decode cX12_say 121 = .ok (.istore 5, 2) := by decide +kernel
theorem dX12_say_123 : decode cX12_say 123 = .ok (.iconst 0, 1) := by decide +kernel
theorem dX12_say_124 : decode cX12_say 124 = .ok (.istore 6, 2) := by decide +kernel
theorem dX12_say_126 : decode cX12_say 126 = .ok (.iload 6, 2) := by decide +kernel
theorem dX12_say_128 : decode cX12_say 128 = .ok (.aload_n 0, 1) := by decide +kernel
theorem dX12_say_129 : decode cX12_say 129 = .ok (.getfield 51, 3) := by decide +kernel
theorem dX12_say_132 : decode cX12_say 132 = .ok (.iload 5, 2) := by decide +kernel
theorem dX12_say_134 : decode cX12_say 134 = .ok (.iaload, 1) := by decide +kernel
theorem dX12_say_135 : decode cX12_say 135 = .ok (.if_icmp .ge 26, 3) := by decide +kernel
theorem dX12_say_161 : decode cX12_say 161 = .ok (.iinc 4 1, 3) := by decide +kernel
theorem dX12_say_164 : decode cX12_say 164 = .ok (.goto (-66), 3) := by decide +kernel
theorem dX12_say_138 : decode cX12_say 138 = .ok (.aload_n 0, 1) := by decide +kernel
theorem dX12_say_139 : decode cX12_say 139 = .ok (.aload_n 0, 1) := by decide +kernel
theorem dX12_say_140 : decode cX12_say 140 = .ok (.getfield 54, 3) := by decide +kernel
theorem dX12_say_143 : decode cX12_say 143 = .ok (.iconst 5, 1) := by decide +kernel
theorem dX12_say_144 : decode cX12_say 144 = .ok (.iload 5, 2) := by decide +kernel
theorem dX12_say_146 : decode cX12_say 146 = .ok (.imul, 1) := by decide +kernel
theorem dX12_say_147 : decode cX12_say 147 = .ok (.iload 6, 2) := by decide +kernel
theorem dX12_say_149 : decode cX12_say 149 = .ok (.iadd, 1) := by decide +kernel
theorem dX12_say_150 : decode cX12_say 150 = .ok (.iaload, 1) := by decide +kernel
theorem dX12_say_151 : decode cX12_say 151 = .ok (.invokevirtual 328, 3) := by decide +kernel
theorem tw_1497 : Cond.methodLink RX12 328 yX12_step ∈ TT := nx_mem 1497 (by decide +kernel) (by decide +kernel)
theorem tw_1480 : Cond.instanceMethod yX12_step ∈ TT := nx_mem 1480 (by decide +kernel) (by decide +kernel)
theorem tw_1481 : Cond.selects RX12 yX12_step yX12_step ∈ TT := nx_mem 1481 (by decide +kernel) (by decide +kernel)
theorem tw_1482 : Cond.code yX12_step cX12_step 2 (some .int) ∈ TT := nx_mem 1482 (by decide +kernel) (by decide +kernel)
theorem dX12_say_154 : decode cX12_say 154 = .ok (.pop, 1) := by decide +kernel
theorem dX12_say_155 : decode cX12_say 155 = .ok (.iinc 6 1, 3) := by decide +kernel
theorem dX12_say_158 : decode cX12_say 158 = .ok (.goto (-32), 3) := by decide +kernel
theorem dX12_say_33 : decode cX12_say 33 = .ok (.aload_n 0, 1) := by decide +kernel
theorem dX12_say_34 : decode cX12_say 34 = .ok (.getfield 91, 3) := by decide +kernel
theorem dX12_say_37 : decode cX12_say 37 = .ok (.bipush 60, 2) := by decide +kernel
theorem dX12_say_39 : decode cX12_say 39 = .ok (.iload_n 1, 1) := by decide +kernel
theorem dX12_say_40 : decode cX12_say 40 = .ok (.imul, 1) := by decide +kernel
theorem dX12_say_41 : decode cX12_say 41 = .ok (.iload 4, 2) := by decide +kernel
theorem dX12_say_43 : decode cX12_say 43 = .ok (.iadd, 1) := by decide +kernel
theorem dX12_say_44 : decode cX12_say 44 = .ok (.iaload, 1) := by decide +kernel
theorem dX12_say_45 : decode cX12_say 45 = .ok (.istore 5, 2) := by decide +kernel
theorem dX12_say_47 : decode cX12_say 47 = .ok (.iload_n 2, 1) := by decide +kernel
theorem dX12_say_48 : decode cX12_say 48 = .ok (.ifCond .ge 7, 3) := by decide +kernel
theorem dX12_say_51 : decode cX12_say 51 = .ok (.iconst (-1), 1) := by decide +kernel
theorem dX12_say_52 : decode cX12_say 52 = .ok (.goto 14, 3) := by decide +kernel
theorem dX12_say_66 : decode cX12_say 66 = .ok (.istore_n 2, 1) := by decide +kernel
theorem dX12_say_67 : decode cX12_say 67 = .ok (.iload_n 3, 1) := by decide +kernel
theorem dX12_say_68 : decode cX12_say 68 = .ok (.aload_n 0, 1) := by decide +kernel
theorem dX12_say_69 : decode cX12_say 69 = .ok (.getfield 63, 3) := by decide +kernel
theorem dX12_say_72 : decode cX12_say 72 = .ok (.iload 5, 2) := by decide +kernel
theorem dX12_say_74 : decode cX12_say 74 = .ok (.iaload, 1) := by decide +kernel
theorem dX12_say_75 : decode cX12_say 75 = .ok (.iadd, 1) := by decide +kernel
theorem dX12_say_76 : decode cX12_say 76 = .ok (.istore_n 3, 1) := by decide +kernel
theorem dX12_say_77 : decode cX12_say 77 = .ok (.iinc 4 1, 3) := by decide +kernel
theorem dX12_say_80 : decode cX12_say 80 = .ok (.goto (-58), 3) := by decide +kernel
theorem dX12_say_55 : decode cX12_say 55 = .ok (.aload_n 0, 1) := by decide +kernel
theorem dX12_say_56 : decode cX12_say 56 = .ok (.getfield 69, 3) := by decide +kernel
theorem dX12_say_59 : decode cX12_say 59 = .ok (.iconst 2, 1) := by decide +kernel
theorem dX12_say_60 : decode cX12_say 60 = .ok (.iload 5, 2) := by decide +kernel
theorem dX12_say_62 : decode cX12_say 62 = .ok (.imul, 1) := by decide +kernel
theorem dX12_say_63 : decode cX12_say 63 = .ok (.iload_n 2, 1) := by decide +kernel
theorem dX12_say_64 : decode cX12_say 64 = .ok (.iadd, 1) := by decide +kernel
theorem dX12_say_65 : decode cX12_say 65 = .ok (.iaload, 1) := by decide +kernel
theorem dX12_image_0 : decode cX12_image 0 = .ok (.iload_n 1, 1) := by decide +kernel
theorem dX12_image_1 : decode cX12_image 1 = .ok (.invokestatic 438, 3) := by decide +kernel
theorem tw_1695 : Cond.methodLink RX12 438 yX12_isBox ∈ TT := nx_mem 1695 (by decide +kernel) (by decide +kernel)
theorem tw_1696 : Cond.static yX12_isBox ∈ TT := nx_mem 1696 (by decide +kernel) (by decide +kernel)
theorem tw_1697 : Cond.code yX12_isBox cX12_isBox 1 (some .boolean) ∈ TT := nx_mem 1697 (by decide +kernel) (by decide +kernel)
theorem dX12_image_4 : decode cX12_image 4 = .ok (.ifCond .ne 5, 3) := by decide +kernel
theorem dX12_image_7 : decode cX12_image 7 = .ok (.iconst (-1), 1) := by decide +kernel
theorem dX12_image_8 : decode cX12_image 8 = .ok (.ireturn, 1) := by decide +kernel
theorem dX12_image_9 : decode cX12_image 9 = .ok (.aload_n 0, 1) := by decide +kernel
theorem dX12_image_10 : decode cX12_image 10 = .ok (.getfield 148, 3) := by decide +kernel
theorem dX12_image_13 : decode cX12_image 13 = .ok (.iload_n 1, 1) := by decide +kernel
theorem dX12_image_14 : decode cX12_image 14 = .ok (.iconst 1, 1) := by decide +kernel
theorem dX12_image_15 : decode cX12_image 15 = .ok (.bastore, 1) := by decide +kernel
theorem dX12_image_16 : decode cX12_image 16 = .ok (.aload_n 0, 1) := by decide +kernel
theorem dX12_image_17 : decode cX12_image 17 = .ok (.getfield 151, 3) := by decide +kernel
theorem tw_1223 : Cond.fieldLink RX12 151 "LimpCodeModel" "boxMany" "[I" ∈ TT := nx_mem 1223 (by decide +kernel) (by decide +kernel)
theorem dX12_image_20 : decode cX12_image 20 = .ok (.iload_n 1, 1) := by decide +kernel
theorem dX12_image_21 : decode cX12_image 21 = .ok (.aload_n 0, 1) := by decide +kernel
theorem dX12_image_22 : decode cX12_image 22 = .ok (.getfield 313, 3) := by decide +kernel
theorem dX12_image_25 : decode cX12_image 25 = .ok (.iastore, 1) := by decide +kernel
theorem dX12_image_26 : decode cX12_image 26 = .ok (.iconst 0, 1) := by decide +kernel
theorem dX12_image_27 : decode cX12_image 27 = .ok (.istore_n 2, 1) := by decide +kernel
theorem dX12_image_28 : decode cX12_image 28 = .ok (.iload_n 2, 1) := by decide +kernel
theorem dX12_image_29 : decode cX12_image 29 = .ok (.bipush 6, 2) := by decide +kernel
theorem dX12_image_31 : decode cX12_image 31 = .ok (.if_icmp .ge 26, 3) := by decide +kernel
theorem dX12_image_34 : decode cX12_image 34 = .ok (.aload_n 0, 1) := by decide +kernel
theorem dX12_image_35 : decode cX12_image 35 = .ok (.getfield 154, 3) := by decide +kernel
theorem tw_1224 : Cond.fieldLink RX12 154 "LimpCodeModel" "boxLoud" "[I" ∈ TT := nx_mem 1224 (by decide +kernel) (by decide +kernel)
theorem dX12_image_38 : decode cX12_image 38 = .ok (.bipush 8, 2) := by decide +kernel
theorem dX12_image_40 : decode cX12_image 40 = .ok (.iload_n 1, 1) := by decide +kernel
theorem dX12_image_41 : decode cX12_image 41 = .ok (.imul, 1) := by decide +kernel
theorem dX12_image_42 : decode cX12_image 42 = .ok (.iload_n 2, 1) := by decide +kernel
theorem dX12_image_43 : decode cX12_image 43 = .ok (.iadd, 1) := by decide +kernel
theorem dX12_image_44 : decode cX12_image 44 = .ok (.aload_n 0, 1) := by decide +kernel
theorem dX12_image_45 : decode cX12_image 45 = .ok (.getfield 45, 3) := by decide +kernel
theorem dX12_image_48 : decode cX12_image 48 = .ok (.iload_n 2, 1) := by decide +kernel
theorem dX12_image_49 : decode cX12_image 49 = .ok (.iaload, 1) := by decide +kernel
theorem dX12_image_50 : decode cX12_image 50 = .ok (.iastore, 1) := by decide +kernel
theorem dX12_image_51 : decode cX12_image 51 = .ok (.iinc 2 1, 3) := by decide +kernel
theorem dX12_image_54 : decode cX12_image 54 = .ok (.goto (-26), 3) := by decide +kernel
theorem dX12_image_57 : decode cX12_image 57 = .ok (.iconst 0, 1) := by decide +kernel
theorem dX12_image_58 : decode cX12_image 58 = .ok (.istore_n 2, 1) := by decide +kernel
theorem dX12_image_59 : decode cX12_image 59 = .ok (.iload_n 2, 1) := by decide +kernel
theorem dX12_image_60 : decode cX12_image 60 = .ok (.aload_n 0, 1) := by decide +kernel
theorem dX12_image_61 : decode cX12_image 61 = .ok (.getfield 313, 3) := by decide +kernel
theorem dX12_image_64 : decode cX12_image 64 = .ok (.if_icmp .ge 26, 3) := by decide +kernel
theorem dX12_image_90 : decode cX12_image 90 = .ok (.aload_n 0, 1) := by decide +kernel
theorem dX12_image_91 : decode cX12_image 91 = .ok (.getfield 316, 3) := by decide +kernel
theorem dX12_image_94 : decode cX12_image 94 = .ok (.ireturn, 1) := by decide +kernel
theorem dX12_image_67 : decode cX12_image 67 = .ok (.aload_n 0, 1) := by decide +kernel
theorem dX12_image_68 : decode cX12_image 68 = .ok (.getfield 157, 3) := by decide +kernel
theorem tw_1225 : Cond.fieldLink RX12 157 "LimpCodeModel" "boxWalk" "[I" ∈ TT := nx_mem 1225 (by decide +kernel) (by decide +kernel)
theorem dX12_image_71 : decode cX12_image 71 = .ok (.bipush 60, 2) := by decide +kernel
theorem dX12_image_73 : decode cX12_image 73 = .ok (.iload_n 1, 1) := by decide +kernel
theorem dX12_image_74 : decode cX12_image 74 = .ok (.imul, 1) := by decide +kernel
theorem dX12_image_75 : decode cX12_image 75 = .ok (.iload_n 2, 1) := by decide +kernel
theorem dX12_image_76 : decode cX12_image 76 = .ok (.iadd, 1) := by decide +kernel
theorem dX12_image_77 : decode cX12_image 77 = .ok (.aload_n 0, 1) := by decide +kernel
theorem dX12_image_78 : decode cX12_image 78 = .ok (.getfield 75, 3) := by decide +kernel
theorem dX12_image_81 : decode cX12_image 81 = .ok (.iload_n 2, 1) := by decide +kernel
theorem dX12_image_82 : decode cX12_image 82 = .ok (.iaload, 1) := by decide +kernel
theorem dX12_image_83 : decode cX12_image 83 = .ok (.iastore, 1) := by decide +kernel
theorem dX12_image_84 : decode cX12_image 84 = .ok (.iinc 2 1, 3) := by decide +kernel
theorem dX12_image_87 : decode cX12_image 87 = .ok (.goto (-28), 3) := by decide +kernel
theorem dX12_back_0 : decode cX12_back 0 = .ok (.iload_n 1, 1) := by decide +kernel
theorem dX12_back_1 : decode cX12_back 1 = .ok (.invokestatic 438, 3) := by decide +kernel
theorem dX12_back_4 : decode cX12_back 4 = .ok (.ifCond .eq 12, 3) := by decide +kernel
theorem dX12_back_16 : decode cX12_back 16 = .ok (.iconst (-1), 1) := by decide +kernel
theorem dX12_back_17 : decode cX12_back 17 = .ok (.ireturn, 1) := by decide +kernel
theorem dX12_back_7 : decode cX12_back 7 = .ok (.aload_n 0, 1) := by decide +kernel
theorem dX12_back_8 : decode cX12_back 8 = .ok (.getfield 148, 3) := by decide +kernel
theorem dX12_back_11 : decode cX12_back 11 = .ok (.iload_n 1, 1) := by decide +kernel
theorem dX12_back_12 : decode cX12_back 12 = .ok (.baload, 1) := by decide +kernel
theorem dX12_back_13 : decode cX12_back 13 = .ok (.ifCond .ne 5, 3) := by decide +kernel
theorem dX12_back_18 : decode cX12_back 18 = .ok (.iconst 0, 1) := by decide +kernel
theorem dX12_back_19 : decode cX12_back 19 = .ok (.istore_n 2, 1) := by decide +kernel
theorem dX12_back_20 : decode cX12_back 20 = .ok (.iload_n 2, 1) := by decide +kernel
theorem dX12_back_21 : decode cX12_back 21 = .ok (.bipush 6, 2) := by decide +kernel
theorem dX12_back_23 : decode cX12_back 23 = .ok (.if_icmp .ge 26, 3) := by decide +kernel
theorem dX12_back_26 : decode cX12_back 26 = .ok (.aload_n 0, 1) := by decide +kernel
theorem dX12_back_27 : decode cX12_back 27 = .ok (.getfield 45, 3) := by decide +kernel
theorem dX12_back_30 : decode cX12_back 30 = .ok (.iload_n 2, 1) := by decide +kernel
theorem dX12_back_31 : decode cX12_back 31 = .ok (.aload_n 0, 1) := by decide +kernel
theorem dX12_back_32 : decode cX12_back 32 = .ok (.getfield 154, 3) := by decide +kernel
theorem dX12_back_35 : decode cX12_back 35 = .ok (.bipush 8, 2) := by decide +kernel
theorem dX12_back_37 : decode cX12_back 37 = .ok (.iload_n 1, 1) := by decide +kernel
theorem dX12_back_38 : decode cX12_back 38 = .ok (.imul, 1) := by decide +kernel
theorem dX12_back_39 : decode cX12_back 39 = .ok (.iload_n 2, 1) := by decide +kernel
theorem dX12_back_40 : decode cX12_back 40 = .ok (.iadd, 1) := by decide +kernel
theorem dX12_back_41 : decode cX12_back 41 = .ok (.iaload, 1) := by decide +kernel
theorem dX12_back_42 : decode cX12_back 42 = .ok (.iastore, 1) := by decide +kernel
theorem dX12_back_43 : decode cX12_back 43 = .ok (.iinc 2 1, 3) := by decide +kernel
theorem dX12_back_46 : decode cX12_back 46 = .ok (.goto (-26), 3) := by decide +kernel
theorem dX12_back_49 : decode cX12_back 49 = .ok (.aload_n 0, 1) := by decide +kernel
theorem dX12_back_50 : decode cX12_back 50 = .ok (.invokevirtual 160, 3) := by decide +kernel
theorem dX12_back_53 : decode cX12_back 53 = .ok (.iconst 0, 1) := by decide +kernel
theorem dX12_back_54 : decode cX12_back 54 = .ok (.istore_n 2, 1) := by decide +kernel
theorem dX12_back_55 : decode cX12_back 55 = .ok (.iload_n 2, 1) := by decide +kernel
theorem dX12_back_56 : decode cX12_back 56 = .ok (.aload_n 0, 1) := by decide +kernel
theorem dX12_back_57 : decode cX12_back 57 = .ok (.getfield 151, 3) := by decide +kernel
theorem dX12_back_60 : decode cX12_back 60 = .ok (.iload_n 1, 1) := by decide +kernel
theorem dX12_back_61 : decode cX12_back 61 = .ok (.iaload, 1) := by decide +kernel
theorem dX12_back_62 : decode cX12_back 62 = .ok (.if_icmp .ge 25, 3) := by decide +kernel
theorem dX12_back_87 : decode cX12_back 87 = .ok (.aload_n 0, 1) := by decide +kernel
theorem dX12_back_88 : decode cX12_back 88 = .ok (.getfield 316, 3) := by decide +kernel
theorem dX12_back_91 : decode cX12_back 91 = .ok (.ireturn, 1) := by decide +kernel
theorem dX12_back_65 : decode cX12_back 65 = .ok (.aload_n 0, 1) := by decide +kernel
theorem dX12_back_66 : decode cX12_back 66 = .ok (.aload_n 0, 1) := by decide +kernel
theorem dX12_back_67 : decode cX12_back 67 = .ok (.getfield 157, 3) := by decide +kernel
theorem dX12_back_70 : decode cX12_back 70 = .ok (.bipush 60, 2) := by decide +kernel
theorem dX12_back_72 : decode cX12_back 72 = .ok (.iload_n 1, 1) := by decide +kernel
theorem dX12_back_73 : decode cX12_back 73 = .ok (.imul, 1) := by decide +kernel
theorem dX12_back_74 : decode cX12_back 74 = .ok (.iload_n 2, 1) := by decide +kernel
theorem dX12_back_75 : decode cX12_back 75 = .ok (.iadd, 1) := by decide +kernel
theorem dX12_back_76 : decode cX12_back 76 = .ok (.iaload, 1) := by decide +kernel
theorem dX12_back_77 : decode cX12_back 77 = .ok (.invokevirtual 328, 3) := by decide +kernel
theorem dX12_back_80 : decode cX12_back 80 = .ok (.pop, 1) := by decide +kernel
theorem dX12_back_81 : decode cX12_back 81 = .ok (.iinc 2 1, 3) := by decide +kernel
theorem dX12_back_84 : decode cX12_back 84 = .ok (.goto (-29), 3) := by decide +kernel
theorem dX12_alike_0 : decode cX12_alike 0 = .ok (.aload_n 0, 1) := by decide +kernel
theorem dX12_alike_1 : decode cX12_alike 1 = .ok (.iload_n 1, 1) := by decide +kernel
theorem dX12_alike_2 : decode cX12_alike 2 = .ok (.invokevirtual 331, 3) := by decide +kernel
theorem dX12_alike_5 : decode cX12_alike 5 = .ok (.ifCond .eq 29, 3) := by decide +kernel
theorem dX12_alike_34 : decode cX12_alike 34 = .ok (.iconst (-1), 1) := by decide +kernel
theorem dX12_alike_35 : decode cX12_alike 35 = .ok (.ireturn, 1) := by decide +kernel
theorem dX12_alike_8 : decode cX12_alike 8 = .ok (.aload_n 0, 1) := by decide +kernel
theorem dX12_alike_9 : decode cX12_alike 9 = .ok (.iload_n 2, 1) := by decide +kernel
theorem dX12_alike_10 : decode cX12_alike 10 = .ok (.invokevirtual 361, 3) := by decide +kernel
theorem dX12_alike_13 : decode cX12_alike 13 = .ok (.ifCond .eq 21, 3) := by decide +kernel
theorem dX12_alike_16 : decode cX12_alike 16 = .ok (.aload_n 0, 1) := by decide +kernel
theorem dX12_alike_17 : decode cX12_alike 17 = .ok (.iload_n 3, 1) := by decide +kernel
theorem dX12_alike_18 : decode cX12_alike 18 = .ok (.invokevirtual 361, 3) := by decide +kernel
theorem dX12_alike_21 : decode cX12_alike 21 = .ok (.ifCond .eq 13, 3) := by decide +kernel
theorem dX12_alike_24 : decode cX12_alike 24 = .ok (.iload 4, 2) := by decide +kernel
theorem dX12_alike_26 : decode cX12_alike 26 = .ok (.iconst 0, 1) := by decide +kernel
theorem dX12_alike_27 : decode cX12_alike 27 = .ok (.iconst 1, 1) := by decide +kernel
theorem dX12_alike_28 : decode cX12_alike 28 = .ok (.invokestatic 297, 3) := by decide +kernel
theorem dX12_alike_31 : decode cX12_alike 31 = .ok (.ifCond .ne 5, 3) := by decide +kernel
theorem dX12_alike_36 : decode cX12_alike 36 = .ok (.aload_n 0, 1) := by decide +kernel
theorem dX12_alike_37 : decode cX12_alike 37 = .ok (.getfield 69, 3) := by decide +kernel
theorem dX12_alike_40 : decode cX12_alike 40 = .ok (.iconst 2, 1) := by decide +kernel
theorem dX12_alike_41 : decode cX12_alike 41 = .ok (.iload_n 2, 1) := by decide +kernel
theorem dX12_alike_42 : decode cX12_alike 42 = .ok (.imul, 1) := by decide +kernel
theorem dX12_alike_43 : decode cX12_alike 43 = .ok (.iload 4, 2) := by decide +kernel
theorem dX12_alike_45 : decode cX12_alike 45 = .ok (.iadd, 1) := by decide +kernel
theorem dX12_alike_46 : decode cX12_alike 46 = .ok (.iaload, 1) := by decide +kernel
theorem dX12_alike_47 : decode cX12_alike 47 = .ok (.ifCond .lt 36, 3) := by decide +kernel
theorem dX12_alike_83 : decode cX12_alike 83 = .ok (.iconst 0, 1) := by decide +kernel
theorem dX12_alike_84 : decode cX12_alike 84 = .ok (.istore 5, 2) := by decide +kernel
theorem dX12_alike_86 : decode cX12_alike 86 = .ok (.iconst 0, 1) := by decide +kernel
theorem dX12_alike_87 : decode cX12_alike 87 = .ok (.istore 6, 2) := by decide +kernel
theorem dX12_alike_89 : decode cX12_alike 89 = .ok (.iload 5, 2) := by decide +kernel
theorem dX12_alike_91 : decode cX12_alike 91 = .ok (.ifCond .eq 64, 3) := by decide +kernel
theorem dX12_alike_155 : decode cX12_alike 155 = .ok (.iload 5, 2) := by decide +kernel
theorem dX12_alike_157 : decode cX12_alike 157 = .ok (.ifCond .eq 7, 3) := by decide +kernel
theorem dX12_alike_164 : decode cX12_alike 164 = .ok (.iconst 0, 1) := by decide +kernel
theorem dX12_alike_165 : decode cX12_alike 165 = .ok (.ireturn, 1) := by decide +kernel
theorem dX12_alike_50 : decode cX12_alike 50 = .ok (.aload_n 0, 1) := by decide +kernel
theorem dX12_alike_51 : decode cX12_alike 51 = .ok (.getfield 69, 3) := by decide +kernel
theorem dX12_alike_54 : decode cX12_alike 54 = .ok (.iconst 2, 1) := by decide +kernel
theorem dX12_alike_55 : decode cX12_alike 55 = .ok (.iload_n 3, 1) := by decide +kernel
theorem dX12_alike_56 : decode cX12_alike 56 = .ok (.imul, 1) := by decide +kernel
theorem dX12_alike_57 : decode cX12_alike 57 = .ok (.iload 4, 2) := by decide +kernel
theorem dX12_alike_59 : decode cX12_alike 59 = .ok (.iadd, 1) := by decide +kernel
theorem dX12_alike_60 : decode cX12_alike 60 = .ok (.iaload, 1) := by decide +kernel
theorem dX12_alike_61 : decode cX12_alike 61 = .ok (.ifCond .lt 22, 3) := by decide +kernel
theorem dX12_alike_64 : decode cX12_alike 64 = .ok (.aload_n 0, 1) := by decide +kernel
theorem dX12_alike_65 : decode cX12_alike 65 = .ok (.getfield 63, 3) := by decide +kernel
theorem dX12_alike_68 : decode cX12_alike 68 = .ok (.iload_n 2, 1) := by decide +kernel
theorem dX12_alike_69 : decode cX12_alike 69 = .ok (.iaload, 1) := by decide +kernel
theorem dX12_alike_70 : decode cX12_alike 70 = .ok (.aload_n 0, 1) := by decide +kernel
theorem dX12_alike_71 : decode cX12_alike 71 = .ok (.getfield 63, 3) := by decide +kernel
theorem dX12_alike_74 : decode cX12_alike 74 = .ok (.iload_n 3, 1) := by decide +kernel
theorem dX12_alike_75 : decode cX12_alike 75 = .ok (.iaload, 1) := by decide +kernel
theorem dX12_alike_76 : decode cX12_alike 76 = .ok (.if_icmp .ne 7, 3) := by decide +kernel
theorem dX12_alike_79 : decode cX12_alike 79 = .ok (.iconst 1, 1) := by decide +kernel
theorem dX12_alike_80 : decode cX12_alike 80 = .ok (.goto 4, 3) := by decide +kernel
theorem dX12_alike_94 : decode cX12_alike 94 = .ok (.iload 6, 2) := by decide +kernel
theorem dX12_alike_96 : decode cX12_alike 96 = .ok (.aload_n 0, 1) := by decide +kernel
theorem dX12_alike_97 : decode cX12_alike 97 = .ok (.getfield 63, 3) := by decide +kernel
theorem dX12_alike_100 : decode cX12_alike 100 = .ok (.iload_n 2, 1) := by decide +kernel
theorem dX12_alike_101 : decode cX12_alike 101 = .ok (.iaload, 1) := by decide +kernel
theorem dX12_alike_102 : decode cX12_alike 102 = .ok (.if_icmp .ge 53, 3) := by decide +kernel
theorem dX12_alike_160 : decode cX12_alike 160 = .ok (.iconst 1, 1) := by decide +kernel
theorem dX12_alike_161 : decode cX12_alike 161 = .ok (.goto 4, 3) := by decide +kernel
theorem dX12_alike_105 : decode cX12_alike 105 = .ok (.aload_n 0, 1) := by decide +kernel
theorem dX12_alike_106 : decode cX12_alike 106 = .ok (.iload_n 1, 1) := by decide +kernel
theorem dX12_alike_107 : decode cX12_alike 107 = .ok (.aload_n 0, 1) := by decide +kernel
theorem dX12_alike_108 : decode cX12_alike 108 = .ok (.getfield 66, 3) := by decide +kernel
theorem dX12_alike_111 : decode cX12_alike 111 = .ok (.bipush 45, 2) := by decide +kernel
theorem dX12_alike_113 : decode cX12_alike 113 = .ok (.iload_n 2, 1) := by decide +kernel
theorem dX12_alike_114 : decode cX12_alike 114 = .ok (.imul, 1) := by decide +kernel
theorem dX12_alike_115 : decode cX12_alike 115 = .ok (.iload 6, 2) := by decide +kernel
theorem dX12_alike_117 : decode cX12_alike 117 = .ok (.iadd, 1) := by decide +kernel
theorem dX12_alike_118 : decode cX12_alike 118 = .ok (.iaload, 1) := by decide +kernel
theorem dX12_alike_119 : decode cX12_alike 119 = .ok (.invokevirtual 334, 3) := by decide +kernel
theorem dX12_alike_122 : decode cX12_alike 122 = .ok (.aload_n 0, 1) := by decide +kernel
theorem dX12_alike_123 : decode cX12_alike 123 = .ok (.iload_n 1, 1) := by decide +kernel
theorem dX12_alike_124 : decode cX12_alike 124 = .ok (.aload_n 0, 1) := by decide +kernel
theorem dX12_alike_125 : decode cX12_alike 125 = .ok (.getfield 66, 3) := by decide +kernel
theorem dX12_alike_128 : decode cX12_alike 128 = .ok (.bipush 45, 2) := by decide +kernel
theorem dX12_alike_130 : decode cX12_alike 130 = .ok (.iload_n 3, 1) := by decide +kernel
theorem dX12_alike_131 : decode cX12_alike 131 = .ok (.imul, 1) := by decide +kernel
theorem dX12_alike_132 : decode cX12_alike 132 = .ok (.iload 6, 2) := by decide +kernel
theorem dX12_alike_134 : decode cX12_alike 134 = .ok (.iadd, 1) := by decide +kernel
theorem dX12_alike_135 : decode cX12_alike 135 = .ok (.iaload, 1) := by decide +kernel
theorem dX12_alike_136 : decode cX12_alike 136 = .ok (.invokevirtual 334, 3) := by decide +kernel
theorem dX12_alike_139 : decode cX12_alike 139 = .ok (.if_icmp .ne 7, 3) := by decide +kernel
theorem dX12_alike_146 : decode cX12_alike 146 = .ok (.iconst 0, 1) := by decide +kernel
theorem dX12_alike_147 : decode cX12_alike 147 = .ok (.istore 5, 2) := by decide +kernel
theorem dX12_alike_149 : decode cX12_alike 149 = .ok (.iinc 6 1, 3) := by decide +kernel
theorem dX12_alike_152 : decode cX12_alike 152 = .ok (.goto (-63), 3) := by decide +kernel
theorem dX12_alike_142 : decode cX12_alike 142 = .ok (.iconst 1, 1) := by decide +kernel
theorem dX12_alike_143 : decode cX12_alike 143 = .ok (.goto 4, 3) := by decide +kernel
theorem dX12_stuck_0 : decode cX12_stuck 0 = .ok (.aload_n 0, 1) := by decide +kernel
theorem dX12_stuck_1 : decode cX12_stuck 1 = .ok (.iload_n 1, 1) := by decide +kernel
theorem dX12_stuck_2 : decode cX12_stuck 2 = .ok (.invokevirtual 331, 3) := by decide +kernel
theorem dX12_stuck_5 : decode cX12_stuck 5 = .ok (.ifCond .ne 6, 3) := by decide +kernel
theorem dX12_stuck_8 : decode cX12_stuck 8 = .ok (.bipush (-2), 2) := by decide +kernel
theorem dX12_stuck_10 : decode cX12_stuck 10 = .ok (.ireturn, 1) := by decide +kernel
theorem dX12_stuck_11 : decode cX12_stuck 11 = .ok (.aload_n 0, 1) := by decide +kernel
theorem dX12_stuck_12 : decode cX12_stuck 12 = .ok (.iload_n 1, 1) := by decide +kernel
theorem dX12_stuck_13 : decode cX12_stuck 13 = .ok (.aload_n 0, 1) := by decide +kernel
theorem dX12_stuck_14 : decode cX12_stuck 14 = .ok (.getfield 316, 3) := by decide +kernel
theorem dX12_stuck_17 : decode cX12_stuck 17 = .ok (.invokevirtual 350, 3) := by decide +kernel
theorem dX12_stuck_20 : decode cX12_stuck 20 = .ok (.iconst 0, 1) := by decide +kernel
theorem dX12_stuck_21 : decode cX12_stuck 21 = .ok (.istore_n 2, 1) := by decide +kernel
theorem dX12_stuck_22 : decode cX12_stuck 22 = .ok (.iload_n 2, 1) := by decide +kernel
theorem dX12_stuck_23 : decode cX12_stuck 23 = .ok (.bipush 122, 2) := by decide +kernel
theorem dX12_stuck_25 : decode cX12_stuck 25 = .ok (.if_icmp .ge 24, 3) := by decide +kernel
theorem dX12_stuck_28 : decode cX12_stuck 28 = .ok (.aload_n 0, 1) := by decide +kernel
theorem dX12_stuck_29 : decode cX12_stuck 29 = .ok (.getfield 87, 3) := by decide +kernel
theorem tw_1199 : Cond.fieldLink RX12 87 "LimpCodeModel" "comes" "[Z" ∈ TT := nx_mem 1199 (by decide +kernel) (by decide +kernel)
theorem dX12_stuck_32 : decode cX12_stuck 32 = .ok (.iload_n 2, 1) := by decide +kernel
theorem dX12_stuck_33 : decode cX12_stuck 33 = .ok (.iload_n 2, 1) := by decide +kernel
theorem dX12_stuck_34 : decode cX12_stuck 34 = .ok (.ifCond .ne 7, 3) := by decide +kernel
theorem dX12_stuck_37 : decode cX12_stuck 37 = .ok (.iconst 1, 1) := by decide +kernel
theorem dX12_stuck_38 : decode cX12_stuck 38 = .ok (.goto 4, 3) := by decide +kernel
theorem dX12_stuck_42 : decode cX12_stuck 42 = .ok (.bastore, 1) := by decide +kernel
theorem dX12_stuck_43 : decode cX12_stuck 43 = .ok (.iinc 2 1, 3) := by decide +kernel
theorem dX12_stuck_46 : decode cX12_stuck 46 = .ok (.goto (-24), 3) := by decide +kernel
theorem dX12_stuck_49 : decode cX12_stuck 49 = .ok (.iconst 0, 1) := by decide +kernel
theorem dX12_stuck_50 : decode cX12_stuck 50 = .ok (.istore_n 2, 1) := by decide +kernel
theorem dX12_stuck_51 : decode cX12_stuck 51 = .ok (.iconst 0, 1) := by decide +kernel
theorem dX12_stuck_52 : decode cX12_stuck 52 = .ok (.istore_n 3, 1) := by decide +kernel
theorem dX12_stuck_53 : decode cX12_stuck 53 = .ok (.iload_n 3, 1) := by decide +kernel
theorem dX12_stuck_54 : decode cX12_stuck 54 = .ok (.aload_n 0, 1) := by decide +kernel
theorem dX12_stuck_55 : decode cX12_stuck 55 = .ok (.getfield 316, 3) := by decide +kernel
theorem dX12_stuck_58 : decode cX12_stuck 58 = .ok (.if_icmp .ge 213, 3) := by decide +kernel
theorem dX12_stuck_271 : decode cX12_stuck 271 = .ok (.iload_n 2, 1) := by decide +kernel
theorem dX12_stuck_272 : decode cX12_stuck 272 = .ok (.aload_n 0, 1) := by decide +kernel
theorem dX12_stuck_273 : decode cX12_stuck 273 = .ok (.getfield 316, 3) := by decide +kernel
theorem dX12_stuck_276 : decode cX12_stuck 276 = .ok (.if_icmp .ge 7, 3) := by decide +kernel
theorem dX12_stuck_283 : decode cX12_stuck 283 = .ok (.iconst (-1), 1) := by decide +kernel
theorem dX12_stuck_284 : decode cX12_stuck 284 = .ok (.ireturn, 1) := by decide +kernel
theorem dX12_stuck_279 : decode cX12_stuck 279 = .ok (.iload_n 2, 1) := by decide +kernel
theorem dX12_stuck_280 : decode cX12_stuck 280 = .ok (.goto 4, 3) := by decide +kernel
theorem dX12_stuck_61 : decode cX12_stuck 61 = .ok (.iconst 0, 1) := by decide +kernel
theorem dX12_stuck_62 : decode cX12_stuck 62 = .ok (.istore 4, 2) := by decide +kernel
theorem dX12_stuck_64 : decode cX12_stuck 64 = .ok (.iload 4, 2) := by decide +kernel
theorem dX12_stuck_66 : decode cX12_stuck 66 = .ok (.iconst 2, 1) := by decide +kernel
theorem dX12_stuck_67 : decode cX12_stuck 67 = .ok (.aload_n 0, 1) := by decide +kernel
theorem dX12_stuck_68 : decode cX12_stuck 68 = .ok (.getfield 282, 3) := by decide +kernel
theorem dX12_stuck_71 : decode cX12_stuck 71 = .ok (.imul, 1) := by decide +kernel
theorem dX12_stuck_72 : decode cX12_stuck 72 = .ok (.if_icmp .ge 193, 3) := by decide +kernel
theorem dX12_stuck_265 : decode cX12_stuck 265 = .ok (.iinc 3 1, 3) := by decide +kernel
theorem dX12_stuck_268 : decode cX12_stuck 268 = .ok (.goto (-215), 3) := by decide +kernel
theorem dX12_stuck_75 : decode cX12_stuck 75 = .ok (.iload 4, 2) := by decide +kernel
theorem dX12_stuck_77 : decode cX12_stuck 77 = .ok (.iconst 2, 1) := by decide +kernel
theorem dX12_stuck_78 : decode cX12_stuck 78 = .ok (.idiv, 1) := by decide +kernel
theorem dX12_stuck_79 : decode cX12_stuck 79 = .ok (.istore 5, 2) := by decide +kernel
theorem dX12_stuck_81 : decode cX12_stuck 81 = .ok (.iload 4, 2) := by decide +kernel
theorem dX12_stuck_83 : decode cX12_stuck 83 = .ok (.iconst 2, 1) := by decide +kernel
theorem dX12_stuck_84 : decode cX12_stuck 84 = .ok (.irem, 1) := by decide +kernel
theorem dX12_stuck_85 : decode cX12_stuck 85 = .ok (.istore 6, 2) := by decide +kernel
theorem dX12_stuck_87 : decode cX12_stuck 87 = .ok (.aload_n 0, 1) := by decide +kernel
theorem dX12_stuck_88 : decode cX12_stuck 88 = .ok (.getfield 87, 3) := by decide +kernel
theorem dX12_stuck_91 : decode cX12_stuck 91 = .ok (.iconst 2, 1) := by decide +kernel
theorem dX12_stuck_92 : decode cX12_stuck 92 = .ok (.iload_n 3, 1) := by decide +kernel
theorem dX12_stuck_93 : decode cX12_stuck 93 = .ok (.imul, 1) := by decide +kernel
theorem dX12_stuck_94 : decode cX12_stuck 94 = .ok (.iload 6, 2) := by decide +kernel
theorem dX12_stuck_96 : decode cX12_stuck 96 = .ok (.iadd, 1) := by decide +kernel
theorem dX12_stuck_97 : decode cX12_stuck 97 = .ok (.baload, 1) := by decide +kernel
theorem dX12_stuck_98 : decode cX12_stuck 98 = .ok (.ifCond .eq 161, 3) := by decide +kernel
theorem dX12_stuck_259 : decode cX12_stuck 259 = .ok (.iinc 4 1, 3) := by decide +kernel
theorem dX12_stuck_262 : decode cX12_stuck 262 = .ok (.goto (-198), 3) := by decide +kernel
theorem dX12_stuck_101 : decode cX12_stuck 101 = .ok (.aload_n 0, 1) := by decide +kernel
theorem dX12_stuck_102 : decode cX12_stuck 102 = .ok (.iload_n 1, 1) := by decide +kernel
theorem dX12_stuck_103 : decode cX12_stuck 103 = .ok (.iload 5, 2) := by decide +kernel
theorem dX12_stuck_105 : decode cX12_stuck 105 = .ok (.invokevirtual 337, 3) := by decide +kernel
theorem dX12_stuck_108 : decode cX12_stuck 108 = .ok (.ifCond .eq 151, 3) := by decide +kernel
theorem dX12_stuck_111 : decode cX12_stuck 111 = .ok (.aload_n 0, 1) := by decide +kernel
theorem dX12_stuck_112 : decode cX12_stuck 112 = .ok (.getfield 69, 3) := by decide +kernel
theorem dX12_stuck_115 : decode cX12_stuck 115 = .ok (.iconst 2, 1) := by decide +kernel
theorem dX12_stuck_116 : decode cX12_stuck 116 = .ok (.iload 5, 2) := by decide +kernel
theorem dX12_stuck_118 : decode cX12_stuck 118 = .ok (.imul, 1) := by decide +kernel
theorem dX12_stuck_119 : decode cX12_stuck 119 = .ok (.iload 6, 2) := by decide +kernel
theorem dX12_stuck_121 : decode cX12_stuck 121 = .ok (.iadd, 1) := by decide +kernel
theorem dX12_stuck_122 : decode cX12_stuck 122 = .ok (.iaload, 1) := by decide +kernel
theorem dX12_stuck_123 : decode cX12_stuck 123 = .ok (.ifCond .lt 136, 3) := by decide +kernel
theorem dX12_stuck_126 : decode cX12_stuck 126 = .ok (.iload_n 3, 1) := by decide +kernel
theorem dX12_stuck_127 : decode cX12_stuck 127 = .ok (.aload_n 0, 1) := by decide +kernel
theorem dX12_stuck_128 : decode cX12_stuck 128 = .ok (.getfield 63, 3) := by decide +kernel
theorem dX12_stuck_131 : decode cX12_stuck 131 = .ok (.iload 5, 2) := by decide +kernel
theorem dX12_stuck_133 : decode cX12_stuck 133 = .ok (.iaload, 1) := by decide +kernel
theorem dX12_stuck_134 : decode cX12_stuck 134 = .ok (.iadd, 1) := by decide +kernel
theorem dX12_stuck_135 : decode cX12_stuck 135 = .ok (.bipush 60, 2) := by decide +kernel
theorem dX12_stuck_137 : decode cX12_stuck 137 = .ok (.if_icmp .le 6, 3) := by decide +kernel
theorem dX12_stuck_143 : decode cX12_stuck 143 = .ok (.iconst 0, 1) := by decide +kernel
theorem dX12_stuck_144 : decode cX12_stuck 144 = .ok (.istore 7, 2) := by decide +kernel
theorem dX12_stuck_146 : decode cX12_stuck 146 = .ok (.iload 7, 2) := by decide +kernel
theorem dX12_stuck_148 : decode cX12_stuck 148 = .ok (.aload_n 0, 1) := by decide +kernel
theorem dX12_stuck_149 : decode cX12_stuck 149 = .ok (.getfield 63, 3) := by decide +kernel
theorem dX12_stuck_152 : decode cX12_stuck 152 = .ok (.iload 5, 2) := by decide +kernel
theorem dX12_stuck_154 : decode cX12_stuck 154 = .ok (.iaload, 1) := by decide +kernel
theorem dX12_stuck_155 : decode cX12_stuck 155 = .ok (.if_icmp .ge 50, 3) := by decide +kernel
theorem dX12_stuck_205 : decode cX12_stuck 205 = .ok (.iload_n 3, 1) := by decide +kernel
theorem dX12_stuck_206 : decode cX12_stuck 206 = .ok (.iload 7, 2) := by decide +kernel
theorem dX12_stuck_208 : decode cX12_stuck 208 = .ok (.iadd, 1) := by decide +kernel
theorem dX12_stuck_209 : decode cX12_stuck 209 = .ok (.iload_n 2, 1) := by decide +kernel
theorem dX12_stuck_210 : decode cX12_stuck 210 = .ok (.if_icmp .le 10, 3) := by decide +kernel
theorem dX12_stuck_220 : decode cX12_stuck 220 = .ok (.iload_n 2, 1) := by decide +kernel
theorem dX12_stuck_221 : decode cX12_stuck 221 = .ok (.istore_n 2, 1) := by decide +kernel
theorem dX12_stuck_222 : decode cX12_stuck 222 = .ok (.iload 7, 2) := by decide +kernel
theorem dX12_stuck_224 : decode cX12_stuck 224 = .ok (.aload_n 0, 1) := by decide +kernel
theorem dX12_stuck_225 : decode cX12_stuck 225 = .ok (.getfield 63, 3) := by decide +kernel
theorem dX12_stuck_228 : decode cX12_stuck 228 = .ok (.iload 5, 2) := by decide +kernel
theorem dX12_stuck_230 : decode cX12_stuck 230 = .ok (.iaload, 1) := by decide +kernel
theorem dX12_stuck_231 : decode cX12_stuck 231 = .ok (.if_icmp .ne 28, 3) := by decide +kernel
theorem dX12_stuck_234 : decode cX12_stuck 234 = .ok (.aload_n 0, 1) := by decide +kernel
theorem dX12_stuck_235 : decode cX12_stuck 235 = .ok (.getfield 87, 3) := by decide +kernel
theorem dX12_stuck_238 : decode cX12_stuck 238 = .ok (.iconst 2, 1) := by decide +kernel
theorem dX12_stuck_239 : decode cX12_stuck 239 = .ok (.iload_n 3, 1) := by decide +kernel
theorem dX12_stuck_240 : decode cX12_stuck 240 = .ok (.iload 7, 2) := by decide +kernel
theorem dX12_stuck_242 : decode cX12_stuck 242 = .ok (.iadd, 1) := by decide +kernel
theorem dX12_stuck_243 : decode cX12_stuck 243 = .ok (.imul, 1) := by decide +kernel
theorem dX12_stuck_244 : decode cX12_stuck 244 = .ok (.aload_n 0, 1) := by decide +kernel
theorem dX12_stuck_245 : decode cX12_stuck 245 = .ok (.getfield 69, 3) := by decide +kernel
theorem dX12_stuck_248 : decode cX12_stuck 248 = .ok (.iconst 2, 1) := by decide +kernel
theorem dX12_stuck_249 : decode cX12_stuck 249 = .ok (.iload 5, 2) := by decide +kernel
theorem dX12_stuck_251 : decode cX12_stuck 251 = .ok (.imul, 1) := by decide +kernel
theorem dX12_stuck_252 : decode cX12_stuck 252 = .ok (.iload 6, 2) := by decide +kernel
theorem dX12_stuck_254 : decode cX12_stuck 254 = .ok (.iadd, 1) := by decide +kernel
theorem dX12_stuck_255 : decode cX12_stuck 255 = .ok (.iaload, 1) := by decide +kernel
theorem dX12_stuck_256 : decode cX12_stuck 256 = .ok (.iadd, 1) := by decide +kernel
theorem dX12_stuck_257 : decode cX12_stuck 257 = .ok (.iconst 1, 1) := by decide +kernel
theorem dX12_stuck_258 : decode cX12_stuck 258 = .ok (.bastore, 1) := by decide +kernel
theorem dX12_stuck_158 : decode cX12_stuck 158 = .ok (.iload_n 3, 1) := by decide +kernel
theorem dX12_stuck_159 : decode cX12_stuck 159 = .ok (.iload 7, 2) := by decide +kernel
theorem dX12_stuck_161 : decode cX12_stuck 161 = .ok (.iadd, 1) := by decide +kernel
theorem dX12_stuck_162 : decode cX12_stuck 162 = .ok (.aload_n 0, 1) := by decide +kernel
theorem dX12_stuck_163 : decode cX12_stuck 163 = .ok (.getfield 316, 3) := by decide +kernel
theorem dX12_stuck_166 : decode cX12_stuck 166 = .ok (.if_icmp .ge 39, 3) := by decide +kernel
theorem dX12_stuck_169 : decode cX12_stuck 169 = .ok (.aload_n 0, 1) := by decide +kernel
theorem dX12_stuck_170 : decode cX12_stuck 170 = .ok (.iload_n 1, 1) := by decide +kernel
theorem dX12_stuck_171 : decode cX12_stuck 171 = .ok (.aload_n 0, 1) := by decide +kernel
theorem dX12_stuck_172 : decode cX12_stuck 172 = .ok (.getfield 66, 3) := by decide +kernel
theorem dX12_stuck_175 : decode cX12_stuck 175 = .ok (.bipush 45, 2) := by decide +kernel
theorem dX12_stuck_177 : decode cX12_stuck 177 = .ok (.iload 5, 2) := by decide +kernel
theorem dX12_stuck_179 : decode cX12_stuck 179 = .ok (.imul, 1) := by decide +kernel
theorem dX12_stuck_180 : decode cX12_stuck 180 = .ok (.iload 7, 2) := by decide +kernel
theorem dX12_stuck_182 : decode cX12_stuck 182 = .ok (.iadd, 1) := by decide +kernel
theorem dX12_stuck_183 : decode cX12_stuck 183 = .ok (.iaload, 1) := by decide +kernel
theorem dX12_stuck_184 : decode cX12_stuck 184 = .ok (.invokevirtual 334, 3) := by decide +kernel
theorem dX12_stuck_187 : decode cX12_stuck 187 = .ok (.aload_n 0, 1) := by decide +kernel
theorem dX12_stuck_188 : decode cX12_stuck 188 = .ok (.getfield 78, 3) := by decide +kernel
theorem dX12_stuck_191 : decode cX12_stuck 191 = .ok (.iload_n 3, 1) := by decide +kernel
theorem dX12_stuck_192 : decode cX12_stuck 192 = .ok (.iload 7, 2) := by decide +kernel
theorem dX12_stuck_194 : decode cX12_stuck 194 = .ok (.iadd, 1) := by decide +kernel
theorem dX12_stuck_195 : decode cX12_stuck 195 = .ok (.iaload, 1) := by decide +kernel
theorem dX12_stuck_196 : decode cX12_stuck 196 = .ok (.if_icmp .ne 9, 3) := by decide +kernel
theorem dX12_stuck_199 : decode cX12_stuck 199 = .ok (.iinc 7 1, 3) := by decide +kernel
theorem dX12_stuck_202 : decode cX12_stuck 202 = .ok (.goto (-56), 3) := by decide +kernel
theorem dX12_stuck_213 : decode cX12_stuck 213 = .ok (.iload_n 3, 1) := by decide +kernel
theorem dX12_stuck_214 : decode cX12_stuck 214 = .ok (.iload 7, 2) := by decide +kernel
theorem dX12_stuck_216 : decode cX12_stuck 216 = .ok (.iadd, 1) := by decide +kernel
theorem dX12_stuck_217 : decode cX12_stuck 217 = .ok (.goto 4, 3) := by decide +kernel
theorem dX12_stuck_140 : decode cX12_stuck 140 = .ok (.goto 119, 3) := by decide +kernel
theorem dX12_stuck_41 : decode cX12_stuck 41 = .ok (.iconst 0, 1) := by decide +kernel
theorem dX12_common_0 : decode cX12_common 0 = .ok (.iload_n 0, 1) := by decide +kernel
theorem dX12_common_1 : decode cX12_common 1 = .ok (.ifCond .ge 8, 3) := by decide +kernel
theorem dX12_common_9 : decode cX12_common 9 = .ok (.iload_n 0, 1) := by decide +kernel
theorem dX12_common_10 : decode cX12_common 10 = .ok (.istore_n 2, 1) := by decide +kernel
theorem dX12_common_11 : decode cX12_common 11 = .ok (.iload_n 1, 1) := by decide +kernel
theorem dX12_common_12 : decode cX12_common 12 = .ok (.istore_n 3, 1) := by decide +kernel
theorem dX12_common_13 : decode cX12_common 13 = .ok (.iload_n 3, 1) := by decide +kernel
theorem dX12_common_14 : decode cX12_common 14 = .ok (.ifCond .le 16, 3) := by decide +kernel
theorem dX12_common_30 : decode cX12_common 30 = .ok (.iload_n 2, 1) := by decide +kernel
theorem dX12_common_31 : decode cX12_common 31 = .ok (.ireturn, 1) := by decide +kernel
theorem dX12_common_17 : decode cX12_common 17 = .ok (.iload_n 2, 1) := by decide +kernel
theorem dX12_common_18 : decode cX12_common 18 = .ok (.iload_n 3, 1) := by decide +kernel
theorem dX12_common_19 : decode cX12_common 19 = .ok (.irem, 1) := by decide +kernel
theorem dX12_common_20 : decode cX12_common 20 = .ok (.istore 4, 2) := by decide +kernel
theorem dX12_common_22 : decode cX12_common 22 = .ok (.iload_n 3, 1) := by decide +kernel
theorem dX12_common_23 : decode cX12_common 23 = .ok (.istore_n 2, 1) := by decide +kernel
theorem dX12_common_24 : decode cX12_common 24 = .ok (.iload 4, 2) := by decide +kernel
theorem dX12_common_26 : decode cX12_common 26 = .ok (.istore_n 3, 1) := by decide +kernel
theorem dX12_common_27 : decode cX12_common 27 = .ok (.goto (-14), 3) := by decide +kernel
theorem dX12_common_4 : decode cX12_common 4 = .ok (.iload_n 0, 1) := by decide +kernel
theorem dX12_common_5 : decode cX12_common 5 = .ok (.ineg, 1) := by decide +kernel
theorem dX12_common_6 : decode cX12_common 6 = .ok (.goto 4, 3) := by decide +kernel
theorem dX12_limp_0 : decode cX12_limp 0 = .ok (.iload_n 1, 1) := by decide +kernel
theorem dX12_limp_1 : decode cX12_limp 1 = .ok (.iconst 0, 1) := by decide +kernel
theorem dX12_limp_2 : decode cX12_limp 2 = .ok (.iconst 1, 1) := by decide +kernel
theorem dX12_limp_3 : decode cX12_limp 3 = .ok (.invokestatic 297, 3) := by decide +kernel
theorem dX12_limp_6 : decode cX12_limp 6 = .ok (.ifCond .ne 5, 3) := by decide +kernel
theorem dX12_limp_9 : decode cX12_limp 9 = .ok (.iconst (-1), 1) := by decide +kernel
theorem dX12_limp_10 : decode cX12_limp 10 = .ok (.ireturn, 1) := by decide +kernel
theorem dX12_limp_11 : decode cX12_limp 11 = .ok (.iconst 0, 1) := by decide +kernel
theorem dX12_limp_12 : decode cX12_limp 12 = .ok (.istore_n 2, 1) := by decide +kernel
theorem dX12_limp_13 : decode cX12_limp 13 = .ok (.iconst 0, 1) := by decide +kernel
theorem dX12_limp_14 : decode cX12_limp 14 = .ok (.istore_n 3, 1) := by decide +kernel
theorem dX12_limp_15 : decode cX12_limp 15 = .ok (.iconst 0, 1) := by decide +kernel
theorem dX12_limp_16 : decode cX12_limp 16 = .ok (.istore 4, 2) := by decide +kernel
theorem dX12_limp_18 : decode cX12_limp 18 = .ok (.iconst 0, 1) := by decide +kernel
theorem dX12_limp_19 : decode cX12_limp 19 = .ok (.istore 5, 2) := by decide +kernel
theorem dX12_limp_21 : decode cX12_limp 21 = .ok (.iload 5, 2) := by decide +kernel
theorem dX12_limp_23 : decode cX12_limp 23 = .ok (.aload_n 0, 1) := by decide +kernel
theorem dX12_limp_24 : decode cX12_limp 24 = .ok (.getfield 313, 3) := by decide +kernel
theorem dX12_limp_27 : decode cX12_limp 27 = .ok (.if_icmp .ge 74, 3) := by decide +kernel
theorem dX12_limp_101 : decode cX12_limp 101 = .ok (.iload_n 3, 1) := by decide +kernel
theorem dX12_limp_102 : decode cX12_limp 102 = .ok (.ifCond .ne 5, 3) := by decide +kernel
theorem dX12_limp_105 : decode cX12_limp 105 = .ok (.iload_n 1, 1) := by decide +kernel
theorem dX12_limp_106 : decode cX12_limp 106 = .ok (.ireturn, 1) := by decide +kernel
theorem dX12_limp_30 : decode cX12_limp 30 = .ok (.aload_n 0, 1) := by decide +kernel
theorem dX12_limp_31 : decode cX12_limp 31 = .ok (.getfield 75, 3) := by decide +kernel
theorem dX12_limp_34 : decode cX12_limp 34 = .ok (.iload 5, 2) := by decide +kernel
theorem dX12_limp_36 : decode cX12_limp 36 = .ok (.iaload, 1) := by decide +kernel
theorem dX12_limp_37 : decode cX12_limp 37 = .ok (.istore 6, 2) := by decide +kernel
theorem dX12_limp_39 : decode cX12_limp 39 = .ok (.aload_n 0, 1) := by decide +kernel
theorem dX12_limp_40 : decode cX12_limp 40 = .ok (.getfield 48, 3) := by decide +kernel
theorem dX12_limp_43 : decode cX12_limp 43 = .ok (.iload 6, 2) := by decide +kernel
theorem dX12_limp_45 : decode cX12_limp 45 = .ok (.iaload, 1) := by decide +kernel
theorem dX12_limp_46 : decode cX12_limp 46 = .ok (.iconst 3, 1) := by decide +kernel
theorem dX12_limp_47 : decode cX12_limp 47 = .ok (.if_icmp .ne 6, 3) := by decide +kernel
theorem dX12_limp_53 : decode cX12_limp 53 = .ok (.iload_n 3, 1) := by decide +kernel
theorem dX12_limp_54 : decode cX12_limp 54 = .ok (.aload_n 0, 1) := by decide +kernel
theorem dX12_limp_55 : decode cX12_limp 55 = .ok (.getfield 42, 3) := by decide +kernel
theorem dX12_limp_58 : decode cX12_limp 58 = .ok (.iload 6, 2) := by decide +kernel
theorem dX12_limp_60 : decode cX12_limp 60 = .ok (.iaload, 1) := by decide +kernel
theorem dX12_limp_61 : decode cX12_limp 61 = .ok (.iadd, 1) := by decide +kernel
theorem dX12_limp_62 : decode cX12_limp 62 = .ok (.istore_n 3, 1) := by decide +kernel
theorem dX12_limp_63 : decode cX12_limp 63 = .ok (.iload_n 2, 1) := by decide +kernel
theorem dX12_limp_64 : decode cX12_limp 64 = .ok (.iload 4, 2) := by decide +kernel
theorem dX12_limp_66 : decode cX12_limp 66 = .ok (.ifCond .ne 13, 3) := by decide +kernel
theorem dX12_limp_69 : decode cX12_limp 69 = .ok (.aload_n 0, 1) := by decide +kernel
theorem dX12_limp_70 : decode cX12_limp 70 = .ok (.getfield 42, 3) := by decide +kernel
theorem dX12_limp_73 : decode cX12_limp 73 = .ok (.iload 6, 2) := by decide +kernel
theorem dX12_limp_75 : decode cX12_limp 75 = .ok (.iaload, 1) := by decide +kernel
theorem dX12_limp_76 : decode cX12_limp 76 = .ok (.goto 11, 3) := by decide +kernel
theorem dX12_limp_87 : decode cX12_limp 87 = .ok (.iadd, 1) := by decide +kernel
theorem dX12_limp_88 : decode cX12_limp 88 = .ok (.istore_n 2, 1) := by decide +kernel
theorem dX12_limp_89 : decode cX12_limp 89 = .ok (.iconst 1, 1) := by decide +kernel
theorem dX12_limp_90 : decode cX12_limp 90 = .ok (.iload 4, 2) := by decide +kernel
theorem dX12_limp_92 : decode cX12_limp 92 = .ok (.isub, 1) := by decide +kernel
theorem dX12_limp_93 : decode cX12_limp 93 = .ok (.istore 4, 2) := by decide +kernel
theorem dX12_limp_95 : decode cX12_limp 95 = .ok (.iinc 5 1, 3) := by decide +kernel
theorem dX12_limp_98 : decode cX12_limp 98 = .ok (.goto (-77), 3) := by decide +kernel
theorem dX12_limp_50 : decode cX12_limp 50 = .ok (.goto 45, 3) := by decide +kernel
theorem dX12_limp_107 : decode cX12_limp 107 = .ok (.iload_n 2, 1) := by decide +kernel
theorem dX12_limp_108 : decode cX12_limp 108 = .ok (.iload_n 3, 1) := by decide +kernel
theorem dX12_limp_109 : decode cX12_limp 109 = .ok (.invokestatic 419, 3) := by decide +kernel
theorem tw_1647 : Cond.methodLink RX12 419 yX12_common ∈ TT := nx_mem 1647 (by decide +kernel) (by decide +kernel)
theorem tw_1648 : Cond.static yX12_common ∈ TT := nx_mem 1648 (by decide +kernel) (by decide +kernel)
theorem tw_1649 : Cond.code yX12_common cX12_common 5 (some .int) ∈ TT := nx_mem 1649 (by decide +kernel) (by decide +kernel)
theorem dX12_limp_112 : decode cX12_limp 112 = .ok (.istore 5, 2) := by decide +kernel
theorem dX12_limp_114 : decode cX12_limp 114 = .ok (.iload_n 1, 1) := by decide +kernel
theorem dX12_limp_115 : decode cX12_limp 115 = .ok (.ifCond .ne 10, 3) := by decide +kernel
theorem dX12_limp_125 : decode cX12_limp 125 = .ok (.iload_n 3, 1) := by decide +kernel
theorem dX12_limp_126 : decode cX12_limp 126 = .ok (.iload 5, 2) := by decide +kernel
theorem dX12_limp_128 : decode cX12_limp 128 = .ok (.idiv, 1) := by decide +kernel
theorem dX12_limp_129 : decode cX12_limp 129 = .ok (.ireturn, 1) := by decide +kernel
theorem dX12_limp_118 : decode cX12_limp 118 = .ok (.iload_n 2, 1) := by decide +kernel
theorem dX12_limp_119 : decode cX12_limp 119 = .ok (.iload 5, 2) := by decide +kernel
theorem dX12_limp_121 : decode cX12_limp 121 = .ok (.idiv, 1) := by decide +kernel
theorem dX12_limp_122 : decode cX12_limp 122 = .ok (.goto 7, 3) := by decide +kernel
theorem dX12_limp_79 : decode cX12_limp 79 = .ok (.aload_n 0, 1) := by decide +kernel
theorem dX12_limp_80 : decode cX12_limp 80 = .ok (.getfield 42, 3) := by decide +kernel
theorem dX12_limp_83 : decode cX12_limp 83 = .ok (.iload 6, 2) := by decide +kernel
theorem dX12_limp_85 : decode cX12_limp 85 = .ok (.iaload, 1) := by decide +kernel
theorem dX12_limp_86 : decode cX12_limp 86 = .ok (.ineg, 1) := by decide +kernel
set_option maxHeartbeats 4000000 in
set_option maxRecDepth 100000 in
theorem s_X12_isTextF (lau : Launch) (gg : va_G) (kA : Nat → ClassId) (e : Int32)  : CtI lau yX12_isText cX12_isText 1 (some .boolean) 1 0 0 gg kA [.int e] (mflat []) (S := Unit) (fun (r : Int32) (_ : Unit) => r = bIx e 2) (fun (_ : Unit) => mflat []) := by
  refine nx_startI (by decide +kernel) (Nat.le_of_ble_eq_true rfl) ?_
  intro x hnm h hq
  have h : Ok x cX12_isText RX12 kA (rmC 1 0 0) 1 := h
  show J x (mflat []) [(0, .int e)] 0 0 0 []
  refine j_iload_n h 0 rfl rfl dX12_isText_0 ?_
  refine j_if_eq h 9 dX12_isText_1 (by decide) (fun z23973 => ?_) (fun z23973 => ?_)
  · subst z23973
    show J x (mflat []) [(0, .int 0)] 0 0 9 []
    refine j_iconst (v := 1) h (by decide) dX12_isText_9 ?_
    refine j_goto h 14 dX12_isText_10 (by decide) ?_
    exact jm_zret h hq rfl dX12_isText_14 () [] rfl (by decide) (by decide) (Nat.le_of_ble_eq_true rfl) (Nat.le_of_ble_eq_true rfl)
  · show J x (mflat []) [(0, .int e)] 0 0 4 []
    refine j_iload_n h 0 rfl rfl dX12_isText_4 ?_
    refine j_iconst (v := 1) h (by decide) dX12_isText_5 ?_
    refine j_icmp_ne h 13 dX12_isText_6 (by decide) (fun z23974 => ?_) (fun z23974 => ?_)
    · show J x (mflat []) [(0, .int e)] 0 0 13 []
      refine j_iconst (v := 0) h (by decide) dX12_isText_13 ?_
      exact jm_zret h hq rfl dX12_isText_14 () [] rfl (by decide) (bIx2_0 z23973 z23974).symm (Nat.le_of_ble_eq_true rfl) (Nat.le_of_ble_eq_true rfl)
    · subst z23974
      show J x (mflat []) [(0, .int 1)] 0 0 9 []
      refine j_iconst (v := 1) h (by decide) dX12_isText_9 ?_
      refine j_goto h 14 dX12_isText_10 (by decide) ?_
      exact jm_zret h hq rfl dX12_isText_14 () [] rfl (by decide) (by decide) (Nat.le_of_ble_eq_true rfl) (Nat.le_of_ble_eq_true rfl)
set_option maxHeartbeats 4000000 in
set_option maxRecDepth 100000 in
theorem s_X12_timeOf (lau : Launch) (gg : va_G) (kA : Nat → ClassId) (m : Nat) (t : Nat) (m0 : Nat) (mtp : Nat) (mfa : Nat) (mfp : Int32) (mat : Nat) (msz : Nat) (mso : Nat) (mpl : Int32) (mnu : Int32) (mwd : Int64) (m10 : Nat) (m11 : Nat) (m12 : Nat) (m13 : Nat) (m14 : Nat) (m15 : Nat) (m16 : Nat) (m17 : Nat) (m18 : Nat) (m19 : Nat) (m20 : Nat) (m21 : Nat) (m22 : Nat) (m23 : Nat) (m24 : Nat) (mns : Nat) (mnl : Nat) (mne : Nat) (mst : Nat) (mlt : Nat) (mer : Nat) (m31 : Nat) (m32 : Nat) (m33 : Nat) (m34 : Nat) (m35 : Nat) (mwm : Nat) (mwt : Nat) (mwf : Nat) (m39 : Nat) (m40 : Nat) (m41 : Nat) (mla : Nat) (m43 : Nat) (m44 : Nat) (m45 : Nat) (m46 : Nat) (m47 : Nat) (m48 : Nat) (mtm : Nat) (m50 : Nat) (m51 : Nat) (m52 : Nat) (m53 : Nat) (m54 : Nat) (m55 : Nat) (m56 : Nat) (m57 : Nat) (m58 : Nat) (m59 : Nat) (m60 : Nat) (m61 : Nat) (msn : Nat) (mti : Nat) (m64 : Nat) (m65 : Nat) (m66 : Nat) (m67 : Nat) (m68 : Nat) (m69 : Nat) (mc31 : Nat → Int32) (mc44 : Nat → Int32) (mc45 : Nat → Int32) (n : Nat) (hmst : mst ≤ 6) (hmlt : mlt ≤ 10) (hmer : mer ≤ 4) (hmls : LtOk mlt mc31) (ht : t < 2) (hn60 : n ≤ 60) (htm : mc45 t = nI n) (htx : ∀ k, k < n → ∃ l, l < mlt ∧ mc44 (60 * t + k) = nI l) : CtI lau yX12_timeOf cX12_timeOf 4 (some .int) 1 0 0 gg kA [.ref m, .int (nI t)] (mflat [(m, .inl (.inr (12, (.ref m0 :: .int (nI mtp) :: .int (nI mfa) :: .int mfp :: .int (nI mat) :: .int (nI msz) :: .int (nI mso) :: .int mpl :: .int mnu :: .long mwd :: .ref m10 :: .ref m11 :: .ref m12 :: .ref m13 :: .ref m14 :: .ref m15 :: .ref m16 :: .ref m17 :: .ref m18 :: .ref m19 :: .ref m20 :: .ref m21 :: .ref m22 :: .ref m23 :: .ref m24 :: .int (nI mns) :: .int (nI mnl) :: .int (nI mne) :: .int (nI mst) :: .int (nI mlt) :: .int (nI mer) :: .ref m31 :: .ref m32 :: .ref m33 :: .ref m34 :: .ref m35 :: .int (nI mwm) :: .int (nI mwt) :: .int (nI mwf) :: .ref m39 :: .ref m40 :: .ref m41 :: .int (nI mla) :: .ref m43 :: .ref m44 :: .ref m45 :: .ref m46 :: .ref m47 :: .ref m48 :: .int (nI mtm) :: .ref m50 :: .ref m51 :: .ref m52 :: .ref m53 :: .ref m54 :: .ref m55 :: .ref m56 :: .ref m57 :: .ref m58 :: .ref m59 :: .ref m60 :: .ref m61 :: .int (nI msn) :: .int (nI mti) :: .ref m64 :: .ref m65 :: .ref m66 :: .ref m67 :: .ref m68 :: .ref m69 :: [])))), (m31, .inl (.inl (kA 1, 10, .inl mc31))), (m44, .inl (.inl (kA 1, 120, .inl mc44))), (m45, .inl (.inl (kA 1, 2, .inl mc45)))]) (S := Nat) (fun (r : Int32) (y_r : Nat) => r = nI y_r ∧ (y_r = tsum mc31 (fun k => mc44 (60 * t + k)) n)) (fun (y_r : Nat) => mflat [(m, .inl (.inr (12, (.ref m0 :: .int (nI mtp) :: .int (nI mfa) :: .int mfp :: .int (nI mat) :: .int (nI msz) :: .int (nI mso) :: .int mpl :: .int mnu :: .long mwd :: .ref m10 :: .ref m11 :: .ref m12 :: .ref m13 :: .ref m14 :: .ref m15 :: .ref m16 :: .ref m17 :: .ref m18 :: .ref m19 :: .ref m20 :: .ref m21 :: .ref m22 :: .ref m23 :: .ref m24 :: .int (nI mns) :: .int (nI mnl) :: .int (nI mne) :: .int (nI mst) :: .int (nI mlt) :: .int (nI mer) :: .ref m31 :: .ref m32 :: .ref m33 :: .ref m34 :: .ref m35 :: .int (nI mwm) :: .int (nI mwt) :: .int (nI mwf) :: .ref m39 :: .ref m40 :: .ref m41 :: .int (nI mla) :: .ref m43 :: .ref m44 :: .ref m45 :: .ref m46 :: .ref m47 :: .ref m48 :: .int (nI mtm) :: .ref m50 :: .ref m51 :: .ref m52 :: .ref m53 :: .ref m54 :: .ref m55 :: .ref m56 :: .ref m57 :: .ref m58 :: .ref m59 :: .ref m60 :: .ref m61 :: .int (nI msn) :: .int (nI mti) :: .ref m64 :: .ref m65 :: .ref m66 :: .ref m67 :: .ref m68 :: .ref m69 :: [])))), (m31, .inl (.inl (kA 1, 10, .inl mc31))), (m44, .inl (.inl (kA 1, 120, .inl mc44))), (m45, .inl (.inl (kA 1, 2, .inl mc45)))]) := by
  refine nx_startI (by decide +kernel) (Nat.le_of_ble_eq_true rfl) ?_
  intro x hnm h hq
  have h : Ok x cX12_timeOf RX12 kA (rmC 1 0 0) 4 := h
  show J x (mflat [(m, .inl (.inr (12, (.ref m0 :: .int (nI mtp) :: .int (nI mfa) :: .int mfp :: .int (nI mat) :: .int (nI msz) :: .int (nI mso) :: .int mpl :: .int mnu :: .long mwd :: .ref m10 :: .ref m11 :: .ref m12 :: .ref m13 :: .ref m14 :: .ref m15 :: .ref m16 :: .ref m17 :: .ref m18 :: .ref m19 :: .ref m20 :: .ref m21 :: .ref m22 :: .ref m23 :: .ref m24 :: .int (nI mns) :: .int (nI mnl) :: .int (nI mne) :: .int (nI mst) :: .int (nI mlt) :: .int (nI mer) :: .ref m31 :: .ref m32 :: .ref m33 :: .ref m34 :: .ref m35 :: .int (nI mwm) :: .int (nI mwt) :: .int (nI mwf) :: .ref m39 :: .ref m40 :: .ref m41 :: .int (nI mla) :: .ref m43 :: .ref m44 :: .ref m45 :: .ref m46 :: .ref m47 :: .ref m48 :: .int (nI mtm) :: .ref m50 :: .ref m51 :: .ref m52 :: .ref m53 :: .ref m54 :: .ref m55 :: .ref m56 :: .ref m57 :: .ref m58 :: .ref m59 :: .ref m60 :: .ref m61 :: .int (nI msn) :: .int (nI mti) :: .ref m64 :: .ref m65 :: .ref m66 :: .ref m67 :: .ref m68 :: .ref m69 :: [])))), (m31, .inl (.inl (kA 1, 10, .inl mc31))), (m44, .inl (.inl (kA 1, 120, .inl mc44))), (m45, .inl (.inl (kA 1, 2, .inl mc45)))]) [(0, .ref m), (1, .int (nI t))] 0 0 0 []
  refine j_iconst (v := 0) h (by decide) dX12_timeOf_0 ?_
  refine j_istore_n (lv' := [(2, .int 0), (0, .ref m), (1, .int (nI t))]) h dX12_timeOf_1 rfl (by decide) rfl ?_
  refine j_iconst (v := 0) h (by decide) dX12_timeOf_2 ?_
  refine j_istore_n (lv' := [(3, .int 0), (2, .int 0), (0, .ref m), (1, .int (nI t))]) h dX12_timeOf_3 rfl (by decide) rfl ?_
  have lp4_2306 : ∀ (m4_2306 : Nat), ∀ (v3_4_2306 : Nat) (v2_4_2306 : Nat), (v2_4_2306 = tsum mc31 (fun k => mc44 (60 * t + k)) v3_4_2306) → (v3_4_2306 ≤ n) → (v2_4_2306 ≤ 45 * v3_4_2306) → (v3_4_2306 ≤ 100000) → (v2_4_2306 ≤ 100000) → 100001 - v3_4_2306 < m4_2306 → J x (mflat [(m, .inl (.inr (12, (.ref m0 :: .int (nI mtp) :: .int (nI mfa) :: .int mfp :: .int (nI mat) :: .int (nI msz) :: .int (nI mso) :: .int mpl :: .int mnu :: .long mwd :: .ref m10 :: .ref m11 :: .ref m12 :: .ref m13 :: .ref m14 :: .ref m15 :: .ref m16 :: .ref m17 :: .ref m18 :: .ref m19 :: .ref m20 :: .ref m21 :: .ref m22 :: .ref m23 :: .ref m24 :: .int (nI mns) :: .int (nI mnl) :: .int (nI mne) :: .int (nI mst) :: .int (nI mlt) :: .int (nI mer) :: .ref m31 :: .ref m32 :: .ref m33 :: .ref m34 :: .ref m35 :: .int (nI mwm) :: .int (nI mwt) :: .int (nI mwf) :: .ref m39 :: .ref m40 :: .ref m41 :: .int (nI mla) :: .ref m43 :: .ref m44 :: .ref m45 :: .ref m46 :: .ref m47 :: .ref m48 :: .int (nI mtm) :: .ref m50 :: .ref m51 :: .ref m52 :: .ref m53 :: .ref m54 :: .ref m55 :: .ref m56 :: .ref m57 :: .ref m58 :: .ref m59 :: .ref m60 :: .ref m61 :: .int (nI msn) :: .int (nI mti) :: .ref m64 :: .ref m65 :: .ref m66 :: .ref m67 :: .ref m68 :: .ref m69 :: [])))), (m31, .inl (.inl (kA 1, 10, .inl mc31))), (m44, .inl (.inl (kA 1, 120, .inl mc44))), (m45, .inl (.inl (kA 1, 2, .inl mc45)))]) [(3, .int (nI v3_4_2306)), (2, .int (nI v2_4_2306)), (0, .ref m), (1, .int (nI t))] 0 0 4 [] := by
    intro m4_2306
    induction m4_2306 with
    | zero =>
      intro v3_4_2306 v2_4_2306 i4_2306_0 i4_2306_1 i4_2306_2 i4_2306_3 i4_2306_4 hm4_2306
      exact absurd hm4_2306 (Nat.not_lt_zero _)
    | succ m4_2306 ih4_2306 =>
      intro v3_4_2306 v2_4_2306 i4_2306_0 i4_2306_1 i4_2306_2 i4_2306_3 i4_2306_4 hm4_2306
      refine j_iload_n h 0 rfl rfl dX12_timeOf_4 ?_
      refine j_aload_n h 2 rfl rfl dX12_timeOf_5 ?_
      refine jm_get h iw_X12 0 rfl rfl 45 (by decide +kernel) tw_1201 rfl dX12_timeOf_6 ?_
      refine j_iload_n h 3 rfl rfl dX12_timeOf_9 ?_
      refine jm_iald h 3 rfl t rfl (by omega) (by omega) dX12_timeOf_10 ?_
      refine j_top (b := nI n) (htm) ?_
      refine j_icmp_ge h 39 dX12_timeOf_11 (by decide) (fun z24015 => ?_) (fun z24015 => ?_)
      · have z24015n : n ≤ v3_4_2306 := (nI_leI (a := n) (b := v3_4_2306) (by omega) (by omega)).mp z24015
        refine j_iload_n h 1 rfl rfl dX12_timeOf_39 ?_
        exact jm_iret h hq dX12_timeOf_40 v2_4_2306 [0, 1, 2, 3] rfl (by decide) ⟨rfl, (show v2_4_2306 = tsum mc31 (fun k => mc44 (60 * t + k)) n from (show v3_4_2306 = n by omega) ▸ i4_2306_0)⟩ (Nat.le_of_ble_eq_true rfl) (Nat.le_of_ble_eq_true rfl)
      · have z24015n : ¬ n ≤ v3_4_2306 := fun q9 => z24015 ((nI_leI (a := n) (b := v3_4_2306) (by omega) (by omega)).mpr q9)
        refine j_iload_n h 1 rfl rfl dX12_timeOf_14 ?_
        refine j_aload_n h 2 rfl rfl dX12_timeOf_15 ?_
        refine jm_get h iw_X12 0 rfl rfl 31 (by decide +kernel) tw_1187 rfl dX12_timeOf_16 ?_
        refine j_aload_n h 2 rfl rfl dX12_timeOf_19 ?_
        refine jm_get h iw_X12 0 rfl rfl 44 (by decide +kernel) tw_1200 rfl dX12_timeOf_20 ?_
        refine j_bipush (v := 60) h (by decide) dX12_timeOf_23 ?_
        refine j_iload_n h 3 rfl rfl dX12_timeOf_25 ?_
        refine j_imul h dX12_timeOf_26 ?_
        refine j_top (b := nI (60 * t)) (pk_mul 60 t) ?_
        refine j_iload_n h 0 rfl rfl dX12_timeOf_27 ?_
        refine j_iadd h dX12_timeOf_28 ?_
        refine j_top (b := nI ((60 * t) + v3_4_2306)) (nI_add (60 * t) v3_4_2306) ?_
        refine jm_iald h 2 rfl ((60 * t) + v3_4_2306) rfl (by omega) (by omega) dX12_timeOf_29 ?_
        obtain ⟨t24016, u24017, u24018⟩ := htx v3_4_2306 (by omega)
        refine j_top (b := nI t24016) (u24018) ?_
        refine jm_iald h 1 rfl t24016 rfl (by omega) (by omega) dX12_timeOf_30 ?_
        obtain ⟨t24019, u24020, u24021, u24022⟩ := (show LtOk mlt mc31 by assumption) t24016 (by omega)
        refine j_top (b := nI t24019) (u24022) ?_
        refine j_iadd h dX12_timeOf_31 ?_
        refine j_top (b := nI (v2_4_2306 + t24019)) (nI_add v2_4_2306 t24019) ?_
        refine j_istore_n (lv' := [(2, .int (nI (v2_4_2306 + t24019))), (3, .int (nI v3_4_2306)), (0, .ref m), (1, .int (nI t))]) h dX12_timeOf_32 rfl (by decide) rfl ?_
        refine j_iinc (v := nI (v3_4_2306 + 1)) (lv' := [(3, .int (nI (v3_4_2306 + 1))), (2, .int (nI (v2_4_2306 + t24019))), (0, .ref m), (1, .int (nI t))]) h dX12_timeOf_33 1 rfl (nI_add v3_4_2306 1) (by decide) rfl ?_
        refine j_goto h 4 dX12_timeOf_36 (by decide) ?_
        refine jm_sub [0, 1, 2, 3] (w' := [(m, .inl (.inr (12, (.ref m0 :: .int (nI mtp) :: .int (nI mfa) :: .int mfp :: .int (nI mat) :: .int (nI msz) :: .int (nI mso) :: .int mpl :: .int mnu :: .long mwd :: .ref m10 :: .ref m11 :: .ref m12 :: .ref m13 :: .ref m14 :: .ref m15 :: .ref m16 :: .ref m17 :: .ref m18 :: .ref m19 :: .ref m20 :: .ref m21 :: .ref m22 :: .ref m23 :: .ref m24 :: .int (nI mns) :: .int (nI mnl) :: .int (nI mne) :: .int (nI mst) :: .int (nI mlt) :: .int (nI mer) :: .ref m31 :: .ref m32 :: .ref m33 :: .ref m34 :: .ref m35 :: .int (nI mwm) :: .int (nI mwt) :: .int (nI mwf) :: .ref m39 :: .ref m40 :: .ref m41 :: .int (nI mla) :: .ref m43 :: .ref m44 :: .ref m45 :: .ref m46 :: .ref m47 :: .ref m48 :: .int (nI mtm) :: .ref m50 :: .ref m51 :: .ref m52 :: .ref m53 :: .ref m54 :: .ref m55 :: .ref m56 :: .ref m57 :: .ref m58 :: .ref m59 :: .ref m60 :: .ref m61 :: .int (nI msn) :: .int (nI mti) :: .ref m64 :: .ref m65 :: .ref m66 :: .ref m67 :: .ref m68 :: .ref m69 :: [])))), (m31, .inl (.inl (kA 1, 10, .inl mc31))), (m44, .inl (.inl (kA 1, 120, .inl mc44))), (m45, .inl (.inl (kA 1, 2, .inl mc45)))]) rfl (by decide +kernel) [0, 1, 2, 3] (lv' := [(3, .int (nI (v3_4_2306 + 1))), (2, .int (nI (v2_4_2306 + t24019))), (0, .ref m), (1, .int (nI t))]) rfl ?_
        exact ih4_2306 (v3_4_2306 + 1) (v2_4_2306 + t24019) (show (v2_4_2306 + t24019) = tsum mc31 (fun k => mc44 (60 * t + k)) (v3_4_2306 + 1) from tsum_s (row := (fun k => mc44 (60 * t + k))) (by assumption) u24018 (by omega) u24022 (by omega)) (show (v3_4_2306 + 1) ≤ n by first | assumption | omega) (show (v2_4_2306 + t24019) ≤ 45 * (v3_4_2306 + 1) by first | assumption | omega) (show (v3_4_2306 + 1) ≤ 100000 by first | assumption | omega) (show (v2_4_2306 + t24019) ≤ 100000 by first | assumption | omega) (show 100001 - (v3_4_2306 + 1) < m4_2306 by first | exact Nat.lt_of_lt_of_le (Nat.sub_lt_sub_left (Nat.lt_of_le_of_lt (show v3_4_2306 ≤ 100000 by assumption) (Nat.lt_succ_self 100000)) (Nat.lt_succ_self v3_4_2306)) (Nat.le_of_lt_succ hm4_2306) | omega)
  refine jm_sub [0, 1, 2, 3] (w' := [(m, .inl (.inr (12, (.ref m0 :: .int (nI mtp) :: .int (nI mfa) :: .int mfp :: .int (nI mat) :: .int (nI msz) :: .int (nI mso) :: .int mpl :: .int mnu :: .long mwd :: .ref m10 :: .ref m11 :: .ref m12 :: .ref m13 :: .ref m14 :: .ref m15 :: .ref m16 :: .ref m17 :: .ref m18 :: .ref m19 :: .ref m20 :: .ref m21 :: .ref m22 :: .ref m23 :: .ref m24 :: .int (nI mns) :: .int (nI mnl) :: .int (nI mne) :: .int (nI mst) :: .int (nI mlt) :: .int (nI mer) :: .ref m31 :: .ref m32 :: .ref m33 :: .ref m34 :: .ref m35 :: .int (nI mwm) :: .int (nI mwt) :: .int (nI mwf) :: .ref m39 :: .ref m40 :: .ref m41 :: .int (nI mla) :: .ref m43 :: .ref m44 :: .ref m45 :: .ref m46 :: .ref m47 :: .ref m48 :: .int (nI mtm) :: .ref m50 :: .ref m51 :: .ref m52 :: .ref m53 :: .ref m54 :: .ref m55 :: .ref m56 :: .ref m57 :: .ref m58 :: .ref m59 :: .ref m60 :: .ref m61 :: .int (nI msn) :: .int (nI mti) :: .ref m64 :: .ref m65 :: .ref m66 :: .ref m67 :: .ref m68 :: .ref m69 :: [])))), (m31, .inl (.inl (kA 1, 10, .inl mc31))), (m44, .inl (.inl (kA 1, 120, .inl mc44))), (m45, .inl (.inl (kA 1, 2, .inl mc45)))]) rfl (by decide +kernel) [0, 1, 2, 3] (lv' := [(3, .int 0), (2, .int 0), (0, .ref m), (1, .int (nI t))]) rfl ?_
  exact lp4_2306 (100001 - 0 + 1) 0 0 (show 0 = tsum mc31 (fun k => mc44 (60 * t + k)) 0 from rfl) (show 0 ≤ n by first | assumption | omega) (show 0 ≤ 45 * 0 by first | assumption | omega) (show 0 ≤ 100000 by first | assumption | omega) (show 0 ≤ 100000 by first | assumption | omega) (Nat.lt_succ_self _)
set_option maxHeartbeats 4000000 in
set_option maxRecDepth 100000 in
theorem s_X12_alike (lau : Launch) (gg : va_G) (kA : Nat → ClassId) (m : Nat) (er : Int32) (a : Int32) (b : Int32) (fo : Int32) (m0 : Nat) (mtp : Nat) (mfa : Nat) (mfp : Int32) (mat : Nat) (msz : Nat) (mso : Nat) (mpl : Int32) (mnu : Int32) (mwd : Int64) (m10 : Nat) (m11 : Nat) (m12 : Nat) (m13 : Nat) (m14 : Nat) (m15 : Nat) (m16 : Nat) (m17 : Nat) (m18 : Nat) (m19 : Nat) (m20 : Nat) (m21 : Nat) (m22 : Nat) (m23 : Nat) (m24 : Nat) (mns : Nat) (mnl : Nat) (mne : Nat) (mst : Nat) (mlt : Nat) (mer : Nat) (m31 : Nat) (m32 : Nat) (m33 : Nat) (m34 : Nat) (m35 : Nat) (mwm : Nat) (mwt : Nat) (mwf : Nat) (m39 : Nat) (m40 : Nat) (m41 : Nat) (mla : Nat) (m43 : Nat) (m44 : Nat) (m45 : Nat) (m46 : Nat) (m47 : Nat) (m48 : Nat) (mtm : Nat) (m50 : Nat) (m51 : Nat) (m52 : Nat) (m53 : Nat) (m54 : Nat) (m55 : Nat) (m56 : Nat) (m57 : Nat) (m58 : Nat) (m59 : Nat) (m60 : Nat) (m61 : Nat) (msn : Nat) (mti : Nat) (m64 : Nat) (m65 : Nat) (m66 : Nat) (m67 : Nat) (m68 : Nat) (m69 : Nat) (mc19 : Nat → Int32) (mc23 : Nat → Int32) (mc31 : Nat → Int32) (mc32 : Nat → Int32) (mc33 : Nat → Int32) (hmfa : mfa ≤ 5) (hmso : mso ≤ 100) (hmst : mst ≤ 6) (hmlt : mlt ≤ 10) (hmer : mer ≤ 4) (hmls : LtOk mlt mc31) (hmbg : WkOk 450 mc32) (hmfb : FbOk (2 * mlt) mc33) (hmwm : mwm ≤ mwt) (hmwt : mwt ≤ 60) (hmwf : mwf ≤ 1) (hmsn : msn ≤ 30) (hmla : mla ≤ 60) (hmtp : mtp ≤ 1600) (hmti : mti ≤ 100000) (hmtm : mtm ≤ 60) : CtI lau yX12_alike cX12_alike 7 (some .int) 3 0 0 gg kA [.ref m, .int er, .int a, .int b, .int fo] (mflat [(m, .inl (.inr (12, (.ref m0 :: .int (nI mtp) :: .int (nI mfa) :: .int mfp :: .int (nI mat) :: .int (nI msz) :: .int (nI mso) :: .int mpl :: .int mnu :: .long mwd :: .ref m10 :: .ref m11 :: .ref m12 :: .ref m13 :: .ref m14 :: .ref m15 :: .ref m16 :: .ref m17 :: .ref m18 :: .ref m19 :: .ref m20 :: .ref m21 :: .ref m22 :: .ref m23 :: .ref m24 :: .int (nI mns) :: .int (nI mnl) :: .int (nI mne) :: .int (nI mst) :: .int (nI mlt) :: .int (nI mer) :: .ref m31 :: .ref m32 :: .ref m33 :: .ref m34 :: .ref m35 :: .int (nI mwm) :: .int (nI mwt) :: .int (nI mwf) :: .ref m39 :: .ref m40 :: .ref m41 :: .int (nI mla) :: .ref m43 :: .ref m44 :: .ref m45 :: .ref m46 :: .ref m47 :: .ref m48 :: .int (nI mtm) :: .ref m50 :: .ref m51 :: .ref m52 :: .ref m53 :: .ref m54 :: .ref m55 :: .ref m56 :: .ref m57 :: .ref m58 :: .ref m59 :: .ref m60 :: .ref m61 :: .int (nI msn) :: .int (nI mti) :: .ref m64 :: .ref m65 :: .ref m66 :: .ref m67 :: .ref m68 :: .ref m69 :: [])))), (m19, .inl (.inl (kA 1, 6, .inl mc19))), (m23, .inl (.inl (kA 1, 4, .inl mc23))), (m31, .inl (.inl (kA 1, 10, .inl mc31))), (m32, .inl (.inl (kA 1, 450, .inl mc32))), (m33, .inl (.inl (kA 1, 20, .inl mc33)))]) (S := Unit) (fun (r : Int32) (_ : Unit) => True) (fun (_ : Unit) => mflat [(m, .inl (.inr (12, (.ref m0 :: .int (nI mtp) :: .int (nI mfa) :: .int mfp :: .int (nI mat) :: .int (nI msz) :: .int (nI mso) :: .int mpl :: .int mnu :: .long mwd :: .ref m10 :: .ref m11 :: .ref m12 :: .ref m13 :: .ref m14 :: .ref m15 :: .ref m16 :: .ref m17 :: .ref m18 :: .ref m19 :: .ref m20 :: .ref m21 :: .ref m22 :: .ref m23 :: .ref m24 :: .int (nI mns) :: .int (nI mnl) :: .int (nI mne) :: .int (nI mst) :: .int (nI mlt) :: .int (nI mer) :: .ref m31 :: .ref m32 :: .ref m33 :: .ref m34 :: .ref m35 :: .int (nI mwm) :: .int (nI mwt) :: .int (nI mwf) :: .ref m39 :: .ref m40 :: .ref m41 :: .int (nI mla) :: .ref m43 :: .ref m44 :: .ref m45 :: .ref m46 :: .ref m47 :: .ref m48 :: .int (nI mtm) :: .ref m50 :: .ref m51 :: .ref m52 :: .ref m53 :: .ref m54 :: .ref m55 :: .ref m56 :: .ref m57 :: .ref m58 :: .ref m59 :: .ref m60 :: .ref m61 :: .int (nI msn) :: .int (nI mti) :: .ref m64 :: .ref m65 :: .ref m66 :: .ref m67 :: .ref m68 :: .ref m69 :: [])))), (m19, .inl (.inl (kA 1, 6, .inl mc19))), (m23, .inl (.inl (kA 1, 4, .inl mc23))), (m31, .inl (.inl (kA 1, 10, .inl mc31))), (m32, .inl (.inl (kA 1, 450, .inl mc32))), (m33, .inl (.inl (kA 1, 20, .inl mc33)))]) := by
  refine nx_startI (by decide +kernel) (Nat.le_of_ble_eq_true rfl) ?_
  intro x hnm h hq
  have h : Ok x cX12_alike RX12 kA (rmC 3 0 0) 7 := h
  show J x (mflat [(m, .inl (.inr (12, (.ref m0 :: .int (nI mtp) :: .int (nI mfa) :: .int mfp :: .int (nI mat) :: .int (nI msz) :: .int (nI mso) :: .int mpl :: .int mnu :: .long mwd :: .ref m10 :: .ref m11 :: .ref m12 :: .ref m13 :: .ref m14 :: .ref m15 :: .ref m16 :: .ref m17 :: .ref m18 :: .ref m19 :: .ref m20 :: .ref m21 :: .ref m22 :: .ref m23 :: .ref m24 :: .int (nI mns) :: .int (nI mnl) :: .int (nI mne) :: .int (nI mst) :: .int (nI mlt) :: .int (nI mer) :: .ref m31 :: .ref m32 :: .ref m33 :: .ref m34 :: .ref m35 :: .int (nI mwm) :: .int (nI mwt) :: .int (nI mwf) :: .ref m39 :: .ref m40 :: .ref m41 :: .int (nI mla) :: .ref m43 :: .ref m44 :: .ref m45 :: .ref m46 :: .ref m47 :: .ref m48 :: .int (nI mtm) :: .ref m50 :: .ref m51 :: .ref m52 :: .ref m53 :: .ref m54 :: .ref m55 :: .ref m56 :: .ref m57 :: .ref m58 :: .ref m59 :: .ref m60 :: .ref m61 :: .int (nI msn) :: .int (nI mti) :: .ref m64 :: .ref m65 :: .ref m66 :: .ref m67 :: .ref m68 :: .ref m69 :: [])))), (m19, .inl (.inl (kA 1, 6, .inl mc19))), (m23, .inl (.inl (kA 1, 4, .inl mc23))), (m31, .inl (.inl (kA 1, 10, .inl mc31))), (m32, .inl (.inl (kA 1, 450, .inl mc32))), (m33, .inl (.inl (kA 1, 20, .inl mc33)))]) [(0, .ref m), (1, .int er), (2, .int a), (3, .int b), (4, .int fo)] 0 0 0 []
  refine j_aload_n h 0 rfl rfl dX12_alike_0 ?_
  refine j_iload_n h 1 rfl rfl dX12_alike_1 ?_
  refine jm_callVi (np := 1) (isC := [0]) (isR := [1, 2, 3, 4, 5]) (wc := [(m, .inl (.inr (12, (.ref m0 :: .int (nI mtp) :: .int (nI mfa) :: .int mfp :: .int (nI mat) :: .int (nI msz) :: .int (nI mso) :: .int mpl :: .int mnu :: .long mwd :: .ref m10 :: .ref m11 :: .ref m12 :: .ref m13 :: .ref m14 :: .ref m15 :: .ref m16 :: .ref m17 :: .ref m18 :: .ref m19 :: .ref m20 :: .ref m21 :: .ref m22 :: .ref m23 :: .ref m24 :: .int (nI mns) :: .int (nI mnl) :: .int (nI mne) :: .int (nI mst) :: .int (nI mlt) :: .int (nI mer) :: .ref m31 :: .ref m32 :: .ref m33 :: .ref m34 :: .ref m35 :: .int (nI mwm) :: .int (nI mwt) :: .int (nI mwf) :: .ref m39 :: .ref m40 :: .ref m41 :: .int (nI mla) :: .ref m43 :: .ref m44 :: .ref m45 :: .ref m46 :: .ref m47 :: .ref m48 :: .int (nI mtm) :: .ref m50 :: .ref m51 :: .ref m52 :: .ref m53 :: .ref m54 :: .ref m55 :: .ref m56 :: .ref m57 :: .ref m58 :: .ref m59 :: .ref m60 :: .ref m61 :: .int (nI msn) :: .int (nI mti) :: .ref m64 :: .ref m65 :: .ref m66 :: .ref m67 :: .ref m68 :: .ref m69 :: []))))]) (wr := [(m19, .inl (.inl (kA 1, 6, .inl mc19))), (m23, .inl (.inl (kA 1, 4, .inl mc23))), (m31, .inl (.inl (kA 1, 10, .inl mc31))), (m32, .inl (.inl (kA 1, 450, .inl mc32))), (m33, .inl (.inl (kA 1, 20, .inl mc33)))]) (rest := []) (As := [.int er]) (q0 := 0) h (s_X12_isEar _ _ kA m er m0 mtp mfa mfp mat msz mso mpl mnu mwd m10 m11 m12 m13 m14 m15 m16 m17 m18 m19 m20 m21 m22 m23 m24 mns mnl mne mst mlt mer m31 m32 m33 m34 m35 mwm mwt mwf m39 m40 m41 mla m43 m44 m45 m46 m47 m48 mtm m50 m51 m52 m53 m54 m55 m56 m57 m58 m59 m60 m61 msn mti m64 m65 m66 m67 m68 m69 (show mst ≤ 6 by first | assumption | omega) (show mlt ≤ 10 by first | assumption | omega) (show mer ≤ 4 by first | assumption | omega)) tw_1506 tw_1508 tw_60 tw_99 tw_1509 (by decide +kernel) rfl ⟨Nat.le_of_ble_eq_true rfl, Nat.le_of_ble_eq_true rfl⟩ rfl rfl (by decide +kernel) rfl rfl (by decide +kernel) (by decide +kernel) (Nat.le_of_ble_eq_true rfl) rfl ⟨Nat.le_of_ble_eq_true rfl, Nat.le_of_ble_eq_true rfl⟩ dX12_alike_2 ?_
  rintro r25839 _ e25838
  have p25840 := e25838
  subst p25840
  show J x (mflat [(m19, .inl (.inl (kA 1, 6, .inl mc19))), (m23, .inl (.inl (kA 1, 4, .inl mc23))), (m31, .inl (.inl (kA 1, 10, .inl mc31))), (m32, .inl (.inl (kA 1, 450, .inl mc32))), (m33, .inl (.inl (kA 1, 20, .inl mc33))), (m, .inl (.inr (12, (.ref m0 :: .int (nI mtp) :: .int (nI mfa) :: .int mfp :: .int (nI mat) :: .int (nI msz) :: .int (nI mso) :: .int mpl :: .int mnu :: .long mwd :: .ref m10 :: .ref m11 :: .ref m12 :: .ref m13 :: .ref m14 :: .ref m15 :: .ref m16 :: .ref m17 :: .ref m18 :: .ref m19 :: .ref m20 :: .ref m21 :: .ref m22 :: .ref m23 :: .ref m24 :: .int (nI mns) :: .int (nI mnl) :: .int (nI mne) :: .int (nI mst) :: .int (nI mlt) :: .int (nI mer) :: .ref m31 :: .ref m32 :: .ref m33 :: .ref m34 :: .ref m35 :: .int (nI mwm) :: .int (nI mwt) :: .int (nI mwf) :: .ref m39 :: .ref m40 :: .ref m41 :: .int (nI mla) :: .ref m43 :: .ref m44 :: .ref m45 :: .ref m46 :: .ref m47 :: .ref m48 :: .int (nI mtm) :: .ref m50 :: .ref m51 :: .ref m52 :: .ref m53 :: .ref m54 :: .ref m55 :: .ref m56 :: .ref m57 :: .ref m58 :: .ref m59 :: .ref m60 :: .ref m61 :: .int (nI msn) :: .int (nI mti) :: .ref m64 :: .ref m65 :: .ref m66 :: .ref m67 :: .ref m68 :: .ref m69 :: []))))]) [(0, .ref m), (1, .int er), (2, .int a), (3, .int b), (4, .int fo)] 0 0 5 [.int (bIx er (nI mer))]
  rcases bIx_cases er mer (by omega) with hTj25841 | ⟨j25841, hj25841, rfl, hBj25841⟩
  · refine j_top (b := 0) hTj25841 ?_
    show J x (mflat [(m19, .inl (.inl (kA 1, 6, .inl mc19))), (m23, .inl (.inl (kA 1, 4, .inl mc23))), (m31, .inl (.inl (kA 1, 10, .inl mc31))), (m32, .inl (.inl (kA 1, 450, .inl mc32))), (m33, .inl (.inl (kA 1, 20, .inl mc33))), (m, .inl (.inr (12, (.ref m0 :: .int (nI mtp) :: .int (nI mfa) :: .int mfp :: .int (nI mat) :: .int (nI msz) :: .int (nI mso) :: .int mpl :: .int mnu :: .long mwd :: .ref m10 :: .ref m11 :: .ref m12 :: .ref m13 :: .ref m14 :: .ref m15 :: .ref m16 :: .ref m17 :: .ref m18 :: .ref m19 :: .ref m20 :: .ref m21 :: .ref m22 :: .ref m23 :: .ref m24 :: .int (nI mns) :: .int (nI mnl) :: .int (nI mne) :: .int (nI mst) :: .int (nI mlt) :: .int (nI mer) :: .ref m31 :: .ref m32 :: .ref m33 :: .ref m34 :: .ref m35 :: .int (nI mwm) :: .int (nI mwt) :: .int (nI mwf) :: .ref m39 :: .ref m40 :: .ref m41 :: .int (nI mla) :: .ref m43 :: .ref m44 :: .ref m45 :: .ref m46 :: .ref m47 :: .ref m48 :: .int (nI mtm) :: .ref m50 :: .ref m51 :: .ref m52 :: .ref m53 :: .ref m54 :: .ref m55 :: .ref m56 :: .ref m57 :: .ref m58 :: .ref m59 :: .ref m60 :: .ref m61 :: .int (nI msn) :: .int (nI mti) :: .ref m64 :: .ref m65 :: .ref m66 :: .ref m67 :: .ref m68 :: .ref m69 :: []))))]) [(0, .ref m), (1, .int er), (2, .int a), (3, .int b), (4, .int fo)] 0 0 5 [.int 0]
    refine j_if_eq h 34 dX12_alike_5 (by decide) (fun _ => ?_) (fun q => absurd (by decide) q)
    refine j_iconst (v := (-1)) h (by decide) dX12_alike_34 ?_
    exact jm_iret h hq dX12_alike_35 () [5, 0, 1, 2, 3, 4] rfl (by decide) trivial (Nat.le_of_ble_eq_true rfl) (Nat.le_of_ble_eq_true rfl)
  · refine j_top (b := 1) hBj25841 ?_
    show J x (mflat [(m19, .inl (.inl (kA 1, 6, .inl mc19))), (m23, .inl (.inl (kA 1, 4, .inl mc23))), (m31, .inl (.inl (kA 1, 10, .inl mc31))), (m32, .inl (.inl (kA 1, 450, .inl mc32))), (m33, .inl (.inl (kA 1, 20, .inl mc33))), (m, .inl (.inr (12, (.ref m0 :: .int (nI mtp) :: .int (nI mfa) :: .int mfp :: .int (nI mat) :: .int (nI msz) :: .int (nI mso) :: .int mpl :: .int mnu :: .long mwd :: .ref m10 :: .ref m11 :: .ref m12 :: .ref m13 :: .ref m14 :: .ref m15 :: .ref m16 :: .ref m17 :: .ref m18 :: .ref m19 :: .ref m20 :: .ref m21 :: .ref m22 :: .ref m23 :: .ref m24 :: .int (nI mns) :: .int (nI mnl) :: .int (nI mne) :: .int (nI mst) :: .int (nI mlt) :: .int (nI mer) :: .ref m31 :: .ref m32 :: .ref m33 :: .ref m34 :: .ref m35 :: .int (nI mwm) :: .int (nI mwt) :: .int (nI mwf) :: .ref m39 :: .ref m40 :: .ref m41 :: .int (nI mla) :: .ref m43 :: .ref m44 :: .ref m45 :: .ref m46 :: .ref m47 :: .ref m48 :: .int (nI mtm) :: .ref m50 :: .ref m51 :: .ref m52 :: .ref m53 :: .ref m54 :: .ref m55 :: .ref m56 :: .ref m57 :: .ref m58 :: .ref m59 :: .ref m60 :: .ref m61 :: .int (nI msn) :: .int (nI mti) :: .ref m64 :: .ref m65 :: .ref m66 :: .ref m67 :: .ref m68 :: .ref m69 :: []))))]) [(0, .ref m), (1, .int (nI j25841)), (2, .int a), (3, .int b), (4, .int fo)] 0 0 5 [.int 1]
    refine j_if_eq h 34 dX12_alike_5 (by decide) (fun q => absurd q (by decide)) (fun _ => ?_)
    refine j_aload_n h 0 rfl rfl dX12_alike_8 ?_
    refine j_iload_n h 2 rfl rfl dX12_alike_9 ?_
    refine jm_callVi (np := 1) (isC := [5]) (isR := [0, 1, 2, 3, 4]) (wc := [(m, .inl (.inr (12, (.ref m0 :: .int (nI mtp) :: .int (nI mfa) :: .int mfp :: .int (nI mat) :: .int (nI msz) :: .int (nI mso) :: .int mpl :: .int mnu :: .long mwd :: .ref m10 :: .ref m11 :: .ref m12 :: .ref m13 :: .ref m14 :: .ref m15 :: .ref m16 :: .ref m17 :: .ref m18 :: .ref m19 :: .ref m20 :: .ref m21 :: .ref m22 :: .ref m23 :: .ref m24 :: .int (nI mns) :: .int (nI mnl) :: .int (nI mne) :: .int (nI mst) :: .int (nI mlt) :: .int (nI mer) :: .ref m31 :: .ref m32 :: .ref m33 :: .ref m34 :: .ref m35 :: .int (nI mwm) :: .int (nI mwt) :: .int (nI mwf) :: .ref m39 :: .ref m40 :: .ref m41 :: .int (nI mla) :: .ref m43 :: .ref m44 :: .ref m45 :: .ref m46 :: .ref m47 :: .ref m48 :: .int (nI mtm) :: .ref m50 :: .ref m51 :: .ref m52 :: .ref m53 :: .ref m54 :: .ref m55 :: .ref m56 :: .ref m57 :: .ref m58 :: .ref m59 :: .ref m60 :: .ref m61 :: .int (nI msn) :: .int (nI mti) :: .ref m64 :: .ref m65 :: .ref m66 :: .ref m67 :: .ref m68 :: .ref m69 :: []))))]) (wr := [(m19, .inl (.inl (kA 1, 6, .inl mc19))), (m23, .inl (.inl (kA 1, 4, .inl mc23))), (m31, .inl (.inl (kA 1, 10, .inl mc31))), (m32, .inl (.inl (kA 1, 450, .inl mc32))), (m33, .inl (.inl (kA 1, 20, .inl mc33)))]) (rest := []) (As := [.int a]) (q0 := 0) h (s_X12_isLetterOf _ _ kA m a m0 mtp mfa mfp mat msz mso mpl mnu mwd m10 m11 m12 m13 m14 m15 m16 m17 m18 m19 m20 m21 m22 m23 m24 mns mnl mne mst mlt mer m31 m32 m33 m34 m35 mwm mwt mwf m39 m40 m41 mla m43 m44 m45 m46 m47 m48 mtm m50 m51 m52 m53 m54 m55 m56 m57 m58 m59 m60 m61 msn mti m64 m65 m66 m67 m68 m69 (show mst ≤ 6 by first | assumption | omega) (show mlt ≤ 10 by first | assumption | omega) (show mer ≤ 4 by first | assumption | omega)) tw_1551 tw_1553 tw_67 tw_99 tw_1554 (by decide +kernel) rfl ⟨Nat.le_of_ble_eq_true rfl, Nat.le_of_ble_eq_true rfl⟩ rfl rfl (by decide +kernel) rfl rfl (by decide +kernel) (by decide +kernel) (Nat.le_of_ble_eq_true rfl) rfl ⟨Nat.le_of_ble_eq_true rfl, Nat.le_of_ble_eq_true rfl⟩ dX12_alike_10 ?_
    rintro r25843 _ e25842
    have p25844 := e25842
    subst p25844
    show J x (mflat [(m19, .inl (.inl (kA 1, 6, .inl mc19))), (m23, .inl (.inl (kA 1, 4, .inl mc23))), (m31, .inl (.inl (kA 1, 10, .inl mc31))), (m32, .inl (.inl (kA 1, 450, .inl mc32))), (m33, .inl (.inl (kA 1, 20, .inl mc33))), (m, .inl (.inr (12, (.ref m0 :: .int (nI mtp) :: .int (nI mfa) :: .int mfp :: .int (nI mat) :: .int (nI msz) :: .int (nI mso) :: .int mpl :: .int mnu :: .long mwd :: .ref m10 :: .ref m11 :: .ref m12 :: .ref m13 :: .ref m14 :: .ref m15 :: .ref m16 :: .ref m17 :: .ref m18 :: .ref m19 :: .ref m20 :: .ref m21 :: .ref m22 :: .ref m23 :: .ref m24 :: .int (nI mns) :: .int (nI mnl) :: .int (nI mne) :: .int (nI mst) :: .int (nI mlt) :: .int (nI mer) :: .ref m31 :: .ref m32 :: .ref m33 :: .ref m34 :: .ref m35 :: .int (nI mwm) :: .int (nI mwt) :: .int (nI mwf) :: .ref m39 :: .ref m40 :: .ref m41 :: .int (nI mla) :: .ref m43 :: .ref m44 :: .ref m45 :: .ref m46 :: .ref m47 :: .ref m48 :: .int (nI mtm) :: .ref m50 :: .ref m51 :: .ref m52 :: .ref m53 :: .ref m54 :: .ref m55 :: .ref m56 :: .ref m57 :: .ref m58 :: .ref m59 :: .ref m60 :: .ref m61 :: .int (nI msn) :: .int (nI mti) :: .ref m64 :: .ref m65 :: .ref m66 :: .ref m67 :: .ref m68 :: .ref m69 :: []))))]) [(0, .ref m), (1, .int (nI j25841)), (2, .int a), (3, .int b), (4, .int fo)] 0 0 13 [.int (bIx a (nI mlt))]
    rcases bIx_cases a mlt (by omega) with hTj25845 | ⟨j25845, hj25845, rfl, hBj25845⟩
    · refine j_top (b := 0) hTj25845 ?_
      show J x (mflat [(m19, .inl (.inl (kA 1, 6, .inl mc19))), (m23, .inl (.inl (kA 1, 4, .inl mc23))), (m31, .inl (.inl (kA 1, 10, .inl mc31))), (m32, .inl (.inl (kA 1, 450, .inl mc32))), (m33, .inl (.inl (kA 1, 20, .inl mc33))), (m, .inl (.inr (12, (.ref m0 :: .int (nI mtp) :: .int (nI mfa) :: .int mfp :: .int (nI mat) :: .int (nI msz) :: .int (nI mso) :: .int mpl :: .int mnu :: .long mwd :: .ref m10 :: .ref m11 :: .ref m12 :: .ref m13 :: .ref m14 :: .ref m15 :: .ref m16 :: .ref m17 :: .ref m18 :: .ref m19 :: .ref m20 :: .ref m21 :: .ref m22 :: .ref m23 :: .ref m24 :: .int (nI mns) :: .int (nI mnl) :: .int (nI mne) :: .int (nI mst) :: .int (nI mlt) :: .int (nI mer) :: .ref m31 :: .ref m32 :: .ref m33 :: .ref m34 :: .ref m35 :: .int (nI mwm) :: .int (nI mwt) :: .int (nI mwf) :: .ref m39 :: .ref m40 :: .ref m41 :: .int (nI mla) :: .ref m43 :: .ref m44 :: .ref m45 :: .ref m46 :: .ref m47 :: .ref m48 :: .int (nI mtm) :: .ref m50 :: .ref m51 :: .ref m52 :: .ref m53 :: .ref m54 :: .ref m55 :: .ref m56 :: .ref m57 :: .ref m58 :: .ref m59 :: .ref m60 :: .ref m61 :: .int (nI msn) :: .int (nI mti) :: .ref m64 :: .ref m65 :: .ref m66 :: .ref m67 :: .ref m68 :: .ref m69 :: []))))]) [(0, .ref m), (1, .int (nI j25841)), (2, .int a), (3, .int b), (4, .int fo)] 0 0 13 [.int 0]
      refine j_if_eq h 34 dX12_alike_13 (by decide) (fun _ => ?_) (fun q => absurd (by decide) q)
      refine j_iconst (v := (-1)) h (by decide) dX12_alike_34 ?_
      exact jm_iret h hq dX12_alike_35 () [5, 0, 1, 2, 3, 4] rfl (by decide) trivial (Nat.le_of_ble_eq_true rfl) (Nat.le_of_ble_eq_true rfl)
    · refine j_top (b := 1) hBj25845 ?_
      show J x (mflat [(m19, .inl (.inl (kA 1, 6, .inl mc19))), (m23, .inl (.inl (kA 1, 4, .inl mc23))), (m31, .inl (.inl (kA 1, 10, .inl mc31))), (m32, .inl (.inl (kA 1, 450, .inl mc32))), (m33, .inl (.inl (kA 1, 20, .inl mc33))), (m, .inl (.inr (12, (.ref m0 :: .int (nI mtp) :: .int (nI mfa) :: .int mfp :: .int (nI mat) :: .int (nI msz) :: .int (nI mso) :: .int mpl :: .int mnu :: .long mwd :: .ref m10 :: .ref m11 :: .ref m12 :: .ref m13 :: .ref m14 :: .ref m15 :: .ref m16 :: .ref m17 :: .ref m18 :: .ref m19 :: .ref m20 :: .ref m21 :: .ref m22 :: .ref m23 :: .ref m24 :: .int (nI mns) :: .int (nI mnl) :: .int (nI mne) :: .int (nI mst) :: .int (nI mlt) :: .int (nI mer) :: .ref m31 :: .ref m32 :: .ref m33 :: .ref m34 :: .ref m35 :: .int (nI mwm) :: .int (nI mwt) :: .int (nI mwf) :: .ref m39 :: .ref m40 :: .ref m41 :: .int (nI mla) :: .ref m43 :: .ref m44 :: .ref m45 :: .ref m46 :: .ref m47 :: .ref m48 :: .int (nI mtm) :: .ref m50 :: .ref m51 :: .ref m52 :: .ref m53 :: .ref m54 :: .ref m55 :: .ref m56 :: .ref m57 :: .ref m58 :: .ref m59 :: .ref m60 :: .ref m61 :: .int (nI msn) :: .int (nI mti) :: .ref m64 :: .ref m65 :: .ref m66 :: .ref m67 :: .ref m68 :: .ref m69 :: []))))]) [(0, .ref m), (1, .int (nI j25841)), (2, .int (nI j25845)), (3, .int b), (4, .int fo)] 0 0 13 [.int 1]
      refine j_if_eq h 34 dX12_alike_13 (by decide) (fun q => absurd q (by decide)) (fun _ => ?_)
      refine j_aload_n h 0 rfl rfl dX12_alike_16 ?_
      refine j_iload_n h 3 rfl rfl dX12_alike_17 ?_
      refine jm_callVi (np := 1) (isC := [5]) (isR := [0, 1, 2, 3, 4]) (wc := [(m, .inl (.inr (12, (.ref m0 :: .int (nI mtp) :: .int (nI mfa) :: .int mfp :: .int (nI mat) :: .int (nI msz) :: .int (nI mso) :: .int mpl :: .int mnu :: .long mwd :: .ref m10 :: .ref m11 :: .ref m12 :: .ref m13 :: .ref m14 :: .ref m15 :: .ref m16 :: .ref m17 :: .ref m18 :: .ref m19 :: .ref m20 :: .ref m21 :: .ref m22 :: .ref m23 :: .ref m24 :: .int (nI mns) :: .int (nI mnl) :: .int (nI mne) :: .int (nI mst) :: .int (nI mlt) :: .int (nI mer) :: .ref m31 :: .ref m32 :: .ref m33 :: .ref m34 :: .ref m35 :: .int (nI mwm) :: .int (nI mwt) :: .int (nI mwf) :: .ref m39 :: .ref m40 :: .ref m41 :: .int (nI mla) :: .ref m43 :: .ref m44 :: .ref m45 :: .ref m46 :: .ref m47 :: .ref m48 :: .int (nI mtm) :: .ref m50 :: .ref m51 :: .ref m52 :: .ref m53 :: .ref m54 :: .ref m55 :: .ref m56 :: .ref m57 :: .ref m58 :: .ref m59 :: .ref m60 :: .ref m61 :: .int (nI msn) :: .int (nI mti) :: .ref m64 :: .ref m65 :: .ref m66 :: .ref m67 :: .ref m68 :: .ref m69 :: []))))]) (wr := [(m19, .inl (.inl (kA 1, 6, .inl mc19))), (m23, .inl (.inl (kA 1, 4, .inl mc23))), (m31, .inl (.inl (kA 1, 10, .inl mc31))), (m32, .inl (.inl (kA 1, 450, .inl mc32))), (m33, .inl (.inl (kA 1, 20, .inl mc33)))]) (rest := []) (As := [.int b]) (q0 := 0) h (s_X12_isLetterOf _ _ kA m b m0 mtp mfa mfp mat msz mso mpl mnu mwd m10 m11 m12 m13 m14 m15 m16 m17 m18 m19 m20 m21 m22 m23 m24 mns mnl mne mst mlt mer m31 m32 m33 m34 m35 mwm mwt mwf m39 m40 m41 mla m43 m44 m45 m46 m47 m48 mtm m50 m51 m52 m53 m54 m55 m56 m57 m58 m59 m60 m61 msn mti m64 m65 m66 m67 m68 m69 (show mst ≤ 6 by first | assumption | omega) (show mlt ≤ 10 by first | assumption | omega) (show mer ≤ 4 by first | assumption | omega)) tw_1551 tw_1553 tw_67 tw_99 tw_1554 (by decide +kernel) rfl ⟨Nat.le_of_ble_eq_true rfl, Nat.le_of_ble_eq_true rfl⟩ rfl rfl (by decide +kernel) rfl rfl (by decide +kernel) (by decide +kernel) (Nat.le_of_ble_eq_true rfl) rfl ⟨Nat.le_of_ble_eq_true rfl, Nat.le_of_ble_eq_true rfl⟩ dX12_alike_18 ?_
      rintro r25847 _ e25846
      have p25848 := e25846
      subst p25848
      show J x (mflat [(m19, .inl (.inl (kA 1, 6, .inl mc19))), (m23, .inl (.inl (kA 1, 4, .inl mc23))), (m31, .inl (.inl (kA 1, 10, .inl mc31))), (m32, .inl (.inl (kA 1, 450, .inl mc32))), (m33, .inl (.inl (kA 1, 20, .inl mc33))), (m, .inl (.inr (12, (.ref m0 :: .int (nI mtp) :: .int (nI mfa) :: .int mfp :: .int (nI mat) :: .int (nI msz) :: .int (nI mso) :: .int mpl :: .int mnu :: .long mwd :: .ref m10 :: .ref m11 :: .ref m12 :: .ref m13 :: .ref m14 :: .ref m15 :: .ref m16 :: .ref m17 :: .ref m18 :: .ref m19 :: .ref m20 :: .ref m21 :: .ref m22 :: .ref m23 :: .ref m24 :: .int (nI mns) :: .int (nI mnl) :: .int (nI mne) :: .int (nI mst) :: .int (nI mlt) :: .int (nI mer) :: .ref m31 :: .ref m32 :: .ref m33 :: .ref m34 :: .ref m35 :: .int (nI mwm) :: .int (nI mwt) :: .int (nI mwf) :: .ref m39 :: .ref m40 :: .ref m41 :: .int (nI mla) :: .ref m43 :: .ref m44 :: .ref m45 :: .ref m46 :: .ref m47 :: .ref m48 :: .int (nI mtm) :: .ref m50 :: .ref m51 :: .ref m52 :: .ref m53 :: .ref m54 :: .ref m55 :: .ref m56 :: .ref m57 :: .ref m58 :: .ref m59 :: .ref m60 :: .ref m61 :: .int (nI msn) :: .int (nI mti) :: .ref m64 :: .ref m65 :: .ref m66 :: .ref m67 :: .ref m68 :: .ref m69 :: []))))]) [(0, .ref m), (1, .int (nI j25841)), (2, .int (nI j25845)), (3, .int b), (4, .int fo)] 0 0 21 [.int (bIx b (nI mlt))]
      rcases bIx_cases b mlt (by omega) with hTj25849 | ⟨j25849, hj25849, rfl, hBj25849⟩
      · refine j_top (b := 0) hTj25849 ?_
        show J x (mflat [(m19, .inl (.inl (kA 1, 6, .inl mc19))), (m23, .inl (.inl (kA 1, 4, .inl mc23))), (m31, .inl (.inl (kA 1, 10, .inl mc31))), (m32, .inl (.inl (kA 1, 450, .inl mc32))), (m33, .inl (.inl (kA 1, 20, .inl mc33))), (m, .inl (.inr (12, (.ref m0 :: .int (nI mtp) :: .int (nI mfa) :: .int mfp :: .int (nI mat) :: .int (nI msz) :: .int (nI mso) :: .int mpl :: .int mnu :: .long mwd :: .ref m10 :: .ref m11 :: .ref m12 :: .ref m13 :: .ref m14 :: .ref m15 :: .ref m16 :: .ref m17 :: .ref m18 :: .ref m19 :: .ref m20 :: .ref m21 :: .ref m22 :: .ref m23 :: .ref m24 :: .int (nI mns) :: .int (nI mnl) :: .int (nI mne) :: .int (nI mst) :: .int (nI mlt) :: .int (nI mer) :: .ref m31 :: .ref m32 :: .ref m33 :: .ref m34 :: .ref m35 :: .int (nI mwm) :: .int (nI mwt) :: .int (nI mwf) :: .ref m39 :: .ref m40 :: .ref m41 :: .int (nI mla) :: .ref m43 :: .ref m44 :: .ref m45 :: .ref m46 :: .ref m47 :: .ref m48 :: .int (nI mtm) :: .ref m50 :: .ref m51 :: .ref m52 :: .ref m53 :: .ref m54 :: .ref m55 :: .ref m56 :: .ref m57 :: .ref m58 :: .ref m59 :: .ref m60 :: .ref m61 :: .int (nI msn) :: .int (nI mti) :: .ref m64 :: .ref m65 :: .ref m66 :: .ref m67 :: .ref m68 :: .ref m69 :: []))))]) [(0, .ref m), (1, .int (nI j25841)), (2, .int (nI j25845)), (3, .int b), (4, .int fo)] 0 0 21 [.int 0]
        refine j_if_eq h 34 dX12_alike_21 (by decide) (fun _ => ?_) (fun q => absurd (by decide) q)
        refine j_iconst (v := (-1)) h (by decide) dX12_alike_34 ?_
        exact jm_iret h hq dX12_alike_35 () [5, 0, 1, 2, 3, 4] rfl (by decide) trivial (Nat.le_of_ble_eq_true rfl) (Nat.le_of_ble_eq_true rfl)
      · refine j_top (b := 1) hBj25849 ?_
        show J x (mflat [(m19, .inl (.inl (kA 1, 6, .inl mc19))), (m23, .inl (.inl (kA 1, 4, .inl mc23))), (m31, .inl (.inl (kA 1, 10, .inl mc31))), (m32, .inl (.inl (kA 1, 450, .inl mc32))), (m33, .inl (.inl (kA 1, 20, .inl mc33))), (m, .inl (.inr (12, (.ref m0 :: .int (nI mtp) :: .int (nI mfa) :: .int mfp :: .int (nI mat) :: .int (nI msz) :: .int (nI mso) :: .int mpl :: .int mnu :: .long mwd :: .ref m10 :: .ref m11 :: .ref m12 :: .ref m13 :: .ref m14 :: .ref m15 :: .ref m16 :: .ref m17 :: .ref m18 :: .ref m19 :: .ref m20 :: .ref m21 :: .ref m22 :: .ref m23 :: .ref m24 :: .int (nI mns) :: .int (nI mnl) :: .int (nI mne) :: .int (nI mst) :: .int (nI mlt) :: .int (nI mer) :: .ref m31 :: .ref m32 :: .ref m33 :: .ref m34 :: .ref m35 :: .int (nI mwm) :: .int (nI mwt) :: .int (nI mwf) :: .ref m39 :: .ref m40 :: .ref m41 :: .int (nI mla) :: .ref m43 :: .ref m44 :: .ref m45 :: .ref m46 :: .ref m47 :: .ref m48 :: .int (nI mtm) :: .ref m50 :: .ref m51 :: .ref m52 :: .ref m53 :: .ref m54 :: .ref m55 :: .ref m56 :: .ref m57 :: .ref m58 :: .ref m59 :: .ref m60 :: .ref m61 :: .int (nI msn) :: .int (nI mti) :: .ref m64 :: .ref m65 :: .ref m66 :: .ref m67 :: .ref m68 :: .ref m69 :: []))))]) [(0, .ref m), (1, .int (nI j25841)), (2, .int (nI j25845)), (3, .int (nI j25849)), (4, .int fo)] 0 0 21 [.int 1]
        refine j_if_eq h 34 dX12_alike_21 (by decide) (fun q => absurd q (by decide)) (fun _ => ?_)
        refine j_iload h 4 rfl dX12_alike_24 ?_
        refine j_iconst (v := 0) h (by decide) dX12_alike_26 ?_
        refine j_iconst (v := 1) h (by decide) dX12_alike_27 ?_
        refine jm_callSi (np := 3) (isC := []) (isR := [0, 1, 2, 3, 4, 5]) (wc := []) (wr := [(m19, .inl (.inl (kA 1, 6, .inl mc19))), (m23, .inl (.inl (kA 1, 4, .inl mc23))), (m31, .inl (.inl (kA 1, 10, .inl mc31))), (m32, .inl (.inl (kA 1, 450, .inl mc32))), (m33, .inl (.inl (kA 1, 20, .inl mc33))), (m, .inl (.inr (12, (.ref m0 :: .int (nI mtp) :: .int (nI mfa) :: .int mfp :: .int (nI mat) :: .int (nI msz) :: .int (nI mso) :: .int mpl :: .int mnu :: .long mwd :: .ref m10 :: .ref m11 :: .ref m12 :: .ref m13 :: .ref m14 :: .ref m15 :: .ref m16 :: .ref m17 :: .ref m18 :: .ref m19 :: .ref m20 :: .ref m21 :: .ref m22 :: .ref m23 :: .ref m24 :: .int (nI mns) :: .int (nI mnl) :: .int (nI mne) :: .int (nI mst) :: .int (nI mlt) :: .int (nI mer) :: .ref m31 :: .ref m32 :: .ref m33 :: .ref m34 :: .ref m35 :: .int (nI mwm) :: .int (nI mwt) :: .int (nI mwf) :: .ref m39 :: .ref m40 :: .ref m41 :: .int (nI mla) :: .ref m43 :: .ref m44 :: .ref m45 :: .ref m46 :: .ref m47 :: .ref m48 :: .int (nI mtm) :: .ref m50 :: .ref m51 :: .ref m52 :: .ref m53 :: .ref m54 :: .ref m55 :: .ref m56 :: .ref m57 :: .ref m58 :: .ref m59 :: .ref m60 :: .ref m61 :: .int (nI msn) :: .int (nI mti) :: .ref m64 :: .ref m65 :: .ref m66 :: .ref m67 :: .ref m68 :: .ref m69 :: []))))]) (rest := []) (As := [.int fo, .int 0, .int 1]) h (s_X12_isIn _ _ kA fo 0 1 ) tw_1487 tw_1488 tw_99 tw_1489 (by decide +kernel) rfl ⟨Nat.le_of_ble_eq_true rfl, Nat.le_of_ble_eq_true rfl⟩ (by decide +kernel) rfl rfl (by decide +kernel) (by decide +kernel) (Nat.le_of_ble_eq_true rfl) rfl ⟨Nat.le_of_ble_eq_true rfl, Nat.le_of_ble_eq_true rfl⟩ dX12_alike_28 ?_
        rintro r25851 _ e25850
        have p25852 := e25850
        subst p25852
        show J x (mflat [(m19, .inl (.inl (kA 1, 6, .inl mc19))), (m23, .inl (.inl (kA 1, 4, .inl mc23))), (m31, .inl (.inl (kA 1, 10, .inl mc31))), (m32, .inl (.inl (kA 1, 450, .inl mc32))), (m33, .inl (.inl (kA 1, 20, .inl mc33))), (m, .inl (.inr (12, (.ref m0 :: .int (nI mtp) :: .int (nI mfa) :: .int mfp :: .int (nI mat) :: .int (nI msz) :: .int (nI mso) :: .int mpl :: .int mnu :: .long mwd :: .ref m10 :: .ref m11 :: .ref m12 :: .ref m13 :: .ref m14 :: .ref m15 :: .ref m16 :: .ref m17 :: .ref m18 :: .ref m19 :: .ref m20 :: .ref m21 :: .ref m22 :: .ref m23 :: .ref m24 :: .int (nI mns) :: .int (nI mnl) :: .int (nI mne) :: .int (nI mst) :: .int (nI mlt) :: .int (nI mer) :: .ref m31 :: .ref m32 :: .ref m33 :: .ref m34 :: .ref m35 :: .int (nI mwm) :: .int (nI mwt) :: .int (nI mwf) :: .ref m39 :: .ref m40 :: .ref m41 :: .int (nI mla) :: .ref m43 :: .ref m44 :: .ref m45 :: .ref m46 :: .ref m47 :: .ref m48 :: .int (nI mtm) :: .ref m50 :: .ref m51 :: .ref m52 :: .ref m53 :: .ref m54 :: .ref m55 :: .ref m56 :: .ref m57 :: .ref m58 :: .ref m59 :: .ref m60 :: .ref m61 :: .int (nI msn) :: .int (nI mti) :: .ref m64 :: .ref m65 :: .ref m66 :: .ref m67 :: .ref m68 :: .ref m69 :: []))))]) [(0, .ref m), (1, .int (nI j25841)), (2, .int (nI j25845)), (3, .int (nI j25849)), (4, .int fo)] 0 0 31 [.int (inV fo 0 1)]
        refine j_top (b := bIx fo 2) (inV_bIx (n := 2) (by omega)) ?_
        rcases bIx_cases fo 2 (by omega) with hTj25853 | ⟨j25853, hj25853, rfl, hBj25853⟩
        · refine j_top (b := 0) hTj25853 ?_
          show J x (mflat [(m19, .inl (.inl (kA 1, 6, .inl mc19))), (m23, .inl (.inl (kA 1, 4, .inl mc23))), (m31, .inl (.inl (kA 1, 10, .inl mc31))), (m32, .inl (.inl (kA 1, 450, .inl mc32))), (m33, .inl (.inl (kA 1, 20, .inl mc33))), (m, .inl (.inr (12, (.ref m0 :: .int (nI mtp) :: .int (nI mfa) :: .int mfp :: .int (nI mat) :: .int (nI msz) :: .int (nI mso) :: .int mpl :: .int mnu :: .long mwd :: .ref m10 :: .ref m11 :: .ref m12 :: .ref m13 :: .ref m14 :: .ref m15 :: .ref m16 :: .ref m17 :: .ref m18 :: .ref m19 :: .ref m20 :: .ref m21 :: .ref m22 :: .ref m23 :: .ref m24 :: .int (nI mns) :: .int (nI mnl) :: .int (nI mne) :: .int (nI mst) :: .int (nI mlt) :: .int (nI mer) :: .ref m31 :: .ref m32 :: .ref m33 :: .ref m34 :: .ref m35 :: .int (nI mwm) :: .int (nI mwt) :: .int (nI mwf) :: .ref m39 :: .ref m40 :: .ref m41 :: .int (nI mla) :: .ref m43 :: .ref m44 :: .ref m45 :: .ref m46 :: .ref m47 :: .ref m48 :: .int (nI mtm) :: .ref m50 :: .ref m51 :: .ref m52 :: .ref m53 :: .ref m54 :: .ref m55 :: .ref m56 :: .ref m57 :: .ref m58 :: .ref m59 :: .ref m60 :: .ref m61 :: .int (nI msn) :: .int (nI mti) :: .ref m64 :: .ref m65 :: .ref m66 :: .ref m67 :: .ref m68 :: .ref m69 :: []))))]) [(0, .ref m), (1, .int (nI j25841)), (2, .int (nI j25845)), (3, .int (nI j25849)), (4, .int fo)] 0 0 31 [.int 0]
          refine j_if_ne h 36 dX12_alike_31 (by decide) (fun q => absurd (by decide) q) (fun _ => ?_)
          refine j_iconst (v := (-1)) h (by decide) dX12_alike_34 ?_
          exact jm_iret h hq dX12_alike_35 () [5, 0, 1, 2, 3, 4] rfl (by decide) trivial (Nat.le_of_ble_eq_true rfl) (Nat.le_of_ble_eq_true rfl)
        · refine j_top (b := 1) hBj25853 ?_
          show J x (mflat [(m19, .inl (.inl (kA 1, 6, .inl mc19))), (m23, .inl (.inl (kA 1, 4, .inl mc23))), (m31, .inl (.inl (kA 1, 10, .inl mc31))), (m32, .inl (.inl (kA 1, 450, .inl mc32))), (m33, .inl (.inl (kA 1, 20, .inl mc33))), (m, .inl (.inr (12, (.ref m0 :: .int (nI mtp) :: .int (nI mfa) :: .int mfp :: .int (nI mat) :: .int (nI msz) :: .int (nI mso) :: .int mpl :: .int mnu :: .long mwd :: .ref m10 :: .ref m11 :: .ref m12 :: .ref m13 :: .ref m14 :: .ref m15 :: .ref m16 :: .ref m17 :: .ref m18 :: .ref m19 :: .ref m20 :: .ref m21 :: .ref m22 :: .ref m23 :: .ref m24 :: .int (nI mns) :: .int (nI mnl) :: .int (nI mne) :: .int (nI mst) :: .int (nI mlt) :: .int (nI mer) :: .ref m31 :: .ref m32 :: .ref m33 :: .ref m34 :: .ref m35 :: .int (nI mwm) :: .int (nI mwt) :: .int (nI mwf) :: .ref m39 :: .ref m40 :: .ref m41 :: .int (nI mla) :: .ref m43 :: .ref m44 :: .ref m45 :: .ref m46 :: .ref m47 :: .ref m48 :: .int (nI mtm) :: .ref m50 :: .ref m51 :: .ref m52 :: .ref m53 :: .ref m54 :: .ref m55 :: .ref m56 :: .ref m57 :: .ref m58 :: .ref m59 :: .ref m60 :: .ref m61 :: .int (nI msn) :: .int (nI mti) :: .ref m64 :: .ref m65 :: .ref m66 :: .ref m67 :: .ref m68 :: .ref m69 :: []))))]) [(0, .ref m), (1, .int (nI j25841)), (2, .int (nI j25845)), (3, .int (nI j25849)), (4, .int (nI j25853))] 0 0 31 [.int 1]
          refine j_if_ne h 36 dX12_alike_31 (by decide) (fun _ => ?_) (fun q => absurd q (by decide))
          refine j_aload_n h 0 rfl rfl dX12_alike_36 ?_
          refine jm_get h iw_X12 5 rfl rfl 33 (by decide +kernel) tw_1189 rfl dX12_alike_37 ?_
          refine j_iconst (v := 2) h (by decide) dX12_alike_40 ?_
          refine j_iload_n h 2 rfl rfl dX12_alike_41 ?_
          refine j_imul h dX12_alike_42 ?_
          refine j_top (b := nI (2 * j25845)) (pk_mul 2 j25845) ?_
          refine j_iload h 4 rfl dX12_alike_43 ?_
          refine j_iadd h dX12_alike_45 ?_
          refine j_top (b := nI ((2 * j25845) + j25853)) (nI_add (2 * j25845) j25853) ?_
          refine jm_iald h 4 rfl ((2 * j25845) + j25853) rfl (by omega) (by omega) dX12_alike_46 ?_
          obtain ⟨t25854, u25855, u25856⟩ := (show FbOk (2 * mlt) mc33 by assumption) ((2 * j25845) + j25853) (by omega)
          refine j_top (b := pm t25854) (u25856) ?_
          rcases t25854 with _ | j25857
          · show J x (mflat [(m19, .inl (.inl (kA 1, 6, .inl mc19))), (m23, .inl (.inl (kA 1, 4, .inl mc23))), (m31, .inl (.inl (kA 1, 10, .inl mc31))), (m32, .inl (.inl (kA 1, 450, .inl mc32))), (m33, .inl (.inl (kA 1, 20, .inl mc33))), (m, .inl (.inr (12, (.ref m0 :: .int (nI mtp) :: .int (nI mfa) :: .int mfp :: .int (nI mat) :: .int (nI msz) :: .int (nI mso) :: .int mpl :: .int mnu :: .long mwd :: .ref m10 :: .ref m11 :: .ref m12 :: .ref m13 :: .ref m14 :: .ref m15 :: .ref m16 :: .ref m17 :: .ref m18 :: .ref m19 :: .ref m20 :: .ref m21 :: .ref m22 :: .ref m23 :: .ref m24 :: .int (nI mns) :: .int (nI mnl) :: .int (nI mne) :: .int (nI mst) :: .int (nI mlt) :: .int (nI mer) :: .ref m31 :: .ref m32 :: .ref m33 :: .ref m34 :: .ref m35 :: .int (nI mwm) :: .int (nI mwt) :: .int (nI mwf) :: .ref m39 :: .ref m40 :: .ref m41 :: .int (nI mla) :: .ref m43 :: .ref m44 :: .ref m45 :: .ref m46 :: .ref m47 :: .ref m48 :: .int (nI mtm) :: .ref m50 :: .ref m51 :: .ref m52 :: .ref m53 :: .ref m54 :: .ref m55 :: .ref m56 :: .ref m57 :: .ref m58 :: .ref m59 :: .ref m60 :: .ref m61 :: .int (nI msn) :: .int (nI mti) :: .ref m64 :: .ref m65 :: .ref m66 :: .ref m67 :: .ref m68 :: .ref m69 :: []))))]) [(0, .ref m), (1, .int (nI j25841)), (2, .int (nI j25845)), (3, .int (nI j25849)), (4, .int (nI j25853))] 0 0 47 [.int (-1)]
            refine j_if_lt h 83 dX12_alike_47 (by decide) (fun _ => ?_) (fun q => absurd (by decide) q)
            refine j_iconst (v := 0) h (by decide) dX12_alike_83 ?_
            refine j_istore (lv' := [(5, .int 0), (0, .ref m), (1, .int (nI j25841)), (2, .int (nI j25845)), (3, .int (nI j25849)), (4, .int (nI j25853))]) h dX12_alike_84 (by decide) rfl ?_
            refine j_iconst (v := 0) h (by decide) dX12_alike_86 ?_
            refine j_istore (lv' := [(6, .int 0), (5, .int 0), (0, .ref m), (1, .int (nI j25841)), (2, .int (nI j25845)), (3, .int (nI j25849)), (4, .int (nI j25853))]) h dX12_alike_87 (by decide) rfl ?_
            have lp89_2437 : ∀ (m89_2437 : Nat), (0 ≤ 1) → 100001 - 0 < m89_2437 → J x (mflat [(m19, .inl (.inl (kA 1, 6, .inl mc19))), (m23, .inl (.inl (kA 1, 4, .inl mc23))), (m31, .inl (.inl (kA 1, 10, .inl mc31))), (m32, .inl (.inl (kA 1, 450, .inl mc32))), (m33, .inl (.inl (kA 1, 20, .inl mc33))), (m, .inl (.inr (12, (.ref m0 :: .int (nI mtp) :: .int (nI mfa) :: .int mfp :: .int (nI mat) :: .int (nI msz) :: .int (nI mso) :: .int mpl :: .int mnu :: .long mwd :: .ref m10 :: .ref m11 :: .ref m12 :: .ref m13 :: .ref m14 :: .ref m15 :: .ref m16 :: .ref m17 :: .ref m18 :: .ref m19 :: .ref m20 :: .ref m21 :: .ref m22 :: .ref m23 :: .ref m24 :: .int (nI mns) :: .int (nI mnl) :: .int (nI mne) :: .int (nI mst) :: .int (nI mlt) :: .int (nI mer) :: .ref m31 :: .ref m32 :: .ref m33 :: .ref m34 :: .ref m35 :: .int (nI mwm) :: .int (nI mwt) :: .int (nI mwf) :: .ref m39 :: .ref m40 :: .ref m41 :: .int (nI mla) :: .ref m43 :: .ref m44 :: .ref m45 :: .ref m46 :: .ref m47 :: .ref m48 :: .int (nI mtm) :: .ref m50 :: .ref m51 :: .ref m52 :: .ref m53 :: .ref m54 :: .ref m55 :: .ref m56 :: .ref m57 :: .ref m58 :: .ref m59 :: .ref m60 :: .ref m61 :: .int (nI msn) :: .int (nI mti) :: .ref m64 :: .ref m65 :: .ref m66 :: .ref m67 :: .ref m68 :: .ref m69 :: []))))]) [(6, .int 0), (5, .int 0), (0, .ref m), (1, .int (nI j25841)), (2, .int (nI j25845)), (3, .int (nI j25849)), (4, .int (nI j25853))] 0 0 89 [] := by
              intro m89_2437
              induction m89_2437 with
              | zero =>
                intro  i89_2437_0 hm89_2437
                exact absurd hm89_2437 (Nat.not_lt_zero _)
              | succ m89_2437 ih89_2437 =>
                intro  i89_2437_0 hm89_2437
                refine j_iload h 1 rfl dX12_alike_89 ?_
                refine j_if_eq h 155 dX12_alike_91 (by decide) (fun _ => ?_) (fun q => absurd (by decide) q)
                refine j_iload h 1 rfl dX12_alike_155 ?_
                refine j_if_eq h 164 dX12_alike_157 (by decide) (fun _ => ?_) (fun q => absurd (by decide) q)
                refine j_iconst (v := 0) h (by decide) dX12_alike_164 ?_
                exact jm_iret h hq dX12_alike_165 () [5, 0, 1, 2, 3, 4] rfl (by decide) trivial (Nat.le_of_ble_eq_true rfl) (Nat.le_of_ble_eq_true rfl)
            refine jm_sub [0, 1, 2, 3, 4, 5] (w' := [(m19, .inl (.inl (kA 1, 6, .inl mc19))), (m23, .inl (.inl (kA 1, 4, .inl mc23))), (m31, .inl (.inl (kA 1, 10, .inl mc31))), (m32, .inl (.inl (kA 1, 450, .inl mc32))), (m33, .inl (.inl (kA 1, 20, .inl mc33))), (m, .inl (.inr (12, (.ref m0 :: .int (nI mtp) :: .int (nI mfa) :: .int mfp :: .int (nI mat) :: .int (nI msz) :: .int (nI mso) :: .int mpl :: .int mnu :: .long mwd :: .ref m10 :: .ref m11 :: .ref m12 :: .ref m13 :: .ref m14 :: .ref m15 :: .ref m16 :: .ref m17 :: .ref m18 :: .ref m19 :: .ref m20 :: .ref m21 :: .ref m22 :: .ref m23 :: .ref m24 :: .int (nI mns) :: .int (nI mnl) :: .int (nI mne) :: .int (nI mst) :: .int (nI mlt) :: .int (nI mer) :: .ref m31 :: .ref m32 :: .ref m33 :: .ref m34 :: .ref m35 :: .int (nI mwm) :: .int (nI mwt) :: .int (nI mwf) :: .ref m39 :: .ref m40 :: .ref m41 :: .int (nI mla) :: .ref m43 :: .ref m44 :: .ref m45 :: .ref m46 :: .ref m47 :: .ref m48 :: .int (nI mtm) :: .ref m50 :: .ref m51 :: .ref m52 :: .ref m53 :: .ref m54 :: .ref m55 :: .ref m56 :: .ref m57 :: .ref m58 :: .ref m59 :: .ref m60 :: .ref m61 :: .int (nI msn) :: .int (nI mti) :: .ref m64 :: .ref m65 :: .ref m66 :: .ref m67 :: .ref m68 :: .ref m69 :: []))))]) rfl (by decide +kernel) [0, 1, 2, 3, 4, 5, 6] (lv' := [(6, .int 0), (5, .int 0), (0, .ref m), (1, .int (nI j25841)), (2, .int (nI j25845)), (3, .int (nI j25849)), (4, .int (nI j25853))]) rfl ?_
            exact lp89_2437 (100001 - 0 + 1)  (show 0 ≤ 1 by first | assumption | omega) (Nat.lt_succ_self _)
          · show J x (mflat [(m19, .inl (.inl (kA 1, 6, .inl mc19))), (m23, .inl (.inl (kA 1, 4, .inl mc23))), (m31, .inl (.inl (kA 1, 10, .inl mc31))), (m32, .inl (.inl (kA 1, 450, .inl mc32))), (m33, .inl (.inl (kA 1, 20, .inl mc33))), (m, .inl (.inr (12, (.ref m0 :: .int (nI mtp) :: .int (nI mfa) :: .int mfp :: .int (nI mat) :: .int (nI msz) :: .int (nI mso) :: .int mpl :: .int mnu :: .long mwd :: .ref m10 :: .ref m11 :: .ref m12 :: .ref m13 :: .ref m14 :: .ref m15 :: .ref m16 :: .ref m17 :: .ref m18 :: .ref m19 :: .ref m20 :: .ref m21 :: .ref m22 :: .ref m23 :: .ref m24 :: .int (nI mns) :: .int (nI mnl) :: .int (nI mne) :: .int (nI mst) :: .int (nI mlt) :: .int (nI mer) :: .ref m31 :: .ref m32 :: .ref m33 :: .ref m34 :: .ref m35 :: .int (nI mwm) :: .int (nI mwt) :: .int (nI mwf) :: .ref m39 :: .ref m40 :: .ref m41 :: .int (nI mla) :: .ref m43 :: .ref m44 :: .ref m45 :: .ref m46 :: .ref m47 :: .ref m48 :: .int (nI mtm) :: .ref m50 :: .ref m51 :: .ref m52 :: .ref m53 :: .ref m54 :: .ref m55 :: .ref m56 :: .ref m57 :: .ref m58 :: .ref m59 :: .ref m60 :: .ref m61 :: .int (nI msn) :: .int (nI mti) :: .ref m64 :: .ref m65 :: .ref m66 :: .ref m67 :: .ref m68 :: .ref m69 :: []))))]) [(0, .ref m), (1, .int (nI j25841)), (2, .int (nI j25845)), (3, .int (nI j25849)), (4, .int (nI j25853))] 0 0 47 [.int (nI j25857)]
            refine j_if_lt h 83 dX12_alike_47 (by decide) (fun q => absurd q (nI_pos (by omega))) (fun _ => ?_)
            refine j_aload_n h 0 rfl rfl dX12_alike_50 ?_
            refine jm_get h iw_X12 5 rfl rfl 33 (by decide +kernel) tw_1189 rfl dX12_alike_51 ?_
            refine j_iconst (v := 2) h (by decide) dX12_alike_54 ?_
            refine j_iload_n h 3 rfl rfl dX12_alike_55 ?_
            refine j_imul h dX12_alike_56 ?_
            refine j_top (b := nI (2 * j25849)) (pk_mul 2 j25849) ?_
            refine j_iload h 4 rfl dX12_alike_57 ?_
            refine j_iadd h dX12_alike_59 ?_
            refine j_top (b := nI ((2 * j25849) + j25853)) (nI_add (2 * j25849) j25853) ?_
            refine jm_iald h 4 rfl ((2 * j25849) + j25853) rfl (by omega) (by omega) dX12_alike_60 ?_
            obtain ⟨t25858, u25859, u25860⟩ := (show FbOk (2 * mlt) mc33 by assumption) ((2 * j25849) + j25853) (by omega)
            refine j_top (b := pm t25858) (u25860) ?_
            rcases t25858 with _ | j25861
            · show J x (mflat [(m19, .inl (.inl (kA 1, 6, .inl mc19))), (m23, .inl (.inl (kA 1, 4, .inl mc23))), (m31, .inl (.inl (kA 1, 10, .inl mc31))), (m32, .inl (.inl (kA 1, 450, .inl mc32))), (m33, .inl (.inl (kA 1, 20, .inl mc33))), (m, .inl (.inr (12, (.ref m0 :: .int (nI mtp) :: .int (nI mfa) :: .int mfp :: .int (nI mat) :: .int (nI msz) :: .int (nI mso) :: .int mpl :: .int mnu :: .long mwd :: .ref m10 :: .ref m11 :: .ref m12 :: .ref m13 :: .ref m14 :: .ref m15 :: .ref m16 :: .ref m17 :: .ref m18 :: .ref m19 :: .ref m20 :: .ref m21 :: .ref m22 :: .ref m23 :: .ref m24 :: .int (nI mns) :: .int (nI mnl) :: .int (nI mne) :: .int (nI mst) :: .int (nI mlt) :: .int (nI mer) :: .ref m31 :: .ref m32 :: .ref m33 :: .ref m34 :: .ref m35 :: .int (nI mwm) :: .int (nI mwt) :: .int (nI mwf) :: .ref m39 :: .ref m40 :: .ref m41 :: .int (nI mla) :: .ref m43 :: .ref m44 :: .ref m45 :: .ref m46 :: .ref m47 :: .ref m48 :: .int (nI mtm) :: .ref m50 :: .ref m51 :: .ref m52 :: .ref m53 :: .ref m54 :: .ref m55 :: .ref m56 :: .ref m57 :: .ref m58 :: .ref m59 :: .ref m60 :: .ref m61 :: .int (nI msn) :: .int (nI mti) :: .ref m64 :: .ref m65 :: .ref m66 :: .ref m67 :: .ref m68 :: .ref m69 :: []))))]) [(0, .ref m), (1, .int (nI j25841)), (2, .int (nI j25845)), (3, .int (nI j25849)), (4, .int (nI j25853))] 0 0 61 [.int (-1)]
              refine j_if_lt h 83 dX12_alike_61 (by decide) (fun _ => ?_) (fun q => absurd (by decide) q)
              refine j_iconst (v := 0) h (by decide) dX12_alike_83 ?_
              refine j_istore (lv' := [(5, .int 0), (0, .ref m), (1, .int (nI j25841)), (2, .int (nI j25845)), (3, .int (nI j25849)), (4, .int (nI j25853))]) h dX12_alike_84 (by decide) rfl ?_
              refine j_iconst (v := 0) h (by decide) dX12_alike_86 ?_
              refine j_istore (lv' := [(6, .int 0), (5, .int 0), (0, .ref m), (1, .int (nI j25841)), (2, .int (nI j25845)), (3, .int (nI j25849)), (4, .int (nI j25853))]) h dX12_alike_87 (by decide) rfl ?_
              have lp89_2439 : ∀ (m89_2439 : Nat), (0 ≤ 1) → 100001 - 0 < m89_2439 → J x (mflat [(m19, .inl (.inl (kA 1, 6, .inl mc19))), (m23, .inl (.inl (kA 1, 4, .inl mc23))), (m31, .inl (.inl (kA 1, 10, .inl mc31))), (m32, .inl (.inl (kA 1, 450, .inl mc32))), (m33, .inl (.inl (kA 1, 20, .inl mc33))), (m, .inl (.inr (12, (.ref m0 :: .int (nI mtp) :: .int (nI mfa) :: .int mfp :: .int (nI mat) :: .int (nI msz) :: .int (nI mso) :: .int mpl :: .int mnu :: .long mwd :: .ref m10 :: .ref m11 :: .ref m12 :: .ref m13 :: .ref m14 :: .ref m15 :: .ref m16 :: .ref m17 :: .ref m18 :: .ref m19 :: .ref m20 :: .ref m21 :: .ref m22 :: .ref m23 :: .ref m24 :: .int (nI mns) :: .int (nI mnl) :: .int (nI mne) :: .int (nI mst) :: .int (nI mlt) :: .int (nI mer) :: .ref m31 :: .ref m32 :: .ref m33 :: .ref m34 :: .ref m35 :: .int (nI mwm) :: .int (nI mwt) :: .int (nI mwf) :: .ref m39 :: .ref m40 :: .ref m41 :: .int (nI mla) :: .ref m43 :: .ref m44 :: .ref m45 :: .ref m46 :: .ref m47 :: .ref m48 :: .int (nI mtm) :: .ref m50 :: .ref m51 :: .ref m52 :: .ref m53 :: .ref m54 :: .ref m55 :: .ref m56 :: .ref m57 :: .ref m58 :: .ref m59 :: .ref m60 :: .ref m61 :: .int (nI msn) :: .int (nI mti) :: .ref m64 :: .ref m65 :: .ref m66 :: .ref m67 :: .ref m68 :: .ref m69 :: []))))]) [(6, .int 0), (5, .int 0), (0, .ref m), (1, .int (nI j25841)), (2, .int (nI j25845)), (3, .int (nI j25849)), (4, .int (nI j25853))] 0 0 89 [] := by
                intro m89_2439
                induction m89_2439 with
                | zero =>
                  intro  i89_2439_0 hm89_2439
                  exact absurd hm89_2439 (Nat.not_lt_zero _)
                | succ m89_2439 ih89_2439 =>
                  intro  i89_2439_0 hm89_2439
                  refine j_iload h 1 rfl dX12_alike_89 ?_
                  refine j_if_eq h 155 dX12_alike_91 (by decide) (fun _ => ?_) (fun q => absurd (by decide) q)
                  refine j_iload h 1 rfl dX12_alike_155 ?_
                  refine j_if_eq h 164 dX12_alike_157 (by decide) (fun _ => ?_) (fun q => absurd (by decide) q)
                  refine j_iconst (v := 0) h (by decide) dX12_alike_164 ?_
                  exact jm_iret h hq dX12_alike_165 () [5, 0, 1, 2, 3, 4] rfl (by decide) trivial (Nat.le_of_ble_eq_true rfl) (Nat.le_of_ble_eq_true rfl)
              refine jm_sub [0, 1, 2, 3, 4, 5] (w' := [(m19, .inl (.inl (kA 1, 6, .inl mc19))), (m23, .inl (.inl (kA 1, 4, .inl mc23))), (m31, .inl (.inl (kA 1, 10, .inl mc31))), (m32, .inl (.inl (kA 1, 450, .inl mc32))), (m33, .inl (.inl (kA 1, 20, .inl mc33))), (m, .inl (.inr (12, (.ref m0 :: .int (nI mtp) :: .int (nI mfa) :: .int mfp :: .int (nI mat) :: .int (nI msz) :: .int (nI mso) :: .int mpl :: .int mnu :: .long mwd :: .ref m10 :: .ref m11 :: .ref m12 :: .ref m13 :: .ref m14 :: .ref m15 :: .ref m16 :: .ref m17 :: .ref m18 :: .ref m19 :: .ref m20 :: .ref m21 :: .ref m22 :: .ref m23 :: .ref m24 :: .int (nI mns) :: .int (nI mnl) :: .int (nI mne) :: .int (nI mst) :: .int (nI mlt) :: .int (nI mer) :: .ref m31 :: .ref m32 :: .ref m33 :: .ref m34 :: .ref m35 :: .int (nI mwm) :: .int (nI mwt) :: .int (nI mwf) :: .ref m39 :: .ref m40 :: .ref m41 :: .int (nI mla) :: .ref m43 :: .ref m44 :: .ref m45 :: .ref m46 :: .ref m47 :: .ref m48 :: .int (nI mtm) :: .ref m50 :: .ref m51 :: .ref m52 :: .ref m53 :: .ref m54 :: .ref m55 :: .ref m56 :: .ref m57 :: .ref m58 :: .ref m59 :: .ref m60 :: .ref m61 :: .int (nI msn) :: .int (nI mti) :: .ref m64 :: .ref m65 :: .ref m66 :: .ref m67 :: .ref m68 :: .ref m69 :: []))))]) rfl (by decide +kernel) [0, 1, 2, 3, 4, 5, 6] (lv' := [(6, .int 0), (5, .int 0), (0, .ref m), (1, .int (nI j25841)), (2, .int (nI j25845)), (3, .int (nI j25849)), (4, .int (nI j25853))]) rfl ?_
              exact lp89_2439 (100001 - 0 + 1)  (show 0 ≤ 1 by first | assumption | omega) (Nat.lt_succ_self _)
            · show J x (mflat [(m19, .inl (.inl (kA 1, 6, .inl mc19))), (m23, .inl (.inl (kA 1, 4, .inl mc23))), (m31, .inl (.inl (kA 1, 10, .inl mc31))), (m32, .inl (.inl (kA 1, 450, .inl mc32))), (m33, .inl (.inl (kA 1, 20, .inl mc33))), (m, .inl (.inr (12, (.ref m0 :: .int (nI mtp) :: .int (nI mfa) :: .int mfp :: .int (nI mat) :: .int (nI msz) :: .int (nI mso) :: .int mpl :: .int mnu :: .long mwd :: .ref m10 :: .ref m11 :: .ref m12 :: .ref m13 :: .ref m14 :: .ref m15 :: .ref m16 :: .ref m17 :: .ref m18 :: .ref m19 :: .ref m20 :: .ref m21 :: .ref m22 :: .ref m23 :: .ref m24 :: .int (nI mns) :: .int (nI mnl) :: .int (nI mne) :: .int (nI mst) :: .int (nI mlt) :: .int (nI mer) :: .ref m31 :: .ref m32 :: .ref m33 :: .ref m34 :: .ref m35 :: .int (nI mwm) :: .int (nI mwt) :: .int (nI mwf) :: .ref m39 :: .ref m40 :: .ref m41 :: .int (nI mla) :: .ref m43 :: .ref m44 :: .ref m45 :: .ref m46 :: .ref m47 :: .ref m48 :: .int (nI mtm) :: .ref m50 :: .ref m51 :: .ref m52 :: .ref m53 :: .ref m54 :: .ref m55 :: .ref m56 :: .ref m57 :: .ref m58 :: .ref m59 :: .ref m60 :: .ref m61 :: .int (nI msn) :: .int (nI mti) :: .ref m64 :: .ref m65 :: .ref m66 :: .ref m67 :: .ref m68 :: .ref m69 :: []))))]) [(0, .ref m), (1, .int (nI j25841)), (2, .int (nI j25845)), (3, .int (nI j25849)), (4, .int (nI j25853))] 0 0 61 [.int (nI j25861)]
              refine j_if_lt h 83 dX12_alike_61 (by decide) (fun q => absurd q (nI_pos (by omega))) (fun _ => ?_)
              refine j_aload_n h 0 rfl rfl dX12_alike_64 ?_
              refine jm_get h iw_X12 5 rfl rfl 31 (by decide +kernel) tw_1187 rfl dX12_alike_65 ?_
              refine j_iload_n h 2 rfl rfl dX12_alike_68 ?_
              refine jm_iald h 2 rfl j25845 rfl (by omega) (by omega) dX12_alike_69 ?_
              obtain ⟨t25862, u25863, u25864, u25865⟩ := (show LtOk mlt mc31 by assumption) j25845 (by omega)
              refine j_top (b := nI t25862) (u25865) ?_
              refine j_aload_n h 0 rfl rfl dX12_alike_70 ?_
              refine jm_get h iw_X12 5 rfl rfl 31 (by decide +kernel) tw_1187 rfl dX12_alike_71 ?_
              refine j_iload_n h 3 rfl rfl dX12_alike_74 ?_
              refine jm_iald h 2 rfl j25849 rfl (by omega) (by omega) dX12_alike_75 ?_
              obtain ⟨t25866, u25867, u25868, u25869⟩ := (show LtOk mlt mc31 by assumption) j25849 (by omega)
              refine j_top (b := nI t25866) (u25869) ?_
              refine j_icmp_ne h 83 dX12_alike_76 (by decide) (fun z25870 => ?_) (fun z25870 => ?_)
              · have z25870n : ¬ t25862 = t25866 := fun q9 => z25870 ((nI_eq (a := t25862) (b := t25866) (by omega) (by omega)).mpr q9)
                refine j_iconst (v := 0) h (by decide) dX12_alike_83 ?_
                refine j_istore (lv' := [(5, .int 0), (0, .ref m), (1, .int (nI j25841)), (2, .int (nI j25845)), (3, .int (nI j25849)), (4, .int (nI j25853))]) h dX12_alike_84 (by decide) rfl ?_
                refine j_iconst (v := 0) h (by decide) dX12_alike_86 ?_
                refine j_istore (lv' := [(6, .int 0), (5, .int 0), (0, .ref m), (1, .int (nI j25841)), (2, .int (nI j25845)), (3, .int (nI j25849)), (4, .int (nI j25853))]) h dX12_alike_87 (by decide) rfl ?_
                have lp89_2441 : ∀ (m89_2441 : Nat), (0 ≤ 1) → 100001 - 0 < m89_2441 → J x (mflat [(m19, .inl (.inl (kA 1, 6, .inl mc19))), (m23, .inl (.inl (kA 1, 4, .inl mc23))), (m31, .inl (.inl (kA 1, 10, .inl mc31))), (m32, .inl (.inl (kA 1, 450, .inl mc32))), (m33, .inl (.inl (kA 1, 20, .inl mc33))), (m, .inl (.inr (12, (.ref m0 :: .int (nI mtp) :: .int (nI mfa) :: .int mfp :: .int (nI mat) :: .int (nI msz) :: .int (nI mso) :: .int mpl :: .int mnu :: .long mwd :: .ref m10 :: .ref m11 :: .ref m12 :: .ref m13 :: .ref m14 :: .ref m15 :: .ref m16 :: .ref m17 :: .ref m18 :: .ref m19 :: .ref m20 :: .ref m21 :: .ref m22 :: .ref m23 :: .ref m24 :: .int (nI mns) :: .int (nI mnl) :: .int (nI mne) :: .int (nI mst) :: .int (nI mlt) :: .int (nI mer) :: .ref m31 :: .ref m32 :: .ref m33 :: .ref m34 :: .ref m35 :: .int (nI mwm) :: .int (nI mwt) :: .int (nI mwf) :: .ref m39 :: .ref m40 :: .ref m41 :: .int (nI mla) :: .ref m43 :: .ref m44 :: .ref m45 :: .ref m46 :: .ref m47 :: .ref m48 :: .int (nI mtm) :: .ref m50 :: .ref m51 :: .ref m52 :: .ref m53 :: .ref m54 :: .ref m55 :: .ref m56 :: .ref m57 :: .ref m58 :: .ref m59 :: .ref m60 :: .ref m61 :: .int (nI msn) :: .int (nI mti) :: .ref m64 :: .ref m65 :: .ref m66 :: .ref m67 :: .ref m68 :: .ref m69 :: []))))]) [(6, .int 0), (5, .int 0), (0, .ref m), (1, .int (nI j25841)), (2, .int (nI j25845)), (3, .int (nI j25849)), (4, .int (nI j25853))] 0 0 89 [] := by
                  intro m89_2441
                  induction m89_2441 with
                  | zero =>
                    intro  i89_2441_0 hm89_2441
                    exact absurd hm89_2441 (Nat.not_lt_zero _)
                  | succ m89_2441 ih89_2441 =>
                    intro  i89_2441_0 hm89_2441
                    refine j_iload h 1 rfl dX12_alike_89 ?_
                    refine j_if_eq h 155 dX12_alike_91 (by decide) (fun _ => ?_) (fun q => absurd (by decide) q)
                    refine j_iload h 1 rfl dX12_alike_155 ?_
                    refine j_if_eq h 164 dX12_alike_157 (by decide) (fun _ => ?_) (fun q => absurd (by decide) q)
                    refine j_iconst (v := 0) h (by decide) dX12_alike_164 ?_
                    exact jm_iret h hq dX12_alike_165 () [5, 0, 1, 2, 3, 4] rfl (by decide) trivial (Nat.le_of_ble_eq_true rfl) (Nat.le_of_ble_eq_true rfl)
                refine jm_sub [0, 1, 2, 3, 4, 5] (w' := [(m19, .inl (.inl (kA 1, 6, .inl mc19))), (m23, .inl (.inl (kA 1, 4, .inl mc23))), (m31, .inl (.inl (kA 1, 10, .inl mc31))), (m32, .inl (.inl (kA 1, 450, .inl mc32))), (m33, .inl (.inl (kA 1, 20, .inl mc33))), (m, .inl (.inr (12, (.ref m0 :: .int (nI mtp) :: .int (nI mfa) :: .int mfp :: .int (nI mat) :: .int (nI msz) :: .int (nI mso) :: .int mpl :: .int mnu :: .long mwd :: .ref m10 :: .ref m11 :: .ref m12 :: .ref m13 :: .ref m14 :: .ref m15 :: .ref m16 :: .ref m17 :: .ref m18 :: .ref m19 :: .ref m20 :: .ref m21 :: .ref m22 :: .ref m23 :: .ref m24 :: .int (nI mns) :: .int (nI mnl) :: .int (nI mne) :: .int (nI mst) :: .int (nI mlt) :: .int (nI mer) :: .ref m31 :: .ref m32 :: .ref m33 :: .ref m34 :: .ref m35 :: .int (nI mwm) :: .int (nI mwt) :: .int (nI mwf) :: .ref m39 :: .ref m40 :: .ref m41 :: .int (nI mla) :: .ref m43 :: .ref m44 :: .ref m45 :: .ref m46 :: .ref m47 :: .ref m48 :: .int (nI mtm) :: .ref m50 :: .ref m51 :: .ref m52 :: .ref m53 :: .ref m54 :: .ref m55 :: .ref m56 :: .ref m57 :: .ref m58 :: .ref m59 :: .ref m60 :: .ref m61 :: .int (nI msn) :: .int (nI mti) :: .ref m64 :: .ref m65 :: .ref m66 :: .ref m67 :: .ref m68 :: .ref m69 :: []))))]) rfl (by decide +kernel) [0, 1, 2, 3, 4, 5, 6] (lv' := [(6, .int 0), (5, .int 0), (0, .ref m), (1, .int (nI j25841)), (2, .int (nI j25845)), (3, .int (nI j25849)), (4, .int (nI j25853))]) rfl ?_
                exact lp89_2441 (100001 - 0 + 1)  (show 0 ≤ 1 by first | assumption | omega) (Nat.lt_succ_self _)
              · have z25870n : t25862 = t25866 := (nI_eq (a := t25862) (b := t25866) (by omega) (by omega)).mp z25870
                refine j_iconst (v := 1) h (by decide) dX12_alike_79 ?_
                refine j_goto h 84 dX12_alike_80 (by decide) ?_
                refine j_istore (lv' := [(5, .int 1), (0, .ref m), (1, .int (nI j25841)), (2, .int (nI j25845)), (3, .int (nI j25849)), (4, .int (nI j25853))]) h dX12_alike_84 (by decide) rfl ?_
                refine j_iconst (v := 0) h (by decide) dX12_alike_86 ?_
                refine j_istore (lv' := [(6, .int 0), (5, .int 1), (0, .ref m), (1, .int (nI j25841)), (2, .int (nI j25845)), (3, .int (nI j25849)), (4, .int (nI j25853))]) h dX12_alike_87 (by decide) rfl ?_
                have lp89_2444 : ∀ (m89_2444 : Nat), ∀ (v6_89_2444 : Nat) (v5_89_2444 : Nat), (v5_89_2444 ≤ 1) → (v6_89_2444 ≤ 100000) → (v5_89_2444 ≤ 100000) → 100001 - v6_89_2444 < m89_2444 → J x (mflat [(m19, .inl (.inl (kA 1, 6, .inl mc19))), (m23, .inl (.inl (kA 1, 4, .inl mc23))), (m31, .inl (.inl (kA 1, 10, .inl mc31))), (m32, .inl (.inl (kA 1, 450, .inl mc32))), (m33, .inl (.inl (kA 1, 20, .inl mc33))), (m, .inl (.inr (12, (.ref m0 :: .int (nI mtp) :: .int (nI mfa) :: .int mfp :: .int (nI mat) :: .int (nI msz) :: .int (nI mso) :: .int mpl :: .int mnu :: .long mwd :: .ref m10 :: .ref m11 :: .ref m12 :: .ref m13 :: .ref m14 :: .ref m15 :: .ref m16 :: .ref m17 :: .ref m18 :: .ref m19 :: .ref m20 :: .ref m21 :: .ref m22 :: .ref m23 :: .ref m24 :: .int (nI mns) :: .int (nI mnl) :: .int (nI mne) :: .int (nI mst) :: .int (nI mlt) :: .int (nI mer) :: .ref m31 :: .ref m32 :: .ref m33 :: .ref m34 :: .ref m35 :: .int (nI mwm) :: .int (nI mwt) :: .int (nI mwf) :: .ref m39 :: .ref m40 :: .ref m41 :: .int (nI mla) :: .ref m43 :: .ref m44 :: .ref m45 :: .ref m46 :: .ref m47 :: .ref m48 :: .int (nI mtm) :: .ref m50 :: .ref m51 :: .ref m52 :: .ref m53 :: .ref m54 :: .ref m55 :: .ref m56 :: .ref m57 :: .ref m58 :: .ref m59 :: .ref m60 :: .ref m61 :: .int (nI msn) :: .int (nI mti) :: .ref m64 :: .ref m65 :: .ref m66 :: .ref m67 :: .ref m68 :: .ref m69 :: []))))]) [(6, .int (nI v6_89_2444)), (5, .int (nI v5_89_2444)), (0, .ref m), (1, .int (nI j25841)), (2, .int (nI j25845)), (3, .int (nI j25849)), (4, .int (nI j25853))] 0 0 89 [] := by
                  intro m89_2444
                  induction m89_2444 with
                  | zero =>
                    intro v6_89_2444 v5_89_2444 i89_2444_0 i89_2444_1 i89_2444_2 hm89_2444
                    exact absurd hm89_2444 (Nat.not_lt_zero _)
                  | succ m89_2444 ih89_2444 =>
                    intro v6_89_2444 v5_89_2444 i89_2444_0 i89_2444_1 i89_2444_2 hm89_2444
                    refine j_iload h 1 rfl dX12_alike_89 ?_
                    refine j_if_eq h 155 dX12_alike_91 (by decide) (fun z25910 => ?_) (fun z25910 => ?_)
                    · have z25910n : v5_89_2444 = 0 := (nI_eq (a := v5_89_2444) (b := 0) (by omega) (by omega)).mp z25910
                      refine j_iload h 1 rfl dX12_alike_155 ?_
                      refine j_if_eq h 164 dX12_alike_157 (by decide) (fun z25911 => ?_) (fun z25911 => ?_)
                      · have z25911n : v5_89_2444 = 0 := (nI_eq (a := v5_89_2444) (b := 0) (by omega) (by omega)).mp z25911
                        refine j_iconst (v := 0) h (by decide) dX12_alike_164 ?_
                        exact jm_iret h hq dX12_alike_165 () [5, 0, 1, 2, 3, 4] rfl (by decide) trivial (Nat.le_of_ble_eq_true rfl) (Nat.le_of_ble_eq_true rfl)
                      · have z25911n : ¬ v5_89_2444 = 0 := fun q9 => z25911 ((nI_eq (a := v5_89_2444) (b := 0) (by omega) (by omega)).mpr q9)
                        refine j_iconst (v := 1) h (by decide) dX12_alike_160 ?_
                        refine j_goto h 165 dX12_alike_161 (by decide) ?_
                        exact jm_iret h hq dX12_alike_165 () [5, 0, 1, 2, 3, 4] rfl (by decide) trivial (Nat.le_of_ble_eq_true rfl) (Nat.le_of_ble_eq_true rfl)
                    · have z25910n : ¬ v5_89_2444 = 0 := fun q9 => z25910 ((nI_eq (a := v5_89_2444) (b := 0) (by omega) (by omega)).mpr q9)
                      refine j_iload h 0 rfl dX12_alike_94 ?_
                      refine j_aload_n h 2 rfl rfl dX12_alike_96 ?_
                      refine jm_get h iw_X12 5 rfl rfl 31 (by decide +kernel) tw_1187 rfl dX12_alike_97 ?_
                      refine j_iload_n h 4 rfl rfl dX12_alike_100 ?_
                      refine jm_iald h 2 rfl j25845 rfl (by omega) (by omega) dX12_alike_101 ?_
                      obtain ⟨t25912, u25913, u25914, u25915⟩ := (show LtOk mlt mc31 by assumption) j25845 (by omega)
                      refine j_top (b := nI t25912) (u25915) ?_
                      refine j_icmp_ge h 155 dX12_alike_102 (by decide) (fun z25916 => ?_) (fun z25916 => ?_)
                      · have z25916n : t25912 ≤ v6_89_2444 := (nI_leI (a := t25912) (b := v6_89_2444) (by omega) (by omega)).mp z25916
                        refine j_iload h 1 rfl dX12_alike_155 ?_
                        refine j_if_eq h 164 dX12_alike_157 (by decide) (fun z25917 => ?_) (fun z25917 => ?_)
                        · have z25917n : v5_89_2444 = 0 := (nI_eq (a := v5_89_2444) (b := 0) (by omega) (by omega)).mp z25917
                          refine j_iconst (v := 0) h (by decide) dX12_alike_164 ?_
                          exact jm_iret h hq dX12_alike_165 () [5, 0, 1, 2, 3, 4] rfl (by decide) trivial (Nat.le_of_ble_eq_true rfl) (Nat.le_of_ble_eq_true rfl)
                        · have z25917n : ¬ v5_89_2444 = 0 := fun q9 => z25917 ((nI_eq (a := v5_89_2444) (b := 0) (by omega) (by omega)).mpr q9)
                          refine j_iconst (v := 1) h (by decide) dX12_alike_160 ?_
                          refine j_goto h 165 dX12_alike_161 (by decide) ?_
                          exact jm_iret h hq dX12_alike_165 () [5, 0, 1, 2, 3, 4] rfl (by decide) trivial (Nat.le_of_ble_eq_true rfl) (Nat.le_of_ble_eq_true rfl)
                      · have z25916n : ¬ t25912 ≤ v6_89_2444 := fun q9 => z25916 ((nI_leI (a := t25912) (b := v6_89_2444) (by omega) (by omega)).mpr q9)
                        refine j_aload_n h 2 rfl rfl dX12_alike_105 ?_
                        refine j_iload_n h 3 rfl rfl dX12_alike_106 ?_
                        refine j_aload_n h 2 rfl rfl dX12_alike_107 ?_
                        refine jm_get h iw_X12 5 rfl rfl 32 (by decide +kernel) tw_1188 rfl dX12_alike_108 ?_
                        refine j_bipush (v := 45) h (by decide) dX12_alike_111 ?_
                        refine j_iload_n h 4 rfl rfl dX12_alike_113 ?_
                        refine j_imul h dX12_alike_114 ?_
                        refine j_top (b := nI (45 * j25845)) (pk_mul 45 j25845) ?_
                        refine j_iload h 0 rfl dX12_alike_115 ?_
                        refine j_iadd h dX12_alike_117 ?_
                        refine j_top (b := nI ((45 * j25845) + v6_89_2444)) (nI_add (45 * j25845) v6_89_2444) ?_
                        refine jm_iald h 3 rfl ((45 * j25845) + v6_89_2444) rfl (by omega) (by omega) dX12_alike_118 ?_
                        obtain ⟨t25918, u25919, u25920⟩ := (show WkOk 450 mc32 by assumption) ((45 * j25845) + v6_89_2444) (by omega)
                        refine j_top (b := pm t25918) (u25920) ?_
                        refine jm_callVi (np := 2) (isC := [5, 0, 1]) (isR := [2, 3, 4]) (wc := [(m, .inl (.inr (12, (.ref m0 :: .int (nI mtp) :: .int (nI mfa) :: .int mfp :: .int (nI mat) :: .int (nI msz) :: .int (nI mso) :: .int mpl :: .int mnu :: .long mwd :: .ref m10 :: .ref m11 :: .ref m12 :: .ref m13 :: .ref m14 :: .ref m15 :: .ref m16 :: .ref m17 :: .ref m18 :: .ref m19 :: .ref m20 :: .ref m21 :: .ref m22 :: .ref m23 :: .ref m24 :: .int (nI mns) :: .int (nI mnl) :: .int (nI mne) :: .int (nI mst) :: .int (nI mlt) :: .int (nI mer) :: .ref m31 :: .ref m32 :: .ref m33 :: .ref m34 :: .ref m35 :: .int (nI mwm) :: .int (nI mwt) :: .int (nI mwf) :: .ref m39 :: .ref m40 :: .ref m41 :: .int (nI mla) :: .ref m43 :: .ref m44 :: .ref m45 :: .ref m46 :: .ref m47 :: .ref m48 :: .int (nI mtm) :: .ref m50 :: .ref m51 :: .ref m52 :: .ref m53 :: .ref m54 :: .ref m55 :: .ref m56 :: .ref m57 :: .ref m58 :: .ref m59 :: .ref m60 :: .ref m61 :: .int (nI msn) :: .int (nI mti) :: .ref m64 :: .ref m65 :: .ref m66 :: .ref m67 :: .ref m68 :: .ref m69 :: [])))), (m19, .inl (.inl (kA 1, 6, .inl mc19))), (m23, .inl (.inl (kA 1, 4, .inl mc23)))]) (wr := [(m31, .inl (.inl (kA 1, 10, .inl mc31))), (m32, .inl (.inl (kA 1, 450, .inl mc32))), (m33, .inl (.inl (kA 1, 20, .inl mc33)))]) (rest := []) (As := [.int (nI j25841), .int (pm t25918)]) (q0 := 0) h (s_X12_hearsF _ _ kA m j25841 t25918 m0 mtp mfa mfp mat msz mso mpl mnu mwd m10 m11 m12 m13 m14 m15 m16 m17 m18 m19 m20 m21 m22 m23 m24 mns mnl mne mst mlt mer m31 m32 m33 m34 m35 mwm mwt mwf m39 m40 m41 mla m43 m44 m45 m46 m47 m48 mtm m50 m51 m52 m53 m54 m55 m56 m57 m58 m59 m60 m61 msn mti m64 m65 m66 m67 m68 m69 mc19 mc23 (show j25841 < 4 by first | assumption | omega) (show t25918 ≤ 6 by first | assumption | omega)) tw_1510 tw_1512 tw_61 tw_99 tw_1513 (by decide +kernel) rfl ⟨Nat.le_of_ble_eq_true rfl, Nat.le_of_ble_eq_true rfl⟩ rfl rfl (by decide +kernel) rfl rfl (by decide +kernel) (by decide +kernel) (Nat.le_of_ble_eq_true rfl) rfl ⟨Nat.le_of_ble_eq_true rfl, Nat.le_of_ble_eq_true rfl⟩ dX12_alike_119 ?_
                        rintro r25922 _ e25921
                        have p25923 := e25921
                        subst p25923
                        show J x (mflat [(m31, .inl (.inl (kA 1, 10, .inl mc31))), (m32, .inl (.inl (kA 1, 450, .inl mc32))), (m33, .inl (.inl (kA 1, 20, .inl mc33))), (m, .inl (.inr (12, (.ref m0 :: .int (nI mtp) :: .int (nI mfa) :: .int mfp :: .int (nI mat) :: .int (nI msz) :: .int (nI mso) :: .int mpl :: .int mnu :: .long mwd :: .ref m10 :: .ref m11 :: .ref m12 :: .ref m13 :: .ref m14 :: .ref m15 :: .ref m16 :: .ref m17 :: .ref m18 :: .ref m19 :: .ref m20 :: .ref m21 :: .ref m22 :: .ref m23 :: .ref m24 :: .int (nI mns) :: .int (nI mnl) :: .int (nI mne) :: .int (nI mst) :: .int (nI mlt) :: .int (nI mer) :: .ref m31 :: .ref m32 :: .ref m33 :: .ref m34 :: .ref m35 :: .int (nI mwm) :: .int (nI mwt) :: .int (nI mwf) :: .ref m39 :: .ref m40 :: .ref m41 :: .int (nI mla) :: .ref m43 :: .ref m44 :: .ref m45 :: .ref m46 :: .ref m47 :: .ref m48 :: .int (nI mtm) :: .ref m50 :: .ref m51 :: .ref m52 :: .ref m53 :: .ref m54 :: .ref m55 :: .ref m56 :: .ref m57 :: .ref m58 :: .ref m59 :: .ref m60 :: .ref m61 :: .int (nI msn) :: .int (nI mti) :: .ref m64 :: .ref m65 :: .ref m66 :: .ref m67 :: .ref m68 :: .ref m69 :: [])))), (m19, .inl (.inl (kA 1, 6, .inl mc19))), (m23, .inl (.inl (kA 1, 4, .inl mc23)))]) [(6, .int (nI v6_89_2444)), (5, .int (nI v5_89_2444)), (0, .ref m), (1, .int (nI j25841)), (2, .int (nI j25845)), (3, .int (nI j25849)), (4, .int (nI j25853))] 0 0 122 [.int (hearI mc19 mc23 j25841 (pm t25918))]
                        refine j_aload_n h 2 rfl rfl dX12_alike_122 ?_
                        refine j_iload_n h 3 rfl rfl dX12_alike_123 ?_
                        refine j_aload_n h 2 rfl rfl dX12_alike_124 ?_
                        refine jm_get h iw_X12 3 rfl rfl 32 (by decide +kernel) tw_1188 rfl dX12_alike_125 ?_
                        refine j_bipush (v := 45) h (by decide) dX12_alike_128 ?_
                        refine j_iload_n h 5 rfl rfl dX12_alike_130 ?_
                        refine j_imul h dX12_alike_131 ?_
                        refine j_top (b := nI (45 * j25849)) (pk_mul 45 j25849) ?_
                        refine j_iload h 0 rfl dX12_alike_132 ?_
                        refine j_iadd h dX12_alike_134 ?_
                        refine j_top (b := nI ((45 * j25849) + v6_89_2444)) (nI_add (45 * j25849) v6_89_2444) ?_
                        refine jm_iald h 1 rfl ((45 * j25849) + v6_89_2444) rfl (by omega) (by omega) dX12_alike_135 ?_
                        obtain ⟨t25924, u25925, u25926⟩ := (show WkOk 450 mc32 by assumption) ((45 * j25849) + v6_89_2444) (by omega)
                        refine j_top (b := pm t25924) (u25926) ?_
                        refine jm_callVi (np := 2) (isC := [3, 4, 5]) (isR := [0, 1, 2]) (wc := [(m, .inl (.inr (12, (.ref m0 :: .int (nI mtp) :: .int (nI mfa) :: .int mfp :: .int (nI mat) :: .int (nI msz) :: .int (nI mso) :: .int mpl :: .int mnu :: .long mwd :: .ref m10 :: .ref m11 :: .ref m12 :: .ref m13 :: .ref m14 :: .ref m15 :: .ref m16 :: .ref m17 :: .ref m18 :: .ref m19 :: .ref m20 :: .ref m21 :: .ref m22 :: .ref m23 :: .ref m24 :: .int (nI mns) :: .int (nI mnl) :: .int (nI mne) :: .int (nI mst) :: .int (nI mlt) :: .int (nI mer) :: .ref m31 :: .ref m32 :: .ref m33 :: .ref m34 :: .ref m35 :: .int (nI mwm) :: .int (nI mwt) :: .int (nI mwf) :: .ref m39 :: .ref m40 :: .ref m41 :: .int (nI mla) :: .ref m43 :: .ref m44 :: .ref m45 :: .ref m46 :: .ref m47 :: .ref m48 :: .int (nI mtm) :: .ref m50 :: .ref m51 :: .ref m52 :: .ref m53 :: .ref m54 :: .ref m55 :: .ref m56 :: .ref m57 :: .ref m58 :: .ref m59 :: .ref m60 :: .ref m61 :: .int (nI msn) :: .int (nI mti) :: .ref m64 :: .ref m65 :: .ref m66 :: .ref m67 :: .ref m68 :: .ref m69 :: [])))), (m19, .inl (.inl (kA 1, 6, .inl mc19))), (m23, .inl (.inl (kA 1, 4, .inl mc23)))]) (wr := [(m31, .inl (.inl (kA 1, 10, .inl mc31))), (m32, .inl (.inl (kA 1, 450, .inl mc32))), (m33, .inl (.inl (kA 1, 20, .inl mc33)))]) (rest := [.int (hearI mc19 mc23 j25841 (pm t25918))]) (As := [.int (nI j25841), .int (pm t25924)]) (q0 := 0) h (s_X12_hearsF _ _ kA m j25841 t25924 m0 mtp mfa mfp mat msz mso mpl mnu mwd m10 m11 m12 m13 m14 m15 m16 m17 m18 m19 m20 m21 m22 m23 m24 mns mnl mne mst mlt mer m31 m32 m33 m34 m35 mwm mwt mwf m39 m40 m41 mla m43 m44 m45 m46 m47 m48 mtm m50 m51 m52 m53 m54 m55 m56 m57 m58 m59 m60 m61 msn mti m64 m65 m66 m67 m68 m69 mc19 mc23 (show j25841 < 4 by first | assumption | omega) (show t25924 ≤ 6 by first | assumption | omega)) tw_1510 tw_1512 tw_61 tw_99 tw_1513 (by decide +kernel) rfl ⟨Nat.le_of_ble_eq_true rfl, Nat.le_of_ble_eq_true rfl⟩ rfl rfl (by decide +kernel) rfl rfl (by decide +kernel) (by decide +kernel) (Nat.le_of_ble_eq_true rfl) rfl ⟨Nat.le_of_ble_eq_true rfl, Nat.le_of_ble_eq_true rfl⟩ dX12_alike_136 ?_
                        rintro r25928 _ e25927
                        have p25929 := e25927
                        subst p25929
                        show J x (mflat [(m31, .inl (.inl (kA 1, 10, .inl mc31))), (m32, .inl (.inl (kA 1, 450, .inl mc32))), (m33, .inl (.inl (kA 1, 20, .inl mc33))), (m, .inl (.inr (12, (.ref m0 :: .int (nI mtp) :: .int (nI mfa) :: .int mfp :: .int (nI mat) :: .int (nI msz) :: .int (nI mso) :: .int mpl :: .int mnu :: .long mwd :: .ref m10 :: .ref m11 :: .ref m12 :: .ref m13 :: .ref m14 :: .ref m15 :: .ref m16 :: .ref m17 :: .ref m18 :: .ref m19 :: .ref m20 :: .ref m21 :: .ref m22 :: .ref m23 :: .ref m24 :: .int (nI mns) :: .int (nI mnl) :: .int (nI mne) :: .int (nI mst) :: .int (nI mlt) :: .int (nI mer) :: .ref m31 :: .ref m32 :: .ref m33 :: .ref m34 :: .ref m35 :: .int (nI mwm) :: .int (nI mwt) :: .int (nI mwf) :: .ref m39 :: .ref m40 :: .ref m41 :: .int (nI mla) :: .ref m43 :: .ref m44 :: .ref m45 :: .ref m46 :: .ref m47 :: .ref m48 :: .int (nI mtm) :: .ref m50 :: .ref m51 :: .ref m52 :: .ref m53 :: .ref m54 :: .ref m55 :: .ref m56 :: .ref m57 :: .ref m58 :: .ref m59 :: .ref m60 :: .ref m61 :: .int (nI msn) :: .int (nI mti) :: .ref m64 :: .ref m65 :: .ref m66 :: .ref m67 :: .ref m68 :: .ref m69 :: [])))), (m19, .inl (.inl (kA 1, 6, .inl mc19))), (m23, .inl (.inl (kA 1, 4, .inl mc23)))]) [(6, .int (nI v6_89_2444)), (5, .int (nI v5_89_2444)), (0, .ref m), (1, .int (nI j25841)), (2, .int (nI j25845)), (3, .int (nI j25849)), (4, .int (nI j25853))] 0 0 139 [.int (hearI mc19 mc23 j25841 (pm t25924)), .int (hearI mc19 mc23 j25841 (pm t25918))]
                        refine j_icmp_ne h 146 dX12_alike_139 (by decide) (fun z25930 => ?_) (fun z25930 => ?_)
                        · show J x (mflat [(m31, .inl (.inl (kA 1, 10, .inl mc31))), (m32, .inl (.inl (kA 1, 450, .inl mc32))), (m33, .inl (.inl (kA 1, 20, .inl mc33))), (m, .inl (.inr (12, (.ref m0 :: .int (nI mtp) :: .int (nI mfa) :: .int mfp :: .int (nI mat) :: .int (nI msz) :: .int (nI mso) :: .int mpl :: .int mnu :: .long mwd :: .ref m10 :: .ref m11 :: .ref m12 :: .ref m13 :: .ref m14 :: .ref m15 :: .ref m16 :: .ref m17 :: .ref m18 :: .ref m19 :: .ref m20 :: .ref m21 :: .ref m22 :: .ref m23 :: .ref m24 :: .int (nI mns) :: .int (nI mnl) :: .int (nI mne) :: .int (nI mst) :: .int (nI mlt) :: .int (nI mer) :: .ref m31 :: .ref m32 :: .ref m33 :: .ref m34 :: .ref m35 :: .int (nI mwm) :: .int (nI mwt) :: .int (nI mwf) :: .ref m39 :: .ref m40 :: .ref m41 :: .int (nI mla) :: .ref m43 :: .ref m44 :: .ref m45 :: .ref m46 :: .ref m47 :: .ref m48 :: .int (nI mtm) :: .ref m50 :: .ref m51 :: .ref m52 :: .ref m53 :: .ref m54 :: .ref m55 :: .ref m56 :: .ref m57 :: .ref m58 :: .ref m59 :: .ref m60 :: .ref m61 :: .int (nI msn) :: .int (nI mti) :: .ref m64 :: .ref m65 :: .ref m66 :: .ref m67 :: .ref m68 :: .ref m69 :: [])))), (m19, .inl (.inl (kA 1, 6, .inl mc19))), (m23, .inl (.inl (kA 1, 4, .inl mc23)))]) [(6, .int (nI v6_89_2444)), (5, .int (nI v5_89_2444)), (0, .ref m), (1, .int (nI j25841)), (2, .int (nI j25845)), (3, .int (nI j25849)), (4, .int (nI j25853))] 0 0 146 []
                          refine j_iconst (v := 0) h (by decide) dX12_alike_146 ?_
                          refine j_istore (lv' := [(5, .int 0), (6, .int (nI v6_89_2444)), (0, .ref m), (1, .int (nI j25841)), (2, .int (nI j25845)), (3, .int (nI j25849)), (4, .int (nI j25853))]) h dX12_alike_147 (by decide) rfl ?_
                          refine j_iinc (v := nI (v6_89_2444 + 1)) (lv' := [(6, .int (nI (v6_89_2444 + 1))), (5, .int 0), (0, .ref m), (1, .int (nI j25841)), (2, .int (nI j25845)), (3, .int (nI j25849)), (4, .int (nI j25853))]) h dX12_alike_149 1 rfl (nI_add v6_89_2444 1) (by decide) rfl ?_
                          refine j_goto h 89 dX12_alike_152 (by decide) ?_
                          refine jm_sub [4, 5, 0, 1, 2, 3] (w' := [(m19, .inl (.inl (kA 1, 6, .inl mc19))), (m23, .inl (.inl (kA 1, 4, .inl mc23))), (m31, .inl (.inl (kA 1, 10, .inl mc31))), (m32, .inl (.inl (kA 1, 450, .inl mc32))), (m33, .inl (.inl (kA 1, 20, .inl mc33))), (m, .inl (.inr (12, (.ref m0 :: .int (nI mtp) :: .int (nI mfa) :: .int mfp :: .int (nI mat) :: .int (nI msz) :: .int (nI mso) :: .int mpl :: .int mnu :: .long mwd :: .ref m10 :: .ref m11 :: .ref m12 :: .ref m13 :: .ref m14 :: .ref m15 :: .ref m16 :: .ref m17 :: .ref m18 :: .ref m19 :: .ref m20 :: .ref m21 :: .ref m22 :: .ref m23 :: .ref m24 :: .int (nI mns) :: .int (nI mnl) :: .int (nI mne) :: .int (nI mst) :: .int (nI mlt) :: .int (nI mer) :: .ref m31 :: .ref m32 :: .ref m33 :: .ref m34 :: .ref m35 :: .int (nI mwm) :: .int (nI mwt) :: .int (nI mwf) :: .ref m39 :: .ref m40 :: .ref m41 :: .int (nI mla) :: .ref m43 :: .ref m44 :: .ref m45 :: .ref m46 :: .ref m47 :: .ref m48 :: .int (nI mtm) :: .ref m50 :: .ref m51 :: .ref m52 :: .ref m53 :: .ref m54 :: .ref m55 :: .ref m56 :: .ref m57 :: .ref m58 :: .ref m59 :: .ref m60 :: .ref m61 :: .int (nI msn) :: .int (nI mti) :: .ref m64 :: .ref m65 :: .ref m66 :: .ref m67 :: .ref m68 :: .ref m69 :: []))))]) rfl (by decide +kernel) [0, 1, 2, 3, 4, 5, 6] (lv' := [(6, .int (nI (v6_89_2444 + 1))), (5, .int 0), (0, .ref m), (1, .int (nI j25841)), (2, .int (nI j25845)), (3, .int (nI j25849)), (4, .int (nI j25853))]) rfl ?_
                          exact ih89_2444 (v6_89_2444 + 1) 0 (show 0 ≤ 1 by first | assumption | omega) (show (v6_89_2444 + 1) ≤ 100000 by first | assumption | omega) (show 0 ≤ 100000 by first | assumption | omega) (show 100001 - (v6_89_2444 + 1) < m89_2444 by first | exact Nat.lt_of_lt_of_le (Nat.sub_lt_sub_left (Nat.lt_of_le_of_lt (show v6_89_2444 ≤ 100000 by assumption) (Nat.lt_succ_self 100000)) (Nat.lt_succ_self v6_89_2444)) (Nat.le_of_lt_succ hm89_2444) | omega)
                        · show J x (mflat [(m31, .inl (.inl (kA 1, 10, .inl mc31))), (m32, .inl (.inl (kA 1, 450, .inl mc32))), (m33, .inl (.inl (kA 1, 20, .inl mc33))), (m, .inl (.inr (12, (.ref m0 :: .int (nI mtp) :: .int (nI mfa) :: .int mfp :: .int (nI mat) :: .int (nI msz) :: .int (nI mso) :: .int mpl :: .int mnu :: .long mwd :: .ref m10 :: .ref m11 :: .ref m12 :: .ref m13 :: .ref m14 :: .ref m15 :: .ref m16 :: .ref m17 :: .ref m18 :: .ref m19 :: .ref m20 :: .ref m21 :: .ref m22 :: .ref m23 :: .ref m24 :: .int (nI mns) :: .int (nI mnl) :: .int (nI mne) :: .int (nI mst) :: .int (nI mlt) :: .int (nI mer) :: .ref m31 :: .ref m32 :: .ref m33 :: .ref m34 :: .ref m35 :: .int (nI mwm) :: .int (nI mwt) :: .int (nI mwf) :: .ref m39 :: .ref m40 :: .ref m41 :: .int (nI mla) :: .ref m43 :: .ref m44 :: .ref m45 :: .ref m46 :: .ref m47 :: .ref m48 :: .int (nI mtm) :: .ref m50 :: .ref m51 :: .ref m52 :: .ref m53 :: .ref m54 :: .ref m55 :: .ref m56 :: .ref m57 :: .ref m58 :: .ref m59 :: .ref m60 :: .ref m61 :: .int (nI msn) :: .int (nI mti) :: .ref m64 :: .ref m65 :: .ref m66 :: .ref m67 :: .ref m68 :: .ref m69 :: [])))), (m19, .inl (.inl (kA 1, 6, .inl mc19))), (m23, .inl (.inl (kA 1, 4, .inl mc23)))]) [(6, .int (nI v6_89_2444)), (5, .int (nI v5_89_2444)), (0, .ref m), (1, .int (nI j25841)), (2, .int (nI j25845)), (3, .int (nI j25849)), (4, .int (nI j25853))] 0 0 142 []
                          refine j_iconst (v := 1) h (by decide) dX12_alike_142 ?_
                          refine j_goto h 147 dX12_alike_143 (by decide) ?_
                          refine j_istore (lv' := [(5, .int 1), (6, .int (nI v6_89_2444)), (0, .ref m), (1, .int (nI j25841)), (2, .int (nI j25845)), (3, .int (nI j25849)), (4, .int (nI j25853))]) h dX12_alike_147 (by decide) rfl ?_
                          refine j_iinc (v := nI (v6_89_2444 + 1)) (lv' := [(6, .int (nI (v6_89_2444 + 1))), (5, .int 1), (0, .ref m), (1, .int (nI j25841)), (2, .int (nI j25845)), (3, .int (nI j25849)), (4, .int (nI j25853))]) h dX12_alike_149 1 rfl (nI_add v6_89_2444 1) (by decide) rfl ?_
                          refine j_goto h 89 dX12_alike_152 (by decide) ?_
                          refine jm_sub [4, 5, 0, 1, 2, 3] (w' := [(m19, .inl (.inl (kA 1, 6, .inl mc19))), (m23, .inl (.inl (kA 1, 4, .inl mc23))), (m31, .inl (.inl (kA 1, 10, .inl mc31))), (m32, .inl (.inl (kA 1, 450, .inl mc32))), (m33, .inl (.inl (kA 1, 20, .inl mc33))), (m, .inl (.inr (12, (.ref m0 :: .int (nI mtp) :: .int (nI mfa) :: .int mfp :: .int (nI mat) :: .int (nI msz) :: .int (nI mso) :: .int mpl :: .int mnu :: .long mwd :: .ref m10 :: .ref m11 :: .ref m12 :: .ref m13 :: .ref m14 :: .ref m15 :: .ref m16 :: .ref m17 :: .ref m18 :: .ref m19 :: .ref m20 :: .ref m21 :: .ref m22 :: .ref m23 :: .ref m24 :: .int (nI mns) :: .int (nI mnl) :: .int (nI mne) :: .int (nI mst) :: .int (nI mlt) :: .int (nI mer) :: .ref m31 :: .ref m32 :: .ref m33 :: .ref m34 :: .ref m35 :: .int (nI mwm) :: .int (nI mwt) :: .int (nI mwf) :: .ref m39 :: .ref m40 :: .ref m41 :: .int (nI mla) :: .ref m43 :: .ref m44 :: .ref m45 :: .ref m46 :: .ref m47 :: .ref m48 :: .int (nI mtm) :: .ref m50 :: .ref m51 :: .ref m52 :: .ref m53 :: .ref m54 :: .ref m55 :: .ref m56 :: .ref m57 :: .ref m58 :: .ref m59 :: .ref m60 :: .ref m61 :: .int (nI msn) :: .int (nI mti) :: .ref m64 :: .ref m65 :: .ref m66 :: .ref m67 :: .ref m68 :: .ref m69 :: []))))]) rfl (by decide +kernel) [0, 1, 2, 3, 4, 5, 6] (lv' := [(6, .int (nI (v6_89_2444 + 1))), (5, .int 1), (0, .ref m), (1, .int (nI j25841)), (2, .int (nI j25845)), (3, .int (nI j25849)), (4, .int (nI j25853))]) rfl ?_
                          exact ih89_2444 (v6_89_2444 + 1) 1 (show 1 ≤ 1 by first | assumption | omega) (show (v6_89_2444 + 1) ≤ 100000 by first | assumption | omega) (show 1 ≤ 100000 by first | assumption | omega) (show 100001 - (v6_89_2444 + 1) < m89_2444 by first | exact Nat.lt_of_lt_of_le (Nat.sub_lt_sub_left (Nat.lt_of_le_of_lt (show v6_89_2444 ≤ 100000 by assumption) (Nat.lt_succ_self 100000)) (Nat.lt_succ_self v6_89_2444)) (Nat.le_of_lt_succ hm89_2444) | omega)
                refine jm_sub [0, 1, 2, 3, 4, 5] (w' := [(m19, .inl (.inl (kA 1, 6, .inl mc19))), (m23, .inl (.inl (kA 1, 4, .inl mc23))), (m31, .inl (.inl (kA 1, 10, .inl mc31))), (m32, .inl (.inl (kA 1, 450, .inl mc32))), (m33, .inl (.inl (kA 1, 20, .inl mc33))), (m, .inl (.inr (12, (.ref m0 :: .int (nI mtp) :: .int (nI mfa) :: .int mfp :: .int (nI mat) :: .int (nI msz) :: .int (nI mso) :: .int mpl :: .int mnu :: .long mwd :: .ref m10 :: .ref m11 :: .ref m12 :: .ref m13 :: .ref m14 :: .ref m15 :: .ref m16 :: .ref m17 :: .ref m18 :: .ref m19 :: .ref m20 :: .ref m21 :: .ref m22 :: .ref m23 :: .ref m24 :: .int (nI mns) :: .int (nI mnl) :: .int (nI mne) :: .int (nI mst) :: .int (nI mlt) :: .int (nI mer) :: .ref m31 :: .ref m32 :: .ref m33 :: .ref m34 :: .ref m35 :: .int (nI mwm) :: .int (nI mwt) :: .int (nI mwf) :: .ref m39 :: .ref m40 :: .ref m41 :: .int (nI mla) :: .ref m43 :: .ref m44 :: .ref m45 :: .ref m46 :: .ref m47 :: .ref m48 :: .int (nI mtm) :: .ref m50 :: .ref m51 :: .ref m52 :: .ref m53 :: .ref m54 :: .ref m55 :: .ref m56 :: .ref m57 :: .ref m58 :: .ref m59 :: .ref m60 :: .ref m61 :: .int (nI msn) :: .int (nI mti) :: .ref m64 :: .ref m65 :: .ref m66 :: .ref m67 :: .ref m68 :: .ref m69 :: []))))]) rfl (by decide +kernel) [0, 1, 2, 3, 4, 5, 6] (lv' := [(6, .int 0), (5, .int 1), (0, .ref m), (1, .int (nI j25841)), (2, .int (nI j25845)), (3, .int (nI j25849)), (4, .int (nI j25853))]) rfl ?_
                exact lp89_2444 (100001 - 0 + 1) 0 1 (show 1 ≤ 1 by first | assumption | omega) (show 0 ≤ 100000 by first | assumption | omega) (show 1 ≤ 100000 by first | assumption | omega) (Nat.lt_succ_self _)
set_option maxHeartbeats 4000000 in
set_option maxRecDepth 100000 in
theorem s_X12_stuck (lau : Launch) (gg : va_G) (kA : Nat → ClassId) (m : Nat) (er : Int32) (m0 : Nat) (mtp : Nat) (mfa : Nat) (mfp : Int32) (mat : Nat) (msz : Nat) (mso : Nat) (mpl : Int32) (mnu : Int32) (mwd : Int64) (m10 : Nat) (m11 : Nat) (m12 : Nat) (m13 : Nat) (m14 : Nat) (m15 : Nat) (m16 : Nat) (m17 : Nat) (m18 : Nat) (m19 : Nat) (m20 : Nat) (m21 : Nat) (m22 : Nat) (m23 : Nat) (m24 : Nat) (mns : Nat) (mnl : Nat) (mne : Nat) (mst : Nat) (mlt : Nat) (mer : Nat) (m31 : Nat) (m32 : Nat) (m33 : Nat) (m34 : Nat) (m35 : Nat) (mwm : Nat) (mwt : Nat) (mwf : Nat) (m39 : Nat) (m40 : Nat) (m41 : Nat) (mla : Nat) (m43 : Nat) (m44 : Nat) (m45 : Nat) (m46 : Nat) (m47 : Nat) (m48 : Nat) (mtm : Nat) (m50 : Nat) (m51 : Nat) (m52 : Nat) (m53 : Nat) (m54 : Nat) (m55 : Nat) (m56 : Nat) (m57 : Nat) (m58 : Nat) (m59 : Nat) (m60 : Nat) (m61 : Nat) (msn : Nat) (mti : Nat) (m64 : Nat) (m65 : Nat) (m66 : Nat) (m67 : Nat) (m68 : Nat) (m69 : Nat) (mc19 : Nat → Int32) (mc23 : Nat → Int32) (mc24 : Nat → Int32) (mc31 : Nat → Int32) (mc32 : Nat → Int32) (mc33 : Nat → Int32) (mc34 : Nat → Int32) (mc39 : Nat → Int32) (mc43 : Nat → Int32) (hmfa : mfa ≤ 5) (hmso : mso ≤ 100) (hmst : mst ≤ 6) (hmlt : mlt ≤ 10) (hmer : mer ≤ 4) (hmls : LtOk mlt mc31) (hmbg : WkOk 450 mc32) (hmfb : FbOk (2 * mlt) mc33) (hmwa : WkOk 60 mc34) (hmwm : mwm ≤ mwt) (hmwt : mwt ≤ 60) (hmwf : mwf ≤ 1) (hmsn : msn ≤ 30) (hmla : mla ≤ 60) (hmtp : mtp ≤ 1600) (hmti : mti ≤ 100000) (hmtm : mtm ≤ 60) : CtI lau yX12_stuck cX12_stuck 8 (some .int) 3 0 0 gg kA [.ref m, .int er] (mflat [(m, .inl (.inr (12, (.ref m0 :: .int (nI mtp) :: .int (nI mfa) :: .int mfp :: .int (nI mat) :: .int (nI msz) :: .int (nI mso) :: .int mpl :: .int mnu :: .long mwd :: .ref m10 :: .ref m11 :: .ref m12 :: .ref m13 :: .ref m14 :: .ref m15 :: .ref m16 :: .ref m17 :: .ref m18 :: .ref m19 :: .ref m20 :: .ref m21 :: .ref m22 :: .ref m23 :: .ref m24 :: .int (nI mns) :: .int (nI mnl) :: .int (nI mne) :: .int (nI mst) :: .int (nI mlt) :: .int (nI mer) :: .ref m31 :: .ref m32 :: .ref m33 :: .ref m34 :: .ref m35 :: .int (nI mwm) :: .int (nI mwt) :: .int (nI mwf) :: .ref m39 :: .ref m40 :: .ref m41 :: .int (nI mla) :: .ref m43 :: .ref m44 :: .ref m45 :: .ref m46 :: .ref m47 :: .ref m48 :: .int (nI mtm) :: .ref m50 :: .ref m51 :: .ref m52 :: .ref m53 :: .ref m54 :: .ref m55 :: .ref m56 :: .ref m57 :: .ref m58 :: .ref m59 :: .ref m60 :: .ref m61 :: .int (nI msn) :: .int (nI mti) :: .ref m64 :: .ref m65 :: .ref m66 :: .ref m67 :: .ref m68 :: .ref m69 :: [])))), (m19, .inl (.inl (kA 1, 6, .inl mc19))), (m23, .inl (.inl (kA 1, 4, .inl mc23))), (m24, .inl (.inl (kA 1, 4, .inl mc24))), (m31, .inl (.inl (kA 1, 10, .inl mc31))), (m32, .inl (.inl (kA 1, 450, .inl mc32))), (m33, .inl (.inl (kA 1, 20, .inl mc33))), (m34, .inl (.inl (kA 1, 60, .inl mc34))), (m39, .inl (.inl (kA 1, 60, .inl mc39))), (m43, .inl (.inl (kA 3, 122, .inl mc43)))]) (S := (Nat → Int32) × (Nat → Int32)) (fun (r : Int32) ((y_m39, y_m43) : (Nat → Int32) × (Nat → Int32)) => True) (fun ((y_m39, y_m43) : (Nat → Int32) × (Nat → Int32)) => mflat [(m, .inl (.inr (12, (.ref m0 :: .int (nI mtp) :: .int (nI mfa) :: .int mfp :: .int (nI mat) :: .int (nI msz) :: .int (nI mso) :: .int mpl :: .int mnu :: .long mwd :: .ref m10 :: .ref m11 :: .ref m12 :: .ref m13 :: .ref m14 :: .ref m15 :: .ref m16 :: .ref m17 :: .ref m18 :: .ref m19 :: .ref m20 :: .ref m21 :: .ref m22 :: .ref m23 :: .ref m24 :: .int (nI mns) :: .int (nI mnl) :: .int (nI mne) :: .int (nI mst) :: .int (nI mlt) :: .int (nI mer) :: .ref m31 :: .ref m32 :: .ref m33 :: .ref m34 :: .ref m35 :: .int (nI mwm) :: .int (nI mwt) :: .int (nI mwf) :: .ref m39 :: .ref m40 :: .ref m41 :: .int (nI mla) :: .ref m43 :: .ref m44 :: .ref m45 :: .ref m46 :: .ref m47 :: .ref m48 :: .int (nI mtm) :: .ref m50 :: .ref m51 :: .ref m52 :: .ref m53 :: .ref m54 :: .ref m55 :: .ref m56 :: .ref m57 :: .ref m58 :: .ref m59 :: .ref m60 :: .ref m61 :: .int (nI msn) :: .int (nI mti) :: .ref m64 :: .ref m65 :: .ref m66 :: .ref m67 :: .ref m68 :: .ref m69 :: [])))), (m19, .inl (.inl (kA 1, 6, .inl mc19))), (m23, .inl (.inl (kA 1, 4, .inl mc23))), (m24, .inl (.inl (kA 1, 4, .inl mc24))), (m31, .inl (.inl (kA 1, 10, .inl mc31))), (m32, .inl (.inl (kA 1, 450, .inl mc32))), (m33, .inl (.inl (kA 1, 20, .inl mc33))), (m34, .inl (.inl (kA 1, 60, .inl mc34))), (m39, .inl (.inl (kA 1, 60, .inl y_m39))), (m43, .inl (.inl (kA 3, 122, .inl y_m43)))]) := by
  refine nx_startI (by decide +kernel) (Nat.le_of_ble_eq_true rfl) ?_
  intro x hnm h hq
  have h : Ok x cX12_stuck RX12 kA (rmC 3 0 0) 8 := h
  show J x (mflat [(m, .inl (.inr (12, (.ref m0 :: .int (nI mtp) :: .int (nI mfa) :: .int mfp :: .int (nI mat) :: .int (nI msz) :: .int (nI mso) :: .int mpl :: .int mnu :: .long mwd :: .ref m10 :: .ref m11 :: .ref m12 :: .ref m13 :: .ref m14 :: .ref m15 :: .ref m16 :: .ref m17 :: .ref m18 :: .ref m19 :: .ref m20 :: .ref m21 :: .ref m22 :: .ref m23 :: .ref m24 :: .int (nI mns) :: .int (nI mnl) :: .int (nI mne) :: .int (nI mst) :: .int (nI mlt) :: .int (nI mer) :: .ref m31 :: .ref m32 :: .ref m33 :: .ref m34 :: .ref m35 :: .int (nI mwm) :: .int (nI mwt) :: .int (nI mwf) :: .ref m39 :: .ref m40 :: .ref m41 :: .int (nI mla) :: .ref m43 :: .ref m44 :: .ref m45 :: .ref m46 :: .ref m47 :: .ref m48 :: .int (nI mtm) :: .ref m50 :: .ref m51 :: .ref m52 :: .ref m53 :: .ref m54 :: .ref m55 :: .ref m56 :: .ref m57 :: .ref m58 :: .ref m59 :: .ref m60 :: .ref m61 :: .int (nI msn) :: .int (nI mti) :: .ref m64 :: .ref m65 :: .ref m66 :: .ref m67 :: .ref m68 :: .ref m69 :: [])))), (m19, .inl (.inl (kA 1, 6, .inl mc19))), (m23, .inl (.inl (kA 1, 4, .inl mc23))), (m24, .inl (.inl (kA 1, 4, .inl mc24))), (m31, .inl (.inl (kA 1, 10, .inl mc31))), (m32, .inl (.inl (kA 1, 450, .inl mc32))), (m33, .inl (.inl (kA 1, 20, .inl mc33))), (m34, .inl (.inl (kA 1, 60, .inl mc34))), (m39, .inl (.inl (kA 1, 60, .inl mc39))), (m43, .inl (.inl (kA 3, 122, .inl mc43)))]) [(0, .ref m), (1, .int er)] 0 0 0 []
  refine j_aload_n h 0 rfl rfl dX12_stuck_0 ?_
  refine j_iload_n h 1 rfl rfl dX12_stuck_1 ?_
  refine jm_callVi (np := 1) (isC := [0]) (isR := [1, 2, 3, 4, 5, 6, 7, 8, 9]) (wc := [(m, .inl (.inr (12, (.ref m0 :: .int (nI mtp) :: .int (nI mfa) :: .int mfp :: .int (nI mat) :: .int (nI msz) :: .int (nI mso) :: .int mpl :: .int mnu :: .long mwd :: .ref m10 :: .ref m11 :: .ref m12 :: .ref m13 :: .ref m14 :: .ref m15 :: .ref m16 :: .ref m17 :: .ref m18 :: .ref m19 :: .ref m20 :: .ref m21 :: .ref m22 :: .ref m23 :: .ref m24 :: .int (nI mns) :: .int (nI mnl) :: .int (nI mne) :: .int (nI mst) :: .int (nI mlt) :: .int (nI mer) :: .ref m31 :: .ref m32 :: .ref m33 :: .ref m34 :: .ref m35 :: .int (nI mwm) :: .int (nI mwt) :: .int (nI mwf) :: .ref m39 :: .ref m40 :: .ref m41 :: .int (nI mla) :: .ref m43 :: .ref m44 :: .ref m45 :: .ref m46 :: .ref m47 :: .ref m48 :: .int (nI mtm) :: .ref m50 :: .ref m51 :: .ref m52 :: .ref m53 :: .ref m54 :: .ref m55 :: .ref m56 :: .ref m57 :: .ref m58 :: .ref m59 :: .ref m60 :: .ref m61 :: .int (nI msn) :: .int (nI mti) :: .ref m64 :: .ref m65 :: .ref m66 :: .ref m67 :: .ref m68 :: .ref m69 :: []))))]) (wr := [(m19, .inl (.inl (kA 1, 6, .inl mc19))), (m23, .inl (.inl (kA 1, 4, .inl mc23))), (m24, .inl (.inl (kA 1, 4, .inl mc24))), (m31, .inl (.inl (kA 1, 10, .inl mc31))), (m32, .inl (.inl (kA 1, 450, .inl mc32))), (m33, .inl (.inl (kA 1, 20, .inl mc33))), (m34, .inl (.inl (kA 1, 60, .inl mc34))), (m39, .inl (.inl (kA 1, 60, .inl mc39))), (m43, .inl (.inl (kA 3, 122, .inl mc43)))]) (rest := []) (As := [.int er]) (q0 := 0) h (s_X12_isEar _ _ kA m er m0 mtp mfa mfp mat msz mso mpl mnu mwd m10 m11 m12 m13 m14 m15 m16 m17 m18 m19 m20 m21 m22 m23 m24 mns mnl mne mst mlt mer m31 m32 m33 m34 m35 mwm mwt mwf m39 m40 m41 mla m43 m44 m45 m46 m47 m48 mtm m50 m51 m52 m53 m54 m55 m56 m57 m58 m59 m60 m61 msn mti m64 m65 m66 m67 m68 m69 (show mst ≤ 6 by first | assumption | omega) (show mlt ≤ 10 by first | assumption | omega) (show mer ≤ 4 by first | assumption | omega)) tw_1506 tw_1508 tw_60 tw_99 tw_1509 (by decide +kernel) rfl ⟨Nat.le_of_ble_eq_true rfl, Nat.le_of_ble_eq_true rfl⟩ rfl rfl (by decide +kernel) rfl rfl (by decide +kernel) (by decide +kernel) (Nat.le_of_ble_eq_true rfl) rfl ⟨Nat.le_of_ble_eq_true rfl, Nat.le_of_ble_eq_true rfl⟩ dX12_stuck_2 ?_
  rintro r27239 _ e27238
  have p27240 := e27238
  subst p27240
  show J x (mflat [(m19, .inl (.inl (kA 1, 6, .inl mc19))), (m23, .inl (.inl (kA 1, 4, .inl mc23))), (m24, .inl (.inl (kA 1, 4, .inl mc24))), (m31, .inl (.inl (kA 1, 10, .inl mc31))), (m32, .inl (.inl (kA 1, 450, .inl mc32))), (m33, .inl (.inl (kA 1, 20, .inl mc33))), (m34, .inl (.inl (kA 1, 60, .inl mc34))), (m39, .inl (.inl (kA 1, 60, .inl mc39))), (m43, .inl (.inl (kA 3, 122, .inl mc43))), (m, .inl (.inr (12, (.ref m0 :: .int (nI mtp) :: .int (nI mfa) :: .int mfp :: .int (nI mat) :: .int (nI msz) :: .int (nI mso) :: .int mpl :: .int mnu :: .long mwd :: .ref m10 :: .ref m11 :: .ref m12 :: .ref m13 :: .ref m14 :: .ref m15 :: .ref m16 :: .ref m17 :: .ref m18 :: .ref m19 :: .ref m20 :: .ref m21 :: .ref m22 :: .ref m23 :: .ref m24 :: .int (nI mns) :: .int (nI mnl) :: .int (nI mne) :: .int (nI mst) :: .int (nI mlt) :: .int (nI mer) :: .ref m31 :: .ref m32 :: .ref m33 :: .ref m34 :: .ref m35 :: .int (nI mwm) :: .int (nI mwt) :: .int (nI mwf) :: .ref m39 :: .ref m40 :: .ref m41 :: .int (nI mla) :: .ref m43 :: .ref m44 :: .ref m45 :: .ref m46 :: .ref m47 :: .ref m48 :: .int (nI mtm) :: .ref m50 :: .ref m51 :: .ref m52 :: .ref m53 :: .ref m54 :: .ref m55 :: .ref m56 :: .ref m57 :: .ref m58 :: .ref m59 :: .ref m60 :: .ref m61 :: .int (nI msn) :: .int (nI mti) :: .ref m64 :: .ref m65 :: .ref m66 :: .ref m67 :: .ref m68 :: .ref m69 :: []))))]) [(0, .ref m), (1, .int er)] 0 0 5 [.int (bIx er (nI mer))]
  rcases bIx_cases er mer (by omega) with hTj27241 | ⟨j27241, hj27241, rfl, hBj27241⟩
  · refine j_top (b := 0) hTj27241 ?_
    show J x (mflat [(m19, .inl (.inl (kA 1, 6, .inl mc19))), (m23, .inl (.inl (kA 1, 4, .inl mc23))), (m24, .inl (.inl (kA 1, 4, .inl mc24))), (m31, .inl (.inl (kA 1, 10, .inl mc31))), (m32, .inl (.inl (kA 1, 450, .inl mc32))), (m33, .inl (.inl (kA 1, 20, .inl mc33))), (m34, .inl (.inl (kA 1, 60, .inl mc34))), (m39, .inl (.inl (kA 1, 60, .inl mc39))), (m43, .inl (.inl (kA 3, 122, .inl mc43))), (m, .inl (.inr (12, (.ref m0 :: .int (nI mtp) :: .int (nI mfa) :: .int mfp :: .int (nI mat) :: .int (nI msz) :: .int (nI mso) :: .int mpl :: .int mnu :: .long mwd :: .ref m10 :: .ref m11 :: .ref m12 :: .ref m13 :: .ref m14 :: .ref m15 :: .ref m16 :: .ref m17 :: .ref m18 :: .ref m19 :: .ref m20 :: .ref m21 :: .ref m22 :: .ref m23 :: .ref m24 :: .int (nI mns) :: .int (nI mnl) :: .int (nI mne) :: .int (nI mst) :: .int (nI mlt) :: .int (nI mer) :: .ref m31 :: .ref m32 :: .ref m33 :: .ref m34 :: .ref m35 :: .int (nI mwm) :: .int (nI mwt) :: .int (nI mwf) :: .ref m39 :: .ref m40 :: .ref m41 :: .int (nI mla) :: .ref m43 :: .ref m44 :: .ref m45 :: .ref m46 :: .ref m47 :: .ref m48 :: .int (nI mtm) :: .ref m50 :: .ref m51 :: .ref m52 :: .ref m53 :: .ref m54 :: .ref m55 :: .ref m56 :: .ref m57 :: .ref m58 :: .ref m59 :: .ref m60 :: .ref m61 :: .int (nI msn) :: .int (nI mti) :: .ref m64 :: .ref m65 :: .ref m66 :: .ref m67 :: .ref m68 :: .ref m69 :: []))))]) [(0, .ref m), (1, .int er)] 0 0 5 [.int 0]
    refine j_if_ne h 11 dX12_stuck_5 (by decide) (fun q => absurd (by decide) q) (fun _ => ?_)
    refine j_bipush (v := (-2)) h (by decide) dX12_stuck_8 ?_
    exact jm_iret h hq dX12_stuck_10 (mc39, mc43) [9, 0, 1, 2, 3, 4, 5, 6, 7, 8] rfl (by decide) trivial (Nat.le_of_ble_eq_true rfl) (Nat.le_of_ble_eq_true rfl)
  · refine j_top (b := 1) hBj27241 ?_
    show J x (mflat [(m19, .inl (.inl (kA 1, 6, .inl mc19))), (m23, .inl (.inl (kA 1, 4, .inl mc23))), (m24, .inl (.inl (kA 1, 4, .inl mc24))), (m31, .inl (.inl (kA 1, 10, .inl mc31))), (m32, .inl (.inl (kA 1, 450, .inl mc32))), (m33, .inl (.inl (kA 1, 20, .inl mc33))), (m34, .inl (.inl (kA 1, 60, .inl mc34))), (m39, .inl (.inl (kA 1, 60, .inl mc39))), (m43, .inl (.inl (kA 3, 122, .inl mc43))), (m, .inl (.inr (12, (.ref m0 :: .int (nI mtp) :: .int (nI mfa) :: .int mfp :: .int (nI mat) :: .int (nI msz) :: .int (nI mso) :: .int mpl :: .int mnu :: .long mwd :: .ref m10 :: .ref m11 :: .ref m12 :: .ref m13 :: .ref m14 :: .ref m15 :: .ref m16 :: .ref m17 :: .ref m18 :: .ref m19 :: .ref m20 :: .ref m21 :: .ref m22 :: .ref m23 :: .ref m24 :: .int (nI mns) :: .int (nI mnl) :: .int (nI mne) :: .int (nI mst) :: .int (nI mlt) :: .int (nI mer) :: .ref m31 :: .ref m32 :: .ref m33 :: .ref m34 :: .ref m35 :: .int (nI mwm) :: .int (nI mwt) :: .int (nI mwf) :: .ref m39 :: .ref m40 :: .ref m41 :: .int (nI mla) :: .ref m43 :: .ref m44 :: .ref m45 :: .ref m46 :: .ref m47 :: .ref m48 :: .int (nI mtm) :: .ref m50 :: .ref m51 :: .ref m52 :: .ref m53 :: .ref m54 :: .ref m55 :: .ref m56 :: .ref m57 :: .ref m58 :: .ref m59 :: .ref m60 :: .ref m61 :: .int (nI msn) :: .int (nI mti) :: .ref m64 :: .ref m65 :: .ref m66 :: .ref m67 :: .ref m68 :: .ref m69 :: []))))]) [(0, .ref m), (1, .int (nI j27241))] 0 0 5 [.int 1]
    refine j_if_ne h 11 dX12_stuck_5 (by decide) (fun _ => ?_) (fun q => absurd q (by decide))
    refine j_aload_n h 0 rfl rfl dX12_stuck_11 ?_
    refine j_iload_n h 1 rfl rfl dX12_stuck_12 ?_
    refine j_aload_n h 0 rfl rfl dX12_stuck_13 ?_
    refine jm_get h iw_X12 9 rfl rfl 37 (by decide +kernel) tw_1193 rfl dX12_stuck_14 ?_
    refine jm_callVv (np := 2) (isC := [9, 0, 1, 6, 7]) (isR := [2, 3, 4, 5, 8]) (wc := [(m, .inl (.inr (12, (.ref m0 :: .int (nI mtp) :: .int (nI mfa) :: .int mfp :: .int (nI mat) :: .int (nI msz) :: .int (nI mso) :: .int mpl :: .int mnu :: .long mwd :: .ref m10 :: .ref m11 :: .ref m12 :: .ref m13 :: .ref m14 :: .ref m15 :: .ref m16 :: .ref m17 :: .ref m18 :: .ref m19 :: .ref m20 :: .ref m21 :: .ref m22 :: .ref m23 :: .ref m24 :: .int (nI mns) :: .int (nI mnl) :: .int (nI mne) :: .int (nI mst) :: .int (nI mlt) :: .int (nI mer) :: .ref m31 :: .ref m32 :: .ref m33 :: .ref m34 :: .ref m35 :: .int (nI mwm) :: .int (nI mwt) :: .int (nI mwf) :: .ref m39 :: .ref m40 :: .ref m41 :: .int (nI mla) :: .ref m43 :: .ref m44 :: .ref m45 :: .ref m46 :: .ref m47 :: .ref m48 :: .int (nI mtm) :: .ref m50 :: .ref m51 :: .ref m52 :: .ref m53 :: .ref m54 :: .ref m55 :: .ref m56 :: .ref m57 :: .ref m58 :: .ref m59 :: .ref m60 :: .ref m61 :: .int (nI msn) :: .int (nI mti) :: .ref m64 :: .ref m65 :: .ref m66 :: .ref m67 :: .ref m68 :: .ref m69 :: [])))), (m19, .inl (.inl (kA 1, 6, .inl mc19))), (m23, .inl (.inl (kA 1, 4, .inl mc23))), (m34, .inl (.inl (kA 1, 60, .inl mc34))), (m39, .inl (.inl (kA 1, 60, .inl mc39)))]) (wr := [(m24, .inl (.inl (kA 1, 4, .inl mc24))), (m31, .inl (.inl (kA 1, 10, .inl mc31))), (m32, .inl (.inl (kA 1, 450, .inl mc32))), (m33, .inl (.inl (kA 1, 20, .inl mc33))), (m43, .inl (.inl (kA 3, 122, .inl mc43)))]) (rest := []) (As := [.int (nI j27241), .int (nI mwt)]) (q0 := 0) h (s_X12_layTarget _ _ kA m j27241 mwt m0 mtp mfa mfp mat msz mso mpl mnu mwd m10 m11 m12 m13 m14 m15 m16 m17 m18 m19 m20 m21 m22 m23 m24 mns mnl mne mst mlt mer m31 m32 m33 m34 m35 mwm mwt mwf m39 m40 m41 mla m43 m44 m45 m46 m47 m48 mtm m50 m51 m52 m53 m54 m55 m56 m57 m58 m59 m60 m61 msn mti m64 m65 m66 m67 m68 m69 mc19 mc23 mc34 mc39 (show WkOk 60 mc34 by first | assumption | (intro h9; exact absurd h9 (by omega)) | (intro _; assumption) | omega) (show j27241 < 4 by first | assumption | omega) (show mwt ≤ 60 by first | assumption | omega)) tw_1519 tw_1521 tw_62 tw_99 tw_1522 (by decide +kernel) rfl ⟨Nat.le_of_ble_eq_true rfl, Nat.le_of_ble_eq_true rfl⟩ rfl rfl (by decide +kernel) rfl rfl (by decide +kernel) (by decide +kernel) (Nat.le_of_ble_eq_true rfl) rfl ⟨Nat.le_of_ble_eq_true rfl, Nat.le_of_ble_eq_true rfl⟩ dX12_stuck_17 ?_
    rintro q27242 e27243
    show J x (mflat [(m24, .inl (.inl (kA 1, 4, .inl mc24))), (m31, .inl (.inl (kA 1, 10, .inl mc31))), (m32, .inl (.inl (kA 1, 450, .inl mc32))), (m33, .inl (.inl (kA 1, 20, .inl mc33))), (m43, .inl (.inl (kA 3, 122, .inl mc43))), (m, .inl (.inr (12, (.ref m0 :: .int (nI mtp) :: .int (nI mfa) :: .int mfp :: .int (nI mat) :: .int (nI msz) :: .int (nI mso) :: .int mpl :: .int mnu :: .long mwd :: .ref m10 :: .ref m11 :: .ref m12 :: .ref m13 :: .ref m14 :: .ref m15 :: .ref m16 :: .ref m17 :: .ref m18 :: .ref m19 :: .ref m20 :: .ref m21 :: .ref m22 :: .ref m23 :: .ref m24 :: .int (nI mns) :: .int (nI mnl) :: .int (nI mne) :: .int (nI mst) :: .int (nI mlt) :: .int (nI mer) :: .ref m31 :: .ref m32 :: .ref m33 :: .ref m34 :: .ref m35 :: .int (nI mwm) :: .int (nI mwt) :: .int (nI mwf) :: .ref m39 :: .ref m40 :: .ref m41 :: .int (nI mla) :: .ref m43 :: .ref m44 :: .ref m45 :: .ref m46 :: .ref m47 :: .ref m48 :: .int (nI mtm) :: .ref m50 :: .ref m51 :: .ref m52 :: .ref m53 :: .ref m54 :: .ref m55 :: .ref m56 :: .ref m57 :: .ref m58 :: .ref m59 :: .ref m60 :: .ref m61 :: .int (nI msn) :: .int (nI mti) :: .ref m64 :: .ref m65 :: .ref m66 :: .ref m67 :: .ref m68 :: .ref m69 :: [])))), (m19, .inl (.inl (kA 1, 6, .inl mc19))), (m23, .inl (.inl (kA 1, 4, .inl mc23))), (m34, .inl (.inl (kA 1, 60, .inl mc34))), (m39, .inl (.inl (kA 1, 60, .inl q27242)))]) [(0, .ref m), (1, .int (nI j27241))] 0 0 20 []
    refine j_iconst (v := 0) h (by decide) dX12_stuck_20 ?_
    refine j_istore_n (lv' := [(2, .int 0), (0, .ref m), (1, .int (nI j27241))]) h dX12_stuck_21 rfl (by decide) rfl ?_
    have lp22_2567 : ∀ (m22_2567 : Nat), ∀ (v2_22_2567 : Nat) (fm43_22_2567 : Nat → Int32), (v2_22_2567 ≤ 100000) → 100001 - v2_22_2567 < m22_2567 → J x (mflat [(m24, .inl (.inl (kA 1, 4, .inl mc24))), (m31, .inl (.inl (kA 1, 10, .inl mc31))), (m32, .inl (.inl (kA 1, 450, .inl mc32))), (m33, .inl (.inl (kA 1, 20, .inl mc33))), (m43, .inl (.inl (kA 3, 122, .inl fm43_22_2567))), (m, .inl (.inr (12, (.ref m0 :: .int (nI mtp) :: .int (nI mfa) :: .int mfp :: .int (nI mat) :: .int (nI msz) :: .int (nI mso) :: .int mpl :: .int mnu :: .long mwd :: .ref m10 :: .ref m11 :: .ref m12 :: .ref m13 :: .ref m14 :: .ref m15 :: .ref m16 :: .ref m17 :: .ref m18 :: .ref m19 :: .ref m20 :: .ref m21 :: .ref m22 :: .ref m23 :: .ref m24 :: .int (nI mns) :: .int (nI mnl) :: .int (nI mne) :: .int (nI mst) :: .int (nI mlt) :: .int (nI mer) :: .ref m31 :: .ref m32 :: .ref m33 :: .ref m34 :: .ref m35 :: .int (nI mwm) :: .int (nI mwt) :: .int (nI mwf) :: .ref m39 :: .ref m40 :: .ref m41 :: .int (nI mla) :: .ref m43 :: .ref m44 :: .ref m45 :: .ref m46 :: .ref m47 :: .ref m48 :: .int (nI mtm) :: .ref m50 :: .ref m51 :: .ref m52 :: .ref m53 :: .ref m54 :: .ref m55 :: .ref m56 :: .ref m57 :: .ref m58 :: .ref m59 :: .ref m60 :: .ref m61 :: .int (nI msn) :: .int (nI mti) :: .ref m64 :: .ref m65 :: .ref m66 :: .ref m67 :: .ref m68 :: .ref m69 :: [])))), (m19, .inl (.inl (kA 1, 6, .inl mc19))), (m23, .inl (.inl (kA 1, 4, .inl mc23))), (m34, .inl (.inl (kA 1, 60, .inl mc34))), (m39, .inl (.inl (kA 1, 60, .inl q27242)))]) [(2, .int (nI v2_22_2567)), (0, .ref m), (1, .int (nI j27241))] 0 0 22 [] := by
      intro m22_2567
      induction m22_2567 with
      | zero =>
        intro v2_22_2567 fm43_22_2567 i22_2567_0 hm22_2567
        exact absurd hm22_2567 (Nat.not_lt_zero _)
      | succ m22_2567 ih22_2567 =>
        intro v2_22_2567 fm43_22_2567 i22_2567_0 hm22_2567
        refine j_iload_n h 0 rfl rfl dX12_stuck_22 ?_
        refine j_bipush (v := 122) h (by decide) dX12_stuck_23 ?_
        refine j_icmp_ge h 49 dX12_stuck_25 (by decide) (fun z27895 => ?_) (fun z27895 => ?_)
        · have z27895n : 122 ≤ v2_22_2567 := (nI_leI (a := 122) (b := v2_22_2567) (by omega) (by omega)).mp z27895
          refine j_iconst (v := 0) h (by decide) dX12_stuck_49 ?_
          refine j_istore_n (lv' := [(2, .int 0), (0, .ref m), (1, .int (nI j27241))]) h dX12_stuck_50 rfl (by decide) rfl ?_
          refine j_iconst (v := 0) h (by decide) dX12_stuck_51 ?_
          refine j_istore_n (lv' := [(3, .int 0), (2, .int 0), (0, .ref m), (1, .int (nI j27241))]) h dX12_stuck_52 rfl (by decide) rfl ?_
          have lp53_2594 : ∀ (m53_2594 : Nat), ∀ (v3_53_2594 : Nat) (v2_53_2594 : Nat) (fm43_53_2594 : Nat → Int32), (v3_53_2594 ≤ 100000) → (v2_53_2594 ≤ 100000) → 100001 - v3_53_2594 < m53_2594 → J x (mflat [(m24, .inl (.inl (kA 1, 4, .inl mc24))), (m31, .inl (.inl (kA 1, 10, .inl mc31))), (m32, .inl (.inl (kA 1, 450, .inl mc32))), (m33, .inl (.inl (kA 1, 20, .inl mc33))), (m43, .inl (.inl (kA 3, 122, .inl fm43_53_2594))), (m, .inl (.inr (12, (.ref m0 :: .int (nI mtp) :: .int (nI mfa) :: .int mfp :: .int (nI mat) :: .int (nI msz) :: .int (nI mso) :: .int mpl :: .int mnu :: .long mwd :: .ref m10 :: .ref m11 :: .ref m12 :: .ref m13 :: .ref m14 :: .ref m15 :: .ref m16 :: .ref m17 :: .ref m18 :: .ref m19 :: .ref m20 :: .ref m21 :: .ref m22 :: .ref m23 :: .ref m24 :: .int (nI mns) :: .int (nI mnl) :: .int (nI mne) :: .int (nI mst) :: .int (nI mlt) :: .int (nI mer) :: .ref m31 :: .ref m32 :: .ref m33 :: .ref m34 :: .ref m35 :: .int (nI mwm) :: .int (nI mwt) :: .int (nI mwf) :: .ref m39 :: .ref m40 :: .ref m41 :: .int (nI mla) :: .ref m43 :: .ref m44 :: .ref m45 :: .ref m46 :: .ref m47 :: .ref m48 :: .int (nI mtm) :: .ref m50 :: .ref m51 :: .ref m52 :: .ref m53 :: .ref m54 :: .ref m55 :: .ref m56 :: .ref m57 :: .ref m58 :: .ref m59 :: .ref m60 :: .ref m61 :: .int (nI msn) :: .int (nI mti) :: .ref m64 :: .ref m65 :: .ref m66 :: .ref m67 :: .ref m68 :: .ref m69 :: [])))), (m19, .inl (.inl (kA 1, 6, .inl mc19))), (m23, .inl (.inl (kA 1, 4, .inl mc23))), (m34, .inl (.inl (kA 1, 60, .inl mc34))), (m39, .inl (.inl (kA 1, 60, .inl q27242)))]) [(3, .int (nI v3_53_2594)), (2, .int (nI v2_53_2594)), (0, .ref m), (1, .int (nI j27241))] 0 0 53 [] := by
            intro m53_2594
            induction m53_2594 with
            | zero =>
              intro v3_53_2594 v2_53_2594 fm43_53_2594 i53_2594_0 i53_2594_1 hm53_2594
              exact absurd hm53_2594 (Nat.not_lt_zero _)
            | succ m53_2594 ih53_2594 =>
              intro v3_53_2594 v2_53_2594 fm43_53_2594 i53_2594_0 i53_2594_1 hm53_2594
              refine j_iload_n h 0 rfl rfl dX12_stuck_53 ?_
              refine j_aload_n h 2 rfl rfl dX12_stuck_54 ?_
              refine jm_get h iw_X12 5 rfl rfl 37 (by decide +kernel) tw_1193 rfl dX12_stuck_55 ?_
              refine j_icmp_ge h 271 dX12_stuck_58 (by decide) (fun z28326 => ?_) (fun z28326 => ?_)
              · have z28326n : mwt ≤ v3_53_2594 := (nI_leI (a := mwt) (b := v3_53_2594) (by omega) (by omega)).mp z28326
                refine j_iload_n h 1 rfl rfl dX12_stuck_271 ?_
                refine j_aload_n h 2 rfl rfl dX12_stuck_272 ?_
                refine jm_get h iw_X12 5 rfl rfl 37 (by decide +kernel) tw_1193 rfl dX12_stuck_273 ?_
                refine j_icmp_ge h 283 dX12_stuck_276 (by decide) (fun z28327 => ?_) (fun z28327 => ?_)
                · have z28327n : mwt ≤ v2_53_2594 := (nI_leI (a := mwt) (b := v2_53_2594) (by omega) (by omega)).mp z28327
                  refine j_iconst (v := (-1)) h (by decide) dX12_stuck_283 ?_
                  exact jm_iret h hq dX12_stuck_284 (q27242, fm43_53_2594) [5, 6, 7, 0, 1, 2, 3, 8, 9, 4] rfl (by decide) trivial (Nat.le_of_ble_eq_true rfl) (Nat.le_of_ble_eq_true rfl)
                · have z28327n : ¬ mwt ≤ v2_53_2594 := fun q9 => z28327 ((nI_leI (a := mwt) (b := v2_53_2594) (by omega) (by omega)).mpr q9)
                  refine j_iload_n h 1 rfl rfl dX12_stuck_279 ?_
                  refine j_goto h 284 dX12_stuck_280 (by decide) ?_
                  exact jm_iret h hq dX12_stuck_284 (q27242, fm43_53_2594) [5, 6, 7, 0, 1, 2, 3, 8, 9, 4] rfl (by decide) trivial (Nat.le_of_ble_eq_true rfl) (Nat.le_of_ble_eq_true rfl)
              · have z28326n : ¬ mwt ≤ v3_53_2594 := fun q9 => z28326 ((nI_leI (a := mwt) (b := v3_53_2594) (by omega) (by omega)).mpr q9)
                refine j_iconst (v := 0) h (by decide) dX12_stuck_61 ?_
                refine j_istore (lv' := [(4, .int 0), (3, .int (nI v3_53_2594)), (2, .int (nI v2_53_2594)), (0, .ref m), (1, .int (nI j27241))]) h dX12_stuck_62 (by decide) rfl ?_
                have lp64_2603 : ∀ (m64_2603 : Nat), ∀ (v4_64_2603 : Nat) (v2_64_2603 : Nat) (fm43_64_2603 : Nat → Int32), (v4_64_2603 ≤ 100000) → (v2_64_2603 ≤ 100000) → 100001 - v4_64_2603 < m64_2603 → J x (mflat [(m24, .inl (.inl (kA 1, 4, .inl mc24))), (m31, .inl (.inl (kA 1, 10, .inl mc31))), (m32, .inl (.inl (kA 1, 450, .inl mc32))), (m33, .inl (.inl (kA 1, 20, .inl mc33))), (m43, .inl (.inl (kA 3, 122, .inl fm43_64_2603))), (m, .inl (.inr (12, (.ref m0 :: .int (nI mtp) :: .int (nI mfa) :: .int mfp :: .int (nI mat) :: .int (nI msz) :: .int (nI mso) :: .int mpl :: .int mnu :: .long mwd :: .ref m10 :: .ref m11 :: .ref m12 :: .ref m13 :: .ref m14 :: .ref m15 :: .ref m16 :: .ref m17 :: .ref m18 :: .ref m19 :: .ref m20 :: .ref m21 :: .ref m22 :: .ref m23 :: .ref m24 :: .int (nI mns) :: .int (nI mnl) :: .int (nI mne) :: .int (nI mst) :: .int (nI mlt) :: .int (nI mer) :: .ref m31 :: .ref m32 :: .ref m33 :: .ref m34 :: .ref m35 :: .int (nI mwm) :: .int (nI mwt) :: .int (nI mwf) :: .ref m39 :: .ref m40 :: .ref m41 :: .int (nI mla) :: .ref m43 :: .ref m44 :: .ref m45 :: .ref m46 :: .ref m47 :: .ref m48 :: .int (nI mtm) :: .ref m50 :: .ref m51 :: .ref m52 :: .ref m53 :: .ref m54 :: .ref m55 :: .ref m56 :: .ref m57 :: .ref m58 :: .ref m59 :: .ref m60 :: .ref m61 :: .int (nI msn) :: .int (nI mti) :: .ref m64 :: .ref m65 :: .ref m66 :: .ref m67 :: .ref m68 :: .ref m69 :: [])))), (m19, .inl (.inl (kA 1, 6, .inl mc19))), (m23, .inl (.inl (kA 1, 4, .inl mc23))), (m34, .inl (.inl (kA 1, 60, .inl mc34))), (m39, .inl (.inl (kA 1, 60, .inl q27242)))]) [(4, .int (nI v4_64_2603)), (3, .int (nI v3_53_2594)), (2, .int (nI v2_64_2603)), (0, .ref m), (1, .int (nI j27241))] 0 0 64 [] := by
                  intro m64_2603
                  induction m64_2603 with
                  | zero =>
                    intro v4_64_2603 v2_64_2603 fm43_64_2603 i64_2603_0 i64_2603_1 hm64_2603
                    exact absurd hm64_2603 (Nat.not_lt_zero _)
                  | succ m64_2603 ih64_2603 =>
                    intro v4_64_2603 v2_64_2603 fm43_64_2603 i64_2603_0 i64_2603_1 hm64_2603
                    refine j_iload h 0 rfl dX12_stuck_64 ?_
                    refine j_iconst (v := 2) h (by decide) dX12_stuck_66 ?_
                    refine j_aload_n h 3 rfl rfl dX12_stuck_67 ?_
                    refine jm_get h iw_X12 5 rfl rfl 29 (by decide +kernel) tw_1185 rfl dX12_stuck_68 ?_
                    refine j_imul h dX12_stuck_71 ?_
                    refine j_top (b := nI (2 * mlt)) (pk_mul 2 mlt) ?_
                    refine j_icmp_ge h 265 dX12_stuck_72 (by decide) (fun z28472 => ?_) (fun z28472 => ?_)
                    · have z28472n : (2 * mlt) ≤ v4_64_2603 := (nI_leI (a := (2 * mlt)) (b := v4_64_2603) (by omega) (by omega)).mp z28472
                      refine j_iinc (v := nI (v3_53_2594 + 1)) (lv' := [(3, .int (nI (v3_53_2594 + 1))), (4, .int (nI v4_64_2603)), (2, .int (nI v2_64_2603)), (0, .ref m), (1, .int (nI j27241))]) h dX12_stuck_265 1 rfl (nI_add v3_53_2594 1) (by decide) rfl ?_
                      refine j_goto h 53 dX12_stuck_268 (by decide) ?_
                      refine jm_sub [0, 1, 2, 3, 4, 5, 6, 7, 8, 9] (w' := [(m24, .inl (.inl (kA 1, 4, .inl mc24))), (m31, .inl (.inl (kA 1, 10, .inl mc31))), (m32, .inl (.inl (kA 1, 450, .inl mc32))), (m33, .inl (.inl (kA 1, 20, .inl mc33))), (m43, .inl (.inl (kA 3, 122, .inl fm43_64_2603))), (m, .inl (.inr (12, (.ref m0 :: .int (nI mtp) :: .int (nI mfa) :: .int mfp :: .int (nI mat) :: .int (nI msz) :: .int (nI mso) :: .int mpl :: .int mnu :: .long mwd :: .ref m10 :: .ref m11 :: .ref m12 :: .ref m13 :: .ref m14 :: .ref m15 :: .ref m16 :: .ref m17 :: .ref m18 :: .ref m19 :: .ref m20 :: .ref m21 :: .ref m22 :: .ref m23 :: .ref m24 :: .int (nI mns) :: .int (nI mnl) :: .int (nI mne) :: .int (nI mst) :: .int (nI mlt) :: .int (nI mer) :: .ref m31 :: .ref m32 :: .ref m33 :: .ref m34 :: .ref m35 :: .int (nI mwm) :: .int (nI mwt) :: .int (nI mwf) :: .ref m39 :: .ref m40 :: .ref m41 :: .int (nI mla) :: .ref m43 :: .ref m44 :: .ref m45 :: .ref m46 :: .ref m47 :: .ref m48 :: .int (nI mtm) :: .ref m50 :: .ref m51 :: .ref m52 :: .ref m53 :: .ref m54 :: .ref m55 :: .ref m56 :: .ref m57 :: .ref m58 :: .ref m59 :: .ref m60 :: .ref m61 :: .int (nI msn) :: .int (nI mti) :: .ref m64 :: .ref m65 :: .ref m66 :: .ref m67 :: .ref m68 :: .ref m69 :: [])))), (m19, .inl (.inl (kA 1, 6, .inl mc19))), (m23, .inl (.inl (kA 1, 4, .inl mc23))), (m34, .inl (.inl (kA 1, 60, .inl mc34))), (m39, .inl (.inl (kA 1, 60, .inl q27242)))]) rfl (by decide +kernel) [0, 2, 3, 4] (lv' := [(3, .int (nI (v3_53_2594 + 1))), (2, .int (nI v2_64_2603)), (0, .ref m), (1, .int (nI j27241))]) rfl ?_
                      exact ih53_2594 (v3_53_2594 + 1) v2_64_2603 fm43_64_2603 (show (v3_53_2594 + 1) ≤ 100000 by first | assumption | omega) (show v2_64_2603 ≤ 100000 by first | assumption | omega) (show 100001 - (v3_53_2594 + 1) < m53_2594 by first | exact Nat.lt_of_lt_of_le (Nat.sub_lt_sub_left (Nat.lt_of_le_of_lt (show v3_53_2594 ≤ 100000 by assumption) (Nat.lt_succ_self 100000)) (Nat.lt_succ_self v3_53_2594)) (Nat.le_of_lt_succ hm53_2594) | omega)
                    · have z28472n : ¬ (2 * mlt) ≤ v4_64_2603 := fun q9 => z28472 ((nI_leI (a := (2 * mlt)) (b := v4_64_2603) (by omega) (by omega)).mpr q9)
                      refine j_iload h 0 rfl dX12_stuck_75 ?_
                      refine j_iconst (v := 2) h (by decide) dX12_stuck_77 ?_
                      refine j_idiv h (by decide) dX12_stuck_78 ?_
                      refine j_top (b := nI (v4_64_2603 / 2)) (pk_div (a := v4_64_2603) (d := 2) (by omega) (by decide) (by decide)) ?_
                      refine j_istore (lv' := [(5, .int (nI (v4_64_2603 / 2))), (4, .int (nI v4_64_2603)), (3, .int (nI v3_53_2594)), (2, .int (nI v2_64_2603)), (0, .ref m), (1, .int (nI j27241))]) h dX12_stuck_79 (by decide) rfl ?_
                      refine j_iload h 1 rfl dX12_stuck_81 ?_
                      refine j_iconst (v := 2) h (by decide) dX12_stuck_83 ?_
                      refine j_irem h (by decide) dX12_stuck_84 ?_
                      refine j_top (b := nI (v4_64_2603 % 2)) (pk_rem (a := v4_64_2603) (d := 2) (by omega) (by decide) (by decide)) ?_
                      refine j_istore (lv' := [(6, .int (nI (v4_64_2603 % 2))), (5, .int (nI (v4_64_2603 / 2))), (4, .int (nI v4_64_2603)), (3, .int (nI v3_53_2594)), (2, .int (nI v2_64_2603)), (0, .ref m), (1, .int (nI j27241))]) h dX12_stuck_85 (by decide) rfl ?_
                      refine j_aload_n h 5 rfl rfl dX12_stuck_87 ?_
                      refine jm_get h iw_X12 5 rfl rfl 43 (by decide +kernel) tw_1199 rfl dX12_stuck_88 ?_
                      refine j_iconst (v := 2) h (by decide) dX12_stuck_91 ?_
                      refine j_iload_n h 3 rfl rfl dX12_stuck_92 ?_
                      refine j_imul h dX12_stuck_93 ?_
                      refine j_top (b := nI (2 * v3_53_2594)) (pk_mul 2 v3_53_2594) ?_
                      refine j_iload h 0 rfl dX12_stuck_94 ?_
                      refine j_iadd h dX12_stuck_96 ?_
                      refine j_top (b := nI ((2 * v3_53_2594) + (v4_64_2603 % 2))) (nI_add (2 * v3_53_2594) (v4_64_2603 % 2)) ?_
                      refine jm_zald h 4 rfl ((2 * v3_53_2594) + (v4_64_2603 % 2)) rfl (by omega) (by omega) dX12_stuck_97 ?_
                      refine j_if_eq h 259 dX12_stuck_98 (by decide) (fun z28473 => ?_) (fun z28473 => ?_)
                      · show J x (mflat [(m24, .inl (.inl (kA 1, 4, .inl mc24))), (m31, .inl (.inl (kA 1, 10, .inl mc31))), (m32, .inl (.inl (kA 1, 450, .inl mc32))), (m33, .inl (.inl (kA 1, 20, .inl mc33))), (m43, .inl (.inl (kA 3, 122, .inl fm43_64_2603))), (m, .inl (.inr (12, (.ref m0 :: .int (nI mtp) :: .int (nI mfa) :: .int mfp :: .int (nI mat) :: .int (nI msz) :: .int (nI mso) :: .int mpl :: .int mnu :: .long mwd :: .ref m10 :: .ref m11 :: .ref m12 :: .ref m13 :: .ref m14 :: .ref m15 :: .ref m16 :: .ref m17 :: .ref m18 :: .ref m19 :: .ref m20 :: .ref m21 :: .ref m22 :: .ref m23 :: .ref m24 :: .int (nI mns) :: .int (nI mnl) :: .int (nI mne) :: .int (nI mst) :: .int (nI mlt) :: .int (nI mer) :: .ref m31 :: .ref m32 :: .ref m33 :: .ref m34 :: .ref m35 :: .int (nI mwm) :: .int (nI mwt) :: .int (nI mwf) :: .ref m39 :: .ref m40 :: .ref m41 :: .int (nI mla) :: .ref m43 :: .ref m44 :: .ref m45 :: .ref m46 :: .ref m47 :: .ref m48 :: .int (nI mtm) :: .ref m50 :: .ref m51 :: .ref m52 :: .ref m53 :: .ref m54 :: .ref m55 :: .ref m56 :: .ref m57 :: .ref m58 :: .ref m59 :: .ref m60 :: .ref m61 :: .int (nI msn) :: .int (nI mti) :: .ref m64 :: .ref m65 :: .ref m66 :: .ref m67 :: .ref m68 :: .ref m69 :: [])))), (m19, .inl (.inl (kA 1, 6, .inl mc19))), (m23, .inl (.inl (kA 1, 4, .inl mc23))), (m34, .inl (.inl (kA 1, 60, .inl mc34))), (m39, .inl (.inl (kA 1, 60, .inl q27242)))]) [(6, .int (nI (v4_64_2603 % 2))), (5, .int (nI (v4_64_2603 / 2))), (4, .int (nI v4_64_2603)), (3, .int (nI v3_53_2594)), (2, .int (nI v2_64_2603)), (0, .ref m), (1, .int (nI j27241))] 0 0 259 []
                        refine j_iinc (v := nI (v4_64_2603 + 1)) (lv' := [(4, .int (nI (v4_64_2603 + 1))), (6, .int (nI (v4_64_2603 % 2))), (5, .int (nI (v4_64_2603 / 2))), (3, .int (nI v3_53_2594)), (2, .int (nI v2_64_2603)), (0, .ref m), (1, .int (nI j27241))]) h dX12_stuck_259 2 rfl (nI_add v4_64_2603 1) (by decide) rfl ?_
                        refine j_goto h 64 dX12_stuck_262 (by decide) ?_
                        refine jm_sub [0, 1, 2, 3, 4, 5, 6, 7, 8, 9] (w' := [(m24, .inl (.inl (kA 1, 4, .inl mc24))), (m31, .inl (.inl (kA 1, 10, .inl mc31))), (m32, .inl (.inl (kA 1, 450, .inl mc32))), (m33, .inl (.inl (kA 1, 20, .inl mc33))), (m43, .inl (.inl (kA 3, 122, .inl fm43_64_2603))), (m, .inl (.inr (12, (.ref m0 :: .int (nI mtp) :: .int (nI mfa) :: .int mfp :: .int (nI mat) :: .int (nI msz) :: .int (nI mso) :: .int mpl :: .int mnu :: .long mwd :: .ref m10 :: .ref m11 :: .ref m12 :: .ref m13 :: .ref m14 :: .ref m15 :: .ref m16 :: .ref m17 :: .ref m18 :: .ref m19 :: .ref m20 :: .ref m21 :: .ref m22 :: .ref m23 :: .ref m24 :: .int (nI mns) :: .int (nI mnl) :: .int (nI mne) :: .int (nI mst) :: .int (nI mlt) :: .int (nI mer) :: .ref m31 :: .ref m32 :: .ref m33 :: .ref m34 :: .ref m35 :: .int (nI mwm) :: .int (nI mwt) :: .int (nI mwf) :: .ref m39 :: .ref m40 :: .ref m41 :: .int (nI mla) :: .ref m43 :: .ref m44 :: .ref m45 :: .ref m46 :: .ref m47 :: .ref m48 :: .int (nI mtm) :: .ref m50 :: .ref m51 :: .ref m52 :: .ref m53 :: .ref m54 :: .ref m55 :: .ref m56 :: .ref m57 :: .ref m58 :: .ref m59 :: .ref m60 :: .ref m61 :: .int (nI msn) :: .int (nI mti) :: .ref m64 :: .ref m65 :: .ref m66 :: .ref m67 :: .ref m68 :: .ref m69 :: [])))), (m19, .inl (.inl (kA 1, 6, .inl mc19))), (m23, .inl (.inl (kA 1, 4, .inl mc23))), (m34, .inl (.inl (kA 1, 60, .inl mc34))), (m39, .inl (.inl (kA 1, 60, .inl q27242)))]) rfl (by decide +kernel) [0, 3, 4, 5, 6] (lv' := [(4, .int (nI (v4_64_2603 + 1))), (3, .int (nI v3_53_2594)), (2, .int (nI v2_64_2603)), (0, .ref m), (1, .int (nI j27241))]) rfl ?_
                        exact ih64_2603 (v4_64_2603 + 1) v2_64_2603 fm43_64_2603 (show (v4_64_2603 + 1) ≤ 100000 by first | assumption | omega) (show v2_64_2603 ≤ 100000 by first | assumption | omega) (show 100001 - (v4_64_2603 + 1) < m64_2603 by first | exact Nat.lt_of_lt_of_le (Nat.sub_lt_sub_left (Nat.lt_of_le_of_lt (show v4_64_2603 ≤ 100000 by assumption) (Nat.lt_succ_self 100000)) (Nat.lt_succ_self v4_64_2603)) (Nat.le_of_lt_succ hm64_2603) | omega)
                      · show J x (mflat [(m24, .inl (.inl (kA 1, 4, .inl mc24))), (m31, .inl (.inl (kA 1, 10, .inl mc31))), (m32, .inl (.inl (kA 1, 450, .inl mc32))), (m33, .inl (.inl (kA 1, 20, .inl mc33))), (m43, .inl (.inl (kA 3, 122, .inl fm43_64_2603))), (m, .inl (.inr (12, (.ref m0 :: .int (nI mtp) :: .int (nI mfa) :: .int mfp :: .int (nI mat) :: .int (nI msz) :: .int (nI mso) :: .int mpl :: .int mnu :: .long mwd :: .ref m10 :: .ref m11 :: .ref m12 :: .ref m13 :: .ref m14 :: .ref m15 :: .ref m16 :: .ref m17 :: .ref m18 :: .ref m19 :: .ref m20 :: .ref m21 :: .ref m22 :: .ref m23 :: .ref m24 :: .int (nI mns) :: .int (nI mnl) :: .int (nI mne) :: .int (nI mst) :: .int (nI mlt) :: .int (nI mer) :: .ref m31 :: .ref m32 :: .ref m33 :: .ref m34 :: .ref m35 :: .int (nI mwm) :: .int (nI mwt) :: .int (nI mwf) :: .ref m39 :: .ref m40 :: .ref m41 :: .int (nI mla) :: .ref m43 :: .ref m44 :: .ref m45 :: .ref m46 :: .ref m47 :: .ref m48 :: .int (nI mtm) :: .ref m50 :: .ref m51 :: .ref m52 :: .ref m53 :: .ref m54 :: .ref m55 :: .ref m56 :: .ref m57 :: .ref m58 :: .ref m59 :: .ref m60 :: .ref m61 :: .int (nI msn) :: .int (nI mti) :: .ref m64 :: .ref m65 :: .ref m66 :: .ref m67 :: .ref m68 :: .ref m69 :: [])))), (m19, .inl (.inl (kA 1, 6, .inl mc19))), (m23, .inl (.inl (kA 1, 4, .inl mc23))), (m34, .inl (.inl (kA 1, 60, .inl mc34))), (m39, .inl (.inl (kA 1, 60, .inl q27242)))]) [(6, .int (nI (v4_64_2603 % 2))), (5, .int (nI (v4_64_2603 / 2))), (4, .int (nI v4_64_2603)), (3, .int (nI v3_53_2594)), (2, .int (nI v2_64_2603)), (0, .ref m), (1, .int (nI j27241))] 0 0 101 []
                        refine j_aload_n h 5 rfl rfl dX12_stuck_101 ?_
                        refine j_iload_n h 6 rfl rfl dX12_stuck_102 ?_
                        refine j_iload h 1 rfl dX12_stuck_103 ?_
                        refine jm_callVi (np := 2) (isC := [5, 0]) (isR := [1, 2, 3, 4, 6, 7, 8, 9]) (wc := [(m, .inl (.inr (12, (.ref m0 :: .int (nI mtp) :: .int (nI mfa) :: .int mfp :: .int (nI mat) :: .int (nI msz) :: .int (nI mso) :: .int mpl :: .int mnu :: .long mwd :: .ref m10 :: .ref m11 :: .ref m12 :: .ref m13 :: .ref m14 :: .ref m15 :: .ref m16 :: .ref m17 :: .ref m18 :: .ref m19 :: .ref m20 :: .ref m21 :: .ref m22 :: .ref m23 :: .ref m24 :: .int (nI mns) :: .int (nI mnl) :: .int (nI mne) :: .int (nI mst) :: .int (nI mlt) :: .int (nI mer) :: .ref m31 :: .ref m32 :: .ref m33 :: .ref m34 :: .ref m35 :: .int (nI mwm) :: .int (nI mwt) :: .int (nI mwf) :: .ref m39 :: .ref m40 :: .ref m41 :: .int (nI mla) :: .ref m43 :: .ref m44 :: .ref m45 :: .ref m46 :: .ref m47 :: .ref m48 :: .int (nI mtm) :: .ref m50 :: .ref m51 :: .ref m52 :: .ref m53 :: .ref m54 :: .ref m55 :: .ref m56 :: .ref m57 :: .ref m58 :: .ref m59 :: .ref m60 :: .ref m61 :: .int (nI msn) :: .int (nI mti) :: .ref m64 :: .ref m65 :: .ref m66 :: .ref m67 :: .ref m68 :: .ref m69 :: [])))), (m24, .inl (.inl (kA 1, 4, .inl mc24)))]) (wr := [(m31, .inl (.inl (kA 1, 10, .inl mc31))), (m32, .inl (.inl (kA 1, 450, .inl mc32))), (m33, .inl (.inl (kA 1, 20, .inl mc33))), (m43, .inl (.inl (kA 3, 122, .inl fm43_64_2603))), (m19, .inl (.inl (kA 1, 6, .inl mc19))), (m23, .inl (.inl (kA 1, 4, .inl mc23))), (m34, .inl (.inl (kA 1, 60, .inl mc34))), (m39, .inl (.inl (kA 1, 60, .inl q27242)))]) (rest := []) (As := [.int (nI j27241), .int (nI (v4_64_2603 / 2))]) (q0 := 0) h (s_X12_knowsF _ _ kA m j27241 (v4_64_2603 / 2) m0 mtp mfa mfp mat msz mso mpl mnu mwd m10 m11 m12 m13 m14 m15 m16 m17 m18 m19 m20 m21 m22 m23 m24 mns mnl mne mst mlt mer m31 m32 m33 m34 m35 mwm mwt mwf m39 m40 m41 mla m43 m44 m45 m46 m47 m48 mtm m50 m51 m52 m53 m54 m55 m56 m57 m58 m59 m60 m61 msn mti m64 m65 m66 m67 m68 m69 mc24 (show j27241 < 4 by first | assumption | omega) (show (v4_64_2603 / 2) < 10 by first | assumption | omega)) tw_1527 tw_1529 tw_64 tw_99 tw_1530 (by decide +kernel) rfl ⟨Nat.le_of_ble_eq_true rfl, Nat.le_of_ble_eq_true rfl⟩ rfl rfl (by decide +kernel) rfl rfl (by decide +kernel) (by decide +kernel) (Nat.le_of_ble_eq_true rfl) rfl ⟨Nat.le_of_ble_eq_true rfl, Nat.le_of_ble_eq_true rfl⟩ dX12_stuck_105 ?_
                        rintro r28476 q28474 e28475
                        obtain ⟨p28477, p28478, p28479⟩ := e28475
                        subst p28477
                        replace p28478 : q28474 ≤ 1 := p28478
                        replace p28479 : q28474 = knV (mc24 j27241) (v4_64_2603 / 2) := p28479
                        show J x (mflat [(m31, .inl (.inl (kA 1, 10, .inl mc31))), (m32, .inl (.inl (kA 1, 450, .inl mc32))), (m33, .inl (.inl (kA 1, 20, .inl mc33))), (m43, .inl (.inl (kA 3, 122, .inl fm43_64_2603))), (m19, .inl (.inl (kA 1, 6, .inl mc19))), (m23, .inl (.inl (kA 1, 4, .inl mc23))), (m34, .inl (.inl (kA 1, 60, .inl mc34))), (m39, .inl (.inl (kA 1, 60, .inl q27242))), (m, .inl (.inr (12, (.ref m0 :: .int (nI mtp) :: .int (nI mfa) :: .int mfp :: .int (nI mat) :: .int (nI msz) :: .int (nI mso) :: .int mpl :: .int mnu :: .long mwd :: .ref m10 :: .ref m11 :: .ref m12 :: .ref m13 :: .ref m14 :: .ref m15 :: .ref m16 :: .ref m17 :: .ref m18 :: .ref m19 :: .ref m20 :: .ref m21 :: .ref m22 :: .ref m23 :: .ref m24 :: .int (nI mns) :: .int (nI mnl) :: .int (nI mne) :: .int (nI mst) :: .int (nI mlt) :: .int (nI mer) :: .ref m31 :: .ref m32 :: .ref m33 :: .ref m34 :: .ref m35 :: .int (nI mwm) :: .int (nI mwt) :: .int (nI mwf) :: .ref m39 :: .ref m40 :: .ref m41 :: .int (nI mla) :: .ref m43 :: .ref m44 :: .ref m45 :: .ref m46 :: .ref m47 :: .ref m48 :: .int (nI mtm) :: .ref m50 :: .ref m51 :: .ref m52 :: .ref m53 :: .ref m54 :: .ref m55 :: .ref m56 :: .ref m57 :: .ref m58 :: .ref m59 :: .ref m60 :: .ref m61 :: .int (nI msn) :: .int (nI mti) :: .ref m64 :: .ref m65 :: .ref m66 :: .ref m67 :: .ref m68 :: .ref m69 :: [])))), (m24, .inl (.inl (kA 1, 4, .inl mc24)))]) [(6, .int (nI (v4_64_2603 % 2))), (5, .int (nI (v4_64_2603 / 2))), (4, .int (nI v4_64_2603)), (3, .int (nI v3_53_2594)), (2, .int (nI v2_64_2603)), (0, .ref m), (1, .int (nI j27241))] 0 0 108 [.int (nI q28474)]
                        refine j_if_eq h 259 dX12_stuck_108 (by decide) (fun z28480 => ?_) (fun z28480 => ?_)
                        · have z28480n : q28474 = 0 := (nI_eq (a := q28474) (b := 0) (by omega) (by omega)).mp z28480
                          refine j_iinc (v := nI (v4_64_2603 + 1)) (lv' := [(4, .int (nI (v4_64_2603 + 1))), (6, .int (nI (v4_64_2603 % 2))), (5, .int (nI (v4_64_2603 / 2))), (3, .int (nI v3_53_2594)), (2, .int (nI v2_64_2603)), (0, .ref m), (1, .int (nI j27241))]) h dX12_stuck_259 2 rfl (nI_add v4_64_2603 1) (by decide) rfl ?_
                          refine j_goto h 64 dX12_stuck_262 (by decide) ?_
                          refine jm_sub [9, 0, 1, 2, 3, 8, 4, 5, 6, 7] (w' := [(m24, .inl (.inl (kA 1, 4, .inl mc24))), (m31, .inl (.inl (kA 1, 10, .inl mc31))), (m32, .inl (.inl (kA 1, 450, .inl mc32))), (m33, .inl (.inl (kA 1, 20, .inl mc33))), (m43, .inl (.inl (kA 3, 122, .inl fm43_64_2603))), (m, .inl (.inr (12, (.ref m0 :: .int (nI mtp) :: .int (nI mfa) :: .int mfp :: .int (nI mat) :: .int (nI msz) :: .int (nI mso) :: .int mpl :: .int mnu :: .long mwd :: .ref m10 :: .ref m11 :: .ref m12 :: .ref m13 :: .ref m14 :: .ref m15 :: .ref m16 :: .ref m17 :: .ref m18 :: .ref m19 :: .ref m20 :: .ref m21 :: .ref m22 :: .ref m23 :: .ref m24 :: .int (nI mns) :: .int (nI mnl) :: .int (nI mne) :: .int (nI mst) :: .int (nI mlt) :: .int (nI mer) :: .ref m31 :: .ref m32 :: .ref m33 :: .ref m34 :: .ref m35 :: .int (nI mwm) :: .int (nI mwt) :: .int (nI mwf) :: .ref m39 :: .ref m40 :: .ref m41 :: .int (nI mla) :: .ref m43 :: .ref m44 :: .ref m45 :: .ref m46 :: .ref m47 :: .ref m48 :: .int (nI mtm) :: .ref m50 :: .ref m51 :: .ref m52 :: .ref m53 :: .ref m54 :: .ref m55 :: .ref m56 :: .ref m57 :: .ref m58 :: .ref m59 :: .ref m60 :: .ref m61 :: .int (nI msn) :: .int (nI mti) :: .ref m64 :: .ref m65 :: .ref m66 :: .ref m67 :: .ref m68 :: .ref m69 :: [])))), (m19, .inl (.inl (kA 1, 6, .inl mc19))), (m23, .inl (.inl (kA 1, 4, .inl mc23))), (m34, .inl (.inl (kA 1, 60, .inl mc34))), (m39, .inl (.inl (kA 1, 60, .inl q27242)))]) rfl (by decide +kernel) [0, 3, 4, 5, 6] (lv' := [(4, .int (nI (v4_64_2603 + 1))), (3, .int (nI v3_53_2594)), (2, .int (nI v2_64_2603)), (0, .ref m), (1, .int (nI j27241))]) rfl ?_
                          exact ih64_2603 (v4_64_2603 + 1) v2_64_2603 fm43_64_2603 (show (v4_64_2603 + 1) ≤ 100000 by first | assumption | omega) (show v2_64_2603 ≤ 100000 by first | assumption | omega) (show 100001 - (v4_64_2603 + 1) < m64_2603 by first | exact Nat.lt_of_lt_of_le (Nat.sub_lt_sub_left (Nat.lt_of_le_of_lt (show v4_64_2603 ≤ 100000 by assumption) (Nat.lt_succ_self 100000)) (Nat.lt_succ_self v4_64_2603)) (Nat.le_of_lt_succ hm64_2603) | omega)
                        · have z28480n : ¬ q28474 = 0 := fun q9 => z28480 ((nI_eq (a := q28474) (b := 0) (by omega) (by omega)).mpr q9)
                          refine j_aload_n h 5 rfl rfl dX12_stuck_111 ?_
                          refine jm_get h iw_X12 8 rfl rfl 33 (by decide +kernel) tw_1189 rfl dX12_stuck_112 ?_
                          refine j_iconst (v := 2) h (by decide) dX12_stuck_115 ?_
                          refine j_iload h 1 rfl dX12_stuck_116 ?_
                          refine j_imul h dX12_stuck_118 ?_
                          refine j_top (b := nI (2 * (v4_64_2603 / 2))) (pk_mul 2 (v4_64_2603 / 2)) ?_
                          refine j_iload h 0 rfl dX12_stuck_119 ?_
                          refine j_iadd h dX12_stuck_121 ?_
                          refine j_top (b := nI ((2 * (v4_64_2603 / 2)) + (v4_64_2603 % 2))) (nI_add (2 * (v4_64_2603 / 2)) (v4_64_2603 % 2)) ?_
                          refine jm_iald h 2 rfl ((2 * (v4_64_2603 / 2)) + (v4_64_2603 % 2)) rfl (by omega) (by omega) dX12_stuck_122 ?_
                          obtain ⟨t28481, u28482, u28483⟩ := (show FbOk (2 * mlt) mc33 by assumption) ((2 * (v4_64_2603 / 2)) + (v4_64_2603 % 2)) (by omega)
                          refine j_top (b := pm t28481) (u28483) ?_
                          rcases t28481 with _ | j28484
                          · show J x (mflat [(m31, .inl (.inl (kA 1, 10, .inl mc31))), (m32, .inl (.inl (kA 1, 450, .inl mc32))), (m33, .inl (.inl (kA 1, 20, .inl mc33))), (m43, .inl (.inl (kA 3, 122, .inl fm43_64_2603))), (m19, .inl (.inl (kA 1, 6, .inl mc19))), (m23, .inl (.inl (kA 1, 4, .inl mc23))), (m34, .inl (.inl (kA 1, 60, .inl mc34))), (m39, .inl (.inl (kA 1, 60, .inl q27242))), (m, .inl (.inr (12, (.ref m0 :: .int (nI mtp) :: .int (nI mfa) :: .int mfp :: .int (nI mat) :: .int (nI msz) :: .int (nI mso) :: .int mpl :: .int mnu :: .long mwd :: .ref m10 :: .ref m11 :: .ref m12 :: .ref m13 :: .ref m14 :: .ref m15 :: .ref m16 :: .ref m17 :: .ref m18 :: .ref m19 :: .ref m20 :: .ref m21 :: .ref m22 :: .ref m23 :: .ref m24 :: .int (nI mns) :: .int (nI mnl) :: .int (nI mne) :: .int (nI mst) :: .int (nI mlt) :: .int (nI mer) :: .ref m31 :: .ref m32 :: .ref m33 :: .ref m34 :: .ref m35 :: .int (nI mwm) :: .int (nI mwt) :: .int (nI mwf) :: .ref m39 :: .ref m40 :: .ref m41 :: .int (nI mla) :: .ref m43 :: .ref m44 :: .ref m45 :: .ref m46 :: .ref m47 :: .ref m48 :: .int (nI mtm) :: .ref m50 :: .ref m51 :: .ref m52 :: .ref m53 :: .ref m54 :: .ref m55 :: .ref m56 :: .ref m57 :: .ref m58 :: .ref m59 :: .ref m60 :: .ref m61 :: .int (nI msn) :: .int (nI mti) :: .ref m64 :: .ref m65 :: .ref m66 :: .ref m67 :: .ref m68 :: .ref m69 :: [])))), (m24, .inl (.inl (kA 1, 4, .inl mc24)))]) [(6, .int (nI (v4_64_2603 % 2))), (5, .int (nI (v4_64_2603 / 2))), (4, .int (nI v4_64_2603)), (3, .int (nI v3_53_2594)), (2, .int (nI v2_64_2603)), (0, .ref m), (1, .int (nI j27241))] 0 0 123 [.int (-1)]
                            refine j_if_lt h 259 dX12_stuck_123 (by decide) (fun _ => ?_) (fun q => absurd (by decide) q)
                            refine j_iinc (v := nI (v4_64_2603 + 1)) (lv' := [(4, .int (nI (v4_64_2603 + 1))), (6, .int (nI (v4_64_2603 % 2))), (5, .int (nI (v4_64_2603 / 2))), (3, .int (nI v3_53_2594)), (2, .int (nI v2_64_2603)), (0, .ref m), (1, .int (nI j27241))]) h dX12_stuck_259 2 rfl (nI_add v4_64_2603 1) (by decide) rfl ?_
                            refine j_goto h 64 dX12_stuck_262 (by decide) ?_
                            refine jm_sub [9, 0, 1, 2, 3, 8, 4, 5, 6, 7] (w' := [(m24, .inl (.inl (kA 1, 4, .inl mc24))), (m31, .inl (.inl (kA 1, 10, .inl mc31))), (m32, .inl (.inl (kA 1, 450, .inl mc32))), (m33, .inl (.inl (kA 1, 20, .inl mc33))), (m43, .inl (.inl (kA 3, 122, .inl fm43_64_2603))), (m, .inl (.inr (12, (.ref m0 :: .int (nI mtp) :: .int (nI mfa) :: .int mfp :: .int (nI mat) :: .int (nI msz) :: .int (nI mso) :: .int mpl :: .int mnu :: .long mwd :: .ref m10 :: .ref m11 :: .ref m12 :: .ref m13 :: .ref m14 :: .ref m15 :: .ref m16 :: .ref m17 :: .ref m18 :: .ref m19 :: .ref m20 :: .ref m21 :: .ref m22 :: .ref m23 :: .ref m24 :: .int (nI mns) :: .int (nI mnl) :: .int (nI mne) :: .int (nI mst) :: .int (nI mlt) :: .int (nI mer) :: .ref m31 :: .ref m32 :: .ref m33 :: .ref m34 :: .ref m35 :: .int (nI mwm) :: .int (nI mwt) :: .int (nI mwf) :: .ref m39 :: .ref m40 :: .ref m41 :: .int (nI mla) :: .ref m43 :: .ref m44 :: .ref m45 :: .ref m46 :: .ref m47 :: .ref m48 :: .int (nI mtm) :: .ref m50 :: .ref m51 :: .ref m52 :: .ref m53 :: .ref m54 :: .ref m55 :: .ref m56 :: .ref m57 :: .ref m58 :: .ref m59 :: .ref m60 :: .ref m61 :: .int (nI msn) :: .int (nI mti) :: .ref m64 :: .ref m65 :: .ref m66 :: .ref m67 :: .ref m68 :: .ref m69 :: [])))), (m19, .inl (.inl (kA 1, 6, .inl mc19))), (m23, .inl (.inl (kA 1, 4, .inl mc23))), (m34, .inl (.inl (kA 1, 60, .inl mc34))), (m39, .inl (.inl (kA 1, 60, .inl q27242)))]) rfl (by decide +kernel) [0, 3, 4, 5, 6] (lv' := [(4, .int (nI (v4_64_2603 + 1))), (3, .int (nI v3_53_2594)), (2, .int (nI v2_64_2603)), (0, .ref m), (1, .int (nI j27241))]) rfl ?_
                            exact ih64_2603 (v4_64_2603 + 1) v2_64_2603 fm43_64_2603 (show (v4_64_2603 + 1) ≤ 100000 by first | assumption | omega) (show v2_64_2603 ≤ 100000 by first | assumption | omega) (show 100001 - (v4_64_2603 + 1) < m64_2603 by first | exact Nat.lt_of_lt_of_le (Nat.sub_lt_sub_left (Nat.lt_of_le_of_lt (show v4_64_2603 ≤ 100000 by assumption) (Nat.lt_succ_self 100000)) (Nat.lt_succ_self v4_64_2603)) (Nat.le_of_lt_succ hm64_2603) | omega)
                          · show J x (mflat [(m31, .inl (.inl (kA 1, 10, .inl mc31))), (m32, .inl (.inl (kA 1, 450, .inl mc32))), (m33, .inl (.inl (kA 1, 20, .inl mc33))), (m43, .inl (.inl (kA 3, 122, .inl fm43_64_2603))), (m19, .inl (.inl (kA 1, 6, .inl mc19))), (m23, .inl (.inl (kA 1, 4, .inl mc23))), (m34, .inl (.inl (kA 1, 60, .inl mc34))), (m39, .inl (.inl (kA 1, 60, .inl q27242))), (m, .inl (.inr (12, (.ref m0 :: .int (nI mtp) :: .int (nI mfa) :: .int mfp :: .int (nI mat) :: .int (nI msz) :: .int (nI mso) :: .int mpl :: .int mnu :: .long mwd :: .ref m10 :: .ref m11 :: .ref m12 :: .ref m13 :: .ref m14 :: .ref m15 :: .ref m16 :: .ref m17 :: .ref m18 :: .ref m19 :: .ref m20 :: .ref m21 :: .ref m22 :: .ref m23 :: .ref m24 :: .int (nI mns) :: .int (nI mnl) :: .int (nI mne) :: .int (nI mst) :: .int (nI mlt) :: .int (nI mer) :: .ref m31 :: .ref m32 :: .ref m33 :: .ref m34 :: .ref m35 :: .int (nI mwm) :: .int (nI mwt) :: .int (nI mwf) :: .ref m39 :: .ref m40 :: .ref m41 :: .int (nI mla) :: .ref m43 :: .ref m44 :: .ref m45 :: .ref m46 :: .ref m47 :: .ref m48 :: .int (nI mtm) :: .ref m50 :: .ref m51 :: .ref m52 :: .ref m53 :: .ref m54 :: .ref m55 :: .ref m56 :: .ref m57 :: .ref m58 :: .ref m59 :: .ref m60 :: .ref m61 :: .int (nI msn) :: .int (nI mti) :: .ref m64 :: .ref m65 :: .ref m66 :: .ref m67 :: .ref m68 :: .ref m69 :: [])))), (m24, .inl (.inl (kA 1, 4, .inl mc24)))]) [(6, .int (nI (v4_64_2603 % 2))), (5, .int (nI (v4_64_2603 / 2))), (4, .int (nI v4_64_2603)), (3, .int (nI v3_53_2594)), (2, .int (nI v2_64_2603)), (0, .ref m), (1, .int (nI j27241))] 0 0 123 [.int (nI j28484)]
                            refine j_if_lt h 259 dX12_stuck_123 (by decide) (fun q => absurd q (nI_pos (by omega))) (fun _ => ?_)
                            refine j_iload_n h 3 rfl rfl dX12_stuck_126 ?_
                            refine j_aload_n h 5 rfl rfl dX12_stuck_127 ?_
                            refine jm_get h iw_X12 8 rfl rfl 31 (by decide +kernel) tw_1187 rfl dX12_stuck_128 ?_
                            refine j_iload h 1 rfl dX12_stuck_131 ?_
                            refine jm_iald h 0 rfl (v4_64_2603 / 2) rfl (by omega) (by omega) dX12_stuck_133 ?_
                            obtain ⟨t28485, u28486, u28487, u28488⟩ := (show LtOk mlt mc31 by assumption) (v4_64_2603 / 2) (by omega)
                            refine j_top (b := nI t28485) (u28488) ?_
                            refine j_iadd h dX12_stuck_134 ?_
                            refine j_top (b := nI (v3_53_2594 + t28485)) (nI_add v3_53_2594 t28485) ?_
                            refine j_bipush (v := 60) h (by decide) dX12_stuck_135 ?_
                            refine j_icmp_le h 143 dX12_stuck_137 (by decide) (fun z28489 => ?_) (fun z28489 => ?_)
                            · have z28489n : (v3_53_2594 + t28485) ≤ 60 := (nI_leI (a := (v3_53_2594 + t28485)) (b := 60) (by omega) (by omega)).mp z28489
                              refine j_iconst (v := 0) h (by decide) dX12_stuck_143 ?_
                              refine j_istore (lv' := [(7, .int 0), (6, .int (nI (v4_64_2603 % 2))), (5, .int (nI (v4_64_2603 / 2))), (4, .int (nI v4_64_2603)), (3, .int (nI v3_53_2594)), (2, .int (nI v2_64_2603)), (0, .ref m), (1, .int (nI j27241))]) h dX12_stuck_144 (by decide) rfl ?_
                              have lp146_2606 : ∀ (m146_2606 : Nat), ∀ (v7_146_2606 : Nat), (v7_146_2606 ≤ 45) → (v7_146_2606 ≤ 100000) → 100001 - v7_146_2606 < m146_2606 → J x (mflat [(m31, .inl (.inl (kA 1, 10, .inl mc31))), (m32, .inl (.inl (kA 1, 450, .inl mc32))), (m33, .inl (.inl (kA 1, 20, .inl mc33))), (m43, .inl (.inl (kA 3, 122, .inl fm43_64_2603))), (m19, .inl (.inl (kA 1, 6, .inl mc19))), (m23, .inl (.inl (kA 1, 4, .inl mc23))), (m34, .inl (.inl (kA 1, 60, .inl mc34))), (m39, .inl (.inl (kA 1, 60, .inl q27242))), (m, .inl (.inr (12, (.ref m0 :: .int (nI mtp) :: .int (nI mfa) :: .int mfp :: .int (nI mat) :: .int (nI msz) :: .int (nI mso) :: .int mpl :: .int mnu :: .long mwd :: .ref m10 :: .ref m11 :: .ref m12 :: .ref m13 :: .ref m14 :: .ref m15 :: .ref m16 :: .ref m17 :: .ref m18 :: .ref m19 :: .ref m20 :: .ref m21 :: .ref m22 :: .ref m23 :: .ref m24 :: .int (nI mns) :: .int (nI mnl) :: .int (nI mne) :: .int (nI mst) :: .int (nI mlt) :: .int (nI mer) :: .ref m31 :: .ref m32 :: .ref m33 :: .ref m34 :: .ref m35 :: .int (nI mwm) :: .int (nI mwt) :: .int (nI mwf) :: .ref m39 :: .ref m40 :: .ref m41 :: .int (nI mla) :: .ref m43 :: .ref m44 :: .ref m45 :: .ref m46 :: .ref m47 :: .ref m48 :: .int (nI mtm) :: .ref m50 :: .ref m51 :: .ref m52 :: .ref m53 :: .ref m54 :: .ref m55 :: .ref m56 :: .ref m57 :: .ref m58 :: .ref m59 :: .ref m60 :: .ref m61 :: .int (nI msn) :: .int (nI mti) :: .ref m64 :: .ref m65 :: .ref m66 :: .ref m67 :: .ref m68 :: .ref m69 :: [])))), (m24, .inl (.inl (kA 1, 4, .inl mc24)))]) [(7, .int (nI v7_146_2606)), (6, .int (nI (v4_64_2603 % 2))), (5, .int (nI (v4_64_2603 / 2))), (4, .int (nI v4_64_2603)), (3, .int (nI v3_53_2594)), (2, .int (nI v2_64_2603)), (0, .ref m), (1, .int (nI j27241))] 0 0 146 [] := by
                                intro m146_2606
                                induction m146_2606 with
                                | zero =>
                                  intro v7_146_2606 i146_2606_0 i146_2606_1 hm146_2606
                                  exact absurd hm146_2606 (Nat.not_lt_zero _)
                                | succ m146_2606 ih146_2606 =>
                                  intro v7_146_2606 i146_2606_0 i146_2606_1 hm146_2606
                                  refine j_iload h 0 rfl dX12_stuck_146 ?_
                                  refine j_aload_n h 6 rfl rfl dX12_stuck_148 ?_
                                  refine jm_get h iw_X12 8 rfl rfl 31 (by decide +kernel) tw_1187 rfl dX12_stuck_149 ?_
                                  refine j_iload h 2 rfl dX12_stuck_152 ?_
                                  refine jm_iald h 0 rfl (v4_64_2603 / 2) rfl (by omega) (by omega) dX12_stuck_154 ?_
                                  refine j_top (b := nI t28485) (u28488) ?_
                                  refine j_icmp_ge h 205 dX12_stuck_155 (by decide) (fun z28526 => ?_) (fun z28526 => ?_)
                                  · have z28526n : t28485 ≤ v7_146_2606 := (nI_leI (a := t28485) (b := v7_146_2606) (by omega) (by omega)).mp z28526
                                    refine j_iload_n h 4 rfl rfl dX12_stuck_205 ?_
                                    refine j_iload h 0 rfl dX12_stuck_206 ?_
                                    refine j_iadd h dX12_stuck_208 ?_
                                    refine j_top (b := nI (v3_53_2594 + v7_146_2606)) (nI_add v3_53_2594 v7_146_2606) ?_
                                    refine j_iload_n h 5 rfl rfl dX12_stuck_209 ?_
                                    refine j_icmp_le h 220 dX12_stuck_210 (by decide) (fun z28527 => ?_) (fun z28527 => ?_)
                                    · have z28527n : (v3_53_2594 + v7_146_2606) ≤ v2_64_2603 := (nI_leI (a := (v3_53_2594 + v7_146_2606)) (b := v2_64_2603) (by omega) (by omega)).mp z28527
                                      refine j_iload_n h 5 rfl rfl dX12_stuck_220 ?_
                                      refine j_istore_n (lv' := [(2, .int (nI v2_64_2603)), (7, .int (nI v7_146_2606)), (6, .int (nI (v4_64_2603 % 2))), (5, .int (nI (v4_64_2603 / 2))), (4, .int (nI v4_64_2603)), (3, .int (nI v3_53_2594)), (0, .ref m), (1, .int (nI j27241))]) h dX12_stuck_221 rfl (by decide) rfl ?_
                                      refine j_iload h 1 rfl dX12_stuck_222 ?_
                                      refine j_aload_n h 6 rfl rfl dX12_stuck_224 ?_
                                      refine jm_get h iw_X12 8 rfl rfl 31 (by decide +kernel) tw_1187 rfl dX12_stuck_225 ?_
                                      refine j_iload h 3 rfl dX12_stuck_228 ?_
                                      refine jm_iald h 0 rfl (v4_64_2603 / 2) rfl (by omega) (by omega) dX12_stuck_230 ?_
                                      refine j_top (b := nI t28485) (u28488) ?_
                                      refine j_icmp_ne h 259 dX12_stuck_231 (by decide) (fun z28528 => ?_) (fun z28528 => ?_)
                                      · have z28528n : ¬ v7_146_2606 = t28485 := fun q9 => z28528 ((nI_eq (a := v7_146_2606) (b := t28485) (by omega) (by omega)).mpr q9)
                                        refine j_iinc (v := nI (v4_64_2603 + 1)) (lv' := [(4, .int (nI (v4_64_2603 + 1))), (2, .int (nI v2_64_2603)), (7, .int (nI v7_146_2606)), (6, .int (nI (v4_64_2603 % 2))), (5, .int (nI (v4_64_2603 / 2))), (3, .int (nI v3_53_2594)), (0, .ref m), (1, .int (nI j27241))]) h dX12_stuck_259 4 rfl (nI_add v4_64_2603 1) (by decide) rfl ?_
                                        refine j_goto h 64 dX12_stuck_262 (by decide) ?_
                                        refine jm_sub [9, 0, 1, 2, 3, 8, 4, 5, 6, 7] (w' := [(m24, .inl (.inl (kA 1, 4, .inl mc24))), (m31, .inl (.inl (kA 1, 10, .inl mc31))), (m32, .inl (.inl (kA 1, 450, .inl mc32))), (m33, .inl (.inl (kA 1, 20, .inl mc33))), (m43, .inl (.inl (kA 3, 122, .inl fm43_64_2603))), (m, .inl (.inr (12, (.ref m0 :: .int (nI mtp) :: .int (nI mfa) :: .int mfp :: .int (nI mat) :: .int (nI msz) :: .int (nI mso) :: .int mpl :: .int mnu :: .long mwd :: .ref m10 :: .ref m11 :: .ref m12 :: .ref m13 :: .ref m14 :: .ref m15 :: .ref m16 :: .ref m17 :: .ref m18 :: .ref m19 :: .ref m20 :: .ref m21 :: .ref m22 :: .ref m23 :: .ref m24 :: .int (nI mns) :: .int (nI mnl) :: .int (nI mne) :: .int (nI mst) :: .int (nI mlt) :: .int (nI mer) :: .ref m31 :: .ref m32 :: .ref m33 :: .ref m34 :: .ref m35 :: .int (nI mwm) :: .int (nI mwt) :: .int (nI mwf) :: .ref m39 :: .ref m40 :: .ref m41 :: .int (nI mla) :: .ref m43 :: .ref m44 :: .ref m45 :: .ref m46 :: .ref m47 :: .ref m48 :: .int (nI mtm) :: .ref m50 :: .ref m51 :: .ref m52 :: .ref m53 :: .ref m54 :: .ref m55 :: .ref m56 :: .ref m57 :: .ref m58 :: .ref m59 :: .ref m60 :: .ref m61 :: .int (nI msn) :: .int (nI mti) :: .ref m64 :: .ref m65 :: .ref m66 :: .ref m67 :: .ref m68 :: .ref m69 :: [])))), (m19, .inl (.inl (kA 1, 6, .inl mc19))), (m23, .inl (.inl (kA 1, 4, .inl mc23))), (m34, .inl (.inl (kA 1, 60, .inl mc34))), (m39, .inl (.inl (kA 1, 60, .inl q27242)))]) rfl (by decide +kernel) [0, 5, 1, 6, 7] (lv' := [(4, .int (nI (v4_64_2603 + 1))), (3, .int (nI v3_53_2594)), (2, .int (nI v2_64_2603)), (0, .ref m), (1, .int (nI j27241))]) rfl ?_
                                        exact ih64_2603 (v4_64_2603 + 1) v2_64_2603 fm43_64_2603 (show (v4_64_2603 + 1) ≤ 100000 by first | assumption | omega) (show v2_64_2603 ≤ 100000 by first | assumption | omega) (show 100001 - (v4_64_2603 + 1) < m64_2603 by first | exact Nat.lt_of_lt_of_le (Nat.sub_lt_sub_left (Nat.lt_of_le_of_lt (show v4_64_2603 ≤ 100000 by assumption) (Nat.lt_succ_self 100000)) (Nat.lt_succ_self v4_64_2603)) (Nat.le_of_lt_succ hm64_2603) | omega)
                                      · have z28528n : v7_146_2606 = t28485 := (nI_eq (a := v7_146_2606) (b := t28485) (by omega) (by omega)).mp z28528
                                        refine j_aload_n h 6 rfl rfl dX12_stuck_234 ?_
                                        refine jm_get h iw_X12 8 rfl rfl 43 (by decide +kernel) tw_1199 rfl dX12_stuck_235 ?_
                                        refine j_iconst (v := 2) h (by decide) dX12_stuck_238 ?_
                                        refine j_iload_n h 5 rfl rfl dX12_stuck_239 ?_
                                        refine j_iload h 1 rfl dX12_stuck_240 ?_
                                        refine j_iadd h dX12_stuck_242 ?_
                                        refine j_top (b := nI (v3_53_2594 + v7_146_2606)) (nI_add v3_53_2594 v7_146_2606) ?_
                                        refine j_imul h dX12_stuck_243 ?_
                                        refine j_top (b := nI (2 * (v3_53_2594 + v7_146_2606))) (pk_mul 2 (v3_53_2594 + v7_146_2606)) ?_
                                        refine j_aload_n h 6 rfl rfl dX12_stuck_244 ?_
                                        refine jm_get h iw_X12 8 rfl rfl 33 (by decide +kernel) tw_1189 rfl dX12_stuck_245 ?_
                                        refine j_iconst (v := 2) h (by decide) dX12_stuck_248 ?_
                                        refine j_iload h 3 rfl dX12_stuck_249 ?_
                                        refine j_imul h dX12_stuck_251 ?_
                                        refine j_top (b := nI (2 * (v4_64_2603 / 2))) (pk_mul 2 (v4_64_2603 / 2)) ?_
                                        refine j_iload h 2 rfl dX12_stuck_252 ?_
                                        refine j_iadd h dX12_stuck_254 ?_
                                        refine j_top (b := nI ((2 * (v4_64_2603 / 2)) + (v4_64_2603 % 2))) (nI_add (2 * (v4_64_2603 / 2)) (v4_64_2603 % 2)) ?_
                                        refine jm_iald h 2 rfl ((2 * (v4_64_2603 / 2)) + (v4_64_2603 % 2)) rfl (by omega) (by omega) dX12_stuck_255 ?_
                                        refine j_top (b := nI j28484) (u28483) ?_
                                        refine j_iadd h dX12_stuck_256 ?_
                                        refine j_top (b := nI ((2 * (v3_53_2594 + v7_146_2606)) + j28484)) (nI_add (2 * (v3_53_2594 + v7_146_2606)) j28484) ?_
                                        refine j_iconst (v := 1) h (by decide) dX12_stuck_257 ?_
                                        refine jm_zast (w' := [(m31, .inl (.inl (kA 1, 10, .inl mc31))), (m32, .inl (.inl (kA 1, 450, .inl mc32))), (m33, .inl (.inl (kA 1, 20, .inl mc33))), (m43, .inl (.inl (kA 3, 122, .inl (upd fm43_64_2603 ((2 * (v3_53_2594 + v7_146_2606)) + j28484) (vp_nar .boolean 1))))), (m19, .inl (.inl (kA 1, 6, .inl mc19))), (m23, .inl (.inl (kA 1, 4, .inl mc23))), (m34, .inl (.inl (kA 1, 60, .inl mc34))), (m39, .inl (.inl (kA 1, 60, .inl q27242))), (m, .inl (.inr (12, (.ref m0 :: .int (nI mtp) :: .int (nI mfa) :: .int mfp :: .int (nI mat) :: .int (nI msz) :: .int (nI mso) :: .int mpl :: .int mnu :: .long mwd :: .ref m10 :: .ref m11 :: .ref m12 :: .ref m13 :: .ref m14 :: .ref m15 :: .ref m16 :: .ref m17 :: .ref m18 :: .ref m19 :: .ref m20 :: .ref m21 :: .ref m22 :: .ref m23 :: .ref m24 :: .int (nI mns) :: .int (nI mnl) :: .int (nI mne) :: .int (nI mst) :: .int (nI mlt) :: .int (nI mer) :: .ref m31 :: .ref m32 :: .ref m33 :: .ref m34 :: .ref m35 :: .int (nI mwm) :: .int (nI mwt) :: .int (nI mwf) :: .ref m39 :: .ref m40 :: .ref m41 :: .int (nI mla) :: .ref m43 :: .ref m44 :: .ref m45 :: .ref m46 :: .ref m47 :: .ref m48 :: .int (nI mtm) :: .ref m50 :: .ref m51 :: .ref m52 :: .ref m53 :: .ref m54 :: .ref m55 :: .ref m56 :: .ref m57 :: .ref m58 :: .ref m59 :: .ref m60 :: .ref m61 :: .int (nI msn) :: .int (nI mti) :: .ref m64 :: .ref m65 :: .ref m66 :: .ref m67 :: .ref m68 :: .ref m69 :: [])))), (m24, .inl (.inl (kA 1, 4, .inl mc24)))]) h 3 rfl ((2 * (v3_53_2594 + v7_146_2606)) + j28484) rfl (by omega) (by omega) dX12_stuck_258 rfl ?_
                                        refine j_iinc (v := nI (v4_64_2603 + 1)) (lv' := [(4, .int (nI (v4_64_2603 + 1))), (2, .int (nI v2_64_2603)), (7, .int (nI v7_146_2606)), (6, .int (nI (v4_64_2603 % 2))), (5, .int (nI (v4_64_2603 / 2))), (3, .int (nI v3_53_2594)), (0, .ref m), (1, .int (nI j27241))]) h dX12_stuck_259 4 rfl (nI_add v4_64_2603 1) (by decide) rfl ?_
                                        refine j_goto h 64 dX12_stuck_262 (by decide) ?_
                                        refine jm_sub [9, 0, 1, 2, 3, 8, 4, 5, 6, 7] (w' := [(m24, .inl (.inl (kA 1, 4, .inl mc24))), (m31, .inl (.inl (kA 1, 10, .inl mc31))), (m32, .inl (.inl (kA 1, 450, .inl mc32))), (m33, .inl (.inl (kA 1, 20, .inl mc33))), (m43, .inl (.inl (kA 3, 122, .inl (upd fm43_64_2603 ((2 * (v3_53_2594 + v7_146_2606)) + j28484) (vp_nar .boolean 1))))), (m, .inl (.inr (12, (.ref m0 :: .int (nI mtp) :: .int (nI mfa) :: .int mfp :: .int (nI mat) :: .int (nI msz) :: .int (nI mso) :: .int mpl :: .int mnu :: .long mwd :: .ref m10 :: .ref m11 :: .ref m12 :: .ref m13 :: .ref m14 :: .ref m15 :: .ref m16 :: .ref m17 :: .ref m18 :: .ref m19 :: .ref m20 :: .ref m21 :: .ref m22 :: .ref m23 :: .ref m24 :: .int (nI mns) :: .int (nI mnl) :: .int (nI mne) :: .int (nI mst) :: .int (nI mlt) :: .int (nI mer) :: .ref m31 :: .ref m32 :: .ref m33 :: .ref m34 :: .ref m35 :: .int (nI mwm) :: .int (nI mwt) :: .int (nI mwf) :: .ref m39 :: .ref m40 :: .ref m41 :: .int (nI mla) :: .ref m43 :: .ref m44 :: .ref m45 :: .ref m46 :: .ref m47 :: .ref m48 :: .int (nI mtm) :: .ref m50 :: .ref m51 :: .ref m52 :: .ref m53 :: .ref m54 :: .ref m55 :: .ref m56 :: .ref m57 :: .ref m58 :: .ref m59 :: .ref m60 :: .ref m61 :: .int (nI msn) :: .int (nI mti) :: .ref m64 :: .ref m65 :: .ref m66 :: .ref m67 :: .ref m68 :: .ref m69 :: [])))), (m19, .inl (.inl (kA 1, 6, .inl mc19))), (m23, .inl (.inl (kA 1, 4, .inl mc23))), (m34, .inl (.inl (kA 1, 60, .inl mc34))), (m39, .inl (.inl (kA 1, 60, .inl q27242)))]) rfl (by decide +kernel) [0, 5, 1, 6, 7] (lv' := [(4, .int (nI (v4_64_2603 + 1))), (3, .int (nI v3_53_2594)), (2, .int (nI v2_64_2603)), (0, .ref m), (1, .int (nI j27241))]) rfl ?_
                                        exact ih64_2603 (v4_64_2603 + 1) v2_64_2603 (upd fm43_64_2603 ((2 * (v3_53_2594 + v7_146_2606)) + j28484) (vp_nar .boolean 1)) (show (v4_64_2603 + 1) ≤ 100000 by first | assumption | omega) (show v2_64_2603 ≤ 100000 by first | assumption | omega) (show 100001 - (v4_64_2603 + 1) < m64_2603 by first | exact Nat.lt_of_lt_of_le (Nat.sub_lt_sub_left (Nat.lt_of_le_of_lt (show v4_64_2603 ≤ 100000 by assumption) (Nat.lt_succ_self 100000)) (Nat.lt_succ_self v4_64_2603)) (Nat.le_of_lt_succ hm64_2603) | omega)
                                    · have z28527n : ¬ (v3_53_2594 + v7_146_2606) ≤ v2_64_2603 := fun q9 => z28527 ((nI_leI (a := (v3_53_2594 + v7_146_2606)) (b := v2_64_2603) (by omega) (by omega)).mpr q9)
                                      refine j_iload_n h 4 rfl rfl dX12_stuck_213 ?_
                                      refine j_iload h 0 rfl dX12_stuck_214 ?_
                                      refine j_iadd h dX12_stuck_216 ?_
                                      refine j_top (b := nI (v3_53_2594 + v7_146_2606)) (nI_add v3_53_2594 v7_146_2606) ?_
                                      refine j_goto h 221 dX12_stuck_217 (by decide) ?_
                                      refine j_istore_n (lv' := [(2, .int (nI (v3_53_2594 + v7_146_2606))), (7, .int (nI v7_146_2606)), (6, .int (nI (v4_64_2603 % 2))), (5, .int (nI (v4_64_2603 / 2))), (4, .int (nI v4_64_2603)), (3, .int (nI v3_53_2594)), (0, .ref m), (1, .int (nI j27241))]) h dX12_stuck_221 rfl (by decide) rfl ?_
                                      refine j_iload h 1 rfl dX12_stuck_222 ?_
                                      refine j_aload_n h 6 rfl rfl dX12_stuck_224 ?_
                                      refine jm_get h iw_X12 8 rfl rfl 31 (by decide +kernel) tw_1187 rfl dX12_stuck_225 ?_
                                      refine j_iload h 3 rfl dX12_stuck_228 ?_
                                      refine jm_iald h 0 rfl (v4_64_2603 / 2) rfl (by omega) (by omega) dX12_stuck_230 ?_
                                      refine j_top (b := nI t28485) (u28488) ?_
                                      refine j_icmp_ne h 259 dX12_stuck_231 (by decide) (fun z28529 => ?_) (fun z28529 => ?_)
                                      · have z28529n : ¬ v7_146_2606 = t28485 := fun q9 => z28529 ((nI_eq (a := v7_146_2606) (b := t28485) (by omega) (by omega)).mpr q9)
                                        refine j_iinc (v := nI (v4_64_2603 + 1)) (lv' := [(4, .int (nI (v4_64_2603 + 1))), (2, .int (nI (v3_53_2594 + v7_146_2606))), (7, .int (nI v7_146_2606)), (6, .int (nI (v4_64_2603 % 2))), (5, .int (nI (v4_64_2603 / 2))), (3, .int (nI v3_53_2594)), (0, .ref m), (1, .int (nI j27241))]) h dX12_stuck_259 4 rfl (nI_add v4_64_2603 1) (by decide) rfl ?_
                                        refine j_goto h 64 dX12_stuck_262 (by decide) ?_
                                        refine jm_sub [9, 0, 1, 2, 3, 8, 4, 5, 6, 7] (w' := [(m24, .inl (.inl (kA 1, 4, .inl mc24))), (m31, .inl (.inl (kA 1, 10, .inl mc31))), (m32, .inl (.inl (kA 1, 450, .inl mc32))), (m33, .inl (.inl (kA 1, 20, .inl mc33))), (m43, .inl (.inl (kA 3, 122, .inl fm43_64_2603))), (m, .inl (.inr (12, (.ref m0 :: .int (nI mtp) :: .int (nI mfa) :: .int mfp :: .int (nI mat) :: .int (nI msz) :: .int (nI mso) :: .int mpl :: .int mnu :: .long mwd :: .ref m10 :: .ref m11 :: .ref m12 :: .ref m13 :: .ref m14 :: .ref m15 :: .ref m16 :: .ref m17 :: .ref m18 :: .ref m19 :: .ref m20 :: .ref m21 :: .ref m22 :: .ref m23 :: .ref m24 :: .int (nI mns) :: .int (nI mnl) :: .int (nI mne) :: .int (nI mst) :: .int (nI mlt) :: .int (nI mer) :: .ref m31 :: .ref m32 :: .ref m33 :: .ref m34 :: .ref m35 :: .int (nI mwm) :: .int (nI mwt) :: .int (nI mwf) :: .ref m39 :: .ref m40 :: .ref m41 :: .int (nI mla) :: .ref m43 :: .ref m44 :: .ref m45 :: .ref m46 :: .ref m47 :: .ref m48 :: .int (nI mtm) :: .ref m50 :: .ref m51 :: .ref m52 :: .ref m53 :: .ref m54 :: .ref m55 :: .ref m56 :: .ref m57 :: .ref m58 :: .ref m59 :: .ref m60 :: .ref m61 :: .int (nI msn) :: .int (nI mti) :: .ref m64 :: .ref m65 :: .ref m66 :: .ref m67 :: .ref m68 :: .ref m69 :: [])))), (m19, .inl (.inl (kA 1, 6, .inl mc19))), (m23, .inl (.inl (kA 1, 4, .inl mc23))), (m34, .inl (.inl (kA 1, 60, .inl mc34))), (m39, .inl (.inl (kA 1, 60, .inl q27242)))]) rfl (by decide +kernel) [0, 5, 1, 6, 7] (lv' := [(4, .int (nI (v4_64_2603 + 1))), (3, .int (nI v3_53_2594)), (2, .int (nI (v3_53_2594 + v7_146_2606))), (0, .ref m), (1, .int (nI j27241))]) rfl ?_
                                        exact ih64_2603 (v4_64_2603 + 1) (v3_53_2594 + v7_146_2606) fm43_64_2603 (show (v4_64_2603 + 1) ≤ 100000 by first | assumption | omega) (show (v3_53_2594 + v7_146_2606) ≤ 100000 by first | assumption | omega) (show 100001 - (v4_64_2603 + 1) < m64_2603 by first | exact Nat.lt_of_lt_of_le (Nat.sub_lt_sub_left (Nat.lt_of_le_of_lt (show v4_64_2603 ≤ 100000 by assumption) (Nat.lt_succ_self 100000)) (Nat.lt_succ_self v4_64_2603)) (Nat.le_of_lt_succ hm64_2603) | omega)
                                      · have z28529n : v7_146_2606 = t28485 := (nI_eq (a := v7_146_2606) (b := t28485) (by omega) (by omega)).mp z28529
                                        refine j_aload_n h 6 rfl rfl dX12_stuck_234 ?_
                                        refine jm_get h iw_X12 8 rfl rfl 43 (by decide +kernel) tw_1199 rfl dX12_stuck_235 ?_
                                        refine j_iconst (v := 2) h (by decide) dX12_stuck_238 ?_
                                        refine j_iload_n h 5 rfl rfl dX12_stuck_239 ?_
                                        refine j_iload h 1 rfl dX12_stuck_240 ?_
                                        refine j_iadd h dX12_stuck_242 ?_
                                        refine j_top (b := nI (v3_53_2594 + v7_146_2606)) (nI_add v3_53_2594 v7_146_2606) ?_
                                        refine j_imul h dX12_stuck_243 ?_
                                        refine j_top (b := nI (2 * (v3_53_2594 + v7_146_2606))) (pk_mul 2 (v3_53_2594 + v7_146_2606)) ?_
                                        refine j_aload_n h 6 rfl rfl dX12_stuck_244 ?_
                                        refine jm_get h iw_X12 8 rfl rfl 33 (by decide +kernel) tw_1189 rfl dX12_stuck_245 ?_
                                        refine j_iconst (v := 2) h (by decide) dX12_stuck_248 ?_
                                        refine j_iload h 3 rfl dX12_stuck_249 ?_
                                        refine j_imul h dX12_stuck_251 ?_
                                        refine j_top (b := nI (2 * (v4_64_2603 / 2))) (pk_mul 2 (v4_64_2603 / 2)) ?_
                                        refine j_iload h 2 rfl dX12_stuck_252 ?_
                                        refine j_iadd h dX12_stuck_254 ?_
                                        refine j_top (b := nI ((2 * (v4_64_2603 / 2)) + (v4_64_2603 % 2))) (nI_add (2 * (v4_64_2603 / 2)) (v4_64_2603 % 2)) ?_
                                        refine jm_iald h 2 rfl ((2 * (v4_64_2603 / 2)) + (v4_64_2603 % 2)) rfl (by omega) (by omega) dX12_stuck_255 ?_
                                        refine j_top (b := nI j28484) (u28483) ?_
                                        refine j_iadd h dX12_stuck_256 ?_
                                        refine j_top (b := nI ((2 * (v3_53_2594 + v7_146_2606)) + j28484)) (nI_add (2 * (v3_53_2594 + v7_146_2606)) j28484) ?_
                                        refine j_iconst (v := 1) h (by decide) dX12_stuck_257 ?_
                                        refine jm_zast (w' := [(m31, .inl (.inl (kA 1, 10, .inl mc31))), (m32, .inl (.inl (kA 1, 450, .inl mc32))), (m33, .inl (.inl (kA 1, 20, .inl mc33))), (m43, .inl (.inl (kA 3, 122, .inl (upd fm43_64_2603 ((2 * (v3_53_2594 + v7_146_2606)) + j28484) (vp_nar .boolean 1))))), (m19, .inl (.inl (kA 1, 6, .inl mc19))), (m23, .inl (.inl (kA 1, 4, .inl mc23))), (m34, .inl (.inl (kA 1, 60, .inl mc34))), (m39, .inl (.inl (kA 1, 60, .inl q27242))), (m, .inl (.inr (12, (.ref m0 :: .int (nI mtp) :: .int (nI mfa) :: .int mfp :: .int (nI mat) :: .int (nI msz) :: .int (nI mso) :: .int mpl :: .int mnu :: .long mwd :: .ref m10 :: .ref m11 :: .ref m12 :: .ref m13 :: .ref m14 :: .ref m15 :: .ref m16 :: .ref m17 :: .ref m18 :: .ref m19 :: .ref m20 :: .ref m21 :: .ref m22 :: .ref m23 :: .ref m24 :: .int (nI mns) :: .int (nI mnl) :: .int (nI mne) :: .int (nI mst) :: .int (nI mlt) :: .int (nI mer) :: .ref m31 :: .ref m32 :: .ref m33 :: .ref m34 :: .ref m35 :: .int (nI mwm) :: .int (nI mwt) :: .int (nI mwf) :: .ref m39 :: .ref m40 :: .ref m41 :: .int (nI mla) :: .ref m43 :: .ref m44 :: .ref m45 :: .ref m46 :: .ref m47 :: .ref m48 :: .int (nI mtm) :: .ref m50 :: .ref m51 :: .ref m52 :: .ref m53 :: .ref m54 :: .ref m55 :: .ref m56 :: .ref m57 :: .ref m58 :: .ref m59 :: .ref m60 :: .ref m61 :: .int (nI msn) :: .int (nI mti) :: .ref m64 :: .ref m65 :: .ref m66 :: .ref m67 :: .ref m68 :: .ref m69 :: [])))), (m24, .inl (.inl (kA 1, 4, .inl mc24)))]) h 3 rfl ((2 * (v3_53_2594 + v7_146_2606)) + j28484) rfl (by omega) (by omega) dX12_stuck_258 rfl ?_
                                        refine j_iinc (v := nI (v4_64_2603 + 1)) (lv' := [(4, .int (nI (v4_64_2603 + 1))), (2, .int (nI (v3_53_2594 + v7_146_2606))), (7, .int (nI v7_146_2606)), (6, .int (nI (v4_64_2603 % 2))), (5, .int (nI (v4_64_2603 / 2))), (3, .int (nI v3_53_2594)), (0, .ref m), (1, .int (nI j27241))]) h dX12_stuck_259 4 rfl (nI_add v4_64_2603 1) (by decide) rfl ?_
                                        refine j_goto h 64 dX12_stuck_262 (by decide) ?_
                                        refine jm_sub [9, 0, 1, 2, 3, 8, 4, 5, 6, 7] (w' := [(m24, .inl (.inl (kA 1, 4, .inl mc24))), (m31, .inl (.inl (kA 1, 10, .inl mc31))), (m32, .inl (.inl (kA 1, 450, .inl mc32))), (m33, .inl (.inl (kA 1, 20, .inl mc33))), (m43, .inl (.inl (kA 3, 122, .inl (upd fm43_64_2603 ((2 * (v3_53_2594 + v7_146_2606)) + j28484) (vp_nar .boolean 1))))), (m, .inl (.inr (12, (.ref m0 :: .int (nI mtp) :: .int (nI mfa) :: .int mfp :: .int (nI mat) :: .int (nI msz) :: .int (nI mso) :: .int mpl :: .int mnu :: .long mwd :: .ref m10 :: .ref m11 :: .ref m12 :: .ref m13 :: .ref m14 :: .ref m15 :: .ref m16 :: .ref m17 :: .ref m18 :: .ref m19 :: .ref m20 :: .ref m21 :: .ref m22 :: .ref m23 :: .ref m24 :: .int (nI mns) :: .int (nI mnl) :: .int (nI mne) :: .int (nI mst) :: .int (nI mlt) :: .int (nI mer) :: .ref m31 :: .ref m32 :: .ref m33 :: .ref m34 :: .ref m35 :: .int (nI mwm) :: .int (nI mwt) :: .int (nI mwf) :: .ref m39 :: .ref m40 :: .ref m41 :: .int (nI mla) :: .ref m43 :: .ref m44 :: .ref m45 :: .ref m46 :: .ref m47 :: .ref m48 :: .int (nI mtm) :: .ref m50 :: .ref m51 :: .ref m52 :: .ref m53 :: .ref m54 :: .ref m55 :: .ref m56 :: .ref m57 :: .ref m58 :: .ref m59 :: .ref m60 :: .ref m61 :: .int (nI msn) :: .int (nI mti) :: .ref m64 :: .ref m65 :: .ref m66 :: .ref m67 :: .ref m68 :: .ref m69 :: [])))), (m19, .inl (.inl (kA 1, 6, .inl mc19))), (m23, .inl (.inl (kA 1, 4, .inl mc23))), (m34, .inl (.inl (kA 1, 60, .inl mc34))), (m39, .inl (.inl (kA 1, 60, .inl q27242)))]) rfl (by decide +kernel) [0, 5, 1, 6, 7] (lv' := [(4, .int (nI (v4_64_2603 + 1))), (3, .int (nI v3_53_2594)), (2, .int (nI (v3_53_2594 + v7_146_2606))), (0, .ref m), (1, .int (nI j27241))]) rfl ?_
                                        exact ih64_2603 (v4_64_2603 + 1) (v3_53_2594 + v7_146_2606) (upd fm43_64_2603 ((2 * (v3_53_2594 + v7_146_2606)) + j28484) (vp_nar .boolean 1)) (show (v4_64_2603 + 1) ≤ 100000 by first | assumption | omega) (show (v3_53_2594 + v7_146_2606) ≤ 100000 by first | assumption | omega) (show 100001 - (v4_64_2603 + 1) < m64_2603 by first | exact Nat.lt_of_lt_of_le (Nat.sub_lt_sub_left (Nat.lt_of_le_of_lt (show v4_64_2603 ≤ 100000 by assumption) (Nat.lt_succ_self 100000)) (Nat.lt_succ_self v4_64_2603)) (Nat.le_of_lt_succ hm64_2603) | omega)
                                  · have z28526n : ¬ t28485 ≤ v7_146_2606 := fun q9 => z28526 ((nI_leI (a := t28485) (b := v7_146_2606) (by omega) (by omega)).mpr q9)
                                    refine j_iload_n h 4 rfl rfl dX12_stuck_158 ?_
                                    refine j_iload h 0 rfl dX12_stuck_159 ?_
                                    refine j_iadd h dX12_stuck_161 ?_
                                    refine j_top (b := nI (v3_53_2594 + v7_146_2606)) (nI_add v3_53_2594 v7_146_2606) ?_
                                    refine j_aload_n h 6 rfl rfl dX12_stuck_162 ?_
                                    refine jm_get h iw_X12 8 rfl rfl 37 (by decide +kernel) tw_1193 rfl dX12_stuck_163 ?_
                                    refine j_icmp_ge h 205 dX12_stuck_166 (by decide) (fun z28530 => ?_) (fun z28530 => ?_)
                                    · have z28530n : mwt ≤ (v3_53_2594 + v7_146_2606) := (nI_leI (a := mwt) (b := (v3_53_2594 + v7_146_2606)) (by omega) (by omega)).mp z28530
                                      refine j_iload_n h 4 rfl rfl dX12_stuck_205 ?_
                                      refine j_iload h 0 rfl dX12_stuck_206 ?_
                                      refine j_iadd h dX12_stuck_208 ?_
                                      refine j_top (b := nI (v3_53_2594 + v7_146_2606)) (nI_add v3_53_2594 v7_146_2606) ?_
                                      refine j_iload_n h 5 rfl rfl dX12_stuck_209 ?_
                                      refine j_icmp_le h 220 dX12_stuck_210 (by decide) (fun z28531 => ?_) (fun z28531 => ?_)
                                      · have z28531n : (v3_53_2594 + v7_146_2606) ≤ v2_64_2603 := (nI_leI (a := (v3_53_2594 + v7_146_2606)) (b := v2_64_2603) (by omega) (by omega)).mp z28531
                                        refine j_iload_n h 5 rfl rfl dX12_stuck_220 ?_
                                        refine j_istore_n (lv' := [(2, .int (nI v2_64_2603)), (7, .int (nI v7_146_2606)), (6, .int (nI (v4_64_2603 % 2))), (5, .int (nI (v4_64_2603 / 2))), (4, .int (nI v4_64_2603)), (3, .int (nI v3_53_2594)), (0, .ref m), (1, .int (nI j27241))]) h dX12_stuck_221 rfl (by decide) rfl ?_
                                        refine j_iload h 1 rfl dX12_stuck_222 ?_
                                        refine j_aload_n h 6 rfl rfl dX12_stuck_224 ?_
                                        refine jm_get h iw_X12 8 rfl rfl 31 (by decide +kernel) tw_1187 rfl dX12_stuck_225 ?_
                                        refine j_iload h 3 rfl dX12_stuck_228 ?_
                                        refine jm_iald h 0 rfl (v4_64_2603 / 2) rfl (by omega) (by omega) dX12_stuck_230 ?_
                                        refine j_top (b := nI t28485) (u28488) ?_
                                        refine j_icmp_ne h 259 dX12_stuck_231 (by decide) (fun z28532 => ?_) (fun z28532 => ?_)
                                        · have z28532n : ¬ v7_146_2606 = t28485 := fun q9 => z28532 ((nI_eq (a := v7_146_2606) (b := t28485) (by omega) (by omega)).mpr q9)
                                          refine j_iinc (v := nI (v4_64_2603 + 1)) (lv' := [(4, .int (nI (v4_64_2603 + 1))), (2, .int (nI v2_64_2603)), (7, .int (nI v7_146_2606)), (6, .int (nI (v4_64_2603 % 2))), (5, .int (nI (v4_64_2603 / 2))), (3, .int (nI v3_53_2594)), (0, .ref m), (1, .int (nI j27241))]) h dX12_stuck_259 4 rfl (nI_add v4_64_2603 1) (by decide) rfl ?_
                                          refine j_goto h 64 dX12_stuck_262 (by decide) ?_
                                          refine jm_sub [9, 0, 1, 2, 3, 8, 4, 5, 6, 7] (w' := [(m24, .inl (.inl (kA 1, 4, .inl mc24))), (m31, .inl (.inl (kA 1, 10, .inl mc31))), (m32, .inl (.inl (kA 1, 450, .inl mc32))), (m33, .inl (.inl (kA 1, 20, .inl mc33))), (m43, .inl (.inl (kA 3, 122, .inl fm43_64_2603))), (m, .inl (.inr (12, (.ref m0 :: .int (nI mtp) :: .int (nI mfa) :: .int mfp :: .int (nI mat) :: .int (nI msz) :: .int (nI mso) :: .int mpl :: .int mnu :: .long mwd :: .ref m10 :: .ref m11 :: .ref m12 :: .ref m13 :: .ref m14 :: .ref m15 :: .ref m16 :: .ref m17 :: .ref m18 :: .ref m19 :: .ref m20 :: .ref m21 :: .ref m22 :: .ref m23 :: .ref m24 :: .int (nI mns) :: .int (nI mnl) :: .int (nI mne) :: .int (nI mst) :: .int (nI mlt) :: .int (nI mer) :: .ref m31 :: .ref m32 :: .ref m33 :: .ref m34 :: .ref m35 :: .int (nI mwm) :: .int (nI mwt) :: .int (nI mwf) :: .ref m39 :: .ref m40 :: .ref m41 :: .int (nI mla) :: .ref m43 :: .ref m44 :: .ref m45 :: .ref m46 :: .ref m47 :: .ref m48 :: .int (nI mtm) :: .ref m50 :: .ref m51 :: .ref m52 :: .ref m53 :: .ref m54 :: .ref m55 :: .ref m56 :: .ref m57 :: .ref m58 :: .ref m59 :: .ref m60 :: .ref m61 :: .int (nI msn) :: .int (nI mti) :: .ref m64 :: .ref m65 :: .ref m66 :: .ref m67 :: .ref m68 :: .ref m69 :: [])))), (m19, .inl (.inl (kA 1, 6, .inl mc19))), (m23, .inl (.inl (kA 1, 4, .inl mc23))), (m34, .inl (.inl (kA 1, 60, .inl mc34))), (m39, .inl (.inl (kA 1, 60, .inl q27242)))]) rfl (by decide +kernel) [0, 5, 1, 6, 7] (lv' := [(4, .int (nI (v4_64_2603 + 1))), (3, .int (nI v3_53_2594)), (2, .int (nI v2_64_2603)), (0, .ref m), (1, .int (nI j27241))]) rfl ?_
                                          exact ih64_2603 (v4_64_2603 + 1) v2_64_2603 fm43_64_2603 (show (v4_64_2603 + 1) ≤ 100000 by first | assumption | omega) (show v2_64_2603 ≤ 100000 by first | assumption | omega) (show 100001 - (v4_64_2603 + 1) < m64_2603 by first | exact Nat.lt_of_lt_of_le (Nat.sub_lt_sub_left (Nat.lt_of_le_of_lt (show v4_64_2603 ≤ 100000 by assumption) (Nat.lt_succ_self 100000)) (Nat.lt_succ_self v4_64_2603)) (Nat.le_of_lt_succ hm64_2603) | omega)
                                        · have z28532n : v7_146_2606 = t28485 := (nI_eq (a := v7_146_2606) (b := t28485) (by omega) (by omega)).mp z28532
                                          refine j_aload_n h 6 rfl rfl dX12_stuck_234 ?_
                                          refine jm_get h iw_X12 8 rfl rfl 43 (by decide +kernel) tw_1199 rfl dX12_stuck_235 ?_
                                          refine j_iconst (v := 2) h (by decide) dX12_stuck_238 ?_
                                          refine j_iload_n h 5 rfl rfl dX12_stuck_239 ?_
                                          refine j_iload h 1 rfl dX12_stuck_240 ?_
                                          refine j_iadd h dX12_stuck_242 ?_
                                          refine j_top (b := nI (v3_53_2594 + v7_146_2606)) (nI_add v3_53_2594 v7_146_2606) ?_
                                          refine j_imul h dX12_stuck_243 ?_
                                          refine j_top (b := nI (2 * (v3_53_2594 + v7_146_2606))) (pk_mul 2 (v3_53_2594 + v7_146_2606)) ?_
                                          refine j_aload_n h 6 rfl rfl dX12_stuck_244 ?_
                                          refine jm_get h iw_X12 8 rfl rfl 33 (by decide +kernel) tw_1189 rfl dX12_stuck_245 ?_
                                          refine j_iconst (v := 2) h (by decide) dX12_stuck_248 ?_
                                          refine j_iload h 3 rfl dX12_stuck_249 ?_
                                          refine j_imul h dX12_stuck_251 ?_
                                          refine j_top (b := nI (2 * (v4_64_2603 / 2))) (pk_mul 2 (v4_64_2603 / 2)) ?_
                                          refine j_iload h 2 rfl dX12_stuck_252 ?_
                                          refine j_iadd h dX12_stuck_254 ?_
                                          refine j_top (b := nI ((2 * (v4_64_2603 / 2)) + (v4_64_2603 % 2))) (nI_add (2 * (v4_64_2603 / 2)) (v4_64_2603 % 2)) ?_
                                          refine jm_iald h 2 rfl ((2 * (v4_64_2603 / 2)) + (v4_64_2603 % 2)) rfl (by omega) (by omega) dX12_stuck_255 ?_
                                          refine j_top (b := nI j28484) (u28483) ?_
                                          refine j_iadd h dX12_stuck_256 ?_
                                          refine j_top (b := nI ((2 * (v3_53_2594 + v7_146_2606)) + j28484)) (nI_add (2 * (v3_53_2594 + v7_146_2606)) j28484) ?_
                                          refine j_iconst (v := 1) h (by decide) dX12_stuck_257 ?_
                                          refine jm_zast (w' := [(m31, .inl (.inl (kA 1, 10, .inl mc31))), (m32, .inl (.inl (kA 1, 450, .inl mc32))), (m33, .inl (.inl (kA 1, 20, .inl mc33))), (m43, .inl (.inl (kA 3, 122, .inl (upd fm43_64_2603 ((2 * (v3_53_2594 + v7_146_2606)) + j28484) (vp_nar .boolean 1))))), (m19, .inl (.inl (kA 1, 6, .inl mc19))), (m23, .inl (.inl (kA 1, 4, .inl mc23))), (m34, .inl (.inl (kA 1, 60, .inl mc34))), (m39, .inl (.inl (kA 1, 60, .inl q27242))), (m, .inl (.inr (12, (.ref m0 :: .int (nI mtp) :: .int (nI mfa) :: .int mfp :: .int (nI mat) :: .int (nI msz) :: .int (nI mso) :: .int mpl :: .int mnu :: .long mwd :: .ref m10 :: .ref m11 :: .ref m12 :: .ref m13 :: .ref m14 :: .ref m15 :: .ref m16 :: .ref m17 :: .ref m18 :: .ref m19 :: .ref m20 :: .ref m21 :: .ref m22 :: .ref m23 :: .ref m24 :: .int (nI mns) :: .int (nI mnl) :: .int (nI mne) :: .int (nI mst) :: .int (nI mlt) :: .int (nI mer) :: .ref m31 :: .ref m32 :: .ref m33 :: .ref m34 :: .ref m35 :: .int (nI mwm) :: .int (nI mwt) :: .int (nI mwf) :: .ref m39 :: .ref m40 :: .ref m41 :: .int (nI mla) :: .ref m43 :: .ref m44 :: .ref m45 :: .ref m46 :: .ref m47 :: .ref m48 :: .int (nI mtm) :: .ref m50 :: .ref m51 :: .ref m52 :: .ref m53 :: .ref m54 :: .ref m55 :: .ref m56 :: .ref m57 :: .ref m58 :: .ref m59 :: .ref m60 :: .ref m61 :: .int (nI msn) :: .int (nI mti) :: .ref m64 :: .ref m65 :: .ref m66 :: .ref m67 :: .ref m68 :: .ref m69 :: [])))), (m24, .inl (.inl (kA 1, 4, .inl mc24)))]) h 3 rfl ((2 * (v3_53_2594 + v7_146_2606)) + j28484) rfl (by omega) (by omega) dX12_stuck_258 rfl ?_
                                          refine j_iinc (v := nI (v4_64_2603 + 1)) (lv' := [(4, .int (nI (v4_64_2603 + 1))), (2, .int (nI v2_64_2603)), (7, .int (nI v7_146_2606)), (6, .int (nI (v4_64_2603 % 2))), (5, .int (nI (v4_64_2603 / 2))), (3, .int (nI v3_53_2594)), (0, .ref m), (1, .int (nI j27241))]) h dX12_stuck_259 4 rfl (nI_add v4_64_2603 1) (by decide) rfl ?_
                                          refine j_goto h 64 dX12_stuck_262 (by decide) ?_
                                          refine jm_sub [9, 0, 1, 2, 3, 8, 4, 5, 6, 7] (w' := [(m24, .inl (.inl (kA 1, 4, .inl mc24))), (m31, .inl (.inl (kA 1, 10, .inl mc31))), (m32, .inl (.inl (kA 1, 450, .inl mc32))), (m33, .inl (.inl (kA 1, 20, .inl mc33))), (m43, .inl (.inl (kA 3, 122, .inl (upd fm43_64_2603 ((2 * (v3_53_2594 + v7_146_2606)) + j28484) (vp_nar .boolean 1))))), (m, .inl (.inr (12, (.ref m0 :: .int (nI mtp) :: .int (nI mfa) :: .int mfp :: .int (nI mat) :: .int (nI msz) :: .int (nI mso) :: .int mpl :: .int mnu :: .long mwd :: .ref m10 :: .ref m11 :: .ref m12 :: .ref m13 :: .ref m14 :: .ref m15 :: .ref m16 :: .ref m17 :: .ref m18 :: .ref m19 :: .ref m20 :: .ref m21 :: .ref m22 :: .ref m23 :: .ref m24 :: .int (nI mns) :: .int (nI mnl) :: .int (nI mne) :: .int (nI mst) :: .int (nI mlt) :: .int (nI mer) :: .ref m31 :: .ref m32 :: .ref m33 :: .ref m34 :: .ref m35 :: .int (nI mwm) :: .int (nI mwt) :: .int (nI mwf) :: .ref m39 :: .ref m40 :: .ref m41 :: .int (nI mla) :: .ref m43 :: .ref m44 :: .ref m45 :: .ref m46 :: .ref m47 :: .ref m48 :: .int (nI mtm) :: .ref m50 :: .ref m51 :: .ref m52 :: .ref m53 :: .ref m54 :: .ref m55 :: .ref m56 :: .ref m57 :: .ref m58 :: .ref m59 :: .ref m60 :: .ref m61 :: .int (nI msn) :: .int (nI mti) :: .ref m64 :: .ref m65 :: .ref m66 :: .ref m67 :: .ref m68 :: .ref m69 :: [])))), (m19, .inl (.inl (kA 1, 6, .inl mc19))), (m23, .inl (.inl (kA 1, 4, .inl mc23))), (m34, .inl (.inl (kA 1, 60, .inl mc34))), (m39, .inl (.inl (kA 1, 60, .inl q27242)))]) rfl (by decide +kernel) [0, 5, 1, 6, 7] (lv' := [(4, .int (nI (v4_64_2603 + 1))), (3, .int (nI v3_53_2594)), (2, .int (nI v2_64_2603)), (0, .ref m), (1, .int (nI j27241))]) rfl ?_
                                          exact ih64_2603 (v4_64_2603 + 1) v2_64_2603 (upd fm43_64_2603 ((2 * (v3_53_2594 + v7_146_2606)) + j28484) (vp_nar .boolean 1)) (show (v4_64_2603 + 1) ≤ 100000 by first | assumption | omega) (show v2_64_2603 ≤ 100000 by first | assumption | omega) (show 100001 - (v4_64_2603 + 1) < m64_2603 by first | exact Nat.lt_of_lt_of_le (Nat.sub_lt_sub_left (Nat.lt_of_le_of_lt (show v4_64_2603 ≤ 100000 by assumption) (Nat.lt_succ_self 100000)) (Nat.lt_succ_self v4_64_2603)) (Nat.le_of_lt_succ hm64_2603) | omega)
                                      · have z28531n : ¬ (v3_53_2594 + v7_146_2606) ≤ v2_64_2603 := fun q9 => z28531 ((nI_leI (a := (v3_53_2594 + v7_146_2606)) (b := v2_64_2603) (by omega) (by omega)).mpr q9)
                                        refine j_iload_n h 4 rfl rfl dX12_stuck_213 ?_
                                        refine j_iload h 0 rfl dX12_stuck_214 ?_
                                        refine j_iadd h dX12_stuck_216 ?_
                                        refine j_top (b := nI (v3_53_2594 + v7_146_2606)) (nI_add v3_53_2594 v7_146_2606) ?_
                                        refine j_goto h 221 dX12_stuck_217 (by decide) ?_
                                        refine j_istore_n (lv' := [(2, .int (nI (v3_53_2594 + v7_146_2606))), (7, .int (nI v7_146_2606)), (6, .int (nI (v4_64_2603 % 2))), (5, .int (nI (v4_64_2603 / 2))), (4, .int (nI v4_64_2603)), (3, .int (nI v3_53_2594)), (0, .ref m), (1, .int (nI j27241))]) h dX12_stuck_221 rfl (by decide) rfl ?_
                                        refine j_iload h 1 rfl dX12_stuck_222 ?_
                                        refine j_aload_n h 6 rfl rfl dX12_stuck_224 ?_
                                        refine jm_get h iw_X12 8 rfl rfl 31 (by decide +kernel) tw_1187 rfl dX12_stuck_225 ?_
                                        refine j_iload h 3 rfl dX12_stuck_228 ?_
                                        refine jm_iald h 0 rfl (v4_64_2603 / 2) rfl (by omega) (by omega) dX12_stuck_230 ?_
                                        refine j_top (b := nI t28485) (u28488) ?_
                                        refine j_icmp_ne h 259 dX12_stuck_231 (by decide) (fun z28533 => ?_) (fun z28533 => ?_)
                                        · have z28533n : ¬ v7_146_2606 = t28485 := fun q9 => z28533 ((nI_eq (a := v7_146_2606) (b := t28485) (by omega) (by omega)).mpr q9)
                                          refine j_iinc (v := nI (v4_64_2603 + 1)) (lv' := [(4, .int (nI (v4_64_2603 + 1))), (2, .int (nI (v3_53_2594 + v7_146_2606))), (7, .int (nI v7_146_2606)), (6, .int (nI (v4_64_2603 % 2))), (5, .int (nI (v4_64_2603 / 2))), (3, .int (nI v3_53_2594)), (0, .ref m), (1, .int (nI j27241))]) h dX12_stuck_259 4 rfl (nI_add v4_64_2603 1) (by decide) rfl ?_
                                          refine j_goto h 64 dX12_stuck_262 (by decide) ?_
                                          refine jm_sub [9, 0, 1, 2, 3, 8, 4, 5, 6, 7] (w' := [(m24, .inl (.inl (kA 1, 4, .inl mc24))), (m31, .inl (.inl (kA 1, 10, .inl mc31))), (m32, .inl (.inl (kA 1, 450, .inl mc32))), (m33, .inl (.inl (kA 1, 20, .inl mc33))), (m43, .inl (.inl (kA 3, 122, .inl fm43_64_2603))), (m, .inl (.inr (12, (.ref m0 :: .int (nI mtp) :: .int (nI mfa) :: .int mfp :: .int (nI mat) :: .int (nI msz) :: .int (nI mso) :: .int mpl :: .int mnu :: .long mwd :: .ref m10 :: .ref m11 :: .ref m12 :: .ref m13 :: .ref m14 :: .ref m15 :: .ref m16 :: .ref m17 :: .ref m18 :: .ref m19 :: .ref m20 :: .ref m21 :: .ref m22 :: .ref m23 :: .ref m24 :: .int (nI mns) :: .int (nI mnl) :: .int (nI mne) :: .int (nI mst) :: .int (nI mlt) :: .int (nI mer) :: .ref m31 :: .ref m32 :: .ref m33 :: .ref m34 :: .ref m35 :: .int (nI mwm) :: .int (nI mwt) :: .int (nI mwf) :: .ref m39 :: .ref m40 :: .ref m41 :: .int (nI mla) :: .ref m43 :: .ref m44 :: .ref m45 :: .ref m46 :: .ref m47 :: .ref m48 :: .int (nI mtm) :: .ref m50 :: .ref m51 :: .ref m52 :: .ref m53 :: .ref m54 :: .ref m55 :: .ref m56 :: .ref m57 :: .ref m58 :: .ref m59 :: .ref m60 :: .ref m61 :: .int (nI msn) :: .int (nI mti) :: .ref m64 :: .ref m65 :: .ref m66 :: .ref m67 :: .ref m68 :: .ref m69 :: [])))), (m19, .inl (.inl (kA 1, 6, .inl mc19))), (m23, .inl (.inl (kA 1, 4, .inl mc23))), (m34, .inl (.inl (kA 1, 60, .inl mc34))), (m39, .inl (.inl (kA 1, 60, .inl q27242)))]) rfl (by decide +kernel) [0, 5, 1, 6, 7] (lv' := [(4, .int (nI (v4_64_2603 + 1))), (3, .int (nI v3_53_2594)), (2, .int (nI (v3_53_2594 + v7_146_2606))), (0, .ref m), (1, .int (nI j27241))]) rfl ?_
                                          exact ih64_2603 (v4_64_2603 + 1) (v3_53_2594 + v7_146_2606) fm43_64_2603 (show (v4_64_2603 + 1) ≤ 100000 by first | assumption | omega) (show (v3_53_2594 + v7_146_2606) ≤ 100000 by first | assumption | omega) (show 100001 - (v4_64_2603 + 1) < m64_2603 by first | exact Nat.lt_of_lt_of_le (Nat.sub_lt_sub_left (Nat.lt_of_le_of_lt (show v4_64_2603 ≤ 100000 by assumption) (Nat.lt_succ_self 100000)) (Nat.lt_succ_self v4_64_2603)) (Nat.le_of_lt_succ hm64_2603) | omega)
                                        · have z28533n : v7_146_2606 = t28485 := (nI_eq (a := v7_146_2606) (b := t28485) (by omega) (by omega)).mp z28533
                                          refine j_aload_n h 6 rfl rfl dX12_stuck_234 ?_
                                          refine jm_get h iw_X12 8 rfl rfl 43 (by decide +kernel) tw_1199 rfl dX12_stuck_235 ?_
                                          refine j_iconst (v := 2) h (by decide) dX12_stuck_238 ?_
                                          refine j_iload_n h 5 rfl rfl dX12_stuck_239 ?_
                                          refine j_iload h 1 rfl dX12_stuck_240 ?_
                                          refine j_iadd h dX12_stuck_242 ?_
                                          refine j_top (b := nI (v3_53_2594 + v7_146_2606)) (nI_add v3_53_2594 v7_146_2606) ?_
                                          refine j_imul h dX12_stuck_243 ?_
                                          refine j_top (b := nI (2 * (v3_53_2594 + v7_146_2606))) (pk_mul 2 (v3_53_2594 + v7_146_2606)) ?_
                                          refine j_aload_n h 6 rfl rfl dX12_stuck_244 ?_
                                          refine jm_get h iw_X12 8 rfl rfl 33 (by decide +kernel) tw_1189 rfl dX12_stuck_245 ?_
                                          refine j_iconst (v := 2) h (by decide) dX12_stuck_248 ?_
                                          refine j_iload h 3 rfl dX12_stuck_249 ?_
                                          refine j_imul h dX12_stuck_251 ?_
                                          refine j_top (b := nI (2 * (v4_64_2603 / 2))) (pk_mul 2 (v4_64_2603 / 2)) ?_
                                          refine j_iload h 2 rfl dX12_stuck_252 ?_
                                          refine j_iadd h dX12_stuck_254 ?_
                                          refine j_top (b := nI ((2 * (v4_64_2603 / 2)) + (v4_64_2603 % 2))) (nI_add (2 * (v4_64_2603 / 2)) (v4_64_2603 % 2)) ?_
                                          refine jm_iald h 2 rfl ((2 * (v4_64_2603 / 2)) + (v4_64_2603 % 2)) rfl (by omega) (by omega) dX12_stuck_255 ?_
                                          refine j_top (b := nI j28484) (u28483) ?_
                                          refine j_iadd h dX12_stuck_256 ?_
                                          refine j_top (b := nI ((2 * (v3_53_2594 + v7_146_2606)) + j28484)) (nI_add (2 * (v3_53_2594 + v7_146_2606)) j28484) ?_
                                          refine j_iconst (v := 1) h (by decide) dX12_stuck_257 ?_
                                          refine jm_zast (w' := [(m31, .inl (.inl (kA 1, 10, .inl mc31))), (m32, .inl (.inl (kA 1, 450, .inl mc32))), (m33, .inl (.inl (kA 1, 20, .inl mc33))), (m43, .inl (.inl (kA 3, 122, .inl (upd fm43_64_2603 ((2 * (v3_53_2594 + v7_146_2606)) + j28484) (vp_nar .boolean 1))))), (m19, .inl (.inl (kA 1, 6, .inl mc19))), (m23, .inl (.inl (kA 1, 4, .inl mc23))), (m34, .inl (.inl (kA 1, 60, .inl mc34))), (m39, .inl (.inl (kA 1, 60, .inl q27242))), (m, .inl (.inr (12, (.ref m0 :: .int (nI mtp) :: .int (nI mfa) :: .int mfp :: .int (nI mat) :: .int (nI msz) :: .int (nI mso) :: .int mpl :: .int mnu :: .long mwd :: .ref m10 :: .ref m11 :: .ref m12 :: .ref m13 :: .ref m14 :: .ref m15 :: .ref m16 :: .ref m17 :: .ref m18 :: .ref m19 :: .ref m20 :: .ref m21 :: .ref m22 :: .ref m23 :: .ref m24 :: .int (nI mns) :: .int (nI mnl) :: .int (nI mne) :: .int (nI mst) :: .int (nI mlt) :: .int (nI mer) :: .ref m31 :: .ref m32 :: .ref m33 :: .ref m34 :: .ref m35 :: .int (nI mwm) :: .int (nI mwt) :: .int (nI mwf) :: .ref m39 :: .ref m40 :: .ref m41 :: .int (nI mla) :: .ref m43 :: .ref m44 :: .ref m45 :: .ref m46 :: .ref m47 :: .ref m48 :: .int (nI mtm) :: .ref m50 :: .ref m51 :: .ref m52 :: .ref m53 :: .ref m54 :: .ref m55 :: .ref m56 :: .ref m57 :: .ref m58 :: .ref m59 :: .ref m60 :: .ref m61 :: .int (nI msn) :: .int (nI mti) :: .ref m64 :: .ref m65 :: .ref m66 :: .ref m67 :: .ref m68 :: .ref m69 :: [])))), (m24, .inl (.inl (kA 1, 4, .inl mc24)))]) h 3 rfl ((2 * (v3_53_2594 + v7_146_2606)) + j28484) rfl (by omega) (by omega) dX12_stuck_258 rfl ?_
                                          refine j_iinc (v := nI (v4_64_2603 + 1)) (lv' := [(4, .int (nI (v4_64_2603 + 1))), (2, .int (nI (v3_53_2594 + v7_146_2606))), (7, .int (nI v7_146_2606)), (6, .int (nI (v4_64_2603 % 2))), (5, .int (nI (v4_64_2603 / 2))), (3, .int (nI v3_53_2594)), (0, .ref m), (1, .int (nI j27241))]) h dX12_stuck_259 4 rfl (nI_add v4_64_2603 1) (by decide) rfl ?_
                                          refine j_goto h 64 dX12_stuck_262 (by decide) ?_
                                          refine jm_sub [9, 0, 1, 2, 3, 8, 4, 5, 6, 7] (w' := [(m24, .inl (.inl (kA 1, 4, .inl mc24))), (m31, .inl (.inl (kA 1, 10, .inl mc31))), (m32, .inl (.inl (kA 1, 450, .inl mc32))), (m33, .inl (.inl (kA 1, 20, .inl mc33))), (m43, .inl (.inl (kA 3, 122, .inl (upd fm43_64_2603 ((2 * (v3_53_2594 + v7_146_2606)) + j28484) (vp_nar .boolean 1))))), (m, .inl (.inr (12, (.ref m0 :: .int (nI mtp) :: .int (nI mfa) :: .int mfp :: .int (nI mat) :: .int (nI msz) :: .int (nI mso) :: .int mpl :: .int mnu :: .long mwd :: .ref m10 :: .ref m11 :: .ref m12 :: .ref m13 :: .ref m14 :: .ref m15 :: .ref m16 :: .ref m17 :: .ref m18 :: .ref m19 :: .ref m20 :: .ref m21 :: .ref m22 :: .ref m23 :: .ref m24 :: .int (nI mns) :: .int (nI mnl) :: .int (nI mne) :: .int (nI mst) :: .int (nI mlt) :: .int (nI mer) :: .ref m31 :: .ref m32 :: .ref m33 :: .ref m34 :: .ref m35 :: .int (nI mwm) :: .int (nI mwt) :: .int (nI mwf) :: .ref m39 :: .ref m40 :: .ref m41 :: .int (nI mla) :: .ref m43 :: .ref m44 :: .ref m45 :: .ref m46 :: .ref m47 :: .ref m48 :: .int (nI mtm) :: .ref m50 :: .ref m51 :: .ref m52 :: .ref m53 :: .ref m54 :: .ref m55 :: .ref m56 :: .ref m57 :: .ref m58 :: .ref m59 :: .ref m60 :: .ref m61 :: .int (nI msn) :: .int (nI mti) :: .ref m64 :: .ref m65 :: .ref m66 :: .ref m67 :: .ref m68 :: .ref m69 :: [])))), (m19, .inl (.inl (kA 1, 6, .inl mc19))), (m23, .inl (.inl (kA 1, 4, .inl mc23))), (m34, .inl (.inl (kA 1, 60, .inl mc34))), (m39, .inl (.inl (kA 1, 60, .inl q27242)))]) rfl (by decide +kernel) [0, 5, 1, 6, 7] (lv' := [(4, .int (nI (v4_64_2603 + 1))), (3, .int (nI v3_53_2594)), (2, .int (nI (v3_53_2594 + v7_146_2606))), (0, .ref m), (1, .int (nI j27241))]) rfl ?_
                                          exact ih64_2603 (v4_64_2603 + 1) (v3_53_2594 + v7_146_2606) (upd fm43_64_2603 ((2 * (v3_53_2594 + v7_146_2606)) + j28484) (vp_nar .boolean 1)) (show (v4_64_2603 + 1) ≤ 100000 by first | assumption | omega) (show (v3_53_2594 + v7_146_2606) ≤ 100000 by first | assumption | omega) (show 100001 - (v4_64_2603 + 1) < m64_2603 by first | exact Nat.lt_of_lt_of_le (Nat.sub_lt_sub_left (Nat.lt_of_le_of_lt (show v4_64_2603 ≤ 100000 by assumption) (Nat.lt_succ_self 100000)) (Nat.lt_succ_self v4_64_2603)) (Nat.le_of_lt_succ hm64_2603) | omega)
                                    · have z28530n : ¬ mwt ≤ (v3_53_2594 + v7_146_2606) := fun q9 => z28530 ((nI_leI (a := mwt) (b := (v3_53_2594 + v7_146_2606)) (by omega) (by omega)).mpr q9)
                                      refine j_aload_n h 6 rfl rfl dX12_stuck_169 ?_
                                      refine j_iload_n h 7 rfl rfl dX12_stuck_170 ?_
                                      refine j_aload_n h 6 rfl rfl dX12_stuck_171 ?_
                                      refine jm_get h iw_X12 8 rfl rfl 32 (by decide +kernel) tw_1188 rfl dX12_stuck_172 ?_
                                      refine j_bipush (v := 45) h (by decide) dX12_stuck_175 ?_
                                      refine j_iload h 2 rfl dX12_stuck_177 ?_
                                      refine j_imul h dX12_stuck_179 ?_
                                      refine j_top (b := nI (45 * (v4_64_2603 / 2))) (pk_mul 45 (v4_64_2603 / 2)) ?_
                                      refine j_iload h 0 rfl dX12_stuck_180 ?_
                                      refine j_iadd h dX12_stuck_182 ?_
                                      refine j_top (b := nI ((45 * (v4_64_2603 / 2)) + v7_146_2606)) (nI_add (45 * (v4_64_2603 / 2)) v7_146_2606) ?_
                                      refine jm_iald h 1 rfl ((45 * (v4_64_2603 / 2)) + v7_146_2606) rfl (by omega) (by omega) dX12_stuck_183 ?_
                                      obtain ⟨t28534, u28535, u28536⟩ := (show WkOk 450 mc32 by assumption) ((45 * (v4_64_2603 / 2)) + v7_146_2606) (by omega)
                                      refine j_top (b := pm t28534) (u28536) ?_
                                      refine jm_callVi (np := 2) (isC := [8, 4, 5]) (isR := [0, 1, 2, 3, 6, 7, 9]) (wc := [(m, .inl (.inr (12, (.ref m0 :: .int (nI mtp) :: .int (nI mfa) :: .int mfp :: .int (nI mat) :: .int (nI msz) :: .int (nI mso) :: .int mpl :: .int mnu :: .long mwd :: .ref m10 :: .ref m11 :: .ref m12 :: .ref m13 :: .ref m14 :: .ref m15 :: .ref m16 :: .ref m17 :: .ref m18 :: .ref m19 :: .ref m20 :: .ref m21 :: .ref m22 :: .ref m23 :: .ref m24 :: .int (nI mns) :: .int (nI mnl) :: .int (nI mne) :: .int (nI mst) :: .int (nI mlt) :: .int (nI mer) :: .ref m31 :: .ref m32 :: .ref m33 :: .ref m34 :: .ref m35 :: .int (nI mwm) :: .int (nI mwt) :: .int (nI mwf) :: .ref m39 :: .ref m40 :: .ref m41 :: .int (nI mla) :: .ref m43 :: .ref m44 :: .ref m45 :: .ref m46 :: .ref m47 :: .ref m48 :: .int (nI mtm) :: .ref m50 :: .ref m51 :: .ref m52 :: .ref m53 :: .ref m54 :: .ref m55 :: .ref m56 :: .ref m57 :: .ref m58 :: .ref m59 :: .ref m60 :: .ref m61 :: .int (nI msn) :: .int (nI mti) :: .ref m64 :: .ref m65 :: .ref m66 :: .ref m67 :: .ref m68 :: .ref m69 :: [])))), (m19, .inl (.inl (kA 1, 6, .inl mc19))), (m23, .inl (.inl (kA 1, 4, .inl mc23)))]) (wr := [(m31, .inl (.inl (kA 1, 10, .inl mc31))), (m32, .inl (.inl (kA 1, 450, .inl mc32))), (m33, .inl (.inl (kA 1, 20, .inl mc33))), (m43, .inl (.inl (kA 3, 122, .inl fm43_64_2603))), (m34, .inl (.inl (kA 1, 60, .inl mc34))), (m39, .inl (.inl (kA 1, 60, .inl q27242))), (m24, .inl (.inl (kA 1, 4, .inl mc24)))]) (rest := []) (As := [.int (nI j27241), .int (pm t28534)]) (q0 := 0) h (s_X12_hearsF _ _ kA m j27241 t28534 m0 mtp mfa mfp mat msz mso mpl mnu mwd m10 m11 m12 m13 m14 m15 m16 m17 m18 m19 m20 m21 m22 m23 m24 mns mnl mne mst mlt mer m31 m32 m33 m34 m35 mwm mwt mwf m39 m40 m41 mla m43 m44 m45 m46 m47 m48 mtm m50 m51 m52 m53 m54 m55 m56 m57 m58 m59 m60 m61 msn mti m64 m65 m66 m67 m68 m69 mc19 mc23 (show j27241 < 4 by first | assumption | omega) (show t28534 ≤ 6 by first | assumption | omega)) tw_1510 tw_1512 tw_61 tw_99 tw_1513 (by decide +kernel) rfl ⟨Nat.le_of_ble_eq_true rfl, Nat.le_of_ble_eq_true rfl⟩ rfl rfl (by decide +kernel) rfl rfl (by decide +kernel) (by decide +kernel) (Nat.le_of_ble_eq_true rfl) rfl ⟨Nat.le_of_ble_eq_true rfl, Nat.le_of_ble_eq_true rfl⟩ dX12_stuck_184 ?_
                                      rintro r28538 _ e28537
                                      have p28539 := e28537
                                      subst p28539
                                      show J x (mflat [(m31, .inl (.inl (kA 1, 10, .inl mc31))), (m32, .inl (.inl (kA 1, 450, .inl mc32))), (m33, .inl (.inl (kA 1, 20, .inl mc33))), (m43, .inl (.inl (kA 3, 122, .inl fm43_64_2603))), (m34, .inl (.inl (kA 1, 60, .inl mc34))), (m39, .inl (.inl (kA 1, 60, .inl q27242))), (m24, .inl (.inl (kA 1, 4, .inl mc24))), (m, .inl (.inr (12, (.ref m0 :: .int (nI mtp) :: .int (nI mfa) :: .int mfp :: .int (nI mat) :: .int (nI msz) :: .int (nI mso) :: .int mpl :: .int mnu :: .long mwd :: .ref m10 :: .ref m11 :: .ref m12 :: .ref m13 :: .ref m14 :: .ref m15 :: .ref m16 :: .ref m17 :: .ref m18 :: .ref m19 :: .ref m20 :: .ref m21 :: .ref m22 :: .ref m23 :: .ref m24 :: .int (nI mns) :: .int (nI mnl) :: .int (nI mne) :: .int (nI mst) :: .int (nI mlt) :: .int (nI mer) :: .ref m31 :: .ref m32 :: .ref m33 :: .ref m34 :: .ref m35 :: .int (nI mwm) :: .int (nI mwt) :: .int (nI mwf) :: .ref m39 :: .ref m40 :: .ref m41 :: .int (nI mla) :: .ref m43 :: .ref m44 :: .ref m45 :: .ref m46 :: .ref m47 :: .ref m48 :: .int (nI mtm) :: .ref m50 :: .ref m51 :: .ref m52 :: .ref m53 :: .ref m54 :: .ref m55 :: .ref m56 :: .ref m57 :: .ref m58 :: .ref m59 :: .ref m60 :: .ref m61 :: .int (nI msn) :: .int (nI mti) :: .ref m64 :: .ref m65 :: .ref m66 :: .ref m67 :: .ref m68 :: .ref m69 :: [])))), (m19, .inl (.inl (kA 1, 6, .inl mc19))), (m23, .inl (.inl (kA 1, 4, .inl mc23)))]) [(7, .int (nI v7_146_2606)), (6, .int (nI (v4_64_2603 % 2))), (5, .int (nI (v4_64_2603 / 2))), (4, .int (nI v4_64_2603)), (3, .int (nI v3_53_2594)), (2, .int (nI v2_64_2603)), (0, .ref m), (1, .int (nI j27241))] 0 0 187 [.int (hearI mc19 mc23 j27241 (pm t28534))]
                                      refine j_aload_n h 6 rfl rfl dX12_stuck_187 ?_
                                      refine jm_get h iw_X12 7 rfl rfl 39 (by decide +kernel) tw_1195 rfl dX12_stuck_188 ?_
                                      refine j_iload_n h 4 rfl rfl dX12_stuck_191 ?_
                                      refine j_iload h 0 rfl dX12_stuck_192 ?_
                                      refine j_iadd h dX12_stuck_194 ?_
                                      refine j_top (b := nI (v3_53_2594 + v7_146_2606)) (nI_add v3_53_2594 v7_146_2606) ?_
                                      refine jm_iald h 5 rfl (v3_53_2594 + v7_146_2606) rfl (by omega) (by omega) dX12_stuck_195 ?_
                                      refine j_icmp_ne h 205 dX12_stuck_196 (by decide) (fun z28540 => ?_) (fun z28540 => ?_)
                                      · show J x (mflat [(m31, .inl (.inl (kA 1, 10, .inl mc31))), (m32, .inl (.inl (kA 1, 450, .inl mc32))), (m33, .inl (.inl (kA 1, 20, .inl mc33))), (m43, .inl (.inl (kA 3, 122, .inl fm43_64_2603))), (m34, .inl (.inl (kA 1, 60, .inl mc34))), (m39, .inl (.inl (kA 1, 60, .inl q27242))), (m24, .inl (.inl (kA 1, 4, .inl mc24))), (m, .inl (.inr (12, (.ref m0 :: .int (nI mtp) :: .int (nI mfa) :: .int mfp :: .int (nI mat) :: .int (nI msz) :: .int (nI mso) :: .int mpl :: .int mnu :: .long mwd :: .ref m10 :: .ref m11 :: .ref m12 :: .ref m13 :: .ref m14 :: .ref m15 :: .ref m16 :: .ref m17 :: .ref m18 :: .ref m19 :: .ref m20 :: .ref m21 :: .ref m22 :: .ref m23 :: .ref m24 :: .int (nI mns) :: .int (nI mnl) :: .int (nI mne) :: .int (nI mst) :: .int (nI mlt) :: .int (nI mer) :: .ref m31 :: .ref m32 :: .ref m33 :: .ref m34 :: .ref m35 :: .int (nI mwm) :: .int (nI mwt) :: .int (nI mwf) :: .ref m39 :: .ref m40 :: .ref m41 :: .int (nI mla) :: .ref m43 :: .ref m44 :: .ref m45 :: .ref m46 :: .ref m47 :: .ref m48 :: .int (nI mtm) :: .ref m50 :: .ref m51 :: .ref m52 :: .ref m53 :: .ref m54 :: .ref m55 :: .ref m56 :: .ref m57 :: .ref m58 :: .ref m59 :: .ref m60 :: .ref m61 :: .int (nI msn) :: .int (nI mti) :: .ref m64 :: .ref m65 :: .ref m66 :: .ref m67 :: .ref m68 :: .ref m69 :: [])))), (m19, .inl (.inl (kA 1, 6, .inl mc19))), (m23, .inl (.inl (kA 1, 4, .inl mc23)))]) [(7, .int (nI v7_146_2606)), (6, .int (nI (v4_64_2603 % 2))), (5, .int (nI (v4_64_2603 / 2))), (4, .int (nI v4_64_2603)), (3, .int (nI v3_53_2594)), (2, .int (nI v2_64_2603)), (0, .ref m), (1, .int (nI j27241))] 0 0 205 []
                                        refine j_iload_n h 4 rfl rfl dX12_stuck_205 ?_
                                        refine j_iload h 0 rfl dX12_stuck_206 ?_
                                        refine j_iadd h dX12_stuck_208 ?_
                                        refine j_top (b := nI (v3_53_2594 + v7_146_2606)) (nI_add v3_53_2594 v7_146_2606) ?_
                                        refine j_iload_n h 5 rfl rfl dX12_stuck_209 ?_
                                        refine j_icmp_le h 220 dX12_stuck_210 (by decide) (fun z28541 => ?_) (fun z28541 => ?_)
                                        · have z28541n : (v3_53_2594 + v7_146_2606) ≤ v2_64_2603 := (nI_leI (a := (v3_53_2594 + v7_146_2606)) (b := v2_64_2603) (by omega) (by omega)).mp z28541
                                          refine j_iload_n h 5 rfl rfl dX12_stuck_220 ?_
                                          refine j_istore_n (lv' := [(2, .int (nI v2_64_2603)), (7, .int (nI v7_146_2606)), (6, .int (nI (v4_64_2603 % 2))), (5, .int (nI (v4_64_2603 / 2))), (4, .int (nI v4_64_2603)), (3, .int (nI v3_53_2594)), (0, .ref m), (1, .int (nI j27241))]) h dX12_stuck_221 rfl (by decide) rfl ?_
                                          refine j_iload h 1 rfl dX12_stuck_222 ?_
                                          refine j_aload_n h 6 rfl rfl dX12_stuck_224 ?_
                                          refine jm_get h iw_X12 7 rfl rfl 31 (by decide +kernel) tw_1187 rfl dX12_stuck_225 ?_
                                          refine j_iload h 3 rfl dX12_stuck_228 ?_
                                          refine jm_iald h 0 rfl (v4_64_2603 / 2) rfl (by omega) (by omega) dX12_stuck_230 ?_
                                          refine j_top (b := nI t28485) (u28488) ?_
                                          refine j_icmp_ne h 259 dX12_stuck_231 (by decide) (fun z28542 => ?_) (fun z28542 => ?_)
                                          · have z28542n : ¬ v7_146_2606 = t28485 := fun q9 => z28542 ((nI_eq (a := v7_146_2606) (b := t28485) (by omega) (by omega)).mpr q9)
                                            refine j_iinc (v := nI (v4_64_2603 + 1)) (lv' := [(4, .int (nI (v4_64_2603 + 1))), (2, .int (nI v2_64_2603)), (7, .int (nI v7_146_2606)), (6, .int (nI (v4_64_2603 % 2))), (5, .int (nI (v4_64_2603 / 2))), (3, .int (nI v3_53_2594)), (0, .ref m), (1, .int (nI j27241))]) h dX12_stuck_259 4 rfl (nI_add v4_64_2603 1) (by decide) rfl ?_
                                            refine j_goto h 64 dX12_stuck_262 (by decide) ?_
                                            refine jm_sub [6, 0, 1, 2, 3, 7, 8, 9, 4, 5] (w' := [(m24, .inl (.inl (kA 1, 4, .inl mc24))), (m31, .inl (.inl (kA 1, 10, .inl mc31))), (m32, .inl (.inl (kA 1, 450, .inl mc32))), (m33, .inl (.inl (kA 1, 20, .inl mc33))), (m43, .inl (.inl (kA 3, 122, .inl fm43_64_2603))), (m, .inl (.inr (12, (.ref m0 :: .int (nI mtp) :: .int (nI mfa) :: .int mfp :: .int (nI mat) :: .int (nI msz) :: .int (nI mso) :: .int mpl :: .int mnu :: .long mwd :: .ref m10 :: .ref m11 :: .ref m12 :: .ref m13 :: .ref m14 :: .ref m15 :: .ref m16 :: .ref m17 :: .ref m18 :: .ref m19 :: .ref m20 :: .ref m21 :: .ref m22 :: .ref m23 :: .ref m24 :: .int (nI mns) :: .int (nI mnl) :: .int (nI mne) :: .int (nI mst) :: .int (nI mlt) :: .int (nI mer) :: .ref m31 :: .ref m32 :: .ref m33 :: .ref m34 :: .ref m35 :: .int (nI mwm) :: .int (nI mwt) :: .int (nI mwf) :: .ref m39 :: .ref m40 :: .ref m41 :: .int (nI mla) :: .ref m43 :: .ref m44 :: .ref m45 :: .ref m46 :: .ref m47 :: .ref m48 :: .int (nI mtm) :: .ref m50 :: .ref m51 :: .ref m52 :: .ref m53 :: .ref m54 :: .ref m55 :: .ref m56 :: .ref m57 :: .ref m58 :: .ref m59 :: .ref m60 :: .ref m61 :: .int (nI msn) :: .int (nI mti) :: .ref m64 :: .ref m65 :: .ref m66 :: .ref m67 :: .ref m68 :: .ref m69 :: [])))), (m19, .inl (.inl (kA 1, 6, .inl mc19))), (m23, .inl (.inl (kA 1, 4, .inl mc23))), (m34, .inl (.inl (kA 1, 60, .inl mc34))), (m39, .inl (.inl (kA 1, 60, .inl q27242)))]) rfl (by decide +kernel) [0, 5, 1, 6, 7] (lv' := [(4, .int (nI (v4_64_2603 + 1))), (3, .int (nI v3_53_2594)), (2, .int (nI v2_64_2603)), (0, .ref m), (1, .int (nI j27241))]) rfl ?_
                                            exact ih64_2603 (v4_64_2603 + 1) v2_64_2603 fm43_64_2603 (show (v4_64_2603 + 1) ≤ 100000 by first | assumption | omega) (show v2_64_2603 ≤ 100000 by first | assumption | omega) (show 100001 - (v4_64_2603 + 1) < m64_2603 by first | exact Nat.lt_of_lt_of_le (Nat.sub_lt_sub_left (Nat.lt_of_le_of_lt (show v4_64_2603 ≤ 100000 by assumption) (Nat.lt_succ_self 100000)) (Nat.lt_succ_self v4_64_2603)) (Nat.le_of_lt_succ hm64_2603) | omega)
                                          · have z28542n : v7_146_2606 = t28485 := (nI_eq (a := v7_146_2606) (b := t28485) (by omega) (by omega)).mp z28542
                                            refine j_aload_n h 6 rfl rfl dX12_stuck_234 ?_
                                            refine jm_get h iw_X12 7 rfl rfl 43 (by decide +kernel) tw_1199 rfl dX12_stuck_235 ?_
                                            refine j_iconst (v := 2) h (by decide) dX12_stuck_238 ?_
                                            refine j_iload_n h 5 rfl rfl dX12_stuck_239 ?_
                                            refine j_iload h 1 rfl dX12_stuck_240 ?_
                                            refine j_iadd h dX12_stuck_242 ?_
                                            refine j_top (b := nI (v3_53_2594 + v7_146_2606)) (nI_add v3_53_2594 v7_146_2606) ?_
                                            refine j_imul h dX12_stuck_243 ?_
                                            refine j_top (b := nI (2 * (v3_53_2594 + v7_146_2606))) (pk_mul 2 (v3_53_2594 + v7_146_2606)) ?_
                                            refine j_aload_n h 6 rfl rfl dX12_stuck_244 ?_
                                            refine jm_get h iw_X12 7 rfl rfl 33 (by decide +kernel) tw_1189 rfl dX12_stuck_245 ?_
                                            refine j_iconst (v := 2) h (by decide) dX12_stuck_248 ?_
                                            refine j_iload h 3 rfl dX12_stuck_249 ?_
                                            refine j_imul h dX12_stuck_251 ?_
                                            refine j_top (b := nI (2 * (v4_64_2603 / 2))) (pk_mul 2 (v4_64_2603 / 2)) ?_
                                            refine j_iload h 2 rfl dX12_stuck_252 ?_
                                            refine j_iadd h dX12_stuck_254 ?_
                                            refine j_top (b := nI ((2 * (v4_64_2603 / 2)) + (v4_64_2603 % 2))) (nI_add (2 * (v4_64_2603 / 2)) (v4_64_2603 % 2)) ?_
                                            refine jm_iald h 2 rfl ((2 * (v4_64_2603 / 2)) + (v4_64_2603 % 2)) rfl (by omega) (by omega) dX12_stuck_255 ?_
                                            refine j_top (b := nI j28484) (u28483) ?_
                                            refine j_iadd h dX12_stuck_256 ?_
                                            refine j_top (b := nI ((2 * (v3_53_2594 + v7_146_2606)) + j28484)) (nI_add (2 * (v3_53_2594 + v7_146_2606)) j28484) ?_
                                            refine j_iconst (v := 1) h (by decide) dX12_stuck_257 ?_
                                            refine jm_zast (w' := [(m31, .inl (.inl (kA 1, 10, .inl mc31))), (m32, .inl (.inl (kA 1, 450, .inl mc32))), (m33, .inl (.inl (kA 1, 20, .inl mc33))), (m43, .inl (.inl (kA 3, 122, .inl (upd fm43_64_2603 ((2 * (v3_53_2594 + v7_146_2606)) + j28484) (vp_nar .boolean 1))))), (m34, .inl (.inl (kA 1, 60, .inl mc34))), (m39, .inl (.inl (kA 1, 60, .inl q27242))), (m24, .inl (.inl (kA 1, 4, .inl mc24))), (m, .inl (.inr (12, (.ref m0 :: .int (nI mtp) :: .int (nI mfa) :: .int mfp :: .int (nI mat) :: .int (nI msz) :: .int (nI mso) :: .int mpl :: .int mnu :: .long mwd :: .ref m10 :: .ref m11 :: .ref m12 :: .ref m13 :: .ref m14 :: .ref m15 :: .ref m16 :: .ref m17 :: .ref m18 :: .ref m19 :: .ref m20 :: .ref m21 :: .ref m22 :: .ref m23 :: .ref m24 :: .int (nI mns) :: .int (nI mnl) :: .int (nI mne) :: .int (nI mst) :: .int (nI mlt) :: .int (nI mer) :: .ref m31 :: .ref m32 :: .ref m33 :: .ref m34 :: .ref m35 :: .int (nI mwm) :: .int (nI mwt) :: .int (nI mwf) :: .ref m39 :: .ref m40 :: .ref m41 :: .int (nI mla) :: .ref m43 :: .ref m44 :: .ref m45 :: .ref m46 :: .ref m47 :: .ref m48 :: .int (nI mtm) :: .ref m50 :: .ref m51 :: .ref m52 :: .ref m53 :: .ref m54 :: .ref m55 :: .ref m56 :: .ref m57 :: .ref m58 :: .ref m59 :: .ref m60 :: .ref m61 :: .int (nI msn) :: .int (nI mti) :: .ref m64 :: .ref m65 :: .ref m66 :: .ref m67 :: .ref m68 :: .ref m69 :: [])))), (m19, .inl (.inl (kA 1, 6, .inl mc19))), (m23, .inl (.inl (kA 1, 4, .inl mc23)))]) h 3 rfl ((2 * (v3_53_2594 + v7_146_2606)) + j28484) rfl (by omega) (by omega) dX12_stuck_258 rfl ?_
                                            refine j_iinc (v := nI (v4_64_2603 + 1)) (lv' := [(4, .int (nI (v4_64_2603 + 1))), (2, .int (nI v2_64_2603)), (7, .int (nI v7_146_2606)), (6, .int (nI (v4_64_2603 % 2))), (5, .int (nI (v4_64_2603 / 2))), (3, .int (nI v3_53_2594)), (0, .ref m), (1, .int (nI j27241))]) h dX12_stuck_259 4 rfl (nI_add v4_64_2603 1) (by decide) rfl ?_
                                            refine j_goto h 64 dX12_stuck_262 (by decide) ?_
                                            refine jm_sub [6, 0, 1, 2, 3, 7, 8, 9, 4, 5] (w' := [(m24, .inl (.inl (kA 1, 4, .inl mc24))), (m31, .inl (.inl (kA 1, 10, .inl mc31))), (m32, .inl (.inl (kA 1, 450, .inl mc32))), (m33, .inl (.inl (kA 1, 20, .inl mc33))), (m43, .inl (.inl (kA 3, 122, .inl (upd fm43_64_2603 ((2 * (v3_53_2594 + v7_146_2606)) + j28484) (vp_nar .boolean 1))))), (m, .inl (.inr (12, (.ref m0 :: .int (nI mtp) :: .int (nI mfa) :: .int mfp :: .int (nI mat) :: .int (nI msz) :: .int (nI mso) :: .int mpl :: .int mnu :: .long mwd :: .ref m10 :: .ref m11 :: .ref m12 :: .ref m13 :: .ref m14 :: .ref m15 :: .ref m16 :: .ref m17 :: .ref m18 :: .ref m19 :: .ref m20 :: .ref m21 :: .ref m22 :: .ref m23 :: .ref m24 :: .int (nI mns) :: .int (nI mnl) :: .int (nI mne) :: .int (nI mst) :: .int (nI mlt) :: .int (nI mer) :: .ref m31 :: .ref m32 :: .ref m33 :: .ref m34 :: .ref m35 :: .int (nI mwm) :: .int (nI mwt) :: .int (nI mwf) :: .ref m39 :: .ref m40 :: .ref m41 :: .int (nI mla) :: .ref m43 :: .ref m44 :: .ref m45 :: .ref m46 :: .ref m47 :: .ref m48 :: .int (nI mtm) :: .ref m50 :: .ref m51 :: .ref m52 :: .ref m53 :: .ref m54 :: .ref m55 :: .ref m56 :: .ref m57 :: .ref m58 :: .ref m59 :: .ref m60 :: .ref m61 :: .int (nI msn) :: .int (nI mti) :: .ref m64 :: .ref m65 :: .ref m66 :: .ref m67 :: .ref m68 :: .ref m69 :: [])))), (m19, .inl (.inl (kA 1, 6, .inl mc19))), (m23, .inl (.inl (kA 1, 4, .inl mc23))), (m34, .inl (.inl (kA 1, 60, .inl mc34))), (m39, .inl (.inl (kA 1, 60, .inl q27242)))]) rfl (by decide +kernel) [0, 5, 1, 6, 7] (lv' := [(4, .int (nI (v4_64_2603 + 1))), (3, .int (nI v3_53_2594)), (2, .int (nI v2_64_2603)), (0, .ref m), (1, .int (nI j27241))]) rfl ?_
                                            exact ih64_2603 (v4_64_2603 + 1) v2_64_2603 (upd fm43_64_2603 ((2 * (v3_53_2594 + v7_146_2606)) + j28484) (vp_nar .boolean 1)) (show (v4_64_2603 + 1) ≤ 100000 by first | assumption | omega) (show v2_64_2603 ≤ 100000 by first | assumption | omega) (show 100001 - (v4_64_2603 + 1) < m64_2603 by first | exact Nat.lt_of_lt_of_le (Nat.sub_lt_sub_left (Nat.lt_of_le_of_lt (show v4_64_2603 ≤ 100000 by assumption) (Nat.lt_succ_self 100000)) (Nat.lt_succ_self v4_64_2603)) (Nat.le_of_lt_succ hm64_2603) | omega)
                                        · have z28541n : ¬ (v3_53_2594 + v7_146_2606) ≤ v2_64_2603 := fun q9 => z28541 ((nI_leI (a := (v3_53_2594 + v7_146_2606)) (b := v2_64_2603) (by omega) (by omega)).mpr q9)
                                          refine j_iload_n h 4 rfl rfl dX12_stuck_213 ?_
                                          refine j_iload h 0 rfl dX12_stuck_214 ?_
                                          refine j_iadd h dX12_stuck_216 ?_
                                          refine j_top (b := nI (v3_53_2594 + v7_146_2606)) (nI_add v3_53_2594 v7_146_2606) ?_
                                          refine j_goto h 221 dX12_stuck_217 (by decide) ?_
                                          refine j_istore_n (lv' := [(2, .int (nI (v3_53_2594 + v7_146_2606))), (7, .int (nI v7_146_2606)), (6, .int (nI (v4_64_2603 % 2))), (5, .int (nI (v4_64_2603 / 2))), (4, .int (nI v4_64_2603)), (3, .int (nI v3_53_2594)), (0, .ref m), (1, .int (nI j27241))]) h dX12_stuck_221 rfl (by decide) rfl ?_
                                          refine j_iload h 1 rfl dX12_stuck_222 ?_
                                          refine j_aload_n h 6 rfl rfl dX12_stuck_224 ?_
                                          refine jm_get h iw_X12 7 rfl rfl 31 (by decide +kernel) tw_1187 rfl dX12_stuck_225 ?_
                                          refine j_iload h 3 rfl dX12_stuck_228 ?_
                                          refine jm_iald h 0 rfl (v4_64_2603 / 2) rfl (by omega) (by omega) dX12_stuck_230 ?_
                                          refine j_top (b := nI t28485) (u28488) ?_
                                          refine j_icmp_ne h 259 dX12_stuck_231 (by decide) (fun z28543 => ?_) (fun z28543 => ?_)
                                          · have z28543n : ¬ v7_146_2606 = t28485 := fun q9 => z28543 ((nI_eq (a := v7_146_2606) (b := t28485) (by omega) (by omega)).mpr q9)
                                            refine j_iinc (v := nI (v4_64_2603 + 1)) (lv' := [(4, .int (nI (v4_64_2603 + 1))), (2, .int (nI (v3_53_2594 + v7_146_2606))), (7, .int (nI v7_146_2606)), (6, .int (nI (v4_64_2603 % 2))), (5, .int (nI (v4_64_2603 / 2))), (3, .int (nI v3_53_2594)), (0, .ref m), (1, .int (nI j27241))]) h dX12_stuck_259 4 rfl (nI_add v4_64_2603 1) (by decide) rfl ?_
                                            refine j_goto h 64 dX12_stuck_262 (by decide) ?_
                                            refine jm_sub [6, 0, 1, 2, 3, 7, 8, 9, 4, 5] (w' := [(m24, .inl (.inl (kA 1, 4, .inl mc24))), (m31, .inl (.inl (kA 1, 10, .inl mc31))), (m32, .inl (.inl (kA 1, 450, .inl mc32))), (m33, .inl (.inl (kA 1, 20, .inl mc33))), (m43, .inl (.inl (kA 3, 122, .inl fm43_64_2603))), (m, .inl (.inr (12, (.ref m0 :: .int (nI mtp) :: .int (nI mfa) :: .int mfp :: .int (nI mat) :: .int (nI msz) :: .int (nI mso) :: .int mpl :: .int mnu :: .long mwd :: .ref m10 :: .ref m11 :: .ref m12 :: .ref m13 :: .ref m14 :: .ref m15 :: .ref m16 :: .ref m17 :: .ref m18 :: .ref m19 :: .ref m20 :: .ref m21 :: .ref m22 :: .ref m23 :: .ref m24 :: .int (nI mns) :: .int (nI mnl) :: .int (nI mne) :: .int (nI mst) :: .int (nI mlt) :: .int (nI mer) :: .ref m31 :: .ref m32 :: .ref m33 :: .ref m34 :: .ref m35 :: .int (nI mwm) :: .int (nI mwt) :: .int (nI mwf) :: .ref m39 :: .ref m40 :: .ref m41 :: .int (nI mla) :: .ref m43 :: .ref m44 :: .ref m45 :: .ref m46 :: .ref m47 :: .ref m48 :: .int (nI mtm) :: .ref m50 :: .ref m51 :: .ref m52 :: .ref m53 :: .ref m54 :: .ref m55 :: .ref m56 :: .ref m57 :: .ref m58 :: .ref m59 :: .ref m60 :: .ref m61 :: .int (nI msn) :: .int (nI mti) :: .ref m64 :: .ref m65 :: .ref m66 :: .ref m67 :: .ref m68 :: .ref m69 :: [])))), (m19, .inl (.inl (kA 1, 6, .inl mc19))), (m23, .inl (.inl (kA 1, 4, .inl mc23))), (m34, .inl (.inl (kA 1, 60, .inl mc34))), (m39, .inl (.inl (kA 1, 60, .inl q27242)))]) rfl (by decide +kernel) [0, 5, 1, 6, 7] (lv' := [(4, .int (nI (v4_64_2603 + 1))), (3, .int (nI v3_53_2594)), (2, .int (nI (v3_53_2594 + v7_146_2606))), (0, .ref m), (1, .int (nI j27241))]) rfl ?_
                                            exact ih64_2603 (v4_64_2603 + 1) (v3_53_2594 + v7_146_2606) fm43_64_2603 (show (v4_64_2603 + 1) ≤ 100000 by first | assumption | omega) (show (v3_53_2594 + v7_146_2606) ≤ 100000 by first | assumption | omega) (show 100001 - (v4_64_2603 + 1) < m64_2603 by first | exact Nat.lt_of_lt_of_le (Nat.sub_lt_sub_left (Nat.lt_of_le_of_lt (show v4_64_2603 ≤ 100000 by assumption) (Nat.lt_succ_self 100000)) (Nat.lt_succ_self v4_64_2603)) (Nat.le_of_lt_succ hm64_2603) | omega)
                                          · have z28543n : v7_146_2606 = t28485 := (nI_eq (a := v7_146_2606) (b := t28485) (by omega) (by omega)).mp z28543
                                            refine j_aload_n h 6 rfl rfl dX12_stuck_234 ?_
                                            refine jm_get h iw_X12 7 rfl rfl 43 (by decide +kernel) tw_1199 rfl dX12_stuck_235 ?_
                                            refine j_iconst (v := 2) h (by decide) dX12_stuck_238 ?_
                                            refine j_iload_n h 5 rfl rfl dX12_stuck_239 ?_
                                            refine j_iload h 1 rfl dX12_stuck_240 ?_
                                            refine j_iadd h dX12_stuck_242 ?_
                                            refine j_top (b := nI (v3_53_2594 + v7_146_2606)) (nI_add v3_53_2594 v7_146_2606) ?_
                                            refine j_imul h dX12_stuck_243 ?_
                                            refine j_top (b := nI (2 * (v3_53_2594 + v7_146_2606))) (pk_mul 2 (v3_53_2594 + v7_146_2606)) ?_
                                            refine j_aload_n h 6 rfl rfl dX12_stuck_244 ?_
                                            refine jm_get h iw_X12 7 rfl rfl 33 (by decide +kernel) tw_1189 rfl dX12_stuck_245 ?_
                                            refine j_iconst (v := 2) h (by decide) dX12_stuck_248 ?_
                                            refine j_iload h 3 rfl dX12_stuck_249 ?_
                                            refine j_imul h dX12_stuck_251 ?_
                                            refine j_top (b := nI (2 * (v4_64_2603 / 2))) (pk_mul 2 (v4_64_2603 / 2)) ?_
                                            refine j_iload h 2 rfl dX12_stuck_252 ?_
                                            refine j_iadd h dX12_stuck_254 ?_
                                            refine j_top (b := nI ((2 * (v4_64_2603 / 2)) + (v4_64_2603 % 2))) (nI_add (2 * (v4_64_2603 / 2)) (v4_64_2603 % 2)) ?_
                                            refine jm_iald h 2 rfl ((2 * (v4_64_2603 / 2)) + (v4_64_2603 % 2)) rfl (by omega) (by omega) dX12_stuck_255 ?_
                                            refine j_top (b := nI j28484) (u28483) ?_
                                            refine j_iadd h dX12_stuck_256 ?_
                                            refine j_top (b := nI ((2 * (v3_53_2594 + v7_146_2606)) + j28484)) (nI_add (2 * (v3_53_2594 + v7_146_2606)) j28484) ?_
                                            refine j_iconst (v := 1) h (by decide) dX12_stuck_257 ?_
                                            refine jm_zast (w' := [(m31, .inl (.inl (kA 1, 10, .inl mc31))), (m32, .inl (.inl (kA 1, 450, .inl mc32))), (m33, .inl (.inl (kA 1, 20, .inl mc33))), (m43, .inl (.inl (kA 3, 122, .inl (upd fm43_64_2603 ((2 * (v3_53_2594 + v7_146_2606)) + j28484) (vp_nar .boolean 1))))), (m34, .inl (.inl (kA 1, 60, .inl mc34))), (m39, .inl (.inl (kA 1, 60, .inl q27242))), (m24, .inl (.inl (kA 1, 4, .inl mc24))), (m, .inl (.inr (12, (.ref m0 :: .int (nI mtp) :: .int (nI mfa) :: .int mfp :: .int (nI mat) :: .int (nI msz) :: .int (nI mso) :: .int mpl :: .int mnu :: .long mwd :: .ref m10 :: .ref m11 :: .ref m12 :: .ref m13 :: .ref m14 :: .ref m15 :: .ref m16 :: .ref m17 :: .ref m18 :: .ref m19 :: .ref m20 :: .ref m21 :: .ref m22 :: .ref m23 :: .ref m24 :: .int (nI mns) :: .int (nI mnl) :: .int (nI mne) :: .int (nI mst) :: .int (nI mlt) :: .int (nI mer) :: .ref m31 :: .ref m32 :: .ref m33 :: .ref m34 :: .ref m35 :: .int (nI mwm) :: .int (nI mwt) :: .int (nI mwf) :: .ref m39 :: .ref m40 :: .ref m41 :: .int (nI mla) :: .ref m43 :: .ref m44 :: .ref m45 :: .ref m46 :: .ref m47 :: .ref m48 :: .int (nI mtm) :: .ref m50 :: .ref m51 :: .ref m52 :: .ref m53 :: .ref m54 :: .ref m55 :: .ref m56 :: .ref m57 :: .ref m58 :: .ref m59 :: .ref m60 :: .ref m61 :: .int (nI msn) :: .int (nI mti) :: .ref m64 :: .ref m65 :: .ref m66 :: .ref m67 :: .ref m68 :: .ref m69 :: [])))), (m19, .inl (.inl (kA 1, 6, .inl mc19))), (m23, .inl (.inl (kA 1, 4, .inl mc23)))]) h 3 rfl ((2 * (v3_53_2594 + v7_146_2606)) + j28484) rfl (by omega) (by omega) dX12_stuck_258 rfl ?_
                                            refine j_iinc (v := nI (v4_64_2603 + 1)) (lv' := [(4, .int (nI (v4_64_2603 + 1))), (2, .int (nI (v3_53_2594 + v7_146_2606))), (7, .int (nI v7_146_2606)), (6, .int (nI (v4_64_2603 % 2))), (5, .int (nI (v4_64_2603 / 2))), (3, .int (nI v3_53_2594)), (0, .ref m), (1, .int (nI j27241))]) h dX12_stuck_259 4 rfl (nI_add v4_64_2603 1) (by decide) rfl ?_
                                            refine j_goto h 64 dX12_stuck_262 (by decide) ?_
                                            refine jm_sub [6, 0, 1, 2, 3, 7, 8, 9, 4, 5] (w' := [(m24, .inl (.inl (kA 1, 4, .inl mc24))), (m31, .inl (.inl (kA 1, 10, .inl mc31))), (m32, .inl (.inl (kA 1, 450, .inl mc32))), (m33, .inl (.inl (kA 1, 20, .inl mc33))), (m43, .inl (.inl (kA 3, 122, .inl (upd fm43_64_2603 ((2 * (v3_53_2594 + v7_146_2606)) + j28484) (vp_nar .boolean 1))))), (m, .inl (.inr (12, (.ref m0 :: .int (nI mtp) :: .int (nI mfa) :: .int mfp :: .int (nI mat) :: .int (nI msz) :: .int (nI mso) :: .int mpl :: .int mnu :: .long mwd :: .ref m10 :: .ref m11 :: .ref m12 :: .ref m13 :: .ref m14 :: .ref m15 :: .ref m16 :: .ref m17 :: .ref m18 :: .ref m19 :: .ref m20 :: .ref m21 :: .ref m22 :: .ref m23 :: .ref m24 :: .int (nI mns) :: .int (nI mnl) :: .int (nI mne) :: .int (nI mst) :: .int (nI mlt) :: .int (nI mer) :: .ref m31 :: .ref m32 :: .ref m33 :: .ref m34 :: .ref m35 :: .int (nI mwm) :: .int (nI mwt) :: .int (nI mwf) :: .ref m39 :: .ref m40 :: .ref m41 :: .int (nI mla) :: .ref m43 :: .ref m44 :: .ref m45 :: .ref m46 :: .ref m47 :: .ref m48 :: .int (nI mtm) :: .ref m50 :: .ref m51 :: .ref m52 :: .ref m53 :: .ref m54 :: .ref m55 :: .ref m56 :: .ref m57 :: .ref m58 :: .ref m59 :: .ref m60 :: .ref m61 :: .int (nI msn) :: .int (nI mti) :: .ref m64 :: .ref m65 :: .ref m66 :: .ref m67 :: .ref m68 :: .ref m69 :: [])))), (m19, .inl (.inl (kA 1, 6, .inl mc19))), (m23, .inl (.inl (kA 1, 4, .inl mc23))), (m34, .inl (.inl (kA 1, 60, .inl mc34))), (m39, .inl (.inl (kA 1, 60, .inl q27242)))]) rfl (by decide +kernel) [0, 5, 1, 6, 7] (lv' := [(4, .int (nI (v4_64_2603 + 1))), (3, .int (nI v3_53_2594)), (2, .int (nI (v3_53_2594 + v7_146_2606))), (0, .ref m), (1, .int (nI j27241))]) rfl ?_
                                            exact ih64_2603 (v4_64_2603 + 1) (v3_53_2594 + v7_146_2606) (upd fm43_64_2603 ((2 * (v3_53_2594 + v7_146_2606)) + j28484) (vp_nar .boolean 1)) (show (v4_64_2603 + 1) ≤ 100000 by first | assumption | omega) (show (v3_53_2594 + v7_146_2606) ≤ 100000 by first | assumption | omega) (show 100001 - (v4_64_2603 + 1) < m64_2603 by first | exact Nat.lt_of_lt_of_le (Nat.sub_lt_sub_left (Nat.lt_of_le_of_lt (show v4_64_2603 ≤ 100000 by assumption) (Nat.lt_succ_self 100000)) (Nat.lt_succ_self v4_64_2603)) (Nat.le_of_lt_succ hm64_2603) | omega)
                                      · show J x (mflat [(m31, .inl (.inl (kA 1, 10, .inl mc31))), (m32, .inl (.inl (kA 1, 450, .inl mc32))), (m33, .inl (.inl (kA 1, 20, .inl mc33))), (m43, .inl (.inl (kA 3, 122, .inl fm43_64_2603))), (m34, .inl (.inl (kA 1, 60, .inl mc34))), (m39, .inl (.inl (kA 1, 60, .inl q27242))), (m24, .inl (.inl (kA 1, 4, .inl mc24))), (m, .inl (.inr (12, (.ref m0 :: .int (nI mtp) :: .int (nI mfa) :: .int mfp :: .int (nI mat) :: .int (nI msz) :: .int (nI mso) :: .int mpl :: .int mnu :: .long mwd :: .ref m10 :: .ref m11 :: .ref m12 :: .ref m13 :: .ref m14 :: .ref m15 :: .ref m16 :: .ref m17 :: .ref m18 :: .ref m19 :: .ref m20 :: .ref m21 :: .ref m22 :: .ref m23 :: .ref m24 :: .int (nI mns) :: .int (nI mnl) :: .int (nI mne) :: .int (nI mst) :: .int (nI mlt) :: .int (nI mer) :: .ref m31 :: .ref m32 :: .ref m33 :: .ref m34 :: .ref m35 :: .int (nI mwm) :: .int (nI mwt) :: .int (nI mwf) :: .ref m39 :: .ref m40 :: .ref m41 :: .int (nI mla) :: .ref m43 :: .ref m44 :: .ref m45 :: .ref m46 :: .ref m47 :: .ref m48 :: .int (nI mtm) :: .ref m50 :: .ref m51 :: .ref m52 :: .ref m53 :: .ref m54 :: .ref m55 :: .ref m56 :: .ref m57 :: .ref m58 :: .ref m59 :: .ref m60 :: .ref m61 :: .int (nI msn) :: .int (nI mti) :: .ref m64 :: .ref m65 :: .ref m66 :: .ref m67 :: .ref m68 :: .ref m69 :: [])))), (m19, .inl (.inl (kA 1, 6, .inl mc19))), (m23, .inl (.inl (kA 1, 4, .inl mc23)))]) [(7, .int (nI v7_146_2606)), (6, .int (nI (v4_64_2603 % 2))), (5, .int (nI (v4_64_2603 / 2))), (4, .int (nI v4_64_2603)), (3, .int (nI v3_53_2594)), (2, .int (nI v2_64_2603)), (0, .ref m), (1, .int (nI j27241))] 0 0 199 []
                                        refine j_iinc (v := nI (v7_146_2606 + 1)) (lv' := [(7, .int (nI (v7_146_2606 + 1))), (6, .int (nI (v4_64_2603 % 2))), (5, .int (nI (v4_64_2603 / 2))), (4, .int (nI v4_64_2603)), (3, .int (nI v3_53_2594)), (2, .int (nI v2_64_2603)), (0, .ref m), (1, .int (nI j27241))]) h dX12_stuck_199 0 rfl (nI_add v7_146_2606 1) (by decide) rfl ?_
                                        refine j_goto h 146 dX12_stuck_202 (by decide) ?_
                                        refine jm_sub [0, 1, 2, 3, 8, 9, 4, 5, 7, 6] (w' := [(m31, .inl (.inl (kA 1, 10, .inl mc31))), (m32, .inl (.inl (kA 1, 450, .inl mc32))), (m33, .inl (.inl (kA 1, 20, .inl mc33))), (m43, .inl (.inl (kA 3, 122, .inl fm43_64_2603))), (m19, .inl (.inl (kA 1, 6, .inl mc19))), (m23, .inl (.inl (kA 1, 4, .inl mc23))), (m34, .inl (.inl (kA 1, 60, .inl mc34))), (m39, .inl (.inl (kA 1, 60, .inl q27242))), (m, .inl (.inr (12, (.ref m0 :: .int (nI mtp) :: .int (nI mfa) :: .int mfp :: .int (nI mat) :: .int (nI msz) :: .int (nI mso) :: .int mpl :: .int mnu :: .long mwd :: .ref m10 :: .ref m11 :: .ref m12 :: .ref m13 :: .ref m14 :: .ref m15 :: .ref m16 :: .ref m17 :: .ref m18 :: .ref m19 :: .ref m20 :: .ref m21 :: .ref m22 :: .ref m23 :: .ref m24 :: .int (nI mns) :: .int (nI mnl) :: .int (nI mne) :: .int (nI mst) :: .int (nI mlt) :: .int (nI mer) :: .ref m31 :: .ref m32 :: .ref m33 :: .ref m34 :: .ref m35 :: .int (nI mwm) :: .int (nI mwt) :: .int (nI mwf) :: .ref m39 :: .ref m40 :: .ref m41 :: .int (nI mla) :: .ref m43 :: .ref m44 :: .ref m45 :: .ref m46 :: .ref m47 :: .ref m48 :: .int (nI mtm) :: .ref m50 :: .ref m51 :: .ref m52 :: .ref m53 :: .ref m54 :: .ref m55 :: .ref m56 :: .ref m57 :: .ref m58 :: .ref m59 :: .ref m60 :: .ref m61 :: .int (nI msn) :: .int (nI mti) :: .ref m64 :: .ref m65 :: .ref m66 :: .ref m67 :: .ref m68 :: .ref m69 :: [])))), (m24, .inl (.inl (kA 1, 4, .inl mc24)))]) rfl (by decide +kernel) [0, 1, 2, 3, 4, 5, 6, 7] (lv' := [(7, .int (nI (v7_146_2606 + 1))), (6, .int (nI (v4_64_2603 % 2))), (5, .int (nI (v4_64_2603 / 2))), (4, .int (nI v4_64_2603)), (3, .int (nI v3_53_2594)), (2, .int (nI v2_64_2603)), (0, .ref m), (1, .int (nI j27241))]) rfl ?_
                                        exact ih146_2606 (v7_146_2606 + 1) (show (v7_146_2606 + 1) ≤ 45 by first | assumption | omega) (show (v7_146_2606 + 1) ≤ 100000 by first | assumption | omega) (show 100001 - (v7_146_2606 + 1) < m146_2606 by first | exact Nat.lt_of_lt_of_le (Nat.sub_lt_sub_left (Nat.lt_of_le_of_lt (show v7_146_2606 ≤ 100000 by assumption) (Nat.lt_succ_self 100000)) (Nat.lt_succ_self v7_146_2606)) (Nat.le_of_lt_succ hm146_2606) | omega)
                              refine jm_sub [0, 1, 2, 3, 4, 5, 6, 7, 8, 9] (w' := [(m31, .inl (.inl (kA 1, 10, .inl mc31))), (m32, .inl (.inl (kA 1, 450, .inl mc32))), (m33, .inl (.inl (kA 1, 20, .inl mc33))), (m43, .inl (.inl (kA 3, 122, .inl fm43_64_2603))), (m19, .inl (.inl (kA 1, 6, .inl mc19))), (m23, .inl (.inl (kA 1, 4, .inl mc23))), (m34, .inl (.inl (kA 1, 60, .inl mc34))), (m39, .inl (.inl (kA 1, 60, .inl q27242))), (m, .inl (.inr (12, (.ref m0 :: .int (nI mtp) :: .int (nI mfa) :: .int mfp :: .int (nI mat) :: .int (nI msz) :: .int (nI mso) :: .int mpl :: .int mnu :: .long mwd :: .ref m10 :: .ref m11 :: .ref m12 :: .ref m13 :: .ref m14 :: .ref m15 :: .ref m16 :: .ref m17 :: .ref m18 :: .ref m19 :: .ref m20 :: .ref m21 :: .ref m22 :: .ref m23 :: .ref m24 :: .int (nI mns) :: .int (nI mnl) :: .int (nI mne) :: .int (nI mst) :: .int (nI mlt) :: .int (nI mer) :: .ref m31 :: .ref m32 :: .ref m33 :: .ref m34 :: .ref m35 :: .int (nI mwm) :: .int (nI mwt) :: .int (nI mwf) :: .ref m39 :: .ref m40 :: .ref m41 :: .int (nI mla) :: .ref m43 :: .ref m44 :: .ref m45 :: .ref m46 :: .ref m47 :: .ref m48 :: .int (nI mtm) :: .ref m50 :: .ref m51 :: .ref m52 :: .ref m53 :: .ref m54 :: .ref m55 :: .ref m56 :: .ref m57 :: .ref m58 :: .ref m59 :: .ref m60 :: .ref m61 :: .int (nI msn) :: .int (nI mti) :: .ref m64 :: .ref m65 :: .ref m66 :: .ref m67 :: .ref m68 :: .ref m69 :: [])))), (m24, .inl (.inl (kA 1, 4, .inl mc24)))]) rfl (by decide +kernel) [0, 1, 2, 3, 4, 5, 6, 7] (lv' := [(7, .int 0), (6, .int (nI (v4_64_2603 % 2))), (5, .int (nI (v4_64_2603 / 2))), (4, .int (nI v4_64_2603)), (3, .int (nI v3_53_2594)), (2, .int (nI v2_64_2603)), (0, .ref m), (1, .int (nI j27241))]) rfl ?_
                              exact lp146_2606 (100001 - 0 + 1) 0 (show 0 ≤ 45 by first | assumption | omega) (show 0 ≤ 100000 by first | assumption | omega) (Nat.lt_succ_self _)
                            · have z28489n : ¬ (v3_53_2594 + t28485) ≤ 60 := fun q9 => z28489 ((nI_leI (a := (v3_53_2594 + t28485)) (b := 60) (by omega) (by omega)).mpr q9)
                              refine j_goto h 259 dX12_stuck_140 (by decide) ?_
                              refine j_iinc (v := nI (v4_64_2603 + 1)) (lv' := [(4, .int (nI (v4_64_2603 + 1))), (6, .int (nI (v4_64_2603 % 2))), (5, .int (nI (v4_64_2603 / 2))), (3, .int (nI v3_53_2594)), (2, .int (nI v2_64_2603)), (0, .ref m), (1, .int (nI j27241))]) h dX12_stuck_259 2 rfl (nI_add v4_64_2603 1) (by decide) rfl ?_
                              refine j_goto h 64 dX12_stuck_262 (by decide) ?_
                              refine jm_sub [9, 0, 1, 2, 3, 8, 4, 5, 6, 7] (w' := [(m24, .inl (.inl (kA 1, 4, .inl mc24))), (m31, .inl (.inl (kA 1, 10, .inl mc31))), (m32, .inl (.inl (kA 1, 450, .inl mc32))), (m33, .inl (.inl (kA 1, 20, .inl mc33))), (m43, .inl (.inl (kA 3, 122, .inl fm43_64_2603))), (m, .inl (.inr (12, (.ref m0 :: .int (nI mtp) :: .int (nI mfa) :: .int mfp :: .int (nI mat) :: .int (nI msz) :: .int (nI mso) :: .int mpl :: .int mnu :: .long mwd :: .ref m10 :: .ref m11 :: .ref m12 :: .ref m13 :: .ref m14 :: .ref m15 :: .ref m16 :: .ref m17 :: .ref m18 :: .ref m19 :: .ref m20 :: .ref m21 :: .ref m22 :: .ref m23 :: .ref m24 :: .int (nI mns) :: .int (nI mnl) :: .int (nI mne) :: .int (nI mst) :: .int (nI mlt) :: .int (nI mer) :: .ref m31 :: .ref m32 :: .ref m33 :: .ref m34 :: .ref m35 :: .int (nI mwm) :: .int (nI mwt) :: .int (nI mwf) :: .ref m39 :: .ref m40 :: .ref m41 :: .int (nI mla) :: .ref m43 :: .ref m44 :: .ref m45 :: .ref m46 :: .ref m47 :: .ref m48 :: .int (nI mtm) :: .ref m50 :: .ref m51 :: .ref m52 :: .ref m53 :: .ref m54 :: .ref m55 :: .ref m56 :: .ref m57 :: .ref m58 :: .ref m59 :: .ref m60 :: .ref m61 :: .int (nI msn) :: .int (nI mti) :: .ref m64 :: .ref m65 :: .ref m66 :: .ref m67 :: .ref m68 :: .ref m69 :: [])))), (m19, .inl (.inl (kA 1, 6, .inl mc19))), (m23, .inl (.inl (kA 1, 4, .inl mc23))), (m34, .inl (.inl (kA 1, 60, .inl mc34))), (m39, .inl (.inl (kA 1, 60, .inl q27242)))]) rfl (by decide +kernel) [0, 3, 4, 5, 6] (lv' := [(4, .int (nI (v4_64_2603 + 1))), (3, .int (nI v3_53_2594)), (2, .int (nI v2_64_2603)), (0, .ref m), (1, .int (nI j27241))]) rfl ?_
                              exact ih64_2603 (v4_64_2603 + 1) v2_64_2603 fm43_64_2603 (show (v4_64_2603 + 1) ≤ 100000 by first | assumption | omega) (show v2_64_2603 ≤ 100000 by first | assumption | omega) (show 100001 - (v4_64_2603 + 1) < m64_2603 by first | exact Nat.lt_of_lt_of_le (Nat.sub_lt_sub_left (Nat.lt_of_le_of_lt (show v4_64_2603 ≤ 100000 by assumption) (Nat.lt_succ_self 100000)) (Nat.lt_succ_self v4_64_2603)) (Nat.le_of_lt_succ hm64_2603) | omega)
                refine jm_sub [0, 1, 2, 3, 4, 5, 6, 7, 8, 9] (w' := [(m24, .inl (.inl (kA 1, 4, .inl mc24))), (m31, .inl (.inl (kA 1, 10, .inl mc31))), (m32, .inl (.inl (kA 1, 450, .inl mc32))), (m33, .inl (.inl (kA 1, 20, .inl mc33))), (m43, .inl (.inl (kA 3, 122, .inl fm43_53_2594))), (m, .inl (.inr (12, (.ref m0 :: .int (nI mtp) :: .int (nI mfa) :: .int mfp :: .int (nI mat) :: .int (nI msz) :: .int (nI mso) :: .int mpl :: .int mnu :: .long mwd :: .ref m10 :: .ref m11 :: .ref m12 :: .ref m13 :: .ref m14 :: .ref m15 :: .ref m16 :: .ref m17 :: .ref m18 :: .ref m19 :: .ref m20 :: .ref m21 :: .ref m22 :: .ref m23 :: .ref m24 :: .int (nI mns) :: .int (nI mnl) :: .int (nI mne) :: .int (nI mst) :: .int (nI mlt) :: .int (nI mer) :: .ref m31 :: .ref m32 :: .ref m33 :: .ref m34 :: .ref m35 :: .int (nI mwm) :: .int (nI mwt) :: .int (nI mwf) :: .ref m39 :: .ref m40 :: .ref m41 :: .int (nI mla) :: .ref m43 :: .ref m44 :: .ref m45 :: .ref m46 :: .ref m47 :: .ref m48 :: .int (nI mtm) :: .ref m50 :: .ref m51 :: .ref m52 :: .ref m53 :: .ref m54 :: .ref m55 :: .ref m56 :: .ref m57 :: .ref m58 :: .ref m59 :: .ref m60 :: .ref m61 :: .int (nI msn) :: .int (nI mti) :: .ref m64 :: .ref m65 :: .ref m66 :: .ref m67 :: .ref m68 :: .ref m69 :: [])))), (m19, .inl (.inl (kA 1, 6, .inl mc19))), (m23, .inl (.inl (kA 1, 4, .inl mc23))), (m34, .inl (.inl (kA 1, 60, .inl mc34))), (m39, .inl (.inl (kA 1, 60, .inl q27242)))]) rfl (by decide +kernel) [0, 1, 2, 3, 4] (lv' := [(4, .int 0), (3, .int (nI v3_53_2594)), (2, .int (nI v2_53_2594)), (0, .ref m), (1, .int (nI j27241))]) rfl ?_
                exact lp64_2603 (100001 - 0 + 1) 0 v2_53_2594 fm43_53_2594 (show 0 ≤ 100000 by first | assumption | omega) (show v2_53_2594 ≤ 100000 by first | assumption | omega) (Nat.lt_succ_self _)
          refine jm_sub [0, 1, 2, 3, 4, 5, 6, 7, 8, 9] (w' := [(m24, .inl (.inl (kA 1, 4, .inl mc24))), (m31, .inl (.inl (kA 1, 10, .inl mc31))), (m32, .inl (.inl (kA 1, 450, .inl mc32))), (m33, .inl (.inl (kA 1, 20, .inl mc33))), (m43, .inl (.inl (kA 3, 122, .inl fm43_22_2567))), (m, .inl (.inr (12, (.ref m0 :: .int (nI mtp) :: .int (nI mfa) :: .int mfp :: .int (nI mat) :: .int (nI msz) :: .int (nI mso) :: .int mpl :: .int mnu :: .long mwd :: .ref m10 :: .ref m11 :: .ref m12 :: .ref m13 :: .ref m14 :: .ref m15 :: .ref m16 :: .ref m17 :: .ref m18 :: .ref m19 :: .ref m20 :: .ref m21 :: .ref m22 :: .ref m23 :: .ref m24 :: .int (nI mns) :: .int (nI mnl) :: .int (nI mne) :: .int (nI mst) :: .int (nI mlt) :: .int (nI mer) :: .ref m31 :: .ref m32 :: .ref m33 :: .ref m34 :: .ref m35 :: .int (nI mwm) :: .int (nI mwt) :: .int (nI mwf) :: .ref m39 :: .ref m40 :: .ref m41 :: .int (nI mla) :: .ref m43 :: .ref m44 :: .ref m45 :: .ref m46 :: .ref m47 :: .ref m48 :: .int (nI mtm) :: .ref m50 :: .ref m51 :: .ref m52 :: .ref m53 :: .ref m54 :: .ref m55 :: .ref m56 :: .ref m57 :: .ref m58 :: .ref m59 :: .ref m60 :: .ref m61 :: .int (nI msn) :: .int (nI mti) :: .ref m64 :: .ref m65 :: .ref m66 :: .ref m67 :: .ref m68 :: .ref m69 :: [])))), (m19, .inl (.inl (kA 1, 6, .inl mc19))), (m23, .inl (.inl (kA 1, 4, .inl mc23))), (m34, .inl (.inl (kA 1, 60, .inl mc34))), (m39, .inl (.inl (kA 1, 60, .inl q27242)))]) rfl (by decide +kernel) [0, 1, 2, 3] (lv' := [(3, .int 0), (2, .int 0), (0, .ref m), (1, .int (nI j27241))]) rfl ?_
          exact lp53_2594 (100001 - 0 + 1) 0 0 fm43_22_2567 (show 0 ≤ 100000 by first | assumption | omega) (show 0 ≤ 100000 by first | assumption | omega) (Nat.lt_succ_self _)
        · have z27895n : ¬ 122 ≤ v2_22_2567 := fun q9 => z27895 ((nI_leI (a := 122) (b := v2_22_2567) (by omega) (by omega)).mpr q9)
          refine j_aload_n h 1 rfl rfl dX12_stuck_28 ?_
          refine jm_get h iw_X12 5 rfl rfl 43 (by decide +kernel) tw_1199 rfl dX12_stuck_29 ?_
          refine j_iload_n h 0 rfl rfl dX12_stuck_32 ?_
          refine j_iload_n h 0 rfl rfl dX12_stuck_33 ?_
          refine j_if_ne h 41 dX12_stuck_34 (by decide) (fun z28544 => ?_) (fun z28544 => ?_)
          · have z28544n : ¬ v2_22_2567 = 0 := fun q9 => z28544 ((nI_eq (a := v2_22_2567) (b := 0) (by omega) (by omega)).mpr q9)
            refine j_iconst (v := 0) h (by decide) dX12_stuck_41 ?_
            refine jm_zast (w' := [(m24, .inl (.inl (kA 1, 4, .inl mc24))), (m31, .inl (.inl (kA 1, 10, .inl mc31))), (m32, .inl (.inl (kA 1, 450, .inl mc32))), (m33, .inl (.inl (kA 1, 20, .inl mc33))), (m43, .inl (.inl (kA 3, 122, .inl (upd fm43_22_2567 v2_22_2567 (vp_nar .boolean 0))))), (m, .inl (.inr (12, (.ref m0 :: .int (nI mtp) :: .int (nI mfa) :: .int mfp :: .int (nI mat) :: .int (nI msz) :: .int (nI mso) :: .int mpl :: .int mnu :: .long mwd :: .ref m10 :: .ref m11 :: .ref m12 :: .ref m13 :: .ref m14 :: .ref m15 :: .ref m16 :: .ref m17 :: .ref m18 :: .ref m19 :: .ref m20 :: .ref m21 :: .ref m22 :: .ref m23 :: .ref m24 :: .int (nI mns) :: .int (nI mnl) :: .int (nI mne) :: .int (nI mst) :: .int (nI mlt) :: .int (nI mer) :: .ref m31 :: .ref m32 :: .ref m33 :: .ref m34 :: .ref m35 :: .int (nI mwm) :: .int (nI mwt) :: .int (nI mwf) :: .ref m39 :: .ref m40 :: .ref m41 :: .int (nI mla) :: .ref m43 :: .ref m44 :: .ref m45 :: .ref m46 :: .ref m47 :: .ref m48 :: .int (nI mtm) :: .ref m50 :: .ref m51 :: .ref m52 :: .ref m53 :: .ref m54 :: .ref m55 :: .ref m56 :: .ref m57 :: .ref m58 :: .ref m59 :: .ref m60 :: .ref m61 :: .int (nI msn) :: .int (nI mti) :: .ref m64 :: .ref m65 :: .ref m66 :: .ref m67 :: .ref m68 :: .ref m69 :: [])))), (m19, .inl (.inl (kA 1, 6, .inl mc19))), (m23, .inl (.inl (kA 1, 4, .inl mc23))), (m34, .inl (.inl (kA 1, 60, .inl mc34))), (m39, .inl (.inl (kA 1, 60, .inl q27242)))]) h 4 rfl v2_22_2567 rfl (by omega) (by omega) dX12_stuck_42 rfl ?_
            refine j_iinc (v := nI (v2_22_2567 + 1)) (lv' := [(2, .int (nI (v2_22_2567 + 1))), (0, .ref m), (1, .int (nI j27241))]) h dX12_stuck_43 0 rfl (nI_add v2_22_2567 1) (by decide) rfl ?_
            refine j_goto h 22 dX12_stuck_46 (by decide) ?_
            refine jm_sub [0, 1, 2, 3, 4, 5, 6, 7, 8, 9] (w' := [(m24, .inl (.inl (kA 1, 4, .inl mc24))), (m31, .inl (.inl (kA 1, 10, .inl mc31))), (m32, .inl (.inl (kA 1, 450, .inl mc32))), (m33, .inl (.inl (kA 1, 20, .inl mc33))), (m43, .inl (.inl (kA 3, 122, .inl (upd fm43_22_2567 v2_22_2567 (vp_nar .boolean 0))))), (m, .inl (.inr (12, (.ref m0 :: .int (nI mtp) :: .int (nI mfa) :: .int mfp :: .int (nI mat) :: .int (nI msz) :: .int (nI mso) :: .int mpl :: .int mnu :: .long mwd :: .ref m10 :: .ref m11 :: .ref m12 :: .ref m13 :: .ref m14 :: .ref m15 :: .ref m16 :: .ref m17 :: .ref m18 :: .ref m19 :: .ref m20 :: .ref m21 :: .ref m22 :: .ref m23 :: .ref m24 :: .int (nI mns) :: .int (nI mnl) :: .int (nI mne) :: .int (nI mst) :: .int (nI mlt) :: .int (nI mer) :: .ref m31 :: .ref m32 :: .ref m33 :: .ref m34 :: .ref m35 :: .int (nI mwm) :: .int (nI mwt) :: .int (nI mwf) :: .ref m39 :: .ref m40 :: .ref m41 :: .int (nI mla) :: .ref m43 :: .ref m44 :: .ref m45 :: .ref m46 :: .ref m47 :: .ref m48 :: .int (nI mtm) :: .ref m50 :: .ref m51 :: .ref m52 :: .ref m53 :: .ref m54 :: .ref m55 :: .ref m56 :: .ref m57 :: .ref m58 :: .ref m59 :: .ref m60 :: .ref m61 :: .int (nI msn) :: .int (nI mti) :: .ref m64 :: .ref m65 :: .ref m66 :: .ref m67 :: .ref m68 :: .ref m69 :: [])))), (m19, .inl (.inl (kA 1, 6, .inl mc19))), (m23, .inl (.inl (kA 1, 4, .inl mc23))), (m34, .inl (.inl (kA 1, 60, .inl mc34))), (m39, .inl (.inl (kA 1, 60, .inl q27242)))]) rfl (by decide +kernel) [0, 1, 2] (lv' := [(2, .int (nI (v2_22_2567 + 1))), (0, .ref m), (1, .int (nI j27241))]) rfl ?_
            exact ih22_2567 (v2_22_2567 + 1) (upd fm43_22_2567 v2_22_2567 (vp_nar .boolean 0)) (show (v2_22_2567 + 1) ≤ 100000 by first | assumption | omega) (show 100001 - (v2_22_2567 + 1) < m22_2567 by first | exact Nat.lt_of_lt_of_le (Nat.sub_lt_sub_left (Nat.lt_of_le_of_lt (show v2_22_2567 ≤ 100000 by assumption) (Nat.lt_succ_self 100000)) (Nat.lt_succ_self v2_22_2567)) (Nat.le_of_lt_succ hm22_2567) | omega)
          · have z28544n : v2_22_2567 = 0 := (nI_eq (a := v2_22_2567) (b := 0) (by omega) (by omega)).mp z28544
            refine j_iconst (v := 1) h (by decide) dX12_stuck_37 ?_
            refine j_goto h 42 dX12_stuck_38 (by decide) ?_
            refine jm_zast (w' := [(m24, .inl (.inl (kA 1, 4, .inl mc24))), (m31, .inl (.inl (kA 1, 10, .inl mc31))), (m32, .inl (.inl (kA 1, 450, .inl mc32))), (m33, .inl (.inl (kA 1, 20, .inl mc33))), (m43, .inl (.inl (kA 3, 122, .inl (upd fm43_22_2567 v2_22_2567 (vp_nar .boolean 1))))), (m, .inl (.inr (12, (.ref m0 :: .int (nI mtp) :: .int (nI mfa) :: .int mfp :: .int (nI mat) :: .int (nI msz) :: .int (nI mso) :: .int mpl :: .int mnu :: .long mwd :: .ref m10 :: .ref m11 :: .ref m12 :: .ref m13 :: .ref m14 :: .ref m15 :: .ref m16 :: .ref m17 :: .ref m18 :: .ref m19 :: .ref m20 :: .ref m21 :: .ref m22 :: .ref m23 :: .ref m24 :: .int (nI mns) :: .int (nI mnl) :: .int (nI mne) :: .int (nI mst) :: .int (nI mlt) :: .int (nI mer) :: .ref m31 :: .ref m32 :: .ref m33 :: .ref m34 :: .ref m35 :: .int (nI mwm) :: .int (nI mwt) :: .int (nI mwf) :: .ref m39 :: .ref m40 :: .ref m41 :: .int (nI mla) :: .ref m43 :: .ref m44 :: .ref m45 :: .ref m46 :: .ref m47 :: .ref m48 :: .int (nI mtm) :: .ref m50 :: .ref m51 :: .ref m52 :: .ref m53 :: .ref m54 :: .ref m55 :: .ref m56 :: .ref m57 :: .ref m58 :: .ref m59 :: .ref m60 :: .ref m61 :: .int (nI msn) :: .int (nI mti) :: .ref m64 :: .ref m65 :: .ref m66 :: .ref m67 :: .ref m68 :: .ref m69 :: [])))), (m19, .inl (.inl (kA 1, 6, .inl mc19))), (m23, .inl (.inl (kA 1, 4, .inl mc23))), (m34, .inl (.inl (kA 1, 60, .inl mc34))), (m39, .inl (.inl (kA 1, 60, .inl q27242)))]) h 4 rfl v2_22_2567 rfl (by omega) (by omega) dX12_stuck_42 rfl ?_
            refine j_iinc (v := nI (v2_22_2567 + 1)) (lv' := [(2, .int (nI (v2_22_2567 + 1))), (0, .ref m), (1, .int (nI j27241))]) h dX12_stuck_43 0 rfl (nI_add v2_22_2567 1) (by decide) rfl ?_
            refine j_goto h 22 dX12_stuck_46 (by decide) ?_
            refine jm_sub [0, 1, 2, 3, 4, 5, 6, 7, 8, 9] (w' := [(m24, .inl (.inl (kA 1, 4, .inl mc24))), (m31, .inl (.inl (kA 1, 10, .inl mc31))), (m32, .inl (.inl (kA 1, 450, .inl mc32))), (m33, .inl (.inl (kA 1, 20, .inl mc33))), (m43, .inl (.inl (kA 3, 122, .inl (upd fm43_22_2567 v2_22_2567 (vp_nar .boolean 1))))), (m, .inl (.inr (12, (.ref m0 :: .int (nI mtp) :: .int (nI mfa) :: .int mfp :: .int (nI mat) :: .int (nI msz) :: .int (nI mso) :: .int mpl :: .int mnu :: .long mwd :: .ref m10 :: .ref m11 :: .ref m12 :: .ref m13 :: .ref m14 :: .ref m15 :: .ref m16 :: .ref m17 :: .ref m18 :: .ref m19 :: .ref m20 :: .ref m21 :: .ref m22 :: .ref m23 :: .ref m24 :: .int (nI mns) :: .int (nI mnl) :: .int (nI mne) :: .int (nI mst) :: .int (nI mlt) :: .int (nI mer) :: .ref m31 :: .ref m32 :: .ref m33 :: .ref m34 :: .ref m35 :: .int (nI mwm) :: .int (nI mwt) :: .int (nI mwf) :: .ref m39 :: .ref m40 :: .ref m41 :: .int (nI mla) :: .ref m43 :: .ref m44 :: .ref m45 :: .ref m46 :: .ref m47 :: .ref m48 :: .int (nI mtm) :: .ref m50 :: .ref m51 :: .ref m52 :: .ref m53 :: .ref m54 :: .ref m55 :: .ref m56 :: .ref m57 :: .ref m58 :: .ref m59 :: .ref m60 :: .ref m61 :: .int (nI msn) :: .int (nI mti) :: .ref m64 :: .ref m65 :: .ref m66 :: .ref m67 :: .ref m68 :: .ref m69 :: [])))), (m19, .inl (.inl (kA 1, 6, .inl mc19))), (m23, .inl (.inl (kA 1, 4, .inl mc23))), (m34, .inl (.inl (kA 1, 60, .inl mc34))), (m39, .inl (.inl (kA 1, 60, .inl q27242)))]) rfl (by decide +kernel) [0, 1, 2] (lv' := [(2, .int (nI (v2_22_2567 + 1))), (0, .ref m), (1, .int (nI j27241))]) rfl ?_
            exact ih22_2567 (v2_22_2567 + 1) (upd fm43_22_2567 v2_22_2567 (vp_nar .boolean 1)) (show (v2_22_2567 + 1) ≤ 100000 by first | assumption | omega) (show 100001 - (v2_22_2567 + 1) < m22_2567 by first | exact Nat.lt_of_lt_of_le (Nat.sub_lt_sub_left (Nat.lt_of_le_of_lt (show v2_22_2567 ≤ 100000 by assumption) (Nat.lt_succ_self 100000)) (Nat.lt_succ_self v2_22_2567)) (Nat.le_of_lt_succ hm22_2567) | omega)
    refine jm_sub [0, 1, 2, 3, 4, 5, 6, 7, 8, 9] (w' := [(m24, .inl (.inl (kA 1, 4, .inl mc24))), (m31, .inl (.inl (kA 1, 10, .inl mc31))), (m32, .inl (.inl (kA 1, 450, .inl mc32))), (m33, .inl (.inl (kA 1, 20, .inl mc33))), (m43, .inl (.inl (kA 3, 122, .inl mc43))), (m, .inl (.inr (12, (.ref m0 :: .int (nI mtp) :: .int (nI mfa) :: .int mfp :: .int (nI mat) :: .int (nI msz) :: .int (nI mso) :: .int mpl :: .int mnu :: .long mwd :: .ref m10 :: .ref m11 :: .ref m12 :: .ref m13 :: .ref m14 :: .ref m15 :: .ref m16 :: .ref m17 :: .ref m18 :: .ref m19 :: .ref m20 :: .ref m21 :: .ref m22 :: .ref m23 :: .ref m24 :: .int (nI mns) :: .int (nI mnl) :: .int (nI mne) :: .int (nI mst) :: .int (nI mlt) :: .int (nI mer) :: .ref m31 :: .ref m32 :: .ref m33 :: .ref m34 :: .ref m35 :: .int (nI mwm) :: .int (nI mwt) :: .int (nI mwf) :: .ref m39 :: .ref m40 :: .ref m41 :: .int (nI mla) :: .ref m43 :: .ref m44 :: .ref m45 :: .ref m46 :: .ref m47 :: .ref m48 :: .int (nI mtm) :: .ref m50 :: .ref m51 :: .ref m52 :: .ref m53 :: .ref m54 :: .ref m55 :: .ref m56 :: .ref m57 :: .ref m58 :: .ref m59 :: .ref m60 :: .ref m61 :: .int (nI msn) :: .int (nI mti) :: .ref m64 :: .ref m65 :: .ref m66 :: .ref m67 :: .ref m68 :: .ref m69 :: [])))), (m19, .inl (.inl (kA 1, 6, .inl mc19))), (m23, .inl (.inl (kA 1, 4, .inl mc23))), (m34, .inl (.inl (kA 1, 60, .inl mc34))), (m39, .inl (.inl (kA 1, 60, .inl q27242)))]) rfl (by decide +kernel) [0, 1, 2] (lv' := [(2, .int 0), (0, .ref m), (1, .int (nI j27241))]) rfl ?_
    exact lp22_2567 (100001 - 0 + 1) 0 mc43 (show 0 ≤ 100000 by first | assumption | omega) (Nat.lt_succ_self _)
set_option maxHeartbeats 4000000 in
set_option maxRecDepth 100000 in
theorem s_X12_common (lau : Launch) (gg : va_G) (kA : Nat → ClassId) (a : Int32) (b : Nat) (hb : 1 ≤ b) (hb2 : b ≤ 100000) : CtI lau yX12_common cX12_common 5 (some .int) 1 0 0 gg kA [.int a, .int (nI b)] (mflat []) (S := Unit) (fun (r : Int32) (_ : Unit) => 0 < r) (fun (_ : Unit) => mflat []) := by
  refine nx_startI (by decide +kernel) (Nat.le_of_ble_eq_true rfl) ?_
  intro x hnm h hq
  have h : Ok x cX12_common RX12 kA (rmC 1 0 0) 5 := h
  show J x (mflat []) [(0, .int a), (1, .int (nI b))] 0 0 0 []
  refine j_iload_n h 0 rfl rfl dX12_common_0 ?_
  refine j_if_ge h 9 dX12_common_1 (by decide) (fun z28551 => ?_) (fun z28551 => ?_)
  · obtain ⟨j28552, hj28552, rfl⟩ := nI_ofp z28551
    show J x (mflat []) [(0, .int (nI j28552)), (1, .int (nI b))] 0 0 9 []
    refine j_iload_n h 0 rfl rfl dX12_common_9 ?_
    refine j_istore_n (lv' := [(2, .int (nI j28552)), (0, .int (nI j28552)), (1, .int (nI b))]) h dX12_common_10 rfl (by decide) rfl ?_
    refine j_iload_n h 2 rfl rfl dX12_common_11 ?_
    refine j_istore_n (lv' := [(3, .int (nI b)), (2, .int (nI j28552)), (0, .int (nI j28552)), (1, .int (nI b))]) h dX12_common_12 rfl (by decide) rfl ?_
    have lp13_2612 : ∀ (m13_2612 : Nat), ∀ (v3_13_2612 : Int32) (v2_13_2612 : Int32), (0 < v3_13_2612 ∨ 0 < v2_13_2612) → (v3_13_2612).toNatClampNeg < m13_2612 → J x (mflat []) [(3, .int v3_13_2612), (2, .int v2_13_2612), (0, .int (nI j28552)), (1, .int (nI b))] 0 0 13 [] := by
      intro m13_2612
      induction m13_2612 with
      | zero =>
        intro v3_13_2612 v2_13_2612 i13_2612_0 hm13_2612
        exact absurd hm13_2612 (Nat.not_lt_zero _)
      | succ m13_2612 ih13_2612 =>
        intro v3_13_2612 v2_13_2612 i13_2612_0 hm13_2612
        refine j_iload_n h 0 rfl rfl dX12_common_13 ?_
        refine j_if_le h 30 dX12_common_14 (by decide) (fun z28554 => ?_) (fun z28554 => ?_)
        · show J x (mflat []) [(3, .int v3_13_2612), (2, .int v2_13_2612), (0, .int (nI j28552)), (1, .int (nI b))] 0 0 30 []
          refine j_iload_n h 1 rfl rfl dX12_common_30 ?_
          exact jm_iret h hq dX12_common_31 () [] rfl (by decide) (show 0 < v2_13_2612 from Or.resolve_left i13_2612_0 (fun q9 => Int32.lt_irrefl (Int32.lt_of_lt_of_le q9 z28554))) (Nat.le_of_ble_eq_true rfl) (Nat.le_of_ble_eq_true rfl)
        · show J x (mflat []) [(3, .int v3_13_2612), (2, .int v2_13_2612), (0, .int (nI j28552)), (1, .int (nI b))] 0 0 17 []
          refine j_iload_n h 1 rfl rfl dX12_common_17 ?_
          refine j_iload_n h 0 rfl rfl dX12_common_18 ?_
          have hz9 : ¬ v3_13_2612 = 0 := fun q9 => z28554 (by rw [q9]; decide)
          refine j_irem h (by assumption) dX12_common_19 ?_
          refine j_istore (lv' := [(4, .int (v2_13_2612 - v2_13_2612 / v3_13_2612 * v3_13_2612)), (3, .int v3_13_2612), (2, .int v2_13_2612), (0, .int (nI j28552)), (1, .int (nI b))]) h dX12_common_20 (by decide) rfl ?_
          refine j_iload_n h 1 rfl rfl dX12_common_22 ?_
          refine j_istore_n (lv' := [(2, .int v3_13_2612), (4, .int (v2_13_2612 - v2_13_2612 / v3_13_2612 * v3_13_2612)), (3, .int v3_13_2612), (0, .int (nI j28552)), (1, .int (nI b))]) h dX12_common_23 rfl (by decide) rfl ?_
          refine j_iload h 1 rfl dX12_common_24 ?_
          refine j_istore_n (lv' := [(3, .int (v2_13_2612 - v2_13_2612 / v3_13_2612 * v3_13_2612)), (2, .int v3_13_2612), (4, .int (v2_13_2612 - v2_13_2612 / v3_13_2612 * v3_13_2612)), (0, .int (nI j28552)), (1, .int (nI b))]) h dX12_common_26 rfl (by decide) rfl ?_
          refine j_goto h 13 dX12_common_27 (by decide) ?_
          refine jm_sub [] (w' := []) rfl (by decide +kernel) [0, 1, 3, 4] (lv' := [(3, .int (v2_13_2612 - v2_13_2612 / v3_13_2612 * v3_13_2612)), (2, .int v3_13_2612), (0, .int (nI j28552)), (1, .int (nI b))]) rfl ?_
          exact ih13_2612 (v2_13_2612 - v2_13_2612 / v3_13_2612 * v3_13_2612) v3_13_2612 (show 0 < (v2_13_2612 - v2_13_2612 / v3_13_2612 * v3_13_2612) ∨ 0 < v3_13_2612 from Or.inr (Int32.not_le.mp z28554)) (show ((v2_13_2612 - v2_13_2612 / v3_13_2612 * v3_13_2612)).toNatClampNeg < m13_2612 from Nat.lt_of_lt_of_le (rem_mu z28554) (Nat.lt_succ_iff.mp hm13_2612))
    refine jm_sub [] (w' := []) rfl (by decide +kernel) [0, 1, 2, 3] (lv' := [(3, .int (nI b)), (2, .int (nI j28552)), (0, .int (nI j28552)), (1, .int (nI b))]) rfl ?_
    exact lp13_2612 (((nI b)).toNatClampNeg + 1) (nI b) (nI j28552) (show 0 < (nI b) ∨ 0 < (nI j28552) by first | assumption | omega | exact Or.inl (nI_lt (a := 0) (by omega) (by omega))) (Nat.lt_succ_self _)
  · show J x (mflat []) [(0, .int a), (1, .int (nI b))] 0 0 4 []
    refine j_iload_n h 0 rfl rfl dX12_common_4 ?_
    refine j_ineg h dX12_common_5 ?_
    refine j_goto h 10 dX12_common_6 (by decide) ?_
    refine j_istore_n (lv' := [(2, .int (-a)), (0, .int a), (1, .int (nI b))]) h dX12_common_10 rfl (by decide) rfl ?_
    refine j_iload_n h 2 rfl rfl dX12_common_11 ?_
    refine j_istore_n (lv' := [(3, .int (nI b)), (2, .int (-a)), (0, .int a), (1, .int (nI b))]) h dX12_common_12 rfl (by decide) rfl ?_
    have lp13_2614 : ∀ (m13_2614 : Nat), ∀ (v3_13_2614 : Int32) (v2_13_2614 : Int32), (0 < v3_13_2614 ∨ 0 < v2_13_2614) → (v3_13_2614).toNatClampNeg < m13_2614 → J x (mflat []) [(3, .int v3_13_2614), (2, .int v2_13_2614), (0, .int a), (1, .int (nI b))] 0 0 13 [] := by
      intro m13_2614
      induction m13_2614 with
      | zero =>
        intro v3_13_2614 v2_13_2614 i13_2614_0 hm13_2614
        exact absurd hm13_2614 (Nat.not_lt_zero _)
      | succ m13_2614 ih13_2614 =>
        intro v3_13_2614 v2_13_2614 i13_2614_0 hm13_2614
        refine j_iload_n h 0 rfl rfl dX12_common_13 ?_
        refine j_if_le h 30 dX12_common_14 (by decide) (fun z28556 => ?_) (fun z28556 => ?_)
        · show J x (mflat []) [(3, .int v3_13_2614), (2, .int v2_13_2614), (0, .int a), (1, .int (nI b))] 0 0 30 []
          refine j_iload_n h 1 rfl rfl dX12_common_30 ?_
          exact jm_iret h hq dX12_common_31 () [] rfl (by decide) (show 0 < v2_13_2614 from Or.resolve_left i13_2614_0 (fun q9 => Int32.lt_irrefl (Int32.lt_of_lt_of_le q9 z28556))) (Nat.le_of_ble_eq_true rfl) (Nat.le_of_ble_eq_true rfl)
        · show J x (mflat []) [(3, .int v3_13_2614), (2, .int v2_13_2614), (0, .int a), (1, .int (nI b))] 0 0 17 []
          refine j_iload_n h 1 rfl rfl dX12_common_17 ?_
          refine j_iload_n h 0 rfl rfl dX12_common_18 ?_
          have hz9 : ¬ v3_13_2614 = 0 := fun q9 => z28556 (by rw [q9]; decide)
          refine j_irem h (by assumption) dX12_common_19 ?_
          refine j_istore (lv' := [(4, .int (v2_13_2614 - v2_13_2614 / v3_13_2614 * v3_13_2614)), (3, .int v3_13_2614), (2, .int v2_13_2614), (0, .int a), (1, .int (nI b))]) h dX12_common_20 (by decide) rfl ?_
          refine j_iload_n h 1 rfl rfl dX12_common_22 ?_
          refine j_istore_n (lv' := [(2, .int v3_13_2614), (4, .int (v2_13_2614 - v2_13_2614 / v3_13_2614 * v3_13_2614)), (3, .int v3_13_2614), (0, .int a), (1, .int (nI b))]) h dX12_common_23 rfl (by decide) rfl ?_
          refine j_iload h 1 rfl dX12_common_24 ?_
          refine j_istore_n (lv' := [(3, .int (v2_13_2614 - v2_13_2614 / v3_13_2614 * v3_13_2614)), (2, .int v3_13_2614), (4, .int (v2_13_2614 - v2_13_2614 / v3_13_2614 * v3_13_2614)), (0, .int a), (1, .int (nI b))]) h dX12_common_26 rfl (by decide) rfl ?_
          refine j_goto h 13 dX12_common_27 (by decide) ?_
          refine jm_sub [] (w' := []) rfl (by decide +kernel) [0, 1, 3, 4] (lv' := [(3, .int (v2_13_2614 - v2_13_2614 / v3_13_2614 * v3_13_2614)), (2, .int v3_13_2614), (0, .int a), (1, .int (nI b))]) rfl ?_
          exact ih13_2614 (v2_13_2614 - v2_13_2614 / v3_13_2614 * v3_13_2614) v3_13_2614 (show 0 < (v2_13_2614 - v2_13_2614 / v3_13_2614 * v3_13_2614) ∨ 0 < v3_13_2614 from Or.inr (Int32.not_le.mp z28556)) (show ((v2_13_2614 - v2_13_2614 / v3_13_2614 * v3_13_2614)).toNatClampNeg < m13_2614 from Nat.lt_of_lt_of_le (rem_mu z28556) (Nat.lt_succ_iff.mp hm13_2614))
    refine jm_sub [] (w' := []) rfl (by decide +kernel) [0, 1, 2, 3] (lv' := [(3, .int (nI b)), (2, .int (-a)), (0, .int a), (1, .int (nI b))]) rfl ?_
    exact lp13_2614 (((nI b)).toNatClampNeg + 1) (nI b) (-a) (show 0 < (nI b) ∨ 0 < (-a) by first | assumption | omega | exact Or.inl (nI_lt (a := 0) (by omega) (by omega))) (Nat.lt_succ_self _)
set_option maxHeartbeats 4000000 in
set_option maxRecDepth 100000 in
theorem s_X12_limp (lau : Launch) (gg : va_G) (kA : Nat → ClassId) (m : Nat) (wh : Int32) (m0 : Nat) (mtp : Nat) (mfa : Nat) (mfp : Int32) (mat : Nat) (msz : Nat) (mso : Nat) (mpl : Int32) (mnu : Int32) (mwd : Int64) (m10 : Nat) (m11 : Nat) (m12 : Nat) (m13 : Nat) (m14 : Nat) (m15 : Nat) (m16 : Nat) (m17 : Nat) (m18 : Nat) (m19 : Nat) (m20 : Nat) (m21 : Nat) (m22 : Nat) (m23 : Nat) (m24 : Nat) (mns : Nat) (mnl : Nat) (mne : Nat) (mst : Nat) (mlt : Nat) (mer : Nat) (m31 : Nat) (m32 : Nat) (m33 : Nat) (m34 : Nat) (m35 : Nat) (mwm : Nat) (mwt : Nat) (mwf : Nat) (m39 : Nat) (m40 : Nat) (m41 : Nat) (mla : Nat) (m43 : Nat) (m44 : Nat) (m45 : Nat) (m46 : Nat) (m47 : Nat) (m48 : Nat) (mtm : Nat) (m50 : Nat) (m51 : Nat) (m52 : Nat) (m53 : Nat) (m54 : Nat) (m55 : Nat) (m56 : Nat) (m57 : Nat) (m58 : Nat) (m59 : Nat) (m60 : Nat) (m61 : Nat) (msn : Nat) (mti : Nat) (m64 : Nat) (m65 : Nat) (m66 : Nat) (m67 : Nat) (m68 : Nat) (m69 : Nat) (mc18 : Nat → Int32) (mc20 : Nat → Int32) (mc35 : Nat → Int32) (hmfa : mfa ≤ 5) (hmso : mso ≤ 100) (hmst : mst ≤ 6) (hmlt : mlt ≤ 10) (hmer : mer ≤ 4) (hmtk : TkOk mst mc18) (hmwk : RoOk mst mwm mc35) (hmwm : mwm ≤ mwt) (hmwt : mwt ≤ 60) (hmwf : mwf ≤ 1) (hmsn : msn ≤ 30) (hmla : mla ≤ 60) (hmtp : mtp ≤ 1600) (hmti : mti ≤ 100000) (hmtm : mtm ≤ 60) : CtI lau yX12_limp cX12_limp 7 (some .int) 2 0 0 gg kA [.ref m, .int wh] (mflat [(m, .inl (.inr (12, (.ref m0 :: .int (nI mtp) :: .int (nI mfa) :: .int mfp :: .int (nI mat) :: .int (nI msz) :: .int (nI mso) :: .int mpl :: .int mnu :: .long mwd :: .ref m10 :: .ref m11 :: .ref m12 :: .ref m13 :: .ref m14 :: .ref m15 :: .ref m16 :: .ref m17 :: .ref m18 :: .ref m19 :: .ref m20 :: .ref m21 :: .ref m22 :: .ref m23 :: .ref m24 :: .int (nI mns) :: .int (nI mnl) :: .int (nI mne) :: .int (nI mst) :: .int (nI mlt) :: .int (nI mer) :: .ref m31 :: .ref m32 :: .ref m33 :: .ref m34 :: .ref m35 :: .int (nI mwm) :: .int (nI mwt) :: .int (nI mwf) :: .ref m39 :: .ref m40 :: .ref m41 :: .int (nI mla) :: .ref m43 :: .ref m44 :: .ref m45 :: .ref m46 :: .ref m47 :: .ref m48 :: .int (nI mtm) :: .ref m50 :: .ref m51 :: .ref m52 :: .ref m53 :: .ref m54 :: .ref m55 :: .ref m56 :: .ref m57 :: .ref m58 :: .ref m59 :: .ref m60 :: .ref m61 :: .int (nI msn) :: .int (nI mti) :: .ref m64 :: .ref m65 :: .ref m66 :: .ref m67 :: .ref m68 :: .ref m69 :: [])))), (m18, .inl (.inl (kA 1, 6, .inl mc18))), (m20, .inl (.inl (kA 1, 6, .inl mc20))), (m35, .inl (.inl (kA 1, 60, .inl mc35)))]) (S := Unit) (fun (r : Int32) (_ : Unit) => True) (fun (_ : Unit) => mflat [(m, .inl (.inr (12, (.ref m0 :: .int (nI mtp) :: .int (nI mfa) :: .int mfp :: .int (nI mat) :: .int (nI msz) :: .int (nI mso) :: .int mpl :: .int mnu :: .long mwd :: .ref m10 :: .ref m11 :: .ref m12 :: .ref m13 :: .ref m14 :: .ref m15 :: .ref m16 :: .ref m17 :: .ref m18 :: .ref m19 :: .ref m20 :: .ref m21 :: .ref m22 :: .ref m23 :: .ref m24 :: .int (nI mns) :: .int (nI mnl) :: .int (nI mne) :: .int (nI mst) :: .int (nI mlt) :: .int (nI mer) :: .ref m31 :: .ref m32 :: .ref m33 :: .ref m34 :: .ref m35 :: .int (nI mwm) :: .int (nI mwt) :: .int (nI mwf) :: .ref m39 :: .ref m40 :: .ref m41 :: .int (nI mla) :: .ref m43 :: .ref m44 :: .ref m45 :: .ref m46 :: .ref m47 :: .ref m48 :: .int (nI mtm) :: .ref m50 :: .ref m51 :: .ref m52 :: .ref m53 :: .ref m54 :: .ref m55 :: .ref m56 :: .ref m57 :: .ref m58 :: .ref m59 :: .ref m60 :: .ref m61 :: .int (nI msn) :: .int (nI mti) :: .ref m64 :: .ref m65 :: .ref m66 :: .ref m67 :: .ref m68 :: .ref m69 :: [])))), (m18, .inl (.inl (kA 1, 6, .inl mc18))), (m20, .inl (.inl (kA 1, 6, .inl mc20))), (m35, .inl (.inl (kA 1, 60, .inl mc35)))]) := by
  refine nx_startI (by decide +kernel) (Nat.le_of_ble_eq_true rfl) ?_
  intro x hnm h hq
  have h : Ok x cX12_limp RX12 kA (rmC 2 0 0) 7 := h
  show J x (mflat [(m, .inl (.inr (12, (.ref m0 :: .int (nI mtp) :: .int (nI mfa) :: .int mfp :: .int (nI mat) :: .int (nI msz) :: .int (nI mso) :: .int mpl :: .int mnu :: .long mwd :: .ref m10 :: .ref m11 :: .ref m12 :: .ref m13 :: .ref m14 :: .ref m15 :: .ref m16 :: .ref m17 :: .ref m18 :: .ref m19 :: .ref m20 :: .ref m21 :: .ref m22 :: .ref m23 :: .ref m24 :: .int (nI mns) :: .int (nI mnl) :: .int (nI mne) :: .int (nI mst) :: .int (nI mlt) :: .int (nI mer) :: .ref m31 :: .ref m32 :: .ref m33 :: .ref m34 :: .ref m35 :: .int (nI mwm) :: .int (nI mwt) :: .int (nI mwf) :: .ref m39 :: .ref m40 :: .ref m41 :: .int (nI mla) :: .ref m43 :: .ref m44 :: .ref m45 :: .ref m46 :: .ref m47 :: .ref m48 :: .int (nI mtm) :: .ref m50 :: .ref m51 :: .ref m52 :: .ref m53 :: .ref m54 :: .ref m55 :: .ref m56 :: .ref m57 :: .ref m58 :: .ref m59 :: .ref m60 :: .ref m61 :: .int (nI msn) :: .int (nI mti) :: .ref m64 :: .ref m65 :: .ref m66 :: .ref m67 :: .ref m68 :: .ref m69 :: [])))), (m18, .inl (.inl (kA 1, 6, .inl mc18))), (m20, .inl (.inl (kA 1, 6, .inl mc20))), (m35, .inl (.inl (kA 1, 60, .inl mc35)))]) [(0, .ref m), (1, .int wh)] 0 0 0 []
  refine j_iload_n h 1 rfl rfl dX12_limp_0 ?_
  refine j_iconst (v := 0) h (by decide) dX12_limp_1 ?_
  refine j_iconst (v := 1) h (by decide) dX12_limp_2 ?_
  refine jm_callSi (np := 3) (isC := []) (isR := [0, 1, 2, 3]) (wc := []) (wr := [(m, .inl (.inr (12, (.ref m0 :: .int (nI mtp) :: .int (nI mfa) :: .int mfp :: .int (nI mat) :: .int (nI msz) :: .int (nI mso) :: .int mpl :: .int mnu :: .long mwd :: .ref m10 :: .ref m11 :: .ref m12 :: .ref m13 :: .ref m14 :: .ref m15 :: .ref m16 :: .ref m17 :: .ref m18 :: .ref m19 :: .ref m20 :: .ref m21 :: .ref m22 :: .ref m23 :: .ref m24 :: .int (nI mns) :: .int (nI mnl) :: .int (nI mne) :: .int (nI mst) :: .int (nI mlt) :: .int (nI mer) :: .ref m31 :: .ref m32 :: .ref m33 :: .ref m34 :: .ref m35 :: .int (nI mwm) :: .int (nI mwt) :: .int (nI mwf) :: .ref m39 :: .ref m40 :: .ref m41 :: .int (nI mla) :: .ref m43 :: .ref m44 :: .ref m45 :: .ref m46 :: .ref m47 :: .ref m48 :: .int (nI mtm) :: .ref m50 :: .ref m51 :: .ref m52 :: .ref m53 :: .ref m54 :: .ref m55 :: .ref m56 :: .ref m57 :: .ref m58 :: .ref m59 :: .ref m60 :: .ref m61 :: .int (nI msn) :: .int (nI mti) :: .ref m64 :: .ref m65 :: .ref m66 :: .ref m67 :: .ref m68 :: .ref m69 :: [])))), (m18, .inl (.inl (kA 1, 6, .inl mc18))), (m20, .inl (.inl (kA 1, 6, .inl mc20))), (m35, .inl (.inl (kA 1, 60, .inl mc35)))]) (rest := []) (As := [.int wh, .int 0, .int 1]) h (s_X12_isIn _ _ kA wh 0 1 ) tw_1487 tw_1488 tw_99 tw_1489 (by decide +kernel) rfl ⟨Nat.le_of_ble_eq_true rfl, Nat.le_of_ble_eq_true rfl⟩ (by decide +kernel) rfl rfl (by decide +kernel) (by decide +kernel) (Nat.le_of_ble_eq_true rfl) rfl ⟨Nat.le_of_ble_eq_true rfl, Nat.le_of_ble_eq_true rfl⟩ dX12_limp_3 ?_
  rintro r28601 _ e28600
  have p28602 := e28600
  subst p28602
  show J x (mflat [(m, .inl (.inr (12, (.ref m0 :: .int (nI mtp) :: .int (nI mfa) :: .int mfp :: .int (nI mat) :: .int (nI msz) :: .int (nI mso) :: .int mpl :: .int mnu :: .long mwd :: .ref m10 :: .ref m11 :: .ref m12 :: .ref m13 :: .ref m14 :: .ref m15 :: .ref m16 :: .ref m17 :: .ref m18 :: .ref m19 :: .ref m20 :: .ref m21 :: .ref m22 :: .ref m23 :: .ref m24 :: .int (nI mns) :: .int (nI mnl) :: .int (nI mne) :: .int (nI mst) :: .int (nI mlt) :: .int (nI mer) :: .ref m31 :: .ref m32 :: .ref m33 :: .ref m34 :: .ref m35 :: .int (nI mwm) :: .int (nI mwt) :: .int (nI mwf) :: .ref m39 :: .ref m40 :: .ref m41 :: .int (nI mla) :: .ref m43 :: .ref m44 :: .ref m45 :: .ref m46 :: .ref m47 :: .ref m48 :: .int (nI mtm) :: .ref m50 :: .ref m51 :: .ref m52 :: .ref m53 :: .ref m54 :: .ref m55 :: .ref m56 :: .ref m57 :: .ref m58 :: .ref m59 :: .ref m60 :: .ref m61 :: .int (nI msn) :: .int (nI mti) :: .ref m64 :: .ref m65 :: .ref m66 :: .ref m67 :: .ref m68 :: .ref m69 :: [])))), (m18, .inl (.inl (kA 1, 6, .inl mc18))), (m20, .inl (.inl (kA 1, 6, .inl mc20))), (m35, .inl (.inl (kA 1, 60, .inl mc35)))]) [(0, .ref m), (1, .int wh)] 0 0 6 [.int (inV wh 0 1)]
  refine j_top (b := bIx wh 2) (inV_bIx (n := 2) (by omega)) ?_
  rcases bIx_cases wh 2 (by omega) with hTj28603 | ⟨j28603, hj28603, rfl, hBj28603⟩
  · refine j_top (b := 0) hTj28603 ?_
    show J x (mflat [(m, .inl (.inr (12, (.ref m0 :: .int (nI mtp) :: .int (nI mfa) :: .int mfp :: .int (nI mat) :: .int (nI msz) :: .int (nI mso) :: .int mpl :: .int mnu :: .long mwd :: .ref m10 :: .ref m11 :: .ref m12 :: .ref m13 :: .ref m14 :: .ref m15 :: .ref m16 :: .ref m17 :: .ref m18 :: .ref m19 :: .ref m20 :: .ref m21 :: .ref m22 :: .ref m23 :: .ref m24 :: .int (nI mns) :: .int (nI mnl) :: .int (nI mne) :: .int (nI mst) :: .int (nI mlt) :: .int (nI mer) :: .ref m31 :: .ref m32 :: .ref m33 :: .ref m34 :: .ref m35 :: .int (nI mwm) :: .int (nI mwt) :: .int (nI mwf) :: .ref m39 :: .ref m40 :: .ref m41 :: .int (nI mla) :: .ref m43 :: .ref m44 :: .ref m45 :: .ref m46 :: .ref m47 :: .ref m48 :: .int (nI mtm) :: .ref m50 :: .ref m51 :: .ref m52 :: .ref m53 :: .ref m54 :: .ref m55 :: .ref m56 :: .ref m57 :: .ref m58 :: .ref m59 :: .ref m60 :: .ref m61 :: .int (nI msn) :: .int (nI mti) :: .ref m64 :: .ref m65 :: .ref m66 :: .ref m67 :: .ref m68 :: .ref m69 :: [])))), (m18, .inl (.inl (kA 1, 6, .inl mc18))), (m20, .inl (.inl (kA 1, 6, .inl mc20))), (m35, .inl (.inl (kA 1, 60, .inl mc35)))]) [(0, .ref m), (1, .int wh)] 0 0 6 [.int 0]
    refine j_if_ne h 11 dX12_limp_6 (by decide) (fun q => absurd (by decide) q) (fun _ => ?_)
    refine j_iconst (v := (-1)) h (by decide) dX12_limp_9 ?_
    exact jm_iret h hq dX12_limp_10 () [0, 1, 2, 3] rfl (by decide) trivial (Nat.le_of_ble_eq_true rfl) (Nat.le_of_ble_eq_true rfl)
  · refine j_top (b := 1) hBj28603 ?_
    show J x (mflat [(m, .inl (.inr (12, (.ref m0 :: .int (nI mtp) :: .int (nI mfa) :: .int mfp :: .int (nI mat) :: .int (nI msz) :: .int (nI mso) :: .int mpl :: .int mnu :: .long mwd :: .ref m10 :: .ref m11 :: .ref m12 :: .ref m13 :: .ref m14 :: .ref m15 :: .ref m16 :: .ref m17 :: .ref m18 :: .ref m19 :: .ref m20 :: .ref m21 :: .ref m22 :: .ref m23 :: .ref m24 :: .int (nI mns) :: .int (nI mnl) :: .int (nI mne) :: .int (nI mst) :: .int (nI mlt) :: .int (nI mer) :: .ref m31 :: .ref m32 :: .ref m33 :: .ref m34 :: .ref m35 :: .int (nI mwm) :: .int (nI mwt) :: .int (nI mwf) :: .ref m39 :: .ref m40 :: .ref m41 :: .int (nI mla) :: .ref m43 :: .ref m44 :: .ref m45 :: .ref m46 :: .ref m47 :: .ref m48 :: .int (nI mtm) :: .ref m50 :: .ref m51 :: .ref m52 :: .ref m53 :: .ref m54 :: .ref m55 :: .ref m56 :: .ref m57 :: .ref m58 :: .ref m59 :: .ref m60 :: .ref m61 :: .int (nI msn) :: .int (nI mti) :: .ref m64 :: .ref m65 :: .ref m66 :: .ref m67 :: .ref m68 :: .ref m69 :: [])))), (m18, .inl (.inl (kA 1, 6, .inl mc18))), (m20, .inl (.inl (kA 1, 6, .inl mc20))), (m35, .inl (.inl (kA 1, 60, .inl mc35)))]) [(0, .ref m), (1, .int (nI j28603))] 0 0 6 [.int 1]
    refine j_if_ne h 11 dX12_limp_6 (by decide) (fun _ => ?_) (fun q => absurd q (by decide))
    refine j_iconst (v := 0) h (by decide) dX12_limp_11 ?_
    refine j_istore_n (lv' := [(2, .int 0), (0, .ref m), (1, .int (nI j28603))]) h dX12_limp_12 rfl (by decide) rfl ?_
    refine j_iconst (v := 0) h (by decide) dX12_limp_13 ?_
    refine j_istore_n (lv' := [(3, .int 0), (2, .int 0), (0, .ref m), (1, .int (nI j28603))]) h dX12_limp_14 rfl (by decide) rfl ?_
    refine j_iconst (v := 0) h (by decide) dX12_limp_15 ?_
    refine j_istore (lv' := [(4, .int 0), (3, .int 0), (2, .int 0), (0, .ref m), (1, .int (nI j28603))]) h dX12_limp_16 (by decide) rfl ?_
    refine j_iconst (v := 0) h (by decide) dX12_limp_18 ?_
    refine j_istore (lv' := [(5, .int 0), (4, .int 0), (3, .int 0), (2, .int 0), (0, .ref m), (1, .int (nI j28603))]) h dX12_limp_19 (by decide) rfl ?_
    have lp21_2620 : ∀ (m21_2620 : Nat), ∀ (v5_21_2620 : Nat) (v4_21_2620 : Nat) (v3_21_2620 : Nat) (v2_21_2620 : Int32), (v3_21_2620 ≤ 9 * v5_21_2620) → (v4_21_2620 ≤ 1) → (v5_21_2620 ≤ mwm) → (v5_21_2620 ≤ 100000) → (v4_21_2620 ≤ 100000) → (v3_21_2620 ≤ 100000) → 100001 - v5_21_2620 < m21_2620 → J x (mflat [(m, .inl (.inr (12, (.ref m0 :: .int (nI mtp) :: .int (nI mfa) :: .int mfp :: .int (nI mat) :: .int (nI msz) :: .int (nI mso) :: .int mpl :: .int mnu :: .long mwd :: .ref m10 :: .ref m11 :: .ref m12 :: .ref m13 :: .ref m14 :: .ref m15 :: .ref m16 :: .ref m17 :: .ref m18 :: .ref m19 :: .ref m20 :: .ref m21 :: .ref m22 :: .ref m23 :: .ref m24 :: .int (nI mns) :: .int (nI mnl) :: .int (nI mne) :: .int (nI mst) :: .int (nI mlt) :: .int (nI mer) :: .ref m31 :: .ref m32 :: .ref m33 :: .ref m34 :: .ref m35 :: .int (nI mwm) :: .int (nI mwt) :: .int (nI mwf) :: .ref m39 :: .ref m40 :: .ref m41 :: .int (nI mla) :: .ref m43 :: .ref m44 :: .ref m45 :: .ref m46 :: .ref m47 :: .ref m48 :: .int (nI mtm) :: .ref m50 :: .ref m51 :: .ref m52 :: .ref m53 :: .ref m54 :: .ref m55 :: .ref m56 :: .ref m57 :: .ref m58 :: .ref m59 :: .ref m60 :: .ref m61 :: .int (nI msn) :: .int (nI mti) :: .ref m64 :: .ref m65 :: .ref m66 :: .ref m67 :: .ref m68 :: .ref m69 :: [])))), (m18, .inl (.inl (kA 1, 6, .inl mc18))), (m20, .inl (.inl (kA 1, 6, .inl mc20))), (m35, .inl (.inl (kA 1, 60, .inl mc35)))]) [(5, .int (nI v5_21_2620)), (4, .int (nI v4_21_2620)), (3, .int (nI v3_21_2620)), (2, .int v2_21_2620), (0, .ref m), (1, .int (nI j28603))] 0 0 21 [] := by
      intro m21_2620
      induction m21_2620 with
      | zero =>
        intro v5_21_2620 v4_21_2620 v3_21_2620 v2_21_2620 i21_2620_0 i21_2620_1 i21_2620_2 i21_2620_3 i21_2620_4 i21_2620_5 hm21_2620
        exact absurd hm21_2620 (Nat.not_lt_zero _)
      | succ m21_2620 ih21_2620 =>
        intro v5_21_2620 v4_21_2620 v3_21_2620 v2_21_2620 i21_2620_0 i21_2620_1 i21_2620_2 i21_2620_3 i21_2620_4 i21_2620_5 hm21_2620
        refine j_iload h 0 rfl dX12_limp_21 ?_
        refine j_aload_n h 4 rfl rfl dX12_limp_23 ?_
        refine jm_get h iw_X12 0 rfl rfl 36 (by decide +kernel) tw_1192 rfl dX12_limp_24 ?_
        refine j_icmp_ge h 101 dX12_limp_27 (by decide) (fun z28628 => ?_) (fun z28628 => ?_)
        · have z28628n : mwm ≤ v5_21_2620 := (nI_leI (a := mwm) (b := v5_21_2620) (by omega) (by omega)).mp z28628
          refine j_iload_n h 2 rfl rfl dX12_limp_101 ?_
          refine j_if_ne h 107 dX12_limp_102 (by decide) (fun z28629 => ?_) (fun z28629 => ?_)
          · have z28629n : ¬ v3_21_2620 = 0 := fun q9 => z28629 ((nI_eq (a := v3_21_2620) (b := 0) (by omega) (by omega)).mpr q9)
            refine j_iload_n h 3 rfl rfl dX12_limp_107 ?_
            refine j_iload_n h 2 rfl rfl dX12_limp_108 ?_
            refine jm_callSi (np := 2) (isC := []) (isR := [0, 1, 2, 3]) (wc := []) (wr := [(m, .inl (.inr (12, (.ref m0 :: .int (nI mtp) :: .int (nI mfa) :: .int mfp :: .int (nI mat) :: .int (nI msz) :: .int (nI mso) :: .int mpl :: .int mnu :: .long mwd :: .ref m10 :: .ref m11 :: .ref m12 :: .ref m13 :: .ref m14 :: .ref m15 :: .ref m16 :: .ref m17 :: .ref m18 :: .ref m19 :: .ref m20 :: .ref m21 :: .ref m22 :: .ref m23 :: .ref m24 :: .int (nI mns) :: .int (nI mnl) :: .int (nI mne) :: .int (nI mst) :: .int (nI mlt) :: .int (nI mer) :: .ref m31 :: .ref m32 :: .ref m33 :: .ref m34 :: .ref m35 :: .int (nI mwm) :: .int (nI mwt) :: .int (nI mwf) :: .ref m39 :: .ref m40 :: .ref m41 :: .int (nI mla) :: .ref m43 :: .ref m44 :: .ref m45 :: .ref m46 :: .ref m47 :: .ref m48 :: .int (nI mtm) :: .ref m50 :: .ref m51 :: .ref m52 :: .ref m53 :: .ref m54 :: .ref m55 :: .ref m56 :: .ref m57 :: .ref m58 :: .ref m59 :: .ref m60 :: .ref m61 :: .int (nI msn) :: .int (nI mti) :: .ref m64 :: .ref m65 :: .ref m66 :: .ref m67 :: .ref m68 :: .ref m69 :: [])))), (m18, .inl (.inl (kA 1, 6, .inl mc18))), (m20, .inl (.inl (kA 1, 6, .inl mc20))), (m35, .inl (.inl (kA 1, 60, .inl mc35)))]) (rest := []) (As := [.int v2_21_2620, .int (nI v3_21_2620)]) h (s_X12_common _ _ kA v2_21_2620 v3_21_2620 (show 1 ≤ v3_21_2620 by first | assumption | omega) (show v3_21_2620 ≤ 100000 by first | assumption | omega)) tw_1647 tw_1648 tw_99 tw_1649 (by decide +kernel) rfl ⟨Nat.le_of_ble_eq_true rfl, Nat.le_of_ble_eq_true rfl⟩ (by decide +kernel) rfl rfl (by decide +kernel) (by decide +kernel) (Nat.le_of_ble_eq_true rfl) rfl ⟨Nat.le_of_ble_eq_true rfl, Nat.le_of_ble_eq_true rfl⟩ dX12_limp_109 ?_
            rintro r28631 _ e28630
            have p28632 := e28630
            replace p28632 : 0 < r28631 := p28632
            show J x (mflat [(m, .inl (.inr (12, (.ref m0 :: .int (nI mtp) :: .int (nI mfa) :: .int mfp :: .int (nI mat) :: .int (nI msz) :: .int (nI mso) :: .int mpl :: .int mnu :: .long mwd :: .ref m10 :: .ref m11 :: .ref m12 :: .ref m13 :: .ref m14 :: .ref m15 :: .ref m16 :: .ref m17 :: .ref m18 :: .ref m19 :: .ref m20 :: .ref m21 :: .ref m22 :: .ref m23 :: .ref m24 :: .int (nI mns) :: .int (nI mnl) :: .int (nI mne) :: .int (nI mst) :: .int (nI mlt) :: .int (nI mer) :: .ref m31 :: .ref m32 :: .ref m33 :: .ref m34 :: .ref m35 :: .int (nI mwm) :: .int (nI mwt) :: .int (nI mwf) :: .ref m39 :: .ref m40 :: .ref m41 :: .int (nI mla) :: .ref m43 :: .ref m44 :: .ref m45 :: .ref m46 :: .ref m47 :: .ref m48 :: .int (nI mtm) :: .ref m50 :: .ref m51 :: .ref m52 :: .ref m53 :: .ref m54 :: .ref m55 :: .ref m56 :: .ref m57 :: .ref m58 :: .ref m59 :: .ref m60 :: .ref m61 :: .int (nI msn) :: .int (nI mti) :: .ref m64 :: .ref m65 :: .ref m66 :: .ref m67 :: .ref m68 :: .ref m69 :: [])))), (m18, .inl (.inl (kA 1, 6, .inl mc18))), (m20, .inl (.inl (kA 1, 6, .inl mc20))), (m35, .inl (.inl (kA 1, 60, .inl mc35)))]) [(5, .int (nI v5_21_2620)), (4, .int (nI v4_21_2620)), (3, .int (nI v3_21_2620)), (2, .int v2_21_2620), (0, .ref m), (1, .int (nI j28603))] 0 0 112 [.int r28631]
            have hz8 : ¬ r28631 = 0 := fun q9 => Int32.lt_irrefl (by rw [q9] at p28632; exact p28632)
            refine j_istore (lv' := [(5, .int r28631), (4, .int (nI v4_21_2620)), (3, .int (nI v3_21_2620)), (2, .int v2_21_2620), (0, .ref m), (1, .int (nI j28603))]) h dX12_limp_112 (by decide) rfl ?_
            refine j_iload_n h 5 rfl rfl dX12_limp_114 ?_
            refine j_if_ne h 125 dX12_limp_115 (by decide) (fun z28633 => ?_) (fun z28633 => ?_)
            · have z28633n : ¬ j28603 = 0 := fun q9 => z28633 ((nI_eq (a := j28603) (b := 0) (by omega) (by omega)).mpr q9)
              refine j_iload_n h 2 rfl rfl dX12_limp_125 ?_
              refine j_iload h 0 rfl dX12_limp_126 ?_
              refine j_idiv h (by assumption) dX12_limp_128 ?_
              exact jm_iret h hq dX12_limp_129 () [0, 1, 2, 3] rfl (by decide) trivial (Nat.le_of_ble_eq_true rfl) (Nat.le_of_ble_eq_true rfl)
            · have z28633n : j28603 = 0 := (nI_eq (a := j28603) (b := 0) (by omega) (by omega)).mp z28633
              refine j_iload_n h 3 rfl rfl dX12_limp_118 ?_
              refine j_iload h 0 rfl dX12_limp_119 ?_
              refine j_idiv h (by assumption) dX12_limp_121 ?_
              refine j_goto h 129 dX12_limp_122 (by decide) ?_
              exact jm_iret h hq dX12_limp_129 () [0, 1, 2, 3] rfl (by decide) trivial (Nat.le_of_ble_eq_true rfl) (Nat.le_of_ble_eq_true rfl)
          · have z28629n : v3_21_2620 = 0 := (nI_eq (a := v3_21_2620) (b := 0) (by omega) (by omega)).mp z28629
            refine j_iload_n h 5 rfl rfl dX12_limp_105 ?_
            exact jm_iret h hq dX12_limp_106 () [0, 1, 2, 3] rfl (by decide) trivial (Nat.le_of_ble_eq_true rfl) (Nat.le_of_ble_eq_true rfl)
        · have z28628n : ¬ mwm ≤ v5_21_2620 := fun q9 => z28628 ((nI_leI (a := mwm) (b := v5_21_2620) (by omega) (by omega)).mpr q9)
          refine j_aload_n h 4 rfl rfl dX12_limp_30 ?_
          refine jm_get h iw_X12 0 rfl rfl 35 (by decide +kernel) tw_1191 rfl dX12_limp_31 ?_
          refine j_iload h 0 rfl dX12_limp_34 ?_
          refine jm_iald h 3 rfl v5_21_2620 rfl (by omega) (by omega) dX12_limp_36 ?_
          obtain ⟨t28634, u28635, u28636⟩ := (show RoOk mst mwm mc35 by assumption) v5_21_2620 (by omega)
          refine j_top (b := nI t28634) (u28636) ?_
          refine j_istore (lv' := [(6, .int (nI t28634)), (5, .int (nI v5_21_2620)), (4, .int (nI v4_21_2620)), (3, .int (nI v3_21_2620)), (2, .int v2_21_2620), (0, .ref m), (1, .int (nI j28603))]) h dX12_limp_37 (by decide) rfl ?_
          refine j_aload_n h 5 rfl rfl dX12_limp_39 ?_
          refine jm_get h iw_X12 0 rfl rfl 20 (by decide +kernel) tw_1176 rfl dX12_limp_40 ?_
          refine j_iload h 0 rfl dX12_limp_43 ?_
          refine jm_iald h 2 rfl t28634 rfl (by omega) (by omega) dX12_limp_45 ?_
          refine j_iconst (v := 3) h (by decide) dX12_limp_46 ?_
          refine j_icmp_ne h 53 dX12_limp_47 (by decide) (fun z28637 => ?_) (fun z28637 => ?_)
          · show J x (mflat [(m, .inl (.inr (12, (.ref m0 :: .int (nI mtp) :: .int (nI mfa) :: .int mfp :: .int (nI mat) :: .int (nI msz) :: .int (nI mso) :: .int mpl :: .int mnu :: .long mwd :: .ref m10 :: .ref m11 :: .ref m12 :: .ref m13 :: .ref m14 :: .ref m15 :: .ref m16 :: .ref m17 :: .ref m18 :: .ref m19 :: .ref m20 :: .ref m21 :: .ref m22 :: .ref m23 :: .ref m24 :: .int (nI mns) :: .int (nI mnl) :: .int (nI mne) :: .int (nI mst) :: .int (nI mlt) :: .int (nI mer) :: .ref m31 :: .ref m32 :: .ref m33 :: .ref m34 :: .ref m35 :: .int (nI mwm) :: .int (nI mwt) :: .int (nI mwf) :: .ref m39 :: .ref m40 :: .ref m41 :: .int (nI mla) :: .ref m43 :: .ref m44 :: .ref m45 :: .ref m46 :: .ref m47 :: .ref m48 :: .int (nI mtm) :: .ref m50 :: .ref m51 :: .ref m52 :: .ref m53 :: .ref m54 :: .ref m55 :: .ref m56 :: .ref m57 :: .ref m58 :: .ref m59 :: .ref m60 :: .ref m61 :: .int (nI msn) :: .int (nI mti) :: .ref m64 :: .ref m65 :: .ref m66 :: .ref m67 :: .ref m68 :: .ref m69 :: [])))), (m18, .inl (.inl (kA 1, 6, .inl mc18))), (m20, .inl (.inl (kA 1, 6, .inl mc20))), (m35, .inl (.inl (kA 1, 60, .inl mc35)))]) [(6, .int (nI t28634)), (5, .int (nI v5_21_2620)), (4, .int (nI v4_21_2620)), (3, .int (nI v3_21_2620)), (2, .int v2_21_2620), (0, .ref m), (1, .int (nI j28603))] 0 0 53 []
            refine j_iload_n h 3 rfl rfl dX12_limp_53 ?_
            refine j_aload_n h 5 rfl rfl dX12_limp_54 ?_
            refine jm_get h iw_X12 0 rfl rfl 18 (by decide +kernel) tw_1174 rfl dX12_limp_55 ?_
            refine j_iload h 0 rfl dX12_limp_58 ?_
            refine jm_iald h 1 rfl t28634 rfl (by omega) (by omega) dX12_limp_60 ?_
            obtain ⟨t28638, u28639, u28640, u28641⟩ := (show TkOk mst mc18 by assumption) t28634 (by omega)
            refine j_top (b := nI t28638) (u28641) ?_
            refine j_iadd h dX12_limp_61 ?_
            refine j_top (b := nI (v3_21_2620 + t28638)) (nI_add v3_21_2620 t28638) ?_
            refine j_istore_n (lv' := [(3, .int (nI (v3_21_2620 + t28638))), (6, .int (nI t28634)), (5, .int (nI v5_21_2620)), (4, .int (nI v4_21_2620)), (2, .int v2_21_2620), (0, .ref m), (1, .int (nI j28603))]) h dX12_limp_62 rfl (by decide) rfl ?_
            refine j_iload_n h 4 rfl rfl dX12_limp_63 ?_
            refine j_iload h 3 rfl dX12_limp_64 ?_
            refine j_if_ne h 79 dX12_limp_66 (by decide) (fun z28642 => ?_) (fun z28642 => ?_)
            · have z28642n : ¬ v4_21_2620 = 0 := fun q9 => z28642 ((nI_eq (a := v4_21_2620) (b := 0) (by omega) (by omega)).mpr q9)
              refine j_aload_n h 5 rfl rfl dX12_limp_79 ?_
              refine jm_get h iw_X12 0 rfl rfl 18 (by decide +kernel) tw_1174 rfl dX12_limp_80 ?_
              refine j_iload h 1 rfl dX12_limp_83 ?_
              refine jm_iald h 1 rfl t28634 rfl (by omega) (by omega) dX12_limp_85 ?_
              refine j_top (b := nI t28638) (u28641) ?_
              refine j_ineg h dX12_limp_86 ?_
              refine j_iadd h dX12_limp_87 ?_
              refine j_istore_n (lv' := [(2, .int (v2_21_2620 + (-(nI t28638)))), (3, .int (nI (v3_21_2620 + t28638))), (6, .int (nI t28634)), (5, .int (nI v5_21_2620)), (4, .int (nI v4_21_2620)), (0, .ref m), (1, .int (nI j28603))]) h dX12_limp_88 rfl (by decide) rfl ?_
              refine j_iconst (v := 1) h (by decide) dX12_limp_89 ?_
              refine j_iload h 4 rfl dX12_limp_90 ?_
              refine j_isub h dX12_limp_92 ?_
              refine j_top (b := nI (1 - v4_21_2620)) (pk_sub (a := 1) (b := v4_21_2620) (by omega)) ?_
              refine j_istore (lv' := [(4, .int (nI (1 - v4_21_2620))), (2, .int (v2_21_2620 + (-(nI t28638)))), (3, .int (nI (v3_21_2620 + t28638))), (6, .int (nI t28634)), (5, .int (nI v5_21_2620)), (0, .ref m), (1, .int (nI j28603))]) h dX12_limp_93 (by decide) rfl ?_
              refine j_iinc (v := nI (v5_21_2620 + 1)) (lv' := [(5, .int (nI (v5_21_2620 + 1))), (4, .int (nI (1 - v4_21_2620))), (2, .int (v2_21_2620 + (-(nI t28638)))), (3, .int (nI (v3_21_2620 + t28638))), (6, .int (nI t28634)), (0, .ref m), (1, .int (nI j28603))]) h dX12_limp_95 4 rfl (nI_add v5_21_2620 1) (by decide) rfl ?_
              refine j_goto h 21 dX12_limp_98 (by decide) ?_
              refine jm_sub [0, 1, 2, 3] (w' := [(m, .inl (.inr (12, (.ref m0 :: .int (nI mtp) :: .int (nI mfa) :: .int mfp :: .int (nI mat) :: .int (nI msz) :: .int (nI mso) :: .int mpl :: .int mnu :: .long mwd :: .ref m10 :: .ref m11 :: .ref m12 :: .ref m13 :: .ref m14 :: .ref m15 :: .ref m16 :: .ref m17 :: .ref m18 :: .ref m19 :: .ref m20 :: .ref m21 :: .ref m22 :: .ref m23 :: .ref m24 :: .int (nI mns) :: .int (nI mnl) :: .int (nI mne) :: .int (nI mst) :: .int (nI mlt) :: .int (nI mer) :: .ref m31 :: .ref m32 :: .ref m33 :: .ref m34 :: .ref m35 :: .int (nI mwm) :: .int (nI mwt) :: .int (nI mwf) :: .ref m39 :: .ref m40 :: .ref m41 :: .int (nI mla) :: .ref m43 :: .ref m44 :: .ref m45 :: .ref m46 :: .ref m47 :: .ref m48 :: .int (nI mtm) :: .ref m50 :: .ref m51 :: .ref m52 :: .ref m53 :: .ref m54 :: .ref m55 :: .ref m56 :: .ref m57 :: .ref m58 :: .ref m59 :: .ref m60 :: .ref m61 :: .int (nI msn) :: .int (nI mti) :: .ref m64 :: .ref m65 :: .ref m66 :: .ref m67 :: .ref m68 :: .ref m69 :: [])))), (m18, .inl (.inl (kA 1, 6, .inl mc18))), (m20, .inl (.inl (kA 1, 6, .inl mc20))), (m35, .inl (.inl (kA 1, 60, .inl mc35)))]) rfl (by decide +kernel) [0, 1, 3, 2, 5, 6] (lv' := [(5, .int (nI (v5_21_2620 + 1))), (4, .int (nI (1 - v4_21_2620))), (3, .int (nI (v3_21_2620 + t28638))), (2, .int (v2_21_2620 + (-(nI t28638)))), (0, .ref m), (1, .int (nI j28603))]) rfl ?_
              exact ih21_2620 (v5_21_2620 + 1) (1 - v4_21_2620) (v3_21_2620 + t28638) (v2_21_2620 + (-(nI t28638))) (show (v3_21_2620 + t28638) ≤ 9 * (v5_21_2620 + 1) by first | assumption | omega) (show (1 - v4_21_2620) ≤ 1 by first | assumption | omega) (show (v5_21_2620 + 1) ≤ mwm by first | assumption | omega) (show (v5_21_2620 + 1) ≤ 100000 by first | assumption | omega) (show (1 - v4_21_2620) ≤ 100000 by first | assumption | omega) (show (v3_21_2620 + t28638) ≤ 100000 by first | assumption | omega) (show 100001 - (v5_21_2620 + 1) < m21_2620 by first | exact Nat.lt_of_lt_of_le (Nat.sub_lt_sub_left (Nat.lt_of_le_of_lt (show v5_21_2620 ≤ 100000 by assumption) (Nat.lt_succ_self 100000)) (Nat.lt_succ_self v5_21_2620)) (Nat.le_of_lt_succ hm21_2620) | omega)
            · have z28642n : v4_21_2620 = 0 := (nI_eq (a := v4_21_2620) (b := 0) (by omega) (by omega)).mp z28642
              refine j_aload_n h 5 rfl rfl dX12_limp_69 ?_
              refine jm_get h iw_X12 0 rfl rfl 18 (by decide +kernel) tw_1174 rfl dX12_limp_70 ?_
              refine j_iload h 1 rfl dX12_limp_73 ?_
              refine jm_iald h 1 rfl t28634 rfl (by omega) (by omega) dX12_limp_75 ?_
              refine j_top (b := nI t28638) (u28641) ?_
              refine j_goto h 87 dX12_limp_76 (by decide) ?_
              refine j_iadd h dX12_limp_87 ?_
              refine j_istore_n (lv' := [(2, .int (v2_21_2620 + (nI t28638))), (3, .int (nI (v3_21_2620 + t28638))), (6, .int (nI t28634)), (5, .int (nI v5_21_2620)), (4, .int (nI v4_21_2620)), (0, .ref m), (1, .int (nI j28603))]) h dX12_limp_88 rfl (by decide) rfl ?_
              refine j_iconst (v := 1) h (by decide) dX12_limp_89 ?_
              refine j_iload h 4 rfl dX12_limp_90 ?_
              refine j_isub h dX12_limp_92 ?_
              refine j_top (b := nI (1 - v4_21_2620)) (pk_sub (a := 1) (b := v4_21_2620) (by omega)) ?_
              refine j_istore (lv' := [(4, .int (nI (1 - v4_21_2620))), (2, .int (v2_21_2620 + (nI t28638))), (3, .int (nI (v3_21_2620 + t28638))), (6, .int (nI t28634)), (5, .int (nI v5_21_2620)), (0, .ref m), (1, .int (nI j28603))]) h dX12_limp_93 (by decide) rfl ?_
              refine j_iinc (v := nI (v5_21_2620 + 1)) (lv' := [(5, .int (nI (v5_21_2620 + 1))), (4, .int (nI (1 - v4_21_2620))), (2, .int (v2_21_2620 + (nI t28638))), (3, .int (nI (v3_21_2620 + t28638))), (6, .int (nI t28634)), (0, .ref m), (1, .int (nI j28603))]) h dX12_limp_95 4 rfl (nI_add v5_21_2620 1) (by decide) rfl ?_
              refine j_goto h 21 dX12_limp_98 (by decide) ?_
              refine jm_sub [0, 1, 2, 3] (w' := [(m, .inl (.inr (12, (.ref m0 :: .int (nI mtp) :: .int (nI mfa) :: .int mfp :: .int (nI mat) :: .int (nI msz) :: .int (nI mso) :: .int mpl :: .int mnu :: .long mwd :: .ref m10 :: .ref m11 :: .ref m12 :: .ref m13 :: .ref m14 :: .ref m15 :: .ref m16 :: .ref m17 :: .ref m18 :: .ref m19 :: .ref m20 :: .ref m21 :: .ref m22 :: .ref m23 :: .ref m24 :: .int (nI mns) :: .int (nI mnl) :: .int (nI mne) :: .int (nI mst) :: .int (nI mlt) :: .int (nI mer) :: .ref m31 :: .ref m32 :: .ref m33 :: .ref m34 :: .ref m35 :: .int (nI mwm) :: .int (nI mwt) :: .int (nI mwf) :: .ref m39 :: .ref m40 :: .ref m41 :: .int (nI mla) :: .ref m43 :: .ref m44 :: .ref m45 :: .ref m46 :: .ref m47 :: .ref m48 :: .int (nI mtm) :: .ref m50 :: .ref m51 :: .ref m52 :: .ref m53 :: .ref m54 :: .ref m55 :: .ref m56 :: .ref m57 :: .ref m58 :: .ref m59 :: .ref m60 :: .ref m61 :: .int (nI msn) :: .int (nI mti) :: .ref m64 :: .ref m65 :: .ref m66 :: .ref m67 :: .ref m68 :: .ref m69 :: [])))), (m18, .inl (.inl (kA 1, 6, .inl mc18))), (m20, .inl (.inl (kA 1, 6, .inl mc20))), (m35, .inl (.inl (kA 1, 60, .inl mc35)))]) rfl (by decide +kernel) [0, 1, 3, 2, 5, 6] (lv' := [(5, .int (nI (v5_21_2620 + 1))), (4, .int (nI (1 - v4_21_2620))), (3, .int (nI (v3_21_2620 + t28638))), (2, .int (v2_21_2620 + (nI t28638))), (0, .ref m), (1, .int (nI j28603))]) rfl ?_
              exact ih21_2620 (v5_21_2620 + 1) (1 - v4_21_2620) (v3_21_2620 + t28638) (v2_21_2620 + (nI t28638)) (show (v3_21_2620 + t28638) ≤ 9 * (v5_21_2620 + 1) by first | assumption | omega) (show (1 - v4_21_2620) ≤ 1 by first | assumption | omega) (show (v5_21_2620 + 1) ≤ mwm by first | assumption | omega) (show (v5_21_2620 + 1) ≤ 100000 by first | assumption | omega) (show (1 - v4_21_2620) ≤ 100000 by first | assumption | omega) (show (v3_21_2620 + t28638) ≤ 100000 by first | assumption | omega) (show 100001 - (v5_21_2620 + 1) < m21_2620 by first | exact Nat.lt_of_lt_of_le (Nat.sub_lt_sub_left (Nat.lt_of_le_of_lt (show v5_21_2620 ≤ 100000 by assumption) (Nat.lt_succ_self 100000)) (Nat.lt_succ_self v5_21_2620)) (Nat.le_of_lt_succ hm21_2620) | omega)
          · show J x (mflat [(m, .inl (.inr (12, (.ref m0 :: .int (nI mtp) :: .int (nI mfa) :: .int mfp :: .int (nI mat) :: .int (nI msz) :: .int (nI mso) :: .int mpl :: .int mnu :: .long mwd :: .ref m10 :: .ref m11 :: .ref m12 :: .ref m13 :: .ref m14 :: .ref m15 :: .ref m16 :: .ref m17 :: .ref m18 :: .ref m19 :: .ref m20 :: .ref m21 :: .ref m22 :: .ref m23 :: .ref m24 :: .int (nI mns) :: .int (nI mnl) :: .int (nI mne) :: .int (nI mst) :: .int (nI mlt) :: .int (nI mer) :: .ref m31 :: .ref m32 :: .ref m33 :: .ref m34 :: .ref m35 :: .int (nI mwm) :: .int (nI mwt) :: .int (nI mwf) :: .ref m39 :: .ref m40 :: .ref m41 :: .int (nI mla) :: .ref m43 :: .ref m44 :: .ref m45 :: .ref m46 :: .ref m47 :: .ref m48 :: .int (nI mtm) :: .ref m50 :: .ref m51 :: .ref m52 :: .ref m53 :: .ref m54 :: .ref m55 :: .ref m56 :: .ref m57 :: .ref m58 :: .ref m59 :: .ref m60 :: .ref m61 :: .int (nI msn) :: .int (nI mti) :: .ref m64 :: .ref m65 :: .ref m66 :: .ref m67 :: .ref m68 :: .ref m69 :: [])))), (m18, .inl (.inl (kA 1, 6, .inl mc18))), (m20, .inl (.inl (kA 1, 6, .inl mc20))), (m35, .inl (.inl (kA 1, 60, .inl mc35)))]) [(6, .int (nI t28634)), (5, .int (nI v5_21_2620)), (4, .int (nI v4_21_2620)), (3, .int (nI v3_21_2620)), (2, .int v2_21_2620), (0, .ref m), (1, .int (nI j28603))] 0 0 50 []
            refine j_goto h 95 dX12_limp_50 (by decide) ?_
            refine j_iinc (v := nI (v5_21_2620 + 1)) (lv' := [(5, .int (nI (v5_21_2620 + 1))), (6, .int (nI t28634)), (4, .int (nI v4_21_2620)), (3, .int (nI v3_21_2620)), (2, .int v2_21_2620), (0, .ref m), (1, .int (nI j28603))]) h dX12_limp_95 1 rfl (nI_add v5_21_2620 1) (by decide) rfl ?_
            refine j_goto h 21 dX12_limp_98 (by decide) ?_
            refine jm_sub [0, 1, 2, 3] (w' := [(m, .inl (.inr (12, (.ref m0 :: .int (nI mtp) :: .int (nI mfa) :: .int mfp :: .int (nI mat) :: .int (nI msz) :: .int (nI mso) :: .int mpl :: .int mnu :: .long mwd :: .ref m10 :: .ref m11 :: .ref m12 :: .ref m13 :: .ref m14 :: .ref m15 :: .ref m16 :: .ref m17 :: .ref m18 :: .ref m19 :: .ref m20 :: .ref m21 :: .ref m22 :: .ref m23 :: .ref m24 :: .int (nI mns) :: .int (nI mnl) :: .int (nI mne) :: .int (nI mst) :: .int (nI mlt) :: .int (nI mer) :: .ref m31 :: .ref m32 :: .ref m33 :: .ref m34 :: .ref m35 :: .int (nI mwm) :: .int (nI mwt) :: .int (nI mwf) :: .ref m39 :: .ref m40 :: .ref m41 :: .int (nI mla) :: .ref m43 :: .ref m44 :: .ref m45 :: .ref m46 :: .ref m47 :: .ref m48 :: .int (nI mtm) :: .ref m50 :: .ref m51 :: .ref m52 :: .ref m53 :: .ref m54 :: .ref m55 :: .ref m56 :: .ref m57 :: .ref m58 :: .ref m59 :: .ref m60 :: .ref m61 :: .int (nI msn) :: .int (nI mti) :: .ref m64 :: .ref m65 :: .ref m66 :: .ref m67 :: .ref m68 :: .ref m69 :: [])))), (m18, .inl (.inl (kA 1, 6, .inl mc18))), (m20, .inl (.inl (kA 1, 6, .inl mc20))), (m35, .inl (.inl (kA 1, 60, .inl mc35)))]) rfl (by decide +kernel) [0, 2, 3, 4, 5, 6] (lv' := [(5, .int (nI (v5_21_2620 + 1))), (4, .int (nI v4_21_2620)), (3, .int (nI v3_21_2620)), (2, .int v2_21_2620), (0, .ref m), (1, .int (nI j28603))]) rfl ?_
            exact ih21_2620 (v5_21_2620 + 1) v4_21_2620 v3_21_2620 v2_21_2620 (show v3_21_2620 ≤ 9 * (v5_21_2620 + 1) by first | assumption | omega) (show v4_21_2620 ≤ 1 by first | assumption | omega) (show (v5_21_2620 + 1) ≤ mwm by first | assumption | omega) (show (v5_21_2620 + 1) ≤ 100000 by first | assumption | omega) (show v4_21_2620 ≤ 100000 by first | assumption | omega) (show v3_21_2620 ≤ 100000 by first | assumption | omega) (show 100001 - (v5_21_2620 + 1) < m21_2620 by first | exact Nat.lt_of_lt_of_le (Nat.sub_lt_sub_left (Nat.lt_of_le_of_lt (show v5_21_2620 ≤ 100000 by assumption) (Nat.lt_succ_self 100000)) (Nat.lt_succ_self v5_21_2620)) (Nat.le_of_lt_succ hm21_2620) | omega)
    refine jm_sub [0, 1, 2, 3] (w' := [(m, .inl (.inr (12, (.ref m0 :: .int (nI mtp) :: .int (nI mfa) :: .int mfp :: .int (nI mat) :: .int (nI msz) :: .int (nI mso) :: .int mpl :: .int mnu :: .long mwd :: .ref m10 :: .ref m11 :: .ref m12 :: .ref m13 :: .ref m14 :: .ref m15 :: .ref m16 :: .ref m17 :: .ref m18 :: .ref m19 :: .ref m20 :: .ref m21 :: .ref m22 :: .ref m23 :: .ref m24 :: .int (nI mns) :: .int (nI mnl) :: .int (nI mne) :: .int (nI mst) :: .int (nI mlt) :: .int (nI mer) :: .ref m31 :: .ref m32 :: .ref m33 :: .ref m34 :: .ref m35 :: .int (nI mwm) :: .int (nI mwt) :: .int (nI mwf) :: .ref m39 :: .ref m40 :: .ref m41 :: .int (nI mla) :: .ref m43 :: .ref m44 :: .ref m45 :: .ref m46 :: .ref m47 :: .ref m48 :: .int (nI mtm) :: .ref m50 :: .ref m51 :: .ref m52 :: .ref m53 :: .ref m54 :: .ref m55 :: .ref m56 :: .ref m57 :: .ref m58 :: .ref m59 :: .ref m60 :: .ref m61 :: .int (nI msn) :: .int (nI mti) :: .ref m64 :: .ref m65 :: .ref m66 :: .ref m67 :: .ref m68 :: .ref m69 :: [])))), (m18, .inl (.inl (kA 1, 6, .inl mc18))), (m20, .inl (.inl (kA 1, 6, .inl mc20))), (m35, .inl (.inl (kA 1, 60, .inl mc35)))]) rfl (by decide +kernel) [0, 1, 2, 3, 4, 5] (lv' := [(5, .int 0), (4, .int 0), (3, .int 0), (2, .int 0), (0, .ref m), (1, .int (nI j28603))]) rfl ?_
    exact lp21_2620 (100001 - 0 + 1) 0 0 0 0 (show 0 ≤ 9 * 0 by first | assumption | omega) (show 0 ≤ 1 by first | assumption | omega) (show 0 ≤ mwm by first | assumption | omega) (show 0 ≤ 100000 by first | assumption | omega) (show 0 ≤ 100000 by first | assumption | omega) (show 0 ≤ 100000 by first | assumption | omega) (Nat.lt_succ_self _)
