def inV (v lo hi : Int32) : Int32 := if v < lo then 0 else if hi < v then 0 else 1
theorem pm_lt {n j : Nat} (hn : n ≤ 100000) (hj : j < 2147483648) : (pm n < nI j) = (n ≤ j) := by
  cases n with
  | zero => exact propext ⟨fun _ => Nat.zero_le j, fun _ => Int32.lt_of_lt_of_le (show (-1 : Int32) < 0 by decide) (nI_pos' hj)⟩
  | succ n => exact propext ⟨fun h => (nI_ltI (by omega) hj).mp h, fun h => nI_lt h hj⟩
theorem inV_bIx {v : Int32} {n : Nat} (hn : n ≤ 100000) : inV v 0 (pm n) = bIx v (nI n) := by
  unfold inV bIx
  by_cases h : v < 0
  · rw [if_pos h, if_pos h]
  · rw [if_neg h, if_neg h]
    obtain ⟨j, hj, rfl⟩ := nI_of h
    by_cases q : n ≤ j
    · rw [if_pos ((pm_lt hn hj).mpr q), if_pos (nI_le q hj)]
    · rw [if_neg (fun z => q ((pm_lt hn hj).mp z)), if_neg (nI_ge (by omega) (by omega))]
theorem inV_nar (v lo hi : Int32) : narrow .boolean (.int (inV v lo hi)) = .int (inV v lo hi) := by
  unfold inV
  split
  · rfl
  · split
    · rfl
    · rfl
def trn (c : Int32) (f : Nat) : Nat := if c = 3 then f else 1 - f
def canB (c : Int32) (f : Nat) : Nat := if c = 0 then 1 else if c = 3 then 1 else if c = (if f = 0 then 1 else 2) then 1 else 0
def FbOk (n : Nat) (f : Nat → Int32) : Prop := ∀ i, i < n → ∃ m, m ≤ 2 ∧ f i = pm m
def NnOk (n b : Nat) (f : Nat → Int32) : Prop := ∀ i, i < n → ∃ k, k ≤ b ∧ f i = nI k
/-- two texts whose feet go on, letter by letter -/
def TcOk (L : Nat) (fb tx tm : Nat → Int32) : Prop := ∀ t, t < 2 → ∃ n, n ≤ 60 ∧ tm t = nI n ∧ ∃ g : Nat → Nat, g 0 = 0 ∧ (∀ k, k ≤ n → g k ≤ 1) ∧ ∀ k, k < n → ∃ l, l < L ∧ tx (60 * t + k) = nI l ∧ fb (2 * l + g k) = nI (g (k + 1))
theorem WkOk_0 (f : Nat → Int32) : WkOk 0 f := fun i h => absurd h (Nat.not_lt_zero i)
theorem WkOk_m {k : Nat} {f : Nat → Int32} (h : WkOk k f) : WkOk (k + 1) (upd f k (-1)) := fun i hi => by
  by_cases e : i = k
  · subst e
    exact ⟨0, by decide, pk_us⟩
  · rw [pk_un e]
    exact h i (by omega)
theorem WkOk_u {n k s : Nat} {f : Nat → Int32} (h : WkOk n f) (hs : s < 6) : WkOk n (upd f k (nI s)) := fun i hi => by
  by_cases e : i = k
  · subst e
    exact ⟨s + 1, by omega, pk_us⟩
  · rw [pk_un e]
    exact h i hi
theorem FbOk_0 (f : Nat → Int32) : FbOk 0 f := fun i h => absurd h (Nat.not_lt_zero i)
theorem EqTo_cpy {k : Nat} {f g : Nat → Int32} (h : EqTo k f g) : EqTo (k + 1) (upd f k (g k)) g := EqTo_step h rfl
theorem TkOk_cong {n k : Nat} {f g : Nat → Int32} (h : EqTo k f g) (hg : TkOk n g) (hk : n ≤ k) : TkOk n f := fun i hi => by
  rw [h i (by omega)]
  exact hg i hi
theorem SzOk_cong {n k : Nat} {f g : Nat → Int32} (h : EqTo k f g) (hg : SzOk n g) (hk : n ≤ k) : SzOk n f := fun i hi => by
  rw [h i (by omega)]
  exact hg i hi
theorem RfOk_cong {l n k1 k2 : Nat} {sz sz' rw rw' : Nat → Int32} (h1 : EqTo k1 sz sz') (h2 : EqTo k2 rw rw') (h : RfOk l n sz' rw') (hk1 : l ≤ k1) (hk2 : 5 * l ≤ k2) : RfOk l n sz rw := fun i j c hi hc h5 hj => by
  rw [h1 i (by omega)] at hc
  rw [h2 (5 * i + j) (by omega)]
  exact h i j c hi hc h5 hj
theorem TcOk_0 (L : Nat) (fb tx tm : Nat → Int32) : TcOk L fb tx (upd (upd tm 0 0) 1 0) := fun t ht => by
  refine ⟨0, by decide, ?_, fun _ => 0, rfl, fun _ _ => Nat.zero_le 1, fun k hk => absurd hk (Nat.not_lt_zero k)⟩
  rcases (show t = 0 ∨ t = 1 by omega) with rfl | rfl
  · rfl
  · rfl
theorem dX12_isIn_0 : decode cX12_isIn 0 = .ok (.iload_n 0, 1) := by decide +kernel
theorem dX12_isIn_1 : decode cX12_isIn 1 = .ok (.iload_n 1, 1) := by decide +kernel
theorem dX12_isIn_2 : decode cX12_isIn 2 = .ok (.if_icmp .lt 12, 3) := by decide +kernel
theorem dX12_isIn_14 : decode cX12_isIn 14 = .ok (.iconst 0, 1) := by decide +kernel
theorem dX12_isIn_15 : decode cX12_isIn 15 = .ok (.ireturn, 1) := by decide +kernel
theorem dX12_isIn_5 : decode cX12_isIn 5 = .ok (.iload_n 0, 1) := by decide +kernel
theorem dX12_isIn_6 : decode cX12_isIn 6 = .ok (.iload_n 2, 1) := by decide +kernel
theorem dX12_isIn_7 : decode cX12_isIn 7 = .ok (.if_icmp .gt 7, 3) := by decide +kernel
theorem dX12_isIn_10 : decode cX12_isIn 10 = .ok (.iconst 1, 1) := by decide +kernel
theorem dX12_isIn_11 : decode cX12_isIn 11 = .ok (.goto 4, 3) := by decide +kernel
theorem dX12_isStep_0 : decode cX12_isStep 0 = .ok (.iload_n 1, 1) := by decide +kernel
theorem dX12_isStep_1 : decode cX12_isStep 1 = .ok (.iconst 0, 1) := by decide +kernel
theorem dX12_isStep_2 : decode cX12_isStep 2 = .ok (.aload_n 0, 1) := by decide +kernel
theorem dX12_isStep_3 : decode cX12_isStep 3 = .ok (.getfield 279, 3) := by decide +kernel
theorem tw_1184 : Cond.fieldLink RX12 279 "LimpCodeModel" "steps" "I" ∈ TT := nx_mem 1184 (by decide +kernel) (by decide +kernel)
theorem dX12_isStep_6 : decode cX12_isStep 6 = .ok (.iconst 1, 1) := by decide +kernel
theorem dX12_isStep_7 : decode cX12_isStep 7 = .ok (.isub, 1) := by decide +kernel
theorem dX12_isStep_8 : decode cX12_isStep 8 = .ok (.invokestatic 297, 3) := by decide +kernel
theorem tw_1487 : Cond.methodLink RX12 297 yX12_isIn ∈ TT := nx_mem 1487 (by decide +kernel) (by decide +kernel)
theorem tw_1488 : Cond.static yX12_isIn ∈ TT := nx_mem 1488 (by decide +kernel) (by decide +kernel)
theorem tw_1489 : Cond.code yX12_isIn cX12_isIn 3 (some .boolean) ∈ TT := nx_mem 1489 (by decide +kernel) (by decide +kernel)
theorem dX12_isStep_11 : decode cX12_isStep 11 = .ok (.ireturn, 1) := by decide +kernel
theorem dX12_isLetterOf_0 : decode cX12_isLetterOf 0 = .ok (.iload_n 1, 1) := by decide +kernel
theorem dX12_isLetterOf_1 : decode cX12_isLetterOf 1 = .ok (.iconst 0, 1) := by decide +kernel
theorem dX12_isLetterOf_2 : decode cX12_isLetterOf 2 = .ok (.aload_n 0, 1) := by decide +kernel
theorem dX12_isLetterOf_3 : decode cX12_isLetterOf 3 = .ok (.getfield 282, 3) := by decide +kernel
theorem tw_1185 : Cond.fieldLink RX12 282 "LimpCodeModel" "letters" "I" ∈ TT := nx_mem 1185 (by decide +kernel) (by decide +kernel)
theorem dX12_isLetterOf_6 : decode cX12_isLetterOf 6 = .ok (.iconst 1, 1) := by decide +kernel
theorem dX12_isLetterOf_7 : decode cX12_isLetterOf 7 = .ok (.isub, 1) := by decide +kernel
theorem dX12_isLetterOf_8 : decode cX12_isLetterOf 8 = .ok (.invokestatic 297, 3) := by decide +kernel
theorem dX12_isLetterOf_11 : decode cX12_isLetterOf 11 = .ok (.ireturn, 1) := by decide +kernel
theorem dX12_isEar_0 : decode cX12_isEar 0 = .ok (.iload_n 1, 1) := by decide +kernel
theorem dX12_isEar_1 : decode cX12_isEar 1 = .ok (.iconst 0, 1) := by decide +kernel
theorem dX12_isEar_2 : decode cX12_isEar 2 = .ok (.aload_n 0, 1) := by decide +kernel
theorem dX12_isEar_3 : decode cX12_isEar 3 = .ok (.getfield 285, 3) := by decide +kernel
theorem tw_1186 : Cond.fieldLink RX12 285 "LimpCodeModel" "ears" "I" ∈ TT := nx_mem 1186 (by decide +kernel) (by decide +kernel)
theorem dX12_isEar_6 : decode cX12_isEar 6 = .ok (.iconst 1, 1) := by decide +kernel
theorem dX12_isEar_7 : decode cX12_isEar 7 = .ok (.isub, 1) := by decide +kernel
theorem dX12_isEar_8 : decode cX12_isEar 8 = .ok (.invokestatic 297, 3) := by decide +kernel
theorem dX12_isEar_11 : decode cX12_isEar 11 = .ok (.ireturn, 1) := by decide +kernel
theorem dX12_turn_0 : decode cX12_turn 0 = .ok (.aload_n 0, 1) := by decide +kernel
theorem dX12_turn_1 : decode cX12_turn 1 = .ok (.getfield 48, 3) := by decide +kernel
theorem tw_1176 : Cond.fieldLink RX12 48 "LimpCodeModel" "kind" "[I" ∈ TT := nx_mem 1176 (by decide +kernel) (by decide +kernel)
theorem dX12_turn_4 : decode cX12_turn 4 = .ok (.iload_n 1, 1) := by decide +kernel
theorem dX12_turn_5 : decode cX12_turn 5 = .ok (.iaload, 1) := by decide +kernel
theorem dX12_turn_6 : decode cX12_turn 6 = .ok (.iconst 3, 1) := by decide +kernel
theorem dX12_turn_7 : decode cX12_turn 7 = .ok (.if_icmp .ne 7, 3) := by decide +kernel
theorem dX12_turn_14 : decode cX12_turn 14 = .ok (.iconst 1, 1) := by decide +kernel
theorem dX12_turn_15 : decode cX12_turn 15 = .ok (.iload_n 2, 1) := by decide +kernel
theorem dX12_turn_16 : decode cX12_turn 16 = .ok (.isub, 1) := by decide +kernel
theorem dX12_turn_17 : decode cX12_turn 17 = .ok (.ireturn, 1) := by decide +kernel
theorem dX12_turn_10 : decode cX12_turn 10 = .ok (.iload_n 2, 1) := by decide +kernel
theorem dX12_turn_11 : decode cX12_turn 11 = .ok (.goto 6, 3) := by decide +kernel
theorem dX12_canBe_0 : decode cX12_canBe 0 = .ok (.aload_n 0, 1) := by decide +kernel
theorem dX12_canBe_1 : decode cX12_canBe 1 = .ok (.getfield 48, 3) := by decide +kernel
theorem dX12_canBe_4 : decode cX12_canBe 4 = .ok (.iload_n 1, 1) := by decide +kernel
theorem dX12_canBe_5 : decode cX12_canBe 5 = .ok (.iaload, 1) := by decide +kernel
theorem dX12_canBe_6 : decode cX12_canBe 6 = .ok (.ifCond .eq 31, 3) := by decide +kernel
theorem dX12_canBe_37 : decode cX12_canBe 37 = .ok (.iconst 1, 1) := by decide +kernel
theorem dX12_canBe_38 : decode cX12_canBe 38 = .ok (.goto 4, 3) := by decide +kernel
theorem dX12_canBe_42 : decode cX12_canBe 42 = .ok (.ireturn, 1) := by decide +kernel
theorem dX12_canBe_9 : decode cX12_canBe 9 = .ok (.aload_n 0, 1) := by decide +kernel
theorem dX12_canBe_10 : decode cX12_canBe 10 = .ok (.getfield 48, 3) := by decide +kernel
theorem dX12_canBe_13 : decode cX12_canBe 13 = .ok (.iload_n 1, 1) := by decide +kernel
theorem dX12_canBe_14 : decode cX12_canBe 14 = .ok (.iaload, 1) := by decide +kernel
theorem dX12_canBe_15 : decode cX12_canBe 15 = .ok (.iconst 3, 1) := by decide +kernel
theorem dX12_canBe_16 : decode cX12_canBe 16 = .ok (.if_icmp .eq 21, 3) := by decide +kernel
theorem dX12_canBe_19 : decode cX12_canBe 19 = .ok (.aload_n 0, 1) := by decide +kernel
theorem dX12_canBe_20 : decode cX12_canBe 20 = .ok (.getfield 48, 3) := by decide +kernel
theorem dX12_canBe_23 : decode cX12_canBe 23 = .ok (.iload_n 1, 1) := by decide +kernel
theorem dX12_canBe_24 : decode cX12_canBe 24 = .ok (.iaload, 1) := by decide +kernel
theorem dX12_canBe_25 : decode cX12_canBe 25 = .ok (.iload_n 2, 1) := by decide +kernel
theorem dX12_canBe_26 : decode cX12_canBe 26 = .ok (.ifCond .ne 7, 3) := by decide +kernel
theorem dX12_canBe_33 : decode cX12_canBe 33 = .ok (.iconst 2, 1) := by decide +kernel
theorem dX12_canBe_34 : decode cX12_canBe 34 = .ok (.if_icmp .ne 7, 3) := by decide +kernel
theorem dX12_canBe_41 : decode cX12_canBe 41 = .ok (.iconst 0, 1) := by decide +kernel
theorem dX12_canBe_29 : decode cX12_canBe 29 = .ok (.iconst 1, 1) := by decide +kernel
theorem dX12_canBe_30 : decode cX12_canBe 30 = .ok (.goto 4, 3) := by decide +kernel
theorem dX12_hears_0 : decode cX12_hears 0 = .ok (.iload_n 2, 1) := by decide +kernel
theorem dX12_hears_1 : decode cX12_hears 1 = .ok (.ifCond .ge 7, 3) := by decide +kernel
theorem dX12_hears_4 : decode cX12_hears 4 = .ok (.iconst 0, 1) := by decide +kernel
theorem dX12_hears_5 : decode cX12_hears 5 = .ok (.goto 16, 3) := by decide +kernel
theorem dX12_hears_21 : decode cX12_hears 21 = .ok (.istore_n 3, 1) := by decide +kernel
theorem dX12_hears_22 : decode cX12_hears 22 = .ok (.iload_n 3, 1) := by decide +kernel
theorem dX12_hears_23 : decode cX12_hears 23 = .ok (.ifCond .ge 7, 3) := by decide +kernel
theorem dX12_hears_30 : decode cX12_hears 30 = .ok (.iload_n 3, 1) := by decide +kernel
theorem dX12_hears_31 : decode cX12_hears 31 = .ok (.ireturn, 1) := by decide +kernel
theorem dX12_hears_8 : decode cX12_hears 8 = .ok (.aload_n 0, 1) := by decide +kernel
theorem dX12_hears_9 : decode cX12_hears 9 = .ok (.getfield 45, 3) := by decide +kernel
theorem tw_1175 : Cond.fieldLink RX12 45 "LimpCodeModel" "loud" "[I" ∈ TT := nx_mem 1175 (by decide +kernel) (by decide +kernel)
theorem dX12_hears_12 : decode cX12_hears 12 = .ok (.iload_n 2, 1) := by decide +kernel
theorem dX12_hears_13 : decode cX12_hears 13 = .ok (.iaload, 1) := by decide +kernel
theorem dX12_hears_14 : decode cX12_hears 14 = .ok (.aload_n 0, 1) := by decide +kernel
theorem dX12_hears_15 : decode cX12_hears 15 = .ok (.getfield 57, 3) := by decide +kernel
theorem tw_1179 : Cond.fieldLink RX12 57 "LimpCodeModel" "floors" "[I" ∈ TT := nx_mem 1179 (by decide +kernel) (by decide +kernel)
theorem dX12_hears_18 : decode cX12_hears 18 = .ok (.iload_n 1, 1) := by decide +kernel
theorem dX12_hears_19 : decode cX12_hears 19 = .ok (.iaload, 1) := by decide +kernel
theorem dX12_hears_20 : decode cX12_hears 20 = .ok (.isub, 1) := by decide +kernel
theorem dX12_hears_26 : decode cX12_hears 26 = .ok (.iconst 0, 1) := by decide +kernel
theorem dX12_hears_27 : decode cX12_hears 27 = .ok (.goto 4, 3) := by decide +kernel
theorem dX12_least_0 : decode cX12_least 0 = .ok (.lload_n 0, 1) := by decide +kernel
theorem dX12_least_1 : decode cX12_least 1 = .ok (.ldc2_w 311, 3) := by decide +kernel
theorem tw_1538 : Cond.constantLong RX12 311 1000000000000000 ∈ TT := nx_mem 1538 (by decide +kernel) (by decide +kernel)
theorem dX12_least_4 : decode cX12_least 4 = .ok (.lcmp, 1) := by decide +kernel
theorem dX12_least_5 : decode cX12_least 5 = .ok (.ifCond .le 9, 3) := by decide +kernel
theorem dX12_least_14 : decode cX12_least 14 = .ok (.lload_n 0, 1) := by decide +kernel
theorem dX12_least_15 : decode cX12_least 15 = .ok (.lreturn, 1) := by decide +kernel
theorem dX12_least_8 : decode cX12_least 8 = .ok (.ldc2_w 311, 3) := by decide +kernel
theorem dX12_least_11 : decode cX12_least 11 = .ok (.goto 4, 3) := by decide +kernel
theorem dX12_walkBy_0 : decode cX12_walkBy 0 = .ok (.iload_n 2, 1) := by decide +kernel
theorem dX12_walkBy_1 : decode cX12_walkBy 1 = .ok (.istore_n 3, 1) := by decide +kernel
theorem dX12_walkBy_2 : decode cX12_walkBy 2 = .ok (.iconst 0, 1) := by decide +kernel
theorem dX12_walkBy_3 : decode cX12_walkBy 3 = .ok (.istore 4, 2) := by decide +kernel
theorem dX12_walkBy_5 : decode cX12_walkBy 5 = .ok (.iload 4, 2) := by decide +kernel
theorem dX12_walkBy_7 : decode cX12_walkBy 7 = .ok (.aload_n 0, 1) := by decide +kernel
theorem dX12_walkBy_8 : decode cX12_walkBy 8 = .ok (.getfield 51, 3) := by decide +kernel
theorem tw_1177 : Cond.fieldLink RX12 51 "LimpCodeModel" "many" "[I" ∈ TT := nx_mem 1177 (by decide +kernel) (by decide +kernel)
theorem dX12_walkBy_11 : decode cX12_walkBy 11 = .ok (.iload_n 1, 1) := by decide +kernel
theorem dX12_walkBy_12 : decode cX12_walkBy 12 = .ok (.iaload, 1) := by decide +kernel
theorem dX12_walkBy_13 : decode cX12_walkBy 13 = .ok (.if_icmp .ge 47, 3) := by decide +kernel
theorem dX12_walkBy_60 : decode cX12_walkBy 60 = .ok (.iload_n 3, 1) := by decide +kernel
theorem dX12_walkBy_61 : decode cX12_walkBy 61 = .ok (.ireturn, 1) := by decide +kernel
theorem dX12_walkBy_16 : decode cX12_walkBy 16 = .ok (.aload_n 0, 1) := by decide +kernel
theorem dX12_walkBy_17 : decode cX12_walkBy 17 = .ok (.aload_n 0, 1) := by decide +kernel
theorem dX12_walkBy_18 : decode cX12_walkBy 18 = .ok (.getfield 54, 3) := by decide +kernel
theorem tw_1178 : Cond.fieldLink RX12 54 "LimpCodeModel" "row" "[I" ∈ TT := nx_mem 1178 (by decide +kernel) (by decide +kernel)
theorem dX12_walkBy_21 : decode cX12_walkBy 21 = .ok (.iconst 5, 1) := by decide +kernel
theorem dX12_walkBy_22 : decode cX12_walkBy 22 = .ok (.iload_n 1, 1) := by decide +kernel
theorem dX12_walkBy_23 : decode cX12_walkBy 23 = .ok (.imul, 1) := by decide +kernel
theorem dX12_walkBy_24 : decode cX12_walkBy 24 = .ok (.iload 4, 2) := by decide +kernel
theorem dX12_walkBy_26 : decode cX12_walkBy 26 = .ok (.iadd, 1) := by decide +kernel
theorem dX12_walkBy_27 : decode cX12_walkBy 27 = .ok (.iaload, 1) := by decide +kernel
theorem dX12_walkBy_28 : decode cX12_walkBy 28 = .ok (.iload_n 3, 1) := by decide +kernel
theorem dX12_walkBy_29 : decode cX12_walkBy 29 = .ok (.invokevirtual 304, 3) := by decide +kernel
theorem tw_1467 : Cond.methodLink RX12 304 yX12_canBe ∈ TT := nx_mem 1467 (by decide +kernel) (by decide +kernel)
theorem tw_1469 : Cond.instanceMethod yX12_canBe ∈ TT := nx_mem 1469 (by decide +kernel) (by decide +kernel)
theorem tw_57 : Cond.selects RX12 yX12_canBe yX12_canBe ∈ TT := nx_mem 57 (by decide +kernel) (by decide +kernel)
theorem tw_1470 : Cond.code yX12_canBe cX12_canBe 3 (some .boolean) ∈ TT := nx_mem 1470 (by decide +kernel) (by decide +kernel)
theorem dX12_walkBy_32 : decode cX12_walkBy 32 = .ok (.ifCond .ne 5, 3) := by decide +kernel
theorem dX12_walkBy_37 : decode cX12_walkBy 37 = .ok (.aload_n 0, 1) := by decide +kernel
theorem dX12_walkBy_38 : decode cX12_walkBy 38 = .ok (.aload_n 0, 1) := by decide +kernel
theorem dX12_walkBy_39 : decode cX12_walkBy 39 = .ok (.getfield 54, 3) := by decide +kernel
theorem dX12_walkBy_42 : decode cX12_walkBy 42 = .ok (.iconst 5, 1) := by decide +kernel
theorem dX12_walkBy_43 : decode cX12_walkBy 43 = .ok (.iload_n 1, 1) := by decide +kernel
theorem dX12_walkBy_44 : decode cX12_walkBy 44 = .ok (.imul, 1) := by decide +kernel
theorem dX12_walkBy_45 : decode cX12_walkBy 45 = .ok (.iload 4, 2) := by decide +kernel
theorem dX12_walkBy_47 : decode cX12_walkBy 47 = .ok (.iadd, 1) := by decide +kernel
theorem dX12_walkBy_48 : decode cX12_walkBy 48 = .ok (.iaload, 1) := by decide +kernel
theorem dX12_walkBy_49 : decode cX12_walkBy 49 = .ok (.iload_n 3, 1) := by decide +kernel
theorem dX12_walkBy_50 : decode cX12_walkBy 50 = .ok (.invokevirtual 308, 3) := by decide +kernel
theorem tw_1471 : Cond.methodLink RX12 308 yX12_turn ∈ TT := nx_mem 1471 (by decide +kernel) (by decide +kernel)
theorem tw_1473 : Cond.instanceMethod yX12_turn ∈ TT := nx_mem 1473 (by decide +kernel) (by decide +kernel)
theorem tw_58 : Cond.selects RX12 yX12_turn yX12_turn ∈ TT := nx_mem 58 (by decide +kernel) (by decide +kernel)
theorem tw_1474 : Cond.code yX12_turn cX12_turn 3 (some .int) ∈ TT := nx_mem 1474 (by decide +kernel) (by decide +kernel)
theorem dX12_walkBy_53 : decode cX12_walkBy 53 = .ok (.istore_n 3, 1) := by decide +kernel
theorem dX12_walkBy_54 : decode cX12_walkBy 54 = .ok (.iinc 4 1, 3) := by decide +kernel
theorem dX12_walkBy_57 : decode cX12_walkBy 57 = .ok (.goto (-52), 3) := by decide +kernel
theorem dX12_walkBy_35 : decode cX12_walkBy 35 = .ok (.iconst (-1), 1) := by decide +kernel
theorem dX12_walkBy_36 : decode cX12_walkBy 36 = .ok (.ireturn, 1) := by decide +kernel
theorem dX12_clearWalk_0 : decode cX12_clearWalk 0 = .ok (.aload_n 0, 1) := by decide +kernel
theorem dX12_clearWalk_1 : decode cX12_clearWalk 1 = .ok (.iconst 0, 1) := by decide +kernel
theorem dX12_clearWalk_2 : decode cX12_clearWalk 2 = .ok (.putfield 313, 3) := by decide +kernel
theorem tw_1192 : Cond.fieldLink RX12 313 "LimpCodeModel" "walkMany" "I" ∈ TT := nx_mem 1192 (by decide +kernel) (by decide +kernel)
theorem dX12_clearWalk_5 : decode cX12_clearWalk 5 = .ok (.aload_n 0, 1) := by decide +kernel
theorem dX12_clearWalk_6 : decode cX12_clearWalk 6 = .ok (.iconst 0, 1) := by decide +kernel
theorem dX12_clearWalk_7 : decode cX12_clearWalk 7 = .ok (.putfield 316, 3) := by decide +kernel
theorem tw_1193 : Cond.fieldLink RX12 316 "LimpCodeModel" "walkTime" "I" ∈ TT := nx_mem 1193 (by decide +kernel) (by decide +kernel)
theorem dX12_clearWalk_10 : decode cX12_clearWalk 10 = .ok (.aload_n 0, 1) := by decide +kernel
theorem dX12_clearWalk_11 : decode cX12_clearWalk 11 = .ok (.iconst 0, 1) := by decide +kernel
theorem dX12_clearWalk_12 : decode cX12_clearWalk 12 = .ok (.putfield 319, 3) := by decide +kernel
theorem tw_1194 : Cond.fieldLink RX12 319 "LimpCodeModel" "foot" "I" ∈ TT := nx_mem 1194 (by decide +kernel) (by decide +kernel)
theorem dX12_clearWalk_15 : decode cX12_clearWalk 15 = .ok (.iconst 0, 1) := by decide +kernel
theorem dX12_clearWalk_16 : decode cX12_clearWalk 16 = .ok (.istore_n 1, 1) := by decide +kernel
theorem dX12_clearWalk_17 : decode cX12_clearWalk 17 = .ok (.iload_n 1, 1) := by decide +kernel
theorem dX12_clearWalk_18 : decode cX12_clearWalk 18 = .ok (.bipush 60, 2) := by decide +kernel
theorem dX12_clearWalk_20 : decode cX12_clearWalk 20 = .ok (.if_icmp .ge 16, 3) := by decide +kernel
theorem dX12_clearWalk_23 : decode cX12_clearWalk 23 = .ok (.aload_n 0, 1) := by decide +kernel
theorem dX12_clearWalk_24 : decode cX12_clearWalk 24 = .ok (.getfield 72, 3) := by decide +kernel
theorem tw_1190 : Cond.fieldLink RX12 72 "LimpCodeModel" "walkAt" "[I" ∈ TT := nx_mem 1190 (by decide +kernel) (by decide +kernel)
theorem dX12_clearWalk_27 : decode cX12_clearWalk 27 = .ok (.iload_n 1, 1) := by decide +kernel
theorem dX12_clearWalk_28 : decode cX12_clearWalk 28 = .ok (.iconst (-1), 1) := by decide +kernel
theorem dX12_clearWalk_29 : decode cX12_clearWalk 29 = .ok (.iastore, 1) := by decide +kernel
theorem dX12_clearWalk_30 : decode cX12_clearWalk 30 = .ok (.iinc 1 1, 3) := by decide +kernel
theorem dX12_clearWalk_33 : decode cX12_clearWalk 33 = .ok (.goto (-16), 3) := by decide +kernel
theorem dX12_clearWalk_36 : decode cX12_clearWalk 36 = .ok (.return_, 1) := by decide +kernel
theorem dX12_layLetters_0 : decode cX12_layLetters 0 = .ok (.iconst 0, 1) := by decide +kernel
theorem dX12_layLetters_1 : decode cX12_layLetters 1 = .ok (.istore_n 1, 1) := by decide +kernel
theorem dX12_layLetters_2 : decode cX12_layLetters 2 = .ok (.iload_n 1, 1) := by decide +kernel
theorem dX12_layLetters_3 : decode cX12_layLetters 3 = .ok (.sipush 450, 3) := by decide +kernel
theorem dX12_layLetters_6 : decode cX12_layLetters 6 = .ok (.if_icmp .ge 16, 3) := by decide +kernel
theorem dX12_layLetters_9 : decode cX12_layLetters 9 = .ok (.aload_n 0, 1) := by decide +kernel
theorem dX12_layLetters_10 : decode cX12_layLetters 10 = .ok (.getfield 66, 3) := by decide +kernel
theorem tw_1188 : Cond.fieldLink RX12 66 "LimpCodeModel" "begins" "[I" ∈ TT := nx_mem 1188 (by decide +kernel) (by decide +kernel)
theorem dX12_layLetters_13 : decode cX12_layLetters 13 = .ok (.iload_n 1, 1) := by decide +kernel
theorem dX12_layLetters_14 : decode cX12_layLetters 14 = .ok (.iconst (-1), 1) := by decide +kernel
theorem dX12_layLetters_15 : decode cX12_layLetters 15 = .ok (.iastore, 1) := by decide +kernel
theorem dX12_layLetters_16 : decode cX12_layLetters 16 = .ok (.iinc 1 1, 3) := by decide +kernel
theorem dX12_layLetters_19 : decode cX12_layLetters 19 = .ok (.goto (-17), 3) := by decide +kernel
theorem dX12_layLetters_22 : decode cX12_layLetters 22 = .ok (.iconst 0, 1) := by decide +kernel
theorem dX12_layLetters_23 : decode cX12_layLetters 23 = .ok (.istore_n 1, 1) := by decide +kernel
theorem dX12_layLetters_24 : decode cX12_layLetters 24 = .ok (.iload_n 1, 1) := by decide +kernel
theorem dX12_layLetters_25 : decode cX12_layLetters 25 = .ok (.aload_n 0, 1) := by decide +kernel
theorem dX12_layLetters_26 : decode cX12_layLetters 26 = .ok (.getfield 282, 3) := by decide +kernel
theorem dX12_layLetters_29 : decode cX12_layLetters 29 = .ok (.if_icmp .ge 113, 3) := by decide +kernel
theorem dX12_layLetters_142 : decode cX12_layLetters 142 = .ok (.return_, 1) := by decide +kernel
theorem dX12_layLetters_32 : decode cX12_layLetters 32 = .ok (.aload_n 0, 1) := by decide +kernel
theorem dX12_layLetters_33 : decode cX12_layLetters 33 = .ok (.getfield 63, 3) := by decide +kernel
theorem tw_1187 : Cond.fieldLink RX12 63 "LimpCodeModel" "lasts" "[I" ∈ TT := nx_mem 1187 (by decide +kernel) (by decide +kernel)
theorem dX12_layLetters_36 : decode cX12_layLetters 36 = .ok (.iload_n 1, 1) := by decide +kernel
theorem dX12_layLetters_37 : decode cX12_layLetters 37 = .ok (.iconst 0, 1) := by decide +kernel
theorem dX12_layLetters_38 : decode cX12_layLetters 38 = .ok (.iastore, 1) := by decide +kernel
theorem dX12_layLetters_39 : decode cX12_layLetters 39 = .ok (.iconst 0, 1) := by decide +kernel
theorem dX12_layLetters_40 : decode cX12_layLetters 40 = .ok (.istore_n 2, 1) := by decide +kernel
theorem dX12_layLetters_41 : decode cX12_layLetters 41 = .ok (.iload_n 2, 1) := by decide +kernel
theorem dX12_layLetters_42 : decode cX12_layLetters 42 = .ok (.aload_n 0, 1) := by decide +kernel
theorem dX12_layLetters_43 : decode cX12_layLetters 43 = .ok (.getfield 51, 3) := by decide +kernel
theorem dX12_layLetters_46 : decode cX12_layLetters 46 = .ok (.iload_n 1, 1) := by decide +kernel
theorem dX12_layLetters_47 : decode cX12_layLetters 47 = .ok (.iaload, 1) := by decide +kernel
theorem dX12_layLetters_48 : decode cX12_layLetters 48 = .ok (.if_icmp .ge 59, 3) := by decide +kernel
theorem dX12_layLetters_107 : decode cX12_layLetters 107 = .ok (.iconst 0, 1) := by decide +kernel
theorem dX12_layLetters_108 : decode cX12_layLetters 108 = .ok (.istore_n 2, 1) := by decide +kernel
theorem dX12_layLetters_109 : decode cX12_layLetters 109 = .ok (.iload_n 2, 1) := by decide +kernel
theorem dX12_layLetters_110 : decode cX12_layLetters 110 = .ok (.iconst 2, 1) := by decide +kernel
theorem dX12_layLetters_111 : decode cX12_layLetters 111 = .ok (.if_icmp .ge 25, 3) := by decide +kernel
theorem dX12_layLetters_114 : decode cX12_layLetters 114 = .ok (.aload_n 0, 1) := by decide +kernel
theorem dX12_layLetters_115 : decode cX12_layLetters 115 = .ok (.getfield 69, 3) := by decide +kernel
theorem tw_1189 : Cond.fieldLink RX12 69 "LimpCodeModel" "footBehind" "[I" ∈ TT := nx_mem 1189 (by decide +kernel) (by decide +kernel)
theorem dX12_layLetters_118 : decode cX12_layLetters 118 = .ok (.iconst 2, 1) := by decide +kernel
theorem dX12_layLetters_119 : decode cX12_layLetters 119 = .ok (.iload_n 1, 1) := by decide +kernel
theorem dX12_layLetters_120 : decode cX12_layLetters 120 = .ok (.imul, 1) := by decide +kernel
theorem dX12_layLetters_121 : decode cX12_layLetters 121 = .ok (.iload_n 2, 1) := by decide +kernel
theorem dX12_layLetters_122 : decode cX12_layLetters 122 = .ok (.iadd, 1) := by decide +kernel
theorem dX12_layLetters_123 : decode cX12_layLetters 123 = .ok (.aload_n 0, 1) := by decide +kernel
theorem dX12_layLetters_124 : decode cX12_layLetters 124 = .ok (.iload_n 1, 1) := by decide +kernel
theorem dX12_layLetters_125 : decode cX12_layLetters 125 = .ok (.iload_n 2, 1) := by decide +kernel
theorem dX12_layLetters_126 : decode cX12_layLetters 126 = .ok (.invokevirtual 301, 3) := by decide +kernel
theorem tw_1463 : Cond.methodLink RX12 301 yX12_walkBy ∈ TT := nx_mem 1463 (by decide +kernel) (by decide +kernel)
theorem tw_1465 : Cond.instanceMethod yX12_walkBy ∈ TT := nx_mem 1465 (by decide +kernel) (by decide +kernel)
theorem tw_56 : Cond.selects RX12 yX12_walkBy yX12_walkBy ∈ TT := nx_mem 56 (by decide +kernel) (by decide +kernel)
theorem tw_1466 : Cond.code yX12_walkBy cX12_walkBy 5 (some .int) ∈ TT := nx_mem 1466 (by decide +kernel) (by decide +kernel)
theorem dX12_layLetters_129 : decode cX12_layLetters 129 = .ok (.iastore, 1) := by decide +kernel
theorem dX12_layLetters_130 : decode cX12_layLetters 130 = .ok (.iinc 2 1, 3) := by decide +kernel
theorem dX12_layLetters_133 : decode cX12_layLetters 133 = .ok (.goto (-24), 3) := by decide +kernel
theorem dX12_layLetters_136 : decode cX12_layLetters 136 = .ok (.iinc 1 1, 3) := by decide +kernel
theorem dX12_layLetters_139 : decode cX12_layLetters 139 = .ok (.goto (-115), 3) := by decide +kernel
theorem dX12_layLetters_51 : decode cX12_layLetters 51 = .ok (.aload_n 0, 1) := by decide +kernel
theorem dX12_layLetters_52 : decode cX12_layLetters 52 = .ok (.getfield 66, 3) := by decide +kernel
theorem dX12_layLetters_55 : decode cX12_layLetters 55 = .ok (.bipush 45, 2) := by decide +kernel
theorem dX12_layLetters_57 : decode cX12_layLetters 57 = .ok (.iload_n 1, 1) := by decide +kernel
theorem dX12_layLetters_58 : decode cX12_layLetters 58 = .ok (.imul, 1) := by decide +kernel
theorem dX12_layLetters_59 : decode cX12_layLetters 59 = .ok (.aload_n 0, 1) := by decide +kernel
theorem dX12_layLetters_60 : decode cX12_layLetters 60 = .ok (.getfield 63, 3) := by decide +kernel
theorem dX12_layLetters_63 : decode cX12_layLetters 63 = .ok (.iload_n 1, 1) := by decide +kernel
theorem dX12_layLetters_64 : decode cX12_layLetters 64 = .ok (.iaload, 1) := by decide +kernel
theorem dX12_layLetters_65 : decode cX12_layLetters 65 = .ok (.iadd, 1) := by decide +kernel
theorem dX12_layLetters_66 : decode cX12_layLetters 66 = .ok (.aload_n 0, 1) := by decide +kernel
theorem dX12_layLetters_67 : decode cX12_layLetters 67 = .ok (.getfield 54, 3) := by decide +kernel
theorem dX12_layLetters_70 : decode cX12_layLetters 70 = .ok (.iconst 5, 1) := by decide +kernel
theorem dX12_layLetters_71 : decode cX12_layLetters 71 = .ok (.iload_n 1, 1) := by decide +kernel
theorem dX12_layLetters_72 : decode cX12_layLetters 72 = .ok (.imul, 1) := by decide +kernel
theorem dX12_layLetters_73 : decode cX12_layLetters 73 = .ok (.iload_n 2, 1) := by decide +kernel
theorem dX12_layLetters_74 : decode cX12_layLetters 74 = .ok (.iadd, 1) := by decide +kernel
theorem dX12_layLetters_75 : decode cX12_layLetters 75 = .ok (.iaload, 1) := by decide +kernel
theorem dX12_layLetters_76 : decode cX12_layLetters 76 = .ok (.iastore, 1) := by decide +kernel
theorem dX12_layLetters_77 : decode cX12_layLetters 77 = .ok (.aload_n 0, 1) := by decide +kernel
theorem dX12_layLetters_78 : decode cX12_layLetters 78 = .ok (.getfield 63, 3) := by decide +kernel
theorem dX12_layLetters_81 : decode cX12_layLetters 81 = .ok (.iload_n 1, 1) := by decide +kernel
theorem dX12_layLetters_82 : decode cX12_layLetters 82 = .ok (.dup2, 1) := by decide +kernel
theorem dX12_layLetters_83 : decode cX12_layLetters 83 = .ok (.iaload, 1) := by decide +kernel
theorem dX12_layLetters_84 : decode cX12_layLetters 84 = .ok (.aload_n 0, 1) := by decide +kernel
theorem dX12_layLetters_85 : decode cX12_layLetters 85 = .ok (.getfield 42, 3) := by decide +kernel
theorem tw_1174 : Cond.fieldLink RX12 42 "LimpCodeModel" "takes" "[I" ∈ TT := nx_mem 1174 (by decide +kernel) (by decide +kernel)
theorem dX12_layLetters_88 : decode cX12_layLetters 88 = .ok (.aload_n 0, 1) := by decide +kernel
theorem dX12_layLetters_89 : decode cX12_layLetters 89 = .ok (.getfield 54, 3) := by decide +kernel
theorem dX12_layLetters_92 : decode cX12_layLetters 92 = .ok (.iconst 5, 1) := by decide +kernel
theorem dX12_layLetters_93 : decode cX12_layLetters 93 = .ok (.iload_n 1, 1) := by decide +kernel
theorem dX12_layLetters_94 : decode cX12_layLetters 94 = .ok (.imul, 1) := by decide +kernel
theorem dX12_layLetters_95 : decode cX12_layLetters 95 = .ok (.iload_n 2, 1) := by decide +kernel
theorem dX12_layLetters_96 : decode cX12_layLetters 96 = .ok (.iadd, 1) := by decide +kernel
theorem dX12_layLetters_97 : decode cX12_layLetters 97 = .ok (.iaload, 1) := by decide +kernel
theorem dX12_layLetters_98 : decode cX12_layLetters 98 = .ok (.iaload, 1) := by decide +kernel
theorem dX12_layLetters_99 : decode cX12_layLetters 99 = .ok (.iadd, 1) := by decide +kernel
theorem dX12_layLetters_100 : decode cX12_layLetters 100 = .ok (.iastore, 1) := by decide +kernel
theorem dX12_layLetters_101 : decode cX12_layLetters 101 = .ok (.iinc 2 1, 3) := by decide +kernel
theorem dX12_layLetters_104 : decode cX12_layLetters 104 = .ok (.goto (-63), 3) := by decide +kernel
set_option maxHeartbeats 4000000 in
set_option maxRecDepth 100000 in
theorem s_X12_isIn (lau : Launch) (gg : va_G) (kA : Nat → ClassId) (e : Int32) (lo : Int32) (hi : Int32)  : CtI lau yX12_isIn cX12_isIn 3 (some .boolean) 1 0 0 gg kA [.int e, .int lo, .int hi] (mflat []) (S := Unit) (fun (r : Int32) (_ : Unit) => r = inV e lo hi) (fun (_ : Unit) => mflat []) := by
  refine nx_startI (by decide +kernel) (Nat.le_of_ble_eq_true rfl) ?_
  intro x hnm h hq
  have h : Ok x cX12_isIn RX12 kA (rmC 1 0 0) 3 := h
  show J x (mflat []) [(0, .int e), (1, .int lo), (2, .int hi)] 0 0 0 []
  refine j_iload_n h 0 rfl rfl dX12_isIn_0 ?_
  refine j_iload_n h 1 rfl rfl dX12_isIn_1 ?_
  refine j_icmp_lt h 14 dX12_isIn_2 (by decide) (fun z15011 => ?_) (fun z15011 => ?_)
  · show J x (mflat []) [(0, .int e), (1, .int lo), (2, .int hi)] 0 0 14 []
    refine j_iconst (v := 0) h (by decide) dX12_isIn_14 ?_
    exact jm_zret h hq rfl dX12_isIn_15 () [] rfl (by decide) (by unfold inV; simp only [z15011, ↓reduceIte]) (Nat.le_of_ble_eq_true rfl) (Nat.le_of_ble_eq_true rfl)
  · show J x (mflat []) [(0, .int e), (1, .int lo), (2, .int hi)] 0 0 5 []
    refine j_iload_n h 0 rfl rfl dX12_isIn_5 ?_
    refine j_iload_n h 2 rfl rfl dX12_isIn_6 ?_
    refine j_icmp_gt h 14 dX12_isIn_7 (by decide) (fun z15012 => ?_) (fun z15012 => ?_)
    · show J x (mflat []) [(0, .int e), (1, .int lo), (2, .int hi)] 0 0 14 []
      refine j_iconst (v := 0) h (by decide) dX12_isIn_14 ?_
      exact jm_zret h hq rfl dX12_isIn_15 () [] rfl (by decide) (by unfold inV; simp only [z15011, z15012, ↓reduceIte]) (Nat.le_of_ble_eq_true rfl) (Nat.le_of_ble_eq_true rfl)
    · show J x (mflat []) [(0, .int e), (1, .int lo), (2, .int hi)] 0 0 10 []
      refine j_iconst (v := 1) h (by decide) dX12_isIn_10 ?_
      refine j_goto h 15 dX12_isIn_11 (by decide) ?_
      exact jm_zret h hq rfl dX12_isIn_15 () [] rfl (by decide) (by unfold inV; simp only [z15011, z15012, ↓reduceIte]) (Nat.le_of_ble_eq_true rfl) (Nat.le_of_ble_eq_true rfl)
set_option maxHeartbeats 4000000 in
set_option maxRecDepth 100000 in
theorem s_X12_isStep (lau : Launch) (gg : va_G) (kA : Nat → ClassId) (m : Nat) (e : Int32) (m0 : Nat) (mtp : Nat) (mfa : Nat) (mfp : Int32) (mat : Nat) (msz : Nat) (mso : Nat) (mpl : Int32) (mnu : Int32) (mwd : Int64) (m10 : Nat) (m11 : Nat) (m12 : Nat) (m13 : Nat) (m14 : Nat) (m15 : Nat) (m16 : Nat) (m17 : Nat) (m18 : Nat) (m19 : Nat) (m20 : Nat) (m21 : Nat) (m22 : Nat) (m23 : Nat) (m24 : Nat) (mns : Nat) (mnl : Nat) (mne : Nat) (mst : Nat) (mlt : Nat) (mer : Nat) (m31 : Nat) (m32 : Nat) (m33 : Nat) (m34 : Nat) (m35 : Nat) (mwm : Nat) (mwt : Nat) (mwf : Nat) (m39 : Nat) (m40 : Nat) (m41 : Nat) (mla : Nat) (m43 : Nat) (m44 : Nat) (m45 : Nat) (m46 : Nat) (m47 : Nat) (m48 : Nat) (mtm : Nat) (m50 : Nat) (m51 : Nat) (m52 : Nat) (m53 : Nat) (m54 : Nat) (m55 : Nat) (m56 : Nat) (m57 : Nat) (m58 : Nat) (m59 : Nat) (m60 : Nat) (m61 : Nat) (msn : Nat) (mti : Nat) (m64 : Nat) (m65 : Nat) (m66 : Nat) (m67 : Nat) (m68 : Nat) (m69 : Nat) (hmst : mst ≤ 6) (hmlt : mlt ≤ 10) (hmer : mer ≤ 4) : CtI lau yX12_isStep cX12_isStep 2 (some .boolean) 2 0 0 gg kA [.ref m, .int e] (mflat [(m, .inl (.inr (12, (.ref m0 :: .int (nI mtp) :: .int (nI mfa) :: .int mfp :: .int (nI mat) :: .int (nI msz) :: .int (nI mso) :: .int mpl :: .int mnu :: .long mwd :: .ref m10 :: .ref m11 :: .ref m12 :: .ref m13 :: .ref m14 :: .ref m15 :: .ref m16 :: .ref m17 :: .ref m18 :: .ref m19 :: .ref m20 :: .ref m21 :: .ref m22 :: .ref m23 :: .ref m24 :: .int (nI mns) :: .int (nI mnl) :: .int (nI mne) :: .int (nI mst) :: .int (nI mlt) :: .int (nI mer) :: .ref m31 :: .ref m32 :: .ref m33 :: .ref m34 :: .ref m35 :: .int (nI mwm) :: .int (nI mwt) :: .int (nI mwf) :: .ref m39 :: .ref m40 :: .ref m41 :: .int (nI mla) :: .ref m43 :: .ref m44 :: .ref m45 :: .ref m46 :: .ref m47 :: .ref m48 :: .int (nI mtm) :: .ref m50 :: .ref m51 :: .ref m52 :: .ref m53 :: .ref m54 :: .ref m55 :: .ref m56 :: .ref m57 :: .ref m58 :: .ref m59 :: .ref m60 :: .ref m61 :: .int (nI msn) :: .int (nI mti) :: .ref m64 :: .ref m65 :: .ref m66 :: .ref m67 :: .ref m68 :: .ref m69 :: []))))]) (S := Unit) (fun (r : Int32) (_ : Unit) => r = bIx e (nI mst)) (fun (_ : Unit) => mflat [(m, .inl (.inr (12, (.ref m0 :: .int (nI mtp) :: .int (nI mfa) :: .int mfp :: .int (nI mat) :: .int (nI msz) :: .int (nI mso) :: .int mpl :: .int mnu :: .long mwd :: .ref m10 :: .ref m11 :: .ref m12 :: .ref m13 :: .ref m14 :: .ref m15 :: .ref m16 :: .ref m17 :: .ref m18 :: .ref m19 :: .ref m20 :: .ref m21 :: .ref m22 :: .ref m23 :: .ref m24 :: .int (nI mns) :: .int (nI mnl) :: .int (nI mne) :: .int (nI mst) :: .int (nI mlt) :: .int (nI mer) :: .ref m31 :: .ref m32 :: .ref m33 :: .ref m34 :: .ref m35 :: .int (nI mwm) :: .int (nI mwt) :: .int (nI mwf) :: .ref m39 :: .ref m40 :: .ref m41 :: .int (nI mla) :: .ref m43 :: .ref m44 :: .ref m45 :: .ref m46 :: .ref m47 :: .ref m48 :: .int (nI mtm) :: .ref m50 :: .ref m51 :: .ref m52 :: .ref m53 :: .ref m54 :: .ref m55 :: .ref m56 :: .ref m57 :: .ref m58 :: .ref m59 :: .ref m60 :: .ref m61 :: .int (nI msn) :: .int (nI mti) :: .ref m64 :: .ref m65 :: .ref m66 :: .ref m67 :: .ref m68 :: .ref m69 :: []))))]) := by
  refine nx_startI (by decide +kernel) (Nat.le_of_ble_eq_true rfl) ?_
  intro x hnm h hq
  have h : Ok x cX12_isStep RX12 kA (rmC 2 0 0) 2 := h
  show J x (mflat [(m, .inl (.inr (12, (.ref m0 :: .int (nI mtp) :: .int (nI mfa) :: .int mfp :: .int (nI mat) :: .int (nI msz) :: .int (nI mso) :: .int mpl :: .int mnu :: .long mwd :: .ref m10 :: .ref m11 :: .ref m12 :: .ref m13 :: .ref m14 :: .ref m15 :: .ref m16 :: .ref m17 :: .ref m18 :: .ref m19 :: .ref m20 :: .ref m21 :: .ref m22 :: .ref m23 :: .ref m24 :: .int (nI mns) :: .int (nI mnl) :: .int (nI mne) :: .int (nI mst) :: .int (nI mlt) :: .int (nI mer) :: .ref m31 :: .ref m32 :: .ref m33 :: .ref m34 :: .ref m35 :: .int (nI mwm) :: .int (nI mwt) :: .int (nI mwf) :: .ref m39 :: .ref m40 :: .ref m41 :: .int (nI mla) :: .ref m43 :: .ref m44 :: .ref m45 :: .ref m46 :: .ref m47 :: .ref m48 :: .int (nI mtm) :: .ref m50 :: .ref m51 :: .ref m52 :: .ref m53 :: .ref m54 :: .ref m55 :: .ref m56 :: .ref m57 :: .ref m58 :: .ref m59 :: .ref m60 :: .ref m61 :: .int (nI msn) :: .int (nI mti) :: .ref m64 :: .ref m65 :: .ref m66 :: .ref m67 :: .ref m68 :: .ref m69 :: []))))]) [(0, .ref m), (1, .int e)] 0 0 0 []
  refine j_iload_n h 1 rfl rfl dX12_isStep_0 ?_
  refine j_iconst (v := 0) h (by decide) dX12_isStep_1 ?_
  refine j_aload_n h 0 rfl rfl dX12_isStep_2 ?_
  refine jm_get h iw_X12 0 rfl rfl 28 (by decide +kernel) tw_1184 rfl dX12_isStep_3 ?_
  refine j_iconst (v := 1) h (by decide) dX12_isStep_6 ?_
  refine j_isub h dX12_isStep_7 ?_
  obtain ⟨y15018, hy15019⟩ : ∃ y9, y9 = mst := ⟨_, rfl⟩
  refine j_top (b := pm y15018) (by rw [hy15019]; exact pm_sub mst) ?_
  refine jm_callSi (np := 3) (isC := []) (isR := [0]) (wc := []) (wr := [(m, .inl (.inr (12, (.ref m0 :: .int (nI mtp) :: .int (nI mfa) :: .int mfp :: .int (nI mat) :: .int (nI msz) :: .int (nI mso) :: .int mpl :: .int mnu :: .long mwd :: .ref m10 :: .ref m11 :: .ref m12 :: .ref m13 :: .ref m14 :: .ref m15 :: .ref m16 :: .ref m17 :: .ref m18 :: .ref m19 :: .ref m20 :: .ref m21 :: .ref m22 :: .ref m23 :: .ref m24 :: .int (nI mns) :: .int (nI mnl) :: .int (nI mne) :: .int (nI mst) :: .int (nI mlt) :: .int (nI mer) :: .ref m31 :: .ref m32 :: .ref m33 :: .ref m34 :: .ref m35 :: .int (nI mwm) :: .int (nI mwt) :: .int (nI mwf) :: .ref m39 :: .ref m40 :: .ref m41 :: .int (nI mla) :: .ref m43 :: .ref m44 :: .ref m45 :: .ref m46 :: .ref m47 :: .ref m48 :: .int (nI mtm) :: .ref m50 :: .ref m51 :: .ref m52 :: .ref m53 :: .ref m54 :: .ref m55 :: .ref m56 :: .ref m57 :: .ref m58 :: .ref m59 :: .ref m60 :: .ref m61 :: .int (nI msn) :: .int (nI mti) :: .ref m64 :: .ref m65 :: .ref m66 :: .ref m67 :: .ref m68 :: .ref m69 :: []))))]) (rest := []) (As := [.int e, .int 0, .int (pm y15018)]) h (s_X12_isIn _ _ kA e 0 (pm y15018) ) tw_1487 tw_1488 tw_99 tw_1489 (by decide +kernel) rfl ⟨Nat.le_of_ble_eq_true rfl, Nat.le_of_ble_eq_true rfl⟩ (by decide +kernel) rfl rfl (by decide +kernel) (by decide +kernel) (Nat.le_of_ble_eq_true rfl) rfl ⟨Nat.le_of_ble_eq_true rfl, Nat.le_of_ble_eq_true rfl⟩ dX12_isStep_8 ?_
  rintro r15021 _ e15020
  have p15022 := e15020
  subst p15022
  show J x (mflat [(m, .inl (.inr (12, (.ref m0 :: .int (nI mtp) :: .int (nI mfa) :: .int mfp :: .int (nI mat) :: .int (nI msz) :: .int (nI mso) :: .int mpl :: .int mnu :: .long mwd :: .ref m10 :: .ref m11 :: .ref m12 :: .ref m13 :: .ref m14 :: .ref m15 :: .ref m16 :: .ref m17 :: .ref m18 :: .ref m19 :: .ref m20 :: .ref m21 :: .ref m22 :: .ref m23 :: .ref m24 :: .int (nI mns) :: .int (nI mnl) :: .int (nI mne) :: .int (nI mst) :: .int (nI mlt) :: .int (nI mer) :: .ref m31 :: .ref m32 :: .ref m33 :: .ref m34 :: .ref m35 :: .int (nI mwm) :: .int (nI mwt) :: .int (nI mwf) :: .ref m39 :: .ref m40 :: .ref m41 :: .int (nI mla) :: .ref m43 :: .ref m44 :: .ref m45 :: .ref m46 :: .ref m47 :: .ref m48 :: .int (nI mtm) :: .ref m50 :: .ref m51 :: .ref m52 :: .ref m53 :: .ref m54 :: .ref m55 :: .ref m56 :: .ref m57 :: .ref m58 :: .ref m59 :: .ref m60 :: .ref m61 :: .int (nI msn) :: .int (nI mti) :: .ref m64 :: .ref m65 :: .ref m66 :: .ref m67 :: .ref m68 :: .ref m69 :: []))))]) [(0, .ref m), (1, .int e)] 0 0 11 [.int (inV e 0 (pm y15018))]
  exact jm_zret h hq (inV_nar _ _ _) dX12_isStep_11 () [0] rfl (by decide) (by have e9 : y15018 = mst := (by omega); rw [e9]; exact inV_bIx (by omega)) (Nat.le_of_ble_eq_true rfl) (Nat.le_of_ble_eq_true rfl)
set_option maxHeartbeats 4000000 in
set_option maxRecDepth 100000 in
theorem s_X12_isLetterOf (lau : Launch) (gg : va_G) (kA : Nat → ClassId) (m : Nat) (e : Int32) (m0 : Nat) (mtp : Nat) (mfa : Nat) (mfp : Int32) (mat : Nat) (msz : Nat) (mso : Nat) (mpl : Int32) (mnu : Int32) (mwd : Int64) (m10 : Nat) (m11 : Nat) (m12 : Nat) (m13 : Nat) (m14 : Nat) (m15 : Nat) (m16 : Nat) (m17 : Nat) (m18 : Nat) (m19 : Nat) (m20 : Nat) (m21 : Nat) (m22 : Nat) (m23 : Nat) (m24 : Nat) (mns : Nat) (mnl : Nat) (mne : Nat) (mst : Nat) (mlt : Nat) (mer : Nat) (m31 : Nat) (m32 : Nat) (m33 : Nat) (m34 : Nat) (m35 : Nat) (mwm : Nat) (mwt : Nat) (mwf : Nat) (m39 : Nat) (m40 : Nat) (m41 : Nat) (mla : Nat) (m43 : Nat) (m44 : Nat) (m45 : Nat) (m46 : Nat) (m47 : Nat) (m48 : Nat) (mtm : Nat) (m50 : Nat) (m51 : Nat) (m52 : Nat) (m53 : Nat) (m54 : Nat) (m55 : Nat) (m56 : Nat) (m57 : Nat) (m58 : Nat) (m59 : Nat) (m60 : Nat) (m61 : Nat) (msn : Nat) (mti : Nat) (m64 : Nat) (m65 : Nat) (m66 : Nat) (m67 : Nat) (m68 : Nat) (m69 : Nat) (hmst : mst ≤ 6) (hmlt : mlt ≤ 10) (hmer : mer ≤ 4) : CtI lau yX12_isLetterOf cX12_isLetterOf 2 (some .boolean) 2 0 0 gg kA [.ref m, .int e] (mflat [(m, .inl (.inr (12, (.ref m0 :: .int (nI mtp) :: .int (nI mfa) :: .int mfp :: .int (nI mat) :: .int (nI msz) :: .int (nI mso) :: .int mpl :: .int mnu :: .long mwd :: .ref m10 :: .ref m11 :: .ref m12 :: .ref m13 :: .ref m14 :: .ref m15 :: .ref m16 :: .ref m17 :: .ref m18 :: .ref m19 :: .ref m20 :: .ref m21 :: .ref m22 :: .ref m23 :: .ref m24 :: .int (nI mns) :: .int (nI mnl) :: .int (nI mne) :: .int (nI mst) :: .int (nI mlt) :: .int (nI mer) :: .ref m31 :: .ref m32 :: .ref m33 :: .ref m34 :: .ref m35 :: .int (nI mwm) :: .int (nI mwt) :: .int (nI mwf) :: .ref m39 :: .ref m40 :: .ref m41 :: .int (nI mla) :: .ref m43 :: .ref m44 :: .ref m45 :: .ref m46 :: .ref m47 :: .ref m48 :: .int (nI mtm) :: .ref m50 :: .ref m51 :: .ref m52 :: .ref m53 :: .ref m54 :: .ref m55 :: .ref m56 :: .ref m57 :: .ref m58 :: .ref m59 :: .ref m60 :: .ref m61 :: .int (nI msn) :: .int (nI mti) :: .ref m64 :: .ref m65 :: .ref m66 :: .ref m67 :: .ref m68 :: .ref m69 :: []))))]) (S := Unit) (fun (r : Int32) (_ : Unit) => r = bIx e (nI mlt)) (fun (_ : Unit) => mflat [(m, .inl (.inr (12, (.ref m0 :: .int (nI mtp) :: .int (nI mfa) :: .int mfp :: .int (nI mat) :: .int (nI msz) :: .int (nI mso) :: .int mpl :: .int mnu :: .long mwd :: .ref m10 :: .ref m11 :: .ref m12 :: .ref m13 :: .ref m14 :: .ref m15 :: .ref m16 :: .ref m17 :: .ref m18 :: .ref m19 :: .ref m20 :: .ref m21 :: .ref m22 :: .ref m23 :: .ref m24 :: .int (nI mns) :: .int (nI mnl) :: .int (nI mne) :: .int (nI mst) :: .int (nI mlt) :: .int (nI mer) :: .ref m31 :: .ref m32 :: .ref m33 :: .ref m34 :: .ref m35 :: .int (nI mwm) :: .int (nI mwt) :: .int (nI mwf) :: .ref m39 :: .ref m40 :: .ref m41 :: .int (nI mla) :: .ref m43 :: .ref m44 :: .ref m45 :: .ref m46 :: .ref m47 :: .ref m48 :: .int (nI mtm) :: .ref m50 :: .ref m51 :: .ref m52 :: .ref m53 :: .ref m54 :: .ref m55 :: .ref m56 :: .ref m57 :: .ref m58 :: .ref m59 :: .ref m60 :: .ref m61 :: .int (nI msn) :: .int (nI mti) :: .ref m64 :: .ref m65 :: .ref m66 :: .ref m67 :: .ref m68 :: .ref m69 :: []))))]) := by
  refine nx_startI (by decide +kernel) (Nat.le_of_ble_eq_true rfl) ?_
  intro x hnm h hq
  have h : Ok x cX12_isLetterOf RX12 kA (rmC 2 0 0) 2 := h
  show J x (mflat [(m, .inl (.inr (12, (.ref m0 :: .int (nI mtp) :: .int (nI mfa) :: .int mfp :: .int (nI mat) :: .int (nI msz) :: .int (nI mso) :: .int mpl :: .int mnu :: .long mwd :: .ref m10 :: .ref m11 :: .ref m12 :: .ref m13 :: .ref m14 :: .ref m15 :: .ref m16 :: .ref m17 :: .ref m18 :: .ref m19 :: .ref m20 :: .ref m21 :: .ref m22 :: .ref m23 :: .ref m24 :: .int (nI mns) :: .int (nI mnl) :: .int (nI mne) :: .int (nI mst) :: .int (nI mlt) :: .int (nI mer) :: .ref m31 :: .ref m32 :: .ref m33 :: .ref m34 :: .ref m35 :: .int (nI mwm) :: .int (nI mwt) :: .int (nI mwf) :: .ref m39 :: .ref m40 :: .ref m41 :: .int (nI mla) :: .ref m43 :: .ref m44 :: .ref m45 :: .ref m46 :: .ref m47 :: .ref m48 :: .int (nI mtm) :: .ref m50 :: .ref m51 :: .ref m52 :: .ref m53 :: .ref m54 :: .ref m55 :: .ref m56 :: .ref m57 :: .ref m58 :: .ref m59 :: .ref m60 :: .ref m61 :: .int (nI msn) :: .int (nI mti) :: .ref m64 :: .ref m65 :: .ref m66 :: .ref m67 :: .ref m68 :: .ref m69 :: []))))]) [(0, .ref m), (1, .int e)] 0 0 0 []
  refine j_iload_n h 1 rfl rfl dX12_isLetterOf_0 ?_
  refine j_iconst (v := 0) h (by decide) dX12_isLetterOf_1 ?_
  refine j_aload_n h 0 rfl rfl dX12_isLetterOf_2 ?_
  refine jm_get h iw_X12 0 rfl rfl 29 (by decide +kernel) tw_1185 rfl dX12_isLetterOf_3 ?_
  refine j_iconst (v := 1) h (by decide) dX12_isLetterOf_6 ?_
  refine j_isub h dX12_isLetterOf_7 ?_
  obtain ⟨y15028, hy15029⟩ : ∃ y9, y9 = mlt := ⟨_, rfl⟩
  refine j_top (b := pm y15028) (by rw [hy15029]; exact pm_sub mlt) ?_
  refine jm_callSi (np := 3) (isC := []) (isR := [0]) (wc := []) (wr := [(m, .inl (.inr (12, (.ref m0 :: .int (nI mtp) :: .int (nI mfa) :: .int mfp :: .int (nI mat) :: .int (nI msz) :: .int (nI mso) :: .int mpl :: .int mnu :: .long mwd :: .ref m10 :: .ref m11 :: .ref m12 :: .ref m13 :: .ref m14 :: .ref m15 :: .ref m16 :: .ref m17 :: .ref m18 :: .ref m19 :: .ref m20 :: .ref m21 :: .ref m22 :: .ref m23 :: .ref m24 :: .int (nI mns) :: .int (nI mnl) :: .int (nI mne) :: .int (nI mst) :: .int (nI mlt) :: .int (nI mer) :: .ref m31 :: .ref m32 :: .ref m33 :: .ref m34 :: .ref m35 :: .int (nI mwm) :: .int (nI mwt) :: .int (nI mwf) :: .ref m39 :: .ref m40 :: .ref m41 :: .int (nI mla) :: .ref m43 :: .ref m44 :: .ref m45 :: .ref m46 :: .ref m47 :: .ref m48 :: .int (nI mtm) :: .ref m50 :: .ref m51 :: .ref m52 :: .ref m53 :: .ref m54 :: .ref m55 :: .ref m56 :: .ref m57 :: .ref m58 :: .ref m59 :: .ref m60 :: .ref m61 :: .int (nI msn) :: .int (nI mti) :: .ref m64 :: .ref m65 :: .ref m66 :: .ref m67 :: .ref m68 :: .ref m69 :: []))))]) (rest := []) (As := [.int e, .int 0, .int (pm y15028)]) h (s_X12_isIn _ _ kA e 0 (pm y15028) ) tw_1487 tw_1488 tw_99 tw_1489 (by decide +kernel) rfl ⟨Nat.le_of_ble_eq_true rfl, Nat.le_of_ble_eq_true rfl⟩ (by decide +kernel) rfl rfl (by decide +kernel) (by decide +kernel) (Nat.le_of_ble_eq_true rfl) rfl ⟨Nat.le_of_ble_eq_true rfl, Nat.le_of_ble_eq_true rfl⟩ dX12_isLetterOf_8 ?_
  rintro r15031 _ e15030
  have p15032 := e15030
  subst p15032
  show J x (mflat [(m, .inl (.inr (12, (.ref m0 :: .int (nI mtp) :: .int (nI mfa) :: .int mfp :: .int (nI mat) :: .int (nI msz) :: .int (nI mso) :: .int mpl :: .int mnu :: .long mwd :: .ref m10 :: .ref m11 :: .ref m12 :: .ref m13 :: .ref m14 :: .ref m15 :: .ref m16 :: .ref m17 :: .ref m18 :: .ref m19 :: .ref m20 :: .ref m21 :: .ref m22 :: .ref m23 :: .ref m24 :: .int (nI mns) :: .int (nI mnl) :: .int (nI mne) :: .int (nI mst) :: .int (nI mlt) :: .int (nI mer) :: .ref m31 :: .ref m32 :: .ref m33 :: .ref m34 :: .ref m35 :: .int (nI mwm) :: .int (nI mwt) :: .int (nI mwf) :: .ref m39 :: .ref m40 :: .ref m41 :: .int (nI mla) :: .ref m43 :: .ref m44 :: .ref m45 :: .ref m46 :: .ref m47 :: .ref m48 :: .int (nI mtm) :: .ref m50 :: .ref m51 :: .ref m52 :: .ref m53 :: .ref m54 :: .ref m55 :: .ref m56 :: .ref m57 :: .ref m58 :: .ref m59 :: .ref m60 :: .ref m61 :: .int (nI msn) :: .int (nI mti) :: .ref m64 :: .ref m65 :: .ref m66 :: .ref m67 :: .ref m68 :: .ref m69 :: []))))]) [(0, .ref m), (1, .int e)] 0 0 11 [.int (inV e 0 (pm y15028))]
  exact jm_zret h hq (inV_nar _ _ _) dX12_isLetterOf_11 () [0] rfl (by decide) (by have e9 : y15028 = mlt := (by omega); rw [e9]; exact inV_bIx (by omega)) (Nat.le_of_ble_eq_true rfl) (Nat.le_of_ble_eq_true rfl)
set_option maxHeartbeats 4000000 in
set_option maxRecDepth 100000 in
theorem s_X12_isEar (lau : Launch) (gg : va_G) (kA : Nat → ClassId) (m : Nat) (e : Int32) (m0 : Nat) (mtp : Nat) (mfa : Nat) (mfp : Int32) (mat : Nat) (msz : Nat) (mso : Nat) (mpl : Int32) (mnu : Int32) (mwd : Int64) (m10 : Nat) (m11 : Nat) (m12 : Nat) (m13 : Nat) (m14 : Nat) (m15 : Nat) (m16 : Nat) (m17 : Nat) (m18 : Nat) (m19 : Nat) (m20 : Nat) (m21 : Nat) (m22 : Nat) (m23 : Nat) (m24 : Nat) (mns : Nat) (mnl : Nat) (mne : Nat) (mst : Nat) (mlt : Nat) (mer : Nat) (m31 : Nat) (m32 : Nat) (m33 : Nat) (m34 : Nat) (m35 : Nat) (mwm : Nat) (mwt : Nat) (mwf : Nat) (m39 : Nat) (m40 : Nat) (m41 : Nat) (mla : Nat) (m43 : Nat) (m44 : Nat) (m45 : Nat) (m46 : Nat) (m47 : Nat) (m48 : Nat) (mtm : Nat) (m50 : Nat) (m51 : Nat) (m52 : Nat) (m53 : Nat) (m54 : Nat) (m55 : Nat) (m56 : Nat) (m57 : Nat) (m58 : Nat) (m59 : Nat) (m60 : Nat) (m61 : Nat) (msn : Nat) (mti : Nat) (m64 : Nat) (m65 : Nat) (m66 : Nat) (m67 : Nat) (m68 : Nat) (m69 : Nat) (hmst : mst ≤ 6) (hmlt : mlt ≤ 10) (hmer : mer ≤ 4) : CtI lau yX12_isEar cX12_isEar 2 (some .boolean) 2 0 0 gg kA [.ref m, .int e] (mflat [(m, .inl (.inr (12, (.ref m0 :: .int (nI mtp) :: .int (nI mfa) :: .int mfp :: .int (nI mat) :: .int (nI msz) :: .int (nI mso) :: .int mpl :: .int mnu :: .long mwd :: .ref m10 :: .ref m11 :: .ref m12 :: .ref m13 :: .ref m14 :: .ref m15 :: .ref m16 :: .ref m17 :: .ref m18 :: .ref m19 :: .ref m20 :: .ref m21 :: .ref m22 :: .ref m23 :: .ref m24 :: .int (nI mns) :: .int (nI mnl) :: .int (nI mne) :: .int (nI mst) :: .int (nI mlt) :: .int (nI mer) :: .ref m31 :: .ref m32 :: .ref m33 :: .ref m34 :: .ref m35 :: .int (nI mwm) :: .int (nI mwt) :: .int (nI mwf) :: .ref m39 :: .ref m40 :: .ref m41 :: .int (nI mla) :: .ref m43 :: .ref m44 :: .ref m45 :: .ref m46 :: .ref m47 :: .ref m48 :: .int (nI mtm) :: .ref m50 :: .ref m51 :: .ref m52 :: .ref m53 :: .ref m54 :: .ref m55 :: .ref m56 :: .ref m57 :: .ref m58 :: .ref m59 :: .ref m60 :: .ref m61 :: .int (nI msn) :: .int (nI mti) :: .ref m64 :: .ref m65 :: .ref m66 :: .ref m67 :: .ref m68 :: .ref m69 :: []))))]) (S := Unit) (fun (r : Int32) (_ : Unit) => r = bIx e (nI mer)) (fun (_ : Unit) => mflat [(m, .inl (.inr (12, (.ref m0 :: .int (nI mtp) :: .int (nI mfa) :: .int mfp :: .int (nI mat) :: .int (nI msz) :: .int (nI mso) :: .int mpl :: .int mnu :: .long mwd :: .ref m10 :: .ref m11 :: .ref m12 :: .ref m13 :: .ref m14 :: .ref m15 :: .ref m16 :: .ref m17 :: .ref m18 :: .ref m19 :: .ref m20 :: .ref m21 :: .ref m22 :: .ref m23 :: .ref m24 :: .int (nI mns) :: .int (nI mnl) :: .int (nI mne) :: .int (nI mst) :: .int (nI mlt) :: .int (nI mer) :: .ref m31 :: .ref m32 :: .ref m33 :: .ref m34 :: .ref m35 :: .int (nI mwm) :: .int (nI mwt) :: .int (nI mwf) :: .ref m39 :: .ref m40 :: .ref m41 :: .int (nI mla) :: .ref m43 :: .ref m44 :: .ref m45 :: .ref m46 :: .ref m47 :: .ref m48 :: .int (nI mtm) :: .ref m50 :: .ref m51 :: .ref m52 :: .ref m53 :: .ref m54 :: .ref m55 :: .ref m56 :: .ref m57 :: .ref m58 :: .ref m59 :: .ref m60 :: .ref m61 :: .int (nI msn) :: .int (nI mti) :: .ref m64 :: .ref m65 :: .ref m66 :: .ref m67 :: .ref m68 :: .ref m69 :: []))))]) := by
  refine nx_startI (by decide +kernel) (Nat.le_of_ble_eq_true rfl) ?_
  intro x hnm h hq
  have h : Ok x cX12_isEar RX12 kA (rmC 2 0 0) 2 := h
  show J x (mflat [(m, .inl (.inr (12, (.ref m0 :: .int (nI mtp) :: .int (nI mfa) :: .int mfp :: .int (nI mat) :: .int (nI msz) :: .int (nI mso) :: .int mpl :: .int mnu :: .long mwd :: .ref m10 :: .ref m11 :: .ref m12 :: .ref m13 :: .ref m14 :: .ref m15 :: .ref m16 :: .ref m17 :: .ref m18 :: .ref m19 :: .ref m20 :: .ref m21 :: .ref m22 :: .ref m23 :: .ref m24 :: .int (nI mns) :: .int (nI mnl) :: .int (nI mne) :: .int (nI mst) :: .int (nI mlt) :: .int (nI mer) :: .ref m31 :: .ref m32 :: .ref m33 :: .ref m34 :: .ref m35 :: .int (nI mwm) :: .int (nI mwt) :: .int (nI mwf) :: .ref m39 :: .ref m40 :: .ref m41 :: .int (nI mla) :: .ref m43 :: .ref m44 :: .ref m45 :: .ref m46 :: .ref m47 :: .ref m48 :: .int (nI mtm) :: .ref m50 :: .ref m51 :: .ref m52 :: .ref m53 :: .ref m54 :: .ref m55 :: .ref m56 :: .ref m57 :: .ref m58 :: .ref m59 :: .ref m60 :: .ref m61 :: .int (nI msn) :: .int (nI mti) :: .ref m64 :: .ref m65 :: .ref m66 :: .ref m67 :: .ref m68 :: .ref m69 :: []))))]) [(0, .ref m), (1, .int e)] 0 0 0 []
  refine j_iload_n h 1 rfl rfl dX12_isEar_0 ?_
  refine j_iconst (v := 0) h (by decide) dX12_isEar_1 ?_
  refine j_aload_n h 0 rfl rfl dX12_isEar_2 ?_
  refine jm_get h iw_X12 0 rfl rfl 30 (by decide +kernel) tw_1186 rfl dX12_isEar_3 ?_
  refine j_iconst (v := 1) h (by decide) dX12_isEar_6 ?_
  refine j_isub h dX12_isEar_7 ?_
  obtain ⟨y15038, hy15039⟩ : ∃ y9, y9 = mer := ⟨_, rfl⟩
  refine j_top (b := pm y15038) (by rw [hy15039]; exact pm_sub mer) ?_
  refine jm_callSi (np := 3) (isC := []) (isR := [0]) (wc := []) (wr := [(m, .inl (.inr (12, (.ref m0 :: .int (nI mtp) :: .int (nI mfa) :: .int mfp :: .int (nI mat) :: .int (nI msz) :: .int (nI mso) :: .int mpl :: .int mnu :: .long mwd :: .ref m10 :: .ref m11 :: .ref m12 :: .ref m13 :: .ref m14 :: .ref m15 :: .ref m16 :: .ref m17 :: .ref m18 :: .ref m19 :: .ref m20 :: .ref m21 :: .ref m22 :: .ref m23 :: .ref m24 :: .int (nI mns) :: .int (nI mnl) :: .int (nI mne) :: .int (nI mst) :: .int (nI mlt) :: .int (nI mer) :: .ref m31 :: .ref m32 :: .ref m33 :: .ref m34 :: .ref m35 :: .int (nI mwm) :: .int (nI mwt) :: .int (nI mwf) :: .ref m39 :: .ref m40 :: .ref m41 :: .int (nI mla) :: .ref m43 :: .ref m44 :: .ref m45 :: .ref m46 :: .ref m47 :: .ref m48 :: .int (nI mtm) :: .ref m50 :: .ref m51 :: .ref m52 :: .ref m53 :: .ref m54 :: .ref m55 :: .ref m56 :: .ref m57 :: .ref m58 :: .ref m59 :: .ref m60 :: .ref m61 :: .int (nI msn) :: .int (nI mti) :: .ref m64 :: .ref m65 :: .ref m66 :: .ref m67 :: .ref m68 :: .ref m69 :: []))))]) (rest := []) (As := [.int e, .int 0, .int (pm y15038)]) h (s_X12_isIn _ _ kA e 0 (pm y15038) ) tw_1487 tw_1488 tw_99 tw_1489 (by decide +kernel) rfl ⟨Nat.le_of_ble_eq_true rfl, Nat.le_of_ble_eq_true rfl⟩ (by decide +kernel) rfl rfl (by decide +kernel) (by decide +kernel) (Nat.le_of_ble_eq_true rfl) rfl ⟨Nat.le_of_ble_eq_true rfl, Nat.le_of_ble_eq_true rfl⟩ dX12_isEar_8 ?_
  rintro r15041 _ e15040
  have p15042 := e15040
  subst p15042
  show J x (mflat [(m, .inl (.inr (12, (.ref m0 :: .int (nI mtp) :: .int (nI mfa) :: .int mfp :: .int (nI mat) :: .int (nI msz) :: .int (nI mso) :: .int mpl :: .int mnu :: .long mwd :: .ref m10 :: .ref m11 :: .ref m12 :: .ref m13 :: .ref m14 :: .ref m15 :: .ref m16 :: .ref m17 :: .ref m18 :: .ref m19 :: .ref m20 :: .ref m21 :: .ref m22 :: .ref m23 :: .ref m24 :: .int (nI mns) :: .int (nI mnl) :: .int (nI mne) :: .int (nI mst) :: .int (nI mlt) :: .int (nI mer) :: .ref m31 :: .ref m32 :: .ref m33 :: .ref m34 :: .ref m35 :: .int (nI mwm) :: .int (nI mwt) :: .int (nI mwf) :: .ref m39 :: .ref m40 :: .ref m41 :: .int (nI mla) :: .ref m43 :: .ref m44 :: .ref m45 :: .ref m46 :: .ref m47 :: .ref m48 :: .int (nI mtm) :: .ref m50 :: .ref m51 :: .ref m52 :: .ref m53 :: .ref m54 :: .ref m55 :: .ref m56 :: .ref m57 :: .ref m58 :: .ref m59 :: .ref m60 :: .ref m61 :: .int (nI msn) :: .int (nI mti) :: .ref m64 :: .ref m65 :: .ref m66 :: .ref m67 :: .ref m68 :: .ref m69 :: []))))]) [(0, .ref m), (1, .int e)] 0 0 11 [.int (inV e 0 (pm y15038))]
  exact jm_zret h hq (inV_nar _ _ _) dX12_isEar_11 () [0] rfl (by decide) (by have e9 : y15038 = mer := (by omega); rw [e9]; exact inV_bIx (by omega)) (Nat.le_of_ble_eq_true rfl) (Nat.le_of_ble_eq_true rfl)
set_option maxHeartbeats 4000000 in
set_option maxRecDepth 100000 in
theorem s_X12_turn (lau : Launch) (gg : va_G) (kA : Nat → ClassId) (m : Nat) (s : Nat) (f : Nat) (m0 : Nat) (mtp : Nat) (mfa : Nat) (mfp : Int32) (mat : Nat) (msz : Nat) (mso : Nat) (mpl : Int32) (mnu : Int32) (mwd : Int64) (m10 : Nat) (m11 : Nat) (m12 : Nat) (m13 : Nat) (m14 : Nat) (m15 : Nat) (m16 : Nat) (m17 : Nat) (m18 : Nat) (m19 : Nat) (m20 : Nat) (m21 : Nat) (m22 : Nat) (m23 : Nat) (m24 : Nat) (mns : Nat) (mnl : Nat) (mne : Nat) (mst : Nat) (mlt : Nat) (mer : Nat) (m31 : Nat) (m32 : Nat) (m33 : Nat) (m34 : Nat) (m35 : Nat) (mwm : Nat) (mwt : Nat) (mwf : Nat) (m39 : Nat) (m40 : Nat) (m41 : Nat) (mla : Nat) (m43 : Nat) (m44 : Nat) (m45 : Nat) (m46 : Nat) (m47 : Nat) (m48 : Nat) (mtm : Nat) (m50 : Nat) (m51 : Nat) (m52 : Nat) (m53 : Nat) (m54 : Nat) (m55 : Nat) (m56 : Nat) (m57 : Nat) (m58 : Nat) (m59 : Nat) (m60 : Nat) (m61 : Nat) (msn : Nat) (mti : Nat) (m64 : Nat) (m65 : Nat) (m66 : Nat) (m67 : Nat) (m68 : Nat) (m69 : Nat) (mc20 : Nat → Int32) (hs : s < 6) (hf : f ≤ 1) : CtI lau yX12_turn cX12_turn 3 (some .int) 1 0 0 gg kA [.ref m, .int (nI s), .int (nI f)] (mflat [(m, .inl (.inr (12, (.ref m0 :: .int (nI mtp) :: .int (nI mfa) :: .int mfp :: .int (nI mat) :: .int (nI msz) :: .int (nI mso) :: .int mpl :: .int mnu :: .long mwd :: .ref m10 :: .ref m11 :: .ref m12 :: .ref m13 :: .ref m14 :: .ref m15 :: .ref m16 :: .ref m17 :: .ref m18 :: .ref m19 :: .ref m20 :: .ref m21 :: .ref m22 :: .ref m23 :: .ref m24 :: .int (nI mns) :: .int (nI mnl) :: .int (nI mne) :: .int (nI mst) :: .int (nI mlt) :: .int (nI mer) :: .ref m31 :: .ref m32 :: .ref m33 :: .ref m34 :: .ref m35 :: .int (nI mwm) :: .int (nI mwt) :: .int (nI mwf) :: .ref m39 :: .ref m40 :: .ref m41 :: .int (nI mla) :: .ref m43 :: .ref m44 :: .ref m45 :: .ref m46 :: .ref m47 :: .ref m48 :: .int (nI mtm) :: .ref m50 :: .ref m51 :: .ref m52 :: .ref m53 :: .ref m54 :: .ref m55 :: .ref m56 :: .ref m57 :: .ref m58 :: .ref m59 :: .ref m60 :: .ref m61 :: .int (nI msn) :: .int (nI mti) :: .ref m64 :: .ref m65 :: .ref m66 :: .ref m67 :: .ref m68 :: .ref m69 :: [])))), (m20, .inl (.inl (kA 1, 6, .inl mc20)))]) (S := Nat) (fun (r : Int32) (y_r : Nat) => r = nI y_r ∧ (y_r ≤ 1) ∧ (y_r = trn (mc20 s) f)) (fun (y_r : Nat) => mflat [(m, .inl (.inr (12, (.ref m0 :: .int (nI mtp) :: .int (nI mfa) :: .int mfp :: .int (nI mat) :: .int (nI msz) :: .int (nI mso) :: .int mpl :: .int mnu :: .long mwd :: .ref m10 :: .ref m11 :: .ref m12 :: .ref m13 :: .ref m14 :: .ref m15 :: .ref m16 :: .ref m17 :: .ref m18 :: .ref m19 :: .ref m20 :: .ref m21 :: .ref m22 :: .ref m23 :: .ref m24 :: .int (nI mns) :: .int (nI mnl) :: .int (nI mne) :: .int (nI mst) :: .int (nI mlt) :: .int (nI mer) :: .ref m31 :: .ref m32 :: .ref m33 :: .ref m34 :: .ref m35 :: .int (nI mwm) :: .int (nI mwt) :: .int (nI mwf) :: .ref m39 :: .ref m40 :: .ref m41 :: .int (nI mla) :: .ref m43 :: .ref m44 :: .ref m45 :: .ref m46 :: .ref m47 :: .ref m48 :: .int (nI mtm) :: .ref m50 :: .ref m51 :: .ref m52 :: .ref m53 :: .ref m54 :: .ref m55 :: .ref m56 :: .ref m57 :: .ref m58 :: .ref m59 :: .ref m60 :: .ref m61 :: .int (nI msn) :: .int (nI mti) :: .ref m64 :: .ref m65 :: .ref m66 :: .ref m67 :: .ref m68 :: .ref m69 :: [])))), (m20, .inl (.inl (kA 1, 6, .inl mc20)))]) := by
  refine nx_startI (by decide +kernel) (Nat.le_of_ble_eq_true rfl) ?_
  intro x hnm h hq
  have h : Ok x cX12_turn RX12 kA (rmC 1 0 0) 3 := h
  show J x (mflat [(m, .inl (.inr (12, (.ref m0 :: .int (nI mtp) :: .int (nI mfa) :: .int mfp :: .int (nI mat) :: .int (nI msz) :: .int (nI mso) :: .int mpl :: .int mnu :: .long mwd :: .ref m10 :: .ref m11 :: .ref m12 :: .ref m13 :: .ref m14 :: .ref m15 :: .ref m16 :: .ref m17 :: .ref m18 :: .ref m19 :: .ref m20 :: .ref m21 :: .ref m22 :: .ref m23 :: .ref m24 :: .int (nI mns) :: .int (nI mnl) :: .int (nI mne) :: .int (nI mst) :: .int (nI mlt) :: .int (nI mer) :: .ref m31 :: .ref m32 :: .ref m33 :: .ref m34 :: .ref m35 :: .int (nI mwm) :: .int (nI mwt) :: .int (nI mwf) :: .ref m39 :: .ref m40 :: .ref m41 :: .int (nI mla) :: .ref m43 :: .ref m44 :: .ref m45 :: .ref m46 :: .ref m47 :: .ref m48 :: .int (nI mtm) :: .ref m50 :: .ref m51 :: .ref m52 :: .ref m53 :: .ref m54 :: .ref m55 :: .ref m56 :: .ref m57 :: .ref m58 :: .ref m59 :: .ref m60 :: .ref m61 :: .int (nI msn) :: .int (nI mti) :: .ref m64 :: .ref m65 :: .ref m66 :: .ref m67 :: .ref m68 :: .ref m69 :: [])))), (m20, .inl (.inl (kA 1, 6, .inl mc20)))]) [(0, .ref m), (1, .int (nI s)), (2, .int (nI f))] 0 0 0 []
  refine j_aload_n h 0 rfl rfl dX12_turn_0 ?_
  refine jm_get h iw_X12 0 rfl rfl 20 (by decide +kernel) tw_1176 rfl dX12_turn_1 ?_
  refine j_iload_n h 1 rfl rfl dX12_turn_4 ?_
  refine jm_iald h 1 rfl s rfl (by omega) (by omega) dX12_turn_5 ?_
  refine j_iconst (v := 3) h (by decide) dX12_turn_6 ?_
  refine j_icmp_ne h 14 dX12_turn_7 (by decide) (fun z15044 => ?_) (fun z15044 => ?_)
  · show J x (mflat [(m, .inl (.inr (12, (.ref m0 :: .int (nI mtp) :: .int (nI mfa) :: .int mfp :: .int (nI mat) :: .int (nI msz) :: .int (nI mso) :: .int mpl :: .int mnu :: .long mwd :: .ref m10 :: .ref m11 :: .ref m12 :: .ref m13 :: .ref m14 :: .ref m15 :: .ref m16 :: .ref m17 :: .ref m18 :: .ref m19 :: .ref m20 :: .ref m21 :: .ref m22 :: .ref m23 :: .ref m24 :: .int (nI mns) :: .int (nI mnl) :: .int (nI mne) :: .int (nI mst) :: .int (nI mlt) :: .int (nI mer) :: .ref m31 :: .ref m32 :: .ref m33 :: .ref m34 :: .ref m35 :: .int (nI mwm) :: .int (nI mwt) :: .int (nI mwf) :: .ref m39 :: .ref m40 :: .ref m41 :: .int (nI mla) :: .ref m43 :: .ref m44 :: .ref m45 :: .ref m46 :: .ref m47 :: .ref m48 :: .int (nI mtm) :: .ref m50 :: .ref m51 :: .ref m52 :: .ref m53 :: .ref m54 :: .ref m55 :: .ref m56 :: .ref m57 :: .ref m58 :: .ref m59 :: .ref m60 :: .ref m61 :: .int (nI msn) :: .int (nI mti) :: .ref m64 :: .ref m65 :: .ref m66 :: .ref m67 :: .ref m68 :: .ref m69 :: [])))), (m20, .inl (.inl (kA 1, 6, .inl mc20)))]) [(0, .ref m), (1, .int (nI s)), (2, .int (nI f))] 0 0 14 []
    refine j_iconst (v := 1) h (by decide) dX12_turn_14 ?_
    refine j_iload_n h 2 rfl rfl dX12_turn_15 ?_
    refine j_isub h dX12_turn_16 ?_
    refine j_top (b := nI (1 - f)) (pk_sub (a := 1) (b := f) (by omega)) ?_
    exact jm_iret h hq dX12_turn_17 (1 - f) [0, 1] rfl (by decide) ⟨rfl, (show (1 - f) ≤ 1 by first | assumption | omega), (show (1 - f) = trn (mc20 s) f from by unfold trn; simp only [z15044, ↓reduceIte])⟩ (Nat.le_of_ble_eq_true rfl) (Nat.le_of_ble_eq_true rfl)
  · show J x (mflat [(m, .inl (.inr (12, (.ref m0 :: .int (nI mtp) :: .int (nI mfa) :: .int mfp :: .int (nI mat) :: .int (nI msz) :: .int (nI mso) :: .int mpl :: .int mnu :: .long mwd :: .ref m10 :: .ref m11 :: .ref m12 :: .ref m13 :: .ref m14 :: .ref m15 :: .ref m16 :: .ref m17 :: .ref m18 :: .ref m19 :: .ref m20 :: .ref m21 :: .ref m22 :: .ref m23 :: .ref m24 :: .int (nI mns) :: .int (nI mnl) :: .int (nI mne) :: .int (nI mst) :: .int (nI mlt) :: .int (nI mer) :: .ref m31 :: .ref m32 :: .ref m33 :: .ref m34 :: .ref m35 :: .int (nI mwm) :: .int (nI mwt) :: .int (nI mwf) :: .ref m39 :: .ref m40 :: .ref m41 :: .int (nI mla) :: .ref m43 :: .ref m44 :: .ref m45 :: .ref m46 :: .ref m47 :: .ref m48 :: .int (nI mtm) :: .ref m50 :: .ref m51 :: .ref m52 :: .ref m53 :: .ref m54 :: .ref m55 :: .ref m56 :: .ref m57 :: .ref m58 :: .ref m59 :: .ref m60 :: .ref m61 :: .int (nI msn) :: .int (nI mti) :: .ref m64 :: .ref m65 :: .ref m66 :: .ref m67 :: .ref m68 :: .ref m69 :: [])))), (m20, .inl (.inl (kA 1, 6, .inl mc20)))]) [(0, .ref m), (1, .int (nI s)), (2, .int (nI f))] 0 0 10 []
    refine j_iload_n h 2 rfl rfl dX12_turn_10 ?_
    refine j_goto h 17 dX12_turn_11 (by decide) ?_
    exact jm_iret h hq dX12_turn_17 f [0, 1] rfl (by decide) ⟨rfl, (show f ≤ 1 by first | assumption | omega), (show f = trn (mc20 s) f from by unfold trn; simp only [z15044, ↓reduceIte])⟩ (Nat.le_of_ble_eq_true rfl) (Nat.le_of_ble_eq_true rfl)
set_option maxHeartbeats 4000000 in
set_option maxRecDepth 100000 in
theorem s_X12_hears (lau : Launch) (gg : va_G) (kA : Nat → ClassId) (m : Nat) (e : Nat) (s : Nat) (m0 : Nat) (mtp : Nat) (mfa : Nat) (mfp : Int32) (mat : Nat) (msz : Nat) (mso : Nat) (mpl : Int32) (mnu : Int32) (mwd : Int64) (m10 : Nat) (m11 : Nat) (m12 : Nat) (m13 : Nat) (m14 : Nat) (m15 : Nat) (m16 : Nat) (m17 : Nat) (m18 : Nat) (m19 : Nat) (m20 : Nat) (m21 : Nat) (m22 : Nat) (m23 : Nat) (m24 : Nat) (mns : Nat) (mnl : Nat) (mne : Nat) (mst : Nat) (mlt : Nat) (mer : Nat) (m31 : Nat) (m32 : Nat) (m33 : Nat) (m34 : Nat) (m35 : Nat) (mwm : Nat) (mwt : Nat) (mwf : Nat) (m39 : Nat) (m40 : Nat) (m41 : Nat) (mla : Nat) (m43 : Nat) (m44 : Nat) (m45 : Nat) (m46 : Nat) (m47 : Nat) (m48 : Nat) (mtm : Nat) (m50 : Nat) (m51 : Nat) (m52 : Nat) (m53 : Nat) (m54 : Nat) (m55 : Nat) (m56 : Nat) (m57 : Nat) (m58 : Nat) (m59 : Nat) (m60 : Nat) (m61 : Nat) (msn : Nat) (mti : Nat) (m64 : Nat) (m65 : Nat) (m66 : Nat) (m67 : Nat) (m68 : Nat) (m69 : Nat) (mc19 : Nat → Int32) (mc23 : Nat → Int32) (he : e < 4) (hs : s ≤ 6) : CtI lau yX12_hears cX12_hears 4 (some .int) 1 0 0 gg kA [.ref m, .int (nI e), .int (pm s)] (mflat [(m, .inl (.inr (12, (.ref m0 :: .int (nI mtp) :: .int (nI mfa) :: .int mfp :: .int (nI mat) :: .int (nI msz) :: .int (nI mso) :: .int mpl :: .int mnu :: .long mwd :: .ref m10 :: .ref m11 :: .ref m12 :: .ref m13 :: .ref m14 :: .ref m15 :: .ref m16 :: .ref m17 :: .ref m18 :: .ref m19 :: .ref m20 :: .ref m21 :: .ref m22 :: .ref m23 :: .ref m24 :: .int (nI mns) :: .int (nI mnl) :: .int (nI mne) :: .int (nI mst) :: .int (nI mlt) :: .int (nI mer) :: .ref m31 :: .ref m32 :: .ref m33 :: .ref m34 :: .ref m35 :: .int (nI mwm) :: .int (nI mwt) :: .int (nI mwf) :: .ref m39 :: .ref m40 :: .ref m41 :: .int (nI mla) :: .ref m43 :: .ref m44 :: .ref m45 :: .ref m46 :: .ref m47 :: .ref m48 :: .int (nI mtm) :: .ref m50 :: .ref m51 :: .ref m52 :: .ref m53 :: .ref m54 :: .ref m55 :: .ref m56 :: .ref m57 :: .ref m58 :: .ref m59 :: .ref m60 :: .ref m61 :: .int (nI msn) :: .int (nI mti) :: .ref m64 :: .ref m65 :: .ref m66 :: .ref m67 :: .ref m68 :: .ref m69 :: [])))), (m19, .inl (.inl (kA 1, 6, .inl mc19))), (m23, .inl (.inl (kA 1, 4, .inl mc23)))]) (S := Unit) (fun (r : Int32) (_ : Unit) => True) (fun (_ : Unit) => mflat [(m, .inl (.inr (12, (.ref m0 :: .int (nI mtp) :: .int (nI mfa) :: .int mfp :: .int (nI mat) :: .int (nI msz) :: .int (nI mso) :: .int mpl :: .int mnu :: .long mwd :: .ref m10 :: .ref m11 :: .ref m12 :: .ref m13 :: .ref m14 :: .ref m15 :: .ref m16 :: .ref m17 :: .ref m18 :: .ref m19 :: .ref m20 :: .ref m21 :: .ref m22 :: .ref m23 :: .ref m24 :: .int (nI mns) :: .int (nI mnl) :: .int (nI mne) :: .int (nI mst) :: .int (nI mlt) :: .int (nI mer) :: .ref m31 :: .ref m32 :: .ref m33 :: .ref m34 :: .ref m35 :: .int (nI mwm) :: .int (nI mwt) :: .int (nI mwf) :: .ref m39 :: .ref m40 :: .ref m41 :: .int (nI mla) :: .ref m43 :: .ref m44 :: .ref m45 :: .ref m46 :: .ref m47 :: .ref m48 :: .int (nI mtm) :: .ref m50 :: .ref m51 :: .ref m52 :: .ref m53 :: .ref m54 :: .ref m55 :: .ref m56 :: .ref m57 :: .ref m58 :: .ref m59 :: .ref m60 :: .ref m61 :: .int (nI msn) :: .int (nI mti) :: .ref m64 :: .ref m65 :: .ref m66 :: .ref m67 :: .ref m68 :: .ref m69 :: [])))), (m19, .inl (.inl (kA 1, 6, .inl mc19))), (m23, .inl (.inl (kA 1, 4, .inl mc23)))]) := by
  refine nx_startI (by decide +kernel) (Nat.le_of_ble_eq_true rfl) ?_
  intro x hnm h hq
  have h : Ok x cX12_hears RX12 kA (rmC 1 0 0) 4 := h
  show J x (mflat [(m, .inl (.inr (12, (.ref m0 :: .int (nI mtp) :: .int (nI mfa) :: .int mfp :: .int (nI mat) :: .int (nI msz) :: .int (nI mso) :: .int mpl :: .int mnu :: .long mwd :: .ref m10 :: .ref m11 :: .ref m12 :: .ref m13 :: .ref m14 :: .ref m15 :: .ref m16 :: .ref m17 :: .ref m18 :: .ref m19 :: .ref m20 :: .ref m21 :: .ref m22 :: .ref m23 :: .ref m24 :: .int (nI mns) :: .int (nI mnl) :: .int (nI mne) :: .int (nI mst) :: .int (nI mlt) :: .int (nI mer) :: .ref m31 :: .ref m32 :: .ref m33 :: .ref m34 :: .ref m35 :: .int (nI mwm) :: .int (nI mwt) :: .int (nI mwf) :: .ref m39 :: .ref m40 :: .ref m41 :: .int (nI mla) :: .ref m43 :: .ref m44 :: .ref m45 :: .ref m46 :: .ref m47 :: .ref m48 :: .int (nI mtm) :: .ref m50 :: .ref m51 :: .ref m52 :: .ref m53 :: .ref m54 :: .ref m55 :: .ref m56 :: .ref m57 :: .ref m58 :: .ref m59 :: .ref m60 :: .ref m61 :: .int (nI msn) :: .int (nI mti) :: .ref m64 :: .ref m65 :: .ref m66 :: .ref m67 :: .ref m68 :: .ref m69 :: [])))), (m19, .inl (.inl (kA 1, 6, .inl mc19))), (m23, .inl (.inl (kA 1, 4, .inl mc23)))]) [(0, .ref m), (1, .int (nI e)), (2, .int (pm s))] 0 0 0 []
  refine j_iload_n h 2 rfl rfl dX12_hears_0 ?_
  rcases s with _ | j15057
  · show J x (mflat [(m, .inl (.inr (12, (.ref m0 :: .int (nI mtp) :: .int (nI mfa) :: .int mfp :: .int (nI mat) :: .int (nI msz) :: .int (nI mso) :: .int mpl :: .int mnu :: .long mwd :: .ref m10 :: .ref m11 :: .ref m12 :: .ref m13 :: .ref m14 :: .ref m15 :: .ref m16 :: .ref m17 :: .ref m18 :: .ref m19 :: .ref m20 :: .ref m21 :: .ref m22 :: .ref m23 :: .ref m24 :: .int (nI mns) :: .int (nI mnl) :: .int (nI mne) :: .int (nI mst) :: .int (nI mlt) :: .int (nI mer) :: .ref m31 :: .ref m32 :: .ref m33 :: .ref m34 :: .ref m35 :: .int (nI mwm) :: .int (nI mwt) :: .int (nI mwf) :: .ref m39 :: .ref m40 :: .ref m41 :: .int (nI mla) :: .ref m43 :: .ref m44 :: .ref m45 :: .ref m46 :: .ref m47 :: .ref m48 :: .int (nI mtm) :: .ref m50 :: .ref m51 :: .ref m52 :: .ref m53 :: .ref m54 :: .ref m55 :: .ref m56 :: .ref m57 :: .ref m58 :: .ref m59 :: .ref m60 :: .ref m61 :: .int (nI msn) :: .int (nI mti) :: .ref m64 :: .ref m65 :: .ref m66 :: .ref m67 :: .ref m68 :: .ref m69 :: [])))), (m19, .inl (.inl (kA 1, 6, .inl mc19))), (m23, .inl (.inl (kA 1, 4, .inl mc23)))]) [(0, .ref m), (1, .int (nI e)), (2, .int (-1))] 0 0 1 [.int (-1)]
    refine j_if_ge h 8 dX12_hears_1 (by decide) (fun q => absurd q (by decide)) (fun _ => ?_)
    refine j_iconst (v := 0) h (by decide) dX12_hears_4 ?_
    refine j_goto h 21 dX12_hears_5 (by decide) ?_
    refine j_istore_n (lv' := [(3, .int 0), (0, .ref m), (1, .int (nI e)), (2, .int (-1))]) h dX12_hears_21 rfl (by decide) rfl ?_
    refine j_iload_n h 0 rfl rfl dX12_hears_22 ?_
    refine j_if_ge h 30 dX12_hears_23 (by decide) (fun _ => ?_) (fun q => absurd (by decide) q)
    refine j_iload_n h 0 rfl rfl dX12_hears_30 ?_
    exact jm_iret h hq dX12_hears_31 () [0, 1, 2] rfl (by decide) trivial (Nat.le_of_ble_eq_true rfl) (Nat.le_of_ble_eq_true rfl)
  · show J x (mflat [(m, .inl (.inr (12, (.ref m0 :: .int (nI mtp) :: .int (nI mfa) :: .int mfp :: .int (nI mat) :: .int (nI msz) :: .int (nI mso) :: .int mpl :: .int mnu :: .long mwd :: .ref m10 :: .ref m11 :: .ref m12 :: .ref m13 :: .ref m14 :: .ref m15 :: .ref m16 :: .ref m17 :: .ref m18 :: .ref m19 :: .ref m20 :: .ref m21 :: .ref m22 :: .ref m23 :: .ref m24 :: .int (nI mns) :: .int (nI mnl) :: .int (nI mne) :: .int (nI mst) :: .int (nI mlt) :: .int (nI mer) :: .ref m31 :: .ref m32 :: .ref m33 :: .ref m34 :: .ref m35 :: .int (nI mwm) :: .int (nI mwt) :: .int (nI mwf) :: .ref m39 :: .ref m40 :: .ref m41 :: .int (nI mla) :: .ref m43 :: .ref m44 :: .ref m45 :: .ref m46 :: .ref m47 :: .ref m48 :: .int (nI mtm) :: .ref m50 :: .ref m51 :: .ref m52 :: .ref m53 :: .ref m54 :: .ref m55 :: .ref m56 :: .ref m57 :: .ref m58 :: .ref m59 :: .ref m60 :: .ref m61 :: .int (nI msn) :: .int (nI mti) :: .ref m64 :: .ref m65 :: .ref m66 :: .ref m67 :: .ref m68 :: .ref m69 :: [])))), (m19, .inl (.inl (kA 1, 6, .inl mc19))), (m23, .inl (.inl (kA 1, 4, .inl mc23)))]) [(0, .ref m), (1, .int (nI e)), (2, .int (nI j15057))] 0 0 1 [.int (nI j15057)]
    refine j_if_ge h 8 dX12_hears_1 (by decide) (fun _ => ?_) (fun q => absurd (nI_pos' (by omega)) q)
    refine j_aload_n h 0 rfl rfl dX12_hears_8 ?_
    refine jm_get h iw_X12 0 rfl rfl 19 (by decide +kernel) tw_1175 rfl dX12_hears_9 ?_
    refine j_iload_n h 2 rfl rfl dX12_hears_12 ?_
    refine jm_iald h 1 rfl j15057 rfl (by omega) (by omega) dX12_hears_13 ?_
    refine j_aload_n h 0 rfl rfl dX12_hears_14 ?_
    refine jm_get h iw_X12 0 rfl rfl 23 (by decide +kernel) tw_1179 rfl dX12_hears_15 ?_
    refine j_iload_n h 1 rfl rfl dX12_hears_18 ?_
    refine jm_iald h 2 rfl e rfl (by omega) (by omega) dX12_hears_19 ?_
    refine j_isub h dX12_hears_20 ?_
    refine j_istore_n (lv' := [(3, .int ((mc19 j15057) - (mc23 e))), (0, .ref m), (1, .int (nI e)), (2, .int (nI j15057))]) h dX12_hears_21 rfl (by decide) rfl ?_
    refine j_iload_n h 0 rfl rfl dX12_hears_22 ?_
    refine j_if_ge h 30 dX12_hears_23 (by decide) (fun z15058 => ?_) (fun z15058 => ?_)
    · show J x (mflat [(m, .inl (.inr (12, (.ref m0 :: .int (nI mtp) :: .int (nI mfa) :: .int mfp :: .int (nI mat) :: .int (nI msz) :: .int (nI mso) :: .int mpl :: .int mnu :: .long mwd :: .ref m10 :: .ref m11 :: .ref m12 :: .ref m13 :: .ref m14 :: .ref m15 :: .ref m16 :: .ref m17 :: .ref m18 :: .ref m19 :: .ref m20 :: .ref m21 :: .ref m22 :: .ref m23 :: .ref m24 :: .int (nI mns) :: .int (nI mnl) :: .int (nI mne) :: .int (nI mst) :: .int (nI mlt) :: .int (nI mer) :: .ref m31 :: .ref m32 :: .ref m33 :: .ref m34 :: .ref m35 :: .int (nI mwm) :: .int (nI mwt) :: .int (nI mwf) :: .ref m39 :: .ref m40 :: .ref m41 :: .int (nI mla) :: .ref m43 :: .ref m44 :: .ref m45 :: .ref m46 :: .ref m47 :: .ref m48 :: .int (nI mtm) :: .ref m50 :: .ref m51 :: .ref m52 :: .ref m53 :: .ref m54 :: .ref m55 :: .ref m56 :: .ref m57 :: .ref m58 :: .ref m59 :: .ref m60 :: .ref m61 :: .int (nI msn) :: .int (nI mti) :: .ref m64 :: .ref m65 :: .ref m66 :: .ref m67 :: .ref m68 :: .ref m69 :: [])))), (m19, .inl (.inl (kA 1, 6, .inl mc19))), (m23, .inl (.inl (kA 1, 4, .inl mc23)))]) [(3, .int ((mc19 j15057) - (mc23 e))), (0, .ref m), (1, .int (nI e)), (2, .int (nI j15057))] 0 0 30 []
      refine j_iload_n h 0 rfl rfl dX12_hears_30 ?_
      exact jm_iret h hq dX12_hears_31 () [0, 1, 2] rfl (by decide) trivial (Nat.le_of_ble_eq_true rfl) (Nat.le_of_ble_eq_true rfl)
    · show J x (mflat [(m, .inl (.inr (12, (.ref m0 :: .int (nI mtp) :: .int (nI mfa) :: .int mfp :: .int (nI mat) :: .int (nI msz) :: .int (nI mso) :: .int mpl :: .int mnu :: .long mwd :: .ref m10 :: .ref m11 :: .ref m12 :: .ref m13 :: .ref m14 :: .ref m15 :: .ref m16 :: .ref m17 :: .ref m18 :: .ref m19 :: .ref m20 :: .ref m21 :: .ref m22 :: .ref m23 :: .ref m24 :: .int (nI mns) :: .int (nI mnl) :: .int (nI mne) :: .int (nI mst) :: .int (nI mlt) :: .int (nI mer) :: .ref m31 :: .ref m32 :: .ref m33 :: .ref m34 :: .ref m35 :: .int (nI mwm) :: .int (nI mwt) :: .int (nI mwf) :: .ref m39 :: .ref m40 :: .ref m41 :: .int (nI mla) :: .ref m43 :: .ref m44 :: .ref m45 :: .ref m46 :: .ref m47 :: .ref m48 :: .int (nI mtm) :: .ref m50 :: .ref m51 :: .ref m52 :: .ref m53 :: .ref m54 :: .ref m55 :: .ref m56 :: .ref m57 :: .ref m58 :: .ref m59 :: .ref m60 :: .ref m61 :: .int (nI msn) :: .int (nI mti) :: .ref m64 :: .ref m65 :: .ref m66 :: .ref m67 :: .ref m68 :: .ref m69 :: [])))), (m19, .inl (.inl (kA 1, 6, .inl mc19))), (m23, .inl (.inl (kA 1, 4, .inl mc23)))]) [(3, .int ((mc19 j15057) - (mc23 e))), (0, .ref m), (1, .int (nI e)), (2, .int (nI j15057))] 0 0 26 []
      refine j_iconst (v := 0) h (by decide) dX12_hears_26 ?_
      refine j_goto h 31 dX12_hears_27 (by decide) ?_
      exact jm_iret h hq dX12_hears_31 () [0, 1, 2] rfl (by decide) trivial (Nat.le_of_ble_eq_true rfl) (Nat.le_of_ble_eq_true rfl)
