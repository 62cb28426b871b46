def pbC (x k : Int32) : Int32 := vp_nar .byte (x >>> (k &&& 31)).toInt8.toInt32
def pbM (x k : Int32) : Int32 := (x >>> (k &&& 31)) &&& 255
def put4 (f : Nat → Int32) (s : Nat) (a b c d : Int32) : Nat → Int32 := upd (upd (upd (upd f s a) (s + 1) b) (s + 1 + 1) c) (s + 1 + 1 + 1) d
def putC (f : Nat → Int32) (s : Nat) (x : Int32) : Nat → Int32 := put4 f s (pbC x 24) (pbC x 16) (pbC x 8) (pbC x 0)
def putM (f : Nat → Int32) (s : Nat) (x : Int32) : Nat → Int32 := put4 f s (pbM x 24) (pbM x 16) (pbM x 8) (pbM x 0)
def fdCc (f : Nat → Int32) (s : Nat) (a b c d e : Int32) : Nat → Int32 := putC (putC (putC (putC (putC f s a) (s + 4) b) (s + 8) c) (s + 12) d) (s + 16) e
def fdM (f : Nat → Int32) (s : Nat) (a b c d e : Int32) : Nat → Int32 := putM (putM (putM (putM (putM f s a) (s + 4) b) (s + 8) c) (s + 12) d) (s + 16) e
def fedC (f : Nat → Int32) (s : Nat) (a b c d e : Int32) : Nat → Int32 := if s + 20 ≤ 1600 then fdCc f s a b c d e else f
def fedM (f : Nat → Int32) (s : Nat) (a b c d e : Int32) : Nat → Int32 := if s + 20 ≤ 1600 then fdM f s a b c d e else f
/-- the class's tape f and the reference's g hold the same bytes -/
def TpR (s : Nat) (f g : Nat → Int32) : Prop := ∀ k, k < s → ∃ n, n ≤ 255 ∧ g k = nI n ∧ f k = sx n
def ctN (g : Nat → Int32) : Nat → Nat := fun k => (g k).toNatClampNeg
theorem byt (y : Int32) : ∃ n, n ≤ 255 ∧ (y &&& 255) = nI n ∧ y.toInt8.toInt32 = sx n := by
  refine ⟨y.toBitVec.toNat % 256, by omega, ?_, ?_⟩
  · apply Int32.toBitVec_inj.mp
    apply BitVec.eq_of_toNat_eq
    rw [Int32.toBitVec_and, BitVec.toNat_and]
    show y.toBitVec.toNat &&& 255 = (BitVec.ofNat 32 (y.toBitVec.toNat % 256)).toNat
    rw [BitVec.toNat_ofNat, Nat.mod_eq_of_lt (show y.toBitVec.toNat % 256 < 2 ^ 32 by omega)]
    exact Nat.and_two_pow_sub_one_eq_mod y.toBitVec.toNat 8
  · unfold sx
    refine congrArg Int8.toInt32 ?_
    apply Int8.toBitVec_inj.mp
    rw [Int32.toBitVec_toInt8, Int32.toBitVec_toInt8, BitVec.signExtend_eq_setWidth_of_le _ (by decide), BitVec.signExtend_eq_setWidth_of_le _ (by decide)]
    apply BitVec.eq_of_toNat_eq
    rw [BitVec.toNat_setWidth, BitVec.toNat_setWidth]
    show y.toBitVec.toNat % 2 ^ 8 = (BitVec.ofNat 32 (y.toBitVec.toNat % 256)).toNat % 2 ^ 8
    rw [BitVec.toNat_ofNat]
    omega
section TP
variable {s s' : Nat} {f g f' g' : Nat → Int32} {a b c d e : Int32}
theorem TpR_1 {x y : Int32} (h : TpR s f g) (hn : ∃ n, n ≤ 255 ∧ y = nI n ∧ x = sx n) : TpR (s + 1) (upd f s x) (upd g s y) := fun k hk => by
  by_cases q : k = s
  · subst q
    rw [pk_us, pk_us]
    exact hn
  · rw [pk_un q, pk_un q]
    exact h k (by omega)
theorem bytC (y : Int32) : ∃ n, n ≤ 255 ∧ (y &&& 255) = nI n ∧ vp_nar .byte y.toInt8.toInt32 = sx n := by
  obtain ⟨n, h1, h2, h3⟩ := byt y
  refine ⟨n, h1, h2, ?_⟩
  show y.toInt8.toInt32.toInt8.toInt32 = sx n
  rw [Int8.toInt8_toInt32]
  exact h3
theorem TpR_4 (h : TpR s f g) (x : Int32) : TpR (s + 4) (putC f s x) (putM g s x) := TpR_1 (TpR_1 (TpR_1 (TpR_1 h (bytC _)) (bytC _)) (bytC _)) (bytC _)
theorem TpR_fed (h : TpR s f g) (e1 : s' = fedS s) (e2 : f' = fedC f s a b c d e) (e3 : g' = fedM g s a b c d e) : TpR s' f' g' := by
  subst e1
  subst e2
  subst e3
  unfold fedS fedC fedM
  by_cases q : s + 20 ≤ 1600
  · rw [if_pos q, if_pos q, if_pos q]
    exact TpR_4 (TpR_4 (TpR_4 (TpR_4 (TpR_4 h a) b) c) d) e
  · rw [if_neg q, if_neg q, if_neg q]
    exact h
theorem TpR_le (h : TpR s f g) (hs : s' ≤ s) : TpR s' f g := fun k hk => h k (by omega)
theorem TpR_0 (f g : Nat → Int32) : TpR 0 f g := fun k hk => absurd hk (Nat.not_lt_zero k)
theorem TpR_ct (h : TpR s f g) : CtOk (ctN g) s g ∧ CbOk (ctN g) s ∧ CtC (ctN g) s f := by
  have e : ∀ k n, n ≤ 255 → g k = nI n → ctN g k = n := fun k n hn hg => by
    show (g k).toNatClampNeg = n
    rw [hg, nI_clamp (by omega)]
  refine ⟨fun k hk => ?_, fun k hk => ?_, fun k hk => ?_⟩
  · obtain ⟨n, h1, h2, h3⟩ := h k hk
    rw [e k n h1 h2]
    exact h2
  · obtain ⟨n, h1, h2, h3⟩ := h k hk
    rw [e k n h1 h2]
    exact h1
  · obtain ⟨n, h1, h2, h3⟩ := h k hk
    rw [e k n h1 h2]
    exact h3
theorem endS_s {n : Int32} : endS s n ≤ s := by
  unfold endS
  split
  · exact Nat.le_refl s
  · next h0 =>
    split
    · exact Nat.le_refl s
    · next h1 =>
      obtain ⟨j, hj, rfl⟩ := nI_of h0
      rw [nI_clamp hj]
      have : ¬ s < j := fun q => h1 (nI_lt q hj)
      omega
theorem TpR_end {n : Int32} (h : TpR s f g) (e : s' = endS s n) : TpR s' f g := TpR_le h (by rw [e]; exact endS_s)
end TP
def fltV (f p wh : Int32) : Int32 := if wh = 0 then f else if wh = 1 then p else -1
set_option maxHeartbeats 4000000 in
set_option maxRecDepth 100000 in
theorem s_X9_putF (lau : Launch) (gg : va_G) (kA : Nat → ClassId) (t : Nat) (fo : Int32) (t0 : Nat) (tsz : Nat) (tkd : Int32) (tpl : Int32) (tbh : Int32) (twd : Int64) (tnu : Int32) (tby : Nat → Int32) (hts : tsz + 4 ≤ 1600) : CtV lau yX9_put cX9_put 3 (none) 1 0 0 gg kA [.ref t, .int fo] (mflat [(t, .inl (.inr (9, [.ref t0, .int (nI tsz), .int tkd, .int tpl, .int tbh, .long twd, .int tnu]))), (t0, .inl (.inl (kA 0, 1600, .inl tby)))]) (S := (Nat → Int32)) (fun (y_t0 : (Nat → Int32)) => y_t0 = putC tby tsz fo) (fun (y_t0 : (Nat → Int32)) => mflat [(t, .inl (.inr (9, [.ref t0, .int (nI ((((tsz + 1) + 1) + 1) + 1)), .int tkd, .int tpl, .int tbh, .long twd, .int tnu]))), (t0, .inl (.inl (kA 0, 1600, .inl y_t0)))]) := by
  refine nx_startV (by decide +kernel) (Nat.le_of_ble_eq_true rfl) ?_
  intro x hnm h hq
  have h : Ok x cX9_put RX9 kA (rmC 1 0 0) 3 := h
  show J x (mflat [(t, .inl (.inr (9, [.ref t0, .int (nI tsz), .int tkd, .int tpl, .int tbh, .long twd, .int tnu]))), (t0, .inl (.inl (kA 0, 1600, .inl tby)))]) [(0, .ref t), (1, .int fo)] 0 0 0 []
  refine j_bipush (v := 24) h (by decide) dX9_put_0 ?_
  refine j_istore_n (lv' := [(2, .int 24), (0, .ref t), (1, .int fo)]) h dX9_put_2 rfl (by decide) rfl ?_
  refine j_iload_n h 0 rfl rfl dX9_put_3 ?_
  refine j_if_lt h 48 dX9_put_4 (by decide) (fun q => absurd q (by decide)) (fun _ => ?_)
  refine j_aload_n h 1 rfl rfl dX9_put_7 ?_
  refine jm_get h iw_X9 0 rfl rfl 1 (by decide +kernel) tw_122 rfl dX9_put_8 ?_
  refine j_aload_n h 1 rfl rfl dX9_put_11 ?_
  refine jm_get h iw_X9 0 rfl rfl 0 (by decide +kernel) tw_121 rfl dX9_put_12 ?_
  refine jm_alen (v := 1600) h 1 0 rfl rfl rfl dX9_put_15 ?_
  refine j_icmp_ge h 42 dX9_put_16 (by decide) (fun q => absurd q (fun q9 => absurd ((nI_leI (a := 1600) (b := tsz) (by omega) (by omega)).mp q9) (by omega))) (fun _ => ?_)
  refine j_aload_n h 1 rfl rfl dX9_put_19 ?_
  refine jm_get h iw_X9 0 rfl rfl 0 (by decide +kernel) tw_121 rfl dX9_put_20 ?_
  refine j_aload_n h 1 rfl rfl dX9_put_23 ?_
  refine jm_get h iw_X9 0 rfl rfl 1 (by decide +kernel) tw_122 rfl dX9_put_24 ?_
  refine j_iload_n h 2 rfl rfl dX9_put_27 ?_
  refine j_iload_n h 0 rfl rfl dX9_put_28 ?_
  refine j_ishr h dX9_put_29 ?_
  refine j_i2b h dX9_put_30 ?_
  refine jm_bast (w' := [(t, .inl (.inr (9, [.ref t0, .int (nI tsz), .int tkd, .int tpl, .int tbh, .long twd, .int tnu]))), (t0, .inl (.inl (kA 0, 1600, .inl (upd tby tsz (vp_nar .byte ((fo >>> (24 &&& 31)).toInt8.toInt32))))))]) h 1 rfl tsz rfl (by omega) (by omega) dX9_put_31 rfl ?_
  refine j_aload_n h 1 rfl rfl dX9_put_32 ?_
  refine j_dup h rfl dX9_put_33 ?_
  refine jm_get h iw_X9 0 rfl rfl 1 (by decide +kernel) tw_122 rfl dX9_put_34 ?_
  refine j_iconst (v := 1) h (by decide) dX9_put_37 ?_
  refine j_iadd h dX9_put_38 ?_
  refine j_top (b := nI (tsz + 1)) (nI_add tsz 1) ?_
  refine jm_put (w' := [(t, .inl (.inr (9, [.ref t0, .int (nI (tsz + 1)), .int tkd, .int tpl, .int tbh, .long twd, .int tnu]))), (t0, .inl (.inl (kA 0, 1600, .inl (upd tby tsz (vp_nar .byte ((fo >>> (24 &&& 31)).toInt8.toInt32))))))]) h iw_X9 tyX9 tyX9_ok nmX9 0 rfl rfl 1 (by decide +kernel) tw_122 rfl rfl rfl (Nat.le_of_ble_eq_true rfl) dX9_put_39 rfl ?_
  refine j_iinc (v := 16) (lv' := [(2, .int 16), (0, .ref t), (1, .int fo)]) h dX9_put_42 0 rfl (by decide) (by decide) rfl ?_
  refine j_goto h 3 dX9_put_45 (by decide) ?_
  refine j_iload_n h 0 rfl rfl dX9_put_3 ?_
  refine j_if_lt h 48 dX9_put_4 (by decide) (fun q => absurd q (by decide)) (fun _ => ?_)
  refine j_aload_n h 1 rfl rfl dX9_put_7 ?_
  refine jm_get h iw_X9 0 rfl rfl 1 (by decide +kernel) tw_122 rfl dX9_put_8 ?_
  refine j_aload_n h 1 rfl rfl dX9_put_11 ?_
  refine jm_get h iw_X9 0 rfl rfl 0 (by decide +kernel) tw_121 rfl dX9_put_12 ?_
  refine jm_alen (v := 1600) h 1 0 rfl rfl rfl dX9_put_15 ?_
  refine j_icmp_ge h 42 dX9_put_16 (by decide) (fun q => absurd q (fun q9 => absurd ((nI_leI (a := 1600) (b := (tsz + 1)) (by omega) (by omega)).mp q9) (by omega))) (fun _ => ?_)
  refine j_aload_n h 1 rfl rfl dX9_put_19 ?_
  refine jm_get h iw_X9 0 rfl rfl 0 (by decide +kernel) tw_121 rfl dX9_put_20 ?_
  refine j_aload_n h 1 rfl rfl dX9_put_23 ?_
  refine jm_get h iw_X9 0 rfl rfl 1 (by decide +kernel) tw_122 rfl dX9_put_24 ?_
  refine j_iload_n h 2 rfl rfl dX9_put_27 ?_
  refine j_iload_n h 0 rfl rfl dX9_put_28 ?_
  refine j_ishr h dX9_put_29 ?_
  refine j_i2b h dX9_put_30 ?_
  refine jm_bast (w' := [(t, .inl (.inr (9, [.ref t0, .int (nI (tsz + 1)), .int tkd, .int tpl, .int tbh, .long twd, .int tnu]))), (t0, .inl (.inl (kA 0, 1600, .inl (upd (upd tby tsz (vp_nar .byte ((fo >>> (24 &&& 31)).toInt8.toInt32))) (tsz + 1) (vp_nar .byte ((fo >>> (16 &&& 31)).toInt8.toInt32))))))]) h 1 rfl (tsz + 1) rfl (by omega) (by omega) dX9_put_31 rfl ?_
  refine j_aload_n h 1 rfl rfl dX9_put_32 ?_
  refine j_dup h rfl dX9_put_33 ?_
  refine jm_get h iw_X9 0 rfl rfl 1 (by decide +kernel) tw_122 rfl dX9_put_34 ?_
  refine j_iconst (v := 1) h (by decide) dX9_put_37 ?_
  refine j_iadd h dX9_put_38 ?_
  refine j_top (b := nI ((tsz + 1) + 1)) (nI_add (tsz + 1) 1) ?_
  refine jm_put (w' := [(t, .inl (.inr (9, [.ref t0, .int (nI ((tsz + 1) + 1)), .int tkd, .int tpl, .int tbh, .long twd, .int tnu]))), (t0, .inl (.inl (kA 0, 1600, .inl (upd (upd tby tsz (vp_nar .byte ((fo >>> (24 &&& 31)).toInt8.toInt32))) (tsz + 1) (vp_nar .byte ((fo >>> (16 &&& 31)).toInt8.toInt32))))))]) h iw_X9 tyX9 tyX9_ok nmX9 0 rfl rfl 1 (by decide +kernel) tw_122 rfl rfl rfl (Nat.le_of_ble_eq_true rfl) dX9_put_39 rfl ?_
  refine j_iinc (v := 8) (lv' := [(2, .int 8), (0, .ref t), (1, .int fo)]) h dX9_put_42 0 rfl (by decide) (by decide) rfl ?_
  refine j_goto h 3 dX9_put_45 (by decide) ?_
  refine j_iload_n h 0 rfl rfl dX9_put_3 ?_
  refine j_if_lt h 48 dX9_put_4 (by decide) (fun q => absurd q (by decide)) (fun _ => ?_)
  refine j_aload_n h 1 rfl rfl dX9_put_7 ?_
  refine jm_get h iw_X9 0 rfl rfl 1 (by decide +kernel) tw_122 rfl dX9_put_8 ?_
  refine j_aload_n h 1 rfl rfl dX9_put_11 ?_
  refine jm_get h iw_X9 0 rfl rfl 0 (by decide +kernel) tw_121 rfl dX9_put_12 ?_
  refine jm_alen (v := 1600) h 1 0 rfl rfl rfl dX9_put_15 ?_
  refine j_icmp_ge h 42 dX9_put_16 (by decide) (fun q => absurd q (fun q9 => absurd ((nI_leI (a := 1600) (b := ((tsz + 1) + 1)) (by omega) (by omega)).mp q9) (by omega))) (fun _ => ?_)
  refine j_aload_n h 1 rfl rfl dX9_put_19 ?_
  refine jm_get h iw_X9 0 rfl rfl 0 (by decide +kernel) tw_121 rfl dX9_put_20 ?_
  refine j_aload_n h 1 rfl rfl dX9_put_23 ?_
  refine jm_get h iw_X9 0 rfl rfl 1 (by decide +kernel) tw_122 rfl dX9_put_24 ?_
  refine j_iload_n h 2 rfl rfl dX9_put_27 ?_
  refine j_iload_n h 0 rfl rfl dX9_put_28 ?_
  refine j_ishr h dX9_put_29 ?_
  refine j_i2b h dX9_put_30 ?_
  refine jm_bast (w' := [(t, .inl (.inr (9, [.ref t0, .int (nI ((tsz + 1) + 1)), .int tkd, .int tpl, .int tbh, .long twd, .int tnu]))), (t0, .inl (.inl (kA 0, 1600, .inl (upd (upd (upd tby tsz (vp_nar .byte ((fo >>> (24 &&& 31)).toInt8.toInt32))) (tsz + 1) (vp_nar .byte ((fo >>> (16 &&& 31)).toInt8.toInt32))) ((tsz + 1) + 1) (vp_nar .byte ((fo >>> (8 &&& 31)).toInt8.toInt32))))))]) h 1 rfl ((tsz + 1) + 1) rfl (by omega) (by omega) dX9_put_31 rfl ?_
  refine j_aload_n h 1 rfl rfl dX9_put_32 ?_
  refine j_dup h rfl dX9_put_33 ?_
  refine jm_get h iw_X9 0 rfl rfl 1 (by decide +kernel) tw_122 rfl dX9_put_34 ?_
  refine j_iconst (v := 1) h (by decide) dX9_put_37 ?_
  refine j_iadd h dX9_put_38 ?_
  refine j_top (b := nI (((tsz + 1) + 1) + 1)) (nI_add ((tsz + 1) + 1) 1) ?_
  refine jm_put (w' := [(t, .inl (.inr (9, [.ref t0, .int (nI (((tsz + 1) + 1) + 1)), .int tkd, .int tpl, .int tbh, .long twd, .int tnu]))), (t0, .inl (.inl (kA 0, 1600, .inl (upd (upd (upd tby tsz (vp_nar .byte ((fo >>> (24 &&& 31)).toInt8.toInt32))) (tsz + 1) (vp_nar .byte ((fo >>> (16 &&& 31)).toInt8.toInt32))) ((tsz + 1) + 1) (vp_nar .byte ((fo >>> (8 &&& 31)).toInt8.toInt32))))))]) h iw_X9 tyX9 tyX9_ok nmX9 0 rfl rfl 1 (by decide +kernel) tw_122 rfl rfl rfl (Nat.le_of_ble_eq_true rfl) dX9_put_39 rfl ?_
  refine j_iinc (v := 0) (lv' := [(2, .int 0), (0, .ref t), (1, .int fo)]) h dX9_put_42 0 rfl (by decide) (by decide) rfl ?_
  refine j_goto h 3 dX9_put_45 (by decide) ?_
  refine j_iload_n h 0 rfl rfl dX9_put_3 ?_
  refine j_if_lt h 48 dX9_put_4 (by decide) (fun q => absurd q (by decide)) (fun _ => ?_)
  refine j_aload_n h 1 rfl rfl dX9_put_7 ?_
  refine jm_get h iw_X9 0 rfl rfl 1 (by decide +kernel) tw_122 rfl dX9_put_8 ?_
  refine j_aload_n h 1 rfl rfl dX9_put_11 ?_
  refine jm_get h iw_X9 0 rfl rfl 0 (by decide +kernel) tw_121 rfl dX9_put_12 ?_
  refine jm_alen (v := 1600) h 1 0 rfl rfl rfl dX9_put_15 ?_
  refine j_icmp_ge h 42 dX9_put_16 (by decide) (fun q => absurd q (fun q9 => absurd ((nI_leI (a := 1600) (b := (((tsz + 1) + 1) + 1)) (by omega) (by omega)).mp q9) (by omega))) (fun _ => ?_)
  refine j_aload_n h 1 rfl rfl dX9_put_19 ?_
  refine jm_get h iw_X9 0 rfl rfl 0 (by decide +kernel) tw_121 rfl dX9_put_20 ?_
  refine j_aload_n h 1 rfl rfl dX9_put_23 ?_
  refine jm_get h iw_X9 0 rfl rfl 1 (by decide +kernel) tw_122 rfl dX9_put_24 ?_
  refine j_iload_n h 2 rfl rfl dX9_put_27 ?_
  refine j_iload_n h 0 rfl rfl dX9_put_28 ?_
  refine j_ishr h dX9_put_29 ?_
  refine j_i2b h dX9_put_30 ?_
  refine jm_bast (w' := [(t, .inl (.inr (9, [.ref t0, .int (nI (((tsz + 1) + 1) + 1)), .int tkd, .int tpl, .int tbh, .long twd, .int tnu]))), (t0, .inl (.inl (kA 0, 1600, .inl (upd (upd (upd (upd tby tsz (vp_nar .byte ((fo >>> (24 &&& 31)).toInt8.toInt32))) (tsz + 1) (vp_nar .byte ((fo >>> (16 &&& 31)).toInt8.toInt32))) ((tsz + 1) + 1) (vp_nar .byte ((fo >>> (8 &&& 31)).toInt8.toInt32))) (((tsz + 1) + 1) + 1) (vp_nar .byte ((fo >>> (0 &&& 31)).toInt8.toInt32))))))]) h 1 rfl (((tsz + 1) + 1) + 1) rfl (by omega) (by omega) dX9_put_31 rfl ?_
  refine j_aload_n h 1 rfl rfl dX9_put_32 ?_
  refine j_dup h rfl dX9_put_33 ?_
  refine jm_get h iw_X9 0 rfl rfl 1 (by decide +kernel) tw_122 rfl dX9_put_34 ?_
  refine j_iconst (v := 1) h (by decide) dX9_put_37 ?_
  refine j_iadd h dX9_put_38 ?_
  refine j_top (b := nI ((((tsz + 1) + 1) + 1) + 1)) (nI_add (((tsz + 1) + 1) + 1) 1) ?_
  refine jm_put (w' := [(t, .inl (.inr (9, [.ref t0, .int (nI ((((tsz + 1) + 1) + 1) + 1)), .int tkd, .int tpl, .int tbh, .long twd, .int tnu]))), (t0, .inl (.inl (kA 0, 1600, .inl (upd (upd (upd (upd tby tsz (vp_nar .byte ((fo >>> (24 &&& 31)).toInt8.toInt32))) (tsz + 1) (vp_nar .byte ((fo >>> (16 &&& 31)).toInt8.toInt32))) ((tsz + 1) + 1) (vp_nar .byte ((fo >>> (8 &&& 31)).toInt8.toInt32))) (((tsz + 1) + 1) + 1) (vp_nar .byte ((fo >>> (0 &&& 31)).toInt8.toInt32))))))]) h iw_X9 tyX9 tyX9_ok nmX9 0 rfl rfl 1 (by decide +kernel) tw_122 rfl rfl rfl (Nat.le_of_ble_eq_true rfl) dX9_put_39 rfl ?_
  refine j_iinc (v := (-8)) (lv' := [(2, .int (-8)), (0, .ref t), (1, .int fo)]) h dX9_put_42 0 rfl (by decide) (by decide) rfl ?_
  refine j_goto h 3 dX9_put_45 (by decide) ?_
  refine j_iload_n h 0 rfl rfl dX9_put_3 ?_
  refine j_if_lt h 48 dX9_put_4 (by decide) (fun _ => ?_) (fun q => absurd (by decide) q)
  exact jm_vret h hq dX9_put_48 (upd (upd (upd (upd tby tsz (vp_nar .byte ((fo >>> (24 &&& 31)).toInt8.toInt32))) (tsz + 1) (vp_nar .byte ((fo >>> (16 &&& 31)).toInt8.toInt32))) ((tsz + 1) + 1) (vp_nar .byte ((fo >>> (8 &&& 31)).toInt8.toInt32))) (((tsz + 1) + 1) + 1) (vp_nar .byte ((fo >>> (0 &&& 31)).toInt8.toInt32))) [0, 1] rfl (by decide) (show (upd (upd (upd (upd tby tsz (vp_nar .byte ((fo >>> (24 &&& 31)).toInt8.toInt32))) (tsz + 1) (vp_nar .byte ((fo >>> (16 &&& 31)).toInt8.toInt32))) ((tsz + 1) + 1) (vp_nar .byte ((fo >>> (8 &&& 31)).toInt8.toInt32))) (((tsz + 1) + 1) + 1) (vp_nar .byte ((fo >>> (0 &&& 31)).toInt8.toInt32))) = putC tby tsz fo from rfl) (Nat.le_of_ble_eq_true rfl) (Nat.le_of_ble_eq_true rfl)
set_option maxHeartbeats 4000000 in
set_option maxRecDepth 100000 in
theorem s_X12_fourF (lau : Launch) (gg : va_G) (kA : Nat → ClassId) (m : Nat) (vv : Int32) (m0 : Nat) (mtp : Nat) (mfa : Nat) (mfp : Int32) (mat : Nat) (msz : Nat) (mso : Nat) (mpl : Int32) (mnu : Int32) (mwd : Int64) (m10 : Nat) (m11 : Nat) (m12 : Nat) (m13 : Nat) (m14 : Nat) (m15 : Nat) (m16 : Nat) (m17 : Nat) (m18 : Nat) (m19 : Nat) (m20 : Nat) (m21 : Nat) (m22 : Nat) (m23 : Nat) (m24 : Nat) (mns : Nat) (mnl : Nat) (mne : Nat) (mst : Nat) (mlt : Nat) (mer : Nat) (m31 : Nat) (m32 : Nat) (m33 : Nat) (m34 : Nat) (m35 : Nat) (mwm : Nat) (mwt : Nat) (mwf : Nat) (m39 : Nat) (m40 : Nat) (m41 : Nat) (mla : Nat) (m43 : Nat) (m44 : Nat) (m45 : Nat) (m46 : Nat) (m47 : Nat) (m48 : Nat) (mtm : Nat) (m50 : Nat) (m51 : Nat) (m52 : Nat) (m53 : Nat) (m54 : Nat) (m55 : Nat) (m56 : Nat) (m57 : Nat) (m58 : Nat) (m59 : Nat) (m60 : Nat) (m61 : Nat) (msn : Nat) (mti : Nat) (m64 : Nat) (m65 : Nat) (m66 : Nat) (m67 : Nat) (m68 : Nat) (m69 : Nat) (mc0 : Nat → Int32) (hmtp : mtp + 4 ≤ 1600) : CtV lau yX12_four cX12_four 3 (none) 1 0 0 gg kA [.ref m, .int vv] (mflat [(m, .inl (.inr (12, (.ref m0 :: .int (nI mtp) :: .int (nI mfa) :: .int mfp :: .int (nI mat) :: .int (nI msz) :: .int (nI mso) :: .int mpl :: .int mnu :: .long mwd :: .ref m10 :: .ref m11 :: .ref m12 :: .ref m13 :: .ref m14 :: .ref m15 :: .ref m16 :: .ref m17 :: .ref m18 :: .ref m19 :: .ref m20 :: .ref m21 :: .ref m22 :: .ref m23 :: .ref m24 :: .int (nI mns) :: .int (nI mnl) :: .int (nI mne) :: .int (nI mst) :: .int (nI mlt) :: .int (nI mer) :: .ref m31 :: .ref m32 :: .ref m33 :: .ref m34 :: .ref m35 :: .int (nI mwm) :: .int (nI mwt) :: .int (nI mwf) :: .ref m39 :: .ref m40 :: .ref m41 :: .int (nI mla) :: .ref m43 :: .ref m44 :: .ref m45 :: .ref m46 :: .ref m47 :: .ref m48 :: .int (nI mtm) :: .ref m50 :: .ref m51 :: .ref m52 :: .ref m53 :: .ref m54 :: .ref m55 :: .ref m56 :: .ref m57 :: .ref m58 :: .ref m59 :: .ref m60 :: .ref m61 :: .int (nI msn) :: .int (nI mti) :: .ref m64 :: .ref m65 :: .ref m66 :: .ref m67 :: .ref m68 :: .ref m69 :: [])))), (m0, .inl (.inl (kA 1, 1600, .inl mc0)))]) (S := (Nat → Int32)) (fun (y_m0 : (Nat → Int32)) => y_m0 = putM mc0 mtp vv) (fun (y_m0 : (Nat → Int32)) => mflat [(m, .inl (.inr (12, (.ref m0 :: .int (nI ((((mtp + 1) + 1) + 1) + 1)) :: .int (nI mfa) :: .int mfp :: .int (nI mat) :: .int (nI msz) :: .int (nI mso) :: .int mpl :: .int mnu :: .long mwd :: .ref m10 :: .ref m11 :: .ref m12 :: .ref m13 :: .ref m14 :: .ref m15 :: .ref m16 :: .ref m17 :: .ref m18 :: .ref m19 :: .ref m20 :: .ref m21 :: .ref m22 :: .ref m23 :: .ref m24 :: .int (nI mns) :: .int (nI mnl) :: .int (nI mne) :: .int (nI mst) :: .int (nI mlt) :: .int (nI mer) :: .ref m31 :: .ref m32 :: .ref m33 :: .ref m34 :: .ref m35 :: .int (nI mwm) :: .int (nI mwt) :: .int (nI mwf) :: .ref m39 :: .ref m40 :: .ref m41 :: .int (nI mla) :: .ref m43 :: .ref m44 :: .ref m45 :: .ref m46 :: .ref m47 :: .ref m48 :: .int (nI mtm) :: .ref m50 :: .ref m51 :: .ref m52 :: .ref m53 :: .ref m54 :: .ref m55 :: .ref m56 :: .ref m57 :: .ref m58 :: .ref m59 :: .ref m60 :: .ref m61 :: .int (nI msn) :: .int (nI mti) :: .ref m64 :: .ref m65 :: .ref m66 :: .ref m67 :: .ref m68 :: .ref m69 :: [])))), (m0, .inl (.inl (kA 1, 1600, .inl y_m0)))]) := by
  refine nx_startV (by decide +kernel) (Nat.le_of_ble_eq_true rfl) ?_
  intro x hnm h hq
  have h : Ok x cX12_four RX12 kA (rmC 1 0 0) 3 := h
  show J x (mflat [(m, .inl (.inr (12, (.ref m0 :: .int (nI mtp) :: .int (nI mfa) :: .int mfp :: .int (nI mat) :: .int (nI msz) :: .int (nI mso) :: .int mpl :: .int mnu :: .long mwd :: .ref m10 :: .ref m11 :: .ref m12 :: .ref m13 :: .ref m14 :: .ref m15 :: .ref m16 :: .ref m17 :: .ref m18 :: .ref m19 :: .ref m20 :: .ref m21 :: .ref m22 :: .ref m23 :: .ref m24 :: .int (nI mns) :: .int (nI mnl) :: .int (nI mne) :: .int (nI mst) :: .int (nI mlt) :: .int (nI mer) :: .ref m31 :: .ref m32 :: .ref m33 :: .ref m34 :: .ref m35 :: .int (nI mwm) :: .int (nI mwt) :: .int (nI mwf) :: .ref m39 :: .ref m40 :: .ref m41 :: .int (nI mla) :: .ref m43 :: .ref m44 :: .ref m45 :: .ref m46 :: .ref m47 :: .ref m48 :: .int (nI mtm) :: .ref m50 :: .ref m51 :: .ref m52 :: .ref m53 :: .ref m54 :: .ref m55 :: .ref m56 :: .ref m57 :: .ref m58 :: .ref m59 :: .ref m60 :: .ref m61 :: .int (nI msn) :: .int (nI mti) :: .ref m64 :: .ref m65 :: .ref m66 :: .ref m67 :: .ref m68 :: .ref m69 :: [])))), (m0, .inl (.inl (kA 1, 1600, .inl mc0)))]) [(0, .ref m), (1, .int vv)] 0 0 0 []
  refine j_bipush (v := 24) h (by decide) dX12_four_0 ?_
  refine j_istore_n (lv' := [(2, .int 24), (0, .ref m), (1, .int vv)]) h dX12_four_2 rfl (by decide) rfl ?_
  refine j_iload_n h 0 rfl rfl dX12_four_3 ?_
  refine j_if_lt h 39 dX12_four_4 (by decide) (fun q => absurd q (by decide)) (fun _ => ?_)
  refine j_aload_n h 1 rfl rfl dX12_four_7 ?_
  refine jm_get h iw_X12 0 rfl rfl 0 (by decide +kernel) tw_1156 rfl dX12_four_8 ?_
  refine j_aload_n h 1 rfl rfl dX12_four_11 ?_
  refine jm_get h iw_X12 0 rfl rfl 1 (by decide +kernel) tw_1157 rfl dX12_four_12 ?_
  refine j_iload_n h 2 rfl rfl dX12_four_15 ?_
  refine j_iload_n h 0 rfl rfl dX12_four_16 ?_
  refine j_ishr h dX12_four_17 ?_
  refine j_sipush (v := 255) h (by decide) dX12_four_18 ?_
  refine j_iand h dX12_four_21 ?_
  refine jm_iast (w' := [(m, .inl (.inr (12, (.ref m0 :: .int (nI mtp) :: .int (nI mfa) :: .int mfp :: .int (nI mat) :: .int (nI msz) :: .int (nI mso) :: .int mpl :: .int mnu :: .long mwd :: .ref m10 :: .ref m11 :: .ref m12 :: .ref m13 :: .ref m14 :: .ref m15 :: .ref m16 :: .ref m17 :: .ref m18 :: .ref m19 :: .ref m20 :: .ref m21 :: .ref m22 :: .ref m23 :: .ref m24 :: .int (nI mns) :: .int (nI mnl) :: .int (nI mne) :: .int (nI mst) :: .int (nI mlt) :: .int (nI mer) :: .ref m31 :: .ref m32 :: .ref m33 :: .ref m34 :: .ref m35 :: .int (nI mwm) :: .int (nI mwt) :: .int (nI mwf) :: .ref m39 :: .ref m40 :: .ref m41 :: .int (nI mla) :: .ref m43 :: .ref m44 :: .ref m45 :: .ref m46 :: .ref m47 :: .ref m48 :: .int (nI mtm) :: .ref m50 :: .ref m51 :: .ref m52 :: .ref m53 :: .ref m54 :: .ref m55 :: .ref m56 :: .ref m57 :: .ref m58 :: .ref m59 :: .ref m60 :: .ref m61 :: .int (nI msn) :: .int (nI mti) :: .ref m64 :: .ref m65 :: .ref m66 :: .ref m67 :: .ref m68 :: .ref m69 :: [])))), (m0, .inl (.inl (kA 1, 1600, .inl (upd mc0 mtp ((vv >>> (24 &&& 31)) &&& 255)))))]) h 1 rfl mtp rfl (by omega) (by omega) dX12_four_22 rfl ?_
  refine j_aload_n h 1 rfl rfl dX12_four_23 ?_
  refine j_dup h rfl dX12_four_24 ?_
  refine jm_get h iw_X12 0 rfl rfl 1 (by decide +kernel) tw_1157 rfl dX12_four_25 ?_
  refine j_iconst (v := 1) h (by decide) dX12_four_28 ?_
  refine j_iadd h dX12_four_29 ?_
  refine j_top (b := nI (mtp + 1)) (nI_add mtp 1) ?_
  refine jm_put (w' := [(m, .inl (.inr (12, (.ref m0 :: .int (nI (mtp + 1)) :: .int (nI mfa) :: .int mfp :: .int (nI mat) :: .int (nI msz) :: .int (nI mso) :: .int mpl :: .int mnu :: .long mwd :: .ref m10 :: .ref m11 :: .ref m12 :: .ref m13 :: .ref m14 :: .ref m15 :: .ref m16 :: .ref m17 :: .ref m18 :: .ref m19 :: .ref m20 :: .ref m21 :: .ref m22 :: .ref m23 :: .ref m24 :: .int (nI mns) :: .int (nI mnl) :: .int (nI mne) :: .int (nI mst) :: .int (nI mlt) :: .int (nI mer) :: .ref m31 :: .ref m32 :: .ref m33 :: .ref m34 :: .ref m35 :: .int (nI mwm) :: .int (nI mwt) :: .int (nI mwf) :: .ref m39 :: .ref m40 :: .ref m41 :: .int (nI mla) :: .ref m43 :: .ref m44 :: .ref m45 :: .ref m46 :: .ref m47 :: .ref m48 :: .int (nI mtm) :: .ref m50 :: .ref m51 :: .ref m52 :: .ref m53 :: .ref m54 :: .ref m55 :: .ref m56 :: .ref m57 :: .ref m58 :: .ref m59 :: .ref m60 :: .ref m61 :: .int (nI msn) :: .int (nI mti) :: .ref m64 :: .ref m65 :: .ref m66 :: .ref m67 :: .ref m68 :: .ref m69 :: [])))), (m0, .inl (.inl (kA 1, 1600, .inl (upd mc0 mtp ((vv >>> (24 &&& 31)) &&& 255)))))]) h iw_X12 tyX12 tyX12_ok nmX12 0 rfl rfl 1 (by decide +kernel) tw_1157 rfl rfl rfl (Nat.le_of_ble_eq_true rfl) dX12_four_30 rfl ?_
  refine j_iinc (v := 16) (lv' := [(2, .int 16), (0, .ref m), (1, .int vv)]) h dX12_four_33 0 rfl (by decide) (by decide) rfl ?_
  refine j_goto h 3 dX12_four_36 (by decide) ?_
  refine j_iload_n h 0 rfl rfl dX12_four_3 ?_
  refine j_if_lt h 39 dX12_four_4 (by decide) (fun q => absurd q (by decide)) (fun _ => ?_)
  refine j_aload_n h 1 rfl rfl dX12_four_7 ?_
  refine jm_get h iw_X12 0 rfl rfl 0 (by decide +kernel) tw_1156 rfl dX12_four_8 ?_
  refine j_aload_n h 1 rfl rfl dX12_four_11 ?_
  refine jm_get h iw_X12 0 rfl rfl 1 (by decide +kernel) tw_1157 rfl dX12_four_12 ?_
  refine j_iload_n h 2 rfl rfl dX12_four_15 ?_
  refine j_iload_n h 0 rfl rfl dX12_four_16 ?_
  refine j_ishr h dX12_four_17 ?_
  refine j_sipush (v := 255) h (by decide) dX12_four_18 ?_
  refine j_iand h dX12_four_21 ?_
  refine jm_iast (w' := [(m, .inl (.inr (12, (.ref m0 :: .int (nI (mtp + 1)) :: .int (nI mfa) :: .int mfp :: .int (nI mat) :: .int (nI msz) :: .int (nI mso) :: .int mpl :: .int mnu :: .long mwd :: .ref m10 :: .ref m11 :: .ref m12 :: .ref m13 :: .ref m14 :: .ref m15 :: .ref m16 :: .ref m17 :: .ref m18 :: .ref m19 :: .ref m20 :: .ref m21 :: .ref m22 :: .ref m23 :: .ref m24 :: .int (nI mns) :: .int (nI mnl) :: .int (nI mne) :: .int (nI mst) :: .int (nI mlt) :: .int (nI mer) :: .ref m31 :: .ref m32 :: .ref m33 :: .ref m34 :: .ref m35 :: .int (nI mwm) :: .int (nI mwt) :: .int (nI mwf) :: .ref m39 :: .ref m40 :: .ref m41 :: .int (nI mla) :: .ref m43 :: .ref m44 :: .ref m45 :: .ref m46 :: .ref m47 :: .ref m48 :: .int (nI mtm) :: .ref m50 :: .ref m51 :: .ref m52 :: .ref m53 :: .ref m54 :: .ref m55 :: .ref m56 :: .ref m57 :: .ref m58 :: .ref m59 :: .ref m60 :: .ref m61 :: .int (nI msn) :: .int (nI mti) :: .ref m64 :: .ref m65 :: .ref m66 :: .ref m67 :: .ref m68 :: .ref m69 :: [])))), (m0, .inl (.inl (kA 1, 1600, .inl (upd (upd mc0 mtp ((vv >>> (24 &&& 31)) &&& 255)) (mtp + 1) ((vv >>> (16 &&& 31)) &&& 255)))))]) h 1 rfl (mtp + 1) rfl (by omega) (by omega) dX12_four_22 rfl ?_
  refine j_aload_n h 1 rfl rfl dX12_four_23 ?_
  refine j_dup h rfl dX12_four_24 ?_
  refine jm_get h iw_X12 0 rfl rfl 1 (by decide +kernel) tw_1157 rfl dX12_four_25 ?_
  refine j_iconst (v := 1) h (by decide) dX12_four_28 ?_
  refine j_iadd h dX12_four_29 ?_
  refine j_top (b := nI ((mtp + 1) + 1)) (nI_add (mtp + 1) 1) ?_
  refine jm_put (w' := [(m, .inl (.inr (12, (.ref m0 :: .int (nI ((mtp + 1) + 1)) :: .int (nI mfa) :: .int mfp :: .int (nI mat) :: .int (nI msz) :: .int (nI mso) :: .int mpl :: .int mnu :: .long mwd :: .ref m10 :: .ref m11 :: .ref m12 :: .ref m13 :: .ref m14 :: .ref m15 :: .ref m16 :: .ref m17 :: .ref m18 :: .ref m19 :: .ref m20 :: .ref m21 :: .ref m22 :: .ref m23 :: .ref m24 :: .int (nI mns) :: .int (nI mnl) :: .int (nI mne) :: .int (nI mst) :: .int (nI mlt) :: .int (nI mer) :: .ref m31 :: .ref m32 :: .ref m33 :: .ref m34 :: .ref m35 :: .int (nI mwm) :: .int (nI mwt) :: .int (nI mwf) :: .ref m39 :: .ref m40 :: .ref m41 :: .int (nI mla) :: .ref m43 :: .ref m44 :: .ref m45 :: .ref m46 :: .ref m47 :: .ref m48 :: .int (nI mtm) :: .ref m50 :: .ref m51 :: .ref m52 :: .ref m53 :: .ref m54 :: .ref m55 :: .ref m56 :: .ref m57 :: .ref m58 :: .ref m59 :: .ref m60 :: .ref m61 :: .int (nI msn) :: .int (nI mti) :: .ref m64 :: .ref m65 :: .ref m66 :: .ref m67 :: .ref m68 :: .ref m69 :: [])))), (m0, .inl (.inl (kA 1, 1600, .inl (upd (upd mc0 mtp ((vv >>> (24 &&& 31)) &&& 255)) (mtp + 1) ((vv >>> (16 &&& 31)) &&& 255)))))]) h iw_X12 tyX12 tyX12_ok nmX12 0 rfl rfl 1 (by decide +kernel) tw_1157 rfl rfl rfl (Nat.le_of_ble_eq_true rfl) dX12_four_30 rfl ?_
  refine j_iinc (v := 8) (lv' := [(2, .int 8), (0, .ref m), (1, .int vv)]) h dX12_four_33 0 rfl (by decide) (by decide) rfl ?_
  refine j_goto h 3 dX12_four_36 (by decide) ?_
  refine j_iload_n h 0 rfl rfl dX12_four_3 ?_
  refine j_if_lt h 39 dX12_four_4 (by decide) (fun q => absurd q (by decide)) (fun _ => ?_)
  refine j_aload_n h 1 rfl rfl dX12_four_7 ?_
  refine jm_get h iw_X12 0 rfl rfl 0 (by decide +kernel) tw_1156 rfl dX12_four_8 ?_
  refine j_aload_n h 1 rfl rfl dX12_four_11 ?_
  refine jm_get h iw_X12 0 rfl rfl 1 (by decide +kernel) tw_1157 rfl dX12_four_12 ?_
  refine j_iload_n h 2 rfl rfl dX12_four_15 ?_
  refine j_iload_n h 0 rfl rfl dX12_four_16 ?_
  refine j_ishr h dX12_four_17 ?_
  refine j_sipush (v := 255) h (by decide) dX12_four_18 ?_
  refine j_iand h dX12_four_21 ?_
  refine jm_iast (w' := [(m, .inl (.inr (12, (.ref m0 :: .int (nI ((mtp + 1) + 1)) :: .int (nI mfa) :: .int mfp :: .int (nI mat) :: .int (nI msz) :: .int (nI mso) :: .int mpl :: .int mnu :: .long mwd :: .ref m10 :: .ref m11 :: .ref m12 :: .ref m13 :: .ref m14 :: .ref m15 :: .ref m16 :: .ref m17 :: .ref m18 :: .ref m19 :: .ref m20 :: .ref m21 :: .ref m22 :: .ref m23 :: .ref m24 :: .int (nI mns) :: .int (nI mnl) :: .int (nI mne) :: .int (nI mst) :: .int (nI mlt) :: .int (nI mer) :: .ref m31 :: .ref m32 :: .ref m33 :: .ref m34 :: .ref m35 :: .int (nI mwm) :: .int (nI mwt) :: .int (nI mwf) :: .ref m39 :: .ref m40 :: .ref m41 :: .int (nI mla) :: .ref m43 :: .ref m44 :: .ref m45 :: .ref m46 :: .ref m47 :: .ref m48 :: .int (nI mtm) :: .ref m50 :: .ref m51 :: .ref m52 :: .ref m53 :: .ref m54 :: .ref m55 :: .ref m56 :: .ref m57 :: .ref m58 :: .ref m59 :: .ref m60 :: .ref m61 :: .int (nI msn) :: .int (nI mti) :: .ref m64 :: .ref m65 :: .ref m66 :: .ref m67 :: .ref m68 :: .ref m69 :: [])))), (m0, .inl (.inl (kA 1, 1600, .inl (upd (upd (upd mc0 mtp ((vv >>> (24 &&& 31)) &&& 255)) (mtp + 1) ((vv >>> (16 &&& 31)) &&& 255)) ((mtp + 1) + 1) ((vv >>> (8 &&& 31)) &&& 255)))))]) h 1 rfl ((mtp + 1) + 1) rfl (by omega) (by omega) dX12_four_22 rfl ?_
  refine j_aload_n h 1 rfl rfl dX12_four_23 ?_
  refine j_dup h rfl dX12_four_24 ?_
  refine jm_get h iw_X12 0 rfl rfl 1 (by decide +kernel) tw_1157 rfl dX12_four_25 ?_
  refine j_iconst (v := 1) h (by decide) dX12_four_28 ?_
  refine j_iadd h dX12_four_29 ?_
  refine j_top (b := nI (((mtp + 1) + 1) + 1)) (nI_add ((mtp + 1) + 1) 1) ?_
  refine jm_put (w' := [(m, .inl (.inr (12, (.ref m0 :: .int (nI (((mtp + 1) + 1) + 1)) :: .int (nI mfa) :: .int mfp :: .int (nI mat) :: .int (nI msz) :: .int (nI mso) :: .int mpl :: .int mnu :: .long mwd :: .ref m10 :: .ref m11 :: .ref m12 :: .ref m13 :: .ref m14 :: .ref m15 :: .ref m16 :: .ref m17 :: .ref m18 :: .ref m19 :: .ref m20 :: .ref m21 :: .ref m22 :: .ref m23 :: .ref m24 :: .int (nI mns) :: .int (nI mnl) :: .int (nI mne) :: .int (nI mst) :: .int (nI mlt) :: .int (nI mer) :: .ref m31 :: .ref m32 :: .ref m33 :: .ref m34 :: .ref m35 :: .int (nI mwm) :: .int (nI mwt) :: .int (nI mwf) :: .ref m39 :: .ref m40 :: .ref m41 :: .int (nI mla) :: .ref m43 :: .ref m44 :: .ref m45 :: .ref m46 :: .ref m47 :: .ref m48 :: .int (nI mtm) :: .ref m50 :: .ref m51 :: .ref m52 :: .ref m53 :: .ref m54 :: .ref m55 :: .ref m56 :: .ref m57 :: .ref m58 :: .ref m59 :: .ref m60 :: .ref m61 :: .int (nI msn) :: .int (nI mti) :: .ref m64 :: .ref m65 :: .ref m66 :: .ref m67 :: .ref m68 :: .ref m69 :: [])))), (m0, .inl (.inl (kA 1, 1600, .inl (upd (upd (upd mc0 mtp ((vv >>> (24 &&& 31)) &&& 255)) (mtp + 1) ((vv >>> (16 &&& 31)) &&& 255)) ((mtp + 1) + 1) ((vv >>> (8 &&& 31)) &&& 255)))))]) h iw_X12 tyX12 tyX12_ok nmX12 0 rfl rfl 1 (by decide +kernel) tw_1157 rfl rfl rfl (Nat.le_of_ble_eq_true rfl) dX12_four_30 rfl ?_
  refine j_iinc (v := 0) (lv' := [(2, .int 0), (0, .ref m), (1, .int vv)]) h dX12_four_33 0 rfl (by decide) (by decide) rfl ?_
  refine j_goto h 3 dX12_four_36 (by decide) ?_
  refine j_iload_n h 0 rfl rfl dX12_four_3 ?_
  refine j_if_lt h 39 dX12_four_4 (by decide) (fun q => absurd q (by decide)) (fun _ => ?_)
  refine j_aload_n h 1 rfl rfl dX12_four_7 ?_
  refine jm_get h iw_X12 0 rfl rfl 0 (by decide +kernel) tw_1156 rfl dX12_four_8 ?_
  refine j_aload_n h 1 rfl rfl dX12_four_11 ?_
  refine jm_get h iw_X12 0 rfl rfl 1 (by decide +kernel) tw_1157 rfl dX12_four_12 ?_
  refine j_iload_n h 2 rfl rfl dX12_four_15 ?_
  refine j_iload_n h 0 rfl rfl dX12_four_16 ?_
  refine j_ishr h dX12_four_17 ?_
  refine j_sipush (v := 255) h (by decide) dX12_four_18 ?_
  refine j_iand h dX12_four_21 ?_
  refine jm_iast (w' := [(m, .inl (.inr (12, (.ref m0 :: .int (nI (((mtp + 1) + 1) + 1)) :: .int (nI mfa) :: .int mfp :: .int (nI mat) :: .int (nI msz) :: .int (nI mso) :: .int mpl :: .int mnu :: .long mwd :: .ref m10 :: .ref m11 :: .ref m12 :: .ref m13 :: .ref m14 :: .ref m15 :: .ref m16 :: .ref m17 :: .ref m18 :: .ref m19 :: .ref m20 :: .ref m21 :: .ref m22 :: .ref m23 :: .ref m24 :: .int (nI mns) :: .int (nI mnl) :: .int (nI mne) :: .int (nI mst) :: .int (nI mlt) :: .int (nI mer) :: .ref m31 :: .ref m32 :: .ref m33 :: .ref m34 :: .ref m35 :: .int (nI mwm) :: .int (nI mwt) :: .int (nI mwf) :: .ref m39 :: .ref m40 :: .ref m41 :: .int (nI mla) :: .ref m43 :: .ref m44 :: .ref m45 :: .ref m46 :: .ref m47 :: .ref m48 :: .int (nI mtm) :: .ref m50 :: .ref m51 :: .ref m52 :: .ref m53 :: .ref m54 :: .ref m55 :: .ref m56 :: .ref m57 :: .ref m58 :: .ref m59 :: .ref m60 :: .ref m61 :: .int (nI msn) :: .int (nI mti) :: .ref m64 :: .ref m65 :: .ref m66 :: .ref m67 :: .ref m68 :: .ref m69 :: [])))), (m0, .inl (.inl (kA 1, 1600, .inl (upd (upd (upd (upd mc0 mtp ((vv >>> (24 &&& 31)) &&& 255)) (mtp + 1) ((vv >>> (16 &&& 31)) &&& 255)) ((mtp + 1) + 1) ((vv >>> (8 &&& 31)) &&& 255)) (((mtp + 1) + 1) + 1) ((vv >>> (0 &&& 31)) &&& 255)))))]) h 1 rfl (((mtp + 1) + 1) + 1) rfl (by omega) (by omega) dX12_four_22 rfl ?_
  refine j_aload_n h 1 rfl rfl dX12_four_23 ?_
  refine j_dup h rfl dX12_four_24 ?_
  refine jm_get h iw_X12 0 rfl rfl 1 (by decide +kernel) tw_1157 rfl dX12_four_25 ?_
  refine j_iconst (v := 1) h (by decide) dX12_four_28 ?_
  refine j_iadd h dX12_four_29 ?_
  refine j_top (b := nI ((((mtp + 1) + 1) + 1) + 1)) (nI_add (((mtp + 1) + 1) + 1) 1) ?_
  refine jm_put (w' := [(m, .inl (.inr (12, (.ref m0 :: .int (nI ((((mtp + 1) + 1) + 1) + 1)) :: .int (nI mfa) :: .int mfp :: .int (nI mat) :: .int (nI msz) :: .int (nI mso) :: .int mpl :: .int mnu :: .long mwd :: .ref m10 :: .ref m11 :: .ref m12 :: .ref m13 :: .ref m14 :: .ref m15 :: .ref m16 :: .ref m17 :: .ref m18 :: .ref m19 :: .ref m20 :: .ref m21 :: .ref m22 :: .ref m23 :: .ref m24 :: .int (nI mns) :: .int (nI mnl) :: .int (nI mne) :: .int (nI mst) :: .int (nI mlt) :: .int (nI mer) :: .ref m31 :: .ref m32 :: .ref m33 :: .ref m34 :: .ref m35 :: .int (nI mwm) :: .int (nI mwt) :: .int (nI mwf) :: .ref m39 :: .ref m40 :: .ref m41 :: .int (nI mla) :: .ref m43 :: .ref m44 :: .ref m45 :: .ref m46 :: .ref m47 :: .ref m48 :: .int (nI mtm) :: .ref m50 :: .ref m51 :: .ref m52 :: .ref m53 :: .ref m54 :: .ref m55 :: .ref m56 :: .ref m57 :: .ref m58 :: .ref m59 :: .ref m60 :: .ref m61 :: .int (nI msn) :: .int (nI mti) :: .ref m64 :: .ref m65 :: .ref m66 :: .ref m67 :: .ref m68 :: .ref m69 :: [])))), (m0, .inl (.inl (kA 1, 1600, .inl (upd (upd (upd (upd mc0 mtp ((vv >>> (24 &&& 31)) &&& 255)) (mtp + 1) ((vv >>> (16 &&& 31)) &&& 255)) ((mtp + 1) + 1) ((vv >>> (8 &&& 31)) &&& 255)) (((mtp + 1) + 1) + 1) ((vv >>> (0 &&& 31)) &&& 255)))))]) h iw_X12 tyX12 tyX12_ok nmX12 0 rfl rfl 1 (by decide +kernel) tw_1157 rfl rfl rfl (Nat.le_of_ble_eq_true rfl) dX12_four_30 rfl ?_
  refine j_iinc (v := (-8)) (lv' := [(2, .int (-8)), (0, .ref m), (1, .int vv)]) h dX12_four_33 0 rfl (by decide) (by decide) rfl ?_
  refine j_goto h 3 dX12_four_36 (by decide) ?_
  refine j_iload_n h 0 rfl rfl dX12_four_3 ?_
  refine j_if_lt h 39 dX12_four_4 (by decide) (fun _ => ?_) (fun q => absurd (by decide) q)
  exact jm_vret h hq dX12_four_39 (upd (upd (upd (upd mc0 mtp ((vv >>> (24 &&& 31)) &&& 255)) (mtp + 1) ((vv >>> (16 &&& 31)) &&& 255)) ((mtp + 1) + 1) ((vv >>> (8 &&& 31)) &&& 255)) (((mtp + 1) + 1) + 1) ((vv >>> (0 &&& 31)) &&& 255)) [0, 1] rfl (by decide) (show (upd (upd (upd (upd mc0 mtp ((vv >>> (24 &&& 31)) &&& 255)) (mtp + 1) ((vv >>> (16 &&& 31)) &&& 255)) ((mtp + 1) + 1) ((vv >>> (8 &&& 31)) &&& 255)) (((mtp + 1) + 1) + 1) ((vv >>> (0 &&& 31)) &&& 255)) = putM mc0 mtp vv from rfl) (Nat.le_of_ble_eq_true rfl) (Nat.le_of_ble_eq_true rfl)
set_option maxHeartbeats 4000000 in
set_option maxRecDepth 100000 in
theorem s_X11_feedF (lau : Launch) (gg : va_G) (kA : Nat → ClassId) (L : Nat) (a0 : Int32) (a1 : Int32) (a2 : Int32) (a3 : Int32) (a4 : Int32) (t : Nat) (rd : Nat) (s : Nat) (zz : Nat) (b : Nat) (bx : Nat) (tx : Nat) (so : Nat) (bd : Nat) (g : Nat) (gq : Nat) (v : Nat) (sk : Nat) (d : Nat) (fh : Nat) (sh : Nat) (ly : Nat) (lsz : Int32) (tod : Nat) (t0 : Nat) (tsz : Nat) (tkd : Int32) (tpl : Int32) (tbh : Int32) (twd : Int64) (tnu : Int32) (tby : Nat → Int32) (htsz : tsz ≤ 1600) (htod : tod ≤ 100000) : CtI lau yX11_feed cX11_feed 6 (some .int) 2 0 0 gg kA [.ref L, .int a0, .int a1, .int a2, .int a3, .int a4] (mflat [(L, .inl (.inr (11, [.ref t, .ref rd, .ref s, .ref zz, .ref b, .ref bx, .ref tx, .ref so, .ref bd, .ref g, .ref gq, .ref v, .ref sk, .ref d, .ref fh, .ref sh, .ref ly, .int lsz, .int (nI tod)]))), (t, .inl (.inr (9, [.ref t0, .int (nI tsz), .int tkd, .int tpl, .int tbh, .long twd, .int tnu]))), (t0, .inl (.inl (kA 0, 1600, .inl tby)))]) (S := Nat × Nat × (Nat → Int32)) (fun (r : Int32) ((y_r, y_t_1, y_t0) : Nat × Nat × (Nat → Int32)) => r = pm y_r ∧ (y_r = fedR tsz) ∧ (y_t_1 = fedS tsz) ∧ (y_t0 = fedC tby tsz a0 a1 a2 a3 a4)) (fun ((y_r, y_t_1, y_t0) : Nat × Nat × (Nat → Int32)) => mflat [(L, .inl (.inr (11, [.ref t, .ref rd, .ref s, .ref zz, .ref b, .ref bx, .ref tx, .ref so, .ref bd, .ref g, .ref gq, .ref v, .ref sk, .ref d, .ref fh, .ref sh, .ref ly, .int lsz, .int (nI tod)]))), (t, .inl (.inr (9, [.ref t0, .int (nI y_t_1), .int tkd, .int tpl, .int tbh, .long twd, .int tnu]))), (t0, .inl (.inl (kA 0, 1600, .inl y_t0)))]) := by
  refine nx_startI (by decide +kernel) (Nat.le_of_ble_eq_true rfl) ?_
  intro x hnm h hq
  have h : Ok x cX11_feed RX11 kA (rmC 2 0 0) 6 := h
  show J x (mflat [(L, .inl (.inr (11, [.ref t, .ref rd, .ref s, .ref zz, .ref b, .ref bx, .ref tx, .ref so, .ref bd, .ref g, .ref gq, .ref v, .ref sk, .ref d, .ref fh, .ref sh, .ref ly, .int lsz, .int (nI tod)]))), (t, .inl (.inr (9, [.ref t0, .int (nI tsz), .int tkd, .int tpl, .int tbh, .long twd, .int tnu]))), (t0, .inl (.inl (kA 0, 1600, .inl tby)))]) [(0, .ref L), (1, .int a0), (2, .int a1), (3, .int a2), (4, .int a3), (5, .int a4)] 0 0 0 []
  refine j_aload_n h 0 rfl rfl dX11_feed_0 ?_
  refine jm_get h iw_X11 0 rfl rfl 0 (by decide +kernel) tw_475 rfl dX11_feed_1 ?_
  refine j_bipush (v := 20) h (by decide) dX11_feed_4 ?_
  refine jm_callVi (np := 1) (isC := [1, 2]) (isR := [0]) (wc := [(t, .inl (.inr (9, [.ref t0, .int (nI tsz), .int tkd, .int tpl, .int tbh, .long twd, .int tnu]))), (t0, .inl (.inl (kA 0, 1600, .inl tby)))]) (wr := [(L, .inl (.inr (11, [.ref t, .ref rd, .ref s, .ref zz, .ref b, .ref bx, .ref tx, .ref so, .ref bd, .ref g, .ref gq, .ref v, .ref sk, .ref d, .ref fh, .ref sh, .ref ly, .int lsz, .int (nI tod)])))]) (rest := []) (As := [.int 20]) (q0 := 0) h (s_X9_hasRoomFor _ _ kA t 20 t0 tsz tkd tpl tbh twd tnu tby (show tsz ≤ 1600 by first | assumption | omega | (unfold fedR; split <;> omega) | (unfold fedS; split <;> omega)) (show 20 ≤ 1000 by first | assumption | omega | (unfold fedR; split <;> omega) | (unfold fedS; split <;> omega))) tw_537 tw_538 tw_539 tw_88 tw_540 (by decide +kernel) rfl ⟨Nat.le_of_ble_eq_true rfl, Nat.le_of_ble_eq_true rfl⟩ rfl rfl (by decide +kernel) rfl rfl (by decide +kernel) (by decide +kernel) (Nat.le_of_ble_eq_true rfl) rfl ⟨Nat.le_of_ble_eq_true rfl, Nat.le_of_ble_eq_true rfl⟩ dX11_feed_6 ?_
  rintro r710030 q710028 e710029
  obtain ⟨p710031, p710032, p710033⟩ := e710029
  subst p710031
  replace p710032 : q710028 ≤ 1 := p710032
  replace p710033 : q710028 = 1 ↔ tsz + 20 ≤ 1600 := p710033
  show J x (mflat [(L, .inl (.inr (11, [.ref t, .ref rd, .ref s, .ref zz, .ref b, .ref bx, .ref tx, .ref so, .ref bd, .ref g, .ref gq, .ref v, .ref sk, .ref d, .ref fh, .ref sh, .ref ly, .int lsz, .int (nI tod)]))), (t, .inl (.inr (9, [.ref t0, .int (nI tsz), .int tkd, .int tpl, .int tbh, .long twd, .int tnu]))), (t0, .inl (.inl (kA 0, 1600, .inl tby)))]) [(0, .ref L), (1, .int a0), (2, .int a1), (3, .int a2), (4, .int a3), (5, .int a4)] 0 0 9 [.int (nI q710028)]
  refine j_if_ne h 14 dX11_feed_9 (by decide) (fun z710034 => ?_) (fun z710034 => ?_)
  · have z710034n : ¬ q710028 = 0 := fun q9 => z710034 ((nI_eq (a := q710028) (b := 0) (by omega) (by omega)).mpr q9)
    refine j_aload_n h 0 rfl rfl dX11_feed_14 ?_
    refine jm_get h iw_X11 0 rfl rfl 0 (by decide +kernel) tw_475 rfl dX11_feed_15 ?_
    refine j_iload_n h 1 rfl rfl dX11_feed_18 ?_
    refine jm_callVv (np := 1) (isC := [1, 2]) (isR := [0]) (wc := [(t, .inl (.inr (9, [.ref t0, .int (nI tsz), .int tkd, .int tpl, .int tbh, .long twd, .int tnu]))), (t0, .inl (.inl (kA 0, 1600, .inl tby)))]) (wr := [(L, .inl (.inr (11, [.ref t, .ref rd, .ref s, .ref zz, .ref b, .ref bx, .ref tx, .ref so, .ref bd, .ref g, .ref gq, .ref v, .ref sk, .ref d, .ref fh, .ref sh, .ref ly, .int lsz, .int (nI tod)])))]) (rest := []) (As := [.int a0]) (q0 := 0) h (s_X9_putF _ _ kA t a0 t0 tsz tkd tpl tbh twd tnu tby (show tsz + 4 ≤ 1600 by first | assumption | omega | (unfold fedR; split <;> omega) | (unfold fedS; split <;> omega))) tw_541 tw_542 tw_543 tw_88 tw_544 (by decide +kernel) rfl ⟨Nat.le_of_ble_eq_true rfl, Nat.le_of_ble_eq_true rfl⟩ rfl rfl (by decide +kernel) rfl rfl (by decide +kernel) (by decide +kernel) (Nat.le_of_ble_eq_true rfl) rfl ⟨Nat.le_of_ble_eq_true rfl, Nat.le_of_ble_eq_true rfl⟩ dX11_feed_19 ?_
    rintro q710035 e710036
    have p710038 := e710036
    replace p710038 : q710035 = putC tby tsz a0 := p710038
    show J x (mflat [(L, .inl (.inr (11, [.ref t, .ref rd, .ref s, .ref zz, .ref b, .ref bx, .ref tx, .ref so, .ref bd, .ref g, .ref gq, .ref v, .ref sk, .ref d, .ref fh, .ref sh, .ref ly, .int lsz, .int (nI tod)]))), (t, .inl (.inr (9, [.ref t0, .int (nI ((((tsz + 1) + 1) + 1) + 1)), .int tkd, .int tpl, .int tbh, .long twd, .int tnu]))), (t0, .inl (.inl (kA 0, 1600, .inl q710035)))]) [(0, .ref L), (1, .int a0), (2, .int a1), (3, .int a2), (4, .int a3), (5, .int a4)] 0 0 22 []
    refine j_aload_n h 0 rfl rfl dX11_feed_22 ?_
    refine jm_get h iw_X11 0 rfl rfl 0 (by decide +kernel) tw_475 rfl dX11_feed_23 ?_
    refine j_iload_n h 2 rfl rfl dX11_feed_26 ?_
    refine jm_callVv (np := 1) (isC := [1, 2]) (isR := [0]) (wc := [(t, .inl (.inr (9, [.ref t0, .int (nI ((((tsz + 1) + 1) + 1) + 1)), .int tkd, .int tpl, .int tbh, .long twd, .int tnu]))), (t0, .inl (.inl (kA 0, 1600, .inl q710035)))]) (wr := [(L, .inl (.inr (11, [.ref t, .ref rd, .ref s, .ref zz, .ref b, .ref bx, .ref tx, .ref so, .ref bd, .ref g, .ref gq, .ref v, .ref sk, .ref d, .ref fh, .ref sh, .ref ly, .int lsz, .int (nI tod)])))]) (rest := []) (As := [.int a1]) (q0 := 0) h (s_X9_putF _ _ kA t a1 t0 ((((tsz + 1) + 1) + 1) + 1) tkd tpl tbh twd tnu q710035 (show ((((tsz + 1) + 1) + 1) + 1) + 4 ≤ 1600 by first | assumption | omega | (unfold fedR; split <;> omega) | (unfold fedS; split <;> omega))) tw_541 tw_542 tw_543 tw_88 tw_544 (by decide +kernel) rfl ⟨Nat.le_of_ble_eq_true rfl, Nat.le_of_ble_eq_true rfl⟩ rfl rfl (by decide +kernel) rfl rfl (by decide +kernel) (by decide +kernel) (Nat.le_of_ble_eq_true rfl) rfl ⟨Nat.le_of_ble_eq_true rfl, Nat.le_of_ble_eq_true rfl⟩ dX11_feed_27 ?_
    rintro q710039 e710040
    have p710042 := e710040
    replace p710042 : q710039 = putC q710035 ((((tsz + 1) + 1) + 1) + 1) a1 := p710042
    show J x (mflat [(L, .inl (.inr (11, [.ref t, .ref rd, .ref s, .ref zz, .ref b, .ref bx, .ref tx, .ref so, .ref bd, .ref g, .ref gq, .ref v, .ref sk, .ref d, .ref fh, .ref sh, .ref ly, .int lsz, .int (nI tod)]))), (t, .inl (.inr (9, [.ref t0, .int (nI ((((((((tsz + 1) + 1) + 1) + 1) + 1) + 1) + 1) + 1)), .int tkd, .int tpl, .int tbh, .long twd, .int tnu]))), (t0, .inl (.inl (kA 0, 1600, .inl q710039)))]) [(0, .ref L), (1, .int a0), (2, .int a1), (3, .int a2), (4, .int a3), (5, .int a4)] 0 0 30 []
    refine j_aload_n h 0 rfl rfl dX11_feed_30 ?_
    refine jm_get h iw_X11 0 rfl rfl 0 (by decide +kernel) tw_475 rfl dX11_feed_31 ?_
    refine j_iload_n h 3 rfl rfl dX11_feed_34 ?_
    refine jm_callVv (np := 1) (isC := [1, 2]) (isR := [0]) (wc := [(t, .inl (.inr (9, [.ref t0, .int (nI ((((((((tsz + 1) + 1) + 1) + 1) + 1) + 1) + 1) + 1)), .int tkd, .int tpl, .int tbh, .long twd, .int tnu]))), (t0, .inl (.inl (kA 0, 1600, .inl q710039)))]) (wr := [(L, .inl (.inr (11, [.ref t, .ref rd, .ref s, .ref zz, .ref b, .ref bx, .ref tx, .ref so, .ref bd, .ref g, .ref gq, .ref v, .ref sk, .ref d, .ref fh, .ref sh, .ref ly, .int lsz, .int (nI tod)])))]) (rest := []) (As := [.int a2]) (q0 := 0) h (s_X9_putF _ _ kA t a2 t0 ((((((((tsz + 1) + 1) + 1) + 1) + 1) + 1) + 1) + 1) tkd tpl tbh twd tnu q710039 (show ((((((((tsz + 1) + 1) + 1) + 1) + 1) + 1) + 1) + 1) + 4 ≤ 1600 by first | assumption | omega | (unfold fedR; split <;> omega) | (unfold fedS; split <;> omega))) tw_541 tw_542 tw_543 tw_88 tw_544 (by decide +kernel) rfl ⟨Nat.le_of_ble_eq_true rfl, Nat.le_of_ble_eq_true rfl⟩ rfl rfl (by decide +kernel) rfl rfl (by decide +kernel) (by decide +kernel) (Nat.le_of_ble_eq_true rfl) rfl ⟨Nat.le_of_ble_eq_true rfl, Nat.le_of_ble_eq_true rfl⟩ dX11_feed_35 ?_
    rintro q710043 e710044
    have p710046 := e710044
    replace p710046 : q710043 = putC q710039 ((((((((tsz + 1) + 1) + 1) + 1) + 1) + 1) + 1) + 1) a2 := p710046
    show J x (mflat [(L, .inl (.inr (11, [.ref t, .ref rd, .ref s, .ref zz, .ref b, .ref bx, .ref tx, .ref so, .ref bd, .ref g, .ref gq, .ref v, .ref sk, .ref d, .ref fh, .ref sh, .ref ly, .int lsz, .int (nI tod)]))), (t, .inl (.inr (9, [.ref t0, .int (nI ((((((((((((tsz + 1) + 1) + 1) + 1) + 1) + 1) + 1) + 1) + 1) + 1) + 1) + 1)), .int tkd, .int tpl, .int tbh, .long twd, .int tnu]))), (t0, .inl (.inl (kA 0, 1600, .inl q710043)))]) [(0, .ref L), (1, .int a0), (2, .int a1), (3, .int a2), (4, .int a3), (5, .int a4)] 0 0 38 []
    refine j_aload_n h 0 rfl rfl dX11_feed_38 ?_
    refine jm_get h iw_X11 0 rfl rfl 0 (by decide +kernel) tw_475 rfl dX11_feed_39 ?_
    refine j_iload h 4 rfl dX11_feed_42 ?_
    refine jm_callVv (np := 1) (isC := [1, 2]) (isR := [0]) (wc := [(t, .inl (.inr (9, [.ref t0, .int (nI ((((((((((((tsz + 1) + 1) + 1) + 1) + 1) + 1) + 1) + 1) + 1) + 1) + 1) + 1)), .int tkd, .int tpl, .int tbh, .long twd, .int tnu]))), (t0, .inl (.inl (kA 0, 1600, .inl q710043)))]) (wr := [(L, .inl (.inr (11, [.ref t, .ref rd, .ref s, .ref zz, .ref b, .ref bx, .ref tx, .ref so, .ref bd, .ref g, .ref gq, .ref v, .ref sk, .ref d, .ref fh, .ref sh, .ref ly, .int lsz, .int (nI tod)])))]) (rest := []) (As := [.int a3]) (q0 := 0) h (s_X9_putF _ _ kA t a3 t0 ((((((((((((tsz + 1) + 1) + 1) + 1) + 1) + 1) + 1) + 1) + 1) + 1) + 1) + 1) tkd tpl tbh twd tnu q710043 (show ((((((((((((tsz + 1) + 1) + 1) + 1) + 1) + 1) + 1) + 1) + 1) + 1) + 1) + 1) + 4 ≤ 1600 by first | assumption | omega | (unfold fedR; split <;> omega) | (unfold fedS; split <;> omega))) tw_541 tw_542 tw_543 tw_88 tw_544 (by decide +kernel) rfl ⟨Nat.le_of_ble_eq_true rfl, Nat.le_of_ble_eq_true rfl⟩ rfl rfl (by decide +kernel) rfl rfl (by decide +kernel) (by decide +kernel) (Nat.le_of_ble_eq_true rfl) rfl ⟨Nat.le_of_ble_eq_true rfl, Nat.le_of_ble_eq_true rfl⟩ dX11_feed_44 ?_
    rintro q710047 e710048
    have p710050 := e710048
    replace p710050 : q710047 = putC q710043 ((((((((((((tsz + 1) + 1) + 1) + 1) + 1) + 1) + 1) + 1) + 1) + 1) + 1) + 1) a3 := p710050
    show J x (mflat [(L, .inl (.inr (11, [.ref t, .ref rd, .ref s, .ref zz, .ref b, .ref bx, .ref tx, .ref so, .ref bd, .ref g, .ref gq, .ref v, .ref sk, .ref d, .ref fh, .ref sh, .ref ly, .int lsz, .int (nI tod)]))), (t, .inl (.inr (9, [.ref t0, .int (nI ((((((((((((((((tsz + 1) + 1) + 1) + 1) + 1) + 1) + 1) + 1) + 1) + 1) + 1) + 1) + 1) + 1) + 1) + 1)), .int tkd, .int tpl, .int tbh, .long twd, .int tnu]))), (t0, .inl (.inl (kA 0, 1600, .inl q710047)))]) [(0, .ref L), (1, .int a0), (2, .int a1), (3, .int a2), (4, .int a3), (5, .int a4)] 0 0 47 []
    refine j_aload_n h 0 rfl rfl dX11_feed_47 ?_
    refine jm_get h iw_X11 0 rfl rfl 0 (by decide +kernel) tw_475 rfl dX11_feed_48 ?_
    refine j_iload h 5 rfl dX11_feed_51 ?_
    refine jm_callVv (np := 1) (isC := [1, 2]) (isR := [0]) (wc := [(t, .inl (.inr (9, [.ref t0, .int (nI ((((((((((((((((tsz + 1) + 1) + 1) + 1) + 1) + 1) + 1) + 1) + 1) + 1) + 1) + 1) + 1) + 1) + 1) + 1)), .int tkd, .int tpl, .int tbh, .long twd, .int tnu]))), (t0, .inl (.inl (kA 0, 1600, .inl q710047)))]) (wr := [(L, .inl (.inr (11, [.ref t, .ref rd, .ref s, .ref zz, .ref b, .ref bx, .ref tx, .ref so, .ref bd, .ref g, .ref gq, .ref v, .ref sk, .ref d, .ref fh, .ref sh, .ref ly, .int lsz, .int (nI tod)])))]) (rest := []) (As := [.int a4]) (q0 := 0) h (s_X9_putF _ _ kA t a4 t0 ((((((((((((((((tsz + 1) + 1) + 1) + 1) + 1) + 1) + 1) + 1) + 1) + 1) + 1) + 1) + 1) + 1) + 1) + 1) tkd tpl tbh twd tnu q710047 (show ((((((((((((((((tsz + 1) + 1) + 1) + 1) + 1) + 1) + 1) + 1) + 1) + 1) + 1) + 1) + 1) + 1) + 1) + 1) + 4 ≤ 1600 by first | assumption | omega | (unfold fedR; split <;> omega) | (unfold fedS; split <;> omega))) tw_541 tw_542 tw_543 tw_88 tw_544 (by decide +kernel) rfl ⟨Nat.le_of_ble_eq_true rfl, Nat.le_of_ble_eq_true rfl⟩ rfl rfl (by decide +kernel) rfl rfl (by decide +kernel) (by decide +kernel) (Nat.le_of_ble_eq_true rfl) rfl ⟨Nat.le_of_ble_eq_true rfl, Nat.le_of_ble_eq_true rfl⟩ dX11_feed_53 ?_
    rintro q710051 e710052
    have p710054 := e710052
    replace p710054 : q710051 = putC q710047 ((((((((((((((((tsz + 1) + 1) + 1) + 1) + 1) + 1) + 1) + 1) + 1) + 1) + 1) + 1) + 1) + 1) + 1) + 1) a4 := p710054
    show J x (mflat [(L, .inl (.inr (11, [.ref t, .ref rd, .ref s, .ref zz, .ref b, .ref bx, .ref tx, .ref so, .ref bd, .ref g, .ref gq, .ref v, .ref sk, .ref d, .ref fh, .ref sh, .ref ly, .int lsz, .int (nI tod)]))), (t, .inl (.inr (9, [.ref t0, .int (nI ((((((((((((((((((((tsz + 1) + 1) + 1) + 1) + 1) + 1) + 1) + 1) + 1) + 1) + 1) + 1) + 1) + 1) + 1) + 1) + 1) + 1) + 1) + 1)), .int tkd, .int tpl, .int tbh, .long twd, .int tnu]))), (t0, .inl (.inl (kA 0, 1600, .inl q710051)))]) [(0, .ref L), (1, .int a0), (2, .int a1), (3, .int a2), (4, .int a3), (5, .int a4)] 0 0 56 []
    refine j_aload_n h 0 rfl rfl dX11_feed_56 ?_
    refine jm_get h iw_X11 0 rfl rfl 0 (by decide +kernel) tw_475 rfl dX11_feed_57 ?_
    refine jm_get h iw_X9 1 rfl rfl 1 (by decide +kernel) tw_123 rfl dX11_feed_60 ?_
    exact jm_iret h hq dX11_feed_63 ((((((((((((((((((((((tsz + 1) + 1) + 1) + 1) + 1) + 1) + 1) + 1) + 1) + 1) + 1) + 1) + 1) + 1) + 1) + 1) + 1) + 1) + 1) + 1) + 1), ((((((((((((((((((((tsz + 1) + 1) + 1) + 1) + 1) + 1) + 1) + 1) + 1) + 1) + 1) + 1) + 1) + 1) + 1) + 1) + 1) + 1) + 1) + 1), q710051) [0, 1, 2] rfl (by decide) ⟨rfl, (show (((((((((((((((((((((tsz + 1) + 1) + 1) + 1) + 1) + 1) + 1) + 1) + 1) + 1) + 1) + 1) + 1) + 1) + 1) + 1) + 1) + 1) + 1) + 1) + 1) = fedR tsz by first | assumption | omega | (unfold fedR; split <;> omega) | (unfold fedS; split <;> omega)), (show ((((((((((((((((((((tsz + 1) + 1) + 1) + 1) + 1) + 1) + 1) + 1) + 1) + 1) + 1) + 1) + 1) + 1) + 1) + 1) + 1) + 1) + 1) + 1) = fedS tsz by first | assumption | omega | (unfold fedR; split <;> omega) | (unfold fedS; split <;> omega)), (show q710051 = fedC tby tsz a0 a1 a2 a3 a4 from (by rw [p710054, p710050, p710046, p710042, p710038]; exact (if_pos (by omega)).symm))⟩ (Nat.le_of_ble_eq_true rfl) (Nat.le_of_ble_eq_true rfl)
  · have z710034n : q710028 = 0 := (nI_eq (a := q710028) (b := 0) (by omega) (by omega)).mp z710034
    refine j_iconst (v := (-1)) h (by decide) dX11_feed_12 ?_
    exact jm_iret h hq dX11_feed_13 (0, tsz, tby) [0, 1, 2] rfl (by decide) ⟨rfl, (show 0 = fedR tsz by first | assumption | omega | (unfold fedR; split <;> omega) | (unfold fedS; split <;> omega)), (show tsz = fedS tsz by first | assumption | omega | (unfold fedR; split <;> omega) | (unfold fedS; split <;> omega)), (show tby = fedC tby tsz a0 a1 a2 a3 a4 from (if_neg (by omega)).symm)⟩ (Nat.le_of_ble_eq_true rfl) (Nat.le_of_ble_eq_true rfl)
set_option maxHeartbeats 4000000 in
set_option maxRecDepth 100000 in
theorem s_X12_feedF (lau : Launch) (gg : va_G) (kA : Nat → ClassId) (m : Nat) (a0 : Int32) (a1 : Int32) (a2 : Int32) (a3 : Int32) (a4 : Int32) (m0 : Nat) (mtp : Nat) (mfa : Nat) (mfp : Int32) (mat : Nat) (msz : Nat) (mso : Nat) (mpl : Int32) (mnu : Int32) (mwd : Int64) (m10 : Nat) (m11 : Nat) (m12 : Nat) (m13 : Nat) (m14 : Nat) (m15 : Nat) (m16 : Nat) (m17 : Nat) (m18 : Nat) (m19 : Nat) (m20 : Nat) (m21 : Nat) (m22 : Nat) (m23 : Nat) (m24 : Nat) (mns : Nat) (mnl : Nat) (mne : Nat) (mst : Nat) (mlt : Nat) (mer : Nat) (m31 : Nat) (m32 : Nat) (m33 : Nat) (m34 : Nat) (m35 : Nat) (mwm : Nat) (mwt : Nat) (mwf : Nat) (m39 : Nat) (m40 : Nat) (m41 : Nat) (mla : Nat) (m43 : Nat) (m44 : Nat) (m45 : Nat) (m46 : Nat) (m47 : Nat) (m48 : Nat) (mtm : Nat) (m50 : Nat) (m51 : Nat) (m52 : Nat) (m53 : Nat) (m54 : Nat) (m55 : Nat) (m56 : Nat) (m57 : Nat) (m58 : Nat) (m59 : Nat) (m60 : Nat) (m61 : Nat) (msn : Nat) (mti : Nat) (m64 : Nat) (m65 : Nat) (m66 : Nat) (m67 : Nat) (m68 : Nat) (m69 : Nat) (mc0 : Nat → Int32) (hmtp : mtp ≤ 1600) : CtI lau yX12_feed cX12_feed 6 (some .int) 2 0 0 gg kA [.ref m, .int a0, .int a1, .int a2, .int a3, .int a4] (mflat [(m, .inl (.inr (12, (.ref m0 :: .int (nI mtp) :: .int (nI mfa) :: .int mfp :: .int (nI mat) :: .int (nI msz) :: .int (nI mso) :: .int mpl :: .int mnu :: .long mwd :: .ref m10 :: .ref m11 :: .ref m12 :: .ref m13 :: .ref m14 :: .ref m15 :: .ref m16 :: .ref m17 :: .ref m18 :: .ref m19 :: .ref m20 :: .ref m21 :: .ref m22 :: .ref m23 :: .ref m24 :: .int (nI mns) :: .int (nI mnl) :: .int (nI mne) :: .int (nI mst) :: .int (nI mlt) :: .int (nI mer) :: .ref m31 :: .ref m32 :: .ref m33 :: .ref m34 :: .ref m35 :: .int (nI mwm) :: .int (nI mwt) :: .int (nI mwf) :: .ref m39 :: .ref m40 :: .ref m41 :: .int (nI mla) :: .ref m43 :: .ref m44 :: .ref m45 :: .ref m46 :: .ref m47 :: .ref m48 :: .int (nI mtm) :: .ref m50 :: .ref m51 :: .ref m52 :: .ref m53 :: .ref m54 :: .ref m55 :: .ref m56 :: .ref m57 :: .ref m58 :: .ref m59 :: .ref m60 :: .ref m61 :: .int (nI msn) :: .int (nI mti) :: .ref m64 :: .ref m65 :: .ref m66 :: .ref m67 :: .ref m68 :: .ref m69 :: [])))), (m0, .inl (.inl (kA 1, 1600, .inl mc0)))]) (S := Nat × Nat × (Nat → Int32)) (fun (r : Int32) ((y_r, y_m_1, y_m0) : Nat × Nat × (Nat → Int32)) => r = pm y_r ∧ (y_r = fedR mtp) ∧ (y_m_1 = fedS mtp) ∧ (y_m0 = fedM mc0 mtp a0 a1 a2 a3 a4)) (fun ((y_r, y_m_1, y_m0) : Nat × Nat × (Nat → Int32)) => mflat [(m, .inl (.inr (12, (.ref m0 :: .int (nI y_m_1) :: .int (nI mfa) :: .int mfp :: .int (nI mat) :: .int (nI msz) :: .int (nI mso) :: .int mpl :: .int mnu :: .long mwd :: .ref m10 :: .ref m11 :: .ref m12 :: .ref m13 :: .ref m14 :: .ref m15 :: .ref m16 :: .ref m17 :: .ref m18 :: .ref m19 :: .ref m20 :: .ref m21 :: .ref m22 :: .ref m23 :: .ref m24 :: .int (nI mns) :: .int (nI mnl) :: .int (nI mne) :: .int (nI mst) :: .int (nI mlt) :: .int (nI mer) :: .ref m31 :: .ref m32 :: .ref m33 :: .ref m34 :: .ref m35 :: .int (nI mwm) :: .int (nI mwt) :: .int (nI mwf) :: .ref m39 :: .ref m40 :: .ref m41 :: .int (nI mla) :: .ref m43 :: .ref m44 :: .ref m45 :: .ref m46 :: .ref m47 :: .ref m48 :: .int (nI mtm) :: .ref m50 :: .ref m51 :: .ref m52 :: .ref m53 :: .ref m54 :: .ref m55 :: .ref m56 :: .ref m57 :: .ref m58 :: .ref m59 :: .ref m60 :: .ref m61 :: .int (nI msn) :: .int (nI mti) :: .ref m64 :: .ref m65 :: .ref m66 :: .ref m67 :: .ref m68 :: .ref m69 :: [])))), (m0, .inl (.inl (kA 1, 1600, .inl y_m0)))]) := by
  refine nx_startI (by decide +kernel) (Nat.le_of_ble_eq_true rfl) ?_
  intro x hnm h hq
  have h : Ok x cX12_feed RX12 kA (rmC 2 0 0) 6 := h
  show J x (mflat [(m, .inl (.inr (12, (.ref m0 :: .int (nI mtp) :: .int (nI mfa) :: .int mfp :: .int (nI mat) :: .int (nI msz) :: .int (nI mso) :: .int mpl :: .int mnu :: .long mwd :: .ref m10 :: .ref m11 :: .ref m12 :: .ref m13 :: .ref m14 :: .ref m15 :: .ref m16 :: .ref m17 :: .ref m18 :: .ref m19 :: .ref m20 :: .ref m21 :: .ref m22 :: .ref m23 :: .ref m24 :: .int (nI mns) :: .int (nI mnl) :: .int (nI mne) :: .int (nI mst) :: .int (nI mlt) :: .int (nI mer) :: .ref m31 :: .ref m32 :: .ref m33 :: .ref m34 :: .ref m35 :: .int (nI mwm) :: .int (nI mwt) :: .int (nI mwf) :: .ref m39 :: .ref m40 :: .ref m41 :: .int (nI mla) :: .ref m43 :: .ref m44 :: .ref m45 :: .ref m46 :: .ref m47 :: .ref m48 :: .int (nI mtm) :: .ref m50 :: .ref m51 :: .ref m52 :: .ref m53 :: .ref m54 :: .ref m55 :: .ref m56 :: .ref m57 :: .ref m58 :: .ref m59 :: .ref m60 :: .ref m61 :: .int (nI msn) :: .int (nI mti) :: .ref m64 :: .ref m65 :: .ref m66 :: .ref m67 :: .ref m68 :: .ref m69 :: [])))), (m0, .inl (.inl (kA 1, 1600, .inl mc0)))]) [(0, .ref m), (1, .int a0), (2, .int a1), (3, .int a2), (4, .int a3), (5, .int a4)] 0 0 0 []
  refine j_aload_n h 0 rfl rfl dX12_feed_0 ?_
  refine jm_get h iw_X12 0 rfl rfl 1 (by decide +kernel) tw_1157 rfl dX12_feed_1 ?_
  refine j_bipush (v := 20) h (by decide) dX12_feed_4 ?_
  refine j_iadd h dX12_feed_6 ?_
  refine j_top (b := nI (mtp + 20)) (nI_add mtp 20) ?_
  refine j_sipush (v := 1600) h (by decide) dX12_feed_7 ?_
  refine j_icmp_le h 15 dX12_feed_10 (by decide) (fun z710076 => ?_) (fun z710076 => ?_)
  · have z710076n : (mtp + 20) ≤ 1600 := (nI_leI (a := (mtp + 20)) (b := 1600) (by omega) (by omega)).mp z710076
    refine j_aload_n h 0 rfl rfl dX12_feed_15 ?_
    refine j_iload_n h 1 rfl rfl dX12_feed_16 ?_
    refine jm_callVv (np := 1) (isC := [0, 1]) (isR := []) (wc := [(m, .inl (.inr (12, (.ref m0 :: .int (nI mtp) :: .int (nI mfa) :: .int mfp :: .int (nI mat) :: .int (nI msz) :: .int (nI mso) :: .int mpl :: .int mnu :: .long mwd :: .ref m10 :: .ref m11 :: .ref m12 :: .ref m13 :: .ref m14 :: .ref m15 :: .ref m16 :: .ref m17 :: .ref m18 :: .ref m19 :: .ref m20 :: .ref m21 :: .ref m22 :: .ref m23 :: .ref m24 :: .int (nI mns) :: .int (nI mnl) :: .int (nI mne) :: .int (nI mst) :: .int (nI mlt) :: .int (nI mer) :: .ref m31 :: .ref m32 :: .ref m33 :: .ref m34 :: .ref m35 :: .int (nI mwm) :: .int (nI mwt) :: .int (nI mwf) :: .ref m39 :: .ref m40 :: .ref m41 :: .int (nI mla) :: .ref m43 :: .ref m44 :: .ref m45 :: .ref m46 :: .ref m47 :: .ref m48 :: .int (nI mtm) :: .ref m50 :: .ref m51 :: .ref m52 :: .ref m53 :: .ref m54 :: .ref m55 :: .ref m56 :: .ref m57 :: .ref m58 :: .ref m59 :: .ref m60 :: .ref m61 :: .int (nI msn) :: .int (nI mti) :: .ref m64 :: .ref m65 :: .ref m66 :: .ref m67 :: .ref m68 :: .ref m69 :: [])))), (m0, .inl (.inl (kA 1, 1600, .inl mc0)))]) (wr := []) (rest := []) (As := [.int a0]) (q0 := 0) h (s_X12_fourF _ _ kA m a0 m0 mtp mfa mfp mat msz mso mpl mnu mwd m10 m11 m12 m13 m14 m15 m16 m17 m18 m19 m20 m21 m22 m23 m24 mns mnl mne mst mlt mer m31 m32 m33 m34 m35 mwm mwt mwf m39 m40 m41 mla m43 m44 m45 m46 m47 m48 mtm m50 m51 m52 m53 m54 m55 m56 m57 m58 m59 m60 m61 msn mti m64 m65 m66 m67 m68 m69 mc0 (show mtp + 4 ≤ 1600 by first | assumption | omega | (unfold fedR; split <;> omega) | (unfold fedS; split <;> omega))) tw_1371 tw_1373 tw_39 tw_99 tw_1374 (by decide +kernel) rfl ⟨Nat.le_of_ble_eq_true rfl, Nat.le_of_ble_eq_true rfl⟩ rfl rfl (by decide +kernel) rfl rfl (by decide +kernel) (by decide +kernel) (Nat.le_of_ble_eq_true rfl) rfl ⟨Nat.le_of_ble_eq_true rfl, Nat.le_of_ble_eq_true rfl⟩ dX12_feed_17 ?_
    rintro q710077 e710078
    have p710080 := e710078
    replace p710080 : q710077 = putM mc0 mtp a0 := p710080
    show J x (mflat [(m, .inl (.inr (12, (.ref m0 :: .int (nI ((((mtp + 1) + 1) + 1) + 1)) :: .int (nI mfa) :: .int mfp :: .int (nI mat) :: .int (nI msz) :: .int (nI mso) :: .int mpl :: .int mnu :: .long mwd :: .ref m10 :: .ref m11 :: .ref m12 :: .ref m13 :: .ref m14 :: .ref m15 :: .ref m16 :: .ref m17 :: .ref m18 :: .ref m19 :: .ref m20 :: .ref m21 :: .ref m22 :: .ref m23 :: .ref m24 :: .int (nI mns) :: .int (nI mnl) :: .int (nI mne) :: .int (nI mst) :: .int (nI mlt) :: .int (nI mer) :: .ref m31 :: .ref m32 :: .ref m33 :: .ref m34 :: .ref m35 :: .int (nI mwm) :: .int (nI mwt) :: .int (nI mwf) :: .ref m39 :: .ref m40 :: .ref m41 :: .int (nI mla) :: .ref m43 :: .ref m44 :: .ref m45 :: .ref m46 :: .ref m47 :: .ref m48 :: .int (nI mtm) :: .ref m50 :: .ref m51 :: .ref m52 :: .ref m53 :: .ref m54 :: .ref m55 :: .ref m56 :: .ref m57 :: .ref m58 :: .ref m59 :: .ref m60 :: .ref m61 :: .int (nI msn) :: .int (nI mti) :: .ref m64 :: .ref m65 :: .ref m66 :: .ref m67 :: .ref m68 :: .ref m69 :: [])))), (m0, .inl (.inl (kA 1, 1600, .inl q710077)))]) [(0, .ref m), (1, .int a0), (2, .int a1), (3, .int a2), (4, .int a3), (5, .int a4)] 0 0 20 []
    refine j_aload_n h 0 rfl rfl dX12_feed_20 ?_
    refine j_iload_n h 2 rfl rfl dX12_feed_21 ?_
    refine jm_callVv (np := 1) (isC := [0, 1]) (isR := []) (wc := [(m, .inl (.inr (12, (.ref m0 :: .int (nI ((((mtp + 1) + 1) + 1) + 1)) :: .int (nI mfa) :: .int mfp :: .int (nI mat) :: .int (nI msz) :: .int (nI mso) :: .int mpl :: .int mnu :: .long mwd :: .ref m10 :: .ref m11 :: .ref m12 :: .ref m13 :: .ref m14 :: .ref m15 :: .ref m16 :: .ref m17 :: .ref m18 :: .ref m19 :: .ref m20 :: .ref m21 :: .ref m22 :: .ref m23 :: .ref m24 :: .int (nI mns) :: .int (nI mnl) :: .int (nI mne) :: .int (nI mst) :: .int (nI mlt) :: .int (nI mer) :: .ref m31 :: .ref m32 :: .ref m33 :: .ref m34 :: .ref m35 :: .int (nI mwm) :: .int (nI mwt) :: .int (nI mwf) :: .ref m39 :: .ref m40 :: .ref m41 :: .int (nI mla) :: .ref m43 :: .ref m44 :: .ref m45 :: .ref m46 :: .ref m47 :: .ref m48 :: .int (nI mtm) :: .ref m50 :: .ref m51 :: .ref m52 :: .ref m53 :: .ref m54 :: .ref m55 :: .ref m56 :: .ref m57 :: .ref m58 :: .ref m59 :: .ref m60 :: .ref m61 :: .int (nI msn) :: .int (nI mti) :: .ref m64 :: .ref m65 :: .ref m66 :: .ref m67 :: .ref m68 :: .ref m69 :: [])))), (m0, .inl (.inl (kA 1, 1600, .inl q710077)))]) (wr := []) (rest := []) (As := [.int a1]) (q0 := 0) h (s_X12_fourF _ _ kA m a1 m0 ((((mtp + 1) + 1) + 1) + 1) mfa mfp mat msz mso mpl mnu mwd m10 m11 m12 m13 m14 m15 m16 m17 m18 m19 m20 m21 m22 m23 m24 mns mnl mne mst mlt mer m31 m32 m33 m34 m35 mwm mwt mwf m39 m40 m41 mla m43 m44 m45 m46 m47 m48 mtm m50 m51 m52 m53 m54 m55 m56 m57 m58 m59 m60 m61 msn mti m64 m65 m66 m67 m68 m69 q710077 (show ((((mtp + 1) + 1) + 1) + 1) + 4 ≤ 1600 by first | assumption | omega | (unfold fedR; split <;> omega) | (unfold fedS; split <;> omega))) tw_1371 tw_1373 tw_39 tw_99 tw_1374 (by decide +kernel) rfl ⟨Nat.le_of_ble_eq_true rfl, Nat.le_of_ble_eq_true rfl⟩ rfl rfl (by decide +kernel) rfl rfl (by decide +kernel) (by decide +kernel) (Nat.le_of_ble_eq_true rfl) rfl ⟨Nat.le_of_ble_eq_true rfl, Nat.le_of_ble_eq_true rfl⟩ dX12_feed_22 ?_
    rintro q710081 e710082
    have p710084 := e710082
    replace p710084 : q710081 = putM q710077 ((((mtp + 1) + 1) + 1) + 1) a1 := p710084
    show J x (mflat [(m, .inl (.inr (12, (.ref m0 :: .int (nI ((((((((mtp + 1) + 1) + 1) + 1) + 1) + 1) + 1) + 1)) :: .int (nI mfa) :: .int mfp :: .int (nI mat) :: .int (nI msz) :: .int (nI mso) :: .int mpl :: .int mnu :: .long mwd :: .ref m10 :: .ref m11 :: .ref m12 :: .ref m13 :: .ref m14 :: .ref m15 :: .ref m16 :: .ref m17 :: .ref m18 :: .ref m19 :: .ref m20 :: .ref m21 :: .ref m22 :: .ref m23 :: .ref m24 :: .int (nI mns) :: .int (nI mnl) :: .int (nI mne) :: .int (nI mst) :: .int (nI mlt) :: .int (nI mer) :: .ref m31 :: .ref m32 :: .ref m33 :: .ref m34 :: .ref m35 :: .int (nI mwm) :: .int (nI mwt) :: .int (nI mwf) :: .ref m39 :: .ref m40 :: .ref m41 :: .int (nI mla) :: .ref m43 :: .ref m44 :: .ref m45 :: .ref m46 :: .ref m47 :: .ref m48 :: .int (nI mtm) :: .ref m50 :: .ref m51 :: .ref m52 :: .ref m53 :: .ref m54 :: .ref m55 :: .ref m56 :: .ref m57 :: .ref m58 :: .ref m59 :: .ref m60 :: .ref m61 :: .int (nI msn) :: .int (nI mti) :: .ref m64 :: .ref m65 :: .ref m66 :: .ref m67 :: .ref m68 :: .ref m69 :: [])))), (m0, .inl (.inl (kA 1, 1600, .inl q710081)))]) [(0, .ref m), (1, .int a0), (2, .int a1), (3, .int a2), (4, .int a3), (5, .int a4)] 0 0 25 []
    refine j_aload_n h 0 rfl rfl dX12_feed_25 ?_
    refine j_iload_n h 3 rfl rfl dX12_feed_26 ?_
    refine jm_callVv (np := 1) (isC := [0, 1]) (isR := []) (wc := [(m, .inl (.inr (12, (.ref m0 :: .int (nI ((((((((mtp + 1) + 1) + 1) + 1) + 1) + 1) + 1) + 1)) :: .int (nI mfa) :: .int mfp :: .int (nI mat) :: .int (nI msz) :: .int (nI mso) :: .int mpl :: .int mnu :: .long mwd :: .ref m10 :: .ref m11 :: .ref m12 :: .ref m13 :: .ref m14 :: .ref m15 :: .ref m16 :: .ref m17 :: .ref m18 :: .ref m19 :: .ref m20 :: .ref m21 :: .ref m22 :: .ref m23 :: .ref m24 :: .int (nI mns) :: .int (nI mnl) :: .int (nI mne) :: .int (nI mst) :: .int (nI mlt) :: .int (nI mer) :: .ref m31 :: .ref m32 :: .ref m33 :: .ref m34 :: .ref m35 :: .int (nI mwm) :: .int (nI mwt) :: .int (nI mwf) :: .ref m39 :: .ref m40 :: .ref m41 :: .int (nI mla) :: .ref m43 :: .ref m44 :: .ref m45 :: .ref m46 :: .ref m47 :: .ref m48 :: .int (nI mtm) :: .ref m50 :: .ref m51 :: .ref m52 :: .ref m53 :: .ref m54 :: .ref m55 :: .ref m56 :: .ref m57 :: .ref m58 :: .ref m59 :: .ref m60 :: .ref m61 :: .int (nI msn) :: .int (nI mti) :: .ref m64 :: .ref m65 :: .ref m66 :: .ref m67 :: .ref m68 :: .ref m69 :: [])))), (m0, .inl (.inl (kA 1, 1600, .inl q710081)))]) (wr := []) (rest := []) (As := [.int a2]) (q0 := 0) h (s_X12_fourF _ _ kA m a2 m0 ((((((((mtp + 1) + 1) + 1) + 1) + 1) + 1) + 1) + 1) mfa mfp mat msz mso mpl mnu mwd m10 m11 m12 m13 m14 m15 m16 m17 m18 m19 m20 m21 m22 m23 m24 mns mnl mne mst mlt mer m31 m32 m33 m34 m35 mwm mwt mwf m39 m40 m41 mla m43 m44 m45 m46 m47 m48 mtm m50 m51 m52 m53 m54 m55 m56 m57 m58 m59 m60 m61 msn mti m64 m65 m66 m67 m68 m69 q710081 (show ((((((((mtp + 1) + 1) + 1) + 1) + 1) + 1) + 1) + 1) + 4 ≤ 1600 by first | assumption | omega | (unfold fedR; split <;> omega) | (unfold fedS; split <;> omega))) tw_1371 tw_1373 tw_39 tw_99 tw_1374 (by decide +kernel) rfl ⟨Nat.le_of_ble_eq_true rfl, Nat.le_of_ble_eq_true rfl⟩ rfl rfl (by decide +kernel) rfl rfl (by decide +kernel) (by decide +kernel) (Nat.le_of_ble_eq_true rfl) rfl ⟨Nat.le_of_ble_eq_true rfl, Nat.le_of_ble_eq_true rfl⟩ dX12_feed_27 ?_
    rintro q710085 e710086
    have p710088 := e710086
    replace p710088 : q710085 = putM q710081 ((((((((mtp + 1) + 1) + 1) + 1) + 1) + 1) + 1) + 1) a2 := p710088
    show J x (mflat [(m, .inl (.inr (12, (.ref m0 :: .int (nI ((((((((((((mtp + 1) + 1) + 1) + 1) + 1) + 1) + 1) + 1) + 1) + 1) + 1) + 1)) :: .int (nI mfa) :: .int mfp :: .int (nI mat) :: .int (nI msz) :: .int (nI mso) :: .int mpl :: .int mnu :: .long mwd :: .ref m10 :: .ref m11 :: .ref m12 :: .ref m13 :: .ref m14 :: .ref m15 :: .ref m16 :: .ref m17 :: .ref m18 :: .ref m19 :: .ref m20 :: .ref m21 :: .ref m22 :: .ref m23 :: .ref m24 :: .int (nI mns) :: .int (nI mnl) :: .int (nI mne) :: .int (nI mst) :: .int (nI mlt) :: .int (nI mer) :: .ref m31 :: .ref m32 :: .ref m33 :: .ref m34 :: .ref m35 :: .int (nI mwm) :: .int (nI mwt) :: .int (nI mwf) :: .ref m39 :: .ref m40 :: .ref m41 :: .int (nI mla) :: .ref m43 :: .ref m44 :: .ref m45 :: .ref m46 :: .ref m47 :: .ref m48 :: .int (nI mtm) :: .ref m50 :: .ref m51 :: .ref m52 :: .ref m53 :: .ref m54 :: .ref m55 :: .ref m56 :: .ref m57 :: .ref m58 :: .ref m59 :: .ref m60 :: .ref m61 :: .int (nI msn) :: .int (nI mti) :: .ref m64 :: .ref m65 :: .ref m66 :: .ref m67 :: .ref m68 :: .ref m69 :: [])))), (m0, .inl (.inl (kA 1, 1600, .inl q710085)))]) [(0, .ref m), (1, .int a0), (2, .int a1), (3, .int a2), (4, .int a3), (5, .int a4)] 0 0 30 []
    refine j_aload_n h 0 rfl rfl dX12_feed_30 ?_
    refine j_iload h 4 rfl dX12_feed_31 ?_
    refine jm_callVv (np := 1) (isC := [0, 1]) (isR := []) (wc := [(m, .inl (.inr (12, (.ref m0 :: .int (nI ((((((((((((mtp + 1) + 1) + 1) + 1) + 1) + 1) + 1) + 1) + 1) + 1) + 1) + 1)) :: .int (nI mfa) :: .int mfp :: .int (nI mat) :: .int (nI msz) :: .int (nI mso) :: .int mpl :: .int mnu :: .long mwd :: .ref m10 :: .ref m11 :: .ref m12 :: .ref m13 :: .ref m14 :: .ref m15 :: .ref m16 :: .ref m17 :: .ref m18 :: .ref m19 :: .ref m20 :: .ref m21 :: .ref m22 :: .ref m23 :: .ref m24 :: .int (nI mns) :: .int (nI mnl) :: .int (nI mne) :: .int (nI mst) :: .int (nI mlt) :: .int (nI mer) :: .ref m31 :: .ref m32 :: .ref m33 :: .ref m34 :: .ref m35 :: .int (nI mwm) :: .int (nI mwt) :: .int (nI mwf) :: .ref m39 :: .ref m40 :: .ref m41 :: .int (nI mla) :: .ref m43 :: .ref m44 :: .ref m45 :: .ref m46 :: .ref m47 :: .ref m48 :: .int (nI mtm) :: .ref m50 :: .ref m51 :: .ref m52 :: .ref m53 :: .ref m54 :: .ref m55 :: .ref m56 :: .ref m57 :: .ref m58 :: .ref m59 :: .ref m60 :: .ref m61 :: .int (nI msn) :: .int (nI mti) :: .ref m64 :: .ref m65 :: .ref m66 :: .ref m67 :: .ref m68 :: .ref m69 :: [])))), (m0, .inl (.inl (kA 1, 1600, .inl q710085)))]) (wr := []) (rest := []) (As := [.int a3]) (q0 := 0) h (s_X12_fourF _ _ kA m a3 m0 ((((((((((((mtp + 1) + 1) + 1) + 1) + 1) + 1) + 1) + 1) + 1) + 1) + 1) + 1) mfa mfp mat msz mso mpl mnu mwd m10 m11 m12 m13 m14 m15 m16 m17 m18 m19 m20 m21 m22 m23 m24 mns mnl mne mst mlt mer m31 m32 m33 m34 m35 mwm mwt mwf m39 m40 m41 mla m43 m44 m45 m46 m47 m48 mtm m50 m51 m52 m53 m54 m55 m56 m57 m58 m59 m60 m61 msn mti m64 m65 m66 m67 m68 m69 q710085 (show ((((((((((((mtp + 1) + 1) + 1) + 1) + 1) + 1) + 1) + 1) + 1) + 1) + 1) + 1) + 4 ≤ 1600 by first | assumption | omega | (unfold fedR; split <;> omega) | (unfold fedS; split <;> omega))) tw_1371 tw_1373 tw_39 tw_99 tw_1374 (by decide +kernel) rfl ⟨Nat.le_of_ble_eq_true rfl, Nat.le_of_ble_eq_true rfl⟩ rfl rfl (by decide +kernel) rfl rfl (by decide +kernel) (by decide +kernel) (Nat.le_of_ble_eq_true rfl) rfl ⟨Nat.le_of_ble_eq_true rfl, Nat.le_of_ble_eq_true rfl⟩ dX12_feed_33 ?_
    rintro q710089 e710090
    have p710092 := e710090
    replace p710092 : q710089 = putM q710085 ((((((((((((mtp + 1) + 1) + 1) + 1) + 1) + 1) + 1) + 1) + 1) + 1) + 1) + 1) a3 := p710092
    show J x (mflat [(m, .inl (.inr (12, (.ref m0 :: .int (nI ((((((((((((((((mtp + 1) + 1) + 1) + 1) + 1) + 1) + 1) + 1) + 1) + 1) + 1) + 1) + 1) + 1) + 1) + 1)) :: .int (nI mfa) :: .int mfp :: .int (nI mat) :: .int (nI msz) :: .int (nI mso) :: .int mpl :: .int mnu :: .long mwd :: .ref m10 :: .ref m11 :: .ref m12 :: .ref m13 :: .ref m14 :: .ref m15 :: .ref m16 :: .ref m17 :: .ref m18 :: .ref m19 :: .ref m20 :: .ref m21 :: .ref m22 :: .ref m23 :: .ref m24 :: .int (nI mns) :: .int (nI mnl) :: .int (nI mne) :: .int (nI mst) :: .int (nI mlt) :: .int (nI mer) :: .ref m31 :: .ref m32 :: .ref m33 :: .ref m34 :: .ref m35 :: .int (nI mwm) :: .int (nI mwt) :: .int (nI mwf) :: .ref m39 :: .ref m40 :: .ref m41 :: .int (nI mla) :: .ref m43 :: .ref m44 :: .ref m45 :: .ref m46 :: .ref m47 :: .ref m48 :: .int (nI mtm) :: .ref m50 :: .ref m51 :: .ref m52 :: .ref m53 :: .ref m54 :: .ref m55 :: .ref m56 :: .ref m57 :: .ref m58 :: .ref m59 :: .ref m60 :: .ref m61 :: .int (nI msn) :: .int (nI mti) :: .ref m64 :: .ref m65 :: .ref m66 :: .ref m67 :: .ref m68 :: .ref m69 :: [])))), (m0, .inl (.inl (kA 1, 1600, .inl q710089)))]) [(0, .ref m), (1, .int a0), (2, .int a1), (3, .int a2), (4, .int a3), (5, .int a4)] 0 0 36 []
    refine j_aload_n h 0 rfl rfl dX12_feed_36 ?_
    refine j_iload h 5 rfl dX12_feed_37 ?_
    refine jm_callVv (np := 1) (isC := [0, 1]) (isR := []) (wc := [(m, .inl (.inr (12, (.ref m0 :: .int (nI ((((((((((((((((mtp + 1) + 1) + 1) + 1) + 1) + 1) + 1) + 1) + 1) + 1) + 1) + 1) + 1) + 1) + 1) + 1)) :: .int (nI mfa) :: .int mfp :: .int (nI mat) :: .int (nI msz) :: .int (nI mso) :: .int mpl :: .int mnu :: .long mwd :: .ref m10 :: .ref m11 :: .ref m12 :: .ref m13 :: .ref m14 :: .ref m15 :: .ref m16 :: .ref m17 :: .ref m18 :: .ref m19 :: .ref m20 :: .ref m21 :: .ref m22 :: .ref m23 :: .ref m24 :: .int (nI mns) :: .int (nI mnl) :: .int (nI mne) :: .int (nI mst) :: .int (nI mlt) :: .int (nI mer) :: .ref m31 :: .ref m32 :: .ref m33 :: .ref m34 :: .ref m35 :: .int (nI mwm) :: .int (nI mwt) :: .int (nI mwf) :: .ref m39 :: .ref m40 :: .ref m41 :: .int (nI mla) :: .ref m43 :: .ref m44 :: .ref m45 :: .ref m46 :: .ref m47 :: .ref m48 :: .int (nI mtm) :: .ref m50 :: .ref m51 :: .ref m52 :: .ref m53 :: .ref m54 :: .ref m55 :: .ref m56 :: .ref m57 :: .ref m58 :: .ref m59 :: .ref m60 :: .ref m61 :: .int (nI msn) :: .int (nI mti) :: .ref m64 :: .ref m65 :: .ref m66 :: .ref m67 :: .ref m68 :: .ref m69 :: [])))), (m0, .inl (.inl (kA 1, 1600, .inl q710089)))]) (wr := []) (rest := []) (As := [.int a4]) (q0 := 0) h (s_X12_fourF _ _ kA m a4 m0 ((((((((((((((((mtp + 1) + 1) + 1) + 1) + 1) + 1) + 1) + 1) + 1) + 1) + 1) + 1) + 1) + 1) + 1) + 1) mfa mfp mat msz mso mpl mnu mwd m10 m11 m12 m13 m14 m15 m16 m17 m18 m19 m20 m21 m22 m23 m24 mns mnl mne mst mlt mer m31 m32 m33 m34 m35 mwm mwt mwf m39 m40 m41 mla m43 m44 m45 m46 m47 m48 mtm m50 m51 m52 m53 m54 m55 m56 m57 m58 m59 m60 m61 msn mti m64 m65 m66 m67 m68 m69 q710089 (show ((((((((((((((((mtp + 1) + 1) + 1) + 1) + 1) + 1) + 1) + 1) + 1) + 1) + 1) + 1) + 1) + 1) + 1) + 1) + 4 ≤ 1600 by first | assumption | omega | (unfold fedR; split <;> omega) | (unfold fedS; split <;> omega))) tw_1371 tw_1373 tw_39 tw_99 tw_1374 (by decide +kernel) rfl ⟨Nat.le_of_ble_eq_true rfl, Nat.le_of_ble_eq_true rfl⟩ rfl rfl (by decide +kernel) rfl rfl (by decide +kernel) (by decide +kernel) (Nat.le_of_ble_eq_true rfl) rfl ⟨Nat.le_of_ble_eq_true rfl, Nat.le_of_ble_eq_true rfl⟩ dX12_feed_39 ?_
    rintro q710093 e710094
    have p710096 := e710094
    replace p710096 : q710093 = putM q710089 ((((((((((((((((mtp + 1) + 1) + 1) + 1) + 1) + 1) + 1) + 1) + 1) + 1) + 1) + 1) + 1) + 1) + 1) + 1) a4 := p710096
    show J x (mflat [(m, .inl (.inr (12, (.ref m0 :: .int (nI ((((((((((((((((((((mtp + 1) + 1) + 1) + 1) + 1) + 1) + 1) + 1) + 1) + 1) + 1) + 1) + 1) + 1) + 1) + 1) + 1) + 1) + 1) + 1)) :: .int (nI mfa) :: .int mfp :: .int (nI mat) :: .int (nI msz) :: .int (nI mso) :: .int mpl :: .int mnu :: .long mwd :: .ref m10 :: .ref m11 :: .ref m12 :: .ref m13 :: .ref m14 :: .ref m15 :: .ref m16 :: .ref m17 :: .ref m18 :: .ref m19 :: .ref m20 :: .ref m21 :: .ref m22 :: .ref m23 :: .ref m24 :: .int (nI mns) :: .int (nI mnl) :: .int (nI mne) :: .int (nI mst) :: .int (nI mlt) :: .int (nI mer) :: .ref m31 :: .ref m32 :: .ref m33 :: .ref m34 :: .ref m35 :: .int (nI mwm) :: .int (nI mwt) :: .int (nI mwf) :: .ref m39 :: .ref m40 :: .ref m41 :: .int (nI mla) :: .ref m43 :: .ref m44 :: .ref m45 :: .ref m46 :: .ref m47 :: .ref m48 :: .int (nI mtm) :: .ref m50 :: .ref m51 :: .ref m52 :: .ref m53 :: .ref m54 :: .ref m55 :: .ref m56 :: .ref m57 :: .ref m58 :: .ref m59 :: .ref m60 :: .ref m61 :: .int (nI msn) :: .int (nI mti) :: .ref m64 :: .ref m65 :: .ref m66 :: .ref m67 :: .ref m68 :: .ref m69 :: [])))), (m0, .inl (.inl (kA 1, 1600, .inl q710093)))]) [(0, .ref m), (1, .int a0), (2, .int a1), (3, .int a2), (4, .int a3), (5, .int a4)] 0 0 42 []
    refine j_aload_n h 0 rfl rfl dX12_feed_42 ?_
    refine jm_get h iw_X12 0 rfl rfl 1 (by decide +kernel) tw_1157 rfl dX12_feed_43 ?_
    exact jm_iret h hq dX12_feed_46 ((((((((((((((((((((((mtp + 1) + 1) + 1) + 1) + 1) + 1) + 1) + 1) + 1) + 1) + 1) + 1) + 1) + 1) + 1) + 1) + 1) + 1) + 1) + 1) + 1), ((((((((((((((((((((mtp + 1) + 1) + 1) + 1) + 1) + 1) + 1) + 1) + 1) + 1) + 1) + 1) + 1) + 1) + 1) + 1) + 1) + 1) + 1) + 1), q710093) [0, 1] rfl (by decide) ⟨rfl, (show (((((((((((((((((((((mtp + 1) + 1) + 1) + 1) + 1) + 1) + 1) + 1) + 1) + 1) + 1) + 1) + 1) + 1) + 1) + 1) + 1) + 1) + 1) + 1) + 1) = fedR mtp by first | assumption | omega | (unfold fedR; split <;> omega) | (unfold fedS; split <;> omega)), (show ((((((((((((((((((((mtp + 1) + 1) + 1) + 1) + 1) + 1) + 1) + 1) + 1) + 1) + 1) + 1) + 1) + 1) + 1) + 1) + 1) + 1) + 1) + 1) = fedS mtp by first | assumption | omega | (unfold fedR; split <;> omega) | (unfold fedS; split <;> omega)), (show q710093 = fedM mc0 mtp a0 a1 a2 a3 a4 from (by rw [p710096, p710092, p710088, p710084, p710080]; exact (if_pos (by omega)).symm))⟩ (Nat.le_of_ble_eq_true rfl) (Nat.le_of_ble_eq_true rfl)
  · have z710076n : ¬ (mtp + 20) ≤ 1600 := fun q9 => z710076 ((nI_leI (a := (mtp + 20)) (b := 1600) (by omega) (by omega)).mpr q9)
    refine j_iconst (v := (-1)) h (by decide) dX12_feed_13 ?_
    exact jm_iret h hq dX12_feed_14 (0, mtp, mc0) [0, 1] rfl (by decide) ⟨rfl, (show 0 = fedR mtp by first | assumption | omega | (unfold fedR; split <;> omega) | (unfold fedS; split <;> omega)), (show mtp = fedS mtp by first | assumption | omega | (unfold fedR; split <;> omega) | (unfold fedS; split <;> omega)), (show mc0 = fedM mc0 mtp a0 a1 a2 a3 a4 from (if_neg (by omega)).symm)⟩ (Nat.le_of_ble_eq_true rfl) (Nat.le_of_ble_eq_true rfl)
set_option maxHeartbeats 4000000 in
set_option maxRecDepth 100000 in
theorem s_X11_faultF (lau : Launch) (gg : va_G) (kA : Nat → ClassId) (L : Nat) (wh : Int32) (t : Nat) (rd : Nat) (s : Nat) (zz : Nat) (b : Nat) (bx : Nat) (tx : Nat) (so : Nat) (bd : Nat) (g : Nat) (gq : Nat) (v : Nat) (sk : Nat) (d : Nat) (fh : Nat) (sh : Nat) (ly : Nat) (lsz : Int32) (tod : Nat) (rdf : Int32) (rdp : Int32) (rdn : Int32) (htod : tod ≤ 100000) : CtI lau yX11_fault cX11_fault 2 (some .int) 1 0 0 gg kA [.ref L, .int wh] (mflat [(L, .inl (.inr (11, [.ref t, .ref rd, .ref s, .ref zz, .ref b, .ref bx, .ref tx, .ref so, .ref bd, .ref g, .ref gq, .ref v, .ref sk, .ref d, .ref fh, .ref sh, .ref ly, .int lsz, .int (nI tod)]))), (rd, .inl (.inr (6, [.int rdf, .int rdp, .int rdn])))]) (S := Unit) (fun (r : Int32) (_ : Unit) => r = fltV rdf rdp wh) (fun (_ : Unit) => mflat [(L, .inl (.inr (11, [.ref t, .ref rd, .ref s, .ref zz, .ref b, .ref bx, .ref tx, .ref so, .ref bd, .ref g, .ref gq, .ref v, .ref sk, .ref d, .ref fh, .ref sh, .ref ly, .int lsz, .int (nI tod)]))), (rd, .inl (.inr (6, [.int rdf, .int rdp, .int rdn])))]) := by
  refine nx_startI (by decide +kernel) (Nat.le_of_ble_eq_true rfl) ?_
  intro x hnm h hq
  have h : Ok x cX11_fault RX11 kA (rmC 1 0 0) 2 := h
  show J x (mflat [(L, .inl (.inr (11, [.ref t, .ref rd, .ref s, .ref zz, .ref b, .ref bx, .ref tx, .ref so, .ref bd, .ref g, .ref gq, .ref v, .ref sk, .ref d, .ref fh, .ref sh, .ref ly, .int lsz, .int (nI tod)]))), (rd, .inl (.inr (6, [.int rdf, .int rdp, .int rdn])))]) [(0, .ref L), (1, .int wh)] 0 0 0 []
  refine j_iload_n h 1 rfl rfl dX11_fault_0 ?_
  refine j_if_ne h 12 dX11_fault_1 (by decide) (fun z710099 => ?_) (fun z710099 => ?_)
  · show J x (mflat [(L, .inl (.inr (11, [.ref t, .ref rd, .ref s, .ref zz, .ref b, .ref bx, .ref tx, .ref so, .ref bd, .ref g, .ref gq, .ref v, .ref sk, .ref d, .ref fh, .ref sh, .ref ly, .int lsz, .int (nI tod)]))), (rd, .inl (.inr (6, [.int rdf, .int rdp, .int rdn])))]) [(0, .ref L), (1, .int wh)] 0 0 12 []
    refine j_iload_n h 1 rfl rfl dX11_fault_12 ?_
    refine j_iconst (v := 1) h (by decide) dX11_fault_13 ?_
    refine j_icmp_ne h 27 dX11_fault_14 (by decide) (fun z710100 => ?_) (fun z710100 => ?_)
    · show J x (mflat [(L, .inl (.inr (11, [.ref t, .ref rd, .ref s, .ref zz, .ref b, .ref bx, .ref tx, .ref so, .ref bd, .ref g, .ref gq, .ref v, .ref sk, .ref d, .ref fh, .ref sh, .ref ly, .int lsz, .int (nI tod)]))), (rd, .inl (.inr (6, [.int rdf, .int rdp, .int rdn])))]) [(0, .ref L), (1, .int wh)] 0 0 27 []
      refine j_iconst (v := (-1)) h (by decide) dX11_fault_27 ?_
      exact jm_iret h hq dX11_fault_28 () [0, 1] rfl (by decide) (show (-1) = fltV rdf rdp wh from (by first | rfl | (unfold fltV; rw [if_neg z710099, if_neg z710100]) | (subst_vars; rfl) | (unfold fltV; simp only [z710099, z710100, ↓reduceIte]))) (Nat.le_of_ble_eq_true rfl) (Nat.le_of_ble_eq_true rfl)
    · subst z710100
      show J x (mflat [(L, .inl (.inr (11, [.ref t, .ref rd, .ref s, .ref zz, .ref b, .ref bx, .ref tx, .ref so, .ref bd, .ref g, .ref gq, .ref v, .ref sk, .ref d, .ref fh, .ref sh, .ref ly, .int lsz, .int (nI tod)]))), (rd, .inl (.inr (6, [.int rdf, .int rdp, .int rdn])))]) [(0, .ref L), (1, .int 1)] 0 0 17 []
      refine j_aload_n h 0 rfl rfl dX11_fault_17 ?_
      refine jm_get h iw_X11 0 rfl rfl 1 (by decide +kernel) tw_476 rfl dX11_fault_18 ?_
      refine jm_get h iw_X6 1 rfl rfl 1 (by decide +kernel) tw_158 rfl dX11_fault_21 ?_
      refine j_goto h 28 dX11_fault_24 (by decide) ?_
      exact jm_iret h hq dX11_fault_28 () [0, 1] rfl (by decide) (show rdp = fltV rdf rdp 1 from (by first | rfl | (unfold fltV; rw [if_neg z710099, if_pos z710100]) | (subst_vars; rfl) | (unfold fltV; simp only [z710099, z710100, ↓reduceIte]))) (Nat.le_of_ble_eq_true rfl) (Nat.le_of_ble_eq_true rfl)
  · subst z710099
    show J x (mflat [(L, .inl (.inr (11, [.ref t, .ref rd, .ref s, .ref zz, .ref b, .ref bx, .ref tx, .ref so, .ref bd, .ref g, .ref gq, .ref v, .ref sk, .ref d, .ref fh, .ref sh, .ref ly, .int lsz, .int (nI tod)]))), (rd, .inl (.inr (6, [.int rdf, .int rdp, .int rdn])))]) [(0, .ref L), (1, .int 0)] 0 0 4 []
    refine j_aload_n h 0 rfl rfl dX11_fault_4 ?_
    refine jm_get h iw_X11 0 rfl rfl 1 (by decide +kernel) tw_476 rfl dX11_fault_5 ?_
    refine jm_get h iw_X6 1 rfl rfl 0 (by decide +kernel) tw_156 rfl dX11_fault_8 ?_
    exact jm_iret h hq dX11_fault_11 () [0, 1] rfl (by decide) (show rdf = fltV rdf rdp 0 from (by first | rfl | (unfold fltV; rw [if_pos z710099]) | (subst_vars; rfl) | (unfold fltV; simp only [z710099, ↓reduceIte]))) (Nat.le_of_ble_eq_true rfl) (Nat.le_of_ble_eq_true rfl)
set_option maxHeartbeats 4000000 in
set_option maxRecDepth 100000 in
theorem s_X12_faultF (lau : Launch) (gg : va_G) (kA : Nat → ClassId) (m : Nat) (wh : Int32) (m0 : Nat) (mtp : Nat) (mfa : Nat) (mfp : Int32) (mat : Nat) (msz : Nat) (mso : Nat) (mpl : Int32) (mnu : Int32) (mwd : Int64) (m10 : Nat) (m11 : Nat) (m12 : Nat) (m13 : Nat) (m14 : Nat) (m15 : Nat) (m16 : Nat) (m17 : Nat) (m18 : Nat) (m19 : Nat) (m20 : Nat) (m21 : Nat) (m22 : Nat) (m23 : Nat) (m24 : Nat) (mns : Nat) (mnl : Nat) (mne : Nat) (mst : Nat) (mlt : Nat) (mer : Nat) (m31 : Nat) (m32 : Nat) (m33 : Nat) (m34 : Nat) (m35 : Nat) (mwm : Nat) (mwt : Nat) (mwf : Nat) (m39 : Nat) (m40 : Nat) (m41 : Nat) (mla : Nat) (m43 : Nat) (m44 : Nat) (m45 : Nat) (m46 : Nat) (m47 : Nat) (m48 : Nat) (mtm : Nat) (m50 : Nat) (m51 : Nat) (m52 : Nat) (m53 : Nat) (m54 : Nat) (m55 : Nat) (m56 : Nat) (m57 : Nat) (m58 : Nat) (m59 : Nat) (m60 : Nat) (m61 : Nat) (msn : Nat) (mti : Nat) (m64 : Nat) (m65 : Nat) (m66 : Nat) (m67 : Nat) (m68 : Nat) (m69 : Nat)  : CtI lau yX12_fault cX12_fault 2 (some .int) 1 0 0 gg kA [.ref m, .int wh] (mflat [(m, .inl (.inr (12, (.ref m0 :: .int (nI mtp) :: .int (nI mfa) :: .int mfp :: .int (nI mat) :: .int (nI msz) :: .int (nI mso) :: .int mpl :: .int mnu :: .long mwd :: .ref m10 :: .ref m11 :: .ref m12 :: .ref m13 :: .ref m14 :: .ref m15 :: .ref m16 :: .ref m17 :: .ref m18 :: .ref m19 :: .ref m20 :: .ref m21 :: .ref m22 :: .ref m23 :: .ref m24 :: .int (nI mns) :: .int (nI mnl) :: .int (nI mne) :: .int (nI mst) :: .int (nI mlt) :: .int (nI mer) :: .ref m31 :: .ref m32 :: .ref m33 :: .ref m34 :: .ref m35 :: .int (nI mwm) :: .int (nI mwt) :: .int (nI mwf) :: .ref m39 :: .ref m40 :: .ref m41 :: .int (nI mla) :: .ref m43 :: .ref m44 :: .ref m45 :: .ref m46 :: .ref m47 :: .ref m48 :: .int (nI mtm) :: .ref m50 :: .ref m51 :: .ref m52 :: .ref m53 :: .ref m54 :: .ref m55 :: .ref m56 :: .ref m57 :: .ref m58 :: .ref m59 :: .ref m60 :: .ref m61 :: .int (nI msn) :: .int (nI mti) :: .ref m64 :: .ref m65 :: .ref m66 :: .ref m67 :: .ref m68 :: .ref m69 :: []))))]) (S := Unit) (fun (r : Int32) (_ : Unit) => r = fltV (nI mfa) mfp wh) (fun (_ : Unit) => mflat [(m, .inl (.inr (12, (.ref m0 :: .int (nI mtp) :: .int (nI mfa) :: .int mfp :: .int (nI mat) :: .int (nI msz) :: .int (nI mso) :: .int mpl :: .int mnu :: .long mwd :: .ref m10 :: .ref m11 :: .ref m12 :: .ref m13 :: .ref m14 :: .ref m15 :: .ref m16 :: .ref m17 :: .ref m18 :: .ref m19 :: .ref m20 :: .ref m21 :: .ref m22 :: .ref m23 :: .ref m24 :: .int (nI mns) :: .int (nI mnl) :: .int (nI mne) :: .int (nI mst) :: .int (nI mlt) :: .int (nI mer) :: .ref m31 :: .ref m32 :: .ref m33 :: .ref m34 :: .ref m35 :: .int (nI mwm) :: .int (nI mwt) :: .int (nI mwf) :: .ref m39 :: .ref m40 :: .ref m41 :: .int (nI mla) :: .ref m43 :: .ref m44 :: .ref m45 :: .ref m46 :: .ref m47 :: .ref m48 :: .int (nI mtm) :: .ref m50 :: .ref m51 :: .ref m52 :: .ref m53 :: .ref m54 :: .ref m55 :: .ref m56 :: .ref m57 :: .ref m58 :: .ref m59 :: .ref m60 :: .ref m61 :: .int (nI msn) :: .int (nI mti) :: .ref m64 :: .ref m65 :: .ref m66 :: .ref m67 :: .ref m68 :: .ref m69 :: []))))]) := by
  refine nx_startI (by decide +kernel) (Nat.le_of_ble_eq_true rfl) ?_
  intro x hnm h hq
  have h : Ok x cX12_fault RX12 kA (rmC 1 0 0) 2 := h
  show J x (mflat [(m, .inl (.inr (12, (.ref m0 :: .int (nI mtp) :: .int (nI mfa) :: .int mfp :: .int (nI mat) :: .int (nI msz) :: .int (nI mso) :: .int mpl :: .int mnu :: .long mwd :: .ref m10 :: .ref m11 :: .ref m12 :: .ref m13 :: .ref m14 :: .ref m15 :: .ref m16 :: .ref m17 :: .ref m18 :: .ref m19 :: .ref m20 :: .ref m21 :: .ref m22 :: .ref m23 :: .ref m24 :: .int (nI mns) :: .int (nI mnl) :: .int (nI mne) :: .int (nI mst) :: .int (nI mlt) :: .int (nI mer) :: .ref m31 :: .ref m32 :: .ref m33 :: .ref m34 :: .ref m35 :: .int (nI mwm) :: .int (nI mwt) :: .int (nI mwf) :: .ref m39 :: .ref m40 :: .ref m41 :: .int (nI mla) :: .ref m43 :: .ref m44 :: .ref m45 :: .ref m46 :: .ref m47 :: .ref m48 :: .int (nI mtm) :: .ref m50 :: .ref m51 :: .ref m52 :: .ref m53 :: .ref m54 :: .ref m55 :: .ref m56 :: .ref m57 :: .ref m58 :: .ref m59 :: .ref m60 :: .ref m61 :: .int (nI msn) :: .int (nI mti) :: .ref m64 :: .ref m65 :: .ref m66 :: .ref m67 :: .ref m68 :: .ref m69 :: []))))]) [(0, .ref m), (1, .int wh)] 0 0 0 []
  refine j_iload_n h 1 rfl rfl dX12_fault_0 ?_
  refine j_if_ne h 11 dX12_fault_1 (by decide) (fun z710103 => ?_) (fun z710103 => ?_)
  · show J x (mflat [(m, .inl (.inr (12, (.ref m0 :: .int (nI mtp) :: .int (nI mfa) :: .int mfp :: .int (nI mat) :: .int (nI msz) :: .int (nI mso) :: .int mpl :: .int mnu :: .long mwd :: .ref m10 :: .ref m11 :: .ref m12 :: .ref m13 :: .ref m14 :: .ref m15 :: .ref m16 :: .ref m17 :: .ref m18 :: .ref m19 :: .ref m20 :: .ref m21 :: .ref m22 :: .ref m23 :: .ref m24 :: .int (nI mns) :: .int (nI mnl) :: .int (nI mne) :: .int (nI mst) :: .int (nI mlt) :: .int (nI mer) :: .ref m31 :: .ref m32 :: .ref m33 :: .ref m34 :: .ref m35 :: .int (nI mwm) :: .int (nI mwt) :: .int (nI mwf) :: .ref m39 :: .ref m40 :: .ref m41 :: .int (nI mla) :: .ref m43 :: .ref m44 :: .ref m45 :: .ref m46 :: .ref m47 :: .ref m48 :: .int (nI mtm) :: .ref m50 :: .ref m51 :: .ref m52 :: .ref m53 :: .ref m54 :: .ref m55 :: .ref m56 :: .ref m57 :: .ref m58 :: .ref m59 :: .ref m60 :: .ref m61 :: .int (nI msn) :: .int (nI mti) :: .ref m64 :: .ref m65 :: .ref m66 :: .ref m67 :: .ref m68 :: .ref m69 :: []))))]) [(0, .ref m), (1, .int wh)] 0 0 11 []
    refine j_iload_n h 1 rfl rfl dX12_fault_11 ?_
    refine j_iconst (v := 1) h (by decide) dX12_fault_12 ?_
    refine j_icmp_ne h 23 dX12_fault_13 (by decide) (fun z710104 => ?_) (fun z710104 => ?_)
    · show J x (mflat [(m, .inl (.inr (12, (.ref m0 :: .int (nI mtp) :: .int (nI mfa) :: .int mfp :: .int (nI mat) :: .int (nI msz) :: .int (nI mso) :: .int mpl :: .int mnu :: .long mwd :: .ref m10 :: .ref m11 :: .ref m12 :: .ref m13 :: .ref m14 :: .ref m15 :: .ref m16 :: .ref m17 :: .ref m18 :: .ref m19 :: .ref m20 :: .ref m21 :: .ref m22 :: .ref m23 :: .ref m24 :: .int (nI mns) :: .int (nI mnl) :: .int (nI mne) :: .int (nI mst) :: .int (nI mlt) :: .int (nI mer) :: .ref m31 :: .ref m32 :: .ref m33 :: .ref m34 :: .ref m35 :: .int (nI mwm) :: .int (nI mwt) :: .int (nI mwf) :: .ref m39 :: .ref m40 :: .ref m41 :: .int (nI mla) :: .ref m43 :: .ref m44 :: .ref m45 :: .ref m46 :: .ref m47 :: .ref m48 :: .int (nI mtm) :: .ref m50 :: .ref m51 :: .ref m52 :: .ref m53 :: .ref m54 :: .ref m55 :: .ref m56 :: .ref m57 :: .ref m58 :: .ref m59 :: .ref m60 :: .ref m61 :: .int (nI msn) :: .int (nI mti) :: .ref m64 :: .ref m65 :: .ref m66 :: .ref m67 :: .ref m68 :: .ref m69 :: []))))]) [(0, .ref m), (1, .int wh)] 0 0 23 []
      refine j_iconst (v := (-1)) h (by decide) dX12_fault_23 ?_
      exact jm_iret h hq dX12_fault_24 () [0] rfl (by decide) (show (-1) = fltV (nI mfa) mfp wh from (by first | rfl | (unfold fltV; rw [if_neg z710103, if_neg z710104]) | (subst_vars; rfl) | (unfold fltV; simp only [z710103, z710104, ↓reduceIte]))) (Nat.le_of_ble_eq_true rfl) (Nat.le_of_ble_eq_true rfl)
    · subst z710104
      show J x (mflat [(m, .inl (.inr (12, (.ref m0 :: .int (nI mtp) :: .int (nI mfa) :: .int mfp :: .int (nI mat) :: .int (nI msz) :: .int (nI mso) :: .int mpl :: .int mnu :: .long mwd :: .ref m10 :: .ref m11 :: .ref m12 :: .ref m13 :: .ref m14 :: .ref m15 :: .ref m16 :: .ref m17 :: .ref m18 :: .ref m19 :: .ref m20 :: .ref m21 :: .ref m22 :: .ref m23 :: .ref m24 :: .int (nI mns) :: .int (nI mnl) :: .int (nI mne) :: .int (nI mst) :: .int (nI mlt) :: .int (nI mer) :: .ref m31 :: .ref m32 :: .ref m33 :: .ref m34 :: .ref m35 :: .int (nI mwm) :: .int (nI mwt) :: .int (nI mwf) :: .ref m39 :: .ref m40 :: .ref m41 :: .int (nI mla) :: .ref m43 :: .ref m44 :: .ref m45 :: .ref m46 :: .ref m47 :: .ref m48 :: .int (nI mtm) :: .ref m50 :: .ref m51 :: .ref m52 :: .ref m53 :: .ref m54 :: .ref m55 :: .ref m56 :: .ref m57 :: .ref m58 :: .ref m59 :: .ref m60 :: .ref m61 :: .int (nI msn) :: .int (nI mti) :: .ref m64 :: .ref m65 :: .ref m66 :: .ref m67 :: .ref m68 :: .ref m69 :: []))))]) [(0, .ref m), (1, .int 1)] 0 0 16 []
      refine j_aload_n h 0 rfl rfl dX12_fault_16 ?_
      refine jm_get h iw_X12 0 rfl rfl 3 (by decide +kernel) tw_1159 rfl dX12_fault_17 ?_
      refine j_goto h 24 dX12_fault_20 (by decide) ?_
      exact jm_iret h hq dX12_fault_24 () [0] rfl (by decide) (show mfp = fltV (nI mfa) mfp 1 from (by first | rfl | (unfold fltV; rw [if_neg z710103, if_pos z710104]) | (subst_vars; rfl) | (unfold fltV; simp only [z710103, z710104, ↓reduceIte]))) (Nat.le_of_ble_eq_true rfl) (Nat.le_of_ble_eq_true rfl)
  · subst z710103
    show J x (mflat [(m, .inl (.inr (12, (.ref m0 :: .int (nI mtp) :: .int (nI mfa) :: .int mfp :: .int (nI mat) :: .int (nI msz) :: .int (nI mso) :: .int mpl :: .int mnu :: .long mwd :: .ref m10 :: .ref m11 :: .ref m12 :: .ref m13 :: .ref m14 :: .ref m15 :: .ref m16 :: .ref m17 :: .ref m18 :: .ref m19 :: .ref m20 :: .ref m21 :: .ref m22 :: .ref m23 :: .ref m24 :: .int (nI mns) :: .int (nI mnl) :: .int (nI mne) :: .int (nI mst) :: .int (nI mlt) :: .int (nI mer) :: .ref m31 :: .ref m32 :: .ref m33 :: .ref m34 :: .ref m35 :: .int (nI mwm) :: .int (nI mwt) :: .int (nI mwf) :: .ref m39 :: .ref m40 :: .ref m41 :: .int (nI mla) :: .ref m43 :: .ref m44 :: .ref m45 :: .ref m46 :: .ref m47 :: .ref m48 :: .int (nI mtm) :: .ref m50 :: .ref m51 :: .ref m52 :: .ref m53 :: .ref m54 :: .ref m55 :: .ref m56 :: .ref m57 :: .ref m58 :: .ref m59 :: .ref m60 :: .ref m61 :: .int (nI msn) :: .int (nI mti) :: .ref m64 :: .ref m65 :: .ref m66 :: .ref m67 :: .ref m68 :: .ref m69 :: []))))]) [(0, .ref m), (1, .int 0)] 0 0 4 []
    refine j_aload_n h 0 rfl rfl dX12_fault_4 ?_
    refine jm_get h iw_X12 0 rfl rfl 2 (by decide +kernel) tw_1158 rfl dX12_fault_5 ?_
    refine j_goto h 24 dX12_fault_8 (by decide) ?_
    exact jm_iret h hq dX12_fault_24 () [0] rfl (by decide) (show (nI mfa) = fltV (nI mfa) mfp 0 from (by first | rfl | (unfold fltV; rw [if_pos z710103]) | (subst_vars; rfl) | (unfold fltV; simp only [z710103, ↓reduceIte]))) (Nat.le_of_ble_eq_true rfl) (Nat.le_of_ble_eq_true rfl)
