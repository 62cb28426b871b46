theorem nx_defN {N : Nat} {ty : Nat → FieldType} {fs : List Value} (h : (List.range N).map (fun j => defaultValue (ty j)) = (List.range N).map (fun j => vp_V fs j)) : ∀ j, j < N → defaultValue (ty j) = vp_V fs j := fun j hj => List.map_inj_left.mp h j (List.mem_range.mpr hj)
theorem nx_def3 {ty : Nat → FieldType} {fs : List Value} (h : (List.range 3).map (fun j => defaultValue (ty j)) = (List.range 3).map (fun j => vp_V fs j)) : ∀ j, j < 3 → defaultValue (ty j) = vp_V fs j := nx_defN h
theorem nx_def4 {ty : Nat → FieldType} {fs : List Value} (h : (List.range 4).map (fun j => defaultValue (ty j)) = (List.range 4).map (fun j => vp_V fs j)) : ∀ j, j < 4 → defaultValue (ty j) = vp_V fs j := nx_defN h
theorem nx_def5 {ty : Nat → FieldType} {fs : List Value} (h : (List.range 5).map (fun j => defaultValue (ty j)) = (List.range 5).map (fun j => vp_V fs j)) : ∀ j, j < 5 → defaultValue (ty j) = vp_V fs j := nx_defN h
theorem nx_def6 {ty : Nat → FieldType} {fs : List Value} (h : (List.range 6).map (fun j => defaultValue (ty j)) = (List.range 6).map (fun j => vp_V fs j)) : ∀ j, j < 6 → defaultValue (ty j) = vp_V fs j := nx_defN h
theorem nx_def7 {ty : Nat → FieldType} {fs : List Value} (h : (List.range 7).map (fun j => defaultValue (ty j)) = (List.range 7).map (fun j => vp_V fs j)) : ∀ j, j < 7 → defaultValue (ty j) = vp_V fs j := nx_defN h
theorem nx_def11 {ty : Nat → FieldType} {fs : List Value} (h : (List.range 11).map (fun j => defaultValue (ty j)) = (List.range 11).map (fun j => vp_V fs j)) : ∀ j, j < 11 → defaultValue (ty j) = vp_V fs j := nx_defN h
theorem nx_def15 {ty : Nat → FieldType} {fs : List Value} (h : (List.range 15).map (fun j => defaultValue (ty j)) = (List.range 15).map (fun j => vp_V fs j)) : ∀ j, j < 15 → defaultValue (ty j) = vp_V fs j := nx_defN h
theorem nx_def19 {ty : Nat → FieldType} {fs : List Value} (h : (List.range 19).map (fun j => defaultValue (ty j)) = (List.range 19).map (fun j => vp_V fs j)) : ∀ j, j < 19 → defaultValue (ty j) = vp_V fs j := nx_defN h
theorem nx_def70 {ty : Nat → FieldType} {fs : List Value} (h : (List.range 70).map (fun j => defaultValue (ty j)) = (List.range 70).map (fun j => vp_V fs j)) : ∀ j, j < 70 → defaultValue (ty j) = vp_V fs j := nx_defN h
theorem dX9_init_0 : decode cX9_init 0 = .ok (.aload_n 0, 1) := by decide +kernel
theorem dX9_init_1 : decode cX9_init 1 = .ok (.invokespecial 3, 3) := by decide +kernel
theorem tw_120 : Cond.methodLink RX9 3 objectInit ∈ TT := nx_mem 120 (by decide +kernel) (by decide +kernel)
theorem tw_113 : Cond.instanceMethod objectInit ∈ TT := nx_mem 113 (by decide +kernel) (by decide +kernel)
theorem tw_114 : Cond.code objectInit ⟨#[0xb1]⟩ 1 none ∈ TT := nx_mem 114 (by decide +kernel) (by decide +kernel)
theorem dX9_init_4 : decode cX9_init 4 = .ok (.aload_n 0, 1) := by decide +kernel
theorem dX9_init_5 : decode cX9_init 5 = .ok (.sipush 1600, 3) := by decide +kernel
theorem dX9_init_8 : decode cX9_init 8 = .ok (.newarray .byte, 2) := by decide +kernel
theorem tw_148 : Cond.arrayClass .byte ∈ TT := nx_mem 148 (by decide +kernel) (by decide +kernel)
theorem dX9_init_10 : decode cX9_init 10 = .ok (.putfield 9, 3) := by decide +kernel
theorem iw_X9 : ∀ w ∈ u_ws RX9 TX9 7, w ∈ TT := nx_mems _ [133, 135, 137, 139, 141, 143, 145] (by decide +kernel) (by decide +kernel)
theorem tw_121 : Cond.fieldLink RX9 9 "LimpCode$Tape" "bytes" "[B" ∈ TT := nx_mem 121 (by decide +kernel) (by decide +kernel)
theorem dX9_init_13 : decode cX9_init 13 = .ok (.return_, 1) := by decide +kernel
theorem dX9_hasRoomFor_0 : decode cX9_hasRoomFor 0 = .ok (.aload_n 0, 1) := by decide +kernel
theorem dX9_hasRoomFor_1 : decode cX9_hasRoomFor 1 = .ok (.getfield 15, 3) := by decide +kernel
theorem tw_122 : Cond.fieldLink RX9 15 "LimpCode$Tape" "size" "I" ∈ TT := nx_mem 122 (by decide +kernel) (by decide +kernel)
theorem dX9_hasRoomFor_4 : decode cX9_hasRoomFor 4 = .ok (.iload_n 1, 1) := by decide +kernel
theorem dX9_hasRoomFor_5 : decode cX9_hasRoomFor 5 = .ok (.iadd, 1) := by decide +kernel
theorem dX9_hasRoomFor_6 : decode cX9_hasRoomFor 6 = .ok (.aload_n 0, 1) := by decide +kernel
theorem dX9_hasRoomFor_7 : decode cX9_hasRoomFor 7 = .ok (.getfield 9, 3) := by decide +kernel
theorem dX9_hasRoomFor_10 : decode cX9_hasRoomFor 10 = .ok (.arraylength, 1) := by decide +kernel
theorem dX9_hasRoomFor_11 : decode cX9_hasRoomFor 11 = .ok (.if_icmp .gt 7, 3) := by decide +kernel
theorem dX9_hasRoomFor_14 : decode cX9_hasRoomFor 14 = .ok (.iconst 1, 1) := by decide +kernel
theorem dX9_hasRoomFor_15 : decode cX9_hasRoomFor 15 = .ok (.goto 4, 3) := by decide +kernel
theorem dX9_hasRoomFor_19 : decode cX9_hasRoomFor 19 = .ok (.ireturn, 1) := by decide +kernel
set_option maxHeartbeats 4000000 in
set_option maxRecDepth 100000 in
theorem c_X9_init (l : Launch) (g : va_G) (kA : Nat → ClassId) (h0 : Nat)  : CtV l yX9_init cX9_init 1 (none) 1 1 1600 g kA [.ref h0] [(h0, .inr (9, [.null, .int 0, .int 0, .int 0, .int 0, .long 0, .int 0]))] (S := Nat) (fun (b0 : Nat) => True) (fun (b0 : Nat) => [(h0, .inr (9, [.ref b0, .int 0, .int 0, .int 0, .int 0, .long 0, .int 0])), (b0, .inl (kA 0, 1600, .inl (fun _ => 0)))]) := by
  refine nx_startV (by decide +kernel) (Nat.le_of_ble_eq_true rfl) ?_
  intro x hnm h hq
  have h : Ok x cX9_init RX9 kA (rmC 1 1 1600) 1 := h
  show J x [(h0, .inr (9, [.null, .int 0, .int 0, .int 0, .int 0, .long 0, .int 0]))] [(0, .ref h0)] 0 0 0 []
  refine j_aload_n h 0 rfl rfl dX9_init_0 ?_
  refine j_objInit h tw_120 tw_113 tw_114 (Nat.le_of_ble_eq_true rfl) (Nat.le_of_ble_eq_true rfl) (Nat.le_of_ble_eq_true rfl) dX9_init_1 ?_
  refine j_aload_n h 0 rfl rfl dX9_init_4 ?_
  refine j_sipush (v := 1600) h (by decide) dX9_init_5 ?_
  refine j_newa (atype := .byte) (a0 := (1600, .inl (fun _ => 0))) h tw_148 rfl 0 rfl (fun _ => rfl) (by decide) (by decide) (by decide) (Nat.le_of_ble_eq_true rfl) (Nat.le_of_ble_eq_true rfl) dX9_init_8 (fun q1 => ?_)
  show J x [(h0, .inr (9, [.null, .int 0, .int 0, .int 0, .int 0, .long 0, .int 0])), (q1, .inl (kA 0, 1600, .inl (fun _ => 0)))] [(0, .ref h0)] 1 1600 10 [.ref q1, .ref h0]
  refine j_putF (ws' := [(h0, .inr (9, [.ref q1, .int 0, .int 0, .int 0, .int 0, .long 0, .int 0])), (q1, .inl (kA 0, 1600, .inl (fun _ => 0)))]) h iw_X9 tyX9 tyX9_ok nmX9 0 rfl rfl 0 (by decide) tw_121 rfl hnm rfl rfl rfl (Nat.le_of_ble_eq_true rfl) dX9_init_10 rfl ?_
  exact j_vret h hq dX9_init_13 q1 [0, 1] rfl rfl (by decide) trivial (Nat.le_of_ble_eq_true rfl) (Nat.le_of_ble_eq_true rfl)
set_option maxHeartbeats 4000000 in
set_option maxRecDepth 100000 in
theorem c_X9_hasRoomFor (l : Launch) (g : va_G) (kA : Nat → ClassId) (h0 : Nat) (b0 : Nat) (f : Nat → Int32) (k1 : Int32) (k2 : Int32) (k3 : Int32) (k4 : Int64) (k5 : Int32)  : CtI l yX9_hasRoomFor cX9_hasRoomFor 2 (some .boolean) 1 0 0 g kA [.ref h0, .int 20] [(h0, .inr (9, [.ref b0, .int 0, .int k1, .int k2, .int k3, .long k4, .int k5])), (b0, .inl (kA 0, 1600, .inl f))] (S := Unit) (fun (r : Int32) (_ : Unit) => r = 1) (fun (_ : Unit) => [(h0, .inr (9, [.ref b0, .int 0, .int k1, .int k2, .int k3, .long k4, .int k5])), (b0, .inl (kA 0, 1600, .inl f))]) := by
  refine nx_startI (by decide +kernel) (Nat.le_of_ble_eq_true rfl) ?_
  intro x hnm h hq
  have h : Ok x cX9_hasRoomFor RX9 kA (rmC 1 0 0) 2 := h
  show J x [(h0, .inr (9, [.ref b0, .int 0, .int k1, .int k2, .int k3, .long k4, .int k5])), (b0, .inl (kA 0, 1600, .inl f))] [(0, .ref h0), (1, .int 20)] 0 0 0 []
  refine j_aload_n h 0 rfl rfl dX9_hasRoomFor_0 ?_
  refine j_get h iw_X9 0 rfl rfl 1 (by decide) tw_122 rfl dX9_hasRoomFor_1 ?_
  refine j_iload_n h 1 rfl rfl dX9_hasRoomFor_4 ?_
  refine j_iadd h dX9_hasRoomFor_5 ?_
  refine j_top (b := 20) (by decide) ?_
  refine j_aload_n h 0 rfl rfl dX9_hasRoomFor_6 ?_
  refine j_get h iw_X9 0 rfl rfl 0 (by decide) tw_121 rfl dX9_hasRoomFor_7 ?_
  refine j_alen (v := 1600) h 1 0 rfl rfl rfl dX9_hasRoomFor_10 ?_
  refine j_icmp_gt h 18 dX9_hasRoomFor_11 (by decide) (fun q => absurd q (by decide)) (fun _ => ?_)
  refine j_iconst (v := 1) h (by decide) dX9_hasRoomFor_14 ?_
  refine j_goto h 19 dX9_hasRoomFor_15 (by decide) ?_
  exact j_zret h hq rfl dX9_hasRoomFor_19 () [0, 1] rfl rfl (by decide) (by first | rfl | simp only [↓reduceIte]) (Nat.le_of_ble_eq_true rfl) (Nat.le_of_ble_eq_true rfl)
