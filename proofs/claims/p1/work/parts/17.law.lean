theorem dL_law_0 : decode cL_law 0 = .ok (.new 7, 3) := by decide +kernel
theorem tw_107 : Cond.classLink RL 7 RX11 ∈ TT := nx_mem 107 (by decide +kernel) (by decide +kernel)
theorem tw_108 : Cond.instantiable RX11 19 ∈ TT := nx_mem 108 (by decide +kernel) (by decide +kernel)
theorem dL_law_3 : decode cL_law 3 = .ok (.dup, 1) := by decide +kernel
theorem dL_law_4 : decode cL_law 4 = .ok (.invokespecial 9, 3) := by decide +kernel
theorem tw_109 : Cond.methodLink RL 9 yX11_init ∈ TT := nx_mem 109 (by decide +kernel) (by decide +kernel)
theorem tw_110 : Cond.instanceMethod yX11_init ∈ TT := nx_mem 110 (by decide +kernel) (by decide +kernel)
theorem tw_111 : Cond.code yX11_init cX11_init 2 none ∈ TT := nx_mem 111 (by decide +kernel) (by decide +kernel)
theorem dL_law_7 : decode cL_law 7 = .ok (.astore_n 1, 1) := by decide +kernel
theorem dL_law_8 : decode cL_law 8 = .ok (.new 10, 3) := by decide +kernel
theorem tw_1146 : Cond.classLink RL 10 RX12 ∈ TT := nx_mem 1146 (by decide +kernel) (by decide +kernel)
theorem tw_1147 : Cond.instantiable RX12 70 ∈ TT := nx_mem 1147 (by decide +kernel) (by decide +kernel)
theorem dL_law_11 : decode cL_law 11 = .ok (.dup, 1) := by decide +kernel
theorem dL_law_12 : decode cL_law 12 = .ok (.invokespecial 12, 3) := by decide +kernel
theorem tw_1148 : Cond.methodLink RL 12 yX12_init ∈ TT := nx_mem 1148 (by decide +kernel) (by decide +kernel)
theorem tw_1149 : Cond.instanceMethod yX12_init ∈ TT := nx_mem 1149 (by decide +kernel) (by decide +kernel)
theorem tw_1150 : Cond.code yX12_init cX12_init 1 none ∈ TT := nx_mem 1150 (by decide +kernel) (by decide +kernel)
theorem dL_law_15 : decode cL_law 15 = .ok (.astore_n 2, 1) := by decide +kernel
theorem dL_law_16 : decode cL_law 16 = .ok (.iconst 0, 1) := by decide +kernel
theorem dL_law_17 : decode cL_law 17 = .ok (.istore_n 3, 1) := by decide +kernel
theorem dL_law_27 : decode cL_law 27 = .ok (.aload_n 0, 1) := by decide +kernel
theorem dL_law_28 : decode cL_law 28 = .ok (.iload_n 3, 1) := by decide +kernel
theorem dL_law_29 : decode cL_law 29 = .ok (.iaload, 1) := by decide +kernel
theorem dL_law_30 : decode cL_law 30 = .ok (.bipush 31, 2) := by decide +kernel
theorem dL_law_32 : decode cL_law 32 = .ok (.iand, 1) := by decide +kernel
theorem dL_law_33 : decode cL_law 33 = .ok (.tableswitch 955 0 27 #[127, 190, 213, 226, 249, 272, 295, 308, 341, 375, 398, 451, 484, 507, 541, 584, 607, 641, 654, 677, 710, 763, 786, 809, 843, 886, 909, 932], 127) := by decide +kernel
theorem dL_law_994 : decode cL_law 994 = .ok (.iconst 1, 1) := by decide +kernel
theorem dL_law_995 : decode cL_law 995 = .ok (.ireturn, 1) := by decide +kernel
set_option maxHeartbeats 4000000 in
set_option maxRecDepth 100000 in
theorem law_J {x : Cx} {kA : Nat → ClassId} (h : Ok x cL_law RL kA room_1 4) {b L : Nat} {xs : Nat → Int32} (hL : L ≤ 6) (hX : va_X b L xs x.2.1.1 x.2.1.1.heap) (hbl : b < x.2.1.1.heap.size) (hbA : ¬ x.2.2.2.1.1 b) (hend : ∀ (ws : va_W) (lv : List (Nat × Value)), J x ws lv 249 10950 994 []) : J x [] [(0, .ref b)] 0 0 0 [] := by
  refine j_new (ci := 11) (fs := [.null, .null, .null, .null, .null, .null, .null, .null, .null, .null, .null, .null, .null, .null, .null, .null, .null, .int 0, .int 0]) h iw_X11 tyX11 tyX11_ok tw_107 tw_108 tw_87 rfl (nx_def19 rfl) (Nat.le_of_ble_eq_true rfl) (Nat.le_of_ble_eq_true rfl) dL_law_0 (fun q495 => ?_)
  show J x [(q495, .inr (11, [.null, .null, .null, .null, .null, .null, .null, .null, .null, .null, .null, .null, .null, .null, .null, .null, .null, .int 0, .int 0]))] [(0, .ref b)] 1 19 3 [.ref q495]
  refine j_dup h rfl dL_law_3 ?_
  refine j_callI (rt := none) (np := 0) (isC := [0]) (isR := []) (wc := [(q495, .inr (11, [.null, .null, .null, .null, .null, .null, .null, .null, .null, .null, .null, .null, .null, .null, .null, .null, .null, .int 0, .int 0]))]) (wr := []) (rest := [.ref q495]) (As := []) h (c_X11_init _ _ kA q495 ) tw_109 tw_110 tw_87 tw_111 rfl (by decide +kernel) rfl ⟨Nat.le_of_ble_eq_true rfl, Nat.le_of_ble_eq_true rfl⟩ rfl (by decide) rfl rfl (by decide) (by decide) (Nat.le_of_ble_eq_true rfl) rfl ⟨Nat.le_of_ble_eq_true rfl, Nat.le_of_ble_eq_true rfl⟩ dL_law_4 ?_
  rintro q496 e497
  show J x ((q495, .inr (11, [.ref (q496 0), .ref (q496 1), .ref (q496 2), .ref (q496 3), .ref (q496 4), .ref (q496 5), .ref (q496 6), .ref (q496 7), .ref (q496 8), .ref (q496 9), .ref (q496 10), .ref (q496 11), .ref (q496 12), .ref (q496 13), .ref (q496 14), .ref (q496 15), .ref (q496 16), .int 0, .int 0])) :: ((q496 0), .inr (9, [.ref (q496 17), .int 0, .int 0, .int 0, .int 0, .long 0, .int 0])) :: ((q496 17), .inl (kA 0, 1600, .inl (fun _ => 0))) :: ((q496 1), .inr (6, [.int 0, .int (-1), .int 0])) :: ((q496 2), .inr (5, [.ref (q496 18), .ref (q496 19), .ref (q496 20), .ref (q496 21), .ref (q496 22), .ref (q496 23), .ref (q496 24), .ref (q496 25), .ref (q496 26), .ref (q496 27), .ref (q496 28), .ref (q496 29), .int 0, .int 0, .int 0])) :: ((q496 3), .inr (5, [.ref (q496 30), .ref (q496 31), .ref (q496 32), .ref (q496 33), .ref (q496 34), .ref (q496 35), .ref (q496 36), .ref (q496 37), .ref (q496 38), .ref (q496 39), .ref (q496 40), .ref (q496 41), .int 0, .int 0, .int 0])) :: ((q496 32), .inl (kA 1, 6, .inl (fun _ => 0))) :: ((q496 4), .inr (2, [.ref (q496 42), .ref (q496 43), .int 0, .int 0, .int 0, .int 0])) :: ((q496 42), .inl (kA 1, 60, .inl (fun _ => 0))) :: ((q496 43), .inl (kA 1, 6, .inl (fun _ => 0))) :: ((q496 5), .inl (kA 4, 3, .inr (.inr (.inr (.inr (va_up (va_up (va_up (fun _ => none) 0 (some (q496 44))) 1 (some (q496 45))) 2 (some (q496 46)))))))) :: ((q496 44), .inr (2, [.ref (q496 47), .ref (q496 48), .int 0, .int 0, .int 0, .int 0])) :: ((q496 47), .inl (kA 1, 60, .inl (fun _ => 0))) :: ((q496 48), .inl (kA 1, 6, .inl (fun _ => 0))) :: ((q496 45), .inr (2, [.ref (q496 49), .ref (q496 50), .int 0, .int 0, .int 0, .int 0])) :: ((q496 49), .inl (kA 1, 60, .inl (fun _ => 0))) :: ((q496 50), .inl (kA 1, 6, .inl (fun _ => 0))) :: ((q496 46), .inr (2, [.ref (q496 51), .ref (q496 52), .int 0, .int 0, .int 0, .int 0])) :: ((q496 51), .inl (kA 1, 60, .inl (fun _ => 0))) :: ((q496 52), .inl (kA 1, 6, .inl (fun _ => 0))) :: ((q496 6), .inl (kA 5, 2, .inr (.inr (.inr (.inr (va_up (va_up (fun _ => none) 0 (some (q496 53))) 1 (some (q496 54)))))))) :: ((q496 53), .inr (10, [.ref (q496 55), .int 0, .int 0, .int 0])) :: ((q496 54), .inr (10, [.ref (q496 56), .int 0, .int 0, .int 0])) :: ((q496 7), .inr (8, [.ref (q496 57), .ref (q496 58), .ref (q496 59), .ref (q496 60), .ref (q496 61), .ref (q496 62), .int 0])) :: ((q496 8), .inr (0, [.ref (q496 63), .ref (q496 64), .ref (q496 65)])) :: ((q496 65), .inl (kA 3, 4, .inl (fun _ => 0))) :: ((q496 9), .inr (3, [.ref (q496 66), .ref (q496 67), .ref (q496 68), .ref (q496 69), .ref (q496 70), .ref (q496 71), .ref (q496 72), .ref (q496 73), .int 0, .int 0, .int 0])) :: ((q496 10), .inr (3, [.ref (q496 74), .ref (q496 75), .ref (q496 76), .ref (q496 77), .ref (q496 78), .ref (q496 79), .ref (q496 80), .ref (q496 81), .int 0, .int 0, .int 0])) :: ((q496 77), .inl (kA 7, 8, .inr (.inr (.inr (.inr (nx_q (q496 77) 8)))))) :: (((q496 77) + 1 + 0), .inl (kA 2, 61, .inr (.inl (fun _ => 0)))) :: (((q496 77) + 1 + 1), .inl (kA 2, 61, .inr (.inl (fun _ => 0)))) :: ((q496 79), .inl (kA 2, 2, .inr (.inl (fun _ => 0)))) :: ((q496 80), .inl (kA 2, 2, .inr (.inl (fun _ => 0)))) :: ((q496 81), .inl (kA 2, 2, .inr (.inl (fun _ => 0)))) :: ((q496 13), .inr (1, [.ref (q496 82), .ref (q496 83), .ref (q496 84), .ref (q496 85)])) :: ((q496 82), .inl (kA 1, 10, .inl (fun _ => 0))) :: ((q496 85), .inl (kA 3, 10, .inl (fun _ => 0))) :: []) [(0, .ref b)] 200 6100 7 [.ref q495]
  refine j_astore_n (lv' := [(1, .ref q495), (0, .ref b)]) h dL_law_7 rfl (by decide) rfl ?_
  refine j_new (ci := 12) (fs := (.null :: .int 0 :: .int 0 :: .int 0 :: .int 0 :: .int 0 :: .int 0 :: .int 0 :: .int 0 :: .long 0 :: .null :: .null :: .null :: .null :: .null :: .null :: .null :: .null :: .null :: .null :: .null :: .null :: .null :: .null :: .null :: .int 0 :: .int 0 :: .int 0 :: .int 0 :: .int 0 :: .int 0 :: .null :: .null :: .null :: .null :: .null :: .int 0 :: .int 0 :: .int 0 :: .null :: .null :: .null :: .int 0 :: .null :: .null :: .null :: .null :: .null :: .null :: .int 0 :: .null :: .null :: .null :: .null :: .null :: .null :: .null :: .null :: .null :: .null :: .null :: .null :: .int 0 :: .int 0 :: .null :: .null :: .null :: .null :: .null :: .null :: [])) h iw_X12 tyX12 tyX12_ok tw_1146 tw_1147 tw_99 rfl (nx_def70 rfl) (Nat.le_of_ble_eq_true rfl) (Nat.le_of_ble_eq_true rfl) dL_law_8 (fun q498 => ?_)
  show J x ((q495, .inr (11, [.ref (q496 0), .ref (q496 1), .ref (q496 2), .ref (q496 3), .ref (q496 4), .ref (q496 5), .ref (q496 6), .ref (q496 7), .ref (q496 8), .ref (q496 9), .ref (q496 10), .ref (q496 11), .ref (q496 12), .ref (q496 13), .ref (q496 14), .ref (q496 15), .ref (q496 16), .int 0, .int 0])) :: ((q496 0), .inr (9, [.ref (q496 17), .int 0, .int 0, .int 0, .int 0, .long 0, .int 0])) :: ((q496 17), .inl (kA 0, 1600, .inl (fun _ => 0))) :: ((q496 1), .inr (6, [.int 0, .int (-1), .int 0])) :: ((q496 2), .inr (5, [.ref (q496 18), .ref (q496 19), .ref (q496 20), .ref (q496 21), .ref (q496 22), .ref (q496 23), .ref (q496 24), .ref (q496 25), .ref (q496 26), .ref (q496 27), .ref (q496 28), .ref (q496 29), .int 0, .int 0, .int 0])) :: ((q496 3), .inr (5, [.ref (q496 30), .ref (q496 31), .ref (q496 32), .ref (q496 33), .ref (q496 34), .ref (q496 35), .ref (q496 36), .ref (q496 37), .ref (q496 38), .ref (q496 39), .ref (q496 40), .ref (q496 41), .int 0, .int 0, .int 0])) :: ((q496 32), .inl (kA 1, 6, .inl (fun _ => 0))) :: ((q496 4), .inr (2, [.ref (q496 42), .ref (q496 43), .int 0, .int 0, .int 0, .int 0])) :: ((q496 42), .inl (kA 1, 60, .inl (fun _ => 0))) :: ((q496 43), .inl (kA 1, 6, .inl (fun _ => 0))) :: ((q496 5), .inl (kA 4, 3, .inr (.inr (.inr (.inr (va_up (va_up (va_up (fun _ => none) 0 (some (q496 44))) 1 (some (q496 45))) 2 (some (q496 46)))))))) :: ((q496 44), .inr (2, [.ref (q496 47), .ref (q496 48), .int 0, .int 0, .int 0, .int 0])) :: ((q496 47), .inl (kA 1, 60, .inl (fun _ => 0))) :: ((q496 48), .inl (kA 1, 6, .inl (fun _ => 0))) :: ((q496 45), .inr (2, [.ref (q496 49), .ref (q496 50), .int 0, .int 0, .int 0, .int 0])) :: ((q496 49), .inl (kA 1, 60, .inl (fun _ => 0))) :: ((q496 50), .inl (kA 1, 6, .inl (fun _ => 0))) :: ((q496 46), .inr (2, [.ref (q496 51), .ref (q496 52), .int 0, .int 0, .int 0, .int 0])) :: ((q496 51), .inl (kA 1, 60, .inl (fun _ => 0))) :: ((q496 52), .inl (kA 1, 6, .inl (fun _ => 0))) :: ((q496 6), .inl (kA 5, 2, .inr (.inr (.inr (.inr (va_up (va_up (fun _ => none) 0 (some (q496 53))) 1 (some (q496 54)))))))) :: ((q496 53), .inr (10, [.ref (q496 55), .int 0, .int 0, .int 0])) :: ((q496 54), .inr (10, [.ref (q496 56), .int 0, .int 0, .int 0])) :: ((q496 7), .inr (8, [.ref (q496 57), .ref (q496 58), .ref (q496 59), .ref (q496 60), .ref (q496 61), .ref (q496 62), .int 0])) :: ((q496 8), .inr (0, [.ref (q496 63), .ref (q496 64), .ref (q496 65)])) :: ((q496 65), .inl (kA 3, 4, .inl (fun _ => 0))) :: ((q496 9), .inr (3, [.ref (q496 66), .ref (q496 67), .ref (q496 68), .ref (q496 69), .ref (q496 70), .ref (q496 71), .ref (q496 72), .ref (q496 73), .int 0, .int 0, .int 0])) :: ((q496 10), .inr (3, [.ref (q496 74), .ref (q496 75), .ref (q496 76), .ref (q496 77), .ref (q496 78), .ref (q496 79), .ref (q496 80), .ref (q496 81), .int 0, .int 0, .int 0])) :: ((q496 77), .inl (kA 7, 8, .inr (.inr (.inr (.inr (nx_q (q496 77) 8)))))) :: (((q496 77) + 1 + 0), .inl (kA 2, 61, .inr (.inl (fun _ => 0)))) :: (((q496 77) + 1 + 1), .inl (kA 2, 61, .inr (.inl (fun _ => 0)))) :: ((q496 79), .inl (kA 2, 2, .inr (.inl (fun _ => 0)))) :: ((q496 80), .inl (kA 2, 2, .inr (.inl (fun _ => 0)))) :: ((q496 81), .inl (kA 2, 2, .inr (.inl (fun _ => 0)))) :: ((q496 13), .inr (1, [.ref (q496 82), .ref (q496 83), .ref (q496 84), .ref (q496 85)])) :: ((q496 82), .inl (kA 1, 10, .inl (fun _ => 0))) :: ((q496 85), .inl (kA 3, 10, .inl (fun _ => 0))) :: (q498, .inr (12, (.null :: .int 0 :: .int 0 :: .int 0 :: .int 0 :: .int 0 :: .int 0 :: .int 0 :: .int 0 :: .long 0 :: .null :: .null :: .null :: .null :: .null :: .null :: .null :: .null :: .null :: .null :: .null :: .null :: .null :: .null :: .null :: .int 0 :: .int 0 :: .int 0 :: .int 0 :: .int 0 :: .int 0 :: .null :: .null :: .null :: .null :: .null :: .int 0 :: .int 0 :: .int 0 :: .null :: .null :: .null :: .int 0 :: .null :: .null :: .null :: .null :: .null :: .null :: .int 0 :: .null :: .null :: .null :: .null :: .null :: .null :: .null :: .null :: .null :: .null :: .null :: .null :: .int 0 :: .int 0 :: .null :: .null :: .null :: .null :: .null :: .null :: []))) :: []) [(1, .ref q495), (0, .ref b)] 201 6170 11 [.ref q498]
  refine j_dup h rfl dL_law_11 ?_
  refine j_callI (rt := none) (np := 0) (isC := [37]) (isR := [0, 1, 2, 3, 4, 5, 6, 7, 8, 9, 10, 11, 12, 13, 14, 15, 16, 17, 18, 19, 20, 21, 22, 23, 24, 25, 26, 27, 28, 29, 30, 31, 32, 33, 34, 35, 36]) (wc := [(q498, .inr (12, (.null :: .int 0 :: .int 0 :: .int 0 :: .int 0 :: .int 0 :: .int 0 :: .int 0 :: .int 0 :: .long 0 :: .null :: .null :: .null :: .null :: .null :: .null :: .null :: .null :: .null :: .null :: .null :: .null :: .null :: .null :: .null :: .int 0 :: .int 0 :: .int 0 :: .int 0 :: .int 0 :: .int 0 :: .null :: .null :: .null :: .null :: .null :: .int 0 :: .int 0 :: .int 0 :: .null :: .null :: .null :: .int 0 :: .null :: .null :: .null :: .null :: .null :: .null :: .int 0 :: .null :: .null :: .null :: .null :: .null :: .null :: .null :: .null :: .null :: .null :: .null :: .null :: .int 0 :: .int 0 :: .null :: .null :: .null :: .null :: .null :: .null :: [])))]) (wr := ((q495, .inr (11, [.ref (q496 0), .ref (q496 1), .ref (q496 2), .ref (q496 3), .ref (q496 4), .ref (q496 5), .ref (q496 6), .ref (q496 7), .ref (q496 8), .ref (q496 9), .ref (q496 10), .ref (q496 11), .ref (q496 12), .ref (q496 13), .ref (q496 14), .ref (q496 15), .ref (q496 16), .int 0, .int 0])) :: ((q496 0), .inr (9, [.ref (q496 17), .int 0, .int 0, .int 0, .int 0, .long 0, .int 0])) :: ((q496 17), .inl (kA 0, 1600, .inl (fun _ => 0))) :: ((q496 1), .inr (6, [.int 0, .int (-1), .int 0])) :: ((q496 2), .inr (5, [.ref (q496 18), .ref (q496 19), .ref (q496 20), .ref (q496 21), .ref (q496 22), .ref (q496 23), .ref (q496 24), .ref (q496 25), .ref (q496 26), .ref (q496 27), .ref (q496 28), .ref (q496 29), .int 0, .int 0, .int 0])) :: ((q496 3), .inr (5, [.ref (q496 30), .ref (q496 31), .ref (q496 32), .ref (q496 33), .ref (q496 34), .ref (q496 35), .ref (q496 36), .ref (q496 37), .ref (q496 38), .ref (q496 39), .ref (q496 40), .ref (q496 41), .int 0, .int 0, .int 0])) :: ((q496 32), .inl (kA 1, 6, .inl (fun _ => 0))) :: ((q496 4), .inr (2, [.ref (q496 42), .ref (q496 43), .int 0, .int 0, .int 0, .int 0])) :: ((q496 42), .inl (kA 1, 60, .inl (fun _ => 0))) :: ((q496 43), .inl (kA 1, 6, .inl (fun _ => 0))) :: ((q496 5), .inl (kA 4, 3, .inr (.inr (.inr (.inr (va_up (va_up (va_up (fun _ => none) 0 (some (q496 44))) 1 (some (q496 45))) 2 (some (q496 46)))))))) :: ((q496 44), .inr (2, [.ref (q496 47), .ref (q496 48), .int 0, .int 0, .int 0, .int 0])) :: ((q496 47), .inl (kA 1, 60, .inl (fun _ => 0))) :: ((q496 48), .inl (kA 1, 6, .inl (fun _ => 0))) :: ((q496 45), .inr (2, [.ref (q496 49), .ref (q496 50), .int 0, .int 0, .int 0, .int 0])) :: ((q496 49), .inl (kA 1, 60, .inl (fun _ => 0))) :: ((q496 50), .inl (kA 1, 6, .inl (fun _ => 0))) :: ((q496 46), .inr (2, [.ref (q496 51), .ref (q496 52), .int 0, .int 0, .int 0, .int 0])) :: ((q496 51), .inl (kA 1, 60, .inl (fun _ => 0))) :: ((q496 52), .inl (kA 1, 6, .inl (fun _ => 0))) :: ((q496 6), .inl (kA 5, 2, .inr (.inr (.inr (.inr (va_up (va_up (fun _ => none) 0 (some (q496 53))) 1 (some (q496 54)))))))) :: ((q496 53), .inr (10, [.ref (q496 55), .int 0, .int 0, .int 0])) :: ((q496 54), .inr (10, [.ref (q496 56), .int 0, .int 0, .int 0])) :: ((q496 7), .inr (8, [.ref (q496 57), .ref (q496 58), .ref (q496 59), .ref (q496 60), .ref (q496 61), .ref (q496 62), .int 0])) :: ((q496 8), .inr (0, [.ref (q496 63), .ref (q496 64), .ref (q496 65)])) :: ((q496 65), .inl (kA 3, 4, .inl (fun _ => 0))) :: ((q496 9), .inr (3, [.ref (q496 66), .ref (q496 67), .ref (q496 68), .ref (q496 69), .ref (q496 70), .ref (q496 71), .ref (q496 72), .ref (q496 73), .int 0, .int 0, .int 0])) :: ((q496 10), .inr (3, [.ref (q496 74), .ref (q496 75), .ref (q496 76), .ref (q496 77), .ref (q496 78), .ref (q496 79), .ref (q496 80), .ref (q496 81), .int 0, .int 0, .int 0])) :: ((q496 77), .inl (kA 7, 8, .inr (.inr (.inr (.inr (nx_q (q496 77) 8)))))) :: (((q496 77) + 1 + 0), .inl (kA 2, 61, .inr (.inl (fun _ => 0)))) :: (((q496 77) + 1 + 1), .inl (kA 2, 61, .inr (.inl (fun _ => 0)))) :: ((q496 79), .inl (kA 2, 2, .inr (.inl (fun _ => 0)))) :: ((q496 80), .inl (kA 2, 2, .inr (.inl (fun _ => 0)))) :: ((q496 81), .inl (kA 2, 2, .inr (.inl (fun _ => 0)))) :: ((q496 13), .inr (1, [.ref (q496 82), .ref (q496 83), .ref (q496 84), .ref (q496 85)])) :: ((q496 82), .inl (kA 1, 10, .inl (fun _ => 0))) :: ((q496 85), .inl (kA 3, 10, .inl (fun _ => 0))) :: [])) (rest := [.ref q498]) (As := []) h (c_X12_init _ _ kA q498 ) tw_1148 tw_1149 tw_99 tw_1150 rfl (by decide +kernel) rfl ⟨Nat.le_of_ble_eq_true rfl, Nat.le_of_ble_eq_true rfl⟩ rfl (by decide) rfl rfl (by decide) (by decide) (Nat.le_of_ble_eq_true rfl) rfl ⟨Nat.le_of_ble_eq_true rfl, Nat.le_of_ble_eq_true rfl⟩ dL_law_12 ?_
  rintro ⟨q499, q500⟩ e501
  show J x ((q495, .inr (11, [.ref (q496 0), .ref (q496 1), .ref (q496 2), .ref (q496 3), .ref (q496 4), .ref (q496 5), .ref (q496 6), .ref (q496 7), .ref (q496 8), .ref (q496 9), .ref (q496 10), .ref (q496 11), .ref (q496 12), .ref (q496 13), .ref (q496 14), .ref (q496 15), .ref (q496 16), .int 0, .int 0])) :: ((q496 0), .inr (9, [.ref (q496 17), .int 0, .int 0, .int 0, .int 0, .long 0, .int 0])) :: ((q496 17), .inl (kA 0, 1600, .inl (fun _ => 0))) :: ((q496 1), .inr (6, [.int 0, .int (-1), .int 0])) :: ((q496 2), .inr (5, [.ref (q496 18), .ref (q496 19), .ref (q496 20), .ref (q496 21), .ref (q496 22), .ref (q496 23), .ref (q496 24), .ref (q496 25), .ref (q496 26), .ref (q496 27), .ref (q496 28), .ref (q496 29), .int 0, .int 0, .int 0])) :: ((q496 3), .inr (5, [.ref (q496 30), .ref (q496 31), .ref (q496 32), .ref (q496 33), .ref (q496 34), .ref (q496 35), .ref (q496 36), .ref (q496 37), .ref (q496 38), .ref (q496 39), .ref (q496 40), .ref (q496 41), .int 0, .int 0, .int 0])) :: ((q496 32), .inl (kA 1, 6, .inl (fun _ => 0))) :: ((q496 4), .inr (2, [.ref (q496 42), .ref (q496 43), .int 0, .int 0, .int 0, .int 0])) :: ((q496 42), .inl (kA 1, 60, .inl (fun _ => 0))) :: ((q496 43), .inl (kA 1, 6, .inl (fun _ => 0))) :: ((q496 5), .inl (kA 4, 3, .inr (.inr (.inr (.inr (va_up (va_up (va_up (fun _ => none) 0 (some (q496 44))) 1 (some (q496 45))) 2 (some (q496 46)))))))) :: ((q496 44), .inr (2, [.ref (q496 47), .ref (q496 48), .int 0, .int 0, .int 0, .int 0])) :: ((q496 47), .inl (kA 1, 60, .inl (fun _ => 0))) :: ((q496 48), .inl (kA 1, 6, .inl (fun _ => 0))) :: ((q496 45), .inr (2, [.ref (q496 49), .ref (q496 50), .int 0, .int 0, .int 0, .int 0])) :: ((q496 49), .inl (kA 1, 60, .inl (fun _ => 0))) :: ((q496 50), .inl (kA 1, 6, .inl (fun _ => 0))) :: ((q496 46), .inr (2, [.ref (q496 51), .ref (q496 52), .int 0, .int 0, .int 0, .int 0])) :: ((q496 51), .inl (kA 1, 60, .inl (fun _ => 0))) :: ((q496 52), .inl (kA 1, 6, .inl (fun _ => 0))) :: ((q496 6), .inl (kA 5, 2, .inr (.inr (.inr (.inr (va_up (va_up (fun _ => none) 0 (some (q496 53))) 1 (some (q496 54)))))))) :: ((q496 53), .inr (10, [.ref (q496 55), .int 0, .int 0, .int 0])) :: ((q496 54), .inr (10, [.ref (q496 56), .int 0, .int 0, .int 0])) :: ((q496 7), .inr (8, [.ref (q496 57), .ref (q496 58), .ref (q496 59), .ref (q496 60), .ref (q496 61), .ref (q496 62), .int 0])) :: ((q496 8), .inr (0, [.ref (q496 63), .ref (q496 64), .ref (q496 65)])) :: ((q496 65), .inl (kA 3, 4, .inl (fun _ => 0))) :: ((q496 9), .inr (3, [.ref (q496 66), .ref (q496 67), .ref (q496 68), .ref (q496 69), .ref (q496 70), .ref (q496 71), .ref (q496 72), .ref (q496 73), .int 0, .int 0, .int 0])) :: ((q496 10), .inr (3, [.ref (q496 74), .ref (q496 75), .ref (q496 76), .ref (q496 77), .ref (q496 78), .ref (q496 79), .ref (q496 80), .ref (q496 81), .int 0, .int 0, .int 0])) :: ((q496 77), .inl (kA 7, 8, .inr (.inr (.inr (.inr (nx_q (q496 77) 8)))))) :: (((q496 77) + 1 + 0), .inl (kA 2, 61, .inr (.inl (fun _ => 0)))) :: (((q496 77) + 1 + 1), .inl (kA 2, 61, .inr (.inl (fun _ => 0)))) :: ((q496 79), .inl (kA 2, 2, .inr (.inl (fun _ => 0)))) :: ((q496 80), .inl (kA 2, 2, .inr (.inl (fun _ => 0)))) :: ((q496 81), .inl (kA 2, 2, .inr (.inl (fun _ => 0)))) :: ((q496 13), .inr (1, [.ref (q496 82), .ref (q496 83), .ref (q496 84), .ref (q496 85)])) :: ((q496 82), .inl (kA 1, 10, .inl (fun _ => 0))) :: ((q496 85), .inl (kA 3, 10, .inl (fun _ => 0))) :: (q498, .inr (12, (.ref (q499 0) :: .int 0 :: .int 0 :: .int (-1) :: .int 0 :: .int 0 :: .int 0 :: .int 0 :: .int 0 :: .long 0 :: .ref (q499 10) :: .ref (q499 11) :: .ref (q499 12) :: .ref (q499 13) :: .ref (q499 14) :: .ref (q499 15) :: .ref (q499 16) :: .ref (q499 17) :: .ref (q499 18) :: .ref (q499 19) :: .ref (q499 20) :: .ref (q499 21) :: .ref (q499 22) :: .ref (q499 23) :: .ref (q499 24) :: .int 0 :: .int 0 :: .int 0 :: .int 0 :: .int 0 :: .int 0 :: .ref (q499 31) :: .ref (q499 32) :: .ref (q499 33) :: .ref (q499 34) :: .ref (q499 35) :: .int 0 :: .int 0 :: .int 0 :: .ref (q499 39) :: .ref (q499 40) :: .ref (q499 41) :: .int 0 :: .ref (q499 43) :: .ref (q499 44) :: .ref (q499 45) :: .ref (q499 46) :: .ref (q499 47) :: .ref (q499 48) :: .int 0 :: .ref (q499 50) :: .ref (q499 51) :: .ref (q499 52) :: .ref (q499 53) :: .ref (q499 54) :: .ref (q499 55) :: .ref (q499 56) :: .ref (q499 57) :: .ref (q499 58) :: .ref (q499 59) :: .ref (q499 60) :: .ref (q499 61) :: .int 0 :: .int 0 :: .ref (q499 64) :: .ref (q499 65) :: .ref (q499 66) :: .ref (q499 67) :: .ref (q499 68) :: .ref (q499 69) :: []))) :: ((q499 0), .inl (kA 1, 1600, .inl (fun _ => 0))) :: ((q499 11), .inl (kA 1, 6, .inl (fun _ => 0))) :: ((q499 12), .inl (kA 1, 6, .inl (fun _ => 0))) :: ((q499 13), .inl (kA 1, 6, .inl (fun _ => 0))) :: ((q499 14), .inl (kA 1, 10, .inl (fun _ => 0))) :: ((q499 15), .inl (kA 1, 50, .inl (fun _ => 0))) :: ((q499 16), .inl (kA 1, 4, .inl (fun _ => 0))) :: ((q499 17), .inl (kA 1, 4, .inl (fun _ => 0))) :: ((q499 18), .inl (kA 1, 6, .inl (fun _ => 0))) :: ((q499 19), .inl (kA 1, 6, .inl (fun _ => 0))) :: ((q499 20), .inl (kA 1, 6, .inl (fun _ => 0))) :: ((q499 21), .inl (kA 1, 10, .inl (fun _ => 0))) :: ((q499 22), .inl (kA 1, 50, .inl (fun _ => 0))) :: ((q499 23), .inl (kA 1, 4, .inl (fun _ => 0))) :: ((q499 24), .inl (kA 1, 4, .inl (fun _ => 0))) :: ((q499 32), .inl (kA 1, 450, .inl (fun _ => 0))) :: ((q499 34), .inl (kA 1, 60, .inl q500)) :: ((q499 45), .inl (kA 1, 2, .inl (fun _ => 0))) :: ((q499 51), .inl (kA 3, 60, .inl (fun _ => 0))) :: ((q499 52), .inl (kA 2, 122, .inr (.inl (fun _ => 0)))) :: ((q499 53), .inl (kA 1, 10, .inl (fun _ => 0))) :: ((q499 64), .inl (kA 3, 122, .inl (fun _ => 0))) :: ((q499 65), .inl (kA 3, 122, .inl (fun _ => 0))) :: ((q499 66), .inl (kA 3, 3, .inl (fun _ => 0))) :: ((q499 67), .inl (kA 1, 3, .inl (fun _ => 0))) :: ((q499 68), .inl (kA 1, 24, .inl (fun _ => 0))) :: []) [(1, .ref q495), (0, .ref b)] 249 10950 15 [.ref q498]
  refine j_astore_n (lv' := [(2, .ref q498), (1, .ref q495), (0, .ref b)]) h dL_law_15 rfl (by decide) rfl ?_
  refine j_iconst (v := 0) h (by decide) dL_law_16 ?_
  refine j_istore_n (lv' := [(3, .int 0), (2, .ref q498), (1, .ref q495), (0, .ref b)]) h dL_law_17 rfl (by decide) rfl ?_
  rcases Nat.lt_or_ge L 6 with hlt | hge
  · refine j_iload_n h 0 rfl rfl dL_law_18 ?_
    refine j_aload_n h 3 rfl rfl dL_law_19 ?_
    refine j_slen h hX hbl hbA dL_law_20 ?_
    refine j_bipush (v := 6) h (by decide) dL_law_21 ?_
    refine j_isub h dL_law_23 ?_
    refine j_icmp_gt h 994 dL_law_24 (by decide) (fun _ => ?_) (fun q => absurd (pk_sneg (b := 6) (by decide) hlt) q)
    exact hend _ _
  · obtain rfl : L = 6 := by omega
    refine j_iload_n h 0 rfl rfl dL_law_18 ?_
    refine j_aload_n h 3 rfl rfl dL_law_19 ?_
    refine j_slen h hX hbl hbA dL_law_20 ?_
    refine j_bipush (v := 6) h (by decide) dL_law_21 ?_
    refine j_isub h dL_law_23 ?_
    refine j_top (b := 0) (by decide) ?_
    refine j_icmp_gt h 994 dL_law_24 (by decide) (fun q => absurd q (by decide)) (fun _ => ?_)
    refine j_aload_n h 3 rfl rfl dL_law_27 ?_
    refine j_iload_n h 0 rfl rfl dL_law_28 ?_
    refine j_sld h hX hbl hbA 0 (by decide) (by decide) (by decide) dL_law_29 ?_
    refine j_bipush (v := 31) h (by decide) dL_law_30 ?_
    refine j_iand h dL_law_32 ?_
    obtain ⟨j, hj, ej⟩ := pk_andE (xs 0) (m := 31) 5 (by decide)
    have hj : j < 32 := hj
    rcases (show j = 0 ∨ j = 1 ∨ j = 2 ∨ j = 3 ∨ j = 4 ∨ j = 5 ∨ j = 6 ∨ j = 7 ∨ j = 8 ∨ j = 9 ∨ j = 10 ∨ j = 11 ∨ j = 12 ∨ j = 13 ∨ j = 14 ∨ j = 15 ∨ j = 16 ∨ j = 17 ∨ j = 18 ∨ j = 19 ∨ j = 20 ∨ j = 21 ∨ j = 22 ∨ j = 23 ∨ j = 24 ∨ j = 25 ∨ j = 26 ∨ j = 27 ∨ 28 ≤ j by omega) with rfl | rfl | rfl | rfl | rfl | rfl | rfl | rfl | rfl | rfl | rfl | rfl | rfl | rfl | rfl | rfl | rfl | rfl | rfl | rfl | rfl | rfl | rfl | rfl | rfl | rfl | rfl | rfl | hge
    · refine j_top (b := 0) ej ?_
      refine j_tabIn h 160 dL_law_33 (by decide) (by decide) rfl (by decide) ?_
      exact lw_c0 h hX hbl hbA hend q495 q498 q496 q499 q500
    · refine j_top (b := 1) ej ?_
      refine j_tabIn h 223 dL_law_33 (by decide) (by decide) rfl (by decide) ?_
      exact lw_c1 h hX hbl hbA hend q495 q498 q496 q499 q500
    · refine j_top (b := 2) ej ?_
      refine j_tabIn h 246 dL_law_33 (by decide) (by decide) rfl (by decide) ?_
      exact lw_c2 h hX hbl hbA hend q495 q498 q496 q499 q500
    · refine j_top (b := 3) ej ?_
      refine j_tabIn h 259 dL_law_33 (by decide) (by decide) rfl (by decide) ?_
      exact lw_c3 h hX hbl hbA hend q495 q498 q496 q499 q500
    · refine j_top (b := 4) ej ?_
      refine j_tabIn h 282 dL_law_33 (by decide) (by decide) rfl (by decide) ?_
      exact lw_c4 h hX hbl hbA hend q495 q498 q496 q499 q500
    · refine j_top (b := 5) ej ?_
      refine j_tabIn h 305 dL_law_33 (by decide) (by decide) rfl (by decide) ?_
      exact lw_c5 h hX hbl hbA hend q495 q498 q496 q499 q500
    · refine j_top (b := 6) ej ?_
      refine j_tabIn h 328 dL_law_33 (by decide) (by decide) rfl (by decide) ?_
      exact lw_c6 h hX hbl hbA hend q495 q498 q496 q499 q500
    · refine j_top (b := 7) ej ?_
      refine j_tabIn h 341 dL_law_33 (by decide) (by decide) rfl (by decide) ?_
      exact lw_c7 h hX hbl hbA hend q495 q498 q496 q499 q500
    · refine j_top (b := 8) ej ?_
      refine j_tabIn h 374 dL_law_33 (by decide) (by decide) rfl (by decide) ?_
      exact lw_c8 h hX hbl hbA hend q495 q498 q496 q499 q500
    · refine j_top (b := 9) ej ?_
      refine j_tabIn h 408 dL_law_33 (by decide) (by decide) rfl (by decide) ?_
      exact lw_c9 h hX hbl hbA hend q495 q498 q496 q499 q500
    · refine j_top (b := 10) ej ?_
      refine j_tabIn h 431 dL_law_33 (by decide) (by decide) rfl (by decide) ?_
      exact lw_c10 h hX hbl hbA hend q495 q498 q496 q499 q500
    · refine j_top (b := 11) ej ?_
      refine j_tabIn h 484 dL_law_33 (by decide) (by decide) rfl (by decide) ?_
      exact lw_c11 h hX hbl hbA hend q495 q498 q496 q499 q500
    · refine j_top (b := 12) ej ?_
      refine j_tabIn h 517 dL_law_33 (by decide) (by decide) rfl (by decide) ?_
      exact lw_c12 h hX hbl hbA hend q495 q498 q496 q499 q500
    · refine j_top (b := 13) ej ?_
      refine j_tabIn h 540 dL_law_33 (by decide) (by decide) rfl (by decide) ?_
      exact lw_c13 h hX hbl hbA hend q495 q498 q496 q499 q500
    · refine j_top (b := 14) ej ?_
      refine j_tabIn h 574 dL_law_33 (by decide) (by decide) rfl (by decide) ?_
      exact lw_c14 h hX hbl hbA hend q495 q498 q496 q499 q500
    · refine j_top (b := 15) ej ?_
      refine j_tabIn h 617 dL_law_33 (by decide) (by decide) rfl (by decide) ?_
      exact lw_c15 h hX hbl hbA hend q495 q498 q496 q499 q500
    · refine j_top (b := 16) ej ?_
      refine j_tabIn h 640 dL_law_33 (by decide) (by decide) rfl (by decide) ?_
      exact lw_c16 h hX hbl hbA hend q495 q498 q496 q499 q500
    · refine j_top (b := 17) ej ?_
      refine j_tabIn h 674 dL_law_33 (by decide) (by decide) rfl (by decide) ?_
      exact lw_c17 h hX hbl hbA hend q495 q498 q496 q499 q500
    · refine j_top (b := 18) ej ?_
      refine j_tabIn h 687 dL_law_33 (by decide) (by decide) rfl (by decide) ?_
      exact lw_c18 h hX hbl hbA hend q495 q498 q496 q499 q500
    · refine j_top (b := 19) ej ?_
      refine j_tabIn h 710 dL_law_33 (by decide) (by decide) rfl (by decide) ?_
      exact lw_c19 h hX hbl hbA hend q495 q498 q496 q499 q500
    · refine j_top (b := 20) ej ?_
      refine j_tabIn h 743 dL_law_33 (by decide) (by decide) rfl (by decide) ?_
      exact lw_c20 h hX hbl hbA hend q495 q498 q496 q499 q500
    · refine j_top (b := 21) ej ?_
      refine j_tabIn h 796 dL_law_33 (by decide) (by decide) rfl (by decide) ?_
      exact lw_c21 h hX hbl hbA hend q495 q498 q496 q499 q500
    · refine j_top (b := 22) ej ?_
      refine j_tabIn h 819 dL_law_33 (by decide) (by decide) rfl (by decide) ?_
      exact lw_c22 h hX hbl hbA hend q495 q498 q496 q499 q500
    · refine j_top (b := 23) ej ?_
      refine j_tabIn h 842 dL_law_33 (by decide) (by decide) rfl (by decide) ?_
      exact lw_c23 h hX hbl hbA hend q495 q498 q496 q499 q500
    · refine j_top (b := 24) ej ?_
      refine j_tabIn h 876 dL_law_33 (by decide) (by decide) rfl (by decide) ?_
      exact lw_c24 h hX hbl hbA hend q495 q498 q496 q499 q500
    · refine j_top (b := 25) ej ?_
      refine j_tabIn h 919 dL_law_33 (by decide) (by decide) rfl (by decide) ?_
      exact lw_c25 h hX hbl hbA hend q495 q498 q496 q499 q500
    · refine j_top (b := 26) ej ?_
      refine j_tabIn h 942 dL_law_33 (by decide) (by decide) rfl (by decide) ?_
      exact lw_c26 h hX hbl hbA hend q495 q498 q496 q499 q500
    · refine j_top (b := 27) ej ?_
      refine j_tabIn h 965 dL_law_33 (by decide) (by decide) rfl (by decide) ?_
      exact lw_c27 h hX hbl hbA hend q495 q498 q496 q499 q500
    · refine j_top (b := nI j) ej ?_
      refine j_tabOut h 988 dL_law_33 (Or.inr (by rw [nI_toInt (by omega)]; omega)) (by decide) ?_
      exact lw_c28 h hX hbl hbA hend q495 q498 q496 q499 q500
set_option maxHeartbeats 4000000 in
set_option maxRecDepth 100000 in
theorem whole_start {p : Program} {e : Env} {s : State} {m : MethodId} {below : List Frame} {meth : Method} {c : Code} (l : Launch) {b L : Nat} {xs : Nat → Int32} (hL : L ≤ 6) (C0 : lw_At p s m meth c b L xs) : W p l e room_1 s m #[Value.ref b] below meth c s.heap [] 0 0 (lw_Z below #[Value.ref b] s) (entryFrame m ([Value.ref b] : List Value).toArray 4) := by
  obtain ⟨hx, hb, hr, hml, hown, hts, hX, hbl, hlocks, hgv⟩ := id C0
  have htt : ∀ w ∈ TT, w.before #[Value.ref b] s = true := fun w hw => hts w (TT_in w hw)
  obtain ⟨c0, iS0, hKn0⟩ := u_known (C := RX0) (T := TX0) (N := 3) (n := 3) htt iw_X0 (htt _ tw_351)
  obtain ⟨c1, iS1, hKn1⟩ := u_known (C := RX1) (T := TX1) (N := 4) (n := 4) htt iw_X1 (htt _ tw_457)
  obtain ⟨c2, iS2, hKn2⟩ := u_known (C := RX2) (T := TX2) (N := 6) (n := 6) htt iw_X2 (htt _ tw_266)
  obtain ⟨c3, iS3, hKn3⟩ := u_known (C := RX3) (T := TX3) (N := 11) (n := 11) htt iw_X3 (htt _ tw_369)
  obtain ⟨c4, iS4, hKn4⟩ := u_known (C := RX4) (T := TX4) (N := 5) (n := 5) htt iw_X4 (htt _ tw_415)
  obtain ⟨c5, iS5, hKn5⟩ := u_known (C := RX5) (T := TX5) (N := 15) (n := 15) htt iw_X5 (htt _ tw_168)
  obtain ⟨c6, iS6, hKn6⟩ := u_known (C := RX6) (T := TX6) (N := 3) (n := 3) htt iw_X6 (htt _ tw_150)
  obtain ⟨c7, iS7, hKn7⟩ := u_known (C := RX7) (T := TX7) (N := 4) (n := 4) htt iw_X7 (htt _ tw_438)
  obtain ⟨c8, iS8, hKn8⟩ := u_known (C := RX8) (T := TX8) (N := 7) (n := 7) htt iw_X8 (htt _ tw_322)
  obtain ⟨c9, iS9, hKn9⟩ := u_known (C := RX9) (T := TX9) (N := 7) (n := 7) htt iw_X9 (htt _ tw_116)
  obtain ⟨c10, iS10, hKn10⟩ := u_known (C := RX10) (T := TX10) (N := 4) (n := 4) htt iw_X10 (htt _ tw_297)
  obtain ⟨c11, iS11, hKn11⟩ := u_known (C := RX11) (T := TX11) (N := 19) (n := 19) htt iw_X11 (htt _ tw_108)
  obtain ⟨c12, iS12, hKn12⟩ := u_known (C := RX12) (T := TX12) (N := 70) (n := 70) htt iw_X12 (htt _ tw_1147)
  obtain ⟨k0, a0, r0⟩ := nx_cls (htt _ tw_148)
  obtain ⟨k1, a1, r1⟩ := nx_cls (htt _ tw_264)
  obtain ⟨k2, a2, r2⟩ := nx_cls (htt _ tw_263)
  obtain ⟨k3, a3, r3⟩ := nx_cls (htt _ tw_367)
  have w4 : (Cond.arrayOver (.object RX2)).before #[Value.ref b] s = true := hts _ (List.mem_of_getElem? (i := 294) (by decide +kernel))
  have w5 : (Cond.arrayOver (.object RX10)).before #[Value.ref b] s = true := hts _ (List.mem_of_getElem? (i := 296) (by decide +kernel))
  have w6 : (Cond.arrayOver (.array .int)).before #[Value.ref b] s = true := hts _ (List.mem_of_getElem? (i := 174) (by decide +kernel))
  have w7 : (Cond.arrayOver (.array .long)).before #[Value.ref b] s = true := hts _ (List.mem_of_getElem? (i := 375) (by decide +kernel))
  obtain ⟨k4, a4, r4⟩ := nx_clsO w4
  obtain ⟨k5, a5, r5⟩ := nx_clsO w5
  obtain ⟨k6, a6, r6⟩ := nx_clsA w6
  obtain ⟨k7, a7, r7⟩ := nx_clsA w7
  obtain ⟨kA, hk0, hk1, hk2, hk3, hk4, hk5, hk6, hk7⟩ : ∃ kA : Nat → ClassId, kA 0 = k0 ∧ kA 1 = k1 ∧ kA 2 = k2 ∧ kA 3 = k3 ∧ kA 4 = k4 ∧ kA 5 = k5 ∧ kA 6 = k6 ∧ kA 7 = k7 := ⟨fun k => match k with | 0 => k0 | 1 => k1 | 2 => k2 | 3 => k3 | 4 => k4 | 5 => k5 | 6 => k6 | _ => k7, rfl, rfl, rfl, rfl, rfl, rfl, rfl, rfl⟩
  subst hk0
  subst hk1
  subst hk2
  subst hk3
  subst hk4
  subst hk5
  subst hk6
  subst hk7
  obtain ⟨dC, dI, hKc⟩ : ∃ (dC : Nat → ClassId) (dI : Nat → Nat → Nat), ∀ (k : Nat) (q : vw_C), vwCl[k]? = some q → u_Kn s q.1 q.2.1 q.2.2 (dC k) (dI k) := by
    refine ⟨fun k => match k with | 0 => c0 | 1 => c1 | 2 => c2 | 3 => c3 | 4 => c4 | 5 => c5 | 6 => c6 | 7 => c7 | 8 => c8 | 9 => c9 | 10 => c10 | 11 => c11 | _ => c12, fun k => match k with | 0 => iS0 | 1 => iS1 | 2 => iS2 | 3 => iS3 | 4 => iS4 | 5 => iS5 | 6 => iS6 | 7 => iS7 | 8 => iS8 | 9 => iS9 | 10 => iS10 | 11 => iS11 | _ => iS12, ?_⟩
    intro k q hq
    match k, hq with
    | 0, hq => cases hq; exact hKn0
    | 1, hq => cases hq; exact hKn1
    | 2, hq => cases hq; exact hKn2
    | 3, hq => cases hq; exact hKn3
    | 4, hq => cases hq; exact hKn4
    | 5, hq => cases hq; exact hKn5
    | 6, hq => cases hq; exact hKn6
    | 7, hq => cases hq; exact hKn7
    | 8, hq => cases hq; exact hKn8
    | 9, hq => cases hq; exact hKn9
    | 10, hq => cases hq; exact hKn10
    | 11, hq => cases hq; exact hKn11
    | 12, hq => cases hq; exact hKn12
    | k + 13, hq => simp [vwCl] at hq
  have hK : va_K (dC, dI) vwCl (TY kA) s := ⟨hKc, fun k q hq => by
    match k, hq with
    | 0, hq => cases hq; exact ⟨a0, r0⟩
    | 1, hq => cases hq; exact ⟨a1, r1⟩
    | 2, hq => cases hq; exact ⟨a2, r2⟩
    | 3, hq => cases hq; exact ⟨a3, r3⟩
    | 4, hq => cases hq; exact ⟨a4, r4⟩
    | 5, hq => cases hq; exact ⟨a5, r5⟩
    | 6, hq => cases hq; exact ⟨a6, r6⟩
    | 7, hq => cases hq; exact ⟨a7, r7⟩
    | k + 8, hq => simp [TY] at hq⟩
  have hN : nNW s := ⟨(List.forall_mem_cons.mpr ⟨va_Nw.of rfl (hts _ (List.mem_of_getElem? (i := 117) (by decide +kernel))), (List.forall_mem_cons.mpr ⟨va_Nw.of rfl (hts _ (List.mem_of_getElem? (i := 151) (by decide +kernel))), (List.forall_mem_cons.mpr ⟨va_Nw.of rfl (hts _ (List.mem_of_getElem? (i := 169) (by decide +kernel))), (List.forall_mem_cons.mpr ⟨va_Nw.of rfl (hts _ (List.mem_of_getElem? (i := 267) (by decide +kernel))), (List.forall_mem_cons.mpr ⟨va_Nw.of rfl (hts _ (List.mem_of_getElem? (i := 298) (by decide +kernel))), (List.forall_mem_cons.mpr ⟨va_Nw.of rfl (hts _ (List.mem_of_getElem? (i := 323) (by decide +kernel))), (List.forall_mem_cons.mpr ⟨va_Nw.of rfl (hts _ (List.mem_of_getElem? (i := 352) (by decide +kernel))), (List.forall_mem_cons.mpr ⟨va_Nw.of rfl (hts _ (List.mem_of_getElem? (i := 416) (by decide +kernel))), (List.forall_mem_cons.mpr ⟨va_Nw.of rfl (hts _ (List.mem_of_getElem? (i := 439) (by decide +kernel))), (List.forall_mem_cons.mpr ⟨va_Nw.of rfl (hts _ (List.mem_of_getElem? (i := 458) (by decide +kernel))), (List.forall_mem_cons.mpr ⟨va_Nw.of rfl (hts _ (List.mem_of_getElem? (i := 908) (by decide +kernel))), (List.forall_mem_cons.mpr ⟨va_Nw.of rfl (hts _ (List.mem_of_getElem? (i := 1001) (by decide +kernel))), (List.forall_mem_cons.mpr ⟨va_Nw.of rfl (hts _ (List.mem_of_getElem? (i := 805) (by decide +kernel))), (fun _ h9 => absurd h9 List.not_mem_nil)⟩)⟩)⟩)⟩)⟩)⟩)⟩)⟩)⟩)⟩)⟩)⟩)⟩), va_AO.of w4, va_AO.of w5, nAOA.of w6, nAOA.of w7⟩
  have hA : ∀ q : Nat, s.heap.size ≤ q → (fun q : Nat => s.heap.size ≤ q) q := fun _ h => h
  have hbA : ¬ (fun q : Nat => s.heap.size ≤ q) b := Nat.not_le.mpr hbl
  have hP : va_P (dC, dI) vwCl [] s.heap := fun k q h => by simp at h
  have hD : va_D (fun q : Nat => s.heap.size ≤ q) [] := ⟨fun i j p q h => by simp at h, fun k q h => by simp at h⟩
  have hl := lv_entry ([.ref b]) (n := 4) (Nat.le_of_ble_eq_true rfl)
  rw [lg_entry_eq]
  have OK : Ok ((p, l, e, room_1), (s, m, #[Value.ref b], below), (meth, c), ((fun q : Nat => s.heap.size ≤ q), (dC, dI), 4), lw_Z below #[Value.ref b] s) cL_law RL kA room_1 4 := ⟨hx, hb, hml, hown, htt, hK, hN, hA, rfl, hlocks, rfl⟩
  have hend : ∀ (ws : va_W) (lv : List (Nat × Value)), J ((p, l, e, room_1), (s, m, #[Value.ref b], below), (meth, c), ((fun q : Nat => s.heap.size ≤ q), (dC, dI), 4), lw_Z below #[Value.ref b] s) ws lv 249 10950 994 [] := by
    intro ws lv
    refine j_iconst (v := 1) OK (by decide) dL_law_994 ?_
    intro H locs ls hP hD hS hl
    refine va_forget (fun q hq => hS.2.2 q hq) ?_
    refine W.widen (k := 600000) (n := 7302250) (by decide) (by decide) ?_
    exact lw_ret hx hb hr hlocks dL_law_995
  exact law_J OK hL hX hbl hbA hend s.heap [] _ hP hD va_S.rf hl
