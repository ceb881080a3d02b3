set_option maxHeartbeats 4000000 in
set_option maxRecDepth 100000 in
theorem c632_X4_mixedSumByUse (l : Launch) (G : va_G) (cy : Nat → ClassId) (sa : String → Nat → Nat) (sv : Nat → Nat) (h0 h1 h2 h3 h4 h5 h6 h7 h8 : Nat) : xM l G cy sa sv yX4_mixedSumByUse (Cond.code yX4_mixedSumByUse cX4_mixedSumByUse 5 (some .int) :: XG) { frames := 9, cells := 0, slots := 0, locals := 270 } [.ref h0] [(h0, .inr (8, [.ref h2, .ref h1, .ref h3, .ref h4, .ref h5, .int 0, .ref h6, .ref h7])), (h1, .inr (6, [.ref h8, .int 0]))] (xQi G (fun f => [(h0, .inr (8, [.ref h2, .ref h1, .ref h3, .ref h4, .ref h5, .int 0, .ref h6, .ref h7])), (h1, .inr (6, [.ref h8, .int 0]))]) 0) := by
  refine xof (by decide) (Nat.le_of_ble_eq_true rfl) (fun p e s m below meth c A C w hr hn ls hl => ?_)
  have hl : lv_has ls 5 [(0, .ref h0)] := hl
  refine lv_iconst (v := 0) C.1 C.2.1 dX4_mixedSumByUse_0 (by decide) ?_
  refine lv_istore_n (lv' := [(1, .int 0), (0, .ref h0)]) C.1 C.2.1 dX4_mixedSumByUse_1 rfl hl (by decide) rfl (fun ls hl => ?_)
  refine lv_aload_n C.1 C.2.1 dX4_mixedSumByUse_2 rfl (lv_at hl 1 rfl) ?_
  refine x_get (v := .ref h1) C w 0 8 1 (xin_X4 _) rfl rfl (by decide) (List.mem_cons_of_mem _ gw_27) rfl rfl dX4_mixedSumByUse_3 ?_
  refine x_ki C w [1] [0] rfl rfl (by decide) (by decide) (va_runV (As := []) (rest := []) (xfix C) (c21_X2_count l G cy sa sv h1 h8 (xtr C) _) (cwV 0 (xhts C) (xgV (maxL := 0) (cc := ⟨#[]⟩) (ret := none) gw_316 gw_127 gw_128 gw_11 gc_X2_count) rfl rfl rfl (by decide +kernel) ⟨(Nat.le_of_ble_eq_true rfl), (Nat.le_of_ble_eq_true rfl)⟩) (xPV C w [1] rfl (by decide) (ci := 6) (q0 := 1) rfl rfl) rfl rfl hl.1 rfl (lv_room (Nat.le_of_ble_eq_true rfl)) dX4_mixedSumByUse_6 ⟨(Nat.le_of_ble_eq_true rfl), (Nat.le_of_ble_eq_true rfl)⟩) (fun f4394 H locs w => ?_)
  have w : xW G A s [(h0, .inr (8, [.ref h2, .ref h1, .ref h3, .ref h4, .ref h5, .int 0, .ref h6, .ref h7])), (h1, .inr (6, [.ref h8, .int 0]))] H _ := w
  refine lv_istore_n (lv' := [(2, .int 0), (1, .int 0), (0, .ref h0)]) C.1 C.2.1 dX4_mixedSumByUse_9 rfl hl (by decide) rfl (fun ls hl => ?_)
  refine lv_iconst (v := 0) C.1 C.2.1 dX4_mixedSumByUse_10 (by decide) ?_
  refine lv_istore_n (lv' := [(3, .int 0), (2, .int 0), (1, .int 0), (0, .ref h0)]) C.1 C.2.1 dX4_mixedSumByUse_11 rfl hl (by decide) rfl (fun ls hl => ?_)
  refine lv_iload_n C.1 C.2.1 dX4_mixedSumByUse_12 rfl (lv_at hl 0 rfl) ?_
  refine lv_iload_n C.1 C.2.1 dX4_mixedSumByUse_13 rfl (lv_at hl 1 rfl) ?_
  refine lv_icmp_ge (tgt := 48) C.1 C.2.1 dX4_mixedSumByUse_14 (by decide) (fun _ => ?_) (fun c9 => absurd (by decide) c9)
  refine lv_iload_n C.1 C.2.1 dX4_mixedSumByUse_48 rfl (lv_at hl 2 rfl) ?_
  exact x_iret C w hr (fun _ => 0) rfl rfl dX4_mixedSumByUse_49 (Nat.le_of_ble_eq_true rfl) (Nat.le_of_ble_eq_true rfl)
set_option maxHeartbeats 4000000 in
set_option maxRecDepth 100000 in
theorem c633_X4_isFreshCopyAlike (l : Launch) (G : va_G) (cy : Nat → ClassId) (sa : String → Nat → Nat) (sv : Nat → Nat) (h0 h1 h2 h3 h4 h5 h6 h7 h8 h9 h10 h11 h12 h13 h14 h15 h16 : Nat) : xM l G cy sa sv yX4_isFreshCopyAlike (Cond.code yX4_isFreshCopyAlike cX4_isFreshCopyAlike 1 (some .boolean) :: XG) { frames := 11, cells := 0, slots := 0, locals := 313 } [.ref h0] [(h0, .inr (8, [.ref h2, .ref h11, .ref h12, .ref h13, .ref h14, .int 0, .ref h15, .ref h1])), (h1, .inr (7, [.ref h3, .ref h7])), (h2, .inr (7, [.ref h4, .ref h8])), (h3, .inr (6, [.ref h5, .int 0])), (h4, .inr (6, [.ref h6, .int 0])), (h5, .inl (cy 1, 24, .inl (fun _ => 0))), (h6, .inl (cy 1, 24, .inl (fun _ => 0))), (h7, .inr (6, [.ref h9, .int 0])), (h8, .inr (6, [.ref h10, .int 0])), (h9, .inl (cy 1, 24, .inl (fun _ => 0))), (h10, .inl (cy 1, 24, .inl (fun _ => 0))), (h11, .inr (6, [.ref h16, .int 0]))] (xQi G (fun f => [(h0, .inr (8, [.ref h2, .ref h11, .ref h12, .ref h13, .ref h14, .int 0, .ref h15, .ref h1])), (h1, .inr (7, [.ref h3, .ref h7])), (h2, .inr (7, [.ref h4, .ref h8])), (h3, .inr (6, [.ref h5, .int 0])), (h4, .inr (6, [.ref h6, .int 0])), (h5, .inl (cy 1, 24, .inl (va_cpy (fun _ => 0) (fun _ => 0) 0 0 0))), (h6, .inl (cy 1, 24, .inl (fun _ => 0))), (h7, .inr (6, [.ref h9, .int 0])), (h8, .inr (6, [.ref h10, .int 0])), (h9, .inl (cy 1, 24, .inl (va_cpy (fun _ => 0) (fun _ => 0) 0 0 0))), (h10, .inl (cy 1, 24, .inl (fun _ => 0))), (h11, .inr (6, [.ref h16, .int 0]))]) 1) := by
  refine xof (by decide) (Nat.le_of_ble_eq_true rfl) (fun p e s m below meth c A C w hr hn ls hl => ?_)
  have hl : lv_has ls 1 [(0, .ref h0)] := hl
  refine lv_aload_n C.1 C.2.1 dX4_isFreshCopyAlike_0 rfl (lv_at hl 0 rfl) ?_
  refine x_get (v := .ref h1) C w 0 8 7 (xin_X4 _) rfl rfl (by decide) (List.mem_cons_of_mem _ gw_52) rfl rfl dX4_isFreshCopyAlike_1 ?_
  refine lv_aload_n C.1 C.2.1 dX4_isFreshCopyAlike_4 rfl (lv_at hl 0 rfl) ?_
  refine x_get (v := .ref h2) C w 0 8 0 (xin_X4 _) rfl rfl (by decide) (List.mem_cons_of_mem _ gw_24) rfl rfl dX4_isFreshCopyAlike_5 ?_
  refine x_kv C w [1, 2, 3, 4, 5, 6, 7, 8, 9, 10] [0, 11] rfl rfl (by decide) (by decide) (va_runV (As := [.ref h2]) (rest := []) (xfix C) (c588_X3_become l G cy sa sv h1 h2 h3 h4 h5 h6 h7 h8 h9 h10 (xtr C) _) (cwV 1 (xhts C) (xgV (maxL := 0) (cc := ⟨#[]⟩) (ret := none) gw_957 gw_958 gw_959 gw_7 gc_X3_become) rfl rfl rfl (by decide +kernel) ⟨(Nat.le_of_ble_eq_true rfl), (Nat.le_of_ble_eq_true rfl)⟩) (xPV C w [1, 2, 3, 4, 5, 6, 7, 8, 9, 10] rfl (by decide) (ci := 7) (q0 := 1) rfl rfl) rfl rfl hl.1 rfl (lv_room (Nat.le_of_ble_eq_true rfl)) dX4_isFreshCopyAlike_8 ⟨(Nat.le_of_ble_eq_true rfl), (Nat.le_of_ble_eq_true rfl)⟩) (fun f4379 H locs w => ?_)
  have w : xW G A s [(h0, .inr (8, [.ref h2, .ref h11, .ref h12, .ref h13, .ref h14, .int 0, .ref h15, .ref h1])), (h11, .inr (6, [.ref h16, .int 0])), (h1, .inr (7, [.ref h3, .ref h7])), (h2, .inr (7, [.ref h4, .ref h8])), (h3, .inr (6, [.ref h5, .int 0])), (h4, .inr (6, [.ref h6, .int 0])), (h5, .inl (cy 1, 24, .inl (va_cpy (fun _ => 0) (fun _ => 0) 0 0 0))), (h6, .inl (cy 1, 24, .inl (fun _ => 0))), (h7, .inr (6, [.ref h9, .int 0])), (h8, .inr (6, [.ref h10, .int 0])), (h9, .inl (cy 1, 24, .inl (va_cpy (fun _ => 0) (fun _ => 0) 0 0 0))), (h10, .inl (cy 1, 24, .inl (fun _ => 0)))] H _ := w
  refine lv_aload_n C.1 C.2.1 dX4_isFreshCopyAlike_11 rfl (lv_at hl 0 rfl) ?_
  refine x_get (v := .ref h1) C w 0 8 7 (xin_X4 _) rfl rfl (by decide) (List.mem_cons_of_mem _ gw_52) rfl rfl dX4_isFreshCopyAlike_12 ?_
  refine lv_aload_n C.1 C.2.1 dX4_isFreshCopyAlike_15 rfl (lv_at hl 0 rfl) ?_
  refine x_get (v := .ref h2) C w 0 8 0 (xin_X4 _) rfl rfl (by decide) (List.mem_cons_of_mem _ gw_24) rfl rfl dX4_isFreshCopyAlike_16 ?_
  refine x_ki C w [2, 4, 3, 5] [0, 1, 6, 7, 8, 9, 10, 11] rfl rfl (by decide) (by decide) (va_runV (As := [.ref h2]) (rest := []) (xfix C) (c591_X3_differencesFrom l G cy sa sv h1 h2 h3 h4 h7 h5 h8 h6 (xtr C) _) (cwV 1 (xhts C) (xgV (maxL := 0) (cc := ⟨#[]⟩) (ret := none) gw_969 gw_970 gw_971 gw_7 gc_X3_differencesFrom) rfl rfl rfl (by decide +kernel) ⟨(Nat.le_of_ble_eq_true rfl), (Nat.le_of_ble_eq_true rfl)⟩) (xPV C w [2, 4, 3, 5] rfl (by decide) (ci := 7) (q0 := 2) rfl rfl) rfl rfl hl.1 rfl (lv_room (Nat.le_of_ble_eq_true rfl)) dX4_isFreshCopyAlike_19 ⟨(Nat.le_of_ble_eq_true rfl), (Nat.le_of_ble_eq_true rfl)⟩) (fun f4384 H locs w => ?_)
  have w : xW G A s [(h0, .inr (8, [.ref h2, .ref h11, .ref h12, .ref h13, .ref h14, .int 0, .ref h15, .ref h1])), (h11, .inr (6, [.ref h16, .int 0])), (h5, .inl (cy 1, 24, .inl (va_cpy (fun _ => 0) (fun _ => 0) 0 0 0))), (h6, .inl (cy 1, 24, .inl (fun _ => 0))), (h7, .inr (6, [.ref h9, .int 0])), (h8, .inr (6, [.ref h10, .int 0])), (h9, .inl (cy 1, 24, .inl (va_cpy (fun _ => 0) (fun _ => 0) 0 0 0))), (h10, .inl (cy 1, 24, .inl (fun _ => 0))), (h1, .inr (7, [.ref h3, .ref h7])), (h3, .inr (6, [.ref h5, .int 0])), (h2, .inr (7, [.ref h4, .ref h8])), (h4, .inr (6, [.ref h6, .int 0]))] H _ := w
  refine lv_if_ne (tgt := 60) C.1 C.2.1 dX4_isFreshCopyAlike_22 (by decide) (fun c9 => absurd (by decide) c9) (fun _ => ?_)
  refine lv_aload_n C.1 C.2.1 dX4_isFreshCopyAlike_25 rfl (lv_at hl 0 rfl) ?_
  refine x_get (v := .ref h1) C w 0 8 7 (xin_X4 _) rfl rfl (by decide) (List.mem_cons_of_mem _ gw_52) rfl rfl dX4_isFreshCopyAlike_26 ?_
  refine x_ki C w [8, 9] [0, 1, 2, 3, 4, 5, 6, 7, 10, 11] rfl rfl (by decide) (by decide) (va_runV (As := []) (rest := []) (xfix C) (c292_X3_mixedSum l G cy sa sv h1 h3 h7 h5 (xtr C) _) (cwV 0 (xhts C) (xgV (maxL := 0) (cc := ⟨#[]⟩) (ret := none) gw_650 gw_651 gw_652 gw_7 gc_X3_mixedSum) rfl rfl rfl (by decide +kernel) ⟨(Nat.le_of_ble_eq_true rfl), (Nat.le_of_ble_eq_true rfl)⟩) (xPV C w [8, 9] rfl (by decide) (ci := 7) (q0 := 8) rfl rfl) rfl rfl hl.1 rfl (lv_room (Nat.le_of_ble_eq_true rfl)) dX4_isFreshCopyAlike_29 ⟨(Nat.le_of_ble_eq_true rfl), (Nat.le_of_ble_eq_true rfl)⟩) (fun f4387 H locs w => ?_)
  have w : xW G A s [(h0, .inr (8, [.ref h2, .ref h11, .ref h12, .ref h13, .ref h14, .int 0, .ref h15, .ref h1])), (h11, .inr (6, [.ref h16, .int 0])), (h5, .inl (cy 1, 24, .inl (va_cpy (fun _ => 0) (fun _ => 0) 0 0 0))), (h6, .inl (cy 1, 24, .inl (fun _ => 0))), (h7, .inr (6, [.ref h9, .int 0])), (h8, .inr (6, [.ref h10, .int 0])), (h9, .inl (cy 1, 24, .inl (va_cpy (fun _ => 0) (fun _ => 0) 0 0 0))), (h10, .inl (cy 1, 24, .inl (fun _ => 0))), (h2, .inr (7, [.ref h4, .ref h8])), (h4, .inr (6, [.ref h6, .int 0])), (h1, .inr (7, [.ref h3, .ref h7])), (h3, .inr (6, [.ref h5, .int 0]))] H _ := w
  refine lv_aload_n C.1 C.2.1 dX4_isFreshCopyAlike_32 rfl (lv_at hl 0 rfl) ?_
  refine x_get (v := .ref h2) C w 0 8 0 (xin_X4 _) rfl rfl (by decide) (List.mem_cons_of_mem _ gw_24) rfl rfl dX4_isFreshCopyAlike_33 ?_
  refine x_ki C w [8, 9] [0, 1, 2, 3, 4, 5, 6, 7, 10, 11] rfl rfl (by decide) (by decide) (va_runV (As := []) (rest := [.int 0]) (xfix C) (c292_X3_mixedSum l G cy sa sv h2 h4 h8 h6 (xtr C) _) (cwV 0 (xhts C) (xgV (maxL := 0) (cc := ⟨#[]⟩) (ret := none) gw_650 gw_651 gw_652 gw_7 gc_X3_mixedSum) rfl rfl rfl (by decide +kernel) ⟨(Nat.le_of_ble_eq_true rfl), (Nat.le_of_ble_eq_true rfl)⟩) (xPV C w [8, 9] rfl (by decide) (ci := 7) (q0 := 8) rfl rfl) rfl rfl hl.1 rfl (lv_room (Nat.le_of_ble_eq_true rfl)) dX4_isFreshCopyAlike_36 ⟨(Nat.le_of_ble_eq_true rfl), (Nat.le_of_ble_eq_true rfl)⟩) (fun f4390 H locs w => ?_)
  have w : xW G A s [(h0, .inr (8, [.ref h2, .ref h11, .ref h12, .ref h13, .ref h14, .int 0, .ref h15, .ref h1])), (h11, .inr (6, [.ref h16, .int 0])), (h5, .inl (cy 1, 24, .inl (va_cpy (fun _ => 0) (fun _ => 0) 0 0 0))), (h6, .inl (cy 1, 24, .inl (fun _ => 0))), (h7, .inr (6, [.ref h9, .int 0])), (h8, .inr (6, [.ref h10, .int 0])), (h9, .inl (cy 1, 24, .inl (va_cpy (fun _ => 0) (fun _ => 0) 0 0 0))), (h10, .inl (cy 1, 24, .inl (fun _ => 0))), (h1, .inr (7, [.ref h3, .ref h7])), (h3, .inr (6, [.ref h5, .int 0])), (h2, .inr (7, [.ref h4, .ref h8])), (h4, .inr (6, [.ref h6, .int 0]))] H _ := w
  refine lv_icmp_ne (tgt := 60) C.1 C.2.1 dX4_isFreshCopyAlike_39 (by decide) (fun c9 => absurd (by decide) c9) (fun _ => ?_)
  refine lv_aload_n C.1 C.2.1 dX4_isFreshCopyAlike_42 rfl (lv_at hl 0 rfl) ?_
  refine x_get (v := .ref h1) C w 0 8 7 (xin_X4 _) rfl rfl (by decide) (List.mem_cons_of_mem _ gw_52) rfl rfl dX4_isFreshCopyAlike_43 ?_
  refine x_ki C w [8, 9] [0, 1, 2, 3, 4, 5, 6, 7, 10, 11] rfl rfl (by decide) (by decide) (va_runV (As := []) (rest := []) (xfix C) (c292_X3_mixedSum l G cy sa sv h1 h3 h7 h5 (xtr C) _) (cwV 0 (xhts C) (xgV (maxL := 0) (cc := ⟨#[]⟩) (ret := none) gw_650 gw_651 gw_652 gw_7 gc_X3_mixedSum) rfl rfl rfl (by decide +kernel) ⟨(Nat.le_of_ble_eq_true rfl), (Nat.le_of_ble_eq_true rfl)⟩) (xPV C w [8, 9] rfl (by decide) (ci := 7) (q0 := 8) rfl rfl) rfl rfl hl.1 rfl (lv_room (Nat.le_of_ble_eq_true rfl)) dX4_isFreshCopyAlike_46 ⟨(Nat.le_of_ble_eq_true rfl), (Nat.le_of_ble_eq_true rfl)⟩) (fun f4393 H locs w => ?_)
  have w : xW G A s [(h0, .inr (8, [.ref h2, .ref h11, .ref h12, .ref h13, .ref h14, .int 0, .ref h15, .ref h1])), (h11, .inr (6, [.ref h16, .int 0])), (h5, .inl (cy 1, 24, .inl (va_cpy (fun _ => 0) (fun _ => 0) 0 0 0))), (h6, .inl (cy 1, 24, .inl (fun _ => 0))), (h7, .inr (6, [.ref h9, .int 0])), (h8, .inr (6, [.ref h10, .int 0])), (h9, .inl (cy 1, 24, .inl (va_cpy (fun _ => 0) (fun _ => 0) 0 0 0))), (h10, .inl (cy 1, 24, .inl (fun _ => 0))), (h2, .inr (7, [.ref h4, .ref h8])), (h4, .inr (6, [.ref h6, .int 0])), (h1, .inr (7, [.ref h3, .ref h7])), (h3, .inr (6, [.ref h5, .int 0]))] H _ := w
  refine lv_aload_n C.1 C.2.1 dX4_isFreshCopyAlike_49 rfl (lv_at hl 0 rfl) ?_
  refine x_ki C w [0, 1] [2, 3, 4, 5, 6, 7, 8, 9, 10, 11] rfl rfl (by decide) (by decide) (va_runV (As := []) (rest := [.int 0]) (xfix C) (c632_X4_mixedSumByUse l G cy sa sv h0 h11 h2 h12 h13 h14 h15 h1 h16 (xtr C) _) (cwV 0 (xhts C) (xgV (maxL := 0) (cc := ⟨#[]⟩) (ret := none) gw_1050 gw_1051 gw_1052 gw_2 gc_X4_mixedSumByUse) rfl rfl rfl (by decide +kernel) ⟨(Nat.le_of_ble_eq_true rfl), (Nat.le_of_ble_eq_true rfl)⟩) (xPV C w [0, 1] rfl (by decide) (ci := 8) (q0 := 0) rfl rfl) rfl rfl hl.1 rfl (lv_room (Nat.le_of_ble_eq_true rfl)) dX4_isFreshCopyAlike_50 ⟨(Nat.le_of_ble_eq_true rfl), (Nat.le_of_ble_eq_true rfl)⟩) (fun f4395 H locs w => ?_)
  have w : xW G A s [(h5, .inl (cy 1, 24, .inl (va_cpy (fun _ => 0) (fun _ => 0) 0 0 0))), (h6, .inl (cy 1, 24, .inl (fun _ => 0))), (h7, .inr (6, [.ref h9, .int 0])), (h8, .inr (6, [.ref h10, .int 0])), (h9, .inl (cy 1, 24, .inl (va_cpy (fun _ => 0) (fun _ => 0) 0 0 0))), (h10, .inl (cy 1, 24, .inl (fun _ => 0))), (h2, .inr (7, [.ref h4, .ref h8])), (h4, .inr (6, [.ref h6, .int 0])), (h1, .inr (7, [.ref h3, .ref h7])), (h3, .inr (6, [.ref h5, .int 0])), (h0, .inr (8, [.ref h2, .ref h11, .ref h12, .ref h13, .ref h14, .int 0, .ref h15, .ref h1])), (h11, .inr (6, [.ref h16, .int 0]))] H _ := w
  refine lv_icmp_ne (tgt := 60) C.1 C.2.1 dX4_isFreshCopyAlike_53 (by decide) (fun c9 => absurd (by decide) c9) (fun _ => ?_)
  refine lv_iconst (v := 1) C.1 C.2.1 dX4_isFreshCopyAlike_56 (by decide) ?_
  refine lv_goto (tgt := 61) C.1 C.2.1 dX4_isFreshCopyAlike_57 (by decide) ?_
  have w := w.sub (ws' := [(h0, .inr (8, [.ref h2, .ref h11, .ref h12, .ref h13, .ref h14, .int 0, .ref h15, .ref h1])), (h1, .inr (7, [.ref h3, .ref h7])), (h2, .inr (7, [.ref h4, .ref h8])), (h3, .inr (6, [.ref h5, .int 0])), (h4, .inr (6, [.ref h6, .int 0])), (h5, .inl (cy 1, 24, .inl (va_cpy (fun _ => 0) (fun _ => 0) 0 0 0))), (h6, .inl (cy 1, 24, .inl (fun _ => 0))), (h7, .inr (6, [.ref h9, .int 0])), (h8, .inr (6, [.ref h10, .int 0])), (h9, .inl (cy 1, 24, .inl (va_cpy (fun _ => 0) (fun _ => 0) 0 0 0))), (h10, .inl (cy 1, 24, .inl (fun _ => 0))), (h11, .inr (6, [.ref h16, .int 0]))]) [10, 8, 6, 9, 7, 0, 1, 2, 3, 4, 5, 11] (by decide) rfl rfl
  exact x_zret C w hr rfl (fun _ => 0) rfl rfl dX4_isFreshCopyAlike_61 (Nat.le_of_ble_eq_true rfl) (Nat.le_of_ble_eq_true rfl)
set_option maxHeartbeats 4000000 in
set_option maxRecDepth 100000 in
theorem c634_X4_isSound (l : Launch) (G : va_G) (cy : Nat → ClassId) (sa : String → Nat → Nat) (sv : Nat → Nat) (h0 h1 h2 h3 h4 h5 h6 h7 h8 h9 h10 h11 h12 h13 h14 h15 h16 : Nat) : xM l G cy sa sv yX4_isSound (Cond.code yX4_isSound cX4_isSound 1 (some .boolean) :: XG) { frames := 13, cells := 0, slots := 0, locals := 363 } [.ref h0] [(h0, .inr (8, [.ref h1, .ref h3, .ref h12, .ref h13, .ref h14, .int 0, .ref h15, .ref h4])), (h1, .inr (7, [.ref h2, .ref h9])), (h2, .inr (6, [.ref h7, .int 0])), (h3, .inr (6, [.ref h16, .int 0])), (h4, .inr (7, [.ref h5, .ref h8])), (h5, .inr (6, [.ref h6, .int 0])), (h6, .inl (cy 1, 24, .inl (fun _ => 0))), (h7, .inl (cy 1, 24, .inl (fun _ => 0))), (h8, .inr (6, [.ref h10, .int 0])), (h9, .inr (6, [.ref h11, .int 0])), (h10, .inl (cy 1, 24, .inl (fun _ => 0))), (h11, .inl (cy 1, 24, .inl (fun _ => 0)))] (xQi G (fun f => [(h0, .inr (8, [.ref h1, .ref h3, .ref h12, .ref h13, .ref h14, .int 0, .ref h15, .ref h4])), (h1, .inr (7, [.ref h2, .ref h9])), (h2, .inr (6, [.ref h7, .int 0])), (h3, .inr (6, [.ref h16, .int 0])), (h4, .inr (7, [.ref h5, .ref h8])), (h5, .inr (6, [.ref h6, .int 0])), (h6, .inl (cy 1, 24, .inl (va_cpy (fun _ => 0) (fun _ => 0) 0 0 0))), (h7, .inl (cy 1, 24, .inl (fun _ => 0))), (h8, .inr (6, [.ref h10, .int 0])), (h9, .inr (6, [.ref h11, .int 0])), (h10, .inl (cy 1, 24, .inl (va_cpy (fun _ => 0) (fun _ => 0) 0 0 0))), (h11, .inl (cy 1, 24, .inl (fun _ => 0)))]) 1) := by
  refine xof (by decide) (Nat.le_of_ble_eq_true rfl) (fun p e s m below meth c A C w hr hn ls hl => ?_)
  have hl : lv_has ls 1 [(0, .ref h0)] := hl
  refine lv_aload_n C.1 C.2.1 dX4_isSound_0 rfl (lv_at hl 0 rfl) ?_
  refine x_ki C w [0, 1, 2, 3] [4, 5, 6, 7, 8, 9, 10, 11] rfl rfl (by decide) (by decide) (va_runV (As := []) (rest := []) (xfix C) (c627_X4_areSequencesAlike l G cy sa sv h0 h1 h2 h3 h12 h13 h14 h15 h4 h9 h7 h16 (xtr C) _) (cwV 0 (xhts C) (xgV (maxL := 0) (cc := ⟨#[]⟩) (ret := none) gw_1034 gw_1035 gw_1036 gw_2 gc_X4_areSequencesAlike) rfl rfl rfl (by decide +kernel) ⟨(Nat.le_of_ble_eq_true rfl), (Nat.le_of_ble_eq_true rfl)⟩) (xPV C w [0, 1, 2, 3] rfl (by decide) (ci := 8) (q0 := 0) rfl rfl) rfl rfl hl.1 rfl (lv_room (Nat.le_of_ble_eq_true rfl)) dX4_isSound_1 ⟨(Nat.le_of_ble_eq_true rfl), (Nat.le_of_ble_eq_true rfl)⟩) (fun f4353 H locs w => ?_)
  have w : xW G A s [(h4, .inr (7, [.ref h5, .ref h8])), (h5, .inr (6, [.ref h6, .int 0])), (h6, .inl (cy 1, 24, .inl (fun _ => 0))), (h7, .inl (cy 1, 24, .inl (fun _ => 0))), (h8, .inr (6, [.ref h10, .int 0])), (h9, .inr (6, [.ref h11, .int 0])), (h10, .inl (cy 1, 24, .inl (fun _ => 0))), (h11, .inl (cy 1, 24, .inl (fun _ => 0))), (h0, .inr (8, [.ref h1, .ref h3, .ref h12, .ref h13, .ref h14, .int 0, .ref h15, .ref h4])), (h1, .inr (7, [.ref h2, .ref h9])), (h2, .inr (6, [.ref h7, .int 0])), (h3, .inr (6, [.ref h16, .int 0]))] H _ := w
  refine lv_if_eq (tgt := 39) C.1 C.2.1 dX4_isSound_4 (by decide) (fun c9 => absurd c9 (by decide)) (fun _ => ?_)
  refine lv_aload_n C.1 C.2.1 dX4_isSound_7 rfl (lv_at hl 0 rfl) ?_
  refine x_ki C w [8, 9, 10] [0, 1, 2, 3, 4, 5, 6, 7, 11] rfl rfl (by decide) (by decide) (va_runV (As := []) (rest := []) (xfix C) (c628_X4_areNeighboursRight l G cy sa sv h0 h1 h2 h3 h12 h13 h14 h15 h4 h9 h7 (xtr C) _) (cwV 0 (xhts C) (xgV (maxL := 0) (cc := ⟨#[]⟩) (ret := none) gw_1038 gw_1039 gw_1040 gw_2 gc_X4_areNeighboursRight) rfl rfl rfl (by decide +kernel) ⟨(Nat.le_of_ble_eq_true rfl), (Nat.le_of_ble_eq_true rfl)⟩) (xPV C w [8, 9, 10] rfl (by decide) (ci := 8) (q0 := 8) rfl rfl) rfl rfl hl.1 rfl (lv_room (Nat.le_of_ble_eq_true rfl)) dX4_isSound_8 ⟨(Nat.le_of_ble_eq_true rfl), (Nat.le_of_ble_eq_true rfl)⟩) (fun f4356 H locs w => ?_)
  have w : xW G A s [(h4, .inr (7, [.ref h5, .ref h8])), (h5, .inr (6, [.ref h6, .int 0])), (h6, .inl (cy 1, 24, .inl (fun _ => 0))), (h7, .inl (cy 1, 24, .inl (fun _ => 0))), (h8, .inr (6, [.ref h10, .int 0])), (h9, .inr (6, [.ref h11, .int 0])), (h10, .inl (cy 1, 24, .inl (fun _ => 0))), (h11, .inl (cy 1, 24, .inl (fun _ => 0))), (h3, .inr (6, [.ref h16, .int 0])), (h0, .inr (8, [.ref h1, .ref h3, .ref h12, .ref h13, .ref h14, .int 0, .ref h15, .ref h4])), (h1, .inr (7, [.ref h2, .ref h9])), (h2, .inr (6, [.ref h7, .int 0]))] H _ := w
  refine lv_if_eq (tgt := 39) C.1 C.2.1 dX4_isSound_11 (by decide) (fun c9 => absurd c9 (by decide)) (fun _ => ?_)
  refine lv_aload_n C.1 C.2.1 dX4_isSound_14 rfl (lv_at hl 0 rfl) ?_
  refine x_ki C w [9, 10, 11] [0, 1, 2, 3, 4, 5, 6, 7, 8] rfl rfl (by decide) (by decide) (va_runV (As := []) (rest := []) (xfix C) (c629_X4_areHalvesWhole l G cy sa sv h0 h1 h2 h3 h12 h13 h14 h15 h4 h9 h7 (xtr C) _) (cwV 0 (xhts C) (xgV (maxL := 0) (cc := ⟨#[]⟩) (ret := none) gw_1042 gw_1043 gw_1044 gw_2 gc_X4_areHalvesWhole) rfl rfl rfl (by decide +kernel) ⟨(Nat.le_of_ble_eq_true rfl), (Nat.le_of_ble_eq_true rfl)⟩) (xPV C w [9, 10, 11] rfl (by decide) (ci := 8) (q0 := 9) rfl rfl) rfl rfl hl.1 rfl (lv_room (Nat.le_of_ble_eq_true rfl)) dX4_isSound_15 ⟨(Nat.le_of_ble_eq_true rfl), (Nat.le_of_ble_eq_true rfl)⟩) (fun f4359 H locs w => ?_)
  have w : xW G A s [(h4, .inr (7, [.ref h5, .ref h8])), (h5, .inr (6, [.ref h6, .int 0])), (h6, .inl (cy 1, 24, .inl (fun _ => 0))), (h7, .inl (cy 1, 24, .inl (fun _ => 0))), (h8, .inr (6, [.ref h10, .int 0])), (h9, .inr (6, [.ref h11, .int 0])), (h10, .inl (cy 1, 24, .inl (fun _ => 0))), (h11, .inl (cy 1, 24, .inl (fun _ => 0))), (h3, .inr (6, [.ref h16, .int 0])), (h0, .inr (8, [.ref h1, .ref h3, .ref h12, .ref h13, .ref h14, .int 0, .ref h15, .ref h4])), (h1, .inr (7, [.ref h2, .ref h9])), (h2, .inr (6, [.ref h7, .int 0]))] H _ := w
  refine lv_if_eq (tgt := 39) C.1 C.2.1 dX4_isSound_18 (by decide) (fun c9 => absurd c9 (by decide)) (fun _ => ?_)
  refine lv_aload_n C.1 C.2.1 dX4_isSound_21 rfl (lv_at hl 0 rfl) ?_
  refine x_ki C w [9, 10, 11] [0, 1, 2, 3, 4, 5, 6, 7, 8] rfl rfl (by decide) (by decide) (va_runV (As := []) (rest := []) (xfix C) (c631_X4_isTurnedAlike l G cy sa sv h0 h1 h2 h3 h12 h13 h14 h15 h4 h9 h7 (xtr C) _) (cwV 0 (xhts C) (xgV (maxL := 0) (cc := ⟨#[]⟩) (ret := none) gw_1046 gw_1047 gw_1048 gw_2 gc_X4_isTurnedAlike) rfl rfl rfl (by decide +kernel) ⟨(Nat.le_of_ble_eq_true rfl), (Nat.le_of_ble_eq_true rfl)⟩) (xPV C w [9, 10, 11] rfl (by decide) (ci := 8) (q0 := 9) rfl rfl) rfl rfl hl.1 rfl (lv_room (Nat.le_of_ble_eq_true rfl)) dX4_isSound_22 ⟨(Nat.le_of_ble_eq_true rfl), (Nat.le_of_ble_eq_true rfl)⟩) (fun f4376 H locs w => ?_)
  have w : xW G A s [(h4, .inr (7, [.ref h5, .ref h8])), (h5, .inr (6, [.ref h6, .int 0])), (h6, .inl (cy 1, 24, .inl (fun _ => 0))), (h7, .inl (cy 1, 24, .inl (fun _ => 0))), (h8, .inr (6, [.ref h10, .int 0])), (h9, .inr (6, [.ref h11, .int 0])), (h10, .inl (cy 1, 24, .inl (fun _ => 0))), (h11, .inl (cy 1, 24, .inl (fun _ => 0))), (h3, .inr (6, [.ref h16, .int 0])), (h0, .inr (8, [.ref h1, .ref h3, .ref h12, .ref h13, .ref h14, .int 0, .ref h15, .ref h4])), (h1, .inr (7, [.ref h2, .ref h9])), (h2, .inr (6, [.ref h7, .int 0]))] H _ := w
  refine lv_if_eq (tgt := 39) C.1 C.2.1 dX4_isSound_25 (by decide) (fun c9 => absurd c9 (by decide)) (fun _ => ?_)
  refine lv_aload_n C.1 C.2.1 dX4_isSound_28 rfl (lv_at hl 0 rfl) ?_
  refine x_ki C w [9, 0, 10, 1, 11, 2, 3, 4, 5, 6, 7, 8] [] rfl rfl (by decide) (by decide) (va_runV (As := []) (rest := []) (xfix C) (c633_X4_isFreshCopyAlike l G cy sa sv h0 h4 h1 h5 h2 h6 h7 h8 h9 h10 h11 h3 h12 h13 h14 h15 h16 (xtr C) _) (cwV 0 (xhts C) (xgV (maxL := 0) (cc := ⟨#[]⟩) (ret := none) gw_1054 gw_1055 gw_1056 gw_2 gc_X4_isFreshCopyAlike) rfl rfl rfl (by decide +kernel) ⟨(Nat.le_of_ble_eq_true rfl), (Nat.le_of_ble_eq_true rfl)⟩) (xPV C w [9, 0, 10, 1, 11, 2, 3, 4, 5, 6, 7, 8] rfl (by decide) (ci := 8) (q0 := 9) rfl rfl) rfl rfl hl.1 rfl (lv_room (Nat.le_of_ble_eq_true rfl)) dX4_isSound_29 ⟨(Nat.le_of_ble_eq_true rfl), (Nat.le_of_ble_eq_true rfl)⟩) (fun f4396 H locs w => ?_)
  have w : xW G A s [(h0, .inr (8, [.ref h1, .ref h3, .ref h12, .ref h13, .ref h14, .int 0, .ref h15, .ref h4])), (h4, .inr (7, [.ref h5, .ref h8])), (h1, .inr (7, [.ref h2, .ref h9])), (h5, .inr (6, [.ref h6, .int 0])), (h2, .inr (6, [.ref h7, .int 0])), (h6, .inl (cy 1, 24, .inl (va_cpy (fun _ => 0) (fun _ => 0) 0 0 0))), (h7, .inl (cy 1, 24, .inl (fun _ => 0))), (h8, .inr (6, [.ref h10, .int 0])), (h9, .inr (6, [.ref h11, .int 0])), (h10, .inl (cy 1, 24, .inl (va_cpy (fun _ => 0) (fun _ => 0) 0 0 0))), (h11, .inl (cy 1, 24, .inl (fun _ => 0))), (h3, .inr (6, [.ref h16, .int 0]))] H _ := w
  refine lv_if_eq (tgt := 39) C.1 C.2.1 dX4_isSound_32 (by decide) (fun c9 => absurd c9 (by decide)) (fun _ => ?_)
  refine lv_iconst (v := 1) C.1 C.2.1 dX4_isSound_35 (by decide) ?_
  refine lv_goto (tgt := 40) C.1 C.2.1 dX4_isSound_36 (by decide) ?_
  have w := w.sub (ws' := [(h0, .inr (8, [.ref h1, .ref h3, .ref h12, .ref h13, .ref h14, .int 0, .ref h15, .ref h4])), (h1, .inr (7, [.ref h2, .ref h9])), (h2, .inr (6, [.ref h7, .int 0])), (h3, .inr (6, [.ref h16, .int 0])), (h4, .inr (7, [.ref h5, .ref h8])), (h5, .inr (6, [.ref h6, .int 0])), (h6, .inl (cy 1, 24, .inl (va_cpy (fun _ => 0) (fun _ => 0) 0 0 0))), (h7, .inl (cy 1, 24, .inl (fun _ => 0))), (h8, .inr (6, [.ref h10, .int 0])), (h9, .inr (6, [.ref h11, .int 0])), (h10, .inl (cy 1, 24, .inl (va_cpy (fun _ => 0) (fun _ => 0) 0 0 0))), (h11, .inl (cy 1, 24, .inl (fun _ => 0)))]) [0, 2, 4, 11, 1, 3, 5, 6, 7, 8, 9, 10] (by decide) rfl rfl
  exact x_zret C w hr rfl (fun _ => 0) rfl rfl dX4_isSound_40 (Nat.le_of_ble_eq_true rfl) (Nat.le_of_ble_eq_true rfl)
set_option maxHeartbeats 4000000 in
set_option maxRecDepth 100000 in
theorem c635_X6_isSound (l : Launch) (G : va_G) (cy : Nat → ClassId) (sa : String → Nat → Nat) (sv : Nat → Nat) (h0 h1 h2 h3 h4 h5 h6 h7 : Nat) : xM l G cy sa sv yX6_isSound (Cond.code yX6_isSound cX6_isSound 1 (some .boolean) :: XG) { frames := 8, cells := 0, slots := 0, locals := 250 } [.ref h0] [(h0, .inr (10, [.ref h1, .ref h2, .ref h3, .ref h4, .ref h5, .ref h6, .ref h7, .int 0, .int 0]))] (xQi G (fun f => [(h0, .inr (10, [.ref h1, .ref h2, .ref h3, .ref h4, .ref h5, .ref h6, .ref h7, .int 0, .int 0]))]) 1) := by
  refine xof (by decide) (Nat.le_of_ble_eq_true rfl) (fun p e s m below meth c A C w hr hn ls hl => ?_)
  have hl : lv_has ls 1 [(0, .ref h0)] := hl
  refine lv_aload_n C.1 C.2.1 dX6_isSound_0 rfl (lv_at hl 0 rfl) ?_
  refine lv_iconst (v := 0) C.1 C.2.1 dX6_isSound_1 (by decide) ?_
  refine x_put (ty := .int) (ty0 := tyX6) C w 0 10 8 (xin_X6 _) tyX6_ok nmX6 rfl rfl (by decide) (List.mem_cons_of_mem _ gw_112) rfl rfl (by decide +kernel) rfl rfl (Nat.le_of_ble_eq_true rfl) dX6_isSound_2 (fun H locs w => ?_)
  have w : xW G A s [(h0, .inr (10, [.ref h1, .ref h2, .ref h3, .ref h4, .ref h5, .ref h6, .ref h7, .int 0, .int 0]))] H _ := w
  refine lv_iconst (v := 1) C.1 C.2.1 dX6_isSound_5 (by decide) ?_
  exact x_zret C w hr rfl (fun _ => 0) rfl rfl dX6_isSound_6 (Nat.le_of_ble_eq_true rfl) (Nat.le_of_ble_eq_true rfl)
set_option maxHeartbeats 4000000 in
set_option maxRecDepth 100000 in
theorem c636_X4_stirred (l : Launch) (G : va_G) (cy : Nat → ClassId) (sa : String → Nat → Nat) (sv : Nat → Nat) : xM l G cy sa sv yX4_stirred (Cond.code yX4_stirred cX4_stirred 4 (some .long) :: XG) { frames := 8, cells := 0, slots := 0, locals := 250 } [.long 7839, .long 0] [] (xQl G (fun f => []) 243009) := by
  refine xof (by decide) (Nat.le_of_ble_eq_true rfl) (fun p e s m below meth c A C w hr hn ls hl => ?_)
  have hl : lv_has ls 4 [(0, .long 7839), (2, .long 0)] := hl
  refine lv_lload_n C.1 C.2.1 dX4_stirred_0 rfl (lv_at hl 0 rfl) ?_
  refine lv_ldc2 (v := 31) C.1 C.2.1 (xown C) (xhts C _ (List.mem_cons_of_mem _ gw_1067)) dX4_stirred_1 ?_
  refine lv_lmul C.1 C.2.1 dX4_stirred_4 ?_
  refine x_il (y := 243009) (by decide) ?_
  refine lv_lload_n C.1 C.2.1 dX4_stirred_5 rfl (lv_at hl 1 rfl) ?_
  refine lv_ladd C.1 C.2.1 dX4_stirred_6 ?_
  refine x_il (y := 243009) (by decide) ?_
  exact x_lret C w hr (fun _ => 0) rfl rfl dX4_stirred_7 (Nat.le_of_ble_eq_true rfl) (Nat.le_of_ble_eq_true rfl)
set_option maxHeartbeats 4000000 in
set_option maxRecDepth 100000 in
theorem c637_X4_stirred (l : Launch) (G : va_G) (cy : Nat → ClassId) (sa : String → Nat → Nat) (sv : Nat → Nat) : xM l G cy sa sv yX4_stirred (Cond.code yX4_stirred cX4_stirred 4 (some .long) :: XG) { frames := 8, cells := 0, slots := 0, locals := 250 } [.long 243009, .long 0] [] (xQl G (fun f => []) 7533279) := by
  refine xof (by decide) (Nat.le_of_ble_eq_true rfl) (fun p e s m below meth c A C w hr hn ls hl => ?_)
  have hl : lv_has ls 4 [(0, .long 243009), (2, .long 0)] := hl
  refine lv_lload_n C.1 C.2.1 dX4_stirred_0 rfl (lv_at hl 0 rfl) ?_
  refine lv_ldc2 (v := 31) C.1 C.2.1 (xown C) (xhts C _ (List.mem_cons_of_mem _ gw_1067)) dX4_stirred_1 ?_
  refine lv_lmul C.1 C.2.1 dX4_stirred_4 ?_
  refine x_il (y := 7533279) (by decide) ?_
  refine lv_lload_n C.1 C.2.1 dX4_stirred_5 rfl (lv_at hl 1 rfl) ?_
  refine lv_ladd C.1 C.2.1 dX4_stirred_6 ?_
  refine x_il (y := 7533279) (by decide) ?_
  exact x_lret C w hr (fun _ => 0) rfl rfl dX4_stirred_7 (Nat.le_of_ble_eq_true rfl) (Nat.le_of_ble_eq_true rfl)
set_option maxHeartbeats 4000000 in
set_option maxRecDepth 100000 in
theorem c638_X4_stirred (l : Launch) (G : va_G) (cy : Nat → ClassId) (sa : String → Nat → Nat) (sv : Nat → Nat) : xM l G cy sa sv yX4_stirred (Cond.code yX4_stirred cX4_stirred 4 (some .long) :: XG) { frames := 8, cells := 0, slots := 0, locals := 250 } [.long 7533279, .long 0] [] (xQl G (fun f => []) 233531649) := by
  refine xof (by decide) (Nat.le_of_ble_eq_true rfl) (fun p e s m below meth c A C w hr hn ls hl => ?_)
  have hl : lv_has ls 4 [(0, .long 7533279), (2, .long 0)] := hl
  refine lv_lload_n C.1 C.2.1 dX4_stirred_0 rfl (lv_at hl 0 rfl) ?_
  refine lv_ldc2 (v := 31) C.1 C.2.1 (xown C) (xhts C _ (List.mem_cons_of_mem _ gw_1067)) dX4_stirred_1 ?_
  refine lv_lmul C.1 C.2.1 dX4_stirred_4 ?_
  refine x_il (y := 233531649) (by decide) ?_
  refine lv_lload_n C.1 C.2.1 dX4_stirred_5 rfl (lv_at hl 1 rfl) ?_
  refine lv_ladd C.1 C.2.1 dX4_stirred_6 ?_
  refine x_il (y := 233531649) (by decide) ?_
  exact x_lret C w hr (fun _ => 0) rfl rfl dX4_stirred_7 (Nat.le_of_ble_eq_true rfl) (Nat.le_of_ble_eq_true rfl)
set_option maxHeartbeats 4000000 in
set_option maxRecDepth 100000 in
theorem c639_X4_stirred (l : Launch) (G : va_G) (cy : Nat → ClassId) (sa : String → Nat → Nat) (sv : Nat → Nat) : xM l G cy sa sv yX4_stirred (Cond.code yX4_stirred cX4_stirred 4 (some .long) :: XG) { frames := 8, cells := 0, slots := 0, locals := 250 } [.long 233531649, .long 0] [] (xQl G (fun f => []) 7239481119) := by
  refine xof (by decide) (Nat.le_of_ble_eq_true rfl) (fun p e s m below meth c A C w hr hn ls hl => ?_)
  have hl : lv_has ls 4 [(0, .long 233531649), (2, .long 0)] := hl
  refine lv_lload_n C.1 C.2.1 dX4_stirred_0 rfl (lv_at hl 0 rfl) ?_
  refine lv_ldc2 (v := 31) C.1 C.2.1 (xown C) (xhts C _ (List.mem_cons_of_mem _ gw_1067)) dX4_stirred_1 ?_
  refine lv_lmul C.1 C.2.1 dX4_stirred_4 ?_
  refine x_il (y := 7239481119) (by decide) ?_
  refine lv_lload_n C.1 C.2.1 dX4_stirred_5 rfl (lv_at hl 1 rfl) ?_
  refine lv_ladd C.1 C.2.1 dX4_stirred_6 ?_
  refine x_il (y := 7239481119) (by decide) ?_
  exact x_lret C w hr (fun _ => 0) rfl rfl dX4_stirred_7 (Nat.le_of_ble_eq_true rfl) (Nat.le_of_ble_eq_true rfl)
set_option maxHeartbeats 4000000 in
set_option maxRecDepth 100000 in
theorem c640_X4_stirred (l : Launch) (G : va_G) (cy : Nat → ClassId) (sa : String → Nat → Nat) (sv : Nat → Nat) : xM l G cy sa sv yX4_stirred (Cond.code yX4_stirred cX4_stirred 4 (some .long) :: XG) { frames := 8, cells := 0, slots := 0, locals := 250 } [.long 7239481119, .long 0] [] (xQl G (fun f => []) 224423914689) := by
  refine xof (by decide) (Nat.le_of_ble_eq_true rfl) (fun p e s m below meth c A C w hr hn ls hl => ?_)
  have hl : lv_has ls 4 [(0, .long 7239481119), (2, .long 0)] := hl
  refine lv_lload_n C.1 C.2.1 dX4_stirred_0 rfl (lv_at hl 0 rfl) ?_
  refine lv_ldc2 (v := 31) C.1 C.2.1 (xown C) (xhts C _ (List.mem_cons_of_mem _ gw_1067)) dX4_stirred_1 ?_
  refine lv_lmul C.1 C.2.1 dX4_stirred_4 ?_
  refine x_il (y := 224423914689) (by decide) ?_
  refine lv_lload_n C.1 C.2.1 dX4_stirred_5 rfl (lv_at hl 1 rfl) ?_
  refine lv_ladd C.1 C.2.1 dX4_stirred_6 ?_
  refine x_il (y := 224423914689) (by decide) ?_
  exact x_lret C w hr (fun _ => 0) rfl rfl dX4_stirred_7 (Nat.le_of_ble_eq_true rfl) (Nat.le_of_ble_eq_true rfl)
set_option maxHeartbeats 4000000 in
set_option maxRecDepth 100000 in
theorem c641_X4_stirredPairs (l : Launch) (G : va_G) (cy : Nat → ClassId) (sa : String → Nat → Nat) (sv : Nat → Nat) (h0 h1 h2 h3 h4 h5 h6 h7 h8 h9 h10 h11 : Nat) : xM l G cy sa sv yX4_stirredPairs (Cond.code yX4_stirredPairs cX4_stirredPairs 6 (some .long) :: XG) { frames := 10, cells := 0, slots := 0, locals := 290 } [.ref h0, .long 224423914689] [(h0, .inr (8, [.ref h1, .ref h3, .ref h4, .ref h5, .ref h6, .int 0, .ref h7, .ref h8])), (h1, .inr (7, [.ref h2, .ref h9])), (h2, .inr (6, [.ref h10, .int 0])), (h3, .inr (6, [.ref h11, .int 0]))] (xQl G (fun f => [(h0, .inr (8, [.ref h1, .ref h3, .ref h4, .ref h5, .ref h6, .int 0, .ref h7, .ref h8])), (h1, .inr (7, [.ref h2, .ref h9])), (h2, .inr (6, [.ref h10, .int 0])), (h3, .inr (6, [.ref h11, .int 0]))]) 224423914689) := by
  refine xof (by decide) (Nat.le_of_ble_eq_true rfl) (fun p e s m below meth c A C w hr hn ls hl => ?_)
  have hl : lv_has ls 6 [(0, .ref h0), (1, .long 224423914689)] := hl
  refine lv_lload_n C.1 C.2.1 dX4_stirredPairs_0 rfl (lv_at hl 1 rfl) ?_
  refine lv_lstore_n (lv' := [(3, .long 224423914689), (0, .ref h0), (1, .long 224423914689)]) C.1 C.2.1 dX4_stirredPairs_1 rfl hl (by decide) rfl (fun ls hl => ?_)
  refine lv_iconst (v := 0) C.1 C.2.1 dX4_stirredPairs_2 (by decide) ?_
  refine lv_istore (lv' := [(5, .int 0), (3, .long 224423914689), (0, .ref h0), (1, .long 224423914689)]) C.1 C.2.1 dX4_stirredPairs_3 hl (by decide) rfl (fun ls hl => ?_)
  refine lv_iload C.1 C.2.1 dX4_stirredPairs_5 (lv_at hl 0 rfl) ?_
  refine lv_aload_n C.1 C.2.1 dX4_stirredPairs_7 rfl (lv_at hl 2 rfl) ?_
  refine x_get (v := .ref h1) C w 0 8 0 (xin_X4 _) rfl rfl (by decide) (List.mem_cons_of_mem _ gw_24) rfl rfl dX4_stirredPairs_8 ?_
  refine x_ki C w [1, 2] [0, 3] rfl rfl (by decide) (by decide) (va_runV (As := []) (rest := [.int 0]) (xfix C) (c22_X3_count l G cy sa sv h1 h2 h9 h10 (xtr C) _) (cwV 0 (xhts C) (xgV (maxL := 0) (cc := ⟨#[]⟩) (ret := none) gw_130 gw_131 gw_132 gw_7 gc_X3_count) rfl rfl rfl (by decide +kernel) ⟨(Nat.le_of_ble_eq_true rfl), (Nat.le_of_ble_eq_true rfl)⟩) (xPV C w [1, 2] rfl (by decide) (ci := 7) (q0 := 1) rfl rfl) rfl rfl hl.1 rfl (lv_room (Nat.le_of_ble_eq_true rfl)) dX4_stirredPairs_11 ⟨(Nat.le_of_ble_eq_true rfl), (Nat.le_of_ble_eq_true rfl)⟩) (fun f4455 H locs w => ?_)
  have w : xW G A s [(h0, .inr (8, [.ref h1, .ref h3, .ref h4, .ref h5, .ref h6, .int 0, .ref h7, .ref h8])), (h3, .inr (6, [.ref h11, .int 0])), (h1, .inr (7, [.ref h2, .ref h9])), (h2, .inr (6, [.ref h10, .int 0]))] H _ := w
  refine lv_icmp_ge (tgt := 53) C.1 C.2.1 dX4_stirredPairs_14 (by decide) (fun _ => ?_) (fun c9 => absurd (by decide) c9)
  refine lv_iconst (v := 0) C.1 C.2.1 dX4_stirredPairs_53 (by decide) ?_
  refine lv_istore (lv' := [(5, .int 0), (3, .long 224423914689), (0, .ref h0), (1, .long 224423914689)]) C.1 C.2.1 dX4_stirredPairs_54 hl (by decide) rfl (fun ls hl => ?_)
  refine lv_iload C.1 C.2.1 dX4_stirredPairs_56 (lv_at hl 0 rfl) ?_
  refine lv_aload_n C.1 C.2.1 dX4_stirredPairs_58 rfl (lv_at hl 2 rfl) ?_
  refine x_get (v := .ref h3) C w 0 8 1 (xin_X4 _) rfl rfl (by decide) (List.mem_cons_of_mem _ gw_27) rfl rfl dX4_stirredPairs_59 ?_
  refine x_ki C w [1] [0, 2, 3] rfl rfl (by decide) (by decide) (va_runV (As := []) (rest := [.int 0]) (xfix C) (c21_X2_count l G cy sa sv h3 h11 (xtr C) _) (cwV 0 (xhts C) (xgV (maxL := 0) (cc := ⟨#[]⟩) (ret := none) gw_316 gw_127 gw_128 gw_11 gc_X2_count) rfl rfl rfl (by decide +kernel) ⟨(Nat.le_of_ble_eq_true rfl), (Nat.le_of_ble_eq_true rfl)⟩) (xPV C w [1] rfl (by decide) (ci := 6) (q0 := 1) rfl rfl) rfl rfl hl.1 rfl (lv_room (Nat.le_of_ble_eq_true rfl)) dX4_stirredPairs_62 ⟨(Nat.le_of_ble_eq_true rfl), (Nat.le_of_ble_eq_true rfl)⟩) (fun f4456 H locs w => ?_)
  have w : xW G A s [(h0, .inr (8, [.ref h1, .ref h3, .ref h4, .ref h5, .ref h6, .int 0, .ref h7, .ref h8])), (h1, .inr (7, [.ref h2, .ref h9])), (h2, .inr (6, [.ref h10, .int 0])), (h3, .inr (6, [.ref h11, .int 0]))] H _ := w
  refine lv_icmp_ge (tgt := 89) C.1 C.2.1 dX4_stirredPairs_65 (by decide) (fun _ => ?_) (fun c9 => absurd (by decide) c9)
  refine lv_lload_n C.1 C.2.1 dX4_stirredPairs_89 rfl (lv_at hl 1 rfl) ?_
  exact x_lret C w hr (fun _ => 0) rfl rfl dX4_stirredPairs_90 (Nat.le_of_ble_eq_true rfl) (Nat.le_of_ble_eq_true rfl)
set_option maxHeartbeats 4000000 in
set_option maxRecDepth 100000 in
theorem c642_X4_stirred (l : Launch) (G : va_G) (cy : Nat → ClassId) (sa : String → Nat → Nat) (sv : Nat → Nat) : xM l G cy sa sv yX4_stirred (Cond.code yX4_stirred cX4_stirred 4 (some .long) :: XG) { frames := 8, cells := 0, slots := 0, locals := 250 } [.long 224423914689, .long 0] [] (xQl G (fun f => []) 6957141355359) := by
  refine xof (by decide) (Nat.le_of_ble_eq_true rfl) (fun p e s m below meth c A C w hr hn ls hl => ?_)
  have hl : lv_has ls 4 [(0, .long 224423914689), (2, .long 0)] := hl
  refine lv_lload_n C.1 C.2.1 dX4_stirred_0 rfl (lv_at hl 0 rfl) ?_
  refine lv_ldc2 (v := 31) C.1 C.2.1 (xown C) (xhts C _ (List.mem_cons_of_mem _ gw_1067)) dX4_stirred_1 ?_
  refine lv_lmul C.1 C.2.1 dX4_stirred_4 ?_
  refine x_il (y := 6957141355359) (by decide) ?_
  refine lv_lload_n C.1 C.2.1 dX4_stirred_5 rfl (lv_at hl 1 rfl) ?_
  refine lv_ladd C.1 C.2.1 dX4_stirred_6 ?_
  refine x_il (y := 6957141355359) (by decide) ?_
  exact x_lret C w hr (fun _ => 0) rfl rfl dX4_stirred_7 (Nat.le_of_ble_eq_true rfl) (Nat.le_of_ble_eq_true rfl)
set_option maxHeartbeats 4000000 in
set_option maxRecDepth 100000 in
theorem c643_X4_stirred (l : Launch) (G : va_G) (cy : Nat → ClassId) (sa : String → Nat → Nat) (sv : Nat → Nat) : xM l G cy sa sv yX4_stirred (Cond.code yX4_stirred cX4_stirred 4 (some .long) :: XG) { frames := 8, cells := 0, slots := 0, locals := 250 } [.long 6957141355359, .long 0] [] (xQl G (fun f => []) 215671382016129) := by
  refine xof (by decide) (Nat.le_of_ble_eq_true rfl) (fun p e s m below meth c A C w hr hn ls hl => ?_)
  have hl : lv_has ls 4 [(0, .long 6957141355359), (2, .long 0)] := hl
  refine lv_lload_n C.1 C.2.1 dX4_stirred_0 rfl (lv_at hl 0 rfl) ?_
  refine lv_ldc2 (v := 31) C.1 C.2.1 (xown C) (xhts C _ (List.mem_cons_of_mem _ gw_1067)) dX4_stirred_1 ?_
  refine lv_lmul C.1 C.2.1 dX4_stirred_4 ?_
  refine x_il (y := 215671382016129) (by decide) ?_
  refine lv_lload_n C.1 C.2.1 dX4_stirred_5 rfl (lv_at hl 1 rfl) ?_
  refine lv_ladd C.1 C.2.1 dX4_stirred_6 ?_
  refine x_il (y := 215671382016129) (by decide) ?_
  exact x_lret C w hr (fun _ => 0) rfl rfl dX4_stirred_7 (Nat.le_of_ble_eq_true rfl) (Nat.le_of_ble_eq_true rfl)
set_option maxHeartbeats 4000000 in
set_option maxRecDepth 100000 in
theorem c644_X4_stirred (l : Launch) (G : va_G) (cy : Nat → ClassId) (sa : String → Nat → Nat) (sv : Nat → Nat) : xM l G cy sa sv yX4_stirred (Cond.code yX4_stirred cX4_stirred 4 (some .long) :: XG) { frames := 8, cells := 0, slots := 0, locals := 250 } [.long 215671382016129, .long 0] [] (xQl G (fun f => []) 6685812842499999) := by
  refine xof (by decide) (Nat.le_of_ble_eq_true rfl) (fun p e s m below meth c A C w hr hn ls hl => ?_)
  have hl : lv_has ls 4 [(0, .long 215671382016129), (2, .long 0)] := hl
  refine lv_lload_n C.1 C.2.1 dX4_stirred_0 rfl (lv_at hl 0 rfl) ?_
  refine lv_ldc2 (v := 31) C.1 C.2.1 (xown C) (xhts C _ (List.mem_cons_of_mem _ gw_1067)) dX4_stirred_1 ?_
  refine lv_lmul C.1 C.2.1 dX4_stirred_4 ?_
  refine x_il (y := 6685812842499999) (by decide) ?_
  refine lv_lload_n C.1 C.2.1 dX4_stirred_5 rfl (lv_at hl 1 rfl) ?_
  refine lv_ladd C.1 C.2.1 dX4_stirred_6 ?_
  refine x_il (y := 6685812842499999) (by decide) ?_
  exact x_lret C w hr (fun _ => 0) rfl rfl dX4_stirred_7 (Nat.le_of_ble_eq_true rfl) (Nat.le_of_ble_eq_true rfl)
set_option maxHeartbeats 4000000 in
set_option maxRecDepth 100000 in
theorem c645_X4_stirred (l : Launch) (G : va_G) (cy : Nat → ClassId) (sa : String → Nat → Nat) (sv : Nat → Nat) : xM l G cy sa sv yX4_stirred (Cond.code yX4_stirred cX4_stirred 4 (some .long) :: XG) { frames := 8, cells := 0, slots := 0, locals := 250 } [.long 6685812842499999, .long 0] [] (xQl G (fun f => []) 207260198117499969) := by
  refine xof (by decide) (Nat.le_of_ble_eq_true rfl) (fun p e s m below meth c A C w hr hn ls hl => ?_)
  have hl : lv_has ls 4 [(0, .long 6685812842499999), (2, .long 0)] := hl
  refine lv_lload_n C.1 C.2.1 dX4_stirred_0 rfl (lv_at hl 0 rfl) ?_
  refine lv_ldc2 (v := 31) C.1 C.2.1 (xown C) (xhts C _ (List.mem_cons_of_mem _ gw_1067)) dX4_stirred_1 ?_
  refine lv_lmul C.1 C.2.1 dX4_stirred_4 ?_
  refine x_il (y := 207260198117499969) (by decide) ?_
  refine lv_lload_n C.1 C.2.1 dX4_stirred_5 rfl (lv_at hl 1 rfl) ?_
  refine lv_ladd C.1 C.2.1 dX4_stirred_6 ?_
  refine x_il (y := 207260198117499969) (by decide) ?_
  exact x_lret C w hr (fun _ => 0) rfl rfl dX4_stirred_7 (Nat.le_of_ble_eq_true rfl) (Nat.le_of_ble_eq_true rfl)
set_option maxHeartbeats 4000000 in
set_option maxRecDepth 100000 in
theorem c646_X4_stirred (l : Launch) (G : va_G) (cy : Nat → ClassId) (sa : String → Nat → Nat) (sv : Nat → Nat) : xM l G cy sa sv yX4_stirred (Cond.code yX4_stirred cX4_stirred 4 (some .long) :: XG) { frames := 8, cells := 0, slots := 0, locals := 250 } [.long 207260198117499969, .long 0] [] (xQl G (fun f => []) 6425066141642499039) := by
  refine xof (by decide) (Nat.le_of_ble_eq_true rfl) (fun p e s m below meth c A C w hr hn ls hl => ?_)
  have hl : lv_has ls 4 [(0, .long 207260198117499969), (2, .long 0)] := hl
  refine lv_lload_n C.1 C.2.1 dX4_stirred_0 rfl (lv_at hl 0 rfl) ?_
  refine lv_ldc2 (v := 31) C.1 C.2.1 (xown C) (xhts C _ (List.mem_cons_of_mem _ gw_1067)) dX4_stirred_1 ?_
  refine lv_lmul C.1 C.2.1 dX4_stirred_4 ?_
  refine x_il (y := 6425066141642499039) (by decide) ?_
  refine lv_lload_n C.1 C.2.1 dX4_stirred_5 rfl (lv_at hl 1 rfl) ?_
  refine lv_ladd C.1 C.2.1 dX4_stirred_6 ?_
  refine x_il (y := 6425066141642499039) (by decide) ?_
  exact x_lret C w hr (fun _ => 0) rfl rfl dX4_stirred_7 (Nat.le_of_ble_eq_true rfl) (Nat.le_of_ble_eq_true rfl)
set_option maxHeartbeats 4000000 in
set_option maxRecDepth 100000 in
theorem c647_X4_stirred (l : Launch) (G : va_G) (cy : Nat → ClassId) (sa : String → Nat → Nat) (sv : Nat → Nat) : xM l G cy sa sv yX4_stirred (Cond.code yX4_stirred cX4_stirred 4 (some .long) :: XG) { frames := 8, cells := 0, slots := 0, locals := 250 } [.long 6425066141642499039, .long 0] [] (xQl G (fun f => []) (-3737134419887597567)) := by
  refine xof (by decide) (Nat.le_of_ble_eq_true rfl) (fun p e s m below meth c A C w hr hn ls hl => ?_)
  have hl : lv_has ls 4 [(0, .long 6425066141642499039), (2, .long 0)] := hl
  refine lv_lload_n C.1 C.2.1 dX4_stirred_0 rfl (lv_at hl 0 rfl) ?_
  refine lv_ldc2 (v := 31) C.1 C.2.1 (xown C) (xhts C _ (List.mem_cons_of_mem _ gw_1067)) dX4_stirred_1 ?_
  refine lv_lmul C.1 C.2.1 dX4_stirred_4 ?_
  refine x_il (y := (-3737134419887597567)) (by decide) ?_
  refine lv_lload_n C.1 C.2.1 dX4_stirred_5 rfl (lv_at hl 1 rfl) ?_
  refine lv_ladd C.1 C.2.1 dX4_stirred_6 ?_
  refine x_il (y := (-3737134419887597567)) (by decide) ?_
  exact x_lret C w hr (fun _ => 0) rfl rfl dX4_stirred_7 (Nat.le_of_ble_eq_true rfl) (Nat.le_of_ble_eq_true rfl)
set_option maxHeartbeats 4000000 in
set_option maxRecDepth 100000 in
theorem c648_X4_stirred (l : Launch) (G : va_G) (cy : Nat → ClassId) (sa : String → Nat → Nat) (sv : Nat → Nat) : xM l G cy sa sv yX4_stirred (Cond.code yX4_stirred cX4_stirred 4 (some .long) :: XG) { frames := 8, cells := 0, slots := 0, locals := 250 } [.long (-3737134419887597567), .long 0] [] (xQl G (fun f => []) (-5170702574258214881)) := by
  refine xof (by decide) (Nat.le_of_ble_eq_true rfl) (fun p e s m below meth c A C w hr hn ls hl => ?_)
  have hl : lv_has ls 4 [(0, .long (-3737134419887597567)), (2, .long 0)] := hl
  refine lv_lload_n C.1 C.2.1 dX4_stirred_0 rfl (lv_at hl 0 rfl) ?_
  refine lv_ldc2 (v := 31) C.1 C.2.1 (xown C) (xhts C _ (List.mem_cons_of_mem _ gw_1067)) dX4_stirred_1 ?_
  refine lv_lmul C.1 C.2.1 dX4_stirred_4 ?_
  refine x_il (y := (-5170702574258214881)) (by decide) ?_
  refine lv_lload_n C.1 C.2.1 dX4_stirred_5 rfl (lv_at hl 1 rfl) ?_
  refine lv_ladd C.1 C.2.1 dX4_stirred_6 ?_
  refine x_il (y := (-5170702574258214881)) (by decide) ?_
  exact x_lret C w hr (fun _ => 0) rfl rfl dX4_stirred_7 (Nat.le_of_ble_eq_true rfl) (Nat.le_of_ble_eq_true rfl)
set_option maxHeartbeats 4000000 in
set_option maxRecDepth 100000 in
theorem c649_X4_stirred (l : Launch) (G : va_G) (cy : Nat → ClassId) (sa : String → Nat → Nat) (sv : Nat → Nat) : xM l G cy sa sv yX4_stirred (Cond.code yX4_stirred cX4_stirred 4 (some .long) :: XG) { frames := 8, cells := 0, slots := 0, locals := 250 } [.long (-5170702574258214881), .long 0] [] (xQl G (fun f => []) 5728916861381303233) := by
  refine xof (by decide) (Nat.le_of_ble_eq_true rfl) (fun p e s m below meth c A C w hr hn ls hl => ?_)
  have hl : lv_has ls 4 [(0, .long (-5170702574258214881)), (2, .long 0)] := hl
  refine lv_lload_n C.1 C.2.1 dX4_stirred_0 rfl (lv_at hl 0 rfl) ?_
  refine lv_ldc2 (v := 31) C.1 C.2.1 (xown C) (xhts C _ (List.mem_cons_of_mem _ gw_1067)) dX4_stirred_1 ?_
  refine lv_lmul C.1 C.2.1 dX4_stirred_4 ?_
  refine x_il (y := 5728916861381303233) (by decide) ?_
  refine lv_lload_n C.1 C.2.1 dX4_stirred_5 rfl (lv_at hl 1 rfl) ?_
  refine lv_ladd C.1 C.2.1 dX4_stirred_6 ?_
  refine x_il (y := 5728916861381303233) (by decide) ?_
  exact x_lret C w hr (fun _ => 0) rfl rfl dX4_stirred_7 (Nat.le_of_ble_eq_true rfl) (Nat.le_of_ble_eq_true rfl)
set_option maxHeartbeats 4000000 in
set_option maxRecDepth 100000 in
theorem c650_X4_stirred (l : Launch) (G : va_G) (cy : Nat → ClassId) (sa : String → Nat → Nat) (sv : Nat → Nat) : xM l G cy sa sv yX4_stirred (Cond.code yX4_stirred cX4_stirred 4 (some .long) :: XG) { frames := 8, cells := 0, slots := 0, locals := 250 } [.long 5728916861381303233, .long 0] [] (xQl G (fun f => []) (-6871018034275115937)) := by
  refine xof (by decide) (Nat.le_of_ble_eq_true rfl) (fun p e s m below meth c A C w hr hn ls hl => ?_)
  have hl : lv_has ls 4 [(0, .long 5728916861381303233), (2, .long 0)] := hl
  refine lv_lload_n C.1 C.2.1 dX4_stirred_0 rfl (lv_at hl 0 rfl) ?_
  refine lv_ldc2 (v := 31) C.1 C.2.1 (xown C) (xhts C _ (List.mem_cons_of_mem _ gw_1067)) dX4_stirred_1 ?_
  refine lv_lmul C.1 C.2.1 dX4_stirred_4 ?_
  refine x_il (y := (-6871018034275115937)) (by decide) ?_
  refine lv_lload_n C.1 C.2.1 dX4_stirred_5 rfl (lv_at hl 1 rfl) ?_
  refine lv_ladd C.1 C.2.1 dX4_stirred_6 ?_
  refine x_il (y := (-6871018034275115937)) (by decide) ?_
  exact x_lret C w hr (fun _ => 0) rfl rfl dX4_stirred_7 (Nat.le_of_ble_eq_true rfl) (Nat.le_of_ble_eq_true rfl)
set_option maxHeartbeats 4000000 in
set_option maxRecDepth 100000 in
theorem c651_X4_stirred (l : Launch) (G : va_G) (cy : Nat → ClassId) (sa : String → Nat → Nat) (sv : Nat → Nat) : xM l G cy sa sv yX4_stirred (Cond.code yX4_stirred cX4_stirred 4 (some .long) :: XG) { frames := 8, cells := 0, slots := 0, locals := 250 } [.long (-6871018034275115937), .long 0] [] (xQl G (fun f => []) 8359369821986025345) := by
  refine xof (by decide) (Nat.le_of_ble_eq_true rfl) (fun p e s m below meth c A C w hr hn ls hl => ?_)
  have hl : lv_has ls 4 [(0, .long (-6871018034275115937)), (2, .long 0)] := hl
  refine lv_lload_n C.1 C.2.1 dX4_stirred_0 rfl (lv_at hl 0 rfl) ?_
  refine lv_ldc2 (v := 31) C.1 C.2.1 (xown C) (xhts C _ (List.mem_cons_of_mem _ gw_1067)) dX4_stirred_1 ?_
  refine lv_lmul C.1 C.2.1 dX4_stirred_4 ?_
  refine x_il (y := 8359369821986025345) (by decide) ?_
  refine lv_lload_n C.1 C.2.1 dX4_stirred_5 rfl (lv_at hl 1 rfl) ?_
  refine lv_ladd C.1 C.2.1 dX4_stirred_6 ?_
  refine x_il (y := 8359369821986025345) (by decide) ?_
  exact x_lret C w hr (fun _ => 0) rfl rfl dX4_stirred_7 (Nat.le_of_ble_eq_true rfl) (Nat.le_of_ble_eq_true rfl)
set_option maxHeartbeats 4000000 in
set_option maxRecDepth 100000 in
theorem c652_X4_stirred (l : Launch) (G : va_G) (cy : Nat → ClassId) (sa : String → Nat → Nat) (sv : Nat → Nat) : xM l G cy sa sv yX4_stirred (Cond.code yX4_stirred cX4_stirred 4 (some .long) :: XG) { frames := 8, cells := 0, slots := 0, locals := 250 } [.long 8359369821986025345, .long 0] [] (xQl G (fun f => []) 886047449633063071) := by
  refine xof (by decide) (Nat.le_of_ble_eq_true rfl) (fun p e s m below meth c A C w hr hn ls hl => ?_)
  have hl : lv_has ls 4 [(0, .long 8359369821986025345), (2, .long 0)] := hl
  refine lv_lload_n C.1 C.2.1 dX4_stirred_0 rfl (lv_at hl 0 rfl) ?_
  refine lv_ldc2 (v := 31) C.1 C.2.1 (xown C) (xhts C _ (List.mem_cons_of_mem _ gw_1067)) dX4_stirred_1 ?_
  refine lv_lmul C.1 C.2.1 dX4_stirred_4 ?_
  refine x_il (y := 886047449633063071) (by decide) ?_
  refine lv_lload_n C.1 C.2.1 dX4_stirred_5 rfl (lv_at hl 1 rfl) ?_
  refine lv_ladd C.1 C.2.1 dX4_stirred_6 ?_
  refine x_il (y := 886047449633063071) (by decide) ?_
  exact x_lret C w hr (fun _ => 0) rfl rfl dX4_stirred_7 (Nat.le_of_ble_eq_true rfl) (Nat.le_of_ble_eq_true rfl)
set_option maxHeartbeats 4000000 in
set_option maxRecDepth 100000 in
theorem c653_X4_stirred (l : Launch) (G : va_G) (cy : Nat → ClassId) (sa : String → Nat → Nat) (sv : Nat → Nat) : xM l G cy sa sv yX4_stirred (Cond.code yX4_stirred cX4_stirred 4 (some .long) :: XG) { frames := 8, cells := 0, slots := 0, locals := 250 } [.long 886047449633063071, .long 0] [] (xQl G (fun f => []) 9020726864915403585) := by
  refine xof (by decide) (Nat.le_of_ble_eq_true rfl) (fun p e s m below meth c A C w hr hn ls hl => ?_)
  have hl : lv_has ls 4 [(0, .long 886047449633063071), (2, .long 0)] := hl
  refine lv_lload_n C.1 C.2.1 dX4_stirred_0 rfl (lv_at hl 0 rfl) ?_
  refine lv_ldc2 (v := 31) C.1 C.2.1 (xown C) (xhts C _ (List.mem_cons_of_mem _ gw_1067)) dX4_stirred_1 ?_
  refine lv_lmul C.1 C.2.1 dX4_stirred_4 ?_
  refine x_il (y := 9020726864915403585) (by decide) ?_
  refine lv_lload_n C.1 C.2.1 dX4_stirred_5 rfl (lv_at hl 1 rfl) ?_
  refine lv_ladd C.1 C.2.1 dX4_stirred_6 ?_
  refine x_il (y := 9020726864915403585) (by decide) ?_
  exact x_lret C w hr (fun _ => 0) rfl rfl dX4_stirred_7 (Nat.le_of_ble_eq_true rfl) (Nat.le_of_ble_eq_true rfl)
set_option maxHeartbeats 4000000 in
set_option maxRecDepth 100000 in
theorem c654_X4_stirredPagers (l : Launch) (G : va_G) (cy : Nat → ClassId) (sa : String → Nat → Nat) (sv : Nat → Nat) (h0 h1 h2 h3 h4 h5 h6 h7 h8 h9 h10 h11 h12 h13 : Nat) : xM l G cy sa sv yX4_stirredPagers (Cond.code yX4_stirredPagers cX4_stirredPagers 7 (some .long) :: XG) { frames := 11, cells := 0, slots := 0, locals := 313 } [.ref h0, .long 224423914689] [(h0, .inr (8, [.ref h3, .ref h7, .ref h8, .ref h9, .ref h1, .int 0, .ref h10, .ref h11])), (h1, .inl (cy 3, 3, .inr (.inr (.inr (.inr (va_up (va_up (va_up (fun _ => none) 0 (some h2)) 1 (some h5)) 2 (some h6))))))), (h2, .inr (4, [.int 0, .int 0, .int 0])), (h3, .inr (7, [.ref h4, .ref h12])), (h4, .inr (6, [.ref h13, .int 0])), (h5, .inr (4, [.int 0, .int 0, .int 0])), (h6, .inr (4, [.int 0, .int 0, .int 0]))] (xQl G (fun f => [(h0, .inr (8, [.ref h3, .ref h7, .ref h8, .ref h9, .ref h1, .int 0, .ref h10, .ref h11])), (h1, .inl (cy 3, 3, .inr (.inr (.inr (.inr (va_up (va_up (va_up (fun _ => none) 0 (some h2)) 1 (some h5)) 2 (some h6))))))), (h2, .inr (4, [.int 0, .int 0, .int 0])), (h3, .inr (7, [.ref h4, .ref h12])), (h4, .inr (6, [.ref h13, .int 0])), (h5, .inr (4, [.int 0, .int 0, .int 0])), (h6, .inr (4, [.int 0, .int 0, .int 0]))]) 9020726864915403585) := by
  refine xof (by decide) (Nat.le_of_ble_eq_true rfl) (fun p e s m below meth c A C w hr hn ls hl => ?_)
  have hl : lv_has ls 7 [(0, .ref h0), (1, .long 224423914689)] := hl
  refine lv_lload_n C.1 C.2.1 dX4_stirredPagers_0 rfl (lv_at hl 1 rfl) ?_
  refine lv_lstore_n (lv' := [(3, .long 224423914689), (0, .ref h0), (1, .long 224423914689)]) C.1 C.2.1 dX4_stirredPagers_1 rfl hl (by decide) rfl (fun ls hl => ?_)
  refine lv_iconst (v := 0) C.1 C.2.1 dX4_stirredPagers_2 (by decide) ?_
  refine lv_istore (lv' := [(5, .int 0), (3, .long 224423914689), (0, .ref h0), (1, .long 224423914689)]) C.1 C.2.1 dX4_stirredPagers_3 hl (by decide) rfl (fun ls hl => ?_)
  refine lv_iload C.1 C.2.1 dX4_stirredPagers_5 (lv_at hl 0 rfl) ?_
  refine lv_iconst (v := 3) C.1 C.2.1 dX4_stirredPagers_7 (by decide) ?_
  refine lv_icmp_ge (tgt := 46) C.1 C.2.1 dX4_stirredPagers_8 (by decide) (fun c9 => absurd c9 (by decide)) (fun _ => ?_)
  refine lv_iconst (v := 0) C.1 C.2.1 dX4_stirredPagers_11 (by decide) ?_
  refine lv_istore (lv' := [(6, .int 0), (5, .int 0), (3, .long 224423914689), (0, .ref h0), (1, .long 224423914689)]) C.1 C.2.1 dX4_stirredPagers_12 hl (by decide) rfl (fun ls hl => ?_)
  refine lv_iload C.1 C.2.1 dX4_stirredPagers_14 (lv_at hl 0 rfl) ?_
  refine lv_iconst (v := 3) C.1 C.2.1 dX4_stirredPagers_16 (by decide) ?_
  refine lv_icmp_gt (tgt := 40) C.1 C.2.1 dX4_stirredPagers_17 (by decide) (fun c9 => absurd c9 (by decide)) (fun _ => ?_)
  refine lv_lload_n C.1 C.2.1 dX4_stirredPagers_20 rfl (lv_at hl 2 rfl) ?_
  refine lv_aload_n C.1 C.2.1 dX4_stirredPagers_21 rfl (lv_at hl 3 rfl) ?_
  refine lv_iload C.1 C.2.1 dX4_stirredPagers_22 (lv_at hl 1 rfl) ?_
  refine lv_iload C.1 C.2.1 dX4_stirredPagers_24 (lv_at hl 0 rfl) ?_
  refine x_ki C w [0, 1, 2] [3, 4, 5, 6] rfl rfl (by decide) (by decide) (va_runV (As := [.int 0, .int 0]) (rest := [.long 224423914689]) (xfix C) (c511_X4_ofPager l G cy sa sv h0 h1 h2 h3 h7 h8 h9 h10 h11 h5 h6 (xtr C) _) (cwV 2 (xhts C) (xgV (maxL := 0) (cc := ⟨#[]⟩) (ret := none) gw_1075 gw_898 gw_899 gw_2 gc_X4_ofPager) rfl rfl rfl (by decide +kernel) ⟨(Nat.le_of_ble_eq_true rfl), (Nat.le_of_ble_eq_true rfl)⟩) (xPV C w [0, 1, 2] rfl (by decide) (ci := 8) (q0 := 0) rfl rfl) rfl rfl hl.1 rfl (lv_room (Nat.le_of_ble_eq_true rfl)) dX4_stirredPagers_26 ⟨(Nat.le_of_ble_eq_true rfl), (Nat.le_of_ble_eq_true rfl)⟩) (fun f4459 H locs w => ?_)
  have w : xW G A s [(h3, .inr (7, [.ref h4, .ref h12])), (h4, .inr (6, [.ref h13, .int 0])), (h5, .inr (4, [.int 0, .int 0, .int 0])), (h6, .inr (4, [.int 0, .int 0, .int 0])), (h0, .inr (8, [.ref h3, .ref h7, .ref h8, .ref h9, .ref h1, .int 0, .ref h10, .ref h11])), (h1, .inl (cy 3, 3, .inr (.inr (.inr (.inr (va_up (va_up (va_up (fun _ => none) 0 (some h2)) 1 (some h5)) 2 (some h6))))))), (h2, .inr (4, [.int 0, .int 0, .int 0]))] H _ := w
  refine lv_i2l (v := 0) C.1 C.2.1 dX4_stirredPagers_29 (by decide) ?_
  refine x_kl C w [] [0, 1, 2, 3, 4, 5, 6] rfl rfl (by decide) (by decide) (va_runS (As := [.long 224423914689, .long 0]) (rest := []) (xfix C) (c642_X4_stirred l G cy sa sv (xtr C) _) (va_cwS 2 (xhts C) (xgS gw_1069 gw_1070 gw_2 gc_X4_stirred) rfl rfl rfl (by decide +kernel) ⟨(Nat.le_of_ble_eq_true rfl), (Nat.le_of_ble_eq_true rfl)⟩) (xPS C w [] rfl (by decide)) rfl rfl hl.1 rfl (lv_room (Nat.le_of_ble_eq_true rfl)) dX4_stirredPagers_30 ⟨(Nat.le_of_ble_eq_true rfl), (Nat.le_of_ble_eq_true rfl)⟩) (fun f4460 H locs w => ?_)
  have w : xW G A s [(h3, .inr (7, [.ref h4, .ref h12])), (h4, .inr (6, [.ref h13, .int 0])), (h5, .inr (4, [.int 0, .int 0, .int 0])), (h6, .inr (4, [.int 0, .int 0, .int 0])), (h0, .inr (8, [.ref h3, .ref h7, .ref h8, .ref h9, .ref h1, .int 0, .ref h10, .ref h11])), (h1, .inl (cy 3, 3, .inr (.inr (.inr (.inr (va_up (va_up (va_up (fun _ => none) 0 (some h2)) 1 (some h5)) 2 (some h6))))))), (h2, .inr (4, [.int 0, .int 0, .int 0]))] H _ := w
  refine lv_lstore_n (lv' := [(3, .long 6957141355359), (6, .int 0), (5, .int 0), (0, .ref h0), (1, .long 224423914689)]) C.1 C.2.1 dX4_stirredPagers_33 rfl hl (by decide) rfl (fun ls hl => ?_)
  refine lv_iinc (v := 1) (lv' := [(6, .int 1), (3, .long 6957141355359), (5, .int 0), (0, .ref h0), (1, .long 224423914689)]) C.1 C.2.1 dX4_stirredPagers_34 hl (k := 1) rfl (by decide) (by decide) rfl (fun ls hl => ?_)
  refine lv_goto (tgt := 14) C.1 C.2.1 dX4_stirredPagers_37 (by decide) ?_
  refine lv_iload C.1 C.2.1 dX4_stirredPagers_14 (lv_at hl 0 rfl) ?_
  refine lv_iconst (v := 3) C.1 C.2.1 dX4_stirredPagers_16 (by decide) ?_
  refine lv_icmp_gt (tgt := 40) C.1 C.2.1 dX4_stirredPagers_17 (by decide) (fun c9 => absurd c9 (by decide)) (fun _ => ?_)
  refine lv_lload_n C.1 C.2.1 dX4_stirredPagers_20 rfl (lv_at hl 1 rfl) ?_
  refine lv_aload_n C.1 C.2.1 dX4_stirredPagers_21 rfl (lv_at hl 3 rfl) ?_
  refine lv_iload C.1 C.2.1 dX4_stirredPagers_22 (lv_at hl 2 rfl) ?_
  refine lv_iload C.1 C.2.1 dX4_stirredPagers_24 (lv_at hl 0 rfl) ?_
  refine x_ki C w [4, 5, 0, 1, 6] [2, 3] rfl rfl (by decide) (by decide) (va_runV (As := [.int 0, .int 1]) (rest := [.long 6957141355359]) (xfix C) (c515_X4_ofPager l G cy sa sv h0 h1 h3 h4 h2 h7 h8 h9 h10 h11 h5 h6 h12 h13 (xtr C) _) (cwV 2 (xhts C) (xgV (maxL := 0) (cc := ⟨#[]⟩) (ret := none) gw_1075 gw_898 gw_899 gw_2 gc_X4_ofPager) rfl rfl rfl (by decide +kernel) ⟨(Nat.le_of_ble_eq_true rfl), (Nat.le_of_ble_eq_true rfl)⟩) (xPV C w [4, 5, 0, 1, 6] rfl (by decide) (ci := 8) (q0 := 4) rfl rfl) rfl rfl hl.1 rfl (lv_room (Nat.le_of_ble_eq_true rfl)) dX4_stirredPagers_26 ⟨(Nat.le_of_ble_eq_true rfl), (Nat.le_of_ble_eq_true rfl)⟩) (fun f4465 H locs w => ?_)
  have w : xW G A s [(h5, .inr (4, [.int 0, .int 0, .int 0])), (h6, .inr (4, [.int 0, .int 0, .int 0])), (h0, .inr (8, [.ref h3, .ref h7, .ref h8, .ref h9, .ref h1, .int 0, .ref h10, .ref h11])), (h1, .inl (cy 3, 3, .inr (.inr (.inr (.inr (va_up (va_up (va_up (fun _ => none) 0 (some h2)) 1 (some h5)) 2 (some h6))))))), (h3, .inr (7, [.ref h4, .ref h12])), (h4, .inr (6, [.ref h13, .int 0])), (h2, .inr (4, [.int 0, .int 0, .int 0]))] H _ := w
  refine lv_i2l (v := 0) C.1 C.2.1 dX4_stirredPagers_29 (by decide) ?_
  refine x_kl C w [] [0, 1, 2, 3, 4, 5, 6] rfl rfl (by decide) (by decide) (va_runS (As := [.long 6957141355359, .long 0]) (rest := []) (xfix C) (c643_X4_stirred l G cy sa sv (xtr C) _) (va_cwS 2 (xhts C) (xgS gw_1069 gw_1070 gw_2 gc_X4_stirred) rfl rfl rfl (by decide +kernel) ⟨(Nat.le_of_ble_eq_true rfl), (Nat.le_of_ble_eq_true rfl)⟩) (xPS C w [] rfl (by decide)) rfl rfl hl.1 rfl (lv_room (Nat.le_of_ble_eq_true rfl)) dX4_stirredPagers_30 ⟨(Nat.le_of_ble_eq_true rfl), (Nat.le_of_ble_eq_true rfl)⟩) (fun f4466 H locs w => ?_)
  have w : xW G A s [(h5, .inr (4, [.int 0, .int 0, .int 0])), (h6, .inr (4, [.int 0, .int 0, .int 0])), (h0, .inr (8, [.ref h3, .ref h7, .ref h8, .ref h9, .ref h1, .int 0, .ref h10, .ref h11])), (h1, .inl (cy 3, 3, .inr (.inr (.inr (.inr (va_up (va_up (va_up (fun _ => none) 0 (some h2)) 1 (some h5)) 2 (some h6))))))), (h3, .inr (7, [.ref h4, .ref h12])), (h4, .inr (6, [.ref h13, .int 0])), (h2, .inr (4, [.int 0, .int 0, .int 0]))] H _ := w
  refine lv_lstore_n (lv' := [(3, .long 215671382016129), (6, .int 1), (5, .int 0), (0, .ref h0), (1, .long 224423914689)]) C.1 C.2.1 dX4_stirredPagers_33 rfl hl (by decide) rfl (fun ls hl => ?_)
  refine lv_iinc (v := 2) (lv' := [(6, .int 2), (3, .long 215671382016129), (5, .int 0), (0, .ref h0), (1, .long 224423914689)]) C.1 C.2.1 dX4_stirredPagers_34 hl (k := 1) rfl (by decide) (by decide) rfl (fun ls hl => ?_)
  refine lv_goto (tgt := 14) C.1 C.2.1 dX4_stirredPagers_37 (by decide) ?_
  refine lv_iload C.1 C.2.1 dX4_stirredPagers_14 (lv_at hl 0 rfl) ?_
  refine lv_iconst (v := 3) C.1 C.2.1 dX4_stirredPagers_16 (by decide) ?_
  refine lv_icmp_gt (tgt := 40) C.1 C.2.1 dX4_stirredPagers_17 (by decide) (fun c9 => absurd c9 (by decide)) (fun _ => ?_)
  refine lv_lload_n C.1 C.2.1 dX4_stirredPagers_20 rfl (lv_at hl 1 rfl) ?_
  refine lv_aload_n C.1 C.2.1 dX4_stirredPagers_21 rfl (lv_at hl 3 rfl) ?_
  refine lv_iload C.1 C.2.1 dX4_stirredPagers_22 (lv_at hl 2 rfl) ?_
  refine lv_iload C.1 C.2.1 dX4_stirredPagers_24 (lv_at hl 0 rfl) ?_
  refine x_ki C w [2, 3, 6] [0, 1, 4, 5] rfl rfl (by decide) (by decide) (va_runV (As := [.int 0, .int 2]) (rest := [.long 215671382016129]) (xfix C) (c519_X4_ofPager l G cy sa sv h0 h1 h2 h3 h7 h8 h9 h10 h11 h5 h6 (xtr C) _) (cwV 2 (xhts C) (xgV (maxL := 0) (cc := ⟨#[]⟩) (ret := none) gw_1075 gw_898 gw_899 gw_2 gc_X4_ofPager) rfl rfl rfl (by decide +kernel) ⟨(Nat.le_of_ble_eq_true rfl), (Nat.le_of_ble_eq_true rfl)⟩) (xPV C w [2, 3, 6] rfl (by decide) (ci := 8) (q0 := 2) rfl rfl) rfl rfl hl.1 rfl (lv_room (Nat.le_of_ble_eq_true rfl)) dX4_stirredPagers_26 ⟨(Nat.le_of_ble_eq_true rfl), (Nat.le_of_ble_eq_true rfl)⟩) (fun f4468 H locs w => ?_)
  have w : xW G A s [(h5, .inr (4, [.int 0, .int 0, .int 0])), (h6, .inr (4, [.int 0, .int 0, .int 0])), (h3, .inr (7, [.ref h4, .ref h12])), (h4, .inr (6, [.ref h13, .int 0])), (h0, .inr (8, [.ref h3, .ref h7, .ref h8, .ref h9, .ref h1, .int 0, .ref h10, .ref h11])), (h1, .inl (cy 3, 3, .inr (.inr (.inr (.inr (va_up (va_up (va_up (fun _ => none) 0 (some h2)) 1 (some h5)) 2 (some h6))))))), (h2, .inr (4, [.int 0, .int 0, .int 0]))] H _ := w
  refine lv_i2l (v := 0) C.1 C.2.1 dX4_stirredPagers_29 (by decide) ?_
  refine x_kl C w [] [0, 1, 2, 3, 4, 5, 6] rfl rfl (by decide) (by decide) (va_runS (As := [.long 215671382016129, .long 0]) (rest := []) (xfix C) (c644_X4_stirred l G cy sa sv (xtr C) _) (va_cwS 2 (xhts C) (xgS gw_1069 gw_1070 gw_2 gc_X4_stirred) rfl rfl rfl (by decide +kernel) ⟨(Nat.le_of_ble_eq_true rfl), (Nat.le_of_ble_eq_true rfl)⟩) (xPS C w [] rfl (by decide)) rfl rfl hl.1 rfl (lv_room (Nat.le_of_ble_eq_true rfl)) dX4_stirredPagers_30 ⟨(Nat.le_of_ble_eq_true rfl), (Nat.le_of_ble_eq_true rfl)⟩) (fun f4469 H locs w => ?_)
  have w : xW G A s [(h5, .inr (4, [.int 0, .int 0, .int 0])), (h6, .inr (4, [.int 0, .int 0, .int 0])), (h3, .inr (7, [.ref h4, .ref h12])), (h4, .inr (6, [.ref h13, .int 0])), (h0, .inr (8, [.ref h3, .ref h7, .ref h8, .ref h9, .ref h1, .int 0, .ref h10, .ref h11])), (h1, .inl (cy 3, 3, .inr (.inr (.inr (.inr (va_up (va_up (va_up (fun _ => none) 0 (some h2)) 1 (some h5)) 2 (some h6))))))), (h2, .inr (4, [.int 0, .int 0, .int 0]))] H _ := w
  refine lv_lstore_n (lv' := [(3, .long 6685812842499999), (6, .int 2), (5, .int 0), (0, .ref h0), (1, .long 224423914689)]) C.1 C.2.1 dX4_stirredPagers_33 rfl hl (by decide) rfl (fun ls hl => ?_)
  refine lv_iinc (v := 3) (lv' := [(6, .int 3), (3, .long 6685812842499999), (5, .int 0), (0, .ref h0), (1, .long 224423914689)]) C.1 C.2.1 dX4_stirredPagers_34 hl (k := 1) rfl (by decide) (by decide) rfl (fun ls hl => ?_)
  refine lv_goto (tgt := 14) C.1 C.2.1 dX4_stirredPagers_37 (by decide) ?_
  refine lv_iload C.1 C.2.1 dX4_stirredPagers_14 (lv_at hl 0 rfl) ?_
  refine lv_iconst (v := 3) C.1 C.2.1 dX4_stirredPagers_16 (by decide) ?_
  refine lv_icmp_gt (tgt := 40) C.1 C.2.1 dX4_stirredPagers_17 (by decide) (fun c9 => absurd c9 (by decide)) (fun _ => ?_)
  refine lv_lload_n C.1 C.2.1 dX4_stirredPagers_20 rfl (lv_at hl 1 rfl) ?_
  refine lv_aload_n C.1 C.2.1 dX4_stirredPagers_21 rfl (lv_at hl 3 rfl) ?_
  refine lv_iload C.1 C.2.1 dX4_stirredPagers_22 (lv_at hl 2 rfl) ?_
  refine lv_iload C.1 C.2.1 dX4_stirredPagers_24 (lv_at hl 0 rfl) ?_
  refine x_ki C w [4, 5, 6] [0, 1, 2, 3] rfl rfl (by decide) (by decide) (va_runV (As := [.int 0, .int 3]) (rest := [.long 6685812842499999]) (xfix C) (c524_X4_ofPager l G cy sa sv h0 h1 h2 h3 h7 h8 h9 h10 h11 h5 h6 (xtr C) _) (cwV 2 (xhts C) (xgV (maxL := 0) (cc := ⟨#[]⟩) (ret := none) gw_1075 gw_898 gw_899 gw_2 gc_X4_ofPager) rfl rfl rfl (by decide +kernel) ⟨(Nat.le_of_ble_eq_true rfl), (Nat.le_of_ble_eq_true rfl)⟩) (xPV C w [4, 5, 6] rfl (by decide) (ci := 8) (q0 := 4) rfl rfl) rfl rfl hl.1 rfl (lv_room (Nat.le_of_ble_eq_true rfl)) dX4_stirredPagers_26 ⟨(Nat.le_of_ble_eq_true rfl), (Nat.le_of_ble_eq_true rfl)⟩) (fun f4471 H locs w => ?_)
  have w : xW G A s [(h5, .inr (4, [.int 0, .int 0, .int 0])), (h6, .inr (4, [.int 0, .int 0, .int 0])), (h3, .inr (7, [.ref h4, .ref h12])), (h4, .inr (6, [.ref h13, .int 0])), (h0, .inr (8, [.ref h3, .ref h7, .ref h8, .ref h9, .ref h1, .int 0, .ref h10, .ref h11])), (h1, .inl (cy 3, 3, .inr (.inr (.inr (.inr (va_up (va_up (va_up (fun _ => none) 0 (some h2)) 1 (some h5)) 2 (some h6))))))), (h2, .inr (4, [.int 0, .int 0, .int 0]))] H _ := w
  refine lv_i2l (v := 0) C.1 C.2.1 dX4_stirredPagers_29 (by decide) ?_
  refine x_kl C w [] [0, 1, 2, 3, 4, 5, 6] rfl rfl (by decide) (by decide) (va_runS (As := [.long 6685812842499999, .long 0]) (rest := []) (xfix C) (c645_X4_stirred l G cy sa sv (xtr C) _) (va_cwS 2 (xhts C) (xgS gw_1069 gw_1070 gw_2 gc_X4_stirred) rfl rfl rfl (by decide +kernel) ⟨(Nat.le_of_ble_eq_true rfl), (Nat.le_of_ble_eq_true rfl)⟩) (xPS C w [] rfl (by decide)) rfl rfl hl.1 rfl (lv_room (Nat.le_of_ble_eq_true rfl)) dX4_stirredPagers_30 ⟨(Nat.le_of_ble_eq_true rfl), (Nat.le_of_ble_eq_true rfl)⟩) (fun f4472 H locs w => ?_)
  have w : xW G A s [(h5, .inr (4, [.int 0, .int 0, .int 0])), (h6, .inr (4, [.int 0, .int 0, .int 0])), (h3, .inr (7, [.ref h4, .ref h12])), (h4, .inr (6, [.ref h13, .int 0])), (h0, .inr (8, [.ref h3, .ref h7, .ref h8, .ref h9, .ref h1, .int 0, .ref h10, .ref h11])), (h1, .inl (cy 3, 3, .inr (.inr (.inr (.inr (va_up (va_up (va_up (fun _ => none) 0 (some h2)) 1 (some h5)) 2 (some h6))))))), (h2, .inr (4, [.int 0, .int 0, .int 0]))] H _ := w
  refine lv_lstore_n (lv' := [(3, .long 207260198117499969), (6, .int 3), (5, .int 0), (0, .ref h0), (1, .long 224423914689)]) C.1 C.2.1 dX4_stirredPagers_33 rfl hl (by decide) rfl (fun ls hl => ?_)
  refine lv_iinc (v := 4) (lv' := [(6, .int 4), (3, .long 207260198117499969), (5, .int 0), (0, .ref h0), (1, .long 224423914689)]) C.1 C.2.1 dX4_stirredPagers_34 hl (k := 1) rfl (by decide) (by decide) rfl (fun ls hl => ?_)
  refine lv_goto (tgt := 14) C.1 C.2.1 dX4_stirredPagers_37 (by decide) ?_
  refine lv_iload C.1 C.2.1 dX4_stirredPagers_14 (lv_at hl 0 rfl) ?_
  refine lv_iconst (v := 3) C.1 C.2.1 dX4_stirredPagers_16 (by decide) ?_
  refine lv_icmp_gt (tgt := 40) C.1 C.2.1 dX4_stirredPagers_17 (by decide) (fun _ => ?_) (fun c9 => absurd (by decide) c9)
  refine lv_iinc (v := 1) (lv' := [(5, .int 1), (6, .int 4), (3, .long 207260198117499969), (0, .ref h0), (1, .long 224423914689)]) C.1 C.2.1 dX4_stirredPagers_40 hl (k := 2) rfl (by decide) (by decide) rfl (fun ls hl => ?_)
  refine lv_goto (tgt := 5) C.1 C.2.1 dX4_stirredPagers_43 (by decide) ?_
  refine lv_iload C.1 C.2.1 dX4_stirredPagers_5 (lv_at hl 0 rfl) ?_
  refine lv_iconst (v := 3) C.1 C.2.1 dX4_stirredPagers_7 (by decide) ?_
  refine lv_icmp_ge (tgt := 46) C.1 C.2.1 dX4_stirredPagers_8 (by decide) (fun c9 => absurd c9 (by decide)) (fun _ => ?_)
  refine lv_iconst (v := 0) C.1 C.2.1 dX4_stirredPagers_11 (by decide) ?_
  refine lv_istore (lv' := [(6, .int 0), (5, .int 1), (3, .long 207260198117499969), (0, .ref h0), (1, .long 224423914689)]) C.1 C.2.1 dX4_stirredPagers_12 hl (by decide) rfl (fun ls hl => ?_)
  refine lv_iload C.1 C.2.1 dX4_stirredPagers_14 (lv_at hl 0 rfl) ?_
  refine lv_iconst (v := 3) C.1 C.2.1 dX4_stirredPagers_16 (by decide) ?_
  refine lv_icmp_gt (tgt := 40) C.1 C.2.1 dX4_stirredPagers_17 (by decide) (fun c9 => absurd c9 (by decide)) (fun _ => ?_)
  refine lv_lload_n C.1 C.2.1 dX4_stirredPagers_20 rfl (lv_at hl 2 rfl) ?_
  refine lv_aload_n C.1 C.2.1 dX4_stirredPagers_21 rfl (lv_at hl 3 rfl) ?_
  refine lv_iload C.1 C.2.1 dX4_stirredPagers_22 (lv_at hl 1 rfl) ?_
  refine lv_iload C.1 C.2.1 dX4_stirredPagers_24 (lv_at hl 0 rfl) ?_
  refine x_ki C w [4, 5, 0] [1, 2, 3, 6] rfl rfl (by decide) (by decide) (va_runV (As := [.int 1, .int 0]) (rest := [.long 207260198117499969]) (xfix C) (c528_X4_ofPager l G cy sa sv h0 h1 h5 h3 h7 h8 h9 h10 h11 h2 h6 (xtr C) _) (cwV 2 (xhts C) (xgV (maxL := 0) (cc := ⟨#[]⟩) (ret := none) gw_1075 gw_898 gw_899 gw_2 gc_X4_ofPager) rfl rfl rfl (by decide +kernel) ⟨(Nat.le_of_ble_eq_true rfl), (Nat.le_of_ble_eq_true rfl)⟩) (xPV C w [4, 5, 0] rfl (by decide) (ci := 8) (q0 := 4) rfl rfl) rfl rfl hl.1 rfl (lv_room (Nat.le_of_ble_eq_true rfl)) dX4_stirredPagers_26 ⟨(Nat.le_of_ble_eq_true rfl), (Nat.le_of_ble_eq_true rfl)⟩) (fun f4474 H locs w => ?_)
  have w : xW G A s [(h6, .inr (4, [.int 0, .int 0, .int 0])), (h3, .inr (7, [.ref h4, .ref h12])), (h4, .inr (6, [.ref h13, .int 0])), (h2, .inr (4, [.int 0, .int 0, .int 0])), (h0, .inr (8, [.ref h3, .ref h7, .ref h8, .ref h9, .ref h1, .int 0, .ref h10, .ref h11])), (h1, .inl (cy 3, 3, .inr (.inr (.inr (.inr (va_up (va_up (va_up (fun _ => none) 0 (some h2)) 1 (some h5)) 2 (some h6))))))), (h5, .inr (4, [.int 0, .int 0, .int 0]))] H _ := w
  refine lv_i2l (v := 0) C.1 C.2.1 dX4_stirredPagers_29 (by decide) ?_
  refine x_kl C w [] [0, 1, 2, 3, 4, 5, 6] rfl rfl (by decide) (by decide) (va_runS (As := [.long 207260198117499969, .long 0]) (rest := []) (xfix C) (c646_X4_stirred l G cy sa sv (xtr C) _) (va_cwS 2 (xhts C) (xgS gw_1069 gw_1070 gw_2 gc_X4_stirred) rfl rfl rfl (by decide +kernel) ⟨(Nat.le_of_ble_eq_true rfl), (Nat.le_of_ble_eq_true rfl)⟩) (xPS C w [] rfl (by decide)) rfl rfl hl.1 rfl (lv_room (Nat.le_of_ble_eq_true rfl)) dX4_stirredPagers_30 ⟨(Nat.le_of_ble_eq_true rfl), (Nat.le_of_ble_eq_true rfl)⟩) (fun f4475 H locs w => ?_)
  have w : xW G A s [(h6, .inr (4, [.int 0, .int 0, .int 0])), (h3, .inr (7, [.ref h4, .ref h12])), (h4, .inr (6, [.ref h13, .int 0])), (h2, .inr (4, [.int 0, .int 0, .int 0])), (h0, .inr (8, [.ref h3, .ref h7, .ref h8, .ref h9, .ref h1, .int 0, .ref h10, .ref h11])), (h1, .inl (cy 3, 3, .inr (.inr (.inr (.inr (va_up (va_up (va_up (fun _ => none) 0 (some h2)) 1 (some h5)) 2 (some h6))))))), (h5, .inr (4, [.int 0, .int 0, .int 0]))] H _ := w
  refine lv_lstore_n (lv' := [(3, .long 6425066141642499039), (6, .int 0), (5, .int 1), (0, .ref h0), (1, .long 224423914689)]) C.1 C.2.1 dX4_stirredPagers_33 rfl hl (by decide) rfl (fun ls hl => ?_)
  refine lv_iinc (v := 1) (lv' := [(6, .int 1), (3, .long 6425066141642499039), (5, .int 1), (0, .ref h0), (1, .long 224423914689)]) C.1 C.2.1 dX4_stirredPagers_34 hl (k := 1) rfl (by decide) (by decide) rfl (fun ls hl => ?_)
  refine lv_goto (tgt := 14) C.1 C.2.1 dX4_stirredPagers_37 (by decide) ?_
  refine lv_iload C.1 C.2.1 dX4_stirredPagers_14 (lv_at hl 0 rfl) ?_
  refine lv_iconst (v := 3) C.1 C.2.1 dX4_stirredPagers_16 (by decide) ?_
  refine lv_icmp_gt (tgt := 40) C.1 C.2.1 dX4_stirredPagers_17 (by decide) (fun c9 => absurd c9 (by decide)) (fun _ => ?_)
  refine lv_lload_n C.1 C.2.1 dX4_stirredPagers_20 rfl (lv_at hl 1 rfl) ?_
  refine lv_aload_n C.1 C.2.1 dX4_stirredPagers_21 rfl (lv_at hl 3 rfl) ?_
  refine lv_iload C.1 C.2.1 dX4_stirredPagers_22 (lv_at hl 2 rfl) ?_
  refine lv_iload C.1 C.2.1 dX4_stirredPagers_24 (lv_at hl 0 rfl) ?_
  refine x_ki C w [4, 5, 1, 2, 6] [0, 3] rfl rfl (by decide) (by decide) (va_runV (As := [.int 1, .int 1]) (rest := [.long 6425066141642499039]) (xfix C) (c532_X4_ofPager l G cy sa sv h0 h1 h3 h4 h5 h7 h8 h9 h10 h11 h2 h6 h12 h13 (xtr C) _) (cwV 2 (xhts C) (xgV (maxL := 0) (cc := ⟨#[]⟩) (ret := none) gw_1075 gw_898 gw_899 gw_2 gc_X4_ofPager) rfl rfl rfl (by decide +kernel) ⟨(Nat.le_of_ble_eq_true rfl), (Nat.le_of_ble_eq_true rfl)⟩) (xPV C w [4, 5, 1, 2, 6] rfl (by decide) (ci := 8) (q0 := 4) rfl rfl) rfl rfl hl.1 rfl (lv_room (Nat.le_of_ble_eq_true rfl)) dX4_stirredPagers_26 ⟨(Nat.le_of_ble_eq_true rfl), (Nat.le_of_ble_eq_true rfl)⟩) (fun f4480 H locs w => ?_)
  have w : xW G A s [(h6, .inr (4, [.int 0, .int 0, .int 0])), (h2, .inr (4, [.int 0, .int 0, .int 0])), (h0, .inr (8, [.ref h3, .ref h7, .ref h8, .ref h9, .ref h1, .int 0, .ref h10, .ref h11])), (h1, .inl (cy 3, 3, .inr (.inr (.inr (.inr (va_up (va_up (va_up (fun _ => none) 0 (some h2)) 1 (some h5)) 2 (some h6))))))), (h3, .inr (7, [.ref h4, .ref h12])), (h4, .inr (6, [.ref h13, .int 0])), (h5, .inr (4, [.int 0, .int 0, .int 0]))] H _ := w
  refine lv_i2l (v := 0) C.1 C.2.1 dX4_stirredPagers_29 (by decide) ?_
  refine x_kl C w [] [0, 1, 2, 3, 4, 5, 6] rfl rfl (by decide) (by decide) (va_runS (As := [.long 6425066141642499039, .long 0]) (rest := []) (xfix C) (c647_X4_stirred l G cy sa sv (xtr C) _) (va_cwS 2 (xhts C) (xgS gw_1069 gw_1070 gw_2 gc_X4_stirred) rfl rfl rfl (by decide +kernel) ⟨(Nat.le_of_ble_eq_true rfl), (Nat.le_of_ble_eq_true rfl)⟩) (xPS C w [] rfl (by decide)) rfl rfl hl.1 rfl (lv_room (Nat.le_of_ble_eq_true rfl)) dX4_stirredPagers_30 ⟨(Nat.le_of_ble_eq_true rfl), (Nat.le_of_ble_eq_true rfl)⟩) (fun f4481 H locs w => ?_)
  have w : xW G A s [(h6, .inr (4, [.int 0, .int 0, .int 0])), (h2, .inr (4, [.int 0, .int 0, .int 0])), (h0, .inr (8, [.ref h3, .ref h7, .ref h8, .ref h9, .ref h1, .int 0, .ref h10, .ref h11])), (h1, .inl (cy 3, 3, .inr (.inr (.inr (.inr (va_up (va_up (va_up (fun _ => none) 0 (some h2)) 1 (some h5)) 2 (some h6))))))), (h3, .inr (7, [.ref h4, .ref h12])), (h4, .inr (6, [.ref h13, .int 0])), (h5, .inr (4, [.int 0, .int 0, .int 0]))] H _ := w
  refine lv_lstore_n (lv' := [(3, .long (-3737134419887597567)), (6, .int 1), (5, .int 1), (0, .ref h0), (1, .long 224423914689)]) C.1 C.2.1 dX4_stirredPagers_33 rfl hl (by decide) rfl (fun ls hl => ?_)
  refine lv_iinc (v := 2) (lv' := [(6, .int 2), (3, .long (-3737134419887597567)), (5, .int 1), (0, .ref h0), (1, .long 224423914689)]) C.1 C.2.1 dX4_stirredPagers_34 hl (k := 1) rfl (by decide) (by decide) rfl (fun ls hl => ?_)
  refine lv_goto (tgt := 14) C.1 C.2.1 dX4_stirredPagers_37 (by decide) ?_
  refine lv_iload C.1 C.2.1 dX4_stirredPagers_14 (lv_at hl 0 rfl) ?_
  refine lv_iconst (v := 3) C.1 C.2.1 dX4_stirredPagers_16 (by decide) ?_
  refine lv_icmp_gt (tgt := 40) C.1 C.2.1 dX4_stirredPagers_17 (by decide) (fun c9 => absurd c9 (by decide)) (fun _ => ?_)
  refine lv_lload_n C.1 C.2.1 dX4_stirredPagers_20 rfl (lv_at hl 1 rfl) ?_
  refine lv_aload_n C.1 C.2.1 dX4_stirredPagers_21 rfl (lv_at hl 3 rfl) ?_
  refine lv_iload C.1 C.2.1 dX4_stirredPagers_22 (lv_at hl 2 rfl) ?_
  refine lv_iload C.1 C.2.1 dX4_stirredPagers_24 (lv_at hl 0 rfl) ?_
  refine x_ki C w [2, 3, 6] [0, 1, 4, 5] rfl rfl (by decide) (by decide) (va_runV (As := [.int 1, .int 2]) (rest := [.long (-3737134419887597567)]) (xfix C) (c536_X4_ofPager l G cy sa sv h0 h1 h5 h3 h7 h8 h9 h10 h11 h2 h6 (xtr C) _) (cwV 2 (xhts C) (xgV (maxL := 0) (cc := ⟨#[]⟩) (ret := none) gw_1075 gw_898 gw_899 gw_2 gc_X4_ofPager) rfl rfl rfl (by decide +kernel) ⟨(Nat.le_of_ble_eq_true rfl), (Nat.le_of_ble_eq_true rfl)⟩) (xPV C w [2, 3, 6] rfl (by decide) (ci := 8) (q0 := 2) rfl rfl) rfl rfl hl.1 rfl (lv_room (Nat.le_of_ble_eq_true rfl)) dX4_stirredPagers_26 ⟨(Nat.le_of_ble_eq_true rfl), (Nat.le_of_ble_eq_true rfl)⟩) (fun f4483 H locs w => ?_)
  have w : xW G A s [(h6, .inr (4, [.int 0, .int 0, .int 0])), (h2, .inr (4, [.int 0, .int 0, .int 0])), (h3, .inr (7, [.ref h4, .ref h12])), (h4, .inr (6, [.ref h13, .int 0])), (h0, .inr (8, [.ref h3, .ref h7, .ref h8, .ref h9, .ref h1, .int 0, .ref h10, .ref h11])), (h1, .inl (cy 3, 3, .inr (.inr (.inr (.inr (va_up (va_up (va_up (fun _ => none) 0 (some h2)) 1 (some h5)) 2 (some h6))))))), (h5, .inr (4, [.int 0, .int 0, .int 0]))] H _ := w
  refine lv_i2l (v := 0) C.1 C.2.1 dX4_stirredPagers_29 (by decide) ?_
  refine x_kl C w [] [0, 1, 2, 3, 4, 5, 6] rfl rfl (by decide) (by decide) (va_runS (As := [.long (-3737134419887597567), .long 0]) (rest := []) (xfix C) (c648_X4_stirred l G cy sa sv (xtr C) _) (va_cwS 2 (xhts C) (xgS gw_1069 gw_1070 gw_2 gc_X4_stirred) rfl rfl rfl (by decide +kernel) ⟨(Nat.le_of_ble_eq_true rfl), (Nat.le_of_ble_eq_true rfl)⟩) (xPS C w [] rfl (by decide)) rfl rfl hl.1 rfl (lv_room (Nat.le_of_ble_eq_true rfl)) dX4_stirredPagers_30 ⟨(Nat.le_of_ble_eq_true rfl), (Nat.le_of_ble_eq_true rfl)⟩) (fun f4484 H locs w => ?_)
  have w : xW G A s [(h6, .inr (4, [.int 0, .int 0, .int 0])), (h2, .inr (4, [.int 0, .int 0, .int 0])), (h3, .inr (7, [.ref h4, .ref h12])), (h4, .inr (6, [.ref h13, .int 0])), (h0, .inr (8, [.ref h3, .ref h7, .ref h8, .ref h9, .ref h1, .int 0, .ref h10, .ref h11])), (h1, .inl (cy 3, 3, .inr (.inr (.inr (.inr (va_up (va_up (va_up (fun _ => none) 0 (some h2)) 1 (some h5)) 2 (some h6))))))), (h5, .inr (4, [.int 0, .int 0, .int 0]))] H _ := w
  refine lv_lstore_n (lv' := [(3, .long (-5170702574258214881)), (6, .int 2), (5, .int 1), (0, .ref h0), (1, .long 224423914689)]) C.1 C.2.1 dX4_stirredPagers_33 rfl hl (by decide) rfl (fun ls hl => ?_)
  refine lv_iinc (v := 3) (lv' := [(6, .int 3), (3, .long (-5170702574258214881)), (5, .int 1), (0, .ref h0), (1, .long 224423914689)]) C.1 C.2.1 dX4_stirredPagers_34 hl (k := 1) rfl (by decide) (by decide) rfl (fun ls hl => ?_)
  refine lv_goto (tgt := 14) C.1 C.2.1 dX4_stirredPagers_37 (by decide) ?_
  refine lv_iload C.1 C.2.1 dX4_stirredPagers_14 (lv_at hl 0 rfl) ?_
  refine lv_iconst (v := 3) C.1 C.2.1 dX4_stirredPagers_16 (by decide) ?_
  refine lv_icmp_gt (tgt := 40) C.1 C.2.1 dX4_stirredPagers_17 (by decide) (fun c9 => absurd c9 (by decide)) (fun _ => ?_)
  refine lv_lload_n C.1 C.2.1 dX4_stirredPagers_20 rfl (lv_at hl 1 rfl) ?_
  refine lv_aload_n C.1 C.2.1 dX4_stirredPagers_21 rfl (lv_at hl 3 rfl) ?_
  refine lv_iload C.1 C.2.1 dX4_stirredPagers_22 (lv_at hl 2 rfl) ?_
  refine lv_iload C.1 C.2.1 dX4_stirredPagers_24 (lv_at hl 0 rfl) ?_
  refine x_ki C w [4, 5, 6] [0, 1, 2, 3] rfl rfl (by decide) (by decide) (va_runV (As := [.int 1, .int 3]) (rest := [.long (-5170702574258214881)]) (xfix C) (c540_X4_ofPager l G cy sa sv h0 h1 h5 h3 h7 h8 h9 h10 h11 h2 h6 (xtr C) _) (cwV 2 (xhts C) (xgV (maxL := 0) (cc := ⟨#[]⟩) (ret := none) gw_1075 gw_898 gw_899 gw_2 gc_X4_ofPager) rfl rfl rfl (by decide +kernel) ⟨(Nat.le_of_ble_eq_true rfl), (Nat.le_of_ble_eq_true rfl)⟩) (xPV C w [4, 5, 6] rfl (by decide) (ci := 8) (q0 := 4) rfl rfl) rfl rfl hl.1 rfl (lv_room (Nat.le_of_ble_eq_true rfl)) dX4_stirredPagers_26 ⟨(Nat.le_of_ble_eq_true rfl), (Nat.le_of_ble_eq_true rfl)⟩) (fun f4486 H locs w => ?_)
  have w : xW G A s [(h6, .inr (4, [.int 0, .int 0, .int 0])), (h2, .inr (4, [.int 0, .int 0, .int 0])), (h3, .inr (7, [.ref h4, .ref h12])), (h4, .inr (6, [.ref h13, .int 0])), (h0, .inr (8, [.ref h3, .ref h7, .ref h8, .ref h9, .ref h1, .int 0, .ref h10, .ref h11])), (h1, .inl (cy 3, 3, .inr (.inr (.inr (.inr (va_up (va_up (va_up (fun _ => none) 0 (some h2)) 1 (some h5)) 2 (some h6))))))), (h5, .inr (4, [.int 0, .int 0, .int 0]))] H _ := w
  refine lv_i2l (v := 0) C.1 C.2.1 dX4_stirredPagers_29 (by decide) ?_
  refine x_kl C w [] [0, 1, 2, 3, 4, 5, 6] rfl rfl (by decide) (by decide) (va_runS (As := [.long (-5170702574258214881), .long 0]) (rest := []) (xfix C) (c649_X4_stirred l G cy sa sv (xtr C) _) (va_cwS 2 (xhts C) (xgS gw_1069 gw_1070 gw_2 gc_X4_stirred) rfl rfl rfl (by decide +kernel) ⟨(Nat.le_of_ble_eq_true rfl), (Nat.le_of_ble_eq_true rfl)⟩) (xPS C w [] rfl (by decide)) rfl rfl hl.1 rfl (lv_room (Nat.le_of_ble_eq_true rfl)) dX4_stirredPagers_30 ⟨(Nat.le_of_ble_eq_true rfl), (Nat.le_of_ble_eq_true rfl)⟩) (fun f4487 H locs w => ?_)
  have w : xW G A s [(h6, .inr (4, [.int 0, .int 0, .int 0])), (h2, .inr (4, [.int 0, .int 0, .int 0])), (h3, .inr (7, [.ref h4, .ref h12])), (h4, .inr (6, [.ref h13, .int 0])), (h0, .inr (8, [.ref h3, .ref h7, .ref h8, .ref h9, .ref h1, .int 0, .ref h10, .ref h11])), (h1, .inl (cy 3, 3, .inr (.inr (.inr (.inr (va_up (va_up (va_up (fun _ => none) 0 (some h2)) 1 (some h5)) 2 (some h6))))))), (h5, .inr (4, [.int 0, .int 0, .int 0]))] H _ := w
  refine lv_lstore_n (lv' := [(3, .long 5728916861381303233), (6, .int 3), (5, .int 1), (0, .ref h0), (1, .long 224423914689)]) C.1 C.2.1 dX4_stirredPagers_33 rfl hl (by decide) rfl (fun ls hl => ?_)
  refine lv_iinc (v := 4) (lv' := [(6, .int 4), (3, .long 5728916861381303233), (5, .int 1), (0, .ref h0), (1, .long 224423914689)]) C.1 C.2.1 dX4_stirredPagers_34 hl (k := 1) rfl (by decide) (by decide) rfl (fun ls hl => ?_)
  refine lv_goto (tgt := 14) C.1 C.2.1 dX4_stirredPagers_37 (by decide) ?_
  refine lv_iload C.1 C.2.1 dX4_stirredPagers_14 (lv_at hl 0 rfl) ?_
  refine lv_iconst (v := 3) C.1 C.2.1 dX4_stirredPagers_16 (by decide) ?_
  refine lv_icmp_gt (tgt := 40) C.1 C.2.1 dX4_stirredPagers_17 (by decide) (fun _ => ?_) (fun c9 => absurd (by decide) c9)
  refine lv_iinc (v := 2) (lv' := [(5, .int 2), (6, .int 4), (3, .long 5728916861381303233), (0, .ref h0), (1, .long 224423914689)]) C.1 C.2.1 dX4_stirredPagers_40 hl (k := 2) rfl (by decide) (by decide) rfl (fun ls hl => ?_)
  refine lv_goto (tgt := 5) C.1 C.2.1 dX4_stirredPagers_43 (by decide) ?_
  refine lv_iload C.1 C.2.1 dX4_stirredPagers_5 (lv_at hl 0 rfl) ?_
  refine lv_iconst (v := 3) C.1 C.2.1 dX4_stirredPagers_7 (by decide) ?_
  refine lv_icmp_ge (tgt := 46) C.1 C.2.1 dX4_stirredPagers_8 (by decide) (fun c9 => absurd c9 (by decide)) (fun _ => ?_)
  refine lv_iconst (v := 0) C.1 C.2.1 dX4_stirredPagers_11 (by decide) ?_
  refine lv_istore (lv' := [(6, .int 0), (5, .int 2), (3, .long 5728916861381303233), (0, .ref h0), (1, .long 224423914689)]) C.1 C.2.1 dX4_stirredPagers_12 hl (by decide) rfl (fun ls hl => ?_)
  refine lv_iload C.1 C.2.1 dX4_stirredPagers_14 (lv_at hl 0 rfl) ?_
  refine lv_iconst (v := 3) C.1 C.2.1 dX4_stirredPagers_16 (by decide) ?_
  refine lv_icmp_gt (tgt := 40) C.1 C.2.1 dX4_stirredPagers_17 (by decide) (fun c9 => absurd c9 (by decide)) (fun _ => ?_)
  refine lv_lload_n C.1 C.2.1 dX4_stirredPagers_20 rfl (lv_at hl 2 rfl) ?_
  refine lv_aload_n C.1 C.2.1 dX4_stirredPagers_21 rfl (lv_at hl 3 rfl) ?_
  refine lv_iload C.1 C.2.1 dX4_stirredPagers_22 (lv_at hl 1 rfl) ?_
  refine lv_iload C.1 C.2.1 dX4_stirredPagers_24 (lv_at hl 0 rfl) ?_
  refine x_ki C w [4, 5, 0] [1, 2, 3, 6] rfl rfl (by decide) (by decide) (va_runV (As := [.int 2, .int 0]) (rest := [.long 5728916861381303233]) (xfix C) (c544_X4_ofPager l G cy sa sv h0 h1 h6 h3 h7 h8 h9 h10 h11 h2 h5 (xtr C) _) (cwV 2 (xhts C) (xgV (maxL := 0) (cc := ⟨#[]⟩) (ret := none) gw_1075 gw_898 gw_899 gw_2 gc_X4_ofPager) rfl rfl rfl (by decide +kernel) ⟨(Nat.le_of_ble_eq_true rfl), (Nat.le_of_ble_eq_true rfl)⟩) (xPV C w [4, 5, 0] rfl (by decide) (ci := 8) (q0 := 4) rfl rfl) rfl rfl hl.1 rfl (lv_room (Nat.le_of_ble_eq_true rfl)) dX4_stirredPagers_26 ⟨(Nat.le_of_ble_eq_true rfl), (Nat.le_of_ble_eq_true rfl)⟩) (fun f4489 H locs w => ?_)
  have w : xW G A s [(h2, .inr (4, [.int 0, .int 0, .int 0])), (h3, .inr (7, [.ref h4, .ref h12])), (h4, .inr (6, [.ref h13, .int 0])), (h5, .inr (4, [.int 0, .int 0, .int 0])), (h0, .inr (8, [.ref h3, .ref h7, .ref h8, .ref h9, .ref h1, .int 0, .ref h10, .ref h11])), (h1, .inl (cy 3, 3, .inr (.inr (.inr (.inr (va_up (va_up (va_up (fun _ => none) 0 (some h2)) 1 (some h5)) 2 (some h6))))))), (h6, .inr (4, [.int 0, .int 0, .int 0]))] H _ := w
  refine lv_i2l (v := 0) C.1 C.2.1 dX4_stirredPagers_29 (by decide) ?_
  refine x_kl C w [] [0, 1, 2, 3, 4, 5, 6] rfl rfl (by decide) (by decide) (va_runS (As := [.long 5728916861381303233, .long 0]) (rest := []) (xfix C) (c650_X4_stirred l G cy sa sv (xtr C) _) (va_cwS 2 (xhts C) (xgS gw_1069 gw_1070 gw_2 gc_X4_stirred) rfl rfl rfl (by decide +kernel) ⟨(Nat.le_of_ble_eq_true rfl), (Nat.le_of_ble_eq_true rfl)⟩) (xPS C w [] rfl (by decide)) rfl rfl hl.1 rfl (lv_room (Nat.le_of_ble_eq_true rfl)) dX4_stirredPagers_30 ⟨(Nat.le_of_ble_eq_true rfl), (Nat.le_of_ble_eq_true rfl)⟩) (fun f4490 H locs w => ?_)
  have w : xW G A s [(h2, .inr (4, [.int 0, .int 0, .int 0])), (h3, .inr (7, [.ref h4, .ref h12])), (h4, .inr (6, [.ref h13, .int 0])), (h5, .inr (4, [.int 0, .int 0, .int 0])), (h0, .inr (8, [.ref h3, .ref h7, .ref h8, .ref h9, .ref h1, .int 0, .ref h10, .ref h11])), (h1, .inl (cy 3, 3, .inr (.inr (.inr (.inr (va_up (va_up (va_up (fun _ => none) 0 (some h2)) 1 (some h5)) 2 (some h6))))))), (h6, .inr (4, [.int 0, .int 0, .int 0]))] H _ := w
  refine lv_lstore_n (lv' := [(3, .long (-6871018034275115937)), (6, .int 0), (5, .int 2), (0, .ref h0), (1, .long 224423914689)]) C.1 C.2.1 dX4_stirredPagers_33 rfl hl (by decide) rfl (fun ls hl => ?_)
  refine lv_iinc (v := 1) (lv' := [(6, .int 1), (3, .long (-6871018034275115937)), (5, .int 2), (0, .ref h0), (1, .long 224423914689)]) C.1 C.2.1 dX4_stirredPagers_34 hl (k := 1) rfl (by decide) (by decide) rfl (fun ls hl => ?_)
  refine lv_goto (tgt := 14) C.1 C.2.1 dX4_stirredPagers_37 (by decide) ?_
  refine lv_iload C.1 C.2.1 dX4_stirredPagers_14 (lv_at hl 0 rfl) ?_
  refine lv_iconst (v := 3) C.1 C.2.1 dX4_stirredPagers_16 (by decide) ?_
  refine lv_icmp_gt (tgt := 40) C.1 C.2.1 dX4_stirredPagers_17 (by decide) (fun c9 => absurd c9 (by decide)) (fun _ => ?_)
  refine lv_lload_n C.1 C.2.1 dX4_stirredPagers_20 rfl (lv_at hl 1 rfl) ?_
  refine lv_aload_n C.1 C.2.1 dX4_stirredPagers_21 rfl (lv_at hl 3 rfl) ?_
  refine lv_iload C.1 C.2.1 dX4_stirredPagers_22 (lv_at hl 2 rfl) ?_
  refine lv_iload C.1 C.2.1 dX4_stirredPagers_24 (lv_at hl 0 rfl) ?_
  refine x_ki C w [4, 5, 1, 2, 6] [0, 3] rfl rfl (by decide) (by decide) (va_runV (As := [.int 2, .int 1]) (rest := [.long (-6871018034275115937)]) (xfix C) (c548_X4_ofPager l G cy sa sv h0 h1 h3 h4 h6 h7 h8 h9 h10 h11 h2 h5 h12 h13 (xtr C) _) (cwV 2 (xhts C) (xgV (maxL := 0) (cc := ⟨#[]⟩) (ret := none) gw_1075 gw_898 gw_899 gw_2 gc_X4_ofPager) rfl rfl rfl (by decide +kernel) ⟨(Nat.le_of_ble_eq_true rfl), (Nat.le_of_ble_eq_true rfl)⟩) (xPV C w [4, 5, 1, 2, 6] rfl (by decide) (ci := 8) (q0 := 4) rfl rfl) rfl rfl hl.1 rfl (lv_room (Nat.le_of_ble_eq_true rfl)) dX4_stirredPagers_26 ⟨(Nat.le_of_ble_eq_true rfl), (Nat.le_of_ble_eq_true rfl)⟩) (fun f4495 H locs w => ?_)
  have w : xW G A s [(h2, .inr (4, [.int 0, .int 0, .int 0])), (h5, .inr (4, [.int 0, .int 0, .int 0])), (h0, .inr (8, [.ref h3, .ref h7, .ref h8, .ref h9, .ref h1, .int 0, .ref h10, .ref h11])), (h1, .inl (cy 3, 3, .inr (.inr (.inr (.inr (va_up (va_up (va_up (fun _ => none) 0 (some h2)) 1 (some h5)) 2 (some h6))))))), (h3, .inr (7, [.ref h4, .ref h12])), (h4, .inr (6, [.ref h13, .int 0])), (h6, .inr (4, [.int 0, .int 0, .int 0]))] H _ := w
  refine lv_i2l (v := 0) C.1 C.2.1 dX4_stirredPagers_29 (by decide) ?_
  refine x_kl C w [] [0, 1, 2, 3, 4, 5, 6] rfl rfl (by decide) (by decide) (va_runS (As := [.long (-6871018034275115937), .long 0]) (rest := []) (xfix C) (c651_X4_stirred l G cy sa sv (xtr C) _) (va_cwS 2 (xhts C) (xgS gw_1069 gw_1070 gw_2 gc_X4_stirred) rfl rfl rfl (by decide +kernel) ⟨(Nat.le_of_ble_eq_true rfl), (Nat.le_of_ble_eq_true rfl)⟩) (xPS C w [] rfl (by decide)) rfl rfl hl.1 rfl (lv_room (Nat.le_of_ble_eq_true rfl)) dX4_stirredPagers_30 ⟨(Nat.le_of_ble_eq_true rfl), (Nat.le_of_ble_eq_true rfl)⟩) (fun f4496 H locs w => ?_)
  have w : xW G A s [(h2, .inr (4, [.int 0, .int 0, .int 0])), (h5, .inr (4, [.int 0, .int 0, .int 0])), (h0, .inr (8, [.ref h3, .ref h7, .ref h8, .ref h9, .ref h1, .int 0, .ref h10, .ref h11])), (h1, .inl (cy 3, 3, .inr (.inr (.inr (.inr (va_up (va_up (va_up (fun _ => none) 0 (some h2)) 1 (some h5)) 2 (some h6))))))), (h3, .inr (7, [.ref h4, .ref h12])), (h4, .inr (6, [.ref h13, .int 0])), (h6, .inr (4, [.int 0, .int 0, .int 0]))] H _ := w
  refine lv_lstore_n (lv' := [(3, .long 8359369821986025345), (6, .int 1), (5, .int 2), (0, .ref h0), (1, .long 224423914689)]) C.1 C.2.1 dX4_stirredPagers_33 rfl hl (by decide) rfl (fun ls hl => ?_)
  refine lv_iinc (v := 2) (lv' := [(6, .int 2), (3, .long 8359369821986025345), (5, .int 2), (0, .ref h0), (1, .long 224423914689)]) C.1 C.2.1 dX4_stirredPagers_34 hl (k := 1) rfl (by decide) (by decide) rfl (fun ls hl => ?_)
  refine lv_goto (tgt := 14) C.1 C.2.1 dX4_stirredPagers_37 (by decide) ?_
  refine lv_iload C.1 C.2.1 dX4_stirredPagers_14 (lv_at hl 0 rfl) ?_
  refine lv_iconst (v := 3) C.1 C.2.1 dX4_stirredPagers_16 (by decide) ?_
  refine lv_icmp_gt (tgt := 40) C.1 C.2.1 dX4_stirredPagers_17 (by decide) (fun c9 => absurd c9 (by decide)) (fun _ => ?_)
  refine lv_lload_n C.1 C.2.1 dX4_stirredPagers_20 rfl (lv_at hl 1 rfl) ?_
  refine lv_aload_n C.1 C.2.1 dX4_stirredPagers_21 rfl (lv_at hl 3 rfl) ?_
  refine lv_iload C.1 C.2.1 dX4_stirredPagers_22 (lv_at hl 2 rfl) ?_
  refine lv_iload C.1 C.2.1 dX4_stirredPagers_24 (lv_at hl 0 rfl) ?_
  refine x_ki C w [2, 3, 6] [0, 1, 4, 5] rfl rfl (by decide) (by decide) (va_runV (As := [.int 2, .int 2]) (rest := [.long 8359369821986025345]) (xfix C) (c552_X4_ofPager l G cy sa sv h0 h1 h6 h3 h7 h8 h9 h10 h11 h2 h5 (xtr C) _) (cwV 2 (xhts C) (xgV (maxL := 0) (cc := ⟨#[]⟩) (ret := none) gw_1075 gw_898 gw_899 gw_2 gc_X4_ofPager) rfl rfl rfl (by decide +kernel) ⟨(Nat.le_of_ble_eq_true rfl), (Nat.le_of_ble_eq_true rfl)⟩) (xPV C w [2, 3, 6] rfl (by decide) (ci := 8) (q0 := 2) rfl rfl) rfl rfl hl.1 rfl (lv_room (Nat.le_of_ble_eq_true rfl)) dX4_stirredPagers_26 ⟨(Nat.le_of_ble_eq_true rfl), (Nat.le_of_ble_eq_true rfl)⟩) (fun f4498 H locs w => ?_)
  have w : xW G A s [(h2, .inr (4, [.int 0, .int 0, .int 0])), (h5, .inr (4, [.int 0, .int 0, .int 0])), (h3, .inr (7, [.ref h4, .ref h12])), (h4, .inr (6, [.ref h13, .int 0])), (h0, .inr (8, [.ref h3, .ref h7, .ref h8, .ref h9, .ref h1, .int 0, .ref h10, .ref h11])), (h1, .inl (cy 3, 3, .inr (.inr (.inr (.inr (va_up (va_up (va_up (fun _ => none) 0 (some h2)) 1 (some h5)) 2 (some h6))))))), (h6, .inr (4, [.int 0, .int 0, .int 0]))] H _ := w
  refine lv_i2l (v := 0) C.1 C.2.1 dX4_stirredPagers_29 (by decide) ?_
  refine x_kl C w [] [0, 1, 2, 3, 4, 5, 6] rfl rfl (by decide) (by decide) (va_runS (As := [.long 8359369821986025345, .long 0]) (rest := []) (xfix C) (c652_X4_stirred l G cy sa sv (xtr C) _) (va_cwS 2 (xhts C) (xgS gw_1069 gw_1070 gw_2 gc_X4_stirred) rfl rfl rfl (by decide +kernel) ⟨(Nat.le_of_ble_eq_true rfl), (Nat.le_of_ble_eq_true rfl)⟩) (xPS C w [] rfl (by decide)) rfl rfl hl.1 rfl (lv_room (Nat.le_of_ble_eq_true rfl)) dX4_stirredPagers_30 ⟨(Nat.le_of_ble_eq_true rfl), (Nat.le_of_ble_eq_true rfl)⟩) (fun f4499 H locs w => ?_)
  have w : xW G A s [(h2, .inr (4, [.int 0, .int 0, .int 0])), (h5, .inr (4, [.int 0, .int 0, .int 0])), (h3, .inr (7, [.ref h4, .ref h12])), (h4, .inr (6, [.ref h13, .int 0])), (h0, .inr (8, [.ref h3, .ref h7, .ref h8, .ref h9, .ref h1, .int 0, .ref h10, .ref h11])), (h1, .inl (cy 3, 3, .inr (.inr (.inr (.inr (va_up (va_up (va_up (fun _ => none) 0 (some h2)) 1 (some h5)) 2 (some h6))))))), (h6, .inr (4, [.int 0, .int 0, .int 0]))] H _ := w
  refine lv_lstore_n (lv' := [(3, .long 886047449633063071), (6, .int 2), (5, .int 2), (0, .ref h0), (1, .long 224423914689)]) C.1 C.2.1 dX4_stirredPagers_33 rfl hl (by decide) rfl (fun ls hl => ?_)
  refine lv_iinc (v := 3) (lv' := [(6, .int 3), (3, .long 886047449633063071), (5, .int 2), (0, .ref h0), (1, .long 224423914689)]) C.1 C.2.1 dX4_stirredPagers_34 hl (k := 1) rfl (by decide) (by decide) rfl (fun ls hl => ?_)
  refine lv_goto (tgt := 14) C.1 C.2.1 dX4_stirredPagers_37 (by decide) ?_
  refine lv_iload C.1 C.2.1 dX4_stirredPagers_14 (lv_at hl 0 rfl) ?_
  refine lv_iconst (v := 3) C.1 C.2.1 dX4_stirredPagers_16 (by decide) ?_
  refine lv_icmp_gt (tgt := 40) C.1 C.2.1 dX4_stirredPagers_17 (by decide) (fun c9 => absurd c9 (by decide)) (fun _ => ?_)
  refine lv_lload_n C.1 C.2.1 dX4_stirredPagers_20 rfl (lv_at hl 1 rfl) ?_
  refine lv_aload_n C.1 C.2.1 dX4_stirredPagers_21 rfl (lv_at hl 3 rfl) ?_
  refine lv_iload C.1 C.2.1 dX4_stirredPagers_22 (lv_at hl 2 rfl) ?_
  refine lv_iload C.1 C.2.1 dX4_stirredPagers_24 (lv_at hl 0 rfl) ?_
  refine x_ki C w [4, 5, 6] [0, 1, 2, 3] rfl rfl (by decide) (by decide) (va_runV (As := [.int 2, .int 3]) (rest := [.long 886047449633063071]) (xfix C) (c556_X4_ofPager l G cy sa sv h0 h1 h6 h3 h7 h8 h9 h10 h11 h2 h5 (xtr C) _) (cwV 2 (xhts C) (xgV (maxL := 0) (cc := ⟨#[]⟩) (ret := none) gw_1075 gw_898 gw_899 gw_2 gc_X4_ofPager) rfl rfl rfl (by decide +kernel) ⟨(Nat.le_of_ble_eq_true rfl), (Nat.le_of_ble_eq_true rfl)⟩) (xPV C w [4, 5, 6] rfl (by decide) (ci := 8) (q0 := 4) rfl rfl) rfl rfl hl.1 rfl (lv_room (Nat.le_of_ble_eq_true rfl)) dX4_stirredPagers_26 ⟨(Nat.le_of_ble_eq_true rfl), (Nat.le_of_ble_eq_true rfl)⟩) (fun f4501 H locs w => ?_)
  have w : xW G A s [(h2, .inr (4, [.int 0, .int 0, .int 0])), (h5, .inr (4, [.int 0, .int 0, .int 0])), (h3, .inr (7, [.ref h4, .ref h12])), (h4, .inr (6, [.ref h13, .int 0])), (h0, .inr (8, [.ref h3, .ref h7, .ref h8, .ref h9, .ref h1, .int 0, .ref h10, .ref h11])), (h1, .inl (cy 3, 3, .inr (.inr (.inr (.inr (va_up (va_up (va_up (fun _ => none) 0 (some h2)) 1 (some h5)) 2 (some h6))))))), (h6, .inr (4, [.int 0, .int 0, .int 0]))] H _ := w
  refine lv_i2l (v := 0) C.1 C.2.1 dX4_stirredPagers_29 (by decide) ?_
  refine x_kl C w [] [0, 1, 2, 3, 4, 5, 6] rfl rfl (by decide) (by decide) (va_runS (As := [.long 886047449633063071, .long 0]) (rest := []) (xfix C) (c653_X4_stirred l G cy sa sv (xtr C) _) (va_cwS 2 (xhts C) (xgS gw_1069 gw_1070 gw_2 gc_X4_stirred) rfl rfl rfl (by decide +kernel) ⟨(Nat.le_of_ble_eq_true rfl), (Nat.le_of_ble_eq_true rfl)⟩) (xPS C w [] rfl (by decide)) rfl rfl hl.1 rfl (lv_room (Nat.le_of_ble_eq_true rfl)) dX4_stirredPagers_30 ⟨(Nat.le_of_ble_eq_true rfl), (Nat.le_of_ble_eq_true rfl)⟩) (fun f4502 H locs w => ?_)
  have w : xW G A s [(h2, .inr (4, [.int 0, .int 0, .int 0])), (h5, .inr (4, [.int 0, .int 0, .int 0])), (h3, .inr (7, [.ref h4, .ref h12])), (h4, .inr (6, [.ref h13, .int 0])), (h0, .inr (8, [.ref h3, .ref h7, .ref h8, .ref h9, .ref h1, .int 0, .ref h10, .ref h11])), (h1, .inl (cy 3, 3, .inr (.inr (.inr (.inr (va_up (va_up (va_up (fun _ => none) 0 (some h2)) 1 (some h5)) 2 (some h6))))))), (h6, .inr (4, [.int 0, .int 0, .int 0]))] H _ := w
  refine lv_lstore_n (lv' := [(3, .long 9020726864915403585), (6, .int 3), (5, .int 2), (0, .ref h0), (1, .long 224423914689)]) C.1 C.2.1 dX4_stirredPagers_33 rfl hl (by decide) rfl (fun ls hl => ?_)
  refine lv_iinc (v := 4) (lv' := [(6, .int 4), (3, .long 9020726864915403585), (5, .int 2), (0, .ref h0), (1, .long 224423914689)]) C.1 C.2.1 dX4_stirredPagers_34 hl (k := 1) rfl (by decide) (by decide) rfl (fun ls hl => ?_)
  refine lv_goto (tgt := 14) C.1 C.2.1 dX4_stirredPagers_37 (by decide) ?_
  refine lv_iload C.1 C.2.1 dX4_stirredPagers_14 (lv_at hl 0 rfl) ?_
  refine lv_iconst (v := 3) C.1 C.2.1 dX4_stirredPagers_16 (by decide) ?_
  refine lv_icmp_gt (tgt := 40) C.1 C.2.1 dX4_stirredPagers_17 (by decide) (fun _ => ?_) (fun c9 => absurd (by decide) c9)
  refine lv_iinc (v := 3) (lv' := [(5, .int 3), (6, .int 4), (3, .long 9020726864915403585), (0, .ref h0), (1, .long 224423914689)]) C.1 C.2.1 dX4_stirredPagers_40 hl (k := 2) rfl (by decide) (by decide) rfl (fun ls hl => ?_)
  refine lv_goto (tgt := 5) C.1 C.2.1 dX4_stirredPagers_43 (by decide) ?_
  refine lv_iload C.1 C.2.1 dX4_stirredPagers_5 (lv_at hl 0 rfl) ?_
  refine lv_iconst (v := 3) C.1 C.2.1 dX4_stirredPagers_7 (by decide) ?_
  refine lv_icmp_ge (tgt := 46) C.1 C.2.1 dX4_stirredPagers_8 (by decide) (fun _ => ?_) (fun c9 => absurd (by decide) c9)
  refine lv_lload_n C.1 C.2.1 dX4_stirredPagers_46 rfl (lv_at hl 2 rfl) ?_
  have w := w.sub (ws' := [(h0, .inr (8, [.ref h3, .ref h7, .ref h8, .ref h9, .ref h1, .int 0, .ref h10, .ref h11])), (h1, .inl (cy 3, 3, .inr (.inr (.inr (.inr (va_up (va_up (va_up (fun _ => none) 0 (some h2)) 1 (some h5)) 2 (some h6))))))), (h2, .inr (4, [.int 0, .int 0, .int 0])), (h3, .inr (7, [.ref h4, .ref h12])), (h4, .inr (6, [.ref h13, .int 0])), (h5, .inr (4, [.int 0, .int 0, .int 0])), (h6, .inr (4, [.int 0, .int 0, .int 0]))]) [4, 5, 0, 2, 3, 1, 6] (by decide) rfl rfl
  exact x_lret C w hr (fun _ => 0) rfl rfl dX4_stirredPagers_47 (Nat.le_of_ble_eq_true rfl) (Nat.le_of_ble_eq_true rfl)
set_option maxHeartbeats 4000000 in
set_option maxRecDepth 100000 in
theorem c655_X4_stirred (l : Launch) (G : va_G) (cy : Nat → ClassId) (sa : String → Nat → Nat) (sv : Nat → Nat) : xM l G cy sa sv yX4_stirred (Cond.code yX4_stirred cX4_stirred 4 (some .long) :: XG) { frames := 8, cells := 0, slots := 0, locals := 250 } [.long 9020726864915403585, .long 0] [] (xQl G (fun f => []) 2941371706734236895) := by
  refine xof (by decide) (Nat.le_of_ble_eq_true rfl) (fun p e s m below meth c A C w hr hn ls hl => ?_)
  have hl : lv_has ls 4 [(0, .long 9020726864915403585), (2, .long 0)] := hl
  refine lv_lload_n C.1 C.2.1 dX4_stirred_0 rfl (lv_at hl 0 rfl) ?_
  refine lv_ldc2 (v := 31) C.1 C.2.1 (xown C) (xhts C _ (List.mem_cons_of_mem _ gw_1067)) dX4_stirred_1 ?_
  refine lv_lmul C.1 C.2.1 dX4_stirred_4 ?_
  refine x_il (y := 2941371706734236895) (by decide) ?_
  refine lv_lload_n C.1 C.2.1 dX4_stirred_5 rfl (lv_at hl 1 rfl) ?_
  refine lv_ladd C.1 C.2.1 dX4_stirred_6 ?_
  refine x_il (y := 2941371706734236895) (by decide) ?_
  exact x_lret C w hr (fun _ => 0) rfl rfl dX4_stirred_7 (Nat.le_of_ble_eq_true rfl) (Nat.le_of_ble_eq_true rfl)
set_option maxHeartbeats 4000000 in
set_option maxRecDepth 100000 in
theorem c656_J0_coder_7d493 (l : Launch) (G : va_G) (cy : Nat → ClassId) (sa : String → Nat → Nat) (sv : Nat → Nat) (h0 h1 : Nat) : xM l G cy sa sv yJ0_coder_7d493 (Cond.code yJ0_coder_7d493 cJ0_coder_7d493 1 (some .byte) :: XG) { frames := 8, cells := 0, slots := 0, locals := 250 } [.ref h0] [(h0, .inr (0, [.ref h1, .int 0, .int 0, .int 0]))] (xQi G (fun f => [(h0, .inr (0, [.ref h1, .int 0, .int 0, .int 0]))]) 0) := by
  refine xof (by decide) (Nat.le_of_ble_eq_true rfl) (fun p e s m below meth c A C w hr hn ls hl => ?_)
  have hl : lv_has ls 1 [(0, .ref h0)] := hl
  refine x_gets C w (xs_cs (xS C)) (List.mem_cons_of_mem _ gw_557) rfl dJ0_coder_7d493_0 ?_
  refine lv_if_eq (tgt := 13) C.1 C.2.1 dJ0_coder_7d493_3 (by decide) (fun c9 => absurd c9 (by decide)) (fun _ => ?_)
  refine lv_aload_n C.1 C.2.1 dJ0_coder_7d493_6 rfl (lv_at hl 0 rfl) ?_
  refine x_get (v := .int 0) C w 0 0 1 (xin_J0 _) rfl rfl (by decide) (List.mem_cons_of_mem _ gw_514) rfl rfl dJ0_coder_7d493_7 ?_
  refine lv_goto (tgt := 14) C.1 C.2.1 dJ0_coder_7d493_10 (by decide) ?_
  exact x_zret C w hr rfl (fun _ => 0) rfl rfl dJ0_coder_7d493_14 (Nat.le_of_ble_eq_true rfl) (Nat.le_of_ble_eq_true rfl)
set_option maxHeartbeats 4000000 in
set_option maxRecDepth 100000 in
theorem c657_J0_length_8abf5 (l : Launch) (G : va_G) (cy : Nat → ClassId) (sa : String → Nat → Nat) (sv : Nat → Nat) (h0 h1 : Nat) : xM l G cy sa sv yJ0_length_8abf5 (Cond.code yJ0_length_8abf5 cJ0_length_8abf5 1 (some .int) :: XG) { frames := 9, cells := 0, slots := 0, locals := 270 } [.ref h0] [(h0, .inr (0, [.ref h1, .int 0, .int 0, .int 0])), (h1, .inl (cy 0, 2, .inl (va_cpy (upd (upd (fun _ => 0) 0 123) 1 125) (fun _ => 0) 0 0 2)))] (xQi G (fun f => [(h0, .inr (0, [.ref h1, .int 0, .int 0, .int 0])), (h1, .inl (cy 0, 2, .inl (va_cpy (upd (upd (fun _ => 0) 0 123) 1 125) (fun _ => 0) 0 0 2)))]) 2) := by
  refine xof (by decide) (Nat.le_of_ble_eq_true rfl) (fun p e s m below meth c A C w hr hn ls hl => ?_)
  have hl : lv_has ls 1 [(0, .ref h0)] := hl
  refine lv_aload_n C.1 C.2.1 dJ0_length_8abf5_0 rfl (lv_at hl 0 rfl) ?_
  refine x_get (v := .ref h1) C w 0 0 0 (xin_J0 _) rfl rfl (by decide) (List.mem_cons_of_mem _ gw_530) rfl rfl dJ0_length_8abf5_1 ?_
  refine x_alen (v := 2) C w 1 0 rfl rfl (by rfl) dJ0_length_8abf5_4 ?_
  refine lv_aload_n C.1 C.2.1 dJ0_length_8abf5_5 rfl (lv_at hl 0 rfl) ?_
  refine x_ki C w [0] [1] rfl rfl (by decide) (by decide) (va_runV (As := []) (rest := [.int 2]) (xfix C) (c656_J0_coder_7d493 l G cy sa sv h0 h1 (xtr C) _) (cwV 0 (xhts C) (xgV (maxL := 0) (cc := ⟨#[]⟩) (ret := none) gw_605 gw_606 gw_607 gw_492 gc_J0_coder_7d493) rfl rfl rfl (by decide +kernel) ⟨(Nat.le_of_ble_eq_true rfl), (Nat.le_of_ble_eq_true rfl)⟩) (xPV C w [0] rfl (by decide) (ci := 0) (q0 := 0) rfl rfl) rfl rfl hl.1 rfl (lv_room (Nat.le_of_ble_eq_true rfl)) dJ0_length_8abf5_6 ⟨(Nat.le_of_ble_eq_true rfl), (Nat.le_of_ble_eq_true rfl)⟩) (fun f4573 H locs w => ?_)
  have w : xW G A s [(h1, .inl (cy 0, 2, .inl (va_cpy (upd (upd (fun _ => 0) 0 123) 1 125) (fun _ => 0) 0 0 2))), (h0, .inr (0, [.ref h1, .int 0, .int 0, .int 0]))] H _ := w
  refine lv_ishr C.1 C.2.1 dJ0_length_8abf5_9 ?_
  refine x_is (y := 2) (by decide) ?_
  have w := w.sub (ws' := [(h0, .inr (0, [.ref h1, .int 0, .int 0, .int 0])), (h1, .inl (cy 0, 2, .inl (va_cpy (upd (upd (fun _ => 0) 0 123) 1 125) (fun _ => 0) 0 0 2)))]) [1, 0] (by decide) rfl rfl
  exact x_iret C w hr (fun _ => 0) rfl rfl dJ0_length_8abf5_10 (Nat.le_of_ble_eq_true rfl) (Nat.le_of_ble_eq_true rfl)
set_option maxHeartbeats 4000000 in
set_option maxRecDepth 100000 in
theorem c658_X4_stirred (l : Launch) (G : va_G) (cy : Nat → ClassId) (sa : String → Nat → Nat) (sv : Nat → Nat) : xM l G cy sa sv yX4_stirred (Cond.code yX4_stirred cX4_stirred 4 (some .long) :: XG) { frames := 8, cells := 0, slots := 0, locals := 250 } [.long 2941371706734236895, .long 2] [] (xQl G (fun f => []) (-1051197459786414333)) := by
  refine xof (by decide) (Nat.le_of_ble_eq_true rfl) (fun p e s m below meth c A C w hr hn ls hl => ?_)
  have hl : lv_has ls 4 [(0, .long 2941371706734236895), (2, .long 2)] := hl
  refine lv_lload_n C.1 C.2.1 dX4_stirred_0 rfl (lv_at hl 0 rfl) ?_
  refine lv_ldc2 (v := 31) C.1 C.2.1 (xown C) (xhts C _ (List.mem_cons_of_mem _ gw_1067)) dX4_stirred_1 ?_
  refine lv_lmul C.1 C.2.1 dX4_stirred_4 ?_
  refine x_il (y := (-1051197459786414335)) (by decide) ?_
  refine lv_lload_n C.1 C.2.1 dX4_stirred_5 rfl (lv_at hl 1 rfl) ?_
  refine lv_ladd C.1 C.2.1 dX4_stirred_6 ?_
  refine x_il (y := (-1051197459786414333)) (by decide) ?_
  exact x_lret C w hr (fun _ => 0) rfl rfl dX4_stirred_7 (Nat.le_of_ble_eq_true rfl) (Nat.le_of_ble_eq_true rfl)
set_option maxHeartbeats 4000000 in
set_option maxRecDepth 100000 in
theorem c659_X4_stirred (l : Launch) (G : va_G) (cy : Nat → ClassId) (sa : String → Nat → Nat) (sv : Nat → Nat) : xM l G cy sa sv yX4_stirred (Cond.code yX4_stirred cX4_stirred 4 (some .long) :: XG) { frames := 8, cells := 0, slots := 0, locals := 250 } [.long (-1051197459786414333), .long 0] [] (xQl G (fun f => []) 4306366894040258909) := by
  refine xof (by decide) (Nat.le_of_ble_eq_true rfl) (fun p e s m below meth c A C w hr hn ls hl => ?_)
  have hl : lv_has ls 4 [(0, .long (-1051197459786414333)), (2, .long 0)] := hl
  refine lv_lload_n C.1 C.2.1 dX4_stirred_0 rfl (lv_at hl 0 rfl) ?_
  refine lv_ldc2 (v := 31) C.1 C.2.1 (xown C) (xhts C _ (List.mem_cons_of_mem _ gw_1067)) dX4_stirred_1 ?_
  refine lv_lmul C.1 C.2.1 dX4_stirred_4 ?_
  refine x_il (y := 4306366894040258909) (by decide) ?_
  refine lv_lload_n C.1 C.2.1 dX4_stirred_5 rfl (lv_at hl 1 rfl) ?_
  refine lv_ladd C.1 C.2.1 dX4_stirred_6 ?_
  refine x_il (y := 4306366894040258909) (by decide) ?_
  exact x_lret C w hr (fun _ => 0) rfl rfl dX4_stirred_7 (Nat.le_of_ble_eq_true rfl) (Nat.le_of_ble_eq_true rfl)
set_option maxHeartbeats 4000000 in
set_option maxRecDepth 100000 in
theorem c660_X4_stirred (l : Launch) (G : va_G) (cy : Nat → ClassId) (sa : String → Nat → Nat) (sv : Nat → Nat) : xM l G cy sa sv yX4_stirred (Cond.code yX4_stirred cX4_stirred 4 (some .long) :: XG) { frames := 8, cells := 0, slots := 0, locals := 250 } [.long 4306366894040258909, .long 1] [] (xQl G (fun f => []) 4370165199281164868) := by
  refine xof (by decide) (Nat.le_of_ble_eq_true rfl) (fun p e s m below meth c A C w hr hn ls hl => ?_)
  have hl : lv_has ls 4 [(0, .long 4306366894040258909), (2, .long 1)] := hl
  refine lv_lload_n C.1 C.2.1 dX4_stirred_0 rfl (lv_at hl 0 rfl) ?_
  refine lv_ldc2 (v := 31) C.1 C.2.1 (xown C) (xhts C _ (List.mem_cons_of_mem _ gw_1067)) dX4_stirred_1 ?_
  refine lv_lmul C.1 C.2.1 dX4_stirred_4 ?_
  refine x_il (y := 4370165199281164867) (by decide) ?_
  refine lv_lload_n C.1 C.2.1 dX4_stirred_5 rfl (lv_at hl 1 rfl) ?_
  refine lv_ladd C.1 C.2.1 dX4_stirred_6 ?_
  refine x_il (y := 4370165199281164868) (by decide) ?_
  exact x_lret C w hr (fun _ => 0) rfl rfl dX4_stirred_7 (Nat.le_of_ble_eq_true rfl) (Nat.le_of_ble_eq_true rfl)
set_option maxHeartbeats 4000000 in
set_option maxRecDepth 100000 in
theorem c661_X4_digest (l : Launch) (G : va_G) (cy : Nat → ClassId) (sa : String → Nat → Nat) (sv : Nat → Nat) (h0 h1 h2 h3 h4 h5 h6 h7 h8 h9 h10 h11 h12 h13 h14 h15 h16 h17 h18 h19 h20 h21 h22 h23 h24 h25 h26 : Nat) : xM l G cy sa sv yX4_digest (Cond.code yX4_digest cX4_digest 4 (some .long) :: XG) { frames := 15, cells := 4, slots := 26, locals := 403 } [.ref h0] [(h0, .inr (8, [.ref h1, .ref h11, .ref h3, .ref h5, .ref h7, .int 0, .ref h20, .ref h12])), (h1, .inr (7, [.ref h2, .ref h17])), (h2, .inr (6, [.ref h15, .int 0])), (h3, .inr (5, [.ref h21, .ref h22, .ref h4, .int 0])), (h4, .inr (6, [.ref h23, .int 0])), (h5, .inr (7, [.ref h6, .ref h24])), (h6, .inr (6, [.ref h25, .int 0])), (h7, .inl (cy 3, 3, .inr (.inr (.inr (.inr (va_up (va_up (va_up (fun _ => none) 0 (some h8)) 1 (some h9)) 2 (some h10))))))), (h8, .inr (4, [.int 0, .int 0, .int 0])), (h9, .inr (4, [.int 0, .int 0, .int 0])), (h10, .inr (4, [.int 0, .int 0, .int 0])), (h11, .inr (6, [.ref h26, .int 0])), (h12, .inr (7, [.ref h13, .ref h16])), (h13, .inr (6, [.ref h14, .int 0])), (h14, .inl (cy 1, 24, .inl (fun _ => 0))), (h15, .inl (cy 1, 24, .inl (fun _ => 0))), (h16, .inr (6, [.ref h18, .int 0])), (h17, .inr (6, [.ref h19, .int 0])), (h18, .inl (cy 1, 24, .inl (fun _ => 0))), (h19, .inl (cy 1, 24, .inl (fun _ => 0)))] (xQl G (fun f => [(h0, .inr (8, [.ref h1, .ref h11, .ref h3, .ref h5, .ref h7, .int 0, .ref h20, .ref h12])), (h1, .inr (7, [.ref h2, .ref h17])), (h2, .inr (6, [.ref h15, .int 0])), (h3, .inr (5, [.ref h21, .ref h22, .ref h4, .int 0])), (h4, .inr (6, [.ref h23, .int 0])), (h5, .inr (7, [.ref h6, .ref h24])), (h6, .inr (6, [.ref h25, .int 0])), (h7, .inl (cy 3, 3, .inr (.inr (.inr (.inr (va_up (va_up (va_up (fun _ => none) 0 (some h8)) 1 (some h9)) 2 (some h10))))))), (h8, .inr (4, [.int 0, .int 0, .int 0])), (h9, .inr (4, [.int 0, .int 0, .int 0])), (h10, .inr (4, [.int 0, .int 0, .int 0])), (h11, .inr (6, [.ref h26, .int 0])), (h12, .inr (7, [.ref h13, .ref h16])), (h13, .inr (6, [.ref h14, .int 0])), (h14, .inl (cy 1, 24, .inl (va_cpy (fun _ => 0) (fun _ => 0) 0 0 0))), (h15, .inl (cy 1, 24, .inl (fun _ => 0))), (h16, .inr (6, [.ref h18, .int 0])), (h17, .inr (6, [.ref h19, .int 0])), (h18, .inl (cy 1, 24, .inl (va_cpy (fun _ => 0) (fun _ => 0) 0 0 0))), (h19, .inl (cy 1, 24, .inl (fun _ => 0)))]) 4370165199281164868) := by
  refine xof (by decide) (Nat.le_of_ble_eq_true rfl) (fun p e s m below meth c A C w hr hn ls hl => ?_)
  have hl : lv_has ls 4 [(0, .ref h0)] := hl
  refine lv_ldc2 (v := 7839) C.1 C.2.1 (xown C) (xhts C _ (List.mem_cons_of_mem _ gw_1065)) dX4_digest_0 ?_
  refine lv_lstore_n (lv' := [(1, .long 7839), (0, .ref h0)]) C.1 C.2.1 dX4_digest_3 rfl hl (by decide) rfl (fun ls hl => ?_)
  refine lv_iconst (v := 0) C.1 C.2.1 dX4_digest_4 (by decide) ?_
  refine lv_istore_n (lv' := [(3, .int 0), (1, .long 7839), (0, .ref h0)]) C.1 C.2.1 dX4_digest_5 rfl hl (by decide) rfl (fun ls hl => ?_)
  refine lv_iload_n C.1 C.2.1 dX4_digest_6 rfl (lv_at hl 0 rfl) ?_
  refine lv_iconst (v := 4) C.1 C.2.1 dX4_digest_7 (by decide) ?_
  refine lv_icmp_gt (tgt := 28) C.1 C.2.1 dX4_digest_8 (by decide) (fun c9 => absurd c9 (by decide)) (fun _ => ?_)
  refine lv_lload_n C.1 C.2.1 dX4_digest_11 rfl (lv_at hl 1 rfl) ?_
  refine lv_aload_n C.1 C.2.1 dX4_digest_12 rfl (lv_at hl 2 rfl) ?_
  refine lv_iload_n C.1 C.2.1 dX4_digest_13 rfl (lv_at hl 0 rfl) ?_
  refine x_ki C w [0, 1, 2] [3, 4, 5, 6, 7, 8, 9, 10, 11, 12, 13, 14, 15, 16, 17, 18, 19] rfl rfl (by decide) (by decide) (va_runV (As := [.int 0]) (rest := [.long 7839]) (xfix C) (c600_X4_house l G cy sa sv h0 h1 h2 h11 h3 h5 h7 h20 h12 h17 h15 (xtr C) _) (cwV 1 (xhts C) (xgV (maxL := 0) (cc := ⟨#[]⟩) (ret := none) gw_1066 gw_1007 gw_1008 gw_2 gc_X4_house) rfl rfl rfl (by decide +kernel) ⟨(Nat.le_of_ble_eq_true rfl), (Nat.le_of_ble_eq_true rfl)⟩) (xPV C w [0, 1, 2] rfl (by decide) (ci := 8) (q0 := 0) rfl rfl) rfl rfl hl.1 rfl (lv_room (Nat.le_of_ble_eq_true rfl)) dX4_digest_14 ⟨(Nat.le_of_ble_eq_true rfl), (Nat.le_of_ble_eq_true rfl)⟩) (fun f4439 H locs w => ?_)
  have w : xW G A s [(h3, .inr (5, [.ref h21, .ref h22, .ref h4, .int 0])), (h4, .inr (6, [.ref h23, .int 0])), (h5, .inr (7, [.ref h6, .ref h24])), (h6, .inr (6, [.ref h25, .int 0])), (h7, .inl (cy 3, 3, .inr (.inr (.inr (.inr (va_up (va_up (va_up (fun _ => none) 0 (some h8)) 1 (some h9)) 2 (some h10))))))), (h8, .inr (4, [.int 0, .int 0, .int 0])), (h9, .inr (4, [.int 0, .int 0, .int 0])), (h10, .inr (4, [.int 0, .int 0, .int 0])), (h11, .inr (6, [.ref h26, .int 0])), (h12, .inr (7, [.ref h13, .ref h16])), (h13, .inr (6, [.ref h14, .int 0])), (h14, .inl (cy 1, 24, .inl (fun _ => 0))), (h15, .inl (cy 1, 24, .inl (fun _ => 0))), (h16, .inr (6, [.ref h18, .int 0])), (h17, .inr (6, [.ref h19, .int 0])), (h18, .inl (cy 1, 24, .inl (fun _ => 0))), (h19, .inl (cy 1, 24, .inl (fun _ => 0))), (h0, .inr (8, [.ref h1, .ref h11, .ref h3, .ref h5, .ref h7, .int 0, .ref h20, .ref h12])), (h1, .inr (7, [.ref h2, .ref h17])), (h2, .inr (6, [.ref h15, .int 0]))] H _ := w
  refine lv_i2l (v := 0) C.1 C.2.1 dX4_digest_17 (by decide) ?_
  refine x_kl C w [] [0, 1, 2, 3, 4, 5, 6, 7, 8, 9, 10, 11, 12, 13, 14, 15, 16, 17, 18, 19] rfl rfl (by decide) (by decide) (va_runS (As := [.long 7839, .long 0]) (rest := []) (xfix C) (c636_X4_stirred l G cy sa sv (xtr C) _) (va_cwS 2 (xhts C) (xgS gw_1069 gw_1070 gw_2 gc_X4_stirred) rfl rfl rfl (by decide +kernel) ⟨(Nat.le_of_ble_eq_true rfl), (Nat.le_of_ble_eq_true rfl)⟩) (xPS C w [] rfl (by decide)) rfl rfl hl.1 rfl (lv_room (Nat.le_of_ble_eq_true rfl)) dX4_digest_18 ⟨(Nat.le_of_ble_eq_true rfl), (Nat.le_of_ble_eq_true rfl)⟩) (fun f4440 H locs w => ?_)
  have w : xW G A s [(h3, .inr (5, [.ref h21, .ref h22, .ref h4, .int 0])), (h4, .inr (6, [.ref h23, .int 0])), (h5, .inr (7, [.ref h6, .ref h24])), (h6, .inr (6, [.ref h25, .int 0])), (h7, .inl (cy 3, 3, .inr (.inr (.inr (.inr (va_up (va_up (va_up (fun _ => none) 0 (some h8)) 1 (some h9)) 2 (some h10))))))), (h8, .inr (4, [.int 0, .int 0, .int 0])), (h9, .inr (4, [.int 0, .int 0, .int 0])), (h10, .inr (4, [.int 0, .int 0, .int 0])), (h11, .inr (6, [.ref h26, .int 0])), (h12, .inr (7, [.ref h13, .ref h16])), (h13, .inr (6, [.ref h14, .int 0])), (h14, .inl (cy 1, 24, .inl (fun _ => 0))), (h15, .inl (cy 1, 24, .inl (fun _ => 0))), (h16, .inr (6, [.ref h18, .int 0])), (h17, .inr (6, [.ref h19, .int 0])), (h18, .inl (cy 1, 24, .inl (fun _ => 0))), (h19, .inl (cy 1, 24, .inl (fun _ => 0))), (h0, .inr (8, [.ref h1, .ref h11, .ref h3, .ref h5, .ref h7, .int 0, .ref h20, .ref h12])), (h1, .inr (7, [.ref h2, .ref h17])), (h2, .inr (6, [.ref h15, .int 0]))] H _ := w
  refine lv_lstore_n (lv' := [(1, .long 243009), (3, .int 0), (0, .ref h0)]) C.1 C.2.1 dX4_digest_21 rfl hl (by decide) rfl (fun ls hl => ?_)
  refine lv_iinc (v := 1) (lv' := [(3, .int 1), (1, .long 243009), (0, .ref h0)]) C.1 C.2.1 dX4_digest_22 hl (k := 1) rfl (by decide) (by decide) rfl (fun ls hl => ?_)
  refine lv_goto (tgt := 6) C.1 C.2.1 dX4_digest_25 (by decide) ?_
  refine lv_iload_n C.1 C.2.1 dX4_digest_6 rfl (lv_at hl 0 rfl) ?_
  refine lv_iconst (v := 4) C.1 C.2.1 dX4_digest_7 (by decide) ?_
  refine lv_icmp_gt (tgt := 28) C.1 C.2.1 dX4_digest_8 (by decide) (fun c9 => absurd c9 (by decide)) (fun _ => ?_)
  refine lv_lload_n C.1 C.2.1 dX4_digest_11 rfl (lv_at hl 1 rfl) ?_
  refine lv_aload_n C.1 C.2.1 dX4_digest_12 rfl (lv_at hl 2 rfl) ?_
  refine lv_iload_n C.1 C.2.1 dX4_digest_13 rfl (lv_at hl 0 rfl) ?_
  refine x_ki C w [17, 0, 1] [2, 3, 4, 5, 6, 7, 8, 9, 10, 11, 12, 13, 14, 15, 16, 18, 19] rfl rfl (by decide) (by decide) (va_runV (As := [.int 1]) (rest := [.long 243009]) (xfix C) (c604_X4_house l G cy sa sv h0 h3 h4 h1 h11 h5 h7 h20 h12 h21 h22 h23 (xtr C) _) (cwV 1 (xhts C) (xgV (maxL := 0) (cc := ⟨#[]⟩) (ret := none) gw_1066 gw_1007 gw_1008 gw_2 gc_X4_house) rfl rfl rfl (by decide +kernel) ⟨(Nat.le_of_ble_eq_true rfl), (Nat.le_of_ble_eq_true rfl)⟩) (xPV C w [17, 0, 1] rfl (by decide) (ci := 8) (q0 := 17) rfl rfl) rfl rfl hl.1 rfl (lv_room (Nat.le_of_ble_eq_true rfl)) dX4_digest_14 ⟨(Nat.le_of_ble_eq_true rfl), (Nat.le_of_ble_eq_true rfl)⟩) (fun f4443 H locs w => ?_)
  have w : xW G A s [(h5, .inr (7, [.ref h6, .ref h24])), (h6, .inr (6, [.ref h25, .int 0])), (h7, .inl (cy 3, 3, .inr (.inr (.inr (.inr (va_up (va_up (va_up (fun _ => none) 0 (some h8)) 1 (some h9)) 2 (some h10))))))), (h8, .inr (4, [.int 0, .int 0, .int 0])), (h9, .inr (4, [.int 0, .int 0, .int 0])), (h10, .inr (4, [.int 0, .int 0, .int 0])), (h11, .inr (6, [.ref h26, .int 0])), (h12, .inr (7, [.ref h13, .ref h16])), (h13, .inr (6, [.ref h14, .int 0])), (h14, .inl (cy 1, 24, .inl (fun _ => 0))), (h15, .inl (cy 1, 24, .inl (fun _ => 0))), (h16, .inr (6, [.ref h18, .int 0])), (h17, .inr (6, [.ref h19, .int 0])), (h18, .inl (cy 1, 24, .inl (fun _ => 0))), (h19, .inl (cy 1, 24, .inl (fun _ => 0))), (h1, .inr (7, [.ref h2, .ref h17])), (h2, .inr (6, [.ref h15, .int 0])), (h0, .inr (8, [.ref h1, .ref h11, .ref h3, .ref h5, .ref h7, .int 0, .ref h20, .ref h12])), (h3, .inr (5, [.ref h21, .ref h22, .ref h4, .int 0])), (h4, .inr (6, [.ref h23, .int 0]))] H _ := w
  refine lv_i2l (v := 0) C.1 C.2.1 dX4_digest_17 (by decide) ?_
  refine x_kl C w [] [0, 1, 2, 3, 4, 5, 6, 7, 8, 9, 10, 11, 12, 13, 14, 15, 16, 17, 18, 19] rfl rfl (by decide) (by decide) (va_runS (As := [.long 243009, .long 0]) (rest := []) (xfix C) (c637_X4_stirred l G cy sa sv (xtr C) _) (va_cwS 2 (xhts C) (xgS gw_1069 gw_1070 gw_2 gc_X4_stirred) rfl rfl rfl (by decide +kernel) ⟨(Nat.le_of_ble_eq_true rfl), (Nat.le_of_ble_eq_true rfl)⟩) (xPS C w [] rfl (by decide)) rfl rfl hl.1 rfl (lv_room (Nat.le_of_ble_eq_true rfl)) dX4_digest_18 ⟨(Nat.le_of_ble_eq_true rfl), (Nat.le_of_ble_eq_true rfl)⟩) (fun f4444 H locs w => ?_)
  have w : xW G A s [(h5, .inr (7, [.ref h6, .ref h24])), (h6, .inr (6, [.ref h25, .int 0])), (h7, .inl (cy 3, 3, .inr (.inr (.inr (.inr (va_up (va_up (va_up (fun _ => none) 0 (some h8)) 1 (some h9)) 2 (some h10))))))), (h8, .inr (4, [.int 0, .int 0, .int 0])), (h9, .inr (4, [.int 0, .int 0, .int 0])), (h10, .inr (4, [.int 0, .int 0, .int 0])), (h11, .inr (6, [.ref h26, .int 0])), (h12, .inr (7, [.ref h13, .ref h16])), (h13, .inr (6, [.ref h14, .int 0])), (h14, .inl (cy 1, 24, .inl (fun _ => 0))), (h15, .inl (cy 1, 24, .inl (fun _ => 0))), (h16, .inr (6, [.ref h18, .int 0])), (h17, .inr (6, [.ref h19, .int 0])), (h18, .inl (cy 1, 24, .inl (fun _ => 0))), (h19, .inl (cy 1, 24, .inl (fun _ => 0))), (h1, .inr (7, [.ref h2, .ref h17])), (h2, .inr (6, [.ref h15, .int 0])), (h0, .inr (8, [.ref h1, .ref h11, .ref h3, .ref h5, .ref h7, .int 0, .ref h20, .ref h12])), (h3, .inr (5, [.ref h21, .ref h22, .ref h4, .int 0])), (h4, .inr (6, [.ref h23, .int 0]))] H _ := w
  refine lv_lstore_n (lv' := [(1, .long 7533279), (3, .int 1), (0, .ref h0)]) C.1 C.2.1 dX4_digest_21 rfl hl (by decide) rfl (fun ls hl => ?_)
  refine lv_iinc (v := 2) (lv' := [(3, .int 2), (1, .long 7533279), (0, .ref h0)]) C.1 C.2.1 dX4_digest_22 hl (k := 1) rfl (by decide) (by decide) rfl (fun ls hl => ?_)
  refine lv_goto (tgt := 6) C.1 C.2.1 dX4_digest_25 (by decide) ?_
  refine lv_iload_n C.1 C.2.1 dX4_digest_6 rfl (lv_at hl 0 rfl) ?_
  refine lv_iconst (v := 4) C.1 C.2.1 dX4_digest_7 (by decide) ?_
  refine lv_icmp_gt (tgt := 28) C.1 C.2.1 dX4_digest_8 (by decide) (fun c9 => absurd c9 (by decide)) (fun _ => ?_)
  refine lv_lload_n C.1 C.2.1 dX4_digest_11 rfl (lv_at hl 1 rfl) ?_
  refine lv_aload_n C.1 C.2.1 dX4_digest_12 rfl (lv_at hl 2 rfl) ?_
  refine lv_iload_n C.1 C.2.1 dX4_digest_13 rfl (lv_at hl 0 rfl) ?_
  refine x_ki C w [17, 0, 1] [2, 3, 4, 5, 6, 7, 8, 9, 10, 11, 12, 13, 14, 15, 16, 18, 19] rfl rfl (by decide) (by decide) (va_runV (As := [.int 2]) (rest := [.long 7533279]) (xfix C) (c608_X4_house l G cy sa sv h0 h5 h6 h1 h11 h3 h7 h20 h12 h24 h25 (xtr C) _) (cwV 1 (xhts C) (xgV (maxL := 0) (cc := ⟨#[]⟩) (ret := none) gw_1066 gw_1007 gw_1008 gw_2 gc_X4_house) rfl rfl rfl (by decide +kernel) ⟨(Nat.le_of_ble_eq_true rfl), (Nat.le_of_ble_eq_true rfl)⟩) (xPV C w [17, 0, 1] rfl (by decide) (ci := 8) (q0 := 17) rfl rfl) rfl rfl hl.1 rfl (lv_room (Nat.le_of_ble_eq_true rfl)) dX4_digest_14 ⟨(Nat.le_of_ble_eq_true rfl), (Nat.le_of_ble_eq_true rfl)⟩) (fun f4447 H locs w => ?_)
  have w : xW G A s [(h7, .inl (cy 3, 3, .inr (.inr (.inr (.inr (va_up (va_up (va_up (fun _ => none) 0 (some h8)) 1 (some h9)) 2 (some h10))))))), (h8, .inr (4, [.int 0, .int 0, .int 0])), (h9, .inr (4, [.int 0, .int 0, .int 0])), (h10, .inr (4, [.int 0, .int 0, .int 0])), (h11, .inr (6, [.ref h26, .int 0])), (h12, .inr (7, [.ref h13, .ref h16])), (h13, .inr (6, [.ref h14, .int 0])), (h14, .inl (cy 1, 24, .inl (fun _ => 0))), (h15, .inl (cy 1, 24, .inl (fun _ => 0))), (h16, .inr (6, [.ref h18, .int 0])), (h17, .inr (6, [.ref h19, .int 0])), (h18, .inl (cy 1, 24, .inl (fun _ => 0))), (h19, .inl (cy 1, 24, .inl (fun _ => 0))), (h1, .inr (7, [.ref h2, .ref h17])), (h2, .inr (6, [.ref h15, .int 0])), (h3, .inr (5, [.ref h21, .ref h22, .ref h4, .int 0])), (h4, .inr (6, [.ref h23, .int 0])), (h0, .inr (8, [.ref h1, .ref h11, .ref h3, .ref h5, .ref h7, .int 0, .ref h20, .ref h12])), (h5, .inr (7, [.ref h6, .ref h24])), (h6, .inr (6, [.ref h25, .int 0]))] H _ := w
  refine lv_i2l (v := 0) C.1 C.2.1 dX4_digest_17 (by decide) ?_
  refine x_kl C w [] [0, 1, 2, 3, 4, 5, 6, 7, 8, 9, 10, 11, 12, 13, 14, 15, 16, 17, 18, 19] rfl rfl (by decide) (by decide) (va_runS (As := [.long 7533279, .long 0]) (rest := []) (xfix C) (c638_X4_stirred l G cy sa sv (xtr C) _) (va_cwS 2 (xhts C) (xgS gw_1069 gw_1070 gw_2 gc_X4_stirred) rfl rfl rfl (by decide +kernel) ⟨(Nat.le_of_ble_eq_true rfl), (Nat.le_of_ble_eq_true rfl)⟩) (xPS C w [] rfl (by decide)) rfl rfl hl.1 rfl (lv_room (Nat.le_of_ble_eq_true rfl)) dX4_digest_18 ⟨(Nat.le_of_ble_eq_true rfl), (Nat.le_of_ble_eq_true rfl)⟩) (fun f4448 H locs w => ?_)
  have w : xW G A s [(h7, .inl (cy 3, 3, .inr (.inr (.inr (.inr (va_up (va_up (va_up (fun _ => none) 0 (some h8)) 1 (some h9)) 2 (some h10))))))), (h8, .inr (4, [.int 0, .int 0, .int 0])), (h9, .inr (4, [.int 0, .int 0, .int 0])), (h10, .inr (4, [.int 0, .int 0, .int 0])), (h11, .inr (6, [.ref h26, .int 0])), (h12, .inr (7, [.ref h13, .ref h16])), (h13, .inr (6, [.ref h14, .int 0])), (h14, .inl (cy 1, 24, .inl (fun _ => 0))), (h15, .inl (cy 1, 24, .inl (fun _ => 0))), (h16, .inr (6, [.ref h18, .int 0])), (h17, .inr (6, [.ref h19, .int 0])), (h18, .inl (cy 1, 24, .inl (fun _ => 0))), (h19, .inl (cy 1, 24, .inl (fun _ => 0))), (h1, .inr (7, [.ref h2, .ref h17])), (h2, .inr (6, [.ref h15, .int 0])), (h3, .inr (5, [.ref h21, .ref h22, .ref h4, .int 0])), (h4, .inr (6, [.ref h23, .int 0])), (h0, .inr (8, [.ref h1, .ref h11, .ref h3, .ref h5, .ref h7, .int 0, .ref h20, .ref h12])), (h5, .inr (7, [.ref h6, .ref h24])), (h6, .inr (6, [.ref h25, .int 0]))] H _ := w
  refine lv_lstore_n (lv' := [(1, .long 233531649), (3, .int 2), (0, .ref h0)]) C.1 C.2.1 dX4_digest_21 rfl hl (by decide) rfl (fun ls hl => ?_)
  refine lv_iinc (v := 3) (lv' := [(3, .int 3), (1, .long 233531649), (0, .ref h0)]) C.1 C.2.1 dX4_digest_22 hl (k := 1) rfl (by decide) (by decide) rfl (fun ls hl => ?_)
  refine lv_goto (tgt := 6) C.1 C.2.1 dX4_digest_25 (by decide) ?_
  refine lv_iload_n C.1 C.2.1 dX4_digest_6 rfl (lv_at hl 0 rfl) ?_
  refine lv_iconst (v := 4) C.1 C.2.1 dX4_digest_7 (by decide) ?_
  refine lv_icmp_gt (tgt := 28) C.1 C.2.1 dX4_digest_8 (by decide) (fun c9 => absurd c9 (by decide)) (fun _ => ?_)
  refine lv_lload_n C.1 C.2.1 dX4_digest_11 rfl (lv_at hl 1 rfl) ?_
  refine lv_aload_n C.1 C.2.1 dX4_digest_12 rfl (lv_at hl 2 rfl) ?_
  refine lv_iload_n C.1 C.2.1 dX4_digest_13 rfl (lv_at hl 0 rfl) ?_
  refine x_ki C w [17, 0, 1, 2, 3] [4, 5, 6, 7, 8, 9, 10, 11, 12, 13, 14, 15, 16, 18, 19] rfl rfl (by decide) (by decide) (va_runV (As := [.int 3]) (rest := [.long 233531649]) (xfix C) (c613_X4_house l G cy sa sv h0 h7 h8 h9 h10 h1 h11 h3 h5 h20 h12 (xtr C) _) (cwV 1 (xhts C) (xgV (maxL := 0) (cc := ⟨#[]⟩) (ret := none) gw_1066 gw_1007 gw_1008 gw_2 gc_X4_house) rfl rfl rfl (by decide +kernel) ⟨(Nat.le_of_ble_eq_true rfl), (Nat.le_of_ble_eq_true rfl)⟩) (xPV C w [17, 0, 1, 2, 3] rfl (by decide) (ci := 8) (q0 := 17) rfl rfl) rfl rfl hl.1 rfl (lv_room (Nat.le_of_ble_eq_true rfl)) dX4_digest_14 ⟨(Nat.le_of_ble_eq_true rfl), (Nat.le_of_ble_eq_true rfl)⟩) (fun f4450 H locs w => ?_)
  have w : xW G A s [(h11, .inr (6, [.ref h26, .int 0])), (h12, .inr (7, [.ref h13, .ref h16])), (h13, .inr (6, [.ref h14, .int 0])), (h14, .inl (cy 1, 24, .inl (fun _ => 0))), (h15, .inl (cy 1, 24, .inl (fun _ => 0))), (h16, .inr (6, [.ref h18, .int 0])), (h17, .inr (6, [.ref h19, .int 0])), (h18, .inl (cy 1, 24, .inl (fun _ => 0))), (h19, .inl (cy 1, 24, .inl (fun _ => 0))), (h1, .inr (7, [.ref h2, .ref h17])), (h2, .inr (6, [.ref h15, .int 0])), (h3, .inr (5, [.ref h21, .ref h22, .ref h4, .int 0])), (h4, .inr (6, [.ref h23, .int 0])), (h5, .inr (7, [.ref h6, .ref h24])), (h6, .inr (6, [.ref h25, .int 0])), (h0, .inr (8, [.ref h1, .ref h11, .ref h3, .ref h5, .ref h7, .int 0, .ref h20, .ref h12])), (h7, .inl (cy 3, 3, .inr (.inr (.inr (.inr (va_up (va_up (va_up (fun _ => none) 0 (some h8)) 1 (some h9)) 2 (some h10))))))), (h8, .inr (4, [.int 0, .int 0, .int 0])), (h9, .inr (4, [.int 0, .int 0, .int 0])), (h10, .inr (4, [.int 0, .int 0, .int 0]))] H _ := w
  refine lv_i2l (v := 0) C.1 C.2.1 dX4_digest_17 (by decide) ?_
  refine x_kl C w [] [0, 1, 2, 3, 4, 5, 6, 7, 8, 9, 10, 11, 12, 13, 14, 15, 16, 17, 18, 19] rfl rfl (by decide) (by decide) (va_runS (As := [.long 233531649, .long 0]) (rest := []) (xfix C) (c639_X4_stirred l G cy sa sv (xtr C) _) (va_cwS 2 (xhts C) (xgS gw_1069 gw_1070 gw_2 gc_X4_stirred) rfl rfl rfl (by decide +kernel) ⟨(Nat.le_of_ble_eq_true rfl), (Nat.le_of_ble_eq_true rfl)⟩) (xPS C w [] rfl (by decide)) rfl rfl hl.1 rfl (lv_room (Nat.le_of_ble_eq_true rfl)) dX4_digest_18 ⟨(Nat.le_of_ble_eq_true rfl), (Nat.le_of_ble_eq_true rfl)⟩) (fun f4451 H locs w => ?_)
  have w : xW G A s [(h11, .inr (6, [.ref h26, .int 0])), (h12, .inr (7, [.ref h13, .ref h16])), (h13, .inr (6, [.ref h14, .int 0])), (h14, .inl (cy 1, 24, .inl (fun _ => 0))), (h15, .inl (cy 1, 24, .inl (fun _ => 0))), (h16, .inr (6, [.ref h18, .int 0])), (h17, .inr (6, [.ref h19, .int 0])), (h18, .inl (cy 1, 24, .inl (fun _ => 0))), (h19, .inl (cy 1, 24, .inl (fun _ => 0))), (h1, .inr (7, [.ref h2, .ref h17])), (h2, .inr (6, [.ref h15, .int 0])), (h3, .inr (5, [.ref h21, .ref h22, .ref h4, .int 0])), (h4, .inr (6, [.ref h23, .int 0])), (h5, .inr (7, [.ref h6, .ref h24])), (h6, .inr (6, [.ref h25, .int 0])), (h0, .inr (8, [.ref h1, .ref h11, .ref h3, .ref h5, .ref h7, .int 0, .ref h20, .ref h12])), (h7, .inl (cy 3, 3, .inr (.inr (.inr (.inr (va_up (va_up (va_up (fun _ => none) 0 (some h8)) 1 (some h9)) 2 (some h10))))))), (h8, .inr (4, [.int 0, .int 0, .int 0])), (h9, .inr (4, [.int 0, .int 0, .int 0])), (h10, .inr (4, [.int 0, .int 0, .int 0]))] H _ := w
  refine lv_lstore_n (lv' := [(1, .long 7239481119), (3, .int 3), (0, .ref h0)]) C.1 C.2.1 dX4_digest_21 rfl hl (by decide) rfl (fun ls hl => ?_)
  refine lv_iinc (v := 4) (lv' := [(3, .int 4), (1, .long 7239481119), (0, .ref h0)]) C.1 C.2.1 dX4_digest_22 hl (k := 1) rfl (by decide) (by decide) rfl (fun ls hl => ?_)
  refine lv_goto (tgt := 6) C.1 C.2.1 dX4_digest_25 (by decide) ?_
  refine lv_iload_n C.1 C.2.1 dX4_digest_6 rfl (lv_at hl 0 rfl) ?_
  refine lv_iconst (v := 4) C.1 C.2.1 dX4_digest_7 (by decide) ?_
  refine lv_icmp_gt (tgt := 28) C.1 C.2.1 dX4_digest_8 (by decide) (fun c9 => absurd c9 (by decide)) (fun _ => ?_)
  refine lv_lload_n C.1 C.2.1 dX4_digest_11 rfl (lv_at hl 1 rfl) ?_
  refine lv_aload_n C.1 C.2.1 dX4_digest_12 rfl (lv_at hl 2 rfl) ?_
  refine lv_iload_n C.1 C.2.1 dX4_digest_13 rfl (lv_at hl 0 rfl) ?_
  refine x_ki C w [15] [0, 1, 2, 3, 4, 5, 6, 7, 8, 9, 10, 11, 12, 13, 14, 16, 17, 18, 19] rfl rfl (by decide) (by decide) (va_runV (As := [.int 4]) (rest := [.long 7239481119]) (xfix C) (c617_X4_house l G cy sa sv h0 h1 h11 h3 h5 h7 h20 h12 (xtr C) _) (cwV 1 (xhts C) (xgV (maxL := 0) (cc := ⟨#[]⟩) (ret := none) gw_1066 gw_1007 gw_1008 gw_2 gc_X4_house) rfl rfl rfl (by decide +kernel) ⟨(Nat.le_of_ble_eq_true rfl), (Nat.le_of_ble_eq_true rfl)⟩) (xPV C w [15] rfl (by decide) (ci := 8) (q0 := 15) rfl rfl) rfl rfl hl.1 rfl (lv_room (Nat.le_of_ble_eq_true rfl)) dX4_digest_14 ⟨(Nat.le_of_ble_eq_true rfl), (Nat.le_of_ble_eq_true rfl)⟩) (fun f4452 H locs w => ?_)
  have w : xW G A s [(h11, .inr (6, [.ref h26, .int 0])), (h12, .inr (7, [.ref h13, .ref h16])), (h13, .inr (6, [.ref h14, .int 0])), (h14, .inl (cy 1, 24, .inl (fun _ => 0))), (h15, .inl (cy 1, 24, .inl (fun _ => 0))), (h16, .inr (6, [.ref h18, .int 0])), (h17, .inr (6, [.ref h19, .int 0])), (h18, .inl (cy 1, 24, .inl (fun _ => 0))), (h19, .inl (cy 1, 24, .inl (fun _ => 0))), (h1, .inr (7, [.ref h2, .ref h17])), (h2, .inr (6, [.ref h15, .int 0])), (h3, .inr (5, [.ref h21, .ref h22, .ref h4, .int 0])), (h4, .inr (6, [.ref h23, .int 0])), (h5, .inr (7, [.ref h6, .ref h24])), (h6, .inr (6, [.ref h25, .int 0])), (h7, .inl (cy 3, 3, .inr (.inr (.inr (.inr (va_up (va_up (va_up (fun _ => none) 0 (some h8)) 1 (some h9)) 2 (some h10))))))), (h8, .inr (4, [.int 0, .int 0, .int 0])), (h9, .inr (4, [.int 0, .int 0, .int 0])), (h10, .inr (4, [.int 0, .int 0, .int 0])), (h0, .inr (8, [.ref h1, .ref h11, .ref h3, .ref h5, .ref h7, .int 0, .ref h20, .ref h12]))] H _ := w
  refine lv_i2l (v := 0) C.1 C.2.1 dX4_digest_17 (by decide) ?_
  refine x_kl C w [] [0, 1, 2, 3, 4, 5, 6, 7, 8, 9, 10, 11, 12, 13, 14, 15, 16, 17, 18, 19] rfl rfl (by decide) (by decide) (va_runS (As := [.long 7239481119, .long 0]) (rest := []) (xfix C) (c640_X4_stirred l G cy sa sv (xtr C) _) (va_cwS 2 (xhts C) (xgS gw_1069 gw_1070 gw_2 gc_X4_stirred) rfl rfl rfl (by decide +kernel) ⟨(Nat.le_of_ble_eq_true rfl), (Nat.le_of_ble_eq_true rfl)⟩) (xPS C w [] rfl (by decide)) rfl rfl hl.1 rfl (lv_room (Nat.le_of_ble_eq_true rfl)) dX4_digest_18 ⟨(Nat.le_of_ble_eq_true rfl), (Nat.le_of_ble_eq_true rfl)⟩) (fun f4453 H locs w => ?_)
  have w : xW G A s [(h11, .inr (6, [.ref h26, .int 0])), (h12, .inr (7, [.ref h13, .ref h16])), (h13, .inr (6, [.ref h14, .int 0])), (h14, .inl (cy 1, 24, .inl (fun _ => 0))), (h15, .inl (cy 1, 24, .inl (fun _ => 0))), (h16, .inr (6, [.ref h18, .int 0])), (h17, .inr (6, [.ref h19, .int 0])), (h18, .inl (cy 1, 24, .inl (fun _ => 0))), (h19, .inl (cy 1, 24, .inl (fun _ => 0))), (h1, .inr (7, [.ref h2, .ref h17])), (h2, .inr (6, [.ref h15, .int 0])), (h3, .inr (5, [.ref h21, .ref h22, .ref h4, .int 0])), (h4, .inr (6, [.ref h23, .int 0])), (h5, .inr (7, [.ref h6, .ref h24])), (h6, .inr (6, [.ref h25, .int 0])), (h7, .inl (cy 3, 3, .inr (.inr (.inr (.inr (va_up (va_up (va_up (fun _ => none) 0 (some h8)) 1 (some h9)) 2 (some h10))))))), (h8, .inr (4, [.int 0, .int 0, .int 0])), (h9, .inr (4, [.int 0, .int 0, .int 0])), (h10, .inr (4, [.int 0, .int 0, .int 0])), (h0, .inr (8, [.ref h1, .ref h11, .ref h3, .ref h5, .ref h7, .int 0, .ref h20, .ref h12]))] H _ := w
  refine lv_lstore_n (lv' := [(1, .long 224423914689), (3, .int 4), (0, .ref h0)]) C.1 C.2.1 dX4_digest_21 rfl hl (by decide) rfl (fun ls hl => ?_)
  refine lv_iinc (v := 5) (lv' := [(3, .int 5), (1, .long 224423914689), (0, .ref h0)]) C.1 C.2.1 dX4_digest_22 hl (k := 1) rfl (by decide) (by decide) rfl (fun ls hl => ?_)
  refine lv_goto (tgt := 6) C.1 C.2.1 dX4_digest_25 (by decide) ?_
  refine lv_iload_n C.1 C.2.1 dX4_digest_6 rfl (lv_at hl 0 rfl) ?_
  refine lv_iconst (v := 4) C.1 C.2.1 dX4_digest_7 (by decide) ?_
  refine lv_icmp_gt (tgt := 28) C.1 C.2.1 dX4_digest_8 (by decide) (fun _ => ?_) (fun c9 => absurd (by decide) c9)
  refine lv_aload_n C.1 C.2.1 dX4_digest_28 rfl (lv_at hl 2 rfl) ?_
  refine lv_lload_n C.1 C.2.1 dX4_digest_29 rfl (lv_at hl 1 rfl) ?_
  refine x_kl C w [19, 9, 10, 0] [1, 2, 3, 4, 5, 6, 7, 8, 11, 12, 13, 14, 15, 16, 17, 18] rfl rfl (by decide) (by decide) (va_runV (As := [.long 224423914689]) (rest := []) (xfix C) (c641_X4_stirredPairs l G cy sa sv h0 h1 h2 h11 h3 h5 h7 h20 h12 h17 h15 h26 (xtr C) _) (cwV 1 (xhts C) (xgV (maxL := 0) (cc := ⟨#[]⟩) (ret := none) gw_1072 gw_1073 gw_1074 gw_2 gc_X4_stirredPairs) rfl rfl rfl (by decide +kernel) ⟨(Nat.le_of_ble_eq_true rfl), (Nat.le_of_ble_eq_true rfl)⟩) (xPV C w [19, 9, 10, 0] rfl (by decide) (ci := 8) (q0 := 19) rfl rfl) rfl rfl hl.1 rfl (lv_room (Nat.le_of_ble_eq_true rfl)) dX4_digest_30 ⟨(Nat.le_of_ble_eq_true rfl), (Nat.le_of_ble_eq_true rfl)⟩) (fun f4457 H locs w => ?_)
  have w : xW G A s [(h12, .inr (7, [.ref h13, .ref h16])), (h13, .inr (6, [.ref h14, .int 0])), (h14, .inl (cy 1, 24, .inl (fun _ => 0))), (h15, .inl (cy 1, 24, .inl (fun _ => 0))), (h16, .inr (6, [.ref h18, .int 0])), (h17, .inr (6, [.ref h19, .int 0])), (h18, .inl (cy 1, 24, .inl (fun _ => 0))), (h19, .inl (cy 1, 24, .inl (fun _ => 0))), (h3, .inr (5, [.ref h21, .ref h22, .ref h4, .int 0])), (h4, .inr (6, [.ref h23, .int 0])), (h5, .inr (7, [.ref h6, .ref h24])), (h6, .inr (6, [.ref h25, .int 0])), (h7, .inl (cy 3, 3, .inr (.inr (.inr (.inr (va_up (va_up (va_up (fun _ => none) 0 (some h8)) 1 (some h9)) 2 (some h10))))))), (h8, .inr (4, [.int 0, .int 0, .int 0])), (h9, .inr (4, [.int 0, .int 0, .int 0])), (h10, .inr (4, [.int 0, .int 0, .int 0])), (h0, .inr (8, [.ref h1, .ref h11, .ref h3, .ref h5, .ref h7, .int 0, .ref h20, .ref h12])), (h1, .inr (7, [.ref h2, .ref h17])), (h2, .inr (6, [.ref h15, .int 0])), (h11, .inr (6, [.ref h26, .int 0]))] H _ := w
  refine lv_lstore_n (lv' := [(1, .long 224423914689), (3, .int 5), (0, .ref h0)]) C.1 C.2.1 dX4_digest_33 rfl hl (by decide) rfl (fun ls hl => ?_)
  refine lv_aload_n C.1 C.2.1 dX4_digest_34 rfl (lv_at hl 2 rfl) ?_
  refine lv_lload_n C.1 C.2.1 dX4_digest_35 rfl (lv_at hl 0 rfl) ?_
  refine x_kl C w [16, 12, 13, 17, 18, 14, 15] [0, 1, 2, 3, 4, 5, 6, 7, 8, 9, 10, 11, 19] rfl rfl (by decide) (by decide) (va_runV (As := [.long 224423914689]) (rest := []) (xfix C) (c654_X4_stirredPagers l G cy sa sv h0 h7 h8 h1 h2 h9 h10 h11 h3 h5 h20 h12 h17 h15 (xtr C) _) (cwV 1 (xhts C) (xgV (maxL := 0) (cc := ⟨#[]⟩) (ret := none) gw_1077 gw_1078 gw_1079 gw_2 gc_X4_stirredPagers) rfl rfl rfl (by decide +kernel) ⟨(Nat.le_of_ble_eq_true rfl), (Nat.le_of_ble_eq_true rfl)⟩) (xPV C w [16, 12, 13, 17, 18, 14, 15] rfl (by decide) (ci := 8) (q0 := 16) rfl rfl) rfl rfl hl.1 rfl (lv_room (Nat.le_of_ble_eq_true rfl)) dX4_digest_36 ⟨(Nat.le_of_ble_eq_true rfl), (Nat.le_of_ble_eq_true rfl)⟩) (fun f4503 H locs w => ?_)
  have w : xW G A s [(h12, .inr (7, [.ref h13, .ref h16])), (h13, .inr (6, [.ref h14, .int 0])), (h14, .inl (cy 1, 24, .inl (fun _ => 0))), (h15, .inl (cy 1, 24, .inl (fun _ => 0))), (h16, .inr (6, [.ref h18, .int 0])), (h17, .inr (6, [.ref h19, .int 0])), (h18, .inl (cy 1, 24, .inl (fun _ => 0))), (h19, .inl (cy 1, 24, .inl (fun _ => 0))), (h3, .inr (5, [.ref h21, .ref h22, .ref h4, .int 0])), (h4, .inr (6, [.ref h23, .int 0])), (h5, .inr (7, [.ref h6, .ref h24])), (h6, .inr (6, [.ref h25, .int 0])), (h11, .inr (6, [.ref h26, .int 0])), (h0, .inr (8, [.ref h1, .ref h11, .ref h3, .ref h5, .ref h7, .int 0, .ref h20, .ref h12])), (h7, .inl (cy 3, 3, .inr (.inr (.inr (.inr (va_up (va_up (va_up (fun _ => none) 0 (some h8)) 1 (some h9)) 2 (some h10))))))), (h8, .inr (4, [.int 0, .int 0, .int 0])), (h1, .inr (7, [.ref h2, .ref h17])), (h2, .inr (6, [.ref h15, .int 0])), (h9, .inr (4, [.int 0, .int 0, .int 0])), (h10, .inr (4, [.int 0, .int 0, .int 0]))] H _ := w
  refine lv_lstore_n (lv' := [(1, .long 9020726864915403585), (3, .int 5), (0, .ref h0)]) C.1 C.2.1 dX4_digest_39 rfl hl (by decide) rfl (fun ls hl => ?_)
  refine lv_lload_n C.1 C.2.1 dX4_digest_40 rfl (lv_at hl 0 rfl) ?_
  refine lv_aload_n C.1 C.2.1 dX4_digest_41 rfl (lv_at hl 2 rfl) ?_
  refine x_ki C w [13, 16, 17] [0, 1, 2, 3, 4, 5, 6, 7, 8, 9, 10, 11, 12, 14, 15, 18, 19] rfl rfl (by decide) (by decide) (va_runV (As := []) (rest := [.long 9020726864915403585]) (xfix C) (c293_X4_hash l G cy sa sv h0 h1 h2 h11 h3 h5 h7 h20 h12 h17 h15 (xtr C) _) (cwV 0 (xhts C) (xgV (maxL := 0) (cc := ⟨#[]⟩) (ret := none) gw_1080 gw_655 gw_656 gw_2 gc_X4_hash) rfl rfl rfl (by decide +kernel) ⟨(Nat.le_of_ble_eq_true rfl), (Nat.le_of_ble_eq_true rfl)⟩) (xPV C w [13, 16, 17] rfl (by decide) (ci := 8) (q0 := 13) rfl rfl) rfl rfl hl.1 rfl (lv_room (Nat.le_of_ble_eq_true rfl)) dX4_digest_42 ⟨(Nat.le_of_ble_eq_true rfl), (Nat.le_of_ble_eq_true rfl)⟩) (fun f4507 H locs w => ?_)
  have w : xW G A s [(h12, .inr (7, [.ref h13, .ref h16])), (h13, .inr (6, [.ref h14, .int 0])), (h14, .inl (cy 1, 24, .inl (fun _ => 0))), (h15, .inl (cy 1, 24, .inl (fun _ => 0))), (h16, .inr (6, [.ref h18, .int 0])), (h17, .inr (6, [.ref h19, .int 0])), (h18, .inl (cy 1, 24, .inl (fun _ => 0))), (h19, .inl (cy 1, 24, .inl (fun _ => 0))), (h3, .inr (5, [.ref h21, .ref h22, .ref h4, .int 0])), (h4, .inr (6, [.ref h23, .int 0])), (h5, .inr (7, [.ref h6, .ref h24])), (h6, .inr (6, [.ref h25, .int 0])), (h11, .inr (6, [.ref h26, .int 0])), (h7, .inl (cy 3, 3, .inr (.inr (.inr (.inr (va_up (va_up (va_up (fun _ => none) 0 (some h8)) 1 (some h9)) 2 (some h10))))))), (h8, .inr (4, [.int 0, .int 0, .int 0])), (h9, .inr (4, [.int 0, .int 0, .int 0])), (h10, .inr (4, [.int 0, .int 0, .int 0])), (h0, .inr (8, [.ref h1, .ref h11, .ref h3, .ref h5, .ref h7, .int 0, .ref h20, .ref h12])), (h1, .inr (7, [.ref h2, .ref h17])), (h2, .inr (6, [.ref h15, .int 0]))] H _ := w
  refine lv_i2l (v := 0) C.1 C.2.1 dX4_digest_45 (by decide) ?_
  refine x_kl C w [] [0, 1, 2, 3, 4, 5, 6, 7, 8, 9, 10, 11, 12, 13, 14, 15, 16, 17, 18, 19] rfl rfl (by decide) (by decide) (va_runS (As := [.long 9020726864915403585, .long 0]) (rest := []) (xfix C) (c655_X4_stirred l G cy sa sv (xtr C) _) (va_cwS 2 (xhts C) (xgS gw_1069 gw_1070 gw_2 gc_X4_stirred) rfl rfl rfl (by decide +kernel) ⟨(Nat.le_of_ble_eq_true rfl), (Nat.le_of_ble_eq_true rfl)⟩) (xPS C w [] rfl (by decide)) rfl rfl hl.1 rfl (lv_room (Nat.le_of_ble_eq_true rfl)) dX4_digest_46 ⟨(Nat.le_of_ble_eq_true rfl), (Nat.le_of_ble_eq_true rfl)⟩) (fun f4508 H locs w => ?_)
  have w : xW G A s [(h12, .inr (7, [.ref h13, .ref h16])), (h13, .inr (6, [.ref h14, .int 0])), (h14, .inl (cy 1, 24, .inl (fun _ => 0))), (h15, .inl (cy 1, 24, .inl (fun _ => 0))), (h16, .inr (6, [.ref h18, .int 0])), (h17, .inr (6, [.ref h19, .int 0])), (h18, .inl (cy 1, 24, .inl (fun _ => 0))), (h19, .inl (cy 1, 24, .inl (fun _ => 0))), (h3, .inr (5, [.ref h21, .ref h22, .ref h4, .int 0])), (h4, .inr (6, [.ref h23, .int 0])), (h5, .inr (7, [.ref h6, .ref h24])), (h6, .inr (6, [.ref h25, .int 0])), (h11, .inr (6, [.ref h26, .int 0])), (h7, .inl (cy 3, 3, .inr (.inr (.inr (.inr (va_up (va_up (va_up (fun _ => none) 0 (some h8)) 1 (some h9)) 2 (some h10))))))), (h8, .inr (4, [.int 0, .int 0, .int 0])), (h9, .inr (4, [.int 0, .int 0, .int 0])), (h10, .inr (4, [.int 0, .int 0, .int 0])), (h0, .inr (8, [.ref h1, .ref h11, .ref h3, .ref h5, .ref h7, .int 0, .ref h20, .ref h12])), (h1, .inr (7, [.ref h2, .ref h17])), (h2, .inr (6, [.ref h15, .int 0]))] H _ := w
  refine lv_lstore_n (lv' := [(1, .long 2941371706734236895), (3, .int 5), (0, .ref h0)]) C.1 C.2.1 dX4_digest_49 rfl hl (by decide) rfl (fun ls hl => ?_)
  refine lv_lload_n C.1 C.2.1 dX4_digest_50 rfl (lv_at hl 0 rfl) ?_
  refine lv_aload_n C.1 C.2.1 dX4_digest_51 rfl (lv_at hl 2 rfl) ?_
  refine x_kr C w [17, 18, 19] [0, 1, 2, 3, 4, 5, 6, 7, 8, 9, 10, 11, 12, 13, 14, 15, 16] rfl rfl (by decide) (by decide) (va_runV (As := []) (rest := [.long 2941371706734236895]) (xfix C) (c258_X4_text l G cy sa sv h0 h1 h2 h11 h3 h5 h7 h20 h12 h17 h15 (xtr C) _) (cwV 0 (xhts C) (xgV (maxL := 0) (cc := ⟨#[]⟩) (ret := none) gw_1081 gw_600 gw_601 gw_2 gc_X4_text) rfl rfl rfl (by decide +kernel) ⟨(Nat.le_of_ble_eq_true rfl), (Nat.le_of_ble_eq_true rfl)⟩) (xPV C w [17, 18, 19] rfl (by decide) (ci := 8) (q0 := 17) rfl rfl) rfl rfl hl.1 rfl (lv_room (Nat.le_of_ble_eq_true rfl)) dX4_digest_52 ⟨(Nat.le_of_ble_eq_true rfl), (Nat.le_of_ble_eq_true rfl)⟩) (fun f4572 H locs w => ?_)
  have w : xW G A s [(h12, .inr (7, [.ref h13, .ref h16])), (h13, .inr (6, [.ref h14, .int 0])), (h14, .inl (cy 1, 24, .inl (fun _ => 0))), (h15, .inl (cy 1, 24, .inl (fun _ => 0))), (h16, .inr (6, [.ref h18, .int 0])), (h17, .inr (6, [.ref h19, .int 0])), (h18, .inl (cy 1, 24, .inl (fun _ => 0))), (h19, .inl (cy 1, 24, .inl (fun _ => 0))), (h3, .inr (5, [.ref h21, .ref h22, .ref h4, .int 0])), (h4, .inr (6, [.ref h23, .int 0])), (h5, .inr (7, [.ref h6, .ref h24])), (h6, .inr (6, [.ref h25, .int 0])), (h11, .inr (6, [.ref h26, .int 0])), (h7, .inl (cy 3, 3, .inr (.inr (.inr (.inr (va_up (va_up (va_up (fun _ => none) 0 (some h8)) 1 (some h9)) 2 (some h10))))))), (h8, .inr (4, [.int 0, .int 0, .int 0])), (h9, .inr (4, [.int 0, .int 0, .int 0])), (h10, .inr (4, [.int 0, .int 0, .int 0])), (h0, .inr (8, [.ref h1, .ref h11, .ref h3, .ref h5, .ref h7, .int 0, .ref h20, .ref h12])), (h1, .inr (7, [.ref h2, .ref h17])), (h2, .inr (6, [.ref h15, .int 0])), ((f4572 0), .inr (0, [.ref (f4572 1), .int 0, .int 0, .int 0])), ((f4572 1), .inl (cy 0, 2, .inl (va_cpy (upd (upd (fun _ => 0) 0 123) 1 125) (fun _ => 0) 0 0 2)))] H _ := w
  refine W.widen (k := 4) (n := 26) (Nat.le_of_ble_eq_true rfl) (Nat.le_of_ble_eq_true rfl) ?_
  refine x_ki C w [20, 21] [0, 1, 2, 3, 4, 5, 6, 7, 8, 9, 10, 11, 12, 13, 14, 15, 16, 17, 18, 19] rfl rfl (by decide) (by decide) (va_runV (As := []) (rest := [.long 2941371706734236895]) (xfix C) (c657_J0_length_8abf5 l G cy sa sv (f4572 0) (f4572 1) (xtr C) _) (cwV 0 (xhts C) (xgV (maxL := 0) (cc := ⟨#[]⟩) (ret := none) gw_1082 gw_610 gw_611 gw_492 gc_J0_length_8abf5) rfl rfl rfl (by decide +kernel) ⟨(Nat.le_of_ble_eq_true rfl), (Nat.le_of_ble_eq_true rfl)⟩) (xPV C w [20, 21] rfl (by decide) (ci := 0) (q0 := 20) rfl rfl) rfl rfl hl.1 rfl (lv_room (Nat.le_of_ble_eq_true rfl)) dX4_digest_55 ⟨(Nat.le_of_ble_eq_true rfl), (Nat.le_of_ble_eq_true rfl)⟩) (fun f4574 H locs w => ?_)
  have w : xW G A s [(h12, .inr (7, [.ref h13, .ref h16])), (h13, .inr (6, [.ref h14, .int 0])), (h14, .inl (cy 1, 24, .inl (fun _ => 0))), (h15, .inl (cy 1, 24, .inl (fun _ => 0))), (h16, .inr (6, [.ref h18, .int 0])), (h17, .inr (6, [.ref h19, .int 0])), (h18, .inl (cy 1, 24, .inl (fun _ => 0))), (h19, .inl (cy 1, 24, .inl (fun _ => 0))), (h3, .inr (5, [.ref h21, .ref h22, .ref h4, .int 0])), (h4, .inr (6, [.ref h23, .int 0])), (h5, .inr (7, [.ref h6, .ref h24])), (h6, .inr (6, [.ref h25, .int 0])), (h11, .inr (6, [.ref h26, .int 0])), (h7, .inl (cy 3, 3, .inr (.inr (.inr (.inr (va_up (va_up (va_up (fun _ => none) 0 (some h8)) 1 (some h9)) 2 (some h10))))))), (h8, .inr (4, [.int 0, .int 0, .int 0])), (h9, .inr (4, [.int 0, .int 0, .int 0])), (h10, .inr (4, [.int 0, .int 0, .int 0])), (h0, .inr (8, [.ref h1, .ref h11, .ref h3, .ref h5, .ref h7, .int 0, .ref h20, .ref h12])), (h1, .inr (7, [.ref h2, .ref h17])), (h2, .inr (6, [.ref h15, .int 0])), ((f4572 0), .inr (0, [.ref (f4572 1), .int 0, .int 0, .int 0])), ((f4572 1), .inl (cy 0, 2, .inl (va_cpy (upd (upd (fun _ => 0) 0 123) 1 125) (fun _ => 0) 0 0 2)))] H _ := w
  refine lv_i2l (v := 2) C.1 C.2.1 dX4_digest_58 (by decide) ?_
  refine x_kl C w [] [0, 1, 2, 3, 4, 5, 6, 7, 8, 9, 10, 11, 12, 13, 14, 15, 16, 17, 18, 19, 20, 21] rfl rfl (by decide) (by decide) (va_runS (As := [.long 2941371706734236895, .long 2]) (rest := []) (xfix C) (c658_X4_stirred l G cy sa sv (xtr C) _) (va_cwS 2 (xhts C) (xgS gw_1069 gw_1070 gw_2 gc_X4_stirred) rfl rfl rfl (by decide +kernel) ⟨(Nat.le_of_ble_eq_true rfl), (Nat.le_of_ble_eq_true rfl)⟩) (xPS C w [] rfl (by decide)) rfl rfl hl.1 rfl (lv_room (Nat.le_of_ble_eq_true rfl)) dX4_digest_59 ⟨(Nat.le_of_ble_eq_true rfl), (Nat.le_of_ble_eq_true rfl)⟩) (fun f4575 H locs w => ?_)
  have w : xW G A s [(h12, .inr (7, [.ref h13, .ref h16])), (h13, .inr (6, [.ref h14, .int 0])), (h14, .inl (cy 1, 24, .inl (fun _ => 0))), (h15, .inl (cy 1, 24, .inl (fun _ => 0))), (h16, .inr (6, [.ref h18, .int 0])), (h17, .inr (6, [.ref h19, .int 0])), (h18, .inl (cy 1, 24, .inl (fun _ => 0))), (h19, .inl (cy 1, 24, .inl (fun _ => 0))), (h3, .inr (5, [.ref h21, .ref h22, .ref h4, .int 0])), (h4, .inr (6, [.ref h23, .int 0])), (h5, .inr (7, [.ref h6, .ref h24])), (h6, .inr (6, [.ref h25, .int 0])), (h11, .inr (6, [.ref h26, .int 0])), (h7, .inl (cy 3, 3, .inr (.inr (.inr (.inr (va_up (va_up (va_up (fun _ => none) 0 (some h8)) 1 (some h9)) 2 (some h10))))))), (h8, .inr (4, [.int 0, .int 0, .int 0])), (h9, .inr (4, [.int 0, .int 0, .int 0])), (h10, .inr (4, [.int 0, .int 0, .int 0])), (h0, .inr (8, [.ref h1, .ref h11, .ref h3, .ref h5, .ref h7, .int 0, .ref h20, .ref h12])), (h1, .inr (7, [.ref h2, .ref h17])), (h2, .inr (6, [.ref h15, .int 0])), ((f4572 0), .inr (0, [.ref (f4572 1), .int 0, .int 0, .int 0])), ((f4572 1), .inl (cy 0, 2, .inl (va_cpy (upd (upd (fun _ => 0) 0 123) 1 125) (fun _ => 0) 0 0 2)))] H _ := w
  refine lv_lstore_n (lv' := [(1, .long (-1051197459786414333)), (3, .int 5), (0, .ref h0)]) C.1 C.2.1 dX4_digest_62 rfl hl (by decide) rfl (fun ls hl => ?_)
  refine lv_lload_n C.1 C.2.1 dX4_digest_63 rfl (lv_at hl 0 rfl) ?_
  refine lv_aload_n C.1 C.2.1 dX4_digest_64 rfl (lv_at hl 2 rfl) ?_
  refine x_ki C w [17, 18, 19, 10, 11] [0, 1, 2, 3, 4, 5, 6, 7, 8, 9, 12, 13, 14, 15, 16, 20, 21] rfl rfl (by decide) (by decide) (va_runV (As := []) (rest := [.long (-1051197459786414333)]) (xfix C) (c592_X4_apart l G cy sa sv h0 h1 h2 h5 h6 h11 h3 h7 h20 h12 h17 h15 h24 h25 (xtr C) _) (cwV 0 (xhts C) (xgV (maxL := 0) (cc := ⟨#[]⟩) (ret := none) gw_973 gw_974 gw_975 gw_2 gc_X4_apart) rfl rfl rfl (by decide +kernel) ⟨(Nat.le_of_ble_eq_true rfl), (Nat.le_of_ble_eq_true rfl)⟩) (xPV C w [17, 18, 19, 10, 11] rfl (by decide) (ci := 8) (q0 := 17) rfl rfl) rfl rfl hl.1 rfl (lv_room (Nat.le_of_ble_eq_true rfl)) dX4_digest_65 ⟨(Nat.le_of_ble_eq_true rfl), (Nat.le_of_ble_eq_true rfl)⟩) (fun f4581 H locs w => ?_)
  have w : xW G A s [(h12, .inr (7, [.ref h13, .ref h16])), (h13, .inr (6, [.ref h14, .int 0])), (h14, .inl (cy 1, 24, .inl (fun _ => 0))), (h15, .inl (cy 1, 24, .inl (fun _ => 0))), (h16, .inr (6, [.ref h18, .int 0])), (h17, .inr (6, [.ref h19, .int 0])), (h18, .inl (cy 1, 24, .inl (fun _ => 0))), (h19, .inl (cy 1, 24, .inl (fun _ => 0))), (h3, .inr (5, [.ref h21, .ref h22, .ref h4, .int 0])), (h4, .inr (6, [.ref h23, .int 0])), (h11, .inr (6, [.ref h26, .int 0])), (h7, .inl (cy 3, 3, .inr (.inr (.inr (.inr (va_up (va_up (va_up (fun _ => none) 0 (some h8)) 1 (some h9)) 2 (some h10))))))), (h8, .inr (4, [.int 0, .int 0, .int 0])), (h9, .inr (4, [.int 0, .int 0, .int 0])), (h10, .inr (4, [.int 0, .int 0, .int 0])), ((f4572 0), .inr (0, [.ref (f4572 1), .int 0, .int 0, .int 0])), ((f4572 1), .inl (cy 0, 2, .inl (va_cpy (upd (upd (fun _ => 0) 0 123) 1 125) (fun _ => 0) 0 0 2))), (h0, .inr (8, [.ref h1, .ref h11, .ref h3, .ref h5, .ref h7, .int 0, .ref h20, .ref h12])), (h1, .inr (7, [.ref h2, .ref h17])), (h2, .inr (6, [.ref h15, .int 0])), (h5, .inr (7, [.ref h6, .ref h24])), (h6, .inr (6, [.ref h25, .int 0]))] H _ := w
  refine lv_i2l (v := 0) C.1 C.2.1 dX4_digest_68 (by decide) ?_
  refine x_kl C w [] [0, 1, 2, 3, 4, 5, 6, 7, 8, 9, 10, 11, 12, 13, 14, 15, 16, 17, 18, 19, 20, 21] rfl rfl (by decide) (by decide) (va_runS (As := [.long (-1051197459786414333), .long 0]) (rest := []) (xfix C) (c659_X4_stirred l G cy sa sv (xtr C) _) (va_cwS 2 (xhts C) (xgS gw_1069 gw_1070 gw_2 gc_X4_stirred) rfl rfl rfl (by decide +kernel) ⟨(Nat.le_of_ble_eq_true rfl), (Nat.le_of_ble_eq_true rfl)⟩) (xPS C w [] rfl (by decide)) rfl rfl hl.1 rfl (lv_room (Nat.le_of_ble_eq_true rfl)) dX4_digest_69 ⟨(Nat.le_of_ble_eq_true rfl), (Nat.le_of_ble_eq_true rfl)⟩) (fun f4582 H locs w => ?_)
  have w : xW G A s [(h12, .inr (7, [.ref h13, .ref h16])), (h13, .inr (6, [.ref h14, .int 0])), (h14, .inl (cy 1, 24, .inl (fun _ => 0))), (h15, .inl (cy 1, 24, .inl (fun _ => 0))), (h16, .inr (6, [.ref h18, .int 0])), (h17, .inr (6, [.ref h19, .int 0])), (h18, .inl (cy 1, 24, .inl (fun _ => 0))), (h19, .inl (cy 1, 24, .inl (fun _ => 0))), (h3, .inr (5, [.ref h21, .ref h22, .ref h4, .int 0])), (h4, .inr (6, [.ref h23, .int 0])), (h11, .inr (6, [.ref h26, .int 0])), (h7, .inl (cy 3, 3, .inr (.inr (.inr (.inr (va_up (va_up (va_up (fun _ => none) 0 (some h8)) 1 (some h9)) 2 (some h10))))))), (h8, .inr (4, [.int 0, .int 0, .int 0])), (h9, .inr (4, [.int 0, .int 0, .int 0])), (h10, .inr (4, [.int 0, .int 0, .int 0])), ((f4572 0), .inr (0, [.ref (f4572 1), .int 0, .int 0, .int 0])), ((f4572 1), .inl (cy 0, 2, .inl (va_cpy (upd (upd (fun _ => 0) 0 123) 1 125) (fun _ => 0) 0 0 2))), (h0, .inr (8, [.ref h1, .ref h11, .ref h3, .ref h5, .ref h7, .int 0, .ref h20, .ref h12])), (h1, .inr (7, [.ref h2, .ref h17])), (h2, .inr (6, [.ref h15, .int 0])), (h5, .inr (7, [.ref h6, .ref h24])), (h6, .inr (6, [.ref h25, .int 0]))] H _ := w
  refine lv_lstore_n (lv' := [(1, .long 4306366894040258909), (3, .int 5), (0, .ref h0)]) C.1 C.2.1 dX4_digest_72 rfl hl (by decide) rfl (fun ls hl => ?_)
  refine lv_lload_n C.1 C.2.1 dX4_digest_73 rfl (lv_at hl 0 rfl) ?_
  refine lv_aload_n C.1 C.2.1 dX4_digest_74 rfl (lv_at hl 2 rfl) ?_
  refine x_ki C w [17, 18, 19, 10, 0, 1, 2, 3, 4, 5, 6, 7] [8, 9, 11, 12, 13, 14, 15, 16, 20, 21] rfl rfl (by decide) (by decide) (va_runV (As := []) (rest := [.long 4306366894040258909]) (xfix C) (c634_X4_isSound l G cy sa sv h0 h1 h2 h11 h12 h13 h14 h15 h16 h17 h18 h19 h3 h5 h7 h20 h26 (xtr C) _) (cwV 0 (xhts C) (xgV (maxL := 0) (cc := ⟨#[]⟩) (ret := none) gw_1083 gw_1059 gw_1060 gw_2 gc_X4_isSound) rfl rfl rfl (by decide +kernel) ⟨(Nat.le_of_ble_eq_true rfl), (Nat.le_of_ble_eq_true rfl)⟩) (xPV C w [17, 18, 19, 10, 0, 1, 2, 3, 4, 5, 6, 7] rfl (by decide) (ci := 8) (q0 := 17) rfl rfl) rfl rfl hl.1 rfl (lv_room (Nat.le_of_ble_eq_true rfl)) dX4_digest_75 ⟨(Nat.le_of_ble_eq_true rfl), (Nat.le_of_ble_eq_true rfl)⟩) (fun f4630 H locs w => ?_)
  have w : xW G A s [(h3, .inr (5, [.ref h21, .ref h22, .ref h4, .int 0])), (h4, .inr (6, [.ref h23, .int 0])), (h7, .inl (cy 3, 3, .inr (.inr (.inr (.inr (va_up (va_up (va_up (fun _ => none) 0 (some h8)) 1 (some h9)) 2 (some h10))))))), (h8, .inr (4, [.int 0, .int 0, .int 0])), (h9, .inr (4, [.int 0, .int 0, .int 0])), (h10, .inr (4, [.int 0, .int 0, .int 0])), ((f4572 0), .inr (0, [.ref (f4572 1), .int 0, .int 0, .int 0])), ((f4572 1), .inl (cy 0, 2, .inl (va_cpy (upd (upd (fun _ => 0) 0 123) 1 125) (fun _ => 0) 0 0 2))), (h5, .inr (7, [.ref h6, .ref h24])), (h6, .inr (6, [.ref h25, .int 0])), (h0, .inr (8, [.ref h1, .ref h11, .ref h3, .ref h5, .ref h7, .int 0, .ref h20, .ref h12])), (h1, .inr (7, [.ref h2, .ref h17])), (h2, .inr (6, [.ref h15, .int 0])), (h11, .inr (6, [.ref h26, .int 0])), (h12, .inr (7, [.ref h13, .ref h16])), (h13, .inr (6, [.ref h14, .int 0])), (h14, .inl (cy 1, 24, .inl (va_cpy (fun _ => 0) (fun _ => 0) 0 0 0))), (h15, .inl (cy 1, 24, .inl (fun _ => 0))), (h16, .inr (6, [.ref h18, .int 0])), (h17, .inr (6, [.ref h19, .int 0])), (h18, .inl (cy 1, 24, .inl (va_cpy (fun _ => 0) (fun _ => 0) 0 0 0))), (h19, .inl (cy 1, 24, .inl (fun _ => 0)))] H _ := w
  refine lv_if_eq (tgt := 85) C.1 C.2.1 dX4_digest_78 (by decide) (fun c9 => absurd c9 (by decide)) (fun _ => ?_)
  refine lv_lconst (v := 1) C.1 C.2.1 dX4_digest_81 (by decide) ?_
  refine lv_goto (tgt := 86) C.1 C.2.1 dX4_digest_82 (by decide) ?_
  refine x_kl C w [] [0, 1, 2, 3, 4, 5, 6, 7, 8, 9, 10, 11, 12, 13, 14, 15, 16, 17, 18, 19, 20, 21] rfl rfl (by decide) (by decide) (va_runS (As := [.long 4306366894040258909, .long 1]) (rest := []) (xfix C) (c660_X4_stirred l G cy sa sv (xtr C) _) (va_cwS 2 (xhts C) (xgS gw_1069 gw_1070 gw_2 gc_X4_stirred) rfl rfl rfl (by decide +kernel) ⟨(Nat.le_of_ble_eq_true rfl), (Nat.le_of_ble_eq_true rfl)⟩) (xPS C w [] rfl (by decide)) rfl rfl hl.1 rfl (lv_room (Nat.le_of_ble_eq_true rfl)) dX4_digest_86 ⟨(Nat.le_of_ble_eq_true rfl), (Nat.le_of_ble_eq_true rfl)⟩) (fun f4631 H locs w => ?_)
  have w : xW G A s [(h3, .inr (5, [.ref h21, .ref h22, .ref h4, .int 0])), (h4, .inr (6, [.ref h23, .int 0])), (h7, .inl (cy 3, 3, .inr (.inr (.inr (.inr (va_up (va_up (va_up (fun _ => none) 0 (some h8)) 1 (some h9)) 2 (some h10))))))), (h8, .inr (4, [.int 0, .int 0, .int 0])), (h9, .inr (4, [.int 0, .int 0, .int 0])), (h10, .inr (4, [.int 0, .int 0, .int 0])), ((f4572 0), .inr (0, [.ref (f4572 1), .int 0, .int 0, .int 0])), ((f4572 1), .inl (cy 0, 2, .inl (va_cpy (upd (upd (fun _ => 0) 0 123) 1 125) (fun _ => 0) 0 0 2))), (h5, .inr (7, [.ref h6, .ref h24])), (h6, .inr (6, [.ref h25, .int 0])), (h0, .inr (8, [.ref h1, .ref h11, .ref h3, .ref h5, .ref h7, .int 0, .ref h20, .ref h12])), (h1, .inr (7, [.ref h2, .ref h17])), (h2, .inr (6, [.ref h15, .int 0])), (h11, .inr (6, [.ref h26, .int 0])), (h12, .inr (7, [.ref h13, .ref h16])), (h13, .inr (6, [.ref h14, .int 0])), (h14, .inl (cy 1, 24, .inl (va_cpy (fun _ => 0) (fun _ => 0) 0 0 0))), (h15, .inl (cy 1, 24, .inl (fun _ => 0))), (h16, .inr (6, [.ref h18, .int 0])), (h17, .inr (6, [.ref h19, .int 0])), (h18, .inl (cy 1, 24, .inl (va_cpy (fun _ => 0) (fun _ => 0) 0 0 0))), (h19, .inl (cy 1, 24, .inl (fun _ => 0)))] H _ := w
  have w := w.sub (ws' := [(h0, .inr (8, [.ref h1, .ref h11, .ref h3, .ref h5, .ref h7, .int 0, .ref h20, .ref h12])), (h1, .inr (7, [.ref h2, .ref h17])), (h2, .inr (6, [.ref h15, .int 0])), (h3, .inr (5, [.ref h21, .ref h22, .ref h4, .int 0])), (h4, .inr (6, [.ref h23, .int 0])), (h5, .inr (7, [.ref h6, .ref h24])), (h6, .inr (6, [.ref h25, .int 0])), (h7, .inl (cy 3, 3, .inr (.inr (.inr (.inr (va_up (va_up (va_up (fun _ => none) 0 (some h8)) 1 (some h9)) 2 (some h10))))))), (h8, .inr (4, [.int 0, .int 0, .int 0])), (h9, .inr (4, [.int 0, .int 0, .int 0])), (h10, .inr (4, [.int 0, .int 0, .int 0])), (h11, .inr (6, [.ref h26, .int 0])), (h12, .inr (7, [.ref h13, .ref h16])), (h13, .inr (6, [.ref h14, .int 0])), (h14, .inl (cy 1, 24, .inl (va_cpy (fun _ => 0) (fun _ => 0) 0 0 0))), (h15, .inl (cy 1, 24, .inl (fun _ => 0))), (h16, .inr (6, [.ref h18, .int 0])), (h17, .inr (6, [.ref h19, .int 0])), (h18, .inl (cy 1, 24, .inl (va_cpy (fun _ => 0) (fun _ => 0) 0 0 0))), (h19, .inl (cy 1, 24, .inl (fun _ => 0)))]) [10, 11, 12, 0, 1, 8, 9, 2, 3, 4, 5, 13, 14, 15, 16, 17, 18, 19, 20, 21] (by decide) rfl rfl
  exact x_lret C w hr (fun _ => 0) rfl rfl dX4_digest_89 (Nat.le_of_ble_eq_true rfl) (Nat.le_of_ble_eq_true rfl)
