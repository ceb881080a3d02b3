set_option maxHeartbeats 4000000 in
set_option maxRecDepth 100000 in
theorem c607_X6_house (l : Launch) (G : va_G) (cy : Nat → ClassId) (sa : String → Nat → Nat) (sv : Nat → Nat) (h0 h1 h2 h3 h4 h5 h6 h7 : Nat) : xM l G cy sa sv yX6_house (Cond.code yX6_house cX6_house 2 (some .int) :: XG) { frames := 10, cells := 1, slots := 5, locals := 296 } [.ref h0, .int 1] [(h0, .inr (10, [.ref h2, .ref h4, .ref h3, .ref h5, .ref h1, .ref h6, .ref h7, .int 0, .int 0])), (h1, .inl (cy 2, 3, .inl (fun _ => 0))), (h2, .inr (3, [.int 0, .ref (sv 0), .int 0])), (h3, .inr (3, [.int 0, .ref (sv 0), .int 0])), (h4, .inr (3, [.int 0, .ref (sv 0), .int 0]))] (xQi G (fun f => [(h0, .inr (10, [.ref h2, .ref h4, .ref h3, .ref h5, .ref h1, .ref h6, .ref h7, .int 0, .int 0])), (h1, .inl (cy 2, 3, .inl (fun _ => 0))), (h2, .inr (3, [.int 0, .ref (sv 0), .int 0])), (h3, .inr (3, [.int 0, .ref (sv 0), .int 0])), (h4, .inr (3, [.int 0, .ref (sv 0), .int 0]))]) 0) := by
  refine xof (by decide) (Nat.le_of_ble_eq_true rfl) (fun p e s m below meth c A C w hr hn ls hl => ?_)
  have hl : lv_has ls 2 [(0, .ref h0), (1, .int 1)] := hl
  refine lv_aload_n C.1 C.2.1 dX6_house_0 rfl (lv_at hl 0 rfl) ?_
  refine lv_iload_n C.1 C.2.1 dX6_house_1 rfl (lv_at hl 1 rfl) ?_
  refine lv_if_lt (tgt := 10) C.1 C.2.1 dX6_house_2 (by decide) (fun c9 => absurd c9 (by decide)) (fun _ => ?_)
  refine lv_iload_n C.1 C.2.1 dX6_house_5 rfl (lv_at hl 1 rfl) ?_
  refine lv_iconst (v := 4) C.1 C.2.1 dX6_house_6 (by decide) ?_
  refine lv_icmp_le (tgt := 14) C.1 C.2.1 dX6_house_7 (by decide) (fun _ => ?_) (fun c9 => absurd (by decide) c9)
  refine lv_iconst (v := 0) C.1 C.2.1 dX6_house_14 (by decide) ?_
  refine lv_iconst (v := 1) C.1 C.2.1 dX6_house_15 (by decide) ?_
  refine x_ki C w [0] [1, 2, 3, 4] rfl rfl (by decide) (by decide) (va_runV (As := [.int 0, .int 1]) (rest := []) (xfix C) (c46_X6_start l G cy sa sv h0 h2 h4 h3 h5 h1 h6 h7 (xtr C) _) (cwV 2 (xhts C) (xgV (maxL := 0) (cc := ⟨#[]⟩) (ret := none) gw_114 gw_115 gw_116 gw_58 gc_X6_start) rfl rfl rfl (by decide +kernel) ⟨(Nat.le_of_ble_eq_true rfl), (Nat.le_of_ble_eq_true rfl)⟩) (xPV C w [0] rfl (by decide) (ci := 10) (q0 := 0) rfl rfl) rfl rfl hl.1 rfl (lv_room (Nat.le_of_ble_eq_true rfl)) dX6_house_16 ⟨(Nat.le_of_ble_eq_true rfl), (Nat.le_of_ble_eq_true rfl)⟩) (fun f4257 H locs w => ?_)
  have w : xW G A s [(h1, .inl (cy 2, 3, .inl (fun _ => 0))), (h2, .inr (3, [.int 0, .ref (sv 0), .int 0])), (h3, .inr (3, [.int 0, .ref (sv 0), .int 0])), (h4, .inr (3, [.int 0, .ref (sv 0), .int 0])), (h0, .inr (10, [.ref h2, .ref h4, .ref h3, .ref h5, .ref h1, .ref h6, .ref h7, .int 0, .int 0]))] H _ := w
  refine lv_if_eq (tgt := 26) C.1 C.2.1 dX6_house_19 (by decide) (fun _ => ?_) (fun c9 => absurd (by decide) c9)
  refine lv_aload_n C.1 C.2.1 dX6_house_26 rfl (lv_at hl 0 rfl) ?_
  refine lv_iload_n C.1 C.2.1 dX6_house_27 rfl (lv_at hl 1 rfl) ?_
  refine x_ki C w [4, 0, 1, 2, 3] [] rfl rfl (by decide) (by decide) (va_runV (As := [.int 1]) (rest := []) (xfix C) (c606_X6_houseNow l G cy sa sv h0 h1 h2 h3 h4 h5 h6 h7 (xtr C) _) (cwV 1 (xhts C) (xgV (maxL := 0) (cc := ⟨#[]⟩) (ret := none) gw_1014 gw_1015 gw_1016 gw_58 gc_X6_houseNow) rfl rfl rfl (by decide +kernel) ⟨(Nat.le_of_ble_eq_true rfl), (Nat.le_of_ble_eq_true rfl)⟩) (xPV C w [4, 0, 1, 2, 3] rfl (by decide) (ci := 10) (q0 := 4) rfl rfl) rfl rfl hl.1 rfl (lv_room (Nat.le_of_ble_eq_true rfl)) dX6_house_28 ⟨(Nat.le_of_ble_eq_true rfl), (Nat.le_of_ble_eq_true rfl)⟩) (fun f4267 H locs w => ?_)
  have w : xW G A s [(h0, .inr (10, [.ref h2, .ref h4, .ref h3, .ref h5, .ref h1, .ref h6, .ref h7, .int 0, .int 0])), (h1, .inl (cy 2, 3, .inl (fun _ => 0))), (h2, .inr (3, [.int 0, .ref (sv 0), .int 0])), (h3, .inr (3, [.int 0, .ref (sv 0), .int 0])), (h4, .inr (3, [.int 0, .ref (sv 0), .int 0]))] H _ := w
  refine W.widen (k := 1) (n := 5) (Nat.le_of_ble_eq_true rfl) (Nat.le_of_ble_eq_true rfl) ?_
  exact x_iret C w hr (fun _ => 0) rfl rfl dX6_house_31 (Nat.le_of_ble_eq_true rfl) (Nat.le_of_ble_eq_true rfl)
set_option maxHeartbeats 4000000 in
set_option maxRecDepth 100000 in
theorem c608_X4_house (l : Launch) (G : va_G) (cy : Nat → ClassId) (sa : String → Nat → Nat) (sv : Nat → Nat) (h0 h1 h2 h3 h4 h5 h6 h7 h8 h9 h10 : Nat) : xM l G cy sa sv yX4_house (Cond.code yX4_house cX4_house 2 (some .int) :: XG) { frames := 10, cells := 0, slots := 0, locals := 290 } [.ref h0, .int 2] [(h0, .inr (8, [.ref h3, .ref h4, .ref h5, .ref h1, .ref h6, .int 0, .ref h7, .ref h8])), (h1, .inr (7, [.ref h2, .ref h9])), (h2, .inr (6, [.ref h10, .int 0]))] (xQi G (fun f => [(h0, .inr (8, [.ref h3, .ref h4, .ref h5, .ref h1, .ref h6, .int 0, .ref h7, .ref h8])), (h1, .inr (7, [.ref h2, .ref h9])), (h2, .inr (6, [.ref h10, .int 0]))]) 0) := by
  refine xof (by decide) (Nat.le_of_ble_eq_true rfl) (fun p e s m below meth c A C w hr hn ls hl => ?_)
  have hl : lv_has ls 2 [(0, .ref h0), (1, .int 2)] := hl
  refine lv_iload_n C.1 C.2.1 dX4_house_0 rfl (lv_at hl 1 rfl) ?_
  refine lv_tableIn (off := 51) (tgt := 52) C.1 C.2.1 dX4_house_1 (by decide) (by decide) (by decide) (by decide) ?_
  refine lv_aload_n C.1 C.2.1 dX4_house_52 rfl (lv_at hl 0 rfl) ?_
  refine x_get (v := .ref h1) C w 0 8 3 (xin_X4 _) rfl rfl (by decide) (List.mem_cons_of_mem _ gw_42) rfl rfl dX4_house_53 ?_
  refine x_ki C w [1, 2] [0] rfl rfl (by decide) (by decide) (va_runV (As := []) (rest := []) (xfix C) (c22_X3_count l G cy sa sv h1 h2 h9 h10 (xtr C) _) (cwV 0 (xhts C) (xgV (maxL := 0) (cc := ⟨#[]⟩) (ret := none) gw_130 gw_131 gw_132 gw_7 gc_X3_count) rfl rfl rfl (by decide +kernel) ⟨(Nat.le_of_ble_eq_true rfl), (Nat.le_of_ble_eq_true rfl)⟩) (xPV C w [1, 2] rfl (by decide) (ci := 7) (q0 := 1) rfl rfl) rfl rfl hl.1 rfl (lv_room (Nat.le_of_ble_eq_true rfl)) dX4_house_56 ⟨(Nat.le_of_ble_eq_true rfl), (Nat.le_of_ble_eq_true rfl)⟩) (fun f4272 H locs w => ?_)
  have w : xW G A s [(h0, .inr (8, [.ref h3, .ref h4, .ref h5, .ref h1, .ref h6, .int 0, .ref h7, .ref h8])), (h1, .inr (7, [.ref h2, .ref h9])), (h2, .inr (6, [.ref h10, .int 0]))] H _ := w
  exact x_iret C w hr (fun _ => 0) rfl rfl dX4_house_59 (Nat.le_of_ble_eq_true rfl) (Nat.le_of_ble_eq_true rfl)
set_option maxHeartbeats 4000000 in
set_option maxRecDepth 100000 in
theorem c609_L_house (l : Launch) (G : va_G) (cy : Nat → ClassId) (sa : String → Nat → Nat) (sv : Nat → Nat) (h0 h1 h2 h3 h4 h5 h6 h7 h8 h9 h10 h11 : Nat) : xM l G cy sa sv yL_house (Cond.codeWith yL_house cL_house 4 (some .int) [(0, 10, 13, 19)] :: XG) { frames := 11, cells := 0, slots := 0, locals := 311 } [.ref h0, .int 2, .ref h1] [(h0, .inr (8, [.ref h4, .ref h5, .ref h6, .ref h2, .ref h7, .int 0, .ref h8, .ref h9])), (h2, .inr (7, [.ref h3, .ref h10])), (h3, .inr (6, [.ref h11, .int 0])), (h1, .inr (9, [.long 0, .null]))] (xQi G (fun f => [(h0, .inr (8, [.ref h4, .ref h5, .ref h6, .ref h2, .ref h7, .int 0, .ref h8, .ref h9])), (h2, .inr (7, [.ref h3, .ref h10])), (h3, .inr (6, [.ref h11, .int 0])), (h1, .inr (9, [.long 0, .null]))]) 0) := by
  refine xofH (by decide) (Nat.le_of_ble_eq_true rfl) (fun p e s m below meth c A C w hr hn hT ls hl => ?_)
  have hl : lv_has ls 4 [(0, .ref h0), (1, .int 2), (2, .ref h1)] := hl
  refine lv_aload_n C.1 C.2.1 dL_house_0 rfl (lv_at hl 2 rfl) ?_
  refine lv_aload_n C.1 C.2.1 dL_house_1 rfl (lv_at hl 0 rfl) ?_
  refine lv_iload_n C.1 C.2.1 dL_house_2 rfl (lv_at hl 1 rfl) ?_
  refine x_ki C w [0, 1, 2] [3] rfl rfl (by decide) (by decide) (va_runV (As := [.int 2]) (rest := [.ref h1]) (xfix C) (c608_X4_house l G cy sa sv h0 h2 h3 h4 h5 h6 h7 h8 h9 h10 h11 (xtr C) _) (cwV 1 (xhts C) (xgV (maxL := 0) (cc := ⟨#[]⟩) (ret := none) gw_1006 gw_1007 gw_1008 gw_2 gc_X4_house) rfl rfl rfl (by decide +kernel) ⟨(Nat.le_of_ble_eq_true rfl), (Nat.le_of_ble_eq_true rfl)⟩) (xPV C w [0, 1, 2] rfl (by decide) (ci := 8) (q0 := 0) rfl rfl) rfl rfl hl.1 rfl (lv_room (Nat.le_of_ble_eq_true rfl)) dL_house_3 ⟨(Nat.le_of_ble_eq_true rfl), (Nat.le_of_ble_eq_true rfl)⟩) (fun f4273 H locs w => ?_)
  have w : xW G A s [(h1, .inr (9, [.long 0, .null])), (h0, .inr (8, [.ref h4, .ref h5, .ref h6, .ref h2, .ref h7, .int 0, .ref h8, .ref h9])), (h2, .inr (7, [.ref h3, .ref h10])), (h3, .inr (6, [.ref h11, .int 0]))] H _ := w
  refine lv_i2l (v := 0) C.1 C.2.1 dL_house_6 (by decide) ?_
  refine x_putN (ty := .long) (ty0 := tyX5) C w 0 9 0 (xin_X5 _) tyX5_ok nmX5 rfl rfl (by decide) (xs_f_n (xS C)) rfl rfl (by decide +kernel) rfl rfl (Nat.le_of_ble_eq_true rfl) dL_house_7 (fun H locs w => ?_)
  have w : xW G A s [(h1, .inr (9, [.long 0, .null])), (h0, .inr (8, [.ref h4, .ref h5, .ref h6, .ref h2, .ref h7, .int 0, .ref h8, .ref h9])), (h2, .inr (7, [.ref h3, .ref h10])), (h3, .inr (6, [.ref h11, .int 0]))] H _ := w
  refine lv_goto (tgt := 16) C.1 C.2.1 dL_house_10 (by decide) ?_
  refine lv_iconst (v := 0) C.1 C.2.1 dL_house_16 (by decide) ?_
  have w := w.sub (ws' := [(h0, .inr (8, [.ref h4, .ref h5, .ref h6, .ref h2, .ref h7, .int 0, .ref h8, .ref h9])), (h2, .inr (7, [.ref h3, .ref h10])), (h3, .inr (6, [.ref h11, .int 0])), (h1, .inr (9, [.long 0, .null]))]) [1, 2, 3, 0] (by decide) rfl rfl
  exact x_iret C w hr (fun _ => 0) rfl rfl dL_house_17 (Nat.le_of_ble_eq_true rfl) (Nat.le_of_ble_eq_true rfl)
set_option maxHeartbeats 4000000 in
set_option maxRecDepth 100000 in
theorem c610_X6_houseNow (l : Launch) (G : va_G) (cy : Nat → ClassId) (sa : String → Nat → Nat) (sv : Nat → Nat) (h0 h1 h2 h3 h4 h5 h6 h7 : Nat) : xM l G cy sa sv yX6_houseNow (Cond.code yX6_houseNow cX6_houseNow 7 (some .int) :: XG) { frames := 9, cells := 1, slots := 5, locals := 270 } [.ref h0, .int 2] [(h0, .inr (10, [.ref h2, .ref h4, .ref h3, .ref h5, .ref h1, .ref h6, .ref h7, .int 0, .int 0])), (h1, .inl (cy 2, 3, .inl (fun _ => 0))), (h2, .inr (3, [.int 0, .ref (sv 0), .int 0])), (h3, .inr (3, [.int 0, .ref (sv 0), .int 0])), (h4, .inr (3, [.int 0, .ref (sv 0), .int 0]))] (xQi G (fun f => [(h0, .inr (10, [.ref h2, .ref h4, .ref h3, .ref h5, .ref h1, .ref h6, .ref h7, .int 0, .int 0])), (h1, .inl (cy 2, 3, .inl (fun _ => 0))), (h2, .inr (3, [.int 0, .ref (sv 0), .int 0])), (h3, .inr (3, [.int 0, .ref (sv 0), .int 0])), (h4, .inr (3, [.int 0, .ref (sv 0), .int 0]))]) 0) := by
  refine xof (by decide) (Nat.le_of_ble_eq_true rfl) (fun p e s m below meth c A C w hr hn ls hl => ?_)
  have hl : lv_has ls 7 [(0, .ref h0), (1, .int 2)] := hl
  refine lv_iconst (v := 0) C.1 C.2.1 dX6_houseNow_0 (by decide) ?_
  refine lv_istore_n (lv' := [(2, .int 0), (0, .ref h0), (1, .int 2)]) C.1 C.2.1 dX6_houseNow_1 rfl hl (by decide) rfl (fun ls hl => ?_)
  refine lv_aload_n C.1 C.2.1 dX6_houseNow_2 rfl (lv_at hl 1 rfl) ?_
  refine x_get (v := .ref h1) C w 0 10 4 (xin_X6 _) rfl rfl (by decide) (List.mem_cons_of_mem _ gw_83) rfl rfl dX6_houseNow_3 ?_
  refine lv_astore_n (lv' := [(3, .ref h1), (2, .int 0), (0, .ref h0), (1, .int 2)]) C.1 C.2.1 dX6_houseNow_6 rfl hl (by decide) rfl (fun ls hl => ?_)
  refine lv_aload_n C.1 C.2.1 dX6_houseNow_7 rfl (lv_at hl 0 rfl) ?_
  refine x_alen (v := 3) C w 1 2 rfl rfl (by rfl) dX6_houseNow_8 ?_
  refine lv_istore (lv' := [(4, .int 3), (3, .ref h1), (2, .int 0), (0, .ref h0), (1, .int 2)]) C.1 C.2.1 dX6_houseNow_9 hl (by decide) rfl (fun ls hl => ?_)
  refine lv_iconst (v := 0) C.1 C.2.1 dX6_houseNow_11 (by decide) ?_
  refine lv_istore (lv' := [(5, .int 0), (4, .int 3), (3, .ref h1), (2, .int 0), (0, .ref h0), (1, .int 2)]) C.1 C.2.1 dX6_houseNow_12 hl (by decide) rfl (fun ls hl => ?_)
  refine lv_iload C.1 C.2.1 dX6_houseNow_14 (lv_at hl 0 rfl) ?_
  refine lv_iload C.1 C.2.1 dX6_houseNow_16 (lv_at hl 1 rfl) ?_
  refine lv_icmp_ge (tgt := 41) C.1 C.2.1 dX6_houseNow_18 (by decide) (fun c9 => absurd c9 (by decide)) (fun _ => ?_)
  refine lv_aload_n C.1 C.2.1 dX6_houseNow_21 rfl (lv_at hl 2 rfl) ?_
  refine lv_iload C.1 C.2.1 dX6_houseNow_22 (lv_at hl 0 rfl) ?_
  refine x_zald (v := 0) C w 1 2 rfl rfl (xvin (by decide)) (by rfl) dX6_houseNow_24 ?_
  refine lv_istore (lv' := [(6, .int 0), (5, .int 0), (4, .int 3), (3, .ref h1), (2, .int 0), (0, .ref h0), (1, .int 2)]) C.1 C.2.1 dX6_houseNow_25 hl (by decide) rfl (fun ls hl => ?_)
  refine lv_iload_n C.1 C.2.1 dX6_houseNow_27 rfl (lv_at hl 4 rfl) ?_
  refine lv_iload C.1 C.2.1 dX6_houseNow_28 (lv_at hl 0 rfl) ?_
  refine x_ki C w [] [0, 1, 2, 3, 4] rfl rfl (by decide) (by decide) (va_runS (As := [.int 0]) (rest := [.int 0]) (xfix C) (c521_X6_one l G cy sa sv (xtr C) _) (va_cwS 1 (xhts C) (xgS gw_912 gw_913 gw_58 gc_X6_one) rfl rfl rfl (by decide +kernel) ⟨(Nat.le_of_ble_eq_true rfl), (Nat.le_of_ble_eq_true rfl)⟩) (xPS C w [] rfl (by decide)) rfl rfl hl.1 rfl (lv_room (Nat.le_of_ble_eq_true rfl)) dX6_houseNow_30 ⟨(Nat.le_of_ble_eq_true rfl), (Nat.le_of_ble_eq_true rfl)⟩) (fun f4280 H locs w => ?_)
  have w : xW G A s [(h0, .inr (10, [.ref h2, .ref h4, .ref h3, .ref h5, .ref h1, .ref h6, .ref h7, .int 0, .int 0])), (h1, .inl (cy 2, 3, .inl (fun _ => 0))), (h2, .inr (3, [.int 0, .ref (sv 0), .int 0])), (h3, .inr (3, [.int 0, .ref (sv 0), .int 0])), (h4, .inr (3, [.int 0, .ref (sv 0), .int 0]))] H _ := w
  refine lv_iadd C.1 C.2.1 dX6_houseNow_33 ?_
  refine x_is (y := 0) (by decide) ?_
  refine lv_istore_n (lv' := [(2, .int 0), (6, .int 0), (5, .int 0), (4, .int 3), (3, .ref h1), (0, .ref h0), (1, .int 2)]) C.1 C.2.1 dX6_houseNow_34 rfl hl (by decide) rfl (fun ls hl => ?_)
  refine lv_iinc (v := 1) (lv' := [(5, .int 1), (2, .int 0), (6, .int 0), (4, .int 3), (3, .ref h1), (0, .ref h0), (1, .int 2)]) C.1 C.2.1 dX6_houseNow_35 hl (k := 2) rfl (by decide) (by decide) rfl (fun ls hl => ?_)
  refine lv_goto (tgt := 14) C.1 C.2.1 dX6_houseNow_38 (by decide) ?_
  refine lv_iload C.1 C.2.1 dX6_houseNow_14 (lv_at hl 0 rfl) ?_
  refine lv_iload C.1 C.2.1 dX6_houseNow_16 (lv_at hl 3 rfl) ?_
  refine lv_icmp_ge (tgt := 41) C.1 C.2.1 dX6_houseNow_18 (by decide) (fun c9 => absurd c9 (by decide)) (fun _ => ?_)
  refine lv_aload_n C.1 C.2.1 dX6_houseNow_21 rfl (lv_at hl 4 rfl) ?_
  refine lv_iload C.1 C.2.1 dX6_houseNow_22 (lv_at hl 0 rfl) ?_
  refine x_zald (v := 0) C w 1 2 rfl rfl (xvin (by decide)) (by rfl) dX6_houseNow_24 ?_
  refine lv_istore (lv' := [(6, .int 0), (5, .int 1), (2, .int 0), (4, .int 3), (3, .ref h1), (0, .ref h0), (1, .int 2)]) C.1 C.2.1 dX6_houseNow_25 hl (by decide) rfl (fun ls hl => ?_)
  refine lv_iload_n C.1 C.2.1 dX6_houseNow_27 rfl (lv_at hl 2 rfl) ?_
  refine lv_iload C.1 C.2.1 dX6_houseNow_28 (lv_at hl 0 rfl) ?_
  refine x_ki C w [] [0, 1, 2, 3, 4] rfl rfl (by decide) (by decide) (va_runS (As := [.int 0]) (rest := [.int 0]) (xfix C) (c521_X6_one l G cy sa sv (xtr C) _) (va_cwS 1 (xhts C) (xgS gw_912 gw_913 gw_58 gc_X6_one) rfl rfl rfl (by decide +kernel) ⟨(Nat.le_of_ble_eq_true rfl), (Nat.le_of_ble_eq_true rfl)⟩) (xPS C w [] rfl (by decide)) rfl rfl hl.1 rfl (lv_room (Nat.le_of_ble_eq_true rfl)) dX6_houseNow_30 ⟨(Nat.le_of_ble_eq_true rfl), (Nat.le_of_ble_eq_true rfl)⟩) (fun f4281 H locs w => ?_)
  have w : xW G A s [(h0, .inr (10, [.ref h2, .ref h4, .ref h3, .ref h5, .ref h1, .ref h6, .ref h7, .int 0, .int 0])), (h1, .inl (cy 2, 3, .inl (fun _ => 0))), (h2, .inr (3, [.int 0, .ref (sv 0), .int 0])), (h3, .inr (3, [.int 0, .ref (sv 0), .int 0])), (h4, .inr (3, [.int 0, .ref (sv 0), .int 0]))] H _ := w
  refine lv_iadd C.1 C.2.1 dX6_houseNow_33 ?_
  refine x_is (y := 0) (by decide) ?_
  refine lv_istore_n (lv' := [(2, .int 0), (6, .int 0), (5, .int 1), (4, .int 3), (3, .ref h1), (0, .ref h0), (1, .int 2)]) C.1 C.2.1 dX6_houseNow_34 rfl hl (by decide) rfl (fun ls hl => ?_)
  refine lv_iinc (v := 2) (lv' := [(5, .int 2), (2, .int 0), (6, .int 0), (4, .int 3), (3, .ref h1), (0, .ref h0), (1, .int 2)]) C.1 C.2.1 dX6_houseNow_35 hl (k := 2) rfl (by decide) (by decide) rfl (fun ls hl => ?_)
  refine lv_goto (tgt := 14) C.1 C.2.1 dX6_houseNow_38 (by decide) ?_
  refine lv_iload C.1 C.2.1 dX6_houseNow_14 (lv_at hl 0 rfl) ?_
  refine lv_iload C.1 C.2.1 dX6_houseNow_16 (lv_at hl 3 rfl) ?_
  refine lv_icmp_ge (tgt := 41) C.1 C.2.1 dX6_houseNow_18 (by decide) (fun c9 => absurd c9 (by decide)) (fun _ => ?_)
  refine lv_aload_n C.1 C.2.1 dX6_houseNow_21 rfl (lv_at hl 4 rfl) ?_
  refine lv_iload C.1 C.2.1 dX6_houseNow_22 (lv_at hl 0 rfl) ?_
  refine x_zald (v := 0) C w 1 2 rfl rfl (xvin (by decide)) (by rfl) dX6_houseNow_24 ?_
  refine lv_istore (lv' := [(6, .int 0), (5, .int 2), (2, .int 0), (4, .int 3), (3, .ref h1), (0, .ref h0), (1, .int 2)]) C.1 C.2.1 dX6_houseNow_25 hl (by decide) rfl (fun ls hl => ?_)
  refine lv_iload_n C.1 C.2.1 dX6_houseNow_27 rfl (lv_at hl 2 rfl) ?_
  refine lv_iload C.1 C.2.1 dX6_houseNow_28 (lv_at hl 0 rfl) ?_
  refine x_ki C w [] [0, 1, 2, 3, 4] rfl rfl (by decide) (by decide) (va_runS (As := [.int 0]) (rest := [.int 0]) (xfix C) (c521_X6_one l G cy sa sv (xtr C) _) (va_cwS 1 (xhts C) (xgS gw_912 gw_913 gw_58 gc_X6_one) rfl rfl rfl (by decide +kernel) ⟨(Nat.le_of_ble_eq_true rfl), (Nat.le_of_ble_eq_true rfl)⟩) (xPS C w [] rfl (by decide)) rfl rfl hl.1 rfl (lv_room (Nat.le_of_ble_eq_true rfl)) dX6_houseNow_30 ⟨(Nat.le_of_ble_eq_true rfl), (Nat.le_of_ble_eq_true rfl)⟩) (fun f4282 H locs w => ?_)
  have w : xW G A s [(h0, .inr (10, [.ref h2, .ref h4, .ref h3, .ref h5, .ref h1, .ref h6, .ref h7, .int 0, .int 0])), (h1, .inl (cy 2, 3, .inl (fun _ => 0))), (h2, .inr (3, [.int 0, .ref (sv 0), .int 0])), (h3, .inr (3, [.int 0, .ref (sv 0), .int 0])), (h4, .inr (3, [.int 0, .ref (sv 0), .int 0]))] H _ := w
  refine lv_iadd C.1 C.2.1 dX6_houseNow_33 ?_
  refine x_is (y := 0) (by decide) ?_
  refine lv_istore_n (lv' := [(2, .int 0), (6, .int 0), (5, .int 2), (4, .int 3), (3, .ref h1), (0, .ref h0), (1, .int 2)]) C.1 C.2.1 dX6_houseNow_34 rfl hl (by decide) rfl (fun ls hl => ?_)
  refine lv_iinc (v := 3) (lv' := [(5, .int 3), (2, .int 0), (6, .int 0), (4, .int 3), (3, .ref h1), (0, .ref h0), (1, .int 2)]) C.1 C.2.1 dX6_houseNow_35 hl (k := 2) rfl (by decide) (by decide) rfl (fun ls hl => ?_)
  refine lv_goto (tgt := 14) C.1 C.2.1 dX6_houseNow_38 (by decide) ?_
  refine lv_iload C.1 C.2.1 dX6_houseNow_14 (lv_at hl 0 rfl) ?_
  refine lv_iload C.1 C.2.1 dX6_houseNow_16 (lv_at hl 3 rfl) ?_
  refine lv_icmp_ge (tgt := 41) C.1 C.2.1 dX6_houseNow_18 (by decide) (fun _ => ?_) (fun c9 => absurd (by decide) c9)
  refine lv_iconst (v := 5) C.1 C.2.1 dX6_houseNow_41 (by decide) ?_
  refine x_newa (atype := .int) (ty := .int) (N := 5) C w 1 (fun _ _ h => h) rfl (List.mem_cons_of_mem _ gw_13) rfl rfl (by decide) (by decide) (by decide) (Nat.le_of_ble_eq_true rfl) (Nat.le_of_ble_eq_true rfl) dX6_houseNow_42 (fun q4283 H w => ?_)
  have w : xW G A s [(h0, .inr (10, [.ref h2, .ref h4, .ref h3, .ref h5, .ref h1, .ref h6, .ref h7, .int 0, .int 0])), (h1, .inl (cy 2, 3, .inl (fun _ => 0))), (h2, .inr (3, [.int 0, .ref (sv 0), .int 0])), (h3, .inr (3, [.int 0, .ref (sv 0), .int 0])), (h4, .inr (3, [.int 0, .ref (sv 0), .int 0])), (q4283, .inl (cy 1, 5, .inl (fun _ => 0)))] H _ := w
  refine W.widen (k := 1) (n := 5) (Nat.le_of_ble_eq_true rfl) (Nat.le_of_ble_eq_true rfl) ?_
  refine lv_dup C.1 C.2.1 dX6_houseNow_44 rfl ?_
  refine lv_iconst (v := 0) C.1 C.2.1 dX6_houseNow_45 (by decide) ?_
  refine lv_aload_n C.1 C.2.1 dX6_houseNow_46 rfl (lv_at hl 5 rfl) ?_
  refine x_get (v := .ref h2) C w 0 10 0 (xin_X6 _) rfl rfl (by decide) (List.mem_cons_of_mem _ gw_78) rfl rfl dX6_houseNow_47 ?_
  refine x_ki C w [2] [0, 1, 3, 4, 5] rfl rfl (by decide) (by decide) (va_runV (As := []) (rest := [.int 0, .ref q4283, .ref q4283]) (xfix C) (c47_Jx4a65c_size_8abf5 l G cy sa sv h2 (xtr C) _) (cwV 0 (xhts C) (xgV (maxL := 0) (cc := ⟨#[]⟩) (ret := none) gw_195 gw_196 gw_197 gw_62 gc_Jx4a65c_size_8abf5) rfl rfl rfl (by decide +kernel) ⟨(Nat.le_of_ble_eq_true rfl), (Nat.le_of_ble_eq_true rfl)⟩) (xPV C w [2] rfl (by decide) (ci := 3) (q0 := 2) rfl rfl) rfl rfl hl.1 rfl (lv_room (Nat.le_of_ble_eq_true rfl)) dX6_houseNow_50 ⟨(Nat.le_of_ble_eq_true rfl), (Nat.le_of_ble_eq_true rfl)⟩) (fun f4284 H locs w => ?_)
  have w : xW G A s [(h0, .inr (10, [.ref h2, .ref h4, .ref h3, .ref h5, .ref h1, .ref h6, .ref h7, .int 0, .int 0])), (h1, .inl (cy 2, 3, .inl (fun _ => 0))), (h3, .inr (3, [.int 0, .ref (sv 0), .int 0])), (h4, .inr (3, [.int 0, .ref (sv 0), .int 0])), (q4283, .inl (cy 1, 5, .inl (fun _ => 0))), (h2, .inr (3, [.int 0, .ref (sv 0), .int 0]))] H _ := w
  refine x_iast (k := 0) C w 4 1 rfl rfl (xvin (by decide)) (by decide) dX6_houseNow_53 (fun H locs w => ?_)
  have w : xW G A s [(h0, .inr (10, [.ref h2, .ref h4, .ref h3, .ref h5, .ref h1, .ref h6, .ref h7, .int 0, .int 0])), (h1, .inl (cy 2, 3, .inl (fun _ => 0))), (h3, .inr (3, [.int 0, .ref (sv 0), .int 0])), (h4, .inr (3, [.int 0, .ref (sv 0), .int 0])), (q4283, .inl (cy 1, 5, .inl (upd (fun _ => 0) 0 0))), (h2, .inr (3, [.int 0, .ref (sv 0), .int 0]))] H _ := w
  refine lv_dup C.1 C.2.1 dX6_houseNow_54 rfl ?_
  refine lv_iconst (v := 1) C.1 C.2.1 dX6_houseNow_55 (by decide) ?_
  refine lv_aload_n C.1 C.2.1 dX6_houseNow_56 rfl (lv_at hl 5 rfl) ?_
  refine x_get (v := .ref h3) C w 0 10 2 (xin_X6 _) rfl rfl (by decide) (List.mem_cons_of_mem _ gw_80) rfl rfl dX6_houseNow_57 ?_
  refine x_ki C w [2] [0, 1, 3, 4, 5] rfl rfl (by decide) (by decide) (va_runV (As := []) (rest := [.int 1, .ref q4283, .ref q4283]) (xfix C) (c47_Jx4a65c_size_8abf5 l G cy sa sv h3 (xtr C) _) (cwV 0 (xhts C) (xgV (maxL := 0) (cc := ⟨#[]⟩) (ret := none) gw_195 gw_196 gw_197 gw_62 gc_Jx4a65c_size_8abf5) rfl rfl rfl (by decide +kernel) ⟨(Nat.le_of_ble_eq_true rfl), (Nat.le_of_ble_eq_true rfl)⟩) (xPV C w [2] rfl (by decide) (ci := 3) (q0 := 2) rfl rfl) rfl rfl hl.1 rfl (lv_room (Nat.le_of_ble_eq_true rfl)) dX6_houseNow_60 ⟨(Nat.le_of_ble_eq_true rfl), (Nat.le_of_ble_eq_true rfl)⟩) (fun f4285 H locs w => ?_)
  have w : xW G A s [(h0, .inr (10, [.ref h2, .ref h4, .ref h3, .ref h5, .ref h1, .ref h6, .ref h7, .int 0, .int 0])), (h1, .inl (cy 2, 3, .inl (fun _ => 0))), (h4, .inr (3, [.int 0, .ref (sv 0), .int 0])), (q4283, .inl (cy 1, 5, .inl (upd (fun _ => 0) 0 0))), (h2, .inr (3, [.int 0, .ref (sv 0), .int 0])), (h3, .inr (3, [.int 0, .ref (sv 0), .int 0]))] H _ := w
  refine x_iast (k := 1) C w 3 1 rfl rfl (xvin (by decide)) (by decide) dX6_houseNow_63 (fun H locs w => ?_)
  have w : xW G A s [(h0, .inr (10, [.ref h2, .ref h4, .ref h3, .ref h5, .ref h1, .ref h6, .ref h7, .int 0, .int 0])), (h1, .inl (cy 2, 3, .inl (fun _ => 0))), (h4, .inr (3, [.int 0, .ref (sv 0), .int 0])), (q4283, .inl (cy 1, 5, .inl (upd (upd (fun _ => 0) 0 0) 1 0))), (h2, .inr (3, [.int 0, .ref (sv 0), .int 0])), (h3, .inr (3, [.int 0, .ref (sv 0), .int 0]))] H _ := w
  refine lv_dup C.1 C.2.1 dX6_houseNow_64 rfl ?_
  refine lv_iconst (v := 2) C.1 C.2.1 dX6_houseNow_65 (by decide) ?_
  refine lv_aload_n C.1 C.2.1 dX6_houseNow_66 rfl (lv_at hl 5 rfl) ?_
  refine x_get (v := .ref h4) C w 0 10 1 (xin_X6 _) rfl rfl (by decide) (List.mem_cons_of_mem _ gw_79) rfl rfl dX6_houseNow_67 ?_
  refine x_ki C w [2] [0, 1, 3, 4, 5] rfl rfl (by decide) (by decide) (va_runV (As := []) (rest := [.int 2, .ref q4283, .ref q4283]) (xfix C) (c47_Jx4a65c_size_8abf5 l G cy sa sv h4 (xtr C) _) (cwV 0 (xhts C) (xgV (maxL := 0) (cc := ⟨#[]⟩) (ret := none) gw_195 gw_196 gw_197 gw_62 gc_Jx4a65c_size_8abf5) rfl rfl rfl (by decide +kernel) ⟨(Nat.le_of_ble_eq_true rfl), (Nat.le_of_ble_eq_true rfl)⟩) (xPV C w [2] rfl (by decide) (ci := 3) (q0 := 2) rfl rfl) rfl rfl hl.1 rfl (lv_room (Nat.le_of_ble_eq_true rfl)) dX6_houseNow_70 ⟨(Nat.le_of_ble_eq_true rfl), (Nat.le_of_ble_eq_true rfl)⟩) (fun f4286 H locs w => ?_)
  have w : xW G A s [(h0, .inr (10, [.ref h2, .ref h4, .ref h3, .ref h5, .ref h1, .ref h6, .ref h7, .int 0, .int 0])), (h1, .inl (cy 2, 3, .inl (fun _ => 0))), (q4283, .inl (cy 1, 5, .inl (upd (upd (fun _ => 0) 0 0) 1 0))), (h2, .inr (3, [.int 0, .ref (sv 0), .int 0])), (h3, .inr (3, [.int 0, .ref (sv 0), .int 0])), (h4, .inr (3, [.int 0, .ref (sv 0), .int 0]))] H _ := w
  refine x_iast (k := 2) C w 2 1 rfl rfl (xvin (by decide)) (by decide) dX6_houseNow_73 (fun H locs w => ?_)
  have w : xW G A s [(h0, .inr (10, [.ref h2, .ref h4, .ref h3, .ref h5, .ref h1, .ref h6, .ref h7, .int 0, .int 0])), (h1, .inl (cy 2, 3, .inl (fun _ => 0))), (q4283, .inl (cy 1, 5, .inl (upd (upd (upd (fun _ => 0) 0 0) 1 0) 2 0))), (h2, .inr (3, [.int 0, .ref (sv 0), .int 0])), (h3, .inr (3, [.int 0, .ref (sv 0), .int 0])), (h4, .inr (3, [.int 0, .ref (sv 0), .int 0]))] H _ := w
  refine lv_dup C.1 C.2.1 dX6_houseNow_74 rfl ?_
  refine lv_iconst (v := 3) C.1 C.2.1 dX6_houseNow_75 (by decide) ?_
  refine lv_iload_n C.1 C.2.1 dX6_houseNow_76 rfl (lv_at hl 1 rfl) ?_
  refine x_iast (k := 3) C w 2 1 rfl rfl (xvin (by decide)) (by decide) dX6_houseNow_77 (fun H locs w => ?_)
  have w : xW G A s [(h0, .inr (10, [.ref h2, .ref h4, .ref h3, .ref h5, .ref h1, .ref h6, .ref h7, .int 0, .int 0])), (h1, .inl (cy 2, 3, .inl (fun _ => 0))), (q4283, .inl (cy 1, 5, .inl (upd (upd (upd (upd (fun _ => 0) 0 0) 1 0) 2 0) 3 0))), (h2, .inr (3, [.int 0, .ref (sv 0), .int 0])), (h3, .inr (3, [.int 0, .ref (sv 0), .int 0])), (h4, .inr (3, [.int 0, .ref (sv 0), .int 0]))] H _ := w
  refine lv_dup C.1 C.2.1 dX6_houseNow_78 rfl ?_
  refine lv_iconst (v := 4) C.1 C.2.1 dX6_houseNow_79 (by decide) ?_
  refine lv_aload_n C.1 C.2.1 dX6_houseNow_80 rfl (lv_at hl 5 rfl) ?_
  refine x_get (v := .int 0) C w 0 10 7 (xin_X6 _) rfl rfl (by decide) (List.mem_cons_of_mem _ gw_1012) rfl rfl dX6_houseNow_81 ?_
  refine x_iast (k := 4) C w 2 1 rfl rfl (xvin (by decide)) (by decide) dX6_houseNow_84 (fun H locs w => ?_)
  have w : xW G A s [(h0, .inr (10, [.ref h2, .ref h4, .ref h3, .ref h5, .ref h1, .ref h6, .ref h7, .int 0, .int 0])), (h1, .inl (cy 2, 3, .inl (fun _ => 0))), (q4283, .inl (cy 1, 5, .inl (upd (upd (upd (upd (upd (fun _ => 0) 0 0) 1 0) 2 0) 3 0) 4 0))), (h2, .inr (3, [.int 0, .ref (sv 0), .int 0])), (h3, .inr (3, [.int 0, .ref (sv 0), .int 0])), (h4, .inr (3, [.int 0, .ref (sv 0), .int 0]))] H _ := w
  refine lv_astore_n (lv' := [(3, .ref q4283), (5, .int 3), (2, .int 0), (6, .int 0), (4, .int 3), (0, .ref h0), (1, .int 2)]) C.1 C.2.1 dX6_houseNow_85 rfl hl (by decide) rfl (fun ls hl => ?_)
  refine lv_aload_n C.1 C.2.1 dX6_houseNow_86 rfl (lv_at hl 0 rfl) ?_
  refine lv_iload_n C.1 C.2.1 dX6_houseNow_87 rfl (lv_at hl 6 rfl) ?_
  refine x_iald (v := 0) C w 2 1 rfl rfl (xvin (by decide)) (by rfl) dX6_houseNow_88 ?_
  have w := w.sub (ws' := [(h0, .inr (10, [.ref h2, .ref h4, .ref h3, .ref h5, .ref h1, .ref h6, .ref h7, .int 0, .int 0])), (h1, .inl (cy 2, 3, .inl (fun _ => 0))), (h2, .inr (3, [.int 0, .ref (sv 0), .int 0])), (h3, .inr (3, [.int 0, .ref (sv 0), .int 0])), (h4, .inr (3, [.int 0, .ref (sv 0), .int 0]))]) [0, 1, 3, 4, 5] (by decide) rfl rfl
  exact x_iret C w hr (fun _ => 0) rfl rfl dX6_houseNow_89 (Nat.le_of_ble_eq_true rfl) (Nat.le_of_ble_eq_true rfl)
set_option maxHeartbeats 4000000 in
set_option maxRecDepth 100000 in
theorem c611_X6_house (l : Launch) (G : va_G) (cy : Nat → ClassId) (sa : String → Nat → Nat) (sv : Nat → Nat) (h0 h1 h2 h3 h4 h5 h6 h7 : Nat) : xM l G cy sa sv yX6_house (Cond.code yX6_house cX6_house 2 (some .int) :: XG) { frames := 10, cells := 1, slots := 5, locals := 296 } [.ref h0, .int 2] [(h0, .inr (10, [.ref h2, .ref h4, .ref h3, .ref h5, .ref h1, .ref h6, .ref h7, .int 0, .int 0])), (h1, .inl (cy 2, 3, .inl (fun _ => 0))), (h2, .inr (3, [.int 0, .ref (sv 0), .int 0])), (h3, .inr (3, [.int 0, .ref (sv 0), .int 0])), (h4, .inr (3, [.int 0, .ref (sv 0), .int 0]))] (xQi G (fun f => [(h0, .inr (10, [.ref h2, .ref h4, .ref h3, .ref h5, .ref h1, .ref h6, .ref h7, .int 0, .int 0])), (h1, .inl (cy 2, 3, .inl (fun _ => 0))), (h2, .inr (3, [.int 0, .ref (sv 0), .int 0])), (h3, .inr (3, [.int 0, .ref (sv 0), .int 0])), (h4, .inr (3, [.int 0, .ref (sv 0), .int 0]))]) 0) := by
  refine xof (by decide) (Nat.le_of_ble_eq_true rfl) (fun p e s m below meth c A C w hr hn ls hl => ?_)
  have hl : lv_has ls 2 [(0, .ref h0), (1, .int 2)] := hl
  refine lv_aload_n C.1 C.2.1 dX6_house_0 rfl (lv_at hl 0 rfl) ?_
  refine lv_iload_n C.1 C.2.1 dX6_house_1 rfl (lv_at hl 1 rfl) ?_
  refine lv_if_lt (tgt := 10) C.1 C.2.1 dX6_house_2 (by decide) (fun c9 => absurd c9 (by decide)) (fun _ => ?_)
  refine lv_iload_n C.1 C.2.1 dX6_house_5 rfl (lv_at hl 1 rfl) ?_
  refine lv_iconst (v := 4) C.1 C.2.1 dX6_house_6 (by decide) ?_
  refine lv_icmp_le (tgt := 14) C.1 C.2.1 dX6_house_7 (by decide) (fun _ => ?_) (fun c9 => absurd (by decide) c9)
  refine lv_iconst (v := 0) C.1 C.2.1 dX6_house_14 (by decide) ?_
  refine lv_iconst (v := 1) C.1 C.2.1 dX6_house_15 (by decide) ?_
  refine x_ki C w [0] [1, 2, 3, 4] rfl rfl (by decide) (by decide) (va_runV (As := [.int 0, .int 1]) (rest := []) (xfix C) (c46_X6_start l G cy sa sv h0 h2 h4 h3 h5 h1 h6 h7 (xtr C) _) (cwV 2 (xhts C) (xgV (maxL := 0) (cc := ⟨#[]⟩) (ret := none) gw_114 gw_115 gw_116 gw_58 gc_X6_start) rfl rfl rfl (by decide +kernel) ⟨(Nat.le_of_ble_eq_true rfl), (Nat.le_of_ble_eq_true rfl)⟩) (xPV C w [0] rfl (by decide) (ci := 10) (q0 := 0) rfl rfl) rfl rfl hl.1 rfl (lv_room (Nat.le_of_ble_eq_true rfl)) dX6_house_16 ⟨(Nat.le_of_ble_eq_true rfl), (Nat.le_of_ble_eq_true rfl)⟩) (fun f4277 H locs w => ?_)
  have w : xW G A s [(h1, .inl (cy 2, 3, .inl (fun _ => 0))), (h2, .inr (3, [.int 0, .ref (sv 0), .int 0])), (h3, .inr (3, [.int 0, .ref (sv 0), .int 0])), (h4, .inr (3, [.int 0, .ref (sv 0), .int 0])), (h0, .inr (10, [.ref h2, .ref h4, .ref h3, .ref h5, .ref h1, .ref h6, .ref h7, .int 0, .int 0]))] H _ := w
  refine lv_if_eq (tgt := 26) C.1 C.2.1 dX6_house_19 (by decide) (fun _ => ?_) (fun c9 => absurd (by decide) c9)
  refine lv_aload_n C.1 C.2.1 dX6_house_26 rfl (lv_at hl 0 rfl) ?_
  refine lv_iload_n C.1 C.2.1 dX6_house_27 rfl (lv_at hl 1 rfl) ?_
  refine x_ki C w [4, 0, 1, 2, 3] [] rfl rfl (by decide) (by decide) (va_runV (As := [.int 2]) (rest := []) (xfix C) (c610_X6_houseNow l G cy sa sv h0 h1 h2 h3 h4 h5 h6 h7 (xtr C) _) (cwV 1 (xhts C) (xgV (maxL := 0) (cc := ⟨#[]⟩) (ret := none) gw_1014 gw_1015 gw_1016 gw_58 gc_X6_houseNow) rfl rfl rfl (by decide +kernel) ⟨(Nat.le_of_ble_eq_true rfl), (Nat.le_of_ble_eq_true rfl)⟩) (xPV C w [4, 0, 1, 2, 3] rfl (by decide) (ci := 10) (q0 := 4) rfl rfl) rfl rfl hl.1 rfl (lv_room (Nat.le_of_ble_eq_true rfl)) dX6_house_28 ⟨(Nat.le_of_ble_eq_true rfl), (Nat.le_of_ble_eq_true rfl)⟩) (fun f4287 H locs w => ?_)
  have w : xW G A s [(h0, .inr (10, [.ref h2, .ref h4, .ref h3, .ref h5, .ref h1, .ref h6, .ref h7, .int 0, .int 0])), (h1, .inl (cy 2, 3, .inl (fun _ => 0))), (h2, .inr (3, [.int 0, .ref (sv 0), .int 0])), (h3, .inr (3, [.int 0, .ref (sv 0), .int 0])), (h4, .inr (3, [.int 0, .ref (sv 0), .int 0]))] H _ := w
  refine W.widen (k := 1) (n := 5) (Nat.le_of_ble_eq_true rfl) (Nat.le_of_ble_eq_true rfl) ?_
  exact x_iret C w hr (fun _ => 0) rfl rfl dX6_house_31 (Nat.le_of_ble_eq_true rfl) (Nat.le_of_ble_eq_true rfl)
set_option maxHeartbeats 4000000 in
set_option maxRecDepth 100000 in
theorem c612_X4_markedPagers (l : Launch) (G : va_G) (cy : Nat → ClassId) (sa : String → Nat → Nat) (sv : Nat → Nat) (h0 h1 h2 h3 h4 h5 h6 h7 h8 h9 h10 : Nat) : xM l G cy sa sv yX4_markedPagers (Cond.code yX4_markedPagers cX4_markedPagers 6 (some .int) :: XG) { frames := 8, cells := 0, slots := 0, locals := 250 } [.ref h0] [(h0, .inr (8, [.ref h5, .ref h6, .ref h7, .ref h8, .ref h1, .int 0, .ref h9, .ref h10])), (h1, .inl (cy 3, 3, .inr (.inr (.inr (.inr (va_up (va_up (va_up (fun _ => none) 0 (some h2)) 1 (some h3)) 2 (some h4))))))), (h2, .inr (4, [.int 0, .int 0, .int 0])), (h3, .inr (4, [.int 0, .int 0, .int 0])), (h4, .inr (4, [.int 0, .int 0, .int 0]))] (xQi G (fun f => [(h0, .inr (8, [.ref h5, .ref h6, .ref h7, .ref h8, .ref h1, .int 0, .ref h9, .ref h10])), (h1, .inl (cy 3, 3, .inr (.inr (.inr (.inr (va_up (va_up (va_up (fun _ => none) 0 (some h2)) 1 (some h3)) 2 (some h4))))))), (h2, .inr (4, [.int 0, .int 0, .int 0])), (h3, .inr (4, [.int 0, .int 0, .int 0])), (h4, .inr (4, [.int 0, .int 0, .int 0]))]) 0) := by
  refine xof (by decide) (Nat.le_of_ble_eq_true rfl) (fun p e s m below meth c A C w hr hn ls hl => ?_)
  have hl : lv_has ls 6 [(0, .ref h0)] := hl
  refine lv_iconst (v := 0) C.1 C.2.1 dX4_markedPagers_0 (by decide) ?_
  refine lv_istore_n (lv' := [(1, .int 0), (0, .ref h0)]) C.1 C.2.1 dX4_markedPagers_1 rfl hl (by decide) rfl (fun ls hl => ?_)
  refine lv_aload_n C.1 C.2.1 dX4_markedPagers_2 rfl (lv_at hl 1 rfl) ?_
  refine x_get (v := .ref h1) C w 0 8 4 (xin_X4 _) rfl rfl (by decide) (List.mem_cons_of_mem _ gw_44) rfl rfl dX4_markedPagers_3 ?_
  refine lv_astore_n (lv' := [(2, .ref h1), (1, .int 0), (0, .ref h0)]) C.1 C.2.1 dX4_markedPagers_6 rfl hl (by decide) rfl (fun ls hl => ?_)
  refine lv_aload_n C.1 C.2.1 dX4_markedPagers_7 rfl (lv_at hl 0 rfl) ?_
  refine x_alen (v := 3) C w 1 3 rfl rfl (by rfl) dX4_markedPagers_8 ?_
  refine lv_istore_n (lv' := [(3, .int 3), (2, .ref h1), (1, .int 0), (0, .ref h0)]) C.1 C.2.1 dX4_markedPagers_9 rfl hl (by decide) rfl (fun ls hl => ?_)
  refine lv_iconst (v := 0) C.1 C.2.1 dX4_markedPagers_10 (by decide) ?_
  refine lv_istore (lv' := [(4, .int 0), (3, .int 3), (2, .ref h1), (1, .int 0), (0, .ref h0)]) C.1 C.2.1 dX4_markedPagers_11 hl (by decide) rfl (fun ls hl => ?_)
  refine lv_iload C.1 C.2.1 dX4_markedPagers_13 (lv_at hl 0 rfl) ?_
  refine lv_iload_n C.1 C.2.1 dX4_markedPagers_15 rfl (lv_at hl 1 rfl) ?_
  refine lv_icmp_ge (tgt := 47) C.1 C.2.1 dX4_markedPagers_16 (by decide) (fun c9 => absurd c9 (by decide)) (fun _ => ?_)
  refine lv_aload_n C.1 C.2.1 dX4_markedPagers_19 rfl (lv_at hl 2 rfl) ?_
  refine lv_iload C.1 C.2.1 dX4_markedPagers_20 (lv_at hl 0 rfl) ?_
  refine x_aldq (b := h2) C w 1 3 rfl rfl (xvin (by decide)) rfl dX4_markedPagers_22 ?_
  refine lv_astore (lv' := [(5, .ref h2), (4, .int 0), (3, .int 3), (2, .ref h1), (1, .int 0), (0, .ref h0)]) C.1 C.2.1 dX4_markedPagers_23 hl (by decide) rfl (fun ls hl => ?_)
  refine lv_iload_n C.1 C.2.1 dX4_markedPagers_25 rfl (lv_at hl 4 rfl) ?_
  refine lv_aload C.1 C.2.1 dX4_markedPagers_26 (lv_at hl 0 rfl) ?_
  refine x_getN (v := .int 0) C w 2 4 0 (xin_X0 _) rfl rfl (by decide) (xs_f_isMarked (xS C)) rfl rfl dX4_markedPagers_28 ?_
  refine lv_if_eq (tgt := 38) C.1 C.2.1 dX4_markedPagers_31 (by decide) (fun _ => ?_) (fun c9 => absurd (by decide) c9)
  refine lv_iconst (v := 0) C.1 C.2.1 dX4_markedPagers_38 (by decide) ?_
  refine lv_iadd C.1 C.2.1 dX4_markedPagers_39 ?_
  refine x_is (y := 0) (by decide) ?_
  refine lv_istore_n (lv' := [(1, .int 0), (5, .ref h2), (4, .int 0), (3, .int 3), (2, .ref h1), (0, .ref h0)]) C.1 C.2.1 dX4_markedPagers_40 rfl hl (by decide) rfl (fun ls hl => ?_)
  refine lv_iinc (v := 1) (lv' := [(4, .int 1), (1, .int 0), (5, .ref h2), (3, .int 3), (2, .ref h1), (0, .ref h0)]) C.1 C.2.1 dX4_markedPagers_41 hl (k := 2) rfl (by decide) (by decide) rfl (fun ls hl => ?_)
  refine lv_goto (tgt := 13) C.1 C.2.1 dX4_markedPagers_44 (by decide) ?_
  refine lv_iload C.1 C.2.1 dX4_markedPagers_13 (lv_at hl 0 rfl) ?_
  refine lv_iload_n C.1 C.2.1 dX4_markedPagers_15 rfl (lv_at hl 3 rfl) ?_
  refine lv_icmp_ge (tgt := 47) C.1 C.2.1 dX4_markedPagers_16 (by decide) (fun c9 => absurd c9 (by decide)) (fun _ => ?_)
  refine lv_aload_n C.1 C.2.1 dX4_markedPagers_19 rfl (lv_at hl 4 rfl) ?_
  refine lv_iload C.1 C.2.1 dX4_markedPagers_20 (lv_at hl 0 rfl) ?_
  refine x_aldq (b := h3) C w 1 3 rfl rfl (xvin (by decide)) rfl dX4_markedPagers_22 ?_
  refine lv_astore (lv' := [(5, .ref h3), (4, .int 1), (1, .int 0), (3, .int 3), (2, .ref h1), (0, .ref h0)]) C.1 C.2.1 dX4_markedPagers_23 hl (by decide) rfl (fun ls hl => ?_)
  refine lv_iload_n C.1 C.2.1 dX4_markedPagers_25 rfl (lv_at hl 2 rfl) ?_
  refine lv_aload C.1 C.2.1 dX4_markedPagers_26 (lv_at hl 0 rfl) ?_
  refine x_getN (v := .int 0) C w 3 4 0 (xin_X0 _) rfl rfl (by decide) (xs_f_isMarked (xS C)) rfl rfl dX4_markedPagers_28 ?_
  refine lv_if_eq (tgt := 38) C.1 C.2.1 dX4_markedPagers_31 (by decide) (fun _ => ?_) (fun c9 => absurd (by decide) c9)
  refine lv_iconst (v := 0) C.1 C.2.1 dX4_markedPagers_38 (by decide) ?_
  refine lv_iadd C.1 C.2.1 dX4_markedPagers_39 ?_
  refine x_is (y := 0) (by decide) ?_
  refine lv_istore_n (lv' := [(1, .int 0), (5, .ref h3), (4, .int 1), (3, .int 3), (2, .ref h1), (0, .ref h0)]) C.1 C.2.1 dX4_markedPagers_40 rfl hl (by decide) rfl (fun ls hl => ?_)
  refine lv_iinc (v := 2) (lv' := [(4, .int 2), (1, .int 0), (5, .ref h3), (3, .int 3), (2, .ref h1), (0, .ref h0)]) C.1 C.2.1 dX4_markedPagers_41 hl (k := 2) rfl (by decide) (by decide) rfl (fun ls hl => ?_)
  refine lv_goto (tgt := 13) C.1 C.2.1 dX4_markedPagers_44 (by decide) ?_
  refine lv_iload C.1 C.2.1 dX4_markedPagers_13 (lv_at hl 0 rfl) ?_
  refine lv_iload_n C.1 C.2.1 dX4_markedPagers_15 rfl (lv_at hl 3 rfl) ?_
  refine lv_icmp_ge (tgt := 47) C.1 C.2.1 dX4_markedPagers_16 (by decide) (fun c9 => absurd c9 (by decide)) (fun _ => ?_)
  refine lv_aload_n C.1 C.2.1 dX4_markedPagers_19 rfl (lv_at hl 4 rfl) ?_
  refine lv_iload C.1 C.2.1 dX4_markedPagers_20 (lv_at hl 0 rfl) ?_
  refine x_aldq (b := h4) C w 1 3 rfl rfl (xvin (by decide)) rfl dX4_markedPagers_22 ?_
  refine lv_astore (lv' := [(5, .ref h4), (4, .int 2), (1, .int 0), (3, .int 3), (2, .ref h1), (0, .ref h0)]) C.1 C.2.1 dX4_markedPagers_23 hl (by decide) rfl (fun ls hl => ?_)
  refine lv_iload_n C.1 C.2.1 dX4_markedPagers_25 rfl (lv_at hl 2 rfl) ?_
  refine lv_aload C.1 C.2.1 dX4_markedPagers_26 (lv_at hl 0 rfl) ?_
  refine x_getN (v := .int 0) C w 4 4 0 (xin_X0 _) rfl rfl (by decide) (xs_f_isMarked (xS C)) rfl rfl dX4_markedPagers_28 ?_
  refine lv_if_eq (tgt := 38) C.1 C.2.1 dX4_markedPagers_31 (by decide) (fun _ => ?_) (fun c9 => absurd (by decide) c9)
  refine lv_iconst (v := 0) C.1 C.2.1 dX4_markedPagers_38 (by decide) ?_
  refine lv_iadd C.1 C.2.1 dX4_markedPagers_39 ?_
  refine x_is (y := 0) (by decide) ?_
  refine lv_istore_n (lv' := [(1, .int 0), (5, .ref h4), (4, .int 2), (3, .int 3), (2, .ref h1), (0, .ref h0)]) C.1 C.2.1 dX4_markedPagers_40 rfl hl (by decide) rfl (fun ls hl => ?_)
  refine lv_iinc (v := 3) (lv' := [(4, .int 3), (1, .int 0), (5, .ref h4), (3, .int 3), (2, .ref h1), (0, .ref h0)]) C.1 C.2.1 dX4_markedPagers_41 hl (k := 2) rfl (by decide) (by decide) rfl (fun ls hl => ?_)
  refine lv_goto (tgt := 13) C.1 C.2.1 dX4_markedPagers_44 (by decide) ?_
  refine lv_iload C.1 C.2.1 dX4_markedPagers_13 (lv_at hl 0 rfl) ?_
  refine lv_iload_n C.1 C.2.1 dX4_markedPagers_15 rfl (lv_at hl 3 rfl) ?_
  refine lv_icmp_ge (tgt := 47) C.1 C.2.1 dX4_markedPagers_16 (by decide) (fun _ => ?_) (fun c9 => absurd (by decide) c9)
  refine lv_iload_n C.1 C.2.1 dX4_markedPagers_47 rfl (lv_at hl 1 rfl) ?_
  exact x_iret C w hr (fun _ => 0) rfl rfl dX4_markedPagers_48 (Nat.le_of_ble_eq_true rfl) (Nat.le_of_ble_eq_true rfl)
set_option maxHeartbeats 4000000 in
set_option maxRecDepth 100000 in
theorem c613_X4_house (l : Launch) (G : va_G) (cy : Nat → ClassId) (sa : String → Nat → Nat) (sv : Nat → Nat) (h0 h1 h2 h3 h4 h5 h6 h7 h8 h9 h10 : Nat) : xM l G cy sa sv yX4_house (Cond.code yX4_house cX4_house 2 (some .int) :: XG) { frames := 9, cells := 0, slots := 0, locals := 275 } [.ref h0, .int 3] [(h0, .inr (8, [.ref h5, .ref h6, .ref h7, .ref h8, .ref h1, .int 0, .ref h9, .ref h10])), (h1, .inl (cy 3, 3, .inr (.inr (.inr (.inr (va_up (va_up (va_up (fun _ => none) 0 (some h2)) 1 (some h3)) 2 (some h4))))))), (h2, .inr (4, [.int 0, .int 0, .int 0])), (h3, .inr (4, [.int 0, .int 0, .int 0])), (h4, .inr (4, [.int 0, .int 0, .int 0]))] (xQi G (fun f => [(h0, .inr (8, [.ref h5, .ref h6, .ref h7, .ref h8, .ref h1, .int 0, .ref h9, .ref h10])), (h1, .inl (cy 3, 3, .inr (.inr (.inr (.inr (va_up (va_up (va_up (fun _ => none) 0 (some h2)) 1 (some h3)) 2 (some h4))))))), (h2, .inr (4, [.int 0, .int 0, .int 0])), (h3, .inr (4, [.int 0, .int 0, .int 0])), (h4, .inr (4, [.int 0, .int 0, .int 0]))]) 0) := by
  refine xof (by decide) (Nat.le_of_ble_eq_true rfl) (fun p e s m below meth c A C w hr hn ls hl => ?_)
  have hl : lv_has ls 2 [(0, .ref h0), (1, .int 3)] := hl
  refine lv_iload_n C.1 C.2.1 dX4_house_0 rfl (lv_at hl 1 rfl) ?_
  refine lv_tableIn (off := 59) (tgt := 60) C.1 C.2.1 dX4_house_1 (by decide) (by decide) (by decide) (by decide) ?_
  refine lv_aload_n C.1 C.2.1 dX4_house_60 rfl (lv_at hl 0 rfl) ?_
  refine x_ki C w [0, 1, 2, 3, 4] [] rfl rfl (by decide) (by decide) (va_runV (As := []) (rest := []) (xfix C) (c612_X4_markedPagers l G cy sa sv h0 h1 h2 h3 h4 h5 h6 h7 h8 h9 h10 (xtr C) _) (cwV 0 (xhts C) (xgV (maxL := 0) (cc := ⟨#[]⟩) (ret := none) gw_1022 gw_1023 gw_1024 gw_2 gc_X4_markedPagers) rfl rfl rfl (by decide +kernel) ⟨(Nat.le_of_ble_eq_true rfl), (Nat.le_of_ble_eq_true rfl)⟩) (xPV C w [0, 1, 2, 3, 4] rfl (by decide) (ci := 8) (q0 := 0) rfl rfl) rfl rfl hl.1 rfl (lv_room (Nat.le_of_ble_eq_true rfl)) dX4_house_61 ⟨(Nat.le_of_ble_eq_true rfl), (Nat.le_of_ble_eq_true rfl)⟩) (fun f4291 H locs w => ?_)
  have w : xW G A s [(h0, .inr (8, [.ref h5, .ref h6, .ref h7, .ref h8, .ref h1, .int 0, .ref h9, .ref h10])), (h1, .inl (cy 3, 3, .inr (.inr (.inr (.inr (va_up (va_up (va_up (fun _ => none) 0 (some h2)) 1 (some h3)) 2 (some h4))))))), (h2, .inr (4, [.int 0, .int 0, .int 0])), (h3, .inr (4, [.int 0, .int 0, .int 0])), (h4, .inr (4, [.int 0, .int 0, .int 0]))] H _ := w
  exact x_iret C w hr (fun _ => 0) rfl rfl dX4_house_64 (Nat.le_of_ble_eq_true rfl) (Nat.le_of_ble_eq_true rfl)
set_option maxHeartbeats 4000000 in
set_option maxRecDepth 100000 in
theorem c614_L_house (l : Launch) (G : va_G) (cy : Nat → ClassId) (sa : String → Nat → Nat) (sv : Nat → Nat) (h0 h1 h2 h3 h4 h5 h6 h7 h8 h9 h10 h11 : Nat) : xM l G cy sa sv yL_house (Cond.codeWith yL_house cL_house 4 (some .int) [(0, 10, 13, 19)] :: XG) { frames := 10, cells := 0, slots := 0, locals := 296 } [.ref h0, .int 3, .ref h1] [(h0, .inr (8, [.ref h6, .ref h7, .ref h8, .ref h9, .ref h2, .int 0, .ref h10, .ref h11])), (h2, .inl (cy 3, 3, .inr (.inr (.inr (.inr (va_up (va_up (va_up (fun _ => none) 0 (some h3)) 1 (some h4)) 2 (some h5))))))), (h3, .inr (4, [.int 0, .int 0, .int 0])), (h4, .inr (4, [.int 0, .int 0, .int 0])), (h5, .inr (4, [.int 0, .int 0, .int 0])), (h1, .inr (9, [.long 0, .null]))] (xQi G (fun f => [(h0, .inr (8, [.ref h6, .ref h7, .ref h8, .ref h9, .ref h2, .int 0, .ref h10, .ref h11])), (h2, .inl (cy 3, 3, .inr (.inr (.inr (.inr (va_up (va_up (va_up (fun _ => none) 0 (some h3)) 1 (some h4)) 2 (some h5))))))), (h3, .inr (4, [.int 0, .int 0, .int 0])), (h4, .inr (4, [.int 0, .int 0, .int 0])), (h5, .inr (4, [.int 0, .int 0, .int 0])), (h1, .inr (9, [.long 0, .null]))]) 0) := by
  refine xofH (by decide) (Nat.le_of_ble_eq_true rfl) (fun p e s m below meth c A C w hr hn hT ls hl => ?_)
  have hl : lv_has ls 4 [(0, .ref h0), (1, .int 3), (2, .ref h1)] := hl
  refine lv_aload_n C.1 C.2.1 dL_house_0 rfl (lv_at hl 2 rfl) ?_
  refine lv_aload_n C.1 C.2.1 dL_house_1 rfl (lv_at hl 0 rfl) ?_
  refine lv_iload_n C.1 C.2.1 dL_house_2 rfl (lv_at hl 1 rfl) ?_
  refine x_ki C w [0, 1, 2, 3, 4] [5] rfl rfl (by decide) (by decide) (va_runV (As := [.int 3]) (rest := [.ref h1]) (xfix C) (c613_X4_house l G cy sa sv h0 h2 h3 h4 h5 h6 h7 h8 h9 h10 h11 (xtr C) _) (cwV 1 (xhts C) (xgV (maxL := 0) (cc := ⟨#[]⟩) (ret := none) gw_1006 gw_1007 gw_1008 gw_2 gc_X4_house) rfl rfl rfl (by decide +kernel) ⟨(Nat.le_of_ble_eq_true rfl), (Nat.le_of_ble_eq_true rfl)⟩) (xPV C w [0, 1, 2, 3, 4] rfl (by decide) (ci := 8) (q0 := 0) rfl rfl) rfl rfl hl.1 rfl (lv_room (Nat.le_of_ble_eq_true rfl)) dL_house_3 ⟨(Nat.le_of_ble_eq_true rfl), (Nat.le_of_ble_eq_true rfl)⟩) (fun f4292 H locs w => ?_)
  have w : xW G A s [(h1, .inr (9, [.long 0, .null])), (h0, .inr (8, [.ref h6, .ref h7, .ref h8, .ref h9, .ref h2, .int 0, .ref h10, .ref h11])), (h2, .inl (cy 3, 3, .inr (.inr (.inr (.inr (va_up (va_up (va_up (fun _ => none) 0 (some h3)) 1 (some h4)) 2 (some h5))))))), (h3, .inr (4, [.int 0, .int 0, .int 0])), (h4, .inr (4, [.int 0, .int 0, .int 0])), (h5, .inr (4, [.int 0, .int 0, .int 0]))] H _ := w
  refine lv_i2l (v := 0) C.1 C.2.1 dL_house_6 (by decide) ?_
  refine x_putN (ty := .long) (ty0 := tyX5) C w 0 9 0 (xin_X5 _) tyX5_ok nmX5 rfl rfl (by decide) (xs_f_n (xS C)) rfl rfl (by decide +kernel) rfl rfl (Nat.le_of_ble_eq_true rfl) dL_house_7 (fun H locs w => ?_)
  have w : xW G A s [(h1, .inr (9, [.long 0, .null])), (h0, .inr (8, [.ref h6, .ref h7, .ref h8, .ref h9, .ref h2, .int 0, .ref h10, .ref h11])), (h2, .inl (cy 3, 3, .inr (.inr (.inr (.inr (va_up (va_up (va_up (fun _ => none) 0 (some h3)) 1 (some h4)) 2 (some h5))))))), (h3, .inr (4, [.int 0, .int 0, .int 0])), (h4, .inr (4, [.int 0, .int 0, .int 0])), (h5, .inr (4, [.int 0, .int 0, .int 0]))] H _ := w
  refine lv_goto (tgt := 16) C.1 C.2.1 dL_house_10 (by decide) ?_
  refine lv_iconst (v := 0) C.1 C.2.1 dL_house_16 (by decide) ?_
  have w := w.sub (ws' := [(h0, .inr (8, [.ref h6, .ref h7, .ref h8, .ref h9, .ref h2, .int 0, .ref h10, .ref h11])), (h2, .inl (cy 3, 3, .inr (.inr (.inr (.inr (va_up (va_up (va_up (fun _ => none) 0 (some h3)) 1 (some h4)) 2 (some h5))))))), (h3, .inr (4, [.int 0, .int 0, .int 0])), (h4, .inr (4, [.int 0, .int 0, .int 0])), (h5, .inr (4, [.int 0, .int 0, .int 0])), (h1, .inr (9, [.long 0, .null]))]) [1, 2, 3, 4, 5, 0] (by decide) rfl rfl
  exact x_iret C w hr (fun _ => 0) rfl rfl dL_house_17 (Nat.le_of_ble_eq_true rfl) (Nat.le_of_ble_eq_true rfl)
set_option maxHeartbeats 4000000 in
set_option maxRecDepth 100000 in
theorem c615_X6_houseNow (l : Launch) (G : va_G) (cy : Nat → ClassId) (sa : String → Nat → Nat) (sv : Nat → Nat) (h0 h1 h2 h3 h4 h5 h6 h7 : Nat) : xM l G cy sa sv yX6_houseNow (Cond.code yX6_houseNow cX6_houseNow 7 (some .int) :: XG) { frames := 9, cells := 1, slots := 5, locals := 270 } [.ref h0, .int 3] [(h0, .inr (10, [.ref h2, .ref h4, .ref h3, .ref h5, .ref h1, .ref h6, .ref h7, .int 0, .int 0])), (h1, .inl (cy 2, 3, .inl (fun _ => 0))), (h2, .inr (3, [.int 0, .ref (sv 0), .int 0])), (h3, .inr (3, [.int 0, .ref (sv 0), .int 0])), (h4, .inr (3, [.int 0, .ref (sv 0), .int 0]))] (xQi G (fun f => [(h0, .inr (10, [.ref h2, .ref h4, .ref h3, .ref h5, .ref h1, .ref h6, .ref h7, .int 0, .int 0])), (h1, .inl (cy 2, 3, .inl (fun _ => 0))), (h2, .inr (3, [.int 0, .ref (sv 0), .int 0])), (h3, .inr (3, [.int 0, .ref (sv 0), .int 0])), (h4, .inr (3, [.int 0, .ref (sv 0), .int 0]))]) 0) := by
  refine xof (by decide) (Nat.le_of_ble_eq_true rfl) (fun p e s m below meth c A C w hr hn ls hl => ?_)
  have hl : lv_has ls 7 [(0, .ref h0), (1, .int 3)] := hl
  refine lv_iconst (v := 0) C.1 C.2.1 dX6_houseNow_0 (by decide) ?_
  refine lv_istore_n (lv' := [(2, .int 0), (0, .ref h0), (1, .int 3)]) C.1 C.2.1 dX6_houseNow_1 rfl hl (by decide) rfl (fun ls hl => ?_)
  refine lv_aload_n C.1 C.2.1 dX6_houseNow_2 rfl (lv_at hl 1 rfl) ?_
  refine x_get (v := .ref h1) C w 0 10 4 (xin_X6 _) rfl rfl (by decide) (List.mem_cons_of_mem _ gw_83) rfl rfl dX6_houseNow_3 ?_
  refine lv_astore_n (lv' := [(3, .ref h1), (2, .int 0), (0, .ref h0), (1, .int 3)]) C.1 C.2.1 dX6_houseNow_6 rfl hl (by decide) rfl (fun ls hl => ?_)
  refine lv_aload_n C.1 C.2.1 dX6_houseNow_7 rfl (lv_at hl 0 rfl) ?_
  refine x_alen (v := 3) C w 1 2 rfl rfl (by rfl) dX6_houseNow_8 ?_
  refine lv_istore (lv' := [(4, .int 3), (3, .ref h1), (2, .int 0), (0, .ref h0), (1, .int 3)]) C.1 C.2.1 dX6_houseNow_9 hl (by decide) rfl (fun ls hl => ?_)
  refine lv_iconst (v := 0) C.1 C.2.1 dX6_houseNow_11 (by decide) ?_
  refine lv_istore (lv' := [(5, .int 0), (4, .int 3), (3, .ref h1), (2, .int 0), (0, .ref h0), (1, .int 3)]) C.1 C.2.1 dX6_houseNow_12 hl (by decide) rfl (fun ls hl => ?_)
  refine lv_iload C.1 C.2.1 dX6_houseNow_14 (lv_at hl 0 rfl) ?_
  refine lv_iload C.1 C.2.1 dX6_houseNow_16 (lv_at hl 1 rfl) ?_
  refine lv_icmp_ge (tgt := 41) C.1 C.2.1 dX6_houseNow_18 (by decide) (fun c9 => absurd c9 (by decide)) (fun _ => ?_)
  refine lv_aload_n C.1 C.2.1 dX6_houseNow_21 rfl (lv_at hl 2 rfl) ?_
  refine lv_iload C.1 C.2.1 dX6_houseNow_22 (lv_at hl 0 rfl) ?_
  refine x_zald (v := 0) C w 1 2 rfl rfl (xvin (by decide)) (by rfl) dX6_houseNow_24 ?_
  refine lv_istore (lv' := [(6, .int 0), (5, .int 0), (4, .int 3), (3, .ref h1), (2, .int 0), (0, .ref h0), (1, .int 3)]) C.1 C.2.1 dX6_houseNow_25 hl (by decide) rfl (fun ls hl => ?_)
  refine lv_iload_n C.1 C.2.1 dX6_houseNow_27 rfl (lv_at hl 4 rfl) ?_
  refine lv_iload C.1 C.2.1 dX6_houseNow_28 (lv_at hl 0 rfl) ?_
  refine x_ki C w [] [0, 1, 2, 3, 4] rfl rfl (by decide) (by decide) (va_runS (As := [.int 0]) (rest := [.int 0]) (xfix C) (c521_X6_one l G cy sa sv (xtr C) _) (va_cwS 1 (xhts C) (xgS gw_912 gw_913 gw_58 gc_X6_one) rfl rfl rfl (by decide +kernel) ⟨(Nat.le_of_ble_eq_true rfl), (Nat.le_of_ble_eq_true rfl)⟩) (xPS C w [] rfl (by decide)) rfl rfl hl.1 rfl (lv_room (Nat.le_of_ble_eq_true rfl)) dX6_houseNow_30 ⟨(Nat.le_of_ble_eq_true rfl), (Nat.le_of_ble_eq_true rfl)⟩) (fun f4299 H locs w => ?_)
  have w : xW G A s [(h0, .inr (10, [.ref h2, .ref h4, .ref h3, .ref h5, .ref h1, .ref h6, .ref h7, .int 0, .int 0])), (h1, .inl (cy 2, 3, .inl (fun _ => 0))), (h2, .inr (3, [.int 0, .ref (sv 0), .int 0])), (h3, .inr (3, [.int 0, .ref (sv 0), .int 0])), (h4, .inr (3, [.int 0, .ref (sv 0), .int 0]))] H _ := w
  refine lv_iadd C.1 C.2.1 dX6_houseNow_33 ?_
  refine x_is (y := 0) (by decide) ?_
  refine lv_istore_n (lv' := [(2, .int 0), (6, .int 0), (5, .int 0), (4, .int 3), (3, .ref h1), (0, .ref h0), (1, .int 3)]) C.1 C.2.1 dX6_houseNow_34 rfl hl (by decide) rfl (fun ls hl => ?_)
  refine lv_iinc (v := 1) (lv' := [(5, .int 1), (2, .int 0), (6, .int 0), (4, .int 3), (3, .ref h1), (0, .ref h0), (1, .int 3)]) C.1 C.2.1 dX6_houseNow_35 hl (k := 2) rfl (by decide) (by decide) rfl (fun ls hl => ?_)
  refine lv_goto (tgt := 14) C.1 C.2.1 dX6_houseNow_38 (by decide) ?_
  refine lv_iload C.1 C.2.1 dX6_houseNow_14 (lv_at hl 0 rfl) ?_
  refine lv_iload C.1 C.2.1 dX6_houseNow_16 (lv_at hl 3 rfl) ?_
  refine lv_icmp_ge (tgt := 41) C.1 C.2.1 dX6_houseNow_18 (by decide) (fun c9 => absurd c9 (by decide)) (fun _ => ?_)
  refine lv_aload_n C.1 C.2.1 dX6_houseNow_21 rfl (lv_at hl 4 rfl) ?_
  refine lv_iload C.1 C.2.1 dX6_houseNow_22 (lv_at hl 0 rfl) ?_
  refine x_zald (v := 0) C w 1 2 rfl rfl (xvin (by decide)) (by rfl) dX6_houseNow_24 ?_
  refine lv_istore (lv' := [(6, .int 0), (5, .int 1), (2, .int 0), (4, .int 3), (3, .ref h1), (0, .ref h0), (1, .int 3)]) C.1 C.2.1 dX6_houseNow_25 hl (by decide) rfl (fun ls hl => ?_)
  refine lv_iload_n C.1 C.2.1 dX6_houseNow_27 rfl (lv_at hl 2 rfl) ?_
  refine lv_iload C.1 C.2.1 dX6_houseNow_28 (lv_at hl 0 rfl) ?_
  refine x_ki C w [] [0, 1, 2, 3, 4] rfl rfl (by decide) (by decide) (va_runS (As := [.int 0]) (rest := [.int 0]) (xfix C) (c521_X6_one l G cy sa sv (xtr C) _) (va_cwS 1 (xhts C) (xgS gw_912 gw_913 gw_58 gc_X6_one) rfl rfl rfl (by decide +kernel) ⟨(Nat.le_of_ble_eq_true rfl), (Nat.le_of_ble_eq_true rfl)⟩) (xPS C w [] rfl (by decide)) rfl rfl hl.1 rfl (lv_room (Nat.le_of_ble_eq_true rfl)) dX6_houseNow_30 ⟨(Nat.le_of_ble_eq_true rfl), (Nat.le_of_ble_eq_true rfl)⟩) (fun f4300 H locs w => ?_)
  have w : xW G A s [(h0, .inr (10, [.ref h2, .ref h4, .ref h3, .ref h5, .ref h1, .ref h6, .ref h7, .int 0, .int 0])), (h1, .inl (cy 2, 3, .inl (fun _ => 0))), (h2, .inr (3, [.int 0, .ref (sv 0), .int 0])), (h3, .inr (3, [.int 0, .ref (sv 0), .int 0])), (h4, .inr (3, [.int 0, .ref (sv 0), .int 0]))] H _ := w
  refine lv_iadd C.1 C.2.1 dX6_houseNow_33 ?_
  refine x_is (y := 0) (by decide) ?_
  refine lv_istore_n (lv' := [(2, .int 0), (6, .int 0), (5, .int 1), (4, .int 3), (3, .ref h1), (0, .ref h0), (1, .int 3)]) C.1 C.2.1 dX6_houseNow_34 rfl hl (by decide) rfl (fun ls hl => ?_)
  refine lv_iinc (v := 2) (lv' := [(5, .int 2), (2, .int 0), (6, .int 0), (4, .int 3), (3, .ref h1), (0, .ref h0), (1, .int 3)]) C.1 C.2.1 dX6_houseNow_35 hl (k := 2) rfl (by decide) (by decide) rfl (fun ls hl => ?_)
  refine lv_goto (tgt := 14) C.1 C.2.1 dX6_houseNow_38 (by decide) ?_
  refine lv_iload C.1 C.2.1 dX6_houseNow_14 (lv_at hl 0 rfl) ?_
  refine lv_iload C.1 C.2.1 dX6_houseNow_16 (lv_at hl 3 rfl) ?_
  refine lv_icmp_ge (tgt := 41) C.1 C.2.1 dX6_houseNow_18 (by decide) (fun c9 => absurd c9 (by decide)) (fun _ => ?_)
  refine lv_aload_n C.1 C.2.1 dX6_houseNow_21 rfl (lv_at hl 4 rfl) ?_
  refine lv_iload C.1 C.2.1 dX6_houseNow_22 (lv_at hl 0 rfl) ?_
  refine x_zald (v := 0) C w 1 2 rfl rfl (xvin (by decide)) (by rfl) dX6_houseNow_24 ?_
  refine lv_istore (lv' := [(6, .int 0), (5, .int 2), (2, .int 0), (4, .int 3), (3, .ref h1), (0, .ref h0), (1, .int 3)]) C.1 C.2.1 dX6_houseNow_25 hl (by decide) rfl (fun ls hl => ?_)
  refine lv_iload_n C.1 C.2.1 dX6_houseNow_27 rfl (lv_at hl 2 rfl) ?_
  refine lv_iload C.1 C.2.1 dX6_houseNow_28 (lv_at hl 0 rfl) ?_
  refine x_ki C w [] [0, 1, 2, 3, 4] rfl rfl (by decide) (by decide) (va_runS (As := [.int 0]) (rest := [.int 0]) (xfix C) (c521_X6_one l G cy sa sv (xtr C) _) (va_cwS 1 (xhts C) (xgS gw_912 gw_913 gw_58 gc_X6_one) rfl rfl rfl (by decide +kernel) ⟨(Nat.le_of_ble_eq_true rfl), (Nat.le_of_ble_eq_true rfl)⟩) (xPS C w [] rfl (by decide)) rfl rfl hl.1 rfl (lv_room (Nat.le_of_ble_eq_true rfl)) dX6_houseNow_30 ⟨(Nat.le_of_ble_eq_true rfl), (Nat.le_of_ble_eq_true rfl)⟩) (fun f4301 H locs w => ?_)
  have w : xW G A s [(h0, .inr (10, [.ref h2, .ref h4, .ref h3, .ref h5, .ref h1, .ref h6, .ref h7, .int 0, .int 0])), (h1, .inl (cy 2, 3, .inl (fun _ => 0))), (h2, .inr (3, [.int 0, .ref (sv 0), .int 0])), (h3, .inr (3, [.int 0, .ref (sv 0), .int 0])), (h4, .inr (3, [.int 0, .ref (sv 0), .int 0]))] H _ := w
  refine lv_iadd C.1 C.2.1 dX6_houseNow_33 ?_
  refine x_is (y := 0) (by decide) ?_
  refine lv_istore_n (lv' := [(2, .int 0), (6, .int 0), (5, .int 2), (4, .int 3), (3, .ref h1), (0, .ref h0), (1, .int 3)]) C.1 C.2.1 dX6_houseNow_34 rfl hl (by decide) rfl (fun ls hl => ?_)
  refine lv_iinc (v := 3) (lv' := [(5, .int 3), (2, .int 0), (6, .int 0), (4, .int 3), (3, .ref h1), (0, .ref h0), (1, .int 3)]) C.1 C.2.1 dX6_houseNow_35 hl (k := 2) rfl (by decide) (by decide) rfl (fun ls hl => ?_)
  refine lv_goto (tgt := 14) C.1 C.2.1 dX6_houseNow_38 (by decide) ?_
  refine lv_iload C.1 C.2.1 dX6_houseNow_14 (lv_at hl 0 rfl) ?_
  refine lv_iload C.1 C.2.1 dX6_houseNow_16 (lv_at hl 3 rfl) ?_
  refine lv_icmp_ge (tgt := 41) C.1 C.2.1 dX6_houseNow_18 (by decide) (fun _ => ?_) (fun c9 => absurd (by decide) c9)
  refine lv_iconst (v := 5) C.1 C.2.1 dX6_houseNow_41 (by decide) ?_
  refine x_newa (atype := .int) (ty := .int) (N := 5) C w 1 (fun _ _ h => h) rfl (List.mem_cons_of_mem _ gw_13) rfl rfl (by decide) (by decide) (by decide) (Nat.le_of_ble_eq_true rfl) (Nat.le_of_ble_eq_true rfl) dX6_houseNow_42 (fun q4302 H w => ?_)
  have w : xW G A s [(h0, .inr (10, [.ref h2, .ref h4, .ref h3, .ref h5, .ref h1, .ref h6, .ref h7, .int 0, .int 0])), (h1, .inl (cy 2, 3, .inl (fun _ => 0))), (h2, .inr (3, [.int 0, .ref (sv 0), .int 0])), (h3, .inr (3, [.int 0, .ref (sv 0), .int 0])), (h4, .inr (3, [.int 0, .ref (sv 0), .int 0])), (q4302, .inl (cy 1, 5, .inl (fun _ => 0)))] H _ := w
  refine W.widen (k := 1) (n := 5) (Nat.le_of_ble_eq_true rfl) (Nat.le_of_ble_eq_true rfl) ?_
  refine lv_dup C.1 C.2.1 dX6_houseNow_44 rfl ?_
  refine lv_iconst (v := 0) C.1 C.2.1 dX6_houseNow_45 (by decide) ?_
  refine lv_aload_n C.1 C.2.1 dX6_houseNow_46 rfl (lv_at hl 5 rfl) ?_
  refine x_get (v := .ref h2) C w 0 10 0 (xin_X6 _) rfl rfl (by decide) (List.mem_cons_of_mem _ gw_78) rfl rfl dX6_houseNow_47 ?_
  refine x_ki C w [2] [0, 1, 3, 4, 5] rfl rfl (by decide) (by decide) (va_runV (As := []) (rest := [.int 0, .ref q4302, .ref q4302]) (xfix C) (c47_Jx4a65c_size_8abf5 l G cy sa sv h2 (xtr C) _) (cwV 0 (xhts C) (xgV (maxL := 0) (cc := ⟨#[]⟩) (ret := none) gw_195 gw_196 gw_197 gw_62 gc_Jx4a65c_size_8abf5) rfl rfl rfl (by decide +kernel) ⟨(Nat.le_of_ble_eq_true rfl), (Nat.le_of_ble_eq_true rfl)⟩) (xPV C w [2] rfl (by decide) (ci := 3) (q0 := 2) rfl rfl) rfl rfl hl.1 rfl (lv_room (Nat.le_of_ble_eq_true rfl)) dX6_houseNow_50 ⟨(Nat.le_of_ble_eq_true rfl), (Nat.le_of_ble_eq_true rfl)⟩) (fun f4303 H locs w => ?_)
  have w : xW G A s [(h0, .inr (10, [.ref h2, .ref h4, .ref h3, .ref h5, .ref h1, .ref h6, .ref h7, .int 0, .int 0])), (h1, .inl (cy 2, 3, .inl (fun _ => 0))), (h3, .inr (3, [.int 0, .ref (sv 0), .int 0])), (h4, .inr (3, [.int 0, .ref (sv 0), .int 0])), (q4302, .inl (cy 1, 5, .inl (fun _ => 0))), (h2, .inr (3, [.int 0, .ref (sv 0), .int 0]))] H _ := w
  refine x_iast (k := 0) C w 4 1 rfl rfl (xvin (by decide)) (by decide) dX6_houseNow_53 (fun H locs w => ?_)
  have w : xW G A s [(h0, .inr (10, [.ref h2, .ref h4, .ref h3, .ref h5, .ref h1, .ref h6, .ref h7, .int 0, .int 0])), (h1, .inl (cy 2, 3, .inl (fun _ => 0))), (h3, .inr (3, [.int 0, .ref (sv 0), .int 0])), (h4, .inr (3, [.int 0, .ref (sv 0), .int 0])), (q4302, .inl (cy 1, 5, .inl (upd (fun _ => 0) 0 0))), (h2, .inr (3, [.int 0, .ref (sv 0), .int 0]))] H _ := w
  refine lv_dup C.1 C.2.1 dX6_houseNow_54 rfl ?_
  refine lv_iconst (v := 1) C.1 C.2.1 dX6_houseNow_55 (by decide) ?_
  refine lv_aload_n C.1 C.2.1 dX6_houseNow_56 rfl (lv_at hl 5 rfl) ?_
  refine x_get (v := .ref h3) C w 0 10 2 (xin_X6 _) rfl rfl (by decide) (List.mem_cons_of_mem _ gw_80) rfl rfl dX6_houseNow_57 ?_
  refine x_ki C w [2] [0, 1, 3, 4, 5] rfl rfl (by decide) (by decide) (va_runV (As := []) (rest := [.int 1, .ref q4302, .ref q4302]) (xfix C) (c47_Jx4a65c_size_8abf5 l G cy sa sv h3 (xtr C) _) (cwV 0 (xhts C) (xgV (maxL := 0) (cc := ⟨#[]⟩) (ret := none) gw_195 gw_196 gw_197 gw_62 gc_Jx4a65c_size_8abf5) rfl rfl rfl (by decide +kernel) ⟨(Nat.le_of_ble_eq_true rfl), (Nat.le_of_ble_eq_true rfl)⟩) (xPV C w [2] rfl (by decide) (ci := 3) (q0 := 2) rfl rfl) rfl rfl hl.1 rfl (lv_room (Nat.le_of_ble_eq_true rfl)) dX6_houseNow_60 ⟨(Nat.le_of_ble_eq_true rfl), (Nat.le_of_ble_eq_true rfl)⟩) (fun f4304 H locs w => ?_)
  have w : xW G A s [(h0, .inr (10, [.ref h2, .ref h4, .ref h3, .ref h5, .ref h1, .ref h6, .ref h7, .int 0, .int 0])), (h1, .inl (cy 2, 3, .inl (fun _ => 0))), (h4, .inr (3, [.int 0, .ref (sv 0), .int 0])), (q4302, .inl (cy 1, 5, .inl (upd (fun _ => 0) 0 0))), (h2, .inr (3, [.int 0, .ref (sv 0), .int 0])), (h3, .inr (3, [.int 0, .ref (sv 0), .int 0]))] H _ := w
  refine x_iast (k := 1) C w 3 1 rfl rfl (xvin (by decide)) (by decide) dX6_houseNow_63 (fun H locs w => ?_)
  have w : xW G A s [(h0, .inr (10, [.ref h2, .ref h4, .ref h3, .ref h5, .ref h1, .ref h6, .ref h7, .int 0, .int 0])), (h1, .inl (cy 2, 3, .inl (fun _ => 0))), (h4, .inr (3, [.int 0, .ref (sv 0), .int 0])), (q4302, .inl (cy 1, 5, .inl (upd (upd (fun _ => 0) 0 0) 1 0))), (h2, .inr (3, [.int 0, .ref (sv 0), .int 0])), (h3, .inr (3, [.int 0, .ref (sv 0), .int 0]))] H _ := w
  refine lv_dup C.1 C.2.1 dX6_houseNow_64 rfl ?_
  refine lv_iconst (v := 2) C.1 C.2.1 dX6_houseNow_65 (by decide) ?_
  refine lv_aload_n C.1 C.2.1 dX6_houseNow_66 rfl (lv_at hl 5 rfl) ?_
  refine x_get (v := .ref h4) C w 0 10 1 (xin_X6 _) rfl rfl (by decide) (List.mem_cons_of_mem _ gw_79) rfl rfl dX6_houseNow_67 ?_
  refine x_ki C w [2] [0, 1, 3, 4, 5] rfl rfl (by decide) (by decide) (va_runV (As := []) (rest := [.int 2, .ref q4302, .ref q4302]) (xfix C) (c47_Jx4a65c_size_8abf5 l G cy sa sv h4 (xtr C) _) (cwV 0 (xhts C) (xgV (maxL := 0) (cc := ⟨#[]⟩) (ret := none) gw_195 gw_196 gw_197 gw_62 gc_Jx4a65c_size_8abf5) rfl rfl rfl (by decide +kernel) ⟨(Nat.le_of_ble_eq_true rfl), (Nat.le_of_ble_eq_true rfl)⟩) (xPV C w [2] rfl (by decide) (ci := 3) (q0 := 2) rfl rfl) rfl rfl hl.1 rfl (lv_room (Nat.le_of_ble_eq_true rfl)) dX6_houseNow_70 ⟨(Nat.le_of_ble_eq_true rfl), (Nat.le_of_ble_eq_true rfl)⟩) (fun f4305 H locs w => ?_)
  have w : xW G A s [(h0, .inr (10, [.ref h2, .ref h4, .ref h3, .ref h5, .ref h1, .ref h6, .ref h7, .int 0, .int 0])), (h1, .inl (cy 2, 3, .inl (fun _ => 0))), (q4302, .inl (cy 1, 5, .inl (upd (upd (fun _ => 0) 0 0) 1 0))), (h2, .inr (3, [.int 0, .ref (sv 0), .int 0])), (h3, .inr (3, [.int 0, .ref (sv 0), .int 0])), (h4, .inr (3, [.int 0, .ref (sv 0), .int 0]))] H _ := w
  refine x_iast (k := 2) C w 2 1 rfl rfl (xvin (by decide)) (by decide) dX6_houseNow_73 (fun H locs w => ?_)
  have w : xW G A s [(h0, .inr (10, [.ref h2, .ref h4, .ref h3, .ref h5, .ref h1, .ref h6, .ref h7, .int 0, .int 0])), (h1, .inl (cy 2, 3, .inl (fun _ => 0))), (q4302, .inl (cy 1, 5, .inl (upd (upd (upd (fun _ => 0) 0 0) 1 0) 2 0))), (h2, .inr (3, [.int 0, .ref (sv 0), .int 0])), (h3, .inr (3, [.int 0, .ref (sv 0), .int 0])), (h4, .inr (3, [.int 0, .ref (sv 0), .int 0]))] H _ := w
  refine lv_dup C.1 C.2.1 dX6_houseNow_74 rfl ?_
  refine lv_iconst (v := 3) C.1 C.2.1 dX6_houseNow_75 (by decide) ?_
  refine lv_iload_n C.1 C.2.1 dX6_houseNow_76 rfl (lv_at hl 1 rfl) ?_
  refine x_iast (k := 3) C w 2 1 rfl rfl (xvin (by decide)) (by decide) dX6_houseNow_77 (fun H locs w => ?_)
  have w : xW G A s [(h0, .inr (10, [.ref h2, .ref h4, .ref h3, .ref h5, .ref h1, .ref h6, .ref h7, .int 0, .int 0])), (h1, .inl (cy 2, 3, .inl (fun _ => 0))), (q4302, .inl (cy 1, 5, .inl (upd (upd (upd (upd (fun _ => 0) 0 0) 1 0) 2 0) 3 0))), (h2, .inr (3, [.int 0, .ref (sv 0), .int 0])), (h3, .inr (3, [.int 0, .ref (sv 0), .int 0])), (h4, .inr (3, [.int 0, .ref (sv 0), .int 0]))] H _ := w
  refine lv_dup C.1 C.2.1 dX6_houseNow_78 rfl ?_
  refine lv_iconst (v := 4) C.1 C.2.1 dX6_houseNow_79 (by decide) ?_
  refine lv_aload_n C.1 C.2.1 dX6_houseNow_80 rfl (lv_at hl 5 rfl) ?_
  refine x_get (v := .int 0) C w 0 10 7 (xin_X6 _) rfl rfl (by decide) (List.mem_cons_of_mem _ gw_1012) rfl rfl dX6_houseNow_81 ?_
  refine x_iast (k := 4) C w 2 1 rfl rfl (xvin (by decide)) (by decide) dX6_houseNow_84 (fun H locs w => ?_)
  have w : xW G A s [(h0, .inr (10, [.ref h2, .ref h4, .ref h3, .ref h5, .ref h1, .ref h6, .ref h7, .int 0, .int 0])), (h1, .inl (cy 2, 3, .inl (fun _ => 0))), (q4302, .inl (cy 1, 5, .inl (upd (upd (upd (upd (upd (fun _ => 0) 0 0) 1 0) 2 0) 3 0) 4 0))), (h2, .inr (3, [.int 0, .ref (sv 0), .int 0])), (h3, .inr (3, [.int 0, .ref (sv 0), .int 0])), (h4, .inr (3, [.int 0, .ref (sv 0), .int 0]))] H _ := w
  refine lv_astore_n (lv' := [(3, .ref q4302), (5, .int 3), (2, .int 0), (6, .int 0), (4, .int 3), (0, .ref h0), (1, .int 3)]) C.1 C.2.1 dX6_houseNow_85 rfl hl (by decide) rfl (fun ls hl => ?_)
  refine lv_aload_n C.1 C.2.1 dX6_houseNow_86 rfl (lv_at hl 0 rfl) ?_
  refine lv_iload_n C.1 C.2.1 dX6_houseNow_87 rfl (lv_at hl 6 rfl) ?_
  refine x_iald (v := 0) C w 2 1 rfl rfl (xvin (by decide)) (by rfl) dX6_houseNow_88 ?_
  have w := w.sub (ws' := [(h0, .inr (10, [.ref h2, .ref h4, .ref h3, .ref h5, .ref h1, .ref h6, .ref h7, .int 0, .int 0])), (h1, .inl (cy 2, 3, .inl (fun _ => 0))), (h2, .inr (3, [.int 0, .ref (sv 0), .int 0])), (h3, .inr (3, [.int 0, .ref (sv 0), .int 0])), (h4, .inr (3, [.int 0, .ref (sv 0), .int 0]))]) [0, 1, 3, 4, 5] (by decide) rfl rfl
  exact x_iret C w hr (fun _ => 0) rfl rfl dX6_houseNow_89 (Nat.le_of_ble_eq_true rfl) (Nat.le_of_ble_eq_true rfl)
set_option maxHeartbeats 4000000 in
set_option maxRecDepth 100000 in
theorem c616_X6_house (l : Launch) (G : va_G) (cy : Nat → ClassId) (sa : String → Nat → Nat) (sv : Nat → Nat) (h0 h1 h2 h3 h4 h5 h6 h7 : Nat) : xM l G cy sa sv yX6_house (Cond.code yX6_house cX6_house 2 (some .int) :: XG) { frames := 10, cells := 1, slots := 5, locals := 296 } [.ref h0, .int 3] [(h0, .inr (10, [.ref h2, .ref h4, .ref h3, .ref h5, .ref h1, .ref h6, .ref h7, .int 0, .int 0])), (h1, .inl (cy 2, 3, .inl (fun _ => 0))), (h2, .inr (3, [.int 0, .ref (sv 0), .int 0])), (h3, .inr (3, [.int 0, .ref (sv 0), .int 0])), (h4, .inr (3, [.int 0, .ref (sv 0), .int 0]))] (xQi G (fun f => [(h0, .inr (10, [.ref h2, .ref h4, .ref h3, .ref h5, .ref h1, .ref h6, .ref h7, .int 0, .int 0])), (h1, .inl (cy 2, 3, .inl (fun _ => 0))), (h2, .inr (3, [.int 0, .ref (sv 0), .int 0])), (h3, .inr (3, [.int 0, .ref (sv 0), .int 0])), (h4, .inr (3, [.int 0, .ref (sv 0), .int 0]))]) 0) := by
  refine xof (by decide) (Nat.le_of_ble_eq_true rfl) (fun p e s m below meth c A C w hr hn ls hl => ?_)
  have hl : lv_has ls 2 [(0, .ref h0), (1, .int 3)] := hl
  refine lv_aload_n C.1 C.2.1 dX6_house_0 rfl (lv_at hl 0 rfl) ?_
  refine lv_iload_n C.1 C.2.1 dX6_house_1 rfl (lv_at hl 1 rfl) ?_
  refine lv_if_lt (tgt := 10) C.1 C.2.1 dX6_house_2 (by decide) (fun c9 => absurd c9 (by decide)) (fun _ => ?_)
  refine lv_iload_n C.1 C.2.1 dX6_house_5 rfl (lv_at hl 1 rfl) ?_
  refine lv_iconst (v := 4) C.1 C.2.1 dX6_house_6 (by decide) ?_
  refine lv_icmp_le (tgt := 14) C.1 C.2.1 dX6_house_7 (by decide) (fun _ => ?_) (fun c9 => absurd (by decide) c9)
  refine lv_iconst (v := 0) C.1 C.2.1 dX6_house_14 (by decide) ?_
  refine lv_iconst (v := 1) C.1 C.2.1 dX6_house_15 (by decide) ?_
  refine x_ki C w [0] [1, 2, 3, 4] rfl rfl (by decide) (by decide) (va_runV (As := [.int 0, .int 1]) (rest := []) (xfix C) (c46_X6_start l G cy sa sv h0 h2 h4 h3 h5 h1 h6 h7 (xtr C) _) (cwV 2 (xhts C) (xgV (maxL := 0) (cc := ⟨#[]⟩) (ret := none) gw_114 gw_115 gw_116 gw_58 gc_X6_start) rfl rfl rfl (by decide +kernel) ⟨(Nat.le_of_ble_eq_true rfl), (Nat.le_of_ble_eq_true rfl)⟩) (xPV C w [0] rfl (by decide) (ci := 10) (q0 := 0) rfl rfl) rfl rfl hl.1 rfl (lv_room (Nat.le_of_ble_eq_true rfl)) dX6_house_16 ⟨(Nat.le_of_ble_eq_true rfl), (Nat.le_of_ble_eq_true rfl)⟩) (fun f4296 H locs w => ?_)
  have w : xW G A s [(h1, .inl (cy 2, 3, .inl (fun _ => 0))), (h2, .inr (3, [.int 0, .ref (sv 0), .int 0])), (h3, .inr (3, [.int 0, .ref (sv 0), .int 0])), (h4, .inr (3, [.int 0, .ref (sv 0), .int 0])), (h0, .inr (10, [.ref h2, .ref h4, .ref h3, .ref h5, .ref h1, .ref h6, .ref h7, .int 0, .int 0]))] H _ := w
  refine lv_if_eq (tgt := 26) C.1 C.2.1 dX6_house_19 (by decide) (fun _ => ?_) (fun c9 => absurd (by decide) c9)
  refine lv_aload_n C.1 C.2.1 dX6_house_26 rfl (lv_at hl 0 rfl) ?_
  refine lv_iload_n C.1 C.2.1 dX6_house_27 rfl (lv_at hl 1 rfl) ?_
  refine x_ki C w [4, 0, 1, 2, 3] [] rfl rfl (by decide) (by decide) (va_runV (As := [.int 3]) (rest := []) (xfix C) (c615_X6_houseNow l G cy sa sv h0 h1 h2 h3 h4 h5 h6 h7 (xtr C) _) (cwV 1 (xhts C) (xgV (maxL := 0) (cc := ⟨#[]⟩) (ret := none) gw_1014 gw_1015 gw_1016 gw_58 gc_X6_houseNow) rfl rfl rfl (by decide +kernel) ⟨(Nat.le_of_ble_eq_true rfl), (Nat.le_of_ble_eq_true rfl)⟩) (xPV C w [4, 0, 1, 2, 3] rfl (by decide) (ci := 10) (q0 := 4) rfl rfl) rfl rfl hl.1 rfl (lv_room (Nat.le_of_ble_eq_true rfl)) dX6_house_28 ⟨(Nat.le_of_ble_eq_true rfl), (Nat.le_of_ble_eq_true rfl)⟩) (fun f4306 H locs w => ?_)
  have w : xW G A s [(h0, .inr (10, [.ref h2, .ref h4, .ref h3, .ref h5, .ref h1, .ref h6, .ref h7, .int 0, .int 0])), (h1, .inl (cy 2, 3, .inl (fun _ => 0))), (h2, .inr (3, [.int 0, .ref (sv 0), .int 0])), (h3, .inr (3, [.int 0, .ref (sv 0), .int 0])), (h4, .inr (3, [.int 0, .ref (sv 0), .int 0]))] H _ := w
  refine W.widen (k := 1) (n := 5) (Nat.le_of_ble_eq_true rfl) (Nat.le_of_ble_eq_true rfl) ?_
  exact x_iret C w hr (fun _ => 0) rfl rfl dX6_house_31 (Nat.le_of_ble_eq_true rfl) (Nat.le_of_ble_eq_true rfl)
set_option maxHeartbeats 4000000 in
set_option maxRecDepth 100000 in
theorem c617_X4_house (l : Launch) (G : va_G) (cy : Nat → ClassId) (sa : String → Nat → Nat) (sv : Nat → Nat) (h0 h1 h2 h3 h4 h5 h6 h7 : Nat) : xM l G cy sa sv yX4_house (Cond.code yX4_house cX4_house 2 (some .int) :: XG) { frames := 8, cells := 0, slots := 0, locals := 250 } [.ref h0, .int 4] [(h0, .inr (8, [.ref h1, .ref h2, .ref h3, .ref h4, .ref h5, .int 0, .ref h6, .ref h7]))] (xQi G (fun f => [(h0, .inr (8, [.ref h1, .ref h2, .ref h3, .ref h4, .ref h5, .int 0, .ref h6, .ref h7]))]) 0) := by
  refine xof (by decide) (Nat.le_of_ble_eq_true rfl) (fun p e s m below meth c A C w hr hn ls hl => ?_)
  have hl : lv_has ls 2 [(0, .ref h0), (1, .int 4)] := hl
  refine lv_iload_n C.1 C.2.1 dX4_house_0 rfl (lv_at hl 1 rfl) ?_
  refine lv_tableIn (off := 64) (tgt := 65) C.1 C.2.1 dX4_house_1 (by decide) (by decide) (by decide) (by decide) ?_
  refine lv_aload_n C.1 C.2.1 dX4_house_65 rfl (lv_at hl 0 rfl) ?_
  refine x_get (v := .int 0) C w 0 8 5 (xin_X4 _) rfl rfl (by decide) (List.mem_cons_of_mem _ gw_50) rfl rfl dX4_house_66 ?_
  exact x_iret C w hr (fun _ => 0) rfl rfl dX4_house_69 (Nat.le_of_ble_eq_true rfl) (Nat.le_of_ble_eq_true rfl)
set_option maxHeartbeats 4000000 in
set_option maxRecDepth 100000 in
theorem c618_L_house (l : Launch) (G : va_G) (cy : Nat → ClassId) (sa : String → Nat → Nat) (sv : Nat → Nat) (h0 h1 h2 h3 h4 h5 h6 h7 h8 : Nat) : xM l G cy sa sv yL_house (Cond.codeWith yL_house cL_house 4 (some .int) [(0, 10, 13, 19)] :: XG) { frames := 9, cells := 0, slots := 0, locals := 271 } [.ref h0, .int 4, .ref h1] [(h0, .inr (8, [.ref h2, .ref h3, .ref h4, .ref h5, .ref h6, .int 0, .ref h7, .ref h8])), (h1, .inr (9, [.long 0, .null]))] (xQi G (fun f => [(h0, .inr (8, [.ref h2, .ref h3, .ref h4, .ref h5, .ref h6, .int 0, .ref h7, .ref h8])), (h1, .inr (9, [.long 0, .null]))]) 0) := by
  refine xofH (by decide) (Nat.le_of_ble_eq_true rfl) (fun p e s m below meth c A C w hr hn hT ls hl => ?_)
  have hl : lv_has ls 4 [(0, .ref h0), (1, .int 4), (2, .ref h1)] := hl
  refine lv_aload_n C.1 C.2.1 dL_house_0 rfl (lv_at hl 2 rfl) ?_
  refine lv_aload_n C.1 C.2.1 dL_house_1 rfl (lv_at hl 0 rfl) ?_
  refine lv_iload_n C.1 C.2.1 dL_house_2 rfl (lv_at hl 1 rfl) ?_
  refine x_ki C w [0] [1] rfl rfl (by decide) (by decide) (va_runV (As := [.int 4]) (rest := [.ref h1]) (xfix C) (c617_X4_house l G cy sa sv h0 h2 h3 h4 h5 h6 h7 h8 (xtr C) _) (cwV 1 (xhts C) (xgV (maxL := 0) (cc := ⟨#[]⟩) (ret := none) gw_1006 gw_1007 gw_1008 gw_2 gc_X4_house) rfl rfl rfl (by decide +kernel) ⟨(Nat.le_of_ble_eq_true rfl), (Nat.le_of_ble_eq_true rfl)⟩) (xPV C w [0] rfl (by decide) (ci := 8) (q0 := 0) rfl rfl) rfl rfl hl.1 rfl (lv_room (Nat.le_of_ble_eq_true rfl)) dL_house_3 ⟨(Nat.le_of_ble_eq_true rfl), (Nat.le_of_ble_eq_true rfl)⟩) (fun f4310 H locs w => ?_)
  have w : xW G A s [(h1, .inr (9, [.long 0, .null])), (h0, .inr (8, [.ref h2, .ref h3, .ref h4, .ref h5, .ref h6, .int 0, .ref h7, .ref h8]))] H _ := w
  refine lv_i2l (v := 0) C.1 C.2.1 dL_house_6 (by decide) ?_
  refine x_putN (ty := .long) (ty0 := tyX5) C w 0 9 0 (xin_X5 _) tyX5_ok nmX5 rfl rfl (by decide) (xs_f_n (xS C)) rfl rfl (by decide +kernel) rfl rfl (Nat.le_of_ble_eq_true rfl) dL_house_7 (fun H locs w => ?_)
  have w : xW G A s [(h1, .inr (9, [.long 0, .null])), (h0, .inr (8, [.ref h2, .ref h3, .ref h4, .ref h5, .ref h6, .int 0, .ref h7, .ref h8]))] H _ := w
  refine lv_goto (tgt := 16) C.1 C.2.1 dL_house_10 (by decide) ?_
  refine lv_iconst (v := 0) C.1 C.2.1 dL_house_16 (by decide) ?_
  have w := w.sub (ws' := [(h0, .inr (8, [.ref h2, .ref h3, .ref h4, .ref h5, .ref h6, .int 0, .ref h7, .ref h8])), (h1, .inr (9, [.long 0, .null]))]) [1, 0] (by decide) rfl rfl
  exact x_iret C w hr (fun _ => 0) rfl rfl dL_house_17 (Nat.le_of_ble_eq_true rfl) (Nat.le_of_ble_eq_true rfl)
set_option maxHeartbeats 4000000 in
set_option maxRecDepth 100000 in
theorem c619_X6_houseNow (l : Launch) (G : va_G) (cy : Nat → ClassId) (sa : String → Nat → Nat) (sv : Nat → Nat) (h0 h1 h2 h3 h4 h5 h6 h7 : Nat) : xM l G cy sa sv yX6_houseNow (Cond.code yX6_houseNow cX6_houseNow 7 (some .int) :: XG) { frames := 9, cells := 1, slots := 5, locals := 270 } [.ref h0, .int 4] [(h0, .inr (10, [.ref h2, .ref h4, .ref h3, .ref h5, .ref h1, .ref h6, .ref h7, .int 0, .int 0])), (h1, .inl (cy 2, 3, .inl (fun _ => 0))), (h2, .inr (3, [.int 0, .ref (sv 0), .int 0])), (h3, .inr (3, [.int 0, .ref (sv 0), .int 0])), (h4, .inr (3, [.int 0, .ref (sv 0), .int 0]))] (xQi G (fun f => [(h0, .inr (10, [.ref h2, .ref h4, .ref h3, .ref h5, .ref h1, .ref h6, .ref h7, .int 0, .int 0])), (h1, .inl (cy 2, 3, .inl (fun _ => 0))), (h2, .inr (3, [.int 0, .ref (sv 0), .int 0])), (h3, .inr (3, [.int 0, .ref (sv 0), .int 0])), (h4, .inr (3, [.int 0, .ref (sv 0), .int 0]))]) 0) := by
  refine xof (by decide) (Nat.le_of_ble_eq_true rfl) (fun p e s m below meth c A C w hr hn ls hl => ?_)
  have hl : lv_has ls 7 [(0, .ref h0), (1, .int 4)] := hl
  refine lv_iconst (v := 0) C.1 C.2.1 dX6_houseNow_0 (by decide) ?_
  refine lv_istore_n (lv' := [(2, .int 0), (0, .ref h0), (1, .int 4)]) C.1 C.2.1 dX6_houseNow_1 rfl hl (by decide) rfl (fun ls hl => ?_)
  refine lv_aload_n C.1 C.2.1 dX6_houseNow_2 rfl (lv_at hl 1 rfl) ?_
  refine x_get (v := .ref h1) C w 0 10 4 (xin_X6 _) rfl rfl (by decide) (List.mem_cons_of_mem _ gw_83) rfl rfl dX6_houseNow_3 ?_
  refine lv_astore_n (lv' := [(3, .ref h1), (2, .int 0), (0, .ref h0), (1, .int 4)]) C.1 C.2.1 dX6_houseNow_6 rfl hl (by decide) rfl (fun ls hl => ?_)
  refine lv_aload_n C.1 C.2.1 dX6_houseNow_7 rfl (lv_at hl 0 rfl) ?_
  refine x_alen (v := 3) C w 1 2 rfl rfl (by rfl) dX6_houseNow_8 ?_
  refine lv_istore (lv' := [(4, .int 3), (3, .ref h1), (2, .int 0), (0, .ref h0), (1, .int 4)]) C.1 C.2.1 dX6_houseNow_9 hl (by decide) rfl (fun ls hl => ?_)
  refine lv_iconst (v := 0) C.1 C.2.1 dX6_houseNow_11 (by decide) ?_
  refine lv_istore (lv' := [(5, .int 0), (4, .int 3), (3, .ref h1), (2, .int 0), (0, .ref h0), (1, .int 4)]) C.1 C.2.1 dX6_houseNow_12 hl (by decide) rfl (fun ls hl => ?_)
  refine lv_iload C.1 C.2.1 dX6_houseNow_14 (lv_at hl 0 rfl) ?_
  refine lv_iload C.1 C.2.1 dX6_houseNow_16 (lv_at hl 1 rfl) ?_
  refine lv_icmp_ge (tgt := 41) C.1 C.2.1 dX6_houseNow_18 (by decide) (fun c9 => absurd c9 (by decide)) (fun _ => ?_)
  refine lv_aload_n C.1 C.2.1 dX6_houseNow_21 rfl (lv_at hl 2 rfl) ?_
  refine lv_iload C.1 C.2.1 dX6_houseNow_22 (lv_at hl 0 rfl) ?_
  refine x_zald (v := 0) C w 1 2 rfl rfl (xvin (by decide)) (by rfl) dX6_houseNow_24 ?_
  refine lv_istore (lv' := [(6, .int 0), (5, .int 0), (4, .int 3), (3, .ref h1), (2, .int 0), (0, .ref h0), (1, .int 4)]) C.1 C.2.1 dX6_houseNow_25 hl (by decide) rfl (fun ls hl => ?_)
  refine lv_iload_n C.1 C.2.1 dX6_houseNow_27 rfl (lv_at hl 4 rfl) ?_
  refine lv_iload C.1 C.2.1 dX6_houseNow_28 (lv_at hl 0 rfl) ?_
  refine x_ki C w [] [0, 1, 2, 3, 4] rfl rfl (by decide) (by decide) (va_runS (As := [.int 0]) (rest := [.int 0]) (xfix C) (c521_X6_one l G cy sa sv (xtr C) _) (va_cwS 1 (xhts C) (xgS gw_912 gw_913 gw_58 gc_X6_one) rfl rfl rfl (by decide +kernel) ⟨(Nat.le_of_ble_eq_true rfl), (Nat.le_of_ble_eq_true rfl)⟩) (xPS C w [] rfl (by decide)) rfl rfl hl.1 rfl (lv_room (Nat.le_of_ble_eq_true rfl)) dX6_houseNow_30 ⟨(Nat.le_of_ble_eq_true rfl), (Nat.le_of_ble_eq_true rfl)⟩) (fun f4317 H locs w => ?_)
  have w : xW G A s [(h0, .inr (10, [.ref h2, .ref h4, .ref h3, .ref h5, .ref h1, .ref h6, .ref h7, .int 0, .int 0])), (h1, .inl (cy 2, 3, .inl (fun _ => 0))), (h2, .inr (3, [.int 0, .ref (sv 0), .int 0])), (h3, .inr (3, [.int 0, .ref (sv 0), .int 0])), (h4, .inr (3, [.int 0, .ref (sv 0), .int 0]))] H _ := w
  refine lv_iadd C.1 C.2.1 dX6_houseNow_33 ?_
  refine x_is (y := 0) (by decide) ?_
  refine lv_istore_n (lv' := [(2, .int 0), (6, .int 0), (5, .int 0), (4, .int 3), (3, .ref h1), (0, .ref h0), (1, .int 4)]) C.1 C.2.1 dX6_houseNow_34 rfl hl (by decide) rfl (fun ls hl => ?_)
  refine lv_iinc (v := 1) (lv' := [(5, .int 1), (2, .int 0), (6, .int 0), (4, .int 3), (3, .ref h1), (0, .ref h0), (1, .int 4)]) C.1 C.2.1 dX6_houseNow_35 hl (k := 2) rfl (by decide) (by decide) rfl (fun ls hl => ?_)
  refine lv_goto (tgt := 14) C.1 C.2.1 dX6_houseNow_38 (by decide) ?_
  refine lv_iload C.1 C.2.1 dX6_houseNow_14 (lv_at hl 0 rfl) ?_
  refine lv_iload C.1 C.2.1 dX6_houseNow_16 (lv_at hl 3 rfl) ?_
  refine lv_icmp_ge (tgt := 41) C.1 C.2.1 dX6_houseNow_18 (by decide) (fun c9 => absurd c9 (by decide)) (fun _ => ?_)
  refine lv_aload_n C.1 C.2.1 dX6_houseNow_21 rfl (lv_at hl 4 rfl) ?_
  refine lv_iload C.1 C.2.1 dX6_houseNow_22 (lv_at hl 0 rfl) ?_
  refine x_zald (v := 0) C w 1 2 rfl rfl (xvin (by decide)) (by rfl) dX6_houseNow_24 ?_
  refine lv_istore (lv' := [(6, .int 0), (5, .int 1), (2, .int 0), (4, .int 3), (3, .ref h1), (0, .ref h0), (1, .int 4)]) C.1 C.2.1 dX6_houseNow_25 hl (by decide) rfl (fun ls hl => ?_)
  refine lv_iload_n C.1 C.2.1 dX6_houseNow_27 rfl (lv_at hl 2 rfl) ?_
  refine lv_iload C.1 C.2.1 dX6_houseNow_28 (lv_at hl 0 rfl) ?_
  refine x_ki C w [] [0, 1, 2, 3, 4] rfl rfl (by decide) (by decide) (va_runS (As := [.int 0]) (rest := [.int 0]) (xfix C) (c521_X6_one l G cy sa sv (xtr C) _) (va_cwS 1 (xhts C) (xgS gw_912 gw_913 gw_58 gc_X6_one) rfl rfl rfl (by decide +kernel) ⟨(Nat.le_of_ble_eq_true rfl), (Nat.le_of_ble_eq_true rfl)⟩) (xPS C w [] rfl (by decide)) rfl rfl hl.1 rfl (lv_room (Nat.le_of_ble_eq_true rfl)) dX6_houseNow_30 ⟨(Nat.le_of_ble_eq_true rfl), (Nat.le_of_ble_eq_true rfl)⟩) (fun f4318 H locs w => ?_)
  have w : xW G A s [(h0, .inr (10, [.ref h2, .ref h4, .ref h3, .ref h5, .ref h1, .ref h6, .ref h7, .int 0, .int 0])), (h1, .inl (cy 2, 3, .inl (fun _ => 0))), (h2, .inr (3, [.int 0, .ref (sv 0), .int 0])), (h3, .inr (3, [.int 0, .ref (sv 0), .int 0])), (h4, .inr (3, [.int 0, .ref (sv 0), .int 0]))] H _ := w
  refine lv_iadd C.1 C.2.1 dX6_houseNow_33 ?_
  refine x_is (y := 0) (by decide) ?_
  refine lv_istore_n (lv' := [(2, .int 0), (6, .int 0), (5, .int 1), (4, .int 3), (3, .ref h1), (0, .ref h0), (1, .int 4)]) C.1 C.2.1 dX6_houseNow_34 rfl hl (by decide) rfl (fun ls hl => ?_)
  refine lv_iinc (v := 2) (lv' := [(5, .int 2), (2, .int 0), (6, .int 0), (4, .int 3), (3, .ref h1), (0, .ref h0), (1, .int 4)]) C.1 C.2.1 dX6_houseNow_35 hl (k := 2) rfl (by decide) (by decide) rfl (fun ls hl => ?_)
  refine lv_goto (tgt := 14) C.1 C.2.1 dX6_houseNow_38 (by decide) ?_
  refine lv_iload C.1 C.2.1 dX6_houseNow_14 (lv_at hl 0 rfl) ?_
  refine lv_iload C.1 C.2.1 dX6_houseNow_16 (lv_at hl 3 rfl) ?_
  refine lv_icmp_ge (tgt := 41) C.1 C.2.1 dX6_houseNow_18 (by decide) (fun c9 => absurd c9 (by decide)) (fun _ => ?_)
  refine lv_aload_n C.1 C.2.1 dX6_houseNow_21 rfl (lv_at hl 4 rfl) ?_
  refine lv_iload C.1 C.2.1 dX6_houseNow_22 (lv_at hl 0 rfl) ?_
  refine x_zald (v := 0) C w 1 2 rfl rfl (xvin (by decide)) (by rfl) dX6_houseNow_24 ?_
  refine lv_istore (lv' := [(6, .int 0), (5, .int 2), (2, .int 0), (4, .int 3), (3, .ref h1), (0, .ref h0), (1, .int 4)]) C.1 C.2.1 dX6_houseNow_25 hl (by decide) rfl (fun ls hl => ?_)
  refine lv_iload_n C.1 C.2.1 dX6_houseNow_27 rfl (lv_at hl 2 rfl) ?_
  refine lv_iload C.1 C.2.1 dX6_houseNow_28 (lv_at hl 0 rfl) ?_
  refine x_ki C w [] [0, 1, 2, 3, 4] rfl rfl (by decide) (by decide) (va_runS (As := [.int 0]) (rest := [.int 0]) (xfix C) (c521_X6_one l G cy sa sv (xtr C) _) (va_cwS 1 (xhts C) (xgS gw_912 gw_913 gw_58 gc_X6_one) rfl rfl rfl (by decide +kernel) ⟨(Nat.le_of_ble_eq_true rfl), (Nat.le_of_ble_eq_true rfl)⟩) (xPS C w [] rfl (by decide)) rfl rfl hl.1 rfl (lv_room (Nat.le_of_ble_eq_true rfl)) dX6_houseNow_30 ⟨(Nat.le_of_ble_eq_true rfl), (Nat.le_of_ble_eq_true rfl)⟩) (fun f4319 H locs w => ?_)
  have w : xW G A s [(h0, .inr (10, [.ref h2, .ref h4, .ref h3, .ref h5, .ref h1, .ref h6, .ref h7, .int 0, .int 0])), (h1, .inl (cy 2, 3, .inl (fun _ => 0))), (h2, .inr (3, [.int 0, .ref (sv 0), .int 0])), (h3, .inr (3, [.int 0, .ref (sv 0), .int 0])), (h4, .inr (3, [.int 0, .ref (sv 0), .int 0]))] H _ := w
  refine lv_iadd C.1 C.2.1 dX6_houseNow_33 ?_
  refine x_is (y := 0) (by decide) ?_
  refine lv_istore_n (lv' := [(2, .int 0), (6, .int 0), (5, .int 2), (4, .int 3), (3, .ref h1), (0, .ref h0), (1, .int 4)]) C.1 C.2.1 dX6_houseNow_34 rfl hl (by decide) rfl (fun ls hl => ?_)
  refine lv_iinc (v := 3) (lv' := [(5, .int 3), (2, .int 0), (6, .int 0), (4, .int 3), (3, .ref h1), (0, .ref h0), (1, .int 4)]) C.1 C.2.1 dX6_houseNow_35 hl (k := 2) rfl (by decide) (by decide) rfl (fun ls hl => ?_)
  refine lv_goto (tgt := 14) C.1 C.2.1 dX6_houseNow_38 (by decide) ?_
  refine lv_iload C.1 C.2.1 dX6_houseNow_14 (lv_at hl 0 rfl) ?_
  refine lv_iload C.1 C.2.1 dX6_houseNow_16 (lv_at hl 3 rfl) ?_
  refine lv_icmp_ge (tgt := 41) C.1 C.2.1 dX6_houseNow_18 (by decide) (fun _ => ?_) (fun c9 => absurd (by decide) c9)
  refine lv_iconst (v := 5) C.1 C.2.1 dX6_houseNow_41 (by decide) ?_
  refine x_newa (atype := .int) (ty := .int) (N := 5) C w 1 (fun _ _ h => h) rfl (List.mem_cons_of_mem _ gw_13) rfl rfl (by decide) (by decide) (by decide) (Nat.le_of_ble_eq_true rfl) (Nat.le_of_ble_eq_true rfl) dX6_houseNow_42 (fun q4320 H w => ?_)
  have w : xW G A s [(h0, .inr (10, [.ref h2, .ref h4, .ref h3, .ref h5, .ref h1, .ref h6, .ref h7, .int 0, .int 0])), (h1, .inl (cy 2, 3, .inl (fun _ => 0))), (h2, .inr (3, [.int 0, .ref (sv 0), .int 0])), (h3, .inr (3, [.int 0, .ref (sv 0), .int 0])), (h4, .inr (3, [.int 0, .ref (sv 0), .int 0])), (q4320, .inl (cy 1, 5, .inl (fun _ => 0)))] H _ := w
  refine W.widen (k := 1) (n := 5) (Nat.le_of_ble_eq_true rfl) (Nat.le_of_ble_eq_true rfl) ?_
  refine lv_dup C.1 C.2.1 dX6_houseNow_44 rfl ?_
  refine lv_iconst (v := 0) C.1 C.2.1 dX6_houseNow_45 (by decide) ?_
  refine lv_aload_n C.1 C.2.1 dX6_houseNow_46 rfl (lv_at hl 5 rfl) ?_
  refine x_get (v := .ref h2) C w 0 10 0 (xin_X6 _) rfl rfl (by decide) (List.mem_cons_of_mem _ gw_78) rfl rfl dX6_houseNow_47 ?_
  refine x_ki C w [2] [0, 1, 3, 4, 5] rfl rfl (by decide) (by decide) (va_runV (As := []) (rest := [.int 0, .ref q4320, .ref q4320]) (xfix C) (c47_Jx4a65c_size_8abf5 l G cy sa sv h2 (xtr C) _) (cwV 0 (xhts C) (xgV (maxL := 0) (cc := ⟨#[]⟩) (ret := none) gw_195 gw_196 gw_197 gw_62 gc_Jx4a65c_size_8abf5) rfl rfl rfl (by decide +kernel) ⟨(Nat.le_of_ble_eq_true rfl), (Nat.le_of_ble_eq_true rfl)⟩) (xPV C w [2] rfl (by decide) (ci := 3) (q0 := 2) rfl rfl) rfl rfl hl.1 rfl (lv_room (Nat.le_of_ble_eq_true rfl)) dX6_houseNow_50 ⟨(Nat.le_of_ble_eq_true rfl), (Nat.le_of_ble_eq_true rfl)⟩) (fun f4321 H locs w => ?_)
  have w : xW G A s [(h0, .inr (10, [.ref h2, .ref h4, .ref h3, .ref h5, .ref h1, .ref h6, .ref h7, .int 0, .int 0])), (h1, .inl (cy 2, 3, .inl (fun _ => 0))), (h3, .inr (3, [.int 0, .ref (sv 0), .int 0])), (h4, .inr (3, [.int 0, .ref (sv 0), .int 0])), (q4320, .inl (cy 1, 5, .inl (fun _ => 0))), (h2, .inr (3, [.int 0, .ref (sv 0), .int 0]))] H _ := w
  refine x_iast (k := 0) C w 4 1 rfl rfl (xvin (by decide)) (by decide) dX6_houseNow_53 (fun H locs w => ?_)
  have w : xW G A s [(h0, .inr (10, [.ref h2, .ref h4, .ref h3, .ref h5, .ref h1, .ref h6, .ref h7, .int 0, .int 0])), (h1, .inl (cy 2, 3, .inl (fun _ => 0))), (h3, .inr (3, [.int 0, .ref (sv 0), .int 0])), (h4, .inr (3, [.int 0, .ref (sv 0), .int 0])), (q4320, .inl (cy 1, 5, .inl (upd (fun _ => 0) 0 0))), (h2, .inr (3, [.int 0, .ref (sv 0), .int 0]))] H _ := w
  refine lv_dup C.1 C.2.1 dX6_houseNow_54 rfl ?_
  refine lv_iconst (v := 1) C.1 C.2.1 dX6_houseNow_55 (by decide) ?_
  refine lv_aload_n C.1 C.2.1 dX6_houseNow_56 rfl (lv_at hl 5 rfl) ?_
  refine x_get (v := .ref h3) C w 0 10 2 (xin_X6 _) rfl rfl (by decide) (List.mem_cons_of_mem _ gw_80) rfl rfl dX6_houseNow_57 ?_
  refine x_ki C w [2] [0, 1, 3, 4, 5] rfl rfl (by decide) (by decide) (va_runV (As := []) (rest := [.int 1, .ref q4320, .ref q4320]) (xfix C) (c47_Jx4a65c_size_8abf5 l G cy sa sv h3 (xtr C) _) (cwV 0 (xhts C) (xgV (maxL := 0) (cc := ⟨#[]⟩) (ret := none) gw_195 gw_196 gw_197 gw_62 gc_Jx4a65c_size_8abf5) rfl rfl rfl (by decide +kernel) ⟨(Nat.le_of_ble_eq_true rfl), (Nat.le_of_ble_eq_true rfl)⟩) (xPV C w [2] rfl (by decide) (ci := 3) (q0 := 2) rfl rfl) rfl rfl hl.1 rfl (lv_room (Nat.le_of_ble_eq_true rfl)) dX6_houseNow_60 ⟨(Nat.le_of_ble_eq_true rfl), (Nat.le_of_ble_eq_true rfl)⟩) (fun f4322 H locs w => ?_)
  have w : xW G A s [(h0, .inr (10, [.ref h2, .ref h4, .ref h3, .ref h5, .ref h1, .ref h6, .ref h7, .int 0, .int 0])), (h1, .inl (cy 2, 3, .inl (fun _ => 0))), (h4, .inr (3, [.int 0, .ref (sv 0), .int 0])), (q4320, .inl (cy 1, 5, .inl (upd (fun _ => 0) 0 0))), (h2, .inr (3, [.int 0, .ref (sv 0), .int 0])), (h3, .inr (3, [.int 0, .ref (sv 0), .int 0]))] H _ := w
  refine x_iast (k := 1) C w 3 1 rfl rfl (xvin (by decide)) (by decide) dX6_houseNow_63 (fun H locs w => ?_)
  have w : xW G A s [(h0, .inr (10, [.ref h2, .ref h4, .ref h3, .ref h5, .ref h1, .ref h6, .ref h7, .int 0, .int 0])), (h1, .inl (cy 2, 3, .inl (fun _ => 0))), (h4, .inr (3, [.int 0, .ref (sv 0), .int 0])), (q4320, .inl (cy 1, 5, .inl (upd (upd (fun _ => 0) 0 0) 1 0))), (h2, .inr (3, [.int 0, .ref (sv 0), .int 0])), (h3, .inr (3, [.int 0, .ref (sv 0), .int 0]))] H _ := w
  refine lv_dup C.1 C.2.1 dX6_houseNow_64 rfl ?_
  refine lv_iconst (v := 2) C.1 C.2.1 dX6_houseNow_65 (by decide) ?_
  refine lv_aload_n C.1 C.2.1 dX6_houseNow_66 rfl (lv_at hl 5 rfl) ?_
  refine x_get (v := .ref h4) C w 0 10 1 (xin_X6 _) rfl rfl (by decide) (List.mem_cons_of_mem _ gw_79) rfl rfl dX6_houseNow_67 ?_
  refine x_ki C w [2] [0, 1, 3, 4, 5] rfl rfl (by decide) (by decide) (va_runV (As := []) (rest := [.int 2, .ref q4320, .ref q4320]) (xfix C) (c47_Jx4a65c_size_8abf5 l G cy sa sv h4 (xtr C) _) (cwV 0 (xhts C) (xgV (maxL := 0) (cc := ⟨#[]⟩) (ret := none) gw_195 gw_196 gw_197 gw_62 gc_Jx4a65c_size_8abf5) rfl rfl rfl (by decide +kernel) ⟨(Nat.le_of_ble_eq_true rfl), (Nat.le_of_ble_eq_true rfl)⟩) (xPV C w [2] rfl (by decide) (ci := 3) (q0 := 2) rfl rfl) rfl rfl hl.1 rfl (lv_room (Nat.le_of_ble_eq_true rfl)) dX6_houseNow_70 ⟨(Nat.le_of_ble_eq_true rfl), (Nat.le_of_ble_eq_true rfl)⟩) (fun f4323 H locs w => ?_)
  have w : xW G A s [(h0, .inr (10, [.ref h2, .ref h4, .ref h3, .ref h5, .ref h1, .ref h6, .ref h7, .int 0, .int 0])), (h1, .inl (cy 2, 3, .inl (fun _ => 0))), (q4320, .inl (cy 1, 5, .inl (upd (upd (fun _ => 0) 0 0) 1 0))), (h2, .inr (3, [.int 0, .ref (sv 0), .int 0])), (h3, .inr (3, [.int 0, .ref (sv 0), .int 0])), (h4, .inr (3, [.int 0, .ref (sv 0), .int 0]))] H _ := w
  refine x_iast (k := 2) C w 2 1 rfl rfl (xvin (by decide)) (by decide) dX6_houseNow_73 (fun H locs w => ?_)
  have w : xW G A s [(h0, .inr (10, [.ref h2, .ref h4, .ref h3, .ref h5, .ref h1, .ref h6, .ref h7, .int 0, .int 0])), (h1, .inl (cy 2, 3, .inl (fun _ => 0))), (q4320, .inl (cy 1, 5, .inl (upd (upd (upd (fun _ => 0) 0 0) 1 0) 2 0))), (h2, .inr (3, [.int 0, .ref (sv 0), .int 0])), (h3, .inr (3, [.int 0, .ref (sv 0), .int 0])), (h4, .inr (3, [.int 0, .ref (sv 0), .int 0]))] H _ := w
  refine lv_dup C.1 C.2.1 dX6_houseNow_74 rfl ?_
  refine lv_iconst (v := 3) C.1 C.2.1 dX6_houseNow_75 (by decide) ?_
  refine lv_iload_n C.1 C.2.1 dX6_houseNow_76 rfl (lv_at hl 1 rfl) ?_
  refine x_iast (k := 3) C w 2 1 rfl rfl (xvin (by decide)) (by decide) dX6_houseNow_77 (fun H locs w => ?_)
  have w : xW G A s [(h0, .inr (10, [.ref h2, .ref h4, .ref h3, .ref h5, .ref h1, .ref h6, .ref h7, .int 0, .int 0])), (h1, .inl (cy 2, 3, .inl (fun _ => 0))), (q4320, .inl (cy 1, 5, .inl (upd (upd (upd (upd (fun _ => 0) 0 0) 1 0) 2 0) 3 0))), (h2, .inr (3, [.int 0, .ref (sv 0), .int 0])), (h3, .inr (3, [.int 0, .ref (sv 0), .int 0])), (h4, .inr (3, [.int 0, .ref (sv 0), .int 0]))] H _ := w
  refine lv_dup C.1 C.2.1 dX6_houseNow_78 rfl ?_
  refine lv_iconst (v := 4) C.1 C.2.1 dX6_houseNow_79 (by decide) ?_
  refine lv_aload_n C.1 C.2.1 dX6_houseNow_80 rfl (lv_at hl 5 rfl) ?_
  refine x_get (v := .int 0) C w 0 10 7 (xin_X6 _) rfl rfl (by decide) (List.mem_cons_of_mem _ gw_1012) rfl rfl dX6_houseNow_81 ?_
  refine x_iast (k := 4) C w 2 1 rfl rfl (xvin (by decide)) (by decide) dX6_houseNow_84 (fun H locs w => ?_)
  have w : xW G A s [(h0, .inr (10, [.ref h2, .ref h4, .ref h3, .ref h5, .ref h1, .ref h6, .ref h7, .int 0, .int 0])), (h1, .inl (cy 2, 3, .inl (fun _ => 0))), (q4320, .inl (cy 1, 5, .inl (upd (upd (upd (upd (upd (fun _ => 0) 0 0) 1 0) 2 0) 3 0) 4 0))), (h2, .inr (3, [.int 0, .ref (sv 0), .int 0])), (h3, .inr (3, [.int 0, .ref (sv 0), .int 0])), (h4, .inr (3, [.int 0, .ref (sv 0), .int 0]))] H _ := w
  refine lv_astore_n (lv' := [(3, .ref q4320), (5, .int 3), (2, .int 0), (6, .int 0), (4, .int 3), (0, .ref h0), (1, .int 4)]) C.1 C.2.1 dX6_houseNow_85 rfl hl (by decide) rfl (fun ls hl => ?_)
  refine lv_aload_n C.1 C.2.1 dX6_houseNow_86 rfl (lv_at hl 0 rfl) ?_
  refine lv_iload_n C.1 C.2.1 dX6_houseNow_87 rfl (lv_at hl 6 rfl) ?_
  refine x_iald (v := 0) C w 2 1 rfl rfl (xvin (by decide)) (by rfl) dX6_houseNow_88 ?_
  have w := w.sub (ws' := [(h0, .inr (10, [.ref h2, .ref h4, .ref h3, .ref h5, .ref h1, .ref h6, .ref h7, .int 0, .int 0])), (h1, .inl (cy 2, 3, .inl (fun _ => 0))), (h2, .inr (3, [.int 0, .ref (sv 0), .int 0])), (h3, .inr (3, [.int 0, .ref (sv 0), .int 0])), (h4, .inr (3, [.int 0, .ref (sv 0), .int 0]))]) [0, 1, 3, 4, 5] (by decide) rfl rfl
  exact x_iret C w hr (fun _ => 0) rfl rfl dX6_houseNow_89 (Nat.le_of_ble_eq_true rfl) (Nat.le_of_ble_eq_true rfl)
set_option maxHeartbeats 4000000 in
set_option maxRecDepth 100000 in
theorem c620_X6_house (l : Launch) (G : va_G) (cy : Nat → ClassId) (sa : String → Nat → Nat) (sv : Nat → Nat) (h0 h1 h2 h3 h4 h5 h6 h7 : Nat) : xM l G cy sa sv yX6_house (Cond.code yX6_house cX6_house 2 (some .int) :: XG) { frames := 10, cells := 1, slots := 5, locals := 296 } [.ref h0, .int 4] [(h0, .inr (10, [.ref h2, .ref h4, .ref h3, .ref h5, .ref h1, .ref h6, .ref h7, .int 0, .int 0])), (h1, .inl (cy 2, 3, .inl (fun _ => 0))), (h2, .inr (3, [.int 0, .ref (sv 0), .int 0])), (h3, .inr (3, [.int 0, .ref (sv 0), .int 0])), (h4, .inr (3, [.int 0, .ref (sv 0), .int 0]))] (xQi G (fun f => [(h0, .inr (10, [.ref h2, .ref h4, .ref h3, .ref h5, .ref h1, .ref h6, .ref h7, .int 0, .int 0])), (h1, .inl (cy 2, 3, .inl (fun _ => 0))), (h2, .inr (3, [.int 0, .ref (sv 0), .int 0])), (h3, .inr (3, [.int 0, .ref (sv 0), .int 0])), (h4, .inr (3, [.int 0, .ref (sv 0), .int 0]))]) 0) := by
  refine xof (by decide) (Nat.le_of_ble_eq_true rfl) (fun p e s m below meth c A C w hr hn ls hl => ?_)
  have hl : lv_has ls 2 [(0, .ref h0), (1, .int 4)] := hl
  refine lv_aload_n C.1 C.2.1 dX6_house_0 rfl (lv_at hl 0 rfl) ?_
  refine lv_iload_n C.1 C.2.1 dX6_house_1 rfl (lv_at hl 1 rfl) ?_
  refine lv_if_lt (tgt := 10) C.1 C.2.1 dX6_house_2 (by decide) (fun c9 => absurd c9 (by decide)) (fun _ => ?_)
  refine lv_iload_n C.1 C.2.1 dX6_house_5 rfl (lv_at hl 1 rfl) ?_
  refine lv_iconst (v := 4) C.1 C.2.1 dX6_house_6 (by decide) ?_
  refine lv_icmp_le (tgt := 14) C.1 C.2.1 dX6_house_7 (by decide) (fun _ => ?_) (fun c9 => absurd (by decide) c9)
  refine lv_iconst (v := 0) C.1 C.2.1 dX6_house_14 (by decide) ?_
  refine lv_iconst (v := 1) C.1 C.2.1 dX6_house_15 (by decide) ?_
  refine x_ki C w [0] [1, 2, 3, 4] rfl rfl (by decide) (by decide) (va_runV (As := [.int 0, .int 1]) (rest := []) (xfix C) (c46_X6_start l G cy sa sv h0 h2 h4 h3 h5 h1 h6 h7 (xtr C) _) (cwV 2 (xhts C) (xgV (maxL := 0) (cc := ⟨#[]⟩) (ret := none) gw_114 gw_115 gw_116 gw_58 gc_X6_start) rfl rfl rfl (by decide +kernel) ⟨(Nat.le_of_ble_eq_true rfl), (Nat.le_of_ble_eq_true rfl)⟩) (xPV C w [0] rfl (by decide) (ci := 10) (q0 := 0) rfl rfl) rfl rfl hl.1 rfl (lv_room (Nat.le_of_ble_eq_true rfl)) dX6_house_16 ⟨(Nat.le_of_ble_eq_true rfl), (Nat.le_of_ble_eq_true rfl)⟩) (fun f4314 H locs w => ?_)
  have w : xW G A s [(h1, .inl (cy 2, 3, .inl (fun _ => 0))), (h2, .inr (3, [.int 0, .ref (sv 0), .int 0])), (h3, .inr (3, [.int 0, .ref (sv 0), .int 0])), (h4, .inr (3, [.int 0, .ref (sv 0), .int 0])), (h0, .inr (10, [.ref h2, .ref h4, .ref h3, .ref h5, .ref h1, .ref h6, .ref h7, .int 0, .int 0]))] H _ := w
  refine lv_if_eq (tgt := 26) C.1 C.2.1 dX6_house_19 (by decide) (fun _ => ?_) (fun c9 => absurd (by decide) c9)
  refine lv_aload_n C.1 C.2.1 dX6_house_26 rfl (lv_at hl 0 rfl) ?_
  refine lv_iload_n C.1 C.2.1 dX6_house_27 rfl (lv_at hl 1 rfl) ?_
  refine x_ki C w [4, 0, 1, 2, 3] [] rfl rfl (by decide) (by decide) (va_runV (As := [.int 4]) (rest := []) (xfix C) (c619_X6_houseNow l G cy sa sv h0 h1 h2 h3 h4 h5 h6 h7 (xtr C) _) (cwV 1 (xhts C) (xgV (maxL := 0) (cc := ⟨#[]⟩) (ret := none) gw_1014 gw_1015 gw_1016 gw_58 gc_X6_houseNow) rfl rfl rfl (by decide +kernel) ⟨(Nat.le_of_ble_eq_true rfl), (Nat.le_of_ble_eq_true rfl)⟩) (xPV C w [4, 0, 1, 2, 3] rfl (by decide) (ci := 10) (q0 := 4) rfl rfl) rfl rfl hl.1 rfl (lv_room (Nat.le_of_ble_eq_true rfl)) dX6_house_28 ⟨(Nat.le_of_ble_eq_true rfl), (Nat.le_of_ble_eq_true rfl)⟩) (fun f4324 H locs w => ?_)
  have w : xW G A s [(h0, .inr (10, [.ref h2, .ref h4, .ref h3, .ref h5, .ref h1, .ref h6, .ref h7, .int 0, .int 0])), (h1, .inl (cy 2, 3, .inl (fun _ => 0))), (h2, .inr (3, [.int 0, .ref (sv 0), .int 0])), (h3, .inr (3, [.int 0, .ref (sv 0), .int 0])), (h4, .inr (3, [.int 0, .ref (sv 0), .int 0]))] H _ := w
  refine W.widen (k := 1) (n := 5) (Nat.le_of_ble_eq_true rfl) (Nat.le_of_ble_eq_true rfl) ?_
  exact x_iret C w hr (fun _ => 0) rfl rfl dX6_house_31 (Nat.le_of_ble_eq_true rfl) (Nat.le_of_ble_eq_true rfl)
set_option maxHeartbeats 4000000 in
set_option maxRecDepth 100000 in
theorem c621_X4_house (l : Launch) (G : va_G) (cy : Nat → ClassId) (sa : String → Nat → Nat) (sv : Nat → Nat) (h0 : Nat) (v0 : Int32) (p0 : (v0).toInt < 0 ∨ 4 < (v0).toInt) : xX l G cy sa sv yX4_house (Cond.code yX4_house cX4_house 2 (some .int) :: XG) { frames := 8, cells := 1, slots := 6, locals := 250 } [.ref h0, .int v0] [] (fun f => []) "java/lang/IllegalArgumentException" := by
  refine xofX (by decide) (Nat.le_of_ble_eq_true rfl) (fun p e s m below meth c A C w hno ls hl => ?_)
  have hl : lv_has ls 2 [(0, .ref h0), (1, .int v0)] := hl
  refine lv_iload_n C.1 C.2.1 dX4_house_0 rfl (lv_at hl 1 rfl) ?_
  refine lv_tableOut (tgt := 70) C.1 C.2.1 dX4_house_1 p0 (by decide) ?_
  exact x_thrW C w hno hl.1 (by decide) (List.mem_cons_of_mem _ gw_95) (List.mem_cons_of_mem _ gw_96) (tx := "what is not 0 to 4") (List.mem_of_getElem? (i := 6) rfl) (xat_203 C (fun w h => List.mem_cons_of_mem _ h)) xatg_203 dX4_house_70 dX4_house_73 dX4_house_74 dX4_house_77 dX4_house_80 (Nat.le_of_ble_eq_true rfl) (Nat.le_of_ble_eq_true rfl) (Nat.le_of_ble_eq_true rfl) (Nat.le_of_ble_eq_true rfl) rfl rfl (fun _ => 0) rfl
set_option maxHeartbeats 4000000 in
set_option maxRecDepth 100000 in
theorem c622_L_house (l : Launch) (G : va_G) (cy : Nat → ClassId) (sa : String → Nat → Nat) (sv : Nat → Nat) (h0 h1 h2 h3 h4 h5 h6 h7 h8 : Nat) (v0 : Int32) (p0 : (v0).toInt < 0 ∨ 4 < (v0).toInt) : xM l G cy sa sv yL_house (Cond.codeWith yL_house cL_house 4 (some .int) [(0, 10, 13, 19)] :: XG) { frames := 9, cells := 1, slots := 6, locals := 271 } [.ref h0, .int v0, .ref h1] [(h0, .inr (8, [.ref h2, .ref h3, .ref h4, .ref h5, .ref h6, .int 0, .ref h7, .ref h8]))] (xQi G (fun f => [(h0, .inr (8, [.ref h2, .ref h3, .ref h4, .ref h5, .ref h6, .int 0, .ref h7, .ref h8]))]) 1) := by
  refine xofH (by decide) (Nat.le_of_ble_eq_true rfl) (fun p e s m below meth c A C w hr hn hT ls hl => ?_)
  have hl : lv_has ls 4 [(0, .ref h0), (1, .int v0), (2, .ref h1)] := hl
  refine lv_aload_n C.1 C.2.1 dL_house_0 rfl (lv_at hl 2 rfl) ?_
  refine lv_aload_n C.1 C.2.1 dL_house_1 rfl (lv_at hl 0 rfl) ?_
  refine lv_iload_n C.1 C.2.1 dL_house_2 rfl (lv_at hl 1 rfl) ?_
  refine x_kx C w [] [0] rfl rfl (by decide) (by decide) (vx_runV (As := [.int v0]) (rest := [.ref h1]) (xfix C) (c621_X4_house l G cy sa sv h0 v0 p0 (xtr C) _) (cwV 1 (xhts C) (xgV (maxL := 0) (cc := ⟨#[]⟩) (ret := none) gw_1006 gw_1007 gw_1008 gw_2 gc_X4_house) rfl rfl rfl (by decide +kernel) ⟨(Nat.le_of_ble_eq_true rfl), (Nat.le_of_ble_eq_true rfl)⟩) (xPV C w [] rfl (by decide) (ci := 8) (q0 := 0) rfl rfl) rfl rfl hl.1 rfl (lv_room (Nat.le_of_ble_eq_true rfl)) dL_house_3 ⟨(Nat.le_of_ble_eq_true rfl), (Nat.le_of_ble_eq_true rfl)⟩) (fun f4332 H locs ce q9 w hce hcv hcl => ?_)
  have w : xW G A s [(h0, .inr (8, [.ref h2, .ref h3, .ref h4, .ref h5, .ref h6, .int 0, .ref h7, .ref h8]))] H _ := w
  refine vx_widen (k := 1) (n := 6) (Nat.le_of_ble_eq_true rfl) (Nat.le_of_ble_eq_true rfl) ?_
  refine vx_catch (xown C) [] ⟨0, 10, 13, 19⟩ [] hT (fun z hz => nomatch hz) (by decide) (by decide) (xhts C _ (List.mem_cons_of_mem _ gw_104)) (va_any rfl (xs_c1 (xS C))) hce hcv hcl ?_
  refine lv_astore_n (lv' := [(3, .ref q9), (0, .ref h0), (1, .int v0), (2, .ref h1)]) C.1 C.2.1 dL_house_13 rfl hl (by decide) rfl (fun ls hl => ?_)
  refine lv_iconst (v := 1) C.1 C.2.1 dL_house_14 (by decide) ?_
  exact x_iret C w hr (fun _ => 0) rfl rfl dL_house_15 (Nat.le_of_ble_eq_true rfl) (Nat.le_of_ble_eq_true rfl)
set_option maxHeartbeats 4000000 in
set_option maxRecDepth 100000 in
theorem c623_X6_house (l : Launch) (G : va_G) (cy : Nat → ClassId) (sa : String → Nat → Nat) (sv : Nat → Nat) (h0 h1 h2 h3 h4 h5 h6 h7 : Nat) (v0 : Int32) (p0 : v0 < 0) : xM l G cy sa sv yX6_house (Cond.code yX6_house cX6_house 2 (some .int) :: XG) { frames := 9, cells := 0, slots := 0, locals := 272 } [.ref h0, .int v0] [(h0, .inr (10, [.ref h1, .ref h2, .ref h3, .ref h4, .ref h5, .ref h6, .ref h7, .int 0, .int 0]))] (xQi G (fun f => [(h0, .inr (10, [.ref h1, .ref h2, .ref h3, .ref h4, .ref h5, .ref h6, .ref h7, .int 0, .int 1]))]) 0) := by
  refine xof (by decide) (Nat.le_of_ble_eq_true rfl) (fun p e s m below meth c A C w hr hn ls hl => ?_)
  have hl : lv_has ls 2 [(0, .ref h0), (1, .int v0)] := hl
  refine lv_aload_n C.1 C.2.1 dX6_house_0 rfl (lv_at hl 0 rfl) ?_
  refine lv_iload_n C.1 C.2.1 dX6_house_1 rfl (lv_at hl 1 rfl) ?_
  refine lv_if_lt (tgt := 10) C.1 C.2.1 dX6_house_2 (by decide) (fun _ => ?_) (fun c9 => absurd p0 c9)
  refine lv_iconst (v := 1) C.1 C.2.1 dX6_house_10 (by decide) ?_
  refine lv_goto (tgt := 15) C.1 C.2.1 dX6_house_11 (by decide) ?_
  refine lv_iconst (v := 1) C.1 C.2.1 dX6_house_15 (by decide) ?_
  refine x_ki C w [0] [] rfl rfl (by decide) (by decide) (va_runV (As := [.int 1, .int 1]) (rest := []) (xfix C) (c17_X6_start l G cy sa sv h0 h1 h2 h3 h4 h5 h6 h7 (xtr C) _) (cwV 2 (xhts C) (xgV (maxL := 0) (cc := ⟨#[]⟩) (ret := none) gw_114 gw_115 gw_116 gw_58 gc_X6_start) rfl rfl rfl (by decide +kernel) ⟨(Nat.le_of_ble_eq_true rfl), (Nat.le_of_ble_eq_true rfl)⟩) (xPV C w [0] rfl (by decide) (ci := 10) (q0 := 0) rfl rfl) rfl rfl hl.1 rfl (lv_room (Nat.le_of_ble_eq_true rfl)) dX6_house_16 ⟨(Nat.le_of_ble_eq_true rfl), (Nat.le_of_ble_eq_true rfl)⟩) (fun f4335 H locs w => ?_)
  have w : xW G A s [(h0, .inr (10, [.ref h1, .ref h2, .ref h3, .ref h4, .ref h5, .ref h6, .ref h7, .int 0, .int 1]))] H _ := w
  refine lv_if_eq (tgt := 26) C.1 C.2.1 dX6_house_19 (by decide) (fun c9 => absurd c9 (by decide)) (fun _ => ?_)
  refine lv_iconst (v := 0) C.1 C.2.1 dX6_house_22 (by decide) ?_
  refine lv_goto (tgt := 31) C.1 C.2.1 dX6_house_23 (by decide) ?_
  exact x_iret C w hr (fun _ => 0) rfl rfl dX6_house_31 (Nat.le_of_ble_eq_true rfl) (Nat.le_of_ble_eq_true rfl)
set_option maxHeartbeats 4000000 in
set_option maxRecDepth 100000 in
theorem c624_X6_house (l : Launch) (G : va_G) (cy : Nat → ClassId) (sa : String → Nat → Nat) (sv : Nat → Nat) (h0 h1 h2 h3 h4 h5 h6 h7 : Nat) (v0 : Int32) (p0 : ¬ v0 < 0) (p1 : ¬ v0 ≤ 4) : xM l G cy sa sv yX6_house (Cond.code yX6_house cX6_house 2 (some .int) :: XG) { frames := 9, cells := 0, slots := 0, locals := 272 } [.ref h0, .int v0] [(h0, .inr (10, [.ref h1, .ref h2, .ref h3, .ref h4, .ref h5, .ref h6, .ref h7, .int 0, .int 0]))] (xQi G (fun f => [(h0, .inr (10, [.ref h1, .ref h2, .ref h3, .ref h4, .ref h5, .ref h6, .ref h7, .int 0, .int 1]))]) 0) := by
  refine xof (by decide) (Nat.le_of_ble_eq_true rfl) (fun p e s m below meth c A C w hr hn ls hl => ?_)
  have hl : lv_has ls 2 [(0, .ref h0), (1, .int v0)] := hl
  refine lv_aload_n C.1 C.2.1 dX6_house_0 rfl (lv_at hl 0 rfl) ?_
  refine lv_iload_n C.1 C.2.1 dX6_house_1 rfl (lv_at hl 1 rfl) ?_
  refine lv_if_lt (tgt := 10) C.1 C.2.1 dX6_house_2 (by decide) (fun c9 => absurd c9 p0) (fun _ => ?_)
  refine lv_iload_n C.1 C.2.1 dX6_house_5 rfl (lv_at hl 1 rfl) ?_
  refine lv_iconst (v := 4) C.1 C.2.1 dX6_house_6 (by decide) ?_
  refine lv_icmp_le (tgt := 14) C.1 C.2.1 dX6_house_7 (by decide) (fun c9 => absurd c9 p1) (fun _ => ?_)
  refine lv_iconst (v := 1) C.1 C.2.1 dX6_house_10 (by decide) ?_
  refine lv_goto (tgt := 15) C.1 C.2.1 dX6_house_11 (by decide) ?_
  refine lv_iconst (v := 1) C.1 C.2.1 dX6_house_15 (by decide) ?_
  refine x_ki C w [0] [] rfl rfl (by decide) (by decide) (va_runV (As := [.int 1, .int 1]) (rest := []) (xfix C) (c17_X6_start l G cy sa sv h0 h1 h2 h3 h4 h5 h6 h7 (xtr C) _) (cwV 2 (xhts C) (xgV (maxL := 0) (cc := ⟨#[]⟩) (ret := none) gw_114 gw_115 gw_116 gw_58 gc_X6_start) rfl rfl rfl (by decide +kernel) ⟨(Nat.le_of_ble_eq_true rfl), (Nat.le_of_ble_eq_true rfl)⟩) (xPV C w [0] rfl (by decide) (ci := 10) (q0 := 0) rfl rfl) rfl rfl hl.1 rfl (lv_room (Nat.le_of_ble_eq_true rfl)) dX6_house_16 ⟨(Nat.le_of_ble_eq_true rfl), (Nat.le_of_ble_eq_true rfl)⟩) (fun f4345 H locs w => ?_)
  have w : xW G A s [(h0, .inr (10, [.ref h1, .ref h2, .ref h3, .ref h4, .ref h5, .ref h6, .ref h7, .int 0, .int 1]))] H _ := w
  refine lv_if_eq (tgt := 26) C.1 C.2.1 dX6_house_19 (by decide) (fun c9 => absurd c9 (by decide)) (fun _ => ?_)
  refine lv_iconst (v := 0) C.1 C.2.1 dX6_house_22 (by decide) ?_
  refine lv_goto (tgt := 31) C.1 C.2.1 dX6_house_23 (by decide) ?_
  exact x_iret C w hr (fun _ => 0) rfl rfl dX6_house_31 (Nat.le_of_ble_eq_true rfl) (Nat.le_of_ble_eq_true rfl)
set_option maxHeartbeats 4000000 in
set_option maxRecDepth 100000 in
theorem c625_X4_knock (l : Launch) (G : va_G) (cy : Nat → ClassId) (sa : String → Nat → Nat) (sv : Nat → Nat) (h0 h1 h2 h3 h4 h5 h6 h7 : Nat) : xM l G cy sa sv yX4_knock (Cond.code yX4_knock cX4_knock 1 (some .int) :: XG) { frames := 8, cells := 0, slots := 0, locals := 250 } [.ref h0] [(h0, .inr (8, [.ref h1, .ref h2, .ref h3, .ref h4, .ref h5, .int 0, .ref h6, .ref h7]))] (xQi G (fun f => [(h0, .inr (8, [.ref h1, .ref h2, .ref h3, .ref h4, .ref h5, .int 1, .ref h6, .ref h7]))]) 1) := by
  refine xof (by decide) (Nat.le_of_ble_eq_true rfl) (fun p e s m below meth c A C w hr hn ls hl => ?_)
  have hl : lv_has ls 1 [(0, .ref h0)] := hl
  refine lv_aload_n C.1 C.2.1 dX4_knock_0 rfl (lv_at hl 0 rfl) ?_
  refine lv_dup C.1 C.2.1 dX4_knock_1 rfl ?_
  refine x_get (v := .int 0) C w 0 8 5 (xin_X4 _) rfl rfl (by decide) (List.mem_cons_of_mem _ gw_50) rfl rfl dX4_knock_2 ?_
  refine lv_iconst (v := 1) C.1 C.2.1 dX4_knock_5 (by decide) ?_
  refine lv_iadd C.1 C.2.1 dX4_knock_6 ?_
  refine x_is (y := 1) (by decide) ?_
  refine x_put (ty := .int) (ty0 := tyX4) C w 0 8 5 (xin_X4 _) tyX4_ok nmX4 rfl rfl (by decide) (List.mem_cons_of_mem _ gw_50) rfl rfl (by decide +kernel) rfl rfl (Nat.le_of_ble_eq_true rfl) dX4_knock_7 (fun H locs w => ?_)
  have w : xW G A s [(h0, .inr (8, [.ref h1, .ref h2, .ref h3, .ref h4, .ref h5, .int 1, .ref h6, .ref h7]))] H _ := w
  refine lv_aload_n C.1 C.2.1 dX4_knock_10 rfl (lv_at hl 0 rfl) ?_
  refine x_get (v := .int 1) C w 0 8 5 (xin_X4 _) rfl rfl (by decide) (List.mem_cons_of_mem _ gw_50) rfl rfl dX4_knock_11 ?_
  exact x_iret C w hr (fun _ => 0) rfl rfl dX4_knock_14 (Nat.le_of_ble_eq_true rfl) (Nat.le_of_ble_eq_true rfl)
set_option maxHeartbeats 4000000 in
set_option maxRecDepth 100000 in
theorem c626_X6_knock (l : Launch) (G : va_G) (cy : Nat → ClassId) (sa : String → Nat → Nat) (sv : Nat → Nat) (h0 h1 h2 h3 h4 h5 h6 h7 : Nat) : xM l G cy sa sv yX6_knock (Cond.code yX6_knock cX6_knock 1 (some .int) :: XG) { frames := 8, cells := 0, slots := 0, locals := 250 } [.ref h0] [(h0, .inr (10, [.ref h1, .ref h2, .ref h3, .ref h4, .ref h5, .ref h6, .ref h7, .int 0, .int 0]))] (xQi G (fun f => [(h0, .inr (10, [.ref h1, .ref h2, .ref h3, .ref h4, .ref h5, .ref h6, .ref h7, .int 1, .int 0]))]) 1) := by
  refine xof (by decide) (Nat.le_of_ble_eq_true rfl) (fun p e s m below meth c A C w hr hn ls hl => ?_)
  have hl : lv_has ls 1 [(0, .ref h0)] := hl
  refine lv_aload_n C.1 C.2.1 dX6_knock_0 rfl (lv_at hl 0 rfl) ?_
  refine lv_iconst (v := 0) C.1 C.2.1 dX6_knock_1 (by decide) ?_
  refine x_put (ty := .int) (ty0 := tyX6) C w 0 10 8 (xin_X6 _) tyX6_ok nmX6 rfl rfl (by decide) (List.mem_cons_of_mem _ gw_112) rfl rfl (by decide +kernel) rfl rfl (Nat.le_of_ble_eq_true rfl) dX6_knock_2 (fun H locs w => ?_)
  have w : xW G A s [(h0, .inr (10, [.ref h1, .ref h2, .ref h3, .ref h4, .ref h5, .ref h6, .ref h7, .int 0, .int 0]))] H _ := w
  refine lv_aload_n C.1 C.2.1 dX6_knock_5 rfl (lv_at hl 0 rfl) ?_
  refine lv_dup C.1 C.2.1 dX6_knock_6 rfl ?_
  refine x_get (v := .int 0) C w 0 10 7 (xin_X6 _) rfl rfl (by decide) (List.mem_cons_of_mem _ gw_1012) rfl rfl dX6_knock_7 ?_
  refine lv_iconst (v := 1) C.1 C.2.1 dX6_knock_10 (by decide) ?_
  refine lv_iadd C.1 C.2.1 dX6_knock_11 ?_
  refine x_is (y := 1) (by decide) ?_
  refine x_put (ty := .int) (ty0 := tyX6) C w 0 10 7 (xin_X6 _) tyX6_ok nmX6 rfl rfl (by decide) (List.mem_cons_of_mem _ gw_1012) rfl rfl (by decide +kernel) rfl rfl (Nat.le_of_ble_eq_true rfl) dX6_knock_12 (fun H locs w => ?_)
  have w : xW G A s [(h0, .inr (10, [.ref h1, .ref h2, .ref h3, .ref h4, .ref h5, .ref h6, .ref h7, .int 1, .int 0]))] H _ := w
  refine lv_aload_n C.1 C.2.1 dX6_knock_15 rfl (lv_at hl 0 rfl) ?_
  refine x_get (v := .int 1) C w 0 10 7 (xin_X6 _) rfl rfl (by decide) (List.mem_cons_of_mem _ gw_1012) rfl rfl dX6_knock_16 ?_
  exact x_iret C w hr (fun _ => 0) rfl rfl dX6_knock_19 (Nat.le_of_ble_eq_true rfl) (Nat.le_of_ble_eq_true rfl)
set_option maxHeartbeats 4000000 in
set_option maxRecDepth 100000 in
theorem c627_X4_areSequencesAlike (l : Launch) (G : va_G) (cy : Nat → ClassId) (sa : String → Nat → Nat) (sv : Nat → Nat) (h0 h1 h2 h3 h4 h5 h6 h7 h8 h9 h10 h11 : Nat) : xM l G cy sa sv yX4_areSequencesAlike (Cond.code yX4_areSequencesAlike cX4_areSequencesAlike 3 (some .boolean) :: XG) { frames := 10, cells := 0, slots := 0, locals := 290 } [.ref h0] [(h0, .inr (8, [.ref h1, .ref h3, .ref h4, .ref h5, .ref h6, .int 0, .ref h7, .ref h8])), (h1, .inr (7, [.ref h2, .ref h9])), (h2, .inr (6, [.ref h10, .int 0])), (h3, .inr (6, [.ref h11, .int 0]))] (xQi G (fun f => [(h0, .inr (8, [.ref h1, .ref h3, .ref h4, .ref h5, .ref h6, .int 0, .ref h7, .ref h8])), (h1, .inr (7, [.ref h2, .ref h9])), (h2, .inr (6, [.ref h10, .int 0])), (h3, .inr (6, [.ref h11, .int 0]))]) 1) := by
  refine xof (by decide) (Nat.le_of_ble_eq_true rfl) (fun p e s m below meth c A C w hr hn ls hl => ?_)
  have hl : lv_has ls 3 [(0, .ref h0)] := hl
  refine lv_aload_n C.1 C.2.1 dX4_areSequencesAlike_0 rfl (lv_at hl 0 rfl) ?_
  refine x_get (v := .ref h1) C w 0 8 0 (xin_X4 _) rfl rfl (by decide) (List.mem_cons_of_mem _ gw_24) rfl rfl dX4_areSequencesAlike_1 ?_
  refine x_ki C w [1, 2] [0, 3] rfl rfl (by decide) (by decide) (va_runV (As := []) (rest := []) (xfix C) (c22_X3_count l G cy sa sv h1 h2 h9 h10 (xtr C) _) (cwV 0 (xhts C) (xgV (maxL := 0) (cc := ⟨#[]⟩) (ret := none) gw_130 gw_131 gw_132 gw_7 gc_X3_count) rfl rfl rfl (by decide +kernel) ⟨(Nat.le_of_ble_eq_true rfl), (Nat.le_of_ble_eq_true rfl)⟩) (xPV C w [1, 2] rfl (by decide) (ci := 7) (q0 := 1) rfl rfl) rfl rfl hl.1 rfl (lv_room (Nat.le_of_ble_eq_true rfl)) dX4_areSequencesAlike_4 ⟨(Nat.le_of_ble_eq_true rfl), (Nat.le_of_ble_eq_true rfl)⟩) (fun f4351 H locs w => ?_)
  have w : xW G A s [(h0, .inr (8, [.ref h1, .ref h3, .ref h4, .ref h5, .ref h6, .int 0, .ref h7, .ref h8])), (h3, .inr (6, [.ref h11, .int 0])), (h1, .inr (7, [.ref h2, .ref h9])), (h2, .inr (6, [.ref h10, .int 0]))] H _ := w
  refine lv_istore_n (lv' := [(1, .int 0), (0, .ref h0)]) C.1 C.2.1 dX4_areSequencesAlike_7 rfl hl (by decide) rfl (fun ls hl => ?_)
  refine lv_aload_n C.1 C.2.1 dX4_areSequencesAlike_8 rfl (lv_at hl 1 rfl) ?_
  refine x_get (v := .ref h3) C w 0 8 1 (xin_X4 _) rfl rfl (by decide) (List.mem_cons_of_mem _ gw_27) rfl rfl dX4_areSequencesAlike_9 ?_
  refine x_ki C w [1] [0, 2, 3] rfl rfl (by decide) (by decide) (va_runV (As := []) (rest := []) (xfix C) (c21_X2_count l G cy sa sv h3 h11 (xtr C) _) (cwV 0 (xhts C) (xgV (maxL := 0) (cc := ⟨#[]⟩) (ret := none) gw_316 gw_127 gw_128 gw_11 gc_X2_count) rfl rfl rfl (by decide +kernel) ⟨(Nat.le_of_ble_eq_true rfl), (Nat.le_of_ble_eq_true rfl)⟩) (xPV C w [1] rfl (by decide) (ci := 6) (q0 := 1) rfl rfl) rfl rfl hl.1 rfl (lv_room (Nat.le_of_ble_eq_true rfl)) dX4_areSequencesAlike_12 ⟨(Nat.le_of_ble_eq_true rfl), (Nat.le_of_ble_eq_true rfl)⟩) (fun f4352 H locs w => ?_)
  have w : xW G A s [(h0, .inr (8, [.ref h1, .ref h3, .ref h4, .ref h5, .ref h6, .int 0, .ref h7, .ref h8])), (h1, .inr (7, [.ref h2, .ref h9])), (h2, .inr (6, [.ref h10, .int 0])), (h3, .inr (6, [.ref h11, .int 0]))] H _ := w
  refine lv_iload_n C.1 C.2.1 dX4_areSequencesAlike_15 rfl (lv_at hl 0 rfl) ?_
  refine lv_icmp_eq (tgt := 21) C.1 C.2.1 dX4_areSequencesAlike_16 (by decide) (fun _ => ?_) (fun c9 => absurd (by decide) c9)
  refine lv_iconst (v := 0) C.1 C.2.1 dX4_areSequencesAlike_21 (by decide) ?_
  refine lv_istore_n (lv' := [(2, .int 0), (1, .int 0), (0, .ref h0)]) C.1 C.2.1 dX4_areSequencesAlike_22 rfl hl (by decide) rfl (fun ls hl => ?_)
  refine lv_iload_n C.1 C.2.1 dX4_areSequencesAlike_23 rfl (lv_at hl 0 rfl) ?_
  refine lv_iload_n C.1 C.2.1 dX4_areSequencesAlike_24 rfl (lv_at hl 1 rfl) ?_
  refine lv_icmp_ge (tgt := 73) C.1 C.2.1 dX4_areSequencesAlike_25 (by decide) (fun _ => ?_) (fun c9 => absurd (by decide) c9)
  refine lv_iconst (v := 1) C.1 C.2.1 dX4_areSequencesAlike_73 (by decide) ?_
  exact x_zret C w hr rfl (fun _ => 0) rfl rfl dX4_areSequencesAlike_74 (Nat.le_of_ble_eq_true rfl) (Nat.le_of_ble_eq_true rfl)
set_option maxHeartbeats 4000000 in
set_option maxRecDepth 100000 in
theorem c628_X4_areNeighboursRight (l : Launch) (G : va_G) (cy : Nat → ClassId) (sa : String → Nat → Nat) (sv : Nat → Nat) (h0 h1 h2 h3 h4 h5 h6 h7 h8 h9 h10 : Nat) : xM l G cy sa sv yX4_areNeighboursRight (Cond.code yX4_areNeighboursRight cX4_areNeighboursRight 6 (some .boolean) :: XG) { frames := 10, cells := 0, slots := 0, locals := 290 } [.ref h0] [(h0, .inr (8, [.ref h1, .ref h3, .ref h4, .ref h5, .ref h6, .int 0, .ref h7, .ref h8])), (h1, .inr (7, [.ref h2, .ref h9])), (h2, .inr (6, [.ref h10, .int 0]))] (xQi G (fun f => [(h0, .inr (8, [.ref h1, .ref h3, .ref h4, .ref h5, .ref h6, .int 0, .ref h7, .ref h8])), (h1, .inr (7, [.ref h2, .ref h9])), (h2, .inr (6, [.ref h10, .int 0]))]) 1) := by
  refine xof (by decide) (Nat.le_of_ble_eq_true rfl) (fun p e s m below meth c A C w hr hn ls hl => ?_)
  have hl : lv_has ls 6 [(0, .ref h0)] := hl
  refine lv_aload_n C.1 C.2.1 dX4_areNeighboursRight_0 rfl (lv_at hl 0 rfl) ?_
  refine x_get (v := .ref h1) C w 0 8 0 (xin_X4 _) rfl rfl (by decide) (List.mem_cons_of_mem _ gw_24) rfl rfl dX4_areNeighboursRight_1 ?_
  refine x_ki C w [1, 2] [0] rfl rfl (by decide) (by decide) (va_runV (As := []) (rest := []) (xfix C) (c22_X3_count l G cy sa sv h1 h2 h9 h10 (xtr C) _) (cwV 0 (xhts C) (xgV (maxL := 0) (cc := ⟨#[]⟩) (ret := none) gw_130 gw_131 gw_132 gw_7 gc_X3_count) rfl rfl rfl (by decide +kernel) ⟨(Nat.le_of_ble_eq_true rfl), (Nat.le_of_ble_eq_true rfl)⟩) (xPV C w [1, 2] rfl (by decide) (ci := 7) (q0 := 1) rfl rfl) rfl rfl hl.1 rfl (lv_room (Nat.le_of_ble_eq_true rfl)) dX4_areNeighboursRight_4 ⟨(Nat.le_of_ble_eq_true rfl), (Nat.le_of_ble_eq_true rfl)⟩) (fun f4355 H locs w => ?_)
  have w : xW G A s [(h0, .inr (8, [.ref h1, .ref h3, .ref h4, .ref h5, .ref h6, .int 0, .ref h7, .ref h8])), (h1, .inr (7, [.ref h2, .ref h9])), (h2, .inr (6, [.ref h10, .int 0]))] H _ := w
  refine lv_istore_n (lv' := [(1, .int 0), (0, .ref h0)]) C.1 C.2.1 dX4_areNeighboursRight_7 rfl hl (by decide) rfl (fun ls hl => ?_)
  refine lv_iconst (v := 0) C.1 C.2.1 dX4_areNeighboursRight_8 (by decide) ?_
  refine lv_istore_n (lv' := [(2, .int 0), (1, .int 0), (0, .ref h0)]) C.1 C.2.1 dX4_areNeighboursRight_9 rfl hl (by decide) rfl (fun ls hl => ?_)
  refine lv_iload_n C.1 C.2.1 dX4_areNeighboursRight_10 rfl (lv_at hl 0 rfl) ?_
  refine lv_iload_n C.1 C.2.1 dX4_areNeighboursRight_11 rfl (lv_at hl 1 rfl) ?_
  refine lv_icmp_ge (tgt := 131) C.1 C.2.1 dX4_areNeighboursRight_12 (by decide) (fun _ => ?_) (fun c9 => absurd (by decide) c9)
  refine lv_iconst (v := 1) C.1 C.2.1 dX4_areNeighboursRight_131 (by decide) ?_
  exact x_zret C w hr rfl (fun _ => 0) rfl rfl dX4_areNeighboursRight_132 (Nat.le_of_ble_eq_true rfl) (Nat.le_of_ble_eq_true rfl)
set_option maxHeartbeats 4000000 in
set_option maxRecDepth 100000 in
theorem c629_X4_areHalvesWhole (l : Launch) (G : va_G) (cy : Nat → ClassId) (sa : String → Nat → Nat) (sv : Nat → Nat) (h0 h1 h2 h3 h4 h5 h6 h7 h8 h9 h10 : Nat) : xM l G cy sa sv yX4_areHalvesWhole (Cond.code yX4_areHalvesWhole cX4_areHalvesWhole 5 (some .boolean) :: XG) { frames := 10, cells := 0, slots := 0, locals := 290 } [.ref h0] [(h0, .inr (8, [.ref h1, .ref h3, .ref h4, .ref h5, .ref h6, .int 0, .ref h7, .ref h8])), (h1, .inr (7, [.ref h2, .ref h9])), (h2, .inr (6, [.ref h10, .int 0]))] (xQi G (fun f => [(h0, .inr (8, [.ref h1, .ref h3, .ref h4, .ref h5, .ref h6, .int 0, .ref h7, .ref h8])), (h1, .inr (7, [.ref h2, .ref h9])), (h2, .inr (6, [.ref h10, .int 0]))]) 1) := by
  refine xof (by decide) (Nat.le_of_ble_eq_true rfl) (fun p e s m below meth c A C w hr hn ls hl => ?_)
  have hl : lv_has ls 5 [(0, .ref h0)] := hl
  refine lv_aload_n C.1 C.2.1 dX4_areHalvesWhole_0 rfl (lv_at hl 0 rfl) ?_
  refine x_get (v := .ref h1) C w 0 8 0 (xin_X4 _) rfl rfl (by decide) (List.mem_cons_of_mem _ gw_24) rfl rfl dX4_areHalvesWhole_1 ?_
  refine x_ki C w [1, 2] [0] rfl rfl (by decide) (by decide) (va_runV (As := []) (rest := []) (xfix C) (c22_X3_count l G cy sa sv h1 h2 h9 h10 (xtr C) _) (cwV 0 (xhts C) (xgV (maxL := 0) (cc := ⟨#[]⟩) (ret := none) gw_130 gw_131 gw_132 gw_7 gc_X3_count) rfl rfl rfl (by decide +kernel) ⟨(Nat.le_of_ble_eq_true rfl), (Nat.le_of_ble_eq_true rfl)⟩) (xPV C w [1, 2] rfl (by decide) (ci := 7) (q0 := 1) rfl rfl) rfl rfl hl.1 rfl (lv_room (Nat.le_of_ble_eq_true rfl)) dX4_areHalvesWhole_4 ⟨(Nat.le_of_ble_eq_true rfl), (Nat.le_of_ble_eq_true rfl)⟩) (fun f4358 H locs w => ?_)
  have w : xW G A s [(h0, .inr (8, [.ref h1, .ref h3, .ref h4, .ref h5, .ref h6, .int 0, .ref h7, .ref h8])), (h1, .inr (7, [.ref h2, .ref h9])), (h2, .inr (6, [.ref h10, .int 0]))] H _ := w
  refine lv_istore_n (lv' := [(1, .int 0), (0, .ref h0)]) C.1 C.2.1 dX4_areHalvesWhole_7 rfl hl (by decide) rfl (fun ls hl => ?_)
  refine lv_iconst (v := 0) C.1 C.2.1 dX4_areHalvesWhole_8 (by decide) ?_
  refine lv_istore_n (lv' := [(2, .int 0), (1, .int 0), (0, .ref h0)]) C.1 C.2.1 dX4_areHalvesWhole_9 rfl hl (by decide) rfl (fun ls hl => ?_)
  refine lv_iload_n C.1 C.2.1 dX4_areHalvesWhole_10 rfl (lv_at hl 0 rfl) ?_
  refine lv_iload_n C.1 C.2.1 dX4_areHalvesWhole_11 rfl (lv_at hl 1 rfl) ?_
  refine lv_icmp_ge (tgt := 73) C.1 C.2.1 dX4_areHalvesWhole_12 (by decide) (fun _ => ?_) (fun c9 => absurd (by decide) c9)
  refine lv_iconst (v := 1) C.1 C.2.1 dX4_areHalvesWhole_73 (by decide) ?_
  exact x_zret C w hr rfl (fun _ => 0) rfl rfl dX4_areHalvesWhole_74 (Nat.le_of_ble_eq_true rfl) (Nat.le_of_ble_eq_true rfl)
set_option maxHeartbeats 4000000 in
set_option maxRecDepth 100000 in
theorem c630_X3_placeNear (l : Launch) (G : va_G) (cy : Nat → ClassId) (sa : String → Nat → Nat) (sv : Nat → Nat) (h0 h1 h2 h3 : Nat) : xM l G cy sa sv yX3_placeNear (Cond.code yX3_placeNear cX3_placeNear 8 (some .int) :: XG) { frames := 11, cells := 0, slots := 0, locals := 314 } [.ref h0, .int (-2147483648), .int 2147483647, .int 2147483647, .int 1] [(h0, .inr (7, [.ref h1, .ref h2])), (h1, .inr (6, [.ref h3, .int 0]))] (xQi G (fun f => [(h0, .inr (7, [.ref h1, .ref h2])), (h1, .inr (6, [.ref h3, .int 0]))]) (-1)) := by
  refine xof (by decide) (Nat.le_of_ble_eq_true rfl) (fun p e s m below meth c A C w hr hn ls hl => ?_)
  have hl : lv_has ls 8 [(0, .ref h0), (1, .int (-2147483648)), (2, .int 2147483647), (3, .int 2147483647), (4, .int 1)] := hl
  refine lv_aload_n C.1 C.2.1 dX3_placeNear_0 rfl (lv_at hl 0 rfl) ?_
  refine lv_iload_n C.1 C.2.1 dX3_placeNear_1 rfl (lv_at hl 1 rfl) ?_
  refine x_ki C w [0, 1] [] rfl rfl (by decide) (by decide) (va_runV (As := [.int (-2147483648)]) (rest := []) (xfix C) (c110_X3_countBelow l G cy sa sv h0 h1 h2 h3 (xtr C) _) (cwV 1 (xhts C) (xgV (maxL := 0) (cc := ⟨#[]⟩) (ret := none) gw_158 gw_159 gw_160 gw_7 gc_X3_countBelow) rfl rfl rfl (by decide +kernel) ⟨(Nat.le_of_ble_eq_true rfl), (Nat.le_of_ble_eq_true rfl)⟩) (xPV C w [0, 1] rfl (by decide) (ci := 7) (q0 := 0) rfl rfl) rfl rfl hl.1 rfl (lv_room (Nat.le_of_ble_eq_true rfl)) dX3_placeNear_2 ⟨(Nat.le_of_ble_eq_true rfl), (Nat.le_of_ble_eq_true rfl)⟩) (fun f4361 H locs w => ?_)
  have w : xW G A s [(h0, .inr (7, [.ref h1, .ref h2])), (h1, .inr (6, [.ref h3, .int 0]))] H _ := w
  refine lv_istore (lv' := [(5, .int 0), (0, .ref h0), (1, .int (-2147483648)), (2, .int 2147483647), (3, .int 2147483647), (4, .int 1)]) C.1 C.2.1 dX3_placeNear_5 hl (by decide) rfl (fun ls hl => ?_)
  refine lv_aload_n C.1 C.2.1 dX3_placeNear_7 rfl (lv_at hl 1 rfl) ?_
  refine lv_iload_n C.1 C.2.1 dX3_placeNear_8 rfl (lv_at hl 3 rfl) ?_
  refine x_ki C w [0, 1] [] rfl rfl (by decide) (by decide) (va_runV (As := [.int 2147483647]) (rest := []) (xfix C) (c108_X3_countNotAbove l G cy sa sv h0 h1 h2 h3 (xtr C) _) (cwV 1 (xhts C) (xgV (maxL := 0) (cc := ⟨#[]⟩) (ret := none) gw_392 gw_309 gw_310 gw_7 gc_X3_countNotAbove) rfl rfl rfl (by decide +kernel) ⟨(Nat.le_of_ble_eq_true rfl), (Nat.le_of_ble_eq_true rfl)⟩) (xPV C w [0, 1] rfl (by decide) (ci := 7) (q0 := 0) rfl rfl) rfl rfl hl.1 rfl (lv_room (Nat.le_of_ble_eq_true rfl)) dX3_placeNear_9 ⟨(Nat.le_of_ble_eq_true rfl), (Nat.le_of_ble_eq_true rfl)⟩) (fun f4366 H locs w => ?_)
  have w : xW G A s [(h0, .inr (7, [.ref h1, .ref h2])), (h1, .inr (6, [.ref h3, .int 0]))] H _ := w
  refine lv_iconst (v := 1) C.1 C.2.1 dX3_placeNear_12 (by decide) ?_
  refine lv_isub C.1 C.2.1 dX3_placeNear_13 ?_
  refine x_is (y := (-1)) (by decide) ?_
  refine lv_istore (lv' := [(6, .int (-1)), (5, .int 0), (0, .ref h0), (1, .int (-2147483648)), (2, .int 2147483647), (3, .int 2147483647), (4, .int 1)]) C.1 C.2.1 dX3_placeNear_14 hl (by decide) rfl (fun ls hl => ?_)
  refine lv_iload C.1 C.2.1 dX3_placeNear_16 (lv_at hl 6 rfl) ?_
  refine lv_tableIn (off := 43) (tgt := 61) C.1 C.2.1 dX3_placeNear_18 (by decide) (by decide) (by decide) (by decide) ?_
  refine lv_aload_n C.1 C.2.1 dX3_placeNear_61 rfl (lv_at hl 2 rfl) ?_
  refine lv_iload_n C.1 C.2.1 dX3_placeNear_62 rfl (lv_at hl 5 rfl) ?_
  refine x_ki C w [0, 1] [] rfl rfl (by decide) (by decide) (va_runV (As := [.int 2147483647]) (rest := []) (xfix C) (c108_X3_countNotAbove l G cy sa sv h0 h1 h2 h3 (xtr C) _) (cwV 1 (xhts C) (xgV (maxL := 0) (cc := ⟨#[]⟩) (ret := none) gw_392 gw_309 gw_310 gw_7 gc_X3_countNotAbove) rfl rfl rfl (by decide +kernel) ⟨(Nat.le_of_ble_eq_true rfl), (Nat.le_of_ble_eq_true rfl)⟩) (xPV C w [0, 1] rfl (by decide) (ci := 7) (q0 := 0) rfl rfl) rfl rfl hl.1 rfl (lv_room (Nat.le_of_ble_eq_true rfl)) dX3_placeNear_63 ⟨(Nat.le_of_ble_eq_true rfl), (Nat.le_of_ble_eq_true rfl)⟩) (fun f4371 H locs w => ?_)
  have w : xW G A s [(h0, .inr (7, [.ref h1, .ref h2])), (h1, .inr (6, [.ref h3, .int 0]))] H _ := w
  refine lv_iconst (v := 1) C.1 C.2.1 dX3_placeNear_66 (by decide) ?_
  refine lv_isub C.1 C.2.1 dX3_placeNear_67 ?_
  refine x_is (y := (-1)) (by decide) ?_
  refine lv_iload C.1 C.2.1 dX3_placeNear_68 (lv_at hl 0 rfl) ?_
  refine va_mmin C.1 C.2.1 (C.2.2.1.trans hl.1.symm) (xown C) (xhts C _ (List.mem_cons_of_mem _ gw_419)) (xhts C _ (List.mem_cons_of_mem _ gw_420)) (xhts C _ (List.mem_cons_of_mem _ gw_217)) (xhts C _ (List.mem_cons_of_mem _ gm_min)) (Nat.le_of_ble_eq_true rfl) (Nat.le_of_ble_eq_true rfl) (Nat.le_of_ble_eq_true rfl) (Nat.le_of_ble_eq_true rfl) dX3_placeNear_70 ?_
  refine x_is (y := (-1)) (if_neg (by decide)) ?_
  refine lv_istore (lv' := [(7, .int (-1)), (6, .int (-1)), (5, .int 0), (0, .ref h0), (1, .int (-2147483648)), (2, .int 2147483647), (3, .int 2147483647), (4, .int 1)]) C.1 C.2.1 dX3_placeNear_73 hl (by decide) rfl (fun ls hl => ?_)
  refine lv_goto (tgt := 105) C.1 C.2.1 dX3_placeNear_75 (by decide) ?_
  refine lv_iload C.1 C.2.1 dX3_placeNear_105 (lv_at hl 2 rfl) ?_
  refine lv_iload C.1 C.2.1 dX3_placeNear_107 (lv_at hl 1 rfl) ?_
  refine lv_iload C.1 C.2.1 dX3_placeNear_109 (lv_at hl 0 rfl) ?_
  refine x_ki C w [] [0, 1] rfl rfl (by decide) (by decide) (va_runSN (As := [.int 0, .int (-1), .int (-1)]) (rest := []) (xfix C) (c142_X4_isBetween l G cy sa sv (xtr C) _) ⟨(va_cnB 3 (xhts C) (xgI gc_X4_isBetween) rfl rfl rfl (xs_mB (xS C)) (xhts C _ (List.mem_cons_of_mem _ gw_2)) (by decide +kernel) ⟨(Nat.le_of_ble_eq_true rfl), (Nat.le_of_ble_eq_true rfl)⟩), xhts C _ (List.mem_cons_of_mem _ gw_422), trivial⟩ (xPS C w [] rfl (by decide)) rfl rfl hl.1 rfl (lv_room (Nat.le_of_ble_eq_true rfl)) dX3_placeNear_111 ⟨(Nat.le_of_ble_eq_true rfl), (Nat.le_of_ble_eq_true rfl)⟩) (fun f4372 H locs w => ?_)
  have w : xW G A s [(h0, .inr (7, [.ref h1, .ref h2])), (h1, .inr (6, [.ref h3, .int 0]))] H _ := w
  refine lv_if_eq (tgt := 122) C.1 C.2.1 dX3_placeNear_114 (by decide) (fun _ => ?_) (fun c9 => absurd (by decide) c9)
  refine lv_iconst (v := (-1)) C.1 C.2.1 dX3_placeNear_122 (by decide) ?_
  exact x_iret C w hr (fun _ => 0) rfl rfl dX3_placeNear_123 (Nat.le_of_ble_eq_true rfl) (Nat.le_of_ble_eq_true rfl)
set_option maxHeartbeats 4000000 in
set_option maxRecDepth 100000 in
theorem c631_X4_isTurnedAlike (l : Launch) (G : va_G) (cy : Nat → ClassId) (sa : String → Nat → Nat) (sv : Nat → Nat) (h0 h1 h2 h3 h4 h5 h6 h7 h8 h9 h10 : Nat) : xM l G cy sa sv yX4_isTurnedAlike (Cond.code yX4_isTurnedAlike cX4_isTurnedAlike 3 (some .boolean) :: XG) { frames := 12, cells := 0, slots := 0, locals := 341 } [.ref h0] [(h0, .inr (8, [.ref h1, .ref h3, .ref h4, .ref h5, .ref h6, .int 0, .ref h7, .ref h8])), (h1, .inr (7, [.ref h2, .ref h9])), (h2, .inr (6, [.ref h10, .int 0]))] (xQi G (fun f => [(h0, .inr (8, [.ref h1, .ref h3, .ref h4, .ref h5, .ref h6, .int 0, .ref h7, .ref h8])), (h1, .inr (7, [.ref h2, .ref h9])), (h2, .inr (6, [.ref h10, .int 0]))]) 1) := by
  refine xof (by decide) (Nat.le_of_ble_eq_true rfl) (fun p e s m below meth c A C w hr hn ls hl => ?_)
  have hl : lv_has ls 3 [(0, .ref h0)] := hl
  refine lv_aload_n C.1 C.2.1 dX4_isTurnedAlike_0 rfl (lv_at hl 0 rfl) ?_
  refine x_get (v := .ref h1) C w 0 8 0 (xin_X4 _) rfl rfl (by decide) (List.mem_cons_of_mem _ gw_24) rfl rfl dX4_isTurnedAlike_1 ?_
  refine x_ldc (v := (-2147483648)) C (List.mem_cons_of_mem _ gw_305) dX4_isTurnedAlike_4 ?_
  refine x_ldc (v := 2147483647) C (List.mem_cons_of_mem _ gw_306) dX4_isTurnedAlike_6 ?_
  refine x_ldc (v := 2147483647) C (List.mem_cons_of_mem _ gw_306) dX4_isTurnedAlike_8 ?_
  refine lv_iconst (v := 1) C.1 C.2.1 dX4_isTurnedAlike_10 (by decide) ?_
  refine x_ki C w [1, 2] [0] rfl rfl (by decide) (by decide) (va_runV (As := [.int (-2147483648), .int 2147483647, .int 2147483647, .int 1]) (rest := []) (xfix C) (c630_X3_placeNear l G cy sa sv h1 h2 h9 h10 (xtr C) _) (cwV 4 (xhts C) (xgV (maxL := 0) (cc := ⟨#[]⟩) (ret := none) gw_424 gw_425 gw_426 gw_7 gc_X3_placeNear) rfl rfl rfl (by decide +kernel) ⟨(Nat.le_of_ble_eq_true rfl), (Nat.le_of_ble_eq_true rfl)⟩) (xPV C w [1, 2] rfl (by decide) (ci := 7) (q0 := 1) rfl rfl) rfl rfl hl.1 rfl (lv_room (Nat.le_of_ble_eq_true rfl)) dX4_isTurnedAlike_11 ⟨(Nat.le_of_ble_eq_true rfl), (Nat.le_of_ble_eq_true rfl)⟩) (fun f4373 H locs w => ?_)
  have w : xW G A s [(h0, .inr (8, [.ref h1, .ref h3, .ref h4, .ref h5, .ref h6, .int 0, .ref h7, .ref h8])), (h1, .inr (7, [.ref h2, .ref h9])), (h2, .inr (6, [.ref h10, .int 0]))] H _ := w
  refine lv_istore_n (lv' := [(1, .int (-1)), (0, .ref h0)]) C.1 C.2.1 dX4_isTurnedAlike_14 rfl hl (by decide) rfl (fun ls hl => ?_)
  refine lv_aload_n C.1 C.2.1 dX4_isTurnedAlike_15 rfl (lv_at hl 1 rfl) ?_
  refine x_get (v := .ref h1) C w 0 8 0 (xin_X4 _) rfl rfl (by decide) (List.mem_cons_of_mem _ gw_24) rfl rfl dX4_isTurnedAlike_16 ?_
  refine x_ki C w [1, 2] [0] rfl rfl (by decide) (by decide) (va_runV (As := []) (rest := []) (xfix C) (c22_X3_count l G cy sa sv h1 h2 h9 h10 (xtr C) _) (cwV 0 (xhts C) (xgV (maxL := 0) (cc := ⟨#[]⟩) (ret := none) gw_130 gw_131 gw_132 gw_7 gc_X3_count) rfl rfl rfl (by decide +kernel) ⟨(Nat.le_of_ble_eq_true rfl), (Nat.le_of_ble_eq_true rfl)⟩) (xPV C w [1, 2] rfl (by decide) (ci := 7) (q0 := 1) rfl rfl) rfl rfl hl.1 rfl (lv_room (Nat.le_of_ble_eq_true rfl)) dX4_isTurnedAlike_19 ⟨(Nat.le_of_ble_eq_true rfl), (Nat.le_of_ble_eq_true rfl)⟩) (fun f4375 H locs w => ?_)
  have w : xW G A s [(h0, .inr (8, [.ref h1, .ref h3, .ref h4, .ref h5, .ref h6, .int 0, .ref h7, .ref h8])), (h1, .inr (7, [.ref h2, .ref h9])), (h2, .inr (6, [.ref h10, .int 0]))] H _ := w
  refine lv_iconst (v := 1) C.1 C.2.1 dX4_isTurnedAlike_22 (by decide) ?_
  refine lv_isub C.1 C.2.1 dX4_isTurnedAlike_23 ?_
  refine x_is (y := (-1)) (by decide) ?_
  refine lv_istore_n (lv' := [(2, .int (-1)), (1, .int (-1)), (0, .ref h0)]) C.1 C.2.1 dX4_isTurnedAlike_24 rfl hl (by decide) rfl (fun ls hl => ?_)
  refine lv_iload_n C.1 C.2.1 dX4_isTurnedAlike_25 rfl (lv_at hl 0 rfl) ?_
  refine lv_if_lt (tgt := 63) C.1 C.2.1 dX4_isTurnedAlike_26 (by decide) (fun _ => ?_) (fun c9 => absurd (by decide) c9)
  refine lv_iload_n C.1 C.2.1 dX4_isTurnedAlike_63 rfl (lv_at hl 1 rfl) ?_
  refine lv_iconst (v := (-1)) C.1 C.2.1 dX4_isTurnedAlike_64 (by decide) ?_
  refine lv_icmp_ne (tgt := 72) C.1 C.2.1 dX4_isTurnedAlike_65 (by decide) (fun c9 => absurd (by decide) c9) (fun _ => ?_)
  refine lv_iconst (v := 1) C.1 C.2.1 dX4_isTurnedAlike_68 (by decide) ?_
  refine lv_goto (tgt := 73) C.1 C.2.1 dX4_isTurnedAlike_69 (by decide) ?_
  exact x_zret C w hr rfl (fun _ => 0) rfl rfl dX4_isTurnedAlike_73 (Nat.le_of_ble_eq_true rfl) (Nat.le_of_ble_eq_true rfl)
