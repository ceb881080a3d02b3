set_option maxHeartbeats 4000000 in
set_option maxRecDepth 100000 in
theorem c581_X4_steps (l : Launch) (G : va_G) (cy : Nat → ClassId) (sa : String → Nat → Nat) (sv : Nat → Nat) (h0 h1 h2 h3 h4 h5 h6 h7 h8 h9 h10 h11 : Nat) : xM l G cy sa sv yX4_steps (Cond.code yX4_steps cX4_steps 1 (some .int) :: XG) { frames := 10, cells := 0, slots := 0, locals := 290 } [.ref h0] [(h0, .inr (8, [.ref h3, .ref h4, .ref h1, .ref h5, .ref h6, .int 0, .ref h7, .ref h8])), (h1, .inr (5, [.ref h9, .ref h10, .ref h2, .int 0])), (h2, .inr (6, [.ref h11, .int 0]))] (xQi G (fun f => [(h0, .inr (8, [.ref h3, .ref h4, .ref h1, .ref h5, .ref h6, .int 0, .ref h7, .ref h8])), (h1, .inr (5, [.ref h9, .ref h10, .ref h2, .int 0])), (h2, .inr (6, [.ref h11, .int 0]))]) 0) := by
  refine xof (by decide) (Nat.le_of_ble_eq_true rfl) (fun p e s m below meth c A C w hr hn ls hl => ?_)
  have hl : lv_has ls 1 [(0, .ref h0)] := hl
  refine lv_aload_n C.1 C.2.1 dX4_steps_0 rfl (lv_at hl 0 rfl) ?_
  refine x_get (v := .ref h1) C w 0 8 2 (xin_X4 _) rfl rfl (by decide) (List.mem_cons_of_mem _ gw_41) rfl rfl dX4_steps_1 ?_
  refine x_ki C w [1, 2] [0] rfl rfl (by decide) (by decide) (va_runV (As := []) (rest := []) (xfix C) (c578_X1_count l G cy sa sv h1 h2 h9 h10 h11 (xtr C) _) (cwV 0 (xhts C) (xgV (maxL := 0) (cc := ⟨#[]⟩) (ret := none) gw_915 gw_916 gw_917 gw_30 gc_X1_count) rfl rfl rfl (by decide +kernel) ⟨(Nat.le_of_ble_eq_true rfl), (Nat.le_of_ble_eq_true rfl)⟩) (xPV C w [1, 2] rfl (by decide) (ci := 5) (q0 := 1) rfl rfl) rfl rfl hl.1 rfl (lv_room (Nat.le_of_ble_eq_true rfl)) dX4_steps_4 ⟨(Nat.le_of_ble_eq_true rfl), (Nat.le_of_ble_eq_true rfl)⟩) (fun f4082 H locs w => ?_)
  have w : xW G A s [(h0, .inr (8, [.ref h3, .ref h4, .ref h1, .ref h5, .ref h6, .int 0, .ref h7, .ref h8])), (h1, .inr (5, [.ref h9, .ref h10, .ref h2, .int 0])), (h2, .inr (6, [.ref h11, .int 0]))] H _ := w
  exact x_iret C w hr (fun _ => 0) rfl rfl dX4_steps_7 (Nat.le_of_ble_eq_true rfl) (Nat.le_of_ble_eq_true rfl)
set_option maxHeartbeats 4000000 in
set_option maxRecDepth 100000 in
theorem c582_X6_steps (l : Launch) (G : va_G) (cy : Nat → ClassId) (sa : String → Nat → Nat) (sv : Nat → Nat) (h0 h1 h2 h3 h4 h5 h6 h7 : Nat) : xM l G cy sa sv yX6_steps (Cond.code yX6_steps cX6_steps 1 (some .int) :: XG) { frames := 9, cells := 0, slots := 0, locals := 270 } [.ref h0] [(h0, .inr (10, [.ref h2, .ref h3, .ref h1, .ref h4, .ref h5, .ref h6, .ref h7, .int 0, .int 0])), (h1, .inr (3, [.int 0, .ref (sv 0), .int 0]))] (xQi G (fun f => [(h0, .inr (10, [.ref h2, .ref h3, .ref h1, .ref h4, .ref h5, .ref h6, .ref h7, .int 0, .int 0])), (h1, .inr (3, [.int 0, .ref (sv 0), .int 0]))]) 0) := by
  refine xof (by decide) (Nat.le_of_ble_eq_true rfl) (fun p e s m below meth c A C w hr hn ls hl => ?_)
  have hl : lv_has ls 1 [(0, .ref h0)] := hl
  refine lv_aload_n C.1 C.2.1 dX6_steps_0 rfl (lv_at hl 0 rfl) ?_
  refine lv_iconst (v := 0) C.1 C.2.1 dX6_steps_1 (by decide) ?_
  refine x_put (ty := .int) (ty0 := tyX6) C w 0 10 8 (xin_X6 _) tyX6_ok nmX6 rfl rfl (by decide) (List.mem_cons_of_mem _ gw_112) rfl rfl (by decide +kernel) rfl rfl (Nat.le_of_ble_eq_true rfl) dX6_steps_2 (fun H locs w => ?_)
  have w : xW G A s [(h0, .inr (10, [.ref h2, .ref h3, .ref h1, .ref h4, .ref h5, .ref h6, .ref h7, .int 0, .int 0])), (h1, .inr (3, [.int 0, .ref (sv 0), .int 0]))] H _ := w
  refine lv_aload_n C.1 C.2.1 dX6_steps_5 rfl (lv_at hl 0 rfl) ?_
  refine x_get (v := .ref h1) C w 0 10 2 (xin_X6 _) rfl rfl (by decide) (List.mem_cons_of_mem _ gw_80) rfl rfl dX6_steps_6 ?_
  refine x_ki C w [1] [0] rfl rfl (by decide) (by decide) (va_runV (As := []) (rest := []) (xfix C) (c47_Jx4a65c_size_8abf5 l G cy sa sv h1 (xtr C) _) (cwV 0 (xhts C) (xgV (maxL := 0) (cc := ⟨#[]⟩) (ret := none) gw_195 gw_196 gw_197 gw_62 gc_Jx4a65c_size_8abf5) rfl rfl rfl (by decide +kernel) ⟨(Nat.le_of_ble_eq_true rfl), (Nat.le_of_ble_eq_true rfl)⟩) (xPV C w [1] rfl (by decide) (ci := 3) (q0 := 1) rfl rfl) rfl rfl hl.1 rfl (lv_room (Nat.le_of_ble_eq_true rfl)) dX6_steps_9 ⟨(Nat.le_of_ble_eq_true rfl), (Nat.le_of_ble_eq_true rfl)⟩) (fun f4084 H locs w => ?_)
  have w : xW G A s [(h0, .inr (10, [.ref h2, .ref h3, .ref h1, .ref h4, .ref h5, .ref h6, .ref h7, .int 0, .int 0])), (h1, .inr (3, [.int 0, .ref (sv 0), .int 0]))] H _ := w
  exact x_iret C w hr (fun _ => 0) rfl rfl dX6_steps_12 (Nat.le_of_ble_eq_true rfl) (Nat.le_of_ble_eq_true rfl)
set_option maxHeartbeats 4000000 in
set_option maxRecDepth 100000 in
theorem c583_X1_empty (l : Launch) (G : va_G) (cy : Nat → ClassId) (sa : String → Nat → Nat) (sv : Nat → Nat) (h0 h1 h2 h3 h4 h5 h6 : Nat) : xM l G cy sa sv yX1_empty (Cond.code yX1_empty cX1_empty 1 none :: XG) { frames := 9, cells := 0, slots := 0, locals := 270 } [.ref h0] [(h0, .inr (5, [.ref h1, .ref h2, .ref h3, .int 0])), (h1, .inr (6, [.ref h4, .int 0])), (h2, .inr (6, [.ref h5, .int 0])), (h3, .inr (6, [.ref h6, .int 0]))] (xQv G (fun f => [(h0, .inr (5, [.ref h1, .ref h2, .ref h3, .int 0])), (h1, .inr (6, [.ref h4, .int 0])), (h2, .inr (6, [.ref h5, .int 0])), (h3, .inr (6, [.ref h6, .int 0]))])) := by
  refine xof (by decide) (Nat.le_of_ble_eq_true rfl) (fun p e s m below meth c A C w hr hn ls hl => ?_)
  have hl : lv_has ls 1 [(0, .ref h0)] := hl
  refine lv_aload_n C.1 C.2.1 dX1_empty_0 rfl (lv_at hl 0 rfl) ?_
  refine x_get (v := .ref h1) C w 0 5 0 (xin_X1 _) rfl rfl (by decide) (List.mem_cons_of_mem _ gw_34) rfl rfl dX1_empty_1 ?_
  refine x_kv C w [1] [0, 2, 3] rfl rfl (by decide) (by decide) (va_runV (As := []) (rest := []) (xfix C) (c109_X2_empty l G cy sa sv h1 h4 (xtr C) _) (cwV 0 (xhts C) (xgV (maxL := 0) (cc := ⟨#[]⟩) (ret := none) gw_934 gw_313 gw_314 gw_11 gc_X2_empty) rfl rfl rfl (by decide +kernel) ⟨(Nat.le_of_ble_eq_true rfl), (Nat.le_of_ble_eq_true rfl)⟩) (xPV C w [1] rfl (by decide) (ci := 6) (q0 := 1) rfl rfl) rfl rfl hl.1 rfl (lv_room (Nat.le_of_ble_eq_true rfl)) dX1_empty_4 ⟨(Nat.le_of_ble_eq_true rfl), (Nat.le_of_ble_eq_true rfl)⟩) (fun f4088 H locs w => ?_)
  have w : xW G A s [(h0, .inr (5, [.ref h1, .ref h2, .ref h3, .int 0])), (h2, .inr (6, [.ref h5, .int 0])), (h3, .inr (6, [.ref h6, .int 0])), (h1, .inr (6, [.ref h4, .int 0]))] H _ := w
  refine lv_aload_n C.1 C.2.1 dX1_empty_7 rfl (lv_at hl 0 rfl) ?_
  refine x_get (v := .ref h2) C w 0 5 1 (xin_X1 _) rfl rfl (by decide) (List.mem_cons_of_mem _ gw_35) rfl rfl dX1_empty_8 ?_
  refine x_kv C w [1] [0, 2, 3] rfl rfl (by decide) (by decide) (va_runV (As := []) (rest := []) (xfix C) (c109_X2_empty l G cy sa sv h2 h5 (xtr C) _) (cwV 0 (xhts C) (xgV (maxL := 0) (cc := ⟨#[]⟩) (ret := none) gw_934 gw_313 gw_314 gw_11 gc_X2_empty) rfl rfl rfl (by decide +kernel) ⟨(Nat.le_of_ble_eq_true rfl), (Nat.le_of_ble_eq_true rfl)⟩) (xPV C w [1] rfl (by decide) (ci := 6) (q0 := 1) rfl rfl) rfl rfl hl.1 rfl (lv_room (Nat.le_of_ble_eq_true rfl)) dX1_empty_11 ⟨(Nat.le_of_ble_eq_true rfl), (Nat.le_of_ble_eq_true rfl)⟩) (fun f4089 H locs w => ?_)
  have w : xW G A s [(h0, .inr (5, [.ref h1, .ref h2, .ref h3, .int 0])), (h3, .inr (6, [.ref h6, .int 0])), (h1, .inr (6, [.ref h4, .int 0])), (h2, .inr (6, [.ref h5, .int 0]))] H _ := w
  refine lv_aload_n C.1 C.2.1 dX1_empty_14 rfl (lv_at hl 0 rfl) ?_
  refine x_get (v := .ref h3) C w 0 5 2 (xin_X1 _) rfl rfl (by decide) (List.mem_cons_of_mem _ gw_36) rfl rfl dX1_empty_15 ?_
  refine x_kv C w [1] [0, 2, 3] rfl rfl (by decide) (by decide) (va_runV (As := []) (rest := []) (xfix C) (c109_X2_empty l G cy sa sv h3 h6 (xtr C) _) (cwV 0 (xhts C) (xgV (maxL := 0) (cc := ⟨#[]⟩) (ret := none) gw_934 gw_313 gw_314 gw_11 gc_X2_empty) rfl rfl rfl (by decide +kernel) ⟨(Nat.le_of_ble_eq_true rfl), (Nat.le_of_ble_eq_true rfl)⟩) (xPV C w [1] rfl (by decide) (ci := 6) (q0 := 1) rfl rfl) rfl rfl hl.1 rfl (lv_room (Nat.le_of_ble_eq_true rfl)) dX1_empty_18 ⟨(Nat.le_of_ble_eq_true rfl), (Nat.le_of_ble_eq_true rfl)⟩) (fun f4090 H locs w => ?_)
  have w : xW G A s [(h0, .inr (5, [.ref h1, .ref h2, .ref h3, .int 0])), (h1, .inr (6, [.ref h4, .int 0])), (h2, .inr (6, [.ref h5, .int 0])), (h3, .inr (6, [.ref h6, .int 0]))] H _ := w
  exact x_vret C w hr (fun _ => 0) rfl dX1_empty_21 (Nat.le_of_ble_eq_true rfl) (Nat.le_of_ble_eq_true rfl)
set_option maxHeartbeats 4000000 in
set_option maxRecDepth 100000 in
theorem c584_X4_forget (l : Launch) (G : va_G) (cy : Nat → ClassId) (sa : String → Nat → Nat) (sv : Nat → Nat) (h0 h1 h2 h3 h4 h5 h6 h7 h8 h9 h10 h11 h12 h13 : Nat) : xM l G cy sa sv yX4_forget (Cond.code yX4_forget cX4_forget 2 (some .int) :: XG) { frames := 10, cells := 0, slots := 0, locals := 290 } [.ref h0] [(h0, .inr (8, [.ref h5, .ref h6, .ref h1, .ref h7, .ref h8, .int 0, .ref h9, .ref h10])), (h1, .inr (5, [.ref h3, .ref h4, .ref h2, .int 0])), (h2, .inr (6, [.ref h11, .int 0])), (h3, .inr (6, [.ref h12, .int 0])), (h4, .inr (6, [.ref h13, .int 0]))] (xQi G (fun f => [(h0, .inr (8, [.ref h5, .ref h6, .ref h1, .ref h7, .ref h8, .int 0, .ref h9, .ref h10])), (h1, .inr (5, [.ref h3, .ref h4, .ref h2, .int 0])), (h2, .inr (6, [.ref h11, .int 0])), (h3, .inr (6, [.ref h12, .int 0])), (h4, .inr (6, [.ref h13, .int 0]))]) 0) := by
  refine xof (by decide) (Nat.le_of_ble_eq_true rfl) (fun p e s m below meth c A C w hr hn ls hl => ?_)
  have hl : lv_has ls 2 [(0, .ref h0)] := hl
  refine lv_aload_n C.1 C.2.1 dX4_forget_0 rfl (lv_at hl 0 rfl) ?_
  refine x_get (v := .ref h1) C w 0 8 2 (xin_X4 _) rfl rfl (by decide) (List.mem_cons_of_mem _ gw_41) rfl rfl dX4_forget_1 ?_
  refine x_ki C w [1, 2] [0, 3, 4] rfl rfl (by decide) (by decide) (va_runV (As := []) (rest := []) (xfix C) (c578_X1_count l G cy sa sv h1 h2 h3 h4 h11 (xtr C) _) (cwV 0 (xhts C) (xgV (maxL := 0) (cc := ⟨#[]⟩) (ret := none) gw_915 gw_916 gw_917 gw_30 gc_X1_count) rfl rfl rfl (by decide +kernel) ⟨(Nat.le_of_ble_eq_true rfl), (Nat.le_of_ble_eq_true rfl)⟩) (xPV C w [1, 2] rfl (by decide) (ci := 5) (q0 := 1) rfl rfl) rfl rfl hl.1 rfl (lv_room (Nat.le_of_ble_eq_true rfl)) dX4_forget_4 ⟨(Nat.le_of_ble_eq_true rfl), (Nat.le_of_ble_eq_true rfl)⟩) (fun f4087 H locs w => ?_)
  have w : xW G A s [(h0, .inr (8, [.ref h5, .ref h6, .ref h1, .ref h7, .ref h8, .int 0, .ref h9, .ref h10])), (h3, .inr (6, [.ref h12, .int 0])), (h4, .inr (6, [.ref h13, .int 0])), (h1, .inr (5, [.ref h3, .ref h4, .ref h2, .int 0])), (h2, .inr (6, [.ref h11, .int 0]))] H _ := w
  refine lv_istore_n (lv' := [(1, .int 0), (0, .ref h0)]) C.1 C.2.1 dX4_forget_7 rfl hl (by decide) rfl (fun ls hl => ?_)
  refine lv_aload_n C.1 C.2.1 dX4_forget_8 rfl (lv_at hl 1 rfl) ?_
  refine x_get (v := .ref h1) C w 0 8 2 (xin_X4 _) rfl rfl (by decide) (List.mem_cons_of_mem _ gw_41) rfl rfl dX4_forget_9 ?_
  refine x_kv C w [3, 1, 2, 4] [0] rfl rfl (by decide) (by decide) (va_runV (As := []) (rest := []) (xfix C) (c583_X1_empty l G cy sa sv h1 h3 h4 h2 h12 h13 h11 (xtr C) _) (cwV 0 (xhts C) (xgV (maxL := 0) (cc := ⟨#[]⟩) (ret := none) gw_936 gw_937 gw_938 gw_30 gc_X1_empty) rfl rfl rfl (by decide +kernel) ⟨(Nat.le_of_ble_eq_true rfl), (Nat.le_of_ble_eq_true rfl)⟩) (xPV C w [3, 1, 2, 4] rfl (by decide) (ci := 5) (q0 := 3) rfl rfl) rfl rfl hl.1 rfl (lv_room (Nat.le_of_ble_eq_true rfl)) dX4_forget_12 ⟨(Nat.le_of_ble_eq_true rfl), (Nat.le_of_ble_eq_true rfl)⟩) (fun f4091 H locs w => ?_)
  have w : xW G A s [(h0, .inr (8, [.ref h5, .ref h6, .ref h1, .ref h7, .ref h8, .int 0, .ref h9, .ref h10])), (h1, .inr (5, [.ref h3, .ref h4, .ref h2, .int 0])), (h3, .inr (6, [.ref h12, .int 0])), (h4, .inr (6, [.ref h13, .int 0])), (h2, .inr (6, [.ref h11, .int 0]))] H _ := w
  refine lv_iload_n C.1 C.2.1 dX4_forget_15 rfl (lv_at hl 0 rfl) ?_
  have w := w.sub (ws' := [(h0, .inr (8, [.ref h5, .ref h6, .ref h1, .ref h7, .ref h8, .int 0, .ref h9, .ref h10])), (h1, .inr (5, [.ref h3, .ref h4, .ref h2, .int 0])), (h2, .inr (6, [.ref h11, .int 0])), (h3, .inr (6, [.ref h12, .int 0])), (h4, .inr (6, [.ref h13, .int 0]))]) [0, 1, 4, 2, 3] (by decide) rfl rfl
  exact x_iret C w hr (fun _ => 0) rfl rfl dX4_forget_16 (Nat.le_of_ble_eq_true rfl) (Nat.le_of_ble_eq_true rfl)
set_option maxHeartbeats 4000000 in
set_option maxRecDepth 100000 in
theorem c585_Jx4a65c_clear_da8c8 (l : Launch) (G : va_G) (cy : Nat → ClassId) (sa : String → Nat → Nat) (sv : Nat → Nat) (h0 : Nat) : xM l G cy sa sv yJx4a65c_clear_da8c8 (Cond.code yJx4a65c_clear_da8c8 cJx4a65c_clear_da8c8 4 none :: XG) { frames := 8, cells := 0, slots := 0, locals := 250 } [.ref h0] [(h0, .inr (3, [.int 0, .ref (sv 0), .int 0]))] (xQv G (fun f => [(h0, .inr (3, [.int 1, .ref (sv 0), .int 0]))])) := by
  refine xof (by decide) (Nat.le_of_ble_eq_true rfl) (fun p e s m below meth c A C w hr hn ls hl => ?_)
  have hl : lv_has ls 4 [(0, .ref h0)] := hl
  refine lv_aload_n C.1 C.2.1 dJx4a65c_clear_da8c8_0 rfl (lv_at hl 0 rfl) ?_
  refine lv_dup C.1 C.2.1 dJx4a65c_clear_da8c8_1 rfl ?_
  refine x_getS (v := .int 0) C w 0 3 0 (xin_Jx4a65c _) rfl rfl (by decide) (List.mem_cons_of_mem _ gw_213) (List.mem_cons_of_mem _ gw_212) rfl dJx4a65c_clear_da8c8_2 ?_
  refine lv_iconst (v := 1) C.1 C.2.1 dJx4a65c_clear_da8c8_5 (by decide) ?_
  refine lv_iadd C.1 C.2.1 dJx4a65c_clear_da8c8_6 ?_
  refine x_is (y := 1) (by decide) ?_
  refine x_putS (ty := .int) (ty0 := tyJx4a65c) C w 0 3 0 (xin_Jx4a65c _) tyJx4a65c_ok nmJx4a65c rfl rfl (by decide) (List.mem_cons_of_mem _ gw_213) (List.mem_cons_of_mem _ gw_212) rfl (by decide +kernel) rfl rfl (Nat.le_of_ble_eq_true rfl) dJx4a65c_clear_da8c8_7 (fun H locs w => ?_)
  have w : xW G A s [(h0, .inr (3, [.int 1, .ref (sv 0), .int 0]))] H _ := w
  refine lv_aload_n C.1 C.2.1 dJx4a65c_clear_da8c8_10 rfl (lv_at hl 0 rfl) ?_
  refine x_get (v := .ref (sv 0)) C w 0 3 1 (xin_Jx4a65c _) rfl rfl (by decide) (List.mem_cons_of_mem _ gw_74) rfl rfl dJx4a65c_clear_da8c8_11 ?_
  refine lv_astore_n (lv' := [(1, .ref (sv 0)), (0, .ref h0)]) C.1 C.2.1 dJx4a65c_clear_da8c8_14 rfl hl (by decide) rfl (fun ls hl => ?_)
  refine lv_aload_n C.1 C.2.1 dJx4a65c_clear_da8c8_15 rfl (lv_at hl 1 rfl) ?_
  refine x_get (v := .int 0) C w 0 3 2 (xin_Jx4a65c _) rfl rfl (by decide) (List.mem_cons_of_mem _ gw_193) rfl rfl dJx4a65c_clear_da8c8_16 ?_
  refine lv_istore_n (lv' := [(2, .int 0), (1, .ref (sv 0)), (0, .ref h0)]) C.1 C.2.1 dJx4a65c_clear_da8c8_19 rfl hl (by decide) rfl (fun ls hl => ?_)
  refine lv_aload_n C.1 C.2.1 dJx4a65c_clear_da8c8_20 rfl (lv_at hl 2 rfl) ?_
  refine lv_iconst (v := 0) C.1 C.2.1 dJx4a65c_clear_da8c8_21 (by decide) ?_
  refine lv_dup_x1 C.1 C.2.1 dJx4a65c_clear_da8c8_22 rfl rfl ?_
  refine x_put (ty := .int) (ty0 := tyJx4a65c) C w 0 3 2 (xin_Jx4a65c _) tyJx4a65c_ok nmJx4a65c rfl rfl (by decide) (List.mem_cons_of_mem _ gw_193) rfl rfl (by decide +kernel) rfl rfl (Nat.le_of_ble_eq_true rfl) dJx4a65c_clear_da8c8_23 (fun H locs w => ?_)
  have w : xW G A s [(h0, .inr (3, [.int 1, .ref (sv 0), .int 0]))] H _ := w
  refine lv_istore_n (lv' := [(3, .int 0), (2, .int 0), (1, .ref (sv 0)), (0, .ref h0)]) C.1 C.2.1 dJx4a65c_clear_da8c8_26 rfl hl (by decide) rfl (fun ls hl => ?_)
  refine lv_iload_n C.1 C.2.1 dJx4a65c_clear_da8c8_27 rfl (lv_at hl 0 rfl) ?_
  refine lv_iload_n C.1 C.2.1 dJx4a65c_clear_da8c8_28 rfl (lv_at hl 1 rfl) ?_
  refine lv_icmp_ge (tgt := 42) C.1 C.2.1 dJx4a65c_clear_da8c8_29 (by decide) (fun _ => ?_) (fun c9 => absurd (by decide) c9)
  exact x_vret C w hr (fun _ => 0) rfl dJx4a65c_clear_da8c8_42 (Nat.le_of_ble_eq_true rfl) (Nat.le_of_ble_eq_true rfl)
set_option maxHeartbeats 4000000 in
set_option maxRecDepth 100000 in
theorem c586_X6_forget (l : Launch) (G : va_G) (cy : Nat → ClassId) (sa : String → Nat → Nat) (sv : Nat → Nat) (h0 h1 h2 h3 h4 h5 h6 h7 : Nat) : xM l G cy sa sv yX6_forget (Cond.code yX6_forget cX6_forget 2 (some .int) :: XG) { frames := 9, cells := 0, slots := 0, locals := 273 } [.ref h0] [(h0, .inr (10, [.ref h2, .ref h3, .ref h1, .ref h4, .ref h5, .ref h6, .ref h7, .int 0, .int 0])), (h1, .inr (3, [.int 0, .ref (sv 0), .int 0]))] (xQi G (fun f => [(h0, .inr (10, [.ref h2, .ref h3, .ref h1, .ref h4, .ref h5, .ref h6, .ref h7, .int 0, .int 0])), (h1, .inr (3, [.int 1, .ref (sv 0), .int 0]))]) 0) := by
  refine xof (by decide) (Nat.le_of_ble_eq_true rfl) (fun p e s m below meth c A C w hr hn ls hl => ?_)
  have hl : lv_has ls 2 [(0, .ref h0)] := hl
  refine lv_aload_n C.1 C.2.1 dX6_forget_0 rfl (lv_at hl 0 rfl) ?_
  refine lv_iconst (v := 0) C.1 C.2.1 dX6_forget_1 (by decide) ?_
  refine x_put (ty := .int) (ty0 := tyX6) C w 0 10 8 (xin_X6 _) tyX6_ok nmX6 rfl rfl (by decide) (List.mem_cons_of_mem _ gw_112) rfl rfl (by decide +kernel) rfl rfl (Nat.le_of_ble_eq_true rfl) dX6_forget_2 (fun H locs w => ?_)
  have w : xW G A s [(h0, .inr (10, [.ref h2, .ref h3, .ref h1, .ref h4, .ref h5, .ref h6, .ref h7, .int 0, .int 0])), (h1, .inr (3, [.int 0, .ref (sv 0), .int 0]))] H _ := w
  refine lv_aload_n C.1 C.2.1 dX6_forget_5 rfl (lv_at hl 0 rfl) ?_
  refine x_get (v := .ref h1) C w 0 10 2 (xin_X6 _) rfl rfl (by decide) (List.mem_cons_of_mem _ gw_80) rfl rfl dX6_forget_6 ?_
  refine x_ki C w [1] [0] rfl rfl (by decide) (by decide) (va_runV (As := []) (rest := []) (xfix C) (c47_Jx4a65c_size_8abf5 l G cy sa sv h1 (xtr C) _) (cwV 0 (xhts C) (xgV (maxL := 0) (cc := ⟨#[]⟩) (ret := none) gw_195 gw_196 gw_197 gw_62 gc_Jx4a65c_size_8abf5) rfl rfl rfl (by decide +kernel) ⟨(Nat.le_of_ble_eq_true rfl), (Nat.le_of_ble_eq_true rfl)⟩) (xPV C w [1] rfl (by decide) (ci := 3) (q0 := 1) rfl rfl) rfl rfl hl.1 rfl (lv_room (Nat.le_of_ble_eq_true rfl)) dX6_forget_9 ⟨(Nat.le_of_ble_eq_true rfl), (Nat.le_of_ble_eq_true rfl)⟩) (fun f4093 H locs w => ?_)
  have w : xW G A s [(h0, .inr (10, [.ref h2, .ref h3, .ref h1, .ref h4, .ref h5, .ref h6, .ref h7, .int 0, .int 0])), (h1, .inr (3, [.int 0, .ref (sv 0), .int 0]))] H _ := w
  refine lv_istore_n (lv' := [(1, .int 0), (0, .ref h0)]) C.1 C.2.1 dX6_forget_12 rfl hl (by decide) rfl (fun ls hl => ?_)
  refine lv_aload_n C.1 C.2.1 dX6_forget_13 rfl (lv_at hl 1 rfl) ?_
  refine x_get (v := .ref h1) C w 0 10 2 (xin_X6 _) rfl rfl (by decide) (List.mem_cons_of_mem _ gw_80) rfl rfl dX6_forget_14 ?_
  refine x_kv C w [1] [0] rfl rfl (by decide) (by decide) (va_runV (As := []) (rest := []) (xfix C) (c585_Jx4a65c_clear_da8c8 l G cy sa sv h1 (xtr C) _) (cwV 0 (xhts C) (xgV (maxL := 0) (cc := ⟨#[]⟩) (ret := none) gw_944 gw_945 gw_946 gw_62 gc_Jx4a65c_clear_da8c8) rfl rfl rfl (by decide +kernel) ⟨(Nat.le_of_ble_eq_true rfl), (Nat.le_of_ble_eq_true rfl)⟩) (xPV C w [1] rfl (by decide) (ci := 3) (q0 := 1) rfl rfl) rfl rfl hl.1 rfl (lv_room (Nat.le_of_ble_eq_true rfl)) dX6_forget_17 ⟨(Nat.le_of_ble_eq_true rfl), (Nat.le_of_ble_eq_true rfl)⟩) (fun f4094 H locs w => ?_)
  have w : xW G A s [(h0, .inr (10, [.ref h2, .ref h3, .ref h1, .ref h4, .ref h5, .ref h6, .ref h7, .int 0, .int 0])), (h1, .inr (3, [.int 1, .ref (sv 0), .int 0]))] H _ := w
  refine lv_iload_n C.1 C.2.1 dX6_forget_20 rfl (lv_at hl 0 rfl) ?_
  exact x_iret C w hr (fun _ => 0) rfl rfl dX6_forget_21 (Nat.le_of_ble_eq_true rfl) (Nat.le_of_ble_eq_true rfl)
set_option maxHeartbeats 4000000 in
set_option maxRecDepth 100000 in
theorem c587_X2_become (l : Launch) (G : va_G) (cy : Nat → ClassId) (sa : String → Nat → Nat) (sv : Nat → Nat) (h0 h1 h2 h3 : Nat) : xM l G cy sa sv yX2_become (Cond.code yX2_become cX2_become 2 none :: XG) { frames := 8, cells := 0, slots := 0, locals := 250 } [.ref h0, .ref h1] [(h1, .inr (6, [.ref h3, .int 0])), (h0, .inr (6, [.ref h2, .int 0])), (h2, .inl (cy 1, 24, .inl (fun _ => 0))), (h3, .inl (cy 1, 24, .inl (fun _ => 0)))] (xQv G (fun f => [(h1, .inr (6, [.ref h3, .int 0])), (h0, .inr (6, [.ref h2, .int 0])), (h2, .inl (cy 1, 24, .inl (va_cpy (fun _ => 0) (fun _ => 0) 0 0 0))), (h3, .inl (cy 1, 24, .inl (fun _ => 0)))])) := by
  refine xof (by decide) (Nat.le_of_ble_eq_true rfl) (fun p e s m below meth c A C w hr hn ls hl => ?_)
  have hl : lv_has ls 2 [(0, .ref h0), (1, .ref h1)] := hl
  refine lv_aload_n C.1 C.2.1 dX2_become_0 rfl (lv_at hl 1 rfl) ?_
  refine x_get (v := .int 0) C w 0 6 1 (xin_X2 _) rfl rfl (by decide) (List.mem_cons_of_mem _ gw_15) rfl rfl dX2_become_1 ?_
  refine lv_aload_n C.1 C.2.1 dX2_become_4 rfl (lv_at hl 0 rfl) ?_
  refine x_get (v := .ref h2) C w 1 6 0 (xin_X2 _) rfl rfl (by decide) (List.mem_cons_of_mem _ gw_14) rfl rfl dX2_become_5 ?_
  refine x_alen (v := 24) C w 2 1 rfl rfl (by rfl) dX2_become_8 ?_
  refine lv_icmp_gt (tgt := 37) C.1 C.2.1 dX2_become_9 (by decide) (fun c9 => absurd c9 (by decide)) (fun _ => ?_)
  refine lv_aload_n C.1 C.2.1 dX2_become_12 rfl (lv_at hl 1 rfl) ?_
  refine x_get (v := .ref h3) C w 0 6 0 (xin_X2 _) rfl rfl (by decide) (List.mem_cons_of_mem _ gw_14) rfl rfl dX2_become_13 ?_
  refine lv_iconst (v := 0) C.1 C.2.1 dX2_become_16 (by decide) ?_
  refine lv_aload_n C.1 C.2.1 dX2_become_17 rfl (lv_at hl 0 rfl) ?_
  refine x_get (v := .ref h2) C w 1 6 0 (xin_X2 _) rfl rfl (by decide) (List.mem_cons_of_mem _ gw_14) rfl rfl dX2_become_18 ?_
  refine lv_iconst (v := 0) C.1 C.2.1 dX2_become_21 (by decide) ?_
  refine lv_aload_n C.1 C.2.1 dX2_become_22 rfl (lv_at hl 1 rfl) ?_
  refine x_get (v := .int 0) C w 0 6 1 (xin_X2 _) rfl rfl (by decide) (List.mem_cons_of_mem _ gw_15) rfl rfl dX2_become_23 ?_
  refine x_copyi (sp' := 0) (dp' := 0) (n' := 0) C w hl.1 3 2 1 (List.mem_cons_of_mem _ gw_951) (List.mem_cons_of_mem _ gw_521) (List.mem_cons_of_mem _ gw_522) (List.mem_cons_of_mem _ gw_523) rfl rfl rfl rfl rfl (by decide) (by decide) (by decide) (by decide) (by decide) (by decide) (by decide) (by decide) (fun i hi => absurd hi (Nat.not_lt_zero i)) (Nat.le_of_ble_eq_true rfl) (Nat.le_of_ble_eq_true rfl) dX2_become_26 (fun H locs w => ?_)
  have w : xW G A s [(h1, .inr (6, [.ref h3, .int 0])), (h0, .inr (6, [.ref h2, .int 0])), (h2, .inl (cy 1, 24, .inl (va_cpy (fun _ => 0) (fun _ => 0) 0 0 0))), (h3, .inl (cy 1, 24, .inl (fun _ => 0)))] H _ := w
  refine lv_aload_n C.1 C.2.1 dX2_become_29 rfl (lv_at hl 0 rfl) ?_
  refine lv_aload_n C.1 C.2.1 dX2_become_30 rfl (lv_at hl 1 rfl) ?_
  refine x_get (v := .int 0) C w 0 6 1 (xin_X2 _) rfl rfl (by decide) (List.mem_cons_of_mem _ gw_15) rfl rfl dX2_become_31 ?_
  refine x_put (ty := .int) (ty0 := tyX2) C w 1 6 1 (xin_X2 _) tyX2_ok nmX2 rfl rfl (by decide) (List.mem_cons_of_mem _ gw_15) rfl rfl (by decide +kernel) rfl rfl (Nat.le_of_ble_eq_true rfl) dX2_become_34 (fun H locs w => ?_)
  have w : xW G A s [(h1, .inr (6, [.ref h3, .int 0])), (h0, .inr (6, [.ref h2, .int 0])), (h2, .inl (cy 1, 24, .inl (va_cpy (fun _ => 0) (fun _ => 0) 0 0 0))), (h3, .inl (cy 1, 24, .inl (fun _ => 0)))] H _ := w
  exact x_vret C w hr (fun _ => 0) rfl dX2_become_37 (Nat.le_of_ble_eq_true rfl) (Nat.le_of_ble_eq_true rfl)
set_option maxHeartbeats 4000000 in
set_option maxRecDepth 100000 in
theorem c588_X3_become (l : Launch) (G : va_G) (cy : Nat → ClassId) (sa : String → Nat → Nat) (sv : Nat → Nat) (h0 h1 h2 h3 h4 h5 h6 h7 h8 h9 : Nat) : xM l G cy sa sv yX3_become (Cond.code yX3_become cX3_become 2 none :: XG) { frames := 9, cells := 0, slots := 0, locals := 271 } [.ref h0, .ref h1] [(h0, .inr (7, [.ref h2, .ref h6])), (h1, .inr (7, [.ref h3, .ref h7])), (h2, .inr (6, [.ref h4, .int 0])), (h3, .inr (6, [.ref h5, .int 0])), (h4, .inl (cy 1, 24, .inl (fun _ => 0))), (h5, .inl (cy 1, 24, .inl (fun _ => 0))), (h6, .inr (6, [.ref h8, .int 0])), (h7, .inr (6, [.ref h9, .int 0])), (h8, .inl (cy 1, 24, .inl (fun _ => 0))), (h9, .inl (cy 1, 24, .inl (fun _ => 0)))] (xQv G (fun f => [(h0, .inr (7, [.ref h2, .ref h6])), (h1, .inr (7, [.ref h3, .ref h7])), (h2, .inr (6, [.ref h4, .int 0])), (h3, .inr (6, [.ref h5, .int 0])), (h4, .inl (cy 1, 24, .inl (va_cpy (fun _ => 0) (fun _ => 0) 0 0 0))), (h5, .inl (cy 1, 24, .inl (fun _ => 0))), (h6, .inr (6, [.ref h8, .int 0])), (h7, .inr (6, [.ref h9, .int 0])), (h8, .inl (cy 1, 24, .inl (va_cpy (fun _ => 0) (fun _ => 0) 0 0 0))), (h9, .inl (cy 1, 24, .inl (fun _ => 0)))])) := by
  refine xof (by decide) (Nat.le_of_ble_eq_true rfl) (fun p e s m below meth c A C w hr hn ls hl => ?_)
  have hl : lv_has ls 2 [(0, .ref h0), (1, .ref h1)] := hl
  refine lv_aload_n C.1 C.2.1 dX3_become_0 rfl (lv_at hl 0 rfl) ?_
  refine x_get (v := .ref h2) C w 0 7 0 (xin_X3 _) rfl rfl (by decide) (List.mem_cons_of_mem _ gw_19) rfl rfl dX3_become_1 ?_
  refine lv_aload_n C.1 C.2.1 dX3_become_4 rfl (lv_at hl 1 rfl) ?_
  refine x_get (v := .ref h3) C w 1 7 0 (xin_X3 _) rfl rfl (by decide) (List.mem_cons_of_mem _ gw_19) rfl rfl dX3_become_5 ?_
  refine x_kv C w [3, 2, 4, 5] [0, 1, 6, 7, 8, 9] rfl rfl (by decide) (by decide) (va_runV (As := [.ref h3]) (rest := []) (xfix C) (c587_X2_become l G cy sa sv h2 h3 h4 h5 (xtr C) _) (cwV 1 (xhts C) (xgV (maxL := 0) (cc := ⟨#[]⟩) (ret := none) gw_953 gw_954 gw_955 gw_11 gc_X2_become) rfl rfl rfl (by decide +kernel) ⟨(Nat.le_of_ble_eq_true rfl), (Nat.le_of_ble_eq_true rfl)⟩) (xPV C w [3, 2, 4, 5] rfl (by decide) (ci := 6) (q0 := 2) rfl rfl) rfl rfl hl.1 rfl (lv_room (Nat.le_of_ble_eq_true rfl)) dX3_become_8 ⟨(Nat.le_of_ble_eq_true rfl), (Nat.le_of_ble_eq_true rfl)⟩) (fun f4098 H locs w => ?_)
  have w : xW G A s [(h0, .inr (7, [.ref h2, .ref h6])), (h1, .inr (7, [.ref h3, .ref h7])), (h6, .inr (6, [.ref h8, .int 0])), (h7, .inr (6, [.ref h9, .int 0])), (h8, .inl (cy 1, 24, .inl (fun _ => 0))), (h9, .inl (cy 1, 24, .inl (fun _ => 0))), (h3, .inr (6, [.ref h5, .int 0])), (h2, .inr (6, [.ref h4, .int 0])), (h4, .inl (cy 1, 24, .inl (va_cpy (fun _ => 0) (fun _ => 0) 0 0 0))), (h5, .inl (cy 1, 24, .inl (fun _ => 0)))] H _ := w
  refine lv_aload_n C.1 C.2.1 dX3_become_11 rfl (lv_at hl 0 rfl) ?_
  refine x_get (v := .ref h6) C w 0 7 1 (xin_X3 _) rfl rfl (by decide) (List.mem_cons_of_mem _ gw_20) rfl rfl dX3_become_12 ?_
  refine lv_aload_n C.1 C.2.1 dX3_become_15 rfl (lv_at hl 1 rfl) ?_
  refine x_get (v := .ref h7) C w 1 7 1 (xin_X3 _) rfl rfl (by decide) (List.mem_cons_of_mem _ gw_20) rfl rfl dX3_become_16 ?_
  refine x_kv C w [3, 2, 4, 5] [0, 1, 6, 7, 8, 9] rfl rfl (by decide) (by decide) (va_runV (As := [.ref h7]) (rest := []) (xfix C) (c587_X2_become l G cy sa sv h6 h7 h8 h9 (xtr C) _) (cwV 1 (xhts C) (xgV (maxL := 0) (cc := ⟨#[]⟩) (ret := none) gw_953 gw_954 gw_955 gw_11 gc_X2_become) rfl rfl rfl (by decide +kernel) ⟨(Nat.le_of_ble_eq_true rfl), (Nat.le_of_ble_eq_true rfl)⟩) (xPV C w [3, 2, 4, 5] rfl (by decide) (ci := 6) (q0 := 2) rfl rfl) rfl rfl hl.1 rfl (lv_room (Nat.le_of_ble_eq_true rfl)) dX3_become_19 ⟨(Nat.le_of_ble_eq_true rfl), (Nat.le_of_ble_eq_true rfl)⟩) (fun f4099 H locs w => ?_)
  have w : xW G A s [(h0, .inr (7, [.ref h2, .ref h6])), (h1, .inr (7, [.ref h3, .ref h7])), (h3, .inr (6, [.ref h5, .int 0])), (h2, .inr (6, [.ref h4, .int 0])), (h4, .inl (cy 1, 24, .inl (va_cpy (fun _ => 0) (fun _ => 0) 0 0 0))), (h5, .inl (cy 1, 24, .inl (fun _ => 0))), (h7, .inr (6, [.ref h9, .int 0])), (h6, .inr (6, [.ref h8, .int 0])), (h8, .inl (cy 1, 24, .inl (va_cpy (fun _ => 0) (fun _ => 0) 0 0 0))), (h9, .inl (cy 1, 24, .inl (fun _ => 0)))] H _ := w
  have w := w.sub (ws' := [(h0, .inr (7, [.ref h2, .ref h6])), (h1, .inr (7, [.ref h3, .ref h7])), (h2, .inr (6, [.ref h4, .int 0])), (h3, .inr (6, [.ref h5, .int 0])), (h4, .inl (cy 1, 24, .inl (va_cpy (fun _ => 0) (fun _ => 0) 0 0 0))), (h5, .inl (cy 1, 24, .inl (fun _ => 0))), (h6, .inr (6, [.ref h8, .int 0])), (h7, .inr (6, [.ref h9, .int 0])), (h8, .inl (cy 1, 24, .inl (va_cpy (fun _ => 0) (fun _ => 0) 0 0 0))), (h9, .inl (cy 1, 24, .inl (fun _ => 0)))]) [0, 1, 3, 2, 4, 5, 7, 6, 8, 9] (by decide) rfl rfl
  exact x_vret C w hr (fun _ => 0) rfl dX3_become_22 (Nat.le_of_ble_eq_true rfl) (Nat.le_of_ble_eq_true rfl)
set_option maxHeartbeats 4000000 in
set_option maxRecDepth 100000 in
theorem c589_X4_copy (l : Launch) (G : va_G) (cy : Nat → ClassId) (sa : String → Nat → Nat) (sv : Nat → Nat) (h0 h1 h2 h3 h4 h5 h6 h7 h8 h9 h10 h11 h12 h13 h14 h15 : Nat) : xM l G cy sa sv yX4_copy (Cond.code yX4_copy cX4_copy 1 (some .int) :: XG) { frames := 10, cells := 0, slots := 0, locals := 292 } [.ref h0] [(h0, .inr (8, [.ref h2, .ref h11, .ref h12, .ref h1, .ref h13, .int 0, .ref h14, .ref h15])), (h1, .inr (7, [.ref h3, .ref h7])), (h2, .inr (7, [.ref h4, .ref h8])), (h3, .inr (6, [.ref h5, .int 0])), (h4, .inr (6, [.ref h6, .int 0])), (h5, .inl (cy 1, 24, .inl (fun _ => 0))), (h6, .inl (cy 1, 24, .inl (fun _ => 0))), (h7, .inr (6, [.ref h9, .int 0])), (h8, .inr (6, [.ref h10, .int 0])), (h9, .inl (cy 1, 24, .inl (fun _ => 0))), (h10, .inl (cy 1, 24, .inl (fun _ => 0)))] (xQi G (fun f => [(h0, .inr (8, [.ref h2, .ref h11, .ref h12, .ref h1, .ref h13, .int 0, .ref h14, .ref h15])), (h1, .inr (7, [.ref h3, .ref h7])), (h2, .inr (7, [.ref h4, .ref h8])), (h3, .inr (6, [.ref h5, .int 0])), (h4, .inr (6, [.ref h6, .int 0])), (h5, .inl (cy 1, 24, .inl (va_cpy (fun _ => 0) (fun _ => 0) 0 0 0))), (h6, .inl (cy 1, 24, .inl (fun _ => 0))), (h7, .inr (6, [.ref h9, .int 0])), (h8, .inr (6, [.ref h10, .int 0])), (h9, .inl (cy 1, 24, .inl (va_cpy (fun _ => 0) (fun _ => 0) 0 0 0))), (h10, .inl (cy 1, 24, .inl (fun _ => 0)))]) 0) := by
  refine xof (by decide) (Nat.le_of_ble_eq_true rfl) (fun p e s m below meth c A C w hr hn ls hl => ?_)
  have hl : lv_has ls 1 [(0, .ref h0)] := hl
  refine lv_aload_n C.1 C.2.1 dX4_copy_0 rfl (lv_at hl 0 rfl) ?_
  refine x_get (v := .ref h1) C w 0 8 3 (xin_X4 _) rfl rfl (by decide) (List.mem_cons_of_mem _ gw_42) rfl rfl dX4_copy_1 ?_
  refine lv_aload_n C.1 C.2.1 dX4_copy_4 rfl (lv_at hl 0 rfl) ?_
  refine x_get (v := .ref h2) C w 0 8 0 (xin_X4 _) rfl rfl (by decide) (List.mem_cons_of_mem _ gw_24) rfl rfl dX4_copy_5 ?_
  refine x_kv C w [1, 2, 3, 4, 5, 6, 7, 8, 9, 10] [0] rfl rfl (by decide) (by decide) (va_runV (As := [.ref h2]) (rest := []) (xfix C) (c588_X3_become l G cy sa sv h1 h2 h3 h4 h5 h6 h7 h8 h9 h10 (xtr C) _) (cwV 1 (xhts C) (xgV (maxL := 0) (cc := ⟨#[]⟩) (ret := none) gw_957 gw_958 gw_959 gw_7 gc_X3_become) rfl rfl rfl (by decide +kernel) ⟨(Nat.le_of_ble_eq_true rfl), (Nat.le_of_ble_eq_true rfl)⟩) (xPV C w [1, 2, 3, 4, 5, 6, 7, 8, 9, 10] rfl (by decide) (ci := 7) (q0 := 1) rfl rfl) rfl rfl hl.1 rfl (lv_room (Nat.le_of_ble_eq_true rfl)) dX4_copy_8 ⟨(Nat.le_of_ble_eq_true rfl), (Nat.le_of_ble_eq_true rfl)⟩) (fun f4100 H locs w => ?_)
  have w : xW G A s [(h0, .inr (8, [.ref h2, .ref h11, .ref h12, .ref h1, .ref h13, .int 0, .ref h14, .ref h15])), (h1, .inr (7, [.ref h3, .ref h7])), (h2, .inr (7, [.ref h4, .ref h8])), (h3, .inr (6, [.ref h5, .int 0])), (h4, .inr (6, [.ref h6, .int 0])), (h5, .inl (cy 1, 24, .inl (va_cpy (fun _ => 0) (fun _ => 0) 0 0 0))), (h6, .inl (cy 1, 24, .inl (fun _ => 0))), (h7, .inr (6, [.ref h9, .int 0])), (h8, .inr (6, [.ref h10, .int 0])), (h9, .inl (cy 1, 24, .inl (va_cpy (fun _ => 0) (fun _ => 0) 0 0 0))), (h10, .inl (cy 1, 24, .inl (fun _ => 0)))] H _ := w
  refine lv_aload_n C.1 C.2.1 dX4_copy_11 rfl (lv_at hl 0 rfl) ?_
  refine x_get (v := .ref h1) C w 0 8 3 (xin_X4 _) rfl rfl (by decide) (List.mem_cons_of_mem _ gw_42) rfl rfl dX4_copy_12 ?_
  refine x_ki C w [1, 3] [0, 2, 4, 5, 6, 7, 8, 9, 10] rfl rfl (by decide) (by decide) (va_runV (As := []) (rest := []) (xfix C) (c22_X3_count l G cy sa sv h1 h3 h7 h5 (xtr C) _) (cwV 0 (xhts C) (xgV (maxL := 0) (cc := ⟨#[]⟩) (ret := none) gw_130 gw_131 gw_132 gw_7 gc_X3_count) rfl rfl rfl (by decide +kernel) ⟨(Nat.le_of_ble_eq_true rfl), (Nat.le_of_ble_eq_true rfl)⟩) (xPV C w [1, 3] rfl (by decide) (ci := 7) (q0 := 1) rfl rfl) rfl rfl hl.1 rfl (lv_room (Nat.le_of_ble_eq_true rfl)) dX4_copy_15 ⟨(Nat.le_of_ble_eq_true rfl), (Nat.le_of_ble_eq_true rfl)⟩) (fun f4102 H locs w => ?_)
  have w : xW G A s [(h0, .inr (8, [.ref h2, .ref h11, .ref h12, .ref h1, .ref h13, .int 0, .ref h14, .ref h15])), (h2, .inr (7, [.ref h4, .ref h8])), (h4, .inr (6, [.ref h6, .int 0])), (h5, .inl (cy 1, 24, .inl (va_cpy (fun _ => 0) (fun _ => 0) 0 0 0))), (h6, .inl (cy 1, 24, .inl (fun _ => 0))), (h7, .inr (6, [.ref h9, .int 0])), (h8, .inr (6, [.ref h10, .int 0])), (h9, .inl (cy 1, 24, .inl (va_cpy (fun _ => 0) (fun _ => 0) 0 0 0))), (h10, .inl (cy 1, 24, .inl (fun _ => 0))), (h1, .inr (7, [.ref h3, .ref h7])), (h3, .inr (6, [.ref h5, .int 0]))] H _ := w
  have w := w.sub (ws' := [(h0, .inr (8, [.ref h2, .ref h11, .ref h12, .ref h1, .ref h13, .int 0, .ref h14, .ref h15])), (h1, .inr (7, [.ref h3, .ref h7])), (h2, .inr (7, [.ref h4, .ref h8])), (h3, .inr (6, [.ref h5, .int 0])), (h4, .inr (6, [.ref h6, .int 0])), (h5, .inl (cy 1, 24, .inl (va_cpy (fun _ => 0) (fun _ => 0) 0 0 0))), (h6, .inl (cy 1, 24, .inl (fun _ => 0))), (h7, .inr (6, [.ref h9, .int 0])), (h8, .inr (6, [.ref h10, .int 0])), (h9, .inl (cy 1, 24, .inl (va_cpy (fun _ => 0) (fun _ => 0) 0 0 0))), (h10, .inl (cy 1, 24, .inl (fun _ => 0)))]) [0, 9, 1, 10, 2, 3, 4, 5, 6, 7, 8] (by decide) rfl rfl
  exact x_iret C w hr (fun _ => 0) rfl rfl dX4_copy_18 (Nat.le_of_ble_eq_true rfl) (Nat.le_of_ble_eq_true rfl)
set_option maxHeartbeats 4000000 in
set_option maxRecDepth 100000 in
theorem c590_X6_copy (l : Launch) (G : va_G) (cy : Nat → ClassId) (sa : String → Nat → Nat) (sv : Nat → Nat) (h0 h1 h2 h3 h4 h5 h6 h7 : Nat) : xM l G cy sa sv yX6_copy (Cond.code yX6_copy cX6_copy 3 (some .int) :: XG) { frames := 11, cells := 2, slots := 7, locals := 310 } [.ref h0] [(h0, .inr (10, [.ref h1, .ref h2, .ref h3, .ref h4, .ref h5, .ref h6, .ref h7, .int 0, .int 0])), (h1, .inr (3, [.int 0, .ref (sv 0), .int 0]))] (xQi G (fun f => [(h0, .inr (10, [.ref h1, .ref (f 0), .ref h3, .ref h4, .ref h5, .ref h6, .ref h7, .int 0, .int 0])), (h1, .inr (3, [.int 0, .ref (sv 0), .int 0])), ((f 0), .inr (3, [.int 0, .ref (sv 0), .int 0]))]) 0) := by
  refine xof (by decide) (Nat.le_of_ble_eq_true rfl) (fun p e s m below meth c A C w hr hn ls hl => ?_)
  have hl : lv_has ls 3 [(0, .ref h0)] := hl
  refine lv_aload_n C.1 C.2.1 dX6_copy_0 rfl (lv_at hl 0 rfl) ?_
  refine lv_iconst (v := 0) C.1 C.2.1 dX6_copy_1 (by decide) ?_
  refine x_put (ty := .int) (ty0 := tyX6) C w 0 10 8 (xin_X6 _) tyX6_ok nmX6 rfl rfl (by decide) (List.mem_cons_of_mem _ gw_112) rfl rfl (by decide +kernel) rfl rfl (Nat.le_of_ble_eq_true rfl) dX6_copy_2 (fun H locs w => ?_)
  have w : xW G A s [(h0, .inr (10, [.ref h1, .ref h2, .ref h3, .ref h4, .ref h5, .ref h6, .ref h7, .int 0, .int 0])), (h1, .inr (3, [.int 0, .ref (sv 0), .int 0]))] H _ := w
  refine lv_aload_n C.1 C.2.1 dX6_copy_5 rfl (lv_at hl 0 rfl) ?_
  refine x_new (fs := [.int 0, .null, .int 0]) (ty0 := tyJx4a65c) C w 3 (xin_Jx4a65c _) tyJx4a65c_ok rfl (List.mem_cons_of_mem _ gw_60) (List.mem_cons_of_mem _ gw_61) (List.mem_cons_of_mem _ gw_62) (fun j hj => by rcases (show j = 0 ∨ j = 1 ∨ j = 2 by omega) with rfl | rfl | rfl <;> rfl) (Nat.le_of_ble_eq_true rfl) (Nat.le_of_ble_eq_true rfl) dX6_copy_6 (fun q4108 H w => ?_)
  have w : xW G A s [(h0, .inr (10, [.ref h1, .ref h2, .ref h3, .ref h4, .ref h5, .ref h6, .ref h7, .int 0, .int 0])), (h1, .inr (3, [.int 0, .ref (sv 0), .int 0])), (q4108, .inr (3, [.int 0, .null, .int 0]))] H _ := w
  refine W.widen (k := 1) (n := 3) (Nat.le_of_ble_eq_true rfl) (Nat.le_of_ble_eq_true rfl) ?_
  refine lv_dup C.1 C.2.1 dX6_copy_9 rfl ?_
  refine x_kv C w [2] [0, 1] rfl rfl (by decide) (by decide) (va_runI (As := []) (rest := [.ref q4108, .ref h0]) (xfix C) (c10_Jx4a65c_init_da8c8 l G cy sa sv q4108 (xtr C) _) (cwI 0 (xhts C) (xgI gc_Jx4a65c_init_da8c8) rfl rfl rfl (xhts C _ (List.mem_cons_of_mem _ gw_62)) (xhts C _ (List.mem_cons_of_mem _ gw_76)) (xhts C _ (List.mem_cons_of_mem _ gw_77)) rfl (by decide +kernel) ⟨(Nat.le_of_ble_eq_true rfl), (Nat.le_of_ble_eq_true rfl)⟩) (xPS C w [2] rfl (by decide)) rfl rfl hl.1 rfl (lv_room (Nat.le_of_ble_eq_true rfl)) dX6_copy_10 ⟨(Nat.le_of_ble_eq_true rfl), (Nat.le_of_ble_eq_true rfl)⟩) (fun f4111 H locs w => ?_)
  have w : xW G A s [(h0, .inr (10, [.ref h1, .ref h2, .ref h3, .ref h4, .ref h5, .ref h6, .ref h7, .int 0, .int 0])), (h1, .inr (3, [.int 0, .ref (sv 0), .int 0])), (q4108, .inr (3, [.int 0, .ref (sv 0), .int 0]))] H _ := w
  refine x_put (ty := (.object "java/util/ArrayList")) (ty0 := tyX6) C w 0 10 1 (xin_X6 _) tyX6_ok nmX6 rfl rfl (by decide) (List.mem_cons_of_mem _ gw_79) rfl rfl (by decide +kernel) rfl rfl (Nat.le_of_ble_eq_true rfl) dX6_copy_13 (fun H locs w => ?_)
  have w : xW G A s [(h0, .inr (10, [.ref h1, .ref q4108, .ref h3, .ref h4, .ref h5, .ref h6, .ref h7, .int 0, .int 0])), (h1, .inr (3, [.int 0, .ref (sv 0), .int 0])), (q4108, .inr (3, [.int 0, .ref (sv 0), .int 0]))] H _ := w
  refine lv_aload_n C.1 C.2.1 dX6_copy_16 rfl (lv_at hl 0 rfl) ?_
  refine x_get (v := .ref h1) C w 0 10 0 (xin_X6 _) rfl rfl (by decide) (List.mem_cons_of_mem _ gw_78) rfl rfl dX6_copy_17 ?_
  refine x_kr C w [1] [0, 2] rfl rfl (by decide) (by decide) (va_runV (As := []) (rest := []) (xfix C) (c390_Jx4a65c_iterator_32c93 l G cy sa sv h1 (xtr C) _) (cwV 0 (xhts C) (xgV (maxL := 0) (cc := ⟨#[]⟩) (ret := none) gw_738 gw_739 gw_740 gw_62 gc_Jx4a65c_iterator_32c93) rfl rfl rfl (by decide +kernel) ⟨(Nat.le_of_ble_eq_true rfl), (Nat.le_of_ble_eq_true rfl)⟩) (xPV C w [1] rfl (by decide) (ci := 3) (q0 := 1) rfl rfl) rfl rfl hl.1 rfl (lv_room (Nat.le_of_ble_eq_true rfl)) dX6_copy_20 ⟨(Nat.le_of_ble_eq_true rfl), (Nat.le_of_ble_eq_true rfl)⟩) (fun f4117 H locs w => ?_)
  have w : xW G A s [(h0, .inr (10, [.ref h1, .ref q4108, .ref h3, .ref h4, .ref h5, .ref h6, .ref h7, .int 0, .int 0])), (q4108, .inr (3, [.int 0, .ref (sv 0), .int 0])), (h1, .inr (3, [.int 0, .ref (sv 0), .int 0])), ((f4117 0), .inr (2, [.int 0, .int (-1), .int 0, .ref h1]))] H _ := w
  refine W.widen (k := 2) (n := 7) (Nat.le_of_ble_eq_true rfl) (Nat.le_of_ble_eq_true rfl) ?_
  refine lv_astore_n (lv' := [(1, .ref (f4117 0)), (0, .ref h0)]) C.1 C.2.1 dX6_copy_23 rfl hl (by decide) rfl (fun ls hl => ?_)
  refine lv_aload_n C.1 C.2.1 dX6_copy_24 rfl (lv_at hl 0 rfl) ?_
  refine x_kFi C w [3, 2] [0, 1] rfl rfl (by decide) (by decide) (va_runF ((xK C).1 2 _ rfl).2 (As := []) (rest := []) (xfix C) (c391_Jx35411_hasNext_aae02 l G cy sa sv (f4117 0) h1 (xtr C) _) (va_cwF 0 (xhts C) (xgF (x := ⟨"java/util/Iterator", "hasNext", "()Z"⟩) gw_743 gw_744 gw_745 gw_728 gc_Jx35411_hasNext_aae02) rfl rfl rfl (xs_fw (xS C)) (by decide +kernel) ⟨(Nat.le_of_ble_eq_true rfl), (Nat.le_of_ble_eq_true rfl)⟩) (xPV C w [3, 2] rfl (by decide) (ci := 2) (q0 := 3) rfl rfl) rfl rfl hl.1 rfl (lv_room (Nat.le_of_ble_eq_true rfl)) dX6_copy_25 ⟨(Nat.le_of_ble_eq_true rfl), (Nat.le_of_ble_eq_true rfl)⟩) (fun f4118 H locs w => ?_)
  have w : xW G A s [(h0, .inr (10, [.ref h1, .ref q4108, .ref h3, .ref h4, .ref h5, .ref h6, .ref h7, .int 0, .int 0])), (q4108, .inr (3, [.int 0, .ref (sv 0), .int 0])), ((f4117 0), .inr (2, [.int 0, .int (-1), .int 0, .ref h1])), (h1, .inr (3, [.int 0, .ref (sv 0), .int 0]))] H _ := w
  refine lv_if_eq (tgt := 69) C.1 C.2.1 dX6_copy_30 (by decide) (fun _ => ?_) (fun c9 => absurd (by decide) c9)
  refine lv_aload_n C.1 C.2.1 dX6_copy_69 rfl (lv_at hl 1 rfl) ?_
  refine x_get (v := .ref q4108) C w 0 10 1 (xin_X6 _) rfl rfl (by decide) (List.mem_cons_of_mem _ gw_79) rfl rfl dX6_copy_70 ?_
  refine x_ki C w [1] [0, 2, 3] rfl rfl (by decide) (by decide) (va_runV (As := []) (rest := []) (xfix C) (c47_Jx4a65c_size_8abf5 l G cy sa sv q4108 (xtr C) _) (cwV 0 (xhts C) (xgV (maxL := 0) (cc := ⟨#[]⟩) (ret := none) gw_195 gw_196 gw_197 gw_62 gc_Jx4a65c_size_8abf5) rfl rfl rfl (by decide +kernel) ⟨(Nat.le_of_ble_eq_true rfl), (Nat.le_of_ble_eq_true rfl)⟩) (xPV C w [1] rfl (by decide) (ci := 3) (q0 := 1) rfl rfl) rfl rfl hl.1 rfl (lv_room (Nat.le_of_ble_eq_true rfl)) dX6_copy_73 ⟨(Nat.le_of_ble_eq_true rfl), (Nat.le_of_ble_eq_true rfl)⟩) (fun f4119 H locs w => ?_)
  have w : xW G A s [(h0, .inr (10, [.ref h1, .ref q4108, .ref h3, .ref h4, .ref h5, .ref h6, .ref h7, .int 0, .int 0])), ((f4117 0), .inr (2, [.int 0, .int (-1), .int 0, .ref h1])), (h1, .inr (3, [.int 0, .ref (sv 0), .int 0])), (q4108, .inr (3, [.int 0, .ref (sv 0), .int 0]))] H _ := w
  have w := w.sub (ws' := [(h0, .inr (10, [.ref h1, .ref q4108, .ref h3, .ref h4, .ref h5, .ref h6, .ref h7, .int 0, .int 0])), (h1, .inr (3, [.int 0, .ref (sv 0), .int 0])), (q4108, .inr (3, [.int 0, .ref (sv 0), .int 0]))]) [0, 2, 3] (by decide) rfl rfl
  exact x_iret C w hr (fun k => match k with | 0 => q4108 | _ => 0) rfl rfl dX6_copy_76 (Nat.le_of_ble_eq_true rfl) (Nat.le_of_ble_eq_true rfl)
set_option maxHeartbeats 4000000 in
set_option maxRecDepth 100000 in
theorem c591_X3_differencesFrom (l : Launch) (G : va_G) (cy : Nat → ClassId) (sa : String → Nat → Nat) (sv : Nat → Nat) (h0 h1 h2 h3 h4 h5 h6 h7 : Nat) : xM l G cy sa sv yX3_differencesFrom (Cond.code yX3_differencesFrom cX3_differencesFrom 4 (some .int) :: XG) { frames := 10, cells := 0, slots := 0, locals := 290 } [.ref h0, .ref h1] [(h0, .inr (7, [.ref h2, .ref h4])), (h2, .inr (6, [.ref h5, .int 0])), (h1, .inr (7, [.ref h3, .ref h6])), (h3, .inr (6, [.ref h7, .int 0]))] (xQi G (fun f => [(h0, .inr (7, [.ref h2, .ref h4])), (h2, .inr (6, [.ref h5, .int 0])), (h1, .inr (7, [.ref h3, .ref h6])), (h3, .inr (6, [.ref h7, .int 0]))]) 0) := by
  refine xof (by decide) (Nat.le_of_ble_eq_true rfl) (fun p e s m below meth c A C w hr hn ls hl => ?_)
  have hl : lv_has ls 4 [(0, .ref h0), (1, .ref h1)] := hl
  refine lv_iconst (v := 0) C.1 C.2.1 dX3_differencesFrom_0 (by decide) ?_
  refine lv_istore_n (lv' := [(2, .int 0), (0, .ref h0), (1, .ref h1)]) C.1 C.2.1 dX3_differencesFrom_1 rfl hl (by decide) rfl (fun ls hl => ?_)
  refine lv_iconst (v := 0) C.1 C.2.1 dX3_differencesFrom_2 (by decide) ?_
  refine lv_istore_n (lv' := [(3, .int 0), (2, .int 0), (0, .ref h0), (1, .ref h1)]) C.1 C.2.1 dX3_differencesFrom_3 rfl hl (by decide) rfl (fun ls hl => ?_)
  refine lv_iload_n C.1 C.2.1 dX3_differencesFrom_4 rfl (lv_at hl 0 rfl) ?_
  refine lv_aload_n C.1 C.2.1 dX3_differencesFrom_5 rfl (lv_at hl 2 rfl) ?_
  refine x_ki C w [0, 1] [2, 3] rfl rfl (by decide) (by decide) (va_runV (As := []) (rest := [.int 0]) (xfix C) (c22_X3_count l G cy sa sv h0 h2 h4 h5 (xtr C) _) (cwV 0 (xhts C) (xgV (maxL := 0) (cc := ⟨#[]⟩) (ret := none) gw_648 gw_131 gw_132 gw_7 gc_X3_count) rfl rfl rfl (by decide +kernel) ⟨(Nat.le_of_ble_eq_true rfl), (Nat.le_of_ble_eq_true rfl)⟩) (xPV C w [0, 1] rfl (by decide) (ci := 7) (q0 := 0) rfl rfl) rfl rfl hl.1 rfl (lv_room (Nat.le_of_ble_eq_true rfl)) dX3_differencesFrom_6 ⟨(Nat.le_of_ble_eq_true rfl), (Nat.le_of_ble_eq_true rfl)⟩) (fun f4125 H locs w => ?_)
  have w : xW G A s [(h1, .inr (7, [.ref h3, .ref h6])), (h3, .inr (6, [.ref h7, .int 0])), (h0, .inr (7, [.ref h2, .ref h4])), (h2, .inr (6, [.ref h5, .int 0]))] H _ := w
  refine lv_icmp_ge (tgt := 38) C.1 C.2.1 dX3_differencesFrom_9 (by decide) (fun _ => ?_) (fun c9 => absurd (by decide) c9)
  refine lv_iconst (v := 0) C.1 C.2.1 dX3_differencesFrom_38 (by decide) ?_
  refine lv_istore_n (lv' := [(3, .int 0), (2, .int 0), (0, .ref h0), (1, .ref h1)]) C.1 C.2.1 dX3_differencesFrom_39 rfl hl (by decide) rfl (fun ls hl => ?_)
  refine lv_iload_n C.1 C.2.1 dX3_differencesFrom_40 rfl (lv_at hl 0 rfl) ?_
  refine lv_aload_n C.1 C.2.1 dX3_differencesFrom_41 rfl (lv_at hl 3 rfl) ?_
  refine x_ki C w [0, 1] [2, 3] rfl rfl (by decide) (by decide) (va_runV (As := []) (rest := [.int 0]) (xfix C) (c22_X3_count l G cy sa sv h1 h3 h6 h7 (xtr C) _) (cwV 0 (xhts C) (xgV (maxL := 0) (cc := ⟨#[]⟩) (ret := none) gw_648 gw_131 gw_132 gw_7 gc_X3_count) rfl rfl rfl (by decide +kernel) ⟨(Nat.le_of_ble_eq_true rfl), (Nat.le_of_ble_eq_true rfl)⟩) (xPV C w [0, 1] rfl (by decide) (ci := 7) (q0 := 0) rfl rfl) rfl rfl hl.1 rfl (lv_room (Nat.le_of_ble_eq_true rfl)) dX3_differencesFrom_42 ⟨(Nat.le_of_ble_eq_true rfl), (Nat.le_of_ble_eq_true rfl)⟩) (fun f4127 H locs w => ?_)
  have w : xW G A s [(h0, .inr (7, [.ref h2, .ref h4])), (h2, .inr (6, [.ref h5, .int 0])), (h1, .inr (7, [.ref h3, .ref h6])), (h3, .inr (6, [.ref h7, .int 0]))] H _ := w
  refine lv_icmp_ge (tgt := 69) C.1 C.2.1 dX3_differencesFrom_45 (by decide) (fun _ => ?_) (fun c9 => absurd (by decide) c9)
  refine lv_iload_n C.1 C.2.1 dX3_differencesFrom_69 rfl (lv_at hl 1 rfl) ?_
  exact x_iret C w hr (fun _ => 0) rfl rfl dX3_differencesFrom_70 (Nat.le_of_ble_eq_true rfl) (Nat.le_of_ble_eq_true rfl)
set_option maxHeartbeats 4000000 in
set_option maxRecDepth 100000 in
theorem c592_X4_apart (l : Launch) (G : va_G) (cy : Nat → ClassId) (sa : String → Nat → Nat) (sv : Nat → Nat) (h0 h1 h2 h3 h4 h5 h6 h7 h8 h9 h10 h11 h12 h13 : Nat) : xM l G cy sa sv yX4_apart (Cond.code yX4_apart cX4_apart 1 (some .int) :: XG) { frames := 11, cells := 0, slots := 0, locals := 313 } [.ref h0] [(h0, .inr (8, [.ref h1, .ref h5, .ref h6, .ref h3, .ref h7, .int 0, .ref h8, .ref h9])), (h1, .inr (7, [.ref h2, .ref h10])), (h2, .inr (6, [.ref h11, .int 0])), (h3, .inr (7, [.ref h4, .ref h12])), (h4, .inr (6, [.ref h13, .int 0]))] (xQi G (fun f => [(h0, .inr (8, [.ref h1, .ref h5, .ref h6, .ref h3, .ref h7, .int 0, .ref h8, .ref h9])), (h1, .inr (7, [.ref h2, .ref h10])), (h2, .inr (6, [.ref h11, .int 0])), (h3, .inr (7, [.ref h4, .ref h12])), (h4, .inr (6, [.ref h13, .int 0]))]) 0) := by
  refine xof (by decide) (Nat.le_of_ble_eq_true rfl) (fun p e s m below meth c A C w hr hn ls hl => ?_)
  have hl : lv_has ls 1 [(0, .ref h0)] := hl
  refine lv_aload_n C.1 C.2.1 dX4_apart_0 rfl (lv_at hl 0 rfl) ?_
  refine x_get (v := .ref h1) C w 0 8 0 (xin_X4 _) rfl rfl (by decide) (List.mem_cons_of_mem _ gw_24) rfl rfl dX4_apart_1 ?_
  refine lv_aload_n C.1 C.2.1 dX4_apart_4 rfl (lv_at hl 0 rfl) ?_
  refine x_get (v := .ref h3) C w 0 8 3 (xin_X4 _) rfl rfl (by decide) (List.mem_cons_of_mem _ gw_42) rfl rfl dX4_apart_5 ?_
  refine x_ki C w [1, 2, 3, 4] [0] rfl rfl (by decide) (by decide) (va_runV (As := [.ref h3]) (rest := []) (xfix C) (c591_X3_differencesFrom l G cy sa sv h1 h3 h2 h4 h10 h11 h12 h13 (xtr C) _) (cwV 1 (xhts C) (xgV (maxL := 0) (cc := ⟨#[]⟩) (ret := none) gw_969 gw_970 gw_971 gw_7 gc_X3_differencesFrom) rfl rfl rfl (by decide +kernel) ⟨(Nat.le_of_ble_eq_true rfl), (Nat.le_of_ble_eq_true rfl)⟩) (xPV C w [1, 2, 3, 4] rfl (by decide) (ci := 7) (q0 := 1) rfl rfl) rfl rfl hl.1 rfl (lv_room (Nat.le_of_ble_eq_true rfl)) dX4_apart_8 ⟨(Nat.le_of_ble_eq_true rfl), (Nat.le_of_ble_eq_true rfl)⟩) (fun f4128 H locs w => ?_)
  have w : xW G A s [(h0, .inr (8, [.ref h1, .ref h5, .ref h6, .ref h3, .ref h7, .int 0, .ref h8, .ref h9])), (h1, .inr (7, [.ref h2, .ref h10])), (h2, .inr (6, [.ref h11, .int 0])), (h3, .inr (7, [.ref h4, .ref h12])), (h4, .inr (6, [.ref h13, .int 0]))] H _ := w
  exact x_iret C w hr (fun _ => 0) rfl rfl dX4_apart_11 (Nat.le_of_ble_eq_true rfl) (Nat.le_of_ble_eq_true rfl)
set_option maxHeartbeats 4000000 in
set_option maxRecDepth 100000 in
theorem c593_X4_isCopy (l : Launch) (G : va_G) (cy : Nat → ClassId) (sa : String → Nat → Nat) (sv : Nat → Nat) (h0 h1 h2 h3 h4 h5 h6 h7 h8 h9 h10 h11 h12 h13 : Nat) : xM l G cy sa sv yX4_isCopy (Cond.code yX4_isCopy cX4_isCopy 1 (some .boolean) :: XG) { frames := 12, cells := 0, slots := 0, locals := 333 } [.ref h0] [(h0, .inr (8, [.ref h1, .ref h5, .ref h6, .ref h3, .ref h7, .int 0, .ref h8, .ref h9])), (h1, .inr (7, [.ref h2, .ref h10])), (h2, .inr (6, [.ref h11, .int 0])), (h3, .inr (7, [.ref h4, .ref h12])), (h4, .inr (6, [.ref h13, .int 0]))] (xQi G (fun f => [(h0, .inr (8, [.ref h1, .ref h5, .ref h6, .ref h3, .ref h7, .int 0, .ref h8, .ref h9])), (h1, .inr (7, [.ref h2, .ref h10])), (h2, .inr (6, [.ref h11, .int 0])), (h3, .inr (7, [.ref h4, .ref h12])), (h4, .inr (6, [.ref h13, .int 0]))]) 1) := by
  refine xof (by decide) (Nat.le_of_ble_eq_true rfl) (fun p e s m below meth c A C w hr hn ls hl => ?_)
  have hl : lv_has ls 1 [(0, .ref h0)] := hl
  refine lv_aload_n C.1 C.2.1 dX4_isCopy_0 rfl (lv_at hl 0 rfl) ?_
  refine x_ki C w [0, 1, 2, 3, 4] [] rfl rfl (by decide) (by decide) (va_runV (As := []) (rest := []) (xfix C) (c592_X4_apart l G cy sa sv h0 h1 h2 h3 h4 h5 h6 h7 h8 h9 h10 h11 h12 h13 (xtr C) _) (cwV 0 (xhts C) (xgV (maxL := 0) (cc := ⟨#[]⟩) (ret := none) gw_973 gw_974 gw_975 gw_2 gc_X4_apart) rfl rfl rfl (by decide +kernel) ⟨(Nat.le_of_ble_eq_true rfl), (Nat.le_of_ble_eq_true rfl)⟩) (xPV C w [0, 1, 2, 3, 4] rfl (by decide) (ci := 8) (q0 := 0) rfl rfl) rfl rfl hl.1 rfl (lv_room (Nat.le_of_ble_eq_true rfl)) dX4_isCopy_1 ⟨(Nat.le_of_ble_eq_true rfl), (Nat.le_of_ble_eq_true rfl)⟩) (fun f4129 H locs w => ?_)
  have w : xW G A s [(h0, .inr (8, [.ref h1, .ref h5, .ref h6, .ref h3, .ref h7, .int 0, .ref h8, .ref h9])), (h1, .inr (7, [.ref h2, .ref h10])), (h2, .inr (6, [.ref h11, .int 0])), (h3, .inr (7, [.ref h4, .ref h12])), (h4, .inr (6, [.ref h13, .int 0]))] H _ := w
  refine lv_if_ne (tgt := 11) C.1 C.2.1 dX4_isCopy_4 (by decide) (fun c9 => absurd (by decide) c9) (fun _ => ?_)
  refine lv_iconst (v := 1) C.1 C.2.1 dX4_isCopy_7 (by decide) ?_
  refine lv_goto (tgt := 12) C.1 C.2.1 dX4_isCopy_8 (by decide) ?_
  exact x_zret C w hr rfl (fun _ => 0) rfl rfl dX4_isCopy_12 (Nat.le_of_ble_eq_true rfl) (Nat.le_of_ble_eq_true rfl)
set_option maxHeartbeats 4000000 in
set_option maxRecDepth 100000 in
theorem c594_X6_apartNow (l : Launch) (G : va_G) (cy : Nat → ClassId) (sa : String → Nat → Nat) (sv : Nat → Nat) (h0 h1 h2 h3 h4 h5 h6 h7 : Nat) : xM l G cy sa sv yX6_apartNow (Cond.code yX6_apartNow cX6_apartNow 4 (some .int) :: XG) { frames := 10, cells := 2, slots := 8, locals := 291 } [.ref h0] [(h0, .inr (10, [.ref h1, .ref h2, .ref h3, .ref h4, .ref h5, .ref h6, .ref h7, .int 0, .int 0])), (h1, .inr (3, [.int 0, .ref (sv 0), .int 0])), (h2, .inr (3, [.int 0, .ref (sv 0), .int 0]))] (xQi G (fun f => [(h0, .inr (10, [.ref h1, .ref h2, .ref h3, .ref h4, .ref h5, .ref h6, .ref h7, .int 0, .int 0])), (h1, .inr (3, [.int 0, .ref (sv 0), .int 0])), (h2, .inr (3, [.int 0, .ref (sv 0), .int 0]))]) 0) := by
  refine xof (by decide) (Nat.le_of_ble_eq_true rfl) (fun p e s m below meth c A C w hr hn ls hl => ?_)
  have hl : lv_has ls 4 [(0, .ref h0)] := hl
  refine lv_iconst (v := 0) C.1 C.2.1 dX6_apartNow_0 (by decide) ?_
  refine lv_istore_n (lv' := [(1, .int 0), (0, .ref h0)]) C.1 C.2.1 dX6_apartNow_1 rfl hl (by decide) rfl (fun ls hl => ?_)
  refine lv_aload_n C.1 C.2.1 dX6_apartNow_2 rfl (lv_at hl 1 rfl) ?_
  refine x_get (v := .ref h1) C w 0 10 0 (xin_X6 _) rfl rfl (by decide) (List.mem_cons_of_mem _ gw_78) rfl rfl dX6_apartNow_3 ?_
  refine x_kr C w [1] [0, 2] rfl rfl (by decide) (by decide) (va_runV (As := []) (rest := []) (xfix C) (c390_Jx4a65c_iterator_32c93 l G cy sa sv h1 (xtr C) _) (cwV 0 (xhts C) (xgV (maxL := 0) (cc := ⟨#[]⟩) (ret := none) gw_738 gw_739 gw_740 gw_62 gc_Jx4a65c_iterator_32c93) rfl rfl rfl (by decide +kernel) ⟨(Nat.le_of_ble_eq_true rfl), (Nat.le_of_ble_eq_true rfl)⟩) (xPV C w [1] rfl (by decide) (ci := 3) (q0 := 1) rfl rfl) rfl rfl hl.1 rfl (lv_room (Nat.le_of_ble_eq_true rfl)) dX6_apartNow_6 ⟨(Nat.le_of_ble_eq_true rfl), (Nat.le_of_ble_eq_true rfl)⟩) (fun f4144 H locs w => ?_)
  have w : xW G A s [(h0, .inr (10, [.ref h1, .ref h2, .ref h3, .ref h4, .ref h5, .ref h6, .ref h7, .int 0, .int 0])), (h2, .inr (3, [.int 0, .ref (sv 0), .int 0])), (h1, .inr (3, [.int 0, .ref (sv 0), .int 0])), ((f4144 0), .inr (2, [.int 0, .int (-1), .int 0, .ref h1]))] H _ := w
  refine W.widen (k := 1) (n := 4) (Nat.le_of_ble_eq_true rfl) (Nat.le_of_ble_eq_true rfl) ?_
  refine lv_astore_n (lv' := [(2, .ref (f4144 0)), (1, .int 0), (0, .ref h0)]) C.1 C.2.1 dX6_apartNow_9 rfl hl (by decide) rfl (fun ls hl => ?_)
  refine lv_aload_n C.1 C.2.1 dX6_apartNow_10 rfl (lv_at hl 0 rfl) ?_
  refine x_kFi C w [3, 2] [0, 1] rfl rfl (by decide) (by decide) (va_runF ((xK C).1 2 _ rfl).2 (As := []) (rest := []) (xfix C) (c391_Jx35411_hasNext_aae02 l G cy sa sv (f4144 0) h1 (xtr C) _) (va_cwF 0 (xhts C) (xgF (x := ⟨"java/util/Iterator", "hasNext", "()Z"⟩) gw_743 gw_744 gw_745 gw_728 gc_Jx35411_hasNext_aae02) rfl rfl rfl (xs_fw (xS C)) (by decide +kernel) ⟨(Nat.le_of_ble_eq_true rfl), (Nat.le_of_ble_eq_true rfl)⟩) (xPV C w [3, 2] rfl (by decide) (ci := 2) (q0 := 3) rfl rfl) rfl rfl hl.1 rfl (lv_room (Nat.le_of_ble_eq_true rfl)) dX6_apartNow_11 ⟨(Nat.le_of_ble_eq_true rfl), (Nat.le_of_ble_eq_true rfl)⟩) (fun f4145 H locs w => ?_)
  have w : xW G A s [(h0, .inr (10, [.ref h1, .ref h2, .ref h3, .ref h4, .ref h5, .ref h6, .ref h7, .int 0, .int 0])), (h2, .inr (3, [.int 0, .ref (sv 0), .int 0])), ((f4144 0), .inr (2, [.int 0, .int (-1), .int 0, .ref h1])), (h1, .inr (3, [.int 0, .ref (sv 0), .int 0]))] H _ := w
  refine lv_if_eq (tgt := 59) C.1 C.2.1 dX6_apartNow_16 (by decide) (fun _ => ?_) (fun c9 => absurd (by decide) c9)
  refine lv_aload_n C.1 C.2.1 dX6_apartNow_59 rfl (lv_at hl 2 rfl) ?_
  refine x_get (v := .ref h2) C w 0 10 1 (xin_X6 _) rfl rfl (by decide) (List.mem_cons_of_mem _ gw_79) rfl rfl dX6_apartNow_60 ?_
  refine x_kr C w [1] [0, 2, 3] rfl rfl (by decide) (by decide) (va_runV (As := []) (rest := []) (xfix C) (c390_Jx4a65c_iterator_32c93 l G cy sa sv h2 (xtr C) _) (cwV 0 (xhts C) (xgV (maxL := 0) (cc := ⟨#[]⟩) (ret := none) gw_738 gw_739 gw_740 gw_62 gc_Jx4a65c_iterator_32c93) rfl rfl rfl (by decide +kernel) ⟨(Nat.le_of_ble_eq_true rfl), (Nat.le_of_ble_eq_true rfl)⟩) (xPV C w [1] rfl (by decide) (ci := 3) (q0 := 1) rfl rfl) rfl rfl hl.1 rfl (lv_room (Nat.le_of_ble_eq_true rfl)) dX6_apartNow_63 ⟨(Nat.le_of_ble_eq_true rfl), (Nat.le_of_ble_eq_true rfl)⟩) (fun f4151 H locs w => ?_)
  have w : xW G A s [(h0, .inr (10, [.ref h1, .ref h2, .ref h3, .ref h4, .ref h5, .ref h6, .ref h7, .int 0, .int 0])), ((f4144 0), .inr (2, [.int 0, .int (-1), .int 0, .ref h1])), (h1, .inr (3, [.int 0, .ref (sv 0), .int 0])), (h2, .inr (3, [.int 0, .ref (sv 0), .int 0])), ((f4151 0), .inr (2, [.int 0, .int (-1), .int 0, .ref h2]))] H _ := w
  refine W.widen (k := 2) (n := 8) (Nat.le_of_ble_eq_true rfl) (Nat.le_of_ble_eq_true rfl) ?_
  refine lv_astore_n (lv' := [(2, .ref (f4151 0)), (1, .int 0), (0, .ref h0)]) C.1 C.2.1 dX6_apartNow_66 rfl hl (by decide) rfl (fun ls hl => ?_)
  refine lv_aload_n C.1 C.2.1 dX6_apartNow_67 rfl (lv_at hl 0 rfl) ?_
  refine x_kFi C w [4, 3] [0, 1, 2] rfl rfl (by decide) (by decide) (va_runF ((xK C).1 2 _ rfl).2 (As := []) (rest := []) (xfix C) (c391_Jx35411_hasNext_aae02 l G cy sa sv (f4151 0) h2 (xtr C) _) (va_cwF 0 (xhts C) (xgF (x := ⟨"java/util/Iterator", "hasNext", "()Z"⟩) gw_743 gw_744 gw_745 gw_728 gc_Jx35411_hasNext_aae02) rfl rfl rfl (xs_fw (xS C)) (by decide +kernel) ⟨(Nat.le_of_ble_eq_true rfl), (Nat.le_of_ble_eq_true rfl)⟩) (xPV C w [4, 3] rfl (by decide) (ci := 2) (q0 := 4) rfl rfl) rfl rfl hl.1 rfl (lv_room (Nat.le_of_ble_eq_true rfl)) dX6_apartNow_68 ⟨(Nat.le_of_ble_eq_true rfl), (Nat.le_of_ble_eq_true rfl)⟩) (fun f4152 H locs w => ?_)
  have w : xW G A s [(h0, .inr (10, [.ref h1, .ref h2, .ref h3, .ref h4, .ref h5, .ref h6, .ref h7, .int 0, .int 0])), ((f4144 0), .inr (2, [.int 0, .int (-1), .int 0, .ref h1])), (h1, .inr (3, [.int 0, .ref (sv 0), .int 0])), ((f4151 0), .inr (2, [.int 0, .int (-1), .int 0, .ref h2])), (h2, .inr (3, [.int 0, .ref (sv 0), .int 0]))] H _ := w
  refine lv_if_eq (tgt := 113) C.1 C.2.1 dX6_apartNow_73 (by decide) (fun _ => ?_) (fun c9 => absurd (by decide) c9)
  refine lv_iload_n C.1 C.2.1 dX6_apartNow_113 rfl (lv_at hl 1 rfl) ?_
  have w := w.sub (ws' := [(h0, .inr (10, [.ref h1, .ref h2, .ref h3, .ref h4, .ref h5, .ref h6, .ref h7, .int 0, .int 0])), (h1, .inr (3, [.int 0, .ref (sv 0), .int 0])), (h2, .inr (3, [.int 0, .ref (sv 0), .int 0]))]) [0, 2, 4] (by decide) rfl rfl
  exact x_iret C w hr (fun _ => 0) rfl rfl dX6_apartNow_114 (Nat.le_of_ble_eq_true rfl) (Nat.le_of_ble_eq_true rfl)
set_option maxHeartbeats 4000000 in
set_option maxRecDepth 100000 in
theorem c595_X6_isCopy (l : Launch) (G : va_G) (cy : Nat → ClassId) (sa : String → Nat → Nat) (sv : Nat → Nat) (h0 h1 h2 h3 h4 h5 h6 h7 : Nat) : xM l G cy sa sv yX6_isCopy (Cond.code yX6_isCopy cX6_isCopy 1 (some .boolean) :: XG) { frames := 11, cells := 2, slots := 8, locals := 314 } [.ref h0] [(h0, .inr (10, [.ref h1, .ref h2, .ref h3, .ref h4, .ref h5, .ref h6, .ref h7, .int 0, .int 0])), (h1, .inr (3, [.int 0, .ref (sv 0), .int 0])), (h2, .inr (3, [.int 0, .ref (sv 0), .int 0]))] (xQi G (fun f => [(h0, .inr (10, [.ref h1, .ref h2, .ref h3, .ref h4, .ref h5, .ref h6, .ref h7, .int 0, .int 0])), (h1, .inr (3, [.int 0, .ref (sv 0), .int 0])), (h2, .inr (3, [.int 0, .ref (sv 0), .int 0]))]) 1) := by
  refine xof (by decide) (Nat.le_of_ble_eq_true rfl) (fun p e s m below meth c A C w hr hn ls hl => ?_)
  have hl : lv_has ls 1 [(0, .ref h0)] := hl
  refine lv_aload_n C.1 C.2.1 dX6_isCopy_0 rfl (lv_at hl 0 rfl) ?_
  refine lv_iconst (v := 0) C.1 C.2.1 dX6_isCopy_1 (by decide) ?_
  refine x_put (ty := .int) (ty0 := tyX6) C w 0 10 8 (xin_X6 _) tyX6_ok nmX6 rfl rfl (by decide) (List.mem_cons_of_mem _ gw_112) rfl rfl (by decide +kernel) rfl rfl (Nat.le_of_ble_eq_true rfl) dX6_isCopy_2 (fun H locs w => ?_)
  have w : xW G A s [(h0, .inr (10, [.ref h1, .ref h2, .ref h3, .ref h4, .ref h5, .ref h6, .ref h7, .int 0, .int 0])), (h1, .inr (3, [.int 0, .ref (sv 0), .int 0])), (h2, .inr (3, [.int 0, .ref (sv 0), .int 0]))] H _ := w
  refine lv_aload_n C.1 C.2.1 dX6_isCopy_5 rfl (lv_at hl 0 rfl) ?_
  refine x_ki C w [0, 1, 2] [] rfl rfl (by decide) (by decide) (va_runV (As := []) (rest := []) (xfix C) (c594_X6_apartNow l G cy sa sv h0 h1 h2 h3 h4 h5 h6 h7 (xtr C) _) (cwV 0 (xhts C) (xgV (maxL := 0) (cc := ⟨#[]⟩) (ret := none) gw_981 gw_982 gw_983 gw_58 gc_X6_apartNow) rfl rfl rfl (by decide +kernel) ⟨(Nat.le_of_ble_eq_true rfl), (Nat.le_of_ble_eq_true rfl)⟩) (xPV C w [0, 1, 2] rfl (by decide) (ci := 10) (q0 := 0) rfl rfl) rfl rfl hl.1 rfl (lv_room (Nat.le_of_ble_eq_true rfl)) dX6_isCopy_6 ⟨(Nat.le_of_ble_eq_true rfl), (Nat.le_of_ble_eq_true rfl)⟩) (fun f4153 H locs w => ?_)
  have w : xW G A s [(h0, .inr (10, [.ref h1, .ref h2, .ref h3, .ref h4, .ref h5, .ref h6, .ref h7, .int 0, .int 0])), (h1, .inr (3, [.int 0, .ref (sv 0), .int 0])), (h2, .inr (3, [.int 0, .ref (sv 0), .int 0]))] H _ := w
  refine W.widen (k := 2) (n := 8) (Nat.le_of_ble_eq_true rfl) (Nat.le_of_ble_eq_true rfl) ?_
  refine lv_if_ne (tgt := 16) C.1 C.2.1 dX6_isCopy_9 (by decide) (fun c9 => absurd (by decide) c9) (fun _ => ?_)
  refine lv_iconst (v := 1) C.1 C.2.1 dX6_isCopy_12 (by decide) ?_
  refine lv_goto (tgt := 17) C.1 C.2.1 dX6_isCopy_13 (by decide) ?_
  exact x_zret C w hr rfl (fun _ => 0) rfl rfl dX6_isCopy_17 (Nat.le_of_ble_eq_true rfl) (Nat.le_of_ble_eq_true rfl)
set_option maxHeartbeats 4000000 in
set_option maxRecDepth 100000 in
theorem c596_X6_apart (l : Launch) (G : va_G) (cy : Nat → ClassId) (sa : String → Nat → Nat) (sv : Nat → Nat) (h0 h1 h2 h3 h4 h5 h6 h7 : Nat) : xM l G cy sa sv yX6_apart (Cond.code yX6_apart cX6_apart 1 (some .int) :: XG) { frames := 11, cells := 2, slots := 8, locals := 314 } [.ref h0] [(h0, .inr (10, [.ref h1, .ref h2, .ref h3, .ref h4, .ref h5, .ref h6, .ref h7, .int 0, .int 0])), (h1, .inr (3, [.int 0, .ref (sv 0), .int 0])), (h2, .inr (3, [.int 0, .ref (sv 0), .int 0]))] (xQi G (fun f => [(h0, .inr (10, [.ref h1, .ref h2, .ref h3, .ref h4, .ref h5, .ref h6, .ref h7, .int 0, .int 0])), (h1, .inr (3, [.int 0, .ref (sv 0), .int 0])), (h2, .inr (3, [.int 0, .ref (sv 0), .int 0]))]) 0) := by
  refine xof (by decide) (Nat.le_of_ble_eq_true rfl) (fun p e s m below meth c A C w hr hn ls hl => ?_)
  have hl : lv_has ls 1 [(0, .ref h0)] := hl
  refine lv_aload_n C.1 C.2.1 dX6_apart_0 rfl (lv_at hl 0 rfl) ?_
  refine lv_iconst (v := 0) C.1 C.2.1 dX6_apart_1 (by decide) ?_
  refine x_put (ty := .int) (ty0 := tyX6) C w 0 10 8 (xin_X6 _) tyX6_ok nmX6 rfl rfl (by decide) (List.mem_cons_of_mem _ gw_112) rfl rfl (by decide +kernel) rfl rfl (Nat.le_of_ble_eq_true rfl) dX6_apart_2 (fun H locs w => ?_)
  have w : xW G A s [(h0, .inr (10, [.ref h1, .ref h2, .ref h3, .ref h4, .ref h5, .ref h6, .ref h7, .int 0, .int 0])), (h1, .inr (3, [.int 0, .ref (sv 0), .int 0])), (h2, .inr (3, [.int 0, .ref (sv 0), .int 0]))] H _ := w
  refine lv_aload_n C.1 C.2.1 dX6_apart_5 rfl (lv_at hl 0 rfl) ?_
  refine x_ki C w [0, 1, 2] [] rfl rfl (by decide) (by decide) (va_runV (As := []) (rest := []) (xfix C) (c594_X6_apartNow l G cy sa sv h0 h1 h2 h3 h4 h5 h6 h7 (xtr C) _) (cwV 0 (xhts C) (xgV (maxL := 0) (cc := ⟨#[]⟩) (ret := none) gw_981 gw_982 gw_983 gw_58 gc_X6_apartNow) rfl rfl rfl (by decide +kernel) ⟨(Nat.le_of_ble_eq_true rfl), (Nat.le_of_ble_eq_true rfl)⟩) (xPV C w [0, 1, 2] rfl (by decide) (ci := 10) (q0 := 0) rfl rfl) rfl rfl hl.1 rfl (lv_room (Nat.le_of_ble_eq_true rfl)) dX6_apart_6 ⟨(Nat.le_of_ble_eq_true rfl), (Nat.le_of_ble_eq_true rfl)⟩) (fun f4185 H locs w => ?_)
  have w : xW G A s [(h0, .inr (10, [.ref h1, .ref h2, .ref h3, .ref h4, .ref h5, .ref h6, .ref h7, .int 0, .int 0])), (h1, .inr (3, [.int 0, .ref (sv 0), .int 0])), (h2, .inr (3, [.int 0, .ref (sv 0), .int 0]))] H _ := w
  refine W.widen (k := 2) (n := 8) (Nat.le_of_ble_eq_true rfl) (Nat.le_of_ble_eq_true rfl) ?_
  exact x_iret C w hr (fun _ => 0) rfl rfl dX6_apart_9 (Nat.le_of_ble_eq_true rfl) (Nat.le_of_ble_eq_true rfl)
set_option maxHeartbeats 4000000 in
set_option maxRecDepth 100000 in
theorem c597_X4_storeKept (l : Launch) (G : va_G) (cy : Nat → ClassId) (sa : String → Nat → Nat) (sv : Nat → Nat) (h0 h1 h2 h3 h4 h5 h6 h7 h8 h9 h10 : Nat) : xM l G cy sa sv yX4_storeKept (Cond.code yX4_storeKept cX4_storeKept 5 (some .int) :: XG) { frames := 10, cells := 0, slots := 0, locals := 290 } [.ref h0] [(h0, .inr (8, [.ref h3, .ref h4, .ref h5, .ref h1, .ref h6, .int 0, .ref h7, .ref h8])), (h1, .inr (7, [.ref h2, .ref h9])), (h2, .inr (6, [.ref h10, .int 0]))] (xQi G (fun f => [(h0, .inr (8, [.ref h3, .ref h4, .ref h5, .ref h1, .ref h6, .int 0, .ref h7, .ref h8])), (h1, .inr (7, [.ref h2, .ref h9])), (h2, .inr (6, [.ref h10, .int 0]))]) 0) := by
  refine xof (by decide) (Nat.le_of_ble_eq_true rfl) (fun p e s m below meth c A C w hr hn ls hl => ?_)
  have hl : lv_has ls 5 [(0, .ref h0)] := hl
  refine lv_iconst (v := 0) C.1 C.2.1 dX4_storeKept_0 (by decide) ?_
  refine lv_istore_n (lv' := [(1, .int 0), (0, .ref h0)]) C.1 C.2.1 dX4_storeKept_1 rfl hl (by decide) rfl (fun ls hl => ?_)
  refine lv_aload_n C.1 C.2.1 dX4_storeKept_2 rfl (lv_at hl 1 rfl) ?_
  refine x_get (v := .ref h1) C w 0 8 3 (xin_X4 _) rfl rfl (by decide) (List.mem_cons_of_mem _ gw_42) rfl rfl dX4_storeKept_3 ?_
  refine x_ki C w [1, 2] [0] rfl rfl (by decide) (by decide) (va_runV (As := []) (rest := []) (xfix C) (c22_X3_count l G cy sa sv h1 h2 h9 h10 (xtr C) _) (cwV 0 (xhts C) (xgV (maxL := 0) (cc := ⟨#[]⟩) (ret := none) gw_130 gw_131 gw_132 gw_7 gc_X3_count) rfl rfl rfl (by decide +kernel) ⟨(Nat.le_of_ble_eq_true rfl), (Nat.le_of_ble_eq_true rfl)⟩) (xPV C w [1, 2] rfl (by decide) (ci := 7) (q0 := 1) rfl rfl) rfl rfl hl.1 rfl (lv_room (Nat.le_of_ble_eq_true rfl)) dX4_storeKept_6 ⟨(Nat.le_of_ble_eq_true rfl), (Nat.le_of_ble_eq_true rfl)⟩) (fun f4196 H locs w => ?_)
  have w : xW G A s [(h0, .inr (8, [.ref h3, .ref h4, .ref h5, .ref h1, .ref h6, .int 0, .ref h7, .ref h8])), (h1, .inr (7, [.ref h2, .ref h9])), (h2, .inr (6, [.ref h10, .int 0]))] H _ := w
  refine lv_istore_n (lv' := [(2, .int 0), (1, .int 0), (0, .ref h0)]) C.1 C.2.1 dX4_storeKept_9 rfl hl (by decide) rfl (fun ls hl => ?_)
  refine lv_iconst (v := 0) C.1 C.2.1 dX4_storeKept_10 (by decide) ?_
  refine lv_istore_n (lv' := [(3, .int 0), (2, .int 0), (1, .int 0), (0, .ref h0)]) C.1 C.2.1 dX4_storeKept_11 rfl hl (by decide) rfl (fun ls hl => ?_)
  refine lv_iload_n C.1 C.2.1 dX4_storeKept_12 rfl (lv_at hl 0 rfl) ?_
  refine lv_iload_n C.1 C.2.1 dX4_storeKept_13 rfl (lv_at hl 1 rfl) ?_
  refine lv_icmp_ge (tgt := 67) C.1 C.2.1 dX4_storeKept_14 (by decide) (fun _ => ?_) (fun c9 => absurd (by decide) c9)
  refine lv_iload_n C.1 C.2.1 dX4_storeKept_67 rfl (lv_at hl 2 rfl) ?_
  exact x_iret C w hr (fun _ => 0) rfl rfl dX4_storeKept_68 (Nat.le_of_ble_eq_true rfl) (Nat.le_of_ble_eq_true rfl)
set_option maxHeartbeats 4000000 in
set_option maxRecDepth 100000 in
theorem c598_X4_back (l : Launch) (G : va_G) (cy : Nat → ClassId) (sa : String → Nat → Nat) (sv : Nat → Nat) (h0 h1 h2 h3 h4 h5 h6 h7 h8 h9 h10 h11 h12 h13 h14 h15 h16 h17 : Nat) : xM l G cy sa sv yX4_back (Cond.code yX4_back cX4_back 3 (some .int) :: XG) { frames := 11, cells := 0, slots := 0, locals := 314 } [.ref h0] [(h0, .inr (8, [.ref h2, .ref h7, .ref h6, .ref h4, .ref h8, .int 0, .ref h1, .ref h9])), (h1, .inr (6, [.ref h10, .int 0])), (h2, .inr (7, [.ref h3, .ref h11])), (h3, .inr (6, [.ref h12, .int 0])), (h4, .inr (7, [.ref h5, .ref h13])), (h5, .inr (6, [.ref h14, .int 0])), (h6, .inr (5, [.ref h15, .ref h16, .ref h17, .int 0]))] (xQi G (fun f => [(h0, .inr (8, [.ref h2, .ref h7, .ref h6, .ref h4, .ref h8, .int 0, .ref h1, .ref h9])), (h1, .inr (6, [.ref h10, .int 0])), (h2, .inr (7, [.ref h3, .ref h11])), (h3, .inr (6, [.ref h12, .int 0])), (h4, .inr (7, [.ref h5, .ref h13])), (h5, .inr (6, [.ref h14, .int 0])), (h6, .inr (5, [.ref h15, .ref h16, .ref h17, .int 0]))]) 0) := by
  refine xof (by decide) (Nat.le_of_ble_eq_true rfl) (fun p e s m below meth c A C w hr hn ls hl => ?_)
  have hl : lv_has ls 3 [(0, .ref h0)] := hl
  refine lv_aload_n C.1 C.2.1 dX4_back_0 rfl (lv_at hl 0 rfl) ?_
  refine x_get (v := .ref h1) C w 0 8 6 (xin_X4 _) rfl rfl (by decide) (List.mem_cons_of_mem _ gw_51) rfl rfl dX4_back_1 ?_
  refine x_kv C w [1] [0, 2, 3, 4, 5, 6] rfl rfl (by decide) (by decide) (va_runV (As := []) (rest := []) (xfix C) (c109_X2_empty l G cy sa sv h1 h10 (xtr C) _) (cwV 0 (xhts C) (xgV (maxL := 0) (cc := ⟨#[]⟩) (ret := none) gw_312 gw_313 gw_314 gw_11 gc_X2_empty) rfl rfl rfl (by decide +kernel) ⟨(Nat.le_of_ble_eq_true rfl), (Nat.le_of_ble_eq_true rfl)⟩) (xPV C w [1] rfl (by decide) (ci := 6) (q0 := 1) rfl rfl) rfl rfl hl.1 rfl (lv_room (Nat.le_of_ble_eq_true rfl)) dX4_back_4 ⟨(Nat.le_of_ble_eq_true rfl), (Nat.le_of_ble_eq_true rfl)⟩) (fun f4190 H locs w => ?_)
  have w : xW G A s [(h0, .inr (8, [.ref h2, .ref h7, .ref h6, .ref h4, .ref h8, .int 0, .ref h1, .ref h9])), (h2, .inr (7, [.ref h3, .ref h11])), (h3, .inr (6, [.ref h12, .int 0])), (h4, .inr (7, [.ref h5, .ref h13])), (h5, .inr (6, [.ref h14, .int 0])), (h6, .inr (5, [.ref h15, .ref h16, .ref h17, .int 0])), (h1, .inr (6, [.ref h10, .int 0]))] H _ := w
  refine lv_aload_n C.1 C.2.1 dX4_back_7 rfl (lv_at hl 0 rfl) ?_
  refine x_get (v := .ref h2) C w 0 8 0 (xin_X4 _) rfl rfl (by decide) (List.mem_cons_of_mem _ gw_24) rfl rfl dX4_back_8 ?_
  refine x_ki C w [1, 2] [0, 3, 4, 5, 6] rfl rfl (by decide) (by decide) (va_runV (As := []) (rest := []) (xfix C) (c22_X3_count l G cy sa sv h2 h3 h11 h12 (xtr C) _) (cwV 0 (xhts C) (xgV (maxL := 0) (cc := ⟨#[]⟩) (ret := none) gw_130 gw_131 gw_132 gw_7 gc_X3_count) rfl rfl rfl (by decide +kernel) ⟨(Nat.le_of_ble_eq_true rfl), (Nat.le_of_ble_eq_true rfl)⟩) (xPV C w [1, 2] rfl (by decide) (ci := 7) (q0 := 1) rfl rfl) rfl rfl hl.1 rfl (lv_room (Nat.le_of_ble_eq_true rfl)) dX4_back_11 ⟨(Nat.le_of_ble_eq_true rfl), (Nat.le_of_ble_eq_true rfl)⟩) (fun f4192 H locs w => ?_)
  have w : xW G A s [(h0, .inr (8, [.ref h2, .ref h7, .ref h6, .ref h4, .ref h8, .int 0, .ref h1, .ref h9])), (h4, .inr (7, [.ref h5, .ref h13])), (h5, .inr (6, [.ref h14, .int 0])), (h6, .inr (5, [.ref h15, .ref h16, .ref h17, .int 0])), (h1, .inr (6, [.ref h10, .int 0])), (h2, .inr (7, [.ref h3, .ref h11])), (h3, .inr (6, [.ref h12, .int 0]))] H _ := w
  refine lv_istore_n (lv' := [(1, .int 0), (0, .ref h0)]) C.1 C.2.1 dX4_back_14 rfl hl (by decide) rfl (fun ls hl => ?_)
  refine lv_iconst (v := 0) C.1 C.2.1 dX4_back_15 (by decide) ?_
  refine lv_istore_n (lv' := [(2, .int 0), (1, .int 0), (0, .ref h0)]) C.1 C.2.1 dX4_back_16 rfl hl (by decide) rfl (fun ls hl => ?_)
  refine lv_iload_n C.1 C.2.1 dX4_back_17 rfl (lv_at hl 0 rfl) ?_
  refine lv_iload_n C.1 C.2.1 dX4_back_18 rfl (lv_at hl 1 rfl) ?_
  refine lv_icmp_ge (tgt := 61) C.1 C.2.1 dX4_back_19 (by decide) (fun _ => ?_) (fun c9 => absurd (by decide) c9)
  refine lv_aload_n C.1 C.2.1 dX4_back_61 rfl (lv_at hl 2 rfl) ?_
  refine x_ki C w [0, 4] [1, 2, 3, 5, 6] rfl rfl (by decide) (by decide) (va_runV (As := []) (rest := []) (xfix C) (c111_X4_dropChosen l G cy sa sv h0 h1 h2 h7 h6 h4 h8 h9 h10 (xtr C) _) (cwV 0 (xhts C) (xgV (maxL := 0) (cc := ⟨#[]⟩) (ret := none) gw_318 gw_319 gw_320 gw_2 gc_X4_dropChosen) rfl rfl rfl (by decide +kernel) ⟨(Nat.le_of_ble_eq_true rfl), (Nat.le_of_ble_eq_true rfl)⟩) (xPV C w [0, 4] rfl (by decide) (ci := 8) (q0 := 0) rfl rfl) rfl rfl hl.1 rfl (lv_room (Nat.le_of_ble_eq_true rfl)) dX4_back_62 ⟨(Nat.le_of_ble_eq_true rfl), (Nat.le_of_ble_eq_true rfl)⟩) (fun f4194 H locs w => ?_)
  have w : xW G A s [(h4, .inr (7, [.ref h5, .ref h13])), (h5, .inr (6, [.ref h14, .int 0])), (h6, .inr (5, [.ref h15, .ref h16, .ref h17, .int 0])), (h2, .inr (7, [.ref h3, .ref h11])), (h3, .inr (6, [.ref h12, .int 0])), (h0, .inr (8, [.ref h2, .ref h7, .ref h6, .ref h4, .ref h8, .int 0, .ref h1, .ref h9])), (h1, .inr (6, [.ref h10, .int 0]))] H _ := w
  refine lv_aload_n C.1 C.2.1 dX4_back_65 rfl (lv_at hl 2 rfl) ?_
  refine x_ki C w [5, 0, 1] [2, 3, 4, 6] rfl rfl (by decide) (by decide) (va_runV (As := []) (rest := [.int 0]) (xfix C) (c597_X4_storeKept l G cy sa sv h0 h4 h5 h2 h7 h6 h8 h1 h9 h13 h14 (xtr C) _) (cwV 0 (xhts C) (xgV (maxL := 0) (cc := ⟨#[]⟩) (ret := none) gw_994 gw_995 gw_996 gw_2 gc_X4_storeKept) rfl rfl rfl (by decide +kernel) ⟨(Nat.le_of_ble_eq_true rfl), (Nat.le_of_ble_eq_true rfl)⟩) (xPV C w [5, 0, 1] rfl (by decide) (ci := 8) (q0 := 5) rfl rfl) rfl rfl hl.1 rfl (lv_room (Nat.le_of_ble_eq_true rfl)) dX4_back_66 ⟨(Nat.le_of_ble_eq_true rfl), (Nat.le_of_ble_eq_true rfl)⟩) (fun f4197 H locs w => ?_)
  have w : xW G A s [(h6, .inr (5, [.ref h15, .ref h16, .ref h17, .int 0])), (h2, .inr (7, [.ref h3, .ref h11])), (h3, .inr (6, [.ref h12, .int 0])), (h1, .inr (6, [.ref h10, .int 0])), (h0, .inr (8, [.ref h2, .ref h7, .ref h6, .ref h4, .ref h8, .int 0, .ref h1, .ref h9])), (h4, .inr (7, [.ref h5, .ref h13])), (h5, .inr (6, [.ref h14, .int 0]))] H _ := w
  refine lv_iadd C.1 C.2.1 dX4_back_69 ?_
  refine x_is (y := 0) (by decide) ?_
  refine lv_istore_n (lv' := [(2, .int 0), (1, .int 0), (0, .ref h0)]) C.1 C.2.1 dX4_back_70 rfl hl (by decide) rfl (fun ls hl => ?_)
  refine lv_aload_n C.1 C.2.1 dX4_back_71 rfl (lv_at hl 2 rfl) ?_
  refine x_get (v := .ref h6) C w 4 8 2 (xin_X4 _) rfl rfl (by decide) (List.mem_cons_of_mem _ gw_41) rfl rfl dX4_back_72 ?_
  refine x_kv C w [0] [1, 2, 3, 4, 5, 6] rfl rfl (by decide) (by decide) (va_runV (As := []) (rest := []) (xfix C) (c112_X1_endStep l G cy sa sv h6 h15 h16 h17 (xtr C) _) (cwV 0 (xhts C) (xgV (maxL := 0) (cc := ⟨#[]⟩) (ret := none) gw_190 gw_191 gw_192 gw_30 gc_X1_endStep) rfl rfl rfl (by decide +kernel) ⟨(Nat.le_of_ble_eq_true rfl), (Nat.le_of_ble_eq_true rfl)⟩) (xPV C w [0] rfl (by decide) (ci := 5) (q0 := 0) rfl rfl) rfl rfl hl.1 rfl (lv_room (Nat.le_of_ble_eq_true rfl)) dX4_back_75 ⟨(Nat.le_of_ble_eq_true rfl), (Nat.le_of_ble_eq_true rfl)⟩) (fun f4198 H locs w => ?_)
  have w : xW G A s [(h2, .inr (7, [.ref h3, .ref h11])), (h3, .inr (6, [.ref h12, .int 0])), (h1, .inr (6, [.ref h10, .int 0])), (h0, .inr (8, [.ref h2, .ref h7, .ref h6, .ref h4, .ref h8, .int 0, .ref h1, .ref h9])), (h4, .inr (7, [.ref h5, .ref h13])), (h5, .inr (6, [.ref h14, .int 0])), (h6, .inr (5, [.ref h15, .ref h16, .ref h17, .int 0]))] H _ := w
  refine lv_iload_n C.1 C.2.1 dX4_back_78 rfl (lv_at hl 0 rfl) ?_
  have w := w.sub (ws' := [(h0, .inr (8, [.ref h2, .ref h7, .ref h6, .ref h4, .ref h8, .int 0, .ref h1, .ref h9])), (h1, .inr (6, [.ref h10, .int 0])), (h2, .inr (7, [.ref h3, .ref h11])), (h3, .inr (6, [.ref h12, .int 0])), (h4, .inr (7, [.ref h5, .ref h13])), (h5, .inr (6, [.ref h14, .int 0])), (h6, .inr (5, [.ref h15, .ref h16, .ref h17, .int 0]))]) [3, 2, 0, 1, 4, 5, 6] (by decide) rfl rfl
  exact x_iret C w hr (fun _ => 0) rfl rfl dX4_back_79 (Nat.le_of_ble_eq_true rfl) (Nat.le_of_ble_eq_true rfl)
set_option maxHeartbeats 4000000 in
set_option maxRecDepth 100000 in
theorem c599_X6_back (l : Launch) (G : va_G) (cy : Nat → ClassId) (sa : String → Nat → Nat) (sv : Nat → Nat) (h0 h1 h2 h3 h4 h5 h6 h7 : Nat) : xM l G cy sa sv yX6_back (Cond.code yX6_back cX6_back 5 (some .int) :: XG) { frames := 12, cells := 3, slots := 3, locals := 331 } [.ref h0] [(h0, .inr (10, [.ref h1, .ref h2, .ref h4, .ref h3, .ref h5, .ref h6, .ref h7, .int 0, .int 0])), (h1, .inr (3, [.int 0, .ref (sv 0), .int 0])), (h2, .inr (3, [.int 0, .ref (sv 0), .int 0])), (h3, .inr (3, [.int 0, .ref (sv 0), .int 0])), (h4, .inr (3, [.int 0, .ref (sv 0), .int 0]))] (xQi G (fun f => [(h0, .inr (10, [.ref h1, .ref h2, .ref h4, .ref (f 0), .ref h5, .ref h6, .ref h7, .int 0, .int 0])), (h1, .inr (3, [.int 0, .ref (sv 0), .int 0])), (h2, .inr (3, [.int 0, .ref (sv 0), .int 0])), (h3, .inr (3, [.int 0, .ref (sv 0), .int 0])), (h4, .inr (3, [.int 0, .ref (sv 0), .int 0])), ((f 0), .inr (3, [.int 0, .ref (sv 0), .int 0]))]) 0) := by
  refine xof (by decide) (Nat.le_of_ble_eq_true rfl) (fun p e s m below meth c A C w hr hn ls hl => ?_)
  have hl : lv_has ls 5 [(0, .ref h0)] := hl
  refine lv_aload_n C.1 C.2.1 dX6_back_0 rfl (lv_at hl 0 rfl) ?_
  refine lv_iconst (v := 0) C.1 C.2.1 dX6_back_1 (by decide) ?_
  refine x_put (ty := .int) (ty0 := tyX6) C w 0 10 8 (xin_X6 _) tyX6_ok nmX6 rfl rfl (by decide) (List.mem_cons_of_mem _ gw_112) rfl rfl (by decide +kernel) rfl rfl (Nat.le_of_ble_eq_true rfl) dX6_back_2 (fun H locs w => ?_)
  have w : xW G A s [(h0, .inr (10, [.ref h1, .ref h2, .ref h4, .ref h3, .ref h5, .ref h6, .ref h7, .int 0, .int 0])), (h1, .inr (3, [.int 0, .ref (sv 0), .int 0])), (h2, .inr (3, [.int 0, .ref (sv 0), .int 0])), (h3, .inr (3, [.int 0, .ref (sv 0), .int 0])), (h4, .inr (3, [.int 0, .ref (sv 0), .int 0]))] H _ := w
  refine lv_aload_n C.1 C.2.1 dX6_back_5 rfl (lv_at hl 0 rfl) ?_
  refine x_get (v := .ref h1) C w 0 10 0 (xin_X6 _) rfl rfl (by decide) (List.mem_cons_of_mem _ gw_78) rfl rfl dX6_back_6 ?_
  refine x_kr C w [1] [0, 2, 3, 4] rfl rfl (by decide) (by decide) (va_runS (As := [.ref h1]) (rest := []) (xfix C) (c115_X6_keysOf l G cy sa sv h1 (xtr C) _) (va_cwS 1 (xhts C) (xgS gw_330 gw_331 gw_58 gc_X6_keysOf) rfl rfl rfl (by decide +kernel) ⟨(Nat.le_of_ble_eq_true rfl), (Nat.le_of_ble_eq_true rfl)⟩) (xPS C w [1] rfl (by decide)) rfl rfl hl.1 rfl (lv_room (Nat.le_of_ble_eq_true rfl)) dX6_back_9 ⟨(Nat.le_of_ble_eq_true rfl), (Nat.le_of_ble_eq_true rfl)⟩) (fun f4211 H locs w => ?_)
  have w : xW G A s [(h0, .inr (10, [.ref h1, .ref h2, .ref h4, .ref h3, .ref h5, .ref h6, .ref h7, .int 0, .int 0])), (h2, .inr (3, [.int 0, .ref (sv 0), .int 0])), (h3, .inr (3, [.int 0, .ref (sv 0), .int 0])), (h4, .inr (3, [.int 0, .ref (sv 0), .int 0])), (h1, .inr (3, [.int 0, .ref (sv 0), .int 0])), ((f4211 0), .inl (cy 1, 0, .inl (fun _ => 0)))] H _ := w
  refine W.widen (k := 1) (n := 0) (Nat.le_of_ble_eq_true rfl) (Nat.le_of_ble_eq_true rfl) ?_
  refine lv_astore_n (lv' := [(1, .ref (f4211 0)), (0, .ref h0)]) C.1 C.2.1 dX6_back_12 rfl hl (by decide) rfl (fun ls hl => ?_)
  refine lv_aload_n C.1 C.2.1 dX6_back_13 rfl (lv_at hl 0 rfl) ?_
  refine x_alen (v := 0) C w 5 1 rfl rfl (by rfl) dX6_back_14 ?_
  refine lv_istore_n (lv' := [(2, .int 0), (1, .ref (f4211 0)), (0, .ref h0)]) C.1 C.2.1 dX6_back_15 rfl hl (by decide) rfl (fun ls hl => ?_)
  refine lv_iconst (v := 0) C.1 C.2.1 dX6_back_16 (by decide) ?_
  refine lv_istore_n (lv' := [(3, .int 0), (2, .int 0), (1, .ref (f4211 0)), (0, .ref h0)]) C.1 C.2.1 dX6_back_17 rfl hl (by decide) rfl (fun ls hl => ?_)
  refine lv_iload_n C.1 C.2.1 dX6_back_18 rfl (lv_at hl 0 rfl) ?_
  refine lv_iload_n C.1 C.2.1 dX6_back_19 rfl (lv_at hl 1 rfl) ?_
  refine lv_icmp_ge (tgt := 52) C.1 C.2.1 dX6_back_20 (by decide) (fun _ => ?_) (fun c9 => absurd (by decide) c9)
  refine lv_aload_n C.1 C.2.1 dX6_back_52 rfl (lv_at hl 3 rfl) ?_
  refine x_get (v := .ref h2) C w 0 10 1 (xin_X6 _) rfl rfl (by decide) (List.mem_cons_of_mem _ gw_79) rfl rfl dX6_back_53 ?_
  refine x_kr C w [1] [0, 2, 3, 4, 5] rfl rfl (by decide) (by decide) (va_runS (As := [.ref h2]) (rest := []) (xfix C) (c115_X6_keysOf l G cy sa sv h2 (xtr C) _) (va_cwS 1 (xhts C) (xgS gw_330 gw_331 gw_58 gc_X6_keysOf) rfl rfl rfl (by decide +kernel) ⟨(Nat.le_of_ble_eq_true rfl), (Nat.le_of_ble_eq_true rfl)⟩) (xPS C w [1] rfl (by decide)) rfl rfl hl.1 rfl (lv_room (Nat.le_of_ble_eq_true rfl)) dX6_back_56 ⟨(Nat.le_of_ble_eq_true rfl), (Nat.le_of_ble_eq_true rfl)⟩) (fun f4217 H locs w => ?_)
  have w : xW G A s [(h0, .inr (10, [.ref h1, .ref h2, .ref h4, .ref h3, .ref h5, .ref h6, .ref h7, .int 0, .int 0])), (h3, .inr (3, [.int 0, .ref (sv 0), .int 0])), (h4, .inr (3, [.int 0, .ref (sv 0), .int 0])), (h1, .inr (3, [.int 0, .ref (sv 0), .int 0])), ((f4211 0), .inl (cy 1, 0, .inl (fun _ => 0))), (h2, .inr (3, [.int 0, .ref (sv 0), .int 0])), ((f4217 0), .inl (cy 1, 0, .inl (fun _ => 0)))] H _ := w
  refine W.widen (k := 2) (n := 0) (Nat.le_of_ble_eq_true rfl) (Nat.le_of_ble_eq_true rfl) ?_
  refine lv_astore_n (lv' := [(1, .ref (f4217 0)), (3, .int 0), (2, .int 0), (0, .ref h0)]) C.1 C.2.1 dX6_back_59 rfl hl (by decide) rfl (fun ls hl => ?_)
  refine lv_aload_n C.1 C.2.1 dX6_back_60 rfl (lv_at hl 0 rfl) ?_
  refine x_alen (v := 0) C w 6 1 rfl rfl (by rfl) dX6_back_61 ?_
  refine lv_istore_n (lv' := [(2, .int 0), (1, .ref (f4217 0)), (3, .int 0), (0, .ref h0)]) C.1 C.2.1 dX6_back_62 rfl hl (by decide) rfl (fun ls hl => ?_)
  refine lv_iconst (v := 0) C.1 C.2.1 dX6_back_63 (by decide) ?_
  refine lv_istore_n (lv' := [(3, .int 0), (2, .int 0), (1, .ref (f4217 0)), (0, .ref h0)]) C.1 C.2.1 dX6_back_64 rfl hl (by decide) rfl (fun ls hl => ?_)
  refine lv_iload_n C.1 C.2.1 dX6_back_65 rfl (lv_at hl 0 rfl) ?_
  refine lv_iload_n C.1 C.2.1 dX6_back_66 rfl (lv_at hl 1 rfl) ?_
  refine lv_icmp_ge (tgt := 117) C.1 C.2.1 dX6_back_67 (by decide) (fun _ => ?_) (fun c9 => absurd (by decide) c9)
  refine lv_aload_n C.1 C.2.1 dX6_back_117 rfl (lv_at hl 3 rfl) ?_
  refine x_ki C w [0, 1, 2] [3, 4, 5, 6] rfl rfl (by decide) (by decide) (va_runV (As := []) (rest := []) (xfix C) (c101_X6_done l G cy sa sv h0 h3 h4 h1 h2 h5 h6 h7 (xtr C) _) (cwV 0 (xhts C) (xgV (maxL := 0) (cc := ⟨#[]⟩) (ret := none) gw_244 gw_245 gw_246 gw_58 gc_X6_done) rfl rfl rfl (by decide +kernel) ⟨(Nat.le_of_ble_eq_true rfl), (Nat.le_of_ble_eq_true rfl)⟩) (xPV C w [0, 1, 2] rfl (by decide) (ci := 10) (q0 := 0) rfl rfl) rfl rfl hl.1 rfl (lv_room (Nat.le_of_ble_eq_true rfl)) dX6_back_118 ⟨(Nat.le_of_ble_eq_true rfl), (Nat.le_of_ble_eq_true rfl)⟩) (fun f4227 H locs w => ?_)
  have w : xW G A s [(h1, .inr (3, [.int 0, .ref (sv 0), .int 0])), ((f4211 0), .inl (cy 1, 0, .inl (fun _ => 0))), (h2, .inr (3, [.int 0, .ref (sv 0), .int 0])), ((f4217 0), .inl (cy 1, 0, .inl (fun _ => 0))), (h0, .inr (10, [.ref h1, .ref h2, .ref h4, .ref (f4227 0), .ref h5, .ref h6, .ref h7, .int 0, .int 0])), (h3, .inr (3, [.int 0, .ref (sv 0), .int 0])), (h4, .inr (3, [.int 0, .ref (sv 0), .int 0])), ((f4227 0), .inr (3, [.int 0, .ref (sv 0), .int 0]))] H _ := w
  refine W.widen (k := 3) (n := 3) (Nat.le_of_ble_eq_true rfl) (Nat.le_of_ble_eq_true rfl) ?_
  have w := w.sub (ws' := [(h0, .inr (10, [.ref h1, .ref h2, .ref h4, .ref (f4227 0), .ref h5, .ref h6, .ref h7, .int 0, .int 0])), (h1, .inr (3, [.int 0, .ref (sv 0), .int 0])), (h2, .inr (3, [.int 0, .ref (sv 0), .int 0])), (h3, .inr (3, [.int 0, .ref (sv 0), .int 0])), (h4, .inr (3, [.int 0, .ref (sv 0), .int 0])), ((f4227 0), .inr (3, [.int 0, .ref (sv 0), .int 0]))]) [4, 0, 2, 5, 6, 7] (by decide) rfl rfl
  exact x_iret C w hr (fun k => match k with | 0 => (f4227 0) | _ => 0) rfl rfl dX6_back_121 (Nat.le_of_ble_eq_true rfl) (Nat.le_of_ble_eq_true rfl)
set_option maxHeartbeats 4000000 in
set_option maxRecDepth 100000 in
theorem c600_X4_house (l : Launch) (G : va_G) (cy : Nat → ClassId) (sa : String → Nat → Nat) (sv : Nat → Nat) (h0 h1 h2 h3 h4 h5 h6 h7 h8 h9 h10 : Nat) : xM l G cy sa sv yX4_house (Cond.code yX4_house cX4_house 2 (some .int) :: XG) { frames := 10, cells := 0, slots := 0, locals := 290 } [.ref h0, .int 0] [(h0, .inr (8, [.ref h1, .ref h3, .ref h4, .ref h5, .ref h6, .int 0, .ref h7, .ref h8])), (h1, .inr (7, [.ref h2, .ref h9])), (h2, .inr (6, [.ref h10, .int 0]))] (xQi G (fun f => [(h0, .inr (8, [.ref h1, .ref h3, .ref h4, .ref h5, .ref h6, .int 0, .ref h7, .ref h8])), (h1, .inr (7, [.ref h2, .ref h9])), (h2, .inr (6, [.ref h10, .int 0]))]) 0) := by
  refine xof (by decide) (Nat.le_of_ble_eq_true rfl) (fun p e s m below meth c A C w hr hn ls hl => ?_)
  have hl : lv_has ls 2 [(0, .ref h0), (1, .int 0)] := hl
  refine lv_iload_n C.1 C.2.1 dX4_house_0 rfl (lv_at hl 1 rfl) ?_
  refine lv_tableIn (off := 35) (tgt := 36) C.1 C.2.1 dX4_house_1 (by decide) (by decide) (by decide) (by decide) ?_
  refine lv_aload_n C.1 C.2.1 dX4_house_36 rfl (lv_at hl 0 rfl) ?_
  refine x_get (v := .ref h1) C w 0 8 0 (xin_X4 _) rfl rfl (by decide) (List.mem_cons_of_mem _ gw_24) rfl rfl dX4_house_37 ?_
  refine x_ki C w [1, 2] [0] rfl rfl (by decide) (by decide) (va_runV (As := []) (rest := []) (xfix C) (c22_X3_count l G cy sa sv h1 h2 h9 h10 (xtr C) _) (cwV 0 (xhts C) (xgV (maxL := 0) (cc := ⟨#[]⟩) (ret := none) gw_130 gw_131 gw_132 gw_7 gc_X3_count) rfl rfl rfl (by decide +kernel) ⟨(Nat.le_of_ble_eq_true rfl), (Nat.le_of_ble_eq_true rfl)⟩) (xPV C w [1, 2] rfl (by decide) (ci := 7) (q0 := 1) rfl rfl) rfl rfl hl.1 rfl (lv_room (Nat.le_of_ble_eq_true rfl)) dX4_house_40 ⟨(Nat.le_of_ble_eq_true rfl), (Nat.le_of_ble_eq_true rfl)⟩) (fun f4232 H locs w => ?_)
  have w : xW G A s [(h0, .inr (8, [.ref h1, .ref h3, .ref h4, .ref h5, .ref h6, .int 0, .ref h7, .ref h8])), (h1, .inr (7, [.ref h2, .ref h9])), (h2, .inr (6, [.ref h10, .int 0]))] H _ := w
  exact x_iret C w hr (fun _ => 0) rfl rfl dX4_house_43 (Nat.le_of_ble_eq_true rfl) (Nat.le_of_ble_eq_true rfl)
set_option maxHeartbeats 4000000 in
set_option maxRecDepth 100000 in
theorem c601_L_house (l : Launch) (G : va_G) (cy : Nat → ClassId) (sa : String → Nat → Nat) (sv : Nat → Nat) (h0 h1 h2 h3 h4 h5 h6 h7 h8 h9 h10 h11 : Nat) : xM l G cy sa sv yL_house (Cond.codeWith yL_house cL_house 4 (some .int) [(0, 10, 13, 19)] :: XG) { frames := 11, cells := 0, slots := 0, locals := 311 } [.ref h0, .int 0, .ref h1] [(h0, .inr (8, [.ref h2, .ref h4, .ref h5, .ref h6, .ref h7, .int 0, .ref h8, .ref h9])), (h2, .inr (7, [.ref h3, .ref h10])), (h3, .inr (6, [.ref h11, .int 0])), (h1, .inr (9, [.long 0, .null]))] (xQi G (fun f => [(h0, .inr (8, [.ref h2, .ref h4, .ref h5, .ref h6, .ref h7, .int 0, .ref h8, .ref h9])), (h2, .inr (7, [.ref h3, .ref h10])), (h3, .inr (6, [.ref h11, .int 0])), (h1, .inr (9, [.long 0, .null]))]) 0) := by
  refine xofH (by decide) (Nat.le_of_ble_eq_true rfl) (fun p e s m below meth c A C w hr hn hT ls hl => ?_)
  have hl : lv_has ls 4 [(0, .ref h0), (1, .int 0), (2, .ref h1)] := hl
  refine lv_aload_n C.1 C.2.1 dL_house_0 rfl (lv_at hl 2 rfl) ?_
  refine lv_aload_n C.1 C.2.1 dL_house_1 rfl (lv_at hl 0 rfl) ?_
  refine lv_iload_n C.1 C.2.1 dL_house_2 rfl (lv_at hl 1 rfl) ?_
  refine x_ki C w [0, 1, 2] [3] rfl rfl (by decide) (by decide) (va_runV (As := [.int 0]) (rest := [.ref h1]) (xfix C) (c600_X4_house l G cy sa sv h0 h2 h3 h4 h5 h6 h7 h8 h9 h10 h11 (xtr C) _) (cwV 1 (xhts C) (xgV (maxL := 0) (cc := ⟨#[]⟩) (ret := none) gw_1006 gw_1007 gw_1008 gw_2 gc_X4_house) rfl rfl rfl (by decide +kernel) ⟨(Nat.le_of_ble_eq_true rfl), (Nat.le_of_ble_eq_true rfl)⟩) (xPV C w [0, 1, 2] rfl (by decide) (ci := 8) (q0 := 0) rfl rfl) rfl rfl hl.1 rfl (lv_room (Nat.le_of_ble_eq_true rfl)) dL_house_3 ⟨(Nat.le_of_ble_eq_true rfl), (Nat.le_of_ble_eq_true rfl)⟩) (fun f4233 H locs w => ?_)
  have w : xW G A s [(h1, .inr (9, [.long 0, .null])), (h0, .inr (8, [.ref h2, .ref h4, .ref h5, .ref h6, .ref h7, .int 0, .ref h8, .ref h9])), (h2, .inr (7, [.ref h3, .ref h10])), (h3, .inr (6, [.ref h11, .int 0]))] H _ := w
  refine lv_i2l (v := 0) C.1 C.2.1 dL_house_6 (by decide) ?_
  refine x_putN (ty := .long) (ty0 := tyX5) C w 0 9 0 (xin_X5 _) tyX5_ok nmX5 rfl rfl (by decide) (xs_f_n (xS C)) rfl rfl (by decide +kernel) rfl rfl (Nat.le_of_ble_eq_true rfl) dL_house_7 (fun H locs w => ?_)
  have w : xW G A s [(h1, .inr (9, [.long 0, .null])), (h0, .inr (8, [.ref h2, .ref h4, .ref h5, .ref h6, .ref h7, .int 0, .ref h8, .ref h9])), (h2, .inr (7, [.ref h3, .ref h10])), (h3, .inr (6, [.ref h11, .int 0]))] H _ := w
  refine lv_goto (tgt := 16) C.1 C.2.1 dL_house_10 (by decide) ?_
  refine lv_iconst (v := 0) C.1 C.2.1 dL_house_16 (by decide) ?_
  have w := w.sub (ws' := [(h0, .inr (8, [.ref h2, .ref h4, .ref h5, .ref h6, .ref h7, .int 0, .ref h8, .ref h9])), (h2, .inr (7, [.ref h3, .ref h10])), (h3, .inr (6, [.ref h11, .int 0])), (h1, .inr (9, [.long 0, .null]))]) [1, 2, 3, 0] (by decide) rfl rfl
  exact x_iret C w hr (fun _ => 0) rfl rfl dL_house_17 (Nat.le_of_ble_eq_true rfl) (Nat.le_of_ble_eq_true rfl)
set_option maxHeartbeats 4000000 in
set_option maxRecDepth 100000 in
theorem c602_X6_houseNow (l : Launch) (G : va_G) (cy : Nat → ClassId) (sa : String → Nat → Nat) (sv : Nat → Nat) (h0 h1 h2 h3 h4 h5 h6 h7 : Nat) : xM l G cy sa sv yX6_houseNow (Cond.code yX6_houseNow cX6_houseNow 7 (some .int) :: XG) { frames := 9, cells := 1, slots := 5, locals := 270 } [.ref h0, .int 0] [(h0, .inr (10, [.ref h2, .ref h4, .ref h3, .ref h5, .ref h1, .ref h6, .ref h7, .int 0, .int 0])), (h1, .inl (cy 2, 3, .inl (fun _ => 0))), (h2, .inr (3, [.int 0, .ref (sv 0), .int 0])), (h3, .inr (3, [.int 0, .ref (sv 0), .int 0])), (h4, .inr (3, [.int 0, .ref (sv 0), .int 0]))] (xQi G (fun f => [(h0, .inr (10, [.ref h2, .ref h4, .ref h3, .ref h5, .ref h1, .ref h6, .ref h7, .int 0, .int 0])), (h1, .inl (cy 2, 3, .inl (fun _ => 0))), (h2, .inr (3, [.int 0, .ref (sv 0), .int 0])), (h3, .inr (3, [.int 0, .ref (sv 0), .int 0])), (h4, .inr (3, [.int 0, .ref (sv 0), .int 0]))]) 0) := by
  refine xof (by decide) (Nat.le_of_ble_eq_true rfl) (fun p e s m below meth c A C w hr hn ls hl => ?_)
  have hl : lv_has ls 7 [(0, .ref h0), (1, .int 0)] := hl
  refine lv_iconst (v := 0) C.1 C.2.1 dX6_houseNow_0 (by decide) ?_
  refine lv_istore_n (lv' := [(2, .int 0), (0, .ref h0), (1, .int 0)]) C.1 C.2.1 dX6_houseNow_1 rfl hl (by decide) rfl (fun ls hl => ?_)
  refine lv_aload_n C.1 C.2.1 dX6_houseNow_2 rfl (lv_at hl 1 rfl) ?_
  refine x_get (v := .ref h1) C w 0 10 4 (xin_X6 _) rfl rfl (by decide) (List.mem_cons_of_mem _ gw_83) rfl rfl dX6_houseNow_3 ?_
  refine lv_astore_n (lv' := [(3, .ref h1), (2, .int 0), (0, .ref h0), (1, .int 0)]) C.1 C.2.1 dX6_houseNow_6 rfl hl (by decide) rfl (fun ls hl => ?_)
  refine lv_aload_n C.1 C.2.1 dX6_houseNow_7 rfl (lv_at hl 0 rfl) ?_
  refine x_alen (v := 3) C w 1 2 rfl rfl (by rfl) dX6_houseNow_8 ?_
  refine lv_istore (lv' := [(4, .int 3), (3, .ref h1), (2, .int 0), (0, .ref h0), (1, .int 0)]) C.1 C.2.1 dX6_houseNow_9 hl (by decide) rfl (fun ls hl => ?_)
  refine lv_iconst (v := 0) C.1 C.2.1 dX6_houseNow_11 (by decide) ?_
  refine lv_istore (lv' := [(5, .int 0), (4, .int 3), (3, .ref h1), (2, .int 0), (0, .ref h0), (1, .int 0)]) C.1 C.2.1 dX6_houseNow_12 hl (by decide) rfl (fun ls hl => ?_)
  refine lv_iload C.1 C.2.1 dX6_houseNow_14 (lv_at hl 0 rfl) ?_
  refine lv_iload C.1 C.2.1 dX6_houseNow_16 (lv_at hl 1 rfl) ?_
  refine lv_icmp_ge (tgt := 41) C.1 C.2.1 dX6_houseNow_18 (by decide) (fun c9 => absurd c9 (by decide)) (fun _ => ?_)
  refine lv_aload_n C.1 C.2.1 dX6_houseNow_21 rfl (lv_at hl 2 rfl) ?_
  refine lv_iload C.1 C.2.1 dX6_houseNow_22 (lv_at hl 0 rfl) ?_
  refine x_zald (v := 0) C w 1 2 rfl rfl (xvin (by decide)) (by rfl) dX6_houseNow_24 ?_
  refine lv_istore (lv' := [(6, .int 0), (5, .int 0), (4, .int 3), (3, .ref h1), (2, .int 0), (0, .ref h0), (1, .int 0)]) C.1 C.2.1 dX6_houseNow_25 hl (by decide) rfl (fun ls hl => ?_)
  refine lv_iload_n C.1 C.2.1 dX6_houseNow_27 rfl (lv_at hl 4 rfl) ?_
  refine lv_iload C.1 C.2.1 dX6_houseNow_28 (lv_at hl 0 rfl) ?_
  refine x_ki C w [] [0, 1, 2, 3, 4] rfl rfl (by decide) (by decide) (va_runS (As := [.int 0]) (rest := [.int 0]) (xfix C) (c521_X6_one l G cy sa sv (xtr C) _) (va_cwS 1 (xhts C) (xgS gw_912 gw_913 gw_58 gc_X6_one) rfl rfl rfl (by decide +kernel) ⟨(Nat.le_of_ble_eq_true rfl), (Nat.le_of_ble_eq_true rfl)⟩) (xPS C w [] rfl (by decide)) rfl rfl hl.1 rfl (lv_room (Nat.le_of_ble_eq_true rfl)) dX6_houseNow_30 ⟨(Nat.le_of_ble_eq_true rfl), (Nat.le_of_ble_eq_true rfl)⟩) (fun f4240 H locs w => ?_)
  have w : xW G A s [(h0, .inr (10, [.ref h2, .ref h4, .ref h3, .ref h5, .ref h1, .ref h6, .ref h7, .int 0, .int 0])), (h1, .inl (cy 2, 3, .inl (fun _ => 0))), (h2, .inr (3, [.int 0, .ref (sv 0), .int 0])), (h3, .inr (3, [.int 0, .ref (sv 0), .int 0])), (h4, .inr (3, [.int 0, .ref (sv 0), .int 0]))] H _ := w
  refine lv_iadd C.1 C.2.1 dX6_houseNow_33 ?_
  refine x_is (y := 0) (by decide) ?_
  refine lv_istore_n (lv' := [(2, .int 0), (6, .int 0), (5, .int 0), (4, .int 3), (3, .ref h1), (0, .ref h0), (1, .int 0)]) C.1 C.2.1 dX6_houseNow_34 rfl hl (by decide) rfl (fun ls hl => ?_)
  refine lv_iinc (v := 1) (lv' := [(5, .int 1), (2, .int 0), (6, .int 0), (4, .int 3), (3, .ref h1), (0, .ref h0), (1, .int 0)]) C.1 C.2.1 dX6_houseNow_35 hl (k := 2) rfl (by decide) (by decide) rfl (fun ls hl => ?_)
  refine lv_goto (tgt := 14) C.1 C.2.1 dX6_houseNow_38 (by decide) ?_
  refine lv_iload C.1 C.2.1 dX6_houseNow_14 (lv_at hl 0 rfl) ?_
  refine lv_iload C.1 C.2.1 dX6_houseNow_16 (lv_at hl 3 rfl) ?_
  refine lv_icmp_ge (tgt := 41) C.1 C.2.1 dX6_houseNow_18 (by decide) (fun c9 => absurd c9 (by decide)) (fun _ => ?_)
  refine lv_aload_n C.1 C.2.1 dX6_houseNow_21 rfl (lv_at hl 4 rfl) ?_
  refine lv_iload C.1 C.2.1 dX6_houseNow_22 (lv_at hl 0 rfl) ?_
  refine x_zald (v := 0) C w 1 2 rfl rfl (xvin (by decide)) (by rfl) dX6_houseNow_24 ?_
  refine lv_istore (lv' := [(6, .int 0), (5, .int 1), (2, .int 0), (4, .int 3), (3, .ref h1), (0, .ref h0), (1, .int 0)]) C.1 C.2.1 dX6_houseNow_25 hl (by decide) rfl (fun ls hl => ?_)
  refine lv_iload_n C.1 C.2.1 dX6_houseNow_27 rfl (lv_at hl 2 rfl) ?_
  refine lv_iload C.1 C.2.1 dX6_houseNow_28 (lv_at hl 0 rfl) ?_
  refine x_ki C w [] [0, 1, 2, 3, 4] rfl rfl (by decide) (by decide) (va_runS (As := [.int 0]) (rest := [.int 0]) (xfix C) (c521_X6_one l G cy sa sv (xtr C) _) (va_cwS 1 (xhts C) (xgS gw_912 gw_913 gw_58 gc_X6_one) rfl rfl rfl (by decide +kernel) ⟨(Nat.le_of_ble_eq_true rfl), (Nat.le_of_ble_eq_true rfl)⟩) (xPS C w [] rfl (by decide)) rfl rfl hl.1 rfl (lv_room (Nat.le_of_ble_eq_true rfl)) dX6_houseNow_30 ⟨(Nat.le_of_ble_eq_true rfl), (Nat.le_of_ble_eq_true rfl)⟩) (fun f4241 H locs w => ?_)
  have w : xW G A s [(h0, .inr (10, [.ref h2, .ref h4, .ref h3, .ref h5, .ref h1, .ref h6, .ref h7, .int 0, .int 0])), (h1, .inl (cy 2, 3, .inl (fun _ => 0))), (h2, .inr (3, [.int 0, .ref (sv 0), .int 0])), (h3, .inr (3, [.int 0, .ref (sv 0), .int 0])), (h4, .inr (3, [.int 0, .ref (sv 0), .int 0]))] H _ := w
  refine lv_iadd C.1 C.2.1 dX6_houseNow_33 ?_
  refine x_is (y := 0) (by decide) ?_
  refine lv_istore_n (lv' := [(2, .int 0), (6, .int 0), (5, .int 1), (4, .int 3), (3, .ref h1), (0, .ref h0), (1, .int 0)]) C.1 C.2.1 dX6_houseNow_34 rfl hl (by decide) rfl (fun ls hl => ?_)
  refine lv_iinc (v := 2) (lv' := [(5, .int 2), (2, .int 0), (6, .int 0), (4, .int 3), (3, .ref h1), (0, .ref h0), (1, .int 0)]) C.1 C.2.1 dX6_houseNow_35 hl (k := 2) rfl (by decide) (by decide) rfl (fun ls hl => ?_)
  refine lv_goto (tgt := 14) C.1 C.2.1 dX6_houseNow_38 (by decide) ?_
  refine lv_iload C.1 C.2.1 dX6_houseNow_14 (lv_at hl 0 rfl) ?_
  refine lv_iload C.1 C.2.1 dX6_houseNow_16 (lv_at hl 3 rfl) ?_
  refine lv_icmp_ge (tgt := 41) C.1 C.2.1 dX6_houseNow_18 (by decide) (fun c9 => absurd c9 (by decide)) (fun _ => ?_)
  refine lv_aload_n C.1 C.2.1 dX6_houseNow_21 rfl (lv_at hl 4 rfl) ?_
  refine lv_iload C.1 C.2.1 dX6_houseNow_22 (lv_at hl 0 rfl) ?_
  refine x_zald (v := 0) C w 1 2 rfl rfl (xvin (by decide)) (by rfl) dX6_houseNow_24 ?_
  refine lv_istore (lv' := [(6, .int 0), (5, .int 2), (2, .int 0), (4, .int 3), (3, .ref h1), (0, .ref h0), (1, .int 0)]) C.1 C.2.1 dX6_houseNow_25 hl (by decide) rfl (fun ls hl => ?_)
  refine lv_iload_n C.1 C.2.1 dX6_houseNow_27 rfl (lv_at hl 2 rfl) ?_
  refine lv_iload C.1 C.2.1 dX6_houseNow_28 (lv_at hl 0 rfl) ?_
  refine x_ki C w [] [0, 1, 2, 3, 4] rfl rfl (by decide) (by decide) (va_runS (As := [.int 0]) (rest := [.int 0]) (xfix C) (c521_X6_one l G cy sa sv (xtr C) _) (va_cwS 1 (xhts C) (xgS gw_912 gw_913 gw_58 gc_X6_one) rfl rfl rfl (by decide +kernel) ⟨(Nat.le_of_ble_eq_true rfl), (Nat.le_of_ble_eq_true rfl)⟩) (xPS C w [] rfl (by decide)) rfl rfl hl.1 rfl (lv_room (Nat.le_of_ble_eq_true rfl)) dX6_houseNow_30 ⟨(Nat.le_of_ble_eq_true rfl), (Nat.le_of_ble_eq_true rfl)⟩) (fun f4242 H locs w => ?_)
  have w : xW G A s [(h0, .inr (10, [.ref h2, .ref h4, .ref h3, .ref h5, .ref h1, .ref h6, .ref h7, .int 0, .int 0])), (h1, .inl (cy 2, 3, .inl (fun _ => 0))), (h2, .inr (3, [.int 0, .ref (sv 0), .int 0])), (h3, .inr (3, [.int 0, .ref (sv 0), .int 0])), (h4, .inr (3, [.int 0, .ref (sv 0), .int 0]))] H _ := w
  refine lv_iadd C.1 C.2.1 dX6_houseNow_33 ?_
  refine x_is (y := 0) (by decide) ?_
  refine lv_istore_n (lv' := [(2, .int 0), (6, .int 0), (5, .int 2), (4, .int 3), (3, .ref h1), (0, .ref h0), (1, .int 0)]) C.1 C.2.1 dX6_houseNow_34 rfl hl (by decide) rfl (fun ls hl => ?_)
  refine lv_iinc (v := 3) (lv' := [(5, .int 3), (2, .int 0), (6, .int 0), (4, .int 3), (3, .ref h1), (0, .ref h0), (1, .int 0)]) C.1 C.2.1 dX6_houseNow_35 hl (k := 2) rfl (by decide) (by decide) rfl (fun ls hl => ?_)
  refine lv_goto (tgt := 14) C.1 C.2.1 dX6_houseNow_38 (by decide) ?_
  refine lv_iload C.1 C.2.1 dX6_houseNow_14 (lv_at hl 0 rfl) ?_
  refine lv_iload C.1 C.2.1 dX6_houseNow_16 (lv_at hl 3 rfl) ?_
  refine lv_icmp_ge (tgt := 41) C.1 C.2.1 dX6_houseNow_18 (by decide) (fun _ => ?_) (fun c9 => absurd (by decide) c9)
  refine lv_iconst (v := 5) C.1 C.2.1 dX6_houseNow_41 (by decide) ?_
  refine x_newa (atype := .int) (ty := .int) (N := 5) C w 1 (fun _ _ h => h) rfl (List.mem_cons_of_mem _ gw_13) rfl rfl (by decide) (by decide) (by decide) (Nat.le_of_ble_eq_true rfl) (Nat.le_of_ble_eq_true rfl) dX6_houseNow_42 (fun q4243 H w => ?_)
  have w : xW G A s [(h0, .inr (10, [.ref h2, .ref h4, .ref h3, .ref h5, .ref h1, .ref h6, .ref h7, .int 0, .int 0])), (h1, .inl (cy 2, 3, .inl (fun _ => 0))), (h2, .inr (3, [.int 0, .ref (sv 0), .int 0])), (h3, .inr (3, [.int 0, .ref (sv 0), .int 0])), (h4, .inr (3, [.int 0, .ref (sv 0), .int 0])), (q4243, .inl (cy 1, 5, .inl (fun _ => 0)))] H _ := w
  refine W.widen (k := 1) (n := 5) (Nat.le_of_ble_eq_true rfl) (Nat.le_of_ble_eq_true rfl) ?_
  refine lv_dup C.1 C.2.1 dX6_houseNow_44 rfl ?_
  refine lv_iconst (v := 0) C.1 C.2.1 dX6_houseNow_45 (by decide) ?_
  refine lv_aload_n C.1 C.2.1 dX6_houseNow_46 rfl (lv_at hl 5 rfl) ?_
  refine x_get (v := .ref h2) C w 0 10 0 (xin_X6 _) rfl rfl (by decide) (List.mem_cons_of_mem _ gw_78) rfl rfl dX6_houseNow_47 ?_
  refine x_ki C w [2] [0, 1, 3, 4, 5] rfl rfl (by decide) (by decide) (va_runV (As := []) (rest := [.int 0, .ref q4243, .ref q4243]) (xfix C) (c47_Jx4a65c_size_8abf5 l G cy sa sv h2 (xtr C) _) (cwV 0 (xhts C) (xgV (maxL := 0) (cc := ⟨#[]⟩) (ret := none) gw_195 gw_196 gw_197 gw_62 gc_Jx4a65c_size_8abf5) rfl rfl rfl (by decide +kernel) ⟨(Nat.le_of_ble_eq_true rfl), (Nat.le_of_ble_eq_true rfl)⟩) (xPV C w [2] rfl (by decide) (ci := 3) (q0 := 2) rfl rfl) rfl rfl hl.1 rfl (lv_room (Nat.le_of_ble_eq_true rfl)) dX6_houseNow_50 ⟨(Nat.le_of_ble_eq_true rfl), (Nat.le_of_ble_eq_true rfl)⟩) (fun f4244 H locs w => ?_)
  have w : xW G A s [(h0, .inr (10, [.ref h2, .ref h4, .ref h3, .ref h5, .ref h1, .ref h6, .ref h7, .int 0, .int 0])), (h1, .inl (cy 2, 3, .inl (fun _ => 0))), (h3, .inr (3, [.int 0, .ref (sv 0), .int 0])), (h4, .inr (3, [.int 0, .ref (sv 0), .int 0])), (q4243, .inl (cy 1, 5, .inl (fun _ => 0))), (h2, .inr (3, [.int 0, .ref (sv 0), .int 0]))] H _ := w
  refine x_iast (k := 0) C w 4 1 rfl rfl (xvin (by decide)) (by decide) dX6_houseNow_53 (fun H locs w => ?_)
  have w : xW G A s [(h0, .inr (10, [.ref h2, .ref h4, .ref h3, .ref h5, .ref h1, .ref h6, .ref h7, .int 0, .int 0])), (h1, .inl (cy 2, 3, .inl (fun _ => 0))), (h3, .inr (3, [.int 0, .ref (sv 0), .int 0])), (h4, .inr (3, [.int 0, .ref (sv 0), .int 0])), (q4243, .inl (cy 1, 5, .inl (upd (fun _ => 0) 0 0))), (h2, .inr (3, [.int 0, .ref (sv 0), .int 0]))] H _ := w
  refine lv_dup C.1 C.2.1 dX6_houseNow_54 rfl ?_
  refine lv_iconst (v := 1) C.1 C.2.1 dX6_houseNow_55 (by decide) ?_
  refine lv_aload_n C.1 C.2.1 dX6_houseNow_56 rfl (lv_at hl 5 rfl) ?_
  refine x_get (v := .ref h3) C w 0 10 2 (xin_X6 _) rfl rfl (by decide) (List.mem_cons_of_mem _ gw_80) rfl rfl dX6_houseNow_57 ?_
  refine x_ki C w [2] [0, 1, 3, 4, 5] rfl rfl (by decide) (by decide) (va_runV (As := []) (rest := [.int 1, .ref q4243, .ref q4243]) (xfix C) (c47_Jx4a65c_size_8abf5 l G cy sa sv h3 (xtr C) _) (cwV 0 (xhts C) (xgV (maxL := 0) (cc := ⟨#[]⟩) (ret := none) gw_195 gw_196 gw_197 gw_62 gc_Jx4a65c_size_8abf5) rfl rfl rfl (by decide +kernel) ⟨(Nat.le_of_ble_eq_true rfl), (Nat.le_of_ble_eq_true rfl)⟩) (xPV C w [2] rfl (by decide) (ci := 3) (q0 := 2) rfl rfl) rfl rfl hl.1 rfl (lv_room (Nat.le_of_ble_eq_true rfl)) dX6_houseNow_60 ⟨(Nat.le_of_ble_eq_true rfl), (Nat.le_of_ble_eq_true rfl)⟩) (fun f4245 H locs w => ?_)
  have w : xW G A s [(h0, .inr (10, [.ref h2, .ref h4, .ref h3, .ref h5, .ref h1, .ref h6, .ref h7, .int 0, .int 0])), (h1, .inl (cy 2, 3, .inl (fun _ => 0))), (h4, .inr (3, [.int 0, .ref (sv 0), .int 0])), (q4243, .inl (cy 1, 5, .inl (upd (fun _ => 0) 0 0))), (h2, .inr (3, [.int 0, .ref (sv 0), .int 0])), (h3, .inr (3, [.int 0, .ref (sv 0), .int 0]))] H _ := w
  refine x_iast (k := 1) C w 3 1 rfl rfl (xvin (by decide)) (by decide) dX6_houseNow_63 (fun H locs w => ?_)
  have w : xW G A s [(h0, .inr (10, [.ref h2, .ref h4, .ref h3, .ref h5, .ref h1, .ref h6, .ref h7, .int 0, .int 0])), (h1, .inl (cy 2, 3, .inl (fun _ => 0))), (h4, .inr (3, [.int 0, .ref (sv 0), .int 0])), (q4243, .inl (cy 1, 5, .inl (upd (upd (fun _ => 0) 0 0) 1 0))), (h2, .inr (3, [.int 0, .ref (sv 0), .int 0])), (h3, .inr (3, [.int 0, .ref (sv 0), .int 0]))] H _ := w
  refine lv_dup C.1 C.2.1 dX6_houseNow_64 rfl ?_
  refine lv_iconst (v := 2) C.1 C.2.1 dX6_houseNow_65 (by decide) ?_
  refine lv_aload_n C.1 C.2.1 dX6_houseNow_66 rfl (lv_at hl 5 rfl) ?_
  refine x_get (v := .ref h4) C w 0 10 1 (xin_X6 _) rfl rfl (by decide) (List.mem_cons_of_mem _ gw_79) rfl rfl dX6_houseNow_67 ?_
  refine x_ki C w [2] [0, 1, 3, 4, 5] rfl rfl (by decide) (by decide) (va_runV (As := []) (rest := [.int 2, .ref q4243, .ref q4243]) (xfix C) (c47_Jx4a65c_size_8abf5 l G cy sa sv h4 (xtr C) _) (cwV 0 (xhts C) (xgV (maxL := 0) (cc := ⟨#[]⟩) (ret := none) gw_195 gw_196 gw_197 gw_62 gc_Jx4a65c_size_8abf5) rfl rfl rfl (by decide +kernel) ⟨(Nat.le_of_ble_eq_true rfl), (Nat.le_of_ble_eq_true rfl)⟩) (xPV C w [2] rfl (by decide) (ci := 3) (q0 := 2) rfl rfl) rfl rfl hl.1 rfl (lv_room (Nat.le_of_ble_eq_true rfl)) dX6_houseNow_70 ⟨(Nat.le_of_ble_eq_true rfl), (Nat.le_of_ble_eq_true rfl)⟩) (fun f4246 H locs w => ?_)
  have w : xW G A s [(h0, .inr (10, [.ref h2, .ref h4, .ref h3, .ref h5, .ref h1, .ref h6, .ref h7, .int 0, .int 0])), (h1, .inl (cy 2, 3, .inl (fun _ => 0))), (q4243, .inl (cy 1, 5, .inl (upd (upd (fun _ => 0) 0 0) 1 0))), (h2, .inr (3, [.int 0, .ref (sv 0), .int 0])), (h3, .inr (3, [.int 0, .ref (sv 0), .int 0])), (h4, .inr (3, [.int 0, .ref (sv 0), .int 0]))] H _ := w
  refine x_iast (k := 2) C w 2 1 rfl rfl (xvin (by decide)) (by decide) dX6_houseNow_73 (fun H locs w => ?_)
  have w : xW G A s [(h0, .inr (10, [.ref h2, .ref h4, .ref h3, .ref h5, .ref h1, .ref h6, .ref h7, .int 0, .int 0])), (h1, .inl (cy 2, 3, .inl (fun _ => 0))), (q4243, .inl (cy 1, 5, .inl (upd (upd (upd (fun _ => 0) 0 0) 1 0) 2 0))), (h2, .inr (3, [.int 0, .ref (sv 0), .int 0])), (h3, .inr (3, [.int 0, .ref (sv 0), .int 0])), (h4, .inr (3, [.int 0, .ref (sv 0), .int 0]))] H _ := w
  refine lv_dup C.1 C.2.1 dX6_houseNow_74 rfl ?_
  refine lv_iconst (v := 3) C.1 C.2.1 dX6_houseNow_75 (by decide) ?_
  refine lv_iload_n C.1 C.2.1 dX6_houseNow_76 rfl (lv_at hl 1 rfl) ?_
  refine x_iast (k := 3) C w 2 1 rfl rfl (xvin (by decide)) (by decide) dX6_houseNow_77 (fun H locs w => ?_)
  have w : xW G A s [(h0, .inr (10, [.ref h2, .ref h4, .ref h3, .ref h5, .ref h1, .ref h6, .ref h7, .int 0, .int 0])), (h1, .inl (cy 2, 3, .inl (fun _ => 0))), (q4243, .inl (cy 1, 5, .inl (upd (upd (upd (upd (fun _ => 0) 0 0) 1 0) 2 0) 3 0))), (h2, .inr (3, [.int 0, .ref (sv 0), .int 0])), (h3, .inr (3, [.int 0, .ref (sv 0), .int 0])), (h4, .inr (3, [.int 0, .ref (sv 0), .int 0]))] H _ := w
  refine lv_dup C.1 C.2.1 dX6_houseNow_78 rfl ?_
  refine lv_iconst (v := 4) C.1 C.2.1 dX6_houseNow_79 (by decide) ?_
  refine lv_aload_n C.1 C.2.1 dX6_houseNow_80 rfl (lv_at hl 5 rfl) ?_
  refine x_get (v := .int 0) C w 0 10 7 (xin_X6 _) rfl rfl (by decide) (List.mem_cons_of_mem _ gw_1012) rfl rfl dX6_houseNow_81 ?_
  refine x_iast (k := 4) C w 2 1 rfl rfl (xvin (by decide)) (by decide) dX6_houseNow_84 (fun H locs w => ?_)
  have w : xW G A s [(h0, .inr (10, [.ref h2, .ref h4, .ref h3, .ref h5, .ref h1, .ref h6, .ref h7, .int 0, .int 0])), (h1, .inl (cy 2, 3, .inl (fun _ => 0))), (q4243, .inl (cy 1, 5, .inl (upd (upd (upd (upd (upd (fun _ => 0) 0 0) 1 0) 2 0) 3 0) 4 0))), (h2, .inr (3, [.int 0, .ref (sv 0), .int 0])), (h3, .inr (3, [.int 0, .ref (sv 0), .int 0])), (h4, .inr (3, [.int 0, .ref (sv 0), .int 0]))] H _ := w
  refine lv_astore_n (lv' := [(3, .ref q4243), (5, .int 3), (2, .int 0), (6, .int 0), (4, .int 3), (0, .ref h0), (1, .int 0)]) C.1 C.2.1 dX6_houseNow_85 rfl hl (by decide) rfl (fun ls hl => ?_)
  refine lv_aload_n C.1 C.2.1 dX6_houseNow_86 rfl (lv_at hl 0 rfl) ?_
  refine lv_iload_n C.1 C.2.1 dX6_houseNow_87 rfl (lv_at hl 6 rfl) ?_
  refine x_iald (v := 0) C w 2 1 rfl rfl (xvin (by decide)) (by rfl) dX6_houseNow_88 ?_
  have w := w.sub (ws' := [(h0, .inr (10, [.ref h2, .ref h4, .ref h3, .ref h5, .ref h1, .ref h6, .ref h7, .int 0, .int 0])), (h1, .inl (cy 2, 3, .inl (fun _ => 0))), (h2, .inr (3, [.int 0, .ref (sv 0), .int 0])), (h3, .inr (3, [.int 0, .ref (sv 0), .int 0])), (h4, .inr (3, [.int 0, .ref (sv 0), .int 0]))]) [0, 1, 3, 4, 5] (by decide) rfl rfl
  exact x_iret C w hr (fun _ => 0) rfl rfl dX6_houseNow_89 (Nat.le_of_ble_eq_true rfl) (Nat.le_of_ble_eq_true rfl)
set_option maxHeartbeats 4000000 in
set_option maxRecDepth 100000 in
theorem c603_X6_house (l : Launch) (G : va_G) (cy : Nat → ClassId) (sa : String → Nat → Nat) (sv : Nat → Nat) (h0 h1 h2 h3 h4 h5 h6 h7 : Nat) : xM l G cy sa sv yX6_house (Cond.code yX6_house cX6_house 2 (some .int) :: XG) { frames := 10, cells := 1, slots := 5, locals := 296 } [.ref h0, .int 0] [(h0, .inr (10, [.ref h2, .ref h4, .ref h3, .ref h5, .ref h1, .ref h6, .ref h7, .int 0, .int 0])), (h1, .inl (cy 2, 3, .inl (fun _ => 0))), (h2, .inr (3, [.int 0, .ref (sv 0), .int 0])), (h3, .inr (3, [.int 0, .ref (sv 0), .int 0])), (h4, .inr (3, [.int 0, .ref (sv 0), .int 0]))] (xQi G (fun f => [(h0, .inr (10, [.ref h2, .ref h4, .ref h3, .ref h5, .ref h1, .ref h6, .ref h7, .int 0, .int 0])), (h1, .inl (cy 2, 3, .inl (fun _ => 0))), (h2, .inr (3, [.int 0, .ref (sv 0), .int 0])), (h3, .inr (3, [.int 0, .ref (sv 0), .int 0])), (h4, .inr (3, [.int 0, .ref (sv 0), .int 0]))]) 0) := by
  refine xof (by decide) (Nat.le_of_ble_eq_true rfl) (fun p e s m below meth c A C w hr hn ls hl => ?_)
  have hl : lv_has ls 2 [(0, .ref h0), (1, .int 0)] := hl
  refine lv_aload_n C.1 C.2.1 dX6_house_0 rfl (lv_at hl 0 rfl) ?_
  refine lv_iload_n C.1 C.2.1 dX6_house_1 rfl (lv_at hl 1 rfl) ?_
  refine lv_if_lt (tgt := 10) C.1 C.2.1 dX6_house_2 (by decide) (fun c9 => absurd c9 (by decide)) (fun _ => ?_)
  refine lv_iload_n C.1 C.2.1 dX6_house_5 rfl (lv_at hl 1 rfl) ?_
  refine lv_iconst (v := 4) C.1 C.2.1 dX6_house_6 (by decide) ?_
  refine lv_icmp_le (tgt := 14) C.1 C.2.1 dX6_house_7 (by decide) (fun _ => ?_) (fun c9 => absurd (by decide) c9)
  refine lv_iconst (v := 0) C.1 C.2.1 dX6_house_14 (by decide) ?_
  refine lv_iconst (v := 1) C.1 C.2.1 dX6_house_15 (by decide) ?_
  refine x_ki C w [0] [1, 2, 3, 4] rfl rfl (by decide) (by decide) (va_runV (As := [.int 0, .int 1]) (rest := []) (xfix C) (c46_X6_start l G cy sa sv h0 h2 h4 h3 h5 h1 h6 h7 (xtr C) _) (cwV 2 (xhts C) (xgV (maxL := 0) (cc := ⟨#[]⟩) (ret := none) gw_114 gw_115 gw_116 gw_58 gc_X6_start) rfl rfl rfl (by decide +kernel) ⟨(Nat.le_of_ble_eq_true rfl), (Nat.le_of_ble_eq_true rfl)⟩) (xPV C w [0] rfl (by decide) (ci := 10) (q0 := 0) rfl rfl) rfl rfl hl.1 rfl (lv_room (Nat.le_of_ble_eq_true rfl)) dX6_house_16 ⟨(Nat.le_of_ble_eq_true rfl), (Nat.le_of_ble_eq_true rfl)⟩) (fun f4237 H locs w => ?_)
  have w : xW G A s [(h1, .inl (cy 2, 3, .inl (fun _ => 0))), (h2, .inr (3, [.int 0, .ref (sv 0), .int 0])), (h3, .inr (3, [.int 0, .ref (sv 0), .int 0])), (h4, .inr (3, [.int 0, .ref (sv 0), .int 0])), (h0, .inr (10, [.ref h2, .ref h4, .ref h3, .ref h5, .ref h1, .ref h6, .ref h7, .int 0, .int 0]))] H _ := w
  refine lv_if_eq (tgt := 26) C.1 C.2.1 dX6_house_19 (by decide) (fun _ => ?_) (fun c9 => absurd (by decide) c9)
  refine lv_aload_n C.1 C.2.1 dX6_house_26 rfl (lv_at hl 0 rfl) ?_
  refine lv_iload_n C.1 C.2.1 dX6_house_27 rfl (lv_at hl 1 rfl) ?_
  refine x_ki C w [4, 0, 1, 2, 3] [] rfl rfl (by decide) (by decide) (va_runV (As := [.int 0]) (rest := []) (xfix C) (c602_X6_houseNow l G cy sa sv h0 h1 h2 h3 h4 h5 h6 h7 (xtr C) _) (cwV 1 (xhts C) (xgV (maxL := 0) (cc := ⟨#[]⟩) (ret := none) gw_1014 gw_1015 gw_1016 gw_58 gc_X6_houseNow) rfl rfl rfl (by decide +kernel) ⟨(Nat.le_of_ble_eq_true rfl), (Nat.le_of_ble_eq_true rfl)⟩) (xPV C w [4, 0, 1, 2, 3] rfl (by decide) (ci := 10) (q0 := 4) rfl rfl) rfl rfl hl.1 rfl (lv_room (Nat.le_of_ble_eq_true rfl)) dX6_house_28 ⟨(Nat.le_of_ble_eq_true rfl), (Nat.le_of_ble_eq_true rfl)⟩) (fun f4247 H locs w => ?_)
  have w : xW G A s [(h0, .inr (10, [.ref h2, .ref h4, .ref h3, .ref h5, .ref h1, .ref h6, .ref h7, .int 0, .int 0])), (h1, .inl (cy 2, 3, .inl (fun _ => 0))), (h2, .inr (3, [.int 0, .ref (sv 0), .int 0])), (h3, .inr (3, [.int 0, .ref (sv 0), .int 0])), (h4, .inr (3, [.int 0, .ref (sv 0), .int 0]))] H _ := w
  refine W.widen (k := 1) (n := 5) (Nat.le_of_ble_eq_true rfl) (Nat.le_of_ble_eq_true rfl) ?_
  exact x_iret C w hr (fun _ => 0) rfl rfl dX6_house_31 (Nat.le_of_ble_eq_true rfl) (Nat.le_of_ble_eq_true rfl)
set_option maxHeartbeats 4000000 in
set_option maxRecDepth 100000 in
theorem c604_X4_house (l : Launch) (G : va_G) (cy : Nat → ClassId) (sa : String → Nat → Nat) (sv : Nat → Nat) (h0 h1 h2 h3 h4 h5 h6 h7 h8 h9 h10 h11 : Nat) : xM l G cy sa sv yX4_house (Cond.code yX4_house cX4_house 2 (some .int) :: XG) { frames := 10, cells := 0, slots := 0, locals := 290 } [.ref h0, .int 1] [(h0, .inr (8, [.ref h3, .ref h4, .ref h1, .ref h5, .ref h6, .int 0, .ref h7, .ref h8])), (h1, .inr (5, [.ref h9, .ref h10, .ref h2, .int 0])), (h2, .inr (6, [.ref h11, .int 0]))] (xQi G (fun f => [(h0, .inr (8, [.ref h3, .ref h4, .ref h1, .ref h5, .ref h6, .int 0, .ref h7, .ref h8])), (h1, .inr (5, [.ref h9, .ref h10, .ref h2, .int 0])), (h2, .inr (6, [.ref h11, .int 0]))]) 0) := by
  refine xof (by decide) (Nat.le_of_ble_eq_true rfl) (fun p e s m below meth c A C w hr hn ls hl => ?_)
  have hl : lv_has ls 2 [(0, .ref h0), (1, .int 1)] := hl
  refine lv_iload_n C.1 C.2.1 dX4_house_0 rfl (lv_at hl 1 rfl) ?_
  refine lv_tableIn (off := 43) (tgt := 44) C.1 C.2.1 dX4_house_1 (by decide) (by decide) (by decide) (by decide) ?_
  refine lv_aload_n C.1 C.2.1 dX4_house_44 rfl (lv_at hl 0 rfl) ?_
  refine x_get (v := .ref h1) C w 0 8 2 (xin_X4 _) rfl rfl (by decide) (List.mem_cons_of_mem _ gw_41) rfl rfl dX4_house_45 ?_
  refine x_ki C w [1, 2] [0] rfl rfl (by decide) (by decide) (va_runV (As := []) (rest := []) (xfix C) (c578_X1_count l G cy sa sv h1 h2 h9 h10 h11 (xtr C) _) (cwV 0 (xhts C) (xgV (maxL := 0) (cc := ⟨#[]⟩) (ret := none) gw_915 gw_916 gw_917 gw_30 gc_X1_count) rfl rfl rfl (by decide +kernel) ⟨(Nat.le_of_ble_eq_true rfl), (Nat.le_of_ble_eq_true rfl)⟩) (xPV C w [1, 2] rfl (by decide) (ci := 5) (q0 := 1) rfl rfl) rfl rfl hl.1 rfl (lv_room (Nat.le_of_ble_eq_true rfl)) dX4_house_48 ⟨(Nat.le_of_ble_eq_true rfl), (Nat.le_of_ble_eq_true rfl)⟩) (fun f4252 H locs w => ?_)
  have w : xW G A s [(h0, .inr (8, [.ref h3, .ref h4, .ref h1, .ref h5, .ref h6, .int 0, .ref h7, .ref h8])), (h1, .inr (5, [.ref h9, .ref h10, .ref h2, .int 0])), (h2, .inr (6, [.ref h11, .int 0]))] H _ := w
  exact x_iret C w hr (fun _ => 0) rfl rfl dX4_house_51 (Nat.le_of_ble_eq_true rfl) (Nat.le_of_ble_eq_true rfl)
set_option maxHeartbeats 4000000 in
set_option maxRecDepth 100000 in
theorem c605_L_house (l : Launch) (G : va_G) (cy : Nat → ClassId) (sa : String → Nat → Nat) (sv : Nat → Nat) (h0 h1 h2 h3 h4 h5 h6 h7 h8 h9 h10 h11 h12 : Nat) : xM l G cy sa sv yL_house (Cond.codeWith yL_house cL_house 4 (some .int) [(0, 10, 13, 19)] :: XG) { frames := 11, cells := 0, slots := 0, locals := 311 } [.ref h0, .int 1, .ref h1] [(h0, .inr (8, [.ref h4, .ref h5, .ref h2, .ref h6, .ref h7, .int 0, .ref h8, .ref h9])), (h2, .inr (5, [.ref h10, .ref h11, .ref h3, .int 0])), (h3, .inr (6, [.ref h12, .int 0])), (h1, .inr (9, [.long 0, .null]))] (xQi G (fun f => [(h0, .inr (8, [.ref h4, .ref h5, .ref h2, .ref h6, .ref h7, .int 0, .ref h8, .ref h9])), (h2, .inr (5, [.ref h10, .ref h11, .ref h3, .int 0])), (h3, .inr (6, [.ref h12, .int 0])), (h1, .inr (9, [.long 0, .null]))]) 0) := by
  refine xofH (by decide) (Nat.le_of_ble_eq_true rfl) (fun p e s m below meth c A C w hr hn hT ls hl => ?_)
  have hl : lv_has ls 4 [(0, .ref h0), (1, .int 1), (2, .ref h1)] := hl
  refine lv_aload_n C.1 C.2.1 dL_house_0 rfl (lv_at hl 2 rfl) ?_
  refine lv_aload_n C.1 C.2.1 dL_house_1 rfl (lv_at hl 0 rfl) ?_
  refine lv_iload_n C.1 C.2.1 dL_house_2 rfl (lv_at hl 1 rfl) ?_
  refine x_ki C w [0, 1, 2] [3] rfl rfl (by decide) (by decide) (va_runV (As := [.int 1]) (rest := [.ref h1]) (xfix C) (c604_X4_house l G cy sa sv h0 h2 h3 h4 h5 h6 h7 h8 h9 h10 h11 h12 (xtr C) _) (cwV 1 (xhts C) (xgV (maxL := 0) (cc := ⟨#[]⟩) (ret := none) gw_1006 gw_1007 gw_1008 gw_2 gc_X4_house) rfl rfl rfl (by decide +kernel) ⟨(Nat.le_of_ble_eq_true rfl), (Nat.le_of_ble_eq_true rfl)⟩) (xPV C w [0, 1, 2] rfl (by decide) (ci := 8) (q0 := 0) rfl rfl) rfl rfl hl.1 rfl (lv_room (Nat.le_of_ble_eq_true rfl)) dL_house_3 ⟨(Nat.le_of_ble_eq_true rfl), (Nat.le_of_ble_eq_true rfl)⟩) (fun f4253 H locs w => ?_)
  have w : xW G A s [(h1, .inr (9, [.long 0, .null])), (h0, .inr (8, [.ref h4, .ref h5, .ref h2, .ref h6, .ref h7, .int 0, .ref h8, .ref h9])), (h2, .inr (5, [.ref h10, .ref h11, .ref h3, .int 0])), (h3, .inr (6, [.ref h12, .int 0]))] H _ := w
  refine lv_i2l (v := 0) C.1 C.2.1 dL_house_6 (by decide) ?_
  refine x_putN (ty := .long) (ty0 := tyX5) C w 0 9 0 (xin_X5 _) tyX5_ok nmX5 rfl rfl (by decide) (xs_f_n (xS C)) rfl rfl (by decide +kernel) rfl rfl (Nat.le_of_ble_eq_true rfl) dL_house_7 (fun H locs w => ?_)
  have w : xW G A s [(h1, .inr (9, [.long 0, .null])), (h0, .inr (8, [.ref h4, .ref h5, .ref h2, .ref h6, .ref h7, .int 0, .ref h8, .ref h9])), (h2, .inr (5, [.ref h10, .ref h11, .ref h3, .int 0])), (h3, .inr (6, [.ref h12, .int 0]))] H _ := w
  refine lv_goto (tgt := 16) C.1 C.2.1 dL_house_10 (by decide) ?_
  refine lv_iconst (v := 0) C.1 C.2.1 dL_house_16 (by decide) ?_
  have w := w.sub (ws' := [(h0, .inr (8, [.ref h4, .ref h5, .ref h2, .ref h6, .ref h7, .int 0, .ref h8, .ref h9])), (h2, .inr (5, [.ref h10, .ref h11, .ref h3, .int 0])), (h3, .inr (6, [.ref h12, .int 0])), (h1, .inr (9, [.long 0, .null]))]) [1, 2, 3, 0] (by decide) rfl rfl
  exact x_iret C w hr (fun _ => 0) rfl rfl dL_house_17 (Nat.le_of_ble_eq_true rfl) (Nat.le_of_ble_eq_true rfl)
set_option maxHeartbeats 4000000 in
set_option maxRecDepth 100000 in
theorem c606_X6_houseNow (l : Launch) (G : va_G) (cy : Nat → ClassId) (sa : String → Nat → Nat) (sv : Nat → Nat) (h0 h1 h2 h3 h4 h5 h6 h7 : Nat) : xM l G cy sa sv yX6_houseNow (Cond.code yX6_houseNow cX6_houseNow 7 (some .int) :: XG) { frames := 9, cells := 1, slots := 5, locals := 270 } [.ref h0, .int 1] [(h0, .inr (10, [.ref h2, .ref h4, .ref h3, .ref h5, .ref h1, .ref h6, .ref h7, .int 0, .int 0])), (h1, .inl (cy 2, 3, .inl (fun _ => 0))), (h2, .inr (3, [.int 0, .ref (sv 0), .int 0])), (h3, .inr (3, [.int 0, .ref (sv 0), .int 0])), (h4, .inr (3, [.int 0, .ref (sv 0), .int 0]))] (xQi G (fun f => [(h0, .inr (10, [.ref h2, .ref h4, .ref h3, .ref h5, .ref h1, .ref h6, .ref h7, .int 0, .int 0])), (h1, .inl (cy 2, 3, .inl (fun _ => 0))), (h2, .inr (3, [.int 0, .ref (sv 0), .int 0])), (h3, .inr (3, [.int 0, .ref (sv 0), .int 0])), (h4, .inr (3, [.int 0, .ref (sv 0), .int 0]))]) 0) := by
  refine xof (by decide) (Nat.le_of_ble_eq_true rfl) (fun p e s m below meth c A C w hr hn ls hl => ?_)
  have hl : lv_has ls 7 [(0, .ref h0), (1, .int 1)] := hl
  refine lv_iconst (v := 0) C.1 C.2.1 dX6_houseNow_0 (by decide) ?_
  refine lv_istore_n (lv' := [(2, .int 0), (0, .ref h0), (1, .int 1)]) C.1 C.2.1 dX6_houseNow_1 rfl hl (by decide) rfl (fun ls hl => ?_)
  refine lv_aload_n C.1 C.2.1 dX6_houseNow_2 rfl (lv_at hl 1 rfl) ?_
  refine x_get (v := .ref h1) C w 0 10 4 (xin_X6 _) rfl rfl (by decide) (List.mem_cons_of_mem _ gw_83) rfl rfl dX6_houseNow_3 ?_
  refine lv_astore_n (lv' := [(3, .ref h1), (2, .int 0), (0, .ref h0), (1, .int 1)]) C.1 C.2.1 dX6_houseNow_6 rfl hl (by decide) rfl (fun ls hl => ?_)
  refine lv_aload_n C.1 C.2.1 dX6_houseNow_7 rfl (lv_at hl 0 rfl) ?_
  refine x_alen (v := 3) C w 1 2 rfl rfl (by rfl) dX6_houseNow_8 ?_
  refine lv_istore (lv' := [(4, .int 3), (3, .ref h1), (2, .int 0), (0, .ref h0), (1, .int 1)]) C.1 C.2.1 dX6_houseNow_9 hl (by decide) rfl (fun ls hl => ?_)
  refine lv_iconst (v := 0) C.1 C.2.1 dX6_houseNow_11 (by decide) ?_
  refine lv_istore (lv' := [(5, .int 0), (4, .int 3), (3, .ref h1), (2, .int 0), (0, .ref h0), (1, .int 1)]) C.1 C.2.1 dX6_houseNow_12 hl (by decide) rfl (fun ls hl => ?_)
  refine lv_iload C.1 C.2.1 dX6_houseNow_14 (lv_at hl 0 rfl) ?_
  refine lv_iload C.1 C.2.1 dX6_houseNow_16 (lv_at hl 1 rfl) ?_
  refine lv_icmp_ge (tgt := 41) C.1 C.2.1 dX6_houseNow_18 (by decide) (fun c9 => absurd c9 (by decide)) (fun _ => ?_)
  refine lv_aload_n C.1 C.2.1 dX6_houseNow_21 rfl (lv_at hl 2 rfl) ?_
  refine lv_iload C.1 C.2.1 dX6_houseNow_22 (lv_at hl 0 rfl) ?_
  refine x_zald (v := 0) C w 1 2 rfl rfl (xvin (by decide)) (by rfl) dX6_houseNow_24 ?_
  refine lv_istore (lv' := [(6, .int 0), (5, .int 0), (4, .int 3), (3, .ref h1), (2, .int 0), (0, .ref h0), (1, .int 1)]) C.1 C.2.1 dX6_houseNow_25 hl (by decide) rfl (fun ls hl => ?_)
  refine lv_iload_n C.1 C.2.1 dX6_houseNow_27 rfl (lv_at hl 4 rfl) ?_
  refine lv_iload C.1 C.2.1 dX6_houseNow_28 (lv_at hl 0 rfl) ?_
  refine x_ki C w [] [0, 1, 2, 3, 4] rfl rfl (by decide) (by decide) (va_runS (As := [.int 0]) (rest := [.int 0]) (xfix C) (c521_X6_one l G cy sa sv (xtr C) _) (va_cwS 1 (xhts C) (xgS gw_912 gw_913 gw_58 gc_X6_one) rfl rfl rfl (by decide +kernel) ⟨(Nat.le_of_ble_eq_true rfl), (Nat.le_of_ble_eq_true rfl)⟩) (xPS C w [] rfl (by decide)) rfl rfl hl.1 rfl (lv_room (Nat.le_of_ble_eq_true rfl)) dX6_houseNow_30 ⟨(Nat.le_of_ble_eq_true rfl), (Nat.le_of_ble_eq_true rfl)⟩) (fun f4260 H locs w => ?_)
  have w : xW G A s [(h0, .inr (10, [.ref h2, .ref h4, .ref h3, .ref h5, .ref h1, .ref h6, .ref h7, .int 0, .int 0])), (h1, .inl (cy 2, 3, .inl (fun _ => 0))), (h2, .inr (3, [.int 0, .ref (sv 0), .int 0])), (h3, .inr (3, [.int 0, .ref (sv 0), .int 0])), (h4, .inr (3, [.int 0, .ref (sv 0), .int 0]))] H _ := w
  refine lv_iadd C.1 C.2.1 dX6_houseNow_33 ?_
  refine x_is (y := 0) (by decide) ?_
  refine lv_istore_n (lv' := [(2, .int 0), (6, .int 0), (5, .int 0), (4, .int 3), (3, .ref h1), (0, .ref h0), (1, .int 1)]) C.1 C.2.1 dX6_houseNow_34 rfl hl (by decide) rfl (fun ls hl => ?_)
  refine lv_iinc (v := 1) (lv' := [(5, .int 1), (2, .int 0), (6, .int 0), (4, .int 3), (3, .ref h1), (0, .ref h0), (1, .int 1)]) C.1 C.2.1 dX6_houseNow_35 hl (k := 2) rfl (by decide) (by decide) rfl (fun ls hl => ?_)
  refine lv_goto (tgt := 14) C.1 C.2.1 dX6_houseNow_38 (by decide) ?_
  refine lv_iload C.1 C.2.1 dX6_houseNow_14 (lv_at hl 0 rfl) ?_
  refine lv_iload C.1 C.2.1 dX6_houseNow_16 (lv_at hl 3 rfl) ?_
  refine lv_icmp_ge (tgt := 41) C.1 C.2.1 dX6_houseNow_18 (by decide) (fun c9 => absurd c9 (by decide)) (fun _ => ?_)
  refine lv_aload_n C.1 C.2.1 dX6_houseNow_21 rfl (lv_at hl 4 rfl) ?_
  refine lv_iload C.1 C.2.1 dX6_houseNow_22 (lv_at hl 0 rfl) ?_
  refine x_zald (v := 0) C w 1 2 rfl rfl (xvin (by decide)) (by rfl) dX6_houseNow_24 ?_
  refine lv_istore (lv' := [(6, .int 0), (5, .int 1), (2, .int 0), (4, .int 3), (3, .ref h1), (0, .ref h0), (1, .int 1)]) C.1 C.2.1 dX6_houseNow_25 hl (by decide) rfl (fun ls hl => ?_)
  refine lv_iload_n C.1 C.2.1 dX6_houseNow_27 rfl (lv_at hl 2 rfl) ?_
  refine lv_iload C.1 C.2.1 dX6_houseNow_28 (lv_at hl 0 rfl) ?_
  refine x_ki C w [] [0, 1, 2, 3, 4] rfl rfl (by decide) (by decide) (va_runS (As := [.int 0]) (rest := [.int 0]) (xfix C) (c521_X6_one l G cy sa sv (xtr C) _) (va_cwS 1 (xhts C) (xgS gw_912 gw_913 gw_58 gc_X6_one) rfl rfl rfl (by decide +kernel) ⟨(Nat.le_of_ble_eq_true rfl), (Nat.le_of_ble_eq_true rfl)⟩) (xPS C w [] rfl (by decide)) rfl rfl hl.1 rfl (lv_room (Nat.le_of_ble_eq_true rfl)) dX6_houseNow_30 ⟨(Nat.le_of_ble_eq_true rfl), (Nat.le_of_ble_eq_true rfl)⟩) (fun f4261 H locs w => ?_)
  have w : xW G A s [(h0, .inr (10, [.ref h2, .ref h4, .ref h3, .ref h5, .ref h1, .ref h6, .ref h7, .int 0, .int 0])), (h1, .inl (cy 2, 3, .inl (fun _ => 0))), (h2, .inr (3, [.int 0, .ref (sv 0), .int 0])), (h3, .inr (3, [.int 0, .ref (sv 0), .int 0])), (h4, .inr (3, [.int 0, .ref (sv 0), .int 0]))] H _ := w
  refine lv_iadd C.1 C.2.1 dX6_houseNow_33 ?_
  refine x_is (y := 0) (by decide) ?_
  refine lv_istore_n (lv' := [(2, .int 0), (6, .int 0), (5, .int 1), (4, .int 3), (3, .ref h1), (0, .ref h0), (1, .int 1)]) C.1 C.2.1 dX6_houseNow_34 rfl hl (by decide) rfl (fun ls hl => ?_)
  refine lv_iinc (v := 2) (lv' := [(5, .int 2), (2, .int 0), (6, .int 0), (4, .int 3), (3, .ref h1), (0, .ref h0), (1, .int 1)]) C.1 C.2.1 dX6_houseNow_35 hl (k := 2) rfl (by decide) (by decide) rfl (fun ls hl => ?_)
  refine lv_goto (tgt := 14) C.1 C.2.1 dX6_houseNow_38 (by decide) ?_
  refine lv_iload C.1 C.2.1 dX6_houseNow_14 (lv_at hl 0 rfl) ?_
  refine lv_iload C.1 C.2.1 dX6_houseNow_16 (lv_at hl 3 rfl) ?_
  refine lv_icmp_ge (tgt := 41) C.1 C.2.1 dX6_houseNow_18 (by decide) (fun c9 => absurd c9 (by decide)) (fun _ => ?_)
  refine lv_aload_n C.1 C.2.1 dX6_houseNow_21 rfl (lv_at hl 4 rfl) ?_
  refine lv_iload C.1 C.2.1 dX6_houseNow_22 (lv_at hl 0 rfl) ?_
  refine x_zald (v := 0) C w 1 2 rfl rfl (xvin (by decide)) (by rfl) dX6_houseNow_24 ?_
  refine lv_istore (lv' := [(6, .int 0), (5, .int 2), (2, .int 0), (4, .int 3), (3, .ref h1), (0, .ref h0), (1, .int 1)]) C.1 C.2.1 dX6_houseNow_25 hl (by decide) rfl (fun ls hl => ?_)
  refine lv_iload_n C.1 C.2.1 dX6_houseNow_27 rfl (lv_at hl 2 rfl) ?_
  refine lv_iload C.1 C.2.1 dX6_houseNow_28 (lv_at hl 0 rfl) ?_
  refine x_ki C w [] [0, 1, 2, 3, 4] rfl rfl (by decide) (by decide) (va_runS (As := [.int 0]) (rest := [.int 0]) (xfix C) (c521_X6_one l G cy sa sv (xtr C) _) (va_cwS 1 (xhts C) (xgS gw_912 gw_913 gw_58 gc_X6_one) rfl rfl rfl (by decide +kernel) ⟨(Nat.le_of_ble_eq_true rfl), (Nat.le_of_ble_eq_true rfl)⟩) (xPS C w [] rfl (by decide)) rfl rfl hl.1 rfl (lv_room (Nat.le_of_ble_eq_true rfl)) dX6_houseNow_30 ⟨(Nat.le_of_ble_eq_true rfl), (Nat.le_of_ble_eq_true rfl)⟩) (fun f4262 H locs w => ?_)
  have w : xW G A s [(h0, .inr (10, [.ref h2, .ref h4, .ref h3, .ref h5, .ref h1, .ref h6, .ref h7, .int 0, .int 0])), (h1, .inl (cy 2, 3, .inl (fun _ => 0))), (h2, .inr (3, [.int 0, .ref (sv 0), .int 0])), (h3, .inr (3, [.int 0, .ref (sv 0), .int 0])), (h4, .inr (3, [.int 0, .ref (sv 0), .int 0]))] H _ := w
  refine lv_iadd C.1 C.2.1 dX6_houseNow_33 ?_
  refine x_is (y := 0) (by decide) ?_
  refine lv_istore_n (lv' := [(2, .int 0), (6, .int 0), (5, .int 2), (4, .int 3), (3, .ref h1), (0, .ref h0), (1, .int 1)]) C.1 C.2.1 dX6_houseNow_34 rfl hl (by decide) rfl (fun ls hl => ?_)
  refine lv_iinc (v := 3) (lv' := [(5, .int 3), (2, .int 0), (6, .int 0), (4, .int 3), (3, .ref h1), (0, .ref h0), (1, .int 1)]) C.1 C.2.1 dX6_houseNow_35 hl (k := 2) rfl (by decide) (by decide) rfl (fun ls hl => ?_)
  refine lv_goto (tgt := 14) C.1 C.2.1 dX6_houseNow_38 (by decide) ?_
  refine lv_iload C.1 C.2.1 dX6_houseNow_14 (lv_at hl 0 rfl) ?_
  refine lv_iload C.1 C.2.1 dX6_houseNow_16 (lv_at hl 3 rfl) ?_
  refine lv_icmp_ge (tgt := 41) C.1 C.2.1 dX6_houseNow_18 (by decide) (fun _ => ?_) (fun c9 => absurd (by decide) c9)
  refine lv_iconst (v := 5) C.1 C.2.1 dX6_houseNow_41 (by decide) ?_
  refine x_newa (atype := .int) (ty := .int) (N := 5) C w 1 (fun _ _ h => h) rfl (List.mem_cons_of_mem _ gw_13) rfl rfl (by decide) (by decide) (by decide) (Nat.le_of_ble_eq_true rfl) (Nat.le_of_ble_eq_true rfl) dX6_houseNow_42 (fun q4263 H w => ?_)
  have w : xW G A s [(h0, .inr (10, [.ref h2, .ref h4, .ref h3, .ref h5, .ref h1, .ref h6, .ref h7, .int 0, .int 0])), (h1, .inl (cy 2, 3, .inl (fun _ => 0))), (h2, .inr (3, [.int 0, .ref (sv 0), .int 0])), (h3, .inr (3, [.int 0, .ref (sv 0), .int 0])), (h4, .inr (3, [.int 0, .ref (sv 0), .int 0])), (q4263, .inl (cy 1, 5, .inl (fun _ => 0)))] H _ := w
  refine W.widen (k := 1) (n := 5) (Nat.le_of_ble_eq_true rfl) (Nat.le_of_ble_eq_true rfl) ?_
  refine lv_dup C.1 C.2.1 dX6_houseNow_44 rfl ?_
  refine lv_iconst (v := 0) C.1 C.2.1 dX6_houseNow_45 (by decide) ?_
  refine lv_aload_n C.1 C.2.1 dX6_houseNow_46 rfl (lv_at hl 5 rfl) ?_
  refine x_get (v := .ref h2) C w 0 10 0 (xin_X6 _) rfl rfl (by decide) (List.mem_cons_of_mem _ gw_78) rfl rfl dX6_houseNow_47 ?_
  refine x_ki C w [2] [0, 1, 3, 4, 5] rfl rfl (by decide) (by decide) (va_runV (As := []) (rest := [.int 0, .ref q4263, .ref q4263]) (xfix C) (c47_Jx4a65c_size_8abf5 l G cy sa sv h2 (xtr C) _) (cwV 0 (xhts C) (xgV (maxL := 0) (cc := ⟨#[]⟩) (ret := none) gw_195 gw_196 gw_197 gw_62 gc_Jx4a65c_size_8abf5) rfl rfl rfl (by decide +kernel) ⟨(Nat.le_of_ble_eq_true rfl), (Nat.le_of_ble_eq_true rfl)⟩) (xPV C w [2] rfl (by decide) (ci := 3) (q0 := 2) rfl rfl) rfl rfl hl.1 rfl (lv_room (Nat.le_of_ble_eq_true rfl)) dX6_houseNow_50 ⟨(Nat.le_of_ble_eq_true rfl), (Nat.le_of_ble_eq_true rfl)⟩) (fun f4264 H locs w => ?_)
  have w : xW G A s [(h0, .inr (10, [.ref h2, .ref h4, .ref h3, .ref h5, .ref h1, .ref h6, .ref h7, .int 0, .int 0])), (h1, .inl (cy 2, 3, .inl (fun _ => 0))), (h3, .inr (3, [.int 0, .ref (sv 0), .int 0])), (h4, .inr (3, [.int 0, .ref (sv 0), .int 0])), (q4263, .inl (cy 1, 5, .inl (fun _ => 0))), (h2, .inr (3, [.int 0, .ref (sv 0), .int 0]))] H _ := w
  refine x_iast (k := 0) C w 4 1 rfl rfl (xvin (by decide)) (by decide) dX6_houseNow_53 (fun H locs w => ?_)
  have w : xW G A s [(h0, .inr (10, [.ref h2, .ref h4, .ref h3, .ref h5, .ref h1, .ref h6, .ref h7, .int 0, .int 0])), (h1, .inl (cy 2, 3, .inl (fun _ => 0))), (h3, .inr (3, [.int 0, .ref (sv 0), .int 0])), (h4, .inr (3, [.int 0, .ref (sv 0), .int 0])), (q4263, .inl (cy 1, 5, .inl (upd (fun _ => 0) 0 0))), (h2, .inr (3, [.int 0, .ref (sv 0), .int 0]))] H _ := w
  refine lv_dup C.1 C.2.1 dX6_houseNow_54 rfl ?_
  refine lv_iconst (v := 1) C.1 C.2.1 dX6_houseNow_55 (by decide) ?_
  refine lv_aload_n C.1 C.2.1 dX6_houseNow_56 rfl (lv_at hl 5 rfl) ?_
  refine x_get (v := .ref h3) C w 0 10 2 (xin_X6 _) rfl rfl (by decide) (List.mem_cons_of_mem _ gw_80) rfl rfl dX6_houseNow_57 ?_
  refine x_ki C w [2] [0, 1, 3, 4, 5] rfl rfl (by decide) (by decide) (va_runV (As := []) (rest := [.int 1, .ref q4263, .ref q4263]) (xfix C) (c47_Jx4a65c_size_8abf5 l G cy sa sv h3 (xtr C) _) (cwV 0 (xhts C) (xgV (maxL := 0) (cc := ⟨#[]⟩) (ret := none) gw_195 gw_196 gw_197 gw_62 gc_Jx4a65c_size_8abf5) rfl rfl rfl (by decide +kernel) ⟨(Nat.le_of_ble_eq_true rfl), (Nat.le_of_ble_eq_true rfl)⟩) (xPV C w [2] rfl (by decide) (ci := 3) (q0 := 2) rfl rfl) rfl rfl hl.1 rfl (lv_room (Nat.le_of_ble_eq_true rfl)) dX6_houseNow_60 ⟨(Nat.le_of_ble_eq_true rfl), (Nat.le_of_ble_eq_true rfl)⟩) (fun f4265 H locs w => ?_)
  have w : xW G A s [(h0, .inr (10, [.ref h2, .ref h4, .ref h3, .ref h5, .ref h1, .ref h6, .ref h7, .int 0, .int 0])), (h1, .inl (cy 2, 3, .inl (fun _ => 0))), (h4, .inr (3, [.int 0, .ref (sv 0), .int 0])), (q4263, .inl (cy 1, 5, .inl (upd (fun _ => 0) 0 0))), (h2, .inr (3, [.int 0, .ref (sv 0), .int 0])), (h3, .inr (3, [.int 0, .ref (sv 0), .int 0]))] H _ := w
  refine x_iast (k := 1) C w 3 1 rfl rfl (xvin (by decide)) (by decide) dX6_houseNow_63 (fun H locs w => ?_)
  have w : xW G A s [(h0, .inr (10, [.ref h2, .ref h4, .ref h3, .ref h5, .ref h1, .ref h6, .ref h7, .int 0, .int 0])), (h1, .inl (cy 2, 3, .inl (fun _ => 0))), (h4, .inr (3, [.int 0, .ref (sv 0), .int 0])), (q4263, .inl (cy 1, 5, .inl (upd (upd (fun _ => 0) 0 0) 1 0))), (h2, .inr (3, [.int 0, .ref (sv 0), .int 0])), (h3, .inr (3, [.int 0, .ref (sv 0), .int 0]))] H _ := w
  refine lv_dup C.1 C.2.1 dX6_houseNow_64 rfl ?_
  refine lv_iconst (v := 2) C.1 C.2.1 dX6_houseNow_65 (by decide) ?_
  refine lv_aload_n C.1 C.2.1 dX6_houseNow_66 rfl (lv_at hl 5 rfl) ?_
  refine x_get (v := .ref h4) C w 0 10 1 (xin_X6 _) rfl rfl (by decide) (List.mem_cons_of_mem _ gw_79) rfl rfl dX6_houseNow_67 ?_
  refine x_ki C w [2] [0, 1, 3, 4, 5] rfl rfl (by decide) (by decide) (va_runV (As := []) (rest := [.int 2, .ref q4263, .ref q4263]) (xfix C) (c47_Jx4a65c_size_8abf5 l G cy sa sv h4 (xtr C) _) (cwV 0 (xhts C) (xgV (maxL := 0) (cc := ⟨#[]⟩) (ret := none) gw_195 gw_196 gw_197 gw_62 gc_Jx4a65c_size_8abf5) rfl rfl rfl (by decide +kernel) ⟨(Nat.le_of_ble_eq_true rfl), (Nat.le_of_ble_eq_true rfl)⟩) (xPV C w [2] rfl (by decide) (ci := 3) (q0 := 2) rfl rfl) rfl rfl hl.1 rfl (lv_room (Nat.le_of_ble_eq_true rfl)) dX6_houseNow_70 ⟨(Nat.le_of_ble_eq_true rfl), (Nat.le_of_ble_eq_true rfl)⟩) (fun f4266 H locs w => ?_)
  have w : xW G A s [(h0, .inr (10, [.ref h2, .ref h4, .ref h3, .ref h5, .ref h1, .ref h6, .ref h7, .int 0, .int 0])), (h1, .inl (cy 2, 3, .inl (fun _ => 0))), (q4263, .inl (cy 1, 5, .inl (upd (upd (fun _ => 0) 0 0) 1 0))), (h2, .inr (3, [.int 0, .ref (sv 0), .int 0])), (h3, .inr (3, [.int 0, .ref (sv 0), .int 0])), (h4, .inr (3, [.int 0, .ref (sv 0), .int 0]))] H _ := w
  refine x_iast (k := 2) C w 2 1 rfl rfl (xvin (by decide)) (by decide) dX6_houseNow_73 (fun H locs w => ?_)
  have w : xW G A s [(h0, .inr (10, [.ref h2, .ref h4, .ref h3, .ref h5, .ref h1, .ref h6, .ref h7, .int 0, .int 0])), (h1, .inl (cy 2, 3, .inl (fun _ => 0))), (q4263, .inl (cy 1, 5, .inl (upd (upd (upd (fun _ => 0) 0 0) 1 0) 2 0))), (h2, .inr (3, [.int 0, .ref (sv 0), .int 0])), (h3, .inr (3, [.int 0, .ref (sv 0), .int 0])), (h4, .inr (3, [.int 0, .ref (sv 0), .int 0]))] H _ := w
  refine lv_dup C.1 C.2.1 dX6_houseNow_74 rfl ?_
  refine lv_iconst (v := 3) C.1 C.2.1 dX6_houseNow_75 (by decide) ?_
  refine lv_iload_n C.1 C.2.1 dX6_houseNow_76 rfl (lv_at hl 1 rfl) ?_
  refine x_iast (k := 3) C w 2 1 rfl rfl (xvin (by decide)) (by decide) dX6_houseNow_77 (fun H locs w => ?_)
  have w : xW G A s [(h0, .inr (10, [.ref h2, .ref h4, .ref h3, .ref h5, .ref h1, .ref h6, .ref h7, .int 0, .int 0])), (h1, .inl (cy 2, 3, .inl (fun _ => 0))), (q4263, .inl (cy 1, 5, .inl (upd (upd (upd (upd (fun _ => 0) 0 0) 1 0) 2 0) 3 0))), (h2, .inr (3, [.int 0, .ref (sv 0), .int 0])), (h3, .inr (3, [.int 0, .ref (sv 0), .int 0])), (h4, .inr (3, [.int 0, .ref (sv 0), .int 0]))] H _ := w
  refine lv_dup C.1 C.2.1 dX6_houseNow_78 rfl ?_
  refine lv_iconst (v := 4) C.1 C.2.1 dX6_houseNow_79 (by decide) ?_
  refine lv_aload_n C.1 C.2.1 dX6_houseNow_80 rfl (lv_at hl 5 rfl) ?_
  refine x_get (v := .int 0) C w 0 10 7 (xin_X6 _) rfl rfl (by decide) (List.mem_cons_of_mem _ gw_1012) rfl rfl dX6_houseNow_81 ?_
  refine x_iast (k := 4) C w 2 1 rfl rfl (xvin (by decide)) (by decide) dX6_houseNow_84 (fun H locs w => ?_)
  have w : xW G A s [(h0, .inr (10, [.ref h2, .ref h4, .ref h3, .ref h5, .ref h1, .ref h6, .ref h7, .int 0, .int 0])), (h1, .inl (cy 2, 3, .inl (fun _ => 0))), (q4263, .inl (cy 1, 5, .inl (upd (upd (upd (upd (upd (fun _ => 0) 0 0) 1 0) 2 0) 3 0) 4 0))), (h2, .inr (3, [.int 0, .ref (sv 0), .int 0])), (h3, .inr (3, [.int 0, .ref (sv 0), .int 0])), (h4, .inr (3, [.int 0, .ref (sv 0), .int 0]))] H _ := w
  refine lv_astore_n (lv' := [(3, .ref q4263), (5, .int 3), (2, .int 0), (6, .int 0), (4, .int 3), (0, .ref h0), (1, .int 1)]) C.1 C.2.1 dX6_houseNow_85 rfl hl (by decide) rfl (fun ls hl => ?_)
  refine lv_aload_n C.1 C.2.1 dX6_houseNow_86 rfl (lv_at hl 0 rfl) ?_
  refine lv_iload_n C.1 C.2.1 dX6_houseNow_87 rfl (lv_at hl 6 rfl) ?_
  refine x_iald (v := 0) C w 2 1 rfl rfl (xvin (by decide)) (by rfl) dX6_houseNow_88 ?_
  have w := w.sub (ws' := [(h0, .inr (10, [.ref h2, .ref h4, .ref h3, .ref h5, .ref h1, .ref h6, .ref h7, .int 0, .int 0])), (h1, .inl (cy 2, 3, .inl (fun _ => 0))), (h2, .inr (3, [.int 0, .ref (sv 0), .int 0])), (h3, .inr (3, [.int 0, .ref (sv 0), .int 0])), (h4, .inr (3, [.int 0, .ref (sv 0), .int 0]))]) [0, 1, 3, 4, 5] (by decide) rfl rfl
  exact x_iret C w hr (fun _ => 0) rfl rfl dX6_houseNow_89 (Nat.le_of_ble_eq_true rfl) (Nat.le_of_ble_eq_true rfl)
