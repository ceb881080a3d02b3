set_option maxHeartbeats 4000000 in
set_option maxRecDepth 100000 in
theorem c188_X6_isNoHow (l : Launch) (G : va_G) (cy : Nat → ClassId) (sa : String → Nat → Nat) (sv : Nat → Nat) (v0 : Int32) (p0 : ¬ v0 < 0) (p1 : ¬ v0 ≤ 3) : xM l G cy sa sv yX6_isNoHow (Cond.code yX6_isNoHow cX6_isNoHow 1 (some .boolean) :: XG) { frames := 8, cells := 0, slots := 0, locals := 250 } [.int v0] [] (xQi G (fun f => []) 1) := by
  refine xof (by decide) (Nat.le_of_ble_eq_true rfl) (fun p e s m below meth c A C w hr hn ls hl => ?_)
  have hl : lv_has ls 1 [(0, .int v0)] := hl
  refine lv_iload_n C.1 C.2.1 dX6_isNoHow_0 rfl (lv_at hl 0 rfl) ?_
  refine lv_if_lt (tgt := 9) C.1 C.2.1 dX6_isNoHow_1 (by decide) (fun c9 => absurd c9 p0) (fun _ => ?_)
  refine lv_iload_n C.1 C.2.1 dX6_isNoHow_4 rfl (lv_at hl 0 rfl) ?_
  refine lv_iconst (v := 3) C.1 C.2.1 dX6_isNoHow_5 (by decide) ?_
  refine lv_icmp_le (tgt := 13) C.1 C.2.1 dX6_isNoHow_6 (by decide) (fun c9 => absurd c9 p1) (fun _ => ?_)
  refine lv_iconst (v := 1) C.1 C.2.1 dX6_isNoHow_9 (by decide) ?_
  refine lv_goto (tgt := 14) C.1 C.2.1 dX6_isNoHow_10 (by decide) ?_
  exact x_zret C w hr rfl (fun _ => 0) rfl rfl dX6_isNoHow_14 (Nat.le_of_ble_eq_true rfl) (Nat.le_of_ble_eq_true rfl)
set_option maxHeartbeats 4000000 in
set_option maxRecDepth 100000 in
theorem c189_X6_near (l : Launch) (G : va_G) (cy : Nat → ClassId) (sa : String → Nat → Nat) (sv : Nat → Nat) (h0 h1 h2 h3 h4 h5 h6 h7 : Nat) (v0 v1 : Int32) (p0 : ¬ v1 < 0) (p1 : ¬ v1 ≤ 3) : xM l G cy sa sv yX6_near (Cond.code yX6_near cX6_near 3 (some .int) :: XG) { frames := 9, cells := 0, slots := 0, locals := 272 } [.ref h0, .int v0, .int v1] [(h0, .inr (10, [.ref h1, .ref h2, .ref h3, .ref h4, .ref h5, .ref h6, .ref h7, .int 0, .int 0]))] (xQi G (fun f => [(h0, .inr (10, [.ref h1, .ref h2, .ref h3, .ref h4, .ref h5, .ref h6, .ref h7, .int 0, .int 1]))]) 0) := by
  refine xof (by decide) (Nat.le_of_ble_eq_true rfl) (fun p e s m below meth c A C w hr hn ls hl => ?_)
  have hl : lv_has ls 3 [(0, .ref h0), (1, .int v0), (2, .int v1)] := hl
  refine lv_aload_n C.1 C.2.1 dX6_near_0 rfl (lv_at hl 0 rfl) ?_
  refine lv_iload_n C.1 C.2.1 dX6_near_1 rfl (lv_at hl 2 rfl) ?_
  refine x_ki C w [] [0] rfl rfl (by decide) (by decide) (va_runS (As := [.int v1]) (rest := [.ref h0]) (xfix C) (c188_X6_isNoHow l G cy sa sv v1 p0 p1 (xtr C) _) (va_cwS 1 (xhts C) (xgS gw_439 gw_440 gw_58 gc_X6_isNoHow) rfl rfl rfl (by decide +kernel) ⟨(Nat.le_of_ble_eq_true rfl), (Nat.le_of_ble_eq_true rfl)⟩) (xPS C w [] rfl (by decide)) rfl rfl hl.1 rfl (lv_room (Nat.le_of_ble_eq_true rfl)) dX6_near_2 ⟨(Nat.le_of_ble_eq_true rfl), (Nat.le_of_ble_eq_true rfl)⟩) (fun f1070 H locs w => ?_)
  have w : xW G A s [(h0, .inr (10, [.ref h1, .ref h2, .ref h3, .ref h4, .ref h5, .ref h6, .ref h7, .int 0, .int 0]))] H _ := w
  refine lv_iconst (v := 1) C.1 C.2.1 dX6_near_5 (by decide) ?_
  refine x_ki C w [0] [] rfl rfl (by decide) (by decide) (va_runV (As := [.int 1, .int 1]) (rest := []) (xfix C) (c17_X6_start l G cy sa sv h0 h1 h2 h3 h4 h5 h6 h7 (xtr C) _) (cwV 2 (xhts C) (xgV (maxL := 0) (cc := ⟨#[]⟩) (ret := none) gw_114 gw_115 gw_116 gw_58 gc_X6_start) rfl rfl rfl (by decide +kernel) ⟨(Nat.le_of_ble_eq_true rfl), (Nat.le_of_ble_eq_true rfl)⟩) (xPV C w [0] rfl (by decide) (ci := 10) (q0 := 0) rfl rfl) rfl rfl hl.1 rfl (lv_room (Nat.le_of_ble_eq_true rfl)) dX6_near_6 ⟨(Nat.le_of_ble_eq_true rfl), (Nat.le_of_ble_eq_true rfl)⟩) (fun f1071 H locs w => ?_)
  have w : xW G A s [(h0, .inr (10, [.ref h1, .ref h2, .ref h3, .ref h4, .ref h5, .ref h6, .ref h7, .int 0, .int 1]))] H _ := w
  refine lv_if_ne (tgt := 37) C.1 C.2.1 dX6_near_9 (by decide) (fun _ => ?_) (fun c9 => absurd c9 (by decide))
  refine lv_iconst (v := 0) C.1 C.2.1 dX6_near_37 (by decide) ?_
  refine lv_goto (tgt := 52) C.1 C.2.1 dX6_near_38 (by decide) ?_
  exact x_iret C w hr (fun _ => 0) rfl rfl dX6_near_52 (Nat.le_of_ble_eq_true rfl) (Nat.le_of_ble_eq_true rfl)
set_option maxHeartbeats 4000000 in
set_option maxRecDepth 100000 in
theorem c190_X4_nearValue (l : Launch) (G : va_G) (cy : Nat → ClassId) (sa : String → Nat → Nat) (sv : Nat → Nat) (h0 h1 h2 h3 h4 h5 h6 h7 h8 h9 h10 : Nat) (v0 : Int32) : xM l G cy sa sv yX4_nearValue (Cond.code yX4_nearValue cX4_nearValue 4 (some .int) :: XG) { frames := 12, cells := 0, slots := 0, locals := 341 } [.ref h0, .int v0, .int 0] [(h0, .inr (8, [.ref h1, .ref h3, .ref h4, .ref h5, .ref h6, .int 0, .ref h7, .ref h8])), (h1, .inr (7, [.ref h2, .ref h9])), (h2, .inr (6, [.ref h10, .int 0]))] (xQi G (fun f => [(h0, .inr (8, [.ref h1, .ref h3, .ref h4, .ref h5, .ref h6, .int 0, .ref h7, .ref h8])), (h1, .inr (7, [.ref h2, .ref h9])), (h2, .inr (6, [.ref h10, .int 0]))]) (-1000)) := by
  refine xof (by decide) (Nat.le_of_ble_eq_true rfl) (fun p e s m below meth c A C w hr hn ls hl => ?_)
  have hl : lv_has ls 4 [(0, .ref h0), (1, .int v0), (2, .int 0)] := hl
  refine lv_iload_n C.1 C.2.1 dX4_nearValue_0 rfl (lv_at hl 2 rfl) ?_
  refine x_kv C w [] [0, 1, 2] rfl rfl (by decide) (by decide) (va_runS (As := [.int 0]) (rest := []) (xfix C) (c141_X4_checkHow l G cy sa sv (xtr C) _) (va_cwS 1 (xhts C) (xgS gw_416 gw_417 gw_2 gc_X4_checkHow) rfl rfl rfl (by decide +kernel) ⟨(Nat.le_of_ble_eq_true rfl), (Nat.le_of_ble_eq_true rfl)⟩) (xPS C w [] rfl (by decide)) rfl rfl hl.1 rfl (lv_room (Nat.le_of_ble_eq_true rfl)) dX4_nearValue_1 ⟨(Nat.le_of_ble_eq_true rfl), (Nat.le_of_ble_eq_true rfl)⟩) (fun f1074 H locs w => ?_)
  have w : xW G A s [(h0, .inr (8, [.ref h1, .ref h3, .ref h4, .ref h5, .ref h6, .int 0, .ref h7, .ref h8])), (h1, .inr (7, [.ref h2, .ref h9])), (h2, .inr (6, [.ref h10, .int 0]))] H _ := w
  refine lv_aload_n C.1 C.2.1 dX4_nearValue_4 rfl (lv_at hl 0 rfl) ?_
  refine x_get (v := .ref h1) C w 0 8 0 (xin_X4 _) rfl rfl (by decide) (List.mem_cons_of_mem _ gw_24) rfl rfl dX4_nearValue_5 ?_
  refine x_ldc (v := (-2147483648)) C (List.mem_cons_of_mem _ gw_305) dX4_nearValue_8 ?_
  refine x_ldc (v := 2147483647) C (List.mem_cons_of_mem _ gw_306) dX4_nearValue_10 ?_
  refine lv_iload_n C.1 C.2.1 dX4_nearValue_12 rfl (lv_at hl 1 rfl) ?_
  refine lv_iload_n C.1 C.2.1 dX4_nearValue_13 rfl (lv_at hl 2 rfl) ?_
  refine x_ki C w [1, 2] [0] rfl rfl (by decide) (by decide) (va_runV (As := [.int (-2147483648), .int 2147483647, .int v0, .int 0]) (rest := []) (xfix C) (c143_X3_placeNear l G cy sa sv h1 h2 h9 h10 v0 (xtr C) _) (cwV 4 (xhts C) (xgV (maxL := 0) (cc := ⟨#[]⟩) (ret := none) gw_424 gw_425 gw_426 gw_7 gc_X3_placeNear) rfl rfl rfl (by decide +kernel) ⟨(Nat.le_of_ble_eq_true rfl), (Nat.le_of_ble_eq_true rfl)⟩) (xPV C w [1, 2] rfl (by decide) (ci := 7) (q0 := 1) rfl rfl) rfl rfl hl.1 rfl (lv_room (Nat.le_of_ble_eq_true rfl)) dX4_nearValue_14 ⟨(Nat.le_of_ble_eq_true rfl), (Nat.le_of_ble_eq_true rfl)⟩) (fun f1085 H locs w => ?_)
  have w : xW G A s [(h0, .inr (8, [.ref h1, .ref h3, .ref h4, .ref h5, .ref h6, .int 0, .ref h7, .ref h8])), (h1, .inr (7, [.ref h2, .ref h9])), (h2, .inr (6, [.ref h10, .int 0]))] H _ := w
  refine lv_istore_n (lv' := [(3, .int (-1)), (0, .ref h0), (1, .int v0), (2, .int 0)]) C.1 C.2.1 dX4_nearValue_17 rfl hl (by decide) rfl (fun ls hl => ?_)
  refine lv_iload_n C.1 C.2.1 dX4_nearValue_18 rfl (lv_at hl 0 rfl) ?_
  refine lv_iconst (v := (-1)) C.1 C.2.1 dX4_nearValue_19 (by decide) ?_
  refine lv_icmp_ne (tgt := 29) C.1 C.2.1 dX4_nearValue_20 (by decide) (fun c9 => absurd (by decide) c9) (fun _ => ?_)
  refine lv_sipush (v := (-1000)) C.1 C.2.1 dX4_nearValue_23 (by decide) ?_
  refine lv_goto (tgt := 37) C.1 C.2.1 dX4_nearValue_26 (by decide) ?_
  exact x_iret C w hr (fun _ => 0) rfl rfl dX4_nearValue_37 (Nat.le_of_ble_eq_true rfl) (Nat.le_of_ble_eq_true rfl)
set_option maxHeartbeats 4000000 in
set_option maxRecDepth 100000 in
theorem c191_L_nearValue (l : Launch) (G : va_G) (cy : Nat → ClassId) (sa : String → Nat → Nat) (sv : Nat → Nat) (h0 h1 h2 h3 h4 h5 h6 h7 h8 h9 h10 h11 : Nat) (v0 : Int32) : xM l G cy sa sv yL_nearValue (Cond.codeWith yL_nearValue cL_nearValue 5 (some .int) [(0, 11, 14, 19)] :: XG) { frames := 13, cells := 0, slots := 0, locals := 364 } [.ref h0, .int v0, .int 0, .ref h1] [(h0, .inr (8, [.ref h2, .ref h4, .ref h5, .ref h6, .ref h7, .int 0, .ref h8, .ref h9])), (h2, .inr (7, [.ref h3, .ref h10])), (h3, .inr (6, [.ref h11, .int 0])), (h1, .inr (9, [.long 0, .null]))] (xQi G (fun f => [(h0, .inr (8, [.ref h2, .ref h4, .ref h5, .ref h6, .ref h7, .int 0, .ref h8, .ref h9])), (h2, .inr (7, [.ref h3, .ref h10])), (h3, .inr (6, [.ref h11, .int 0])), (h1, .inr (9, [.long (-1000), .null]))]) 0) := by
  refine xofH (by decide) (Nat.le_of_ble_eq_true rfl) (fun p e s m below meth c A C w hr hn hT ls hl => ?_)
  have hl : lv_has ls 5 [(0, .ref h0), (1, .int v0), (2, .int 0), (3, .ref h1)] := hl
  refine lv_aload_n C.1 C.2.1 dL_nearValue_0 rfl (lv_at hl 3 rfl) ?_
  refine lv_aload_n C.1 C.2.1 dL_nearValue_1 rfl (lv_at hl 0 rfl) ?_
  refine lv_iload_n C.1 C.2.1 dL_nearValue_2 rfl (lv_at hl 1 rfl) ?_
  refine lv_iload_n C.1 C.2.1 dL_nearValue_3 rfl (lv_at hl 2 rfl) ?_
  refine x_ki C w [0, 1, 2] [3] rfl rfl (by decide) (by decide) (va_runV (As := [.int v0, .int 0]) (rest := [.ref h1]) (xfix C) (c190_X4_nearValue l G cy sa sv h0 h2 h3 h4 h5 h6 h7 h8 h9 h10 h11 v0 (xtr C) _) (cwV 2 (xhts C) (xgV (maxL := 0) (cc := ⟨#[]⟩) (ret := none) gw_450 gw_451 gw_452 gw_2 gc_X4_nearValue) rfl rfl rfl (by decide +kernel) ⟨(Nat.le_of_ble_eq_true rfl), (Nat.le_of_ble_eq_true rfl)⟩) (xPV C w [0, 1, 2] rfl (by decide) (ci := 8) (q0 := 0) rfl rfl) rfl rfl hl.1 rfl (lv_room (Nat.le_of_ble_eq_true rfl)) dL_nearValue_4 ⟨(Nat.le_of_ble_eq_true rfl), (Nat.le_of_ble_eq_true rfl)⟩) (fun f1086 H locs w => ?_)
  have w : xW G A s [(h1, .inr (9, [.long 0, .null])), (h0, .inr (8, [.ref h2, .ref h4, .ref h5, .ref h6, .ref h7, .int 0, .ref h8, .ref h9])), (h2, .inr (7, [.ref h3, .ref h10])), (h3, .inr (6, [.ref h11, .int 0]))] H _ := w
  refine lv_i2l (v := (-1000)) C.1 C.2.1 dL_nearValue_7 (by decide) ?_
  refine x_putN (ty := .long) (ty0 := tyX5) C w 0 9 0 (xin_X5 _) tyX5_ok nmX5 rfl rfl (by decide) (xs_f_n (xS C)) rfl rfl (by decide +kernel) rfl rfl (Nat.le_of_ble_eq_true rfl) dL_nearValue_8 (fun H locs w => ?_)
  have w : xW G A s [(h1, .inr (9, [.long (-1000), .null])), (h0, .inr (8, [.ref h2, .ref h4, .ref h5, .ref h6, .ref h7, .int 0, .ref h8, .ref h9])), (h2, .inr (7, [.ref h3, .ref h10])), (h3, .inr (6, [.ref h11, .int 0]))] H _ := w
  refine lv_goto (tgt := 18) C.1 C.2.1 dL_nearValue_11 (by decide) ?_
  refine lv_iconst (v := 0) C.1 C.2.1 dL_nearValue_18 (by decide) ?_
  have w := w.sub (ws' := [(h0, .inr (8, [.ref h2, .ref h4, .ref h5, .ref h6, .ref h7, .int 0, .ref h8, .ref h9])), (h2, .inr (7, [.ref h3, .ref h10])), (h3, .inr (6, [.ref h11, .int 0])), (h1, .inr (9, [.long (-1000), .null]))]) [1, 2, 3, 0] (by decide) rfl rfl
  exact x_iret C w hr (fun _ => 0) rfl rfl dL_nearValue_19 (Nat.le_of_ble_eq_true rfl) (Nat.le_of_ble_eq_true rfl)
set_option maxHeartbeats 4000000 in
set_option maxRecDepth 100000 in
theorem c192_X6_nearValue (l : Launch) (G : va_G) (cy : Nat → ClassId) (sa : String → Nat → Nat) (sv : Nat → Nat) (h0 h1 h2 h3 h4 h5 h6 h7 : Nat) (v0 : Int32) : xM l G cy sa sv yX6_nearValue (Cond.code yX6_nearValue cX6_nearValue 4 (some .int) :: XG) { frames := 10, cells := 0, slots := 0, locals := 296 } [.ref h0, .int v0, .int 0] [(h0, .inr (10, [.ref h1, .ref h2, .ref h3, .ref h4, .ref h5, .ref h6, .ref h7, .int 0, .int 0])), (h1, .inr (3, [.int 0, .ref (sv 0), .int 0]))] (xQi G (fun f => [(h0, .inr (10, [.ref h1, .ref h2, .ref h3, .ref h4, .ref h5, .ref h6, .ref h7, .int 0, .int 0])), (h1, .inr (3, [.int 0, .ref (sv 0), .int 0]))]) (-1000)) := by
  refine xof (by decide) (Nat.le_of_ble_eq_true rfl) (fun p e s m below meth c A C w hr hn ls hl => ?_)
  have hl : lv_has ls 4 [(0, .ref h0), (1, .int v0), (2, .int 0)] := hl
  refine lv_aload_n C.1 C.2.1 dX6_nearValue_0 rfl (lv_at hl 0 rfl) ?_
  refine lv_iload_n C.1 C.2.1 dX6_nearValue_1 rfl (lv_at hl 2 rfl) ?_
  refine x_ki C w [] [0, 1] rfl rfl (by decide) (by decide) (va_runS (As := [.int 0]) (rest := [.ref h0]) (xfix C) (c147_X6_isNoHow l G cy sa sv (xtr C) _) (va_cwS 1 (xhts C) (xgS gw_439 gw_440 gw_58 gc_X6_isNoHow) rfl rfl rfl (by decide +kernel) ⟨(Nat.le_of_ble_eq_true rfl), (Nat.le_of_ble_eq_true rfl)⟩) (xPS C w [] rfl (by decide)) rfl rfl hl.1 rfl (lv_room (Nat.le_of_ble_eq_true rfl)) dX6_nearValue_2 ⟨(Nat.le_of_ble_eq_true rfl), (Nat.le_of_ble_eq_true rfl)⟩) (fun f1088 H locs w => ?_)
  have w : xW G A s [(h0, .inr (10, [.ref h1, .ref h2, .ref h3, .ref h4, .ref h5, .ref h6, .ref h7, .int 0, .int 0])), (h1, .inr (3, [.int 0, .ref (sv 0), .int 0]))] H _ := w
  refine lv_iconst (v := 1) C.1 C.2.1 dX6_nearValue_5 (by decide) ?_
  refine x_ki C w [0] [1] rfl rfl (by decide) (by decide) (va_runV (As := [.int 0, .int 1]) (rest := []) (xfix C) (c46_X6_start l G cy sa sv h0 h1 h2 h3 h4 h5 h6 h7 (xtr C) _) (cwV 2 (xhts C) (xgV (maxL := 0) (cc := ⟨#[]⟩) (ret := none) gw_114 gw_115 gw_116 gw_58 gc_X6_start) rfl rfl rfl (by decide +kernel) ⟨(Nat.le_of_ble_eq_true rfl), (Nat.le_of_ble_eq_true rfl)⟩) (xPV C w [0] rfl (by decide) (ci := 10) (q0 := 0) rfl rfl) rfl rfl hl.1 rfl (lv_room (Nat.le_of_ble_eq_true rfl)) dX6_nearValue_6 ⟨(Nat.le_of_ble_eq_true rfl), (Nat.le_of_ble_eq_true rfl)⟩) (fun f1089 H locs w => ?_)
  have w : xW G A s [(h1, .inr (3, [.int 0, .ref (sv 0), .int 0])), (h0, .inr (10, [.ref h1, .ref h2, .ref h3, .ref h4, .ref h5, .ref h6, .ref h7, .int 0, .int 0]))] H _ := w
  refine lv_if_eq (tgt := 14) C.1 C.2.1 dX6_nearValue_9 (by decide) (fun _ => ?_) (fun c9 => absurd (by decide) c9)
  refine lv_aload_n C.1 C.2.1 dX6_nearValue_14 rfl (lv_at hl 0 rfl) ?_
  refine x_get (v := .ref h1) C w 1 10 0 (xin_X6 _) rfl rfl (by decide) (List.mem_cons_of_mem _ gw_78) rfl rfl dX6_nearValue_15 ?_
  refine lv_iload_n C.1 C.2.1 dX6_nearValue_18 rfl (lv_at hl 1 rfl) ?_
  refine lv_iload_n C.1 C.2.1 dX6_nearValue_19 rfl (lv_at hl 2 rfl) ?_
  refine x_kn C w [0] [1] rfl rfl (by decide) (by decide) (va_runS (As := [.ref h1, .int v0, .int 0]) (rest := []) (xfix C) (c148_X6_nearIn l G cy sa sv h1 v0 (xtr C) _) (va_cwS 3 (xhts C) (xgS gw_442 gw_443 gw_58 gc_X6_nearIn) rfl rfl rfl (by decide +kernel) ⟨(Nat.le_of_ble_eq_true rfl), (Nat.le_of_ble_eq_true rfl)⟩) (xPS C w [0] rfl (by decide)) rfl rfl hl.1 rfl (lv_room (Nat.le_of_ble_eq_true rfl)) dX6_nearValue_20 ⟨(Nat.le_of_ble_eq_true rfl), (Nat.le_of_ble_eq_true rfl)⟩) (fun f1091 H locs w => ?_)
  have w : xW G A s [(h0, .inr (10, [.ref h1, .ref h2, .ref h3, .ref h4, .ref h5, .ref h6, .ref h7, .int 0, .int 0])), (h1, .inr (3, [.int 0, .ref (sv 0), .int 0]))] H _ := w
  refine lv_astore_nN (lv' := [(3, .null), (0, .ref h0), (1, .int v0), (2, .int 0)]) C.1 C.2.1 dX6_nearValue_23 rfl hl (by decide) rfl (fun ls hl => ?_)
  refine lv_aload_nN C.1 C.2.1 dX6_nearValue_24 rfl (lv_at hl 0 rfl) ?_
  refine lv_ifnonnullN C.1 C.2.1 dX6_nearValue_25 ?_
  refine lv_sipush (v := (-1000)) C.1 C.2.1 dX6_nearValue_28 (by decide) ?_
  refine lv_goto (tgt := 37) C.1 C.2.1 dX6_nearValue_31 (by decide) ?_
  exact x_iret C w hr (fun _ => 0) rfl rfl dX6_nearValue_37 (Nat.le_of_ble_eq_true rfl) (Nat.le_of_ble_eq_true rfl)
set_option maxHeartbeats 4000000 in
set_option maxRecDepth 100000 in
theorem c193_X4_nearValue (l : Launch) (G : va_G) (cy : Nat → ClassId) (sa : String → Nat → Nat) (sv : Nat → Nat) (h0 h1 h2 h3 h4 h5 h6 h7 h8 h9 h10 : Nat) (v0 : Int32) : xM l G cy sa sv yX4_nearValue (Cond.code yX4_nearValue cX4_nearValue 4 (some .int) :: XG) { frames := 12, cells := 0, slots := 0, locals := 341 } [.ref h0, .int v0, .int 1] [(h0, .inr (8, [.ref h1, .ref h3, .ref h4, .ref h5, .ref h6, .int 0, .ref h7, .ref h8])), (h1, .inr (7, [.ref h2, .ref h9])), (h2, .inr (6, [.ref h10, .int 0]))] (xQi G (fun f => [(h0, .inr (8, [.ref h1, .ref h3, .ref h4, .ref h5, .ref h6, .int 0, .ref h7, .ref h8])), (h1, .inr (7, [.ref h2, .ref h9])), (h2, .inr (6, [.ref h10, .int 0]))]) (-1000)) := by
  refine xof (by decide) (Nat.le_of_ble_eq_true rfl) (fun p e s m below meth c A C w hr hn ls hl => ?_)
  have hl : lv_has ls 4 [(0, .ref h0), (1, .int v0), (2, .int 1)] := hl
  refine lv_iload_n C.1 C.2.1 dX4_nearValue_0 rfl (lv_at hl 2 rfl) ?_
  refine x_kv C w [] [0, 1, 2] rfl rfl (by decide) (by decide) (va_runS (As := [.int 1]) (rest := []) (xfix C) (c152_X4_checkHow l G cy sa sv (xtr C) _) (va_cwS 1 (xhts C) (xgS gw_416 gw_417 gw_2 gc_X4_checkHow) rfl rfl rfl (by decide +kernel) ⟨(Nat.le_of_ble_eq_true rfl), (Nat.le_of_ble_eq_true rfl)⟩) (xPS C w [] rfl (by decide)) rfl rfl hl.1 rfl (lv_room (Nat.le_of_ble_eq_true rfl)) dX4_nearValue_1 ⟨(Nat.le_of_ble_eq_true rfl), (Nat.le_of_ble_eq_true rfl)⟩) (fun f1094 H locs w => ?_)
  have w : xW G A s [(h0, .inr (8, [.ref h1, .ref h3, .ref h4, .ref h5, .ref h6, .int 0, .ref h7, .ref h8])), (h1, .inr (7, [.ref h2, .ref h9])), (h2, .inr (6, [.ref h10, .int 0]))] H _ := w
  refine lv_aload_n C.1 C.2.1 dX4_nearValue_4 rfl (lv_at hl 0 rfl) ?_
  refine x_get (v := .ref h1) C w 0 8 0 (xin_X4 _) rfl rfl (by decide) (List.mem_cons_of_mem _ gw_24) rfl rfl dX4_nearValue_5 ?_
  refine x_ldc (v := (-2147483648)) C (List.mem_cons_of_mem _ gw_305) dX4_nearValue_8 ?_
  refine x_ldc (v := 2147483647) C (List.mem_cons_of_mem _ gw_306) dX4_nearValue_10 ?_
  refine lv_iload_n C.1 C.2.1 dX4_nearValue_12 rfl (lv_at hl 1 rfl) ?_
  refine lv_iload_n C.1 C.2.1 dX4_nearValue_13 rfl (lv_at hl 2 rfl) ?_
  refine x_ki C w [1, 2] [0] rfl rfl (by decide) (by decide) (va_runV (As := [.int (-2147483648), .int 2147483647, .int v0, .int 1]) (rest := []) (xfix C) (c154_X3_placeNear l G cy sa sv h1 h2 h9 h10 v0 (xtr C) _) (cwV 4 (xhts C) (xgV (maxL := 0) (cc := ⟨#[]⟩) (ret := none) gw_424 gw_425 gw_426 gw_7 gc_X3_placeNear) rfl rfl rfl (by decide +kernel) ⟨(Nat.le_of_ble_eq_true rfl), (Nat.le_of_ble_eq_true rfl)⟩) (xPV C w [1, 2] rfl (by decide) (ci := 7) (q0 := 1) rfl rfl) rfl rfl hl.1 rfl (lv_room (Nat.le_of_ble_eq_true rfl)) dX4_nearValue_14 ⟨(Nat.le_of_ble_eq_true rfl), (Nat.le_of_ble_eq_true rfl)⟩) (fun f1108 H locs w => ?_)
  have w : xW G A s [(h0, .inr (8, [.ref h1, .ref h3, .ref h4, .ref h5, .ref h6, .int 0, .ref h7, .ref h8])), (h1, .inr (7, [.ref h2, .ref h9])), (h2, .inr (6, [.ref h10, .int 0]))] H _ := w
  refine lv_istore_n (lv' := [(3, .int (-1)), (0, .ref h0), (1, .int v0), (2, .int 1)]) C.1 C.2.1 dX4_nearValue_17 rfl hl (by decide) rfl (fun ls hl => ?_)
  refine lv_iload_n C.1 C.2.1 dX4_nearValue_18 rfl (lv_at hl 0 rfl) ?_
  refine lv_iconst (v := (-1)) C.1 C.2.1 dX4_nearValue_19 (by decide) ?_
  refine lv_icmp_ne (tgt := 29) C.1 C.2.1 dX4_nearValue_20 (by decide) (fun c9 => absurd (by decide) c9) (fun _ => ?_)
  refine lv_sipush (v := (-1000)) C.1 C.2.1 dX4_nearValue_23 (by decide) ?_
  refine lv_goto (tgt := 37) C.1 C.2.1 dX4_nearValue_26 (by decide) ?_
  exact x_iret C w hr (fun _ => 0) rfl rfl dX4_nearValue_37 (Nat.le_of_ble_eq_true rfl) (Nat.le_of_ble_eq_true rfl)
set_option maxHeartbeats 4000000 in
set_option maxRecDepth 100000 in
theorem c194_L_nearValue (l : Launch) (G : va_G) (cy : Nat → ClassId) (sa : String → Nat → Nat) (sv : Nat → Nat) (h0 h1 h2 h3 h4 h5 h6 h7 h8 h9 h10 h11 : Nat) (v0 : Int32) : xM l G cy sa sv yL_nearValue (Cond.codeWith yL_nearValue cL_nearValue 5 (some .int) [(0, 11, 14, 19)] :: XG) { frames := 13, cells := 0, slots := 0, locals := 364 } [.ref h0, .int v0, .int 1, .ref h1] [(h0, .inr (8, [.ref h2, .ref h4, .ref h5, .ref h6, .ref h7, .int 0, .ref h8, .ref h9])), (h2, .inr (7, [.ref h3, .ref h10])), (h3, .inr (6, [.ref h11, .int 0])), (h1, .inr (9, [.long 0, .null]))] (xQi G (fun f => [(h0, .inr (8, [.ref h2, .ref h4, .ref h5, .ref h6, .ref h7, .int 0, .ref h8, .ref h9])), (h2, .inr (7, [.ref h3, .ref h10])), (h3, .inr (6, [.ref h11, .int 0])), (h1, .inr (9, [.long (-1000), .null]))]) 0) := by
  refine xofH (by decide) (Nat.le_of_ble_eq_true rfl) (fun p e s m below meth c A C w hr hn hT ls hl => ?_)
  have hl : lv_has ls 5 [(0, .ref h0), (1, .int v0), (2, .int 1), (3, .ref h1)] := hl
  refine lv_aload_n C.1 C.2.1 dL_nearValue_0 rfl (lv_at hl 3 rfl) ?_
  refine lv_aload_n C.1 C.2.1 dL_nearValue_1 rfl (lv_at hl 0 rfl) ?_
  refine lv_iload_n C.1 C.2.1 dL_nearValue_2 rfl (lv_at hl 1 rfl) ?_
  refine lv_iload_n C.1 C.2.1 dL_nearValue_3 rfl (lv_at hl 2 rfl) ?_
  refine x_ki C w [0, 1, 2] [3] rfl rfl (by decide) (by decide) (va_runV (As := [.int v0, .int 1]) (rest := [.ref h1]) (xfix C) (c193_X4_nearValue l G cy sa sv h0 h2 h3 h4 h5 h6 h7 h8 h9 h10 h11 v0 (xtr C) _) (cwV 2 (xhts C) (xgV (maxL := 0) (cc := ⟨#[]⟩) (ret := none) gw_450 gw_451 gw_452 gw_2 gc_X4_nearValue) rfl rfl rfl (by decide +kernel) ⟨(Nat.le_of_ble_eq_true rfl), (Nat.le_of_ble_eq_true rfl)⟩) (xPV C w [0, 1, 2] rfl (by decide) (ci := 8) (q0 := 0) rfl rfl) rfl rfl hl.1 rfl (lv_room (Nat.le_of_ble_eq_true rfl)) dL_nearValue_4 ⟨(Nat.le_of_ble_eq_true rfl), (Nat.le_of_ble_eq_true rfl)⟩) (fun f1109 H locs w => ?_)
  have w : xW G A s [(h1, .inr (9, [.long 0, .null])), (h0, .inr (8, [.ref h2, .ref h4, .ref h5, .ref h6, .ref h7, .int 0, .ref h8, .ref h9])), (h2, .inr (7, [.ref h3, .ref h10])), (h3, .inr (6, [.ref h11, .int 0]))] H _ := w
  refine lv_i2l (v := (-1000)) C.1 C.2.1 dL_nearValue_7 (by decide) ?_
  refine x_putN (ty := .long) (ty0 := tyX5) C w 0 9 0 (xin_X5 _) tyX5_ok nmX5 rfl rfl (by decide) (xs_f_n (xS C)) rfl rfl (by decide +kernel) rfl rfl (Nat.le_of_ble_eq_true rfl) dL_nearValue_8 (fun H locs w => ?_)
  have w : xW G A s [(h1, .inr (9, [.long (-1000), .null])), (h0, .inr (8, [.ref h2, .ref h4, .ref h5, .ref h6, .ref h7, .int 0, .ref h8, .ref h9])), (h2, .inr (7, [.ref h3, .ref h10])), (h3, .inr (6, [.ref h11, .int 0]))] H _ := w
  refine lv_goto (tgt := 18) C.1 C.2.1 dL_nearValue_11 (by decide) ?_
  refine lv_iconst (v := 0) C.1 C.2.1 dL_nearValue_18 (by decide) ?_
  have w := w.sub (ws' := [(h0, .inr (8, [.ref h2, .ref h4, .ref h5, .ref h6, .ref h7, .int 0, .ref h8, .ref h9])), (h2, .inr (7, [.ref h3, .ref h10])), (h3, .inr (6, [.ref h11, .int 0])), (h1, .inr (9, [.long (-1000), .null]))]) [1, 2, 3, 0] (by decide) rfl rfl
  exact x_iret C w hr (fun _ => 0) rfl rfl dL_nearValue_19 (Nat.le_of_ble_eq_true rfl) (Nat.le_of_ble_eq_true rfl)
set_option maxHeartbeats 4000000 in
set_option maxRecDepth 100000 in
theorem c195_X6_nearValue (l : Launch) (G : va_G) (cy : Nat → ClassId) (sa : String → Nat → Nat) (sv : Nat → Nat) (h0 h1 h2 h3 h4 h5 h6 h7 : Nat) (v0 : Int32) : xM l G cy sa sv yX6_nearValue (Cond.code yX6_nearValue cX6_nearValue 4 (some .int) :: XG) { frames := 10, cells := 0, slots := 0, locals := 296 } [.ref h0, .int v0, .int 1] [(h0, .inr (10, [.ref h1, .ref h2, .ref h3, .ref h4, .ref h5, .ref h6, .ref h7, .int 0, .int 0])), (h1, .inr (3, [.int 0, .ref (sv 0), .int 0]))] (xQi G (fun f => [(h0, .inr (10, [.ref h1, .ref h2, .ref h3, .ref h4, .ref h5, .ref h6, .ref h7, .int 0, .int 0])), (h1, .inr (3, [.int 0, .ref (sv 0), .int 0]))]) (-1000)) := by
  refine xof (by decide) (Nat.le_of_ble_eq_true rfl) (fun p e s m below meth c A C w hr hn ls hl => ?_)
  have hl : lv_has ls 4 [(0, .ref h0), (1, .int v0), (2, .int 1)] := hl
  refine lv_aload_n C.1 C.2.1 dX6_nearValue_0 rfl (lv_at hl 0 rfl) ?_
  refine lv_iload_n C.1 C.2.1 dX6_nearValue_1 rfl (lv_at hl 2 rfl) ?_
  refine x_ki C w [] [0, 1] rfl rfl (by decide) (by decide) (va_runS (As := [.int 1]) (rest := [.ref h0]) (xfix C) (c158_X6_isNoHow l G cy sa sv (xtr C) _) (va_cwS 1 (xhts C) (xgS gw_439 gw_440 gw_58 gc_X6_isNoHow) rfl rfl rfl (by decide +kernel) ⟨(Nat.le_of_ble_eq_true rfl), (Nat.le_of_ble_eq_true rfl)⟩) (xPS C w [] rfl (by decide)) rfl rfl hl.1 rfl (lv_room (Nat.le_of_ble_eq_true rfl)) dX6_nearValue_2 ⟨(Nat.le_of_ble_eq_true rfl), (Nat.le_of_ble_eq_true rfl)⟩) (fun f1111 H locs w => ?_)
  have w : xW G A s [(h0, .inr (10, [.ref h1, .ref h2, .ref h3, .ref h4, .ref h5, .ref h6, .ref h7, .int 0, .int 0])), (h1, .inr (3, [.int 0, .ref (sv 0), .int 0]))] H _ := w
  refine lv_iconst (v := 1) C.1 C.2.1 dX6_nearValue_5 (by decide) ?_
  refine x_ki C w [0] [1] rfl rfl (by decide) (by decide) (va_runV (As := [.int 0, .int 1]) (rest := []) (xfix C) (c46_X6_start l G cy sa sv h0 h1 h2 h3 h4 h5 h6 h7 (xtr C) _) (cwV 2 (xhts C) (xgV (maxL := 0) (cc := ⟨#[]⟩) (ret := none) gw_114 gw_115 gw_116 gw_58 gc_X6_start) rfl rfl rfl (by decide +kernel) ⟨(Nat.le_of_ble_eq_true rfl), (Nat.le_of_ble_eq_true rfl)⟩) (xPV C w [0] rfl (by decide) (ci := 10) (q0 := 0) rfl rfl) rfl rfl hl.1 rfl (lv_room (Nat.le_of_ble_eq_true rfl)) dX6_nearValue_6 ⟨(Nat.le_of_ble_eq_true rfl), (Nat.le_of_ble_eq_true rfl)⟩) (fun f1112 H locs w => ?_)
  have w : xW G A s [(h1, .inr (3, [.int 0, .ref (sv 0), .int 0])), (h0, .inr (10, [.ref h1, .ref h2, .ref h3, .ref h4, .ref h5, .ref h6, .ref h7, .int 0, .int 0]))] H _ := w
  refine lv_if_eq (tgt := 14) C.1 C.2.1 dX6_nearValue_9 (by decide) (fun _ => ?_) (fun c9 => absurd (by decide) c9)
  refine lv_aload_n C.1 C.2.1 dX6_nearValue_14 rfl (lv_at hl 0 rfl) ?_
  refine x_get (v := .ref h1) C w 1 10 0 (xin_X6 _) rfl rfl (by decide) (List.mem_cons_of_mem _ gw_78) rfl rfl dX6_nearValue_15 ?_
  refine lv_iload_n C.1 C.2.1 dX6_nearValue_18 rfl (lv_at hl 1 rfl) ?_
  refine lv_iload_n C.1 C.2.1 dX6_nearValue_19 rfl (lv_at hl 2 rfl) ?_
  refine x_kn C w [0] [1] rfl rfl (by decide) (by decide) (va_runS (As := [.ref h1, .int v0, .int 1]) (rest := []) (xfix C) (c159_X6_nearIn l G cy sa sv h1 v0 (xtr C) _) (va_cwS 3 (xhts C) (xgS gw_442 gw_443 gw_58 gc_X6_nearIn) rfl rfl rfl (by decide +kernel) ⟨(Nat.le_of_ble_eq_true rfl), (Nat.le_of_ble_eq_true rfl)⟩) (xPS C w [0] rfl (by decide)) rfl rfl hl.1 rfl (lv_room (Nat.le_of_ble_eq_true rfl)) dX6_nearValue_20 ⟨(Nat.le_of_ble_eq_true rfl), (Nat.le_of_ble_eq_true rfl)⟩) (fun f1114 H locs w => ?_)
  have w : xW G A s [(h0, .inr (10, [.ref h1, .ref h2, .ref h3, .ref h4, .ref h5, .ref h6, .ref h7, .int 0, .int 0])), (h1, .inr (3, [.int 0, .ref (sv 0), .int 0]))] H _ := w
  refine lv_astore_nN (lv' := [(3, .null), (0, .ref h0), (1, .int v0), (2, .int 1)]) C.1 C.2.1 dX6_nearValue_23 rfl hl (by decide) rfl (fun ls hl => ?_)
  refine lv_aload_nN C.1 C.2.1 dX6_nearValue_24 rfl (lv_at hl 0 rfl) ?_
  refine lv_ifnonnullN C.1 C.2.1 dX6_nearValue_25 ?_
  refine lv_sipush (v := (-1000)) C.1 C.2.1 dX6_nearValue_28 (by decide) ?_
  refine lv_goto (tgt := 37) C.1 C.2.1 dX6_nearValue_31 (by decide) ?_
  exact x_iret C w hr (fun _ => 0) rfl rfl dX6_nearValue_37 (Nat.le_of_ble_eq_true rfl) (Nat.le_of_ble_eq_true rfl)
set_option maxHeartbeats 4000000 in
set_option maxRecDepth 100000 in
theorem c196_X4_nearValue (l : Launch) (G : va_G) (cy : Nat → ClassId) (sa : String → Nat → Nat) (sv : Nat → Nat) (h0 h1 h2 h3 h4 h5 h6 h7 h8 h9 h10 : Nat) (v0 : Int32) : xM l G cy sa sv yX4_nearValue (Cond.code yX4_nearValue cX4_nearValue 4 (some .int) :: XG) { frames := 12, cells := 0, slots := 0, locals := 341 } [.ref h0, .int v0, .int 2] [(h0, .inr (8, [.ref h1, .ref h3, .ref h4, .ref h5, .ref h6, .int 0, .ref h7, .ref h8])), (h1, .inr (7, [.ref h2, .ref h9])), (h2, .inr (6, [.ref h10, .int 0]))] (xQi G (fun f => [(h0, .inr (8, [.ref h1, .ref h3, .ref h4, .ref h5, .ref h6, .int 0, .ref h7, .ref h8])), (h1, .inr (7, [.ref h2, .ref h9])), (h2, .inr (6, [.ref h10, .int 0]))]) (-1000)) := by
  refine xof (by decide) (Nat.le_of_ble_eq_true rfl) (fun p e s m below meth c A C w hr hn ls hl => ?_)
  have hl : lv_has ls 4 [(0, .ref h0), (1, .int v0), (2, .int 2)] := hl
  refine lv_iload_n C.1 C.2.1 dX4_nearValue_0 rfl (lv_at hl 2 rfl) ?_
  refine x_kv C w [] [0, 1, 2] rfl rfl (by decide) (by decide) (va_runS (As := [.int 2]) (rest := []) (xfix C) (c161_X4_checkHow l G cy sa sv (xtr C) _) (va_cwS 1 (xhts C) (xgS gw_416 gw_417 gw_2 gc_X4_checkHow) rfl rfl rfl (by decide +kernel) ⟨(Nat.le_of_ble_eq_true rfl), (Nat.le_of_ble_eq_true rfl)⟩) (xPS C w [] rfl (by decide)) rfl rfl hl.1 rfl (lv_room (Nat.le_of_ble_eq_true rfl)) dX4_nearValue_1 ⟨(Nat.le_of_ble_eq_true rfl), (Nat.le_of_ble_eq_true rfl)⟩) (fun f1117 H locs w => ?_)
  have w : xW G A s [(h0, .inr (8, [.ref h1, .ref h3, .ref h4, .ref h5, .ref h6, .int 0, .ref h7, .ref h8])), (h1, .inr (7, [.ref h2, .ref h9])), (h2, .inr (6, [.ref h10, .int 0]))] H _ := w
  refine lv_aload_n C.1 C.2.1 dX4_nearValue_4 rfl (lv_at hl 0 rfl) ?_
  refine x_get (v := .ref h1) C w 0 8 0 (xin_X4 _) rfl rfl (by decide) (List.mem_cons_of_mem _ gw_24) rfl rfl dX4_nearValue_5 ?_
  refine x_ldc (v := (-2147483648)) C (List.mem_cons_of_mem _ gw_305) dX4_nearValue_8 ?_
  refine x_ldc (v := 2147483647) C (List.mem_cons_of_mem _ gw_306) dX4_nearValue_10 ?_
  refine lv_iload_n C.1 C.2.1 dX4_nearValue_12 rfl (lv_at hl 1 rfl) ?_
  refine lv_iload_n C.1 C.2.1 dX4_nearValue_13 rfl (lv_at hl 2 rfl) ?_
  refine x_ki C w [1, 2] [0] rfl rfl (by decide) (by decide) (va_runV (As := [.int (-2147483648), .int 2147483647, .int v0, .int 2]) (rest := []) (xfix C) (c163_X3_placeNear l G cy sa sv h1 h2 h9 h10 v0 (xtr C) _) (cwV 4 (xhts C) (xgV (maxL := 0) (cc := ⟨#[]⟩) (ret := none) gw_424 gw_425 gw_426 gw_7 gc_X3_placeNear) rfl rfl rfl (by decide +kernel) ⟨(Nat.le_of_ble_eq_true rfl), (Nat.le_of_ble_eq_true rfl)⟩) (xPV C w [1, 2] rfl (by decide) (ci := 7) (q0 := 1) rfl rfl) rfl rfl hl.1 rfl (lv_room (Nat.le_of_ble_eq_true rfl)) dX4_nearValue_14 ⟨(Nat.le_of_ble_eq_true rfl), (Nat.le_of_ble_eq_true rfl)⟩) (fun f1128 H locs w => ?_)
  have w : xW G A s [(h0, .inr (8, [.ref h1, .ref h3, .ref h4, .ref h5, .ref h6, .int 0, .ref h7, .ref h8])), (h1, .inr (7, [.ref h2, .ref h9])), (h2, .inr (6, [.ref h10, .int 0]))] H _ := w
  refine lv_istore_n (lv' := [(3, .int (-1)), (0, .ref h0), (1, .int v0), (2, .int 2)]) C.1 C.2.1 dX4_nearValue_17 rfl hl (by decide) rfl (fun ls hl => ?_)
  refine lv_iload_n C.1 C.2.1 dX4_nearValue_18 rfl (lv_at hl 0 rfl) ?_
  refine lv_iconst (v := (-1)) C.1 C.2.1 dX4_nearValue_19 (by decide) ?_
  refine lv_icmp_ne (tgt := 29) C.1 C.2.1 dX4_nearValue_20 (by decide) (fun c9 => absurd (by decide) c9) (fun _ => ?_)
  refine lv_sipush (v := (-1000)) C.1 C.2.1 dX4_nearValue_23 (by decide) ?_
  refine lv_goto (tgt := 37) C.1 C.2.1 dX4_nearValue_26 (by decide) ?_
  exact x_iret C w hr (fun _ => 0) rfl rfl dX4_nearValue_37 (Nat.le_of_ble_eq_true rfl) (Nat.le_of_ble_eq_true rfl)
set_option maxHeartbeats 4000000 in
set_option maxRecDepth 100000 in
theorem c197_L_nearValue (l : Launch) (G : va_G) (cy : Nat → ClassId) (sa : String → Nat → Nat) (sv : Nat → Nat) (h0 h1 h2 h3 h4 h5 h6 h7 h8 h9 h10 h11 : Nat) (v0 : Int32) : xM l G cy sa sv yL_nearValue (Cond.codeWith yL_nearValue cL_nearValue 5 (some .int) [(0, 11, 14, 19)] :: XG) { frames := 13, cells := 0, slots := 0, locals := 364 } [.ref h0, .int v0, .int 2, .ref h1] [(h0, .inr (8, [.ref h2, .ref h4, .ref h5, .ref h6, .ref h7, .int 0, .ref h8, .ref h9])), (h2, .inr (7, [.ref h3, .ref h10])), (h3, .inr (6, [.ref h11, .int 0])), (h1, .inr (9, [.long 0, .null]))] (xQi G (fun f => [(h0, .inr (8, [.ref h2, .ref h4, .ref h5, .ref h6, .ref h7, .int 0, .ref h8, .ref h9])), (h2, .inr (7, [.ref h3, .ref h10])), (h3, .inr (6, [.ref h11, .int 0])), (h1, .inr (9, [.long (-1000), .null]))]) 0) := by
  refine xofH (by decide) (Nat.le_of_ble_eq_true rfl) (fun p e s m below meth c A C w hr hn hT ls hl => ?_)
  have hl : lv_has ls 5 [(0, .ref h0), (1, .int v0), (2, .int 2), (3, .ref h1)] := hl
  refine lv_aload_n C.1 C.2.1 dL_nearValue_0 rfl (lv_at hl 3 rfl) ?_
  refine lv_aload_n C.1 C.2.1 dL_nearValue_1 rfl (lv_at hl 0 rfl) ?_
  refine lv_iload_n C.1 C.2.1 dL_nearValue_2 rfl (lv_at hl 1 rfl) ?_
  refine lv_iload_n C.1 C.2.1 dL_nearValue_3 rfl (lv_at hl 2 rfl) ?_
  refine x_ki C w [0, 1, 2] [3] rfl rfl (by decide) (by decide) (va_runV (As := [.int v0, .int 2]) (rest := [.ref h1]) (xfix C) (c196_X4_nearValue l G cy sa sv h0 h2 h3 h4 h5 h6 h7 h8 h9 h10 h11 v0 (xtr C) _) (cwV 2 (xhts C) (xgV (maxL := 0) (cc := ⟨#[]⟩) (ret := none) gw_450 gw_451 gw_452 gw_2 gc_X4_nearValue) rfl rfl rfl (by decide +kernel) ⟨(Nat.le_of_ble_eq_true rfl), (Nat.le_of_ble_eq_true rfl)⟩) (xPV C w [0, 1, 2] rfl (by decide) (ci := 8) (q0 := 0) rfl rfl) rfl rfl hl.1 rfl (lv_room (Nat.le_of_ble_eq_true rfl)) dL_nearValue_4 ⟨(Nat.le_of_ble_eq_true rfl), (Nat.le_of_ble_eq_true rfl)⟩) (fun f1129 H locs w => ?_)
  have w : xW G A s [(h1, .inr (9, [.long 0, .null])), (h0, .inr (8, [.ref h2, .ref h4, .ref h5, .ref h6, .ref h7, .int 0, .ref h8, .ref h9])), (h2, .inr (7, [.ref h3, .ref h10])), (h3, .inr (6, [.ref h11, .int 0]))] H _ := w
  refine lv_i2l (v := (-1000)) C.1 C.2.1 dL_nearValue_7 (by decide) ?_
  refine x_putN (ty := .long) (ty0 := tyX5) C w 0 9 0 (xin_X5 _) tyX5_ok nmX5 rfl rfl (by decide) (xs_f_n (xS C)) rfl rfl (by decide +kernel) rfl rfl (Nat.le_of_ble_eq_true rfl) dL_nearValue_8 (fun H locs w => ?_)
  have w : xW G A s [(h1, .inr (9, [.long (-1000), .null])), (h0, .inr (8, [.ref h2, .ref h4, .ref h5, .ref h6, .ref h7, .int 0, .ref h8, .ref h9])), (h2, .inr (7, [.ref h3, .ref h10])), (h3, .inr (6, [.ref h11, .int 0]))] H _ := w
  refine lv_goto (tgt := 18) C.1 C.2.1 dL_nearValue_11 (by decide) ?_
  refine lv_iconst (v := 0) C.1 C.2.1 dL_nearValue_18 (by decide) ?_
  have w := w.sub (ws' := [(h0, .inr (8, [.ref h2, .ref h4, .ref h5, .ref h6, .ref h7, .int 0, .ref h8, .ref h9])), (h2, .inr (7, [.ref h3, .ref h10])), (h3, .inr (6, [.ref h11, .int 0])), (h1, .inr (9, [.long (-1000), .null]))]) [1, 2, 3, 0] (by decide) rfl rfl
  exact x_iret C w hr (fun _ => 0) rfl rfl dL_nearValue_19 (Nat.le_of_ble_eq_true rfl) (Nat.le_of_ble_eq_true rfl)
set_option maxHeartbeats 4000000 in
set_option maxRecDepth 100000 in
theorem c198_X6_nearValue (l : Launch) (G : va_G) (cy : Nat → ClassId) (sa : String → Nat → Nat) (sv : Nat → Nat) (h0 h1 h2 h3 h4 h5 h6 h7 : Nat) (v0 : Int32) : xM l G cy sa sv yX6_nearValue (Cond.code yX6_nearValue cX6_nearValue 4 (some .int) :: XG) { frames := 10, cells := 0, slots := 0, locals := 296 } [.ref h0, .int v0, .int 2] [(h0, .inr (10, [.ref h1, .ref h2, .ref h3, .ref h4, .ref h5, .ref h6, .ref h7, .int 0, .int 0])), (h1, .inr (3, [.int 0, .ref (sv 0), .int 0]))] (xQi G (fun f => [(h0, .inr (10, [.ref h1, .ref h2, .ref h3, .ref h4, .ref h5, .ref h6, .ref h7, .int 0, .int 0])), (h1, .inr (3, [.int 0, .ref (sv 0), .int 0]))]) (-1000)) := by
  refine xof (by decide) (Nat.le_of_ble_eq_true rfl) (fun p e s m below meth c A C w hr hn ls hl => ?_)
  have hl : lv_has ls 4 [(0, .ref h0), (1, .int v0), (2, .int 2)] := hl
  refine lv_aload_n C.1 C.2.1 dX6_nearValue_0 rfl (lv_at hl 0 rfl) ?_
  refine lv_iload_n C.1 C.2.1 dX6_nearValue_1 rfl (lv_at hl 2 rfl) ?_
  refine x_ki C w [] [0, 1] rfl rfl (by decide) (by decide) (va_runS (As := [.int 2]) (rest := [.ref h0]) (xfix C) (c167_X6_isNoHow l G cy sa sv (xtr C) _) (va_cwS 1 (xhts C) (xgS gw_439 gw_440 gw_58 gc_X6_isNoHow) rfl rfl rfl (by decide +kernel) ⟨(Nat.le_of_ble_eq_true rfl), (Nat.le_of_ble_eq_true rfl)⟩) (xPS C w [] rfl (by decide)) rfl rfl hl.1 rfl (lv_room (Nat.le_of_ble_eq_true rfl)) dX6_nearValue_2 ⟨(Nat.le_of_ble_eq_true rfl), (Nat.le_of_ble_eq_true rfl)⟩) (fun f1131 H locs w => ?_)
  have w : xW G A s [(h0, .inr (10, [.ref h1, .ref h2, .ref h3, .ref h4, .ref h5, .ref h6, .ref h7, .int 0, .int 0])), (h1, .inr (3, [.int 0, .ref (sv 0), .int 0]))] H _ := w
  refine lv_iconst (v := 1) C.1 C.2.1 dX6_nearValue_5 (by decide) ?_
  refine x_ki C w [0] [1] rfl rfl (by decide) (by decide) (va_runV (As := [.int 0, .int 1]) (rest := []) (xfix C) (c46_X6_start l G cy sa sv h0 h1 h2 h3 h4 h5 h6 h7 (xtr C) _) (cwV 2 (xhts C) (xgV (maxL := 0) (cc := ⟨#[]⟩) (ret := none) gw_114 gw_115 gw_116 gw_58 gc_X6_start) rfl rfl rfl (by decide +kernel) ⟨(Nat.le_of_ble_eq_true rfl), (Nat.le_of_ble_eq_true rfl)⟩) (xPV C w [0] rfl (by decide) (ci := 10) (q0 := 0) rfl rfl) rfl rfl hl.1 rfl (lv_room (Nat.le_of_ble_eq_true rfl)) dX6_nearValue_6 ⟨(Nat.le_of_ble_eq_true rfl), (Nat.le_of_ble_eq_true rfl)⟩) (fun f1132 H locs w => ?_)
  have w : xW G A s [(h1, .inr (3, [.int 0, .ref (sv 0), .int 0])), (h0, .inr (10, [.ref h1, .ref h2, .ref h3, .ref h4, .ref h5, .ref h6, .ref h7, .int 0, .int 0]))] H _ := w
  refine lv_if_eq (tgt := 14) C.1 C.2.1 dX6_nearValue_9 (by decide) (fun _ => ?_) (fun c9 => absurd (by decide) c9)
  refine lv_aload_n C.1 C.2.1 dX6_nearValue_14 rfl (lv_at hl 0 rfl) ?_
  refine x_get (v := .ref h1) C w 1 10 0 (xin_X6 _) rfl rfl (by decide) (List.mem_cons_of_mem _ gw_78) rfl rfl dX6_nearValue_15 ?_
  refine lv_iload_n C.1 C.2.1 dX6_nearValue_18 rfl (lv_at hl 1 rfl) ?_
  refine lv_iload_n C.1 C.2.1 dX6_nearValue_19 rfl (lv_at hl 2 rfl) ?_
  refine x_kn C w [0] [1] rfl rfl (by decide) (by decide) (va_runS (As := [.ref h1, .int v0, .int 2]) (rest := []) (xfix C) (c168_X6_nearIn l G cy sa sv h1 v0 (xtr C) _) (va_cwS 3 (xhts C) (xgS gw_442 gw_443 gw_58 gc_X6_nearIn) rfl rfl rfl (by decide +kernel) ⟨(Nat.le_of_ble_eq_true rfl), (Nat.le_of_ble_eq_true rfl)⟩) (xPS C w [0] rfl (by decide)) rfl rfl hl.1 rfl (lv_room (Nat.le_of_ble_eq_true rfl)) dX6_nearValue_20 ⟨(Nat.le_of_ble_eq_true rfl), (Nat.le_of_ble_eq_true rfl)⟩) (fun f1134 H locs w => ?_)
  have w : xW G A s [(h0, .inr (10, [.ref h1, .ref h2, .ref h3, .ref h4, .ref h5, .ref h6, .ref h7, .int 0, .int 0])), (h1, .inr (3, [.int 0, .ref (sv 0), .int 0]))] H _ := w
  refine lv_astore_nN (lv' := [(3, .null), (0, .ref h0), (1, .int v0), (2, .int 2)]) C.1 C.2.1 dX6_nearValue_23 rfl hl (by decide) rfl (fun ls hl => ?_)
  refine lv_aload_nN C.1 C.2.1 dX6_nearValue_24 rfl (lv_at hl 0 rfl) ?_
  refine lv_ifnonnullN C.1 C.2.1 dX6_nearValue_25 ?_
  refine lv_sipush (v := (-1000)) C.1 C.2.1 dX6_nearValue_28 (by decide) ?_
  refine lv_goto (tgt := 37) C.1 C.2.1 dX6_nearValue_31 (by decide) ?_
  exact x_iret C w hr (fun _ => 0) rfl rfl dX6_nearValue_37 (Nat.le_of_ble_eq_true rfl) (Nat.le_of_ble_eq_true rfl)
set_option maxHeartbeats 4000000 in
set_option maxRecDepth 100000 in
theorem c199_X4_nearValue (l : Launch) (G : va_G) (cy : Nat → ClassId) (sa : String → Nat → Nat) (sv : Nat → Nat) (h0 h1 h2 h3 h4 h5 h6 h7 h8 h9 h10 : Nat) (v0 : Int32) : xM l G cy sa sv yX4_nearValue (Cond.code yX4_nearValue cX4_nearValue 4 (some .int) :: XG) { frames := 12, cells := 0, slots := 0, locals := 341 } [.ref h0, .int v0, .int 3] [(h0, .inr (8, [.ref h1, .ref h3, .ref h4, .ref h5, .ref h6, .int 0, .ref h7, .ref h8])), (h1, .inr (7, [.ref h2, .ref h9])), (h2, .inr (6, [.ref h10, .int 0]))] (xQi G (fun f => [(h0, .inr (8, [.ref h1, .ref h3, .ref h4, .ref h5, .ref h6, .int 0, .ref h7, .ref h8])), (h1, .inr (7, [.ref h2, .ref h9])), (h2, .inr (6, [.ref h10, .int 0]))]) (-1000)) := by
  refine xof (by decide) (Nat.le_of_ble_eq_true rfl) (fun p e s m below meth c A C w hr hn ls hl => ?_)
  have hl : lv_has ls 4 [(0, .ref h0), (1, .int v0), (2, .int 3)] := hl
  refine lv_iload_n C.1 C.2.1 dX4_nearValue_0 rfl (lv_at hl 2 rfl) ?_
  refine x_kv C w [] [0, 1, 2] rfl rfl (by decide) (by decide) (va_runS (As := [.int 3]) (rest := []) (xfix C) (c170_X4_checkHow l G cy sa sv (xtr C) _) (va_cwS 1 (xhts C) (xgS gw_416 gw_417 gw_2 gc_X4_checkHow) rfl rfl rfl (by decide +kernel) ⟨(Nat.le_of_ble_eq_true rfl), (Nat.le_of_ble_eq_true rfl)⟩) (xPS C w [] rfl (by decide)) rfl rfl hl.1 rfl (lv_room (Nat.le_of_ble_eq_true rfl)) dX4_nearValue_1 ⟨(Nat.le_of_ble_eq_true rfl), (Nat.le_of_ble_eq_true rfl)⟩) (fun f1137 H locs w => ?_)
  have w : xW G A s [(h0, .inr (8, [.ref h1, .ref h3, .ref h4, .ref h5, .ref h6, .int 0, .ref h7, .ref h8])), (h1, .inr (7, [.ref h2, .ref h9])), (h2, .inr (6, [.ref h10, .int 0]))] H _ := w
  refine lv_aload_n C.1 C.2.1 dX4_nearValue_4 rfl (lv_at hl 0 rfl) ?_
  refine x_get (v := .ref h1) C w 0 8 0 (xin_X4 _) rfl rfl (by decide) (List.mem_cons_of_mem _ gw_24) rfl rfl dX4_nearValue_5 ?_
  refine x_ldc (v := (-2147483648)) C (List.mem_cons_of_mem _ gw_305) dX4_nearValue_8 ?_
  refine x_ldc (v := 2147483647) C (List.mem_cons_of_mem _ gw_306) dX4_nearValue_10 ?_
  refine lv_iload_n C.1 C.2.1 dX4_nearValue_12 rfl (lv_at hl 1 rfl) ?_
  refine lv_iload_n C.1 C.2.1 dX4_nearValue_13 rfl (lv_at hl 2 rfl) ?_
  refine x_ki C w [1, 2] [0] rfl rfl (by decide) (by decide) (va_runV (As := [.int (-2147483648), .int 2147483647, .int v0, .int 3]) (rest := []) (xfix C) (c171_X3_placeNear l G cy sa sv h1 h2 h9 h10 v0 (xtr C) _) (cwV 4 (xhts C) (xgV (maxL := 0) (cc := ⟨#[]⟩) (ret := none) gw_424 gw_425 gw_426 gw_7 gc_X3_placeNear) rfl rfl rfl (by decide +kernel) ⟨(Nat.le_of_ble_eq_true rfl), (Nat.le_of_ble_eq_true rfl)⟩) (xPV C w [1, 2] rfl (by decide) (ci := 7) (q0 := 1) rfl rfl) rfl rfl hl.1 rfl (lv_room (Nat.le_of_ble_eq_true rfl)) dX4_nearValue_14 ⟨(Nat.le_of_ble_eq_true rfl), (Nat.le_of_ble_eq_true rfl)⟩) (fun f1151 H locs w => ?_)
  have w : xW G A s [(h0, .inr (8, [.ref h1, .ref h3, .ref h4, .ref h5, .ref h6, .int 0, .ref h7, .ref h8])), (h1, .inr (7, [.ref h2, .ref h9])), (h2, .inr (6, [.ref h10, .int 0]))] H _ := w
  refine lv_istore_n (lv' := [(3, .int (-1)), (0, .ref h0), (1, .int v0), (2, .int 3)]) C.1 C.2.1 dX4_nearValue_17 rfl hl (by decide) rfl (fun ls hl => ?_)
  refine lv_iload_n C.1 C.2.1 dX4_nearValue_18 rfl (lv_at hl 0 rfl) ?_
  refine lv_iconst (v := (-1)) C.1 C.2.1 dX4_nearValue_19 (by decide) ?_
  refine lv_icmp_ne (tgt := 29) C.1 C.2.1 dX4_nearValue_20 (by decide) (fun c9 => absurd (by decide) c9) (fun _ => ?_)
  refine lv_sipush (v := (-1000)) C.1 C.2.1 dX4_nearValue_23 (by decide) ?_
  refine lv_goto (tgt := 37) C.1 C.2.1 dX4_nearValue_26 (by decide) ?_
  exact x_iret C w hr (fun _ => 0) rfl rfl dX4_nearValue_37 (Nat.le_of_ble_eq_true rfl) (Nat.le_of_ble_eq_true rfl)
set_option maxHeartbeats 4000000 in
set_option maxRecDepth 100000 in
theorem c200_L_nearValue (l : Launch) (G : va_G) (cy : Nat → ClassId) (sa : String → Nat → Nat) (sv : Nat → Nat) (h0 h1 h2 h3 h4 h5 h6 h7 h8 h9 h10 h11 : Nat) (v0 : Int32) : xM l G cy sa sv yL_nearValue (Cond.codeWith yL_nearValue cL_nearValue 5 (some .int) [(0, 11, 14, 19)] :: XG) { frames := 13, cells := 0, slots := 0, locals := 364 } [.ref h0, .int v0, .int 3, .ref h1] [(h0, .inr (8, [.ref h2, .ref h4, .ref h5, .ref h6, .ref h7, .int 0, .ref h8, .ref h9])), (h2, .inr (7, [.ref h3, .ref h10])), (h3, .inr (6, [.ref h11, .int 0])), (h1, .inr (9, [.long 0, .null]))] (xQi G (fun f => [(h0, .inr (8, [.ref h2, .ref h4, .ref h5, .ref h6, .ref h7, .int 0, .ref h8, .ref h9])), (h2, .inr (7, [.ref h3, .ref h10])), (h3, .inr (6, [.ref h11, .int 0])), (h1, .inr (9, [.long (-1000), .null]))]) 0) := by
  refine xofH (by decide) (Nat.le_of_ble_eq_true rfl) (fun p e s m below meth c A C w hr hn hT ls hl => ?_)
  have hl : lv_has ls 5 [(0, .ref h0), (1, .int v0), (2, .int 3), (3, .ref h1)] := hl
  refine lv_aload_n C.1 C.2.1 dL_nearValue_0 rfl (lv_at hl 3 rfl) ?_
  refine lv_aload_n C.1 C.2.1 dL_nearValue_1 rfl (lv_at hl 0 rfl) ?_
  refine lv_iload_n C.1 C.2.1 dL_nearValue_2 rfl (lv_at hl 1 rfl) ?_
  refine lv_iload_n C.1 C.2.1 dL_nearValue_3 rfl (lv_at hl 2 rfl) ?_
  refine x_ki C w [0, 1, 2] [3] rfl rfl (by decide) (by decide) (va_runV (As := [.int v0, .int 3]) (rest := [.ref h1]) (xfix C) (c199_X4_nearValue l G cy sa sv h0 h2 h3 h4 h5 h6 h7 h8 h9 h10 h11 v0 (xtr C) _) (cwV 2 (xhts C) (xgV (maxL := 0) (cc := ⟨#[]⟩) (ret := none) gw_450 gw_451 gw_452 gw_2 gc_X4_nearValue) rfl rfl rfl (by decide +kernel) ⟨(Nat.le_of_ble_eq_true rfl), (Nat.le_of_ble_eq_true rfl)⟩) (xPV C w [0, 1, 2] rfl (by decide) (ci := 8) (q0 := 0) rfl rfl) rfl rfl hl.1 rfl (lv_room (Nat.le_of_ble_eq_true rfl)) dL_nearValue_4 ⟨(Nat.le_of_ble_eq_true rfl), (Nat.le_of_ble_eq_true rfl)⟩) (fun f1152 H locs w => ?_)
  have w : xW G A s [(h1, .inr (9, [.long 0, .null])), (h0, .inr (8, [.ref h2, .ref h4, .ref h5, .ref h6, .ref h7, .int 0, .ref h8, .ref h9])), (h2, .inr (7, [.ref h3, .ref h10])), (h3, .inr (6, [.ref h11, .int 0]))] H _ := w
  refine lv_i2l (v := (-1000)) C.1 C.2.1 dL_nearValue_7 (by decide) ?_
  refine x_putN (ty := .long) (ty0 := tyX5) C w 0 9 0 (xin_X5 _) tyX5_ok nmX5 rfl rfl (by decide) (xs_f_n (xS C)) rfl rfl (by decide +kernel) rfl rfl (Nat.le_of_ble_eq_true rfl) dL_nearValue_8 (fun H locs w => ?_)
  have w : xW G A s [(h1, .inr (9, [.long (-1000), .null])), (h0, .inr (8, [.ref h2, .ref h4, .ref h5, .ref h6, .ref h7, .int 0, .ref h8, .ref h9])), (h2, .inr (7, [.ref h3, .ref h10])), (h3, .inr (6, [.ref h11, .int 0]))] H _ := w
  refine lv_goto (tgt := 18) C.1 C.2.1 dL_nearValue_11 (by decide) ?_
  refine lv_iconst (v := 0) C.1 C.2.1 dL_nearValue_18 (by decide) ?_
  have w := w.sub (ws' := [(h0, .inr (8, [.ref h2, .ref h4, .ref h5, .ref h6, .ref h7, .int 0, .ref h8, .ref h9])), (h2, .inr (7, [.ref h3, .ref h10])), (h3, .inr (6, [.ref h11, .int 0])), (h1, .inr (9, [.long (-1000), .null]))]) [1, 2, 3, 0] (by decide) rfl rfl
  exact x_iret C w hr (fun _ => 0) rfl rfl dL_nearValue_19 (Nat.le_of_ble_eq_true rfl) (Nat.le_of_ble_eq_true rfl)
set_option maxHeartbeats 4000000 in
set_option maxRecDepth 100000 in
theorem c201_X6_nearValue (l : Launch) (G : va_G) (cy : Nat → ClassId) (sa : String → Nat → Nat) (sv : Nat → Nat) (h0 h1 h2 h3 h4 h5 h6 h7 : Nat) (v0 : Int32) : xM l G cy sa sv yX6_nearValue (Cond.code yX6_nearValue cX6_nearValue 4 (some .int) :: XG) { frames := 10, cells := 0, slots := 0, locals := 296 } [.ref h0, .int v0, .int 3] [(h0, .inr (10, [.ref h1, .ref h2, .ref h3, .ref h4, .ref h5, .ref h6, .ref h7, .int 0, .int 0])), (h1, .inr (3, [.int 0, .ref (sv 0), .int 0]))] (xQi G (fun f => [(h0, .inr (10, [.ref h1, .ref h2, .ref h3, .ref h4, .ref h5, .ref h6, .ref h7, .int 0, .int 0])), (h1, .inr (3, [.int 0, .ref (sv 0), .int 0]))]) (-1000)) := by
  refine xof (by decide) (Nat.le_of_ble_eq_true rfl) (fun p e s m below meth c A C w hr hn ls hl => ?_)
  have hl : lv_has ls 4 [(0, .ref h0), (1, .int v0), (2, .int 3)] := hl
  refine lv_aload_n C.1 C.2.1 dX6_nearValue_0 rfl (lv_at hl 0 rfl) ?_
  refine lv_iload_n C.1 C.2.1 dX6_nearValue_1 rfl (lv_at hl 2 rfl) ?_
  refine x_ki C w [] [0, 1] rfl rfl (by decide) (by decide) (va_runS (As := [.int 3]) (rest := [.ref h0]) (xfix C) (c175_X6_isNoHow l G cy sa sv (xtr C) _) (va_cwS 1 (xhts C) (xgS gw_439 gw_440 gw_58 gc_X6_isNoHow) rfl rfl rfl (by decide +kernel) ⟨(Nat.le_of_ble_eq_true rfl), (Nat.le_of_ble_eq_true rfl)⟩) (xPS C w [] rfl (by decide)) rfl rfl hl.1 rfl (lv_room (Nat.le_of_ble_eq_true rfl)) dX6_nearValue_2 ⟨(Nat.le_of_ble_eq_true rfl), (Nat.le_of_ble_eq_true rfl)⟩) (fun f1154 H locs w => ?_)
  have w : xW G A s [(h0, .inr (10, [.ref h1, .ref h2, .ref h3, .ref h4, .ref h5, .ref h6, .ref h7, .int 0, .int 0])), (h1, .inr (3, [.int 0, .ref (sv 0), .int 0]))] H _ := w
  refine lv_iconst (v := 1) C.1 C.2.1 dX6_nearValue_5 (by decide) ?_
  refine x_ki C w [0] [1] rfl rfl (by decide) (by decide) (va_runV (As := [.int 0, .int 1]) (rest := []) (xfix C) (c46_X6_start l G cy sa sv h0 h1 h2 h3 h4 h5 h6 h7 (xtr C) _) (cwV 2 (xhts C) (xgV (maxL := 0) (cc := ⟨#[]⟩) (ret := none) gw_114 gw_115 gw_116 gw_58 gc_X6_start) rfl rfl rfl (by decide +kernel) ⟨(Nat.le_of_ble_eq_true rfl), (Nat.le_of_ble_eq_true rfl)⟩) (xPV C w [0] rfl (by decide) (ci := 10) (q0 := 0) rfl rfl) rfl rfl hl.1 rfl (lv_room (Nat.le_of_ble_eq_true rfl)) dX6_nearValue_6 ⟨(Nat.le_of_ble_eq_true rfl), (Nat.le_of_ble_eq_true rfl)⟩) (fun f1155 H locs w => ?_)
  have w : xW G A s [(h1, .inr (3, [.int 0, .ref (sv 0), .int 0])), (h0, .inr (10, [.ref h1, .ref h2, .ref h3, .ref h4, .ref h5, .ref h6, .ref h7, .int 0, .int 0]))] H _ := w
  refine lv_if_eq (tgt := 14) C.1 C.2.1 dX6_nearValue_9 (by decide) (fun _ => ?_) (fun c9 => absurd (by decide) c9)
  refine lv_aload_n C.1 C.2.1 dX6_nearValue_14 rfl (lv_at hl 0 rfl) ?_
  refine x_get (v := .ref h1) C w 1 10 0 (xin_X6 _) rfl rfl (by decide) (List.mem_cons_of_mem _ gw_78) rfl rfl dX6_nearValue_15 ?_
  refine lv_iload_n C.1 C.2.1 dX6_nearValue_18 rfl (lv_at hl 1 rfl) ?_
  refine lv_iload_n C.1 C.2.1 dX6_nearValue_19 rfl (lv_at hl 2 rfl) ?_
  refine x_kn C w [0] [1] rfl rfl (by decide) (by decide) (va_runS (As := [.ref h1, .int v0, .int 3]) (rest := []) (xfix C) (c176_X6_nearIn l G cy sa sv h1 v0 (xtr C) _) (va_cwS 3 (xhts C) (xgS gw_442 gw_443 gw_58 gc_X6_nearIn) rfl rfl rfl (by decide +kernel) ⟨(Nat.le_of_ble_eq_true rfl), (Nat.le_of_ble_eq_true rfl)⟩) (xPS C w [0] rfl (by decide)) rfl rfl hl.1 rfl (lv_room (Nat.le_of_ble_eq_true rfl)) dX6_nearValue_20 ⟨(Nat.le_of_ble_eq_true rfl), (Nat.le_of_ble_eq_true rfl)⟩) (fun f1157 H locs w => ?_)
  have w : xW G A s [(h0, .inr (10, [.ref h1, .ref h2, .ref h3, .ref h4, .ref h5, .ref h6, .ref h7, .int 0, .int 0])), (h1, .inr (3, [.int 0, .ref (sv 0), .int 0]))] H _ := w
  refine lv_astore_nN (lv' := [(3, .null), (0, .ref h0), (1, .int v0), (2, .int 3)]) C.1 C.2.1 dX6_nearValue_23 rfl hl (by decide) rfl (fun ls hl => ?_)
  refine lv_aload_nN C.1 C.2.1 dX6_nearValue_24 rfl (lv_at hl 0 rfl) ?_
  refine lv_ifnonnullN C.1 C.2.1 dX6_nearValue_25 ?_
  refine lv_sipush (v := (-1000)) C.1 C.2.1 dX6_nearValue_28 (by decide) ?_
  refine lv_goto (tgt := 37) C.1 C.2.1 dX6_nearValue_31 (by decide) ?_
  exact x_iret C w hr (fun _ => 0) rfl rfl dX6_nearValue_37 (Nat.le_of_ble_eq_true rfl) (Nat.le_of_ble_eq_true rfl)
set_option maxHeartbeats 4000000 in
set_option maxRecDepth 100000 in
theorem c202_X4_nearValue (l : Launch) (G : va_G) (cy : Nat → ClassId) (sa : String → Nat → Nat) (sv : Nat → Nat) (h0 : Nat) (v0 v1 : Int32) (p0 : v1 < 0) : xX l G cy sa sv yX4_nearValue (Cond.code yX4_nearValue cX4_nearValue 4 (some .int) :: XG) { frames := 9, cells := 1, slots := 6, locals := 270 } [.ref h0, .int v0, .int v1] [] (fun f => []) "java/lang/IllegalArgumentException" := by
  refine xofX (by decide) (Nat.le_of_ble_eq_true rfl) (fun p e s m below meth c A C w hno ls hl => ?_)
  have hl : lv_has ls 4 [(0, .ref h0), (1, .int v0), (2, .int v1)] := hl
  refine lv_iload_n C.1 C.2.1 dX4_nearValue_0 rfl (lv_at hl 2 rfl) ?_
  refine x_kx C w [] [] rfl rfl (by decide) (by decide) (vx_runS (As := [.int v1]) (rest := []) (xfix C) (c178_X4_checkHow l G cy sa sv v1 p0 (xtr C) _) (va_cwS 1 (xhts C) (xgS gw_416 gw_417 gw_2 gc_X4_checkHow) rfl rfl rfl (by decide +kernel) ⟨(Nat.le_of_ble_eq_true rfl), (Nat.le_of_ble_eq_true rfl)⟩) (xPS C w [] rfl (by decide)) rfl rfl hl.1 rfl (lv_room (Nat.le_of_ble_eq_true rfl)) dX4_nearValue_1 ⟨(Nat.le_of_ble_eq_true rfl), (Nat.le_of_ble_eq_true rfl)⟩) (fun f1164 H locs ce q9 w hce hcv hcl => ?_)
  have w : xW G A s [] H _ := w
  refine vx_widen (k := 1) (n := 6) (Nat.le_of_ble_eq_true rfl) (Nat.le_of_ble_eq_true rfl) ?_
  exact x_out C w hno (fun _ => 0) rfl hce hcv hcl (Nat.le_of_ble_eq_true rfl) (Nat.le_of_ble_eq_true rfl)
set_option maxHeartbeats 4000000 in
set_option maxRecDepth 100000 in
theorem c203_L_nearValue (l : Launch) (G : va_G) (cy : Nat → ClassId) (sa : String → Nat → Nat) (sv : Nat → Nat) (h0 h1 h2 h3 h4 h5 h6 h7 h8 : Nat) (v0 v1 : Int32) (p0 : v1 < 0) : xM l G cy sa sv yL_nearValue (Cond.codeWith yL_nearValue cL_nearValue 5 (some .int) [(0, 11, 14, 19)] :: XG) { frames := 10, cells := 1, slots := 6, locals := 293 } [.ref h0, .int v0, .int v1, .ref h1] [(h0, .inr (8, [.ref h2, .ref h3, .ref h4, .ref h5, .ref h6, .int 0, .ref h7, .ref h8]))] (xQi G (fun f => [(h0, .inr (8, [.ref h2, .ref h3, .ref h4, .ref h5, .ref h6, .int 0, .ref h7, .ref h8]))]) 1) := by
  refine xofH (by decide) (Nat.le_of_ble_eq_true rfl) (fun p e s m below meth c A C w hr hn hT ls hl => ?_)
  have hl : lv_has ls 5 [(0, .ref h0), (1, .int v0), (2, .int v1), (3, .ref h1)] := hl
  refine lv_aload_n C.1 C.2.1 dL_nearValue_0 rfl (lv_at hl 3 rfl) ?_
  refine lv_aload_n C.1 C.2.1 dL_nearValue_1 rfl (lv_at hl 0 rfl) ?_
  refine lv_iload_n C.1 C.2.1 dL_nearValue_2 rfl (lv_at hl 1 rfl) ?_
  refine lv_iload_n C.1 C.2.1 dL_nearValue_3 rfl (lv_at hl 2 rfl) ?_
  refine x_kx C w [] [0] rfl rfl (by decide) (by decide) (vx_runV (As := [.int v0, .int v1]) (rest := [.ref h1]) (xfix C) (c202_X4_nearValue l G cy sa sv h0 v0 v1 p0 (xtr C) _) (cwV 2 (xhts C) (xgV (maxL := 0) (cc := ⟨#[]⟩) (ret := none) gw_450 gw_451 gw_452 gw_2 gc_X4_nearValue) rfl rfl rfl (by decide +kernel) ⟨(Nat.le_of_ble_eq_true rfl), (Nat.le_of_ble_eq_true rfl)⟩) (xPV C w [] rfl (by decide) (ci := 8) (q0 := 0) rfl rfl) rfl rfl hl.1 rfl (lv_room (Nat.le_of_ble_eq_true rfl)) dL_nearValue_4 ⟨(Nat.le_of_ble_eq_true rfl), (Nat.le_of_ble_eq_true rfl)⟩) (fun f1165 H locs ce q9 w hce hcv hcl => ?_)
  have w : xW G A s [(h0, .inr (8, [.ref h2, .ref h3, .ref h4, .ref h5, .ref h6, .int 0, .ref h7, .ref h8]))] H _ := w
  refine vx_widen (k := 1) (n := 6) (Nat.le_of_ble_eq_true rfl) (Nat.le_of_ble_eq_true rfl) ?_
  refine vx_catch (xown C) [] ⟨0, 11, 14, 19⟩ [] hT (fun z hz => nomatch hz) (by decide) (by decide) (xhts C _ (List.mem_cons_of_mem _ gw_104)) (va_any rfl (xs_c1 (xS C))) hce hcv hcl ?_
  refine lv_astore (lv' := [(4, .ref q9), (0, .ref h0), (1, .int v0), (2, .int v1), (3, .ref h1)]) C.1 C.2.1 dL_nearValue_14 hl (by decide) rfl (fun ls hl => ?_)
  refine lv_iconst (v := 1) C.1 C.2.1 dL_nearValue_16 (by decide) ?_
  exact x_iret C w hr (fun _ => 0) rfl rfl dL_nearValue_17 (Nat.le_of_ble_eq_true rfl) (Nat.le_of_ble_eq_true rfl)
set_option maxHeartbeats 4000000 in
set_option maxRecDepth 100000 in
theorem c204_X6_nearValue (l : Launch) (G : va_G) (cy : Nat → ClassId) (sa : String → Nat → Nat) (sv : Nat → Nat) (h0 h1 h2 h3 h4 h5 h6 h7 : Nat) (v0 v1 : Int32) (p0 : v1 < 0) : xM l G cy sa sv yX6_nearValue (Cond.code yX6_nearValue cX6_nearValue 4 (some .int) :: XG) { frames := 9, cells := 0, slots := 0, locals := 272 } [.ref h0, .int v0, .int v1] [(h0, .inr (10, [.ref h1, .ref h2, .ref h3, .ref h4, .ref h5, .ref h6, .ref h7, .int 0, .int 0]))] (xQi G (fun f => [(h0, .inr (10, [.ref h1, .ref h2, .ref h3, .ref h4, .ref h5, .ref h6, .ref h7, .int 0, .int 1]))]) 0) := by
  refine xof (by decide) (Nat.le_of_ble_eq_true rfl) (fun p e s m below meth c A C w hr hn ls hl => ?_)
  have hl : lv_has ls 4 [(0, .ref h0), (1, .int v0), (2, .int v1)] := hl
  refine lv_aload_n C.1 C.2.1 dX6_nearValue_0 rfl (lv_at hl 0 rfl) ?_
  refine lv_iload_n C.1 C.2.1 dX6_nearValue_1 rfl (lv_at hl 2 rfl) ?_
  refine x_ki C w [] [0] rfl rfl (by decide) (by decide) (va_runS (As := [.int v1]) (rest := [.ref h0]) (xfix C) (c182_X6_isNoHow l G cy sa sv v1 p0 (xtr C) _) (va_cwS 1 (xhts C) (xgS gw_439 gw_440 gw_58 gc_X6_isNoHow) rfl rfl rfl (by decide +kernel) ⟨(Nat.le_of_ble_eq_true rfl), (Nat.le_of_ble_eq_true rfl)⟩) (xPS C w [] rfl (by decide)) rfl rfl hl.1 rfl (lv_room (Nat.le_of_ble_eq_true rfl)) dX6_nearValue_2 ⟨(Nat.le_of_ble_eq_true rfl), (Nat.le_of_ble_eq_true rfl)⟩) (fun f1168 H locs w => ?_)
  have w : xW G A s [(h0, .inr (10, [.ref h1, .ref h2, .ref h3, .ref h4, .ref h5, .ref h6, .ref h7, .int 0, .int 0]))] H _ := w
  refine lv_iconst (v := 1) C.1 C.2.1 dX6_nearValue_5 (by decide) ?_
  refine x_ki C w [0] [] rfl rfl (by decide) (by decide) (va_runV (As := [.int 1, .int 1]) (rest := []) (xfix C) (c17_X6_start l G cy sa sv h0 h1 h2 h3 h4 h5 h6 h7 (xtr C) _) (cwV 2 (xhts C) (xgV (maxL := 0) (cc := ⟨#[]⟩) (ret := none) gw_114 gw_115 gw_116 gw_58 gc_X6_start) rfl rfl rfl (by decide +kernel) ⟨(Nat.le_of_ble_eq_true rfl), (Nat.le_of_ble_eq_true rfl)⟩) (xPV C w [0] rfl (by decide) (ci := 10) (q0 := 0) rfl rfl) rfl rfl hl.1 rfl (lv_room (Nat.le_of_ble_eq_true rfl)) dX6_nearValue_6 ⟨(Nat.le_of_ble_eq_true rfl), (Nat.le_of_ble_eq_true rfl)⟩) (fun f1169 H locs w => ?_)
  have w : xW G A s [(h0, .inr (10, [.ref h1, .ref h2, .ref h3, .ref h4, .ref h5, .ref h6, .ref h7, .int 0, .int 1]))] H _ := w
  refine lv_if_eq (tgt := 14) C.1 C.2.1 dX6_nearValue_9 (by decide) (fun c9 => absurd c9 (by decide)) (fun _ => ?_)
  refine lv_iconst (v := 0) C.1 C.2.1 dX6_nearValue_12 (by decide) ?_
  exact x_iret C w hr (fun _ => 0) rfl rfl dX6_nearValue_13 (Nat.le_of_ble_eq_true rfl) (Nat.le_of_ble_eq_true rfl)
set_option maxHeartbeats 4000000 in
set_option maxRecDepth 100000 in
theorem c205_X4_nearValue (l : Launch) (G : va_G) (cy : Nat → ClassId) (sa : String → Nat → Nat) (sv : Nat → Nat) (h0 : Nat) (v0 v1 : Int32) (p0 : ¬ v1 < 0) (p1 : ¬ v1 ≤ 3) : xX l G cy sa sv yX4_nearValue (Cond.code yX4_nearValue cX4_nearValue 4 (some .int) :: XG) { frames := 9, cells := 1, slots := 6, locals := 270 } [.ref h0, .int v0, .int v1] [] (fun f => []) "java/lang/IllegalArgumentException" := by
  refine xofX (by decide) (Nat.le_of_ble_eq_true rfl) (fun p e s m below meth c A C w hno ls hl => ?_)
  have hl : lv_has ls 4 [(0, .ref h0), (1, .int v0), (2, .int v1)] := hl
  refine lv_iload_n C.1 C.2.1 dX4_nearValue_0 rfl (lv_at hl 2 rfl) ?_
  refine x_kx C w [] [] rfl rfl (by decide) (by decide) (vx_runS (As := [.int v1]) (rest := []) (xfix C) (c184_X4_checkHow l G cy sa sv v1 p0 p1 (xtr C) _) (va_cwS 1 (xhts C) (xgS gw_416 gw_417 gw_2 gc_X4_checkHow) rfl rfl rfl (by decide +kernel) ⟨(Nat.le_of_ble_eq_true rfl), (Nat.le_of_ble_eq_true rfl)⟩) (xPS C w [] rfl (by decide)) rfl rfl hl.1 rfl (lv_room (Nat.le_of_ble_eq_true rfl)) dX4_nearValue_1 ⟨(Nat.le_of_ble_eq_true rfl), (Nat.le_of_ble_eq_true rfl)⟩) (fun f1176 H locs ce q9 w hce hcv hcl => ?_)
  have w : xW G A s [] H _ := w
  refine vx_widen (k := 1) (n := 6) (Nat.le_of_ble_eq_true rfl) (Nat.le_of_ble_eq_true rfl) ?_
  exact x_out C w hno (fun _ => 0) rfl hce hcv hcl (Nat.le_of_ble_eq_true rfl) (Nat.le_of_ble_eq_true rfl)
set_option maxHeartbeats 4000000 in
set_option maxRecDepth 100000 in
theorem c206_L_nearValue (l : Launch) (G : va_G) (cy : Nat → ClassId) (sa : String → Nat → Nat) (sv : Nat → Nat) (h0 h1 h2 h3 h4 h5 h6 h7 h8 : Nat) (v0 v1 : Int32) (p0 : ¬ v1 < 0) (p1 : ¬ v1 ≤ 3) : xM l G cy sa sv yL_nearValue (Cond.codeWith yL_nearValue cL_nearValue 5 (some .int) [(0, 11, 14, 19)] :: XG) { frames := 10, cells := 1, slots := 6, locals := 293 } [.ref h0, .int v0, .int v1, .ref h1] [(h0, .inr (8, [.ref h2, .ref h3, .ref h4, .ref h5, .ref h6, .int 0, .ref h7, .ref h8]))] (xQi G (fun f => [(h0, .inr (8, [.ref h2, .ref h3, .ref h4, .ref h5, .ref h6, .int 0, .ref h7, .ref h8]))]) 1) := by
  refine xofH (by decide) (Nat.le_of_ble_eq_true rfl) (fun p e s m below meth c A C w hr hn hT ls hl => ?_)
  have hl : lv_has ls 5 [(0, .ref h0), (1, .int v0), (2, .int v1), (3, .ref h1)] := hl
  refine lv_aload_n C.1 C.2.1 dL_nearValue_0 rfl (lv_at hl 3 rfl) ?_
  refine lv_aload_n C.1 C.2.1 dL_nearValue_1 rfl (lv_at hl 0 rfl) ?_
  refine lv_iload_n C.1 C.2.1 dL_nearValue_2 rfl (lv_at hl 1 rfl) ?_
  refine lv_iload_n C.1 C.2.1 dL_nearValue_3 rfl (lv_at hl 2 rfl) ?_
  refine x_kx C w [] [0] rfl rfl (by decide) (by decide) (vx_runV (As := [.int v0, .int v1]) (rest := [.ref h1]) (xfix C) (c205_X4_nearValue l G cy sa sv h0 v0 v1 p0 p1 (xtr C) _) (cwV 2 (xhts C) (xgV (maxL := 0) (cc := ⟨#[]⟩) (ret := none) gw_450 gw_451 gw_452 gw_2 gc_X4_nearValue) rfl rfl rfl (by decide +kernel) ⟨(Nat.le_of_ble_eq_true rfl), (Nat.le_of_ble_eq_true rfl)⟩) (xPV C w [] rfl (by decide) (ci := 8) (q0 := 0) rfl rfl) rfl rfl hl.1 rfl (lv_room (Nat.le_of_ble_eq_true rfl)) dL_nearValue_4 ⟨(Nat.le_of_ble_eq_true rfl), (Nat.le_of_ble_eq_true rfl)⟩) (fun f1177 H locs ce q9 w hce hcv hcl => ?_)
  have w : xW G A s [(h0, .inr (8, [.ref h2, .ref h3, .ref h4, .ref h5, .ref h6, .int 0, .ref h7, .ref h8]))] H _ := w
  refine vx_widen (k := 1) (n := 6) (Nat.le_of_ble_eq_true rfl) (Nat.le_of_ble_eq_true rfl) ?_
  refine vx_catch (xown C) [] ⟨0, 11, 14, 19⟩ [] hT (fun z hz => nomatch hz) (by decide) (by decide) (xhts C _ (List.mem_cons_of_mem _ gw_104)) (va_any rfl (xs_c1 (xS C))) hce hcv hcl ?_
  refine lv_astore (lv' := [(4, .ref q9), (0, .ref h0), (1, .int v0), (2, .int v1), (3, .ref h1)]) C.1 C.2.1 dL_nearValue_14 hl (by decide) rfl (fun ls hl => ?_)
  refine lv_iconst (v := 1) C.1 C.2.1 dL_nearValue_16 (by decide) ?_
  exact x_iret C w hr (fun _ => 0) rfl rfl dL_nearValue_17 (Nat.le_of_ble_eq_true rfl) (Nat.le_of_ble_eq_true rfl)
set_option maxHeartbeats 4000000 in
set_option maxRecDepth 100000 in
theorem c207_X6_nearValue (l : Launch) (G : va_G) (cy : Nat → ClassId) (sa : String → Nat → Nat) (sv : Nat → Nat) (h0 h1 h2 h3 h4 h5 h6 h7 : Nat) (v0 v1 : Int32) (p0 : ¬ v1 < 0) (p1 : ¬ v1 ≤ 3) : xM l G cy sa sv yX6_nearValue (Cond.code yX6_nearValue cX6_nearValue 4 (some .int) :: XG) { frames := 9, cells := 0, slots := 0, locals := 272 } [.ref h0, .int v0, .int v1] [(h0, .inr (10, [.ref h1, .ref h2, .ref h3, .ref h4, .ref h5, .ref h6, .ref h7, .int 0, .int 0]))] (xQi G (fun f => [(h0, .inr (10, [.ref h1, .ref h2, .ref h3, .ref h4, .ref h5, .ref h6, .ref h7, .int 0, .int 1]))]) 0) := by
  refine xof (by decide) (Nat.le_of_ble_eq_true rfl) (fun p e s m below meth c A C w hr hn ls hl => ?_)
  have hl : lv_has ls 4 [(0, .ref h0), (1, .int v0), (2, .int v1)] := hl
  refine lv_aload_n C.1 C.2.1 dX6_nearValue_0 rfl (lv_at hl 0 rfl) ?_
  refine lv_iload_n C.1 C.2.1 dX6_nearValue_1 rfl (lv_at hl 2 rfl) ?_
  refine x_ki C w [] [0] rfl rfl (by decide) (by decide) (va_runS (As := [.int v1]) (rest := [.ref h0]) (xfix C) (c188_X6_isNoHow l G cy sa sv v1 p0 p1 (xtr C) _) (va_cwS 1 (xhts C) (xgS gw_439 gw_440 gw_58 gc_X6_isNoHow) rfl rfl rfl (by decide +kernel) ⟨(Nat.le_of_ble_eq_true rfl), (Nat.le_of_ble_eq_true rfl)⟩) (xPS C w [] rfl (by decide)) rfl rfl hl.1 rfl (lv_room (Nat.le_of_ble_eq_true rfl)) dX6_nearValue_2 ⟨(Nat.le_of_ble_eq_true rfl), (Nat.le_of_ble_eq_true rfl)⟩) (fun f1180 H locs w => ?_)
  have w : xW G A s [(h0, .inr (10, [.ref h1, .ref h2, .ref h3, .ref h4, .ref h5, .ref h6, .ref h7, .int 0, .int 0]))] H _ := w
  refine lv_iconst (v := 1) C.1 C.2.1 dX6_nearValue_5 (by decide) ?_
  refine x_ki C w [0] [] rfl rfl (by decide) (by decide) (va_runV (As := [.int 1, .int 1]) (rest := []) (xfix C) (c17_X6_start l G cy sa sv h0 h1 h2 h3 h4 h5 h6 h7 (xtr C) _) (cwV 2 (xhts C) (xgV (maxL := 0) (cc := ⟨#[]⟩) (ret := none) gw_114 gw_115 gw_116 gw_58 gc_X6_start) rfl rfl rfl (by decide +kernel) ⟨(Nat.le_of_ble_eq_true rfl), (Nat.le_of_ble_eq_true rfl)⟩) (xPV C w [0] rfl (by decide) (ci := 10) (q0 := 0) rfl rfl) rfl rfl hl.1 rfl (lv_room (Nat.le_of_ble_eq_true rfl)) dX6_nearValue_6 ⟨(Nat.le_of_ble_eq_true rfl), (Nat.le_of_ble_eq_true rfl)⟩) (fun f1181 H locs w => ?_)
  have w : xW G A s [(h0, .inr (10, [.ref h1, .ref h2, .ref h3, .ref h4, .ref h5, .ref h6, .ref h7, .int 0, .int 1]))] H _ := w
  refine lv_if_eq (tgt := 14) C.1 C.2.1 dX6_nearValue_9 (by decide) (fun c9 => absurd c9 (by decide)) (fun _ => ?_)
  refine lv_iconst (v := 0) C.1 C.2.1 dX6_nearValue_12 (by decide) ?_
  exact x_iret C w hr (fun _ => 0) rfl rfl dX6_nearValue_13 (Nat.le_of_ble_eq_true rfl) (Nat.le_of_ble_eq_true rfl)
set_option maxHeartbeats 4000000 in
set_option maxRecDepth 100000 in
theorem c208_X4_rangePoll (l : Launch) (G : va_G) (cy : Nat → ClassId) (sa : String → Nat → Nat) (sv : Nat → Nat) (h0 h1 h2 h3 h4 h5 h6 h7 h8 h9 h10 : Nat) : xX l G cy sa sv yX4_rangePoll (Cond.code yX4_rangePoll cX4_rangePoll 5 (some .int) :: XG) { frames := 13, cells := 1, slots := 6, locals := 359 } [.ref h0, .int (-2147483648), .int 2147483647, .int 0] [(h0, .inr (8, [.ref h1, .ref h3, .ref h4, .ref h5, .ref h6, .int 0, .ref h7, .ref h8])), (h1, .inr (7, [.ref h2, .ref h9])), (h2, .inr (6, [.ref h10, .int 0]))] (fun f => [(h0, .inr (8, [.ref h1, .ref h3, .ref h4, .ref h5, .ref h6, .int 0, .ref h7, .ref h8])), (h1, .inr (7, [.ref h2, .ref h9])), (h2, .inr (6, [.ref h10, .int 0]))]) "java/lang/IllegalStateException" := by
  refine xofX (by decide) (Nat.le_of_ble_eq_true rfl) (fun p e s m below meth c A C w hno ls hl => ?_)
  have hl : lv_has ls 5 [(0, .ref h0), (1, .int (-2147483648)), (2, .int 2147483647), (3, .int 0)] := hl
  refine lv_aload_n C.1 C.2.1 dX4_rangePoll_0 rfl (lv_at hl 0 rfl) ?_
  refine lv_iload_n C.1 C.2.1 dX4_rangePoll_1 rfl (lv_at hl 1 rfl) ?_
  refine lv_iload_n C.1 C.2.1 dX4_rangePoll_2 rfl (lv_at hl 2 rfl) ?_
  refine lv_iload_n C.1 C.2.1 dX4_rangePoll_3 rfl (lv_at hl 3 rfl) ?_
  refine x_kx C w [0, 1, 2] [] rfl rfl (by decide) (by decide) (vx_runV (As := [.int (-2147483648), .int 2147483647, .int 0]) (rest := []) (xfix C) (c133_X4_rangeEnd l G cy sa sv h0 h1 h2 h3 h4 h5 h6 h7 h8 h9 h10 (xtr C) _) (cwV 3 (xhts C) (xgV (maxL := 0) (cc := ⟨#[]⟩) (ret := none) gw_400 gw_401 gw_402 gw_2 gc_X4_rangeEnd) rfl rfl rfl (by decide +kernel) ⟨(Nat.le_of_ble_eq_true rfl), (Nat.le_of_ble_eq_true rfl)⟩) (xPV C w [0, 1, 2] rfl (by decide) (ci := 8) (q0 := 0) rfl rfl) rfl rfl hl.1 rfl (lv_room (Nat.le_of_ble_eq_true rfl)) dX4_rangePoll_4 ⟨(Nat.le_of_ble_eq_true rfl), (Nat.le_of_ble_eq_true rfl)⟩) (fun f1197 H locs ce q9 w hce hcv hcl => ?_)
  have w : xW G A s [(h0, .inr (8, [.ref h1, .ref h3, .ref h4, .ref h5, .ref h6, .int 0, .ref h7, .ref h8])), (h1, .inr (7, [.ref h2, .ref h9])), (h2, .inr (6, [.ref h10, .int 0]))] H _ := w
  refine vx_widen (k := 1) (n := 6) (Nat.le_of_ble_eq_true rfl) (Nat.le_of_ble_eq_true rfl) ?_
  exact x_out C w hno (fun _ => 0) rfl hce hcv hcl (Nat.le_of_ble_eq_true rfl) (Nat.le_of_ble_eq_true rfl)
set_option maxHeartbeats 4000000 in
set_option maxRecDepth 100000 in
theorem c209_X4_poll (l : Launch) (G : va_G) (cy : Nat → ClassId) (sa : String → Nat → Nat) (sv : Nat → Nat) (h0 h1 h2 h3 h4 h5 h6 h7 h8 h9 h10 : Nat) : xX l G cy sa sv yX4_poll (Cond.code yX4_poll cX4_poll 2 (some .int) :: XG) { frames := 14, cells := 1, slots := 6, locals := 383 } [.ref h0, .int 0] [(h0, .inr (8, [.ref h1, .ref h3, .ref h4, .ref h5, .ref h6, .int 0, .ref h7, .ref h8])), (h1, .inr (7, [.ref h2, .ref h9])), (h2, .inr (6, [.ref h10, .int 0]))] (fun f => [(h0, .inr (8, [.ref h1, .ref h3, .ref h4, .ref h5, .ref h6, .int 0, .ref h7, .ref h8])), (h1, .inr (7, [.ref h2, .ref h9])), (h2, .inr (6, [.ref h10, .int 0]))]) "java/lang/IllegalStateException" := by
  refine xofX (by decide) (Nat.le_of_ble_eq_true rfl) (fun p e s m below meth c A C w hno ls hl => ?_)
  have hl : lv_has ls 2 [(0, .ref h0), (1, .int 0)] := hl
  refine lv_aload_n C.1 C.2.1 dX4_poll_0 rfl (lv_at hl 0 rfl) ?_
  refine x_ldc (v := (-2147483648)) C (List.mem_cons_of_mem _ gw_305) dX4_poll_1 ?_
  refine x_ldc (v := 2147483647) C (List.mem_cons_of_mem _ gw_306) dX4_poll_3 ?_
  refine lv_iload_n C.1 C.2.1 dX4_poll_5 rfl (lv_at hl 1 rfl) ?_
  refine x_kx C w [0, 1, 2] [] rfl rfl (by decide) (by decide) (vx_runV (As := [.int (-2147483648), .int 2147483647, .int 0]) (rest := []) (xfix C) (c208_X4_rangePoll l G cy sa sv h0 h1 h2 h3 h4 h5 h6 h7 h8 h9 h10 (xtr C) _) (cwV 3 (xhts C) (xgV (maxL := 0) (cc := ⟨#[]⟩) (ret := none) gw_461 gw_462 gw_463 gw_2 gc_X4_rangePoll) rfl rfl rfl (by decide +kernel) ⟨(Nat.le_of_ble_eq_true rfl), (Nat.le_of_ble_eq_true rfl)⟩) (xPV C w [0, 1, 2] rfl (by decide) (ci := 8) (q0 := 0) rfl rfl) rfl rfl hl.1 rfl (lv_room (Nat.le_of_ble_eq_true rfl)) dX4_poll_6 ⟨(Nat.le_of_ble_eq_true rfl), (Nat.le_of_ble_eq_true rfl)⟩) (fun f1198 H locs ce q9 w hce hcv hcl => ?_)
  have w : xW G A s [(h0, .inr (8, [.ref h1, .ref h3, .ref h4, .ref h5, .ref h6, .int 0, .ref h7, .ref h8])), (h1, .inr (7, [.ref h2, .ref h9])), (h2, .inr (6, [.ref h10, .int 0]))] H _ := w
  refine vx_widen (k := 1) (n := 6) (Nat.le_of_ble_eq_true rfl) (Nat.le_of_ble_eq_true rfl) ?_
  exact x_out C w hno (fun _ => 0) rfl hce hcv hcl (Nat.le_of_ble_eq_true rfl) (Nat.le_of_ble_eq_true rfl)
set_option maxHeartbeats 4000000 in
set_option maxRecDepth 100000 in
theorem c210_L_poll (l : Launch) (G : va_G) (cy : Nat → ClassId) (sa : String → Nat → Nat) (sv : Nat → Nat) (h0 h1 h2 h3 h4 h5 h6 h7 h8 h9 h10 h11 : Nat) : xM l G cy sa sv yL_poll (Cond.codeWith yL_poll cL_poll 4 (some .int) [(0, 10, 13, 21)] :: XG) { frames := 15, cells := 1, slots := 6, locals := 404 } [.ref h0, .int 0, .ref h1] [(h0, .inr (8, [.ref h2, .ref h4, .ref h5, .ref h6, .ref h7, .int 0, .ref h8, .ref h9])), (h2, .inr (7, [.ref h3, .ref h10])), (h3, .inr (6, [.ref h11, .int 0]))] (xQi G (fun f => [(h0, .inr (8, [.ref h2, .ref h4, .ref h5, .ref h6, .ref h7, .int 0, .ref h8, .ref h9])), (h2, .inr (7, [.ref h3, .ref h10])), (h3, .inr (6, [.ref h11, .int 0]))]) 1) := by
  refine xofH (by decide) (Nat.le_of_ble_eq_true rfl) (fun p e s m below meth c A C w hr hn hT ls hl => ?_)
  have hl : lv_has ls 4 [(0, .ref h0), (1, .int 0), (2, .ref h1)] := hl
  refine lv_aload_n C.1 C.2.1 dL_poll_0 rfl (lv_at hl 2 rfl) ?_
  refine lv_aload_n C.1 C.2.1 dL_poll_1 rfl (lv_at hl 0 rfl) ?_
  refine lv_iload_n C.1 C.2.1 dL_poll_2 rfl (lv_at hl 1 rfl) ?_
  refine x_kx C w [0, 1, 2] [] rfl rfl (by decide) (by decide) (vx_runV (As := [.int 0]) (rest := [.ref h1]) (xfix C) (c209_X4_poll l G cy sa sv h0 h2 h3 h4 h5 h6 h7 h8 h9 h10 h11 (xtr C) _) (cwV 1 (xhts C) (xgV (maxL := 0) (cc := ⟨#[]⟩) (ret := none) gw_465 gw_466 gw_467 gw_2 gc_X4_poll) rfl rfl rfl (by decide +kernel) ⟨(Nat.le_of_ble_eq_true rfl), (Nat.le_of_ble_eq_true rfl)⟩) (xPV C w [0, 1, 2] rfl (by decide) (ci := 8) (q0 := 0) rfl rfl) rfl rfl hl.1 rfl (lv_room (Nat.le_of_ble_eq_true rfl)) dL_poll_3 ⟨(Nat.le_of_ble_eq_true rfl), (Nat.le_of_ble_eq_true rfl)⟩) (fun f1199 H locs ce q9 w hce hcv hcl => ?_)
  have w : xW G A s [(h0, .inr (8, [.ref h2, .ref h4, .ref h5, .ref h6, .ref h7, .int 0, .ref h8, .ref h9])), (h2, .inr (7, [.ref h3, .ref h10])), (h3, .inr (6, [.ref h11, .int 0]))] H _ := w
  refine vx_widen (k := 1) (n := 6) (Nat.le_of_ble_eq_true rfl) (Nat.le_of_ble_eq_true rfl) ?_
  refine vx_catch (xown C) [] ⟨0, 10, 13, 21⟩ [] hT (fun z hz => nomatch hz) (by decide) (by decide) (xhts C _ (List.mem_cons_of_mem _ gw_407)) (va_any rfl (xs_c2 (xS C))) hce hcv hcl ?_
  refine lv_astore_n (lv' := [(3, .ref q9), (0, .ref h0), (1, .int 0), (2, .ref h1)]) C.1 C.2.1 dL_poll_13 rfl hl (by decide) rfl (fun ls hl => ?_)
  refine lv_iconst (v := 1) C.1 C.2.1 dL_poll_14 (by decide) ?_
  exact x_iret C w hr (fun _ => 0) rfl rfl dL_poll_15 (Nat.le_of_ble_eq_true rfl) (Nat.le_of_ble_eq_true rfl)
set_option maxHeartbeats 4000000 in
set_option maxRecDepth 100000 in
theorem c211_X6_poll (l : Launch) (G : va_G) (cy : Nat → ClassId) (sa : String → Nat → Nat) (sv : Nat → Nat) (h0 h1 h2 h3 h4 h5 h6 h7 : Nat) : xM l G cy sa sv yX6_poll (Cond.code yX6_poll cX6_poll 2 (some .int) :: XG) { frames := 9, cells := 0, slots := 0, locals := 272 } [.ref h0, .int 0] [(h0, .inr (10, [.ref h1, .ref h2, .ref h3, .ref h4, .ref h5, .ref h6, .ref h7, .int 0, .int 0])), (h1, .inr (3, [.int 0, .ref (sv 0), .int 0]))] (xQi G (fun f => [(h0, .inr (10, [.ref h1, .ref h2, .ref h3, .ref h4, .ref h5, .ref h6, .ref h7, .int 0, .int 1])), (h1, .inr (3, [.int 0, .ref (sv 0), .int 0]))]) 0) := by
  refine xof (by decide) (Nat.le_of_ble_eq_true rfl) (fun p e s m below meth c A C w hr hn ls hl => ?_)
  have hl : lv_has ls 2 [(0, .ref h0), (1, .int 0)] := hl
  refine lv_aload_n C.1 C.2.1 dX6_poll_0 rfl (lv_at hl 0 rfl) ?_
  refine lv_aload_n C.1 C.2.1 dX6_poll_1 rfl (lv_at hl 0 rfl) ?_
  refine x_get (v := .ref h1) C w 0 10 0 (xin_X6 _) rfl rfl (by decide) (List.mem_cons_of_mem _ gw_78) rfl rfl dX6_poll_2 ?_
  refine x_ki C w [1] [0] rfl rfl (by decide) (by decide) (va_runV (As := []) (rest := [.ref h0]) (xfix C) (c47_Jx4a65c_size_8abf5 l G cy sa sv h1 (xtr C) _) (cwV 0 (xhts C) (xgV (maxL := 0) (cc := ⟨#[]⟩) (ret := none) gw_195 gw_196 gw_197 gw_62 gc_Jx4a65c_size_8abf5) rfl rfl rfl (by decide +kernel) ⟨(Nat.le_of_ble_eq_true rfl), (Nat.le_of_ble_eq_true rfl)⟩) (xPV C w [1] rfl (by decide) (ci := 3) (q0 := 1) rfl rfl) rfl rfl hl.1 rfl (lv_room (Nat.le_of_ble_eq_true rfl)) dX6_poll_5 ⟨(Nat.le_of_ble_eq_true rfl), (Nat.le_of_ble_eq_true rfl)⟩) (fun f1202 H locs w => ?_)
  have w : xW G A s [(h0, .inr (10, [.ref h1, .ref h2, .ref h3, .ref h4, .ref h5, .ref h6, .ref h7, .int 0, .int 0])), (h1, .inr (3, [.int 0, .ref (sv 0), .int 0]))] H _ := w
  refine lv_if_ne (tgt := 15) C.1 C.2.1 dX6_poll_8 (by decide) (fun c9 => absurd (by decide) c9) (fun _ => ?_)
  refine lv_iconst (v := 1) C.1 C.2.1 dX6_poll_11 (by decide) ?_
  refine lv_goto (tgt := 16) C.1 C.2.1 dX6_poll_12 (by decide) ?_
  refine lv_iconst (v := 1) C.1 C.2.1 dX6_poll_16 (by decide) ?_
  refine x_ki C w [0] [1] rfl rfl (by decide) (by decide) (va_runV (As := [.int 1, .int 1]) (rest := []) (xfix C) (c17_X6_start l G cy sa sv h0 h1 h2 h3 h4 h5 h6 h7 (xtr C) _) (cwV 2 (xhts C) (xgV (maxL := 0) (cc := ⟨#[]⟩) (ret := none) gw_114 gw_115 gw_116 gw_58 gc_X6_start) rfl rfl rfl (by decide +kernel) ⟨(Nat.le_of_ble_eq_true rfl), (Nat.le_of_ble_eq_true rfl)⟩) (xPV C w [0] rfl (by decide) (ci := 10) (q0 := 0) rfl rfl) rfl rfl hl.1 rfl (lv_room (Nat.le_of_ble_eq_true rfl)) dX6_poll_17 ⟨(Nat.le_of_ble_eq_true rfl), (Nat.le_of_ble_eq_true rfl)⟩) (fun f1203 H locs w => ?_)
  have w : xW G A s [(h1, .inr (3, [.int 0, .ref (sv 0), .int 0])), (h0, .inr (10, [.ref h1, .ref h2, .ref h3, .ref h4, .ref h5, .ref h6, .ref h7, .int 0, .int 1]))] H _ := w
  refine lv_if_eq (tgt := 27) C.1 C.2.1 dX6_poll_20 (by decide) (fun c9 => absurd c9 (by decide)) (fun _ => ?_)
  refine lv_iconst (v := 0) C.1 C.2.1 dX6_poll_23 (by decide) ?_
  refine lv_goto (tgt := 39) C.1 C.2.1 dX6_poll_24 (by decide) ?_
  have w := w.sub (ws' := [(h0, .inr (10, [.ref h1, .ref h2, .ref h3, .ref h4, .ref h5, .ref h6, .ref h7, .int 0, .int 1])), (h1, .inr (3, [.int 0, .ref (sv 0), .int 0]))]) [1, 0] (by decide) rfl rfl
  exact x_iret C w hr (fun _ => 0) rfl rfl dX6_poll_39 (Nat.le_of_ble_eq_true rfl) (Nat.le_of_ble_eq_true rfl)
set_option maxHeartbeats 4000000 in
set_option maxRecDepth 100000 in
theorem c212_X4_rangePoll (l : Launch) (G : va_G) (cy : Nat → ClassId) (sa : String → Nat → Nat) (sv : Nat → Nat) (h0 h1 h2 h3 h4 h5 h6 h7 h8 h9 h10 : Nat) : xX l G cy sa sv yX4_rangePoll (Cond.code yX4_rangePoll cX4_rangePoll 5 (some .int) :: XG) { frames := 13, cells := 1, slots := 6, locals := 359 } [.ref h0, .int (-2147483648), .int 2147483647, .int 1] [(h0, .inr (8, [.ref h1, .ref h3, .ref h4, .ref h5, .ref h6, .int 0, .ref h7, .ref h8])), (h1, .inr (7, [.ref h2, .ref h9])), (h2, .inr (6, [.ref h10, .int 0]))] (fun f => [(h0, .inr (8, [.ref h1, .ref h3, .ref h4, .ref h5, .ref h6, .int 0, .ref h7, .ref h8])), (h1, .inr (7, [.ref h2, .ref h9])), (h2, .inr (6, [.ref h10, .int 0]))]) "java/lang/IllegalStateException" := by
  refine xofX (by decide) (Nat.le_of_ble_eq_true rfl) (fun p e s m below meth c A C w hno ls hl => ?_)
  have hl : lv_has ls 5 [(0, .ref h0), (1, .int (-2147483648)), (2, .int 2147483647), (3, .int 1)] := hl
  refine lv_aload_n C.1 C.2.1 dX4_rangePoll_0 rfl (lv_at hl 0 rfl) ?_
  refine lv_iload_n C.1 C.2.1 dX4_rangePoll_1 rfl (lv_at hl 1 rfl) ?_
  refine lv_iload_n C.1 C.2.1 dX4_rangePoll_2 rfl (lv_at hl 2 rfl) ?_
  refine lv_iload_n C.1 C.2.1 dX4_rangePoll_3 rfl (lv_at hl 3 rfl) ?_
  refine x_kx C w [0, 1, 2] [] rfl rfl (by decide) (by decide) (vx_runV (As := [.int (-2147483648), .int 2147483647, .int 1]) (rest := []) (xfix C) (c137_X4_rangeEnd l G cy sa sv h0 h1 h2 h3 h4 h5 h6 h7 h8 h9 h10 (xtr C) _) (cwV 3 (xhts C) (xgV (maxL := 0) (cc := ⟨#[]⟩) (ret := none) gw_400 gw_401 gw_402 gw_2 gc_X4_rangeEnd) rfl rfl rfl (by decide +kernel) ⟨(Nat.le_of_ble_eq_true rfl), (Nat.le_of_ble_eq_true rfl)⟩) (xPV C w [0, 1, 2] rfl (by decide) (ci := 8) (q0 := 0) rfl rfl) rfl rfl hl.1 rfl (lv_room (Nat.le_of_ble_eq_true rfl)) dX4_rangePoll_4 ⟨(Nat.le_of_ble_eq_true rfl), (Nat.le_of_ble_eq_true rfl)⟩) (fun f1218 H locs ce q9 w hce hcv hcl => ?_)
  have w : xW G A s [(h0, .inr (8, [.ref h1, .ref h3, .ref h4, .ref h5, .ref h6, .int 0, .ref h7, .ref h8])), (h1, .inr (7, [.ref h2, .ref h9])), (h2, .inr (6, [.ref h10, .int 0]))] H _ := w
  refine vx_widen (k := 1) (n := 6) (Nat.le_of_ble_eq_true rfl) (Nat.le_of_ble_eq_true rfl) ?_
  exact x_out C w hno (fun _ => 0) rfl hce hcv hcl (Nat.le_of_ble_eq_true rfl) (Nat.le_of_ble_eq_true rfl)
set_option maxHeartbeats 4000000 in
set_option maxRecDepth 100000 in
theorem c213_X4_poll (l : Launch) (G : va_G) (cy : Nat → ClassId) (sa : String → Nat → Nat) (sv : Nat → Nat) (h0 h1 h2 h3 h4 h5 h6 h7 h8 h9 h10 : Nat) : xX l G cy sa sv yX4_poll (Cond.code yX4_poll cX4_poll 2 (some .int) :: XG) { frames := 14, cells := 1, slots := 6, locals := 383 } [.ref h0, .int 1] [(h0, .inr (8, [.ref h1, .ref h3, .ref h4, .ref h5, .ref h6, .int 0, .ref h7, .ref h8])), (h1, .inr (7, [.ref h2, .ref h9])), (h2, .inr (6, [.ref h10, .int 0]))] (fun f => [(h0, .inr (8, [.ref h1, .ref h3, .ref h4, .ref h5, .ref h6, .int 0, .ref h7, .ref h8])), (h1, .inr (7, [.ref h2, .ref h9])), (h2, .inr (6, [.ref h10, .int 0]))]) "java/lang/IllegalStateException" := by
  refine xofX (by decide) (Nat.le_of_ble_eq_true rfl) (fun p e s m below meth c A C w hno ls hl => ?_)
  have hl : lv_has ls 2 [(0, .ref h0), (1, .int 1)] := hl
  refine lv_aload_n C.1 C.2.1 dX4_poll_0 rfl (lv_at hl 0 rfl) ?_
  refine x_ldc (v := (-2147483648)) C (List.mem_cons_of_mem _ gw_305) dX4_poll_1 ?_
  refine x_ldc (v := 2147483647) C (List.mem_cons_of_mem _ gw_306) dX4_poll_3 ?_
  refine lv_iload_n C.1 C.2.1 dX4_poll_5 rfl (lv_at hl 1 rfl) ?_
  refine x_kx C w [0, 1, 2] [] rfl rfl (by decide) (by decide) (vx_runV (As := [.int (-2147483648), .int 2147483647, .int 1]) (rest := []) (xfix C) (c212_X4_rangePoll l G cy sa sv h0 h1 h2 h3 h4 h5 h6 h7 h8 h9 h10 (xtr C) _) (cwV 3 (xhts C) (xgV (maxL := 0) (cc := ⟨#[]⟩) (ret := none) gw_461 gw_462 gw_463 gw_2 gc_X4_rangePoll) rfl rfl rfl (by decide +kernel) ⟨(Nat.le_of_ble_eq_true rfl), (Nat.le_of_ble_eq_true rfl)⟩) (xPV C w [0, 1, 2] rfl (by decide) (ci := 8) (q0 := 0) rfl rfl) rfl rfl hl.1 rfl (lv_room (Nat.le_of_ble_eq_true rfl)) dX4_poll_6 ⟨(Nat.le_of_ble_eq_true rfl), (Nat.le_of_ble_eq_true rfl)⟩) (fun f1219 H locs ce q9 w hce hcv hcl => ?_)
  have w : xW G A s [(h0, .inr (8, [.ref h1, .ref h3, .ref h4, .ref h5, .ref h6, .int 0, .ref h7, .ref h8])), (h1, .inr (7, [.ref h2, .ref h9])), (h2, .inr (6, [.ref h10, .int 0]))] H _ := w
  refine vx_widen (k := 1) (n := 6) (Nat.le_of_ble_eq_true rfl) (Nat.le_of_ble_eq_true rfl) ?_
  exact x_out C w hno (fun _ => 0) rfl hce hcv hcl (Nat.le_of_ble_eq_true rfl) (Nat.le_of_ble_eq_true rfl)
set_option maxHeartbeats 4000000 in
set_option maxRecDepth 100000 in
theorem c214_L_poll (l : Launch) (G : va_G) (cy : Nat → ClassId) (sa : String → Nat → Nat) (sv : Nat → Nat) (h0 h1 h2 h3 h4 h5 h6 h7 h8 h9 h10 h11 : Nat) : xM l G cy sa sv yL_poll (Cond.codeWith yL_poll cL_poll 4 (some .int) [(0, 10, 13, 21)] :: XG) { frames := 15, cells := 1, slots := 6, locals := 404 } [.ref h0, .int 1, .ref h1] [(h0, .inr (8, [.ref h2, .ref h4, .ref h5, .ref h6, .ref h7, .int 0, .ref h8, .ref h9])), (h2, .inr (7, [.ref h3, .ref h10])), (h3, .inr (6, [.ref h11, .int 0]))] (xQi G (fun f => [(h0, .inr (8, [.ref h2, .ref h4, .ref h5, .ref h6, .ref h7, .int 0, .ref h8, .ref h9])), (h2, .inr (7, [.ref h3, .ref h10])), (h3, .inr (6, [.ref h11, .int 0]))]) 1) := by
  refine xofH (by decide) (Nat.le_of_ble_eq_true rfl) (fun p e s m below meth c A C w hr hn hT ls hl => ?_)
  have hl : lv_has ls 4 [(0, .ref h0), (1, .int 1), (2, .ref h1)] := hl
  refine lv_aload_n C.1 C.2.1 dL_poll_0 rfl (lv_at hl 2 rfl) ?_
  refine lv_aload_n C.1 C.2.1 dL_poll_1 rfl (lv_at hl 0 rfl) ?_
  refine lv_iload_n C.1 C.2.1 dL_poll_2 rfl (lv_at hl 1 rfl) ?_
  refine x_kx C w [0, 1, 2] [] rfl rfl (by decide) (by decide) (vx_runV (As := [.int 1]) (rest := [.ref h1]) (xfix C) (c213_X4_poll l G cy sa sv h0 h2 h3 h4 h5 h6 h7 h8 h9 h10 h11 (xtr C) _) (cwV 1 (xhts C) (xgV (maxL := 0) (cc := ⟨#[]⟩) (ret := none) gw_465 gw_466 gw_467 gw_2 gc_X4_poll) rfl rfl rfl (by decide +kernel) ⟨(Nat.le_of_ble_eq_true rfl), (Nat.le_of_ble_eq_true rfl)⟩) (xPV C w [0, 1, 2] rfl (by decide) (ci := 8) (q0 := 0) rfl rfl) rfl rfl hl.1 rfl (lv_room (Nat.le_of_ble_eq_true rfl)) dL_poll_3 ⟨(Nat.le_of_ble_eq_true rfl), (Nat.le_of_ble_eq_true rfl)⟩) (fun f1220 H locs ce q9 w hce hcv hcl => ?_)
  have w : xW G A s [(h0, .inr (8, [.ref h2, .ref h4, .ref h5, .ref h6, .ref h7, .int 0, .ref h8, .ref h9])), (h2, .inr (7, [.ref h3, .ref h10])), (h3, .inr (6, [.ref h11, .int 0]))] H _ := w
  refine vx_widen (k := 1) (n := 6) (Nat.le_of_ble_eq_true rfl) (Nat.le_of_ble_eq_true rfl) ?_
  refine vx_catch (xown C) [] ⟨0, 10, 13, 21⟩ [] hT (fun z hz => nomatch hz) (by decide) (by decide) (xhts C _ (List.mem_cons_of_mem _ gw_407)) (va_any rfl (xs_c2 (xS C))) hce hcv hcl ?_
  refine lv_astore_n (lv' := [(3, .ref q9), (0, .ref h0), (1, .int 1), (2, .ref h1)]) C.1 C.2.1 dL_poll_13 rfl hl (by decide) rfl (fun ls hl => ?_)
  refine lv_iconst (v := 1) C.1 C.2.1 dL_poll_14 (by decide) ?_
  exact x_iret C w hr (fun _ => 0) rfl rfl dL_poll_15 (Nat.le_of_ble_eq_true rfl) (Nat.le_of_ble_eq_true rfl)
set_option maxHeartbeats 4000000 in
set_option maxRecDepth 100000 in
theorem c215_X6_poll (l : Launch) (G : va_G) (cy : Nat → ClassId) (sa : String → Nat → Nat) (sv : Nat → Nat) (h0 h1 h2 h3 h4 h5 h6 h7 : Nat) : xM l G cy sa sv yX6_poll (Cond.code yX6_poll cX6_poll 2 (some .int) :: XG) { frames := 9, cells := 0, slots := 0, locals := 272 } [.ref h0, .int 1] [(h0, .inr (10, [.ref h1, .ref h2, .ref h3, .ref h4, .ref h5, .ref h6, .ref h7, .int 0, .int 0])), (h1, .inr (3, [.int 0, .ref (sv 0), .int 0]))] (xQi G (fun f => [(h0, .inr (10, [.ref h1, .ref h2, .ref h3, .ref h4, .ref h5, .ref h6, .ref h7, .int 0, .int 1])), (h1, .inr (3, [.int 0, .ref (sv 0), .int 0]))]) 0) := by
  refine xof (by decide) (Nat.le_of_ble_eq_true rfl) (fun p e s m below meth c A C w hr hn ls hl => ?_)
  have hl : lv_has ls 2 [(0, .ref h0), (1, .int 1)] := hl
  refine lv_aload_n C.1 C.2.1 dX6_poll_0 rfl (lv_at hl 0 rfl) ?_
  refine lv_aload_n C.1 C.2.1 dX6_poll_1 rfl (lv_at hl 0 rfl) ?_
  refine x_get (v := .ref h1) C w 0 10 0 (xin_X6 _) rfl rfl (by decide) (List.mem_cons_of_mem _ gw_78) rfl rfl dX6_poll_2 ?_
  refine x_ki C w [1] [0] rfl rfl (by decide) (by decide) (va_runV (As := []) (rest := [.ref h0]) (xfix C) (c47_Jx4a65c_size_8abf5 l G cy sa sv h1 (xtr C) _) (cwV 0 (xhts C) (xgV (maxL := 0) (cc := ⟨#[]⟩) (ret := none) gw_195 gw_196 gw_197 gw_62 gc_Jx4a65c_size_8abf5) rfl rfl rfl (by decide +kernel) ⟨(Nat.le_of_ble_eq_true rfl), (Nat.le_of_ble_eq_true rfl)⟩) (xPV C w [1] rfl (by decide) (ci := 3) (q0 := 1) rfl rfl) rfl rfl hl.1 rfl (lv_room (Nat.le_of_ble_eq_true rfl)) dX6_poll_5 ⟨(Nat.le_of_ble_eq_true rfl), (Nat.le_of_ble_eq_true rfl)⟩) (fun f1223 H locs w => ?_)
  have w : xW G A s [(h0, .inr (10, [.ref h1, .ref h2, .ref h3, .ref h4, .ref h5, .ref h6, .ref h7, .int 0, .int 0])), (h1, .inr (3, [.int 0, .ref (sv 0), .int 0]))] H _ := w
  refine lv_if_ne (tgt := 15) C.1 C.2.1 dX6_poll_8 (by decide) (fun c9 => absurd (by decide) c9) (fun _ => ?_)
  refine lv_iconst (v := 1) C.1 C.2.1 dX6_poll_11 (by decide) ?_
  refine lv_goto (tgt := 16) C.1 C.2.1 dX6_poll_12 (by decide) ?_
  refine lv_iconst (v := 1) C.1 C.2.1 dX6_poll_16 (by decide) ?_
  refine x_ki C w [0] [1] rfl rfl (by decide) (by decide) (va_runV (As := [.int 1, .int 1]) (rest := []) (xfix C) (c17_X6_start l G cy sa sv h0 h1 h2 h3 h4 h5 h6 h7 (xtr C) _) (cwV 2 (xhts C) (xgV (maxL := 0) (cc := ⟨#[]⟩) (ret := none) gw_114 gw_115 gw_116 gw_58 gc_X6_start) rfl rfl rfl (by decide +kernel) ⟨(Nat.le_of_ble_eq_true rfl), (Nat.le_of_ble_eq_true rfl)⟩) (xPV C w [0] rfl (by decide) (ci := 10) (q0 := 0) rfl rfl) rfl rfl hl.1 rfl (lv_room (Nat.le_of_ble_eq_true rfl)) dX6_poll_17 ⟨(Nat.le_of_ble_eq_true rfl), (Nat.le_of_ble_eq_true rfl)⟩) (fun f1224 H locs w => ?_)
  have w : xW G A s [(h1, .inr (3, [.int 0, .ref (sv 0), .int 0])), (h0, .inr (10, [.ref h1, .ref h2, .ref h3, .ref h4, .ref h5, .ref h6, .ref h7, .int 0, .int 1]))] H _ := w
  refine lv_if_eq (tgt := 27) C.1 C.2.1 dX6_poll_20 (by decide) (fun c9 => absurd c9 (by decide)) (fun _ => ?_)
  refine lv_iconst (v := 0) C.1 C.2.1 dX6_poll_23 (by decide) ?_
  refine lv_goto (tgt := 39) C.1 C.2.1 dX6_poll_24 (by decide) ?_
  have w := w.sub (ws' := [(h0, .inr (10, [.ref h1, .ref h2, .ref h3, .ref h4, .ref h5, .ref h6, .ref h7, .int 0, .int 1])), (h1, .inr (3, [.int 0, .ref (sv 0), .int 0]))]) [1, 0] (by decide) rfl rfl
  exact x_iret C w hr (fun _ => 0) rfl rfl dX6_poll_39 (Nat.le_of_ble_eq_true rfl) (Nat.le_of_ble_eq_true rfl)
set_option maxHeartbeats 4000000 in
set_option maxRecDepth 100000 in
theorem c216_J5_init_d00df (l : Launch) (G : va_G) (cy : Nat → ClassId) (sa : String → Nat → Nat) (sv : Nat → Nat) (h0 : Nat) : xM l G cy sa sv yJ5_init_d00df (Cond.code yJ5_init_d00df cJ5_init_d00df 2 none :: XG) { frames := 8, cells := 1, slots := 16, locals := 250 } [.ref h0, .int 16] [(h0, .inr (1, [.null, .int 0, .int 0, .int 0]))] (xQv G (fun f => [(h0, .inr (1, [.ref (f 0), .int 0, .int 0, .int 0])), ((f 0), .inl (cy 0, 16, .inl (fun _ => 0)))])) := by
  refine xof (by decide) (Nat.le_of_ble_eq_true rfl) (fun p e s m below meth c A C w hr hn ls hl => ?_)
  have hl : lv_has ls 2 [(0, .ref h0), (1, .int 16)] := hl
  refine lv_aload_n C.1 C.2.1 dJ5_init_d00df_0 rfl (lv_at hl 0 rfl) ?_
  refine x_oinit C hl.1 (List.mem_cons_of_mem _ gw_478) (List.mem_cons_of_mem _ gw_4) (List.mem_cons_of_mem _ gw_oi) dJ5_init_d00df_1 (Nat.le_of_ble_eq_true rfl) (Nat.le_of_ble_eq_true rfl) (Nat.le_of_ble_eq_true rfl) ?_
  refine x_gets C w (xs_cs (xS C)) (List.mem_cons_of_mem _ gw_479) rfl dJ5_init_d00df_4 ?_
  refine lv_if_eq (tgt := 25) C.1 C.2.1 dJ5_init_d00df_7 (by decide) (fun c9 => absurd c9 (by decide)) (fun _ => ?_)
  refine lv_aload_n C.1 C.2.1 dJ5_init_d00df_10 rfl (lv_at hl 0 rfl) ?_
  refine lv_iload_n C.1 C.2.1 dJ5_init_d00df_11 rfl (lv_at hl 1 rfl) ?_
  refine x_newa (atype := .byte) (ty := .byte) (N := 16) C w 0 (fun _ _ h => h) rfl (List.mem_cons_of_mem _ gw_480) rfl rfl (by decide) (by decide) (by decide) (Nat.le_of_ble_eq_true rfl) (Nat.le_of_ble_eq_true rfl) dJ5_init_d00df_12 (fun q1263 H w => ?_)
  have w : xW G A s [(h0, .inr (1, [.null, .int 0, .int 0, .int 0])), (q1263, .inl (cy 0, 16, .inl (fun _ => 0)))] H _ := w
  refine W.widen (k := 1) (n := 16) (Nat.le_of_ble_eq_true rfl) (Nat.le_of_ble_eq_true rfl) ?_
  refine x_put (ty := (.array .byte)) (ty0 := tyJ4) C w 0 1 0 (xin_J4 _) tyJ4_ok nmJ4 rfl rfl (by decide) (List.mem_cons_of_mem _ gw_481) rfl rfl (by decide +kernel) rfl rfl (Nat.le_of_ble_eq_true rfl) dJ5_init_d00df_14 (fun H locs w => ?_)
  have w : xW G A s [(h0, .inr (1, [.ref q1263, .int 0, .int 0, .int 0])), (q1263, .inl (cy 0, 16, .inl (fun _ => 0)))] H _ := w
  refine lv_aload_n C.1 C.2.1 dJ5_init_d00df_17 rfl (lv_at hl 0 rfl) ?_
  refine lv_iconst (v := 0) C.1 C.2.1 dJ5_init_d00df_18 (by decide) ?_
  refine x_put (ty := .byte) (ty0 := tyJ4) C w 0 1 1 (xin_J4 _) tyJ4_ok nmJ4 rfl rfl (by decide) (List.mem_cons_of_mem _ gw_482) rfl rfl (by decide +kernel) rfl rfl (Nat.le_of_ble_eq_true rfl) dJ5_init_d00df_19 (fun H locs w => ?_)
  have w : xW G A s [(h0, .inr (1, [.ref q1263, .int 0, .int 0, .int 0])), (q1263, .inl (cy 0, 16, .inl (fun _ => 0)))] H _ := w
  refine lv_goto (tgt := 38) C.1 C.2.1 dJ5_init_d00df_22 (by decide) ?_
  exact x_vret C w hr (fun k => match k with | 0 => q1263 | _ => 0) rfl dJ5_init_d00df_38 (Nat.le_of_ble_eq_true rfl) (Nat.le_of_ble_eq_true rfl)
set_option maxHeartbeats 4000000 in
set_option maxRecDepth 100000 in
theorem c217_J4_init_da8c8 (l : Launch) (G : va_G) (cy : Nat → ClassId) (sa : String → Nat → Nat) (sv : Nat → Nat) (h0 : Nat) : xM l G cy sa sv yJ4_init_da8c8 (Cond.code yJ4_init_da8c8 cJ4_init_da8c8 1 none :: XG) { frames := 9, cells := 1, slots := 16, locals := 271 } [.ref h0] [(h0, .inr (1, [.null, .int 0, .int 0, .int 0]))] (xQv G (fun f => [(h0, .inr (1, [.ref (f 0), .int 0, .int 0, .int 0])), ((f 0), .inl (cy 0, 16, .inl (fun _ => 0)))])) := by
  refine xof (by decide) (Nat.le_of_ble_eq_true rfl) (fun p e s m below meth c A C w hr hn ls hl => ?_)
  have hl : lv_has ls 1 [(0, .ref h0)] := hl
  refine lv_aload_n C.1 C.2.1 dJ4_init_da8c8_0 rfl (lv_at hl 0 rfl) ?_
  refine lv_bipush (v := 16) C.1 C.2.1 dJ4_init_da8c8_1 (by decide) ?_
  refine x_kv C w [0] [] rfl rfl (by decide) (by decide) (va_runI (As := [.int 16]) (rest := []) (xfix C) (c216_J5_init_d00df l G cy sa sv h0 (xtr C) _) (cwI 1 (xhts C) (xgI gc_J5_init_d00df) rfl rfl rfl (xhts C _ (List.mem_cons_of_mem _ gw_484)) (xhts C _ (List.mem_cons_of_mem _ gw_485)) (xhts C _ (List.mem_cons_of_mem _ gw_486)) rfl (by decide +kernel) ⟨(Nat.le_of_ble_eq_true rfl), (Nat.le_of_ble_eq_true rfl)⟩) (xPS C w [0] rfl (by decide)) rfl rfl hl.1 rfl (lv_room (Nat.le_of_ble_eq_true rfl)) dJ4_init_da8c8_3 ⟨(Nat.le_of_ble_eq_true rfl), (Nat.le_of_ble_eq_true rfl)⟩) (fun f1265 H locs w => ?_)
  have w : xW G A s [(h0, .inr (1, [.ref (f1265 0), .int 0, .int 0, .int 0])), ((f1265 0), .inl (cy 0, 16, .inl (fun _ => 0)))] H _ := w
  refine W.widen (k := 1) (n := 16) (Nat.le_of_ble_eq_true rfl) (Nat.le_of_ble_eq_true rfl) ?_
  exact x_vret C w hr (fun k => match k with | 0 => (f1265 0) | _ => 0) rfl dJ4_init_da8c8_6 (Nat.le_of_ble_eq_true rfl) (Nat.le_of_ble_eq_true rfl)
set_option maxHeartbeats 4000000 in
set_option maxRecDepth 100000 in
theorem c218_J5_getValue_6d5f1 (l : Launch) (G : va_G) (cy : Nat → ClassId) (sa : String → Nat → Nat) (sv : Nat → Nat) (h0 h1 : Nat) : xM l G cy sa sv yJ5_getValue_6d5f1 (Cond.code yJ5_getValue_6d5f1 cJ5_getValue_6d5f1 1 (some (.array .byte)) :: XG) { frames := 8, cells := 0, slots := 0, locals := 250 } [.ref h0] [(h0, .inr (1, [.ref h1, .int 0, .int 0, .int 0]))] (xQr G (fun f => [(h0, .inr (1, [.ref h1, .int 0, .int 0, .int 0]))]) (fun f => h1)) := by
  refine xof (by decide) (Nat.le_of_ble_eq_true rfl) (fun p e s m below meth c A C w hr hn ls hl => ?_)
  have hl : lv_has ls 1 [(0, .ref h0)] := hl
  refine lv_aload_n C.1 C.2.1 dJ5_getValue_6d5f1_0 rfl (lv_at hl 0 rfl) ?_
  refine x_get (v := .ref h1) C w 0 1 0 (xin_J4 _) rfl rfl (by decide) (List.mem_cons_of_mem _ gw_481) rfl rfl dJ5_getValue_6d5f1_1 ?_
  exact x_aret C w hr (Or.inr ⟨_, rfl⟩) (fun _ => 0) rfl rfl dJ5_getValue_6d5f1_4 (Nat.le_of_ble_eq_true rfl) (Nat.le_of_ble_eq_true rfl)
set_option maxHeartbeats 4000000 in
set_option maxRecDepth 100000 in
theorem c219_J5_length_8abf5 (l : Launch) (G : va_G) (cy : Nat → ClassId) (sa : String → Nat → Nat) (sv : Nat → Nat) (h0 h1 : Nat) : xM l G cy sa sv yJ5_length_8abf5 (Cond.code yJ5_length_8abf5 cJ5_length_8abf5 1 (some .int) :: XG) { frames := 8, cells := 0, slots := 0, locals := 250 } [.ref h0] [(h0, .inr (1, [.ref h1, .int 0, .int 0, .int 0]))] (xQi G (fun f => [(h0, .inr (1, [.ref h1, .int 0, .int 0, .int 0]))]) 0) := by
  refine xof (by decide) (Nat.le_of_ble_eq_true rfl) (fun p e s m below meth c A C w hr hn ls hl => ?_)
  have hl : lv_has ls 1 [(0, .ref h0)] := hl
  refine lv_aload_n C.1 C.2.1 dJ5_length_8abf5_0 rfl (lv_at hl 0 rfl) ?_
  refine x_get (v := .int 0) C w 0 1 3 (xin_J4 _) rfl rfl (by decide) (List.mem_cons_of_mem _ gw_499) rfl rfl dJ5_length_8abf5_1 ?_
  exact x_iret C w hr (fun _ => 0) rfl rfl dJ5_length_8abf5_4 (Nat.le_of_ble_eq_true rfl) (Nat.le_of_ble_eq_true rfl)
set_option maxHeartbeats 4000000 in
set_option maxRecDepth 100000 in
theorem c220_J4_length_8abf5 (l : Launch) (G : va_G) (cy : Nat → ClassId) (sa : String → Nat → Nat) (sv : Nat → Nat) (h0 h1 : Nat) : xM l G cy sa sv yJ4_length_8abf5 (Cond.code yJ4_length_8abf5 cJ4_length_8abf5 1 (some .int) :: XG) { frames := 9, cells := 0, slots := 0, locals := 270 } [.ref h0] [(h0, .inr (1, [.ref h1, .int 0, .int 0, .int 0]))] (xQi G (fun f => [(h0, .inr (1, [.ref h1, .int 0, .int 0, .int 0]))]) 0) := by
  refine xof (by decide) (Nat.le_of_ble_eq_true rfl) (fun p e s m below meth c A C w hr hn ls hl => ?_)
  have hl : lv_has ls 1 [(0, .ref h0)] := hl
  refine lv_aload_n C.1 C.2.1 dJ4_length_8abf5_0 rfl (lv_at hl 0 rfl) ?_
  refine x_ki C w [0] [] rfl rfl (by decide) (by decide) (va_runSU ((xK C).1 1 _ rfl).2 (As := []) (rest := []) (xfix C) (c219_J5_length_8abf5 l G cy sa sv h0 h1 (xtr C) _) (va_cwSU 0 (xhts C) (xgSU gw_501 gw_502 gw_503 gw_504 gw_484 gc_J5_length_8abf5) rfl rfl rfl (by decide +kernel) ⟨(Nat.le_of_ble_eq_true rfl), (Nat.le_of_ble_eq_true rfl)⟩) (xPV C w [0] rfl (by decide) (ci := 1) (q0 := 0) rfl rfl) rfl rfl hl.1 rfl (lv_room (Nat.le_of_ble_eq_true rfl)) dJ4_length_8abf5_1 ⟨(Nat.le_of_ble_eq_true rfl), (Nat.le_of_ble_eq_true rfl)⟩) (fun f1278 H locs w => ?_)
  have w : xW G A s [(h0, .inr (1, [.ref h1, .int 0, .int 0, .int 0]))] H _ := w
  exact x_iret C w hr (fun _ => 0) rfl rfl dJ4_length_8abf5_4 (Nat.le_of_ble_eq_true rfl) (Nat.le_of_ble_eq_true rfl)
set_option maxHeartbeats 4000000 in
set_option maxRecDepth 100000 in
theorem c221_J5_isLatin1_aae02 (l : Launch) (G : va_G) (cy : Nat → ClassId) (sa : String → Nat → Nat) (sv : Nat → Nat) (h0 h1 : Nat) : xM l G cy sa sv yJ5_isLatin1_aae02 (Cond.code yJ5_isLatin1_aae02 cJ5_isLatin1_aae02 1 (some .boolean) :: XG) { frames := 8, cells := 0, slots := 0, locals := 250 } [.ref h0] [(h0, .inr (1, [.ref h1, .int 0, .int 0, .int 0]))] (xQi G (fun f => [(h0, .inr (1, [.ref h1, .int 0, .int 0, .int 0]))]) 1) := by
  refine xof (by decide) (Nat.le_of_ble_eq_true rfl) (fun p e s m below meth c A C w hr hn ls hl => ?_)
  have hl : lv_has ls 1 [(0, .ref h0)] := hl
  refine x_gets C w (xs_cs (xS C)) (List.mem_cons_of_mem _ gw_479) rfl dJ5_isLatin1_aae02_0 ?_
  refine lv_if_eq (tgt := 17) C.1 C.2.1 dJ5_isLatin1_aae02_3 (by decide) (fun c9 => absurd c9 (by decide)) (fun _ => ?_)
  refine lv_aload_n C.1 C.2.1 dJ5_isLatin1_aae02_6 rfl (lv_at hl 0 rfl) ?_
  refine x_get (v := .int 0) C w 0 1 1 (xin_J4 _) rfl rfl (by decide) (List.mem_cons_of_mem _ gw_482) rfl rfl dJ5_isLatin1_aae02_7 ?_
  refine lv_if_ne (tgt := 17) C.1 C.2.1 dJ5_isLatin1_aae02_10 (by decide) (fun c9 => absurd (by decide) c9) (fun _ => ?_)
  refine lv_iconst (v := 1) C.1 C.2.1 dJ5_isLatin1_aae02_13 (by decide) ?_
  refine lv_goto (tgt := 18) C.1 C.2.1 dJ5_isLatin1_aae02_14 (by decide) ?_
  exact x_zret C w hr rfl (fun _ => 0) rfl rfl dJ5_isLatin1_aae02_18 (Nat.le_of_ble_eq_true rfl) (Nat.le_of_ble_eq_true rfl)
set_option maxHeartbeats 4000000 in
set_option maxRecDepth 100000 in
theorem c222_J7_checkLength_df160 (l : Launch) (G : va_G) (cy : Nat → ClassId) (sa : String → Nat → Nat) (sv : Nat → Nat) : xM l G cy sa sv yJ7_checkLength_df160 (Cond.code yJ7_checkLength_df160 cJ7_checkLength_df160 2 none :: XG) { frames := 8, cells := 0, slots := 0, locals := 250 } [.int 0, .int 0] [] (xQv G (fun f => [])) := by
  refine xof (by decide) (Nat.le_of_ble_eq_true rfl) (fun p e s m below meth c A C w hr hn ls hl => ?_)
  have hl : lv_has ls 2 [(0, .int 0), (1, .int 0)] := hl
  refine lv_iload_n C.1 C.2.1 dJ7_checkLength_df160_0 rfl (lv_at hl 1 rfl) ?_
  refine lv_iload_n C.1 C.2.1 dJ7_checkLength_df160_1 rfl (lv_at hl 0 rfl) ?_
  refine lv_icmp_ge (tgt := 37) C.1 C.2.1 dJ7_checkLength_df160_2 (by decide) (fun _ => ?_) (fun c9 => absurd (by decide) c9)
  exact x_vret C w hr (fun _ => 0) rfl dJ7_checkLength_df160_37 (Nat.le_of_ble_eq_true rfl) (Nat.le_of_ble_eq_true rfl)
set_option maxHeartbeats 4000000 in
set_option maxRecDepth 100000 in
theorem c223_J7_copyOfRangeByte_39247 (l : Launch) (G : va_G) (cy : Nat → ClassId) (sa : String → Nat → Nat) (sv : Nat → Nat) (h0 : Nat) : xM l G cy sa sv yJ7_copyOfRangeByte_39247 (Cond.code yJ7_copyOfRangeByte_39247 cJ7_copyOfRangeByte_39247 5 (some (.array .byte)) :: XG) { frames := 9, cells := 1, slots := 0, locals := 271 } [.ref h0, .int 0, .int 0] [(h0, .inl (cy 0, 16, .inl (fun _ => 0)))] (xQr G (fun f => [(h0, .inl (cy 0, 16, .inl (fun _ => 0))), ((f 0), .inl (cy 0, 0, .inl (va_cpy (fun _ => 0) (fun _ => 0) 0 0 0)))]) (fun f => (f 0))) := by
  refine xof (by decide) (Nat.le_of_ble_eq_true rfl) (fun p e s m below meth c A C w hr hn ls hl => ?_)
  have hl : lv_has ls 5 [(0, .ref h0), (1, .int 0), (2, .int 0)] := hl
  refine lv_iload_n C.1 C.2.1 dJ7_copyOfRangeByte_39247_0 rfl (lv_at hl 1 rfl) ?_
  refine lv_iload_n C.1 C.2.1 dJ7_copyOfRangeByte_39247_1 rfl (lv_at hl 2 rfl) ?_
  refine x_kv C w [] [0] rfl rfl (by decide) (by decide) (va_runS (As := [.int 0, .int 0]) (rest := []) (xfix C) (c222_J7_checkLength_df160 l G cy sa sv (xtr C) _) (va_cwS 2 (xhts C) (xgS gw_517 gw_518 gw_516 gc_J7_checkLength_df160) rfl rfl rfl (by decide +kernel) ⟨(Nat.le_of_ble_eq_true rfl), (Nat.le_of_ble_eq_true rfl)⟩) (xPS C w [] rfl (by decide)) rfl rfl hl.1 rfl (lv_room (Nat.le_of_ble_eq_true rfl)) dJ7_copyOfRangeByte_39247_2 ⟨(Nat.le_of_ble_eq_true rfl), (Nat.le_of_ble_eq_true rfl)⟩) (fun f1285 H locs w => ?_)
  have w : xW G A s [(h0, .inl (cy 0, 16, .inl (fun _ => 0)))] H _ := w
  refine lv_iload_n C.1 C.2.1 dJ7_copyOfRangeByte_39247_5 rfl (lv_at hl 2 rfl) ?_
  refine lv_iload_n C.1 C.2.1 dJ7_copyOfRangeByte_39247_6 rfl (lv_at hl 1 rfl) ?_
  refine lv_isub C.1 C.2.1 dJ7_copyOfRangeByte_39247_7 ?_
  refine x_is (y := 0) (by decide) ?_
  refine lv_istore_n (lv' := [(3, .int 0), (0, .ref h0), (1, .int 0), (2, .int 0)]) C.1 C.2.1 dJ7_copyOfRangeByte_39247_8 rfl hl (by decide) rfl (fun ls hl => ?_)
  refine lv_iload_n C.1 C.2.1 dJ7_copyOfRangeByte_39247_9 rfl (lv_at hl 0 rfl) ?_
  refine x_newa (atype := .byte) (ty := .byte) (N := 0) C w 0 (fun _ _ h => h) rfl (List.mem_cons_of_mem _ gw_480) rfl rfl (by decide) (by decide) (by decide) (Nat.le_of_ble_eq_true rfl) (Nat.le_of_ble_eq_true rfl) dJ7_copyOfRangeByte_39247_10 (fun q1286 H w => ?_)
  have w : xW G A s [(h0, .inl (cy 0, 16, .inl (fun _ => 0))), (q1286, .inl (cy 0, 0, .inl (fun _ => 0)))] H _ := w
  refine W.widen (k := 1) (n := 0) (Nat.le_of_ble_eq_true rfl) (Nat.le_of_ble_eq_true rfl) ?_
  refine lv_astore (lv' := [(4, .ref q1286), (3, .int 0), (0, .ref h0), (1, .int 0), (2, .int 0)]) C.1 C.2.1 dJ7_copyOfRangeByte_39247_12 hl (by decide) rfl (fun ls hl => ?_)
  refine lv_aload_n C.1 C.2.1 dJ7_copyOfRangeByte_39247_14 rfl (lv_at hl 2 rfl) ?_
  refine lv_iload_n C.1 C.2.1 dJ7_copyOfRangeByte_39247_15 rfl (lv_at hl 3 rfl) ?_
  refine lv_aload C.1 C.2.1 dJ7_copyOfRangeByte_39247_16 (lv_at hl 0 rfl) ?_
  refine lv_iconst (v := 0) C.1 C.2.1 dJ7_copyOfRangeByte_39247_18 (by decide) ?_
  refine lv_aload_n C.1 C.2.1 dJ7_copyOfRangeByte_39247_19 rfl (lv_at hl 2 rfl) ?_
  refine x_alen (v := 16) C w 0 0 rfl rfl (by rfl) dJ7_copyOfRangeByte_39247_20 ?_
  refine lv_iload_n C.1 C.2.1 dJ7_copyOfRangeByte_39247_21 rfl (lv_at hl 3 rfl) ?_
  refine lv_isub C.1 C.2.1 dJ7_copyOfRangeByte_39247_22 ?_
  refine x_is (y := 16) (by decide) ?_
  refine lv_iload_n C.1 C.2.1 dJ7_copyOfRangeByte_39247_23 rfl (lv_at hl 1 rfl) ?_
  refine va_mmin C.1 C.2.1 (C.2.2.1.trans hl.1.symm) (xown C) (xhts C _ (List.mem_cons_of_mem _ gw_519)) (xhts C _ (List.mem_cons_of_mem _ gw_420)) (xhts C _ (List.mem_cons_of_mem _ gw_217)) (xhts C _ (List.mem_cons_of_mem _ gm_min)) (Nat.le_of_ble_eq_true rfl) (Nat.le_of_ble_eq_true rfl) (Nat.le_of_ble_eq_true rfl) (Nat.le_of_ble_eq_true rfl) dJ7_copyOfRangeByte_39247_24 ?_
  refine x_is (y := 0) (if_pos (by decide)) ?_
  refine x_copyi (sp' := 0) (dp' := 0) (n' := 0) C w hl.1 0 1 0 (List.mem_cons_of_mem _ gw_520) (List.mem_cons_of_mem _ gw_521) (List.mem_cons_of_mem _ gw_522) (List.mem_cons_of_mem _ gw_523) rfl rfl rfl rfl rfl (by decide) (by decide) (by decide) (by decide) (by decide) (by decide) (by decide) (by decide) (fun i hi => absurd hi (Nat.not_lt_zero i)) (Nat.le_of_ble_eq_true rfl) (Nat.le_of_ble_eq_true rfl) dJ7_copyOfRangeByte_39247_27 (fun H locs w => ?_)
  have w : xW G A s [(h0, .inl (cy 0, 16, .inl (fun _ => 0))), (q1286, .inl (cy 0, 0, .inl (va_cpy (fun _ => 0) (fun _ => 0) 0 0 0)))] H _ := w
  refine lv_aload C.1 C.2.1 dJ7_copyOfRangeByte_39247_30 (lv_at hl 0 rfl) ?_
  exact x_aret C w hr (Or.inr ⟨_, rfl⟩) (fun k => match k with | 0 => q1286 | _ => 0) rfl rfl dJ7_copyOfRangeByte_39247_32 (Nat.le_of_ble_eq_true rfl) (Nat.le_of_ble_eq_true rfl)
set_option maxHeartbeats 4000000 in
set_option maxRecDepth 100000 in
theorem c224_J7_copyOfRange_39247 (l : Launch) (G : va_G) (cy : Nat → ClassId) (sa : String → Nat → Nat) (sv : Nat → Nat) (h0 : Nat) : xM l G cy sa sv yJ7_copyOfRange_39247 (Cond.code yJ7_copyOfRange_39247 cJ7_copyOfRange_39247 3 (some (.array .byte)) :: XG) { frames := 10, cells := 1, slots := 0, locals := 295 } [.ref h0, .int 0, .int 0] [(h0, .inl (cy 0, 16, .inl (fun _ => 0)))] (xQr G (fun f => [(h0, .inl (cy 0, 16, .inl (fun _ => 0))), ((f 0), .inl (cy 0, 0, .inl (va_cpy (fun _ => 0) (fun _ => 0) 0 0 0)))]) (fun f => (f 0))) := by
  refine xof (by decide) (Nat.le_of_ble_eq_true rfl) (fun p e s m below meth c A C w hr hn ls hl => ?_)
  have hl : lv_has ls 3 [(0, .ref h0), (1, .int 0), (2, .int 0)] := hl
  refine lv_iload_n C.1 C.2.1 dJ7_copyOfRange_39247_0 rfl (lv_at hl 1 rfl) ?_
  refine lv_if_ne (tgt := 10) C.1 C.2.1 dJ7_copyOfRange_39247_1 (by decide) (fun c9 => absurd (by decide) c9) (fun _ => ?_)
  refine lv_iload_n C.1 C.2.1 dJ7_copyOfRange_39247_4 rfl (lv_at hl 2 rfl) ?_
  refine lv_aload_n C.1 C.2.1 dJ7_copyOfRange_39247_5 rfl (lv_at hl 0 rfl) ?_
  refine x_alen (v := 16) C w 0 0 rfl rfl (by rfl) dJ7_copyOfRange_39247_6 ?_
  refine lv_icmp_eq (tgt := 17) C.1 C.2.1 dJ7_copyOfRange_39247_7 (by decide) (fun c9 => absurd c9 (by decide)) (fun _ => ?_)
  refine lv_aload_n C.1 C.2.1 dJ7_copyOfRange_39247_10 rfl (lv_at hl 0 rfl) ?_
  refine lv_iload_n C.1 C.2.1 dJ7_copyOfRange_39247_11 rfl (lv_at hl 1 rfl) ?_
  refine lv_iload_n C.1 C.2.1 dJ7_copyOfRange_39247_12 rfl (lv_at hl 2 rfl) ?_
  refine x_kr C w [0] [] rfl rfl (by decide) (by decide) (va_runS (As := [.ref h0, .int 0, .int 0]) (rest := []) (xfix C) (c223_J7_copyOfRangeByte_39247 l G cy sa sv h0 (xtr C) _) (va_cwS 3 (xhts C) (xgS gw_525 gw_526 gw_516 gc_J7_copyOfRangeByte_39247) rfl rfl rfl (by decide +kernel) ⟨(Nat.le_of_ble_eq_true rfl), (Nat.le_of_ble_eq_true rfl)⟩) (xPS C w [0] rfl (by decide)) rfl rfl hl.1 rfl (lv_room (Nat.le_of_ble_eq_true rfl)) dJ7_copyOfRange_39247_13 ⟨(Nat.le_of_ble_eq_true rfl), (Nat.le_of_ble_eq_true rfl)⟩) (fun f1288 H locs w => ?_)
  have w : xW G A s [(h0, .inl (cy 0, 16, .inl (fun _ => 0))), ((f1288 0), .inl (cy 0, 0, .inl (va_cpy (fun _ => 0) (fun _ => 0) 0 0 0)))] H _ := w
  refine W.widen (k := 1) (n := 0) (Nat.le_of_ble_eq_true rfl) (Nat.le_of_ble_eq_true rfl) ?_
  exact x_aret C w hr (Or.inr ⟨_, rfl⟩) (fun k => match k with | 0 => (f1288 0) | _ => 0) rfl rfl dJ7_copyOfRange_39247_16 (Nat.le_of_ble_eq_true rfl) (Nat.le_of_ble_eq_true rfl)
set_option maxHeartbeats 4000000 in
set_option maxRecDepth 100000 in
theorem c225_J0_init_db425 (l : Launch) (G : va_G) (cy : Nat → ClassId) (sa : String → Nat → Nat) (sv : Nat → Nat) (h0 h1 h2 : Nat) : xM l G cy sa sv yJ0_init_db425 (Cond.code yJ0_init_db425 cJ0_init_db425 5 none :: XG) { frames := 11, cells := 1, slots := 0, locals := 317 } [.ref h0, .ref h1, .null] [(h1, .inr (1, [.ref h2, .int 0, .int 0, .int 0])), (h0, .inr (0, [.null, .int 0, .int 0, .int 0])), (h2, .inl (cy 0, 16, .inl (fun _ => 0)))] (xQv G (fun f => [(h1, .inr (1, [.ref h2, .int 0, .int 0, .int 0])), (h0, .inr (0, [.ref (f 0), .int 0, .int 0, .int 0])), (h2, .inl (cy 0, 16, .inl (fun _ => 0))), ((f 0), .inl (cy 0, 0, .inl (va_cpy (fun _ => 0) (fun _ => 0) 0 0 0)))])) := by
  refine xof (by decide) (Nat.le_of_ble_eq_true rfl) (fun p e s m below meth c A C w hr hn ls hl => ?_)
  have hl : lv_has ls 5 [(0, .ref h0), (1, .ref h1), (2, .null)] := hl
  refine lv_aload_n C.1 C.2.1 dJ0_init_db425_0 rfl (lv_at hl 0 rfl) ?_
  refine x_oinit C hl.1 (List.mem_cons_of_mem _ gw_493) (List.mem_cons_of_mem _ gw_4) (List.mem_cons_of_mem _ gw_oi) dJ0_init_db425_1 (Nat.le_of_ble_eq_true rfl) (Nat.le_of_ble_eq_true rfl) (Nat.le_of_ble_eq_true rfl) ?_
  refine lv_aload_n C.1 C.2.1 dJ0_init_db425_4 rfl (lv_at hl 1 rfl) ?_
  refine x_kr C w [0] [1, 2] rfl rfl (by decide) (by decide) (va_runU (As := []) (rest := []) (xfix C) (c218_J5_getValue_6d5f1 l G cy sa sv h1 h2 (xtr C) _) (va_cwU 0 (xhts C) (xgU (x := ⟨"java/lang/AbstractStringBuilder", "getValue", "()[B"⟩) gw_495 gw_496 gw_497 gw_498 gw_484 gc_J5_getValue_6d5f1) rfl rfl rfl rfl (by decide +kernel) ⟨(Nat.le_of_ble_eq_true rfl), (Nat.le_of_ble_eq_true rfl)⟩) (xPV C w [0] rfl (by decide) (ci := 1) (q0 := 0) rfl rfl) rfl rfl hl.1 rfl (lv_room (Nat.le_of_ble_eq_true rfl)) dJ0_init_db425_5 ⟨(Nat.le_of_ble_eq_true rfl), (Nat.le_of_ble_eq_true rfl)⟩) (fun f1277 H locs w => ?_)
  have w : xW G A s [(h0, .inr (0, [.null, .int 0, .int 0, .int 0])), (h2, .inl (cy 0, 16, .inl (fun _ => 0))), (h1, .inr (1, [.ref h2, .int 0, .int 0, .int 0]))] H _ := w
  refine lv_astore_n (lv' := [(3, .ref h2), (0, .ref h0), (1, .ref h1), (2, .null)]) C.1 C.2.1 dJ0_init_db425_8 rfl hl (by decide) rfl (fun ls hl => ?_)
  refine lv_aload_n C.1 C.2.1 dJ0_init_db425_9 rfl (lv_at hl 2 rfl) ?_
  refine x_ki C w [2] [0, 1] rfl rfl (by decide) (by decide) (va_runU (As := []) (rest := []) (xfix C) (c220_J4_length_8abf5 l G cy sa sv h1 h2 (xtr C) _) (va_cwO 0 (xhts C) (xgO (x := ⟨"java/lang/AbstractStringBuilder", "length", "()I"⟩) gw_506 gw_502 gw_504 gw_507 gw_508 gw_477 gc_J4_length_8abf5) rfl rfl rfl (List.mem_cons_of_mem _ gc_J5_length_8abf5) (by decide +kernel) ⟨(Nat.le_of_ble_eq_true rfl), (Nat.le_of_ble_eq_true rfl)⟩) (xPV C w [2] rfl (by decide) (ci := 1) (q0 := 2) rfl rfl) rfl rfl hl.1 rfl (lv_room (Nat.le_of_ble_eq_true rfl)) dJ0_init_db425_10 ⟨(Nat.le_of_ble_eq_true rfl), (Nat.le_of_ble_eq_true rfl)⟩) (fun f1279 H locs w => ?_)
  have w : xW G A s [(h0, .inr (0, [.null, .int 0, .int 0, .int 0])), (h2, .inl (cy 0, 16, .inl (fun _ => 0))), (h1, .inr (1, [.ref h2, .int 0, .int 0, .int 0]))] H _ := w
  refine lv_istore (lv' := [(4, .int 0), (3, .ref h2), (0, .ref h0), (1, .ref h1), (2, .null)]) C.1 C.2.1 dJ0_init_db425_13 hl (by decide) rfl (fun ls hl => ?_)
  refine lv_aload_n C.1 C.2.1 dJ0_init_db425_15 rfl (lv_at hl 3 rfl) ?_
  refine x_ki C w [2] [0, 1] rfl rfl (by decide) (by decide) (va_runU (As := []) (rest := []) (xfix C) (c221_J5_isLatin1_aae02 l G cy sa sv h1 h2 (xtr C) _) (va_cwU 0 (xhts C) (xgU (x := ⟨"java/lang/AbstractStringBuilder", "isLatin1", "()Z"⟩) gw_510 gw_511 gw_512 gw_513 gw_484 gc_J5_isLatin1_aae02) rfl rfl rfl rfl (by decide +kernel) ⟨(Nat.le_of_ble_eq_true rfl), (Nat.le_of_ble_eq_true rfl)⟩) (xPV C w [2] rfl (by decide) (ci := 1) (q0 := 2) rfl rfl) rfl rfl hl.1 rfl (lv_room (Nat.le_of_ble_eq_true rfl)) dJ0_init_db425_16 ⟨(Nat.le_of_ble_eq_true rfl), (Nat.le_of_ble_eq_true rfl)⟩) (fun f1280 H locs w => ?_)
  have w : xW G A s [(h0, .inr (0, [.null, .int 0, .int 0, .int 0])), (h2, .inl (cy 0, 16, .inl (fun _ => 0))), (h1, .inr (1, [.ref h2, .int 0, .int 0, .int 0]))] H _ := w
  refine lv_if_eq (tgt := 41) C.1 C.2.1 dJ0_init_db425_19 (by decide) (fun c9 => absurd c9 (by decide)) (fun _ => ?_)
  refine lv_aload_n C.1 C.2.1 dJ0_init_db425_22 rfl (lv_at hl 2 rfl) ?_
  refine lv_iconst (v := 0) C.1 C.2.1 dJ0_init_db425_23 (by decide) ?_
  refine x_putF (ty := .byte) (ty0 := tyJ0) C w hn 0 0 1 (xin_J0 _) tyJ0_ok nmJ0 rfl rfl (by decide) (List.mem_cons_of_mem _ gw_514) rfl rfl rfl (by decide +kernel) rfl rfl (Nat.le_of_ble_eq_true rfl) dJ0_init_db425_24 (fun H locs w => ?_)
  have w : xW G A s [(h0, .inr (0, [.null, .int 0, .int 0, .int 0])), (h2, .inl (cy 0, 16, .inl (fun _ => 0))), (h1, .inr (1, [.ref h2, .int 0, .int 0, .int 0]))] H _ := w
  refine lv_aload_n C.1 C.2.1 dJ0_init_db425_27 rfl (lv_at hl 2 rfl) ?_
  refine lv_aload_n C.1 C.2.1 dJ0_init_db425_28 rfl (lv_at hl 1 rfl) ?_
  refine lv_iconst (v := 0) C.1 C.2.1 dJ0_init_db425_29 (by decide) ?_
  refine lv_iload C.1 C.2.1 dJ0_init_db425_30 (lv_at hl 0 rfl) ?_
  refine x_kr C w [1] [0, 2] rfl rfl (by decide) (by decide) (va_runS (As := [.ref h2, .int 0, .int 0]) (rest := [.ref h0]) (xfix C) (c224_J7_copyOfRange_39247 l G cy sa sv h2 (xtr C) _) (va_cwS 3 (xhts C) (xgS gw_528 gw_529 gw_516 gc_J7_copyOfRange_39247) rfl rfl rfl (by decide +kernel) ⟨(Nat.le_of_ble_eq_true rfl), (Nat.le_of_ble_eq_true rfl)⟩) (xPS C w [1] rfl (by decide)) rfl rfl hl.1 rfl (lv_room (Nat.le_of_ble_eq_true rfl)) dJ0_init_db425_32 ⟨(Nat.le_of_ble_eq_true rfl), (Nat.le_of_ble_eq_true rfl)⟩) (fun f1290 H locs w => ?_)
  have w : xW G A s [(h0, .inr (0, [.null, .int 0, .int 0, .int 0])), (h1, .inr (1, [.ref h2, .int 0, .int 0, .int 0])), (h2, .inl (cy 0, 16, .inl (fun _ => 0))), ((f1290 0), .inl (cy 0, 0, .inl (va_cpy (fun _ => 0) (fun _ => 0) 0 0 0)))] H _ := w
  refine W.widen (k := 1) (n := 0) (Nat.le_of_ble_eq_true rfl) (Nat.le_of_ble_eq_true rfl) ?_
  refine x_putF (ty := (.array .byte)) (ty0 := tyJ0) C w hn 0 0 0 (xin_J0 _) tyJ0_ok nmJ0 rfl rfl (by decide) (List.mem_cons_of_mem _ gw_530) rfl rfl rfl (by decide +kernel) rfl rfl (Nat.le_of_ble_eq_true rfl) dJ0_init_db425_35 (fun H locs w => ?_)
  have w : xW G A s [(h0, .inr (0, [.ref (f1290 0), .int 0, .int 0, .int 0])), (h1, .inr (1, [.ref h2, .int 0, .int 0, .int 0])), (h2, .inl (cy 0, 16, .inl (fun _ => 0))), ((f1290 0), .inl (cy 0, 0, .inl (va_cpy (fun _ => 0) (fun _ => 0) 0 0 0)))] H _ := w
  refine lv_goto (tgt := 97) C.1 C.2.1 dJ0_init_db425_38 (by decide) ?_
  have w := w.sub (ws' := [(h1, .inr (1, [.ref h2, .int 0, .int 0, .int 0])), (h0, .inr (0, [.ref (f1290 0), .int 0, .int 0, .int 0])), (h2, .inl (cy 0, 16, .inl (fun _ => 0))), ((f1290 0), .inl (cy 0, 0, .inl (va_cpy (fun _ => 0) (fun _ => 0) 0 0 0)))]) [1, 0, 2, 3] (by decide) rfl rfl
  exact x_vret C w hr (fun k => match k with | 0 => (f1290 0) | _ => 0) rfl dJ0_init_db425_97 (Nat.le_of_ble_eq_true rfl) (Nat.le_of_ble_eq_true rfl)
set_option maxHeartbeats 4000000 in
set_option maxRecDepth 100000 in
theorem c226_J0_init_81219 (l : Launch) (G : va_G) (cy : Nat → ClassId) (sa : String → Nat → Nat) (sv : Nat → Nat) (h0 h1 h2 : Nat) : xM l G cy sa sv yJ0_init_81219 (Cond.code yJ0_init_81219 cJ0_init_81219 2 none :: XG) { frames := 12, cells := 1, slots := 0, locals := 341 } [.ref h0, .ref h1] [(h0, .inr (0, [.null, .int 0, .int 0, .int 0])), (h1, .inr (1, [.ref h2, .int 0, .int 0, .int 0])), (h2, .inl (cy 0, 16, .inl (fun _ => 0)))] (xQv G (fun f => [(h0, .inr (0, [.ref (f 0), .int 0, .int 0, .int 0])), (h1, .inr (1, [.ref h2, .int 0, .int 0, .int 0])), (h2, .inl (cy 0, 16, .inl (fun _ => 0))), ((f 0), .inl (cy 0, 0, .inl (va_cpy (fun _ => 0) (fun _ => 0) 0 0 0)))])) := by
  refine xof (by decide) (Nat.le_of_ble_eq_true rfl) (fun p e s m below meth c A C w hr hn ls hl => ?_)
  have hl : lv_has ls 2 [(0, .ref h0), (1, .ref h1)] := hl
  refine lv_aload_n C.1 C.2.1 dJ0_init_81219_0 rfl (lv_at hl 0 rfl) ?_
  refine lv_aload_n C.1 C.2.1 dJ0_init_81219_1 rfl (lv_at hl 1 rfl) ?_
  refine lv_null C.1 C.2.1 dJ0_init_81219_2 ?_
  refine x_kv C w [1, 0, 2] [] rfl rfl (by decide) (by decide) (va_runI (As := [.ref h1, .null]) (rest := []) (xfix C) (c225_J0_init_db425 l G cy sa sv h0 h1 h2 (xtr C) _) (cwI 2 (xhts C) (xgI gc_J0_init_db425) rfl rfl rfl (xhts C _ (List.mem_cons_of_mem _ gw_492)) (xhts C _ (List.mem_cons_of_mem _ gw_532)) (xhts C _ (List.mem_cons_of_mem _ gw_533)) rfl (by decide +kernel) ⟨(Nat.le_of_ble_eq_true rfl), (Nat.le_of_ble_eq_true rfl)⟩) (xPS C w [1, 0, 2] rfl (by decide)) rfl rfl hl.1 rfl (lv_room (Nat.le_of_ble_eq_true rfl)) dJ0_init_81219_3 ⟨(Nat.le_of_ble_eq_true rfl), (Nat.le_of_ble_eq_true rfl)⟩) (fun f1292 H locs w => ?_)
  have w : xW G A s [(h1, .inr (1, [.ref h2, .int 0, .int 0, .int 0])), (h0, .inr (0, [.ref (f1292 0), .int 0, .int 0, .int 0])), (h2, .inl (cy 0, 16, .inl (fun _ => 0))), ((f1292 0), .inl (cy 0, 0, .inl (va_cpy (fun _ => 0) (fun _ => 0) 0 0 0)))] H _ := w
  refine W.widen (k := 1) (n := 0) (Nat.le_of_ble_eq_true rfl) (Nat.le_of_ble_eq_true rfl) ?_
  have w := w.sub (ws' := [(h0, .inr (0, [.ref (f1292 0), .int 0, .int 0, .int 0])), (h1, .inr (1, [.ref h2, .int 0, .int 0, .int 0])), (h2, .inl (cy 0, 16, .inl (fun _ => 0))), ((f1292 0), .inl (cy 0, 0, .inl (va_cpy (fun _ => 0) (fun _ => 0) 0 0 0)))]) [1, 0, 2, 3] (by decide) rfl rfl
  exact x_vret C w hr (fun k => match k with | 0 => (f1292 0) | _ => 0) rfl dJ0_init_81219_6 (Nat.le_of_ble_eq_true rfl) (Nat.le_of_ble_eq_true rfl)
set_option maxHeartbeats 4000000 in
set_option maxRecDepth 100000 in
theorem c227_J4_toString_0e30d (l : Launch) (G : va_G) (cy : Nat → ClassId) (sa : String → Nat → Nat) (sv : Nat → Nat) (h0 h1 : Nat) : xM l G cy sa sv yJ4_toString_0e30d (Cond.code yJ4_toString_0e30d cJ4_toString_0e30d 1 (some (.object "java/lang/String")) :: XG) { frames := 13, cells := 2, slots := 4, locals := 362 } [.ref h0] [(h0, .inr (1, [.ref h1, .int 0, .int 0, .int 0])), (h1, .inl (cy 0, 16, .inl (fun _ => 0)))] (xQr G (fun f => [(h0, .inr (1, [.ref h1, .int 0, .int 0, .int 0])), (h1, .inl (cy 0, 16, .inl (fun _ => 0))), ((f 0), .inr (0, [.ref (f 1), .int 0, .int 0, .int 0])), ((f 1), .inl (cy 0, 0, .inl (va_cpy (fun _ => 0) (fun _ => 0) 0 0 0)))]) (fun f => (f 0))) := by
  refine xof (by decide) (Nat.le_of_ble_eq_true rfl) (fun p e s m below meth c A C w hr hn ls hl => ?_)
  have hl : lv_has ls 1 [(0, .ref h0)] := hl
  refine x_new (fs := [.null, .int 0, .int 0, .int 0]) (ty0 := tyJ0) C w 0 (xin_J0 _) tyJ0_ok rfl (List.mem_cons_of_mem _ gw_490) (List.mem_cons_of_mem _ gw_491) (List.mem_cons_of_mem _ gw_492) (fun j hj => by rcases (show j = 0 ∨ j = 1 ∨ j = 2 ∨ j = 3 by omega) with rfl | rfl | rfl | rfl <;> rfl) (Nat.le_of_ble_eq_true rfl) (Nat.le_of_ble_eq_true rfl) dJ4_toString_0e30d_0 (fun q1272 H w => ?_)
  have w : xW G A s [(h0, .inr (1, [.ref h1, .int 0, .int 0, .int 0])), (h1, .inl (cy 0, 16, .inl (fun _ => 0))), (q1272, .inr (0, [.null, .int 0, .int 0, .int 0]))] H _ := w
  refine W.widen (k := 1) (n := 4) (Nat.le_of_ble_eq_true rfl) (Nat.le_of_ble_eq_true rfl) ?_
  refine lv_dup C.1 C.2.1 dJ4_toString_0e30d_3 rfl ?_
  refine lv_aload_n C.1 C.2.1 dJ4_toString_0e30d_4 rfl (lv_at hl 0 rfl) ?_
  refine x_kv C w [2, 0, 1] [] rfl rfl (by decide) (by decide) (va_runI (As := [.ref h0]) (rest := [.ref q1272]) (xfix C) (c226_J0_init_81219 l G cy sa sv q1272 h0 h1 (xtr C) _) (cwI 1 (xhts C) (xgI gc_J0_init_81219) rfl rfl rfl (xhts C _ (List.mem_cons_of_mem _ gw_492)) (xhts C _ (List.mem_cons_of_mem _ gw_535)) (xhts C _ (List.mem_cons_of_mem _ gw_536)) rfl (by decide +kernel) ⟨(Nat.le_of_ble_eq_true rfl), (Nat.le_of_ble_eq_true rfl)⟩) (xPS C w [2, 0, 1] rfl (by decide)) rfl rfl hl.1 rfl (lv_room (Nat.le_of_ble_eq_true rfl)) dJ4_toString_0e30d_5 ⟨(Nat.le_of_ble_eq_true rfl), (Nat.le_of_ble_eq_true rfl)⟩) (fun f1294 H locs w => ?_)
  have w : xW G A s [(q1272, .inr (0, [.ref (f1294 0), .int 0, .int 0, .int 0])), (h0, .inr (1, [.ref h1, .int 0, .int 0, .int 0])), (h1, .inl (cy 0, 16, .inl (fun _ => 0))), ((f1294 0), .inl (cy 0, 0, .inl (va_cpy (fun _ => 0) (fun _ => 0) 0 0 0)))] H _ := w
  refine W.widen (k := 2) (n := 4) (Nat.le_of_ble_eq_true rfl) (Nat.le_of_ble_eq_true rfl) ?_
  have w := w.sub (ws' := [(h0, .inr (1, [.ref h1, .int 0, .int 0, .int 0])), (h1, .inl (cy 0, 16, .inl (fun _ => 0))), (q1272, .inr (0, [.ref (f1294 0), .int 0, .int 0, .int 0])), ((f1294 0), .inl (cy 0, 0, .inl (va_cpy (fun _ => 0) (fun _ => 0) 0 0 0)))]) [1, 2, 0, 3] (by decide) rfl rfl
  exact x_aret C w hr (Or.inl ⟨_, rfl⟩) (fun k => match k with | 0 => q1272 | 1 => (f1294 0) | _ => 0) rfl rfl dJ4_toString_0e30d_8 (Nat.le_of_ble_eq_true rfl) (Nat.le_of_ble_eq_true rfl)
set_option maxHeartbeats 4000000 in
set_option maxRecDepth 100000 in
theorem c228_X2_joined (l : Launch) (G : va_G) (cy : Nat → ClassId) (sa : String → Nat → Nat) (sv : Nat → Nat) (h0 h1 : Nat) : xM l G cy sa sv yX2_joined (Cond.code yX2_joined cX2_joined 3 (some (.object "java/lang/String")) :: XG) { frames := 14, cells := 4, slots := 24, locals := 382 } [.ref h0] [(h0, .inr (6, [.ref h1, .int 0]))] (xQr G (fun f => [(h0, .inr (6, [.ref h1, .int 0])), ((f 0), .inr (0, [.ref (f 1), .int 0, .int 0, .int 0])), ((f 1), .inl (cy 0, 0, .inl (va_cpy (fun _ => 0) (fun _ => 0) 0 0 0)))]) (fun f => (f 0))) := by
  refine xof (by decide) (Nat.le_of_ble_eq_true rfl) (fun p e s m below meth c A C w hr hn ls hl => ?_)
  have hl : lv_has ls 3 [(0, .ref h0)] := hl
  refine x_new (fs := [.null, .int 0, .int 0, .int 0]) (ty0 := tyJ4) C w 1 (xin_J4 _) tyJ4_ok rfl (List.mem_cons_of_mem _ gw_475) (List.mem_cons_of_mem _ gw_476) (List.mem_cons_of_mem _ gw_477) (fun j hj => by rcases (show j = 0 ∨ j = 1 ∨ j = 2 ∨ j = 3 by omega) with rfl | rfl | rfl | rfl <;> rfl) (Nat.le_of_ble_eq_true rfl) (Nat.le_of_ble_eq_true rfl) dX2_joined_0 (fun q1258 H w => ?_)
  have w : xW G A s [(h0, .inr (6, [.ref h1, .int 0])), (q1258, .inr (1, [.null, .int 0, .int 0, .int 0]))] H _ := w
  refine W.widen (k := 1) (n := 4) (Nat.le_of_ble_eq_true rfl) (Nat.le_of_ble_eq_true rfl) ?_
  refine lv_dup C.1 C.2.1 dX2_joined_3 rfl ?_
  refine x_kv C w [1] [0] rfl rfl (by decide) (by decide) (va_runI (As := []) (rest := [.ref q1258]) (xfix C) (c217_J4_init_da8c8 l G cy sa sv q1258 (xtr C) _) (cwI 0 (xhts C) (xgI gc_J4_init_da8c8) rfl rfl rfl (xhts C _ (List.mem_cons_of_mem _ gw_477)) (xhts C _ (List.mem_cons_of_mem _ gw_488)) (xhts C _ (List.mem_cons_of_mem _ gw_489)) rfl (by decide +kernel) ⟨(Nat.le_of_ble_eq_true rfl), (Nat.le_of_ble_eq_true rfl)⟩) (xPS C w [1] rfl (by decide)) rfl rfl hl.1 rfl (lv_room (Nat.le_of_ble_eq_true rfl)) dX2_joined_4 ⟨(Nat.le_of_ble_eq_true rfl), (Nat.le_of_ble_eq_true rfl)⟩) (fun f1267 H locs w => ?_)
  have w : xW G A s [(h0, .inr (6, [.ref h1, .int 0])), (q1258, .inr (1, [.ref (f1267 0), .int 0, .int 0, .int 0])), ((f1267 0), .inl (cy 0, 16, .inl (fun _ => 0)))] H _ := w
  refine W.widen (k := 2) (n := 20) (Nat.le_of_ble_eq_true rfl) (Nat.le_of_ble_eq_true rfl) ?_
  refine lv_astore_n (lv' := [(1, .ref q1258), (0, .ref h0)]) C.1 C.2.1 dX2_joined_7 rfl hl (by decide) rfl (fun ls hl => ?_)
  refine lv_iconst (v := 0) C.1 C.2.1 dX2_joined_8 (by decide) ?_
  refine lv_istore_n (lv' := [(2, .int 0), (1, .ref q1258), (0, .ref h0)]) C.1 C.2.1 dX2_joined_9 rfl hl (by decide) rfl (fun ls hl => ?_)
  refine lv_iload_n C.1 C.2.1 dX2_joined_10 rfl (lv_at hl 0 rfl) ?_
  refine lv_aload_n C.1 C.2.1 dX2_joined_11 rfl (lv_at hl 2 rfl) ?_
  refine x_get (v := .int 0) C w 0 6 1 (xin_X2 _) rfl rfl (by decide) (List.mem_cons_of_mem _ gw_15) rfl rfl dX2_joined_12 ?_
  refine lv_icmp_ge (tgt := 46) C.1 C.2.1 dX2_joined_15 (by decide) (fun _ => ?_) (fun c9 => absurd (by decide) c9)
  refine lv_aload_n C.1 C.2.1 dX2_joined_46 rfl (lv_at hl 1 rfl) ?_
  refine x_kr C w [1, 2] [0] rfl rfl (by decide) (by decide) (va_runV (As := []) (rest := []) (xfix C) (c227_J4_toString_0e30d l G cy sa sv q1258 (f1267 0) (xtr C) _) (cwV 0 (xhts C) (xgV (maxL := 0) (cc := ⟨#[]⟩) (ret := none) gw_538 gw_539 gw_540 gw_477 gc_J4_toString_0e30d) rfl rfl rfl (by decide +kernel) ⟨(Nat.le_of_ble_eq_true rfl), (Nat.le_of_ble_eq_true rfl)⟩) (xPV C w [1, 2] rfl (by decide) (ci := 1) (q0 := 1) rfl rfl) rfl rfl hl.1 rfl (lv_room (Nat.le_of_ble_eq_true rfl)) dX2_joined_47 ⟨(Nat.le_of_ble_eq_true rfl), (Nat.le_of_ble_eq_true rfl)⟩) (fun f1297 H locs w => ?_)
  have w : xW G A s [(h0, .inr (6, [.ref h1, .int 0])), (q1258, .inr (1, [.ref (f1267 0), .int 0, .int 0, .int 0])), ((f1267 0), .inl (cy 0, 16, .inl (fun _ => 0))), ((f1297 0), .inr (0, [.ref (f1297 1), .int 0, .int 0, .int 0])), ((f1297 1), .inl (cy 0, 0, .inl (va_cpy (fun _ => 0) (fun _ => 0) 0 0 0)))] H _ := w
  refine W.widen (k := 4) (n := 24) (Nat.le_of_ble_eq_true rfl) (Nat.le_of_ble_eq_true rfl) ?_
  have w := w.sub (ws' := [(h0, .inr (6, [.ref h1, .int 0])), ((f1297 0), .inr (0, [.ref (f1297 1), .int 0, .int 0, .int 0])), ((f1297 1), .inl (cy 0, 0, .inl (va_cpy (fun _ => 0) (fun _ => 0) 0 0 0)))]) [0, 3, 4] (by decide) rfl rfl
  exact x_aret C w hr (Or.inl ⟨_, rfl⟩) (fun k => match k with | 0 => (f1297 0) | 1 => (f1297 1) | _ => 0) rfl rfl dX2_joined_50 (Nat.le_of_ble_eq_true rfl) (Nat.le_of_ble_eq_true rfl)
set_option maxHeartbeats 4000000 in
set_option maxRecDepth 100000 in
theorem c229_X4_keys (l : Launch) (G : va_G) (cy : Nat → ClassId) (sa : String → Nat → Nat) (sv : Nat → Nat) (h0 h1 h2 h3 h4 h5 h6 h7 h8 h9 h10 h11 : Nat) : xM l G cy sa sv yX4_keys (Cond.code yX4_keys cX4_keys 4 (some (.object "java/lang/String")) :: XG) { frames := 15, cells := 4, slots := 24, locals := 404 } [.ref h0, .int 0] [(h0, .inr (8, [.ref h1, .ref h4, .ref h5, .ref h6, .ref h7, .int 0, .ref h3, .ref h8])), (h1, .inr (7, [.ref h2, .ref h9])), (h2, .inr (6, [.ref h10, .int 0])), (h3, .inr (6, [.ref h11, .int 0]))] (xQr G (fun f => [(h0, .inr (8, [.ref h1, .ref h4, .ref h5, .ref h6, .ref h7, .int 0, .ref h3, .ref h8])), (h1, .inr (7, [.ref h2, .ref h9])), (h2, .inr (6, [.ref h10, .int 0])), (h3, .inr (6, [.ref h11, .int 0])), ((f 0), .inr (0, [.ref (f 1), .int 0, .int 0, .int 0])), ((f 1), .inl (cy 0, 0, .inl (va_cpy (fun _ => 0) (fun _ => 0) 0 0 0)))]) (fun f => (f 0))) := by
  refine xof (by decide) (Nat.le_of_ble_eq_true rfl) (fun p e s m below meth c A C w hr hn ls hl => ?_)
  have hl : lv_has ls 4 [(0, .ref h0), (1, .int 0)] := hl
  refine lv_aload_n C.1 C.2.1 dX4_keys_0 rfl (lv_at hl 0 rfl) ?_
  refine x_get (v := .ref h1) C w 0 8 0 (xin_X4 _) rfl rfl (by decide) (List.mem_cons_of_mem _ gw_24) rfl rfl dX4_keys_1 ?_
  refine x_ki C w [1, 2] [0, 3] rfl rfl (by decide) (by decide) (va_runV (As := []) (rest := []) (xfix C) (c22_X3_count l G cy sa sv h1 h2 h9 h10 (xtr C) _) (cwV 0 (xhts C) (xgV (maxL := 0) (cc := ⟨#[]⟩) (ret := none) gw_130 gw_131 gw_132 gw_7 gc_X3_count) rfl rfl rfl (by decide +kernel) ⟨(Nat.le_of_ble_eq_true rfl), (Nat.le_of_ble_eq_true rfl)⟩) (xPV C w [1, 2] rfl (by decide) (ci := 7) (q0 := 1) rfl rfl) rfl rfl hl.1 rfl (lv_room (Nat.le_of_ble_eq_true rfl)) dX4_keys_4 ⟨(Nat.le_of_ble_eq_true rfl), (Nat.le_of_ble_eq_true rfl)⟩) (fun f1248 H locs w => ?_)
  have w : xW G A s [(h0, .inr (8, [.ref h1, .ref h4, .ref h5, .ref h6, .ref h7, .int 0, .ref h3, .ref h8])), (h3, .inr (6, [.ref h11, .int 0])), (h1, .inr (7, [.ref h2, .ref h9])), (h2, .inr (6, [.ref h10, .int 0]))] H _ := w
  refine lv_istore_n (lv' := [(2, .int 0), (0, .ref h0), (1, .int 0)]) C.1 C.2.1 dX4_keys_7 rfl hl (by decide) rfl (fun ls hl => ?_)
  refine lv_aload_n C.1 C.2.1 dX4_keys_8 rfl (lv_at hl 1 rfl) ?_
  refine x_get (v := .ref h3) C w 0 8 6 (xin_X4 _) rfl rfl (by decide) (List.mem_cons_of_mem _ gw_51) rfl rfl dX4_keys_9 ?_
  refine x_kv C w [1] [0, 2, 3] rfl rfl (by decide) (by decide) (va_runV (As := []) (rest := []) (xfix C) (c109_X2_empty l G cy sa sv h3 h11 (xtr C) _) (cwV 0 (xhts C) (xgV (maxL := 0) (cc := ⟨#[]⟩) (ret := none) gw_312 gw_313 gw_314 gw_11 gc_X2_empty) rfl rfl rfl (by decide +kernel) ⟨(Nat.le_of_ble_eq_true rfl), (Nat.le_of_ble_eq_true rfl)⟩) (xPV C w [1] rfl (by decide) (ci := 6) (q0 := 1) rfl rfl) rfl rfl hl.1 rfl (lv_room (Nat.le_of_ble_eq_true rfl)) dX4_keys_12 ⟨(Nat.le_of_ble_eq_true rfl), (Nat.le_of_ble_eq_true rfl)⟩) (fun f1249 H locs w => ?_)
  have w : xW G A s [(h0, .inr (8, [.ref h1, .ref h4, .ref h5, .ref h6, .ref h7, .int 0, .ref h3, .ref h8])), (h1, .inr (7, [.ref h2, .ref h9])), (h2, .inr (6, [.ref h10, .int 0])), (h3, .inr (6, [.ref h11, .int 0]))] H _ := w
  refine lv_iconst (v := 0) C.1 C.2.1 dX4_keys_15 (by decide) ?_
  refine lv_istore_n (lv' := [(3, .int 0), (2, .int 0), (0, .ref h0), (1, .int 0)]) C.1 C.2.1 dX4_keys_16 rfl hl (by decide) rfl (fun ls hl => ?_)
  refine lv_iload_n C.1 C.2.1 dX4_keys_17 rfl (lv_at hl 0 rfl) ?_
  refine lv_iload_n C.1 C.2.1 dX4_keys_18 rfl (lv_at hl 1 rfl) ?_
  refine lv_icmp_ge (tgt := 55) C.1 C.2.1 dX4_keys_19 (by decide) (fun _ => ?_) (fun c9 => absurd (by decide) c9)
  refine lv_aload_n C.1 C.2.1 dX4_keys_55 rfl (lv_at hl 2 rfl) ?_
  refine x_get (v := .ref h3) C w 0 8 6 (xin_X4 _) rfl rfl (by decide) (List.mem_cons_of_mem _ gw_51) rfl rfl dX4_keys_56 ?_
  refine x_kr C w [3] [0, 1, 2] rfl rfl (by decide) (by decide) (va_runV (As := []) (rest := []) (xfix C) (c228_X2_joined l G cy sa sv h3 h11 (xtr C) _) (cwV 0 (xhts C) (xgV (maxL := 0) (cc := ⟨#[]⟩) (ret := none) gw_542 gw_543 gw_544 gw_11 gc_X2_joined) rfl rfl rfl (by decide +kernel) ⟨(Nat.le_of_ble_eq_true rfl), (Nat.le_of_ble_eq_true rfl)⟩) (xPV C w [3] rfl (by decide) (ci := 6) (q0 := 3) rfl rfl) rfl rfl hl.1 rfl (lv_room (Nat.le_of_ble_eq_true rfl)) dX4_keys_59 ⟨(Nat.le_of_ble_eq_true rfl), (Nat.le_of_ble_eq_true rfl)⟩) (fun f1300 H locs w => ?_)
  have w : xW G A s [(h0, .inr (8, [.ref h1, .ref h4, .ref h5, .ref h6, .ref h7, .int 0, .ref h3, .ref h8])), (h1, .inr (7, [.ref h2, .ref h9])), (h2, .inr (6, [.ref h10, .int 0])), (h3, .inr (6, [.ref h11, .int 0])), ((f1300 0), .inr (0, [.ref (f1300 1), .int 0, .int 0, .int 0])), ((f1300 1), .inl (cy 0, 0, .inl (va_cpy (fun _ => 0) (fun _ => 0) 0 0 0)))] H _ := w
  refine W.widen (k := 4) (n := 24) (Nat.le_of_ble_eq_true rfl) (Nat.le_of_ble_eq_true rfl) ?_
  exact x_aret C w hr (Or.inl ⟨_, rfl⟩) (fun k => match k with | 0 => (f1300 0) | 1 => (f1300 1) | _ => 0) rfl rfl dX4_keys_62 (Nat.le_of_ble_eq_true rfl) (Nat.le_of_ble_eq_true rfl)
