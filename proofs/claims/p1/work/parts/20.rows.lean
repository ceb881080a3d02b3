set_option maxHeartbeats 4000000 in
set_option maxRecDepth 100000 in
theorem c28_X2_insert (l : Launch) (G : va_G) (cy : Nat → ClassId) (sa : String → Nat → Nat) (sv : Nat → Nat) (h0 h1 : Nat) : xM l G cy sa sv yX2_insert (Cond.code yX2_insert cX2_insert 4 none :: XG) { frames := 8, cells := 0, slots := 0, locals := 250 } [.ref h0, .int 0, .int (-1000)] [(h0, .inr (6, [.ref h1, .int 0])), (h1, .inl (cy 1, 624, .inl (fun _ => 0)))] (xQv G (fun f => [(h0, .inr (6, [.ref h1, .int 1])), (h1, .inl (cy 1, 624, .inl (upd (fun _ => 0) 0 (-1000))))])) := by
  refine xof (by decide) (Nat.le_of_ble_eq_true rfl) (fun p e s m below meth c A C w hr hn ls hl => ?_)
  have hl : lv_has ls 4 [(0, .ref h0), (1, .int 0), (2, .int (-1000))] := hl
  refine lv_iload_n C.1 C.2.1 dX2_insert_0 rfl (lv_at hl 1 rfl) ?_
  refine lv_if_lt (tgt := 24) C.1 C.2.1 dX2_insert_1 (by decide) (fun c9 => absurd c9 (by decide)) (fun _ => ?_)
  refine lv_iload_n C.1 C.2.1 dX2_insert_4 rfl (lv_at hl 1 rfl) ?_
  refine lv_aload_n C.1 C.2.1 dX2_insert_5 rfl (lv_at hl 0 rfl) ?_
  refine x_get (v := .int 0) C w 0 6 1 (xin_X2 _) rfl rfl (by decide) (List.mem_cons_of_mem _ gw_15) rfl rfl dX2_insert_6 ?_
  refine lv_icmp_gt (tgt := 24) C.1 C.2.1 dX2_insert_9 (by decide) (fun c9 => absurd c9 (by decide)) (fun _ => ?_)
  refine lv_aload_n C.1 C.2.1 dX2_insert_12 rfl (lv_at hl 0 rfl) ?_
  refine x_get (v := .int 0) C w 0 6 1 (xin_X2 _) rfl rfl (by decide) (List.mem_cons_of_mem _ gw_15) rfl rfl dX2_insert_13 ?_
  refine lv_aload_n C.1 C.2.1 dX2_insert_16 rfl (lv_at hl 0 rfl) ?_
  refine x_get (v := .ref h1) C w 0 6 0 (xin_X2 _) rfl rfl (by decide) (List.mem_cons_of_mem _ gw_14) rfl rfl dX2_insert_17 ?_
  refine x_alen (v := 624) C w 1 1 rfl rfl (by rfl) dX2_insert_20 ?_
  refine lv_icmp_lt (tgt := 25) C.1 C.2.1 dX2_insert_21 (by decide) (fun _ => ?_) (fun c9 => absurd (by decide) c9)
  refine lv_aload_n C.1 C.2.1 dX2_insert_25 rfl (lv_at hl 0 rfl) ?_
  refine x_get (v := .int 0) C w 0 6 1 (xin_X2 _) rfl rfl (by decide) (List.mem_cons_of_mem _ gw_15) rfl rfl dX2_insert_26 ?_
  refine lv_istore_n (lv' := [(3, .int 0), (0, .ref h0), (1, .int 0), (2, .int (-1000))]) C.1 C.2.1 dX2_insert_29 rfl hl (by decide) rfl (fun ls hl => ?_)
  refine lv_iload_n C.1 C.2.1 dX2_insert_30 rfl (lv_at hl 0 rfl) ?_
  refine lv_iload_n C.1 C.2.1 dX2_insert_31 rfl (lv_at hl 2 rfl) ?_
  refine lv_icmp_le (tgt := 55) C.1 C.2.1 dX2_insert_32 (by decide) (fun _ => ?_) (fun c9 => absurd (by decide) c9)
  refine lv_aload_n C.1 C.2.1 dX2_insert_55 rfl (lv_at hl 1 rfl) ?_
  refine x_get (v := .ref h1) C w 0 6 0 (xin_X2 _) rfl rfl (by decide) (List.mem_cons_of_mem _ gw_14) rfl rfl dX2_insert_56 ?_
  refine lv_iload_n C.1 C.2.1 dX2_insert_59 rfl (lv_at hl 2 rfl) ?_
  refine lv_iload_n C.1 C.2.1 dX2_insert_60 rfl (lv_at hl 3 rfl) ?_
  refine x_iast (k := 0) C w 1 1 rfl rfl (xvin (by decide)) (by decide) dX2_insert_61 (fun H locs w => ?_)
  have w : xW G A s [(h0, .inr (6, [.ref h1, .int 0])), (h1, .inl (cy 1, 624, .inl (upd (fun _ => 0) 0 (-1000))))] H _ := w
  refine lv_aload_n C.1 C.2.1 dX2_insert_62 rfl (lv_at hl 1 rfl) ?_
  refine lv_dup C.1 C.2.1 dX2_insert_63 rfl ?_
  refine x_get (v := .int 0) C w 0 6 1 (xin_X2 _) rfl rfl (by decide) (List.mem_cons_of_mem _ gw_15) rfl rfl dX2_insert_64 ?_
  refine lv_iconst (v := 1) C.1 C.2.1 dX2_insert_67 (by decide) ?_
  refine lv_iadd C.1 C.2.1 dX2_insert_68 ?_
  refine x_is (y := 1) (by decide) ?_
  refine x_put (ty := .int) (ty0 := tyX2) C w 0 6 1 (xin_X2 _) tyX2_ok nmX2 rfl rfl (by decide) (List.mem_cons_of_mem _ gw_15) rfl rfl (by decide +kernel) rfl rfl (Nat.le_of_ble_eq_true rfl) dX2_insert_69 (fun H locs w => ?_)
  have w : xW G A s [(h0, .inr (6, [.ref h1, .int 1])), (h1, .inl (cy 1, 624, .inl (upd (fun _ => 0) 0 (-1000))))] H _ := w
  exact x_vret C w hr (fun _ => 0) rfl dX2_insert_72 (Nat.le_of_ble_eq_true rfl) (Nat.le_of_ble_eq_true rfl)
set_option maxHeartbeats 4000000 in
set_option maxRecDepth 100000 in
theorem c29_X2_add (l : Launch) (G : va_G) (cy : Nat → ClassId) (sa : String → Nat → Nat) (sv : Nat → Nat) (h0 h1 : Nat) : xM l G cy sa sv yX2_add (Cond.code yX2_add cX2_add 2 none :: XG) { frames := 9, cells := 0, slots := 0, locals := 273 } [.ref h0, .int (-1000)] [(h0, .inr (6, [.ref h1, .int 0])), (h1, .inl (cy 1, 624, .inl (fun _ => 0)))] (xQv G (fun f => [(h0, .inr (6, [.ref h1, .int 1])), (h1, .inl (cy 1, 624, .inl (upd (fun _ => 0) 0 (-1000))))])) := by
  refine xof (by decide) (Nat.le_of_ble_eq_true rfl) (fun p e s m below meth c A C w hr hn ls hl => ?_)
  have hl : lv_has ls 2 [(0, .ref h0), (1, .int (-1000))] := hl
  refine lv_aload_n C.1 C.2.1 dX2_add_0 rfl (lv_at hl 0 rfl) ?_
  refine lv_aload_n C.1 C.2.1 dX2_add_1 rfl (lv_at hl 0 rfl) ?_
  refine x_get (v := .int 0) C w 0 6 1 (xin_X2 _) rfl rfl (by decide) (List.mem_cons_of_mem _ gw_15) rfl rfl dX2_add_2 ?_
  refine lv_iload_n C.1 C.2.1 dX2_add_5 rfl (lv_at hl 1 rfl) ?_
  refine x_kv C w [0, 1] [] rfl rfl (by decide) (by decide) (va_runV (As := [.int 0, .int (-1000)]) (rest := []) (xfix C) (c28_X2_insert l G cy sa sv h0 h1 (xtr C) _) (cwV 2 (xhts C) (xgV (maxL := 0) (cc := ⟨#[]⟩) (ret := none) gw_146 gw_147 gw_148 gw_11 gc_X2_insert) rfl rfl rfl (by decide +kernel) ⟨(Nat.le_of_ble_eq_true rfl), (Nat.le_of_ble_eq_true rfl)⟩) (xPV C w [0, 1] rfl (by decide) (ci := 6) (q0 := 0) rfl rfl) rfl rfl hl.1 rfl (lv_room (Nat.le_of_ble_eq_true rfl)) dX2_add_6 ⟨(Nat.le_of_ble_eq_true rfl), (Nat.le_of_ble_eq_true rfl)⟩) (fun f317 H locs w => ?_)
  have w : xW G A s [(h0, .inr (6, [.ref h1, .int 1])), (h1, .inl (cy 1, 624, .inl (upd (fun _ => 0) 0 (-1000))))] H _ := w
  exact x_vret C w hr (fun _ => 0) rfl dX2_add_9 (Nat.le_of_ble_eq_true rfl) (Nat.le_of_ble_eq_true rfl)
set_option maxHeartbeats 4000000 in
set_option maxRecDepth 100000 in
theorem c30_X1_note (l : Launch) (G : va_G) (cy : Nat → ClassId) (sa : String → Nat → Nat) (sv : Nat → Nat) (h0 h1 h2 h3 h4 h5 : Nat) (v0 : Int32) : xM l G cy sa sv yX1_note (Cond.code yX1_note cX1_note 3 none :: XG) { frames := 10, cells := 0, slots := 0, locals := 294 } [.ref h0, .int v0, .int (-1000)] [(h0, .inr (5, [.ref h1, .ref h3, .ref h5, .int 0])), (h1, .inr (6, [.ref h2, .int 0])), (h2, .inl (cy 1, 624, .inl (fun _ => 0))), (h3, .inr (6, [.ref h4, .int 0])), (h4, .inl (cy 1, 624, .inl (fun _ => 0)))] (xQv G (fun f => [(h0, .inr (5, [.ref h1, .ref h3, .ref h5, .int 1])), (h1, .inr (6, [.ref h2, .int 1])), (h2, .inl (cy 1, 624, .inl (upd (fun _ => 0) 0 v0))), (h3, .inr (6, [.ref h4, .int 1])), (h4, .inl (cy 1, 624, .inl (upd (fun _ => 0) 0 (-1000))))])) := by
  refine xof (by decide) (Nat.le_of_ble_eq_true rfl) (fun p e s m below meth c A C w hr hn ls hl => ?_)
  have hl : lv_has ls 3 [(0, .ref h0), (1, .int v0), (2, .int (-1000))] := hl
  refine lv_aload_n C.1 C.2.1 dX1_note_0 rfl (lv_at hl 0 rfl) ?_
  refine x_get (v := .ref h1) C w 0 5 0 (xin_X1 _) rfl rfl (by decide) (List.mem_cons_of_mem _ gw_34) rfl rfl dX1_note_1 ?_
  refine lv_iload_n C.1 C.2.1 dX1_note_4 rfl (lv_at hl 1 rfl) ?_
  refine x_kv C w [1, 2] [0, 3, 4] rfl rfl (by decide) (by decide) (va_runV (As := [.int v0]) (rest := []) (xfix C) (c27_X2_add l G cy sa sv h1 h2 v0 (xtr C) _) (cwV 1 (xhts C) (xgV (maxL := 0) (cc := ⟨#[]⟩) (ret := none) gw_150 gw_151 gw_152 gw_11 gc_X2_add) rfl rfl rfl (by decide +kernel) ⟨(Nat.le_of_ble_eq_true rfl), (Nat.le_of_ble_eq_true rfl)⟩) (xPV C w [1, 2] rfl (by decide) (ci := 6) (q0 := 1) rfl rfl) rfl rfl hl.1 rfl (lv_room (Nat.le_of_ble_eq_true rfl)) dX1_note_5 ⟨(Nat.le_of_ble_eq_true rfl), (Nat.le_of_ble_eq_true rfl)⟩) (fun f316 H locs w => ?_)
  have w : xW G A s [(h0, .inr (5, [.ref h1, .ref h3, .ref h5, .int 0])), (h3, .inr (6, [.ref h4, .int 0])), (h4, .inl (cy 1, 624, .inl (fun _ => 0))), (h1, .inr (6, [.ref h2, .int 1])), (h2, .inl (cy 1, 624, .inl (upd (fun _ => 0) 0 v0)))] H _ := w
  refine lv_aload_n C.1 C.2.1 dX1_note_8 rfl (lv_at hl 0 rfl) ?_
  refine x_get (v := .ref h3) C w 0 5 1 (xin_X1 _) rfl rfl (by decide) (List.mem_cons_of_mem _ gw_35) rfl rfl dX1_note_9 ?_
  refine lv_iload_n C.1 C.2.1 dX1_note_12 rfl (lv_at hl 2 rfl) ?_
  refine x_kv C w [1, 2] [0, 3, 4] rfl rfl (by decide) (by decide) (va_runV (As := [.int (-1000)]) (rest := []) (xfix C) (c29_X2_add l G cy sa sv h3 h4 (xtr C) _) (cwV 1 (xhts C) (xgV (maxL := 0) (cc := ⟨#[]⟩) (ret := none) gw_150 gw_151 gw_152 gw_11 gc_X2_add) rfl rfl rfl (by decide +kernel) ⟨(Nat.le_of_ble_eq_true rfl), (Nat.le_of_ble_eq_true rfl)⟩) (xPV C w [1, 2] rfl (by decide) (ci := 6) (q0 := 1) rfl rfl) rfl rfl hl.1 rfl (lv_room (Nat.le_of_ble_eq_true rfl)) dX1_note_13 ⟨(Nat.le_of_ble_eq_true rfl), (Nat.le_of_ble_eq_true rfl)⟩) (fun f318 H locs w => ?_)
  have w : xW G A s [(h0, .inr (5, [.ref h1, .ref h3, .ref h5, .int 0])), (h1, .inr (6, [.ref h2, .int 1])), (h2, .inl (cy 1, 624, .inl (upd (fun _ => 0) 0 v0))), (h3, .inr (6, [.ref h4, .int 1])), (h4, .inl (cy 1, 624, .inl (upd (fun _ => 0) 0 (-1000))))] H _ := w
  refine lv_aload_n C.1 C.2.1 dX1_note_16 rfl (lv_at hl 0 rfl) ?_
  refine lv_dup C.1 C.2.1 dX1_note_17 rfl ?_
  refine x_get (v := .int 0) C w 0 5 3 (xin_X1 _) rfl rfl (by decide) (List.mem_cons_of_mem _ gw_37) rfl rfl dX1_note_18 ?_
  refine lv_iconst (v := 1) C.1 C.2.1 dX1_note_21 (by decide) ?_
  refine lv_iadd C.1 C.2.1 dX1_note_22 ?_
  refine x_is (y := 1) (by decide) ?_
  refine x_put (ty := .int) (ty0 := tyX1) C w 0 5 3 (xin_X1 _) tyX1_ok nmX1 rfl rfl (by decide) (List.mem_cons_of_mem _ gw_37) rfl rfl (by decide +kernel) rfl rfl (Nat.le_of_ble_eq_true rfl) dX1_note_23 (fun H locs w => ?_)
  have w : xW G A s [(h0, .inr (5, [.ref h1, .ref h3, .ref h5, .int 1])), (h1, .inr (6, [.ref h2, .int 1])), (h2, .inl (cy 1, 624, .inl (upd (fun _ => 0) 0 v0))), (h3, .inr (6, [.ref h4, .int 1])), (h4, .inl (cy 1, 624, .inl (upd (fun _ => 0) 0 (-1000))))] H _ := w
  exact x_vret C w hr (fun _ => 0) rfl dX1_note_26 (Nat.le_of_ble_eq_true rfl) (Nat.le_of_ble_eq_true rfl)
set_option maxHeartbeats 4000000 in
set_option maxRecDepth 100000 in
theorem c31_X3_countBelow (l : Launch) (G : va_G) (cy : Nat → ClassId) (sa : String → Nat → Nat) (sv : Nat → Nat) (h0 h1 h2 h3 : Nat) (v0 : Int32) : xM l G cy sa sv yX3_countBelow (Cond.code yX3_countBelow cX3_countBelow 4 (some .int) :: XG) { frames := 9, cells := 0, slots := 0, locals := 270 } [.ref h0, .int v0] [(h0, .inr (7, [.ref h1, .ref h2])), (h1, .inr (6, [.ref h3, .int 0]))] (xQi G (fun f => [(h0, .inr (7, [.ref h1, .ref h2])), (h1, .inr (6, [.ref h3, .int 0]))]) 0) := by
  refine xof (by decide) (Nat.le_of_ble_eq_true rfl) (fun p e s m below meth c A C w hr hn ls hl => ?_)
  have hl : lv_has ls 4 [(0, .ref h0), (1, .int v0)] := hl
  refine lv_aload_n C.1 C.2.1 dX3_countBelow_0 rfl (lv_at hl 0 rfl) ?_
  refine x_get (v := .ref h1) C w 0 7 0 (xin_X3 _) rfl rfl (by decide) (List.mem_cons_of_mem _ gw_19) rfl rfl dX3_countBelow_1 ?_
  refine x_ki C w [1] [0] rfl rfl (by decide) (by decide) (va_runV (As := []) (rest := []) (xfix C) (c21_X2_count l G cy sa sv h1 h3 (xtr C) _) (cwV 0 (xhts C) (xgV (maxL := 0) (cc := ⟨#[]⟩) (ret := none) gw_126 gw_127 gw_128 gw_11 gc_X2_count) rfl rfl rfl (by decide +kernel) ⟨(Nat.le_of_ble_eq_true rfl), (Nat.le_of_ble_eq_true rfl)⟩) (xPV C w [1] rfl (by decide) (ci := 6) (q0 := 1) rfl rfl) rfl rfl hl.1 rfl (lv_room (Nat.le_of_ble_eq_true rfl)) dX3_countBelow_4 ⟨(Nat.le_of_ble_eq_true rfl), (Nat.le_of_ble_eq_true rfl)⟩) (fun f320 H locs w => ?_)
  have w : xW G A s [(h0, .inr (7, [.ref h1, .ref h2])), (h1, .inr (6, [.ref h3, .int 0]))] H _ := w
  refine lv_istore_n (lv' := [(2, .int 0), (0, .ref h0), (1, .int v0)]) C.1 C.2.1 dX3_countBelow_7 rfl hl (by decide) rfl (fun ls hl => ?_)
  refine lv_iconst (v := 0) C.1 C.2.1 dX3_countBelow_8 (by decide) ?_
  refine lv_istore_n (lv' := [(3, .int 0), (2, .int 0), (0, .ref h0), (1, .int v0)]) C.1 C.2.1 dX3_countBelow_9 rfl hl (by decide) rfl (fun ls hl => ?_)
  refine lv_iload_n C.1 C.2.1 dX3_countBelow_10 rfl (lv_at hl 0 rfl) ?_
  refine lv_iload_n C.1 C.2.1 dX3_countBelow_11 rfl (lv_at hl 1 rfl) ?_
  refine lv_icmp_ge (tgt := 35) C.1 C.2.1 dX3_countBelow_12 (by decide) (fun _ => ?_) (fun c9 => absurd (by decide) c9)
  refine lv_iload_n C.1 C.2.1 dX3_countBelow_35 rfl (lv_at hl 1 rfl) ?_
  exact x_iret C w hr (fun _ => 0) rfl rfl dX3_countBelow_36 (Nat.le_of_ble_eq_true rfl) (Nat.le_of_ble_eq_true rfl)
set_option maxHeartbeats 4000000 in
set_option maxRecDepth 100000 in
theorem c32_X3_holds (l : Launch) (G : va_G) (cy : Nat → ClassId) (sa : String → Nat → Nat) (sv : Nat → Nat) (h0 h1 h2 h3 : Nat) (v0 : Int32) : xM l G cy sa sv yX3_holds (Cond.code yX3_holds cX3_holds 2 (some .boolean) :: XG) { frames := 9, cells := 0, slots := 0, locals := 272 } [.ref h0, .int v0] [(h0, .inr (7, [.ref h1, .ref h2])), (h1, .inr (6, [.ref h3, .int 0]))] (xQi G (fun f => [(h0, .inr (7, [.ref h1, .ref h2])), (h1, .inr (6, [.ref h3, .int 0]))]) 0) := by
  refine xof (by decide) (Nat.le_of_ble_eq_true rfl) (fun p e s m below meth c A C w hr hn ls hl => ?_)
  have hl : lv_has ls 2 [(0, .ref h0), (1, .int v0)] := hl
  refine lv_aload_n C.1 C.2.1 dX3_holds_0 rfl (lv_at hl 0 rfl) ?_
  refine x_get (v := .ref h1) C w 0 7 0 (xin_X3 _) rfl rfl (by decide) (List.mem_cons_of_mem _ gw_19) rfl rfl dX3_holds_1 ?_
  refine lv_iload_n C.1 C.2.1 dX3_holds_4 rfl (lv_at hl 1 rfl) ?_
  refine x_ki C w [1] [0] rfl rfl (by decide) (by decide) (va_runV (As := [.int v0]) (rest := []) (xfix C) (c24_X2_placeOf l G cy sa sv h1 h3 v0 (xtr C) _) (cwV 1 (xhts C) (xgV (maxL := 0) (cc := ⟨#[]⟩) (ret := none) gw_138 gw_139 gw_140 gw_11 gc_X2_placeOf) rfl rfl rfl (by decide +kernel) ⟨(Nat.le_of_ble_eq_true rfl), (Nat.le_of_ble_eq_true rfl)⟩) (xPV C w [1] rfl (by decide) (ci := 6) (q0 := 1) rfl rfl) rfl rfl hl.1 rfl (lv_room (Nat.le_of_ble_eq_true rfl)) dX3_holds_5 ⟨(Nat.le_of_ble_eq_true rfl), (Nat.le_of_ble_eq_true rfl)⟩) (fun f322 H locs w => ?_)
  have w : xW G A s [(h0, .inr (7, [.ref h1, .ref h2])), (h1, .inr (6, [.ref h3, .int 0]))] H _ := w
  refine lv_iconst (v := (-1)) C.1 C.2.1 dX3_holds_8 (by decide) ?_
  refine lv_icmp_eq (tgt := 16) C.1 C.2.1 dX3_holds_9 (by decide) (fun _ => ?_) (fun c9 => absurd (by decide) c9)
  refine lv_iconst (v := 0) C.1 C.2.1 dX3_holds_16 (by decide) ?_
  exact x_zret C w hr rfl (fun _ => 0) rfl rfl dX3_holds_17 (Nat.le_of_ble_eq_true rfl) (Nat.le_of_ble_eq_true rfl)
set_option maxHeartbeats 4000000 in
set_option maxRecDepth 100000 in
theorem c33_X2_insert (l : Launch) (G : va_G) (cy : Nat → ClassId) (sa : String → Nat → Nat) (sv : Nat → Nat) (h0 h1 : Nat) (v0 : Int32) : xM l G cy sa sv yX2_insert (Cond.code yX2_insert cX2_insert 4 none :: XG) { frames := 8, cells := 0, slots := 0, locals := 250 } [.ref h0, .int 0, .int v0] [(h0, .inr (6, [.ref h1, .int 0])), (h1, .inl (cy 1, 24, .inl (fun _ => 0)))] (xQv G (fun f => [(h0, .inr (6, [.ref h1, .int 1])), (h1, .inl (cy 1, 24, .inl (upd (fun _ => 0) 0 v0)))])) := by
  refine xof (by decide) (Nat.le_of_ble_eq_true rfl) (fun p e s m below meth c A C w hr hn ls hl => ?_)
  have hl : lv_has ls 4 [(0, .ref h0), (1, .int 0), (2, .int v0)] := hl
  refine lv_iload_n C.1 C.2.1 dX2_insert_0 rfl (lv_at hl 1 rfl) ?_
  refine lv_if_lt (tgt := 24) C.1 C.2.1 dX2_insert_1 (by decide) (fun c9 => absurd c9 (by decide)) (fun _ => ?_)
  refine lv_iload_n C.1 C.2.1 dX2_insert_4 rfl (lv_at hl 1 rfl) ?_
  refine lv_aload_n C.1 C.2.1 dX2_insert_5 rfl (lv_at hl 0 rfl) ?_
  refine x_get (v := .int 0) C w 0 6 1 (xin_X2 _) rfl rfl (by decide) (List.mem_cons_of_mem _ gw_15) rfl rfl dX2_insert_6 ?_
  refine lv_icmp_gt (tgt := 24) C.1 C.2.1 dX2_insert_9 (by decide) (fun c9 => absurd c9 (by decide)) (fun _ => ?_)
  refine lv_aload_n C.1 C.2.1 dX2_insert_12 rfl (lv_at hl 0 rfl) ?_
  refine x_get (v := .int 0) C w 0 6 1 (xin_X2 _) rfl rfl (by decide) (List.mem_cons_of_mem _ gw_15) rfl rfl dX2_insert_13 ?_
  refine lv_aload_n C.1 C.2.1 dX2_insert_16 rfl (lv_at hl 0 rfl) ?_
  refine x_get (v := .ref h1) C w 0 6 0 (xin_X2 _) rfl rfl (by decide) (List.mem_cons_of_mem _ gw_14) rfl rfl dX2_insert_17 ?_
  refine x_alen (v := 24) C w 1 1 rfl rfl (by rfl) dX2_insert_20 ?_
  refine lv_icmp_lt (tgt := 25) C.1 C.2.1 dX2_insert_21 (by decide) (fun _ => ?_) (fun c9 => absurd (by decide) c9)
  refine lv_aload_n C.1 C.2.1 dX2_insert_25 rfl (lv_at hl 0 rfl) ?_
  refine x_get (v := .int 0) C w 0 6 1 (xin_X2 _) rfl rfl (by decide) (List.mem_cons_of_mem _ gw_15) rfl rfl dX2_insert_26 ?_
  refine lv_istore_n (lv' := [(3, .int 0), (0, .ref h0), (1, .int 0), (2, .int v0)]) C.1 C.2.1 dX2_insert_29 rfl hl (by decide) rfl (fun ls hl => ?_)
  refine lv_iload_n C.1 C.2.1 dX2_insert_30 rfl (lv_at hl 0 rfl) ?_
  refine lv_iload_n C.1 C.2.1 dX2_insert_31 rfl (lv_at hl 2 rfl) ?_
  refine lv_icmp_le (tgt := 55) C.1 C.2.1 dX2_insert_32 (by decide) (fun _ => ?_) (fun c9 => absurd (by decide) c9)
  refine lv_aload_n C.1 C.2.1 dX2_insert_55 rfl (lv_at hl 1 rfl) ?_
  refine x_get (v := .ref h1) C w 0 6 0 (xin_X2 _) rfl rfl (by decide) (List.mem_cons_of_mem _ gw_14) rfl rfl dX2_insert_56 ?_
  refine lv_iload_n C.1 C.2.1 dX2_insert_59 rfl (lv_at hl 2 rfl) ?_
  refine lv_iload_n C.1 C.2.1 dX2_insert_60 rfl (lv_at hl 3 rfl) ?_
  refine x_iast (k := 0) C w 1 1 rfl rfl (xvin (by decide)) (by decide) dX2_insert_61 (fun H locs w => ?_)
  have w : xW G A s [(h0, .inr (6, [.ref h1, .int 0])), (h1, .inl (cy 1, 24, .inl (upd (fun _ => 0) 0 v0)))] H _ := w
  refine lv_aload_n C.1 C.2.1 dX2_insert_62 rfl (lv_at hl 1 rfl) ?_
  refine lv_dup C.1 C.2.1 dX2_insert_63 rfl ?_
  refine x_get (v := .int 0) C w 0 6 1 (xin_X2 _) rfl rfl (by decide) (List.mem_cons_of_mem _ gw_15) rfl rfl dX2_insert_64 ?_
  refine lv_iconst (v := 1) C.1 C.2.1 dX2_insert_67 (by decide) ?_
  refine lv_iadd C.1 C.2.1 dX2_insert_68 ?_
  refine x_is (y := 1) (by decide) ?_
  refine x_put (ty := .int) (ty0 := tyX2) C w 0 6 1 (xin_X2 _) tyX2_ok nmX2 rfl rfl (by decide) (List.mem_cons_of_mem _ gw_15) rfl rfl (by decide +kernel) rfl rfl (Nat.le_of_ble_eq_true rfl) dX2_insert_69 (fun H locs w => ?_)
  have w : xW G A s [(h0, .inr (6, [.ref h1, .int 1])), (h1, .inl (cy 1, 24, .inl (upd (fun _ => 0) 0 v0)))] H _ := w
  exact x_vret C w hr (fun _ => 0) rfl dX2_insert_72 (Nat.le_of_ble_eq_true rfl) (Nat.le_of_ble_eq_true rfl)
set_option maxHeartbeats 4000000 in
set_option maxRecDepth 100000 in
theorem c34_X3_assign (l : Launch) (G : va_G) (cy : Nat → ClassId) (sa : String → Nat → Nat) (sv : Nat → Nat) (h0 h1 h2 h3 h4 : Nat) (v0 v1 : Int32) : xM l G cy sa sv yX3_assign (Cond.code yX3_assign cX3_assign 4 none :: XG) { frames := 10, cells := 0, slots := 0, locals := 293 } [.ref h0, .int v0, .int v1] [(h0, .inr (7, [.ref h1, .ref h3])), (h1, .inr (6, [.ref h2, .int 0])), (h2, .inl (cy 1, 24, .inl (fun _ => 0))), (h3, .inr (6, [.ref h4, .int 0])), (h4, .inl (cy 1, 24, .inl (fun _ => 0)))] (xQv G (fun f => [(h0, .inr (7, [.ref h1, .ref h3])), (h1, .inr (6, [.ref h2, .int 1])), (h2, .inl (cy 1, 24, .inl (upd (fun _ => 0) 0 v0))), (h3, .inr (6, [.ref h4, .int 1])), (h4, .inl (cy 1, 24, .inl (upd (fun _ => 0) 0 v1)))])) := by
  refine xof (by decide) (Nat.le_of_ble_eq_true rfl) (fun p e s m below meth c A C w hr hn ls hl => ?_)
  have hl : lv_has ls 4 [(0, .ref h0), (1, .int v0), (2, .int v1)] := hl
  refine lv_aload_n C.1 C.2.1 dX3_assign_0 rfl (lv_at hl 0 rfl) ?_
  refine lv_iload_n C.1 C.2.1 dX3_assign_1 rfl (lv_at hl 1 rfl) ?_
  refine x_ki C w [0, 1] [2, 3, 4] rfl rfl (by decide) (by decide) (va_runV (As := [.int v0]) (rest := []) (xfix C) (c31_X3_countBelow l G cy sa sv h0 h1 h3 h2 v0 (xtr C) _) (cwV 1 (xhts C) (xgV (maxL := 0) (cc := ⟨#[]⟩) (ret := none) gw_158 gw_159 gw_160 gw_7 gc_X3_countBelow) rfl rfl rfl (by decide +kernel) ⟨(Nat.le_of_ble_eq_true rfl), (Nat.le_of_ble_eq_true rfl)⟩) (xPV C w [0, 1] rfl (by decide) (ci := 7) (q0 := 0) rfl rfl) rfl rfl hl.1 rfl (lv_room (Nat.le_of_ble_eq_true rfl)) dX3_assign_2 ⟨(Nat.le_of_ble_eq_true rfl), (Nat.le_of_ble_eq_true rfl)⟩) (fun f321 H locs w => ?_)
  have w : xW G A s [(h2, .inl (cy 1, 24, .inl (fun _ => 0))), (h3, .inr (6, [.ref h4, .int 0])), (h4, .inl (cy 1, 24, .inl (fun _ => 0))), (h0, .inr (7, [.ref h1, .ref h3])), (h1, .inr (6, [.ref h2, .int 0]))] H _ := w
  refine lv_istore_n (lv' := [(3, .int 0), (0, .ref h0), (1, .int v0), (2, .int v1)]) C.1 C.2.1 dX3_assign_5 rfl hl (by decide) rfl (fun ls hl => ?_)
  refine lv_aload_n C.1 C.2.1 dX3_assign_6 rfl (lv_at hl 1 rfl) ?_
  refine lv_iload_n C.1 C.2.1 dX3_assign_7 rfl (lv_at hl 2 rfl) ?_
  refine x_ki C w [3, 4] [0, 1, 2] rfl rfl (by decide) (by decide) (va_runV (As := [.int v0]) (rest := []) (xfix C) (c32_X3_holds l G cy sa sv h0 h1 h3 h2 v0 (xtr C) _) (cwV 1 (xhts C) (xgV (maxL := 0) (cc := ⟨#[]⟩) (ret := none) gw_162 gw_163 gw_164 gw_7 gc_X3_holds) rfl rfl rfl (by decide +kernel) ⟨(Nat.le_of_ble_eq_true rfl), (Nat.le_of_ble_eq_true rfl)⟩) (xPV C w [3, 4] rfl (by decide) (ci := 7) (q0 := 3) rfl rfl) rfl rfl hl.1 rfl (lv_room (Nat.le_of_ble_eq_true rfl)) dX3_assign_8 ⟨(Nat.le_of_ble_eq_true rfl), (Nat.le_of_ble_eq_true rfl)⟩) (fun f323 H locs w => ?_)
  have w : xW G A s [(h2, .inl (cy 1, 24, .inl (fun _ => 0))), (h3, .inr (6, [.ref h4, .int 0])), (h4, .inl (cy 1, 24, .inl (fun _ => 0))), (h0, .inr (7, [.ref h1, .ref h3])), (h1, .inr (6, [.ref h2, .int 0]))] H _ := w
  refine lv_if_eq (tgt := 26) C.1 C.2.1 dX3_assign_11 (by decide) (fun _ => ?_) (fun c9 => absurd (by decide) c9)
  refine lv_aload_n C.1 C.2.1 dX3_assign_26 rfl (lv_at hl 1 rfl) ?_
  refine x_get (v := .ref h1) C w 3 7 0 (xin_X3 _) rfl rfl (by decide) (List.mem_cons_of_mem _ gw_19) rfl rfl dX3_assign_27 ?_
  refine lv_iload_n C.1 C.2.1 dX3_assign_30 rfl (lv_at hl 0 rfl) ?_
  refine lv_iload_n C.1 C.2.1 dX3_assign_31 rfl (lv_at hl 2 rfl) ?_
  refine x_kv C w [4, 0] [1, 2, 3] rfl rfl (by decide) (by decide) (va_runV (As := [.int 0, .int v0]) (rest := []) (xfix C) (c33_X2_insert l G cy sa sv h1 h2 v0 (xtr C) _) (cwV 2 (xhts C) (xgV (maxL := 0) (cc := ⟨#[]⟩) (ret := none) gw_165 gw_147 gw_148 gw_11 gc_X2_insert) rfl rfl rfl (by decide +kernel) ⟨(Nat.le_of_ble_eq_true rfl), (Nat.le_of_ble_eq_true rfl)⟩) (xPV C w [4, 0] rfl (by decide) (ci := 6) (q0 := 4) rfl rfl) rfl rfl hl.1 rfl (lv_room (Nat.le_of_ble_eq_true rfl)) dX3_assign_32 ⟨(Nat.le_of_ble_eq_true rfl), (Nat.le_of_ble_eq_true rfl)⟩) (fun f324 H locs w => ?_)
  have w : xW G A s [(h3, .inr (6, [.ref h4, .int 0])), (h4, .inl (cy 1, 24, .inl (fun _ => 0))), (h0, .inr (7, [.ref h1, .ref h3])), (h1, .inr (6, [.ref h2, .int 1])), (h2, .inl (cy 1, 24, .inl (upd (fun _ => 0) 0 v0)))] H _ := w
  refine lv_aload_n C.1 C.2.1 dX3_assign_35 rfl (lv_at hl 1 rfl) ?_
  refine x_get (v := .ref h3) C w 2 7 1 (xin_X3 _) rfl rfl (by decide) (List.mem_cons_of_mem _ gw_20) rfl rfl dX3_assign_36 ?_
  refine lv_iload_n C.1 C.2.1 dX3_assign_39 rfl (lv_at hl 0 rfl) ?_
  refine lv_iload_n C.1 C.2.1 dX3_assign_40 rfl (lv_at hl 3 rfl) ?_
  refine x_kv C w [0, 1] [2, 3, 4] rfl rfl (by decide) (by decide) (va_runV (As := [.int 0, .int v1]) (rest := []) (xfix C) (c33_X2_insert l G cy sa sv h3 h4 v1 (xtr C) _) (cwV 2 (xhts C) (xgV (maxL := 0) (cc := ⟨#[]⟩) (ret := none) gw_165 gw_147 gw_148 gw_11 gc_X2_insert) rfl rfl rfl (by decide +kernel) ⟨(Nat.le_of_ble_eq_true rfl), (Nat.le_of_ble_eq_true rfl)⟩) (xPV C w [0, 1] rfl (by decide) (ci := 6) (q0 := 0) rfl rfl) rfl rfl hl.1 rfl (lv_room (Nat.le_of_ble_eq_true rfl)) dX3_assign_41 ⟨(Nat.le_of_ble_eq_true rfl), (Nat.le_of_ble_eq_true rfl)⟩) (fun f325 H locs w => ?_)
  have w : xW G A s [(h0, .inr (7, [.ref h1, .ref h3])), (h1, .inr (6, [.ref h2, .int 1])), (h2, .inl (cy 1, 24, .inl (upd (fun _ => 0) 0 v0))), (h3, .inr (6, [.ref h4, .int 1])), (h4, .inl (cy 1, 24, .inl (upd (fun _ => 0) 0 v1)))] H _ := w
  exact x_vret C w hr (fun _ => 0) rfl dX3_assign_44 (Nat.le_of_ble_eq_true rfl) (Nat.le_of_ble_eq_true rfl)
set_option maxHeartbeats 4000000 in
set_option maxRecDepth 100000 in
theorem c35_X2_delete (l : Launch) (G : va_G) (cy : Nat → ClassId) (sa : String → Nat → Nat) (sv : Nat → Nat) (h0 : Nat) : xM l G cy sa sv yX2_delete (Cond.code yX2_delete cX2_delete 2 none :: XG) { frames := 8, cells := 0, slots := 0, locals := 250 } [.ref h0, .int (-1)] [] (xQv G (fun f => [])) := by
  refine xof (by decide) (Nat.le_of_ble_eq_true rfl) (fun p e s m below meth c A C w hr hn ls hl => ?_)
  have hl : lv_has ls 2 [(0, .ref h0), (1, .int (-1))] := hl
  refine lv_iload_n C.1 C.2.1 dX2_delete_0 rfl (lv_at hl 1 rfl) ?_
  refine lv_if_lt (tgt := 45) C.1 C.2.1 dX2_delete_1 (by decide) (fun _ => ?_) (fun c9 => absurd (by decide) c9)
  exact x_vret C w hr (fun _ => 0) rfl dX2_delete_45 (Nat.le_of_ble_eq_true rfl) (Nat.le_of_ble_eq_true rfl)
set_option maxHeartbeats 4000000 in
set_option maxRecDepth 100000 in
theorem c36_X2_add (l : Launch) (G : va_G) (cy : Nat → ClassId) (sa : String → Nat → Nat) (sv : Nat → Nat) (h0 h1 : Nat) (v0 : Int32) : xM l G cy sa sv yX2_add (Cond.code yX2_add cX2_add 2 none :: XG) { frames := 9, cells := 0, slots := 0, locals := 273 } [.ref h0, .int v0] [(h0, .inr (6, [.ref h1, .int 0])), (h1, .inl (cy 1, 24, .inl (fun _ => 0)))] (xQv G (fun f => [(h0, .inr (6, [.ref h1, .int 1])), (h1, .inl (cy 1, 24, .inl (upd (fun _ => 0) 0 v0)))])) := by
  refine xof (by decide) (Nat.le_of_ble_eq_true rfl) (fun p e s m below meth c A C w hr hn ls hl => ?_)
  have hl : lv_has ls 2 [(0, .ref h0), (1, .int v0)] := hl
  refine lv_aload_n C.1 C.2.1 dX2_add_0 rfl (lv_at hl 0 rfl) ?_
  refine lv_aload_n C.1 C.2.1 dX2_add_1 rfl (lv_at hl 0 rfl) ?_
  refine x_get (v := .int 0) C w 0 6 1 (xin_X2 _) rfl rfl (by decide) (List.mem_cons_of_mem _ gw_15) rfl rfl dX2_add_2 ?_
  refine lv_iload_n C.1 C.2.1 dX2_add_5 rfl (lv_at hl 1 rfl) ?_
  refine x_kv C w [0, 1] [] rfl rfl (by decide) (by decide) (va_runV (As := [.int 0, .int v0]) (rest := []) (xfix C) (c33_X2_insert l G cy sa sv h0 h1 v0 (xtr C) _) (cwV 2 (xhts C) (xgV (maxL := 0) (cc := ⟨#[]⟩) (ret := none) gw_146 gw_147 gw_148 gw_11 gc_X2_insert) rfl rfl rfl (by decide +kernel) ⟨(Nat.le_of_ble_eq_true rfl), (Nat.le_of_ble_eq_true rfl)⟩) (xPV C w [0, 1] rfl (by decide) (ci := 6) (q0 := 0) rfl rfl) rfl rfl hl.1 rfl (lv_room (Nat.le_of_ble_eq_true rfl)) dX2_add_6 ⟨(Nat.le_of_ble_eq_true rfl), (Nat.le_of_ble_eq_true rfl)⟩) (fun f329 H locs w => ?_)
  have w : xW G A s [(h0, .inr (6, [.ref h1, .int 1])), (h1, .inl (cy 1, 24, .inl (upd (fun _ => 0) 0 v0)))] H _ := w
  exact x_vret C w hr (fun _ => 0) rfl dX2_add_9 (Nat.le_of_ble_eq_true rfl) (Nat.le_of_ble_eq_true rfl)
set_option maxHeartbeats 4000000 in
set_option maxRecDepth 100000 in
theorem c37_X4_use (l : Launch) (G : va_G) (cy : Nat → ClassId) (sa : String → Nat → Nat) (sv : Nat → Nat) (h0 h1 h2 h3 h4 h5 h6 h7 h8 : Nat) (v0 : Int32) : xM l G cy sa sv yX4_use (Cond.code yX4_use cX4_use 2 none :: XG) { frames := 10, cells := 0, slots := 0, locals := 294 } [.ref h0, .int v0] [(h0, .inr (8, [.ref h3, .ref h1, .ref h4, .ref h5, .ref h6, .int 0, .ref h7, .ref h8])), (h1, .inr (6, [.ref h2, .int 0])), (h2, .inl (cy 1, 24, .inl (fun _ => 0)))] (xQv G (fun f => [(h0, .inr (8, [.ref h3, .ref h1, .ref h4, .ref h5, .ref h6, .int 0, .ref h7, .ref h8])), (h1, .inr (6, [.ref h2, .int 1])), (h2, .inl (cy 1, 24, .inl (upd (fun _ => 0) 0 v0)))])) := by
  refine xof (by decide) (Nat.le_of_ble_eq_true rfl) (fun p e s m below meth c A C w hr hn ls hl => ?_)
  have hl : lv_has ls 2 [(0, .ref h0), (1, .int v0)] := hl
  refine lv_aload_n C.1 C.2.1 dX4_use_0 rfl (lv_at hl 0 rfl) ?_
  refine x_get (v := .ref h1) C w 0 8 1 (xin_X4 _) rfl rfl (by decide) (List.mem_cons_of_mem _ gw_27) rfl rfl dX4_use_1 ?_
  refine lv_aload_n C.1 C.2.1 dX4_use_4 rfl (lv_at hl 0 rfl) ?_
  refine x_get (v := .ref h1) C w 0 8 1 (xin_X4 _) rfl rfl (by decide) (List.mem_cons_of_mem _ gw_27) rfl rfl dX4_use_5 ?_
  refine lv_iload_n C.1 C.2.1 dX4_use_8 rfl (lv_at hl 1 rfl) ?_
  refine x_ki C w [1] [0, 2] rfl rfl (by decide) (by decide) (va_runV (As := [.int v0]) (rest := [.ref h1]) (xfix C) (c24_X2_placeOf l G cy sa sv h1 h2 v0 (xtr C) _) (cwV 1 (xhts C) (xgV (maxL := 0) (cc := ⟨#[]⟩) (ret := none) gw_170 gw_139 gw_140 gw_11 gc_X2_placeOf) rfl rfl rfl (by decide +kernel) ⟨(Nat.le_of_ble_eq_true rfl), (Nat.le_of_ble_eq_true rfl)⟩) (xPV C w [1] rfl (by decide) (ci := 6) (q0 := 1) rfl rfl) rfl rfl hl.1 rfl (lv_room (Nat.le_of_ble_eq_true rfl)) dX4_use_9 ⟨(Nat.le_of_ble_eq_true rfl), (Nat.le_of_ble_eq_true rfl)⟩) (fun f327 H locs w => ?_)
  have w : xW G A s [(h0, .inr (8, [.ref h3, .ref h1, .ref h4, .ref h5, .ref h6, .int 0, .ref h7, .ref h8])), (h2, .inl (cy 1, 24, .inl (fun _ => 0))), (h1, .inr (6, [.ref h2, .int 0]))] H _ := w
  refine x_kv C w [] [0, 1, 2] rfl rfl (by decide) (by decide) (va_runV (As := [.int (-1)]) (rest := []) (xfix C) (c35_X2_delete l G cy sa sv h1 (xtr C) _) (cwV 1 (xhts C) (xgV (maxL := 0) (cc := ⟨#[]⟩) (ret := none) gw_172 gw_173 gw_174 gw_11 gc_X2_delete) rfl rfl rfl (by decide +kernel) ⟨(Nat.le_of_ble_eq_true rfl), (Nat.le_of_ble_eq_true rfl)⟩) (xPV C w [] rfl (by decide) (ci := 6) (q0 := 2) rfl rfl) rfl rfl hl.1 rfl (lv_room (Nat.le_of_ble_eq_true rfl)) dX4_use_12 ⟨(Nat.le_of_ble_eq_true rfl), (Nat.le_of_ble_eq_true rfl)⟩) (fun f328 H locs w => ?_)
  have w : xW G A s [(h0, .inr (8, [.ref h3, .ref h1, .ref h4, .ref h5, .ref h6, .int 0, .ref h7, .ref h8])), (h2, .inl (cy 1, 24, .inl (fun _ => 0))), (h1, .inr (6, [.ref h2, .int 0]))] H _ := w
  refine lv_aload_n C.1 C.2.1 dX4_use_15 rfl (lv_at hl 0 rfl) ?_
  refine x_get (v := .ref h1) C w 0 8 1 (xin_X4 _) rfl rfl (by decide) (List.mem_cons_of_mem _ gw_27) rfl rfl dX4_use_16 ?_
  refine lv_iload_n C.1 C.2.1 dX4_use_19 rfl (lv_at hl 1 rfl) ?_
  refine x_kv C w [2, 1] [0] rfl rfl (by decide) (by decide) (va_runV (As := [.int v0]) (rest := []) (xfix C) (c36_X2_add l G cy sa sv h1 h2 v0 (xtr C) _) (cwV 1 (xhts C) (xgV (maxL := 0) (cc := ⟨#[]⟩) (ret := none) gw_175 gw_151 gw_152 gw_11 gc_X2_add) rfl rfl rfl (by decide +kernel) ⟨(Nat.le_of_ble_eq_true rfl), (Nat.le_of_ble_eq_true rfl)⟩) (xPV C w [2, 1] rfl (by decide) (ci := 6) (q0 := 2) rfl rfl) rfl rfl hl.1 rfl (lv_room (Nat.le_of_ble_eq_true rfl)) dX4_use_20 ⟨(Nat.le_of_ble_eq_true rfl), (Nat.le_of_ble_eq_true rfl)⟩) (fun f330 H locs w => ?_)
  have w : xW G A s [(h0, .inr (8, [.ref h3, .ref h1, .ref h4, .ref h5, .ref h6, .int 0, .ref h7, .ref h8])), (h1, .inr (6, [.ref h2, .int 1])), (h2, .inl (cy 1, 24, .inl (upd (fun _ => 0) 0 v0)))] H _ := w
  exact x_vret C w hr (fun _ => 0) rfl dX4_use_23 (Nat.le_of_ble_eq_true rfl) (Nat.le_of_ble_eq_true rfl)
set_option maxHeartbeats 4000000 in
set_option maxRecDepth 100000 in
theorem c38_X4_assign (l : Launch) (G : va_G) (cy : Nat → ClassId) (sa : String → Nat → Nat) (sv : Nat → Nat) (h0 h1 h2 h3 h4 h5 h6 h7 h8 h9 h10 h11 h12 : Nat) (v0 v1 : Int32) : xM l G cy sa sv yX4_assign (Cond.code yX4_assign cX4_assign 3 none :: XG) { frames := 11, cells := 0, slots := 0, locals := 316 } [.ref h0, .int v0, .int v1] [(h0, .inr (8, [.ref h1, .ref h6, .ref h8, .ref h9, .ref h10, .int 0, .ref h11, .ref h12])), (h1, .inr (7, [.ref h2, .ref h4])), (h2, .inr (6, [.ref h3, .int 0])), (h3, .inl (cy 1, 24, .inl (fun _ => 0))), (h4, .inr (6, [.ref h5, .int 0])), (h5, .inl (cy 1, 24, .inl (fun _ => 0))), (h6, .inr (6, [.ref h7, .int 0])), (h7, .inl (cy 1, 24, .inl (fun _ => 0)))] (xQv G (fun f => [(h0, .inr (8, [.ref h1, .ref h6, .ref h8, .ref h9, .ref h10, .int 0, .ref h11, .ref h12])), (h1, .inr (7, [.ref h2, .ref h4])), (h2, .inr (6, [.ref h3, .int 1])), (h3, .inl (cy 1, 24, .inl (upd (fun _ => 0) 0 v0))), (h4, .inr (6, [.ref h5, .int 1])), (h5, .inl (cy 1, 24, .inl (upd (fun _ => 0) 0 v1))), (h6, .inr (6, [.ref h7, .int 1])), (h7, .inl (cy 1, 24, .inl (upd (fun _ => 0) 0 v0)))])) := by
  refine xof (by decide) (Nat.le_of_ble_eq_true rfl) (fun p e s m below meth c A C w hr hn ls hl => ?_)
  have hl : lv_has ls 3 [(0, .ref h0), (1, .int v0), (2, .int v1)] := hl
  refine lv_aload_n C.1 C.2.1 dX4_assign_0 rfl (lv_at hl 0 rfl) ?_
  refine x_get (v := .ref h1) C w 0 8 0 (xin_X4 _) rfl rfl (by decide) (List.mem_cons_of_mem _ gw_24) rfl rfl dX4_assign_1 ?_
  refine lv_iload_n C.1 C.2.1 dX4_assign_4 rfl (lv_at hl 1 rfl) ?_
  refine lv_iload_n C.1 C.2.1 dX4_assign_5 rfl (lv_at hl 2 rfl) ?_
  refine x_kv C w [1, 2, 3, 4, 5] [0, 6, 7] rfl rfl (by decide) (by decide) (va_runV (As := [.int v0, .int v1]) (rest := []) (xfix C) (c34_X3_assign l G cy sa sv h1 h2 h3 h4 h5 v0 v1 (xtr C) _) (cwV 2 (xhts C) (xgV (maxL := 0) (cc := ⟨#[]⟩) (ret := none) gw_167 gw_168 gw_169 gw_7 gc_X3_assign) rfl rfl rfl (by decide +kernel) ⟨(Nat.le_of_ble_eq_true rfl), (Nat.le_of_ble_eq_true rfl)⟩) (xPV C w [1, 2, 3, 4, 5] rfl (by decide) (ci := 7) (q0 := 1) rfl rfl) rfl rfl hl.1 rfl (lv_room (Nat.le_of_ble_eq_true rfl)) dX4_assign_6 ⟨(Nat.le_of_ble_eq_true rfl), (Nat.le_of_ble_eq_true rfl)⟩) (fun f326 H locs w => ?_)
  have w : xW G A s [(h0, .inr (8, [.ref h1, .ref h6, .ref h8, .ref h9, .ref h10, .int 0, .ref h11, .ref h12])), (h6, .inr (6, [.ref h7, .int 0])), (h7, .inl (cy 1, 24, .inl (fun _ => 0))), (h1, .inr (7, [.ref h2, .ref h4])), (h2, .inr (6, [.ref h3, .int 1])), (h3, .inl (cy 1, 24, .inl (upd (fun _ => 0) 0 v0))), (h4, .inr (6, [.ref h5, .int 1])), (h5, .inl (cy 1, 24, .inl (upd (fun _ => 0) 0 v1)))] H _ := w
  refine lv_aload_n C.1 C.2.1 dX4_assign_9 rfl (lv_at hl 0 rfl) ?_
  refine lv_iload_n C.1 C.2.1 dX4_assign_10 rfl (lv_at hl 1 rfl) ?_
  refine x_kv C w [0, 1, 2] [3, 4, 5, 6, 7] rfl rfl (by decide) (by decide) (va_runV (As := [.int v0]) (rest := []) (xfix C) (c37_X4_use l G cy sa sv h0 h6 h7 h1 h8 h9 h10 h11 h12 v0 (xtr C) _) (cwV 1 (xhts C) (xgV (maxL := 0) (cc := ⟨#[]⟩) (ret := none) gw_177 gw_178 gw_179 gw_2 gc_X4_use) rfl rfl rfl (by decide +kernel) ⟨(Nat.le_of_ble_eq_true rfl), (Nat.le_of_ble_eq_true rfl)⟩) (xPV C w [0, 1, 2] rfl (by decide) (ci := 8) (q0 := 0) rfl rfl) rfl rfl hl.1 rfl (lv_room (Nat.le_of_ble_eq_true rfl)) dX4_assign_11 ⟨(Nat.le_of_ble_eq_true rfl), (Nat.le_of_ble_eq_true rfl)⟩) (fun f331 H locs w => ?_)
  have w : xW G A s [(h1, .inr (7, [.ref h2, .ref h4])), (h2, .inr (6, [.ref h3, .int 1])), (h3, .inl (cy 1, 24, .inl (upd (fun _ => 0) 0 v0))), (h4, .inr (6, [.ref h5, .int 1])), (h5, .inl (cy 1, 24, .inl (upd (fun _ => 0) 0 v1))), (h0, .inr (8, [.ref h1, .ref h6, .ref h8, .ref h9, .ref h10, .int 0, .ref h11, .ref h12])), (h6, .inr (6, [.ref h7, .int 1])), (h7, .inl (cy 1, 24, .inl (upd (fun _ => 0) 0 v0)))] H _ := w
  have w := w.sub (ws' := [(h0, .inr (8, [.ref h1, .ref h6, .ref h8, .ref h9, .ref h10, .int 0, .ref h11, .ref h12])), (h1, .inr (7, [.ref h2, .ref h4])), (h2, .inr (6, [.ref h3, .int 1])), (h3, .inl (cy 1, 24, .inl (upd (fun _ => 0) 0 v0))), (h4, .inr (6, [.ref h5, .int 1])), (h5, .inl (cy 1, 24, .inl (upd (fun _ => 0) 0 v1))), (h6, .inr (6, [.ref h7, .int 1])), (h7, .inl (cy 1, 24, .inl (upd (fun _ => 0) 0 v0)))]) [5, 0, 1, 2, 3, 4, 6, 7] (by decide) rfl rfl
  exact x_vret C w hr (fun _ => 0) rfl dX4_assign_14 (Nat.le_of_ble_eq_true rfl) (Nat.le_of_ble_eq_true rfl)
set_option maxHeartbeats 4000000 in
set_option maxRecDepth 100000 in
theorem c39_X4_store (l : Launch) (G : va_G) (cy : Nat → ClassId) (sa : String → Nat → Nat) (sv : Nat → Nat) (h0 h1 h2 h3 h4 h5 h6 h7 h8 h9 h10 h11 h12 h13 h14 h15 h16 h17 : Nat) (v0 v1 : Int32) (p0 : ¬ (-1000) = v1) : xM l G cy sa sv yX4_store (Cond.code yX4_store cX4_store 4 none :: XG) { frames := 12, cells := 0, slots := 0, locals := 338 } [.ref h0, .int v0, .int v1] [(h0, .inr (8, [.ref h1, .ref h11, .ref h3, .ref h13, .ref h14, .int 0, .ref h15, .ref h16])), (h1, .inr (7, [.ref h2, .ref h9])), (h2, .inr (6, [.ref h8, .int 0])), (h3, .inr (5, [.ref h4, .ref h6, .ref h17, .int 0])), (h4, .inr (6, [.ref h5, .int 0])), (h5, .inl (cy 1, 624, .inl (fun _ => 0))), (h6, .inr (6, [.ref h7, .int 0])), (h7, .inl (cy 1, 624, .inl (fun _ => 0))), (h8, .inl (cy 1, 24, .inl (fun _ => 0))), (h9, .inr (6, [.ref h10, .int 0])), (h10, .inl (cy 1, 24, .inl (fun _ => 0))), (h11, .inr (6, [.ref h12, .int 0])), (h12, .inl (cy 1, 24, .inl (fun _ => 0)))] (xQv G (fun f => [(h0, .inr (8, [.ref h1, .ref h11, .ref h3, .ref h13, .ref h14, .int 0, .ref h15, .ref h16])), (h1, .inr (7, [.ref h2, .ref h9])), (h2, .inr (6, [.ref h8, .int 1])), (h3, .inr (5, [.ref h4, .ref h6, .ref h17, .int 1])), (h4, .inr (6, [.ref h5, .int 1])), (h5, .inl (cy 1, 624, .inl (upd (fun _ => 0) 0 v0))), (h6, .inr (6, [.ref h7, .int 1])), (h7, .inl (cy 1, 624, .inl (upd (fun _ => 0) 0 (-1000)))), (h8, .inl (cy 1, 24, .inl (upd (fun _ => 0) 0 v0))), (h9, .inr (6, [.ref h10, .int 1])), (h10, .inl (cy 1, 24, .inl (upd (fun _ => 0) 0 v1))), (h11, .inr (6, [.ref h12, .int 1])), (h12, .inl (cy 1, 24, .inl (upd (fun _ => 0) 0 v0)))])) := by
  refine xof (by decide) (Nat.le_of_ble_eq_true rfl) (fun p e s m below meth c A C w hr hn ls hl => ?_)
  have hl : lv_has ls 4 [(0, .ref h0), (1, .int v0), (2, .int v1)] := hl
  refine lv_aload_n C.1 C.2.1 dX4_store_0 rfl (lv_at hl 0 rfl) ?_
  refine x_get (v := .ref h1) C w 0 8 0 (xin_X4 _) rfl rfl (by decide) (List.mem_cons_of_mem _ gw_24) rfl rfl dX4_store_1 ?_
  refine lv_iload_n C.1 C.2.1 dX4_store_4 rfl (lv_at hl 1 rfl) ?_
  refine x_ki C w [1, 2] [0, 3, 4, 5, 6, 7, 8, 9, 10, 11, 12] rfl rfl (by decide) (by decide) (va_runV (As := [.int v0]) (rest := []) (xfix C) (c25_X3_valueOf l G cy sa sv h1 h2 h9 h8 v0 (xtr C) _) (cwV 1 (xhts C) (xgV (maxL := 0) (cc := ⟨#[]⟩) (ret := none) gw_142 gw_143 gw_144 gw_7 gc_X3_valueOf) rfl rfl rfl (by decide +kernel) ⟨(Nat.le_of_ble_eq_true rfl), (Nat.le_of_ble_eq_true rfl)⟩) (xPV C w [1, 2] rfl (by decide) (ci := 7) (q0 := 1) rfl rfl) rfl rfl hl.1 rfl (lv_room (Nat.le_of_ble_eq_true rfl)) dX4_store_5 ⟨(Nat.le_of_ble_eq_true rfl), (Nat.le_of_ble_eq_true rfl)⟩) (fun f314 H locs w => ?_)
  have w : xW G A s [(h0, .inr (8, [.ref h1, .ref h11, .ref h3, .ref h13, .ref h14, .int 0, .ref h15, .ref h16])), (h3, .inr (5, [.ref h4, .ref h6, .ref h17, .int 0])), (h4, .inr (6, [.ref h5, .int 0])), (h5, .inl (cy 1, 624, .inl (fun _ => 0))), (h6, .inr (6, [.ref h7, .int 0])), (h7, .inl (cy 1, 624, .inl (fun _ => 0))), (h8, .inl (cy 1, 24, .inl (fun _ => 0))), (h9, .inr (6, [.ref h10, .int 0])), (h10, .inl (cy 1, 24, .inl (fun _ => 0))), (h11, .inr (6, [.ref h12, .int 0])), (h12, .inl (cy 1, 24, .inl (fun _ => 0))), (h1, .inr (7, [.ref h2, .ref h9])), (h2, .inr (6, [.ref h8, .int 0]))] H _ := w
  refine lv_istore_n (lv' := [(3, .int (-1000)), (0, .ref h0), (1, .int v0), (2, .int v1)]) C.1 C.2.1 dX4_store_8 rfl hl (by decide) rfl (fun ls hl => ?_)
  refine lv_iload_n C.1 C.2.1 dX4_store_9 rfl (lv_at hl 0 rfl) ?_
  refine lv_iload_n C.1 C.2.1 dX4_store_10 rfl (lv_at hl 3 rfl) ?_
  refine lv_icmp_eq (tgt := 23) C.1 C.2.1 dX4_store_11 (by decide) (fun c9 => absurd c9 p0) (fun _ => ?_)
  refine lv_aload_n C.1 C.2.1 dX4_store_14 rfl (lv_at hl 1 rfl) ?_
  refine x_get (v := .ref h3) C w 0 8 2 (xin_X4 _) rfl rfl (by decide) (List.mem_cons_of_mem _ gw_41) rfl rfl dX4_store_15 ?_
  refine lv_iload_n C.1 C.2.1 dX4_store_18 rfl (lv_at hl 2 rfl) ?_
  refine lv_iload_n C.1 C.2.1 dX4_store_19 rfl (lv_at hl 0 rfl) ?_
  refine x_kv C w [1, 2, 3, 4, 5] [0, 6, 7, 8, 9, 10, 11, 12] rfl rfl (by decide) (by decide) (va_runV (As := [.int v0, .int (-1000)]) (rest := []) (xfix C) (c30_X1_note l G cy sa sv h3 h4 h5 h6 h7 h17 v0 (xtr C) _) (cwV 2 (xhts C) (xgV (maxL := 0) (cc := ⟨#[]⟩) (ret := none) gw_154 gw_155 gw_156 gw_30 gc_X1_note) rfl rfl rfl (by decide +kernel) ⟨(Nat.le_of_ble_eq_true rfl), (Nat.le_of_ble_eq_true rfl)⟩) (xPV C w [1, 2, 3, 4, 5] rfl (by decide) (ci := 5) (q0 := 1) rfl rfl) rfl rfl hl.1 rfl (lv_room (Nat.le_of_ble_eq_true rfl)) dX4_store_20 ⟨(Nat.le_of_ble_eq_true rfl), (Nat.le_of_ble_eq_true rfl)⟩) (fun f319 H locs w => ?_)
  have w : xW G A s [(h0, .inr (8, [.ref h1, .ref h11, .ref h3, .ref h13, .ref h14, .int 0, .ref h15, .ref h16])), (h8, .inl (cy 1, 24, .inl (fun _ => 0))), (h9, .inr (6, [.ref h10, .int 0])), (h10, .inl (cy 1, 24, .inl (fun _ => 0))), (h11, .inr (6, [.ref h12, .int 0])), (h12, .inl (cy 1, 24, .inl (fun _ => 0))), (h1, .inr (7, [.ref h2, .ref h9])), (h2, .inr (6, [.ref h8, .int 0])), (h3, .inr (5, [.ref h4, .ref h6, .ref h17, .int 1])), (h4, .inr (6, [.ref h5, .int 1])), (h5, .inl (cy 1, 624, .inl (upd (fun _ => 0) 0 v0))), (h6, .inr (6, [.ref h7, .int 1])), (h7, .inl (cy 1, 624, .inl (upd (fun _ => 0) 0 (-1000))))] H _ := w
  refine lv_aload_n C.1 C.2.1 dX4_store_23 rfl (lv_at hl 1 rfl) ?_
  refine lv_iload_n C.1 C.2.1 dX4_store_24 rfl (lv_at hl 2 rfl) ?_
  refine lv_iload_n C.1 C.2.1 dX4_store_25 rfl (lv_at hl 3 rfl) ?_
  refine x_kv C w [0, 6, 7, 1, 2, 3, 4, 5] [8, 9, 10, 11, 12] rfl rfl (by decide) (by decide) (va_runV (As := [.int v0, .int v1]) (rest := []) (xfix C) (c38_X4_assign l G cy sa sv h0 h1 h2 h8 h9 h10 h11 h12 h3 h13 h14 h15 h16 v0 v1 (xtr C) _) (cwV 2 (xhts C) (xgV (maxL := 0) (cc := ⟨#[]⟩) (ret := none) gw_181 gw_182 gw_183 gw_2 gc_X4_assign) rfl rfl rfl (by decide +kernel) ⟨(Nat.le_of_ble_eq_true rfl), (Nat.le_of_ble_eq_true rfl)⟩) (xPV C w [0, 6, 7, 1, 2, 3, 4, 5] rfl (by decide) (ci := 8) (q0 := 0) rfl rfl) rfl rfl hl.1 rfl (lv_room (Nat.le_of_ble_eq_true rfl)) dX4_store_26 ⟨(Nat.le_of_ble_eq_true rfl), (Nat.le_of_ble_eq_true rfl)⟩) (fun f332 H locs w => ?_)
  have w : xW G A s [(h3, .inr (5, [.ref h4, .ref h6, .ref h17, .int 1])), (h4, .inr (6, [.ref h5, .int 1])), (h5, .inl (cy 1, 624, .inl (upd (fun _ => 0) 0 v0))), (h6, .inr (6, [.ref h7, .int 1])), (h7, .inl (cy 1, 624, .inl (upd (fun _ => 0) 0 (-1000)))), (h0, .inr (8, [.ref h1, .ref h11, .ref h3, .ref h13, .ref h14, .int 0, .ref h15, .ref h16])), (h1, .inr (7, [.ref h2, .ref h9])), (h2, .inr (6, [.ref h8, .int 1])), (h8, .inl (cy 1, 24, .inl (upd (fun _ => 0) 0 v0))), (h9, .inr (6, [.ref h10, .int 1])), (h10, .inl (cy 1, 24, .inl (upd (fun _ => 0) 0 v1))), (h11, .inr (6, [.ref h12, .int 1])), (h12, .inl (cy 1, 24, .inl (upd (fun _ => 0) 0 v0)))] H _ := w
  have w := w.sub (ws' := [(h0, .inr (8, [.ref h1, .ref h11, .ref h3, .ref h13, .ref h14, .int 0, .ref h15, .ref h16])), (h1, .inr (7, [.ref h2, .ref h9])), (h2, .inr (6, [.ref h8, .int 1])), (h3, .inr (5, [.ref h4, .ref h6, .ref h17, .int 1])), (h4, .inr (6, [.ref h5, .int 1])), (h5, .inl (cy 1, 624, .inl (upd (fun _ => 0) 0 v0))), (h6, .inr (6, [.ref h7, .int 1])), (h7, .inl (cy 1, 624, .inl (upd (fun _ => 0) 0 (-1000)))), (h8, .inl (cy 1, 24, .inl (upd (fun _ => 0) 0 v0))), (h9, .inr (6, [.ref h10, .int 1])), (h10, .inl (cy 1, 24, .inl (upd (fun _ => 0) 0 v1))), (h11, .inr (6, [.ref h12, .int 1])), (h12, .inl (cy 1, 24, .inl (upd (fun _ => 0) 0 v0)))]) [5, 6, 7, 0, 1, 2, 3, 4, 8, 9, 10, 11, 12] (by decide) rfl rfl
  exact x_vret C w hr (fun _ => 0) rfl dX4_store_29 (Nat.le_of_ble_eq_true rfl) (Nat.le_of_ble_eq_true rfl)
set_option maxHeartbeats 4000000 in
set_option maxRecDepth 100000 in
theorem c40_X2_insert (l : Launch) (G : va_G) (cy : Nat → ClassId) (sa : String → Nat → Nat) (sv : Nat → Nat) (h0 h1 : Nat) : xM l G cy sa sv yX2_insert (Cond.code yX2_insert cX2_insert 4 none :: XG) { frames := 8, cells := 0, slots := 0, locals := 250 } [.ref h0, .int 0, .int 1] [(h0, .inr (6, [.ref h1, .int 0])), (h1, .inl (cy 1, 12, .inl (fun _ => 0)))] (xQv G (fun f => [(h0, .inr (6, [.ref h1, .int 1])), (h1, .inl (cy 1, 12, .inl (upd (fun _ => 0) 0 1)))])) := by
  refine xof (by decide) (Nat.le_of_ble_eq_true rfl) (fun p e s m below meth c A C w hr hn ls hl => ?_)
  have hl : lv_has ls 4 [(0, .ref h0), (1, .int 0), (2, .int 1)] := hl
  refine lv_iload_n C.1 C.2.1 dX2_insert_0 rfl (lv_at hl 1 rfl) ?_
  refine lv_if_lt (tgt := 24) C.1 C.2.1 dX2_insert_1 (by decide) (fun c9 => absurd c9 (by decide)) (fun _ => ?_)
  refine lv_iload_n C.1 C.2.1 dX2_insert_4 rfl (lv_at hl 1 rfl) ?_
  refine lv_aload_n C.1 C.2.1 dX2_insert_5 rfl (lv_at hl 0 rfl) ?_
  refine x_get (v := .int 0) C w 0 6 1 (xin_X2 _) rfl rfl (by decide) (List.mem_cons_of_mem _ gw_15) rfl rfl dX2_insert_6 ?_
  refine lv_icmp_gt (tgt := 24) C.1 C.2.1 dX2_insert_9 (by decide) (fun c9 => absurd c9 (by decide)) (fun _ => ?_)
  refine lv_aload_n C.1 C.2.1 dX2_insert_12 rfl (lv_at hl 0 rfl) ?_
  refine x_get (v := .int 0) C w 0 6 1 (xin_X2 _) rfl rfl (by decide) (List.mem_cons_of_mem _ gw_15) rfl rfl dX2_insert_13 ?_
  refine lv_aload_n C.1 C.2.1 dX2_insert_16 rfl (lv_at hl 0 rfl) ?_
  refine x_get (v := .ref h1) C w 0 6 0 (xin_X2 _) rfl rfl (by decide) (List.mem_cons_of_mem _ gw_14) rfl rfl dX2_insert_17 ?_
  refine x_alen (v := 12) C w 1 1 rfl rfl (by rfl) dX2_insert_20 ?_
  refine lv_icmp_lt (tgt := 25) C.1 C.2.1 dX2_insert_21 (by decide) (fun _ => ?_) (fun c9 => absurd (by decide) c9)
  refine lv_aload_n C.1 C.2.1 dX2_insert_25 rfl (lv_at hl 0 rfl) ?_
  refine x_get (v := .int 0) C w 0 6 1 (xin_X2 _) rfl rfl (by decide) (List.mem_cons_of_mem _ gw_15) rfl rfl dX2_insert_26 ?_
  refine lv_istore_n (lv' := [(3, .int 0), (0, .ref h0), (1, .int 0), (2, .int 1)]) C.1 C.2.1 dX2_insert_29 rfl hl (by decide) rfl (fun ls hl => ?_)
  refine lv_iload_n C.1 C.2.1 dX2_insert_30 rfl (lv_at hl 0 rfl) ?_
  refine lv_iload_n C.1 C.2.1 dX2_insert_31 rfl (lv_at hl 2 rfl) ?_
  refine lv_icmp_le (tgt := 55) C.1 C.2.1 dX2_insert_32 (by decide) (fun _ => ?_) (fun c9 => absurd (by decide) c9)
  refine lv_aload_n C.1 C.2.1 dX2_insert_55 rfl (lv_at hl 1 rfl) ?_
  refine x_get (v := .ref h1) C w 0 6 0 (xin_X2 _) rfl rfl (by decide) (List.mem_cons_of_mem _ gw_14) rfl rfl dX2_insert_56 ?_
  refine lv_iload_n C.1 C.2.1 dX2_insert_59 rfl (lv_at hl 2 rfl) ?_
  refine lv_iload_n C.1 C.2.1 dX2_insert_60 rfl (lv_at hl 3 rfl) ?_
  refine x_iast (k := 0) C w 1 1 rfl rfl (xvin (by decide)) (by decide) dX2_insert_61 (fun H locs w => ?_)
  have w : xW G A s [(h0, .inr (6, [.ref h1, .int 0])), (h1, .inl (cy 1, 12, .inl (upd (fun _ => 0) 0 1)))] H _ := w
  refine lv_aload_n C.1 C.2.1 dX2_insert_62 rfl (lv_at hl 1 rfl) ?_
  refine lv_dup C.1 C.2.1 dX2_insert_63 rfl ?_
  refine x_get (v := .int 0) C w 0 6 1 (xin_X2 _) rfl rfl (by decide) (List.mem_cons_of_mem _ gw_15) rfl rfl dX2_insert_64 ?_
  refine lv_iconst (v := 1) C.1 C.2.1 dX2_insert_67 (by decide) ?_
  refine lv_iadd C.1 C.2.1 dX2_insert_68 ?_
  refine x_is (y := 1) (by decide) ?_
  refine x_put (ty := .int) (ty0 := tyX2) C w 0 6 1 (xin_X2 _) tyX2_ok nmX2 rfl rfl (by decide) (List.mem_cons_of_mem _ gw_15) rfl rfl (by decide +kernel) rfl rfl (Nat.le_of_ble_eq_true rfl) dX2_insert_69 (fun H locs w => ?_)
  have w : xW G A s [(h0, .inr (6, [.ref h1, .int 1])), (h1, .inl (cy 1, 12, .inl (upd (fun _ => 0) 0 1)))] H _ := w
  exact x_vret C w hr (fun _ => 0) rfl dX2_insert_72 (Nat.le_of_ble_eq_true rfl) (Nat.le_of_ble_eq_true rfl)
set_option maxHeartbeats 4000000 in
set_option maxRecDepth 100000 in
theorem c41_X2_add (l : Launch) (G : va_G) (cy : Nat → ClassId) (sa : String → Nat → Nat) (sv : Nat → Nat) (h0 h1 : Nat) : xM l G cy sa sv yX2_add (Cond.code yX2_add cX2_add 2 none :: XG) { frames := 9, cells := 0, slots := 0, locals := 273 } [.ref h0, .int 1] [(h0, .inr (6, [.ref h1, .int 0])), (h1, .inl (cy 1, 12, .inl (fun _ => 0)))] (xQv G (fun f => [(h0, .inr (6, [.ref h1, .int 1])), (h1, .inl (cy 1, 12, .inl (upd (fun _ => 0) 0 1)))])) := by
  refine xof (by decide) (Nat.le_of_ble_eq_true rfl) (fun p e s m below meth c A C w hr hn ls hl => ?_)
  have hl : lv_has ls 2 [(0, .ref h0), (1, .int 1)] := hl
  refine lv_aload_n C.1 C.2.1 dX2_add_0 rfl (lv_at hl 0 rfl) ?_
  refine lv_aload_n C.1 C.2.1 dX2_add_1 rfl (lv_at hl 0 rfl) ?_
  refine x_get (v := .int 0) C w 0 6 1 (xin_X2 _) rfl rfl (by decide) (List.mem_cons_of_mem _ gw_15) rfl rfl dX2_add_2 ?_
  refine lv_iload_n C.1 C.2.1 dX2_add_5 rfl (lv_at hl 1 rfl) ?_
  refine x_kv C w [0, 1] [] rfl rfl (by decide) (by decide) (va_runV (As := [.int 0, .int 1]) (rest := []) (xfix C) (c40_X2_insert l G cy sa sv h0 h1 (xtr C) _) (cwV 2 (xhts C) (xgV (maxL := 0) (cc := ⟨#[]⟩) (ret := none) gw_146 gw_147 gw_148 gw_11 gc_X2_insert) rfl rfl rfl (by decide +kernel) ⟨(Nat.le_of_ble_eq_true rfl), (Nat.le_of_ble_eq_true rfl)⟩) (xPV C w [0, 1] rfl (by decide) (ci := 6) (q0 := 0) rfl rfl) rfl rfl hl.1 rfl (lv_room (Nat.le_of_ble_eq_true rfl)) dX2_add_6 ⟨(Nat.le_of_ble_eq_true rfl), (Nat.le_of_ble_eq_true rfl)⟩) (fun f335 H locs w => ?_)
  have w : xW G A s [(h0, .inr (6, [.ref h1, .int 1])), (h1, .inl (cy 1, 12, .inl (upd (fun _ => 0) 0 1)))] H _ := w
  exact x_vret C w hr (fun _ => 0) rfl dX2_add_9 (Nat.le_of_ble_eq_true rfl) (Nat.le_of_ble_eq_true rfl)
set_option maxHeartbeats 4000000 in
set_option maxRecDepth 100000 in
theorem c42_X1_endStep (l : Launch) (G : va_G) (cy : Nat → ClassId) (sa : String → Nat → Nat) (sv : Nat → Nat) (h0 h1 h2 h3 h4 : Nat) : xM l G cy sa sv yX1_endStep (Cond.code yX1_endStep cX1_endStep 1 none :: XG) { frames := 10, cells := 0, slots := 0, locals := 294 } [.ref h0] [(h0, .inr (5, [.ref h3, .ref h4, .ref h1, .int 1])), (h1, .inr (6, [.ref h2, .int 0])), (h2, .inl (cy 1, 12, .inl (fun _ => 0)))] (xQv G (fun f => [(h0, .inr (5, [.ref h3, .ref h4, .ref h1, .int 0])), (h1, .inr (6, [.ref h2, .int 1])), (h2, .inl (cy 1, 12, .inl (upd (fun _ => 0) 0 1)))])) := by
  refine xof (by decide) (Nat.le_of_ble_eq_true rfl) (fun p e s m below meth c A C w hr hn ls hl => ?_)
  have hl : lv_has ls 1 [(0, .ref h0)] := hl
  refine lv_aload_n C.1 C.2.1 dX1_endStep_0 rfl (lv_at hl 0 rfl) ?_
  refine x_get (v := .int 1) C w 0 5 3 (xin_X1 _) rfl rfl (by decide) (List.mem_cons_of_mem _ gw_37) rfl rfl dX1_endStep_1 ?_
  refine lv_if_ne (tgt := 8) C.1 C.2.1 dX1_endStep_4 (by decide) (fun _ => ?_) (fun c9 => absurd c9 (by decide))
  refine lv_aload_n C.1 C.2.1 dX1_endStep_8 rfl (lv_at hl 0 rfl) ?_
  refine x_get (v := .ref h1) C w 0 5 2 (xin_X1 _) rfl rfl (by decide) (List.mem_cons_of_mem _ gw_36) rfl rfl dX1_endStep_9 ?_
  refine x_ki C w [1] [0, 2] rfl rfl (by decide) (by decide) (va_runV (As := []) (rest := []) (xfix C) (c21_X2_count l G cy sa sv h1 h2 (xtr C) _) (cwV 0 (xhts C) (xgV (maxL := 0) (cc := ⟨#[]⟩) (ret := none) gw_188 gw_127 gw_128 gw_11 gc_X2_count) rfl rfl rfl (by decide +kernel) ⟨(Nat.le_of_ble_eq_true rfl), (Nat.le_of_ble_eq_true rfl)⟩) (xPV C w [1] rfl (by decide) (ci := 6) (q0 := 1) rfl rfl) rfl rfl hl.1 rfl (lv_room (Nat.le_of_ble_eq_true rfl)) dX1_endStep_12 ⟨(Nat.le_of_ble_eq_true rfl), (Nat.le_of_ble_eq_true rfl)⟩) (fun f334 H locs w => ?_)
  have w : xW G A s [(h0, .inr (5, [.ref h3, .ref h4, .ref h1, .int 1])), (h2, .inl (cy 1, 12, .inl (fun _ => 0))), (h1, .inr (6, [.ref h2, .int 0]))] H _ := w
  refine lv_bipush (v := 12) C.1 C.2.1 dX1_endStep_15 (by decide) ?_
  refine lv_icmp_lt (tgt := 24) C.1 C.2.1 dX1_endStep_17 (by decide) (fun _ => ?_) (fun c9 => absurd (by decide) c9)
  refine lv_aload_n C.1 C.2.1 dX1_endStep_24 rfl (lv_at hl 0 rfl) ?_
  refine x_get (v := .ref h1) C w 0 5 2 (xin_X1 _) rfl rfl (by decide) (List.mem_cons_of_mem _ gw_36) rfl rfl dX1_endStep_25 ?_
  refine lv_aload_n C.1 C.2.1 dX1_endStep_28 rfl (lv_at hl 0 rfl) ?_
  refine x_get (v := .int 1) C w 0 5 3 (xin_X1 _) rfl rfl (by decide) (List.mem_cons_of_mem _ gw_37) rfl rfl dX1_endStep_29 ?_
  refine x_kv C w [2, 1] [0] rfl rfl (by decide) (by decide) (va_runV (As := [.int 1]) (rest := []) (xfix C) (c41_X2_add l G cy sa sv h1 h2 (xtr C) _) (cwV 1 (xhts C) (xgV (maxL := 0) (cc := ⟨#[]⟩) (ret := none) gw_150 gw_151 gw_152 gw_11 gc_X2_add) rfl rfl rfl (by decide +kernel) ⟨(Nat.le_of_ble_eq_true rfl), (Nat.le_of_ble_eq_true rfl)⟩) (xPV C w [2, 1] rfl (by decide) (ci := 6) (q0 := 2) rfl rfl) rfl rfl hl.1 rfl (lv_room (Nat.le_of_ble_eq_true rfl)) dX1_endStep_32 ⟨(Nat.le_of_ble_eq_true rfl), (Nat.le_of_ble_eq_true rfl)⟩) (fun f336 H locs w => ?_)
  have w : xW G A s [(h0, .inr (5, [.ref h3, .ref h4, .ref h1, .int 1])), (h1, .inr (6, [.ref h2, .int 1])), (h2, .inl (cy 1, 12, .inl (upd (fun _ => 0) 0 1)))] H _ := w
  refine lv_aload_n C.1 C.2.1 dX1_endStep_35 rfl (lv_at hl 0 rfl) ?_
  refine lv_iconst (v := 0) C.1 C.2.1 dX1_endStep_36 (by decide) ?_
  refine x_put (ty := .int) (ty0 := tyX1) C w 0 5 3 (xin_X1 _) tyX1_ok nmX1 rfl rfl (by decide) (List.mem_cons_of_mem _ gw_37) rfl rfl (by decide +kernel) rfl rfl (Nat.le_of_ble_eq_true rfl) dX1_endStep_37 (fun H locs w => ?_)
  have w : xW G A s [(h0, .inr (5, [.ref h3, .ref h4, .ref h1, .int 0])), (h1, .inr (6, [.ref h2, .int 1])), (h2, .inl (cy 1, 12, .inl (upd (fun _ => 0) 0 1)))] H _ := w
  exact x_vret C w hr (fun _ => 0) rfl dX1_endStep_40 (Nat.le_of_ble_eq_true rfl) (Nat.le_of_ble_eq_true rfl)
set_option maxHeartbeats 4000000 in
set_option maxRecDepth 100000 in
theorem c43_X4_put (l : Launch) (G : va_G) (cy : Nat → ClassId) (sa : String → Nat → Nat) (sv : Nat → Nat) (h0 h1 h2 h3 h4 h5 h6 h7 h8 h9 h10 h11 h12 h13 h14 h15 h16 h17 h18 : Nat) (v0 v1 : Int32) (p0 : ¬ v1 < (-999)) (p1 : v1 ≤ 999) (p2 : ¬ (-1000) = v1) : xM l G cy sa sv yX4_put (Cond.code yX4_put cX4_put 4 (some .int) :: XG) { frames := 13, cells := 0, slots := 0, locals := 361 } [.ref h0, .int v0, .int v1] [(h0, .inr (8, [.ref h1, .ref h11, .ref h3, .ref h15, .ref h16, .int 0, .ref h17, .ref h18])), (h1, .inr (7, [.ref h2, .ref h9])), (h2, .inr (6, [.ref h8, .int 0])), (h3, .inr (5, [.ref h4, .ref h6, .ref h13, .int 0])), (h4, .inr (6, [.ref h5, .int 0])), (h5, .inl (cy 1, 624, .inl (fun _ => 0))), (h6, .inr (6, [.ref h7, .int 0])), (h7, .inl (cy 1, 624, .inl (fun _ => 0))), (h8, .inl (cy 1, 24, .inl (fun _ => 0))), (h9, .inr (6, [.ref h10, .int 0])), (h10, .inl (cy 1, 24, .inl (fun _ => 0))), (h11, .inr (6, [.ref h12, .int 0])), (h12, .inl (cy 1, 24, .inl (fun _ => 0))), (h13, .inr (6, [.ref h14, .int 0])), (h14, .inl (cy 1, 12, .inl (fun _ => 0)))] (xQi G (fun f => [(h0, .inr (8, [.ref h1, .ref h11, .ref h3, .ref h15, .ref h16, .int 0, .ref h17, .ref h18])), (h1, .inr (7, [.ref h2, .ref h9])), (h2, .inr (6, [.ref h8, .int 1])), (h3, .inr (5, [.ref h4, .ref h6, .ref h13, .int 0])), (h4, .inr (6, [.ref h5, .int 1])), (h5, .inl (cy 1, 624, .inl (upd (fun _ => 0) 0 v0))), (h6, .inr (6, [.ref h7, .int 1])), (h7, .inl (cy 1, 624, .inl (upd (fun _ => 0) 0 (-1000)))), (h8, .inl (cy 1, 24, .inl (upd (fun _ => 0) 0 v0))), (h9, .inr (6, [.ref h10, .int 1])), (h10, .inl (cy 1, 24, .inl (upd (fun _ => 0) 0 v1))), (h11, .inr (6, [.ref h12, .int 1])), (h12, .inl (cy 1, 24, .inl (upd (fun _ => 0) 0 v0))), (h13, .inr (6, [.ref h14, .int 1])), (h14, .inl (cy 1, 12, .inl (upd (fun _ => 0) 0 1)))]) (-1000)) := by
  refine xof (by decide) (Nat.le_of_ble_eq_true rfl) (fun p e s m below meth c A C w hr hn ls hl => ?_)
  have hl : lv_has ls 4 [(0, .ref h0), (1, .int v0), (2, .int v1)] := hl
  refine lv_iload_n C.1 C.2.1 dX4_put_0 rfl (lv_at hl 2 rfl) ?_
  refine x_kv C w [] [0, 1, 2, 3, 4, 5, 6, 7, 8, 9, 10, 11, 12, 13, 14] rfl rfl (by decide) (by decide) (va_runS (As := [.int v1]) (rest := []) (xfix C) (c20_X4_checkValue l G cy sa sv v1 p0 p1 (xtr C) _) (va_cwS 1 (xhts C) (xgS gw_98 gw_99 gw_2 gc_X4_checkValue) rfl rfl rfl (by decide +kernel) ⟨(Nat.le_of_ble_eq_true rfl), (Nat.le_of_ble_eq_true rfl)⟩) (xPS C w [] rfl (by decide)) rfl rfl hl.1 rfl (lv_room (Nat.le_of_ble_eq_true rfl)) dX4_put_1 ⟨(Nat.le_of_ble_eq_true rfl), (Nat.le_of_ble_eq_true rfl)⟩) (fun f307 H locs w => ?_)
  have w : xW G A s [(h0, .inr (8, [.ref h1, .ref h11, .ref h3, .ref h15, .ref h16, .int 0, .ref h17, .ref h18])), (h1, .inr (7, [.ref h2, .ref h9])), (h2, .inr (6, [.ref h8, .int 0])), (h3, .inr (5, [.ref h4, .ref h6, .ref h13, .int 0])), (h4, .inr (6, [.ref h5, .int 0])), (h5, .inl (cy 1, 624, .inl (fun _ => 0))), (h6, .inr (6, [.ref h7, .int 0])), (h7, .inl (cy 1, 624, .inl (fun _ => 0))), (h8, .inl (cy 1, 24, .inl (fun _ => 0))), (h9, .inr (6, [.ref h10, .int 0])), (h10, .inl (cy 1, 24, .inl (fun _ => 0))), (h11, .inr (6, [.ref h12, .int 0])), (h12, .inl (cy 1, 24, .inl (fun _ => 0))), (h13, .inr (6, [.ref h14, .int 0])), (h14, .inl (cy 1, 12, .inl (fun _ => 0)))] H _ := w
  refine lv_aload_n C.1 C.2.1 dX4_put_4 rfl (lv_at hl 0 rfl) ?_
  refine lv_iload_n C.1 C.2.1 dX4_put_5 rfl (lv_at hl 1 rfl) ?_
  refine x_kv C w [0, 1, 2] [3, 4, 5, 6, 7, 8, 9, 10, 11, 12, 13, 14] rfl rfl (by decide) (by decide) (va_runV (As := [.int v0]) (rest := []) (xfix C) (c23_X4_checkRoomFor l G cy sa sv h0 h1 h2 h11 h3 h15 h16 h17 h18 h9 h8 v0 (xtr C) _) (cwV 1 (xhts C) (xgV (maxL := 0) (cc := ⟨#[]⟩) (ret := none) gw_134 gw_135 gw_136 gw_2 gc_X4_checkRoomFor) rfl rfl rfl (by decide +kernel) ⟨(Nat.le_of_ble_eq_true rfl), (Nat.le_of_ble_eq_true rfl)⟩) (xPV C w [0, 1, 2] rfl (by decide) (ci := 8) (q0 := 0) rfl rfl) rfl rfl hl.1 rfl (lv_room (Nat.le_of_ble_eq_true rfl)) dX4_put_6 ⟨(Nat.le_of_ble_eq_true rfl), (Nat.le_of_ble_eq_true rfl)⟩) (fun f310 H locs w => ?_)
  have w : xW G A s [(h3, .inr (5, [.ref h4, .ref h6, .ref h13, .int 0])), (h4, .inr (6, [.ref h5, .int 0])), (h5, .inl (cy 1, 624, .inl (fun _ => 0))), (h6, .inr (6, [.ref h7, .int 0])), (h7, .inl (cy 1, 624, .inl (fun _ => 0))), (h8, .inl (cy 1, 24, .inl (fun _ => 0))), (h9, .inr (6, [.ref h10, .int 0])), (h10, .inl (cy 1, 24, .inl (fun _ => 0))), (h11, .inr (6, [.ref h12, .int 0])), (h12, .inl (cy 1, 24, .inl (fun _ => 0))), (h13, .inr (6, [.ref h14, .int 0])), (h14, .inl (cy 1, 12, .inl (fun _ => 0))), (h0, .inr (8, [.ref h1, .ref h11, .ref h3, .ref h15, .ref h16, .int 0, .ref h17, .ref h18])), (h1, .inr (7, [.ref h2, .ref h9])), (h2, .inr (6, [.ref h8, .int 0]))] H _ := w
  refine lv_aload_n C.1 C.2.1 dX4_put_9 rfl (lv_at hl 0 rfl) ?_
  refine x_get (v := .ref h1) C w 12 8 0 (xin_X4 _) rfl rfl (by decide) (List.mem_cons_of_mem _ gw_24) rfl rfl dX4_put_10 ?_
  refine lv_iload_n C.1 C.2.1 dX4_put_13 rfl (lv_at hl 1 rfl) ?_
  refine x_ki C w [13, 14] [0, 1, 2, 3, 4, 5, 6, 7, 8, 9, 10, 11, 12] rfl rfl (by decide) (by decide) (va_runV (As := [.int v0]) (rest := []) (xfix C) (c25_X3_valueOf l G cy sa sv h1 h2 h9 h8 v0 (xtr C) _) (cwV 1 (xhts C) (xgV (maxL := 0) (cc := ⟨#[]⟩) (ret := none) gw_142 gw_143 gw_144 gw_7 gc_X3_valueOf) rfl rfl rfl (by decide +kernel) ⟨(Nat.le_of_ble_eq_true rfl), (Nat.le_of_ble_eq_true rfl)⟩) (xPV C w [13, 14] rfl (by decide) (ci := 7) (q0 := 13) rfl rfl) rfl rfl hl.1 rfl (lv_room (Nat.le_of_ble_eq_true rfl)) dX4_put_14 ⟨(Nat.le_of_ble_eq_true rfl), (Nat.le_of_ble_eq_true rfl)⟩) (fun f312 H locs w => ?_)
  have w : xW G A s [(h3, .inr (5, [.ref h4, .ref h6, .ref h13, .int 0])), (h4, .inr (6, [.ref h5, .int 0])), (h5, .inl (cy 1, 624, .inl (fun _ => 0))), (h6, .inr (6, [.ref h7, .int 0])), (h7, .inl (cy 1, 624, .inl (fun _ => 0))), (h8, .inl (cy 1, 24, .inl (fun _ => 0))), (h9, .inr (6, [.ref h10, .int 0])), (h10, .inl (cy 1, 24, .inl (fun _ => 0))), (h11, .inr (6, [.ref h12, .int 0])), (h12, .inl (cy 1, 24, .inl (fun _ => 0))), (h13, .inr (6, [.ref h14, .int 0])), (h14, .inl (cy 1, 12, .inl (fun _ => 0))), (h0, .inr (8, [.ref h1, .ref h11, .ref h3, .ref h15, .ref h16, .int 0, .ref h17, .ref h18])), (h1, .inr (7, [.ref h2, .ref h9])), (h2, .inr (6, [.ref h8, .int 0]))] H _ := w
  refine lv_istore_n (lv' := [(3, .int (-1000)), (0, .ref h0), (1, .int v0), (2, .int v1)]) C.1 C.2.1 dX4_put_17 rfl hl (by decide) rfl (fun ls hl => ?_)
  refine lv_aload_n C.1 C.2.1 dX4_put_18 rfl (lv_at hl 1 rfl) ?_
  refine lv_iload_n C.1 C.2.1 dX4_put_19 rfl (lv_at hl 2 rfl) ?_
  refine lv_iload_n C.1 C.2.1 dX4_put_20 rfl (lv_at hl 3 rfl) ?_
  refine x_kv C w [12, 13, 14, 0, 1, 2, 3, 4, 5, 6, 7, 8, 9] [10, 11] rfl rfl (by decide) (by decide) (va_runV (As := [.int v0, .int v1]) (rest := []) (xfix C) (c39_X4_store l G cy sa sv h0 h1 h2 h3 h4 h5 h6 h7 h8 h9 h10 h11 h12 h15 h16 h17 h18 h13 v0 v1 p2 (xtr C) _) (cwV 2 (xhts C) (xgV (maxL := 0) (cc := ⟨#[]⟩) (ret := none) gw_185 gw_186 gw_187 gw_2 gc_X4_store) rfl rfl rfl (by decide +kernel) ⟨(Nat.le_of_ble_eq_true rfl), (Nat.le_of_ble_eq_true rfl)⟩) (xPV C w [12, 13, 14, 0, 1, 2, 3, 4, 5, 6, 7, 8, 9] rfl (by decide) (ci := 8) (q0 := 12) rfl rfl) rfl rfl hl.1 rfl (lv_room (Nat.le_of_ble_eq_true rfl)) dX4_put_21 ⟨(Nat.le_of_ble_eq_true rfl), (Nat.le_of_ble_eq_true rfl)⟩) (fun f333 H locs w => ?_)
  have w : xW G A s [(h13, .inr (6, [.ref h14, .int 0])), (h14, .inl (cy 1, 12, .inl (fun _ => 0))), (h0, .inr (8, [.ref h1, .ref h11, .ref h3, .ref h15, .ref h16, .int 0, .ref h17, .ref h18])), (h1, .inr (7, [.ref h2, .ref h9])), (h2, .inr (6, [.ref h8, .int 1])), (h3, .inr (5, [.ref h4, .ref h6, .ref h13, .int 1])), (h4, .inr (6, [.ref h5, .int 1])), (h5, .inl (cy 1, 624, .inl (upd (fun _ => 0) 0 v0))), (h6, .inr (6, [.ref h7, .int 1])), (h7, .inl (cy 1, 624, .inl (upd (fun _ => 0) 0 (-1000)))), (h8, .inl (cy 1, 24, .inl (upd (fun _ => 0) 0 v0))), (h9, .inr (6, [.ref h10, .int 1])), (h10, .inl (cy 1, 24, .inl (upd (fun _ => 0) 0 v1))), (h11, .inr (6, [.ref h12, .int 1])), (h12, .inl (cy 1, 24, .inl (upd (fun _ => 0) 0 v0)))] H _ := w
  refine lv_aload_n C.1 C.2.1 dX4_put_24 rfl (lv_at hl 1 rfl) ?_
  refine x_get (v := .ref h3) C w 2 8 2 (xin_X4 _) rfl rfl (by decide) (List.mem_cons_of_mem _ gw_41) rfl rfl dX4_put_25 ?_
  refine x_kv C w [5, 0, 1] [2, 3, 4, 6, 7, 8, 9, 10, 11, 12, 13, 14] rfl rfl (by decide) (by decide) (va_runV (As := []) (rest := []) (xfix C) (c42_X1_endStep l G cy sa sv h3 h13 h14 h4 h6 (xtr C) _) (cwV 0 (xhts C) (xgV (maxL := 0) (cc := ⟨#[]⟩) (ret := none) gw_190 gw_191 gw_192 gw_30 gc_X1_endStep) rfl rfl rfl (by decide +kernel) ⟨(Nat.le_of_ble_eq_true rfl), (Nat.le_of_ble_eq_true rfl)⟩) (xPV C w [5, 0, 1] rfl (by decide) (ci := 5) (q0 := 5) rfl rfl) rfl rfl hl.1 rfl (lv_room (Nat.le_of_ble_eq_true rfl)) dX4_put_28 ⟨(Nat.le_of_ble_eq_true rfl), (Nat.le_of_ble_eq_true rfl)⟩) (fun f337 H locs w => ?_)
  have w : xW G A s [(h0, .inr (8, [.ref h1, .ref h11, .ref h3, .ref h15, .ref h16, .int 0, .ref h17, .ref h18])), (h1, .inr (7, [.ref h2, .ref h9])), (h2, .inr (6, [.ref h8, .int 1])), (h4, .inr (6, [.ref h5, .int 1])), (h5, .inl (cy 1, 624, .inl (upd (fun _ => 0) 0 v0))), (h6, .inr (6, [.ref h7, .int 1])), (h7, .inl (cy 1, 624, .inl (upd (fun _ => 0) 0 (-1000)))), (h8, .inl (cy 1, 24, .inl (upd (fun _ => 0) 0 v0))), (h9, .inr (6, [.ref h10, .int 1])), (h10, .inl (cy 1, 24, .inl (upd (fun _ => 0) 0 v1))), (h11, .inr (6, [.ref h12, .int 1])), (h12, .inl (cy 1, 24, .inl (upd (fun _ => 0) 0 v0))), (h3, .inr (5, [.ref h4, .ref h6, .ref h13, .int 0])), (h13, .inr (6, [.ref h14, .int 1])), (h14, .inl (cy 1, 12, .inl (upd (fun _ => 0) 0 1)))] H _ := w
  refine lv_iload_n C.1 C.2.1 dX4_put_31 rfl (lv_at hl 0 rfl) ?_
  have w := w.sub (ws' := [(h0, .inr (8, [.ref h1, .ref h11, .ref h3, .ref h15, .ref h16, .int 0, .ref h17, .ref h18])), (h1, .inr (7, [.ref h2, .ref h9])), (h2, .inr (6, [.ref h8, .int 1])), (h3, .inr (5, [.ref h4, .ref h6, .ref h13, .int 0])), (h4, .inr (6, [.ref h5, .int 1])), (h5, .inl (cy 1, 624, .inl (upd (fun _ => 0) 0 v0))), (h6, .inr (6, [.ref h7, .int 1])), (h7, .inl (cy 1, 624, .inl (upd (fun _ => 0) 0 (-1000)))), (h8, .inl (cy 1, 24, .inl (upd (fun _ => 0) 0 v0))), (h9, .inr (6, [.ref h10, .int 1])), (h10, .inl (cy 1, 24, .inl (upd (fun _ => 0) 0 v1))), (h11, .inr (6, [.ref h12, .int 1])), (h12, .inl (cy 1, 24, .inl (upd (fun _ => 0) 0 v0))), (h13, .inr (6, [.ref h14, .int 1])), (h14, .inl (cy 1, 12, .inl (upd (fun _ => 0) 0 1)))]) [0, 1, 2, 12, 3, 4, 5, 6, 7, 8, 9, 10, 11, 13, 14] (by decide) rfl rfl
  exact x_iret C w hr (fun _ => 0) rfl rfl dX4_put_32 (Nat.le_of_ble_eq_true rfl) (Nat.le_of_ble_eq_true rfl)
set_option maxHeartbeats 4000000 in
set_option maxRecDepth 100000 in
theorem c44_L_put (l : Launch) (G : va_G) (cy : Nat → ClassId) (sa : String → Nat → Nat) (sv : Nat → Nat) (h0 h1 h2 h3 h4 h5 h6 h7 h8 h9 h10 h11 h12 h13 h14 h15 h16 h17 h18 h19 : Nat) (v0 v1 : Int32) (p0 : ¬ v1 < (-999)) (p1 : v1 ≤ 999) (p2 : ¬ (-1000) = v1) : xM l G cy sa sv yL_put (Cond.codeWith yL_put cL_put 5 (some .int) [(0, 11, 14, 19), (0, 11, 18, 21)] :: XG) { frames := 14, cells := 0, slots := 0, locals := 384 } [.ref h0, .int v0, .int v1, .ref h1] [(h0, .inr (8, [.ref h2, .ref h12, .ref h4, .ref h16, .ref h17, .int 0, .ref h18, .ref h19])), (h2, .inr (7, [.ref h3, .ref h10])), (h3, .inr (6, [.ref h9, .int 0])), (h4, .inr (5, [.ref h5, .ref h7, .ref h14, .int 0])), (h5, .inr (6, [.ref h6, .int 0])), (h6, .inl (cy 1, 624, .inl (fun _ => 0))), (h7, .inr (6, [.ref h8, .int 0])), (h8, .inl (cy 1, 624, .inl (fun _ => 0))), (h9, .inl (cy 1, 24, .inl (fun _ => 0))), (h10, .inr (6, [.ref h11, .int 0])), (h11, .inl (cy 1, 24, .inl (fun _ => 0))), (h12, .inr (6, [.ref h13, .int 0])), (h13, .inl (cy 1, 24, .inl (fun _ => 0))), (h14, .inr (6, [.ref h15, .int 0])), (h15, .inl (cy 1, 12, .inl (fun _ => 0))), (h1, .inr (9, [.long 0, .null]))] (xQi G (fun f => [(h0, .inr (8, [.ref h2, .ref h12, .ref h4, .ref h16, .ref h17, .int 0, .ref h18, .ref h19])), (h2, .inr (7, [.ref h3, .ref h10])), (h3, .inr (6, [.ref h9, .int 1])), (h4, .inr (5, [.ref h5, .ref h7, .ref h14, .int 0])), (h5, .inr (6, [.ref h6, .int 1])), (h6, .inl (cy 1, 624, .inl (upd (fun _ => 0) 0 v0))), (h7, .inr (6, [.ref h8, .int 1])), (h8, .inl (cy 1, 624, .inl (upd (fun _ => 0) 0 (-1000)))), (h9, .inl (cy 1, 24, .inl (upd (fun _ => 0) 0 v0))), (h10, .inr (6, [.ref h11, .int 1])), (h11, .inl (cy 1, 24, .inl (upd (fun _ => 0) 0 v1))), (h12, .inr (6, [.ref h13, .int 1])), (h13, .inl (cy 1, 24, .inl (upd (fun _ => 0) 0 v0))), (h14, .inr (6, [.ref h15, .int 1])), (h15, .inl (cy 1, 12, .inl (upd (fun _ => 0) 0 1))), (h1, .inr (9, [.long (-1000), .null]))]) 0) := by
  refine xofH (by decide) (Nat.le_of_ble_eq_true rfl) (fun p e s m below meth c A C w hr hn hT ls hl => ?_)
  have hl : lv_has ls 5 [(0, .ref h0), (1, .int v0), (2, .int v1), (3, .ref h1)] := hl
  refine lv_aload_n C.1 C.2.1 dL_put_0 rfl (lv_at hl 3 rfl) ?_
  refine lv_aload_n C.1 C.2.1 dL_put_1 rfl (lv_at hl 0 rfl) ?_
  refine lv_iload_n C.1 C.2.1 dL_put_2 rfl (lv_at hl 1 rfl) ?_
  refine lv_iload_n C.1 C.2.1 dL_put_3 rfl (lv_at hl 2 rfl) ?_
  refine x_ki C w [0, 1, 2, 3, 4, 5, 6, 7, 8, 9, 10, 11, 12, 13, 14] [15] rfl rfl (by decide) (by decide) (va_runV (As := [.int v0, .int v1]) (rest := [.ref h1]) (xfix C) (c43_X4_put l G cy sa sv h0 h2 h3 h4 h5 h6 h7 h8 h9 h10 h11 h12 h13 h14 h15 h16 h17 h18 h19 v0 v1 p0 p1 p2 (xtr C) _) (cwV 2 (xhts C) (xgV (maxL := 0) (cc := ⟨#[]⟩) (ret := none) gw_101 gw_102 gw_103 gw_2 gc_X4_put) rfl rfl rfl (by decide +kernel) ⟨(Nat.le_of_ble_eq_true rfl), (Nat.le_of_ble_eq_true rfl)⟩) (xPV C w [0, 1, 2, 3, 4, 5, 6, 7, 8, 9, 10, 11, 12, 13, 14] rfl (by decide) (ci := 8) (q0 := 0) rfl rfl) rfl rfl hl.1 rfl (lv_room (Nat.le_of_ble_eq_true rfl)) dL_put_4 ⟨(Nat.le_of_ble_eq_true rfl), (Nat.le_of_ble_eq_true rfl)⟩) (fun f338 H locs w => ?_)
  have w : xW G A s [(h1, .inr (9, [.long 0, .null])), (h0, .inr (8, [.ref h2, .ref h12, .ref h4, .ref h16, .ref h17, .int 0, .ref h18, .ref h19])), (h2, .inr (7, [.ref h3, .ref h10])), (h3, .inr (6, [.ref h9, .int 1])), (h4, .inr (5, [.ref h5, .ref h7, .ref h14, .int 0])), (h5, .inr (6, [.ref h6, .int 1])), (h6, .inl (cy 1, 624, .inl (upd (fun _ => 0) 0 v0))), (h7, .inr (6, [.ref h8, .int 1])), (h8, .inl (cy 1, 624, .inl (upd (fun _ => 0) 0 (-1000)))), (h9, .inl (cy 1, 24, .inl (upd (fun _ => 0) 0 v0))), (h10, .inr (6, [.ref h11, .int 1])), (h11, .inl (cy 1, 24, .inl (upd (fun _ => 0) 0 v1))), (h12, .inr (6, [.ref h13, .int 1])), (h13, .inl (cy 1, 24, .inl (upd (fun _ => 0) 0 v0))), (h14, .inr (6, [.ref h15, .int 1])), (h15, .inl (cy 1, 12, .inl (upd (fun _ => 0) 0 1)))] H _ := w
  refine lv_i2l (v := (-1000)) C.1 C.2.1 dL_put_7 (by decide) ?_
  refine x_putN (ty := .long) (ty0 := tyX5) C w 0 9 0 (xin_X5 _) tyX5_ok nmX5 rfl rfl (by decide) (xs_f_n (xS C)) rfl rfl (by decide +kernel) rfl rfl (Nat.le_of_ble_eq_true rfl) dL_put_8 (fun H locs w => ?_)
  have w : xW G A s [(h1, .inr (9, [.long (-1000), .null])), (h0, .inr (8, [.ref h2, .ref h12, .ref h4, .ref h16, .ref h17, .int 0, .ref h18, .ref h19])), (h2, .inr (7, [.ref h3, .ref h10])), (h3, .inr (6, [.ref h9, .int 1])), (h4, .inr (5, [.ref h5, .ref h7, .ref h14, .int 0])), (h5, .inr (6, [.ref h6, .int 1])), (h6, .inl (cy 1, 624, .inl (upd (fun _ => 0) 0 v0))), (h7, .inr (6, [.ref h8, .int 1])), (h8, .inl (cy 1, 624, .inl (upd (fun _ => 0) 0 (-1000)))), (h9, .inl (cy 1, 24, .inl (upd (fun _ => 0) 0 v0))), (h10, .inr (6, [.ref h11, .int 1])), (h11, .inl (cy 1, 24, .inl (upd (fun _ => 0) 0 v1))), (h12, .inr (6, [.ref h13, .int 1])), (h13, .inl (cy 1, 24, .inl (upd (fun _ => 0) 0 v0))), (h14, .inr (6, [.ref h15, .int 1])), (h15, .inl (cy 1, 12, .inl (upd (fun _ => 0) 0 1)))] H _ := w
  refine lv_goto (tgt := 22) C.1 C.2.1 dL_put_11 (by decide) ?_
  refine lv_iconst (v := 0) C.1 C.2.1 dL_put_22 (by decide) ?_
  have w := w.sub (ws' := [(h0, .inr (8, [.ref h2, .ref h12, .ref h4, .ref h16, .ref h17, .int 0, .ref h18, .ref h19])), (h2, .inr (7, [.ref h3, .ref h10])), (h3, .inr (6, [.ref h9, .int 1])), (h4, .inr (5, [.ref h5, .ref h7, .ref h14, .int 0])), (h5, .inr (6, [.ref h6, .int 1])), (h6, .inl (cy 1, 624, .inl (upd (fun _ => 0) 0 v0))), (h7, .inr (6, [.ref h8, .int 1])), (h8, .inl (cy 1, 624, .inl (upd (fun _ => 0) 0 (-1000)))), (h9, .inl (cy 1, 24, .inl (upd (fun _ => 0) 0 v0))), (h10, .inr (6, [.ref h11, .int 1])), (h11, .inl (cy 1, 24, .inl (upd (fun _ => 0) 0 v1))), (h12, .inr (6, [.ref h13, .int 1])), (h13, .inl (cy 1, 24, .inl (upd (fun _ => 0) 0 v0))), (h14, .inr (6, [.ref h15, .int 1])), (h15, .inl (cy 1, 12, .inl (upd (fun _ => 0) 0 1))), (h1, .inr (9, [.long (-1000), .null]))]) [1, 2, 3, 4, 5, 6, 7, 8, 9, 10, 11, 12, 13, 14, 15, 0] (by decide) rfl rfl
  exact x_iret C w hr (fun _ => 0) rfl rfl dL_put_23 (Nat.le_of_ble_eq_true rfl) (Nat.le_of_ble_eq_true rfl)
set_option maxHeartbeats 4000000 in
set_option maxRecDepth 100000 in
theorem c45_X6_isNoValue (l : Launch) (G : va_G) (cy : Nat → ClassId) (sa : String → Nat → Nat) (sv : Nat → Nat) (v0 : Int32) (p0 : ¬ v0 < (-999)) (p1 : v0 ≤ 999) : xM l G cy sa sv yX6_isNoValue (Cond.code yX6_isNoValue cX6_isNoValue 1 (some .boolean) :: XG) { frames := 8, cells := 0, slots := 0, locals := 250 } [.int v0] [] (xQi G (fun f => []) 0) := by
  refine xof (by decide) (Nat.le_of_ble_eq_true rfl) (fun p e s m below meth c A C w hr hn ls hl => ?_)
  have hl : lv_has ls 1 [(0, .int v0)] := hl
  refine lv_iload_n C.1 C.2.1 dX6_isNoValue_0 rfl (lv_at hl 0 rfl) ?_
  refine lv_sipush (v := (-999)) C.1 C.2.1 dX6_isNoValue_1 (by decide) ?_
  refine lv_icmp_lt (tgt := 14) C.1 C.2.1 dX6_isNoValue_4 (by decide) (fun c9 => absurd c9 p0) (fun _ => ?_)
  refine lv_iload_n C.1 C.2.1 dX6_isNoValue_7 rfl (lv_at hl 0 rfl) ?_
  refine lv_sipush (v := 999) C.1 C.2.1 dX6_isNoValue_8 (by decide) ?_
  refine lv_icmp_le (tgt := 18) C.1 C.2.1 dX6_isNoValue_11 (by decide) (fun _ => ?_) (fun c9 => absurd p1 c9)
  refine lv_iconst (v := 0) C.1 C.2.1 dX6_isNoValue_18 (by decide) ?_
  exact x_zret C w hr rfl (fun _ => 0) rfl rfl dX6_isNoValue_19 (Nat.le_of_ble_eq_true rfl) (Nat.le_of_ble_eq_true rfl)
set_option maxHeartbeats 4000000 in
set_option maxRecDepth 100000 in
theorem c46_X6_start (l : Launch) (G : va_G) (cy : Nat → ClassId) (sa : String → Nat → Nat) (sv : Nat → Nat) (h0 h1 h2 h3 h4 h5 h6 h7 : Nat) : xM l G cy sa sv yX6_start (Cond.code yX6_start cX6_start 3 (some .boolean) :: XG) { frames := 8, cells := 0, slots := 0, locals := 250 } [.ref h0, .int 0, .int 1] [(h0, .inr (10, [.ref h1, .ref h2, .ref h3, .ref h4, .ref h5, .ref h6, .ref h7, .int 0, .int 0]))] (xQi G (fun f => [(h0, .inr (10, [.ref h1, .ref h2, .ref h3, .ref h4, .ref h5, .ref h6, .ref h7, .int 0, .int 0]))]) 0) := by
  refine xof (by decide) (Nat.le_of_ble_eq_true rfl) (fun p e s m below meth c A C w hr hn ls hl => ?_)
  have hl : lv_has ls 3 [(0, .ref h0), (1, .int 0), (2, .int 1)] := hl
  refine lv_aload_n C.1 C.2.1 dX6_start_0 rfl (lv_at hl 0 rfl) ?_
  refine lv_iload_n C.1 C.2.1 dX6_start_1 rfl (lv_at hl 1 rfl) ?_
  refine lv_if_eq (tgt := 9) C.1 C.2.1 dX6_start_2 (by decide) (fun _ => ?_) (fun c9 => absurd (by decide) c9)
  refine lv_iconst (v := 0) C.1 C.2.1 dX6_start_9 (by decide) ?_
  refine x_put (ty := .int) (ty0 := tyX6) C w 0 10 8 (xin_X6 _) tyX6_ok nmX6 rfl rfl (by decide) (List.mem_cons_of_mem _ gw_112) rfl rfl (by decide +kernel) rfl rfl (Nat.le_of_ble_eq_true rfl) dX6_start_10 (fun H locs w => ?_)
  have w : xW G A s [(h0, .inr (10, [.ref h1, .ref h2, .ref h3, .ref h4, .ref h5, .ref h6, .ref h7, .int 0, .int 0]))] H _ := w
  refine lv_iload_n C.1 C.2.1 dX6_start_13 rfl (lv_at hl 1 rfl) ?_
  exact x_zret C w hr rfl (fun _ => 0) rfl rfl dX6_start_14 (Nat.le_of_ble_eq_true rfl) (Nat.le_of_ble_eq_true rfl)
set_option maxHeartbeats 4000000 in
set_option maxRecDepth 100000 in
theorem c47_Jx4a65c_size_8abf5 (l : Launch) (G : va_G) (cy : Nat → ClassId) (sa : String → Nat → Nat) (sv : Nat → Nat) (h0 : Nat) : xM l G cy sa sv yJx4a65c_size_8abf5 (Cond.code yJx4a65c_size_8abf5 cJx4a65c_size_8abf5 1 (some .int) :: XG) { frames := 8, cells := 0, slots := 0, locals := 250 } [.ref h0] [(h0, .inr (3, [.int 0, .ref (sv 0), .int 0]))] (xQi G (fun f => [(h0, .inr (3, [.int 0, .ref (sv 0), .int 0]))]) 0) := by
  refine xof (by decide) (Nat.le_of_ble_eq_true rfl) (fun p e s m below meth c A C w hr hn ls hl => ?_)
  have hl : lv_has ls 1 [(0, .ref h0)] := hl
  refine lv_aload_n C.1 C.2.1 dJx4a65c_size_8abf5_0 rfl (lv_at hl 0 rfl) ?_
  refine x_get (v := .int 0) C w 0 3 2 (xin_Jx4a65c _) rfl rfl (by decide) (List.mem_cons_of_mem _ gw_193) rfl rfl dJx4a65c_size_8abf5_1 ?_
  exact x_iret C w hr (fun _ => 0) rfl rfl dJx4a65c_size_8abf5_4 (Nat.le_of_ble_eq_true rfl) (Nat.le_of_ble_eq_true rfl)
set_option maxHeartbeats 4000000 in
set_option maxRecDepth 100000 in
theorem c48_X6_isFull (l : Launch) (G : va_G) (cy : Nat → ClassId) (sa : String → Nat → Nat) (sv : Nat → Nat) (h0 h1 h2 h3 h4 h5 h6 h7 : Nat) (v0 : Int32) : xM l G cy sa sv yX6_isFull (Cond.code yX6_isFull cX6_isFull 2 (some .boolean) :: XG) { frames := 9, cells := 0, slots := 0, locals := 270 } [.ref h0, .int v0] [(h0, .inr (10, [.ref h1, .ref h2, .ref h3, .ref h4, .ref h5, .ref h6, .ref h7, .int 0, .int 0])), (h1, .inr (3, [.int 0, .ref (sv 0), .int 0]))] (xQi G (fun f => [(h0, .inr (10, [.ref h1, .ref h2, .ref h3, .ref h4, .ref h5, .ref h6, .ref h7, .int 0, .int 0])), (h1, .inr (3, [.int 0, .ref (sv 0), .int 0]))]) 0) := by
  refine xof (by decide) (Nat.le_of_ble_eq_true rfl) (fun p e s m below meth c A C w hr hn ls hl => ?_)
  have hl : lv_has ls 2 [(0, .ref h0), (1, .int v0)] := hl
  refine lv_aload_n C.1 C.2.1 dX6_isFull_0 rfl (lv_at hl 0 rfl) ?_
  refine x_get (v := .ref h1) C w 0 10 0 (xin_X6 _) rfl rfl (by decide) (List.mem_cons_of_mem _ gw_78) rfl rfl dX6_isFull_1 ?_
  refine x_ki C w [1] [0] rfl rfl (by decide) (by decide) (va_runV (As := []) (rest := []) (xfix C) (c47_Jx4a65c_size_8abf5 l G cy sa sv h1 (xtr C) _) (cwV 0 (xhts C) (xgV (maxL := 0) (cc := ⟨#[]⟩) (ret := none) gw_195 gw_196 gw_197 gw_62 gc_Jx4a65c_size_8abf5) rfl rfl rfl (by decide +kernel) ⟨(Nat.le_of_ble_eq_true rfl), (Nat.le_of_ble_eq_true rfl)⟩) (xPV C w [1] rfl (by decide) (ci := 3) (q0 := 1) rfl rfl) rfl rfl hl.1 rfl (lv_room (Nat.le_of_ble_eq_true rfl)) dX6_isFull_4 ⟨(Nat.le_of_ble_eq_true rfl), (Nat.le_of_ble_eq_true rfl)⟩) (fun f354 H locs w => ?_)
  have w : xW G A s [(h0, .inr (10, [.ref h1, .ref h2, .ref h3, .ref h4, .ref h5, .ref h6, .ref h7, .int 0, .int 0])), (h1, .inr (3, [.int 0, .ref (sv 0), .int 0]))] H _ := w
  refine lv_bipush (v := 24) C.1 C.2.1 dX6_isFull_7 (by decide) ?_
  refine lv_icmp_ne (tgt := 27) C.1 C.2.1 dX6_isFull_9 (by decide) (fun _ => ?_) (fun c9 => absurd c9 (by decide))
  refine lv_iconst (v := 0) C.1 C.2.1 dX6_isFull_27 (by decide) ?_
  exact x_zret C w hr rfl (fun _ => 0) rfl rfl dX6_isFull_28 (Nat.le_of_ble_eq_true rfl) (Nat.le_of_ble_eq_true rfl)
set_option maxHeartbeats 4000000 in
set_option maxRecDepth 100000 in
theorem c49_X6_fails (l : Launch) (G : va_G) (cy : Nat → ClassId) (sa : String → Nat → Nat) (sv : Nat → Nat) (h0 : Nat) : xM l G cy sa sv yX6_fails (Cond.code yX6_fails cX6_fails 3 (some .boolean) :: XG) { frames := 8, cells := 0, slots := 0, locals := 250 } [.ref h0, .int 0, .int 2] [] (xQi G (fun f => []) 0) := by
  refine xof (by decide) (Nat.le_of_ble_eq_true rfl) (fun p e s m below meth c A C w hr hn ls hl => ?_)
  have hl : lv_has ls 3 [(0, .ref h0), (1, .int 0), (2, .int 2)] := hl
  refine lv_iload_n C.1 C.2.1 dX6_fails_0 rfl (lv_at hl 1 rfl) ?_
  refine lv_if_eq (tgt := 9) C.1 C.2.1 dX6_fails_1 (by decide) (fun _ => ?_) (fun c9 => absurd (by decide) c9)
  refine lv_iload_n C.1 C.2.1 dX6_fails_9 rfl (lv_at hl 1 rfl) ?_
  exact x_zret C w hr rfl (fun _ => 0) rfl rfl dX6_fails_10 (Nat.le_of_ble_eq_true rfl) (Nat.le_of_ble_eq_true rfl)
set_option maxHeartbeats 4000000 in
set_option maxRecDepth 100000 in
theorem c50_X6_at (l : Launch) (G : va_G) (cy : Nat → ClassId) (sa : String → Nat → Nat) (sv : Nat → Nat) (h0 : Nat) (v0 : Int32) : xM l G cy sa sv yX6_at (Cond.code yX6_at cX6_at 3 (some .int) :: XG) { frames := 9, cells := 0, slots := 0, locals := 270 } [.ref h0, .int v0] [(h0, .inr (3, [.int 0, .ref (sv 0), .int 0]))] (xQi G (fun f => [(h0, .inr (3, [.int 0, .ref (sv 0), .int 0]))]) (-1)) := by
  refine xof (by decide) (Nat.le_of_ble_eq_true rfl) (fun p e s m below meth c A C w hr hn ls hl => ?_)
  have hl : lv_has ls 3 [(0, .ref h0), (1, .int v0)] := hl
  refine lv_iconst (v := 0) C.1 C.2.1 dX6_at_0 (by decide) ?_
  refine lv_istore_n (lv' := [(2, .int 0), (0, .ref h0), (1, .int v0)]) C.1 C.2.1 dX6_at_1 rfl hl (by decide) rfl (fun ls hl => ?_)
  refine lv_iload_n C.1 C.2.1 dX6_at_2 rfl (lv_at hl 0 rfl) ?_
  refine lv_aload_n C.1 C.2.1 dX6_at_3 rfl (lv_at hl 1 rfl) ?_
  refine x_ki C w [0] [] rfl rfl (by decide) (by decide) (va_runV (As := []) (rest := [.int 0]) (xfix C) (c47_Jx4a65c_size_8abf5 l G cy sa sv h0 (xtr C) _) (cwV 0 (xhts C) (xgV (maxL := 0) (cc := ⟨#[]⟩) (ret := none) gw_195 gw_196 gw_197 gw_62 gc_Jx4a65c_size_8abf5) rfl rfl rfl (by decide +kernel) ⟨(Nat.le_of_ble_eq_true rfl), (Nat.le_of_ble_eq_true rfl)⟩) (xPV C w [0] rfl (by decide) (ci := 3) (q0 := 0) rfl rfl) rfl rfl hl.1 rfl (lv_room (Nat.le_of_ble_eq_true rfl)) dX6_at_4 ⟨(Nat.le_of_ble_eq_true rfl), (Nat.le_of_ble_eq_true rfl)⟩) (fun f369 H locs w => ?_)
  have w : xW G A s [(h0, .inr (3, [.int 0, .ref (sv 0), .int 0]))] H _ := w
  refine lv_icmp_ge (tgt := 32) C.1 C.2.1 dX6_at_7 (by decide) (fun _ => ?_) (fun c9 => absurd (by decide) c9)
  refine lv_iconst (v := (-1)) C.1 C.2.1 dX6_at_32 (by decide) ?_
  exact x_iret C w hr (fun _ => 0) rfl rfl dX6_at_33 (Nat.le_of_ble_eq_true rfl) (Nat.le_of_ble_eq_true rfl)
set_option maxHeartbeats 4000000 in
set_option maxRecDepth 100000 in
theorem c51_X6_valueIn (l : Launch) (G : va_G) (cy : Nat → ClassId) (sa : String → Nat → Nat) (sv : Nat → Nat) (h0 : Nat) (v0 : Int32) : xM l G cy sa sv yX6_valueIn (Cond.code yX6_valueIn cX6_valueIn 2 (some .int) :: XG) { frames := 10, cells := 0, slots := 0, locals := 292 } [.ref h0, .int v0] [(h0, .inr (3, [.int 0, .ref (sv 0), .int 0]))] (xQi G (fun f => [(h0, .inr (3, [.int 0, .ref (sv 0), .int 0]))]) (-1000)) := by
  refine xof (by decide) (Nat.le_of_ble_eq_true rfl) (fun p e s m below meth c A C w hr hn ls hl => ?_)
  have hl : lv_has ls 2 [(0, .ref h0), (1, .int v0)] := hl
  refine lv_aload_n C.1 C.2.1 dX6_valueIn_0 rfl (lv_at hl 0 rfl) ?_
  refine lv_iload_n C.1 C.2.1 dX6_valueIn_1 rfl (lv_at hl 1 rfl) ?_
  refine x_ki C w [0] [] rfl rfl (by decide) (by decide) (va_runS (As := [.ref h0, .int v0]) (rest := []) (xfix C) (c50_X6_at l G cy sa sv h0 v0 (xtr C) _) (va_cwS 2 (xhts C) (xgS gw_207 gw_208 gw_58 gc_X6_at) rfl rfl rfl (by decide +kernel) ⟨(Nat.le_of_ble_eq_true rfl), (Nat.le_of_ble_eq_true rfl)⟩) (xPS C w [0] rfl (by decide)) rfl rfl hl.1 rfl (lv_room (Nat.le_of_ble_eq_true rfl)) dX6_valueIn_2 ⟨(Nat.le_of_ble_eq_true rfl), (Nat.le_of_ble_eq_true rfl)⟩) (fun f370 H locs w => ?_)
  have w : xW G A s [(h0, .inr (3, [.int 0, .ref (sv 0), .int 0]))] H _ := w
  refine lv_if_ge (tgt := 14) C.1 C.2.1 dX6_valueIn_5 (by decide) (fun c9 => absurd c9 (by decide)) (fun _ => ?_)
  refine lv_sipush (v := (-1000)) C.1 C.2.1 dX6_valueIn_8 (by decide) ?_
  refine lv_goto (tgt := 28) C.1 C.2.1 dX6_valueIn_11 (by decide) ?_
  exact x_iret C w hr (fun _ => 0) rfl rfl dX6_valueIn_28 (Nat.le_of_ble_eq_true rfl) (Nat.le_of_ble_eq_true rfl)
set_option maxHeartbeats 4000000 in
set_option maxRecDepth 100000 in
theorem c52_Jx4a65c_grow_92f84 (l : Launch) (G : va_G) (cy : Nat → ClassId) (sa : String → Nat → Nat) (sv : Nat → Nat) (h0 : Nat) : xM l G cy sa sv yJx4a65c_grow_92f84 (Cond.code yJx4a65c_grow_92f84 cJx4a65c_grow_92f84 4 (some (.array (.object "java/lang/Object"))) :: XG) { frames := 8, cells := 1, slots := 10, locals := 250 } [.ref h0, .int 1] [(h0, .inr (3, [.int 1, .ref (sv 0), .int 0]))] (xQr G (fun f => [(h0, .inr (3, [.int 1, .ref (f 0), .int 0])), ((f 0), .inl (cy 4, 10, .inr (.inr (.inr (.inr (fun _ => none))))))]) (fun f => (f 0))) := by
  refine xof (by decide) (Nat.le_of_ble_eq_true rfl) (fun p e s m below meth c A C w hr hn ls hl => ?_)
  have hl : lv_has ls 4 [(0, .ref h0), (1, .int 1)] := hl
  refine lv_aload_n C.1 C.2.1 dJx4a65c_grow_92f84_0 rfl (lv_at hl 0 rfl) ?_
  refine x_get (v := .ref (sv 0)) C w 0 3 1 (xin_Jx4a65c _) rfl rfl (by decide) (List.mem_cons_of_mem _ gw_74) rfl rfl dJx4a65c_grow_92f84_1 ?_
  refine x_tlen (v := 0) C w (xs_dt (xS C)) (by decide) dJx4a65c_grow_92f84_4 ?_
  refine lv_istore_n (lv' := [(2, .int 0), (0, .ref h0), (1, .int 1)]) C.1 C.2.1 dJx4a65c_grow_92f84_5 rfl hl (by decide) rfl (fun ls hl => ?_)
  refine lv_iload_n C.1 C.2.1 dJx4a65c_grow_92f84_6 rfl (lv_at hl 0 rfl) ?_
  refine lv_if_gt (tgt := 20) C.1 C.2.1 dJx4a65c_grow_92f84_7 (by decide) (fun c9 => absurd c9 (by decide)) (fun _ => ?_)
  refine lv_aload_n C.1 C.2.1 dJx4a65c_grow_92f84_10 rfl (lv_at hl 1 rfl) ?_
  refine x_get (v := .ref (sv 0)) C w 0 3 1 (xin_Jx4a65c _) rfl rfl (by decide) (List.mem_cons_of_mem _ gw_74) rfl rfl dJx4a65c_grow_92f84_11 ?_
  refine x_gets C w (xs_dz (xS C)) (List.mem_cons_of_mem _ gw_73) rfl dJx4a65c_grow_92f84_14 ?_
  refine x_acmpeqT C dJx4a65c_grow_92f84_17 (tgt := 45) (by decide) ?_
  refine lv_aload_n C.1 C.2.1 dJx4a65c_grow_92f84_45 rfl (lv_at hl 1 rfl) ?_
  refine lv_bipush (v := 10) C.1 C.2.1 dJx4a65c_grow_92f84_46 (by decide) ?_
  refine lv_iload_n C.1 C.2.1 dJx4a65c_grow_92f84_48 rfl (lv_at hl 2 rfl) ?_
  refine va_mmax C.1 C.2.1 (C.2.2.1.trans hl.1.symm) (xown C) (xhts C _ (List.mem_cons_of_mem _ gw_215)) (xhts C _ (List.mem_cons_of_mem _ gw_216)) (xhts C _ (List.mem_cons_of_mem _ gw_217)) (xhts C _ (List.mem_cons_of_mem _ gm_max)) (Nat.le_of_ble_eq_true rfl) (Nat.le_of_ble_eq_true rfl) (Nat.le_of_ble_eq_true rfl) (Nat.le_of_ble_eq_true rfl) dJx4a65c_grow_92f84_49 ?_
  refine x_is (y := 10) (if_neg (by decide)) ?_
  refine x_newq (N := 10) C w 4 rfl (List.mem_cons_of_mem _ gw_218) (xs_aoO (xS C)) (by decide) (by decide) (by decide) (Nat.le_of_ble_eq_true rfl) (Nat.le_of_ble_eq_true rfl) dJx4a65c_grow_92f84_52 (fun q392 H w => ?_)
  have w : xW G A s [(h0, .inr (3, [.int 1, .ref (sv 0), .int 0])), (q392, .inl (cy 4, 10, .inr (.inr (.inr (.inr (fun _ => none))))))] H _ := w
  refine W.widen (k := 1) (n := 10) (Nat.le_of_ble_eq_true rfl) (Nat.le_of_ble_eq_true rfl) ?_
  refine lv_dup_x1 C.1 C.2.1 dJx4a65c_grow_92f84_55 rfl rfl ?_
  refine x_put (ty := (.array (.object "java/lang/Object"))) (ty0 := tyJx4a65c) C w 0 3 1 (xin_Jx4a65c _) tyJx4a65c_ok nmJx4a65c rfl rfl (by decide) (List.mem_cons_of_mem _ gw_74) rfl rfl (by decide +kernel) rfl rfl (Nat.le_of_ble_eq_true rfl) dJx4a65c_grow_92f84_56 (fun H locs w => ?_)
  have w : xW G A s [(h0, .inr (3, [.int 1, .ref q392, .int 0])), (q392, .inl (cy 4, 10, .inr (.inr (.inr (.inr (fun _ => none))))))] H _ := w
  exact x_aret C w hr (Or.inr ⟨_, rfl⟩) (fun k => match k with | 0 => q392 | _ => 0) rfl rfl dJx4a65c_grow_92f84_59 (Nat.le_of_ble_eq_true rfl) (Nat.le_of_ble_eq_true rfl)
set_option maxHeartbeats 4000000 in
set_option maxRecDepth 100000 in
theorem c53_Jx4a65c_grow_d5877 (l : Launch) (G : va_G) (cy : Nat → ClassId) (sa : String → Nat → Nat) (sv : Nat → Nat) (h0 : Nat) : xM l G cy sa sv yJx4a65c_grow_d5877 (Cond.code yJx4a65c_grow_d5877 cJx4a65c_grow_d5877 1 (some (.array (.object "java/lang/Object"))) :: XG) { frames := 9, cells := 1, slots := 10, locals := 273 } [.ref h0] [(h0, .inr (3, [.int 1, .ref (sv 0), .int 0]))] (xQr G (fun f => [(h0, .inr (3, [.int 1, .ref (f 0), .int 0])), ((f 0), .inl (cy 4, 10, .inr (.inr (.inr (.inr (fun _ => none))))))]) (fun f => (f 0))) := by
  refine xof (by decide) (Nat.le_of_ble_eq_true rfl) (fun p e s m below meth c A C w hr hn ls hl => ?_)
  have hl : lv_has ls 1 [(0, .ref h0)] := hl
  refine lv_aload_n C.1 C.2.1 dJx4a65c_grow_d5877_0 rfl (lv_at hl 0 rfl) ?_
  refine lv_aload_n C.1 C.2.1 dJx4a65c_grow_d5877_1 rfl (lv_at hl 0 rfl) ?_
  refine x_get (v := .int 0) C w 0 3 2 (xin_Jx4a65c _) rfl rfl (by decide) (List.mem_cons_of_mem _ gw_193) rfl rfl dJx4a65c_grow_d5877_2 ?_
  refine lv_iconst (v := 1) C.1 C.2.1 dJx4a65c_grow_d5877_5 (by decide) ?_
  refine lv_iadd C.1 C.2.1 dJx4a65c_grow_d5877_6 ?_
  refine x_is (y := 1) (by decide) ?_
  refine x_kr C w [0] [] rfl rfl (by decide) (by decide) (va_runV (As := [.int 1]) (rest := []) (xfix C) (c52_Jx4a65c_grow_92f84 l G cy sa sv h0 (xtr C) _) (cwV 1 (xhts C) (xgV (maxL := 0) (cc := ⟨#[]⟩) (ret := none) gw_220 gw_221 gw_222 gw_62 gc_Jx4a65c_grow_92f84) rfl rfl rfl (by decide +kernel) ⟨(Nat.le_of_ble_eq_true rfl), (Nat.le_of_ble_eq_true rfl)⟩) (xPV C w [0] rfl (by decide) (ci := 3) (q0 := 0) rfl rfl) rfl rfl hl.1 rfl (lv_room (Nat.le_of_ble_eq_true rfl)) dJx4a65c_grow_d5877_7 ⟨(Nat.le_of_ble_eq_true rfl), (Nat.le_of_ble_eq_true rfl)⟩) (fun f394 H locs w => ?_)
  have w : xW G A s [(h0, .inr (3, [.int 1, .ref (f394 0), .int 0])), ((f394 0), .inl (cy 4, 10, .inr (.inr (.inr (.inr (fun _ => none))))))] H _ := w
  refine W.widen (k := 1) (n := 10) (Nat.le_of_ble_eq_true rfl) (Nat.le_of_ble_eq_true rfl) ?_
  exact x_aret C w hr (Or.inr ⟨_, rfl⟩) (fun k => match k with | 0 => (f394 0) | _ => 0) rfl rfl dJx4a65c_grow_d5877_10 (Nat.le_of_ble_eq_true rfl) (Nat.le_of_ble_eq_true rfl)
set_option maxHeartbeats 4000000 in
set_option maxRecDepth 100000 in
theorem c54_Jx4a65c_add_72be8 (l : Launch) (G : va_G) (cy : Nat → ClassId) (sa : String → Nat → Nat) (sv : Nat → Nat) (h0 h1 : Nat) (v0 : Int32) : xM l G cy sa sv yJx4a65c_add_72be8 (Cond.code yJx4a65c_add_72be8 cJx4a65c_add_72be8 4 none :: XG) { frames := 10, cells := 1, slots := 10, locals := 293 } [.ref h0, .ref h1, .ref (sv 0), .int 0] [(h0, .inr (3, [.int 1, .ref (sv 0), .int 0])), (h1, .inl (cy 1, 2, .inl (upd (upd (fun _ => 0) 0 v0) 1 (-1000))))] (xQv G (fun f => [(h0, .inr (3, [.int 1, .ref (f 0), .int 1])), (h1, .inl (cy 1, 2, .inl (upd (upd (fun _ => 0) 0 v0) 1 (-1000)))), ((f 0), .inl (cy 4, 10, .inr (.inr (.inr (.inr (va_up (fun _ => none) 0 (some h1)))))))])) := by
  refine xof (by decide) (Nat.le_of_ble_eq_true rfl) (fun p e s m below meth c A C w hr hn ls hl => ?_)
  have hl : lv_has ls 4 [(0, .ref h0), (1, .ref h1), (2, .ref (sv 0)), (3, .int 0)] := hl
  refine lv_iload_n C.1 C.2.1 dJx4a65c_add_72be8_0 rfl (lv_at hl 3 rfl) ?_
  refine lv_aload_n C.1 C.2.1 dJx4a65c_add_72be8_1 rfl (lv_at hl 2 rfl) ?_
  refine x_tlen (v := 0) C w (xs_dt (xS C)) (by decide) dJx4a65c_add_72be8_2 ?_
  refine lv_icmp_ne (tgt := 11) C.1 C.2.1 dJx4a65c_add_72be8_3 (by decide) (fun c9 => absurd (by decide) c9) (fun _ => ?_)
  refine lv_aload_n C.1 C.2.1 dJx4a65c_add_72be8_6 rfl (lv_at hl 0 rfl) ?_
  refine x_kr C w [0] [1] rfl rfl (by decide) (by decide) (va_runV (As := []) (rest := []) (xfix C) (c53_Jx4a65c_grow_d5877 l G cy sa sv h0 (xtr C) _) (cwV 0 (xhts C) (xgV (maxL := 0) (cc := ⟨#[]⟩) (ret := none) gw_224 gw_225 gw_226 gw_62 gc_Jx4a65c_grow_d5877) rfl rfl rfl (by decide +kernel) ⟨(Nat.le_of_ble_eq_true rfl), (Nat.le_of_ble_eq_true rfl)⟩) (xPV C w [0] rfl (by decide) (ci := 3) (q0 := 0) rfl rfl) rfl rfl hl.1 rfl (lv_room (Nat.le_of_ble_eq_true rfl)) dJx4a65c_add_72be8_7 ⟨(Nat.le_of_ble_eq_true rfl), (Nat.le_of_ble_eq_true rfl)⟩) (fun f396 H locs w => ?_)
  have w : xW G A s [(h1, .inl (cy 1, 2, .inl (upd (upd (fun _ => 0) 0 v0) 1 (-1000)))), (h0, .inr (3, [.int 1, .ref (f396 0), .int 0])), ((f396 0), .inl (cy 4, 10, .inr (.inr (.inr (.inr (fun _ => none))))))] H _ := w
  refine W.widen (k := 1) (n := 10) (Nat.le_of_ble_eq_true rfl) (Nat.le_of_ble_eq_true rfl) ?_
  refine lv_astore_n (lv' := [(2, .ref (f396 0)), (0, .ref h0), (1, .ref h1), (3, .int 0)]) C.1 C.2.1 dJx4a65c_add_72be8_10 rfl hl (by decide) rfl (fun ls hl => ?_)
  refine lv_aload_n C.1 C.2.1 dJx4a65c_add_72be8_11 rfl (lv_at hl 0 rfl) ?_
  refine lv_iload_n C.1 C.2.1 dJx4a65c_add_72be8_12 rfl (lv_at hl 3 rfl) ?_
  refine lv_aload_n C.1 C.2.1 dJx4a65c_add_72be8_13 rfl (lv_at hl 2 rfl) ?_
  refine x_astqI (k := 0) C w 2 4 0 rfl rfl (xs_cI (xS C)) rfl (xvin (by decide)) (by decide) dJx4a65c_add_72be8_14 (fun H locs w => ?_)
  have w : xW G A s [(h1, .inl (cy 1, 2, .inl (upd (upd (fun _ => 0) 0 v0) 1 (-1000)))), (h0, .inr (3, [.int 1, .ref (f396 0), .int 0])), ((f396 0), .inl (cy 4, 10, .inr (.inr (.inr (.inr (va_up (fun _ => none) 0 (some h1)))))))] H _ := w
  refine lv_aload_n C.1 C.2.1 dJx4a65c_add_72be8_15 rfl (lv_at hl 1 rfl) ?_
  refine lv_iload_n C.1 C.2.1 dJx4a65c_add_72be8_16 rfl (lv_at hl 3 rfl) ?_
  refine lv_iconst (v := 1) C.1 C.2.1 dJx4a65c_add_72be8_17 (by decide) ?_
  refine lv_iadd C.1 C.2.1 dJx4a65c_add_72be8_18 ?_
  refine x_is (y := 1) (by decide) ?_
  refine x_put (ty := .int) (ty0 := tyJx4a65c) C w 1 3 2 (xin_Jx4a65c _) tyJx4a65c_ok nmJx4a65c rfl rfl (by decide) (List.mem_cons_of_mem _ gw_193) rfl rfl (by decide +kernel) rfl rfl (Nat.le_of_ble_eq_true rfl) dJx4a65c_add_72be8_19 (fun H locs w => ?_)
  have w : xW G A s [(h1, .inl (cy 1, 2, .inl (upd (upd (fun _ => 0) 0 v0) 1 (-1000)))), (h0, .inr (3, [.int 1, .ref (f396 0), .int 1])), ((f396 0), .inl (cy 4, 10, .inr (.inr (.inr (.inr (va_up (fun _ => none) 0 (some h1)))))))] H _ := w
  have w := w.sub (ws' := [(h0, .inr (3, [.int 1, .ref (f396 0), .int 1])), (h1, .inl (cy 1, 2, .inl (upd (upd (fun _ => 0) 0 v0) 1 (-1000)))), ((f396 0), .inl (cy 4, 10, .inr (.inr (.inr (.inr (va_up (fun _ => none) 0 (some h1)))))))]) [1, 0, 2] (by decide) rfl rfl
  exact x_vret C w hr (fun k => match k with | 0 => (f396 0) | _ => 0) rfl dJx4a65c_add_72be8_22 (Nat.le_of_ble_eq_true rfl) (Nat.le_of_ble_eq_true rfl)
set_option maxHeartbeats 4000000 in
set_option maxRecDepth 100000 in
theorem c55_Jx4a65c_add_9ea2d (l : Launch) (G : va_G) (cy : Nat → ClassId) (sa : String → Nat → Nat) (sv : Nat → Nat) (h0 h1 : Nat) (v0 : Int32) : xM l G cy sa sv yJx4a65c_add_9ea2d (Cond.code yJx4a65c_add_9ea2d cJx4a65c_add_9ea2d 2 (some .boolean) :: XG) { frames := 11, cells := 1, slots := 10, locals := 316 } [.ref h0, .ref h1] [(h0, .inr (3, [.int 0, .ref (sv 0), .int 0])), (h1, .inl (cy 1, 2, .inl (upd (upd (fun _ => 0) 0 v0) 1 (-1000))))] (xQi G (fun f => [(h0, .inr (3, [.int 1, .ref (f 0), .int 1])), (h1, .inl (cy 1, 2, .inl (upd (upd (fun _ => 0) 0 v0) 1 (-1000)))), ((f 0), .inl (cy 4, 10, .inr (.inr (.inr (.inr (va_up (fun _ => none) 0 (some h1)))))))]) 1) := by
  refine xof (by decide) (Nat.le_of_ble_eq_true rfl) (fun p e s m below meth c A C w hr hn ls hl => ?_)
  have hl : lv_has ls 2 [(0, .ref h0), (1, .ref h1)] := hl
  refine lv_aload_n C.1 C.2.1 dJx4a65c_add_9ea2d_0 rfl (lv_at hl 0 rfl) ?_
  refine lv_dup C.1 C.2.1 dJx4a65c_add_9ea2d_1 rfl ?_
  refine x_getS (v := .int 0) C w 0 3 0 (xin_Jx4a65c _) rfl rfl (by decide) (List.mem_cons_of_mem _ gw_213) (List.mem_cons_of_mem _ gw_212) rfl dJx4a65c_add_9ea2d_2 ?_
  refine lv_iconst (v := 1) C.1 C.2.1 dJx4a65c_add_9ea2d_5 (by decide) ?_
  refine lv_iadd C.1 C.2.1 dJx4a65c_add_9ea2d_6 ?_
  refine x_is (y := 1) (by decide) ?_
  refine x_putS (ty := .int) (ty0 := tyJx4a65c) C w 0 3 0 (xin_Jx4a65c _) tyJx4a65c_ok nmJx4a65c rfl rfl (by decide) (List.mem_cons_of_mem _ gw_213) (List.mem_cons_of_mem _ gw_212) rfl (by decide +kernel) rfl rfl (Nat.le_of_ble_eq_true rfl) dJx4a65c_add_9ea2d_7 (fun H locs w => ?_)
  have w : xW G A s [(h0, .inr (3, [.int 1, .ref (sv 0), .int 0])), (h1, .inl (cy 1, 2, .inl (upd (upd (fun _ => 0) 0 v0) 1 (-1000))))] H _ := w
  refine lv_aload_n C.1 C.2.1 dJx4a65c_add_9ea2d_10 rfl (lv_at hl 0 rfl) ?_
  refine lv_aload_n C.1 C.2.1 dJx4a65c_add_9ea2d_11 rfl (lv_at hl 1 rfl) ?_
  refine lv_aload_n C.1 C.2.1 dJx4a65c_add_9ea2d_12 rfl (lv_at hl 0 rfl) ?_
  refine x_get (v := .ref (sv 0)) C w 0 3 1 (xin_Jx4a65c _) rfl rfl (by decide) (List.mem_cons_of_mem _ gw_74) rfl rfl dJx4a65c_add_9ea2d_13 ?_
  refine lv_aload_n C.1 C.2.1 dJx4a65c_add_9ea2d_16 rfl (lv_at hl 0 rfl) ?_
  refine x_get (v := .int 0) C w 0 3 2 (xin_Jx4a65c _) rfl rfl (by decide) (List.mem_cons_of_mem _ gw_193) rfl rfl dJx4a65c_add_9ea2d_17 ?_
  refine x_kv C w [0, 1] [] rfl rfl (by decide) (by decide) (va_runV (As := [.ref h1, .ref (sv 0), .int 0]) (rest := []) (xfix C) (c54_Jx4a65c_add_72be8 l G cy sa sv h0 h1 v0 (xtr C) _) (cwV 3 (xhts C) (xgV (maxL := 0) (cc := ⟨#[]⟩) (ret := none) gw_228 gw_229 gw_230 gw_62 gc_Jx4a65c_add_72be8) rfl rfl rfl (by decide +kernel) ⟨(Nat.le_of_ble_eq_true rfl), (Nat.le_of_ble_eq_true rfl)⟩) (xPV C w [0, 1] rfl (by decide) (ci := 3) (q0 := 0) rfl rfl) rfl rfl hl.1 rfl (lv_room (Nat.le_of_ble_eq_true rfl)) dJx4a65c_add_9ea2d_20 ⟨(Nat.le_of_ble_eq_true rfl), (Nat.le_of_ble_eq_true rfl)⟩) (fun f398 H locs w => ?_)
  have w : xW G A s [(h0, .inr (3, [.int 1, .ref (f398 0), .int 1])), (h1, .inl (cy 1, 2, .inl (upd (upd (fun _ => 0) 0 v0) 1 (-1000)))), ((f398 0), .inl (cy 4, 10, .inr (.inr (.inr (.inr (va_up (fun _ => none) 0 (some h1)))))))] H _ := w
  refine W.widen (k := 1) (n := 10) (Nat.le_of_ble_eq_true rfl) (Nat.le_of_ble_eq_true rfl) ?_
  refine lv_iconst (v := 1) C.1 C.2.1 dJx4a65c_add_9ea2d_23 (by decide) ?_
  exact x_zret C w hr rfl (fun k => match k with | 0 => (f398 0) | _ => 0) rfl rfl dJx4a65c_add_9ea2d_24 (Nat.le_of_ble_eq_true rfl) (Nat.le_of_ble_eq_true rfl)
set_option maxHeartbeats 4000000 in
set_option maxRecDepth 100000 in
theorem c56_Jx4a65c_add_72be8 (l : Launch) (G : va_G) (cy : Nat → ClassId) (sa : String → Nat → Nat) (sv : Nat → Nat) (h0 h1 : Nat) (v0 v1 : Int32) : xM l G cy sa sv yJx4a65c_add_72be8 (Cond.code yJx4a65c_add_72be8 cJx4a65c_add_72be8 4 none :: XG) { frames := 10, cells := 1, slots := 10, locals := 293 } [.ref h0, .ref h1, .ref (sv 0), .int 0] [(h0, .inr (3, [.int 1, .ref (sv 0), .int 0])), (h1, .inl (cy 1, 2, .inl (upd (upd (fun _ => 0) 0 v0) 1 v1)))] (xQv G (fun f => [(h0, .inr (3, [.int 1, .ref (f 0), .int 1])), (h1, .inl (cy 1, 2, .inl (upd (upd (fun _ => 0) 0 v0) 1 v1))), ((f 0), .inl (cy 4, 10, .inr (.inr (.inr (.inr (va_up (fun _ => none) 0 (some h1)))))))])) := by
  refine xof (by decide) (Nat.le_of_ble_eq_true rfl) (fun p e s m below meth c A C w hr hn ls hl => ?_)
  have hl : lv_has ls 4 [(0, .ref h0), (1, .ref h1), (2, .ref (sv 0)), (3, .int 0)] := hl
  refine lv_iload_n C.1 C.2.1 dJx4a65c_add_72be8_0 rfl (lv_at hl 3 rfl) ?_
  refine lv_aload_n C.1 C.2.1 dJx4a65c_add_72be8_1 rfl (lv_at hl 2 rfl) ?_
  refine x_tlen (v := 0) C w (xs_dt (xS C)) (by decide) dJx4a65c_add_72be8_2 ?_
  refine lv_icmp_ne (tgt := 11) C.1 C.2.1 dJx4a65c_add_72be8_3 (by decide) (fun c9 => absurd (by decide) c9) (fun _ => ?_)
  refine lv_aload_n C.1 C.2.1 dJx4a65c_add_72be8_6 rfl (lv_at hl 0 rfl) ?_
  refine x_kr C w [0] [1] rfl rfl (by decide) (by decide) (va_runV (As := []) (rest := []) (xfix C) (c53_Jx4a65c_grow_d5877 l G cy sa sv h0 (xtr C) _) (cwV 0 (xhts C) (xgV (maxL := 0) (cc := ⟨#[]⟩) (ret := none) gw_224 gw_225 gw_226 gw_62 gc_Jx4a65c_grow_d5877) rfl rfl rfl (by decide +kernel) ⟨(Nat.le_of_ble_eq_true rfl), (Nat.le_of_ble_eq_true rfl)⟩) (xPV C w [0] rfl (by decide) (ci := 3) (q0 := 0) rfl rfl) rfl rfl hl.1 rfl (lv_room (Nat.le_of_ble_eq_true rfl)) dJx4a65c_add_72be8_7 ⟨(Nat.le_of_ble_eq_true rfl), (Nat.le_of_ble_eq_true rfl)⟩) (fun f420 H locs w => ?_)
  have w : xW G A s [(h1, .inl (cy 1, 2, .inl (upd (upd (fun _ => 0) 0 v0) 1 v1))), (h0, .inr (3, [.int 1, .ref (f420 0), .int 0])), ((f420 0), .inl (cy 4, 10, .inr (.inr (.inr (.inr (fun _ => none))))))] H _ := w
  refine W.widen (k := 1) (n := 10) (Nat.le_of_ble_eq_true rfl) (Nat.le_of_ble_eq_true rfl) ?_
  refine lv_astore_n (lv' := [(2, .ref (f420 0)), (0, .ref h0), (1, .ref h1), (3, .int 0)]) C.1 C.2.1 dJx4a65c_add_72be8_10 rfl hl (by decide) rfl (fun ls hl => ?_)
  refine lv_aload_n C.1 C.2.1 dJx4a65c_add_72be8_11 rfl (lv_at hl 0 rfl) ?_
  refine lv_iload_n C.1 C.2.1 dJx4a65c_add_72be8_12 rfl (lv_at hl 3 rfl) ?_
  refine lv_aload_n C.1 C.2.1 dJx4a65c_add_72be8_13 rfl (lv_at hl 2 rfl) ?_
  refine x_astqI (k := 0) C w 2 4 0 rfl rfl (xs_cI (xS C)) rfl (xvin (by decide)) (by decide) dJx4a65c_add_72be8_14 (fun H locs w => ?_)
  have w : xW G A s [(h1, .inl (cy 1, 2, .inl (upd (upd (fun _ => 0) 0 v0) 1 v1))), (h0, .inr (3, [.int 1, .ref (f420 0), .int 0])), ((f420 0), .inl (cy 4, 10, .inr (.inr (.inr (.inr (va_up (fun _ => none) 0 (some h1)))))))] H _ := w
  refine lv_aload_n C.1 C.2.1 dJx4a65c_add_72be8_15 rfl (lv_at hl 1 rfl) ?_
  refine lv_iload_n C.1 C.2.1 dJx4a65c_add_72be8_16 rfl (lv_at hl 3 rfl) ?_
  refine lv_iconst (v := 1) C.1 C.2.1 dJx4a65c_add_72be8_17 (by decide) ?_
  refine lv_iadd C.1 C.2.1 dJx4a65c_add_72be8_18 ?_
  refine x_is (y := 1) (by decide) ?_
  refine x_put (ty := .int) (ty0 := tyJx4a65c) C w 1 3 2 (xin_Jx4a65c _) tyJx4a65c_ok nmJx4a65c rfl rfl (by decide) (List.mem_cons_of_mem _ gw_193) rfl rfl (by decide +kernel) rfl rfl (Nat.le_of_ble_eq_true rfl) dJx4a65c_add_72be8_19 (fun H locs w => ?_)
  have w : xW G A s [(h1, .inl (cy 1, 2, .inl (upd (upd (fun _ => 0) 0 v0) 1 v1))), (h0, .inr (3, [.int 1, .ref (f420 0), .int 1])), ((f420 0), .inl (cy 4, 10, .inr (.inr (.inr (.inr (va_up (fun _ => none) 0 (some h1)))))))] H _ := w
  have w := w.sub (ws' := [(h0, .inr (3, [.int 1, .ref (f420 0), .int 1])), (h1, .inl (cy 1, 2, .inl (upd (upd (fun _ => 0) 0 v0) 1 v1))), ((f420 0), .inl (cy 4, 10, .inr (.inr (.inr (.inr (va_up (fun _ => none) 0 (some h1)))))))]) [1, 0, 2] (by decide) rfl rfl
  exact x_vret C w hr (fun k => match k with | 0 => (f420 0) | _ => 0) rfl dJx4a65c_add_72be8_22 (Nat.le_of_ble_eq_true rfl) (Nat.le_of_ble_eq_true rfl)
set_option maxHeartbeats 4000000 in
set_option maxRecDepth 100000 in
theorem c57_Jx4a65c_add_9ea2d (l : Launch) (G : va_G) (cy : Nat → ClassId) (sa : String → Nat → Nat) (sv : Nat → Nat) (h0 h1 : Nat) (v0 v1 : Int32) : xM l G cy sa sv yJx4a65c_add_9ea2d (Cond.code yJx4a65c_add_9ea2d cJx4a65c_add_9ea2d 2 (some .boolean) :: XG) { frames := 11, cells := 1, slots := 10, locals := 316 } [.ref h0, .ref h1] [(h0, .inr (3, [.int 0, .ref (sv 0), .int 0])), (h1, .inl (cy 1, 2, .inl (upd (upd (fun _ => 0) 0 v0) 1 v1)))] (xQi G (fun f => [(h0, .inr (3, [.int 1, .ref (f 0), .int 1])), (h1, .inl (cy 1, 2, .inl (upd (upd (fun _ => 0) 0 v0) 1 v1))), ((f 0), .inl (cy 4, 10, .inr (.inr (.inr (.inr (va_up (fun _ => none) 0 (some h1)))))))]) 1) := by
  refine xof (by decide) (Nat.le_of_ble_eq_true rfl) (fun p e s m below meth c A C w hr hn ls hl => ?_)
  have hl : lv_has ls 2 [(0, .ref h0), (1, .ref h1)] := hl
  refine lv_aload_n C.1 C.2.1 dJx4a65c_add_9ea2d_0 rfl (lv_at hl 0 rfl) ?_
  refine lv_dup C.1 C.2.1 dJx4a65c_add_9ea2d_1 rfl ?_
  refine x_getS (v := .int 0) C w 0 3 0 (xin_Jx4a65c _) rfl rfl (by decide) (List.mem_cons_of_mem _ gw_213) (List.mem_cons_of_mem _ gw_212) rfl dJx4a65c_add_9ea2d_2 ?_
  refine lv_iconst (v := 1) C.1 C.2.1 dJx4a65c_add_9ea2d_5 (by decide) ?_
  refine lv_iadd C.1 C.2.1 dJx4a65c_add_9ea2d_6 ?_
  refine x_is (y := 1) (by decide) ?_
  refine x_putS (ty := .int) (ty0 := tyJx4a65c) C w 0 3 0 (xin_Jx4a65c _) tyJx4a65c_ok nmJx4a65c rfl rfl (by decide) (List.mem_cons_of_mem _ gw_213) (List.mem_cons_of_mem _ gw_212) rfl (by decide +kernel) rfl rfl (Nat.le_of_ble_eq_true rfl) dJx4a65c_add_9ea2d_7 (fun H locs w => ?_)
  have w : xW G A s [(h0, .inr (3, [.int 1, .ref (sv 0), .int 0])), (h1, .inl (cy 1, 2, .inl (upd (upd (fun _ => 0) 0 v0) 1 v1)))] H _ := w
  refine lv_aload_n C.1 C.2.1 dJx4a65c_add_9ea2d_10 rfl (lv_at hl 0 rfl) ?_
  refine lv_aload_n C.1 C.2.1 dJx4a65c_add_9ea2d_11 rfl (lv_at hl 1 rfl) ?_
  refine lv_aload_n C.1 C.2.1 dJx4a65c_add_9ea2d_12 rfl (lv_at hl 0 rfl) ?_
  refine x_get (v := .ref (sv 0)) C w 0 3 1 (xin_Jx4a65c _) rfl rfl (by decide) (List.mem_cons_of_mem _ gw_74) rfl rfl dJx4a65c_add_9ea2d_13 ?_
  refine lv_aload_n C.1 C.2.1 dJx4a65c_add_9ea2d_16 rfl (lv_at hl 0 rfl) ?_
  refine x_get (v := .int 0) C w 0 3 2 (xin_Jx4a65c _) rfl rfl (by decide) (List.mem_cons_of_mem _ gw_193) rfl rfl dJx4a65c_add_9ea2d_17 ?_
  refine x_kv C w [0, 1] [] rfl rfl (by decide) (by decide) (va_runV (As := [.ref h1, .ref (sv 0), .int 0]) (rest := []) (xfix C) (c56_Jx4a65c_add_72be8 l G cy sa sv h0 h1 v0 v1 (xtr C) _) (cwV 3 (xhts C) (xgV (maxL := 0) (cc := ⟨#[]⟩) (ret := none) gw_228 gw_229 gw_230 gw_62 gc_Jx4a65c_add_72be8) rfl rfl rfl (by decide +kernel) ⟨(Nat.le_of_ble_eq_true rfl), (Nat.le_of_ble_eq_true rfl)⟩) (xPV C w [0, 1] rfl (by decide) (ci := 3) (q0 := 0) rfl rfl) rfl rfl hl.1 rfl (lv_room (Nat.le_of_ble_eq_true rfl)) dJx4a65c_add_9ea2d_20 ⟨(Nat.le_of_ble_eq_true rfl), (Nat.le_of_ble_eq_true rfl)⟩) (fun f422 H locs w => ?_)
  have w : xW G A s [(h0, .inr (3, [.int 1, .ref (f422 0), .int 1])), (h1, .inl (cy 1, 2, .inl (upd (upd (fun _ => 0) 0 v0) 1 v1))), ((f422 0), .inl (cy 4, 10, .inr (.inr (.inr (.inr (va_up (fun _ => none) 0 (some h1)))))))] H _ := w
  refine W.widen (k := 1) (n := 10) (Nat.le_of_ble_eq_true rfl) (Nat.le_of_ble_eq_true rfl) ?_
  refine lv_iconst (v := 1) C.1 C.2.1 dJx4a65c_add_9ea2d_23 (by decide) ?_
  exact x_zret C w hr rfl (fun k => match k with | 0 => (f422 0) | _ => 0) rfl rfl dJx4a65c_add_9ea2d_24 (Nat.le_of_ble_eq_true rfl) (Nat.le_of_ble_eq_true rfl)
set_option maxHeartbeats 4000000 in
set_option maxRecDepth 100000 in
theorem c58_X6_used (l : Launch) (G : va_G) (cy : Nat → ClassId) (sa : String → Nat → Nat) (sv : Nat → Nat) (h0 h1 h2 h3 h4 h5 h6 h7 : Nat) (v0 v1 : Int32) : xM l G cy sa sv yX6_used (Cond.code yX6_used cX6_used 4 none :: XG) { frames := 12, cells := 2, slots := 12, locals := 337 } [.ref h0, .int v0, .int v1] [(h0, .inr (10, [.ref h1, .ref h2, .ref h3, .ref h4, .ref h5, .ref h6, .ref h7, .int 0, .int 0])), (h1, .inr (3, [.int 0, .ref (sv 0), .int 0]))] (xQv G (fun f => [(h0, .inr (10, [.ref h1, .ref h2, .ref h3, .ref h4, .ref h5, .ref h6, .ref h7, .int 0, .int 0])), (h1, .inr (3, [.int 1, .ref (f 1), .int 1])), ((f 0), .inl (cy 1, 2, .inl (upd (upd (fun _ => 0) 0 v0) 1 v1))), ((f 1), .inl (cy 4, 10, .inr (.inr (.inr (.inr (va_up (fun _ => none) 0 (some (f 0))))))))])) := by
  refine xof (by decide) (Nat.le_of_ble_eq_true rfl) (fun p e s m below meth c A C w hr hn ls hl => ?_)
  have hl : lv_has ls 4 [(0, .ref h0), (1, .int v0), (2, .int v1)] := hl
  refine lv_aload_n C.1 C.2.1 dX6_used_0 rfl (lv_at hl 0 rfl) ?_
  refine x_get (v := .ref h1) C w 0 10 0 (xin_X6 _) rfl rfl (by decide) (List.mem_cons_of_mem _ gw_78) rfl rfl dX6_used_1 ?_
  refine lv_iload_n C.1 C.2.1 dX6_used_4 rfl (lv_at hl 1 rfl) ?_
  refine x_ki C w [1] [0] rfl rfl (by decide) (by decide) (va_runS (As := [.ref h1, .int v0]) (rest := []) (xfix C) (c50_X6_at l G cy sa sv h1 v0 (xtr C) _) (va_cwS 2 (xhts C) (xgS gw_207 gw_208 gw_58 gc_X6_at) rfl rfl rfl (by decide +kernel) ⟨(Nat.le_of_ble_eq_true rfl), (Nat.le_of_ble_eq_true rfl)⟩) (xPS C w [1] rfl (by decide)) rfl rfl hl.1 rfl (lv_room (Nat.le_of_ble_eq_true rfl)) dX6_used_5 ⟨(Nat.le_of_ble_eq_true rfl), (Nat.le_of_ble_eq_true rfl)⟩) (fun f406 H locs w => ?_)
  have w : xW G A s [(h0, .inr (10, [.ref h1, .ref h2, .ref h3, .ref h4, .ref h5, .ref h6, .ref h7, .int 0, .int 0])), (h1, .inr (3, [.int 0, .ref (sv 0), .int 0]))] H _ := w
  refine lv_istore_n (lv' := [(3, .int (-1)), (0, .ref h0), (1, .int v0), (2, .int v1)]) C.1 C.2.1 dX6_used_8 rfl hl (by decide) rfl (fun ls hl => ?_)
  refine lv_iload_n C.1 C.2.1 dX6_used_9 rfl (lv_at hl 0 rfl) ?_
  refine lv_if_lt (tgt := 22) C.1 C.2.1 dX6_used_10 (by decide) (fun _ => ?_) (fun c9 => absurd (by decide) c9)
  refine lv_aload_n C.1 C.2.1 dX6_used_22 rfl (lv_at hl 1 rfl) ?_
  refine x_get (v := .ref h1) C w 0 10 0 (xin_X6 _) rfl rfl (by decide) (List.mem_cons_of_mem _ gw_78) rfl rfl dX6_used_23 ?_
  refine lv_iconst (v := 2) C.1 C.2.1 dX6_used_26 (by decide) ?_
  refine x_newa (atype := .int) (ty := .int) (N := 2) C w 1 (fun _ _ h => h) rfl (List.mem_cons_of_mem _ gw_13) rfl rfl (by decide) (by decide) (by decide) (Nat.le_of_ble_eq_true rfl) (Nat.le_of_ble_eq_true rfl) dX6_used_27 (fun q407 H w => ?_)
  have w : xW G A s [(h0, .inr (10, [.ref h1, .ref h2, .ref h3, .ref h4, .ref h5, .ref h6, .ref h7, .int 0, .int 0])), (h1, .inr (3, [.int 0, .ref (sv 0), .int 0])), (q407, .inl (cy 1, 2, .inl (fun _ => 0)))] H _ := w
  refine W.widen (k := 1) (n := 2) (Nat.le_of_ble_eq_true rfl) (Nat.le_of_ble_eq_true rfl) ?_
  refine lv_dup C.1 C.2.1 dX6_used_29 rfl ?_
  refine lv_iconst (v := 0) C.1 C.2.1 dX6_used_30 (by decide) ?_
  refine lv_iload_n C.1 C.2.1 dX6_used_31 rfl (lv_at hl 2 rfl) ?_
  refine x_iast (k := 0) C w 2 1 rfl rfl (xvin (by decide)) (by decide) dX6_used_32 (fun H locs w => ?_)
  have w : xW G A s [(h0, .inr (10, [.ref h1, .ref h2, .ref h3, .ref h4, .ref h5, .ref h6, .ref h7, .int 0, .int 0])), (h1, .inr (3, [.int 0, .ref (sv 0), .int 0])), (q407, .inl (cy 1, 2, .inl (upd (fun _ => 0) 0 v0)))] H _ := w
  refine lv_dup C.1 C.2.1 dX6_used_33 rfl ?_
  refine lv_iconst (v := 1) C.1 C.2.1 dX6_used_34 (by decide) ?_
  refine lv_iload_n C.1 C.2.1 dX6_used_35 rfl (lv_at hl 3 rfl) ?_
  refine x_iast (k := 1) C w 2 1 rfl rfl (xvin (by decide)) (by decide) dX6_used_36 (fun H locs w => ?_)
  have w : xW G A s [(h0, .inr (10, [.ref h1, .ref h2, .ref h3, .ref h4, .ref h5, .ref h6, .ref h7, .int 0, .int 0])), (h1, .inr (3, [.int 0, .ref (sv 0), .int 0])), (q407, .inl (cy 1, 2, .inl (upd (upd (fun _ => 0) 0 v0) 1 v1)))] H _ := w
  refine x_ki C w [1, 2] [0] rfl rfl (by decide) (by decide) (va_runV (As := [.ref q407]) (rest := []) (xfix C) (c57_Jx4a65c_add_9ea2d l G cy sa sv h1 q407 v0 v1 (xtr C) _) (cwV 1 (xhts C) (xgV (maxL := 0) (cc := ⟨#[]⟩) (ret := none) gw_232 gw_233 gw_234 gw_62 gc_Jx4a65c_add_9ea2d) rfl rfl rfl (by decide +kernel) ⟨(Nat.le_of_ble_eq_true rfl), (Nat.le_of_ble_eq_true rfl)⟩) (xPV C w [1, 2] rfl (by decide) (ci := 3) (q0 := 1) rfl rfl) rfl rfl hl.1 rfl (lv_room (Nat.le_of_ble_eq_true rfl)) dX6_used_37 ⟨(Nat.le_of_ble_eq_true rfl), (Nat.le_of_ble_eq_true rfl)⟩) (fun f424 H locs w => ?_)
  have w : xW G A s [(h0, .inr (10, [.ref h1, .ref h2, .ref h3, .ref h4, .ref h5, .ref h6, .ref h7, .int 0, .int 0])), (h1, .inr (3, [.int 1, .ref (f424 0), .int 1])), (q407, .inl (cy 1, 2, .inl (upd (upd (fun _ => 0) 0 v0) 1 v1))), ((f424 0), .inl (cy 4, 10, .inr (.inr (.inr (.inr (va_up (fun _ => none) 0 (some q407)))))))] H _ := w
  refine W.widen (k := 2) (n := 12) (Nat.le_of_ble_eq_true rfl) (Nat.le_of_ble_eq_true rfl) ?_
  refine lv_pop C.1 C.2.1 dX6_used_40 rfl ?_
  exact x_vret C w hr (fun k => match k with | 0 => q407 | 1 => (f424 0) | _ => 0) rfl dX6_used_41 (Nat.le_of_ble_eq_true rfl) (Nat.le_of_ble_eq_true rfl)
set_option maxHeartbeats 4000000 in
set_option maxRecDepth 100000 in
theorem c59_X6_lay (l : Launch) (G : va_G) (cy : Nat → ClassId) (sa : String → Nat → Nat) (sv : Nat → Nat) (h0 h1 h2 h3 h4 h5 h6 h7 : Nat) (v0 v1 : Int32) (p0 : ¬ (-1000) = v1) : xM l G cy sa sv yX6_lay (Cond.code yX6_lay cX6_lay 4 none :: XG) { frames := 13, cells := 4, slots := 24, locals := 360 } [.ref h0, .int v0, .int v1] [(h0, .inr (10, [.ref h1, .ref h3, .ref h4, .ref h2, .ref h5, .ref h6, .ref h7, .int 0, .int 0])), (h1, .inr (3, [.int 0, .ref (sv 0), .int 0])), (h2, .inr (3, [.int 0, .ref (sv 0), .int 0]))] (xQv G (fun f => [(h0, .inr (10, [.ref h1, .ref h3, .ref h4, .ref h2, .ref h5, .ref h6, .ref h7, .int 0, .int 0])), (h1, .inr (3, [.int 1, .ref (f 3), .int 1])), (h2, .inr (3, [.int 1, .ref (f 1), .int 1])), ((f 0), .inl (cy 1, 2, .inl (upd (upd (fun _ => 0) 0 v0) 1 (-1000)))), ((f 1), .inl (cy 4, 10, .inr (.inr (.inr (.inr (va_up (fun _ => none) 0 (some (f 0)))))))), ((f 2), .inl (cy 1, 2, .inl (upd (upd (fun _ => 0) 0 v0) 1 v1))), ((f 3), .inl (cy 4, 10, .inr (.inr (.inr (.inr (va_up (fun _ => none) 0 (some (f 2))))))))])) := by
  refine xof (by decide) (Nat.le_of_ble_eq_true rfl) (fun p e s m below meth c A C w hr hn ls hl => ?_)
  have hl : lv_has ls 4 [(0, .ref h0), (1, .int v0), (2, .int v1)] := hl
  refine lv_aload_n C.1 C.2.1 dX6_lay_0 rfl (lv_at hl 0 rfl) ?_
  refine x_get (v := .ref h1) C w 0 10 0 (xin_X6 _) rfl rfl (by decide) (List.mem_cons_of_mem _ gw_78) rfl rfl dX6_lay_1 ?_
  refine lv_iload_n C.1 C.2.1 dX6_lay_4 rfl (lv_at hl 1 rfl) ?_
  refine x_ki C w [1] [0, 2] rfl rfl (by decide) (by decide) (va_runS (As := [.ref h1, .int v0]) (rest := []) (xfix C) (c51_X6_valueIn l G cy sa sv h1 v0 (xtr C) _) (va_cwS 2 (xhts C) (xgS gw_210 gw_211 gw_58 gc_X6_valueIn) rfl rfl rfl (by decide +kernel) ⟨(Nat.le_of_ble_eq_true rfl), (Nat.le_of_ble_eq_true rfl)⟩) (xPS C w [1] rfl (by decide)) rfl rfl hl.1 rfl (lv_room (Nat.le_of_ble_eq_true rfl)) dX6_lay_5 ⟨(Nat.le_of_ble_eq_true rfl), (Nat.le_of_ble_eq_true rfl)⟩) (fun f382 H locs w => ?_)
  have w : xW G A s [(h0, .inr (10, [.ref h1, .ref h3, .ref h4, .ref h2, .ref h5, .ref h6, .ref h7, .int 0, .int 0])), (h2, .inr (3, [.int 0, .ref (sv 0), .int 0])), (h1, .inr (3, [.int 0, .ref (sv 0), .int 0]))] H _ := w
  refine lv_istore_n (lv' := [(3, .int (-1000)), (0, .ref h0), (1, .int v0), (2, .int v1)]) C.1 C.2.1 dX6_lay_8 rfl hl (by decide) rfl (fun ls hl => ?_)
  refine lv_iload_n C.1 C.2.1 dX6_lay_9 rfl (lv_at hl 0 rfl) ?_
  refine lv_iload_n C.1 C.2.1 dX6_lay_10 rfl (lv_at hl 3 rfl) ?_
  refine lv_icmp_eq (tgt := 33) C.1 C.2.1 dX6_lay_11 (by decide) (fun c9 => absurd c9 p0) (fun _ => ?_)
  refine lv_aload_n C.1 C.2.1 dX6_lay_14 rfl (lv_at hl 1 rfl) ?_
  refine x_get (v := .ref h2) C w 0 10 3 (xin_X6 _) rfl rfl (by decide) (List.mem_cons_of_mem _ gw_81) rfl rfl dX6_lay_15 ?_
  refine lv_iconst (v := 2) C.1 C.2.1 dX6_lay_18 (by decide) ?_
  refine x_newa (atype := .int) (ty := .int) (N := 2) C w 1 (fun _ _ h => h) rfl (List.mem_cons_of_mem _ gw_13) rfl rfl (by decide) (by decide) (by decide) (Nat.le_of_ble_eq_true rfl) (Nat.le_of_ble_eq_true rfl) dX6_lay_19 (fun q383 H w => ?_)
  have w : xW G A s [(h0, .inr (10, [.ref h1, .ref h3, .ref h4, .ref h2, .ref h5, .ref h6, .ref h7, .int 0, .int 0])), (h2, .inr (3, [.int 0, .ref (sv 0), .int 0])), (h1, .inr (3, [.int 0, .ref (sv 0), .int 0])), (q383, .inl (cy 1, 2, .inl (fun _ => 0)))] H _ := w
  refine W.widen (k := 1) (n := 2) (Nat.le_of_ble_eq_true rfl) (Nat.le_of_ble_eq_true rfl) ?_
  refine lv_dup C.1 C.2.1 dX6_lay_21 rfl ?_
  refine lv_iconst (v := 0) C.1 C.2.1 dX6_lay_22 (by decide) ?_
  refine lv_iload_n C.1 C.2.1 dX6_lay_23 rfl (lv_at hl 2 rfl) ?_
  refine x_iast (k := 0) C w 3 1 rfl rfl (xvin (by decide)) (by decide) dX6_lay_24 (fun H locs w => ?_)
  have w : xW G A s [(h0, .inr (10, [.ref h1, .ref h3, .ref h4, .ref h2, .ref h5, .ref h6, .ref h7, .int 0, .int 0])), (h2, .inr (3, [.int 0, .ref (sv 0), .int 0])), (h1, .inr (3, [.int 0, .ref (sv 0), .int 0])), (q383, .inl (cy 1, 2, .inl (upd (fun _ => 0) 0 v0)))] H _ := w
  refine lv_dup C.1 C.2.1 dX6_lay_25 rfl ?_
  refine lv_iconst (v := 1) C.1 C.2.1 dX6_lay_26 (by decide) ?_
  refine lv_iload_n C.1 C.2.1 dX6_lay_27 rfl (lv_at hl 0 rfl) ?_
  refine x_iast (k := 1) C w 3 1 rfl rfl (xvin (by decide)) (by decide) dX6_lay_28 (fun H locs w => ?_)
  have w : xW G A s [(h0, .inr (10, [.ref h1, .ref h3, .ref h4, .ref h2, .ref h5, .ref h6, .ref h7, .int 0, .int 0])), (h2, .inr (3, [.int 0, .ref (sv 0), .int 0])), (h1, .inr (3, [.int 0, .ref (sv 0), .int 0])), (q383, .inl (cy 1, 2, .inl (upd (upd (fun _ => 0) 0 v0) 1 (-1000))))] H _ := w
  refine x_ki C w [1, 3] [0, 2] rfl rfl (by decide) (by decide) (va_runV (As := [.ref q383]) (rest := []) (xfix C) (c55_Jx4a65c_add_9ea2d l G cy sa sv h2 q383 v0 (xtr C) _) (cwV 1 (xhts C) (xgV (maxL := 0) (cc := ⟨#[]⟩) (ret := none) gw_232 gw_233 gw_234 gw_62 gc_Jx4a65c_add_9ea2d) rfl rfl rfl (by decide +kernel) ⟨(Nat.le_of_ble_eq_true rfl), (Nat.le_of_ble_eq_true rfl)⟩) (xPV C w [1, 3] rfl (by decide) (ci := 3) (q0 := 1) rfl rfl) rfl rfl hl.1 rfl (lv_room (Nat.le_of_ble_eq_true rfl)) dX6_lay_29 ⟨(Nat.le_of_ble_eq_true rfl), (Nat.le_of_ble_eq_true rfl)⟩) (fun f400 H locs w => ?_)
  have w : xW G A s [(h0, .inr (10, [.ref h1, .ref h3, .ref h4, .ref h2, .ref h5, .ref h6, .ref h7, .int 0, .int 0])), (h1, .inr (3, [.int 0, .ref (sv 0), .int 0])), (h2, .inr (3, [.int 1, .ref (f400 0), .int 1])), (q383, .inl (cy 1, 2, .inl (upd (upd (fun _ => 0) 0 v0) 1 (-1000)))), ((f400 0), .inl (cy 4, 10, .inr (.inr (.inr (.inr (va_up (fun _ => none) 0 (some q383)))))))] H _ := w
  refine W.widen (k := 2) (n := 12) (Nat.le_of_ble_eq_true rfl) (Nat.le_of_ble_eq_true rfl) ?_
  refine lv_pop C.1 C.2.1 dX6_lay_32 rfl ?_
  refine lv_aload_n C.1 C.2.1 dX6_lay_33 rfl (lv_at hl 1 rfl) ?_
  refine lv_iload_n C.1 C.2.1 dX6_lay_34 rfl (lv_at hl 2 rfl) ?_
  refine lv_iload_n C.1 C.2.1 dX6_lay_35 rfl (lv_at hl 3 rfl) ?_
  refine x_kv C w [0, 1] [2, 3, 4] rfl rfl (by decide) (by decide) (va_runV (As := [.int v0, .int v1]) (rest := []) (xfix C) (c58_X6_used l G cy sa sv h0 h1 h3 h4 h2 h5 h6 h7 v0 v1 (xtr C) _) (cwV 2 (xhts C) (xgV (maxL := 0) (cc := ⟨#[]⟩) (ret := none) gw_236 gw_237 gw_238 gw_58 gc_X6_used) rfl rfl rfl (by decide +kernel) ⟨(Nat.le_of_ble_eq_true rfl), (Nat.le_of_ble_eq_true rfl)⟩) (xPV C w [0, 1] rfl (by decide) (ci := 10) (q0 := 0) rfl rfl) rfl rfl hl.1 rfl (lv_room (Nat.le_of_ble_eq_true rfl)) dX6_lay_36 ⟨(Nat.le_of_ble_eq_true rfl), (Nat.le_of_ble_eq_true rfl)⟩) (fun f427 H locs w => ?_)
  have w : xW G A s [(h2, .inr (3, [.int 1, .ref (f400 0), .int 1])), (q383, .inl (cy 1, 2, .inl (upd (upd (fun _ => 0) 0 v0) 1 (-1000)))), ((f400 0), .inl (cy 4, 10, .inr (.inr (.inr (.inr (va_up (fun _ => none) 0 (some q383))))))), (h0, .inr (10, [.ref h1, .ref h3, .ref h4, .ref h2, .ref h5, .ref h6, .ref h7, .int 0, .int 0])), (h1, .inr (3, [.int 1, .ref (f427 1), .int 1])), ((f427 0), .inl (cy 1, 2, .inl (upd (upd (fun _ => 0) 0 v0) 1 v1))), ((f427 1), .inl (cy 4, 10, .inr (.inr (.inr (.inr (va_up (fun _ => none) 0 (some (f427 0))))))))] H _ := w
  refine W.widen (k := 4) (n := 24) (Nat.le_of_ble_eq_true rfl) (Nat.le_of_ble_eq_true rfl) ?_
  have w := w.sub (ws' := [(h0, .inr (10, [.ref h1, .ref h3, .ref h4, .ref h2, .ref h5, .ref h6, .ref h7, .int 0, .int 0])), (h1, .inr (3, [.int 1, .ref (f427 1), .int 1])), (h2, .inr (3, [.int 1, .ref (f400 0), .int 1])), (q383, .inl (cy 1, 2, .inl (upd (upd (fun _ => 0) 0 v0) 1 (-1000)))), ((f400 0), .inl (cy 4, 10, .inr (.inr (.inr (.inr (va_up (fun _ => none) 0 (some q383))))))), ((f427 0), .inl (cy 1, 2, .inl (upd (upd (fun _ => 0) 0 v0) 1 v1))), ((f427 1), .inl (cy 4, 10, .inr (.inr (.inr (.inr (va_up (fun _ => none) 0 (some (f427 0))))))))]) [3, 4, 0, 1, 2, 5, 6] (by decide) rfl rfl
  exact x_vret C w hr (fun k => match k with | 0 => q383 | 1 => (f400 0) | 2 => (f427 0) | 3 => (f427 1) | _ => 0) rfl dX6_lay_39 (Nat.le_of_ble_eq_true rfl) (Nat.le_of_ble_eq_true rfl)
set_option maxHeartbeats 4000000 in
set_option maxRecDepth 100000 in
theorem c60_Jx4a65c_size_8abf5 (l : Launch) (G : va_G) (cy : Nat → ClassId) (sa : String → Nat → Nat) (sv : Nat → Nat) (h0 h1 : Nat) : xM l G cy sa sv yJx4a65c_size_8abf5 (Cond.code yJx4a65c_size_8abf5 cJx4a65c_size_8abf5 1 (some .int) :: XG) { frames := 8, cells := 0, slots := 0, locals := 250 } [.ref h0] [(h0, .inr (3, [.int 1, .ref h1, .int 1]))] (xQi G (fun f => [(h0, .inr (3, [.int 1, .ref h1, .int 1]))]) 1) := by
  refine xof (by decide) (Nat.le_of_ble_eq_true rfl) (fun p e s m below meth c A C w hr hn ls hl => ?_)
  have hl : lv_has ls 1 [(0, .ref h0)] := hl
  refine lv_aload_n C.1 C.2.1 dJx4a65c_size_8abf5_0 rfl (lv_at hl 0 rfl) ?_
  refine x_get (v := .int 1) C w 0 3 2 (xin_Jx4a65c _) rfl rfl (by decide) (List.mem_cons_of_mem _ gw_193) rfl rfl dJx4a65c_size_8abf5_1 ?_
  exact x_iret C w hr (fun _ => 0) rfl rfl dJx4a65c_size_8abf5_4 (Nat.le_of_ble_eq_true rfl) (Nat.le_of_ble_eq_true rfl)
set_option maxHeartbeats 4000000 in
set_option maxRecDepth 100000 in
theorem c61_Jx4a65c_add_72be8 (l : Launch) (G : va_G) (cy : Nat → ClassId) (sa : String → Nat → Nat) (sv : Nat → Nat) (h0 h1 h2 : Nat) : xM l G cy sa sv yJx4a65c_add_72be8 (Cond.code yJx4a65c_add_72be8 cJx4a65c_add_72be8 4 none :: XG) { frames := 10, cells := 1, slots := 10, locals := 293 } [.ref h0, .ref h1, .ref (sv 0), .int 0] [(h0, .inr (3, [.int 1, .ref (sv 0), .int 0])), (h1, .inr (3, [.int 1, .ref h2, .int 1]))] (xQv G (fun f => [(h0, .inr (3, [.int 1, .ref (f 0), .int 1])), (h1, .inr (3, [.int 1, .ref h2, .int 1])), ((f 0), .inl (cy 4, 10, .inr (.inr (.inr (.inr (va_up (fun _ => none) 0 (some h1)))))))])) := by
  refine xof (by decide) (Nat.le_of_ble_eq_true rfl) (fun p e s m below meth c A C w hr hn ls hl => ?_)
  have hl : lv_has ls 4 [(0, .ref h0), (1, .ref h1), (2, .ref (sv 0)), (3, .int 0)] := hl
  refine lv_iload_n C.1 C.2.1 dJx4a65c_add_72be8_0 rfl (lv_at hl 3 rfl) ?_
  refine lv_aload_n C.1 C.2.1 dJx4a65c_add_72be8_1 rfl (lv_at hl 2 rfl) ?_
  refine x_tlen (v := 0) C w (xs_dt (xS C)) (by decide) dJx4a65c_add_72be8_2 ?_
  refine lv_icmp_ne (tgt := 11) C.1 C.2.1 dJx4a65c_add_72be8_3 (by decide) (fun c9 => absurd (by decide) c9) (fun _ => ?_)
  refine lv_aload_n C.1 C.2.1 dJx4a65c_add_72be8_6 rfl (lv_at hl 0 rfl) ?_
  refine x_kr C w [0] [1] rfl rfl (by decide) (by decide) (va_runV (As := []) (rest := []) (xfix C) (c53_Jx4a65c_grow_d5877 l G cy sa sv h0 (xtr C) _) (cwV 0 (xhts C) (xgV (maxL := 0) (cc := ⟨#[]⟩) (ret := none) gw_224 gw_225 gw_226 gw_62 gc_Jx4a65c_grow_d5877) rfl rfl rfl (by decide +kernel) ⟨(Nat.le_of_ble_eq_true rfl), (Nat.le_of_ble_eq_true rfl)⟩) (xPV C w [0] rfl (by decide) (ci := 3) (q0 := 0) rfl rfl) rfl rfl hl.1 rfl (lv_room (Nat.le_of_ble_eq_true rfl)) dJx4a65c_add_72be8_7 ⟨(Nat.le_of_ble_eq_true rfl), (Nat.le_of_ble_eq_true rfl)⟩) (fun f450 H locs w => ?_)
  have w : xW G A s [(h1, .inr (3, [.int 1, .ref h2, .int 1])), (h0, .inr (3, [.int 1, .ref (f450 0), .int 0])), ((f450 0), .inl (cy 4, 10, .inr (.inr (.inr (.inr (fun _ => none))))))] H _ := w
  refine W.widen (k := 1) (n := 10) (Nat.le_of_ble_eq_true rfl) (Nat.le_of_ble_eq_true rfl) ?_
  refine lv_astore_n (lv' := [(2, .ref (f450 0)), (0, .ref h0), (1, .ref h1), (3, .int 0)]) C.1 C.2.1 dJx4a65c_add_72be8_10 rfl hl (by decide) rfl (fun ls hl => ?_)
  refine lv_aload_n C.1 C.2.1 dJx4a65c_add_72be8_11 rfl (lv_at hl 0 rfl) ?_
  refine lv_iload_n C.1 C.2.1 dJx4a65c_add_72be8_12 rfl (lv_at hl 3 rfl) ?_
  refine lv_aload_n C.1 C.2.1 dJx4a65c_add_72be8_13 rfl (lv_at hl 2 rfl) ?_
  refine x_astqO (k := 0) C w 2 4 0 3 rfl rfl (xs_cA (xS C)) rfl rfl (xvin (by decide)) (by decide) dJx4a65c_add_72be8_14 (fun H locs w => ?_)
  have w : xW G A s [(h1, .inr (3, [.int 1, .ref h2, .int 1])), (h0, .inr (3, [.int 1, .ref (f450 0), .int 0])), ((f450 0), .inl (cy 4, 10, .inr (.inr (.inr (.inr (va_up (fun _ => none) 0 (some h1)))))))] H _ := w
  refine lv_aload_n C.1 C.2.1 dJx4a65c_add_72be8_15 rfl (lv_at hl 1 rfl) ?_
  refine lv_iload_n C.1 C.2.1 dJx4a65c_add_72be8_16 rfl (lv_at hl 3 rfl) ?_
  refine lv_iconst (v := 1) C.1 C.2.1 dJx4a65c_add_72be8_17 (by decide) ?_
  refine lv_iadd C.1 C.2.1 dJx4a65c_add_72be8_18 ?_
  refine x_is (y := 1) (by decide) ?_
  refine x_put (ty := .int) (ty0 := tyJx4a65c) C w 1 3 2 (xin_Jx4a65c _) tyJx4a65c_ok nmJx4a65c rfl rfl (by decide) (List.mem_cons_of_mem _ gw_193) rfl rfl (by decide +kernel) rfl rfl (Nat.le_of_ble_eq_true rfl) dJx4a65c_add_72be8_19 (fun H locs w => ?_)
  have w : xW G A s [(h1, .inr (3, [.int 1, .ref h2, .int 1])), (h0, .inr (3, [.int 1, .ref (f450 0), .int 1])), ((f450 0), .inl (cy 4, 10, .inr (.inr (.inr (.inr (va_up (fun _ => none) 0 (some h1)))))))] H _ := w
  have w := w.sub (ws' := [(h0, .inr (3, [.int 1, .ref (f450 0), .int 1])), (h1, .inr (3, [.int 1, .ref h2, .int 1])), ((f450 0), .inl (cy 4, 10, .inr (.inr (.inr (.inr (va_up (fun _ => none) 0 (some h1)))))))]) [1, 0, 2] (by decide) rfl rfl
  exact x_vret C w hr (fun k => match k with | 0 => (f450 0) | _ => 0) rfl dJx4a65c_add_72be8_22 (Nat.le_of_ble_eq_true rfl) (Nat.le_of_ble_eq_true rfl)
set_option maxHeartbeats 4000000 in
set_option maxRecDepth 100000 in
theorem c62_Jx4a65c_add_9ea2d (l : Launch) (G : va_G) (cy : Nat → ClassId) (sa : String → Nat → Nat) (sv : Nat → Nat) (h0 h1 h2 : Nat) : xM l G cy sa sv yJx4a65c_add_9ea2d (Cond.code yJx4a65c_add_9ea2d cJx4a65c_add_9ea2d 2 (some .boolean) :: XG) { frames := 11, cells := 1, slots := 10, locals := 316 } [.ref h0, .ref h1] [(h0, .inr (3, [.int 0, .ref (sv 0), .int 0])), (h1, .inr (3, [.int 1, .ref h2, .int 1]))] (xQi G (fun f => [(h0, .inr (3, [.int 1, .ref (f 0), .int 1])), (h1, .inr (3, [.int 1, .ref h2, .int 1])), ((f 0), .inl (cy 4, 10, .inr (.inr (.inr (.inr (va_up (fun _ => none) 0 (some h1)))))))]) 1) := by
  refine xof (by decide) (Nat.le_of_ble_eq_true rfl) (fun p e s m below meth c A C w hr hn ls hl => ?_)
  have hl : lv_has ls 2 [(0, .ref h0), (1, .ref h1)] := hl
  refine lv_aload_n C.1 C.2.1 dJx4a65c_add_9ea2d_0 rfl (lv_at hl 0 rfl) ?_
  refine lv_dup C.1 C.2.1 dJx4a65c_add_9ea2d_1 rfl ?_
  refine x_getS (v := .int 0) C w 0 3 0 (xin_Jx4a65c _) rfl rfl (by decide) (List.mem_cons_of_mem _ gw_213) (List.mem_cons_of_mem _ gw_212) rfl dJx4a65c_add_9ea2d_2 ?_
  refine lv_iconst (v := 1) C.1 C.2.1 dJx4a65c_add_9ea2d_5 (by decide) ?_
  refine lv_iadd C.1 C.2.1 dJx4a65c_add_9ea2d_6 ?_
  refine x_is (y := 1) (by decide) ?_
  refine x_putS (ty := .int) (ty0 := tyJx4a65c) C w 0 3 0 (xin_Jx4a65c _) tyJx4a65c_ok nmJx4a65c rfl rfl (by decide) (List.mem_cons_of_mem _ gw_213) (List.mem_cons_of_mem _ gw_212) rfl (by decide +kernel) rfl rfl (Nat.le_of_ble_eq_true rfl) dJx4a65c_add_9ea2d_7 (fun H locs w => ?_)
  have w : xW G A s [(h0, .inr (3, [.int 1, .ref (sv 0), .int 0])), (h1, .inr (3, [.int 1, .ref h2, .int 1]))] H _ := w
  refine lv_aload_n C.1 C.2.1 dJx4a65c_add_9ea2d_10 rfl (lv_at hl 0 rfl) ?_
  refine lv_aload_n C.1 C.2.1 dJx4a65c_add_9ea2d_11 rfl (lv_at hl 1 rfl) ?_
  refine lv_aload_n C.1 C.2.1 dJx4a65c_add_9ea2d_12 rfl (lv_at hl 0 rfl) ?_
  refine x_get (v := .ref (sv 0)) C w 0 3 1 (xin_Jx4a65c _) rfl rfl (by decide) (List.mem_cons_of_mem _ gw_74) rfl rfl dJx4a65c_add_9ea2d_13 ?_
  refine lv_aload_n C.1 C.2.1 dJx4a65c_add_9ea2d_16 rfl (lv_at hl 0 rfl) ?_
  refine x_get (v := .int 0) C w 0 3 2 (xin_Jx4a65c _) rfl rfl (by decide) (List.mem_cons_of_mem _ gw_193) rfl rfl dJx4a65c_add_9ea2d_17 ?_
  refine x_kv C w [0, 1] [] rfl rfl (by decide) (by decide) (va_runV (As := [.ref h1, .ref (sv 0), .int 0]) (rest := []) (xfix C) (c61_Jx4a65c_add_72be8 l G cy sa sv h0 h1 h2 (xtr C) _) (cwV 3 (xhts C) (xgV (maxL := 0) (cc := ⟨#[]⟩) (ret := none) gw_228 gw_229 gw_230 gw_62 gc_Jx4a65c_add_72be8) rfl rfl rfl (by decide +kernel) ⟨(Nat.le_of_ble_eq_true rfl), (Nat.le_of_ble_eq_true rfl)⟩) (xPV C w [0, 1] rfl (by decide) (ci := 3) (q0 := 0) rfl rfl) rfl rfl hl.1 rfl (lv_room (Nat.le_of_ble_eq_true rfl)) dJx4a65c_add_9ea2d_20 ⟨(Nat.le_of_ble_eq_true rfl), (Nat.le_of_ble_eq_true rfl)⟩) (fun f452 H locs w => ?_)
  have w : xW G A s [(h0, .inr (3, [.int 1, .ref (f452 0), .int 1])), (h1, .inr (3, [.int 1, .ref h2, .int 1])), ((f452 0), .inl (cy 4, 10, .inr (.inr (.inr (.inr (va_up (fun _ => none) 0 (some h1)))))))] H _ := w
  refine W.widen (k := 1) (n := 10) (Nat.le_of_ble_eq_true rfl) (Nat.le_of_ble_eq_true rfl) ?_
  refine lv_iconst (v := 1) C.1 C.2.1 dJx4a65c_add_9ea2d_23 (by decide) ?_
  exact x_zret C w hr rfl (fun k => match k with | 0 => (f452 0) | _ => 0) rfl rfl dJx4a65c_add_9ea2d_24 (Nat.le_of_ble_eq_true rfl) (Nat.le_of_ble_eq_true rfl)
