set_option maxHeartbeats 4000000 in
set_option maxRecDepth 100000 in
theorem c144_X4_rangeNear (l : Launch) (G : va_G) (cy : Nat → ClassId) (sa : String → Nat → Nat) (sv : Nat → Nat) (h0 h1 h2 h3 h4 h5 h6 h7 h8 h9 h10 : Nat) (v0 : Int32) : xX l G cy sa sv yX4_rangeNear (Cond.code yX4_rangeNear cX4_rangeNear 6 (some .int) :: XG) { frames := 12, cells := 1, slots := 6, locals := 341 } [.ref h0, .int (-2147483648), .int 2147483647, .int v0, .int 0] [(h0, .inr (8, [.ref h1, .ref h3, .ref h4, .ref h5, .ref h6, .int 0, .ref h7, .ref h8])), (h1, .inr (7, [.ref h2, .ref h9])), (h2, .inr (6, [.ref h10, .int 0]))] (fun f => [(h0, .inr (8, [.ref h1, .ref h3, .ref h4, .ref h5, .ref h6, .int 0, .ref h7, .ref h8])), (h1, .inr (7, [.ref h2, .ref h9])), (h2, .inr (6, [.ref h10, .int 0]))]) "java/lang/IllegalStateException" := by
  refine xofX (by decide) (Nat.le_of_ble_eq_true rfl) (fun p e s m below meth c A C w hno ls hl => ?_)
  have hl : lv_has ls 6 [(0, .ref h0), (1, .int (-2147483648)), (2, .int 2147483647), (3, .int v0), (4, .int 0)] := hl
  refine lv_iload_n C.1 C.2.1 dX4_rangeNear_0 rfl (lv_at hl 1 rfl) ?_
  refine lv_iload_n C.1 C.2.1 dX4_rangeNear_1 rfl (lv_at hl 2 rfl) ?_
  refine x_kv C w [] [0, 1, 2] rfl rfl (by decide) (by decide) (va_runS (As := [.int (-2147483648), .int 2147483647]) (rest := []) (xfix C) (c131_X4_checkRange l G cy sa sv (xtr C) _) (va_cwS 2 (xhts C) (xgS gw_390 gw_391 gw_2 gc_X4_checkRange) rfl rfl rfl (by decide +kernel) ⟨(Nat.le_of_ble_eq_true rfl), (Nat.le_of_ble_eq_true rfl)⟩) (xPS C w [] rfl (by decide)) rfl rfl hl.1 rfl (lv_room (Nat.le_of_ble_eq_true rfl)) dX4_rangeNear_2 ⟨(Nat.le_of_ble_eq_true rfl), (Nat.le_of_ble_eq_true rfl)⟩) (fun f935 H locs w => ?_)
  have w : xW G A s [(h0, .inr (8, [.ref h1, .ref h3, .ref h4, .ref h5, .ref h6, .int 0, .ref h7, .ref h8])), (h1, .inr (7, [.ref h2, .ref h9])), (h2, .inr (6, [.ref h10, .int 0]))] H _ := w
  refine lv_iload C.1 C.2.1 dX4_rangeNear_5 (lv_at hl 4 rfl) ?_
  refine x_kv C w [] [0, 1, 2] rfl rfl (by decide) (by decide) (va_runS (As := [.int 0]) (rest := []) (xfix C) (c141_X4_checkHow l G cy sa sv (xtr C) _) (va_cwS 1 (xhts C) (xgS gw_416 gw_417 gw_2 gc_X4_checkHow) rfl rfl rfl (by decide +kernel) ⟨(Nat.le_of_ble_eq_true rfl), (Nat.le_of_ble_eq_true rfl)⟩) (xPS C w [] rfl (by decide)) rfl rfl hl.1 rfl (lv_room (Nat.le_of_ble_eq_true rfl)) dX4_rangeNear_7 ⟨(Nat.le_of_ble_eq_true rfl), (Nat.le_of_ble_eq_true rfl)⟩) (fun f936 H locs w => ?_)
  have w : xW G A s [(h0, .inr (8, [.ref h1, .ref h3, .ref h4, .ref h5, .ref h6, .int 0, .ref h7, .ref h8])), (h1, .inr (7, [.ref h2, .ref h9])), (h2, .inr (6, [.ref h10, .int 0]))] H _ := w
  refine lv_aload_n C.1 C.2.1 dX4_rangeNear_10 rfl (lv_at hl 0 rfl) ?_
  refine x_get (v := .ref h1) C w 0 8 0 (xin_X4 _) rfl rfl (by decide) (List.mem_cons_of_mem _ gw_24) rfl rfl dX4_rangeNear_11 ?_
  refine lv_iload_n C.1 C.2.1 dX4_rangeNear_14 rfl (lv_at hl 1 rfl) ?_
  refine lv_iload_n C.1 C.2.1 dX4_rangeNear_15 rfl (lv_at hl 2 rfl) ?_
  refine lv_iload_n C.1 C.2.1 dX4_rangeNear_16 rfl (lv_at hl 3 rfl) ?_
  refine lv_iload C.1 C.2.1 dX4_rangeNear_17 (lv_at hl 4 rfl) ?_
  refine x_ki C w [1, 2] [0] rfl rfl (by decide) (by decide) (va_runV (As := [.int (-2147483648), .int 2147483647, .int v0, .int 0]) (rest := []) (xfix C) (c143_X3_placeNear l G cy sa sv h1 h2 h9 h10 v0 (xtr C) _) (cwV 4 (xhts C) (xgV (maxL := 0) (cc := ⟨#[]⟩) (ret := none) gw_424 gw_425 gw_426 gw_7 gc_X3_placeNear) rfl rfl rfl (by decide +kernel) ⟨(Nat.le_of_ble_eq_true rfl), (Nat.le_of_ble_eq_true rfl)⟩) (xPV C w [1, 2] rfl (by decide) (ci := 7) (q0 := 1) rfl rfl) rfl rfl hl.1 rfl (lv_room (Nat.le_of_ble_eq_true rfl)) dX4_rangeNear_19 ⟨(Nat.le_of_ble_eq_true rfl), (Nat.le_of_ble_eq_true rfl)⟩) (fun f947 H locs w => ?_)
  have w : xW G A s [(h0, .inr (8, [.ref h1, .ref h3, .ref h4, .ref h5, .ref h6, .int 0, .ref h7, .ref h8])), (h1, .inr (7, [.ref h2, .ref h9])), (h2, .inr (6, [.ref h10, .int 0]))] H _ := w
  refine lv_istore (lv' := [(5, .int (-1)), (0, .ref h0), (1, .int (-2147483648)), (2, .int 2147483647), (3, .int v0), (4, .int 0)]) C.1 C.2.1 dX4_rangeNear_22 hl (by decide) rfl (fun ls hl => ?_)
  refine lv_iload C.1 C.2.1 dX4_rangeNear_24 (lv_at hl 0 rfl) ?_
  refine lv_iconst (v := (-1)) C.1 C.2.1 dX4_rangeNear_26 (by decide) ?_
  refine lv_icmp_ne (tgt := 40) C.1 C.2.1 dX4_rangeNear_27 (by decide) (fun c9 => absurd (by decide) c9) (fun _ => ?_)
  exact x_thr C w hno hl.1 (by decide) (List.mem_cons_of_mem _ gw_397) (List.mem_cons_of_mem _ gw_398) (tx := "there is no such key") (List.mem_of_getElem? (i := 1) rfl) (xat_161 C (fun w h => List.mem_cons_of_mem _ h)) xatg_161 dX4_rangeNear_30 dX4_rangeNear_33 dX4_rangeNear_34 dX4_rangeNear_36 dX4_rangeNear_39 (Nat.le_of_ble_eq_true rfl) (Nat.le_of_ble_eq_true rfl) (Nat.le_of_ble_eq_true rfl) (Nat.le_of_ble_eq_true rfl) rfl rfl (fun _ => 0) rfl
set_option maxHeartbeats 4000000 in
set_option maxRecDepth 100000 in
theorem c145_X4_near (l : Launch) (G : va_G) (cy : Nat → ClassId) (sa : String → Nat → Nat) (sv : Nat → Nat) (h0 h1 h2 h3 h4 h5 h6 h7 h8 h9 h10 : Nat) (v0 : Int32) : xX l G cy sa sv yX4_near (Cond.code yX4_near cX4_near 3 (some .int) :: XG) { frames := 13, cells := 1, slots := 6, locals := 366 } [.ref h0, .int v0, .int 0] [(h0, .inr (8, [.ref h1, .ref h3, .ref h4, .ref h5, .ref h6, .int 0, .ref h7, .ref h8])), (h1, .inr (7, [.ref h2, .ref h9])), (h2, .inr (6, [.ref h10, .int 0]))] (fun f => [(h0, .inr (8, [.ref h1, .ref h3, .ref h4, .ref h5, .ref h6, .int 0, .ref h7, .ref h8])), (h1, .inr (7, [.ref h2, .ref h9])), (h2, .inr (6, [.ref h10, .int 0]))]) "java/lang/IllegalStateException" := by
  refine xofX (by decide) (Nat.le_of_ble_eq_true rfl) (fun p e s m below meth c A C w hno ls hl => ?_)
  have hl : lv_has ls 3 [(0, .ref h0), (1, .int v0), (2, .int 0)] := hl
  refine lv_aload_n C.1 C.2.1 dX4_near_0 rfl (lv_at hl 0 rfl) ?_
  refine x_ldc (v := (-2147483648)) C (List.mem_cons_of_mem _ gw_305) dX4_near_1 ?_
  refine x_ldc (v := 2147483647) C (List.mem_cons_of_mem _ gw_306) dX4_near_3 ?_
  refine lv_iload_n C.1 C.2.1 dX4_near_5 rfl (lv_at hl 1 rfl) ?_
  refine lv_iload_n C.1 C.2.1 dX4_near_6 rfl (lv_at hl 2 rfl) ?_
  refine x_kx C w [0, 1, 2] [] rfl rfl (by decide) (by decide) (vx_runV (As := [.int (-2147483648), .int 2147483647, .int v0, .int 0]) (rest := []) (xfix C) (c144_X4_rangeNear l G cy sa sv h0 h1 h2 h3 h4 h5 h6 h7 h8 h9 h10 v0 (xtr C) _) (cwV 4 (xhts C) (xgV (maxL := 0) (cc := ⟨#[]⟩) (ret := none) gw_428 gw_429 gw_430 gw_2 gc_X4_rangeNear) rfl rfl rfl (by decide +kernel) ⟨(Nat.le_of_ble_eq_true rfl), (Nat.le_of_ble_eq_true rfl)⟩) (xPV C w [0, 1, 2] rfl (by decide) (ci := 8) (q0 := 0) rfl rfl) rfl rfl hl.1 rfl (lv_room (Nat.le_of_ble_eq_true rfl)) dX4_near_7 ⟨(Nat.le_of_ble_eq_true rfl), (Nat.le_of_ble_eq_true rfl)⟩) (fun f948 H locs ce q9 w hce hcv hcl => ?_)
  have w : xW G A s [(h0, .inr (8, [.ref h1, .ref h3, .ref h4, .ref h5, .ref h6, .int 0, .ref h7, .ref h8])), (h1, .inr (7, [.ref h2, .ref h9])), (h2, .inr (6, [.ref h10, .int 0]))] H _ := w
  refine vx_widen (k := 1) (n := 6) (Nat.le_of_ble_eq_true rfl) (Nat.le_of_ble_eq_true rfl) ?_
  exact x_out C w hno (fun _ => 0) rfl hce hcv hcl (Nat.le_of_ble_eq_true rfl) (Nat.le_of_ble_eq_true rfl)
set_option maxHeartbeats 4000000 in
set_option maxRecDepth 100000 in
theorem c146_L_near (l : Launch) (G : va_G) (cy : Nat → ClassId) (sa : String → Nat → Nat) (sv : Nat → Nat) (h0 h1 h2 h3 h4 h5 h6 h7 h8 h9 h10 h11 : Nat) (v0 : Int32) : xM l G cy sa sv yL_near (Cond.codeWith yL_near cL_near 5 (some .int) [(0, 11, 14, 19), (0, 11, 18, 21)] :: XG) { frames := 14, cells := 1, slots := 6, locals := 388 } [.ref h0, .int v0, .int 0, .ref h1] [(h0, .inr (8, [.ref h2, .ref h4, .ref h5, .ref h6, .ref h7, .int 0, .ref h8, .ref h9])), (h2, .inr (7, [.ref h3, .ref h10])), (h3, .inr (6, [.ref h11, .int 0]))] (xQi G (fun f => [(h0, .inr (8, [.ref h2, .ref h4, .ref h5, .ref h6, .ref h7, .int 0, .ref h8, .ref h9])), (h2, .inr (7, [.ref h3, .ref h10])), (h3, .inr (6, [.ref h11, .int 0]))]) 2) := by
  refine xofH (by decide) (Nat.le_of_ble_eq_true rfl) (fun p e s m below meth c A C w hr hn hT ls hl => ?_)
  have hl : lv_has ls 5 [(0, .ref h0), (1, .int v0), (2, .int 0), (3, .ref h1)] := hl
  refine lv_aload_n C.1 C.2.1 dL_near_0 rfl (lv_at hl 3 rfl) ?_
  refine lv_aload_n C.1 C.2.1 dL_near_1 rfl (lv_at hl 0 rfl) ?_
  refine lv_iload_n C.1 C.2.1 dL_near_2 rfl (lv_at hl 1 rfl) ?_
  refine lv_iload_n C.1 C.2.1 dL_near_3 rfl (lv_at hl 2 rfl) ?_
  refine x_kx C w [0, 1, 2] [] rfl rfl (by decide) (by decide) (vx_runV (As := [.int v0, .int 0]) (rest := [.ref h1]) (xfix C) (c145_X4_near l G cy sa sv h0 h2 h3 h4 h5 h6 h7 h8 h9 h10 h11 v0 (xtr C) _) (cwV 2 (xhts C) (xgV (maxL := 0) (cc := ⟨#[]⟩) (ret := none) gw_432 gw_433 gw_434 gw_2 gc_X4_near) rfl rfl rfl (by decide +kernel) ⟨(Nat.le_of_ble_eq_true rfl), (Nat.le_of_ble_eq_true rfl)⟩) (xPV C w [0, 1, 2] rfl (by decide) (ci := 8) (q0 := 0) rfl rfl) rfl rfl hl.1 rfl (lv_room (Nat.le_of_ble_eq_true rfl)) dL_near_4 ⟨(Nat.le_of_ble_eq_true rfl), (Nat.le_of_ble_eq_true rfl)⟩) (fun f949 H locs ce q9 w hce hcv hcl => ?_)
  have w : xW G A s [(h0, .inr (8, [.ref h2, .ref h4, .ref h5, .ref h6, .ref h7, .int 0, .ref h8, .ref h9])), (h2, .inr (7, [.ref h3, .ref h10])), (h3, .inr (6, [.ref h11, .int 0]))] H _ := w
  refine vx_widen (k := 1) (n := 6) (Nat.le_of_ble_eq_true rfl) (Nat.le_of_ble_eq_true rfl) ?_
  refine vx_catch (xown C) [⟨0, 11, 14, 19⟩] ⟨0, 11, 18, 21⟩ [] hT (fun z hz => Or.inr (by cases List.mem_singleton.mp hz; exact ⟨by decide, "java/lang/IllegalArgumentException", xhts C _ (List.mem_cons_of_mem _ gw_104), xs_n1 (xS C)⟩)) (by decide) (by decide) (xhts C _ (List.mem_cons_of_mem _ gw_407)) (va_any rfl (xs_c2 (xS C))) hce hcv hcl ?_
  refine lv_astore (lv' := [(4, .ref q9), (0, .ref h0), (1, .int v0), (2, .int 0), (3, .ref h1)]) C.1 C.2.1 dL_near_18 hl (by decide) rfl (fun ls hl => ?_)
  refine lv_iconst (v := 2) C.1 C.2.1 dL_near_20 (by decide) ?_
  exact x_iret C w hr (fun _ => 0) rfl rfl dL_near_21 (Nat.le_of_ble_eq_true rfl) (Nat.le_of_ble_eq_true rfl)
set_option maxHeartbeats 4000000 in
set_option maxRecDepth 100000 in
theorem c147_X6_isNoHow (l : Launch) (G : va_G) (cy : Nat → ClassId) (sa : String → Nat → Nat) (sv : Nat → Nat) : xM l G cy sa sv yX6_isNoHow (Cond.code yX6_isNoHow cX6_isNoHow 1 (some .boolean) :: XG) { frames := 8, cells := 0, slots := 0, locals := 250 } [.int 0] [] (xQi G (fun f => []) 0) := by
  refine xof (by decide) (Nat.le_of_ble_eq_true rfl) (fun p e s m below meth c A C w hr hn ls hl => ?_)
  have hl : lv_has ls 1 [(0, .int 0)] := hl
  refine lv_iload_n C.1 C.2.1 dX6_isNoHow_0 rfl (lv_at hl 0 rfl) ?_
  refine lv_if_lt (tgt := 9) C.1 C.2.1 dX6_isNoHow_1 (by decide) (fun c9 => absurd c9 (by decide)) (fun _ => ?_)
  refine lv_iload_n C.1 C.2.1 dX6_isNoHow_4 rfl (lv_at hl 0 rfl) ?_
  refine lv_iconst (v := 3) C.1 C.2.1 dX6_isNoHow_5 (by decide) ?_
  refine lv_icmp_le (tgt := 13) C.1 C.2.1 dX6_isNoHow_6 (by decide) (fun _ => ?_) (fun c9 => absurd (by decide) c9)
  refine lv_iconst (v := 0) C.1 C.2.1 dX6_isNoHow_13 (by decide) ?_
  exact x_zret C w hr rfl (fun _ => 0) rfl rfl dX6_isNoHow_14 (Nat.le_of_ble_eq_true rfl) (Nat.le_of_ble_eq_true rfl)
set_option maxHeartbeats 4000000 in
set_option maxRecDepth 100000 in
theorem c148_X6_nearIn (l : Launch) (G : va_G) (cy : Nat → ClassId) (sa : String → Nat → Nat) (sv : Nat → Nat) (h0 : Nat) (v0 : Int32) : xM l G cy sa sv yX6_nearIn (Cond.code yX6_nearIn cX6_nearIn 7 (some (.array .int)) :: XG) { frames := 9, cells := 0, slots := 0, locals := 270 } [.ref h0, .int v0, .int 0] [(h0, .inr (3, [.int 0, .ref (sv 0), .int 0]))] (xQn G (fun f => [(h0, .inr (3, [.int 0, .ref (sv 0), .int 0]))])) := by
  refine xof (by decide) (Nat.le_of_ble_eq_true rfl) (fun p e s m below meth c A C w hr hn ls hl => ?_)
  have hl : lv_has ls 7 [(0, .ref h0), (1, .int v0), (2, .int 0)] := hl
  refine lv_null C.1 C.2.1 dX6_nearIn_0 ?_
  refine lv_astore_nN (lv' := [(3, .null), (0, .ref h0), (1, .int v0), (2, .int 0)]) C.1 C.2.1 dX6_nearIn_1 rfl hl (by decide) rfl (fun ls hl => ?_)
  refine lv_iconst (v := 0) C.1 C.2.1 dX6_nearIn_2 (by decide) ?_
  refine lv_istore (lv' := [(4, .int 0), (3, .null), (0, .ref h0), (1, .int v0), (2, .int 0)]) C.1 C.2.1 dX6_nearIn_3 hl (by decide) rfl (fun ls hl => ?_)
  refine lv_iload C.1 C.2.1 dX6_nearIn_5 (lv_at hl 0 rfl) ?_
  refine lv_aload_n C.1 C.2.1 dX6_nearIn_7 rfl (lv_at hl 2 rfl) ?_
  refine x_ki C w [0] [] rfl rfl (by decide) (by decide) (va_runV (As := []) (rest := [.int 0]) (xfix C) (c47_Jx4a65c_size_8abf5 l G cy sa sv h0 (xtr C) _) (cwV 0 (xhts C) (xgV (maxL := 0) (cc := ⟨#[]⟩) (ret := none) gw_195 gw_196 gw_197 gw_62 gc_Jx4a65c_size_8abf5) rfl rfl rfl (by decide +kernel) ⟨(Nat.le_of_ble_eq_true rfl), (Nat.le_of_ble_eq_true rfl)⟩) (xPV C w [0] rfl (by decide) (ci := 3) (q0 := 0) rfl rfl) rfl rfl hl.1 rfl (lv_room (Nat.le_of_ble_eq_true rfl)) dX6_nearIn_8 ⟨(Nat.le_of_ble_eq_true rfl), (Nat.le_of_ble_eq_true rfl)⟩) (fun f954 H locs w => ?_)
  have w : xW G A s [(h0, .inr (3, [.int 0, .ref (sv 0), .int 0]))] H _ := w
  refine lv_icmp_ge (tgt := 145) C.1 C.2.1 dX6_nearIn_11 (by decide) (fun _ => ?_) (fun c9 => absurd (by decide) c9)
  refine lv_aload_nN C.1 C.2.1 dX6_nearIn_145 rfl (lv_at hl 1 rfl) ?_
  exact x_nret C w hr (Or.inr ⟨_, rfl⟩) (fun _ => 0) rfl dX6_nearIn_146 (Nat.le_of_ble_eq_true rfl) (Nat.le_of_ble_eq_true rfl)
set_option maxHeartbeats 4000000 in
set_option maxRecDepth 100000 in
theorem c149_X6_fails (l : Launch) (G : va_G) (cy : Nat → ClassId) (sa : String → Nat → Nat) (sv : Nat → Nat) (h0 h1 h2 h3 h4 h5 h6 h7 : Nat) : xM l G cy sa sv yX6_fails (Cond.code yX6_fails cX6_fails 3 (some .boolean) :: XG) { frames := 8, cells := 0, slots := 0, locals := 250 } [.ref h0, .int 1, .int 2] [(h0, .inr (10, [.ref h1, .ref h2, .ref h3, .ref h4, .ref h5, .ref h6, .ref h7, .int 0, .int 0]))] (xQi G (fun f => [(h0, .inr (10, [.ref h1, .ref h2, .ref h3, .ref h4, .ref h5, .ref h6, .ref h7, .int 0, .int 2]))]) 1) := by
  refine xof (by decide) (Nat.le_of_ble_eq_true rfl) (fun p e s m below meth c A C w hr hn ls hl => ?_)
  have hl : lv_has ls 3 [(0, .ref h0), (1, .int 1), (2, .int 2)] := hl
  refine lv_iload_n C.1 C.2.1 dX6_fails_0 rfl (lv_at hl 1 rfl) ?_
  refine lv_if_eq (tgt := 9) C.1 C.2.1 dX6_fails_1 (by decide) (fun c9 => absurd c9 (by decide)) (fun _ => ?_)
  refine lv_aload_n C.1 C.2.1 dX6_fails_4 rfl (lv_at hl 0 rfl) ?_
  refine lv_iload_n C.1 C.2.1 dX6_fails_5 rfl (lv_at hl 2 rfl) ?_
  refine x_put (ty := .int) (ty0 := tyX6) C w 0 10 8 (xin_X6 _) tyX6_ok nmX6 rfl rfl (by decide) (List.mem_cons_of_mem _ gw_112) rfl rfl (by decide +kernel) rfl rfl (Nat.le_of_ble_eq_true rfl) dX6_fails_6 (fun H locs w => ?_)
  have w : xW G A s [(h0, .inr (10, [.ref h1, .ref h2, .ref h3, .ref h4, .ref h5, .ref h6, .ref h7, .int 0, .int 2]))] H _ := w
  refine lv_iload_n C.1 C.2.1 dX6_fails_9 rfl (lv_at hl 1 rfl) ?_
  exact x_zret C w hr rfl (fun _ => 0) rfl rfl dX6_fails_10 (Nat.le_of_ble_eq_true rfl) (Nat.le_of_ble_eq_true rfl)
set_option maxHeartbeats 4000000 in
set_option maxRecDepth 100000 in
theorem c150_X6_near (l : Launch) (G : va_G) (cy : Nat → ClassId) (sa : String → Nat → Nat) (sv : Nat → Nat) (h0 h1 h2 h3 h4 h5 h6 h7 : Nat) (v0 : Int32) : xM l G cy sa sv yX6_near (Cond.code yX6_near cX6_near 3 (some .int) :: XG) { frames := 10, cells := 0, slots := 0, locals := 296 } [.ref h0, .int v0, .int 0] [(h0, .inr (10, [.ref h1, .ref h2, .ref h3, .ref h4, .ref h5, .ref h6, .ref h7, .int 0, .int 0])), (h1, .inr (3, [.int 0, .ref (sv 0), .int 0]))] (xQi G (fun f => [(h0, .inr (10, [.ref h1, .ref h2, .ref h3, .ref h4, .ref h5, .ref h6, .ref h7, .int 0, .int 2])), (h1, .inr (3, [.int 0, .ref (sv 0), .int 0]))]) 0) := by
  refine xof (by decide) (Nat.le_of_ble_eq_true rfl) (fun p e s m below meth c A C w hr hn ls hl => ?_)
  have hl : lv_has ls 3 [(0, .ref h0), (1, .int v0), (2, .int 0)] := hl
  refine lv_aload_n C.1 C.2.1 dX6_near_0 rfl (lv_at hl 0 rfl) ?_
  refine lv_iload_n C.1 C.2.1 dX6_near_1 rfl (lv_at hl 2 rfl) ?_
  refine x_ki C w [] [0, 1] rfl rfl (by decide) (by decide) (va_runS (As := [.int 0]) (rest := [.ref h0]) (xfix C) (c147_X6_isNoHow l G cy sa sv (xtr C) _) (va_cwS 1 (xhts C) (xgS gw_439 gw_440 gw_58 gc_X6_isNoHow) rfl rfl rfl (by decide +kernel) ⟨(Nat.le_of_ble_eq_true rfl), (Nat.le_of_ble_eq_true rfl)⟩) (xPS C w [] rfl (by decide)) rfl rfl hl.1 rfl (lv_room (Nat.le_of_ble_eq_true rfl)) dX6_near_2 ⟨(Nat.le_of_ble_eq_true rfl), (Nat.le_of_ble_eq_true rfl)⟩) (fun f952 H locs w => ?_)
  have w : xW G A s [(h0, .inr (10, [.ref h1, .ref h2, .ref h3, .ref h4, .ref h5, .ref h6, .ref h7, .int 0, .int 0])), (h1, .inr (3, [.int 0, .ref (sv 0), .int 0]))] H _ := w
  refine lv_iconst (v := 1) C.1 C.2.1 dX6_near_5 (by decide) ?_
  refine x_ki C w [0] [1] rfl rfl (by decide) (by decide) (va_runV (As := [.int 0, .int 1]) (rest := []) (xfix C) (c46_X6_start l G cy sa sv h0 h1 h2 h3 h4 h5 h6 h7 (xtr C) _) (cwV 2 (xhts C) (xgV (maxL := 0) (cc := ⟨#[]⟩) (ret := none) gw_114 gw_115 gw_116 gw_58 gc_X6_start) rfl rfl rfl (by decide +kernel) ⟨(Nat.le_of_ble_eq_true rfl), (Nat.le_of_ble_eq_true rfl)⟩) (xPV C w [0] rfl (by decide) (ci := 10) (q0 := 0) rfl rfl) rfl rfl hl.1 rfl (lv_room (Nat.le_of_ble_eq_true rfl)) dX6_near_6 ⟨(Nat.le_of_ble_eq_true rfl), (Nat.le_of_ble_eq_true rfl)⟩) (fun f953 H locs w => ?_)
  have w : xW G A s [(h1, .inr (3, [.int 0, .ref (sv 0), .int 0])), (h0, .inr (10, [.ref h1, .ref h2, .ref h3, .ref h4, .ref h5, .ref h6, .ref h7, .int 0, .int 0]))] H _ := w
  refine lv_if_ne (tgt := 37) C.1 C.2.1 dX6_near_9 (by decide) (fun c9 => absurd (by decide) c9) (fun _ => ?_)
  refine lv_aload_n C.1 C.2.1 dX6_near_12 rfl (lv_at hl 0 rfl) ?_
  refine lv_aload_n C.1 C.2.1 dX6_near_13 rfl (lv_at hl 0 rfl) ?_
  refine x_get (v := .ref h1) C w 1 10 0 (xin_X6 _) rfl rfl (by decide) (List.mem_cons_of_mem _ gw_78) rfl rfl dX6_near_14 ?_
  refine lv_iload_n C.1 C.2.1 dX6_near_17 rfl (lv_at hl 1 rfl) ?_
  refine lv_iload_n C.1 C.2.1 dX6_near_18 rfl (lv_at hl 2 rfl) ?_
  refine x_kn C w [0] [1] rfl rfl (by decide) (by decide) (va_runS (As := [.ref h1, .int v0, .int 0]) (rest := [.ref h0]) (xfix C) (c148_X6_nearIn l G cy sa sv h1 v0 (xtr C) _) (va_cwS 3 (xhts C) (xgS gw_442 gw_443 gw_58 gc_X6_nearIn) rfl rfl rfl (by decide +kernel) ⟨(Nat.le_of_ble_eq_true rfl), (Nat.le_of_ble_eq_true rfl)⟩) (xPS C w [0] rfl (by decide)) rfl rfl hl.1 rfl (lv_room (Nat.le_of_ble_eq_true rfl)) dX6_near_19 ⟨(Nat.le_of_ble_eq_true rfl), (Nat.le_of_ble_eq_true rfl)⟩) (fun f955 H locs w => ?_)
  have w : xW G A s [(h0, .inr (10, [.ref h1, .ref h2, .ref h3, .ref h4, .ref h5, .ref h6, .ref h7, .int 0, .int 0])), (h1, .inr (3, [.int 0, .ref (sv 0), .int 0]))] H _ := w
  refine lv_ifnonnullN C.1 C.2.1 dX6_near_22 ?_
  refine lv_iconst (v := 1) C.1 C.2.1 dX6_near_25 (by decide) ?_
  refine lv_goto (tgt := 30) C.1 C.2.1 dX6_near_26 (by decide) ?_
  refine lv_iconst (v := 2) C.1 C.2.1 dX6_near_30 (by decide) ?_
  refine x_ki C w [0] [1] rfl rfl (by decide) (by decide) (va_runV (As := [.int 1, .int 2]) (rest := []) (xfix C) (c149_X6_fails l G cy sa sv h0 h1 h2 h3 h4 h5 h6 h7 (xtr C) _) (cwV 2 (xhts C) (xgV (maxL := 0) (cc := ⟨#[]⟩) (ret := none) gw_203 gw_204 gw_205 gw_58 gc_X6_fails) rfl rfl rfl (by decide +kernel) ⟨(Nat.le_of_ble_eq_true rfl), (Nat.le_of_ble_eq_true rfl)⟩) (xPV C w [0] rfl (by decide) (ci := 10) (q0 := 0) rfl rfl) rfl rfl hl.1 rfl (lv_room (Nat.le_of_ble_eq_true rfl)) dX6_near_31 ⟨(Nat.le_of_ble_eq_true rfl), (Nat.le_of_ble_eq_true rfl)⟩) (fun f956 H locs w => ?_)
  have w : xW G A s [(h1, .inr (3, [.int 0, .ref (sv 0), .int 0])), (h0, .inr (10, [.ref h1, .ref h2, .ref h3, .ref h4, .ref h5, .ref h6, .ref h7, .int 0, .int 2]))] H _ := w
  refine lv_if_eq (tgt := 41) C.1 C.2.1 dX6_near_34 (by decide) (fun c9 => absurd c9 (by decide)) (fun _ => ?_)
  refine lv_iconst (v := 0) C.1 C.2.1 dX6_near_37 (by decide) ?_
  refine lv_goto (tgt := 52) C.1 C.2.1 dX6_near_38 (by decide) ?_
  have w := w.sub (ws' := [(h0, .inr (10, [.ref h1, .ref h2, .ref h3, .ref h4, .ref h5, .ref h6, .ref h7, .int 0, .int 2])), (h1, .inr (3, [.int 0, .ref (sv 0), .int 0]))]) [1, 0] (by decide) rfl rfl
  exact x_iret C w hr (fun _ => 0) rfl rfl dX6_near_52 (Nat.le_of_ble_eq_true rfl) (Nat.le_of_ble_eq_true rfl)
set_option maxHeartbeats 4000000 in
set_option maxRecDepth 100000 in
theorem c151_X6_thrown (l : Launch) (G : va_G) (cy : Nat → ClassId) (sa : String → Nat → Nat) (sv : Nat → Nat) (h0 h1 h2 h3 h4 h5 h6 h7 : Nat) : xM l G cy sa sv yX6_thrown (Cond.code yX6_thrown cX6_thrown 1 (some .int) :: XG) { frames := 8, cells := 0, slots := 0, locals := 250 } [.ref h0] [(h0, .inr (10, [.ref h1, .ref h2, .ref h3, .ref h4, .ref h5, .ref h6, .ref h7, .int 0, .int 2]))] (xQi G (fun f => [(h0, .inr (10, [.ref h1, .ref h2, .ref h3, .ref h4, .ref h5, .ref h6, .ref h7, .int 0, .int 2]))]) 2) := by
  refine xof (by decide) (Nat.le_of_ble_eq_true rfl) (fun p e s m below meth c A C w hr hn ls hl => ?_)
  have hl : lv_has ls 1 [(0, .ref h0)] := hl
  refine lv_aload_n C.1 C.2.1 dX6_thrown_0 rfl (lv_at hl 0 rfl) ?_
  refine x_get (v := .int 2) C w 0 10 8 (xin_X6 _) rfl rfl (by decide) (List.mem_cons_of_mem _ gw_112) rfl rfl dX6_thrown_1 ?_
  exact x_iret C w hr (fun _ => 0) rfl rfl dX6_thrown_4 (Nat.le_of_ble_eq_true rfl) (Nat.le_of_ble_eq_true rfl)
set_option maxHeartbeats 4000000 in
set_option maxRecDepth 100000 in
theorem c152_X4_checkHow (l : Launch) (G : va_G) (cy : Nat → ClassId) (sa : String → Nat → Nat) (sv : Nat → Nat) : xM l G cy sa sv yX4_checkHow (Cond.code yX4_checkHow cX4_checkHow 1 none :: XG) { frames := 8, cells := 0, slots := 0, locals := 250 } [.int 1] [] (xQv G (fun f => [])) := by
  refine xof (by decide) (Nat.le_of_ble_eq_true rfl) (fun p e s m below meth c A C w hr hn ls hl => ?_)
  have hl : lv_has ls 1 [(0, .int 1)] := hl
  refine lv_iload_n C.1 C.2.1 dX4_checkHow_0 rfl (lv_at hl 0 rfl) ?_
  refine lv_if_lt (tgt := 9) C.1 C.2.1 dX4_checkHow_1 (by decide) (fun c9 => absurd c9 (by decide)) (fun _ => ?_)
  refine lv_iload_n C.1 C.2.1 dX4_checkHow_4 rfl (lv_at hl 0 rfl) ?_
  refine lv_iconst (v := 3) C.1 C.2.1 dX4_checkHow_5 (by decide) ?_
  refine lv_icmp_le (tgt := 20) C.1 C.2.1 dX4_checkHow_6 (by decide) (fun _ => ?_) (fun c9 => absurd (by decide) c9)
  exact x_vret C w hr (fun _ => 0) rfl dX4_checkHow_20 (Nat.le_of_ble_eq_true rfl) (Nat.le_of_ble_eq_true rfl)
set_option maxHeartbeats 4000000 in
set_option maxRecDepth 100000 in
theorem c153_X3_countNotAbove (l : Launch) (G : va_G) (cy : Nat → ClassId) (sa : String → Nat → Nat) (sv : Nat → Nat) (h0 h1 h2 h3 : Nat) (v0 : Int32) : xM l G cy sa sv yX3_countNotAbove (Cond.code yX3_countNotAbove cX3_countNotAbove 2 (some .int) :: XG) { frames := 10, cells := 0, slots := 0, locals := 293 } [.ref h0, .int v0] [(h0, .inr (7, [.ref h1, .ref h2])), (h1, .inr (6, [.ref h3, .int 0]))] (xQi G (fun f => [(h0, .inr (7, [.ref h1, .ref h2])), (h1, .inr (6, [.ref h3, .int 0]))]) 0) := by
  refine xof (by decide) (Nat.le_of_ble_eq_true rfl) (fun p e s m below meth c A C w hr hn ls hl => ?_)
  have hl : lv_has ls 2 [(0, .ref h0), (1, .int v0)] := hl
  refine lv_aload_n C.1 C.2.1 dX3_countNotAbove_0 rfl (lv_at hl 0 rfl) ?_
  refine lv_iload_n C.1 C.2.1 dX3_countNotAbove_1 rfl (lv_at hl 1 rfl) ?_
  refine x_ki C w [0, 1] [] rfl rfl (by decide) (by decide) (va_runV (As := [.int v0]) (rest := []) (xfix C) (c32_X3_holds l G cy sa sv h0 h1 h2 h3 v0 (xtr C) _) (cwV 1 (xhts C) (xgV (maxL := 0) (cc := ⟨#[]⟩) (ret := none) gw_162 gw_163 gw_164 gw_7 gc_X3_holds) rfl rfl rfl (by decide +kernel) ⟨(Nat.le_of_ble_eq_true rfl), (Nat.le_of_ble_eq_true rfl)⟩) (xPV C w [0, 1] rfl (by decide) (ci := 7) (q0 := 0) rfl rfl) rfl rfl hl.1 rfl (lv_room (Nat.le_of_ble_eq_true rfl)) dX3_countNotAbove_2 ⟨(Nat.le_of_ble_eq_true rfl), (Nat.le_of_ble_eq_true rfl)⟩) (fun f972 H locs w => ?_)
  have w : xW G A s [(h0, .inr (7, [.ref h1, .ref h2])), (h1, .inr (6, [.ref h3, .int 0]))] H _ := w
  refine lv_if_eq (tgt := 18) C.1 C.2.1 dX3_countNotAbove_5 (by decide) (fun _ => ?_) (fun c9 => absurd (by decide) c9)
  refine lv_aload_n C.1 C.2.1 dX3_countNotAbove_18 rfl (lv_at hl 0 rfl) ?_
  refine lv_iload_n C.1 C.2.1 dX3_countNotAbove_19 rfl (lv_at hl 1 rfl) ?_
  refine x_ki C w [0, 1] [] rfl rfl (by decide) (by decide) (va_runV (As := [.int v0]) (rest := []) (xfix C) (c31_X3_countBelow l G cy sa sv h0 h1 h2 h3 v0 (xtr C) _) (cwV 1 (xhts C) (xgV (maxL := 0) (cc := ⟨#[]⟩) (ret := none) gw_158 gw_159 gw_160 gw_7 gc_X3_countBelow) rfl rfl rfl (by decide +kernel) ⟨(Nat.le_of_ble_eq_true rfl), (Nat.le_of_ble_eq_true rfl)⟩) (xPV C w [0, 1] rfl (by decide) (ci := 7) (q0 := 0) rfl rfl) rfl rfl hl.1 rfl (lv_room (Nat.le_of_ble_eq_true rfl)) dX3_countNotAbove_20 ⟨(Nat.le_of_ble_eq_true rfl), (Nat.le_of_ble_eq_true rfl)⟩) (fun f974 H locs w => ?_)
  have w : xW G A s [(h0, .inr (7, [.ref h1, .ref h2])), (h1, .inr (6, [.ref h3, .int 0]))] H _ := w
  exact x_iret C w hr (fun _ => 0) rfl rfl dX3_countNotAbove_23 (Nat.le_of_ble_eq_true rfl) (Nat.le_of_ble_eq_true rfl)
set_option maxHeartbeats 4000000 in
set_option maxRecDepth 100000 in
theorem c154_X3_placeNear (l : Launch) (G : va_G) (cy : Nat → ClassId) (sa : String → Nat → Nat) (sv : Nat → Nat) (h0 h1 h2 h3 : Nat) (v0 : Int32) : xM l G cy sa sv yX3_placeNear (Cond.code yX3_placeNear cX3_placeNear 8 (some .int) :: XG) { frames := 11, cells := 0, slots := 0, locals := 314 } [.ref h0, .int (-2147483648), .int 2147483647, .int v0, .int 1] [(h0, .inr (7, [.ref h1, .ref h2])), (h1, .inr (6, [.ref h3, .int 0]))] (xQi G (fun f => [(h0, .inr (7, [.ref h1, .ref h2])), (h1, .inr (6, [.ref h3, .int 0]))]) (-1)) := by
  refine xof (by decide) (Nat.le_of_ble_eq_true rfl) (fun p e s m below meth c A C w hr hn ls hl => ?_)
  have hl : lv_has ls 8 [(0, .ref h0), (1, .int (-2147483648)), (2, .int 2147483647), (3, .int v0), (4, .int 1)] := hl
  refine lv_aload_n C.1 C.2.1 dX3_placeNear_0 rfl (lv_at hl 0 rfl) ?_
  refine lv_iload_n C.1 C.2.1 dX3_placeNear_1 rfl (lv_at hl 1 rfl) ?_
  refine x_ki C w [0, 1] [] rfl rfl (by decide) (by decide) (va_runV (As := [.int (-2147483648)]) (rest := []) (xfix C) (c110_X3_countBelow l G cy sa sv h0 h1 h2 h3 (xtr C) _) (cwV 1 (xhts C) (xgV (maxL := 0) (cc := ⟨#[]⟩) (ret := none) gw_158 gw_159 gw_160 gw_7 gc_X3_countBelow) rfl rfl rfl (by decide +kernel) ⟨(Nat.le_of_ble_eq_true rfl), (Nat.le_of_ble_eq_true rfl)⟩) (xPV C w [0, 1] rfl (by decide) (ci := 7) (q0 := 0) rfl rfl) rfl rfl hl.1 rfl (lv_room (Nat.le_of_ble_eq_true rfl)) dX3_placeNear_2 ⟨(Nat.le_of_ble_eq_true rfl), (Nat.le_of_ble_eq_true rfl)⟩) (fun f965 H locs w => ?_)
  have w : xW G A s [(h0, .inr (7, [.ref h1, .ref h2])), (h1, .inr (6, [.ref h3, .int 0]))] H _ := w
  refine lv_istore (lv' := [(5, .int 0), (0, .ref h0), (1, .int (-2147483648)), (2, .int 2147483647), (3, .int v0), (4, .int 1)]) C.1 C.2.1 dX3_placeNear_5 hl (by decide) rfl (fun ls hl => ?_)
  refine lv_aload_n C.1 C.2.1 dX3_placeNear_7 rfl (lv_at hl 1 rfl) ?_
  refine lv_iload_n C.1 C.2.1 dX3_placeNear_8 rfl (lv_at hl 3 rfl) ?_
  refine x_ki C w [0, 1] [] rfl rfl (by decide) (by decide) (va_runV (As := [.int 2147483647]) (rest := []) (xfix C) (c108_X3_countNotAbove l G cy sa sv h0 h1 h2 h3 (xtr C) _) (cwV 1 (xhts C) (xgV (maxL := 0) (cc := ⟨#[]⟩) (ret := none) gw_392 gw_309 gw_310 gw_7 gc_X3_countNotAbove) rfl rfl rfl (by decide +kernel) ⟨(Nat.le_of_ble_eq_true rfl), (Nat.le_of_ble_eq_true rfl)⟩) (xPV C w [0, 1] rfl (by decide) (ci := 7) (q0 := 0) rfl rfl) rfl rfl hl.1 rfl (lv_room (Nat.le_of_ble_eq_true rfl)) dX3_placeNear_9 ⟨(Nat.le_of_ble_eq_true rfl), (Nat.le_of_ble_eq_true rfl)⟩) (fun f970 H locs w => ?_)
  have w : xW G A s [(h0, .inr (7, [.ref h1, .ref h2])), (h1, .inr (6, [.ref h3, .int 0]))] H _ := w
  refine lv_iconst (v := 1) C.1 C.2.1 dX3_placeNear_12 (by decide) ?_
  refine lv_isub C.1 C.2.1 dX3_placeNear_13 ?_
  refine x_is (y := (-1)) (by decide) ?_
  refine lv_istore (lv' := [(6, .int (-1)), (5, .int 0), (0, .ref h0), (1, .int (-2147483648)), (2, .int 2147483647), (3, .int v0), (4, .int 1)]) C.1 C.2.1 dX3_placeNear_14 hl (by decide) rfl (fun ls hl => ?_)
  refine lv_iload C.1 C.2.1 dX3_placeNear_16 (lv_at hl 6 rfl) ?_
  refine lv_tableIn (off := 43) (tgt := 61) C.1 C.2.1 dX3_placeNear_18 (by decide) (by decide) (by decide) (by decide) ?_
  refine lv_aload_n C.1 C.2.1 dX3_placeNear_61 rfl (lv_at hl 2 rfl) ?_
  refine lv_iload_n C.1 C.2.1 dX3_placeNear_62 rfl (lv_at hl 5 rfl) ?_
  refine x_ki C w [0, 1] [] rfl rfl (by decide) (by decide) (va_runV (As := [.int v0]) (rest := []) (xfix C) (c153_X3_countNotAbove l G cy sa sv h0 h1 h2 h3 v0 (xtr C) _) (cwV 1 (xhts C) (xgV (maxL := 0) (cc := ⟨#[]⟩) (ret := none) gw_392 gw_309 gw_310 gw_7 gc_X3_countNotAbove) rfl rfl rfl (by decide +kernel) ⟨(Nat.le_of_ble_eq_true rfl), (Nat.le_of_ble_eq_true rfl)⟩) (xPV C w [0, 1] rfl (by decide) (ci := 7) (q0 := 0) rfl rfl) rfl rfl hl.1 rfl (lv_room (Nat.le_of_ble_eq_true rfl)) dX3_placeNear_63 ⟨(Nat.le_of_ble_eq_true rfl), (Nat.le_of_ble_eq_true rfl)⟩) (fun f975 H locs w => ?_)
  have w : xW G A s [(h0, .inr (7, [.ref h1, .ref h2])), (h1, .inr (6, [.ref h3, .int 0]))] H _ := w
  refine lv_iconst (v := 1) C.1 C.2.1 dX3_placeNear_66 (by decide) ?_
  refine lv_isub C.1 C.2.1 dX3_placeNear_67 ?_
  refine x_is (y := (-1)) (by decide) ?_
  refine lv_iload C.1 C.2.1 dX3_placeNear_68 (lv_at hl 0 rfl) ?_
  refine va_mmin C.1 C.2.1 (C.2.2.1.trans hl.1.symm) (xown C) (xhts C _ (List.mem_cons_of_mem _ gw_419)) (xhts C _ (List.mem_cons_of_mem _ gw_420)) (xhts C _ (List.mem_cons_of_mem _ gw_217)) (xhts C _ (List.mem_cons_of_mem _ gm_min)) (Nat.le_of_ble_eq_true rfl) (Nat.le_of_ble_eq_true rfl) (Nat.le_of_ble_eq_true rfl) (Nat.le_of_ble_eq_true rfl) dX3_placeNear_70 ?_
  refine x_is (y := (-1)) (if_neg (by decide)) ?_
  refine lv_istore (lv' := [(7, .int (-1)), (6, .int (-1)), (5, .int 0), (0, .ref h0), (1, .int (-2147483648)), (2, .int 2147483647), (3, .int v0), (4, .int 1)]) C.1 C.2.1 dX3_placeNear_73 hl (by decide) rfl (fun ls hl => ?_)
  refine lv_goto (tgt := 105) C.1 C.2.1 dX3_placeNear_75 (by decide) ?_
  refine lv_iload C.1 C.2.1 dX3_placeNear_105 (lv_at hl 2 rfl) ?_
  refine lv_iload C.1 C.2.1 dX3_placeNear_107 (lv_at hl 1 rfl) ?_
  refine lv_iload C.1 C.2.1 dX3_placeNear_109 (lv_at hl 0 rfl) ?_
  refine x_ki C w [] [0, 1] rfl rfl (by decide) (by decide) (va_runSN (As := [.int 0, .int (-1), .int (-1)]) (rest := []) (xfix C) (c142_X4_isBetween l G cy sa sv (xtr C) _) ⟨(va_cnB 3 (xhts C) (xgI gc_X4_isBetween) rfl rfl rfl (xs_mB (xS C)) (xhts C _ (List.mem_cons_of_mem _ gw_2)) (by decide +kernel) ⟨(Nat.le_of_ble_eq_true rfl), (Nat.le_of_ble_eq_true rfl)⟩), xhts C _ (List.mem_cons_of_mem _ gw_422), trivial⟩ (xPS C w [] rfl (by decide)) rfl rfl hl.1 rfl (lv_room (Nat.le_of_ble_eq_true rfl)) dX3_placeNear_111 ⟨(Nat.le_of_ble_eq_true rfl), (Nat.le_of_ble_eq_true rfl)⟩) (fun f976 H locs w => ?_)
  have w : xW G A s [(h0, .inr (7, [.ref h1, .ref h2])), (h1, .inr (6, [.ref h3, .int 0]))] H _ := w
  refine lv_if_eq (tgt := 122) C.1 C.2.1 dX3_placeNear_114 (by decide) (fun _ => ?_) (fun c9 => absurd (by decide) c9)
  refine lv_iconst (v := (-1)) C.1 C.2.1 dX3_placeNear_122 (by decide) ?_
  exact x_iret C w hr (fun _ => 0) rfl rfl dX3_placeNear_123 (Nat.le_of_ble_eq_true rfl) (Nat.le_of_ble_eq_true rfl)
set_option maxHeartbeats 4000000 in
set_option maxRecDepth 100000 in
theorem c155_X4_rangeNear (l : Launch) (G : va_G) (cy : Nat → ClassId) (sa : String → Nat → Nat) (sv : Nat → Nat) (h0 h1 h2 h3 h4 h5 h6 h7 h8 h9 h10 : Nat) (v0 : Int32) : xX l G cy sa sv yX4_rangeNear (Cond.code yX4_rangeNear cX4_rangeNear 6 (some .int) :: XG) { frames := 12, cells := 1, slots := 6, locals := 341 } [.ref h0, .int (-2147483648), .int 2147483647, .int v0, .int 1] [(h0, .inr (8, [.ref h1, .ref h3, .ref h4, .ref h5, .ref h6, .int 0, .ref h7, .ref h8])), (h1, .inr (7, [.ref h2, .ref h9])), (h2, .inr (6, [.ref h10, .int 0]))] (fun f => [(h0, .inr (8, [.ref h1, .ref h3, .ref h4, .ref h5, .ref h6, .int 0, .ref h7, .ref h8])), (h1, .inr (7, [.ref h2, .ref h9])), (h2, .inr (6, [.ref h10, .int 0]))]) "java/lang/IllegalStateException" := by
  refine xofX (by decide) (Nat.le_of_ble_eq_true rfl) (fun p e s m below meth c A C w hno ls hl => ?_)
  have hl : lv_has ls 6 [(0, .ref h0), (1, .int (-2147483648)), (2, .int 2147483647), (3, .int v0), (4, .int 1)] := hl
  refine lv_iload_n C.1 C.2.1 dX4_rangeNear_0 rfl (lv_at hl 1 rfl) ?_
  refine lv_iload_n C.1 C.2.1 dX4_rangeNear_1 rfl (lv_at hl 2 rfl) ?_
  refine x_kv C w [] [0, 1, 2] rfl rfl (by decide) (by decide) (va_runS (As := [.int (-2147483648), .int 2147483647]) (rest := []) (xfix C) (c131_X4_checkRange l G cy sa sv (xtr C) _) (va_cwS 2 (xhts C) (xgS gw_390 gw_391 gw_2 gc_X4_checkRange) rfl rfl rfl (by decide +kernel) ⟨(Nat.le_of_ble_eq_true rfl), (Nat.le_of_ble_eq_true rfl)⟩) (xPS C w [] rfl (by decide)) rfl rfl hl.1 rfl (lv_room (Nat.le_of_ble_eq_true rfl)) dX4_rangeNear_2 ⟨(Nat.le_of_ble_eq_true rfl), (Nat.le_of_ble_eq_true rfl)⟩) (fun f962 H locs w => ?_)
  have w : xW G A s [(h0, .inr (8, [.ref h1, .ref h3, .ref h4, .ref h5, .ref h6, .int 0, .ref h7, .ref h8])), (h1, .inr (7, [.ref h2, .ref h9])), (h2, .inr (6, [.ref h10, .int 0]))] H _ := w
  refine lv_iload C.1 C.2.1 dX4_rangeNear_5 (lv_at hl 4 rfl) ?_
  refine x_kv C w [] [0, 1, 2] rfl rfl (by decide) (by decide) (va_runS (As := [.int 1]) (rest := []) (xfix C) (c152_X4_checkHow l G cy sa sv (xtr C) _) (va_cwS 1 (xhts C) (xgS gw_416 gw_417 gw_2 gc_X4_checkHow) rfl rfl rfl (by decide +kernel) ⟨(Nat.le_of_ble_eq_true rfl), (Nat.le_of_ble_eq_true rfl)⟩) (xPS C w [] rfl (by decide)) rfl rfl hl.1 rfl (lv_room (Nat.le_of_ble_eq_true rfl)) dX4_rangeNear_7 ⟨(Nat.le_of_ble_eq_true rfl), (Nat.le_of_ble_eq_true rfl)⟩) (fun f963 H locs w => ?_)
  have w : xW G A s [(h0, .inr (8, [.ref h1, .ref h3, .ref h4, .ref h5, .ref h6, .int 0, .ref h7, .ref h8])), (h1, .inr (7, [.ref h2, .ref h9])), (h2, .inr (6, [.ref h10, .int 0]))] H _ := w
  refine lv_aload_n C.1 C.2.1 dX4_rangeNear_10 rfl (lv_at hl 0 rfl) ?_
  refine x_get (v := .ref h1) C w 0 8 0 (xin_X4 _) rfl rfl (by decide) (List.mem_cons_of_mem _ gw_24) rfl rfl dX4_rangeNear_11 ?_
  refine lv_iload_n C.1 C.2.1 dX4_rangeNear_14 rfl (lv_at hl 1 rfl) ?_
  refine lv_iload_n C.1 C.2.1 dX4_rangeNear_15 rfl (lv_at hl 2 rfl) ?_
  refine lv_iload_n C.1 C.2.1 dX4_rangeNear_16 rfl (lv_at hl 3 rfl) ?_
  refine lv_iload C.1 C.2.1 dX4_rangeNear_17 (lv_at hl 4 rfl) ?_
  refine x_ki C w [1, 2] [0] rfl rfl (by decide) (by decide) (va_runV (As := [.int (-2147483648), .int 2147483647, .int v0, .int 1]) (rest := []) (xfix C) (c154_X3_placeNear l G cy sa sv h1 h2 h9 h10 v0 (xtr C) _) (cwV 4 (xhts C) (xgV (maxL := 0) (cc := ⟨#[]⟩) (ret := none) gw_424 gw_425 gw_426 gw_7 gc_X3_placeNear) rfl rfl rfl (by decide +kernel) ⟨(Nat.le_of_ble_eq_true rfl), (Nat.le_of_ble_eq_true rfl)⟩) (xPV C w [1, 2] rfl (by decide) (ci := 7) (q0 := 1) rfl rfl) rfl rfl hl.1 rfl (lv_room (Nat.le_of_ble_eq_true rfl)) dX4_rangeNear_19 ⟨(Nat.le_of_ble_eq_true rfl), (Nat.le_of_ble_eq_true rfl)⟩) (fun f977 H locs w => ?_)
  have w : xW G A s [(h0, .inr (8, [.ref h1, .ref h3, .ref h4, .ref h5, .ref h6, .int 0, .ref h7, .ref h8])), (h1, .inr (7, [.ref h2, .ref h9])), (h2, .inr (6, [.ref h10, .int 0]))] H _ := w
  refine lv_istore (lv' := [(5, .int (-1)), (0, .ref h0), (1, .int (-2147483648)), (2, .int 2147483647), (3, .int v0), (4, .int 1)]) C.1 C.2.1 dX4_rangeNear_22 hl (by decide) rfl (fun ls hl => ?_)
  refine lv_iload C.1 C.2.1 dX4_rangeNear_24 (lv_at hl 0 rfl) ?_
  refine lv_iconst (v := (-1)) C.1 C.2.1 dX4_rangeNear_26 (by decide) ?_
  refine lv_icmp_ne (tgt := 40) C.1 C.2.1 dX4_rangeNear_27 (by decide) (fun c9 => absurd (by decide) c9) (fun _ => ?_)
  exact x_thr C w hno hl.1 (by decide) (List.mem_cons_of_mem _ gw_397) (List.mem_cons_of_mem _ gw_398) (tx := "there is no such key") (List.mem_of_getElem? (i := 1) rfl) (xat_161 C (fun w h => List.mem_cons_of_mem _ h)) xatg_161 dX4_rangeNear_30 dX4_rangeNear_33 dX4_rangeNear_34 dX4_rangeNear_36 dX4_rangeNear_39 (Nat.le_of_ble_eq_true rfl) (Nat.le_of_ble_eq_true rfl) (Nat.le_of_ble_eq_true rfl) (Nat.le_of_ble_eq_true rfl) rfl rfl (fun _ => 0) rfl
set_option maxHeartbeats 4000000 in
set_option maxRecDepth 100000 in
theorem c156_X4_near (l : Launch) (G : va_G) (cy : Nat → ClassId) (sa : String → Nat → Nat) (sv : Nat → Nat) (h0 h1 h2 h3 h4 h5 h6 h7 h8 h9 h10 : Nat) (v0 : Int32) : xX l G cy sa sv yX4_near (Cond.code yX4_near cX4_near 3 (some .int) :: XG) { frames := 13, cells := 1, slots := 6, locals := 366 } [.ref h0, .int v0, .int 1] [(h0, .inr (8, [.ref h1, .ref h3, .ref h4, .ref h5, .ref h6, .int 0, .ref h7, .ref h8])), (h1, .inr (7, [.ref h2, .ref h9])), (h2, .inr (6, [.ref h10, .int 0]))] (fun f => [(h0, .inr (8, [.ref h1, .ref h3, .ref h4, .ref h5, .ref h6, .int 0, .ref h7, .ref h8])), (h1, .inr (7, [.ref h2, .ref h9])), (h2, .inr (6, [.ref h10, .int 0]))]) "java/lang/IllegalStateException" := by
  refine xofX (by decide) (Nat.le_of_ble_eq_true rfl) (fun p e s m below meth c A C w hno ls hl => ?_)
  have hl : lv_has ls 3 [(0, .ref h0), (1, .int v0), (2, .int 1)] := hl
  refine lv_aload_n C.1 C.2.1 dX4_near_0 rfl (lv_at hl 0 rfl) ?_
  refine x_ldc (v := (-2147483648)) C (List.mem_cons_of_mem _ gw_305) dX4_near_1 ?_
  refine x_ldc (v := 2147483647) C (List.mem_cons_of_mem _ gw_306) dX4_near_3 ?_
  refine lv_iload_n C.1 C.2.1 dX4_near_5 rfl (lv_at hl 1 rfl) ?_
  refine lv_iload_n C.1 C.2.1 dX4_near_6 rfl (lv_at hl 2 rfl) ?_
  refine x_kx C w [0, 1, 2] [] rfl rfl (by decide) (by decide) (vx_runV (As := [.int (-2147483648), .int 2147483647, .int v0, .int 1]) (rest := []) (xfix C) (c155_X4_rangeNear l G cy sa sv h0 h1 h2 h3 h4 h5 h6 h7 h8 h9 h10 v0 (xtr C) _) (cwV 4 (xhts C) (xgV (maxL := 0) (cc := ⟨#[]⟩) (ret := none) gw_428 gw_429 gw_430 gw_2 gc_X4_rangeNear) rfl rfl rfl (by decide +kernel) ⟨(Nat.le_of_ble_eq_true rfl), (Nat.le_of_ble_eq_true rfl)⟩) (xPV C w [0, 1, 2] rfl (by decide) (ci := 8) (q0 := 0) rfl rfl) rfl rfl hl.1 rfl (lv_room (Nat.le_of_ble_eq_true rfl)) dX4_near_7 ⟨(Nat.le_of_ble_eq_true rfl), (Nat.le_of_ble_eq_true rfl)⟩) (fun f978 H locs ce q9 w hce hcv hcl => ?_)
  have w : xW G A s [(h0, .inr (8, [.ref h1, .ref h3, .ref h4, .ref h5, .ref h6, .int 0, .ref h7, .ref h8])), (h1, .inr (7, [.ref h2, .ref h9])), (h2, .inr (6, [.ref h10, .int 0]))] H _ := w
  refine vx_widen (k := 1) (n := 6) (Nat.le_of_ble_eq_true rfl) (Nat.le_of_ble_eq_true rfl) ?_
  exact x_out C w hno (fun _ => 0) rfl hce hcv hcl (Nat.le_of_ble_eq_true rfl) (Nat.le_of_ble_eq_true rfl)
set_option maxHeartbeats 4000000 in
set_option maxRecDepth 100000 in
theorem c157_L_near (l : Launch) (G : va_G) (cy : Nat → ClassId) (sa : String → Nat → Nat) (sv : Nat → Nat) (h0 h1 h2 h3 h4 h5 h6 h7 h8 h9 h10 h11 : Nat) (v0 : Int32) : xM l G cy sa sv yL_near (Cond.codeWith yL_near cL_near 5 (some .int) [(0, 11, 14, 19), (0, 11, 18, 21)] :: XG) { frames := 14, cells := 1, slots := 6, locals := 388 } [.ref h0, .int v0, .int 1, .ref h1] [(h0, .inr (8, [.ref h2, .ref h4, .ref h5, .ref h6, .ref h7, .int 0, .ref h8, .ref h9])), (h2, .inr (7, [.ref h3, .ref h10])), (h3, .inr (6, [.ref h11, .int 0]))] (xQi G (fun f => [(h0, .inr (8, [.ref h2, .ref h4, .ref h5, .ref h6, .ref h7, .int 0, .ref h8, .ref h9])), (h2, .inr (7, [.ref h3, .ref h10])), (h3, .inr (6, [.ref h11, .int 0]))]) 2) := by
  refine xofH (by decide) (Nat.le_of_ble_eq_true rfl) (fun p e s m below meth c A C w hr hn hT ls hl => ?_)
  have hl : lv_has ls 5 [(0, .ref h0), (1, .int v0), (2, .int 1), (3, .ref h1)] := hl
  refine lv_aload_n C.1 C.2.1 dL_near_0 rfl (lv_at hl 3 rfl) ?_
  refine lv_aload_n C.1 C.2.1 dL_near_1 rfl (lv_at hl 0 rfl) ?_
  refine lv_iload_n C.1 C.2.1 dL_near_2 rfl (lv_at hl 1 rfl) ?_
  refine lv_iload_n C.1 C.2.1 dL_near_3 rfl (lv_at hl 2 rfl) ?_
  refine x_kx C w [0, 1, 2] [] rfl rfl (by decide) (by decide) (vx_runV (As := [.int v0, .int 1]) (rest := [.ref h1]) (xfix C) (c156_X4_near l G cy sa sv h0 h2 h3 h4 h5 h6 h7 h8 h9 h10 h11 v0 (xtr C) _) (cwV 2 (xhts C) (xgV (maxL := 0) (cc := ⟨#[]⟩) (ret := none) gw_432 gw_433 gw_434 gw_2 gc_X4_near) rfl rfl rfl (by decide +kernel) ⟨(Nat.le_of_ble_eq_true rfl), (Nat.le_of_ble_eq_true rfl)⟩) (xPV C w [0, 1, 2] rfl (by decide) (ci := 8) (q0 := 0) rfl rfl) rfl rfl hl.1 rfl (lv_room (Nat.le_of_ble_eq_true rfl)) dL_near_4 ⟨(Nat.le_of_ble_eq_true rfl), (Nat.le_of_ble_eq_true rfl)⟩) (fun f979 H locs ce q9 w hce hcv hcl => ?_)
  have w : xW G A s [(h0, .inr (8, [.ref h2, .ref h4, .ref h5, .ref h6, .ref h7, .int 0, .ref h8, .ref h9])), (h2, .inr (7, [.ref h3, .ref h10])), (h3, .inr (6, [.ref h11, .int 0]))] H _ := w
  refine vx_widen (k := 1) (n := 6) (Nat.le_of_ble_eq_true rfl) (Nat.le_of_ble_eq_true rfl) ?_
  refine vx_catch (xown C) [⟨0, 11, 14, 19⟩] ⟨0, 11, 18, 21⟩ [] hT (fun z hz => Or.inr (by cases List.mem_singleton.mp hz; exact ⟨by decide, "java/lang/IllegalArgumentException", xhts C _ (List.mem_cons_of_mem _ gw_104), xs_n1 (xS C)⟩)) (by decide) (by decide) (xhts C _ (List.mem_cons_of_mem _ gw_407)) (va_any rfl (xs_c2 (xS C))) hce hcv hcl ?_
  refine lv_astore (lv' := [(4, .ref q9), (0, .ref h0), (1, .int v0), (2, .int 1), (3, .ref h1)]) C.1 C.2.1 dL_near_18 hl (by decide) rfl (fun ls hl => ?_)
  refine lv_iconst (v := 2) C.1 C.2.1 dL_near_20 (by decide) ?_
  exact x_iret C w hr (fun _ => 0) rfl rfl dL_near_21 (Nat.le_of_ble_eq_true rfl) (Nat.le_of_ble_eq_true rfl)
set_option maxHeartbeats 4000000 in
set_option maxRecDepth 100000 in
theorem c158_X6_isNoHow (l : Launch) (G : va_G) (cy : Nat → ClassId) (sa : String → Nat → Nat) (sv : Nat → Nat) : xM l G cy sa sv yX6_isNoHow (Cond.code yX6_isNoHow cX6_isNoHow 1 (some .boolean) :: XG) { frames := 8, cells := 0, slots := 0, locals := 250 } [.int 1] [] (xQi G (fun f => []) 0) := by
  refine xof (by decide) (Nat.le_of_ble_eq_true rfl) (fun p e s m below meth c A C w hr hn ls hl => ?_)
  have hl : lv_has ls 1 [(0, .int 1)] := hl
  refine lv_iload_n C.1 C.2.1 dX6_isNoHow_0 rfl (lv_at hl 0 rfl) ?_
  refine lv_if_lt (tgt := 9) C.1 C.2.1 dX6_isNoHow_1 (by decide) (fun c9 => absurd c9 (by decide)) (fun _ => ?_)
  refine lv_iload_n C.1 C.2.1 dX6_isNoHow_4 rfl (lv_at hl 0 rfl) ?_
  refine lv_iconst (v := 3) C.1 C.2.1 dX6_isNoHow_5 (by decide) ?_
  refine lv_icmp_le (tgt := 13) C.1 C.2.1 dX6_isNoHow_6 (by decide) (fun _ => ?_) (fun c9 => absurd (by decide) c9)
  refine lv_iconst (v := 0) C.1 C.2.1 dX6_isNoHow_13 (by decide) ?_
  exact x_zret C w hr rfl (fun _ => 0) rfl rfl dX6_isNoHow_14 (Nat.le_of_ble_eq_true rfl) (Nat.le_of_ble_eq_true rfl)
set_option maxHeartbeats 4000000 in
set_option maxRecDepth 100000 in
theorem c159_X6_nearIn (l : Launch) (G : va_G) (cy : Nat → ClassId) (sa : String → Nat → Nat) (sv : Nat → Nat) (h0 : Nat) (v0 : Int32) : xM l G cy sa sv yX6_nearIn (Cond.code yX6_nearIn cX6_nearIn 7 (some (.array .int)) :: XG) { frames := 9, cells := 0, slots := 0, locals := 270 } [.ref h0, .int v0, .int 1] [(h0, .inr (3, [.int 0, .ref (sv 0), .int 0]))] (xQn G (fun f => [(h0, .inr (3, [.int 0, .ref (sv 0), .int 0]))])) := by
  refine xof (by decide) (Nat.le_of_ble_eq_true rfl) (fun p e s m below meth c A C w hr hn ls hl => ?_)
  have hl : lv_has ls 7 [(0, .ref h0), (1, .int v0), (2, .int 1)] := hl
  refine lv_null C.1 C.2.1 dX6_nearIn_0 ?_
  refine lv_astore_nN (lv' := [(3, .null), (0, .ref h0), (1, .int v0), (2, .int 1)]) C.1 C.2.1 dX6_nearIn_1 rfl hl (by decide) rfl (fun ls hl => ?_)
  refine lv_iconst (v := 0) C.1 C.2.1 dX6_nearIn_2 (by decide) ?_
  refine lv_istore (lv' := [(4, .int 0), (3, .null), (0, .ref h0), (1, .int v0), (2, .int 1)]) C.1 C.2.1 dX6_nearIn_3 hl (by decide) rfl (fun ls hl => ?_)
  refine lv_iload C.1 C.2.1 dX6_nearIn_5 (lv_at hl 0 rfl) ?_
  refine lv_aload_n C.1 C.2.1 dX6_nearIn_7 rfl (lv_at hl 2 rfl) ?_
  refine x_ki C w [0] [] rfl rfl (by decide) (by decide) (va_runV (As := []) (rest := [.int 0]) (xfix C) (c47_Jx4a65c_size_8abf5 l G cy sa sv h0 (xtr C) _) (cwV 0 (xhts C) (xgV (maxL := 0) (cc := ⟨#[]⟩) (ret := none) gw_195 gw_196 gw_197 gw_62 gc_Jx4a65c_size_8abf5) rfl rfl rfl (by decide +kernel) ⟨(Nat.le_of_ble_eq_true rfl), (Nat.le_of_ble_eq_true rfl)⟩) (xPV C w [0] rfl (by decide) (ci := 3) (q0 := 0) rfl rfl) rfl rfl hl.1 rfl (lv_room (Nat.le_of_ble_eq_true rfl)) dX6_nearIn_8 ⟨(Nat.le_of_ble_eq_true rfl), (Nat.le_of_ble_eq_true rfl)⟩) (fun f984 H locs w => ?_)
  have w : xW G A s [(h0, .inr (3, [.int 0, .ref (sv 0), .int 0]))] H _ := w
  refine lv_icmp_ge (tgt := 145) C.1 C.2.1 dX6_nearIn_11 (by decide) (fun _ => ?_) (fun c9 => absurd (by decide) c9)
  refine lv_aload_nN C.1 C.2.1 dX6_nearIn_145 rfl (lv_at hl 1 rfl) ?_
  exact x_nret C w hr (Or.inr ⟨_, rfl⟩) (fun _ => 0) rfl dX6_nearIn_146 (Nat.le_of_ble_eq_true rfl) (Nat.le_of_ble_eq_true rfl)
set_option maxHeartbeats 4000000 in
set_option maxRecDepth 100000 in
theorem c160_X6_near (l : Launch) (G : va_G) (cy : Nat → ClassId) (sa : String → Nat → Nat) (sv : Nat → Nat) (h0 h1 h2 h3 h4 h5 h6 h7 : Nat) (v0 : Int32) : xM l G cy sa sv yX6_near (Cond.code yX6_near cX6_near 3 (some .int) :: XG) { frames := 10, cells := 0, slots := 0, locals := 296 } [.ref h0, .int v0, .int 1] [(h0, .inr (10, [.ref h1, .ref h2, .ref h3, .ref h4, .ref h5, .ref h6, .ref h7, .int 0, .int 0])), (h1, .inr (3, [.int 0, .ref (sv 0), .int 0]))] (xQi G (fun f => [(h0, .inr (10, [.ref h1, .ref h2, .ref h3, .ref h4, .ref h5, .ref h6, .ref h7, .int 0, .int 2])), (h1, .inr (3, [.int 0, .ref (sv 0), .int 0]))]) 0) := by
  refine xof (by decide) (Nat.le_of_ble_eq_true rfl) (fun p e s m below meth c A C w hr hn ls hl => ?_)
  have hl : lv_has ls 3 [(0, .ref h0), (1, .int v0), (2, .int 1)] := hl
  refine lv_aload_n C.1 C.2.1 dX6_near_0 rfl (lv_at hl 0 rfl) ?_
  refine lv_iload_n C.1 C.2.1 dX6_near_1 rfl (lv_at hl 2 rfl) ?_
  refine x_ki C w [] [0, 1] rfl rfl (by decide) (by decide) (va_runS (As := [.int 1]) (rest := [.ref h0]) (xfix C) (c158_X6_isNoHow l G cy sa sv (xtr C) _) (va_cwS 1 (xhts C) (xgS gw_439 gw_440 gw_58 gc_X6_isNoHow) rfl rfl rfl (by decide +kernel) ⟨(Nat.le_of_ble_eq_true rfl), (Nat.le_of_ble_eq_true rfl)⟩) (xPS C w [] rfl (by decide)) rfl rfl hl.1 rfl (lv_room (Nat.le_of_ble_eq_true rfl)) dX6_near_2 ⟨(Nat.le_of_ble_eq_true rfl), (Nat.le_of_ble_eq_true rfl)⟩) (fun f982 H locs w => ?_)
  have w : xW G A s [(h0, .inr (10, [.ref h1, .ref h2, .ref h3, .ref h4, .ref h5, .ref h6, .ref h7, .int 0, .int 0])), (h1, .inr (3, [.int 0, .ref (sv 0), .int 0]))] H _ := w
  refine lv_iconst (v := 1) C.1 C.2.1 dX6_near_5 (by decide) ?_
  refine x_ki C w [0] [1] rfl rfl (by decide) (by decide) (va_runV (As := [.int 0, .int 1]) (rest := []) (xfix C) (c46_X6_start l G cy sa sv h0 h1 h2 h3 h4 h5 h6 h7 (xtr C) _) (cwV 2 (xhts C) (xgV (maxL := 0) (cc := ⟨#[]⟩) (ret := none) gw_114 gw_115 gw_116 gw_58 gc_X6_start) rfl rfl rfl (by decide +kernel) ⟨(Nat.le_of_ble_eq_true rfl), (Nat.le_of_ble_eq_true rfl)⟩) (xPV C w [0] rfl (by decide) (ci := 10) (q0 := 0) rfl rfl) rfl rfl hl.1 rfl (lv_room (Nat.le_of_ble_eq_true rfl)) dX6_near_6 ⟨(Nat.le_of_ble_eq_true rfl), (Nat.le_of_ble_eq_true rfl)⟩) (fun f983 H locs w => ?_)
  have w : xW G A s [(h1, .inr (3, [.int 0, .ref (sv 0), .int 0])), (h0, .inr (10, [.ref h1, .ref h2, .ref h3, .ref h4, .ref h5, .ref h6, .ref h7, .int 0, .int 0]))] H _ := w
  refine lv_if_ne (tgt := 37) C.1 C.2.1 dX6_near_9 (by decide) (fun c9 => absurd (by decide) c9) (fun _ => ?_)
  refine lv_aload_n C.1 C.2.1 dX6_near_12 rfl (lv_at hl 0 rfl) ?_
  refine lv_aload_n C.1 C.2.1 dX6_near_13 rfl (lv_at hl 0 rfl) ?_
  refine x_get (v := .ref h1) C w 1 10 0 (xin_X6 _) rfl rfl (by decide) (List.mem_cons_of_mem _ gw_78) rfl rfl dX6_near_14 ?_
  refine lv_iload_n C.1 C.2.1 dX6_near_17 rfl (lv_at hl 1 rfl) ?_
  refine lv_iload_n C.1 C.2.1 dX6_near_18 rfl (lv_at hl 2 rfl) ?_
  refine x_kn C w [0] [1] rfl rfl (by decide) (by decide) (va_runS (As := [.ref h1, .int v0, .int 1]) (rest := [.ref h0]) (xfix C) (c159_X6_nearIn l G cy sa sv h1 v0 (xtr C) _) (va_cwS 3 (xhts C) (xgS gw_442 gw_443 gw_58 gc_X6_nearIn) rfl rfl rfl (by decide +kernel) ⟨(Nat.le_of_ble_eq_true rfl), (Nat.le_of_ble_eq_true rfl)⟩) (xPS C w [0] rfl (by decide)) rfl rfl hl.1 rfl (lv_room (Nat.le_of_ble_eq_true rfl)) dX6_near_19 ⟨(Nat.le_of_ble_eq_true rfl), (Nat.le_of_ble_eq_true rfl)⟩) (fun f985 H locs w => ?_)
  have w : xW G A s [(h0, .inr (10, [.ref h1, .ref h2, .ref h3, .ref h4, .ref h5, .ref h6, .ref h7, .int 0, .int 0])), (h1, .inr (3, [.int 0, .ref (sv 0), .int 0]))] H _ := w
  refine lv_ifnonnullN C.1 C.2.1 dX6_near_22 ?_
  refine lv_iconst (v := 1) C.1 C.2.1 dX6_near_25 (by decide) ?_
  refine lv_goto (tgt := 30) C.1 C.2.1 dX6_near_26 (by decide) ?_
  refine lv_iconst (v := 2) C.1 C.2.1 dX6_near_30 (by decide) ?_
  refine x_ki C w [0] [1] rfl rfl (by decide) (by decide) (va_runV (As := [.int 1, .int 2]) (rest := []) (xfix C) (c149_X6_fails l G cy sa sv h0 h1 h2 h3 h4 h5 h6 h7 (xtr C) _) (cwV 2 (xhts C) (xgV (maxL := 0) (cc := ⟨#[]⟩) (ret := none) gw_203 gw_204 gw_205 gw_58 gc_X6_fails) rfl rfl rfl (by decide +kernel) ⟨(Nat.le_of_ble_eq_true rfl), (Nat.le_of_ble_eq_true rfl)⟩) (xPV C w [0] rfl (by decide) (ci := 10) (q0 := 0) rfl rfl) rfl rfl hl.1 rfl (lv_room (Nat.le_of_ble_eq_true rfl)) dX6_near_31 ⟨(Nat.le_of_ble_eq_true rfl), (Nat.le_of_ble_eq_true rfl)⟩) (fun f986 H locs w => ?_)
  have w : xW G A s [(h1, .inr (3, [.int 0, .ref (sv 0), .int 0])), (h0, .inr (10, [.ref h1, .ref h2, .ref h3, .ref h4, .ref h5, .ref h6, .ref h7, .int 0, .int 2]))] H _ := w
  refine lv_if_eq (tgt := 41) C.1 C.2.1 dX6_near_34 (by decide) (fun c9 => absurd c9 (by decide)) (fun _ => ?_)
  refine lv_iconst (v := 0) C.1 C.2.1 dX6_near_37 (by decide) ?_
  refine lv_goto (tgt := 52) C.1 C.2.1 dX6_near_38 (by decide) ?_
  have w := w.sub (ws' := [(h0, .inr (10, [.ref h1, .ref h2, .ref h3, .ref h4, .ref h5, .ref h6, .ref h7, .int 0, .int 2])), (h1, .inr (3, [.int 0, .ref (sv 0), .int 0]))]) [1, 0] (by decide) rfl rfl
  exact x_iret C w hr (fun _ => 0) rfl rfl dX6_near_52 (Nat.le_of_ble_eq_true rfl) (Nat.le_of_ble_eq_true rfl)
set_option maxHeartbeats 4000000 in
set_option maxRecDepth 100000 in
theorem c161_X4_checkHow (l : Launch) (G : va_G) (cy : Nat → ClassId) (sa : String → Nat → Nat) (sv : Nat → Nat) : xM l G cy sa sv yX4_checkHow (Cond.code yX4_checkHow cX4_checkHow 1 none :: XG) { frames := 8, cells := 0, slots := 0, locals := 250 } [.int 2] [] (xQv G (fun f => [])) := by
  refine xof (by decide) (Nat.le_of_ble_eq_true rfl) (fun p e s m below meth c A C w hr hn ls hl => ?_)
  have hl : lv_has ls 1 [(0, .int 2)] := hl
  refine lv_iload_n C.1 C.2.1 dX4_checkHow_0 rfl (lv_at hl 0 rfl) ?_
  refine lv_if_lt (tgt := 9) C.1 C.2.1 dX4_checkHow_1 (by decide) (fun c9 => absurd c9 (by decide)) (fun _ => ?_)
  refine lv_iload_n C.1 C.2.1 dX4_checkHow_4 rfl (lv_at hl 0 rfl) ?_
  refine lv_iconst (v := 3) C.1 C.2.1 dX4_checkHow_5 (by decide) ?_
  refine lv_icmp_le (tgt := 20) C.1 C.2.1 dX4_checkHow_6 (by decide) (fun _ => ?_) (fun c9 => absurd (by decide) c9)
  exact x_vret C w hr (fun _ => 0) rfl dX4_checkHow_20 (Nat.le_of_ble_eq_true rfl) (Nat.le_of_ble_eq_true rfl)
set_option maxHeartbeats 4000000 in
set_option maxRecDepth 100000 in
theorem c162_X4_isBetween (l : Launch) (G : va_G) (cy : Nat → ClassId) (sa : String → Nat → Nat) (sv : Nat → Nat) : xM l G cy sa sv yX4_isBetween (Cond.code yX4_isBetween cX4_isBetween 3 (some .boolean) :: XG) { frames := 8, cells := 0, slots := 0, locals := 250 } [.int 0, .int (-1), .int 0] [] (xQi G (fun f => []) 0) := by
  refine xof (by decide) (Nat.le_of_ble_eq_true rfl) (fun p e s m below meth c A C w hr hn ls hl => ?_)
  have hl : lv_has ls 3 [(0, .int 0), (1, .int (-1)), (2, .int 0)] := hl
  refine lv_iload_n C.1 C.2.1 dX4_isBetween_0 rfl (lv_at hl 0 rfl) ?_
  refine lv_iload_n C.1 C.2.1 dX4_isBetween_1 rfl (lv_at hl 2 rfl) ?_
  refine lv_icmp_gt (tgt := 14) C.1 C.2.1 dX4_isBetween_2 (by decide) (fun c9 => absurd c9 (by decide)) (fun _ => ?_)
  refine lv_iload_n C.1 C.2.1 dX4_isBetween_5 rfl (lv_at hl 2 rfl) ?_
  refine lv_iload_n C.1 C.2.1 dX4_isBetween_6 rfl (lv_at hl 1 rfl) ?_
  refine lv_icmp_gt (tgt := 14) C.1 C.2.1 dX4_isBetween_7 (by decide) (fun _ => ?_) (fun c9 => absurd (by decide) c9)
  refine lv_iconst (v := 0) C.1 C.2.1 dX4_isBetween_14 (by decide) ?_
  exact x_zret C w hr rfl (fun _ => 0) rfl rfl dX4_isBetween_15 (Nat.le_of_ble_eq_true rfl) (Nat.le_of_ble_eq_true rfl)
set_option maxHeartbeats 4000000 in
set_option maxRecDepth 100000 in
theorem c163_X3_placeNear (l : Launch) (G : va_G) (cy : Nat → ClassId) (sa : String → Nat → Nat) (sv : Nat → Nat) (h0 h1 h2 h3 : Nat) (v0 : Int32) : xM l G cy sa sv yX3_placeNear (Cond.code yX3_placeNear cX3_placeNear 8 (some .int) :: XG) { frames := 11, cells := 0, slots := 0, locals := 314 } [.ref h0, .int (-2147483648), .int 2147483647, .int v0, .int 2] [(h0, .inr (7, [.ref h1, .ref h2])), (h1, .inr (6, [.ref h3, .int 0]))] (xQi G (fun f => [(h0, .inr (7, [.ref h1, .ref h2])), (h1, .inr (6, [.ref h3, .int 0]))]) (-1)) := by
  refine xof (by decide) (Nat.le_of_ble_eq_true rfl) (fun p e s m below meth c A C w hr hn ls hl => ?_)
  have hl : lv_has ls 8 [(0, .ref h0), (1, .int (-2147483648)), (2, .int 2147483647), (3, .int v0), (4, .int 2)] := hl
  refine lv_aload_n C.1 C.2.1 dX3_placeNear_0 rfl (lv_at hl 0 rfl) ?_
  refine lv_iload_n C.1 C.2.1 dX3_placeNear_1 rfl (lv_at hl 1 rfl) ?_
  refine x_ki C w [0, 1] [] rfl rfl (by decide) (by decide) (va_runV (As := [.int (-2147483648)]) (rest := []) (xfix C) (c110_X3_countBelow l G cy sa sv h0 h1 h2 h3 (xtr C) _) (cwV 1 (xhts C) (xgV (maxL := 0) (cc := ⟨#[]⟩) (ret := none) gw_158 gw_159 gw_160 gw_7 gc_X3_countBelow) rfl rfl rfl (by decide +kernel) ⟨(Nat.le_of_ble_eq_true rfl), (Nat.le_of_ble_eq_true rfl)⟩) (xPV C w [0, 1] rfl (by decide) (ci := 7) (q0 := 0) rfl rfl) rfl rfl hl.1 rfl (lv_room (Nat.le_of_ble_eq_true rfl)) dX3_placeNear_2 ⟨(Nat.le_of_ble_eq_true rfl), (Nat.le_of_ble_eq_true rfl)⟩) (fun f995 H locs w => ?_)
  have w : xW G A s [(h0, .inr (7, [.ref h1, .ref h2])), (h1, .inr (6, [.ref h3, .int 0]))] H _ := w
  refine lv_istore (lv' := [(5, .int 0), (0, .ref h0), (1, .int (-2147483648)), (2, .int 2147483647), (3, .int v0), (4, .int 2)]) C.1 C.2.1 dX3_placeNear_5 hl (by decide) rfl (fun ls hl => ?_)
  refine lv_aload_n C.1 C.2.1 dX3_placeNear_7 rfl (lv_at hl 1 rfl) ?_
  refine lv_iload_n C.1 C.2.1 dX3_placeNear_8 rfl (lv_at hl 3 rfl) ?_
  refine x_ki C w [0, 1] [] rfl rfl (by decide) (by decide) (va_runV (As := [.int 2147483647]) (rest := []) (xfix C) (c108_X3_countNotAbove l G cy sa sv h0 h1 h2 h3 (xtr C) _) (cwV 1 (xhts C) (xgV (maxL := 0) (cc := ⟨#[]⟩) (ret := none) gw_392 gw_309 gw_310 gw_7 gc_X3_countNotAbove) rfl rfl rfl (by decide +kernel) ⟨(Nat.le_of_ble_eq_true rfl), (Nat.le_of_ble_eq_true rfl)⟩) (xPV C w [0, 1] rfl (by decide) (ci := 7) (q0 := 0) rfl rfl) rfl rfl hl.1 rfl (lv_room (Nat.le_of_ble_eq_true rfl)) dX3_placeNear_9 ⟨(Nat.le_of_ble_eq_true rfl), (Nat.le_of_ble_eq_true rfl)⟩) (fun f1000 H locs w => ?_)
  have w : xW G A s [(h0, .inr (7, [.ref h1, .ref h2])), (h1, .inr (6, [.ref h3, .int 0]))] H _ := w
  refine lv_iconst (v := 1) C.1 C.2.1 dX3_placeNear_12 (by decide) ?_
  refine lv_isub C.1 C.2.1 dX3_placeNear_13 ?_
  refine x_is (y := (-1)) (by decide) ?_
  refine lv_istore (lv' := [(6, .int (-1)), (5, .int 0), (0, .ref h0), (1, .int (-2147483648)), (2, .int 2147483647), (3, .int v0), (4, .int 2)]) C.1 C.2.1 dX3_placeNear_14 hl (by decide) rfl (fun ls hl => ?_)
  refine lv_iload C.1 C.2.1 dX3_placeNear_16 (lv_at hl 6 rfl) ?_
  refine lv_tableIn (off := 60) (tgt := 78) C.1 C.2.1 dX3_placeNear_18 (by decide) (by decide) (by decide) (by decide) ?_
  refine lv_aload_n C.1 C.2.1 dX3_placeNear_78 rfl (lv_at hl 2 rfl) ?_
  refine lv_iload_n C.1 C.2.1 dX3_placeNear_79 rfl (lv_at hl 5 rfl) ?_
  refine x_ki C w [0, 1] [] rfl rfl (by decide) (by decide) (va_runV (As := [.int v0]) (rest := []) (xfix C) (c31_X3_countBelow l G cy sa sv h0 h1 h2 h3 v0 (xtr C) _) (cwV 1 (xhts C) (xgV (maxL := 0) (cc := ⟨#[]⟩) (ret := none) gw_158 gw_159 gw_160 gw_7 gc_X3_countBelow) rfl rfl rfl (by decide +kernel) ⟨(Nat.le_of_ble_eq_true rfl), (Nat.le_of_ble_eq_true rfl)⟩) (xPV C w [0, 1] rfl (by decide) (ci := 7) (q0 := 0) rfl rfl) rfl rfl hl.1 rfl (lv_room (Nat.le_of_ble_eq_true rfl)) dX3_placeNear_80 ⟨(Nat.le_of_ble_eq_true rfl), (Nat.le_of_ble_eq_true rfl)⟩) (fun f1002 H locs w => ?_)
  have w : xW G A s [(h0, .inr (7, [.ref h1, .ref h2])), (h1, .inr (6, [.ref h3, .int 0]))] H _ := w
  refine lv_iload C.1 C.2.1 dX3_placeNear_83 (lv_at hl 1 rfl) ?_
  refine va_mmax C.1 C.2.1 (C.2.2.1.trans hl.1.symm) (xown C) (xhts C _ (List.mem_cons_of_mem _ gw_448)) (xhts C _ (List.mem_cons_of_mem _ gw_216)) (xhts C _ (List.mem_cons_of_mem _ gw_217)) (xhts C _ (List.mem_cons_of_mem _ gm_max)) (Nat.le_of_ble_eq_true rfl) (Nat.le_of_ble_eq_true rfl) (Nat.le_of_ble_eq_true rfl) (Nat.le_of_ble_eq_true rfl) dX3_placeNear_85 ?_
  refine x_is (y := 0) (if_neg (by decide)) ?_
  refine lv_istore (lv' := [(7, .int 0), (6, .int (-1)), (5, .int 0), (0, .ref h0), (1, .int (-2147483648)), (2, .int 2147483647), (3, .int v0), (4, .int 2)]) C.1 C.2.1 dX3_placeNear_88 hl (by decide) rfl (fun ls hl => ?_)
  refine lv_goto (tgt := 105) C.1 C.2.1 dX3_placeNear_90 (by decide) ?_
  refine lv_iload C.1 C.2.1 dX3_placeNear_105 (lv_at hl 2 rfl) ?_
  refine lv_iload C.1 C.2.1 dX3_placeNear_107 (lv_at hl 1 rfl) ?_
  refine lv_iload C.1 C.2.1 dX3_placeNear_109 (lv_at hl 0 rfl) ?_
  refine x_ki C w [] [0, 1] rfl rfl (by decide) (by decide) (va_runSN (As := [.int 0, .int (-1), .int 0]) (rest := []) (xfix C) (c162_X4_isBetween l G cy sa sv (xtr C) _) ⟨(va_cnB 3 (xhts C) (xgI gc_X4_isBetween) rfl rfl rfl (xs_mB (xS C)) (xhts C _ (List.mem_cons_of_mem _ gw_2)) (by decide +kernel) ⟨(Nat.le_of_ble_eq_true rfl), (Nat.le_of_ble_eq_true rfl)⟩), xhts C _ (List.mem_cons_of_mem _ gw_422), trivial⟩ (xPS C w [] rfl (by decide)) rfl rfl hl.1 rfl (lv_room (Nat.le_of_ble_eq_true rfl)) dX3_placeNear_111 ⟨(Nat.le_of_ble_eq_true rfl), (Nat.le_of_ble_eq_true rfl)⟩) (fun f1003 H locs w => ?_)
  have w : xW G A s [(h0, .inr (7, [.ref h1, .ref h2])), (h1, .inr (6, [.ref h3, .int 0]))] H _ := w
  refine lv_if_eq (tgt := 122) C.1 C.2.1 dX3_placeNear_114 (by decide) (fun _ => ?_) (fun c9 => absurd (by decide) c9)
  refine lv_iconst (v := (-1)) C.1 C.2.1 dX3_placeNear_122 (by decide) ?_
  exact x_iret C w hr (fun _ => 0) rfl rfl dX3_placeNear_123 (Nat.le_of_ble_eq_true rfl) (Nat.le_of_ble_eq_true rfl)
set_option maxHeartbeats 4000000 in
set_option maxRecDepth 100000 in
theorem c164_X4_rangeNear (l : Launch) (G : va_G) (cy : Nat → ClassId) (sa : String → Nat → Nat) (sv : Nat → Nat) (h0 h1 h2 h3 h4 h5 h6 h7 h8 h9 h10 : Nat) (v0 : Int32) : xX l G cy sa sv yX4_rangeNear (Cond.code yX4_rangeNear cX4_rangeNear 6 (some .int) :: XG) { frames := 12, cells := 1, slots := 6, locals := 341 } [.ref h0, .int (-2147483648), .int 2147483647, .int v0, .int 2] [(h0, .inr (8, [.ref h1, .ref h3, .ref h4, .ref h5, .ref h6, .int 0, .ref h7, .ref h8])), (h1, .inr (7, [.ref h2, .ref h9])), (h2, .inr (6, [.ref h10, .int 0]))] (fun f => [(h0, .inr (8, [.ref h1, .ref h3, .ref h4, .ref h5, .ref h6, .int 0, .ref h7, .ref h8])), (h1, .inr (7, [.ref h2, .ref h9])), (h2, .inr (6, [.ref h10, .int 0]))]) "java/lang/IllegalStateException" := by
  refine xofX (by decide) (Nat.le_of_ble_eq_true rfl) (fun p e s m below meth c A C w hno ls hl => ?_)
  have hl : lv_has ls 6 [(0, .ref h0), (1, .int (-2147483648)), (2, .int 2147483647), (3, .int v0), (4, .int 2)] := hl
  refine lv_iload_n C.1 C.2.1 dX4_rangeNear_0 rfl (lv_at hl 1 rfl) ?_
  refine lv_iload_n C.1 C.2.1 dX4_rangeNear_1 rfl (lv_at hl 2 rfl) ?_
  refine x_kv C w [] [0, 1, 2] rfl rfl (by decide) (by decide) (va_runS (As := [.int (-2147483648), .int 2147483647]) (rest := []) (xfix C) (c131_X4_checkRange l G cy sa sv (xtr C) _) (va_cwS 2 (xhts C) (xgS gw_390 gw_391 gw_2 gc_X4_checkRange) rfl rfl rfl (by decide +kernel) ⟨(Nat.le_of_ble_eq_true rfl), (Nat.le_of_ble_eq_true rfl)⟩) (xPS C w [] rfl (by decide)) rfl rfl hl.1 rfl (lv_room (Nat.le_of_ble_eq_true rfl)) dX4_rangeNear_2 ⟨(Nat.le_of_ble_eq_true rfl), (Nat.le_of_ble_eq_true rfl)⟩) (fun f992 H locs w => ?_)
  have w : xW G A s [(h0, .inr (8, [.ref h1, .ref h3, .ref h4, .ref h5, .ref h6, .int 0, .ref h7, .ref h8])), (h1, .inr (7, [.ref h2, .ref h9])), (h2, .inr (6, [.ref h10, .int 0]))] H _ := w
  refine lv_iload C.1 C.2.1 dX4_rangeNear_5 (lv_at hl 4 rfl) ?_
  refine x_kv C w [] [0, 1, 2] rfl rfl (by decide) (by decide) (va_runS (As := [.int 2]) (rest := []) (xfix C) (c161_X4_checkHow l G cy sa sv (xtr C) _) (va_cwS 1 (xhts C) (xgS gw_416 gw_417 gw_2 gc_X4_checkHow) rfl rfl rfl (by decide +kernel) ⟨(Nat.le_of_ble_eq_true rfl), (Nat.le_of_ble_eq_true rfl)⟩) (xPS C w [] rfl (by decide)) rfl rfl hl.1 rfl (lv_room (Nat.le_of_ble_eq_true rfl)) dX4_rangeNear_7 ⟨(Nat.le_of_ble_eq_true rfl), (Nat.le_of_ble_eq_true rfl)⟩) (fun f993 H locs w => ?_)
  have w : xW G A s [(h0, .inr (8, [.ref h1, .ref h3, .ref h4, .ref h5, .ref h6, .int 0, .ref h7, .ref h8])), (h1, .inr (7, [.ref h2, .ref h9])), (h2, .inr (6, [.ref h10, .int 0]))] H _ := w
  refine lv_aload_n C.1 C.2.1 dX4_rangeNear_10 rfl (lv_at hl 0 rfl) ?_
  refine x_get (v := .ref h1) C w 0 8 0 (xin_X4 _) rfl rfl (by decide) (List.mem_cons_of_mem _ gw_24) rfl rfl dX4_rangeNear_11 ?_
  refine lv_iload_n C.1 C.2.1 dX4_rangeNear_14 rfl (lv_at hl 1 rfl) ?_
  refine lv_iload_n C.1 C.2.1 dX4_rangeNear_15 rfl (lv_at hl 2 rfl) ?_
  refine lv_iload_n C.1 C.2.1 dX4_rangeNear_16 rfl (lv_at hl 3 rfl) ?_
  refine lv_iload C.1 C.2.1 dX4_rangeNear_17 (lv_at hl 4 rfl) ?_
  refine x_ki C w [1, 2] [0] rfl rfl (by decide) (by decide) (va_runV (As := [.int (-2147483648), .int 2147483647, .int v0, .int 2]) (rest := []) (xfix C) (c163_X3_placeNear l G cy sa sv h1 h2 h9 h10 v0 (xtr C) _) (cwV 4 (xhts C) (xgV (maxL := 0) (cc := ⟨#[]⟩) (ret := none) gw_424 gw_425 gw_426 gw_7 gc_X3_placeNear) rfl rfl rfl (by decide +kernel) ⟨(Nat.le_of_ble_eq_true rfl), (Nat.le_of_ble_eq_true rfl)⟩) (xPV C w [1, 2] rfl (by decide) (ci := 7) (q0 := 1) rfl rfl) rfl rfl hl.1 rfl (lv_room (Nat.le_of_ble_eq_true rfl)) dX4_rangeNear_19 ⟨(Nat.le_of_ble_eq_true rfl), (Nat.le_of_ble_eq_true rfl)⟩) (fun f1004 H locs w => ?_)
  have w : xW G A s [(h0, .inr (8, [.ref h1, .ref h3, .ref h4, .ref h5, .ref h6, .int 0, .ref h7, .ref h8])), (h1, .inr (7, [.ref h2, .ref h9])), (h2, .inr (6, [.ref h10, .int 0]))] H _ := w
  refine lv_istore (lv' := [(5, .int (-1)), (0, .ref h0), (1, .int (-2147483648)), (2, .int 2147483647), (3, .int v0), (4, .int 2)]) C.1 C.2.1 dX4_rangeNear_22 hl (by decide) rfl (fun ls hl => ?_)
  refine lv_iload C.1 C.2.1 dX4_rangeNear_24 (lv_at hl 0 rfl) ?_
  refine lv_iconst (v := (-1)) C.1 C.2.1 dX4_rangeNear_26 (by decide) ?_
  refine lv_icmp_ne (tgt := 40) C.1 C.2.1 dX4_rangeNear_27 (by decide) (fun c9 => absurd (by decide) c9) (fun _ => ?_)
  exact x_thr C w hno hl.1 (by decide) (List.mem_cons_of_mem _ gw_397) (List.mem_cons_of_mem _ gw_398) (tx := "there is no such key") (List.mem_of_getElem? (i := 1) rfl) (xat_161 C (fun w h => List.mem_cons_of_mem _ h)) xatg_161 dX4_rangeNear_30 dX4_rangeNear_33 dX4_rangeNear_34 dX4_rangeNear_36 dX4_rangeNear_39 (Nat.le_of_ble_eq_true rfl) (Nat.le_of_ble_eq_true rfl) (Nat.le_of_ble_eq_true rfl) (Nat.le_of_ble_eq_true rfl) rfl rfl (fun _ => 0) rfl
set_option maxHeartbeats 4000000 in
set_option maxRecDepth 100000 in
theorem c165_X4_near (l : Launch) (G : va_G) (cy : Nat → ClassId) (sa : String → Nat → Nat) (sv : Nat → Nat) (h0 h1 h2 h3 h4 h5 h6 h7 h8 h9 h10 : Nat) (v0 : Int32) : xX l G cy sa sv yX4_near (Cond.code yX4_near cX4_near 3 (some .int) :: XG) { frames := 13, cells := 1, slots := 6, locals := 366 } [.ref h0, .int v0, .int 2] [(h0, .inr (8, [.ref h1, .ref h3, .ref h4, .ref h5, .ref h6, .int 0, .ref h7, .ref h8])), (h1, .inr (7, [.ref h2, .ref h9])), (h2, .inr (6, [.ref h10, .int 0]))] (fun f => [(h0, .inr (8, [.ref h1, .ref h3, .ref h4, .ref h5, .ref h6, .int 0, .ref h7, .ref h8])), (h1, .inr (7, [.ref h2, .ref h9])), (h2, .inr (6, [.ref h10, .int 0]))]) "java/lang/IllegalStateException" := by
  refine xofX (by decide) (Nat.le_of_ble_eq_true rfl) (fun p e s m below meth c A C w hno ls hl => ?_)
  have hl : lv_has ls 3 [(0, .ref h0), (1, .int v0), (2, .int 2)] := hl
  refine lv_aload_n C.1 C.2.1 dX4_near_0 rfl (lv_at hl 0 rfl) ?_
  refine x_ldc (v := (-2147483648)) C (List.mem_cons_of_mem _ gw_305) dX4_near_1 ?_
  refine x_ldc (v := 2147483647) C (List.mem_cons_of_mem _ gw_306) dX4_near_3 ?_
  refine lv_iload_n C.1 C.2.1 dX4_near_5 rfl (lv_at hl 1 rfl) ?_
  refine lv_iload_n C.1 C.2.1 dX4_near_6 rfl (lv_at hl 2 rfl) ?_
  refine x_kx C w [0, 1, 2] [] rfl rfl (by decide) (by decide) (vx_runV (As := [.int (-2147483648), .int 2147483647, .int v0, .int 2]) (rest := []) (xfix C) (c164_X4_rangeNear l G cy sa sv h0 h1 h2 h3 h4 h5 h6 h7 h8 h9 h10 v0 (xtr C) _) (cwV 4 (xhts C) (xgV (maxL := 0) (cc := ⟨#[]⟩) (ret := none) gw_428 gw_429 gw_430 gw_2 gc_X4_rangeNear) rfl rfl rfl (by decide +kernel) ⟨(Nat.le_of_ble_eq_true rfl), (Nat.le_of_ble_eq_true rfl)⟩) (xPV C w [0, 1, 2] rfl (by decide) (ci := 8) (q0 := 0) rfl rfl) rfl rfl hl.1 rfl (lv_room (Nat.le_of_ble_eq_true rfl)) dX4_near_7 ⟨(Nat.le_of_ble_eq_true rfl), (Nat.le_of_ble_eq_true rfl)⟩) (fun f1005 H locs ce q9 w hce hcv hcl => ?_)
  have w : xW G A s [(h0, .inr (8, [.ref h1, .ref h3, .ref h4, .ref h5, .ref h6, .int 0, .ref h7, .ref h8])), (h1, .inr (7, [.ref h2, .ref h9])), (h2, .inr (6, [.ref h10, .int 0]))] H _ := w
  refine vx_widen (k := 1) (n := 6) (Nat.le_of_ble_eq_true rfl) (Nat.le_of_ble_eq_true rfl) ?_
  exact x_out C w hno (fun _ => 0) rfl hce hcv hcl (Nat.le_of_ble_eq_true rfl) (Nat.le_of_ble_eq_true rfl)
set_option maxHeartbeats 4000000 in
set_option maxRecDepth 100000 in
theorem c166_L_near (l : Launch) (G : va_G) (cy : Nat → ClassId) (sa : String → Nat → Nat) (sv : Nat → Nat) (h0 h1 h2 h3 h4 h5 h6 h7 h8 h9 h10 h11 : Nat) (v0 : Int32) : xM l G cy sa sv yL_near (Cond.codeWith yL_near cL_near 5 (some .int) [(0, 11, 14, 19), (0, 11, 18, 21)] :: XG) { frames := 14, cells := 1, slots := 6, locals := 388 } [.ref h0, .int v0, .int 2, .ref h1] [(h0, .inr (8, [.ref h2, .ref h4, .ref h5, .ref h6, .ref h7, .int 0, .ref h8, .ref h9])), (h2, .inr (7, [.ref h3, .ref h10])), (h3, .inr (6, [.ref h11, .int 0]))] (xQi G (fun f => [(h0, .inr (8, [.ref h2, .ref h4, .ref h5, .ref h6, .ref h7, .int 0, .ref h8, .ref h9])), (h2, .inr (7, [.ref h3, .ref h10])), (h3, .inr (6, [.ref h11, .int 0]))]) 2) := by
  refine xofH (by decide) (Nat.le_of_ble_eq_true rfl) (fun p e s m below meth c A C w hr hn hT ls hl => ?_)
  have hl : lv_has ls 5 [(0, .ref h0), (1, .int v0), (2, .int 2), (3, .ref h1)] := hl
  refine lv_aload_n C.1 C.2.1 dL_near_0 rfl (lv_at hl 3 rfl) ?_
  refine lv_aload_n C.1 C.2.1 dL_near_1 rfl (lv_at hl 0 rfl) ?_
  refine lv_iload_n C.1 C.2.1 dL_near_2 rfl (lv_at hl 1 rfl) ?_
  refine lv_iload_n C.1 C.2.1 dL_near_3 rfl (lv_at hl 2 rfl) ?_
  refine x_kx C w [0, 1, 2] [] rfl rfl (by decide) (by decide) (vx_runV (As := [.int v0, .int 2]) (rest := [.ref h1]) (xfix C) (c165_X4_near l G cy sa sv h0 h2 h3 h4 h5 h6 h7 h8 h9 h10 h11 v0 (xtr C) _) (cwV 2 (xhts C) (xgV (maxL := 0) (cc := ⟨#[]⟩) (ret := none) gw_432 gw_433 gw_434 gw_2 gc_X4_near) rfl rfl rfl (by decide +kernel) ⟨(Nat.le_of_ble_eq_true rfl), (Nat.le_of_ble_eq_true rfl)⟩) (xPV C w [0, 1, 2] rfl (by decide) (ci := 8) (q0 := 0) rfl rfl) rfl rfl hl.1 rfl (lv_room (Nat.le_of_ble_eq_true rfl)) dL_near_4 ⟨(Nat.le_of_ble_eq_true rfl), (Nat.le_of_ble_eq_true rfl)⟩) (fun f1006 H locs ce q9 w hce hcv hcl => ?_)
  have w : xW G A s [(h0, .inr (8, [.ref h2, .ref h4, .ref h5, .ref h6, .ref h7, .int 0, .ref h8, .ref h9])), (h2, .inr (7, [.ref h3, .ref h10])), (h3, .inr (6, [.ref h11, .int 0]))] H _ := w
  refine vx_widen (k := 1) (n := 6) (Nat.le_of_ble_eq_true rfl) (Nat.le_of_ble_eq_true rfl) ?_
  refine vx_catch (xown C) [⟨0, 11, 14, 19⟩] ⟨0, 11, 18, 21⟩ [] hT (fun z hz => Or.inr (by cases List.mem_singleton.mp hz; exact ⟨by decide, "java/lang/IllegalArgumentException", xhts C _ (List.mem_cons_of_mem _ gw_104), xs_n1 (xS C)⟩)) (by decide) (by decide) (xhts C _ (List.mem_cons_of_mem _ gw_407)) (va_any rfl (xs_c2 (xS C))) hce hcv hcl ?_
  refine lv_astore (lv' := [(4, .ref q9), (0, .ref h0), (1, .int v0), (2, .int 2), (3, .ref h1)]) C.1 C.2.1 dL_near_18 hl (by decide) rfl (fun ls hl => ?_)
  refine lv_iconst (v := 2) C.1 C.2.1 dL_near_20 (by decide) ?_
  exact x_iret C w hr (fun _ => 0) rfl rfl dL_near_21 (Nat.le_of_ble_eq_true rfl) (Nat.le_of_ble_eq_true rfl)
set_option maxHeartbeats 4000000 in
set_option maxRecDepth 100000 in
theorem c167_X6_isNoHow (l : Launch) (G : va_G) (cy : Nat → ClassId) (sa : String → Nat → Nat) (sv : Nat → Nat) : xM l G cy sa sv yX6_isNoHow (Cond.code yX6_isNoHow cX6_isNoHow 1 (some .boolean) :: XG) { frames := 8, cells := 0, slots := 0, locals := 250 } [.int 2] [] (xQi G (fun f => []) 0) := by
  refine xof (by decide) (Nat.le_of_ble_eq_true rfl) (fun p e s m below meth c A C w hr hn ls hl => ?_)
  have hl : lv_has ls 1 [(0, .int 2)] := hl
  refine lv_iload_n C.1 C.2.1 dX6_isNoHow_0 rfl (lv_at hl 0 rfl) ?_
  refine lv_if_lt (tgt := 9) C.1 C.2.1 dX6_isNoHow_1 (by decide) (fun c9 => absurd c9 (by decide)) (fun _ => ?_)
  refine lv_iload_n C.1 C.2.1 dX6_isNoHow_4 rfl (lv_at hl 0 rfl) ?_
  refine lv_iconst (v := 3) C.1 C.2.1 dX6_isNoHow_5 (by decide) ?_
  refine lv_icmp_le (tgt := 13) C.1 C.2.1 dX6_isNoHow_6 (by decide) (fun _ => ?_) (fun c9 => absurd (by decide) c9)
  refine lv_iconst (v := 0) C.1 C.2.1 dX6_isNoHow_13 (by decide) ?_
  exact x_zret C w hr rfl (fun _ => 0) rfl rfl dX6_isNoHow_14 (Nat.le_of_ble_eq_true rfl) (Nat.le_of_ble_eq_true rfl)
set_option maxHeartbeats 4000000 in
set_option maxRecDepth 100000 in
theorem c168_X6_nearIn (l : Launch) (G : va_G) (cy : Nat → ClassId) (sa : String → Nat → Nat) (sv : Nat → Nat) (h0 : Nat) (v0 : Int32) : xM l G cy sa sv yX6_nearIn (Cond.code yX6_nearIn cX6_nearIn 7 (some (.array .int)) :: XG) { frames := 9, cells := 0, slots := 0, locals := 270 } [.ref h0, .int v0, .int 2] [(h0, .inr (3, [.int 0, .ref (sv 0), .int 0]))] (xQn G (fun f => [(h0, .inr (3, [.int 0, .ref (sv 0), .int 0]))])) := by
  refine xof (by decide) (Nat.le_of_ble_eq_true rfl) (fun p e s m below meth c A C w hr hn ls hl => ?_)
  have hl : lv_has ls 7 [(0, .ref h0), (1, .int v0), (2, .int 2)] := hl
  refine lv_null C.1 C.2.1 dX6_nearIn_0 ?_
  refine lv_astore_nN (lv' := [(3, .null), (0, .ref h0), (1, .int v0), (2, .int 2)]) C.1 C.2.1 dX6_nearIn_1 rfl hl (by decide) rfl (fun ls hl => ?_)
  refine lv_iconst (v := 0) C.1 C.2.1 dX6_nearIn_2 (by decide) ?_
  refine lv_istore (lv' := [(4, .int 0), (3, .null), (0, .ref h0), (1, .int v0), (2, .int 2)]) C.1 C.2.1 dX6_nearIn_3 hl (by decide) rfl (fun ls hl => ?_)
  refine lv_iload C.1 C.2.1 dX6_nearIn_5 (lv_at hl 0 rfl) ?_
  refine lv_aload_n C.1 C.2.1 dX6_nearIn_7 rfl (lv_at hl 2 rfl) ?_
  refine x_ki C w [0] [] rfl rfl (by decide) (by decide) (va_runV (As := []) (rest := [.int 0]) (xfix C) (c47_Jx4a65c_size_8abf5 l G cy sa sv h0 (xtr C) _) (cwV 0 (xhts C) (xgV (maxL := 0) (cc := ⟨#[]⟩) (ret := none) gw_195 gw_196 gw_197 gw_62 gc_Jx4a65c_size_8abf5) rfl rfl rfl (by decide +kernel) ⟨(Nat.le_of_ble_eq_true rfl), (Nat.le_of_ble_eq_true rfl)⟩) (xPV C w [0] rfl (by decide) (ci := 3) (q0 := 0) rfl rfl) rfl rfl hl.1 rfl (lv_room (Nat.le_of_ble_eq_true rfl)) dX6_nearIn_8 ⟨(Nat.le_of_ble_eq_true rfl), (Nat.le_of_ble_eq_true rfl)⟩) (fun f1011 H locs w => ?_)
  have w : xW G A s [(h0, .inr (3, [.int 0, .ref (sv 0), .int 0]))] H _ := w
  refine lv_icmp_ge (tgt := 145) C.1 C.2.1 dX6_nearIn_11 (by decide) (fun _ => ?_) (fun c9 => absurd (by decide) c9)
  refine lv_aload_nN C.1 C.2.1 dX6_nearIn_145 rfl (lv_at hl 1 rfl) ?_
  exact x_nret C w hr (Or.inr ⟨_, rfl⟩) (fun _ => 0) rfl dX6_nearIn_146 (Nat.le_of_ble_eq_true rfl) (Nat.le_of_ble_eq_true rfl)
set_option maxHeartbeats 4000000 in
set_option maxRecDepth 100000 in
theorem c169_X6_near (l : Launch) (G : va_G) (cy : Nat → ClassId) (sa : String → Nat → Nat) (sv : Nat → Nat) (h0 h1 h2 h3 h4 h5 h6 h7 : Nat) (v0 : Int32) : xM l G cy sa sv yX6_near (Cond.code yX6_near cX6_near 3 (some .int) :: XG) { frames := 10, cells := 0, slots := 0, locals := 296 } [.ref h0, .int v0, .int 2] [(h0, .inr (10, [.ref h1, .ref h2, .ref h3, .ref h4, .ref h5, .ref h6, .ref h7, .int 0, .int 0])), (h1, .inr (3, [.int 0, .ref (sv 0), .int 0]))] (xQi G (fun f => [(h0, .inr (10, [.ref h1, .ref h2, .ref h3, .ref h4, .ref h5, .ref h6, .ref h7, .int 0, .int 2])), (h1, .inr (3, [.int 0, .ref (sv 0), .int 0]))]) 0) := by
  refine xof (by decide) (Nat.le_of_ble_eq_true rfl) (fun p e s m below meth c A C w hr hn ls hl => ?_)
  have hl : lv_has ls 3 [(0, .ref h0), (1, .int v0), (2, .int 2)] := hl
  refine lv_aload_n C.1 C.2.1 dX6_near_0 rfl (lv_at hl 0 rfl) ?_
  refine lv_iload_n C.1 C.2.1 dX6_near_1 rfl (lv_at hl 2 rfl) ?_
  refine x_ki C w [] [0, 1] rfl rfl (by decide) (by decide) (va_runS (As := [.int 2]) (rest := [.ref h0]) (xfix C) (c167_X6_isNoHow l G cy sa sv (xtr C) _) (va_cwS 1 (xhts C) (xgS gw_439 gw_440 gw_58 gc_X6_isNoHow) rfl rfl rfl (by decide +kernel) ⟨(Nat.le_of_ble_eq_true rfl), (Nat.le_of_ble_eq_true rfl)⟩) (xPS C w [] rfl (by decide)) rfl rfl hl.1 rfl (lv_room (Nat.le_of_ble_eq_true rfl)) dX6_near_2 ⟨(Nat.le_of_ble_eq_true rfl), (Nat.le_of_ble_eq_true rfl)⟩) (fun f1009 H locs w => ?_)
  have w : xW G A s [(h0, .inr (10, [.ref h1, .ref h2, .ref h3, .ref h4, .ref h5, .ref h6, .ref h7, .int 0, .int 0])), (h1, .inr (3, [.int 0, .ref (sv 0), .int 0]))] H _ := w
  refine lv_iconst (v := 1) C.1 C.2.1 dX6_near_5 (by decide) ?_
  refine x_ki C w [0] [1] rfl rfl (by decide) (by decide) (va_runV (As := [.int 0, .int 1]) (rest := []) (xfix C) (c46_X6_start l G cy sa sv h0 h1 h2 h3 h4 h5 h6 h7 (xtr C) _) (cwV 2 (xhts C) (xgV (maxL := 0) (cc := ⟨#[]⟩) (ret := none) gw_114 gw_115 gw_116 gw_58 gc_X6_start) rfl rfl rfl (by decide +kernel) ⟨(Nat.le_of_ble_eq_true rfl), (Nat.le_of_ble_eq_true rfl)⟩) (xPV C w [0] rfl (by decide) (ci := 10) (q0 := 0) rfl rfl) rfl rfl hl.1 rfl (lv_room (Nat.le_of_ble_eq_true rfl)) dX6_near_6 ⟨(Nat.le_of_ble_eq_true rfl), (Nat.le_of_ble_eq_true rfl)⟩) (fun f1010 H locs w => ?_)
  have w : xW G A s [(h1, .inr (3, [.int 0, .ref (sv 0), .int 0])), (h0, .inr (10, [.ref h1, .ref h2, .ref h3, .ref h4, .ref h5, .ref h6, .ref h7, .int 0, .int 0]))] H _ := w
  refine lv_if_ne (tgt := 37) C.1 C.2.1 dX6_near_9 (by decide) (fun c9 => absurd (by decide) c9) (fun _ => ?_)
  refine lv_aload_n C.1 C.2.1 dX6_near_12 rfl (lv_at hl 0 rfl) ?_
  refine lv_aload_n C.1 C.2.1 dX6_near_13 rfl (lv_at hl 0 rfl) ?_
  refine x_get (v := .ref h1) C w 1 10 0 (xin_X6 _) rfl rfl (by decide) (List.mem_cons_of_mem _ gw_78) rfl rfl dX6_near_14 ?_
  refine lv_iload_n C.1 C.2.1 dX6_near_17 rfl (lv_at hl 1 rfl) ?_
  refine lv_iload_n C.1 C.2.1 dX6_near_18 rfl (lv_at hl 2 rfl) ?_
  refine x_kn C w [0] [1] rfl rfl (by decide) (by decide) (va_runS (As := [.ref h1, .int v0, .int 2]) (rest := [.ref h0]) (xfix C) (c168_X6_nearIn l G cy sa sv h1 v0 (xtr C) _) (va_cwS 3 (xhts C) (xgS gw_442 gw_443 gw_58 gc_X6_nearIn) rfl rfl rfl (by decide +kernel) ⟨(Nat.le_of_ble_eq_true rfl), (Nat.le_of_ble_eq_true rfl)⟩) (xPS C w [0] rfl (by decide)) rfl rfl hl.1 rfl (lv_room (Nat.le_of_ble_eq_true rfl)) dX6_near_19 ⟨(Nat.le_of_ble_eq_true rfl), (Nat.le_of_ble_eq_true rfl)⟩) (fun f1012 H locs w => ?_)
  have w : xW G A s [(h0, .inr (10, [.ref h1, .ref h2, .ref h3, .ref h4, .ref h5, .ref h6, .ref h7, .int 0, .int 0])), (h1, .inr (3, [.int 0, .ref (sv 0), .int 0]))] H _ := w
  refine lv_ifnonnullN C.1 C.2.1 dX6_near_22 ?_
  refine lv_iconst (v := 1) C.1 C.2.1 dX6_near_25 (by decide) ?_
  refine lv_goto (tgt := 30) C.1 C.2.1 dX6_near_26 (by decide) ?_
  refine lv_iconst (v := 2) C.1 C.2.1 dX6_near_30 (by decide) ?_
  refine x_ki C w [0] [1] rfl rfl (by decide) (by decide) (va_runV (As := [.int 1, .int 2]) (rest := []) (xfix C) (c149_X6_fails l G cy sa sv h0 h1 h2 h3 h4 h5 h6 h7 (xtr C) _) (cwV 2 (xhts C) (xgV (maxL := 0) (cc := ⟨#[]⟩) (ret := none) gw_203 gw_204 gw_205 gw_58 gc_X6_fails) rfl rfl rfl (by decide +kernel) ⟨(Nat.le_of_ble_eq_true rfl), (Nat.le_of_ble_eq_true rfl)⟩) (xPV C w [0] rfl (by decide) (ci := 10) (q0 := 0) rfl rfl) rfl rfl hl.1 rfl (lv_room (Nat.le_of_ble_eq_true rfl)) dX6_near_31 ⟨(Nat.le_of_ble_eq_true rfl), (Nat.le_of_ble_eq_true rfl)⟩) (fun f1013 H locs w => ?_)
  have w : xW G A s [(h1, .inr (3, [.int 0, .ref (sv 0), .int 0])), (h0, .inr (10, [.ref h1, .ref h2, .ref h3, .ref h4, .ref h5, .ref h6, .ref h7, .int 0, .int 2]))] H _ := w
  refine lv_if_eq (tgt := 41) C.1 C.2.1 dX6_near_34 (by decide) (fun c9 => absurd c9 (by decide)) (fun _ => ?_)
  refine lv_iconst (v := 0) C.1 C.2.1 dX6_near_37 (by decide) ?_
  refine lv_goto (tgt := 52) C.1 C.2.1 dX6_near_38 (by decide) ?_
  have w := w.sub (ws' := [(h0, .inr (10, [.ref h1, .ref h2, .ref h3, .ref h4, .ref h5, .ref h6, .ref h7, .int 0, .int 2])), (h1, .inr (3, [.int 0, .ref (sv 0), .int 0]))]) [1, 0] (by decide) rfl rfl
  exact x_iret C w hr (fun _ => 0) rfl rfl dX6_near_52 (Nat.le_of_ble_eq_true rfl) (Nat.le_of_ble_eq_true rfl)
set_option maxHeartbeats 4000000 in
set_option maxRecDepth 100000 in
theorem c170_X4_checkHow (l : Launch) (G : va_G) (cy : Nat → ClassId) (sa : String → Nat → Nat) (sv : Nat → Nat) : xM l G cy sa sv yX4_checkHow (Cond.code yX4_checkHow cX4_checkHow 1 none :: XG) { frames := 8, cells := 0, slots := 0, locals := 250 } [.int 3] [] (xQv G (fun f => [])) := by
  refine xof (by decide) (Nat.le_of_ble_eq_true rfl) (fun p e s m below meth c A C w hr hn ls hl => ?_)
  have hl : lv_has ls 1 [(0, .int 3)] := hl
  refine lv_iload_n C.1 C.2.1 dX4_checkHow_0 rfl (lv_at hl 0 rfl) ?_
  refine lv_if_lt (tgt := 9) C.1 C.2.1 dX4_checkHow_1 (by decide) (fun c9 => absurd c9 (by decide)) (fun _ => ?_)
  refine lv_iload_n C.1 C.2.1 dX4_checkHow_4 rfl (lv_at hl 0 rfl) ?_
  refine lv_iconst (v := 3) C.1 C.2.1 dX4_checkHow_5 (by decide) ?_
  refine lv_icmp_le (tgt := 20) C.1 C.2.1 dX4_checkHow_6 (by decide) (fun _ => ?_) (fun c9 => absurd (by decide) c9)
  exact x_vret C w hr (fun _ => 0) rfl dX4_checkHow_20 (Nat.le_of_ble_eq_true rfl) (Nat.le_of_ble_eq_true rfl)
set_option maxHeartbeats 4000000 in
set_option maxRecDepth 100000 in
theorem c171_X3_placeNear (l : Launch) (G : va_G) (cy : Nat → ClassId) (sa : String → Nat → Nat) (sv : Nat → Nat) (h0 h1 h2 h3 : Nat) (v0 : Int32) : xM l G cy sa sv yX3_placeNear (Cond.code yX3_placeNear cX3_placeNear 8 (some .int) :: XG) { frames := 11, cells := 0, slots := 0, locals := 314 } [.ref h0, .int (-2147483648), .int 2147483647, .int v0, .int 3] [(h0, .inr (7, [.ref h1, .ref h2])), (h1, .inr (6, [.ref h3, .int 0]))] (xQi G (fun f => [(h0, .inr (7, [.ref h1, .ref h2])), (h1, .inr (6, [.ref h3, .int 0]))]) (-1)) := by
  refine xof (by decide) (Nat.le_of_ble_eq_true rfl) (fun p e s m below meth c A C w hr hn ls hl => ?_)
  have hl : lv_has ls 8 [(0, .ref h0), (1, .int (-2147483648)), (2, .int 2147483647), (3, .int v0), (4, .int 3)] := hl
  refine lv_aload_n C.1 C.2.1 dX3_placeNear_0 rfl (lv_at hl 0 rfl) ?_
  refine lv_iload_n C.1 C.2.1 dX3_placeNear_1 rfl (lv_at hl 1 rfl) ?_
  refine x_ki C w [0, 1] [] rfl rfl (by decide) (by decide) (va_runV (As := [.int (-2147483648)]) (rest := []) (xfix C) (c110_X3_countBelow l G cy sa sv h0 h1 h2 h3 (xtr C) _) (cwV 1 (xhts C) (xgV (maxL := 0) (cc := ⟨#[]⟩) (ret := none) gw_158 gw_159 gw_160 gw_7 gc_X3_countBelow) rfl rfl rfl (by decide +kernel) ⟨(Nat.le_of_ble_eq_true rfl), (Nat.le_of_ble_eq_true rfl)⟩) (xPV C w [0, 1] rfl (by decide) (ci := 7) (q0 := 0) rfl rfl) rfl rfl hl.1 rfl (lv_room (Nat.le_of_ble_eq_true rfl)) dX3_placeNear_2 ⟨(Nat.le_of_ble_eq_true rfl), (Nat.le_of_ble_eq_true rfl)⟩) (fun f1022 H locs w => ?_)
  have w : xW G A s [(h0, .inr (7, [.ref h1, .ref h2])), (h1, .inr (6, [.ref h3, .int 0]))] H _ := w
  refine lv_istore (lv' := [(5, .int 0), (0, .ref h0), (1, .int (-2147483648)), (2, .int 2147483647), (3, .int v0), (4, .int 3)]) C.1 C.2.1 dX3_placeNear_5 hl (by decide) rfl (fun ls hl => ?_)
  refine lv_aload_n C.1 C.2.1 dX3_placeNear_7 rfl (lv_at hl 1 rfl) ?_
  refine lv_iload_n C.1 C.2.1 dX3_placeNear_8 rfl (lv_at hl 3 rfl) ?_
  refine x_ki C w [0, 1] [] rfl rfl (by decide) (by decide) (va_runV (As := [.int 2147483647]) (rest := []) (xfix C) (c108_X3_countNotAbove l G cy sa sv h0 h1 h2 h3 (xtr C) _) (cwV 1 (xhts C) (xgV (maxL := 0) (cc := ⟨#[]⟩) (ret := none) gw_392 gw_309 gw_310 gw_7 gc_X3_countNotAbove) rfl rfl rfl (by decide +kernel) ⟨(Nat.le_of_ble_eq_true rfl), (Nat.le_of_ble_eq_true rfl)⟩) (xPV C w [0, 1] rfl (by decide) (ci := 7) (q0 := 0) rfl rfl) rfl rfl hl.1 rfl (lv_room (Nat.le_of_ble_eq_true rfl)) dX3_placeNear_9 ⟨(Nat.le_of_ble_eq_true rfl), (Nat.le_of_ble_eq_true rfl)⟩) (fun f1027 H locs w => ?_)
  have w : xW G A s [(h0, .inr (7, [.ref h1, .ref h2])), (h1, .inr (6, [.ref h3, .int 0]))] H _ := w
  refine lv_iconst (v := 1) C.1 C.2.1 dX3_placeNear_12 (by decide) ?_
  refine lv_isub C.1 C.2.1 dX3_placeNear_13 ?_
  refine x_is (y := (-1)) (by decide) ?_
  refine lv_istore (lv' := [(6, .int (-1)), (5, .int 0), (0, .ref h0), (1, .int (-2147483648)), (2, .int 2147483647), (3, .int v0), (4, .int 3)]) C.1 C.2.1 dX3_placeNear_14 hl (by decide) rfl (fun ls hl => ?_)
  refine lv_iload C.1 C.2.1 dX3_placeNear_16 (lv_at hl 6 rfl) ?_
  refine lv_tableOut (tgt := 93) C.1 C.2.1 dX3_placeNear_18 (by decide) (by decide) ?_
  refine lv_aload_n C.1 C.2.1 dX3_placeNear_93 rfl (lv_at hl 2 rfl) ?_
  refine lv_iload_n C.1 C.2.1 dX3_placeNear_94 rfl (lv_at hl 5 rfl) ?_
  refine x_ki C w [0, 1] [] rfl rfl (by decide) (by decide) (va_runV (As := [.int v0]) (rest := []) (xfix C) (c153_X3_countNotAbove l G cy sa sv h0 h1 h2 h3 v0 (xtr C) _) (cwV 1 (xhts C) (xgV (maxL := 0) (cc := ⟨#[]⟩) (ret := none) gw_392 gw_309 gw_310 gw_7 gc_X3_countNotAbove) rfl rfl rfl (by decide +kernel) ⟨(Nat.le_of_ble_eq_true rfl), (Nat.le_of_ble_eq_true rfl)⟩) (xPV C w [0, 1] rfl (by decide) (ci := 7) (q0 := 0) rfl rfl) rfl rfl hl.1 rfl (lv_room (Nat.le_of_ble_eq_true rfl)) dX3_placeNear_95 ⟨(Nat.le_of_ble_eq_true rfl), (Nat.le_of_ble_eq_true rfl)⟩) (fun f1032 H locs w => ?_)
  have w : xW G A s [(h0, .inr (7, [.ref h1, .ref h2])), (h1, .inr (6, [.ref h3, .int 0]))] H _ := w
  refine lv_iload C.1 C.2.1 dX3_placeNear_98 (lv_at hl 1 rfl) ?_
  refine va_mmax C.1 C.2.1 (C.2.2.1.trans hl.1.symm) (xown C) (xhts C _ (List.mem_cons_of_mem _ gw_448)) (xhts C _ (List.mem_cons_of_mem _ gw_216)) (xhts C _ (List.mem_cons_of_mem _ gw_217)) (xhts C _ (List.mem_cons_of_mem _ gm_max)) (Nat.le_of_ble_eq_true rfl) (Nat.le_of_ble_eq_true rfl) (Nat.le_of_ble_eq_true rfl) (Nat.le_of_ble_eq_true rfl) dX3_placeNear_100 ?_
  refine x_is (y := 0) (if_neg (by decide)) ?_
  refine lv_istore (lv' := [(7, .int 0), (6, .int (-1)), (5, .int 0), (0, .ref h0), (1, .int (-2147483648)), (2, .int 2147483647), (3, .int v0), (4, .int 3)]) C.1 C.2.1 dX3_placeNear_103 hl (by decide) rfl (fun ls hl => ?_)
  refine lv_iload C.1 C.2.1 dX3_placeNear_105 (lv_at hl 2 rfl) ?_
  refine lv_iload C.1 C.2.1 dX3_placeNear_107 (lv_at hl 1 rfl) ?_
  refine lv_iload C.1 C.2.1 dX3_placeNear_109 (lv_at hl 0 rfl) ?_
  refine x_ki C w [] [0, 1] rfl rfl (by decide) (by decide) (va_runSN (As := [.int 0, .int (-1), .int 0]) (rest := []) (xfix C) (c162_X4_isBetween l G cy sa sv (xtr C) _) ⟨(va_cnB 3 (xhts C) (xgI gc_X4_isBetween) rfl rfl rfl (xs_mB (xS C)) (xhts C _ (List.mem_cons_of_mem _ gw_2)) (by decide +kernel) ⟨(Nat.le_of_ble_eq_true rfl), (Nat.le_of_ble_eq_true rfl)⟩), xhts C _ (List.mem_cons_of_mem _ gw_422), trivial⟩ (xPS C w [] rfl (by decide)) rfl rfl hl.1 rfl (lv_room (Nat.le_of_ble_eq_true rfl)) dX3_placeNear_111 ⟨(Nat.le_of_ble_eq_true rfl), (Nat.le_of_ble_eq_true rfl)⟩) (fun f1033 H locs w => ?_)
  have w : xW G A s [(h0, .inr (7, [.ref h1, .ref h2])), (h1, .inr (6, [.ref h3, .int 0]))] H _ := w
  refine lv_if_eq (tgt := 122) C.1 C.2.1 dX3_placeNear_114 (by decide) (fun _ => ?_) (fun c9 => absurd (by decide) c9)
  refine lv_iconst (v := (-1)) C.1 C.2.1 dX3_placeNear_122 (by decide) ?_
  exact x_iret C w hr (fun _ => 0) rfl rfl dX3_placeNear_123 (Nat.le_of_ble_eq_true rfl) (Nat.le_of_ble_eq_true rfl)
set_option maxHeartbeats 4000000 in
set_option maxRecDepth 100000 in
theorem c172_X4_rangeNear (l : Launch) (G : va_G) (cy : Nat → ClassId) (sa : String → Nat → Nat) (sv : Nat → Nat) (h0 h1 h2 h3 h4 h5 h6 h7 h8 h9 h10 : Nat) (v0 : Int32) : xX l G cy sa sv yX4_rangeNear (Cond.code yX4_rangeNear cX4_rangeNear 6 (some .int) :: XG) { frames := 12, cells := 1, slots := 6, locals := 341 } [.ref h0, .int (-2147483648), .int 2147483647, .int v0, .int 3] [(h0, .inr (8, [.ref h1, .ref h3, .ref h4, .ref h5, .ref h6, .int 0, .ref h7, .ref h8])), (h1, .inr (7, [.ref h2, .ref h9])), (h2, .inr (6, [.ref h10, .int 0]))] (fun f => [(h0, .inr (8, [.ref h1, .ref h3, .ref h4, .ref h5, .ref h6, .int 0, .ref h7, .ref h8])), (h1, .inr (7, [.ref h2, .ref h9])), (h2, .inr (6, [.ref h10, .int 0]))]) "java/lang/IllegalStateException" := by
  refine xofX (by decide) (Nat.le_of_ble_eq_true rfl) (fun p e s m below meth c A C w hno ls hl => ?_)
  have hl : lv_has ls 6 [(0, .ref h0), (1, .int (-2147483648)), (2, .int 2147483647), (3, .int v0), (4, .int 3)] := hl
  refine lv_iload_n C.1 C.2.1 dX4_rangeNear_0 rfl (lv_at hl 1 rfl) ?_
  refine lv_iload_n C.1 C.2.1 dX4_rangeNear_1 rfl (lv_at hl 2 rfl) ?_
  refine x_kv C w [] [0, 1, 2] rfl rfl (by decide) (by decide) (va_runS (As := [.int (-2147483648), .int 2147483647]) (rest := []) (xfix C) (c131_X4_checkRange l G cy sa sv (xtr C) _) (va_cwS 2 (xhts C) (xgS gw_390 gw_391 gw_2 gc_X4_checkRange) rfl rfl rfl (by decide +kernel) ⟨(Nat.le_of_ble_eq_true rfl), (Nat.le_of_ble_eq_true rfl)⟩) (xPS C w [] rfl (by decide)) rfl rfl hl.1 rfl (lv_room (Nat.le_of_ble_eq_true rfl)) dX4_rangeNear_2 ⟨(Nat.le_of_ble_eq_true rfl), (Nat.le_of_ble_eq_true rfl)⟩) (fun f1019 H locs w => ?_)
  have w : xW G A s [(h0, .inr (8, [.ref h1, .ref h3, .ref h4, .ref h5, .ref h6, .int 0, .ref h7, .ref h8])), (h1, .inr (7, [.ref h2, .ref h9])), (h2, .inr (6, [.ref h10, .int 0]))] H _ := w
  refine lv_iload C.1 C.2.1 dX4_rangeNear_5 (lv_at hl 4 rfl) ?_
  refine x_kv C w [] [0, 1, 2] rfl rfl (by decide) (by decide) (va_runS (As := [.int 3]) (rest := []) (xfix C) (c170_X4_checkHow l G cy sa sv (xtr C) _) (va_cwS 1 (xhts C) (xgS gw_416 gw_417 gw_2 gc_X4_checkHow) rfl rfl rfl (by decide +kernel) ⟨(Nat.le_of_ble_eq_true rfl), (Nat.le_of_ble_eq_true rfl)⟩) (xPS C w [] rfl (by decide)) rfl rfl hl.1 rfl (lv_room (Nat.le_of_ble_eq_true rfl)) dX4_rangeNear_7 ⟨(Nat.le_of_ble_eq_true rfl), (Nat.le_of_ble_eq_true rfl)⟩) (fun f1020 H locs w => ?_)
  have w : xW G A s [(h0, .inr (8, [.ref h1, .ref h3, .ref h4, .ref h5, .ref h6, .int 0, .ref h7, .ref h8])), (h1, .inr (7, [.ref h2, .ref h9])), (h2, .inr (6, [.ref h10, .int 0]))] H _ := w
  refine lv_aload_n C.1 C.2.1 dX4_rangeNear_10 rfl (lv_at hl 0 rfl) ?_
  refine x_get (v := .ref h1) C w 0 8 0 (xin_X4 _) rfl rfl (by decide) (List.mem_cons_of_mem _ gw_24) rfl rfl dX4_rangeNear_11 ?_
  refine lv_iload_n C.1 C.2.1 dX4_rangeNear_14 rfl (lv_at hl 1 rfl) ?_
  refine lv_iload_n C.1 C.2.1 dX4_rangeNear_15 rfl (lv_at hl 2 rfl) ?_
  refine lv_iload_n C.1 C.2.1 dX4_rangeNear_16 rfl (lv_at hl 3 rfl) ?_
  refine lv_iload C.1 C.2.1 dX4_rangeNear_17 (lv_at hl 4 rfl) ?_
  refine x_ki C w [1, 2] [0] rfl rfl (by decide) (by decide) (va_runV (As := [.int (-2147483648), .int 2147483647, .int v0, .int 3]) (rest := []) (xfix C) (c171_X3_placeNear l G cy sa sv h1 h2 h9 h10 v0 (xtr C) _) (cwV 4 (xhts C) (xgV (maxL := 0) (cc := ⟨#[]⟩) (ret := none) gw_424 gw_425 gw_426 gw_7 gc_X3_placeNear) rfl rfl rfl (by decide +kernel) ⟨(Nat.le_of_ble_eq_true rfl), (Nat.le_of_ble_eq_true rfl)⟩) (xPV C w [1, 2] rfl (by decide) (ci := 7) (q0 := 1) rfl rfl) rfl rfl hl.1 rfl (lv_room (Nat.le_of_ble_eq_true rfl)) dX4_rangeNear_19 ⟨(Nat.le_of_ble_eq_true rfl), (Nat.le_of_ble_eq_true rfl)⟩) (fun f1034 H locs w => ?_)
  have w : xW G A s [(h0, .inr (8, [.ref h1, .ref h3, .ref h4, .ref h5, .ref h6, .int 0, .ref h7, .ref h8])), (h1, .inr (7, [.ref h2, .ref h9])), (h2, .inr (6, [.ref h10, .int 0]))] H _ := w
  refine lv_istore (lv' := [(5, .int (-1)), (0, .ref h0), (1, .int (-2147483648)), (2, .int 2147483647), (3, .int v0), (4, .int 3)]) C.1 C.2.1 dX4_rangeNear_22 hl (by decide) rfl (fun ls hl => ?_)
  refine lv_iload C.1 C.2.1 dX4_rangeNear_24 (lv_at hl 0 rfl) ?_
  refine lv_iconst (v := (-1)) C.1 C.2.1 dX4_rangeNear_26 (by decide) ?_
  refine lv_icmp_ne (tgt := 40) C.1 C.2.1 dX4_rangeNear_27 (by decide) (fun c9 => absurd (by decide) c9) (fun _ => ?_)
  exact x_thr C w hno hl.1 (by decide) (List.mem_cons_of_mem _ gw_397) (List.mem_cons_of_mem _ gw_398) (tx := "there is no such key") (List.mem_of_getElem? (i := 1) rfl) (xat_161 C (fun w h => List.mem_cons_of_mem _ h)) xatg_161 dX4_rangeNear_30 dX4_rangeNear_33 dX4_rangeNear_34 dX4_rangeNear_36 dX4_rangeNear_39 (Nat.le_of_ble_eq_true rfl) (Nat.le_of_ble_eq_true rfl) (Nat.le_of_ble_eq_true rfl) (Nat.le_of_ble_eq_true rfl) rfl rfl (fun _ => 0) rfl
set_option maxHeartbeats 4000000 in
set_option maxRecDepth 100000 in
theorem c173_X4_near (l : Launch) (G : va_G) (cy : Nat → ClassId) (sa : String → Nat → Nat) (sv : Nat → Nat) (h0 h1 h2 h3 h4 h5 h6 h7 h8 h9 h10 : Nat) (v0 : Int32) : xX l G cy sa sv yX4_near (Cond.code yX4_near cX4_near 3 (some .int) :: XG) { frames := 13, cells := 1, slots := 6, locals := 366 } [.ref h0, .int v0, .int 3] [(h0, .inr (8, [.ref h1, .ref h3, .ref h4, .ref h5, .ref h6, .int 0, .ref h7, .ref h8])), (h1, .inr (7, [.ref h2, .ref h9])), (h2, .inr (6, [.ref h10, .int 0]))] (fun f => [(h0, .inr (8, [.ref h1, .ref h3, .ref h4, .ref h5, .ref h6, .int 0, .ref h7, .ref h8])), (h1, .inr (7, [.ref h2, .ref h9])), (h2, .inr (6, [.ref h10, .int 0]))]) "java/lang/IllegalStateException" := by
  refine xofX (by decide) (Nat.le_of_ble_eq_true rfl) (fun p e s m below meth c A C w hno ls hl => ?_)
  have hl : lv_has ls 3 [(0, .ref h0), (1, .int v0), (2, .int 3)] := hl
  refine lv_aload_n C.1 C.2.1 dX4_near_0 rfl (lv_at hl 0 rfl) ?_
  refine x_ldc (v := (-2147483648)) C (List.mem_cons_of_mem _ gw_305) dX4_near_1 ?_
  refine x_ldc (v := 2147483647) C (List.mem_cons_of_mem _ gw_306) dX4_near_3 ?_
  refine lv_iload_n C.1 C.2.1 dX4_near_5 rfl (lv_at hl 1 rfl) ?_
  refine lv_iload_n C.1 C.2.1 dX4_near_6 rfl (lv_at hl 2 rfl) ?_
  refine x_kx C w [0, 1, 2] [] rfl rfl (by decide) (by decide) (vx_runV (As := [.int (-2147483648), .int 2147483647, .int v0, .int 3]) (rest := []) (xfix C) (c172_X4_rangeNear l G cy sa sv h0 h1 h2 h3 h4 h5 h6 h7 h8 h9 h10 v0 (xtr C) _) (cwV 4 (xhts C) (xgV (maxL := 0) (cc := ⟨#[]⟩) (ret := none) gw_428 gw_429 gw_430 gw_2 gc_X4_rangeNear) rfl rfl rfl (by decide +kernel) ⟨(Nat.le_of_ble_eq_true rfl), (Nat.le_of_ble_eq_true rfl)⟩) (xPV C w [0, 1, 2] rfl (by decide) (ci := 8) (q0 := 0) rfl rfl) rfl rfl hl.1 rfl (lv_room (Nat.le_of_ble_eq_true rfl)) dX4_near_7 ⟨(Nat.le_of_ble_eq_true rfl), (Nat.le_of_ble_eq_true rfl)⟩) (fun f1035 H locs ce q9 w hce hcv hcl => ?_)
  have w : xW G A s [(h0, .inr (8, [.ref h1, .ref h3, .ref h4, .ref h5, .ref h6, .int 0, .ref h7, .ref h8])), (h1, .inr (7, [.ref h2, .ref h9])), (h2, .inr (6, [.ref h10, .int 0]))] H _ := w
  refine vx_widen (k := 1) (n := 6) (Nat.le_of_ble_eq_true rfl) (Nat.le_of_ble_eq_true rfl) ?_
  exact x_out C w hno (fun _ => 0) rfl hce hcv hcl (Nat.le_of_ble_eq_true rfl) (Nat.le_of_ble_eq_true rfl)
set_option maxHeartbeats 4000000 in
set_option maxRecDepth 100000 in
theorem c174_L_near (l : Launch) (G : va_G) (cy : Nat → ClassId) (sa : String → Nat → Nat) (sv : Nat → Nat) (h0 h1 h2 h3 h4 h5 h6 h7 h8 h9 h10 h11 : Nat) (v0 : Int32) : xM l G cy sa sv yL_near (Cond.codeWith yL_near cL_near 5 (some .int) [(0, 11, 14, 19), (0, 11, 18, 21)] :: XG) { frames := 14, cells := 1, slots := 6, locals := 388 } [.ref h0, .int v0, .int 3, .ref h1] [(h0, .inr (8, [.ref h2, .ref h4, .ref h5, .ref h6, .ref h7, .int 0, .ref h8, .ref h9])), (h2, .inr (7, [.ref h3, .ref h10])), (h3, .inr (6, [.ref h11, .int 0]))] (xQi G (fun f => [(h0, .inr (8, [.ref h2, .ref h4, .ref h5, .ref h6, .ref h7, .int 0, .ref h8, .ref h9])), (h2, .inr (7, [.ref h3, .ref h10])), (h3, .inr (6, [.ref h11, .int 0]))]) 2) := by
  refine xofH (by decide) (Nat.le_of_ble_eq_true rfl) (fun p e s m below meth c A C w hr hn hT ls hl => ?_)
  have hl : lv_has ls 5 [(0, .ref h0), (1, .int v0), (2, .int 3), (3, .ref h1)] := hl
  refine lv_aload_n C.1 C.2.1 dL_near_0 rfl (lv_at hl 3 rfl) ?_
  refine lv_aload_n C.1 C.2.1 dL_near_1 rfl (lv_at hl 0 rfl) ?_
  refine lv_iload_n C.1 C.2.1 dL_near_2 rfl (lv_at hl 1 rfl) ?_
  refine lv_iload_n C.1 C.2.1 dL_near_3 rfl (lv_at hl 2 rfl) ?_
  refine x_kx C w [0, 1, 2] [] rfl rfl (by decide) (by decide) (vx_runV (As := [.int v0, .int 3]) (rest := [.ref h1]) (xfix C) (c173_X4_near l G cy sa sv h0 h2 h3 h4 h5 h6 h7 h8 h9 h10 h11 v0 (xtr C) _) (cwV 2 (xhts C) (xgV (maxL := 0) (cc := ⟨#[]⟩) (ret := none) gw_432 gw_433 gw_434 gw_2 gc_X4_near) rfl rfl rfl (by decide +kernel) ⟨(Nat.le_of_ble_eq_true rfl), (Nat.le_of_ble_eq_true rfl)⟩) (xPV C w [0, 1, 2] rfl (by decide) (ci := 8) (q0 := 0) rfl rfl) rfl rfl hl.1 rfl (lv_room (Nat.le_of_ble_eq_true rfl)) dL_near_4 ⟨(Nat.le_of_ble_eq_true rfl), (Nat.le_of_ble_eq_true rfl)⟩) (fun f1036 H locs ce q9 w hce hcv hcl => ?_)
  have w : xW G A s [(h0, .inr (8, [.ref h2, .ref h4, .ref h5, .ref h6, .ref h7, .int 0, .ref h8, .ref h9])), (h2, .inr (7, [.ref h3, .ref h10])), (h3, .inr (6, [.ref h11, .int 0]))] H _ := w
  refine vx_widen (k := 1) (n := 6) (Nat.le_of_ble_eq_true rfl) (Nat.le_of_ble_eq_true rfl) ?_
  refine vx_catch (xown C) [⟨0, 11, 14, 19⟩] ⟨0, 11, 18, 21⟩ [] hT (fun z hz => Or.inr (by cases List.mem_singleton.mp hz; exact ⟨by decide, "java/lang/IllegalArgumentException", xhts C _ (List.mem_cons_of_mem _ gw_104), xs_n1 (xS C)⟩)) (by decide) (by decide) (xhts C _ (List.mem_cons_of_mem _ gw_407)) (va_any rfl (xs_c2 (xS C))) hce hcv hcl ?_
  refine lv_astore (lv' := [(4, .ref q9), (0, .ref h0), (1, .int v0), (2, .int 3), (3, .ref h1)]) C.1 C.2.1 dL_near_18 hl (by decide) rfl (fun ls hl => ?_)
  refine lv_iconst (v := 2) C.1 C.2.1 dL_near_20 (by decide) ?_
  exact x_iret C w hr (fun _ => 0) rfl rfl dL_near_21 (Nat.le_of_ble_eq_true rfl) (Nat.le_of_ble_eq_true rfl)
set_option maxHeartbeats 4000000 in
set_option maxRecDepth 100000 in
theorem c175_X6_isNoHow (l : Launch) (G : va_G) (cy : Nat → ClassId) (sa : String → Nat → Nat) (sv : Nat → Nat) : xM l G cy sa sv yX6_isNoHow (Cond.code yX6_isNoHow cX6_isNoHow 1 (some .boolean) :: XG) { frames := 8, cells := 0, slots := 0, locals := 250 } [.int 3] [] (xQi G (fun f => []) 0) := by
  refine xof (by decide) (Nat.le_of_ble_eq_true rfl) (fun p e s m below meth c A C w hr hn ls hl => ?_)
  have hl : lv_has ls 1 [(0, .int 3)] := hl
  refine lv_iload_n C.1 C.2.1 dX6_isNoHow_0 rfl (lv_at hl 0 rfl) ?_
  refine lv_if_lt (tgt := 9) C.1 C.2.1 dX6_isNoHow_1 (by decide) (fun c9 => absurd c9 (by decide)) (fun _ => ?_)
  refine lv_iload_n C.1 C.2.1 dX6_isNoHow_4 rfl (lv_at hl 0 rfl) ?_
  refine lv_iconst (v := 3) C.1 C.2.1 dX6_isNoHow_5 (by decide) ?_
  refine lv_icmp_le (tgt := 13) C.1 C.2.1 dX6_isNoHow_6 (by decide) (fun _ => ?_) (fun c9 => absurd (by decide) c9)
  refine lv_iconst (v := 0) C.1 C.2.1 dX6_isNoHow_13 (by decide) ?_
  exact x_zret C w hr rfl (fun _ => 0) rfl rfl dX6_isNoHow_14 (Nat.le_of_ble_eq_true rfl) (Nat.le_of_ble_eq_true rfl)
set_option maxHeartbeats 4000000 in
set_option maxRecDepth 100000 in
theorem c176_X6_nearIn (l : Launch) (G : va_G) (cy : Nat → ClassId) (sa : String → Nat → Nat) (sv : Nat → Nat) (h0 : Nat) (v0 : Int32) : xM l G cy sa sv yX6_nearIn (Cond.code yX6_nearIn cX6_nearIn 7 (some (.array .int)) :: XG) { frames := 9, cells := 0, slots := 0, locals := 270 } [.ref h0, .int v0, .int 3] [(h0, .inr (3, [.int 0, .ref (sv 0), .int 0]))] (xQn G (fun f => [(h0, .inr (3, [.int 0, .ref (sv 0), .int 0]))])) := by
  refine xof (by decide) (Nat.le_of_ble_eq_true rfl) (fun p e s m below meth c A C w hr hn ls hl => ?_)
  have hl : lv_has ls 7 [(0, .ref h0), (1, .int v0), (2, .int 3)] := hl
  refine lv_null C.1 C.2.1 dX6_nearIn_0 ?_
  refine lv_astore_nN (lv' := [(3, .null), (0, .ref h0), (1, .int v0), (2, .int 3)]) C.1 C.2.1 dX6_nearIn_1 rfl hl (by decide) rfl (fun ls hl => ?_)
  refine lv_iconst (v := 0) C.1 C.2.1 dX6_nearIn_2 (by decide) ?_
  refine lv_istore (lv' := [(4, .int 0), (3, .null), (0, .ref h0), (1, .int v0), (2, .int 3)]) C.1 C.2.1 dX6_nearIn_3 hl (by decide) rfl (fun ls hl => ?_)
  refine lv_iload C.1 C.2.1 dX6_nearIn_5 (lv_at hl 0 rfl) ?_
  refine lv_aload_n C.1 C.2.1 dX6_nearIn_7 rfl (lv_at hl 2 rfl) ?_
  refine x_ki C w [0] [] rfl rfl (by decide) (by decide) (va_runV (As := []) (rest := [.int 0]) (xfix C) (c47_Jx4a65c_size_8abf5 l G cy sa sv h0 (xtr C) _) (cwV 0 (xhts C) (xgV (maxL := 0) (cc := ⟨#[]⟩) (ret := none) gw_195 gw_196 gw_197 gw_62 gc_Jx4a65c_size_8abf5) rfl rfl rfl (by decide +kernel) ⟨(Nat.le_of_ble_eq_true rfl), (Nat.le_of_ble_eq_true rfl)⟩) (xPV C w [0] rfl (by decide) (ci := 3) (q0 := 0) rfl rfl) rfl rfl hl.1 rfl (lv_room (Nat.le_of_ble_eq_true rfl)) dX6_nearIn_8 ⟨(Nat.le_of_ble_eq_true rfl), (Nat.le_of_ble_eq_true rfl)⟩) (fun f1041 H locs w => ?_)
  have w : xW G A s [(h0, .inr (3, [.int 0, .ref (sv 0), .int 0]))] H _ := w
  refine lv_icmp_ge (tgt := 145) C.1 C.2.1 dX6_nearIn_11 (by decide) (fun _ => ?_) (fun c9 => absurd (by decide) c9)
  refine lv_aload_nN C.1 C.2.1 dX6_nearIn_145 rfl (lv_at hl 1 rfl) ?_
  exact x_nret C w hr (Or.inr ⟨_, rfl⟩) (fun _ => 0) rfl dX6_nearIn_146 (Nat.le_of_ble_eq_true rfl) (Nat.le_of_ble_eq_true rfl)
set_option maxHeartbeats 4000000 in
set_option maxRecDepth 100000 in
theorem c177_X6_near (l : Launch) (G : va_G) (cy : Nat → ClassId) (sa : String → Nat → Nat) (sv : Nat → Nat) (h0 h1 h2 h3 h4 h5 h6 h7 : Nat) (v0 : Int32) : xM l G cy sa sv yX6_near (Cond.code yX6_near cX6_near 3 (some .int) :: XG) { frames := 10, cells := 0, slots := 0, locals := 296 } [.ref h0, .int v0, .int 3] [(h0, .inr (10, [.ref h1, .ref h2, .ref h3, .ref h4, .ref h5, .ref h6, .ref h7, .int 0, .int 0])), (h1, .inr (3, [.int 0, .ref (sv 0), .int 0]))] (xQi G (fun f => [(h0, .inr (10, [.ref h1, .ref h2, .ref h3, .ref h4, .ref h5, .ref h6, .ref h7, .int 0, .int 2])), (h1, .inr (3, [.int 0, .ref (sv 0), .int 0]))]) 0) := by
  refine xof (by decide) (Nat.le_of_ble_eq_true rfl) (fun p e s m below meth c A C w hr hn ls hl => ?_)
  have hl : lv_has ls 3 [(0, .ref h0), (1, .int v0), (2, .int 3)] := hl
  refine lv_aload_n C.1 C.2.1 dX6_near_0 rfl (lv_at hl 0 rfl) ?_
  refine lv_iload_n C.1 C.2.1 dX6_near_1 rfl (lv_at hl 2 rfl) ?_
  refine x_ki C w [] [0, 1] rfl rfl (by decide) (by decide) (va_runS (As := [.int 3]) (rest := [.ref h0]) (xfix C) (c175_X6_isNoHow l G cy sa sv (xtr C) _) (va_cwS 1 (xhts C) (xgS gw_439 gw_440 gw_58 gc_X6_isNoHow) rfl rfl rfl (by decide +kernel) ⟨(Nat.le_of_ble_eq_true rfl), (Nat.le_of_ble_eq_true rfl)⟩) (xPS C w [] rfl (by decide)) rfl rfl hl.1 rfl (lv_room (Nat.le_of_ble_eq_true rfl)) dX6_near_2 ⟨(Nat.le_of_ble_eq_true rfl), (Nat.le_of_ble_eq_true rfl)⟩) (fun f1039 H locs w => ?_)
  have w : xW G A s [(h0, .inr (10, [.ref h1, .ref h2, .ref h3, .ref h4, .ref h5, .ref h6, .ref h7, .int 0, .int 0])), (h1, .inr (3, [.int 0, .ref (sv 0), .int 0]))] H _ := w
  refine lv_iconst (v := 1) C.1 C.2.1 dX6_near_5 (by decide) ?_
  refine x_ki C w [0] [1] rfl rfl (by decide) (by decide) (va_runV (As := [.int 0, .int 1]) (rest := []) (xfix C) (c46_X6_start l G cy sa sv h0 h1 h2 h3 h4 h5 h6 h7 (xtr C) _) (cwV 2 (xhts C) (xgV (maxL := 0) (cc := ⟨#[]⟩) (ret := none) gw_114 gw_115 gw_116 gw_58 gc_X6_start) rfl rfl rfl (by decide +kernel) ⟨(Nat.le_of_ble_eq_true rfl), (Nat.le_of_ble_eq_true rfl)⟩) (xPV C w [0] rfl (by decide) (ci := 10) (q0 := 0) rfl rfl) rfl rfl hl.1 rfl (lv_room (Nat.le_of_ble_eq_true rfl)) dX6_near_6 ⟨(Nat.le_of_ble_eq_true rfl), (Nat.le_of_ble_eq_true rfl)⟩) (fun f1040 H locs w => ?_)
  have w : xW G A s [(h1, .inr (3, [.int 0, .ref (sv 0), .int 0])), (h0, .inr (10, [.ref h1, .ref h2, .ref h3, .ref h4, .ref h5, .ref h6, .ref h7, .int 0, .int 0]))] H _ := w
  refine lv_if_ne (tgt := 37) C.1 C.2.1 dX6_near_9 (by decide) (fun c9 => absurd (by decide) c9) (fun _ => ?_)
  refine lv_aload_n C.1 C.2.1 dX6_near_12 rfl (lv_at hl 0 rfl) ?_
  refine lv_aload_n C.1 C.2.1 dX6_near_13 rfl (lv_at hl 0 rfl) ?_
  refine x_get (v := .ref h1) C w 1 10 0 (xin_X6 _) rfl rfl (by decide) (List.mem_cons_of_mem _ gw_78) rfl rfl dX6_near_14 ?_
  refine lv_iload_n C.1 C.2.1 dX6_near_17 rfl (lv_at hl 1 rfl) ?_
  refine lv_iload_n C.1 C.2.1 dX6_near_18 rfl (lv_at hl 2 rfl) ?_
  refine x_kn C w [0] [1] rfl rfl (by decide) (by decide) (va_runS (As := [.ref h1, .int v0, .int 3]) (rest := [.ref h0]) (xfix C) (c176_X6_nearIn l G cy sa sv h1 v0 (xtr C) _) (va_cwS 3 (xhts C) (xgS gw_442 gw_443 gw_58 gc_X6_nearIn) rfl rfl rfl (by decide +kernel) ⟨(Nat.le_of_ble_eq_true rfl), (Nat.le_of_ble_eq_true rfl)⟩) (xPS C w [0] rfl (by decide)) rfl rfl hl.1 rfl (lv_room (Nat.le_of_ble_eq_true rfl)) dX6_near_19 ⟨(Nat.le_of_ble_eq_true rfl), (Nat.le_of_ble_eq_true rfl)⟩) (fun f1042 H locs w => ?_)
  have w : xW G A s [(h0, .inr (10, [.ref h1, .ref h2, .ref h3, .ref h4, .ref h5, .ref h6, .ref h7, .int 0, .int 0])), (h1, .inr (3, [.int 0, .ref (sv 0), .int 0]))] H _ := w
  refine lv_ifnonnullN C.1 C.2.1 dX6_near_22 ?_
  refine lv_iconst (v := 1) C.1 C.2.1 dX6_near_25 (by decide) ?_
  refine lv_goto (tgt := 30) C.1 C.2.1 dX6_near_26 (by decide) ?_
  refine lv_iconst (v := 2) C.1 C.2.1 dX6_near_30 (by decide) ?_
  refine x_ki C w [0] [1] rfl rfl (by decide) (by decide) (va_runV (As := [.int 1, .int 2]) (rest := []) (xfix C) (c149_X6_fails l G cy sa sv h0 h1 h2 h3 h4 h5 h6 h7 (xtr C) _) (cwV 2 (xhts C) (xgV (maxL := 0) (cc := ⟨#[]⟩) (ret := none) gw_203 gw_204 gw_205 gw_58 gc_X6_fails) rfl rfl rfl (by decide +kernel) ⟨(Nat.le_of_ble_eq_true rfl), (Nat.le_of_ble_eq_true rfl)⟩) (xPV C w [0] rfl (by decide) (ci := 10) (q0 := 0) rfl rfl) rfl rfl hl.1 rfl (lv_room (Nat.le_of_ble_eq_true rfl)) dX6_near_31 ⟨(Nat.le_of_ble_eq_true rfl), (Nat.le_of_ble_eq_true rfl)⟩) (fun f1043 H locs w => ?_)
  have w : xW G A s [(h1, .inr (3, [.int 0, .ref (sv 0), .int 0])), (h0, .inr (10, [.ref h1, .ref h2, .ref h3, .ref h4, .ref h5, .ref h6, .ref h7, .int 0, .int 2]))] H _ := w
  refine lv_if_eq (tgt := 41) C.1 C.2.1 dX6_near_34 (by decide) (fun c9 => absurd c9 (by decide)) (fun _ => ?_)
  refine lv_iconst (v := 0) C.1 C.2.1 dX6_near_37 (by decide) ?_
  refine lv_goto (tgt := 52) C.1 C.2.1 dX6_near_38 (by decide) ?_
  have w := w.sub (ws' := [(h0, .inr (10, [.ref h1, .ref h2, .ref h3, .ref h4, .ref h5, .ref h6, .ref h7, .int 0, .int 2])), (h1, .inr (3, [.int 0, .ref (sv 0), .int 0]))]) [1, 0] (by decide) rfl rfl
  exact x_iret C w hr (fun _ => 0) rfl rfl dX6_near_52 (Nat.le_of_ble_eq_true rfl) (Nat.le_of_ble_eq_true rfl)
set_option maxHeartbeats 4000000 in
set_option maxRecDepth 100000 in
theorem c178_X4_checkHow (l : Launch) (G : va_G) (cy : Nat → ClassId) (sa : String → Nat → Nat) (sv : Nat → Nat) (v0 : Int32) (p0 : v0 < 0) : xX l G cy sa sv yX4_checkHow (Cond.code yX4_checkHow cX4_checkHow 1 none :: XG) { frames := 8, cells := 1, slots := 6, locals := 250 } [.int v0] [] (fun f => []) "java/lang/IllegalArgumentException" := by
  refine xofX (by decide) (Nat.le_of_ble_eq_true rfl) (fun p e s m below meth c A C w hno ls hl => ?_)
  have hl : lv_has ls 1 [(0, .int v0)] := hl
  refine lv_iload_n C.1 C.2.1 dX4_checkHow_0 rfl (lv_at hl 0 rfl) ?_
  refine lv_if_lt (tgt := 9) C.1 C.2.1 dX4_checkHow_1 (by decide) (fun _ => ?_) (fun c9 => absurd p0 c9)
  exact x_thrW C w hno hl.1 (by decide) (List.mem_cons_of_mem _ gw_95) (List.mem_cons_of_mem _ gw_96) (tx := "how is not 0 to 3") (List.mem_of_getElem? (i := 8) rfl) (xat_203 C (fun w h => List.mem_cons_of_mem _ h)) xatg_203 dX4_checkHow_9 dX4_checkHow_12 dX4_checkHow_13 dX4_checkHow_16 dX4_checkHow_19 (Nat.le_of_ble_eq_true rfl) (Nat.le_of_ble_eq_true rfl) (Nat.le_of_ble_eq_true rfl) (Nat.le_of_ble_eq_true rfl) rfl rfl (fun _ => 0) rfl
set_option maxHeartbeats 4000000 in
set_option maxRecDepth 100000 in
theorem c179_X4_rangeNear (l : Launch) (G : va_G) (cy : Nat → ClassId) (sa : String → Nat → Nat) (sv : Nat → Nat) (h0 : Nat) (v0 v1 : Int32) (p0 : v1 < 0) : xX l G cy sa sv yX4_rangeNear (Cond.code yX4_rangeNear cX4_rangeNear 6 (some .int) :: XG) { frames := 9, cells := 1, slots := 6, locals := 271 } [.ref h0, .int (-2147483648), .int 2147483647, .int v0, .int v1] [] (fun f => []) "java/lang/IllegalArgumentException" := by
  refine xofX (by decide) (Nat.le_of_ble_eq_true rfl) (fun p e s m below meth c A C w hno ls hl => ?_)
  have hl : lv_has ls 6 [(0, .ref h0), (1, .int (-2147483648)), (2, .int 2147483647), (3, .int v0), (4, .int v1)] := hl
  refine lv_iload_n C.1 C.2.1 dX4_rangeNear_0 rfl (lv_at hl 1 rfl) ?_
  refine lv_iload_n C.1 C.2.1 dX4_rangeNear_1 rfl (lv_at hl 2 rfl) ?_
  refine x_kv C w [] [] rfl rfl (by decide) (by decide) (va_runS (As := [.int (-2147483648), .int 2147483647]) (rest := []) (xfix C) (c131_X4_checkRange l G cy sa sv (xtr C) _) (va_cwS 2 (xhts C) (xgS gw_390 gw_391 gw_2 gc_X4_checkRange) rfl rfl rfl (by decide +kernel) ⟨(Nat.le_of_ble_eq_true rfl), (Nat.le_of_ble_eq_true rfl)⟩) (xPS C w [] rfl (by decide)) rfl rfl hl.1 rfl (lv_room (Nat.le_of_ble_eq_true rfl)) dX4_rangeNear_2 ⟨(Nat.le_of_ble_eq_true rfl), (Nat.le_of_ble_eq_true rfl)⟩) (fun f1050 H locs w => ?_)
  have w : xW G A s [] H _ := w
  refine lv_iload C.1 C.2.1 dX4_rangeNear_5 (lv_at hl 4 rfl) ?_
  refine x_kx C w [] [] rfl rfl (by decide) (by decide) (vx_runS (As := [.int v1]) (rest := []) (xfix C) (c178_X4_checkHow l G cy sa sv v1 p0 (xtr C) _) (va_cwS 1 (xhts C) (xgS gw_416 gw_417 gw_2 gc_X4_checkHow) rfl rfl rfl (by decide +kernel) ⟨(Nat.le_of_ble_eq_true rfl), (Nat.le_of_ble_eq_true rfl)⟩) (xPS C w [] rfl (by decide)) rfl rfl hl.1 rfl (lv_room (Nat.le_of_ble_eq_true rfl)) dX4_rangeNear_7 ⟨(Nat.le_of_ble_eq_true rfl), (Nat.le_of_ble_eq_true rfl)⟩) (fun f1051 H locs ce q9 w hce hcv hcl => ?_)
  have w : xW G A s [] H _ := w
  refine vx_widen (k := 1) (n := 6) (Nat.le_of_ble_eq_true rfl) (Nat.le_of_ble_eq_true rfl) ?_
  exact x_out C w hno (fun _ => 0) rfl hce hcv hcl (Nat.le_of_ble_eq_true rfl) (Nat.le_of_ble_eq_true rfl)
set_option maxHeartbeats 4000000 in
set_option maxRecDepth 100000 in
theorem c180_X4_near (l : Launch) (G : va_G) (cy : Nat → ClassId) (sa : String → Nat → Nat) (sv : Nat → Nat) (h0 h1 h2 h3 h4 h5 h6 h7 : Nat) (v0 v1 : Int32) (p0 : v1 < 0) : xX l G cy sa sv yX4_near (Cond.code yX4_near cX4_near 3 (some .int) :: XG) { frames := 10, cells := 1, slots := 6, locals := 296 } [.ref h0, .int v0, .int v1] [(h0, .inr (8, [.ref h1, .ref h2, .ref h3, .ref h4, .ref h5, .int 0, .ref h6, .ref h7]))] (fun f => [(h0, .inr (8, [.ref h1, .ref h2, .ref h3, .ref h4, .ref h5, .int 0, .ref h6, .ref h7]))]) "java/lang/IllegalArgumentException" := by
  refine xofX (by decide) (Nat.le_of_ble_eq_true rfl) (fun p e s m below meth c A C w hno ls hl => ?_)
  have hl : lv_has ls 3 [(0, .ref h0), (1, .int v0), (2, .int v1)] := hl
  refine lv_aload_n C.1 C.2.1 dX4_near_0 rfl (lv_at hl 0 rfl) ?_
  refine x_ldc (v := (-2147483648)) C (List.mem_cons_of_mem _ gw_305) dX4_near_1 ?_
  refine x_ldc (v := 2147483647) C (List.mem_cons_of_mem _ gw_306) dX4_near_3 ?_
  refine lv_iload_n C.1 C.2.1 dX4_near_5 rfl (lv_at hl 1 rfl) ?_
  refine lv_iload_n C.1 C.2.1 dX4_near_6 rfl (lv_at hl 2 rfl) ?_
  refine x_kx C w [] [0] rfl rfl (by decide) (by decide) (vx_runV (As := [.int (-2147483648), .int 2147483647, .int v0, .int v1]) (rest := []) (xfix C) (c179_X4_rangeNear l G cy sa sv h0 v0 v1 p0 (xtr C) _) (cwV 4 (xhts C) (xgV (maxL := 0) (cc := ⟨#[]⟩) (ret := none) gw_428 gw_429 gw_430 gw_2 gc_X4_rangeNear) rfl rfl rfl (by decide +kernel) ⟨(Nat.le_of_ble_eq_true rfl), (Nat.le_of_ble_eq_true rfl)⟩) (xPV C w [] rfl (by decide) (ci := 8) (q0 := 0) rfl rfl) rfl rfl hl.1 rfl (lv_room (Nat.le_of_ble_eq_true rfl)) dX4_near_7 ⟨(Nat.le_of_ble_eq_true rfl), (Nat.le_of_ble_eq_true rfl)⟩) (fun f1052 H locs ce q9 w hce hcv hcl => ?_)
  have w : xW G A s [(h0, .inr (8, [.ref h1, .ref h2, .ref h3, .ref h4, .ref h5, .int 0, .ref h6, .ref h7]))] H _ := w
  refine vx_widen (k := 1) (n := 6) (Nat.le_of_ble_eq_true rfl) (Nat.le_of_ble_eq_true rfl) ?_
  exact x_out C w hno (fun _ => 0) rfl hce hcv hcl (Nat.le_of_ble_eq_true rfl) (Nat.le_of_ble_eq_true rfl)
set_option maxHeartbeats 4000000 in
set_option maxRecDepth 100000 in
theorem c181_L_near (l : Launch) (G : va_G) (cy : Nat → ClassId) (sa : String → Nat → Nat) (sv : Nat → Nat) (h0 h1 h2 h3 h4 h5 h6 h7 h8 : Nat) (v0 v1 : Int32) (p0 : v1 < 0) : xM l G cy sa sv yL_near (Cond.codeWith yL_near cL_near 5 (some .int) [(0, 11, 14, 19), (0, 11, 18, 21)] :: XG) { frames := 11, cells := 1, slots := 6, locals := 318 } [.ref h0, .int v0, .int v1, .ref h1] [(h0, .inr (8, [.ref h2, .ref h3, .ref h4, .ref h5, .ref h6, .int 0, .ref h7, .ref h8]))] (xQi G (fun f => [(h0, .inr (8, [.ref h2, .ref h3, .ref h4, .ref h5, .ref h6, .int 0, .ref h7, .ref h8]))]) 1) := by
  refine xofH (by decide) (Nat.le_of_ble_eq_true rfl) (fun p e s m below meth c A C w hr hn hT ls hl => ?_)
  have hl : lv_has ls 5 [(0, .ref h0), (1, .int v0), (2, .int v1), (3, .ref h1)] := hl
  refine lv_aload_n C.1 C.2.1 dL_near_0 rfl (lv_at hl 3 rfl) ?_
  refine lv_aload_n C.1 C.2.1 dL_near_1 rfl (lv_at hl 0 rfl) ?_
  refine lv_iload_n C.1 C.2.1 dL_near_2 rfl (lv_at hl 1 rfl) ?_
  refine lv_iload_n C.1 C.2.1 dL_near_3 rfl (lv_at hl 2 rfl) ?_
  refine x_kx C w [0] [] rfl rfl (by decide) (by decide) (vx_runV (As := [.int v0, .int v1]) (rest := [.ref h1]) (xfix C) (c180_X4_near l G cy sa sv h0 h2 h3 h4 h5 h6 h7 h8 v0 v1 p0 (xtr C) _) (cwV 2 (xhts C) (xgV (maxL := 0) (cc := ⟨#[]⟩) (ret := none) gw_432 gw_433 gw_434 gw_2 gc_X4_near) rfl rfl rfl (by decide +kernel) ⟨(Nat.le_of_ble_eq_true rfl), (Nat.le_of_ble_eq_true rfl)⟩) (xPV C w [0] rfl (by decide) (ci := 8) (q0 := 0) rfl rfl) rfl rfl hl.1 rfl (lv_room (Nat.le_of_ble_eq_true rfl)) dL_near_4 ⟨(Nat.le_of_ble_eq_true rfl), (Nat.le_of_ble_eq_true rfl)⟩) (fun f1053 H locs ce q9 w hce hcv hcl => ?_)
  have w : xW G A s [(h0, .inr (8, [.ref h2, .ref h3, .ref h4, .ref h5, .ref h6, .int 0, .ref h7, .ref h8]))] H _ := w
  refine vx_widen (k := 1) (n := 6) (Nat.le_of_ble_eq_true rfl) (Nat.le_of_ble_eq_true rfl) ?_
  refine vx_catch (xown C) [] ⟨0, 11, 14, 19⟩ [⟨0, 11, 18, 21⟩] hT (fun z hz => nomatch hz) (by decide) (by decide) (xhts C _ (List.mem_cons_of_mem _ gw_104)) (va_any rfl (xs_c1 (xS C))) hce hcv hcl ?_
  refine lv_astore (lv' := [(4, .ref q9), (0, .ref h0), (1, .int v0), (2, .int v1), (3, .ref h1)]) C.1 C.2.1 dL_near_14 hl (by decide) rfl (fun ls hl => ?_)
  refine lv_iconst (v := 1) C.1 C.2.1 dL_near_16 (by decide) ?_
  exact x_iret C w hr (fun _ => 0) rfl rfl dL_near_17 (Nat.le_of_ble_eq_true rfl) (Nat.le_of_ble_eq_true rfl)
set_option maxHeartbeats 4000000 in
set_option maxRecDepth 100000 in
theorem c182_X6_isNoHow (l : Launch) (G : va_G) (cy : Nat → ClassId) (sa : String → Nat → Nat) (sv : Nat → Nat) (v0 : Int32) (p0 : v0 < 0) : xM l G cy sa sv yX6_isNoHow (Cond.code yX6_isNoHow cX6_isNoHow 1 (some .boolean) :: XG) { frames := 8, cells := 0, slots := 0, locals := 250 } [.int v0] [] (xQi G (fun f => []) 1) := by
  refine xof (by decide) (Nat.le_of_ble_eq_true rfl) (fun p e s m below meth c A C w hr hn ls hl => ?_)
  have hl : lv_has ls 1 [(0, .int v0)] := hl
  refine lv_iload_n C.1 C.2.1 dX6_isNoHow_0 rfl (lv_at hl 0 rfl) ?_
  refine lv_if_lt (tgt := 9) C.1 C.2.1 dX6_isNoHow_1 (by decide) (fun _ => ?_) (fun c9 => absurd p0 c9)
  refine lv_iconst (v := 1) C.1 C.2.1 dX6_isNoHow_9 (by decide) ?_
  refine lv_goto (tgt := 14) C.1 C.2.1 dX6_isNoHow_10 (by decide) ?_
  exact x_zret C w hr rfl (fun _ => 0) rfl rfl dX6_isNoHow_14 (Nat.le_of_ble_eq_true rfl) (Nat.le_of_ble_eq_true rfl)
set_option maxHeartbeats 4000000 in
set_option maxRecDepth 100000 in
theorem c183_X6_near (l : Launch) (G : va_G) (cy : Nat → ClassId) (sa : String → Nat → Nat) (sv : Nat → Nat) (h0 h1 h2 h3 h4 h5 h6 h7 : Nat) (v0 v1 : Int32) (p0 : v1 < 0) : xM l G cy sa sv yX6_near (Cond.code yX6_near cX6_near 3 (some .int) :: XG) { frames := 9, cells := 0, slots := 0, locals := 272 } [.ref h0, .int v0, .int v1] [(h0, .inr (10, [.ref h1, .ref h2, .ref h3, .ref h4, .ref h5, .ref h6, .ref h7, .int 0, .int 0]))] (xQi G (fun f => [(h0, .inr (10, [.ref h1, .ref h2, .ref h3, .ref h4, .ref h5, .ref h6, .ref h7, .int 0, .int 1]))]) 0) := by
  refine xof (by decide) (Nat.le_of_ble_eq_true rfl) (fun p e s m below meth c A C w hr hn ls hl => ?_)
  have hl : lv_has ls 3 [(0, .ref h0), (1, .int v0), (2, .int v1)] := hl
  refine lv_aload_n C.1 C.2.1 dX6_near_0 rfl (lv_at hl 0 rfl) ?_
  refine lv_iload_n C.1 C.2.1 dX6_near_1 rfl (lv_at hl 2 rfl) ?_
  refine x_ki C w [] [0] rfl rfl (by decide) (by decide) (va_runS (As := [.int v1]) (rest := [.ref h0]) (xfix C) (c182_X6_isNoHow l G cy sa sv v1 p0 (xtr C) _) (va_cwS 1 (xhts C) (xgS gw_439 gw_440 gw_58 gc_X6_isNoHow) rfl rfl rfl (by decide +kernel) ⟨(Nat.le_of_ble_eq_true rfl), (Nat.le_of_ble_eq_true rfl)⟩) (xPS C w [] rfl (by decide)) rfl rfl hl.1 rfl (lv_room (Nat.le_of_ble_eq_true rfl)) dX6_near_2 ⟨(Nat.le_of_ble_eq_true rfl), (Nat.le_of_ble_eq_true rfl)⟩) (fun f1056 H locs w => ?_)
  have w : xW G A s [(h0, .inr (10, [.ref h1, .ref h2, .ref h3, .ref h4, .ref h5, .ref h6, .ref h7, .int 0, .int 0]))] H _ := w
  refine lv_iconst (v := 1) C.1 C.2.1 dX6_near_5 (by decide) ?_
  refine x_ki C w [0] [] rfl rfl (by decide) (by decide) (va_runV (As := [.int 1, .int 1]) (rest := []) (xfix C) (c17_X6_start l G cy sa sv h0 h1 h2 h3 h4 h5 h6 h7 (xtr C) _) (cwV 2 (xhts C) (xgV (maxL := 0) (cc := ⟨#[]⟩) (ret := none) gw_114 gw_115 gw_116 gw_58 gc_X6_start) rfl rfl rfl (by decide +kernel) ⟨(Nat.le_of_ble_eq_true rfl), (Nat.le_of_ble_eq_true rfl)⟩) (xPV C w [0] rfl (by decide) (ci := 10) (q0 := 0) rfl rfl) rfl rfl hl.1 rfl (lv_room (Nat.le_of_ble_eq_true rfl)) dX6_near_6 ⟨(Nat.le_of_ble_eq_true rfl), (Nat.le_of_ble_eq_true rfl)⟩) (fun f1057 H locs w => ?_)
  have w : xW G A s [(h0, .inr (10, [.ref h1, .ref h2, .ref h3, .ref h4, .ref h5, .ref h6, .ref h7, .int 0, .int 1]))] H _ := w
  refine lv_if_ne (tgt := 37) C.1 C.2.1 dX6_near_9 (by decide) (fun _ => ?_) (fun c9 => absurd c9 (by decide))
  refine lv_iconst (v := 0) C.1 C.2.1 dX6_near_37 (by decide) ?_
  refine lv_goto (tgt := 52) C.1 C.2.1 dX6_near_38 (by decide) ?_
  exact x_iret C w hr (fun _ => 0) rfl rfl dX6_near_52 (Nat.le_of_ble_eq_true rfl) (Nat.le_of_ble_eq_true rfl)
set_option maxHeartbeats 4000000 in
set_option maxRecDepth 100000 in
theorem c184_X4_checkHow (l : Launch) (G : va_G) (cy : Nat → ClassId) (sa : String → Nat → Nat) (sv : Nat → Nat) (v0 : Int32) (p0 : ¬ v0 < 0) (p1 : ¬ v0 ≤ 3) : xX l G cy sa sv yX4_checkHow (Cond.code yX4_checkHow cX4_checkHow 1 none :: XG) { frames := 8, cells := 1, slots := 6, locals := 250 } [.int v0] [] (fun f => []) "java/lang/IllegalArgumentException" := by
  refine xofX (by decide) (Nat.le_of_ble_eq_true rfl) (fun p e s m below meth c A C w hno ls hl => ?_)
  have hl : lv_has ls 1 [(0, .int v0)] := hl
  refine lv_iload_n C.1 C.2.1 dX4_checkHow_0 rfl (lv_at hl 0 rfl) ?_
  refine lv_if_lt (tgt := 9) C.1 C.2.1 dX4_checkHow_1 (by decide) (fun c9 => absurd c9 p0) (fun _ => ?_)
  refine lv_iload_n C.1 C.2.1 dX4_checkHow_4 rfl (lv_at hl 0 rfl) ?_
  refine lv_iconst (v := 3) C.1 C.2.1 dX4_checkHow_5 (by decide) ?_
  refine lv_icmp_le (tgt := 20) C.1 C.2.1 dX4_checkHow_6 (by decide) (fun c9 => absurd c9 p1) (fun _ => ?_)
  exact x_thrW C w hno hl.1 (by decide) (List.mem_cons_of_mem _ gw_95) (List.mem_cons_of_mem _ gw_96) (tx := "how is not 0 to 3") (List.mem_of_getElem? (i := 8) rfl) (xat_203 C (fun w h => List.mem_cons_of_mem _ h)) xatg_203 dX4_checkHow_9 dX4_checkHow_12 dX4_checkHow_13 dX4_checkHow_16 dX4_checkHow_19 (Nat.le_of_ble_eq_true rfl) (Nat.le_of_ble_eq_true rfl) (Nat.le_of_ble_eq_true rfl) (Nat.le_of_ble_eq_true rfl) rfl rfl (fun _ => 0) rfl
set_option maxHeartbeats 4000000 in
set_option maxRecDepth 100000 in
theorem c185_X4_rangeNear (l : Launch) (G : va_G) (cy : Nat → ClassId) (sa : String → Nat → Nat) (sv : Nat → Nat) (h0 : Nat) (v0 v1 : Int32) (p0 : ¬ v1 < 0) (p1 : ¬ v1 ≤ 3) : xX l G cy sa sv yX4_rangeNear (Cond.code yX4_rangeNear cX4_rangeNear 6 (some .int) :: XG) { frames := 9, cells := 1, slots := 6, locals := 271 } [.ref h0, .int (-2147483648), .int 2147483647, .int v0, .int v1] [] (fun f => []) "java/lang/IllegalArgumentException" := by
  refine xofX (by decide) (Nat.le_of_ble_eq_true rfl) (fun p e s m below meth c A C w hno ls hl => ?_)
  have hl : lv_has ls 6 [(0, .ref h0), (1, .int (-2147483648)), (2, .int 2147483647), (3, .int v0), (4, .int v1)] := hl
  refine lv_iload_n C.1 C.2.1 dX4_rangeNear_0 rfl (lv_at hl 1 rfl) ?_
  refine lv_iload_n C.1 C.2.1 dX4_rangeNear_1 rfl (lv_at hl 2 rfl) ?_
  refine x_kv C w [] [] rfl rfl (by decide) (by decide) (va_runS (As := [.int (-2147483648), .int 2147483647]) (rest := []) (xfix C) (c131_X4_checkRange l G cy sa sv (xtr C) _) (va_cwS 2 (xhts C) (xgS gw_390 gw_391 gw_2 gc_X4_checkRange) rfl rfl rfl (by decide +kernel) ⟨(Nat.le_of_ble_eq_true rfl), (Nat.le_of_ble_eq_true rfl)⟩) (xPS C w [] rfl (by decide)) rfl rfl hl.1 rfl (lv_room (Nat.le_of_ble_eq_true rfl)) dX4_rangeNear_2 ⟨(Nat.le_of_ble_eq_true rfl), (Nat.le_of_ble_eq_true rfl)⟩) (fun f1064 H locs w => ?_)
  have w : xW G A s [] H _ := w
  refine lv_iload C.1 C.2.1 dX4_rangeNear_5 (lv_at hl 4 rfl) ?_
  refine x_kx C w [] [] rfl rfl (by decide) (by decide) (vx_runS (As := [.int v1]) (rest := []) (xfix C) (c184_X4_checkHow l G cy sa sv v1 p0 p1 (xtr C) _) (va_cwS 1 (xhts C) (xgS gw_416 gw_417 gw_2 gc_X4_checkHow) rfl rfl rfl (by decide +kernel) ⟨(Nat.le_of_ble_eq_true rfl), (Nat.le_of_ble_eq_true rfl)⟩) (xPS C w [] rfl (by decide)) rfl rfl hl.1 rfl (lv_room (Nat.le_of_ble_eq_true rfl)) dX4_rangeNear_7 ⟨(Nat.le_of_ble_eq_true rfl), (Nat.le_of_ble_eq_true rfl)⟩) (fun f1065 H locs ce q9 w hce hcv hcl => ?_)
  have w : xW G A s [] H _ := w
  refine vx_widen (k := 1) (n := 6) (Nat.le_of_ble_eq_true rfl) (Nat.le_of_ble_eq_true rfl) ?_
  exact x_out C w hno (fun _ => 0) rfl hce hcv hcl (Nat.le_of_ble_eq_true rfl) (Nat.le_of_ble_eq_true rfl)
set_option maxHeartbeats 4000000 in
set_option maxRecDepth 100000 in
theorem c186_X4_near (l : Launch) (G : va_G) (cy : Nat → ClassId) (sa : String → Nat → Nat) (sv : Nat → Nat) (h0 h1 h2 h3 h4 h5 h6 h7 : Nat) (v0 v1 : Int32) (p0 : ¬ v1 < 0) (p1 : ¬ v1 ≤ 3) : xX l G cy sa sv yX4_near (Cond.code yX4_near cX4_near 3 (some .int) :: XG) { frames := 10, cells := 1, slots := 6, locals := 296 } [.ref h0, .int v0, .int v1] [(h0, .inr (8, [.ref h1, .ref h2, .ref h3, .ref h4, .ref h5, .int 0, .ref h6, .ref h7]))] (fun f => [(h0, .inr (8, [.ref h1, .ref h2, .ref h3, .ref h4, .ref h5, .int 0, .ref h6, .ref h7]))]) "java/lang/IllegalArgumentException" := by
  refine xofX (by decide) (Nat.le_of_ble_eq_true rfl) (fun p e s m below meth c A C w hno ls hl => ?_)
  have hl : lv_has ls 3 [(0, .ref h0), (1, .int v0), (2, .int v1)] := hl
  refine lv_aload_n C.1 C.2.1 dX4_near_0 rfl (lv_at hl 0 rfl) ?_
  refine x_ldc (v := (-2147483648)) C (List.mem_cons_of_mem _ gw_305) dX4_near_1 ?_
  refine x_ldc (v := 2147483647) C (List.mem_cons_of_mem _ gw_306) dX4_near_3 ?_
  refine lv_iload_n C.1 C.2.1 dX4_near_5 rfl (lv_at hl 1 rfl) ?_
  refine lv_iload_n C.1 C.2.1 dX4_near_6 rfl (lv_at hl 2 rfl) ?_
  refine x_kx C w [] [0] rfl rfl (by decide) (by decide) (vx_runV (As := [.int (-2147483648), .int 2147483647, .int v0, .int v1]) (rest := []) (xfix C) (c185_X4_rangeNear l G cy sa sv h0 v0 v1 p0 p1 (xtr C) _) (cwV 4 (xhts C) (xgV (maxL := 0) (cc := ⟨#[]⟩) (ret := none) gw_428 gw_429 gw_430 gw_2 gc_X4_rangeNear) rfl rfl rfl (by decide +kernel) ⟨(Nat.le_of_ble_eq_true rfl), (Nat.le_of_ble_eq_true rfl)⟩) (xPV C w [] rfl (by decide) (ci := 8) (q0 := 0) rfl rfl) rfl rfl hl.1 rfl (lv_room (Nat.le_of_ble_eq_true rfl)) dX4_near_7 ⟨(Nat.le_of_ble_eq_true rfl), (Nat.le_of_ble_eq_true rfl)⟩) (fun f1066 H locs ce q9 w hce hcv hcl => ?_)
  have w : xW G A s [(h0, .inr (8, [.ref h1, .ref h2, .ref h3, .ref h4, .ref h5, .int 0, .ref h6, .ref h7]))] H _ := w
  refine vx_widen (k := 1) (n := 6) (Nat.le_of_ble_eq_true rfl) (Nat.le_of_ble_eq_true rfl) ?_
  exact x_out C w hno (fun _ => 0) rfl hce hcv hcl (Nat.le_of_ble_eq_true rfl) (Nat.le_of_ble_eq_true rfl)
set_option maxHeartbeats 4000000 in
set_option maxRecDepth 100000 in
theorem c187_L_near (l : Launch) (G : va_G) (cy : Nat → ClassId) (sa : String → Nat → Nat) (sv : Nat → Nat) (h0 h1 h2 h3 h4 h5 h6 h7 h8 : Nat) (v0 v1 : Int32) (p0 : ¬ v1 < 0) (p1 : ¬ v1 ≤ 3) : xM l G cy sa sv yL_near (Cond.codeWith yL_near cL_near 5 (some .int) [(0, 11, 14, 19), (0, 11, 18, 21)] :: XG) { frames := 11, cells := 1, slots := 6, locals := 318 } [.ref h0, .int v0, .int v1, .ref h1] [(h0, .inr (8, [.ref h2, .ref h3, .ref h4, .ref h5, .ref h6, .int 0, .ref h7, .ref h8]))] (xQi G (fun f => [(h0, .inr (8, [.ref h2, .ref h3, .ref h4, .ref h5, .ref h6, .int 0, .ref h7, .ref h8]))]) 1) := by
  refine xofH (by decide) (Nat.le_of_ble_eq_true rfl) (fun p e s m below meth c A C w hr hn hT ls hl => ?_)
  have hl : lv_has ls 5 [(0, .ref h0), (1, .int v0), (2, .int v1), (3, .ref h1)] := hl
  refine lv_aload_n C.1 C.2.1 dL_near_0 rfl (lv_at hl 3 rfl) ?_
  refine lv_aload_n C.1 C.2.1 dL_near_1 rfl (lv_at hl 0 rfl) ?_
  refine lv_iload_n C.1 C.2.1 dL_near_2 rfl (lv_at hl 1 rfl) ?_
  refine lv_iload_n C.1 C.2.1 dL_near_3 rfl (lv_at hl 2 rfl) ?_
  refine x_kx C w [0] [] rfl rfl (by decide) (by decide) (vx_runV (As := [.int v0, .int v1]) (rest := [.ref h1]) (xfix C) (c186_X4_near l G cy sa sv h0 h2 h3 h4 h5 h6 h7 h8 v0 v1 p0 p1 (xtr C) _) (cwV 2 (xhts C) (xgV (maxL := 0) (cc := ⟨#[]⟩) (ret := none) gw_432 gw_433 gw_434 gw_2 gc_X4_near) rfl rfl rfl (by decide +kernel) ⟨(Nat.le_of_ble_eq_true rfl), (Nat.le_of_ble_eq_true rfl)⟩) (xPV C w [0] rfl (by decide) (ci := 8) (q0 := 0) rfl rfl) rfl rfl hl.1 rfl (lv_room (Nat.le_of_ble_eq_true rfl)) dL_near_4 ⟨(Nat.le_of_ble_eq_true rfl), (Nat.le_of_ble_eq_true rfl)⟩) (fun f1067 H locs ce q9 w hce hcv hcl => ?_)
  have w : xW G A s [(h0, .inr (8, [.ref h2, .ref h3, .ref h4, .ref h5, .ref h6, .int 0, .ref h7, .ref h8]))] H _ := w
  refine vx_widen (k := 1) (n := 6) (Nat.le_of_ble_eq_true rfl) (Nat.le_of_ble_eq_true rfl) ?_
  refine vx_catch (xown C) [] ⟨0, 11, 14, 19⟩ [⟨0, 11, 18, 21⟩] hT (fun z hz => nomatch hz) (by decide) (by decide) (xhts C _ (List.mem_cons_of_mem _ gw_104)) (va_any rfl (xs_c1 (xS C))) hce hcv hcl ?_
  refine lv_astore (lv' := [(4, .ref q9), (0, .ref h0), (1, .int v0), (2, .int v1), (3, .ref h1)]) C.1 C.2.1 dL_near_14 hl (by decide) rfl (fun ls hl => ?_)
  refine lv_iconst (v := 1) C.1 C.2.1 dL_near_16 (by decide) ?_
  exact x_iret C w hr (fun _ => 0) rfl rfl dL_near_17 (Nat.le_of_ble_eq_true rfl) (Nat.le_of_ble_eq_true rfl)
