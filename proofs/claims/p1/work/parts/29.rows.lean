set_option maxHeartbeats 4000000 in
set_option maxRecDepth 100000 in
theorem c374_X4_rangePoll (l : Launch) (G : va_G) (cy : Nat → ClassId) (sa : String → Nat → Nat) (sv : Nat → Nat) (h0 h1 h2 h3 h4 h5 h6 h7 : Nat) (v0 v1 : Int32) (p0 : ¬ v0 ≤ v1) : xX l G cy sa sv yX4_rangePoll (Cond.code yX4_rangePoll cX4_rangePoll 5 (some .int) :: XG) { frames := 10, cells := 1, slots := 6, locals := 294 } [.ref h0, .int v0, .int v1, .int 0] [(h0, .inr (8, [.ref h1, .ref h2, .ref h3, .ref h4, .ref h5, .int 0, .ref h6, .ref h7]))] (fun f => [(h0, .inr (8, [.ref h1, .ref h2, .ref h3, .ref h4, .ref h5, .int 0, .ref h6, .ref h7]))]) "java/lang/IllegalArgumentException" := by
  refine xofX (by decide) (Nat.le_of_ble_eq_true rfl) (fun p e s m below meth c A C w hno ls hl => ?_)
  have hl : lv_has ls 5 [(0, .ref h0), (1, .int v0), (2, .int v1), (3, .int 0)] := hl
  refine lv_aload_n C.1 C.2.1 dX4_rangePoll_0 rfl (lv_at hl 0 rfl) ?_
  refine lv_iload_n C.1 C.2.1 dX4_rangePoll_1 rfl (lv_at hl 1 rfl) ?_
  refine lv_iload_n C.1 C.2.1 dX4_rangePoll_2 rfl (lv_at hl 2 rfl) ?_
  refine lv_iload_n C.1 C.2.1 dX4_rangePoll_3 rfl (lv_at hl 3 rfl) ?_
  refine x_kx C w [] [0] rfl rfl (by decide) (by decide) (vx_runV (As := [.int v0, .int v1, .int 0]) (rest := []) (xfix C) (c307_X4_rangeEnd l G cy sa sv h0 v0 v1 p0 (xtr C) _) (cwV 3 (xhts C) (xgV (maxL := 0) (cc := ⟨#[]⟩) (ret := none) gw_400 gw_401 gw_402 gw_2 gc_X4_rangeEnd) rfl rfl rfl (by decide +kernel) ⟨(Nat.le_of_ble_eq_true rfl), (Nat.le_of_ble_eq_true rfl)⟩) (xPV C w [] rfl (by decide) (ci := 8) (q0 := 0) rfl rfl) rfl rfl hl.1 rfl (lv_room (Nat.le_of_ble_eq_true rfl)) dX4_rangePoll_4 ⟨(Nat.le_of_ble_eq_true rfl), (Nat.le_of_ble_eq_true rfl)⟩) (fun f2358 H locs ce q9 w hce hcv hcl => ?_)
  have w : xW G A s [(h0, .inr (8, [.ref h1, .ref h2, .ref h3, .ref h4, .ref h5, .int 0, .ref h6, .ref h7]))] H _ := w
  refine vx_widen (k := 1) (n := 6) (Nat.le_of_ble_eq_true rfl) (Nat.le_of_ble_eq_true rfl) ?_
  exact x_out C w hno (fun _ => 0) rfl hce hcv hcl (Nat.le_of_ble_eq_true rfl) (Nat.le_of_ble_eq_true rfl)
set_option maxHeartbeats 4000000 in
set_option maxRecDepth 100000 in
theorem c375_L_rangePoll (l : Launch) (G : va_G) (cy : Nat → ClassId) (sa : String → Nat → Nat) (sv : Nat → Nat) (h0 h1 h2 h3 h4 h5 h6 h7 h8 : Nat) (v0 v1 : Int32) (p0 : ¬ v0 ≤ v1) : xM l G cy sa sv yL_rangePoll (Cond.codeWith yL_rangePoll cL_rangePoll 6 (some .int) [(0, 13, 16, 19), (0, 13, 20, 21)] :: XG) { frames := 11, cells := 1, slots := 6, locals := 318 } [.ref h0, .int v0, .int v1, .int 0, .ref h1] [(h0, .inr (8, [.ref h2, .ref h3, .ref h4, .ref h5, .ref h6, .int 0, .ref h7, .ref h8]))] (xQi G (fun f => [(h0, .inr (8, [.ref h2, .ref h3, .ref h4, .ref h5, .ref h6, .int 0, .ref h7, .ref h8]))]) 1) := by
  refine xofH (by decide) (Nat.le_of_ble_eq_true rfl) (fun p e s m below meth c A C w hr hn hT ls hl => ?_)
  have hl : lv_has ls 6 [(0, .ref h0), (1, .int v0), (2, .int v1), (3, .int 0), (4, .ref h1)] := hl
  refine lv_aload C.1 C.2.1 dL_rangePoll_0 (lv_at hl 4 rfl) ?_
  refine lv_aload_n C.1 C.2.1 dL_rangePoll_2 rfl (lv_at hl 0 rfl) ?_
  refine lv_iload_n C.1 C.2.1 dL_rangePoll_3 rfl (lv_at hl 1 rfl) ?_
  refine lv_iload_n C.1 C.2.1 dL_rangePoll_4 rfl (lv_at hl 2 rfl) ?_
  refine lv_iload_n C.1 C.2.1 dL_rangePoll_5 rfl (lv_at hl 3 rfl) ?_
  refine x_kx C w [0] [] rfl rfl (by decide) (by decide) (vx_runV (As := [.int v0, .int v1, .int 0]) (rest := [.ref h1]) (xfix C) (c374_X4_rangePoll l G cy sa sv h0 h2 h3 h4 h5 h6 h7 h8 v0 v1 p0 (xtr C) _) (cwV 3 (xhts C) (xgV (maxL := 0) (cc := ⟨#[]⟩) (ret := none) gw_706 gw_462 gw_463 gw_2 gc_X4_rangePoll) rfl rfl rfl (by decide +kernel) ⟨(Nat.le_of_ble_eq_true rfl), (Nat.le_of_ble_eq_true rfl)⟩) (xPV C w [0] rfl (by decide) (ci := 8) (q0 := 0) rfl rfl) rfl rfl hl.1 rfl (lv_room (Nat.le_of_ble_eq_true rfl)) dL_rangePoll_6 ⟨(Nat.le_of_ble_eq_true rfl), (Nat.le_of_ble_eq_true rfl)⟩) (fun f2359 H locs ce q9 w hce hcv hcl => ?_)
  have w : xW G A s [(h0, .inr (8, [.ref h2, .ref h3, .ref h4, .ref h5, .ref h6, .int 0, .ref h7, .ref h8]))] H _ := w
  refine vx_widen (k := 1) (n := 6) (Nat.le_of_ble_eq_true rfl) (Nat.le_of_ble_eq_true rfl) ?_
  refine vx_catch (xown C) [] ⟨0, 13, 16, 19⟩ [⟨0, 13, 20, 21⟩] hT (fun z hz => nomatch hz) (by decide) (by decide) (xhts C _ (List.mem_cons_of_mem _ gw_104)) (va_any rfl (xs_c1 (xS C))) hce hcv hcl ?_
  refine lv_astore (lv' := [(5, .ref q9), (0, .ref h0), (1, .int v0), (2, .int v1), (3, .int 0), (4, .ref h1)]) C.1 C.2.1 dL_rangePoll_16 hl (by decide) rfl (fun ls hl => ?_)
  refine lv_iconst (v := 1) C.1 C.2.1 dL_rangePoll_18 (by decide) ?_
  exact x_iret C w hr (fun _ => 0) rfl rfl dL_rangePoll_19 (Nat.le_of_ble_eq_true rfl) (Nat.le_of_ble_eq_true rfl)
set_option maxHeartbeats 4000000 in
set_option maxRecDepth 100000 in
theorem c376_X6_rangePoll (l : Launch) (G : va_G) (cy : Nat → ClassId) (sa : String → Nat → Nat) (sv : Nat → Nat) (h0 h1 h2 h3 h4 h5 h6 h7 : Nat) (v0 v1 : Int32) (p0 : ¬ v0 ≤ v1) : xM l G cy sa sv yX6_rangePoll (Cond.code yX6_rangePoll cX6_rangePoll 4 (some .int) :: XG) { frames := 9, cells := 0, slots := 0, locals := 272 } [.ref h0, .int v0, .int v1, .int 0] [(h0, .inr (10, [.ref h1, .ref h2, .ref h3, .ref h4, .ref h5, .ref h6, .ref h7, .int 0, .int 0]))] (xQi G (fun f => [(h0, .inr (10, [.ref h1, .ref h2, .ref h3, .ref h4, .ref h5, .ref h6, .ref h7, .int 0, .int 1]))]) 0) := by
  refine xof (by decide) (Nat.le_of_ble_eq_true rfl) (fun p e s m below meth c A C w hr hn ls hl => ?_)
  have hl : lv_has ls 4 [(0, .ref h0), (1, .int v0), (2, .int v1), (3, .int 0)] := hl
  refine lv_aload_n C.1 C.2.1 dX6_rangePoll_0 rfl (lv_at hl 0 rfl) ?_
  refine lv_iload_n C.1 C.2.1 dX6_rangePoll_1 rfl (lv_at hl 1 rfl) ?_
  refine lv_iload_n C.1 C.2.1 dX6_rangePoll_2 rfl (lv_at hl 2 rfl) ?_
  refine lv_icmp_le (tgt := 10) C.1 C.2.1 dX6_rangePoll_3 (by decide) (fun c9 => absurd c9 p0) (fun _ => ?_)
  refine lv_iconst (v := 1) C.1 C.2.1 dX6_rangePoll_6 (by decide) ?_
  refine lv_goto (tgt := 11) C.1 C.2.1 dX6_rangePoll_7 (by decide) ?_
  refine lv_iconst (v := 1) C.1 C.2.1 dX6_rangePoll_11 (by decide) ?_
  refine x_ki C w [0] [] rfl rfl (by decide) (by decide) (va_runV (As := [.int 1, .int 1]) (rest := []) (xfix C) (c17_X6_start l G cy sa sv h0 h1 h2 h3 h4 h5 h6 h7 (xtr C) _) (cwV 2 (xhts C) (xgV (maxL := 0) (cc := ⟨#[]⟩) (ret := none) gw_114 gw_115 gw_116 gw_58 gc_X6_start) rfl rfl rfl (by decide +kernel) ⟨(Nat.le_of_ble_eq_true rfl), (Nat.le_of_ble_eq_true rfl)⟩) (xPV C w [0] rfl (by decide) (ci := 10) (q0 := 0) rfl rfl) rfl rfl hl.1 rfl (lv_room (Nat.le_of_ble_eq_true rfl)) dX6_rangePoll_12 ⟨(Nat.le_of_ble_eq_true rfl), (Nat.le_of_ble_eq_true rfl)⟩) (fun f2362 H locs w => ?_)
  have w : xW G A s [(h0, .inr (10, [.ref h1, .ref h2, .ref h3, .ref h4, .ref h5, .ref h6, .ref h7, .int 0, .int 1]))] H _ := w
  refine lv_if_ne (tgt := 43) C.1 C.2.1 dX6_rangePoll_15 (by decide) (fun _ => ?_) (fun c9 => absurd c9 (by decide))
  refine lv_iconst (v := 0) C.1 C.2.1 dX6_rangePoll_43 (by decide) ?_
  refine lv_goto (tgt := 61) C.1 C.2.1 dX6_rangePoll_44 (by decide) ?_
  exact x_iret C w hr (fun _ => 0) rfl rfl dX6_rangePoll_61 (Nat.le_of_ble_eq_true rfl) (Nat.le_of_ble_eq_true rfl)
set_option maxHeartbeats 4000000 in
set_option maxRecDepth 100000 in
theorem c377_X4_rangePoll (l : Launch) (G : va_G) (cy : Nat → ClassId) (sa : String → Nat → Nat) (sv : Nat → Nat) (h0 h1 h2 h3 h4 h5 h6 h7 h8 h9 h10 : Nat) (v0 v1 : Int32) (p0 : v0 ≤ v1) : xX l G cy sa sv yX4_rangePoll (Cond.code yX4_rangePoll cX4_rangePoll 5 (some .int) :: XG) { frames := 13, cells := 1, slots := 6, locals := 359 } [.ref h0, .int v0, .int v1, .int 1] [(h0, .inr (8, [.ref h1, .ref h3, .ref h4, .ref h5, .ref h6, .int 0, .ref h7, .ref h8])), (h1, .inr (7, [.ref h2, .ref h9])), (h2, .inr (6, [.ref h10, .int 0]))] (fun f => [(h0, .inr (8, [.ref h1, .ref h3, .ref h4, .ref h5, .ref h6, .int 0, .ref h7, .ref h8])), (h1, .inr (7, [.ref h2, .ref h9])), (h2, .inr (6, [.ref h10, .int 0]))]) "java/lang/IllegalStateException" := by
  refine xofX (by decide) (Nat.le_of_ble_eq_true rfl) (fun p e s m below meth c A C w hno ls hl => ?_)
  have hl : lv_has ls 5 [(0, .ref h0), (1, .int v0), (2, .int v1), (3, .int 1)] := hl
  refine lv_aload_n C.1 C.2.1 dX4_rangePoll_0 rfl (lv_at hl 0 rfl) ?_
  refine lv_iload_n C.1 C.2.1 dX4_rangePoll_1 rfl (lv_at hl 1 rfl) ?_
  refine lv_iload_n C.1 C.2.1 dX4_rangePoll_2 rfl (lv_at hl 2 rfl) ?_
  refine lv_iload_n C.1 C.2.1 dX4_rangePoll_3 rfl (lv_at hl 3 rfl) ?_
  refine x_kx C w [0, 1, 2] [] rfl rfl (by decide) (by decide) (vx_runV (As := [.int v0, .int v1, .int 1]) (rest := []) (xfix C) (c310_X4_rangeEnd l G cy sa sv h0 h1 h2 h3 h4 h5 h6 h7 h8 h9 h10 v0 v1 p0 (xtr C) _) (cwV 3 (xhts C) (xgV (maxL := 0) (cc := ⟨#[]⟩) (ret := none) gw_400 gw_401 gw_402 gw_2 gc_X4_rangeEnd) rfl rfl rfl (by decide +kernel) ⟨(Nat.le_of_ble_eq_true rfl), (Nat.le_of_ble_eq_true rfl)⟩) (xPV C w [0, 1, 2] rfl (by decide) (ci := 8) (q0 := 0) rfl rfl) rfl rfl hl.1 rfl (lv_room (Nat.le_of_ble_eq_true rfl)) dX4_rangePoll_4 ⟨(Nat.le_of_ble_eq_true rfl), (Nat.le_of_ble_eq_true rfl)⟩) (fun f2380 H locs ce q9 w hce hcv hcl => ?_)
  have w : xW G A s [(h0, .inr (8, [.ref h1, .ref h3, .ref h4, .ref h5, .ref h6, .int 0, .ref h7, .ref h8])), (h1, .inr (7, [.ref h2, .ref h9])), (h2, .inr (6, [.ref h10, .int 0]))] H _ := w
  refine vx_widen (k := 1) (n := 6) (Nat.le_of_ble_eq_true rfl) (Nat.le_of_ble_eq_true rfl) ?_
  exact x_out C w hno (fun _ => 0) rfl hce hcv hcl (Nat.le_of_ble_eq_true rfl) (Nat.le_of_ble_eq_true rfl)
set_option maxHeartbeats 4000000 in
set_option maxRecDepth 100000 in
theorem c378_L_rangePoll (l : Launch) (G : va_G) (cy : Nat → ClassId) (sa : String → Nat → Nat) (sv : Nat → Nat) (h0 h1 h2 h3 h4 h5 h6 h7 h8 h9 h10 h11 : Nat) (v0 v1 : Int32) (p0 : v0 ≤ v1) : xM l G cy sa sv yL_rangePoll (Cond.codeWith yL_rangePoll cL_rangePoll 6 (some .int) [(0, 13, 16, 19), (0, 13, 20, 21)] :: XG) { frames := 14, cells := 1, slots := 6, locals := 383 } [.ref h0, .int v0, .int v1, .int 1, .ref h1] [(h0, .inr (8, [.ref h2, .ref h4, .ref h5, .ref h6, .ref h7, .int 0, .ref h8, .ref h9])), (h2, .inr (7, [.ref h3, .ref h10])), (h3, .inr (6, [.ref h11, .int 0]))] (xQi G (fun f => [(h0, .inr (8, [.ref h2, .ref h4, .ref h5, .ref h6, .ref h7, .int 0, .ref h8, .ref h9])), (h2, .inr (7, [.ref h3, .ref h10])), (h3, .inr (6, [.ref h11, .int 0]))]) 2) := by
  refine xofH (by decide) (Nat.le_of_ble_eq_true rfl) (fun p e s m below meth c A C w hr hn hT ls hl => ?_)
  have hl : lv_has ls 6 [(0, .ref h0), (1, .int v0), (2, .int v1), (3, .int 1), (4, .ref h1)] := hl
  refine lv_aload C.1 C.2.1 dL_rangePoll_0 (lv_at hl 4 rfl) ?_
  refine lv_aload_n C.1 C.2.1 dL_rangePoll_2 rfl (lv_at hl 0 rfl) ?_
  refine lv_iload_n C.1 C.2.1 dL_rangePoll_3 rfl (lv_at hl 1 rfl) ?_
  refine lv_iload_n C.1 C.2.1 dL_rangePoll_4 rfl (lv_at hl 2 rfl) ?_
  refine lv_iload_n C.1 C.2.1 dL_rangePoll_5 rfl (lv_at hl 3 rfl) ?_
  refine x_kx C w [0, 1, 2] [] rfl rfl (by decide) (by decide) (vx_runV (As := [.int v0, .int v1, .int 1]) (rest := [.ref h1]) (xfix C) (c377_X4_rangePoll l G cy sa sv h0 h2 h3 h4 h5 h6 h7 h8 h9 h10 h11 v0 v1 p0 (xtr C) _) (cwV 3 (xhts C) (xgV (maxL := 0) (cc := ⟨#[]⟩) (ret := none) gw_706 gw_462 gw_463 gw_2 gc_X4_rangePoll) rfl rfl rfl (by decide +kernel) ⟨(Nat.le_of_ble_eq_true rfl), (Nat.le_of_ble_eq_true rfl)⟩) (xPV C w [0, 1, 2] rfl (by decide) (ci := 8) (q0 := 0) rfl rfl) rfl rfl hl.1 rfl (lv_room (Nat.le_of_ble_eq_true rfl)) dL_rangePoll_6 ⟨(Nat.le_of_ble_eq_true rfl), (Nat.le_of_ble_eq_true rfl)⟩) (fun f2381 H locs ce q9 w hce hcv hcl => ?_)
  have w : xW G A s [(h0, .inr (8, [.ref h2, .ref h4, .ref h5, .ref h6, .ref h7, .int 0, .ref h8, .ref h9])), (h2, .inr (7, [.ref h3, .ref h10])), (h3, .inr (6, [.ref h11, .int 0]))] H _ := w
  refine vx_widen (k := 1) (n := 6) (Nat.le_of_ble_eq_true rfl) (Nat.le_of_ble_eq_true rfl) ?_
  refine vx_catch (xown C) [⟨0, 13, 16, 19⟩] ⟨0, 13, 20, 21⟩ [] hT (fun z hz => Or.inr (by cases List.mem_singleton.mp hz; exact ⟨by decide, "java/lang/IllegalArgumentException", xhts C _ (List.mem_cons_of_mem _ gw_104), xs_n1 (xS C)⟩)) (by decide) (by decide) (xhts C _ (List.mem_cons_of_mem _ gw_407)) (va_any rfl (xs_c2 (xS C))) hce hcv hcl ?_
  refine lv_astore (lv' := [(5, .ref q9), (0, .ref h0), (1, .int v0), (2, .int v1), (3, .int 1), (4, .ref h1)]) C.1 C.2.1 dL_rangePoll_20 hl (by decide) rfl (fun ls hl => ?_)
  refine lv_iconst (v := 2) C.1 C.2.1 dL_rangePoll_22 (by decide) ?_
  exact x_iret C w hr (fun _ => 0) rfl rfl dL_rangePoll_23 (Nat.le_of_ble_eq_true rfl) (Nat.le_of_ble_eq_true rfl)
set_option maxHeartbeats 4000000 in
set_option maxRecDepth 100000 in
theorem c379_X6_rangePoll (l : Launch) (G : va_G) (cy : Nat → ClassId) (sa : String → Nat → Nat) (sv : Nat → Nat) (h0 h1 h2 h3 h4 h5 h6 h7 : Nat) (v0 v1 : Int32) (p0 : v0 ≤ v1) : xM l G cy sa sv yX6_rangePoll (Cond.code yX6_rangePoll cX6_rangePoll 4 (some .int) :: XG) { frames := 12, cells := 1, slots := 3, locals := 334 } [.ref h0, .int v0, .int v1, .int 1] [(h0, .inr (10, [.ref h1, .ref h2, .ref h3, .ref h4, .ref h5, .ref h6, .ref h7, .int 0, .int 0])), (h1, .inr (3, [.int 0, .ref (sv 0), .int 0]))] (xQi G (fun f => [(h0, .inr (10, [.ref h1, .ref h2, .ref h3, .ref h4, .ref h5, .ref h6, .ref h7, .int 0, .int 2])), (h1, .inr (3, [.int 0, .ref (sv 0), .int 0]))]) 0) := by
  refine xof (by decide) (Nat.le_of_ble_eq_true rfl) (fun p e s m below meth c A C w hr hn ls hl => ?_)
  have hl : lv_has ls 4 [(0, .ref h0), (1, .int v0), (2, .int v1), (3, .int 1)] := hl
  refine lv_aload_n C.1 C.2.1 dX6_rangePoll_0 rfl (lv_at hl 0 rfl) ?_
  refine lv_iload_n C.1 C.2.1 dX6_rangePoll_1 rfl (lv_at hl 1 rfl) ?_
  refine lv_iload_n C.1 C.2.1 dX6_rangePoll_2 rfl (lv_at hl 2 rfl) ?_
  refine lv_icmp_le (tgt := 10) C.1 C.2.1 dX6_rangePoll_3 (by decide) (fun _ => ?_) (fun c9 => absurd p0 c9)
  refine lv_iconst (v := 0) C.1 C.2.1 dX6_rangePoll_10 (by decide) ?_
  refine lv_iconst (v := 1) C.1 C.2.1 dX6_rangePoll_11 (by decide) ?_
  refine x_ki C w [0] [1] rfl rfl (by decide) (by decide) (va_runV (As := [.int 0, .int 1]) (rest := []) (xfix C) (c46_X6_start l G cy sa sv h0 h1 h2 h3 h4 h5 h6 h7 (xtr C) _) (cwV 2 (xhts C) (xgV (maxL := 0) (cc := ⟨#[]⟩) (ret := none) gw_114 gw_115 gw_116 gw_58 gc_X6_start) rfl rfl rfl (by decide +kernel) ⟨(Nat.le_of_ble_eq_true rfl), (Nat.le_of_ble_eq_true rfl)⟩) (xPV C w [0] rfl (by decide) (ci := 10) (q0 := 0) rfl rfl) rfl rfl hl.1 rfl (lv_room (Nat.le_of_ble_eq_true rfl)) dX6_rangePoll_12 ⟨(Nat.le_of_ble_eq_true rfl), (Nat.le_of_ble_eq_true rfl)⟩) (fun f2386 H locs w => ?_)
  have w : xW G A s [(h1, .inr (3, [.int 0, .ref (sv 0), .int 0])), (h0, .inr (10, [.ref h1, .ref h2, .ref h3, .ref h4, .ref h5, .ref h6, .ref h7, .int 0, .int 0]))] H _ := w
  refine lv_if_ne (tgt := 43) C.1 C.2.1 dX6_rangePoll_15 (by decide) (fun c9 => absurd (by decide) c9) (fun _ => ?_)
  refine lv_aload_n C.1 C.2.1 dX6_rangePoll_18 rfl (lv_at hl 0 rfl) ?_
  refine lv_aload_n C.1 C.2.1 dX6_rangePoll_19 rfl (lv_at hl 0 rfl) ?_
  refine lv_iload_n C.1 C.2.1 dX6_rangePoll_20 rfl (lv_at hl 1 rfl) ?_
  refine lv_iload_n C.1 C.2.1 dX6_rangePoll_21 rfl (lv_at hl 2 rfl) ?_
  refine x_kr C w [1, 0] [] rfl rfl (by decide) (by decide) (va_runV (As := [.int v0, .int v1]) (rest := [.ref h0]) (xfix C) (c298_X6_range l G cy sa sv h0 h1 h2 h3 h4 h5 h6 h7 v0 v1 (xtr C) _) (cwV 2 (xhts C) (xgV (maxL := 0) (cc := ⟨#[]⟩) (ret := none) gw_670 gw_671 gw_672 gw_58 gc_X6_range) rfl rfl rfl (by decide +kernel) ⟨(Nat.le_of_ble_eq_true rfl), (Nat.le_of_ble_eq_true rfl)⟩) (xPV C w [1, 0] rfl (by decide) (ci := 10) (q0 := 1) rfl rfl) rfl rfl hl.1 rfl (lv_room (Nat.le_of_ble_eq_true rfl)) dX6_rangePoll_22 ⟨(Nat.le_of_ble_eq_true rfl), (Nat.le_of_ble_eq_true rfl)⟩) (fun f2395 H locs w => ?_)
  have w : xW G A s [(h0, .inr (10, [.ref h1, .ref h2, .ref h3, .ref h4, .ref h5, .ref h6, .ref h7, .int 0, .int 0])), (h1, .inr (3, [.int 0, .ref (sv 0), .int 0])), ((f2395 0), .inr (3, [.int 0, .ref (sv 0), .int 0]))] H _ := w
  refine W.widen (k := 1) (n := 3) (Nat.le_of_ble_eq_true rfl) (Nat.le_of_ble_eq_true rfl) ?_
  refine x_ki C w [2] [0, 1] rfl rfl (by decide) (by decide) (va_runV (As := []) (rest := [.ref h0]) (xfix C) (c47_Jx4a65c_size_8abf5 l G cy sa sv (f2395 0) (xtr C) _) (cwV 0 (xhts C) (xgV (maxL := 0) (cc := ⟨#[]⟩) (ret := none) gw_195 gw_196 gw_197 gw_62 gc_Jx4a65c_size_8abf5) rfl rfl rfl (by decide +kernel) ⟨(Nat.le_of_ble_eq_true rfl), (Nat.le_of_ble_eq_true rfl)⟩) (xPV C w [2] rfl (by decide) (ci := 3) (q0 := 2) rfl rfl) rfl rfl hl.1 rfl (lv_room (Nat.le_of_ble_eq_true rfl)) dX6_rangePoll_25 ⟨(Nat.le_of_ble_eq_true rfl), (Nat.le_of_ble_eq_true rfl)⟩) (fun f2396 H locs w => ?_)
  have w : xW G A s [(h0, .inr (10, [.ref h1, .ref h2, .ref h3, .ref h4, .ref h5, .ref h6, .ref h7, .int 0, .int 0])), (h1, .inr (3, [.int 0, .ref (sv 0), .int 0])), ((f2395 0), .inr (3, [.int 0, .ref (sv 0), .int 0]))] H _ := w
  refine lv_if_ne (tgt := 35) C.1 C.2.1 dX6_rangePoll_28 (by decide) (fun c9 => absurd (by decide) c9) (fun _ => ?_)
  refine lv_iconst (v := 1) C.1 C.2.1 dX6_rangePoll_31 (by decide) ?_
  refine lv_goto (tgt := 36) C.1 C.2.1 dX6_rangePoll_32 (by decide) ?_
  refine lv_iconst (v := 2) C.1 C.2.1 dX6_rangePoll_36 (by decide) ?_
  refine x_ki C w [0] [1, 2] rfl rfl (by decide) (by decide) (va_runV (As := [.int 1, .int 2]) (rest := []) (xfix C) (c149_X6_fails l G cy sa sv h0 h1 h2 h3 h4 h5 h6 h7 (xtr C) _) (cwV 2 (xhts C) (xgV (maxL := 0) (cc := ⟨#[]⟩) (ret := none) gw_203 gw_204 gw_205 gw_58 gc_X6_fails) rfl rfl rfl (by decide +kernel) ⟨(Nat.le_of_ble_eq_true rfl), (Nat.le_of_ble_eq_true rfl)⟩) (xPV C w [0] rfl (by decide) (ci := 10) (q0 := 0) rfl rfl) rfl rfl hl.1 rfl (lv_room (Nat.le_of_ble_eq_true rfl)) dX6_rangePoll_37 ⟨(Nat.le_of_ble_eq_true rfl), (Nat.le_of_ble_eq_true rfl)⟩) (fun f2397 H locs w => ?_)
  have w : xW G A s [(h1, .inr (3, [.int 0, .ref (sv 0), .int 0])), ((f2395 0), .inr (3, [.int 0, .ref (sv 0), .int 0])), (h0, .inr (10, [.ref h1, .ref h2, .ref h3, .ref h4, .ref h5, .ref h6, .ref h7, .int 0, .int 2]))] H _ := w
  refine lv_if_eq (tgt := 47) C.1 C.2.1 dX6_rangePoll_40 (by decide) (fun c9 => absurd c9 (by decide)) (fun _ => ?_)
  refine lv_iconst (v := 0) C.1 C.2.1 dX6_rangePoll_43 (by decide) ?_
  refine lv_goto (tgt := 61) C.1 C.2.1 dX6_rangePoll_44 (by decide) ?_
  have w := w.sub (ws' := [(h0, .inr (10, [.ref h1, .ref h2, .ref h3, .ref h4, .ref h5, .ref h6, .ref h7, .int 0, .int 2])), (h1, .inr (3, [.int 0, .ref (sv 0), .int 0]))]) [2, 0] (by decide) rfl rfl
  exact x_iret C w hr (fun _ => 0) rfl rfl dX6_rangePoll_61 (Nat.le_of_ble_eq_true rfl) (Nat.le_of_ble_eq_true rfl)
set_option maxHeartbeats 4000000 in
set_option maxRecDepth 100000 in
theorem c380_X4_rangePoll (l : Launch) (G : va_G) (cy : Nat → ClassId) (sa : String → Nat → Nat) (sv : Nat → Nat) (h0 h1 h2 h3 h4 h5 h6 h7 : Nat) (v0 v1 : Int32) (p0 : ¬ v0 ≤ v1) : xX l G cy sa sv yX4_rangePoll (Cond.code yX4_rangePoll cX4_rangePoll 5 (some .int) :: XG) { frames := 10, cells := 1, slots := 6, locals := 294 } [.ref h0, .int v0, .int v1, .int 1] [(h0, .inr (8, [.ref h1, .ref h2, .ref h3, .ref h4, .ref h5, .int 0, .ref h6, .ref h7]))] (fun f => [(h0, .inr (8, [.ref h1, .ref h2, .ref h3, .ref h4, .ref h5, .int 0, .ref h6, .ref h7]))]) "java/lang/IllegalArgumentException" := by
  refine xofX (by decide) (Nat.le_of_ble_eq_true rfl) (fun p e s m below meth c A C w hno ls hl => ?_)
  have hl : lv_has ls 5 [(0, .ref h0), (1, .int v0), (2, .int v1), (3, .int 1)] := hl
  refine lv_aload_n C.1 C.2.1 dX4_rangePoll_0 rfl (lv_at hl 0 rfl) ?_
  refine lv_iload_n C.1 C.2.1 dX4_rangePoll_1 rfl (lv_at hl 1 rfl) ?_
  refine lv_iload_n C.1 C.2.1 dX4_rangePoll_2 rfl (lv_at hl 2 rfl) ?_
  refine lv_iload_n C.1 C.2.1 dX4_rangePoll_3 rfl (lv_at hl 3 rfl) ?_
  refine x_kx C w [] [0] rfl rfl (by decide) (by decide) (vx_runV (As := [.int v0, .int v1, .int 1]) (rest := []) (xfix C) (c313_X4_rangeEnd l G cy sa sv h0 v0 v1 p0 (xtr C) _) (cwV 3 (xhts C) (xgV (maxL := 0) (cc := ⟨#[]⟩) (ret := none) gw_400 gw_401 gw_402 gw_2 gc_X4_rangeEnd) rfl rfl rfl (by decide +kernel) ⟨(Nat.le_of_ble_eq_true rfl), (Nat.le_of_ble_eq_true rfl)⟩) (xPV C w [] rfl (by decide) (ci := 8) (q0 := 0) rfl rfl) rfl rfl hl.1 rfl (lv_room (Nat.le_of_ble_eq_true rfl)) dX4_rangePoll_4 ⟨(Nat.le_of_ble_eq_true rfl), (Nat.le_of_ble_eq_true rfl)⟩) (fun f2404 H locs ce q9 w hce hcv hcl => ?_)
  have w : xW G A s [(h0, .inr (8, [.ref h1, .ref h2, .ref h3, .ref h4, .ref h5, .int 0, .ref h6, .ref h7]))] H _ := w
  refine vx_widen (k := 1) (n := 6) (Nat.le_of_ble_eq_true rfl) (Nat.le_of_ble_eq_true rfl) ?_
  exact x_out C w hno (fun _ => 0) rfl hce hcv hcl (Nat.le_of_ble_eq_true rfl) (Nat.le_of_ble_eq_true rfl)
set_option maxHeartbeats 4000000 in
set_option maxRecDepth 100000 in
theorem c381_L_rangePoll (l : Launch) (G : va_G) (cy : Nat → ClassId) (sa : String → Nat → Nat) (sv : Nat → Nat) (h0 h1 h2 h3 h4 h5 h6 h7 h8 : Nat) (v0 v1 : Int32) (p0 : ¬ v0 ≤ v1) : xM l G cy sa sv yL_rangePoll (Cond.codeWith yL_rangePoll cL_rangePoll 6 (some .int) [(0, 13, 16, 19), (0, 13, 20, 21)] :: XG) { frames := 11, cells := 1, slots := 6, locals := 318 } [.ref h0, .int v0, .int v1, .int 1, .ref h1] [(h0, .inr (8, [.ref h2, .ref h3, .ref h4, .ref h5, .ref h6, .int 0, .ref h7, .ref h8]))] (xQi G (fun f => [(h0, .inr (8, [.ref h2, .ref h3, .ref h4, .ref h5, .ref h6, .int 0, .ref h7, .ref h8]))]) 1) := by
  refine xofH (by decide) (Nat.le_of_ble_eq_true rfl) (fun p e s m below meth c A C w hr hn hT ls hl => ?_)
  have hl : lv_has ls 6 [(0, .ref h0), (1, .int v0), (2, .int v1), (3, .int 1), (4, .ref h1)] := hl
  refine lv_aload C.1 C.2.1 dL_rangePoll_0 (lv_at hl 4 rfl) ?_
  refine lv_aload_n C.1 C.2.1 dL_rangePoll_2 rfl (lv_at hl 0 rfl) ?_
  refine lv_iload_n C.1 C.2.1 dL_rangePoll_3 rfl (lv_at hl 1 rfl) ?_
  refine lv_iload_n C.1 C.2.1 dL_rangePoll_4 rfl (lv_at hl 2 rfl) ?_
  refine lv_iload_n C.1 C.2.1 dL_rangePoll_5 rfl (lv_at hl 3 rfl) ?_
  refine x_kx C w [0] [] rfl rfl (by decide) (by decide) (vx_runV (As := [.int v0, .int v1, .int 1]) (rest := [.ref h1]) (xfix C) (c380_X4_rangePoll l G cy sa sv h0 h2 h3 h4 h5 h6 h7 h8 v0 v1 p0 (xtr C) _) (cwV 3 (xhts C) (xgV (maxL := 0) (cc := ⟨#[]⟩) (ret := none) gw_706 gw_462 gw_463 gw_2 gc_X4_rangePoll) rfl rfl rfl (by decide +kernel) ⟨(Nat.le_of_ble_eq_true rfl), (Nat.le_of_ble_eq_true rfl)⟩) (xPV C w [0] rfl (by decide) (ci := 8) (q0 := 0) rfl rfl) rfl rfl hl.1 rfl (lv_room (Nat.le_of_ble_eq_true rfl)) dL_rangePoll_6 ⟨(Nat.le_of_ble_eq_true rfl), (Nat.le_of_ble_eq_true rfl)⟩) (fun f2405 H locs ce q9 w hce hcv hcl => ?_)
  have w : xW G A s [(h0, .inr (8, [.ref h2, .ref h3, .ref h4, .ref h5, .ref h6, .int 0, .ref h7, .ref h8]))] H _ := w
  refine vx_widen (k := 1) (n := 6) (Nat.le_of_ble_eq_true rfl) (Nat.le_of_ble_eq_true rfl) ?_
  refine vx_catch (xown C) [] ⟨0, 13, 16, 19⟩ [⟨0, 13, 20, 21⟩] hT (fun z hz => nomatch hz) (by decide) (by decide) (xhts C _ (List.mem_cons_of_mem _ gw_104)) (va_any rfl (xs_c1 (xS C))) hce hcv hcl ?_
  refine lv_astore (lv' := [(5, .ref q9), (0, .ref h0), (1, .int v0), (2, .int v1), (3, .int 1), (4, .ref h1)]) C.1 C.2.1 dL_rangePoll_16 hl (by decide) rfl (fun ls hl => ?_)
  refine lv_iconst (v := 1) C.1 C.2.1 dL_rangePoll_18 (by decide) ?_
  exact x_iret C w hr (fun _ => 0) rfl rfl dL_rangePoll_19 (Nat.le_of_ble_eq_true rfl) (Nat.le_of_ble_eq_true rfl)
set_option maxHeartbeats 4000000 in
set_option maxRecDepth 100000 in
theorem c382_X6_rangePoll (l : Launch) (G : va_G) (cy : Nat → ClassId) (sa : String → Nat → Nat) (sv : Nat → Nat) (h0 h1 h2 h3 h4 h5 h6 h7 : Nat) (v0 v1 : Int32) (p0 : ¬ v0 ≤ v1) : xM l G cy sa sv yX6_rangePoll (Cond.code yX6_rangePoll cX6_rangePoll 4 (some .int) :: XG) { frames := 9, cells := 0, slots := 0, locals := 272 } [.ref h0, .int v0, .int v1, .int 1] [(h0, .inr (10, [.ref h1, .ref h2, .ref h3, .ref h4, .ref h5, .ref h6, .ref h7, .int 0, .int 0]))] (xQi G (fun f => [(h0, .inr (10, [.ref h1, .ref h2, .ref h3, .ref h4, .ref h5, .ref h6, .ref h7, .int 0, .int 1]))]) 0) := by
  refine xof (by decide) (Nat.le_of_ble_eq_true rfl) (fun p e s m below meth c A C w hr hn ls hl => ?_)
  have hl : lv_has ls 4 [(0, .ref h0), (1, .int v0), (2, .int v1), (3, .int 1)] := hl
  refine lv_aload_n C.1 C.2.1 dX6_rangePoll_0 rfl (lv_at hl 0 rfl) ?_
  refine lv_iload_n C.1 C.2.1 dX6_rangePoll_1 rfl (lv_at hl 1 rfl) ?_
  refine lv_iload_n C.1 C.2.1 dX6_rangePoll_2 rfl (lv_at hl 2 rfl) ?_
  refine lv_icmp_le (tgt := 10) C.1 C.2.1 dX6_rangePoll_3 (by decide) (fun c9 => absurd c9 p0) (fun _ => ?_)
  refine lv_iconst (v := 1) C.1 C.2.1 dX6_rangePoll_6 (by decide) ?_
  refine lv_goto (tgt := 11) C.1 C.2.1 dX6_rangePoll_7 (by decide) ?_
  refine lv_iconst (v := 1) C.1 C.2.1 dX6_rangePoll_11 (by decide) ?_
  refine x_ki C w [0] [] rfl rfl (by decide) (by decide) (va_runV (As := [.int 1, .int 1]) (rest := []) (xfix C) (c17_X6_start l G cy sa sv h0 h1 h2 h3 h4 h5 h6 h7 (xtr C) _) (cwV 2 (xhts C) (xgV (maxL := 0) (cc := ⟨#[]⟩) (ret := none) gw_114 gw_115 gw_116 gw_58 gc_X6_start) rfl rfl rfl (by decide +kernel) ⟨(Nat.le_of_ble_eq_true rfl), (Nat.le_of_ble_eq_true rfl)⟩) (xPV C w [0] rfl (by decide) (ci := 10) (q0 := 0) rfl rfl) rfl rfl hl.1 rfl (lv_room (Nat.le_of_ble_eq_true rfl)) dX6_rangePoll_12 ⟨(Nat.le_of_ble_eq_true rfl), (Nat.le_of_ble_eq_true rfl)⟩) (fun f2408 H locs w => ?_)
  have w : xW G A s [(h0, .inr (10, [.ref h1, .ref h2, .ref h3, .ref h4, .ref h5, .ref h6, .ref h7, .int 0, .int 1]))] H _ := w
  refine lv_if_ne (tgt := 43) C.1 C.2.1 dX6_rangePoll_15 (by decide) (fun _ => ?_) (fun c9 => absurd c9 (by decide))
  refine lv_iconst (v := 0) C.1 C.2.1 dX6_rangePoll_43 (by decide) ?_
  refine lv_goto (tgt := 61) C.1 C.2.1 dX6_rangePoll_44 (by decide) ?_
  exact x_iret C w hr (fun _ => 0) rfl rfl dX6_rangePoll_61 (Nat.le_of_ble_eq_true rfl) (Nat.le_of_ble_eq_true rfl)
set_option maxHeartbeats 4000000 in
set_option maxRecDepth 100000 in
theorem c383_X4_rangeClear (l : Launch) (G : va_G) (cy : Nat → ClassId) (sa : String → Nat → Nat) (sv : Nat → Nat) (h0 h1 h2 h3 h4 h5 h6 h7 h8 h9 h10 h11 h12 h13 h14 : Nat) (v0 v1 : Int32) (p0 : v0 ≤ v1) : xM l G cy sa sv yX4_rangeClear (Cond.code yX4_rangeClear cX4_rangeClear 5 (some .int) :: XG) { frames := 11, cells := 0, slots := 0, locals := 314 } [.ref h0, .int v0, .int v1] [(h0, .inr (8, [.ref h1, .ref h5, .ref h4, .ref h6, .ref h7, .int 0, .ref h3, .ref h8])), (h1, .inr (7, [.ref h2, .ref h9])), (h2, .inr (6, [.ref h10, .int 0])), (h3, .inr (6, [.ref h11, .int 0])), (h4, .inr (5, [.ref h12, .ref h13, .ref h14, .int 0]))] (xQi G (fun f => [(h0, .inr (8, [.ref h1, .ref h5, .ref h4, .ref h6, .ref h7, .int 0, .ref h3, .ref h8])), (h1, .inr (7, [.ref h2, .ref h9])), (h2, .inr (6, [.ref h10, .int 0])), (h3, .inr (6, [.ref h11, .int 0])), (h4, .inr (5, [.ref h12, .ref h13, .ref h14, .int 0]))]) 0) := by
  refine xof (by decide) (Nat.le_of_ble_eq_true rfl) (fun p e s m below meth c A C w hr hn ls hl => ?_)
  have hl : lv_has ls 5 [(0, .ref h0), (1, .int v0), (2, .int v1)] := hl
  refine lv_iload_n C.1 C.2.1 dX4_rangeClear_0 rfl (lv_at hl 1 rfl) ?_
  refine lv_iload_n C.1 C.2.1 dX4_rangeClear_1 rfl (lv_at hl 2 rfl) ?_
  refine lv_icmp_le (tgt := 9) C.1 C.2.1 dX4_rangeClear_2 (by decide) (fun _ => ?_) (fun c9 => absurd p0 c9)
  refine lv_aload_n C.1 C.2.1 dX4_rangeClear_9 rfl (lv_at hl 0 rfl) ?_
  refine x_get (v := .ref h1) C w 0 8 0 (xin_X4 _) rfl rfl (by decide) (List.mem_cons_of_mem _ gw_24) rfl rfl dX4_rangeClear_10 ?_
  refine lv_iload_n C.1 C.2.1 dX4_rangeClear_13 rfl (lv_at hl 2 rfl) ?_
  refine x_ki C w [1, 2] [0, 3, 4] rfl rfl (by decide) (by decide) (va_runV (As := [.int v1]) (rest := []) (xfix C) (c153_X3_countNotAbove l G cy sa sv h1 h2 h9 h10 v1 (xtr C) _) (cwV 1 (xhts C) (xgV (maxL := 0) (cc := ⟨#[]⟩) (ret := none) gw_308 gw_309 gw_310 gw_7 gc_X3_countNotAbove) rfl rfl rfl (by decide +kernel) ⟨(Nat.le_of_ble_eq_true rfl), (Nat.le_of_ble_eq_true rfl)⟩) (xPV C w [1, 2] rfl (by decide) (ci := 7) (q0 := 1) rfl rfl) rfl rfl hl.1 rfl (lv_room (Nat.le_of_ble_eq_true rfl)) dX4_rangeClear_14 ⟨(Nat.le_of_ble_eq_true rfl), (Nat.le_of_ble_eq_true rfl)⟩) (fun f2421 H locs w => ?_)
  have w : xW G A s [(h0, .inr (8, [.ref h1, .ref h5, .ref h4, .ref h6, .ref h7, .int 0, .ref h3, .ref h8])), (h3, .inr (6, [.ref h11, .int 0])), (h4, .inr (5, [.ref h12, .ref h13, .ref h14, .int 0])), (h1, .inr (7, [.ref h2, .ref h9])), (h2, .inr (6, [.ref h10, .int 0]))] H _ := w
  refine lv_istore_n (lv' := [(3, .int 0), (0, .ref h0), (1, .int v0), (2, .int v1)]) C.1 C.2.1 dX4_rangeClear_17 rfl hl (by decide) rfl (fun ls hl => ?_)
  refine lv_aload_n C.1 C.2.1 dX4_rangeClear_18 rfl (lv_at hl 1 rfl) ?_
  refine x_get (v := .ref h3) C w 0 8 6 (xin_X4 _) rfl rfl (by decide) (List.mem_cons_of_mem _ gw_51) rfl rfl dX4_rangeClear_19 ?_
  refine x_kv C w [1] [0, 2, 3, 4] rfl rfl (by decide) (by decide) (va_runV (As := []) (rest := []) (xfix C) (c109_X2_empty l G cy sa sv h3 h11 (xtr C) _) (cwV 0 (xhts C) (xgV (maxL := 0) (cc := ⟨#[]⟩) (ret := none) gw_312 gw_313 gw_314 gw_11 gc_X2_empty) rfl rfl rfl (by decide +kernel) ⟨(Nat.le_of_ble_eq_true rfl), (Nat.le_of_ble_eq_true rfl)⟩) (xPV C w [1] rfl (by decide) (ci := 6) (q0 := 1) rfl rfl) rfl rfl hl.1 rfl (lv_room (Nat.le_of_ble_eq_true rfl)) dX4_rangeClear_22 ⟨(Nat.le_of_ble_eq_true rfl), (Nat.le_of_ble_eq_true rfl)⟩) (fun f2422 H locs w => ?_)
  have w : xW G A s [(h0, .inr (8, [.ref h1, .ref h5, .ref h4, .ref h6, .ref h7, .int 0, .ref h3, .ref h8])), (h4, .inr (5, [.ref h12, .ref h13, .ref h14, .int 0])), (h1, .inr (7, [.ref h2, .ref h9])), (h2, .inr (6, [.ref h10, .int 0])), (h3, .inr (6, [.ref h11, .int 0]))] H _ := w
  refine lv_aload_n C.1 C.2.1 dX4_rangeClear_25 rfl (lv_at hl 1 rfl) ?_
  refine x_get (v := .ref h1) C w 0 8 0 (xin_X4 _) rfl rfl (by decide) (List.mem_cons_of_mem _ gw_24) rfl rfl dX4_rangeClear_26 ?_
  refine lv_iload_n C.1 C.2.1 dX4_rangeClear_29 rfl (lv_at hl 2 rfl) ?_
  refine x_ki C w [2, 3] [0, 1, 4] rfl rfl (by decide) (by decide) (va_runV (As := [.int v0]) (rest := []) (xfix C) (c31_X3_countBelow l G cy sa sv h1 h2 h9 h10 v0 (xtr C) _) (cwV 1 (xhts C) (xgV (maxL := 0) (cc := ⟨#[]⟩) (ret := none) gw_315 gw_159 gw_160 gw_7 gc_X3_countBelow) rfl rfl rfl (by decide +kernel) ⟨(Nat.le_of_ble_eq_true rfl), (Nat.le_of_ble_eq_true rfl)⟩) (xPV C w [2, 3] rfl (by decide) (ci := 7) (q0 := 2) rfl rfl) rfl rfl hl.1 rfl (lv_room (Nat.le_of_ble_eq_true rfl)) dX4_rangeClear_30 ⟨(Nat.le_of_ble_eq_true rfl), (Nat.le_of_ble_eq_true rfl)⟩) (fun f2424 H locs w => ?_)
  have w : xW G A s [(h0, .inr (8, [.ref h1, .ref h5, .ref h4, .ref h6, .ref h7, .int 0, .ref h3, .ref h8])), (h4, .inr (5, [.ref h12, .ref h13, .ref h14, .int 0])), (h3, .inr (6, [.ref h11, .int 0])), (h1, .inr (7, [.ref h2, .ref h9])), (h2, .inr (6, [.ref h10, .int 0]))] H _ := w
  refine lv_istore (lv' := [(4, .int 0), (3, .int 0), (0, .ref h0), (1, .int v0), (2, .int v1)]) C.1 C.2.1 dX4_rangeClear_33 hl (by decide) rfl (fun ls hl => ?_)
  refine lv_iload C.1 C.2.1 dX4_rangeClear_35 (lv_at hl 0 rfl) ?_
  refine lv_iload_n C.1 C.2.1 dX4_rangeClear_37 rfl (lv_at hl 1 rfl) ?_
  refine lv_icmp_ge (tgt := 63) C.1 C.2.1 dX4_rangeClear_38 (by decide) (fun _ => ?_) (fun c9 => absurd (by decide) c9)
  refine lv_aload_n C.1 C.2.1 dX4_rangeClear_63 rfl (lv_at hl 2 rfl) ?_
  refine x_ki C w [0, 2] [1, 3, 4] rfl rfl (by decide) (by decide) (va_runV (As := []) (rest := []) (xfix C) (c111_X4_dropChosen l G cy sa sv h0 h3 h1 h5 h4 h6 h7 h8 h11 (xtr C) _) (cwV 0 (xhts C) (xgV (maxL := 0) (cc := ⟨#[]⟩) (ret := none) gw_318 gw_319 gw_320 gw_2 gc_X4_dropChosen) rfl rfl rfl (by decide +kernel) ⟨(Nat.le_of_ble_eq_true rfl), (Nat.le_of_ble_eq_true rfl)⟩) (xPV C w [0, 2] rfl (by decide) (ci := 8) (q0 := 0) rfl rfl) rfl rfl hl.1 rfl (lv_room (Nat.le_of_ble_eq_true rfl)) dX4_rangeClear_64 ⟨(Nat.le_of_ble_eq_true rfl), (Nat.le_of_ble_eq_true rfl)⟩) (fun f2426 H locs w => ?_)
  have w : xW G A s [(h4, .inr (5, [.ref h12, .ref h13, .ref h14, .int 0])), (h1, .inr (7, [.ref h2, .ref h9])), (h2, .inr (6, [.ref h10, .int 0])), (h0, .inr (8, [.ref h1, .ref h5, .ref h4, .ref h6, .ref h7, .int 0, .ref h3, .ref h8])), (h3, .inr (6, [.ref h11, .int 0]))] H _ := w
  refine lv_istore (lv' := [(4, .int 0), (3, .int 0), (0, .ref h0), (1, .int v0), (2, .int v1)]) C.1 C.2.1 dX4_rangeClear_67 hl (by decide) rfl (fun ls hl => ?_)
  refine lv_aload_n C.1 C.2.1 dX4_rangeClear_69 rfl (lv_at hl 2 rfl) ?_
  refine x_get (v := .ref h4) C w 3 8 2 (xin_X4 _) rfl rfl (by decide) (List.mem_cons_of_mem _ gw_41) rfl rfl dX4_rangeClear_70 ?_
  refine x_kv C w [0] [1, 2, 3, 4] rfl rfl (by decide) (by decide) (va_runV (As := []) (rest := []) (xfix C) (c112_X1_endStep l G cy sa sv h4 h12 h13 h14 (xtr C) _) (cwV 0 (xhts C) (xgV (maxL := 0) (cc := ⟨#[]⟩) (ret := none) gw_190 gw_191 gw_192 gw_30 gc_X1_endStep) rfl rfl rfl (by decide +kernel) ⟨(Nat.le_of_ble_eq_true rfl), (Nat.le_of_ble_eq_true rfl)⟩) (xPV C w [0] rfl (by decide) (ci := 5) (q0 := 0) rfl rfl) rfl rfl hl.1 rfl (lv_room (Nat.le_of_ble_eq_true rfl)) dX4_rangeClear_73 ⟨(Nat.le_of_ble_eq_true rfl), (Nat.le_of_ble_eq_true rfl)⟩) (fun f2427 H locs w => ?_)
  have w : xW G A s [(h1, .inr (7, [.ref h2, .ref h9])), (h2, .inr (6, [.ref h10, .int 0])), (h0, .inr (8, [.ref h1, .ref h5, .ref h4, .ref h6, .ref h7, .int 0, .ref h3, .ref h8])), (h3, .inr (6, [.ref h11, .int 0])), (h4, .inr (5, [.ref h12, .ref h13, .ref h14, .int 0]))] H _ := w
  refine lv_iload C.1 C.2.1 dX4_rangeClear_76 (lv_at hl 0 rfl) ?_
  have w := w.sub (ws' := [(h0, .inr (8, [.ref h1, .ref h5, .ref h4, .ref h6, .ref h7, .int 0, .ref h3, .ref h8])), (h1, .inr (7, [.ref h2, .ref h9])), (h2, .inr (6, [.ref h10, .int 0])), (h3, .inr (6, [.ref h11, .int 0])), (h4, .inr (5, [.ref h12, .ref h13, .ref h14, .int 0]))]) [2, 0, 1, 3, 4] (by decide) rfl rfl
  exact x_iret C w hr (fun _ => 0) rfl rfl dX4_rangeClear_78 (Nat.le_of_ble_eq_true rfl) (Nat.le_of_ble_eq_true rfl)
set_option maxHeartbeats 4000000 in
set_option maxRecDepth 100000 in
theorem c384_X6_rangeClear (l : Launch) (G : va_G) (cy : Nat → ClassId) (sa : String → Nat → Nat) (sv : Nat → Nat) (h0 h1 h2 h3 h4 h5 h6 h7 : Nat) (v0 v1 : Int32) (p0 : v0 ≤ v1) : xM l G cy sa sv yX6_rangeClear (Cond.code yX6_rangeClear cX6_rangeClear 7 (some .int) :: XG) { frames := 12, cells := 3, slots := 6, locals := 334 } [.ref h0, .int v0, .int v1] [(h0, .inr (10, [.ref h1, .ref h4, .ref h3, .ref h2, .ref h5, .ref h6, .ref h7, .int 0, .int 0])), (h1, .inr (3, [.int 0, .ref (sv 0), .int 0])), (h2, .inr (3, [.int 0, .ref (sv 0), .int 0])), (h3, .inr (3, [.int 0, .ref (sv 0), .int 0]))] (xQi G (fun f => [(h0, .inr (10, [.ref h1, .ref h4, .ref h3, .ref (f 0), .ref h5, .ref h6, .ref h7, .int 0, .int 0])), (h1, .inr (3, [.int 0, .ref (sv 0), .int 0])), (h2, .inr (3, [.int 0, .ref (sv 0), .int 0])), (h3, .inr (3, [.int 0, .ref (sv 0), .int 0])), ((f 0), .inr (3, [.int 0, .ref (sv 0), .int 0]))]) 0) := by
  refine xof (by decide) (Nat.le_of_ble_eq_true rfl) (fun p e s m below meth c A C w hr hn ls hl => ?_)
  have hl : lv_has ls 7 [(0, .ref h0), (1, .int v0), (2, .int v1)] := hl
  refine lv_aload_n C.1 C.2.1 dX6_rangeClear_0 rfl (lv_at hl 0 rfl) ?_
  refine lv_iconst (v := 0) C.1 C.2.1 dX6_rangeClear_1 (by decide) ?_
  refine x_put (ty := .int) (ty0 := tyX6) C w 0 10 8 (xin_X6 _) tyX6_ok nmX6 rfl rfl (by decide) (List.mem_cons_of_mem _ gw_112) rfl rfl (by decide +kernel) rfl rfl (Nat.le_of_ble_eq_true rfl) dX6_rangeClear_2 (fun H locs w => ?_)
  have w : xW G A s [(h0, .inr (10, [.ref h1, .ref h4, .ref h3, .ref h2, .ref h5, .ref h6, .ref h7, .int 0, .int 0])), (h1, .inr (3, [.int 0, .ref (sv 0), .int 0])), (h2, .inr (3, [.int 0, .ref (sv 0), .int 0])), (h3, .inr (3, [.int 0, .ref (sv 0), .int 0]))] H _ := w
  refine lv_iload_n C.1 C.2.1 dX6_rangeClear_5 rfl (lv_at hl 1 rfl) ?_
  refine lv_iload_n C.1 C.2.1 dX6_rangeClear_6 rfl (lv_at hl 2 rfl) ?_
  refine lv_icmp_le (tgt := 14) C.1 C.2.1 dX6_rangeClear_7 (by decide) (fun _ => ?_) (fun c9 => absurd p0 c9)
  refine lv_aload_n C.1 C.2.1 dX6_rangeClear_14 rfl (lv_at hl 0 rfl) ?_
  refine lv_iload_n C.1 C.2.1 dX6_rangeClear_15 rfl (lv_at hl 1 rfl) ?_
  refine lv_iload_n C.1 C.2.1 dX6_rangeClear_16 rfl (lv_at hl 2 rfl) ?_
  refine x_kr C w [0, 1] [2, 3] rfl rfl (by decide) (by decide) (va_runV (As := [.int v0, .int v1]) (rest := []) (xfix C) (c298_X6_range l G cy sa sv h0 h1 h4 h3 h2 h5 h6 h7 v0 v1 (xtr C) _) (cwV 2 (xhts C) (xgV (maxL := 0) (cc := ⟨#[]⟩) (ret := none) gw_670 gw_671 gw_672 gw_58 gc_X6_range) rfl rfl rfl (by decide +kernel) ⟨(Nat.le_of_ble_eq_true rfl), (Nat.le_of_ble_eq_true rfl)⟩) (xPV C w [0, 1] rfl (by decide) (ci := 10) (q0 := 0) rfl rfl) rfl rfl hl.1 rfl (lv_room (Nat.le_of_ble_eq_true rfl)) dX6_rangeClear_17 ⟨(Nat.le_of_ble_eq_true rfl), (Nat.le_of_ble_eq_true rfl)⟩) (fun f2443 H locs w => ?_)
  have w : xW G A s [(h2, .inr (3, [.int 0, .ref (sv 0), .int 0])), (h3, .inr (3, [.int 0, .ref (sv 0), .int 0])), (h0, .inr (10, [.ref h1, .ref h4, .ref h3, .ref h2, .ref h5, .ref h6, .ref h7, .int 0, .int 0])), (h1, .inr (3, [.int 0, .ref (sv 0), .int 0])), ((f2443 0), .inr (3, [.int 0, .ref (sv 0), .int 0]))] H _ := w
  refine W.widen (k := 1) (n := 3) (Nat.le_of_ble_eq_true rfl) (Nat.le_of_ble_eq_true rfl) ?_
  refine x_kr C w [4] [0, 1, 2, 3] rfl rfl (by decide) (by decide) (va_runS (As := [.ref (f2443 0)]) (rest := []) (xfix C) (c115_X6_keysOf l G cy sa sv (f2443 0) (xtr C) _) (va_cwS 1 (xhts C) (xgS gw_330 gw_331 gw_58 gc_X6_keysOf) rfl rfl rfl (by decide +kernel) ⟨(Nat.le_of_ble_eq_true rfl), (Nat.le_of_ble_eq_true rfl)⟩) (xPS C w [4] rfl (by decide)) rfl rfl hl.1 rfl (lv_room (Nat.le_of_ble_eq_true rfl)) dX6_rangeClear_20 ⟨(Nat.le_of_ble_eq_true rfl), (Nat.le_of_ble_eq_true rfl)⟩) (fun f2449 H locs w => ?_)
  have w : xW G A s [(h2, .inr (3, [.int 0, .ref (sv 0), .int 0])), (h3, .inr (3, [.int 0, .ref (sv 0), .int 0])), (h0, .inr (10, [.ref h1, .ref h4, .ref h3, .ref h2, .ref h5, .ref h6, .ref h7, .int 0, .int 0])), (h1, .inr (3, [.int 0, .ref (sv 0), .int 0])), ((f2443 0), .inr (3, [.int 0, .ref (sv 0), .int 0])), ((f2449 0), .inl (cy 1, 0, .inl (fun _ => 0)))] H _ := w
  refine W.widen (k := 2) (n := 3) (Nat.le_of_ble_eq_true rfl) (Nat.le_of_ble_eq_true rfl) ?_
  refine lv_astore_n (lv' := [(3, .ref (f2449 0)), (0, .ref h0), (1, .int v0), (2, .int v1)]) C.1 C.2.1 dX6_rangeClear_23 rfl hl (by decide) rfl (fun ls hl => ?_)
  refine lv_aload_n C.1 C.2.1 dX6_rangeClear_24 rfl (lv_at hl 0 rfl) ?_
  refine x_alen (v := 0) C w 5 1 rfl rfl (by rfl) dX6_rangeClear_25 ?_
  refine lv_istore (lv' := [(4, .int 0), (3, .ref (f2449 0)), (0, .ref h0), (1, .int v0), (2, .int v1)]) C.1 C.2.1 dX6_rangeClear_26 hl (by decide) rfl (fun ls hl => ?_)
  refine lv_iconst (v := 0) C.1 C.2.1 dX6_rangeClear_28 (by decide) ?_
  refine lv_istore (lv' := [(5, .int 0), (4, .int 0), (3, .ref (f2449 0)), (0, .ref h0), (1, .int v0), (2, .int v1)]) C.1 C.2.1 dX6_rangeClear_29 hl (by decide) rfl (fun ls hl => ?_)
  refine lv_iload C.1 C.2.1 dX6_rangeClear_31 (lv_at hl 0 rfl) ?_
  refine lv_iload C.1 C.2.1 dX6_rangeClear_33 (lv_at hl 1 rfl) ?_
  refine lv_icmp_ge (tgt := 56) C.1 C.2.1 dX6_rangeClear_35 (by decide) (fun _ => ?_) (fun c9 => absurd (by decide) c9)
  refine lv_aload_n C.1 C.2.1 dX6_rangeClear_56 rfl (lv_at hl 3 rfl) ?_
  refine x_ki C w [2, 0, 1] [3, 4, 5] rfl rfl (by decide) (by decide) (va_runV (As := []) (rest := []) (xfix C) (c101_X6_done l G cy sa sv h0 h2 h3 h1 h4 h5 h6 h7 (xtr C) _) (cwV 0 (xhts C) (xgV (maxL := 0) (cc := ⟨#[]⟩) (ret := none) gw_244 gw_245 gw_246 gw_58 gc_X6_done) rfl rfl rfl (by decide +kernel) ⟨(Nat.le_of_ble_eq_true rfl), (Nat.le_of_ble_eq_true rfl)⟩) (xPV C w [2, 0, 1] rfl (by decide) (ci := 10) (q0 := 2) rfl rfl) rfl rfl hl.1 rfl (lv_room (Nat.le_of_ble_eq_true rfl)) dX6_rangeClear_57 ⟨(Nat.le_of_ble_eq_true rfl), (Nat.le_of_ble_eq_true rfl)⟩) (fun f2459 H locs w => ?_)
  have w : xW G A s [(h1, .inr (3, [.int 0, .ref (sv 0), .int 0])), ((f2443 0), .inr (3, [.int 0, .ref (sv 0), .int 0])), ((f2449 0), .inl (cy 1, 0, .inl (fun _ => 0))), (h0, .inr (10, [.ref h1, .ref h4, .ref h3, .ref (f2459 0), .ref h5, .ref h6, .ref h7, .int 0, .int 0])), (h2, .inr (3, [.int 0, .ref (sv 0), .int 0])), (h3, .inr (3, [.int 0, .ref (sv 0), .int 0])), ((f2459 0), .inr (3, [.int 0, .ref (sv 0), .int 0]))] H _ := w
  refine W.widen (k := 3) (n := 6) (Nat.le_of_ble_eq_true rfl) (Nat.le_of_ble_eq_true rfl) ?_
  have w := w.sub (ws' := [(h0, .inr (10, [.ref h1, .ref h4, .ref h3, .ref (f2459 0), .ref h5, .ref h6, .ref h7, .int 0, .int 0])), (h1, .inr (3, [.int 0, .ref (sv 0), .int 0])), (h2, .inr (3, [.int 0, .ref (sv 0), .int 0])), (h3, .inr (3, [.int 0, .ref (sv 0), .int 0])), ((f2459 0), .inr (3, [.int 0, .ref (sv 0), .int 0]))]) [3, 0, 4, 5, 6] (by decide) rfl rfl
  exact x_iret C w hr (fun k => match k with | 0 => (f2459 0) | _ => 0) rfl rfl dX6_rangeClear_60 (Nat.le_of_ble_eq_true rfl) (Nat.le_of_ble_eq_true rfl)
set_option maxHeartbeats 4000000 in
set_option maxRecDepth 100000 in
theorem c385_X4_rangeClear (l : Launch) (G : va_G) (cy : Nat → ClassId) (sa : String → Nat → Nat) (sv : Nat → Nat) (h0 : Nat) (v0 v1 : Int32) (p0 : ¬ v0 ≤ v1) : xM l G cy sa sv yX4_rangeClear (Cond.code yX4_rangeClear cX4_rangeClear 5 (some .int) :: XG) { frames := 8, cells := 0, slots := 0, locals := 250 } [.ref h0, .int v0, .int v1] [] (xQi G (fun f => []) (-9999)) := by
  refine xof (by decide) (Nat.le_of_ble_eq_true rfl) (fun p e s m below meth c A C w hr hn ls hl => ?_)
  have hl : lv_has ls 5 [(0, .ref h0), (1, .int v0), (2, .int v1)] := hl
  refine lv_iload_n C.1 C.2.1 dX4_rangeClear_0 rfl (lv_at hl 1 rfl) ?_
  refine lv_iload_n C.1 C.2.1 dX4_rangeClear_1 rfl (lv_at hl 2 rfl) ?_
  refine lv_icmp_le (tgt := 9) C.1 C.2.1 dX4_rangeClear_2 (by decide) (fun c9 => absurd c9 p0) (fun _ => ?_)
  refine lv_sipush (v := (-9999)) C.1 C.2.1 dX4_rangeClear_5 (by decide) ?_
  exact x_iret C w hr (fun _ => 0) rfl rfl dX4_rangeClear_8 (Nat.le_of_ble_eq_true rfl) (Nat.le_of_ble_eq_true rfl)
set_option maxHeartbeats 4000000 in
set_option maxRecDepth 100000 in
theorem c386_X6_rangeClear (l : Launch) (G : va_G) (cy : Nat → ClassId) (sa : String → Nat → Nat) (sv : Nat → Nat) (h0 h1 h2 h3 h4 h5 h6 h7 : Nat) (v0 v1 : Int32) (p0 : ¬ v0 ≤ v1) : xM l G cy sa sv yX6_rangeClear (Cond.code yX6_rangeClear cX6_rangeClear 7 (some .int) :: XG) { frames := 8, cells := 0, slots := 0, locals := 250 } [.ref h0, .int v0, .int v1] [(h0, .inr (10, [.ref h1, .ref h2, .ref h3, .ref h4, .ref h5, .ref h6, .ref h7, .int 0, .int 0]))] (xQi G (fun f => [(h0, .inr (10, [.ref h1, .ref h2, .ref h3, .ref h4, .ref h5, .ref h6, .ref h7, .int 0, .int 0]))]) (-9999)) := by
  refine xof (by decide) (Nat.le_of_ble_eq_true rfl) (fun p e s m below meth c A C w hr hn ls hl => ?_)
  have hl : lv_has ls 7 [(0, .ref h0), (1, .int v0), (2, .int v1)] := hl
  refine lv_aload_n C.1 C.2.1 dX6_rangeClear_0 rfl (lv_at hl 0 rfl) ?_
  refine lv_iconst (v := 0) C.1 C.2.1 dX6_rangeClear_1 (by decide) ?_
  refine x_put (ty := .int) (ty0 := tyX6) C w 0 10 8 (xin_X6 _) tyX6_ok nmX6 rfl rfl (by decide) (List.mem_cons_of_mem _ gw_112) rfl rfl (by decide +kernel) rfl rfl (Nat.le_of_ble_eq_true rfl) dX6_rangeClear_2 (fun H locs w => ?_)
  have w : xW G A s [(h0, .inr (10, [.ref h1, .ref h2, .ref h3, .ref h4, .ref h5, .ref h6, .ref h7, .int 0, .int 0]))] H _ := w
  refine lv_iload_n C.1 C.2.1 dX6_rangeClear_5 rfl (lv_at hl 1 rfl) ?_
  refine lv_iload_n C.1 C.2.1 dX6_rangeClear_6 rfl (lv_at hl 2 rfl) ?_
  refine lv_icmp_le (tgt := 14) C.1 C.2.1 dX6_rangeClear_7 (by decide) (fun c9 => absurd c9 p0) (fun _ => ?_)
  refine lv_sipush (v := (-9999)) C.1 C.2.1 dX6_rangeClear_10 (by decide) ?_
  exact x_iret C w hr (fun _ => 0) rfl rfl dX6_rangeClear_13 (Nat.le_of_ble_eq_true rfl) (Nat.le_of_ble_eq_true rfl)
set_option maxHeartbeats 4000000 in
set_option maxRecDepth 100000 in
theorem c387_X4_rangeSum (l : Launch) (G : va_G) (cy : Nat → ClassId) (sa : String → Nat → Nat) (sv : Nat → Nat) (h0 h1 h2 h3 h4 h5 h6 h7 h8 h9 h10 : Nat) (v0 v1 : Int32) (p0 : v0 ≤ v1) : xM l G cy sa sv yX4_rangeSum (Cond.code yX4_rangeSum cX4_rangeSum 6 (some .int) :: XG) { frames := 11, cells := 0, slots := 0, locals := 314 } [.ref h0, .int v0, .int v1] [(h0, .inr (8, [.ref h1, .ref h3, .ref h4, .ref h5, .ref h6, .int 0, .ref h7, .ref h8])), (h1, .inr (7, [.ref h2, .ref h9])), (h2, .inr (6, [.ref h10, .int 0]))] (xQi G (fun f => [(h0, .inr (8, [.ref h1, .ref h3, .ref h4, .ref h5, .ref h6, .int 0, .ref h7, .ref h8])), (h1, .inr (7, [.ref h2, .ref h9])), (h2, .inr (6, [.ref h10, .int 0]))]) 0) := by
  refine xof (by decide) (Nat.le_of_ble_eq_true rfl) (fun p e s m below meth c A C w hr hn ls hl => ?_)
  have hl : lv_has ls 6 [(0, .ref h0), (1, .int v0), (2, .int v1)] := hl
  refine lv_iload_n C.1 C.2.1 dX4_rangeSum_0 rfl (lv_at hl 1 rfl) ?_
  refine lv_iload_n C.1 C.2.1 dX4_rangeSum_1 rfl (lv_at hl 2 rfl) ?_
  refine x_kv C w [] [0, 1, 2] rfl rfl (by decide) (by decide) (va_runS (As := [.int v0, .int v1]) (rest := []) (xfix C) (c302_X4_checkRange l G cy sa sv v0 v1 p0 (xtr C) _) (va_cwS 2 (xhts C) (xgS gw_390 gw_391 gw_2 gc_X4_checkRange) rfl rfl rfl (by decide +kernel) ⟨(Nat.le_of_ble_eq_true rfl), (Nat.le_of_ble_eq_true rfl)⟩) (xPS C w [] rfl (by decide)) rfl rfl hl.1 rfl (lv_room (Nat.le_of_ble_eq_true rfl)) dX4_rangeSum_2 ⟨(Nat.le_of_ble_eq_true rfl), (Nat.le_of_ble_eq_true rfl)⟩) (fun f2468 H locs w => ?_)
  have w : xW G A s [(h0, .inr (8, [.ref h1, .ref h3, .ref h4, .ref h5, .ref h6, .int 0, .ref h7, .ref h8])), (h1, .inr (7, [.ref h2, .ref h9])), (h2, .inr (6, [.ref h10, .int 0]))] H _ := w
  refine lv_iconst (v := 0) C.1 C.2.1 dX4_rangeSum_5 (by decide) ?_
  refine lv_istore_n (lv' := [(3, .int 0), (0, .ref h0), (1, .int v0), (2, .int v1)]) C.1 C.2.1 dX4_rangeSum_6 rfl hl (by decide) rfl (fun ls hl => ?_)
  refine lv_aload_n C.1 C.2.1 dX4_rangeSum_7 rfl (lv_at hl 1 rfl) ?_
  refine x_get (v := .ref h1) C w 0 8 0 (xin_X4 _) rfl rfl (by decide) (List.mem_cons_of_mem _ gw_24) rfl rfl dX4_rangeSum_8 ?_
  refine lv_iload_n C.1 C.2.1 dX4_rangeSum_11 rfl (lv_at hl 3 rfl) ?_
  refine x_ki C w [1, 2] [0] rfl rfl (by decide) (by decide) (va_runV (As := [.int v1]) (rest := []) (xfix C) (c153_X3_countNotAbove l G cy sa sv h1 h2 h9 h10 v1 (xtr C) _) (cwV 1 (xhts C) (xgV (maxL := 0) (cc := ⟨#[]⟩) (ret := none) gw_308 gw_309 gw_310 gw_7 gc_X3_countNotAbove) rfl rfl rfl (by decide +kernel) ⟨(Nat.le_of_ble_eq_true rfl), (Nat.le_of_ble_eq_true rfl)⟩) (xPV C w [1, 2] rfl (by decide) (ci := 7) (q0 := 1) rfl rfl) rfl rfl hl.1 rfl (lv_room (Nat.le_of_ble_eq_true rfl)) dX4_rangeSum_12 ⟨(Nat.le_of_ble_eq_true rfl), (Nat.le_of_ble_eq_true rfl)⟩) (fun f2473 H locs w => ?_)
  have w : xW G A s [(h0, .inr (8, [.ref h1, .ref h3, .ref h4, .ref h5, .ref h6, .int 0, .ref h7, .ref h8])), (h1, .inr (7, [.ref h2, .ref h9])), (h2, .inr (6, [.ref h10, .int 0]))] H _ := w
  refine lv_istore (lv' := [(4, .int 0), (3, .int 0), (0, .ref h0), (1, .int v0), (2, .int v1)]) C.1 C.2.1 dX4_rangeSum_15 hl (by decide) rfl (fun ls hl => ?_)
  refine lv_aload_n C.1 C.2.1 dX4_rangeSum_17 rfl (lv_at hl 2 rfl) ?_
  refine x_get (v := .ref h1) C w 0 8 0 (xin_X4 _) rfl rfl (by decide) (List.mem_cons_of_mem _ gw_24) rfl rfl dX4_rangeSum_18 ?_
  refine lv_iload_n C.1 C.2.1 dX4_rangeSum_21 rfl (lv_at hl 3 rfl) ?_
  refine x_ki C w [1, 2] [0] rfl rfl (by decide) (by decide) (va_runV (As := [.int v0]) (rest := []) (xfix C) (c31_X3_countBelow l G cy sa sv h1 h2 h9 h10 v0 (xtr C) _) (cwV 1 (xhts C) (xgV (maxL := 0) (cc := ⟨#[]⟩) (ret := none) gw_315 gw_159 gw_160 gw_7 gc_X3_countBelow) rfl rfl rfl (by decide +kernel) ⟨(Nat.le_of_ble_eq_true rfl), (Nat.le_of_ble_eq_true rfl)⟩) (xPV C w [1, 2] rfl (by decide) (ci := 7) (q0 := 1) rfl rfl) rfl rfl hl.1 rfl (lv_room (Nat.le_of_ble_eq_true rfl)) dX4_rangeSum_22 ⟨(Nat.le_of_ble_eq_true rfl), (Nat.le_of_ble_eq_true rfl)⟩) (fun f2475 H locs w => ?_)
  have w : xW G A s [(h0, .inr (8, [.ref h1, .ref h3, .ref h4, .ref h5, .ref h6, .int 0, .ref h7, .ref h8])), (h1, .inr (7, [.ref h2, .ref h9])), (h2, .inr (6, [.ref h10, .int 0]))] H _ := w
  refine lv_istore (lv' := [(5, .int 0), (4, .int 0), (3, .int 0), (0, .ref h0), (1, .int v0), (2, .int v1)]) C.1 C.2.1 dX4_rangeSum_25 hl (by decide) rfl (fun ls hl => ?_)
  refine lv_iload C.1 C.2.1 dX4_rangeSum_27 (lv_at hl 0 rfl) ?_
  refine lv_iload C.1 C.2.1 dX4_rangeSum_29 (lv_at hl 1 rfl) ?_
  refine lv_icmp_ge (tgt := 52) C.1 C.2.1 dX4_rangeSum_31 (by decide) (fun _ => ?_) (fun c9 => absurd (by decide) c9)
  refine lv_iload_n C.1 C.2.1 dX4_rangeSum_52 rfl (lv_at hl 2 rfl) ?_
  exact x_iret C w hr (fun _ => 0) rfl rfl dX4_rangeSum_53 (Nat.le_of_ble_eq_true rfl) (Nat.le_of_ble_eq_true rfl)
set_option maxHeartbeats 4000000 in
set_option maxRecDepth 100000 in
theorem c388_L_rangeSum (l : Launch) (G : va_G) (cy : Nat → ClassId) (sa : String → Nat → Nat) (sv : Nat → Nat) (h0 h1 h2 h3 h4 h5 h6 h7 h8 h9 h10 h11 : Nat) (v0 v1 : Int32) (p0 : v0 ≤ v1) : xM l G cy sa sv yL_rangeSum (Cond.codeWith yL_rangeSum cL_rangeSum 5 (some .int) [(0, 11, 14, 19)] :: XG) { frames := 12, cells := 0, slots := 0, locals := 339 } [.ref h0, .int v0, .int v1, .ref h1] [(h0, .inr (8, [.ref h2, .ref h4, .ref h5, .ref h6, .ref h7, .int 0, .ref h8, .ref h9])), (h2, .inr (7, [.ref h3, .ref h10])), (h3, .inr (6, [.ref h11, .int 0])), (h1, .inr (9, [.long 0, .null]))] (xQi G (fun f => [(h0, .inr (8, [.ref h2, .ref h4, .ref h5, .ref h6, .ref h7, .int 0, .ref h8, .ref h9])), (h2, .inr (7, [.ref h3, .ref h10])), (h3, .inr (6, [.ref h11, .int 0])), (h1, .inr (9, [.long 0, .null]))]) 0) := by
  refine xofH (by decide) (Nat.le_of_ble_eq_true rfl) (fun p e s m below meth c A C w hr hn hT ls hl => ?_)
  have hl : lv_has ls 5 [(0, .ref h0), (1, .int v0), (2, .int v1), (3, .ref h1)] := hl
  refine lv_aload_n C.1 C.2.1 dL_rangeSum_0 rfl (lv_at hl 3 rfl) ?_
  refine lv_aload_n C.1 C.2.1 dL_rangeSum_1 rfl (lv_at hl 0 rfl) ?_
  refine lv_iload_n C.1 C.2.1 dL_rangeSum_2 rfl (lv_at hl 1 rfl) ?_
  refine lv_iload_n C.1 C.2.1 dL_rangeSum_3 rfl (lv_at hl 2 rfl) ?_
  refine x_ki C w [0, 1, 2] [3] rfl rfl (by decide) (by decide) (va_runV (As := [.int v0, .int v1]) (rest := [.ref h1]) (xfix C) (c387_X4_rangeSum l G cy sa sv h0 h2 h3 h4 h5 h6 h7 h8 h9 h10 h11 v0 v1 p0 (xtr C) _) (cwV 2 (xhts C) (xgV (maxL := 0) (cc := ⟨#[]⟩) (ret := none) gw_720 gw_721 gw_722 gw_2 gc_X4_rangeSum) rfl rfl rfl (by decide +kernel) ⟨(Nat.le_of_ble_eq_true rfl), (Nat.le_of_ble_eq_true rfl)⟩) (xPV C w [0, 1, 2] rfl (by decide) (ci := 8) (q0 := 0) rfl rfl) rfl rfl hl.1 rfl (lv_room (Nat.le_of_ble_eq_true rfl)) dL_rangeSum_4 ⟨(Nat.le_of_ble_eq_true rfl), (Nat.le_of_ble_eq_true rfl)⟩) (fun f2476 H locs w => ?_)
  have w : xW G A s [(h1, .inr (9, [.long 0, .null])), (h0, .inr (8, [.ref h2, .ref h4, .ref h5, .ref h6, .ref h7, .int 0, .ref h8, .ref h9])), (h2, .inr (7, [.ref h3, .ref h10])), (h3, .inr (6, [.ref h11, .int 0]))] H _ := w
  refine lv_i2l (v := 0) C.1 C.2.1 dL_rangeSum_7 (by decide) ?_
  refine x_putN (ty := .long) (ty0 := tyX5) C w 0 9 0 (xin_X5 _) tyX5_ok nmX5 rfl rfl (by decide) (xs_f_n (xS C)) rfl rfl (by decide +kernel) rfl rfl (Nat.le_of_ble_eq_true rfl) dL_rangeSum_8 (fun H locs w => ?_)
  have w : xW G A s [(h1, .inr (9, [.long 0, .null])), (h0, .inr (8, [.ref h2, .ref h4, .ref h5, .ref h6, .ref h7, .int 0, .ref h8, .ref h9])), (h2, .inr (7, [.ref h3, .ref h10])), (h3, .inr (6, [.ref h11, .int 0]))] H _ := w
  refine lv_goto (tgt := 18) C.1 C.2.1 dL_rangeSum_11 (by decide) ?_
  refine lv_iconst (v := 0) C.1 C.2.1 dL_rangeSum_18 (by decide) ?_
  have w := w.sub (ws' := [(h0, .inr (8, [.ref h2, .ref h4, .ref h5, .ref h6, .ref h7, .int 0, .ref h8, .ref h9])), (h2, .inr (7, [.ref h3, .ref h10])), (h3, .inr (6, [.ref h11, .int 0])), (h1, .inr (9, [.long 0, .null]))]) [1, 2, 3, 0] (by decide) rfl rfl
  exact x_iret C w hr (fun _ => 0) rfl rfl dL_rangeSum_19 (Nat.le_of_ble_eq_true rfl) (Nat.le_of_ble_eq_true rfl)
set_option maxHeartbeats 4000000 in
set_option maxRecDepth 100000 in
theorem c389_Jx35411_init_45d68 (l : Launch) (G : va_G) (cy : Nat → ClassId) (sa : String → Nat → Nat) (sv : Nat → Nat) (h0 h1 : Nat) : xM l G cy sa sv yJx35411_init_45d68 (Cond.code yJx35411_init_45d68 cJx35411_init_45d68 2 none :: XG) { frames := 8, cells := 0, slots := 0, locals := 250 } [.ref h0, .ref h1] [(h0, .inr (2, [.int 0, .int 0, .int 0, .null])), (h1, .inr (3, [.int 0, .ref (sv 0), .int 0]))] (xQv G (fun f => [(h0, .inr (2, [.int 0, .int (-1), .int 0, .ref h1])), (h1, .inr (3, [.int 0, .ref (sv 0), .int 0]))])) := by
  refine xof (by decide) (Nat.le_of_ble_eq_true rfl) (fun p e s m below meth c A C w hr hn ls hl => ?_)
  have hl : lv_has ls 2 [(0, .ref h0), (1, .ref h1)] := hl
  refine lv_aload_n C.1 C.2.1 dJx35411_init_45d68_0 rfl (lv_at hl 0 rfl) ?_
  refine lv_aload_n C.1 C.2.1 dJx35411_init_45d68_1 rfl (lv_at hl 1 rfl) ?_
  refine x_putF (ty := (.object "java/util/ArrayList")) (ty0 := tyJx35411) C w hn 0 2 3 (xin_Jx35411 _) tyJx35411_ok nmJx35411 rfl rfl (by decide) (List.mem_cons_of_mem _ gw_729) rfl rfl rfl (by decide +kernel) rfl rfl (Nat.le_of_ble_eq_true rfl) dJx35411_init_45d68_2 (fun H locs w => ?_)
  have w : xW G A s [(h0, .inr (2, [.int 0, .int 0, .int 0, .ref h1])), (h1, .inr (3, [.int 0, .ref (sv 0), .int 0]))] H _ := w
  refine lv_aload_n C.1 C.2.1 dJx35411_init_45d68_5 rfl (lv_at hl 0 rfl) ?_
  refine x_oinit C hl.1 (List.mem_cons_of_mem _ gw_730) (List.mem_cons_of_mem _ gw_4) (List.mem_cons_of_mem _ gw_oi) dJx35411_init_45d68_6 (Nat.le_of_ble_eq_true rfl) (Nat.le_of_ble_eq_true rfl) (Nat.le_of_ble_eq_true rfl) ?_
  refine lv_aload_n C.1 C.2.1 dJx35411_init_45d68_9 rfl (lv_at hl 0 rfl) ?_
  refine lv_iconst (v := (-1)) C.1 C.2.1 dJx35411_init_45d68_10 (by decide) ?_
  refine x_put (ty := .int) (ty0 := tyJx35411) C w 0 2 1 (xin_Jx35411 _) tyJx35411_ok nmJx35411 rfl rfl (by decide) (List.mem_cons_of_mem _ gw_731) rfl rfl (by decide +kernel) rfl rfl (Nat.le_of_ble_eq_true rfl) dJx35411_init_45d68_11 (fun H locs w => ?_)
  have w : xW G A s [(h0, .inr (2, [.int 0, .int (-1), .int 0, .ref h1])), (h1, .inr (3, [.int 0, .ref (sv 0), .int 0]))] H _ := w
  refine lv_aload_n C.1 C.2.1 dJx35411_init_45d68_14 rfl (lv_at hl 0 rfl) ?_
  refine lv_aload_n C.1 C.2.1 dJx35411_init_45d68_15 rfl (lv_at hl 0 rfl) ?_
  refine x_get (v := .ref h1) C w 0 2 3 (xin_Jx35411 _) rfl rfl (by decide) (List.mem_cons_of_mem _ gw_729) rfl rfl dJx35411_init_45d68_16 ?_
  refine x_getS (v := .int 0) C w 1 3 0 (xin_Jx4a65c _) rfl rfl (by decide) (List.mem_cons_of_mem _ gw_732) (List.mem_cons_of_mem _ gw_212) rfl dJx35411_init_45d68_19 ?_
  refine x_put (ty := .int) (ty0 := tyJx35411) C w 0 2 2 (xin_Jx35411 _) tyJx35411_ok nmJx35411 rfl rfl (by decide) (List.mem_cons_of_mem _ gw_733) rfl rfl (by decide +kernel) rfl rfl (Nat.le_of_ble_eq_true rfl) dJx35411_init_45d68_22 (fun H locs w => ?_)
  have w : xW G A s [(h0, .inr (2, [.int 0, .int (-1), .int 0, .ref h1])), (h1, .inr (3, [.int 0, .ref (sv 0), .int 0]))] H _ := w
  exact x_vret C w hr (fun _ => 0) rfl dJx35411_init_45d68_25 (Nat.le_of_ble_eq_true rfl) (Nat.le_of_ble_eq_true rfl)
set_option maxHeartbeats 4000000 in
set_option maxRecDepth 100000 in
theorem c390_Jx4a65c_iterator_32c93 (l : Launch) (G : va_G) (cy : Nat → ClassId) (sa : String → Nat → Nat) (sv : Nat → Nat) (h0 : Nat) : xM l G cy sa sv yJx4a65c_iterator_32c93 (Cond.code yJx4a65c_iterator_32c93 cJx4a65c_iterator_32c93 1 (some (.object "java/util/Iterator")) :: XG) { frames := 9, cells := 1, slots := 4, locals := 271 } [.ref h0] [(h0, .inr (3, [.int 0, .ref (sv 0), .int 0]))] (xQr G (fun f => [(h0, .inr (3, [.int 0, .ref (sv 0), .int 0])), ((f 0), .inr (2, [.int 0, .int (-1), .int 0, .ref h0]))]) (fun f => (f 0))) := by
  refine xof (by decide) (Nat.le_of_ble_eq_true rfl) (fun p e s m below meth c A C w hr hn ls hl => ?_)
  have hl : lv_has ls 1 [(0, .ref h0)] := hl
  refine x_new (fs := [.int 0, .int 0, .int 0, .null]) (ty0 := tyJx35411) C w 2 (xin_Jx35411 _) tyJx35411_ok rfl (List.mem_cons_of_mem _ gw_726) (List.mem_cons_of_mem _ gw_727) (List.mem_cons_of_mem _ gw_728) (fun j hj => by rcases (show j = 0 ∨ j = 1 ∨ j = 2 ∨ j = 3 by omega) with rfl | rfl | rfl | rfl <;> rfl) (Nat.le_of_ble_eq_true rfl) (Nat.le_of_ble_eq_true rfl) dJx4a65c_iterator_32c93_0 (fun q2494 H w => ?_)
  have w : xW G A s [(h0, .inr (3, [.int 0, .ref (sv 0), .int 0])), (q2494, .inr (2, [.int 0, .int 0, .int 0, .null]))] H _ := w
  refine W.widen (k := 1) (n := 4) (Nat.le_of_ble_eq_true rfl) (Nat.le_of_ble_eq_true rfl) ?_
  refine lv_dup C.1 C.2.1 dJx4a65c_iterator_32c93_3 rfl ?_
  refine lv_aload_n C.1 C.2.1 dJx4a65c_iterator_32c93_4 rfl (lv_at hl 0 rfl) ?_
  refine x_kv C w [1, 0] [] rfl rfl (by decide) (by decide) (va_runI (As := [.ref h0]) (rest := [.ref q2494]) (xfix C) (c389_Jx35411_init_45d68 l G cy sa sv q2494 h0 (xtr C) _) (cwI 1 (xhts C) (xgI gc_Jx35411_init_45d68) rfl rfl rfl (xhts C _ (List.mem_cons_of_mem _ gw_728)) (xhts C _ (List.mem_cons_of_mem _ gw_735)) (xhts C _ (List.mem_cons_of_mem _ gw_736)) rfl (by decide +kernel) ⟨(Nat.le_of_ble_eq_true rfl), (Nat.le_of_ble_eq_true rfl)⟩) (xPS C w [1, 0] rfl (by decide)) rfl rfl hl.1 rfl (lv_room (Nat.le_of_ble_eq_true rfl)) dJx4a65c_iterator_32c93_5 ⟨(Nat.le_of_ble_eq_true rfl), (Nat.le_of_ble_eq_true rfl)⟩) (fun f2495 H locs w => ?_)
  have w : xW G A s [(q2494, .inr (2, [.int 0, .int (-1), .int 0, .ref h0])), (h0, .inr (3, [.int 0, .ref (sv 0), .int 0]))] H _ := w
  have w := w.sub (ws' := [(h0, .inr (3, [.int 0, .ref (sv 0), .int 0])), (q2494, .inr (2, [.int 0, .int (-1), .int 0, .ref h0]))]) [1, 0] (by decide) rfl rfl
  exact x_aret C w hr (Or.inl ⟨_, rfl⟩) (fun k => match k with | 0 => q2494 | _ => 0) rfl rfl dJx4a65c_iterator_32c93_8 (Nat.le_of_ble_eq_true rfl) (Nat.le_of_ble_eq_true rfl)
set_option maxHeartbeats 4000000 in
set_option maxRecDepth 100000 in
theorem c391_Jx35411_hasNext_aae02 (l : Launch) (G : va_G) (cy : Nat → ClassId) (sa : String → Nat → Nat) (sv : Nat → Nat) (h0 h1 : Nat) : xM l G cy sa sv yJx35411_hasNext_aae02 (Cond.code yJx35411_hasNext_aae02 cJx35411_hasNext_aae02 1 (some .boolean) :: XG) { frames := 8, cells := 0, slots := 0, locals := 250 } [.ref h0] [(h0, .inr (2, [.int 0, .int (-1), .int 0, .ref h1])), (h1, .inr (3, [.int 0, .ref (sv 0), .int 0]))] (xQi G (fun f => [(h0, .inr (2, [.int 0, .int (-1), .int 0, .ref h1])), (h1, .inr (3, [.int 0, .ref (sv 0), .int 0]))]) 0) := by
  refine xof (by decide) (Nat.le_of_ble_eq_true rfl) (fun p e s m below meth c A C w hr hn ls hl => ?_)
  have hl : lv_has ls 1 [(0, .ref h0)] := hl
  refine lv_aload_n C.1 C.2.1 dJx35411_hasNext_aae02_0 rfl (lv_at hl 0 rfl) ?_
  refine x_get (v := .int 0) C w 0 2 0 (xin_Jx35411 _) rfl rfl (by decide) (List.mem_cons_of_mem _ gw_741) rfl rfl dJx35411_hasNext_aae02_1 ?_
  refine lv_aload_n C.1 C.2.1 dJx35411_hasNext_aae02_4 rfl (lv_at hl 0 rfl) ?_
  refine x_get (v := .ref h1) C w 0 2 3 (xin_Jx35411 _) rfl rfl (by decide) (List.mem_cons_of_mem _ gw_729) rfl rfl dJx35411_hasNext_aae02_5 ?_
  refine x_getN (v := .int 0) C w 1 3 2 (xin_Jx4a65c _) rfl rfl (by decide) (xs_f_size (xS C)) rfl rfl dJx35411_hasNext_aae02_8 ?_
  refine lv_icmp_eq (tgt := 18) C.1 C.2.1 dJx35411_hasNext_aae02_11 (by decide) (fun _ => ?_) (fun c9 => absurd (by decide) c9)
  refine lv_iconst (v := 0) C.1 C.2.1 dJx35411_hasNext_aae02_18 (by decide) ?_
  exact x_zret C w hr rfl (fun _ => 0) rfl rfl dJx35411_hasNext_aae02_19 (Nat.le_of_ble_eq_true rfl) (Nat.le_of_ble_eq_true rfl)
set_option maxHeartbeats 4000000 in
set_option maxRecDepth 100000 in
theorem c392_X6_rangeSum (l : Launch) (G : va_G) (cy : Nat → ClassId) (sa : String → Nat → Nat) (sv : Nat → Nat) (h0 h1 h2 h3 h4 h5 h6 h7 : Nat) (v0 v1 : Int32) (p0 : v0 ≤ v1) : xM l G cy sa sv yX6_rangeSum (Cond.code yX6_rangeSum cX6_rangeSum 6 (some .int) :: XG) { frames := 12, cells := 2, slots := 7, locals := 334 } [.ref h0, .int v0, .int v1] [(h0, .inr (10, [.ref h1, .ref h2, .ref h3, .ref h4, .ref h5, .ref h6, .ref h7, .int 0, .int 0])), (h1, .inr (3, [.int 0, .ref (sv 0), .int 0]))] (xQi G (fun f => [(h0, .inr (10, [.ref h1, .ref h2, .ref h3, .ref h4, .ref h5, .ref h6, .ref h7, .int 0, .int 0])), (h1, .inr (3, [.int 0, .ref (sv 0), .int 0]))]) 0) := by
  refine xof (by decide) (Nat.le_of_ble_eq_true rfl) (fun p e s m below meth c A C w hr hn ls hl => ?_)
  have hl : lv_has ls 6 [(0, .ref h0), (1, .int v0), (2, .int v1)] := hl
  refine lv_aload_n C.1 C.2.1 dX6_rangeSum_0 rfl (lv_at hl 0 rfl) ?_
  refine lv_iload_n C.1 C.2.1 dX6_rangeSum_1 rfl (lv_at hl 1 rfl) ?_
  refine lv_iload_n C.1 C.2.1 dX6_rangeSum_2 rfl (lv_at hl 2 rfl) ?_
  refine lv_icmp_le (tgt := 10) C.1 C.2.1 dX6_rangeSum_3 (by decide) (fun _ => ?_) (fun c9 => absurd p0 c9)
  refine lv_iconst (v := 0) C.1 C.2.1 dX6_rangeSum_10 (by decide) ?_
  refine lv_iconst (v := 1) C.1 C.2.1 dX6_rangeSum_11 (by decide) ?_
  refine x_ki C w [0] [1] rfl rfl (by decide) (by decide) (va_runV (As := [.int 0, .int 1]) (rest := []) (xfix C) (c46_X6_start l G cy sa sv h0 h1 h2 h3 h4 h5 h6 h7 (xtr C) _) (cwV 2 (xhts C) (xgV (maxL := 0) (cc := ⟨#[]⟩) (ret := none) gw_114 gw_115 gw_116 gw_58 gc_X6_start) rfl rfl rfl (by decide +kernel) ⟨(Nat.le_of_ble_eq_true rfl), (Nat.le_of_ble_eq_true rfl)⟩) (xPV C w [0] rfl (by decide) (ci := 10) (q0 := 0) rfl rfl) rfl rfl hl.1 rfl (lv_room (Nat.le_of_ble_eq_true rfl)) dX6_rangeSum_12 ⟨(Nat.le_of_ble_eq_true rfl), (Nat.le_of_ble_eq_true rfl)⟩) (fun f2482 H locs w => ?_)
  have w : xW G A s [(h1, .inr (3, [.int 0, .ref (sv 0), .int 0])), (h0, .inr (10, [.ref h1, .ref h2, .ref h3, .ref h4, .ref h5, .ref h6, .ref h7, .int 0, .int 0]))] H _ := w
  refine lv_if_eq (tgt := 20) C.1 C.2.1 dX6_rangeSum_15 (by decide) (fun _ => ?_) (fun c9 => absurd (by decide) c9)
  refine lv_iconst (v := 0) C.1 C.2.1 dX6_rangeSum_20 (by decide) ?_
  refine lv_istore_n (lv' := [(3, .int 0), (0, .ref h0), (1, .int v0), (2, .int v1)]) C.1 C.2.1 dX6_rangeSum_21 rfl hl (by decide) rfl (fun ls hl => ?_)
  refine lv_aload_n C.1 C.2.1 dX6_rangeSum_22 rfl (lv_at hl 1 rfl) ?_
  refine lv_iload_n C.1 C.2.1 dX6_rangeSum_23 rfl (lv_at hl 2 rfl) ?_
  refine lv_iload_n C.1 C.2.1 dX6_rangeSum_24 rfl (lv_at hl 3 rfl) ?_
  refine x_kr C w [1, 0] [] rfl rfl (by decide) (by decide) (va_runV (As := [.int v0, .int v1]) (rest := []) (xfix C) (c298_X6_range l G cy sa sv h0 h1 h2 h3 h4 h5 h6 h7 v0 v1 (xtr C) _) (cwV 2 (xhts C) (xgV (maxL := 0) (cc := ⟨#[]⟩) (ret := none) gw_670 gw_671 gw_672 gw_58 gc_X6_range) rfl rfl rfl (by decide +kernel) ⟨(Nat.le_of_ble_eq_true rfl), (Nat.le_of_ble_eq_true rfl)⟩) (xPV C w [1, 0] rfl (by decide) (ci := 10) (q0 := 1) rfl rfl) rfl rfl hl.1 rfl (lv_room (Nat.le_of_ble_eq_true rfl)) dX6_rangeSum_25 ⟨(Nat.le_of_ble_eq_true rfl), (Nat.le_of_ble_eq_true rfl)⟩) (fun f2491 H locs w => ?_)
  have w : xW G A s [(h0, .inr (10, [.ref h1, .ref h2, .ref h3, .ref h4, .ref h5, .ref h6, .ref h7, .int 0, .int 0])), (h1, .inr (3, [.int 0, .ref (sv 0), .int 0])), ((f2491 0), .inr (3, [.int 0, .ref (sv 0), .int 0]))] H _ := w
  refine W.widen (k := 1) (n := 3) (Nat.le_of_ble_eq_true rfl) (Nat.le_of_ble_eq_true rfl) ?_
  refine x_kr C w [2] [0, 1] rfl rfl (by decide) (by decide) (va_runV (As := []) (rest := []) (xfix C) (c390_Jx4a65c_iterator_32c93 l G cy sa sv (f2491 0) (xtr C) _) (cwV 0 (xhts C) (xgV (maxL := 0) (cc := ⟨#[]⟩) (ret := none) gw_738 gw_739 gw_740 gw_62 gc_Jx4a65c_iterator_32c93) rfl rfl rfl (by decide +kernel) ⟨(Nat.le_of_ble_eq_true rfl), (Nat.le_of_ble_eq_true rfl)⟩) (xPV C w [2] rfl (by decide) (ci := 3) (q0 := 2) rfl rfl) rfl rfl hl.1 rfl (lv_room (Nat.le_of_ble_eq_true rfl)) dX6_rangeSum_28 ⟨(Nat.le_of_ble_eq_true rfl), (Nat.le_of_ble_eq_true rfl)⟩) (fun f2497 H locs w => ?_)
  have w : xW G A s [(h0, .inr (10, [.ref h1, .ref h2, .ref h3, .ref h4, .ref h5, .ref h6, .ref h7, .int 0, .int 0])), (h1, .inr (3, [.int 0, .ref (sv 0), .int 0])), ((f2491 0), .inr (3, [.int 0, .ref (sv 0), .int 0])), ((f2497 0), .inr (2, [.int 0, .int (-1), .int 0, .ref (f2491 0)]))] H _ := w
  refine W.widen (k := 2) (n := 7) (Nat.le_of_ble_eq_true rfl) (Nat.le_of_ble_eq_true rfl) ?_
  refine lv_astore (lv' := [(4, .ref (f2497 0)), (3, .int 0), (0, .ref h0), (1, .int v0), (2, .int v1)]) C.1 C.2.1 dX6_rangeSum_31 hl (by decide) rfl (fun ls hl => ?_)
  refine lv_aload C.1 C.2.1 dX6_rangeSum_33 (lv_at hl 0 rfl) ?_
  refine x_kFi C w [3, 2] [0, 1] rfl rfl (by decide) (by decide) (va_runF ((xK C).1 2 _ rfl).2 (As := []) (rest := []) (xfix C) (c391_Jx35411_hasNext_aae02 l G cy sa sv (f2497 0) (f2491 0) (xtr C) _) (va_cwF 0 (xhts C) (xgF (x := ⟨"java/util/Iterator", "hasNext", "()Z"⟩) gw_743 gw_744 gw_745 gw_728 gc_Jx35411_hasNext_aae02) rfl rfl rfl (xs_fw (xS C)) (by decide +kernel) ⟨(Nat.le_of_ble_eq_true rfl), (Nat.le_of_ble_eq_true rfl)⟩) (xPV C w [3, 2] rfl (by decide) (ci := 2) (q0 := 3) rfl rfl) rfl rfl hl.1 rfl (lv_room (Nat.le_of_ble_eq_true rfl)) dX6_rangeSum_35 ⟨(Nat.le_of_ble_eq_true rfl), (Nat.le_of_ble_eq_true rfl)⟩) (fun f2498 H locs w => ?_)
  have w : xW G A s [(h0, .inr (10, [.ref h1, .ref h2, .ref h3, .ref h4, .ref h5, .ref h6, .ref h7, .int 0, .int 0])), (h1, .inr (3, [.int 0, .ref (sv 0), .int 0])), ((f2497 0), .inr (2, [.int 0, .int (-1), .int 0, .ref (f2491 0)])), ((f2491 0), .inr (3, [.int 0, .ref (sv 0), .int 0]))] H _ := w
  refine lv_if_eq (tgt := 65) C.1 C.2.1 dX6_rangeSum_40 (by decide) (fun _ => ?_) (fun c9 => absurd (by decide) c9)
  refine lv_iload_n C.1 C.2.1 dX6_rangeSum_65 rfl (lv_at hl 1 rfl) ?_
  have w := w.sub (ws' := [(h0, .inr (10, [.ref h1, .ref h2, .ref h3, .ref h4, .ref h5, .ref h6, .ref h7, .int 0, .int 0])), (h1, .inr (3, [.int 0, .ref (sv 0), .int 0]))]) [0, 1] (by decide) rfl rfl
  exact x_iret C w hr (fun _ => 0) rfl rfl dX6_rangeSum_66 (Nat.le_of_ble_eq_true rfl) (Nat.le_of_ble_eq_true rfl)
set_option maxHeartbeats 4000000 in
set_option maxRecDepth 100000 in
theorem c393_X4_rangeSum (l : Launch) (G : va_G) (cy : Nat → ClassId) (sa : String → Nat → Nat) (sv : Nat → Nat) (h0 : Nat) (v0 v1 : Int32) (p0 : ¬ v0 ≤ v1) : xX l G cy sa sv yX4_rangeSum (Cond.code yX4_rangeSum cX4_rangeSum 6 (some .int) :: XG) { frames := 9, cells := 1, slots := 6, locals := 271 } [.ref h0, .int v0, .int v1] [] (fun f => []) "java/lang/IllegalArgumentException" := by
  refine xofX (by decide) (Nat.le_of_ble_eq_true rfl) (fun p e s m below meth c A C w hno ls hl => ?_)
  have hl : lv_has ls 6 [(0, .ref h0), (1, .int v0), (2, .int v1)] := hl
  refine lv_iload_n C.1 C.2.1 dX4_rangeSum_0 rfl (lv_at hl 1 rfl) ?_
  refine lv_iload_n C.1 C.2.1 dX4_rangeSum_1 rfl (lv_at hl 2 rfl) ?_
  refine x_kx C w [] [] rfl rfl (by decide) (by decide) (vx_runS (As := [.int v0, .int v1]) (rest := []) (xfix C) (c306_X4_checkRange l G cy sa sv v0 v1 p0 (xtr C) _) (va_cwS 2 (xhts C) (xgS gw_390 gw_391 gw_2 gc_X4_checkRange) rfl rfl rfl (by decide +kernel) ⟨(Nat.le_of_ble_eq_true rfl), (Nat.le_of_ble_eq_true rfl)⟩) (xPS C w [] rfl (by decide)) rfl rfl hl.1 rfl (lv_room (Nat.le_of_ble_eq_true rfl)) dX4_rangeSum_2 ⟨(Nat.le_of_ble_eq_true rfl), (Nat.le_of_ble_eq_true rfl)⟩) (fun f2504 H locs ce q9 w hce hcv hcl => ?_)
  have w : xW G A s [] H _ := w
  refine vx_widen (k := 1) (n := 6) (Nat.le_of_ble_eq_true rfl) (Nat.le_of_ble_eq_true rfl) ?_
  exact x_out C w hno (fun _ => 0) rfl hce hcv hcl (Nat.le_of_ble_eq_true rfl) (Nat.le_of_ble_eq_true rfl)
set_option maxHeartbeats 4000000 in
set_option maxRecDepth 100000 in
theorem c394_L_rangeSum (l : Launch) (G : va_G) (cy : Nat → ClassId) (sa : String → Nat → Nat) (sv : Nat → Nat) (h0 h1 h2 h3 h4 h5 h6 h7 h8 : Nat) (v0 v1 : Int32) (p0 : ¬ v0 ≤ v1) : xM l G cy sa sv yL_rangeSum (Cond.codeWith yL_rangeSum cL_rangeSum 5 (some .int) [(0, 11, 14, 19)] :: XG) { frames := 10, cells := 1, slots := 6, locals := 296 } [.ref h0, .int v0, .int v1, .ref h1] [(h0, .inr (8, [.ref h2, .ref h3, .ref h4, .ref h5, .ref h6, .int 0, .ref h7, .ref h8]))] (xQi G (fun f => [(h0, .inr (8, [.ref h2, .ref h3, .ref h4, .ref h5, .ref h6, .int 0, .ref h7, .ref h8]))]) 1) := by
  refine xofH (by decide) (Nat.le_of_ble_eq_true rfl) (fun p e s m below meth c A C w hr hn hT ls hl => ?_)
  have hl : lv_has ls 5 [(0, .ref h0), (1, .int v0), (2, .int v1), (3, .ref h1)] := hl
  refine lv_aload_n C.1 C.2.1 dL_rangeSum_0 rfl (lv_at hl 3 rfl) ?_
  refine lv_aload_n C.1 C.2.1 dL_rangeSum_1 rfl (lv_at hl 0 rfl) ?_
  refine lv_iload_n C.1 C.2.1 dL_rangeSum_2 rfl (lv_at hl 1 rfl) ?_
  refine lv_iload_n C.1 C.2.1 dL_rangeSum_3 rfl (lv_at hl 2 rfl) ?_
  refine x_kx C w [] [0] rfl rfl (by decide) (by decide) (vx_runV (As := [.int v0, .int v1]) (rest := [.ref h1]) (xfix C) (c393_X4_rangeSum l G cy sa sv h0 v0 v1 p0 (xtr C) _) (cwV 2 (xhts C) (xgV (maxL := 0) (cc := ⟨#[]⟩) (ret := none) gw_720 gw_721 gw_722 gw_2 gc_X4_rangeSum) rfl rfl rfl (by decide +kernel) ⟨(Nat.le_of_ble_eq_true rfl), (Nat.le_of_ble_eq_true rfl)⟩) (xPV C w [] rfl (by decide) (ci := 8) (q0 := 0) rfl rfl) rfl rfl hl.1 rfl (lv_room (Nat.le_of_ble_eq_true rfl)) dL_rangeSum_4 ⟨(Nat.le_of_ble_eq_true rfl), (Nat.le_of_ble_eq_true rfl)⟩) (fun f2505 H locs ce q9 w hce hcv hcl => ?_)
  have w : xW G A s [(h0, .inr (8, [.ref h2, .ref h3, .ref h4, .ref h5, .ref h6, .int 0, .ref h7, .ref h8]))] H _ := w
  refine vx_widen (k := 1) (n := 6) (Nat.le_of_ble_eq_true rfl) (Nat.le_of_ble_eq_true rfl) ?_
  refine vx_catch (xown C) [] ⟨0, 11, 14, 19⟩ [] hT (fun z hz => nomatch hz) (by decide) (by decide) (xhts C _ (List.mem_cons_of_mem _ gw_104)) (va_any rfl (xs_c1 (xS C))) hce hcv hcl ?_
  refine lv_astore (lv' := [(4, .ref q9), (0, .ref h0), (1, .int v0), (2, .int v1), (3, .ref h1)]) C.1 C.2.1 dL_rangeSum_14 hl (by decide) rfl (fun ls hl => ?_)
  refine lv_iconst (v := 1) C.1 C.2.1 dL_rangeSum_16 (by decide) ?_
  exact x_iret C w hr (fun _ => 0) rfl rfl dL_rangeSum_17 (Nat.le_of_ble_eq_true rfl) (Nat.le_of_ble_eq_true rfl)
set_option maxHeartbeats 4000000 in
set_option maxRecDepth 100000 in
theorem c395_X6_rangeSum (l : Launch) (G : va_G) (cy : Nat → ClassId) (sa : String → Nat → Nat) (sv : Nat → Nat) (h0 h1 h2 h3 h4 h5 h6 h7 : Nat) (v0 v1 : Int32) (p0 : ¬ v0 ≤ v1) : xM l G cy sa sv yX6_rangeSum (Cond.code yX6_rangeSum cX6_rangeSum 6 (some .int) :: XG) { frames := 9, cells := 0, slots := 0, locals := 272 } [.ref h0, .int v0, .int v1] [(h0, .inr (10, [.ref h1, .ref h2, .ref h3, .ref h4, .ref h5, .ref h6, .ref h7, .int 0, .int 0]))] (xQi G (fun f => [(h0, .inr (10, [.ref h1, .ref h2, .ref h3, .ref h4, .ref h5, .ref h6, .ref h7, .int 0, .int 1]))]) 0) := by
  refine xof (by decide) (Nat.le_of_ble_eq_true rfl) (fun p e s m below meth c A C w hr hn ls hl => ?_)
  have hl : lv_has ls 6 [(0, .ref h0), (1, .int v0), (2, .int v1)] := hl
  refine lv_aload_n C.1 C.2.1 dX6_rangeSum_0 rfl (lv_at hl 0 rfl) ?_
  refine lv_iload_n C.1 C.2.1 dX6_rangeSum_1 rfl (lv_at hl 1 rfl) ?_
  refine lv_iload_n C.1 C.2.1 dX6_rangeSum_2 rfl (lv_at hl 2 rfl) ?_
  refine lv_icmp_le (tgt := 10) C.1 C.2.1 dX6_rangeSum_3 (by decide) (fun c9 => absurd c9 p0) (fun _ => ?_)
  refine lv_iconst (v := 1) C.1 C.2.1 dX6_rangeSum_6 (by decide) ?_
  refine lv_goto (tgt := 11) C.1 C.2.1 dX6_rangeSum_7 (by decide) ?_
  refine lv_iconst (v := 1) C.1 C.2.1 dX6_rangeSum_11 (by decide) ?_
  refine x_ki C w [0] [] rfl rfl (by decide) (by decide) (va_runV (As := [.int 1, .int 1]) (rest := []) (xfix C) (c17_X6_start l G cy sa sv h0 h1 h2 h3 h4 h5 h6 h7 (xtr C) _) (cwV 2 (xhts C) (xgV (maxL := 0) (cc := ⟨#[]⟩) (ret := none) gw_114 gw_115 gw_116 gw_58 gc_X6_start) rfl rfl rfl (by decide +kernel) ⟨(Nat.le_of_ble_eq_true rfl), (Nat.le_of_ble_eq_true rfl)⟩) (xPV C w [0] rfl (by decide) (ci := 10) (q0 := 0) rfl rfl) rfl rfl hl.1 rfl (lv_room (Nat.le_of_ble_eq_true rfl)) dX6_rangeSum_12 ⟨(Nat.le_of_ble_eq_true rfl), (Nat.le_of_ble_eq_true rfl)⟩) (fun f2508 H locs w => ?_)
  have w : xW G A s [(h0, .inr (10, [.ref h1, .ref h2, .ref h3, .ref h4, .ref h5, .ref h6, .ref h7, .int 0, .int 1]))] H _ := w
  refine lv_if_eq (tgt := 20) C.1 C.2.1 dX6_rangeSum_15 (by decide) (fun c9 => absurd c9 (by decide)) (fun _ => ?_)
  refine lv_iconst (v := 0) C.1 C.2.1 dX6_rangeSum_18 (by decide) ?_
  exact x_iret C w hr (fun _ => 0) rfl rfl dX6_rangeSum_19 (Nat.le_of_ble_eq_true rfl) (Nat.le_of_ble_eq_true rfl)
set_option maxHeartbeats 4000000 in
set_option maxRecDepth 100000 in
theorem c396_X4_joinPairs (l : Launch) (G : va_G) (cy : Nat → ClassId) (sa : String → Nat → Nat) (sv : Nat → Nat) (h0 h1 : Nat) : xM l G cy sa sv yX4_joinPairs (Cond.code yX4_joinPairs cX4_joinPairs 6 none :: XG) { frames := 8, cells := 0, slots := 0, locals := 250 } [.ref h0, .ref h1, .int 0, .int 0, .ref (sa "Twinindex" 180)] [] (xQv G (fun f => [])) := by
  refine xof (by decide) (Nat.le_of_ble_eq_true rfl) (fun p e s m below meth c A C w hr hn ls hl => ?_)
  have hl : lv_has ls 6 [(0, .ref h0), (1, .ref h1), (2, .int 0), (3, .int 0), (4, .ref (sa "Twinindex" 180))] := hl
  refine lv_iload_n C.1 C.2.1 dX4_joinPairs_0 rfl (lv_at hl 2 rfl) ?_
  refine lv_istore (lv' := [(5, .int 0), (0, .ref h0), (1, .ref h1), (2, .int 0), (3, .int 0), (4, .ref (sa "Twinindex" 180))]) C.1 C.2.1 dX4_joinPairs_1 hl (by decide) rfl (fun ls hl => ?_)
  refine lv_iload C.1 C.2.1 dX4_joinPairs_3 (lv_at hl 0 rfl) ?_
  refine lv_iload_n C.1 C.2.1 dX4_joinPairs_5 rfl (lv_at hl 4 rfl) ?_
  refine lv_icmp_ge (tgt := 63) C.1 C.2.1 dX4_joinPairs_6 (by decide) (fun _ => ?_) (fun c9 => absurd (by decide) c9)
  exact x_vret C w hr (fun _ => 0) rfl dX4_joinPairs_63 (Nat.le_of_ble_eq_true rfl) (Nat.le_of_ble_eq_true rfl)
set_option maxHeartbeats 4000000 in
set_option maxRecDepth 100000 in
theorem c397_X4_rangeText (l : Launch) (G : va_G) (cy : Nat → ClassId) (sa : String → Nat → Nat) (sv : Nat → Nat) (h0 h1 h2 h3 h4 h5 h6 h7 h8 h9 h10 : Nat) (v0 v1 : Int32) (p0 : v0 ≤ v1) : xM l G cy sa sv yX4_rangeText (Cond.code yX4_rangeText cX4_rangeText 4 (some (.object "java/lang/String")) :: XG) { frames := 14, cells := 4, slots := 24, locals := 382 } [.ref h0, .int v0, .int v1] [(h0, .inr (8, [.ref h1, .ref h3, .ref h4, .ref h5, .ref h6, .int 0, .ref h7, .ref h8])), (h1, .inr (7, [.ref h2, .ref h9])), (h2, .inr (6, [.ref h10, .int 0]))] (xQr G (fun f => [(h0, .inr (8, [.ref h1, .ref h3, .ref h4, .ref h5, .ref h6, .int 0, .ref h7, .ref h8])), (h1, .inr (7, [.ref h2, .ref h9])), (h2, .inr (6, [.ref h10, .int 0])), ((f 0), .inr (0, [.ref (f 1), .int 0, .int 0, .int 0])), ((f 1), .inl (cy 0, 0, .inl (va_cpy (fun _ => 0) (fun _ => 0) 0 0 0)))]) (fun f => (f 0))) := by
  refine xof (by decide) (Nat.le_of_ble_eq_true rfl) (fun p e s m below meth c A C w hr hn ls hl => ?_)
  have hl : lv_has ls 4 [(0, .ref h0), (1, .int v0), (2, .int v1)] := hl
  refine lv_iload_n C.1 C.2.1 dX4_rangeText_0 rfl (lv_at hl 1 rfl) ?_
  refine lv_iload_n C.1 C.2.1 dX4_rangeText_1 rfl (lv_at hl 2 rfl) ?_
  refine x_kv C w [] [0, 1, 2] rfl rfl (by decide) (by decide) (va_runS (As := [.int v0, .int v1]) (rest := []) (xfix C) (c302_X4_checkRange l G cy sa sv v0 v1 p0 (xtr C) _) (va_cwS 2 (xhts C) (xgS gw_390 gw_391 gw_2 gc_X4_checkRange) rfl rfl rfl (by decide +kernel) ⟨(Nat.le_of_ble_eq_true rfl), (Nat.le_of_ble_eq_true rfl)⟩) (xPS C w [] rfl (by decide)) rfl rfl hl.1 rfl (lv_room (Nat.le_of_ble_eq_true rfl)) dX4_rangeText_2 ⟨(Nat.le_of_ble_eq_true rfl), (Nat.le_of_ble_eq_true rfl)⟩) (fun f2539 H locs w => ?_)
  have w : xW G A s [(h0, .inr (8, [.ref h1, .ref h3, .ref h4, .ref h5, .ref h6, .int 0, .ref h7, .ref h8])), (h1, .inr (7, [.ref h2, .ref h9])), (h2, .inr (6, [.ref h10, .int 0]))] H _ := w
  refine x_new (fs := [.null, .int 0, .int 0, .int 0]) (ty0 := tyJ4) C w 1 (xin_J4 _) tyJ4_ok rfl (List.mem_cons_of_mem _ gw_574) (List.mem_cons_of_mem _ gw_476) (List.mem_cons_of_mem _ gw_477) (fun j hj => by rcases (show j = 0 ∨ j = 1 ∨ j = 2 ∨ j = 3 by omega) with rfl | rfl | rfl | rfl <;> rfl) (Nat.le_of_ble_eq_true rfl) (Nat.le_of_ble_eq_true rfl) dX4_rangeText_5 (fun q2540 H w => ?_)
  have w : xW G A s [(h0, .inr (8, [.ref h1, .ref h3, .ref h4, .ref h5, .ref h6, .int 0, .ref h7, .ref h8])), (h1, .inr (7, [.ref h2, .ref h9])), (h2, .inr (6, [.ref h10, .int 0])), (q2540, .inr (1, [.null, .int 0, .int 0, .int 0]))] H _ := w
  refine W.widen (k := 1) (n := 4) (Nat.le_of_ble_eq_true rfl) (Nat.le_of_ble_eq_true rfl) ?_
  refine lv_dup C.1 C.2.1 dX4_rangeText_8 rfl ?_
  refine x_kv C w [3] [0, 1, 2] rfl rfl (by decide) (by decide) (va_runI (As := []) (rest := [.ref q2540]) (xfix C) (c217_J4_init_da8c8 l G cy sa sv q2540 (xtr C) _) (cwI 0 (xhts C) (xgI gc_J4_init_da8c8) rfl rfl rfl (xhts C _ (List.mem_cons_of_mem _ gw_477)) (xhts C _ (List.mem_cons_of_mem _ gw_575)) (xhts C _ (List.mem_cons_of_mem _ gw_489)) rfl (by decide +kernel) ⟨(Nat.le_of_ble_eq_true rfl), (Nat.le_of_ble_eq_true rfl)⟩) (xPS C w [3] rfl (by decide)) rfl rfl hl.1 rfl (lv_room (Nat.le_of_ble_eq_true rfl)) dX4_rangeText_9 ⟨(Nat.le_of_ble_eq_true rfl), (Nat.le_of_ble_eq_true rfl)⟩) (fun f2549 H locs w => ?_)
  have w : xW G A s [(h0, .inr (8, [.ref h1, .ref h3, .ref h4, .ref h5, .ref h6, .int 0, .ref h7, .ref h8])), (h1, .inr (7, [.ref h2, .ref h9])), (h2, .inr (6, [.ref h10, .int 0])), (q2540, .inr (1, [.ref (f2549 0), .int 0, .int 0, .int 0])), ((f2549 0), .inl (cy 0, 16, .inl (fun _ => 0)))] H _ := w
  refine W.widen (k := 2) (n := 20) (Nat.le_of_ble_eq_true rfl) (Nat.le_of_ble_eq_true rfl) ?_
  refine lv_astore_n (lv' := [(3, .ref q2540), (0, .ref h0), (1, .int v0), (2, .int v1)]) C.1 C.2.1 dX4_rangeText_12 rfl hl (by decide) rfl (fun ls hl => ?_)
  refine lv_aload_n C.1 C.2.1 dX4_rangeText_13 rfl (lv_at hl 1 rfl) ?_
  refine lv_aload_n C.1 C.2.1 dX4_rangeText_14 rfl (lv_at hl 0 rfl) ?_
  refine lv_aload_n C.1 C.2.1 dX4_rangeText_15 rfl (lv_at hl 1 rfl) ?_
  refine x_get (v := .ref h1) C w 0 8 0 (xin_X4 _) rfl rfl (by decide) (List.mem_cons_of_mem _ gw_24) rfl rfl dX4_rangeText_16 ?_
  refine lv_iload_n C.1 C.2.1 dX4_rangeText_19 rfl (lv_at hl 2 rfl) ?_
  refine x_ki C w [1, 2] [0, 3, 4] rfl rfl (by decide) (by decide) (va_runV (As := [.int v0]) (rest := [.ref q2540, .ref h0]) (xfix C) (c31_X3_countBelow l G cy sa sv h1 h2 h9 h10 v0 (xtr C) _) (cwV 1 (xhts C) (xgV (maxL := 0) (cc := ⟨#[]⟩) (ret := none) gw_315 gw_159 gw_160 gw_7 gc_X3_countBelow) rfl rfl rfl (by decide +kernel) ⟨(Nat.le_of_ble_eq_true rfl), (Nat.le_of_ble_eq_true rfl)⟩) (xPV C w [1, 2] rfl (by decide) (ci := 7) (q0 := 1) rfl rfl) rfl rfl hl.1 rfl (lv_room (Nat.le_of_ble_eq_true rfl)) dX4_rangeText_20 ⟨(Nat.le_of_ble_eq_true rfl), (Nat.le_of_ble_eq_true rfl)⟩) (fun f2551 H locs w => ?_)
  have w : xW G A s [(h0, .inr (8, [.ref h1, .ref h3, .ref h4, .ref h5, .ref h6, .int 0, .ref h7, .ref h8])), (q2540, .inr (1, [.ref (f2549 0), .int 0, .int 0, .int 0])), ((f2549 0), .inl (cy 0, 16, .inl (fun _ => 0))), (h1, .inr (7, [.ref h2, .ref h9])), (h2, .inr (6, [.ref h10, .int 0]))] H _ := w
  refine lv_aload_n C.1 C.2.1 dX4_rangeText_23 rfl (lv_at hl 1 rfl) ?_
  refine x_get (v := .ref h1) C w 0 8 0 (xin_X4 _) rfl rfl (by decide) (List.mem_cons_of_mem _ gw_24) rfl rfl dX4_rangeText_24 ?_
  refine lv_iload_n C.1 C.2.1 dX4_rangeText_27 rfl (lv_at hl 3 rfl) ?_
  refine x_ki C w [3, 4] [0, 1, 2] rfl rfl (by decide) (by decide) (va_runV (As := [.int v1]) (rest := [.int 0, .ref q2540, .ref h0]) (xfix C) (c153_X3_countNotAbove l G cy sa sv h1 h2 h9 h10 v1 (xtr C) _) (cwV 1 (xhts C) (xgV (maxL := 0) (cc := ⟨#[]⟩) (ret := none) gw_308 gw_309 gw_310 gw_7 gc_X3_countNotAbove) rfl rfl rfl (by decide +kernel) ⟨(Nat.le_of_ble_eq_true rfl), (Nat.le_of_ble_eq_true rfl)⟩) (xPV C w [3, 4] rfl (by decide) (ci := 7) (q0 := 3) rfl rfl) rfl rfl hl.1 rfl (lv_room (Nat.le_of_ble_eq_true rfl)) dX4_rangeText_28 ⟨(Nat.le_of_ble_eq_true rfl), (Nat.le_of_ble_eq_true rfl)⟩) (fun f2556 H locs w => ?_)
  have w : xW G A s [(h0, .inr (8, [.ref h1, .ref h3, .ref h4, .ref h5, .ref h6, .int 0, .ref h7, .ref h8])), (q2540, .inr (1, [.ref (f2549 0), .int 0, .int 0, .int 0])), ((f2549 0), .inl (cy 0, 16, .inl (fun _ => 0))), (h1, .inr (7, [.ref h2, .ref h9])), (h2, .inr (6, [.ref h10, .int 0]))] H _ := w
  refine x_ldcS C (tx := " ") (List.mem_of_getElem? (i := 2) rfl) dX4_rangeText_31 ?_
  refine x_kv C w [] [0, 1, 2, 3, 4] rfl rfl (by decide) (by decide) (va_runV (As := [.ref q2540, .int 0, .int 0, .ref (sa "Twinindex" 180)]) (rest := []) (xfix C) (c396_X4_joinPairs l G cy sa sv h0 q2540 (xtr C) _) (cwV 4 (xhts C) (xgV (maxL := 0) (cc := ⟨#[]⟩) (ret := none) gw_594 gw_595 gw_596 gw_2 gc_X4_joinPairs) rfl rfl rfl (by decide +kernel) ⟨(Nat.le_of_ble_eq_true rfl), (Nat.le_of_ble_eq_true rfl)⟩) (xPV C w [] rfl (by decide) (ci := 8) (q0 := 0) rfl rfl) rfl rfl hl.1 rfl (lv_room (Nat.le_of_ble_eq_true rfl)) dX4_rangeText_33 ⟨(Nat.le_of_ble_eq_true rfl), (Nat.le_of_ble_eq_true rfl)⟩) (fun f2557 H locs w => ?_)
  have w : xW G A s [(h0, .inr (8, [.ref h1, .ref h3, .ref h4, .ref h5, .ref h6, .int 0, .ref h7, .ref h8])), (q2540, .inr (1, [.ref (f2549 0), .int 0, .int 0, .int 0])), ((f2549 0), .inl (cy 0, 16, .inl (fun _ => 0))), (h1, .inr (7, [.ref h2, .ref h9])), (h2, .inr (6, [.ref h10, .int 0]))] H _ := w
  refine lv_aload_n C.1 C.2.1 dX4_rangeText_36 rfl (lv_at hl 0 rfl) ?_
  refine x_kr C w [1, 2] [0, 3, 4] rfl rfl (by decide) (by decide) (va_runV (As := []) (rest := []) (xfix C) (c227_J4_toString_0e30d l G cy sa sv q2540 (f2549 0) (xtr C) _) (cwV 0 (xhts C) (xgV (maxL := 0) (cc := ⟨#[]⟩) (ret := none) gw_597 gw_539 gw_540 gw_477 gc_J4_toString_0e30d) rfl rfl rfl (by decide +kernel) ⟨(Nat.le_of_ble_eq_true rfl), (Nat.le_of_ble_eq_true rfl)⟩) (xPV C w [1, 2] rfl (by decide) (ci := 1) (q0 := 1) rfl rfl) rfl rfl hl.1 rfl (lv_room (Nat.le_of_ble_eq_true rfl)) dX4_rangeText_37 ⟨(Nat.le_of_ble_eq_true rfl), (Nat.le_of_ble_eq_true rfl)⟩) (fun f2587 H locs w => ?_)
  have w : xW G A s [(h0, .inr (8, [.ref h1, .ref h3, .ref h4, .ref h5, .ref h6, .int 0, .ref h7, .ref h8])), (h1, .inr (7, [.ref h2, .ref h9])), (h2, .inr (6, [.ref h10, .int 0])), (q2540, .inr (1, [.ref (f2549 0), .int 0, .int 0, .int 0])), ((f2549 0), .inl (cy 0, 16, .inl (fun _ => 0))), ((f2587 0), .inr (0, [.ref (f2587 1), .int 0, .int 0, .int 0])), ((f2587 1), .inl (cy 0, 0, .inl (va_cpy (fun _ => 0) (fun _ => 0) 0 0 0)))] H _ := w
  refine W.widen (k := 4) (n := 24) (Nat.le_of_ble_eq_true rfl) (Nat.le_of_ble_eq_true rfl) ?_
  have w := w.sub (ws' := [(h0, .inr (8, [.ref h1, .ref h3, .ref h4, .ref h5, .ref h6, .int 0, .ref h7, .ref h8])), (h1, .inr (7, [.ref h2, .ref h9])), (h2, .inr (6, [.ref h10, .int 0])), ((f2587 0), .inr (0, [.ref (f2587 1), .int 0, .int 0, .int 0])), ((f2587 1), .inl (cy 0, 0, .inl (va_cpy (fun _ => 0) (fun _ => 0) 0 0 0)))]) [0, 1, 2, 5, 6] (by decide) rfl rfl
  exact x_aret C w hr (Or.inl ⟨_, rfl⟩) (fun k => match k with | 0 => (f2587 0) | 1 => (f2587 1) | _ => 0) rfl rfl dX4_rangeText_40 (Nat.le_of_ble_eq_true rfl) (Nat.le_of_ble_eq_true rfl)
set_option maxHeartbeats 4000000 in
set_option maxRecDepth 100000 in
theorem c398_L_rangeText (l : Launch) (G : va_G) (cy : Nat → ClassId) (sa : String → Nat → Nat) (sv : Nat → Nat) (h0 h1 h2 h3 h4 h5 h6 h7 h8 h9 h10 h11 : Nat) (v0 v1 : Int32) (p0 : v0 ≤ v1) : xM l G cy sa sv yL_rangeText (Cond.codeWith yL_rangeText cL_rangeText 5 (some .int) [(0, 10, 13, 19)] :: XG) { frames := 15, cells := 4, slots := 24, locals := 405 } [.ref h0, .int v0, .int v1, .ref h1] [(h0, .inr (8, [.ref h2, .ref h4, .ref h5, .ref h6, .ref h7, .int 0, .ref h8, .ref h9])), (h2, .inr (7, [.ref h3, .ref h10])), (h3, .inr (6, [.ref h11, .int 0])), (h1, .inr (9, [.long 0, .null]))] (xQi G (fun f => [(h0, .inr (8, [.ref h2, .ref h4, .ref h5, .ref h6, .ref h7, .int 0, .ref h8, .ref h9])), (h2, .inr (7, [.ref h3, .ref h10])), (h3, .inr (6, [.ref h11, .int 0])), (h1, .inr (9, [.long 0, .ref (f 0)])), ((f 0), .inr (0, [.ref (f 1), .int 0, .int 0, .int 0])), ((f 1), .inl (cy 0, 0, .inl (va_cpy (fun _ => 0) (fun _ => 0) 0 0 0)))]) 0) := by
  refine xofH (by decide) (Nat.le_of_ble_eq_true rfl) (fun p e s m below meth c A C w hr hn hT ls hl => ?_)
  have hl : lv_has ls 5 [(0, .ref h0), (1, .int v0), (2, .int v1), (3, .ref h1)] := hl
  refine lv_aload_n C.1 C.2.1 dL_rangeText_0 rfl (lv_at hl 3 rfl) ?_
  refine lv_aload_n C.1 C.2.1 dL_rangeText_1 rfl (lv_at hl 0 rfl) ?_
  refine lv_iload_n C.1 C.2.1 dL_rangeText_2 rfl (lv_at hl 1 rfl) ?_
  refine lv_iload_n C.1 C.2.1 dL_rangeText_3 rfl (lv_at hl 2 rfl) ?_
  refine x_kr C w [0, 1, 2] [3] rfl rfl (by decide) (by decide) (va_runV (As := [.int v0, .int v1]) (rest := [.ref h1]) (xfix C) (c397_X4_rangeText l G cy sa sv h0 h2 h3 h4 h5 h6 h7 h8 h9 h10 h11 v0 v1 p0 (xtr C) _) (cwV 2 (xhts C) (xgV (maxL := 0) (cc := ⟨#[]⟩) (ret := none) gw_751 gw_752 gw_753 gw_2 gc_X4_rangeText) rfl rfl rfl (by decide +kernel) ⟨(Nat.le_of_ble_eq_true rfl), (Nat.le_of_ble_eq_true rfl)⟩) (xPV C w [0, 1, 2] rfl (by decide) (ci := 8) (q0 := 0) rfl rfl) rfl rfl hl.1 rfl (lv_room (Nat.le_of_ble_eq_true rfl)) dL_rangeText_4 ⟨(Nat.le_of_ble_eq_true rfl), (Nat.le_of_ble_eq_true rfl)⟩) (fun f2590 H locs w => ?_)
  have w : xW G A s [(h1, .inr (9, [.long 0, .null])), (h0, .inr (8, [.ref h2, .ref h4, .ref h5, .ref h6, .ref h7, .int 0, .ref h8, .ref h9])), (h2, .inr (7, [.ref h3, .ref h10])), (h3, .inr (6, [.ref h11, .int 0])), ((f2590 0), .inr (0, [.ref (f2590 1), .int 0, .int 0, .int 0])), ((f2590 1), .inl (cy 0, 0, .inl (va_cpy (fun _ => 0) (fun _ => 0) 0 0 0)))] H _ := w
  refine W.widen (k := 4) (n := 24) (Nat.le_of_ble_eq_true rfl) (Nat.le_of_ble_eq_true rfl) ?_
  refine x_putN (ty := (.object "java/lang/String")) (ty0 := tyX5) C w 0 9 1 (xin_X5 _) tyX5_ok nmX5 rfl rfl (by decide) (xs_f_s (xS C)) rfl rfl (by decide +kernel) rfl rfl (Nat.le_of_ble_eq_true rfl) dL_rangeText_7 (fun H locs w => ?_)
  have w : xW G A s [(h1, .inr (9, [.long 0, .ref (f2590 0)])), (h0, .inr (8, [.ref h2, .ref h4, .ref h5, .ref h6, .ref h7, .int 0, .ref h8, .ref h9])), (h2, .inr (7, [.ref h3, .ref h10])), (h3, .inr (6, [.ref h11, .int 0])), ((f2590 0), .inr (0, [.ref (f2590 1), .int 0, .int 0, .int 0])), ((f2590 1), .inl (cy 0, 0, .inl (va_cpy (fun _ => 0) (fun _ => 0) 0 0 0)))] H _ := w
  refine lv_goto (tgt := 17) C.1 C.2.1 dL_rangeText_10 (by decide) ?_
  refine lv_iconst (v := 0) C.1 C.2.1 dL_rangeText_17 (by decide) ?_
  have w := w.sub (ws' := [(h0, .inr (8, [.ref h2, .ref h4, .ref h5, .ref h6, .ref h7, .int 0, .ref h8, .ref h9])), (h2, .inr (7, [.ref h3, .ref h10])), (h3, .inr (6, [.ref h11, .int 0])), (h1, .inr (9, [.long 0, .ref (f2590 0)])), ((f2590 0), .inr (0, [.ref (f2590 1), .int 0, .int 0, .int 0])), ((f2590 1), .inl (cy 0, 0, .inl (va_cpy (fun _ => 0) (fun _ => 0) 0 0 0)))]) [1, 2, 3, 0, 4, 5] (by decide) rfl rfl
  exact x_iret C w hr (fun k => match k with | 0 => (f2590 0) | 1 => (f2590 1) | _ => 0) rfl rfl dL_rangeText_18 (Nat.le_of_ble_eq_true rfl) (Nat.le_of_ble_eq_true rfl)
set_option maxHeartbeats 4000000 in
set_option maxRecDepth 100000 in
theorem c399_X6_toldOf (l : Launch) (G : va_G) (cy : Nat → ClassId) (sa : String → Nat → Nat) (sv : Nat → Nat) (h0 : Nat) : xM l G cy sa sv yX6_toldOf (Cond.code yX6_toldOf cX6_toldOf 7 (some (.object "java/lang/String")) :: XG) { frames := 10, cells := 1, slots := 0, locals := 293 } [.ref h0, .ref (sa "TwinindexModel" 131)] [(h0, .inr (3, [.int 0, .ref (sv 0), .int 0]))] (xQr G (fun f => [(h0, .inr (3, [.int 0, .ref (sv 0), .int 0]))]) (fun f => (sa "TwinindexModel" 122))) := by
  refine xof (by decide) (Nat.le_of_ble_eq_true rfl) (fun p e s m below meth c A C w hr hn ls hl => ?_)
  have hl : lv_has ls 7 [(0, .ref h0), (1, .ref (sa "TwinindexModel" 131))] := hl
  refine x_ldcS C (tx := "") (List.mem_of_getElem? (i := 11) rfl) dX6_toldOf_0 ?_
  refine lv_astore_n (lv' := [(2, .ref (sa "TwinindexModel" 122)), (0, .ref h0), (1, .ref (sa "TwinindexModel" 131))]) C.1 C.2.1 dX6_toldOf_2 rfl hl (by decide) rfl (fun ls hl => ?_)
  refine lv_aload_n C.1 C.2.1 dX6_toldOf_3 rfl (lv_at hl 1 rfl) ?_
  refine x_kr C w [0] [] rfl rfl (by decide) (by decide) (va_runS (As := [.ref h0]) (rest := []) (xfix C) (c115_X6_keysOf l G cy sa sv h0 (xtr C) _) (va_cwS 1 (xhts C) (xgS gw_330 gw_331 gw_58 gc_X6_keysOf) rfl rfl rfl (by decide +kernel) ⟨(Nat.le_of_ble_eq_true rfl), (Nat.le_of_ble_eq_true rfl)⟩) (xPS C w [0] rfl (by decide)) rfl rfl hl.1 rfl (lv_room (Nat.le_of_ble_eq_true rfl)) dX6_toldOf_4 ⟨(Nat.le_of_ble_eq_true rfl), (Nat.le_of_ble_eq_true rfl)⟩) (fun f2615 H locs w => ?_)
  have w : xW G A s [(h0, .inr (3, [.int 0, .ref (sv 0), .int 0])), ((f2615 0), .inl (cy 1, 0, .inl (fun _ => 0)))] H _ := w
  refine W.widen (k := 1) (n := 0) (Nat.le_of_ble_eq_true rfl) (Nat.le_of_ble_eq_true rfl) ?_
  refine lv_astore_n (lv' := [(3, .ref (f2615 0)), (2, .ref (sa "TwinindexModel" 122)), (0, .ref h0), (1, .ref (sa "TwinindexModel" 131))]) C.1 C.2.1 dX6_toldOf_7 rfl hl (by decide) rfl (fun ls hl => ?_)
  refine lv_aload_n C.1 C.2.1 dX6_toldOf_8 rfl (lv_at hl 0 rfl) ?_
  refine x_alen (v := 0) C w 1 1 rfl rfl (by rfl) dX6_toldOf_9 ?_
  refine lv_istore (lv' := [(4, .int 0), (3, .ref (f2615 0)), (2, .ref (sa "TwinindexModel" 122)), (0, .ref h0), (1, .ref (sa "TwinindexModel" 131))]) C.1 C.2.1 dX6_toldOf_10 hl (by decide) rfl (fun ls hl => ?_)
  refine lv_iconst (v := 0) C.1 C.2.1 dX6_toldOf_12 (by decide) ?_
  refine lv_istore (lv' := [(5, .int 0), (4, .int 0), (3, .ref (f2615 0)), (2, .ref (sa "TwinindexModel" 122)), (0, .ref h0), (1, .ref (sa "TwinindexModel" 131))]) C.1 C.2.1 dX6_toldOf_13 hl (by decide) rfl (fun ls hl => ?_)
  refine lv_iload C.1 C.2.1 dX6_toldOf_15 (lv_at hl 0 rfl) ?_
  refine lv_iload C.1 C.2.1 dX6_toldOf_17 (lv_at hl 1 rfl) ?_
  refine lv_icmp_ge (tgt := 84) C.1 C.2.1 dX6_toldOf_19 (by decide) (fun _ => ?_) (fun c9 => absurd (by decide) c9)
  refine lv_aload_n C.1 C.2.1 dX6_toldOf_84 rfl (lv_at hl 3 rfl) ?_
  have w := w.sub (ws' := [(h0, .inr (3, [.int 0, .ref (sv 0), .int 0]))]) [0] (by decide) rfl rfl
  exact x_aret C w hr (Or.inl ⟨_, rfl⟩) (fun _ => 0) rfl rfl dX6_toldOf_85 (Nat.le_of_ble_eq_true rfl) (Nat.le_of_ble_eq_true rfl)
set_option maxHeartbeats 4000000 in
set_option maxRecDepth 100000 in
theorem c400_X6_rangeText (l : Launch) (G : va_G) (cy : Nat → ClassId) (sa : String → Nat → Nat) (sv : Nat → Nat) (h0 h1 h2 h3 h4 h5 h6 h7 : Nat) (v0 v1 : Int32) (p0 : v0 ≤ v1) : xM l G cy sa sv yX6_rangeText (Cond.code yX6_rangeText cX6_rangeText 3 (some (.object "java/lang/String")) :: XG) { frames := 12, cells := 2, slots := 3, locals := 334 } [.ref h0, .int v0, .int v1] [(h0, .inr (10, [.ref h1, .ref h2, .ref h3, .ref h4, .ref h5, .ref h6, .ref h7, .int 0, .int 0])), (h1, .inr (3, [.int 0, .ref (sv 0), .int 0]))] (xQr G (fun f => [(h0, .inr (10, [.ref h1, .ref h2, .ref h3, .ref h4, .ref h5, .ref h6, .ref h7, .int 0, .int 0])), (h1, .inr (3, [.int 0, .ref (sv 0), .int 0]))]) (fun f => (sa "TwinindexModel" 122))) := by
  refine xof (by decide) (Nat.le_of_ble_eq_true rfl) (fun p e s m below meth c A C w hr hn ls hl => ?_)
  have hl : lv_has ls 3 [(0, .ref h0), (1, .int v0), (2, .int v1)] := hl
  refine lv_aload_n C.1 C.2.1 dX6_rangeText_0 rfl (lv_at hl 0 rfl) ?_
  refine lv_iload_n C.1 C.2.1 dX6_rangeText_1 rfl (lv_at hl 1 rfl) ?_
  refine lv_iload_n C.1 C.2.1 dX6_rangeText_2 rfl (lv_at hl 2 rfl) ?_
  refine lv_icmp_le (tgt := 10) C.1 C.2.1 dX6_rangeText_3 (by decide) (fun _ => ?_) (fun c9 => absurd p0 c9)
  refine lv_iconst (v := 0) C.1 C.2.1 dX6_rangeText_10 (by decide) ?_
  refine lv_iconst (v := 1) C.1 C.2.1 dX6_rangeText_11 (by decide) ?_
  refine x_ki C w [0] [1] rfl rfl (by decide) (by decide) (va_runV (As := [.int 0, .int 1]) (rest := []) (xfix C) (c46_X6_start l G cy sa sv h0 h1 h2 h3 h4 h5 h6 h7 (xtr C) _) (cwV 2 (xhts C) (xgV (maxL := 0) (cc := ⟨#[]⟩) (ret := none) gw_114 gw_115 gw_116 gw_58 gc_X6_start) rfl rfl rfl (by decide +kernel) ⟨(Nat.le_of_ble_eq_true rfl), (Nat.le_of_ble_eq_true rfl)⟩) (xPV C w [0] rfl (by decide) (ci := 10) (q0 := 0) rfl rfl) rfl rfl hl.1 rfl (lv_room (Nat.le_of_ble_eq_true rfl)) dX6_rangeText_12 ⟨(Nat.le_of_ble_eq_true rfl), (Nat.le_of_ble_eq_true rfl)⟩) (fun f2598 H locs w => ?_)
  have w : xW G A s [(h1, .inr (3, [.int 0, .ref (sv 0), .int 0])), (h0, .inr (10, [.ref h1, .ref h2, .ref h3, .ref h4, .ref h5, .ref h6, .ref h7, .int 0, .int 0]))] H _ := w
  refine lv_if_eq (tgt := 23) C.1 C.2.1 dX6_rangeText_15 (by decide) (fun _ => ?_) (fun c9 => absurd (by decide) c9)
  refine lv_aload_n C.1 C.2.1 dX6_rangeText_23 rfl (lv_at hl 0 rfl) ?_
  refine lv_iload_n C.1 C.2.1 dX6_rangeText_24 rfl (lv_at hl 1 rfl) ?_
  refine lv_iload_n C.1 C.2.1 dX6_rangeText_25 rfl (lv_at hl 2 rfl) ?_
  refine x_kr C w [1, 0] [] rfl rfl (by decide) (by decide) (va_runV (As := [.int v0, .int v1]) (rest := []) (xfix C) (c298_X6_range l G cy sa sv h0 h1 h2 h3 h4 h5 h6 h7 v0 v1 (xtr C) _) (cwV 2 (xhts C) (xgV (maxL := 0) (cc := ⟨#[]⟩) (ret := none) gw_670 gw_671 gw_672 gw_58 gc_X6_range) rfl rfl rfl (by decide +kernel) ⟨(Nat.le_of_ble_eq_true rfl), (Nat.le_of_ble_eq_true rfl)⟩) (xPV C w [1, 0] rfl (by decide) (ci := 10) (q0 := 1) rfl rfl) rfl rfl hl.1 rfl (lv_room (Nat.le_of_ble_eq_true rfl)) dX6_rangeText_26 ⟨(Nat.le_of_ble_eq_true rfl), (Nat.le_of_ble_eq_true rfl)⟩) (fun f2607 H locs w => ?_)
  have w : xW G A s [(h0, .inr (10, [.ref h1, .ref h2, .ref h3, .ref h4, .ref h5, .ref h6, .ref h7, .int 0, .int 0])), (h1, .inr (3, [.int 0, .ref (sv 0), .int 0])), ((f2607 0), .inr (3, [.int 0, .ref (sv 0), .int 0]))] H _ := w
  refine W.widen (k := 1) (n := 3) (Nat.le_of_ble_eq_true rfl) (Nat.le_of_ble_eq_true rfl) ?_
  refine x_ldcS C (tx := " ") (List.mem_of_getElem? (i := 12) rfl) dX6_rangeText_29 ?_
  refine x_kr C w [2] [0, 1] rfl rfl (by decide) (by decide) (va_runS (As := [.ref (f2607 0), .ref (sa "TwinindexModel" 131)]) (rest := []) (xfix C) (c399_X6_toldOf l G cy sa sv (f2607 0) (xtr C) _) (va_cwS 2 (xhts C) (xgS gw_637 gw_638 gw_58 gc_X6_toldOf) rfl rfl rfl (by decide +kernel) ⟨(Nat.le_of_ble_eq_true rfl), (Nat.le_of_ble_eq_true rfl)⟩) (xPS C w [2] rfl (by decide)) rfl rfl hl.1 rfl (lv_room (Nat.le_of_ble_eq_true rfl)) dX6_rangeText_31 ⟨(Nat.le_of_ble_eq_true rfl), (Nat.le_of_ble_eq_true rfl)⟩) (fun f2616 H locs w => ?_)
  have w : xW G A s [(h0, .inr (10, [.ref h1, .ref h2, .ref h3, .ref h4, .ref h5, .ref h6, .ref h7, .int 0, .int 0])), (h1, .inr (3, [.int 0, .ref (sv 0), .int 0])), ((f2607 0), .inr (3, [.int 0, .ref (sv 0), .int 0]))] H _ := w
  refine W.widen (k := 2) (n := 3) (Nat.le_of_ble_eq_true rfl) (Nat.le_of_ble_eq_true rfl) ?_
  have w := w.sub (ws' := [(h0, .inr (10, [.ref h1, .ref h2, .ref h3, .ref h4, .ref h5, .ref h6, .ref h7, .int 0, .int 0])), (h1, .inr (3, [.int 0, .ref (sv 0), .int 0]))]) [0, 1] (by decide) rfl rfl
  exact x_aret C w hr (Or.inl ⟨_, rfl⟩) (fun _ => 0) rfl rfl dX6_rangeText_34 (Nat.le_of_ble_eq_true rfl) (Nat.le_of_ble_eq_true rfl)
set_option maxHeartbeats 4000000 in
set_option maxRecDepth 100000 in
theorem c401_X4_rangeText (l : Launch) (G : va_G) (cy : Nat → ClassId) (sa : String → Nat → Nat) (sv : Nat → Nat) (h0 : Nat) (v0 v1 : Int32) (p0 : ¬ v0 ≤ v1) : xX l G cy sa sv yX4_rangeText (Cond.code yX4_rangeText cX4_rangeText 4 (some (.object "java/lang/String")) :: XG) { frames := 9, cells := 1, slots := 6, locals := 271 } [.ref h0, .int v0, .int v1] [] (fun f => []) "java/lang/IllegalArgumentException" := by
  refine xofX (by decide) (Nat.le_of_ble_eq_true rfl) (fun p e s m below meth c A C w hno ls hl => ?_)
  have hl : lv_has ls 4 [(0, .ref h0), (1, .int v0), (2, .int v1)] := hl
  refine lv_iload_n C.1 C.2.1 dX4_rangeText_0 rfl (lv_at hl 1 rfl) ?_
  refine lv_iload_n C.1 C.2.1 dX4_rangeText_1 rfl (lv_at hl 2 rfl) ?_
  refine x_kx C w [] [] rfl rfl (by decide) (by decide) (vx_runS (As := [.int v0, .int v1]) (rest := []) (xfix C) (c306_X4_checkRange l G cy sa sv v0 v1 p0 (xtr C) _) (va_cwS 2 (xhts C) (xgS gw_390 gw_391 gw_2 gc_X4_checkRange) rfl rfl rfl (by decide +kernel) ⟨(Nat.le_of_ble_eq_true rfl), (Nat.le_of_ble_eq_true rfl)⟩) (xPS C w [] rfl (by decide)) rfl rfl hl.1 rfl (lv_room (Nat.le_of_ble_eq_true rfl)) dX4_rangeText_2 ⟨(Nat.le_of_ble_eq_true rfl), (Nat.le_of_ble_eq_true rfl)⟩) (fun f2624 H locs ce q9 w hce hcv hcl => ?_)
  have w : xW G A s [] H _ := w
  refine vx_widen (k := 1) (n := 6) (Nat.le_of_ble_eq_true rfl) (Nat.le_of_ble_eq_true rfl) ?_
  exact x_out C w hno (fun _ => 0) rfl hce hcv hcl (Nat.le_of_ble_eq_true rfl) (Nat.le_of_ble_eq_true rfl)
set_option maxHeartbeats 4000000 in
set_option maxRecDepth 100000 in
theorem c402_L_rangeText (l : Launch) (G : va_G) (cy : Nat → ClassId) (sa : String → Nat → Nat) (sv : Nat → Nat) (h0 h1 h2 h3 h4 h5 h6 h7 h8 : Nat) (v0 v1 : Int32) (p0 : ¬ v0 ≤ v1) : xM l G cy sa sv yL_rangeText (Cond.codeWith yL_rangeText cL_rangeText 5 (some .int) [(0, 10, 13, 19)] :: XG) { frames := 10, cells := 1, slots := 6, locals := 294 } [.ref h0, .int v0, .int v1, .ref h1] [(h0, .inr (8, [.ref h2, .ref h3, .ref h4, .ref h5, .ref h6, .int 0, .ref h7, .ref h8]))] (xQi G (fun f => [(h0, .inr (8, [.ref h2, .ref h3, .ref h4, .ref h5, .ref h6, .int 0, .ref h7, .ref h8]))]) 1) := by
  refine xofH (by decide) (Nat.le_of_ble_eq_true rfl) (fun p e s m below meth c A C w hr hn hT ls hl => ?_)
  have hl : lv_has ls 5 [(0, .ref h0), (1, .int v0), (2, .int v1), (3, .ref h1)] := hl
  refine lv_aload_n C.1 C.2.1 dL_rangeText_0 rfl (lv_at hl 3 rfl) ?_
  refine lv_aload_n C.1 C.2.1 dL_rangeText_1 rfl (lv_at hl 0 rfl) ?_
  refine lv_iload_n C.1 C.2.1 dL_rangeText_2 rfl (lv_at hl 1 rfl) ?_
  refine lv_iload_n C.1 C.2.1 dL_rangeText_3 rfl (lv_at hl 2 rfl) ?_
  refine x_kx C w [] [0] rfl rfl (by decide) (by decide) (vx_runV (As := [.int v0, .int v1]) (rest := [.ref h1]) (xfix C) (c401_X4_rangeText l G cy sa sv h0 v0 v1 p0 (xtr C) _) (cwV 2 (xhts C) (xgV (maxL := 0) (cc := ⟨#[]⟩) (ret := none) gw_751 gw_752 gw_753 gw_2 gc_X4_rangeText) rfl rfl rfl (by decide +kernel) ⟨(Nat.le_of_ble_eq_true rfl), (Nat.le_of_ble_eq_true rfl)⟩) (xPV C w [] rfl (by decide) (ci := 8) (q0 := 0) rfl rfl) rfl rfl hl.1 rfl (lv_room (Nat.le_of_ble_eq_true rfl)) dL_rangeText_4 ⟨(Nat.le_of_ble_eq_true rfl), (Nat.le_of_ble_eq_true rfl)⟩) (fun f2625 H locs ce q9 w hce hcv hcl => ?_)
  have w : xW G A s [(h0, .inr (8, [.ref h2, .ref h3, .ref h4, .ref h5, .ref h6, .int 0, .ref h7, .ref h8]))] H _ := w
  refine vx_widen (k := 1) (n := 6) (Nat.le_of_ble_eq_true rfl) (Nat.le_of_ble_eq_true rfl) ?_
  refine vx_catch (xown C) [] ⟨0, 10, 13, 19⟩ [] hT (fun z hz => nomatch hz) (by decide) (by decide) (xhts C _ (List.mem_cons_of_mem _ gw_104)) (va_any rfl (xs_c1 (xS C))) hce hcv hcl ?_
  refine lv_astore (lv' := [(4, .ref q9), (0, .ref h0), (1, .int v0), (2, .int v1), (3, .ref h1)]) C.1 C.2.1 dL_rangeText_13 hl (by decide) rfl (fun ls hl => ?_)
  refine lv_iconst (v := 1) C.1 C.2.1 dL_rangeText_15 (by decide) ?_
  exact x_iret C w hr (fun _ => 0) rfl rfl dL_rangeText_16 (Nat.le_of_ble_eq_true rfl) (Nat.le_of_ble_eq_true rfl)
set_option maxHeartbeats 4000000 in
set_option maxRecDepth 100000 in
theorem c403_X6_rangeText (l : Launch) (G : va_G) (cy : Nat → ClassId) (sa : String → Nat → Nat) (sv : Nat → Nat) (h0 h1 h2 h3 h4 h5 h6 h7 : Nat) (v0 v1 : Int32) (p0 : ¬ v0 ≤ v1) : xM l G cy sa sv yX6_rangeText (Cond.code yX6_rangeText cX6_rangeText 3 (some (.object "java/lang/String")) :: XG) { frames := 9, cells := 0, slots := 0, locals := 272 } [.ref h0, .int v0, .int v1] [(h0, .inr (10, [.ref h1, .ref h2, .ref h3, .ref h4, .ref h5, .ref h6, .ref h7, .int 0, .int 0]))] (xQr G (fun f => [(h0, .inr (10, [.ref h1, .ref h2, .ref h3, .ref h4, .ref h5, .ref h6, .ref h7, .int 0, .int 1]))]) (fun f => (sa "TwinindexModel" 122))) := by
  refine xof (by decide) (Nat.le_of_ble_eq_true rfl) (fun p e s m below meth c A C w hr hn ls hl => ?_)
  have hl : lv_has ls 3 [(0, .ref h0), (1, .int v0), (2, .int v1)] := hl
  refine lv_aload_n C.1 C.2.1 dX6_rangeText_0 rfl (lv_at hl 0 rfl) ?_
  refine lv_iload_n C.1 C.2.1 dX6_rangeText_1 rfl (lv_at hl 1 rfl) ?_
  refine lv_iload_n C.1 C.2.1 dX6_rangeText_2 rfl (lv_at hl 2 rfl) ?_
  refine lv_icmp_le (tgt := 10) C.1 C.2.1 dX6_rangeText_3 (by decide) (fun c9 => absurd c9 p0) (fun _ => ?_)
  refine lv_iconst (v := 1) C.1 C.2.1 dX6_rangeText_6 (by decide) ?_
  refine lv_goto (tgt := 11) C.1 C.2.1 dX6_rangeText_7 (by decide) ?_
  refine lv_iconst (v := 1) C.1 C.2.1 dX6_rangeText_11 (by decide) ?_
  refine x_ki C w [0] [] rfl rfl (by decide) (by decide) (va_runV (As := [.int 1, .int 1]) (rest := []) (xfix C) (c17_X6_start l G cy sa sv h0 h1 h2 h3 h4 h5 h6 h7 (xtr C) _) (cwV 2 (xhts C) (xgV (maxL := 0) (cc := ⟨#[]⟩) (ret := none) gw_114 gw_115 gw_116 gw_58 gc_X6_start) rfl rfl rfl (by decide +kernel) ⟨(Nat.le_of_ble_eq_true rfl), (Nat.le_of_ble_eq_true rfl)⟩) (xPV C w [0] rfl (by decide) (ci := 10) (q0 := 0) rfl rfl) rfl rfl hl.1 rfl (lv_room (Nat.le_of_ble_eq_true rfl)) dX6_rangeText_12 ⟨(Nat.le_of_ble_eq_true rfl), (Nat.le_of_ble_eq_true rfl)⟩) (fun f2628 H locs w => ?_)
  have w : xW G A s [(h0, .inr (10, [.ref h1, .ref h2, .ref h3, .ref h4, .ref h5, .ref h6, .ref h7, .int 0, .int 1]))] H _ := w
  refine lv_if_eq (tgt := 23) C.1 C.2.1 dX6_rangeText_15 (by decide) (fun c9 => absurd c9 (by decide)) (fun _ => ?_)
  refine x_ldcS C (tx := "") (List.mem_of_getElem? (i := 11) rfl) dX6_rangeText_18 ?_
  refine lv_goto (tgt := 34) C.1 C.2.1 dX6_rangeText_20 (by decide) ?_
  exact x_aret C w hr (Or.inl ⟨_, rfl⟩) (fun _ => 0) rfl rfl dX6_rangeText_34 (Nat.le_of_ble_eq_true rfl) (Nat.le_of_ble_eq_true rfl)
set_option maxHeartbeats 4000000 in
set_option maxRecDepth 100000 in
theorem c404_X4_chooseByUse (l : Launch) (G : va_G) (cy : Nat → ClassId) (sa : String → Nat → Nat) (sv : Nat → Nat) (h0 h1 h2 h3 h4 h5 h6 h7 h8 h9 : Nat) (v0 v1 : Int32) : xM l G cy sa sv yX4_chooseByUse (Cond.code yX4_chooseByUse cX4_chooseByUse 5 none :: XG) { frames := 9, cells := 0, slots := 0, locals := 270 } [.ref h0, .int v0, .int v1] [(h0, .inr (8, [.ref h3, .ref h2, .ref h4, .ref h5, .ref h6, .int 0, .ref h1, .ref h7])), (h1, .inr (6, [.ref h8, .int 0])), (h2, .inr (6, [.ref h9, .int 0]))] (xQv G (fun f => [(h0, .inr (8, [.ref h3, .ref h2, .ref h4, .ref h5, .ref h6, .int 0, .ref h1, .ref h7])), (h1, .inr (6, [.ref h8, .int 0])), (h2, .inr (6, [.ref h9, .int 0]))])) := by
  refine xof (by decide) (Nat.le_of_ble_eq_true rfl) (fun p e s m below meth c A C w hr hn ls hl => ?_)
  have hl : lv_has ls 5 [(0, .ref h0), (1, .int v0), (2, .int v1)] := hl
  refine lv_aload_n C.1 C.2.1 dX4_chooseByUse_0 rfl (lv_at hl 0 rfl) ?_
  refine x_get (v := .ref h1) C w 0 8 6 (xin_X4 _) rfl rfl (by decide) (List.mem_cons_of_mem _ gw_51) rfl rfl dX4_chooseByUse_1 ?_
  refine x_kv C w [1] [0, 2] rfl rfl (by decide) (by decide) (va_runV (As := []) (rest := []) (xfix C) (c109_X2_empty l G cy sa sv h1 h8 (xtr C) _) (cwV 0 (xhts C) (xgV (maxL := 0) (cc := ⟨#[]⟩) (ret := none) gw_312 gw_313 gw_314 gw_11 gc_X2_empty) rfl rfl rfl (by decide +kernel) ⟨(Nat.le_of_ble_eq_true rfl), (Nat.le_of_ble_eq_true rfl)⟩) (xPV C w [1] rfl (by decide) (ci := 6) (q0 := 1) rfl rfl) rfl rfl hl.1 rfl (lv_room (Nat.le_of_ble_eq_true rfl)) dX4_chooseByUse_4 ⟨(Nat.le_of_ble_eq_true rfl), (Nat.le_of_ble_eq_true rfl)⟩) (fun f2660 H locs w => ?_)
  have w : xW G A s [(h0, .inr (8, [.ref h3, .ref h2, .ref h4, .ref h5, .ref h6, .int 0, .ref h1, .ref h7])), (h2, .inr (6, [.ref h9, .int 0])), (h1, .inr (6, [.ref h8, .int 0]))] H _ := w
  refine lv_aload_n C.1 C.2.1 dX4_chooseByUse_7 rfl (lv_at hl 0 rfl) ?_
  refine x_get (v := .ref h2) C w 0 8 1 (xin_X4 _) rfl rfl (by decide) (List.mem_cons_of_mem _ gw_27) rfl rfl dX4_chooseByUse_8 ?_
  refine x_ki C w [1] [0, 2] rfl rfl (by decide) (by decide) (va_runV (As := []) (rest := []) (xfix C) (c21_X2_count l G cy sa sv h2 h9 (xtr C) _) (cwV 0 (xhts C) (xgV (maxL := 0) (cc := ⟨#[]⟩) (ret := none) gw_316 gw_127 gw_128 gw_11 gc_X2_count) rfl rfl rfl (by decide +kernel) ⟨(Nat.le_of_ble_eq_true rfl), (Nat.le_of_ble_eq_true rfl)⟩) (xPV C w [1] rfl (by decide) (ci := 6) (q0 := 1) rfl rfl) rfl rfl hl.1 rfl (lv_room (Nat.le_of_ble_eq_true rfl)) dX4_chooseByUse_11 ⟨(Nat.le_of_ble_eq_true rfl), (Nat.le_of_ble_eq_true rfl)⟩) (fun f2661 H locs w => ?_)
  have w : xW G A s [(h0, .inr (8, [.ref h3, .ref h2, .ref h4, .ref h5, .ref h6, .int 0, .ref h1, .ref h7])), (h1, .inr (6, [.ref h8, .int 0])), (h2, .inr (6, [.ref h9, .int 0]))] H _ := w
  refine lv_istore_n (lv' := [(3, .int 0), (0, .ref h0), (1, .int v0), (2, .int v1)]) C.1 C.2.1 dX4_chooseByUse_14 rfl hl (by decide) rfl (fun ls hl => ?_)
  refine lv_iconst (v := 0) C.1 C.2.1 dX4_chooseByUse_15 (by decide) ?_
  refine lv_istore (lv' := [(4, .int 0), (3, .int 0), (0, .ref h0), (1, .int v0), (2, .int v1)]) C.1 C.2.1 dX4_chooseByUse_16 hl (by decide) rfl (fun ls hl => ?_)
  refine lv_iload C.1 C.2.1 dX4_chooseByUse_18 (lv_at hl 0 rfl) ?_
  refine lv_iload_n C.1 C.2.1 dX4_chooseByUse_20 rfl (lv_at hl 1 rfl) ?_
  refine lv_icmp_ge (tgt := 63) C.1 C.2.1 dX4_chooseByUse_21 (by decide) (fun _ => ?_) (fun c9 => absurd (by decide) c9)
  exact x_vret C w hr (fun _ => 0) rfl dX4_chooseByUse_63 (Nat.le_of_ble_eq_true rfl) (Nat.le_of_ble_eq_true rfl)
set_option maxHeartbeats 4000000 in
set_option maxRecDepth 100000 in
theorem c405_X4_rangeUse (l : Launch) (G : va_G) (cy : Nat → ClassId) (sa : String → Nat → Nat) (sv : Nat → Nat) (h0 h1 h2 h3 h4 h5 h6 h7 h8 h9 : Nat) (v0 v1 : Int32) (p0 : v0 ≤ v1) : xM l G cy sa sv yX4_rangeUse (Cond.code yX4_rangeUse cX4_rangeUse 3 (some (.object "java/lang/String")) :: XG) { frames := 15, cells := 4, slots := 24, locals := 404 } [.ref h0, .int v0, .int v1] [(h0, .inr (8, [.ref h3, .ref h2, .ref h4, .ref h5, .ref h6, .int 0, .ref h1, .ref h7])), (h1, .inr (6, [.ref h8, .int 0])), (h2, .inr (6, [.ref h9, .int 0]))] (xQr G (fun f => [(h0, .inr (8, [.ref h3, .ref h2, .ref h4, .ref h5, .ref h6, .int 0, .ref h1, .ref h7])), (h1, .inr (6, [.ref h8, .int 0])), (h2, .inr (6, [.ref h9, .int 0])), ((f 0), .inr (0, [.ref (f 1), .int 0, .int 0, .int 0])), ((f 1), .inl (cy 0, 0, .inl (va_cpy (fun _ => 0) (fun _ => 0) 0 0 0)))]) (fun f => (f 0))) := by
  refine xof (by decide) (Nat.le_of_ble_eq_true rfl) (fun p e s m below meth c A C w hr hn ls hl => ?_)
  have hl : lv_has ls 3 [(0, .ref h0), (1, .int v0), (2, .int v1)] := hl
  refine lv_iload_n C.1 C.2.1 dX4_rangeUse_0 rfl (lv_at hl 1 rfl) ?_
  refine lv_iload_n C.1 C.2.1 dX4_rangeUse_1 rfl (lv_at hl 2 rfl) ?_
  refine x_kv C w [] [0, 1, 2] rfl rfl (by decide) (by decide) (va_runS (As := [.int v0, .int v1]) (rest := []) (xfix C) (c302_X4_checkRange l G cy sa sv v0 v1 p0 (xtr C) _) (va_cwS 2 (xhts C) (xgS gw_390 gw_391 gw_2 gc_X4_checkRange) rfl rfl rfl (by decide +kernel) ⟨(Nat.le_of_ble_eq_true rfl), (Nat.le_of_ble_eq_true rfl)⟩) (xPS C w [] rfl (by decide)) rfl rfl hl.1 rfl (lv_room (Nat.le_of_ble_eq_true rfl)) dX4_rangeUse_2 ⟨(Nat.le_of_ble_eq_true rfl), (Nat.le_of_ble_eq_true rfl)⟩) (fun f2659 H locs w => ?_)
  have w : xW G A s [(h0, .inr (8, [.ref h3, .ref h2, .ref h4, .ref h5, .ref h6, .int 0, .ref h1, .ref h7])), (h1, .inr (6, [.ref h8, .int 0])), (h2, .inr (6, [.ref h9, .int 0]))] H _ := w
  refine lv_aload_n C.1 C.2.1 dX4_rangeUse_5 rfl (lv_at hl 0 rfl) ?_
  refine lv_iload_n C.1 C.2.1 dX4_rangeUse_6 rfl (lv_at hl 1 rfl) ?_
  refine lv_iload_n C.1 C.2.1 dX4_rangeUse_7 rfl (lv_at hl 2 rfl) ?_
  refine x_kv C w [0, 1, 2] [] rfl rfl (by decide) (by decide) (va_runV (As := [.int v0, .int v1]) (rest := []) (xfix C) (c404_X4_chooseByUse l G cy sa sv h0 h1 h2 h3 h4 h5 h6 h7 h8 h9 v0 v1 (xtr C) _) (cwV 2 (xhts C) (xgV (maxL := 0) (cc := ⟨#[]⟩) (ret := none) gw_762 gw_763 gw_764 gw_2 gc_X4_chooseByUse) rfl rfl rfl (by decide +kernel) ⟨(Nat.le_of_ble_eq_true rfl), (Nat.le_of_ble_eq_true rfl)⟩) (xPV C w [0, 1, 2] rfl (by decide) (ci := 8) (q0 := 0) rfl rfl) rfl rfl hl.1 rfl (lv_room (Nat.le_of_ble_eq_true rfl)) dX4_rangeUse_8 ⟨(Nat.le_of_ble_eq_true rfl), (Nat.le_of_ble_eq_true rfl)⟩) (fun f2662 H locs w => ?_)
  have w : xW G A s [(h0, .inr (8, [.ref h3, .ref h2, .ref h4, .ref h5, .ref h6, .int 0, .ref h1, .ref h7])), (h1, .inr (6, [.ref h8, .int 0])), (h2, .inr (6, [.ref h9, .int 0]))] H _ := w
  refine lv_aload_n C.1 C.2.1 dX4_rangeUse_11 rfl (lv_at hl 0 rfl) ?_
  refine x_get (v := .ref h1) C w 0 8 6 (xin_X4 _) rfl rfl (by decide) (List.mem_cons_of_mem _ gw_51) rfl rfl dX4_rangeUse_12 ?_
  refine x_kr C w [1] [0, 2] rfl rfl (by decide) (by decide) (va_runV (As := []) (rest := []) (xfix C) (c228_X2_joined l G cy sa sv h1 h8 (xtr C) _) (cwV 0 (xhts C) (xgV (maxL := 0) (cc := ⟨#[]⟩) (ret := none) gw_542 gw_543 gw_544 gw_11 gc_X2_joined) rfl rfl rfl (by decide +kernel) ⟨(Nat.le_of_ble_eq_true rfl), (Nat.le_of_ble_eq_true rfl)⟩) (xPV C w [1] rfl (by decide) (ci := 6) (q0 := 1) rfl rfl) rfl rfl hl.1 rfl (lv_room (Nat.le_of_ble_eq_true rfl)) dX4_rangeUse_15 ⟨(Nat.le_of_ble_eq_true rfl), (Nat.le_of_ble_eq_true rfl)⟩) (fun f2713 H locs w => ?_)
  have w : xW G A s [(h0, .inr (8, [.ref h3, .ref h2, .ref h4, .ref h5, .ref h6, .int 0, .ref h1, .ref h7])), (h2, .inr (6, [.ref h9, .int 0])), (h1, .inr (6, [.ref h8, .int 0])), ((f2713 0), .inr (0, [.ref (f2713 1), .int 0, .int 0, .int 0])), ((f2713 1), .inl (cy 0, 0, .inl (va_cpy (fun _ => 0) (fun _ => 0) 0 0 0)))] H _ := w
  refine W.widen (k := 4) (n := 24) (Nat.le_of_ble_eq_true rfl) (Nat.le_of_ble_eq_true rfl) ?_
  have w := w.sub (ws' := [(h0, .inr (8, [.ref h3, .ref h2, .ref h4, .ref h5, .ref h6, .int 0, .ref h1, .ref h7])), (h1, .inr (6, [.ref h8, .int 0])), (h2, .inr (6, [.ref h9, .int 0])), ((f2713 0), .inr (0, [.ref (f2713 1), .int 0, .int 0, .int 0])), ((f2713 1), .inl (cy 0, 0, .inl (va_cpy (fun _ => 0) (fun _ => 0) 0 0 0)))]) [0, 2, 1, 3, 4] (by decide) rfl rfl
  exact x_aret C w hr (Or.inl ⟨_, rfl⟩) (fun k => match k with | 0 => (f2713 0) | 1 => (f2713 1) | _ => 0) rfl rfl dX4_rangeUse_18 (Nat.le_of_ble_eq_true rfl) (Nat.le_of_ble_eq_true rfl)
set_option maxHeartbeats 4000000 in
set_option maxRecDepth 100000 in
theorem c406_L_rangeUse (l : Launch) (G : va_G) (cy : Nat → ClassId) (sa : String → Nat → Nat) (sv : Nat → Nat) (h0 h1 h2 h3 h4 h5 h6 h7 h8 h9 h10 : Nat) (v0 v1 : Int32) (p0 : v0 ≤ v1) : xM l G cy sa sv yL_rangeUse (Cond.codeWith yL_rangeUse cL_rangeUse 5 (some .int) [(0, 10, 13, 19)] :: XG) { frames := 16, cells := 4, slots := 24, locals := 426 } [.ref h0, .int v0, .int v1, .ref h1] [(h0, .inr (8, [.ref h4, .ref h3, .ref h5, .ref h6, .ref h7, .int 0, .ref h2, .ref h8])), (h2, .inr (6, [.ref h9, .int 0])), (h3, .inr (6, [.ref h10, .int 0])), (h1, .inr (9, [.long 0, .null]))] (xQi G (fun f => [(h0, .inr (8, [.ref h4, .ref h3, .ref h5, .ref h6, .ref h7, .int 0, .ref h2, .ref h8])), (h2, .inr (6, [.ref h9, .int 0])), (h3, .inr (6, [.ref h10, .int 0])), (h1, .inr (9, [.long 0, .ref (f 0)])), ((f 0), .inr (0, [.ref (f 1), .int 0, .int 0, .int 0])), ((f 1), .inl (cy 0, 0, .inl (va_cpy (fun _ => 0) (fun _ => 0) 0 0 0)))]) 0) := by
  refine xofH (by decide) (Nat.le_of_ble_eq_true rfl) (fun p e s m below meth c A C w hr hn hT ls hl => ?_)
  have hl : lv_has ls 5 [(0, .ref h0), (1, .int v0), (2, .int v1), (3, .ref h1)] := hl
  refine lv_aload_n C.1 C.2.1 dL_rangeUse_0 rfl (lv_at hl 3 rfl) ?_
  refine lv_aload_n C.1 C.2.1 dL_rangeUse_1 rfl (lv_at hl 0 rfl) ?_
  refine lv_iload_n C.1 C.2.1 dL_rangeUse_2 rfl (lv_at hl 1 rfl) ?_
  refine lv_iload_n C.1 C.2.1 dL_rangeUse_3 rfl (lv_at hl 2 rfl) ?_
  refine x_kr C w [0, 1, 2] [3] rfl rfl (by decide) (by decide) (va_runV (As := [.int v0, .int v1]) (rest := [.ref h1]) (xfix C) (c405_X4_rangeUse l G cy sa sv h0 h2 h3 h4 h5 h6 h7 h8 h9 h10 v0 v1 p0 (xtr C) _) (cwV 2 (xhts C) (xgV (maxL := 0) (cc := ⟨#[]⟩) (ret := none) gw_766 gw_767 gw_768 gw_2 gc_X4_rangeUse) rfl rfl rfl (by decide +kernel) ⟨(Nat.le_of_ble_eq_true rfl), (Nat.le_of_ble_eq_true rfl)⟩) (xPV C w [0, 1, 2] rfl (by decide) (ci := 8) (q0 := 0) rfl rfl) rfl rfl hl.1 rfl (lv_room (Nat.le_of_ble_eq_true rfl)) dL_rangeUse_4 ⟨(Nat.le_of_ble_eq_true rfl), (Nat.le_of_ble_eq_true rfl)⟩) (fun f2716 H locs w => ?_)
  have w : xW G A s [(h1, .inr (9, [.long 0, .null])), (h0, .inr (8, [.ref h4, .ref h3, .ref h5, .ref h6, .ref h7, .int 0, .ref h2, .ref h8])), (h2, .inr (6, [.ref h9, .int 0])), (h3, .inr (6, [.ref h10, .int 0])), ((f2716 0), .inr (0, [.ref (f2716 1), .int 0, .int 0, .int 0])), ((f2716 1), .inl (cy 0, 0, .inl (va_cpy (fun _ => 0) (fun _ => 0) 0 0 0)))] H _ := w
  refine W.widen (k := 4) (n := 24) (Nat.le_of_ble_eq_true rfl) (Nat.le_of_ble_eq_true rfl) ?_
  refine x_putN (ty := (.object "java/lang/String")) (ty0 := tyX5) C w 0 9 1 (xin_X5 _) tyX5_ok nmX5 rfl rfl (by decide) (xs_f_s (xS C)) rfl rfl (by decide +kernel) rfl rfl (Nat.le_of_ble_eq_true rfl) dL_rangeUse_7 (fun H locs w => ?_)
  have w : xW G A s [(h1, .inr (9, [.long 0, .ref (f2716 0)])), (h0, .inr (8, [.ref h4, .ref h3, .ref h5, .ref h6, .ref h7, .int 0, .ref h2, .ref h8])), (h2, .inr (6, [.ref h9, .int 0])), (h3, .inr (6, [.ref h10, .int 0])), ((f2716 0), .inr (0, [.ref (f2716 1), .int 0, .int 0, .int 0])), ((f2716 1), .inl (cy 0, 0, .inl (va_cpy (fun _ => 0) (fun _ => 0) 0 0 0)))] H _ := w
  refine lv_goto (tgt := 17) C.1 C.2.1 dL_rangeUse_10 (by decide) ?_
  refine lv_iconst (v := 0) C.1 C.2.1 dL_rangeUse_17 (by decide) ?_
  have w := w.sub (ws' := [(h0, .inr (8, [.ref h4, .ref h3, .ref h5, .ref h6, .ref h7, .int 0, .ref h2, .ref h8])), (h2, .inr (6, [.ref h9, .int 0])), (h3, .inr (6, [.ref h10, .int 0])), (h1, .inr (9, [.long 0, .ref (f2716 0)])), ((f2716 0), .inr (0, [.ref (f2716 1), .int 0, .int 0, .int 0])), ((f2716 1), .inl (cy 0, 0, .inl (va_cpy (fun _ => 0) (fun _ => 0) 0 0 0)))]) [1, 2, 3, 0, 4, 5] (by decide) rfl rfl
  exact x_iret C w hr (fun k => match k with | 0 => (f2716 0) | 1 => (f2716 1) | _ => 0) rfl rfl dL_rangeUse_18 (Nat.le_of_ble_eq_true rfl) (Nat.le_of_ble_eq_true rfl)
set_option maxHeartbeats 4000000 in
set_option maxRecDepth 100000 in
theorem c407_X6_usesOf (l : Launch) (G : va_G) (cy : Nat → ClassId) (sa : String → Nat → Nat) (sv : Nat → Nat) (h0 : Nat) : xM l G cy sa sv yX6_usesOf (Cond.code yX6_usesOf cX6_usesOf 3 (some (.object "java/lang/String")) :: XG) { frames := 9, cells := 1, slots := 0, locals := 272 } [.ref h0] [(h0, .inr (3, [.int 0, .ref (sv 0), .int 0]))] (xQr G (fun f => [(h0, .inr (3, [.int 0, .ref (sv 0), .int 0]))]) (fun f => (sa "TwinindexModel" 122))) := by
  refine xof (by decide) (Nat.le_of_ble_eq_true rfl) (fun p e s m below meth c A C w hr hn ls hl => ?_)
  have hl : lv_has ls 3 [(0, .ref h0)] := hl
  refine lv_aload_n C.1 C.2.1 dX6_usesOf_0 rfl (lv_at hl 0 rfl) ?_
  refine x_ki C w [0] [] rfl rfl (by decide) (by decide) (va_runV (As := []) (rest := []) (xfix C) (c47_Jx4a65c_size_8abf5 l G cy sa sv h0 (xtr C) _) (cwV 0 (xhts C) (xgV (maxL := 0) (cc := ⟨#[]⟩) (ret := none) gw_195 gw_196 gw_197 gw_62 gc_Jx4a65c_size_8abf5) rfl rfl rfl (by decide +kernel) ⟨(Nat.le_of_ble_eq_true rfl), (Nat.le_of_ble_eq_true rfl)⟩) (xPV C w [0] rfl (by decide) (ci := 3) (q0 := 0) rfl rfl) rfl rfl hl.1 rfl (lv_room (Nat.le_of_ble_eq_true rfl)) dX6_usesOf_1 ⟨(Nat.le_of_ble_eq_true rfl), (Nat.le_of_ble_eq_true rfl)⟩) (fun f2736 H locs w => ?_)
  have w : xW G A s [(h0, .inr (3, [.int 0, .ref (sv 0), .int 0]))] H _ := w
  refine x_newa (atype := .int) (ty := .int) (N := 0) C w 1 (fun _ _ h => h) rfl (List.mem_cons_of_mem _ gw_13) rfl rfl (by decide) (by decide) (by decide) (Nat.le_of_ble_eq_true rfl) (Nat.le_of_ble_eq_true rfl) dX6_usesOf_4 (fun q2737 H w => ?_)
  have w : xW G A s [(h0, .inr (3, [.int 0, .ref (sv 0), .int 0])), (q2737, .inl (cy 1, 0, .inl (fun _ => 0)))] H _ := w
  refine W.widen (k := 1) (n := 0) (Nat.le_of_ble_eq_true rfl) (Nat.le_of_ble_eq_true rfl) ?_
  refine lv_astore_n (lv' := [(1, .ref q2737), (0, .ref h0)]) C.1 C.2.1 dX6_usesOf_6 rfl hl (by decide) rfl (fun ls hl => ?_)
  refine lv_iconst (v := 0) C.1 C.2.1 dX6_usesOf_7 (by decide) ?_
  refine lv_istore_n (lv' := [(2, .int 0), (1, .ref q2737), (0, .ref h0)]) C.1 C.2.1 dX6_usesOf_8 rfl hl (by decide) rfl (fun ls hl => ?_)
  refine lv_iload_n C.1 C.2.1 dX6_usesOf_9 rfl (lv_at hl 0 rfl) ?_
  refine lv_aload_n C.1 C.2.1 dX6_usesOf_10 rfl (lv_at hl 1 rfl) ?_
  refine x_alen (v := 0) C w 1 1 rfl rfl (by rfl) dX6_usesOf_11 ?_
  refine lv_icmp_ge (tgt := 34) C.1 C.2.1 dX6_usesOf_12 (by decide) (fun _ => ?_) (fun c9 => absurd (by decide) c9)
  refine lv_aload_n C.1 C.2.1 dX6_usesOf_34 rfl (lv_at hl 1 rfl) ?_
  refine x_kr C w [1] [0] rfl rfl (by decide) (by decide) (va_runS (As := [.ref q2737]) (rest := []) (xfix C) (c230_X6_joined l G cy sa sv q2737 (xtr C) _) (va_cwS 1 (xhts C) (xgS gw_550 gw_551 gw_58 gc_X6_joined) rfl rfl rfl (by decide +kernel) ⟨(Nat.le_of_ble_eq_true rfl), (Nat.le_of_ble_eq_true rfl)⟩) (xPS C w [1] rfl (by decide)) rfl rfl hl.1 rfl (lv_room (Nat.le_of_ble_eq_true rfl)) dX6_usesOf_35 ⟨(Nat.le_of_ble_eq_true rfl), (Nat.le_of_ble_eq_true rfl)⟩) (fun f2738 H locs w => ?_)
  have w : xW G A s [(h0, .inr (3, [.int 0, .ref (sv 0), .int 0])), (q2737, .inl (cy 1, 0, .inl (fun _ => 0)))] H _ := w
  have w := w.sub (ws' := [(h0, .inr (3, [.int 0, .ref (sv 0), .int 0]))]) [0] (by decide) rfl rfl
  exact x_aret C w hr (Or.inl ⟨_, rfl⟩) (fun _ => 0) rfl rfl dX6_usesOf_38 (Nat.le_of_ble_eq_true rfl) (Nat.le_of_ble_eq_true rfl)
set_option maxHeartbeats 4000000 in
set_option maxRecDepth 100000 in
theorem c408_X6_rangeUse (l : Launch) (G : va_G) (cy : Nat → ClassId) (sa : String → Nat → Nat) (sv : Nat → Nat) (h0 h1 h2 h3 h4 h5 h6 h7 : Nat) (v0 v1 : Int32) (p0 : v0 ≤ v1) : xM l G cy sa sv yX6_rangeUse (Cond.code yX6_rangeUse cX6_rangeUse 3 (some (.object "java/lang/String")) :: XG) { frames := 12, cells := 2, slots := 3, locals := 334 } [.ref h0, .int v0, .int v1] [(h0, .inr (10, [.ref h1, .ref h2, .ref h3, .ref h4, .ref h5, .ref h6, .ref h7, .int 0, .int 0])), (h1, .inr (3, [.int 0, .ref (sv 0), .int 0]))] (xQr G (fun f => [(h0, .inr (10, [.ref h1, .ref h2, .ref h3, .ref h4, .ref h5, .ref h6, .ref h7, .int 0, .int 0])), (h1, .inr (3, [.int 0, .ref (sv 0), .int 0]))]) (fun f => (sa "TwinindexModel" 122))) := by
  refine xof (by decide) (Nat.le_of_ble_eq_true rfl) (fun p e s m below meth c A C w hr hn ls hl => ?_)
  have hl : lv_has ls 3 [(0, .ref h0), (1, .int v0), (2, .int v1)] := hl
  refine lv_aload_n C.1 C.2.1 dX6_rangeUse_0 rfl (lv_at hl 0 rfl) ?_
  refine lv_iload_n C.1 C.2.1 dX6_rangeUse_1 rfl (lv_at hl 1 rfl) ?_
  refine lv_iload_n C.1 C.2.1 dX6_rangeUse_2 rfl (lv_at hl 2 rfl) ?_
  refine lv_icmp_le (tgt := 10) C.1 C.2.1 dX6_rangeUse_3 (by decide) (fun _ => ?_) (fun c9 => absurd p0 c9)
  refine lv_iconst (v := 0) C.1 C.2.1 dX6_rangeUse_10 (by decide) ?_
  refine lv_iconst (v := 1) C.1 C.2.1 dX6_rangeUse_11 (by decide) ?_
  refine x_ki C w [0] [1] rfl rfl (by decide) (by decide) (va_runV (As := [.int 0, .int 1]) (rest := []) (xfix C) (c46_X6_start l G cy sa sv h0 h1 h2 h3 h4 h5 h6 h7 (xtr C) _) (cwV 2 (xhts C) (xgV (maxL := 0) (cc := ⟨#[]⟩) (ret := none) gw_114 gw_115 gw_116 gw_58 gc_X6_start) rfl rfl rfl (by decide +kernel) ⟨(Nat.le_of_ble_eq_true rfl), (Nat.le_of_ble_eq_true rfl)⟩) (xPV C w [0] rfl (by decide) (ci := 10) (q0 := 0) rfl rfl) rfl rfl hl.1 rfl (lv_room (Nat.le_of_ble_eq_true rfl)) dX6_rangeUse_12 ⟨(Nat.le_of_ble_eq_true rfl), (Nat.le_of_ble_eq_true rfl)⟩) (fun f2724 H locs w => ?_)
  have w : xW G A s [(h1, .inr (3, [.int 0, .ref (sv 0), .int 0])), (h0, .inr (10, [.ref h1, .ref h2, .ref h3, .ref h4, .ref h5, .ref h6, .ref h7, .int 0, .int 0]))] H _ := w
  refine lv_if_eq (tgt := 23) C.1 C.2.1 dX6_rangeUse_15 (by decide) (fun _ => ?_) (fun c9 => absurd (by decide) c9)
  refine lv_aload_n C.1 C.2.1 dX6_rangeUse_23 rfl (lv_at hl 0 rfl) ?_
  refine lv_iload_n C.1 C.2.1 dX6_rangeUse_24 rfl (lv_at hl 1 rfl) ?_
  refine lv_iload_n C.1 C.2.1 dX6_rangeUse_25 rfl (lv_at hl 2 rfl) ?_
  refine x_kr C w [1, 0] [] rfl rfl (by decide) (by decide) (va_runV (As := [.int v0, .int v1]) (rest := []) (xfix C) (c298_X6_range l G cy sa sv h0 h1 h2 h3 h4 h5 h6 h7 v0 v1 (xtr C) _) (cwV 2 (xhts C) (xgV (maxL := 0) (cc := ⟨#[]⟩) (ret := none) gw_670 gw_671 gw_672 gw_58 gc_X6_range) rfl rfl rfl (by decide +kernel) ⟨(Nat.le_of_ble_eq_true rfl), (Nat.le_of_ble_eq_true rfl)⟩) (xPV C w [1, 0] rfl (by decide) (ci := 10) (q0 := 1) rfl rfl) rfl rfl hl.1 rfl (lv_room (Nat.le_of_ble_eq_true rfl)) dX6_rangeUse_26 ⟨(Nat.le_of_ble_eq_true rfl), (Nat.le_of_ble_eq_true rfl)⟩) (fun f2733 H locs w => ?_)
  have w : xW G A s [(h0, .inr (10, [.ref h1, .ref h2, .ref h3, .ref h4, .ref h5, .ref h6, .ref h7, .int 0, .int 0])), (h1, .inr (3, [.int 0, .ref (sv 0), .int 0])), ((f2733 0), .inr (3, [.int 0, .ref (sv 0), .int 0]))] H _ := w
  refine W.widen (k := 1) (n := 3) (Nat.le_of_ble_eq_true rfl) (Nat.le_of_ble_eq_true rfl) ?_
  refine x_kr C w [2] [0, 1] rfl rfl (by decide) (by decide) (va_runS (As := [.ref (f2733 0)]) (rest := []) (xfix C) (c407_X6_usesOf l G cy sa sv (f2733 0) (xtr C) _) (va_cwS 1 (xhts C) (xgS gw_773 gw_774 gw_58 gc_X6_usesOf) rfl rfl rfl (by decide +kernel) ⟨(Nat.le_of_ble_eq_true rfl), (Nat.le_of_ble_eq_true rfl)⟩) (xPS C w [2] rfl (by decide)) rfl rfl hl.1 rfl (lv_room (Nat.le_of_ble_eq_true rfl)) dX6_rangeUse_29 ⟨(Nat.le_of_ble_eq_true rfl), (Nat.le_of_ble_eq_true rfl)⟩) (fun f2739 H locs w => ?_)
  have w : xW G A s [(h0, .inr (10, [.ref h1, .ref h2, .ref h3, .ref h4, .ref h5, .ref h6, .ref h7, .int 0, .int 0])), (h1, .inr (3, [.int 0, .ref (sv 0), .int 0])), ((f2733 0), .inr (3, [.int 0, .ref (sv 0), .int 0]))] H _ := w
  refine W.widen (k := 2) (n := 3) (Nat.le_of_ble_eq_true rfl) (Nat.le_of_ble_eq_true rfl) ?_
  have w := w.sub (ws' := [(h0, .inr (10, [.ref h1, .ref h2, .ref h3, .ref h4, .ref h5, .ref h6, .ref h7, .int 0, .int 0])), (h1, .inr (3, [.int 0, .ref (sv 0), .int 0]))]) [0, 1] (by decide) rfl rfl
  exact x_aret C w hr (Or.inl ⟨_, rfl⟩) (fun _ => 0) rfl rfl dX6_rangeUse_32 (Nat.le_of_ble_eq_true rfl) (Nat.le_of_ble_eq_true rfl)
