set_option maxHeartbeats 4000000 in
set_option maxRecDepth 100000 in
theorem c545_L_ofPager (l : Launch) (G : va_G) (cy : Nat → ClassId) (sa : String → Nat → Nat) (sv : Nat → Nat) (h0 h1 h2 h3 h4 h5 h6 h7 h8 h9 h10 h11 : Nat) : xM l G cy sa sv yL_ofPager (Cond.codeWith yL_ofPager cL_ofPager 5 (some .int) [(0, 11, 14, 91), (0, 11, 18, 19)] :: XG) { frames := 10, cells := 0, slots := 0, locals := 294 } [.ref h0, .int 2, .int 0, .ref h1] [(h0, .inr (8, [.ref h4, .ref h5, .ref h6, .ref h7, .ref h2, .int 0, .ref h8, .ref h9])), (h2, .inl (cy 3, 3, .inr (.inr (.inr (.inr (va_up (va_up (va_up (fun _ => none) 0 (some h10)) 1 (some h11)) 2 (some h3))))))), (h3, .inr (4, [.int 0, .int 0, .int 0])), (h1, .inr (9, [.long 0, .null]))] (xQi G (fun f => [(h0, .inr (8, [.ref h4, .ref h5, .ref h6, .ref h7, .ref h2, .int 0, .ref h8, .ref h9])), (h2, .inl (cy 3, 3, .inr (.inr (.inr (.inr (va_up (va_up (va_up (fun _ => none) 0 (some h10)) 1 (some h11)) 2 (some h3))))))), (h3, .inr (4, [.int 0, .int 0, .int 0])), (h1, .inr (9, [.long 0, .null]))]) 0) := by
  refine xofH (by decide) (Nat.le_of_ble_eq_true rfl) (fun p e s m below meth c A C w hr hn hT ls hl => ?_)
  have hl : lv_has ls 5 [(0, .ref h0), (1, .int 2), (2, .int 0), (3, .ref h1)] := hl
  refine lv_aload_n C.1 C.2.1 dL_ofPager_0 rfl (lv_at hl 3 rfl) ?_
  refine lv_aload_n C.1 C.2.1 dL_ofPager_1 rfl (lv_at hl 0 rfl) ?_
  refine lv_iload_n C.1 C.2.1 dL_ofPager_2 rfl (lv_at hl 1 rfl) ?_
  refine lv_iload_n C.1 C.2.1 dL_ofPager_3 rfl (lv_at hl 2 rfl) ?_
  refine x_ki C w [0, 1, 2] [3] rfl rfl (by decide) (by decide) (va_runV (As := [.int 2, .int 0]) (rest := [.ref h1]) (xfix C) (c544_X4_ofPager l G cy sa sv h0 h2 h3 h4 h5 h6 h7 h8 h9 h10 h11 (xtr C) _) (cwV 2 (xhts C) (xgV (maxL := 0) (cc := ⟨#[]⟩) (ret := none) gw_897 gw_898 gw_899 gw_2 gc_X4_ofPager) rfl rfl rfl (by decide +kernel) ⟨(Nat.le_of_ble_eq_true rfl), (Nat.le_of_ble_eq_true rfl)⟩) (xPV C w [0, 1, 2] rfl (by decide) (ci := 8) (q0 := 0) rfl rfl) rfl rfl hl.1 rfl (lv_room (Nat.le_of_ble_eq_true rfl)) dL_ofPager_4 ⟨(Nat.le_of_ble_eq_true rfl), (Nat.le_of_ble_eq_true rfl)⟩) (fun f3872 H locs w => ?_)
  have w : xW G A s [(h1, .inr (9, [.long 0, .null])), (h0, .inr (8, [.ref h4, .ref h5, .ref h6, .ref h7, .ref h2, .int 0, .ref h8, .ref h9])), (h2, .inl (cy 3, 3, .inr (.inr (.inr (.inr (va_up (va_up (va_up (fun _ => none) 0 (some h10)) 1 (some h11)) 2 (some h3))))))), (h3, .inr (4, [.int 0, .int 0, .int 0]))] H _ := w
  refine lv_i2l (v := 0) C.1 C.2.1 dL_ofPager_7 (by decide) ?_
  refine x_putN (ty := .long) (ty0 := tyX5) C w 0 9 0 (xin_X5 _) tyX5_ok nmX5 rfl rfl (by decide) (xs_f_n (xS C)) rfl rfl (by decide +kernel) rfl rfl (Nat.le_of_ble_eq_true rfl) dL_ofPager_8 (fun H locs w => ?_)
  have w : xW G A s [(h1, .inr (9, [.long 0, .null])), (h0, .inr (8, [.ref h4, .ref h5, .ref h6, .ref h7, .ref h2, .int 0, .ref h8, .ref h9])), (h2, .inl (cy 3, 3, .inr (.inr (.inr (.inr (va_up (va_up (va_up (fun _ => none) 0 (some h10)) 1 (some h11)) 2 (some h3))))))), (h3, .inr (4, [.int 0, .int 0, .int 0]))] H _ := w
  refine lv_goto (tgt := 22) C.1 C.2.1 dL_ofPager_11 (by decide) ?_
  refine lv_iconst (v := 0) C.1 C.2.1 dL_ofPager_22 (by decide) ?_
  have w := w.sub (ws' := [(h0, .inr (8, [.ref h4, .ref h5, .ref h6, .ref h7, .ref h2, .int 0, .ref h8, .ref h9])), (h2, .inl (cy 3, 3, .inr (.inr (.inr (.inr (va_up (va_up (va_up (fun _ => none) 0 (some h10)) 1 (some h11)) 2 (some h3))))))), (h3, .inr (4, [.int 0, .int 0, .int 0])), (h1, .inr (9, [.long 0, .null]))]) [1, 2, 3, 0] (by decide) rfl rfl
  exact x_iret C w hr (fun _ => 0) rfl rfl dL_ofPager_23 (Nat.le_of_ble_eq_true rfl) (Nat.le_of_ble_eq_true rfl)
set_option maxHeartbeats 4000000 in
set_option maxRecDepth 100000 in
theorem c546_X6_pagerNow (l : Launch) (G : va_G) (cy : Nat → ClassId) (sa : String → Nat → Nat) (sv : Nat → Nat) (h0 h1 h2 h3 h4 h5 h6 h7 : Nat) : xM l G cy sa sv yX6_pagerNow (Cond.code yX6_pagerNow cX6_pagerNow 3 (some .int) :: XG) { frames := 8, cells := 0, slots := 0, locals := 250 } [.ref h0, .int 2, .int 0] [(h0, .inr (10, [.ref h2, .ref h3, .ref h4, .ref h5, .ref h6, .ref h7, .ref h1, .int 0, .int 0])), (h1, .inl (cy 1, 3, .inl (fun _ => 0)))] (xQi G (fun f => [(h0, .inr (10, [.ref h2, .ref h3, .ref h4, .ref h5, .ref h6, .ref h7, .ref h1, .int 0, .int 0])), (h1, .inl (cy 1, 3, .inl (fun _ => 0)))]) 0) := by
  refine xof (by decide) (Nat.le_of_ble_eq_true rfl) (fun p e s m below meth c A C w hr hn ls hl => ?_)
  have hl : lv_has ls 3 [(0, .ref h0), (1, .int 2), (2, .int 0)] := hl
  refine lv_iload_n C.1 C.2.1 dX6_pagerNow_0 rfl (lv_at hl 2 rfl) ?_
  refine lv_if_ne (tgt := 13) C.1 C.2.1 dX6_pagerNow_1 (by decide) (fun c9 => absurd (by decide) c9) (fun _ => ?_)
  refine lv_aload_n C.1 C.2.1 dX6_pagerNow_4 rfl (lv_at hl 0 rfl) ?_
  refine x_get (v := .ref h1) C w 0 10 6 (xin_X6 _) rfl rfl (by decide) (List.mem_cons_of_mem _ gw_85) rfl rfl dX6_pagerNow_5 ?_
  refine lv_iload_n C.1 C.2.1 dX6_pagerNow_8 rfl (lv_at hl 1 rfl) ?_
  refine x_iald (v := 0) C w 1 1 rfl rfl (xvin (by decide)) (by rfl) dX6_pagerNow_9 ?_
  refine lv_goto (tgt := 50) C.1 C.2.1 dX6_pagerNow_10 (by decide) ?_
  exact x_iret C w hr (fun _ => 0) rfl rfl dX6_pagerNow_50 (Nat.le_of_ble_eq_true rfl) (Nat.le_of_ble_eq_true rfl)
set_option maxHeartbeats 4000000 in
set_option maxRecDepth 100000 in
theorem c547_X6_ofPager (l : Launch) (G : va_G) (cy : Nat → ClassId) (sa : String → Nat → Nat) (sv : Nat → Nat) (h0 h1 h2 h3 h4 h5 h6 h7 : Nat) : xM l G cy sa sv yX6_ofPager (Cond.code yX6_ofPager cX6_ofPager 3 (some .int) :: XG) { frames := 9, cells := 0, slots := 0, locals := 272 } [.ref h0, .int 2, .int 0] [(h0, .inr (10, [.ref h2, .ref h3, .ref h4, .ref h5, .ref h6, .ref h7, .ref h1, .int 0, .int 0])), (h1, .inl (cy 1, 3, .inl (fun _ => 0)))] (xQi G (fun f => [(h0, .inr (10, [.ref h2, .ref h3, .ref h4, .ref h5, .ref h6, .ref h7, .ref h1, .int 0, .int 0])), (h1, .inl (cy 1, 3, .inl (fun _ => 0)))]) 0) := by
  refine xof (by decide) (Nat.le_of_ble_eq_true rfl) (fun p e s m below meth c A C w hr hn ls hl => ?_)
  have hl : lv_has ls 3 [(0, .ref h0), (1, .int 2), (2, .int 0)] := hl
  refine lv_aload_n C.1 C.2.1 dX6_ofPager_0 rfl (lv_at hl 0 rfl) ?_
  refine lv_iload_n C.1 C.2.1 dX6_ofPager_1 rfl (lv_at hl 1 rfl) ?_
  refine x_ki C w [] [0, 1] rfl rfl (by decide) (by decide) (va_runS (As := [.int 2]) (rest := [.ref h0]) (xfix C) (c460_X6_isNoPager l G cy sa sv (xtr C) _) (va_cwS 1 (xhts C) (xgS gw_860 gw_861 gw_58 gc_X6_isNoPager) rfl rfl rfl (by decide +kernel) ⟨(Nat.le_of_ble_eq_true rfl), (Nat.le_of_ble_eq_true rfl)⟩) (xPS C w [] rfl (by decide)) rfl rfl hl.1 rfl (lv_room (Nat.le_of_ble_eq_true rfl)) dX6_ofPager_2 ⟨(Nat.le_of_ble_eq_true rfl), (Nat.le_of_ble_eq_true rfl)⟩) (fun f3874 H locs w => ?_)
  have w : xW G A s [(h0, .inr (10, [.ref h2, .ref h3, .ref h4, .ref h5, .ref h6, .ref h7, .ref h1, .int 0, .int 0])), (h1, .inl (cy 1, 3, .inl (fun _ => 0)))] H _ := w
  refine lv_iconst (v := 1) C.1 C.2.1 dX6_ofPager_5 (by decide) ?_
  refine x_ki C w [0] [1] rfl rfl (by decide) (by decide) (va_runV (As := [.int 0, .int 1]) (rest := []) (xfix C) (c46_X6_start l G cy sa sv h0 h2 h3 h4 h5 h6 h7 h1 (xtr C) _) (cwV 2 (xhts C) (xgV (maxL := 0) (cc := ⟨#[]⟩) (ret := none) gw_114 gw_115 gw_116 gw_58 gc_X6_start) rfl rfl rfl (by decide +kernel) ⟨(Nat.le_of_ble_eq_true rfl), (Nat.le_of_ble_eq_true rfl)⟩) (xPV C w [0] rfl (by decide) (ci := 10) (q0 := 0) rfl rfl) rfl rfl hl.1 rfl (lv_room (Nat.le_of_ble_eq_true rfl)) dX6_ofPager_6 ⟨(Nat.le_of_ble_eq_true rfl), (Nat.le_of_ble_eq_true rfl)⟩) (fun f3875 H locs w => ?_)
  have w : xW G A s [(h1, .inl (cy 1, 3, .inl (fun _ => 0))), (h0, .inr (10, [.ref h2, .ref h3, .ref h4, .ref h5, .ref h6, .ref h7, .ref h1, .int 0, .int 0]))] H _ := w
  refine lv_if_ne (tgt := 34) C.1 C.2.1 dX6_ofPager_9 (by decide) (fun c9 => absurd (by decide) c9) (fun _ => ?_)
  refine lv_aload_n C.1 C.2.1 dX6_ofPager_12 rfl (lv_at hl 0 rfl) ?_
  refine lv_iload_n C.1 C.2.1 dX6_ofPager_13 rfl (lv_at hl 2 rfl) ?_
  refine lv_if_lt (tgt := 22) C.1 C.2.1 dX6_ofPager_14 (by decide) (fun c9 => absurd c9 (by decide)) (fun _ => ?_)
  refine lv_iload_n C.1 C.2.1 dX6_ofPager_17 rfl (lv_at hl 2 rfl) ?_
  refine lv_iconst (v := 3) C.1 C.2.1 dX6_ofPager_18 (by decide) ?_
  refine lv_icmp_le (tgt := 26) C.1 C.2.1 dX6_ofPager_19 (by decide) (fun _ => ?_) (fun c9 => absurd (by decide) c9)
  refine lv_iconst (v := 0) C.1 C.2.1 dX6_ofPager_26 (by decide) ?_
  refine lv_iconst (v := 2) C.1 C.2.1 dX6_ofPager_27 (by decide) ?_
  refine x_ki C w [] [0, 1] rfl rfl (by decide) (by decide) (va_runV (As := [.int 0, .int 2]) (rest := []) (xfix C) (c49_X6_fails l G cy sa sv h0 (xtr C) _) (cwV 2 (xhts C) (xgV (maxL := 0) (cc := ⟨#[]⟩) (ret := none) gw_203 gw_204 gw_205 gw_58 gc_X6_fails) rfl rfl rfl (by decide +kernel) ⟨(Nat.le_of_ble_eq_true rfl), (Nat.le_of_ble_eq_true rfl)⟩) (xPV C w [] rfl (by decide) (ci := 10) (q0 := 1) rfl rfl) rfl rfl hl.1 rfl (lv_room (Nat.le_of_ble_eq_true rfl)) dX6_ofPager_28 ⟨(Nat.le_of_ble_eq_true rfl), (Nat.le_of_ble_eq_true rfl)⟩) (fun f3876 H locs w => ?_)
  have w : xW G A s [(h1, .inl (cy 1, 3, .inl (fun _ => 0))), (h0, .inr (10, [.ref h2, .ref h3, .ref h4, .ref h5, .ref h6, .ref h7, .ref h1, .int 0, .int 0]))] H _ := w
  refine lv_if_eq (tgt := 38) C.1 C.2.1 dX6_ofPager_31 (by decide) (fun _ => ?_) (fun c9 => absurd (by decide) c9)
  refine lv_aload_n C.1 C.2.1 dX6_ofPager_38 rfl (lv_at hl 0 rfl) ?_
  refine lv_iload_n C.1 C.2.1 dX6_ofPager_39 rfl (lv_at hl 1 rfl) ?_
  refine lv_iload_n C.1 C.2.1 dX6_ofPager_40 rfl (lv_at hl 2 rfl) ?_
  refine x_ki C w [1, 0] [] rfl rfl (by decide) (by decide) (va_runV (As := [.int 2, .int 0]) (rest := []) (xfix C) (c546_X6_pagerNow l G cy sa sv h0 h1 h2 h3 h4 h5 h6 h7 (xtr C) _) (cwV 2 (xhts C) (xgV (maxL := 0) (cc := ⟨#[]⟩) (ret := none) gw_904 gw_905 gw_906 gw_58 gc_X6_pagerNow) rfl rfl rfl (by decide +kernel) ⟨(Nat.le_of_ble_eq_true rfl), (Nat.le_of_ble_eq_true rfl)⟩) (xPV C w [1, 0] rfl (by decide) (ci := 10) (q0 := 1) rfl rfl) rfl rfl hl.1 rfl (lv_room (Nat.le_of_ble_eq_true rfl)) dX6_ofPager_41 ⟨(Nat.le_of_ble_eq_true rfl), (Nat.le_of_ble_eq_true rfl)⟩) (fun f3877 H locs w => ?_)
  have w : xW G A s [(h0, .inr (10, [.ref h2, .ref h3, .ref h4, .ref h5, .ref h6, .ref h7, .ref h1, .int 0, .int 0])), (h1, .inl (cy 1, 3, .inl (fun _ => 0)))] H _ := w
  exact x_iret C w hr (fun _ => 0) rfl rfl dX6_ofPager_44 (Nat.le_of_ble_eq_true rfl) (Nat.le_of_ble_eq_true rfl)
set_option maxHeartbeats 4000000 in
set_option maxRecDepth 100000 in
theorem c548_X4_ofPager (l : Launch) (G : va_G) (cy : Nat → ClassId) (sa : String → Nat → Nat) (sv : Nat → Nat) (h0 h1 h2 h3 h4 h5 h6 h7 h8 h9 h10 h11 h12 h13 : Nat) : xM l G cy sa sv yX4_ofPager (Cond.code yX4_ofPager cX4_ofPager 4 (some .int) :: XG) { frames := 10, cells := 0, slots := 0, locals := 290 } [.ref h0, .int 2, .int 1] [(h0, .inr (8, [.ref h2, .ref h5, .ref h6, .ref h7, .ref h1, .int 0, .ref h8, .ref h9])), (h1, .inl (cy 3, 3, .inr (.inr (.inr (.inr (va_up (va_up (va_up (fun _ => none) 0 (some h10)) 1 (some h11)) 2 (some h4))))))), (h2, .inr (7, [.ref h3, .ref h12])), (h3, .inr (6, [.ref h13, .int 0])), (h4, .inr (4, [.int 0, .int 0, .int 0]))] (xQi G (fun f => [(h0, .inr (8, [.ref h2, .ref h5, .ref h6, .ref h7, .ref h1, .int 0, .ref h8, .ref h9])), (h1, .inl (cy 3, 3, .inr (.inr (.inr (.inr (va_up (va_up (va_up (fun _ => none) 0 (some h10)) 1 (some h11)) 2 (some h4))))))), (h2, .inr (7, [.ref h3, .ref h12])), (h3, .inr (6, [.ref h13, .int 0])), (h4, .inr (4, [.int 0, .int 0, .int 0]))]) 0) := by
  refine xof (by decide) (Nat.le_of_ble_eq_true rfl) (fun p e s m below meth c A C w hr hn ls hl => ?_)
  have hl : lv_has ls 4 [(0, .ref h0), (1, .int 2), (2, .int 1)] := hl
  refine lv_aload_n C.1 C.2.1 dX4_ofPager_0 rfl (lv_at hl 0 rfl) ?_
  refine lv_iload_n C.1 C.2.1 dX4_ofPager_1 rfl (lv_at hl 1 rfl) ?_
  refine x_kr C w [0, 1] [2, 3, 4] rfl rfl (by decide) (by decide) (va_runV (As := [.int 2]) (rest := []) (xfix C) (c457_X4_pagerOf l G cy sa sv h0 h1 h2 h5 h6 h7 h8 h9 h10 h11 h4 (xtr C) _) (cwV 1 (xhts C) (xgV (maxL := 0) (cc := ⟨#[]⟩) (ret := none) gw_842 gw_843 gw_844 gw_2 gc_X4_pagerOf) rfl rfl rfl (by decide +kernel) ⟨(Nat.le_of_ble_eq_true rfl), (Nat.le_of_ble_eq_true rfl)⟩) (xPV C w [0, 1] rfl (by decide) (ci := 8) (q0 := 0) rfl rfl) rfl rfl hl.1 rfl (lv_room (Nat.le_of_ble_eq_true rfl)) dX4_ofPager_2 ⟨(Nat.le_of_ble_eq_true rfl), (Nat.le_of_ble_eq_true rfl)⟩) (fun f3884 H locs w => ?_)
  have w : xW G A s [(h2, .inr (7, [.ref h3, .ref h12])), (h3, .inr (6, [.ref h13, .int 0])), (h4, .inr (4, [.int 0, .int 0, .int 0])), (h0, .inr (8, [.ref h2, .ref h5, .ref h6, .ref h7, .ref h1, .int 0, .ref h8, .ref h9])), (h1, .inl (cy 3, 3, .inr (.inr (.inr (.inr (va_up (va_up (va_up (fun _ => none) 0 (some h10)) 1 (some h11)) 2 (some h4)))))))] H _ := w
  refine lv_astore_n (lv' := [(3, .ref h4), (0, .ref h0), (1, .int 2), (2, .int 1)]) C.1 C.2.1 dX4_ofPager_5 rfl hl (by decide) rfl (fun ls hl => ?_)
  refine lv_iload_n C.1 C.2.1 dX4_ofPager_6 rfl (lv_at hl 3 rfl) ?_
  refine lv_tableIn (off := 34) (tgt := 41) C.1 C.2.1 dX4_ofPager_7 (by decide) (by decide) (by decide) (by decide) ?_
  refine lv_aload_n C.1 C.2.1 dX4_ofPager_41 rfl (lv_at hl 1 rfl) ?_
  refine x_get (v := .ref h2) C w 3 8 0 (xin_X4 _) rfl rfl (by decide) (List.mem_cons_of_mem _ gw_24) rfl rfl dX4_ofPager_42 ?_
  refine x_ki C w [0, 1] [2, 3, 4] rfl rfl (by decide) (by decide) (va_runV (As := []) (rest := []) (xfix C) (c22_X3_count l G cy sa sv h2 h3 h12 h13 (xtr C) _) (cwV 0 (xhts C) (xgV (maxL := 0) (cc := ⟨#[]⟩) (ret := none) gw_130 gw_131 gw_132 gw_7 gc_X3_count) rfl rfl rfl (by decide +kernel) ⟨(Nat.le_of_ble_eq_true rfl), (Nat.le_of_ble_eq_true rfl)⟩) (xPV C w [0, 1] rfl (by decide) (ci := 7) (q0 := 0) rfl rfl) rfl rfl hl.1 rfl (lv_room (Nat.le_of_ble_eq_true rfl)) dX4_ofPager_45 ⟨(Nat.le_of_ble_eq_true rfl), (Nat.le_of_ble_eq_true rfl)⟩) (fun f3886 H locs w => ?_)
  have w : xW G A s [(h4, .inr (4, [.int 0, .int 0, .int 0])), (h0, .inr (8, [.ref h2, .ref h5, .ref h6, .ref h7, .ref h1, .int 0, .ref h8, .ref h9])), (h1, .inl (cy 3, 3, .inr (.inr (.inr (.inr (va_up (va_up (va_up (fun _ => none) 0 (some h10)) 1 (some h11)) 2 (some h4))))))), (h2, .inr (7, [.ref h3, .ref h12])), (h3, .inr (6, [.ref h13, .int 0]))] H _ := w
  refine lv_aload_n C.1 C.2.1 dX4_ofPager_48 rfl (lv_at hl 0 rfl) ?_
  refine lv_aload_n C.1 C.2.1 dX4_ofPager_49 rfl (lv_at hl 1 rfl) ?_
  refine x_get (v := .ref h2) C w 1 8 0 (xin_X4 _) rfl rfl (by decide) (List.mem_cons_of_mem _ gw_24) rfl rfl dX4_ofPager_50 ?_
  refine x_ki C w [0] [1, 2, 3, 4] rfl rfl (by decide) (by decide) (va_runV (As := [.ref h2]) (rest := [.int 0]) (xfix C) (c475_X0_startIn l G cy sa sv h4 h2 (xtr C) _) (cwV 1 (xhts C) (xgV (maxL := 0) (cc := ⟨#[]⟩) (ret := none) gw_881 gw_882 gw_883 gw_46 gc_X0_startIn) rfl rfl rfl (by decide +kernel) ⟨(Nat.le_of_ble_eq_true rfl), (Nat.le_of_ble_eq_true rfl)⟩) (xPV C w [0] rfl (by decide) (ci := 4) (q0 := 0) rfl rfl) rfl rfl hl.1 rfl (lv_room (Nat.le_of_ble_eq_true rfl)) dX4_ofPager_53 ⟨(Nat.le_of_ble_eq_true rfl), (Nat.le_of_ble_eq_true rfl)⟩) (fun f3887 H locs w => ?_)
  have w : xW G A s [(h0, .inr (8, [.ref h2, .ref h5, .ref h6, .ref h7, .ref h1, .int 0, .ref h8, .ref h9])), (h1, .inl (cy 3, 3, .inr (.inr (.inr (.inr (va_up (va_up (va_up (fun _ => none) 0 (some h10)) 1 (some h11)) 2 (some h4))))))), (h2, .inr (7, [.ref h3, .ref h12])), (h3, .inr (6, [.ref h13, .int 0])), (h4, .inr (4, [.int 0, .int 0, .int 0]))] H _ := w
  refine lv_isub C.1 C.2.1 dX4_ofPager_56 ?_
  refine x_is (y := 0) (by decide) ?_
  exact x_iret C w hr (fun _ => 0) rfl rfl dX4_ofPager_57 (Nat.le_of_ble_eq_true rfl) (Nat.le_of_ble_eq_true rfl)
set_option maxHeartbeats 4000000 in
set_option maxRecDepth 100000 in
theorem c549_L_ofPager (l : Launch) (G : va_G) (cy : Nat → ClassId) (sa : String → Nat → Nat) (sv : Nat → Nat) (h0 h1 h2 h3 h4 h5 h6 h7 h8 h9 h10 h11 h12 h13 h14 : Nat) : xM l G cy sa sv yL_ofPager (Cond.codeWith yL_ofPager cL_ofPager 5 (some .int) [(0, 11, 14, 91), (0, 11, 18, 19)] :: XG) { frames := 11, cells := 0, slots := 0, locals := 313 } [.ref h0, .int 2, .int 1, .ref h1] [(h0, .inr (8, [.ref h3, .ref h6, .ref h7, .ref h8, .ref h2, .int 0, .ref h9, .ref h10])), (h2, .inl (cy 3, 3, .inr (.inr (.inr (.inr (va_up (va_up (va_up (fun _ => none) 0 (some h11)) 1 (some h12)) 2 (some h5))))))), (h3, .inr (7, [.ref h4, .ref h13])), (h4, .inr (6, [.ref h14, .int 0])), (h5, .inr (4, [.int 0, .int 0, .int 0])), (h1, .inr (9, [.long 0, .null]))] (xQi G (fun f => [(h0, .inr (8, [.ref h3, .ref h6, .ref h7, .ref h8, .ref h2, .int 0, .ref h9, .ref h10])), (h2, .inl (cy 3, 3, .inr (.inr (.inr (.inr (va_up (va_up (va_up (fun _ => none) 0 (some h11)) 1 (some h12)) 2 (some h5))))))), (h3, .inr (7, [.ref h4, .ref h13])), (h4, .inr (6, [.ref h14, .int 0])), (h5, .inr (4, [.int 0, .int 0, .int 0])), (h1, .inr (9, [.long 0, .null]))]) 0) := by
  refine xofH (by decide) (Nat.le_of_ble_eq_true rfl) (fun p e s m below meth c A C w hr hn hT ls hl => ?_)
  have hl : lv_has ls 5 [(0, .ref h0), (1, .int 2), (2, .int 1), (3, .ref h1)] := hl
  refine lv_aload_n C.1 C.2.1 dL_ofPager_0 rfl (lv_at hl 3 rfl) ?_
  refine lv_aload_n C.1 C.2.1 dL_ofPager_1 rfl (lv_at hl 0 rfl) ?_
  refine lv_iload_n C.1 C.2.1 dL_ofPager_2 rfl (lv_at hl 1 rfl) ?_
  refine lv_iload_n C.1 C.2.1 dL_ofPager_3 rfl (lv_at hl 2 rfl) ?_
  refine x_ki C w [0, 1, 2, 3, 4] [5] rfl rfl (by decide) (by decide) (va_runV (As := [.int 2, .int 1]) (rest := [.ref h1]) (xfix C) (c548_X4_ofPager l G cy sa sv h0 h2 h3 h4 h5 h6 h7 h8 h9 h10 h11 h12 h13 h14 (xtr C) _) (cwV 2 (xhts C) (xgV (maxL := 0) (cc := ⟨#[]⟩) (ret := none) gw_897 gw_898 gw_899 gw_2 gc_X4_ofPager) rfl rfl rfl (by decide +kernel) ⟨(Nat.le_of_ble_eq_true rfl), (Nat.le_of_ble_eq_true rfl)⟩) (xPV C w [0, 1, 2, 3, 4] rfl (by decide) (ci := 8) (q0 := 0) rfl rfl) rfl rfl hl.1 rfl (lv_room (Nat.le_of_ble_eq_true rfl)) dL_ofPager_4 ⟨(Nat.le_of_ble_eq_true rfl), (Nat.le_of_ble_eq_true rfl)⟩) (fun f3888 H locs w => ?_)
  have w : xW G A s [(h1, .inr (9, [.long 0, .null])), (h0, .inr (8, [.ref h3, .ref h6, .ref h7, .ref h8, .ref h2, .int 0, .ref h9, .ref h10])), (h2, .inl (cy 3, 3, .inr (.inr (.inr (.inr (va_up (va_up (va_up (fun _ => none) 0 (some h11)) 1 (some h12)) 2 (some h5))))))), (h3, .inr (7, [.ref h4, .ref h13])), (h4, .inr (6, [.ref h14, .int 0])), (h5, .inr (4, [.int 0, .int 0, .int 0]))] H _ := w
  refine lv_i2l (v := 0) C.1 C.2.1 dL_ofPager_7 (by decide) ?_
  refine x_putN (ty := .long) (ty0 := tyX5) C w 0 9 0 (xin_X5 _) tyX5_ok nmX5 rfl rfl (by decide) (xs_f_n (xS C)) rfl rfl (by decide +kernel) rfl rfl (Nat.le_of_ble_eq_true rfl) dL_ofPager_8 (fun H locs w => ?_)
  have w : xW G A s [(h1, .inr (9, [.long 0, .null])), (h0, .inr (8, [.ref h3, .ref h6, .ref h7, .ref h8, .ref h2, .int 0, .ref h9, .ref h10])), (h2, .inl (cy 3, 3, .inr (.inr (.inr (.inr (va_up (va_up (va_up (fun _ => none) 0 (some h11)) 1 (some h12)) 2 (some h5))))))), (h3, .inr (7, [.ref h4, .ref h13])), (h4, .inr (6, [.ref h14, .int 0])), (h5, .inr (4, [.int 0, .int 0, .int 0]))] H _ := w
  refine lv_goto (tgt := 22) C.1 C.2.1 dL_ofPager_11 (by decide) ?_
  refine lv_iconst (v := 0) C.1 C.2.1 dL_ofPager_22 (by decide) ?_
  have w := w.sub (ws' := [(h0, .inr (8, [.ref h3, .ref h6, .ref h7, .ref h8, .ref h2, .int 0, .ref h9, .ref h10])), (h2, .inl (cy 3, 3, .inr (.inr (.inr (.inr (va_up (va_up (va_up (fun _ => none) 0 (some h11)) 1 (some h12)) 2 (some h5))))))), (h3, .inr (7, [.ref h4, .ref h13])), (h4, .inr (6, [.ref h14, .int 0])), (h5, .inr (4, [.int 0, .int 0, .int 0])), (h1, .inr (9, [.long 0, .null]))]) [1, 2, 3, 4, 5, 0] (by decide) rfl rfl
  exact x_iret C w hr (fun _ => 0) rfl rfl dL_ofPager_23 (Nat.le_of_ble_eq_true rfl) (Nat.le_of_ble_eq_true rfl)
set_option maxHeartbeats 4000000 in
set_option maxRecDepth 100000 in
theorem c550_X6_pagerNow (l : Launch) (G : va_G) (cy : Nat → ClassId) (sa : String → Nat → Nat) (sv : Nat → Nat) (h0 h1 h2 h3 h4 h5 h6 h7 : Nat) : xM l G cy sa sv yX6_pagerNow (Cond.code yX6_pagerNow cX6_pagerNow 3 (some .int) :: XG) { frames := 14, cells := 4, slots := 10, locals := 378 } [.ref h0, .int 2, .int 1] [(h0, .inr (10, [.ref h1, .ref h2, .ref h3, .ref h4, .ref h5, .ref h6, .ref h7, .int 0, .int 0])), (h1, .inr (3, [.int 0, .ref (sv 0), .int 0]))] (xQi G (fun f => [(h0, .inr (10, [.ref h1, .ref h2, .ref h3, .ref h4, .ref h5, .ref h6, .ref h7, .int 0, .int 0])), (h1, .inr (3, [.int 0, .ref (sv 0), .int 0]))]) 0) := by
  refine xof (by decide) (Nat.le_of_ble_eq_true rfl) (fun p e s m below meth c A C w hr hn ls hl => ?_)
  have hl : lv_has ls 3 [(0, .ref h0), (1, .int 2), (2, .int 1)] := hl
  refine lv_iload_n C.1 C.2.1 dX6_pagerNow_0 rfl (lv_at hl 2 rfl) ?_
  refine lv_if_ne (tgt := 13) C.1 C.2.1 dX6_pagerNow_1 (by decide) (fun _ => ?_) (fun c9 => absurd c9 (by decide))
  refine lv_iload_n C.1 C.2.1 dX6_pagerNow_13 rfl (lv_at hl 2 rfl) ?_
  refine lv_iconst (v := 1) C.1 C.2.1 dX6_pagerNow_14 (by decide) ?_
  refine lv_icmp_ne (tgt := 27) C.1 C.2.1 dX6_pagerNow_15 (by decide) (fun c9 => absurd (by decide) c9) (fun _ => ?_)
  refine lv_aload_n C.1 C.2.1 dX6_pagerNow_18 rfl (lv_at hl 0 rfl) ?_
  refine lv_iload_n C.1 C.2.1 dX6_pagerNow_19 rfl (lv_at hl 1 rfl) ?_
  refine x_kr C w [0, 1] [] rfl rfl (by decide) (by decide) (va_runV (As := [.int 2]) (rest := []) (xfix C) (c500_X6_left l G cy sa sv h0 h1 h2 h3 h4 h5 h6 h7 (xtr C) _) (cwV 1 (xhts C) (xgV (maxL := 0) (cc := ⟨#[]⟩) (ret := none) gw_892 gw_893 gw_894 gw_58 gc_X6_left) rfl rfl rfl (by decide +kernel) ⟨(Nat.le_of_ble_eq_true rfl), (Nat.le_of_ble_eq_true rfl)⟩) (xPV C w [0, 1] rfl (by decide) (ci := 10) (q0 := 0) rfl rfl) rfl rfl hl.1 rfl (lv_room (Nat.le_of_ble_eq_true rfl)) dX6_pagerNow_20 ⟨(Nat.le_of_ble_eq_true rfl), (Nat.le_of_ble_eq_true rfl)⟩) (fun f3948 H locs w => ?_)
  have w : xW G A s [(h0, .inr (10, [.ref h1, .ref h2, .ref h3, .ref h4, .ref h5, .ref h6, .ref h7, .int 0, .int 0])), (h1, .inr (3, [.int 0, .ref (sv 0), .int 0])), ((f3948 0), .inl (cy 1, 0, .inl (fun _ => 0)))] H _ := w
  refine W.widen (k := 4) (n := 10) (Nat.le_of_ble_eq_true rfl) (Nat.le_of_ble_eq_true rfl) ?_
  refine x_alen (v := 0) C w 2 1 rfl rfl (by rfl) dX6_pagerNow_23 ?_
  refine lv_goto (tgt := 50) C.1 C.2.1 dX6_pagerNow_24 (by decide) ?_
  have w := w.sub (ws' := [(h0, .inr (10, [.ref h1, .ref h2, .ref h3, .ref h4, .ref h5, .ref h6, .ref h7, .int 0, .int 0])), (h1, .inr (3, [.int 0, .ref (sv 0), .int 0]))]) [0, 1] (by decide) rfl rfl
  exact x_iret C w hr (fun _ => 0) rfl rfl dX6_pagerNow_50 (Nat.le_of_ble_eq_true rfl) (Nat.le_of_ble_eq_true rfl)
set_option maxHeartbeats 4000000 in
set_option maxRecDepth 100000 in
theorem c551_X6_ofPager (l : Launch) (G : va_G) (cy : Nat → ClassId) (sa : String → Nat → Nat) (sv : Nat → Nat) (h0 h1 h2 h3 h4 h5 h6 h7 : Nat) : xM l G cy sa sv yX6_ofPager (Cond.code yX6_ofPager cX6_ofPager 3 (some .int) :: XG) { frames := 15, cells := 4, slots := 10, locals := 400 } [.ref h0, .int 2, .int 1] [(h0, .inr (10, [.ref h1, .ref h2, .ref h3, .ref h4, .ref h5, .ref h6, .ref h7, .int 0, .int 0])), (h1, .inr (3, [.int 0, .ref (sv 0), .int 0]))] (xQi G (fun f => [(h0, .inr (10, [.ref h1, .ref h2, .ref h3, .ref h4, .ref h5, .ref h6, .ref h7, .int 0, .int 0])), (h1, .inr (3, [.int 0, .ref (sv 0), .int 0]))]) 0) := by
  refine xof (by decide) (Nat.le_of_ble_eq_true rfl) (fun p e s m below meth c A C w hr hn ls hl => ?_)
  have hl : lv_has ls 3 [(0, .ref h0), (1, .int 2), (2, .int 1)] := hl
  refine lv_aload_n C.1 C.2.1 dX6_ofPager_0 rfl (lv_at hl 0 rfl) ?_
  refine lv_iload_n C.1 C.2.1 dX6_ofPager_1 rfl (lv_at hl 1 rfl) ?_
  refine x_ki C w [] [0, 1] rfl rfl (by decide) (by decide) (va_runS (As := [.int 2]) (rest := [.ref h0]) (xfix C) (c460_X6_isNoPager l G cy sa sv (xtr C) _) (va_cwS 1 (xhts C) (xgS gw_860 gw_861 gw_58 gc_X6_isNoPager) rfl rfl rfl (by decide +kernel) ⟨(Nat.le_of_ble_eq_true rfl), (Nat.le_of_ble_eq_true rfl)⟩) (xPS C w [] rfl (by decide)) rfl rfl hl.1 rfl (lv_room (Nat.le_of_ble_eq_true rfl)) dX6_ofPager_2 ⟨(Nat.le_of_ble_eq_true rfl), (Nat.le_of_ble_eq_true rfl)⟩) (fun f3898 H locs w => ?_)
  have w : xW G A s [(h0, .inr (10, [.ref h1, .ref h2, .ref h3, .ref h4, .ref h5, .ref h6, .ref h7, .int 0, .int 0])), (h1, .inr (3, [.int 0, .ref (sv 0), .int 0]))] H _ := w
  refine lv_iconst (v := 1) C.1 C.2.1 dX6_ofPager_5 (by decide) ?_
  refine x_ki C w [0] [1] rfl rfl (by decide) (by decide) (va_runV (As := [.int 0, .int 1]) (rest := []) (xfix C) (c46_X6_start l G cy sa sv h0 h1 h2 h3 h4 h5 h6 h7 (xtr C) _) (cwV 2 (xhts C) (xgV (maxL := 0) (cc := ⟨#[]⟩) (ret := none) gw_114 gw_115 gw_116 gw_58 gc_X6_start) rfl rfl rfl (by decide +kernel) ⟨(Nat.le_of_ble_eq_true rfl), (Nat.le_of_ble_eq_true rfl)⟩) (xPV C w [0] rfl (by decide) (ci := 10) (q0 := 0) rfl rfl) rfl rfl hl.1 rfl (lv_room (Nat.le_of_ble_eq_true rfl)) dX6_ofPager_6 ⟨(Nat.le_of_ble_eq_true rfl), (Nat.le_of_ble_eq_true rfl)⟩) (fun f3899 H locs w => ?_)
  have w : xW G A s [(h1, .inr (3, [.int 0, .ref (sv 0), .int 0])), (h0, .inr (10, [.ref h1, .ref h2, .ref h3, .ref h4, .ref h5, .ref h6, .ref h7, .int 0, .int 0]))] H _ := w
  refine lv_if_ne (tgt := 34) C.1 C.2.1 dX6_ofPager_9 (by decide) (fun c9 => absurd (by decide) c9) (fun _ => ?_)
  refine lv_aload_n C.1 C.2.1 dX6_ofPager_12 rfl (lv_at hl 0 rfl) ?_
  refine lv_iload_n C.1 C.2.1 dX6_ofPager_13 rfl (lv_at hl 2 rfl) ?_
  refine lv_if_lt (tgt := 22) C.1 C.2.1 dX6_ofPager_14 (by decide) (fun c9 => absurd c9 (by decide)) (fun _ => ?_)
  refine lv_iload_n C.1 C.2.1 dX6_ofPager_17 rfl (lv_at hl 2 rfl) ?_
  refine lv_iconst (v := 3) C.1 C.2.1 dX6_ofPager_18 (by decide) ?_
  refine lv_icmp_le (tgt := 26) C.1 C.2.1 dX6_ofPager_19 (by decide) (fun _ => ?_) (fun c9 => absurd (by decide) c9)
  refine lv_iconst (v := 0) C.1 C.2.1 dX6_ofPager_26 (by decide) ?_
  refine lv_iconst (v := 2) C.1 C.2.1 dX6_ofPager_27 (by decide) ?_
  refine x_ki C w [] [0, 1] rfl rfl (by decide) (by decide) (va_runV (As := [.int 0, .int 2]) (rest := []) (xfix C) (c49_X6_fails l G cy sa sv h0 (xtr C) _) (cwV 2 (xhts C) (xgV (maxL := 0) (cc := ⟨#[]⟩) (ret := none) gw_203 gw_204 gw_205 gw_58 gc_X6_fails) rfl rfl rfl (by decide +kernel) ⟨(Nat.le_of_ble_eq_true rfl), (Nat.le_of_ble_eq_true rfl)⟩) (xPV C w [] rfl (by decide) (ci := 10) (q0 := 1) rfl rfl) rfl rfl hl.1 rfl (lv_room (Nat.le_of_ble_eq_true rfl)) dX6_ofPager_28 ⟨(Nat.le_of_ble_eq_true rfl), (Nat.le_of_ble_eq_true rfl)⟩) (fun f3900 H locs w => ?_)
  have w : xW G A s [(h1, .inr (3, [.int 0, .ref (sv 0), .int 0])), (h0, .inr (10, [.ref h1, .ref h2, .ref h3, .ref h4, .ref h5, .ref h6, .ref h7, .int 0, .int 0]))] H _ := w
  refine lv_if_eq (tgt := 38) C.1 C.2.1 dX6_ofPager_31 (by decide) (fun _ => ?_) (fun c9 => absurd (by decide) c9)
  refine lv_aload_n C.1 C.2.1 dX6_ofPager_38 rfl (lv_at hl 0 rfl) ?_
  refine lv_iload_n C.1 C.2.1 dX6_ofPager_39 rfl (lv_at hl 1 rfl) ?_
  refine lv_iload_n C.1 C.2.1 dX6_ofPager_40 rfl (lv_at hl 2 rfl) ?_
  refine x_ki C w [1, 0] [] rfl rfl (by decide) (by decide) (va_runV (As := [.int 2, .int 1]) (rest := []) (xfix C) (c550_X6_pagerNow l G cy sa sv h0 h1 h2 h3 h4 h5 h6 h7 (xtr C) _) (cwV 2 (xhts C) (xgV (maxL := 0) (cc := ⟨#[]⟩) (ret := none) gw_904 gw_905 gw_906 gw_58 gc_X6_pagerNow) rfl rfl rfl (by decide +kernel) ⟨(Nat.le_of_ble_eq_true rfl), (Nat.le_of_ble_eq_true rfl)⟩) (xPV C w [1, 0] rfl (by decide) (ci := 10) (q0 := 1) rfl rfl) rfl rfl hl.1 rfl (lv_room (Nat.le_of_ble_eq_true rfl)) dX6_ofPager_41 ⟨(Nat.le_of_ble_eq_true rfl), (Nat.le_of_ble_eq_true rfl)⟩) (fun f3949 H locs w => ?_)
  have w : xW G A s [(h0, .inr (10, [.ref h1, .ref h2, .ref h3, .ref h4, .ref h5, .ref h6, .ref h7, .int 0, .int 0])), (h1, .inr (3, [.int 0, .ref (sv 0), .int 0]))] H _ := w
  refine W.widen (k := 4) (n := 10) (Nat.le_of_ble_eq_true rfl) (Nat.le_of_ble_eq_true rfl) ?_
  exact x_iret C w hr (fun _ => 0) rfl rfl dX6_ofPager_44 (Nat.le_of_ble_eq_true rfl) (Nat.le_of_ble_eq_true rfl)
set_option maxHeartbeats 4000000 in
set_option maxRecDepth 100000 in
theorem c552_X4_ofPager (l : Launch) (G : va_G) (cy : Nat → ClassId) (sa : String → Nat → Nat) (sv : Nat → Nat) (h0 h1 h2 h3 h4 h5 h6 h7 h8 h9 h10 : Nat) : xM l G cy sa sv yX4_ofPager (Cond.code yX4_ofPager cX4_ofPager 4 (some .int) :: XG) { frames := 9, cells := 0, slots := 0, locals := 271 } [.ref h0, .int 2, .int 2] [(h0, .inr (8, [.ref h3, .ref h4, .ref h5, .ref h6, .ref h1, .int 0, .ref h7, .ref h8])), (h1, .inl (cy 3, 3, .inr (.inr (.inr (.inr (va_up (va_up (va_up (fun _ => none) 0 (some h9)) 1 (some h10)) 2 (some h2))))))), (h2, .inr (4, [.int 0, .int 0, .int 0]))] (xQi G (fun f => [(h0, .inr (8, [.ref h3, .ref h4, .ref h5, .ref h6, .ref h1, .int 0, .ref h7, .ref h8])), (h1, .inl (cy 3, 3, .inr (.inr (.inr (.inr (va_up (va_up (va_up (fun _ => none) 0 (some h9)) 1 (some h10)) 2 (some h2))))))), (h2, .inr (4, [.int 0, .int 0, .int 0]))]) 0) := by
  refine xof (by decide) (Nat.le_of_ble_eq_true rfl) (fun p e s m below meth c A C w hr hn ls hl => ?_)
  have hl : lv_has ls 4 [(0, .ref h0), (1, .int 2), (2, .int 2)] := hl
  refine lv_aload_n C.1 C.2.1 dX4_ofPager_0 rfl (lv_at hl 0 rfl) ?_
  refine lv_iload_n C.1 C.2.1 dX4_ofPager_1 rfl (lv_at hl 1 rfl) ?_
  refine x_kr C w [0, 1] [2] rfl rfl (by decide) (by decide) (va_runV (As := [.int 2]) (rest := []) (xfix C) (c457_X4_pagerOf l G cy sa sv h0 h1 h3 h4 h5 h6 h7 h8 h9 h10 h2 (xtr C) _) (cwV 1 (xhts C) (xgV (maxL := 0) (cc := ⟨#[]⟩) (ret := none) gw_842 gw_843 gw_844 gw_2 gc_X4_pagerOf) rfl rfl rfl (by decide +kernel) ⟨(Nat.le_of_ble_eq_true rfl), (Nat.le_of_ble_eq_true rfl)⟩) (xPV C w [0, 1] rfl (by decide) (ci := 8) (q0 := 0) rfl rfl) rfl rfl hl.1 rfl (lv_room (Nat.le_of_ble_eq_true rfl)) dX4_ofPager_2 ⟨(Nat.le_of_ble_eq_true rfl), (Nat.le_of_ble_eq_true rfl)⟩) (fun f3952 H locs w => ?_)
  have w : xW G A s [(h2, .inr (4, [.int 0, .int 0, .int 0])), (h0, .inr (8, [.ref h3, .ref h4, .ref h5, .ref h6, .ref h1, .int 0, .ref h7, .ref h8])), (h1, .inl (cy 3, 3, .inr (.inr (.inr (.inr (va_up (va_up (va_up (fun _ => none) 0 (some h9)) 1 (some h10)) 2 (some h2)))))))] H _ := w
  refine lv_astore_n (lv' := [(3, .ref h2), (0, .ref h0), (1, .int 2), (2, .int 2)]) C.1 C.2.1 dX4_ofPager_5 rfl hl (by decide) rfl (fun ls hl => ?_)
  refine lv_iload_n C.1 C.2.1 dX4_ofPager_6 rfl (lv_at hl 3 rfl) ?_
  refine lv_tableIn (off := 51) (tgt := 58) C.1 C.2.1 dX4_ofPager_7 (by decide) (by decide) (by decide) (by decide) ?_
  refine lv_aload_n C.1 C.2.1 dX4_ofPager_58 rfl (lv_at hl 0 rfl) ?_
  refine x_getN (v := .int 0) C w 0 4 0 (xin_X0 _) rfl rfl (by decide) (xs_f_isMarked (xS C)) rfl rfl dX4_ofPager_59 ?_
  refine lv_if_eq (tgt := 69) C.1 C.2.1 dX4_ofPager_62 (by decide) (fun _ => ?_) (fun c9 => absurd (by decide) c9)
  refine lv_iconst (v := 0) C.1 C.2.1 dX4_ofPager_69 (by decide) ?_
  have w := w.sub (ws' := [(h0, .inr (8, [.ref h3, .ref h4, .ref h5, .ref h6, .ref h1, .int 0, .ref h7, .ref h8])), (h1, .inl (cy 3, 3, .inr (.inr (.inr (.inr (va_up (va_up (va_up (fun _ => none) 0 (some h9)) 1 (some h10)) 2 (some h2))))))), (h2, .inr (4, [.int 0, .int 0, .int 0]))]) [1, 2, 0] (by decide) rfl rfl
  exact x_iret C w hr (fun _ => 0) rfl rfl dX4_ofPager_70 (Nat.le_of_ble_eq_true rfl) (Nat.le_of_ble_eq_true rfl)
set_option maxHeartbeats 4000000 in
set_option maxRecDepth 100000 in
theorem c553_L_ofPager (l : Launch) (G : va_G) (cy : Nat → ClassId) (sa : String → Nat → Nat) (sv : Nat → Nat) (h0 h1 h2 h3 h4 h5 h6 h7 h8 h9 h10 h11 : Nat) : xM l G cy sa sv yL_ofPager (Cond.codeWith yL_ofPager cL_ofPager 5 (some .int) [(0, 11, 14, 91), (0, 11, 18, 19)] :: XG) { frames := 10, cells := 0, slots := 0, locals := 294 } [.ref h0, .int 2, .int 2, .ref h1] [(h0, .inr (8, [.ref h4, .ref h5, .ref h6, .ref h7, .ref h2, .int 0, .ref h8, .ref h9])), (h2, .inl (cy 3, 3, .inr (.inr (.inr (.inr (va_up (va_up (va_up (fun _ => none) 0 (some h10)) 1 (some h11)) 2 (some h3))))))), (h3, .inr (4, [.int 0, .int 0, .int 0])), (h1, .inr (9, [.long 0, .null]))] (xQi G (fun f => [(h0, .inr (8, [.ref h4, .ref h5, .ref h6, .ref h7, .ref h2, .int 0, .ref h8, .ref h9])), (h2, .inl (cy 3, 3, .inr (.inr (.inr (.inr (va_up (va_up (va_up (fun _ => none) 0 (some h10)) 1 (some h11)) 2 (some h3))))))), (h3, .inr (4, [.int 0, .int 0, .int 0])), (h1, .inr (9, [.long 0, .null]))]) 0) := by
  refine xofH (by decide) (Nat.le_of_ble_eq_true rfl) (fun p e s m below meth c A C w hr hn hT ls hl => ?_)
  have hl : lv_has ls 5 [(0, .ref h0), (1, .int 2), (2, .int 2), (3, .ref h1)] := hl
  refine lv_aload_n C.1 C.2.1 dL_ofPager_0 rfl (lv_at hl 3 rfl) ?_
  refine lv_aload_n C.1 C.2.1 dL_ofPager_1 rfl (lv_at hl 0 rfl) ?_
  refine lv_iload_n C.1 C.2.1 dL_ofPager_2 rfl (lv_at hl 1 rfl) ?_
  refine lv_iload_n C.1 C.2.1 dL_ofPager_3 rfl (lv_at hl 2 rfl) ?_
  refine x_ki C w [0, 1, 2] [3] rfl rfl (by decide) (by decide) (va_runV (As := [.int 2, .int 2]) (rest := [.ref h1]) (xfix C) (c552_X4_ofPager l G cy sa sv h0 h2 h3 h4 h5 h6 h7 h8 h9 h10 h11 (xtr C) _) (cwV 2 (xhts C) (xgV (maxL := 0) (cc := ⟨#[]⟩) (ret := none) gw_897 gw_898 gw_899 gw_2 gc_X4_ofPager) rfl rfl rfl (by decide +kernel) ⟨(Nat.le_of_ble_eq_true rfl), (Nat.le_of_ble_eq_true rfl)⟩) (xPV C w [0, 1, 2] rfl (by decide) (ci := 8) (q0 := 0) rfl rfl) rfl rfl hl.1 rfl (lv_room (Nat.le_of_ble_eq_true rfl)) dL_ofPager_4 ⟨(Nat.le_of_ble_eq_true rfl), (Nat.le_of_ble_eq_true rfl)⟩) (fun f3953 H locs w => ?_)
  have w : xW G A s [(h1, .inr (9, [.long 0, .null])), (h0, .inr (8, [.ref h4, .ref h5, .ref h6, .ref h7, .ref h2, .int 0, .ref h8, .ref h9])), (h2, .inl (cy 3, 3, .inr (.inr (.inr (.inr (va_up (va_up (va_up (fun _ => none) 0 (some h10)) 1 (some h11)) 2 (some h3))))))), (h3, .inr (4, [.int 0, .int 0, .int 0]))] H _ := w
  refine lv_i2l (v := 0) C.1 C.2.1 dL_ofPager_7 (by decide) ?_
  refine x_putN (ty := .long) (ty0 := tyX5) C w 0 9 0 (xin_X5 _) tyX5_ok nmX5 rfl rfl (by decide) (xs_f_n (xS C)) rfl rfl (by decide +kernel) rfl rfl (Nat.le_of_ble_eq_true rfl) dL_ofPager_8 (fun H locs w => ?_)
  have w : xW G A s [(h1, .inr (9, [.long 0, .null])), (h0, .inr (8, [.ref h4, .ref h5, .ref h6, .ref h7, .ref h2, .int 0, .ref h8, .ref h9])), (h2, .inl (cy 3, 3, .inr (.inr (.inr (.inr (va_up (va_up (va_up (fun _ => none) 0 (some h10)) 1 (some h11)) 2 (some h3))))))), (h3, .inr (4, [.int 0, .int 0, .int 0]))] H _ := w
  refine lv_goto (tgt := 22) C.1 C.2.1 dL_ofPager_11 (by decide) ?_
  refine lv_iconst (v := 0) C.1 C.2.1 dL_ofPager_22 (by decide) ?_
  have w := w.sub (ws' := [(h0, .inr (8, [.ref h4, .ref h5, .ref h6, .ref h7, .ref h2, .int 0, .ref h8, .ref h9])), (h2, .inl (cy 3, 3, .inr (.inr (.inr (.inr (va_up (va_up (va_up (fun _ => none) 0 (some h10)) 1 (some h11)) 2 (some h3))))))), (h3, .inr (4, [.int 0, .int 0, .int 0])), (h1, .inr (9, [.long 0, .null]))]) [1, 2, 3, 0] (by decide) rfl rfl
  exact x_iret C w hr (fun _ => 0) rfl rfl dL_ofPager_23 (Nat.le_of_ble_eq_true rfl) (Nat.le_of_ble_eq_true rfl)
set_option maxHeartbeats 4000000 in
set_option maxRecDepth 100000 in
theorem c554_X6_pagerNow (l : Launch) (G : va_G) (cy : Nat → ClassId) (sa : String → Nat → Nat) (sv : Nat → Nat) (h0 h1 h2 h3 h4 h5 h6 h7 : Nat) : xM l G cy sa sv yX6_pagerNow (Cond.code yX6_pagerNow cX6_pagerNow 3 (some .int) :: XG) { frames := 9, cells := 0, slots := 0, locals := 270 } [.ref h0, .int 2, .int 2] [(h0, .inr (10, [.ref h2, .ref h3, .ref h4, .ref h5, .ref h1, .ref h6, .ref h7, .int 0, .int 0])), (h1, .inl (cy 2, 3, .inl (fun _ => 0)))] (xQi G (fun f => [(h0, .inr (10, [.ref h2, .ref h3, .ref h4, .ref h5, .ref h1, .ref h6, .ref h7, .int 0, .int 0])), (h1, .inl (cy 2, 3, .inl (fun _ => 0)))]) 0) := by
  refine xof (by decide) (Nat.le_of_ble_eq_true rfl) (fun p e s m below meth c A C w hr hn ls hl => ?_)
  have hl : lv_has ls 3 [(0, .ref h0), (1, .int 2), (2, .int 2)] := hl
  refine lv_iload_n C.1 C.2.1 dX6_pagerNow_0 rfl (lv_at hl 2 rfl) ?_
  refine lv_if_ne (tgt := 13) C.1 C.2.1 dX6_pagerNow_1 (by decide) (fun _ => ?_) (fun c9 => absurd c9 (by decide))
  refine lv_iload_n C.1 C.2.1 dX6_pagerNow_13 rfl (lv_at hl 2 rfl) ?_
  refine lv_iconst (v := 1) C.1 C.2.1 dX6_pagerNow_14 (by decide) ?_
  refine lv_icmp_ne (tgt := 27) C.1 C.2.1 dX6_pagerNow_15 (by decide) (fun _ => ?_) (fun c9 => absurd c9 (by decide))
  refine lv_iload_n C.1 C.2.1 dX6_pagerNow_27 rfl (lv_at hl 2 rfl) ?_
  refine lv_iconst (v := 2) C.1 C.2.1 dX6_pagerNow_28 (by decide) ?_
  refine lv_icmp_ne (tgt := 44) C.1 C.2.1 dX6_pagerNow_29 (by decide) (fun c9 => absurd (by decide) c9) (fun _ => ?_)
  refine lv_aload_n C.1 C.2.1 dX6_pagerNow_32 rfl (lv_at hl 0 rfl) ?_
  refine x_get (v := .ref h1) C w 0 10 4 (xin_X6 _) rfl rfl (by decide) (List.mem_cons_of_mem _ gw_83) rfl rfl dX6_pagerNow_33 ?_
  refine lv_iload_n C.1 C.2.1 dX6_pagerNow_36 rfl (lv_at hl 1 rfl) ?_
  refine x_zald (v := 0) C w 1 2 rfl rfl (xvin (by decide)) (by rfl) dX6_pagerNow_37 ?_
  refine x_ki C w [] [0, 1] rfl rfl (by decide) (by decide) (va_runS (As := [.int 0]) (rest := []) (xfix C) (c521_X6_one l G cy sa sv (xtr C) _) (va_cwS 1 (xhts C) (xgS gw_912 gw_913 gw_58 gc_X6_one) rfl rfl rfl (by decide +kernel) ⟨(Nat.le_of_ble_eq_true rfl), (Nat.le_of_ble_eq_true rfl)⟩) (xPS C w [] rfl (by decide)) rfl rfl hl.1 rfl (lv_room (Nat.le_of_ble_eq_true rfl)) dX6_pagerNow_38 ⟨(Nat.le_of_ble_eq_true rfl), (Nat.le_of_ble_eq_true rfl)⟩) (fun f3958 H locs w => ?_)
  have w : xW G A s [(h0, .inr (10, [.ref h2, .ref h3, .ref h4, .ref h5, .ref h1, .ref h6, .ref h7, .int 0, .int 0])), (h1, .inl (cy 2, 3, .inl (fun _ => 0)))] H _ := w
  refine lv_goto (tgt := 50) C.1 C.2.1 dX6_pagerNow_41 (by decide) ?_
  exact x_iret C w hr (fun _ => 0) rfl rfl dX6_pagerNow_50 (Nat.le_of_ble_eq_true rfl) (Nat.le_of_ble_eq_true rfl)
set_option maxHeartbeats 4000000 in
set_option maxRecDepth 100000 in
theorem c555_X6_ofPager (l : Launch) (G : va_G) (cy : Nat → ClassId) (sa : String → Nat → Nat) (sv : Nat → Nat) (h0 h1 h2 h3 h4 h5 h6 h7 : Nat) : xM l G cy sa sv yX6_ofPager (Cond.code yX6_ofPager cX6_ofPager 3 (some .int) :: XG) { frames := 10, cells := 0, slots := 0, locals := 292 } [.ref h0, .int 2, .int 2] [(h0, .inr (10, [.ref h2, .ref h3, .ref h4, .ref h5, .ref h1, .ref h6, .ref h7, .int 0, .int 0])), (h1, .inl (cy 2, 3, .inl (fun _ => 0)))] (xQi G (fun f => [(h0, .inr (10, [.ref h2, .ref h3, .ref h4, .ref h5, .ref h1, .ref h6, .ref h7, .int 0, .int 0])), (h1, .inl (cy 2, 3, .inl (fun _ => 0)))]) 0) := by
  refine xof (by decide) (Nat.le_of_ble_eq_true rfl) (fun p e s m below meth c A C w hr hn ls hl => ?_)
  have hl : lv_has ls 3 [(0, .ref h0), (1, .int 2), (2, .int 2)] := hl
  refine lv_aload_n C.1 C.2.1 dX6_ofPager_0 rfl (lv_at hl 0 rfl) ?_
  refine lv_iload_n C.1 C.2.1 dX6_ofPager_1 rfl (lv_at hl 1 rfl) ?_
  refine x_ki C w [] [0, 1] rfl rfl (by decide) (by decide) (va_runS (As := [.int 2]) (rest := [.ref h0]) (xfix C) (c460_X6_isNoPager l G cy sa sv (xtr C) _) (va_cwS 1 (xhts C) (xgS gw_860 gw_861 gw_58 gc_X6_isNoPager) rfl rfl rfl (by decide +kernel) ⟨(Nat.le_of_ble_eq_true rfl), (Nat.le_of_ble_eq_true rfl)⟩) (xPS C w [] rfl (by decide)) rfl rfl hl.1 rfl (lv_room (Nat.le_of_ble_eq_true rfl)) dX6_ofPager_2 ⟨(Nat.le_of_ble_eq_true rfl), (Nat.le_of_ble_eq_true rfl)⟩) (fun f3955 H locs w => ?_)
  have w : xW G A s [(h0, .inr (10, [.ref h2, .ref h3, .ref h4, .ref h5, .ref h1, .ref h6, .ref h7, .int 0, .int 0])), (h1, .inl (cy 2, 3, .inl (fun _ => 0)))] H _ := w
  refine lv_iconst (v := 1) C.1 C.2.1 dX6_ofPager_5 (by decide) ?_
  refine x_ki C w [0] [1] rfl rfl (by decide) (by decide) (va_runV (As := [.int 0, .int 1]) (rest := []) (xfix C) (c46_X6_start l G cy sa sv h0 h2 h3 h4 h5 h1 h6 h7 (xtr C) _) (cwV 2 (xhts C) (xgV (maxL := 0) (cc := ⟨#[]⟩) (ret := none) gw_114 gw_115 gw_116 gw_58 gc_X6_start) rfl rfl rfl (by decide +kernel) ⟨(Nat.le_of_ble_eq_true rfl), (Nat.le_of_ble_eq_true rfl)⟩) (xPV C w [0] rfl (by decide) (ci := 10) (q0 := 0) rfl rfl) rfl rfl hl.1 rfl (lv_room (Nat.le_of_ble_eq_true rfl)) dX6_ofPager_6 ⟨(Nat.le_of_ble_eq_true rfl), (Nat.le_of_ble_eq_true rfl)⟩) (fun f3956 H locs w => ?_)
  have w : xW G A s [(h1, .inl (cy 2, 3, .inl (fun _ => 0))), (h0, .inr (10, [.ref h2, .ref h3, .ref h4, .ref h5, .ref h1, .ref h6, .ref h7, .int 0, .int 0]))] H _ := w
  refine lv_if_ne (tgt := 34) C.1 C.2.1 dX6_ofPager_9 (by decide) (fun c9 => absurd (by decide) c9) (fun _ => ?_)
  refine lv_aload_n C.1 C.2.1 dX6_ofPager_12 rfl (lv_at hl 0 rfl) ?_
  refine lv_iload_n C.1 C.2.1 dX6_ofPager_13 rfl (lv_at hl 2 rfl) ?_
  refine lv_if_lt (tgt := 22) C.1 C.2.1 dX6_ofPager_14 (by decide) (fun c9 => absurd c9 (by decide)) (fun _ => ?_)
  refine lv_iload_n C.1 C.2.1 dX6_ofPager_17 rfl (lv_at hl 2 rfl) ?_
  refine lv_iconst (v := 3) C.1 C.2.1 dX6_ofPager_18 (by decide) ?_
  refine lv_icmp_le (tgt := 26) C.1 C.2.1 dX6_ofPager_19 (by decide) (fun _ => ?_) (fun c9 => absurd (by decide) c9)
  refine lv_iconst (v := 0) C.1 C.2.1 dX6_ofPager_26 (by decide) ?_
  refine lv_iconst (v := 2) C.1 C.2.1 dX6_ofPager_27 (by decide) ?_
  refine x_ki C w [] [0, 1] rfl rfl (by decide) (by decide) (va_runV (As := [.int 0, .int 2]) (rest := []) (xfix C) (c49_X6_fails l G cy sa sv h0 (xtr C) _) (cwV 2 (xhts C) (xgV (maxL := 0) (cc := ⟨#[]⟩) (ret := none) gw_203 gw_204 gw_205 gw_58 gc_X6_fails) rfl rfl rfl (by decide +kernel) ⟨(Nat.le_of_ble_eq_true rfl), (Nat.le_of_ble_eq_true rfl)⟩) (xPV C w [] rfl (by decide) (ci := 10) (q0 := 1) rfl rfl) rfl rfl hl.1 rfl (lv_room (Nat.le_of_ble_eq_true rfl)) dX6_ofPager_28 ⟨(Nat.le_of_ble_eq_true rfl), (Nat.le_of_ble_eq_true rfl)⟩) (fun f3957 H locs w => ?_)
  have w : xW G A s [(h1, .inl (cy 2, 3, .inl (fun _ => 0))), (h0, .inr (10, [.ref h2, .ref h3, .ref h4, .ref h5, .ref h1, .ref h6, .ref h7, .int 0, .int 0]))] H _ := w
  refine lv_if_eq (tgt := 38) C.1 C.2.1 dX6_ofPager_31 (by decide) (fun _ => ?_) (fun c9 => absurd (by decide) c9)
  refine lv_aload_n C.1 C.2.1 dX6_ofPager_38 rfl (lv_at hl 0 rfl) ?_
  refine lv_iload_n C.1 C.2.1 dX6_ofPager_39 rfl (lv_at hl 1 rfl) ?_
  refine lv_iload_n C.1 C.2.1 dX6_ofPager_40 rfl (lv_at hl 2 rfl) ?_
  refine x_ki C w [1, 0] [] rfl rfl (by decide) (by decide) (va_runV (As := [.int 2, .int 2]) (rest := []) (xfix C) (c554_X6_pagerNow l G cy sa sv h0 h1 h2 h3 h4 h5 h6 h7 (xtr C) _) (cwV 2 (xhts C) (xgV (maxL := 0) (cc := ⟨#[]⟩) (ret := none) gw_904 gw_905 gw_906 gw_58 gc_X6_pagerNow) rfl rfl rfl (by decide +kernel) ⟨(Nat.le_of_ble_eq_true rfl), (Nat.le_of_ble_eq_true rfl)⟩) (xPV C w [1, 0] rfl (by decide) (ci := 10) (q0 := 1) rfl rfl) rfl rfl hl.1 rfl (lv_room (Nat.le_of_ble_eq_true rfl)) dX6_ofPager_41 ⟨(Nat.le_of_ble_eq_true rfl), (Nat.le_of_ble_eq_true rfl)⟩) (fun f3959 H locs w => ?_)
  have w : xW G A s [(h0, .inr (10, [.ref h2, .ref h3, .ref h4, .ref h5, .ref h1, .ref h6, .ref h7, .int 0, .int 0])), (h1, .inl (cy 2, 3, .inl (fun _ => 0)))] H _ := w
  exact x_iret C w hr (fun _ => 0) rfl rfl dX6_ofPager_44 (Nat.le_of_ble_eq_true rfl) (Nat.le_of_ble_eq_true rfl)
set_option maxHeartbeats 4000000 in
set_option maxRecDepth 100000 in
theorem c556_X4_ofPager (l : Launch) (G : va_G) (cy : Nat → ClassId) (sa : String → Nat → Nat) (sv : Nat → Nat) (h0 h1 h2 h3 h4 h5 h6 h7 h8 h9 h10 : Nat) : xM l G cy sa sv yX4_ofPager (Cond.code yX4_ofPager cX4_ofPager 4 (some .int) :: XG) { frames := 9, cells := 0, slots := 0, locals := 271 } [.ref h0, .int 2, .int 3] [(h0, .inr (8, [.ref h3, .ref h4, .ref h5, .ref h6, .ref h1, .int 0, .ref h7, .ref h8])), (h1, .inl (cy 3, 3, .inr (.inr (.inr (.inr (va_up (va_up (va_up (fun _ => none) 0 (some h9)) 1 (some h10)) 2 (some h2))))))), (h2, .inr (4, [.int 0, .int 0, .int 0]))] (xQi G (fun f => [(h0, .inr (8, [.ref h3, .ref h4, .ref h5, .ref h6, .ref h1, .int 0, .ref h7, .ref h8])), (h1, .inl (cy 3, 3, .inr (.inr (.inr (.inr (va_up (va_up (va_up (fun _ => none) 0 (some h9)) 1 (some h10)) 2 (some h2))))))), (h2, .inr (4, [.int 0, .int 0, .int 0]))]) 0) := by
  refine xof (by decide) (Nat.le_of_ble_eq_true rfl) (fun p e s m below meth c A C w hr hn ls hl => ?_)
  have hl : lv_has ls 4 [(0, .ref h0), (1, .int 2), (2, .int 3)] := hl
  refine lv_aload_n C.1 C.2.1 dX4_ofPager_0 rfl (lv_at hl 0 rfl) ?_
  refine lv_iload_n C.1 C.2.1 dX4_ofPager_1 rfl (lv_at hl 1 rfl) ?_
  refine x_kr C w [0, 1] [2] rfl rfl (by decide) (by decide) (va_runV (As := [.int 2]) (rest := []) (xfix C) (c457_X4_pagerOf l G cy sa sv h0 h1 h3 h4 h5 h6 h7 h8 h9 h10 h2 (xtr C) _) (cwV 1 (xhts C) (xgV (maxL := 0) (cc := ⟨#[]⟩) (ret := none) gw_842 gw_843 gw_844 gw_2 gc_X4_pagerOf) rfl rfl rfl (by decide +kernel) ⟨(Nat.le_of_ble_eq_true rfl), (Nat.le_of_ble_eq_true rfl)⟩) (xPV C w [0, 1] rfl (by decide) (ci := 8) (q0 := 0) rfl rfl) rfl rfl hl.1 rfl (lv_room (Nat.le_of_ble_eq_true rfl)) dX4_ofPager_2 ⟨(Nat.le_of_ble_eq_true rfl), (Nat.le_of_ble_eq_true rfl)⟩) (fun f3962 H locs w => ?_)
  have w : xW G A s [(h2, .inr (4, [.int 0, .int 0, .int 0])), (h0, .inr (8, [.ref h3, .ref h4, .ref h5, .ref h6, .ref h1, .int 0, .ref h7, .ref h8])), (h1, .inl (cy 3, 3, .inr (.inr (.inr (.inr (va_up (va_up (va_up (fun _ => none) 0 (some h9)) 1 (some h10)) 2 (some h2)))))))] H _ := w
  refine lv_astore_n (lv' := [(3, .ref h2), (0, .ref h0), (1, .int 2), (2, .int 3)]) C.1 C.2.1 dX4_ofPager_5 rfl hl (by decide) rfl (fun ls hl => ?_)
  refine lv_iload_n C.1 C.2.1 dX4_ofPager_6 rfl (lv_at hl 3 rfl) ?_
  refine lv_tableIn (off := 64) (tgt := 71) C.1 C.2.1 dX4_ofPager_7 (by decide) (by decide) (by decide) (by decide) ?_
  refine lv_aload_n C.1 C.2.1 dX4_ofPager_71 rfl (lv_at hl 0 rfl) ?_
  refine x_getN (v := .int 0) C w 0 4 1 (xin_X0 _) rfl rfl (by decide) (xs_f_mark (xS C)) rfl rfl dX4_ofPager_72 ?_
  have w := w.sub (ws' := [(h0, .inr (8, [.ref h3, .ref h4, .ref h5, .ref h6, .ref h1, .int 0, .ref h7, .ref h8])), (h1, .inl (cy 3, 3, .inr (.inr (.inr (.inr (va_up (va_up (va_up (fun _ => none) 0 (some h9)) 1 (some h10)) 2 (some h2))))))), (h2, .inr (4, [.int 0, .int 0, .int 0]))]) [1, 2, 0] (by decide) rfl rfl
  exact x_iret C w hr (fun _ => 0) rfl rfl dX4_ofPager_75 (Nat.le_of_ble_eq_true rfl) (Nat.le_of_ble_eq_true rfl)
set_option maxHeartbeats 4000000 in
set_option maxRecDepth 100000 in
theorem c557_L_ofPager (l : Launch) (G : va_G) (cy : Nat → ClassId) (sa : String → Nat → Nat) (sv : Nat → Nat) (h0 h1 h2 h3 h4 h5 h6 h7 h8 h9 h10 h11 : Nat) : xM l G cy sa sv yL_ofPager (Cond.codeWith yL_ofPager cL_ofPager 5 (some .int) [(0, 11, 14, 91), (0, 11, 18, 19)] :: XG) { frames := 10, cells := 0, slots := 0, locals := 294 } [.ref h0, .int 2, .int 3, .ref h1] [(h0, .inr (8, [.ref h4, .ref h5, .ref h6, .ref h7, .ref h2, .int 0, .ref h8, .ref h9])), (h2, .inl (cy 3, 3, .inr (.inr (.inr (.inr (va_up (va_up (va_up (fun _ => none) 0 (some h10)) 1 (some h11)) 2 (some h3))))))), (h3, .inr (4, [.int 0, .int 0, .int 0])), (h1, .inr (9, [.long 0, .null]))] (xQi G (fun f => [(h0, .inr (8, [.ref h4, .ref h5, .ref h6, .ref h7, .ref h2, .int 0, .ref h8, .ref h9])), (h2, .inl (cy 3, 3, .inr (.inr (.inr (.inr (va_up (va_up (va_up (fun _ => none) 0 (some h10)) 1 (some h11)) 2 (some h3))))))), (h3, .inr (4, [.int 0, .int 0, .int 0])), (h1, .inr (9, [.long 0, .null]))]) 0) := by
  refine xofH (by decide) (Nat.le_of_ble_eq_true rfl) (fun p e s m below meth c A C w hr hn hT ls hl => ?_)
  have hl : lv_has ls 5 [(0, .ref h0), (1, .int 2), (2, .int 3), (3, .ref h1)] := hl
  refine lv_aload_n C.1 C.2.1 dL_ofPager_0 rfl (lv_at hl 3 rfl) ?_
  refine lv_aload_n C.1 C.2.1 dL_ofPager_1 rfl (lv_at hl 0 rfl) ?_
  refine lv_iload_n C.1 C.2.1 dL_ofPager_2 rfl (lv_at hl 1 rfl) ?_
  refine lv_iload_n C.1 C.2.1 dL_ofPager_3 rfl (lv_at hl 2 rfl) ?_
  refine x_ki C w [0, 1, 2] [3] rfl rfl (by decide) (by decide) (va_runV (As := [.int 2, .int 3]) (rest := [.ref h1]) (xfix C) (c556_X4_ofPager l G cy sa sv h0 h2 h3 h4 h5 h6 h7 h8 h9 h10 h11 (xtr C) _) (cwV 2 (xhts C) (xgV (maxL := 0) (cc := ⟨#[]⟩) (ret := none) gw_897 gw_898 gw_899 gw_2 gc_X4_ofPager) rfl rfl rfl (by decide +kernel) ⟨(Nat.le_of_ble_eq_true rfl), (Nat.le_of_ble_eq_true rfl)⟩) (xPV C w [0, 1, 2] rfl (by decide) (ci := 8) (q0 := 0) rfl rfl) rfl rfl hl.1 rfl (lv_room (Nat.le_of_ble_eq_true rfl)) dL_ofPager_4 ⟨(Nat.le_of_ble_eq_true rfl), (Nat.le_of_ble_eq_true rfl)⟩) (fun f3963 H locs w => ?_)
  have w : xW G A s [(h1, .inr (9, [.long 0, .null])), (h0, .inr (8, [.ref h4, .ref h5, .ref h6, .ref h7, .ref h2, .int 0, .ref h8, .ref h9])), (h2, .inl (cy 3, 3, .inr (.inr (.inr (.inr (va_up (va_up (va_up (fun _ => none) 0 (some h10)) 1 (some h11)) 2 (some h3))))))), (h3, .inr (4, [.int 0, .int 0, .int 0]))] H _ := w
  refine lv_i2l (v := 0) C.1 C.2.1 dL_ofPager_7 (by decide) ?_
  refine x_putN (ty := .long) (ty0 := tyX5) C w 0 9 0 (xin_X5 _) tyX5_ok nmX5 rfl rfl (by decide) (xs_f_n (xS C)) rfl rfl (by decide +kernel) rfl rfl (Nat.le_of_ble_eq_true rfl) dL_ofPager_8 (fun H locs w => ?_)
  have w : xW G A s [(h1, .inr (9, [.long 0, .null])), (h0, .inr (8, [.ref h4, .ref h5, .ref h6, .ref h7, .ref h2, .int 0, .ref h8, .ref h9])), (h2, .inl (cy 3, 3, .inr (.inr (.inr (.inr (va_up (va_up (va_up (fun _ => none) 0 (some h10)) 1 (some h11)) 2 (some h3))))))), (h3, .inr (4, [.int 0, .int 0, .int 0]))] H _ := w
  refine lv_goto (tgt := 22) C.1 C.2.1 dL_ofPager_11 (by decide) ?_
  refine lv_iconst (v := 0) C.1 C.2.1 dL_ofPager_22 (by decide) ?_
  have w := w.sub (ws' := [(h0, .inr (8, [.ref h4, .ref h5, .ref h6, .ref h7, .ref h2, .int 0, .ref h8, .ref h9])), (h2, .inl (cy 3, 3, .inr (.inr (.inr (.inr (va_up (va_up (va_up (fun _ => none) 0 (some h10)) 1 (some h11)) 2 (some h3))))))), (h3, .inr (4, [.int 0, .int 0, .int 0])), (h1, .inr (9, [.long 0, .null]))]) [1, 2, 3, 0] (by decide) rfl rfl
  exact x_iret C w hr (fun _ => 0) rfl rfl dL_ofPager_23 (Nat.le_of_ble_eq_true rfl) (Nat.le_of_ble_eq_true rfl)
set_option maxHeartbeats 4000000 in
set_option maxRecDepth 100000 in
theorem c558_X6_pagerNow (l : Launch) (G : va_G) (cy : Nat → ClassId) (sa : String → Nat → Nat) (sv : Nat → Nat) (h0 h1 h2 h3 h4 h5 h6 h7 : Nat) : xM l G cy sa sv yX6_pagerNow (Cond.code yX6_pagerNow cX6_pagerNow 3 (some .int) :: XG) { frames := 8, cells := 0, slots := 0, locals := 250 } [.ref h0, .int 2, .int 3] [(h0, .inr (10, [.ref h2, .ref h3, .ref h4, .ref h5, .ref h6, .ref h1, .ref h7, .int 0, .int 0])), (h1, .inl (cy 1, 3, .inl (fun _ => 0)))] (xQi G (fun f => [(h0, .inr (10, [.ref h2, .ref h3, .ref h4, .ref h5, .ref h6, .ref h1, .ref h7, .int 0, .int 0])), (h1, .inl (cy 1, 3, .inl (fun _ => 0)))]) 0) := by
  refine xof (by decide) (Nat.le_of_ble_eq_true rfl) (fun p e s m below meth c A C w hr hn ls hl => ?_)
  have hl : lv_has ls 3 [(0, .ref h0), (1, .int 2), (2, .int 3)] := hl
  refine lv_iload_n C.1 C.2.1 dX6_pagerNow_0 rfl (lv_at hl 2 rfl) ?_
  refine lv_if_ne (tgt := 13) C.1 C.2.1 dX6_pagerNow_1 (by decide) (fun _ => ?_) (fun c9 => absurd c9 (by decide))
  refine lv_iload_n C.1 C.2.1 dX6_pagerNow_13 rfl (lv_at hl 2 rfl) ?_
  refine lv_iconst (v := 1) C.1 C.2.1 dX6_pagerNow_14 (by decide) ?_
  refine lv_icmp_ne (tgt := 27) C.1 C.2.1 dX6_pagerNow_15 (by decide) (fun _ => ?_) (fun c9 => absurd c9 (by decide))
  refine lv_iload_n C.1 C.2.1 dX6_pagerNow_27 rfl (lv_at hl 2 rfl) ?_
  refine lv_iconst (v := 2) C.1 C.2.1 dX6_pagerNow_28 (by decide) ?_
  refine lv_icmp_ne (tgt := 44) C.1 C.2.1 dX6_pagerNow_29 (by decide) (fun _ => ?_) (fun c9 => absurd c9 (by decide))
  refine lv_aload_n C.1 C.2.1 dX6_pagerNow_44 rfl (lv_at hl 0 rfl) ?_
  refine x_get (v := .ref h1) C w 0 10 5 (xin_X6 _) rfl rfl (by decide) (List.mem_cons_of_mem _ gw_84) rfl rfl dX6_pagerNow_45 ?_
  refine lv_iload_n C.1 C.2.1 dX6_pagerNow_48 rfl (lv_at hl 1 rfl) ?_
  refine x_iald (v := 0) C w 1 1 rfl rfl (xvin (by decide)) (by rfl) dX6_pagerNow_49 ?_
  exact x_iret C w hr (fun _ => 0) rfl rfl dX6_pagerNow_50 (Nat.le_of_ble_eq_true rfl) (Nat.le_of_ble_eq_true rfl)
set_option maxHeartbeats 4000000 in
set_option maxRecDepth 100000 in
theorem c559_X6_ofPager (l : Launch) (G : va_G) (cy : Nat → ClassId) (sa : String → Nat → Nat) (sv : Nat → Nat) (h0 h1 h2 h3 h4 h5 h6 h7 : Nat) : xM l G cy sa sv yX6_ofPager (Cond.code yX6_ofPager cX6_ofPager 3 (some .int) :: XG) { frames := 9, cells := 0, slots := 0, locals := 272 } [.ref h0, .int 2, .int 3] [(h0, .inr (10, [.ref h2, .ref h3, .ref h4, .ref h5, .ref h6, .ref h1, .ref h7, .int 0, .int 0])), (h1, .inl (cy 1, 3, .inl (fun _ => 0)))] (xQi G (fun f => [(h0, .inr (10, [.ref h2, .ref h3, .ref h4, .ref h5, .ref h6, .ref h1, .ref h7, .int 0, .int 0])), (h1, .inl (cy 1, 3, .inl (fun _ => 0)))]) 0) := by
  refine xof (by decide) (Nat.le_of_ble_eq_true rfl) (fun p e s m below meth c A C w hr hn ls hl => ?_)
  have hl : lv_has ls 3 [(0, .ref h0), (1, .int 2), (2, .int 3)] := hl
  refine lv_aload_n C.1 C.2.1 dX6_ofPager_0 rfl (lv_at hl 0 rfl) ?_
  refine lv_iload_n C.1 C.2.1 dX6_ofPager_1 rfl (lv_at hl 1 rfl) ?_
  refine x_ki C w [] [0, 1] rfl rfl (by decide) (by decide) (va_runS (As := [.int 2]) (rest := [.ref h0]) (xfix C) (c460_X6_isNoPager l G cy sa sv (xtr C) _) (va_cwS 1 (xhts C) (xgS gw_860 gw_861 gw_58 gc_X6_isNoPager) rfl rfl rfl (by decide +kernel) ⟨(Nat.le_of_ble_eq_true rfl), (Nat.le_of_ble_eq_true rfl)⟩) (xPS C w [] rfl (by decide)) rfl rfl hl.1 rfl (lv_room (Nat.le_of_ble_eq_true rfl)) dX6_ofPager_2 ⟨(Nat.le_of_ble_eq_true rfl), (Nat.le_of_ble_eq_true rfl)⟩) (fun f3965 H locs w => ?_)
  have w : xW G A s [(h0, .inr (10, [.ref h2, .ref h3, .ref h4, .ref h5, .ref h6, .ref h1, .ref h7, .int 0, .int 0])), (h1, .inl (cy 1, 3, .inl (fun _ => 0)))] H _ := w
  refine lv_iconst (v := 1) C.1 C.2.1 dX6_ofPager_5 (by decide) ?_
  refine x_ki C w [0] [1] rfl rfl (by decide) (by decide) (va_runV (As := [.int 0, .int 1]) (rest := []) (xfix C) (c46_X6_start l G cy sa sv h0 h2 h3 h4 h5 h6 h1 h7 (xtr C) _) (cwV 2 (xhts C) (xgV (maxL := 0) (cc := ⟨#[]⟩) (ret := none) gw_114 gw_115 gw_116 gw_58 gc_X6_start) rfl rfl rfl (by decide +kernel) ⟨(Nat.le_of_ble_eq_true rfl), (Nat.le_of_ble_eq_true rfl)⟩) (xPV C w [0] rfl (by decide) (ci := 10) (q0 := 0) rfl rfl) rfl rfl hl.1 rfl (lv_room (Nat.le_of_ble_eq_true rfl)) dX6_ofPager_6 ⟨(Nat.le_of_ble_eq_true rfl), (Nat.le_of_ble_eq_true rfl)⟩) (fun f3966 H locs w => ?_)
  have w : xW G A s [(h1, .inl (cy 1, 3, .inl (fun _ => 0))), (h0, .inr (10, [.ref h2, .ref h3, .ref h4, .ref h5, .ref h6, .ref h1, .ref h7, .int 0, .int 0]))] H _ := w
  refine lv_if_ne (tgt := 34) C.1 C.2.1 dX6_ofPager_9 (by decide) (fun c9 => absurd (by decide) c9) (fun _ => ?_)
  refine lv_aload_n C.1 C.2.1 dX6_ofPager_12 rfl (lv_at hl 0 rfl) ?_
  refine lv_iload_n C.1 C.2.1 dX6_ofPager_13 rfl (lv_at hl 2 rfl) ?_
  refine lv_if_lt (tgt := 22) C.1 C.2.1 dX6_ofPager_14 (by decide) (fun c9 => absurd c9 (by decide)) (fun _ => ?_)
  refine lv_iload_n C.1 C.2.1 dX6_ofPager_17 rfl (lv_at hl 2 rfl) ?_
  refine lv_iconst (v := 3) C.1 C.2.1 dX6_ofPager_18 (by decide) ?_
  refine lv_icmp_le (tgt := 26) C.1 C.2.1 dX6_ofPager_19 (by decide) (fun _ => ?_) (fun c9 => absurd (by decide) c9)
  refine lv_iconst (v := 0) C.1 C.2.1 dX6_ofPager_26 (by decide) ?_
  refine lv_iconst (v := 2) C.1 C.2.1 dX6_ofPager_27 (by decide) ?_
  refine x_ki C w [] [0, 1] rfl rfl (by decide) (by decide) (va_runV (As := [.int 0, .int 2]) (rest := []) (xfix C) (c49_X6_fails l G cy sa sv h0 (xtr C) _) (cwV 2 (xhts C) (xgV (maxL := 0) (cc := ⟨#[]⟩) (ret := none) gw_203 gw_204 gw_205 gw_58 gc_X6_fails) rfl rfl rfl (by decide +kernel) ⟨(Nat.le_of_ble_eq_true rfl), (Nat.le_of_ble_eq_true rfl)⟩) (xPV C w [] rfl (by decide) (ci := 10) (q0 := 1) rfl rfl) rfl rfl hl.1 rfl (lv_room (Nat.le_of_ble_eq_true rfl)) dX6_ofPager_28 ⟨(Nat.le_of_ble_eq_true rfl), (Nat.le_of_ble_eq_true rfl)⟩) (fun f3967 H locs w => ?_)
  have w : xW G A s [(h1, .inl (cy 1, 3, .inl (fun _ => 0))), (h0, .inr (10, [.ref h2, .ref h3, .ref h4, .ref h5, .ref h6, .ref h1, .ref h7, .int 0, .int 0]))] H _ := w
  refine lv_if_eq (tgt := 38) C.1 C.2.1 dX6_ofPager_31 (by decide) (fun _ => ?_) (fun c9 => absurd (by decide) c9)
  refine lv_aload_n C.1 C.2.1 dX6_ofPager_38 rfl (lv_at hl 0 rfl) ?_
  refine lv_iload_n C.1 C.2.1 dX6_ofPager_39 rfl (lv_at hl 1 rfl) ?_
  refine lv_iload_n C.1 C.2.1 dX6_ofPager_40 rfl (lv_at hl 2 rfl) ?_
  refine x_ki C w [1, 0] [] rfl rfl (by decide) (by decide) (va_runV (As := [.int 2, .int 3]) (rest := []) (xfix C) (c558_X6_pagerNow l G cy sa sv h0 h1 h2 h3 h4 h5 h6 h7 (xtr C) _) (cwV 2 (xhts C) (xgV (maxL := 0) (cc := ⟨#[]⟩) (ret := none) gw_904 gw_905 gw_906 gw_58 gc_X6_pagerNow) rfl rfl rfl (by decide +kernel) ⟨(Nat.le_of_ble_eq_true rfl), (Nat.le_of_ble_eq_true rfl)⟩) (xPV C w [1, 0] rfl (by decide) (ci := 10) (q0 := 1) rfl rfl) rfl rfl hl.1 rfl (lv_room (Nat.le_of_ble_eq_true rfl)) dX6_ofPager_41 ⟨(Nat.le_of_ble_eq_true rfl), (Nat.le_of_ble_eq_true rfl)⟩) (fun f3968 H locs w => ?_)
  have w : xW G A s [(h0, .inr (10, [.ref h2, .ref h3, .ref h4, .ref h5, .ref h6, .ref h1, .ref h7, .int 0, .int 0])), (h1, .inl (cy 1, 3, .inl (fun _ => 0)))] H _ := w
  exact x_iret C w hr (fun _ => 0) rfl rfl dX6_ofPager_44 (Nat.le_of_ble_eq_true rfl) (Nat.le_of_ble_eq_true rfl)
set_option maxHeartbeats 4000000 in
set_option maxRecDepth 100000 in
theorem c560_X4_ofPager (l : Launch) (G : va_G) (cy : Nat → ClassId) (sa : String → Nat → Nat) (sv : Nat → Nat) (h0 h1 h2 h3 h4 h5 h6 h7 h8 h9 h10 : Nat) (v0 : Int32) (p0 : (v0).toInt < 0 ∨ 3 < (v0).toInt) : xX l G cy sa sv yX4_ofPager (Cond.code yX4_ofPager cX4_ofPager 4 (some .int) :: XG) { frames := 9, cells := 1, slots := 6, locals := 271 } [.ref h0, .int 0, .int v0] [(h0, .inr (8, [.ref h2, .ref h3, .ref h4, .ref h5, .ref h1, .int 0, .ref h6, .ref h7])), (h1, .inl (cy 3, 3, .inr (.inr (.inr (.inr (va_up (va_up (va_up (fun _ => none) 0 (some h8)) 1 (some h9)) 2 (some h10)))))))] (fun f => [(h0, .inr (8, [.ref h2, .ref h3, .ref h4, .ref h5, .ref h1, .int 0, .ref h6, .ref h7])), (h1, .inl (cy 3, 3, .inr (.inr (.inr (.inr (va_up (va_up (va_up (fun _ => none) 0 (some h8)) 1 (some h9)) 2 (some h10)))))))]) "java/lang/IllegalArgumentException" := by
  refine xofX (by decide) (Nat.le_of_ble_eq_true rfl) (fun p e s m below meth c A C w hno ls hl => ?_)
  have hl : lv_has ls 4 [(0, .ref h0), (1, .int 0), (2, .int v0)] := hl
  refine lv_aload_n C.1 C.2.1 dX4_ofPager_0 rfl (lv_at hl 0 rfl) ?_
  refine lv_iload_n C.1 C.2.1 dX4_ofPager_1 rfl (lv_at hl 1 rfl) ?_
  refine x_kr C w [0, 1] [] rfl rfl (by decide) (by decide) (va_runV (As := [.int 0]) (rest := []) (xfix C) (c446_X4_pagerOf l G cy sa sv h0 h1 h2 h3 h4 h5 h6 h7 h8 h9 h10 (xtr C) _) (cwV 1 (xhts C) (xgV (maxL := 0) (cc := ⟨#[]⟩) (ret := none) gw_842 gw_843 gw_844 gw_2 gc_X4_pagerOf) rfl rfl rfl (by decide +kernel) ⟨(Nat.le_of_ble_eq_true rfl), (Nat.le_of_ble_eq_true rfl)⟩) (xPV C w [0, 1] rfl (by decide) (ci := 8) (q0 := 0) rfl rfl) rfl rfl hl.1 rfl (lv_room (Nat.le_of_ble_eq_true rfl)) dX4_ofPager_2 ⟨(Nat.le_of_ble_eq_true rfl), (Nat.le_of_ble_eq_true rfl)⟩) (fun f3976 H locs w => ?_)
  have w : xW G A s [(h0, .inr (8, [.ref h2, .ref h3, .ref h4, .ref h5, .ref h1, .int 0, .ref h6, .ref h7])), (h1, .inl (cy 3, 3, .inr (.inr (.inr (.inr (va_up (va_up (va_up (fun _ => none) 0 (some h8)) 1 (some h9)) 2 (some h10)))))))] H _ := w
  refine lv_astore_n (lv' := [(3, .ref h8), (0, .ref h0), (1, .int 0), (2, .int v0)]) C.1 C.2.1 dX4_ofPager_5 rfl hl (by decide) rfl (fun ls hl => ?_)
  refine lv_iload_n C.1 C.2.1 dX4_ofPager_6 rfl (lv_at hl 3 rfl) ?_
  refine lv_tableOut (tgt := 76) C.1 C.2.1 dX4_ofPager_7 p0 (by decide) ?_
  exact x_thr C w hno hl.1 (by decide) (List.mem_cons_of_mem _ gw_95) (List.mem_cons_of_mem _ gw_96) (tx := "what is not 0 to 3") (List.mem_of_getElem? (i := 5) rfl) (xat_203 C (fun w h => List.mem_cons_of_mem _ h)) xatg_203 dX4_ofPager_76 dX4_ofPager_79 dX4_ofPager_80 dX4_ofPager_82 dX4_ofPager_85 (Nat.le_of_ble_eq_true rfl) (Nat.le_of_ble_eq_true rfl) (Nat.le_of_ble_eq_true rfl) (Nat.le_of_ble_eq_true rfl) rfl rfl (fun _ => 0) rfl
set_option maxHeartbeats 4000000 in
set_option maxRecDepth 100000 in
theorem c561_L_ofPager (l : Launch) (G : va_G) (cy : Nat → ClassId) (sa : String → Nat → Nat) (sv : Nat → Nat) (h0 h1 h2 h3 h4 h5 h6 h7 h8 h9 h10 h11 : Nat) (v0 : Int32) (p0 : (v0).toInt < 0 ∨ 3 < (v0).toInt) : xM l G cy sa sv yL_ofPager (Cond.codeWith yL_ofPager cL_ofPager 5 (some .int) [(0, 11, 14, 91), (0, 11, 18, 19)] :: XG) { frames := 10, cells := 1, slots := 6, locals := 294 } [.ref h0, .int 0, .int v0, .ref h1] [(h0, .inr (8, [.ref h3, .ref h4, .ref h5, .ref h6, .ref h2, .int 0, .ref h7, .ref h8])), (h2, .inl (cy 3, 3, .inr (.inr (.inr (.inr (va_up (va_up (va_up (fun _ => none) 0 (some h9)) 1 (some h10)) 2 (some h11)))))))] (xQi G (fun f => [(h0, .inr (8, [.ref h3, .ref h4, .ref h5, .ref h6, .ref h2, .int 0, .ref h7, .ref h8])), (h2, .inl (cy 3, 3, .inr (.inr (.inr (.inr (va_up (va_up (va_up (fun _ => none) 0 (some h9)) 1 (some h10)) 2 (some h11)))))))]) 2) := by
  refine xofH (by decide) (Nat.le_of_ble_eq_true rfl) (fun p e s m below meth c A C w hr hn hT ls hl => ?_)
  have hl : lv_has ls 5 [(0, .ref h0), (1, .int 0), (2, .int v0), (3, .ref h1)] := hl
  refine lv_aload_n C.1 C.2.1 dL_ofPager_0 rfl (lv_at hl 3 rfl) ?_
  refine lv_aload_n C.1 C.2.1 dL_ofPager_1 rfl (lv_at hl 0 rfl) ?_
  refine lv_iload_n C.1 C.2.1 dL_ofPager_2 rfl (lv_at hl 1 rfl) ?_
  refine lv_iload_n C.1 C.2.1 dL_ofPager_3 rfl (lv_at hl 2 rfl) ?_
  refine x_kx C w [0, 1] [] rfl rfl (by decide) (by decide) (vx_runV (As := [.int 0, .int v0]) (rest := [.ref h1]) (xfix C) (c560_X4_ofPager l G cy sa sv h0 h2 h3 h4 h5 h6 h7 h8 h9 h10 h11 v0 p0 (xtr C) _) (cwV 2 (xhts C) (xgV (maxL := 0) (cc := ⟨#[]⟩) (ret := none) gw_897 gw_898 gw_899 gw_2 gc_X4_ofPager) rfl rfl rfl (by decide +kernel) ⟨(Nat.le_of_ble_eq_true rfl), (Nat.le_of_ble_eq_true rfl)⟩) (xPV C w [0, 1] rfl (by decide) (ci := 8) (q0 := 0) rfl rfl) rfl rfl hl.1 rfl (lv_room (Nat.le_of_ble_eq_true rfl)) dL_ofPager_4 ⟨(Nat.le_of_ble_eq_true rfl), (Nat.le_of_ble_eq_true rfl)⟩) (fun f3977 H locs ce q9 w hce hcv hcl => ?_)
  have w : xW G A s [(h0, .inr (8, [.ref h3, .ref h4, .ref h5, .ref h6, .ref h2, .int 0, .ref h7, .ref h8])), (h2, .inl (cy 3, 3, .inr (.inr (.inr (.inr (va_up (va_up (va_up (fun _ => none) 0 (some h9)) 1 (some h10)) 2 (some h11)))))))] H _ := w
  refine vx_widen (k := 1) (n := 6) (Nat.le_of_ble_eq_true rfl) (Nat.le_of_ble_eq_true rfl) ?_
  refine vx_catch (xown C) [⟨0, 11, 14, 91⟩] ⟨0, 11, 18, 19⟩ [] hT (fun z hz => Or.inr (by cases List.mem_singleton.mp hz; exact ⟨by decide, "java/lang/IndexOutOfBoundsException", xhts C _ (List.mem_cons_of_mem _ gw_868), xs_n2 (xS C)⟩)) (by decide) (by decide) (xhts C _ (List.mem_cons_of_mem _ gw_104)) (va_any rfl (xs_c1 (xS C))) hce hcv hcl ?_
  refine lv_astore (lv' := [(4, .ref q9), (0, .ref h0), (1, .int 0), (2, .int v0), (3, .ref h1)]) C.1 C.2.1 dL_ofPager_18 hl (by decide) rfl (fun ls hl => ?_)
  refine lv_iconst (v := 2) C.1 C.2.1 dL_ofPager_20 (by decide) ?_
  exact x_iret C w hr (fun _ => 0) rfl rfl dL_ofPager_21 (Nat.le_of_ble_eq_true rfl) (Nat.le_of_ble_eq_true rfl)
set_option maxHeartbeats 4000000 in
set_option maxRecDepth 100000 in
theorem c562_X6_ofPager (l : Launch) (G : va_G) (cy : Nat → ClassId) (sa : String → Nat → Nat) (sv : Nat → Nat) (h0 h1 h2 h3 h4 h5 h6 h7 : Nat) (v0 : Int32) (p0 : v0 < 0) : xM l G cy sa sv yX6_ofPager (Cond.code yX6_ofPager cX6_ofPager 3 (some .int) :: XG) { frames := 9, cells := 0, slots := 0, locals := 272 } [.ref h0, .int 0, .int v0] [(h0, .inr (10, [.ref h1, .ref h2, .ref h3, .ref h4, .ref h5, .ref h6, .ref h7, .int 0, .int 0]))] (xQi G (fun f => [(h0, .inr (10, [.ref h1, .ref h2, .ref h3, .ref h4, .ref h5, .ref h6, .ref h7, .int 0, .int 2]))]) 0) := by
  refine xof (by decide) (Nat.le_of_ble_eq_true rfl) (fun p e s m below meth c A C w hr hn ls hl => ?_)
  have hl : lv_has ls 3 [(0, .ref h0), (1, .int 0), (2, .int v0)] := hl
  refine lv_aload_n C.1 C.2.1 dX6_ofPager_0 rfl (lv_at hl 0 rfl) ?_
  refine lv_iload_n C.1 C.2.1 dX6_ofPager_1 rfl (lv_at hl 1 rfl) ?_
  refine x_ki C w [] [0] rfl rfl (by decide) (by decide) (va_runS (As := [.int 0]) (rest := [.ref h0]) (xfix C) (c450_X6_isNoPager l G cy sa sv (xtr C) _) (va_cwS 1 (xhts C) (xgS gw_860 gw_861 gw_58 gc_X6_isNoPager) rfl rfl rfl (by decide +kernel) ⟨(Nat.le_of_ble_eq_true rfl), (Nat.le_of_ble_eq_true rfl)⟩) (xPS C w [] rfl (by decide)) rfl rfl hl.1 rfl (lv_room (Nat.le_of_ble_eq_true rfl)) dX6_ofPager_2 ⟨(Nat.le_of_ble_eq_true rfl), (Nat.le_of_ble_eq_true rfl)⟩) (fun f3980 H locs w => ?_)
  have w : xW G A s [(h0, .inr (10, [.ref h1, .ref h2, .ref h3, .ref h4, .ref h5, .ref h6, .ref h7, .int 0, .int 0]))] H _ := w
  refine lv_iconst (v := 1) C.1 C.2.1 dX6_ofPager_5 (by decide) ?_
  refine x_ki C w [0] [] rfl rfl (by decide) (by decide) (va_runV (As := [.int 0, .int 1]) (rest := []) (xfix C) (c46_X6_start l G cy sa sv h0 h1 h2 h3 h4 h5 h6 h7 (xtr C) _) (cwV 2 (xhts C) (xgV (maxL := 0) (cc := ⟨#[]⟩) (ret := none) gw_114 gw_115 gw_116 gw_58 gc_X6_start) rfl rfl rfl (by decide +kernel) ⟨(Nat.le_of_ble_eq_true rfl), (Nat.le_of_ble_eq_true rfl)⟩) (xPV C w [0] rfl (by decide) (ci := 10) (q0 := 0) rfl rfl) rfl rfl hl.1 rfl (lv_room (Nat.le_of_ble_eq_true rfl)) dX6_ofPager_6 ⟨(Nat.le_of_ble_eq_true rfl), (Nat.le_of_ble_eq_true rfl)⟩) (fun f3981 H locs w => ?_)
  have w : xW G A s [(h0, .inr (10, [.ref h1, .ref h2, .ref h3, .ref h4, .ref h5, .ref h6, .ref h7, .int 0, .int 0]))] H _ := w
  refine lv_if_ne (tgt := 34) C.1 C.2.1 dX6_ofPager_9 (by decide) (fun c9 => absurd (by decide) c9) (fun _ => ?_)
  refine lv_aload_n C.1 C.2.1 dX6_ofPager_12 rfl (lv_at hl 0 rfl) ?_
  refine lv_iload_n C.1 C.2.1 dX6_ofPager_13 rfl (lv_at hl 2 rfl) ?_
  refine lv_if_lt (tgt := 22) C.1 C.2.1 dX6_ofPager_14 (by decide) (fun _ => ?_) (fun c9 => absurd p0 c9)
  refine lv_iconst (v := 1) C.1 C.2.1 dX6_ofPager_22 (by decide) ?_
  refine lv_goto (tgt := 27) C.1 C.2.1 dX6_ofPager_23 (by decide) ?_
  refine lv_iconst (v := 2) C.1 C.2.1 dX6_ofPager_27 (by decide) ?_
  refine x_ki C w [0] [] rfl rfl (by decide) (by decide) (va_runV (As := [.int 1, .int 2]) (rest := []) (xfix C) (c149_X6_fails l G cy sa sv h0 h1 h2 h3 h4 h5 h6 h7 (xtr C) _) (cwV 2 (xhts C) (xgV (maxL := 0) (cc := ⟨#[]⟩) (ret := none) gw_203 gw_204 gw_205 gw_58 gc_X6_fails) rfl rfl rfl (by decide +kernel) ⟨(Nat.le_of_ble_eq_true rfl), (Nat.le_of_ble_eq_true rfl)⟩) (xPV C w [0] rfl (by decide) (ci := 10) (q0 := 0) rfl rfl) rfl rfl hl.1 rfl (lv_room (Nat.le_of_ble_eq_true rfl)) dX6_ofPager_28 ⟨(Nat.le_of_ble_eq_true rfl), (Nat.le_of_ble_eq_true rfl)⟩) (fun f3982 H locs w => ?_)
  have w : xW G A s [(h0, .inr (10, [.ref h1, .ref h2, .ref h3, .ref h4, .ref h5, .ref h6, .ref h7, .int 0, .int 2]))] H _ := w
  refine lv_if_eq (tgt := 38) C.1 C.2.1 dX6_ofPager_31 (by decide) (fun c9 => absurd c9 (by decide)) (fun _ => ?_)
  refine lv_iconst (v := 0) C.1 C.2.1 dX6_ofPager_34 (by decide) ?_
  refine lv_goto (tgt := 44) C.1 C.2.1 dX6_ofPager_35 (by decide) ?_
  exact x_iret C w hr (fun _ => 0) rfl rfl dX6_ofPager_44 (Nat.le_of_ble_eq_true rfl) (Nat.le_of_ble_eq_true rfl)
set_option maxHeartbeats 4000000 in
set_option maxRecDepth 100000 in
theorem c563_X6_ofPager (l : Launch) (G : va_G) (cy : Nat → ClassId) (sa : String → Nat → Nat) (sv : Nat → Nat) (h0 h1 h2 h3 h4 h5 h6 h7 : Nat) (v0 : Int32) (p0 : ¬ v0 < 0) (p1 : ¬ v0 ≤ 3) : xM l G cy sa sv yX6_ofPager (Cond.code yX6_ofPager cX6_ofPager 3 (some .int) :: XG) { frames := 9, cells := 0, slots := 0, locals := 272 } [.ref h0, .int 0, .int v0] [(h0, .inr (10, [.ref h1, .ref h2, .ref h3, .ref h4, .ref h5, .ref h6, .ref h7, .int 0, .int 0]))] (xQi G (fun f => [(h0, .inr (10, [.ref h1, .ref h2, .ref h3, .ref h4, .ref h5, .ref h6, .ref h7, .int 0, .int 2]))]) 0) := by
  refine xof (by decide) (Nat.le_of_ble_eq_true rfl) (fun p e s m below meth c A C w hr hn ls hl => ?_)
  have hl : lv_has ls 3 [(0, .ref h0), (1, .int 0), (2, .int v0)] := hl
  refine lv_aload_n C.1 C.2.1 dX6_ofPager_0 rfl (lv_at hl 0 rfl) ?_
  refine lv_iload_n C.1 C.2.1 dX6_ofPager_1 rfl (lv_at hl 1 rfl) ?_
  refine x_ki C w [] [0] rfl rfl (by decide) (by decide) (va_runS (As := [.int 0]) (rest := [.ref h0]) (xfix C) (c450_X6_isNoPager l G cy sa sv (xtr C) _) (va_cwS 1 (xhts C) (xgS gw_860 gw_861 gw_58 gc_X6_isNoPager) rfl rfl rfl (by decide +kernel) ⟨(Nat.le_of_ble_eq_true rfl), (Nat.le_of_ble_eq_true rfl)⟩) (xPS C w [] rfl (by decide)) rfl rfl hl.1 rfl (lv_room (Nat.le_of_ble_eq_true rfl)) dX6_ofPager_2 ⟨(Nat.le_of_ble_eq_true rfl), (Nat.le_of_ble_eq_true rfl)⟩) (fun f3993 H locs w => ?_)
  have w : xW G A s [(h0, .inr (10, [.ref h1, .ref h2, .ref h3, .ref h4, .ref h5, .ref h6, .ref h7, .int 0, .int 0]))] H _ := w
  refine lv_iconst (v := 1) C.1 C.2.1 dX6_ofPager_5 (by decide) ?_
  refine x_ki C w [0] [] rfl rfl (by decide) (by decide) (va_runV (As := [.int 0, .int 1]) (rest := []) (xfix C) (c46_X6_start l G cy sa sv h0 h1 h2 h3 h4 h5 h6 h7 (xtr C) _) (cwV 2 (xhts C) (xgV (maxL := 0) (cc := ⟨#[]⟩) (ret := none) gw_114 gw_115 gw_116 gw_58 gc_X6_start) rfl rfl rfl (by decide +kernel) ⟨(Nat.le_of_ble_eq_true rfl), (Nat.le_of_ble_eq_true rfl)⟩) (xPV C w [0] rfl (by decide) (ci := 10) (q0 := 0) rfl rfl) rfl rfl hl.1 rfl (lv_room (Nat.le_of_ble_eq_true rfl)) dX6_ofPager_6 ⟨(Nat.le_of_ble_eq_true rfl), (Nat.le_of_ble_eq_true rfl)⟩) (fun f3994 H locs w => ?_)
  have w : xW G A s [(h0, .inr (10, [.ref h1, .ref h2, .ref h3, .ref h4, .ref h5, .ref h6, .ref h7, .int 0, .int 0]))] H _ := w
  refine lv_if_ne (tgt := 34) C.1 C.2.1 dX6_ofPager_9 (by decide) (fun c9 => absurd (by decide) c9) (fun _ => ?_)
  refine lv_aload_n C.1 C.2.1 dX6_ofPager_12 rfl (lv_at hl 0 rfl) ?_
  refine lv_iload_n C.1 C.2.1 dX6_ofPager_13 rfl (lv_at hl 2 rfl) ?_
  refine lv_if_lt (tgt := 22) C.1 C.2.1 dX6_ofPager_14 (by decide) (fun c9 => absurd c9 p0) (fun _ => ?_)
  refine lv_iload_n C.1 C.2.1 dX6_ofPager_17 rfl (lv_at hl 2 rfl) ?_
  refine lv_iconst (v := 3) C.1 C.2.1 dX6_ofPager_18 (by decide) ?_
  refine lv_icmp_le (tgt := 26) C.1 C.2.1 dX6_ofPager_19 (by decide) (fun c9 => absurd c9 p1) (fun _ => ?_)
  refine lv_iconst (v := 1) C.1 C.2.1 dX6_ofPager_22 (by decide) ?_
  refine lv_goto (tgt := 27) C.1 C.2.1 dX6_ofPager_23 (by decide) ?_
  refine lv_iconst (v := 2) C.1 C.2.1 dX6_ofPager_27 (by decide) ?_
  refine x_ki C w [0] [] rfl rfl (by decide) (by decide) (va_runV (As := [.int 1, .int 2]) (rest := []) (xfix C) (c149_X6_fails l G cy sa sv h0 h1 h2 h3 h4 h5 h6 h7 (xtr C) _) (cwV 2 (xhts C) (xgV (maxL := 0) (cc := ⟨#[]⟩) (ret := none) gw_203 gw_204 gw_205 gw_58 gc_X6_fails) rfl rfl rfl (by decide +kernel) ⟨(Nat.le_of_ble_eq_true rfl), (Nat.le_of_ble_eq_true rfl)⟩) (xPV C w [0] rfl (by decide) (ci := 10) (q0 := 0) rfl rfl) rfl rfl hl.1 rfl (lv_room (Nat.le_of_ble_eq_true rfl)) dX6_ofPager_28 ⟨(Nat.le_of_ble_eq_true rfl), (Nat.le_of_ble_eq_true rfl)⟩) (fun f3995 H locs w => ?_)
  have w : xW G A s [(h0, .inr (10, [.ref h1, .ref h2, .ref h3, .ref h4, .ref h5, .ref h6, .ref h7, .int 0, .int 2]))] H _ := w
  refine lv_if_eq (tgt := 38) C.1 C.2.1 dX6_ofPager_31 (by decide) (fun c9 => absurd c9 (by decide)) (fun _ => ?_)
  refine lv_iconst (v := 0) C.1 C.2.1 dX6_ofPager_34 (by decide) ?_
  refine lv_goto (tgt := 44) C.1 C.2.1 dX6_ofPager_35 (by decide) ?_
  exact x_iret C w hr (fun _ => 0) rfl rfl dX6_ofPager_44 (Nat.le_of_ble_eq_true rfl) (Nat.le_of_ble_eq_true rfl)
set_option maxHeartbeats 4000000 in
set_option maxRecDepth 100000 in
theorem c564_X4_ofPager (l : Launch) (G : va_G) (cy : Nat → ClassId) (sa : String → Nat → Nat) (sv : Nat → Nat) (h0 h1 h2 h3 h4 h5 h6 h7 h8 h9 h10 : Nat) (v0 : Int32) (p0 : (v0).toInt < 0 ∨ 3 < (v0).toInt) : xX l G cy sa sv yX4_ofPager (Cond.code yX4_ofPager cX4_ofPager 4 (some .int) :: XG) { frames := 9, cells := 1, slots := 6, locals := 271 } [.ref h0, .int 1, .int v0] [(h0, .inr (8, [.ref h2, .ref h3, .ref h4, .ref h5, .ref h1, .int 0, .ref h6, .ref h7])), (h1, .inl (cy 3, 3, .inr (.inr (.inr (.inr (va_up (va_up (va_up (fun _ => none) 0 (some h8)) 1 (some h9)) 2 (some h10)))))))] (fun f => [(h0, .inr (8, [.ref h2, .ref h3, .ref h4, .ref h5, .ref h1, .int 0, .ref h6, .ref h7])), (h1, .inl (cy 3, 3, .inr (.inr (.inr (.inr (va_up (va_up (va_up (fun _ => none) 0 (some h8)) 1 (some h9)) 2 (some h10)))))))]) "java/lang/IllegalArgumentException" := by
  refine xofX (by decide) (Nat.le_of_ble_eq_true rfl) (fun p e s m below meth c A C w hno ls hl => ?_)
  have hl : lv_has ls 4 [(0, .ref h0), (1, .int 1), (2, .int v0)] := hl
  refine lv_aload_n C.1 C.2.1 dX4_ofPager_0 rfl (lv_at hl 0 rfl) ?_
  refine lv_iload_n C.1 C.2.1 dX4_ofPager_1 rfl (lv_at hl 1 rfl) ?_
  refine x_kr C w [0, 1] [] rfl rfl (by decide) (by decide) (va_runV (As := [.int 1]) (rest := []) (xfix C) (c452_X4_pagerOf l G cy sa sv h0 h1 h2 h3 h4 h5 h6 h7 h8 h9 h10 (xtr C) _) (cwV 1 (xhts C) (xgV (maxL := 0) (cc := ⟨#[]⟩) (ret := none) gw_842 gw_843 gw_844 gw_2 gc_X4_pagerOf) rfl rfl rfl (by decide +kernel) ⟨(Nat.le_of_ble_eq_true rfl), (Nat.le_of_ble_eq_true rfl)⟩) (xPV C w [0, 1] rfl (by decide) (ci := 8) (q0 := 0) rfl rfl) rfl rfl hl.1 rfl (lv_room (Nat.le_of_ble_eq_true rfl)) dX4_ofPager_2 ⟨(Nat.le_of_ble_eq_true rfl), (Nat.le_of_ble_eq_true rfl)⟩) (fun f4003 H locs w => ?_)
  have w : xW G A s [(h0, .inr (8, [.ref h2, .ref h3, .ref h4, .ref h5, .ref h1, .int 0, .ref h6, .ref h7])), (h1, .inl (cy 3, 3, .inr (.inr (.inr (.inr (va_up (va_up (va_up (fun _ => none) 0 (some h8)) 1 (some h9)) 2 (some h10)))))))] H _ := w
  refine lv_astore_n (lv' := [(3, .ref h9), (0, .ref h0), (1, .int 1), (2, .int v0)]) C.1 C.2.1 dX4_ofPager_5 rfl hl (by decide) rfl (fun ls hl => ?_)
  refine lv_iload_n C.1 C.2.1 dX4_ofPager_6 rfl (lv_at hl 3 rfl) ?_
  refine lv_tableOut (tgt := 76) C.1 C.2.1 dX4_ofPager_7 p0 (by decide) ?_
  exact x_thr C w hno hl.1 (by decide) (List.mem_cons_of_mem _ gw_95) (List.mem_cons_of_mem _ gw_96) (tx := "what is not 0 to 3") (List.mem_of_getElem? (i := 5) rfl) (xat_203 C (fun w h => List.mem_cons_of_mem _ h)) xatg_203 dX4_ofPager_76 dX4_ofPager_79 dX4_ofPager_80 dX4_ofPager_82 dX4_ofPager_85 (Nat.le_of_ble_eq_true rfl) (Nat.le_of_ble_eq_true rfl) (Nat.le_of_ble_eq_true rfl) (Nat.le_of_ble_eq_true rfl) rfl rfl (fun _ => 0) rfl
set_option maxHeartbeats 4000000 in
set_option maxRecDepth 100000 in
theorem c565_L_ofPager (l : Launch) (G : va_G) (cy : Nat → ClassId) (sa : String → Nat → Nat) (sv : Nat → Nat) (h0 h1 h2 h3 h4 h5 h6 h7 h8 h9 h10 h11 : Nat) (v0 : Int32) (p0 : (v0).toInt < 0 ∨ 3 < (v0).toInt) : xM l G cy sa sv yL_ofPager (Cond.codeWith yL_ofPager cL_ofPager 5 (some .int) [(0, 11, 14, 91), (0, 11, 18, 19)] :: XG) { frames := 10, cells := 1, slots := 6, locals := 294 } [.ref h0, .int 1, .int v0, .ref h1] [(h0, .inr (8, [.ref h3, .ref h4, .ref h5, .ref h6, .ref h2, .int 0, .ref h7, .ref h8])), (h2, .inl (cy 3, 3, .inr (.inr (.inr (.inr (va_up (va_up (va_up (fun _ => none) 0 (some h9)) 1 (some h10)) 2 (some h11)))))))] (xQi G (fun f => [(h0, .inr (8, [.ref h3, .ref h4, .ref h5, .ref h6, .ref h2, .int 0, .ref h7, .ref h8])), (h2, .inl (cy 3, 3, .inr (.inr (.inr (.inr (va_up (va_up (va_up (fun _ => none) 0 (some h9)) 1 (some h10)) 2 (some h11)))))))]) 2) := by
  refine xofH (by decide) (Nat.le_of_ble_eq_true rfl) (fun p e s m below meth c A C w hr hn hT ls hl => ?_)
  have hl : lv_has ls 5 [(0, .ref h0), (1, .int 1), (2, .int v0), (3, .ref h1)] := hl
  refine lv_aload_n C.1 C.2.1 dL_ofPager_0 rfl (lv_at hl 3 rfl) ?_
  refine lv_aload_n C.1 C.2.1 dL_ofPager_1 rfl (lv_at hl 0 rfl) ?_
  refine lv_iload_n C.1 C.2.1 dL_ofPager_2 rfl (lv_at hl 1 rfl) ?_
  refine lv_iload_n C.1 C.2.1 dL_ofPager_3 rfl (lv_at hl 2 rfl) ?_
  refine x_kx C w [0, 1] [] rfl rfl (by decide) (by decide) (vx_runV (As := [.int 1, .int v0]) (rest := [.ref h1]) (xfix C) (c564_X4_ofPager l G cy sa sv h0 h2 h3 h4 h5 h6 h7 h8 h9 h10 h11 v0 p0 (xtr C) _) (cwV 2 (xhts C) (xgV (maxL := 0) (cc := ⟨#[]⟩) (ret := none) gw_897 gw_898 gw_899 gw_2 gc_X4_ofPager) rfl rfl rfl (by decide +kernel) ⟨(Nat.le_of_ble_eq_true rfl), (Nat.le_of_ble_eq_true rfl)⟩) (xPV C w [0, 1] rfl (by decide) (ci := 8) (q0 := 0) rfl rfl) rfl rfl hl.1 rfl (lv_room (Nat.le_of_ble_eq_true rfl)) dL_ofPager_4 ⟨(Nat.le_of_ble_eq_true rfl), (Nat.le_of_ble_eq_true rfl)⟩) (fun f4004 H locs ce q9 w hce hcv hcl => ?_)
  have w : xW G A s [(h0, .inr (8, [.ref h3, .ref h4, .ref h5, .ref h6, .ref h2, .int 0, .ref h7, .ref h8])), (h2, .inl (cy 3, 3, .inr (.inr (.inr (.inr (va_up (va_up (va_up (fun _ => none) 0 (some h9)) 1 (some h10)) 2 (some h11)))))))] H _ := w
  refine vx_widen (k := 1) (n := 6) (Nat.le_of_ble_eq_true rfl) (Nat.le_of_ble_eq_true rfl) ?_
  refine vx_catch (xown C) [⟨0, 11, 14, 91⟩] ⟨0, 11, 18, 19⟩ [] hT (fun z hz => Or.inr (by cases List.mem_singleton.mp hz; exact ⟨by decide, "java/lang/IndexOutOfBoundsException", xhts C _ (List.mem_cons_of_mem _ gw_868), xs_n2 (xS C)⟩)) (by decide) (by decide) (xhts C _ (List.mem_cons_of_mem _ gw_104)) (va_any rfl (xs_c1 (xS C))) hce hcv hcl ?_
  refine lv_astore (lv' := [(4, .ref q9), (0, .ref h0), (1, .int 1), (2, .int v0), (3, .ref h1)]) C.1 C.2.1 dL_ofPager_18 hl (by decide) rfl (fun ls hl => ?_)
  refine lv_iconst (v := 2) C.1 C.2.1 dL_ofPager_20 (by decide) ?_
  exact x_iret C w hr (fun _ => 0) rfl rfl dL_ofPager_21 (Nat.le_of_ble_eq_true rfl) (Nat.le_of_ble_eq_true rfl)
set_option maxHeartbeats 4000000 in
set_option maxRecDepth 100000 in
theorem c566_X6_ofPager (l : Launch) (G : va_G) (cy : Nat → ClassId) (sa : String → Nat → Nat) (sv : Nat → Nat) (h0 h1 h2 h3 h4 h5 h6 h7 : Nat) (v0 : Int32) (p0 : v0 < 0) : xM l G cy sa sv yX6_ofPager (Cond.code yX6_ofPager cX6_ofPager 3 (some .int) :: XG) { frames := 9, cells := 0, slots := 0, locals := 272 } [.ref h0, .int 1, .int v0] [(h0, .inr (10, [.ref h1, .ref h2, .ref h3, .ref h4, .ref h5, .ref h6, .ref h7, .int 0, .int 0]))] (xQi G (fun f => [(h0, .inr (10, [.ref h1, .ref h2, .ref h3, .ref h4, .ref h5, .ref h6, .ref h7, .int 0, .int 2]))]) 0) := by
  refine xof (by decide) (Nat.le_of_ble_eq_true rfl) (fun p e s m below meth c A C w hr hn ls hl => ?_)
  have hl : lv_has ls 3 [(0, .ref h0), (1, .int 1), (2, .int v0)] := hl
  refine lv_aload_n C.1 C.2.1 dX6_ofPager_0 rfl (lv_at hl 0 rfl) ?_
  refine lv_iload_n C.1 C.2.1 dX6_ofPager_1 rfl (lv_at hl 1 rfl) ?_
  refine x_ki C w [] [0] rfl rfl (by decide) (by decide) (va_runS (As := [.int 1]) (rest := [.ref h0]) (xfix C) (c455_X6_isNoPager l G cy sa sv (xtr C) _) (va_cwS 1 (xhts C) (xgS gw_860 gw_861 gw_58 gc_X6_isNoPager) rfl rfl rfl (by decide +kernel) ⟨(Nat.le_of_ble_eq_true rfl), (Nat.le_of_ble_eq_true rfl)⟩) (xPS C w [] rfl (by decide)) rfl rfl hl.1 rfl (lv_room (Nat.le_of_ble_eq_true rfl)) dX6_ofPager_2 ⟨(Nat.le_of_ble_eq_true rfl), (Nat.le_of_ble_eq_true rfl)⟩) (fun f4007 H locs w => ?_)
  have w : xW G A s [(h0, .inr (10, [.ref h1, .ref h2, .ref h3, .ref h4, .ref h5, .ref h6, .ref h7, .int 0, .int 0]))] H _ := w
  refine lv_iconst (v := 1) C.1 C.2.1 dX6_ofPager_5 (by decide) ?_
  refine x_ki C w [0] [] rfl rfl (by decide) (by decide) (va_runV (As := [.int 0, .int 1]) (rest := []) (xfix C) (c46_X6_start l G cy sa sv h0 h1 h2 h3 h4 h5 h6 h7 (xtr C) _) (cwV 2 (xhts C) (xgV (maxL := 0) (cc := ⟨#[]⟩) (ret := none) gw_114 gw_115 gw_116 gw_58 gc_X6_start) rfl rfl rfl (by decide +kernel) ⟨(Nat.le_of_ble_eq_true rfl), (Nat.le_of_ble_eq_true rfl)⟩) (xPV C w [0] rfl (by decide) (ci := 10) (q0 := 0) rfl rfl) rfl rfl hl.1 rfl (lv_room (Nat.le_of_ble_eq_true rfl)) dX6_ofPager_6 ⟨(Nat.le_of_ble_eq_true rfl), (Nat.le_of_ble_eq_true rfl)⟩) (fun f4008 H locs w => ?_)
  have w : xW G A s [(h0, .inr (10, [.ref h1, .ref h2, .ref h3, .ref h4, .ref h5, .ref h6, .ref h7, .int 0, .int 0]))] H _ := w
  refine lv_if_ne (tgt := 34) C.1 C.2.1 dX6_ofPager_9 (by decide) (fun c9 => absurd (by decide) c9) (fun _ => ?_)
  refine lv_aload_n C.1 C.2.1 dX6_ofPager_12 rfl (lv_at hl 0 rfl) ?_
  refine lv_iload_n C.1 C.2.1 dX6_ofPager_13 rfl (lv_at hl 2 rfl) ?_
  refine lv_if_lt (tgt := 22) C.1 C.2.1 dX6_ofPager_14 (by decide) (fun _ => ?_) (fun c9 => absurd p0 c9)
  refine lv_iconst (v := 1) C.1 C.2.1 dX6_ofPager_22 (by decide) ?_
  refine lv_goto (tgt := 27) C.1 C.2.1 dX6_ofPager_23 (by decide) ?_
  refine lv_iconst (v := 2) C.1 C.2.1 dX6_ofPager_27 (by decide) ?_
  refine x_ki C w [0] [] rfl rfl (by decide) (by decide) (va_runV (As := [.int 1, .int 2]) (rest := []) (xfix C) (c149_X6_fails l G cy sa sv h0 h1 h2 h3 h4 h5 h6 h7 (xtr C) _) (cwV 2 (xhts C) (xgV (maxL := 0) (cc := ⟨#[]⟩) (ret := none) gw_203 gw_204 gw_205 gw_58 gc_X6_fails) rfl rfl rfl (by decide +kernel) ⟨(Nat.le_of_ble_eq_true rfl), (Nat.le_of_ble_eq_true rfl)⟩) (xPV C w [0] rfl (by decide) (ci := 10) (q0 := 0) rfl rfl) rfl rfl hl.1 rfl (lv_room (Nat.le_of_ble_eq_true rfl)) dX6_ofPager_28 ⟨(Nat.le_of_ble_eq_true rfl), (Nat.le_of_ble_eq_true rfl)⟩) (fun f4009 H locs w => ?_)
  have w : xW G A s [(h0, .inr (10, [.ref h1, .ref h2, .ref h3, .ref h4, .ref h5, .ref h6, .ref h7, .int 0, .int 2]))] H _ := w
  refine lv_if_eq (tgt := 38) C.1 C.2.1 dX6_ofPager_31 (by decide) (fun c9 => absurd c9 (by decide)) (fun _ => ?_)
  refine lv_iconst (v := 0) C.1 C.2.1 dX6_ofPager_34 (by decide) ?_
  refine lv_goto (tgt := 44) C.1 C.2.1 dX6_ofPager_35 (by decide) ?_
  exact x_iret C w hr (fun _ => 0) rfl rfl dX6_ofPager_44 (Nat.le_of_ble_eq_true rfl) (Nat.le_of_ble_eq_true rfl)
set_option maxHeartbeats 4000000 in
set_option maxRecDepth 100000 in
theorem c567_X6_ofPager (l : Launch) (G : va_G) (cy : Nat → ClassId) (sa : String → Nat → Nat) (sv : Nat → Nat) (h0 h1 h2 h3 h4 h5 h6 h7 : Nat) (v0 : Int32) (p0 : ¬ v0 < 0) (p1 : ¬ v0 ≤ 3) : xM l G cy sa sv yX6_ofPager (Cond.code yX6_ofPager cX6_ofPager 3 (some .int) :: XG) { frames := 9, cells := 0, slots := 0, locals := 272 } [.ref h0, .int 1, .int v0] [(h0, .inr (10, [.ref h1, .ref h2, .ref h3, .ref h4, .ref h5, .ref h6, .ref h7, .int 0, .int 0]))] (xQi G (fun f => [(h0, .inr (10, [.ref h1, .ref h2, .ref h3, .ref h4, .ref h5, .ref h6, .ref h7, .int 0, .int 2]))]) 0) := by
  refine xof (by decide) (Nat.le_of_ble_eq_true rfl) (fun p e s m below meth c A C w hr hn ls hl => ?_)
  have hl : lv_has ls 3 [(0, .ref h0), (1, .int 1), (2, .int v0)] := hl
  refine lv_aload_n C.1 C.2.1 dX6_ofPager_0 rfl (lv_at hl 0 rfl) ?_
  refine lv_iload_n C.1 C.2.1 dX6_ofPager_1 rfl (lv_at hl 1 rfl) ?_
  refine x_ki C w [] [0] rfl rfl (by decide) (by decide) (va_runS (As := [.int 1]) (rest := [.ref h0]) (xfix C) (c455_X6_isNoPager l G cy sa sv (xtr C) _) (va_cwS 1 (xhts C) (xgS gw_860 gw_861 gw_58 gc_X6_isNoPager) rfl rfl rfl (by decide +kernel) ⟨(Nat.le_of_ble_eq_true rfl), (Nat.le_of_ble_eq_true rfl)⟩) (xPS C w [] rfl (by decide)) rfl rfl hl.1 rfl (lv_room (Nat.le_of_ble_eq_true rfl)) dX6_ofPager_2 ⟨(Nat.le_of_ble_eq_true rfl), (Nat.le_of_ble_eq_true rfl)⟩) (fun f4020 H locs w => ?_)
  have w : xW G A s [(h0, .inr (10, [.ref h1, .ref h2, .ref h3, .ref h4, .ref h5, .ref h6, .ref h7, .int 0, .int 0]))] H _ := w
  refine lv_iconst (v := 1) C.1 C.2.1 dX6_ofPager_5 (by decide) ?_
  refine x_ki C w [0] [] rfl rfl (by decide) (by decide) (va_runV (As := [.int 0, .int 1]) (rest := []) (xfix C) (c46_X6_start l G cy sa sv h0 h1 h2 h3 h4 h5 h6 h7 (xtr C) _) (cwV 2 (xhts C) (xgV (maxL := 0) (cc := ⟨#[]⟩) (ret := none) gw_114 gw_115 gw_116 gw_58 gc_X6_start) rfl rfl rfl (by decide +kernel) ⟨(Nat.le_of_ble_eq_true rfl), (Nat.le_of_ble_eq_true rfl)⟩) (xPV C w [0] rfl (by decide) (ci := 10) (q0 := 0) rfl rfl) rfl rfl hl.1 rfl (lv_room (Nat.le_of_ble_eq_true rfl)) dX6_ofPager_6 ⟨(Nat.le_of_ble_eq_true rfl), (Nat.le_of_ble_eq_true rfl)⟩) (fun f4021 H locs w => ?_)
  have w : xW G A s [(h0, .inr (10, [.ref h1, .ref h2, .ref h3, .ref h4, .ref h5, .ref h6, .ref h7, .int 0, .int 0]))] H _ := w
  refine lv_if_ne (tgt := 34) C.1 C.2.1 dX6_ofPager_9 (by decide) (fun c9 => absurd (by decide) c9) (fun _ => ?_)
  refine lv_aload_n C.1 C.2.1 dX6_ofPager_12 rfl (lv_at hl 0 rfl) ?_
  refine lv_iload_n C.1 C.2.1 dX6_ofPager_13 rfl (lv_at hl 2 rfl) ?_
  refine lv_if_lt (tgt := 22) C.1 C.2.1 dX6_ofPager_14 (by decide) (fun c9 => absurd c9 p0) (fun _ => ?_)
  refine lv_iload_n C.1 C.2.1 dX6_ofPager_17 rfl (lv_at hl 2 rfl) ?_
  refine lv_iconst (v := 3) C.1 C.2.1 dX6_ofPager_18 (by decide) ?_
  refine lv_icmp_le (tgt := 26) C.1 C.2.1 dX6_ofPager_19 (by decide) (fun c9 => absurd c9 p1) (fun _ => ?_)
  refine lv_iconst (v := 1) C.1 C.2.1 dX6_ofPager_22 (by decide) ?_
  refine lv_goto (tgt := 27) C.1 C.2.1 dX6_ofPager_23 (by decide) ?_
  refine lv_iconst (v := 2) C.1 C.2.1 dX6_ofPager_27 (by decide) ?_
  refine x_ki C w [0] [] rfl rfl (by decide) (by decide) (va_runV (As := [.int 1, .int 2]) (rest := []) (xfix C) (c149_X6_fails l G cy sa sv h0 h1 h2 h3 h4 h5 h6 h7 (xtr C) _) (cwV 2 (xhts C) (xgV (maxL := 0) (cc := ⟨#[]⟩) (ret := none) gw_203 gw_204 gw_205 gw_58 gc_X6_fails) rfl rfl rfl (by decide +kernel) ⟨(Nat.le_of_ble_eq_true rfl), (Nat.le_of_ble_eq_true rfl)⟩) (xPV C w [0] rfl (by decide) (ci := 10) (q0 := 0) rfl rfl) rfl rfl hl.1 rfl (lv_room (Nat.le_of_ble_eq_true rfl)) dX6_ofPager_28 ⟨(Nat.le_of_ble_eq_true rfl), (Nat.le_of_ble_eq_true rfl)⟩) (fun f4022 H locs w => ?_)
  have w : xW G A s [(h0, .inr (10, [.ref h1, .ref h2, .ref h3, .ref h4, .ref h5, .ref h6, .ref h7, .int 0, .int 2]))] H _ := w
  refine lv_if_eq (tgt := 38) C.1 C.2.1 dX6_ofPager_31 (by decide) (fun c9 => absurd c9 (by decide)) (fun _ => ?_)
  refine lv_iconst (v := 0) C.1 C.2.1 dX6_ofPager_34 (by decide) ?_
  refine lv_goto (tgt := 44) C.1 C.2.1 dX6_ofPager_35 (by decide) ?_
  exact x_iret C w hr (fun _ => 0) rfl rfl dX6_ofPager_44 (Nat.le_of_ble_eq_true rfl) (Nat.le_of_ble_eq_true rfl)
set_option maxHeartbeats 4000000 in
set_option maxRecDepth 100000 in
theorem c568_X4_ofPager (l : Launch) (G : va_G) (cy : Nat → ClassId) (sa : String → Nat → Nat) (sv : Nat → Nat) (h0 h1 h2 h3 h4 h5 h6 h7 h8 h9 h10 : Nat) (v0 : Int32) (p0 : (v0).toInt < 0 ∨ 3 < (v0).toInt) : xX l G cy sa sv yX4_ofPager (Cond.code yX4_ofPager cX4_ofPager 4 (some .int) :: XG) { frames := 9, cells := 1, slots := 6, locals := 271 } [.ref h0, .int 2, .int v0] [(h0, .inr (8, [.ref h2, .ref h3, .ref h4, .ref h5, .ref h1, .int 0, .ref h6, .ref h7])), (h1, .inl (cy 3, 3, .inr (.inr (.inr (.inr (va_up (va_up (va_up (fun _ => none) 0 (some h8)) 1 (some h9)) 2 (some h10)))))))] (fun f => [(h0, .inr (8, [.ref h2, .ref h3, .ref h4, .ref h5, .ref h1, .int 0, .ref h6, .ref h7])), (h1, .inl (cy 3, 3, .inr (.inr (.inr (.inr (va_up (va_up (va_up (fun _ => none) 0 (some h8)) 1 (some h9)) 2 (some h10)))))))]) "java/lang/IllegalArgumentException" := by
  refine xofX (by decide) (Nat.le_of_ble_eq_true rfl) (fun p e s m below meth c A C w hno ls hl => ?_)
  have hl : lv_has ls 4 [(0, .ref h0), (1, .int 2), (2, .int v0)] := hl
  refine lv_aload_n C.1 C.2.1 dX4_ofPager_0 rfl (lv_at hl 0 rfl) ?_
  refine lv_iload_n C.1 C.2.1 dX4_ofPager_1 rfl (lv_at hl 1 rfl) ?_
  refine x_kr C w [0, 1] [] rfl rfl (by decide) (by decide) (va_runV (As := [.int 2]) (rest := []) (xfix C) (c457_X4_pagerOf l G cy sa sv h0 h1 h2 h3 h4 h5 h6 h7 h8 h9 h10 (xtr C) _) (cwV 1 (xhts C) (xgV (maxL := 0) (cc := ⟨#[]⟩) (ret := none) gw_842 gw_843 gw_844 gw_2 gc_X4_pagerOf) rfl rfl rfl (by decide +kernel) ⟨(Nat.le_of_ble_eq_true rfl), (Nat.le_of_ble_eq_true rfl)⟩) (xPV C w [0, 1] rfl (by decide) (ci := 8) (q0 := 0) rfl rfl) rfl rfl hl.1 rfl (lv_room (Nat.le_of_ble_eq_true rfl)) dX4_ofPager_2 ⟨(Nat.le_of_ble_eq_true rfl), (Nat.le_of_ble_eq_true rfl)⟩) (fun f4030 H locs w => ?_)
  have w : xW G A s [(h0, .inr (8, [.ref h2, .ref h3, .ref h4, .ref h5, .ref h1, .int 0, .ref h6, .ref h7])), (h1, .inl (cy 3, 3, .inr (.inr (.inr (.inr (va_up (va_up (va_up (fun _ => none) 0 (some h8)) 1 (some h9)) 2 (some h10)))))))] H _ := w
  refine lv_astore_n (lv' := [(3, .ref h10), (0, .ref h0), (1, .int 2), (2, .int v0)]) C.1 C.2.1 dX4_ofPager_5 rfl hl (by decide) rfl (fun ls hl => ?_)
  refine lv_iload_n C.1 C.2.1 dX4_ofPager_6 rfl (lv_at hl 3 rfl) ?_
  refine lv_tableOut (tgt := 76) C.1 C.2.1 dX4_ofPager_7 p0 (by decide) ?_
  exact x_thr C w hno hl.1 (by decide) (List.mem_cons_of_mem _ gw_95) (List.mem_cons_of_mem _ gw_96) (tx := "what is not 0 to 3") (List.mem_of_getElem? (i := 5) rfl) (xat_203 C (fun w h => List.mem_cons_of_mem _ h)) xatg_203 dX4_ofPager_76 dX4_ofPager_79 dX4_ofPager_80 dX4_ofPager_82 dX4_ofPager_85 (Nat.le_of_ble_eq_true rfl) (Nat.le_of_ble_eq_true rfl) (Nat.le_of_ble_eq_true rfl) (Nat.le_of_ble_eq_true rfl) rfl rfl (fun _ => 0) rfl
set_option maxHeartbeats 4000000 in
set_option maxRecDepth 100000 in
theorem c569_L_ofPager (l : Launch) (G : va_G) (cy : Nat → ClassId) (sa : String → Nat → Nat) (sv : Nat → Nat) (h0 h1 h2 h3 h4 h5 h6 h7 h8 h9 h10 h11 : Nat) (v0 : Int32) (p0 : (v0).toInt < 0 ∨ 3 < (v0).toInt) : xM l G cy sa sv yL_ofPager (Cond.codeWith yL_ofPager cL_ofPager 5 (some .int) [(0, 11, 14, 91), (0, 11, 18, 19)] :: XG) { frames := 10, cells := 1, slots := 6, locals := 294 } [.ref h0, .int 2, .int v0, .ref h1] [(h0, .inr (8, [.ref h3, .ref h4, .ref h5, .ref h6, .ref h2, .int 0, .ref h7, .ref h8])), (h2, .inl (cy 3, 3, .inr (.inr (.inr (.inr (va_up (va_up (va_up (fun _ => none) 0 (some h9)) 1 (some h10)) 2 (some h11)))))))] (xQi G (fun f => [(h0, .inr (8, [.ref h3, .ref h4, .ref h5, .ref h6, .ref h2, .int 0, .ref h7, .ref h8])), (h2, .inl (cy 3, 3, .inr (.inr (.inr (.inr (va_up (va_up (va_up (fun _ => none) 0 (some h9)) 1 (some h10)) 2 (some h11)))))))]) 2) := by
  refine xofH (by decide) (Nat.le_of_ble_eq_true rfl) (fun p e s m below meth c A C w hr hn hT ls hl => ?_)
  have hl : lv_has ls 5 [(0, .ref h0), (1, .int 2), (2, .int v0), (3, .ref h1)] := hl
  refine lv_aload_n C.1 C.2.1 dL_ofPager_0 rfl (lv_at hl 3 rfl) ?_
  refine lv_aload_n C.1 C.2.1 dL_ofPager_1 rfl (lv_at hl 0 rfl) ?_
  refine lv_iload_n C.1 C.2.1 dL_ofPager_2 rfl (lv_at hl 1 rfl) ?_
  refine lv_iload_n C.1 C.2.1 dL_ofPager_3 rfl (lv_at hl 2 rfl) ?_
  refine x_kx C w [0, 1] [] rfl rfl (by decide) (by decide) (vx_runV (As := [.int 2, .int v0]) (rest := [.ref h1]) (xfix C) (c568_X4_ofPager l G cy sa sv h0 h2 h3 h4 h5 h6 h7 h8 h9 h10 h11 v0 p0 (xtr C) _) (cwV 2 (xhts C) (xgV (maxL := 0) (cc := ⟨#[]⟩) (ret := none) gw_897 gw_898 gw_899 gw_2 gc_X4_ofPager) rfl rfl rfl (by decide +kernel) ⟨(Nat.le_of_ble_eq_true rfl), (Nat.le_of_ble_eq_true rfl)⟩) (xPV C w [0, 1] rfl (by decide) (ci := 8) (q0 := 0) rfl rfl) rfl rfl hl.1 rfl (lv_room (Nat.le_of_ble_eq_true rfl)) dL_ofPager_4 ⟨(Nat.le_of_ble_eq_true rfl), (Nat.le_of_ble_eq_true rfl)⟩) (fun f4031 H locs ce q9 w hce hcv hcl => ?_)
  have w : xW G A s [(h0, .inr (8, [.ref h3, .ref h4, .ref h5, .ref h6, .ref h2, .int 0, .ref h7, .ref h8])), (h2, .inl (cy 3, 3, .inr (.inr (.inr (.inr (va_up (va_up (va_up (fun _ => none) 0 (some h9)) 1 (some h10)) 2 (some h11)))))))] H _ := w
  refine vx_widen (k := 1) (n := 6) (Nat.le_of_ble_eq_true rfl) (Nat.le_of_ble_eq_true rfl) ?_
  refine vx_catch (xown C) [⟨0, 11, 14, 91⟩] ⟨0, 11, 18, 19⟩ [] hT (fun z hz => Or.inr (by cases List.mem_singleton.mp hz; exact ⟨by decide, "java/lang/IndexOutOfBoundsException", xhts C _ (List.mem_cons_of_mem _ gw_868), xs_n2 (xS C)⟩)) (by decide) (by decide) (xhts C _ (List.mem_cons_of_mem _ gw_104)) (va_any rfl (xs_c1 (xS C))) hce hcv hcl ?_
  refine lv_astore (lv' := [(4, .ref q9), (0, .ref h0), (1, .int 2), (2, .int v0), (3, .ref h1)]) C.1 C.2.1 dL_ofPager_18 hl (by decide) rfl (fun ls hl => ?_)
  refine lv_iconst (v := 2) C.1 C.2.1 dL_ofPager_20 (by decide) ?_
  exact x_iret C w hr (fun _ => 0) rfl rfl dL_ofPager_21 (Nat.le_of_ble_eq_true rfl) (Nat.le_of_ble_eq_true rfl)
set_option maxHeartbeats 4000000 in
set_option maxRecDepth 100000 in
theorem c570_X6_ofPager (l : Launch) (G : va_G) (cy : Nat → ClassId) (sa : String → Nat → Nat) (sv : Nat → Nat) (h0 h1 h2 h3 h4 h5 h6 h7 : Nat) (v0 : Int32) (p0 : v0 < 0) : xM l G cy sa sv yX6_ofPager (Cond.code yX6_ofPager cX6_ofPager 3 (some .int) :: XG) { frames := 9, cells := 0, slots := 0, locals := 272 } [.ref h0, .int 2, .int v0] [(h0, .inr (10, [.ref h1, .ref h2, .ref h3, .ref h4, .ref h5, .ref h6, .ref h7, .int 0, .int 0]))] (xQi G (fun f => [(h0, .inr (10, [.ref h1, .ref h2, .ref h3, .ref h4, .ref h5, .ref h6, .ref h7, .int 0, .int 2]))]) 0) := by
  refine xof (by decide) (Nat.le_of_ble_eq_true rfl) (fun p e s m below meth c A C w hr hn ls hl => ?_)
  have hl : lv_has ls 3 [(0, .ref h0), (1, .int 2), (2, .int v0)] := hl
  refine lv_aload_n C.1 C.2.1 dX6_ofPager_0 rfl (lv_at hl 0 rfl) ?_
  refine lv_iload_n C.1 C.2.1 dX6_ofPager_1 rfl (lv_at hl 1 rfl) ?_
  refine x_ki C w [] [0] rfl rfl (by decide) (by decide) (va_runS (As := [.int 2]) (rest := [.ref h0]) (xfix C) (c460_X6_isNoPager l G cy sa sv (xtr C) _) (va_cwS 1 (xhts C) (xgS gw_860 gw_861 gw_58 gc_X6_isNoPager) rfl rfl rfl (by decide +kernel) ⟨(Nat.le_of_ble_eq_true rfl), (Nat.le_of_ble_eq_true rfl)⟩) (xPS C w [] rfl (by decide)) rfl rfl hl.1 rfl (lv_room (Nat.le_of_ble_eq_true rfl)) dX6_ofPager_2 ⟨(Nat.le_of_ble_eq_true rfl), (Nat.le_of_ble_eq_true rfl)⟩) (fun f4034 H locs w => ?_)
  have w : xW G A s [(h0, .inr (10, [.ref h1, .ref h2, .ref h3, .ref h4, .ref h5, .ref h6, .ref h7, .int 0, .int 0]))] H _ := w
  refine lv_iconst (v := 1) C.1 C.2.1 dX6_ofPager_5 (by decide) ?_
  refine x_ki C w [0] [] rfl rfl (by decide) (by decide) (va_runV (As := [.int 0, .int 1]) (rest := []) (xfix C) (c46_X6_start l G cy sa sv h0 h1 h2 h3 h4 h5 h6 h7 (xtr C) _) (cwV 2 (xhts C) (xgV (maxL := 0) (cc := ⟨#[]⟩) (ret := none) gw_114 gw_115 gw_116 gw_58 gc_X6_start) rfl rfl rfl (by decide +kernel) ⟨(Nat.le_of_ble_eq_true rfl), (Nat.le_of_ble_eq_true rfl)⟩) (xPV C w [0] rfl (by decide) (ci := 10) (q0 := 0) rfl rfl) rfl rfl hl.1 rfl (lv_room (Nat.le_of_ble_eq_true rfl)) dX6_ofPager_6 ⟨(Nat.le_of_ble_eq_true rfl), (Nat.le_of_ble_eq_true rfl)⟩) (fun f4035 H locs w => ?_)
  have w : xW G A s [(h0, .inr (10, [.ref h1, .ref h2, .ref h3, .ref h4, .ref h5, .ref h6, .ref h7, .int 0, .int 0]))] H _ := w
  refine lv_if_ne (tgt := 34) C.1 C.2.1 dX6_ofPager_9 (by decide) (fun c9 => absurd (by decide) c9) (fun _ => ?_)
  refine lv_aload_n C.1 C.2.1 dX6_ofPager_12 rfl (lv_at hl 0 rfl) ?_
  refine lv_iload_n C.1 C.2.1 dX6_ofPager_13 rfl (lv_at hl 2 rfl) ?_
  refine lv_if_lt (tgt := 22) C.1 C.2.1 dX6_ofPager_14 (by decide) (fun _ => ?_) (fun c9 => absurd p0 c9)
  refine lv_iconst (v := 1) C.1 C.2.1 dX6_ofPager_22 (by decide) ?_
  refine lv_goto (tgt := 27) C.1 C.2.1 dX6_ofPager_23 (by decide) ?_
  refine lv_iconst (v := 2) C.1 C.2.1 dX6_ofPager_27 (by decide) ?_
  refine x_ki C w [0] [] rfl rfl (by decide) (by decide) (va_runV (As := [.int 1, .int 2]) (rest := []) (xfix C) (c149_X6_fails l G cy sa sv h0 h1 h2 h3 h4 h5 h6 h7 (xtr C) _) (cwV 2 (xhts C) (xgV (maxL := 0) (cc := ⟨#[]⟩) (ret := none) gw_203 gw_204 gw_205 gw_58 gc_X6_fails) rfl rfl rfl (by decide +kernel) ⟨(Nat.le_of_ble_eq_true rfl), (Nat.le_of_ble_eq_true rfl)⟩) (xPV C w [0] rfl (by decide) (ci := 10) (q0 := 0) rfl rfl) rfl rfl hl.1 rfl (lv_room (Nat.le_of_ble_eq_true rfl)) dX6_ofPager_28 ⟨(Nat.le_of_ble_eq_true rfl), (Nat.le_of_ble_eq_true rfl)⟩) (fun f4036 H locs w => ?_)
  have w : xW G A s [(h0, .inr (10, [.ref h1, .ref h2, .ref h3, .ref h4, .ref h5, .ref h6, .ref h7, .int 0, .int 2]))] H _ := w
  refine lv_if_eq (tgt := 38) C.1 C.2.1 dX6_ofPager_31 (by decide) (fun c9 => absurd c9 (by decide)) (fun _ => ?_)
  refine lv_iconst (v := 0) C.1 C.2.1 dX6_ofPager_34 (by decide) ?_
  refine lv_goto (tgt := 44) C.1 C.2.1 dX6_ofPager_35 (by decide) ?_
  exact x_iret C w hr (fun _ => 0) rfl rfl dX6_ofPager_44 (Nat.le_of_ble_eq_true rfl) (Nat.le_of_ble_eq_true rfl)
set_option maxHeartbeats 4000000 in
set_option maxRecDepth 100000 in
theorem c571_X6_ofPager (l : Launch) (G : va_G) (cy : Nat → ClassId) (sa : String → Nat → Nat) (sv : Nat → Nat) (h0 h1 h2 h3 h4 h5 h6 h7 : Nat) (v0 : Int32) (p0 : ¬ v0 < 0) (p1 : ¬ v0 ≤ 3) : xM l G cy sa sv yX6_ofPager (Cond.code yX6_ofPager cX6_ofPager 3 (some .int) :: XG) { frames := 9, cells := 0, slots := 0, locals := 272 } [.ref h0, .int 2, .int v0] [(h0, .inr (10, [.ref h1, .ref h2, .ref h3, .ref h4, .ref h5, .ref h6, .ref h7, .int 0, .int 0]))] (xQi G (fun f => [(h0, .inr (10, [.ref h1, .ref h2, .ref h3, .ref h4, .ref h5, .ref h6, .ref h7, .int 0, .int 2]))]) 0) := by
  refine xof (by decide) (Nat.le_of_ble_eq_true rfl) (fun p e s m below meth c A C w hr hn ls hl => ?_)
  have hl : lv_has ls 3 [(0, .ref h0), (1, .int 2), (2, .int v0)] := hl
  refine lv_aload_n C.1 C.2.1 dX6_ofPager_0 rfl (lv_at hl 0 rfl) ?_
  refine lv_iload_n C.1 C.2.1 dX6_ofPager_1 rfl (lv_at hl 1 rfl) ?_
  refine x_ki C w [] [0] rfl rfl (by decide) (by decide) (va_runS (As := [.int 2]) (rest := [.ref h0]) (xfix C) (c460_X6_isNoPager l G cy sa sv (xtr C) _) (va_cwS 1 (xhts C) (xgS gw_860 gw_861 gw_58 gc_X6_isNoPager) rfl rfl rfl (by decide +kernel) ⟨(Nat.le_of_ble_eq_true rfl), (Nat.le_of_ble_eq_true rfl)⟩) (xPS C w [] rfl (by decide)) rfl rfl hl.1 rfl (lv_room (Nat.le_of_ble_eq_true rfl)) dX6_ofPager_2 ⟨(Nat.le_of_ble_eq_true rfl), (Nat.le_of_ble_eq_true rfl)⟩) (fun f4047 H locs w => ?_)
  have w : xW G A s [(h0, .inr (10, [.ref h1, .ref h2, .ref h3, .ref h4, .ref h5, .ref h6, .ref h7, .int 0, .int 0]))] H _ := w
  refine lv_iconst (v := 1) C.1 C.2.1 dX6_ofPager_5 (by decide) ?_
  refine x_ki C w [0] [] rfl rfl (by decide) (by decide) (va_runV (As := [.int 0, .int 1]) (rest := []) (xfix C) (c46_X6_start l G cy sa sv h0 h1 h2 h3 h4 h5 h6 h7 (xtr C) _) (cwV 2 (xhts C) (xgV (maxL := 0) (cc := ⟨#[]⟩) (ret := none) gw_114 gw_115 gw_116 gw_58 gc_X6_start) rfl rfl rfl (by decide +kernel) ⟨(Nat.le_of_ble_eq_true rfl), (Nat.le_of_ble_eq_true rfl)⟩) (xPV C w [0] rfl (by decide) (ci := 10) (q0 := 0) rfl rfl) rfl rfl hl.1 rfl (lv_room (Nat.le_of_ble_eq_true rfl)) dX6_ofPager_6 ⟨(Nat.le_of_ble_eq_true rfl), (Nat.le_of_ble_eq_true rfl)⟩) (fun f4048 H locs w => ?_)
  have w : xW G A s [(h0, .inr (10, [.ref h1, .ref h2, .ref h3, .ref h4, .ref h5, .ref h6, .ref h7, .int 0, .int 0]))] H _ := w
  refine lv_if_ne (tgt := 34) C.1 C.2.1 dX6_ofPager_9 (by decide) (fun c9 => absurd (by decide) c9) (fun _ => ?_)
  refine lv_aload_n C.1 C.2.1 dX6_ofPager_12 rfl (lv_at hl 0 rfl) ?_
  refine lv_iload_n C.1 C.2.1 dX6_ofPager_13 rfl (lv_at hl 2 rfl) ?_
  refine lv_if_lt (tgt := 22) C.1 C.2.1 dX6_ofPager_14 (by decide) (fun c9 => absurd c9 p0) (fun _ => ?_)
  refine lv_iload_n C.1 C.2.1 dX6_ofPager_17 rfl (lv_at hl 2 rfl) ?_
  refine lv_iconst (v := 3) C.1 C.2.1 dX6_ofPager_18 (by decide) ?_
  refine lv_icmp_le (tgt := 26) C.1 C.2.1 dX6_ofPager_19 (by decide) (fun c9 => absurd c9 p1) (fun _ => ?_)
  refine lv_iconst (v := 1) C.1 C.2.1 dX6_ofPager_22 (by decide) ?_
  refine lv_goto (tgt := 27) C.1 C.2.1 dX6_ofPager_23 (by decide) ?_
  refine lv_iconst (v := 2) C.1 C.2.1 dX6_ofPager_27 (by decide) ?_
  refine x_ki C w [0] [] rfl rfl (by decide) (by decide) (va_runV (As := [.int 1, .int 2]) (rest := []) (xfix C) (c149_X6_fails l G cy sa sv h0 h1 h2 h3 h4 h5 h6 h7 (xtr C) _) (cwV 2 (xhts C) (xgV (maxL := 0) (cc := ⟨#[]⟩) (ret := none) gw_203 gw_204 gw_205 gw_58 gc_X6_fails) rfl rfl rfl (by decide +kernel) ⟨(Nat.le_of_ble_eq_true rfl), (Nat.le_of_ble_eq_true rfl)⟩) (xPV C w [0] rfl (by decide) (ci := 10) (q0 := 0) rfl rfl) rfl rfl hl.1 rfl (lv_room (Nat.le_of_ble_eq_true rfl)) dX6_ofPager_28 ⟨(Nat.le_of_ble_eq_true rfl), (Nat.le_of_ble_eq_true rfl)⟩) (fun f4049 H locs w => ?_)
  have w : xW G A s [(h0, .inr (10, [.ref h1, .ref h2, .ref h3, .ref h4, .ref h5, .ref h6, .ref h7, .int 0, .int 2]))] H _ := w
  refine lv_if_eq (tgt := 38) C.1 C.2.1 dX6_ofPager_31 (by decide) (fun c9 => absurd c9 (by decide)) (fun _ => ?_)
  refine lv_iconst (v := 0) C.1 C.2.1 dX6_ofPager_34 (by decide) ?_
  refine lv_goto (tgt := 44) C.1 C.2.1 dX6_ofPager_35 (by decide) ?_
  exact x_iret C w hr (fun _ => 0) rfl rfl dX6_ofPager_44 (Nat.le_of_ble_eq_true rfl) (Nat.le_of_ble_eq_true rfl)
set_option maxHeartbeats 4000000 in
set_option maxRecDepth 100000 in
theorem c572_X4_ofPager (l : Launch) (G : va_G) (cy : Nat → ClassId) (sa : String → Nat → Nat) (sv : Nat → Nat) (h0 h1 h2 h3 h4 h5 h6 h7 : Nat) (v0 v1 : Int32) (p0 : v0 < 0) : xX l G cy sa sv yX4_ofPager (Cond.code yX4_ofPager cX4_ofPager 4 (some .int) :: XG) { frames := 9, cells := 1, slots := 6, locals := 271 } [.ref h0, .int v0, .int v1] [(h0, .inr (8, [.ref h1, .ref h2, .ref h3, .ref h4, .ref h5, .int 0, .ref h6, .ref h7]))] (fun f => [(h0, .inr (8, [.ref h1, .ref h2, .ref h3, .ref h4, .ref h5, .int 0, .ref h6, .ref h7]))]) "java/lang/IndexOutOfBoundsException" := by
  refine xofX (by decide) (Nat.le_of_ble_eq_true rfl) (fun p e s m below meth c A C w hno ls hl => ?_)
  have hl : lv_has ls 4 [(0, .ref h0), (1, .int v0), (2, .int v1)] := hl
  refine lv_aload_n C.1 C.2.1 dX4_ofPager_0 rfl (lv_at hl 0 rfl) ?_
  refine lv_iload_n C.1 C.2.1 dX4_ofPager_1 rfl (lv_at hl 1 rfl) ?_
  refine x_kx C w [] [0] rfl rfl (by decide) (by decide) (vx_runV (As := [.int v0]) (rest := []) (xfix C) (c462_X4_pagerOf l G cy sa sv h0 v0 p0 (xtr C) _) (cwV 1 (xhts C) (xgV (maxL := 0) (cc := ⟨#[]⟩) (ret := none) gw_842 gw_843 gw_844 gw_2 gc_X4_pagerOf) rfl rfl rfl (by decide +kernel) ⟨(Nat.le_of_ble_eq_true rfl), (Nat.le_of_ble_eq_true rfl)⟩) (xPV C w [] rfl (by decide) (ci := 8) (q0 := 0) rfl rfl) rfl rfl hl.1 rfl (lv_room (Nat.le_of_ble_eq_true rfl)) dX4_ofPager_2 ⟨(Nat.le_of_ble_eq_true rfl), (Nat.le_of_ble_eq_true rfl)⟩) (fun f4056 H locs ce q9 w hce hcv hcl => ?_)
  have w : xW G A s [(h0, .inr (8, [.ref h1, .ref h2, .ref h3, .ref h4, .ref h5, .int 0, .ref h6, .ref h7]))] H _ := w
  refine vx_widen (k := 1) (n := 6) (Nat.le_of_ble_eq_true rfl) (Nat.le_of_ble_eq_true rfl) ?_
  exact x_out C w hno (fun _ => 0) rfl hce hcv hcl (Nat.le_of_ble_eq_true rfl) (Nat.le_of_ble_eq_true rfl)
set_option maxHeartbeats 4000000 in
set_option maxRecDepth 100000 in
theorem c573_L_ofPager (l : Launch) (G : va_G) (cy : Nat → ClassId) (sa : String → Nat → Nat) (sv : Nat → Nat) (h0 h1 h2 h3 h4 h5 h6 h7 h8 : Nat) (v0 v1 : Int32) (p0 : v0 < 0) : xM l G cy sa sv yL_ofPager (Cond.codeWith yL_ofPager cL_ofPager 5 (some .int) [(0, 11, 14, 91), (0, 11, 18, 19)] :: XG) { frames := 10, cells := 1, slots := 6, locals := 294 } [.ref h0, .int v0, .int v1, .ref h1] [(h0, .inr (8, [.ref h2, .ref h3, .ref h4, .ref h5, .ref h6, .int 0, .ref h7, .ref h8]))] (xQi G (fun f => [(h0, .inr (8, [.ref h2, .ref h3, .ref h4, .ref h5, .ref h6, .int 0, .ref h7, .ref h8]))]) 1) := by
  refine xofH (by decide) (Nat.le_of_ble_eq_true rfl) (fun p e s m below meth c A C w hr hn hT ls hl => ?_)
  have hl : lv_has ls 5 [(0, .ref h0), (1, .int v0), (2, .int v1), (3, .ref h1)] := hl
  refine lv_aload_n C.1 C.2.1 dL_ofPager_0 rfl (lv_at hl 3 rfl) ?_
  refine lv_aload_n C.1 C.2.1 dL_ofPager_1 rfl (lv_at hl 0 rfl) ?_
  refine lv_iload_n C.1 C.2.1 dL_ofPager_2 rfl (lv_at hl 1 rfl) ?_
  refine lv_iload_n C.1 C.2.1 dL_ofPager_3 rfl (lv_at hl 2 rfl) ?_
  refine x_kx C w [0] [] rfl rfl (by decide) (by decide) (vx_runV (As := [.int v0, .int v1]) (rest := [.ref h1]) (xfix C) (c572_X4_ofPager l G cy sa sv h0 h2 h3 h4 h5 h6 h7 h8 v0 v1 p0 (xtr C) _) (cwV 2 (xhts C) (xgV (maxL := 0) (cc := ⟨#[]⟩) (ret := none) gw_897 gw_898 gw_899 gw_2 gc_X4_ofPager) rfl rfl rfl (by decide +kernel) ⟨(Nat.le_of_ble_eq_true rfl), (Nat.le_of_ble_eq_true rfl)⟩) (xPV C w [0] rfl (by decide) (ci := 8) (q0 := 0) rfl rfl) rfl rfl hl.1 rfl (lv_room (Nat.le_of_ble_eq_true rfl)) dL_ofPager_4 ⟨(Nat.le_of_ble_eq_true rfl), (Nat.le_of_ble_eq_true rfl)⟩) (fun f4057 H locs ce q9 w hce hcv hcl => ?_)
  have w : xW G A s [(h0, .inr (8, [.ref h2, .ref h3, .ref h4, .ref h5, .ref h6, .int 0, .ref h7, .ref h8]))] H _ := w
  refine vx_widen (k := 1) (n := 6) (Nat.le_of_ble_eq_true rfl) (Nat.le_of_ble_eq_true rfl) ?_
  refine vx_catch (xown C) [] ⟨0, 11, 14, 91⟩ [⟨0, 11, 18, 19⟩] hT (fun z hz => nomatch hz) (by decide) (by decide) (xhts C _ (List.mem_cons_of_mem _ gw_868)) (va_any rfl (xs_c3 (xS C))) hce hcv hcl ?_
  refine lv_astore (lv' := [(4, .ref q9), (0, .ref h0), (1, .int v0), (2, .int v1), (3, .ref h1)]) C.1 C.2.1 dL_ofPager_14 hl (by decide) rfl (fun ls hl => ?_)
  refine lv_iconst (v := 1) C.1 C.2.1 dL_ofPager_16 (by decide) ?_
  exact x_iret C w hr (fun _ => 0) rfl rfl dL_ofPager_17 (Nat.le_of_ble_eq_true rfl) (Nat.le_of_ble_eq_true rfl)
set_option maxHeartbeats 4000000 in
set_option maxRecDepth 100000 in
theorem c574_X6_ofPager (l : Launch) (G : va_G) (cy : Nat → ClassId) (sa : String → Nat → Nat) (sv : Nat → Nat) (h0 h1 h2 h3 h4 h5 h6 h7 : Nat) (v0 v1 : Int32) (p0 : v0 < 0) : xM l G cy sa sv yX6_ofPager (Cond.code yX6_ofPager cX6_ofPager 3 (some .int) :: XG) { frames := 9, cells := 0, slots := 0, locals := 272 } [.ref h0, .int v0, .int v1] [(h0, .inr (10, [.ref h1, .ref h2, .ref h3, .ref h4, .ref h5, .ref h6, .ref h7, .int 0, .int 0]))] (xQi G (fun f => [(h0, .inr (10, [.ref h1, .ref h2, .ref h3, .ref h4, .ref h5, .ref h6, .ref h7, .int 0, .int 1]))]) 0) := by
  refine xof (by decide) (Nat.le_of_ble_eq_true rfl) (fun p e s m below meth c A C w hr hn ls hl => ?_)
  have hl : lv_has ls 3 [(0, .ref h0), (1, .int v0), (2, .int v1)] := hl
  refine lv_aload_n C.1 C.2.1 dX6_ofPager_0 rfl (lv_at hl 0 rfl) ?_
  refine lv_iload_n C.1 C.2.1 dX6_ofPager_1 rfl (lv_at hl 1 rfl) ?_
  refine x_ki C w [] [0] rfl rfl (by decide) (by decide) (va_runS (As := [.int v0]) (rest := [.ref h0]) (xfix C) (c465_X6_isNoPager l G cy sa sv v0 p0 (xtr C) _) (va_cwS 1 (xhts C) (xgS gw_860 gw_861 gw_58 gc_X6_isNoPager) rfl rfl rfl (by decide +kernel) ⟨(Nat.le_of_ble_eq_true rfl), (Nat.le_of_ble_eq_true rfl)⟩) (xPS C w [] rfl (by decide)) rfl rfl hl.1 rfl (lv_room (Nat.le_of_ble_eq_true rfl)) dX6_ofPager_2 ⟨(Nat.le_of_ble_eq_true rfl), (Nat.le_of_ble_eq_true rfl)⟩) (fun f4060 H locs w => ?_)
  have w : xW G A s [(h0, .inr (10, [.ref h1, .ref h2, .ref h3, .ref h4, .ref h5, .ref h6, .ref h7, .int 0, .int 0]))] H _ := w
  refine lv_iconst (v := 1) C.1 C.2.1 dX6_ofPager_5 (by decide) ?_
  refine x_ki C w [0] [] rfl rfl (by decide) (by decide) (va_runV (As := [.int 1, .int 1]) (rest := []) (xfix C) (c17_X6_start l G cy sa sv h0 h1 h2 h3 h4 h5 h6 h7 (xtr C) _) (cwV 2 (xhts C) (xgV (maxL := 0) (cc := ⟨#[]⟩) (ret := none) gw_114 gw_115 gw_116 gw_58 gc_X6_start) rfl rfl rfl (by decide +kernel) ⟨(Nat.le_of_ble_eq_true rfl), (Nat.le_of_ble_eq_true rfl)⟩) (xPV C w [0] rfl (by decide) (ci := 10) (q0 := 0) rfl rfl) rfl rfl hl.1 rfl (lv_room (Nat.le_of_ble_eq_true rfl)) dX6_ofPager_6 ⟨(Nat.le_of_ble_eq_true rfl), (Nat.le_of_ble_eq_true rfl)⟩) (fun f4061 H locs w => ?_)
  have w : xW G A s [(h0, .inr (10, [.ref h1, .ref h2, .ref h3, .ref h4, .ref h5, .ref h6, .ref h7, .int 0, .int 1]))] H _ := w
  refine lv_if_ne (tgt := 34) C.1 C.2.1 dX6_ofPager_9 (by decide) (fun _ => ?_) (fun c9 => absurd c9 (by decide))
  refine lv_iconst (v := 0) C.1 C.2.1 dX6_ofPager_34 (by decide) ?_
  refine lv_goto (tgt := 44) C.1 C.2.1 dX6_ofPager_35 (by decide) ?_
  exact x_iret C w hr (fun _ => 0) rfl rfl dX6_ofPager_44 (Nat.le_of_ble_eq_true rfl) (Nat.le_of_ble_eq_true rfl)
set_option maxHeartbeats 4000000 in
set_option maxRecDepth 100000 in
theorem c575_X4_ofPager (l : Launch) (G : va_G) (cy : Nat → ClassId) (sa : String → Nat → Nat) (sv : Nat → Nat) (h0 h1 h2 h3 h4 h5 h6 h7 h8 h9 h10 : Nat) (v0 v1 : Int32) (p0 : ¬ v0 < 0) (p1 : ¬ v0 < 3) : xX l G cy sa sv yX4_ofPager (Cond.code yX4_ofPager cX4_ofPager 4 (some .int) :: XG) { frames := 9, cells := 1, slots := 6, locals := 271 } [.ref h0, .int v0, .int v1] [(h0, .inr (8, [.ref h2, .ref h3, .ref h4, .ref h5, .ref h1, .int 0, .ref h6, .ref h7])), (h1, .inl (cy 3, 3, .inr (.inr (.inr (.inr (va_up (va_up (va_up (fun _ => none) 0 (some h8)) 1 (some h9)) 2 (some h10)))))))] (fun f => [(h0, .inr (8, [.ref h2, .ref h3, .ref h4, .ref h5, .ref h1, .int 0, .ref h6, .ref h7])), (h1, .inl (cy 3, 3, .inr (.inr (.inr (.inr (va_up (va_up (va_up (fun _ => none) 0 (some h8)) 1 (some h9)) 2 (some h10)))))))]) "java/lang/IndexOutOfBoundsException" := by
  refine xofX (by decide) (Nat.le_of_ble_eq_true rfl) (fun p e s m below meth c A C w hno ls hl => ?_)
  have hl : lv_has ls 4 [(0, .ref h0), (1, .int v0), (2, .int v1)] := hl
  refine lv_aload_n C.1 C.2.1 dX4_ofPager_0 rfl (lv_at hl 0 rfl) ?_
  refine lv_iload_n C.1 C.2.1 dX4_ofPager_1 rfl (lv_at hl 1 rfl) ?_
  refine x_kx C w [0, 1] [] rfl rfl (by decide) (by decide) (vx_runV (As := [.int v0]) (rest := []) (xfix C) (c467_X4_pagerOf l G cy sa sv h0 h1 h2 h3 h4 h5 h6 h7 h8 h9 h10 v0 p0 p1 (xtr C) _) (cwV 1 (xhts C) (xgV (maxL := 0) (cc := ⟨#[]⟩) (ret := none) gw_842 gw_843 gw_844 gw_2 gc_X4_pagerOf) rfl rfl rfl (by decide +kernel) ⟨(Nat.le_of_ble_eq_true rfl), (Nat.le_of_ble_eq_true rfl)⟩) (xPV C w [0, 1] rfl (by decide) (ci := 8) (q0 := 0) rfl rfl) rfl rfl hl.1 rfl (lv_room (Nat.le_of_ble_eq_true rfl)) dX4_ofPager_2 ⟨(Nat.le_of_ble_eq_true rfl), (Nat.le_of_ble_eq_true rfl)⟩) (fun f4068 H locs ce q9 w hce hcv hcl => ?_)
  have w : xW G A s [(h0, .inr (8, [.ref h2, .ref h3, .ref h4, .ref h5, .ref h1, .int 0, .ref h6, .ref h7])), (h1, .inl (cy 3, 3, .inr (.inr (.inr (.inr (va_up (va_up (va_up (fun _ => none) 0 (some h8)) 1 (some h9)) 2 (some h10)))))))] H _ := w
  refine vx_widen (k := 1) (n := 6) (Nat.le_of_ble_eq_true rfl) (Nat.le_of_ble_eq_true rfl) ?_
  exact x_out C w hno (fun _ => 0) rfl hce hcv hcl (Nat.le_of_ble_eq_true rfl) (Nat.le_of_ble_eq_true rfl)
set_option maxHeartbeats 4000000 in
set_option maxRecDepth 100000 in
theorem c576_L_ofPager (l : Launch) (G : va_G) (cy : Nat → ClassId) (sa : String → Nat → Nat) (sv : Nat → Nat) (h0 h1 h2 h3 h4 h5 h6 h7 h8 h9 h10 h11 : Nat) (v0 v1 : Int32) (p0 : ¬ v0 < 0) (p1 : ¬ v0 < 3) : xM l G cy sa sv yL_ofPager (Cond.codeWith yL_ofPager cL_ofPager 5 (some .int) [(0, 11, 14, 91), (0, 11, 18, 19)] :: XG) { frames := 10, cells := 1, slots := 6, locals := 294 } [.ref h0, .int v0, .int v1, .ref h1] [(h0, .inr (8, [.ref h3, .ref h4, .ref h5, .ref h6, .ref h2, .int 0, .ref h7, .ref h8])), (h2, .inl (cy 3, 3, .inr (.inr (.inr (.inr (va_up (va_up (va_up (fun _ => none) 0 (some h9)) 1 (some h10)) 2 (some h11)))))))] (xQi G (fun f => [(h0, .inr (8, [.ref h3, .ref h4, .ref h5, .ref h6, .ref h2, .int 0, .ref h7, .ref h8])), (h2, .inl (cy 3, 3, .inr (.inr (.inr (.inr (va_up (va_up (va_up (fun _ => none) 0 (some h9)) 1 (some h10)) 2 (some h11)))))))]) 1) := by
  refine xofH (by decide) (Nat.le_of_ble_eq_true rfl) (fun p e s m below meth c A C w hr hn hT ls hl => ?_)
  have hl : lv_has ls 5 [(0, .ref h0), (1, .int v0), (2, .int v1), (3, .ref h1)] := hl
  refine lv_aload_n C.1 C.2.1 dL_ofPager_0 rfl (lv_at hl 3 rfl) ?_
  refine lv_aload_n C.1 C.2.1 dL_ofPager_1 rfl (lv_at hl 0 rfl) ?_
  refine lv_iload_n C.1 C.2.1 dL_ofPager_2 rfl (lv_at hl 1 rfl) ?_
  refine lv_iload_n C.1 C.2.1 dL_ofPager_3 rfl (lv_at hl 2 rfl) ?_
  refine x_kx C w [0, 1] [] rfl rfl (by decide) (by decide) (vx_runV (As := [.int v0, .int v1]) (rest := [.ref h1]) (xfix C) (c575_X4_ofPager l G cy sa sv h0 h2 h3 h4 h5 h6 h7 h8 h9 h10 h11 v0 v1 p0 p1 (xtr C) _) (cwV 2 (xhts C) (xgV (maxL := 0) (cc := ⟨#[]⟩) (ret := none) gw_897 gw_898 gw_899 gw_2 gc_X4_ofPager) rfl rfl rfl (by decide +kernel) ⟨(Nat.le_of_ble_eq_true rfl), (Nat.le_of_ble_eq_true rfl)⟩) (xPV C w [0, 1] rfl (by decide) (ci := 8) (q0 := 0) rfl rfl) rfl rfl hl.1 rfl (lv_room (Nat.le_of_ble_eq_true rfl)) dL_ofPager_4 ⟨(Nat.le_of_ble_eq_true rfl), (Nat.le_of_ble_eq_true rfl)⟩) (fun f4069 H locs ce q9 w hce hcv hcl => ?_)
  have w : xW G A s [(h0, .inr (8, [.ref h3, .ref h4, .ref h5, .ref h6, .ref h2, .int 0, .ref h7, .ref h8])), (h2, .inl (cy 3, 3, .inr (.inr (.inr (.inr (va_up (va_up (va_up (fun _ => none) 0 (some h9)) 1 (some h10)) 2 (some h11)))))))] H _ := w
  refine vx_widen (k := 1) (n := 6) (Nat.le_of_ble_eq_true rfl) (Nat.le_of_ble_eq_true rfl) ?_
  refine vx_catch (xown C) [] ⟨0, 11, 14, 91⟩ [⟨0, 11, 18, 19⟩] hT (fun z hz => nomatch hz) (by decide) (by decide) (xhts C _ (List.mem_cons_of_mem _ gw_868)) (va_any rfl (xs_c3 (xS C))) hce hcv hcl ?_
  refine lv_astore (lv' := [(4, .ref q9), (0, .ref h0), (1, .int v0), (2, .int v1), (3, .ref h1)]) C.1 C.2.1 dL_ofPager_14 hl (by decide) rfl (fun ls hl => ?_)
  refine lv_iconst (v := 1) C.1 C.2.1 dL_ofPager_16 (by decide) ?_
  exact x_iret C w hr (fun _ => 0) rfl rfl dL_ofPager_17 (Nat.le_of_ble_eq_true rfl) (Nat.le_of_ble_eq_true rfl)
set_option maxHeartbeats 4000000 in
set_option maxRecDepth 100000 in
theorem c577_X6_ofPager (l : Launch) (G : va_G) (cy : Nat → ClassId) (sa : String → Nat → Nat) (sv : Nat → Nat) (h0 h1 h2 h3 h4 h5 h6 h7 : Nat) (v0 v1 : Int32) (p0 : ¬ v0 < 0) (p1 : ¬ v0 < 3) : xM l G cy sa sv yX6_ofPager (Cond.code yX6_ofPager cX6_ofPager 3 (some .int) :: XG) { frames := 9, cells := 0, slots := 0, locals := 272 } [.ref h0, .int v0, .int v1] [(h0, .inr (10, [.ref h1, .ref h2, .ref h3, .ref h4, .ref h5, .ref h6, .ref h7, .int 0, .int 0]))] (xQi G (fun f => [(h0, .inr (10, [.ref h1, .ref h2, .ref h3, .ref h4, .ref h5, .ref h6, .ref h7, .int 0, .int 1]))]) 0) := by
  refine xof (by decide) (Nat.le_of_ble_eq_true rfl) (fun p e s m below meth c A C w hr hn ls hl => ?_)
  have hl : lv_has ls 3 [(0, .ref h0), (1, .int v0), (2, .int v1)] := hl
  refine lv_aload_n C.1 C.2.1 dX6_ofPager_0 rfl (lv_at hl 0 rfl) ?_
  refine lv_iload_n C.1 C.2.1 dX6_ofPager_1 rfl (lv_at hl 1 rfl) ?_
  refine x_ki C w [] [0] rfl rfl (by decide) (by decide) (va_runS (As := [.int v0]) (rest := [.ref h0]) (xfix C) (c470_X6_isNoPager l G cy sa sv v0 p0 p1 (xtr C) _) (va_cwS 1 (xhts C) (xgS gw_860 gw_861 gw_58 gc_X6_isNoPager) rfl rfl rfl (by decide +kernel) ⟨(Nat.le_of_ble_eq_true rfl), (Nat.le_of_ble_eq_true rfl)⟩) (xPS C w [] rfl (by decide)) rfl rfl hl.1 rfl (lv_room (Nat.le_of_ble_eq_true rfl)) dX6_ofPager_2 ⟨(Nat.le_of_ble_eq_true rfl), (Nat.le_of_ble_eq_true rfl)⟩) (fun f4072 H locs w => ?_)
  have w : xW G A s [(h0, .inr (10, [.ref h1, .ref h2, .ref h3, .ref h4, .ref h5, .ref h6, .ref h7, .int 0, .int 0]))] H _ := w
  refine lv_iconst (v := 1) C.1 C.2.1 dX6_ofPager_5 (by decide) ?_
  refine x_ki C w [0] [] rfl rfl (by decide) (by decide) (va_runV (As := [.int 1, .int 1]) (rest := []) (xfix C) (c17_X6_start l G cy sa sv h0 h1 h2 h3 h4 h5 h6 h7 (xtr C) _) (cwV 2 (xhts C) (xgV (maxL := 0) (cc := ⟨#[]⟩) (ret := none) gw_114 gw_115 gw_116 gw_58 gc_X6_start) rfl rfl rfl (by decide +kernel) ⟨(Nat.le_of_ble_eq_true rfl), (Nat.le_of_ble_eq_true rfl)⟩) (xPV C w [0] rfl (by decide) (ci := 10) (q0 := 0) rfl rfl) rfl rfl hl.1 rfl (lv_room (Nat.le_of_ble_eq_true rfl)) dX6_ofPager_6 ⟨(Nat.le_of_ble_eq_true rfl), (Nat.le_of_ble_eq_true rfl)⟩) (fun f4073 H locs w => ?_)
  have w : xW G A s [(h0, .inr (10, [.ref h1, .ref h2, .ref h3, .ref h4, .ref h5, .ref h6, .ref h7, .int 0, .int 1]))] H _ := w
  refine lv_if_ne (tgt := 34) C.1 C.2.1 dX6_ofPager_9 (by decide) (fun _ => ?_) (fun c9 => absurd c9 (by decide))
  refine lv_iconst (v := 0) C.1 C.2.1 dX6_ofPager_34 (by decide) ?_
  refine lv_goto (tgt := 44) C.1 C.2.1 dX6_ofPager_35 (by decide) ?_
  exact x_iret C w hr (fun _ => 0) rfl rfl dX6_ofPager_44 (Nat.le_of_ble_eq_true rfl) (Nat.le_of_ble_eq_true rfl)
set_option maxHeartbeats 4000000 in
set_option maxRecDepth 100000 in
theorem c578_X1_count (l : Launch) (G : va_G) (cy : Nat → ClassId) (sa : String → Nat → Nat) (sv : Nat → Nat) (h0 h1 h2 h3 h4 : Nat) : xM l G cy sa sv yX1_count (Cond.code yX1_count cX1_count 1 (some .int) :: XG) { frames := 9, cells := 0, slots := 0, locals := 270 } [.ref h0] [(h0, .inr (5, [.ref h2, .ref h3, .ref h1, .int 0])), (h1, .inr (6, [.ref h4, .int 0]))] (xQi G (fun f => [(h0, .inr (5, [.ref h2, .ref h3, .ref h1, .int 0])), (h1, .inr (6, [.ref h4, .int 0]))]) 0) := by
  refine xof (by decide) (Nat.le_of_ble_eq_true rfl) (fun p e s m below meth c A C w hr hn ls hl => ?_)
  have hl : lv_has ls 1 [(0, .ref h0)] := hl
  refine lv_aload_n C.1 C.2.1 dX1_count_0 rfl (lv_at hl 0 rfl) ?_
  refine x_get (v := .ref h1) C w 0 5 2 (xin_X1 _) rfl rfl (by decide) (List.mem_cons_of_mem _ gw_36) rfl rfl dX1_count_1 ?_
  refine x_ki C w [1] [0] rfl rfl (by decide) (by decide) (va_runV (As := []) (rest := []) (xfix C) (c21_X2_count l G cy sa sv h1 h4 (xtr C) _) (cwV 0 (xhts C) (xgV (maxL := 0) (cc := ⟨#[]⟩) (ret := none) gw_188 gw_127 gw_128 gw_11 gc_X2_count) rfl rfl rfl (by decide +kernel) ⟨(Nat.le_of_ble_eq_true rfl), (Nat.le_of_ble_eq_true rfl)⟩) (xPV C w [1] rfl (by decide) (ci := 6) (q0 := 1) rfl rfl) rfl rfl hl.1 rfl (lv_room (Nat.le_of_ble_eq_true rfl)) dX1_count_4 ⟨(Nat.le_of_ble_eq_true rfl), (Nat.le_of_ble_eq_true rfl)⟩) (fun f4076 H locs w => ?_)
  have w : xW G A s [(h0, .inr (5, [.ref h2, .ref h3, .ref h1, .int 0])), (h1, .inr (6, [.ref h4, .int 0]))] H _ := w
  exact x_iret C w hr (fun _ => 0) rfl rfl dX1_count_7 (Nat.le_of_ble_eq_true rfl) (Nat.le_of_ble_eq_true rfl)
set_option maxHeartbeats 4000000 in
set_option maxRecDepth 100000 in
theorem c579_X4_undo (l : Launch) (G : va_G) (cy : Nat → ClassId) (sa : String → Nat → Nat) (sv : Nat → Nat) (h0 h1 h2 h3 h4 h5 h6 h7 h8 h9 h10 h11 : Nat) : xM l G cy sa sv yX4_undo (Cond.code yX4_undo cX4_undo 3 (some .int) :: XG) { frames := 10, cells := 0, slots := 0, locals := 290 } [.ref h0] [(h0, .inr (8, [.ref h3, .ref h4, .ref h1, .ref h5, .ref h6, .int 0, .ref h7, .ref h8])), (h1, .inr (5, [.ref h9, .ref h10, .ref h2, .int 0])), (h2, .inr (6, [.ref h11, .int 0]))] (xQi G (fun f => [(h0, .inr (8, [.ref h3, .ref h4, .ref h1, .ref h5, .ref h6, .int 0, .ref h7, .ref h8])), (h1, .inr (5, [.ref h9, .ref h10, .ref h2, .int 0])), (h2, .inr (6, [.ref h11, .int 0]))]) (-9999)) := by
  refine xof (by decide) (Nat.le_of_ble_eq_true rfl) (fun p e s m below meth c A C w hr hn ls hl => ?_)
  have hl : lv_has ls 3 [(0, .ref h0)] := hl
  refine lv_aload_n C.1 C.2.1 dX4_undo_0 rfl (lv_at hl 0 rfl) ?_
  refine x_get (v := .ref h1) C w 0 8 2 (xin_X4 _) rfl rfl (by decide) (List.mem_cons_of_mem _ gw_41) rfl rfl dX4_undo_1 ?_
  refine x_ki C w [1, 2] [0] rfl rfl (by decide) (by decide) (va_runV (As := []) (rest := []) (xfix C) (c578_X1_count l G cy sa sv h1 h2 h9 h10 h11 (xtr C) _) (cwV 0 (xhts C) (xgV (maxL := 0) (cc := ⟨#[]⟩) (ret := none) gw_915 gw_916 gw_917 gw_30 gc_X1_count) rfl rfl rfl (by decide +kernel) ⟨(Nat.le_of_ble_eq_true rfl), (Nat.le_of_ble_eq_true rfl)⟩) (xPV C w [1, 2] rfl (by decide) (ci := 5) (q0 := 1) rfl rfl) rfl rfl hl.1 rfl (lv_room (Nat.le_of_ble_eq_true rfl)) dX4_undo_4 ⟨(Nat.le_of_ble_eq_true rfl), (Nat.le_of_ble_eq_true rfl)⟩) (fun f4077 H locs w => ?_)
  have w : xW G A s [(h0, .inr (8, [.ref h3, .ref h4, .ref h1, .ref h5, .ref h6, .int 0, .ref h7, .ref h8])), (h1, .inr (5, [.ref h9, .ref h10, .ref h2, .int 0])), (h2, .inr (6, [.ref h11, .int 0]))] H _ := w
  refine lv_if_ne (tgt := 14) C.1 C.2.1 dX4_undo_7 (by decide) (fun c9 => absurd (by decide) c9) (fun _ => ?_)
  refine lv_sipush (v := (-9999)) C.1 C.2.1 dX4_undo_10 (by decide) ?_
  exact x_iret C w hr (fun _ => 0) rfl rfl dX4_undo_13 (Nat.le_of_ble_eq_true rfl) (Nat.le_of_ble_eq_true rfl)
set_option maxHeartbeats 4000000 in
set_option maxRecDepth 100000 in
theorem c580_X6_undo (l : Launch) (G : va_G) (cy : Nat → ClassId) (sa : String → Nat → Nat) (sv : Nat → Nat) (h0 h1 h2 h3 h4 h5 h6 h7 : Nat) : xM l G cy sa sv yX6_undo (Cond.code yX6_undo cX6_undo 4 (some .int) :: XG) { frames := 9, cells := 0, slots := 0, locals := 270 } [.ref h0] [(h0, .inr (10, [.ref h2, .ref h3, .ref h1, .ref h4, .ref h5, .ref h6, .ref h7, .int 0, .int 0])), (h1, .inr (3, [.int 0, .ref (sv 0), .int 0]))] (xQi G (fun f => [(h0, .inr (10, [.ref h2, .ref h3, .ref h1, .ref h4, .ref h5, .ref h6, .ref h7, .int 0, .int 0])), (h1, .inr (3, [.int 0, .ref (sv 0), .int 0]))]) (-9999)) := by
  refine xof (by decide) (Nat.le_of_ble_eq_true rfl) (fun p e s m below meth c A C w hr hn ls hl => ?_)
  have hl : lv_has ls 4 [(0, .ref h0)] := hl
  refine lv_aload_n C.1 C.2.1 dX6_undo_0 rfl (lv_at hl 0 rfl) ?_
  refine lv_iconst (v := 0) C.1 C.2.1 dX6_undo_1 (by decide) ?_
  refine x_put (ty := .int) (ty0 := tyX6) C w 0 10 8 (xin_X6 _) tyX6_ok nmX6 rfl rfl (by decide) (List.mem_cons_of_mem _ gw_112) rfl rfl (by decide +kernel) rfl rfl (Nat.le_of_ble_eq_true rfl) dX6_undo_2 (fun H locs w => ?_)
  have w : xW G A s [(h0, .inr (10, [.ref h2, .ref h3, .ref h1, .ref h4, .ref h5, .ref h6, .ref h7, .int 0, .int 0])), (h1, .inr (3, [.int 0, .ref (sv 0), .int 0]))] H _ := w
  refine lv_aload_n C.1 C.2.1 dX6_undo_5 rfl (lv_at hl 0 rfl) ?_
  refine x_get (v := .ref h1) C w 0 10 2 (xin_X6 _) rfl rfl (by decide) (List.mem_cons_of_mem _ gw_80) rfl rfl dX6_undo_6 ?_
  refine x_ki C w [1] [0] rfl rfl (by decide) (by decide) (va_runV (As := []) (rest := []) (xfix C) (c47_Jx4a65c_size_8abf5 l G cy sa sv h1 (xtr C) _) (cwV 0 (xhts C) (xgV (maxL := 0) (cc := ⟨#[]⟩) (ret := none) gw_195 gw_196 gw_197 gw_62 gc_Jx4a65c_size_8abf5) rfl rfl rfl (by decide +kernel) ⟨(Nat.le_of_ble_eq_true rfl), (Nat.le_of_ble_eq_true rfl)⟩) (xPV C w [1] rfl (by decide) (ci := 3) (q0 := 1) rfl rfl) rfl rfl hl.1 rfl (lv_room (Nat.le_of_ble_eq_true rfl)) dX6_undo_9 ⟨(Nat.le_of_ble_eq_true rfl), (Nat.le_of_ble_eq_true rfl)⟩) (fun f4079 H locs w => ?_)
  have w : xW G A s [(h0, .inr (10, [.ref h2, .ref h3, .ref h1, .ref h4, .ref h5, .ref h6, .ref h7, .int 0, .int 0])), (h1, .inr (3, [.int 0, .ref (sv 0), .int 0]))] H _ := w
  refine lv_if_ne (tgt := 19) C.1 C.2.1 dX6_undo_12 (by decide) (fun c9 => absurd (by decide) c9) (fun _ => ?_)
  refine lv_sipush (v := (-9999)) C.1 C.2.1 dX6_undo_15 (by decide) ?_
  exact x_iret C w hr (fun _ => 0) rfl rfl dX6_undo_18 (Nat.le_of_ble_eq_true rfl) (Nat.le_of_ble_eq_true rfl)
