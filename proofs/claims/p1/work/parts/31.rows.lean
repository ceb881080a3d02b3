set_option maxHeartbeats 4000000 in
set_option maxRecDepth 100000 in
theorem c449_L_page (l : Launch) (G : va_G) (cy : Nat → ClassId) (sa : String → Nat → Nat) (sv : Nat → Nat) (h0 h1 h2 h3 h4 h5 h6 h7 h8 h9 h10 h11 : Nat) : xM l G cy sa sv yL_page (Cond.codeWith yL_page cL_page 4 (some .int) [(0, 10, 13, 91)] :: XG) { frames := 10, cells := 0, slots := 0, locals := 292 } [.ref h0, .int 0, .ref h1] [(h0, .inr (8, [.ref h4, .ref h5, .ref h6, .ref h7, .ref h2, .int 0, .ref h8, .ref h9])), (h2, .inl (cy 3, 3, .inr (.inr (.inr (.inr (va_up (va_up (va_up (fun _ => none) 0 (some h3)) 1 (some h10)) 2 (some h11))))))), (h3, .inr (4, [.int 0, .int 0, .int 0])), (h1, .inr (9, [.long 0, .null]))] (xQi G (fun f => [(h0, .inr (8, [.ref h4, .ref h5, .ref h6, .ref h7, .ref h2, .int 0, .ref h8, .ref h9])), (h2, .inl (cy 3, 3, .inr (.inr (.inr (.inr (va_up (va_up (va_up (fun _ => none) 0 (some h3)) 1 (some h10)) 2 (some h11))))))), (h3, .inr (4, [.int 0, .int 0, .int 0])), (h1, .inr (9, [.long 0, .null]))]) 0) := by
  refine xofH (by decide) (Nat.le_of_ble_eq_true rfl) (fun p e s m below meth c A C w hr hn hT ls hl => ?_)
  have hl : lv_has ls 4 [(0, .ref h0), (1, .int 0), (2, .ref h1)] := hl
  refine lv_aload_n C.1 C.2.1 dL_page_0 rfl (lv_at hl 2 rfl) ?_
  refine lv_aload_n C.1 C.2.1 dL_page_1 rfl (lv_at hl 0 rfl) ?_
  refine lv_iload_n C.1 C.2.1 dL_page_2 rfl (lv_at hl 1 rfl) ?_
  refine x_ki C w [0, 1, 2] [3] rfl rfl (by decide) (by decide) (va_runV (As := [.int 0]) (rest := [.ref h1]) (xfix C) (c448_X4_page l G cy sa sv h0 h2 h3 h4 h5 h6 h7 h8 h9 h10 h11 (xtr C) _) (cwV 1 (xhts C) (xgV (maxL := 0) (cc := ⟨#[]⟩) (ret := none) gw_853 gw_854 gw_855 gw_2 gc_X4_page) rfl rfl rfl (by decide +kernel) ⟨(Nat.le_of_ble_eq_true rfl), (Nat.le_of_ble_eq_true rfl)⟩) (xPV C w [0, 1, 2] rfl (by decide) (ci := 8) (q0 := 0) rfl rfl) rfl rfl hl.1 rfl (lv_room (Nat.le_of_ble_eq_true rfl)) dL_page_3 ⟨(Nat.le_of_ble_eq_true rfl), (Nat.le_of_ble_eq_true rfl)⟩) (fun f3007 H locs w => ?_)
  have w : xW G A s [(h1, .inr (9, [.long 0, .null])), (h0, .inr (8, [.ref h4, .ref h5, .ref h6, .ref h7, .ref h2, .int 0, .ref h8, .ref h9])), (h2, .inl (cy 3, 3, .inr (.inr (.inr (.inr (va_up (va_up (va_up (fun _ => none) 0 (some h3)) 1 (some h10)) 2 (some h11))))))), (h3, .inr (4, [.int 0, .int 0, .int 0]))] H _ := w
  refine lv_i2l (v := 0) C.1 C.2.1 dL_page_6 (by decide) ?_
  refine x_putN (ty := .long) (ty0 := tyX5) C w 0 9 0 (xin_X5 _) tyX5_ok nmX5 rfl rfl (by decide) (xs_f_n (xS C)) rfl rfl (by decide +kernel) rfl rfl (Nat.le_of_ble_eq_true rfl) dL_page_7 (fun H locs w => ?_)
  have w : xW G A s [(h1, .inr (9, [.long 0, .null])), (h0, .inr (8, [.ref h4, .ref h5, .ref h6, .ref h7, .ref h2, .int 0, .ref h8, .ref h9])), (h2, .inl (cy 3, 3, .inr (.inr (.inr (.inr (va_up (va_up (va_up (fun _ => none) 0 (some h3)) 1 (some h10)) 2 (some h11))))))), (h3, .inr (4, [.int 0, .int 0, .int 0]))] H _ := w
  refine lv_goto (tgt := 16) C.1 C.2.1 dL_page_10 (by decide) ?_
  refine lv_iconst (v := 0) C.1 C.2.1 dL_page_16 (by decide) ?_
  have w := w.sub (ws' := [(h0, .inr (8, [.ref h4, .ref h5, .ref h6, .ref h7, .ref h2, .int 0, .ref h8, .ref h9])), (h2, .inl (cy 3, 3, .inr (.inr (.inr (.inr (va_up (va_up (va_up (fun _ => none) 0 (some h3)) 1 (some h10)) 2 (some h11))))))), (h3, .inr (4, [.int 0, .int 0, .int 0])), (h1, .inr (9, [.long 0, .null]))]) [1, 2, 3, 0] (by decide) rfl rfl
  exact x_iret C w hr (fun _ => 0) rfl rfl dL_page_17 (Nat.le_of_ble_eq_true rfl) (Nat.le_of_ble_eq_true rfl)
set_option maxHeartbeats 4000000 in
set_option maxRecDepth 100000 in
theorem c450_X6_isNoPager (l : Launch) (G : va_G) (cy : Nat → ClassId) (sa : String → Nat → Nat) (sv : Nat → Nat) : xM l G cy sa sv yX6_isNoPager (Cond.code yX6_isNoPager cX6_isNoPager 1 (some .boolean) :: XG) { frames := 8, cells := 0, slots := 0, locals := 250 } [.int 0] [] (xQi G (fun f => []) 0) := by
  refine xof (by decide) (Nat.le_of_ble_eq_true rfl) (fun p e s m below meth c A C w hr hn ls hl => ?_)
  have hl : lv_has ls 1 [(0, .int 0)] := hl
  refine lv_iload_n C.1 C.2.1 dX6_isNoPager_0 rfl (lv_at hl 0 rfl) ?_
  refine lv_if_lt (tgt := 9) C.1 C.2.1 dX6_isNoPager_1 (by decide) (fun c9 => absurd c9 (by decide)) (fun _ => ?_)
  refine lv_iload_n C.1 C.2.1 dX6_isNoPager_4 rfl (lv_at hl 0 rfl) ?_
  refine lv_iconst (v := 3) C.1 C.2.1 dX6_isNoPager_5 (by decide) ?_
  refine lv_icmp_lt (tgt := 13) C.1 C.2.1 dX6_isNoPager_6 (by decide) (fun _ => ?_) (fun c9 => absurd (by decide) c9)
  refine lv_iconst (v := 0) C.1 C.2.1 dX6_isNoPager_13 (by decide) ?_
  exact x_zret C w hr rfl (fun _ => 0) rfl rfl dX6_isNoPager_14 (Nat.le_of_ble_eq_true rfl) (Nat.le_of_ble_eq_true rfl)
set_option maxHeartbeats 4000000 in
set_option maxRecDepth 100000 in
theorem c451_X6_page (l : Launch) (G : va_G) (cy : Nat → ClassId) (sa : String → Nat → Nat) (sv : Nat → Nat) (h0 h1 h2 h3 h4 h5 h6 h7 : Nat) : xM l G cy sa sv yX6_page (Cond.code yX6_page cX6_page 3 (some .int) :: XG) { frames := 9, cells := 0, slots := 0, locals := 272 } [.ref h0, .int 0] [(h0, .inr (10, [.ref h4, .ref h5, .ref h6, .ref h7, .ref h2, .ref h3, .ref h1, .int 0, .int 0])), (h1, .inl (cy 1, 3, .inl (fun _ => 0))), (h2, .inl (cy 2, 3, .inl (fun _ => 0))), (h3, .inl (cy 1, 3, .inl (fun _ => 0)))] (xQi G (fun f => [(h0, .inr (10, [.ref h4, .ref h5, .ref h6, .ref h7, .ref h2, .ref h3, .ref h1, .int 0, .int 0])), (h1, .inl (cy 1, 3, .inl (upd (fun _ => 0) 0 0))), (h2, .inl (cy 2, 3, .inl (upd (fun _ => 0) 0 0))), (h3, .inl (cy 1, 3, .inl (upd (fun _ => 0) 0 0)))]) 0) := by
  refine xof (by decide) (Nat.le_of_ble_eq_true rfl) (fun p e s m below meth c A C w hr hn ls hl => ?_)
  have hl : lv_has ls 3 [(0, .ref h0), (1, .int 0)] := hl
  refine lv_aload_n C.1 C.2.1 dX6_page_0 rfl (lv_at hl 0 rfl) ?_
  refine lv_iload_n C.1 C.2.1 dX6_page_1 rfl (lv_at hl 1 rfl) ?_
  refine x_ki C w [] [0, 1, 2, 3] rfl rfl (by decide) (by decide) (va_runS (As := [.int 0]) (rest := [.ref h0]) (xfix C) (c450_X6_isNoPager l G cy sa sv (xtr C) _) (va_cwS 1 (xhts C) (xgS gw_860 gw_861 gw_58 gc_X6_isNoPager) rfl rfl rfl (by decide +kernel) ⟨(Nat.le_of_ble_eq_true rfl), (Nat.le_of_ble_eq_true rfl)⟩) (xPS C w [] rfl (by decide)) rfl rfl hl.1 rfl (lv_room (Nat.le_of_ble_eq_true rfl)) dX6_page_2 ⟨(Nat.le_of_ble_eq_true rfl), (Nat.le_of_ble_eq_true rfl)⟩) (fun f3009 H locs w => ?_)
  have w : xW G A s [(h0, .inr (10, [.ref h4, .ref h5, .ref h6, .ref h7, .ref h2, .ref h3, .ref h1, .int 0, .int 0])), (h1, .inl (cy 1, 3, .inl (fun _ => 0))), (h2, .inl (cy 2, 3, .inl (fun _ => 0))), (h3, .inl (cy 1, 3, .inl (fun _ => 0)))] H _ := w
  refine lv_iconst (v := 1) C.1 C.2.1 dX6_page_5 (by decide) ?_
  refine x_ki C w [0] [1, 2, 3] rfl rfl (by decide) (by decide) (va_runV (As := [.int 0, .int 1]) (rest := []) (xfix C) (c46_X6_start l G cy sa sv h0 h4 h5 h6 h7 h2 h3 h1 (xtr C) _) (cwV 2 (xhts C) (xgV (maxL := 0) (cc := ⟨#[]⟩) (ret := none) gw_114 gw_115 gw_116 gw_58 gc_X6_start) rfl rfl rfl (by decide +kernel) ⟨(Nat.le_of_ble_eq_true rfl), (Nat.le_of_ble_eq_true rfl)⟩) (xPV C w [0] rfl (by decide) (ci := 10) (q0 := 0) rfl rfl) rfl rfl hl.1 rfl (lv_room (Nat.le_of_ble_eq_true rfl)) dX6_page_6 ⟨(Nat.le_of_ble_eq_true rfl), (Nat.le_of_ble_eq_true rfl)⟩) (fun f3010 H locs w => ?_)
  have w : xW G A s [(h1, .inl (cy 1, 3, .inl (fun _ => 0))), (h2, .inl (cy 2, 3, .inl (fun _ => 0))), (h3, .inl (cy 1, 3, .inl (fun _ => 0))), (h0, .inr (10, [.ref h4, .ref h5, .ref h6, .ref h7, .ref h2, .ref h3, .ref h1, .int 0, .int 0]))] H _ := w
  refine lv_if_eq (tgt := 14) C.1 C.2.1 dX6_page_9 (by decide) (fun _ => ?_) (fun c9 => absurd (by decide) c9)
  refine lv_aload_n C.1 C.2.1 dX6_page_14 rfl (lv_at hl 0 rfl) ?_
  refine x_get (v := .ref h1) C w 3 10 6 (xin_X6 _) rfl rfl (by decide) (List.mem_cons_of_mem _ gw_85) rfl rfl dX6_page_15 ?_
  refine lv_iload_n C.1 C.2.1 dX6_page_18 rfl (lv_at hl 1 rfl) ?_
  refine x_iald (v := 0) C w 0 1 rfl rfl (xvin (by decide)) (by rfl) dX6_page_19 ?_
  refine lv_istore_n (lv' := [(2, .int 0), (0, .ref h0), (1, .int 0)]) C.1 C.2.1 dX6_page_20 rfl hl (by decide) rfl (fun ls hl => ?_)
  refine lv_aload_n C.1 C.2.1 dX6_page_21 rfl (lv_at hl 1 rfl) ?_
  refine x_get (v := .ref h2) C w 3 10 4 (xin_X6 _) rfl rfl (by decide) (List.mem_cons_of_mem _ gw_83) rfl rfl dX6_page_22 ?_
  refine lv_iload_n C.1 C.2.1 dX6_page_25 rfl (lv_at hl 2 rfl) ?_
  refine lv_iconst (v := 0) C.1 C.2.1 dX6_page_26 (by decide) ?_
  refine x_zast (k := 0) (y := 0) C w 1 2 rfl rfl (xvin (by decide)) (by decide) (by decide) dX6_page_27 (fun H locs w => ?_)
  have w : xW G A s [(h1, .inl (cy 1, 3, .inl (fun _ => 0))), (h2, .inl (cy 2, 3, .inl (upd (fun _ => 0) 0 0))), (h3, .inl (cy 1, 3, .inl (fun _ => 0))), (h0, .inr (10, [.ref h4, .ref h5, .ref h6, .ref h7, .ref h2, .ref h3, .ref h1, .int 0, .int 0]))] H _ := w
  refine lv_aload_n C.1 C.2.1 dX6_page_28 rfl (lv_at hl 1 rfl) ?_
  refine x_get (v := .ref h3) C w 3 10 5 (xin_X6 _) rfl rfl (by decide) (List.mem_cons_of_mem _ gw_84) rfl rfl dX6_page_29 ?_
  refine lv_iload_n C.1 C.2.1 dX6_page_32 rfl (lv_at hl 2 rfl) ?_
  refine lv_iconst (v := 0) C.1 C.2.1 dX6_page_33 (by decide) ?_
  refine x_iast (k := 0) C w 2 1 rfl rfl (xvin (by decide)) (by decide) dX6_page_34 (fun H locs w => ?_)
  have w : xW G A s [(h1, .inl (cy 1, 3, .inl (fun _ => 0))), (h2, .inl (cy 2, 3, .inl (upd (fun _ => 0) 0 0))), (h3, .inl (cy 1, 3, .inl (upd (fun _ => 0) 0 0))), (h0, .inr (10, [.ref h4, .ref h5, .ref h6, .ref h7, .ref h2, .ref h3, .ref h1, .int 0, .int 0]))] H _ := w
  refine lv_aload_n C.1 C.2.1 dX6_page_35 rfl (lv_at hl 1 rfl) ?_
  refine x_get (v := .ref h1) C w 3 10 6 (xin_X6 _) rfl rfl (by decide) (List.mem_cons_of_mem _ gw_85) rfl rfl dX6_page_36 ?_
  refine lv_iload_n C.1 C.2.1 dX6_page_39 rfl (lv_at hl 2 rfl) ?_
  refine lv_iconst (v := 0) C.1 C.2.1 dX6_page_40 (by decide) ?_
  refine x_iast (k := 0) C w 0 1 rfl rfl (xvin (by decide)) (by decide) dX6_page_41 (fun H locs w => ?_)
  have w : xW G A s [(h1, .inl (cy 1, 3, .inl (upd (fun _ => 0) 0 0))), (h2, .inl (cy 2, 3, .inl (upd (fun _ => 0) 0 0))), (h3, .inl (cy 1, 3, .inl (upd (fun _ => 0) 0 0))), (h0, .inr (10, [.ref h4, .ref h5, .ref h6, .ref h7, .ref h2, .ref h3, .ref h1, .int 0, .int 0]))] H _ := w
  refine lv_iload_n C.1 C.2.1 dX6_page_42 rfl (lv_at hl 0 rfl) ?_
  have w := w.sub (ws' := [(h0, .inr (10, [.ref h4, .ref h5, .ref h6, .ref h7, .ref h2, .ref h3, .ref h1, .int 0, .int 0])), (h1, .inl (cy 1, 3, .inl (upd (fun _ => 0) 0 0))), (h2, .inl (cy 2, 3, .inl (upd (fun _ => 0) 0 0))), (h3, .inl (cy 1, 3, .inl (upd (fun _ => 0) 0 0)))]) [3, 0, 1, 2] (by decide) rfl rfl
  exact x_iret C w hr (fun _ => 0) rfl rfl dX6_page_43 (Nat.le_of_ble_eq_true rfl) (Nat.le_of_ble_eq_true rfl)
set_option maxHeartbeats 4000000 in
set_option maxRecDepth 100000 in
theorem c452_X4_pagerOf (l : Launch) (G : va_G) (cy : Nat → ClassId) (sa : String → Nat → Nat) (sv : Nat → Nat) (h0 h1 h2 h3 h4 h5 h6 h7 h8 h9 h10 : Nat) : xM l G cy sa sv yX4_pagerOf (Cond.code yX4_pagerOf cX4_pagerOf 2 (some (.object "Twinindex$Pager")) :: XG) { frames := 8, cells := 0, slots := 0, locals := 250 } [.ref h0, .int 1] [(h0, .inr (8, [.ref h2, .ref h3, .ref h4, .ref h5, .ref h1, .int 0, .ref h6, .ref h7])), (h1, .inl (cy 3, 3, .inr (.inr (.inr (.inr (va_up (va_up (va_up (fun _ => none) 0 (some h8)) 1 (some h9)) 2 (some h10)))))))] (xQr G (fun f => [(h0, .inr (8, [.ref h2, .ref h3, .ref h4, .ref h5, .ref h1, .int 0, .ref h6, .ref h7])), (h1, .inl (cy 3, 3, .inr (.inr (.inr (.inr (va_up (va_up (va_up (fun _ => none) 0 (some h8)) 1 (some h9)) 2 (some h10)))))))]) (fun f => h9)) := by
  refine xof (by decide) (Nat.le_of_ble_eq_true rfl) (fun p e s m below meth c A C w hr hn ls hl => ?_)
  have hl : lv_has ls 2 [(0, .ref h0), (1, .int 1)] := hl
  refine lv_iload_n C.1 C.2.1 dX4_pagerOf_0 rfl (lv_at hl 1 rfl) ?_
  refine lv_if_lt (tgt := 13) C.1 C.2.1 dX4_pagerOf_1 (by decide) (fun c9 => absurd c9 (by decide)) (fun _ => ?_)
  refine lv_iload_n C.1 C.2.1 dX4_pagerOf_4 rfl (lv_at hl 1 rfl) ?_
  refine lv_aload_n C.1 C.2.1 dX4_pagerOf_5 rfl (lv_at hl 0 rfl) ?_
  refine x_get (v := .ref h1) C w 0 8 4 (xin_X4 _) rfl rfl (by decide) (List.mem_cons_of_mem _ gw_44) rfl rfl dX4_pagerOf_6 ?_
  refine x_alen (v := 3) C w 1 3 rfl rfl (by rfl) dX4_pagerOf_9 ?_
  refine lv_icmp_lt (tgt := 24) C.1 C.2.1 dX4_pagerOf_10 (by decide) (fun _ => ?_) (fun c9 => absurd (by decide) c9)
  refine lv_aload_n C.1 C.2.1 dX4_pagerOf_24 rfl (lv_at hl 0 rfl) ?_
  refine x_get (v := .ref h1) C w 0 8 4 (xin_X4 _) rfl rfl (by decide) (List.mem_cons_of_mem _ gw_44) rfl rfl dX4_pagerOf_25 ?_
  refine lv_iload_n C.1 C.2.1 dX4_pagerOf_28 rfl (lv_at hl 1 rfl) ?_
  refine x_aldq (b := h9) C w 1 3 rfl rfl (xvin (by decide)) rfl dX4_pagerOf_29 ?_
  exact x_aret C w hr (Or.inl ⟨_, rfl⟩) (fun _ => 0) rfl rfl dX4_pagerOf_30 (Nat.le_of_ble_eq_true rfl) (Nat.le_of_ble_eq_true rfl)
set_option maxHeartbeats 4000000 in
set_option maxRecDepth 100000 in
theorem c453_X4_page (l : Launch) (G : va_G) (cy : Nat → ClassId) (sa : String → Nat → Nat) (sv : Nat → Nat) (h0 h1 h2 h3 h4 h5 h6 h7 h8 h9 h10 : Nat) : xM l G cy sa sv yX4_page (Cond.code yX4_page cX4_page 2 (some .int) :: XG) { frames := 9, cells := 0, slots := 0, locals := 271 } [.ref h0, .int 1] [(h0, .inr (8, [.ref h3, .ref h4, .ref h5, .ref h6, .ref h1, .int 0, .ref h7, .ref h8])), (h1, .inl (cy 3, 3, .inr (.inr (.inr (.inr (va_up (va_up (va_up (fun _ => none) 0 (some h9)) 1 (some h2)) 2 (some h10))))))), (h2, .inr (4, [.int 0, .int 0, .int 0]))] (xQi G (fun f => [(h0, .inr (8, [.ref h3, .ref h4, .ref h5, .ref h6, .ref h1, .int 0, .ref h7, .ref h8])), (h1, .inl (cy 3, 3, .inr (.inr (.inr (.inr (va_up (va_up (va_up (fun _ => none) 0 (some h9)) 1 (some h2)) 2 (some h10))))))), (h2, .inr (4, [.int 0, .int 0, .int 0]))]) 0) := by
  refine xof (by decide) (Nat.le_of_ble_eq_true rfl) (fun p e s m below meth c A C w hr hn ls hl => ?_)
  have hl : lv_has ls 2 [(0, .ref h0), (1, .int 1)] := hl
  refine lv_aload_n C.1 C.2.1 dX4_page_0 rfl (lv_at hl 0 rfl) ?_
  refine lv_iload_n C.1 C.2.1 dX4_page_1 rfl (lv_at hl 1 rfl) ?_
  refine x_kr C w [0, 1] [2] rfl rfl (by decide) (by decide) (va_runV (As := [.int 1]) (rest := []) (xfix C) (c452_X4_pagerOf l G cy sa sv h0 h1 h3 h4 h5 h6 h7 h8 h9 h2 h10 (xtr C) _) (cwV 1 (xhts C) (xgV (maxL := 0) (cc := ⟨#[]⟩) (ret := none) gw_842 gw_843 gw_844 gw_2 gc_X4_pagerOf) rfl rfl rfl (by decide +kernel) ⟨(Nat.le_of_ble_eq_true rfl), (Nat.le_of_ble_eq_true rfl)⟩) (xPV C w [0, 1] rfl (by decide) (ci := 8) (q0 := 0) rfl rfl) rfl rfl hl.1 rfl (lv_room (Nat.le_of_ble_eq_true rfl)) dX4_page_2 ⟨(Nat.le_of_ble_eq_true rfl), (Nat.le_of_ble_eq_true rfl)⟩) (fun f3013 H locs w => ?_)
  have w : xW G A s [(h2, .inr (4, [.int 0, .int 0, .int 0])), (h0, .inr (8, [.ref h3, .ref h4, .ref h5, .ref h6, .ref h1, .int 0, .ref h7, .ref h8])), (h1, .inl (cy 3, 3, .inr (.inr (.inr (.inr (va_up (va_up (va_up (fun _ => none) 0 (some h9)) 1 (some h2)) 2 (some h10)))))))] H _ := w
  refine x_ki C w [0] [1, 2] rfl rfl (by decide) (by decide) (va_runV (As := []) (rest := []) (xfix C) (c447_X0_begin l G cy sa sv h2 (xtr C) _) (cwV 0 (xhts C) (xgV (maxL := 0) (cc := ⟨#[]⟩) (ret := none) gw_849 gw_850 gw_851 gw_46 gc_X0_begin) rfl rfl rfl (by decide +kernel) ⟨(Nat.le_of_ble_eq_true rfl), (Nat.le_of_ble_eq_true rfl)⟩) (xPV C w [0] rfl (by decide) (ci := 4) (q0 := 0) rfl rfl) rfl rfl hl.1 rfl (lv_room (Nat.le_of_ble_eq_true rfl)) dX4_page_5 ⟨(Nat.le_of_ble_eq_true rfl), (Nat.le_of_ble_eq_true rfl)⟩) (fun f3014 H locs w => ?_)
  have w : xW G A s [(h0, .inr (8, [.ref h3, .ref h4, .ref h5, .ref h6, .ref h1, .int 0, .ref h7, .ref h8])), (h1, .inl (cy 3, 3, .inr (.inr (.inr (.inr (va_up (va_up (va_up (fun _ => none) 0 (some h9)) 1 (some h2)) 2 (some h10))))))), (h2, .inr (4, [.int 0, .int 0, .int 0]))] H _ := w
  exact x_iret C w hr (fun _ => 0) rfl rfl dX4_page_8 (Nat.le_of_ble_eq_true rfl) (Nat.le_of_ble_eq_true rfl)
set_option maxHeartbeats 4000000 in
set_option maxRecDepth 100000 in
theorem c454_L_page (l : Launch) (G : va_G) (cy : Nat → ClassId) (sa : String → Nat → Nat) (sv : Nat → Nat) (h0 h1 h2 h3 h4 h5 h6 h7 h8 h9 h10 h11 : Nat) : xM l G cy sa sv yL_page (Cond.codeWith yL_page cL_page 4 (some .int) [(0, 10, 13, 91)] :: XG) { frames := 10, cells := 0, slots := 0, locals := 292 } [.ref h0, .int 1, .ref h1] [(h0, .inr (8, [.ref h4, .ref h5, .ref h6, .ref h7, .ref h2, .int 0, .ref h8, .ref h9])), (h2, .inl (cy 3, 3, .inr (.inr (.inr (.inr (va_up (va_up (va_up (fun _ => none) 0 (some h10)) 1 (some h3)) 2 (some h11))))))), (h3, .inr (4, [.int 0, .int 0, .int 0])), (h1, .inr (9, [.long 0, .null]))] (xQi G (fun f => [(h0, .inr (8, [.ref h4, .ref h5, .ref h6, .ref h7, .ref h2, .int 0, .ref h8, .ref h9])), (h2, .inl (cy 3, 3, .inr (.inr (.inr (.inr (va_up (va_up (va_up (fun _ => none) 0 (some h10)) 1 (some h3)) 2 (some h11))))))), (h3, .inr (4, [.int 0, .int 0, .int 0])), (h1, .inr (9, [.long 0, .null]))]) 0) := by
  refine xofH (by decide) (Nat.le_of_ble_eq_true rfl) (fun p e s m below meth c A C w hr hn hT ls hl => ?_)
  have hl : lv_has ls 4 [(0, .ref h0), (1, .int 1), (2, .ref h1)] := hl
  refine lv_aload_n C.1 C.2.1 dL_page_0 rfl (lv_at hl 2 rfl) ?_
  refine lv_aload_n C.1 C.2.1 dL_page_1 rfl (lv_at hl 0 rfl) ?_
  refine lv_iload_n C.1 C.2.1 dL_page_2 rfl (lv_at hl 1 rfl) ?_
  refine x_ki C w [0, 1, 2] [3] rfl rfl (by decide) (by decide) (va_runV (As := [.int 1]) (rest := [.ref h1]) (xfix C) (c453_X4_page l G cy sa sv h0 h2 h3 h4 h5 h6 h7 h8 h9 h10 h11 (xtr C) _) (cwV 1 (xhts C) (xgV (maxL := 0) (cc := ⟨#[]⟩) (ret := none) gw_853 gw_854 gw_855 gw_2 gc_X4_page) rfl rfl rfl (by decide +kernel) ⟨(Nat.le_of_ble_eq_true rfl), (Nat.le_of_ble_eq_true rfl)⟩) (xPV C w [0, 1, 2] rfl (by decide) (ci := 8) (q0 := 0) rfl rfl) rfl rfl hl.1 rfl (lv_room (Nat.le_of_ble_eq_true rfl)) dL_page_3 ⟨(Nat.le_of_ble_eq_true rfl), (Nat.le_of_ble_eq_true rfl)⟩) (fun f3015 H locs w => ?_)
  have w : xW G A s [(h1, .inr (9, [.long 0, .null])), (h0, .inr (8, [.ref h4, .ref h5, .ref h6, .ref h7, .ref h2, .int 0, .ref h8, .ref h9])), (h2, .inl (cy 3, 3, .inr (.inr (.inr (.inr (va_up (va_up (va_up (fun _ => none) 0 (some h10)) 1 (some h3)) 2 (some h11))))))), (h3, .inr (4, [.int 0, .int 0, .int 0]))] H _ := w
  refine lv_i2l (v := 0) C.1 C.2.1 dL_page_6 (by decide) ?_
  refine x_putN (ty := .long) (ty0 := tyX5) C w 0 9 0 (xin_X5 _) tyX5_ok nmX5 rfl rfl (by decide) (xs_f_n (xS C)) rfl rfl (by decide +kernel) rfl rfl (Nat.le_of_ble_eq_true rfl) dL_page_7 (fun H locs w => ?_)
  have w : xW G A s [(h1, .inr (9, [.long 0, .null])), (h0, .inr (8, [.ref h4, .ref h5, .ref h6, .ref h7, .ref h2, .int 0, .ref h8, .ref h9])), (h2, .inl (cy 3, 3, .inr (.inr (.inr (.inr (va_up (va_up (va_up (fun _ => none) 0 (some h10)) 1 (some h3)) 2 (some h11))))))), (h3, .inr (4, [.int 0, .int 0, .int 0]))] H _ := w
  refine lv_goto (tgt := 16) C.1 C.2.1 dL_page_10 (by decide) ?_
  refine lv_iconst (v := 0) C.1 C.2.1 dL_page_16 (by decide) ?_
  have w := w.sub (ws' := [(h0, .inr (8, [.ref h4, .ref h5, .ref h6, .ref h7, .ref h2, .int 0, .ref h8, .ref h9])), (h2, .inl (cy 3, 3, .inr (.inr (.inr (.inr (va_up (va_up (va_up (fun _ => none) 0 (some h10)) 1 (some h3)) 2 (some h11))))))), (h3, .inr (4, [.int 0, .int 0, .int 0])), (h1, .inr (9, [.long 0, .null]))]) [1, 2, 3, 0] (by decide) rfl rfl
  exact x_iret C w hr (fun _ => 0) rfl rfl dL_page_17 (Nat.le_of_ble_eq_true rfl) (Nat.le_of_ble_eq_true rfl)
set_option maxHeartbeats 4000000 in
set_option maxRecDepth 100000 in
theorem c455_X6_isNoPager (l : Launch) (G : va_G) (cy : Nat → ClassId) (sa : String → Nat → Nat) (sv : Nat → Nat) : xM l G cy sa sv yX6_isNoPager (Cond.code yX6_isNoPager cX6_isNoPager 1 (some .boolean) :: XG) { frames := 8, cells := 0, slots := 0, locals := 250 } [.int 1] [] (xQi G (fun f => []) 0) := by
  refine xof (by decide) (Nat.le_of_ble_eq_true rfl) (fun p e s m below meth c A C w hr hn ls hl => ?_)
  have hl : lv_has ls 1 [(0, .int 1)] := hl
  refine lv_iload_n C.1 C.2.1 dX6_isNoPager_0 rfl (lv_at hl 0 rfl) ?_
  refine lv_if_lt (tgt := 9) C.1 C.2.1 dX6_isNoPager_1 (by decide) (fun c9 => absurd c9 (by decide)) (fun _ => ?_)
  refine lv_iload_n C.1 C.2.1 dX6_isNoPager_4 rfl (lv_at hl 0 rfl) ?_
  refine lv_iconst (v := 3) C.1 C.2.1 dX6_isNoPager_5 (by decide) ?_
  refine lv_icmp_lt (tgt := 13) C.1 C.2.1 dX6_isNoPager_6 (by decide) (fun _ => ?_) (fun c9 => absurd (by decide) c9)
  refine lv_iconst (v := 0) C.1 C.2.1 dX6_isNoPager_13 (by decide) ?_
  exact x_zret C w hr rfl (fun _ => 0) rfl rfl dX6_isNoPager_14 (Nat.le_of_ble_eq_true rfl) (Nat.le_of_ble_eq_true rfl)
set_option maxHeartbeats 4000000 in
set_option maxRecDepth 100000 in
theorem c456_X6_page (l : Launch) (G : va_G) (cy : Nat → ClassId) (sa : String → Nat → Nat) (sv : Nat → Nat) (h0 h1 h2 h3 h4 h5 h6 h7 : Nat) : xM l G cy sa sv yX6_page (Cond.code yX6_page cX6_page 3 (some .int) :: XG) { frames := 9, cells := 0, slots := 0, locals := 272 } [.ref h0, .int 1] [(h0, .inr (10, [.ref h4, .ref h5, .ref h6, .ref h7, .ref h2, .ref h3, .ref h1, .int 0, .int 0])), (h1, .inl (cy 1, 3, .inl (fun _ => 0))), (h2, .inl (cy 2, 3, .inl (fun _ => 0))), (h3, .inl (cy 1, 3, .inl (fun _ => 0)))] (xQi G (fun f => [(h0, .inr (10, [.ref h4, .ref h5, .ref h6, .ref h7, .ref h2, .ref h3, .ref h1, .int 0, .int 0])), (h1, .inl (cy 1, 3, .inl (upd (fun _ => 0) 1 0))), (h2, .inl (cy 2, 3, .inl (upd (fun _ => 0) 1 0))), (h3, .inl (cy 1, 3, .inl (upd (fun _ => 0) 1 0)))]) 0) := by
  refine xof (by decide) (Nat.le_of_ble_eq_true rfl) (fun p e s m below meth c A C w hr hn ls hl => ?_)
  have hl : lv_has ls 3 [(0, .ref h0), (1, .int 1)] := hl
  refine lv_aload_n C.1 C.2.1 dX6_page_0 rfl (lv_at hl 0 rfl) ?_
  refine lv_iload_n C.1 C.2.1 dX6_page_1 rfl (lv_at hl 1 rfl) ?_
  refine x_ki C w [] [0, 1, 2, 3] rfl rfl (by decide) (by decide) (va_runS (As := [.int 1]) (rest := [.ref h0]) (xfix C) (c455_X6_isNoPager l G cy sa sv (xtr C) _) (va_cwS 1 (xhts C) (xgS gw_860 gw_861 gw_58 gc_X6_isNoPager) rfl rfl rfl (by decide +kernel) ⟨(Nat.le_of_ble_eq_true rfl), (Nat.le_of_ble_eq_true rfl)⟩) (xPS C w [] rfl (by decide)) rfl rfl hl.1 rfl (lv_room (Nat.le_of_ble_eq_true rfl)) dX6_page_2 ⟨(Nat.le_of_ble_eq_true rfl), (Nat.le_of_ble_eq_true rfl)⟩) (fun f3017 H locs w => ?_)
  have w : xW G A s [(h0, .inr (10, [.ref h4, .ref h5, .ref h6, .ref h7, .ref h2, .ref h3, .ref h1, .int 0, .int 0])), (h1, .inl (cy 1, 3, .inl (fun _ => 0))), (h2, .inl (cy 2, 3, .inl (fun _ => 0))), (h3, .inl (cy 1, 3, .inl (fun _ => 0)))] H _ := w
  refine lv_iconst (v := 1) C.1 C.2.1 dX6_page_5 (by decide) ?_
  refine x_ki C w [0] [1, 2, 3] rfl rfl (by decide) (by decide) (va_runV (As := [.int 0, .int 1]) (rest := []) (xfix C) (c46_X6_start l G cy sa sv h0 h4 h5 h6 h7 h2 h3 h1 (xtr C) _) (cwV 2 (xhts C) (xgV (maxL := 0) (cc := ⟨#[]⟩) (ret := none) gw_114 gw_115 gw_116 gw_58 gc_X6_start) rfl rfl rfl (by decide +kernel) ⟨(Nat.le_of_ble_eq_true rfl), (Nat.le_of_ble_eq_true rfl)⟩) (xPV C w [0] rfl (by decide) (ci := 10) (q0 := 0) rfl rfl) rfl rfl hl.1 rfl (lv_room (Nat.le_of_ble_eq_true rfl)) dX6_page_6 ⟨(Nat.le_of_ble_eq_true rfl), (Nat.le_of_ble_eq_true rfl)⟩) (fun f3018 H locs w => ?_)
  have w : xW G A s [(h1, .inl (cy 1, 3, .inl (fun _ => 0))), (h2, .inl (cy 2, 3, .inl (fun _ => 0))), (h3, .inl (cy 1, 3, .inl (fun _ => 0))), (h0, .inr (10, [.ref h4, .ref h5, .ref h6, .ref h7, .ref h2, .ref h3, .ref h1, .int 0, .int 0]))] H _ := w
  refine lv_if_eq (tgt := 14) C.1 C.2.1 dX6_page_9 (by decide) (fun _ => ?_) (fun c9 => absurd (by decide) c9)
  refine lv_aload_n C.1 C.2.1 dX6_page_14 rfl (lv_at hl 0 rfl) ?_
  refine x_get (v := .ref h1) C w 3 10 6 (xin_X6 _) rfl rfl (by decide) (List.mem_cons_of_mem _ gw_85) rfl rfl dX6_page_15 ?_
  refine lv_iload_n C.1 C.2.1 dX6_page_18 rfl (lv_at hl 1 rfl) ?_
  refine x_iald (v := 0) C w 0 1 rfl rfl (xvin (by decide)) (by rfl) dX6_page_19 ?_
  refine lv_istore_n (lv' := [(2, .int 0), (0, .ref h0), (1, .int 1)]) C.1 C.2.1 dX6_page_20 rfl hl (by decide) rfl (fun ls hl => ?_)
  refine lv_aload_n C.1 C.2.1 dX6_page_21 rfl (lv_at hl 1 rfl) ?_
  refine x_get (v := .ref h2) C w 3 10 4 (xin_X6 _) rfl rfl (by decide) (List.mem_cons_of_mem _ gw_83) rfl rfl dX6_page_22 ?_
  refine lv_iload_n C.1 C.2.1 dX6_page_25 rfl (lv_at hl 2 rfl) ?_
  refine lv_iconst (v := 0) C.1 C.2.1 dX6_page_26 (by decide) ?_
  refine x_zast (k := 1) (y := 0) C w 1 2 rfl rfl (xvin (by decide)) (by decide) (by decide) dX6_page_27 (fun H locs w => ?_)
  have w : xW G A s [(h1, .inl (cy 1, 3, .inl (fun _ => 0))), (h2, .inl (cy 2, 3, .inl (upd (fun _ => 0) 1 0))), (h3, .inl (cy 1, 3, .inl (fun _ => 0))), (h0, .inr (10, [.ref h4, .ref h5, .ref h6, .ref h7, .ref h2, .ref h3, .ref h1, .int 0, .int 0]))] H _ := w
  refine lv_aload_n C.1 C.2.1 dX6_page_28 rfl (lv_at hl 1 rfl) ?_
  refine x_get (v := .ref h3) C w 3 10 5 (xin_X6 _) rfl rfl (by decide) (List.mem_cons_of_mem _ gw_84) rfl rfl dX6_page_29 ?_
  refine lv_iload_n C.1 C.2.1 dX6_page_32 rfl (lv_at hl 2 rfl) ?_
  refine lv_iconst (v := 0) C.1 C.2.1 dX6_page_33 (by decide) ?_
  refine x_iast (k := 1) C w 2 1 rfl rfl (xvin (by decide)) (by decide) dX6_page_34 (fun H locs w => ?_)
  have w : xW G A s [(h1, .inl (cy 1, 3, .inl (fun _ => 0))), (h2, .inl (cy 2, 3, .inl (upd (fun _ => 0) 1 0))), (h3, .inl (cy 1, 3, .inl (upd (fun _ => 0) 1 0))), (h0, .inr (10, [.ref h4, .ref h5, .ref h6, .ref h7, .ref h2, .ref h3, .ref h1, .int 0, .int 0]))] H _ := w
  refine lv_aload_n C.1 C.2.1 dX6_page_35 rfl (lv_at hl 1 rfl) ?_
  refine x_get (v := .ref h1) C w 3 10 6 (xin_X6 _) rfl rfl (by decide) (List.mem_cons_of_mem _ gw_85) rfl rfl dX6_page_36 ?_
  refine lv_iload_n C.1 C.2.1 dX6_page_39 rfl (lv_at hl 2 rfl) ?_
  refine lv_iconst (v := 0) C.1 C.2.1 dX6_page_40 (by decide) ?_
  refine x_iast (k := 1) C w 0 1 rfl rfl (xvin (by decide)) (by decide) dX6_page_41 (fun H locs w => ?_)
  have w : xW G A s [(h1, .inl (cy 1, 3, .inl (upd (fun _ => 0) 1 0))), (h2, .inl (cy 2, 3, .inl (upd (fun _ => 0) 1 0))), (h3, .inl (cy 1, 3, .inl (upd (fun _ => 0) 1 0))), (h0, .inr (10, [.ref h4, .ref h5, .ref h6, .ref h7, .ref h2, .ref h3, .ref h1, .int 0, .int 0]))] H _ := w
  refine lv_iload_n C.1 C.2.1 dX6_page_42 rfl (lv_at hl 0 rfl) ?_
  have w := w.sub (ws' := [(h0, .inr (10, [.ref h4, .ref h5, .ref h6, .ref h7, .ref h2, .ref h3, .ref h1, .int 0, .int 0])), (h1, .inl (cy 1, 3, .inl (upd (fun _ => 0) 1 0))), (h2, .inl (cy 2, 3, .inl (upd (fun _ => 0) 1 0))), (h3, .inl (cy 1, 3, .inl (upd (fun _ => 0) 1 0)))]) [3, 0, 1, 2] (by decide) rfl rfl
  exact x_iret C w hr (fun _ => 0) rfl rfl dX6_page_43 (Nat.le_of_ble_eq_true rfl) (Nat.le_of_ble_eq_true rfl)
set_option maxHeartbeats 4000000 in
set_option maxRecDepth 100000 in
theorem c457_X4_pagerOf (l : Launch) (G : va_G) (cy : Nat → ClassId) (sa : String → Nat → Nat) (sv : Nat → Nat) (h0 h1 h2 h3 h4 h5 h6 h7 h8 h9 h10 : Nat) : xM l G cy sa sv yX4_pagerOf (Cond.code yX4_pagerOf cX4_pagerOf 2 (some (.object "Twinindex$Pager")) :: XG) { frames := 8, cells := 0, slots := 0, locals := 250 } [.ref h0, .int 2] [(h0, .inr (8, [.ref h2, .ref h3, .ref h4, .ref h5, .ref h1, .int 0, .ref h6, .ref h7])), (h1, .inl (cy 3, 3, .inr (.inr (.inr (.inr (va_up (va_up (va_up (fun _ => none) 0 (some h8)) 1 (some h9)) 2 (some h10)))))))] (xQr G (fun f => [(h0, .inr (8, [.ref h2, .ref h3, .ref h4, .ref h5, .ref h1, .int 0, .ref h6, .ref h7])), (h1, .inl (cy 3, 3, .inr (.inr (.inr (.inr (va_up (va_up (va_up (fun _ => none) 0 (some h8)) 1 (some h9)) 2 (some h10)))))))]) (fun f => h10)) := by
  refine xof (by decide) (Nat.le_of_ble_eq_true rfl) (fun p e s m below meth c A C w hr hn ls hl => ?_)
  have hl : lv_has ls 2 [(0, .ref h0), (1, .int 2)] := hl
  refine lv_iload_n C.1 C.2.1 dX4_pagerOf_0 rfl (lv_at hl 1 rfl) ?_
  refine lv_if_lt (tgt := 13) C.1 C.2.1 dX4_pagerOf_1 (by decide) (fun c9 => absurd c9 (by decide)) (fun _ => ?_)
  refine lv_iload_n C.1 C.2.1 dX4_pagerOf_4 rfl (lv_at hl 1 rfl) ?_
  refine lv_aload_n C.1 C.2.1 dX4_pagerOf_5 rfl (lv_at hl 0 rfl) ?_
  refine x_get (v := .ref h1) C w 0 8 4 (xin_X4 _) rfl rfl (by decide) (List.mem_cons_of_mem _ gw_44) rfl rfl dX4_pagerOf_6 ?_
  refine x_alen (v := 3) C w 1 3 rfl rfl (by rfl) dX4_pagerOf_9 ?_
  refine lv_icmp_lt (tgt := 24) C.1 C.2.1 dX4_pagerOf_10 (by decide) (fun _ => ?_) (fun c9 => absurd (by decide) c9)
  refine lv_aload_n C.1 C.2.1 dX4_pagerOf_24 rfl (lv_at hl 0 rfl) ?_
  refine x_get (v := .ref h1) C w 0 8 4 (xin_X4 _) rfl rfl (by decide) (List.mem_cons_of_mem _ gw_44) rfl rfl dX4_pagerOf_25 ?_
  refine lv_iload_n C.1 C.2.1 dX4_pagerOf_28 rfl (lv_at hl 1 rfl) ?_
  refine x_aldq (b := h10) C w 1 3 rfl rfl (xvin (by decide)) rfl dX4_pagerOf_29 ?_
  exact x_aret C w hr (Or.inl ⟨_, rfl⟩) (fun _ => 0) rfl rfl dX4_pagerOf_30 (Nat.le_of_ble_eq_true rfl) (Nat.le_of_ble_eq_true rfl)
set_option maxHeartbeats 4000000 in
set_option maxRecDepth 100000 in
theorem c458_X4_page (l : Launch) (G : va_G) (cy : Nat → ClassId) (sa : String → Nat → Nat) (sv : Nat → Nat) (h0 h1 h2 h3 h4 h5 h6 h7 h8 h9 h10 : Nat) : xM l G cy sa sv yX4_page (Cond.code yX4_page cX4_page 2 (some .int) :: XG) { frames := 9, cells := 0, slots := 0, locals := 271 } [.ref h0, .int 2] [(h0, .inr (8, [.ref h3, .ref h4, .ref h5, .ref h6, .ref h1, .int 0, .ref h7, .ref h8])), (h1, .inl (cy 3, 3, .inr (.inr (.inr (.inr (va_up (va_up (va_up (fun _ => none) 0 (some h9)) 1 (some h10)) 2 (some h2))))))), (h2, .inr (4, [.int 0, .int 0, .int 0]))] (xQi G (fun f => [(h0, .inr (8, [.ref h3, .ref h4, .ref h5, .ref h6, .ref h1, .int 0, .ref h7, .ref h8])), (h1, .inl (cy 3, 3, .inr (.inr (.inr (.inr (va_up (va_up (va_up (fun _ => none) 0 (some h9)) 1 (some h10)) 2 (some h2))))))), (h2, .inr (4, [.int 0, .int 0, .int 0]))]) 0) := by
  refine xof (by decide) (Nat.le_of_ble_eq_true rfl) (fun p e s m below meth c A C w hr hn ls hl => ?_)
  have hl : lv_has ls 2 [(0, .ref h0), (1, .int 2)] := hl
  refine lv_aload_n C.1 C.2.1 dX4_page_0 rfl (lv_at hl 0 rfl) ?_
  refine lv_iload_n C.1 C.2.1 dX4_page_1 rfl (lv_at hl 1 rfl) ?_
  refine x_kr C w [0, 1] [2] rfl rfl (by decide) (by decide) (va_runV (As := [.int 2]) (rest := []) (xfix C) (c457_X4_pagerOf l G cy sa sv h0 h1 h3 h4 h5 h6 h7 h8 h9 h10 h2 (xtr C) _) (cwV 1 (xhts C) (xgV (maxL := 0) (cc := ⟨#[]⟩) (ret := none) gw_842 gw_843 gw_844 gw_2 gc_X4_pagerOf) rfl rfl rfl (by decide +kernel) ⟨(Nat.le_of_ble_eq_true rfl), (Nat.le_of_ble_eq_true rfl)⟩) (xPV C w [0, 1] rfl (by decide) (ci := 8) (q0 := 0) rfl rfl) rfl rfl hl.1 rfl (lv_room (Nat.le_of_ble_eq_true rfl)) dX4_page_2 ⟨(Nat.le_of_ble_eq_true rfl), (Nat.le_of_ble_eq_true rfl)⟩) (fun f3021 H locs w => ?_)
  have w : xW G A s [(h2, .inr (4, [.int 0, .int 0, .int 0])), (h0, .inr (8, [.ref h3, .ref h4, .ref h5, .ref h6, .ref h1, .int 0, .ref h7, .ref h8])), (h1, .inl (cy 3, 3, .inr (.inr (.inr (.inr (va_up (va_up (va_up (fun _ => none) 0 (some h9)) 1 (some h10)) 2 (some h2)))))))] H _ := w
  refine x_ki C w [0] [1, 2] rfl rfl (by decide) (by decide) (va_runV (As := []) (rest := []) (xfix C) (c447_X0_begin l G cy sa sv h2 (xtr C) _) (cwV 0 (xhts C) (xgV (maxL := 0) (cc := ⟨#[]⟩) (ret := none) gw_849 gw_850 gw_851 gw_46 gc_X0_begin) rfl rfl rfl (by decide +kernel) ⟨(Nat.le_of_ble_eq_true rfl), (Nat.le_of_ble_eq_true rfl)⟩) (xPV C w [0] rfl (by decide) (ci := 4) (q0 := 0) rfl rfl) rfl rfl hl.1 rfl (lv_room (Nat.le_of_ble_eq_true rfl)) dX4_page_5 ⟨(Nat.le_of_ble_eq_true rfl), (Nat.le_of_ble_eq_true rfl)⟩) (fun f3022 H locs w => ?_)
  have w : xW G A s [(h0, .inr (8, [.ref h3, .ref h4, .ref h5, .ref h6, .ref h1, .int 0, .ref h7, .ref h8])), (h1, .inl (cy 3, 3, .inr (.inr (.inr (.inr (va_up (va_up (va_up (fun _ => none) 0 (some h9)) 1 (some h10)) 2 (some h2))))))), (h2, .inr (4, [.int 0, .int 0, .int 0]))] H _ := w
  exact x_iret C w hr (fun _ => 0) rfl rfl dX4_page_8 (Nat.le_of_ble_eq_true rfl) (Nat.le_of_ble_eq_true rfl)
set_option maxHeartbeats 4000000 in
set_option maxRecDepth 100000 in
theorem c459_L_page (l : Launch) (G : va_G) (cy : Nat → ClassId) (sa : String → Nat → Nat) (sv : Nat → Nat) (h0 h1 h2 h3 h4 h5 h6 h7 h8 h9 h10 h11 : Nat) : xM l G cy sa sv yL_page (Cond.codeWith yL_page cL_page 4 (some .int) [(0, 10, 13, 91)] :: XG) { frames := 10, cells := 0, slots := 0, locals := 292 } [.ref h0, .int 2, .ref h1] [(h0, .inr (8, [.ref h4, .ref h5, .ref h6, .ref h7, .ref h2, .int 0, .ref h8, .ref h9])), (h2, .inl (cy 3, 3, .inr (.inr (.inr (.inr (va_up (va_up (va_up (fun _ => none) 0 (some h10)) 1 (some h11)) 2 (some h3))))))), (h3, .inr (4, [.int 0, .int 0, .int 0])), (h1, .inr (9, [.long 0, .null]))] (xQi G (fun f => [(h0, .inr (8, [.ref h4, .ref h5, .ref h6, .ref h7, .ref h2, .int 0, .ref h8, .ref h9])), (h2, .inl (cy 3, 3, .inr (.inr (.inr (.inr (va_up (va_up (va_up (fun _ => none) 0 (some h10)) 1 (some h11)) 2 (some h3))))))), (h3, .inr (4, [.int 0, .int 0, .int 0])), (h1, .inr (9, [.long 0, .null]))]) 0) := by
  refine xofH (by decide) (Nat.le_of_ble_eq_true rfl) (fun p e s m below meth c A C w hr hn hT ls hl => ?_)
  have hl : lv_has ls 4 [(0, .ref h0), (1, .int 2), (2, .ref h1)] := hl
  refine lv_aload_n C.1 C.2.1 dL_page_0 rfl (lv_at hl 2 rfl) ?_
  refine lv_aload_n C.1 C.2.1 dL_page_1 rfl (lv_at hl 0 rfl) ?_
  refine lv_iload_n C.1 C.2.1 dL_page_2 rfl (lv_at hl 1 rfl) ?_
  refine x_ki C w [0, 1, 2] [3] rfl rfl (by decide) (by decide) (va_runV (As := [.int 2]) (rest := [.ref h1]) (xfix C) (c458_X4_page l G cy sa sv h0 h2 h3 h4 h5 h6 h7 h8 h9 h10 h11 (xtr C) _) (cwV 1 (xhts C) (xgV (maxL := 0) (cc := ⟨#[]⟩) (ret := none) gw_853 gw_854 gw_855 gw_2 gc_X4_page) rfl rfl rfl (by decide +kernel) ⟨(Nat.le_of_ble_eq_true rfl), (Nat.le_of_ble_eq_true rfl)⟩) (xPV C w [0, 1, 2] rfl (by decide) (ci := 8) (q0 := 0) rfl rfl) rfl rfl hl.1 rfl (lv_room (Nat.le_of_ble_eq_true rfl)) dL_page_3 ⟨(Nat.le_of_ble_eq_true rfl), (Nat.le_of_ble_eq_true rfl)⟩) (fun f3023 H locs w => ?_)
  have w : xW G A s [(h1, .inr (9, [.long 0, .null])), (h0, .inr (8, [.ref h4, .ref h5, .ref h6, .ref h7, .ref h2, .int 0, .ref h8, .ref h9])), (h2, .inl (cy 3, 3, .inr (.inr (.inr (.inr (va_up (va_up (va_up (fun _ => none) 0 (some h10)) 1 (some h11)) 2 (some h3))))))), (h3, .inr (4, [.int 0, .int 0, .int 0]))] H _ := w
  refine lv_i2l (v := 0) C.1 C.2.1 dL_page_6 (by decide) ?_
  refine x_putN (ty := .long) (ty0 := tyX5) C w 0 9 0 (xin_X5 _) tyX5_ok nmX5 rfl rfl (by decide) (xs_f_n (xS C)) rfl rfl (by decide +kernel) rfl rfl (Nat.le_of_ble_eq_true rfl) dL_page_7 (fun H locs w => ?_)
  have w : xW G A s [(h1, .inr (9, [.long 0, .null])), (h0, .inr (8, [.ref h4, .ref h5, .ref h6, .ref h7, .ref h2, .int 0, .ref h8, .ref h9])), (h2, .inl (cy 3, 3, .inr (.inr (.inr (.inr (va_up (va_up (va_up (fun _ => none) 0 (some h10)) 1 (some h11)) 2 (some h3))))))), (h3, .inr (4, [.int 0, .int 0, .int 0]))] H _ := w
  refine lv_goto (tgt := 16) C.1 C.2.1 dL_page_10 (by decide) ?_
  refine lv_iconst (v := 0) C.1 C.2.1 dL_page_16 (by decide) ?_
  have w := w.sub (ws' := [(h0, .inr (8, [.ref h4, .ref h5, .ref h6, .ref h7, .ref h2, .int 0, .ref h8, .ref h9])), (h2, .inl (cy 3, 3, .inr (.inr (.inr (.inr (va_up (va_up (va_up (fun _ => none) 0 (some h10)) 1 (some h11)) 2 (some h3))))))), (h3, .inr (4, [.int 0, .int 0, .int 0])), (h1, .inr (9, [.long 0, .null]))]) [1, 2, 3, 0] (by decide) rfl rfl
  exact x_iret C w hr (fun _ => 0) rfl rfl dL_page_17 (Nat.le_of_ble_eq_true rfl) (Nat.le_of_ble_eq_true rfl)
set_option maxHeartbeats 4000000 in
set_option maxRecDepth 100000 in
theorem c460_X6_isNoPager (l : Launch) (G : va_G) (cy : Nat → ClassId) (sa : String → Nat → Nat) (sv : Nat → Nat) : xM l G cy sa sv yX6_isNoPager (Cond.code yX6_isNoPager cX6_isNoPager 1 (some .boolean) :: XG) { frames := 8, cells := 0, slots := 0, locals := 250 } [.int 2] [] (xQi G (fun f => []) 0) := by
  refine xof (by decide) (Nat.le_of_ble_eq_true rfl) (fun p e s m below meth c A C w hr hn ls hl => ?_)
  have hl : lv_has ls 1 [(0, .int 2)] := hl
  refine lv_iload_n C.1 C.2.1 dX6_isNoPager_0 rfl (lv_at hl 0 rfl) ?_
  refine lv_if_lt (tgt := 9) C.1 C.2.1 dX6_isNoPager_1 (by decide) (fun c9 => absurd c9 (by decide)) (fun _ => ?_)
  refine lv_iload_n C.1 C.2.1 dX6_isNoPager_4 rfl (lv_at hl 0 rfl) ?_
  refine lv_iconst (v := 3) C.1 C.2.1 dX6_isNoPager_5 (by decide) ?_
  refine lv_icmp_lt (tgt := 13) C.1 C.2.1 dX6_isNoPager_6 (by decide) (fun _ => ?_) (fun c9 => absurd (by decide) c9)
  refine lv_iconst (v := 0) C.1 C.2.1 dX6_isNoPager_13 (by decide) ?_
  exact x_zret C w hr rfl (fun _ => 0) rfl rfl dX6_isNoPager_14 (Nat.le_of_ble_eq_true rfl) (Nat.le_of_ble_eq_true rfl)
set_option maxHeartbeats 4000000 in
set_option maxRecDepth 100000 in
theorem c461_X6_page (l : Launch) (G : va_G) (cy : Nat → ClassId) (sa : String → Nat → Nat) (sv : Nat → Nat) (h0 h1 h2 h3 h4 h5 h6 h7 : Nat) : xM l G cy sa sv yX6_page (Cond.code yX6_page cX6_page 3 (some .int) :: XG) { frames := 9, cells := 0, slots := 0, locals := 272 } [.ref h0, .int 2] [(h0, .inr (10, [.ref h4, .ref h5, .ref h6, .ref h7, .ref h2, .ref h3, .ref h1, .int 0, .int 0])), (h1, .inl (cy 1, 3, .inl (fun _ => 0))), (h2, .inl (cy 2, 3, .inl (fun _ => 0))), (h3, .inl (cy 1, 3, .inl (fun _ => 0)))] (xQi G (fun f => [(h0, .inr (10, [.ref h4, .ref h5, .ref h6, .ref h7, .ref h2, .ref h3, .ref h1, .int 0, .int 0])), (h1, .inl (cy 1, 3, .inl (upd (fun _ => 0) 2 0))), (h2, .inl (cy 2, 3, .inl (upd (fun _ => 0) 2 0))), (h3, .inl (cy 1, 3, .inl (upd (fun _ => 0) 2 0)))]) 0) := by
  refine xof (by decide) (Nat.le_of_ble_eq_true rfl) (fun p e s m below meth c A C w hr hn ls hl => ?_)
  have hl : lv_has ls 3 [(0, .ref h0), (1, .int 2)] := hl
  refine lv_aload_n C.1 C.2.1 dX6_page_0 rfl (lv_at hl 0 rfl) ?_
  refine lv_iload_n C.1 C.2.1 dX6_page_1 rfl (lv_at hl 1 rfl) ?_
  refine x_ki C w [] [0, 1, 2, 3] rfl rfl (by decide) (by decide) (va_runS (As := [.int 2]) (rest := [.ref h0]) (xfix C) (c460_X6_isNoPager l G cy sa sv (xtr C) _) (va_cwS 1 (xhts C) (xgS gw_860 gw_861 gw_58 gc_X6_isNoPager) rfl rfl rfl (by decide +kernel) ⟨(Nat.le_of_ble_eq_true rfl), (Nat.le_of_ble_eq_true rfl)⟩) (xPS C w [] rfl (by decide)) rfl rfl hl.1 rfl (lv_room (Nat.le_of_ble_eq_true rfl)) dX6_page_2 ⟨(Nat.le_of_ble_eq_true rfl), (Nat.le_of_ble_eq_true rfl)⟩) (fun f3025 H locs w => ?_)
  have w : xW G A s [(h0, .inr (10, [.ref h4, .ref h5, .ref h6, .ref h7, .ref h2, .ref h3, .ref h1, .int 0, .int 0])), (h1, .inl (cy 1, 3, .inl (fun _ => 0))), (h2, .inl (cy 2, 3, .inl (fun _ => 0))), (h3, .inl (cy 1, 3, .inl (fun _ => 0)))] H _ := w
  refine lv_iconst (v := 1) C.1 C.2.1 dX6_page_5 (by decide) ?_
  refine x_ki C w [0] [1, 2, 3] rfl rfl (by decide) (by decide) (va_runV (As := [.int 0, .int 1]) (rest := []) (xfix C) (c46_X6_start l G cy sa sv h0 h4 h5 h6 h7 h2 h3 h1 (xtr C) _) (cwV 2 (xhts C) (xgV (maxL := 0) (cc := ⟨#[]⟩) (ret := none) gw_114 gw_115 gw_116 gw_58 gc_X6_start) rfl rfl rfl (by decide +kernel) ⟨(Nat.le_of_ble_eq_true rfl), (Nat.le_of_ble_eq_true rfl)⟩) (xPV C w [0] rfl (by decide) (ci := 10) (q0 := 0) rfl rfl) rfl rfl hl.1 rfl (lv_room (Nat.le_of_ble_eq_true rfl)) dX6_page_6 ⟨(Nat.le_of_ble_eq_true rfl), (Nat.le_of_ble_eq_true rfl)⟩) (fun f3026 H locs w => ?_)
  have w : xW G A s [(h1, .inl (cy 1, 3, .inl (fun _ => 0))), (h2, .inl (cy 2, 3, .inl (fun _ => 0))), (h3, .inl (cy 1, 3, .inl (fun _ => 0))), (h0, .inr (10, [.ref h4, .ref h5, .ref h6, .ref h7, .ref h2, .ref h3, .ref h1, .int 0, .int 0]))] H _ := w
  refine lv_if_eq (tgt := 14) C.1 C.2.1 dX6_page_9 (by decide) (fun _ => ?_) (fun c9 => absurd (by decide) c9)
  refine lv_aload_n C.1 C.2.1 dX6_page_14 rfl (lv_at hl 0 rfl) ?_
  refine x_get (v := .ref h1) C w 3 10 6 (xin_X6 _) rfl rfl (by decide) (List.mem_cons_of_mem _ gw_85) rfl rfl dX6_page_15 ?_
  refine lv_iload_n C.1 C.2.1 dX6_page_18 rfl (lv_at hl 1 rfl) ?_
  refine x_iald (v := 0) C w 0 1 rfl rfl (xvin (by decide)) (by rfl) dX6_page_19 ?_
  refine lv_istore_n (lv' := [(2, .int 0), (0, .ref h0), (1, .int 2)]) C.1 C.2.1 dX6_page_20 rfl hl (by decide) rfl (fun ls hl => ?_)
  refine lv_aload_n C.1 C.2.1 dX6_page_21 rfl (lv_at hl 1 rfl) ?_
  refine x_get (v := .ref h2) C w 3 10 4 (xin_X6 _) rfl rfl (by decide) (List.mem_cons_of_mem _ gw_83) rfl rfl dX6_page_22 ?_
  refine lv_iload_n C.1 C.2.1 dX6_page_25 rfl (lv_at hl 2 rfl) ?_
  refine lv_iconst (v := 0) C.1 C.2.1 dX6_page_26 (by decide) ?_
  refine x_zast (k := 2) (y := 0) C w 1 2 rfl rfl (xvin (by decide)) (by decide) (by decide) dX6_page_27 (fun H locs w => ?_)
  have w : xW G A s [(h1, .inl (cy 1, 3, .inl (fun _ => 0))), (h2, .inl (cy 2, 3, .inl (upd (fun _ => 0) 2 0))), (h3, .inl (cy 1, 3, .inl (fun _ => 0))), (h0, .inr (10, [.ref h4, .ref h5, .ref h6, .ref h7, .ref h2, .ref h3, .ref h1, .int 0, .int 0]))] H _ := w
  refine lv_aload_n C.1 C.2.1 dX6_page_28 rfl (lv_at hl 1 rfl) ?_
  refine x_get (v := .ref h3) C w 3 10 5 (xin_X6 _) rfl rfl (by decide) (List.mem_cons_of_mem _ gw_84) rfl rfl dX6_page_29 ?_
  refine lv_iload_n C.1 C.2.1 dX6_page_32 rfl (lv_at hl 2 rfl) ?_
  refine lv_iconst (v := 0) C.1 C.2.1 dX6_page_33 (by decide) ?_
  refine x_iast (k := 2) C w 2 1 rfl rfl (xvin (by decide)) (by decide) dX6_page_34 (fun H locs w => ?_)
  have w : xW G A s [(h1, .inl (cy 1, 3, .inl (fun _ => 0))), (h2, .inl (cy 2, 3, .inl (upd (fun _ => 0) 2 0))), (h3, .inl (cy 1, 3, .inl (upd (fun _ => 0) 2 0))), (h0, .inr (10, [.ref h4, .ref h5, .ref h6, .ref h7, .ref h2, .ref h3, .ref h1, .int 0, .int 0]))] H _ := w
  refine lv_aload_n C.1 C.2.1 dX6_page_35 rfl (lv_at hl 1 rfl) ?_
  refine x_get (v := .ref h1) C w 3 10 6 (xin_X6 _) rfl rfl (by decide) (List.mem_cons_of_mem _ gw_85) rfl rfl dX6_page_36 ?_
  refine lv_iload_n C.1 C.2.1 dX6_page_39 rfl (lv_at hl 2 rfl) ?_
  refine lv_iconst (v := 0) C.1 C.2.1 dX6_page_40 (by decide) ?_
  refine x_iast (k := 2) C w 0 1 rfl rfl (xvin (by decide)) (by decide) dX6_page_41 (fun H locs w => ?_)
  have w : xW G A s [(h1, .inl (cy 1, 3, .inl (upd (fun _ => 0) 2 0))), (h2, .inl (cy 2, 3, .inl (upd (fun _ => 0) 2 0))), (h3, .inl (cy 1, 3, .inl (upd (fun _ => 0) 2 0))), (h0, .inr (10, [.ref h4, .ref h5, .ref h6, .ref h7, .ref h2, .ref h3, .ref h1, .int 0, .int 0]))] H _ := w
  refine lv_iload_n C.1 C.2.1 dX6_page_42 rfl (lv_at hl 0 rfl) ?_
  have w := w.sub (ws' := [(h0, .inr (10, [.ref h4, .ref h5, .ref h6, .ref h7, .ref h2, .ref h3, .ref h1, .int 0, .int 0])), (h1, .inl (cy 1, 3, .inl (upd (fun _ => 0) 2 0))), (h2, .inl (cy 2, 3, .inl (upd (fun _ => 0) 2 0))), (h3, .inl (cy 1, 3, .inl (upd (fun _ => 0) 2 0)))]) [3, 0, 1, 2] (by decide) rfl rfl
  exact x_iret C w hr (fun _ => 0) rfl rfl dX6_page_43 (Nat.le_of_ble_eq_true rfl) (Nat.le_of_ble_eq_true rfl)
set_option maxHeartbeats 4000000 in
set_option maxRecDepth 100000 in
theorem c462_X4_pagerOf (l : Launch) (G : va_G) (cy : Nat → ClassId) (sa : String → Nat → Nat) (sv : Nat → Nat) (h0 : Nat) (v0 : Int32) (p0 : v0 < 0) : xX l G cy sa sv yX4_pagerOf (Cond.code yX4_pagerOf cX4_pagerOf 2 (some (.object "Twinindex$Pager")) :: XG) { frames := 8, cells := 1, slots := 6, locals := 250 } [.ref h0, .int v0] [] (fun f => []) "java/lang/IndexOutOfBoundsException" := by
  refine xofX (by decide) (Nat.le_of_ble_eq_true rfl) (fun p e s m below meth c A C w hno ls hl => ?_)
  have hl : lv_has ls 2 [(0, .ref h0), (1, .int v0)] := hl
  refine lv_iload_n C.1 C.2.1 dX4_pagerOf_0 rfl (lv_at hl 1 rfl) ?_
  refine lv_if_lt (tgt := 13) C.1 C.2.1 dX4_pagerOf_1 (by decide) (fun _ => ?_) (fun c9 => absurd p0 c9)
  exact x_thrW C w hno hl.1 (by decide) (List.mem_cons_of_mem _ gw_866) (List.mem_cons_of_mem _ gw_867) (tx := "pager is not 0 to 2") (List.mem_of_getElem? (i := 10) rfl) (xat_333 C (fun w h => List.mem_cons_of_mem _ h)) xatg_333 dX4_pagerOf_13 dX4_pagerOf_16 dX4_pagerOf_17 dX4_pagerOf_20 dX4_pagerOf_23 (Nat.le_of_ble_eq_true rfl) (Nat.le_of_ble_eq_true rfl) (Nat.le_of_ble_eq_true rfl) (Nat.le_of_ble_eq_true rfl) rfl rfl (fun _ => 0) rfl
set_option maxHeartbeats 4000000 in
set_option maxRecDepth 100000 in
theorem c463_X4_page (l : Launch) (G : va_G) (cy : Nat → ClassId) (sa : String → Nat → Nat) (sv : Nat → Nat) (h0 h1 h2 h3 h4 h5 h6 h7 : Nat) (v0 : Int32) (p0 : v0 < 0) : xX l G cy sa sv yX4_page (Cond.code yX4_page cX4_page 2 (some .int) :: XG) { frames := 9, cells := 1, slots := 6, locals := 271 } [.ref h0, .int v0] [(h0, .inr (8, [.ref h1, .ref h2, .ref h3, .ref h4, .ref h5, .int 0, .ref h6, .ref h7]))] (fun f => [(h0, .inr (8, [.ref h1, .ref h2, .ref h3, .ref h4, .ref h5, .int 0, .ref h6, .ref h7]))]) "java/lang/IndexOutOfBoundsException" := by
  refine xofX (by decide) (Nat.le_of_ble_eq_true rfl) (fun p e s m below meth c A C w hno ls hl => ?_)
  have hl : lv_has ls 2 [(0, .ref h0), (1, .int v0)] := hl
  refine lv_aload_n C.1 C.2.1 dX4_page_0 rfl (lv_at hl 0 rfl) ?_
  refine lv_iload_n C.1 C.2.1 dX4_page_1 rfl (lv_at hl 1 rfl) ?_
  refine x_kx C w [] [0] rfl rfl (by decide) (by decide) (vx_runV (As := [.int v0]) (rest := []) (xfix C) (c462_X4_pagerOf l G cy sa sv h0 v0 p0 (xtr C) _) (cwV 1 (xhts C) (xgV (maxL := 0) (cc := ⟨#[]⟩) (ret := none) gw_842 gw_843 gw_844 gw_2 gc_X4_pagerOf) rfl rfl rfl (by decide +kernel) ⟨(Nat.le_of_ble_eq_true rfl), (Nat.le_of_ble_eq_true rfl)⟩) (xPV C w [] rfl (by decide) (ci := 8) (q0 := 0) rfl rfl) rfl rfl hl.1 rfl (lv_room (Nat.le_of_ble_eq_true rfl)) dX4_page_2 ⟨(Nat.le_of_ble_eq_true rfl), (Nat.le_of_ble_eq_true rfl)⟩) (fun f3033 H locs ce q9 w hce hcv hcl => ?_)
  have w : xW G A s [(h0, .inr (8, [.ref h1, .ref h2, .ref h3, .ref h4, .ref h5, .int 0, .ref h6, .ref h7]))] H _ := w
  refine vx_widen (k := 1) (n := 6) (Nat.le_of_ble_eq_true rfl) (Nat.le_of_ble_eq_true rfl) ?_
  exact x_out C w hno (fun _ => 0) rfl hce hcv hcl (Nat.le_of_ble_eq_true rfl) (Nat.le_of_ble_eq_true rfl)
set_option maxHeartbeats 4000000 in
set_option maxRecDepth 100000 in
theorem c464_L_page (l : Launch) (G : va_G) (cy : Nat → ClassId) (sa : String → Nat → Nat) (sv : Nat → Nat) (h0 h1 h2 h3 h4 h5 h6 h7 h8 : Nat) (v0 : Int32) (p0 : v0 < 0) : xM l G cy sa sv yL_page (Cond.codeWith yL_page cL_page 4 (some .int) [(0, 10, 13, 91)] :: XG) { frames := 10, cells := 1, slots := 6, locals := 292 } [.ref h0, .int v0, .ref h1] [(h0, .inr (8, [.ref h2, .ref h3, .ref h4, .ref h5, .ref h6, .int 0, .ref h7, .ref h8]))] (xQi G (fun f => [(h0, .inr (8, [.ref h2, .ref h3, .ref h4, .ref h5, .ref h6, .int 0, .ref h7, .ref h8]))]) 1) := by
  refine xofH (by decide) (Nat.le_of_ble_eq_true rfl) (fun p e s m below meth c A C w hr hn hT ls hl => ?_)
  have hl : lv_has ls 4 [(0, .ref h0), (1, .int v0), (2, .ref h1)] := hl
  refine lv_aload_n C.1 C.2.1 dL_page_0 rfl (lv_at hl 2 rfl) ?_
  refine lv_aload_n C.1 C.2.1 dL_page_1 rfl (lv_at hl 0 rfl) ?_
  refine lv_iload_n C.1 C.2.1 dL_page_2 rfl (lv_at hl 1 rfl) ?_
  refine x_kx C w [0] [] rfl rfl (by decide) (by decide) (vx_runV (As := [.int v0]) (rest := [.ref h1]) (xfix C) (c463_X4_page l G cy sa sv h0 h2 h3 h4 h5 h6 h7 h8 v0 p0 (xtr C) _) (cwV 1 (xhts C) (xgV (maxL := 0) (cc := ⟨#[]⟩) (ret := none) gw_853 gw_854 gw_855 gw_2 gc_X4_page) rfl rfl rfl (by decide +kernel) ⟨(Nat.le_of_ble_eq_true rfl), (Nat.le_of_ble_eq_true rfl)⟩) (xPV C w [0] rfl (by decide) (ci := 8) (q0 := 0) rfl rfl) rfl rfl hl.1 rfl (lv_room (Nat.le_of_ble_eq_true rfl)) dL_page_3 ⟨(Nat.le_of_ble_eq_true rfl), (Nat.le_of_ble_eq_true rfl)⟩) (fun f3034 H locs ce q9 w hce hcv hcl => ?_)
  have w : xW G A s [(h0, .inr (8, [.ref h2, .ref h3, .ref h4, .ref h5, .ref h6, .int 0, .ref h7, .ref h8]))] H _ := w
  refine vx_widen (k := 1) (n := 6) (Nat.le_of_ble_eq_true rfl) (Nat.le_of_ble_eq_true rfl) ?_
  refine vx_catch (xown C) [] ⟨0, 10, 13, 91⟩ [] hT (fun z hz => nomatch hz) (by decide) (by decide) (xhts C _ (List.mem_cons_of_mem _ gw_868)) (va_any rfl (xs_c3 (xS C))) hce hcv hcl ?_
  refine lv_astore_n (lv' := [(3, .ref q9), (0, .ref h0), (1, .int v0), (2, .ref h1)]) C.1 C.2.1 dL_page_13 rfl hl (by decide) rfl (fun ls hl => ?_)
  refine lv_iconst (v := 1) C.1 C.2.1 dL_page_14 (by decide) ?_
  exact x_iret C w hr (fun _ => 0) rfl rfl dL_page_15 (Nat.le_of_ble_eq_true rfl) (Nat.le_of_ble_eq_true rfl)
set_option maxHeartbeats 4000000 in
set_option maxRecDepth 100000 in
theorem c465_X6_isNoPager (l : Launch) (G : va_G) (cy : Nat → ClassId) (sa : String → Nat → Nat) (sv : Nat → Nat) (v0 : Int32) (p0 : v0 < 0) : xM l G cy sa sv yX6_isNoPager (Cond.code yX6_isNoPager cX6_isNoPager 1 (some .boolean) :: XG) { frames := 8, cells := 0, slots := 0, locals := 250 } [.int v0] [] (xQi G (fun f => []) 1) := by
  refine xof (by decide) (Nat.le_of_ble_eq_true rfl) (fun p e s m below meth c A C w hr hn ls hl => ?_)
  have hl : lv_has ls 1 [(0, .int v0)] := hl
  refine lv_iload_n C.1 C.2.1 dX6_isNoPager_0 rfl (lv_at hl 0 rfl) ?_
  refine lv_if_lt (tgt := 9) C.1 C.2.1 dX6_isNoPager_1 (by decide) (fun _ => ?_) (fun c9 => absurd p0 c9)
  refine lv_iconst (v := 1) C.1 C.2.1 dX6_isNoPager_9 (by decide) ?_
  refine lv_goto (tgt := 14) C.1 C.2.1 dX6_isNoPager_10 (by decide) ?_
  exact x_zret C w hr rfl (fun _ => 0) rfl rfl dX6_isNoPager_14 (Nat.le_of_ble_eq_true rfl) (Nat.le_of_ble_eq_true rfl)
set_option maxHeartbeats 4000000 in
set_option maxRecDepth 100000 in
theorem c466_X6_page (l : Launch) (G : va_G) (cy : Nat → ClassId) (sa : String → Nat → Nat) (sv : Nat → Nat) (h0 h1 h2 h3 h4 h5 h6 h7 : Nat) (v0 : Int32) (p0 : v0 < 0) : xM l G cy sa sv yX6_page (Cond.code yX6_page cX6_page 3 (some .int) :: XG) { frames := 9, cells := 0, slots := 0, locals := 272 } [.ref h0, .int v0] [(h0, .inr (10, [.ref h1, .ref h2, .ref h3, .ref h4, .ref h5, .ref h6, .ref h7, .int 0, .int 0]))] (xQi G (fun f => [(h0, .inr (10, [.ref h1, .ref h2, .ref h3, .ref h4, .ref h5, .ref h6, .ref h7, .int 0, .int 1]))]) 0) := by
  refine xof (by decide) (Nat.le_of_ble_eq_true rfl) (fun p e s m below meth c A C w hr hn ls hl => ?_)
  have hl : lv_has ls 3 [(0, .ref h0), (1, .int v0)] := hl
  refine lv_aload_n C.1 C.2.1 dX6_page_0 rfl (lv_at hl 0 rfl) ?_
  refine lv_iload_n C.1 C.2.1 dX6_page_1 rfl (lv_at hl 1 rfl) ?_
  refine x_ki C w [] [0] rfl rfl (by decide) (by decide) (va_runS (As := [.int v0]) (rest := [.ref h0]) (xfix C) (c465_X6_isNoPager l G cy sa sv v0 p0 (xtr C) _) (va_cwS 1 (xhts C) (xgS gw_860 gw_861 gw_58 gc_X6_isNoPager) rfl rfl rfl (by decide +kernel) ⟨(Nat.le_of_ble_eq_true rfl), (Nat.le_of_ble_eq_true rfl)⟩) (xPS C w [] rfl (by decide)) rfl rfl hl.1 rfl (lv_room (Nat.le_of_ble_eq_true rfl)) dX6_page_2 ⟨(Nat.le_of_ble_eq_true rfl), (Nat.le_of_ble_eq_true rfl)⟩) (fun f3037 H locs w => ?_)
  have w : xW G A s [(h0, .inr (10, [.ref h1, .ref h2, .ref h3, .ref h4, .ref h5, .ref h6, .ref h7, .int 0, .int 0]))] H _ := w
  refine lv_iconst (v := 1) C.1 C.2.1 dX6_page_5 (by decide) ?_
  refine x_ki C w [0] [] rfl rfl (by decide) (by decide) (va_runV (As := [.int 1, .int 1]) (rest := []) (xfix C) (c17_X6_start l G cy sa sv h0 h1 h2 h3 h4 h5 h6 h7 (xtr C) _) (cwV 2 (xhts C) (xgV (maxL := 0) (cc := ⟨#[]⟩) (ret := none) gw_114 gw_115 gw_116 gw_58 gc_X6_start) rfl rfl rfl (by decide +kernel) ⟨(Nat.le_of_ble_eq_true rfl), (Nat.le_of_ble_eq_true rfl)⟩) (xPV C w [0] rfl (by decide) (ci := 10) (q0 := 0) rfl rfl) rfl rfl hl.1 rfl (lv_room (Nat.le_of_ble_eq_true rfl)) dX6_page_6 ⟨(Nat.le_of_ble_eq_true rfl), (Nat.le_of_ble_eq_true rfl)⟩) (fun f3038 H locs w => ?_)
  have w : xW G A s [(h0, .inr (10, [.ref h1, .ref h2, .ref h3, .ref h4, .ref h5, .ref h6, .ref h7, .int 0, .int 1]))] H _ := w
  refine lv_if_eq (tgt := 14) C.1 C.2.1 dX6_page_9 (by decide) (fun c9 => absurd c9 (by decide)) (fun _ => ?_)
  refine lv_iconst (v := 0) C.1 C.2.1 dX6_page_12 (by decide) ?_
  exact x_iret C w hr (fun _ => 0) rfl rfl dX6_page_13 (Nat.le_of_ble_eq_true rfl) (Nat.le_of_ble_eq_true rfl)
set_option maxHeartbeats 4000000 in
set_option maxRecDepth 100000 in
theorem c467_X4_pagerOf (l : Launch) (G : va_G) (cy : Nat → ClassId) (sa : String → Nat → Nat) (sv : Nat → Nat) (h0 h1 h2 h3 h4 h5 h6 h7 h8 h9 h10 : Nat) (v0 : Int32) (p0 : ¬ v0 < 0) (p1 : ¬ v0 < 3) : xX l G cy sa sv yX4_pagerOf (Cond.code yX4_pagerOf cX4_pagerOf 2 (some (.object "Twinindex$Pager")) :: XG) { frames := 8, cells := 1, slots := 6, locals := 250 } [.ref h0, .int v0] [(h0, .inr (8, [.ref h2, .ref h3, .ref h4, .ref h5, .ref h1, .int 0, .ref h6, .ref h7])), (h1, .inl (cy 3, 3, .inr (.inr (.inr (.inr (va_up (va_up (va_up (fun _ => none) 0 (some h8)) 1 (some h9)) 2 (some h10)))))))] (fun f => [(h0, .inr (8, [.ref h2, .ref h3, .ref h4, .ref h5, .ref h1, .int 0, .ref h6, .ref h7])), (h1, .inl (cy 3, 3, .inr (.inr (.inr (.inr (va_up (va_up (va_up (fun _ => none) 0 (some h8)) 1 (some h9)) 2 (some h10)))))))]) "java/lang/IndexOutOfBoundsException" := by
  refine xofX (by decide) (Nat.le_of_ble_eq_true rfl) (fun p e s m below meth c A C w hno ls hl => ?_)
  have hl : lv_has ls 2 [(0, .ref h0), (1, .int v0)] := hl
  refine lv_iload_n C.1 C.2.1 dX4_pagerOf_0 rfl (lv_at hl 1 rfl) ?_
  refine lv_if_lt (tgt := 13) C.1 C.2.1 dX4_pagerOf_1 (by decide) (fun c9 => absurd c9 p0) (fun _ => ?_)
  refine lv_iload_n C.1 C.2.1 dX4_pagerOf_4 rfl (lv_at hl 1 rfl) ?_
  refine lv_aload_n C.1 C.2.1 dX4_pagerOf_5 rfl (lv_at hl 0 rfl) ?_
  refine x_get (v := .ref h1) C w 0 8 4 (xin_X4 _) rfl rfl (by decide) (List.mem_cons_of_mem _ gw_44) rfl rfl dX4_pagerOf_6 ?_
  refine x_alen (v := 3) C w 1 3 rfl rfl (by rfl) dX4_pagerOf_9 ?_
  refine lv_icmp_lt (tgt := 24) C.1 C.2.1 dX4_pagerOf_10 (by decide) (fun c9 => absurd c9 p1) (fun _ => ?_)
  exact x_thrW C w hno hl.1 (by decide) (List.mem_cons_of_mem _ gw_866) (List.mem_cons_of_mem _ gw_867) (tx := "pager is not 0 to 2") (List.mem_of_getElem? (i := 10) rfl) (xat_333 C (fun w h => List.mem_cons_of_mem _ h)) xatg_333 dX4_pagerOf_13 dX4_pagerOf_16 dX4_pagerOf_17 dX4_pagerOf_20 dX4_pagerOf_23 (Nat.le_of_ble_eq_true rfl) (Nat.le_of_ble_eq_true rfl) (Nat.le_of_ble_eq_true rfl) (Nat.le_of_ble_eq_true rfl) rfl rfl (fun _ => 0) rfl
set_option maxHeartbeats 4000000 in
set_option maxRecDepth 100000 in
theorem c468_X4_page (l : Launch) (G : va_G) (cy : Nat → ClassId) (sa : String → Nat → Nat) (sv : Nat → Nat) (h0 h1 h2 h3 h4 h5 h6 h7 h8 h9 h10 : Nat) (v0 : Int32) (p0 : ¬ v0 < 0) (p1 : ¬ v0 < 3) : xX l G cy sa sv yX4_page (Cond.code yX4_page cX4_page 2 (some .int) :: XG) { frames := 9, cells := 1, slots := 6, locals := 271 } [.ref h0, .int v0] [(h0, .inr (8, [.ref h2, .ref h3, .ref h4, .ref h5, .ref h1, .int 0, .ref h6, .ref h7])), (h1, .inl (cy 3, 3, .inr (.inr (.inr (.inr (va_up (va_up (va_up (fun _ => none) 0 (some h8)) 1 (some h9)) 2 (some h10)))))))] (fun f => [(h0, .inr (8, [.ref h2, .ref h3, .ref h4, .ref h5, .ref h1, .int 0, .ref h6, .ref h7])), (h1, .inl (cy 3, 3, .inr (.inr (.inr (.inr (va_up (va_up (va_up (fun _ => none) 0 (some h8)) 1 (some h9)) 2 (some h10)))))))]) "java/lang/IndexOutOfBoundsException" := by
  refine xofX (by decide) (Nat.le_of_ble_eq_true rfl) (fun p e s m below meth c A C w hno ls hl => ?_)
  have hl : lv_has ls 2 [(0, .ref h0), (1, .int v0)] := hl
  refine lv_aload_n C.1 C.2.1 dX4_page_0 rfl (lv_at hl 0 rfl) ?_
  refine lv_iload_n C.1 C.2.1 dX4_page_1 rfl (lv_at hl 1 rfl) ?_
  refine x_kx C w [0, 1] [] rfl rfl (by decide) (by decide) (vx_runV (As := [.int v0]) (rest := []) (xfix C) (c467_X4_pagerOf l G cy sa sv h0 h1 h2 h3 h4 h5 h6 h7 h8 h9 h10 v0 p0 p1 (xtr C) _) (cwV 1 (xhts C) (xgV (maxL := 0) (cc := ⟨#[]⟩) (ret := none) gw_842 gw_843 gw_844 gw_2 gc_X4_pagerOf) rfl rfl rfl (by decide +kernel) ⟨(Nat.le_of_ble_eq_true rfl), (Nat.le_of_ble_eq_true rfl)⟩) (xPV C w [0, 1] rfl (by decide) (ci := 8) (q0 := 0) rfl rfl) rfl rfl hl.1 rfl (lv_room (Nat.le_of_ble_eq_true rfl)) dX4_page_2 ⟨(Nat.le_of_ble_eq_true rfl), (Nat.le_of_ble_eq_true rfl)⟩) (fun f3045 H locs ce q9 w hce hcv hcl => ?_)
  have w : xW G A s [(h0, .inr (8, [.ref h2, .ref h3, .ref h4, .ref h5, .ref h1, .int 0, .ref h6, .ref h7])), (h1, .inl (cy 3, 3, .inr (.inr (.inr (.inr (va_up (va_up (va_up (fun _ => none) 0 (some h8)) 1 (some h9)) 2 (some h10)))))))] H _ := w
  refine vx_widen (k := 1) (n := 6) (Nat.le_of_ble_eq_true rfl) (Nat.le_of_ble_eq_true rfl) ?_
  exact x_out C w hno (fun _ => 0) rfl hce hcv hcl (Nat.le_of_ble_eq_true rfl) (Nat.le_of_ble_eq_true rfl)
set_option maxHeartbeats 4000000 in
set_option maxRecDepth 100000 in
theorem c469_L_page (l : Launch) (G : va_G) (cy : Nat → ClassId) (sa : String → Nat → Nat) (sv : Nat → Nat) (h0 h1 h2 h3 h4 h5 h6 h7 h8 h9 h10 h11 : Nat) (v0 : Int32) (p0 : ¬ v0 < 0) (p1 : ¬ v0 < 3) : xM l G cy sa sv yL_page (Cond.codeWith yL_page cL_page 4 (some .int) [(0, 10, 13, 91)] :: XG) { frames := 10, cells := 1, slots := 6, locals := 292 } [.ref h0, .int v0, .ref h1] [(h0, .inr (8, [.ref h3, .ref h4, .ref h5, .ref h6, .ref h2, .int 0, .ref h7, .ref h8])), (h2, .inl (cy 3, 3, .inr (.inr (.inr (.inr (va_up (va_up (va_up (fun _ => none) 0 (some h9)) 1 (some h10)) 2 (some h11)))))))] (xQi G (fun f => [(h0, .inr (8, [.ref h3, .ref h4, .ref h5, .ref h6, .ref h2, .int 0, .ref h7, .ref h8])), (h2, .inl (cy 3, 3, .inr (.inr (.inr (.inr (va_up (va_up (va_up (fun _ => none) 0 (some h9)) 1 (some h10)) 2 (some h11)))))))]) 1) := by
  refine xofH (by decide) (Nat.le_of_ble_eq_true rfl) (fun p e s m below meth c A C w hr hn hT ls hl => ?_)
  have hl : lv_has ls 4 [(0, .ref h0), (1, .int v0), (2, .ref h1)] := hl
  refine lv_aload_n C.1 C.2.1 dL_page_0 rfl (lv_at hl 2 rfl) ?_
  refine lv_aload_n C.1 C.2.1 dL_page_1 rfl (lv_at hl 0 rfl) ?_
  refine lv_iload_n C.1 C.2.1 dL_page_2 rfl (lv_at hl 1 rfl) ?_
  refine x_kx C w [0, 1] [] rfl rfl (by decide) (by decide) (vx_runV (As := [.int v0]) (rest := [.ref h1]) (xfix C) (c468_X4_page l G cy sa sv h0 h2 h3 h4 h5 h6 h7 h8 h9 h10 h11 v0 p0 p1 (xtr C) _) (cwV 1 (xhts C) (xgV (maxL := 0) (cc := ⟨#[]⟩) (ret := none) gw_853 gw_854 gw_855 gw_2 gc_X4_page) rfl rfl rfl (by decide +kernel) ⟨(Nat.le_of_ble_eq_true rfl), (Nat.le_of_ble_eq_true rfl)⟩) (xPV C w [0, 1] rfl (by decide) (ci := 8) (q0 := 0) rfl rfl) rfl rfl hl.1 rfl (lv_room (Nat.le_of_ble_eq_true rfl)) dL_page_3 ⟨(Nat.le_of_ble_eq_true rfl), (Nat.le_of_ble_eq_true rfl)⟩) (fun f3046 H locs ce q9 w hce hcv hcl => ?_)
  have w : xW G A s [(h0, .inr (8, [.ref h3, .ref h4, .ref h5, .ref h6, .ref h2, .int 0, .ref h7, .ref h8])), (h2, .inl (cy 3, 3, .inr (.inr (.inr (.inr (va_up (va_up (va_up (fun _ => none) 0 (some h9)) 1 (some h10)) 2 (some h11)))))))] H _ := w
  refine vx_widen (k := 1) (n := 6) (Nat.le_of_ble_eq_true rfl) (Nat.le_of_ble_eq_true rfl) ?_
  refine vx_catch (xown C) [] ⟨0, 10, 13, 91⟩ [] hT (fun z hz => nomatch hz) (by decide) (by decide) (xhts C _ (List.mem_cons_of_mem _ gw_868)) (va_any rfl (xs_c3 (xS C))) hce hcv hcl ?_
  refine lv_astore_n (lv' := [(3, .ref q9), (0, .ref h0), (1, .int v0), (2, .ref h1)]) C.1 C.2.1 dL_page_13 rfl hl (by decide) rfl (fun ls hl => ?_)
  refine lv_iconst (v := 1) C.1 C.2.1 dL_page_14 (by decide) ?_
  exact x_iret C w hr (fun _ => 0) rfl rfl dL_page_15 (Nat.le_of_ble_eq_true rfl) (Nat.le_of_ble_eq_true rfl)
set_option maxHeartbeats 4000000 in
set_option maxRecDepth 100000 in
theorem c470_X6_isNoPager (l : Launch) (G : va_G) (cy : Nat → ClassId) (sa : String → Nat → Nat) (sv : Nat → Nat) (v0 : Int32) (p0 : ¬ v0 < 0) (p1 : ¬ v0 < 3) : xM l G cy sa sv yX6_isNoPager (Cond.code yX6_isNoPager cX6_isNoPager 1 (some .boolean) :: XG) { frames := 8, cells := 0, slots := 0, locals := 250 } [.int v0] [] (xQi G (fun f => []) 1) := by
  refine xof (by decide) (Nat.le_of_ble_eq_true rfl) (fun p e s m below meth c A C w hr hn ls hl => ?_)
  have hl : lv_has ls 1 [(0, .int v0)] := hl
  refine lv_iload_n C.1 C.2.1 dX6_isNoPager_0 rfl (lv_at hl 0 rfl) ?_
  refine lv_if_lt (tgt := 9) C.1 C.2.1 dX6_isNoPager_1 (by decide) (fun c9 => absurd c9 p0) (fun _ => ?_)
  refine lv_iload_n C.1 C.2.1 dX6_isNoPager_4 rfl (lv_at hl 0 rfl) ?_
  refine lv_iconst (v := 3) C.1 C.2.1 dX6_isNoPager_5 (by decide) ?_
  refine lv_icmp_lt (tgt := 13) C.1 C.2.1 dX6_isNoPager_6 (by decide) (fun c9 => absurd c9 p1) (fun _ => ?_)
  refine lv_iconst (v := 1) C.1 C.2.1 dX6_isNoPager_9 (by decide) ?_
  refine lv_goto (tgt := 14) C.1 C.2.1 dX6_isNoPager_10 (by decide) ?_
  exact x_zret C w hr rfl (fun _ => 0) rfl rfl dX6_isNoPager_14 (Nat.le_of_ble_eq_true rfl) (Nat.le_of_ble_eq_true rfl)
set_option maxHeartbeats 4000000 in
set_option maxRecDepth 100000 in
theorem c471_X6_page (l : Launch) (G : va_G) (cy : Nat → ClassId) (sa : String → Nat → Nat) (sv : Nat → Nat) (h0 h1 h2 h3 h4 h5 h6 h7 : Nat) (v0 : Int32) (p0 : ¬ v0 < 0) (p1 : ¬ v0 < 3) : xM l G cy sa sv yX6_page (Cond.code yX6_page cX6_page 3 (some .int) :: XG) { frames := 9, cells := 0, slots := 0, locals := 272 } [.ref h0, .int v0] [(h0, .inr (10, [.ref h1, .ref h2, .ref h3, .ref h4, .ref h5, .ref h6, .ref h7, .int 0, .int 0]))] (xQi G (fun f => [(h0, .inr (10, [.ref h1, .ref h2, .ref h3, .ref h4, .ref h5, .ref h6, .ref h7, .int 0, .int 1]))]) 0) := by
  refine xof (by decide) (Nat.le_of_ble_eq_true rfl) (fun p e s m below meth c A C w hr hn ls hl => ?_)
  have hl : lv_has ls 3 [(0, .ref h0), (1, .int v0)] := hl
  refine lv_aload_n C.1 C.2.1 dX6_page_0 rfl (lv_at hl 0 rfl) ?_
  refine lv_iload_n C.1 C.2.1 dX6_page_1 rfl (lv_at hl 1 rfl) ?_
  refine x_ki C w [] [0] rfl rfl (by decide) (by decide) (va_runS (As := [.int v0]) (rest := [.ref h0]) (xfix C) (c470_X6_isNoPager l G cy sa sv v0 p0 p1 (xtr C) _) (va_cwS 1 (xhts C) (xgS gw_860 gw_861 gw_58 gc_X6_isNoPager) rfl rfl rfl (by decide +kernel) ⟨(Nat.le_of_ble_eq_true rfl), (Nat.le_of_ble_eq_true rfl)⟩) (xPS C w [] rfl (by decide)) rfl rfl hl.1 rfl (lv_room (Nat.le_of_ble_eq_true rfl)) dX6_page_2 ⟨(Nat.le_of_ble_eq_true rfl), (Nat.le_of_ble_eq_true rfl)⟩) (fun f3049 H locs w => ?_)
  have w : xW G A s [(h0, .inr (10, [.ref h1, .ref h2, .ref h3, .ref h4, .ref h5, .ref h6, .ref h7, .int 0, .int 0]))] H _ := w
  refine lv_iconst (v := 1) C.1 C.2.1 dX6_page_5 (by decide) ?_
  refine x_ki C w [0] [] rfl rfl (by decide) (by decide) (va_runV (As := [.int 1, .int 1]) (rest := []) (xfix C) (c17_X6_start l G cy sa sv h0 h1 h2 h3 h4 h5 h6 h7 (xtr C) _) (cwV 2 (xhts C) (xgV (maxL := 0) (cc := ⟨#[]⟩) (ret := none) gw_114 gw_115 gw_116 gw_58 gc_X6_start) rfl rfl rfl (by decide +kernel) ⟨(Nat.le_of_ble_eq_true rfl), (Nat.le_of_ble_eq_true rfl)⟩) (xPV C w [0] rfl (by decide) (ci := 10) (q0 := 0) rfl rfl) rfl rfl hl.1 rfl (lv_room (Nat.le_of_ble_eq_true rfl)) dX6_page_6 ⟨(Nat.le_of_ble_eq_true rfl), (Nat.le_of_ble_eq_true rfl)⟩) (fun f3050 H locs w => ?_)
  have w : xW G A s [(h0, .inr (10, [.ref h1, .ref h2, .ref h3, .ref h4, .ref h5, .ref h6, .ref h7, .int 0, .int 1]))] H _ := w
  refine lv_if_eq (tgt := 14) C.1 C.2.1 dX6_page_9 (by decide) (fun c9 => absurd c9 (by decide)) (fun _ => ?_)
  refine lv_iconst (v := 0) C.1 C.2.1 dX6_page_12 (by decide) ?_
  exact x_iret C w hr (fun _ => 0) rfl rfl dX6_page_13 (Nat.le_of_ble_eq_true rfl) (Nat.le_of_ble_eq_true rfl)
set_option maxHeartbeats 4000000 in
set_option maxRecDepth 100000 in
theorem c472_X4_next (l : Launch) (G : va_G) (cy : Nat → ClassId) (sa : String → Nat → Nat) (sv : Nat → Nat) (h0 h1 h2 h3 h4 h5 h6 h7 h8 h9 h10 : Nat) (v0 : Int32) (p0 : v0 < 1) : xX l G cy sa sv yX4_next (Cond.code yX4_next cX4_next 7 (some (.object "java/lang/String")) :: XG) { frames := 9, cells := 1, slots := 6, locals := 271 } [.ref h0, .int 0, .int v0] [(h0, .inr (8, [.ref h2, .ref h3, .ref h4, .ref h5, .ref h1, .int 0, .ref h6, .ref h7])), (h1, .inl (cy 3, 3, .inr (.inr (.inr (.inr (va_up (va_up (va_up (fun _ => none) 0 (some h8)) 1 (some h9)) 2 (some h10)))))))] (fun f => [(h0, .inr (8, [.ref h2, .ref h3, .ref h4, .ref h5, .ref h1, .int 0, .ref h6, .ref h7])), (h1, .inl (cy 3, 3, .inr (.inr (.inr (.inr (va_up (va_up (va_up (fun _ => none) 0 (some h8)) 1 (some h9)) 2 (some h10)))))))]) "java/lang/IllegalArgumentException" := by
  refine xofX (by decide) (Nat.le_of_ble_eq_true rfl) (fun p e s m below meth c A C w hno ls hl => ?_)
  have hl : lv_has ls 7 [(0, .ref h0), (1, .int 0), (2, .int v0)] := hl
  refine lv_aload_n C.1 C.2.1 dX4_next_0 rfl (lv_at hl 0 rfl) ?_
  refine lv_iload_n C.1 C.2.1 dX4_next_1 rfl (lv_at hl 1 rfl) ?_
  refine x_kr C w [0, 1] [] rfl rfl (by decide) (by decide) (va_runV (As := [.int 0]) (rest := []) (xfix C) (c446_X4_pagerOf l G cy sa sv h0 h1 h2 h3 h4 h5 h6 h7 h8 h9 h10 (xtr C) _) (cwV 1 (xhts C) (xgV (maxL := 0) (cc := ⟨#[]⟩) (ret := none) gw_842 gw_843 gw_844 gw_2 gc_X4_pagerOf) rfl rfl rfl (by decide +kernel) ⟨(Nat.le_of_ble_eq_true rfl), (Nat.le_of_ble_eq_true rfl)⟩) (xPV C w [0, 1] rfl (by decide) (ci := 8) (q0 := 0) rfl rfl) rfl rfl hl.1 rfl (lv_room (Nat.le_of_ble_eq_true rfl)) dX4_next_2 ⟨(Nat.le_of_ble_eq_true rfl), (Nat.le_of_ble_eq_true rfl)⟩) (fun f3057 H locs w => ?_)
  have w : xW G A s [(h0, .inr (8, [.ref h2, .ref h3, .ref h4, .ref h5, .ref h1, .int 0, .ref h6, .ref h7])), (h1, .inl (cy 3, 3, .inr (.inr (.inr (.inr (va_up (va_up (va_up (fun _ => none) 0 (some h8)) 1 (some h9)) 2 (some h10)))))))] H _ := w
  refine lv_astore_n (lv' := [(3, .ref h8), (0, .ref h0), (1, .int 0), (2, .int v0)]) C.1 C.2.1 dX4_next_5 rfl hl (by decide) rfl (fun ls hl => ?_)
  refine lv_iload_n C.1 C.2.1 dX4_next_6 rfl (lv_at hl 3 rfl) ?_
  refine lv_iconst (v := 1) C.1 C.2.1 dX4_next_7 (by decide) ?_
  refine lv_icmp_lt (tgt := 17) C.1 C.2.1 dX4_next_8 (by decide) (fun _ => ?_) (fun c9 => absurd p0 c9)
  exact x_thr C w hno hl.1 (by decide) (List.mem_cons_of_mem _ gw_95) (List.mem_cons_of_mem _ gw_96) (tx := "many is not 1 to 24") (List.mem_of_getElem? (i := 4) rfl) (xat_203 C (fun w h => List.mem_cons_of_mem _ h)) xatg_203 dX4_next_17 dX4_next_20 dX4_next_21 dX4_next_23 dX4_next_26 (Nat.le_of_ble_eq_true rfl) (Nat.le_of_ble_eq_true rfl) (Nat.le_of_ble_eq_true rfl) (Nat.le_of_ble_eq_true rfl) rfl rfl (fun _ => 0) rfl
set_option maxHeartbeats 4000000 in
set_option maxRecDepth 100000 in
theorem c473_L_next (l : Launch) (G : va_G) (cy : Nat → ClassId) (sa : String → Nat → Nat) (sv : Nat → Nat) (h0 h1 h2 h3 h4 h5 h6 h7 h8 h9 h10 h11 : Nat) (v0 : Int32) (p0 : v0 < 1) : xM l G cy sa sv yL_next (Cond.codeWith yL_next cL_next 5 (some .int) [(0, 10, 13, 91), (0, 10, 17, 19)] :: XG) { frames := 10, cells := 1, slots := 6, locals := 297 } [.ref h0, .int 0, .int v0, .ref h1] [(h0, .inr (8, [.ref h3, .ref h4, .ref h5, .ref h6, .ref h2, .int 0, .ref h7, .ref h8])), (h2, .inl (cy 3, 3, .inr (.inr (.inr (.inr (va_up (va_up (va_up (fun _ => none) 0 (some h9)) 1 (some h10)) 2 (some h11)))))))] (xQi G (fun f => [(h0, .inr (8, [.ref h3, .ref h4, .ref h5, .ref h6, .ref h2, .int 0, .ref h7, .ref h8])), (h2, .inl (cy 3, 3, .inr (.inr (.inr (.inr (va_up (va_up (va_up (fun _ => none) 0 (some h9)) 1 (some h10)) 2 (some h11)))))))]) 2) := by
  refine xofH (by decide) (Nat.le_of_ble_eq_true rfl) (fun p e s m below meth c A C w hr hn hT ls hl => ?_)
  have hl : lv_has ls 5 [(0, .ref h0), (1, .int 0), (2, .int v0), (3, .ref h1)] := hl
  refine lv_aload_n C.1 C.2.1 dL_next_0 rfl (lv_at hl 3 rfl) ?_
  refine lv_aload_n C.1 C.2.1 dL_next_1 rfl (lv_at hl 0 rfl) ?_
  refine lv_iload_n C.1 C.2.1 dL_next_2 rfl (lv_at hl 1 rfl) ?_
  refine lv_iload_n C.1 C.2.1 dL_next_3 rfl (lv_at hl 2 rfl) ?_
  refine x_kx C w [0, 1] [] rfl rfl (by decide) (by decide) (vx_runV (As := [.int 0, .int v0]) (rest := [.ref h1]) (xfix C) (c472_X4_next l G cy sa sv h0 h2 h3 h4 h5 h6 h7 h8 h9 h10 h11 v0 p0 (xtr C) _) (cwV 2 (xhts C) (xgV (maxL := 0) (cc := ⟨#[]⟩) (ret := none) gw_870 gw_871 gw_872 gw_2 gc_X4_next) rfl rfl rfl (by decide +kernel) ⟨(Nat.le_of_ble_eq_true rfl), (Nat.le_of_ble_eq_true rfl)⟩) (xPV C w [0, 1] rfl (by decide) (ci := 8) (q0 := 0) rfl rfl) rfl rfl hl.1 rfl (lv_room (Nat.le_of_ble_eq_true rfl)) dL_next_4 ⟨(Nat.le_of_ble_eq_true rfl), (Nat.le_of_ble_eq_true rfl)⟩) (fun f3058 H locs ce q9 w hce hcv hcl => ?_)
  have w : xW G A s [(h0, .inr (8, [.ref h3, .ref h4, .ref h5, .ref h6, .ref h2, .int 0, .ref h7, .ref h8])), (h2, .inl (cy 3, 3, .inr (.inr (.inr (.inr (va_up (va_up (va_up (fun _ => none) 0 (some h9)) 1 (some h10)) 2 (some h11)))))))] H _ := w
  refine vx_widen (k := 1) (n := 6) (Nat.le_of_ble_eq_true rfl) (Nat.le_of_ble_eq_true rfl) ?_
  refine vx_catch (xown C) [⟨0, 10, 13, 91⟩] ⟨0, 10, 17, 19⟩ [] hT (fun z hz => Or.inr (by cases List.mem_singleton.mp hz; exact ⟨by decide, "java/lang/IndexOutOfBoundsException", xhts C _ (List.mem_cons_of_mem _ gw_868), xs_n2 (xS C)⟩)) (by decide) (by decide) (xhts C _ (List.mem_cons_of_mem _ gw_104)) (va_any rfl (xs_c1 (xS C))) hce hcv hcl ?_
  refine lv_astore (lv' := [(4, .ref q9), (0, .ref h0), (1, .int 0), (2, .int v0), (3, .ref h1)]) C.1 C.2.1 dL_next_17 hl (by decide) rfl (fun ls hl => ?_)
  refine lv_iconst (v := 2) C.1 C.2.1 dL_next_19 (by decide) ?_
  exact x_iret C w hr (fun _ => 0) rfl rfl dL_next_20 (Nat.le_of_ble_eq_true rfl) (Nat.le_of_ble_eq_true rfl)
set_option maxHeartbeats 4000000 in
set_option maxRecDepth 100000 in
theorem c474_X6_next (l : Launch) (G : va_G) (cy : Nat → ClassId) (sa : String → Nat → Nat) (sv : Nat → Nat) (h0 h1 h2 h3 h4 h5 h6 h7 : Nat) (v0 : Int32) (p0 : v0 < 1) : xM l G cy sa sv yX6_next (Cond.code yX6_next cX6_next 6 (some (.object "java/lang/String")) :: XG) { frames := 9, cells := 0, slots := 0, locals := 272 } [.ref h0, .int 0, .int v0] [(h0, .inr (10, [.ref h1, .ref h2, .ref h3, .ref h4, .ref h5, .ref h6, .ref h7, .int 0, .int 0]))] (xQr G (fun f => [(h0, .inr (10, [.ref h1, .ref h2, .ref h3, .ref h4, .ref h5, .ref h6, .ref h7, .int 0, .int 2]))]) (fun f => (sa "TwinindexModel" 122))) := by
  refine xof (by decide) (Nat.le_of_ble_eq_true rfl) (fun p e s m below meth c A C w hr hn ls hl => ?_)
  have hl : lv_has ls 6 [(0, .ref h0), (1, .int 0), (2, .int v0)] := hl
  refine lv_aload_n C.1 C.2.1 dX6_next_0 rfl (lv_at hl 0 rfl) ?_
  refine lv_iload_n C.1 C.2.1 dX6_next_1 rfl (lv_at hl 1 rfl) ?_
  refine x_ki C w [] [0] rfl rfl (by decide) (by decide) (va_runS (As := [.int 0]) (rest := [.ref h0]) (xfix C) (c450_X6_isNoPager l G cy sa sv (xtr C) _) (va_cwS 1 (xhts C) (xgS gw_860 gw_861 gw_58 gc_X6_isNoPager) rfl rfl rfl (by decide +kernel) ⟨(Nat.le_of_ble_eq_true rfl), (Nat.le_of_ble_eq_true rfl)⟩) (xPS C w [] rfl (by decide)) rfl rfl hl.1 rfl (lv_room (Nat.le_of_ble_eq_true rfl)) dX6_next_2 ⟨(Nat.le_of_ble_eq_true rfl), (Nat.le_of_ble_eq_true rfl)⟩) (fun f3061 H locs w => ?_)
  have w : xW G A s [(h0, .inr (10, [.ref h1, .ref h2, .ref h3, .ref h4, .ref h5, .ref h6, .ref h7, .int 0, .int 0]))] H _ := w
  refine lv_iconst (v := 1) C.1 C.2.1 dX6_next_5 (by decide) ?_
  refine x_ki C w [0] [] rfl rfl (by decide) (by decide) (va_runV (As := [.int 0, .int 1]) (rest := []) (xfix C) (c46_X6_start l G cy sa sv h0 h1 h2 h3 h4 h5 h6 h7 (xtr C) _) (cwV 2 (xhts C) (xgV (maxL := 0) (cc := ⟨#[]⟩) (ret := none) gw_114 gw_115 gw_116 gw_58 gc_X6_start) rfl rfl rfl (by decide +kernel) ⟨(Nat.le_of_ble_eq_true rfl), (Nat.le_of_ble_eq_true rfl)⟩) (xPV C w [0] rfl (by decide) (ci := 10) (q0 := 0) rfl rfl) rfl rfl hl.1 rfl (lv_room (Nat.le_of_ble_eq_true rfl)) dX6_next_6 ⟨(Nat.le_of_ble_eq_true rfl), (Nat.le_of_ble_eq_true rfl)⟩) (fun f3062 H locs w => ?_)
  have w : xW G A s [(h0, .inr (10, [.ref h1, .ref h2, .ref h3, .ref h4, .ref h5, .ref h6, .ref h7, .int 0, .int 0]))] H _ := w
  refine lv_if_ne (tgt := 36) C.1 C.2.1 dX6_next_9 (by decide) (fun c9 => absurd (by decide) c9) (fun _ => ?_)
  refine lv_aload_n C.1 C.2.1 dX6_next_12 rfl (lv_at hl 0 rfl) ?_
  refine lv_iload_n C.1 C.2.1 dX6_next_13 rfl (lv_at hl 2 rfl) ?_
  refine lv_iconst (v := 1) C.1 C.2.1 dX6_next_14 (by decide) ?_
  refine lv_icmp_lt (tgt := 24) C.1 C.2.1 dX6_next_15 (by decide) (fun _ => ?_) (fun c9 => absurd p0 c9)
  refine lv_iconst (v := 1) C.1 C.2.1 dX6_next_24 (by decide) ?_
  refine lv_goto (tgt := 29) C.1 C.2.1 dX6_next_25 (by decide) ?_
  refine lv_iconst (v := 2) C.1 C.2.1 dX6_next_29 (by decide) ?_
  refine x_ki C w [0] [] rfl rfl (by decide) (by decide) (va_runV (As := [.int 1, .int 2]) (rest := []) (xfix C) (c149_X6_fails l G cy sa sv h0 h1 h2 h3 h4 h5 h6 h7 (xtr C) _) (cwV 2 (xhts C) (xgV (maxL := 0) (cc := ⟨#[]⟩) (ret := none) gw_203 gw_204 gw_205 gw_58 gc_X6_fails) rfl rfl rfl (by decide +kernel) ⟨(Nat.le_of_ble_eq_true rfl), (Nat.le_of_ble_eq_true rfl)⟩) (xPV C w [0] rfl (by decide) (ci := 10) (q0 := 0) rfl rfl) rfl rfl hl.1 rfl (lv_room (Nat.le_of_ble_eq_true rfl)) dX6_next_30 ⟨(Nat.le_of_ble_eq_true rfl), (Nat.le_of_ble_eq_true rfl)⟩) (fun f3063 H locs w => ?_)
  have w : xW G A s [(h0, .inr (10, [.ref h1, .ref h2, .ref h3, .ref h4, .ref h5, .ref h6, .ref h7, .int 0, .int 2]))] H _ := w
  refine lv_if_eq (tgt := 39) C.1 C.2.1 dX6_next_33 (by decide) (fun c9 => absurd c9 (by decide)) (fun _ => ?_)
  refine x_ldcS C (tx := "") (List.mem_of_getElem? (i := 11) rfl) dX6_next_36 ?_
  exact x_aret C w hr (Or.inl ⟨_, rfl⟩) (fun _ => 0) rfl rfl dX6_next_38 (Nat.le_of_ble_eq_true rfl) (Nat.le_of_ble_eq_true rfl)
set_option maxHeartbeats 4000000 in
set_option maxRecDepth 100000 in
theorem c475_X0_startIn (l : Launch) (G : va_G) (cy : Nat → ClassId) (sa : String → Nat → Nat) (sv : Nat → Nat) (h0 h1 : Nat) : xM l G cy sa sv yX0_startIn (Cond.code yX0_startIn cX0_startIn 2 (some .int) :: XG) { frames := 8, cells := 0, slots := 0, locals := 250 } [.ref h0, .ref h1] [(h0, .inr (4, [.int 0, .int 0, .int 0]))] (xQi G (fun f => [(h0, .inr (4, [.int 0, .int 0, .int 0]))]) 0) := by
  refine xof (by decide) (Nat.le_of_ble_eq_true rfl) (fun p e s m below meth c A C w hr hn ls hl => ?_)
  have hl : lv_has ls 2 [(0, .ref h0), (1, .ref h1)] := hl
  refine lv_aload_n C.1 C.2.1 dX0_startIn_0 rfl (lv_at hl 0 rfl) ?_
  refine x_get (v := .int 0) C w 0 4 0 (xin_X0 _) rfl rfl (by decide) (List.mem_cons_of_mem _ gw_846) rfl rfl dX0_startIn_1 ?_
  refine lv_if_eq (tgt := 18) C.1 C.2.1 dX0_startIn_4 (by decide) (fun _ => ?_) (fun c9 => absurd (by decide) c9)
  refine lv_iconst (v := 0) C.1 C.2.1 dX0_startIn_18 (by decide) ?_
  exact x_iret C w hr (fun _ => 0) rfl rfl dX0_startIn_19 (Nat.le_of_ble_eq_true rfl) (Nat.le_of_ble_eq_true rfl)
set_option maxHeartbeats 4000000 in
set_option maxRecDepth 100000 in
theorem c476_X4_next (l : Launch) (G : va_G) (cy : Nat → ClassId) (sa : String → Nat → Nat) (sv : Nat → Nat) (h0 h1 h2 h3 h4 h5 h6 h7 h8 h9 h10 h11 h12 h13 h14 : Nat) (v0 : Int32) (p0 : ¬ v0 < 1) (p1 : v0 ≤ 24) (p2 : 0 < (0 + v0)) : xM l G cy sa sv yX4_next (Cond.code yX4_next cX4_next 7 (some (.object "java/lang/String")) :: XG) { frames := 15, cells := 4, slots := 24, locals := 404 } [.ref h0, .int 0, .int v0] [(h0, .inr (8, [.ref h3, .ref h6, .ref h7, .ref h8, .ref h1, .int 0, .ref h5, .ref h9])), (h1, .inl (cy 3, 3, .inr (.inr (.inr (.inr (va_up (va_up (va_up (fun _ => none) 0 (some h2)) 1 (some h10)) 2 (some h11))))))), (h2, .inr (4, [.int 0, .int 0, .int 0])), (h3, .inr (7, [.ref h4, .ref h12])), (h4, .inr (6, [.ref h13, .int 0])), (h5, .inr (6, [.ref h14, .int 0]))] (xQr G (fun f => [(h0, .inr (8, [.ref h3, .ref h6, .ref h7, .ref h8, .ref h1, .int 0, .ref h5, .ref h9])), (h1, .inl (cy 3, 3, .inr (.inr (.inr (.inr (va_up (va_up (va_up (fun _ => none) 0 (some h2)) 1 (some h10)) 2 (some h11))))))), (h2, .inr (4, [.int 0, .int 0, .int 0])), (h3, .inr (7, [.ref h4, .ref h12])), (h4, .inr (6, [.ref h13, .int 0])), (h5, .inr (6, [.ref h14, .int 0])), ((f 0), .inr (0, [.ref (f 1), .int 0, .int 0, .int 0])), ((f 1), .inl (cy 0, 0, .inl (va_cpy (fun _ => 0) (fun _ => 0) 0 0 0)))]) (fun f => (f 0))) := by
  refine xof (by decide) (Nat.le_of_ble_eq_true rfl) (fun p e s m below meth c A C w hr hn ls hl => ?_)
  have hl : lv_has ls 7 [(0, .ref h0), (1, .int 0), (2, .int v0)] := hl
  refine lv_aload_n C.1 C.2.1 dX4_next_0 rfl (lv_at hl 0 rfl) ?_
  refine lv_iload_n C.1 C.2.1 dX4_next_1 rfl (lv_at hl 1 rfl) ?_
  refine x_kr C w [0, 1] [2, 3, 4, 5] rfl rfl (by decide) (by decide) (va_runV (As := [.int 0]) (rest := []) (xfix C) (c446_X4_pagerOf l G cy sa sv h0 h1 h3 h6 h7 h8 h5 h9 h2 h10 h11 (xtr C) _) (cwV 1 (xhts C) (xgV (maxL := 0) (cc := ⟨#[]⟩) (ret := none) gw_842 gw_843 gw_844 gw_2 gc_X4_pagerOf) rfl rfl rfl (by decide +kernel) ⟨(Nat.le_of_ble_eq_true rfl), (Nat.le_of_ble_eq_true rfl)⟩) (xPV C w [0, 1] rfl (by decide) (ci := 8) (q0 := 0) rfl rfl) rfl rfl hl.1 rfl (lv_room (Nat.le_of_ble_eq_true rfl)) dX4_next_2 ⟨(Nat.le_of_ble_eq_true rfl), (Nat.le_of_ble_eq_true rfl)⟩) (fun f3118 H locs w => ?_)
  have w : xW G A s [(h2, .inr (4, [.int 0, .int 0, .int 0])), (h3, .inr (7, [.ref h4, .ref h12])), (h4, .inr (6, [.ref h13, .int 0])), (h5, .inr (6, [.ref h14, .int 0])), (h0, .inr (8, [.ref h3, .ref h6, .ref h7, .ref h8, .ref h1, .int 0, .ref h5, .ref h9])), (h1, .inl (cy 3, 3, .inr (.inr (.inr (.inr (va_up (va_up (va_up (fun _ => none) 0 (some h2)) 1 (some h10)) 2 (some h11)))))))] H _ := w
  refine lv_astore_n (lv' := [(3, .ref h2), (0, .ref h0), (1, .int 0), (2, .int v0)]) C.1 C.2.1 dX4_next_5 rfl hl (by decide) rfl (fun ls hl => ?_)
  refine lv_iload_n C.1 C.2.1 dX4_next_6 rfl (lv_at hl 3 rfl) ?_
  refine lv_iconst (v := 1) C.1 C.2.1 dX4_next_7 (by decide) ?_
  refine lv_icmp_lt (tgt := 17) C.1 C.2.1 dX4_next_8 (by decide) (fun c9 => absurd c9 p0) (fun _ => ?_)
  refine lv_iload_n C.1 C.2.1 dX4_next_11 rfl (lv_at hl 3 rfl) ?_
  refine lv_bipush (v := 24) C.1 C.2.1 dX4_next_12 (by decide) ?_
  refine lv_icmp_le (tgt := 27) C.1 C.2.1 dX4_next_14 (by decide) (fun _ => ?_) (fun c9 => absurd p1 c9)
  refine lv_aload_n C.1 C.2.1 dX4_next_27 rfl (lv_at hl 0 rfl) ?_
  refine lv_aload_n C.1 C.2.1 dX4_next_28 rfl (lv_at hl 1 rfl) ?_
  refine x_get (v := .ref h3) C w 4 8 0 (xin_X4 _) rfl rfl (by decide) (List.mem_cons_of_mem _ gw_24) rfl rfl dX4_next_29 ?_
  refine x_ki C w [0] [1, 2, 3, 4, 5] rfl rfl (by decide) (by decide) (va_runV (As := [.ref h3]) (rest := []) (xfix C) (c475_X0_startIn l G cy sa sv h2 h3 (xtr C) _) (cwV 1 (xhts C) (xgV (maxL := 0) (cc := ⟨#[]⟩) (ret := none) gw_881 gw_882 gw_883 gw_46 gc_X0_startIn) rfl rfl rfl (by decide +kernel) ⟨(Nat.le_of_ble_eq_true rfl), (Nat.le_of_ble_eq_true rfl)⟩) (xPV C w [0] rfl (by decide) (ci := 4) (q0 := 0) rfl rfl) rfl rfl hl.1 rfl (lv_room (Nat.le_of_ble_eq_true rfl)) dX4_next_32 ⟨(Nat.le_of_ble_eq_true rfl), (Nat.le_of_ble_eq_true rfl)⟩) (fun f3119 H locs w => ?_)
  have w : xW G A s [(h3, .inr (7, [.ref h4, .ref h12])), (h4, .inr (6, [.ref h13, .int 0])), (h5, .inr (6, [.ref h14, .int 0])), (h0, .inr (8, [.ref h3, .ref h6, .ref h7, .ref h8, .ref h1, .int 0, .ref h5, .ref h9])), (h1, .inl (cy 3, 3, .inr (.inr (.inr (.inr (va_up (va_up (va_up (fun _ => none) 0 (some h2)) 1 (some h10)) 2 (some h11))))))), (h2, .inr (4, [.int 0, .int 0, .int 0]))] H _ := w
  refine lv_istore (lv' := [(4, .int 0), (3, .ref h2), (0, .ref h0), (1, .int 0), (2, .int v0)]) C.1 C.2.1 dX4_next_35 hl (by decide) rfl (fun ls hl => ?_)
  refine lv_iload C.1 C.2.1 dX4_next_37 (lv_at hl 0 rfl) ?_
  refine lv_iload_n C.1 C.2.1 dX4_next_39 rfl (lv_at hl 4 rfl) ?_
  refine lv_iadd C.1 C.2.1 dX4_next_40 ?_
  refine lv_aload_n C.1 C.2.1 dX4_next_41 rfl (lv_at hl 2 rfl) ?_
  refine x_get (v := .ref h3) C w 3 8 0 (xin_X4 _) rfl rfl (by decide) (List.mem_cons_of_mem _ gw_24) rfl rfl dX4_next_42 ?_
  refine x_ki C w [0, 1] [2, 3, 4, 5] rfl rfl (by decide) (by decide) (va_runV (As := []) (rest := [.int (0 + v0)]) (xfix C) (c22_X3_count l G cy sa sv h3 h4 h12 h13 (xtr C) _) (cwV 0 (xhts C) (xgV (maxL := 0) (cc := ⟨#[]⟩) (ret := none) gw_130 gw_131 gw_132 gw_7 gc_X3_count) rfl rfl rfl (by decide +kernel) ⟨(Nat.le_of_ble_eq_true rfl), (Nat.le_of_ble_eq_true rfl)⟩) (xPV C w [0, 1] rfl (by decide) (ci := 7) (q0 := 0) rfl rfl) rfl rfl hl.1 rfl (lv_room (Nat.le_of_ble_eq_true rfl)) dX4_next_45 ⟨(Nat.le_of_ble_eq_true rfl), (Nat.le_of_ble_eq_true rfl)⟩) (fun f3121 H locs w => ?_)
  have w : xW G A s [(h5, .inr (6, [.ref h14, .int 0])), (h0, .inr (8, [.ref h3, .ref h6, .ref h7, .ref h8, .ref h1, .int 0, .ref h5, .ref h9])), (h1, .inl (cy 3, 3, .inr (.inr (.inr (.inr (va_up (va_up (va_up (fun _ => none) 0 (some h2)) 1 (some h10)) 2 (some h11))))))), (h2, .inr (4, [.int 0, .int 0, .int 0])), (h3, .inr (7, [.ref h4, .ref h12])), (h4, .inr (6, [.ref h13, .int 0]))] H _ := w
  refine va_mmin C.1 C.2.1 (C.2.2.1.trans hl.1.symm) (xown C) (xhts C _ (List.mem_cons_of_mem _ gw_884)) (xhts C _ (List.mem_cons_of_mem _ gw_420)) (xhts C _ (List.mem_cons_of_mem _ gw_217)) (xhts C _ (List.mem_cons_of_mem _ gm_min)) (Nat.le_of_ble_eq_true rfl) (Nat.le_of_ble_eq_true rfl) (Nat.le_of_ble_eq_true rfl) (Nat.le_of_ble_eq_true rfl) dX4_next_48 ?_
  refine x_is (y := 0) (if_pos p2) ?_
  refine lv_istore (lv' := [(5, .int 0), (4, .int 0), (3, .ref h2), (0, .ref h0), (1, .int 0), (2, .int v0)]) C.1 C.2.1 dX4_next_51 hl (by decide) rfl (fun ls hl => ?_)
  refine lv_aload_n C.1 C.2.1 dX4_next_53 rfl (lv_at hl 3 rfl) ?_
  refine x_get (v := .ref h5) C w 1 8 6 (xin_X4 _) rfl rfl (by decide) (List.mem_cons_of_mem _ gw_51) rfl rfl dX4_next_54 ?_
  refine x_kv C w [0] [1, 2, 3, 4, 5] rfl rfl (by decide) (by decide) (va_runV (As := []) (rest := []) (xfix C) (c109_X2_empty l G cy sa sv h5 h14 (xtr C) _) (cwV 0 (xhts C) (xgV (maxL := 0) (cc := ⟨#[]⟩) (ret := none) gw_312 gw_313 gw_314 gw_11 gc_X2_empty) rfl rfl rfl (by decide +kernel) ⟨(Nat.le_of_ble_eq_true rfl), (Nat.le_of_ble_eq_true rfl)⟩) (xPV C w [0] rfl (by decide) (ci := 6) (q0 := 0) rfl rfl) rfl rfl hl.1 rfl (lv_room (Nat.le_of_ble_eq_true rfl)) dX4_next_57 ⟨(Nat.le_of_ble_eq_true rfl), (Nat.le_of_ble_eq_true rfl)⟩) (fun f3122 H locs w => ?_)
  have w : xW G A s [(h0, .inr (8, [.ref h3, .ref h6, .ref h7, .ref h8, .ref h1, .int 0, .ref h5, .ref h9])), (h1, .inl (cy 3, 3, .inr (.inr (.inr (.inr (va_up (va_up (va_up (fun _ => none) 0 (some h2)) 1 (some h10)) 2 (some h11))))))), (h2, .inr (4, [.int 0, .int 0, .int 0])), (h3, .inr (7, [.ref h4, .ref h12])), (h4, .inr (6, [.ref h13, .int 0])), (h5, .inr (6, [.ref h14, .int 0]))] H _ := w
  refine lv_iload C.1 C.2.1 dX4_next_60 (lv_at hl 1 rfl) ?_
  refine lv_istore (lv' := [(6, .int 0), (5, .int 0), (4, .int 0), (3, .ref h2), (0, .ref h0), (1, .int 0), (2, .int v0)]) C.1 C.2.1 dX4_next_62 hl (by decide) rfl (fun ls hl => ?_)
  refine lv_iload C.1 C.2.1 dX4_next_64 (lv_at hl 0 rfl) ?_
  refine lv_iload C.1 C.2.1 dX4_next_66 (lv_at hl 1 rfl) ?_
  refine lv_icmp_ge (tgt := 106) C.1 C.2.1 dX4_next_68 (by decide) (fun _ => ?_) (fun c9 => absurd (by decide) c9)
  refine lv_aload_n C.1 C.2.1 dX4_next_106 rfl (lv_at hl 4 rfl) ?_
  refine x_get (v := .ref h5) C w 0 8 6 (xin_X4 _) rfl rfl (by decide) (List.mem_cons_of_mem _ gw_51) rfl rfl dX4_next_107 ?_
  refine x_kr C w [5] [0, 1, 2, 3, 4] rfl rfl (by decide) (by decide) (va_runV (As := []) (rest := []) (xfix C) (c228_X2_joined l G cy sa sv h5 h14 (xtr C) _) (cwV 0 (xhts C) (xgV (maxL := 0) (cc := ⟨#[]⟩) (ret := none) gw_542 gw_543 gw_544 gw_11 gc_X2_joined) rfl rfl rfl (by decide +kernel) ⟨(Nat.le_of_ble_eq_true rfl), (Nat.le_of_ble_eq_true rfl)⟩) (xPV C w [5] rfl (by decide) (ci := 6) (q0 := 5) rfl rfl) rfl rfl hl.1 rfl (lv_room (Nat.le_of_ble_eq_true rfl)) dX4_next_110 ⟨(Nat.le_of_ble_eq_true rfl), (Nat.le_of_ble_eq_true rfl)⟩) (fun f3173 H locs w => ?_)
  have w : xW G A s [(h0, .inr (8, [.ref h3, .ref h6, .ref h7, .ref h8, .ref h1, .int 0, .ref h5, .ref h9])), (h1, .inl (cy 3, 3, .inr (.inr (.inr (.inr (va_up (va_up (va_up (fun _ => none) 0 (some h2)) 1 (some h10)) 2 (some h11))))))), (h2, .inr (4, [.int 0, .int 0, .int 0])), (h3, .inr (7, [.ref h4, .ref h12])), (h4, .inr (6, [.ref h13, .int 0])), (h5, .inr (6, [.ref h14, .int 0])), ((f3173 0), .inr (0, [.ref (f3173 1), .int 0, .int 0, .int 0])), ((f3173 1), .inl (cy 0, 0, .inl (va_cpy (fun _ => 0) (fun _ => 0) 0 0 0)))] H _ := w
  refine W.widen (k := 4) (n := 24) (Nat.le_of_ble_eq_true rfl) (Nat.le_of_ble_eq_true rfl) ?_
  exact x_aret C w hr (Or.inl ⟨_, rfl⟩) (fun k => match k with | 0 => (f3173 0) | 1 => (f3173 1) | _ => 0) rfl rfl dX4_next_113 (Nat.le_of_ble_eq_true rfl) (Nat.le_of_ble_eq_true rfl)
set_option maxHeartbeats 4000000 in
set_option maxRecDepth 100000 in
theorem c477_L_next (l : Launch) (G : va_G) (cy : Nat → ClassId) (sa : String → Nat → Nat) (sv : Nat → Nat) (h0 h1 h2 h3 h4 h5 h6 h7 h8 h9 h10 h11 h12 h13 h14 h15 : Nat) (v0 : Int32) (p0 : ¬ v0 < 1) (p1 : v0 ≤ 24) (p2 : 0 < (0 + v0)) : xM l G cy sa sv yL_next (Cond.codeWith yL_next cL_next 5 (some .int) [(0, 10, 13, 91), (0, 10, 17, 19)] :: XG) { frames := 16, cells := 4, slots := 24, locals := 430 } [.ref h0, .int 0, .int v0, .ref h1] [(h0, .inr (8, [.ref h4, .ref h7, .ref h8, .ref h9, .ref h2, .int 0, .ref h6, .ref h10])), (h2, .inl (cy 3, 3, .inr (.inr (.inr (.inr (va_up (va_up (va_up (fun _ => none) 0 (some h3)) 1 (some h11)) 2 (some h12))))))), (h3, .inr (4, [.int 0, .int 0, .int 0])), (h4, .inr (7, [.ref h5, .ref h13])), (h5, .inr (6, [.ref h14, .int 0])), (h6, .inr (6, [.ref h15, .int 0])), (h1, .inr (9, [.long 0, .null]))] (xQi G (fun f => [(h0, .inr (8, [.ref h4, .ref h7, .ref h8, .ref h9, .ref h2, .int 0, .ref h6, .ref h10])), (h2, .inl (cy 3, 3, .inr (.inr (.inr (.inr (va_up (va_up (va_up (fun _ => none) 0 (some h3)) 1 (some h11)) 2 (some h12))))))), (h3, .inr (4, [.int 0, .int 0, .int 0])), (h4, .inr (7, [.ref h5, .ref h13])), (h5, .inr (6, [.ref h14, .int 0])), (h6, .inr (6, [.ref h15, .int 0])), (h1, .inr (9, [.long 0, .ref (f 0)])), ((f 0), .inr (0, [.ref (f 1), .int 0, .int 0, .int 0])), ((f 1), .inl (cy 0, 0, .inl (va_cpy (fun _ => 0) (fun _ => 0) 0 0 0)))]) 0) := by
  refine xofH (by decide) (Nat.le_of_ble_eq_true rfl) (fun p e s m below meth c A C w hr hn hT ls hl => ?_)
  have hl : lv_has ls 5 [(0, .ref h0), (1, .int 0), (2, .int v0), (3, .ref h1)] := hl
  refine lv_aload_n C.1 C.2.1 dL_next_0 rfl (lv_at hl 3 rfl) ?_
  refine lv_aload_n C.1 C.2.1 dL_next_1 rfl (lv_at hl 0 rfl) ?_
  refine lv_iload_n C.1 C.2.1 dL_next_2 rfl (lv_at hl 1 rfl) ?_
  refine lv_iload_n C.1 C.2.1 dL_next_3 rfl (lv_at hl 2 rfl) ?_
  refine x_kr C w [0, 1, 2, 3, 4, 5] [6] rfl rfl (by decide) (by decide) (va_runV (As := [.int 0, .int v0]) (rest := [.ref h1]) (xfix C) (c476_X4_next l G cy sa sv h0 h2 h3 h4 h5 h6 h7 h8 h9 h10 h11 h12 h13 h14 h15 v0 p0 p1 p2 (xtr C) _) (cwV 2 (xhts C) (xgV (maxL := 0) (cc := ⟨#[]⟩) (ret := none) gw_870 gw_871 gw_872 gw_2 gc_X4_next) rfl rfl rfl (by decide +kernel) ⟨(Nat.le_of_ble_eq_true rfl), (Nat.le_of_ble_eq_true rfl)⟩) (xPV C w [0, 1, 2, 3, 4, 5] rfl (by decide) (ci := 8) (q0 := 0) rfl rfl) rfl rfl hl.1 rfl (lv_room (Nat.le_of_ble_eq_true rfl)) dL_next_4 ⟨(Nat.le_of_ble_eq_true rfl), (Nat.le_of_ble_eq_true rfl)⟩) (fun f3176 H locs w => ?_)
  have w : xW G A s [(h1, .inr (9, [.long 0, .null])), (h0, .inr (8, [.ref h4, .ref h7, .ref h8, .ref h9, .ref h2, .int 0, .ref h6, .ref h10])), (h2, .inl (cy 3, 3, .inr (.inr (.inr (.inr (va_up (va_up (va_up (fun _ => none) 0 (some h3)) 1 (some h11)) 2 (some h12))))))), (h3, .inr (4, [.int 0, .int 0, .int 0])), (h4, .inr (7, [.ref h5, .ref h13])), (h5, .inr (6, [.ref h14, .int 0])), (h6, .inr (6, [.ref h15, .int 0])), ((f3176 0), .inr (0, [.ref (f3176 1), .int 0, .int 0, .int 0])), ((f3176 1), .inl (cy 0, 0, .inl (va_cpy (fun _ => 0) (fun _ => 0) 0 0 0)))] H _ := w
  refine W.widen (k := 4) (n := 24) (Nat.le_of_ble_eq_true rfl) (Nat.le_of_ble_eq_true rfl) ?_
  refine x_putN (ty := (.object "java/lang/String")) (ty0 := tyX5) C w 0 9 1 (xin_X5 _) tyX5_ok nmX5 rfl rfl (by decide) (xs_f_s (xS C)) rfl rfl (by decide +kernel) rfl rfl (Nat.le_of_ble_eq_true rfl) dL_next_7 (fun H locs w => ?_)
  have w : xW G A s [(h1, .inr (9, [.long 0, .ref (f3176 0)])), (h0, .inr (8, [.ref h4, .ref h7, .ref h8, .ref h9, .ref h2, .int 0, .ref h6, .ref h10])), (h2, .inl (cy 3, 3, .inr (.inr (.inr (.inr (va_up (va_up (va_up (fun _ => none) 0 (some h3)) 1 (some h11)) 2 (some h12))))))), (h3, .inr (4, [.int 0, .int 0, .int 0])), (h4, .inr (7, [.ref h5, .ref h13])), (h5, .inr (6, [.ref h14, .int 0])), (h6, .inr (6, [.ref h15, .int 0])), ((f3176 0), .inr (0, [.ref (f3176 1), .int 0, .int 0, .int 0])), ((f3176 1), .inl (cy 0, 0, .inl (va_cpy (fun _ => 0) (fun _ => 0) 0 0 0)))] H _ := w
  refine lv_goto (tgt := 21) C.1 C.2.1 dL_next_10 (by decide) ?_
  refine lv_iconst (v := 0) C.1 C.2.1 dL_next_21 (by decide) ?_
  have w := w.sub (ws' := [(h0, .inr (8, [.ref h4, .ref h7, .ref h8, .ref h9, .ref h2, .int 0, .ref h6, .ref h10])), (h2, .inl (cy 3, 3, .inr (.inr (.inr (.inr (va_up (va_up (va_up (fun _ => none) 0 (some h3)) 1 (some h11)) 2 (some h12))))))), (h3, .inr (4, [.int 0, .int 0, .int 0])), (h4, .inr (7, [.ref h5, .ref h13])), (h5, .inr (6, [.ref h14, .int 0])), (h6, .inr (6, [.ref h15, .int 0])), (h1, .inr (9, [.long 0, .ref (f3176 0)])), ((f3176 0), .inr (0, [.ref (f3176 1), .int 0, .int 0, .int 0])), ((f3176 1), .inl (cy 0, 0, .inl (va_cpy (fun _ => 0) (fun _ => 0) 0 0 0)))]) [1, 2, 3, 4, 5, 6, 0, 7, 8] (by decide) rfl rfl
  exact x_iret C w hr (fun k => match k with | 0 => (f3176 0) | 1 => (f3176 1) | _ => 0) rfl rfl dL_next_22 (Nat.le_of_ble_eq_true rfl) (Nat.le_of_ble_eq_true rfl)
set_option maxHeartbeats 4000000 in
set_option maxRecDepth 100000 in
theorem c478_X6_range (l : Launch) (G : va_G) (cy : Nat → ClassId) (sa : String → Nat → Nat) (sv : Nat → Nat) (h0 h1 h2 h3 h4 h5 h6 h7 : Nat) : xM l G cy sa sv yX6_range (Cond.code yX6_range cX6_range 5 (some (.object "java/util/ArrayList")) :: XG) { frames := 11, cells := 1, slots := 3, locals := 310 } [.ref h0, .int (-2147483648), .int 2147483647] [(h0, .inr (10, [.ref h1, .ref h2, .ref h3, .ref h4, .ref h5, .ref h6, .ref h7, .int 0, .int 0])), (h1, .inr (3, [.int 0, .ref (sv 0), .int 0]))] (xQr G (fun f => [(h0, .inr (10, [.ref h1, .ref h2, .ref h3, .ref h4, .ref h5, .ref h6, .ref h7, .int 0, .int 0])), (h1, .inr (3, [.int 0, .ref (sv 0), .int 0])), ((f 0), .inr (3, [.int 0, .ref (sv 0), .int 0]))]) (fun f => (f 0))) := by
  refine xof (by decide) (Nat.le_of_ble_eq_true rfl) (fun p e s m below meth c A C w hr hn ls hl => ?_)
  have hl : lv_has ls 5 [(0, .ref h0), (1, .int (-2147483648)), (2, .int 2147483647)] := hl
  refine x_new (fs := [.int 0, .null, .int 0]) (ty0 := tyJx4a65c) C w 3 (xin_Jx4a65c _) tyJx4a65c_ok rfl (List.mem_cons_of_mem _ gw_60) (List.mem_cons_of_mem _ gw_61) (List.mem_cons_of_mem _ gw_62) (fun j hj => by rcases (show j = 0 ∨ j = 1 ∨ j = 2 by omega) with rfl | rfl | rfl <;> rfl) (Nat.le_of_ble_eq_true rfl) (Nat.le_of_ble_eq_true rfl) dX6_range_0 (fun q3209 H w => ?_)
  have w : xW G A s [(h0, .inr (10, [.ref h1, .ref h2, .ref h3, .ref h4, .ref h5, .ref h6, .ref h7, .int 0, .int 0])), (h1, .inr (3, [.int 0, .ref (sv 0), .int 0])), (q3209, .inr (3, [.int 0, .null, .int 0]))] H _ := w
  refine W.widen (k := 1) (n := 3) (Nat.le_of_ble_eq_true rfl) (Nat.le_of_ble_eq_true rfl) ?_
  refine lv_dup C.1 C.2.1 dX6_range_3 rfl ?_
  refine x_kv C w [2] [0, 1] rfl rfl (by decide) (by decide) (va_runI (As := []) (rest := [.ref q3209]) (xfix C) (c10_Jx4a65c_init_da8c8 l G cy sa sv q3209 (xtr C) _) (cwI 0 (xhts C) (xgI gc_Jx4a65c_init_da8c8) rfl rfl rfl (xhts C _ (List.mem_cons_of_mem _ gw_62)) (xhts C _ (List.mem_cons_of_mem _ gw_76)) (xhts C _ (List.mem_cons_of_mem _ gw_77)) rfl (by decide +kernel) ⟨(Nat.le_of_ble_eq_true rfl), (Nat.le_of_ble_eq_true rfl)⟩) (xPS C w [2] rfl (by decide)) rfl rfl hl.1 rfl (lv_room (Nat.le_of_ble_eq_true rfl)) dX6_range_4 ⟨(Nat.le_of_ble_eq_true rfl), (Nat.le_of_ble_eq_true rfl)⟩) (fun f3212 H locs w => ?_)
  have w : xW G A s [(h0, .inr (10, [.ref h1, .ref h2, .ref h3, .ref h4, .ref h5, .ref h6, .ref h7, .int 0, .int 0])), (h1, .inr (3, [.int 0, .ref (sv 0), .int 0])), (q3209, .inr (3, [.int 0, .ref (sv 0), .int 0]))] H _ := w
  refine lv_astore_n (lv' := [(3, .ref q3209), (0, .ref h0), (1, .int (-2147483648)), (2, .int 2147483647)]) C.1 C.2.1 dX6_range_7 rfl hl (by decide) rfl (fun ls hl => ?_)
  refine lv_iconst (v := 0) C.1 C.2.1 dX6_range_8 (by decide) ?_
  refine lv_istore (lv' := [(4, .int 0), (3, .ref q3209), (0, .ref h0), (1, .int (-2147483648)), (2, .int 2147483647)]) C.1 C.2.1 dX6_range_9 hl (by decide) rfl (fun ls hl => ?_)
  refine lv_iload C.1 C.2.1 dX6_range_11 (lv_at hl 0 rfl) ?_
  refine lv_aload_n C.1 C.2.1 dX6_range_13 rfl (lv_at hl 2 rfl) ?_
  refine x_get (v := .ref h1) C w 0 10 0 (xin_X6 _) rfl rfl (by decide) (List.mem_cons_of_mem _ gw_78) rfl rfl dX6_range_14 ?_
  refine x_ki C w [1] [0, 2] rfl rfl (by decide) (by decide) (va_runV (As := []) (rest := [.int 0]) (xfix C) (c47_Jx4a65c_size_8abf5 l G cy sa sv h1 (xtr C) _) (cwV 0 (xhts C) (xgV (maxL := 0) (cc := ⟨#[]⟩) (ret := none) gw_195 gw_196 gw_197 gw_62 gc_Jx4a65c_size_8abf5) rfl rfl rfl (by decide +kernel) ⟨(Nat.le_of_ble_eq_true rfl), (Nat.le_of_ble_eq_true rfl)⟩) (xPV C w [1] rfl (by decide) (ci := 3) (q0 := 1) rfl rfl) rfl rfl hl.1 rfl (lv_room (Nat.le_of_ble_eq_true rfl)) dX6_range_17 ⟨(Nat.le_of_ble_eq_true rfl), (Nat.le_of_ble_eq_true rfl)⟩) (fun f3213 H locs w => ?_)
  have w : xW G A s [(h0, .inr (10, [.ref h1, .ref h2, .ref h3, .ref h4, .ref h5, .ref h6, .ref h7, .int 0, .int 0])), (q3209, .inr (3, [.int 0, .ref (sv 0), .int 0])), (h1, .inr (3, [.int 0, .ref (sv 0), .int 0]))] H _ := w
  refine lv_icmp_ge (tgt := 82) C.1 C.2.1 dX6_range_20 (by decide) (fun _ => ?_) (fun c9 => absurd (by decide) c9)
  refine lv_aload_n C.1 C.2.1 dX6_range_82 rfl (lv_at hl 1 rfl) ?_
  have w := w.sub (ws' := [(h0, .inr (10, [.ref h1, .ref h2, .ref h3, .ref h4, .ref h5, .ref h6, .ref h7, .int 0, .int 0])), (h1, .inr (3, [.int 0, .ref (sv 0), .int 0])), (q3209, .inr (3, [.int 0, .ref (sv 0), .int 0]))]) [0, 2, 1] (by decide) rfl rfl
  exact x_aret C w hr (Or.inl ⟨_, rfl⟩) (fun k => match k with | 0 => q3209 | _ => 0) rfl rfl dX6_range_83 (Nat.le_of_ble_eq_true rfl) (Nat.le_of_ble_eq_true rfl)
set_option maxHeartbeats 4000000 in
set_option maxRecDepth 100000 in
theorem c479_X6_all (l : Launch) (G : va_G) (cy : Nat → ClassId) (sa : String → Nat → Nat) (sv : Nat → Nat) (h0 h1 h2 h3 h4 h5 h6 h7 : Nat) : xM l G cy sa sv yX6_all (Cond.code yX6_all cX6_all 1 (some (.object "java/util/ArrayList")) :: XG) { frames := 12, cells := 1, slots := 3, locals := 334 } [.ref h0] [(h0, .inr (10, [.ref h1, .ref h2, .ref h3, .ref h4, .ref h5, .ref h6, .ref h7, .int 0, .int 0])), (h1, .inr (3, [.int 0, .ref (sv 0), .int 0]))] (xQr G (fun f => [(h0, .inr (10, [.ref h1, .ref h2, .ref h3, .ref h4, .ref h5, .ref h6, .ref h7, .int 0, .int 0])), (h1, .inr (3, [.int 0, .ref (sv 0), .int 0])), ((f 0), .inr (3, [.int 0, .ref (sv 0), .int 0]))]) (fun f => (f 0))) := by
  refine xof (by decide) (Nat.le_of_ble_eq_true rfl) (fun p e s m below meth c A C w hr hn ls hl => ?_)
  have hl : lv_has ls 1 [(0, .ref h0)] := hl
  refine lv_aload_n C.1 C.2.1 dX6_all_0 rfl (lv_at hl 0 rfl) ?_
  refine x_ldc (v := (-2147483648)) C (List.mem_cons_of_mem _ gw_885) dX6_all_1 ?_
  refine x_ldc (v := 2147483647) C (List.mem_cons_of_mem _ gw_886) dX6_all_3 ?_
  refine x_kr C w [0, 1] [] rfl rfl (by decide) (by decide) (va_runV (As := [.int (-2147483648), .int 2147483647]) (rest := []) (xfix C) (c478_X6_range l G cy sa sv h0 h1 h2 h3 h4 h5 h6 h7 (xtr C) _) (cwV 2 (xhts C) (xgV (maxL := 0) (cc := ⟨#[]⟩) (ret := none) gw_670 gw_671 gw_672 gw_58 gc_X6_range) rfl rfl rfl (by decide +kernel) ⟨(Nat.le_of_ble_eq_true rfl), (Nat.le_of_ble_eq_true rfl)⟩) (xPV C w [0, 1] rfl (by decide) (ci := 10) (q0 := 0) rfl rfl) rfl rfl hl.1 rfl (lv_room (Nat.le_of_ble_eq_true rfl)) dX6_all_5 ⟨(Nat.le_of_ble_eq_true rfl), (Nat.le_of_ble_eq_true rfl)⟩) (fun f3215 H locs w => ?_)
  have w : xW G A s [(h0, .inr (10, [.ref h1, .ref h2, .ref h3, .ref h4, .ref h5, .ref h6, .ref h7, .int 0, .int 0])), (h1, .inr (3, [.int 0, .ref (sv 0), .int 0])), ((f3215 0), .inr (3, [.int 0, .ref (sv 0), .int 0]))] H _ := w
  refine W.widen (k := 1) (n := 3) (Nat.le_of_ble_eq_true rfl) (Nat.le_of_ble_eq_true rfl) ?_
  exact x_aret C w hr (Or.inl ⟨_, rfl⟩) (fun k => match k with | 0 => (f3215 0) | _ => 0) rfl rfl dX6_all_8 (Nat.le_of_ble_eq_true rfl) (Nat.le_of_ble_eq_true rfl)
set_option maxHeartbeats 4000000 in
set_option maxRecDepth 100000 in
theorem c480_X6_left (l : Launch) (G : va_G) (cy : Nat → ClassId) (sa : String → Nat → Nat) (sv : Nat → Nat) (h0 h1 h2 h3 h4 h5 h6 h7 : Nat) : xM l G cy sa sv yX6_left (Cond.code yX6_left cX6_left 5 (some (.array .int)) :: XG) { frames := 13, cells := 4, slots := 10, locals := 354 } [.ref h0, .int 0] [(h0, .inr (10, [.ref h1, .ref h2, .ref h3, .ref h4, .ref h5, .ref h6, .ref h7, .int 0, .int 0])), (h1, .inr (3, [.int 0, .ref (sv 0), .int 0]))] (xQr G (fun f => [(h0, .inr (10, [.ref h1, .ref h2, .ref h3, .ref h4, .ref h5, .ref h6, .ref h7, .int 0, .int 0])), (h1, .inr (3, [.int 0, .ref (sv 0), .int 0])), ((f 0), .inl (cy 1, 0, .inl (fun _ => 0)))]) (fun f => (f 0))) := by
  refine xof (by decide) (Nat.le_of_ble_eq_true rfl) (fun p e s m below meth c A C w hr hn ls hl => ?_)
  have hl : lv_has ls 5 [(0, .ref h0), (1, .int 0)] := hl
  refine x_new (fs := [.int 0, .null, .int 0]) (ty0 := tyJx4a65c) C w 3 (xin_Jx4a65c _) tyJx4a65c_ok rfl (List.mem_cons_of_mem _ gw_60) (List.mem_cons_of_mem _ gw_61) (List.mem_cons_of_mem _ gw_62) (fun j hj => by rcases (show j = 0 ∨ j = 1 ∨ j = 2 by omega) with rfl | rfl | rfl <;> rfl) (Nat.le_of_ble_eq_true rfl) (Nat.le_of_ble_eq_true rfl) dX6_left_0 (fun q3201 H w => ?_)
  have w : xW G A s [(h0, .inr (10, [.ref h1, .ref h2, .ref h3, .ref h4, .ref h5, .ref h6, .ref h7, .int 0, .int 0])), (h1, .inr (3, [.int 0, .ref (sv 0), .int 0])), (q3201, .inr (3, [.int 0, .null, .int 0]))] H _ := w
  refine W.widen (k := 1) (n := 3) (Nat.le_of_ble_eq_true rfl) (Nat.le_of_ble_eq_true rfl) ?_
  refine lv_dup C.1 C.2.1 dX6_left_3 rfl ?_
  refine x_kv C w [2] [0, 1] rfl rfl (by decide) (by decide) (va_runI (As := []) (rest := [.ref q3201]) (xfix C) (c10_Jx4a65c_init_da8c8 l G cy sa sv q3201 (xtr C) _) (cwI 0 (xhts C) (xgI gc_Jx4a65c_init_da8c8) rfl rfl rfl (xhts C _ (List.mem_cons_of_mem _ gw_62)) (xhts C _ (List.mem_cons_of_mem _ gw_76)) (xhts C _ (List.mem_cons_of_mem _ gw_77)) rfl (by decide +kernel) ⟨(Nat.le_of_ble_eq_true rfl), (Nat.le_of_ble_eq_true rfl)⟩) (xPS C w [2] rfl (by decide)) rfl rfl hl.1 rfl (lv_room (Nat.le_of_ble_eq_true rfl)) dX6_left_4 ⟨(Nat.le_of_ble_eq_true rfl), (Nat.le_of_ble_eq_true rfl)⟩) (fun f3204 H locs w => ?_)
  have w : xW G A s [(h0, .inr (10, [.ref h1, .ref h2, .ref h3, .ref h4, .ref h5, .ref h6, .ref h7, .int 0, .int 0])), (h1, .inr (3, [.int 0, .ref (sv 0), .int 0])), (q3201, .inr (3, [.int 0, .ref (sv 0), .int 0]))] H _ := w
  refine lv_astore_n (lv' := [(2, .ref q3201), (0, .ref h0), (1, .int 0)]) C.1 C.2.1 dX6_left_7 rfl hl (by decide) rfl (fun ls hl => ?_)
  refine lv_aload_n C.1 C.2.1 dX6_left_8 rfl (lv_at hl 1 rfl) ?_
  refine x_kr C w [0, 1] [2] rfl rfl (by decide) (by decide) (va_runV (As := []) (rest := []) (xfix C) (c479_X6_all l G cy sa sv h0 h1 h2 h3 h4 h5 h6 h7 (xtr C) _) (cwV 0 (xhts C) (xgV (maxL := 0) (cc := ⟨#[]⟩) (ret := none) gw_888 gw_889 gw_890 gw_58 gc_X6_all) rfl rfl rfl (by decide +kernel) ⟨(Nat.le_of_ble_eq_true rfl), (Nat.le_of_ble_eq_true rfl)⟩) (xPV C w [0, 1] rfl (by decide) (ci := 10) (q0 := 0) rfl rfl) rfl rfl hl.1 rfl (lv_room (Nat.le_of_ble_eq_true rfl)) dX6_left_9 ⟨(Nat.le_of_ble_eq_true rfl), (Nat.le_of_ble_eq_true rfl)⟩) (fun f3217 H locs w => ?_)
  have w : xW G A s [(q3201, .inr (3, [.int 0, .ref (sv 0), .int 0])), (h0, .inr (10, [.ref h1, .ref h2, .ref h3, .ref h4, .ref h5, .ref h6, .ref h7, .int 0, .int 0])), (h1, .inr (3, [.int 0, .ref (sv 0), .int 0])), ((f3217 0), .inr (3, [.int 0, .ref (sv 0), .int 0]))] H _ := w
  refine W.widen (k := 2) (n := 6) (Nat.le_of_ble_eq_true rfl) (Nat.le_of_ble_eq_true rfl) ?_
  refine x_kr C w [3] [0, 1, 2] rfl rfl (by decide) (by decide) (va_runV (As := []) (rest := []) (xfix C) (c390_Jx4a65c_iterator_32c93 l G cy sa sv (f3217 0) (xtr C) _) (cwV 0 (xhts C) (xgV (maxL := 0) (cc := ⟨#[]⟩) (ret := none) gw_738 gw_739 gw_740 gw_62 gc_Jx4a65c_iterator_32c93) rfl rfl rfl (by decide +kernel) ⟨(Nat.le_of_ble_eq_true rfl), (Nat.le_of_ble_eq_true rfl)⟩) (xPV C w [3] rfl (by decide) (ci := 3) (q0 := 3) rfl rfl) rfl rfl hl.1 rfl (lv_room (Nat.le_of_ble_eq_true rfl)) dX6_left_12 ⟨(Nat.le_of_ble_eq_true rfl), (Nat.le_of_ble_eq_true rfl)⟩) (fun f3223 H locs w => ?_)
  have w : xW G A s [(q3201, .inr (3, [.int 0, .ref (sv 0), .int 0])), (h0, .inr (10, [.ref h1, .ref h2, .ref h3, .ref h4, .ref h5, .ref h6, .ref h7, .int 0, .int 0])), (h1, .inr (3, [.int 0, .ref (sv 0), .int 0])), ((f3217 0), .inr (3, [.int 0, .ref (sv 0), .int 0])), ((f3223 0), .inr (2, [.int 0, .int (-1), .int 0, .ref (f3217 0)]))] H _ := w
  refine W.widen (k := 3) (n := 10) (Nat.le_of_ble_eq_true rfl) (Nat.le_of_ble_eq_true rfl) ?_
  refine lv_astore_n (lv' := [(3, .ref (f3223 0)), (2, .ref q3201), (0, .ref h0), (1, .int 0)]) C.1 C.2.1 dX6_left_15 rfl hl (by decide) rfl (fun ls hl => ?_)
  refine lv_aload_n C.1 C.2.1 dX6_left_16 rfl (lv_at hl 0 rfl) ?_
  refine x_kFi C w [4, 3] [0, 1, 2] rfl rfl (by decide) (by decide) (va_runF ((xK C).1 2 _ rfl).2 (As := []) (rest := []) (xfix C) (c391_Jx35411_hasNext_aae02 l G cy sa sv (f3223 0) (f3217 0) (xtr C) _) (va_cwF 0 (xhts C) (xgF (x := ⟨"java/util/Iterator", "hasNext", "()Z"⟩) gw_743 gw_744 gw_745 gw_728 gc_Jx35411_hasNext_aae02) rfl rfl rfl (xs_fw (xS C)) (by decide +kernel) ⟨(Nat.le_of_ble_eq_true rfl), (Nat.le_of_ble_eq_true rfl)⟩) (xPV C w [4, 3] rfl (by decide) (ci := 2) (q0 := 4) rfl rfl) rfl rfl hl.1 rfl (lv_room (Nat.le_of_ble_eq_true rfl)) dX6_left_17 ⟨(Nat.le_of_ble_eq_true rfl), (Nat.le_of_ble_eq_true rfl)⟩) (fun f3224 H locs w => ?_)
  have w : xW G A s [(q3201, .inr (3, [.int 0, .ref (sv 0), .int 0])), (h0, .inr (10, [.ref h1, .ref h2, .ref h3, .ref h4, .ref h5, .ref h6, .ref h7, .int 0, .int 0])), (h1, .inr (3, [.int 0, .ref (sv 0), .int 0])), ((f3223 0), .inr (2, [.int 0, .int (-1), .int 0, .ref (f3217 0)])), ((f3217 0), .inr (3, [.int 0, .ref (sv 0), .int 0]))] H _ := w
  refine lv_if_eq (tgt := 68) C.1 C.2.1 dX6_left_22 (by decide) (fun _ => ?_) (fun c9 => absurd (by decide) c9)
  refine lv_aload_n C.1 C.2.1 dX6_left_68 rfl (lv_at hl 1 rfl) ?_
  refine x_kr C w [0] [1, 2, 3, 4] rfl rfl (by decide) (by decide) (va_runS (As := [.ref q3201]) (rest := []) (xfix C) (c115_X6_keysOf l G cy sa sv q3201 (xtr C) _) (va_cwS 1 (xhts C) (xgS gw_330 gw_331 gw_58 gc_X6_keysOf) rfl rfl rfl (by decide +kernel) ⟨(Nat.le_of_ble_eq_true rfl), (Nat.le_of_ble_eq_true rfl)⟩) (xPS C w [0] rfl (by decide)) rfl rfl hl.1 rfl (lv_room (Nat.le_of_ble_eq_true rfl)) dX6_left_69 ⟨(Nat.le_of_ble_eq_true rfl), (Nat.le_of_ble_eq_true rfl)⟩) (fun f3230 H locs w => ?_)
  have w : xW G A s [(h0, .inr (10, [.ref h1, .ref h2, .ref h3, .ref h4, .ref h5, .ref h6, .ref h7, .int 0, .int 0])), (h1, .inr (3, [.int 0, .ref (sv 0), .int 0])), ((f3223 0), .inr (2, [.int 0, .int (-1), .int 0, .ref (f3217 0)])), ((f3217 0), .inr (3, [.int 0, .ref (sv 0), .int 0])), (q3201, .inr (3, [.int 0, .ref (sv 0), .int 0])), ((f3230 0), .inl (cy 1, 0, .inl (fun _ => 0)))] H _ := w
  refine W.widen (k := 4) (n := 10) (Nat.le_of_ble_eq_true rfl) (Nat.le_of_ble_eq_true rfl) ?_
  have w := w.sub (ws' := [(h0, .inr (10, [.ref h1, .ref h2, .ref h3, .ref h4, .ref h5, .ref h6, .ref h7, .int 0, .int 0])), (h1, .inr (3, [.int 0, .ref (sv 0), .int 0])), ((f3230 0), .inl (cy 1, 0, .inl (fun _ => 0)))]) [0, 1, 5] (by decide) rfl rfl
  exact x_aret C w hr (Or.inr ⟨_, rfl⟩) (fun k => match k with | 0 => (f3230 0) | _ => 0) rfl rfl dX6_left_72 (Nat.le_of_ble_eq_true rfl) (Nat.le_of_ble_eq_true rfl)
set_option maxHeartbeats 4000000 in
set_option maxRecDepth 100000 in
theorem c481_X6_next (l : Launch) (G : va_G) (cy : Nat → ClassId) (sa : String → Nat → Nat) (sv : Nat → Nat) (h0 h1 h2 h3 h4 h5 h6 h7 : Nat) (v0 : Int32) (p0 : ¬ v0 < 1) (p1 : v0 ≤ 24) (p2 : 0 < v0) : xM l G cy sa sv yX6_next (Cond.code yX6_next cX6_next 6 (some (.object "java/lang/String")) :: XG) { frames := 14, cells := 5, slots := 10, locals := 378 } [.ref h0, .int 0, .int v0] [(h0, .inr (10, [.ref h1, .ref h2, .ref h3, .ref h4, .ref h5, .ref h6, .ref h7, .int 0, .int 0])), (h1, .inr (3, [.int 0, .ref (sv 0), .int 0]))] (xQr G (fun f => [(h0, .inr (10, [.ref h1, .ref h2, .ref h3, .ref h4, .ref h5, .ref h6, .ref h7, .int 0, .int 0])), (h1, .inr (3, [.int 0, .ref (sv 0), .int 0]))]) (fun f => (sa "TwinindexModel" 122))) := by
  refine xof (by decide) (Nat.le_of_ble_eq_true rfl) (fun p e s m below meth c A C w hr hn ls hl => ?_)
  have hl : lv_has ls 6 [(0, .ref h0), (1, .int 0), (2, .int v0)] := hl
  refine lv_aload_n C.1 C.2.1 dX6_next_0 rfl (lv_at hl 0 rfl) ?_
  refine lv_iload_n C.1 C.2.1 dX6_next_1 rfl (lv_at hl 1 rfl) ?_
  refine x_ki C w [] [0, 1] rfl rfl (by decide) (by decide) (va_runS (As := [.int 0]) (rest := [.ref h0]) (xfix C) (c450_X6_isNoPager l G cy sa sv (xtr C) _) (va_cwS 1 (xhts C) (xgS gw_860 gw_861 gw_58 gc_X6_isNoPager) rfl rfl rfl (by decide +kernel) ⟨(Nat.le_of_ble_eq_true rfl), (Nat.le_of_ble_eq_true rfl)⟩) (xPS C w [] rfl (by decide)) rfl rfl hl.1 rfl (lv_room (Nat.le_of_ble_eq_true rfl)) dX6_next_2 ⟨(Nat.le_of_ble_eq_true rfl), (Nat.le_of_ble_eq_true rfl)⟩) (fun f3190 H locs w => ?_)
  have w : xW G A s [(h0, .inr (10, [.ref h1, .ref h2, .ref h3, .ref h4, .ref h5, .ref h6, .ref h7, .int 0, .int 0])), (h1, .inr (3, [.int 0, .ref (sv 0), .int 0]))] H _ := w
  refine lv_iconst (v := 1) C.1 C.2.1 dX6_next_5 (by decide) ?_
  refine x_ki C w [0] [1] rfl rfl (by decide) (by decide) (va_runV (As := [.int 0, .int 1]) (rest := []) (xfix C) (c46_X6_start l G cy sa sv h0 h1 h2 h3 h4 h5 h6 h7 (xtr C) _) (cwV 2 (xhts C) (xgV (maxL := 0) (cc := ⟨#[]⟩) (ret := none) gw_114 gw_115 gw_116 gw_58 gc_X6_start) rfl rfl rfl (by decide +kernel) ⟨(Nat.le_of_ble_eq_true rfl), (Nat.le_of_ble_eq_true rfl)⟩) (xPV C w [0] rfl (by decide) (ci := 10) (q0 := 0) rfl rfl) rfl rfl hl.1 rfl (lv_room (Nat.le_of_ble_eq_true rfl)) dX6_next_6 ⟨(Nat.le_of_ble_eq_true rfl), (Nat.le_of_ble_eq_true rfl)⟩) (fun f3191 H locs w => ?_)
  have w : xW G A s [(h1, .inr (3, [.int 0, .ref (sv 0), .int 0])), (h0, .inr (10, [.ref h1, .ref h2, .ref h3, .ref h4, .ref h5, .ref h6, .ref h7, .int 0, .int 0]))] H _ := w
  refine lv_if_ne (tgt := 36) C.1 C.2.1 dX6_next_9 (by decide) (fun c9 => absurd (by decide) c9) (fun _ => ?_)
  refine lv_aload_n C.1 C.2.1 dX6_next_12 rfl (lv_at hl 0 rfl) ?_
  refine lv_iload_n C.1 C.2.1 dX6_next_13 rfl (lv_at hl 2 rfl) ?_
  refine lv_iconst (v := 1) C.1 C.2.1 dX6_next_14 (by decide) ?_
  refine lv_icmp_lt (tgt := 24) C.1 C.2.1 dX6_next_15 (by decide) (fun c9 => absurd c9 p0) (fun _ => ?_)
  refine lv_iload_n C.1 C.2.1 dX6_next_18 rfl (lv_at hl 2 rfl) ?_
  refine lv_bipush (v := 24) C.1 C.2.1 dX6_next_19 (by decide) ?_
  refine lv_icmp_le (tgt := 28) C.1 C.2.1 dX6_next_21 (by decide) (fun _ => ?_) (fun c9 => absurd p1 c9)
  refine lv_iconst (v := 0) C.1 C.2.1 dX6_next_28 (by decide) ?_
  refine lv_iconst (v := 2) C.1 C.2.1 dX6_next_29 (by decide) ?_
  refine x_ki C w [] [0, 1] rfl rfl (by decide) (by decide) (va_runV (As := [.int 0, .int 2]) (rest := []) (xfix C) (c49_X6_fails l G cy sa sv h0 (xtr C) _) (cwV 2 (xhts C) (xgV (maxL := 0) (cc := ⟨#[]⟩) (ret := none) gw_203 gw_204 gw_205 gw_58 gc_X6_fails) rfl rfl rfl (by decide +kernel) ⟨(Nat.le_of_ble_eq_true rfl), (Nat.le_of_ble_eq_true rfl)⟩) (xPV C w [] rfl (by decide) (ci := 10) (q0 := 1) rfl rfl) rfl rfl hl.1 rfl (lv_room (Nat.le_of_ble_eq_true rfl)) dX6_next_30 ⟨(Nat.le_of_ble_eq_true rfl), (Nat.le_of_ble_eq_true rfl)⟩) (fun f3192 H locs w => ?_)
  have w : xW G A s [(h1, .inr (3, [.int 0, .ref (sv 0), .int 0])), (h0, .inr (10, [.ref h1, .ref h2, .ref h3, .ref h4, .ref h5, .ref h6, .ref h7, .int 0, .int 0]))] H _ := w
  refine lv_if_eq (tgt := 39) C.1 C.2.1 dX6_next_33 (by decide) (fun _ => ?_) (fun c9 => absurd (by decide) c9)
  refine lv_aload_n C.1 C.2.1 dX6_next_39 rfl (lv_at hl 0 rfl) ?_
  refine lv_iload_n C.1 C.2.1 dX6_next_40 rfl (lv_at hl 1 rfl) ?_
  refine x_kr C w [1, 0] [] rfl rfl (by decide) (by decide) (va_runV (As := [.int 0]) (rest := []) (xfix C) (c480_X6_left l G cy sa sv h0 h1 h2 h3 h4 h5 h6 h7 (xtr C) _) (cwV 1 (xhts C) (xgV (maxL := 0) (cc := ⟨#[]⟩) (ret := none) gw_892 gw_893 gw_894 gw_58 gc_X6_left) rfl rfl rfl (by decide +kernel) ⟨(Nat.le_of_ble_eq_true rfl), (Nat.le_of_ble_eq_true rfl)⟩) (xPV C w [1, 0] rfl (by decide) (ci := 10) (q0 := 1) rfl rfl) rfl rfl hl.1 rfl (lv_room (Nat.le_of_ble_eq_true rfl)) dX6_next_41 ⟨(Nat.le_of_ble_eq_true rfl), (Nat.le_of_ble_eq_true rfl)⟩) (fun f3232 H locs w => ?_)
  have w : xW G A s [(h0, .inr (10, [.ref h1, .ref h2, .ref h3, .ref h4, .ref h5, .ref h6, .ref h7, .int 0, .int 0])), (h1, .inr (3, [.int 0, .ref (sv 0), .int 0])), ((f3232 0), .inl (cy 1, 0, .inl (fun _ => 0)))] H _ := w
  refine W.widen (k := 4) (n := 10) (Nat.le_of_ble_eq_true rfl) (Nat.le_of_ble_eq_true rfl) ?_
  refine lv_astore_n (lv' := [(3, .ref (f3232 0)), (0, .ref h0), (1, .int 0), (2, .int v0)]) C.1 C.2.1 dX6_next_44 rfl hl (by decide) rfl (fun ls hl => ?_)
  refine lv_iload_n C.1 C.2.1 dX6_next_45 rfl (lv_at hl 3 rfl) ?_
  refine lv_aload_n C.1 C.2.1 dX6_next_46 rfl (lv_at hl 0 rfl) ?_
  refine x_alen (v := 0) C w 2 1 rfl rfl (by rfl) dX6_next_47 ?_
  refine va_mmin C.1 C.2.1 (C.2.2.1.trans hl.1.symm) (xown C) (xhts C _ (List.mem_cons_of_mem _ gw_895)) (xhts C _ (List.mem_cons_of_mem _ gw_420)) (xhts C _ (List.mem_cons_of_mem _ gw_217)) (xhts C _ (List.mem_cons_of_mem _ gm_min)) (Nat.le_of_ble_eq_true rfl) (Nat.le_of_ble_eq_true rfl) (Nat.le_of_ble_eq_true rfl) (Nat.le_of_ble_eq_true rfl) dX6_next_48 ?_
  refine x_is (y := 0) (if_pos p2) ?_
  refine x_newa (atype := .int) (ty := .int) (N := 0) C w 1 (fun _ _ h => h) rfl (List.mem_cons_of_mem _ gw_13) rfl rfl (by decide) (by decide) (by decide) (Nat.le_of_ble_eq_true rfl) (Nat.le_of_ble_eq_true rfl) dX6_next_51 (fun q3233 H w => ?_)
  have w : xW G A s [(h0, .inr (10, [.ref h1, .ref h2, .ref h3, .ref h4, .ref h5, .ref h6, .ref h7, .int 0, .int 0])), (h1, .inr (3, [.int 0, .ref (sv 0), .int 0])), ((f3232 0), .inl (cy 1, 0, .inl (fun _ => 0))), (q3233, .inl (cy 1, 0, .inl (fun _ => 0)))] H _ := w
  refine W.widen (k := 5) (n := 10) (Nat.le_of_ble_eq_true rfl) (Nat.le_of_ble_eq_true rfl) ?_
  refine lv_astore (lv' := [(4, .ref q3233), (3, .ref (f3232 0)), (0, .ref h0), (1, .int 0), (2, .int v0)]) C.1 C.2.1 dX6_next_53 hl (by decide) rfl (fun ls hl => ?_)
  refine lv_iconst (v := 0) C.1 C.2.1 dX6_next_55 (by decide) ?_
  refine lv_istore (lv' := [(5, .int 0), (4, .ref q3233), (3, .ref (f3232 0)), (0, .ref h0), (1, .int 0), (2, .int v0)]) C.1 C.2.1 dX6_next_56 hl (by decide) rfl (fun ls hl => ?_)
  refine lv_iload C.1 C.2.1 dX6_next_58 (lv_at hl 0 rfl) ?_
  refine lv_aload C.1 C.2.1 dX6_next_60 (lv_at hl 1 rfl) ?_
  refine x_alen (v := 0) C w 3 1 rfl rfl (by rfl) dX6_next_62 ?_
  refine lv_icmp_ge (tgt := 108) C.1 C.2.1 dX6_next_63 (by decide) (fun _ => ?_) (fun c9 => absurd (by decide) c9)
  refine lv_aload C.1 C.2.1 dX6_next_108 (lv_at hl 1 rfl) ?_
  refine x_kr C w [3] [0, 1, 2] rfl rfl (by decide) (by decide) (va_runS (As := [.ref q3233]) (rest := []) (xfix C) (c230_X6_joined l G cy sa sv q3233 (xtr C) _) (va_cwS 1 (xhts C) (xgS gw_550 gw_551 gw_58 gc_X6_joined) rfl rfl rfl (by decide +kernel) ⟨(Nat.le_of_ble_eq_true rfl), (Nat.le_of_ble_eq_true rfl)⟩) (xPS C w [3] rfl (by decide)) rfl rfl hl.1 rfl (lv_room (Nat.le_of_ble_eq_true rfl)) dX6_next_110 ⟨(Nat.le_of_ble_eq_true rfl), (Nat.le_of_ble_eq_true rfl)⟩) (fun f3234 H locs w => ?_)
  have w : xW G A s [(h0, .inr (10, [.ref h1, .ref h2, .ref h3, .ref h4, .ref h5, .ref h6, .ref h7, .int 0, .int 0])), (h1, .inr (3, [.int 0, .ref (sv 0), .int 0])), ((f3232 0), .inl (cy 1, 0, .inl (fun _ => 0))), (q3233, .inl (cy 1, 0, .inl (fun _ => 0)))] H _ := w
  have w := w.sub (ws' := [(h0, .inr (10, [.ref h1, .ref h2, .ref h3, .ref h4, .ref h5, .ref h6, .ref h7, .int 0, .int 0])), (h1, .inr (3, [.int 0, .ref (sv 0), .int 0]))]) [0, 1] (by decide) rfl rfl
  exact x_aret C w hr (Or.inl ⟨_, rfl⟩) (fun _ => 0) rfl rfl dX6_next_113 (Nat.le_of_ble_eq_true rfl) (Nat.le_of_ble_eq_true rfl)
set_option maxHeartbeats 4000000 in
set_option maxRecDepth 100000 in
theorem c482_X4_next (l : Launch) (G : va_G) (cy : Nat → ClassId) (sa : String → Nat → Nat) (sv : Nat → Nat) (h0 h1 h2 h3 h4 h5 h6 h7 h8 h9 h10 : Nat) (v0 : Int32) (p0 : ¬ v0 < 1) (p1 : ¬ v0 ≤ 24) : xX l G cy sa sv yX4_next (Cond.code yX4_next cX4_next 7 (some (.object "java/lang/String")) :: XG) { frames := 9, cells := 1, slots := 6, locals := 271 } [.ref h0, .int 0, .int v0] [(h0, .inr (8, [.ref h2, .ref h3, .ref h4, .ref h5, .ref h1, .int 0, .ref h6, .ref h7])), (h1, .inl (cy 3, 3, .inr (.inr (.inr (.inr (va_up (va_up (va_up (fun _ => none) 0 (some h8)) 1 (some h9)) 2 (some h10)))))))] (fun f => [(h0, .inr (8, [.ref h2, .ref h3, .ref h4, .ref h5, .ref h1, .int 0, .ref h6, .ref h7])), (h1, .inl (cy 3, 3, .inr (.inr (.inr (.inr (va_up (va_up (va_up (fun _ => none) 0 (some h8)) 1 (some h9)) 2 (some h10)))))))]) "java/lang/IllegalArgumentException" := by
  refine xofX (by decide) (Nat.le_of_ble_eq_true rfl) (fun p e s m below meth c A C w hno ls hl => ?_)
  have hl : lv_has ls 7 [(0, .ref h0), (1, .int 0), (2, .int v0)] := hl
  refine lv_aload_n C.1 C.2.1 dX4_next_0 rfl (lv_at hl 0 rfl) ?_
  refine lv_iload_n C.1 C.2.1 dX4_next_1 rfl (lv_at hl 1 rfl) ?_
  refine x_kr C w [0, 1] [] rfl rfl (by decide) (by decide) (va_runV (As := [.int 0]) (rest := []) (xfix C) (c446_X4_pagerOf l G cy sa sv h0 h1 h2 h3 h4 h5 h6 h7 h8 h9 h10 (xtr C) _) (cwV 1 (xhts C) (xgV (maxL := 0) (cc := ⟨#[]⟩) (ret := none) gw_842 gw_843 gw_844 gw_2 gc_X4_pagerOf) rfl rfl rfl (by decide +kernel) ⟨(Nat.le_of_ble_eq_true rfl), (Nat.le_of_ble_eq_true rfl)⟩) (xPV C w [0, 1] rfl (by decide) (ci := 8) (q0 := 0) rfl rfl) rfl rfl hl.1 rfl (lv_room (Nat.le_of_ble_eq_true rfl)) dX4_next_2 ⟨(Nat.le_of_ble_eq_true rfl), (Nat.le_of_ble_eq_true rfl)⟩) (fun f3242 H locs w => ?_)
  have w : xW G A s [(h0, .inr (8, [.ref h2, .ref h3, .ref h4, .ref h5, .ref h1, .int 0, .ref h6, .ref h7])), (h1, .inl (cy 3, 3, .inr (.inr (.inr (.inr (va_up (va_up (va_up (fun _ => none) 0 (some h8)) 1 (some h9)) 2 (some h10)))))))] H _ := w
  refine lv_astore_n (lv' := [(3, .ref h8), (0, .ref h0), (1, .int 0), (2, .int v0)]) C.1 C.2.1 dX4_next_5 rfl hl (by decide) rfl (fun ls hl => ?_)
  refine lv_iload_n C.1 C.2.1 dX4_next_6 rfl (lv_at hl 3 rfl) ?_
  refine lv_iconst (v := 1) C.1 C.2.1 dX4_next_7 (by decide) ?_
  refine lv_icmp_lt (tgt := 17) C.1 C.2.1 dX4_next_8 (by decide) (fun c9 => absurd c9 p0) (fun _ => ?_)
  refine lv_iload_n C.1 C.2.1 dX4_next_11 rfl (lv_at hl 3 rfl) ?_
  refine lv_bipush (v := 24) C.1 C.2.1 dX4_next_12 (by decide) ?_
  refine lv_icmp_le (tgt := 27) C.1 C.2.1 dX4_next_14 (by decide) (fun c9 => absurd c9 p1) (fun _ => ?_)
  exact x_thr C w hno hl.1 (by decide) (List.mem_cons_of_mem _ gw_95) (List.mem_cons_of_mem _ gw_96) (tx := "many is not 1 to 24") (List.mem_of_getElem? (i := 4) rfl) (xat_203 C (fun w h => List.mem_cons_of_mem _ h)) xatg_203 dX4_next_17 dX4_next_20 dX4_next_21 dX4_next_23 dX4_next_26 (Nat.le_of_ble_eq_true rfl) (Nat.le_of_ble_eq_true rfl) (Nat.le_of_ble_eq_true rfl) (Nat.le_of_ble_eq_true rfl) rfl rfl (fun _ => 0) rfl
set_option maxHeartbeats 4000000 in
set_option maxRecDepth 100000 in
theorem c483_L_next (l : Launch) (G : va_G) (cy : Nat → ClassId) (sa : String → Nat → Nat) (sv : Nat → Nat) (h0 h1 h2 h3 h4 h5 h6 h7 h8 h9 h10 h11 : Nat) (v0 : Int32) (p0 : ¬ v0 < 1) (p1 : ¬ v0 ≤ 24) : xM l G cy sa sv yL_next (Cond.codeWith yL_next cL_next 5 (some .int) [(0, 10, 13, 91), (0, 10, 17, 19)] :: XG) { frames := 10, cells := 1, slots := 6, locals := 297 } [.ref h0, .int 0, .int v0, .ref h1] [(h0, .inr (8, [.ref h3, .ref h4, .ref h5, .ref h6, .ref h2, .int 0, .ref h7, .ref h8])), (h2, .inl (cy 3, 3, .inr (.inr (.inr (.inr (va_up (va_up (va_up (fun _ => none) 0 (some h9)) 1 (some h10)) 2 (some h11)))))))] (xQi G (fun f => [(h0, .inr (8, [.ref h3, .ref h4, .ref h5, .ref h6, .ref h2, .int 0, .ref h7, .ref h8])), (h2, .inl (cy 3, 3, .inr (.inr (.inr (.inr (va_up (va_up (va_up (fun _ => none) 0 (some h9)) 1 (some h10)) 2 (some h11)))))))]) 2) := by
  refine xofH (by decide) (Nat.le_of_ble_eq_true rfl) (fun p e s m below meth c A C w hr hn hT ls hl => ?_)
  have hl : lv_has ls 5 [(0, .ref h0), (1, .int 0), (2, .int v0), (3, .ref h1)] := hl
  refine lv_aload_n C.1 C.2.1 dL_next_0 rfl (lv_at hl 3 rfl) ?_
  refine lv_aload_n C.1 C.2.1 dL_next_1 rfl (lv_at hl 0 rfl) ?_
  refine lv_iload_n C.1 C.2.1 dL_next_2 rfl (lv_at hl 1 rfl) ?_
  refine lv_iload_n C.1 C.2.1 dL_next_3 rfl (lv_at hl 2 rfl) ?_
  refine x_kx C w [0, 1] [] rfl rfl (by decide) (by decide) (vx_runV (As := [.int 0, .int v0]) (rest := [.ref h1]) (xfix C) (c482_X4_next l G cy sa sv h0 h2 h3 h4 h5 h6 h7 h8 h9 h10 h11 v0 p0 p1 (xtr C) _) (cwV 2 (xhts C) (xgV (maxL := 0) (cc := ⟨#[]⟩) (ret := none) gw_870 gw_871 gw_872 gw_2 gc_X4_next) rfl rfl rfl (by decide +kernel) ⟨(Nat.le_of_ble_eq_true rfl), (Nat.le_of_ble_eq_true rfl)⟩) (xPV C w [0, 1] rfl (by decide) (ci := 8) (q0 := 0) rfl rfl) rfl rfl hl.1 rfl (lv_room (Nat.le_of_ble_eq_true rfl)) dL_next_4 ⟨(Nat.le_of_ble_eq_true rfl), (Nat.le_of_ble_eq_true rfl)⟩) (fun f3243 H locs ce q9 w hce hcv hcl => ?_)
  have w : xW G A s [(h0, .inr (8, [.ref h3, .ref h4, .ref h5, .ref h6, .ref h2, .int 0, .ref h7, .ref h8])), (h2, .inl (cy 3, 3, .inr (.inr (.inr (.inr (va_up (va_up (va_up (fun _ => none) 0 (some h9)) 1 (some h10)) 2 (some h11)))))))] H _ := w
  refine vx_widen (k := 1) (n := 6) (Nat.le_of_ble_eq_true rfl) (Nat.le_of_ble_eq_true rfl) ?_
  refine vx_catch (xown C) [⟨0, 10, 13, 91⟩] ⟨0, 10, 17, 19⟩ [] hT (fun z hz => Or.inr (by cases List.mem_singleton.mp hz; exact ⟨by decide, "java/lang/IndexOutOfBoundsException", xhts C _ (List.mem_cons_of_mem _ gw_868), xs_n2 (xS C)⟩)) (by decide) (by decide) (xhts C _ (List.mem_cons_of_mem _ gw_104)) (va_any rfl (xs_c1 (xS C))) hce hcv hcl ?_
  refine lv_astore (lv' := [(4, .ref q9), (0, .ref h0), (1, .int 0), (2, .int v0), (3, .ref h1)]) C.1 C.2.1 dL_next_17 hl (by decide) rfl (fun ls hl => ?_)
  refine lv_iconst (v := 2) C.1 C.2.1 dL_next_19 (by decide) ?_
  exact x_iret C w hr (fun _ => 0) rfl rfl dL_next_20 (Nat.le_of_ble_eq_true rfl) (Nat.le_of_ble_eq_true rfl)
set_option maxHeartbeats 4000000 in
set_option maxRecDepth 100000 in
theorem c484_X6_next (l : Launch) (G : va_G) (cy : Nat → ClassId) (sa : String → Nat → Nat) (sv : Nat → Nat) (h0 h1 h2 h3 h4 h5 h6 h7 : Nat) (v0 : Int32) (p0 : ¬ v0 < 1) (p1 : ¬ v0 ≤ 24) : xM l G cy sa sv yX6_next (Cond.code yX6_next cX6_next 6 (some (.object "java/lang/String")) :: XG) { frames := 9, cells := 0, slots := 0, locals := 272 } [.ref h0, .int 0, .int v0] [(h0, .inr (10, [.ref h1, .ref h2, .ref h3, .ref h4, .ref h5, .ref h6, .ref h7, .int 0, .int 0]))] (xQr G (fun f => [(h0, .inr (10, [.ref h1, .ref h2, .ref h3, .ref h4, .ref h5, .ref h6, .ref h7, .int 0, .int 2]))]) (fun f => (sa "TwinindexModel" 122))) := by
  refine xof (by decide) (Nat.le_of_ble_eq_true rfl) (fun p e s m below meth c A C w hr hn ls hl => ?_)
  have hl : lv_has ls 6 [(0, .ref h0), (1, .int 0), (2, .int v0)] := hl
  refine lv_aload_n C.1 C.2.1 dX6_next_0 rfl (lv_at hl 0 rfl) ?_
  refine lv_iload_n C.1 C.2.1 dX6_next_1 rfl (lv_at hl 1 rfl) ?_
  refine x_ki C w [] [0] rfl rfl (by decide) (by decide) (va_runS (As := [.int 0]) (rest := [.ref h0]) (xfix C) (c450_X6_isNoPager l G cy sa sv (xtr C) _) (va_cwS 1 (xhts C) (xgS gw_860 gw_861 gw_58 gc_X6_isNoPager) rfl rfl rfl (by decide +kernel) ⟨(Nat.le_of_ble_eq_true rfl), (Nat.le_of_ble_eq_true rfl)⟩) (xPS C w [] rfl (by decide)) rfl rfl hl.1 rfl (lv_room (Nat.le_of_ble_eq_true rfl)) dX6_next_2 ⟨(Nat.le_of_ble_eq_true rfl), (Nat.le_of_ble_eq_true rfl)⟩) (fun f3246 H locs w => ?_)
  have w : xW G A s [(h0, .inr (10, [.ref h1, .ref h2, .ref h3, .ref h4, .ref h5, .ref h6, .ref h7, .int 0, .int 0]))] H _ := w
  refine lv_iconst (v := 1) C.1 C.2.1 dX6_next_5 (by decide) ?_
  refine x_ki C w [0] [] rfl rfl (by decide) (by decide) (va_runV (As := [.int 0, .int 1]) (rest := []) (xfix C) (c46_X6_start l G cy sa sv h0 h1 h2 h3 h4 h5 h6 h7 (xtr C) _) (cwV 2 (xhts C) (xgV (maxL := 0) (cc := ⟨#[]⟩) (ret := none) gw_114 gw_115 gw_116 gw_58 gc_X6_start) rfl rfl rfl (by decide +kernel) ⟨(Nat.le_of_ble_eq_true rfl), (Nat.le_of_ble_eq_true rfl)⟩) (xPV C w [0] rfl (by decide) (ci := 10) (q0 := 0) rfl rfl) rfl rfl hl.1 rfl (lv_room (Nat.le_of_ble_eq_true rfl)) dX6_next_6 ⟨(Nat.le_of_ble_eq_true rfl), (Nat.le_of_ble_eq_true rfl)⟩) (fun f3247 H locs w => ?_)
  have w : xW G A s [(h0, .inr (10, [.ref h1, .ref h2, .ref h3, .ref h4, .ref h5, .ref h6, .ref h7, .int 0, .int 0]))] H _ := w
  refine lv_if_ne (tgt := 36) C.1 C.2.1 dX6_next_9 (by decide) (fun c9 => absurd (by decide) c9) (fun _ => ?_)
  refine lv_aload_n C.1 C.2.1 dX6_next_12 rfl (lv_at hl 0 rfl) ?_
  refine lv_iload_n C.1 C.2.1 dX6_next_13 rfl (lv_at hl 2 rfl) ?_
  refine lv_iconst (v := 1) C.1 C.2.1 dX6_next_14 (by decide) ?_
  refine lv_icmp_lt (tgt := 24) C.1 C.2.1 dX6_next_15 (by decide) (fun c9 => absurd c9 p0) (fun _ => ?_)
  refine lv_iload_n C.1 C.2.1 dX6_next_18 rfl (lv_at hl 2 rfl) ?_
  refine lv_bipush (v := 24) C.1 C.2.1 dX6_next_19 (by decide) ?_
  refine lv_icmp_le (tgt := 28) C.1 C.2.1 dX6_next_21 (by decide) (fun c9 => absurd c9 p1) (fun _ => ?_)
  refine lv_iconst (v := 1) C.1 C.2.1 dX6_next_24 (by decide) ?_
  refine lv_goto (tgt := 29) C.1 C.2.1 dX6_next_25 (by decide) ?_
  refine lv_iconst (v := 2) C.1 C.2.1 dX6_next_29 (by decide) ?_
  refine x_ki C w [0] [] rfl rfl (by decide) (by decide) (va_runV (As := [.int 1, .int 2]) (rest := []) (xfix C) (c149_X6_fails l G cy sa sv h0 h1 h2 h3 h4 h5 h6 h7 (xtr C) _) (cwV 2 (xhts C) (xgV (maxL := 0) (cc := ⟨#[]⟩) (ret := none) gw_203 gw_204 gw_205 gw_58 gc_X6_fails) rfl rfl rfl (by decide +kernel) ⟨(Nat.le_of_ble_eq_true rfl), (Nat.le_of_ble_eq_true rfl)⟩) (xPV C w [0] rfl (by decide) (ci := 10) (q0 := 0) rfl rfl) rfl rfl hl.1 rfl (lv_room (Nat.le_of_ble_eq_true rfl)) dX6_next_30 ⟨(Nat.le_of_ble_eq_true rfl), (Nat.le_of_ble_eq_true rfl)⟩) (fun f3248 H locs w => ?_)
  have w : xW G A s [(h0, .inr (10, [.ref h1, .ref h2, .ref h3, .ref h4, .ref h5, .ref h6, .ref h7, .int 0, .int 2]))] H _ := w
  refine lv_if_eq (tgt := 39) C.1 C.2.1 dX6_next_33 (by decide) (fun c9 => absurd c9 (by decide)) (fun _ => ?_)
  refine x_ldcS C (tx := "") (List.mem_of_getElem? (i := 11) rfl) dX6_next_36 ?_
  exact x_aret C w hr (Or.inl ⟨_, rfl⟩) (fun _ => 0) rfl rfl dX6_next_38 (Nat.le_of_ble_eq_true rfl) (Nat.le_of_ble_eq_true rfl)
