set_option maxHeartbeats 4000000 in
set_option maxRecDepth 100000 in
theorem c485_X4_next (l : Launch) (G : va_G) (cy : Nat → ClassId) (sa : String → Nat → Nat) (sv : Nat → Nat) (h0 h1 h2 h3 h4 h5 h6 h7 h8 h9 h10 : Nat) (v0 : Int32) (p0 : v0 < 1) : xX l G cy sa sv yX4_next (Cond.code yX4_next cX4_next 7 (some (.object "java/lang/String")) :: XG) { frames := 9, cells := 1, slots := 6, locals := 271 } [.ref h0, .int 1, .int v0] [(h0, .inr (8, [.ref h2, .ref h3, .ref h4, .ref h5, .ref h1, .int 0, .ref h6, .ref h7])), (h1, .inl (cy 3, 3, .inr (.inr (.inr (.inr (va_up (va_up (va_up (fun _ => none) 0 (some h8)) 1 (some h9)) 2 (some h10)))))))] (fun f => [(h0, .inr (8, [.ref h2, .ref h3, .ref h4, .ref h5, .ref h1, .int 0, .ref h6, .ref h7])), (h1, .inl (cy 3, 3, .inr (.inr (.inr (.inr (va_up (va_up (va_up (fun _ => none) 0 (some h8)) 1 (some h9)) 2 (some h10)))))))]) "java/lang/IllegalArgumentException" := by
  refine xofX (by decide) (Nat.le_of_ble_eq_true rfl) (fun p e s m below meth c A C w hno ls hl => ?_)
  have hl : lv_has ls 7 [(0, .ref h0), (1, .int 1), (2, .int v0)] := hl
  refine lv_aload_n C.1 C.2.1 dX4_next_0 rfl (lv_at hl 0 rfl) ?_
  refine lv_iload_n C.1 C.2.1 dX4_next_1 rfl (lv_at hl 1 rfl) ?_
  refine x_kr C w [0, 1] [] rfl rfl (by decide) (by decide) (va_runV (As := [.int 1]) (rest := []) (xfix C) (c452_X4_pagerOf l G cy sa sv h0 h1 h2 h3 h4 h5 h6 h7 h8 h9 h10 (xtr C) _) (cwV 1 (xhts C) (xgV (maxL := 0) (cc := ⟨#[]⟩) (ret := none) gw_842 gw_843 gw_844 gw_2 gc_X4_pagerOf) rfl rfl rfl (by decide +kernel) ⟨(Nat.le_of_ble_eq_true rfl), (Nat.le_of_ble_eq_true rfl)⟩) (xPV C w [0, 1] rfl (by decide) (ci := 8) (q0 := 0) rfl rfl) rfl rfl hl.1 rfl (lv_room (Nat.le_of_ble_eq_true rfl)) dX4_next_2 ⟨(Nat.le_of_ble_eq_true rfl), (Nat.le_of_ble_eq_true rfl)⟩) (fun f3255 H locs w => ?_)
  have w : xW G A s [(h0, .inr (8, [.ref h2, .ref h3, .ref h4, .ref h5, .ref h1, .int 0, .ref h6, .ref h7])), (h1, .inl (cy 3, 3, .inr (.inr (.inr (.inr (va_up (va_up (va_up (fun _ => none) 0 (some h8)) 1 (some h9)) 2 (some h10)))))))] H _ := w
  refine lv_astore_n (lv' := [(3, .ref h9), (0, .ref h0), (1, .int 1), (2, .int v0)]) C.1 C.2.1 dX4_next_5 rfl hl (by decide) rfl (fun ls hl => ?_)
  refine lv_iload_n C.1 C.2.1 dX4_next_6 rfl (lv_at hl 3 rfl) ?_
  refine lv_iconst (v := 1) C.1 C.2.1 dX4_next_7 (by decide) ?_
  refine lv_icmp_lt (tgt := 17) C.1 C.2.1 dX4_next_8 (by decide) (fun _ => ?_) (fun c9 => absurd p0 c9)
  exact x_thr C w hno hl.1 (by decide) (List.mem_cons_of_mem _ gw_95) (List.mem_cons_of_mem _ gw_96) (tx := "many is not 1 to 24") (List.mem_of_getElem? (i := 4) rfl) (xat_203 C (fun w h => List.mem_cons_of_mem _ h)) xatg_203 dX4_next_17 dX4_next_20 dX4_next_21 dX4_next_23 dX4_next_26 (Nat.le_of_ble_eq_true rfl) (Nat.le_of_ble_eq_true rfl) (Nat.le_of_ble_eq_true rfl) (Nat.le_of_ble_eq_true rfl) rfl rfl (fun _ => 0) rfl
set_option maxHeartbeats 4000000 in
set_option maxRecDepth 100000 in
theorem c486_L_next (l : Launch) (G : va_G) (cy : Nat → ClassId) (sa : String → Nat → Nat) (sv : Nat → Nat) (h0 h1 h2 h3 h4 h5 h6 h7 h8 h9 h10 h11 : Nat) (v0 : Int32) (p0 : v0 < 1) : xM l G cy sa sv yL_next (Cond.codeWith yL_next cL_next 5 (some .int) [(0, 10, 13, 91), (0, 10, 17, 19)] :: XG) { frames := 10, cells := 1, slots := 6, locals := 297 } [.ref h0, .int 1, .int v0, .ref h1] [(h0, .inr (8, [.ref h3, .ref h4, .ref h5, .ref h6, .ref h2, .int 0, .ref h7, .ref h8])), (h2, .inl (cy 3, 3, .inr (.inr (.inr (.inr (va_up (va_up (va_up (fun _ => none) 0 (some h9)) 1 (some h10)) 2 (some h11)))))))] (xQi G (fun f => [(h0, .inr (8, [.ref h3, .ref h4, .ref h5, .ref h6, .ref h2, .int 0, .ref h7, .ref h8])), (h2, .inl (cy 3, 3, .inr (.inr (.inr (.inr (va_up (va_up (va_up (fun _ => none) 0 (some h9)) 1 (some h10)) 2 (some h11)))))))]) 2) := by
  refine xofH (by decide) (Nat.le_of_ble_eq_true rfl) (fun p e s m below meth c A C w hr hn hT ls hl => ?_)
  have hl : lv_has ls 5 [(0, .ref h0), (1, .int 1), (2, .int v0), (3, .ref h1)] := hl
  refine lv_aload_n C.1 C.2.1 dL_next_0 rfl (lv_at hl 3 rfl) ?_
  refine lv_aload_n C.1 C.2.1 dL_next_1 rfl (lv_at hl 0 rfl) ?_
  refine lv_iload_n C.1 C.2.1 dL_next_2 rfl (lv_at hl 1 rfl) ?_
  refine lv_iload_n C.1 C.2.1 dL_next_3 rfl (lv_at hl 2 rfl) ?_
  refine x_kx C w [0, 1] [] rfl rfl (by decide) (by decide) (vx_runV (As := [.int 1, .int v0]) (rest := [.ref h1]) (xfix C) (c485_X4_next l G cy sa sv h0 h2 h3 h4 h5 h6 h7 h8 h9 h10 h11 v0 p0 (xtr C) _) (cwV 2 (xhts C) (xgV (maxL := 0) (cc := ⟨#[]⟩) (ret := none) gw_870 gw_871 gw_872 gw_2 gc_X4_next) rfl rfl rfl (by decide +kernel) ⟨(Nat.le_of_ble_eq_true rfl), (Nat.le_of_ble_eq_true rfl)⟩) (xPV C w [0, 1] rfl (by decide) (ci := 8) (q0 := 0) rfl rfl) rfl rfl hl.1 rfl (lv_room (Nat.le_of_ble_eq_true rfl)) dL_next_4 ⟨(Nat.le_of_ble_eq_true rfl), (Nat.le_of_ble_eq_true rfl)⟩) (fun f3256 H locs ce q9 w hce hcv hcl => ?_)
  have w : xW G A s [(h0, .inr (8, [.ref h3, .ref h4, .ref h5, .ref h6, .ref h2, .int 0, .ref h7, .ref h8])), (h2, .inl (cy 3, 3, .inr (.inr (.inr (.inr (va_up (va_up (va_up (fun _ => none) 0 (some h9)) 1 (some h10)) 2 (some h11)))))))] H _ := w
  refine vx_widen (k := 1) (n := 6) (Nat.le_of_ble_eq_true rfl) (Nat.le_of_ble_eq_true rfl) ?_
  refine vx_catch (xown C) [⟨0, 10, 13, 91⟩] ⟨0, 10, 17, 19⟩ [] hT (fun z hz => Or.inr (by cases List.mem_singleton.mp hz; exact ⟨by decide, "java/lang/IndexOutOfBoundsException", xhts C _ (List.mem_cons_of_mem _ gw_868), xs_n2 (xS C)⟩)) (by decide) (by decide) (xhts C _ (List.mem_cons_of_mem _ gw_104)) (va_any rfl (xs_c1 (xS C))) hce hcv hcl ?_
  refine lv_astore (lv' := [(4, .ref q9), (0, .ref h0), (1, .int 1), (2, .int v0), (3, .ref h1)]) C.1 C.2.1 dL_next_17 hl (by decide) rfl (fun ls hl => ?_)
  refine lv_iconst (v := 2) C.1 C.2.1 dL_next_19 (by decide) ?_
  exact x_iret C w hr (fun _ => 0) rfl rfl dL_next_20 (Nat.le_of_ble_eq_true rfl) (Nat.le_of_ble_eq_true rfl)
set_option maxHeartbeats 4000000 in
set_option maxRecDepth 100000 in
theorem c487_X6_next (l : Launch) (G : va_G) (cy : Nat → ClassId) (sa : String → Nat → Nat) (sv : Nat → Nat) (h0 h1 h2 h3 h4 h5 h6 h7 : Nat) (v0 : Int32) (p0 : v0 < 1) : xM l G cy sa sv yX6_next (Cond.code yX6_next cX6_next 6 (some (.object "java/lang/String")) :: XG) { frames := 9, cells := 0, slots := 0, locals := 272 } [.ref h0, .int 1, .int v0] [(h0, .inr (10, [.ref h1, .ref h2, .ref h3, .ref h4, .ref h5, .ref h6, .ref h7, .int 0, .int 0]))] (xQr G (fun f => [(h0, .inr (10, [.ref h1, .ref h2, .ref h3, .ref h4, .ref h5, .ref h6, .ref h7, .int 0, .int 2]))]) (fun f => (sa "TwinindexModel" 122))) := by
  refine xof (by decide) (Nat.le_of_ble_eq_true rfl) (fun p e s m below meth c A C w hr hn ls hl => ?_)
  have hl : lv_has ls 6 [(0, .ref h0), (1, .int 1), (2, .int v0)] := hl
  refine lv_aload_n C.1 C.2.1 dX6_next_0 rfl (lv_at hl 0 rfl) ?_
  refine lv_iload_n C.1 C.2.1 dX6_next_1 rfl (lv_at hl 1 rfl) ?_
  refine x_ki C w [] [0] rfl rfl (by decide) (by decide) (va_runS (As := [.int 1]) (rest := [.ref h0]) (xfix C) (c455_X6_isNoPager l G cy sa sv (xtr C) _) (va_cwS 1 (xhts C) (xgS gw_860 gw_861 gw_58 gc_X6_isNoPager) rfl rfl rfl (by decide +kernel) ⟨(Nat.le_of_ble_eq_true rfl), (Nat.le_of_ble_eq_true rfl)⟩) (xPS C w [] rfl (by decide)) rfl rfl hl.1 rfl (lv_room (Nat.le_of_ble_eq_true rfl)) dX6_next_2 ⟨(Nat.le_of_ble_eq_true rfl), (Nat.le_of_ble_eq_true rfl)⟩) (fun f3259 H locs w => ?_)
  have w : xW G A s [(h0, .inr (10, [.ref h1, .ref h2, .ref h3, .ref h4, .ref h5, .ref h6, .ref h7, .int 0, .int 0]))] H _ := w
  refine lv_iconst (v := 1) C.1 C.2.1 dX6_next_5 (by decide) ?_
  refine x_ki C w [0] [] rfl rfl (by decide) (by decide) (va_runV (As := [.int 0, .int 1]) (rest := []) (xfix C) (c46_X6_start l G cy sa sv h0 h1 h2 h3 h4 h5 h6 h7 (xtr C) _) (cwV 2 (xhts C) (xgV (maxL := 0) (cc := ⟨#[]⟩) (ret := none) gw_114 gw_115 gw_116 gw_58 gc_X6_start) rfl rfl rfl (by decide +kernel) ⟨(Nat.le_of_ble_eq_true rfl), (Nat.le_of_ble_eq_true rfl)⟩) (xPV C w [0] rfl (by decide) (ci := 10) (q0 := 0) rfl rfl) rfl rfl hl.1 rfl (lv_room (Nat.le_of_ble_eq_true rfl)) dX6_next_6 ⟨(Nat.le_of_ble_eq_true rfl), (Nat.le_of_ble_eq_true rfl)⟩) (fun f3260 H locs w => ?_)
  have w : xW G A s [(h0, .inr (10, [.ref h1, .ref h2, .ref h3, .ref h4, .ref h5, .ref h6, .ref h7, .int 0, .int 0]))] H _ := w
  refine lv_if_ne (tgt := 36) C.1 C.2.1 dX6_next_9 (by decide) (fun c9 => absurd (by decide) c9) (fun _ => ?_)
  refine lv_aload_n C.1 C.2.1 dX6_next_12 rfl (lv_at hl 0 rfl) ?_
  refine lv_iload_n C.1 C.2.1 dX6_next_13 rfl (lv_at hl 2 rfl) ?_
  refine lv_iconst (v := 1) C.1 C.2.1 dX6_next_14 (by decide) ?_
  refine lv_icmp_lt (tgt := 24) C.1 C.2.1 dX6_next_15 (by decide) (fun _ => ?_) (fun c9 => absurd p0 c9)
  refine lv_iconst (v := 1) C.1 C.2.1 dX6_next_24 (by decide) ?_
  refine lv_goto (tgt := 29) C.1 C.2.1 dX6_next_25 (by decide) ?_
  refine lv_iconst (v := 2) C.1 C.2.1 dX6_next_29 (by decide) ?_
  refine x_ki C w [0] [] rfl rfl (by decide) (by decide) (va_runV (As := [.int 1, .int 2]) (rest := []) (xfix C) (c149_X6_fails l G cy sa sv h0 h1 h2 h3 h4 h5 h6 h7 (xtr C) _) (cwV 2 (xhts C) (xgV (maxL := 0) (cc := ⟨#[]⟩) (ret := none) gw_203 gw_204 gw_205 gw_58 gc_X6_fails) rfl rfl rfl (by decide +kernel) ⟨(Nat.le_of_ble_eq_true rfl), (Nat.le_of_ble_eq_true rfl)⟩) (xPV C w [0] rfl (by decide) (ci := 10) (q0 := 0) rfl rfl) rfl rfl hl.1 rfl (lv_room (Nat.le_of_ble_eq_true rfl)) dX6_next_30 ⟨(Nat.le_of_ble_eq_true rfl), (Nat.le_of_ble_eq_true rfl)⟩) (fun f3261 H locs w => ?_)
  have w : xW G A s [(h0, .inr (10, [.ref h1, .ref h2, .ref h3, .ref h4, .ref h5, .ref h6, .ref h7, .int 0, .int 2]))] H _ := w
  refine lv_if_eq (tgt := 39) C.1 C.2.1 dX6_next_33 (by decide) (fun c9 => absurd c9 (by decide)) (fun _ => ?_)
  refine x_ldcS C (tx := "") (List.mem_of_getElem? (i := 11) rfl) dX6_next_36 ?_
  exact x_aret C w hr (Or.inl ⟨_, rfl⟩) (fun _ => 0) rfl rfl dX6_next_38 (Nat.le_of_ble_eq_true rfl) (Nat.le_of_ble_eq_true rfl)
set_option maxHeartbeats 4000000 in
set_option maxRecDepth 100000 in
theorem c488_X4_next (l : Launch) (G : va_G) (cy : Nat → ClassId) (sa : String → Nat → Nat) (sv : Nat → Nat) (h0 h1 h2 h3 h4 h5 h6 h7 h8 h9 h10 h11 h12 h13 h14 : Nat) (v0 : Int32) (p0 : ¬ v0 < 1) (p1 : v0 ≤ 24) (p2 : 0 < (0 + v0)) : xM l G cy sa sv yX4_next (Cond.code yX4_next cX4_next 7 (some (.object "java/lang/String")) :: XG) { frames := 15, cells := 4, slots := 24, locals := 404 } [.ref h0, .int 1, .int v0] [(h0, .inr (8, [.ref h3, .ref h6, .ref h7, .ref h8, .ref h1, .int 0, .ref h5, .ref h9])), (h1, .inl (cy 3, 3, .inr (.inr (.inr (.inr (va_up (va_up (va_up (fun _ => none) 0 (some h10)) 1 (some h2)) 2 (some h11))))))), (h2, .inr (4, [.int 0, .int 0, .int 0])), (h3, .inr (7, [.ref h4, .ref h12])), (h4, .inr (6, [.ref h13, .int 0])), (h5, .inr (6, [.ref h14, .int 0]))] (xQr G (fun f => [(h0, .inr (8, [.ref h3, .ref h6, .ref h7, .ref h8, .ref h1, .int 0, .ref h5, .ref h9])), (h1, .inl (cy 3, 3, .inr (.inr (.inr (.inr (va_up (va_up (va_up (fun _ => none) 0 (some h10)) 1 (some h2)) 2 (some h11))))))), (h2, .inr (4, [.int 0, .int 0, .int 0])), (h3, .inr (7, [.ref h4, .ref h12])), (h4, .inr (6, [.ref h13, .int 0])), (h5, .inr (6, [.ref h14, .int 0])), ((f 0), .inr (0, [.ref (f 1), .int 0, .int 0, .int 0])), ((f 1), .inl (cy 0, 0, .inl (va_cpy (fun _ => 0) (fun _ => 0) 0 0 0)))]) (fun f => (f 0))) := by
  refine xof (by decide) (Nat.le_of_ble_eq_true rfl) (fun p e s m below meth c A C w hr hn ls hl => ?_)
  have hl : lv_has ls 7 [(0, .ref h0), (1, .int 1), (2, .int v0)] := hl
  refine lv_aload_n C.1 C.2.1 dX4_next_0 rfl (lv_at hl 0 rfl) ?_
  refine lv_iload_n C.1 C.2.1 dX4_next_1 rfl (lv_at hl 1 rfl) ?_
  refine x_kr C w [0, 1] [2, 3, 4, 5] rfl rfl (by decide) (by decide) (va_runV (As := [.int 1]) (rest := []) (xfix C) (c452_X4_pagerOf l G cy sa sv h0 h1 h3 h6 h7 h8 h5 h9 h10 h2 h11 (xtr C) _) (cwV 1 (xhts C) (xgV (maxL := 0) (cc := ⟨#[]⟩) (ret := none) gw_842 gw_843 gw_844 gw_2 gc_X4_pagerOf) rfl rfl rfl (by decide +kernel) ⟨(Nat.le_of_ble_eq_true rfl), (Nat.le_of_ble_eq_true rfl)⟩) (xPV C w [0, 1] rfl (by decide) (ci := 8) (q0 := 0) rfl rfl) rfl rfl hl.1 rfl (lv_room (Nat.le_of_ble_eq_true rfl)) dX4_next_2 ⟨(Nat.le_of_ble_eq_true rfl), (Nat.le_of_ble_eq_true rfl)⟩) (fun f3316 H locs w => ?_)
  have w : xW G A s [(h2, .inr (4, [.int 0, .int 0, .int 0])), (h3, .inr (7, [.ref h4, .ref h12])), (h4, .inr (6, [.ref h13, .int 0])), (h5, .inr (6, [.ref h14, .int 0])), (h0, .inr (8, [.ref h3, .ref h6, .ref h7, .ref h8, .ref h1, .int 0, .ref h5, .ref h9])), (h1, .inl (cy 3, 3, .inr (.inr (.inr (.inr (va_up (va_up (va_up (fun _ => none) 0 (some h10)) 1 (some h2)) 2 (some h11)))))))] H _ := w
  refine lv_astore_n (lv' := [(3, .ref h2), (0, .ref h0), (1, .int 1), (2, .int v0)]) C.1 C.2.1 dX4_next_5 rfl hl (by decide) rfl (fun ls hl => ?_)
  refine lv_iload_n C.1 C.2.1 dX4_next_6 rfl (lv_at hl 3 rfl) ?_
  refine lv_iconst (v := 1) C.1 C.2.1 dX4_next_7 (by decide) ?_
  refine lv_icmp_lt (tgt := 17) C.1 C.2.1 dX4_next_8 (by decide) (fun c9 => absurd c9 p0) (fun _ => ?_)
  refine lv_iload_n C.1 C.2.1 dX4_next_11 rfl (lv_at hl 3 rfl) ?_
  refine lv_bipush (v := 24) C.1 C.2.1 dX4_next_12 (by decide) ?_
  refine lv_icmp_le (tgt := 27) C.1 C.2.1 dX4_next_14 (by decide) (fun _ => ?_) (fun c9 => absurd p1 c9)
  refine lv_aload_n C.1 C.2.1 dX4_next_27 rfl (lv_at hl 0 rfl) ?_
  refine lv_aload_n C.1 C.2.1 dX4_next_28 rfl (lv_at hl 1 rfl) ?_
  refine x_get (v := .ref h3) C w 4 8 0 (xin_X4 _) rfl rfl (by decide) (List.mem_cons_of_mem _ gw_24) rfl rfl dX4_next_29 ?_
  refine x_ki C w [0] [1, 2, 3, 4, 5] rfl rfl (by decide) (by decide) (va_runV (As := [.ref h3]) (rest := []) (xfix C) (c475_X0_startIn l G cy sa sv h2 h3 (xtr C) _) (cwV 1 (xhts C) (xgV (maxL := 0) (cc := ⟨#[]⟩) (ret := none) gw_881 gw_882 gw_883 gw_46 gc_X0_startIn) rfl rfl rfl (by decide +kernel) ⟨(Nat.le_of_ble_eq_true rfl), (Nat.le_of_ble_eq_true rfl)⟩) (xPV C w [0] rfl (by decide) (ci := 4) (q0 := 0) rfl rfl) rfl rfl hl.1 rfl (lv_room (Nat.le_of_ble_eq_true rfl)) dX4_next_32 ⟨(Nat.le_of_ble_eq_true rfl), (Nat.le_of_ble_eq_true rfl)⟩) (fun f3317 H locs w => ?_)
  have w : xW G A s [(h3, .inr (7, [.ref h4, .ref h12])), (h4, .inr (6, [.ref h13, .int 0])), (h5, .inr (6, [.ref h14, .int 0])), (h0, .inr (8, [.ref h3, .ref h6, .ref h7, .ref h8, .ref h1, .int 0, .ref h5, .ref h9])), (h1, .inl (cy 3, 3, .inr (.inr (.inr (.inr (va_up (va_up (va_up (fun _ => none) 0 (some h10)) 1 (some h2)) 2 (some h11))))))), (h2, .inr (4, [.int 0, .int 0, .int 0]))] H _ := w
  refine lv_istore (lv' := [(4, .int 0), (3, .ref h2), (0, .ref h0), (1, .int 1), (2, .int v0)]) C.1 C.2.1 dX4_next_35 hl (by decide) rfl (fun ls hl => ?_)
  refine lv_iload C.1 C.2.1 dX4_next_37 (lv_at hl 0 rfl) ?_
  refine lv_iload_n C.1 C.2.1 dX4_next_39 rfl (lv_at hl 4 rfl) ?_
  refine lv_iadd C.1 C.2.1 dX4_next_40 ?_
  refine lv_aload_n C.1 C.2.1 dX4_next_41 rfl (lv_at hl 2 rfl) ?_
  refine x_get (v := .ref h3) C w 3 8 0 (xin_X4 _) rfl rfl (by decide) (List.mem_cons_of_mem _ gw_24) rfl rfl dX4_next_42 ?_
  refine x_ki C w [0, 1] [2, 3, 4, 5] rfl rfl (by decide) (by decide) (va_runV (As := []) (rest := [.int (0 + v0)]) (xfix C) (c22_X3_count l G cy sa sv h3 h4 h12 h13 (xtr C) _) (cwV 0 (xhts C) (xgV (maxL := 0) (cc := ⟨#[]⟩) (ret := none) gw_130 gw_131 gw_132 gw_7 gc_X3_count) rfl rfl rfl (by decide +kernel) ⟨(Nat.le_of_ble_eq_true rfl), (Nat.le_of_ble_eq_true rfl)⟩) (xPV C w [0, 1] rfl (by decide) (ci := 7) (q0 := 0) rfl rfl) rfl rfl hl.1 rfl (lv_room (Nat.le_of_ble_eq_true rfl)) dX4_next_45 ⟨(Nat.le_of_ble_eq_true rfl), (Nat.le_of_ble_eq_true rfl)⟩) (fun f3319 H locs w => ?_)
  have w : xW G A s [(h5, .inr (6, [.ref h14, .int 0])), (h0, .inr (8, [.ref h3, .ref h6, .ref h7, .ref h8, .ref h1, .int 0, .ref h5, .ref h9])), (h1, .inl (cy 3, 3, .inr (.inr (.inr (.inr (va_up (va_up (va_up (fun _ => none) 0 (some h10)) 1 (some h2)) 2 (some h11))))))), (h2, .inr (4, [.int 0, .int 0, .int 0])), (h3, .inr (7, [.ref h4, .ref h12])), (h4, .inr (6, [.ref h13, .int 0]))] H _ := w
  refine va_mmin C.1 C.2.1 (C.2.2.1.trans hl.1.symm) (xown C) (xhts C _ (List.mem_cons_of_mem _ gw_884)) (xhts C _ (List.mem_cons_of_mem _ gw_420)) (xhts C _ (List.mem_cons_of_mem _ gw_217)) (xhts C _ (List.mem_cons_of_mem _ gm_min)) (Nat.le_of_ble_eq_true rfl) (Nat.le_of_ble_eq_true rfl) (Nat.le_of_ble_eq_true rfl) (Nat.le_of_ble_eq_true rfl) dX4_next_48 ?_
  refine x_is (y := 0) (if_pos p2) ?_
  refine lv_istore (lv' := [(5, .int 0), (4, .int 0), (3, .ref h2), (0, .ref h0), (1, .int 1), (2, .int v0)]) C.1 C.2.1 dX4_next_51 hl (by decide) rfl (fun ls hl => ?_)
  refine lv_aload_n C.1 C.2.1 dX4_next_53 rfl (lv_at hl 3 rfl) ?_
  refine x_get (v := .ref h5) C w 1 8 6 (xin_X4 _) rfl rfl (by decide) (List.mem_cons_of_mem _ gw_51) rfl rfl dX4_next_54 ?_
  refine x_kv C w [0] [1, 2, 3, 4, 5] rfl rfl (by decide) (by decide) (va_runV (As := []) (rest := []) (xfix C) (c109_X2_empty l G cy sa sv h5 h14 (xtr C) _) (cwV 0 (xhts C) (xgV (maxL := 0) (cc := ⟨#[]⟩) (ret := none) gw_312 gw_313 gw_314 gw_11 gc_X2_empty) rfl rfl rfl (by decide +kernel) ⟨(Nat.le_of_ble_eq_true rfl), (Nat.le_of_ble_eq_true rfl)⟩) (xPV C w [0] rfl (by decide) (ci := 6) (q0 := 0) rfl rfl) rfl rfl hl.1 rfl (lv_room (Nat.le_of_ble_eq_true rfl)) dX4_next_57 ⟨(Nat.le_of_ble_eq_true rfl), (Nat.le_of_ble_eq_true rfl)⟩) (fun f3320 H locs w => ?_)
  have w : xW G A s [(h0, .inr (8, [.ref h3, .ref h6, .ref h7, .ref h8, .ref h1, .int 0, .ref h5, .ref h9])), (h1, .inl (cy 3, 3, .inr (.inr (.inr (.inr (va_up (va_up (va_up (fun _ => none) 0 (some h10)) 1 (some h2)) 2 (some h11))))))), (h2, .inr (4, [.int 0, .int 0, .int 0])), (h3, .inr (7, [.ref h4, .ref h12])), (h4, .inr (6, [.ref h13, .int 0])), (h5, .inr (6, [.ref h14, .int 0]))] H _ := w
  refine lv_iload C.1 C.2.1 dX4_next_60 (lv_at hl 1 rfl) ?_
  refine lv_istore (lv' := [(6, .int 0), (5, .int 0), (4, .int 0), (3, .ref h2), (0, .ref h0), (1, .int 1), (2, .int v0)]) C.1 C.2.1 dX4_next_62 hl (by decide) rfl (fun ls hl => ?_)
  refine lv_iload C.1 C.2.1 dX4_next_64 (lv_at hl 0 rfl) ?_
  refine lv_iload C.1 C.2.1 dX4_next_66 (lv_at hl 1 rfl) ?_
  refine lv_icmp_ge (tgt := 106) C.1 C.2.1 dX4_next_68 (by decide) (fun _ => ?_) (fun c9 => absurd (by decide) c9)
  refine lv_aload_n C.1 C.2.1 dX4_next_106 rfl (lv_at hl 4 rfl) ?_
  refine x_get (v := .ref h5) C w 0 8 6 (xin_X4 _) rfl rfl (by decide) (List.mem_cons_of_mem _ gw_51) rfl rfl dX4_next_107 ?_
  refine x_kr C w [5] [0, 1, 2, 3, 4] rfl rfl (by decide) (by decide) (va_runV (As := []) (rest := []) (xfix C) (c228_X2_joined l G cy sa sv h5 h14 (xtr C) _) (cwV 0 (xhts C) (xgV (maxL := 0) (cc := ⟨#[]⟩) (ret := none) gw_542 gw_543 gw_544 gw_11 gc_X2_joined) rfl rfl rfl (by decide +kernel) ⟨(Nat.le_of_ble_eq_true rfl), (Nat.le_of_ble_eq_true rfl)⟩) (xPV C w [5] rfl (by decide) (ci := 6) (q0 := 5) rfl rfl) rfl rfl hl.1 rfl (lv_room (Nat.le_of_ble_eq_true rfl)) dX4_next_110 ⟨(Nat.le_of_ble_eq_true rfl), (Nat.le_of_ble_eq_true rfl)⟩) (fun f3371 H locs w => ?_)
  have w : xW G A s [(h0, .inr (8, [.ref h3, .ref h6, .ref h7, .ref h8, .ref h1, .int 0, .ref h5, .ref h9])), (h1, .inl (cy 3, 3, .inr (.inr (.inr (.inr (va_up (va_up (va_up (fun _ => none) 0 (some h10)) 1 (some h2)) 2 (some h11))))))), (h2, .inr (4, [.int 0, .int 0, .int 0])), (h3, .inr (7, [.ref h4, .ref h12])), (h4, .inr (6, [.ref h13, .int 0])), (h5, .inr (6, [.ref h14, .int 0])), ((f3371 0), .inr (0, [.ref (f3371 1), .int 0, .int 0, .int 0])), ((f3371 1), .inl (cy 0, 0, .inl (va_cpy (fun _ => 0) (fun _ => 0) 0 0 0)))] H _ := w
  refine W.widen (k := 4) (n := 24) (Nat.le_of_ble_eq_true rfl) (Nat.le_of_ble_eq_true rfl) ?_
  exact x_aret C w hr (Or.inl ⟨_, rfl⟩) (fun k => match k with | 0 => (f3371 0) | 1 => (f3371 1) | _ => 0) rfl rfl dX4_next_113 (Nat.le_of_ble_eq_true rfl) (Nat.le_of_ble_eq_true rfl)
set_option maxHeartbeats 4000000 in
set_option maxRecDepth 100000 in
theorem c489_L_next (l : Launch) (G : va_G) (cy : Nat → ClassId) (sa : String → Nat → Nat) (sv : Nat → Nat) (h0 h1 h2 h3 h4 h5 h6 h7 h8 h9 h10 h11 h12 h13 h14 h15 : Nat) (v0 : Int32) (p0 : ¬ v0 < 1) (p1 : v0 ≤ 24) (p2 : 0 < (0 + v0)) : xM l G cy sa sv yL_next (Cond.codeWith yL_next cL_next 5 (some .int) [(0, 10, 13, 91), (0, 10, 17, 19)] :: XG) { frames := 16, cells := 4, slots := 24, locals := 430 } [.ref h0, .int 1, .int v0, .ref h1] [(h0, .inr (8, [.ref h4, .ref h7, .ref h8, .ref h9, .ref h2, .int 0, .ref h6, .ref h10])), (h2, .inl (cy 3, 3, .inr (.inr (.inr (.inr (va_up (va_up (va_up (fun _ => none) 0 (some h11)) 1 (some h3)) 2 (some h12))))))), (h3, .inr (4, [.int 0, .int 0, .int 0])), (h4, .inr (7, [.ref h5, .ref h13])), (h5, .inr (6, [.ref h14, .int 0])), (h6, .inr (6, [.ref h15, .int 0])), (h1, .inr (9, [.long 0, .null]))] (xQi G (fun f => [(h0, .inr (8, [.ref h4, .ref h7, .ref h8, .ref h9, .ref h2, .int 0, .ref h6, .ref h10])), (h2, .inl (cy 3, 3, .inr (.inr (.inr (.inr (va_up (va_up (va_up (fun _ => none) 0 (some h11)) 1 (some h3)) 2 (some h12))))))), (h3, .inr (4, [.int 0, .int 0, .int 0])), (h4, .inr (7, [.ref h5, .ref h13])), (h5, .inr (6, [.ref h14, .int 0])), (h6, .inr (6, [.ref h15, .int 0])), (h1, .inr (9, [.long 0, .ref (f 0)])), ((f 0), .inr (0, [.ref (f 1), .int 0, .int 0, .int 0])), ((f 1), .inl (cy 0, 0, .inl (va_cpy (fun _ => 0) (fun _ => 0) 0 0 0)))]) 0) := by
  refine xofH (by decide) (Nat.le_of_ble_eq_true rfl) (fun p e s m below meth c A C w hr hn hT ls hl => ?_)
  have hl : lv_has ls 5 [(0, .ref h0), (1, .int 1), (2, .int v0), (3, .ref h1)] := hl
  refine lv_aload_n C.1 C.2.1 dL_next_0 rfl (lv_at hl 3 rfl) ?_
  refine lv_aload_n C.1 C.2.1 dL_next_1 rfl (lv_at hl 0 rfl) ?_
  refine lv_iload_n C.1 C.2.1 dL_next_2 rfl (lv_at hl 1 rfl) ?_
  refine lv_iload_n C.1 C.2.1 dL_next_3 rfl (lv_at hl 2 rfl) ?_
  refine x_kr C w [0, 1, 2, 3, 4, 5] [6] rfl rfl (by decide) (by decide) (va_runV (As := [.int 1, .int v0]) (rest := [.ref h1]) (xfix C) (c488_X4_next l G cy sa sv h0 h2 h3 h4 h5 h6 h7 h8 h9 h10 h11 h12 h13 h14 h15 v0 p0 p1 p2 (xtr C) _) (cwV 2 (xhts C) (xgV (maxL := 0) (cc := ⟨#[]⟩) (ret := none) gw_870 gw_871 gw_872 gw_2 gc_X4_next) rfl rfl rfl (by decide +kernel) ⟨(Nat.le_of_ble_eq_true rfl), (Nat.le_of_ble_eq_true rfl)⟩) (xPV C w [0, 1, 2, 3, 4, 5] rfl (by decide) (ci := 8) (q0 := 0) rfl rfl) rfl rfl hl.1 rfl (lv_room (Nat.le_of_ble_eq_true rfl)) dL_next_4 ⟨(Nat.le_of_ble_eq_true rfl), (Nat.le_of_ble_eq_true rfl)⟩) (fun f3374 H locs w => ?_)
  have w : xW G A s [(h1, .inr (9, [.long 0, .null])), (h0, .inr (8, [.ref h4, .ref h7, .ref h8, .ref h9, .ref h2, .int 0, .ref h6, .ref h10])), (h2, .inl (cy 3, 3, .inr (.inr (.inr (.inr (va_up (va_up (va_up (fun _ => none) 0 (some h11)) 1 (some h3)) 2 (some h12))))))), (h3, .inr (4, [.int 0, .int 0, .int 0])), (h4, .inr (7, [.ref h5, .ref h13])), (h5, .inr (6, [.ref h14, .int 0])), (h6, .inr (6, [.ref h15, .int 0])), ((f3374 0), .inr (0, [.ref (f3374 1), .int 0, .int 0, .int 0])), ((f3374 1), .inl (cy 0, 0, .inl (va_cpy (fun _ => 0) (fun _ => 0) 0 0 0)))] H _ := w
  refine W.widen (k := 4) (n := 24) (Nat.le_of_ble_eq_true rfl) (Nat.le_of_ble_eq_true rfl) ?_
  refine x_putN (ty := (.object "java/lang/String")) (ty0 := tyX5) C w 0 9 1 (xin_X5 _) tyX5_ok nmX5 rfl rfl (by decide) (xs_f_s (xS C)) rfl rfl (by decide +kernel) rfl rfl (Nat.le_of_ble_eq_true rfl) dL_next_7 (fun H locs w => ?_)
  have w : xW G A s [(h1, .inr (9, [.long 0, .ref (f3374 0)])), (h0, .inr (8, [.ref h4, .ref h7, .ref h8, .ref h9, .ref h2, .int 0, .ref h6, .ref h10])), (h2, .inl (cy 3, 3, .inr (.inr (.inr (.inr (va_up (va_up (va_up (fun _ => none) 0 (some h11)) 1 (some h3)) 2 (some h12))))))), (h3, .inr (4, [.int 0, .int 0, .int 0])), (h4, .inr (7, [.ref h5, .ref h13])), (h5, .inr (6, [.ref h14, .int 0])), (h6, .inr (6, [.ref h15, .int 0])), ((f3374 0), .inr (0, [.ref (f3374 1), .int 0, .int 0, .int 0])), ((f3374 1), .inl (cy 0, 0, .inl (va_cpy (fun _ => 0) (fun _ => 0) 0 0 0)))] H _ := w
  refine lv_goto (tgt := 21) C.1 C.2.1 dL_next_10 (by decide) ?_
  refine lv_iconst (v := 0) C.1 C.2.1 dL_next_21 (by decide) ?_
  have w := w.sub (ws' := [(h0, .inr (8, [.ref h4, .ref h7, .ref h8, .ref h9, .ref h2, .int 0, .ref h6, .ref h10])), (h2, .inl (cy 3, 3, .inr (.inr (.inr (.inr (va_up (va_up (va_up (fun _ => none) 0 (some h11)) 1 (some h3)) 2 (some h12))))))), (h3, .inr (4, [.int 0, .int 0, .int 0])), (h4, .inr (7, [.ref h5, .ref h13])), (h5, .inr (6, [.ref h14, .int 0])), (h6, .inr (6, [.ref h15, .int 0])), (h1, .inr (9, [.long 0, .ref (f3374 0)])), ((f3374 0), .inr (0, [.ref (f3374 1), .int 0, .int 0, .int 0])), ((f3374 1), .inl (cy 0, 0, .inl (va_cpy (fun _ => 0) (fun _ => 0) 0 0 0)))]) [1, 2, 3, 4, 5, 6, 0, 7, 8] (by decide) rfl rfl
  exact x_iret C w hr (fun k => match k with | 0 => (f3374 0) | 1 => (f3374 1) | _ => 0) rfl rfl dL_next_22 (Nat.le_of_ble_eq_true rfl) (Nat.le_of_ble_eq_true rfl)
set_option maxHeartbeats 4000000 in
set_option maxRecDepth 100000 in
theorem c490_X6_left (l : Launch) (G : va_G) (cy : Nat → ClassId) (sa : String → Nat → Nat) (sv : Nat → Nat) (h0 h1 h2 h3 h4 h5 h6 h7 : Nat) : xM l G cy sa sv yX6_left (Cond.code yX6_left cX6_left 5 (some (.array .int)) :: XG) { frames := 13, cells := 4, slots := 10, locals := 354 } [.ref h0, .int 1] [(h0, .inr (10, [.ref h1, .ref h2, .ref h3, .ref h4, .ref h5, .ref h6, .ref h7, .int 0, .int 0])), (h1, .inr (3, [.int 0, .ref (sv 0), .int 0]))] (xQr G (fun f => [(h0, .inr (10, [.ref h1, .ref h2, .ref h3, .ref h4, .ref h5, .ref h6, .ref h7, .int 0, .int 0])), (h1, .inr (3, [.int 0, .ref (sv 0), .int 0])), ((f 0), .inl (cy 1, 0, .inl (fun _ => 0)))]) (fun f => (f 0))) := by
  refine xof (by decide) (Nat.le_of_ble_eq_true rfl) (fun p e s m below meth c A C w hr hn ls hl => ?_)
  have hl : lv_has ls 5 [(0, .ref h0), (1, .int 1)] := hl
  refine x_new (fs := [.int 0, .null, .int 0]) (ty0 := tyJx4a65c) C w 3 (xin_Jx4a65c _) tyJx4a65c_ok rfl (List.mem_cons_of_mem _ gw_60) (List.mem_cons_of_mem _ gw_61) (List.mem_cons_of_mem _ gw_62) (fun j hj => by rcases (show j = 0 ∨ j = 1 ∨ j = 2 by omega) with rfl | rfl | rfl <;> rfl) (Nat.le_of_ble_eq_true rfl) (Nat.le_of_ble_eq_true rfl) dX6_left_0 (fun q3399 H w => ?_)
  have w : xW G A s [(h0, .inr (10, [.ref h1, .ref h2, .ref h3, .ref h4, .ref h5, .ref h6, .ref h7, .int 0, .int 0])), (h1, .inr (3, [.int 0, .ref (sv 0), .int 0])), (q3399, .inr (3, [.int 0, .null, .int 0]))] H _ := w
  refine W.widen (k := 1) (n := 3) (Nat.le_of_ble_eq_true rfl) (Nat.le_of_ble_eq_true rfl) ?_
  refine lv_dup C.1 C.2.1 dX6_left_3 rfl ?_
  refine x_kv C w [2] [0, 1] rfl rfl (by decide) (by decide) (va_runI (As := []) (rest := [.ref q3399]) (xfix C) (c10_Jx4a65c_init_da8c8 l G cy sa sv q3399 (xtr C) _) (cwI 0 (xhts C) (xgI gc_Jx4a65c_init_da8c8) rfl rfl rfl (xhts C _ (List.mem_cons_of_mem _ gw_62)) (xhts C _ (List.mem_cons_of_mem _ gw_76)) (xhts C _ (List.mem_cons_of_mem _ gw_77)) rfl (by decide +kernel) ⟨(Nat.le_of_ble_eq_true rfl), (Nat.le_of_ble_eq_true rfl)⟩) (xPS C w [2] rfl (by decide)) rfl rfl hl.1 rfl (lv_room (Nat.le_of_ble_eq_true rfl)) dX6_left_4 ⟨(Nat.le_of_ble_eq_true rfl), (Nat.le_of_ble_eq_true rfl)⟩) (fun f3402 H locs w => ?_)
  have w : xW G A s [(h0, .inr (10, [.ref h1, .ref h2, .ref h3, .ref h4, .ref h5, .ref h6, .ref h7, .int 0, .int 0])), (h1, .inr (3, [.int 0, .ref (sv 0), .int 0])), (q3399, .inr (3, [.int 0, .ref (sv 0), .int 0]))] H _ := w
  refine lv_astore_n (lv' := [(2, .ref q3399), (0, .ref h0), (1, .int 1)]) C.1 C.2.1 dX6_left_7 rfl hl (by decide) rfl (fun ls hl => ?_)
  refine lv_aload_n C.1 C.2.1 dX6_left_8 rfl (lv_at hl 1 rfl) ?_
  refine x_kr C w [0, 1] [2] rfl rfl (by decide) (by decide) (va_runV (As := []) (rest := []) (xfix C) (c479_X6_all l G cy sa sv h0 h1 h2 h3 h4 h5 h6 h7 (xtr C) _) (cwV 0 (xhts C) (xgV (maxL := 0) (cc := ⟨#[]⟩) (ret := none) gw_888 gw_889 gw_890 gw_58 gc_X6_all) rfl rfl rfl (by decide +kernel) ⟨(Nat.le_of_ble_eq_true rfl), (Nat.le_of_ble_eq_true rfl)⟩) (xPV C w [0, 1] rfl (by decide) (ci := 10) (q0 := 0) rfl rfl) rfl rfl hl.1 rfl (lv_room (Nat.le_of_ble_eq_true rfl)) dX6_left_9 ⟨(Nat.le_of_ble_eq_true rfl), (Nat.le_of_ble_eq_true rfl)⟩) (fun f3415 H locs w => ?_)
  have w : xW G A s [(q3399, .inr (3, [.int 0, .ref (sv 0), .int 0])), (h0, .inr (10, [.ref h1, .ref h2, .ref h3, .ref h4, .ref h5, .ref h6, .ref h7, .int 0, .int 0])), (h1, .inr (3, [.int 0, .ref (sv 0), .int 0])), ((f3415 0), .inr (3, [.int 0, .ref (sv 0), .int 0]))] H _ := w
  refine W.widen (k := 2) (n := 6) (Nat.le_of_ble_eq_true rfl) (Nat.le_of_ble_eq_true rfl) ?_
  refine x_kr C w [3] [0, 1, 2] rfl rfl (by decide) (by decide) (va_runV (As := []) (rest := []) (xfix C) (c390_Jx4a65c_iterator_32c93 l G cy sa sv (f3415 0) (xtr C) _) (cwV 0 (xhts C) (xgV (maxL := 0) (cc := ⟨#[]⟩) (ret := none) gw_738 gw_739 gw_740 gw_62 gc_Jx4a65c_iterator_32c93) rfl rfl rfl (by decide +kernel) ⟨(Nat.le_of_ble_eq_true rfl), (Nat.le_of_ble_eq_true rfl)⟩) (xPV C w [3] rfl (by decide) (ci := 3) (q0 := 3) rfl rfl) rfl rfl hl.1 rfl (lv_room (Nat.le_of_ble_eq_true rfl)) dX6_left_12 ⟨(Nat.le_of_ble_eq_true rfl), (Nat.le_of_ble_eq_true rfl)⟩) (fun f3421 H locs w => ?_)
  have w : xW G A s [(q3399, .inr (3, [.int 0, .ref (sv 0), .int 0])), (h0, .inr (10, [.ref h1, .ref h2, .ref h3, .ref h4, .ref h5, .ref h6, .ref h7, .int 0, .int 0])), (h1, .inr (3, [.int 0, .ref (sv 0), .int 0])), ((f3415 0), .inr (3, [.int 0, .ref (sv 0), .int 0])), ((f3421 0), .inr (2, [.int 0, .int (-1), .int 0, .ref (f3415 0)]))] H _ := w
  refine W.widen (k := 3) (n := 10) (Nat.le_of_ble_eq_true rfl) (Nat.le_of_ble_eq_true rfl) ?_
  refine lv_astore_n (lv' := [(3, .ref (f3421 0)), (2, .ref q3399), (0, .ref h0), (1, .int 1)]) C.1 C.2.1 dX6_left_15 rfl hl (by decide) rfl (fun ls hl => ?_)
  refine lv_aload_n C.1 C.2.1 dX6_left_16 rfl (lv_at hl 0 rfl) ?_
  refine x_kFi C w [4, 3] [0, 1, 2] rfl rfl (by decide) (by decide) (va_runF ((xK C).1 2 _ rfl).2 (As := []) (rest := []) (xfix C) (c391_Jx35411_hasNext_aae02 l G cy sa sv (f3421 0) (f3415 0) (xtr C) _) (va_cwF 0 (xhts C) (xgF (x := ⟨"java/util/Iterator", "hasNext", "()Z"⟩) gw_743 gw_744 gw_745 gw_728 gc_Jx35411_hasNext_aae02) rfl rfl rfl (xs_fw (xS C)) (by decide +kernel) ⟨(Nat.le_of_ble_eq_true rfl), (Nat.le_of_ble_eq_true rfl)⟩) (xPV C w [4, 3] rfl (by decide) (ci := 2) (q0 := 4) rfl rfl) rfl rfl hl.1 rfl (lv_room (Nat.le_of_ble_eq_true rfl)) dX6_left_17 ⟨(Nat.le_of_ble_eq_true rfl), (Nat.le_of_ble_eq_true rfl)⟩) (fun f3422 H locs w => ?_)
  have w : xW G A s [(q3399, .inr (3, [.int 0, .ref (sv 0), .int 0])), (h0, .inr (10, [.ref h1, .ref h2, .ref h3, .ref h4, .ref h5, .ref h6, .ref h7, .int 0, .int 0])), (h1, .inr (3, [.int 0, .ref (sv 0), .int 0])), ((f3421 0), .inr (2, [.int 0, .int (-1), .int 0, .ref (f3415 0)])), ((f3415 0), .inr (3, [.int 0, .ref (sv 0), .int 0]))] H _ := w
  refine lv_if_eq (tgt := 68) C.1 C.2.1 dX6_left_22 (by decide) (fun _ => ?_) (fun c9 => absurd (by decide) c9)
  refine lv_aload_n C.1 C.2.1 dX6_left_68 rfl (lv_at hl 1 rfl) ?_
  refine x_kr C w [0] [1, 2, 3, 4] rfl rfl (by decide) (by decide) (va_runS (As := [.ref q3399]) (rest := []) (xfix C) (c115_X6_keysOf l G cy sa sv q3399 (xtr C) _) (va_cwS 1 (xhts C) (xgS gw_330 gw_331 gw_58 gc_X6_keysOf) rfl rfl rfl (by decide +kernel) ⟨(Nat.le_of_ble_eq_true rfl), (Nat.le_of_ble_eq_true rfl)⟩) (xPS C w [0] rfl (by decide)) rfl rfl hl.1 rfl (lv_room (Nat.le_of_ble_eq_true rfl)) dX6_left_69 ⟨(Nat.le_of_ble_eq_true rfl), (Nat.le_of_ble_eq_true rfl)⟩) (fun f3428 H locs w => ?_)
  have w : xW G A s [(h0, .inr (10, [.ref h1, .ref h2, .ref h3, .ref h4, .ref h5, .ref h6, .ref h7, .int 0, .int 0])), (h1, .inr (3, [.int 0, .ref (sv 0), .int 0])), ((f3421 0), .inr (2, [.int 0, .int (-1), .int 0, .ref (f3415 0)])), ((f3415 0), .inr (3, [.int 0, .ref (sv 0), .int 0])), (q3399, .inr (3, [.int 0, .ref (sv 0), .int 0])), ((f3428 0), .inl (cy 1, 0, .inl (fun _ => 0)))] H _ := w
  refine W.widen (k := 4) (n := 10) (Nat.le_of_ble_eq_true rfl) (Nat.le_of_ble_eq_true rfl) ?_
  have w := w.sub (ws' := [(h0, .inr (10, [.ref h1, .ref h2, .ref h3, .ref h4, .ref h5, .ref h6, .ref h7, .int 0, .int 0])), (h1, .inr (3, [.int 0, .ref (sv 0), .int 0])), ((f3428 0), .inl (cy 1, 0, .inl (fun _ => 0)))]) [0, 1, 5] (by decide) rfl rfl
  exact x_aret C w hr (Or.inr ⟨_, rfl⟩) (fun k => match k with | 0 => (f3428 0) | _ => 0) rfl rfl dX6_left_72 (Nat.le_of_ble_eq_true rfl) (Nat.le_of_ble_eq_true rfl)
set_option maxHeartbeats 4000000 in
set_option maxRecDepth 100000 in
theorem c491_X6_next (l : Launch) (G : va_G) (cy : Nat → ClassId) (sa : String → Nat → Nat) (sv : Nat → Nat) (h0 h1 h2 h3 h4 h5 h6 h7 : Nat) (v0 : Int32) (p0 : ¬ v0 < 1) (p1 : v0 ≤ 24) (p2 : 0 < v0) : xM l G cy sa sv yX6_next (Cond.code yX6_next cX6_next 6 (some (.object "java/lang/String")) :: XG) { frames := 14, cells := 5, slots := 10, locals := 378 } [.ref h0, .int 1, .int v0] [(h0, .inr (10, [.ref h1, .ref h2, .ref h3, .ref h4, .ref h5, .ref h6, .ref h7, .int 0, .int 0])), (h1, .inr (3, [.int 0, .ref (sv 0), .int 0]))] (xQr G (fun f => [(h0, .inr (10, [.ref h1, .ref h2, .ref h3, .ref h4, .ref h5, .ref h6, .ref h7, .int 0, .int 0])), (h1, .inr (3, [.int 0, .ref (sv 0), .int 0]))]) (fun f => (sa "TwinindexModel" 122))) := by
  refine xof (by decide) (Nat.le_of_ble_eq_true rfl) (fun p e s m below meth c A C w hr hn ls hl => ?_)
  have hl : lv_has ls 6 [(0, .ref h0), (1, .int 1), (2, .int v0)] := hl
  refine lv_aload_n C.1 C.2.1 dX6_next_0 rfl (lv_at hl 0 rfl) ?_
  refine lv_iload_n C.1 C.2.1 dX6_next_1 rfl (lv_at hl 1 rfl) ?_
  refine x_ki C w [] [0, 1] rfl rfl (by decide) (by decide) (va_runS (As := [.int 1]) (rest := [.ref h0]) (xfix C) (c455_X6_isNoPager l G cy sa sv (xtr C) _) (va_cwS 1 (xhts C) (xgS gw_860 gw_861 gw_58 gc_X6_isNoPager) rfl rfl rfl (by decide +kernel) ⟨(Nat.le_of_ble_eq_true rfl), (Nat.le_of_ble_eq_true rfl)⟩) (xPS C w [] rfl (by decide)) rfl rfl hl.1 rfl (lv_room (Nat.le_of_ble_eq_true rfl)) dX6_next_2 ⟨(Nat.le_of_ble_eq_true rfl), (Nat.le_of_ble_eq_true rfl)⟩) (fun f3388 H locs w => ?_)
  have w : xW G A s [(h0, .inr (10, [.ref h1, .ref h2, .ref h3, .ref h4, .ref h5, .ref h6, .ref h7, .int 0, .int 0])), (h1, .inr (3, [.int 0, .ref (sv 0), .int 0]))] H _ := w
  refine lv_iconst (v := 1) C.1 C.2.1 dX6_next_5 (by decide) ?_
  refine x_ki C w [0] [1] rfl rfl (by decide) (by decide) (va_runV (As := [.int 0, .int 1]) (rest := []) (xfix C) (c46_X6_start l G cy sa sv h0 h1 h2 h3 h4 h5 h6 h7 (xtr C) _) (cwV 2 (xhts C) (xgV (maxL := 0) (cc := ⟨#[]⟩) (ret := none) gw_114 gw_115 gw_116 gw_58 gc_X6_start) rfl rfl rfl (by decide +kernel) ⟨(Nat.le_of_ble_eq_true rfl), (Nat.le_of_ble_eq_true rfl)⟩) (xPV C w [0] rfl (by decide) (ci := 10) (q0 := 0) rfl rfl) rfl rfl hl.1 rfl (lv_room (Nat.le_of_ble_eq_true rfl)) dX6_next_6 ⟨(Nat.le_of_ble_eq_true rfl), (Nat.le_of_ble_eq_true rfl)⟩) (fun f3389 H locs w => ?_)
  have w : xW G A s [(h1, .inr (3, [.int 0, .ref (sv 0), .int 0])), (h0, .inr (10, [.ref h1, .ref h2, .ref h3, .ref h4, .ref h5, .ref h6, .ref h7, .int 0, .int 0]))] H _ := w
  refine lv_if_ne (tgt := 36) C.1 C.2.1 dX6_next_9 (by decide) (fun c9 => absurd (by decide) c9) (fun _ => ?_)
  refine lv_aload_n C.1 C.2.1 dX6_next_12 rfl (lv_at hl 0 rfl) ?_
  refine lv_iload_n C.1 C.2.1 dX6_next_13 rfl (lv_at hl 2 rfl) ?_
  refine lv_iconst (v := 1) C.1 C.2.1 dX6_next_14 (by decide) ?_
  refine lv_icmp_lt (tgt := 24) C.1 C.2.1 dX6_next_15 (by decide) (fun c9 => absurd c9 p0) (fun _ => ?_)
  refine lv_iload_n C.1 C.2.1 dX6_next_18 rfl (lv_at hl 2 rfl) ?_
  refine lv_bipush (v := 24) C.1 C.2.1 dX6_next_19 (by decide) ?_
  refine lv_icmp_le (tgt := 28) C.1 C.2.1 dX6_next_21 (by decide) (fun _ => ?_) (fun c9 => absurd p1 c9)
  refine lv_iconst (v := 0) C.1 C.2.1 dX6_next_28 (by decide) ?_
  refine lv_iconst (v := 2) C.1 C.2.1 dX6_next_29 (by decide) ?_
  refine x_ki C w [] [0, 1] rfl rfl (by decide) (by decide) (va_runV (As := [.int 0, .int 2]) (rest := []) (xfix C) (c49_X6_fails l G cy sa sv h0 (xtr C) _) (cwV 2 (xhts C) (xgV (maxL := 0) (cc := ⟨#[]⟩) (ret := none) gw_203 gw_204 gw_205 gw_58 gc_X6_fails) rfl rfl rfl (by decide +kernel) ⟨(Nat.le_of_ble_eq_true rfl), (Nat.le_of_ble_eq_true rfl)⟩) (xPV C w [] rfl (by decide) (ci := 10) (q0 := 1) rfl rfl) rfl rfl hl.1 rfl (lv_room (Nat.le_of_ble_eq_true rfl)) dX6_next_30 ⟨(Nat.le_of_ble_eq_true rfl), (Nat.le_of_ble_eq_true rfl)⟩) (fun f3390 H locs w => ?_)
  have w : xW G A s [(h1, .inr (3, [.int 0, .ref (sv 0), .int 0])), (h0, .inr (10, [.ref h1, .ref h2, .ref h3, .ref h4, .ref h5, .ref h6, .ref h7, .int 0, .int 0]))] H _ := w
  refine lv_if_eq (tgt := 39) C.1 C.2.1 dX6_next_33 (by decide) (fun _ => ?_) (fun c9 => absurd (by decide) c9)
  refine lv_aload_n C.1 C.2.1 dX6_next_39 rfl (lv_at hl 0 rfl) ?_
  refine lv_iload_n C.1 C.2.1 dX6_next_40 rfl (lv_at hl 1 rfl) ?_
  refine x_kr C w [1, 0] [] rfl rfl (by decide) (by decide) (va_runV (As := [.int 1]) (rest := []) (xfix C) (c490_X6_left l G cy sa sv h0 h1 h2 h3 h4 h5 h6 h7 (xtr C) _) (cwV 1 (xhts C) (xgV (maxL := 0) (cc := ⟨#[]⟩) (ret := none) gw_892 gw_893 gw_894 gw_58 gc_X6_left) rfl rfl rfl (by decide +kernel) ⟨(Nat.le_of_ble_eq_true rfl), (Nat.le_of_ble_eq_true rfl)⟩) (xPV C w [1, 0] rfl (by decide) (ci := 10) (q0 := 1) rfl rfl) rfl rfl hl.1 rfl (lv_room (Nat.le_of_ble_eq_true rfl)) dX6_next_41 ⟨(Nat.le_of_ble_eq_true rfl), (Nat.le_of_ble_eq_true rfl)⟩) (fun f3430 H locs w => ?_)
  have w : xW G A s [(h0, .inr (10, [.ref h1, .ref h2, .ref h3, .ref h4, .ref h5, .ref h6, .ref h7, .int 0, .int 0])), (h1, .inr (3, [.int 0, .ref (sv 0), .int 0])), ((f3430 0), .inl (cy 1, 0, .inl (fun _ => 0)))] H _ := w
  refine W.widen (k := 4) (n := 10) (Nat.le_of_ble_eq_true rfl) (Nat.le_of_ble_eq_true rfl) ?_
  refine lv_astore_n (lv' := [(3, .ref (f3430 0)), (0, .ref h0), (1, .int 1), (2, .int v0)]) C.1 C.2.1 dX6_next_44 rfl hl (by decide) rfl (fun ls hl => ?_)
  refine lv_iload_n C.1 C.2.1 dX6_next_45 rfl (lv_at hl 3 rfl) ?_
  refine lv_aload_n C.1 C.2.1 dX6_next_46 rfl (lv_at hl 0 rfl) ?_
  refine x_alen (v := 0) C w 2 1 rfl rfl (by rfl) dX6_next_47 ?_
  refine va_mmin C.1 C.2.1 (C.2.2.1.trans hl.1.symm) (xown C) (xhts C _ (List.mem_cons_of_mem _ gw_895)) (xhts C _ (List.mem_cons_of_mem _ gw_420)) (xhts C _ (List.mem_cons_of_mem _ gw_217)) (xhts C _ (List.mem_cons_of_mem _ gm_min)) (Nat.le_of_ble_eq_true rfl) (Nat.le_of_ble_eq_true rfl) (Nat.le_of_ble_eq_true rfl) (Nat.le_of_ble_eq_true rfl) dX6_next_48 ?_
  refine x_is (y := 0) (if_pos p2) ?_
  refine x_newa (atype := .int) (ty := .int) (N := 0) C w 1 (fun _ _ h => h) rfl (List.mem_cons_of_mem _ gw_13) rfl rfl (by decide) (by decide) (by decide) (Nat.le_of_ble_eq_true rfl) (Nat.le_of_ble_eq_true rfl) dX6_next_51 (fun q3431 H w => ?_)
  have w : xW G A s [(h0, .inr (10, [.ref h1, .ref h2, .ref h3, .ref h4, .ref h5, .ref h6, .ref h7, .int 0, .int 0])), (h1, .inr (3, [.int 0, .ref (sv 0), .int 0])), ((f3430 0), .inl (cy 1, 0, .inl (fun _ => 0))), (q3431, .inl (cy 1, 0, .inl (fun _ => 0)))] H _ := w
  refine W.widen (k := 5) (n := 10) (Nat.le_of_ble_eq_true rfl) (Nat.le_of_ble_eq_true rfl) ?_
  refine lv_astore (lv' := [(4, .ref q3431), (3, .ref (f3430 0)), (0, .ref h0), (1, .int 1), (2, .int v0)]) C.1 C.2.1 dX6_next_53 hl (by decide) rfl (fun ls hl => ?_)
  refine lv_iconst (v := 0) C.1 C.2.1 dX6_next_55 (by decide) ?_
  refine lv_istore (lv' := [(5, .int 0), (4, .ref q3431), (3, .ref (f3430 0)), (0, .ref h0), (1, .int 1), (2, .int v0)]) C.1 C.2.1 dX6_next_56 hl (by decide) rfl (fun ls hl => ?_)
  refine lv_iload C.1 C.2.1 dX6_next_58 (lv_at hl 0 rfl) ?_
  refine lv_aload C.1 C.2.1 dX6_next_60 (lv_at hl 1 rfl) ?_
  refine x_alen (v := 0) C w 3 1 rfl rfl (by rfl) dX6_next_62 ?_
  refine lv_icmp_ge (tgt := 108) C.1 C.2.1 dX6_next_63 (by decide) (fun _ => ?_) (fun c9 => absurd (by decide) c9)
  refine lv_aload C.1 C.2.1 dX6_next_108 (lv_at hl 1 rfl) ?_
  refine x_kr C w [3] [0, 1, 2] rfl rfl (by decide) (by decide) (va_runS (As := [.ref q3431]) (rest := []) (xfix C) (c230_X6_joined l G cy sa sv q3431 (xtr C) _) (va_cwS 1 (xhts C) (xgS gw_550 gw_551 gw_58 gc_X6_joined) rfl rfl rfl (by decide +kernel) ⟨(Nat.le_of_ble_eq_true rfl), (Nat.le_of_ble_eq_true rfl)⟩) (xPS C w [3] rfl (by decide)) rfl rfl hl.1 rfl (lv_room (Nat.le_of_ble_eq_true rfl)) dX6_next_110 ⟨(Nat.le_of_ble_eq_true rfl), (Nat.le_of_ble_eq_true rfl)⟩) (fun f3432 H locs w => ?_)
  have w : xW G A s [(h0, .inr (10, [.ref h1, .ref h2, .ref h3, .ref h4, .ref h5, .ref h6, .ref h7, .int 0, .int 0])), (h1, .inr (3, [.int 0, .ref (sv 0), .int 0])), ((f3430 0), .inl (cy 1, 0, .inl (fun _ => 0))), (q3431, .inl (cy 1, 0, .inl (fun _ => 0)))] H _ := w
  have w := w.sub (ws' := [(h0, .inr (10, [.ref h1, .ref h2, .ref h3, .ref h4, .ref h5, .ref h6, .ref h7, .int 0, .int 0])), (h1, .inr (3, [.int 0, .ref (sv 0), .int 0]))]) [0, 1] (by decide) rfl rfl
  exact x_aret C w hr (Or.inl ⟨_, rfl⟩) (fun _ => 0) rfl rfl dX6_next_113 (Nat.le_of_ble_eq_true rfl) (Nat.le_of_ble_eq_true rfl)
set_option maxHeartbeats 4000000 in
set_option maxRecDepth 100000 in
theorem c492_X4_next (l : Launch) (G : va_G) (cy : Nat → ClassId) (sa : String → Nat → Nat) (sv : Nat → Nat) (h0 h1 h2 h3 h4 h5 h6 h7 h8 h9 h10 : Nat) (v0 : Int32) (p0 : ¬ v0 < 1) (p1 : ¬ v0 ≤ 24) : xX l G cy sa sv yX4_next (Cond.code yX4_next cX4_next 7 (some (.object "java/lang/String")) :: XG) { frames := 9, cells := 1, slots := 6, locals := 271 } [.ref h0, .int 1, .int v0] [(h0, .inr (8, [.ref h2, .ref h3, .ref h4, .ref h5, .ref h1, .int 0, .ref h6, .ref h7])), (h1, .inl (cy 3, 3, .inr (.inr (.inr (.inr (va_up (va_up (va_up (fun _ => none) 0 (some h8)) 1 (some h9)) 2 (some h10)))))))] (fun f => [(h0, .inr (8, [.ref h2, .ref h3, .ref h4, .ref h5, .ref h1, .int 0, .ref h6, .ref h7])), (h1, .inl (cy 3, 3, .inr (.inr (.inr (.inr (va_up (va_up (va_up (fun _ => none) 0 (some h8)) 1 (some h9)) 2 (some h10)))))))]) "java/lang/IllegalArgumentException" := by
  refine xofX (by decide) (Nat.le_of_ble_eq_true rfl) (fun p e s m below meth c A C w hno ls hl => ?_)
  have hl : lv_has ls 7 [(0, .ref h0), (1, .int 1), (2, .int v0)] := hl
  refine lv_aload_n C.1 C.2.1 dX4_next_0 rfl (lv_at hl 0 rfl) ?_
  refine lv_iload_n C.1 C.2.1 dX4_next_1 rfl (lv_at hl 1 rfl) ?_
  refine x_kr C w [0, 1] [] rfl rfl (by decide) (by decide) (va_runV (As := [.int 1]) (rest := []) (xfix C) (c452_X4_pagerOf l G cy sa sv h0 h1 h2 h3 h4 h5 h6 h7 h8 h9 h10 (xtr C) _) (cwV 1 (xhts C) (xgV (maxL := 0) (cc := ⟨#[]⟩) (ret := none) gw_842 gw_843 gw_844 gw_2 gc_X4_pagerOf) rfl rfl rfl (by decide +kernel) ⟨(Nat.le_of_ble_eq_true rfl), (Nat.le_of_ble_eq_true rfl)⟩) (xPV C w [0, 1] rfl (by decide) (ci := 8) (q0 := 0) rfl rfl) rfl rfl hl.1 rfl (lv_room (Nat.le_of_ble_eq_true rfl)) dX4_next_2 ⟨(Nat.le_of_ble_eq_true rfl), (Nat.le_of_ble_eq_true rfl)⟩) (fun f3440 H locs w => ?_)
  have w : xW G A s [(h0, .inr (8, [.ref h2, .ref h3, .ref h4, .ref h5, .ref h1, .int 0, .ref h6, .ref h7])), (h1, .inl (cy 3, 3, .inr (.inr (.inr (.inr (va_up (va_up (va_up (fun _ => none) 0 (some h8)) 1 (some h9)) 2 (some h10)))))))] H _ := w
  refine lv_astore_n (lv' := [(3, .ref h9), (0, .ref h0), (1, .int 1), (2, .int v0)]) C.1 C.2.1 dX4_next_5 rfl hl (by decide) rfl (fun ls hl => ?_)
  refine lv_iload_n C.1 C.2.1 dX4_next_6 rfl (lv_at hl 3 rfl) ?_
  refine lv_iconst (v := 1) C.1 C.2.1 dX4_next_7 (by decide) ?_
  refine lv_icmp_lt (tgt := 17) C.1 C.2.1 dX4_next_8 (by decide) (fun c9 => absurd c9 p0) (fun _ => ?_)
  refine lv_iload_n C.1 C.2.1 dX4_next_11 rfl (lv_at hl 3 rfl) ?_
  refine lv_bipush (v := 24) C.1 C.2.1 dX4_next_12 (by decide) ?_
  refine lv_icmp_le (tgt := 27) C.1 C.2.1 dX4_next_14 (by decide) (fun c9 => absurd c9 p1) (fun _ => ?_)
  exact x_thr C w hno hl.1 (by decide) (List.mem_cons_of_mem _ gw_95) (List.mem_cons_of_mem _ gw_96) (tx := "many is not 1 to 24") (List.mem_of_getElem? (i := 4) rfl) (xat_203 C (fun w h => List.mem_cons_of_mem _ h)) xatg_203 dX4_next_17 dX4_next_20 dX4_next_21 dX4_next_23 dX4_next_26 (Nat.le_of_ble_eq_true rfl) (Nat.le_of_ble_eq_true rfl) (Nat.le_of_ble_eq_true rfl) (Nat.le_of_ble_eq_true rfl) rfl rfl (fun _ => 0) rfl
set_option maxHeartbeats 4000000 in
set_option maxRecDepth 100000 in
theorem c493_L_next (l : Launch) (G : va_G) (cy : Nat → ClassId) (sa : String → Nat → Nat) (sv : Nat → Nat) (h0 h1 h2 h3 h4 h5 h6 h7 h8 h9 h10 h11 : Nat) (v0 : Int32) (p0 : ¬ v0 < 1) (p1 : ¬ v0 ≤ 24) : xM l G cy sa sv yL_next (Cond.codeWith yL_next cL_next 5 (some .int) [(0, 10, 13, 91), (0, 10, 17, 19)] :: XG) { frames := 10, cells := 1, slots := 6, locals := 297 } [.ref h0, .int 1, .int v0, .ref h1] [(h0, .inr (8, [.ref h3, .ref h4, .ref h5, .ref h6, .ref h2, .int 0, .ref h7, .ref h8])), (h2, .inl (cy 3, 3, .inr (.inr (.inr (.inr (va_up (va_up (va_up (fun _ => none) 0 (some h9)) 1 (some h10)) 2 (some h11)))))))] (xQi G (fun f => [(h0, .inr (8, [.ref h3, .ref h4, .ref h5, .ref h6, .ref h2, .int 0, .ref h7, .ref h8])), (h2, .inl (cy 3, 3, .inr (.inr (.inr (.inr (va_up (va_up (va_up (fun _ => none) 0 (some h9)) 1 (some h10)) 2 (some h11)))))))]) 2) := by
  refine xofH (by decide) (Nat.le_of_ble_eq_true rfl) (fun p e s m below meth c A C w hr hn hT ls hl => ?_)
  have hl : lv_has ls 5 [(0, .ref h0), (1, .int 1), (2, .int v0), (3, .ref h1)] := hl
  refine lv_aload_n C.1 C.2.1 dL_next_0 rfl (lv_at hl 3 rfl) ?_
  refine lv_aload_n C.1 C.2.1 dL_next_1 rfl (lv_at hl 0 rfl) ?_
  refine lv_iload_n C.1 C.2.1 dL_next_2 rfl (lv_at hl 1 rfl) ?_
  refine lv_iload_n C.1 C.2.1 dL_next_3 rfl (lv_at hl 2 rfl) ?_
  refine x_kx C w [0, 1] [] rfl rfl (by decide) (by decide) (vx_runV (As := [.int 1, .int v0]) (rest := [.ref h1]) (xfix C) (c492_X4_next l G cy sa sv h0 h2 h3 h4 h5 h6 h7 h8 h9 h10 h11 v0 p0 p1 (xtr C) _) (cwV 2 (xhts C) (xgV (maxL := 0) (cc := ⟨#[]⟩) (ret := none) gw_870 gw_871 gw_872 gw_2 gc_X4_next) rfl rfl rfl (by decide +kernel) ⟨(Nat.le_of_ble_eq_true rfl), (Nat.le_of_ble_eq_true rfl)⟩) (xPV C w [0, 1] rfl (by decide) (ci := 8) (q0 := 0) rfl rfl) rfl rfl hl.1 rfl (lv_room (Nat.le_of_ble_eq_true rfl)) dL_next_4 ⟨(Nat.le_of_ble_eq_true rfl), (Nat.le_of_ble_eq_true rfl)⟩) (fun f3441 H locs ce q9 w hce hcv hcl => ?_)
  have w : xW G A s [(h0, .inr (8, [.ref h3, .ref h4, .ref h5, .ref h6, .ref h2, .int 0, .ref h7, .ref h8])), (h2, .inl (cy 3, 3, .inr (.inr (.inr (.inr (va_up (va_up (va_up (fun _ => none) 0 (some h9)) 1 (some h10)) 2 (some h11)))))))] H _ := w
  refine vx_widen (k := 1) (n := 6) (Nat.le_of_ble_eq_true rfl) (Nat.le_of_ble_eq_true rfl) ?_
  refine vx_catch (xown C) [⟨0, 10, 13, 91⟩] ⟨0, 10, 17, 19⟩ [] hT (fun z hz => Or.inr (by cases List.mem_singleton.mp hz; exact ⟨by decide, "java/lang/IndexOutOfBoundsException", xhts C _ (List.mem_cons_of_mem _ gw_868), xs_n2 (xS C)⟩)) (by decide) (by decide) (xhts C _ (List.mem_cons_of_mem _ gw_104)) (va_any rfl (xs_c1 (xS C))) hce hcv hcl ?_
  refine lv_astore (lv' := [(4, .ref q9), (0, .ref h0), (1, .int 1), (2, .int v0), (3, .ref h1)]) C.1 C.2.1 dL_next_17 hl (by decide) rfl (fun ls hl => ?_)
  refine lv_iconst (v := 2) C.1 C.2.1 dL_next_19 (by decide) ?_
  exact x_iret C w hr (fun _ => 0) rfl rfl dL_next_20 (Nat.le_of_ble_eq_true rfl) (Nat.le_of_ble_eq_true rfl)
set_option maxHeartbeats 4000000 in
set_option maxRecDepth 100000 in
theorem c494_X6_next (l : Launch) (G : va_G) (cy : Nat → ClassId) (sa : String → Nat → Nat) (sv : Nat → Nat) (h0 h1 h2 h3 h4 h5 h6 h7 : Nat) (v0 : Int32) (p0 : ¬ v0 < 1) (p1 : ¬ v0 ≤ 24) : xM l G cy sa sv yX6_next (Cond.code yX6_next cX6_next 6 (some (.object "java/lang/String")) :: XG) { frames := 9, cells := 0, slots := 0, locals := 272 } [.ref h0, .int 1, .int v0] [(h0, .inr (10, [.ref h1, .ref h2, .ref h3, .ref h4, .ref h5, .ref h6, .ref h7, .int 0, .int 0]))] (xQr G (fun f => [(h0, .inr (10, [.ref h1, .ref h2, .ref h3, .ref h4, .ref h5, .ref h6, .ref h7, .int 0, .int 2]))]) (fun f => (sa "TwinindexModel" 122))) := by
  refine xof (by decide) (Nat.le_of_ble_eq_true rfl) (fun p e s m below meth c A C w hr hn ls hl => ?_)
  have hl : lv_has ls 6 [(0, .ref h0), (1, .int 1), (2, .int v0)] := hl
  refine lv_aload_n C.1 C.2.1 dX6_next_0 rfl (lv_at hl 0 rfl) ?_
  refine lv_iload_n C.1 C.2.1 dX6_next_1 rfl (lv_at hl 1 rfl) ?_
  refine x_ki C w [] [0] rfl rfl (by decide) (by decide) (va_runS (As := [.int 1]) (rest := [.ref h0]) (xfix C) (c455_X6_isNoPager l G cy sa sv (xtr C) _) (va_cwS 1 (xhts C) (xgS gw_860 gw_861 gw_58 gc_X6_isNoPager) rfl rfl rfl (by decide +kernel) ⟨(Nat.le_of_ble_eq_true rfl), (Nat.le_of_ble_eq_true rfl)⟩) (xPS C w [] rfl (by decide)) rfl rfl hl.1 rfl (lv_room (Nat.le_of_ble_eq_true rfl)) dX6_next_2 ⟨(Nat.le_of_ble_eq_true rfl), (Nat.le_of_ble_eq_true rfl)⟩) (fun f3444 H locs w => ?_)
  have w : xW G A s [(h0, .inr (10, [.ref h1, .ref h2, .ref h3, .ref h4, .ref h5, .ref h6, .ref h7, .int 0, .int 0]))] H _ := w
  refine lv_iconst (v := 1) C.1 C.2.1 dX6_next_5 (by decide) ?_
  refine x_ki C w [0] [] rfl rfl (by decide) (by decide) (va_runV (As := [.int 0, .int 1]) (rest := []) (xfix C) (c46_X6_start l G cy sa sv h0 h1 h2 h3 h4 h5 h6 h7 (xtr C) _) (cwV 2 (xhts C) (xgV (maxL := 0) (cc := ⟨#[]⟩) (ret := none) gw_114 gw_115 gw_116 gw_58 gc_X6_start) rfl rfl rfl (by decide +kernel) ⟨(Nat.le_of_ble_eq_true rfl), (Nat.le_of_ble_eq_true rfl)⟩) (xPV C w [0] rfl (by decide) (ci := 10) (q0 := 0) rfl rfl) rfl rfl hl.1 rfl (lv_room (Nat.le_of_ble_eq_true rfl)) dX6_next_6 ⟨(Nat.le_of_ble_eq_true rfl), (Nat.le_of_ble_eq_true rfl)⟩) (fun f3445 H locs w => ?_)
  have w : xW G A s [(h0, .inr (10, [.ref h1, .ref h2, .ref h3, .ref h4, .ref h5, .ref h6, .ref h7, .int 0, .int 0]))] H _ := w
  refine lv_if_ne (tgt := 36) C.1 C.2.1 dX6_next_9 (by decide) (fun c9 => absurd (by decide) c9) (fun _ => ?_)
  refine lv_aload_n C.1 C.2.1 dX6_next_12 rfl (lv_at hl 0 rfl) ?_
  refine lv_iload_n C.1 C.2.1 dX6_next_13 rfl (lv_at hl 2 rfl) ?_
  refine lv_iconst (v := 1) C.1 C.2.1 dX6_next_14 (by decide) ?_
  refine lv_icmp_lt (tgt := 24) C.1 C.2.1 dX6_next_15 (by decide) (fun c9 => absurd c9 p0) (fun _ => ?_)
  refine lv_iload_n C.1 C.2.1 dX6_next_18 rfl (lv_at hl 2 rfl) ?_
  refine lv_bipush (v := 24) C.1 C.2.1 dX6_next_19 (by decide) ?_
  refine lv_icmp_le (tgt := 28) C.1 C.2.1 dX6_next_21 (by decide) (fun c9 => absurd c9 p1) (fun _ => ?_)
  refine lv_iconst (v := 1) C.1 C.2.1 dX6_next_24 (by decide) ?_
  refine lv_goto (tgt := 29) C.1 C.2.1 dX6_next_25 (by decide) ?_
  refine lv_iconst (v := 2) C.1 C.2.1 dX6_next_29 (by decide) ?_
  refine x_ki C w [0] [] rfl rfl (by decide) (by decide) (va_runV (As := [.int 1, .int 2]) (rest := []) (xfix C) (c149_X6_fails l G cy sa sv h0 h1 h2 h3 h4 h5 h6 h7 (xtr C) _) (cwV 2 (xhts C) (xgV (maxL := 0) (cc := ⟨#[]⟩) (ret := none) gw_203 gw_204 gw_205 gw_58 gc_X6_fails) rfl rfl rfl (by decide +kernel) ⟨(Nat.le_of_ble_eq_true rfl), (Nat.le_of_ble_eq_true rfl)⟩) (xPV C w [0] rfl (by decide) (ci := 10) (q0 := 0) rfl rfl) rfl rfl hl.1 rfl (lv_room (Nat.le_of_ble_eq_true rfl)) dX6_next_30 ⟨(Nat.le_of_ble_eq_true rfl), (Nat.le_of_ble_eq_true rfl)⟩) (fun f3446 H locs w => ?_)
  have w : xW G A s [(h0, .inr (10, [.ref h1, .ref h2, .ref h3, .ref h4, .ref h5, .ref h6, .ref h7, .int 0, .int 2]))] H _ := w
  refine lv_if_eq (tgt := 39) C.1 C.2.1 dX6_next_33 (by decide) (fun c9 => absurd c9 (by decide)) (fun _ => ?_)
  refine x_ldcS C (tx := "") (List.mem_of_getElem? (i := 11) rfl) dX6_next_36 ?_
  exact x_aret C w hr (Or.inl ⟨_, rfl⟩) (fun _ => 0) rfl rfl dX6_next_38 (Nat.le_of_ble_eq_true rfl) (Nat.le_of_ble_eq_true rfl)
set_option maxHeartbeats 4000000 in
set_option maxRecDepth 100000 in
theorem c495_X4_next (l : Launch) (G : va_G) (cy : Nat → ClassId) (sa : String → Nat → Nat) (sv : Nat → Nat) (h0 h1 h2 h3 h4 h5 h6 h7 h8 h9 h10 : Nat) (v0 : Int32) (p0 : v0 < 1) : xX l G cy sa sv yX4_next (Cond.code yX4_next cX4_next 7 (some (.object "java/lang/String")) :: XG) { frames := 9, cells := 1, slots := 6, locals := 271 } [.ref h0, .int 2, .int v0] [(h0, .inr (8, [.ref h2, .ref h3, .ref h4, .ref h5, .ref h1, .int 0, .ref h6, .ref h7])), (h1, .inl (cy 3, 3, .inr (.inr (.inr (.inr (va_up (va_up (va_up (fun _ => none) 0 (some h8)) 1 (some h9)) 2 (some h10)))))))] (fun f => [(h0, .inr (8, [.ref h2, .ref h3, .ref h4, .ref h5, .ref h1, .int 0, .ref h6, .ref h7])), (h1, .inl (cy 3, 3, .inr (.inr (.inr (.inr (va_up (va_up (va_up (fun _ => none) 0 (some h8)) 1 (some h9)) 2 (some h10)))))))]) "java/lang/IllegalArgumentException" := by
  refine xofX (by decide) (Nat.le_of_ble_eq_true rfl) (fun p e s m below meth c A C w hno ls hl => ?_)
  have hl : lv_has ls 7 [(0, .ref h0), (1, .int 2), (2, .int v0)] := hl
  refine lv_aload_n C.1 C.2.1 dX4_next_0 rfl (lv_at hl 0 rfl) ?_
  refine lv_iload_n C.1 C.2.1 dX4_next_1 rfl (lv_at hl 1 rfl) ?_
  refine x_kr C w [0, 1] [] rfl rfl (by decide) (by decide) (va_runV (As := [.int 2]) (rest := []) (xfix C) (c457_X4_pagerOf l G cy sa sv h0 h1 h2 h3 h4 h5 h6 h7 h8 h9 h10 (xtr C) _) (cwV 1 (xhts C) (xgV (maxL := 0) (cc := ⟨#[]⟩) (ret := none) gw_842 gw_843 gw_844 gw_2 gc_X4_pagerOf) rfl rfl rfl (by decide +kernel) ⟨(Nat.le_of_ble_eq_true rfl), (Nat.le_of_ble_eq_true rfl)⟩) (xPV C w [0, 1] rfl (by decide) (ci := 8) (q0 := 0) rfl rfl) rfl rfl hl.1 rfl (lv_room (Nat.le_of_ble_eq_true rfl)) dX4_next_2 ⟨(Nat.le_of_ble_eq_true rfl), (Nat.le_of_ble_eq_true rfl)⟩) (fun f3453 H locs w => ?_)
  have w : xW G A s [(h0, .inr (8, [.ref h2, .ref h3, .ref h4, .ref h5, .ref h1, .int 0, .ref h6, .ref h7])), (h1, .inl (cy 3, 3, .inr (.inr (.inr (.inr (va_up (va_up (va_up (fun _ => none) 0 (some h8)) 1 (some h9)) 2 (some h10)))))))] H _ := w
  refine lv_astore_n (lv' := [(3, .ref h10), (0, .ref h0), (1, .int 2), (2, .int v0)]) C.1 C.2.1 dX4_next_5 rfl hl (by decide) rfl (fun ls hl => ?_)
  refine lv_iload_n C.1 C.2.1 dX4_next_6 rfl (lv_at hl 3 rfl) ?_
  refine lv_iconst (v := 1) C.1 C.2.1 dX4_next_7 (by decide) ?_
  refine lv_icmp_lt (tgt := 17) C.1 C.2.1 dX4_next_8 (by decide) (fun _ => ?_) (fun c9 => absurd p0 c9)
  exact x_thr C w hno hl.1 (by decide) (List.mem_cons_of_mem _ gw_95) (List.mem_cons_of_mem _ gw_96) (tx := "many is not 1 to 24") (List.mem_of_getElem? (i := 4) rfl) (xat_203 C (fun w h => List.mem_cons_of_mem _ h)) xatg_203 dX4_next_17 dX4_next_20 dX4_next_21 dX4_next_23 dX4_next_26 (Nat.le_of_ble_eq_true rfl) (Nat.le_of_ble_eq_true rfl) (Nat.le_of_ble_eq_true rfl) (Nat.le_of_ble_eq_true rfl) rfl rfl (fun _ => 0) rfl
set_option maxHeartbeats 4000000 in
set_option maxRecDepth 100000 in
theorem c496_L_next (l : Launch) (G : va_G) (cy : Nat → ClassId) (sa : String → Nat → Nat) (sv : Nat → Nat) (h0 h1 h2 h3 h4 h5 h6 h7 h8 h9 h10 h11 : Nat) (v0 : Int32) (p0 : v0 < 1) : xM l G cy sa sv yL_next (Cond.codeWith yL_next cL_next 5 (some .int) [(0, 10, 13, 91), (0, 10, 17, 19)] :: XG) { frames := 10, cells := 1, slots := 6, locals := 297 } [.ref h0, .int 2, .int v0, .ref h1] [(h0, .inr (8, [.ref h3, .ref h4, .ref h5, .ref h6, .ref h2, .int 0, .ref h7, .ref h8])), (h2, .inl (cy 3, 3, .inr (.inr (.inr (.inr (va_up (va_up (va_up (fun _ => none) 0 (some h9)) 1 (some h10)) 2 (some h11)))))))] (xQi G (fun f => [(h0, .inr (8, [.ref h3, .ref h4, .ref h5, .ref h6, .ref h2, .int 0, .ref h7, .ref h8])), (h2, .inl (cy 3, 3, .inr (.inr (.inr (.inr (va_up (va_up (va_up (fun _ => none) 0 (some h9)) 1 (some h10)) 2 (some h11)))))))]) 2) := by
  refine xofH (by decide) (Nat.le_of_ble_eq_true rfl) (fun p e s m below meth c A C w hr hn hT ls hl => ?_)
  have hl : lv_has ls 5 [(0, .ref h0), (1, .int 2), (2, .int v0), (3, .ref h1)] := hl
  refine lv_aload_n C.1 C.2.1 dL_next_0 rfl (lv_at hl 3 rfl) ?_
  refine lv_aload_n C.1 C.2.1 dL_next_1 rfl (lv_at hl 0 rfl) ?_
  refine lv_iload_n C.1 C.2.1 dL_next_2 rfl (lv_at hl 1 rfl) ?_
  refine lv_iload_n C.1 C.2.1 dL_next_3 rfl (lv_at hl 2 rfl) ?_
  refine x_kx C w [0, 1] [] rfl rfl (by decide) (by decide) (vx_runV (As := [.int 2, .int v0]) (rest := [.ref h1]) (xfix C) (c495_X4_next l G cy sa sv h0 h2 h3 h4 h5 h6 h7 h8 h9 h10 h11 v0 p0 (xtr C) _) (cwV 2 (xhts C) (xgV (maxL := 0) (cc := ⟨#[]⟩) (ret := none) gw_870 gw_871 gw_872 gw_2 gc_X4_next) rfl rfl rfl (by decide +kernel) ⟨(Nat.le_of_ble_eq_true rfl), (Nat.le_of_ble_eq_true rfl)⟩) (xPV C w [0, 1] rfl (by decide) (ci := 8) (q0 := 0) rfl rfl) rfl rfl hl.1 rfl (lv_room (Nat.le_of_ble_eq_true rfl)) dL_next_4 ⟨(Nat.le_of_ble_eq_true rfl), (Nat.le_of_ble_eq_true rfl)⟩) (fun f3454 H locs ce q9 w hce hcv hcl => ?_)
  have w : xW G A s [(h0, .inr (8, [.ref h3, .ref h4, .ref h5, .ref h6, .ref h2, .int 0, .ref h7, .ref h8])), (h2, .inl (cy 3, 3, .inr (.inr (.inr (.inr (va_up (va_up (va_up (fun _ => none) 0 (some h9)) 1 (some h10)) 2 (some h11)))))))] H _ := w
  refine vx_widen (k := 1) (n := 6) (Nat.le_of_ble_eq_true rfl) (Nat.le_of_ble_eq_true rfl) ?_
  refine vx_catch (xown C) [⟨0, 10, 13, 91⟩] ⟨0, 10, 17, 19⟩ [] hT (fun z hz => Or.inr (by cases List.mem_singleton.mp hz; exact ⟨by decide, "java/lang/IndexOutOfBoundsException", xhts C _ (List.mem_cons_of_mem _ gw_868), xs_n2 (xS C)⟩)) (by decide) (by decide) (xhts C _ (List.mem_cons_of_mem _ gw_104)) (va_any rfl (xs_c1 (xS C))) hce hcv hcl ?_
  refine lv_astore (lv' := [(4, .ref q9), (0, .ref h0), (1, .int 2), (2, .int v0), (3, .ref h1)]) C.1 C.2.1 dL_next_17 hl (by decide) rfl (fun ls hl => ?_)
  refine lv_iconst (v := 2) C.1 C.2.1 dL_next_19 (by decide) ?_
  exact x_iret C w hr (fun _ => 0) rfl rfl dL_next_20 (Nat.le_of_ble_eq_true rfl) (Nat.le_of_ble_eq_true rfl)
set_option maxHeartbeats 4000000 in
set_option maxRecDepth 100000 in
theorem c497_X6_next (l : Launch) (G : va_G) (cy : Nat → ClassId) (sa : String → Nat → Nat) (sv : Nat → Nat) (h0 h1 h2 h3 h4 h5 h6 h7 : Nat) (v0 : Int32) (p0 : v0 < 1) : xM l G cy sa sv yX6_next (Cond.code yX6_next cX6_next 6 (some (.object "java/lang/String")) :: XG) { frames := 9, cells := 0, slots := 0, locals := 272 } [.ref h0, .int 2, .int v0] [(h0, .inr (10, [.ref h1, .ref h2, .ref h3, .ref h4, .ref h5, .ref h6, .ref h7, .int 0, .int 0]))] (xQr G (fun f => [(h0, .inr (10, [.ref h1, .ref h2, .ref h3, .ref h4, .ref h5, .ref h6, .ref h7, .int 0, .int 2]))]) (fun f => (sa "TwinindexModel" 122))) := by
  refine xof (by decide) (Nat.le_of_ble_eq_true rfl) (fun p e s m below meth c A C w hr hn ls hl => ?_)
  have hl : lv_has ls 6 [(0, .ref h0), (1, .int 2), (2, .int v0)] := hl
  refine lv_aload_n C.1 C.2.1 dX6_next_0 rfl (lv_at hl 0 rfl) ?_
  refine lv_iload_n C.1 C.2.1 dX6_next_1 rfl (lv_at hl 1 rfl) ?_
  refine x_ki C w [] [0] rfl rfl (by decide) (by decide) (va_runS (As := [.int 2]) (rest := [.ref h0]) (xfix C) (c460_X6_isNoPager l G cy sa sv (xtr C) _) (va_cwS 1 (xhts C) (xgS gw_860 gw_861 gw_58 gc_X6_isNoPager) rfl rfl rfl (by decide +kernel) ⟨(Nat.le_of_ble_eq_true rfl), (Nat.le_of_ble_eq_true rfl)⟩) (xPS C w [] rfl (by decide)) rfl rfl hl.1 rfl (lv_room (Nat.le_of_ble_eq_true rfl)) dX6_next_2 ⟨(Nat.le_of_ble_eq_true rfl), (Nat.le_of_ble_eq_true rfl)⟩) (fun f3457 H locs w => ?_)
  have w : xW G A s [(h0, .inr (10, [.ref h1, .ref h2, .ref h3, .ref h4, .ref h5, .ref h6, .ref h7, .int 0, .int 0]))] H _ := w
  refine lv_iconst (v := 1) C.1 C.2.1 dX6_next_5 (by decide) ?_
  refine x_ki C w [0] [] rfl rfl (by decide) (by decide) (va_runV (As := [.int 0, .int 1]) (rest := []) (xfix C) (c46_X6_start l G cy sa sv h0 h1 h2 h3 h4 h5 h6 h7 (xtr C) _) (cwV 2 (xhts C) (xgV (maxL := 0) (cc := ⟨#[]⟩) (ret := none) gw_114 gw_115 gw_116 gw_58 gc_X6_start) rfl rfl rfl (by decide +kernel) ⟨(Nat.le_of_ble_eq_true rfl), (Nat.le_of_ble_eq_true rfl)⟩) (xPV C w [0] rfl (by decide) (ci := 10) (q0 := 0) rfl rfl) rfl rfl hl.1 rfl (lv_room (Nat.le_of_ble_eq_true rfl)) dX6_next_6 ⟨(Nat.le_of_ble_eq_true rfl), (Nat.le_of_ble_eq_true rfl)⟩) (fun f3458 H locs w => ?_)
  have w : xW G A s [(h0, .inr (10, [.ref h1, .ref h2, .ref h3, .ref h4, .ref h5, .ref h6, .ref h7, .int 0, .int 0]))] H _ := w
  refine lv_if_ne (tgt := 36) C.1 C.2.1 dX6_next_9 (by decide) (fun c9 => absurd (by decide) c9) (fun _ => ?_)
  refine lv_aload_n C.1 C.2.1 dX6_next_12 rfl (lv_at hl 0 rfl) ?_
  refine lv_iload_n C.1 C.2.1 dX6_next_13 rfl (lv_at hl 2 rfl) ?_
  refine lv_iconst (v := 1) C.1 C.2.1 dX6_next_14 (by decide) ?_
  refine lv_icmp_lt (tgt := 24) C.1 C.2.1 dX6_next_15 (by decide) (fun _ => ?_) (fun c9 => absurd p0 c9)
  refine lv_iconst (v := 1) C.1 C.2.1 dX6_next_24 (by decide) ?_
  refine lv_goto (tgt := 29) C.1 C.2.1 dX6_next_25 (by decide) ?_
  refine lv_iconst (v := 2) C.1 C.2.1 dX6_next_29 (by decide) ?_
  refine x_ki C w [0] [] rfl rfl (by decide) (by decide) (va_runV (As := [.int 1, .int 2]) (rest := []) (xfix C) (c149_X6_fails l G cy sa sv h0 h1 h2 h3 h4 h5 h6 h7 (xtr C) _) (cwV 2 (xhts C) (xgV (maxL := 0) (cc := ⟨#[]⟩) (ret := none) gw_203 gw_204 gw_205 gw_58 gc_X6_fails) rfl rfl rfl (by decide +kernel) ⟨(Nat.le_of_ble_eq_true rfl), (Nat.le_of_ble_eq_true rfl)⟩) (xPV C w [0] rfl (by decide) (ci := 10) (q0 := 0) rfl rfl) rfl rfl hl.1 rfl (lv_room (Nat.le_of_ble_eq_true rfl)) dX6_next_30 ⟨(Nat.le_of_ble_eq_true rfl), (Nat.le_of_ble_eq_true rfl)⟩) (fun f3459 H locs w => ?_)
  have w : xW G A s [(h0, .inr (10, [.ref h1, .ref h2, .ref h3, .ref h4, .ref h5, .ref h6, .ref h7, .int 0, .int 2]))] H _ := w
  refine lv_if_eq (tgt := 39) C.1 C.2.1 dX6_next_33 (by decide) (fun c9 => absurd c9 (by decide)) (fun _ => ?_)
  refine x_ldcS C (tx := "") (List.mem_of_getElem? (i := 11) rfl) dX6_next_36 ?_
  exact x_aret C w hr (Or.inl ⟨_, rfl⟩) (fun _ => 0) rfl rfl dX6_next_38 (Nat.le_of_ble_eq_true rfl) (Nat.le_of_ble_eq_true rfl)
set_option maxHeartbeats 4000000 in
set_option maxRecDepth 100000 in
theorem c498_X4_next (l : Launch) (G : va_G) (cy : Nat → ClassId) (sa : String → Nat → Nat) (sv : Nat → Nat) (h0 h1 h2 h3 h4 h5 h6 h7 h8 h9 h10 h11 h12 h13 h14 : Nat) (v0 : Int32) (p0 : ¬ v0 < 1) (p1 : v0 ≤ 24) (p2 : 0 < (0 + v0)) : xM l G cy sa sv yX4_next (Cond.code yX4_next cX4_next 7 (some (.object "java/lang/String")) :: XG) { frames := 15, cells := 4, slots := 24, locals := 404 } [.ref h0, .int 2, .int v0] [(h0, .inr (8, [.ref h3, .ref h6, .ref h7, .ref h8, .ref h1, .int 0, .ref h5, .ref h9])), (h1, .inl (cy 3, 3, .inr (.inr (.inr (.inr (va_up (va_up (va_up (fun _ => none) 0 (some h10)) 1 (some h11)) 2 (some h2))))))), (h2, .inr (4, [.int 0, .int 0, .int 0])), (h3, .inr (7, [.ref h4, .ref h12])), (h4, .inr (6, [.ref h13, .int 0])), (h5, .inr (6, [.ref h14, .int 0]))] (xQr G (fun f => [(h0, .inr (8, [.ref h3, .ref h6, .ref h7, .ref h8, .ref h1, .int 0, .ref h5, .ref h9])), (h1, .inl (cy 3, 3, .inr (.inr (.inr (.inr (va_up (va_up (va_up (fun _ => none) 0 (some h10)) 1 (some h11)) 2 (some h2))))))), (h2, .inr (4, [.int 0, .int 0, .int 0])), (h3, .inr (7, [.ref h4, .ref h12])), (h4, .inr (6, [.ref h13, .int 0])), (h5, .inr (6, [.ref h14, .int 0])), ((f 0), .inr (0, [.ref (f 1), .int 0, .int 0, .int 0])), ((f 1), .inl (cy 0, 0, .inl (va_cpy (fun _ => 0) (fun _ => 0) 0 0 0)))]) (fun f => (f 0))) := by
  refine xof (by decide) (Nat.le_of_ble_eq_true rfl) (fun p e s m below meth c A C w hr hn ls hl => ?_)
  have hl : lv_has ls 7 [(0, .ref h0), (1, .int 2), (2, .int v0)] := hl
  refine lv_aload_n C.1 C.2.1 dX4_next_0 rfl (lv_at hl 0 rfl) ?_
  refine lv_iload_n C.1 C.2.1 dX4_next_1 rfl (lv_at hl 1 rfl) ?_
  refine x_kr C w [0, 1] [2, 3, 4, 5] rfl rfl (by decide) (by decide) (va_runV (As := [.int 2]) (rest := []) (xfix C) (c457_X4_pagerOf l G cy sa sv h0 h1 h3 h6 h7 h8 h5 h9 h10 h11 h2 (xtr C) _) (cwV 1 (xhts C) (xgV (maxL := 0) (cc := ⟨#[]⟩) (ret := none) gw_842 gw_843 gw_844 gw_2 gc_X4_pagerOf) rfl rfl rfl (by decide +kernel) ⟨(Nat.le_of_ble_eq_true rfl), (Nat.le_of_ble_eq_true rfl)⟩) (xPV C w [0, 1] rfl (by decide) (ci := 8) (q0 := 0) rfl rfl) rfl rfl hl.1 rfl (lv_room (Nat.le_of_ble_eq_true rfl)) dX4_next_2 ⟨(Nat.le_of_ble_eq_true rfl), (Nat.le_of_ble_eq_true rfl)⟩) (fun f3514 H locs w => ?_)
  have w : xW G A s [(h2, .inr (4, [.int 0, .int 0, .int 0])), (h3, .inr (7, [.ref h4, .ref h12])), (h4, .inr (6, [.ref h13, .int 0])), (h5, .inr (6, [.ref h14, .int 0])), (h0, .inr (8, [.ref h3, .ref h6, .ref h7, .ref h8, .ref h1, .int 0, .ref h5, .ref h9])), (h1, .inl (cy 3, 3, .inr (.inr (.inr (.inr (va_up (va_up (va_up (fun _ => none) 0 (some h10)) 1 (some h11)) 2 (some h2)))))))] H _ := w
  refine lv_astore_n (lv' := [(3, .ref h2), (0, .ref h0), (1, .int 2), (2, .int v0)]) C.1 C.2.1 dX4_next_5 rfl hl (by decide) rfl (fun ls hl => ?_)
  refine lv_iload_n C.1 C.2.1 dX4_next_6 rfl (lv_at hl 3 rfl) ?_
  refine lv_iconst (v := 1) C.1 C.2.1 dX4_next_7 (by decide) ?_
  refine lv_icmp_lt (tgt := 17) C.1 C.2.1 dX4_next_8 (by decide) (fun c9 => absurd c9 p0) (fun _ => ?_)
  refine lv_iload_n C.1 C.2.1 dX4_next_11 rfl (lv_at hl 3 rfl) ?_
  refine lv_bipush (v := 24) C.1 C.2.1 dX4_next_12 (by decide) ?_
  refine lv_icmp_le (tgt := 27) C.1 C.2.1 dX4_next_14 (by decide) (fun _ => ?_) (fun c9 => absurd p1 c9)
  refine lv_aload_n C.1 C.2.1 dX4_next_27 rfl (lv_at hl 0 rfl) ?_
  refine lv_aload_n C.1 C.2.1 dX4_next_28 rfl (lv_at hl 1 rfl) ?_
  refine x_get (v := .ref h3) C w 4 8 0 (xin_X4 _) rfl rfl (by decide) (List.mem_cons_of_mem _ gw_24) rfl rfl dX4_next_29 ?_
  refine x_ki C w [0] [1, 2, 3, 4, 5] rfl rfl (by decide) (by decide) (va_runV (As := [.ref h3]) (rest := []) (xfix C) (c475_X0_startIn l G cy sa sv h2 h3 (xtr C) _) (cwV 1 (xhts C) (xgV (maxL := 0) (cc := ⟨#[]⟩) (ret := none) gw_881 gw_882 gw_883 gw_46 gc_X0_startIn) rfl rfl rfl (by decide +kernel) ⟨(Nat.le_of_ble_eq_true rfl), (Nat.le_of_ble_eq_true rfl)⟩) (xPV C w [0] rfl (by decide) (ci := 4) (q0 := 0) rfl rfl) rfl rfl hl.1 rfl (lv_room (Nat.le_of_ble_eq_true rfl)) dX4_next_32 ⟨(Nat.le_of_ble_eq_true rfl), (Nat.le_of_ble_eq_true rfl)⟩) (fun f3515 H locs w => ?_)
  have w : xW G A s [(h3, .inr (7, [.ref h4, .ref h12])), (h4, .inr (6, [.ref h13, .int 0])), (h5, .inr (6, [.ref h14, .int 0])), (h0, .inr (8, [.ref h3, .ref h6, .ref h7, .ref h8, .ref h1, .int 0, .ref h5, .ref h9])), (h1, .inl (cy 3, 3, .inr (.inr (.inr (.inr (va_up (va_up (va_up (fun _ => none) 0 (some h10)) 1 (some h11)) 2 (some h2))))))), (h2, .inr (4, [.int 0, .int 0, .int 0]))] H _ := w
  refine lv_istore (lv' := [(4, .int 0), (3, .ref h2), (0, .ref h0), (1, .int 2), (2, .int v0)]) C.1 C.2.1 dX4_next_35 hl (by decide) rfl (fun ls hl => ?_)
  refine lv_iload C.1 C.2.1 dX4_next_37 (lv_at hl 0 rfl) ?_
  refine lv_iload_n C.1 C.2.1 dX4_next_39 rfl (lv_at hl 4 rfl) ?_
  refine lv_iadd C.1 C.2.1 dX4_next_40 ?_
  refine lv_aload_n C.1 C.2.1 dX4_next_41 rfl (lv_at hl 2 rfl) ?_
  refine x_get (v := .ref h3) C w 3 8 0 (xin_X4 _) rfl rfl (by decide) (List.mem_cons_of_mem _ gw_24) rfl rfl dX4_next_42 ?_
  refine x_ki C w [0, 1] [2, 3, 4, 5] rfl rfl (by decide) (by decide) (va_runV (As := []) (rest := [.int (0 + v0)]) (xfix C) (c22_X3_count l G cy sa sv h3 h4 h12 h13 (xtr C) _) (cwV 0 (xhts C) (xgV (maxL := 0) (cc := ⟨#[]⟩) (ret := none) gw_130 gw_131 gw_132 gw_7 gc_X3_count) rfl rfl rfl (by decide +kernel) ⟨(Nat.le_of_ble_eq_true rfl), (Nat.le_of_ble_eq_true rfl)⟩) (xPV C w [0, 1] rfl (by decide) (ci := 7) (q0 := 0) rfl rfl) rfl rfl hl.1 rfl (lv_room (Nat.le_of_ble_eq_true rfl)) dX4_next_45 ⟨(Nat.le_of_ble_eq_true rfl), (Nat.le_of_ble_eq_true rfl)⟩) (fun f3517 H locs w => ?_)
  have w : xW G A s [(h5, .inr (6, [.ref h14, .int 0])), (h0, .inr (8, [.ref h3, .ref h6, .ref h7, .ref h8, .ref h1, .int 0, .ref h5, .ref h9])), (h1, .inl (cy 3, 3, .inr (.inr (.inr (.inr (va_up (va_up (va_up (fun _ => none) 0 (some h10)) 1 (some h11)) 2 (some h2))))))), (h2, .inr (4, [.int 0, .int 0, .int 0])), (h3, .inr (7, [.ref h4, .ref h12])), (h4, .inr (6, [.ref h13, .int 0]))] H _ := w
  refine va_mmin C.1 C.2.1 (C.2.2.1.trans hl.1.symm) (xown C) (xhts C _ (List.mem_cons_of_mem _ gw_884)) (xhts C _ (List.mem_cons_of_mem _ gw_420)) (xhts C _ (List.mem_cons_of_mem _ gw_217)) (xhts C _ (List.mem_cons_of_mem _ gm_min)) (Nat.le_of_ble_eq_true rfl) (Nat.le_of_ble_eq_true rfl) (Nat.le_of_ble_eq_true rfl) (Nat.le_of_ble_eq_true rfl) dX4_next_48 ?_
  refine x_is (y := 0) (if_pos p2) ?_
  refine lv_istore (lv' := [(5, .int 0), (4, .int 0), (3, .ref h2), (0, .ref h0), (1, .int 2), (2, .int v0)]) C.1 C.2.1 dX4_next_51 hl (by decide) rfl (fun ls hl => ?_)
  refine lv_aload_n C.1 C.2.1 dX4_next_53 rfl (lv_at hl 3 rfl) ?_
  refine x_get (v := .ref h5) C w 1 8 6 (xin_X4 _) rfl rfl (by decide) (List.mem_cons_of_mem _ gw_51) rfl rfl dX4_next_54 ?_
  refine x_kv C w [0] [1, 2, 3, 4, 5] rfl rfl (by decide) (by decide) (va_runV (As := []) (rest := []) (xfix C) (c109_X2_empty l G cy sa sv h5 h14 (xtr C) _) (cwV 0 (xhts C) (xgV (maxL := 0) (cc := ⟨#[]⟩) (ret := none) gw_312 gw_313 gw_314 gw_11 gc_X2_empty) rfl rfl rfl (by decide +kernel) ⟨(Nat.le_of_ble_eq_true rfl), (Nat.le_of_ble_eq_true rfl)⟩) (xPV C w [0] rfl (by decide) (ci := 6) (q0 := 0) rfl rfl) rfl rfl hl.1 rfl (lv_room (Nat.le_of_ble_eq_true rfl)) dX4_next_57 ⟨(Nat.le_of_ble_eq_true rfl), (Nat.le_of_ble_eq_true rfl)⟩) (fun f3518 H locs w => ?_)
  have w : xW G A s [(h0, .inr (8, [.ref h3, .ref h6, .ref h7, .ref h8, .ref h1, .int 0, .ref h5, .ref h9])), (h1, .inl (cy 3, 3, .inr (.inr (.inr (.inr (va_up (va_up (va_up (fun _ => none) 0 (some h10)) 1 (some h11)) 2 (some h2))))))), (h2, .inr (4, [.int 0, .int 0, .int 0])), (h3, .inr (7, [.ref h4, .ref h12])), (h4, .inr (6, [.ref h13, .int 0])), (h5, .inr (6, [.ref h14, .int 0]))] H _ := w
  refine lv_iload C.1 C.2.1 dX4_next_60 (lv_at hl 1 rfl) ?_
  refine lv_istore (lv' := [(6, .int 0), (5, .int 0), (4, .int 0), (3, .ref h2), (0, .ref h0), (1, .int 2), (2, .int v0)]) C.1 C.2.1 dX4_next_62 hl (by decide) rfl (fun ls hl => ?_)
  refine lv_iload C.1 C.2.1 dX4_next_64 (lv_at hl 0 rfl) ?_
  refine lv_iload C.1 C.2.1 dX4_next_66 (lv_at hl 1 rfl) ?_
  refine lv_icmp_ge (tgt := 106) C.1 C.2.1 dX4_next_68 (by decide) (fun _ => ?_) (fun c9 => absurd (by decide) c9)
  refine lv_aload_n C.1 C.2.1 dX4_next_106 rfl (lv_at hl 4 rfl) ?_
  refine x_get (v := .ref h5) C w 0 8 6 (xin_X4 _) rfl rfl (by decide) (List.mem_cons_of_mem _ gw_51) rfl rfl dX4_next_107 ?_
  refine x_kr C w [5] [0, 1, 2, 3, 4] rfl rfl (by decide) (by decide) (va_runV (As := []) (rest := []) (xfix C) (c228_X2_joined l G cy sa sv h5 h14 (xtr C) _) (cwV 0 (xhts C) (xgV (maxL := 0) (cc := ⟨#[]⟩) (ret := none) gw_542 gw_543 gw_544 gw_11 gc_X2_joined) rfl rfl rfl (by decide +kernel) ⟨(Nat.le_of_ble_eq_true rfl), (Nat.le_of_ble_eq_true rfl)⟩) (xPV C w [5] rfl (by decide) (ci := 6) (q0 := 5) rfl rfl) rfl rfl hl.1 rfl (lv_room (Nat.le_of_ble_eq_true rfl)) dX4_next_110 ⟨(Nat.le_of_ble_eq_true rfl), (Nat.le_of_ble_eq_true rfl)⟩) (fun f3569 H locs w => ?_)
  have w : xW G A s [(h0, .inr (8, [.ref h3, .ref h6, .ref h7, .ref h8, .ref h1, .int 0, .ref h5, .ref h9])), (h1, .inl (cy 3, 3, .inr (.inr (.inr (.inr (va_up (va_up (va_up (fun _ => none) 0 (some h10)) 1 (some h11)) 2 (some h2))))))), (h2, .inr (4, [.int 0, .int 0, .int 0])), (h3, .inr (7, [.ref h4, .ref h12])), (h4, .inr (6, [.ref h13, .int 0])), (h5, .inr (6, [.ref h14, .int 0])), ((f3569 0), .inr (0, [.ref (f3569 1), .int 0, .int 0, .int 0])), ((f3569 1), .inl (cy 0, 0, .inl (va_cpy (fun _ => 0) (fun _ => 0) 0 0 0)))] H _ := w
  refine W.widen (k := 4) (n := 24) (Nat.le_of_ble_eq_true rfl) (Nat.le_of_ble_eq_true rfl) ?_
  exact x_aret C w hr (Or.inl ⟨_, rfl⟩) (fun k => match k with | 0 => (f3569 0) | 1 => (f3569 1) | _ => 0) rfl rfl dX4_next_113 (Nat.le_of_ble_eq_true rfl) (Nat.le_of_ble_eq_true rfl)
set_option maxHeartbeats 4000000 in
set_option maxRecDepth 100000 in
theorem c499_L_next (l : Launch) (G : va_G) (cy : Nat → ClassId) (sa : String → Nat → Nat) (sv : Nat → Nat) (h0 h1 h2 h3 h4 h5 h6 h7 h8 h9 h10 h11 h12 h13 h14 h15 : Nat) (v0 : Int32) (p0 : ¬ v0 < 1) (p1 : v0 ≤ 24) (p2 : 0 < (0 + v0)) : xM l G cy sa sv yL_next (Cond.codeWith yL_next cL_next 5 (some .int) [(0, 10, 13, 91), (0, 10, 17, 19)] :: XG) { frames := 16, cells := 4, slots := 24, locals := 430 } [.ref h0, .int 2, .int v0, .ref h1] [(h0, .inr (8, [.ref h4, .ref h7, .ref h8, .ref h9, .ref h2, .int 0, .ref h6, .ref h10])), (h2, .inl (cy 3, 3, .inr (.inr (.inr (.inr (va_up (va_up (va_up (fun _ => none) 0 (some h11)) 1 (some h12)) 2 (some h3))))))), (h3, .inr (4, [.int 0, .int 0, .int 0])), (h4, .inr (7, [.ref h5, .ref h13])), (h5, .inr (6, [.ref h14, .int 0])), (h6, .inr (6, [.ref h15, .int 0])), (h1, .inr (9, [.long 0, .null]))] (xQi G (fun f => [(h0, .inr (8, [.ref h4, .ref h7, .ref h8, .ref h9, .ref h2, .int 0, .ref h6, .ref h10])), (h2, .inl (cy 3, 3, .inr (.inr (.inr (.inr (va_up (va_up (va_up (fun _ => none) 0 (some h11)) 1 (some h12)) 2 (some h3))))))), (h3, .inr (4, [.int 0, .int 0, .int 0])), (h4, .inr (7, [.ref h5, .ref h13])), (h5, .inr (6, [.ref h14, .int 0])), (h6, .inr (6, [.ref h15, .int 0])), (h1, .inr (9, [.long 0, .ref (f 0)])), ((f 0), .inr (0, [.ref (f 1), .int 0, .int 0, .int 0])), ((f 1), .inl (cy 0, 0, .inl (va_cpy (fun _ => 0) (fun _ => 0) 0 0 0)))]) 0) := by
  refine xofH (by decide) (Nat.le_of_ble_eq_true rfl) (fun p e s m below meth c A C w hr hn hT ls hl => ?_)
  have hl : lv_has ls 5 [(0, .ref h0), (1, .int 2), (2, .int v0), (3, .ref h1)] := hl
  refine lv_aload_n C.1 C.2.1 dL_next_0 rfl (lv_at hl 3 rfl) ?_
  refine lv_aload_n C.1 C.2.1 dL_next_1 rfl (lv_at hl 0 rfl) ?_
  refine lv_iload_n C.1 C.2.1 dL_next_2 rfl (lv_at hl 1 rfl) ?_
  refine lv_iload_n C.1 C.2.1 dL_next_3 rfl (lv_at hl 2 rfl) ?_
  refine x_kr C w [0, 1, 2, 3, 4, 5] [6] rfl rfl (by decide) (by decide) (va_runV (As := [.int 2, .int v0]) (rest := [.ref h1]) (xfix C) (c498_X4_next l G cy sa sv h0 h2 h3 h4 h5 h6 h7 h8 h9 h10 h11 h12 h13 h14 h15 v0 p0 p1 p2 (xtr C) _) (cwV 2 (xhts C) (xgV (maxL := 0) (cc := ⟨#[]⟩) (ret := none) gw_870 gw_871 gw_872 gw_2 gc_X4_next) rfl rfl rfl (by decide +kernel) ⟨(Nat.le_of_ble_eq_true rfl), (Nat.le_of_ble_eq_true rfl)⟩) (xPV C w [0, 1, 2, 3, 4, 5] rfl (by decide) (ci := 8) (q0 := 0) rfl rfl) rfl rfl hl.1 rfl (lv_room (Nat.le_of_ble_eq_true rfl)) dL_next_4 ⟨(Nat.le_of_ble_eq_true rfl), (Nat.le_of_ble_eq_true rfl)⟩) (fun f3572 H locs w => ?_)
  have w : xW G A s [(h1, .inr (9, [.long 0, .null])), (h0, .inr (8, [.ref h4, .ref h7, .ref h8, .ref h9, .ref h2, .int 0, .ref h6, .ref h10])), (h2, .inl (cy 3, 3, .inr (.inr (.inr (.inr (va_up (va_up (va_up (fun _ => none) 0 (some h11)) 1 (some h12)) 2 (some h3))))))), (h3, .inr (4, [.int 0, .int 0, .int 0])), (h4, .inr (7, [.ref h5, .ref h13])), (h5, .inr (6, [.ref h14, .int 0])), (h6, .inr (6, [.ref h15, .int 0])), ((f3572 0), .inr (0, [.ref (f3572 1), .int 0, .int 0, .int 0])), ((f3572 1), .inl (cy 0, 0, .inl (va_cpy (fun _ => 0) (fun _ => 0) 0 0 0)))] H _ := w
  refine W.widen (k := 4) (n := 24) (Nat.le_of_ble_eq_true rfl) (Nat.le_of_ble_eq_true rfl) ?_
  refine x_putN (ty := (.object "java/lang/String")) (ty0 := tyX5) C w 0 9 1 (xin_X5 _) tyX5_ok nmX5 rfl rfl (by decide) (xs_f_s (xS C)) rfl rfl (by decide +kernel) rfl rfl (Nat.le_of_ble_eq_true rfl) dL_next_7 (fun H locs w => ?_)
  have w : xW G A s [(h1, .inr (9, [.long 0, .ref (f3572 0)])), (h0, .inr (8, [.ref h4, .ref h7, .ref h8, .ref h9, .ref h2, .int 0, .ref h6, .ref h10])), (h2, .inl (cy 3, 3, .inr (.inr (.inr (.inr (va_up (va_up (va_up (fun _ => none) 0 (some h11)) 1 (some h12)) 2 (some h3))))))), (h3, .inr (4, [.int 0, .int 0, .int 0])), (h4, .inr (7, [.ref h5, .ref h13])), (h5, .inr (6, [.ref h14, .int 0])), (h6, .inr (6, [.ref h15, .int 0])), ((f3572 0), .inr (0, [.ref (f3572 1), .int 0, .int 0, .int 0])), ((f3572 1), .inl (cy 0, 0, .inl (va_cpy (fun _ => 0) (fun _ => 0) 0 0 0)))] H _ := w
  refine lv_goto (tgt := 21) C.1 C.2.1 dL_next_10 (by decide) ?_
  refine lv_iconst (v := 0) C.1 C.2.1 dL_next_21 (by decide) ?_
  have w := w.sub (ws' := [(h0, .inr (8, [.ref h4, .ref h7, .ref h8, .ref h9, .ref h2, .int 0, .ref h6, .ref h10])), (h2, .inl (cy 3, 3, .inr (.inr (.inr (.inr (va_up (va_up (va_up (fun _ => none) 0 (some h11)) 1 (some h12)) 2 (some h3))))))), (h3, .inr (4, [.int 0, .int 0, .int 0])), (h4, .inr (7, [.ref h5, .ref h13])), (h5, .inr (6, [.ref h14, .int 0])), (h6, .inr (6, [.ref h15, .int 0])), (h1, .inr (9, [.long 0, .ref (f3572 0)])), ((f3572 0), .inr (0, [.ref (f3572 1), .int 0, .int 0, .int 0])), ((f3572 1), .inl (cy 0, 0, .inl (va_cpy (fun _ => 0) (fun _ => 0) 0 0 0)))]) [1, 2, 3, 4, 5, 6, 0, 7, 8] (by decide) rfl rfl
  exact x_iret C w hr (fun k => match k with | 0 => (f3572 0) | 1 => (f3572 1) | _ => 0) rfl rfl dL_next_22 (Nat.le_of_ble_eq_true rfl) (Nat.le_of_ble_eq_true rfl)
set_option maxHeartbeats 4000000 in
set_option maxRecDepth 100000 in
theorem c500_X6_left (l : Launch) (G : va_G) (cy : Nat → ClassId) (sa : String → Nat → Nat) (sv : Nat → Nat) (h0 h1 h2 h3 h4 h5 h6 h7 : Nat) : xM l G cy sa sv yX6_left (Cond.code yX6_left cX6_left 5 (some (.array .int)) :: XG) { frames := 13, cells := 4, slots := 10, locals := 354 } [.ref h0, .int 2] [(h0, .inr (10, [.ref h1, .ref h2, .ref h3, .ref h4, .ref h5, .ref h6, .ref h7, .int 0, .int 0])), (h1, .inr (3, [.int 0, .ref (sv 0), .int 0]))] (xQr G (fun f => [(h0, .inr (10, [.ref h1, .ref h2, .ref h3, .ref h4, .ref h5, .ref h6, .ref h7, .int 0, .int 0])), (h1, .inr (3, [.int 0, .ref (sv 0), .int 0])), ((f 0), .inl (cy 1, 0, .inl (fun _ => 0)))]) (fun f => (f 0))) := by
  refine xof (by decide) (Nat.le_of_ble_eq_true rfl) (fun p e s m below meth c A C w hr hn ls hl => ?_)
  have hl : lv_has ls 5 [(0, .ref h0), (1, .int 2)] := hl
  refine x_new (fs := [.int 0, .null, .int 0]) (ty0 := tyJx4a65c) C w 3 (xin_Jx4a65c _) tyJx4a65c_ok rfl (List.mem_cons_of_mem _ gw_60) (List.mem_cons_of_mem _ gw_61) (List.mem_cons_of_mem _ gw_62) (fun j hj => by rcases (show j = 0 ∨ j = 1 ∨ j = 2 by omega) with rfl | rfl | rfl <;> rfl) (Nat.le_of_ble_eq_true rfl) (Nat.le_of_ble_eq_true rfl) dX6_left_0 (fun q3597 H w => ?_)
  have w : xW G A s [(h0, .inr (10, [.ref h1, .ref h2, .ref h3, .ref h4, .ref h5, .ref h6, .ref h7, .int 0, .int 0])), (h1, .inr (3, [.int 0, .ref (sv 0), .int 0])), (q3597, .inr (3, [.int 0, .null, .int 0]))] H _ := w
  refine W.widen (k := 1) (n := 3) (Nat.le_of_ble_eq_true rfl) (Nat.le_of_ble_eq_true rfl) ?_
  refine lv_dup C.1 C.2.1 dX6_left_3 rfl ?_
  refine x_kv C w [2] [0, 1] rfl rfl (by decide) (by decide) (va_runI (As := []) (rest := [.ref q3597]) (xfix C) (c10_Jx4a65c_init_da8c8 l G cy sa sv q3597 (xtr C) _) (cwI 0 (xhts C) (xgI gc_Jx4a65c_init_da8c8) rfl rfl rfl (xhts C _ (List.mem_cons_of_mem _ gw_62)) (xhts C _ (List.mem_cons_of_mem _ gw_76)) (xhts C _ (List.mem_cons_of_mem _ gw_77)) rfl (by decide +kernel) ⟨(Nat.le_of_ble_eq_true rfl), (Nat.le_of_ble_eq_true rfl)⟩) (xPS C w [2] rfl (by decide)) rfl rfl hl.1 rfl (lv_room (Nat.le_of_ble_eq_true rfl)) dX6_left_4 ⟨(Nat.le_of_ble_eq_true rfl), (Nat.le_of_ble_eq_true rfl)⟩) (fun f3600 H locs w => ?_)
  have w : xW G A s [(h0, .inr (10, [.ref h1, .ref h2, .ref h3, .ref h4, .ref h5, .ref h6, .ref h7, .int 0, .int 0])), (h1, .inr (3, [.int 0, .ref (sv 0), .int 0])), (q3597, .inr (3, [.int 0, .ref (sv 0), .int 0]))] H _ := w
  refine lv_astore_n (lv' := [(2, .ref q3597), (0, .ref h0), (1, .int 2)]) C.1 C.2.1 dX6_left_7 rfl hl (by decide) rfl (fun ls hl => ?_)
  refine lv_aload_n C.1 C.2.1 dX6_left_8 rfl (lv_at hl 1 rfl) ?_
  refine x_kr C w [0, 1] [2] rfl rfl (by decide) (by decide) (va_runV (As := []) (rest := []) (xfix C) (c479_X6_all l G cy sa sv h0 h1 h2 h3 h4 h5 h6 h7 (xtr C) _) (cwV 0 (xhts C) (xgV (maxL := 0) (cc := ⟨#[]⟩) (ret := none) gw_888 gw_889 gw_890 gw_58 gc_X6_all) rfl rfl rfl (by decide +kernel) ⟨(Nat.le_of_ble_eq_true rfl), (Nat.le_of_ble_eq_true rfl)⟩) (xPV C w [0, 1] rfl (by decide) (ci := 10) (q0 := 0) rfl rfl) rfl rfl hl.1 rfl (lv_room (Nat.le_of_ble_eq_true rfl)) dX6_left_9 ⟨(Nat.le_of_ble_eq_true rfl), (Nat.le_of_ble_eq_true rfl)⟩) (fun f3613 H locs w => ?_)
  have w : xW G A s [(q3597, .inr (3, [.int 0, .ref (sv 0), .int 0])), (h0, .inr (10, [.ref h1, .ref h2, .ref h3, .ref h4, .ref h5, .ref h6, .ref h7, .int 0, .int 0])), (h1, .inr (3, [.int 0, .ref (sv 0), .int 0])), ((f3613 0), .inr (3, [.int 0, .ref (sv 0), .int 0]))] H _ := w
  refine W.widen (k := 2) (n := 6) (Nat.le_of_ble_eq_true rfl) (Nat.le_of_ble_eq_true rfl) ?_
  refine x_kr C w [3] [0, 1, 2] rfl rfl (by decide) (by decide) (va_runV (As := []) (rest := []) (xfix C) (c390_Jx4a65c_iterator_32c93 l G cy sa sv (f3613 0) (xtr C) _) (cwV 0 (xhts C) (xgV (maxL := 0) (cc := ⟨#[]⟩) (ret := none) gw_738 gw_739 gw_740 gw_62 gc_Jx4a65c_iterator_32c93) rfl rfl rfl (by decide +kernel) ⟨(Nat.le_of_ble_eq_true rfl), (Nat.le_of_ble_eq_true rfl)⟩) (xPV C w [3] rfl (by decide) (ci := 3) (q0 := 3) rfl rfl) rfl rfl hl.1 rfl (lv_room (Nat.le_of_ble_eq_true rfl)) dX6_left_12 ⟨(Nat.le_of_ble_eq_true rfl), (Nat.le_of_ble_eq_true rfl)⟩) (fun f3619 H locs w => ?_)
  have w : xW G A s [(q3597, .inr (3, [.int 0, .ref (sv 0), .int 0])), (h0, .inr (10, [.ref h1, .ref h2, .ref h3, .ref h4, .ref h5, .ref h6, .ref h7, .int 0, .int 0])), (h1, .inr (3, [.int 0, .ref (sv 0), .int 0])), ((f3613 0), .inr (3, [.int 0, .ref (sv 0), .int 0])), ((f3619 0), .inr (2, [.int 0, .int (-1), .int 0, .ref (f3613 0)]))] H _ := w
  refine W.widen (k := 3) (n := 10) (Nat.le_of_ble_eq_true rfl) (Nat.le_of_ble_eq_true rfl) ?_
  refine lv_astore_n (lv' := [(3, .ref (f3619 0)), (2, .ref q3597), (0, .ref h0), (1, .int 2)]) C.1 C.2.1 dX6_left_15 rfl hl (by decide) rfl (fun ls hl => ?_)
  refine lv_aload_n C.1 C.2.1 dX6_left_16 rfl (lv_at hl 0 rfl) ?_
  refine x_kFi C w [4, 3] [0, 1, 2] rfl rfl (by decide) (by decide) (va_runF ((xK C).1 2 _ rfl).2 (As := []) (rest := []) (xfix C) (c391_Jx35411_hasNext_aae02 l G cy sa sv (f3619 0) (f3613 0) (xtr C) _) (va_cwF 0 (xhts C) (xgF (x := ⟨"java/util/Iterator", "hasNext", "()Z"⟩) gw_743 gw_744 gw_745 gw_728 gc_Jx35411_hasNext_aae02) rfl rfl rfl (xs_fw (xS C)) (by decide +kernel) ⟨(Nat.le_of_ble_eq_true rfl), (Nat.le_of_ble_eq_true rfl)⟩) (xPV C w [4, 3] rfl (by decide) (ci := 2) (q0 := 4) rfl rfl) rfl rfl hl.1 rfl (lv_room (Nat.le_of_ble_eq_true rfl)) dX6_left_17 ⟨(Nat.le_of_ble_eq_true rfl), (Nat.le_of_ble_eq_true rfl)⟩) (fun f3620 H locs w => ?_)
  have w : xW G A s [(q3597, .inr (3, [.int 0, .ref (sv 0), .int 0])), (h0, .inr (10, [.ref h1, .ref h2, .ref h3, .ref h4, .ref h5, .ref h6, .ref h7, .int 0, .int 0])), (h1, .inr (3, [.int 0, .ref (sv 0), .int 0])), ((f3619 0), .inr (2, [.int 0, .int (-1), .int 0, .ref (f3613 0)])), ((f3613 0), .inr (3, [.int 0, .ref (sv 0), .int 0]))] H _ := w
  refine lv_if_eq (tgt := 68) C.1 C.2.1 dX6_left_22 (by decide) (fun _ => ?_) (fun c9 => absurd (by decide) c9)
  refine lv_aload_n C.1 C.2.1 dX6_left_68 rfl (lv_at hl 1 rfl) ?_
  refine x_kr C w [0] [1, 2, 3, 4] rfl rfl (by decide) (by decide) (va_runS (As := [.ref q3597]) (rest := []) (xfix C) (c115_X6_keysOf l G cy sa sv q3597 (xtr C) _) (va_cwS 1 (xhts C) (xgS gw_330 gw_331 gw_58 gc_X6_keysOf) rfl rfl rfl (by decide +kernel) ⟨(Nat.le_of_ble_eq_true rfl), (Nat.le_of_ble_eq_true rfl)⟩) (xPS C w [0] rfl (by decide)) rfl rfl hl.1 rfl (lv_room (Nat.le_of_ble_eq_true rfl)) dX6_left_69 ⟨(Nat.le_of_ble_eq_true rfl), (Nat.le_of_ble_eq_true rfl)⟩) (fun f3626 H locs w => ?_)
  have w : xW G A s [(h0, .inr (10, [.ref h1, .ref h2, .ref h3, .ref h4, .ref h5, .ref h6, .ref h7, .int 0, .int 0])), (h1, .inr (3, [.int 0, .ref (sv 0), .int 0])), ((f3619 0), .inr (2, [.int 0, .int (-1), .int 0, .ref (f3613 0)])), ((f3613 0), .inr (3, [.int 0, .ref (sv 0), .int 0])), (q3597, .inr (3, [.int 0, .ref (sv 0), .int 0])), ((f3626 0), .inl (cy 1, 0, .inl (fun _ => 0)))] H _ := w
  refine W.widen (k := 4) (n := 10) (Nat.le_of_ble_eq_true rfl) (Nat.le_of_ble_eq_true rfl) ?_
  have w := w.sub (ws' := [(h0, .inr (10, [.ref h1, .ref h2, .ref h3, .ref h4, .ref h5, .ref h6, .ref h7, .int 0, .int 0])), (h1, .inr (3, [.int 0, .ref (sv 0), .int 0])), ((f3626 0), .inl (cy 1, 0, .inl (fun _ => 0)))]) [0, 1, 5] (by decide) rfl rfl
  exact x_aret C w hr (Or.inr ⟨_, rfl⟩) (fun k => match k with | 0 => (f3626 0) | _ => 0) rfl rfl dX6_left_72 (Nat.le_of_ble_eq_true rfl) (Nat.le_of_ble_eq_true rfl)
set_option maxHeartbeats 4000000 in
set_option maxRecDepth 100000 in
theorem c501_X6_next (l : Launch) (G : va_G) (cy : Nat → ClassId) (sa : String → Nat → Nat) (sv : Nat → Nat) (h0 h1 h2 h3 h4 h5 h6 h7 : Nat) (v0 : Int32) (p0 : ¬ v0 < 1) (p1 : v0 ≤ 24) (p2 : 0 < v0) : xM l G cy sa sv yX6_next (Cond.code yX6_next cX6_next 6 (some (.object "java/lang/String")) :: XG) { frames := 14, cells := 5, slots := 10, locals := 378 } [.ref h0, .int 2, .int v0] [(h0, .inr (10, [.ref h1, .ref h2, .ref h3, .ref h4, .ref h5, .ref h6, .ref h7, .int 0, .int 0])), (h1, .inr (3, [.int 0, .ref (sv 0), .int 0]))] (xQr G (fun f => [(h0, .inr (10, [.ref h1, .ref h2, .ref h3, .ref h4, .ref h5, .ref h6, .ref h7, .int 0, .int 0])), (h1, .inr (3, [.int 0, .ref (sv 0), .int 0]))]) (fun f => (sa "TwinindexModel" 122))) := by
  refine xof (by decide) (Nat.le_of_ble_eq_true rfl) (fun p e s m below meth c A C w hr hn ls hl => ?_)
  have hl : lv_has ls 6 [(0, .ref h0), (1, .int 2), (2, .int v0)] := hl
  refine lv_aload_n C.1 C.2.1 dX6_next_0 rfl (lv_at hl 0 rfl) ?_
  refine lv_iload_n C.1 C.2.1 dX6_next_1 rfl (lv_at hl 1 rfl) ?_
  refine x_ki C w [] [0, 1] rfl rfl (by decide) (by decide) (va_runS (As := [.int 2]) (rest := [.ref h0]) (xfix C) (c460_X6_isNoPager l G cy sa sv (xtr C) _) (va_cwS 1 (xhts C) (xgS gw_860 gw_861 gw_58 gc_X6_isNoPager) rfl rfl rfl (by decide +kernel) ⟨(Nat.le_of_ble_eq_true rfl), (Nat.le_of_ble_eq_true rfl)⟩) (xPS C w [] rfl (by decide)) rfl rfl hl.1 rfl (lv_room (Nat.le_of_ble_eq_true rfl)) dX6_next_2 ⟨(Nat.le_of_ble_eq_true rfl), (Nat.le_of_ble_eq_true rfl)⟩) (fun f3586 H locs w => ?_)
  have w : xW G A s [(h0, .inr (10, [.ref h1, .ref h2, .ref h3, .ref h4, .ref h5, .ref h6, .ref h7, .int 0, .int 0])), (h1, .inr (3, [.int 0, .ref (sv 0), .int 0]))] H _ := w
  refine lv_iconst (v := 1) C.1 C.2.1 dX6_next_5 (by decide) ?_
  refine x_ki C w [0] [1] rfl rfl (by decide) (by decide) (va_runV (As := [.int 0, .int 1]) (rest := []) (xfix C) (c46_X6_start l G cy sa sv h0 h1 h2 h3 h4 h5 h6 h7 (xtr C) _) (cwV 2 (xhts C) (xgV (maxL := 0) (cc := ⟨#[]⟩) (ret := none) gw_114 gw_115 gw_116 gw_58 gc_X6_start) rfl rfl rfl (by decide +kernel) ⟨(Nat.le_of_ble_eq_true rfl), (Nat.le_of_ble_eq_true rfl)⟩) (xPV C w [0] rfl (by decide) (ci := 10) (q0 := 0) rfl rfl) rfl rfl hl.1 rfl (lv_room (Nat.le_of_ble_eq_true rfl)) dX6_next_6 ⟨(Nat.le_of_ble_eq_true rfl), (Nat.le_of_ble_eq_true rfl)⟩) (fun f3587 H locs w => ?_)
  have w : xW G A s [(h1, .inr (3, [.int 0, .ref (sv 0), .int 0])), (h0, .inr (10, [.ref h1, .ref h2, .ref h3, .ref h4, .ref h5, .ref h6, .ref h7, .int 0, .int 0]))] H _ := w
  refine lv_if_ne (tgt := 36) C.1 C.2.1 dX6_next_9 (by decide) (fun c9 => absurd (by decide) c9) (fun _ => ?_)
  refine lv_aload_n C.1 C.2.1 dX6_next_12 rfl (lv_at hl 0 rfl) ?_
  refine lv_iload_n C.1 C.2.1 dX6_next_13 rfl (lv_at hl 2 rfl) ?_
  refine lv_iconst (v := 1) C.1 C.2.1 dX6_next_14 (by decide) ?_
  refine lv_icmp_lt (tgt := 24) C.1 C.2.1 dX6_next_15 (by decide) (fun c9 => absurd c9 p0) (fun _ => ?_)
  refine lv_iload_n C.1 C.2.1 dX6_next_18 rfl (lv_at hl 2 rfl) ?_
  refine lv_bipush (v := 24) C.1 C.2.1 dX6_next_19 (by decide) ?_
  refine lv_icmp_le (tgt := 28) C.1 C.2.1 dX6_next_21 (by decide) (fun _ => ?_) (fun c9 => absurd p1 c9)
  refine lv_iconst (v := 0) C.1 C.2.1 dX6_next_28 (by decide) ?_
  refine lv_iconst (v := 2) C.1 C.2.1 dX6_next_29 (by decide) ?_
  refine x_ki C w [] [0, 1] rfl rfl (by decide) (by decide) (va_runV (As := [.int 0, .int 2]) (rest := []) (xfix C) (c49_X6_fails l G cy sa sv h0 (xtr C) _) (cwV 2 (xhts C) (xgV (maxL := 0) (cc := ⟨#[]⟩) (ret := none) gw_203 gw_204 gw_205 gw_58 gc_X6_fails) rfl rfl rfl (by decide +kernel) ⟨(Nat.le_of_ble_eq_true rfl), (Nat.le_of_ble_eq_true rfl)⟩) (xPV C w [] rfl (by decide) (ci := 10) (q0 := 1) rfl rfl) rfl rfl hl.1 rfl (lv_room (Nat.le_of_ble_eq_true rfl)) dX6_next_30 ⟨(Nat.le_of_ble_eq_true rfl), (Nat.le_of_ble_eq_true rfl)⟩) (fun f3588 H locs w => ?_)
  have w : xW G A s [(h1, .inr (3, [.int 0, .ref (sv 0), .int 0])), (h0, .inr (10, [.ref h1, .ref h2, .ref h3, .ref h4, .ref h5, .ref h6, .ref h7, .int 0, .int 0]))] H _ := w
  refine lv_if_eq (tgt := 39) C.1 C.2.1 dX6_next_33 (by decide) (fun _ => ?_) (fun c9 => absurd (by decide) c9)
  refine lv_aload_n C.1 C.2.1 dX6_next_39 rfl (lv_at hl 0 rfl) ?_
  refine lv_iload_n C.1 C.2.1 dX6_next_40 rfl (lv_at hl 1 rfl) ?_
  refine x_kr C w [1, 0] [] rfl rfl (by decide) (by decide) (va_runV (As := [.int 2]) (rest := []) (xfix C) (c500_X6_left l G cy sa sv h0 h1 h2 h3 h4 h5 h6 h7 (xtr C) _) (cwV 1 (xhts C) (xgV (maxL := 0) (cc := ⟨#[]⟩) (ret := none) gw_892 gw_893 gw_894 gw_58 gc_X6_left) rfl rfl rfl (by decide +kernel) ⟨(Nat.le_of_ble_eq_true rfl), (Nat.le_of_ble_eq_true rfl)⟩) (xPV C w [1, 0] rfl (by decide) (ci := 10) (q0 := 1) rfl rfl) rfl rfl hl.1 rfl (lv_room (Nat.le_of_ble_eq_true rfl)) dX6_next_41 ⟨(Nat.le_of_ble_eq_true rfl), (Nat.le_of_ble_eq_true rfl)⟩) (fun f3628 H locs w => ?_)
  have w : xW G A s [(h0, .inr (10, [.ref h1, .ref h2, .ref h3, .ref h4, .ref h5, .ref h6, .ref h7, .int 0, .int 0])), (h1, .inr (3, [.int 0, .ref (sv 0), .int 0])), ((f3628 0), .inl (cy 1, 0, .inl (fun _ => 0)))] H _ := w
  refine W.widen (k := 4) (n := 10) (Nat.le_of_ble_eq_true rfl) (Nat.le_of_ble_eq_true rfl) ?_
  refine lv_astore_n (lv' := [(3, .ref (f3628 0)), (0, .ref h0), (1, .int 2), (2, .int v0)]) C.1 C.2.1 dX6_next_44 rfl hl (by decide) rfl (fun ls hl => ?_)
  refine lv_iload_n C.1 C.2.1 dX6_next_45 rfl (lv_at hl 3 rfl) ?_
  refine lv_aload_n C.1 C.2.1 dX6_next_46 rfl (lv_at hl 0 rfl) ?_
  refine x_alen (v := 0) C w 2 1 rfl rfl (by rfl) dX6_next_47 ?_
  refine va_mmin C.1 C.2.1 (C.2.2.1.trans hl.1.symm) (xown C) (xhts C _ (List.mem_cons_of_mem _ gw_895)) (xhts C _ (List.mem_cons_of_mem _ gw_420)) (xhts C _ (List.mem_cons_of_mem _ gw_217)) (xhts C _ (List.mem_cons_of_mem _ gm_min)) (Nat.le_of_ble_eq_true rfl) (Nat.le_of_ble_eq_true rfl) (Nat.le_of_ble_eq_true rfl) (Nat.le_of_ble_eq_true rfl) dX6_next_48 ?_
  refine x_is (y := 0) (if_pos p2) ?_
  refine x_newa (atype := .int) (ty := .int) (N := 0) C w 1 (fun _ _ h => h) rfl (List.mem_cons_of_mem _ gw_13) rfl rfl (by decide) (by decide) (by decide) (Nat.le_of_ble_eq_true rfl) (Nat.le_of_ble_eq_true rfl) dX6_next_51 (fun q3629 H w => ?_)
  have w : xW G A s [(h0, .inr (10, [.ref h1, .ref h2, .ref h3, .ref h4, .ref h5, .ref h6, .ref h7, .int 0, .int 0])), (h1, .inr (3, [.int 0, .ref (sv 0), .int 0])), ((f3628 0), .inl (cy 1, 0, .inl (fun _ => 0))), (q3629, .inl (cy 1, 0, .inl (fun _ => 0)))] H _ := w
  refine W.widen (k := 5) (n := 10) (Nat.le_of_ble_eq_true rfl) (Nat.le_of_ble_eq_true rfl) ?_
  refine lv_astore (lv' := [(4, .ref q3629), (3, .ref (f3628 0)), (0, .ref h0), (1, .int 2), (2, .int v0)]) C.1 C.2.1 dX6_next_53 hl (by decide) rfl (fun ls hl => ?_)
  refine lv_iconst (v := 0) C.1 C.2.1 dX6_next_55 (by decide) ?_
  refine lv_istore (lv' := [(5, .int 0), (4, .ref q3629), (3, .ref (f3628 0)), (0, .ref h0), (1, .int 2), (2, .int v0)]) C.1 C.2.1 dX6_next_56 hl (by decide) rfl (fun ls hl => ?_)
  refine lv_iload C.1 C.2.1 dX6_next_58 (lv_at hl 0 rfl) ?_
  refine lv_aload C.1 C.2.1 dX6_next_60 (lv_at hl 1 rfl) ?_
  refine x_alen (v := 0) C w 3 1 rfl rfl (by rfl) dX6_next_62 ?_
  refine lv_icmp_ge (tgt := 108) C.1 C.2.1 dX6_next_63 (by decide) (fun _ => ?_) (fun c9 => absurd (by decide) c9)
  refine lv_aload C.1 C.2.1 dX6_next_108 (lv_at hl 1 rfl) ?_
  refine x_kr C w [3] [0, 1, 2] rfl rfl (by decide) (by decide) (va_runS (As := [.ref q3629]) (rest := []) (xfix C) (c230_X6_joined l G cy sa sv q3629 (xtr C) _) (va_cwS 1 (xhts C) (xgS gw_550 gw_551 gw_58 gc_X6_joined) rfl rfl rfl (by decide +kernel) ⟨(Nat.le_of_ble_eq_true rfl), (Nat.le_of_ble_eq_true rfl)⟩) (xPS C w [3] rfl (by decide)) rfl rfl hl.1 rfl (lv_room (Nat.le_of_ble_eq_true rfl)) dX6_next_110 ⟨(Nat.le_of_ble_eq_true rfl), (Nat.le_of_ble_eq_true rfl)⟩) (fun f3630 H locs w => ?_)
  have w : xW G A s [(h0, .inr (10, [.ref h1, .ref h2, .ref h3, .ref h4, .ref h5, .ref h6, .ref h7, .int 0, .int 0])), (h1, .inr (3, [.int 0, .ref (sv 0), .int 0])), ((f3628 0), .inl (cy 1, 0, .inl (fun _ => 0))), (q3629, .inl (cy 1, 0, .inl (fun _ => 0)))] H _ := w
  have w := w.sub (ws' := [(h0, .inr (10, [.ref h1, .ref h2, .ref h3, .ref h4, .ref h5, .ref h6, .ref h7, .int 0, .int 0])), (h1, .inr (3, [.int 0, .ref (sv 0), .int 0]))]) [0, 1] (by decide) rfl rfl
  exact x_aret C w hr (Or.inl ⟨_, rfl⟩) (fun _ => 0) rfl rfl dX6_next_113 (Nat.le_of_ble_eq_true rfl) (Nat.le_of_ble_eq_true rfl)
set_option maxHeartbeats 4000000 in
set_option maxRecDepth 100000 in
theorem c502_X4_next (l : Launch) (G : va_G) (cy : Nat → ClassId) (sa : String → Nat → Nat) (sv : Nat → Nat) (h0 h1 h2 h3 h4 h5 h6 h7 h8 h9 h10 : Nat) (v0 : Int32) (p0 : ¬ v0 < 1) (p1 : ¬ v0 ≤ 24) : xX l G cy sa sv yX4_next (Cond.code yX4_next cX4_next 7 (some (.object "java/lang/String")) :: XG) { frames := 9, cells := 1, slots := 6, locals := 271 } [.ref h0, .int 2, .int v0] [(h0, .inr (8, [.ref h2, .ref h3, .ref h4, .ref h5, .ref h1, .int 0, .ref h6, .ref h7])), (h1, .inl (cy 3, 3, .inr (.inr (.inr (.inr (va_up (va_up (va_up (fun _ => none) 0 (some h8)) 1 (some h9)) 2 (some h10)))))))] (fun f => [(h0, .inr (8, [.ref h2, .ref h3, .ref h4, .ref h5, .ref h1, .int 0, .ref h6, .ref h7])), (h1, .inl (cy 3, 3, .inr (.inr (.inr (.inr (va_up (va_up (va_up (fun _ => none) 0 (some h8)) 1 (some h9)) 2 (some h10)))))))]) "java/lang/IllegalArgumentException" := by
  refine xofX (by decide) (Nat.le_of_ble_eq_true rfl) (fun p e s m below meth c A C w hno ls hl => ?_)
  have hl : lv_has ls 7 [(0, .ref h0), (1, .int 2), (2, .int v0)] := hl
  refine lv_aload_n C.1 C.2.1 dX4_next_0 rfl (lv_at hl 0 rfl) ?_
  refine lv_iload_n C.1 C.2.1 dX4_next_1 rfl (lv_at hl 1 rfl) ?_
  refine x_kr C w [0, 1] [] rfl rfl (by decide) (by decide) (va_runV (As := [.int 2]) (rest := []) (xfix C) (c457_X4_pagerOf l G cy sa sv h0 h1 h2 h3 h4 h5 h6 h7 h8 h9 h10 (xtr C) _) (cwV 1 (xhts C) (xgV (maxL := 0) (cc := ⟨#[]⟩) (ret := none) gw_842 gw_843 gw_844 gw_2 gc_X4_pagerOf) rfl rfl rfl (by decide +kernel) ⟨(Nat.le_of_ble_eq_true rfl), (Nat.le_of_ble_eq_true rfl)⟩) (xPV C w [0, 1] rfl (by decide) (ci := 8) (q0 := 0) rfl rfl) rfl rfl hl.1 rfl (lv_room (Nat.le_of_ble_eq_true rfl)) dX4_next_2 ⟨(Nat.le_of_ble_eq_true rfl), (Nat.le_of_ble_eq_true rfl)⟩) (fun f3638 H locs w => ?_)
  have w : xW G A s [(h0, .inr (8, [.ref h2, .ref h3, .ref h4, .ref h5, .ref h1, .int 0, .ref h6, .ref h7])), (h1, .inl (cy 3, 3, .inr (.inr (.inr (.inr (va_up (va_up (va_up (fun _ => none) 0 (some h8)) 1 (some h9)) 2 (some h10)))))))] H _ := w
  refine lv_astore_n (lv' := [(3, .ref h10), (0, .ref h0), (1, .int 2), (2, .int v0)]) C.1 C.2.1 dX4_next_5 rfl hl (by decide) rfl (fun ls hl => ?_)
  refine lv_iload_n C.1 C.2.1 dX4_next_6 rfl (lv_at hl 3 rfl) ?_
  refine lv_iconst (v := 1) C.1 C.2.1 dX4_next_7 (by decide) ?_
  refine lv_icmp_lt (tgt := 17) C.1 C.2.1 dX4_next_8 (by decide) (fun c9 => absurd c9 p0) (fun _ => ?_)
  refine lv_iload_n C.1 C.2.1 dX4_next_11 rfl (lv_at hl 3 rfl) ?_
  refine lv_bipush (v := 24) C.1 C.2.1 dX4_next_12 (by decide) ?_
  refine lv_icmp_le (tgt := 27) C.1 C.2.1 dX4_next_14 (by decide) (fun c9 => absurd c9 p1) (fun _ => ?_)
  exact x_thr C w hno hl.1 (by decide) (List.mem_cons_of_mem _ gw_95) (List.mem_cons_of_mem _ gw_96) (tx := "many is not 1 to 24") (List.mem_of_getElem? (i := 4) rfl) (xat_203 C (fun w h => List.mem_cons_of_mem _ h)) xatg_203 dX4_next_17 dX4_next_20 dX4_next_21 dX4_next_23 dX4_next_26 (Nat.le_of_ble_eq_true rfl) (Nat.le_of_ble_eq_true rfl) (Nat.le_of_ble_eq_true rfl) (Nat.le_of_ble_eq_true rfl) rfl rfl (fun _ => 0) rfl
set_option maxHeartbeats 4000000 in
set_option maxRecDepth 100000 in
theorem c503_L_next (l : Launch) (G : va_G) (cy : Nat → ClassId) (sa : String → Nat → Nat) (sv : Nat → Nat) (h0 h1 h2 h3 h4 h5 h6 h7 h8 h9 h10 h11 : Nat) (v0 : Int32) (p0 : ¬ v0 < 1) (p1 : ¬ v0 ≤ 24) : xM l G cy sa sv yL_next (Cond.codeWith yL_next cL_next 5 (some .int) [(0, 10, 13, 91), (0, 10, 17, 19)] :: XG) { frames := 10, cells := 1, slots := 6, locals := 297 } [.ref h0, .int 2, .int v0, .ref h1] [(h0, .inr (8, [.ref h3, .ref h4, .ref h5, .ref h6, .ref h2, .int 0, .ref h7, .ref h8])), (h2, .inl (cy 3, 3, .inr (.inr (.inr (.inr (va_up (va_up (va_up (fun _ => none) 0 (some h9)) 1 (some h10)) 2 (some h11)))))))] (xQi G (fun f => [(h0, .inr (8, [.ref h3, .ref h4, .ref h5, .ref h6, .ref h2, .int 0, .ref h7, .ref h8])), (h2, .inl (cy 3, 3, .inr (.inr (.inr (.inr (va_up (va_up (va_up (fun _ => none) 0 (some h9)) 1 (some h10)) 2 (some h11)))))))]) 2) := by
  refine xofH (by decide) (Nat.le_of_ble_eq_true rfl) (fun p e s m below meth c A C w hr hn hT ls hl => ?_)
  have hl : lv_has ls 5 [(0, .ref h0), (1, .int 2), (2, .int v0), (3, .ref h1)] := hl
  refine lv_aload_n C.1 C.2.1 dL_next_0 rfl (lv_at hl 3 rfl) ?_
  refine lv_aload_n C.1 C.2.1 dL_next_1 rfl (lv_at hl 0 rfl) ?_
  refine lv_iload_n C.1 C.2.1 dL_next_2 rfl (lv_at hl 1 rfl) ?_
  refine lv_iload_n C.1 C.2.1 dL_next_3 rfl (lv_at hl 2 rfl) ?_
  refine x_kx C w [0, 1] [] rfl rfl (by decide) (by decide) (vx_runV (As := [.int 2, .int v0]) (rest := [.ref h1]) (xfix C) (c502_X4_next l G cy sa sv h0 h2 h3 h4 h5 h6 h7 h8 h9 h10 h11 v0 p0 p1 (xtr C) _) (cwV 2 (xhts C) (xgV (maxL := 0) (cc := ⟨#[]⟩) (ret := none) gw_870 gw_871 gw_872 gw_2 gc_X4_next) rfl rfl rfl (by decide +kernel) ⟨(Nat.le_of_ble_eq_true rfl), (Nat.le_of_ble_eq_true rfl)⟩) (xPV C w [0, 1] rfl (by decide) (ci := 8) (q0 := 0) rfl rfl) rfl rfl hl.1 rfl (lv_room (Nat.le_of_ble_eq_true rfl)) dL_next_4 ⟨(Nat.le_of_ble_eq_true rfl), (Nat.le_of_ble_eq_true rfl)⟩) (fun f3639 H locs ce q9 w hce hcv hcl => ?_)
  have w : xW G A s [(h0, .inr (8, [.ref h3, .ref h4, .ref h5, .ref h6, .ref h2, .int 0, .ref h7, .ref h8])), (h2, .inl (cy 3, 3, .inr (.inr (.inr (.inr (va_up (va_up (va_up (fun _ => none) 0 (some h9)) 1 (some h10)) 2 (some h11)))))))] H _ := w
  refine vx_widen (k := 1) (n := 6) (Nat.le_of_ble_eq_true rfl) (Nat.le_of_ble_eq_true rfl) ?_
  refine vx_catch (xown C) [⟨0, 10, 13, 91⟩] ⟨0, 10, 17, 19⟩ [] hT (fun z hz => Or.inr (by cases List.mem_singleton.mp hz; exact ⟨by decide, "java/lang/IndexOutOfBoundsException", xhts C _ (List.mem_cons_of_mem _ gw_868), xs_n2 (xS C)⟩)) (by decide) (by decide) (xhts C _ (List.mem_cons_of_mem _ gw_104)) (va_any rfl (xs_c1 (xS C))) hce hcv hcl ?_
  refine lv_astore (lv' := [(4, .ref q9), (0, .ref h0), (1, .int 2), (2, .int v0), (3, .ref h1)]) C.1 C.2.1 dL_next_17 hl (by decide) rfl (fun ls hl => ?_)
  refine lv_iconst (v := 2) C.1 C.2.1 dL_next_19 (by decide) ?_
  exact x_iret C w hr (fun _ => 0) rfl rfl dL_next_20 (Nat.le_of_ble_eq_true rfl) (Nat.le_of_ble_eq_true rfl)
set_option maxHeartbeats 4000000 in
set_option maxRecDepth 100000 in
theorem c504_X6_next (l : Launch) (G : va_G) (cy : Nat → ClassId) (sa : String → Nat → Nat) (sv : Nat → Nat) (h0 h1 h2 h3 h4 h5 h6 h7 : Nat) (v0 : Int32) (p0 : ¬ v0 < 1) (p1 : ¬ v0 ≤ 24) : xM l G cy sa sv yX6_next (Cond.code yX6_next cX6_next 6 (some (.object "java/lang/String")) :: XG) { frames := 9, cells := 0, slots := 0, locals := 272 } [.ref h0, .int 2, .int v0] [(h0, .inr (10, [.ref h1, .ref h2, .ref h3, .ref h4, .ref h5, .ref h6, .ref h7, .int 0, .int 0]))] (xQr G (fun f => [(h0, .inr (10, [.ref h1, .ref h2, .ref h3, .ref h4, .ref h5, .ref h6, .ref h7, .int 0, .int 2]))]) (fun f => (sa "TwinindexModel" 122))) := by
  refine xof (by decide) (Nat.le_of_ble_eq_true rfl) (fun p e s m below meth c A C w hr hn ls hl => ?_)
  have hl : lv_has ls 6 [(0, .ref h0), (1, .int 2), (2, .int v0)] := hl
  refine lv_aload_n C.1 C.2.1 dX6_next_0 rfl (lv_at hl 0 rfl) ?_
  refine lv_iload_n C.1 C.2.1 dX6_next_1 rfl (lv_at hl 1 rfl) ?_
  refine x_ki C w [] [0] rfl rfl (by decide) (by decide) (va_runS (As := [.int 2]) (rest := [.ref h0]) (xfix C) (c460_X6_isNoPager l G cy sa sv (xtr C) _) (va_cwS 1 (xhts C) (xgS gw_860 gw_861 gw_58 gc_X6_isNoPager) rfl rfl rfl (by decide +kernel) ⟨(Nat.le_of_ble_eq_true rfl), (Nat.le_of_ble_eq_true rfl)⟩) (xPS C w [] rfl (by decide)) rfl rfl hl.1 rfl (lv_room (Nat.le_of_ble_eq_true rfl)) dX6_next_2 ⟨(Nat.le_of_ble_eq_true rfl), (Nat.le_of_ble_eq_true rfl)⟩) (fun f3642 H locs w => ?_)
  have w : xW G A s [(h0, .inr (10, [.ref h1, .ref h2, .ref h3, .ref h4, .ref h5, .ref h6, .ref h7, .int 0, .int 0]))] H _ := w
  refine lv_iconst (v := 1) C.1 C.2.1 dX6_next_5 (by decide) ?_
  refine x_ki C w [0] [] rfl rfl (by decide) (by decide) (va_runV (As := [.int 0, .int 1]) (rest := []) (xfix C) (c46_X6_start l G cy sa sv h0 h1 h2 h3 h4 h5 h6 h7 (xtr C) _) (cwV 2 (xhts C) (xgV (maxL := 0) (cc := ⟨#[]⟩) (ret := none) gw_114 gw_115 gw_116 gw_58 gc_X6_start) rfl rfl rfl (by decide +kernel) ⟨(Nat.le_of_ble_eq_true rfl), (Nat.le_of_ble_eq_true rfl)⟩) (xPV C w [0] rfl (by decide) (ci := 10) (q0 := 0) rfl rfl) rfl rfl hl.1 rfl (lv_room (Nat.le_of_ble_eq_true rfl)) dX6_next_6 ⟨(Nat.le_of_ble_eq_true rfl), (Nat.le_of_ble_eq_true rfl)⟩) (fun f3643 H locs w => ?_)
  have w : xW G A s [(h0, .inr (10, [.ref h1, .ref h2, .ref h3, .ref h4, .ref h5, .ref h6, .ref h7, .int 0, .int 0]))] H _ := w
  refine lv_if_ne (tgt := 36) C.1 C.2.1 dX6_next_9 (by decide) (fun c9 => absurd (by decide) c9) (fun _ => ?_)
  refine lv_aload_n C.1 C.2.1 dX6_next_12 rfl (lv_at hl 0 rfl) ?_
  refine lv_iload_n C.1 C.2.1 dX6_next_13 rfl (lv_at hl 2 rfl) ?_
  refine lv_iconst (v := 1) C.1 C.2.1 dX6_next_14 (by decide) ?_
  refine lv_icmp_lt (tgt := 24) C.1 C.2.1 dX6_next_15 (by decide) (fun c9 => absurd c9 p0) (fun _ => ?_)
  refine lv_iload_n C.1 C.2.1 dX6_next_18 rfl (lv_at hl 2 rfl) ?_
  refine lv_bipush (v := 24) C.1 C.2.1 dX6_next_19 (by decide) ?_
  refine lv_icmp_le (tgt := 28) C.1 C.2.1 dX6_next_21 (by decide) (fun c9 => absurd c9 p1) (fun _ => ?_)
  refine lv_iconst (v := 1) C.1 C.2.1 dX6_next_24 (by decide) ?_
  refine lv_goto (tgt := 29) C.1 C.2.1 dX6_next_25 (by decide) ?_
  refine lv_iconst (v := 2) C.1 C.2.1 dX6_next_29 (by decide) ?_
  refine x_ki C w [0] [] rfl rfl (by decide) (by decide) (va_runV (As := [.int 1, .int 2]) (rest := []) (xfix C) (c149_X6_fails l G cy sa sv h0 h1 h2 h3 h4 h5 h6 h7 (xtr C) _) (cwV 2 (xhts C) (xgV (maxL := 0) (cc := ⟨#[]⟩) (ret := none) gw_203 gw_204 gw_205 gw_58 gc_X6_fails) rfl rfl rfl (by decide +kernel) ⟨(Nat.le_of_ble_eq_true rfl), (Nat.le_of_ble_eq_true rfl)⟩) (xPV C w [0] rfl (by decide) (ci := 10) (q0 := 0) rfl rfl) rfl rfl hl.1 rfl (lv_room (Nat.le_of_ble_eq_true rfl)) dX6_next_30 ⟨(Nat.le_of_ble_eq_true rfl), (Nat.le_of_ble_eq_true rfl)⟩) (fun f3644 H locs w => ?_)
  have w : xW G A s [(h0, .inr (10, [.ref h1, .ref h2, .ref h3, .ref h4, .ref h5, .ref h6, .ref h7, .int 0, .int 2]))] H _ := w
  refine lv_if_eq (tgt := 39) C.1 C.2.1 dX6_next_33 (by decide) (fun c9 => absurd c9 (by decide)) (fun _ => ?_)
  refine x_ldcS C (tx := "") (List.mem_of_getElem? (i := 11) rfl) dX6_next_36 ?_
  exact x_aret C w hr (Or.inl ⟨_, rfl⟩) (fun _ => 0) rfl rfl dX6_next_38 (Nat.le_of_ble_eq_true rfl) (Nat.le_of_ble_eq_true rfl)
set_option maxHeartbeats 4000000 in
set_option maxRecDepth 100000 in
theorem c505_X4_next (l : Launch) (G : va_G) (cy : Nat → ClassId) (sa : String → Nat → Nat) (sv : Nat → Nat) (h0 h1 h2 h3 h4 h5 h6 h7 : Nat) (v0 v1 : Int32) (p0 : v0 < 0) : xX l G cy sa sv yX4_next (Cond.code yX4_next cX4_next 7 (some (.object "java/lang/String")) :: XG) { frames := 9, cells := 1, slots := 6, locals := 271 } [.ref h0, .int v0, .int v1] [(h0, .inr (8, [.ref h1, .ref h2, .ref h3, .ref h4, .ref h5, .int 0, .ref h6, .ref h7]))] (fun f => [(h0, .inr (8, [.ref h1, .ref h2, .ref h3, .ref h4, .ref h5, .int 0, .ref h6, .ref h7]))]) "java/lang/IndexOutOfBoundsException" := by
  refine xofX (by decide) (Nat.le_of_ble_eq_true rfl) (fun p e s m below meth c A C w hno ls hl => ?_)
  have hl : lv_has ls 7 [(0, .ref h0), (1, .int v0), (2, .int v1)] := hl
  refine lv_aload_n C.1 C.2.1 dX4_next_0 rfl (lv_at hl 0 rfl) ?_
  refine lv_iload_n C.1 C.2.1 dX4_next_1 rfl (lv_at hl 1 rfl) ?_
  refine x_kx C w [] [0] rfl rfl (by decide) (by decide) (vx_runV (As := [.int v0]) (rest := []) (xfix C) (c462_X4_pagerOf l G cy sa sv h0 v0 p0 (xtr C) _) (cwV 1 (xhts C) (xgV (maxL := 0) (cc := ⟨#[]⟩) (ret := none) gw_842 gw_843 gw_844 gw_2 gc_X4_pagerOf) rfl rfl rfl (by decide +kernel) ⟨(Nat.le_of_ble_eq_true rfl), (Nat.le_of_ble_eq_true rfl)⟩) (xPV C w [] rfl (by decide) (ci := 8) (q0 := 0) rfl rfl) rfl rfl hl.1 rfl (lv_room (Nat.le_of_ble_eq_true rfl)) dX4_next_2 ⟨(Nat.le_of_ble_eq_true rfl), (Nat.le_of_ble_eq_true rfl)⟩) (fun f3651 H locs ce q9 w hce hcv hcl => ?_)
  have w : xW G A s [(h0, .inr (8, [.ref h1, .ref h2, .ref h3, .ref h4, .ref h5, .int 0, .ref h6, .ref h7]))] H _ := w
  refine vx_widen (k := 1) (n := 6) (Nat.le_of_ble_eq_true rfl) (Nat.le_of_ble_eq_true rfl) ?_
  exact x_out C w hno (fun _ => 0) rfl hce hcv hcl (Nat.le_of_ble_eq_true rfl) (Nat.le_of_ble_eq_true rfl)
set_option maxHeartbeats 4000000 in
set_option maxRecDepth 100000 in
theorem c506_L_next (l : Launch) (G : va_G) (cy : Nat → ClassId) (sa : String → Nat → Nat) (sv : Nat → Nat) (h0 h1 h2 h3 h4 h5 h6 h7 h8 : Nat) (v0 v1 : Int32) (p0 : v0 < 0) : xM l G cy sa sv yL_next (Cond.codeWith yL_next cL_next 5 (some .int) [(0, 10, 13, 91), (0, 10, 17, 19)] :: XG) { frames := 10, cells := 1, slots := 6, locals := 297 } [.ref h0, .int v0, .int v1, .ref h1] [(h0, .inr (8, [.ref h2, .ref h3, .ref h4, .ref h5, .ref h6, .int 0, .ref h7, .ref h8]))] (xQi G (fun f => [(h0, .inr (8, [.ref h2, .ref h3, .ref h4, .ref h5, .ref h6, .int 0, .ref h7, .ref h8]))]) 1) := by
  refine xofH (by decide) (Nat.le_of_ble_eq_true rfl) (fun p e s m below meth c A C w hr hn hT ls hl => ?_)
  have hl : lv_has ls 5 [(0, .ref h0), (1, .int v0), (2, .int v1), (3, .ref h1)] := hl
  refine lv_aload_n C.1 C.2.1 dL_next_0 rfl (lv_at hl 3 rfl) ?_
  refine lv_aload_n C.1 C.2.1 dL_next_1 rfl (lv_at hl 0 rfl) ?_
  refine lv_iload_n C.1 C.2.1 dL_next_2 rfl (lv_at hl 1 rfl) ?_
  refine lv_iload_n C.1 C.2.1 dL_next_3 rfl (lv_at hl 2 rfl) ?_
  refine x_kx C w [0] [] rfl rfl (by decide) (by decide) (vx_runV (As := [.int v0, .int v1]) (rest := [.ref h1]) (xfix C) (c505_X4_next l G cy sa sv h0 h2 h3 h4 h5 h6 h7 h8 v0 v1 p0 (xtr C) _) (cwV 2 (xhts C) (xgV (maxL := 0) (cc := ⟨#[]⟩) (ret := none) gw_870 gw_871 gw_872 gw_2 gc_X4_next) rfl rfl rfl (by decide +kernel) ⟨(Nat.le_of_ble_eq_true rfl), (Nat.le_of_ble_eq_true rfl)⟩) (xPV C w [0] rfl (by decide) (ci := 8) (q0 := 0) rfl rfl) rfl rfl hl.1 rfl (lv_room (Nat.le_of_ble_eq_true rfl)) dL_next_4 ⟨(Nat.le_of_ble_eq_true rfl), (Nat.le_of_ble_eq_true rfl)⟩) (fun f3652 H locs ce q9 w hce hcv hcl => ?_)
  have w : xW G A s [(h0, .inr (8, [.ref h2, .ref h3, .ref h4, .ref h5, .ref h6, .int 0, .ref h7, .ref h8]))] H _ := w
  refine vx_widen (k := 1) (n := 6) (Nat.le_of_ble_eq_true rfl) (Nat.le_of_ble_eq_true rfl) ?_
  refine vx_catch (xown C) [] ⟨0, 10, 13, 91⟩ [⟨0, 10, 17, 19⟩] hT (fun z hz => nomatch hz) (by decide) (by decide) (xhts C _ (List.mem_cons_of_mem _ gw_868)) (va_any rfl (xs_c3 (xS C))) hce hcv hcl ?_
  refine lv_astore (lv' := [(4, .ref q9), (0, .ref h0), (1, .int v0), (2, .int v1), (3, .ref h1)]) C.1 C.2.1 dL_next_13 hl (by decide) rfl (fun ls hl => ?_)
  refine lv_iconst (v := 1) C.1 C.2.1 dL_next_15 (by decide) ?_
  exact x_iret C w hr (fun _ => 0) rfl rfl dL_next_16 (Nat.le_of_ble_eq_true rfl) (Nat.le_of_ble_eq_true rfl)
set_option maxHeartbeats 4000000 in
set_option maxRecDepth 100000 in
theorem c507_X6_next (l : Launch) (G : va_G) (cy : Nat → ClassId) (sa : String → Nat → Nat) (sv : Nat → Nat) (h0 h1 h2 h3 h4 h5 h6 h7 : Nat) (v0 v1 : Int32) (p0 : v0 < 0) : xM l G cy sa sv yX6_next (Cond.code yX6_next cX6_next 6 (some (.object "java/lang/String")) :: XG) { frames := 9, cells := 0, slots := 0, locals := 272 } [.ref h0, .int v0, .int v1] [(h0, .inr (10, [.ref h1, .ref h2, .ref h3, .ref h4, .ref h5, .ref h6, .ref h7, .int 0, .int 0]))] (xQr G (fun f => [(h0, .inr (10, [.ref h1, .ref h2, .ref h3, .ref h4, .ref h5, .ref h6, .ref h7, .int 0, .int 1]))]) (fun f => (sa "TwinindexModel" 122))) := by
  refine xof (by decide) (Nat.le_of_ble_eq_true rfl) (fun p e s m below meth c A C w hr hn ls hl => ?_)
  have hl : lv_has ls 6 [(0, .ref h0), (1, .int v0), (2, .int v1)] := hl
  refine lv_aload_n C.1 C.2.1 dX6_next_0 rfl (lv_at hl 0 rfl) ?_
  refine lv_iload_n C.1 C.2.1 dX6_next_1 rfl (lv_at hl 1 rfl) ?_
  refine x_ki C w [] [0] rfl rfl (by decide) (by decide) (va_runS (As := [.int v0]) (rest := [.ref h0]) (xfix C) (c465_X6_isNoPager l G cy sa sv v0 p0 (xtr C) _) (va_cwS 1 (xhts C) (xgS gw_860 gw_861 gw_58 gc_X6_isNoPager) rfl rfl rfl (by decide +kernel) ⟨(Nat.le_of_ble_eq_true rfl), (Nat.le_of_ble_eq_true rfl)⟩) (xPS C w [] rfl (by decide)) rfl rfl hl.1 rfl (lv_room (Nat.le_of_ble_eq_true rfl)) dX6_next_2 ⟨(Nat.le_of_ble_eq_true rfl), (Nat.le_of_ble_eq_true rfl)⟩) (fun f3655 H locs w => ?_)
  have w : xW G A s [(h0, .inr (10, [.ref h1, .ref h2, .ref h3, .ref h4, .ref h5, .ref h6, .ref h7, .int 0, .int 0]))] H _ := w
  refine lv_iconst (v := 1) C.1 C.2.1 dX6_next_5 (by decide) ?_
  refine x_ki C w [0] [] rfl rfl (by decide) (by decide) (va_runV (As := [.int 1, .int 1]) (rest := []) (xfix C) (c17_X6_start l G cy sa sv h0 h1 h2 h3 h4 h5 h6 h7 (xtr C) _) (cwV 2 (xhts C) (xgV (maxL := 0) (cc := ⟨#[]⟩) (ret := none) gw_114 gw_115 gw_116 gw_58 gc_X6_start) rfl rfl rfl (by decide +kernel) ⟨(Nat.le_of_ble_eq_true rfl), (Nat.le_of_ble_eq_true rfl)⟩) (xPV C w [0] rfl (by decide) (ci := 10) (q0 := 0) rfl rfl) rfl rfl hl.1 rfl (lv_room (Nat.le_of_ble_eq_true rfl)) dX6_next_6 ⟨(Nat.le_of_ble_eq_true rfl), (Nat.le_of_ble_eq_true rfl)⟩) (fun f3656 H locs w => ?_)
  have w : xW G A s [(h0, .inr (10, [.ref h1, .ref h2, .ref h3, .ref h4, .ref h5, .ref h6, .ref h7, .int 0, .int 1]))] H _ := w
  refine lv_if_ne (tgt := 36) C.1 C.2.1 dX6_next_9 (by decide) (fun _ => ?_) (fun c9 => absurd c9 (by decide))
  refine x_ldcS C (tx := "") (List.mem_of_getElem? (i := 11) rfl) dX6_next_36 ?_
  exact x_aret C w hr (Or.inl ⟨_, rfl⟩) (fun _ => 0) rfl rfl dX6_next_38 (Nat.le_of_ble_eq_true rfl) (Nat.le_of_ble_eq_true rfl)
set_option maxHeartbeats 4000000 in
set_option maxRecDepth 100000 in
theorem c508_X4_next (l : Launch) (G : va_G) (cy : Nat → ClassId) (sa : String → Nat → Nat) (sv : Nat → Nat) (h0 h1 h2 h3 h4 h5 h6 h7 h8 h9 h10 : Nat) (v0 v1 : Int32) (p0 : ¬ v0 < 0) (p1 : ¬ v0 < 3) : xX l G cy sa sv yX4_next (Cond.code yX4_next cX4_next 7 (some (.object "java/lang/String")) :: XG) { frames := 9, cells := 1, slots := 6, locals := 271 } [.ref h0, .int v0, .int v1] [(h0, .inr (8, [.ref h2, .ref h3, .ref h4, .ref h5, .ref h1, .int 0, .ref h6, .ref h7])), (h1, .inl (cy 3, 3, .inr (.inr (.inr (.inr (va_up (va_up (va_up (fun _ => none) 0 (some h8)) 1 (some h9)) 2 (some h10)))))))] (fun f => [(h0, .inr (8, [.ref h2, .ref h3, .ref h4, .ref h5, .ref h1, .int 0, .ref h6, .ref h7])), (h1, .inl (cy 3, 3, .inr (.inr (.inr (.inr (va_up (va_up (va_up (fun _ => none) 0 (some h8)) 1 (some h9)) 2 (some h10)))))))]) "java/lang/IndexOutOfBoundsException" := by
  refine xofX (by decide) (Nat.le_of_ble_eq_true rfl) (fun p e s m below meth c A C w hno ls hl => ?_)
  have hl : lv_has ls 7 [(0, .ref h0), (1, .int v0), (2, .int v1)] := hl
  refine lv_aload_n C.1 C.2.1 dX4_next_0 rfl (lv_at hl 0 rfl) ?_
  refine lv_iload_n C.1 C.2.1 dX4_next_1 rfl (lv_at hl 1 rfl) ?_
  refine x_kx C w [0, 1] [] rfl rfl (by decide) (by decide) (vx_runV (As := [.int v0]) (rest := []) (xfix C) (c467_X4_pagerOf l G cy sa sv h0 h1 h2 h3 h4 h5 h6 h7 h8 h9 h10 v0 p0 p1 (xtr C) _) (cwV 1 (xhts C) (xgV (maxL := 0) (cc := ⟨#[]⟩) (ret := none) gw_842 gw_843 gw_844 gw_2 gc_X4_pagerOf) rfl rfl rfl (by decide +kernel) ⟨(Nat.le_of_ble_eq_true rfl), (Nat.le_of_ble_eq_true rfl)⟩) (xPV C w [0, 1] rfl (by decide) (ci := 8) (q0 := 0) rfl rfl) rfl rfl hl.1 rfl (lv_room (Nat.le_of_ble_eq_true rfl)) dX4_next_2 ⟨(Nat.le_of_ble_eq_true rfl), (Nat.le_of_ble_eq_true rfl)⟩) (fun f3663 H locs ce q9 w hce hcv hcl => ?_)
  have w : xW G A s [(h0, .inr (8, [.ref h2, .ref h3, .ref h4, .ref h5, .ref h1, .int 0, .ref h6, .ref h7])), (h1, .inl (cy 3, 3, .inr (.inr (.inr (.inr (va_up (va_up (va_up (fun _ => none) 0 (some h8)) 1 (some h9)) 2 (some h10)))))))] H _ := w
  refine vx_widen (k := 1) (n := 6) (Nat.le_of_ble_eq_true rfl) (Nat.le_of_ble_eq_true rfl) ?_
  exact x_out C w hno (fun _ => 0) rfl hce hcv hcl (Nat.le_of_ble_eq_true rfl) (Nat.le_of_ble_eq_true rfl)
set_option maxHeartbeats 4000000 in
set_option maxRecDepth 100000 in
theorem c509_L_next (l : Launch) (G : va_G) (cy : Nat → ClassId) (sa : String → Nat → Nat) (sv : Nat → Nat) (h0 h1 h2 h3 h4 h5 h6 h7 h8 h9 h10 h11 : Nat) (v0 v1 : Int32) (p0 : ¬ v0 < 0) (p1 : ¬ v0 < 3) : xM l G cy sa sv yL_next (Cond.codeWith yL_next cL_next 5 (some .int) [(0, 10, 13, 91), (0, 10, 17, 19)] :: XG) { frames := 10, cells := 1, slots := 6, locals := 297 } [.ref h0, .int v0, .int v1, .ref h1] [(h0, .inr (8, [.ref h3, .ref h4, .ref h5, .ref h6, .ref h2, .int 0, .ref h7, .ref h8])), (h2, .inl (cy 3, 3, .inr (.inr (.inr (.inr (va_up (va_up (va_up (fun _ => none) 0 (some h9)) 1 (some h10)) 2 (some h11)))))))] (xQi G (fun f => [(h0, .inr (8, [.ref h3, .ref h4, .ref h5, .ref h6, .ref h2, .int 0, .ref h7, .ref h8])), (h2, .inl (cy 3, 3, .inr (.inr (.inr (.inr (va_up (va_up (va_up (fun _ => none) 0 (some h9)) 1 (some h10)) 2 (some h11)))))))]) 1) := by
  refine xofH (by decide) (Nat.le_of_ble_eq_true rfl) (fun p e s m below meth c A C w hr hn hT ls hl => ?_)
  have hl : lv_has ls 5 [(0, .ref h0), (1, .int v0), (2, .int v1), (3, .ref h1)] := hl
  refine lv_aload_n C.1 C.2.1 dL_next_0 rfl (lv_at hl 3 rfl) ?_
  refine lv_aload_n C.1 C.2.1 dL_next_1 rfl (lv_at hl 0 rfl) ?_
  refine lv_iload_n C.1 C.2.1 dL_next_2 rfl (lv_at hl 1 rfl) ?_
  refine lv_iload_n C.1 C.2.1 dL_next_3 rfl (lv_at hl 2 rfl) ?_
  refine x_kx C w [0, 1] [] rfl rfl (by decide) (by decide) (vx_runV (As := [.int v0, .int v1]) (rest := [.ref h1]) (xfix C) (c508_X4_next l G cy sa sv h0 h2 h3 h4 h5 h6 h7 h8 h9 h10 h11 v0 v1 p0 p1 (xtr C) _) (cwV 2 (xhts C) (xgV (maxL := 0) (cc := ⟨#[]⟩) (ret := none) gw_870 gw_871 gw_872 gw_2 gc_X4_next) rfl rfl rfl (by decide +kernel) ⟨(Nat.le_of_ble_eq_true rfl), (Nat.le_of_ble_eq_true rfl)⟩) (xPV C w [0, 1] rfl (by decide) (ci := 8) (q0 := 0) rfl rfl) rfl rfl hl.1 rfl (lv_room (Nat.le_of_ble_eq_true rfl)) dL_next_4 ⟨(Nat.le_of_ble_eq_true rfl), (Nat.le_of_ble_eq_true rfl)⟩) (fun f3664 H locs ce q9 w hce hcv hcl => ?_)
  have w : xW G A s [(h0, .inr (8, [.ref h3, .ref h4, .ref h5, .ref h6, .ref h2, .int 0, .ref h7, .ref h8])), (h2, .inl (cy 3, 3, .inr (.inr (.inr (.inr (va_up (va_up (va_up (fun _ => none) 0 (some h9)) 1 (some h10)) 2 (some h11)))))))] H _ := w
  refine vx_widen (k := 1) (n := 6) (Nat.le_of_ble_eq_true rfl) (Nat.le_of_ble_eq_true rfl) ?_
  refine vx_catch (xown C) [] ⟨0, 10, 13, 91⟩ [⟨0, 10, 17, 19⟩] hT (fun z hz => nomatch hz) (by decide) (by decide) (xhts C _ (List.mem_cons_of_mem _ gw_868)) (va_any rfl (xs_c3 (xS C))) hce hcv hcl ?_
  refine lv_astore (lv' := [(4, .ref q9), (0, .ref h0), (1, .int v0), (2, .int v1), (3, .ref h1)]) C.1 C.2.1 dL_next_13 hl (by decide) rfl (fun ls hl => ?_)
  refine lv_iconst (v := 1) C.1 C.2.1 dL_next_15 (by decide) ?_
  exact x_iret C w hr (fun _ => 0) rfl rfl dL_next_16 (Nat.le_of_ble_eq_true rfl) (Nat.le_of_ble_eq_true rfl)
set_option maxHeartbeats 4000000 in
set_option maxRecDepth 100000 in
theorem c510_X6_next (l : Launch) (G : va_G) (cy : Nat → ClassId) (sa : String → Nat → Nat) (sv : Nat → Nat) (h0 h1 h2 h3 h4 h5 h6 h7 : Nat) (v0 v1 : Int32) (p0 : ¬ v0 < 0) (p1 : ¬ v0 < 3) : xM l G cy sa sv yX6_next (Cond.code yX6_next cX6_next 6 (some (.object "java/lang/String")) :: XG) { frames := 9, cells := 0, slots := 0, locals := 272 } [.ref h0, .int v0, .int v1] [(h0, .inr (10, [.ref h1, .ref h2, .ref h3, .ref h4, .ref h5, .ref h6, .ref h7, .int 0, .int 0]))] (xQr G (fun f => [(h0, .inr (10, [.ref h1, .ref h2, .ref h3, .ref h4, .ref h5, .ref h6, .ref h7, .int 0, .int 1]))]) (fun f => (sa "TwinindexModel" 122))) := by
  refine xof (by decide) (Nat.le_of_ble_eq_true rfl) (fun p e s m below meth c A C w hr hn ls hl => ?_)
  have hl : lv_has ls 6 [(0, .ref h0), (1, .int v0), (2, .int v1)] := hl
  refine lv_aload_n C.1 C.2.1 dX6_next_0 rfl (lv_at hl 0 rfl) ?_
  refine lv_iload_n C.1 C.2.1 dX6_next_1 rfl (lv_at hl 1 rfl) ?_
  refine x_ki C w [] [0] rfl rfl (by decide) (by decide) (va_runS (As := [.int v0]) (rest := [.ref h0]) (xfix C) (c470_X6_isNoPager l G cy sa sv v0 p0 p1 (xtr C) _) (va_cwS 1 (xhts C) (xgS gw_860 gw_861 gw_58 gc_X6_isNoPager) rfl rfl rfl (by decide +kernel) ⟨(Nat.le_of_ble_eq_true rfl), (Nat.le_of_ble_eq_true rfl)⟩) (xPS C w [] rfl (by decide)) rfl rfl hl.1 rfl (lv_room (Nat.le_of_ble_eq_true rfl)) dX6_next_2 ⟨(Nat.le_of_ble_eq_true rfl), (Nat.le_of_ble_eq_true rfl)⟩) (fun f3667 H locs w => ?_)
  have w : xW G A s [(h0, .inr (10, [.ref h1, .ref h2, .ref h3, .ref h4, .ref h5, .ref h6, .ref h7, .int 0, .int 0]))] H _ := w
  refine lv_iconst (v := 1) C.1 C.2.1 dX6_next_5 (by decide) ?_
  refine x_ki C w [0] [] rfl rfl (by decide) (by decide) (va_runV (As := [.int 1, .int 1]) (rest := []) (xfix C) (c17_X6_start l G cy sa sv h0 h1 h2 h3 h4 h5 h6 h7 (xtr C) _) (cwV 2 (xhts C) (xgV (maxL := 0) (cc := ⟨#[]⟩) (ret := none) gw_114 gw_115 gw_116 gw_58 gc_X6_start) rfl rfl rfl (by decide +kernel) ⟨(Nat.le_of_ble_eq_true rfl), (Nat.le_of_ble_eq_true rfl)⟩) (xPV C w [0] rfl (by decide) (ci := 10) (q0 := 0) rfl rfl) rfl rfl hl.1 rfl (lv_room (Nat.le_of_ble_eq_true rfl)) dX6_next_6 ⟨(Nat.le_of_ble_eq_true rfl), (Nat.le_of_ble_eq_true rfl)⟩) (fun f3668 H locs w => ?_)
  have w : xW G A s [(h0, .inr (10, [.ref h1, .ref h2, .ref h3, .ref h4, .ref h5, .ref h6, .ref h7, .int 0, .int 1]))] H _ := w
  refine lv_if_ne (tgt := 36) C.1 C.2.1 dX6_next_9 (by decide) (fun _ => ?_) (fun c9 => absurd c9 (by decide))
  refine x_ldcS C (tx := "") (List.mem_of_getElem? (i := 11) rfl) dX6_next_36 ?_
  exact x_aret C w hr (Or.inl ⟨_, rfl⟩) (fun _ => 0) rfl rfl dX6_next_38 (Nat.le_of_ble_eq_true rfl) (Nat.le_of_ble_eq_true rfl)
set_option maxHeartbeats 4000000 in
set_option maxRecDepth 100000 in
theorem c511_X4_ofPager (l : Launch) (G : va_G) (cy : Nat → ClassId) (sa : String → Nat → Nat) (sv : Nat → Nat) (h0 h1 h2 h3 h4 h5 h6 h7 h8 h9 h10 : Nat) : xM l G cy sa sv yX4_ofPager (Cond.code yX4_ofPager cX4_ofPager 4 (some .int) :: XG) { frames := 9, cells := 0, slots := 0, locals := 271 } [.ref h0, .int 0, .int 0] [(h0, .inr (8, [.ref h3, .ref h4, .ref h5, .ref h6, .ref h1, .int 0, .ref h7, .ref h8])), (h1, .inl (cy 3, 3, .inr (.inr (.inr (.inr (va_up (va_up (va_up (fun _ => none) 0 (some h2)) 1 (some h9)) 2 (some h10))))))), (h2, .inr (4, [.int 0, .int 0, .int 0]))] (xQi G (fun f => [(h0, .inr (8, [.ref h3, .ref h4, .ref h5, .ref h6, .ref h1, .int 0, .ref h7, .ref h8])), (h1, .inl (cy 3, 3, .inr (.inr (.inr (.inr (va_up (va_up (va_up (fun _ => none) 0 (some h2)) 1 (some h9)) 2 (some h10))))))), (h2, .inr (4, [.int 0, .int 0, .int 0]))]) 0) := by
  refine xof (by decide) (Nat.le_of_ble_eq_true rfl) (fun p e s m below meth c A C w hr hn ls hl => ?_)
  have hl : lv_has ls 4 [(0, .ref h0), (1, .int 0), (2, .int 0)] := hl
  refine lv_aload_n C.1 C.2.1 dX4_ofPager_0 rfl (lv_at hl 0 rfl) ?_
  refine lv_iload_n C.1 C.2.1 dX4_ofPager_1 rfl (lv_at hl 1 rfl) ?_
  refine x_kr C w [0, 1] [2] rfl rfl (by decide) (by decide) (va_runV (As := [.int 0]) (rest := []) (xfix C) (c446_X4_pagerOf l G cy sa sv h0 h1 h3 h4 h5 h6 h7 h8 h2 h9 h10 (xtr C) _) (cwV 1 (xhts C) (xgV (maxL := 0) (cc := ⟨#[]⟩) (ret := none) gw_842 gw_843 gw_844 gw_2 gc_X4_pagerOf) rfl rfl rfl (by decide +kernel) ⟨(Nat.le_of_ble_eq_true rfl), (Nat.le_of_ble_eq_true rfl)⟩) (xPV C w [0, 1] rfl (by decide) (ci := 8) (q0 := 0) rfl rfl) rfl rfl hl.1 rfl (lv_room (Nat.le_of_ble_eq_true rfl)) dX4_ofPager_2 ⟨(Nat.le_of_ble_eq_true rfl), (Nat.le_of_ble_eq_true rfl)⟩) (fun f3671 H locs w => ?_)
  have w : xW G A s [(h2, .inr (4, [.int 0, .int 0, .int 0])), (h0, .inr (8, [.ref h3, .ref h4, .ref h5, .ref h6, .ref h1, .int 0, .ref h7, .ref h8])), (h1, .inl (cy 3, 3, .inr (.inr (.inr (.inr (va_up (va_up (va_up (fun _ => none) 0 (some h2)) 1 (some h9)) 2 (some h10)))))))] H _ := w
  refine lv_astore_n (lv' := [(3, .ref h2), (0, .ref h0), (1, .int 0), (2, .int 0)]) C.1 C.2.1 dX4_ofPager_5 rfl hl (by decide) rfl (fun ls hl => ?_)
  refine lv_iload_n C.1 C.2.1 dX4_ofPager_6 rfl (lv_at hl 3 rfl) ?_
  refine lv_tableIn (off := 29) (tgt := 36) C.1 C.2.1 dX4_ofPager_7 (by decide) (by decide) (by decide) (by decide) ?_
  refine lv_aload_n C.1 C.2.1 dX4_ofPager_36 rfl (lv_at hl 0 rfl) ?_
  refine x_getN (v := .int 0) C w 0 4 2 (xin_X0 _) rfl rfl (by decide) (xs_f_told (xS C)) rfl rfl dX4_ofPager_37 ?_
  have w := w.sub (ws' := [(h0, .inr (8, [.ref h3, .ref h4, .ref h5, .ref h6, .ref h1, .int 0, .ref h7, .ref h8])), (h1, .inl (cy 3, 3, .inr (.inr (.inr (.inr (va_up (va_up (va_up (fun _ => none) 0 (some h2)) 1 (some h9)) 2 (some h10))))))), (h2, .inr (4, [.int 0, .int 0, .int 0]))]) [1, 2, 0] (by decide) rfl rfl
  exact x_iret C w hr (fun _ => 0) rfl rfl dX4_ofPager_40 (Nat.le_of_ble_eq_true rfl) (Nat.le_of_ble_eq_true rfl)
