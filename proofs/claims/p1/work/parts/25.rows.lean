set_option maxHeartbeats 4000000 in
set_option maxRecDepth 100000 in
theorem c230_X6_joined (l : Launch) (G : va_G) (cy : Nat → ClassId) (sa : String → Nat → Nat) (sv : Nat → Nat) (h0 : Nat) : xM l G cy sa sv yX6_joined (Cond.code yX6_joined cX6_joined 3 (some (.object "java/lang/String")) :: XG) { frames := 8, cells := 0, slots := 0, locals := 250 } [.ref h0] [(h0, .inl (cy 1, 0, .inl (fun _ => 0)))] (xQr G (fun f => [(h0, .inl (cy 1, 0, .inl (fun _ => 0)))]) (fun f => (sa "TwinindexModel" 122))) := by
  refine xof (by decide) (Nat.le_of_ble_eq_true rfl) (fun p e s m below meth c A C w hr hn ls hl => ?_)
  have hl : lv_has ls 3 [(0, .ref h0)] := hl
  refine x_ldcS C (tx := "") (List.mem_of_getElem? (i := 11) rfl) dX6_joined_0 ?_
  refine lv_astore_n (lv' := [(1, .ref (sa "TwinindexModel" 122)), (0, .ref h0)]) C.1 C.2.1 dX6_joined_2 rfl hl (by decide) rfl (fun ls hl => ?_)
  refine lv_iconst (v := 0) C.1 C.2.1 dX6_joined_3 (by decide) ?_
  refine lv_istore_n (lv' := [(2, .int 0), (1, .ref (sa "TwinindexModel" 122)), (0, .ref h0)]) C.1 C.2.1 dX6_joined_4 rfl hl (by decide) rfl (fun ls hl => ?_)
  refine lv_iload_n C.1 C.2.1 dX6_joined_5 rfl (lv_at hl 0 rfl) ?_
  refine lv_aload_n C.1 C.2.1 dX6_joined_6 rfl (lv_at hl 2 rfl) ?_
  refine x_alen (v := 0) C w 0 1 rfl rfl (by rfl) dX6_joined_7 ?_
  refine lv_icmp_ge (tgt := 52) C.1 C.2.1 dX6_joined_8 (by decide) (fun _ => ?_) (fun c9 => absurd (by decide) c9)
  refine lv_aload_n C.1 C.2.1 dX6_joined_52 rfl (lv_at hl 1 rfl) ?_
  exact x_aret C w hr (Or.inl ⟨_, rfl⟩) (fun _ => 0) rfl rfl dX6_joined_53 (Nat.le_of_ble_eq_true rfl) (Nat.le_of_ble_eq_true rfl)
set_option maxHeartbeats 4000000 in
set_option maxRecDepth 100000 in
theorem c231_X6_keys (l : Launch) (G : va_G) (cy : Nat → ClassId) (sa : String → Nat → Nat) (sv : Nat → Nat) (h0 h1 h2 h3 h4 h5 h6 h7 : Nat) : xM l G cy sa sv yX6_keys (Cond.code yX6_keys cX6_keys 5 (some (.object "java/lang/String")) :: XG) { frames := 10, cells := 2, slots := 0, locals := 293 } [.ref h0, .int 0] [(h0, .inr (10, [.ref h1, .ref h2, .ref h3, .ref h4, .ref h5, .ref h6, .ref h7, .int 0, .int 0])), (h1, .inr (3, [.int 0, .ref (sv 0), .int 0]))] (xQr G (fun f => [(h0, .inr (10, [.ref h1, .ref h2, .ref h3, .ref h4, .ref h5, .ref h6, .ref h7, .int 0, .int 0])), (h1, .inr (3, [.int 0, .ref (sv 0), .int 0]))]) (fun f => (sa "TwinindexModel" 122))) := by
  refine xof (by decide) (Nat.le_of_ble_eq_true rfl) (fun p e s m below meth c A C w hr hn ls hl => ?_)
  have hl : lv_has ls 5 [(0, .ref h0), (1, .int 0)] := hl
  refine lv_aload_n C.1 C.2.1 dX6_keys_0 rfl (lv_at hl 0 rfl) ?_
  refine lv_iconst (v := 0) C.1 C.2.1 dX6_keys_1 (by decide) ?_
  refine x_put (ty := .int) (ty0 := tyX6) C w 0 10 8 (xin_X6 _) tyX6_ok nmX6 rfl rfl (by decide) (List.mem_cons_of_mem _ gw_112) rfl rfl (by decide +kernel) rfl rfl (Nat.le_of_ble_eq_true rfl) dX6_keys_2 (fun H locs w => ?_)
  have w : xW G A s [(h0, .inr (10, [.ref h1, .ref h2, .ref h3, .ref h4, .ref h5, .ref h6, .ref h7, .int 0, .int 0])), (h1, .inr (3, [.int 0, .ref (sv 0), .int 0]))] H _ := w
  refine lv_aload_n C.1 C.2.1 dX6_keys_5 rfl (lv_at hl 0 rfl) ?_
  refine x_get (v := .ref h1) C w 0 10 0 (xin_X6 _) rfl rfl (by decide) (List.mem_cons_of_mem _ gw_78) rfl rfl dX6_keys_6 ?_
  refine x_kr C w [1] [0] rfl rfl (by decide) (by decide) (va_runS (As := [.ref h1]) (rest := []) (xfix C) (c115_X6_keysOf l G cy sa sv h1 (xtr C) _) (va_cwS 1 (xhts C) (xgS gw_330 gw_331 gw_58 gc_X6_keysOf) rfl rfl rfl (by decide +kernel) ⟨(Nat.le_of_ble_eq_true rfl), (Nat.le_of_ble_eq_true rfl)⟩) (xPS C w [1] rfl (by decide)) rfl rfl hl.1 rfl (lv_room (Nat.le_of_ble_eq_true rfl)) dX6_keys_9 ⟨(Nat.le_of_ble_eq_true rfl), (Nat.le_of_ble_eq_true rfl)⟩) (fun f1313 H locs w => ?_)
  have w : xW G A s [(h0, .inr (10, [.ref h1, .ref h2, .ref h3, .ref h4, .ref h5, .ref h6, .ref h7, .int 0, .int 0])), (h1, .inr (3, [.int 0, .ref (sv 0), .int 0])), ((f1313 0), .inl (cy 1, 0, .inl (fun _ => 0)))] H _ := w
  refine W.widen (k := 1) (n := 0) (Nat.le_of_ble_eq_true rfl) (Nat.le_of_ble_eq_true rfl) ?_
  refine lv_astore_n (lv' := [(2, .ref (f1313 0)), (0, .ref h0), (1, .int 0)]) C.1 C.2.1 dX6_keys_12 rfl hl (by decide) rfl (fun ls hl => ?_)
  refine lv_aload_n C.1 C.2.1 dX6_keys_13 rfl (lv_at hl 0 rfl) ?_
  refine x_alen (v := 0) C w 2 1 rfl rfl (by rfl) dX6_keys_14 ?_
  refine x_newa (atype := .int) (ty := .int) (N := 0) C w 1 (fun _ _ h => h) rfl (List.mem_cons_of_mem _ gw_13) rfl rfl (by decide) (by decide) (by decide) (Nat.le_of_ble_eq_true rfl) (Nat.le_of_ble_eq_true rfl) dX6_keys_15 (fun q1314 H w => ?_)
  have w : xW G A s [(h0, .inr (10, [.ref h1, .ref h2, .ref h3, .ref h4, .ref h5, .ref h6, .ref h7, .int 0, .int 0])), (h1, .inr (3, [.int 0, .ref (sv 0), .int 0])), ((f1313 0), .inl (cy 1, 0, .inl (fun _ => 0))), (q1314, .inl (cy 1, 0, .inl (fun _ => 0)))] H _ := w
  refine W.widen (k := 2) (n := 0) (Nat.le_of_ble_eq_true rfl) (Nat.le_of_ble_eq_true rfl) ?_
  refine lv_astore_n (lv' := [(3, .ref q1314), (2, .ref (f1313 0)), (0, .ref h0), (1, .int 0)]) C.1 C.2.1 dX6_keys_17 rfl hl (by decide) rfl (fun ls hl => ?_)
  refine lv_iconst (v := 0) C.1 C.2.1 dX6_keys_18 (by decide) ?_
  refine lv_istore (lv' := [(4, .int 0), (3, .ref q1314), (2, .ref (f1313 0)), (0, .ref h0), (1, .int 0)]) C.1 C.2.1 dX6_keys_19 hl (by decide) rfl (fun ls hl => ?_)
  refine lv_iload C.1 C.2.1 dX6_keys_21 (lv_at hl 0 rfl) ?_
  refine lv_aload_n C.1 C.2.1 dX6_keys_23 rfl (lv_at hl 1 rfl) ?_
  refine x_alen (v := 0) C w 3 1 rfl rfl (by rfl) dX6_keys_24 ?_
  refine lv_icmp_ge (tgt := 56) C.1 C.2.1 dX6_keys_25 (by decide) (fun _ => ?_) (fun c9 => absurd (by decide) c9)
  refine lv_aload_n C.1 C.2.1 dX6_keys_56 rfl (lv_at hl 1 rfl) ?_
  refine x_kr C w [3] [0, 1, 2] rfl rfl (by decide) (by decide) (va_runS (As := [.ref q1314]) (rest := []) (xfix C) (c230_X6_joined l G cy sa sv q1314 (xtr C) _) (va_cwS 1 (xhts C) (xgS gw_550 gw_551 gw_58 gc_X6_joined) rfl rfl rfl (by decide +kernel) ⟨(Nat.le_of_ble_eq_true rfl), (Nat.le_of_ble_eq_true rfl)⟩) (xPS C w [3] rfl (by decide)) rfl rfl hl.1 rfl (lv_room (Nat.le_of_ble_eq_true rfl)) dX6_keys_57 ⟨(Nat.le_of_ble_eq_true rfl), (Nat.le_of_ble_eq_true rfl)⟩) (fun f1315 H locs w => ?_)
  have w : xW G A s [(h0, .inr (10, [.ref h1, .ref h2, .ref h3, .ref h4, .ref h5, .ref h6, .ref h7, .int 0, .int 0])), (h1, .inr (3, [.int 0, .ref (sv 0), .int 0])), ((f1313 0), .inl (cy 1, 0, .inl (fun _ => 0))), (q1314, .inl (cy 1, 0, .inl (fun _ => 0)))] H _ := w
  have w := w.sub (ws' := [(h0, .inr (10, [.ref h1, .ref h2, .ref h3, .ref h4, .ref h5, .ref h6, .ref h7, .int 0, .int 0])), (h1, .inr (3, [.int 0, .ref (sv 0), .int 0]))]) [0, 1] (by decide) rfl rfl
  exact x_aret C w hr (Or.inl ⟨_, rfl⟩) (fun _ => 0) rfl rfl dX6_keys_60 (Nat.le_of_ble_eq_true rfl) (Nat.le_of_ble_eq_true rfl)
set_option maxHeartbeats 4000000 in
set_option maxRecDepth 100000 in
theorem c232_J1_equals_b5fdf (l : Launch) (G : va_G) (cy : Nat → ClassId) (sa : String → Nat → Nat) (sv : Nat → Nat) (h0 : Nat) : xM l G cy sa sv yJ1_equals_b5fdf (Cond.code yJ1_equals_b5fdf cJ1_equals_b5fdf 3 (some .boolean) :: XG) { frames := 8, cells := 0, slots := 0, locals := 250 } [.ref h0, .ref (sv 1)] [(h0, .inl (cy 0, 0, .inl (va_cpy (fun _ => 0) (fun _ => 0) 0 0 0)))] (xQi G (fun f => [(h0, .inl (cy 0, 0, .inl (va_cpy (fun _ => 0) (fun _ => 0) 0 0 0)))]) 1) := by
  refine xof (by decide) (Nat.le_of_ble_eq_true rfl) (fun p e s m below meth c A C w hr hn ls hl => ?_)
  have hl : lv_has ls 3 [(0, .ref h0), (1, .ref (sv 1))] := hl
  refine lv_aload_n C.1 C.2.1 dJ1_equals_b5fdf_0 rfl (lv_at hl 0 rfl) ?_
  refine x_alen (v := 0) C w 0 0 rfl rfl (by rfl) dJ1_equals_b5fdf_1 ?_
  refine lv_aload_n C.1 C.2.1 dJ1_equals_b5fdf_2 rfl (lv_at hl 1 rfl) ?_
  refine x_tlen (v := 0) C w (xs_s0 (xS C)).2.2.2 (by decide) dJ1_equals_b5fdf_3 ?_
  refine lv_icmp_ne (tgt := 34) C.1 C.2.1 dJ1_equals_b5fdf_4 (by decide) (fun c9 => absurd (by decide) c9) (fun _ => ?_)
  refine lv_iconst (v := 0) C.1 C.2.1 dJ1_equals_b5fdf_7 (by decide) ?_
  refine lv_istore_n (lv' := [(2, .int 0), (0, .ref h0), (1, .ref (sv 1))]) C.1 C.2.1 dJ1_equals_b5fdf_8 rfl hl (by decide) rfl (fun ls hl => ?_)
  refine lv_iload_n C.1 C.2.1 dJ1_equals_b5fdf_9 rfl (lv_at hl 0 rfl) ?_
  refine lv_aload_n C.1 C.2.1 dJ1_equals_b5fdf_10 rfl (lv_at hl 1 rfl) ?_
  refine x_alen (v := 0) C w 0 0 rfl rfl (by rfl) dJ1_equals_b5fdf_11 ?_
  refine lv_icmp_ge (tgt := 32) C.1 C.2.1 dJ1_equals_b5fdf_12 (by decide) (fun _ => ?_) (fun c9 => absurd (by decide) c9)
  refine lv_iconst (v := 1) C.1 C.2.1 dJ1_equals_b5fdf_32 (by decide) ?_
  exact x_zret C w hr rfl (fun _ => 0) rfl rfl dJ1_equals_b5fdf_33 (Nat.le_of_ble_eq_true rfl) (Nat.le_of_ble_eq_true rfl)
set_option maxHeartbeats 4000000 in
set_option maxRecDepth 100000 in
theorem c233_J0_equals_9ea2d (l : Launch) (G : va_G) (cy : Nat → ClassId) (sa : String → Nat → Nat) (sv : Nat → Nat) (h0 h1 : Nat) : xM l G cy sa sv yJ0_equals_9ea2d (Cond.code yJ0_equals_9ea2d cJ0_equals_9ea2d 3 (some .boolean) :: XG) { frames := 9, cells := 0, slots := 0, locals := 272 } [.ref h0, .ref (sa "TwinindexModel" 122)] [(h0, .inr (0, [.ref h1, .int 0, .int 0, .int 0])), (h1, .inl (cy 0, 0, .inl (va_cpy (fun _ => 0) (fun _ => 0) 0 0 0)))] (xQi G (fun f => [(h0, .inr (0, [.ref h1, .int 0, .int 0, .int 0])), (h1, .inl (cy 0, 0, .inl (va_cpy (fun _ => 0) (fun _ => 0) 0 0 0)))]) 1) := by
  refine xof (by decide) (Nat.le_of_ble_eq_true rfl) (fun p e s m below meth c A C w hr hn ls hl => ?_)
  have hl : lv_has ls 3 [(0, .ref h0), (1, .ref (sa "TwinindexModel" 122))] := hl
  refine lv_aload_n C.1 C.2.1 dJ0_equals_9ea2d_0 rfl (lv_at hl 0 rfl) ?_
  refine lv_aload_n C.1 C.2.1 dJ0_equals_9ea2d_1 rfl (lv_at hl 1 rfl) ?_
  refine x_acmpne C (xneS w.2.1 (i := 0) rfl (xs_s0 (xS C))) dJ0_equals_9ea2d_2 (tgt := 7) (by decide) ?_
  refine lv_aload_n C.1 C.2.1 dJ0_equals_9ea2d_7 rfl (lv_at hl 1 rfl) ?_
  refine x_instK C w (List.mem_cons_of_mem _ gw_556) (xs_s0 (xS C)) dJ0_equals_9ea2d_8 ?_
  refine lv_if_eq (tgt := 54) C.1 C.2.1 dJ0_equals_9ea2d_11 (by decide) (fun c9 => absurd c9 (by decide)) (fun _ => ?_)
  refine lv_aload_n C.1 C.2.1 dJ0_equals_9ea2d_14 rfl (lv_at hl 1 rfl) ?_
  refine x_castK C w (List.mem_cons_of_mem _ gw_556) (xs_s0 (xS C)) dJ0_equals_9ea2d_15 ?_
  refine lv_astore_n (lv' := [(2, .ref (sa "TwinindexModel" 122)), (0, .ref h0), (1, .ref (sa "TwinindexModel" 122))]) C.1 C.2.1 dJ0_equals_9ea2d_18 rfl hl (by decide) rfl (fun ls hl => ?_)
  refine x_gets C w (xs_cs (xS C)) (List.mem_cons_of_mem _ gw_557) rfl dJ0_equals_9ea2d_19 ?_
  refine lv_if_eq (tgt := 36) C.1 C.2.1 dJ0_equals_9ea2d_22 (by decide) (fun c9 => absurd c9 (by decide)) (fun _ => ?_)
  refine lv_aload_n C.1 C.2.1 dJ0_equals_9ea2d_25 rfl (lv_at hl 1 rfl) ?_
  refine x_get (v := .int 0) C w 0 0 1 (xin_J0 _) rfl rfl (by decide) (List.mem_cons_of_mem _ gw_514) rfl rfl dJ0_equals_9ea2d_26 ?_
  refine lv_aload_n C.1 C.2.1 dJ0_equals_9ea2d_29 rfl (lv_at hl 0 rfl) ?_
  refine x_getk C w (xs_s0 (xS C)).2.1 (List.mem_cons_of_mem _ gw_514) rfl dJ0_equals_9ea2d_30 ?_
  refine lv_icmp_ne (tgt := 54) C.1 C.2.1 dJ0_equals_9ea2d_33 (by decide) (fun c9 => absurd (by decide) c9) (fun _ => ?_)
  refine lv_aload_n C.1 C.2.1 dJ0_equals_9ea2d_36 rfl (lv_at hl 1 rfl) ?_
  refine x_get (v := .ref h1) C w 0 0 0 (xin_J0 _) rfl rfl (by decide) (List.mem_cons_of_mem _ gw_530) rfl rfl dJ0_equals_9ea2d_37 ?_
  refine lv_aload_n C.1 C.2.1 dJ0_equals_9ea2d_40 rfl (lv_at hl 0 rfl) ?_
  refine x_getk C w (xs_s0 (xS C)).2.2.1 (List.mem_cons_of_mem _ gw_530) rfl dJ0_equals_9ea2d_41 ?_
  refine x_ki C w [1] [0] rfl rfl (by decide) (by decide) (va_runS (As := [.ref h1, .ref (sv 1)]) (rest := []) (xfix C) (c232_J1_equals_b5fdf l G cy sa sv h1 (xtr C) _) (va_cwS 2 (xhts C) (xgS gw_560 gw_561 gw_559 gc_J1_equals_b5fdf) rfl rfl rfl (by decide +kernel) ⟨(Nat.le_of_ble_eq_true rfl), (Nat.le_of_ble_eq_true rfl)⟩) (xPS C w [1] rfl (by decide)) rfl rfl hl.1 rfl (lv_room (Nat.le_of_ble_eq_true rfl)) dJ0_equals_9ea2d_44 ⟨(Nat.le_of_ble_eq_true rfl), (Nat.le_of_ble_eq_true rfl)⟩) (fun f1317 H locs w => ?_)
  have w : xW G A s [(h0, .inr (0, [.ref h1, .int 0, .int 0, .int 0])), (h1, .inl (cy 0, 0, .inl (va_cpy (fun _ => 0) (fun _ => 0) 0 0 0)))] H _ := w
  refine lv_if_eq (tgt := 54) C.1 C.2.1 dJ0_equals_9ea2d_47 (by decide) (fun c9 => absurd c9 (by decide)) (fun _ => ?_)
  refine lv_iconst (v := 1) C.1 C.2.1 dJ0_equals_9ea2d_50 (by decide) ?_
  refine lv_goto (tgt := 55) C.1 C.2.1 dJ0_equals_9ea2d_51 (by decide) ?_
  exact x_zret C w hr rfl (fun _ => 0) rfl rfl dJ0_equals_9ea2d_55 (Nat.le_of_ble_eq_true rfl) (Nat.le_of_ble_eq_true rfl)
set_option maxHeartbeats 4000000 in
set_option maxRecDepth 100000 in
theorem c234_X4_keys (l : Launch) (G : va_G) (cy : Nat → ClassId) (sa : String → Nat → Nat) (sv : Nat → Nat) (h0 h1 h2 h3 h4 h5 h6 h7 h8 h9 h10 h11 : Nat) : xM l G cy sa sv yX4_keys (Cond.code yX4_keys cX4_keys 4 (some (.object "java/lang/String")) :: XG) { frames := 15, cells := 4, slots := 24, locals := 404 } [.ref h0, .int 1] [(h0, .inr (8, [.ref h1, .ref h4, .ref h5, .ref h6, .ref h7, .int 0, .ref h3, .ref h8])), (h1, .inr (7, [.ref h2, .ref h9])), (h2, .inr (6, [.ref h10, .int 0])), (h3, .inr (6, [.ref h11, .int 0]))] (xQr G (fun f => [(h0, .inr (8, [.ref h1, .ref h4, .ref h5, .ref h6, .ref h7, .int 0, .ref h3, .ref h8])), (h1, .inr (7, [.ref h2, .ref h9])), (h2, .inr (6, [.ref h10, .int 0])), (h3, .inr (6, [.ref h11, .int 0])), ((f 0), .inr (0, [.ref (f 1), .int 0, .int 0, .int 0])), ((f 1), .inl (cy 0, 0, .inl (va_cpy (fun _ => 0) (fun _ => 0) 0 0 0)))]) (fun f => (f 0))) := by
  refine xof (by decide) (Nat.le_of_ble_eq_true rfl) (fun p e s m below meth c A C w hr hn ls hl => ?_)
  have hl : lv_has ls 4 [(0, .ref h0), (1, .int 1)] := hl
  refine lv_aload_n C.1 C.2.1 dX4_keys_0 rfl (lv_at hl 0 rfl) ?_
  refine x_get (v := .ref h1) C w 0 8 0 (xin_X4 _) rfl rfl (by decide) (List.mem_cons_of_mem _ gw_24) rfl rfl dX4_keys_1 ?_
  refine x_ki C w [1, 2] [0, 3] rfl rfl (by decide) (by decide) (va_runV (As := []) (rest := []) (xfix C) (c22_X3_count l G cy sa sv h1 h2 h9 h10 (xtr C) _) (cwV 0 (xhts C) (xgV (maxL := 0) (cc := ⟨#[]⟩) (ret := none) gw_130 gw_131 gw_132 gw_7 gc_X3_count) rfl rfl rfl (by decide +kernel) ⟨(Nat.le_of_ble_eq_true rfl), (Nat.le_of_ble_eq_true rfl)⟩) (xPV C w [1, 2] rfl (by decide) (ci := 7) (q0 := 1) rfl rfl) rfl rfl hl.1 rfl (lv_room (Nat.le_of_ble_eq_true rfl)) dX4_keys_4 ⟨(Nat.le_of_ble_eq_true rfl), (Nat.le_of_ble_eq_true rfl)⟩) (fun f1334 H locs w => ?_)
  have w : xW G A s [(h0, .inr (8, [.ref h1, .ref h4, .ref h5, .ref h6, .ref h7, .int 0, .ref h3, .ref h8])), (h3, .inr (6, [.ref h11, .int 0])), (h1, .inr (7, [.ref h2, .ref h9])), (h2, .inr (6, [.ref h10, .int 0]))] H _ := w
  refine lv_istore_n (lv' := [(2, .int 0), (0, .ref h0), (1, .int 1)]) C.1 C.2.1 dX4_keys_7 rfl hl (by decide) rfl (fun ls hl => ?_)
  refine lv_aload_n C.1 C.2.1 dX4_keys_8 rfl (lv_at hl 1 rfl) ?_
  refine x_get (v := .ref h3) C w 0 8 6 (xin_X4 _) rfl rfl (by decide) (List.mem_cons_of_mem _ gw_51) rfl rfl dX4_keys_9 ?_
  refine x_kv C w [1] [0, 2, 3] rfl rfl (by decide) (by decide) (va_runV (As := []) (rest := []) (xfix C) (c109_X2_empty l G cy sa sv h3 h11 (xtr C) _) (cwV 0 (xhts C) (xgV (maxL := 0) (cc := ⟨#[]⟩) (ret := none) gw_312 gw_313 gw_314 gw_11 gc_X2_empty) rfl rfl rfl (by decide +kernel) ⟨(Nat.le_of_ble_eq_true rfl), (Nat.le_of_ble_eq_true rfl)⟩) (xPV C w [1] rfl (by decide) (ci := 6) (q0 := 1) rfl rfl) rfl rfl hl.1 rfl (lv_room (Nat.le_of_ble_eq_true rfl)) dX4_keys_12 ⟨(Nat.le_of_ble_eq_true rfl), (Nat.le_of_ble_eq_true rfl)⟩) (fun f1335 H locs w => ?_)
  have w : xW G A s [(h0, .inr (8, [.ref h1, .ref h4, .ref h5, .ref h6, .ref h7, .int 0, .ref h3, .ref h8])), (h1, .inr (7, [.ref h2, .ref h9])), (h2, .inr (6, [.ref h10, .int 0])), (h3, .inr (6, [.ref h11, .int 0]))] H _ := w
  refine lv_iconst (v := 0) C.1 C.2.1 dX4_keys_15 (by decide) ?_
  refine lv_istore_n (lv' := [(3, .int 0), (2, .int 0), (0, .ref h0), (1, .int 1)]) C.1 C.2.1 dX4_keys_16 rfl hl (by decide) rfl (fun ls hl => ?_)
  refine lv_iload_n C.1 C.2.1 dX4_keys_17 rfl (lv_at hl 0 rfl) ?_
  refine lv_iload_n C.1 C.2.1 dX4_keys_18 rfl (lv_at hl 1 rfl) ?_
  refine lv_icmp_ge (tgt := 55) C.1 C.2.1 dX4_keys_19 (by decide) (fun _ => ?_) (fun c9 => absurd (by decide) c9)
  refine lv_aload_n C.1 C.2.1 dX4_keys_55 rfl (lv_at hl 2 rfl) ?_
  refine x_get (v := .ref h3) C w 0 8 6 (xin_X4 _) rfl rfl (by decide) (List.mem_cons_of_mem _ gw_51) rfl rfl dX4_keys_56 ?_
  refine x_kr C w [3] [0, 1, 2] rfl rfl (by decide) (by decide) (va_runV (As := []) (rest := []) (xfix C) (c228_X2_joined l G cy sa sv h3 h11 (xtr C) _) (cwV 0 (xhts C) (xgV (maxL := 0) (cc := ⟨#[]⟩) (ret := none) gw_542 gw_543 gw_544 gw_11 gc_X2_joined) rfl rfl rfl (by decide +kernel) ⟨(Nat.le_of_ble_eq_true rfl), (Nat.le_of_ble_eq_true rfl)⟩) (xPV C w [3] rfl (by decide) (ci := 6) (q0 := 3) rfl rfl) rfl rfl hl.1 rfl (lv_room (Nat.le_of_ble_eq_true rfl)) dX4_keys_59 ⟨(Nat.le_of_ble_eq_true rfl), (Nat.le_of_ble_eq_true rfl)⟩) (fun f1386 H locs w => ?_)
  have w : xW G A s [(h0, .inr (8, [.ref h1, .ref h4, .ref h5, .ref h6, .ref h7, .int 0, .ref h3, .ref h8])), (h1, .inr (7, [.ref h2, .ref h9])), (h2, .inr (6, [.ref h10, .int 0])), (h3, .inr (6, [.ref h11, .int 0])), ((f1386 0), .inr (0, [.ref (f1386 1), .int 0, .int 0, .int 0])), ((f1386 1), .inl (cy 0, 0, .inl (va_cpy (fun _ => 0) (fun _ => 0) 0 0 0)))] H _ := w
  refine W.widen (k := 4) (n := 24) (Nat.le_of_ble_eq_true rfl) (Nat.le_of_ble_eq_true rfl) ?_
  exact x_aret C w hr (Or.inl ⟨_, rfl⟩) (fun k => match k with | 0 => (f1386 0) | 1 => (f1386 1) | _ => 0) rfl rfl dX4_keys_62 (Nat.le_of_ble_eq_true rfl) (Nat.le_of_ble_eq_true rfl)
set_option maxHeartbeats 4000000 in
set_option maxRecDepth 100000 in
theorem c235_X6_keys (l : Launch) (G : va_G) (cy : Nat → ClassId) (sa : String → Nat → Nat) (sv : Nat → Nat) (h0 h1 h2 h3 h4 h5 h6 h7 : Nat) : xM l G cy sa sv yX6_keys (Cond.code yX6_keys cX6_keys 5 (some (.object "java/lang/String")) :: XG) { frames := 10, cells := 2, slots := 0, locals := 293 } [.ref h0, .int 1] [(h0, .inr (10, [.ref h1, .ref h2, .ref h3, .ref h4, .ref h5, .ref h6, .ref h7, .int 0, .int 0])), (h1, .inr (3, [.int 0, .ref (sv 0), .int 0]))] (xQr G (fun f => [(h0, .inr (10, [.ref h1, .ref h2, .ref h3, .ref h4, .ref h5, .ref h6, .ref h7, .int 0, .int 0])), (h1, .inr (3, [.int 0, .ref (sv 0), .int 0]))]) (fun f => (sa "TwinindexModel" 122))) := by
  refine xof (by decide) (Nat.le_of_ble_eq_true rfl) (fun p e s m below meth c A C w hr hn ls hl => ?_)
  have hl : lv_has ls 5 [(0, .ref h0), (1, .int 1)] := hl
  refine lv_aload_n C.1 C.2.1 dX6_keys_0 rfl (lv_at hl 0 rfl) ?_
  refine lv_iconst (v := 0) C.1 C.2.1 dX6_keys_1 (by decide) ?_
  refine x_put (ty := .int) (ty0 := tyX6) C w 0 10 8 (xin_X6 _) tyX6_ok nmX6 rfl rfl (by decide) (List.mem_cons_of_mem _ gw_112) rfl rfl (by decide +kernel) rfl rfl (Nat.le_of_ble_eq_true rfl) dX6_keys_2 (fun H locs w => ?_)
  have w : xW G A s [(h0, .inr (10, [.ref h1, .ref h2, .ref h3, .ref h4, .ref h5, .ref h6, .ref h7, .int 0, .int 0])), (h1, .inr (3, [.int 0, .ref (sv 0), .int 0]))] H _ := w
  refine lv_aload_n C.1 C.2.1 dX6_keys_5 rfl (lv_at hl 0 rfl) ?_
  refine x_get (v := .ref h1) C w 0 10 0 (xin_X6 _) rfl rfl (by decide) (List.mem_cons_of_mem _ gw_78) rfl rfl dX6_keys_6 ?_
  refine x_kr C w [1] [0] rfl rfl (by decide) (by decide) (va_runS (As := [.ref h1]) (rest := []) (xfix C) (c115_X6_keysOf l G cy sa sv h1 (xtr C) _) (va_cwS 1 (xhts C) (xgS gw_330 gw_331 gw_58 gc_X6_keysOf) rfl rfl rfl (by decide +kernel) ⟨(Nat.le_of_ble_eq_true rfl), (Nat.le_of_ble_eq_true rfl)⟩) (xPS C w [1] rfl (by decide)) rfl rfl hl.1 rfl (lv_room (Nat.le_of_ble_eq_true rfl)) dX6_keys_9 ⟨(Nat.le_of_ble_eq_true rfl), (Nat.le_of_ble_eq_true rfl)⟩) (fun f1399 H locs w => ?_)
  have w : xW G A s [(h0, .inr (10, [.ref h1, .ref h2, .ref h3, .ref h4, .ref h5, .ref h6, .ref h7, .int 0, .int 0])), (h1, .inr (3, [.int 0, .ref (sv 0), .int 0])), ((f1399 0), .inl (cy 1, 0, .inl (fun _ => 0)))] H _ := w
  refine W.widen (k := 1) (n := 0) (Nat.le_of_ble_eq_true rfl) (Nat.le_of_ble_eq_true rfl) ?_
  refine lv_astore_n (lv' := [(2, .ref (f1399 0)), (0, .ref h0), (1, .int 1)]) C.1 C.2.1 dX6_keys_12 rfl hl (by decide) rfl (fun ls hl => ?_)
  refine lv_aload_n C.1 C.2.1 dX6_keys_13 rfl (lv_at hl 0 rfl) ?_
  refine x_alen (v := 0) C w 2 1 rfl rfl (by rfl) dX6_keys_14 ?_
  refine x_newa (atype := .int) (ty := .int) (N := 0) C w 1 (fun _ _ h => h) rfl (List.mem_cons_of_mem _ gw_13) rfl rfl (by decide) (by decide) (by decide) (Nat.le_of_ble_eq_true rfl) (Nat.le_of_ble_eq_true rfl) dX6_keys_15 (fun q1400 H w => ?_)
  have w : xW G A s [(h0, .inr (10, [.ref h1, .ref h2, .ref h3, .ref h4, .ref h5, .ref h6, .ref h7, .int 0, .int 0])), (h1, .inr (3, [.int 0, .ref (sv 0), .int 0])), ((f1399 0), .inl (cy 1, 0, .inl (fun _ => 0))), (q1400, .inl (cy 1, 0, .inl (fun _ => 0)))] H _ := w
  refine W.widen (k := 2) (n := 0) (Nat.le_of_ble_eq_true rfl) (Nat.le_of_ble_eq_true rfl) ?_
  refine lv_astore_n (lv' := [(3, .ref q1400), (2, .ref (f1399 0)), (0, .ref h0), (1, .int 1)]) C.1 C.2.1 dX6_keys_17 rfl hl (by decide) rfl (fun ls hl => ?_)
  refine lv_iconst (v := 0) C.1 C.2.1 dX6_keys_18 (by decide) ?_
  refine lv_istore (lv' := [(4, .int 0), (3, .ref q1400), (2, .ref (f1399 0)), (0, .ref h0), (1, .int 1)]) C.1 C.2.1 dX6_keys_19 hl (by decide) rfl (fun ls hl => ?_)
  refine lv_iload C.1 C.2.1 dX6_keys_21 (lv_at hl 0 rfl) ?_
  refine lv_aload_n C.1 C.2.1 dX6_keys_23 rfl (lv_at hl 1 rfl) ?_
  refine x_alen (v := 0) C w 3 1 rfl rfl (by rfl) dX6_keys_24 ?_
  refine lv_icmp_ge (tgt := 56) C.1 C.2.1 dX6_keys_25 (by decide) (fun _ => ?_) (fun c9 => absurd (by decide) c9)
  refine lv_aload_n C.1 C.2.1 dX6_keys_56 rfl (lv_at hl 1 rfl) ?_
  refine x_kr C w [3] [0, 1, 2] rfl rfl (by decide) (by decide) (va_runS (As := [.ref q1400]) (rest := []) (xfix C) (c230_X6_joined l G cy sa sv q1400 (xtr C) _) (va_cwS 1 (xhts C) (xgS gw_550 gw_551 gw_58 gc_X6_joined) rfl rfl rfl (by decide +kernel) ⟨(Nat.le_of_ble_eq_true rfl), (Nat.le_of_ble_eq_true rfl)⟩) (xPS C w [3] rfl (by decide)) rfl rfl hl.1 rfl (lv_room (Nat.le_of_ble_eq_true rfl)) dX6_keys_57 ⟨(Nat.le_of_ble_eq_true rfl), (Nat.le_of_ble_eq_true rfl)⟩) (fun f1401 H locs w => ?_)
  have w : xW G A s [(h0, .inr (10, [.ref h1, .ref h2, .ref h3, .ref h4, .ref h5, .ref h6, .ref h7, .int 0, .int 0])), (h1, .inr (3, [.int 0, .ref (sv 0), .int 0])), ((f1399 0), .inl (cy 1, 0, .inl (fun _ => 0))), (q1400, .inl (cy 1, 0, .inl (fun _ => 0)))] H _ := w
  have w := w.sub (ws' := [(h0, .inr (10, [.ref h1, .ref h2, .ref h3, .ref h4, .ref h5, .ref h6, .ref h7, .int 0, .int 0])), (h1, .inr (3, [.int 0, .ref (sv 0), .int 0]))]) [0, 1] (by decide) rfl rfl
  exact x_aret C w hr (Or.inl ⟨_, rfl⟩) (fun _ => 0) rfl rfl dX6_keys_60 (Nat.le_of_ble_eq_true rfl) (Nat.le_of_ble_eq_true rfl)
set_option maxHeartbeats 4000000 in
set_option maxRecDepth 100000 in
theorem c236_X4_values (l : Launch) (G : va_G) (cy : Nat → ClassId) (sa : String → Nat → Nat) (sv : Nat → Nat) (h0 h1 h2 h3 h4 h5 h6 h7 h8 h9 h10 h11 : Nat) : xM l G cy sa sv yX4_values (Cond.code yX4_values cX4_values 3 (some (.object "java/lang/String")) :: XG) { frames := 15, cells := 4, slots := 24, locals := 404 } [.ref h0] [(h0, .inr (8, [.ref h1, .ref h4, .ref h5, .ref h6, .ref h7, .int 0, .ref h3, .ref h8])), (h1, .inr (7, [.ref h2, .ref h9])), (h2, .inr (6, [.ref h10, .int 0])), (h3, .inr (6, [.ref h11, .int 0]))] (xQr G (fun f => [(h0, .inr (8, [.ref h1, .ref h4, .ref h5, .ref h6, .ref h7, .int 0, .ref h3, .ref h8])), (h1, .inr (7, [.ref h2, .ref h9])), (h2, .inr (6, [.ref h10, .int 0])), (h3, .inr (6, [.ref h11, .int 0])), ((f 0), .inr (0, [.ref (f 1), .int 0, .int 0, .int 0])), ((f 1), .inl (cy 0, 0, .inl (va_cpy (fun _ => 0) (fun _ => 0) 0 0 0)))]) (fun f => (f 0))) := by
  refine xof (by decide) (Nat.le_of_ble_eq_true rfl) (fun p e s m below meth c A C w hr hn ls hl => ?_)
  have hl : lv_has ls 3 [(0, .ref h0)] := hl
  refine lv_aload_n C.1 C.2.1 dX4_values_0 rfl (lv_at hl 0 rfl) ?_
  refine x_get (v := .ref h1) C w 0 8 0 (xin_X4 _) rfl rfl (by decide) (List.mem_cons_of_mem _ gw_24) rfl rfl dX4_values_1 ?_
  refine x_ki C w [1, 2] [0, 3] rfl rfl (by decide) (by decide) (va_runV (As := []) (rest := []) (xfix C) (c22_X3_count l G cy sa sv h1 h2 h9 h10 (xtr C) _) (cwV 0 (xhts C) (xgV (maxL := 0) (cc := ⟨#[]⟩) (ret := none) gw_130 gw_131 gw_132 gw_7 gc_X3_count) rfl rfl rfl (by decide +kernel) ⟨(Nat.le_of_ble_eq_true rfl), (Nat.le_of_ble_eq_true rfl)⟩) (xPV C w [1, 2] rfl (by decide) (ci := 7) (q0 := 1) rfl rfl) rfl rfl hl.1 rfl (lv_room (Nat.le_of_ble_eq_true rfl)) dX4_values_4 ⟨(Nat.le_of_ble_eq_true rfl), (Nat.le_of_ble_eq_true rfl)⟩) (fun f1419 H locs w => ?_)
  have w : xW G A s [(h0, .inr (8, [.ref h1, .ref h4, .ref h5, .ref h6, .ref h7, .int 0, .ref h3, .ref h8])), (h3, .inr (6, [.ref h11, .int 0])), (h1, .inr (7, [.ref h2, .ref h9])), (h2, .inr (6, [.ref h10, .int 0]))] H _ := w
  refine lv_istore_n (lv' := [(1, .int 0), (0, .ref h0)]) C.1 C.2.1 dX4_values_7 rfl hl (by decide) rfl (fun ls hl => ?_)
  refine lv_aload_n C.1 C.2.1 dX4_values_8 rfl (lv_at hl 1 rfl) ?_
  refine x_get (v := .ref h3) C w 0 8 6 (xin_X4 _) rfl rfl (by decide) (List.mem_cons_of_mem _ gw_51) rfl rfl dX4_values_9 ?_
  refine x_kv C w [1] [0, 2, 3] rfl rfl (by decide) (by decide) (va_runV (As := []) (rest := []) (xfix C) (c109_X2_empty l G cy sa sv h3 h11 (xtr C) _) (cwV 0 (xhts C) (xgV (maxL := 0) (cc := ⟨#[]⟩) (ret := none) gw_312 gw_313 gw_314 gw_11 gc_X2_empty) rfl rfl rfl (by decide +kernel) ⟨(Nat.le_of_ble_eq_true rfl), (Nat.le_of_ble_eq_true rfl)⟩) (xPV C w [1] rfl (by decide) (ci := 6) (q0 := 1) rfl rfl) rfl rfl hl.1 rfl (lv_room (Nat.le_of_ble_eq_true rfl)) dX4_values_12 ⟨(Nat.le_of_ble_eq_true rfl), (Nat.le_of_ble_eq_true rfl)⟩) (fun f1420 H locs w => ?_)
  have w : xW G A s [(h0, .inr (8, [.ref h1, .ref h4, .ref h5, .ref h6, .ref h7, .int 0, .ref h3, .ref h8])), (h1, .inr (7, [.ref h2, .ref h9])), (h2, .inr (6, [.ref h10, .int 0])), (h3, .inr (6, [.ref h11, .int 0]))] H _ := w
  refine lv_iconst (v := 0) C.1 C.2.1 dX4_values_15 (by decide) ?_
  refine lv_istore_n (lv' := [(2, .int 0), (1, .int 0), (0, .ref h0)]) C.1 C.2.1 dX4_values_16 rfl hl (by decide) rfl (fun ls hl => ?_)
  refine lv_iload_n C.1 C.2.1 dX4_values_17 rfl (lv_at hl 0 rfl) ?_
  refine lv_iload_n C.1 C.2.1 dX4_values_18 rfl (lv_at hl 1 rfl) ?_
  refine lv_icmp_ge (tgt := 43) C.1 C.2.1 dX4_values_19 (by decide) (fun _ => ?_) (fun c9 => absurd (by decide) c9)
  refine lv_aload_n C.1 C.2.1 dX4_values_43 rfl (lv_at hl 2 rfl) ?_
  refine x_get (v := .ref h3) C w 0 8 6 (xin_X4 _) rfl rfl (by decide) (List.mem_cons_of_mem _ gw_51) rfl rfl dX4_values_44 ?_
  refine x_kr C w [3] [0, 1, 2] rfl rfl (by decide) (by decide) (va_runV (As := []) (rest := []) (xfix C) (c228_X2_joined l G cy sa sv h3 h11 (xtr C) _) (cwV 0 (xhts C) (xgV (maxL := 0) (cc := ⟨#[]⟩) (ret := none) gw_542 gw_543 gw_544 gw_11 gc_X2_joined) rfl rfl rfl (by decide +kernel) ⟨(Nat.le_of_ble_eq_true rfl), (Nat.le_of_ble_eq_true rfl)⟩) (xPV C w [3] rfl (by decide) (ci := 6) (q0 := 3) rfl rfl) rfl rfl hl.1 rfl (lv_room (Nat.le_of_ble_eq_true rfl)) dX4_values_47 ⟨(Nat.le_of_ble_eq_true rfl), (Nat.le_of_ble_eq_true rfl)⟩) (fun f1471 H locs w => ?_)
  have w : xW G A s [(h0, .inr (8, [.ref h1, .ref h4, .ref h5, .ref h6, .ref h7, .int 0, .ref h3, .ref h8])), (h1, .inr (7, [.ref h2, .ref h9])), (h2, .inr (6, [.ref h10, .int 0])), (h3, .inr (6, [.ref h11, .int 0])), ((f1471 0), .inr (0, [.ref (f1471 1), .int 0, .int 0, .int 0])), ((f1471 1), .inl (cy 0, 0, .inl (va_cpy (fun _ => 0) (fun _ => 0) 0 0 0)))] H _ := w
  refine W.widen (k := 4) (n := 24) (Nat.le_of_ble_eq_true rfl) (Nat.le_of_ble_eq_true rfl) ?_
  exact x_aret C w hr (Or.inl ⟨_, rfl⟩) (fun k => match k with | 0 => (f1471 0) | 1 => (f1471 1) | _ => 0) rfl rfl dX4_values_50 (Nat.le_of_ble_eq_true rfl) (Nat.le_of_ble_eq_true rfl)
set_option maxHeartbeats 4000000 in
set_option maxRecDepth 100000 in
theorem c237_X6_values (l : Launch) (G : va_G) (cy : Nat → ClassId) (sa : String → Nat → Nat) (sv : Nat → Nat) (h0 h1 h2 h3 h4 h5 h6 h7 : Nat) : xM l G cy sa sv yX6_values (Cond.code yX6_values cX6_values 3 (some (.object "java/lang/String")) :: XG) { frames := 10, cells := 1, slots := 0, locals := 293 } [.ref h0] [(h0, .inr (10, [.ref h1, .ref h2, .ref h3, .ref h4, .ref h5, .ref h6, .ref h7, .int 0, .int 0])), (h1, .inr (3, [.int 0, .ref (sv 0), .int 0]))] (xQr G (fun f => [(h0, .inr (10, [.ref h1, .ref h2, .ref h3, .ref h4, .ref h5, .ref h6, .ref h7, .int 0, .int 0])), (h1, .inr (3, [.int 0, .ref (sv 0), .int 0]))]) (fun f => (sa "TwinindexModel" 122))) := by
  refine xof (by decide) (Nat.le_of_ble_eq_true rfl) (fun p e s m below meth c A C w hr hn ls hl => ?_)
  have hl : lv_has ls 3 [(0, .ref h0)] := hl
  refine lv_aload_n C.1 C.2.1 dX6_values_0 rfl (lv_at hl 0 rfl) ?_
  refine lv_iconst (v := 0) C.1 C.2.1 dX6_values_1 (by decide) ?_
  refine x_put (ty := .int) (ty0 := tyX6) C w 0 10 8 (xin_X6 _) tyX6_ok nmX6 rfl rfl (by decide) (List.mem_cons_of_mem _ gw_112) rfl rfl (by decide +kernel) rfl rfl (Nat.le_of_ble_eq_true rfl) dX6_values_2 (fun H locs w => ?_)
  have w : xW G A s [(h0, .inr (10, [.ref h1, .ref h2, .ref h3, .ref h4, .ref h5, .ref h6, .ref h7, .int 0, .int 0])), (h1, .inr (3, [.int 0, .ref (sv 0), .int 0]))] H _ := w
  refine lv_aload_n C.1 C.2.1 dX6_values_5 rfl (lv_at hl 0 rfl) ?_
  refine x_get (v := .ref h1) C w 0 10 0 (xin_X6 _) rfl rfl (by decide) (List.mem_cons_of_mem _ gw_78) rfl rfl dX6_values_6 ?_
  refine x_kr C w [1] [0] rfl rfl (by decide) (by decide) (va_runS (As := [.ref h1]) (rest := []) (xfix C) (c115_X6_keysOf l G cy sa sv h1 (xtr C) _) (va_cwS 1 (xhts C) (xgS gw_330 gw_331 gw_58 gc_X6_keysOf) rfl rfl rfl (by decide +kernel) ⟨(Nat.le_of_ble_eq_true rfl), (Nat.le_of_ble_eq_true rfl)⟩) (xPS C w [1] rfl (by decide)) rfl rfl hl.1 rfl (lv_room (Nat.le_of_ble_eq_true rfl)) dX6_values_9 ⟨(Nat.le_of_ble_eq_true rfl), (Nat.le_of_ble_eq_true rfl)⟩) (fun f1482 H locs w => ?_)
  have w : xW G A s [(h0, .inr (10, [.ref h1, .ref h2, .ref h3, .ref h4, .ref h5, .ref h6, .ref h7, .int 0, .int 0])), (h1, .inr (3, [.int 0, .ref (sv 0), .int 0])), ((f1482 0), .inl (cy 1, 0, .inl (fun _ => 0)))] H _ := w
  refine W.widen (k := 1) (n := 0) (Nat.le_of_ble_eq_true rfl) (Nat.le_of_ble_eq_true rfl) ?_
  refine lv_astore_n (lv' := [(1, .ref (f1482 0)), (0, .ref h0)]) C.1 C.2.1 dX6_values_12 rfl hl (by decide) rfl (fun ls hl => ?_)
  refine lv_iconst (v := 0) C.1 C.2.1 dX6_values_13 (by decide) ?_
  refine lv_istore_n (lv' := [(2, .int 0), (1, .ref (f1482 0)), (0, .ref h0)]) C.1 C.2.1 dX6_values_14 rfl hl (by decide) rfl (fun ls hl => ?_)
  refine lv_iload_n C.1 C.2.1 dX6_values_15 rfl (lv_at hl 0 rfl) ?_
  refine lv_aload_n C.1 C.2.1 dX6_values_16 rfl (lv_at hl 1 rfl) ?_
  refine x_alen (v := 0) C w 2 1 rfl rfl (by rfl) dX6_values_17 ?_
  refine lv_icmp_ge (tgt := 40) C.1 C.2.1 dX6_values_18 (by decide) (fun _ => ?_) (fun c9 => absurd (by decide) c9)
  refine lv_aload_n C.1 C.2.1 dX6_values_40 rfl (lv_at hl 1 rfl) ?_
  refine x_kr C w [2] [0, 1] rfl rfl (by decide) (by decide) (va_runS (As := [.ref (f1482 0)]) (rest := []) (xfix C) (c230_X6_joined l G cy sa sv (f1482 0) (xtr C) _) (va_cwS 1 (xhts C) (xgS gw_550 gw_551 gw_58 gc_X6_joined) rfl rfl rfl (by decide +kernel) ⟨(Nat.le_of_ble_eq_true rfl), (Nat.le_of_ble_eq_true rfl)⟩) (xPS C w [2] rfl (by decide)) rfl rfl hl.1 rfl (lv_room (Nat.le_of_ble_eq_true rfl)) dX6_values_41 ⟨(Nat.le_of_ble_eq_true rfl), (Nat.le_of_ble_eq_true rfl)⟩) (fun f1483 H locs w => ?_)
  have w : xW G A s [(h0, .inr (10, [.ref h1, .ref h2, .ref h3, .ref h4, .ref h5, .ref h6, .ref h7, .int 0, .int 0])), (h1, .inr (3, [.int 0, .ref (sv 0), .int 0])), ((f1482 0), .inl (cy 1, 0, .inl (fun _ => 0)))] H _ := w
  have w := w.sub (ws' := [(h0, .inr (10, [.ref h1, .ref h2, .ref h3, .ref h4, .ref h5, .ref h6, .ref h7, .int 0, .int 0])), (h1, .inr (3, [.int 0, .ref (sv 0), .int 0]))]) [0, 1] (by decide) rfl rfl
  exact x_aret C w hr (Or.inl ⟨_, rfl⟩) (fun _ => 0) rfl rfl dX6_values_44 (Nat.le_of_ble_eq_true rfl) (Nat.le_of_ble_eq_true rfl)
set_option maxHeartbeats 4000000 in
set_option maxRecDepth 100000 in
theorem c238_J5_ensureCapacityInternal_d00df (l : Launch) (G : va_G) (cy : Nat → ClassId) (sa : String → Nat → Nat) (sv : Nat → Nat) (h0 h1 : Nat) : xM l G cy sa sv yJ5_ensureCapacityInternal_d00df (Cond.code yJ5_ensureCapacityInternal_d00df cJ5_ensureCapacityInternal_d00df 3 none :: XG) { frames := 8, cells := 0, slots := 0, locals := 250 } [.ref h0, .int 1] [(h0, .inr (1, [.ref h1, .int 0, .int 0, .int 0])), (h1, .inl (cy 0, 16, .inl (fun _ => 0)))] (xQv G (fun f => [(h0, .inr (1, [.ref h1, .int 0, .int 0, .int 0])), (h1, .inl (cy 0, 16, .inl (fun _ => 0)))])) := by
  refine xof (by decide) (Nat.le_of_ble_eq_true rfl) (fun p e s m below meth c A C w hr hn ls hl => ?_)
  have hl : lv_has ls 3 [(0, .ref h0), (1, .int 1)] := hl
  refine lv_aload_n C.1 C.2.1 dJ5_ensureCapacityInternal_d00df_0 rfl (lv_at hl 0 rfl) ?_
  refine x_get (v := .ref h1) C w 0 1 0 (xin_J4 _) rfl rfl (by decide) (List.mem_cons_of_mem _ gw_481) rfl rfl dJ5_ensureCapacityInternal_d00df_1 ?_
  refine x_alen (v := 16) C w 1 0 rfl rfl (by rfl) dJ5_ensureCapacityInternal_d00df_4 ?_
  refine lv_aload_n C.1 C.2.1 dJ5_ensureCapacityInternal_d00df_5 rfl (lv_at hl 0 rfl) ?_
  refine x_get (v := .int 0) C w 0 1 1 (xin_J4 _) rfl rfl (by decide) (List.mem_cons_of_mem _ gw_482) rfl rfl dJ5_ensureCapacityInternal_d00df_6 ?_
  refine lv_ishr C.1 C.2.1 dJ5_ensureCapacityInternal_d00df_9 ?_
  refine x_is (y := 16) (by decide) ?_
  refine lv_istore_n (lv' := [(2, .int 16), (0, .ref h0), (1, .int 1)]) C.1 C.2.1 dJ5_ensureCapacityInternal_d00df_10 rfl hl (by decide) rfl (fun ls hl => ?_)
  refine lv_iload_n C.1 C.2.1 dJ5_ensureCapacityInternal_d00df_11 rfl (lv_at hl 2 rfl) ?_
  refine lv_iload_n C.1 C.2.1 dJ5_ensureCapacityInternal_d00df_12 rfl (lv_at hl 0 rfl) ?_
  refine lv_isub C.1 C.2.1 dJ5_ensureCapacityInternal_d00df_13 ?_
  refine x_is (y := (-15)) (by decide) ?_
  refine lv_if_le (tgt := 38) C.1 C.2.1 dJ5_ensureCapacityInternal_d00df_14 (by decide) (fun _ => ?_) (fun c9 => absurd (by decide) c9)
  exact x_vret C w hr (fun _ => 0) rfl dJ5_ensureCapacityInternal_d00df_38 (Nat.le_of_ble_eq_true rfl) (Nat.le_of_ble_eq_true rfl)
set_option maxHeartbeats 4000000 in
set_option maxRecDepth 100000 in
theorem c239_J1_canEncode_fc78d (l : Launch) (G : va_G) (cy : Nat → ClassId) (sa : String → Nat → Nat) (sv : Nat → Nat) : xM l G cy sa sv yJ1_canEncode_fc78d (Cond.code yJ1_canEncode_fc78d cJ1_canEncode_fc78d 1 (some .boolean) :: XG) { frames := 8, cells := 0, slots := 0, locals := 250 } [.int 123] [] (xQi G (fun f => []) 1) := by
  refine xof (by decide) (Nat.le_of_ble_eq_true rfl) (fun p e s m below meth c A C w hr hn ls hl => ?_)
  have hl : lv_has ls 1 [(0, .int 123)] := hl
  refine lv_iload_n C.1 C.2.1 dJ1_canEncode_fc78d_0 rfl (lv_at hl 0 rfl) ?_
  refine lv_sipush (v := 255) C.1 C.2.1 dJ1_canEncode_fc78d_1 (by decide) ?_
  refine lv_icmp_gt (tgt := 11) C.1 C.2.1 dJ1_canEncode_fc78d_4 (by decide) (fun c9 => absurd c9 (by decide)) (fun _ => ?_)
  refine lv_iconst (v := 1) C.1 C.2.1 dJ1_canEncode_fc78d_7 (by decide) ?_
  refine lv_goto (tgt := 12) C.1 C.2.1 dJ1_canEncode_fc78d_8 (by decide) ?_
  exact x_zret C w hr rfl (fun _ => 0) rfl rfl dJ1_canEncode_fc78d_12 (Nat.le_of_ble_eq_true rfl) (Nat.le_of_ble_eq_true rfl)
set_option maxHeartbeats 4000000 in
set_option maxRecDepth 100000 in
theorem c240_J5_append_3fe6f (l : Launch) (G : va_G) (cy : Nat → ClassId) (sa : String → Nat → Nat) (sv : Nat → Nat) (h0 h1 : Nat) : xM l G cy sa sv yJ5_append_3fe6f (Cond.code yJ5_append_3fe6f cJ5_append_3fe6f 2 (some (.object "java/lang/AbstractStringBuilder")) :: XG) { frames := 9, cells := 0, slots := 0, locals := 272 } [.ref h0, .int 123] [(h0, .inr (1, [.ref h1, .int 0, .int 0, .int 0])), (h1, .inl (cy 0, 16, .inl (fun _ => 0)))] (xQr G (fun f => [(h0, .inr (1, [.ref h1, .int 0, .int 0, .int 1])), (h1, .inl (cy 0, 16, .inl (upd (fun _ => 0) 0 123)))]) (fun f => h0)) := by
  refine xof (by decide) (Nat.le_of_ble_eq_true rfl) (fun p e s m below meth c A C w hr hn ls hl => ?_)
  have hl : lv_has ls 2 [(0, .ref h0), (1, .int 123)] := hl
  refine lv_aload_n C.1 C.2.1 dJ5_append_3fe6f_0 rfl (lv_at hl 0 rfl) ?_
  refine lv_aload_n C.1 C.2.1 dJ5_append_3fe6f_1 rfl (lv_at hl 0 rfl) ?_
  refine x_get (v := .int 0) C w 0 1 3 (xin_J4 _) rfl rfl (by decide) (List.mem_cons_of_mem _ gw_499) rfl rfl dJ5_append_3fe6f_2 ?_
  refine lv_iconst (v := 1) C.1 C.2.1 dJ5_append_3fe6f_5 (by decide) ?_
  refine lv_iadd C.1 C.2.1 dJ5_append_3fe6f_6 ?_
  refine x_is (y := 1) (by decide) ?_
  refine x_kv C w [0, 1] [] rfl rfl (by decide) (by decide) (va_runU (As := [.int 1]) (rest := []) (xfix C) (c238_J5_ensureCapacityInternal_d00df l G cy sa sv h0 h1 (xtr C) _) (va_cwU 1 (xhts C) (xgU (x := ⟨"java/lang/AbstractStringBuilder", "ensureCapacityInternal", "(I)V"⟩) gw_577 gw_578 gw_579 gw_580 gw_484 gc_J5_ensureCapacityInternal_d00df) rfl rfl rfl rfl (by decide +kernel) ⟨(Nat.le_of_ble_eq_true rfl), (Nat.le_of_ble_eq_true rfl)⟩) (xPV C w [0, 1] rfl (by decide) (ci := 1) (q0 := 0) rfl rfl) rfl rfl hl.1 rfl (lv_room (Nat.le_of_ble_eq_true rfl)) dJ5_append_3fe6f_7 ⟨(Nat.le_of_ble_eq_true rfl), (Nat.le_of_ble_eq_true rfl)⟩) (fun f1514 H locs w => ?_)
  have w : xW G A s [(h0, .inr (1, [.ref h1, .int 0, .int 0, .int 0])), (h1, .inl (cy 0, 16, .inl (fun _ => 0)))] H _ := w
  refine lv_aload_n C.1 C.2.1 dJ5_append_3fe6f_10 rfl (lv_at hl 0 rfl) ?_
  refine x_ki C w [0] [1] rfl rfl (by decide) (by decide) (va_runU (As := []) (rest := []) (xfix C) (c221_J5_isLatin1_aae02 l G cy sa sv h0 h1 (xtr C) _) (va_cwU 0 (xhts C) (xgU (x := ⟨"java/lang/AbstractStringBuilder", "isLatin1", "()Z"⟩) gw_581 gw_511 gw_512 gw_513 gw_484 gc_J5_isLatin1_aae02) rfl rfl rfl rfl (by decide +kernel) ⟨(Nat.le_of_ble_eq_true rfl), (Nat.le_of_ble_eq_true rfl)⟩) (xPV C w [0] rfl (by decide) (ci := 1) (q0 := 0) rfl rfl) rfl rfl hl.1 rfl (lv_room (Nat.le_of_ble_eq_true rfl)) dJ5_append_3fe6f_11 ⟨(Nat.le_of_ble_eq_true rfl), (Nat.le_of_ble_eq_true rfl)⟩) (fun f1515 H locs w => ?_)
  have w : xW G A s [(h1, .inl (cy 0, 16, .inl (fun _ => 0))), (h0, .inr (1, [.ref h1, .int 0, .int 0, .int 0]))] H _ := w
  refine lv_if_eq (tgt := 45) C.1 C.2.1 dJ5_append_3fe6f_14 (by decide) (fun c9 => absurd c9 (by decide)) (fun _ => ?_)
  refine lv_iload_n C.1 C.2.1 dJ5_append_3fe6f_17 rfl (lv_at hl 1 rfl) ?_
  refine x_ki C w [] [0, 1] rfl rfl (by decide) (by decide) (va_runS (As := [.int 123]) (rest := []) (xfix C) (c239_J1_canEncode_fc78d l G cy sa sv (xtr C) _) (va_cwS 1 (xhts C) (xgS gw_583 gw_584 gw_559 gc_J1_canEncode_fc78d) rfl rfl rfl (by decide +kernel) ⟨(Nat.le_of_ble_eq_true rfl), (Nat.le_of_ble_eq_true rfl)⟩) (xPS C w [] rfl (by decide)) rfl rfl hl.1 rfl (lv_room (Nat.le_of_ble_eq_true rfl)) dJ5_append_3fe6f_18 ⟨(Nat.le_of_ble_eq_true rfl), (Nat.le_of_ble_eq_true rfl)⟩) (fun f1516 H locs w => ?_)
  have w : xW G A s [(h1, .inl (cy 0, 16, .inl (fun _ => 0))), (h0, .inr (1, [.ref h1, .int 0, .int 0, .int 0]))] H _ := w
  refine lv_if_eq (tgt := 45) C.1 C.2.1 dJ5_append_3fe6f_21 (by decide) (fun c9 => absurd c9 (by decide)) (fun _ => ?_)
  refine lv_aload_n C.1 C.2.1 dJ5_append_3fe6f_24 rfl (lv_at hl 0 rfl) ?_
  refine x_get (v := .ref h1) C w 1 1 0 (xin_J4 _) rfl rfl (by decide) (List.mem_cons_of_mem _ gw_481) rfl rfl dJ5_append_3fe6f_25 ?_
  refine lv_aload_n C.1 C.2.1 dJ5_append_3fe6f_28 rfl (lv_at hl 0 rfl) ?_
  refine lv_dup C.1 C.2.1 dJ5_append_3fe6f_29 rfl ?_
  refine x_get (v := .int 0) C w 1 1 3 (xin_J4 _) rfl rfl (by decide) (List.mem_cons_of_mem _ gw_499) rfl rfl dJ5_append_3fe6f_30 ?_
  refine lv_dup_x1 C.1 C.2.1 dJ5_append_3fe6f_33 rfl rfl ?_
  refine lv_iconst (v := 1) C.1 C.2.1 dJ5_append_3fe6f_34 (by decide) ?_
  refine lv_iadd C.1 C.2.1 dJ5_append_3fe6f_35 ?_
  refine x_is (y := 1) (by decide) ?_
  refine x_put (ty := .int) (ty0 := tyJ4) C w 1 1 3 (xin_J4 _) tyJ4_ok nmJ4 rfl rfl (by decide) (List.mem_cons_of_mem _ gw_499) rfl rfl (by decide +kernel) rfl rfl (Nat.le_of_ble_eq_true rfl) dJ5_append_3fe6f_36 (fun H locs w => ?_)
  have w : xW G A s [(h1, .inl (cy 0, 16, .inl (fun _ => 0))), (h0, .inr (1, [.ref h1, .int 0, .int 0, .int 1]))] H _ := w
  refine lv_iload_n C.1 C.2.1 dJ5_append_3fe6f_39 rfl (lv_at hl 1 rfl) ?_
  refine lv_i2b (v := 123) C.1 C.2.1 dJ5_append_3fe6f_40 (by decide) ?_
  refine x_bast (k := 0) (y := 123) C w 0 0 rfl rfl (xvin (by decide)) (by decide) (by decide) dJ5_append_3fe6f_41 (fun H locs w => ?_)
  have w : xW G A s [(h1, .inl (cy 0, 16, .inl (upd (fun _ => 0) 0 123))), (h0, .inr (1, [.ref h1, .int 0, .int 0, .int 1]))] H _ := w
  refine lv_goto (tgt := 75) C.1 C.2.1 dJ5_append_3fe6f_42 (by decide) ?_
  refine lv_aload_n C.1 C.2.1 dJ5_append_3fe6f_75 rfl (lv_at hl 0 rfl) ?_
  have w := w.sub (ws' := [(h0, .inr (1, [.ref h1, .int 0, .int 0, .int 1])), (h1, .inl (cy 0, 16, .inl (upd (fun _ => 0) 0 123)))]) [1, 0] (by decide) rfl rfl
  exact x_aret C w hr (Or.inl ⟨_, rfl⟩) (fun _ => 0) rfl rfl dJ5_append_3fe6f_76 (Nat.le_of_ble_eq_true rfl) (Nat.le_of_ble_eq_true rfl)
set_option maxHeartbeats 4000000 in
set_option maxRecDepth 100000 in
theorem c241_J4_append_cf468 (l : Launch) (G : va_G) (cy : Nat → ClassId) (sa : String → Nat → Nat) (sv : Nat → Nat) (h0 h1 : Nat) : xM l G cy sa sv yJ4_append_cf468 (Cond.code yJ4_append_cf468 cJ4_append_cf468 2 (some (.object "java/lang/StringBuilder")) :: XG) { frames := 10, cells := 0, slots := 0, locals := 293 } [.ref h0, .int 123] [(h0, .inr (1, [.ref h1, .int 0, .int 0, .int 0])), (h1, .inl (cy 0, 16, .inl (fun _ => 0)))] (xQr G (fun f => [(h0, .inr (1, [.ref h1, .int 0, .int 0, .int 1])), (h1, .inl (cy 0, 16, .inl (upd (fun _ => 0) 0 123)))]) (fun f => h0)) := by
  refine xof (by decide) (Nat.le_of_ble_eq_true rfl) (fun p e s m below meth c A C w hr hn ls hl => ?_)
  have hl : lv_has ls 2 [(0, .ref h0), (1, .int 123)] := hl
  refine lv_aload_n C.1 C.2.1 dJ4_append_cf468_0 rfl (lv_at hl 0 rfl) ?_
  refine lv_iload_n C.1 C.2.1 dJ4_append_cf468_1 rfl (lv_at hl 1 rfl) ?_
  refine x_kr C w [0, 1] [] rfl rfl (by decide) (by decide) (va_runSU ((xK C).1 1 _ rfl).2 (As := [.int 123]) (rest := []) (xfix C) (c240_J5_append_3fe6f l G cy sa sv h0 h1 (xtr C) _) (va_cwSU 1 (xhts C) (xgSU gw_586 gw_587 gw_503 gw_588 gw_484 gc_J5_append_3fe6f) rfl rfl rfl (by decide +kernel) ⟨(Nat.le_of_ble_eq_true rfl), (Nat.le_of_ble_eq_true rfl)⟩) (xPV C w [0, 1] rfl (by decide) (ci := 1) (q0 := 0) rfl rfl) rfl rfl hl.1 rfl (lv_room (Nat.le_of_ble_eq_true rfl)) dJ4_append_cf468_2 ⟨(Nat.le_of_ble_eq_true rfl), (Nat.le_of_ble_eq_true rfl)⟩) (fun f1517 H locs w => ?_)
  have w : xW G A s [(h0, .inr (1, [.ref h1, .int 0, .int 0, .int 1])), (h1, .inl (cy 0, 16, .inl (upd (fun _ => 0) 0 123)))] H _ := w
  refine lv_pop C.1 C.2.1 dJ4_append_cf468_5 rfl ?_
  refine lv_aload_n C.1 C.2.1 dJ4_append_cf468_6 rfl (lv_at hl 0 rfl) ?_
  exact x_aret C w hr (Or.inl ⟨_, rfl⟩) (fun _ => 0) rfl rfl dJ4_append_cf468_7 (Nat.le_of_ble_eq_true rfl) (Nat.le_of_ble_eq_true rfl)
set_option maxHeartbeats 4000000 in
set_option maxRecDepth 100000 in
theorem c242_X4_joinPairs (l : Launch) (G : va_G) (cy : Nat → ClassId) (sa : String → Nat → Nat) (sv : Nat → Nat) (h0 h1 : Nat) : xM l G cy sa sv yX4_joinPairs (Cond.code yX4_joinPairs cX4_joinPairs 6 none :: XG) { frames := 8, cells := 0, slots := 0, locals := 250 } [.ref h0, .ref h1, .int 0, .int 0, .ref (sa "Twinindex" 139)] [] (xQv G (fun f => [])) := by
  refine xof (by decide) (Nat.le_of_ble_eq_true rfl) (fun p e s m below meth c A C w hr hn ls hl => ?_)
  have hl : lv_has ls 6 [(0, .ref h0), (1, .ref h1), (2, .int 0), (3, .int 0), (4, .ref (sa "Twinindex" 139))] := hl
  refine lv_iload_n C.1 C.2.1 dX4_joinPairs_0 rfl (lv_at hl 2 rfl) ?_
  refine lv_istore (lv' := [(5, .int 0), (0, .ref h0), (1, .ref h1), (2, .int 0), (3, .int 0), (4, .ref (sa "Twinindex" 139))]) C.1 C.2.1 dX4_joinPairs_1 hl (by decide) rfl (fun ls hl => ?_)
  refine lv_iload C.1 C.2.1 dX4_joinPairs_3 (lv_at hl 0 rfl) ?_
  refine lv_iload_n C.1 C.2.1 dX4_joinPairs_5 rfl (lv_at hl 4 rfl) ?_
  refine lv_icmp_ge (tgt := 63) C.1 C.2.1 dX4_joinPairs_6 (by decide) (fun _ => ?_) (fun c9 => absurd (by decide) c9)
  exact x_vret C w hr (fun _ => 0) rfl dX4_joinPairs_63 (Nat.le_of_ble_eq_true rfl) (Nat.le_of_ble_eq_true rfl)
set_option maxHeartbeats 4000000 in
set_option maxRecDepth 100000 in
theorem c243_J5_ensureCapacityInternal_d00df (l : Launch) (G : va_G) (cy : Nat → ClassId) (sa : String → Nat → Nat) (sv : Nat → Nat) (h0 h1 : Nat) : xM l G cy sa sv yJ5_ensureCapacityInternal_d00df (Cond.code yJ5_ensureCapacityInternal_d00df cJ5_ensureCapacityInternal_d00df 3 none :: XG) { frames := 8, cells := 0, slots := 0, locals := 250 } [.ref h0, .int 2] [(h0, .inr (1, [.ref h1, .int 0, .int 0, .int 1])), (h1, .inl (cy 0, 16, .inl (upd (fun _ => 0) 0 123)))] (xQv G (fun f => [(h0, .inr (1, [.ref h1, .int 0, .int 0, .int 1])), (h1, .inl (cy 0, 16, .inl (upd (fun _ => 0) 0 123)))])) := by
  refine xof (by decide) (Nat.le_of_ble_eq_true rfl) (fun p e s m below meth c A C w hr hn ls hl => ?_)
  have hl : lv_has ls 3 [(0, .ref h0), (1, .int 2)] := hl
  refine lv_aload_n C.1 C.2.1 dJ5_ensureCapacityInternal_d00df_0 rfl (lv_at hl 0 rfl) ?_
  refine x_get (v := .ref h1) C w 0 1 0 (xin_J4 _) rfl rfl (by decide) (List.mem_cons_of_mem _ gw_481) rfl rfl dJ5_ensureCapacityInternal_d00df_1 ?_
  refine x_alen (v := 16) C w 1 0 rfl rfl (by rfl) dJ5_ensureCapacityInternal_d00df_4 ?_
  refine lv_aload_n C.1 C.2.1 dJ5_ensureCapacityInternal_d00df_5 rfl (lv_at hl 0 rfl) ?_
  refine x_get (v := .int 0) C w 0 1 1 (xin_J4 _) rfl rfl (by decide) (List.mem_cons_of_mem _ gw_482) rfl rfl dJ5_ensureCapacityInternal_d00df_6 ?_
  refine lv_ishr C.1 C.2.1 dJ5_ensureCapacityInternal_d00df_9 ?_
  refine x_is (y := 16) (by decide) ?_
  refine lv_istore_n (lv' := [(2, .int 16), (0, .ref h0), (1, .int 2)]) C.1 C.2.1 dJ5_ensureCapacityInternal_d00df_10 rfl hl (by decide) rfl (fun ls hl => ?_)
  refine lv_iload_n C.1 C.2.1 dJ5_ensureCapacityInternal_d00df_11 rfl (lv_at hl 2 rfl) ?_
  refine lv_iload_n C.1 C.2.1 dJ5_ensureCapacityInternal_d00df_12 rfl (lv_at hl 0 rfl) ?_
  refine lv_isub C.1 C.2.1 dJ5_ensureCapacityInternal_d00df_13 ?_
  refine x_is (y := (-14)) (by decide) ?_
  refine lv_if_le (tgt := 38) C.1 C.2.1 dJ5_ensureCapacityInternal_d00df_14 (by decide) (fun _ => ?_) (fun c9 => absurd (by decide) c9)
  exact x_vret C w hr (fun _ => 0) rfl dJ5_ensureCapacityInternal_d00df_38 (Nat.le_of_ble_eq_true rfl) (Nat.le_of_ble_eq_true rfl)
set_option maxHeartbeats 4000000 in
set_option maxRecDepth 100000 in
theorem c244_J5_isLatin1_aae02 (l : Launch) (G : va_G) (cy : Nat → ClassId) (sa : String → Nat → Nat) (sv : Nat → Nat) (h0 h1 : Nat) : xM l G cy sa sv yJ5_isLatin1_aae02 (Cond.code yJ5_isLatin1_aae02 cJ5_isLatin1_aae02 1 (some .boolean) :: XG) { frames := 8, cells := 0, slots := 0, locals := 250 } [.ref h0] [(h0, .inr (1, [.ref h1, .int 0, .int 0, .int 1]))] (xQi G (fun f => [(h0, .inr (1, [.ref h1, .int 0, .int 0, .int 1]))]) 1) := by
  refine xof (by decide) (Nat.le_of_ble_eq_true rfl) (fun p e s m below meth c A C w hr hn ls hl => ?_)
  have hl : lv_has ls 1 [(0, .ref h0)] := hl
  refine x_gets C w (xs_cs (xS C)) (List.mem_cons_of_mem _ gw_479) rfl dJ5_isLatin1_aae02_0 ?_
  refine lv_if_eq (tgt := 17) C.1 C.2.1 dJ5_isLatin1_aae02_3 (by decide) (fun c9 => absurd c9 (by decide)) (fun _ => ?_)
  refine lv_aload_n C.1 C.2.1 dJ5_isLatin1_aae02_6 rfl (lv_at hl 0 rfl) ?_
  refine x_get (v := .int 0) C w 0 1 1 (xin_J4 _) rfl rfl (by decide) (List.mem_cons_of_mem _ gw_482) rfl rfl dJ5_isLatin1_aae02_7 ?_
  refine lv_if_ne (tgt := 17) C.1 C.2.1 dJ5_isLatin1_aae02_10 (by decide) (fun c9 => absurd (by decide) c9) (fun _ => ?_)
  refine lv_iconst (v := 1) C.1 C.2.1 dJ5_isLatin1_aae02_13 (by decide) ?_
  refine lv_goto (tgt := 18) C.1 C.2.1 dJ5_isLatin1_aae02_14 (by decide) ?_
  exact x_zret C w hr rfl (fun _ => 0) rfl rfl dJ5_isLatin1_aae02_18 (Nat.le_of_ble_eq_true rfl) (Nat.le_of_ble_eq_true rfl)
set_option maxHeartbeats 4000000 in
set_option maxRecDepth 100000 in
theorem c245_J1_canEncode_fc78d (l : Launch) (G : va_G) (cy : Nat → ClassId) (sa : String → Nat → Nat) (sv : Nat → Nat) : xM l G cy sa sv yJ1_canEncode_fc78d (Cond.code yJ1_canEncode_fc78d cJ1_canEncode_fc78d 1 (some .boolean) :: XG) { frames := 8, cells := 0, slots := 0, locals := 250 } [.int 125] [] (xQi G (fun f => []) 1) := by
  refine xof (by decide) (Nat.le_of_ble_eq_true rfl) (fun p e s m below meth c A C w hr hn ls hl => ?_)
  have hl : lv_has ls 1 [(0, .int 125)] := hl
  refine lv_iload_n C.1 C.2.1 dJ1_canEncode_fc78d_0 rfl (lv_at hl 0 rfl) ?_
  refine lv_sipush (v := 255) C.1 C.2.1 dJ1_canEncode_fc78d_1 (by decide) ?_
  refine lv_icmp_gt (tgt := 11) C.1 C.2.1 dJ1_canEncode_fc78d_4 (by decide) (fun c9 => absurd c9 (by decide)) (fun _ => ?_)
  refine lv_iconst (v := 1) C.1 C.2.1 dJ1_canEncode_fc78d_7 (by decide) ?_
  refine lv_goto (tgt := 12) C.1 C.2.1 dJ1_canEncode_fc78d_8 (by decide) ?_
  exact x_zret C w hr rfl (fun _ => 0) rfl rfl dJ1_canEncode_fc78d_12 (Nat.le_of_ble_eq_true rfl) (Nat.le_of_ble_eq_true rfl)
set_option maxHeartbeats 4000000 in
set_option maxRecDepth 100000 in
theorem c246_J5_append_3fe6f (l : Launch) (G : va_G) (cy : Nat → ClassId) (sa : String → Nat → Nat) (sv : Nat → Nat) (h0 h1 : Nat) : xM l G cy sa sv yJ5_append_3fe6f (Cond.code yJ5_append_3fe6f cJ5_append_3fe6f 2 (some (.object "java/lang/AbstractStringBuilder")) :: XG) { frames := 9, cells := 0, slots := 0, locals := 272 } [.ref h0, .int 125] [(h0, .inr (1, [.ref h1, .int 0, .int 0, .int 1])), (h1, .inl (cy 0, 16, .inl (upd (fun _ => 0) 0 123)))] (xQr G (fun f => [(h0, .inr (1, [.ref h1, .int 0, .int 0, .int 2])), (h1, .inl (cy 0, 16, .inl (upd (upd (fun _ => 0) 0 123) 1 125)))]) (fun f => h0)) := by
  refine xof (by decide) (Nat.le_of_ble_eq_true rfl) (fun p e s m below meth c A C w hr hn ls hl => ?_)
  have hl : lv_has ls 2 [(0, .ref h0), (1, .int 125)] := hl
  refine lv_aload_n C.1 C.2.1 dJ5_append_3fe6f_0 rfl (lv_at hl 0 rfl) ?_
  refine lv_aload_n C.1 C.2.1 dJ5_append_3fe6f_1 rfl (lv_at hl 0 rfl) ?_
  refine x_get (v := .int 1) C w 0 1 3 (xin_J4 _) rfl rfl (by decide) (List.mem_cons_of_mem _ gw_499) rfl rfl dJ5_append_3fe6f_2 ?_
  refine lv_iconst (v := 1) C.1 C.2.1 dJ5_append_3fe6f_5 (by decide) ?_
  refine lv_iadd C.1 C.2.1 dJ5_append_3fe6f_6 ?_
  refine x_is (y := 2) (by decide) ?_
  refine x_kv C w [0, 1] [] rfl rfl (by decide) (by decide) (va_runU (As := [.int 2]) (rest := []) (xfix C) (c243_J5_ensureCapacityInternal_d00df l G cy sa sv h0 h1 (xtr C) _) (va_cwU 1 (xhts C) (xgU (x := ⟨"java/lang/AbstractStringBuilder", "ensureCapacityInternal", "(I)V"⟩) gw_577 gw_578 gw_579 gw_580 gw_484 gc_J5_ensureCapacityInternal_d00df) rfl rfl rfl rfl (by decide +kernel) ⟨(Nat.le_of_ble_eq_true rfl), (Nat.le_of_ble_eq_true rfl)⟩) (xPV C w [0, 1] rfl (by decide) (ci := 1) (q0 := 0) rfl rfl) rfl rfl hl.1 rfl (lv_room (Nat.le_of_ble_eq_true rfl)) dJ5_append_3fe6f_7 ⟨(Nat.le_of_ble_eq_true rfl), (Nat.le_of_ble_eq_true rfl)⟩) (fun f1522 H locs w => ?_)
  have w : xW G A s [(h0, .inr (1, [.ref h1, .int 0, .int 0, .int 1])), (h1, .inl (cy 0, 16, .inl (upd (fun _ => 0) 0 123)))] H _ := w
  refine lv_aload_n C.1 C.2.1 dJ5_append_3fe6f_10 rfl (lv_at hl 0 rfl) ?_
  refine x_ki C w [0] [1] rfl rfl (by decide) (by decide) (va_runU (As := []) (rest := []) (xfix C) (c244_J5_isLatin1_aae02 l G cy sa sv h0 h1 (xtr C) _) (va_cwU 0 (xhts C) (xgU (x := ⟨"java/lang/AbstractStringBuilder", "isLatin1", "()Z"⟩) gw_581 gw_511 gw_512 gw_513 gw_484 gc_J5_isLatin1_aae02) rfl rfl rfl rfl (by decide +kernel) ⟨(Nat.le_of_ble_eq_true rfl), (Nat.le_of_ble_eq_true rfl)⟩) (xPV C w [0] rfl (by decide) (ci := 1) (q0 := 0) rfl rfl) rfl rfl hl.1 rfl (lv_room (Nat.le_of_ble_eq_true rfl)) dJ5_append_3fe6f_11 ⟨(Nat.le_of_ble_eq_true rfl), (Nat.le_of_ble_eq_true rfl)⟩) (fun f1523 H locs w => ?_)
  have w : xW G A s [(h1, .inl (cy 0, 16, .inl (upd (fun _ => 0) 0 123))), (h0, .inr (1, [.ref h1, .int 0, .int 0, .int 1]))] H _ := w
  refine lv_if_eq (tgt := 45) C.1 C.2.1 dJ5_append_3fe6f_14 (by decide) (fun c9 => absurd c9 (by decide)) (fun _ => ?_)
  refine lv_iload_n C.1 C.2.1 dJ5_append_3fe6f_17 rfl (lv_at hl 1 rfl) ?_
  refine x_ki C w [] [0, 1] rfl rfl (by decide) (by decide) (va_runS (As := [.int 125]) (rest := []) (xfix C) (c245_J1_canEncode_fc78d l G cy sa sv (xtr C) _) (va_cwS 1 (xhts C) (xgS gw_583 gw_584 gw_559 gc_J1_canEncode_fc78d) rfl rfl rfl (by decide +kernel) ⟨(Nat.le_of_ble_eq_true rfl), (Nat.le_of_ble_eq_true rfl)⟩) (xPS C w [] rfl (by decide)) rfl rfl hl.1 rfl (lv_room (Nat.le_of_ble_eq_true rfl)) dJ5_append_3fe6f_18 ⟨(Nat.le_of_ble_eq_true rfl), (Nat.le_of_ble_eq_true rfl)⟩) (fun f1524 H locs w => ?_)
  have w : xW G A s [(h1, .inl (cy 0, 16, .inl (upd (fun _ => 0) 0 123))), (h0, .inr (1, [.ref h1, .int 0, .int 0, .int 1]))] H _ := w
  refine lv_if_eq (tgt := 45) C.1 C.2.1 dJ5_append_3fe6f_21 (by decide) (fun c9 => absurd c9 (by decide)) (fun _ => ?_)
  refine lv_aload_n C.1 C.2.1 dJ5_append_3fe6f_24 rfl (lv_at hl 0 rfl) ?_
  refine x_get (v := .ref h1) C w 1 1 0 (xin_J4 _) rfl rfl (by decide) (List.mem_cons_of_mem _ gw_481) rfl rfl dJ5_append_3fe6f_25 ?_
  refine lv_aload_n C.1 C.2.1 dJ5_append_3fe6f_28 rfl (lv_at hl 0 rfl) ?_
  refine lv_dup C.1 C.2.1 dJ5_append_3fe6f_29 rfl ?_
  refine x_get (v := .int 1) C w 1 1 3 (xin_J4 _) rfl rfl (by decide) (List.mem_cons_of_mem _ gw_499) rfl rfl dJ5_append_3fe6f_30 ?_
  refine lv_dup_x1 C.1 C.2.1 dJ5_append_3fe6f_33 rfl rfl ?_
  refine lv_iconst (v := 1) C.1 C.2.1 dJ5_append_3fe6f_34 (by decide) ?_
  refine lv_iadd C.1 C.2.1 dJ5_append_3fe6f_35 ?_
  refine x_is (y := 2) (by decide) ?_
  refine x_put (ty := .int) (ty0 := tyJ4) C w 1 1 3 (xin_J4 _) tyJ4_ok nmJ4 rfl rfl (by decide) (List.mem_cons_of_mem _ gw_499) rfl rfl (by decide +kernel) rfl rfl (Nat.le_of_ble_eq_true rfl) dJ5_append_3fe6f_36 (fun H locs w => ?_)
  have w : xW G A s [(h1, .inl (cy 0, 16, .inl (upd (fun _ => 0) 0 123))), (h0, .inr (1, [.ref h1, .int 0, .int 0, .int 2]))] H _ := w
  refine lv_iload_n C.1 C.2.1 dJ5_append_3fe6f_39 rfl (lv_at hl 1 rfl) ?_
  refine lv_i2b (v := 125) C.1 C.2.1 dJ5_append_3fe6f_40 (by decide) ?_
  refine x_bast (k := 1) (y := 125) C w 0 0 rfl rfl (xvin (by decide)) (by decide) (by decide) dJ5_append_3fe6f_41 (fun H locs w => ?_)
  have w : xW G A s [(h1, .inl (cy 0, 16, .inl (upd (upd (fun _ => 0) 0 123) 1 125))), (h0, .inr (1, [.ref h1, .int 0, .int 0, .int 2]))] H _ := w
  refine lv_goto (tgt := 75) C.1 C.2.1 dJ5_append_3fe6f_42 (by decide) ?_
  refine lv_aload_n C.1 C.2.1 dJ5_append_3fe6f_75 rfl (lv_at hl 0 rfl) ?_
  have w := w.sub (ws' := [(h0, .inr (1, [.ref h1, .int 0, .int 0, .int 2])), (h1, .inl (cy 0, 16, .inl (upd (upd (fun _ => 0) 0 123) 1 125)))]) [1, 0] (by decide) rfl rfl
  exact x_aret C w hr (Or.inl ⟨_, rfl⟩) (fun _ => 0) rfl rfl dJ5_append_3fe6f_76 (Nat.le_of_ble_eq_true rfl) (Nat.le_of_ble_eq_true rfl)
set_option maxHeartbeats 4000000 in
set_option maxRecDepth 100000 in
theorem c247_J4_append_cf468 (l : Launch) (G : va_G) (cy : Nat → ClassId) (sa : String → Nat → Nat) (sv : Nat → Nat) (h0 h1 : Nat) : xM l G cy sa sv yJ4_append_cf468 (Cond.code yJ4_append_cf468 cJ4_append_cf468 2 (some (.object "java/lang/StringBuilder")) :: XG) { frames := 10, cells := 0, slots := 0, locals := 293 } [.ref h0, .int 125] [(h0, .inr (1, [.ref h1, .int 0, .int 0, .int 1])), (h1, .inl (cy 0, 16, .inl (upd (fun _ => 0) 0 123)))] (xQr G (fun f => [(h0, .inr (1, [.ref h1, .int 0, .int 0, .int 2])), (h1, .inl (cy 0, 16, .inl (upd (upd (fun _ => 0) 0 123) 1 125)))]) (fun f => h0)) := by
  refine xof (by decide) (Nat.le_of_ble_eq_true rfl) (fun p e s m below meth c A C w hr hn ls hl => ?_)
  have hl : lv_has ls 2 [(0, .ref h0), (1, .int 125)] := hl
  refine lv_aload_n C.1 C.2.1 dJ4_append_cf468_0 rfl (lv_at hl 0 rfl) ?_
  refine lv_iload_n C.1 C.2.1 dJ4_append_cf468_1 rfl (lv_at hl 1 rfl) ?_
  refine x_kr C w [0, 1] [] rfl rfl (by decide) (by decide) (va_runSU ((xK C).1 1 _ rfl).2 (As := [.int 125]) (rest := []) (xfix C) (c246_J5_append_3fe6f l G cy sa sv h0 h1 (xtr C) _) (va_cwSU 1 (xhts C) (xgSU gw_586 gw_587 gw_503 gw_588 gw_484 gc_J5_append_3fe6f) rfl rfl rfl (by decide +kernel) ⟨(Nat.le_of_ble_eq_true rfl), (Nat.le_of_ble_eq_true rfl)⟩) (xPV C w [0, 1] rfl (by decide) (ci := 1) (q0 := 0) rfl rfl) rfl rfl hl.1 rfl (lv_room (Nat.le_of_ble_eq_true rfl)) dJ4_append_cf468_2 ⟨(Nat.le_of_ble_eq_true rfl), (Nat.le_of_ble_eq_true rfl)⟩) (fun f1525 H locs w => ?_)
  have w : xW G A s [(h0, .inr (1, [.ref h1, .int 0, .int 0, .int 2])), (h1, .inl (cy 0, 16, .inl (upd (upd (fun _ => 0) 0 123) 1 125)))] H _ := w
  refine lv_pop C.1 C.2.1 dJ4_append_cf468_5 rfl ?_
  refine lv_aload_n C.1 C.2.1 dJ4_append_cf468_6 rfl (lv_at hl 0 rfl) ?_
  exact x_aret C w hr (Or.inl ⟨_, rfl⟩) (fun _ => 0) rfl rfl dJ4_append_cf468_7 (Nat.le_of_ble_eq_true rfl) (Nat.le_of_ble_eq_true rfl)
set_option maxHeartbeats 4000000 in
set_option maxRecDepth 100000 in
theorem c248_J5_getValue_6d5f1 (l : Launch) (G : va_G) (cy : Nat → ClassId) (sa : String → Nat → Nat) (sv : Nat → Nat) (h0 h1 : Nat) : xM l G cy sa sv yJ5_getValue_6d5f1 (Cond.code yJ5_getValue_6d5f1 cJ5_getValue_6d5f1 1 (some (.array .byte)) :: XG) { frames := 8, cells := 0, slots := 0, locals := 250 } [.ref h0] [(h0, .inr (1, [.ref h1, .int 0, .int 0, .int 2]))] (xQr G (fun f => [(h0, .inr (1, [.ref h1, .int 0, .int 0, .int 2]))]) (fun f => h1)) := by
  refine xof (by decide) (Nat.le_of_ble_eq_true rfl) (fun p e s m below meth c A C w hr hn ls hl => ?_)
  have hl : lv_has ls 1 [(0, .ref h0)] := hl
  refine lv_aload_n C.1 C.2.1 dJ5_getValue_6d5f1_0 rfl (lv_at hl 0 rfl) ?_
  refine x_get (v := .ref h1) C w 0 1 0 (xin_J4 _) rfl rfl (by decide) (List.mem_cons_of_mem _ gw_481) rfl rfl dJ5_getValue_6d5f1_1 ?_
  exact x_aret C w hr (Or.inr ⟨_, rfl⟩) (fun _ => 0) rfl rfl dJ5_getValue_6d5f1_4 (Nat.le_of_ble_eq_true rfl) (Nat.le_of_ble_eq_true rfl)
set_option maxHeartbeats 4000000 in
set_option maxRecDepth 100000 in
theorem c249_J5_length_8abf5 (l : Launch) (G : va_G) (cy : Nat → ClassId) (sa : String → Nat → Nat) (sv : Nat → Nat) (h0 h1 : Nat) : xM l G cy sa sv yJ5_length_8abf5 (Cond.code yJ5_length_8abf5 cJ5_length_8abf5 1 (some .int) :: XG) { frames := 8, cells := 0, slots := 0, locals := 250 } [.ref h0] [(h0, .inr (1, [.ref h1, .int 0, .int 0, .int 2]))] (xQi G (fun f => [(h0, .inr (1, [.ref h1, .int 0, .int 0, .int 2]))]) 2) := by
  refine xof (by decide) (Nat.le_of_ble_eq_true rfl) (fun p e s m below meth c A C w hr hn ls hl => ?_)
  have hl : lv_has ls 1 [(0, .ref h0)] := hl
  refine lv_aload_n C.1 C.2.1 dJ5_length_8abf5_0 rfl (lv_at hl 0 rfl) ?_
  refine x_get (v := .int 2) C w 0 1 3 (xin_J4 _) rfl rfl (by decide) (List.mem_cons_of_mem _ gw_499) rfl rfl dJ5_length_8abf5_1 ?_
  exact x_iret C w hr (fun _ => 0) rfl rfl dJ5_length_8abf5_4 (Nat.le_of_ble_eq_true rfl) (Nat.le_of_ble_eq_true rfl)
set_option maxHeartbeats 4000000 in
set_option maxRecDepth 100000 in
theorem c250_J4_length_8abf5 (l : Launch) (G : va_G) (cy : Nat → ClassId) (sa : String → Nat → Nat) (sv : Nat → Nat) (h0 h1 : Nat) : xM l G cy sa sv yJ4_length_8abf5 (Cond.code yJ4_length_8abf5 cJ4_length_8abf5 1 (some .int) :: XG) { frames := 9, cells := 0, slots := 0, locals := 270 } [.ref h0] [(h0, .inr (1, [.ref h1, .int 0, .int 0, .int 2]))] (xQi G (fun f => [(h0, .inr (1, [.ref h1, .int 0, .int 0, .int 2]))]) 2) := by
  refine xof (by decide) (Nat.le_of_ble_eq_true rfl) (fun p e s m below meth c A C w hr hn ls hl => ?_)
  have hl : lv_has ls 1 [(0, .ref h0)] := hl
  refine lv_aload_n C.1 C.2.1 dJ4_length_8abf5_0 rfl (lv_at hl 0 rfl) ?_
  refine x_ki C w [0] [] rfl rfl (by decide) (by decide) (va_runSU ((xK C).1 1 _ rfl).2 (As := []) (rest := []) (xfix C) (c249_J5_length_8abf5 l G cy sa sv h0 h1 (xtr C) _) (va_cwSU 0 (xhts C) (xgSU gw_501 gw_502 gw_503 gw_504 gw_484 gc_J5_length_8abf5) rfl rfl rfl (by decide +kernel) ⟨(Nat.le_of_ble_eq_true rfl), (Nat.le_of_ble_eq_true rfl)⟩) (xPV C w [0] rfl (by decide) (ci := 1) (q0 := 0) rfl rfl) rfl rfl hl.1 rfl (lv_room (Nat.le_of_ble_eq_true rfl)) dJ4_length_8abf5_1 ⟨(Nat.le_of_ble_eq_true rfl), (Nat.le_of_ble_eq_true rfl)⟩) (fun f1537 H locs w => ?_)
  have w : xW G A s [(h0, .inr (1, [.ref h1, .int 0, .int 0, .int 2]))] H _ := w
  exact x_iret C w hr (fun _ => 0) rfl rfl dJ4_length_8abf5_4 (Nat.le_of_ble_eq_true rfl) (Nat.le_of_ble_eq_true rfl)
set_option maxHeartbeats 4000000 in
set_option maxRecDepth 100000 in
theorem c251_J5_isLatin1_aae02 (l : Launch) (G : va_G) (cy : Nat → ClassId) (sa : String → Nat → Nat) (sv : Nat → Nat) (h0 h1 : Nat) : xM l G cy sa sv yJ5_isLatin1_aae02 (Cond.code yJ5_isLatin1_aae02 cJ5_isLatin1_aae02 1 (some .boolean) :: XG) { frames := 8, cells := 0, slots := 0, locals := 250 } [.ref h0] [(h0, .inr (1, [.ref h1, .int 0, .int 0, .int 2]))] (xQi G (fun f => [(h0, .inr (1, [.ref h1, .int 0, .int 0, .int 2]))]) 1) := by
  refine xof (by decide) (Nat.le_of_ble_eq_true rfl) (fun p e s m below meth c A C w hr hn ls hl => ?_)
  have hl : lv_has ls 1 [(0, .ref h0)] := hl
  refine x_gets C w (xs_cs (xS C)) (List.mem_cons_of_mem _ gw_479) rfl dJ5_isLatin1_aae02_0 ?_
  refine lv_if_eq (tgt := 17) C.1 C.2.1 dJ5_isLatin1_aae02_3 (by decide) (fun c9 => absurd c9 (by decide)) (fun _ => ?_)
  refine lv_aload_n C.1 C.2.1 dJ5_isLatin1_aae02_6 rfl (lv_at hl 0 rfl) ?_
  refine x_get (v := .int 0) C w 0 1 1 (xin_J4 _) rfl rfl (by decide) (List.mem_cons_of_mem _ gw_482) rfl rfl dJ5_isLatin1_aae02_7 ?_
  refine lv_if_ne (tgt := 17) C.1 C.2.1 dJ5_isLatin1_aae02_10 (by decide) (fun c9 => absurd (by decide) c9) (fun _ => ?_)
  refine lv_iconst (v := 1) C.1 C.2.1 dJ5_isLatin1_aae02_13 (by decide) ?_
  refine lv_goto (tgt := 18) C.1 C.2.1 dJ5_isLatin1_aae02_14 (by decide) ?_
  exact x_zret C w hr rfl (fun _ => 0) rfl rfl dJ5_isLatin1_aae02_18 (Nat.le_of_ble_eq_true rfl) (Nat.le_of_ble_eq_true rfl)
set_option maxHeartbeats 4000000 in
set_option maxRecDepth 100000 in
theorem c252_J7_checkLength_df160 (l : Launch) (G : va_G) (cy : Nat → ClassId) (sa : String → Nat → Nat) (sv : Nat → Nat) : xM l G cy sa sv yJ7_checkLength_df160 (Cond.code yJ7_checkLength_df160 cJ7_checkLength_df160 2 none :: XG) { frames := 8, cells := 0, slots := 0, locals := 250 } [.int 0, .int 2] [] (xQv G (fun f => [])) := by
  refine xof (by decide) (Nat.le_of_ble_eq_true rfl) (fun p e s m below meth c A C w hr hn ls hl => ?_)
  have hl : lv_has ls 2 [(0, .int 0), (1, .int 2)] := hl
  refine lv_iload_n C.1 C.2.1 dJ7_checkLength_df160_0 rfl (lv_at hl 1 rfl) ?_
  refine lv_iload_n C.1 C.2.1 dJ7_checkLength_df160_1 rfl (lv_at hl 0 rfl) ?_
  refine lv_icmp_ge (tgt := 37) C.1 C.2.1 dJ7_checkLength_df160_2 (by decide) (fun _ => ?_) (fun c9 => absurd (by decide) c9)
  exact x_vret C w hr (fun _ => 0) rfl dJ7_checkLength_df160_37 (Nat.le_of_ble_eq_true rfl) (Nat.le_of_ble_eq_true rfl)
set_option maxHeartbeats 4000000 in
set_option maxRecDepth 100000 in
theorem c253_J7_copyOfRangeByte_39247 (l : Launch) (G : va_G) (cy : Nat → ClassId) (sa : String → Nat → Nat) (sv : Nat → Nat) (h0 : Nat) : xM l G cy sa sv yJ7_copyOfRangeByte_39247 (Cond.code yJ7_copyOfRangeByte_39247 cJ7_copyOfRangeByte_39247 5 (some (.array .byte)) :: XG) { frames := 9, cells := 1, slots := 2, locals := 271 } [.ref h0, .int 0, .int 2] [(h0, .inl (cy 0, 16, .inl (upd (upd (fun _ => 0) 0 123) 1 125)))] (xQr G (fun f => [(h0, .inl (cy 0, 16, .inl (upd (upd (fun _ => 0) 0 123) 1 125))), ((f 0), .inl (cy 0, 2, .inl (va_cpy (upd (upd (fun _ => 0) 0 123) 1 125) (fun _ => 0) 0 0 2)))]) (fun f => (f 0))) := by
  refine xof (by decide) (Nat.le_of_ble_eq_true rfl) (fun p e s m below meth c A C w hr hn ls hl => ?_)
  have hl : lv_has ls 5 [(0, .ref h0), (1, .int 0), (2, .int 2)] := hl
  refine lv_iload_n C.1 C.2.1 dJ7_copyOfRangeByte_39247_0 rfl (lv_at hl 1 rfl) ?_
  refine lv_iload_n C.1 C.2.1 dJ7_copyOfRangeByte_39247_1 rfl (lv_at hl 2 rfl) ?_
  refine x_kv C w [] [0] rfl rfl (by decide) (by decide) (va_runS (As := [.int 0, .int 2]) (rest := []) (xfix C) (c252_J7_checkLength_df160 l G cy sa sv (xtr C) _) (va_cwS 2 (xhts C) (xgS gw_517 gw_518 gw_516 gc_J7_checkLength_df160) rfl rfl rfl (by decide +kernel) ⟨(Nat.le_of_ble_eq_true rfl), (Nat.le_of_ble_eq_true rfl)⟩) (xPS C w [] rfl (by decide)) rfl rfl hl.1 rfl (lv_room (Nat.le_of_ble_eq_true rfl)) dJ7_copyOfRangeByte_39247_2 ⟨(Nat.le_of_ble_eq_true rfl), (Nat.le_of_ble_eq_true rfl)⟩) (fun f1544 H locs w => ?_)
  have w : xW G A s [(h0, .inl (cy 0, 16, .inl (upd (upd (fun _ => 0) 0 123) 1 125)))] H _ := w
  refine lv_iload_n C.1 C.2.1 dJ7_copyOfRangeByte_39247_5 rfl (lv_at hl 2 rfl) ?_
  refine lv_iload_n C.1 C.2.1 dJ7_copyOfRangeByte_39247_6 rfl (lv_at hl 1 rfl) ?_
  refine lv_isub C.1 C.2.1 dJ7_copyOfRangeByte_39247_7 ?_
  refine x_is (y := 2) (by decide) ?_
  refine lv_istore_n (lv' := [(3, .int 2), (0, .ref h0), (1, .int 0), (2, .int 2)]) C.1 C.2.1 dJ7_copyOfRangeByte_39247_8 rfl hl (by decide) rfl (fun ls hl => ?_)
  refine lv_iload_n C.1 C.2.1 dJ7_copyOfRangeByte_39247_9 rfl (lv_at hl 0 rfl) ?_
  refine x_newa (atype := .byte) (ty := .byte) (N := 2) C w 0 (fun _ _ h => h) rfl (List.mem_cons_of_mem _ gw_480) rfl rfl (by decide) (by decide) (by decide) (Nat.le_of_ble_eq_true rfl) (Nat.le_of_ble_eq_true rfl) dJ7_copyOfRangeByte_39247_10 (fun q1545 H w => ?_)
  have w : xW G A s [(h0, .inl (cy 0, 16, .inl (upd (upd (fun _ => 0) 0 123) 1 125))), (q1545, .inl (cy 0, 2, .inl (fun _ => 0)))] H _ := w
  refine W.widen (k := 1) (n := 2) (Nat.le_of_ble_eq_true rfl) (Nat.le_of_ble_eq_true rfl) ?_
  refine lv_astore (lv' := [(4, .ref q1545), (3, .int 2), (0, .ref h0), (1, .int 0), (2, .int 2)]) C.1 C.2.1 dJ7_copyOfRangeByte_39247_12 hl (by decide) rfl (fun ls hl => ?_)
  refine lv_aload_n C.1 C.2.1 dJ7_copyOfRangeByte_39247_14 rfl (lv_at hl 2 rfl) ?_
  refine lv_iload_n C.1 C.2.1 dJ7_copyOfRangeByte_39247_15 rfl (lv_at hl 3 rfl) ?_
  refine lv_aload C.1 C.2.1 dJ7_copyOfRangeByte_39247_16 (lv_at hl 0 rfl) ?_
  refine lv_iconst (v := 0) C.1 C.2.1 dJ7_copyOfRangeByte_39247_18 (by decide) ?_
  refine lv_aload_n C.1 C.2.1 dJ7_copyOfRangeByte_39247_19 rfl (lv_at hl 2 rfl) ?_
  refine x_alen (v := 16) C w 0 0 rfl rfl (by rfl) dJ7_copyOfRangeByte_39247_20 ?_
  refine lv_iload_n C.1 C.2.1 dJ7_copyOfRangeByte_39247_21 rfl (lv_at hl 3 rfl) ?_
  refine lv_isub C.1 C.2.1 dJ7_copyOfRangeByte_39247_22 ?_
  refine x_is (y := 16) (by decide) ?_
  refine lv_iload_n C.1 C.2.1 dJ7_copyOfRangeByte_39247_23 rfl (lv_at hl 1 rfl) ?_
  refine va_mmin C.1 C.2.1 (C.2.2.1.trans hl.1.symm) (xown C) (xhts C _ (List.mem_cons_of_mem _ gw_519)) (xhts C _ (List.mem_cons_of_mem _ gw_420)) (xhts C _ (List.mem_cons_of_mem _ gw_217)) (xhts C _ (List.mem_cons_of_mem _ gm_min)) (Nat.le_of_ble_eq_true rfl) (Nat.le_of_ble_eq_true rfl) (Nat.le_of_ble_eq_true rfl) (Nat.le_of_ble_eq_true rfl) dJ7_copyOfRangeByte_39247_24 ?_
  refine x_is (y := 2) (if_pos (by decide)) ?_
  refine x_copyi (sp' := 0) (dp' := 0) (n' := 2) C w hl.1 0 1 0 (List.mem_cons_of_mem _ gw_520) (List.mem_cons_of_mem _ gw_521) (List.mem_cons_of_mem _ gw_522) (List.mem_cons_of_mem _ gw_523) rfl rfl rfl rfl rfl (by decide) (by decide) (by decide) (by decide) (by decide) (by decide) (by decide) (by decide) (fun i hi => by rcases (show i = 0 ∨ i = 1 by omega) with rfl | rfl <;> rfl) (Nat.le_of_ble_eq_true rfl) (Nat.le_of_ble_eq_true rfl) dJ7_copyOfRangeByte_39247_27 (fun H locs w => ?_)
  have w : xW G A s [(h0, .inl (cy 0, 16, .inl (upd (upd (fun _ => 0) 0 123) 1 125))), (q1545, .inl (cy 0, 2, .inl (va_cpy (upd (upd (fun _ => 0) 0 123) 1 125) (fun _ => 0) 0 0 2)))] H _ := w
  refine lv_aload C.1 C.2.1 dJ7_copyOfRangeByte_39247_30 (lv_at hl 0 rfl) ?_
  exact x_aret C w hr (Or.inr ⟨_, rfl⟩) (fun k => match k with | 0 => q1545 | _ => 0) rfl rfl dJ7_copyOfRangeByte_39247_32 (Nat.le_of_ble_eq_true rfl) (Nat.le_of_ble_eq_true rfl)
set_option maxHeartbeats 4000000 in
set_option maxRecDepth 100000 in
theorem c254_J7_copyOfRange_39247 (l : Launch) (G : va_G) (cy : Nat → ClassId) (sa : String → Nat → Nat) (sv : Nat → Nat) (h0 : Nat) : xM l G cy sa sv yJ7_copyOfRange_39247 (Cond.code yJ7_copyOfRange_39247 cJ7_copyOfRange_39247 3 (some (.array .byte)) :: XG) { frames := 10, cells := 1, slots := 2, locals := 295 } [.ref h0, .int 0, .int 2] [(h0, .inl (cy 0, 16, .inl (upd (upd (fun _ => 0) 0 123) 1 125)))] (xQr G (fun f => [(h0, .inl (cy 0, 16, .inl (upd (upd (fun _ => 0) 0 123) 1 125))), ((f 0), .inl (cy 0, 2, .inl (va_cpy (upd (upd (fun _ => 0) 0 123) 1 125) (fun _ => 0) 0 0 2)))]) (fun f => (f 0))) := by
  refine xof (by decide) (Nat.le_of_ble_eq_true rfl) (fun p e s m below meth c A C w hr hn ls hl => ?_)
  have hl : lv_has ls 3 [(0, .ref h0), (1, .int 0), (2, .int 2)] := hl
  refine lv_iload_n C.1 C.2.1 dJ7_copyOfRange_39247_0 rfl (lv_at hl 1 rfl) ?_
  refine lv_if_ne (tgt := 10) C.1 C.2.1 dJ7_copyOfRange_39247_1 (by decide) (fun c9 => absurd (by decide) c9) (fun _ => ?_)
  refine lv_iload_n C.1 C.2.1 dJ7_copyOfRange_39247_4 rfl (lv_at hl 2 rfl) ?_
  refine lv_aload_n C.1 C.2.1 dJ7_copyOfRange_39247_5 rfl (lv_at hl 0 rfl) ?_
  refine x_alen (v := 16) C w 0 0 rfl rfl (by rfl) dJ7_copyOfRange_39247_6 ?_
  refine lv_icmp_eq (tgt := 17) C.1 C.2.1 dJ7_copyOfRange_39247_7 (by decide) (fun c9 => absurd c9 (by decide)) (fun _ => ?_)
  refine lv_aload_n C.1 C.2.1 dJ7_copyOfRange_39247_10 rfl (lv_at hl 0 rfl) ?_
  refine lv_iload_n C.1 C.2.1 dJ7_copyOfRange_39247_11 rfl (lv_at hl 1 rfl) ?_
  refine lv_iload_n C.1 C.2.1 dJ7_copyOfRange_39247_12 rfl (lv_at hl 2 rfl) ?_
  refine x_kr C w [0] [] rfl rfl (by decide) (by decide) (va_runS (As := [.ref h0, .int 0, .int 2]) (rest := []) (xfix C) (c253_J7_copyOfRangeByte_39247 l G cy sa sv h0 (xtr C) _) (va_cwS 3 (xhts C) (xgS gw_525 gw_526 gw_516 gc_J7_copyOfRangeByte_39247) rfl rfl rfl (by decide +kernel) ⟨(Nat.le_of_ble_eq_true rfl), (Nat.le_of_ble_eq_true rfl)⟩) (xPS C w [0] rfl (by decide)) rfl rfl hl.1 rfl (lv_room (Nat.le_of_ble_eq_true rfl)) dJ7_copyOfRange_39247_13 ⟨(Nat.le_of_ble_eq_true rfl), (Nat.le_of_ble_eq_true rfl)⟩) (fun f1547 H locs w => ?_)
  have w : xW G A s [(h0, .inl (cy 0, 16, .inl (upd (upd (fun _ => 0) 0 123) 1 125))), ((f1547 0), .inl (cy 0, 2, .inl (va_cpy (upd (upd (fun _ => 0) 0 123) 1 125) (fun _ => 0) 0 0 2)))] H _ := w
  refine W.widen (k := 1) (n := 2) (Nat.le_of_ble_eq_true rfl) (Nat.le_of_ble_eq_true rfl) ?_
  exact x_aret C w hr (Or.inr ⟨_, rfl⟩) (fun k => match k with | 0 => (f1547 0) | _ => 0) rfl rfl dJ7_copyOfRange_39247_16 (Nat.le_of_ble_eq_true rfl) (Nat.le_of_ble_eq_true rfl)
set_option maxHeartbeats 4000000 in
set_option maxRecDepth 100000 in
theorem c255_J0_init_db425 (l : Launch) (G : va_G) (cy : Nat → ClassId) (sa : String → Nat → Nat) (sv : Nat → Nat) (h0 h1 h2 : Nat) : xM l G cy sa sv yJ0_init_db425 (Cond.code yJ0_init_db425 cJ0_init_db425 5 none :: XG) { frames := 11, cells := 1, slots := 2, locals := 317 } [.ref h0, .ref h1, .null] [(h1, .inr (1, [.ref h2, .int 0, .int 0, .int 2])), (h0, .inr (0, [.null, .int 0, .int 0, .int 0])), (h2, .inl (cy 0, 16, .inl (upd (upd (fun _ => 0) 0 123) 1 125)))] (xQv G (fun f => [(h1, .inr (1, [.ref h2, .int 0, .int 0, .int 2])), (h0, .inr (0, [.ref (f 0), .int 0, .int 0, .int 0])), (h2, .inl (cy 0, 16, .inl (upd (upd (fun _ => 0) 0 123) 1 125))), ((f 0), .inl (cy 0, 2, .inl (va_cpy (upd (upd (fun _ => 0) 0 123) 1 125) (fun _ => 0) 0 0 2)))])) := by
  refine xof (by decide) (Nat.le_of_ble_eq_true rfl) (fun p e s m below meth c A C w hr hn ls hl => ?_)
  have hl : lv_has ls 5 [(0, .ref h0), (1, .ref h1), (2, .null)] := hl
  refine lv_aload_n C.1 C.2.1 dJ0_init_db425_0 rfl (lv_at hl 0 rfl) ?_
  refine x_oinit C hl.1 (List.mem_cons_of_mem _ gw_493) (List.mem_cons_of_mem _ gw_4) (List.mem_cons_of_mem _ gw_oi) dJ0_init_db425_1 (Nat.le_of_ble_eq_true rfl) (Nat.le_of_ble_eq_true rfl) (Nat.le_of_ble_eq_true rfl) ?_
  refine lv_aload_n C.1 C.2.1 dJ0_init_db425_4 rfl (lv_at hl 1 rfl) ?_
  refine x_kr C w [0] [1, 2] rfl rfl (by decide) (by decide) (va_runU (As := []) (rest := []) (xfix C) (c248_J5_getValue_6d5f1 l G cy sa sv h1 h2 (xtr C) _) (va_cwU 0 (xhts C) (xgU (x := ⟨"java/lang/AbstractStringBuilder", "getValue", "()[B"⟩) gw_495 gw_496 gw_497 gw_498 gw_484 gc_J5_getValue_6d5f1) rfl rfl rfl rfl (by decide +kernel) ⟨(Nat.le_of_ble_eq_true rfl), (Nat.le_of_ble_eq_true rfl)⟩) (xPV C w [0] rfl (by decide) (ci := 1) (q0 := 0) rfl rfl) rfl rfl hl.1 rfl (lv_room (Nat.le_of_ble_eq_true rfl)) dJ0_init_db425_5 ⟨(Nat.le_of_ble_eq_true rfl), (Nat.le_of_ble_eq_true rfl)⟩) (fun f1536 H locs w => ?_)
  have w : xW G A s [(h0, .inr (0, [.null, .int 0, .int 0, .int 0])), (h2, .inl (cy 0, 16, .inl (upd (upd (fun _ => 0) 0 123) 1 125))), (h1, .inr (1, [.ref h2, .int 0, .int 0, .int 2]))] H _ := w
  refine lv_astore_n (lv' := [(3, .ref h2), (0, .ref h0), (1, .ref h1), (2, .null)]) C.1 C.2.1 dJ0_init_db425_8 rfl hl (by decide) rfl (fun ls hl => ?_)
  refine lv_aload_n C.1 C.2.1 dJ0_init_db425_9 rfl (lv_at hl 2 rfl) ?_
  refine x_ki C w [2] [0, 1] rfl rfl (by decide) (by decide) (va_runU (As := []) (rest := []) (xfix C) (c250_J4_length_8abf5 l G cy sa sv h1 h2 (xtr C) _) (va_cwO 0 (xhts C) (xgO (x := ⟨"java/lang/AbstractStringBuilder", "length", "()I"⟩) gw_506 gw_502 gw_504 gw_507 gw_508 gw_477 gc_J4_length_8abf5) rfl rfl rfl (List.mem_cons_of_mem _ gc_J5_length_8abf5) (by decide +kernel) ⟨(Nat.le_of_ble_eq_true rfl), (Nat.le_of_ble_eq_true rfl)⟩) (xPV C w [2] rfl (by decide) (ci := 1) (q0 := 2) rfl rfl) rfl rfl hl.1 rfl (lv_room (Nat.le_of_ble_eq_true rfl)) dJ0_init_db425_10 ⟨(Nat.le_of_ble_eq_true rfl), (Nat.le_of_ble_eq_true rfl)⟩) (fun f1538 H locs w => ?_)
  have w : xW G A s [(h0, .inr (0, [.null, .int 0, .int 0, .int 0])), (h2, .inl (cy 0, 16, .inl (upd (upd (fun _ => 0) 0 123) 1 125))), (h1, .inr (1, [.ref h2, .int 0, .int 0, .int 2]))] H _ := w
  refine lv_istore (lv' := [(4, .int 2), (3, .ref h2), (0, .ref h0), (1, .ref h1), (2, .null)]) C.1 C.2.1 dJ0_init_db425_13 hl (by decide) rfl (fun ls hl => ?_)
  refine lv_aload_n C.1 C.2.1 dJ0_init_db425_15 rfl (lv_at hl 3 rfl) ?_
  refine x_ki C w [2] [0, 1] rfl rfl (by decide) (by decide) (va_runU (As := []) (rest := []) (xfix C) (c251_J5_isLatin1_aae02 l G cy sa sv h1 h2 (xtr C) _) (va_cwU 0 (xhts C) (xgU (x := ⟨"java/lang/AbstractStringBuilder", "isLatin1", "()Z"⟩) gw_510 gw_511 gw_512 gw_513 gw_484 gc_J5_isLatin1_aae02) rfl rfl rfl rfl (by decide +kernel) ⟨(Nat.le_of_ble_eq_true rfl), (Nat.le_of_ble_eq_true rfl)⟩) (xPV C w [2] rfl (by decide) (ci := 1) (q0 := 2) rfl rfl) rfl rfl hl.1 rfl (lv_room (Nat.le_of_ble_eq_true rfl)) dJ0_init_db425_16 ⟨(Nat.le_of_ble_eq_true rfl), (Nat.le_of_ble_eq_true rfl)⟩) (fun f1539 H locs w => ?_)
  have w : xW G A s [(h0, .inr (0, [.null, .int 0, .int 0, .int 0])), (h2, .inl (cy 0, 16, .inl (upd (upd (fun _ => 0) 0 123) 1 125))), (h1, .inr (1, [.ref h2, .int 0, .int 0, .int 2]))] H _ := w
  refine lv_if_eq (tgt := 41) C.1 C.2.1 dJ0_init_db425_19 (by decide) (fun c9 => absurd c9 (by decide)) (fun _ => ?_)
  refine lv_aload_n C.1 C.2.1 dJ0_init_db425_22 rfl (lv_at hl 2 rfl) ?_
  refine lv_iconst (v := 0) C.1 C.2.1 dJ0_init_db425_23 (by decide) ?_
  refine x_putF (ty := .byte) (ty0 := tyJ0) C w hn 0 0 1 (xin_J0 _) tyJ0_ok nmJ0 rfl rfl (by decide) (List.mem_cons_of_mem _ gw_514) rfl rfl rfl (by decide +kernel) rfl rfl (Nat.le_of_ble_eq_true rfl) dJ0_init_db425_24 (fun H locs w => ?_)
  have w : xW G A s [(h0, .inr (0, [.null, .int 0, .int 0, .int 0])), (h2, .inl (cy 0, 16, .inl (upd (upd (fun _ => 0) 0 123) 1 125))), (h1, .inr (1, [.ref h2, .int 0, .int 0, .int 2]))] H _ := w
  refine lv_aload_n C.1 C.2.1 dJ0_init_db425_27 rfl (lv_at hl 2 rfl) ?_
  refine lv_aload_n C.1 C.2.1 dJ0_init_db425_28 rfl (lv_at hl 1 rfl) ?_
  refine lv_iconst (v := 0) C.1 C.2.1 dJ0_init_db425_29 (by decide) ?_
  refine lv_iload C.1 C.2.1 dJ0_init_db425_30 (lv_at hl 0 rfl) ?_
  refine x_kr C w [1] [0, 2] rfl rfl (by decide) (by decide) (va_runS (As := [.ref h2, .int 0, .int 2]) (rest := [.ref h0]) (xfix C) (c254_J7_copyOfRange_39247 l G cy sa sv h2 (xtr C) _) (va_cwS 3 (xhts C) (xgS gw_528 gw_529 gw_516 gc_J7_copyOfRange_39247) rfl rfl rfl (by decide +kernel) ⟨(Nat.le_of_ble_eq_true rfl), (Nat.le_of_ble_eq_true rfl)⟩) (xPS C w [1] rfl (by decide)) rfl rfl hl.1 rfl (lv_room (Nat.le_of_ble_eq_true rfl)) dJ0_init_db425_32 ⟨(Nat.le_of_ble_eq_true rfl), (Nat.le_of_ble_eq_true rfl)⟩) (fun f1549 H locs w => ?_)
  have w : xW G A s [(h0, .inr (0, [.null, .int 0, .int 0, .int 0])), (h1, .inr (1, [.ref h2, .int 0, .int 0, .int 2])), (h2, .inl (cy 0, 16, .inl (upd (upd (fun _ => 0) 0 123) 1 125))), ((f1549 0), .inl (cy 0, 2, .inl (va_cpy (upd (upd (fun _ => 0) 0 123) 1 125) (fun _ => 0) 0 0 2)))] H _ := w
  refine W.widen (k := 1) (n := 2) (Nat.le_of_ble_eq_true rfl) (Nat.le_of_ble_eq_true rfl) ?_
  refine x_putF (ty := (.array .byte)) (ty0 := tyJ0) C w hn 0 0 0 (xin_J0 _) tyJ0_ok nmJ0 rfl rfl (by decide) (List.mem_cons_of_mem _ gw_530) rfl rfl rfl (by decide +kernel) rfl rfl (Nat.le_of_ble_eq_true rfl) dJ0_init_db425_35 (fun H locs w => ?_)
  have w : xW G A s [(h0, .inr (0, [.ref (f1549 0), .int 0, .int 0, .int 0])), (h1, .inr (1, [.ref h2, .int 0, .int 0, .int 2])), (h2, .inl (cy 0, 16, .inl (upd (upd (fun _ => 0) 0 123) 1 125))), ((f1549 0), .inl (cy 0, 2, .inl (va_cpy (upd (upd (fun _ => 0) 0 123) 1 125) (fun _ => 0) 0 0 2)))] H _ := w
  refine lv_goto (tgt := 97) C.1 C.2.1 dJ0_init_db425_38 (by decide) ?_
  have w := w.sub (ws' := [(h1, .inr (1, [.ref h2, .int 0, .int 0, .int 2])), (h0, .inr (0, [.ref (f1549 0), .int 0, .int 0, .int 0])), (h2, .inl (cy 0, 16, .inl (upd (upd (fun _ => 0) 0 123) 1 125))), ((f1549 0), .inl (cy 0, 2, .inl (va_cpy (upd (upd (fun _ => 0) 0 123) 1 125) (fun _ => 0) 0 0 2)))]) [1, 0, 2, 3] (by decide) rfl rfl
  exact x_vret C w hr (fun k => match k with | 0 => (f1549 0) | _ => 0) rfl dJ0_init_db425_97 (Nat.le_of_ble_eq_true rfl) (Nat.le_of_ble_eq_true rfl)
set_option maxHeartbeats 4000000 in
set_option maxRecDepth 100000 in
theorem c256_J0_init_81219 (l : Launch) (G : va_G) (cy : Nat → ClassId) (sa : String → Nat → Nat) (sv : Nat → Nat) (h0 h1 h2 : Nat) : xM l G cy sa sv yJ0_init_81219 (Cond.code yJ0_init_81219 cJ0_init_81219 2 none :: XG) { frames := 12, cells := 1, slots := 2, locals := 341 } [.ref h0, .ref h1] [(h0, .inr (0, [.null, .int 0, .int 0, .int 0])), (h1, .inr (1, [.ref h2, .int 0, .int 0, .int 2])), (h2, .inl (cy 0, 16, .inl (upd (upd (fun _ => 0) 0 123) 1 125)))] (xQv G (fun f => [(h0, .inr (0, [.ref (f 0), .int 0, .int 0, .int 0])), (h1, .inr (1, [.ref h2, .int 0, .int 0, .int 2])), (h2, .inl (cy 0, 16, .inl (upd (upd (fun _ => 0) 0 123) 1 125))), ((f 0), .inl (cy 0, 2, .inl (va_cpy (upd (upd (fun _ => 0) 0 123) 1 125) (fun _ => 0) 0 0 2)))])) := by
  refine xof (by decide) (Nat.le_of_ble_eq_true rfl) (fun p e s m below meth c A C w hr hn ls hl => ?_)
  have hl : lv_has ls 2 [(0, .ref h0), (1, .ref h1)] := hl
  refine lv_aload_n C.1 C.2.1 dJ0_init_81219_0 rfl (lv_at hl 0 rfl) ?_
  refine lv_aload_n C.1 C.2.1 dJ0_init_81219_1 rfl (lv_at hl 1 rfl) ?_
  refine lv_null C.1 C.2.1 dJ0_init_81219_2 ?_
  refine x_kv C w [1, 0, 2] [] rfl rfl (by decide) (by decide) (va_runI (As := [.ref h1, .null]) (rest := []) (xfix C) (c255_J0_init_db425 l G cy sa sv h0 h1 h2 (xtr C) _) (cwI 2 (xhts C) (xgI gc_J0_init_db425) rfl rfl rfl (xhts C _ (List.mem_cons_of_mem _ gw_492)) (xhts C _ (List.mem_cons_of_mem _ gw_532)) (xhts C _ (List.mem_cons_of_mem _ gw_533)) rfl (by decide +kernel) ⟨(Nat.le_of_ble_eq_true rfl), (Nat.le_of_ble_eq_true rfl)⟩) (xPS C w [1, 0, 2] rfl (by decide)) rfl rfl hl.1 rfl (lv_room (Nat.le_of_ble_eq_true rfl)) dJ0_init_81219_3 ⟨(Nat.le_of_ble_eq_true rfl), (Nat.le_of_ble_eq_true rfl)⟩) (fun f1551 H locs w => ?_)
  have w : xW G A s [(h1, .inr (1, [.ref h2, .int 0, .int 0, .int 2])), (h0, .inr (0, [.ref (f1551 0), .int 0, .int 0, .int 0])), (h2, .inl (cy 0, 16, .inl (upd (upd (fun _ => 0) 0 123) 1 125))), ((f1551 0), .inl (cy 0, 2, .inl (va_cpy (upd (upd (fun _ => 0) 0 123) 1 125) (fun _ => 0) 0 0 2)))] H _ := w
  refine W.widen (k := 1) (n := 2) (Nat.le_of_ble_eq_true rfl) (Nat.le_of_ble_eq_true rfl) ?_
  have w := w.sub (ws' := [(h0, .inr (0, [.ref (f1551 0), .int 0, .int 0, .int 0])), (h1, .inr (1, [.ref h2, .int 0, .int 0, .int 2])), (h2, .inl (cy 0, 16, .inl (upd (upd (fun _ => 0) 0 123) 1 125))), ((f1551 0), .inl (cy 0, 2, .inl (va_cpy (upd (upd (fun _ => 0) 0 123) 1 125) (fun _ => 0) 0 0 2)))]) [1, 0, 2, 3] (by decide) rfl rfl
  exact x_vret C w hr (fun k => match k with | 0 => (f1551 0) | _ => 0) rfl dJ0_init_81219_6 (Nat.le_of_ble_eq_true rfl) (Nat.le_of_ble_eq_true rfl)
set_option maxHeartbeats 4000000 in
set_option maxRecDepth 100000 in
theorem c257_J4_toString_0e30d (l : Launch) (G : va_G) (cy : Nat → ClassId) (sa : String → Nat → Nat) (sv : Nat → Nat) (h0 h1 : Nat) : xM l G cy sa sv yJ4_toString_0e30d (Cond.code yJ4_toString_0e30d cJ4_toString_0e30d 1 (some (.object "java/lang/String")) :: XG) { frames := 13, cells := 2, slots := 6, locals := 362 } [.ref h0] [(h0, .inr (1, [.ref h1, .int 0, .int 0, .int 2])), (h1, .inl (cy 0, 16, .inl (upd (upd (fun _ => 0) 0 123) 1 125)))] (xQr G (fun f => [(h0, .inr (1, [.ref h1, .int 0, .int 0, .int 2])), (h1, .inl (cy 0, 16, .inl (upd (upd (fun _ => 0) 0 123) 1 125))), ((f 0), .inr (0, [.ref (f 1), .int 0, .int 0, .int 0])), ((f 1), .inl (cy 0, 2, .inl (va_cpy (upd (upd (fun _ => 0) 0 123) 1 125) (fun _ => 0) 0 0 2)))]) (fun f => (f 0))) := by
  refine xof (by decide) (Nat.le_of_ble_eq_true rfl) (fun p e s m below meth c A C w hr hn ls hl => ?_)
  have hl : lv_has ls 1 [(0, .ref h0)] := hl
  refine x_new (fs := [.null, .int 0, .int 0, .int 0]) (ty0 := tyJ0) C w 0 (xin_J0 _) tyJ0_ok rfl (List.mem_cons_of_mem _ gw_490) (List.mem_cons_of_mem _ gw_491) (List.mem_cons_of_mem _ gw_492) (fun j hj => by rcases (show j = 0 ∨ j = 1 ∨ j = 2 ∨ j = 3 by omega) with rfl | rfl | rfl | rfl <;> rfl) (Nat.le_of_ble_eq_true rfl) (Nat.le_of_ble_eq_true rfl) dJ4_toString_0e30d_0 (fun q1531 H w => ?_)
  have w : xW G A s [(h0, .inr (1, [.ref h1, .int 0, .int 0, .int 2])), (h1, .inl (cy 0, 16, .inl (upd (upd (fun _ => 0) 0 123) 1 125))), (q1531, .inr (0, [.null, .int 0, .int 0, .int 0]))] H _ := w
  refine W.widen (k := 1) (n := 4) (Nat.le_of_ble_eq_true rfl) (Nat.le_of_ble_eq_true rfl) ?_
  refine lv_dup C.1 C.2.1 dJ4_toString_0e30d_3 rfl ?_
  refine lv_aload_n C.1 C.2.1 dJ4_toString_0e30d_4 rfl (lv_at hl 0 rfl) ?_
  refine x_kv C w [2, 0, 1] [] rfl rfl (by decide) (by decide) (va_runI (As := [.ref h0]) (rest := [.ref q1531]) (xfix C) (c256_J0_init_81219 l G cy sa sv q1531 h0 h1 (xtr C) _) (cwI 1 (xhts C) (xgI gc_J0_init_81219) rfl rfl rfl (xhts C _ (List.mem_cons_of_mem _ gw_492)) (xhts C _ (List.mem_cons_of_mem _ gw_535)) (xhts C _ (List.mem_cons_of_mem _ gw_536)) rfl (by decide +kernel) ⟨(Nat.le_of_ble_eq_true rfl), (Nat.le_of_ble_eq_true rfl)⟩) (xPS C w [2, 0, 1] rfl (by decide)) rfl rfl hl.1 rfl (lv_room (Nat.le_of_ble_eq_true rfl)) dJ4_toString_0e30d_5 ⟨(Nat.le_of_ble_eq_true rfl), (Nat.le_of_ble_eq_true rfl)⟩) (fun f1553 H locs w => ?_)
  have w : xW G A s [(q1531, .inr (0, [.ref (f1553 0), .int 0, .int 0, .int 0])), (h0, .inr (1, [.ref h1, .int 0, .int 0, .int 2])), (h1, .inl (cy 0, 16, .inl (upd (upd (fun _ => 0) 0 123) 1 125))), ((f1553 0), .inl (cy 0, 2, .inl (va_cpy (upd (upd (fun _ => 0) 0 123) 1 125) (fun _ => 0) 0 0 2)))] H _ := w
  refine W.widen (k := 2) (n := 6) (Nat.le_of_ble_eq_true rfl) (Nat.le_of_ble_eq_true rfl) ?_
  have w := w.sub (ws' := [(h0, .inr (1, [.ref h1, .int 0, .int 0, .int 2])), (h1, .inl (cy 0, 16, .inl (upd (upd (fun _ => 0) 0 123) 1 125))), (q1531, .inr (0, [.ref (f1553 0), .int 0, .int 0, .int 0])), ((f1553 0), .inl (cy 0, 2, .inl (va_cpy (upd (upd (fun _ => 0) 0 123) 1 125) (fun _ => 0) 0 0 2)))]) [1, 2, 0, 3] (by decide) rfl rfl
  exact x_aret C w hr (Or.inl ⟨_, rfl⟩) (fun k => match k with | 0 => q1531 | 1 => (f1553 0) | _ => 0) rfl rfl dJ4_toString_0e30d_8 (Nat.le_of_ble_eq_true rfl) (Nat.le_of_ble_eq_true rfl)
set_option maxHeartbeats 4000000 in
set_option maxRecDepth 100000 in
theorem c258_X4_text (l : Launch) (G : va_G) (cy : Nat → ClassId) (sa : String → Nat → Nat) (sv : Nat → Nat) (h0 h1 h2 h3 h4 h5 h6 h7 h8 h9 h10 : Nat) : xM l G cy sa sv yX4_text (Cond.code yX4_text cX4_text 2 (some (.object "java/lang/String")) :: XG) { frames := 14, cells := 4, slots := 26, locals := 382 } [.ref h0] [(h0, .inr (8, [.ref h1, .ref h3, .ref h4, .ref h5, .ref h6, .int 0, .ref h7, .ref h8])), (h1, .inr (7, [.ref h2, .ref h9])), (h2, .inr (6, [.ref h10, .int 0]))] (xQr G (fun f => [(h0, .inr (8, [.ref h1, .ref h3, .ref h4, .ref h5, .ref h6, .int 0, .ref h7, .ref h8])), (h1, .inr (7, [.ref h2, .ref h9])), (h2, .inr (6, [.ref h10, .int 0])), ((f 0), .inr (0, [.ref (f 1), .int 0, .int 0, .int 0])), ((f 1), .inl (cy 0, 2, .inl (va_cpy (upd (upd (fun _ => 0) 0 123) 1 125) (fun _ => 0) 0 0 2)))]) (fun f => (f 0))) := by
  refine xof (by decide) (Nat.le_of_ble_eq_true rfl) (fun p e s m below meth c A C w hr hn ls hl => ?_)
  have hl : lv_has ls 2 [(0, .ref h0)] := hl
  refine x_new (fs := [.null, .int 0, .int 0, .int 0]) (ty0 := tyJ4) C w 1 (xin_J4 _) tyJ4_ok rfl (List.mem_cons_of_mem _ gw_574) (List.mem_cons_of_mem _ gw_476) (List.mem_cons_of_mem _ gw_477) (fun j hj => by rcases (show j = 0 ∨ j = 1 ∨ j = 2 ∨ j = 3 by omega) with rfl | rfl | rfl | rfl <;> rfl) (Nat.le_of_ble_eq_true rfl) (Nat.le_of_ble_eq_true rfl) dX4_text_0 (fun q1504 H w => ?_)
  have w : xW G A s [(h0, .inr (8, [.ref h1, .ref h3, .ref h4, .ref h5, .ref h6, .int 0, .ref h7, .ref h8])), (h1, .inr (7, [.ref h2, .ref h9])), (h2, .inr (6, [.ref h10, .int 0])), (q1504, .inr (1, [.null, .int 0, .int 0, .int 0]))] H _ := w
  refine W.widen (k := 1) (n := 4) (Nat.le_of_ble_eq_true rfl) (Nat.le_of_ble_eq_true rfl) ?_
  refine lv_dup C.1 C.2.1 dX4_text_3 rfl ?_
  refine x_kv C w [3] [0, 1, 2] rfl rfl (by decide) (by decide) (va_runI (As := []) (rest := [.ref q1504]) (xfix C) (c217_J4_init_da8c8 l G cy sa sv q1504 (xtr C) _) (cwI 0 (xhts C) (xgI gc_J4_init_da8c8) rfl rfl rfl (xhts C _ (List.mem_cons_of_mem _ gw_477)) (xhts C _ (List.mem_cons_of_mem _ gw_575)) (xhts C _ (List.mem_cons_of_mem _ gw_489)) rfl (by decide +kernel) ⟨(Nat.le_of_ble_eq_true rfl), (Nat.le_of_ble_eq_true rfl)⟩) (xPS C w [3] rfl (by decide)) rfl rfl hl.1 rfl (lv_room (Nat.le_of_ble_eq_true rfl)) dX4_text_4 ⟨(Nat.le_of_ble_eq_true rfl), (Nat.le_of_ble_eq_true rfl)⟩) (fun f1513 H locs w => ?_)
  have w : xW G A s [(h0, .inr (8, [.ref h1, .ref h3, .ref h4, .ref h5, .ref h6, .int 0, .ref h7, .ref h8])), (h1, .inr (7, [.ref h2, .ref h9])), (h2, .inr (6, [.ref h10, .int 0])), (q1504, .inr (1, [.ref (f1513 0), .int 0, .int 0, .int 0])), ((f1513 0), .inl (cy 0, 16, .inl (fun _ => 0)))] H _ := w
  refine W.widen (k := 2) (n := 20) (Nat.le_of_ble_eq_true rfl) (Nat.le_of_ble_eq_true rfl) ?_
  refine lv_astore_n (lv' := [(1, .ref q1504), (0, .ref h0)]) C.1 C.2.1 dX4_text_7 rfl hl (by decide) rfl (fun ls hl => ?_)
  refine lv_aload_n C.1 C.2.1 dX4_text_8 rfl (lv_at hl 0 rfl) ?_
  refine lv_bipush (v := 123) C.1 C.2.1 dX4_text_9 (by decide) ?_
  refine x_kr C w [3, 4] [0, 1, 2] rfl rfl (by decide) (by decide) (va_runV (As := [.int 123]) (rest := []) (xfix C) (c241_J4_append_cf468 l G cy sa sv q1504 (f1513 0) (xtr C) _) (cwV 1 (xhts C) (xgV (maxL := 0) (cc := ⟨#[]⟩) (ret := none) gw_590 gw_591 gw_592 gw_477 gc_J4_append_cf468) rfl rfl rfl (by decide +kernel) ⟨(Nat.le_of_ble_eq_true rfl), (Nat.le_of_ble_eq_true rfl)⟩) (xPV C w [3, 4] rfl (by decide) (ci := 1) (q0 := 3) rfl rfl) rfl rfl hl.1 rfl (lv_room (Nat.le_of_ble_eq_true rfl)) dX4_text_11 ⟨(Nat.le_of_ble_eq_true rfl), (Nat.le_of_ble_eq_true rfl)⟩) (fun f1518 H locs w => ?_)
  have w : xW G A s [(h0, .inr (8, [.ref h1, .ref h3, .ref h4, .ref h5, .ref h6, .int 0, .ref h7, .ref h8])), (h1, .inr (7, [.ref h2, .ref h9])), (h2, .inr (6, [.ref h10, .int 0])), (q1504, .inr (1, [.ref (f1513 0), .int 0, .int 0, .int 1])), ((f1513 0), .inl (cy 0, 16, .inl (upd (fun _ => 0) 0 123)))] H _ := w
  refine lv_pop C.1 C.2.1 dX4_text_14 rfl ?_
  refine lv_aload_n C.1 C.2.1 dX4_text_15 rfl (lv_at hl 1 rfl) ?_
  refine lv_aload_n C.1 C.2.1 dX4_text_16 rfl (lv_at hl 0 rfl) ?_
  refine lv_iconst (v := 0) C.1 C.2.1 dX4_text_17 (by decide) ?_
  refine lv_aload_n C.1 C.2.1 dX4_text_18 rfl (lv_at hl 1 rfl) ?_
  refine x_get (v := .ref h1) C w 0 8 0 (xin_X4 _) rfl rfl (by decide) (List.mem_cons_of_mem _ gw_24) rfl rfl dX4_text_19 ?_
  refine x_ki C w [1, 2] [0, 3, 4] rfl rfl (by decide) (by decide) (va_runV (As := []) (rest := [.int 0, .ref q1504, .ref h0]) (xfix C) (c22_X3_count l G cy sa sv h1 h2 h9 h10 (xtr C) _) (cwV 0 (xhts C) (xgV (maxL := 0) (cc := ⟨#[]⟩) (ret := none) gw_130 gw_131 gw_132 gw_7 gc_X3_count) rfl rfl rfl (by decide +kernel) ⟨(Nat.le_of_ble_eq_true rfl), (Nat.le_of_ble_eq_true rfl)⟩) (xPV C w [1, 2] rfl (by decide) (ci := 7) (q0 := 1) rfl rfl) rfl rfl hl.1 rfl (lv_room (Nat.le_of_ble_eq_true rfl)) dX4_text_22 ⟨(Nat.le_of_ble_eq_true rfl), (Nat.le_of_ble_eq_true rfl)⟩) (fun f1520 H locs w => ?_)
  have w : xW G A s [(h0, .inr (8, [.ref h1, .ref h3, .ref h4, .ref h5, .ref h6, .int 0, .ref h7, .ref h8])), (q1504, .inr (1, [.ref (f1513 0), .int 0, .int 0, .int 1])), ((f1513 0), .inl (cy 0, 16, .inl (upd (fun _ => 0) 0 123))), (h1, .inr (7, [.ref h2, .ref h9])), (h2, .inr (6, [.ref h10, .int 0]))] H _ := w
  refine x_ldcS C (tx := ", ") (List.mem_of_getElem? (i := 0) rfl) dX4_text_25 ?_
  refine x_kv C w [] [0, 1, 2, 3, 4] rfl rfl (by decide) (by decide) (va_runV (As := [.ref q1504, .int 0, .int 0, .ref (sa "Twinindex" 139)]) (rest := []) (xfix C) (c242_X4_joinPairs l G cy sa sv h0 q1504 (xtr C) _) (cwV 4 (xhts C) (xgV (maxL := 0) (cc := ⟨#[]⟩) (ret := none) gw_594 gw_595 gw_596 gw_2 gc_X4_joinPairs) rfl rfl rfl (by decide +kernel) ⟨(Nat.le_of_ble_eq_true rfl), (Nat.le_of_ble_eq_true rfl)⟩) (xPV C w [] rfl (by decide) (ci := 8) (q0 := 0) rfl rfl) rfl rfl hl.1 rfl (lv_room (Nat.le_of_ble_eq_true rfl)) dX4_text_27 ⟨(Nat.le_of_ble_eq_true rfl), (Nat.le_of_ble_eq_true rfl)⟩) (fun f1521 H locs w => ?_)
  have w : xW G A s [(h0, .inr (8, [.ref h1, .ref h3, .ref h4, .ref h5, .ref h6, .int 0, .ref h7, .ref h8])), (q1504, .inr (1, [.ref (f1513 0), .int 0, .int 0, .int 1])), ((f1513 0), .inl (cy 0, 16, .inl (upd (fun _ => 0) 0 123))), (h1, .inr (7, [.ref h2, .ref h9])), (h2, .inr (6, [.ref h10, .int 0]))] H _ := w
  refine lv_aload_n C.1 C.2.1 dX4_text_30 rfl (lv_at hl 0 rfl) ?_
  refine lv_bipush (v := 125) C.1 C.2.1 dX4_text_31 (by decide) ?_
  refine x_kr C w [1, 2] [0, 3, 4] rfl rfl (by decide) (by decide) (va_runV (As := [.int 125]) (rest := []) (xfix C) (c247_J4_append_cf468 l G cy sa sv q1504 (f1513 0) (xtr C) _) (cwV 1 (xhts C) (xgV (maxL := 0) (cc := ⟨#[]⟩) (ret := none) gw_590 gw_591 gw_592 gw_477 gc_J4_append_cf468) rfl rfl rfl (by decide +kernel) ⟨(Nat.le_of_ble_eq_true rfl), (Nat.le_of_ble_eq_true rfl)⟩) (xPV C w [1, 2] rfl (by decide) (ci := 1) (q0 := 1) rfl rfl) rfl rfl hl.1 rfl (lv_room (Nat.le_of_ble_eq_true rfl)) dX4_text_33 ⟨(Nat.le_of_ble_eq_true rfl), (Nat.le_of_ble_eq_true rfl)⟩) (fun f1526 H locs w => ?_)
  have w : xW G A s [(h0, .inr (8, [.ref h1, .ref h3, .ref h4, .ref h5, .ref h6, .int 0, .ref h7, .ref h8])), (h1, .inr (7, [.ref h2, .ref h9])), (h2, .inr (6, [.ref h10, .int 0])), (q1504, .inr (1, [.ref (f1513 0), .int 0, .int 0, .int 2])), ((f1513 0), .inl (cy 0, 16, .inl (upd (upd (fun _ => 0) 0 123) 1 125)))] H _ := w
  refine lv_pop C.1 C.2.1 dX4_text_36 rfl ?_
  refine lv_aload_n C.1 C.2.1 dX4_text_37 rfl (lv_at hl 0 rfl) ?_
  refine x_kr C w [3, 4] [0, 1, 2] rfl rfl (by decide) (by decide) (va_runV (As := []) (rest := []) (xfix C) (c257_J4_toString_0e30d l G cy sa sv q1504 (f1513 0) (xtr C) _) (cwV 0 (xhts C) (xgV (maxL := 0) (cc := ⟨#[]⟩) (ret := none) gw_597 gw_539 gw_540 gw_477 gc_J4_toString_0e30d) rfl rfl rfl (by decide +kernel) ⟨(Nat.le_of_ble_eq_true rfl), (Nat.le_of_ble_eq_true rfl)⟩) (xPV C w [3, 4] rfl (by decide) (ci := 1) (q0 := 3) rfl rfl) rfl rfl hl.1 rfl (lv_room (Nat.le_of_ble_eq_true rfl)) dX4_text_38 ⟨(Nat.le_of_ble_eq_true rfl), (Nat.le_of_ble_eq_true rfl)⟩) (fun f1556 H locs w => ?_)
  have w : xW G A s [(h0, .inr (8, [.ref h1, .ref h3, .ref h4, .ref h5, .ref h6, .int 0, .ref h7, .ref h8])), (h1, .inr (7, [.ref h2, .ref h9])), (h2, .inr (6, [.ref h10, .int 0])), (q1504, .inr (1, [.ref (f1513 0), .int 0, .int 0, .int 2])), ((f1513 0), .inl (cy 0, 16, .inl (upd (upd (fun _ => 0) 0 123) 1 125))), ((f1556 0), .inr (0, [.ref (f1556 1), .int 0, .int 0, .int 0])), ((f1556 1), .inl (cy 0, 2, .inl (va_cpy (upd (upd (fun _ => 0) 0 123) 1 125) (fun _ => 0) 0 0 2)))] H _ := w
  refine W.widen (k := 4) (n := 26) (Nat.le_of_ble_eq_true rfl) (Nat.le_of_ble_eq_true rfl) ?_
  have w := w.sub (ws' := [(h0, .inr (8, [.ref h1, .ref h3, .ref h4, .ref h5, .ref h6, .int 0, .ref h7, .ref h8])), (h1, .inr (7, [.ref h2, .ref h9])), (h2, .inr (6, [.ref h10, .int 0])), ((f1556 0), .inr (0, [.ref (f1556 1), .int 0, .int 0, .int 0])), ((f1556 1), .inl (cy 0, 2, .inl (va_cpy (upd (upd (fun _ => 0) 0 123) 1 125) (fun _ => 0) 0 0 2)))]) [0, 1, 2, 5, 6] (by decide) rfl rfl
  exact x_aret C w hr (Or.inl ⟨_, rfl⟩) (fun k => match k with | 0 => (f1556 0) | 1 => (f1556 1) | _ => 0) rfl rfl dX4_text_41 (Nat.le_of_ble_eq_true rfl) (Nat.le_of_ble_eq_true rfl)
set_option maxHeartbeats 4000000 in
set_option maxRecDepth 100000 in
theorem c259_J0_coder_7d493 (l : Launch) (G : va_G) (cy : Nat → ClassId) (sa : String → Nat → Nat) (sv : Nat → Nat) : xM l G cy sa sv yJ0_coder_7d493 (Cond.code yJ0_coder_7d493 cJ0_coder_7d493 1 (some .byte) :: XG) { frames := 8, cells := 0, slots := 0, locals := 250 } [.ref (sa "TwinindexModel" 151)] [] (xQi G (fun f => []) 0) := by
  refine xof (by decide) (Nat.le_of_ble_eq_true rfl) (fun p e s m below meth c A C w hr hn ls hl => ?_)
  have hl : lv_has ls 1 [(0, .ref (sa "TwinindexModel" 151))] := hl
  refine x_gets C w (xs_cs (xS C)) (List.mem_cons_of_mem _ gw_557) rfl dJ0_coder_7d493_0 ?_
  refine lv_if_eq (tgt := 13) C.1 C.2.1 dJ0_coder_7d493_3 (by decide) (fun c9 => absurd c9 (by decide)) (fun _ => ?_)
  refine lv_aload_n C.1 C.2.1 dJ0_coder_7d493_6 rfl (lv_at hl 0 rfl) ?_
  refine x_getk C w (xs_s1 (xS C)).2.1 (List.mem_cons_of_mem _ gw_514) rfl dJ0_coder_7d493_7 ?_
  refine lv_goto (tgt := 14) C.1 C.2.1 dJ0_coder_7d493_10 (by decide) ?_
  exact x_zret C w hr rfl (fun _ => 0) rfl rfl dJ0_coder_7d493_14 (Nat.le_of_ble_eq_true rfl) (Nat.le_of_ble_eq_true rfl)
set_option maxHeartbeats 4000000 in
set_option maxRecDepth 100000 in
theorem c260_J0_length_8abf5 (l : Launch) (G : va_G) (cy : Nat → ClassId) (sa : String → Nat → Nat) (sv : Nat → Nat) : xM l G cy sa sv yJ0_length_8abf5 (Cond.code yJ0_length_8abf5 cJ0_length_8abf5 1 (some .int) :: XG) { frames := 9, cells := 0, slots := 0, locals := 270 } [.ref (sa "TwinindexModel" 151)] [] (xQi G (fun f => []) 1) := by
  refine xof (by decide) (Nat.le_of_ble_eq_true rfl) (fun p e s m below meth c A C w hr hn ls hl => ?_)
  have hl : lv_has ls 1 [(0, .ref (sa "TwinindexModel" 151))] := hl
  refine lv_aload_n C.1 C.2.1 dJ0_length_8abf5_0 rfl (lv_at hl 0 rfl) ?_
  refine x_getk C w (xs_s1 (xS C)).2.2.1 (List.mem_cons_of_mem _ gw_530) rfl dJ0_length_8abf5_1 ?_
  refine x_tlen (v := 1) C w (xs_s1 (xS C)).2.2.2 (by decide) dJ0_length_8abf5_4 ?_
  refine lv_aload_n C.1 C.2.1 dJ0_length_8abf5_5 rfl (lv_at hl 0 rfl) ?_
  refine x_ki C w [] [] rfl rfl (by decide) (by decide) (va_runV (As := []) (rest := [.int 1]) (xfix C) (c259_J0_coder_7d493 l G cy sa sv (xtr C) _) (cwV 0 (xhts C) (xgV (maxL := 0) (cc := ⟨#[]⟩) (ret := none) gw_605 gw_606 gw_607 gw_492 gc_J0_coder_7d493) rfl rfl rfl (by decide +kernel) ⟨(Nat.le_of_ble_eq_true rfl), (Nat.le_of_ble_eq_true rfl)⟩) (xPVs C w [] rfl (by decide) (xs_s1 (xS C))) rfl rfl hl.1 rfl (lv_room (Nat.le_of_ble_eq_true rfl)) dJ0_length_8abf5_6 ⟨(Nat.le_of_ble_eq_true rfl), (Nat.le_of_ble_eq_true rfl)⟩) (fun f1590 H locs w => ?_)
  have w : xW G A s [] H _ := w
  refine lv_ishr C.1 C.2.1 dJ0_length_8abf5_9 ?_
  refine x_is (y := 1) (by decide) ?_
  exact x_iret C w hr (fun _ => 0) rfl rfl dJ0_length_8abf5_10 (Nat.le_of_ble_eq_true rfl) (Nat.le_of_ble_eq_true rfl)
set_option maxHeartbeats 4000000 in
set_option maxRecDepth 100000 in
theorem c261_J5_inflateIfNeededFor_a7421 (l : Launch) (G : va_G) (cy : Nat → ClassId) (sa : String → Nat → Nat) (sv : Nat → Nat) (h0 h1 : Nat) : xM l G cy sa sv yJ5_inflateIfNeededFor_a7421 (Cond.code yJ5_inflateIfNeededFor_a7421 cJ5_inflateIfNeededFor_a7421 2 none :: XG) { frames := 9, cells := 0, slots := 0, locals := 270 } [.ref h0, .ref (sa "TwinindexModel" 151)] [(h0, .inr (1, [.ref h1, .int 0, .int 0, .int 0]))] (xQv G (fun f => [(h0, .inr (1, [.ref h1, .int 0, .int 0, .int 0]))])) := by
  refine xof (by decide) (Nat.le_of_ble_eq_true rfl) (fun p e s m below meth c A C w hr hn ls hl => ?_)
  have hl : lv_has ls 2 [(0, .ref h0), (1, .ref (sa "TwinindexModel" 151))] := hl
  refine x_gets C w (xs_cs (xS C)) (List.mem_cons_of_mem _ gw_479) rfl dJ5_inflateIfNeededFor_a7421_0 ?_
  refine lv_if_eq (tgt := 21) C.1 C.2.1 dJ5_inflateIfNeededFor_a7421_3 (by decide) (fun c9 => absurd c9 (by decide)) (fun _ => ?_)
  refine lv_aload_n C.1 C.2.1 dJ5_inflateIfNeededFor_a7421_6 rfl (lv_at hl 0 rfl) ?_
  refine x_get (v := .int 0) C w 0 1 1 (xin_J4 _) rfl rfl (by decide) (List.mem_cons_of_mem _ gw_482) rfl rfl dJ5_inflateIfNeededFor_a7421_7 ?_
  refine lv_aload_n C.1 C.2.1 dJ5_inflateIfNeededFor_a7421_10 rfl (lv_at hl 1 rfl) ?_
  refine x_ki C w [] [0] rfl rfl (by decide) (by decide) (va_runV (As := []) (rest := [.int 0]) (xfix C) (c259_J0_coder_7d493 l G cy sa sv (xtr C) _) (cwV 0 (xhts C) (xgV (maxL := 0) (cc := ⟨#[]⟩) (ret := none) gw_612 gw_606 gw_607 gw_492 gc_J0_coder_7d493) rfl rfl rfl (by decide +kernel) ⟨(Nat.le_of_ble_eq_true rfl), (Nat.le_of_ble_eq_true rfl)⟩) (xPVs C w [] rfl (by decide) (xs_s1 (xS C))) rfl rfl hl.1 rfl (lv_room (Nat.le_of_ble_eq_true rfl)) dJ5_inflateIfNeededFor_a7421_11 ⟨(Nat.le_of_ble_eq_true rfl), (Nat.le_of_ble_eq_true rfl)⟩) (fun f1593 H locs w => ?_)
  have w : xW G A s [(h0, .inr (1, [.ref h1, .int 0, .int 0, .int 0]))] H _ := w
  refine lv_icmp_eq (tgt := 21) C.1 C.2.1 dJ5_inflateIfNeededFor_a7421_14 (by decide) (fun _ => ?_) (fun c9 => absurd (by decide) c9)
  exact x_vret C w hr (fun _ => 0) rfl dJ5_inflateIfNeededFor_a7421_21 (Nat.le_of_ble_eq_true rfl) (Nat.le_of_ble_eq_true rfl)
set_option maxHeartbeats 4000000 in
set_option maxRecDepth 100000 in
theorem c262_J0_getBytes_840e7 (l : Launch) (G : va_G) (cy : Nat → ClassId) (sa : String → Nat → Nat) (sv : Nat → Nat) (h0 : Nat) : xM l G cy sa sv yJ0_getBytes_840e7 (Cond.code yJ0_getBytes_840e7 cJ0_getBytes_840e7 4 none :: XG) { frames := 9, cells := 0, slots := 0, locals := 270 } [.ref (sa "TwinindexModel" 151), .ref h0, .int 0, .int 0] [(h0, .inl (cy 0, 16, .inl (fun _ => 0)))] (xQv G (fun f => [(h0, .inl (cy 0, 16, .inl (va_cpy (fun j => ([123] : List Int32).getD j 0) (fun _ => 0) 0 0 1)))])) := by
  refine xof (by decide) (Nat.le_of_ble_eq_true rfl) (fun p e s m below meth c A C w hr hn ls hl => ?_)
  have hl : lv_has ls 4 [(0, .ref (sa "TwinindexModel" 151)), (1, .ref h0), (2, .int 0), (3, .int 0)] := hl
  refine lv_aload_n C.1 C.2.1 dJ0_getBytes_840e7_0 rfl (lv_at hl 0 rfl) ?_
  refine x_ki C w [] [0] rfl rfl (by decide) (by decide) (va_runV (As := []) (rest := []) (xfix C) (c259_J0_coder_7d493 l G cy sa sv (xtr C) _) (cwV 0 (xhts C) (xgV (maxL := 0) (cc := ⟨#[]⟩) (ret := none) gw_605 gw_606 gw_607 gw_492 gc_J0_coder_7d493) rfl rfl rfl (by decide +kernel) ⟨(Nat.le_of_ble_eq_true rfl), (Nat.le_of_ble_eq_true rfl)⟩) (xPVs C w [] rfl (by decide) (xs_s1 (xS C))) rfl rfl hl.1 rfl (lv_room (Nat.le_of_ble_eq_true rfl)) dJ0_getBytes_840e7_1 ⟨(Nat.le_of_ble_eq_true rfl), (Nat.le_of_ble_eq_true rfl)⟩) (fun f1595 H locs w => ?_)
  have w : xW G A s [(h0, .inl (cy 0, 16, .inl (fun _ => 0)))] H _ := w
  refine lv_iload_n C.1 C.2.1 dJ0_getBytes_840e7_4 rfl (lv_at hl 3 rfl) ?_
  refine lv_icmp_ne (tgt := 28) C.1 C.2.1 dJ0_getBytes_840e7_5 (by decide) (fun c9 => absurd (by decide) c9) (fun _ => ?_)
  refine lv_aload_n C.1 C.2.1 dJ0_getBytes_840e7_8 rfl (lv_at hl 0 rfl) ?_
  refine x_getk C w (xs_s1 (xS C)).2.2.1 (List.mem_cons_of_mem _ gw_530) rfl dJ0_getBytes_840e7_9 ?_
  refine lv_iconst (v := 0) C.1 C.2.1 dJ0_getBytes_840e7_12 (by decide) ?_
  refine lv_aload_n C.1 C.2.1 dJ0_getBytes_840e7_13 rfl (lv_at hl 1 rfl) ?_
  refine lv_iload_n C.1 C.2.1 dJ0_getBytes_840e7_14 rfl (lv_at hl 2 rfl) ?_
  refine lv_iload_n C.1 C.2.1 dJ0_getBytes_840e7_15 rfl (lv_at hl 3 rfl) ?_
  refine lv_ishl C.1 C.2.1 dJ0_getBytes_840e7_16 ?_
  refine x_is (y := 0) (by decide) ?_
  refine lv_aload_n C.1 C.2.1 dJ0_getBytes_840e7_17 rfl (lv_at hl 0 rfl) ?_
  refine x_getk C w (xs_s1 (xS C)).2.2.1 (List.mem_cons_of_mem _ gw_530) rfl dJ0_getBytes_840e7_18 ?_
  refine x_tlen (v := 1) C w (xs_s1 (xS C)).2.2.2 (by decide) dJ0_getBytes_840e7_21 ?_
  refine x_copyt (sp' := 0) (dp' := 0) (n' := 1) C w hl.1 (xs_s1 (xS C)).2.2.2 0 (List.mem_cons_of_mem _ gw_618) (List.mem_cons_of_mem _ gw_521) (List.mem_cons_of_mem _ gw_522) (List.mem_cons_of_mem _ gw_523) rfl (by decide) (by decide) (by decide) (by decide) (by decide) (by decide) (by decide) (by decide) (fun i hi => by rcases (show i = 0 by omega) with rfl <;> rfl) (Nat.le_of_ble_eq_true rfl) (Nat.le_of_ble_eq_true rfl) dJ0_getBytes_840e7_22 (fun H locs w => ?_)
  have w : xW G A s [(h0, .inl (cy 0, 16, .inl (va_cpy (fun j => ([123] : List Int32).getD j 0) (fun _ => 0) 0 0 1)))] H _ := w
  refine lv_goto (tgt := 43) C.1 C.2.1 dJ0_getBytes_840e7_25 (by decide) ?_
  exact x_vret C w hr (fun _ => 0) rfl dJ0_getBytes_840e7_43 (Nat.le_of_ble_eq_true rfl) (Nat.le_of_ble_eq_true rfl)
set_option maxHeartbeats 4000000 in
set_option maxRecDepth 100000 in
theorem c263_J5_putStringAt_47b60 (l : Launch) (G : va_G) (cy : Nat → ClassId) (sa : String → Nat → Nat) (sv : Nat → Nat) (h0 h1 : Nat) : xM l G cy sa sv yJ5_putStringAt_47b60 (Cond.code yJ5_putStringAt_47b60 cJ5_putStringAt_47b60 3 none :: XG) { frames := 10, cells := 0, slots := 0, locals := 293 } [.ref h0, .int 0, .ref (sa "TwinindexModel" 151)] [(h0, .inr (1, [.ref h1, .int 0, .int 0, .int 0])), (h1, .inl (cy 0, 16, .inl (fun _ => 0)))] (xQv G (fun f => [(h0, .inr (1, [.ref h1, .int 0, .int 0, .int 0])), (h1, .inl (cy 0, 16, .inl (va_cpy (fun j => ([123] : List Int32).getD j 0) (fun _ => 0) 0 0 1)))])) := by
  refine xof (by decide) (Nat.le_of_ble_eq_true rfl) (fun p e s m below meth c A C w hr hn ls hl => ?_)
  have hl : lv_has ls 3 [(0, .ref h0), (1, .int 0), (2, .ref (sa "TwinindexModel" 151))] := hl
  refine lv_aload_n C.1 C.2.1 dJ5_putStringAt_47b60_0 rfl (lv_at hl 0 rfl) ?_
  refine lv_aload_n C.1 C.2.1 dJ5_putStringAt_47b60_1 rfl (lv_at hl 2 rfl) ?_
  refine x_kv C w [0] [1] rfl rfl (by decide) (by decide) (va_runU (As := [.ref (sa "TwinindexModel" 151)]) (rest := []) (xfix C) (c261_J5_inflateIfNeededFor_a7421 l G cy sa sv h0 h1 (xtr C) _) (va_cwU 1 (xhts C) (xgU (x := ⟨"java/lang/AbstractStringBuilder", "inflateIfNeededFor", "(Ljava/lang/String;)V"⟩) gw_614 gw_615 gw_616 gw_617 gw_484 gc_J5_inflateIfNeededFor_a7421) rfl rfl rfl rfl (by decide +kernel) ⟨(Nat.le_of_ble_eq_true rfl), (Nat.le_of_ble_eq_true rfl)⟩) (xPV C w [0] rfl (by decide) (ci := 1) (q0 := 0) rfl rfl) rfl rfl hl.1 rfl (lv_room (Nat.le_of_ble_eq_true rfl)) dJ5_putStringAt_47b60_2 ⟨(Nat.le_of_ble_eq_true rfl), (Nat.le_of_ble_eq_true rfl)⟩) (fun f1594 H locs w => ?_)
  have w : xW G A s [(h1, .inl (cy 0, 16, .inl (fun _ => 0))), (h0, .inr (1, [.ref h1, .int 0, .int 0, .int 0]))] H _ := w
  refine lv_aload_n C.1 C.2.1 dJ5_putStringAt_47b60_5 rfl (lv_at hl 2 rfl) ?_
  refine lv_aload_n C.1 C.2.1 dJ5_putStringAt_47b60_6 rfl (lv_at hl 0 rfl) ?_
  refine x_get (v := .ref h1) C w 1 1 0 (xin_J4 _) rfl rfl (by decide) (List.mem_cons_of_mem _ gw_481) rfl rfl dJ5_putStringAt_47b60_7 ?_
  refine lv_iload_n C.1 C.2.1 dJ5_putStringAt_47b60_10 rfl (lv_at hl 1 rfl) ?_
  refine lv_aload_n C.1 C.2.1 dJ5_putStringAt_47b60_11 rfl (lv_at hl 0 rfl) ?_
  refine x_get (v := .int 0) C w 1 1 1 (xin_J4 _) rfl rfl (by decide) (List.mem_cons_of_mem _ gw_482) rfl rfl dJ5_putStringAt_47b60_12 ?_
  refine x_kv C w [0] [1] rfl rfl (by decide) (by decide) (va_runV (As := [.ref h1, .int 0, .int 0]) (rest := []) (xfix C) (c262_J0_getBytes_840e7 l G cy sa sv h1 (xtr C) _) (cwV 3 (xhts C) (xgV (maxL := 0) (cc := ⟨#[]⟩) (ret := none) gw_620 gw_621 gw_622 gw_492 gc_J0_getBytes_840e7) rfl rfl rfl (by decide +kernel) ⟨(Nat.le_of_ble_eq_true rfl), (Nat.le_of_ble_eq_true rfl)⟩) (xPVs C w [0] rfl (by decide) (xs_s1 (xS C))) rfl rfl hl.1 rfl (lv_room (Nat.le_of_ble_eq_true rfl)) dJ5_putStringAt_47b60_15 ⟨(Nat.le_of_ble_eq_true rfl), (Nat.le_of_ble_eq_true rfl)⟩) (fun f1596 H locs w => ?_)
  have w : xW G A s [(h0, .inr (1, [.ref h1, .int 0, .int 0, .int 0])), (h1, .inl (cy 0, 16, .inl (va_cpy (fun j => ([123] : List Int32).getD j 0) (fun _ => 0) 0 0 1)))] H _ := w
  exact x_vret C w hr (fun _ => 0) rfl dJ5_putStringAt_47b60_18 (Nat.le_of_ble_eq_true rfl) (Nat.le_of_ble_eq_true rfl)
set_option maxHeartbeats 4000000 in
set_option maxRecDepth 100000 in
theorem c264_J5_append_cf1ce (l : Launch) (G : va_G) (cy : Nat → ClassId) (sa : String → Nat → Nat) (sv : Nat → Nat) (h0 h1 : Nat) : xM l G cy sa sv yJ5_append_cf1ce (Cond.code yJ5_append_cf1ce cJ5_append_cf1ce 3 (some (.object "java/lang/AbstractStringBuilder")) :: XG) { frames := 11, cells := 0, slots := 0, locals := 315 } [.ref h0, .ref (sa "TwinindexModel" 151)] [(h0, .inr (1, [.ref h1, .int 0, .int 0, .int 0])), (h1, .inl (cy 0, 16, .inl (fun _ => 0)))] (xQr G (fun f => [(h0, .inr (1, [.ref h1, .int 0, .int 0, .int 1])), (h1, .inl (cy 0, 16, .inl (va_cpy (fun j => ([123] : List Int32).getD j 0) (fun _ => 0) 0 0 1)))]) (fun f => h0)) := by
  refine xof (by decide) (Nat.le_of_ble_eq_true rfl) (fun p e s m below meth c A C w hr hn ls hl => ?_)
  have hl : lv_has ls 3 [(0, .ref h0), (1, .ref (sa "TwinindexModel" 151))] := hl
  refine lv_aload_n C.1 C.2.1 dJ5_append_cf1ce_0 rfl (lv_at hl 1 rfl) ?_
  refine lv_ifnonnull (tgt := 9) C.1 C.2.1 dJ5_append_cf1ce_1 (by decide) ?_
  refine lv_aload_n C.1 C.2.1 dJ5_append_cf1ce_9 rfl (lv_at hl 1 rfl) ?_
  refine x_ki C w [] [0, 1] rfl rfl (by decide) (by decide) (va_runV (As := []) (rest := []) (xfix C) (c260_J0_length_8abf5 l G cy sa sv (xtr C) _) (cwV 0 (xhts C) (xgV (maxL := 0) (cc := ⟨#[]⟩) (ret := none) gw_609 gw_610 gw_611 gw_492 gc_J0_length_8abf5) rfl rfl rfl (by decide +kernel) ⟨(Nat.le_of_ble_eq_true rfl), (Nat.le_of_ble_eq_true rfl)⟩) (xPVs C w [] rfl (by decide) (xs_s1 (xS C))) rfl rfl hl.1 rfl (lv_room (Nat.le_of_ble_eq_true rfl)) dJ5_append_cf1ce_10 ⟨(Nat.le_of_ble_eq_true rfl), (Nat.le_of_ble_eq_true rfl)⟩) (fun f1591 H locs w => ?_)
  have w : xW G A s [(h0, .inr (1, [.ref h1, .int 0, .int 0, .int 0])), (h1, .inl (cy 0, 16, .inl (fun _ => 0)))] H _ := w
  refine lv_istore_n (lv' := [(2, .int 1), (0, .ref h0), (1, .ref (sa "TwinindexModel" 151))]) C.1 C.2.1 dJ5_append_cf1ce_13 rfl hl (by decide) rfl (fun ls hl => ?_)
  refine lv_aload_n C.1 C.2.1 dJ5_append_cf1ce_14 rfl (lv_at hl 1 rfl) ?_
  refine lv_aload_n C.1 C.2.1 dJ5_append_cf1ce_15 rfl (lv_at hl 1 rfl) ?_
  refine x_get (v := .int 0) C w 0 1 3 (xin_J4 _) rfl rfl (by decide) (List.mem_cons_of_mem _ gw_499) rfl rfl dJ5_append_cf1ce_16 ?_
  refine lv_iload_n C.1 C.2.1 dJ5_append_cf1ce_19 rfl (lv_at hl 0 rfl) ?_
  refine lv_iadd C.1 C.2.1 dJ5_append_cf1ce_20 ?_
  refine x_is (y := 1) (by decide) ?_
  refine x_kv C w [0, 1] [] rfl rfl (by decide) (by decide) (va_runU (As := [.int 1]) (rest := []) (xfix C) (c238_J5_ensureCapacityInternal_d00df l G cy sa sv h0 h1 (xtr C) _) (va_cwU 1 (xhts C) (xgU (x := ⟨"java/lang/AbstractStringBuilder", "ensureCapacityInternal", "(I)V"⟩) gw_577 gw_578 gw_579 gw_580 gw_484 gc_J5_ensureCapacityInternal_d00df) rfl rfl rfl rfl (by decide +kernel) ⟨(Nat.le_of_ble_eq_true rfl), (Nat.le_of_ble_eq_true rfl)⟩) (xPV C w [0, 1] rfl (by decide) (ci := 1) (q0 := 0) rfl rfl) rfl rfl hl.1 rfl (lv_room (Nat.le_of_ble_eq_true rfl)) dJ5_append_cf1ce_21 ⟨(Nat.le_of_ble_eq_true rfl), (Nat.le_of_ble_eq_true rfl)⟩) (fun f1592 H locs w => ?_)
  have w : xW G A s [(h0, .inr (1, [.ref h1, .int 0, .int 0, .int 0])), (h1, .inl (cy 0, 16, .inl (fun _ => 0)))] H _ := w
  refine lv_aload_n C.1 C.2.1 dJ5_append_cf1ce_24 rfl (lv_at hl 1 rfl) ?_
  refine lv_aload_n C.1 C.2.1 dJ5_append_cf1ce_25 rfl (lv_at hl 1 rfl) ?_
  refine x_get (v := .int 0) C w 0 1 3 (xin_J4 _) rfl rfl (by decide) (List.mem_cons_of_mem _ gw_499) rfl rfl dJ5_append_cf1ce_26 ?_
  refine lv_aload_n C.1 C.2.1 dJ5_append_cf1ce_29 rfl (lv_at hl 2 rfl) ?_
  refine x_kv C w [0, 1] [] rfl rfl (by decide) (by decide) (va_runU (As := [.int 0, .ref (sa "TwinindexModel" 151)]) (rest := []) (xfix C) (c263_J5_putStringAt_47b60 l G cy sa sv h0 h1 (xtr C) _) (va_cwU 2 (xhts C) (xgU (x := ⟨"java/lang/AbstractStringBuilder", "putStringAt", "(ILjava/lang/String;)V"⟩) gw_624 gw_625 gw_626 gw_627 gw_484 gc_J5_putStringAt_47b60) rfl rfl rfl rfl (by decide +kernel) ⟨(Nat.le_of_ble_eq_true rfl), (Nat.le_of_ble_eq_true rfl)⟩) (xPV C w [0, 1] rfl (by decide) (ci := 1) (q0 := 0) rfl rfl) rfl rfl hl.1 rfl (lv_room (Nat.le_of_ble_eq_true rfl)) dJ5_append_cf1ce_30 ⟨(Nat.le_of_ble_eq_true rfl), (Nat.le_of_ble_eq_true rfl)⟩) (fun f1597 H locs w => ?_)
  have w : xW G A s [(h0, .inr (1, [.ref h1, .int 0, .int 0, .int 0])), (h1, .inl (cy 0, 16, .inl (va_cpy (fun j => ([123] : List Int32).getD j 0) (fun _ => 0) 0 0 1)))] H _ := w
  refine lv_aload_n C.1 C.2.1 dJ5_append_cf1ce_33 rfl (lv_at hl 1 rfl) ?_
  refine lv_dup C.1 C.2.1 dJ5_append_cf1ce_34 rfl ?_
  refine x_get (v := .int 0) C w 0 1 3 (xin_J4 _) rfl rfl (by decide) (List.mem_cons_of_mem _ gw_499) rfl rfl dJ5_append_cf1ce_35 ?_
  refine lv_iload_n C.1 C.2.1 dJ5_append_cf1ce_38 rfl (lv_at hl 0 rfl) ?_
  refine lv_iadd C.1 C.2.1 dJ5_append_cf1ce_39 ?_
  refine x_is (y := 1) (by decide) ?_
  refine x_put (ty := .int) (ty0 := tyJ4) C w 0 1 3 (xin_J4 _) tyJ4_ok nmJ4 rfl rfl (by decide) (List.mem_cons_of_mem _ gw_499) rfl rfl (by decide +kernel) rfl rfl (Nat.le_of_ble_eq_true rfl) dJ5_append_cf1ce_40 (fun H locs w => ?_)
  have w : xW G A s [(h0, .inr (1, [.ref h1, .int 0, .int 0, .int 1])), (h1, .inl (cy 0, 16, .inl (va_cpy (fun j => ([123] : List Int32).getD j 0) (fun _ => 0) 0 0 1)))] H _ := w
  refine lv_aload_n C.1 C.2.1 dJ5_append_cf1ce_43 rfl (lv_at hl 1 rfl) ?_
  exact x_aret C w hr (Or.inl ⟨_, rfl⟩) (fun _ => 0) rfl rfl dJ5_append_cf1ce_44 (Nat.le_of_ble_eq_true rfl) (Nat.le_of_ble_eq_true rfl)
set_option maxHeartbeats 4000000 in
set_option maxRecDepth 100000 in
theorem c265_J4_append_15ec4 (l : Launch) (G : va_G) (cy : Nat → ClassId) (sa : String → Nat → Nat) (sv : Nat → Nat) (h0 h1 : Nat) : xM l G cy sa sv yJ4_append_15ec4 (Cond.code yJ4_append_15ec4 cJ4_append_15ec4 2 (some (.object "java/lang/StringBuilder")) :: XG) { frames := 12, cells := 0, slots := 0, locals := 337 } [.ref h0, .ref (sa "TwinindexModel" 151)] [(h0, .inr (1, [.ref h1, .int 0, .int 0, .int 0])), (h1, .inl (cy 0, 16, .inl (fun _ => 0)))] (xQr G (fun f => [(h0, .inr (1, [.ref h1, .int 0, .int 0, .int 1])), (h1, .inl (cy 0, 16, .inl (va_cpy (fun j => ([123] : List Int32).getD j 0) (fun _ => 0) 0 0 1)))]) (fun f => h0)) := by
  refine xof (by decide) (Nat.le_of_ble_eq_true rfl) (fun p e s m below meth c A C w hr hn ls hl => ?_)
  have hl : lv_has ls 2 [(0, .ref h0), (1, .ref (sa "TwinindexModel" 151))] := hl
  refine lv_aload_n C.1 C.2.1 dJ4_append_15ec4_0 rfl (lv_at hl 0 rfl) ?_
  refine lv_aload_n C.1 C.2.1 dJ4_append_15ec4_1 rfl (lv_at hl 1 rfl) ?_
  refine x_kr C w [0, 1] [] rfl rfl (by decide) (by decide) (va_runSU ((xK C).1 1 _ rfl).2 (As := [.ref (sa "TwinindexModel" 151)]) (rest := []) (xfix C) (c264_J5_append_cf1ce l G cy sa sv h0 h1 (xtr C) _) (va_cwSU 1 (xhts C) (xgSU gw_629 gw_630 gw_503 gw_631 gw_484 gc_J5_append_cf1ce) rfl rfl rfl (by decide +kernel) ⟨(Nat.le_of_ble_eq_true rfl), (Nat.le_of_ble_eq_true rfl)⟩) (xPV C w [0, 1] rfl (by decide) (ci := 1) (q0 := 0) rfl rfl) rfl rfl hl.1 rfl (lv_room (Nat.le_of_ble_eq_true rfl)) dJ4_append_15ec4_2 ⟨(Nat.le_of_ble_eq_true rfl), (Nat.le_of_ble_eq_true rfl)⟩) (fun f1598 H locs w => ?_)
  have w : xW G A s [(h0, .inr (1, [.ref h1, .int 0, .int 0, .int 1])), (h1, .inl (cy 0, 16, .inl (va_cpy (fun j => ([123] : List Int32).getD j 0) (fun _ => 0) 0 0 1)))] H _ := w
  refine lv_pop C.1 C.2.1 dJ4_append_15ec4_5 rfl ?_
  refine lv_aload_n C.1 C.2.1 dJ4_append_15ec4_6 rfl (lv_at hl 0 rfl) ?_
  exact x_aret C w hr (Or.inl ⟨_, rfl⟩) (fun _ => 0) rfl rfl dJ4_append_15ec4_7 (Nat.le_of_ble_eq_true rfl) (Nat.le_of_ble_eq_true rfl)
set_option maxHeartbeats 4000000 in
set_option maxRecDepth 100000 in
theorem c266_X6_toldOf (l : Launch) (G : va_G) (cy : Nat → ClassId) (sa : String → Nat → Nat) (sv : Nat → Nat) (h0 : Nat) : xM l G cy sa sv yX6_toldOf (Cond.code yX6_toldOf cX6_toldOf 7 (some (.object "java/lang/String")) :: XG) { frames := 10, cells := 1, slots := 0, locals := 293 } [.ref h0, .ref (sa "TwinindexModel" 153)] [(h0, .inr (3, [.int 0, .ref (sv 0), .int 0]))] (xQr G (fun f => [(h0, .inr (3, [.int 0, .ref (sv 0), .int 0]))]) (fun f => (sa "TwinindexModel" 122))) := by
  refine xof (by decide) (Nat.le_of_ble_eq_true rfl) (fun p e s m below meth c A C w hr hn ls hl => ?_)
  have hl : lv_has ls 7 [(0, .ref h0), (1, .ref (sa "TwinindexModel" 153))] := hl
  refine x_ldcS C (tx := "") (List.mem_of_getElem? (i := 11) rfl) dX6_toldOf_0 ?_
  refine lv_astore_n (lv' := [(2, .ref (sa "TwinindexModel" 122)), (0, .ref h0), (1, .ref (sa "TwinindexModel" 153))]) C.1 C.2.1 dX6_toldOf_2 rfl hl (by decide) rfl (fun ls hl => ?_)
  refine lv_aload_n C.1 C.2.1 dX6_toldOf_3 rfl (lv_at hl 1 rfl) ?_
  refine x_kr C w [0] [] rfl rfl (by decide) (by decide) (va_runS (As := [.ref h0]) (rest := []) (xfix C) (c115_X6_keysOf l G cy sa sv h0 (xtr C) _) (va_cwS 1 (xhts C) (xgS gw_330 gw_331 gw_58 gc_X6_keysOf) rfl rfl rfl (by decide +kernel) ⟨(Nat.le_of_ble_eq_true rfl), (Nat.le_of_ble_eq_true rfl)⟩) (xPS C w [0] rfl (by decide)) rfl rfl hl.1 rfl (lv_room (Nat.le_of_ble_eq_true rfl)) dX6_toldOf_4 ⟨(Nat.le_of_ble_eq_true rfl), (Nat.le_of_ble_eq_true rfl)⟩) (fun f1607 H locs w => ?_)
  have w : xW G A s [(h0, .inr (3, [.int 0, .ref (sv 0), .int 0])), ((f1607 0), .inl (cy 1, 0, .inl (fun _ => 0)))] H _ := w
  refine W.widen (k := 1) (n := 0) (Nat.le_of_ble_eq_true rfl) (Nat.le_of_ble_eq_true rfl) ?_
  refine lv_astore_n (lv' := [(3, .ref (f1607 0)), (2, .ref (sa "TwinindexModel" 122)), (0, .ref h0), (1, .ref (sa "TwinindexModel" 153))]) C.1 C.2.1 dX6_toldOf_7 rfl hl (by decide) rfl (fun ls hl => ?_)
  refine lv_aload_n C.1 C.2.1 dX6_toldOf_8 rfl (lv_at hl 0 rfl) ?_
  refine x_alen (v := 0) C w 1 1 rfl rfl (by rfl) dX6_toldOf_9 ?_
  refine lv_istore (lv' := [(4, .int 0), (3, .ref (f1607 0)), (2, .ref (sa "TwinindexModel" 122)), (0, .ref h0), (1, .ref (sa "TwinindexModel" 153))]) C.1 C.2.1 dX6_toldOf_10 hl (by decide) rfl (fun ls hl => ?_)
  refine lv_iconst (v := 0) C.1 C.2.1 dX6_toldOf_12 (by decide) ?_
  refine lv_istore (lv' := [(5, .int 0), (4, .int 0), (3, .ref (f1607 0)), (2, .ref (sa "TwinindexModel" 122)), (0, .ref h0), (1, .ref (sa "TwinindexModel" 153))]) C.1 C.2.1 dX6_toldOf_13 hl (by decide) rfl (fun ls hl => ?_)
  refine lv_iload C.1 C.2.1 dX6_toldOf_15 (lv_at hl 0 rfl) ?_
  refine lv_iload C.1 C.2.1 dX6_toldOf_17 (lv_at hl 1 rfl) ?_
  refine lv_icmp_ge (tgt := 84) C.1 C.2.1 dX6_toldOf_19 (by decide) (fun _ => ?_) (fun c9 => absurd (by decide) c9)
  refine lv_aload_n C.1 C.2.1 dX6_toldOf_84 rfl (lv_at hl 3 rfl) ?_
  have w := w.sub (ws' := [(h0, .inr (3, [.int 0, .ref (sv 0), .int 0]))]) [0] (by decide) rfl rfl
  exact x_aret C w hr (Or.inl ⟨_, rfl⟩) (fun _ => 0) rfl rfl dX6_toldOf_85 (Nat.le_of_ble_eq_true rfl) (Nat.le_of_ble_eq_true rfl)
set_option maxHeartbeats 4000000 in
set_option maxRecDepth 100000 in
theorem c267_J0_coder_7d493 (l : Launch) (G : va_G) (cy : Nat → ClassId) (sa : String → Nat → Nat) (sv : Nat → Nat) : xM l G cy sa sv yJ0_coder_7d493 (Cond.code yJ0_coder_7d493 cJ0_coder_7d493 1 (some .byte) :: XG) { frames := 8, cells := 0, slots := 0, locals := 250 } [.ref (sa "TwinindexModel" 122)] [] (xQi G (fun f => []) 0) := by
  refine xof (by decide) (Nat.le_of_ble_eq_true rfl) (fun p e s m below meth c A C w hr hn ls hl => ?_)
  have hl : lv_has ls 1 [(0, .ref (sa "TwinindexModel" 122))] := hl
  refine x_gets C w (xs_cs (xS C)) (List.mem_cons_of_mem _ gw_557) rfl dJ0_coder_7d493_0 ?_
  refine lv_if_eq (tgt := 13) C.1 C.2.1 dJ0_coder_7d493_3 (by decide) (fun c9 => absurd c9 (by decide)) (fun _ => ?_)
  refine lv_aload_n C.1 C.2.1 dJ0_coder_7d493_6 rfl (lv_at hl 0 rfl) ?_
  refine x_getk C w (xs_s0 (xS C)).2.1 (List.mem_cons_of_mem _ gw_514) rfl dJ0_coder_7d493_7 ?_
  refine lv_goto (tgt := 14) C.1 C.2.1 dJ0_coder_7d493_10 (by decide) ?_
  exact x_zret C w hr rfl (fun _ => 0) rfl rfl dJ0_coder_7d493_14 (Nat.le_of_ble_eq_true rfl) (Nat.le_of_ble_eq_true rfl)
set_option maxHeartbeats 4000000 in
set_option maxRecDepth 100000 in
theorem c268_J0_length_8abf5 (l : Launch) (G : va_G) (cy : Nat → ClassId) (sa : String → Nat → Nat) (sv : Nat → Nat) : xM l G cy sa sv yJ0_length_8abf5 (Cond.code yJ0_length_8abf5 cJ0_length_8abf5 1 (some .int) :: XG) { frames := 9, cells := 0, slots := 0, locals := 270 } [.ref (sa "TwinindexModel" 122)] [] (xQi G (fun f => []) 0) := by
  refine xof (by decide) (Nat.le_of_ble_eq_true rfl) (fun p e s m below meth c A C w hr hn ls hl => ?_)
  have hl : lv_has ls 1 [(0, .ref (sa "TwinindexModel" 122))] := hl
  refine lv_aload_n C.1 C.2.1 dJ0_length_8abf5_0 rfl (lv_at hl 0 rfl) ?_
  refine x_getk C w (xs_s0 (xS C)).2.2.1 (List.mem_cons_of_mem _ gw_530) rfl dJ0_length_8abf5_1 ?_
  refine x_tlen (v := 0) C w (xs_s0 (xS C)).2.2.2 (by decide) dJ0_length_8abf5_4 ?_
  refine lv_aload_n C.1 C.2.1 dJ0_length_8abf5_5 rfl (lv_at hl 0 rfl) ?_
  refine x_ki C w [] [] rfl rfl (by decide) (by decide) (va_runV (As := []) (rest := [.int 0]) (xfix C) (c267_J0_coder_7d493 l G cy sa sv (xtr C) _) (cwV 0 (xhts C) (xgV (maxL := 0) (cc := ⟨#[]⟩) (ret := none) gw_605 gw_606 gw_607 gw_492 gc_J0_coder_7d493) rfl rfl rfl (by decide +kernel) ⟨(Nat.le_of_ble_eq_true rfl), (Nat.le_of_ble_eq_true rfl)⟩) (xPVs C w [] rfl (by decide) (xs_s0 (xS C))) rfl rfl hl.1 rfl (lv_room (Nat.le_of_ble_eq_true rfl)) dJ0_length_8abf5_6 ⟨(Nat.le_of_ble_eq_true rfl), (Nat.le_of_ble_eq_true rfl)⟩) (fun f1609 H locs w => ?_)
  have w : xW G A s [] H _ := w
  refine lv_ishr C.1 C.2.1 dJ0_length_8abf5_9 ?_
  refine x_is (y := 0) (by decide) ?_
  exact x_iret C w hr (fun _ => 0) rfl rfl dJ0_length_8abf5_10 (Nat.le_of_ble_eq_true rfl) (Nat.le_of_ble_eq_true rfl)
set_option maxHeartbeats 4000000 in
set_option maxRecDepth 100000 in
theorem c269_J5_ensureCapacityInternal_d00df (l : Launch) (G : va_G) (cy : Nat → ClassId) (sa : String → Nat → Nat) (sv : Nat → Nat) (h0 h1 : Nat) : xM l G cy sa sv yJ5_ensureCapacityInternal_d00df (Cond.code yJ5_ensureCapacityInternal_d00df cJ5_ensureCapacityInternal_d00df 3 none :: XG) { frames := 8, cells := 0, slots := 0, locals := 250 } [.ref h0, .int 1] [(h0, .inr (1, [.ref h1, .int 0, .int 0, .int 1])), (h1, .inl (cy 0, 16, .inl (va_cpy (fun j => ([123] : List Int32).getD j 0) (fun _ => 0) 0 0 1)))] (xQv G (fun f => [(h0, .inr (1, [.ref h1, .int 0, .int 0, .int 1])), (h1, .inl (cy 0, 16, .inl (va_cpy (fun j => ([123] : List Int32).getD j 0) (fun _ => 0) 0 0 1)))])) := by
  refine xof (by decide) (Nat.le_of_ble_eq_true rfl) (fun p e s m below meth c A C w hr hn ls hl => ?_)
  have hl : lv_has ls 3 [(0, .ref h0), (1, .int 1)] := hl
  refine lv_aload_n C.1 C.2.1 dJ5_ensureCapacityInternal_d00df_0 rfl (lv_at hl 0 rfl) ?_
  refine x_get (v := .ref h1) C w 0 1 0 (xin_J4 _) rfl rfl (by decide) (List.mem_cons_of_mem _ gw_481) rfl rfl dJ5_ensureCapacityInternal_d00df_1 ?_
  refine x_alen (v := 16) C w 1 0 rfl rfl (by rfl) dJ5_ensureCapacityInternal_d00df_4 ?_
  refine lv_aload_n C.1 C.2.1 dJ5_ensureCapacityInternal_d00df_5 rfl (lv_at hl 0 rfl) ?_
  refine x_get (v := .int 0) C w 0 1 1 (xin_J4 _) rfl rfl (by decide) (List.mem_cons_of_mem _ gw_482) rfl rfl dJ5_ensureCapacityInternal_d00df_6 ?_
  refine lv_ishr C.1 C.2.1 dJ5_ensureCapacityInternal_d00df_9 ?_
  refine x_is (y := 16) (by decide) ?_
  refine lv_istore_n (lv' := [(2, .int 16), (0, .ref h0), (1, .int 1)]) C.1 C.2.1 dJ5_ensureCapacityInternal_d00df_10 rfl hl (by decide) rfl (fun ls hl => ?_)
  refine lv_iload_n C.1 C.2.1 dJ5_ensureCapacityInternal_d00df_11 rfl (lv_at hl 2 rfl) ?_
  refine lv_iload_n C.1 C.2.1 dJ5_ensureCapacityInternal_d00df_12 rfl (lv_at hl 0 rfl) ?_
  refine lv_isub C.1 C.2.1 dJ5_ensureCapacityInternal_d00df_13 ?_
  refine x_is (y := (-15)) (by decide) ?_
  refine lv_if_le (tgt := 38) C.1 C.2.1 dJ5_ensureCapacityInternal_d00df_14 (by decide) (fun _ => ?_) (fun c9 => absurd (by decide) c9)
  exact x_vret C w hr (fun _ => 0) rfl dJ5_ensureCapacityInternal_d00df_38 (Nat.le_of_ble_eq_true rfl) (Nat.le_of_ble_eq_true rfl)
