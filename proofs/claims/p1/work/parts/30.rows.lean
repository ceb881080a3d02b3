set_option maxHeartbeats 4000000 in
set_option maxRecDepth 100000 in
theorem c409_X4_rangeUse (l : Launch) (G : va_G) (cy : Nat → ClassId) (sa : String → Nat → Nat) (sv : Nat → Nat) (h0 : Nat) (v0 v1 : Int32) (p0 : ¬ v0 ≤ v1) : xX l G cy sa sv yX4_rangeUse (Cond.code yX4_rangeUse cX4_rangeUse 3 (some (.object "java/lang/String")) :: XG) { frames := 9, cells := 1, slots := 6, locals := 271 } [.ref h0, .int v0, .int v1] [] (fun f => []) "java/lang/IllegalArgumentException" := by
  refine xofX (by decide) (Nat.le_of_ble_eq_true rfl) (fun p e s m below meth c A C w hno ls hl => ?_)
  have hl : lv_has ls 3 [(0, .ref h0), (1, .int v0), (2, .int v1)] := hl
  refine lv_iload_n C.1 C.2.1 dX4_rangeUse_0 rfl (lv_at hl 1 rfl) ?_
  refine lv_iload_n C.1 C.2.1 dX4_rangeUse_1 rfl (lv_at hl 2 rfl) ?_
  refine x_kx C w [] [] rfl rfl (by decide) (by decide) (vx_runS (As := [.int v0, .int v1]) (rest := []) (xfix C) (c306_X4_checkRange l G cy sa sv v0 v1 p0 (xtr C) _) (va_cwS 2 (xhts C) (xgS gw_390 gw_391 gw_2 gc_X4_checkRange) rfl rfl rfl (by decide +kernel) ⟨(Nat.le_of_ble_eq_true rfl), (Nat.le_of_ble_eq_true rfl)⟩) (xPS C w [] rfl (by decide)) rfl rfl hl.1 rfl (lv_room (Nat.le_of_ble_eq_true rfl)) dX4_rangeUse_2 ⟨(Nat.le_of_ble_eq_true rfl), (Nat.le_of_ble_eq_true rfl)⟩) (fun f2747 H locs ce q9 w hce hcv hcl => ?_)
  have w : xW G A s [] H _ := w
  refine vx_widen (k := 1) (n := 6) (Nat.le_of_ble_eq_true rfl) (Nat.le_of_ble_eq_true rfl) ?_
  exact x_out C w hno (fun _ => 0) rfl hce hcv hcl (Nat.le_of_ble_eq_true rfl) (Nat.le_of_ble_eq_true rfl)
set_option maxHeartbeats 4000000 in
set_option maxRecDepth 100000 in
theorem c410_L_rangeUse (l : Launch) (G : va_G) (cy : Nat → ClassId) (sa : String → Nat → Nat) (sv : Nat → Nat) (h0 h1 h2 h3 h4 h5 h6 h7 h8 : Nat) (v0 v1 : Int32) (p0 : ¬ v0 ≤ v1) : xM l G cy sa sv yL_rangeUse (Cond.codeWith yL_rangeUse cL_rangeUse 5 (some .int) [(0, 10, 13, 19)] :: XG) { frames := 10, cells := 1, slots := 6, locals := 293 } [.ref h0, .int v0, .int v1, .ref h1] [(h0, .inr (8, [.ref h2, .ref h3, .ref h4, .ref h5, .ref h6, .int 0, .ref h7, .ref h8]))] (xQi G (fun f => [(h0, .inr (8, [.ref h2, .ref h3, .ref h4, .ref h5, .ref h6, .int 0, .ref h7, .ref h8]))]) 1) := by
  refine xofH (by decide) (Nat.le_of_ble_eq_true rfl) (fun p e s m below meth c A C w hr hn hT ls hl => ?_)
  have hl : lv_has ls 5 [(0, .ref h0), (1, .int v0), (2, .int v1), (3, .ref h1)] := hl
  refine lv_aload_n C.1 C.2.1 dL_rangeUse_0 rfl (lv_at hl 3 rfl) ?_
  refine lv_aload_n C.1 C.2.1 dL_rangeUse_1 rfl (lv_at hl 0 rfl) ?_
  refine lv_iload_n C.1 C.2.1 dL_rangeUse_2 rfl (lv_at hl 1 rfl) ?_
  refine lv_iload_n C.1 C.2.1 dL_rangeUse_3 rfl (lv_at hl 2 rfl) ?_
  refine x_kx C w [] [0] rfl rfl (by decide) (by decide) (vx_runV (As := [.int v0, .int v1]) (rest := [.ref h1]) (xfix C) (c409_X4_rangeUse l G cy sa sv h0 v0 v1 p0 (xtr C) _) (cwV 2 (xhts C) (xgV (maxL := 0) (cc := ⟨#[]⟩) (ret := none) gw_766 gw_767 gw_768 gw_2 gc_X4_rangeUse) rfl rfl rfl (by decide +kernel) ⟨(Nat.le_of_ble_eq_true rfl), (Nat.le_of_ble_eq_true rfl)⟩) (xPV C w [] rfl (by decide) (ci := 8) (q0 := 0) rfl rfl) rfl rfl hl.1 rfl (lv_room (Nat.le_of_ble_eq_true rfl)) dL_rangeUse_4 ⟨(Nat.le_of_ble_eq_true rfl), (Nat.le_of_ble_eq_true rfl)⟩) (fun f2748 H locs ce q9 w hce hcv hcl => ?_)
  have w : xW G A s [(h0, .inr (8, [.ref h2, .ref h3, .ref h4, .ref h5, .ref h6, .int 0, .ref h7, .ref h8]))] H _ := w
  refine vx_widen (k := 1) (n := 6) (Nat.le_of_ble_eq_true rfl) (Nat.le_of_ble_eq_true rfl) ?_
  refine vx_catch (xown C) [] ⟨0, 10, 13, 19⟩ [] hT (fun z hz => nomatch hz) (by decide) (by decide) (xhts C _ (List.mem_cons_of_mem _ gw_104)) (va_any rfl (xs_c1 (xS C))) hce hcv hcl ?_
  refine lv_astore (lv' := [(4, .ref q9), (0, .ref h0), (1, .int v0), (2, .int v1), (3, .ref h1)]) C.1 C.2.1 dL_rangeUse_13 hl (by decide) rfl (fun ls hl => ?_)
  refine lv_iconst (v := 1) C.1 C.2.1 dL_rangeUse_15 (by decide) ?_
  exact x_iret C w hr (fun _ => 0) rfl rfl dL_rangeUse_16 (Nat.le_of_ble_eq_true rfl) (Nat.le_of_ble_eq_true rfl)
set_option maxHeartbeats 4000000 in
set_option maxRecDepth 100000 in
theorem c411_X6_rangeUse (l : Launch) (G : va_G) (cy : Nat → ClassId) (sa : String → Nat → Nat) (sv : Nat → Nat) (h0 h1 h2 h3 h4 h5 h6 h7 : Nat) (v0 v1 : Int32) (p0 : ¬ v0 ≤ v1) : xM l G cy sa sv yX6_rangeUse (Cond.code yX6_rangeUse cX6_rangeUse 3 (some (.object "java/lang/String")) :: XG) { frames := 9, cells := 0, slots := 0, locals := 272 } [.ref h0, .int v0, .int v1] [(h0, .inr (10, [.ref h1, .ref h2, .ref h3, .ref h4, .ref h5, .ref h6, .ref h7, .int 0, .int 0]))] (xQr G (fun f => [(h0, .inr (10, [.ref h1, .ref h2, .ref h3, .ref h4, .ref h5, .ref h6, .ref h7, .int 0, .int 1]))]) (fun f => (sa "TwinindexModel" 122))) := by
  refine xof (by decide) (Nat.le_of_ble_eq_true rfl) (fun p e s m below meth c A C w hr hn ls hl => ?_)
  have hl : lv_has ls 3 [(0, .ref h0), (1, .int v0), (2, .int v1)] := hl
  refine lv_aload_n C.1 C.2.1 dX6_rangeUse_0 rfl (lv_at hl 0 rfl) ?_
  refine lv_iload_n C.1 C.2.1 dX6_rangeUse_1 rfl (lv_at hl 1 rfl) ?_
  refine lv_iload_n C.1 C.2.1 dX6_rangeUse_2 rfl (lv_at hl 2 rfl) ?_
  refine lv_icmp_le (tgt := 10) C.1 C.2.1 dX6_rangeUse_3 (by decide) (fun c9 => absurd c9 p0) (fun _ => ?_)
  refine lv_iconst (v := 1) C.1 C.2.1 dX6_rangeUse_6 (by decide) ?_
  refine lv_goto (tgt := 11) C.1 C.2.1 dX6_rangeUse_7 (by decide) ?_
  refine lv_iconst (v := 1) C.1 C.2.1 dX6_rangeUse_11 (by decide) ?_
  refine x_ki C w [0] [] rfl rfl (by decide) (by decide) (va_runV (As := [.int 1, .int 1]) (rest := []) (xfix C) (c17_X6_start l G cy sa sv h0 h1 h2 h3 h4 h5 h6 h7 (xtr C) _) (cwV 2 (xhts C) (xgV (maxL := 0) (cc := ⟨#[]⟩) (ret := none) gw_114 gw_115 gw_116 gw_58 gc_X6_start) rfl rfl rfl (by decide +kernel) ⟨(Nat.le_of_ble_eq_true rfl), (Nat.le_of_ble_eq_true rfl)⟩) (xPV C w [0] rfl (by decide) (ci := 10) (q0 := 0) rfl rfl) rfl rfl hl.1 rfl (lv_room (Nat.le_of_ble_eq_true rfl)) dX6_rangeUse_12 ⟨(Nat.le_of_ble_eq_true rfl), (Nat.le_of_ble_eq_true rfl)⟩) (fun f2751 H locs w => ?_)
  have w : xW G A s [(h0, .inr (10, [.ref h1, .ref h2, .ref h3, .ref h4, .ref h5, .ref h6, .ref h7, .int 0, .int 1]))] H _ := w
  refine lv_if_eq (tgt := 23) C.1 C.2.1 dX6_rangeUse_15 (by decide) (fun c9 => absurd c9 (by decide)) (fun _ => ?_)
  refine x_ldcS C (tx := "") (List.mem_of_getElem? (i := 11) rfl) dX6_rangeUse_18 ?_
  refine lv_goto (tgt := 32) C.1 C.2.1 dX6_rangeUse_20 (by decide) ?_
  exact x_aret C w hr (Or.inl ⟨_, rfl⟩) (fun _ => 0) rfl rfl dX6_rangeUse_32 (Nat.le_of_ble_eq_true rfl) (Nat.le_of_ble_eq_true rfl)
set_option maxHeartbeats 4000000 in
set_option maxRecDepth 100000 in
theorem c412_X4_rangeAge (l : Launch) (G : va_G) (cy : Nat → ClassId) (sa : String → Nat → Nat) (sv : Nat → Nat) (h0 h1 h2 h3 h4 h5 h6 h7 h8 h9 : Nat) (v0 v1 : Int32) (p0 : v0 ≤ v1) : xX l G cy sa sv yX4_rangeAge (Cond.code yX4_rangeAge cX4_rangeAge 4 (some .int) :: XG) { frames := 10, cells := 1, slots := 6, locals := 294 } [.ref h0, .int v0, .int v1, .int 0] [(h0, .inr (8, [.ref h3, .ref h2, .ref h4, .ref h5, .ref h6, .int 0, .ref h1, .ref h7])), (h1, .inr (6, [.ref h8, .int 0])), (h2, .inr (6, [.ref h9, .int 0]))] (fun f => [(h0, .inr (8, [.ref h3, .ref h2, .ref h4, .ref h5, .ref h6, .int 0, .ref h1, .ref h7])), (h1, .inr (6, [.ref h8, .int 0])), (h2, .inr (6, [.ref h9, .int 0]))]) "java/lang/IllegalStateException" := by
  refine xofX (by decide) (Nat.le_of_ble_eq_true rfl) (fun p e s m below meth c A C w hno ls hl => ?_)
  have hl : lv_has ls 4 [(0, .ref h0), (1, .int v0), (2, .int v1), (3, .int 0)] := hl
  refine lv_iload_n C.1 C.2.1 dX4_rangeAge_0 rfl (lv_at hl 1 rfl) ?_
  refine lv_iload_n C.1 C.2.1 dX4_rangeAge_1 rfl (lv_at hl 2 rfl) ?_
  refine x_kv C w [] [0, 1, 2] rfl rfl (by decide) (by decide) (va_runS (As := [.int v0, .int v1]) (rest := []) (xfix C) (c302_X4_checkRange l G cy sa sv v0 v1 p0 (xtr C) _) (va_cwS 2 (xhts C) (xgS gw_390 gw_391 gw_2 gc_X4_checkRange) rfl rfl rfl (by decide +kernel) ⟨(Nat.le_of_ble_eq_true rfl), (Nat.le_of_ble_eq_true rfl)⟩) (xPS C w [] rfl (by decide)) rfl rfl hl.1 rfl (lv_room (Nat.le_of_ble_eq_true rfl)) dX4_rangeAge_2 ⟨(Nat.le_of_ble_eq_true rfl), (Nat.le_of_ble_eq_true rfl)⟩) (fun f2762 H locs w => ?_)
  have w : xW G A s [(h0, .inr (8, [.ref h3, .ref h2, .ref h4, .ref h5, .ref h6, .int 0, .ref h1, .ref h7])), (h1, .inr (6, [.ref h8, .int 0])), (h2, .inr (6, [.ref h9, .int 0]))] H _ := w
  refine lv_aload_n C.1 C.2.1 dX4_rangeAge_5 rfl (lv_at hl 0 rfl) ?_
  refine lv_iload_n C.1 C.2.1 dX4_rangeAge_6 rfl (lv_at hl 1 rfl) ?_
  refine lv_iload_n C.1 C.2.1 dX4_rangeAge_7 rfl (lv_at hl 2 rfl) ?_
  refine x_kv C w [0, 1, 2] [] rfl rfl (by decide) (by decide) (va_runV (As := [.int v0, .int v1]) (rest := []) (xfix C) (c404_X4_chooseByUse l G cy sa sv h0 h1 h2 h3 h4 h5 h6 h7 h8 h9 v0 v1 (xtr C) _) (cwV 2 (xhts C) (xgV (maxL := 0) (cc := ⟨#[]⟩) (ret := none) gw_762 gw_763 gw_764 gw_2 gc_X4_chooseByUse) rfl rfl rfl (by decide +kernel) ⟨(Nat.le_of_ble_eq_true rfl), (Nat.le_of_ble_eq_true rfl)⟩) (xPV C w [0, 1, 2] rfl (by decide) (ci := 8) (q0 := 0) rfl rfl) rfl rfl hl.1 rfl (lv_room (Nat.le_of_ble_eq_true rfl)) dX4_rangeAge_8 ⟨(Nat.le_of_ble_eq_true rfl), (Nat.le_of_ble_eq_true rfl)⟩) (fun f2765 H locs w => ?_)
  have w : xW G A s [(h0, .inr (8, [.ref h3, .ref h2, .ref h4, .ref h5, .ref h6, .int 0, .ref h1, .ref h7])), (h1, .inr (6, [.ref h8, .int 0])), (h2, .inr (6, [.ref h9, .int 0]))] H _ := w
  refine lv_aload_n C.1 C.2.1 dX4_rangeAge_11 rfl (lv_at hl 0 rfl) ?_
  refine x_get (v := .ref h1) C w 0 8 6 (xin_X4 _) rfl rfl (by decide) (List.mem_cons_of_mem _ gw_51) rfl rfl dX4_rangeAge_12 ?_
  refine x_ki C w [1] [0, 2] rfl rfl (by decide) (by decide) (va_runV (As := []) (rest := []) (xfix C) (c21_X2_count l G cy sa sv h1 h8 (xtr C) _) (cwV 0 (xhts C) (xgV (maxL := 0) (cc := ⟨#[]⟩) (ret := none) gw_316 gw_127 gw_128 gw_11 gc_X2_count) rfl rfl rfl (by decide +kernel) ⟨(Nat.le_of_ble_eq_true rfl), (Nat.le_of_ble_eq_true rfl)⟩) (xPV C w [1] rfl (by decide) (ci := 6) (q0 := 1) rfl rfl) rfl rfl hl.1 rfl (lv_room (Nat.le_of_ble_eq_true rfl)) dX4_rangeAge_15 ⟨(Nat.le_of_ble_eq_true rfl), (Nat.le_of_ble_eq_true rfl)⟩) (fun f2766 H locs w => ?_)
  have w : xW G A s [(h0, .inr (8, [.ref h3, .ref h2, .ref h4, .ref h5, .ref h6, .int 0, .ref h1, .ref h7])), (h2, .inr (6, [.ref h9, .int 0])), (h1, .inr (6, [.ref h8, .int 0]))] H _ := w
  refine lv_if_ne (tgt := 31) C.1 C.2.1 dX4_rangeAge_18 (by decide) (fun c9 => absurd (by decide) c9) (fun _ => ?_)
  have w := w.sub (ws' := [(h0, .inr (8, [.ref h3, .ref h2, .ref h4, .ref h5, .ref h6, .int 0, .ref h1, .ref h7])), (h1, .inr (6, [.ref h8, .int 0])), (h2, .inr (6, [.ref h9, .int 0]))]) [0, 2, 1] (by decide) rfl rfl
  exact x_thr C w hno hl.1 (by decide) (List.mem_cons_of_mem _ gw_397) (List.mem_cons_of_mem _ gw_398) (tx := "there is no such key") (List.mem_of_getElem? (i := 1) rfl) (xat_161 C (fun w h => List.mem_cons_of_mem _ h)) xatg_161 dX4_rangeAge_21 dX4_rangeAge_24 dX4_rangeAge_25 dX4_rangeAge_27 dX4_rangeAge_30 (Nat.le_of_ble_eq_true rfl) (Nat.le_of_ble_eq_true rfl) (Nat.le_of_ble_eq_true rfl) (Nat.le_of_ble_eq_true rfl) rfl rfl (fun _ => 0) rfl
set_option maxHeartbeats 4000000 in
set_option maxRecDepth 100000 in
theorem c413_L_rangeAge (l : Launch) (G : va_G) (cy : Nat → ClassId) (sa : String → Nat → Nat) (sv : Nat → Nat) (h0 h1 h2 h3 h4 h5 h6 h7 h8 h9 h10 : Nat) (v0 v1 : Int32) (p0 : v0 ≤ v1) : xM l G cy sa sv yL_rangeAge (Cond.codeWith yL_rangeAge cL_rangeAge 6 (some .int) [(0, 13, 16, 19), (0, 13, 20, 21)] :: XG) { frames := 11, cells := 1, slots := 6, locals := 317 } [.ref h0, .int v0, .int v1, .int 0, .ref h1] [(h0, .inr (8, [.ref h4, .ref h3, .ref h5, .ref h6, .ref h7, .int 0, .ref h2, .ref h8])), (h2, .inr (6, [.ref h9, .int 0])), (h3, .inr (6, [.ref h10, .int 0]))] (xQi G (fun f => [(h0, .inr (8, [.ref h4, .ref h3, .ref h5, .ref h6, .ref h7, .int 0, .ref h2, .ref h8])), (h2, .inr (6, [.ref h9, .int 0])), (h3, .inr (6, [.ref h10, .int 0]))]) 2) := by
  refine xofH (by decide) (Nat.le_of_ble_eq_true rfl) (fun p e s m below meth c A C w hr hn hT ls hl => ?_)
  have hl : lv_has ls 6 [(0, .ref h0), (1, .int v0), (2, .int v1), (3, .int 0), (4, .ref h1)] := hl
  refine lv_aload C.1 C.2.1 dL_rangeAge_0 (lv_at hl 4 rfl) ?_
  refine lv_aload_n C.1 C.2.1 dL_rangeAge_2 rfl (lv_at hl 0 rfl) ?_
  refine lv_iload_n C.1 C.2.1 dL_rangeAge_3 rfl (lv_at hl 1 rfl) ?_
  refine lv_iload_n C.1 C.2.1 dL_rangeAge_4 rfl (lv_at hl 2 rfl) ?_
  refine lv_iload_n C.1 C.2.1 dL_rangeAge_5 rfl (lv_at hl 3 rfl) ?_
  refine x_kx C w [0, 1, 2] [] rfl rfl (by decide) (by decide) (vx_runV (As := [.int v0, .int v1, .int 0]) (rest := [.ref h1]) (xfix C) (c412_X4_rangeAge l G cy sa sv h0 h2 h3 h4 h5 h6 h7 h8 h9 h10 v0 v1 p0 (xtr C) _) (cwV 3 (xhts C) (xgV (maxL := 0) (cc := ⟨#[]⟩) (ret := none) gw_780 gw_781 gw_782 gw_2 gc_X4_rangeAge) rfl rfl rfl (by decide +kernel) ⟨(Nat.le_of_ble_eq_true rfl), (Nat.le_of_ble_eq_true rfl)⟩) (xPV C w [0, 1, 2] rfl (by decide) (ci := 8) (q0 := 0) rfl rfl) rfl rfl hl.1 rfl (lv_room (Nat.le_of_ble_eq_true rfl)) dL_rangeAge_6 ⟨(Nat.le_of_ble_eq_true rfl), (Nat.le_of_ble_eq_true rfl)⟩) (fun f2767 H locs ce q9 w hce hcv hcl => ?_)
  have w : xW G A s [(h0, .inr (8, [.ref h4, .ref h3, .ref h5, .ref h6, .ref h7, .int 0, .ref h2, .ref h8])), (h2, .inr (6, [.ref h9, .int 0])), (h3, .inr (6, [.ref h10, .int 0]))] H _ := w
  refine vx_widen (k := 1) (n := 6) (Nat.le_of_ble_eq_true rfl) (Nat.le_of_ble_eq_true rfl) ?_
  refine vx_catch (xown C) [⟨0, 13, 16, 19⟩] ⟨0, 13, 20, 21⟩ [] hT (fun z hz => Or.inr (by cases List.mem_singleton.mp hz; exact ⟨by decide, "java/lang/IllegalArgumentException", xhts C _ (List.mem_cons_of_mem _ gw_104), xs_n1 (xS C)⟩)) (by decide) (by decide) (xhts C _ (List.mem_cons_of_mem _ gw_407)) (va_any rfl (xs_c2 (xS C))) hce hcv hcl ?_
  refine lv_astore (lv' := [(5, .ref q9), (0, .ref h0), (1, .int v0), (2, .int v1), (3, .int 0), (4, .ref h1)]) C.1 C.2.1 dL_rangeAge_20 hl (by decide) rfl (fun ls hl => ?_)
  refine lv_iconst (v := 2) C.1 C.2.1 dL_rangeAge_22 (by decide) ?_
  exact x_iret C w hr (fun _ => 0) rfl rfl dL_rangeAge_23 (Nat.le_of_ble_eq_true rfl) (Nat.le_of_ble_eq_true rfl)
set_option maxHeartbeats 4000000 in
set_option maxRecDepth 100000 in
theorem c414_X6_rangeAge (l : Launch) (G : va_G) (cy : Nat → ClassId) (sa : String → Nat → Nat) (sv : Nat → Nat) (h0 h1 h2 h3 h4 h5 h6 h7 : Nat) (v0 v1 : Int32) (p0 : v0 ≤ v1) : xM l G cy sa sv yX6_rangeAge (Cond.code yX6_rangeAge cX6_rangeAge 4 (some .int) :: XG) { frames := 12, cells := 1, slots := 3, locals := 334 } [.ref h0, .int v0, .int v1, .int 0] [(h0, .inr (10, [.ref h1, .ref h2, .ref h3, .ref h4, .ref h5, .ref h6, .ref h7, .int 0, .int 0])), (h1, .inr (3, [.int 0, .ref (sv 0), .int 0]))] (xQi G (fun f => [(h0, .inr (10, [.ref h1, .ref h2, .ref h3, .ref h4, .ref h5, .ref h6, .ref h7, .int 0, .int 2])), (h1, .inr (3, [.int 0, .ref (sv 0), .int 0]))]) 0) := by
  refine xof (by decide) (Nat.le_of_ble_eq_true rfl) (fun p e s m below meth c A C w hr hn ls hl => ?_)
  have hl : lv_has ls 4 [(0, .ref h0), (1, .int v0), (2, .int v1), (3, .int 0)] := hl
  refine lv_aload_n C.1 C.2.1 dX6_rangeAge_0 rfl (lv_at hl 0 rfl) ?_
  refine lv_iload_n C.1 C.2.1 dX6_rangeAge_1 rfl (lv_at hl 1 rfl) ?_
  refine lv_iload_n C.1 C.2.1 dX6_rangeAge_2 rfl (lv_at hl 2 rfl) ?_
  refine lv_icmp_le (tgt := 10) C.1 C.2.1 dX6_rangeAge_3 (by decide) (fun _ => ?_) (fun c9 => absurd p0 c9)
  refine lv_iconst (v := 0) C.1 C.2.1 dX6_rangeAge_10 (by decide) ?_
  refine lv_iconst (v := 1) C.1 C.2.1 dX6_rangeAge_11 (by decide) ?_
  refine x_ki C w [0] [1] rfl rfl (by decide) (by decide) (va_runV (As := [.int 0, .int 1]) (rest := []) (xfix C) (c46_X6_start l G cy sa sv h0 h1 h2 h3 h4 h5 h6 h7 (xtr C) _) (cwV 2 (xhts C) (xgV (maxL := 0) (cc := ⟨#[]⟩) (ret := none) gw_114 gw_115 gw_116 gw_58 gc_X6_start) rfl rfl rfl (by decide +kernel) ⟨(Nat.le_of_ble_eq_true rfl), (Nat.le_of_ble_eq_true rfl)⟩) (xPV C w [0] rfl (by decide) (ci := 10) (q0 := 0) rfl rfl) rfl rfl hl.1 rfl (lv_room (Nat.le_of_ble_eq_true rfl)) dX6_rangeAge_12 ⟨(Nat.le_of_ble_eq_true rfl), (Nat.le_of_ble_eq_true rfl)⟩) (fun f2772 H locs w => ?_)
  have w : xW G A s [(h1, .inr (3, [.int 0, .ref (sv 0), .int 0])), (h0, .inr (10, [.ref h1, .ref h2, .ref h3, .ref h4, .ref h5, .ref h6, .ref h7, .int 0, .int 0]))] H _ := w
  refine lv_if_ne (tgt := 43) C.1 C.2.1 dX6_rangeAge_15 (by decide) (fun c9 => absurd (by decide) c9) (fun _ => ?_)
  refine lv_aload_n C.1 C.2.1 dX6_rangeAge_18 rfl (lv_at hl 0 rfl) ?_
  refine lv_aload_n C.1 C.2.1 dX6_rangeAge_19 rfl (lv_at hl 0 rfl) ?_
  refine lv_iload_n C.1 C.2.1 dX6_rangeAge_20 rfl (lv_at hl 1 rfl) ?_
  refine lv_iload_n C.1 C.2.1 dX6_rangeAge_21 rfl (lv_at hl 2 rfl) ?_
  refine x_kr C w [1, 0] [] rfl rfl (by decide) (by decide) (va_runV (As := [.int v0, .int v1]) (rest := [.ref h0]) (xfix C) (c298_X6_range l G cy sa sv h0 h1 h2 h3 h4 h5 h6 h7 v0 v1 (xtr C) _) (cwV 2 (xhts C) (xgV (maxL := 0) (cc := ⟨#[]⟩) (ret := none) gw_670 gw_671 gw_672 gw_58 gc_X6_range) rfl rfl rfl (by decide +kernel) ⟨(Nat.le_of_ble_eq_true rfl), (Nat.le_of_ble_eq_true rfl)⟩) (xPV C w [1, 0] rfl (by decide) (ci := 10) (q0 := 1) rfl rfl) rfl rfl hl.1 rfl (lv_room (Nat.le_of_ble_eq_true rfl)) dX6_rangeAge_22 ⟨(Nat.le_of_ble_eq_true rfl), (Nat.le_of_ble_eq_true rfl)⟩) (fun f2781 H locs w => ?_)
  have w : xW G A s [(h0, .inr (10, [.ref h1, .ref h2, .ref h3, .ref h4, .ref h5, .ref h6, .ref h7, .int 0, .int 0])), (h1, .inr (3, [.int 0, .ref (sv 0), .int 0])), ((f2781 0), .inr (3, [.int 0, .ref (sv 0), .int 0]))] H _ := w
  refine W.widen (k := 1) (n := 3) (Nat.le_of_ble_eq_true rfl) (Nat.le_of_ble_eq_true rfl) ?_
  refine x_ki C w [2] [0, 1] rfl rfl (by decide) (by decide) (va_runV (As := []) (rest := [.ref h0]) (xfix C) (c47_Jx4a65c_size_8abf5 l G cy sa sv (f2781 0) (xtr C) _) (cwV 0 (xhts C) (xgV (maxL := 0) (cc := ⟨#[]⟩) (ret := none) gw_195 gw_196 gw_197 gw_62 gc_Jx4a65c_size_8abf5) rfl rfl rfl (by decide +kernel) ⟨(Nat.le_of_ble_eq_true rfl), (Nat.le_of_ble_eq_true rfl)⟩) (xPV C w [2] rfl (by decide) (ci := 3) (q0 := 2) rfl rfl) rfl rfl hl.1 rfl (lv_room (Nat.le_of_ble_eq_true rfl)) dX6_rangeAge_25 ⟨(Nat.le_of_ble_eq_true rfl), (Nat.le_of_ble_eq_true rfl)⟩) (fun f2782 H locs w => ?_)
  have w : xW G A s [(h0, .inr (10, [.ref h1, .ref h2, .ref h3, .ref h4, .ref h5, .ref h6, .ref h7, .int 0, .int 0])), (h1, .inr (3, [.int 0, .ref (sv 0), .int 0])), ((f2781 0), .inr (3, [.int 0, .ref (sv 0), .int 0]))] H _ := w
  refine lv_if_ne (tgt := 35) C.1 C.2.1 dX6_rangeAge_28 (by decide) (fun c9 => absurd (by decide) c9) (fun _ => ?_)
  refine lv_iconst (v := 1) C.1 C.2.1 dX6_rangeAge_31 (by decide) ?_
  refine lv_goto (tgt := 36) C.1 C.2.1 dX6_rangeAge_32 (by decide) ?_
  refine lv_iconst (v := 2) C.1 C.2.1 dX6_rangeAge_36 (by decide) ?_
  refine x_ki C w [0] [1, 2] rfl rfl (by decide) (by decide) (va_runV (As := [.int 1, .int 2]) (rest := []) (xfix C) (c149_X6_fails l G cy sa sv h0 h1 h2 h3 h4 h5 h6 h7 (xtr C) _) (cwV 2 (xhts C) (xgV (maxL := 0) (cc := ⟨#[]⟩) (ret := none) gw_203 gw_204 gw_205 gw_58 gc_X6_fails) rfl rfl rfl (by decide +kernel) ⟨(Nat.le_of_ble_eq_true rfl), (Nat.le_of_ble_eq_true rfl)⟩) (xPV C w [0] rfl (by decide) (ci := 10) (q0 := 0) rfl rfl) rfl rfl hl.1 rfl (lv_room (Nat.le_of_ble_eq_true rfl)) dX6_rangeAge_37 ⟨(Nat.le_of_ble_eq_true rfl), (Nat.le_of_ble_eq_true rfl)⟩) (fun f2783 H locs w => ?_)
  have w : xW G A s [(h1, .inr (3, [.int 0, .ref (sv 0), .int 0])), ((f2781 0), .inr (3, [.int 0, .ref (sv 0), .int 0])), (h0, .inr (10, [.ref h1, .ref h2, .ref h3, .ref h4, .ref h5, .ref h6, .ref h7, .int 0, .int 2]))] H _ := w
  refine lv_if_eq (tgt := 47) C.1 C.2.1 dX6_rangeAge_40 (by decide) (fun c9 => absurd c9 (by decide)) (fun _ => ?_)
  refine lv_iconst (v := 0) C.1 C.2.1 dX6_rangeAge_43 (by decide) ?_
  refine lv_goto (tgt := 57) C.1 C.2.1 dX6_rangeAge_44 (by decide) ?_
  have w := w.sub (ws' := [(h0, .inr (10, [.ref h1, .ref h2, .ref h3, .ref h4, .ref h5, .ref h6, .ref h7, .int 0, .int 2])), (h1, .inr (3, [.int 0, .ref (sv 0), .int 0]))]) [2, 0] (by decide) rfl rfl
  exact x_iret C w hr (fun _ => 0) rfl rfl dX6_rangeAge_57 (Nat.le_of_ble_eq_true rfl) (Nat.le_of_ble_eq_true rfl)
set_option maxHeartbeats 4000000 in
set_option maxRecDepth 100000 in
theorem c415_X4_rangeAge (l : Launch) (G : va_G) (cy : Nat → ClassId) (sa : String → Nat → Nat) (sv : Nat → Nat) (h0 : Nat) (v0 v1 : Int32) (p0 : ¬ v0 ≤ v1) : xX l G cy sa sv yX4_rangeAge (Cond.code yX4_rangeAge cX4_rangeAge 4 (some .int) :: XG) { frames := 9, cells := 1, slots := 6, locals := 271 } [.ref h0, .int v0, .int v1, .int 0] [] (fun f => []) "java/lang/IllegalArgumentException" := by
  refine xofX (by decide) (Nat.le_of_ble_eq_true rfl) (fun p e s m below meth c A C w hno ls hl => ?_)
  have hl : lv_has ls 4 [(0, .ref h0), (1, .int v0), (2, .int v1), (3, .int 0)] := hl
  refine lv_iload_n C.1 C.2.1 dX4_rangeAge_0 rfl (lv_at hl 1 rfl) ?_
  refine lv_iload_n C.1 C.2.1 dX4_rangeAge_1 rfl (lv_at hl 2 rfl) ?_
  refine x_kx C w [] [] rfl rfl (by decide) (by decide) (vx_runS (As := [.int v0, .int v1]) (rest := []) (xfix C) (c306_X4_checkRange l G cy sa sv v0 v1 p0 (xtr C) _) (va_cwS 2 (xhts C) (xgS gw_390 gw_391 gw_2 gc_X4_checkRange) rfl rfl rfl (by decide +kernel) ⟨(Nat.le_of_ble_eq_true rfl), (Nat.le_of_ble_eq_true rfl)⟩) (xPS C w [] rfl (by decide)) rfl rfl hl.1 rfl (lv_room (Nat.le_of_ble_eq_true rfl)) dX4_rangeAge_2 ⟨(Nat.le_of_ble_eq_true rfl), (Nat.le_of_ble_eq_true rfl)⟩) (fun f2789 H locs ce q9 w hce hcv hcl => ?_)
  have w : xW G A s [] H _ := w
  refine vx_widen (k := 1) (n := 6) (Nat.le_of_ble_eq_true rfl) (Nat.le_of_ble_eq_true rfl) ?_
  exact x_out C w hno (fun _ => 0) rfl hce hcv hcl (Nat.le_of_ble_eq_true rfl) (Nat.le_of_ble_eq_true rfl)
set_option maxHeartbeats 4000000 in
set_option maxRecDepth 100000 in
theorem c416_L_rangeAge (l : Launch) (G : va_G) (cy : Nat → ClassId) (sa : String → Nat → Nat) (sv : Nat → Nat) (h0 h1 h2 h3 h4 h5 h6 h7 h8 : Nat) (v0 v1 : Int32) (p0 : ¬ v0 ≤ v1) : xM l G cy sa sv yL_rangeAge (Cond.codeWith yL_rangeAge cL_rangeAge 6 (some .int) [(0, 13, 16, 19), (0, 13, 20, 21)] :: XG) { frames := 10, cells := 1, slots := 6, locals := 294 } [.ref h0, .int v0, .int v1, .int 0, .ref h1] [(h0, .inr (8, [.ref h2, .ref h3, .ref h4, .ref h5, .ref h6, .int 0, .ref h7, .ref h8]))] (xQi G (fun f => [(h0, .inr (8, [.ref h2, .ref h3, .ref h4, .ref h5, .ref h6, .int 0, .ref h7, .ref h8]))]) 1) := by
  refine xofH (by decide) (Nat.le_of_ble_eq_true rfl) (fun p e s m below meth c A C w hr hn hT ls hl => ?_)
  have hl : lv_has ls 6 [(0, .ref h0), (1, .int v0), (2, .int v1), (3, .int 0), (4, .ref h1)] := hl
  refine lv_aload C.1 C.2.1 dL_rangeAge_0 (lv_at hl 4 rfl) ?_
  refine lv_aload_n C.1 C.2.1 dL_rangeAge_2 rfl (lv_at hl 0 rfl) ?_
  refine lv_iload_n C.1 C.2.1 dL_rangeAge_3 rfl (lv_at hl 1 rfl) ?_
  refine lv_iload_n C.1 C.2.1 dL_rangeAge_4 rfl (lv_at hl 2 rfl) ?_
  refine lv_iload_n C.1 C.2.1 dL_rangeAge_5 rfl (lv_at hl 3 rfl) ?_
  refine x_kx C w [] [0] rfl rfl (by decide) (by decide) (vx_runV (As := [.int v0, .int v1, .int 0]) (rest := [.ref h1]) (xfix C) (c415_X4_rangeAge l G cy sa sv h0 v0 v1 p0 (xtr C) _) (cwV 3 (xhts C) (xgV (maxL := 0) (cc := ⟨#[]⟩) (ret := none) gw_780 gw_781 gw_782 gw_2 gc_X4_rangeAge) rfl rfl rfl (by decide +kernel) ⟨(Nat.le_of_ble_eq_true rfl), (Nat.le_of_ble_eq_true rfl)⟩) (xPV C w [] rfl (by decide) (ci := 8) (q0 := 0) rfl rfl) rfl rfl hl.1 rfl (lv_room (Nat.le_of_ble_eq_true rfl)) dL_rangeAge_6 ⟨(Nat.le_of_ble_eq_true rfl), (Nat.le_of_ble_eq_true rfl)⟩) (fun f2790 H locs ce q9 w hce hcv hcl => ?_)
  have w : xW G A s [(h0, .inr (8, [.ref h2, .ref h3, .ref h4, .ref h5, .ref h6, .int 0, .ref h7, .ref h8]))] H _ := w
  refine vx_widen (k := 1) (n := 6) (Nat.le_of_ble_eq_true rfl) (Nat.le_of_ble_eq_true rfl) ?_
  refine vx_catch (xown C) [] ⟨0, 13, 16, 19⟩ [⟨0, 13, 20, 21⟩] hT (fun z hz => nomatch hz) (by decide) (by decide) (xhts C _ (List.mem_cons_of_mem _ gw_104)) (va_any rfl (xs_c1 (xS C))) hce hcv hcl ?_
  refine lv_astore (lv' := [(5, .ref q9), (0, .ref h0), (1, .int v0), (2, .int v1), (3, .int 0), (4, .ref h1)]) C.1 C.2.1 dL_rangeAge_16 hl (by decide) rfl (fun ls hl => ?_)
  refine lv_iconst (v := 1) C.1 C.2.1 dL_rangeAge_18 (by decide) ?_
  exact x_iret C w hr (fun _ => 0) rfl rfl dL_rangeAge_19 (Nat.le_of_ble_eq_true rfl) (Nat.le_of_ble_eq_true rfl)
set_option maxHeartbeats 4000000 in
set_option maxRecDepth 100000 in
theorem c417_X6_rangeAge (l : Launch) (G : va_G) (cy : Nat → ClassId) (sa : String → Nat → Nat) (sv : Nat → Nat) (h0 h1 h2 h3 h4 h5 h6 h7 : Nat) (v0 v1 : Int32) (p0 : ¬ v0 ≤ v1) : xM l G cy sa sv yX6_rangeAge (Cond.code yX6_rangeAge cX6_rangeAge 4 (some .int) :: XG) { frames := 9, cells := 0, slots := 0, locals := 272 } [.ref h0, .int v0, .int v1, .int 0] [(h0, .inr (10, [.ref h1, .ref h2, .ref h3, .ref h4, .ref h5, .ref h6, .ref h7, .int 0, .int 0]))] (xQi G (fun f => [(h0, .inr (10, [.ref h1, .ref h2, .ref h3, .ref h4, .ref h5, .ref h6, .ref h7, .int 0, .int 1]))]) 0) := by
  refine xof (by decide) (Nat.le_of_ble_eq_true rfl) (fun p e s m below meth c A C w hr hn ls hl => ?_)
  have hl : lv_has ls 4 [(0, .ref h0), (1, .int v0), (2, .int v1), (3, .int 0)] := hl
  refine lv_aload_n C.1 C.2.1 dX6_rangeAge_0 rfl (lv_at hl 0 rfl) ?_
  refine lv_iload_n C.1 C.2.1 dX6_rangeAge_1 rfl (lv_at hl 1 rfl) ?_
  refine lv_iload_n C.1 C.2.1 dX6_rangeAge_2 rfl (lv_at hl 2 rfl) ?_
  refine lv_icmp_le (tgt := 10) C.1 C.2.1 dX6_rangeAge_3 (by decide) (fun c9 => absurd c9 p0) (fun _ => ?_)
  refine lv_iconst (v := 1) C.1 C.2.1 dX6_rangeAge_6 (by decide) ?_
  refine lv_goto (tgt := 11) C.1 C.2.1 dX6_rangeAge_7 (by decide) ?_
  refine lv_iconst (v := 1) C.1 C.2.1 dX6_rangeAge_11 (by decide) ?_
  refine x_ki C w [0] [] rfl rfl (by decide) (by decide) (va_runV (As := [.int 1, .int 1]) (rest := []) (xfix C) (c17_X6_start l G cy sa sv h0 h1 h2 h3 h4 h5 h6 h7 (xtr C) _) (cwV 2 (xhts C) (xgV (maxL := 0) (cc := ⟨#[]⟩) (ret := none) gw_114 gw_115 gw_116 gw_58 gc_X6_start) rfl rfl rfl (by decide +kernel) ⟨(Nat.le_of_ble_eq_true rfl), (Nat.le_of_ble_eq_true rfl)⟩) (xPV C w [0] rfl (by decide) (ci := 10) (q0 := 0) rfl rfl) rfl rfl hl.1 rfl (lv_room (Nat.le_of_ble_eq_true rfl)) dX6_rangeAge_12 ⟨(Nat.le_of_ble_eq_true rfl), (Nat.le_of_ble_eq_true rfl)⟩) (fun f2793 H locs w => ?_)
  have w : xW G A s [(h0, .inr (10, [.ref h1, .ref h2, .ref h3, .ref h4, .ref h5, .ref h6, .ref h7, .int 0, .int 1]))] H _ := w
  refine lv_if_ne (tgt := 43) C.1 C.2.1 dX6_rangeAge_15 (by decide) (fun _ => ?_) (fun c9 => absurd c9 (by decide))
  refine lv_iconst (v := 0) C.1 C.2.1 dX6_rangeAge_43 (by decide) ?_
  refine lv_goto (tgt := 57) C.1 C.2.1 dX6_rangeAge_44 (by decide) ?_
  exact x_iret C w hr (fun _ => 0) rfl rfl dX6_rangeAge_57 (Nat.le_of_ble_eq_true rfl) (Nat.le_of_ble_eq_true rfl)
set_option maxHeartbeats 4000000 in
set_option maxRecDepth 100000 in
theorem c418_X4_rangeAge (l : Launch) (G : va_G) (cy : Nat → ClassId) (sa : String → Nat → Nat) (sv : Nat → Nat) (h0 h1 h2 h3 h4 h5 h6 h7 h8 h9 : Nat) (v0 v1 : Int32) (p0 : v0 ≤ v1) : xX l G cy sa sv yX4_rangeAge (Cond.code yX4_rangeAge cX4_rangeAge 4 (some .int) :: XG) { frames := 10, cells := 1, slots := 6, locals := 294 } [.ref h0, .int v0, .int v1, .int 1] [(h0, .inr (8, [.ref h3, .ref h2, .ref h4, .ref h5, .ref h6, .int 0, .ref h1, .ref h7])), (h1, .inr (6, [.ref h8, .int 0])), (h2, .inr (6, [.ref h9, .int 0]))] (fun f => [(h0, .inr (8, [.ref h3, .ref h2, .ref h4, .ref h5, .ref h6, .int 0, .ref h1, .ref h7])), (h1, .inr (6, [.ref h8, .int 0])), (h2, .inr (6, [.ref h9, .int 0]))]) "java/lang/IllegalStateException" := by
  refine xofX (by decide) (Nat.le_of_ble_eq_true rfl) (fun p e s m below meth c A C w hno ls hl => ?_)
  have hl : lv_has ls 4 [(0, .ref h0), (1, .int v0), (2, .int v1), (3, .int 1)] := hl
  refine lv_iload_n C.1 C.2.1 dX4_rangeAge_0 rfl (lv_at hl 1 rfl) ?_
  refine lv_iload_n C.1 C.2.1 dX4_rangeAge_1 rfl (lv_at hl 2 rfl) ?_
  refine x_kv C w [] [0, 1, 2] rfl rfl (by decide) (by decide) (va_runS (As := [.int v0, .int v1]) (rest := []) (xfix C) (c302_X4_checkRange l G cy sa sv v0 v1 p0 (xtr C) _) (va_cwS 2 (xhts C) (xgS gw_390 gw_391 gw_2 gc_X4_checkRange) rfl rfl rfl (by decide +kernel) ⟨(Nat.le_of_ble_eq_true rfl), (Nat.le_of_ble_eq_true rfl)⟩) (xPS C w [] rfl (by decide)) rfl rfl hl.1 rfl (lv_room (Nat.le_of_ble_eq_true rfl)) dX4_rangeAge_2 ⟨(Nat.le_of_ble_eq_true rfl), (Nat.le_of_ble_eq_true rfl)⟩) (fun f2802 H locs w => ?_)
  have w : xW G A s [(h0, .inr (8, [.ref h3, .ref h2, .ref h4, .ref h5, .ref h6, .int 0, .ref h1, .ref h7])), (h1, .inr (6, [.ref h8, .int 0])), (h2, .inr (6, [.ref h9, .int 0]))] H _ := w
  refine lv_aload_n C.1 C.2.1 dX4_rangeAge_5 rfl (lv_at hl 0 rfl) ?_
  refine lv_iload_n C.1 C.2.1 dX4_rangeAge_6 rfl (lv_at hl 1 rfl) ?_
  refine lv_iload_n C.1 C.2.1 dX4_rangeAge_7 rfl (lv_at hl 2 rfl) ?_
  refine x_kv C w [0, 1, 2] [] rfl rfl (by decide) (by decide) (va_runV (As := [.int v0, .int v1]) (rest := []) (xfix C) (c404_X4_chooseByUse l G cy sa sv h0 h1 h2 h3 h4 h5 h6 h7 h8 h9 v0 v1 (xtr C) _) (cwV 2 (xhts C) (xgV (maxL := 0) (cc := ⟨#[]⟩) (ret := none) gw_762 gw_763 gw_764 gw_2 gc_X4_chooseByUse) rfl rfl rfl (by decide +kernel) ⟨(Nat.le_of_ble_eq_true rfl), (Nat.le_of_ble_eq_true rfl)⟩) (xPV C w [0, 1, 2] rfl (by decide) (ci := 8) (q0 := 0) rfl rfl) rfl rfl hl.1 rfl (lv_room (Nat.le_of_ble_eq_true rfl)) dX4_rangeAge_8 ⟨(Nat.le_of_ble_eq_true rfl), (Nat.le_of_ble_eq_true rfl)⟩) (fun f2805 H locs w => ?_)
  have w : xW G A s [(h0, .inr (8, [.ref h3, .ref h2, .ref h4, .ref h5, .ref h6, .int 0, .ref h1, .ref h7])), (h1, .inr (6, [.ref h8, .int 0])), (h2, .inr (6, [.ref h9, .int 0]))] H _ := w
  refine lv_aload_n C.1 C.2.1 dX4_rangeAge_11 rfl (lv_at hl 0 rfl) ?_
  refine x_get (v := .ref h1) C w 0 8 6 (xin_X4 _) rfl rfl (by decide) (List.mem_cons_of_mem _ gw_51) rfl rfl dX4_rangeAge_12 ?_
  refine x_ki C w [1] [0, 2] rfl rfl (by decide) (by decide) (va_runV (As := []) (rest := []) (xfix C) (c21_X2_count l G cy sa sv h1 h8 (xtr C) _) (cwV 0 (xhts C) (xgV (maxL := 0) (cc := ⟨#[]⟩) (ret := none) gw_316 gw_127 gw_128 gw_11 gc_X2_count) rfl rfl rfl (by decide +kernel) ⟨(Nat.le_of_ble_eq_true rfl), (Nat.le_of_ble_eq_true rfl)⟩) (xPV C w [1] rfl (by decide) (ci := 6) (q0 := 1) rfl rfl) rfl rfl hl.1 rfl (lv_room (Nat.le_of_ble_eq_true rfl)) dX4_rangeAge_15 ⟨(Nat.le_of_ble_eq_true rfl), (Nat.le_of_ble_eq_true rfl)⟩) (fun f2806 H locs w => ?_)
  have w : xW G A s [(h0, .inr (8, [.ref h3, .ref h2, .ref h4, .ref h5, .ref h6, .int 0, .ref h1, .ref h7])), (h2, .inr (6, [.ref h9, .int 0])), (h1, .inr (6, [.ref h8, .int 0]))] H _ := w
  refine lv_if_ne (tgt := 31) C.1 C.2.1 dX4_rangeAge_18 (by decide) (fun c9 => absurd (by decide) c9) (fun _ => ?_)
  have w := w.sub (ws' := [(h0, .inr (8, [.ref h3, .ref h2, .ref h4, .ref h5, .ref h6, .int 0, .ref h1, .ref h7])), (h1, .inr (6, [.ref h8, .int 0])), (h2, .inr (6, [.ref h9, .int 0]))]) [0, 2, 1] (by decide) rfl rfl
  exact x_thr C w hno hl.1 (by decide) (List.mem_cons_of_mem _ gw_397) (List.mem_cons_of_mem _ gw_398) (tx := "there is no such key") (List.mem_of_getElem? (i := 1) rfl) (xat_161 C (fun w h => List.mem_cons_of_mem _ h)) xatg_161 dX4_rangeAge_21 dX4_rangeAge_24 dX4_rangeAge_25 dX4_rangeAge_27 dX4_rangeAge_30 (Nat.le_of_ble_eq_true rfl) (Nat.le_of_ble_eq_true rfl) (Nat.le_of_ble_eq_true rfl) (Nat.le_of_ble_eq_true rfl) rfl rfl (fun _ => 0) rfl
set_option maxHeartbeats 4000000 in
set_option maxRecDepth 100000 in
theorem c419_L_rangeAge (l : Launch) (G : va_G) (cy : Nat → ClassId) (sa : String → Nat → Nat) (sv : Nat → Nat) (h0 h1 h2 h3 h4 h5 h6 h7 h8 h9 h10 : Nat) (v0 v1 : Int32) (p0 : v0 ≤ v1) : xM l G cy sa sv yL_rangeAge (Cond.codeWith yL_rangeAge cL_rangeAge 6 (some .int) [(0, 13, 16, 19), (0, 13, 20, 21)] :: XG) { frames := 11, cells := 1, slots := 6, locals := 317 } [.ref h0, .int v0, .int v1, .int 1, .ref h1] [(h0, .inr (8, [.ref h4, .ref h3, .ref h5, .ref h6, .ref h7, .int 0, .ref h2, .ref h8])), (h2, .inr (6, [.ref h9, .int 0])), (h3, .inr (6, [.ref h10, .int 0]))] (xQi G (fun f => [(h0, .inr (8, [.ref h4, .ref h3, .ref h5, .ref h6, .ref h7, .int 0, .ref h2, .ref h8])), (h2, .inr (6, [.ref h9, .int 0])), (h3, .inr (6, [.ref h10, .int 0]))]) 2) := by
  refine xofH (by decide) (Nat.le_of_ble_eq_true rfl) (fun p e s m below meth c A C w hr hn hT ls hl => ?_)
  have hl : lv_has ls 6 [(0, .ref h0), (1, .int v0), (2, .int v1), (3, .int 1), (4, .ref h1)] := hl
  refine lv_aload C.1 C.2.1 dL_rangeAge_0 (lv_at hl 4 rfl) ?_
  refine lv_aload_n C.1 C.2.1 dL_rangeAge_2 rfl (lv_at hl 0 rfl) ?_
  refine lv_iload_n C.1 C.2.1 dL_rangeAge_3 rfl (lv_at hl 1 rfl) ?_
  refine lv_iload_n C.1 C.2.1 dL_rangeAge_4 rfl (lv_at hl 2 rfl) ?_
  refine lv_iload_n C.1 C.2.1 dL_rangeAge_5 rfl (lv_at hl 3 rfl) ?_
  refine x_kx C w [0, 1, 2] [] rfl rfl (by decide) (by decide) (vx_runV (As := [.int v0, .int v1, .int 1]) (rest := [.ref h1]) (xfix C) (c418_X4_rangeAge l G cy sa sv h0 h2 h3 h4 h5 h6 h7 h8 h9 h10 v0 v1 p0 (xtr C) _) (cwV 3 (xhts C) (xgV (maxL := 0) (cc := ⟨#[]⟩) (ret := none) gw_780 gw_781 gw_782 gw_2 gc_X4_rangeAge) rfl rfl rfl (by decide +kernel) ⟨(Nat.le_of_ble_eq_true rfl), (Nat.le_of_ble_eq_true rfl)⟩) (xPV C w [0, 1, 2] rfl (by decide) (ci := 8) (q0 := 0) rfl rfl) rfl rfl hl.1 rfl (lv_room (Nat.le_of_ble_eq_true rfl)) dL_rangeAge_6 ⟨(Nat.le_of_ble_eq_true rfl), (Nat.le_of_ble_eq_true rfl)⟩) (fun f2807 H locs ce q9 w hce hcv hcl => ?_)
  have w : xW G A s [(h0, .inr (8, [.ref h4, .ref h3, .ref h5, .ref h6, .ref h7, .int 0, .ref h2, .ref h8])), (h2, .inr (6, [.ref h9, .int 0])), (h3, .inr (6, [.ref h10, .int 0]))] H _ := w
  refine vx_widen (k := 1) (n := 6) (Nat.le_of_ble_eq_true rfl) (Nat.le_of_ble_eq_true rfl) ?_
  refine vx_catch (xown C) [⟨0, 13, 16, 19⟩] ⟨0, 13, 20, 21⟩ [] hT (fun z hz => Or.inr (by cases List.mem_singleton.mp hz; exact ⟨by decide, "java/lang/IllegalArgumentException", xhts C _ (List.mem_cons_of_mem _ gw_104), xs_n1 (xS C)⟩)) (by decide) (by decide) (xhts C _ (List.mem_cons_of_mem _ gw_407)) (va_any rfl (xs_c2 (xS C))) hce hcv hcl ?_
  refine lv_astore (lv' := [(5, .ref q9), (0, .ref h0), (1, .int v0), (2, .int v1), (3, .int 1), (4, .ref h1)]) C.1 C.2.1 dL_rangeAge_20 hl (by decide) rfl (fun ls hl => ?_)
  refine lv_iconst (v := 2) C.1 C.2.1 dL_rangeAge_22 (by decide) ?_
  exact x_iret C w hr (fun _ => 0) rfl rfl dL_rangeAge_23 (Nat.le_of_ble_eq_true rfl) (Nat.le_of_ble_eq_true rfl)
set_option maxHeartbeats 4000000 in
set_option maxRecDepth 100000 in
theorem c420_X6_rangeAge (l : Launch) (G : va_G) (cy : Nat → ClassId) (sa : String → Nat → Nat) (sv : Nat → Nat) (h0 h1 h2 h3 h4 h5 h6 h7 : Nat) (v0 v1 : Int32) (p0 : v0 ≤ v1) : xM l G cy sa sv yX6_rangeAge (Cond.code yX6_rangeAge cX6_rangeAge 4 (some .int) :: XG) { frames := 12, cells := 1, slots := 3, locals := 334 } [.ref h0, .int v0, .int v1, .int 1] [(h0, .inr (10, [.ref h1, .ref h2, .ref h3, .ref h4, .ref h5, .ref h6, .ref h7, .int 0, .int 0])), (h1, .inr (3, [.int 0, .ref (sv 0), .int 0]))] (xQi G (fun f => [(h0, .inr (10, [.ref h1, .ref h2, .ref h3, .ref h4, .ref h5, .ref h6, .ref h7, .int 0, .int 2])), (h1, .inr (3, [.int 0, .ref (sv 0), .int 0]))]) 0) := by
  refine xof (by decide) (Nat.le_of_ble_eq_true rfl) (fun p e s m below meth c A C w hr hn ls hl => ?_)
  have hl : lv_has ls 4 [(0, .ref h0), (1, .int v0), (2, .int v1), (3, .int 1)] := hl
  refine lv_aload_n C.1 C.2.1 dX6_rangeAge_0 rfl (lv_at hl 0 rfl) ?_
  refine lv_iload_n C.1 C.2.1 dX6_rangeAge_1 rfl (lv_at hl 1 rfl) ?_
  refine lv_iload_n C.1 C.2.1 dX6_rangeAge_2 rfl (lv_at hl 2 rfl) ?_
  refine lv_icmp_le (tgt := 10) C.1 C.2.1 dX6_rangeAge_3 (by decide) (fun _ => ?_) (fun c9 => absurd p0 c9)
  refine lv_iconst (v := 0) C.1 C.2.1 dX6_rangeAge_10 (by decide) ?_
  refine lv_iconst (v := 1) C.1 C.2.1 dX6_rangeAge_11 (by decide) ?_
  refine x_ki C w [0] [1] rfl rfl (by decide) (by decide) (va_runV (As := [.int 0, .int 1]) (rest := []) (xfix C) (c46_X6_start l G cy sa sv h0 h1 h2 h3 h4 h5 h6 h7 (xtr C) _) (cwV 2 (xhts C) (xgV (maxL := 0) (cc := ⟨#[]⟩) (ret := none) gw_114 gw_115 gw_116 gw_58 gc_X6_start) rfl rfl rfl (by decide +kernel) ⟨(Nat.le_of_ble_eq_true rfl), (Nat.le_of_ble_eq_true rfl)⟩) (xPV C w [0] rfl (by decide) (ci := 10) (q0 := 0) rfl rfl) rfl rfl hl.1 rfl (lv_room (Nat.le_of_ble_eq_true rfl)) dX6_rangeAge_12 ⟨(Nat.le_of_ble_eq_true rfl), (Nat.le_of_ble_eq_true rfl)⟩) (fun f2812 H locs w => ?_)
  have w : xW G A s [(h1, .inr (3, [.int 0, .ref (sv 0), .int 0])), (h0, .inr (10, [.ref h1, .ref h2, .ref h3, .ref h4, .ref h5, .ref h6, .ref h7, .int 0, .int 0]))] H _ := w
  refine lv_if_ne (tgt := 43) C.1 C.2.1 dX6_rangeAge_15 (by decide) (fun c9 => absurd (by decide) c9) (fun _ => ?_)
  refine lv_aload_n C.1 C.2.1 dX6_rangeAge_18 rfl (lv_at hl 0 rfl) ?_
  refine lv_aload_n C.1 C.2.1 dX6_rangeAge_19 rfl (lv_at hl 0 rfl) ?_
  refine lv_iload_n C.1 C.2.1 dX6_rangeAge_20 rfl (lv_at hl 1 rfl) ?_
  refine lv_iload_n C.1 C.2.1 dX6_rangeAge_21 rfl (lv_at hl 2 rfl) ?_
  refine x_kr C w [1, 0] [] rfl rfl (by decide) (by decide) (va_runV (As := [.int v0, .int v1]) (rest := [.ref h0]) (xfix C) (c298_X6_range l G cy sa sv h0 h1 h2 h3 h4 h5 h6 h7 v0 v1 (xtr C) _) (cwV 2 (xhts C) (xgV (maxL := 0) (cc := ⟨#[]⟩) (ret := none) gw_670 gw_671 gw_672 gw_58 gc_X6_range) rfl rfl rfl (by decide +kernel) ⟨(Nat.le_of_ble_eq_true rfl), (Nat.le_of_ble_eq_true rfl)⟩) (xPV C w [1, 0] rfl (by decide) (ci := 10) (q0 := 1) rfl rfl) rfl rfl hl.1 rfl (lv_room (Nat.le_of_ble_eq_true rfl)) dX6_rangeAge_22 ⟨(Nat.le_of_ble_eq_true rfl), (Nat.le_of_ble_eq_true rfl)⟩) (fun f2821 H locs w => ?_)
  have w : xW G A s [(h0, .inr (10, [.ref h1, .ref h2, .ref h3, .ref h4, .ref h5, .ref h6, .ref h7, .int 0, .int 0])), (h1, .inr (3, [.int 0, .ref (sv 0), .int 0])), ((f2821 0), .inr (3, [.int 0, .ref (sv 0), .int 0]))] H _ := w
  refine W.widen (k := 1) (n := 3) (Nat.le_of_ble_eq_true rfl) (Nat.le_of_ble_eq_true rfl) ?_
  refine x_ki C w [2] [0, 1] rfl rfl (by decide) (by decide) (va_runV (As := []) (rest := [.ref h0]) (xfix C) (c47_Jx4a65c_size_8abf5 l G cy sa sv (f2821 0) (xtr C) _) (cwV 0 (xhts C) (xgV (maxL := 0) (cc := ⟨#[]⟩) (ret := none) gw_195 gw_196 gw_197 gw_62 gc_Jx4a65c_size_8abf5) rfl rfl rfl (by decide +kernel) ⟨(Nat.le_of_ble_eq_true rfl), (Nat.le_of_ble_eq_true rfl)⟩) (xPV C w [2] rfl (by decide) (ci := 3) (q0 := 2) rfl rfl) rfl rfl hl.1 rfl (lv_room (Nat.le_of_ble_eq_true rfl)) dX6_rangeAge_25 ⟨(Nat.le_of_ble_eq_true rfl), (Nat.le_of_ble_eq_true rfl)⟩) (fun f2822 H locs w => ?_)
  have w : xW G A s [(h0, .inr (10, [.ref h1, .ref h2, .ref h3, .ref h4, .ref h5, .ref h6, .ref h7, .int 0, .int 0])), (h1, .inr (3, [.int 0, .ref (sv 0), .int 0])), ((f2821 0), .inr (3, [.int 0, .ref (sv 0), .int 0]))] H _ := w
  refine lv_if_ne (tgt := 35) C.1 C.2.1 dX6_rangeAge_28 (by decide) (fun c9 => absurd (by decide) c9) (fun _ => ?_)
  refine lv_iconst (v := 1) C.1 C.2.1 dX6_rangeAge_31 (by decide) ?_
  refine lv_goto (tgt := 36) C.1 C.2.1 dX6_rangeAge_32 (by decide) ?_
  refine lv_iconst (v := 2) C.1 C.2.1 dX6_rangeAge_36 (by decide) ?_
  refine x_ki C w [0] [1, 2] rfl rfl (by decide) (by decide) (va_runV (As := [.int 1, .int 2]) (rest := []) (xfix C) (c149_X6_fails l G cy sa sv h0 h1 h2 h3 h4 h5 h6 h7 (xtr C) _) (cwV 2 (xhts C) (xgV (maxL := 0) (cc := ⟨#[]⟩) (ret := none) gw_203 gw_204 gw_205 gw_58 gc_X6_fails) rfl rfl rfl (by decide +kernel) ⟨(Nat.le_of_ble_eq_true rfl), (Nat.le_of_ble_eq_true rfl)⟩) (xPV C w [0] rfl (by decide) (ci := 10) (q0 := 0) rfl rfl) rfl rfl hl.1 rfl (lv_room (Nat.le_of_ble_eq_true rfl)) dX6_rangeAge_37 ⟨(Nat.le_of_ble_eq_true rfl), (Nat.le_of_ble_eq_true rfl)⟩) (fun f2823 H locs w => ?_)
  have w : xW G A s [(h1, .inr (3, [.int 0, .ref (sv 0), .int 0])), ((f2821 0), .inr (3, [.int 0, .ref (sv 0), .int 0])), (h0, .inr (10, [.ref h1, .ref h2, .ref h3, .ref h4, .ref h5, .ref h6, .ref h7, .int 0, .int 2]))] H _ := w
  refine lv_if_eq (tgt := 47) C.1 C.2.1 dX6_rangeAge_40 (by decide) (fun c9 => absurd c9 (by decide)) (fun _ => ?_)
  refine lv_iconst (v := 0) C.1 C.2.1 dX6_rangeAge_43 (by decide) ?_
  refine lv_goto (tgt := 57) C.1 C.2.1 dX6_rangeAge_44 (by decide) ?_
  have w := w.sub (ws' := [(h0, .inr (10, [.ref h1, .ref h2, .ref h3, .ref h4, .ref h5, .ref h6, .ref h7, .int 0, .int 2])), (h1, .inr (3, [.int 0, .ref (sv 0), .int 0]))]) [2, 0] (by decide) rfl rfl
  exact x_iret C w hr (fun _ => 0) rfl rfl dX6_rangeAge_57 (Nat.le_of_ble_eq_true rfl) (Nat.le_of_ble_eq_true rfl)
set_option maxHeartbeats 4000000 in
set_option maxRecDepth 100000 in
theorem c421_X4_rangeAge (l : Launch) (G : va_G) (cy : Nat → ClassId) (sa : String → Nat → Nat) (sv : Nat → Nat) (h0 : Nat) (v0 v1 : Int32) (p0 : ¬ v0 ≤ v1) : xX l G cy sa sv yX4_rangeAge (Cond.code yX4_rangeAge cX4_rangeAge 4 (some .int) :: XG) { frames := 9, cells := 1, slots := 6, locals := 271 } [.ref h0, .int v0, .int v1, .int 1] [] (fun f => []) "java/lang/IllegalArgumentException" := by
  refine xofX (by decide) (Nat.le_of_ble_eq_true rfl) (fun p e s m below meth c A C w hno ls hl => ?_)
  have hl : lv_has ls 4 [(0, .ref h0), (1, .int v0), (2, .int v1), (3, .int 1)] := hl
  refine lv_iload_n C.1 C.2.1 dX4_rangeAge_0 rfl (lv_at hl 1 rfl) ?_
  refine lv_iload_n C.1 C.2.1 dX4_rangeAge_1 rfl (lv_at hl 2 rfl) ?_
  refine x_kx C w [] [] rfl rfl (by decide) (by decide) (vx_runS (As := [.int v0, .int v1]) (rest := []) (xfix C) (c306_X4_checkRange l G cy sa sv v0 v1 p0 (xtr C) _) (va_cwS 2 (xhts C) (xgS gw_390 gw_391 gw_2 gc_X4_checkRange) rfl rfl rfl (by decide +kernel) ⟨(Nat.le_of_ble_eq_true rfl), (Nat.le_of_ble_eq_true rfl)⟩) (xPS C w [] rfl (by decide)) rfl rfl hl.1 rfl (lv_room (Nat.le_of_ble_eq_true rfl)) dX4_rangeAge_2 ⟨(Nat.le_of_ble_eq_true rfl), (Nat.le_of_ble_eq_true rfl)⟩) (fun f2829 H locs ce q9 w hce hcv hcl => ?_)
  have w : xW G A s [] H _ := w
  refine vx_widen (k := 1) (n := 6) (Nat.le_of_ble_eq_true rfl) (Nat.le_of_ble_eq_true rfl) ?_
  exact x_out C w hno (fun _ => 0) rfl hce hcv hcl (Nat.le_of_ble_eq_true rfl) (Nat.le_of_ble_eq_true rfl)
set_option maxHeartbeats 4000000 in
set_option maxRecDepth 100000 in
theorem c422_L_rangeAge (l : Launch) (G : va_G) (cy : Nat → ClassId) (sa : String → Nat → Nat) (sv : Nat → Nat) (h0 h1 h2 h3 h4 h5 h6 h7 h8 : Nat) (v0 v1 : Int32) (p0 : ¬ v0 ≤ v1) : xM l G cy sa sv yL_rangeAge (Cond.codeWith yL_rangeAge cL_rangeAge 6 (some .int) [(0, 13, 16, 19), (0, 13, 20, 21)] :: XG) { frames := 10, cells := 1, slots := 6, locals := 294 } [.ref h0, .int v0, .int v1, .int 1, .ref h1] [(h0, .inr (8, [.ref h2, .ref h3, .ref h4, .ref h5, .ref h6, .int 0, .ref h7, .ref h8]))] (xQi G (fun f => [(h0, .inr (8, [.ref h2, .ref h3, .ref h4, .ref h5, .ref h6, .int 0, .ref h7, .ref h8]))]) 1) := by
  refine xofH (by decide) (Nat.le_of_ble_eq_true rfl) (fun p e s m below meth c A C w hr hn hT ls hl => ?_)
  have hl : lv_has ls 6 [(0, .ref h0), (1, .int v0), (2, .int v1), (3, .int 1), (4, .ref h1)] := hl
  refine lv_aload C.1 C.2.1 dL_rangeAge_0 (lv_at hl 4 rfl) ?_
  refine lv_aload_n C.1 C.2.1 dL_rangeAge_2 rfl (lv_at hl 0 rfl) ?_
  refine lv_iload_n C.1 C.2.1 dL_rangeAge_3 rfl (lv_at hl 1 rfl) ?_
  refine lv_iload_n C.1 C.2.1 dL_rangeAge_4 rfl (lv_at hl 2 rfl) ?_
  refine lv_iload_n C.1 C.2.1 dL_rangeAge_5 rfl (lv_at hl 3 rfl) ?_
  refine x_kx C w [] [0] rfl rfl (by decide) (by decide) (vx_runV (As := [.int v0, .int v1, .int 1]) (rest := [.ref h1]) (xfix C) (c421_X4_rangeAge l G cy sa sv h0 v0 v1 p0 (xtr C) _) (cwV 3 (xhts C) (xgV (maxL := 0) (cc := ⟨#[]⟩) (ret := none) gw_780 gw_781 gw_782 gw_2 gc_X4_rangeAge) rfl rfl rfl (by decide +kernel) ⟨(Nat.le_of_ble_eq_true rfl), (Nat.le_of_ble_eq_true rfl)⟩) (xPV C w [] rfl (by decide) (ci := 8) (q0 := 0) rfl rfl) rfl rfl hl.1 rfl (lv_room (Nat.le_of_ble_eq_true rfl)) dL_rangeAge_6 ⟨(Nat.le_of_ble_eq_true rfl), (Nat.le_of_ble_eq_true rfl)⟩) (fun f2830 H locs ce q9 w hce hcv hcl => ?_)
  have w : xW G A s [(h0, .inr (8, [.ref h2, .ref h3, .ref h4, .ref h5, .ref h6, .int 0, .ref h7, .ref h8]))] H _ := w
  refine vx_widen (k := 1) (n := 6) (Nat.le_of_ble_eq_true rfl) (Nat.le_of_ble_eq_true rfl) ?_
  refine vx_catch (xown C) [] ⟨0, 13, 16, 19⟩ [⟨0, 13, 20, 21⟩] hT (fun z hz => nomatch hz) (by decide) (by decide) (xhts C _ (List.mem_cons_of_mem _ gw_104)) (va_any rfl (xs_c1 (xS C))) hce hcv hcl ?_
  refine lv_astore (lv' := [(5, .ref q9), (0, .ref h0), (1, .int v0), (2, .int v1), (3, .int 1), (4, .ref h1)]) C.1 C.2.1 dL_rangeAge_16 hl (by decide) rfl (fun ls hl => ?_)
  refine lv_iconst (v := 1) C.1 C.2.1 dL_rangeAge_18 (by decide) ?_
  exact x_iret C w hr (fun _ => 0) rfl rfl dL_rangeAge_19 (Nat.le_of_ble_eq_true rfl) (Nat.le_of_ble_eq_true rfl)
set_option maxHeartbeats 4000000 in
set_option maxRecDepth 100000 in
theorem c423_X6_rangeAge (l : Launch) (G : va_G) (cy : Nat → ClassId) (sa : String → Nat → Nat) (sv : Nat → Nat) (h0 h1 h2 h3 h4 h5 h6 h7 : Nat) (v0 v1 : Int32) (p0 : ¬ v0 ≤ v1) : xM l G cy sa sv yX6_rangeAge (Cond.code yX6_rangeAge cX6_rangeAge 4 (some .int) :: XG) { frames := 9, cells := 0, slots := 0, locals := 272 } [.ref h0, .int v0, .int v1, .int 1] [(h0, .inr (10, [.ref h1, .ref h2, .ref h3, .ref h4, .ref h5, .ref h6, .ref h7, .int 0, .int 0]))] (xQi G (fun f => [(h0, .inr (10, [.ref h1, .ref h2, .ref h3, .ref h4, .ref h5, .ref h6, .ref h7, .int 0, .int 1]))]) 0) := by
  refine xof (by decide) (Nat.le_of_ble_eq_true rfl) (fun p e s m below meth c A C w hr hn ls hl => ?_)
  have hl : lv_has ls 4 [(0, .ref h0), (1, .int v0), (2, .int v1), (3, .int 1)] := hl
  refine lv_aload_n C.1 C.2.1 dX6_rangeAge_0 rfl (lv_at hl 0 rfl) ?_
  refine lv_iload_n C.1 C.2.1 dX6_rangeAge_1 rfl (lv_at hl 1 rfl) ?_
  refine lv_iload_n C.1 C.2.1 dX6_rangeAge_2 rfl (lv_at hl 2 rfl) ?_
  refine lv_icmp_le (tgt := 10) C.1 C.2.1 dX6_rangeAge_3 (by decide) (fun c9 => absurd c9 p0) (fun _ => ?_)
  refine lv_iconst (v := 1) C.1 C.2.1 dX6_rangeAge_6 (by decide) ?_
  refine lv_goto (tgt := 11) C.1 C.2.1 dX6_rangeAge_7 (by decide) ?_
  refine lv_iconst (v := 1) C.1 C.2.1 dX6_rangeAge_11 (by decide) ?_
  refine x_ki C w [0] [] rfl rfl (by decide) (by decide) (va_runV (As := [.int 1, .int 1]) (rest := []) (xfix C) (c17_X6_start l G cy sa sv h0 h1 h2 h3 h4 h5 h6 h7 (xtr C) _) (cwV 2 (xhts C) (xgV (maxL := 0) (cc := ⟨#[]⟩) (ret := none) gw_114 gw_115 gw_116 gw_58 gc_X6_start) rfl rfl rfl (by decide +kernel) ⟨(Nat.le_of_ble_eq_true rfl), (Nat.le_of_ble_eq_true rfl)⟩) (xPV C w [0] rfl (by decide) (ci := 10) (q0 := 0) rfl rfl) rfl rfl hl.1 rfl (lv_room (Nat.le_of_ble_eq_true rfl)) dX6_rangeAge_12 ⟨(Nat.le_of_ble_eq_true rfl), (Nat.le_of_ble_eq_true rfl)⟩) (fun f2833 H locs w => ?_)
  have w : xW G A s [(h0, .inr (10, [.ref h1, .ref h2, .ref h3, .ref h4, .ref h5, .ref h6, .ref h7, .int 0, .int 1]))] H _ := w
  refine lv_if_ne (tgt := 43) C.1 C.2.1 dX6_rangeAge_15 (by decide) (fun _ => ?_) (fun c9 => absurd c9 (by decide))
  refine lv_iconst (v := 0) C.1 C.2.1 dX6_rangeAge_43 (by decide) ?_
  refine lv_goto (tgt := 57) C.1 C.2.1 dX6_rangeAge_44 (by decide) ?_
  exact x_iret C w hr (fun _ => 0) rfl rfl dX6_rangeAge_57 (Nat.le_of_ble_eq_true rfl) (Nat.le_of_ble_eq_true rfl)
set_option maxHeartbeats 4000000 in
set_option maxRecDepth 100000 in
theorem c424_X4_chooseByUse (l : Launch) (G : va_G) (cy : Nat → ClassId) (sa : String → Nat → Nat) (sv : Nat → Nat) (h0 h1 h2 h3 h4 h5 h6 h7 h8 h9 : Nat) : xM l G cy sa sv yX4_chooseByUse (Cond.code yX4_chooseByUse cX4_chooseByUse 5 none :: XG) { frames := 9, cells := 0, slots := 0, locals := 270 } [.ref h0, .int (-2147483648), .int 2147483647] [(h0, .inr (8, [.ref h3, .ref h2, .ref h4, .ref h5, .ref h6, .int 0, .ref h1, .ref h7])), (h1, .inr (6, [.ref h8, .int 0])), (h2, .inr (6, [.ref h9, .int 0]))] (xQv G (fun f => [(h0, .inr (8, [.ref h3, .ref h2, .ref h4, .ref h5, .ref h6, .int 0, .ref h1, .ref h7])), (h1, .inr (6, [.ref h8, .int 0])), (h2, .inr (6, [.ref h9, .int 0]))])) := by
  refine xof (by decide) (Nat.le_of_ble_eq_true rfl) (fun p e s m below meth c A C w hr hn ls hl => ?_)
  have hl : lv_has ls 5 [(0, .ref h0), (1, .int (-2147483648)), (2, .int 2147483647)] := hl
  refine lv_aload_n C.1 C.2.1 dX4_chooseByUse_0 rfl (lv_at hl 0 rfl) ?_
  refine x_get (v := .ref h1) C w 0 8 6 (xin_X4 _) rfl rfl (by decide) (List.mem_cons_of_mem _ gw_51) rfl rfl dX4_chooseByUse_1 ?_
  refine x_kv C w [1] [0, 2] rfl rfl (by decide) (by decide) (va_runV (As := []) (rest := []) (xfix C) (c109_X2_empty l G cy sa sv h1 h8 (xtr C) _) (cwV 0 (xhts C) (xgV (maxL := 0) (cc := ⟨#[]⟩) (ret := none) gw_312 gw_313 gw_314 gw_11 gc_X2_empty) rfl rfl rfl (by decide +kernel) ⟨(Nat.le_of_ble_eq_true rfl), (Nat.le_of_ble_eq_true rfl)⟩) (xPV C w [1] rfl (by decide) (ci := 6) (q0 := 1) rfl rfl) rfl rfl hl.1 rfl (lv_room (Nat.le_of_ble_eq_true rfl)) dX4_chooseByUse_4 ⟨(Nat.le_of_ble_eq_true rfl), (Nat.le_of_ble_eq_true rfl)⟩) (fun f2841 H locs w => ?_)
  have w : xW G A s [(h0, .inr (8, [.ref h3, .ref h2, .ref h4, .ref h5, .ref h6, .int 0, .ref h1, .ref h7])), (h2, .inr (6, [.ref h9, .int 0])), (h1, .inr (6, [.ref h8, .int 0]))] H _ := w
  refine lv_aload_n C.1 C.2.1 dX4_chooseByUse_7 rfl (lv_at hl 0 rfl) ?_
  refine x_get (v := .ref h2) C w 0 8 1 (xin_X4 _) rfl rfl (by decide) (List.mem_cons_of_mem _ gw_27) rfl rfl dX4_chooseByUse_8 ?_
  refine x_ki C w [1] [0, 2] rfl rfl (by decide) (by decide) (va_runV (As := []) (rest := []) (xfix C) (c21_X2_count l G cy sa sv h2 h9 (xtr C) _) (cwV 0 (xhts C) (xgV (maxL := 0) (cc := ⟨#[]⟩) (ret := none) gw_316 gw_127 gw_128 gw_11 gc_X2_count) rfl rfl rfl (by decide +kernel) ⟨(Nat.le_of_ble_eq_true rfl), (Nat.le_of_ble_eq_true rfl)⟩) (xPV C w [1] rfl (by decide) (ci := 6) (q0 := 1) rfl rfl) rfl rfl hl.1 rfl (lv_room (Nat.le_of_ble_eq_true rfl)) dX4_chooseByUse_11 ⟨(Nat.le_of_ble_eq_true rfl), (Nat.le_of_ble_eq_true rfl)⟩) (fun f2842 H locs w => ?_)
  have w : xW G A s [(h0, .inr (8, [.ref h3, .ref h2, .ref h4, .ref h5, .ref h6, .int 0, .ref h1, .ref h7])), (h1, .inr (6, [.ref h8, .int 0])), (h2, .inr (6, [.ref h9, .int 0]))] H _ := w
  refine lv_istore_n (lv' := [(3, .int 0), (0, .ref h0), (1, .int (-2147483648)), (2, .int 2147483647)]) C.1 C.2.1 dX4_chooseByUse_14 rfl hl (by decide) rfl (fun ls hl => ?_)
  refine lv_iconst (v := 0) C.1 C.2.1 dX4_chooseByUse_15 (by decide) ?_
  refine lv_istore (lv' := [(4, .int 0), (3, .int 0), (0, .ref h0), (1, .int (-2147483648)), (2, .int 2147483647)]) C.1 C.2.1 dX4_chooseByUse_16 hl (by decide) rfl (fun ls hl => ?_)
  refine lv_iload C.1 C.2.1 dX4_chooseByUse_18 (lv_at hl 0 rfl) ?_
  refine lv_iload_n C.1 C.2.1 dX4_chooseByUse_20 rfl (lv_at hl 1 rfl) ?_
  refine lv_icmp_ge (tgt := 63) C.1 C.2.1 dX4_chooseByUse_21 (by decide) (fun _ => ?_) (fun c9 => absurd (by decide) c9)
  exact x_vret C w hr (fun _ => 0) rfl dX4_chooseByUse_63 (Nat.le_of_ble_eq_true rfl) (Nat.le_of_ble_eq_true rfl)
set_option maxHeartbeats 4000000 in
set_option maxRecDepth 100000 in
theorem c425_X4_rangeAge (l : Launch) (G : va_G) (cy : Nat → ClassId) (sa : String → Nat → Nat) (sv : Nat → Nat) (h0 h1 h2 h3 h4 h5 h6 h7 h8 h9 : Nat) : xX l G cy sa sv yX4_rangeAge (Cond.code yX4_rangeAge cX4_rangeAge 4 (some .int) :: XG) { frames := 10, cells := 1, slots := 6, locals := 294 } [.ref h0, .int (-2147483648), .int 2147483647, .int 0] [(h0, .inr (8, [.ref h3, .ref h2, .ref h4, .ref h5, .ref h6, .int 0, .ref h1, .ref h7])), (h1, .inr (6, [.ref h8, .int 0])), (h2, .inr (6, [.ref h9, .int 0]))] (fun f => [(h0, .inr (8, [.ref h3, .ref h2, .ref h4, .ref h5, .ref h6, .int 0, .ref h1, .ref h7])), (h1, .inr (6, [.ref h8, .int 0])), (h2, .inr (6, [.ref h9, .int 0]))]) "java/lang/IllegalStateException" := by
  refine xofX (by decide) (Nat.le_of_ble_eq_true rfl) (fun p e s m below meth c A C w hno ls hl => ?_)
  have hl : lv_has ls 4 [(0, .ref h0), (1, .int (-2147483648)), (2, .int 2147483647), (3, .int 0)] := hl
  refine lv_iload_n C.1 C.2.1 dX4_rangeAge_0 rfl (lv_at hl 1 rfl) ?_
  refine lv_iload_n C.1 C.2.1 dX4_rangeAge_1 rfl (lv_at hl 2 rfl) ?_
  refine x_kv C w [] [0, 1, 2] rfl rfl (by decide) (by decide) (va_runS (As := [.int (-2147483648), .int 2147483647]) (rest := []) (xfix C) (c131_X4_checkRange l G cy sa sv (xtr C) _) (va_cwS 2 (xhts C) (xgS gw_390 gw_391 gw_2 gc_X4_checkRange) rfl rfl rfl (by decide +kernel) ⟨(Nat.le_of_ble_eq_true rfl), (Nat.le_of_ble_eq_true rfl)⟩) (xPS C w [] rfl (by decide)) rfl rfl hl.1 rfl (lv_room (Nat.le_of_ble_eq_true rfl)) dX4_rangeAge_2 ⟨(Nat.le_of_ble_eq_true rfl), (Nat.le_of_ble_eq_true rfl)⟩) (fun f2840 H locs w => ?_)
  have w : xW G A s [(h0, .inr (8, [.ref h3, .ref h2, .ref h4, .ref h5, .ref h6, .int 0, .ref h1, .ref h7])), (h1, .inr (6, [.ref h8, .int 0])), (h2, .inr (6, [.ref h9, .int 0]))] H _ := w
  refine lv_aload_n C.1 C.2.1 dX4_rangeAge_5 rfl (lv_at hl 0 rfl) ?_
  refine lv_iload_n C.1 C.2.1 dX4_rangeAge_6 rfl (lv_at hl 1 rfl) ?_
  refine lv_iload_n C.1 C.2.1 dX4_rangeAge_7 rfl (lv_at hl 2 rfl) ?_
  refine x_kv C w [0, 1, 2] [] rfl rfl (by decide) (by decide) (va_runV (As := [.int (-2147483648), .int 2147483647]) (rest := []) (xfix C) (c424_X4_chooseByUse l G cy sa sv h0 h1 h2 h3 h4 h5 h6 h7 h8 h9 (xtr C) _) (cwV 2 (xhts C) (xgV (maxL := 0) (cc := ⟨#[]⟩) (ret := none) gw_762 gw_763 gw_764 gw_2 gc_X4_chooseByUse) rfl rfl rfl (by decide +kernel) ⟨(Nat.le_of_ble_eq_true rfl), (Nat.le_of_ble_eq_true rfl)⟩) (xPV C w [0, 1, 2] rfl (by decide) (ci := 8) (q0 := 0) rfl rfl) rfl rfl hl.1 rfl (lv_room (Nat.le_of_ble_eq_true rfl)) dX4_rangeAge_8 ⟨(Nat.le_of_ble_eq_true rfl), (Nat.le_of_ble_eq_true rfl)⟩) (fun f2843 H locs w => ?_)
  have w : xW G A s [(h0, .inr (8, [.ref h3, .ref h2, .ref h4, .ref h5, .ref h6, .int 0, .ref h1, .ref h7])), (h1, .inr (6, [.ref h8, .int 0])), (h2, .inr (6, [.ref h9, .int 0]))] H _ := w
  refine lv_aload_n C.1 C.2.1 dX4_rangeAge_11 rfl (lv_at hl 0 rfl) ?_
  refine x_get (v := .ref h1) C w 0 8 6 (xin_X4 _) rfl rfl (by decide) (List.mem_cons_of_mem _ gw_51) rfl rfl dX4_rangeAge_12 ?_
  refine x_ki C w [1] [0, 2] rfl rfl (by decide) (by decide) (va_runV (As := []) (rest := []) (xfix C) (c21_X2_count l G cy sa sv h1 h8 (xtr C) _) (cwV 0 (xhts C) (xgV (maxL := 0) (cc := ⟨#[]⟩) (ret := none) gw_316 gw_127 gw_128 gw_11 gc_X2_count) rfl rfl rfl (by decide +kernel) ⟨(Nat.le_of_ble_eq_true rfl), (Nat.le_of_ble_eq_true rfl)⟩) (xPV C w [1] rfl (by decide) (ci := 6) (q0 := 1) rfl rfl) rfl rfl hl.1 rfl (lv_room (Nat.le_of_ble_eq_true rfl)) dX4_rangeAge_15 ⟨(Nat.le_of_ble_eq_true rfl), (Nat.le_of_ble_eq_true rfl)⟩) (fun f2844 H locs w => ?_)
  have w : xW G A s [(h0, .inr (8, [.ref h3, .ref h2, .ref h4, .ref h5, .ref h6, .int 0, .ref h1, .ref h7])), (h2, .inr (6, [.ref h9, .int 0])), (h1, .inr (6, [.ref h8, .int 0]))] H _ := w
  refine lv_if_ne (tgt := 31) C.1 C.2.1 dX4_rangeAge_18 (by decide) (fun c9 => absurd (by decide) c9) (fun _ => ?_)
  have w := w.sub (ws' := [(h0, .inr (8, [.ref h3, .ref h2, .ref h4, .ref h5, .ref h6, .int 0, .ref h1, .ref h7])), (h1, .inr (6, [.ref h8, .int 0])), (h2, .inr (6, [.ref h9, .int 0]))]) [0, 2, 1] (by decide) rfl rfl
  exact x_thr C w hno hl.1 (by decide) (List.mem_cons_of_mem _ gw_397) (List.mem_cons_of_mem _ gw_398) (tx := "there is no such key") (List.mem_of_getElem? (i := 1) rfl) (xat_161 C (fun w h => List.mem_cons_of_mem _ h)) xatg_161 dX4_rangeAge_21 dX4_rangeAge_24 dX4_rangeAge_25 dX4_rangeAge_27 dX4_rangeAge_30 (Nat.le_of_ble_eq_true rfl) (Nat.le_of_ble_eq_true rfl) (Nat.le_of_ble_eq_true rfl) (Nat.le_of_ble_eq_true rfl) rfl rfl (fun _ => 0) rfl
set_option maxHeartbeats 4000000 in
set_option maxRecDepth 100000 in
theorem c426_X4_aged (l : Launch) (G : va_G) (cy : Nat → ClassId) (sa : String → Nat → Nat) (sv : Nat → Nat) (h0 h1 h2 h3 h4 h5 h6 h7 h8 h9 : Nat) : xX l G cy sa sv yX4_aged (Cond.code yX4_aged cX4_aged 2 (some .int) :: XG) { frames := 11, cells := 1, slots := 6, locals := 317 } [.ref h0, .int 0] [(h0, .inr (8, [.ref h3, .ref h2, .ref h4, .ref h5, .ref h6, .int 0, .ref h1, .ref h7])), (h1, .inr (6, [.ref h8, .int 0])), (h2, .inr (6, [.ref h9, .int 0]))] (fun f => [(h0, .inr (8, [.ref h3, .ref h2, .ref h4, .ref h5, .ref h6, .int 0, .ref h1, .ref h7])), (h1, .inr (6, [.ref h8, .int 0])), (h2, .inr (6, [.ref h9, .int 0]))]) "java/lang/IllegalStateException" := by
  refine xofX (by decide) (Nat.le_of_ble_eq_true rfl) (fun p e s m below meth c A C w hno ls hl => ?_)
  have hl : lv_has ls 2 [(0, .ref h0), (1, .int 0)] := hl
  refine lv_aload_n C.1 C.2.1 dX4_aged_0 rfl (lv_at hl 0 rfl) ?_
  refine x_ldc (v := (-2147483648)) C (List.mem_cons_of_mem _ gw_305) dX4_aged_1 ?_
  refine x_ldc (v := 2147483647) C (List.mem_cons_of_mem _ gw_306) dX4_aged_3 ?_
  refine lv_iload_n C.1 C.2.1 dX4_aged_5 rfl (lv_at hl 1 rfl) ?_
  refine x_kx C w [0, 1, 2] [] rfl rfl (by decide) (by decide) (vx_runV (As := [.int (-2147483648), .int 2147483647, .int 0]) (rest := []) (xfix C) (c425_X4_rangeAge l G cy sa sv h0 h1 h2 h3 h4 h5 h6 h7 h8 h9 (xtr C) _) (cwV 3 (xhts C) (xgV (maxL := 0) (cc := ⟨#[]⟩) (ret := none) gw_790 gw_781 gw_782 gw_2 gc_X4_rangeAge) rfl rfl rfl (by decide +kernel) ⟨(Nat.le_of_ble_eq_true rfl), (Nat.le_of_ble_eq_true rfl)⟩) (xPV C w [0, 1, 2] rfl (by decide) (ci := 8) (q0 := 0) rfl rfl) rfl rfl hl.1 rfl (lv_room (Nat.le_of_ble_eq_true rfl)) dX4_aged_6 ⟨(Nat.le_of_ble_eq_true rfl), (Nat.le_of_ble_eq_true rfl)⟩) (fun f2845 H locs ce q9 w hce hcv hcl => ?_)
  have w : xW G A s [(h0, .inr (8, [.ref h3, .ref h2, .ref h4, .ref h5, .ref h6, .int 0, .ref h1, .ref h7])), (h1, .inr (6, [.ref h8, .int 0])), (h2, .inr (6, [.ref h9, .int 0]))] H _ := w
  refine vx_widen (k := 1) (n := 6) (Nat.le_of_ble_eq_true rfl) (Nat.le_of_ble_eq_true rfl) ?_
  exact x_out C w hno (fun _ => 0) rfl hce hcv hcl (Nat.le_of_ble_eq_true rfl) (Nat.le_of_ble_eq_true rfl)
set_option maxHeartbeats 4000000 in
set_option maxRecDepth 100000 in
theorem c427_L_aged (l : Launch) (G : va_G) (cy : Nat → ClassId) (sa : String → Nat → Nat) (sv : Nat → Nat) (h0 h1 h2 h3 h4 h5 h6 h7 h8 h9 h10 : Nat) : xM l G cy sa sv yL_aged (Cond.codeWith yL_aged cL_aged 4 (some .int) [(0, 10, 13, 21)] :: XG) { frames := 12, cells := 1, slots := 6, locals := 338 } [.ref h0, .int 0, .ref h1] [(h0, .inr (8, [.ref h4, .ref h3, .ref h5, .ref h6, .ref h7, .int 0, .ref h2, .ref h8])), (h2, .inr (6, [.ref h9, .int 0])), (h3, .inr (6, [.ref h10, .int 0]))] (xQi G (fun f => [(h0, .inr (8, [.ref h4, .ref h3, .ref h5, .ref h6, .ref h7, .int 0, .ref h2, .ref h8])), (h2, .inr (6, [.ref h9, .int 0])), (h3, .inr (6, [.ref h10, .int 0]))]) 1) := by
  refine xofH (by decide) (Nat.le_of_ble_eq_true rfl) (fun p e s m below meth c A C w hr hn hT ls hl => ?_)
  have hl : lv_has ls 4 [(0, .ref h0), (1, .int 0), (2, .ref h1)] := hl
  refine lv_aload_n C.1 C.2.1 dL_aged_0 rfl (lv_at hl 2 rfl) ?_
  refine lv_aload_n C.1 C.2.1 dL_aged_1 rfl (lv_at hl 0 rfl) ?_
  refine lv_iload_n C.1 C.2.1 dL_aged_2 rfl (lv_at hl 1 rfl) ?_
  refine x_kx C w [0, 1, 2] [] rfl rfl (by decide) (by decide) (vx_runV (As := [.int 0]) (rest := [.ref h1]) (xfix C) (c426_X4_aged l G cy sa sv h0 h2 h3 h4 h5 h6 h7 h8 h9 h10 (xtr C) _) (cwV 1 (xhts C) (xgV (maxL := 0) (cc := ⟨#[]⟩) (ret := none) gw_792 gw_793 gw_794 gw_2 gc_X4_aged) rfl rfl rfl (by decide +kernel) ⟨(Nat.le_of_ble_eq_true rfl), (Nat.le_of_ble_eq_true rfl)⟩) (xPV C w [0, 1, 2] rfl (by decide) (ci := 8) (q0 := 0) rfl rfl) rfl rfl hl.1 rfl (lv_room (Nat.le_of_ble_eq_true rfl)) dL_aged_3 ⟨(Nat.le_of_ble_eq_true rfl), (Nat.le_of_ble_eq_true rfl)⟩) (fun f2846 H locs ce q9 w hce hcv hcl => ?_)
  have w : xW G A s [(h0, .inr (8, [.ref h4, .ref h3, .ref h5, .ref h6, .ref h7, .int 0, .ref h2, .ref h8])), (h2, .inr (6, [.ref h9, .int 0])), (h3, .inr (6, [.ref h10, .int 0]))] H _ := w
  refine vx_widen (k := 1) (n := 6) (Nat.le_of_ble_eq_true rfl) (Nat.le_of_ble_eq_true rfl) ?_
  refine vx_catch (xown C) [] ⟨0, 10, 13, 21⟩ [] hT (fun z hz => nomatch hz) (by decide) (by decide) (xhts C _ (List.mem_cons_of_mem _ gw_407)) (va_any rfl (xs_c2 (xS C))) hce hcv hcl ?_
  refine lv_astore_n (lv' := [(3, .ref q9), (0, .ref h0), (1, .int 0), (2, .ref h1)]) C.1 C.2.1 dL_aged_13 rfl hl (by decide) rfl (fun ls hl => ?_)
  refine lv_iconst (v := 1) C.1 C.2.1 dL_aged_14 (by decide) ?_
  exact x_iret C w hr (fun _ => 0) rfl rfl dL_aged_15 (Nat.le_of_ble_eq_true rfl) (Nat.le_of_ble_eq_true rfl)
set_option maxHeartbeats 4000000 in
set_option maxRecDepth 100000 in
theorem c428_X6_aged (l : Launch) (G : va_G) (cy : Nat → ClassId) (sa : String → Nat → Nat) (sv : Nat → Nat) (h0 h1 h2 h3 h4 h5 h6 h7 : Nat) : xM l G cy sa sv yX6_aged (Cond.code yX6_aged cX6_aged 2 (some .int) :: XG) { frames := 9, cells := 0, slots := 0, locals := 272 } [.ref h0, .int 0] [(h0, .inr (10, [.ref h1, .ref h2, .ref h3, .ref h4, .ref h5, .ref h6, .ref h7, .int 0, .int 0])), (h1, .inr (3, [.int 0, .ref (sv 0), .int 0]))] (xQi G (fun f => [(h0, .inr (10, [.ref h1, .ref h2, .ref h3, .ref h4, .ref h5, .ref h6, .ref h7, .int 0, .int 1])), (h1, .inr (3, [.int 0, .ref (sv 0), .int 0]))]) 0) := by
  refine xof (by decide) (Nat.le_of_ble_eq_true rfl) (fun p e s m below meth c A C w hr hn ls hl => ?_)
  have hl : lv_has ls 2 [(0, .ref h0), (1, .int 0)] := hl
  refine lv_aload_n C.1 C.2.1 dX6_aged_0 rfl (lv_at hl 0 rfl) ?_
  refine lv_aload_n C.1 C.2.1 dX6_aged_1 rfl (lv_at hl 0 rfl) ?_
  refine x_get (v := .ref h1) C w 0 10 0 (xin_X6 _) rfl rfl (by decide) (List.mem_cons_of_mem _ gw_78) rfl rfl dX6_aged_2 ?_
  refine x_ki C w [1] [0] rfl rfl (by decide) (by decide) (va_runV (As := []) (rest := [.ref h0]) (xfix C) (c47_Jx4a65c_size_8abf5 l G cy sa sv h1 (xtr C) _) (cwV 0 (xhts C) (xgV (maxL := 0) (cc := ⟨#[]⟩) (ret := none) gw_195 gw_196 gw_197 gw_62 gc_Jx4a65c_size_8abf5) rfl rfl rfl (by decide +kernel) ⟨(Nat.le_of_ble_eq_true rfl), (Nat.le_of_ble_eq_true rfl)⟩) (xPV C w [1] rfl (by decide) (ci := 3) (q0 := 1) rfl rfl) rfl rfl hl.1 rfl (lv_room (Nat.le_of_ble_eq_true rfl)) dX6_aged_5 ⟨(Nat.le_of_ble_eq_true rfl), (Nat.le_of_ble_eq_true rfl)⟩) (fun f2849 H locs w => ?_)
  have w : xW G A s [(h0, .inr (10, [.ref h1, .ref h2, .ref h3, .ref h4, .ref h5, .ref h6, .ref h7, .int 0, .int 0])), (h1, .inr (3, [.int 0, .ref (sv 0), .int 0]))] H _ := w
  refine lv_if_ne (tgt := 15) C.1 C.2.1 dX6_aged_8 (by decide) (fun c9 => absurd (by decide) c9) (fun _ => ?_)
  refine lv_iconst (v := 1) C.1 C.2.1 dX6_aged_11 (by decide) ?_
  refine lv_goto (tgt := 16) C.1 C.2.1 dX6_aged_12 (by decide) ?_
  refine lv_iconst (v := 1) C.1 C.2.1 dX6_aged_16 (by decide) ?_
  refine x_ki C w [0] [1] rfl rfl (by decide) (by decide) (va_runV (As := [.int 1, .int 1]) (rest := []) (xfix C) (c17_X6_start l G cy sa sv h0 h1 h2 h3 h4 h5 h6 h7 (xtr C) _) (cwV 2 (xhts C) (xgV (maxL := 0) (cc := ⟨#[]⟩) (ret := none) gw_114 gw_115 gw_116 gw_58 gc_X6_start) rfl rfl rfl (by decide +kernel) ⟨(Nat.le_of_ble_eq_true rfl), (Nat.le_of_ble_eq_true rfl)⟩) (xPV C w [0] rfl (by decide) (ci := 10) (q0 := 0) rfl rfl) rfl rfl hl.1 rfl (lv_room (Nat.le_of_ble_eq_true rfl)) dX6_aged_17 ⟨(Nat.le_of_ble_eq_true rfl), (Nat.le_of_ble_eq_true rfl)⟩) (fun f2850 H locs w => ?_)
  have w : xW G A s [(h1, .inr (3, [.int 0, .ref (sv 0), .int 0])), (h0, .inr (10, [.ref h1, .ref h2, .ref h3, .ref h4, .ref h5, .ref h6, .ref h7, .int 0, .int 1]))] H _ := w
  refine lv_if_eq (tgt := 27) C.1 C.2.1 dX6_aged_20 (by decide) (fun c9 => absurd c9 (by decide)) (fun _ => ?_)
  refine lv_iconst (v := 0) C.1 C.2.1 dX6_aged_23 (by decide) ?_
  refine lv_goto (tgt := 35) C.1 C.2.1 dX6_aged_24 (by decide) ?_
  have w := w.sub (ws' := [(h0, .inr (10, [.ref h1, .ref h2, .ref h3, .ref h4, .ref h5, .ref h6, .ref h7, .int 0, .int 1])), (h1, .inr (3, [.int 0, .ref (sv 0), .int 0]))]) [1, 0] (by decide) rfl rfl
  exact x_iret C w hr (fun _ => 0) rfl rfl dX6_aged_35 (Nat.le_of_ble_eq_true rfl) (Nat.le_of_ble_eq_true rfl)
set_option maxHeartbeats 4000000 in
set_option maxRecDepth 100000 in
theorem c429_X4_rangeAge (l : Launch) (G : va_G) (cy : Nat → ClassId) (sa : String → Nat → Nat) (sv : Nat → Nat) (h0 h1 h2 h3 h4 h5 h6 h7 h8 h9 : Nat) : xX l G cy sa sv yX4_rangeAge (Cond.code yX4_rangeAge cX4_rangeAge 4 (some .int) :: XG) { frames := 10, cells := 1, slots := 6, locals := 294 } [.ref h0, .int (-2147483648), .int 2147483647, .int 1] [(h0, .inr (8, [.ref h3, .ref h2, .ref h4, .ref h5, .ref h6, .int 0, .ref h1, .ref h7])), (h1, .inr (6, [.ref h8, .int 0])), (h2, .inr (6, [.ref h9, .int 0]))] (fun f => [(h0, .inr (8, [.ref h3, .ref h2, .ref h4, .ref h5, .ref h6, .int 0, .ref h1, .ref h7])), (h1, .inr (6, [.ref h8, .int 0])), (h2, .inr (6, [.ref h9, .int 0]))]) "java/lang/IllegalStateException" := by
  refine xofX (by decide) (Nat.le_of_ble_eq_true rfl) (fun p e s m below meth c A C w hno ls hl => ?_)
  have hl : lv_has ls 4 [(0, .ref h0), (1, .int (-2147483648)), (2, .int 2147483647), (3, .int 1)] := hl
  refine lv_iload_n C.1 C.2.1 dX4_rangeAge_0 rfl (lv_at hl 1 rfl) ?_
  refine lv_iload_n C.1 C.2.1 dX4_rangeAge_1 rfl (lv_at hl 2 rfl) ?_
  refine x_kv C w [] [0, 1, 2] rfl rfl (by decide) (by decide) (va_runS (As := [.int (-2147483648), .int 2147483647]) (rest := []) (xfix C) (c131_X4_checkRange l G cy sa sv (xtr C) _) (va_cwS 2 (xhts C) (xgS gw_390 gw_391 gw_2 gc_X4_checkRange) rfl rfl rfl (by decide +kernel) ⟨(Nat.le_of_ble_eq_true rfl), (Nat.le_of_ble_eq_true rfl)⟩) (xPS C w [] rfl (by decide)) rfl rfl hl.1 rfl (lv_room (Nat.le_of_ble_eq_true rfl)) dX4_rangeAge_2 ⟨(Nat.le_of_ble_eq_true rfl), (Nat.le_of_ble_eq_true rfl)⟩) (fun f2856 H locs w => ?_)
  have w : xW G A s [(h0, .inr (8, [.ref h3, .ref h2, .ref h4, .ref h5, .ref h6, .int 0, .ref h1, .ref h7])), (h1, .inr (6, [.ref h8, .int 0])), (h2, .inr (6, [.ref h9, .int 0]))] H _ := w
  refine lv_aload_n C.1 C.2.1 dX4_rangeAge_5 rfl (lv_at hl 0 rfl) ?_
  refine lv_iload_n C.1 C.2.1 dX4_rangeAge_6 rfl (lv_at hl 1 rfl) ?_
  refine lv_iload_n C.1 C.2.1 dX4_rangeAge_7 rfl (lv_at hl 2 rfl) ?_
  refine x_kv C w [0, 1, 2] [] rfl rfl (by decide) (by decide) (va_runV (As := [.int (-2147483648), .int 2147483647]) (rest := []) (xfix C) (c424_X4_chooseByUse l G cy sa sv h0 h1 h2 h3 h4 h5 h6 h7 h8 h9 (xtr C) _) (cwV 2 (xhts C) (xgV (maxL := 0) (cc := ⟨#[]⟩) (ret := none) gw_762 gw_763 gw_764 gw_2 gc_X4_chooseByUse) rfl rfl rfl (by decide +kernel) ⟨(Nat.le_of_ble_eq_true rfl), (Nat.le_of_ble_eq_true rfl)⟩) (xPV C w [0, 1, 2] rfl (by decide) (ci := 8) (q0 := 0) rfl rfl) rfl rfl hl.1 rfl (lv_room (Nat.le_of_ble_eq_true rfl)) dX4_rangeAge_8 ⟨(Nat.le_of_ble_eq_true rfl), (Nat.le_of_ble_eq_true rfl)⟩) (fun f2859 H locs w => ?_)
  have w : xW G A s [(h0, .inr (8, [.ref h3, .ref h2, .ref h4, .ref h5, .ref h6, .int 0, .ref h1, .ref h7])), (h1, .inr (6, [.ref h8, .int 0])), (h2, .inr (6, [.ref h9, .int 0]))] H _ := w
  refine lv_aload_n C.1 C.2.1 dX4_rangeAge_11 rfl (lv_at hl 0 rfl) ?_
  refine x_get (v := .ref h1) C w 0 8 6 (xin_X4 _) rfl rfl (by decide) (List.mem_cons_of_mem _ gw_51) rfl rfl dX4_rangeAge_12 ?_
  refine x_ki C w [1] [0, 2] rfl rfl (by decide) (by decide) (va_runV (As := []) (rest := []) (xfix C) (c21_X2_count l G cy sa sv h1 h8 (xtr C) _) (cwV 0 (xhts C) (xgV (maxL := 0) (cc := ⟨#[]⟩) (ret := none) gw_316 gw_127 gw_128 gw_11 gc_X2_count) rfl rfl rfl (by decide +kernel) ⟨(Nat.le_of_ble_eq_true rfl), (Nat.le_of_ble_eq_true rfl)⟩) (xPV C w [1] rfl (by decide) (ci := 6) (q0 := 1) rfl rfl) rfl rfl hl.1 rfl (lv_room (Nat.le_of_ble_eq_true rfl)) dX4_rangeAge_15 ⟨(Nat.le_of_ble_eq_true rfl), (Nat.le_of_ble_eq_true rfl)⟩) (fun f2860 H locs w => ?_)
  have w : xW G A s [(h0, .inr (8, [.ref h3, .ref h2, .ref h4, .ref h5, .ref h6, .int 0, .ref h1, .ref h7])), (h2, .inr (6, [.ref h9, .int 0])), (h1, .inr (6, [.ref h8, .int 0]))] H _ := w
  refine lv_if_ne (tgt := 31) C.1 C.2.1 dX4_rangeAge_18 (by decide) (fun c9 => absurd (by decide) c9) (fun _ => ?_)
  have w := w.sub (ws' := [(h0, .inr (8, [.ref h3, .ref h2, .ref h4, .ref h5, .ref h6, .int 0, .ref h1, .ref h7])), (h1, .inr (6, [.ref h8, .int 0])), (h2, .inr (6, [.ref h9, .int 0]))]) [0, 2, 1] (by decide) rfl rfl
  exact x_thr C w hno hl.1 (by decide) (List.mem_cons_of_mem _ gw_397) (List.mem_cons_of_mem _ gw_398) (tx := "there is no such key") (List.mem_of_getElem? (i := 1) rfl) (xat_161 C (fun w h => List.mem_cons_of_mem _ h)) xatg_161 dX4_rangeAge_21 dX4_rangeAge_24 dX4_rangeAge_25 dX4_rangeAge_27 dX4_rangeAge_30 (Nat.le_of_ble_eq_true rfl) (Nat.le_of_ble_eq_true rfl) (Nat.le_of_ble_eq_true rfl) (Nat.le_of_ble_eq_true rfl) rfl rfl (fun _ => 0) rfl
set_option maxHeartbeats 4000000 in
set_option maxRecDepth 100000 in
theorem c430_X4_aged (l : Launch) (G : va_G) (cy : Nat → ClassId) (sa : String → Nat → Nat) (sv : Nat → Nat) (h0 h1 h2 h3 h4 h5 h6 h7 h8 h9 : Nat) : xX l G cy sa sv yX4_aged (Cond.code yX4_aged cX4_aged 2 (some .int) :: XG) { frames := 11, cells := 1, slots := 6, locals := 317 } [.ref h0, .int 1] [(h0, .inr (8, [.ref h3, .ref h2, .ref h4, .ref h5, .ref h6, .int 0, .ref h1, .ref h7])), (h1, .inr (6, [.ref h8, .int 0])), (h2, .inr (6, [.ref h9, .int 0]))] (fun f => [(h0, .inr (8, [.ref h3, .ref h2, .ref h4, .ref h5, .ref h6, .int 0, .ref h1, .ref h7])), (h1, .inr (6, [.ref h8, .int 0])), (h2, .inr (6, [.ref h9, .int 0]))]) "java/lang/IllegalStateException" := by
  refine xofX (by decide) (Nat.le_of_ble_eq_true rfl) (fun p e s m below meth c A C w hno ls hl => ?_)
  have hl : lv_has ls 2 [(0, .ref h0), (1, .int 1)] := hl
  refine lv_aload_n C.1 C.2.1 dX4_aged_0 rfl (lv_at hl 0 rfl) ?_
  refine x_ldc (v := (-2147483648)) C (List.mem_cons_of_mem _ gw_305) dX4_aged_1 ?_
  refine x_ldc (v := 2147483647) C (List.mem_cons_of_mem _ gw_306) dX4_aged_3 ?_
  refine lv_iload_n C.1 C.2.1 dX4_aged_5 rfl (lv_at hl 1 rfl) ?_
  refine x_kx C w [0, 1, 2] [] rfl rfl (by decide) (by decide) (vx_runV (As := [.int (-2147483648), .int 2147483647, .int 1]) (rest := []) (xfix C) (c429_X4_rangeAge l G cy sa sv h0 h1 h2 h3 h4 h5 h6 h7 h8 h9 (xtr C) _) (cwV 3 (xhts C) (xgV (maxL := 0) (cc := ⟨#[]⟩) (ret := none) gw_790 gw_781 gw_782 gw_2 gc_X4_rangeAge) rfl rfl rfl (by decide +kernel) ⟨(Nat.le_of_ble_eq_true rfl), (Nat.le_of_ble_eq_true rfl)⟩) (xPV C w [0, 1, 2] rfl (by decide) (ci := 8) (q0 := 0) rfl rfl) rfl rfl hl.1 rfl (lv_room (Nat.le_of_ble_eq_true rfl)) dX4_aged_6 ⟨(Nat.le_of_ble_eq_true rfl), (Nat.le_of_ble_eq_true rfl)⟩) (fun f2861 H locs ce q9 w hce hcv hcl => ?_)
  have w : xW G A s [(h0, .inr (8, [.ref h3, .ref h2, .ref h4, .ref h5, .ref h6, .int 0, .ref h1, .ref h7])), (h1, .inr (6, [.ref h8, .int 0])), (h2, .inr (6, [.ref h9, .int 0]))] H _ := w
  refine vx_widen (k := 1) (n := 6) (Nat.le_of_ble_eq_true rfl) (Nat.le_of_ble_eq_true rfl) ?_
  exact x_out C w hno (fun _ => 0) rfl hce hcv hcl (Nat.le_of_ble_eq_true rfl) (Nat.le_of_ble_eq_true rfl)
set_option maxHeartbeats 4000000 in
set_option maxRecDepth 100000 in
theorem c431_L_aged (l : Launch) (G : va_G) (cy : Nat → ClassId) (sa : String → Nat → Nat) (sv : Nat → Nat) (h0 h1 h2 h3 h4 h5 h6 h7 h8 h9 h10 : Nat) : xM l G cy sa sv yL_aged (Cond.codeWith yL_aged cL_aged 4 (some .int) [(0, 10, 13, 21)] :: XG) { frames := 12, cells := 1, slots := 6, locals := 338 } [.ref h0, .int 1, .ref h1] [(h0, .inr (8, [.ref h4, .ref h3, .ref h5, .ref h6, .ref h7, .int 0, .ref h2, .ref h8])), (h2, .inr (6, [.ref h9, .int 0])), (h3, .inr (6, [.ref h10, .int 0]))] (xQi G (fun f => [(h0, .inr (8, [.ref h4, .ref h3, .ref h5, .ref h6, .ref h7, .int 0, .ref h2, .ref h8])), (h2, .inr (6, [.ref h9, .int 0])), (h3, .inr (6, [.ref h10, .int 0]))]) 1) := by
  refine xofH (by decide) (Nat.le_of_ble_eq_true rfl) (fun p e s m below meth c A C w hr hn hT ls hl => ?_)
  have hl : lv_has ls 4 [(0, .ref h0), (1, .int 1), (2, .ref h1)] := hl
  refine lv_aload_n C.1 C.2.1 dL_aged_0 rfl (lv_at hl 2 rfl) ?_
  refine lv_aload_n C.1 C.2.1 dL_aged_1 rfl (lv_at hl 0 rfl) ?_
  refine lv_iload_n C.1 C.2.1 dL_aged_2 rfl (lv_at hl 1 rfl) ?_
  refine x_kx C w [0, 1, 2] [] rfl rfl (by decide) (by decide) (vx_runV (As := [.int 1]) (rest := [.ref h1]) (xfix C) (c430_X4_aged l G cy sa sv h0 h2 h3 h4 h5 h6 h7 h8 h9 h10 (xtr C) _) (cwV 1 (xhts C) (xgV (maxL := 0) (cc := ⟨#[]⟩) (ret := none) gw_792 gw_793 gw_794 gw_2 gc_X4_aged) rfl rfl rfl (by decide +kernel) ⟨(Nat.le_of_ble_eq_true rfl), (Nat.le_of_ble_eq_true rfl)⟩) (xPV C w [0, 1, 2] rfl (by decide) (ci := 8) (q0 := 0) rfl rfl) rfl rfl hl.1 rfl (lv_room (Nat.le_of_ble_eq_true rfl)) dL_aged_3 ⟨(Nat.le_of_ble_eq_true rfl), (Nat.le_of_ble_eq_true rfl)⟩) (fun f2862 H locs ce q9 w hce hcv hcl => ?_)
  have w : xW G A s [(h0, .inr (8, [.ref h4, .ref h3, .ref h5, .ref h6, .ref h7, .int 0, .ref h2, .ref h8])), (h2, .inr (6, [.ref h9, .int 0])), (h3, .inr (6, [.ref h10, .int 0]))] H _ := w
  refine vx_widen (k := 1) (n := 6) (Nat.le_of_ble_eq_true rfl) (Nat.le_of_ble_eq_true rfl) ?_
  refine vx_catch (xown C) [] ⟨0, 10, 13, 21⟩ [] hT (fun z hz => nomatch hz) (by decide) (by decide) (xhts C _ (List.mem_cons_of_mem _ gw_407)) (va_any rfl (xs_c2 (xS C))) hce hcv hcl ?_
  refine lv_astore_n (lv' := [(3, .ref q9), (0, .ref h0), (1, .int 1), (2, .ref h1)]) C.1 C.2.1 dL_aged_13 rfl hl (by decide) rfl (fun ls hl => ?_)
  refine lv_iconst (v := 1) C.1 C.2.1 dL_aged_14 (by decide) ?_
  exact x_iret C w hr (fun _ => 0) rfl rfl dL_aged_15 (Nat.le_of_ble_eq_true rfl) (Nat.le_of_ble_eq_true rfl)
set_option maxHeartbeats 4000000 in
set_option maxRecDepth 100000 in
theorem c432_X6_aged (l : Launch) (G : va_G) (cy : Nat → ClassId) (sa : String → Nat → Nat) (sv : Nat → Nat) (h0 h1 h2 h3 h4 h5 h6 h7 : Nat) : xM l G cy sa sv yX6_aged (Cond.code yX6_aged cX6_aged 2 (some .int) :: XG) { frames := 9, cells := 0, slots := 0, locals := 272 } [.ref h0, .int 1] [(h0, .inr (10, [.ref h1, .ref h2, .ref h3, .ref h4, .ref h5, .ref h6, .ref h7, .int 0, .int 0])), (h1, .inr (3, [.int 0, .ref (sv 0), .int 0]))] (xQi G (fun f => [(h0, .inr (10, [.ref h1, .ref h2, .ref h3, .ref h4, .ref h5, .ref h6, .ref h7, .int 0, .int 1])), (h1, .inr (3, [.int 0, .ref (sv 0), .int 0]))]) 0) := by
  refine xof (by decide) (Nat.le_of_ble_eq_true rfl) (fun p e s m below meth c A C w hr hn ls hl => ?_)
  have hl : lv_has ls 2 [(0, .ref h0), (1, .int 1)] := hl
  refine lv_aload_n C.1 C.2.1 dX6_aged_0 rfl (lv_at hl 0 rfl) ?_
  refine lv_aload_n C.1 C.2.1 dX6_aged_1 rfl (lv_at hl 0 rfl) ?_
  refine x_get (v := .ref h1) C w 0 10 0 (xin_X6 _) rfl rfl (by decide) (List.mem_cons_of_mem _ gw_78) rfl rfl dX6_aged_2 ?_
  refine x_ki C w [1] [0] rfl rfl (by decide) (by decide) (va_runV (As := []) (rest := [.ref h0]) (xfix C) (c47_Jx4a65c_size_8abf5 l G cy sa sv h1 (xtr C) _) (cwV 0 (xhts C) (xgV (maxL := 0) (cc := ⟨#[]⟩) (ret := none) gw_195 gw_196 gw_197 gw_62 gc_Jx4a65c_size_8abf5) rfl rfl rfl (by decide +kernel) ⟨(Nat.le_of_ble_eq_true rfl), (Nat.le_of_ble_eq_true rfl)⟩) (xPV C w [1] rfl (by decide) (ci := 3) (q0 := 1) rfl rfl) rfl rfl hl.1 rfl (lv_room (Nat.le_of_ble_eq_true rfl)) dX6_aged_5 ⟨(Nat.le_of_ble_eq_true rfl), (Nat.le_of_ble_eq_true rfl)⟩) (fun f2865 H locs w => ?_)
  have w : xW G A s [(h0, .inr (10, [.ref h1, .ref h2, .ref h3, .ref h4, .ref h5, .ref h6, .ref h7, .int 0, .int 0])), (h1, .inr (3, [.int 0, .ref (sv 0), .int 0]))] H _ := w
  refine lv_if_ne (tgt := 15) C.1 C.2.1 dX6_aged_8 (by decide) (fun c9 => absurd (by decide) c9) (fun _ => ?_)
  refine lv_iconst (v := 1) C.1 C.2.1 dX6_aged_11 (by decide) ?_
  refine lv_goto (tgt := 16) C.1 C.2.1 dX6_aged_12 (by decide) ?_
  refine lv_iconst (v := 1) C.1 C.2.1 dX6_aged_16 (by decide) ?_
  refine x_ki C w [0] [1] rfl rfl (by decide) (by decide) (va_runV (As := [.int 1, .int 1]) (rest := []) (xfix C) (c17_X6_start l G cy sa sv h0 h1 h2 h3 h4 h5 h6 h7 (xtr C) _) (cwV 2 (xhts C) (xgV (maxL := 0) (cc := ⟨#[]⟩) (ret := none) gw_114 gw_115 gw_116 gw_58 gc_X6_start) rfl rfl rfl (by decide +kernel) ⟨(Nat.le_of_ble_eq_true rfl), (Nat.le_of_ble_eq_true rfl)⟩) (xPV C w [0] rfl (by decide) (ci := 10) (q0 := 0) rfl rfl) rfl rfl hl.1 rfl (lv_room (Nat.le_of_ble_eq_true rfl)) dX6_aged_17 ⟨(Nat.le_of_ble_eq_true rfl), (Nat.le_of_ble_eq_true rfl)⟩) (fun f2866 H locs w => ?_)
  have w : xW G A s [(h1, .inr (3, [.int 0, .ref (sv 0), .int 0])), (h0, .inr (10, [.ref h1, .ref h2, .ref h3, .ref h4, .ref h5, .ref h6, .ref h7, .int 0, .int 1]))] H _ := w
  refine lv_if_eq (tgt := 27) C.1 C.2.1 dX6_aged_20 (by decide) (fun c9 => absurd c9 (by decide)) (fun _ => ?_)
  refine lv_iconst (v := 0) C.1 C.2.1 dX6_aged_23 (by decide) ?_
  refine lv_goto (tgt := 35) C.1 C.2.1 dX6_aged_24 (by decide) ?_
  have w := w.sub (ws' := [(h0, .inr (10, [.ref h1, .ref h2, .ref h3, .ref h4, .ref h5, .ref h6, .ref h7, .int 0, .int 1])), (h1, .inr (3, [.int 0, .ref (sv 0), .int 0]))]) [1, 0] (by decide) rfl rfl
  exact x_iret C w hr (fun _ => 0) rfl rfl dX6_aged_35 (Nat.le_of_ble_eq_true rfl) (Nat.le_of_ble_eq_true rfl)
set_option maxHeartbeats 4000000 in
set_option maxRecDepth 100000 in
theorem c433_X4_ageOf (l : Launch) (G : va_G) (cy : Nat → ClassId) (sa : String → Nat → Nat) (sv : Nat → Nat) (h0 h1 h2 h3 h4 h5 h6 h7 h8 : Nat) (v0 : Int32) : xM l G cy sa sv yX4_ageOf (Cond.code yX4_ageOf cX4_ageOf 3 (some .int) :: XG) { frames := 9, cells := 0, slots := 0, locals := 272 } [.ref h0, .int v0] [(h0, .inr (8, [.ref h2, .ref h1, .ref h3, .ref h4, .ref h5, .int 0, .ref h6, .ref h7])), (h1, .inr (6, [.ref h8, .int 0]))] (xQi G (fun f => [(h0, .inr (8, [.ref h2, .ref h1, .ref h3, .ref h4, .ref h5, .int 0, .ref h6, .ref h7])), (h1, .inr (6, [.ref h8, .int 0]))]) (-1000)) := by
  refine xof (by decide) (Nat.le_of_ble_eq_true rfl) (fun p e s m below meth c A C w hr hn ls hl => ?_)
  have hl : lv_has ls 3 [(0, .ref h0), (1, .int v0)] := hl
  refine lv_aload_n C.1 C.2.1 dX4_ageOf_0 rfl (lv_at hl 0 rfl) ?_
  refine x_get (v := .ref h1) C w 0 8 1 (xin_X4 _) rfl rfl (by decide) (List.mem_cons_of_mem _ gw_27) rfl rfl dX4_ageOf_1 ?_
  refine lv_iload_n C.1 C.2.1 dX4_ageOf_4 rfl (lv_at hl 1 rfl) ?_
  refine x_ki C w [1] [0] rfl rfl (by decide) (by decide) (va_runV (As := [.int v0]) (rest := []) (xfix C) (c24_X2_placeOf l G cy sa sv h1 h8 v0 (xtr C) _) (cwV 1 (xhts C) (xgV (maxL := 0) (cc := ⟨#[]⟩) (ret := none) gw_170 gw_139 gw_140 gw_11 gc_X2_placeOf) rfl rfl rfl (by decide +kernel) ⟨(Nat.le_of_ble_eq_true rfl), (Nat.le_of_ble_eq_true rfl)⟩) (xPV C w [1] rfl (by decide) (ci := 6) (q0 := 1) rfl rfl) rfl rfl hl.1 rfl (lv_room (Nat.le_of_ble_eq_true rfl)) dX4_ageOf_5 ⟨(Nat.le_of_ble_eq_true rfl), (Nat.le_of_ble_eq_true rfl)⟩) (fun f2869 H locs w => ?_)
  have w : xW G A s [(h0, .inr (8, [.ref h2, .ref h1, .ref h3, .ref h4, .ref h5, .int 0, .ref h6, .ref h7])), (h1, .inr (6, [.ref h8, .int 0]))] H _ := w
  refine lv_istore_n (lv' := [(2, .int (-1)), (0, .ref h0), (1, .int v0)]) C.1 C.2.1 dX4_ageOf_8 rfl hl (by decide) rfl (fun ls hl => ?_)
  refine lv_iload_n C.1 C.2.1 dX4_ageOf_9 rfl (lv_at hl 0 rfl) ?_
  refine lv_iconst (v := (-1)) C.1 C.2.1 dX4_ageOf_10 (by decide) ?_
  refine lv_icmp_ne (tgt := 20) C.1 C.2.1 dX4_ageOf_11 (by decide) (fun c9 => absurd (by decide) c9) (fun _ => ?_)
  refine lv_sipush (v := (-1000)) C.1 C.2.1 dX4_ageOf_14 (by decide) ?_
  refine lv_goto (tgt := 31) C.1 C.2.1 dX4_ageOf_17 (by decide) ?_
  exact x_iret C w hr (fun _ => 0) rfl rfl dX4_ageOf_31 (Nat.le_of_ble_eq_true rfl) (Nat.le_of_ble_eq_true rfl)
set_option maxHeartbeats 4000000 in
set_option maxRecDepth 100000 in
theorem c434_X6_ageOf (l : Launch) (G : va_G) (cy : Nat → ClassId) (sa : String → Nat → Nat) (sv : Nat → Nat) (h0 h1 h2 h3 h4 h5 h6 h7 : Nat) (v0 : Int32) : xM l G cy sa sv yX6_ageOf (Cond.code yX6_ageOf cX6_ageOf 2 (some .int) :: XG) { frames := 10, cells := 0, slots := 0, locals := 292 } [.ref h0, .int v0] [(h0, .inr (10, [.ref h1, .ref h2, .ref h3, .ref h4, .ref h5, .ref h6, .ref h7, .int 0, .int 0])), (h1, .inr (3, [.int 0, .ref (sv 0), .int 0]))] (xQi G (fun f => [(h0, .inr (10, [.ref h1, .ref h2, .ref h3, .ref h4, .ref h5, .ref h6, .ref h7, .int 0, .int 0])), (h1, .inr (3, [.int 0, .ref (sv 0), .int 0]))]) (-1000)) := by
  refine xof (by decide) (Nat.le_of_ble_eq_true rfl) (fun p e s m below meth c A C w hr hn ls hl => ?_)
  have hl : lv_has ls 2 [(0, .ref h0), (1, .int v0)] := hl
  refine lv_aload_n C.1 C.2.1 dX6_ageOf_0 rfl (lv_at hl 0 rfl) ?_
  refine lv_iconst (v := 0) C.1 C.2.1 dX6_ageOf_1 (by decide) ?_
  refine x_put (ty := .int) (ty0 := tyX6) C w 0 10 8 (xin_X6 _) tyX6_ok nmX6 rfl rfl (by decide) (List.mem_cons_of_mem _ gw_112) rfl rfl (by decide +kernel) rfl rfl (Nat.le_of_ble_eq_true rfl) dX6_ageOf_2 (fun H locs w => ?_)
  have w : xW G A s [(h0, .inr (10, [.ref h1, .ref h2, .ref h3, .ref h4, .ref h5, .ref h6, .ref h7, .int 0, .int 0])), (h1, .inr (3, [.int 0, .ref (sv 0), .int 0]))] H _ := w
  refine lv_aload_n C.1 C.2.1 dX6_ageOf_5 rfl (lv_at hl 0 rfl) ?_
  refine x_get (v := .ref h1) C w 0 10 0 (xin_X6 _) rfl rfl (by decide) (List.mem_cons_of_mem _ gw_78) rfl rfl dX6_ageOf_6 ?_
  refine lv_iload_n C.1 C.2.1 dX6_ageOf_9 rfl (lv_at hl 1 rfl) ?_
  refine x_ki C w [1] [0] rfl rfl (by decide) (by decide) (va_runS (As := [.ref h1, .int v0]) (rest := []) (xfix C) (c50_X6_at l G cy sa sv h1 v0 (xtr C) _) (va_cwS 2 (xhts C) (xgS gw_207 gw_208 gw_58 gc_X6_at) rfl rfl rfl (by decide +kernel) ⟨(Nat.le_of_ble_eq_true rfl), (Nat.le_of_ble_eq_true rfl)⟩) (xPS C w [1] rfl (by decide)) rfl rfl hl.1 rfl (lv_room (Nat.le_of_ble_eq_true rfl)) dX6_ageOf_10 ⟨(Nat.le_of_ble_eq_true rfl), (Nat.le_of_ble_eq_true rfl)⟩) (fun f2872 H locs w => ?_)
  have w : xW G A s [(h0, .inr (10, [.ref h1, .ref h2, .ref h3, .ref h4, .ref h5, .ref h6, .ref h7, .int 0, .int 0])), (h1, .inr (3, [.int 0, .ref (sv 0), .int 0]))] H _ := w
  refine lv_if_ge (tgt := 22) C.1 C.2.1 dX6_ageOf_13 (by decide) (fun c9 => absurd c9 (by decide)) (fun _ => ?_)
  refine lv_sipush (v := (-1000)) C.1 C.2.1 dX6_ageOf_16 (by decide) ?_
  refine lv_goto (tgt := 40) C.1 C.2.1 dX6_ageOf_19 (by decide) ?_
  exact x_iret C w hr (fun _ => 0) rfl rfl dX6_ageOf_40 (Nat.le_of_ble_eq_true rfl) (Nat.le_of_ble_eq_true rfl)
set_option maxHeartbeats 4000000 in
set_option maxRecDepth 100000 in
theorem c435_X4_dropAged (l : Launch) (G : va_G) (cy : Nat → ClassId) (sa : String → Nat → Nat) (sv : Nat → Nat) (h0 h1 h2 h3 h4 h5 h6 h7 h8 h9 : Nat) : xX l G cy sa sv yX4_dropAged (Cond.code yX4_dropAged cX4_dropAged 2 (some .int) :: XG) { frames := 12, cells := 1, slots := 6, locals := 338 } [.ref h0] [(h0, .inr (8, [.ref h3, .ref h2, .ref h4, .ref h5, .ref h6, .int 0, .ref h1, .ref h7])), (h1, .inr (6, [.ref h8, .int 0])), (h2, .inr (6, [.ref h9, .int 0]))] (fun f => [(h0, .inr (8, [.ref h3, .ref h2, .ref h4, .ref h5, .ref h6, .int 0, .ref h1, .ref h7])), (h1, .inr (6, [.ref h8, .int 0])), (h2, .inr (6, [.ref h9, .int 0]))]) "java/lang/IllegalStateException" := by
  refine xofX (by decide) (Nat.le_of_ble_eq_true rfl) (fun p e s m below meth c A C w hno ls hl => ?_)
  have hl : lv_has ls 2 [(0, .ref h0)] := hl
  refine lv_aload_n C.1 C.2.1 dX4_dropAged_0 rfl (lv_at hl 0 rfl) ?_
  refine lv_iconst (v := 0) C.1 C.2.1 dX4_dropAged_1 (by decide) ?_
  refine x_kx C w [0, 1, 2] [] rfl rfl (by decide) (by decide) (vx_runV (As := [.int 0]) (rest := []) (xfix C) (c426_X4_aged l G cy sa sv h0 h1 h2 h3 h4 h5 h6 h7 h8 h9 (xtr C) _) (cwV 1 (xhts C) (xgV (maxL := 0) (cc := ⟨#[]⟩) (ret := none) gw_810 gw_793 gw_794 gw_2 gc_X4_aged) rfl rfl rfl (by decide +kernel) ⟨(Nat.le_of_ble_eq_true rfl), (Nat.le_of_ble_eq_true rfl)⟩) (xPV C w [0, 1, 2] rfl (by decide) (ci := 8) (q0 := 0) rfl rfl) rfl rfl hl.1 rfl (lv_room (Nat.le_of_ble_eq_true rfl)) dX4_dropAged_2 ⟨(Nat.le_of_ble_eq_true rfl), (Nat.le_of_ble_eq_true rfl)⟩) (fun f2883 H locs ce q9 w hce hcv hcl => ?_)
  have w : xW G A s [(h0, .inr (8, [.ref h3, .ref h2, .ref h4, .ref h5, .ref h6, .int 0, .ref h1, .ref h7])), (h1, .inr (6, [.ref h8, .int 0])), (h2, .inr (6, [.ref h9, .int 0]))] H _ := w
  refine vx_widen (k := 1) (n := 6) (Nat.le_of_ble_eq_true rfl) (Nat.le_of_ble_eq_true rfl) ?_
  exact x_out C w hno (fun _ => 0) rfl hce hcv hcl (Nat.le_of_ble_eq_true rfl) (Nat.le_of_ble_eq_true rfl)
set_option maxHeartbeats 4000000 in
set_option maxRecDepth 100000 in
theorem c436_L_dropAged (l : Launch) (G : va_G) (cy : Nat → ClassId) (sa : String → Nat → Nat) (sv : Nat → Nat) (h0 h1 h2 h3 h4 h5 h6 h7 h8 h9 h10 : Nat) : xM l G cy sa sv yL_dropAged (Cond.codeWith yL_dropAged cL_dropAged 3 (some .int) [(0, 9, 12, 21)] :: XG) { frames := 13, cells := 1, slots := 6, locals := 359 } [.ref h0, .ref h1] [(h0, .inr (8, [.ref h4, .ref h3, .ref h5, .ref h6, .ref h7, .int 0, .ref h2, .ref h8])), (h2, .inr (6, [.ref h9, .int 0])), (h3, .inr (6, [.ref h10, .int 0]))] (xQi G (fun f => [(h0, .inr (8, [.ref h4, .ref h3, .ref h5, .ref h6, .ref h7, .int 0, .ref h2, .ref h8])), (h2, .inr (6, [.ref h9, .int 0])), (h3, .inr (6, [.ref h10, .int 0]))]) 1) := by
  refine xofH (by decide) (Nat.le_of_ble_eq_true rfl) (fun p e s m below meth c A C w hr hn hT ls hl => ?_)
  have hl : lv_has ls 3 [(0, .ref h0), (1, .ref h1)] := hl
  refine lv_aload_n C.1 C.2.1 dL_dropAged_0 rfl (lv_at hl 1 rfl) ?_
  refine lv_aload_n C.1 C.2.1 dL_dropAged_1 rfl (lv_at hl 0 rfl) ?_
  refine x_kx C w [0, 1, 2] [] rfl rfl (by decide) (by decide) (vx_runV (As := []) (rest := [.ref h1]) (xfix C) (c435_X4_dropAged l G cy sa sv h0 h2 h3 h4 h5 h6 h7 h8 h9 h10 (xtr C) _) (cwV 0 (xhts C) (xgV (maxL := 0) (cc := ⟨#[]⟩) (ret := none) gw_812 gw_813 gw_814 gw_2 gc_X4_dropAged) rfl rfl rfl (by decide +kernel) ⟨(Nat.le_of_ble_eq_true rfl), (Nat.le_of_ble_eq_true rfl)⟩) (xPV C w [0, 1, 2] rfl (by decide) (ci := 8) (q0 := 0) rfl rfl) rfl rfl hl.1 rfl (lv_room (Nat.le_of_ble_eq_true rfl)) dL_dropAged_2 ⟨(Nat.le_of_ble_eq_true rfl), (Nat.le_of_ble_eq_true rfl)⟩) (fun f2884 H locs ce q9 w hce hcv hcl => ?_)
  have w : xW G A s [(h0, .inr (8, [.ref h4, .ref h3, .ref h5, .ref h6, .ref h7, .int 0, .ref h2, .ref h8])), (h2, .inr (6, [.ref h9, .int 0])), (h3, .inr (6, [.ref h10, .int 0]))] H _ := w
  refine vx_widen (k := 1) (n := 6) (Nat.le_of_ble_eq_true rfl) (Nat.le_of_ble_eq_true rfl) ?_
  refine vx_catch (xown C) [] ⟨0, 9, 12, 21⟩ [] hT (fun z hz => nomatch hz) (by decide) (by decide) (xhts C _ (List.mem_cons_of_mem _ gw_407)) (va_any rfl (xs_c2 (xS C))) hce hcv hcl ?_
  refine lv_astore_n (lv' := [(2, .ref q9), (0, .ref h0), (1, .ref h1)]) C.1 C.2.1 dL_dropAged_12 rfl hl (by decide) rfl (fun ls hl => ?_)
  refine lv_iconst (v := 1) C.1 C.2.1 dL_dropAged_13 (by decide) ?_
  exact x_iret C w hr (fun _ => 0) rfl rfl dL_dropAged_14 (Nat.le_of_ble_eq_true rfl) (Nat.le_of_ble_eq_true rfl)
set_option maxHeartbeats 4000000 in
set_option maxRecDepth 100000 in
theorem c437_X6_dropAged (l : Launch) (G : va_G) (cy : Nat → ClassId) (sa : String → Nat → Nat) (sv : Nat → Nat) (h0 h1 h2 h3 h4 h5 h6 h7 : Nat) : xM l G cy sa sv yX6_dropAged (Cond.code yX6_dropAged cX6_dropAged 1 (some .int) :: XG) { frames := 9, cells := 0, slots := 0, locals := 272 } [.ref h0] [(h0, .inr (10, [.ref h1, .ref h2, .ref h3, .ref h4, .ref h5, .ref h6, .ref h7, .int 0, .int 0])), (h1, .inr (3, [.int 0, .ref (sv 0), .int 0]))] (xQi G (fun f => [(h0, .inr (10, [.ref h1, .ref h2, .ref h3, .ref h4, .ref h5, .ref h6, .ref h7, .int 0, .int 1])), (h1, .inr (3, [.int 0, .ref (sv 0), .int 0]))]) 0) := by
  refine xof (by decide) (Nat.le_of_ble_eq_true rfl) (fun p e s m below meth c A C w hr hn ls hl => ?_)
  have hl : lv_has ls 1 [(0, .ref h0)] := hl
  refine lv_aload_n C.1 C.2.1 dX6_dropAged_0 rfl (lv_at hl 0 rfl) ?_
  refine lv_aload_n C.1 C.2.1 dX6_dropAged_1 rfl (lv_at hl 0 rfl) ?_
  refine x_get (v := .ref h1) C w 0 10 0 (xin_X6 _) rfl rfl (by decide) (List.mem_cons_of_mem _ gw_78) rfl rfl dX6_dropAged_2 ?_
  refine x_ki C w [1] [0] rfl rfl (by decide) (by decide) (va_runV (As := []) (rest := [.ref h0]) (xfix C) (c47_Jx4a65c_size_8abf5 l G cy sa sv h1 (xtr C) _) (cwV 0 (xhts C) (xgV (maxL := 0) (cc := ⟨#[]⟩) (ret := none) gw_195 gw_196 gw_197 gw_62 gc_Jx4a65c_size_8abf5) rfl rfl rfl (by decide +kernel) ⟨(Nat.le_of_ble_eq_true rfl), (Nat.le_of_ble_eq_true rfl)⟩) (xPV C w [1] rfl (by decide) (ci := 3) (q0 := 1) rfl rfl) rfl rfl hl.1 rfl (lv_room (Nat.le_of_ble_eq_true rfl)) dX6_dropAged_5 ⟨(Nat.le_of_ble_eq_true rfl), (Nat.le_of_ble_eq_true rfl)⟩) (fun f2887 H locs w => ?_)
  have w : xW G A s [(h0, .inr (10, [.ref h1, .ref h2, .ref h3, .ref h4, .ref h5, .ref h6, .ref h7, .int 0, .int 0])), (h1, .inr (3, [.int 0, .ref (sv 0), .int 0]))] H _ := w
  refine lv_if_ne (tgt := 15) C.1 C.2.1 dX6_dropAged_8 (by decide) (fun c9 => absurd (by decide) c9) (fun _ => ?_)
  refine lv_iconst (v := 1) C.1 C.2.1 dX6_dropAged_11 (by decide) ?_
  refine lv_goto (tgt := 16) C.1 C.2.1 dX6_dropAged_12 (by decide) ?_
  refine lv_iconst (v := 1) C.1 C.2.1 dX6_dropAged_16 (by decide) ?_
  refine x_ki C w [0] [1] rfl rfl (by decide) (by decide) (va_runV (As := [.int 1, .int 1]) (rest := []) (xfix C) (c17_X6_start l G cy sa sv h0 h1 h2 h3 h4 h5 h6 h7 (xtr C) _) (cwV 2 (xhts C) (xgV (maxL := 0) (cc := ⟨#[]⟩) (ret := none) gw_114 gw_115 gw_116 gw_58 gc_X6_start) rfl rfl rfl (by decide +kernel) ⟨(Nat.le_of_ble_eq_true rfl), (Nat.le_of_ble_eq_true rfl)⟩) (xPV C w [0] rfl (by decide) (ci := 10) (q0 := 0) rfl rfl) rfl rfl hl.1 rfl (lv_room (Nat.le_of_ble_eq_true rfl)) dX6_dropAged_17 ⟨(Nat.le_of_ble_eq_true rfl), (Nat.le_of_ble_eq_true rfl)⟩) (fun f2888 H locs w => ?_)
  have w : xW G A s [(h1, .inr (3, [.int 0, .ref (sv 0), .int 0])), (h0, .inr (10, [.ref h1, .ref h2, .ref h3, .ref h4, .ref h5, .ref h6, .ref h7, .int 0, .int 1]))] H _ := w
  refine lv_if_eq (tgt := 27) C.1 C.2.1 dX6_dropAged_20 (by decide) (fun c9 => absurd c9 (by decide)) (fun _ => ?_)
  refine lv_iconst (v := 0) C.1 C.2.1 dX6_dropAged_23 (by decide) ?_
  refine lv_goto (tgt := 39) C.1 C.2.1 dX6_dropAged_24 (by decide) ?_
  have w := w.sub (ws' := [(h0, .inr (10, [.ref h1, .ref h2, .ref h3, .ref h4, .ref h5, .ref h6, .ref h7, .int 0, .int 1])), (h1, .inr (3, [.int 0, .ref (sv 0), .int 0]))]) [1, 0] (by decide) rfl rfl
  exact x_iret C w hr (fun _ => 0) rfl rfl dX6_dropAged_39 (Nat.le_of_ble_eq_true rfl) (Nat.le_of_ble_eq_true rfl)
set_option maxHeartbeats 4000000 in
set_option maxRecDepth 100000 in
theorem c438_X4_keep (l : Launch) (G : va_G) (cy : Nat → ClassId) (sa : String → Nat → Nat) (sv : Nat → Nat) (h0 h1 h2 h3 h4 h5 h6 h7 h8 h9 h10 h11 h12 : Nat) (v0 : Int32) (p0 : 0 ≤ v0) (p1 : (0 - v0) ≤ 0) : xM l G cy sa sv yX4_keep (Cond.code yX4_keep cX4_keep 4 (some .int) :: XG) { frames := 10, cells := 0, slots := 0, locals := 292 } [.ref h0, .int v0] [(h0, .inr (8, [.ref h4, .ref h1, .ref h3, .ref h5, .ref h6, .int 0, .ref h2, .ref h7])), (h1, .inr (6, [.ref h8, .int 0])), (h2, .inr (6, [.ref h9, .int 0])), (h3, .inr (5, [.ref h10, .ref h11, .ref h12, .int 0]))] (xQi G (fun f => [(h0, .inr (8, [.ref h4, .ref h1, .ref h3, .ref h5, .ref h6, .int 0, .ref h2, .ref h7])), (h1, .inr (6, [.ref h8, .int 0])), (h2, .inr (6, [.ref h9, .int 0])), (h3, .inr (5, [.ref h10, .ref h11, .ref h12, .int 0]))]) 0) := by
  refine xof (by decide) (Nat.le_of_ble_eq_true rfl) (fun p e s m below meth c A C w hr hn ls hl => ?_)
  have hl : lv_has ls 4 [(0, .ref h0), (1, .int v0)] := hl
  refine lv_iload_n C.1 C.2.1 dX4_keep_0 rfl (lv_at hl 1 rfl) ?_
  refine lv_if_ge (tgt := 14) C.1 C.2.1 dX4_keep_1 (by decide) (fun _ => ?_) (fun c9 => absurd p0 c9)
  refine lv_aload_n C.1 C.2.1 dX4_keep_14 rfl (lv_at hl 0 rfl) ?_
  refine x_get (v := .ref h1) C w 0 8 1 (xin_X4 _) rfl rfl (by decide) (List.mem_cons_of_mem _ gw_27) rfl rfl dX4_keep_15 ?_
  refine x_ki C w [1] [0, 2, 3] rfl rfl (by decide) (by decide) (va_runV (As := []) (rest := []) (xfix C) (c21_X2_count l G cy sa sv h1 h8 (xtr C) _) (cwV 0 (xhts C) (xgV (maxL := 0) (cc := ⟨#[]⟩) (ret := none) gw_316 gw_127 gw_128 gw_11 gc_X2_count) rfl rfl rfl (by decide +kernel) ⟨(Nat.le_of_ble_eq_true rfl), (Nat.le_of_ble_eq_true rfl)⟩) (xPV C w [1] rfl (by decide) (ci := 6) (q0 := 1) rfl rfl) rfl rfl hl.1 rfl (lv_room (Nat.le_of_ble_eq_true rfl)) dX4_keep_18 ⟨(Nat.le_of_ble_eq_true rfl), (Nat.le_of_ble_eq_true rfl)⟩) (fun f2894 H locs w => ?_)
  have w : xW G A s [(h0, .inr (8, [.ref h4, .ref h1, .ref h3, .ref h5, .ref h6, .int 0, .ref h2, .ref h7])), (h2, .inr (6, [.ref h9, .int 0])), (h3, .inr (5, [.ref h10, .ref h11, .ref h12, .int 0])), (h1, .inr (6, [.ref h8, .int 0]))] H _ := w
  refine lv_iload_n C.1 C.2.1 dX4_keep_21 rfl (lv_at hl 1 rfl) ?_
  refine lv_isub C.1 C.2.1 dX4_keep_22 ?_
  refine lv_istore_n (lv' := [(2, .int (0 - v0)), (0, .ref h0), (1, .int v0)]) C.1 C.2.1 dX4_keep_23 rfl hl (by decide) rfl (fun ls hl => ?_)
  refine lv_aload_n C.1 C.2.1 dX4_keep_24 rfl (lv_at hl 1 rfl) ?_
  refine x_get (v := .ref h2) C w 0 8 6 (xin_X4 _) rfl rfl (by decide) (List.mem_cons_of_mem _ gw_51) rfl rfl dX4_keep_25 ?_
  refine x_kv C w [1] [0, 2, 3] rfl rfl (by decide) (by decide) (va_runV (As := []) (rest := []) (xfix C) (c109_X2_empty l G cy sa sv h2 h9 (xtr C) _) (cwV 0 (xhts C) (xgV (maxL := 0) (cc := ⟨#[]⟩) (ret := none) gw_312 gw_313 gw_314 gw_11 gc_X2_empty) rfl rfl rfl (by decide +kernel) ⟨(Nat.le_of_ble_eq_true rfl), (Nat.le_of_ble_eq_true rfl)⟩) (xPV C w [1] rfl (by decide) (ci := 6) (q0 := 1) rfl rfl) rfl rfl hl.1 rfl (lv_room (Nat.le_of_ble_eq_true rfl)) dX4_keep_28 ⟨(Nat.le_of_ble_eq_true rfl), (Nat.le_of_ble_eq_true rfl)⟩) (fun f2895 H locs w => ?_)
  have w : xW G A s [(h0, .inr (8, [.ref h4, .ref h1, .ref h3, .ref h5, .ref h6, .int 0, .ref h2, .ref h7])), (h3, .inr (5, [.ref h10, .ref h11, .ref h12, .int 0])), (h1, .inr (6, [.ref h8, .int 0])), (h2, .inr (6, [.ref h9, .int 0]))] H _ := w
  refine lv_iconst (v := 0) C.1 C.2.1 dX4_keep_31 (by decide) ?_
  refine lv_istore_n (lv' := [(3, .int 0), (2, .int (0 - v0)), (0, .ref h0), (1, .int v0)]) C.1 C.2.1 dX4_keep_32 rfl hl (by decide) rfl (fun ls hl => ?_)
  refine lv_iload_n C.1 C.2.1 dX4_keep_33 rfl (lv_at hl 0 rfl) ?_
  refine lv_iload_n C.1 C.2.1 dX4_keep_34 rfl (lv_at hl 1 rfl) ?_
  refine lv_icmp_ge (tgt := 59) C.1 C.2.1 dX4_keep_35 (by decide) (fun _ => ?_) (fun c9 => absurd p1 c9)
  refine lv_aload_n C.1 C.2.1 dX4_keep_59 rfl (lv_at hl 2 rfl) ?_
  refine x_ki C w [0, 3] [1, 2] rfl rfl (by decide) (by decide) (va_runV (As := []) (rest := []) (xfix C) (c111_X4_dropChosen l G cy sa sv h0 h2 h4 h1 h3 h5 h6 h7 h9 (xtr C) _) (cwV 0 (xhts C) (xgV (maxL := 0) (cc := ⟨#[]⟩) (ret := none) gw_318 gw_319 gw_320 gw_2 gc_X4_dropChosen) rfl rfl rfl (by decide +kernel) ⟨(Nat.le_of_ble_eq_true rfl), (Nat.le_of_ble_eq_true rfl)⟩) (xPV C w [0, 3] rfl (by decide) (ci := 8) (q0 := 0) rfl rfl) rfl rfl hl.1 rfl (lv_room (Nat.le_of_ble_eq_true rfl)) dX4_keep_60 ⟨(Nat.le_of_ble_eq_true rfl), (Nat.le_of_ble_eq_true rfl)⟩) (fun f2897 H locs w => ?_)
  have w : xW G A s [(h3, .inr (5, [.ref h10, .ref h11, .ref h12, .int 0])), (h1, .inr (6, [.ref h8, .int 0])), (h0, .inr (8, [.ref h4, .ref h1, .ref h3, .ref h5, .ref h6, .int 0, .ref h2, .ref h7])), (h2, .inr (6, [.ref h9, .int 0]))] H _ := w
  refine lv_istore_n (lv' := [(3, .int 0), (2, .int (0 - v0)), (0, .ref h0), (1, .int v0)]) C.1 C.2.1 dX4_keep_63 rfl hl (by decide) rfl (fun ls hl => ?_)
  refine lv_aload_n C.1 C.2.1 dX4_keep_64 rfl (lv_at hl 2 rfl) ?_
  refine x_get (v := .ref h3) C w 2 8 2 (xin_X4 _) rfl rfl (by decide) (List.mem_cons_of_mem _ gw_41) rfl rfl dX4_keep_65 ?_
  refine x_kv C w [0] [1, 2, 3] rfl rfl (by decide) (by decide) (va_runV (As := []) (rest := []) (xfix C) (c112_X1_endStep l G cy sa sv h3 h10 h11 h12 (xtr C) _) (cwV 0 (xhts C) (xgV (maxL := 0) (cc := ⟨#[]⟩) (ret := none) gw_190 gw_191 gw_192 gw_30 gc_X1_endStep) rfl rfl rfl (by decide +kernel) ⟨(Nat.le_of_ble_eq_true rfl), (Nat.le_of_ble_eq_true rfl)⟩) (xPV C w [0] rfl (by decide) (ci := 5) (q0 := 0) rfl rfl) rfl rfl hl.1 rfl (lv_room (Nat.le_of_ble_eq_true rfl)) dX4_keep_68 ⟨(Nat.le_of_ble_eq_true rfl), (Nat.le_of_ble_eq_true rfl)⟩) (fun f2898 H locs w => ?_)
  have w : xW G A s [(h1, .inr (6, [.ref h8, .int 0])), (h0, .inr (8, [.ref h4, .ref h1, .ref h3, .ref h5, .ref h6, .int 0, .ref h2, .ref h7])), (h2, .inr (6, [.ref h9, .int 0])), (h3, .inr (5, [.ref h10, .ref h11, .ref h12, .int 0]))] H _ := w
  refine lv_iload_n C.1 C.2.1 dX4_keep_71 rfl (lv_at hl 0 rfl) ?_
  have w := w.sub (ws' := [(h0, .inr (8, [.ref h4, .ref h1, .ref h3, .ref h5, .ref h6, .int 0, .ref h2, .ref h7])), (h1, .inr (6, [.ref h8, .int 0])), (h2, .inr (6, [.ref h9, .int 0])), (h3, .inr (5, [.ref h10, .ref h11, .ref h12, .int 0]))]) [1, 0, 2, 3] (by decide) rfl rfl
  exact x_iret C w hr (fun _ => 0) rfl rfl dX4_keep_72 (Nat.le_of_ble_eq_true rfl) (Nat.le_of_ble_eq_true rfl)
set_option maxHeartbeats 4000000 in
set_option maxRecDepth 100000 in
theorem c439_L_keep (l : Launch) (G : va_G) (cy : Nat → ClassId) (sa : String → Nat → Nat) (sv : Nat → Nat) (h0 h1 h2 h3 h4 h5 h6 h7 h8 h9 h10 h11 h12 h13 : Nat) (v0 : Int32) (p0 : 0 ≤ v0) (p1 : (0 - v0) ≤ 0) : xM l G cy sa sv yL_keep (Cond.codeWith yL_keep cL_keep 4 (some .int) [(0, 10, 13, 19)] :: XG) { frames := 11, cells := 0, slots := 0, locals := 315 } [.ref h0, .int v0, .ref h1] [(h0, .inr (8, [.ref h5, .ref h2, .ref h4, .ref h6, .ref h7, .int 0, .ref h3, .ref h8])), (h2, .inr (6, [.ref h9, .int 0])), (h3, .inr (6, [.ref h10, .int 0])), (h4, .inr (5, [.ref h11, .ref h12, .ref h13, .int 0])), (h1, .inr (9, [.long 0, .null]))] (xQi G (fun f => [(h0, .inr (8, [.ref h5, .ref h2, .ref h4, .ref h6, .ref h7, .int 0, .ref h3, .ref h8])), (h2, .inr (6, [.ref h9, .int 0])), (h3, .inr (6, [.ref h10, .int 0])), (h4, .inr (5, [.ref h11, .ref h12, .ref h13, .int 0])), (h1, .inr (9, [.long 0, .null]))]) 0) := by
  refine xofH (by decide) (Nat.le_of_ble_eq_true rfl) (fun p e s m below meth c A C w hr hn hT ls hl => ?_)
  have hl : lv_has ls 4 [(0, .ref h0), (1, .int v0), (2, .ref h1)] := hl
  refine lv_aload_n C.1 C.2.1 dL_keep_0 rfl (lv_at hl 2 rfl) ?_
  refine lv_aload_n C.1 C.2.1 dL_keep_1 rfl (lv_at hl 0 rfl) ?_
  refine lv_iload_n C.1 C.2.1 dL_keep_2 rfl (lv_at hl 1 rfl) ?_
  refine x_ki C w [0, 1, 2, 3] [4] rfl rfl (by decide) (by decide) (va_runV (As := [.int v0]) (rest := [.ref h1]) (xfix C) (c438_X4_keep l G cy sa sv h0 h2 h3 h4 h5 h6 h7 h8 h9 h10 h11 h12 h13 v0 p0 p1 (xtr C) _) (cwV 1 (xhts C) (xgV (maxL := 0) (cc := ⟨#[]⟩) (ret := none) gw_823 gw_824 gw_825 gw_2 gc_X4_keep) rfl rfl rfl (by decide +kernel) ⟨(Nat.le_of_ble_eq_true rfl), (Nat.le_of_ble_eq_true rfl)⟩) (xPV C w [0, 1, 2, 3] rfl (by decide) (ci := 8) (q0 := 0) rfl rfl) rfl rfl hl.1 rfl (lv_room (Nat.le_of_ble_eq_true rfl)) dL_keep_3 ⟨(Nat.le_of_ble_eq_true rfl), (Nat.le_of_ble_eq_true rfl)⟩) (fun f2899 H locs w => ?_)
  have w : xW G A s [(h1, .inr (9, [.long 0, .null])), (h0, .inr (8, [.ref h5, .ref h2, .ref h4, .ref h6, .ref h7, .int 0, .ref h3, .ref h8])), (h2, .inr (6, [.ref h9, .int 0])), (h3, .inr (6, [.ref h10, .int 0])), (h4, .inr (5, [.ref h11, .ref h12, .ref h13, .int 0]))] H _ := w
  refine lv_i2l (v := 0) C.1 C.2.1 dL_keep_6 (by decide) ?_
  refine x_putN (ty := .long) (ty0 := tyX5) C w 0 9 0 (xin_X5 _) tyX5_ok nmX5 rfl rfl (by decide) (xs_f_n (xS C)) rfl rfl (by decide +kernel) rfl rfl (Nat.le_of_ble_eq_true rfl) dL_keep_7 (fun H locs w => ?_)
  have w : xW G A s [(h1, .inr (9, [.long 0, .null])), (h0, .inr (8, [.ref h5, .ref h2, .ref h4, .ref h6, .ref h7, .int 0, .ref h3, .ref h8])), (h2, .inr (6, [.ref h9, .int 0])), (h3, .inr (6, [.ref h10, .int 0])), (h4, .inr (5, [.ref h11, .ref h12, .ref h13, .int 0]))] H _ := w
  refine lv_goto (tgt := 16) C.1 C.2.1 dL_keep_10 (by decide) ?_
  refine lv_iconst (v := 0) C.1 C.2.1 dL_keep_16 (by decide) ?_
  have w := w.sub (ws' := [(h0, .inr (8, [.ref h5, .ref h2, .ref h4, .ref h6, .ref h7, .int 0, .ref h3, .ref h8])), (h2, .inr (6, [.ref h9, .int 0])), (h3, .inr (6, [.ref h10, .int 0])), (h4, .inr (5, [.ref h11, .ref h12, .ref h13, .int 0])), (h1, .inr (9, [.long 0, .null]))]) [1, 2, 3, 4, 0] (by decide) rfl rfl
  exact x_iret C w hr (fun _ => 0) rfl rfl dL_keep_17 (Nat.le_of_ble_eq_true rfl) (Nat.le_of_ble_eq_true rfl)
set_option maxHeartbeats 4000000 in
set_option maxRecDepth 100000 in
theorem c440_X6_keep (l : Launch) (G : va_G) (cy : Nat → ClassId) (sa : String → Nat → Nat) (sv : Nat → Nat) (h0 h1 h2 h3 h4 h5 h6 h7 : Nat) (v0 : Int32) (p0 : 0 ≤ v0) : xM l G cy sa sv yX6_keep (Cond.code yX6_keep cX6_keep 2 (some .int) :: XG) { frames := 12, cells := 1, slots := 3, locals := 331 } [.ref h0, .int v0] [(h0, .inr (10, [.ref h1, .ref h4, .ref h3, .ref h2, .ref h5, .ref h6, .ref h7, .int 0, .int 0])), (h1, .inr (3, [.int 0, .ref (sv 0), .int 0])), (h2, .inr (3, [.int 0, .ref (sv 0), .int 0])), (h3, .inr (3, [.int 0, .ref (sv 0), .int 0]))] (xQi G (fun f => [(h0, .inr (10, [.ref h1, .ref h4, .ref h3, .ref (f 0), .ref h5, .ref h6, .ref h7, .int 0, .int 0])), (h1, .inr (3, [.int 0, .ref (sv 0), .int 0])), (h2, .inr (3, [.int 0, .ref (sv 0), .int 0])), (h3, .inr (3, [.int 0, .ref (sv 0), .int 0])), ((f 0), .inr (3, [.int 0, .ref (sv 0), .int 0]))]) 0) := by
  refine xof (by decide) (Nat.le_of_ble_eq_true rfl) (fun p e s m below meth c A C w hr hn ls hl => ?_)
  have hl : lv_has ls 2 [(0, .ref h0), (1, .int v0)] := hl
  refine lv_aload_n C.1 C.2.1 dX6_keep_0 rfl (lv_at hl 0 rfl) ?_
  refine lv_iload_n C.1 C.2.1 dX6_keep_1 rfl (lv_at hl 1 rfl) ?_
  refine lv_if_ge (tgt := 9) C.1 C.2.1 dX6_keep_2 (by decide) (fun _ => ?_) (fun c9 => absurd p0 c9)
  refine lv_iconst (v := 0) C.1 C.2.1 dX6_keep_9 (by decide) ?_
  refine lv_iconst (v := 1) C.1 C.2.1 dX6_keep_10 (by decide) ?_
  refine x_ki C w [0] [1, 2, 3] rfl rfl (by decide) (by decide) (va_runV (As := [.int 0, .int 1]) (rest := []) (xfix C) (c46_X6_start l G cy sa sv h0 h1 h4 h3 h2 h5 h6 h7 (xtr C) _) (cwV 2 (xhts C) (xgV (maxL := 0) (cc := ⟨#[]⟩) (ret := none) gw_114 gw_115 gw_116 gw_58 gc_X6_start) rfl rfl rfl (by decide +kernel) ⟨(Nat.le_of_ble_eq_true rfl), (Nat.le_of_ble_eq_true rfl)⟩) (xPV C w [0] rfl (by decide) (ci := 10) (q0 := 0) rfl rfl) rfl rfl hl.1 rfl (lv_room (Nat.le_of_ble_eq_true rfl)) dX6_keep_11 ⟨(Nat.le_of_ble_eq_true rfl), (Nat.le_of_ble_eq_true rfl)⟩) (fun f2903 H locs w => ?_)
  have w : xW G A s [(h1, .inr (3, [.int 0, .ref (sv 0), .int 0])), (h2, .inr (3, [.int 0, .ref (sv 0), .int 0])), (h3, .inr (3, [.int 0, .ref (sv 0), .int 0])), (h0, .inr (10, [.ref h1, .ref h4, .ref h3, .ref h2, .ref h5, .ref h6, .ref h7, .int 0, .int 0]))] H _ := w
  refine lv_if_eq (tgt := 19) C.1 C.2.1 dX6_keep_14 (by decide) (fun _ => ?_) (fun c9 => absurd (by decide) c9)
  refine lv_aload_n C.1 C.2.1 dX6_keep_19 rfl (lv_at hl 0 rfl) ?_
  refine x_get (v := .ref h1) C w 3 10 0 (xin_X6 _) rfl rfl (by decide) (List.mem_cons_of_mem _ gw_78) rfl rfl dX6_keep_20 ?_
  refine x_ki C w [0] [1, 2, 3] rfl rfl (by decide) (by decide) (va_runV (As := []) (rest := []) (xfix C) (c47_Jx4a65c_size_8abf5 l G cy sa sv h1 (xtr C) _) (cwV 0 (xhts C) (xgV (maxL := 0) (cc := ⟨#[]⟩) (ret := none) gw_195 gw_196 gw_197 gw_62 gc_Jx4a65c_size_8abf5) rfl rfl rfl (by decide +kernel) ⟨(Nat.le_of_ble_eq_true rfl), (Nat.le_of_ble_eq_true rfl)⟩) (xPV C w [0] rfl (by decide) (ci := 3) (q0 := 0) rfl rfl) rfl rfl hl.1 rfl (lv_room (Nat.le_of_ble_eq_true rfl)) dX6_keep_23 ⟨(Nat.le_of_ble_eq_true rfl), (Nat.le_of_ble_eq_true rfl)⟩) (fun f2904 H locs w => ?_)
  have w : xW G A s [(h2, .inr (3, [.int 0, .ref (sv 0), .int 0])), (h3, .inr (3, [.int 0, .ref (sv 0), .int 0])), (h0, .inr (10, [.ref h1, .ref h4, .ref h3, .ref h2, .ref h5, .ref h6, .ref h7, .int 0, .int 0])), (h1, .inr (3, [.int 0, .ref (sv 0), .int 0]))] H _ := w
  refine lv_iload_n C.1 C.2.1 dX6_keep_26 rfl (lv_at hl 1 rfl) ?_
  refine lv_icmp_le (tgt := 45) C.1 C.2.1 dX6_keep_27 (by decide) (fun _ => ?_) (fun c9 => absurd p0 c9)
  refine lv_aload_n C.1 C.2.1 dX6_keep_45 rfl (lv_at hl 0 rfl) ?_
  refine x_ki C w [2, 0, 1] [3] rfl rfl (by decide) (by decide) (va_runV (As := []) (rest := []) (xfix C) (c101_X6_done l G cy sa sv h0 h2 h3 h1 h4 h5 h6 h7 (xtr C) _) (cwV 0 (xhts C) (xgV (maxL := 0) (cc := ⟨#[]⟩) (ret := none) gw_244 gw_245 gw_246 gw_58 gc_X6_done) rfl rfl rfl (by decide +kernel) ⟨(Nat.le_of_ble_eq_true rfl), (Nat.le_of_ble_eq_true rfl)⟩) (xPV C w [2, 0, 1] rfl (by decide) (ci := 10) (q0 := 2) rfl rfl) rfl rfl hl.1 rfl (lv_room (Nat.le_of_ble_eq_true rfl)) dX6_keep_46 ⟨(Nat.le_of_ble_eq_true rfl), (Nat.le_of_ble_eq_true rfl)⟩) (fun f2914 H locs w => ?_)
  have w : xW G A s [(h1, .inr (3, [.int 0, .ref (sv 0), .int 0])), (h0, .inr (10, [.ref h1, .ref h4, .ref h3, .ref (f2914 0), .ref h5, .ref h6, .ref h7, .int 0, .int 0])), (h2, .inr (3, [.int 0, .ref (sv 0), .int 0])), (h3, .inr (3, [.int 0, .ref (sv 0), .int 0])), ((f2914 0), .inr (3, [.int 0, .ref (sv 0), .int 0]))] H _ := w
  refine W.widen (k := 1) (n := 3) (Nat.le_of_ble_eq_true rfl) (Nat.le_of_ble_eq_true rfl) ?_
  have w := w.sub (ws' := [(h0, .inr (10, [.ref h1, .ref h4, .ref h3, .ref (f2914 0), .ref h5, .ref h6, .ref h7, .int 0, .int 0])), (h1, .inr (3, [.int 0, .ref (sv 0), .int 0])), (h2, .inr (3, [.int 0, .ref (sv 0), .int 0])), (h3, .inr (3, [.int 0, .ref (sv 0), .int 0])), ((f2914 0), .inr (3, [.int 0, .ref (sv 0), .int 0]))]) [1, 0, 2, 3, 4] (by decide) rfl rfl
  exact x_iret C w hr (fun k => match k with | 0 => (f2914 0) | _ => 0) rfl rfl dX6_keep_49 (Nat.le_of_ble_eq_true rfl) (Nat.le_of_ble_eq_true rfl)
set_option maxHeartbeats 4000000 in
set_option maxRecDepth 100000 in
theorem c441_X4_keep (l : Launch) (G : va_G) (cy : Nat → ClassId) (sa : String → Nat → Nat) (sv : Nat → Nat) (h0 : Nat) (v0 : Int32) (p0 : ¬ 0 ≤ v0) : xX l G cy sa sv yX4_keep (Cond.code yX4_keep cX4_keep 4 (some .int) :: XG) { frames := 8, cells := 1, slots := 6, locals := 250 } [.ref h0, .int v0] [] (fun f => []) "java/lang/IllegalArgumentException" := by
  refine xofX (by decide) (Nat.le_of_ble_eq_true rfl) (fun p e s m below meth c A C w hno ls hl => ?_)
  have hl : lv_has ls 4 [(0, .ref h0), (1, .int v0)] := hl
  refine lv_iload_n C.1 C.2.1 dX4_keep_0 rfl (lv_at hl 1 rfl) ?_
  refine lv_if_ge (tgt := 14) C.1 C.2.1 dX4_keep_1 (by decide) (fun c9 => absurd c9 p0) (fun _ => ?_)
  exact x_thr C w hno hl.1 (by decide) (List.mem_cons_of_mem _ gw_95) (List.mem_cons_of_mem _ gw_96) (tx := "many is below 0") (List.mem_of_getElem? (i := 3) rfl) (xat_203 C (fun w h => List.mem_cons_of_mem _ h)) xatg_203 dX4_keep_4 dX4_keep_7 dX4_keep_8 dX4_keep_10 dX4_keep_13 (Nat.le_of_ble_eq_true rfl) (Nat.le_of_ble_eq_true rfl) (Nat.le_of_ble_eq_true rfl) (Nat.le_of_ble_eq_true rfl) rfl rfl (fun _ => 0) rfl
set_option maxHeartbeats 4000000 in
set_option maxRecDepth 100000 in
theorem c442_L_keep (l : Launch) (G : va_G) (cy : Nat → ClassId) (sa : String → Nat → Nat) (sv : Nat → Nat) (h0 h1 h2 h3 h4 h5 h6 h7 h8 : Nat) (v0 : Int32) (p0 : ¬ 0 ≤ v0) : xM l G cy sa sv yL_keep (Cond.codeWith yL_keep cL_keep 4 (some .int) [(0, 10, 13, 19)] :: XG) { frames := 9, cells := 1, slots := 6, locals := 273 } [.ref h0, .int v0, .ref h1] [(h0, .inr (8, [.ref h2, .ref h3, .ref h4, .ref h5, .ref h6, .int 0, .ref h7, .ref h8]))] (xQi G (fun f => [(h0, .inr (8, [.ref h2, .ref h3, .ref h4, .ref h5, .ref h6, .int 0, .ref h7, .ref h8]))]) 1) := by
  refine xofH (by decide) (Nat.le_of_ble_eq_true rfl) (fun p e s m below meth c A C w hr hn hT ls hl => ?_)
  have hl : lv_has ls 4 [(0, .ref h0), (1, .int v0), (2, .ref h1)] := hl
  refine lv_aload_n C.1 C.2.1 dL_keep_0 rfl (lv_at hl 2 rfl) ?_
  refine lv_aload_n C.1 C.2.1 dL_keep_1 rfl (lv_at hl 0 rfl) ?_
  refine lv_iload_n C.1 C.2.1 dL_keep_2 rfl (lv_at hl 1 rfl) ?_
  refine x_kx C w [] [0] rfl rfl (by decide) (by decide) (vx_runV (As := [.int v0]) (rest := [.ref h1]) (xfix C) (c441_X4_keep l G cy sa sv h0 v0 p0 (xtr C) _) (cwV 1 (xhts C) (xgV (maxL := 0) (cc := ⟨#[]⟩) (ret := none) gw_823 gw_824 gw_825 gw_2 gc_X4_keep) rfl rfl rfl (by decide +kernel) ⟨(Nat.le_of_ble_eq_true rfl), (Nat.le_of_ble_eq_true rfl)⟩) (xPV C w [] rfl (by decide) (ci := 8) (q0 := 0) rfl rfl) rfl rfl hl.1 rfl (lv_room (Nat.le_of_ble_eq_true rfl)) dL_keep_3 ⟨(Nat.le_of_ble_eq_true rfl), (Nat.le_of_ble_eq_true rfl)⟩) (fun f2921 H locs ce q9 w hce hcv hcl => ?_)
  have w : xW G A s [(h0, .inr (8, [.ref h2, .ref h3, .ref h4, .ref h5, .ref h6, .int 0, .ref h7, .ref h8]))] H _ := w
  refine vx_widen (k := 1) (n := 6) (Nat.le_of_ble_eq_true rfl) (Nat.le_of_ble_eq_true rfl) ?_
  refine vx_catch (xown C) [] ⟨0, 10, 13, 19⟩ [] hT (fun z hz => nomatch hz) (by decide) (by decide) (xhts C _ (List.mem_cons_of_mem _ gw_104)) (va_any rfl (xs_c1 (xS C))) hce hcv hcl ?_
  refine lv_astore_n (lv' := [(3, .ref q9), (0, .ref h0), (1, .int v0), (2, .ref h1)]) C.1 C.2.1 dL_keep_13 rfl hl (by decide) rfl (fun ls hl => ?_)
  refine lv_iconst (v := 1) C.1 C.2.1 dL_keep_14 (by decide) ?_
  exact x_iret C w hr (fun _ => 0) rfl rfl dL_keep_15 (Nat.le_of_ble_eq_true rfl) (Nat.le_of_ble_eq_true rfl)
set_option maxHeartbeats 4000000 in
set_option maxRecDepth 100000 in
theorem c443_X6_keep (l : Launch) (G : va_G) (cy : Nat → ClassId) (sa : String → Nat → Nat) (sv : Nat → Nat) (h0 h1 h2 h3 h4 h5 h6 h7 : Nat) (v0 : Int32) (p0 : ¬ 0 ≤ v0) : xM l G cy sa sv yX6_keep (Cond.code yX6_keep cX6_keep 2 (some .int) :: XG) { frames := 9, cells := 0, slots := 0, locals := 272 } [.ref h0, .int v0] [(h0, .inr (10, [.ref h1, .ref h2, .ref h3, .ref h4, .ref h5, .ref h6, .ref h7, .int 0, .int 0]))] (xQi G (fun f => [(h0, .inr (10, [.ref h1, .ref h2, .ref h3, .ref h4, .ref h5, .ref h6, .ref h7, .int 0, .int 1]))]) 0) := by
  refine xof (by decide) (Nat.le_of_ble_eq_true rfl) (fun p e s m below meth c A C w hr hn ls hl => ?_)
  have hl : lv_has ls 2 [(0, .ref h0), (1, .int v0)] := hl
  refine lv_aload_n C.1 C.2.1 dX6_keep_0 rfl (lv_at hl 0 rfl) ?_
  refine lv_iload_n C.1 C.2.1 dX6_keep_1 rfl (lv_at hl 1 rfl) ?_
  refine lv_if_ge (tgt := 9) C.1 C.2.1 dX6_keep_2 (by decide) (fun c9 => absurd c9 p0) (fun _ => ?_)
  refine lv_iconst (v := 1) C.1 C.2.1 dX6_keep_5 (by decide) ?_
  refine lv_goto (tgt := 10) C.1 C.2.1 dX6_keep_6 (by decide) ?_
  refine lv_iconst (v := 1) C.1 C.2.1 dX6_keep_10 (by decide) ?_
  refine x_ki C w [0] [] rfl rfl (by decide) (by decide) (va_runV (As := [.int 1, .int 1]) (rest := []) (xfix C) (c17_X6_start l G cy sa sv h0 h1 h2 h3 h4 h5 h6 h7 (xtr C) _) (cwV 2 (xhts C) (xgV (maxL := 0) (cc := ⟨#[]⟩) (ret := none) gw_114 gw_115 gw_116 gw_58 gc_X6_start) rfl rfl rfl (by decide +kernel) ⟨(Nat.le_of_ble_eq_true rfl), (Nat.le_of_ble_eq_true rfl)⟩) (xPV C w [0] rfl (by decide) (ci := 10) (q0 := 0) rfl rfl) rfl rfl hl.1 rfl (lv_room (Nat.le_of_ble_eq_true rfl)) dX6_keep_11 ⟨(Nat.le_of_ble_eq_true rfl), (Nat.le_of_ble_eq_true rfl)⟩) (fun f2924 H locs w => ?_)
  have w : xW G A s [(h0, .inr (10, [.ref h1, .ref h2, .ref h3, .ref h4, .ref h5, .ref h6, .ref h7, .int 0, .int 1]))] H _ := w
  refine lv_if_eq (tgt := 19) C.1 C.2.1 dX6_keep_14 (by decide) (fun c9 => absurd c9 (by decide)) (fun _ => ?_)
  refine lv_iconst (v := 0) C.1 C.2.1 dX6_keep_17 (by decide) ?_
  exact x_iret C w hr (fun _ => 0) rfl rfl dX6_keep_18 (Nat.le_of_ble_eq_true rfl) (Nat.le_of_ble_eq_true rfl)
set_option maxHeartbeats 4000000 in
set_option maxRecDepth 100000 in
theorem c444_X4_uses (l : Launch) (G : va_G) (cy : Nat → ClassId) (sa : String → Nat → Nat) (sv : Nat → Nat) (h0 h1 h2 h3 h4 h5 h6 h7 h8 : Nat) : xM l G cy sa sv yX4_uses (Cond.code yX4_uses cX4_uses 1 (some (.object "java/lang/String")) :: XG) { frames := 15, cells := 4, slots := 24, locals := 404 } [.ref h0] [(h0, .inr (8, [.ref h2, .ref h1, .ref h3, .ref h4, .ref h5, .int 0, .ref h6, .ref h7])), (h1, .inr (6, [.ref h8, .int 0]))] (xQr G (fun f => [(h0, .inr (8, [.ref h2, .ref h1, .ref h3, .ref h4, .ref h5, .int 0, .ref h6, .ref h7])), (h1, .inr (6, [.ref h8, .int 0])), ((f 0), .inr (0, [.ref (f 1), .int 0, .int 0, .int 0])), ((f 1), .inl (cy 0, 0, .inl (va_cpy (fun _ => 0) (fun _ => 0) 0 0 0)))]) (fun f => (f 0))) := by
  refine xof (by decide) (Nat.le_of_ble_eq_true rfl) (fun p e s m below meth c A C w hr hn ls hl => ?_)
  have hl : lv_has ls 1 [(0, .ref h0)] := hl
  refine lv_aload_n C.1 C.2.1 dX4_uses_0 rfl (lv_at hl 0 rfl) ?_
  refine x_get (v := .ref h1) C w 0 8 1 (xin_X4 _) rfl rfl (by decide) (List.mem_cons_of_mem _ gw_27) rfl rfl dX4_uses_1 ?_
  refine x_kr C w [1] [0] rfl rfl (by decide) (by decide) (va_runV (As := []) (rest := []) (xfix C) (c228_X2_joined l G cy sa sv h1 h8 (xtr C) _) (cwV 0 (xhts C) (xgV (maxL := 0) (cc := ⟨#[]⟩) (ret := none) gw_542 gw_543 gw_544 gw_11 gc_X2_joined) rfl rfl rfl (by decide +kernel) ⟨(Nat.le_of_ble_eq_true rfl), (Nat.le_of_ble_eq_true rfl)⟩) (xPV C w [1] rfl (by decide) (ci := 6) (q0 := 1) rfl rfl) rfl rfl hl.1 rfl (lv_room (Nat.le_of_ble_eq_true rfl)) dX4_uses_4 ⟨(Nat.le_of_ble_eq_true rfl), (Nat.le_of_ble_eq_true rfl)⟩) (fun f2990 H locs w => ?_)
  have w : xW G A s [(h0, .inr (8, [.ref h2, .ref h1, .ref h3, .ref h4, .ref h5, .int 0, .ref h6, .ref h7])), (h1, .inr (6, [.ref h8, .int 0])), ((f2990 0), .inr (0, [.ref (f2990 1), .int 0, .int 0, .int 0])), ((f2990 1), .inl (cy 0, 0, .inl (va_cpy (fun _ => 0) (fun _ => 0) 0 0 0)))] H _ := w
  refine W.widen (k := 4) (n := 24) (Nat.le_of_ble_eq_true rfl) (Nat.le_of_ble_eq_true rfl) ?_
  exact x_aret C w hr (Or.inl ⟨_, rfl⟩) (fun k => match k with | 0 => (f2990 0) | 1 => (f2990 1) | _ => 0) rfl rfl dX4_uses_7 (Nat.le_of_ble_eq_true rfl) (Nat.le_of_ble_eq_true rfl)
set_option maxHeartbeats 4000000 in
set_option maxRecDepth 100000 in
theorem c445_X6_uses (l : Launch) (G : va_G) (cy : Nat → ClassId) (sa : String → Nat → Nat) (sv : Nat → Nat) (h0 h1 h2 h3 h4 h5 h6 h7 : Nat) : xM l G cy sa sv yX6_uses (Cond.code yX6_uses cX6_uses 1 (some (.object "java/lang/String")) :: XG) { frames := 10, cells := 1, slots := 0, locals := 294 } [.ref h0] [(h0, .inr (10, [.ref h1, .ref h2, .ref h3, .ref h4, .ref h5, .ref h6, .ref h7, .int 0, .int 0])), (h1, .inr (3, [.int 0, .ref (sv 0), .int 0]))] (xQr G (fun f => [(h0, .inr (10, [.ref h1, .ref h2, .ref h3, .ref h4, .ref h5, .ref h6, .ref h7, .int 0, .int 0])), (h1, .inr (3, [.int 0, .ref (sv 0), .int 0]))]) (fun f => (sa "TwinindexModel" 122))) := by
  refine xof (by decide) (Nat.le_of_ble_eq_true rfl) (fun p e s m below meth c A C w hr hn ls hl => ?_)
  have hl : lv_has ls 1 [(0, .ref h0)] := hl
  refine lv_aload_n C.1 C.2.1 dX6_uses_0 rfl (lv_at hl 0 rfl) ?_
  refine lv_iconst (v := 0) C.1 C.2.1 dX6_uses_1 (by decide) ?_
  refine x_put (ty := .int) (ty0 := tyX6) C w 0 10 8 (xin_X6 _) tyX6_ok nmX6 rfl rfl (by decide) (List.mem_cons_of_mem _ gw_112) rfl rfl (by decide +kernel) rfl rfl (Nat.le_of_ble_eq_true rfl) dX6_uses_2 (fun H locs w => ?_)
  have w : xW G A s [(h0, .inr (10, [.ref h1, .ref h2, .ref h3, .ref h4, .ref h5, .ref h6, .ref h7, .int 0, .int 0])), (h1, .inr (3, [.int 0, .ref (sv 0), .int 0]))] H _ := w
  refine lv_aload_n C.1 C.2.1 dX6_uses_5 rfl (lv_at hl 0 rfl) ?_
  refine x_get (v := .ref h1) C w 0 10 0 (xin_X6 _) rfl rfl (by decide) (List.mem_cons_of_mem _ gw_78) rfl rfl dX6_uses_6 ?_
  refine x_kr C w [1] [0] rfl rfl (by decide) (by decide) (va_runS (As := [.ref h1]) (rest := []) (xfix C) (c407_X6_usesOf l G cy sa sv h1 (xtr C) _) (va_cwS 1 (xhts C) (xgS gw_773 gw_774 gw_58 gc_X6_usesOf) rfl rfl rfl (by decide +kernel) ⟨(Nat.le_of_ble_eq_true rfl), (Nat.le_of_ble_eq_true rfl)⟩) (xPS C w [1] rfl (by decide)) rfl rfl hl.1 rfl (lv_room (Nat.le_of_ble_eq_true rfl)) dX6_uses_9 ⟨(Nat.le_of_ble_eq_true rfl), (Nat.le_of_ble_eq_true rfl)⟩) (fun f3001 H locs w => ?_)
  have w : xW G A s [(h0, .inr (10, [.ref h1, .ref h2, .ref h3, .ref h4, .ref h5, .ref h6, .ref h7, .int 0, .int 0])), (h1, .inr (3, [.int 0, .ref (sv 0), .int 0]))] H _ := w
  refine W.widen (k := 1) (n := 0) (Nat.le_of_ble_eq_true rfl) (Nat.le_of_ble_eq_true rfl) ?_
  exact x_aret C w hr (Or.inl ⟨_, rfl⟩) (fun _ => 0) rfl rfl dX6_uses_12 (Nat.le_of_ble_eq_true rfl) (Nat.le_of_ble_eq_true rfl)
set_option maxHeartbeats 4000000 in
set_option maxRecDepth 100000 in
theorem c446_X4_pagerOf (l : Launch) (G : va_G) (cy : Nat → ClassId) (sa : String → Nat → Nat) (sv : Nat → Nat) (h0 h1 h2 h3 h4 h5 h6 h7 h8 h9 h10 : Nat) : xM l G cy sa sv yX4_pagerOf (Cond.code yX4_pagerOf cX4_pagerOf 2 (some (.object "Twinindex$Pager")) :: XG) { frames := 8, cells := 0, slots := 0, locals := 250 } [.ref h0, .int 0] [(h0, .inr (8, [.ref h2, .ref h3, .ref h4, .ref h5, .ref h1, .int 0, .ref h6, .ref h7])), (h1, .inl (cy 3, 3, .inr (.inr (.inr (.inr (va_up (va_up (va_up (fun _ => none) 0 (some h8)) 1 (some h9)) 2 (some h10)))))))] (xQr G (fun f => [(h0, .inr (8, [.ref h2, .ref h3, .ref h4, .ref h5, .ref h1, .int 0, .ref h6, .ref h7])), (h1, .inl (cy 3, 3, .inr (.inr (.inr (.inr (va_up (va_up (va_up (fun _ => none) 0 (some h8)) 1 (some h9)) 2 (some h10)))))))]) (fun f => h8)) := by
  refine xof (by decide) (Nat.le_of_ble_eq_true rfl) (fun p e s m below meth c A C w hr hn ls hl => ?_)
  have hl : lv_has ls 2 [(0, .ref h0), (1, .int 0)] := hl
  refine lv_iload_n C.1 C.2.1 dX4_pagerOf_0 rfl (lv_at hl 1 rfl) ?_
  refine lv_if_lt (tgt := 13) C.1 C.2.1 dX4_pagerOf_1 (by decide) (fun c9 => absurd c9 (by decide)) (fun _ => ?_)
  refine lv_iload_n C.1 C.2.1 dX4_pagerOf_4 rfl (lv_at hl 1 rfl) ?_
  refine lv_aload_n C.1 C.2.1 dX4_pagerOf_5 rfl (lv_at hl 0 rfl) ?_
  refine x_get (v := .ref h1) C w 0 8 4 (xin_X4 _) rfl rfl (by decide) (List.mem_cons_of_mem _ gw_44) rfl rfl dX4_pagerOf_6 ?_
  refine x_alen (v := 3) C w 1 3 rfl rfl (by rfl) dX4_pagerOf_9 ?_
  refine lv_icmp_lt (tgt := 24) C.1 C.2.1 dX4_pagerOf_10 (by decide) (fun _ => ?_) (fun c9 => absurd (by decide) c9)
  refine lv_aload_n C.1 C.2.1 dX4_pagerOf_24 rfl (lv_at hl 0 rfl) ?_
  refine x_get (v := .ref h1) C w 0 8 4 (xin_X4 _) rfl rfl (by decide) (List.mem_cons_of_mem _ gw_44) rfl rfl dX4_pagerOf_25 ?_
  refine lv_iload_n C.1 C.2.1 dX4_pagerOf_28 rfl (lv_at hl 1 rfl) ?_
  refine x_aldq (b := h8) C w 1 3 rfl rfl (xvin (by decide)) rfl dX4_pagerOf_29 ?_
  exact x_aret C w hr (Or.inl ⟨_, rfl⟩) (fun _ => 0) rfl rfl dX4_pagerOf_30 (Nat.le_of_ble_eq_true rfl) (Nat.le_of_ble_eq_true rfl)
set_option maxHeartbeats 4000000 in
set_option maxRecDepth 100000 in
theorem c447_X0_begin (l : Launch) (G : va_G) (cy : Nat → ClassId) (sa : String → Nat → Nat) (sv : Nat → Nat) (h0 : Nat) : xM l G cy sa sv yX0_begin (Cond.code yX0_begin cX0_begin 2 (some .int) :: XG) { frames := 8, cells := 0, slots := 0, locals := 250 } [.ref h0] [(h0, .inr (4, [.int 0, .int 0, .int 0]))] (xQi G (fun f => [(h0, .inr (4, [.int 0, .int 0, .int 0]))]) 0) := by
  refine xof (by decide) (Nat.le_of_ble_eq_true rfl) (fun p e s m below meth c A C w hr hn ls hl => ?_)
  have hl : lv_has ls 2 [(0, .ref h0)] := hl
  refine lv_aload_n C.1 C.2.1 dX0_begin_0 rfl (lv_at hl 0 rfl) ?_
  refine x_get (v := .int 0) C w 0 4 2 (xin_X0 _) rfl rfl (by decide) (List.mem_cons_of_mem _ gw_845) rfl rfl dX0_begin_1 ?_
  refine lv_istore_n (lv' := [(1, .int 0), (0, .ref h0)]) C.1 C.2.1 dX0_begin_4 rfl hl (by decide) rfl (fun ls hl => ?_)
  refine lv_aload_n C.1 C.2.1 dX0_begin_5 rfl (lv_at hl 1 rfl) ?_
  refine lv_iconst (v := 0) C.1 C.2.1 dX0_begin_6 (by decide) ?_
  refine x_put (ty := .boolean) (ty0 := tyX0) C w 0 4 0 (xin_X0 _) tyX0_ok nmX0 rfl rfl (by decide) (List.mem_cons_of_mem _ gw_846) rfl rfl (by decide +kernel) rfl rfl (Nat.le_of_ble_eq_true rfl) dX0_begin_7 (fun H locs w => ?_)
  have w : xW G A s [(h0, .inr (4, [.int 0, .int 0, .int 0]))] H _ := w
  refine lv_aload_n C.1 C.2.1 dX0_begin_10 rfl (lv_at hl 1 rfl) ?_
  refine lv_iconst (v := 0) C.1 C.2.1 dX0_begin_11 (by decide) ?_
  refine x_put (ty := .int) (ty0 := tyX0) C w 0 4 1 (xin_X0 _) tyX0_ok nmX0 rfl rfl (by decide) (List.mem_cons_of_mem _ gw_847) rfl rfl (by decide +kernel) rfl rfl (Nat.le_of_ble_eq_true rfl) dX0_begin_12 (fun H locs w => ?_)
  have w : xW G A s [(h0, .inr (4, [.int 0, .int 0, .int 0]))] H _ := w
  refine lv_aload_n C.1 C.2.1 dX0_begin_15 rfl (lv_at hl 1 rfl) ?_
  refine lv_iconst (v := 0) C.1 C.2.1 dX0_begin_16 (by decide) ?_
  refine x_put (ty := .int) (ty0 := tyX0) C w 0 4 2 (xin_X0 _) tyX0_ok nmX0 rfl rfl (by decide) (List.mem_cons_of_mem _ gw_845) rfl rfl (by decide +kernel) rfl rfl (Nat.le_of_ble_eq_true rfl) dX0_begin_17 (fun H locs w => ?_)
  have w : xW G A s [(h0, .inr (4, [.int 0, .int 0, .int 0]))] H _ := w
  refine lv_iload_n C.1 C.2.1 dX0_begin_20 rfl (lv_at hl 0 rfl) ?_
  exact x_iret C w hr (fun _ => 0) rfl rfl dX0_begin_21 (Nat.le_of_ble_eq_true rfl) (Nat.le_of_ble_eq_true rfl)
set_option maxHeartbeats 4000000 in
set_option maxRecDepth 100000 in
theorem c448_X4_page (l : Launch) (G : va_G) (cy : Nat → ClassId) (sa : String → Nat → Nat) (sv : Nat → Nat) (h0 h1 h2 h3 h4 h5 h6 h7 h8 h9 h10 : Nat) : xM l G cy sa sv yX4_page (Cond.code yX4_page cX4_page 2 (some .int) :: XG) { frames := 9, cells := 0, slots := 0, locals := 271 } [.ref h0, .int 0] [(h0, .inr (8, [.ref h3, .ref h4, .ref h5, .ref h6, .ref h1, .int 0, .ref h7, .ref h8])), (h1, .inl (cy 3, 3, .inr (.inr (.inr (.inr (va_up (va_up (va_up (fun _ => none) 0 (some h2)) 1 (some h9)) 2 (some h10))))))), (h2, .inr (4, [.int 0, .int 0, .int 0]))] (xQi G (fun f => [(h0, .inr (8, [.ref h3, .ref h4, .ref h5, .ref h6, .ref h1, .int 0, .ref h7, .ref h8])), (h1, .inl (cy 3, 3, .inr (.inr (.inr (.inr (va_up (va_up (va_up (fun _ => none) 0 (some h2)) 1 (some h9)) 2 (some h10))))))), (h2, .inr (4, [.int 0, .int 0, .int 0]))]) 0) := by
  refine xof (by decide) (Nat.le_of_ble_eq_true rfl) (fun p e s m below meth c A C w hr hn ls hl => ?_)
  have hl : lv_has ls 2 [(0, .ref h0), (1, .int 0)] := hl
  refine lv_aload_n C.1 C.2.1 dX4_page_0 rfl (lv_at hl 0 rfl) ?_
  refine lv_iload_n C.1 C.2.1 dX4_page_1 rfl (lv_at hl 1 rfl) ?_
  refine x_kr C w [0, 1] [2] rfl rfl (by decide) (by decide) (va_runV (As := [.int 0]) (rest := []) (xfix C) (c446_X4_pagerOf l G cy sa sv h0 h1 h3 h4 h5 h6 h7 h8 h2 h9 h10 (xtr C) _) (cwV 1 (xhts C) (xgV (maxL := 0) (cc := ⟨#[]⟩) (ret := none) gw_842 gw_843 gw_844 gw_2 gc_X4_pagerOf) rfl rfl rfl (by decide +kernel) ⟨(Nat.le_of_ble_eq_true rfl), (Nat.le_of_ble_eq_true rfl)⟩) (xPV C w [0, 1] rfl (by decide) (ci := 8) (q0 := 0) rfl rfl) rfl rfl hl.1 rfl (lv_room (Nat.le_of_ble_eq_true rfl)) dX4_page_2 ⟨(Nat.le_of_ble_eq_true rfl), (Nat.le_of_ble_eq_true rfl)⟩) (fun f3005 H locs w => ?_)
  have w : xW G A s [(h2, .inr (4, [.int 0, .int 0, .int 0])), (h0, .inr (8, [.ref h3, .ref h4, .ref h5, .ref h6, .ref h1, .int 0, .ref h7, .ref h8])), (h1, .inl (cy 3, 3, .inr (.inr (.inr (.inr (va_up (va_up (va_up (fun _ => none) 0 (some h2)) 1 (some h9)) 2 (some h10)))))))] H _ := w
  refine x_ki C w [0] [1, 2] rfl rfl (by decide) (by decide) (va_runV (As := []) (rest := []) (xfix C) (c447_X0_begin l G cy sa sv h2 (xtr C) _) (cwV 0 (xhts C) (xgV (maxL := 0) (cc := ⟨#[]⟩) (ret := none) gw_849 gw_850 gw_851 gw_46 gc_X0_begin) rfl rfl rfl (by decide +kernel) ⟨(Nat.le_of_ble_eq_true rfl), (Nat.le_of_ble_eq_true rfl)⟩) (xPV C w [0] rfl (by decide) (ci := 4) (q0 := 0) rfl rfl) rfl rfl hl.1 rfl (lv_room (Nat.le_of_ble_eq_true rfl)) dX4_page_5 ⟨(Nat.le_of_ble_eq_true rfl), (Nat.le_of_ble_eq_true rfl)⟩) (fun f3006 H locs w => ?_)
  have w : xW G A s [(h0, .inr (8, [.ref h3, .ref h4, .ref h5, .ref h6, .ref h1, .int 0, .ref h7, .ref h8])), (h1, .inl (cy 3, 3, .inr (.inr (.inr (.inr (va_up (va_up (va_up (fun _ => none) 0 (some h2)) 1 (some h9)) 2 (some h10))))))), (h2, .inr (4, [.int 0, .int 0, .int 0]))] H _ := w
  exact x_iret C w hr (fun _ => 0) rfl rfl dX4_page_8 (Nat.le_of_ble_eq_true rfl) (Nat.le_of_ble_eq_true rfl)
