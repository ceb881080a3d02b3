set_option maxHeartbeats 4000000 in
set_option maxRecDepth 100000 in
theorem c338_X4_rangeNear (l : Launch) (G : va_G) (cy : Nat → ClassId) (sa : String → Nat → Nat) (sv : Nat → Nat) (h0 h1 h2 h3 h4 h5 h6 h7 h8 h9 h10 : Nat) (v0 v1 v2 : Int32) (p0 : v0 ≤ v1) : xX l G cy sa sv yX4_rangeNear (Cond.code yX4_rangeNear cX4_rangeNear 6 (some .int) :: XG) { frames := 12, cells := 1, slots := 6, locals := 341 } [.ref h0, .int v0, .int v1, .int v2, .int 3] [(h0, .inr (8, [.ref h1, .ref h3, .ref h4, .ref h5, .ref h6, .int 0, .ref h7, .ref h8])), (h1, .inr (7, [.ref h2, .ref h9])), (h2, .inr (6, [.ref h10, .int 0]))] (fun f => [(h0, .inr (8, [.ref h1, .ref h3, .ref h4, .ref h5, .ref h6, .int 0, .ref h7, .ref h8])), (h1, .inr (7, [.ref h2, .ref h9])), (h2, .inr (6, [.ref h10, .int 0]))]) "java/lang/IllegalStateException" := by
  refine xofX (by decide) (Nat.le_of_ble_eq_true rfl) (fun p e s m below meth c A C w hno ls hl => ?_)
  have hl : lv_has ls 6 [(0, .ref h0), (1, .int v0), (2, .int v1), (3, .int v2), (4, .int 3)] := hl
  refine lv_iload_n C.1 C.2.1 dX4_rangeNear_0 rfl (lv_at hl 1 rfl) ?_
  refine lv_iload_n C.1 C.2.1 dX4_rangeNear_1 rfl (lv_at hl 2 rfl) ?_
  refine x_kv C w [] [0, 1, 2] rfl rfl (by decide) (by decide) (va_runS (As := [.int v0, .int v1]) (rest := []) (xfix C) (c302_X4_checkRange l G cy sa sv v0 v1 p0 (xtr C) _) (va_cwS 2 (xhts C) (xgS gw_390 gw_391 gw_2 gc_X4_checkRange) rfl rfl rfl (by decide +kernel) ⟨(Nat.le_of_ble_eq_true rfl), (Nat.le_of_ble_eq_true rfl)⟩) (xPS C w [] rfl (by decide)) rfl rfl hl.1 rfl (lv_room (Nat.le_of_ble_eq_true rfl)) dX4_rangeNear_2 ⟨(Nat.le_of_ble_eq_true rfl), (Nat.le_of_ble_eq_true rfl)⟩) (fun f1960 H locs w => ?_)
  have w : xW G A s [(h0, .inr (8, [.ref h1, .ref h3, .ref h4, .ref h5, .ref h6, .int 0, .ref h7, .ref h8])), (h1, .inr (7, [.ref h2, .ref h9])), (h2, .inr (6, [.ref h10, .int 0]))] H _ := w
  refine lv_iload C.1 C.2.1 dX4_rangeNear_5 (lv_at hl 4 rfl) ?_
  refine x_kv C w [] [0, 1, 2] rfl rfl (by decide) (by decide) (va_runS (As := [.int 3]) (rest := []) (xfix C) (c170_X4_checkHow l G cy sa sv (xtr C) _) (va_cwS 1 (xhts C) (xgS gw_416 gw_417 gw_2 gc_X4_checkHow) rfl rfl rfl (by decide +kernel) ⟨(Nat.le_of_ble_eq_true rfl), (Nat.le_of_ble_eq_true rfl)⟩) (xPS C w [] rfl (by decide)) rfl rfl hl.1 rfl (lv_room (Nat.le_of_ble_eq_true rfl)) dX4_rangeNear_7 ⟨(Nat.le_of_ble_eq_true rfl), (Nat.le_of_ble_eq_true rfl)⟩) (fun f1961 H locs w => ?_)
  have w : xW G A s [(h0, .inr (8, [.ref h1, .ref h3, .ref h4, .ref h5, .ref h6, .int 0, .ref h7, .ref h8])), (h1, .inr (7, [.ref h2, .ref h9])), (h2, .inr (6, [.ref h10, .int 0]))] H _ := w
  refine lv_aload_n C.1 C.2.1 dX4_rangeNear_10 rfl (lv_at hl 0 rfl) ?_
  refine x_get (v := .ref h1) C w 0 8 0 (xin_X4 _) rfl rfl (by decide) (List.mem_cons_of_mem _ gw_24) rfl rfl dX4_rangeNear_11 ?_
  refine lv_iload_n C.1 C.2.1 dX4_rangeNear_14 rfl (lv_at hl 1 rfl) ?_
  refine lv_iload_n C.1 C.2.1 dX4_rangeNear_15 rfl (lv_at hl 2 rfl) ?_
  refine lv_iload_n C.1 C.2.1 dX4_rangeNear_16 rfl (lv_at hl 3 rfl) ?_
  refine lv_iload C.1 C.2.1 dX4_rangeNear_17 (lv_at hl 4 rfl) ?_
  refine x_ki C w [1, 2] [0] rfl rfl (by decide) (by decide) (va_runV (As := [.int v0, .int v1, .int v2, .int 3]) (rest := []) (xfix C) (c337_X3_placeNear l G cy sa sv h1 h2 h9 h10 v0 v1 v2 (xtr C) _) (cwV 4 (xhts C) (xgV (maxL := 0) (cc := ⟨#[]⟩) (ret := none) gw_424 gw_425 gw_426 gw_7 gc_X3_placeNear) rfl rfl rfl (by decide +kernel) ⟨(Nat.le_of_ble_eq_true rfl), (Nat.le_of_ble_eq_true rfl)⟩) (xPV C w [1, 2] rfl (by decide) (ci := 7) (q0 := 1) rfl rfl) rfl rfl hl.1 rfl (lv_room (Nat.le_of_ble_eq_true rfl)) dX4_rangeNear_19 ⟨(Nat.le_of_ble_eq_true rfl), (Nat.le_of_ble_eq_true rfl)⟩) (fun f1975 H locs w => ?_)
  have w : xW G A s [(h0, .inr (8, [.ref h1, .ref h3, .ref h4, .ref h5, .ref h6, .int 0, .ref h7, .ref h8])), (h1, .inr (7, [.ref h2, .ref h9])), (h2, .inr (6, [.ref h10, .int 0]))] H _ := w
  refine lv_istore (lv' := [(5, .int (-1)), (0, .ref h0), (1, .int v0), (2, .int v1), (3, .int v2), (4, .int 3)]) C.1 C.2.1 dX4_rangeNear_22 hl (by decide) rfl (fun ls hl => ?_)
  refine lv_iload C.1 C.2.1 dX4_rangeNear_24 (lv_at hl 0 rfl) ?_
  refine lv_iconst (v := (-1)) C.1 C.2.1 dX4_rangeNear_26 (by decide) ?_
  refine lv_icmp_ne (tgt := 40) C.1 C.2.1 dX4_rangeNear_27 (by decide) (fun c9 => absurd (by decide) c9) (fun _ => ?_)
  exact x_thr C w hno hl.1 (by decide) (List.mem_cons_of_mem _ gw_397) (List.mem_cons_of_mem _ gw_398) (tx := "there is no such key") (List.mem_of_getElem? (i := 1) rfl) (xat_161 C (fun w h => List.mem_cons_of_mem _ h)) xatg_161 dX4_rangeNear_30 dX4_rangeNear_33 dX4_rangeNear_34 dX4_rangeNear_36 dX4_rangeNear_39 (Nat.le_of_ble_eq_true rfl) (Nat.le_of_ble_eq_true rfl) (Nat.le_of_ble_eq_true rfl) (Nat.le_of_ble_eq_true rfl) rfl rfl (fun _ => 0) rfl
set_option maxHeartbeats 4000000 in
set_option maxRecDepth 100000 in
theorem c339_L_rangeNear (l : Launch) (G : va_G) (cy : Nat → ClassId) (sa : String → Nat → Nat) (sv : Nat → Nat) (h0 h1 h2 h3 h4 h5 h6 h7 h8 h9 h10 h11 : Nat) (v0 v1 v2 : Int32) (p0 : v0 ≤ v1) : xM l G cy sa sv yL_rangeNear (Cond.codeWith yL_rangeNear cL_rangeNear 7 (some .int) [(0, 15, 18, 19), (0, 15, 22, 21)] :: XG) { frames := 13, cells := 1, slots := 6, locals := 366 } [.ref h0, .int v0, .int v1, .int v2, .int 3, .ref h1] [(h0, .inr (8, [.ref h2, .ref h4, .ref h5, .ref h6, .ref h7, .int 0, .ref h8, .ref h9])), (h2, .inr (7, [.ref h3, .ref h10])), (h3, .inr (6, [.ref h11, .int 0]))] (xQi G (fun f => [(h0, .inr (8, [.ref h2, .ref h4, .ref h5, .ref h6, .ref h7, .int 0, .ref h8, .ref h9])), (h2, .inr (7, [.ref h3, .ref h10])), (h3, .inr (6, [.ref h11, .int 0]))]) 2) := by
  refine xofH (by decide) (Nat.le_of_ble_eq_true rfl) (fun p e s m below meth c A C w hr hn hT ls hl => ?_)
  have hl : lv_has ls 7 [(0, .ref h0), (1, .int v0), (2, .int v1), (3, .int v2), (4, .int 3), (5, .ref h1)] := hl
  refine lv_aload C.1 C.2.1 dL_rangeNear_0 (lv_at hl 5 rfl) ?_
  refine lv_aload_n C.1 C.2.1 dL_rangeNear_2 rfl (lv_at hl 0 rfl) ?_
  refine lv_iload_n C.1 C.2.1 dL_rangeNear_3 rfl (lv_at hl 1 rfl) ?_
  refine lv_iload_n C.1 C.2.1 dL_rangeNear_4 rfl (lv_at hl 2 rfl) ?_
  refine lv_iload_n C.1 C.2.1 dL_rangeNear_5 rfl (lv_at hl 3 rfl) ?_
  refine lv_iload C.1 C.2.1 dL_rangeNear_6 (lv_at hl 4 rfl) ?_
  refine x_kx C w [0, 1, 2] [] rfl rfl (by decide) (by decide) (vx_runV (As := [.int v0, .int v1, .int v2, .int 3]) (rest := [.ref h1]) (xfix C) (c338_X4_rangeNear l G cy sa sv h0 h2 h3 h4 h5 h6 h7 h8 h9 h10 h11 v0 v1 v2 p0 (xtr C) _) (cwV 4 (xhts C) (xgV (maxL := 0) (cc := ⟨#[]⟩) (ret := none) gw_685 gw_429 gw_430 gw_2 gc_X4_rangeNear) rfl rfl rfl (by decide +kernel) ⟨(Nat.le_of_ble_eq_true rfl), (Nat.le_of_ble_eq_true rfl)⟩) (xPV C w [0, 1, 2] rfl (by decide) (ci := 8) (q0 := 0) rfl rfl) rfl rfl hl.1 rfl (lv_room (Nat.le_of_ble_eq_true rfl)) dL_rangeNear_8 ⟨(Nat.le_of_ble_eq_true rfl), (Nat.le_of_ble_eq_true rfl)⟩) (fun f1976 H locs ce q9 w hce hcv hcl => ?_)
  have w : xW G A s [(h0, .inr (8, [.ref h2, .ref h4, .ref h5, .ref h6, .ref h7, .int 0, .ref h8, .ref h9])), (h2, .inr (7, [.ref h3, .ref h10])), (h3, .inr (6, [.ref h11, .int 0]))] H _ := w
  refine vx_widen (k := 1) (n := 6) (Nat.le_of_ble_eq_true rfl) (Nat.le_of_ble_eq_true rfl) ?_
  refine vx_catch (xown C) [⟨0, 15, 18, 19⟩] ⟨0, 15, 22, 21⟩ [] hT (fun z hz => Or.inr (by cases List.mem_singleton.mp hz; exact ⟨by decide, "java/lang/IllegalArgumentException", xhts C _ (List.mem_cons_of_mem _ gw_104), xs_n1 (xS C)⟩)) (by decide) (by decide) (xhts C _ (List.mem_cons_of_mem _ gw_407)) (va_any rfl (xs_c2 (xS C))) hce hcv hcl ?_
  refine lv_astore (lv' := [(6, .ref q9), (0, .ref h0), (1, .int v0), (2, .int v1), (3, .int v2), (4, .int 3), (5, .ref h1)]) C.1 C.2.1 dL_rangeNear_22 hl (by decide) rfl (fun ls hl => ?_)
  refine lv_iconst (v := 2) C.1 C.2.1 dL_rangeNear_24 (by decide) ?_
  exact x_iret C w hr (fun _ => 0) rfl rfl dL_rangeNear_25 (Nat.le_of_ble_eq_true rfl) (Nat.le_of_ble_eq_true rfl)
set_option maxHeartbeats 4000000 in
set_option maxRecDepth 100000 in
theorem c340_X6_rangeNear (l : Launch) (G : va_G) (cy : Nat → ClassId) (sa : String → Nat → Nat) (sv : Nat → Nat) (h0 h1 h2 h3 h4 h5 h6 h7 : Nat) (v0 v1 v2 : Int32) (p0 : ¬ v1 < v0) : xM l G cy sa sv yX6_rangeNear (Cond.code yX6_rangeNear cX6_rangeNear 5 (some .int) :: XG) { frames := 12, cells := 1, slots := 3, locals := 334 } [.ref h0, .int v0, .int v1, .int v2, .int 3] [(h0, .inr (10, [.ref h1, .ref h2, .ref h3, .ref h4, .ref h5, .ref h6, .ref h7, .int 0, .int 0])), (h1, .inr (3, [.int 0, .ref (sv 0), .int 0]))] (xQi G (fun f => [(h0, .inr (10, [.ref h1, .ref h2, .ref h3, .ref h4, .ref h5, .ref h6, .ref h7, .int 0, .int 2])), (h1, .inr (3, [.int 0, .ref (sv 0), .int 0]))]) 0) := by
  refine xof (by decide) (Nat.le_of_ble_eq_true rfl) (fun p e s m below meth c A C w hr hn ls hl => ?_)
  have hl : lv_has ls 5 [(0, .ref h0), (1, .int v0), (2, .int v1), (3, .int v2), (4, .int 3)] := hl
  refine lv_aload_n C.1 C.2.1 dX6_rangeNear_0 rfl (lv_at hl 0 rfl) ?_
  refine lv_iload_n C.1 C.2.1 dX6_rangeNear_1 rfl (lv_at hl 1 rfl) ?_
  refine lv_iload_n C.1 C.2.1 dX6_rangeNear_2 rfl (lv_at hl 2 rfl) ?_
  refine lv_icmp_gt (tgt := 14) C.1 C.2.1 dX6_rangeNear_3 (by decide) (fun c9 => absurd c9 p0) (fun _ => ?_)
  refine lv_iload C.1 C.2.1 dX6_rangeNear_6 (lv_at hl 4 rfl) ?_
  refine x_ki C w [] [0, 1] rfl rfl (by decide) (by decide) (va_runS (As := [.int 3]) (rest := [.ref h0]) (xfix C) (c175_X6_isNoHow l G cy sa sv (xtr C) _) (va_cwS 1 (xhts C) (xgS gw_439 gw_440 gw_58 gc_X6_isNoHow) rfl rfl rfl (by decide +kernel) ⟨(Nat.le_of_ble_eq_true rfl), (Nat.le_of_ble_eq_true rfl)⟩) (xPS C w [] rfl (by decide)) rfl rfl hl.1 rfl (lv_room (Nat.le_of_ble_eq_true rfl)) dX6_rangeNear_8 ⟨(Nat.le_of_ble_eq_true rfl), (Nat.le_of_ble_eq_true rfl)⟩) (fun f1981 H locs w => ?_)
  have w : xW G A s [(h0, .inr (10, [.ref h1, .ref h2, .ref h3, .ref h4, .ref h5, .ref h6, .ref h7, .int 0, .int 0])), (h1, .inr (3, [.int 0, .ref (sv 0), .int 0]))] H _ := w
  refine lv_if_eq (tgt := 18) C.1 C.2.1 dX6_rangeNear_11 (by decide) (fun _ => ?_) (fun c9 => absurd (by decide) c9)
  refine lv_iconst (v := 0) C.1 C.2.1 dX6_rangeNear_18 (by decide) ?_
  refine lv_iconst (v := 1) C.1 C.2.1 dX6_rangeNear_19 (by decide) ?_
  refine x_ki C w [0] [1] rfl rfl (by decide) (by decide) (va_runV (As := [.int 0, .int 1]) (rest := []) (xfix C) (c46_X6_start l G cy sa sv h0 h1 h2 h3 h4 h5 h6 h7 (xtr C) _) (cwV 2 (xhts C) (xgV (maxL := 0) (cc := ⟨#[]⟩) (ret := none) gw_114 gw_115 gw_116 gw_58 gc_X6_start) rfl rfl rfl (by decide +kernel) ⟨(Nat.le_of_ble_eq_true rfl), (Nat.le_of_ble_eq_true rfl)⟩) (xPV C w [0] rfl (by decide) (ci := 10) (q0 := 0) rfl rfl) rfl rfl hl.1 rfl (lv_room (Nat.le_of_ble_eq_true rfl)) dX6_rangeNear_20 ⟨(Nat.le_of_ble_eq_true rfl), (Nat.le_of_ble_eq_true rfl)⟩) (fun f1982 H locs w => ?_)
  have w : xW G A s [(h1, .inr (3, [.int 0, .ref (sv 0), .int 0])), (h0, .inr (10, [.ref h1, .ref h2, .ref h3, .ref h4, .ref h5, .ref h6, .ref h7, .int 0, .int 0]))] H _ := w
  refine lv_if_ne (tgt := 54) C.1 C.2.1 dX6_rangeNear_23 (by decide) (fun c9 => absurd (by decide) c9) (fun _ => ?_)
  refine lv_aload_n C.1 C.2.1 dX6_rangeNear_26 rfl (lv_at hl 0 rfl) ?_
  refine lv_aload_n C.1 C.2.1 dX6_rangeNear_27 rfl (lv_at hl 0 rfl) ?_
  refine lv_iload_n C.1 C.2.1 dX6_rangeNear_28 rfl (lv_at hl 1 rfl) ?_
  refine lv_iload_n C.1 C.2.1 dX6_rangeNear_29 rfl (lv_at hl 2 rfl) ?_
  refine x_kr C w [1, 0] [] rfl rfl (by decide) (by decide) (va_runV (As := [.int v0, .int v1]) (rest := [.ref h0]) (xfix C) (c298_X6_range l G cy sa sv h0 h1 h2 h3 h4 h5 h6 h7 v0 v1 (xtr C) _) (cwV 2 (xhts C) (xgV (maxL := 0) (cc := ⟨#[]⟩) (ret := none) gw_670 gw_671 gw_672 gw_58 gc_X6_range) rfl rfl rfl (by decide +kernel) ⟨(Nat.le_of_ble_eq_true rfl), (Nat.le_of_ble_eq_true rfl)⟩) (xPV C w [1, 0] rfl (by decide) (ci := 10) (q0 := 1) rfl rfl) rfl rfl hl.1 rfl (lv_room (Nat.le_of_ble_eq_true rfl)) dX6_rangeNear_30 ⟨(Nat.le_of_ble_eq_true rfl), (Nat.le_of_ble_eq_true rfl)⟩) (fun f1991 H locs w => ?_)
  have w : xW G A s [(h0, .inr (10, [.ref h1, .ref h2, .ref h3, .ref h4, .ref h5, .ref h6, .ref h7, .int 0, .int 0])), (h1, .inr (3, [.int 0, .ref (sv 0), .int 0])), ((f1991 0), .inr (3, [.int 0, .ref (sv 0), .int 0]))] H _ := w
  refine W.widen (k := 1) (n := 3) (Nat.le_of_ble_eq_true rfl) (Nat.le_of_ble_eq_true rfl) ?_
  refine lv_iload_n C.1 C.2.1 dX6_rangeNear_33 rfl (lv_at hl 3 rfl) ?_
  refine lv_iload C.1 C.2.1 dX6_rangeNear_34 (lv_at hl 4 rfl) ?_
  refine x_kn C w [2] [0, 1] rfl rfl (by decide) (by decide) (va_runS (As := [.ref (f1991 0), .int v2, .int 3]) (rest := [.ref h0]) (xfix C) (c176_X6_nearIn l G cy sa sv (f1991 0) v2 (xtr C) _) (va_cwS 3 (xhts C) (xgS gw_442 gw_443 gw_58 gc_X6_nearIn) rfl rfl rfl (by decide +kernel) ⟨(Nat.le_of_ble_eq_true rfl), (Nat.le_of_ble_eq_true rfl)⟩) (xPS C w [2] rfl (by decide)) rfl rfl hl.1 rfl (lv_room (Nat.le_of_ble_eq_true rfl)) dX6_rangeNear_36 ⟨(Nat.le_of_ble_eq_true rfl), (Nat.le_of_ble_eq_true rfl)⟩) (fun f1993 H locs w => ?_)
  have w : xW G A s [(h0, .inr (10, [.ref h1, .ref h2, .ref h3, .ref h4, .ref h5, .ref h6, .ref h7, .int 0, .int 0])), (h1, .inr (3, [.int 0, .ref (sv 0), .int 0])), ((f1991 0), .inr (3, [.int 0, .ref (sv 0), .int 0]))] H _ := w
  refine lv_ifnonnullN C.1 C.2.1 dX6_rangeNear_39 ?_
  refine lv_iconst (v := 1) C.1 C.2.1 dX6_rangeNear_42 (by decide) ?_
  refine lv_goto (tgt := 47) C.1 C.2.1 dX6_rangeNear_43 (by decide) ?_
  refine lv_iconst (v := 2) C.1 C.2.1 dX6_rangeNear_47 (by decide) ?_
  refine x_ki C w [0] [1, 2] rfl rfl (by decide) (by decide) (va_runV (As := [.int 1, .int 2]) (rest := []) (xfix C) (c149_X6_fails l G cy sa sv h0 h1 h2 h3 h4 h5 h6 h7 (xtr C) _) (cwV 2 (xhts C) (xgV (maxL := 0) (cc := ⟨#[]⟩) (ret := none) gw_203 gw_204 gw_205 gw_58 gc_X6_fails) rfl rfl rfl (by decide +kernel) ⟨(Nat.le_of_ble_eq_true rfl), (Nat.le_of_ble_eq_true rfl)⟩) (xPV C w [0] rfl (by decide) (ci := 10) (q0 := 0) rfl rfl) rfl rfl hl.1 rfl (lv_room (Nat.le_of_ble_eq_true rfl)) dX6_rangeNear_48 ⟨(Nat.le_of_ble_eq_true rfl), (Nat.le_of_ble_eq_true rfl)⟩) (fun f1994 H locs w => ?_)
  have w : xW G A s [(h1, .inr (3, [.int 0, .ref (sv 0), .int 0])), ((f1991 0), .inr (3, [.int 0, .ref (sv 0), .int 0])), (h0, .inr (10, [.ref h1, .ref h2, .ref h3, .ref h4, .ref h5, .ref h6, .ref h7, .int 0, .int 2]))] H _ := w
  refine lv_if_eq (tgt := 58) C.1 C.2.1 dX6_rangeNear_51 (by decide) (fun c9 => absurd c9 (by decide)) (fun _ => ?_)
  refine lv_iconst (v := 0) C.1 C.2.1 dX6_rangeNear_54 (by decide) ?_
  refine lv_goto (tgt := 72) C.1 C.2.1 dX6_rangeNear_55 (by decide) ?_
  have w := w.sub (ws' := [(h0, .inr (10, [.ref h1, .ref h2, .ref h3, .ref h4, .ref h5, .ref h6, .ref h7, .int 0, .int 2])), (h1, .inr (3, [.int 0, .ref (sv 0), .int 0]))]) [2, 0] (by decide) rfl rfl
  exact x_iret C w hr (fun _ => 0) rfl rfl dX6_rangeNear_72 (Nat.le_of_ble_eq_true rfl) (Nat.le_of_ble_eq_true rfl)
set_option maxHeartbeats 4000000 in
set_option maxRecDepth 100000 in
theorem c341_X4_rangeNear (l : Launch) (G : va_G) (cy : Nat → ClassId) (sa : String → Nat → Nat) (sv : Nat → Nat) (h0 : Nat) (v0 v1 v2 : Int32) (p0 : ¬ v0 ≤ v1) : xX l G cy sa sv yX4_rangeNear (Cond.code yX4_rangeNear cX4_rangeNear 6 (some .int) :: XG) { frames := 9, cells := 1, slots := 6, locals := 271 } [.ref h0, .int v0, .int v1, .int v2, .int 3] [] (fun f => []) "java/lang/IllegalArgumentException" := by
  refine xofX (by decide) (Nat.le_of_ble_eq_true rfl) (fun p e s m below meth c A C w hno ls hl => ?_)
  have hl : lv_has ls 6 [(0, .ref h0), (1, .int v0), (2, .int v1), (3, .int v2), (4, .int 3)] := hl
  refine lv_iload_n C.1 C.2.1 dX4_rangeNear_0 rfl (lv_at hl 1 rfl) ?_
  refine lv_iload_n C.1 C.2.1 dX4_rangeNear_1 rfl (lv_at hl 2 rfl) ?_
  refine x_kx C w [] [] rfl rfl (by decide) (by decide) (vx_runS (As := [.int v0, .int v1]) (rest := []) (xfix C) (c306_X4_checkRange l G cy sa sv v0 v1 p0 (xtr C) _) (va_cwS 2 (xhts C) (xgS gw_390 gw_391 gw_2 gc_X4_checkRange) rfl rfl rfl (by decide +kernel) ⟨(Nat.le_of_ble_eq_true rfl), (Nat.le_of_ble_eq_true rfl)⟩) (xPS C w [] rfl (by decide)) rfl rfl hl.1 rfl (lv_room (Nat.le_of_ble_eq_true rfl)) dX4_rangeNear_2 ⟨(Nat.le_of_ble_eq_true rfl), (Nat.le_of_ble_eq_true rfl)⟩) (fun f2001 H locs ce q9 w hce hcv hcl => ?_)
  have w : xW G A s [] H _ := w
  refine vx_widen (k := 1) (n := 6) (Nat.le_of_ble_eq_true rfl) (Nat.le_of_ble_eq_true rfl) ?_
  exact x_out C w hno (fun _ => 0) rfl hce hcv hcl (Nat.le_of_ble_eq_true rfl) (Nat.le_of_ble_eq_true rfl)
set_option maxHeartbeats 4000000 in
set_option maxRecDepth 100000 in
theorem c342_L_rangeNear (l : Launch) (G : va_G) (cy : Nat → ClassId) (sa : String → Nat → Nat) (sv : Nat → Nat) (h0 h1 h2 h3 h4 h5 h6 h7 h8 : Nat) (v0 v1 v2 : Int32) (p0 : ¬ v0 ≤ v1) : xM l G cy sa sv yL_rangeNear (Cond.codeWith yL_rangeNear cL_rangeNear 7 (some .int) [(0, 15, 18, 19), (0, 15, 22, 21)] :: XG) { frames := 10, cells := 1, slots := 6, locals := 296 } [.ref h0, .int v0, .int v1, .int v2, .int 3, .ref h1] [(h0, .inr (8, [.ref h2, .ref h3, .ref h4, .ref h5, .ref h6, .int 0, .ref h7, .ref h8]))] (xQi G (fun f => [(h0, .inr (8, [.ref h2, .ref h3, .ref h4, .ref h5, .ref h6, .int 0, .ref h7, .ref h8]))]) 1) := by
  refine xofH (by decide) (Nat.le_of_ble_eq_true rfl) (fun p e s m below meth c A C w hr hn hT ls hl => ?_)
  have hl : lv_has ls 7 [(0, .ref h0), (1, .int v0), (2, .int v1), (3, .int v2), (4, .int 3), (5, .ref h1)] := hl
  refine lv_aload C.1 C.2.1 dL_rangeNear_0 (lv_at hl 5 rfl) ?_
  refine lv_aload_n C.1 C.2.1 dL_rangeNear_2 rfl (lv_at hl 0 rfl) ?_
  refine lv_iload_n C.1 C.2.1 dL_rangeNear_3 rfl (lv_at hl 1 rfl) ?_
  refine lv_iload_n C.1 C.2.1 dL_rangeNear_4 rfl (lv_at hl 2 rfl) ?_
  refine lv_iload_n C.1 C.2.1 dL_rangeNear_5 rfl (lv_at hl 3 rfl) ?_
  refine lv_iload C.1 C.2.1 dL_rangeNear_6 (lv_at hl 4 rfl) ?_
  refine x_kx C w [] [0] rfl rfl (by decide) (by decide) (vx_runV (As := [.int v0, .int v1, .int v2, .int 3]) (rest := [.ref h1]) (xfix C) (c341_X4_rangeNear l G cy sa sv h0 v0 v1 v2 p0 (xtr C) _) (cwV 4 (xhts C) (xgV (maxL := 0) (cc := ⟨#[]⟩) (ret := none) gw_685 gw_429 gw_430 gw_2 gc_X4_rangeNear) rfl rfl rfl (by decide +kernel) ⟨(Nat.le_of_ble_eq_true rfl), (Nat.le_of_ble_eq_true rfl)⟩) (xPV C w [] rfl (by decide) (ci := 8) (q0 := 0) rfl rfl) rfl rfl hl.1 rfl (lv_room (Nat.le_of_ble_eq_true rfl)) dL_rangeNear_8 ⟨(Nat.le_of_ble_eq_true rfl), (Nat.le_of_ble_eq_true rfl)⟩) (fun f2002 H locs ce q9 w hce hcv hcl => ?_)
  have w : xW G A s [(h0, .inr (8, [.ref h2, .ref h3, .ref h4, .ref h5, .ref h6, .int 0, .ref h7, .ref h8]))] H _ := w
  refine vx_widen (k := 1) (n := 6) (Nat.le_of_ble_eq_true rfl) (Nat.le_of_ble_eq_true rfl) ?_
  refine vx_catch (xown C) [] ⟨0, 15, 18, 19⟩ [⟨0, 15, 22, 21⟩] hT (fun z hz => nomatch hz) (by decide) (by decide) (xhts C _ (List.mem_cons_of_mem _ gw_104)) (va_any rfl (xs_c1 (xS C))) hce hcv hcl ?_
  refine lv_astore (lv' := [(6, .ref q9), (0, .ref h0), (1, .int v0), (2, .int v1), (3, .int v2), (4, .int 3), (5, .ref h1)]) C.1 C.2.1 dL_rangeNear_18 hl (by decide) rfl (fun ls hl => ?_)
  refine lv_iconst (v := 1) C.1 C.2.1 dL_rangeNear_20 (by decide) ?_
  exact x_iret C w hr (fun _ => 0) rfl rfl dL_rangeNear_21 (Nat.le_of_ble_eq_true rfl) (Nat.le_of_ble_eq_true rfl)
set_option maxHeartbeats 4000000 in
set_option maxRecDepth 100000 in
theorem c343_X6_rangeNear (l : Launch) (G : va_G) (cy : Nat → ClassId) (sa : String → Nat → Nat) (sv : Nat → Nat) (h0 h1 h2 h3 h4 h5 h6 h7 : Nat) (v0 v1 v2 : Int32) (p0 : v1 < v0) : xM l G cy sa sv yX6_rangeNear (Cond.code yX6_rangeNear cX6_rangeNear 5 (some .int) :: XG) { frames := 9, cells := 0, slots := 0, locals := 272 } [.ref h0, .int v0, .int v1, .int v2, .int 3] [(h0, .inr (10, [.ref h1, .ref h2, .ref h3, .ref h4, .ref h5, .ref h6, .ref h7, .int 0, .int 0]))] (xQi G (fun f => [(h0, .inr (10, [.ref h1, .ref h2, .ref h3, .ref h4, .ref h5, .ref h6, .ref h7, .int 0, .int 1]))]) 0) := by
  refine xof (by decide) (Nat.le_of_ble_eq_true rfl) (fun p e s m below meth c A C w hr hn ls hl => ?_)
  have hl : lv_has ls 5 [(0, .ref h0), (1, .int v0), (2, .int v1), (3, .int v2), (4, .int 3)] := hl
  refine lv_aload_n C.1 C.2.1 dX6_rangeNear_0 rfl (lv_at hl 0 rfl) ?_
  refine lv_iload_n C.1 C.2.1 dX6_rangeNear_1 rfl (lv_at hl 1 rfl) ?_
  refine lv_iload_n C.1 C.2.1 dX6_rangeNear_2 rfl (lv_at hl 2 rfl) ?_
  refine lv_icmp_gt (tgt := 14) C.1 C.2.1 dX6_rangeNear_3 (by decide) (fun _ => ?_) (fun c9 => absurd p0 c9)
  refine lv_iconst (v := 1) C.1 C.2.1 dX6_rangeNear_14 (by decide) ?_
  refine lv_goto (tgt := 19) C.1 C.2.1 dX6_rangeNear_15 (by decide) ?_
  refine lv_iconst (v := 1) C.1 C.2.1 dX6_rangeNear_19 (by decide) ?_
  refine x_ki C w [0] [] rfl rfl (by decide) (by decide) (va_runV (As := [.int 1, .int 1]) (rest := []) (xfix C) (c17_X6_start l G cy sa sv h0 h1 h2 h3 h4 h5 h6 h7 (xtr C) _) (cwV 2 (xhts C) (xgV (maxL := 0) (cc := ⟨#[]⟩) (ret := none) gw_114 gw_115 gw_116 gw_58 gc_X6_start) rfl rfl rfl (by decide +kernel) ⟨(Nat.le_of_ble_eq_true rfl), (Nat.le_of_ble_eq_true rfl)⟩) (xPV C w [0] rfl (by decide) (ci := 10) (q0 := 0) rfl rfl) rfl rfl hl.1 rfl (lv_room (Nat.le_of_ble_eq_true rfl)) dX6_rangeNear_20 ⟨(Nat.le_of_ble_eq_true rfl), (Nat.le_of_ble_eq_true rfl)⟩) (fun f2005 H locs w => ?_)
  have w : xW G A s [(h0, .inr (10, [.ref h1, .ref h2, .ref h3, .ref h4, .ref h5, .ref h6, .ref h7, .int 0, .int 1]))] H _ := w
  refine lv_if_ne (tgt := 54) C.1 C.2.1 dX6_rangeNear_23 (by decide) (fun _ => ?_) (fun c9 => absurd c9 (by decide))
  refine lv_iconst (v := 0) C.1 C.2.1 dX6_rangeNear_54 (by decide) ?_
  refine lv_goto (tgt := 72) C.1 C.2.1 dX6_rangeNear_55 (by decide) ?_
  exact x_iret C w hr (fun _ => 0) rfl rfl dX6_rangeNear_72 (Nat.le_of_ble_eq_true rfl) (Nat.le_of_ble_eq_true rfl)
set_option maxHeartbeats 4000000 in
set_option maxRecDepth 100000 in
theorem c344_X4_rangeNear (l : Launch) (G : va_G) (cy : Nat → ClassId) (sa : String → Nat → Nat) (sv : Nat → Nat) (h0 : Nat) (v0 v1 v2 v3 : Int32) (p0 : v0 ≤ v1) (p1 : v3 < 0) : xX l G cy sa sv yX4_rangeNear (Cond.code yX4_rangeNear cX4_rangeNear 6 (some .int) :: XG) { frames := 9, cells := 1, slots := 6, locals := 271 } [.ref h0, .int v0, .int v1, .int v2, .int v3] [] (fun f => []) "java/lang/IllegalArgumentException" := by
  refine xofX (by decide) (Nat.le_of_ble_eq_true rfl) (fun p e s m below meth c A C w hno ls hl => ?_)
  have hl : lv_has ls 6 [(0, .ref h0), (1, .int v0), (2, .int v1), (3, .int v2), (4, .int v3)] := hl
  refine lv_iload_n C.1 C.2.1 dX4_rangeNear_0 rfl (lv_at hl 1 rfl) ?_
  refine lv_iload_n C.1 C.2.1 dX4_rangeNear_1 rfl (lv_at hl 2 rfl) ?_
  refine x_kv C w [] [] rfl rfl (by decide) (by decide) (va_runS (As := [.int v0, .int v1]) (rest := []) (xfix C) (c302_X4_checkRange l G cy sa sv v0 v1 p0 (xtr C) _) (va_cwS 2 (xhts C) (xgS gw_390 gw_391 gw_2 gc_X4_checkRange) rfl rfl rfl (by decide +kernel) ⟨(Nat.le_of_ble_eq_true rfl), (Nat.le_of_ble_eq_true rfl)⟩) (xPS C w [] rfl (by decide)) rfl rfl hl.1 rfl (lv_room (Nat.le_of_ble_eq_true rfl)) dX4_rangeNear_2 ⟨(Nat.le_of_ble_eq_true rfl), (Nat.le_of_ble_eq_true rfl)⟩) (fun f2014 H locs w => ?_)
  have w : xW G A s [] H _ := w
  refine lv_iload C.1 C.2.1 dX4_rangeNear_5 (lv_at hl 4 rfl) ?_
  refine x_kx C w [] [] rfl rfl (by decide) (by decide) (vx_runS (As := [.int v3]) (rest := []) (xfix C) (c178_X4_checkHow l G cy sa sv v3 p1 (xtr C) _) (va_cwS 1 (xhts C) (xgS gw_416 gw_417 gw_2 gc_X4_checkHow) rfl rfl rfl (by decide +kernel) ⟨(Nat.le_of_ble_eq_true rfl), (Nat.le_of_ble_eq_true rfl)⟩) (xPS C w [] rfl (by decide)) rfl rfl hl.1 rfl (lv_room (Nat.le_of_ble_eq_true rfl)) dX4_rangeNear_7 ⟨(Nat.le_of_ble_eq_true rfl), (Nat.le_of_ble_eq_true rfl)⟩) (fun f2015 H locs ce q9 w hce hcv hcl => ?_)
  have w : xW G A s [] H _ := w
  refine vx_widen (k := 1) (n := 6) (Nat.le_of_ble_eq_true rfl) (Nat.le_of_ble_eq_true rfl) ?_
  exact x_out C w hno (fun _ => 0) rfl hce hcv hcl (Nat.le_of_ble_eq_true rfl) (Nat.le_of_ble_eq_true rfl)
set_option maxHeartbeats 4000000 in
set_option maxRecDepth 100000 in
theorem c345_L_rangeNear (l : Launch) (G : va_G) (cy : Nat → ClassId) (sa : String → Nat → Nat) (sv : Nat → Nat) (h0 h1 h2 h3 h4 h5 h6 h7 h8 : Nat) (v0 v1 v2 v3 : Int32) (p0 : v0 ≤ v1) (p1 : v3 < 0) : xM l G cy sa sv yL_rangeNear (Cond.codeWith yL_rangeNear cL_rangeNear 7 (some .int) [(0, 15, 18, 19), (0, 15, 22, 21)] :: XG) { frames := 10, cells := 1, slots := 6, locals := 296 } [.ref h0, .int v0, .int v1, .int v2, .int v3, .ref h1] [(h0, .inr (8, [.ref h2, .ref h3, .ref h4, .ref h5, .ref h6, .int 0, .ref h7, .ref h8]))] (xQi G (fun f => [(h0, .inr (8, [.ref h2, .ref h3, .ref h4, .ref h5, .ref h6, .int 0, .ref h7, .ref h8]))]) 1) := by
  refine xofH (by decide) (Nat.le_of_ble_eq_true rfl) (fun p e s m below meth c A C w hr hn hT ls hl => ?_)
  have hl : lv_has ls 7 [(0, .ref h0), (1, .int v0), (2, .int v1), (3, .int v2), (4, .int v3), (5, .ref h1)] := hl
  refine lv_aload C.1 C.2.1 dL_rangeNear_0 (lv_at hl 5 rfl) ?_
  refine lv_aload_n C.1 C.2.1 dL_rangeNear_2 rfl (lv_at hl 0 rfl) ?_
  refine lv_iload_n C.1 C.2.1 dL_rangeNear_3 rfl (lv_at hl 1 rfl) ?_
  refine lv_iload_n C.1 C.2.1 dL_rangeNear_4 rfl (lv_at hl 2 rfl) ?_
  refine lv_iload_n C.1 C.2.1 dL_rangeNear_5 rfl (lv_at hl 3 rfl) ?_
  refine lv_iload C.1 C.2.1 dL_rangeNear_6 (lv_at hl 4 rfl) ?_
  refine x_kx C w [] [0] rfl rfl (by decide) (by decide) (vx_runV (As := [.int v0, .int v1, .int v2, .int v3]) (rest := [.ref h1]) (xfix C) (c344_X4_rangeNear l G cy sa sv h0 v0 v1 v2 v3 p0 p1 (xtr C) _) (cwV 4 (xhts C) (xgV (maxL := 0) (cc := ⟨#[]⟩) (ret := none) gw_685 gw_429 gw_430 gw_2 gc_X4_rangeNear) rfl rfl rfl (by decide +kernel) ⟨(Nat.le_of_ble_eq_true rfl), (Nat.le_of_ble_eq_true rfl)⟩) (xPV C w [] rfl (by decide) (ci := 8) (q0 := 0) rfl rfl) rfl rfl hl.1 rfl (lv_room (Nat.le_of_ble_eq_true rfl)) dL_rangeNear_8 ⟨(Nat.le_of_ble_eq_true rfl), (Nat.le_of_ble_eq_true rfl)⟩) (fun f2016 H locs ce q9 w hce hcv hcl => ?_)
  have w : xW G A s [(h0, .inr (8, [.ref h2, .ref h3, .ref h4, .ref h5, .ref h6, .int 0, .ref h7, .ref h8]))] H _ := w
  refine vx_widen (k := 1) (n := 6) (Nat.le_of_ble_eq_true rfl) (Nat.le_of_ble_eq_true rfl) ?_
  refine vx_catch (xown C) [] ⟨0, 15, 18, 19⟩ [⟨0, 15, 22, 21⟩] hT (fun z hz => nomatch hz) (by decide) (by decide) (xhts C _ (List.mem_cons_of_mem _ gw_104)) (va_any rfl (xs_c1 (xS C))) hce hcv hcl ?_
  refine lv_astore (lv' := [(6, .ref q9), (0, .ref h0), (1, .int v0), (2, .int v1), (3, .int v2), (4, .int v3), (5, .ref h1)]) C.1 C.2.1 dL_rangeNear_18 hl (by decide) rfl (fun ls hl => ?_)
  refine lv_iconst (v := 1) C.1 C.2.1 dL_rangeNear_20 (by decide) ?_
  exact x_iret C w hr (fun _ => 0) rfl rfl dL_rangeNear_21 (Nat.le_of_ble_eq_true rfl) (Nat.le_of_ble_eq_true rfl)
set_option maxHeartbeats 4000000 in
set_option maxRecDepth 100000 in
theorem c346_X6_rangeNear (l : Launch) (G : va_G) (cy : Nat → ClassId) (sa : String → Nat → Nat) (sv : Nat → Nat) (h0 h1 h2 h3 h4 h5 h6 h7 : Nat) (v0 v1 v2 v3 : Int32) (p0 : ¬ v1 < v0) (p1 : v3 < 0) : xM l G cy sa sv yX6_rangeNear (Cond.code yX6_rangeNear cX6_rangeNear 5 (some .int) :: XG) { frames := 9, cells := 0, slots := 0, locals := 272 } [.ref h0, .int v0, .int v1, .int v2, .int v3] [(h0, .inr (10, [.ref h1, .ref h2, .ref h3, .ref h4, .ref h5, .ref h6, .ref h7, .int 0, .int 0]))] (xQi G (fun f => [(h0, .inr (10, [.ref h1, .ref h2, .ref h3, .ref h4, .ref h5, .ref h6, .ref h7, .int 0, .int 1]))]) 0) := by
  refine xof (by decide) (Nat.le_of_ble_eq_true rfl) (fun p e s m below meth c A C w hr hn ls hl => ?_)
  have hl : lv_has ls 5 [(0, .ref h0), (1, .int v0), (2, .int v1), (3, .int v2), (4, .int v3)] := hl
  refine lv_aload_n C.1 C.2.1 dX6_rangeNear_0 rfl (lv_at hl 0 rfl) ?_
  refine lv_iload_n C.1 C.2.1 dX6_rangeNear_1 rfl (lv_at hl 1 rfl) ?_
  refine lv_iload_n C.1 C.2.1 dX6_rangeNear_2 rfl (lv_at hl 2 rfl) ?_
  refine lv_icmp_gt (tgt := 14) C.1 C.2.1 dX6_rangeNear_3 (by decide) (fun c9 => absurd c9 p0) (fun _ => ?_)
  refine lv_iload C.1 C.2.1 dX6_rangeNear_6 (lv_at hl 4 rfl) ?_
  refine x_ki C w [] [0] rfl rfl (by decide) (by decide) (va_runS (As := [.int v3]) (rest := [.ref h0]) (xfix C) (c182_X6_isNoHow l G cy sa sv v3 p1 (xtr C) _) (va_cwS 1 (xhts C) (xgS gw_439 gw_440 gw_58 gc_X6_isNoHow) rfl rfl rfl (by decide +kernel) ⟨(Nat.le_of_ble_eq_true rfl), (Nat.le_of_ble_eq_true rfl)⟩) (xPS C w [] rfl (by decide)) rfl rfl hl.1 rfl (lv_room (Nat.le_of_ble_eq_true rfl)) dX6_rangeNear_8 ⟨(Nat.le_of_ble_eq_true rfl), (Nat.le_of_ble_eq_true rfl)⟩) (fun f2019 H locs w => ?_)
  have w : xW G A s [(h0, .inr (10, [.ref h1, .ref h2, .ref h3, .ref h4, .ref h5, .ref h6, .ref h7, .int 0, .int 0]))] H _ := w
  refine lv_if_eq (tgt := 18) C.1 C.2.1 dX6_rangeNear_11 (by decide) (fun c9 => absurd c9 (by decide)) (fun _ => ?_)
  refine lv_iconst (v := 1) C.1 C.2.1 dX6_rangeNear_14 (by decide) ?_
  refine lv_goto (tgt := 19) C.1 C.2.1 dX6_rangeNear_15 (by decide) ?_
  refine lv_iconst (v := 1) C.1 C.2.1 dX6_rangeNear_19 (by decide) ?_
  refine x_ki C w [0] [] rfl rfl (by decide) (by decide) (va_runV (As := [.int 1, .int 1]) (rest := []) (xfix C) (c17_X6_start l G cy sa sv h0 h1 h2 h3 h4 h5 h6 h7 (xtr C) _) (cwV 2 (xhts C) (xgV (maxL := 0) (cc := ⟨#[]⟩) (ret := none) gw_114 gw_115 gw_116 gw_58 gc_X6_start) rfl rfl rfl (by decide +kernel) ⟨(Nat.le_of_ble_eq_true rfl), (Nat.le_of_ble_eq_true rfl)⟩) (xPV C w [0] rfl (by decide) (ci := 10) (q0 := 0) rfl rfl) rfl rfl hl.1 rfl (lv_room (Nat.le_of_ble_eq_true rfl)) dX6_rangeNear_20 ⟨(Nat.le_of_ble_eq_true rfl), (Nat.le_of_ble_eq_true rfl)⟩) (fun f2020 H locs w => ?_)
  have w : xW G A s [(h0, .inr (10, [.ref h1, .ref h2, .ref h3, .ref h4, .ref h5, .ref h6, .ref h7, .int 0, .int 1]))] H _ := w
  refine lv_if_ne (tgt := 54) C.1 C.2.1 dX6_rangeNear_23 (by decide) (fun _ => ?_) (fun c9 => absurd c9 (by decide))
  refine lv_iconst (v := 0) C.1 C.2.1 dX6_rangeNear_54 (by decide) ?_
  refine lv_goto (tgt := 72) C.1 C.2.1 dX6_rangeNear_55 (by decide) ?_
  exact x_iret C w hr (fun _ => 0) rfl rfl dX6_rangeNear_72 (Nat.le_of_ble_eq_true rfl) (Nat.le_of_ble_eq_true rfl)
set_option maxHeartbeats 4000000 in
set_option maxRecDepth 100000 in
theorem c347_X4_rangeNear (l : Launch) (G : va_G) (cy : Nat → ClassId) (sa : String → Nat → Nat) (sv : Nat → Nat) (h0 : Nat) (v0 v1 v2 v3 : Int32) (p0 : v0 ≤ v1) (p1 : ¬ v3 < 0) (p2 : ¬ v3 ≤ 3) : xX l G cy sa sv yX4_rangeNear (Cond.code yX4_rangeNear cX4_rangeNear 6 (some .int) :: XG) { frames := 9, cells := 1, slots := 6, locals := 271 } [.ref h0, .int v0, .int v1, .int v2, .int v3] [] (fun f => []) "java/lang/IllegalArgumentException" := by
  refine xofX (by decide) (Nat.le_of_ble_eq_true rfl) (fun p e s m below meth c A C w hno ls hl => ?_)
  have hl : lv_has ls 6 [(0, .ref h0), (1, .int v0), (2, .int v1), (3, .int v2), (4, .int v3)] := hl
  refine lv_iload_n C.1 C.2.1 dX4_rangeNear_0 rfl (lv_at hl 1 rfl) ?_
  refine lv_iload_n C.1 C.2.1 dX4_rangeNear_1 rfl (lv_at hl 2 rfl) ?_
  refine x_kv C w [] [] rfl rfl (by decide) (by decide) (va_runS (As := [.int v0, .int v1]) (rest := []) (xfix C) (c302_X4_checkRange l G cy sa sv v0 v1 p0 (xtr C) _) (va_cwS 2 (xhts C) (xgS gw_390 gw_391 gw_2 gc_X4_checkRange) rfl rfl rfl (by decide +kernel) ⟨(Nat.le_of_ble_eq_true rfl), (Nat.le_of_ble_eq_true rfl)⟩) (xPS C w [] rfl (by decide)) rfl rfl hl.1 rfl (lv_room (Nat.le_of_ble_eq_true rfl)) dX4_rangeNear_2 ⟨(Nat.le_of_ble_eq_true rfl), (Nat.le_of_ble_eq_true rfl)⟩) (fun f2028 H locs w => ?_)
  have w : xW G A s [] H _ := w
  refine lv_iload C.1 C.2.1 dX4_rangeNear_5 (lv_at hl 4 rfl) ?_
  refine x_kx C w [] [] rfl rfl (by decide) (by decide) (vx_runS (As := [.int v3]) (rest := []) (xfix C) (c184_X4_checkHow l G cy sa sv v3 p1 p2 (xtr C) _) (va_cwS 1 (xhts C) (xgS gw_416 gw_417 gw_2 gc_X4_checkHow) rfl rfl rfl (by decide +kernel) ⟨(Nat.le_of_ble_eq_true rfl), (Nat.le_of_ble_eq_true rfl)⟩) (xPS C w [] rfl (by decide)) rfl rfl hl.1 rfl (lv_room (Nat.le_of_ble_eq_true rfl)) dX4_rangeNear_7 ⟨(Nat.le_of_ble_eq_true rfl), (Nat.le_of_ble_eq_true rfl)⟩) (fun f2029 H locs ce q9 w hce hcv hcl => ?_)
  have w : xW G A s [] H _ := w
  refine vx_widen (k := 1) (n := 6) (Nat.le_of_ble_eq_true rfl) (Nat.le_of_ble_eq_true rfl) ?_
  exact x_out C w hno (fun _ => 0) rfl hce hcv hcl (Nat.le_of_ble_eq_true rfl) (Nat.le_of_ble_eq_true rfl)
set_option maxHeartbeats 4000000 in
set_option maxRecDepth 100000 in
theorem c348_L_rangeNear (l : Launch) (G : va_G) (cy : Nat → ClassId) (sa : String → Nat → Nat) (sv : Nat → Nat) (h0 h1 h2 h3 h4 h5 h6 h7 h8 : Nat) (v0 v1 v2 v3 : Int32) (p0 : v0 ≤ v1) (p1 : ¬ v3 < 0) (p2 : ¬ v3 ≤ 3) : xM l G cy sa sv yL_rangeNear (Cond.codeWith yL_rangeNear cL_rangeNear 7 (some .int) [(0, 15, 18, 19), (0, 15, 22, 21)] :: XG) { frames := 10, cells := 1, slots := 6, locals := 296 } [.ref h0, .int v0, .int v1, .int v2, .int v3, .ref h1] [(h0, .inr (8, [.ref h2, .ref h3, .ref h4, .ref h5, .ref h6, .int 0, .ref h7, .ref h8]))] (xQi G (fun f => [(h0, .inr (8, [.ref h2, .ref h3, .ref h4, .ref h5, .ref h6, .int 0, .ref h7, .ref h8]))]) 1) := by
  refine xofH (by decide) (Nat.le_of_ble_eq_true rfl) (fun p e s m below meth c A C w hr hn hT ls hl => ?_)
  have hl : lv_has ls 7 [(0, .ref h0), (1, .int v0), (2, .int v1), (3, .int v2), (4, .int v3), (5, .ref h1)] := hl
  refine lv_aload C.1 C.2.1 dL_rangeNear_0 (lv_at hl 5 rfl) ?_
  refine lv_aload_n C.1 C.2.1 dL_rangeNear_2 rfl (lv_at hl 0 rfl) ?_
  refine lv_iload_n C.1 C.2.1 dL_rangeNear_3 rfl (lv_at hl 1 rfl) ?_
  refine lv_iload_n C.1 C.2.1 dL_rangeNear_4 rfl (lv_at hl 2 rfl) ?_
  refine lv_iload_n C.1 C.2.1 dL_rangeNear_5 rfl (lv_at hl 3 rfl) ?_
  refine lv_iload C.1 C.2.1 dL_rangeNear_6 (lv_at hl 4 rfl) ?_
  refine x_kx C w [] [0] rfl rfl (by decide) (by decide) (vx_runV (As := [.int v0, .int v1, .int v2, .int v3]) (rest := [.ref h1]) (xfix C) (c347_X4_rangeNear l G cy sa sv h0 v0 v1 v2 v3 p0 p1 p2 (xtr C) _) (cwV 4 (xhts C) (xgV (maxL := 0) (cc := ⟨#[]⟩) (ret := none) gw_685 gw_429 gw_430 gw_2 gc_X4_rangeNear) rfl rfl rfl (by decide +kernel) ⟨(Nat.le_of_ble_eq_true rfl), (Nat.le_of_ble_eq_true rfl)⟩) (xPV C w [] rfl (by decide) (ci := 8) (q0 := 0) rfl rfl) rfl rfl hl.1 rfl (lv_room (Nat.le_of_ble_eq_true rfl)) dL_rangeNear_8 ⟨(Nat.le_of_ble_eq_true rfl), (Nat.le_of_ble_eq_true rfl)⟩) (fun f2030 H locs ce q9 w hce hcv hcl => ?_)
  have w : xW G A s [(h0, .inr (8, [.ref h2, .ref h3, .ref h4, .ref h5, .ref h6, .int 0, .ref h7, .ref h8]))] H _ := w
  refine vx_widen (k := 1) (n := 6) (Nat.le_of_ble_eq_true rfl) (Nat.le_of_ble_eq_true rfl) ?_
  refine vx_catch (xown C) [] ⟨0, 15, 18, 19⟩ [⟨0, 15, 22, 21⟩] hT (fun z hz => nomatch hz) (by decide) (by decide) (xhts C _ (List.mem_cons_of_mem _ gw_104)) (va_any rfl (xs_c1 (xS C))) hce hcv hcl ?_
  refine lv_astore (lv' := [(6, .ref q9), (0, .ref h0), (1, .int v0), (2, .int v1), (3, .int v2), (4, .int v3), (5, .ref h1)]) C.1 C.2.1 dL_rangeNear_18 hl (by decide) rfl (fun ls hl => ?_)
  refine lv_iconst (v := 1) C.1 C.2.1 dL_rangeNear_20 (by decide) ?_
  exact x_iret C w hr (fun _ => 0) rfl rfl dL_rangeNear_21 (Nat.le_of_ble_eq_true rfl) (Nat.le_of_ble_eq_true rfl)
set_option maxHeartbeats 4000000 in
set_option maxRecDepth 100000 in
theorem c349_X6_rangeNear (l : Launch) (G : va_G) (cy : Nat → ClassId) (sa : String → Nat → Nat) (sv : Nat → Nat) (h0 h1 h2 h3 h4 h5 h6 h7 : Nat) (v0 v1 v2 v3 : Int32) (p0 : ¬ v1 < v0) (p1 : ¬ v3 < 0) (p2 : ¬ v3 ≤ 3) : xM l G cy sa sv yX6_rangeNear (Cond.code yX6_rangeNear cX6_rangeNear 5 (some .int) :: XG) { frames := 9, cells := 0, slots := 0, locals := 272 } [.ref h0, .int v0, .int v1, .int v2, .int v3] [(h0, .inr (10, [.ref h1, .ref h2, .ref h3, .ref h4, .ref h5, .ref h6, .ref h7, .int 0, .int 0]))] (xQi G (fun f => [(h0, .inr (10, [.ref h1, .ref h2, .ref h3, .ref h4, .ref h5, .ref h6, .ref h7, .int 0, .int 1]))]) 0) := by
  refine xof (by decide) (Nat.le_of_ble_eq_true rfl) (fun p e s m below meth c A C w hr hn ls hl => ?_)
  have hl : lv_has ls 5 [(0, .ref h0), (1, .int v0), (2, .int v1), (3, .int v2), (4, .int v3)] := hl
  refine lv_aload_n C.1 C.2.1 dX6_rangeNear_0 rfl (lv_at hl 0 rfl) ?_
  refine lv_iload_n C.1 C.2.1 dX6_rangeNear_1 rfl (lv_at hl 1 rfl) ?_
  refine lv_iload_n C.1 C.2.1 dX6_rangeNear_2 rfl (lv_at hl 2 rfl) ?_
  refine lv_icmp_gt (tgt := 14) C.1 C.2.1 dX6_rangeNear_3 (by decide) (fun c9 => absurd c9 p0) (fun _ => ?_)
  refine lv_iload C.1 C.2.1 dX6_rangeNear_6 (lv_at hl 4 rfl) ?_
  refine x_ki C w [] [0] rfl rfl (by decide) (by decide) (va_runS (As := [.int v3]) (rest := [.ref h0]) (xfix C) (c188_X6_isNoHow l G cy sa sv v3 p1 p2 (xtr C) _) (va_cwS 1 (xhts C) (xgS gw_439 gw_440 gw_58 gc_X6_isNoHow) rfl rfl rfl (by decide +kernel) ⟨(Nat.le_of_ble_eq_true rfl), (Nat.le_of_ble_eq_true rfl)⟩) (xPS C w [] rfl (by decide)) rfl rfl hl.1 rfl (lv_room (Nat.le_of_ble_eq_true rfl)) dX6_rangeNear_8 ⟨(Nat.le_of_ble_eq_true rfl), (Nat.le_of_ble_eq_true rfl)⟩) (fun f2033 H locs w => ?_)
  have w : xW G A s [(h0, .inr (10, [.ref h1, .ref h2, .ref h3, .ref h4, .ref h5, .ref h6, .ref h7, .int 0, .int 0]))] H _ := w
  refine lv_if_eq (tgt := 18) C.1 C.2.1 dX6_rangeNear_11 (by decide) (fun c9 => absurd c9 (by decide)) (fun _ => ?_)
  refine lv_iconst (v := 1) C.1 C.2.1 dX6_rangeNear_14 (by decide) ?_
  refine lv_goto (tgt := 19) C.1 C.2.1 dX6_rangeNear_15 (by decide) ?_
  refine lv_iconst (v := 1) C.1 C.2.1 dX6_rangeNear_19 (by decide) ?_
  refine x_ki C w [0] [] rfl rfl (by decide) (by decide) (va_runV (As := [.int 1, .int 1]) (rest := []) (xfix C) (c17_X6_start l G cy sa sv h0 h1 h2 h3 h4 h5 h6 h7 (xtr C) _) (cwV 2 (xhts C) (xgV (maxL := 0) (cc := ⟨#[]⟩) (ret := none) gw_114 gw_115 gw_116 gw_58 gc_X6_start) rfl rfl rfl (by decide +kernel) ⟨(Nat.le_of_ble_eq_true rfl), (Nat.le_of_ble_eq_true rfl)⟩) (xPV C w [0] rfl (by decide) (ci := 10) (q0 := 0) rfl rfl) rfl rfl hl.1 rfl (lv_room (Nat.le_of_ble_eq_true rfl)) dX6_rangeNear_20 ⟨(Nat.le_of_ble_eq_true rfl), (Nat.le_of_ble_eq_true rfl)⟩) (fun f2034 H locs w => ?_)
  have w : xW G A s [(h0, .inr (10, [.ref h1, .ref h2, .ref h3, .ref h4, .ref h5, .ref h6, .ref h7, .int 0, .int 1]))] H _ := w
  refine lv_if_ne (tgt := 54) C.1 C.2.1 dX6_rangeNear_23 (by decide) (fun _ => ?_) (fun c9 => absurd c9 (by decide))
  refine lv_iconst (v := 0) C.1 C.2.1 dX6_rangeNear_54 (by decide) ?_
  refine lv_goto (tgt := 72) C.1 C.2.1 dX6_rangeNear_55 (by decide) ?_
  exact x_iret C w hr (fun _ => 0) rfl rfl dX6_rangeNear_72 (Nat.le_of_ble_eq_true rfl) (Nat.le_of_ble_eq_true rfl)
set_option maxHeartbeats 4000000 in
set_option maxRecDepth 100000 in
theorem c350_X4_rangeNear (l : Launch) (G : va_G) (cy : Nat → ClassId) (sa : String → Nat → Nat) (sv : Nat → Nat) (h0 : Nat) (v0 v1 v2 v3 : Int32) (p0 : ¬ v0 ≤ v1) : xX l G cy sa sv yX4_rangeNear (Cond.code yX4_rangeNear cX4_rangeNear 6 (some .int) :: XG) { frames := 9, cells := 1, slots := 6, locals := 271 } [.ref h0, .int v0, .int v1, .int v2, .int v3] [] (fun f => []) "java/lang/IllegalArgumentException" := by
  refine xofX (by decide) (Nat.le_of_ble_eq_true rfl) (fun p e s m below meth c A C w hno ls hl => ?_)
  have hl : lv_has ls 6 [(0, .ref h0), (1, .int v0), (2, .int v1), (3, .int v2), (4, .int v3)] := hl
  refine lv_iload_n C.1 C.2.1 dX4_rangeNear_0 rfl (lv_at hl 1 rfl) ?_
  refine lv_iload_n C.1 C.2.1 dX4_rangeNear_1 rfl (lv_at hl 2 rfl) ?_
  refine x_kx C w [] [] rfl rfl (by decide) (by decide) (vx_runS (As := [.int v0, .int v1]) (rest := []) (xfix C) (c306_X4_checkRange l G cy sa sv v0 v1 p0 (xtr C) _) (va_cwS 2 (xhts C) (xgS gw_390 gw_391 gw_2 gc_X4_checkRange) rfl rfl rfl (by decide +kernel) ⟨(Nat.le_of_ble_eq_true rfl), (Nat.le_of_ble_eq_true rfl)⟩) (xPS C w [] rfl (by decide)) rfl rfl hl.1 rfl (lv_room (Nat.le_of_ble_eq_true rfl)) dX4_rangeNear_2 ⟨(Nat.le_of_ble_eq_true rfl), (Nat.le_of_ble_eq_true rfl)⟩) (fun f2041 H locs ce q9 w hce hcv hcl => ?_)
  have w : xW G A s [] H _ := w
  refine vx_widen (k := 1) (n := 6) (Nat.le_of_ble_eq_true rfl) (Nat.le_of_ble_eq_true rfl) ?_
  exact x_out C w hno (fun _ => 0) rfl hce hcv hcl (Nat.le_of_ble_eq_true rfl) (Nat.le_of_ble_eq_true rfl)
set_option maxHeartbeats 4000000 in
set_option maxRecDepth 100000 in
theorem c351_L_rangeNear (l : Launch) (G : va_G) (cy : Nat → ClassId) (sa : String → Nat → Nat) (sv : Nat → Nat) (h0 h1 h2 h3 h4 h5 h6 h7 h8 : Nat) (v0 v1 v2 v3 : Int32) (p0 : ¬ v0 ≤ v1) : xM l G cy sa sv yL_rangeNear (Cond.codeWith yL_rangeNear cL_rangeNear 7 (some .int) [(0, 15, 18, 19), (0, 15, 22, 21)] :: XG) { frames := 10, cells := 1, slots := 6, locals := 296 } [.ref h0, .int v0, .int v1, .int v2, .int v3, .ref h1] [(h0, .inr (8, [.ref h2, .ref h3, .ref h4, .ref h5, .ref h6, .int 0, .ref h7, .ref h8]))] (xQi G (fun f => [(h0, .inr (8, [.ref h2, .ref h3, .ref h4, .ref h5, .ref h6, .int 0, .ref h7, .ref h8]))]) 1) := by
  refine xofH (by decide) (Nat.le_of_ble_eq_true rfl) (fun p e s m below meth c A C w hr hn hT ls hl => ?_)
  have hl : lv_has ls 7 [(0, .ref h0), (1, .int v0), (2, .int v1), (3, .int v2), (4, .int v3), (5, .ref h1)] := hl
  refine lv_aload C.1 C.2.1 dL_rangeNear_0 (lv_at hl 5 rfl) ?_
  refine lv_aload_n C.1 C.2.1 dL_rangeNear_2 rfl (lv_at hl 0 rfl) ?_
  refine lv_iload_n C.1 C.2.1 dL_rangeNear_3 rfl (lv_at hl 1 rfl) ?_
  refine lv_iload_n C.1 C.2.1 dL_rangeNear_4 rfl (lv_at hl 2 rfl) ?_
  refine lv_iload_n C.1 C.2.1 dL_rangeNear_5 rfl (lv_at hl 3 rfl) ?_
  refine lv_iload C.1 C.2.1 dL_rangeNear_6 (lv_at hl 4 rfl) ?_
  refine x_kx C w [] [0] rfl rfl (by decide) (by decide) (vx_runV (As := [.int v0, .int v1, .int v2, .int v3]) (rest := [.ref h1]) (xfix C) (c350_X4_rangeNear l G cy sa sv h0 v0 v1 v2 v3 p0 (xtr C) _) (cwV 4 (xhts C) (xgV (maxL := 0) (cc := ⟨#[]⟩) (ret := none) gw_685 gw_429 gw_430 gw_2 gc_X4_rangeNear) rfl rfl rfl (by decide +kernel) ⟨(Nat.le_of_ble_eq_true rfl), (Nat.le_of_ble_eq_true rfl)⟩) (xPV C w [] rfl (by decide) (ci := 8) (q0 := 0) rfl rfl) rfl rfl hl.1 rfl (lv_room (Nat.le_of_ble_eq_true rfl)) dL_rangeNear_8 ⟨(Nat.le_of_ble_eq_true rfl), (Nat.le_of_ble_eq_true rfl)⟩) (fun f2042 H locs ce q9 w hce hcv hcl => ?_)
  have w : xW G A s [(h0, .inr (8, [.ref h2, .ref h3, .ref h4, .ref h5, .ref h6, .int 0, .ref h7, .ref h8]))] H _ := w
  refine vx_widen (k := 1) (n := 6) (Nat.le_of_ble_eq_true rfl) (Nat.le_of_ble_eq_true rfl) ?_
  refine vx_catch (xown C) [] ⟨0, 15, 18, 19⟩ [⟨0, 15, 22, 21⟩] hT (fun z hz => nomatch hz) (by decide) (by decide) (xhts C _ (List.mem_cons_of_mem _ gw_104)) (va_any rfl (xs_c1 (xS C))) hce hcv hcl ?_
  refine lv_astore (lv' := [(6, .ref q9), (0, .ref h0), (1, .int v0), (2, .int v1), (3, .int v2), (4, .int v3), (5, .ref h1)]) C.1 C.2.1 dL_rangeNear_18 hl (by decide) rfl (fun ls hl => ?_)
  refine lv_iconst (v := 1) C.1 C.2.1 dL_rangeNear_20 (by decide) ?_
  exact x_iret C w hr (fun _ => 0) rfl rfl dL_rangeNear_21 (Nat.le_of_ble_eq_true rfl) (Nat.le_of_ble_eq_true rfl)
set_option maxHeartbeats 4000000 in
set_option maxRecDepth 100000 in
theorem c352_X6_rangeNear (l : Launch) (G : va_G) (cy : Nat → ClassId) (sa : String → Nat → Nat) (sv : Nat → Nat) (h0 h1 h2 h3 h4 h5 h6 h7 : Nat) (v0 v1 v2 v3 : Int32) (p0 : v1 < v0) : xM l G cy sa sv yX6_rangeNear (Cond.code yX6_rangeNear cX6_rangeNear 5 (some .int) :: XG) { frames := 9, cells := 0, slots := 0, locals := 272 } [.ref h0, .int v0, .int v1, .int v2, .int v3] [(h0, .inr (10, [.ref h1, .ref h2, .ref h3, .ref h4, .ref h5, .ref h6, .ref h7, .int 0, .int 0]))] (xQi G (fun f => [(h0, .inr (10, [.ref h1, .ref h2, .ref h3, .ref h4, .ref h5, .ref h6, .ref h7, .int 0, .int 1]))]) 0) := by
  refine xof (by decide) (Nat.le_of_ble_eq_true rfl) (fun p e s m below meth c A C w hr hn ls hl => ?_)
  have hl : lv_has ls 5 [(0, .ref h0), (1, .int v0), (2, .int v1), (3, .int v2), (4, .int v3)] := hl
  refine lv_aload_n C.1 C.2.1 dX6_rangeNear_0 rfl (lv_at hl 0 rfl) ?_
  refine lv_iload_n C.1 C.2.1 dX6_rangeNear_1 rfl (lv_at hl 1 rfl) ?_
  refine lv_iload_n C.1 C.2.1 dX6_rangeNear_2 rfl (lv_at hl 2 rfl) ?_
  refine lv_icmp_gt (tgt := 14) C.1 C.2.1 dX6_rangeNear_3 (by decide) (fun _ => ?_) (fun c9 => absurd p0 c9)
  refine lv_iconst (v := 1) C.1 C.2.1 dX6_rangeNear_14 (by decide) ?_
  refine lv_goto (tgt := 19) C.1 C.2.1 dX6_rangeNear_15 (by decide) ?_
  refine lv_iconst (v := 1) C.1 C.2.1 dX6_rangeNear_19 (by decide) ?_
  refine x_ki C w [0] [] rfl rfl (by decide) (by decide) (va_runV (As := [.int 1, .int 1]) (rest := []) (xfix C) (c17_X6_start l G cy sa sv h0 h1 h2 h3 h4 h5 h6 h7 (xtr C) _) (cwV 2 (xhts C) (xgV (maxL := 0) (cc := ⟨#[]⟩) (ret := none) gw_114 gw_115 gw_116 gw_58 gc_X6_start) rfl rfl rfl (by decide +kernel) ⟨(Nat.le_of_ble_eq_true rfl), (Nat.le_of_ble_eq_true rfl)⟩) (xPV C w [0] rfl (by decide) (ci := 10) (q0 := 0) rfl rfl) rfl rfl hl.1 rfl (lv_room (Nat.le_of_ble_eq_true rfl)) dX6_rangeNear_20 ⟨(Nat.le_of_ble_eq_true rfl), (Nat.le_of_ble_eq_true rfl)⟩) (fun f2045 H locs w => ?_)
  have w : xW G A s [(h0, .inr (10, [.ref h1, .ref h2, .ref h3, .ref h4, .ref h5, .ref h6, .ref h7, .int 0, .int 1]))] H _ := w
  refine lv_if_ne (tgt := 54) C.1 C.2.1 dX6_rangeNear_23 (by decide) (fun _ => ?_) (fun c9 => absurd c9 (by decide))
  refine lv_iconst (v := 0) C.1 C.2.1 dX6_rangeNear_54 (by decide) ?_
  refine lv_goto (tgt := 72) C.1 C.2.1 dX6_rangeNear_55 (by decide) ?_
  exact x_iret C w hr (fun _ => 0) rfl rfl dX6_rangeNear_72 (Nat.le_of_ble_eq_true rfl) (Nat.le_of_ble_eq_true rfl)
set_option maxHeartbeats 4000000 in
set_option maxRecDepth 100000 in
theorem c353_X4_rangePut (l : Launch) (G : va_G) (cy : Nat → ClassId) (sa : String → Nat → Nat) (sv : Nat → Nat) (h0 : Nat) (v0 v1 v2 v3 : Int32) (p0 : v3 < (-999)) : xX l G cy sa sv yX4_rangePut (Cond.code yX4_rangePut cX4_rangePut 5 (some .int) :: XG) { frames := 9, cells := 1, slots := 6, locals := 270 } [.ref h0, .int v0, .int v1, .int v2, .int v3] [] (fun f => []) "java/lang/IllegalArgumentException" := by
  refine xofX (by decide) (Nat.le_of_ble_eq_true rfl) (fun p e s m below meth c A C w hno ls hl => ?_)
  have hl : lv_has ls 5 [(0, .ref h0), (1, .int v0), (2, .int v1), (3, .int v2), (4, .int v3)] := hl
  refine lv_iload C.1 C.2.1 dX4_rangePut_0 (lv_at hl 4 rfl) ?_
  refine x_kx C w [] [] rfl rfl (by decide) (by decide) (vx_runS (As := [.int v3]) (rest := []) (xfix C) (c13_X4_checkValue l G cy sa sv v3 p0 (xtr C) _) (va_cwS 1 (xhts C) (xgS gw_98 gw_99 gw_2 gc_X4_checkValue) rfl rfl rfl (by decide +kernel) ⟨(Nat.le_of_ble_eq_true rfl), (Nat.le_of_ble_eq_true rfl)⟩) (xPS C w [] rfl (by decide)) rfl rfl hl.1 rfl (lv_room (Nat.le_of_ble_eq_true rfl)) dX4_rangePut_2 ⟨(Nat.le_of_ble_eq_true rfl), (Nat.le_of_ble_eq_true rfl)⟩) (fun f2057 H locs ce q9 w hce hcv hcl => ?_)
  have w : xW G A s [] H _ := w
  refine vx_widen (k := 1) (n := 6) (Nat.le_of_ble_eq_true rfl) (Nat.le_of_ble_eq_true rfl) ?_
  exact x_out C w hno (fun _ => 0) rfl hce hcv hcl (Nat.le_of_ble_eq_true rfl) (Nat.le_of_ble_eq_true rfl)
set_option maxHeartbeats 4000000 in
set_option maxRecDepth 100000 in
theorem c354_L_rangePut (l : Launch) (G : va_G) (cy : Nat → ClassId) (sa : String → Nat → Nat) (sv : Nat → Nat) (h0 h1 h2 h3 h4 h5 h6 h7 h8 : Nat) (v0 v1 v2 v3 : Int32) (p0 : v3 < (-999)) : xM l G cy sa sv yL_rangePut (Cond.codeWith yL_rangePut cL_rangePut 7 (some .int) [(0, 15, 18, 19), (0, 15, 22, 21)] :: XG) { frames := 10, cells := 1, slots := 6, locals := 294 } [.ref h0, .int v0, .int v1, .int v2, .int v3, .ref h1] [(h0, .inr (8, [.ref h2, .ref h3, .ref h4, .ref h5, .ref h6, .int 0, .ref h7, .ref h8]))] (xQi G (fun f => [(h0, .inr (8, [.ref h2, .ref h3, .ref h4, .ref h5, .ref h6, .int 0, .ref h7, .ref h8]))]) 1) := by
  refine xofH (by decide) (Nat.le_of_ble_eq_true rfl) (fun p e s m below meth c A C w hr hn hT ls hl => ?_)
  have hl : lv_has ls 7 [(0, .ref h0), (1, .int v0), (2, .int v1), (3, .int v2), (4, .int v3), (5, .ref h1)] := hl
  refine lv_aload C.1 C.2.1 dL_rangePut_0 (lv_at hl 5 rfl) ?_
  refine lv_aload_n C.1 C.2.1 dL_rangePut_2 rfl (lv_at hl 0 rfl) ?_
  refine lv_iload_n C.1 C.2.1 dL_rangePut_3 rfl (lv_at hl 1 rfl) ?_
  refine lv_iload_n C.1 C.2.1 dL_rangePut_4 rfl (lv_at hl 2 rfl) ?_
  refine lv_iload_n C.1 C.2.1 dL_rangePut_5 rfl (lv_at hl 3 rfl) ?_
  refine lv_iload C.1 C.2.1 dL_rangePut_6 (lv_at hl 4 rfl) ?_
  refine x_kx C w [] [0] rfl rfl (by decide) (by decide) (vx_runV (As := [.int v0, .int v1, .int v2, .int v3]) (rest := [.ref h1]) (xfix C) (c353_X4_rangePut l G cy sa sv h0 v0 v1 v2 v3 p0 (xtr C) _) (cwV 4 (xhts C) (xgV (maxL := 0) (cc := ⟨#[]⟩) (ret := none) gw_694 gw_695 gw_696 gw_2 gc_X4_rangePut) rfl rfl rfl (by decide +kernel) ⟨(Nat.le_of_ble_eq_true rfl), (Nat.le_of_ble_eq_true rfl)⟩) (xPV C w [] rfl (by decide) (ci := 8) (q0 := 0) rfl rfl) rfl rfl hl.1 rfl (lv_room (Nat.le_of_ble_eq_true rfl)) dL_rangePut_8 ⟨(Nat.le_of_ble_eq_true rfl), (Nat.le_of_ble_eq_true rfl)⟩) (fun f2058 H locs ce q9 w hce hcv hcl => ?_)
  have w : xW G A s [(h0, .inr (8, [.ref h2, .ref h3, .ref h4, .ref h5, .ref h6, .int 0, .ref h7, .ref h8]))] H _ := w
  refine vx_widen (k := 1) (n := 6) (Nat.le_of_ble_eq_true rfl) (Nat.le_of_ble_eq_true rfl) ?_
  refine vx_catch (xown C) [] ⟨0, 15, 18, 19⟩ [⟨0, 15, 22, 21⟩] hT (fun z hz => nomatch hz) (by decide) (by decide) (xhts C _ (List.mem_cons_of_mem _ gw_104)) (va_any rfl (xs_c1 (xS C))) hce hcv hcl ?_
  refine lv_astore (lv' := [(6, .ref q9), (0, .ref h0), (1, .int v0), (2, .int v1), (3, .int v2), (4, .int v3), (5, .ref h1)]) C.1 C.2.1 dL_rangePut_18 hl (by decide) rfl (fun ls hl => ?_)
  refine lv_iconst (v := 1) C.1 C.2.1 dL_rangePut_20 (by decide) ?_
  exact x_iret C w hr (fun _ => 0) rfl rfl dL_rangePut_21 (Nat.le_of_ble_eq_true rfl) (Nat.le_of_ble_eq_true rfl)
set_option maxHeartbeats 4000000 in
set_option maxRecDepth 100000 in
theorem c355_X6_rangePut (l : Launch) (G : va_G) (cy : Nat → ClassId) (sa : String → Nat → Nat) (sv : Nat → Nat) (h0 h1 h2 h3 h4 h5 h6 h7 : Nat) (v0 v1 v2 v3 : Int32) (p0 : v3 < (-999)) : xM l G cy sa sv yX6_rangePut (Cond.code yX6_rangePut cX6_rangePut 5 (some .int) :: XG) { frames := 9, cells := 0, slots := 0, locals := 272 } [.ref h0, .int v0, .int v1, .int v2, .int v3] [(h0, .inr (10, [.ref h1, .ref h2, .ref h3, .ref h4, .ref h5, .ref h6, .ref h7, .int 0, .int 0]))] (xQi G (fun f => [(h0, .inr (10, [.ref h1, .ref h2, .ref h3, .ref h4, .ref h5, .ref h6, .ref h7, .int 0, .int 1]))]) 0) := by
  refine xof (by decide) (Nat.le_of_ble_eq_true rfl) (fun p e s m below meth c A C w hr hn ls hl => ?_)
  have hl : lv_has ls 5 [(0, .ref h0), (1, .int v0), (2, .int v1), (3, .int v2), (4, .int v3)] := hl
  refine lv_aload_n C.1 C.2.1 dX6_rangePut_0 rfl (lv_at hl 0 rfl) ?_
  refine lv_iload C.1 C.2.1 dX6_rangePut_1 (lv_at hl 4 rfl) ?_
  refine x_ki C w [] [0] rfl rfl (by decide) (by decide) (va_runS (As := [.int v3]) (rest := [.ref h0]) (xfix C) (c16_X6_isNoValue l G cy sa sv v3 p0 (xtr C) _) (va_cwS 1 (xhts C) (xgS gw_110 gw_111 gw_58 gc_X6_isNoValue) rfl rfl rfl (by decide +kernel) ⟨(Nat.le_of_ble_eq_true rfl), (Nat.le_of_ble_eq_true rfl)⟩) (xPS C w [] rfl (by decide)) rfl rfl hl.1 rfl (lv_room (Nat.le_of_ble_eq_true rfl)) dX6_rangePut_3 ⟨(Nat.le_of_ble_eq_true rfl), (Nat.le_of_ble_eq_true rfl)⟩) (fun f2061 H locs w => ?_)
  have w : xW G A s [(h0, .inr (10, [.ref h1, .ref h2, .ref h3, .ref h4, .ref h5, .ref h6, .ref h7, .int 0, .int 0]))] H _ := w
  refine lv_iconst (v := 1) C.1 C.2.1 dX6_rangePut_6 (by decide) ?_
  refine x_ki C w [0] [] rfl rfl (by decide) (by decide) (va_runV (As := [.int 1, .int 1]) (rest := []) (xfix C) (c17_X6_start l G cy sa sv h0 h1 h2 h3 h4 h5 h6 h7 (xtr C) _) (cwV 2 (xhts C) (xgV (maxL := 0) (cc := ⟨#[]⟩) (ret := none) gw_114 gw_115 gw_116 gw_58 gc_X6_start) rfl rfl rfl (by decide +kernel) ⟨(Nat.le_of_ble_eq_true rfl), (Nat.le_of_ble_eq_true rfl)⟩) (xPV C w [0] rfl (by decide) (ci := 10) (q0 := 0) rfl rfl) rfl rfl hl.1 rfl (lv_room (Nat.le_of_ble_eq_true rfl)) dX6_rangePut_7 ⟨(Nat.le_of_ble_eq_true rfl), (Nat.le_of_ble_eq_true rfl)⟩) (fun f2062 H locs w => ?_)
  have w : xW G A s [(h0, .inr (10, [.ref h1, .ref h2, .ref h3, .ref h4, .ref h5, .ref h6, .ref h7, .int 0, .int 1]))] H _ := w
  refine lv_if_ne (tgt := 26) C.1 C.2.1 dX6_rangePut_10 (by decide) (fun _ => ?_) (fun c9 => absurd c9 (by decide))
  refine lv_iconst (v := 0) C.1 C.2.1 dX6_rangePut_26 (by decide) ?_
  exact x_iret C w hr (fun _ => 0) rfl rfl dX6_rangePut_27 (Nat.le_of_ble_eq_true rfl) (Nat.le_of_ble_eq_true rfl)
set_option maxHeartbeats 4000000 in
set_option maxRecDepth 100000 in
theorem c356_X4_isBetween (l : Launch) (G : va_G) (cy : Nat → ClassId) (sa : String → Nat → Nat) (sv : Nat → Nat) (v0 v1 v2 : Int32) (p0 : v2 < v0) : xM l G cy sa sv yX4_isBetween (Cond.code yX4_isBetween cX4_isBetween 3 (some .boolean) :: XG) { frames := 8, cells := 0, slots := 0, locals := 250 } [.int v0, .int v1, .int v2] [] (xQi G (fun f => []) 0) := by
  refine xof (by decide) (Nat.le_of_ble_eq_true rfl) (fun p e s m below meth c A C w hr hn ls hl => ?_)
  have hl : lv_has ls 3 [(0, .int v0), (1, .int v1), (2, .int v2)] := hl
  refine lv_iload_n C.1 C.2.1 dX4_isBetween_0 rfl (lv_at hl 0 rfl) ?_
  refine lv_iload_n C.1 C.2.1 dX4_isBetween_1 rfl (lv_at hl 2 rfl) ?_
  refine lv_icmp_gt (tgt := 14) C.1 C.2.1 dX4_isBetween_2 (by decide) (fun _ => ?_) (fun c9 => absurd p0 c9)
  refine lv_iconst (v := 0) C.1 C.2.1 dX4_isBetween_14 (by decide) ?_
  exact x_zret C w hr rfl (fun _ => 0) rfl rfl dX4_isBetween_15 (Nat.le_of_ble_eq_true rfl) (Nat.le_of_ble_eq_true rfl)
set_option maxHeartbeats 4000000 in
set_option maxRecDepth 100000 in
theorem c357_X4_rangePut (l : Launch) (G : va_G) (cy : Nat → ClassId) (sa : String → Nat → Nat) (sv : Nat → Nat) (h0 h1 h2 h3 h4 h5 h6 h7 h8 h9 h10 : Nat) (v0 v1 v2 v3 : Int32) (p0 : ¬ v3 < (-999)) (p1 : v3 ≤ 999) (p2 : v2 < v0) : xM l G cy sa sv yX4_rangePut (Cond.code yX4_rangePut cX4_rangePut 5 (some .int) :: XG) { frames := 11, cells := 0, slots := 0, locals := 311 } [.ref h0, .int v0, .int v1, .int v2, .int v3] [(h0, .inr (8, [.ref h1, .ref h3, .ref h4, .ref h5, .ref h6, .int 0, .ref h7, .ref h8])), (h1, .inr (7, [.ref h2, .ref h9])), (h2, .inr (6, [.ref h10, .int 0]))] (xQi G (fun f => [(h0, .inr (8, [.ref h1, .ref h3, .ref h4, .ref h5, .ref h6, .int 0, .ref h7, .ref h8])), (h1, .inr (7, [.ref h2, .ref h9])), (h2, .inr (6, [.ref h10, .int 0]))]) (-9999)) := by
  refine xof (by decide) (Nat.le_of_ble_eq_true rfl) (fun p e s m below meth c A C w hr hn ls hl => ?_)
  have hl : lv_has ls 5 [(0, .ref h0), (1, .int v0), (2, .int v1), (3, .int v2), (4, .int v3)] := hl
  refine lv_iload C.1 C.2.1 dX4_rangePut_0 (lv_at hl 4 rfl) ?_
  refine x_kv C w [] [0, 1, 2] rfl rfl (by decide) (by decide) (va_runS (As := [.int v3]) (rest := []) (xfix C) (c20_X4_checkValue l G cy sa sv v3 p0 p1 (xtr C) _) (va_cwS 1 (xhts C) (xgS gw_98 gw_99 gw_2 gc_X4_checkValue) rfl rfl rfl (by decide +kernel) ⟨(Nat.le_of_ble_eq_true rfl), (Nat.le_of_ble_eq_true rfl)⟩) (xPS C w [] rfl (by decide)) rfl rfl hl.1 rfl (lv_room (Nat.le_of_ble_eq_true rfl)) dX4_rangePut_2 ⟨(Nat.le_of_ble_eq_true rfl), (Nat.le_of_ble_eq_true rfl)⟩) (fun f2077 H locs w => ?_)
  have w : xW G A s [(h0, .inr (8, [.ref h1, .ref h3, .ref h4, .ref h5, .ref h6, .int 0, .ref h7, .ref h8])), (h1, .inr (7, [.ref h2, .ref h9])), (h2, .inr (6, [.ref h10, .int 0]))] H _ := w
  refine lv_aload_n C.1 C.2.1 dX4_rangePut_5 rfl (lv_at hl 0 rfl) ?_
  refine lv_iload_n C.1 C.2.1 dX4_rangePut_6 rfl (lv_at hl 3 rfl) ?_
  refine x_kv C w [0, 1, 2] [] rfl rfl (by decide) (by decide) (va_runV (As := [.int v2]) (rest := []) (xfix C) (c23_X4_checkRoomFor l G cy sa sv h0 h1 h2 h3 h4 h5 h6 h7 h8 h9 h10 v2 (xtr C) _) (cwV 1 (xhts C) (xgV (maxL := 0) (cc := ⟨#[]⟩) (ret := none) gw_134 gw_135 gw_136 gw_2 gc_X4_checkRoomFor) rfl rfl rfl (by decide +kernel) ⟨(Nat.le_of_ble_eq_true rfl), (Nat.le_of_ble_eq_true rfl)⟩) (xPV C w [0, 1, 2] rfl (by decide) (ci := 8) (q0 := 0) rfl rfl) rfl rfl hl.1 rfl (lv_room (Nat.le_of_ble_eq_true rfl)) dX4_rangePut_7 ⟨(Nat.le_of_ble_eq_true rfl), (Nat.le_of_ble_eq_true rfl)⟩) (fun f2080 H locs w => ?_)
  have w : xW G A s [(h0, .inr (8, [.ref h1, .ref h3, .ref h4, .ref h5, .ref h6, .int 0, .ref h7, .ref h8])), (h1, .inr (7, [.ref h2, .ref h9])), (h2, .inr (6, [.ref h10, .int 0]))] H _ := w
  refine lv_iload_n C.1 C.2.1 dX4_rangePut_10 rfl (lv_at hl 1 rfl) ?_
  refine lv_iload_n C.1 C.2.1 dX4_rangePut_11 rfl (lv_at hl 2 rfl) ?_
  refine lv_iload_n C.1 C.2.1 dX4_rangePut_12 rfl (lv_at hl 3 rfl) ?_
  refine x_ki C w [] [0, 1, 2] rfl rfl (by decide) (by decide) (va_runS (As := [.int v0, .int v1, .int v2]) (rest := []) (xfix C) (c356_X4_isBetween l G cy sa sv v0 v1 v2 p2 (xtr C) _) (va_cwS 3 (xhts C) (xgS gw_704 gw_422 gw_2 gc_X4_isBetween) rfl rfl rfl (by decide +kernel) ⟨(Nat.le_of_ble_eq_true rfl), (Nat.le_of_ble_eq_true rfl)⟩) (xPS C w [] rfl (by decide)) rfl rfl hl.1 rfl (lv_room (Nat.le_of_ble_eq_true rfl)) dX4_rangePut_13 ⟨(Nat.le_of_ble_eq_true rfl), (Nat.le_of_ble_eq_true rfl)⟩) (fun f2081 H locs w => ?_)
  have w : xW G A s [(h0, .inr (8, [.ref h1, .ref h3, .ref h4, .ref h5, .ref h6, .int 0, .ref h7, .ref h8])), (h1, .inr (7, [.ref h2, .ref h9])), (h2, .inr (6, [.ref h10, .int 0]))] H _ := w
  refine lv_if_eq (tgt := 29) C.1 C.2.1 dX4_rangePut_16 (by decide) (fun _ => ?_) (fun c9 => absurd (by decide) c9)
  refine lv_sipush (v := (-9999)) C.1 C.2.1 dX4_rangePut_29 (by decide) ?_
  exact x_iret C w hr (fun _ => 0) rfl rfl dX4_rangePut_32 (Nat.le_of_ble_eq_true rfl) (Nat.le_of_ble_eq_true rfl)
set_option maxHeartbeats 4000000 in
set_option maxRecDepth 100000 in
theorem c358_L_rangePut (l : Launch) (G : va_G) (cy : Nat → ClassId) (sa : String → Nat → Nat) (sv : Nat → Nat) (h0 h1 h2 h3 h4 h5 h6 h7 h8 h9 h10 h11 : Nat) (v0 v1 v2 v3 : Int32) (p0 : ¬ v3 < (-999)) (p1 : v3 ≤ 999) (p2 : v2 < v0) : xM l G cy sa sv yL_rangePut (Cond.codeWith yL_rangePut cL_rangePut 7 (some .int) [(0, 15, 18, 19), (0, 15, 22, 21)] :: XG) { frames := 12, cells := 0, slots := 0, locals := 335 } [.ref h0, .int v0, .int v1, .int v2, .int v3, .ref h1] [(h0, .inr (8, [.ref h2, .ref h4, .ref h5, .ref h6, .ref h7, .int 0, .ref h8, .ref h9])), (h2, .inr (7, [.ref h3, .ref h10])), (h3, .inr (6, [.ref h11, .int 0])), (h1, .inr (9, [.long 0, .null]))] (xQi G (fun f => [(h0, .inr (8, [.ref h2, .ref h4, .ref h5, .ref h6, .ref h7, .int 0, .ref h8, .ref h9])), (h2, .inr (7, [.ref h3, .ref h10])), (h3, .inr (6, [.ref h11, .int 0])), (h1, .inr (9, [.long (-9999), .null]))]) 0) := by
  refine xofH (by decide) (Nat.le_of_ble_eq_true rfl) (fun p e s m below meth c A C w hr hn hT ls hl => ?_)
  have hl : lv_has ls 7 [(0, .ref h0), (1, .int v0), (2, .int v1), (3, .int v2), (4, .int v3), (5, .ref h1)] := hl
  refine lv_aload C.1 C.2.1 dL_rangePut_0 (lv_at hl 5 rfl) ?_
  refine lv_aload_n C.1 C.2.1 dL_rangePut_2 rfl (lv_at hl 0 rfl) ?_
  refine lv_iload_n C.1 C.2.1 dL_rangePut_3 rfl (lv_at hl 1 rfl) ?_
  refine lv_iload_n C.1 C.2.1 dL_rangePut_4 rfl (lv_at hl 2 rfl) ?_
  refine lv_iload_n C.1 C.2.1 dL_rangePut_5 rfl (lv_at hl 3 rfl) ?_
  refine lv_iload C.1 C.2.1 dL_rangePut_6 (lv_at hl 4 rfl) ?_
  refine x_ki C w [0, 1, 2] [3] rfl rfl (by decide) (by decide) (va_runV (As := [.int v0, .int v1, .int v2, .int v3]) (rest := [.ref h1]) (xfix C) (c357_X4_rangePut l G cy sa sv h0 h2 h3 h4 h5 h6 h7 h8 h9 h10 h11 v0 v1 v2 v3 p0 p1 p2 (xtr C) _) (cwV 4 (xhts C) (xgV (maxL := 0) (cc := ⟨#[]⟩) (ret := none) gw_694 gw_695 gw_696 gw_2 gc_X4_rangePut) rfl rfl rfl (by decide +kernel) ⟨(Nat.le_of_ble_eq_true rfl), (Nat.le_of_ble_eq_true rfl)⟩) (xPV C w [0, 1, 2] rfl (by decide) (ci := 8) (q0 := 0) rfl rfl) rfl rfl hl.1 rfl (lv_room (Nat.le_of_ble_eq_true rfl)) dL_rangePut_8 ⟨(Nat.le_of_ble_eq_true rfl), (Nat.le_of_ble_eq_true rfl)⟩) (fun f2082 H locs w => ?_)
  have w : xW G A s [(h1, .inr (9, [.long 0, .null])), (h0, .inr (8, [.ref h2, .ref h4, .ref h5, .ref h6, .ref h7, .int 0, .ref h8, .ref h9])), (h2, .inr (7, [.ref h3, .ref h10])), (h3, .inr (6, [.ref h11, .int 0]))] H _ := w
  refine lv_i2l (v := (-9999)) C.1 C.2.1 dL_rangePut_11 (by decide) ?_
  refine x_putN (ty := .long) (ty0 := tyX5) C w 0 9 0 (xin_X5 _) tyX5_ok nmX5 rfl rfl (by decide) (xs_f_n (xS C)) rfl rfl (by decide +kernel) rfl rfl (Nat.le_of_ble_eq_true rfl) dL_rangePut_12 (fun H locs w => ?_)
  have w : xW G A s [(h1, .inr (9, [.long (-9999), .null])), (h0, .inr (8, [.ref h2, .ref h4, .ref h5, .ref h6, .ref h7, .int 0, .ref h8, .ref h9])), (h2, .inr (7, [.ref h3, .ref h10])), (h3, .inr (6, [.ref h11, .int 0]))] H _ := w
  refine lv_goto (tgt := 26) C.1 C.2.1 dL_rangePut_15 (by decide) ?_
  refine lv_iconst (v := 0) C.1 C.2.1 dL_rangePut_26 (by decide) ?_
  have w := w.sub (ws' := [(h0, .inr (8, [.ref h2, .ref h4, .ref h5, .ref h6, .ref h7, .int 0, .ref h8, .ref h9])), (h2, .inr (7, [.ref h3, .ref h10])), (h3, .inr (6, [.ref h11, .int 0])), (h1, .inr (9, [.long (-9999), .null]))]) [1, 2, 3, 0] (by decide) rfl rfl
  exact x_iret C w hr (fun _ => 0) rfl rfl dL_rangePut_27 (Nat.le_of_ble_eq_true rfl) (Nat.le_of_ble_eq_true rfl)
set_option maxHeartbeats 4000000 in
set_option maxRecDepth 100000 in
theorem c359_X6_rangePut (l : Launch) (G : va_G) (cy : Nat → ClassId) (sa : String → Nat → Nat) (sv : Nat → Nat) (h0 h1 h2 h3 h4 h5 h6 h7 : Nat) (v0 v1 v2 v3 : Int32) (p0 : ¬ v3 < (-999)) (p1 : v3 ≤ 999) (p2 : v2 < v0) : xM l G cy sa sv yX6_rangePut (Cond.code yX6_rangePut cX6_rangePut 5 (some .int) :: XG) { frames := 10, cells := 0, slots := 0, locals := 291 } [.ref h0, .int v0, .int v1, .int v2, .int v3] [(h0, .inr (10, [.ref h1, .ref h2, .ref h3, .ref h4, .ref h5, .ref h6, .ref h7, .int 0, .int 0])), (h1, .inr (3, [.int 0, .ref (sv 0), .int 0]))] (xQi G (fun f => [(h0, .inr (10, [.ref h1, .ref h2, .ref h3, .ref h4, .ref h5, .ref h6, .ref h7, .int 0, .int 0])), (h1, .inr (3, [.int 0, .ref (sv 0), .int 0]))]) (-9999)) := by
  refine xof (by decide) (Nat.le_of_ble_eq_true rfl) (fun p e s m below meth c A C w hr hn ls hl => ?_)
  have hl : lv_has ls 5 [(0, .ref h0), (1, .int v0), (2, .int v1), (3, .int v2), (4, .int v3)] := hl
  refine lv_aload_n C.1 C.2.1 dX6_rangePut_0 rfl (lv_at hl 0 rfl) ?_
  refine lv_iload C.1 C.2.1 dX6_rangePut_1 (lv_at hl 4 rfl) ?_
  refine x_ki C w [] [0, 1] rfl rfl (by decide) (by decide) (va_runS (As := [.int v3]) (rest := [.ref h0]) (xfix C) (c45_X6_isNoValue l G cy sa sv v3 p0 p1 (xtr C) _) (va_cwS 1 (xhts C) (xgS gw_110 gw_111 gw_58 gc_X6_isNoValue) rfl rfl rfl (by decide +kernel) ⟨(Nat.le_of_ble_eq_true rfl), (Nat.le_of_ble_eq_true rfl)⟩) (xPS C w [] rfl (by decide)) rfl rfl hl.1 rfl (lv_room (Nat.le_of_ble_eq_true rfl)) dX6_rangePut_3 ⟨(Nat.le_of_ble_eq_true rfl), (Nat.le_of_ble_eq_true rfl)⟩) (fun f2084 H locs w => ?_)
  have w : xW G A s [(h0, .inr (10, [.ref h1, .ref h2, .ref h3, .ref h4, .ref h5, .ref h6, .ref h7, .int 0, .int 0])), (h1, .inr (3, [.int 0, .ref (sv 0), .int 0]))] H _ := w
  refine lv_iconst (v := 1) C.1 C.2.1 dX6_rangePut_6 (by decide) ?_
  refine x_ki C w [0] [1] rfl rfl (by decide) (by decide) (va_runV (As := [.int 0, .int 1]) (rest := []) (xfix C) (c46_X6_start l G cy sa sv h0 h1 h2 h3 h4 h5 h6 h7 (xtr C) _) (cwV 2 (xhts C) (xgV (maxL := 0) (cc := ⟨#[]⟩) (ret := none) gw_114 gw_115 gw_116 gw_58 gc_X6_start) rfl rfl rfl (by decide +kernel) ⟨(Nat.le_of_ble_eq_true rfl), (Nat.le_of_ble_eq_true rfl)⟩) (xPV C w [0] rfl (by decide) (ci := 10) (q0 := 0) rfl rfl) rfl rfl hl.1 rfl (lv_room (Nat.le_of_ble_eq_true rfl)) dX6_rangePut_7 ⟨(Nat.le_of_ble_eq_true rfl), (Nat.le_of_ble_eq_true rfl)⟩) (fun f2085 H locs w => ?_)
  have w : xW G A s [(h1, .inr (3, [.int 0, .ref (sv 0), .int 0])), (h0, .inr (10, [.ref h1, .ref h2, .ref h3, .ref h4, .ref h5, .ref h6, .ref h7, .int 0, .int 0]))] H _ := w
  refine lv_if_ne (tgt := 26) C.1 C.2.1 dX6_rangePut_10 (by decide) (fun c9 => absurd (by decide) c9) (fun _ => ?_)
  refine lv_aload_n C.1 C.2.1 dX6_rangePut_13 rfl (lv_at hl 0 rfl) ?_
  refine lv_aload_n C.1 C.2.1 dX6_rangePut_14 rfl (lv_at hl 0 rfl) ?_
  refine lv_iload_n C.1 C.2.1 dX6_rangePut_15 rfl (lv_at hl 3 rfl) ?_
  refine x_ki C w [1, 0] [] rfl rfl (by decide) (by decide) (va_runV (As := [.int v2]) (rest := [.ref h0]) (xfix C) (c48_X6_isFull l G cy sa sv h0 h1 h2 h3 h4 h5 h6 h7 v2 (xtr C) _) (cwV 1 (xhts C) (xgV (maxL := 0) (cc := ⟨#[]⟩) (ret := none) gw_199 gw_200 gw_201 gw_58 gc_X6_isFull) rfl rfl rfl (by decide +kernel) ⟨(Nat.le_of_ble_eq_true rfl), (Nat.le_of_ble_eq_true rfl)⟩) (xPV C w [1, 0] rfl (by decide) (ci := 10) (q0 := 1) rfl rfl) rfl rfl hl.1 rfl (lv_room (Nat.le_of_ble_eq_true rfl)) dX6_rangePut_16 ⟨(Nat.le_of_ble_eq_true rfl), (Nat.le_of_ble_eq_true rfl)⟩) (fun f2087 H locs w => ?_)
  have w : xW G A s [(h0, .inr (10, [.ref h1, .ref h2, .ref h3, .ref h4, .ref h5, .ref h6, .ref h7, .int 0, .int 0])), (h1, .inr (3, [.int 0, .ref (sv 0), .int 0]))] H _ := w
  refine lv_iconst (v := 2) C.1 C.2.1 dX6_rangePut_19 (by decide) ?_
  refine x_ki C w [] [0, 1] rfl rfl (by decide) (by decide) (va_runV (As := [.int 0, .int 2]) (rest := []) (xfix C) (c49_X6_fails l G cy sa sv h0 (xtr C) _) (cwV 2 (xhts C) (xgV (maxL := 0) (cc := ⟨#[]⟩) (ret := none) gw_203 gw_204 gw_205 gw_58 gc_X6_fails) rfl rfl rfl (by decide +kernel) ⟨(Nat.le_of_ble_eq_true rfl), (Nat.le_of_ble_eq_true rfl)⟩) (xPV C w [] rfl (by decide) (ci := 10) (q0 := 0) rfl rfl) rfl rfl hl.1 rfl (lv_room (Nat.le_of_ble_eq_true rfl)) dX6_rangePut_20 ⟨(Nat.le_of_ble_eq_true rfl), (Nat.le_of_ble_eq_true rfl)⟩) (fun f2088 H locs w => ?_)
  have w : xW G A s [(h0, .inr (10, [.ref h1, .ref h2, .ref h3, .ref h4, .ref h5, .ref h6, .ref h7, .int 0, .int 0])), (h1, .inr (3, [.int 0, .ref (sv 0), .int 0]))] H _ := w
  refine lv_if_eq (tgt := 28) C.1 C.2.1 dX6_rangePut_23 (by decide) (fun _ => ?_) (fun c9 => absurd (by decide) c9)
  refine lv_iload_n C.1 C.2.1 dX6_rangePut_28 rfl (lv_at hl 3 rfl) ?_
  refine lv_iload_n C.1 C.2.1 dX6_rangePut_29 rfl (lv_at hl 1 rfl) ?_
  refine lv_icmp_lt (tgt := 38) C.1 C.2.1 dX6_rangePut_30 (by decide) (fun _ => ?_) (fun c9 => absurd p2 c9)
  refine lv_sipush (v := (-9999)) C.1 C.2.1 dX6_rangePut_38 (by decide) ?_
  refine lv_goto (tgt := 51) C.1 C.2.1 dX6_rangePut_41 (by decide) ?_
  exact x_iret C w hr (fun _ => 0) rfl rfl dX6_rangePut_51 (Nat.le_of_ble_eq_true rfl) (Nat.le_of_ble_eq_true rfl)
set_option maxHeartbeats 4000000 in
set_option maxRecDepth 100000 in
theorem c360_X4_isBetween (l : Launch) (G : va_G) (cy : Nat → ClassId) (sa : String → Nat → Nat) (sv : Nat → Nat) (v0 v1 v2 : Int32) (p0 : ¬ v2 < v0) (p1 : v1 < v2) : xM l G cy sa sv yX4_isBetween (Cond.code yX4_isBetween cX4_isBetween 3 (some .boolean) :: XG) { frames := 8, cells := 0, slots := 0, locals := 250 } [.int v0, .int v1, .int v2] [] (xQi G (fun f => []) 0) := by
  refine xof (by decide) (Nat.le_of_ble_eq_true rfl) (fun p e s m below meth c A C w hr hn ls hl => ?_)
  have hl : lv_has ls 3 [(0, .int v0), (1, .int v1), (2, .int v2)] := hl
  refine lv_iload_n C.1 C.2.1 dX4_isBetween_0 rfl (lv_at hl 0 rfl) ?_
  refine lv_iload_n C.1 C.2.1 dX4_isBetween_1 rfl (lv_at hl 2 rfl) ?_
  refine lv_icmp_gt (tgt := 14) C.1 C.2.1 dX4_isBetween_2 (by decide) (fun c9 => absurd c9 p0) (fun _ => ?_)
  refine lv_iload_n C.1 C.2.1 dX4_isBetween_5 rfl (lv_at hl 2 rfl) ?_
  refine lv_iload_n C.1 C.2.1 dX4_isBetween_6 rfl (lv_at hl 1 rfl) ?_
  refine lv_icmp_gt (tgt := 14) C.1 C.2.1 dX4_isBetween_7 (by decide) (fun _ => ?_) (fun c9 => absurd p1 c9)
  refine lv_iconst (v := 0) C.1 C.2.1 dX4_isBetween_14 (by decide) ?_
  exact x_zret C w hr rfl (fun _ => 0) rfl rfl dX4_isBetween_15 (Nat.le_of_ble_eq_true rfl) (Nat.le_of_ble_eq_true rfl)
set_option maxHeartbeats 4000000 in
set_option maxRecDepth 100000 in
theorem c361_X4_rangePut (l : Launch) (G : va_G) (cy : Nat → ClassId) (sa : String → Nat → Nat) (sv : Nat → Nat) (h0 h1 h2 h3 h4 h5 h6 h7 h8 h9 h10 : Nat) (v0 v1 v2 v3 : Int32) (p0 : ¬ v3 < (-999)) (p1 : v3 ≤ 999) (p2 : ¬ v2 < v0) (p3 : v1 < v2) : xM l G cy sa sv yX4_rangePut (Cond.code yX4_rangePut cX4_rangePut 5 (some .int) :: XG) { frames := 11, cells := 0, slots := 0, locals := 311 } [.ref h0, .int v0, .int v1, .int v2, .int v3] [(h0, .inr (8, [.ref h1, .ref h3, .ref h4, .ref h5, .ref h6, .int 0, .ref h7, .ref h8])), (h1, .inr (7, [.ref h2, .ref h9])), (h2, .inr (6, [.ref h10, .int 0]))] (xQi G (fun f => [(h0, .inr (8, [.ref h1, .ref h3, .ref h4, .ref h5, .ref h6, .int 0, .ref h7, .ref h8])), (h1, .inr (7, [.ref h2, .ref h9])), (h2, .inr (6, [.ref h10, .int 0]))]) (-9999)) := by
  refine xof (by decide) (Nat.le_of_ble_eq_true rfl) (fun p e s m below meth c A C w hr hn ls hl => ?_)
  have hl : lv_has ls 5 [(0, .ref h0), (1, .int v0), (2, .int v1), (3, .int v2), (4, .int v3)] := hl
  refine lv_iload C.1 C.2.1 dX4_rangePut_0 (lv_at hl 4 rfl) ?_
  refine x_kv C w [] [0, 1, 2] rfl rfl (by decide) (by decide) (va_runS (As := [.int v3]) (rest := []) (xfix C) (c20_X4_checkValue l G cy sa sv v3 p0 p1 (xtr C) _) (va_cwS 1 (xhts C) (xgS gw_98 gw_99 gw_2 gc_X4_checkValue) rfl rfl rfl (by decide +kernel) ⟨(Nat.le_of_ble_eq_true rfl), (Nat.le_of_ble_eq_true rfl)⟩) (xPS C w [] rfl (by decide)) rfl rfl hl.1 rfl (lv_room (Nat.le_of_ble_eq_true rfl)) dX4_rangePut_2 ⟨(Nat.le_of_ble_eq_true rfl), (Nat.le_of_ble_eq_true rfl)⟩) (fun f2097 H locs w => ?_)
  have w : xW G A s [(h0, .inr (8, [.ref h1, .ref h3, .ref h4, .ref h5, .ref h6, .int 0, .ref h7, .ref h8])), (h1, .inr (7, [.ref h2, .ref h9])), (h2, .inr (6, [.ref h10, .int 0]))] H _ := w
  refine lv_aload_n C.1 C.2.1 dX4_rangePut_5 rfl (lv_at hl 0 rfl) ?_
  refine lv_iload_n C.1 C.2.1 dX4_rangePut_6 rfl (lv_at hl 3 rfl) ?_
  refine x_kv C w [0, 1, 2] [] rfl rfl (by decide) (by decide) (va_runV (As := [.int v2]) (rest := []) (xfix C) (c23_X4_checkRoomFor l G cy sa sv h0 h1 h2 h3 h4 h5 h6 h7 h8 h9 h10 v2 (xtr C) _) (cwV 1 (xhts C) (xgV (maxL := 0) (cc := ⟨#[]⟩) (ret := none) gw_134 gw_135 gw_136 gw_2 gc_X4_checkRoomFor) rfl rfl rfl (by decide +kernel) ⟨(Nat.le_of_ble_eq_true rfl), (Nat.le_of_ble_eq_true rfl)⟩) (xPV C w [0, 1, 2] rfl (by decide) (ci := 8) (q0 := 0) rfl rfl) rfl rfl hl.1 rfl (lv_room (Nat.le_of_ble_eq_true rfl)) dX4_rangePut_7 ⟨(Nat.le_of_ble_eq_true rfl), (Nat.le_of_ble_eq_true rfl)⟩) (fun f2100 H locs w => ?_)
  have w : xW G A s [(h0, .inr (8, [.ref h1, .ref h3, .ref h4, .ref h5, .ref h6, .int 0, .ref h7, .ref h8])), (h1, .inr (7, [.ref h2, .ref h9])), (h2, .inr (6, [.ref h10, .int 0]))] H _ := w
  refine lv_iload_n C.1 C.2.1 dX4_rangePut_10 rfl (lv_at hl 1 rfl) ?_
  refine lv_iload_n C.1 C.2.1 dX4_rangePut_11 rfl (lv_at hl 2 rfl) ?_
  refine lv_iload_n C.1 C.2.1 dX4_rangePut_12 rfl (lv_at hl 3 rfl) ?_
  refine x_ki C w [] [0, 1, 2] rfl rfl (by decide) (by decide) (va_runS (As := [.int v0, .int v1, .int v2]) (rest := []) (xfix C) (c360_X4_isBetween l G cy sa sv v0 v1 v2 p2 p3 (xtr C) _) (va_cwS 3 (xhts C) (xgS gw_704 gw_422 gw_2 gc_X4_isBetween) rfl rfl rfl (by decide +kernel) ⟨(Nat.le_of_ble_eq_true rfl), (Nat.le_of_ble_eq_true rfl)⟩) (xPS C w [] rfl (by decide)) rfl rfl hl.1 rfl (lv_room (Nat.le_of_ble_eq_true rfl)) dX4_rangePut_13 ⟨(Nat.le_of_ble_eq_true rfl), (Nat.le_of_ble_eq_true rfl)⟩) (fun f2101 H locs w => ?_)
  have w : xW G A s [(h0, .inr (8, [.ref h1, .ref h3, .ref h4, .ref h5, .ref h6, .int 0, .ref h7, .ref h8])), (h1, .inr (7, [.ref h2, .ref h9])), (h2, .inr (6, [.ref h10, .int 0]))] H _ := w
  refine lv_if_eq (tgt := 29) C.1 C.2.1 dX4_rangePut_16 (by decide) (fun _ => ?_) (fun c9 => absurd (by decide) c9)
  refine lv_sipush (v := (-9999)) C.1 C.2.1 dX4_rangePut_29 (by decide) ?_
  exact x_iret C w hr (fun _ => 0) rfl rfl dX4_rangePut_32 (Nat.le_of_ble_eq_true rfl) (Nat.le_of_ble_eq_true rfl)
set_option maxHeartbeats 4000000 in
set_option maxRecDepth 100000 in
theorem c362_L_rangePut (l : Launch) (G : va_G) (cy : Nat → ClassId) (sa : String → Nat → Nat) (sv : Nat → Nat) (h0 h1 h2 h3 h4 h5 h6 h7 h8 h9 h10 h11 : Nat) (v0 v1 v2 v3 : Int32) (p0 : ¬ v3 < (-999)) (p1 : v3 ≤ 999) (p2 : ¬ v2 < v0) (p3 : v1 < v2) : xM l G cy sa sv yL_rangePut (Cond.codeWith yL_rangePut cL_rangePut 7 (some .int) [(0, 15, 18, 19), (0, 15, 22, 21)] :: XG) { frames := 12, cells := 0, slots := 0, locals := 335 } [.ref h0, .int v0, .int v1, .int v2, .int v3, .ref h1] [(h0, .inr (8, [.ref h2, .ref h4, .ref h5, .ref h6, .ref h7, .int 0, .ref h8, .ref h9])), (h2, .inr (7, [.ref h3, .ref h10])), (h3, .inr (6, [.ref h11, .int 0])), (h1, .inr (9, [.long 0, .null]))] (xQi G (fun f => [(h0, .inr (8, [.ref h2, .ref h4, .ref h5, .ref h6, .ref h7, .int 0, .ref h8, .ref h9])), (h2, .inr (7, [.ref h3, .ref h10])), (h3, .inr (6, [.ref h11, .int 0])), (h1, .inr (9, [.long (-9999), .null]))]) 0) := by
  refine xofH (by decide) (Nat.le_of_ble_eq_true rfl) (fun p e s m below meth c A C w hr hn hT ls hl => ?_)
  have hl : lv_has ls 7 [(0, .ref h0), (1, .int v0), (2, .int v1), (3, .int v2), (4, .int v3), (5, .ref h1)] := hl
  refine lv_aload C.1 C.2.1 dL_rangePut_0 (lv_at hl 5 rfl) ?_
  refine lv_aload_n C.1 C.2.1 dL_rangePut_2 rfl (lv_at hl 0 rfl) ?_
  refine lv_iload_n C.1 C.2.1 dL_rangePut_3 rfl (lv_at hl 1 rfl) ?_
  refine lv_iload_n C.1 C.2.1 dL_rangePut_4 rfl (lv_at hl 2 rfl) ?_
  refine lv_iload_n C.1 C.2.1 dL_rangePut_5 rfl (lv_at hl 3 rfl) ?_
  refine lv_iload C.1 C.2.1 dL_rangePut_6 (lv_at hl 4 rfl) ?_
  refine x_ki C w [0, 1, 2] [3] rfl rfl (by decide) (by decide) (va_runV (As := [.int v0, .int v1, .int v2, .int v3]) (rest := [.ref h1]) (xfix C) (c361_X4_rangePut l G cy sa sv h0 h2 h3 h4 h5 h6 h7 h8 h9 h10 h11 v0 v1 v2 v3 p0 p1 p2 p3 (xtr C) _) (cwV 4 (xhts C) (xgV (maxL := 0) (cc := ⟨#[]⟩) (ret := none) gw_694 gw_695 gw_696 gw_2 gc_X4_rangePut) rfl rfl rfl (by decide +kernel) ⟨(Nat.le_of_ble_eq_true rfl), (Nat.le_of_ble_eq_true rfl)⟩) (xPV C w [0, 1, 2] rfl (by decide) (ci := 8) (q0 := 0) rfl rfl) rfl rfl hl.1 rfl (lv_room (Nat.le_of_ble_eq_true rfl)) dL_rangePut_8 ⟨(Nat.le_of_ble_eq_true rfl), (Nat.le_of_ble_eq_true rfl)⟩) (fun f2102 H locs w => ?_)
  have w : xW G A s [(h1, .inr (9, [.long 0, .null])), (h0, .inr (8, [.ref h2, .ref h4, .ref h5, .ref h6, .ref h7, .int 0, .ref h8, .ref h9])), (h2, .inr (7, [.ref h3, .ref h10])), (h3, .inr (6, [.ref h11, .int 0]))] H _ := w
  refine lv_i2l (v := (-9999)) C.1 C.2.1 dL_rangePut_11 (by decide) ?_
  refine x_putN (ty := .long) (ty0 := tyX5) C w 0 9 0 (xin_X5 _) tyX5_ok nmX5 rfl rfl (by decide) (xs_f_n (xS C)) rfl rfl (by decide +kernel) rfl rfl (Nat.le_of_ble_eq_true rfl) dL_rangePut_12 (fun H locs w => ?_)
  have w : xW G A s [(h1, .inr (9, [.long (-9999), .null])), (h0, .inr (8, [.ref h2, .ref h4, .ref h5, .ref h6, .ref h7, .int 0, .ref h8, .ref h9])), (h2, .inr (7, [.ref h3, .ref h10])), (h3, .inr (6, [.ref h11, .int 0]))] H _ := w
  refine lv_goto (tgt := 26) C.1 C.2.1 dL_rangePut_15 (by decide) ?_
  refine lv_iconst (v := 0) C.1 C.2.1 dL_rangePut_26 (by decide) ?_
  have w := w.sub (ws' := [(h0, .inr (8, [.ref h2, .ref h4, .ref h5, .ref h6, .ref h7, .int 0, .ref h8, .ref h9])), (h2, .inr (7, [.ref h3, .ref h10])), (h3, .inr (6, [.ref h11, .int 0])), (h1, .inr (9, [.long (-9999), .null]))]) [1, 2, 3, 0] (by decide) rfl rfl
  exact x_iret C w hr (fun _ => 0) rfl rfl dL_rangePut_27 (Nat.le_of_ble_eq_true rfl) (Nat.le_of_ble_eq_true rfl)
set_option maxHeartbeats 4000000 in
set_option maxRecDepth 100000 in
theorem c363_X6_rangePut (l : Launch) (G : va_G) (cy : Nat → ClassId) (sa : String → Nat → Nat) (sv : Nat → Nat) (h0 h1 h2 h3 h4 h5 h6 h7 : Nat) (v0 v1 v2 v3 : Int32) (p0 : ¬ v3 < (-999)) (p1 : v3 ≤ 999) (p2 : ¬ v2 < v0) (p3 : ¬ v2 ≤ v1) : xM l G cy sa sv yX6_rangePut (Cond.code yX6_rangePut cX6_rangePut 5 (some .int) :: XG) { frames := 10, cells := 0, slots := 0, locals := 291 } [.ref h0, .int v0, .int v1, .int v2, .int v3] [(h0, .inr (10, [.ref h1, .ref h2, .ref h3, .ref h4, .ref h5, .ref h6, .ref h7, .int 0, .int 0])), (h1, .inr (3, [.int 0, .ref (sv 0), .int 0]))] (xQi G (fun f => [(h0, .inr (10, [.ref h1, .ref h2, .ref h3, .ref h4, .ref h5, .ref h6, .ref h7, .int 0, .int 0])), (h1, .inr (3, [.int 0, .ref (sv 0), .int 0]))]) (-9999)) := by
  refine xof (by decide) (Nat.le_of_ble_eq_true rfl) (fun p e s m below meth c A C w hr hn ls hl => ?_)
  have hl : lv_has ls 5 [(0, .ref h0), (1, .int v0), (2, .int v1), (3, .int v2), (4, .int v3)] := hl
  refine lv_aload_n C.1 C.2.1 dX6_rangePut_0 rfl (lv_at hl 0 rfl) ?_
  refine lv_iload C.1 C.2.1 dX6_rangePut_1 (lv_at hl 4 rfl) ?_
  refine x_ki C w [] [0, 1] rfl rfl (by decide) (by decide) (va_runS (As := [.int v3]) (rest := [.ref h0]) (xfix C) (c45_X6_isNoValue l G cy sa sv v3 p0 p1 (xtr C) _) (va_cwS 1 (xhts C) (xgS gw_110 gw_111 gw_58 gc_X6_isNoValue) rfl rfl rfl (by decide +kernel) ⟨(Nat.le_of_ble_eq_true rfl), (Nat.le_of_ble_eq_true rfl)⟩) (xPS C w [] rfl (by decide)) rfl rfl hl.1 rfl (lv_room (Nat.le_of_ble_eq_true rfl)) dX6_rangePut_3 ⟨(Nat.le_of_ble_eq_true rfl), (Nat.le_of_ble_eq_true rfl)⟩) (fun f2104 H locs w => ?_)
  have w : xW G A s [(h0, .inr (10, [.ref h1, .ref h2, .ref h3, .ref h4, .ref h5, .ref h6, .ref h7, .int 0, .int 0])), (h1, .inr (3, [.int 0, .ref (sv 0), .int 0]))] H _ := w
  refine lv_iconst (v := 1) C.1 C.2.1 dX6_rangePut_6 (by decide) ?_
  refine x_ki C w [0] [1] rfl rfl (by decide) (by decide) (va_runV (As := [.int 0, .int 1]) (rest := []) (xfix C) (c46_X6_start l G cy sa sv h0 h1 h2 h3 h4 h5 h6 h7 (xtr C) _) (cwV 2 (xhts C) (xgV (maxL := 0) (cc := ⟨#[]⟩) (ret := none) gw_114 gw_115 gw_116 gw_58 gc_X6_start) rfl rfl rfl (by decide +kernel) ⟨(Nat.le_of_ble_eq_true rfl), (Nat.le_of_ble_eq_true rfl)⟩) (xPV C w [0] rfl (by decide) (ci := 10) (q0 := 0) rfl rfl) rfl rfl hl.1 rfl (lv_room (Nat.le_of_ble_eq_true rfl)) dX6_rangePut_7 ⟨(Nat.le_of_ble_eq_true rfl), (Nat.le_of_ble_eq_true rfl)⟩) (fun f2105 H locs w => ?_)
  have w : xW G A s [(h1, .inr (3, [.int 0, .ref (sv 0), .int 0])), (h0, .inr (10, [.ref h1, .ref h2, .ref h3, .ref h4, .ref h5, .ref h6, .ref h7, .int 0, .int 0]))] H _ := w
  refine lv_if_ne (tgt := 26) C.1 C.2.1 dX6_rangePut_10 (by decide) (fun c9 => absurd (by decide) c9) (fun _ => ?_)
  refine lv_aload_n C.1 C.2.1 dX6_rangePut_13 rfl (lv_at hl 0 rfl) ?_
  refine lv_aload_n C.1 C.2.1 dX6_rangePut_14 rfl (lv_at hl 0 rfl) ?_
  refine lv_iload_n C.1 C.2.1 dX6_rangePut_15 rfl (lv_at hl 3 rfl) ?_
  refine x_ki C w [1, 0] [] rfl rfl (by decide) (by decide) (va_runV (As := [.int v2]) (rest := [.ref h0]) (xfix C) (c48_X6_isFull l G cy sa sv h0 h1 h2 h3 h4 h5 h6 h7 v2 (xtr C) _) (cwV 1 (xhts C) (xgV (maxL := 0) (cc := ⟨#[]⟩) (ret := none) gw_199 gw_200 gw_201 gw_58 gc_X6_isFull) rfl rfl rfl (by decide +kernel) ⟨(Nat.le_of_ble_eq_true rfl), (Nat.le_of_ble_eq_true rfl)⟩) (xPV C w [1, 0] rfl (by decide) (ci := 10) (q0 := 1) rfl rfl) rfl rfl hl.1 rfl (lv_room (Nat.le_of_ble_eq_true rfl)) dX6_rangePut_16 ⟨(Nat.le_of_ble_eq_true rfl), (Nat.le_of_ble_eq_true rfl)⟩) (fun f2107 H locs w => ?_)
  have w : xW G A s [(h0, .inr (10, [.ref h1, .ref h2, .ref h3, .ref h4, .ref h5, .ref h6, .ref h7, .int 0, .int 0])), (h1, .inr (3, [.int 0, .ref (sv 0), .int 0]))] H _ := w
  refine lv_iconst (v := 2) C.1 C.2.1 dX6_rangePut_19 (by decide) ?_
  refine x_ki C w [] [0, 1] rfl rfl (by decide) (by decide) (va_runV (As := [.int 0, .int 2]) (rest := []) (xfix C) (c49_X6_fails l G cy sa sv h0 (xtr C) _) (cwV 2 (xhts C) (xgV (maxL := 0) (cc := ⟨#[]⟩) (ret := none) gw_203 gw_204 gw_205 gw_58 gc_X6_fails) rfl rfl rfl (by decide +kernel) ⟨(Nat.le_of_ble_eq_true rfl), (Nat.le_of_ble_eq_true rfl)⟩) (xPV C w [] rfl (by decide) (ci := 10) (q0 := 0) rfl rfl) rfl rfl hl.1 rfl (lv_room (Nat.le_of_ble_eq_true rfl)) dX6_rangePut_20 ⟨(Nat.le_of_ble_eq_true rfl), (Nat.le_of_ble_eq_true rfl)⟩) (fun f2108 H locs w => ?_)
  have w : xW G A s [(h0, .inr (10, [.ref h1, .ref h2, .ref h3, .ref h4, .ref h5, .ref h6, .ref h7, .int 0, .int 0])), (h1, .inr (3, [.int 0, .ref (sv 0), .int 0]))] H _ := w
  refine lv_if_eq (tgt := 28) C.1 C.2.1 dX6_rangePut_23 (by decide) (fun _ => ?_) (fun c9 => absurd (by decide) c9)
  refine lv_iload_n C.1 C.2.1 dX6_rangePut_28 rfl (lv_at hl 3 rfl) ?_
  refine lv_iload_n C.1 C.2.1 dX6_rangePut_29 rfl (lv_at hl 1 rfl) ?_
  refine lv_icmp_lt (tgt := 38) C.1 C.2.1 dX6_rangePut_30 (by decide) (fun c9 => absurd c9 p2) (fun _ => ?_)
  refine lv_iload_n C.1 C.2.1 dX6_rangePut_33 rfl (lv_at hl 3 rfl) ?_
  refine lv_iload_n C.1 C.2.1 dX6_rangePut_34 rfl (lv_at hl 2 rfl) ?_
  refine lv_icmp_le (tgt := 44) C.1 C.2.1 dX6_rangePut_35 (by decide) (fun c9 => absurd c9 p3) (fun _ => ?_)
  refine lv_sipush (v := (-9999)) C.1 C.2.1 dX6_rangePut_38 (by decide) ?_
  refine lv_goto (tgt := 51) C.1 C.2.1 dX6_rangePut_41 (by decide) ?_
  exact x_iret C w hr (fun _ => 0) rfl rfl dX6_rangePut_51 (Nat.le_of_ble_eq_true rfl) (Nat.le_of_ble_eq_true rfl)
set_option maxHeartbeats 4000000 in
set_option maxRecDepth 100000 in
theorem c364_X4_isBetween (l : Launch) (G : va_G) (cy : Nat → ClassId) (sa : String → Nat → Nat) (sv : Nat → Nat) (v0 v1 v2 : Int32) (p0 : ¬ v2 < v0) (p1 : ¬ v1 < v2) : xM l G cy sa sv yX4_isBetween (Cond.code yX4_isBetween cX4_isBetween 3 (some .boolean) :: XG) { frames := 8, cells := 0, slots := 0, locals := 250 } [.int v0, .int v1, .int v2] [] (xQi G (fun f => []) 1) := by
  refine xof (by decide) (Nat.le_of_ble_eq_true rfl) (fun p e s m below meth c A C w hr hn ls hl => ?_)
  have hl : lv_has ls 3 [(0, .int v0), (1, .int v1), (2, .int v2)] := hl
  refine lv_iload_n C.1 C.2.1 dX4_isBetween_0 rfl (lv_at hl 0 rfl) ?_
  refine lv_iload_n C.1 C.2.1 dX4_isBetween_1 rfl (lv_at hl 2 rfl) ?_
  refine lv_icmp_gt (tgt := 14) C.1 C.2.1 dX4_isBetween_2 (by decide) (fun c9 => absurd c9 p0) (fun _ => ?_)
  refine lv_iload_n C.1 C.2.1 dX4_isBetween_5 rfl (lv_at hl 2 rfl) ?_
  refine lv_iload_n C.1 C.2.1 dX4_isBetween_6 rfl (lv_at hl 1 rfl) ?_
  refine lv_icmp_gt (tgt := 14) C.1 C.2.1 dX4_isBetween_7 (by decide) (fun c9 => absurd c9 p1) (fun _ => ?_)
  refine lv_iconst (v := 1) C.1 C.2.1 dX4_isBetween_10 (by decide) ?_
  refine lv_goto (tgt := 15) C.1 C.2.1 dX4_isBetween_11 (by decide) ?_
  exact x_zret C w hr rfl (fun _ => 0) rfl rfl dX4_isBetween_15 (Nat.le_of_ble_eq_true rfl) (Nat.le_of_ble_eq_true rfl)
set_option maxHeartbeats 4000000 in
set_option maxRecDepth 100000 in
theorem c365_X4_rangePut (l : Launch) (G : va_G) (cy : Nat → ClassId) (sa : String → Nat → Nat) (sv : Nat → Nat) (h0 h1 h2 h3 h4 h5 h6 h7 h8 h9 h10 h11 h12 h13 h14 h15 h16 h17 h18 : Nat) (v0 v1 v2 v3 : Int32) (p0 : ¬ v3 < (-999)) (p1 : v3 ≤ 999) (p2 : ¬ v2 < v0) (p3 : ¬ v1 < v2) (p4 : ¬ (-1000) = v3) : xM l G cy sa sv yX4_rangePut (Cond.code yX4_rangePut cX4_rangePut 5 (some .int) :: XG) { frames := 14, cells := 0, slots := 0, locals := 384 } [.ref h0, .int v0, .int v1, .int v2, .int v3] [(h0, .inr (8, [.ref h1, .ref h11, .ref h3, .ref h15, .ref h16, .int 0, .ref h17, .ref h18])), (h1, .inr (7, [.ref h2, .ref h9])), (h2, .inr (6, [.ref h8, .int 0])), (h3, .inr (5, [.ref h4, .ref h6, .ref h13, .int 0])), (h4, .inr (6, [.ref h5, .int 0])), (h5, .inl (cy 1, 624, .inl (fun _ => 0))), (h6, .inr (6, [.ref h7, .int 0])), (h7, .inl (cy 1, 624, .inl (fun _ => 0))), (h8, .inl (cy 1, 24, .inl (fun _ => 0))), (h9, .inr (6, [.ref h10, .int 0])), (h10, .inl (cy 1, 24, .inl (fun _ => 0))), (h11, .inr (6, [.ref h12, .int 0])), (h12, .inl (cy 1, 24, .inl (fun _ => 0))), (h13, .inr (6, [.ref h14, .int 0])), (h14, .inl (cy 1, 12, .inl (fun _ => 0)))] (xQi G (fun f => [(h0, .inr (8, [.ref h1, .ref h11, .ref h3, .ref h15, .ref h16, .int 0, .ref h17, .ref h18])), (h1, .inr (7, [.ref h2, .ref h9])), (h2, .inr (6, [.ref h8, .int 1])), (h3, .inr (5, [.ref h4, .ref h6, .ref h13, .int 0])), (h4, .inr (6, [.ref h5, .int 1])), (h5, .inl (cy 1, 624, .inl (upd (fun _ => 0) 0 v2))), (h6, .inr (6, [.ref h7, .int 1])), (h7, .inl (cy 1, 624, .inl (upd (fun _ => 0) 0 (-1000)))), (h8, .inl (cy 1, 24, .inl (upd (fun _ => 0) 0 v2))), (h9, .inr (6, [.ref h10, .int 1])), (h10, .inl (cy 1, 24, .inl (upd (fun _ => 0) 0 v3))), (h11, .inr (6, [.ref h12, .int 1])), (h12, .inl (cy 1, 24, .inl (upd (fun _ => 0) 0 v2))), (h13, .inr (6, [.ref h14, .int 1])), (h14, .inl (cy 1, 12, .inl (upd (fun _ => 0) 0 1)))]) (-1000)) := by
  refine xof (by decide) (Nat.le_of_ble_eq_true rfl) (fun p e s m below meth c A C w hr hn ls hl => ?_)
  have hl : lv_has ls 5 [(0, .ref h0), (1, .int v0), (2, .int v1), (3, .int v2), (4, .int v3)] := hl
  refine lv_iload C.1 C.2.1 dX4_rangePut_0 (lv_at hl 4 rfl) ?_
  refine x_kv C w [] [0, 1, 2, 3, 4, 5, 6, 7, 8, 9, 10, 11, 12, 13, 14] rfl rfl (by decide) (by decide) (va_runS (As := [.int v3]) (rest := []) (xfix C) (c20_X4_checkValue l G cy sa sv v3 p0 p1 (xtr C) _) (va_cwS 1 (xhts C) (xgS gw_98 gw_99 gw_2 gc_X4_checkValue) rfl rfl rfl (by decide +kernel) ⟨(Nat.le_of_ble_eq_true rfl), (Nat.le_of_ble_eq_true rfl)⟩) (xPS C w [] rfl (by decide)) rfl rfl hl.1 rfl (lv_room (Nat.le_of_ble_eq_true rfl)) dX4_rangePut_2 ⟨(Nat.le_of_ble_eq_true rfl), (Nat.le_of_ble_eq_true rfl)⟩) (fun f2129 H locs w => ?_)
  have w : xW G A s [(h0, .inr (8, [.ref h1, .ref h11, .ref h3, .ref h15, .ref h16, .int 0, .ref h17, .ref h18])), (h1, .inr (7, [.ref h2, .ref h9])), (h2, .inr (6, [.ref h8, .int 0])), (h3, .inr (5, [.ref h4, .ref h6, .ref h13, .int 0])), (h4, .inr (6, [.ref h5, .int 0])), (h5, .inl (cy 1, 624, .inl (fun _ => 0))), (h6, .inr (6, [.ref h7, .int 0])), (h7, .inl (cy 1, 624, .inl (fun _ => 0))), (h8, .inl (cy 1, 24, .inl (fun _ => 0))), (h9, .inr (6, [.ref h10, .int 0])), (h10, .inl (cy 1, 24, .inl (fun _ => 0))), (h11, .inr (6, [.ref h12, .int 0])), (h12, .inl (cy 1, 24, .inl (fun _ => 0))), (h13, .inr (6, [.ref h14, .int 0])), (h14, .inl (cy 1, 12, .inl (fun _ => 0)))] H _ := w
  refine lv_aload_n C.1 C.2.1 dX4_rangePut_5 rfl (lv_at hl 0 rfl) ?_
  refine lv_iload_n C.1 C.2.1 dX4_rangePut_6 rfl (lv_at hl 3 rfl) ?_
  refine x_kv C w [0, 1, 2] [3, 4, 5, 6, 7, 8, 9, 10, 11, 12, 13, 14] rfl rfl (by decide) (by decide) (va_runV (As := [.int v2]) (rest := []) (xfix C) (c23_X4_checkRoomFor l G cy sa sv h0 h1 h2 h11 h3 h15 h16 h17 h18 h9 h8 v2 (xtr C) _) (cwV 1 (xhts C) (xgV (maxL := 0) (cc := ⟨#[]⟩) (ret := none) gw_134 gw_135 gw_136 gw_2 gc_X4_checkRoomFor) rfl rfl rfl (by decide +kernel) ⟨(Nat.le_of_ble_eq_true rfl), (Nat.le_of_ble_eq_true rfl)⟩) (xPV C w [0, 1, 2] rfl (by decide) (ci := 8) (q0 := 0) rfl rfl) rfl rfl hl.1 rfl (lv_room (Nat.le_of_ble_eq_true rfl)) dX4_rangePut_7 ⟨(Nat.le_of_ble_eq_true rfl), (Nat.le_of_ble_eq_true rfl)⟩) (fun f2132 H locs w => ?_)
  have w : xW G A s [(h3, .inr (5, [.ref h4, .ref h6, .ref h13, .int 0])), (h4, .inr (6, [.ref h5, .int 0])), (h5, .inl (cy 1, 624, .inl (fun _ => 0))), (h6, .inr (6, [.ref h7, .int 0])), (h7, .inl (cy 1, 624, .inl (fun _ => 0))), (h8, .inl (cy 1, 24, .inl (fun _ => 0))), (h9, .inr (6, [.ref h10, .int 0])), (h10, .inl (cy 1, 24, .inl (fun _ => 0))), (h11, .inr (6, [.ref h12, .int 0])), (h12, .inl (cy 1, 24, .inl (fun _ => 0))), (h13, .inr (6, [.ref h14, .int 0])), (h14, .inl (cy 1, 12, .inl (fun _ => 0))), (h0, .inr (8, [.ref h1, .ref h11, .ref h3, .ref h15, .ref h16, .int 0, .ref h17, .ref h18])), (h1, .inr (7, [.ref h2, .ref h9])), (h2, .inr (6, [.ref h8, .int 0]))] H _ := w
  refine lv_iload_n C.1 C.2.1 dX4_rangePut_10 rfl (lv_at hl 1 rfl) ?_
  refine lv_iload_n C.1 C.2.1 dX4_rangePut_11 rfl (lv_at hl 2 rfl) ?_
  refine lv_iload_n C.1 C.2.1 dX4_rangePut_12 rfl (lv_at hl 3 rfl) ?_
  refine x_ki C w [] [0, 1, 2, 3, 4, 5, 6, 7, 8, 9, 10, 11, 12, 13, 14] rfl rfl (by decide) (by decide) (va_runS (As := [.int v0, .int v1, .int v2]) (rest := []) (xfix C) (c364_X4_isBetween l G cy sa sv v0 v1 v2 p2 p3 (xtr C) _) (va_cwS 3 (xhts C) (xgS gw_704 gw_422 gw_2 gc_X4_isBetween) rfl rfl rfl (by decide +kernel) ⟨(Nat.le_of_ble_eq_true rfl), (Nat.le_of_ble_eq_true rfl)⟩) (xPS C w [] rfl (by decide)) rfl rfl hl.1 rfl (lv_room (Nat.le_of_ble_eq_true rfl)) dX4_rangePut_13 ⟨(Nat.le_of_ble_eq_true rfl), (Nat.le_of_ble_eq_true rfl)⟩) (fun f2133 H locs w => ?_)
  have w : xW G A s [(h3, .inr (5, [.ref h4, .ref h6, .ref h13, .int 0])), (h4, .inr (6, [.ref h5, .int 0])), (h5, .inl (cy 1, 624, .inl (fun _ => 0))), (h6, .inr (6, [.ref h7, .int 0])), (h7, .inl (cy 1, 624, .inl (fun _ => 0))), (h8, .inl (cy 1, 24, .inl (fun _ => 0))), (h9, .inr (6, [.ref h10, .int 0])), (h10, .inl (cy 1, 24, .inl (fun _ => 0))), (h11, .inr (6, [.ref h12, .int 0])), (h12, .inl (cy 1, 24, .inl (fun _ => 0))), (h13, .inr (6, [.ref h14, .int 0])), (h14, .inl (cy 1, 12, .inl (fun _ => 0))), (h0, .inr (8, [.ref h1, .ref h11, .ref h3, .ref h15, .ref h16, .int 0, .ref h17, .ref h18])), (h1, .inr (7, [.ref h2, .ref h9])), (h2, .inr (6, [.ref h8, .int 0]))] H _ := w
  refine lv_if_eq (tgt := 29) C.1 C.2.1 dX4_rangePut_16 (by decide) (fun c9 => absurd c9 (by decide)) (fun _ => ?_)
  refine lv_aload_n C.1 C.2.1 dX4_rangePut_19 rfl (lv_at hl 0 rfl) ?_
  refine lv_iload_n C.1 C.2.1 dX4_rangePut_20 rfl (lv_at hl 3 rfl) ?_
  refine lv_iload C.1 C.2.1 dX4_rangePut_21 (lv_at hl 4 rfl) ?_
  refine x_ki C w [12, 13, 14, 0, 1, 2, 3, 4, 5, 6, 7, 8, 9, 10, 11] [] rfl rfl (by decide) (by decide) (va_runV (As := [.int v2, .int v3]) (rest := []) (xfix C) (c43_X4_put l G cy sa sv h0 h1 h2 h3 h4 h5 h6 h7 h8 h9 h10 h11 h12 h13 h14 h15 h16 h17 h18 v2 v3 p0 p1 p4 (xtr C) _) (cwV 2 (xhts C) (xgV (maxL := 0) (cc := ⟨#[]⟩) (ret := none) gw_705 gw_102 gw_103 gw_2 gc_X4_put) rfl rfl rfl (by decide +kernel) ⟨(Nat.le_of_ble_eq_true rfl), (Nat.le_of_ble_eq_true rfl)⟩) (xPV C w [12, 13, 14, 0, 1, 2, 3, 4, 5, 6, 7, 8, 9, 10, 11] rfl (by decide) (ci := 8) (q0 := 12) rfl rfl) rfl rfl hl.1 rfl (lv_room (Nat.le_of_ble_eq_true rfl)) dX4_rangePut_23 ⟨(Nat.le_of_ble_eq_true rfl), (Nat.le_of_ble_eq_true rfl)⟩) (fun f2165 H locs w => ?_)
  have w : xW G A s [(h0, .inr (8, [.ref h1, .ref h11, .ref h3, .ref h15, .ref h16, .int 0, .ref h17, .ref h18])), (h1, .inr (7, [.ref h2, .ref h9])), (h2, .inr (6, [.ref h8, .int 1])), (h3, .inr (5, [.ref h4, .ref h6, .ref h13, .int 0])), (h4, .inr (6, [.ref h5, .int 1])), (h5, .inl (cy 1, 624, .inl (upd (fun _ => 0) 0 v2))), (h6, .inr (6, [.ref h7, .int 1])), (h7, .inl (cy 1, 624, .inl (upd (fun _ => 0) 0 (-1000)))), (h8, .inl (cy 1, 24, .inl (upd (fun _ => 0) 0 v2))), (h9, .inr (6, [.ref h10, .int 1])), (h10, .inl (cy 1, 24, .inl (upd (fun _ => 0) 0 v3))), (h11, .inr (6, [.ref h12, .int 1])), (h12, .inl (cy 1, 24, .inl (upd (fun _ => 0) 0 v2))), (h13, .inr (6, [.ref h14, .int 1])), (h14, .inl (cy 1, 12, .inl (upd (fun _ => 0) 0 1)))] H _ := w
  refine lv_goto (tgt := 32) C.1 C.2.1 dX4_rangePut_26 (by decide) ?_
  exact x_iret C w hr (fun _ => 0) rfl rfl dX4_rangePut_32 (Nat.le_of_ble_eq_true rfl) (Nat.le_of_ble_eq_true rfl)
set_option maxHeartbeats 4000000 in
set_option maxRecDepth 100000 in
theorem c366_L_rangePut (l : Launch) (G : va_G) (cy : Nat → ClassId) (sa : String → Nat → Nat) (sv : Nat → Nat) (h0 h1 h2 h3 h4 h5 h6 h7 h8 h9 h10 h11 h12 h13 h14 h15 h16 h17 h18 h19 : Nat) (v0 v1 v2 v3 : Int32) (p0 : ¬ v3 < (-999)) (p1 : v3 ≤ 999) (p2 : ¬ v2 < v0) (p3 : ¬ v1 < v2) (p4 : ¬ (-1000) = v3) : xM l G cy sa sv yL_rangePut (Cond.codeWith yL_rangePut cL_rangePut 7 (some .int) [(0, 15, 18, 19), (0, 15, 22, 21)] :: XG) { frames := 15, cells := 0, slots := 0, locals := 408 } [.ref h0, .int v0, .int v1, .int v2, .int v3, .ref h1] [(h0, .inr (8, [.ref h2, .ref h12, .ref h4, .ref h16, .ref h17, .int 0, .ref h18, .ref h19])), (h2, .inr (7, [.ref h3, .ref h10])), (h3, .inr (6, [.ref h9, .int 0])), (h4, .inr (5, [.ref h5, .ref h7, .ref h14, .int 0])), (h5, .inr (6, [.ref h6, .int 0])), (h6, .inl (cy 1, 624, .inl (fun _ => 0))), (h7, .inr (6, [.ref h8, .int 0])), (h8, .inl (cy 1, 624, .inl (fun _ => 0))), (h9, .inl (cy 1, 24, .inl (fun _ => 0))), (h10, .inr (6, [.ref h11, .int 0])), (h11, .inl (cy 1, 24, .inl (fun _ => 0))), (h12, .inr (6, [.ref h13, .int 0])), (h13, .inl (cy 1, 24, .inl (fun _ => 0))), (h14, .inr (6, [.ref h15, .int 0])), (h15, .inl (cy 1, 12, .inl (fun _ => 0))), (h1, .inr (9, [.long 0, .null]))] (xQi G (fun f => [(h0, .inr (8, [.ref h2, .ref h12, .ref h4, .ref h16, .ref h17, .int 0, .ref h18, .ref h19])), (h2, .inr (7, [.ref h3, .ref h10])), (h3, .inr (6, [.ref h9, .int 1])), (h4, .inr (5, [.ref h5, .ref h7, .ref h14, .int 0])), (h5, .inr (6, [.ref h6, .int 1])), (h6, .inl (cy 1, 624, .inl (upd (fun _ => 0) 0 v2))), (h7, .inr (6, [.ref h8, .int 1])), (h8, .inl (cy 1, 624, .inl (upd (fun _ => 0) 0 (-1000)))), (h9, .inl (cy 1, 24, .inl (upd (fun _ => 0) 0 v2))), (h10, .inr (6, [.ref h11, .int 1])), (h11, .inl (cy 1, 24, .inl (upd (fun _ => 0) 0 v3))), (h12, .inr (6, [.ref h13, .int 1])), (h13, .inl (cy 1, 24, .inl (upd (fun _ => 0) 0 v2))), (h14, .inr (6, [.ref h15, .int 1])), (h15, .inl (cy 1, 12, .inl (upd (fun _ => 0) 0 1))), (h1, .inr (9, [.long (-1000), .null]))]) 0) := by
  refine xofH (by decide) (Nat.le_of_ble_eq_true rfl) (fun p e s m below meth c A C w hr hn hT ls hl => ?_)
  have hl : lv_has ls 7 [(0, .ref h0), (1, .int v0), (2, .int v1), (3, .int v2), (4, .int v3), (5, .ref h1)] := hl
  refine lv_aload C.1 C.2.1 dL_rangePut_0 (lv_at hl 5 rfl) ?_
  refine lv_aload_n C.1 C.2.1 dL_rangePut_2 rfl (lv_at hl 0 rfl) ?_
  refine lv_iload_n C.1 C.2.1 dL_rangePut_3 rfl (lv_at hl 1 rfl) ?_
  refine lv_iload_n C.1 C.2.1 dL_rangePut_4 rfl (lv_at hl 2 rfl) ?_
  refine lv_iload_n C.1 C.2.1 dL_rangePut_5 rfl (lv_at hl 3 rfl) ?_
  refine lv_iload C.1 C.2.1 dL_rangePut_6 (lv_at hl 4 rfl) ?_
  refine x_ki C w [0, 1, 2, 3, 4, 5, 6, 7, 8, 9, 10, 11, 12, 13, 14] [15] rfl rfl (by decide) (by decide) (va_runV (As := [.int v0, .int v1, .int v2, .int v3]) (rest := [.ref h1]) (xfix C) (c365_X4_rangePut l G cy sa sv h0 h2 h3 h4 h5 h6 h7 h8 h9 h10 h11 h12 h13 h14 h15 h16 h17 h18 h19 v0 v1 v2 v3 p0 p1 p2 p3 p4 (xtr C) _) (cwV 4 (xhts C) (xgV (maxL := 0) (cc := ⟨#[]⟩) (ret := none) gw_694 gw_695 gw_696 gw_2 gc_X4_rangePut) rfl rfl rfl (by decide +kernel) ⟨(Nat.le_of_ble_eq_true rfl), (Nat.le_of_ble_eq_true rfl)⟩) (xPV C w [0, 1, 2, 3, 4, 5, 6, 7, 8, 9, 10, 11, 12, 13, 14] rfl (by decide) (ci := 8) (q0 := 0) rfl rfl) rfl rfl hl.1 rfl (lv_room (Nat.le_of_ble_eq_true rfl)) dL_rangePut_8 ⟨(Nat.le_of_ble_eq_true rfl), (Nat.le_of_ble_eq_true rfl)⟩) (fun f2166 H locs w => ?_)
  have w : xW G A s [(h1, .inr (9, [.long 0, .null])), (h0, .inr (8, [.ref h2, .ref h12, .ref h4, .ref h16, .ref h17, .int 0, .ref h18, .ref h19])), (h2, .inr (7, [.ref h3, .ref h10])), (h3, .inr (6, [.ref h9, .int 1])), (h4, .inr (5, [.ref h5, .ref h7, .ref h14, .int 0])), (h5, .inr (6, [.ref h6, .int 1])), (h6, .inl (cy 1, 624, .inl (upd (fun _ => 0) 0 v2))), (h7, .inr (6, [.ref h8, .int 1])), (h8, .inl (cy 1, 624, .inl (upd (fun _ => 0) 0 (-1000)))), (h9, .inl (cy 1, 24, .inl (upd (fun _ => 0) 0 v2))), (h10, .inr (6, [.ref h11, .int 1])), (h11, .inl (cy 1, 24, .inl (upd (fun _ => 0) 0 v3))), (h12, .inr (6, [.ref h13, .int 1])), (h13, .inl (cy 1, 24, .inl (upd (fun _ => 0) 0 v2))), (h14, .inr (6, [.ref h15, .int 1])), (h15, .inl (cy 1, 12, .inl (upd (fun _ => 0) 0 1)))] H _ := w
  refine lv_i2l (v := (-1000)) C.1 C.2.1 dL_rangePut_11 (by decide) ?_
  refine x_putN (ty := .long) (ty0 := tyX5) C w 0 9 0 (xin_X5 _) tyX5_ok nmX5 rfl rfl (by decide) (xs_f_n (xS C)) rfl rfl (by decide +kernel) rfl rfl (Nat.le_of_ble_eq_true rfl) dL_rangePut_12 (fun H locs w => ?_)
  have w : xW G A s [(h1, .inr (9, [.long (-1000), .null])), (h0, .inr (8, [.ref h2, .ref h12, .ref h4, .ref h16, .ref h17, .int 0, .ref h18, .ref h19])), (h2, .inr (7, [.ref h3, .ref h10])), (h3, .inr (6, [.ref h9, .int 1])), (h4, .inr (5, [.ref h5, .ref h7, .ref h14, .int 0])), (h5, .inr (6, [.ref h6, .int 1])), (h6, .inl (cy 1, 624, .inl (upd (fun _ => 0) 0 v2))), (h7, .inr (6, [.ref h8, .int 1])), (h8, .inl (cy 1, 624, .inl (upd (fun _ => 0) 0 (-1000)))), (h9, .inl (cy 1, 24, .inl (upd (fun _ => 0) 0 v2))), (h10, .inr (6, [.ref h11, .int 1])), (h11, .inl (cy 1, 24, .inl (upd (fun _ => 0) 0 v3))), (h12, .inr (6, [.ref h13, .int 1])), (h13, .inl (cy 1, 24, .inl (upd (fun _ => 0) 0 v2))), (h14, .inr (6, [.ref h15, .int 1])), (h15, .inl (cy 1, 12, .inl (upd (fun _ => 0) 0 1)))] H _ := w
  refine lv_goto (tgt := 26) C.1 C.2.1 dL_rangePut_15 (by decide) ?_
  refine lv_iconst (v := 0) C.1 C.2.1 dL_rangePut_26 (by decide) ?_
  have w := w.sub (ws' := [(h0, .inr (8, [.ref h2, .ref h12, .ref h4, .ref h16, .ref h17, .int 0, .ref h18, .ref h19])), (h2, .inr (7, [.ref h3, .ref h10])), (h3, .inr (6, [.ref h9, .int 1])), (h4, .inr (5, [.ref h5, .ref h7, .ref h14, .int 0])), (h5, .inr (6, [.ref h6, .int 1])), (h6, .inl (cy 1, 624, .inl (upd (fun _ => 0) 0 v2))), (h7, .inr (6, [.ref h8, .int 1])), (h8, .inl (cy 1, 624, .inl (upd (fun _ => 0) 0 (-1000)))), (h9, .inl (cy 1, 24, .inl (upd (fun _ => 0) 0 v2))), (h10, .inr (6, [.ref h11, .int 1])), (h11, .inl (cy 1, 24, .inl (upd (fun _ => 0) 0 v3))), (h12, .inr (6, [.ref h13, .int 1])), (h13, .inl (cy 1, 24, .inl (upd (fun _ => 0) 0 v2))), (h14, .inr (6, [.ref h15, .int 1])), (h15, .inl (cy 1, 12, .inl (upd (fun _ => 0) 0 1))), (h1, .inr (9, [.long (-1000), .null]))]) [1, 2, 3, 4, 5, 6, 7, 8, 9, 10, 11, 12, 13, 14, 15, 0] (by decide) rfl rfl
  exact x_iret C w hr (fun _ => 0) rfl rfl dL_rangePut_27 (Nat.le_of_ble_eq_true rfl) (Nat.le_of_ble_eq_true rfl)
set_option maxHeartbeats 4000000 in
set_option maxRecDepth 100000 in
theorem c367_X6_rangePut (l : Launch) (G : va_G) (cy : Nat → ClassId) (sa : String → Nat → Nat) (sv : Nat → Nat) (h0 h1 h2 h3 h4 h5 h6 h7 : Nat) (v0 v1 v2 v3 : Int32) (p0 : ¬ v3 < (-999)) (p1 : v3 ≤ 999) (p2 : ¬ v2 < v0) (p3 : v2 ≤ v1) (p4 : ¬ (-1000) = v3) : xM l G cy sa sv yX6_rangePut (Cond.code yX6_rangePut cX6_rangePut 5 (some .int) :: XG) { frames := 15, cells := 6, slots := 37, locals := 406 } [.ref h0, .int v0, .int v1, .int v2, .int v3] [(h0, .inr (10, [.ref h1, .ref h4, .ref h3, .ref h2, .ref h5, .ref h6, .ref h7, .int 0, .int 0])), (h1, .inr (3, [.int 0, .ref (sv 0), .int 0])), (h2, .inr (3, [.int 0, .ref (sv 0), .int 0])), (h3, .inr (3, [.int 0, .ref (sv 0), .int 0]))] (xQi G (fun f => [(h0, .inr (10, [.ref h1, .ref h4, .ref h3, .ref (f 5), .ref h5, .ref h6, .ref h7, .int 0, .int 0])), (h1, .inr (3, [.int 1, .ref (f 3), .int 1])), (h2, .inr (3, [.int 1, .ref (f 1), .int 1])), (h3, .inr (3, [.int 1, .ref (f 4), .int 1])), ((f 0), .inl (cy 1, 2, .inl (upd (upd (fun _ => 0) 0 v2) 1 (-1000)))), ((f 1), .inl (cy 4, 10, .inr (.inr (.inr (.inr (va_up (fun _ => none) 0 (some (f 0)))))))), ((f 2), .inl (cy 1, 2, .inl (upd (upd (fun _ => 0) 0 v2) 1 v3))), ((f 3), .inl (cy 4, 10, .inr (.inr (.inr (.inr (va_up (fun _ => none) 0 (some (f 2)))))))), ((f 4), .inl (cy 4, 10, .inr (.inr (.inr (.inr (va_up (fun _ => none) 0 (some h2))))))), ((f 5), .inr (3, [.int 0, .ref (sv 0), .int 0]))]) (-1000)) := by
  refine xof (by decide) (Nat.le_of_ble_eq_true rfl) (fun p e s m below meth c A C w hr hn ls hl => ?_)
  have hl : lv_has ls 5 [(0, .ref h0), (1, .int v0), (2, .int v1), (3, .int v2), (4, .int v3)] := hl
  refine lv_aload_n C.1 C.2.1 dX6_rangePut_0 rfl (lv_at hl 0 rfl) ?_
  refine lv_iload C.1 C.2.1 dX6_rangePut_1 (lv_at hl 4 rfl) ?_
  refine x_ki C w [] [0, 1, 2, 3] rfl rfl (by decide) (by decide) (va_runS (As := [.int v3]) (rest := [.ref h0]) (xfix C) (c45_X6_isNoValue l G cy sa sv v3 p0 p1 (xtr C) _) (va_cwS 1 (xhts C) (xgS gw_110 gw_111 gw_58 gc_X6_isNoValue) rfl rfl rfl (by decide +kernel) ⟨(Nat.le_of_ble_eq_true rfl), (Nat.le_of_ble_eq_true rfl)⟩) (xPS C w [] rfl (by decide)) rfl rfl hl.1 rfl (lv_room (Nat.le_of_ble_eq_true rfl)) dX6_rangePut_3 ⟨(Nat.le_of_ble_eq_true rfl), (Nat.le_of_ble_eq_true rfl)⟩) (fun f2180 H locs w => ?_)
  have w : xW G A s [(h0, .inr (10, [.ref h1, .ref h4, .ref h3, .ref h2, .ref h5, .ref h6, .ref h7, .int 0, .int 0])), (h1, .inr (3, [.int 0, .ref (sv 0), .int 0])), (h2, .inr (3, [.int 0, .ref (sv 0), .int 0])), (h3, .inr (3, [.int 0, .ref (sv 0), .int 0]))] H _ := w
  refine lv_iconst (v := 1) C.1 C.2.1 dX6_rangePut_6 (by decide) ?_
  refine x_ki C w [0] [1, 2, 3] rfl rfl (by decide) (by decide) (va_runV (As := [.int 0, .int 1]) (rest := []) (xfix C) (c46_X6_start l G cy sa sv h0 h1 h4 h3 h2 h5 h6 h7 (xtr C) _) (cwV 2 (xhts C) (xgV (maxL := 0) (cc := ⟨#[]⟩) (ret := none) gw_114 gw_115 gw_116 gw_58 gc_X6_start) rfl rfl rfl (by decide +kernel) ⟨(Nat.le_of_ble_eq_true rfl), (Nat.le_of_ble_eq_true rfl)⟩) (xPV C w [0] rfl (by decide) (ci := 10) (q0 := 0) rfl rfl) rfl rfl hl.1 rfl (lv_room (Nat.le_of_ble_eq_true rfl)) dX6_rangePut_7 ⟨(Nat.le_of_ble_eq_true rfl), (Nat.le_of_ble_eq_true rfl)⟩) (fun f2181 H locs w => ?_)
  have w : xW G A s [(h1, .inr (3, [.int 0, .ref (sv 0), .int 0])), (h2, .inr (3, [.int 0, .ref (sv 0), .int 0])), (h3, .inr (3, [.int 0, .ref (sv 0), .int 0])), (h0, .inr (10, [.ref h1, .ref h4, .ref h3, .ref h2, .ref h5, .ref h6, .ref h7, .int 0, .int 0]))] H _ := w
  refine lv_if_ne (tgt := 26) C.1 C.2.1 dX6_rangePut_10 (by decide) (fun c9 => absurd (by decide) c9) (fun _ => ?_)
  refine lv_aload_n C.1 C.2.1 dX6_rangePut_13 rfl (lv_at hl 0 rfl) ?_
  refine lv_aload_n C.1 C.2.1 dX6_rangePut_14 rfl (lv_at hl 0 rfl) ?_
  refine lv_iload_n C.1 C.2.1 dX6_rangePut_15 rfl (lv_at hl 3 rfl) ?_
  refine x_ki C w [3, 0] [1, 2] rfl rfl (by decide) (by decide) (va_runV (As := [.int v2]) (rest := [.ref h0]) (xfix C) (c48_X6_isFull l G cy sa sv h0 h1 h4 h3 h2 h5 h6 h7 v2 (xtr C) _) (cwV 1 (xhts C) (xgV (maxL := 0) (cc := ⟨#[]⟩) (ret := none) gw_199 gw_200 gw_201 gw_58 gc_X6_isFull) rfl rfl rfl (by decide +kernel) ⟨(Nat.le_of_ble_eq_true rfl), (Nat.le_of_ble_eq_true rfl)⟩) (xPV C w [3, 0] rfl (by decide) (ci := 10) (q0 := 3) rfl rfl) rfl rfl hl.1 rfl (lv_room (Nat.le_of_ble_eq_true rfl)) dX6_rangePut_16 ⟨(Nat.le_of_ble_eq_true rfl), (Nat.le_of_ble_eq_true rfl)⟩) (fun f2183 H locs w => ?_)
  have w : xW G A s [(h2, .inr (3, [.int 0, .ref (sv 0), .int 0])), (h3, .inr (3, [.int 0, .ref (sv 0), .int 0])), (h0, .inr (10, [.ref h1, .ref h4, .ref h3, .ref h2, .ref h5, .ref h6, .ref h7, .int 0, .int 0])), (h1, .inr (3, [.int 0, .ref (sv 0), .int 0]))] H _ := w
  refine lv_iconst (v := 2) C.1 C.2.1 dX6_rangePut_19 (by decide) ?_
  refine x_ki C w [] [0, 1, 2, 3] rfl rfl (by decide) (by decide) (va_runV (As := [.int 0, .int 2]) (rest := []) (xfix C) (c49_X6_fails l G cy sa sv h0 (xtr C) _) (cwV 2 (xhts C) (xgV (maxL := 0) (cc := ⟨#[]⟩) (ret := none) gw_203 gw_204 gw_205 gw_58 gc_X6_fails) rfl rfl rfl (by decide +kernel) ⟨(Nat.le_of_ble_eq_true rfl), (Nat.le_of_ble_eq_true rfl)⟩) (xPV C w [] rfl (by decide) (ci := 10) (q0 := 2) rfl rfl) rfl rfl hl.1 rfl (lv_room (Nat.le_of_ble_eq_true rfl)) dX6_rangePut_20 ⟨(Nat.le_of_ble_eq_true rfl), (Nat.le_of_ble_eq_true rfl)⟩) (fun f2184 H locs w => ?_)
  have w : xW G A s [(h2, .inr (3, [.int 0, .ref (sv 0), .int 0])), (h3, .inr (3, [.int 0, .ref (sv 0), .int 0])), (h0, .inr (10, [.ref h1, .ref h4, .ref h3, .ref h2, .ref h5, .ref h6, .ref h7, .int 0, .int 0])), (h1, .inr (3, [.int 0, .ref (sv 0), .int 0]))] H _ := w
  refine lv_if_eq (tgt := 28) C.1 C.2.1 dX6_rangePut_23 (by decide) (fun _ => ?_) (fun c9 => absurd (by decide) c9)
  refine lv_iload_n C.1 C.2.1 dX6_rangePut_28 rfl (lv_at hl 3 rfl) ?_
  refine lv_iload_n C.1 C.2.1 dX6_rangePut_29 rfl (lv_at hl 1 rfl) ?_
  refine lv_icmp_lt (tgt := 38) C.1 C.2.1 dX6_rangePut_30 (by decide) (fun c9 => absurd c9 p2) (fun _ => ?_)
  refine lv_iload_n C.1 C.2.1 dX6_rangePut_33 rfl (lv_at hl 3 rfl) ?_
  refine lv_iload_n C.1 C.2.1 dX6_rangePut_34 rfl (lv_at hl 2 rfl) ?_
  refine lv_icmp_le (tgt := 44) C.1 C.2.1 dX6_rangePut_35 (by decide) (fun _ => ?_) (fun c9 => absurd p3 c9)
  refine lv_aload_n C.1 C.2.1 dX6_rangePut_44 rfl (lv_at hl 0 rfl) ?_
  refine lv_iload_n C.1 C.2.1 dX6_rangePut_45 rfl (lv_at hl 3 rfl) ?_
  refine lv_iload C.1 C.2.1 dX6_rangePut_46 (lv_at hl 4 rfl) ?_
  refine x_ki C w [2, 3, 0, 1] [] rfl rfl (by decide) (by decide) (va_runV (As := [.int v2, .int v3]) (rest := []) (xfix C) (c64_X6_putNow l G cy sa sv h0 h1 h2 h3 h4 h5 h6 h7 v2 v3 p4 (xtr C) _) (cwV 2 (xhts C) (xgV (maxL := 0) (cc := ⟨#[]⟩) (ret := none) gw_248 gw_249 gw_250 gw_58 gc_X6_putNow) rfl rfl rfl (by decide +kernel) ⟨(Nat.le_of_ble_eq_true rfl), (Nat.le_of_ble_eq_true rfl)⟩) (xPV C w [2, 3, 0, 1] rfl (by decide) (ci := 10) (q0 := 2) rfl rfl) rfl rfl hl.1 rfl (lv_room (Nat.le_of_ble_eq_true rfl)) dX6_rangePut_48 ⟨(Nat.le_of_ble_eq_true rfl), (Nat.le_of_ble_eq_true rfl)⟩) (fun f2297 H locs w => ?_)
  have w : xW G A s [(h0, .inr (10, [.ref h1, .ref h4, .ref h3, .ref (f2297 5), .ref h5, .ref h6, .ref h7, .int 0, .int 0])), (h1, .inr (3, [.int 1, .ref (f2297 3), .int 1])), (h2, .inr (3, [.int 1, .ref (f2297 1), .int 1])), (h3, .inr (3, [.int 1, .ref (f2297 4), .int 1])), ((f2297 0), .inl (cy 1, 2, .inl (upd (upd (fun _ => 0) 0 v2) 1 (-1000)))), ((f2297 1), .inl (cy 4, 10, .inr (.inr (.inr (.inr (va_up (fun _ => none) 0 (some (f2297 0)))))))), ((f2297 2), .inl (cy 1, 2, .inl (upd (upd (fun _ => 0) 0 v2) 1 v3))), ((f2297 3), .inl (cy 4, 10, .inr (.inr (.inr (.inr (va_up (fun _ => none) 0 (some (f2297 2)))))))), ((f2297 4), .inl (cy 4, 10, .inr (.inr (.inr (.inr (va_up (fun _ => none) 0 (some h2))))))), ((f2297 5), .inr (3, [.int 0, .ref (sv 0), .int 0]))] H _ := w
  refine W.widen (k := 6) (n := 37) (Nat.le_of_ble_eq_true rfl) (Nat.le_of_ble_eq_true rfl) ?_
  exact x_iret C w hr (fun k => match k with | 0 => (f2297 0) | 1 => (f2297 1) | 2 => (f2297 2) | 3 => (f2297 3) | 4 => (f2297 4) | 5 => (f2297 5) | _ => 0) rfl rfl dX6_rangePut_51 (Nat.le_of_ble_eq_true rfl) (Nat.le_of_ble_eq_true rfl)
set_option maxHeartbeats 4000000 in
set_option maxRecDepth 100000 in
theorem c368_X4_rangePut (l : Launch) (G : va_G) (cy : Nat → ClassId) (sa : String → Nat → Nat) (sv : Nat → Nat) (h0 : Nat) (v0 v1 v2 v3 : Int32) (p0 : ¬ v3 < (-999)) (p1 : ¬ v3 ≤ 999) : xX l G cy sa sv yX4_rangePut (Cond.code yX4_rangePut cX4_rangePut 5 (some .int) :: XG) { frames := 9, cells := 1, slots := 6, locals := 270 } [.ref h0, .int v0, .int v1, .int v2, .int v3] [] (fun f => []) "java/lang/IllegalArgumentException" := by
  refine xofX (by decide) (Nat.le_of_ble_eq_true rfl) (fun p e s m below meth c A C w hno ls hl => ?_)
  have hl : lv_has ls 5 [(0, .ref h0), (1, .int v0), (2, .int v1), (3, .int v2), (4, .int v3)] := hl
  refine lv_iload C.1 C.2.1 dX4_rangePut_0 (lv_at hl 4 rfl) ?_
  refine x_kx C w [] [] rfl rfl (by decide) (by decide) (vx_runS (As := [.int v3]) (rest := []) (xfix C) (c67_X4_checkValue l G cy sa sv v3 p0 p1 (xtr C) _) (va_cwS 1 (xhts C) (xgS gw_98 gw_99 gw_2 gc_X4_checkValue) rfl rfl rfl (by decide +kernel) ⟨(Nat.le_of_ble_eq_true rfl), (Nat.le_of_ble_eq_true rfl)⟩) (xPS C w [] rfl (by decide)) rfl rfl hl.1 rfl (lv_room (Nat.le_of_ble_eq_true rfl)) dX4_rangePut_2 ⟨(Nat.le_of_ble_eq_true rfl), (Nat.le_of_ble_eq_true rfl)⟩) (fun f2309 H locs ce q9 w hce hcv hcl => ?_)
  have w : xW G A s [] H _ := w
  refine vx_widen (k := 1) (n := 6) (Nat.le_of_ble_eq_true rfl) (Nat.le_of_ble_eq_true rfl) ?_
  exact x_out C w hno (fun _ => 0) rfl hce hcv hcl (Nat.le_of_ble_eq_true rfl) (Nat.le_of_ble_eq_true rfl)
set_option maxHeartbeats 4000000 in
set_option maxRecDepth 100000 in
theorem c369_L_rangePut (l : Launch) (G : va_G) (cy : Nat → ClassId) (sa : String → Nat → Nat) (sv : Nat → Nat) (h0 h1 h2 h3 h4 h5 h6 h7 h8 : Nat) (v0 v1 v2 v3 : Int32) (p0 : ¬ v3 < (-999)) (p1 : ¬ v3 ≤ 999) : xM l G cy sa sv yL_rangePut (Cond.codeWith yL_rangePut cL_rangePut 7 (some .int) [(0, 15, 18, 19), (0, 15, 22, 21)] :: XG) { frames := 10, cells := 1, slots := 6, locals := 294 } [.ref h0, .int v0, .int v1, .int v2, .int v3, .ref h1] [(h0, .inr (8, [.ref h2, .ref h3, .ref h4, .ref h5, .ref h6, .int 0, .ref h7, .ref h8]))] (xQi G (fun f => [(h0, .inr (8, [.ref h2, .ref h3, .ref h4, .ref h5, .ref h6, .int 0, .ref h7, .ref h8]))]) 1) := by
  refine xofH (by decide) (Nat.le_of_ble_eq_true rfl) (fun p e s m below meth c A C w hr hn hT ls hl => ?_)
  have hl : lv_has ls 7 [(0, .ref h0), (1, .int v0), (2, .int v1), (3, .int v2), (4, .int v3), (5, .ref h1)] := hl
  refine lv_aload C.1 C.2.1 dL_rangePut_0 (lv_at hl 5 rfl) ?_
  refine lv_aload_n C.1 C.2.1 dL_rangePut_2 rfl (lv_at hl 0 rfl) ?_
  refine lv_iload_n C.1 C.2.1 dL_rangePut_3 rfl (lv_at hl 1 rfl) ?_
  refine lv_iload_n C.1 C.2.1 dL_rangePut_4 rfl (lv_at hl 2 rfl) ?_
  refine lv_iload_n C.1 C.2.1 dL_rangePut_5 rfl (lv_at hl 3 rfl) ?_
  refine lv_iload C.1 C.2.1 dL_rangePut_6 (lv_at hl 4 rfl) ?_
  refine x_kx C w [] [0] rfl rfl (by decide) (by decide) (vx_runV (As := [.int v0, .int v1, .int v2, .int v3]) (rest := [.ref h1]) (xfix C) (c368_X4_rangePut l G cy sa sv h0 v0 v1 v2 v3 p0 p1 (xtr C) _) (cwV 4 (xhts C) (xgV (maxL := 0) (cc := ⟨#[]⟩) (ret := none) gw_694 gw_695 gw_696 gw_2 gc_X4_rangePut) rfl rfl rfl (by decide +kernel) ⟨(Nat.le_of_ble_eq_true rfl), (Nat.le_of_ble_eq_true rfl)⟩) (xPV C w [] rfl (by decide) (ci := 8) (q0 := 0) rfl rfl) rfl rfl hl.1 rfl (lv_room (Nat.le_of_ble_eq_true rfl)) dL_rangePut_8 ⟨(Nat.le_of_ble_eq_true rfl), (Nat.le_of_ble_eq_true rfl)⟩) (fun f2310 H locs ce q9 w hce hcv hcl => ?_)
  have w : xW G A s [(h0, .inr (8, [.ref h2, .ref h3, .ref h4, .ref h5, .ref h6, .int 0, .ref h7, .ref h8]))] H _ := w
  refine vx_widen (k := 1) (n := 6) (Nat.le_of_ble_eq_true rfl) (Nat.le_of_ble_eq_true rfl) ?_
  refine vx_catch (xown C) [] ⟨0, 15, 18, 19⟩ [⟨0, 15, 22, 21⟩] hT (fun z hz => nomatch hz) (by decide) (by decide) (xhts C _ (List.mem_cons_of_mem _ gw_104)) (va_any rfl (xs_c1 (xS C))) hce hcv hcl ?_
  refine lv_astore (lv' := [(6, .ref q9), (0, .ref h0), (1, .int v0), (2, .int v1), (3, .int v2), (4, .int v3), (5, .ref h1)]) C.1 C.2.1 dL_rangePut_18 hl (by decide) rfl (fun ls hl => ?_)
  refine lv_iconst (v := 1) C.1 C.2.1 dL_rangePut_20 (by decide) ?_
  exact x_iret C w hr (fun _ => 0) rfl rfl dL_rangePut_21 (Nat.le_of_ble_eq_true rfl) (Nat.le_of_ble_eq_true rfl)
set_option maxHeartbeats 4000000 in
set_option maxRecDepth 100000 in
theorem c370_X6_rangePut (l : Launch) (G : va_G) (cy : Nat → ClassId) (sa : String → Nat → Nat) (sv : Nat → Nat) (h0 h1 h2 h3 h4 h5 h6 h7 : Nat) (v0 v1 v2 v3 : Int32) (p0 : ¬ v3 < (-999)) (p1 : ¬ v3 ≤ 999) : xM l G cy sa sv yX6_rangePut (Cond.code yX6_rangePut cX6_rangePut 5 (some .int) :: XG) { frames := 9, cells := 0, slots := 0, locals := 272 } [.ref h0, .int v0, .int v1, .int v2, .int v3] [(h0, .inr (10, [.ref h1, .ref h2, .ref h3, .ref h4, .ref h5, .ref h6, .ref h7, .int 0, .int 0]))] (xQi G (fun f => [(h0, .inr (10, [.ref h1, .ref h2, .ref h3, .ref h4, .ref h5, .ref h6, .ref h7, .int 0, .int 1]))]) 0) := by
  refine xof (by decide) (Nat.le_of_ble_eq_true rfl) (fun p e s m below meth c A C w hr hn ls hl => ?_)
  have hl : lv_has ls 5 [(0, .ref h0), (1, .int v0), (2, .int v1), (3, .int v2), (4, .int v3)] := hl
  refine lv_aload_n C.1 C.2.1 dX6_rangePut_0 rfl (lv_at hl 0 rfl) ?_
  refine lv_iload C.1 C.2.1 dX6_rangePut_1 (lv_at hl 4 rfl) ?_
  refine x_ki C w [] [0] rfl rfl (by decide) (by decide) (va_runS (As := [.int v3]) (rest := [.ref h0]) (xfix C) (c70_X6_isNoValue l G cy sa sv v3 p0 p1 (xtr C) _) (va_cwS 1 (xhts C) (xgS gw_110 gw_111 gw_58 gc_X6_isNoValue) rfl rfl rfl (by decide +kernel) ⟨(Nat.le_of_ble_eq_true rfl), (Nat.le_of_ble_eq_true rfl)⟩) (xPS C w [] rfl (by decide)) rfl rfl hl.1 rfl (lv_room (Nat.le_of_ble_eq_true rfl)) dX6_rangePut_3 ⟨(Nat.le_of_ble_eq_true rfl), (Nat.le_of_ble_eq_true rfl)⟩) (fun f2313 H locs w => ?_)
  have w : xW G A s [(h0, .inr (10, [.ref h1, .ref h2, .ref h3, .ref h4, .ref h5, .ref h6, .ref h7, .int 0, .int 0]))] H _ := w
  refine lv_iconst (v := 1) C.1 C.2.1 dX6_rangePut_6 (by decide) ?_
  refine x_ki C w [0] [] rfl rfl (by decide) (by decide) (va_runV (As := [.int 1, .int 1]) (rest := []) (xfix C) (c17_X6_start l G cy sa sv h0 h1 h2 h3 h4 h5 h6 h7 (xtr C) _) (cwV 2 (xhts C) (xgV (maxL := 0) (cc := ⟨#[]⟩) (ret := none) gw_114 gw_115 gw_116 gw_58 gc_X6_start) rfl rfl rfl (by decide +kernel) ⟨(Nat.le_of_ble_eq_true rfl), (Nat.le_of_ble_eq_true rfl)⟩) (xPV C w [0] rfl (by decide) (ci := 10) (q0 := 0) rfl rfl) rfl rfl hl.1 rfl (lv_room (Nat.le_of_ble_eq_true rfl)) dX6_rangePut_7 ⟨(Nat.le_of_ble_eq_true rfl), (Nat.le_of_ble_eq_true rfl)⟩) (fun f2314 H locs w => ?_)
  have w : xW G A s [(h0, .inr (10, [.ref h1, .ref h2, .ref h3, .ref h4, .ref h5, .ref h6, .ref h7, .int 0, .int 1]))] H _ := w
  refine lv_if_ne (tgt := 26) C.1 C.2.1 dX6_rangePut_10 (by decide) (fun _ => ?_) (fun c9 => absurd c9 (by decide))
  refine lv_iconst (v := 0) C.1 C.2.1 dX6_rangePut_26 (by decide) ?_
  exact x_iret C w hr (fun _ => 0) rfl rfl dX6_rangePut_27 (Nat.le_of_ble_eq_true rfl) (Nat.le_of_ble_eq_true rfl)
set_option maxHeartbeats 4000000 in
set_option maxRecDepth 100000 in
theorem c371_X4_rangePoll (l : Launch) (G : va_G) (cy : Nat → ClassId) (sa : String → Nat → Nat) (sv : Nat → Nat) (h0 h1 h2 h3 h4 h5 h6 h7 h8 h9 h10 : Nat) (v0 v1 : Int32) (p0 : v0 ≤ v1) : xX l G cy sa sv yX4_rangePoll (Cond.code yX4_rangePoll cX4_rangePoll 5 (some .int) :: XG) { frames := 13, cells := 1, slots := 6, locals := 359 } [.ref h0, .int v0, .int v1, .int 0] [(h0, .inr (8, [.ref h1, .ref h3, .ref h4, .ref h5, .ref h6, .int 0, .ref h7, .ref h8])), (h1, .inr (7, [.ref h2, .ref h9])), (h2, .inr (6, [.ref h10, .int 0]))] (fun f => [(h0, .inr (8, [.ref h1, .ref h3, .ref h4, .ref h5, .ref h6, .int 0, .ref h7, .ref h8])), (h1, .inr (7, [.ref h2, .ref h9])), (h2, .inr (6, [.ref h10, .int 0]))]) "java/lang/IllegalStateException" := by
  refine xofX (by decide) (Nat.le_of_ble_eq_true rfl) (fun p e s m below meth c A C w hno ls hl => ?_)
  have hl : lv_has ls 5 [(0, .ref h0), (1, .int v0), (2, .int v1), (3, .int 0)] := hl
  refine lv_aload_n C.1 C.2.1 dX4_rangePoll_0 rfl (lv_at hl 0 rfl) ?_
  refine lv_iload_n C.1 C.2.1 dX4_rangePoll_1 rfl (lv_at hl 1 rfl) ?_
  refine lv_iload_n C.1 C.2.1 dX4_rangePoll_2 rfl (lv_at hl 2 rfl) ?_
  refine lv_iload_n C.1 C.2.1 dX4_rangePoll_3 rfl (lv_at hl 3 rfl) ?_
  refine x_kx C w [0, 1, 2] [] rfl rfl (by decide) (by decide) (vx_runV (As := [.int v0, .int v1, .int 0]) (rest := []) (xfix C) (c303_X4_rangeEnd l G cy sa sv h0 h1 h2 h3 h4 h5 h6 h7 h8 h9 h10 v0 v1 p0 (xtr C) _) (cwV 3 (xhts C) (xgV (maxL := 0) (cc := ⟨#[]⟩) (ret := none) gw_400 gw_401 gw_402 gw_2 gc_X4_rangeEnd) rfl rfl rfl (by decide +kernel) ⟨(Nat.le_of_ble_eq_true rfl), (Nat.le_of_ble_eq_true rfl)⟩) (xPV C w [0, 1, 2] rfl (by decide) (ci := 8) (q0 := 0) rfl rfl) rfl rfl hl.1 rfl (lv_room (Nat.le_of_ble_eq_true rfl)) dX4_rangePoll_4 ⟨(Nat.le_of_ble_eq_true rfl), (Nat.le_of_ble_eq_true rfl)⟩) (fun f2334 H locs ce q9 w hce hcv hcl => ?_)
  have w : xW G A s [(h0, .inr (8, [.ref h1, .ref h3, .ref h4, .ref h5, .ref h6, .int 0, .ref h7, .ref h8])), (h1, .inr (7, [.ref h2, .ref h9])), (h2, .inr (6, [.ref h10, .int 0]))] H _ := w
  refine vx_widen (k := 1) (n := 6) (Nat.le_of_ble_eq_true rfl) (Nat.le_of_ble_eq_true rfl) ?_
  exact x_out C w hno (fun _ => 0) rfl hce hcv hcl (Nat.le_of_ble_eq_true rfl) (Nat.le_of_ble_eq_true rfl)
set_option maxHeartbeats 4000000 in
set_option maxRecDepth 100000 in
theorem c372_L_rangePoll (l : Launch) (G : va_G) (cy : Nat → ClassId) (sa : String → Nat → Nat) (sv : Nat → Nat) (h0 h1 h2 h3 h4 h5 h6 h7 h8 h9 h10 h11 : Nat) (v0 v1 : Int32) (p0 : v0 ≤ v1) : xM l G cy sa sv yL_rangePoll (Cond.codeWith yL_rangePoll cL_rangePoll 6 (some .int) [(0, 13, 16, 19), (0, 13, 20, 21)] :: XG) { frames := 14, cells := 1, slots := 6, locals := 383 } [.ref h0, .int v0, .int v1, .int 0, .ref h1] [(h0, .inr (8, [.ref h2, .ref h4, .ref h5, .ref h6, .ref h7, .int 0, .ref h8, .ref h9])), (h2, .inr (7, [.ref h3, .ref h10])), (h3, .inr (6, [.ref h11, .int 0]))] (xQi G (fun f => [(h0, .inr (8, [.ref h2, .ref h4, .ref h5, .ref h6, .ref h7, .int 0, .ref h8, .ref h9])), (h2, .inr (7, [.ref h3, .ref h10])), (h3, .inr (6, [.ref h11, .int 0]))]) 2) := by
  refine xofH (by decide) (Nat.le_of_ble_eq_true rfl) (fun p e s m below meth c A C w hr hn hT ls hl => ?_)
  have hl : lv_has ls 6 [(0, .ref h0), (1, .int v0), (2, .int v1), (3, .int 0), (4, .ref h1)] := hl
  refine lv_aload C.1 C.2.1 dL_rangePoll_0 (lv_at hl 4 rfl) ?_
  refine lv_aload_n C.1 C.2.1 dL_rangePoll_2 rfl (lv_at hl 0 rfl) ?_
  refine lv_iload_n C.1 C.2.1 dL_rangePoll_3 rfl (lv_at hl 1 rfl) ?_
  refine lv_iload_n C.1 C.2.1 dL_rangePoll_4 rfl (lv_at hl 2 rfl) ?_
  refine lv_iload_n C.1 C.2.1 dL_rangePoll_5 rfl (lv_at hl 3 rfl) ?_
  refine x_kx C w [0, 1, 2] [] rfl rfl (by decide) (by decide) (vx_runV (As := [.int v0, .int v1, .int 0]) (rest := [.ref h1]) (xfix C) (c371_X4_rangePoll l G cy sa sv h0 h2 h3 h4 h5 h6 h7 h8 h9 h10 h11 v0 v1 p0 (xtr C) _) (cwV 3 (xhts C) (xgV (maxL := 0) (cc := ⟨#[]⟩) (ret := none) gw_706 gw_462 gw_463 gw_2 gc_X4_rangePoll) rfl rfl rfl (by decide +kernel) ⟨(Nat.le_of_ble_eq_true rfl), (Nat.le_of_ble_eq_true rfl)⟩) (xPV C w [0, 1, 2] rfl (by decide) (ci := 8) (q0 := 0) rfl rfl) rfl rfl hl.1 rfl (lv_room (Nat.le_of_ble_eq_true rfl)) dL_rangePoll_6 ⟨(Nat.le_of_ble_eq_true rfl), (Nat.le_of_ble_eq_true rfl)⟩) (fun f2335 H locs ce q9 w hce hcv hcl => ?_)
  have w : xW G A s [(h0, .inr (8, [.ref h2, .ref h4, .ref h5, .ref h6, .ref h7, .int 0, .ref h8, .ref h9])), (h2, .inr (7, [.ref h3, .ref h10])), (h3, .inr (6, [.ref h11, .int 0]))] H _ := w
  refine vx_widen (k := 1) (n := 6) (Nat.le_of_ble_eq_true rfl) (Nat.le_of_ble_eq_true rfl) ?_
  refine vx_catch (xown C) [⟨0, 13, 16, 19⟩] ⟨0, 13, 20, 21⟩ [] hT (fun z hz => Or.inr (by cases List.mem_singleton.mp hz; exact ⟨by decide, "java/lang/IllegalArgumentException", xhts C _ (List.mem_cons_of_mem _ gw_104), xs_n1 (xS C)⟩)) (by decide) (by decide) (xhts C _ (List.mem_cons_of_mem _ gw_407)) (va_any rfl (xs_c2 (xS C))) hce hcv hcl ?_
  refine lv_astore (lv' := [(5, .ref q9), (0, .ref h0), (1, .int v0), (2, .int v1), (3, .int 0), (4, .ref h1)]) C.1 C.2.1 dL_rangePoll_20 hl (by decide) rfl (fun ls hl => ?_)
  refine lv_iconst (v := 2) C.1 C.2.1 dL_rangePoll_22 (by decide) ?_
  exact x_iret C w hr (fun _ => 0) rfl rfl dL_rangePoll_23 (Nat.le_of_ble_eq_true rfl) (Nat.le_of_ble_eq_true rfl)
set_option maxHeartbeats 4000000 in
set_option maxRecDepth 100000 in
theorem c373_X6_rangePoll (l : Launch) (G : va_G) (cy : Nat → ClassId) (sa : String → Nat → Nat) (sv : Nat → Nat) (h0 h1 h2 h3 h4 h5 h6 h7 : Nat) (v0 v1 : Int32) (p0 : v0 ≤ v1) : xM l G cy sa sv yX6_rangePoll (Cond.code yX6_rangePoll cX6_rangePoll 4 (some .int) :: XG) { frames := 12, cells := 1, slots := 3, locals := 334 } [.ref h0, .int v0, .int v1, .int 0] [(h0, .inr (10, [.ref h1, .ref h2, .ref h3, .ref h4, .ref h5, .ref h6, .ref h7, .int 0, .int 0])), (h1, .inr (3, [.int 0, .ref (sv 0), .int 0]))] (xQi G (fun f => [(h0, .inr (10, [.ref h1, .ref h2, .ref h3, .ref h4, .ref h5, .ref h6, .ref h7, .int 0, .int 2])), (h1, .inr (3, [.int 0, .ref (sv 0), .int 0]))]) 0) := by
  refine xof (by decide) (Nat.le_of_ble_eq_true rfl) (fun p e s m below meth c A C w hr hn ls hl => ?_)
  have hl : lv_has ls 4 [(0, .ref h0), (1, .int v0), (2, .int v1), (3, .int 0)] := hl
  refine lv_aload_n C.1 C.2.1 dX6_rangePoll_0 rfl (lv_at hl 0 rfl) ?_
  refine lv_iload_n C.1 C.2.1 dX6_rangePoll_1 rfl (lv_at hl 1 rfl) ?_
  refine lv_iload_n C.1 C.2.1 dX6_rangePoll_2 rfl (lv_at hl 2 rfl) ?_
  refine lv_icmp_le (tgt := 10) C.1 C.2.1 dX6_rangePoll_3 (by decide) (fun _ => ?_) (fun c9 => absurd p0 c9)
  refine lv_iconst (v := 0) C.1 C.2.1 dX6_rangePoll_10 (by decide) ?_
  refine lv_iconst (v := 1) C.1 C.2.1 dX6_rangePoll_11 (by decide) ?_
  refine x_ki C w [0] [1] rfl rfl (by decide) (by decide) (va_runV (As := [.int 0, .int 1]) (rest := []) (xfix C) (c46_X6_start l G cy sa sv h0 h1 h2 h3 h4 h5 h6 h7 (xtr C) _) (cwV 2 (xhts C) (xgV (maxL := 0) (cc := ⟨#[]⟩) (ret := none) gw_114 gw_115 gw_116 gw_58 gc_X6_start) rfl rfl rfl (by decide +kernel) ⟨(Nat.le_of_ble_eq_true rfl), (Nat.le_of_ble_eq_true rfl)⟩) (xPV C w [0] rfl (by decide) (ci := 10) (q0 := 0) rfl rfl) rfl rfl hl.1 rfl (lv_room (Nat.le_of_ble_eq_true rfl)) dX6_rangePoll_12 ⟨(Nat.le_of_ble_eq_true rfl), (Nat.le_of_ble_eq_true rfl)⟩) (fun f2340 H locs w => ?_)
  have w : xW G A s [(h1, .inr (3, [.int 0, .ref (sv 0), .int 0])), (h0, .inr (10, [.ref h1, .ref h2, .ref h3, .ref h4, .ref h5, .ref h6, .ref h7, .int 0, .int 0]))] H _ := w
  refine lv_if_ne (tgt := 43) C.1 C.2.1 dX6_rangePoll_15 (by decide) (fun c9 => absurd (by decide) c9) (fun _ => ?_)
  refine lv_aload_n C.1 C.2.1 dX6_rangePoll_18 rfl (lv_at hl 0 rfl) ?_
  refine lv_aload_n C.1 C.2.1 dX6_rangePoll_19 rfl (lv_at hl 0 rfl) ?_
  refine lv_iload_n C.1 C.2.1 dX6_rangePoll_20 rfl (lv_at hl 1 rfl) ?_
  refine lv_iload_n C.1 C.2.1 dX6_rangePoll_21 rfl (lv_at hl 2 rfl) ?_
  refine x_kr C w [1, 0] [] rfl rfl (by decide) (by decide) (va_runV (As := [.int v0, .int v1]) (rest := [.ref h0]) (xfix C) (c298_X6_range l G cy sa sv h0 h1 h2 h3 h4 h5 h6 h7 v0 v1 (xtr C) _) (cwV 2 (xhts C) (xgV (maxL := 0) (cc := ⟨#[]⟩) (ret := none) gw_670 gw_671 gw_672 gw_58 gc_X6_range) rfl rfl rfl (by decide +kernel) ⟨(Nat.le_of_ble_eq_true rfl), (Nat.le_of_ble_eq_true rfl)⟩) (xPV C w [1, 0] rfl (by decide) (ci := 10) (q0 := 1) rfl rfl) rfl rfl hl.1 rfl (lv_room (Nat.le_of_ble_eq_true rfl)) dX6_rangePoll_22 ⟨(Nat.le_of_ble_eq_true rfl), (Nat.le_of_ble_eq_true rfl)⟩) (fun f2349 H locs w => ?_)
  have w : xW G A s [(h0, .inr (10, [.ref h1, .ref h2, .ref h3, .ref h4, .ref h5, .ref h6, .ref h7, .int 0, .int 0])), (h1, .inr (3, [.int 0, .ref (sv 0), .int 0])), ((f2349 0), .inr (3, [.int 0, .ref (sv 0), .int 0]))] H _ := w
  refine W.widen (k := 1) (n := 3) (Nat.le_of_ble_eq_true rfl) (Nat.le_of_ble_eq_true rfl) ?_
  refine x_ki C w [2] [0, 1] rfl rfl (by decide) (by decide) (va_runV (As := []) (rest := [.ref h0]) (xfix C) (c47_Jx4a65c_size_8abf5 l G cy sa sv (f2349 0) (xtr C) _) (cwV 0 (xhts C) (xgV (maxL := 0) (cc := ⟨#[]⟩) (ret := none) gw_195 gw_196 gw_197 gw_62 gc_Jx4a65c_size_8abf5) rfl rfl rfl (by decide +kernel) ⟨(Nat.le_of_ble_eq_true rfl), (Nat.le_of_ble_eq_true rfl)⟩) (xPV C w [2] rfl (by decide) (ci := 3) (q0 := 2) rfl rfl) rfl rfl hl.1 rfl (lv_room (Nat.le_of_ble_eq_true rfl)) dX6_rangePoll_25 ⟨(Nat.le_of_ble_eq_true rfl), (Nat.le_of_ble_eq_true rfl)⟩) (fun f2350 H locs w => ?_)
  have w : xW G A s [(h0, .inr (10, [.ref h1, .ref h2, .ref h3, .ref h4, .ref h5, .ref h6, .ref h7, .int 0, .int 0])), (h1, .inr (3, [.int 0, .ref (sv 0), .int 0])), ((f2349 0), .inr (3, [.int 0, .ref (sv 0), .int 0]))] H _ := w
  refine lv_if_ne (tgt := 35) C.1 C.2.1 dX6_rangePoll_28 (by decide) (fun c9 => absurd (by decide) c9) (fun _ => ?_)
  refine lv_iconst (v := 1) C.1 C.2.1 dX6_rangePoll_31 (by decide) ?_
  refine lv_goto (tgt := 36) C.1 C.2.1 dX6_rangePoll_32 (by decide) ?_
  refine lv_iconst (v := 2) C.1 C.2.1 dX6_rangePoll_36 (by decide) ?_
  refine x_ki C w [0] [1, 2] rfl rfl (by decide) (by decide) (va_runV (As := [.int 1, .int 2]) (rest := []) (xfix C) (c149_X6_fails l G cy sa sv h0 h1 h2 h3 h4 h5 h6 h7 (xtr C) _) (cwV 2 (xhts C) (xgV (maxL := 0) (cc := ⟨#[]⟩) (ret := none) gw_203 gw_204 gw_205 gw_58 gc_X6_fails) rfl rfl rfl (by decide +kernel) ⟨(Nat.le_of_ble_eq_true rfl), (Nat.le_of_ble_eq_true rfl)⟩) (xPV C w [0] rfl (by decide) (ci := 10) (q0 := 0) rfl rfl) rfl rfl hl.1 rfl (lv_room (Nat.le_of_ble_eq_true rfl)) dX6_rangePoll_37 ⟨(Nat.le_of_ble_eq_true rfl), (Nat.le_of_ble_eq_true rfl)⟩) (fun f2351 H locs w => ?_)
  have w : xW G A s [(h1, .inr (3, [.int 0, .ref (sv 0), .int 0])), ((f2349 0), .inr (3, [.int 0, .ref (sv 0), .int 0])), (h0, .inr (10, [.ref h1, .ref h2, .ref h3, .ref h4, .ref h5, .ref h6, .ref h7, .int 0, .int 2]))] H _ := w
  refine lv_if_eq (tgt := 47) C.1 C.2.1 dX6_rangePoll_40 (by decide) (fun c9 => absurd c9 (by decide)) (fun _ => ?_)
  refine lv_iconst (v := 0) C.1 C.2.1 dX6_rangePoll_43 (by decide) ?_
  refine lv_goto (tgt := 61) C.1 C.2.1 dX6_rangePoll_44 (by decide) ?_
  have w := w.sub (ws' := [(h0, .inr (10, [.ref h1, .ref h2, .ref h3, .ref h4, .ref h5, .ref h6, .ref h7, .int 0, .int 2])), (h1, .inr (3, [.int 0, .ref (sv 0), .int 0]))]) [2, 0] (by decide) rfl rfl
  exact x_iret C w hr (fun _ => 0) rfl rfl dX6_rangePoll_61 (Nat.le_of_ble_eq_true rfl) (Nat.le_of_ble_eq_true rfl)
