set_option maxHeartbeats 4000000 in
set_option maxRecDepth 100000 in
theorem c305_X6_rangeEnd (l : Launch) (G : va_G) (cy : Nat → ClassId) (sa : String → Nat → Nat) (sv : Nat → Nat) (h0 h1 h2 h3 h4 h5 h6 h7 : Nat) (v0 v1 : Int32) (p0 : v0 ≤ v1) : xM l G cy sa sv yX6_rangeEnd (Cond.code yX6_rangeEnd cX6_rangeEnd 4 (some .int) :: XG) { frames := 12, cells := 1, slots := 3, locals := 334 } [.ref h0, .int v0, .int v1, .int 0] [(h0, .inr (10, [.ref h1, .ref h2, .ref h3, .ref h4, .ref h5, .ref h6, .ref h7, .int 0, .int 0])), (h1, .inr (3, [.int 0, .ref (sv 0), .int 0]))] (xQi G (fun f => [(h0, .inr (10, [.ref h1, .ref h2, .ref h3, .ref h4, .ref h5, .ref h6, .ref h7, .int 0, .int 2])), (h1, .inr (3, [.int 0, .ref (sv 0), .int 0]))]) 0) := by
  refine xof (by decide) (Nat.le_of_ble_eq_true rfl) (fun p e s m below meth c A C w hr hn ls hl => ?_)
  have hl : lv_has ls 4 [(0, .ref h0), (1, .int v0), (2, .int v1), (3, .int 0)] := hl
  refine lv_aload_n C.1 C.2.1 dX6_rangeEnd_0 rfl (lv_at hl 0 rfl) ?_
  refine lv_iload_n C.1 C.2.1 dX6_rangeEnd_1 rfl (lv_at hl 1 rfl) ?_
  refine lv_iload_n C.1 C.2.1 dX6_rangeEnd_2 rfl (lv_at hl 2 rfl) ?_
  refine lv_icmp_le (tgt := 10) C.1 C.2.1 dX6_rangeEnd_3 (by decide) (fun _ => ?_) (fun c9 => absurd p0 c9)
  refine lv_iconst (v := 0) C.1 C.2.1 dX6_rangeEnd_10 (by decide) ?_
  refine lv_iconst (v := 1) C.1 C.2.1 dX6_rangeEnd_11 (by decide) ?_
  refine x_ki C w [0] [1] rfl rfl (by decide) (by decide) (va_runV (As := [.int 0, .int 1]) (rest := []) (xfix C) (c46_X6_start l G cy sa sv h0 h1 h2 h3 h4 h5 h6 h7 (xtr C) _) (cwV 2 (xhts C) (xgV (maxL := 0) (cc := ⟨#[]⟩) (ret := none) gw_114 gw_115 gw_116 gw_58 gc_X6_start) rfl rfl rfl (by decide +kernel) ⟨(Nat.le_of_ble_eq_true rfl), (Nat.le_of_ble_eq_true rfl)⟩) (xPV C w [0] rfl (by decide) (ci := 10) (q0 := 0) rfl rfl) rfl rfl hl.1 rfl (lv_room (Nat.le_of_ble_eq_true rfl)) dX6_rangeEnd_12 ⟨(Nat.le_of_ble_eq_true rfl), (Nat.le_of_ble_eq_true rfl)⟩) (fun f1722 H locs w => ?_)
  have w : xW G A s [(h1, .inr (3, [.int 0, .ref (sv 0), .int 0])), (h0, .inr (10, [.ref h1, .ref h2, .ref h3, .ref h4, .ref h5, .ref h6, .ref h7, .int 0, .int 0]))] H _ := w
  refine lv_if_ne (tgt := 43) C.1 C.2.1 dX6_rangeEnd_15 (by decide) (fun c9 => absurd (by decide) c9) (fun _ => ?_)
  refine lv_aload_n C.1 C.2.1 dX6_rangeEnd_18 rfl (lv_at hl 0 rfl) ?_
  refine lv_aload_n C.1 C.2.1 dX6_rangeEnd_19 rfl (lv_at hl 0 rfl) ?_
  refine lv_iload_n C.1 C.2.1 dX6_rangeEnd_20 rfl (lv_at hl 1 rfl) ?_
  refine lv_iload_n C.1 C.2.1 dX6_rangeEnd_21 rfl (lv_at hl 2 rfl) ?_
  refine x_kr C w [1, 0] [] rfl rfl (by decide) (by decide) (va_runV (As := [.int v0, .int v1]) (rest := [.ref h0]) (xfix C) (c298_X6_range l G cy sa sv h0 h1 h2 h3 h4 h5 h6 h7 v0 v1 (xtr C) _) (cwV 2 (xhts C) (xgV (maxL := 0) (cc := ⟨#[]⟩) (ret := none) gw_670 gw_671 gw_672 gw_58 gc_X6_range) rfl rfl rfl (by decide +kernel) ⟨(Nat.le_of_ble_eq_true rfl), (Nat.le_of_ble_eq_true rfl)⟩) (xPV C w [1, 0] rfl (by decide) (ci := 10) (q0 := 1) rfl rfl) rfl rfl hl.1 rfl (lv_room (Nat.le_of_ble_eq_true rfl)) dX6_rangeEnd_22 ⟨(Nat.le_of_ble_eq_true rfl), (Nat.le_of_ble_eq_true rfl)⟩) (fun f1731 H locs w => ?_)
  have w : xW G A s [(h0, .inr (10, [.ref h1, .ref h2, .ref h3, .ref h4, .ref h5, .ref h6, .ref h7, .int 0, .int 0])), (h1, .inr (3, [.int 0, .ref (sv 0), .int 0])), ((f1731 0), .inr (3, [.int 0, .ref (sv 0), .int 0]))] H _ := w
  refine W.widen (k := 1) (n := 3) (Nat.le_of_ble_eq_true rfl) (Nat.le_of_ble_eq_true rfl) ?_
  refine x_ki C w [2] [0, 1] rfl rfl (by decide) (by decide) (va_runV (As := []) (rest := [.ref h0]) (xfix C) (c47_Jx4a65c_size_8abf5 l G cy sa sv (f1731 0) (xtr C) _) (cwV 0 (xhts C) (xgV (maxL := 0) (cc := ⟨#[]⟩) (ret := none) gw_195 gw_196 gw_197 gw_62 gc_Jx4a65c_size_8abf5) rfl rfl rfl (by decide +kernel) ⟨(Nat.le_of_ble_eq_true rfl), (Nat.le_of_ble_eq_true rfl)⟩) (xPV C w [2] rfl (by decide) (ci := 3) (q0 := 2) rfl rfl) rfl rfl hl.1 rfl (lv_room (Nat.le_of_ble_eq_true rfl)) dX6_rangeEnd_25 ⟨(Nat.le_of_ble_eq_true rfl), (Nat.le_of_ble_eq_true rfl)⟩) (fun f1732 H locs w => ?_)
  have w : xW G A s [(h0, .inr (10, [.ref h1, .ref h2, .ref h3, .ref h4, .ref h5, .ref h6, .ref h7, .int 0, .int 0])), (h1, .inr (3, [.int 0, .ref (sv 0), .int 0])), ((f1731 0), .inr (3, [.int 0, .ref (sv 0), .int 0]))] H _ := w
  refine lv_if_ne (tgt := 35) C.1 C.2.1 dX6_rangeEnd_28 (by decide) (fun c9 => absurd (by decide) c9) (fun _ => ?_)
  refine lv_iconst (v := 1) C.1 C.2.1 dX6_rangeEnd_31 (by decide) ?_
  refine lv_goto (tgt := 36) C.1 C.2.1 dX6_rangeEnd_32 (by decide) ?_
  refine lv_iconst (v := 2) C.1 C.2.1 dX6_rangeEnd_36 (by decide) ?_
  refine x_ki C w [0] [1, 2] rfl rfl (by decide) (by decide) (va_runV (As := [.int 1, .int 2]) (rest := []) (xfix C) (c149_X6_fails l G cy sa sv h0 h1 h2 h3 h4 h5 h6 h7 (xtr C) _) (cwV 2 (xhts C) (xgV (maxL := 0) (cc := ⟨#[]⟩) (ret := none) gw_203 gw_204 gw_205 gw_58 gc_X6_fails) rfl rfl rfl (by decide +kernel) ⟨(Nat.le_of_ble_eq_true rfl), (Nat.le_of_ble_eq_true rfl)⟩) (xPV C w [0] rfl (by decide) (ci := 10) (q0 := 0) rfl rfl) rfl rfl hl.1 rfl (lv_room (Nat.le_of_ble_eq_true rfl)) dX6_rangeEnd_37 ⟨(Nat.le_of_ble_eq_true rfl), (Nat.le_of_ble_eq_true rfl)⟩) (fun f1733 H locs w => ?_)
  have w : xW G A s [(h1, .inr (3, [.int 0, .ref (sv 0), .int 0])), ((f1731 0), .inr (3, [.int 0, .ref (sv 0), .int 0])), (h0, .inr (10, [.ref h1, .ref h2, .ref h3, .ref h4, .ref h5, .ref h6, .ref h7, .int 0, .int 2]))] H _ := w
  refine lv_if_eq (tgt := 47) C.1 C.2.1 dX6_rangeEnd_40 (by decide) (fun c9 => absurd c9 (by decide)) (fun _ => ?_)
  refine lv_iconst (v := 0) C.1 C.2.1 dX6_rangeEnd_43 (by decide) ?_
  refine lv_goto (tgt := 57) C.1 C.2.1 dX6_rangeEnd_44 (by decide) ?_
  have w := w.sub (ws' := [(h0, .inr (10, [.ref h1, .ref h2, .ref h3, .ref h4, .ref h5, .ref h6, .ref h7, .int 0, .int 2])), (h1, .inr (3, [.int 0, .ref (sv 0), .int 0]))]) [2, 0] (by decide) rfl rfl
  exact x_iret C w hr (fun _ => 0) rfl rfl dX6_rangeEnd_57 (Nat.le_of_ble_eq_true rfl) (Nat.le_of_ble_eq_true rfl)
set_option maxHeartbeats 4000000 in
set_option maxRecDepth 100000 in
theorem c306_X4_checkRange (l : Launch) (G : va_G) (cy : Nat → ClassId) (sa : String → Nat → Nat) (sv : Nat → Nat) (v0 v1 : Int32) (p0 : ¬ v0 ≤ v1) : xX l G cy sa sv yX4_checkRange (Cond.code yX4_checkRange cX4_checkRange 2 none :: XG) { frames := 8, cells := 1, slots := 6, locals := 250 } [.int v0, .int v1] [] (fun f => []) "java/lang/IllegalArgumentException" := by
  refine xofX (by decide) (Nat.le_of_ble_eq_true rfl) (fun p e s m below meth c A C w hno ls hl => ?_)
  have hl : lv_has ls 2 [(0, .int v0), (1, .int v1)] := hl
  refine lv_iload_n C.1 C.2.1 dX4_checkRange_0 rfl (lv_at hl 0 rfl) ?_
  refine lv_iload_n C.1 C.2.1 dX4_checkRange_1 rfl (lv_at hl 1 rfl) ?_
  refine lv_icmp_le (tgt := 16) C.1 C.2.1 dX4_checkRange_2 (by decide) (fun c9 => absurd c9 p0) (fun _ => ?_)
  exact x_thrW C w hno hl.1 (by decide) (List.mem_cons_of_mem _ gw_95) (List.mem_cons_of_mem _ gw_96) (tx := "from is above to") (List.mem_of_getElem? (i := 9) rfl) (xat_203 C (fun w h => List.mem_cons_of_mem _ h)) xatg_203 dX4_checkRange_5 dX4_checkRange_8 dX4_checkRange_9 dX4_checkRange_12 dX4_checkRange_15 (Nat.le_of_ble_eq_true rfl) (Nat.le_of_ble_eq_true rfl) (Nat.le_of_ble_eq_true rfl) (Nat.le_of_ble_eq_true rfl) rfl rfl (fun _ => 0) rfl
set_option maxHeartbeats 4000000 in
set_option maxRecDepth 100000 in
theorem c307_X4_rangeEnd (l : Launch) (G : va_G) (cy : Nat → ClassId) (sa : String → Nat → Nat) (sv : Nat → Nat) (h0 : Nat) (v0 v1 : Int32) (p0 : ¬ v0 ≤ v1) : xX l G cy sa sv yX4_rangeEnd (Cond.code yX4_rangeEnd cX4_rangeEnd 4 (some .int) :: XG) { frames := 9, cells := 1, slots := 6, locals := 271 } [.ref h0, .int v0, .int v1, .int 0] [] (fun f => []) "java/lang/IllegalArgumentException" := by
  refine xofX (by decide) (Nat.le_of_ble_eq_true rfl) (fun p e s m below meth c A C w hno ls hl => ?_)
  have hl : lv_has ls 4 [(0, .ref h0), (1, .int v0), (2, .int v1), (3, .int 0)] := hl
  refine lv_iload_n C.1 C.2.1 dX4_rangeEnd_0 rfl (lv_at hl 1 rfl) ?_
  refine lv_iload_n C.1 C.2.1 dX4_rangeEnd_1 rfl (lv_at hl 2 rfl) ?_
  refine x_kx C w [] [] rfl rfl (by decide) (by decide) (vx_runS (As := [.int v0, .int v1]) (rest := []) (xfix C) (c306_X4_checkRange l G cy sa sv v0 v1 p0 (xtr C) _) (va_cwS 2 (xhts C) (xgS gw_390 gw_391 gw_2 gc_X4_checkRange) rfl rfl rfl (by decide +kernel) ⟨(Nat.le_of_ble_eq_true rfl), (Nat.le_of_ble_eq_true rfl)⟩) (xPS C w [] rfl (by decide)) rfl rfl hl.1 rfl (lv_room (Nat.le_of_ble_eq_true rfl)) dX4_rangeEnd_2 ⟨(Nat.le_of_ble_eq_true rfl), (Nat.le_of_ble_eq_true rfl)⟩) (fun f1739 H locs ce q9 w hce hcv hcl => ?_)
  have w : xW G A s [] H _ := w
  refine vx_widen (k := 1) (n := 6) (Nat.le_of_ble_eq_true rfl) (Nat.le_of_ble_eq_true rfl) ?_
  exact x_out C w hno (fun _ => 0) rfl hce hcv hcl (Nat.le_of_ble_eq_true rfl) (Nat.le_of_ble_eq_true rfl)
set_option maxHeartbeats 4000000 in
set_option maxRecDepth 100000 in
theorem c308_L_rangeEnd (l : Launch) (G : va_G) (cy : Nat → ClassId) (sa : String → Nat → Nat) (sv : Nat → Nat) (h0 h1 h2 h3 h4 h5 h6 h7 h8 : Nat) (v0 v1 : Int32) (p0 : ¬ v0 ≤ v1) : xM l G cy sa sv yL_rangeEnd (Cond.codeWith yL_rangeEnd cL_rangeEnd 6 (some .int) [(0, 13, 16, 19), (0, 13, 20, 21)] :: XG) { frames := 10, cells := 1, slots := 6, locals := 294 } [.ref h0, .int v0, .int v1, .int 0, .ref h1] [(h0, .inr (8, [.ref h2, .ref h3, .ref h4, .ref h5, .ref h6, .int 0, .ref h7, .ref h8]))] (xQi G (fun f => [(h0, .inr (8, [.ref h2, .ref h3, .ref h4, .ref h5, .ref h6, .int 0, .ref h7, .ref h8]))]) 1) := by
  refine xofH (by decide) (Nat.le_of_ble_eq_true rfl) (fun p e s m below meth c A C w hr hn hT ls hl => ?_)
  have hl : lv_has ls 6 [(0, .ref h0), (1, .int v0), (2, .int v1), (3, .int 0), (4, .ref h1)] := hl
  refine lv_aload C.1 C.2.1 dL_rangeEnd_0 (lv_at hl 4 rfl) ?_
  refine lv_aload_n C.1 C.2.1 dL_rangeEnd_2 rfl (lv_at hl 0 rfl) ?_
  refine lv_iload_n C.1 C.2.1 dL_rangeEnd_3 rfl (lv_at hl 1 rfl) ?_
  refine lv_iload_n C.1 C.2.1 dL_rangeEnd_4 rfl (lv_at hl 2 rfl) ?_
  refine lv_iload_n C.1 C.2.1 dL_rangeEnd_5 rfl (lv_at hl 3 rfl) ?_
  refine x_kx C w [] [0] rfl rfl (by decide) (by decide) (vx_runV (As := [.int v0, .int v1, .int 0]) (rest := [.ref h1]) (xfix C) (c307_X4_rangeEnd l G cy sa sv h0 v0 v1 p0 (xtr C) _) (cwV 3 (xhts C) (xgV (maxL := 0) (cc := ⟨#[]⟩) (ret := none) gw_677 gw_401 gw_402 gw_2 gc_X4_rangeEnd) rfl rfl rfl (by decide +kernel) ⟨(Nat.le_of_ble_eq_true rfl), (Nat.le_of_ble_eq_true rfl)⟩) (xPV C w [] rfl (by decide) (ci := 8) (q0 := 0) rfl rfl) rfl rfl hl.1 rfl (lv_room (Nat.le_of_ble_eq_true rfl)) dL_rangeEnd_6 ⟨(Nat.le_of_ble_eq_true rfl), (Nat.le_of_ble_eq_true rfl)⟩) (fun f1740 H locs ce q9 w hce hcv hcl => ?_)
  have w : xW G A s [(h0, .inr (8, [.ref h2, .ref h3, .ref h4, .ref h5, .ref h6, .int 0, .ref h7, .ref h8]))] H _ := w
  refine vx_widen (k := 1) (n := 6) (Nat.le_of_ble_eq_true rfl) (Nat.le_of_ble_eq_true rfl) ?_
  refine vx_catch (xown C) [] ⟨0, 13, 16, 19⟩ [⟨0, 13, 20, 21⟩] hT (fun z hz => nomatch hz) (by decide) (by decide) (xhts C _ (List.mem_cons_of_mem _ gw_104)) (va_any rfl (xs_c1 (xS C))) hce hcv hcl ?_
  refine lv_astore (lv' := [(5, .ref q9), (0, .ref h0), (1, .int v0), (2, .int v1), (3, .int 0), (4, .ref h1)]) C.1 C.2.1 dL_rangeEnd_16 hl (by decide) rfl (fun ls hl => ?_)
  refine lv_iconst (v := 1) C.1 C.2.1 dL_rangeEnd_18 (by decide) ?_
  exact x_iret C w hr (fun _ => 0) rfl rfl dL_rangeEnd_19 (Nat.le_of_ble_eq_true rfl) (Nat.le_of_ble_eq_true rfl)
set_option maxHeartbeats 4000000 in
set_option maxRecDepth 100000 in
theorem c309_X6_rangeEnd (l : Launch) (G : va_G) (cy : Nat → ClassId) (sa : String → Nat → Nat) (sv : Nat → Nat) (h0 h1 h2 h3 h4 h5 h6 h7 : Nat) (v0 v1 : Int32) (p0 : ¬ v0 ≤ v1) : xM l G cy sa sv yX6_rangeEnd (Cond.code yX6_rangeEnd cX6_rangeEnd 4 (some .int) :: XG) { frames := 9, cells := 0, slots := 0, locals := 272 } [.ref h0, .int v0, .int v1, .int 0] [(h0, .inr (10, [.ref h1, .ref h2, .ref h3, .ref h4, .ref h5, .ref h6, .ref h7, .int 0, .int 0]))] (xQi G (fun f => [(h0, .inr (10, [.ref h1, .ref h2, .ref h3, .ref h4, .ref h5, .ref h6, .ref h7, .int 0, .int 1]))]) 0) := by
  refine xof (by decide) (Nat.le_of_ble_eq_true rfl) (fun p e s m below meth c A C w hr hn ls hl => ?_)
  have hl : lv_has ls 4 [(0, .ref h0), (1, .int v0), (2, .int v1), (3, .int 0)] := hl
  refine lv_aload_n C.1 C.2.1 dX6_rangeEnd_0 rfl (lv_at hl 0 rfl) ?_
  refine lv_iload_n C.1 C.2.1 dX6_rangeEnd_1 rfl (lv_at hl 1 rfl) ?_
  refine lv_iload_n C.1 C.2.1 dX6_rangeEnd_2 rfl (lv_at hl 2 rfl) ?_
  refine lv_icmp_le (tgt := 10) C.1 C.2.1 dX6_rangeEnd_3 (by decide) (fun c9 => absurd c9 p0) (fun _ => ?_)
  refine lv_iconst (v := 1) C.1 C.2.1 dX6_rangeEnd_6 (by decide) ?_
  refine lv_goto (tgt := 11) C.1 C.2.1 dX6_rangeEnd_7 (by decide) ?_
  refine lv_iconst (v := 1) C.1 C.2.1 dX6_rangeEnd_11 (by decide) ?_
  refine x_ki C w [0] [] rfl rfl (by decide) (by decide) (va_runV (As := [.int 1, .int 1]) (rest := []) (xfix C) (c17_X6_start l G cy sa sv h0 h1 h2 h3 h4 h5 h6 h7 (xtr C) _) (cwV 2 (xhts C) (xgV (maxL := 0) (cc := ⟨#[]⟩) (ret := none) gw_114 gw_115 gw_116 gw_58 gc_X6_start) rfl rfl rfl (by decide +kernel) ⟨(Nat.le_of_ble_eq_true rfl), (Nat.le_of_ble_eq_true rfl)⟩) (xPV C w [0] rfl (by decide) (ci := 10) (q0 := 0) rfl rfl) rfl rfl hl.1 rfl (lv_room (Nat.le_of_ble_eq_true rfl)) dX6_rangeEnd_12 ⟨(Nat.le_of_ble_eq_true rfl), (Nat.le_of_ble_eq_true rfl)⟩) (fun f1743 H locs w => ?_)
  have w : xW G A s [(h0, .inr (10, [.ref h1, .ref h2, .ref h3, .ref h4, .ref h5, .ref h6, .ref h7, .int 0, .int 1]))] H _ := w
  refine lv_if_ne (tgt := 43) C.1 C.2.1 dX6_rangeEnd_15 (by decide) (fun _ => ?_) (fun c9 => absurd c9 (by decide))
  refine lv_iconst (v := 0) C.1 C.2.1 dX6_rangeEnd_43 (by decide) ?_
  refine lv_goto (tgt := 57) C.1 C.2.1 dX6_rangeEnd_44 (by decide) ?_
  exact x_iret C w hr (fun _ => 0) rfl rfl dX6_rangeEnd_57 (Nat.le_of_ble_eq_true rfl) (Nat.le_of_ble_eq_true rfl)
set_option maxHeartbeats 4000000 in
set_option maxRecDepth 100000 in
theorem c310_X4_rangeEnd (l : Launch) (G : va_G) (cy : Nat → ClassId) (sa : String → Nat → Nat) (sv : Nat → Nat) (h0 h1 h2 h3 h4 h5 h6 h7 h8 h9 h10 : Nat) (v0 v1 : Int32) (p0 : v0 ≤ v1) : xX l G cy sa sv yX4_rangeEnd (Cond.code yX4_rangeEnd cX4_rangeEnd 4 (some .int) :: XG) { frames := 12, cells := 1, slots := 6, locals := 336 } [.ref h0, .int v0, .int v1, .int 1] [(h0, .inr (8, [.ref h1, .ref h3, .ref h4, .ref h5, .ref h6, .int 0, .ref h7, .ref h8])), (h1, .inr (7, [.ref h2, .ref h9])), (h2, .inr (6, [.ref h10, .int 0]))] (fun f => [(h0, .inr (8, [.ref h1, .ref h3, .ref h4, .ref h5, .ref h6, .int 0, .ref h7, .ref h8])), (h1, .inr (7, [.ref h2, .ref h9])), (h2, .inr (6, [.ref h10, .int 0]))]) "java/lang/IllegalStateException" := by
  refine xofX (by decide) (Nat.le_of_ble_eq_true rfl) (fun p e s m below meth c A C w hno ls hl => ?_)
  have hl : lv_has ls 4 [(0, .ref h0), (1, .int v0), (2, .int v1), (3, .int 1)] := hl
  refine lv_iload_n C.1 C.2.1 dX4_rangeEnd_0 rfl (lv_at hl 1 rfl) ?_
  refine lv_iload_n C.1 C.2.1 dX4_rangeEnd_1 rfl (lv_at hl 2 rfl) ?_
  refine x_kv C w [] [0, 1, 2] rfl rfl (by decide) (by decide) (va_runS (As := [.int v0, .int v1]) (rest := []) (xfix C) (c302_X4_checkRange l G cy sa sv v0 v1 p0 (xtr C) _) (va_cwS 2 (xhts C) (xgS gw_390 gw_391 gw_2 gc_X4_checkRange) rfl rfl rfl (by decide +kernel) ⟨(Nat.le_of_ble_eq_true rfl), (Nat.le_of_ble_eq_true rfl)⟩) (xPS C w [] rfl (by decide)) rfl rfl hl.1 rfl (lv_room (Nat.le_of_ble_eq_true rfl)) dX4_rangeEnd_2 ⟨(Nat.le_of_ble_eq_true rfl), (Nat.le_of_ble_eq_true rfl)⟩) (fun f1752 H locs w => ?_)
  have w : xW G A s [(h0, .inr (8, [.ref h1, .ref h3, .ref h4, .ref h5, .ref h6, .int 0, .ref h7, .ref h8])), (h1, .inr (7, [.ref h2, .ref h9])), (h2, .inr (6, [.ref h10, .int 0]))] H _ := w
  refine lv_aload_n C.1 C.2.1 dX4_rangeEnd_5 rfl (lv_at hl 0 rfl) ?_
  refine x_get (v := .ref h1) C w 0 8 0 (xin_X4 _) rfl rfl (by decide) (List.mem_cons_of_mem _ gw_24) rfl rfl dX4_rangeEnd_6 ?_
  refine lv_iload_n C.1 C.2.1 dX4_rangeEnd_9 rfl (lv_at hl 1 rfl) ?_
  refine lv_iload_n C.1 C.2.1 dX4_rangeEnd_10 rfl (lv_at hl 2 rfl) ?_
  refine x_ki C w [1, 2] [0] rfl rfl (by decide) (by decide) (va_runV (As := [.int v0, .int v1]) (rest := []) (xfix C) (c296_X3_countIn l G cy sa sv h1 h2 h9 h10 v0 v1 (xtr C) _) (cwV 2 (xhts C) (xgV (maxL := 0) (cc := ⟨#[]⟩) (ret := none) gw_394 gw_395 gw_396 gw_7 gc_X3_countIn) rfl rfl rfl (by decide +kernel) ⟨(Nat.le_of_ble_eq_true rfl), (Nat.le_of_ble_eq_true rfl)⟩) (xPV C w [1, 2] rfl (by decide) (ci := 7) (q0 := 1) rfl rfl) rfl rfl hl.1 rfl (lv_room (Nat.le_of_ble_eq_true rfl)) dX4_rangeEnd_11 ⟨(Nat.le_of_ble_eq_true rfl), (Nat.le_of_ble_eq_true rfl)⟩) (fun f1760 H locs w => ?_)
  have w : xW G A s [(h0, .inr (8, [.ref h1, .ref h3, .ref h4, .ref h5, .ref h6, .int 0, .ref h7, .ref h8])), (h1, .inr (7, [.ref h2, .ref h9])), (h2, .inr (6, [.ref h10, .int 0]))] H _ := w
  refine lv_if_ne (tgt := 27) C.1 C.2.1 dX4_rangeEnd_14 (by decide) (fun c9 => absurd (by decide) c9) (fun _ => ?_)
  exact x_thr C w hno hl.1 (by decide) (List.mem_cons_of_mem _ gw_397) (List.mem_cons_of_mem _ gw_398) (tx := "there is no such key") (List.mem_of_getElem? (i := 1) rfl) (xat_161 C (fun w h => List.mem_cons_of_mem _ h)) xatg_161 dX4_rangeEnd_17 dX4_rangeEnd_20 dX4_rangeEnd_21 dX4_rangeEnd_23 dX4_rangeEnd_26 (Nat.le_of_ble_eq_true rfl) (Nat.le_of_ble_eq_true rfl) (Nat.le_of_ble_eq_true rfl) (Nat.le_of_ble_eq_true rfl) rfl rfl (fun _ => 0) rfl
set_option maxHeartbeats 4000000 in
set_option maxRecDepth 100000 in
theorem c311_L_rangeEnd (l : Launch) (G : va_G) (cy : Nat → ClassId) (sa : String → Nat → Nat) (sv : Nat → Nat) (h0 h1 h2 h3 h4 h5 h6 h7 h8 h9 h10 h11 : Nat) (v0 v1 : Int32) (p0 : v0 ≤ v1) : xM l G cy sa sv yL_rangeEnd (Cond.codeWith yL_rangeEnd cL_rangeEnd 6 (some .int) [(0, 13, 16, 19), (0, 13, 20, 21)] :: XG) { frames := 13, cells := 1, slots := 6, locals := 359 } [.ref h0, .int v0, .int v1, .int 1, .ref h1] [(h0, .inr (8, [.ref h2, .ref h4, .ref h5, .ref h6, .ref h7, .int 0, .ref h8, .ref h9])), (h2, .inr (7, [.ref h3, .ref h10])), (h3, .inr (6, [.ref h11, .int 0]))] (xQi G (fun f => [(h0, .inr (8, [.ref h2, .ref h4, .ref h5, .ref h6, .ref h7, .int 0, .ref h8, .ref h9])), (h2, .inr (7, [.ref h3, .ref h10])), (h3, .inr (6, [.ref h11, .int 0]))]) 2) := by
  refine xofH (by decide) (Nat.le_of_ble_eq_true rfl) (fun p e s m below meth c A C w hr hn hT ls hl => ?_)
  have hl : lv_has ls 6 [(0, .ref h0), (1, .int v0), (2, .int v1), (3, .int 1), (4, .ref h1)] := hl
  refine lv_aload C.1 C.2.1 dL_rangeEnd_0 (lv_at hl 4 rfl) ?_
  refine lv_aload_n C.1 C.2.1 dL_rangeEnd_2 rfl (lv_at hl 0 rfl) ?_
  refine lv_iload_n C.1 C.2.1 dL_rangeEnd_3 rfl (lv_at hl 1 rfl) ?_
  refine lv_iload_n C.1 C.2.1 dL_rangeEnd_4 rfl (lv_at hl 2 rfl) ?_
  refine lv_iload_n C.1 C.2.1 dL_rangeEnd_5 rfl (lv_at hl 3 rfl) ?_
  refine x_kx C w [0, 1, 2] [] rfl rfl (by decide) (by decide) (vx_runV (As := [.int v0, .int v1, .int 1]) (rest := [.ref h1]) (xfix C) (c310_X4_rangeEnd l G cy sa sv h0 h2 h3 h4 h5 h6 h7 h8 h9 h10 h11 v0 v1 p0 (xtr C) _) (cwV 3 (xhts C) (xgV (maxL := 0) (cc := ⟨#[]⟩) (ret := none) gw_677 gw_401 gw_402 gw_2 gc_X4_rangeEnd) rfl rfl rfl (by decide +kernel) ⟨(Nat.le_of_ble_eq_true rfl), (Nat.le_of_ble_eq_true rfl)⟩) (xPV C w [0, 1, 2] rfl (by decide) (ci := 8) (q0 := 0) rfl rfl) rfl rfl hl.1 rfl (lv_room (Nat.le_of_ble_eq_true rfl)) dL_rangeEnd_6 ⟨(Nat.le_of_ble_eq_true rfl), (Nat.le_of_ble_eq_true rfl)⟩) (fun f1761 H locs ce q9 w hce hcv hcl => ?_)
  have w : xW G A s [(h0, .inr (8, [.ref h2, .ref h4, .ref h5, .ref h6, .ref h7, .int 0, .ref h8, .ref h9])), (h2, .inr (7, [.ref h3, .ref h10])), (h3, .inr (6, [.ref h11, .int 0]))] H _ := w
  refine vx_widen (k := 1) (n := 6) (Nat.le_of_ble_eq_true rfl) (Nat.le_of_ble_eq_true rfl) ?_
  refine vx_catch (xown C) [⟨0, 13, 16, 19⟩] ⟨0, 13, 20, 21⟩ [] hT (fun z hz => Or.inr (by cases List.mem_singleton.mp hz; exact ⟨by decide, "java/lang/IllegalArgumentException", xhts C _ (List.mem_cons_of_mem _ gw_104), xs_n1 (xS C)⟩)) (by decide) (by decide) (xhts C _ (List.mem_cons_of_mem _ gw_407)) (va_any rfl (xs_c2 (xS C))) hce hcv hcl ?_
  refine lv_astore (lv' := [(5, .ref q9), (0, .ref h0), (1, .int v0), (2, .int v1), (3, .int 1), (4, .ref h1)]) C.1 C.2.1 dL_rangeEnd_20 hl (by decide) rfl (fun ls hl => ?_)
  refine lv_iconst (v := 2) C.1 C.2.1 dL_rangeEnd_22 (by decide) ?_
  exact x_iret C w hr (fun _ => 0) rfl rfl dL_rangeEnd_23 (Nat.le_of_ble_eq_true rfl) (Nat.le_of_ble_eq_true rfl)
set_option maxHeartbeats 4000000 in
set_option maxRecDepth 100000 in
theorem c312_X6_rangeEnd (l : Launch) (G : va_G) (cy : Nat → ClassId) (sa : String → Nat → Nat) (sv : Nat → Nat) (h0 h1 h2 h3 h4 h5 h6 h7 : Nat) (v0 v1 : Int32) (p0 : v0 ≤ v1) : xM l G cy sa sv yX6_rangeEnd (Cond.code yX6_rangeEnd cX6_rangeEnd 4 (some .int) :: XG) { frames := 12, cells := 1, slots := 3, locals := 334 } [.ref h0, .int v0, .int v1, .int 1] [(h0, .inr (10, [.ref h1, .ref h2, .ref h3, .ref h4, .ref h5, .ref h6, .ref h7, .int 0, .int 0])), (h1, .inr (3, [.int 0, .ref (sv 0), .int 0]))] (xQi G (fun f => [(h0, .inr (10, [.ref h1, .ref h2, .ref h3, .ref h4, .ref h5, .ref h6, .ref h7, .int 0, .int 2])), (h1, .inr (3, [.int 0, .ref (sv 0), .int 0]))]) 0) := by
  refine xof (by decide) (Nat.le_of_ble_eq_true rfl) (fun p e s m below meth c A C w hr hn ls hl => ?_)
  have hl : lv_has ls 4 [(0, .ref h0), (1, .int v0), (2, .int v1), (3, .int 1)] := hl
  refine lv_aload_n C.1 C.2.1 dX6_rangeEnd_0 rfl (lv_at hl 0 rfl) ?_
  refine lv_iload_n C.1 C.2.1 dX6_rangeEnd_1 rfl (lv_at hl 1 rfl) ?_
  refine lv_iload_n C.1 C.2.1 dX6_rangeEnd_2 rfl (lv_at hl 2 rfl) ?_
  refine lv_icmp_le (tgt := 10) C.1 C.2.1 dX6_rangeEnd_3 (by decide) (fun _ => ?_) (fun c9 => absurd p0 c9)
  refine lv_iconst (v := 0) C.1 C.2.1 dX6_rangeEnd_10 (by decide) ?_
  refine lv_iconst (v := 1) C.1 C.2.1 dX6_rangeEnd_11 (by decide) ?_
  refine x_ki C w [0] [1] rfl rfl (by decide) (by decide) (va_runV (As := [.int 0, .int 1]) (rest := []) (xfix C) (c46_X6_start l G cy sa sv h0 h1 h2 h3 h4 h5 h6 h7 (xtr C) _) (cwV 2 (xhts C) (xgV (maxL := 0) (cc := ⟨#[]⟩) (ret := none) gw_114 gw_115 gw_116 gw_58 gc_X6_start) rfl rfl rfl (by decide +kernel) ⟨(Nat.le_of_ble_eq_true rfl), (Nat.le_of_ble_eq_true rfl)⟩) (xPV C w [0] rfl (by decide) (ci := 10) (q0 := 0) rfl rfl) rfl rfl hl.1 rfl (lv_room (Nat.le_of_ble_eq_true rfl)) dX6_rangeEnd_12 ⟨(Nat.le_of_ble_eq_true rfl), (Nat.le_of_ble_eq_true rfl)⟩) (fun f1766 H locs w => ?_)
  have w : xW G A s [(h1, .inr (3, [.int 0, .ref (sv 0), .int 0])), (h0, .inr (10, [.ref h1, .ref h2, .ref h3, .ref h4, .ref h5, .ref h6, .ref h7, .int 0, .int 0]))] H _ := w
  refine lv_if_ne (tgt := 43) C.1 C.2.1 dX6_rangeEnd_15 (by decide) (fun c9 => absurd (by decide) c9) (fun _ => ?_)
  refine lv_aload_n C.1 C.2.1 dX6_rangeEnd_18 rfl (lv_at hl 0 rfl) ?_
  refine lv_aload_n C.1 C.2.1 dX6_rangeEnd_19 rfl (lv_at hl 0 rfl) ?_
  refine lv_iload_n C.1 C.2.1 dX6_rangeEnd_20 rfl (lv_at hl 1 rfl) ?_
  refine lv_iload_n C.1 C.2.1 dX6_rangeEnd_21 rfl (lv_at hl 2 rfl) ?_
  refine x_kr C w [1, 0] [] rfl rfl (by decide) (by decide) (va_runV (As := [.int v0, .int v1]) (rest := [.ref h0]) (xfix C) (c298_X6_range l G cy sa sv h0 h1 h2 h3 h4 h5 h6 h7 v0 v1 (xtr C) _) (cwV 2 (xhts C) (xgV (maxL := 0) (cc := ⟨#[]⟩) (ret := none) gw_670 gw_671 gw_672 gw_58 gc_X6_range) rfl rfl rfl (by decide +kernel) ⟨(Nat.le_of_ble_eq_true rfl), (Nat.le_of_ble_eq_true rfl)⟩) (xPV C w [1, 0] rfl (by decide) (ci := 10) (q0 := 1) rfl rfl) rfl rfl hl.1 rfl (lv_room (Nat.le_of_ble_eq_true rfl)) dX6_rangeEnd_22 ⟨(Nat.le_of_ble_eq_true rfl), (Nat.le_of_ble_eq_true rfl)⟩) (fun f1775 H locs w => ?_)
  have w : xW G A s [(h0, .inr (10, [.ref h1, .ref h2, .ref h3, .ref h4, .ref h5, .ref h6, .ref h7, .int 0, .int 0])), (h1, .inr (3, [.int 0, .ref (sv 0), .int 0])), ((f1775 0), .inr (3, [.int 0, .ref (sv 0), .int 0]))] H _ := w
  refine W.widen (k := 1) (n := 3) (Nat.le_of_ble_eq_true rfl) (Nat.le_of_ble_eq_true rfl) ?_
  refine x_ki C w [2] [0, 1] rfl rfl (by decide) (by decide) (va_runV (As := []) (rest := [.ref h0]) (xfix C) (c47_Jx4a65c_size_8abf5 l G cy sa sv (f1775 0) (xtr C) _) (cwV 0 (xhts C) (xgV (maxL := 0) (cc := ⟨#[]⟩) (ret := none) gw_195 gw_196 gw_197 gw_62 gc_Jx4a65c_size_8abf5) rfl rfl rfl (by decide +kernel) ⟨(Nat.le_of_ble_eq_true rfl), (Nat.le_of_ble_eq_true rfl)⟩) (xPV C w [2] rfl (by decide) (ci := 3) (q0 := 2) rfl rfl) rfl rfl hl.1 rfl (lv_room (Nat.le_of_ble_eq_true rfl)) dX6_rangeEnd_25 ⟨(Nat.le_of_ble_eq_true rfl), (Nat.le_of_ble_eq_true rfl)⟩) (fun f1776 H locs w => ?_)
  have w : xW G A s [(h0, .inr (10, [.ref h1, .ref h2, .ref h3, .ref h4, .ref h5, .ref h6, .ref h7, .int 0, .int 0])), (h1, .inr (3, [.int 0, .ref (sv 0), .int 0])), ((f1775 0), .inr (3, [.int 0, .ref (sv 0), .int 0]))] H _ := w
  refine lv_if_ne (tgt := 35) C.1 C.2.1 dX6_rangeEnd_28 (by decide) (fun c9 => absurd (by decide) c9) (fun _ => ?_)
  refine lv_iconst (v := 1) C.1 C.2.1 dX6_rangeEnd_31 (by decide) ?_
  refine lv_goto (tgt := 36) C.1 C.2.1 dX6_rangeEnd_32 (by decide) ?_
  refine lv_iconst (v := 2) C.1 C.2.1 dX6_rangeEnd_36 (by decide) ?_
  refine x_ki C w [0] [1, 2] rfl rfl (by decide) (by decide) (va_runV (As := [.int 1, .int 2]) (rest := []) (xfix C) (c149_X6_fails l G cy sa sv h0 h1 h2 h3 h4 h5 h6 h7 (xtr C) _) (cwV 2 (xhts C) (xgV (maxL := 0) (cc := ⟨#[]⟩) (ret := none) gw_203 gw_204 gw_205 gw_58 gc_X6_fails) rfl rfl rfl (by decide +kernel) ⟨(Nat.le_of_ble_eq_true rfl), (Nat.le_of_ble_eq_true rfl)⟩) (xPV C w [0] rfl (by decide) (ci := 10) (q0 := 0) rfl rfl) rfl rfl hl.1 rfl (lv_room (Nat.le_of_ble_eq_true rfl)) dX6_rangeEnd_37 ⟨(Nat.le_of_ble_eq_true rfl), (Nat.le_of_ble_eq_true rfl)⟩) (fun f1777 H locs w => ?_)
  have w : xW G A s [(h1, .inr (3, [.int 0, .ref (sv 0), .int 0])), ((f1775 0), .inr (3, [.int 0, .ref (sv 0), .int 0])), (h0, .inr (10, [.ref h1, .ref h2, .ref h3, .ref h4, .ref h5, .ref h6, .ref h7, .int 0, .int 2]))] H _ := w
  refine lv_if_eq (tgt := 47) C.1 C.2.1 dX6_rangeEnd_40 (by decide) (fun c9 => absurd c9 (by decide)) (fun _ => ?_)
  refine lv_iconst (v := 0) C.1 C.2.1 dX6_rangeEnd_43 (by decide) ?_
  refine lv_goto (tgt := 57) C.1 C.2.1 dX6_rangeEnd_44 (by decide) ?_
  have w := w.sub (ws' := [(h0, .inr (10, [.ref h1, .ref h2, .ref h3, .ref h4, .ref h5, .ref h6, .ref h7, .int 0, .int 2])), (h1, .inr (3, [.int 0, .ref (sv 0), .int 0]))]) [2, 0] (by decide) rfl rfl
  exact x_iret C w hr (fun _ => 0) rfl rfl dX6_rangeEnd_57 (Nat.le_of_ble_eq_true rfl) (Nat.le_of_ble_eq_true rfl)
set_option maxHeartbeats 4000000 in
set_option maxRecDepth 100000 in
theorem c313_X4_rangeEnd (l : Launch) (G : va_G) (cy : Nat → ClassId) (sa : String → Nat → Nat) (sv : Nat → Nat) (h0 : Nat) (v0 v1 : Int32) (p0 : ¬ v0 ≤ v1) : xX l G cy sa sv yX4_rangeEnd (Cond.code yX4_rangeEnd cX4_rangeEnd 4 (some .int) :: XG) { frames := 9, cells := 1, slots := 6, locals := 271 } [.ref h0, .int v0, .int v1, .int 1] [] (fun f => []) "java/lang/IllegalArgumentException" := by
  refine xofX (by decide) (Nat.le_of_ble_eq_true rfl) (fun p e s m below meth c A C w hno ls hl => ?_)
  have hl : lv_has ls 4 [(0, .ref h0), (1, .int v0), (2, .int v1), (3, .int 1)] := hl
  refine lv_iload_n C.1 C.2.1 dX4_rangeEnd_0 rfl (lv_at hl 1 rfl) ?_
  refine lv_iload_n C.1 C.2.1 dX4_rangeEnd_1 rfl (lv_at hl 2 rfl) ?_
  refine x_kx C w [] [] rfl rfl (by decide) (by decide) (vx_runS (As := [.int v0, .int v1]) (rest := []) (xfix C) (c306_X4_checkRange l G cy sa sv v0 v1 p0 (xtr C) _) (va_cwS 2 (xhts C) (xgS gw_390 gw_391 gw_2 gc_X4_checkRange) rfl rfl rfl (by decide +kernel) ⟨(Nat.le_of_ble_eq_true rfl), (Nat.le_of_ble_eq_true rfl)⟩) (xPS C w [] rfl (by decide)) rfl rfl hl.1 rfl (lv_room (Nat.le_of_ble_eq_true rfl)) dX4_rangeEnd_2 ⟨(Nat.le_of_ble_eq_true rfl), (Nat.le_of_ble_eq_true rfl)⟩) (fun f1783 H locs ce q9 w hce hcv hcl => ?_)
  have w : xW G A s [] H _ := w
  refine vx_widen (k := 1) (n := 6) (Nat.le_of_ble_eq_true rfl) (Nat.le_of_ble_eq_true rfl) ?_
  exact x_out C w hno (fun _ => 0) rfl hce hcv hcl (Nat.le_of_ble_eq_true rfl) (Nat.le_of_ble_eq_true rfl)
set_option maxHeartbeats 4000000 in
set_option maxRecDepth 100000 in
theorem c314_L_rangeEnd (l : Launch) (G : va_G) (cy : Nat → ClassId) (sa : String → Nat → Nat) (sv : Nat → Nat) (h0 h1 h2 h3 h4 h5 h6 h7 h8 : Nat) (v0 v1 : Int32) (p0 : ¬ v0 ≤ v1) : xM l G cy sa sv yL_rangeEnd (Cond.codeWith yL_rangeEnd cL_rangeEnd 6 (some .int) [(0, 13, 16, 19), (0, 13, 20, 21)] :: XG) { frames := 10, cells := 1, slots := 6, locals := 294 } [.ref h0, .int v0, .int v1, .int 1, .ref h1] [(h0, .inr (8, [.ref h2, .ref h3, .ref h4, .ref h5, .ref h6, .int 0, .ref h7, .ref h8]))] (xQi G (fun f => [(h0, .inr (8, [.ref h2, .ref h3, .ref h4, .ref h5, .ref h6, .int 0, .ref h7, .ref h8]))]) 1) := by
  refine xofH (by decide) (Nat.le_of_ble_eq_true rfl) (fun p e s m below meth c A C w hr hn hT ls hl => ?_)
  have hl : lv_has ls 6 [(0, .ref h0), (1, .int v0), (2, .int v1), (3, .int 1), (4, .ref h1)] := hl
  refine lv_aload C.1 C.2.1 dL_rangeEnd_0 (lv_at hl 4 rfl) ?_
  refine lv_aload_n C.1 C.2.1 dL_rangeEnd_2 rfl (lv_at hl 0 rfl) ?_
  refine lv_iload_n C.1 C.2.1 dL_rangeEnd_3 rfl (lv_at hl 1 rfl) ?_
  refine lv_iload_n C.1 C.2.1 dL_rangeEnd_4 rfl (lv_at hl 2 rfl) ?_
  refine lv_iload_n C.1 C.2.1 dL_rangeEnd_5 rfl (lv_at hl 3 rfl) ?_
  refine x_kx C w [] [0] rfl rfl (by decide) (by decide) (vx_runV (As := [.int v0, .int v1, .int 1]) (rest := [.ref h1]) (xfix C) (c313_X4_rangeEnd l G cy sa sv h0 v0 v1 p0 (xtr C) _) (cwV 3 (xhts C) (xgV (maxL := 0) (cc := ⟨#[]⟩) (ret := none) gw_677 gw_401 gw_402 gw_2 gc_X4_rangeEnd) rfl rfl rfl (by decide +kernel) ⟨(Nat.le_of_ble_eq_true rfl), (Nat.le_of_ble_eq_true rfl)⟩) (xPV C w [] rfl (by decide) (ci := 8) (q0 := 0) rfl rfl) rfl rfl hl.1 rfl (lv_room (Nat.le_of_ble_eq_true rfl)) dL_rangeEnd_6 ⟨(Nat.le_of_ble_eq_true rfl), (Nat.le_of_ble_eq_true rfl)⟩) (fun f1784 H locs ce q9 w hce hcv hcl => ?_)
  have w : xW G A s [(h0, .inr (8, [.ref h2, .ref h3, .ref h4, .ref h5, .ref h6, .int 0, .ref h7, .ref h8]))] H _ := w
  refine vx_widen (k := 1) (n := 6) (Nat.le_of_ble_eq_true rfl) (Nat.le_of_ble_eq_true rfl) ?_
  refine vx_catch (xown C) [] ⟨0, 13, 16, 19⟩ [⟨0, 13, 20, 21⟩] hT (fun z hz => nomatch hz) (by decide) (by decide) (xhts C _ (List.mem_cons_of_mem _ gw_104)) (va_any rfl (xs_c1 (xS C))) hce hcv hcl ?_
  refine lv_astore (lv' := [(5, .ref q9), (0, .ref h0), (1, .int v0), (2, .int v1), (3, .int 1), (4, .ref h1)]) C.1 C.2.1 dL_rangeEnd_16 hl (by decide) rfl (fun ls hl => ?_)
  refine lv_iconst (v := 1) C.1 C.2.1 dL_rangeEnd_18 (by decide) ?_
  exact x_iret C w hr (fun _ => 0) rfl rfl dL_rangeEnd_19 (Nat.le_of_ble_eq_true rfl) (Nat.le_of_ble_eq_true rfl)
set_option maxHeartbeats 4000000 in
set_option maxRecDepth 100000 in
theorem c315_X6_rangeEnd (l : Launch) (G : va_G) (cy : Nat → ClassId) (sa : String → Nat → Nat) (sv : Nat → Nat) (h0 h1 h2 h3 h4 h5 h6 h7 : Nat) (v0 v1 : Int32) (p0 : ¬ v0 ≤ v1) : xM l G cy sa sv yX6_rangeEnd (Cond.code yX6_rangeEnd cX6_rangeEnd 4 (some .int) :: XG) { frames := 9, cells := 0, slots := 0, locals := 272 } [.ref h0, .int v0, .int v1, .int 1] [(h0, .inr (10, [.ref h1, .ref h2, .ref h3, .ref h4, .ref h5, .ref h6, .ref h7, .int 0, .int 0]))] (xQi G (fun f => [(h0, .inr (10, [.ref h1, .ref h2, .ref h3, .ref h4, .ref h5, .ref h6, .ref h7, .int 0, .int 1]))]) 0) := by
  refine xof (by decide) (Nat.le_of_ble_eq_true rfl) (fun p e s m below meth c A C w hr hn ls hl => ?_)
  have hl : lv_has ls 4 [(0, .ref h0), (1, .int v0), (2, .int v1), (3, .int 1)] := hl
  refine lv_aload_n C.1 C.2.1 dX6_rangeEnd_0 rfl (lv_at hl 0 rfl) ?_
  refine lv_iload_n C.1 C.2.1 dX6_rangeEnd_1 rfl (lv_at hl 1 rfl) ?_
  refine lv_iload_n C.1 C.2.1 dX6_rangeEnd_2 rfl (lv_at hl 2 rfl) ?_
  refine lv_icmp_le (tgt := 10) C.1 C.2.1 dX6_rangeEnd_3 (by decide) (fun c9 => absurd c9 p0) (fun _ => ?_)
  refine lv_iconst (v := 1) C.1 C.2.1 dX6_rangeEnd_6 (by decide) ?_
  refine lv_goto (tgt := 11) C.1 C.2.1 dX6_rangeEnd_7 (by decide) ?_
  refine lv_iconst (v := 1) C.1 C.2.1 dX6_rangeEnd_11 (by decide) ?_
  refine x_ki C w [0] [] rfl rfl (by decide) (by decide) (va_runV (As := [.int 1, .int 1]) (rest := []) (xfix C) (c17_X6_start l G cy sa sv h0 h1 h2 h3 h4 h5 h6 h7 (xtr C) _) (cwV 2 (xhts C) (xgV (maxL := 0) (cc := ⟨#[]⟩) (ret := none) gw_114 gw_115 gw_116 gw_58 gc_X6_start) rfl rfl rfl (by decide +kernel) ⟨(Nat.le_of_ble_eq_true rfl), (Nat.le_of_ble_eq_true rfl)⟩) (xPV C w [0] rfl (by decide) (ci := 10) (q0 := 0) rfl rfl) rfl rfl hl.1 rfl (lv_room (Nat.le_of_ble_eq_true rfl)) dX6_rangeEnd_12 ⟨(Nat.le_of_ble_eq_true rfl), (Nat.le_of_ble_eq_true rfl)⟩) (fun f1787 H locs w => ?_)
  have w : xW G A s [(h0, .inr (10, [.ref h1, .ref h2, .ref h3, .ref h4, .ref h5, .ref h6, .ref h7, .int 0, .int 1]))] H _ := w
  refine lv_if_ne (tgt := 43) C.1 C.2.1 dX6_rangeEnd_15 (by decide) (fun _ => ?_) (fun c9 => absurd c9 (by decide))
  refine lv_iconst (v := 0) C.1 C.2.1 dX6_rangeEnd_43 (by decide) ?_
  refine lv_goto (tgt := 57) C.1 C.2.1 dX6_rangeEnd_44 (by decide) ?_
  exact x_iret C w hr (fun _ => 0) rfl rfl dX6_rangeEnd_57 (Nat.le_of_ble_eq_true rfl) (Nat.le_of_ble_eq_true rfl)
set_option maxHeartbeats 4000000 in
set_option maxRecDepth 100000 in
theorem c316_X3_placeNear (l : Launch) (G : va_G) (cy : Nat → ClassId) (sa : String → Nat → Nat) (sv : Nat → Nat) (h0 h1 h2 h3 : Nat) (v0 v1 v2 : Int32) : xM l G cy sa sv yX3_placeNear (Cond.code yX3_placeNear cX3_placeNear 8 (some .int) :: XG) { frames := 11, cells := 0, slots := 0, locals := 314 } [.ref h0, .int v0, .int v1, .int v2, .int 0] [(h0, .inr (7, [.ref h1, .ref h2])), (h1, .inr (6, [.ref h3, .int 0]))] (xQi G (fun f => [(h0, .inr (7, [.ref h1, .ref h2])), (h1, .inr (6, [.ref h3, .int 0]))]) (-1)) := by
  refine xof (by decide) (Nat.le_of_ble_eq_true rfl) (fun p e s m below meth c A C w hr hn ls hl => ?_)
  have hl : lv_has ls 8 [(0, .ref h0), (1, .int v0), (2, .int v1), (3, .int v2), (4, .int 0)] := hl
  refine lv_aload_n C.1 C.2.1 dX3_placeNear_0 rfl (lv_at hl 0 rfl) ?_
  refine lv_iload_n C.1 C.2.1 dX3_placeNear_1 rfl (lv_at hl 1 rfl) ?_
  refine x_ki C w [0, 1] [] rfl rfl (by decide) (by decide) (va_runV (As := [.int v0]) (rest := []) (xfix C) (c31_X3_countBelow l G cy sa sv h0 h1 h2 h3 v0 (xtr C) _) (cwV 1 (xhts C) (xgV (maxL := 0) (cc := ⟨#[]⟩) (ret := none) gw_158 gw_159 gw_160 gw_7 gc_X3_countBelow) rfl rfl rfl (by decide +kernel) ⟨(Nat.le_of_ble_eq_true rfl), (Nat.le_of_ble_eq_true rfl)⟩) (xPV C w [0, 1] rfl (by decide) (ci := 7) (q0 := 0) rfl rfl) rfl rfl hl.1 rfl (lv_room (Nat.le_of_ble_eq_true rfl)) dX3_placeNear_2 ⟨(Nat.le_of_ble_eq_true rfl), (Nat.le_of_ble_eq_true rfl)⟩) (fun f1801 H locs w => ?_)
  have w : xW G A s [(h0, .inr (7, [.ref h1, .ref h2])), (h1, .inr (6, [.ref h3, .int 0]))] H _ := w
  refine lv_istore (lv' := [(5, .int 0), (0, .ref h0), (1, .int v0), (2, .int v1), (3, .int v2), (4, .int 0)]) C.1 C.2.1 dX3_placeNear_5 hl (by decide) rfl (fun ls hl => ?_)
  refine lv_aload_n C.1 C.2.1 dX3_placeNear_7 rfl (lv_at hl 1 rfl) ?_
  refine lv_iload_n C.1 C.2.1 dX3_placeNear_8 rfl (lv_at hl 3 rfl) ?_
  refine x_ki C w [0, 1] [] rfl rfl (by decide) (by decide) (va_runV (As := [.int v1]) (rest := []) (xfix C) (c153_X3_countNotAbove l G cy sa sv h0 h1 h2 h3 v1 (xtr C) _) (cwV 1 (xhts C) (xgV (maxL := 0) (cc := ⟨#[]⟩) (ret := none) gw_392 gw_309 gw_310 gw_7 gc_X3_countNotAbove) rfl rfl rfl (by decide +kernel) ⟨(Nat.le_of_ble_eq_true rfl), (Nat.le_of_ble_eq_true rfl)⟩) (xPV C w [0, 1] rfl (by decide) (ci := 7) (q0 := 0) rfl rfl) rfl rfl hl.1 rfl (lv_room (Nat.le_of_ble_eq_true rfl)) dX3_placeNear_9 ⟨(Nat.le_of_ble_eq_true rfl), (Nat.le_of_ble_eq_true rfl)⟩) (fun f1806 H locs w => ?_)
  have w : xW G A s [(h0, .inr (7, [.ref h1, .ref h2])), (h1, .inr (6, [.ref h3, .int 0]))] H _ := w
  refine lv_iconst (v := 1) C.1 C.2.1 dX3_placeNear_12 (by decide) ?_
  refine lv_isub C.1 C.2.1 dX3_placeNear_13 ?_
  refine x_is (y := (-1)) (by decide) ?_
  refine lv_istore (lv' := [(6, .int (-1)), (5, .int 0), (0, .ref h0), (1, .int v0), (2, .int v1), (3, .int v2), (4, .int 0)]) C.1 C.2.1 dX3_placeNear_14 hl (by decide) rfl (fun ls hl => ?_)
  refine lv_iload C.1 C.2.1 dX3_placeNear_16 (lv_at hl 6 rfl) ?_
  refine lv_tableIn (off := 26) (tgt := 44) C.1 C.2.1 dX3_placeNear_18 (by decide) (by decide) (by decide) (by decide) ?_
  refine lv_aload_n C.1 C.2.1 dX3_placeNear_44 rfl (lv_at hl 2 rfl) ?_
  refine lv_iload_n C.1 C.2.1 dX3_placeNear_45 rfl (lv_at hl 5 rfl) ?_
  refine x_ki C w [0, 1] [] rfl rfl (by decide) (by decide) (va_runV (As := [.int v2]) (rest := []) (xfix C) (c31_X3_countBelow l G cy sa sv h0 h1 h2 h3 v2 (xtr C) _) (cwV 1 (xhts C) (xgV (maxL := 0) (cc := ⟨#[]⟩) (ret := none) gw_158 gw_159 gw_160 gw_7 gc_X3_countBelow) rfl rfl rfl (by decide +kernel) ⟨(Nat.le_of_ble_eq_true rfl), (Nat.le_of_ble_eq_true rfl)⟩) (xPV C w [0, 1] rfl (by decide) (ci := 7) (q0 := 0) rfl rfl) rfl rfl hl.1 rfl (lv_room (Nat.le_of_ble_eq_true rfl)) dX3_placeNear_46 ⟨(Nat.le_of_ble_eq_true rfl), (Nat.le_of_ble_eq_true rfl)⟩) (fun f1808 H locs w => ?_)
  have w : xW G A s [(h0, .inr (7, [.ref h1, .ref h2])), (h1, .inr (6, [.ref h3, .int 0]))] H _ := w
  refine lv_iconst (v := 1) C.1 C.2.1 dX3_placeNear_49 (by decide) ?_
  refine lv_isub C.1 C.2.1 dX3_placeNear_50 ?_
  refine x_is (y := (-1)) (by decide) ?_
  refine lv_iload C.1 C.2.1 dX3_placeNear_51 (lv_at hl 0 rfl) ?_
  refine va_mmin C.1 C.2.1 (C.2.2.1.trans hl.1.symm) (xown C) (xhts C _ (List.mem_cons_of_mem _ gw_419)) (xhts C _ (List.mem_cons_of_mem _ gw_420)) (xhts C _ (List.mem_cons_of_mem _ gw_217)) (xhts C _ (List.mem_cons_of_mem _ gm_min)) (Nat.le_of_ble_eq_true rfl) (Nat.le_of_ble_eq_true rfl) (Nat.le_of_ble_eq_true rfl) (Nat.le_of_ble_eq_true rfl) dX3_placeNear_53 ?_
  refine x_is (y := (-1)) (if_neg (by decide)) ?_
  refine lv_istore (lv' := [(7, .int (-1)), (6, .int (-1)), (5, .int 0), (0, .ref h0), (1, .int v0), (2, .int v1), (3, .int v2), (4, .int 0)]) C.1 C.2.1 dX3_placeNear_56 hl (by decide) rfl (fun ls hl => ?_)
  refine lv_goto (tgt := 105) C.1 C.2.1 dX3_placeNear_58 (by decide) ?_
  refine lv_iload C.1 C.2.1 dX3_placeNear_105 (lv_at hl 2 rfl) ?_
  refine lv_iload C.1 C.2.1 dX3_placeNear_107 (lv_at hl 1 rfl) ?_
  refine lv_iload C.1 C.2.1 dX3_placeNear_109 (lv_at hl 0 rfl) ?_
  refine x_ki C w [] [0, 1] rfl rfl (by decide) (by decide) (va_runSN (As := [.int 0, .int (-1), .int (-1)]) (rest := []) (xfix C) (c142_X4_isBetween l G cy sa sv (xtr C) _) ⟨(va_cnB 3 (xhts C) (xgI gc_X4_isBetween) rfl rfl rfl (xs_mB (xS C)) (xhts C _ (List.mem_cons_of_mem _ gw_2)) (by decide +kernel) ⟨(Nat.le_of_ble_eq_true rfl), (Nat.le_of_ble_eq_true rfl)⟩), xhts C _ (List.mem_cons_of_mem _ gw_422), trivial⟩ (xPS C w [] rfl (by decide)) rfl rfl hl.1 rfl (lv_room (Nat.le_of_ble_eq_true rfl)) dX3_placeNear_111 ⟨(Nat.le_of_ble_eq_true rfl), (Nat.le_of_ble_eq_true rfl)⟩) (fun f1809 H locs w => ?_)
  have w : xW G A s [(h0, .inr (7, [.ref h1, .ref h2])), (h1, .inr (6, [.ref h3, .int 0]))] H _ := w
  refine lv_if_eq (tgt := 122) C.1 C.2.1 dX3_placeNear_114 (by decide) (fun _ => ?_) (fun c9 => absurd (by decide) c9)
  refine lv_iconst (v := (-1)) C.1 C.2.1 dX3_placeNear_122 (by decide) ?_
  exact x_iret C w hr (fun _ => 0) rfl rfl dX3_placeNear_123 (Nat.le_of_ble_eq_true rfl) (Nat.le_of_ble_eq_true rfl)
set_option maxHeartbeats 4000000 in
set_option maxRecDepth 100000 in
theorem c317_X4_rangeNear (l : Launch) (G : va_G) (cy : Nat → ClassId) (sa : String → Nat → Nat) (sv : Nat → Nat) (h0 h1 h2 h3 h4 h5 h6 h7 h8 h9 h10 : Nat) (v0 v1 v2 : Int32) (p0 : v0 ≤ v1) : xX l G cy sa sv yX4_rangeNear (Cond.code yX4_rangeNear cX4_rangeNear 6 (some .int) :: XG) { frames := 12, cells := 1, slots := 6, locals := 341 } [.ref h0, .int v0, .int v1, .int v2, .int 0] [(h0, .inr (8, [.ref h1, .ref h3, .ref h4, .ref h5, .ref h6, .int 0, .ref h7, .ref h8])), (h1, .inr (7, [.ref h2, .ref h9])), (h2, .inr (6, [.ref h10, .int 0]))] (fun f => [(h0, .inr (8, [.ref h1, .ref h3, .ref h4, .ref h5, .ref h6, .int 0, .ref h7, .ref h8])), (h1, .inr (7, [.ref h2, .ref h9])), (h2, .inr (6, [.ref h10, .int 0]))]) "java/lang/IllegalStateException" := by
  refine xofX (by decide) (Nat.le_of_ble_eq_true rfl) (fun p e s m below meth c A C w hno ls hl => ?_)
  have hl : lv_has ls 6 [(0, .ref h0), (1, .int v0), (2, .int v1), (3, .int v2), (4, .int 0)] := hl
  refine lv_iload_n C.1 C.2.1 dX4_rangeNear_0 rfl (lv_at hl 1 rfl) ?_
  refine lv_iload_n C.1 C.2.1 dX4_rangeNear_1 rfl (lv_at hl 2 rfl) ?_
  refine x_kv C w [] [0, 1, 2] rfl rfl (by decide) (by decide) (va_runS (As := [.int v0, .int v1]) (rest := []) (xfix C) (c302_X4_checkRange l G cy sa sv v0 v1 p0 (xtr C) _) (va_cwS 2 (xhts C) (xgS gw_390 gw_391 gw_2 gc_X4_checkRange) rfl rfl rfl (by decide +kernel) ⟨(Nat.le_of_ble_eq_true rfl), (Nat.le_of_ble_eq_true rfl)⟩) (xPS C w [] rfl (by decide)) rfl rfl hl.1 rfl (lv_room (Nat.le_of_ble_eq_true rfl)) dX4_rangeNear_2 ⟨(Nat.le_of_ble_eq_true rfl), (Nat.le_of_ble_eq_true rfl)⟩) (fun f1798 H locs w => ?_)
  have w : xW G A s [(h0, .inr (8, [.ref h1, .ref h3, .ref h4, .ref h5, .ref h6, .int 0, .ref h7, .ref h8])), (h1, .inr (7, [.ref h2, .ref h9])), (h2, .inr (6, [.ref h10, .int 0]))] H _ := w
  refine lv_iload C.1 C.2.1 dX4_rangeNear_5 (lv_at hl 4 rfl) ?_
  refine x_kv C w [] [0, 1, 2] rfl rfl (by decide) (by decide) (va_runS (As := [.int 0]) (rest := []) (xfix C) (c141_X4_checkHow l G cy sa sv (xtr C) _) (va_cwS 1 (xhts C) (xgS gw_416 gw_417 gw_2 gc_X4_checkHow) rfl rfl rfl (by decide +kernel) ⟨(Nat.le_of_ble_eq_true rfl), (Nat.le_of_ble_eq_true rfl)⟩) (xPS C w [] rfl (by decide)) rfl rfl hl.1 rfl (lv_room (Nat.le_of_ble_eq_true rfl)) dX4_rangeNear_7 ⟨(Nat.le_of_ble_eq_true rfl), (Nat.le_of_ble_eq_true rfl)⟩) (fun f1799 H locs w => ?_)
  have w : xW G A s [(h0, .inr (8, [.ref h1, .ref h3, .ref h4, .ref h5, .ref h6, .int 0, .ref h7, .ref h8])), (h1, .inr (7, [.ref h2, .ref h9])), (h2, .inr (6, [.ref h10, .int 0]))] H _ := w
  refine lv_aload_n C.1 C.2.1 dX4_rangeNear_10 rfl (lv_at hl 0 rfl) ?_
  refine x_get (v := .ref h1) C w 0 8 0 (xin_X4 _) rfl rfl (by decide) (List.mem_cons_of_mem _ gw_24) rfl rfl dX4_rangeNear_11 ?_
  refine lv_iload_n C.1 C.2.1 dX4_rangeNear_14 rfl (lv_at hl 1 rfl) ?_
  refine lv_iload_n C.1 C.2.1 dX4_rangeNear_15 rfl (lv_at hl 2 rfl) ?_
  refine lv_iload_n C.1 C.2.1 dX4_rangeNear_16 rfl (lv_at hl 3 rfl) ?_
  refine lv_iload C.1 C.2.1 dX4_rangeNear_17 (lv_at hl 4 rfl) ?_
  refine x_ki C w [1, 2] [0] rfl rfl (by decide) (by decide) (va_runV (As := [.int v0, .int v1, .int v2, .int 0]) (rest := []) (xfix C) (c316_X3_placeNear l G cy sa sv h1 h2 h9 h10 v0 v1 v2 (xtr C) _) (cwV 4 (xhts C) (xgV (maxL := 0) (cc := ⟨#[]⟩) (ret := none) gw_424 gw_425 gw_426 gw_7 gc_X3_placeNear) rfl rfl rfl (by decide +kernel) ⟨(Nat.le_of_ble_eq_true rfl), (Nat.le_of_ble_eq_true rfl)⟩) (xPV C w [1, 2] rfl (by decide) (ci := 7) (q0 := 1) rfl rfl) rfl rfl hl.1 rfl (lv_room (Nat.le_of_ble_eq_true rfl)) dX4_rangeNear_19 ⟨(Nat.le_of_ble_eq_true rfl), (Nat.le_of_ble_eq_true rfl)⟩) (fun f1810 H locs w => ?_)
  have w : xW G A s [(h0, .inr (8, [.ref h1, .ref h3, .ref h4, .ref h5, .ref h6, .int 0, .ref h7, .ref h8])), (h1, .inr (7, [.ref h2, .ref h9])), (h2, .inr (6, [.ref h10, .int 0]))] H _ := w
  refine lv_istore (lv' := [(5, .int (-1)), (0, .ref h0), (1, .int v0), (2, .int v1), (3, .int v2), (4, .int 0)]) C.1 C.2.1 dX4_rangeNear_22 hl (by decide) rfl (fun ls hl => ?_)
  refine lv_iload C.1 C.2.1 dX4_rangeNear_24 (lv_at hl 0 rfl) ?_
  refine lv_iconst (v := (-1)) C.1 C.2.1 dX4_rangeNear_26 (by decide) ?_
  refine lv_icmp_ne (tgt := 40) C.1 C.2.1 dX4_rangeNear_27 (by decide) (fun c9 => absurd (by decide) c9) (fun _ => ?_)
  exact x_thr C w hno hl.1 (by decide) (List.mem_cons_of_mem _ gw_397) (List.mem_cons_of_mem _ gw_398) (tx := "there is no such key") (List.mem_of_getElem? (i := 1) rfl) (xat_161 C (fun w h => List.mem_cons_of_mem _ h)) xatg_161 dX4_rangeNear_30 dX4_rangeNear_33 dX4_rangeNear_34 dX4_rangeNear_36 dX4_rangeNear_39 (Nat.le_of_ble_eq_true rfl) (Nat.le_of_ble_eq_true rfl) (Nat.le_of_ble_eq_true rfl) (Nat.le_of_ble_eq_true rfl) rfl rfl (fun _ => 0) rfl
set_option maxHeartbeats 4000000 in
set_option maxRecDepth 100000 in
theorem c318_L_rangeNear (l : Launch) (G : va_G) (cy : Nat → ClassId) (sa : String → Nat → Nat) (sv : Nat → Nat) (h0 h1 h2 h3 h4 h5 h6 h7 h8 h9 h10 h11 : Nat) (v0 v1 v2 : Int32) (p0 : v0 ≤ v1) : xM l G cy sa sv yL_rangeNear (Cond.codeWith yL_rangeNear cL_rangeNear 7 (some .int) [(0, 15, 18, 19), (0, 15, 22, 21)] :: XG) { frames := 13, cells := 1, slots := 6, locals := 366 } [.ref h0, .int v0, .int v1, .int v2, .int 0, .ref h1] [(h0, .inr (8, [.ref h2, .ref h4, .ref h5, .ref h6, .ref h7, .int 0, .ref h8, .ref h9])), (h2, .inr (7, [.ref h3, .ref h10])), (h3, .inr (6, [.ref h11, .int 0]))] (xQi G (fun f => [(h0, .inr (8, [.ref h2, .ref h4, .ref h5, .ref h6, .ref h7, .int 0, .ref h8, .ref h9])), (h2, .inr (7, [.ref h3, .ref h10])), (h3, .inr (6, [.ref h11, .int 0]))]) 2) := by
  refine xofH (by decide) (Nat.le_of_ble_eq_true rfl) (fun p e s m below meth c A C w hr hn hT ls hl => ?_)
  have hl : lv_has ls 7 [(0, .ref h0), (1, .int v0), (2, .int v1), (3, .int v2), (4, .int 0), (5, .ref h1)] := hl
  refine lv_aload C.1 C.2.1 dL_rangeNear_0 (lv_at hl 5 rfl) ?_
  refine lv_aload_n C.1 C.2.1 dL_rangeNear_2 rfl (lv_at hl 0 rfl) ?_
  refine lv_iload_n C.1 C.2.1 dL_rangeNear_3 rfl (lv_at hl 1 rfl) ?_
  refine lv_iload_n C.1 C.2.1 dL_rangeNear_4 rfl (lv_at hl 2 rfl) ?_
  refine lv_iload_n C.1 C.2.1 dL_rangeNear_5 rfl (lv_at hl 3 rfl) ?_
  refine lv_iload C.1 C.2.1 dL_rangeNear_6 (lv_at hl 4 rfl) ?_
  refine x_kx C w [0, 1, 2] [] rfl rfl (by decide) (by decide) (vx_runV (As := [.int v0, .int v1, .int v2, .int 0]) (rest := [.ref h1]) (xfix C) (c317_X4_rangeNear l G cy sa sv h0 h2 h3 h4 h5 h6 h7 h8 h9 h10 h11 v0 v1 v2 p0 (xtr C) _) (cwV 4 (xhts C) (xgV (maxL := 0) (cc := ⟨#[]⟩) (ret := none) gw_685 gw_429 gw_430 gw_2 gc_X4_rangeNear) rfl rfl rfl (by decide +kernel) ⟨(Nat.le_of_ble_eq_true rfl), (Nat.le_of_ble_eq_true rfl)⟩) (xPV C w [0, 1, 2] rfl (by decide) (ci := 8) (q0 := 0) rfl rfl) rfl rfl hl.1 rfl (lv_room (Nat.le_of_ble_eq_true rfl)) dL_rangeNear_8 ⟨(Nat.le_of_ble_eq_true rfl), (Nat.le_of_ble_eq_true rfl)⟩) (fun f1811 H locs ce q9 w hce hcv hcl => ?_)
  have w : xW G A s [(h0, .inr (8, [.ref h2, .ref h4, .ref h5, .ref h6, .ref h7, .int 0, .ref h8, .ref h9])), (h2, .inr (7, [.ref h3, .ref h10])), (h3, .inr (6, [.ref h11, .int 0]))] H _ := w
  refine vx_widen (k := 1) (n := 6) (Nat.le_of_ble_eq_true rfl) (Nat.le_of_ble_eq_true rfl) ?_
  refine vx_catch (xown C) [⟨0, 15, 18, 19⟩] ⟨0, 15, 22, 21⟩ [] hT (fun z hz => Or.inr (by cases List.mem_singleton.mp hz; exact ⟨by decide, "java/lang/IllegalArgumentException", xhts C _ (List.mem_cons_of_mem _ gw_104), xs_n1 (xS C)⟩)) (by decide) (by decide) (xhts C _ (List.mem_cons_of_mem _ gw_407)) (va_any rfl (xs_c2 (xS C))) hce hcv hcl ?_
  refine lv_astore (lv' := [(6, .ref q9), (0, .ref h0), (1, .int v0), (2, .int v1), (3, .int v2), (4, .int 0), (5, .ref h1)]) C.1 C.2.1 dL_rangeNear_22 hl (by decide) rfl (fun ls hl => ?_)
  refine lv_iconst (v := 2) C.1 C.2.1 dL_rangeNear_24 (by decide) ?_
  exact x_iret C w hr (fun _ => 0) rfl rfl dL_rangeNear_25 (Nat.le_of_ble_eq_true rfl) (Nat.le_of_ble_eq_true rfl)
set_option maxHeartbeats 4000000 in
set_option maxRecDepth 100000 in
theorem c319_X6_rangeNear (l : Launch) (G : va_G) (cy : Nat → ClassId) (sa : String → Nat → Nat) (sv : Nat → Nat) (h0 h1 h2 h3 h4 h5 h6 h7 : Nat) (v0 v1 v2 : Int32) (p0 : ¬ v1 < v0) : xM l G cy sa sv yX6_rangeNear (Cond.code yX6_rangeNear cX6_rangeNear 5 (some .int) :: XG) { frames := 12, cells := 1, slots := 3, locals := 334 } [.ref h0, .int v0, .int v1, .int v2, .int 0] [(h0, .inr (10, [.ref h1, .ref h2, .ref h3, .ref h4, .ref h5, .ref h6, .ref h7, .int 0, .int 0])), (h1, .inr (3, [.int 0, .ref (sv 0), .int 0]))] (xQi G (fun f => [(h0, .inr (10, [.ref h1, .ref h2, .ref h3, .ref h4, .ref h5, .ref h6, .ref h7, .int 0, .int 2])), (h1, .inr (3, [.int 0, .ref (sv 0), .int 0]))]) 0) := by
  refine xof (by decide) (Nat.le_of_ble_eq_true rfl) (fun p e s m below meth c A C w hr hn ls hl => ?_)
  have hl : lv_has ls 5 [(0, .ref h0), (1, .int v0), (2, .int v1), (3, .int v2), (4, .int 0)] := hl
  refine lv_aload_n C.1 C.2.1 dX6_rangeNear_0 rfl (lv_at hl 0 rfl) ?_
  refine lv_iload_n C.1 C.2.1 dX6_rangeNear_1 rfl (lv_at hl 1 rfl) ?_
  refine lv_iload_n C.1 C.2.1 dX6_rangeNear_2 rfl (lv_at hl 2 rfl) ?_
  refine lv_icmp_gt (tgt := 14) C.1 C.2.1 dX6_rangeNear_3 (by decide) (fun c9 => absurd c9 p0) (fun _ => ?_)
  refine lv_iload C.1 C.2.1 dX6_rangeNear_6 (lv_at hl 4 rfl) ?_
  refine x_ki C w [] [0, 1] rfl rfl (by decide) (by decide) (va_runS (As := [.int 0]) (rest := [.ref h0]) (xfix C) (c147_X6_isNoHow l G cy sa sv (xtr C) _) (va_cwS 1 (xhts C) (xgS gw_439 gw_440 gw_58 gc_X6_isNoHow) rfl rfl rfl (by decide +kernel) ⟨(Nat.le_of_ble_eq_true rfl), (Nat.le_of_ble_eq_true rfl)⟩) (xPS C w [] rfl (by decide)) rfl rfl hl.1 rfl (lv_room (Nat.le_of_ble_eq_true rfl)) dX6_rangeNear_8 ⟨(Nat.le_of_ble_eq_true rfl), (Nat.le_of_ble_eq_true rfl)⟩) (fun f1816 H locs w => ?_)
  have w : xW G A s [(h0, .inr (10, [.ref h1, .ref h2, .ref h3, .ref h4, .ref h5, .ref h6, .ref h7, .int 0, .int 0])), (h1, .inr (3, [.int 0, .ref (sv 0), .int 0]))] H _ := w
  refine lv_if_eq (tgt := 18) C.1 C.2.1 dX6_rangeNear_11 (by decide) (fun _ => ?_) (fun c9 => absurd (by decide) c9)
  refine lv_iconst (v := 0) C.1 C.2.1 dX6_rangeNear_18 (by decide) ?_
  refine lv_iconst (v := 1) C.1 C.2.1 dX6_rangeNear_19 (by decide) ?_
  refine x_ki C w [0] [1] rfl rfl (by decide) (by decide) (va_runV (As := [.int 0, .int 1]) (rest := []) (xfix C) (c46_X6_start l G cy sa sv h0 h1 h2 h3 h4 h5 h6 h7 (xtr C) _) (cwV 2 (xhts C) (xgV (maxL := 0) (cc := ⟨#[]⟩) (ret := none) gw_114 gw_115 gw_116 gw_58 gc_X6_start) rfl rfl rfl (by decide +kernel) ⟨(Nat.le_of_ble_eq_true rfl), (Nat.le_of_ble_eq_true rfl)⟩) (xPV C w [0] rfl (by decide) (ci := 10) (q0 := 0) rfl rfl) rfl rfl hl.1 rfl (lv_room (Nat.le_of_ble_eq_true rfl)) dX6_rangeNear_20 ⟨(Nat.le_of_ble_eq_true rfl), (Nat.le_of_ble_eq_true rfl)⟩) (fun f1817 H locs w => ?_)
  have w : xW G A s [(h1, .inr (3, [.int 0, .ref (sv 0), .int 0])), (h0, .inr (10, [.ref h1, .ref h2, .ref h3, .ref h4, .ref h5, .ref h6, .ref h7, .int 0, .int 0]))] H _ := w
  refine lv_if_ne (tgt := 54) C.1 C.2.1 dX6_rangeNear_23 (by decide) (fun c9 => absurd (by decide) c9) (fun _ => ?_)
  refine lv_aload_n C.1 C.2.1 dX6_rangeNear_26 rfl (lv_at hl 0 rfl) ?_
  refine lv_aload_n C.1 C.2.1 dX6_rangeNear_27 rfl (lv_at hl 0 rfl) ?_
  refine lv_iload_n C.1 C.2.1 dX6_rangeNear_28 rfl (lv_at hl 1 rfl) ?_
  refine lv_iload_n C.1 C.2.1 dX6_rangeNear_29 rfl (lv_at hl 2 rfl) ?_
  refine x_kr C w [1, 0] [] rfl rfl (by decide) (by decide) (va_runV (As := [.int v0, .int v1]) (rest := [.ref h0]) (xfix C) (c298_X6_range l G cy sa sv h0 h1 h2 h3 h4 h5 h6 h7 v0 v1 (xtr C) _) (cwV 2 (xhts C) (xgV (maxL := 0) (cc := ⟨#[]⟩) (ret := none) gw_670 gw_671 gw_672 gw_58 gc_X6_range) rfl rfl rfl (by decide +kernel) ⟨(Nat.le_of_ble_eq_true rfl), (Nat.le_of_ble_eq_true rfl)⟩) (xPV C w [1, 0] rfl (by decide) (ci := 10) (q0 := 1) rfl rfl) rfl rfl hl.1 rfl (lv_room (Nat.le_of_ble_eq_true rfl)) dX6_rangeNear_30 ⟨(Nat.le_of_ble_eq_true rfl), (Nat.le_of_ble_eq_true rfl)⟩) (fun f1826 H locs w => ?_)
  have w : xW G A s [(h0, .inr (10, [.ref h1, .ref h2, .ref h3, .ref h4, .ref h5, .ref h6, .ref h7, .int 0, .int 0])), (h1, .inr (3, [.int 0, .ref (sv 0), .int 0])), ((f1826 0), .inr (3, [.int 0, .ref (sv 0), .int 0]))] H _ := w
  refine W.widen (k := 1) (n := 3) (Nat.le_of_ble_eq_true rfl) (Nat.le_of_ble_eq_true rfl) ?_
  refine lv_iload_n C.1 C.2.1 dX6_rangeNear_33 rfl (lv_at hl 3 rfl) ?_
  refine lv_iload C.1 C.2.1 dX6_rangeNear_34 (lv_at hl 4 rfl) ?_
  refine x_kn C w [2] [0, 1] rfl rfl (by decide) (by decide) (va_runS (As := [.ref (f1826 0), .int v2, .int 0]) (rest := [.ref h0]) (xfix C) (c148_X6_nearIn l G cy sa sv (f1826 0) v2 (xtr C) _) (va_cwS 3 (xhts C) (xgS gw_442 gw_443 gw_58 gc_X6_nearIn) rfl rfl rfl (by decide +kernel) ⟨(Nat.le_of_ble_eq_true rfl), (Nat.le_of_ble_eq_true rfl)⟩) (xPS C w [2] rfl (by decide)) rfl rfl hl.1 rfl (lv_room (Nat.le_of_ble_eq_true rfl)) dX6_rangeNear_36 ⟨(Nat.le_of_ble_eq_true rfl), (Nat.le_of_ble_eq_true rfl)⟩) (fun f1828 H locs w => ?_)
  have w : xW G A s [(h0, .inr (10, [.ref h1, .ref h2, .ref h3, .ref h4, .ref h5, .ref h6, .ref h7, .int 0, .int 0])), (h1, .inr (3, [.int 0, .ref (sv 0), .int 0])), ((f1826 0), .inr (3, [.int 0, .ref (sv 0), .int 0]))] H _ := w
  refine lv_ifnonnullN C.1 C.2.1 dX6_rangeNear_39 ?_
  refine lv_iconst (v := 1) C.1 C.2.1 dX6_rangeNear_42 (by decide) ?_
  refine lv_goto (tgt := 47) C.1 C.2.1 dX6_rangeNear_43 (by decide) ?_
  refine lv_iconst (v := 2) C.1 C.2.1 dX6_rangeNear_47 (by decide) ?_
  refine x_ki C w [0] [1, 2] rfl rfl (by decide) (by decide) (va_runV (As := [.int 1, .int 2]) (rest := []) (xfix C) (c149_X6_fails l G cy sa sv h0 h1 h2 h3 h4 h5 h6 h7 (xtr C) _) (cwV 2 (xhts C) (xgV (maxL := 0) (cc := ⟨#[]⟩) (ret := none) gw_203 gw_204 gw_205 gw_58 gc_X6_fails) rfl rfl rfl (by decide +kernel) ⟨(Nat.le_of_ble_eq_true rfl), (Nat.le_of_ble_eq_true rfl)⟩) (xPV C w [0] rfl (by decide) (ci := 10) (q0 := 0) rfl rfl) rfl rfl hl.1 rfl (lv_room (Nat.le_of_ble_eq_true rfl)) dX6_rangeNear_48 ⟨(Nat.le_of_ble_eq_true rfl), (Nat.le_of_ble_eq_true rfl)⟩) (fun f1829 H locs w => ?_)
  have w : xW G A s [(h1, .inr (3, [.int 0, .ref (sv 0), .int 0])), ((f1826 0), .inr (3, [.int 0, .ref (sv 0), .int 0])), (h0, .inr (10, [.ref h1, .ref h2, .ref h3, .ref h4, .ref h5, .ref h6, .ref h7, .int 0, .int 2]))] H _ := w
  refine lv_if_eq (tgt := 58) C.1 C.2.1 dX6_rangeNear_51 (by decide) (fun c9 => absurd c9 (by decide)) (fun _ => ?_)
  refine lv_iconst (v := 0) C.1 C.2.1 dX6_rangeNear_54 (by decide) ?_
  refine lv_goto (tgt := 72) C.1 C.2.1 dX6_rangeNear_55 (by decide) ?_
  have w := w.sub (ws' := [(h0, .inr (10, [.ref h1, .ref h2, .ref h3, .ref h4, .ref h5, .ref h6, .ref h7, .int 0, .int 2])), (h1, .inr (3, [.int 0, .ref (sv 0), .int 0]))]) [2, 0] (by decide) rfl rfl
  exact x_iret C w hr (fun _ => 0) rfl rfl dX6_rangeNear_72 (Nat.le_of_ble_eq_true rfl) (Nat.le_of_ble_eq_true rfl)
set_option maxHeartbeats 4000000 in
set_option maxRecDepth 100000 in
theorem c320_X4_rangeNear (l : Launch) (G : va_G) (cy : Nat → ClassId) (sa : String → Nat → Nat) (sv : Nat → Nat) (h0 : Nat) (v0 v1 v2 : Int32) (p0 : ¬ v0 ≤ v1) : xX l G cy sa sv yX4_rangeNear (Cond.code yX4_rangeNear cX4_rangeNear 6 (some .int) :: XG) { frames := 9, cells := 1, slots := 6, locals := 271 } [.ref h0, .int v0, .int v1, .int v2, .int 0] [] (fun f => []) "java/lang/IllegalArgumentException" := by
  refine xofX (by decide) (Nat.le_of_ble_eq_true rfl) (fun p e s m below meth c A C w hno ls hl => ?_)
  have hl : lv_has ls 6 [(0, .ref h0), (1, .int v0), (2, .int v1), (3, .int v2), (4, .int 0)] := hl
  refine lv_iload_n C.1 C.2.1 dX4_rangeNear_0 rfl (lv_at hl 1 rfl) ?_
  refine lv_iload_n C.1 C.2.1 dX4_rangeNear_1 rfl (lv_at hl 2 rfl) ?_
  refine x_kx C w [] [] rfl rfl (by decide) (by decide) (vx_runS (As := [.int v0, .int v1]) (rest := []) (xfix C) (c306_X4_checkRange l G cy sa sv v0 v1 p0 (xtr C) _) (va_cwS 2 (xhts C) (xgS gw_390 gw_391 gw_2 gc_X4_checkRange) rfl rfl rfl (by decide +kernel) ⟨(Nat.le_of_ble_eq_true rfl), (Nat.le_of_ble_eq_true rfl)⟩) (xPS C w [] rfl (by decide)) rfl rfl hl.1 rfl (lv_room (Nat.le_of_ble_eq_true rfl)) dX4_rangeNear_2 ⟨(Nat.le_of_ble_eq_true rfl), (Nat.le_of_ble_eq_true rfl)⟩) (fun f1836 H locs ce q9 w hce hcv hcl => ?_)
  have w : xW G A s [] H _ := w
  refine vx_widen (k := 1) (n := 6) (Nat.le_of_ble_eq_true rfl) (Nat.le_of_ble_eq_true rfl) ?_
  exact x_out C w hno (fun _ => 0) rfl hce hcv hcl (Nat.le_of_ble_eq_true rfl) (Nat.le_of_ble_eq_true rfl)
set_option maxHeartbeats 4000000 in
set_option maxRecDepth 100000 in
theorem c321_L_rangeNear (l : Launch) (G : va_G) (cy : Nat → ClassId) (sa : String → Nat → Nat) (sv : Nat → Nat) (h0 h1 h2 h3 h4 h5 h6 h7 h8 : Nat) (v0 v1 v2 : Int32) (p0 : ¬ v0 ≤ v1) : xM l G cy sa sv yL_rangeNear (Cond.codeWith yL_rangeNear cL_rangeNear 7 (some .int) [(0, 15, 18, 19), (0, 15, 22, 21)] :: XG) { frames := 10, cells := 1, slots := 6, locals := 296 } [.ref h0, .int v0, .int v1, .int v2, .int 0, .ref h1] [(h0, .inr (8, [.ref h2, .ref h3, .ref h4, .ref h5, .ref h6, .int 0, .ref h7, .ref h8]))] (xQi G (fun f => [(h0, .inr (8, [.ref h2, .ref h3, .ref h4, .ref h5, .ref h6, .int 0, .ref h7, .ref h8]))]) 1) := by
  refine xofH (by decide) (Nat.le_of_ble_eq_true rfl) (fun p e s m below meth c A C w hr hn hT ls hl => ?_)
  have hl : lv_has ls 7 [(0, .ref h0), (1, .int v0), (2, .int v1), (3, .int v2), (4, .int 0), (5, .ref h1)] := hl
  refine lv_aload C.1 C.2.1 dL_rangeNear_0 (lv_at hl 5 rfl) ?_
  refine lv_aload_n C.1 C.2.1 dL_rangeNear_2 rfl (lv_at hl 0 rfl) ?_
  refine lv_iload_n C.1 C.2.1 dL_rangeNear_3 rfl (lv_at hl 1 rfl) ?_
  refine lv_iload_n C.1 C.2.1 dL_rangeNear_4 rfl (lv_at hl 2 rfl) ?_
  refine lv_iload_n C.1 C.2.1 dL_rangeNear_5 rfl (lv_at hl 3 rfl) ?_
  refine lv_iload C.1 C.2.1 dL_rangeNear_6 (lv_at hl 4 rfl) ?_
  refine x_kx C w [] [0] rfl rfl (by decide) (by decide) (vx_runV (As := [.int v0, .int v1, .int v2, .int 0]) (rest := [.ref h1]) (xfix C) (c320_X4_rangeNear l G cy sa sv h0 v0 v1 v2 p0 (xtr C) _) (cwV 4 (xhts C) (xgV (maxL := 0) (cc := ⟨#[]⟩) (ret := none) gw_685 gw_429 gw_430 gw_2 gc_X4_rangeNear) rfl rfl rfl (by decide +kernel) ⟨(Nat.le_of_ble_eq_true rfl), (Nat.le_of_ble_eq_true rfl)⟩) (xPV C w [] rfl (by decide) (ci := 8) (q0 := 0) rfl rfl) rfl rfl hl.1 rfl (lv_room (Nat.le_of_ble_eq_true rfl)) dL_rangeNear_8 ⟨(Nat.le_of_ble_eq_true rfl), (Nat.le_of_ble_eq_true rfl)⟩) (fun f1837 H locs ce q9 w hce hcv hcl => ?_)
  have w : xW G A s [(h0, .inr (8, [.ref h2, .ref h3, .ref h4, .ref h5, .ref h6, .int 0, .ref h7, .ref h8]))] H _ := w
  refine vx_widen (k := 1) (n := 6) (Nat.le_of_ble_eq_true rfl) (Nat.le_of_ble_eq_true rfl) ?_
  refine vx_catch (xown C) [] ⟨0, 15, 18, 19⟩ [⟨0, 15, 22, 21⟩] hT (fun z hz => nomatch hz) (by decide) (by decide) (xhts C _ (List.mem_cons_of_mem _ gw_104)) (va_any rfl (xs_c1 (xS C))) hce hcv hcl ?_
  refine lv_astore (lv' := [(6, .ref q9), (0, .ref h0), (1, .int v0), (2, .int v1), (3, .int v2), (4, .int 0), (5, .ref h1)]) C.1 C.2.1 dL_rangeNear_18 hl (by decide) rfl (fun ls hl => ?_)
  refine lv_iconst (v := 1) C.1 C.2.1 dL_rangeNear_20 (by decide) ?_
  exact x_iret C w hr (fun _ => 0) rfl rfl dL_rangeNear_21 (Nat.le_of_ble_eq_true rfl) (Nat.le_of_ble_eq_true rfl)
set_option maxHeartbeats 4000000 in
set_option maxRecDepth 100000 in
theorem c322_X6_rangeNear (l : Launch) (G : va_G) (cy : Nat → ClassId) (sa : String → Nat → Nat) (sv : Nat → Nat) (h0 h1 h2 h3 h4 h5 h6 h7 : Nat) (v0 v1 v2 : Int32) (p0 : v1 < v0) : xM l G cy sa sv yX6_rangeNear (Cond.code yX6_rangeNear cX6_rangeNear 5 (some .int) :: XG) { frames := 9, cells := 0, slots := 0, locals := 272 } [.ref h0, .int v0, .int v1, .int v2, .int 0] [(h0, .inr (10, [.ref h1, .ref h2, .ref h3, .ref h4, .ref h5, .ref h6, .ref h7, .int 0, .int 0]))] (xQi G (fun f => [(h0, .inr (10, [.ref h1, .ref h2, .ref h3, .ref h4, .ref h5, .ref h6, .ref h7, .int 0, .int 1]))]) 0) := by
  refine xof (by decide) (Nat.le_of_ble_eq_true rfl) (fun p e s m below meth c A C w hr hn ls hl => ?_)
  have hl : lv_has ls 5 [(0, .ref h0), (1, .int v0), (2, .int v1), (3, .int v2), (4, .int 0)] := hl
  refine lv_aload_n C.1 C.2.1 dX6_rangeNear_0 rfl (lv_at hl 0 rfl) ?_
  refine lv_iload_n C.1 C.2.1 dX6_rangeNear_1 rfl (lv_at hl 1 rfl) ?_
  refine lv_iload_n C.1 C.2.1 dX6_rangeNear_2 rfl (lv_at hl 2 rfl) ?_
  refine lv_icmp_gt (tgt := 14) C.1 C.2.1 dX6_rangeNear_3 (by decide) (fun _ => ?_) (fun c9 => absurd p0 c9)
  refine lv_iconst (v := 1) C.1 C.2.1 dX6_rangeNear_14 (by decide) ?_
  refine lv_goto (tgt := 19) C.1 C.2.1 dX6_rangeNear_15 (by decide) ?_
  refine lv_iconst (v := 1) C.1 C.2.1 dX6_rangeNear_19 (by decide) ?_
  refine x_ki C w [0] [] rfl rfl (by decide) (by decide) (va_runV (As := [.int 1, .int 1]) (rest := []) (xfix C) (c17_X6_start l G cy sa sv h0 h1 h2 h3 h4 h5 h6 h7 (xtr C) _) (cwV 2 (xhts C) (xgV (maxL := 0) (cc := ⟨#[]⟩) (ret := none) gw_114 gw_115 gw_116 gw_58 gc_X6_start) rfl rfl rfl (by decide +kernel) ⟨(Nat.le_of_ble_eq_true rfl), (Nat.le_of_ble_eq_true rfl)⟩) (xPV C w [0] rfl (by decide) (ci := 10) (q0 := 0) rfl rfl) rfl rfl hl.1 rfl (lv_room (Nat.le_of_ble_eq_true rfl)) dX6_rangeNear_20 ⟨(Nat.le_of_ble_eq_true rfl), (Nat.le_of_ble_eq_true rfl)⟩) (fun f1840 H locs w => ?_)
  have w : xW G A s [(h0, .inr (10, [.ref h1, .ref h2, .ref h3, .ref h4, .ref h5, .ref h6, .ref h7, .int 0, .int 1]))] H _ := w
  refine lv_if_ne (tgt := 54) C.1 C.2.1 dX6_rangeNear_23 (by decide) (fun _ => ?_) (fun c9 => absurd c9 (by decide))
  refine lv_iconst (v := 0) C.1 C.2.1 dX6_rangeNear_54 (by decide) ?_
  refine lv_goto (tgt := 72) C.1 C.2.1 dX6_rangeNear_55 (by decide) ?_
  exact x_iret C w hr (fun _ => 0) rfl rfl dX6_rangeNear_72 (Nat.le_of_ble_eq_true rfl) (Nat.le_of_ble_eq_true rfl)
set_option maxHeartbeats 4000000 in
set_option maxRecDepth 100000 in
theorem c323_X3_placeNear (l : Launch) (G : va_G) (cy : Nat → ClassId) (sa : String → Nat → Nat) (sv : Nat → Nat) (h0 h1 h2 h3 : Nat) (v0 v1 v2 : Int32) : xM l G cy sa sv yX3_placeNear (Cond.code yX3_placeNear cX3_placeNear 8 (some .int) :: XG) { frames := 11, cells := 0, slots := 0, locals := 314 } [.ref h0, .int v0, .int v1, .int v2, .int 1] [(h0, .inr (7, [.ref h1, .ref h2])), (h1, .inr (6, [.ref h3, .int 0]))] (xQi G (fun f => [(h0, .inr (7, [.ref h1, .ref h2])), (h1, .inr (6, [.ref h3, .int 0]))]) (-1)) := by
  refine xof (by decide) (Nat.le_of_ble_eq_true rfl) (fun p e s m below meth c A C w hr hn ls hl => ?_)
  have hl : lv_has ls 8 [(0, .ref h0), (1, .int v0), (2, .int v1), (3, .int v2), (4, .int 1)] := hl
  refine lv_aload_n C.1 C.2.1 dX3_placeNear_0 rfl (lv_at hl 0 rfl) ?_
  refine lv_iload_n C.1 C.2.1 dX3_placeNear_1 rfl (lv_at hl 1 rfl) ?_
  refine x_ki C w [0, 1] [] rfl rfl (by decide) (by decide) (va_runV (As := [.int v0]) (rest := []) (xfix C) (c31_X3_countBelow l G cy sa sv h0 h1 h2 h3 v0 (xtr C) _) (cwV 1 (xhts C) (xgV (maxL := 0) (cc := ⟨#[]⟩) (ret := none) gw_158 gw_159 gw_160 gw_7 gc_X3_countBelow) rfl rfl rfl (by decide +kernel) ⟨(Nat.le_of_ble_eq_true rfl), (Nat.le_of_ble_eq_true rfl)⟩) (xPV C w [0, 1] rfl (by decide) (ci := 7) (q0 := 0) rfl rfl) rfl rfl hl.1 rfl (lv_room (Nat.le_of_ble_eq_true rfl)) dX3_placeNear_2 ⟨(Nat.le_of_ble_eq_true rfl), (Nat.le_of_ble_eq_true rfl)⟩) (fun f1854 H locs w => ?_)
  have w : xW G A s [(h0, .inr (7, [.ref h1, .ref h2])), (h1, .inr (6, [.ref h3, .int 0]))] H _ := w
  refine lv_istore (lv' := [(5, .int 0), (0, .ref h0), (1, .int v0), (2, .int v1), (3, .int v2), (4, .int 1)]) C.1 C.2.1 dX3_placeNear_5 hl (by decide) rfl (fun ls hl => ?_)
  refine lv_aload_n C.1 C.2.1 dX3_placeNear_7 rfl (lv_at hl 1 rfl) ?_
  refine lv_iload_n C.1 C.2.1 dX3_placeNear_8 rfl (lv_at hl 3 rfl) ?_
  refine x_ki C w [0, 1] [] rfl rfl (by decide) (by decide) (va_runV (As := [.int v1]) (rest := []) (xfix C) (c153_X3_countNotAbove l G cy sa sv h0 h1 h2 h3 v1 (xtr C) _) (cwV 1 (xhts C) (xgV (maxL := 0) (cc := ⟨#[]⟩) (ret := none) gw_392 gw_309 gw_310 gw_7 gc_X3_countNotAbove) rfl rfl rfl (by decide +kernel) ⟨(Nat.le_of_ble_eq_true rfl), (Nat.le_of_ble_eq_true rfl)⟩) (xPV C w [0, 1] rfl (by decide) (ci := 7) (q0 := 0) rfl rfl) rfl rfl hl.1 rfl (lv_room (Nat.le_of_ble_eq_true rfl)) dX3_placeNear_9 ⟨(Nat.le_of_ble_eq_true rfl), (Nat.le_of_ble_eq_true rfl)⟩) (fun f1859 H locs w => ?_)
  have w : xW G A s [(h0, .inr (7, [.ref h1, .ref h2])), (h1, .inr (6, [.ref h3, .int 0]))] H _ := w
  refine lv_iconst (v := 1) C.1 C.2.1 dX3_placeNear_12 (by decide) ?_
  refine lv_isub C.1 C.2.1 dX3_placeNear_13 ?_
  refine x_is (y := (-1)) (by decide) ?_
  refine lv_istore (lv' := [(6, .int (-1)), (5, .int 0), (0, .ref h0), (1, .int v0), (2, .int v1), (3, .int v2), (4, .int 1)]) C.1 C.2.1 dX3_placeNear_14 hl (by decide) rfl (fun ls hl => ?_)
  refine lv_iload C.1 C.2.1 dX3_placeNear_16 (lv_at hl 6 rfl) ?_
  refine lv_tableIn (off := 43) (tgt := 61) C.1 C.2.1 dX3_placeNear_18 (by decide) (by decide) (by decide) (by decide) ?_
  refine lv_aload_n C.1 C.2.1 dX3_placeNear_61 rfl (lv_at hl 2 rfl) ?_
  refine lv_iload_n C.1 C.2.1 dX3_placeNear_62 rfl (lv_at hl 5 rfl) ?_
  refine x_ki C w [0, 1] [] rfl rfl (by decide) (by decide) (va_runV (As := [.int v2]) (rest := []) (xfix C) (c153_X3_countNotAbove l G cy sa sv h0 h1 h2 h3 v2 (xtr C) _) (cwV 1 (xhts C) (xgV (maxL := 0) (cc := ⟨#[]⟩) (ret := none) gw_392 gw_309 gw_310 gw_7 gc_X3_countNotAbove) rfl rfl rfl (by decide +kernel) ⟨(Nat.le_of_ble_eq_true rfl), (Nat.le_of_ble_eq_true rfl)⟩) (xPV C w [0, 1] rfl (by decide) (ci := 7) (q0 := 0) rfl rfl) rfl rfl hl.1 rfl (lv_room (Nat.le_of_ble_eq_true rfl)) dX3_placeNear_63 ⟨(Nat.le_of_ble_eq_true rfl), (Nat.le_of_ble_eq_true rfl)⟩) (fun f1864 H locs w => ?_)
  have w : xW G A s [(h0, .inr (7, [.ref h1, .ref h2])), (h1, .inr (6, [.ref h3, .int 0]))] H _ := w
  refine lv_iconst (v := 1) C.1 C.2.1 dX3_placeNear_66 (by decide) ?_
  refine lv_isub C.1 C.2.1 dX3_placeNear_67 ?_
  refine x_is (y := (-1)) (by decide) ?_
  refine lv_iload C.1 C.2.1 dX3_placeNear_68 (lv_at hl 0 rfl) ?_
  refine va_mmin C.1 C.2.1 (C.2.2.1.trans hl.1.symm) (xown C) (xhts C _ (List.mem_cons_of_mem _ gw_419)) (xhts C _ (List.mem_cons_of_mem _ gw_420)) (xhts C _ (List.mem_cons_of_mem _ gw_217)) (xhts C _ (List.mem_cons_of_mem _ gm_min)) (Nat.le_of_ble_eq_true rfl) (Nat.le_of_ble_eq_true rfl) (Nat.le_of_ble_eq_true rfl) (Nat.le_of_ble_eq_true rfl) dX3_placeNear_70 ?_
  refine x_is (y := (-1)) (if_neg (by decide)) ?_
  refine lv_istore (lv' := [(7, .int (-1)), (6, .int (-1)), (5, .int 0), (0, .ref h0), (1, .int v0), (2, .int v1), (3, .int v2), (4, .int 1)]) C.1 C.2.1 dX3_placeNear_73 hl (by decide) rfl (fun ls hl => ?_)
  refine lv_goto (tgt := 105) C.1 C.2.1 dX3_placeNear_75 (by decide) ?_
  refine lv_iload C.1 C.2.1 dX3_placeNear_105 (lv_at hl 2 rfl) ?_
  refine lv_iload C.1 C.2.1 dX3_placeNear_107 (lv_at hl 1 rfl) ?_
  refine lv_iload C.1 C.2.1 dX3_placeNear_109 (lv_at hl 0 rfl) ?_
  refine x_ki C w [] [0, 1] rfl rfl (by decide) (by decide) (va_runSN (As := [.int 0, .int (-1), .int (-1)]) (rest := []) (xfix C) (c142_X4_isBetween l G cy sa sv (xtr C) _) ⟨(va_cnB 3 (xhts C) (xgI gc_X4_isBetween) rfl rfl rfl (xs_mB (xS C)) (xhts C _ (List.mem_cons_of_mem _ gw_2)) (by decide +kernel) ⟨(Nat.le_of_ble_eq_true rfl), (Nat.le_of_ble_eq_true rfl)⟩), xhts C _ (List.mem_cons_of_mem _ gw_422), trivial⟩ (xPS C w [] rfl (by decide)) rfl rfl hl.1 rfl (lv_room (Nat.le_of_ble_eq_true rfl)) dX3_placeNear_111 ⟨(Nat.le_of_ble_eq_true rfl), (Nat.le_of_ble_eq_true rfl)⟩) (fun f1865 H locs w => ?_)
  have w : xW G A s [(h0, .inr (7, [.ref h1, .ref h2])), (h1, .inr (6, [.ref h3, .int 0]))] H _ := w
  refine lv_if_eq (tgt := 122) C.1 C.2.1 dX3_placeNear_114 (by decide) (fun _ => ?_) (fun c9 => absurd (by decide) c9)
  refine lv_iconst (v := (-1)) C.1 C.2.1 dX3_placeNear_122 (by decide) ?_
  exact x_iret C w hr (fun _ => 0) rfl rfl dX3_placeNear_123 (Nat.le_of_ble_eq_true rfl) (Nat.le_of_ble_eq_true rfl)
set_option maxHeartbeats 4000000 in
set_option maxRecDepth 100000 in
theorem c324_X4_rangeNear (l : Launch) (G : va_G) (cy : Nat → ClassId) (sa : String → Nat → Nat) (sv : Nat → Nat) (h0 h1 h2 h3 h4 h5 h6 h7 h8 h9 h10 : Nat) (v0 v1 v2 : Int32) (p0 : v0 ≤ v1) : xX l G cy sa sv yX4_rangeNear (Cond.code yX4_rangeNear cX4_rangeNear 6 (some .int) :: XG) { frames := 12, cells := 1, slots := 6, locals := 341 } [.ref h0, .int v0, .int v1, .int v2, .int 1] [(h0, .inr (8, [.ref h1, .ref h3, .ref h4, .ref h5, .ref h6, .int 0, .ref h7, .ref h8])), (h1, .inr (7, [.ref h2, .ref h9])), (h2, .inr (6, [.ref h10, .int 0]))] (fun f => [(h0, .inr (8, [.ref h1, .ref h3, .ref h4, .ref h5, .ref h6, .int 0, .ref h7, .ref h8])), (h1, .inr (7, [.ref h2, .ref h9])), (h2, .inr (6, [.ref h10, .int 0]))]) "java/lang/IllegalStateException" := by
  refine xofX (by decide) (Nat.le_of_ble_eq_true rfl) (fun p e s m below meth c A C w hno ls hl => ?_)
  have hl : lv_has ls 6 [(0, .ref h0), (1, .int v0), (2, .int v1), (3, .int v2), (4, .int 1)] := hl
  refine lv_iload_n C.1 C.2.1 dX4_rangeNear_0 rfl (lv_at hl 1 rfl) ?_
  refine lv_iload_n C.1 C.2.1 dX4_rangeNear_1 rfl (lv_at hl 2 rfl) ?_
  refine x_kv C w [] [0, 1, 2] rfl rfl (by decide) (by decide) (va_runS (As := [.int v0, .int v1]) (rest := []) (xfix C) (c302_X4_checkRange l G cy sa sv v0 v1 p0 (xtr C) _) (va_cwS 2 (xhts C) (xgS gw_390 gw_391 gw_2 gc_X4_checkRange) rfl rfl rfl (by decide +kernel) ⟨(Nat.le_of_ble_eq_true rfl), (Nat.le_of_ble_eq_true rfl)⟩) (xPS C w [] rfl (by decide)) rfl rfl hl.1 rfl (lv_room (Nat.le_of_ble_eq_true rfl)) dX4_rangeNear_2 ⟨(Nat.le_of_ble_eq_true rfl), (Nat.le_of_ble_eq_true rfl)⟩) (fun f1851 H locs w => ?_)
  have w : xW G A s [(h0, .inr (8, [.ref h1, .ref h3, .ref h4, .ref h5, .ref h6, .int 0, .ref h7, .ref h8])), (h1, .inr (7, [.ref h2, .ref h9])), (h2, .inr (6, [.ref h10, .int 0]))] H _ := w
  refine lv_iload C.1 C.2.1 dX4_rangeNear_5 (lv_at hl 4 rfl) ?_
  refine x_kv C w [] [0, 1, 2] rfl rfl (by decide) (by decide) (va_runS (As := [.int 1]) (rest := []) (xfix C) (c152_X4_checkHow l G cy sa sv (xtr C) _) (va_cwS 1 (xhts C) (xgS gw_416 gw_417 gw_2 gc_X4_checkHow) rfl rfl rfl (by decide +kernel) ⟨(Nat.le_of_ble_eq_true rfl), (Nat.le_of_ble_eq_true rfl)⟩) (xPS C w [] rfl (by decide)) rfl rfl hl.1 rfl (lv_room (Nat.le_of_ble_eq_true rfl)) dX4_rangeNear_7 ⟨(Nat.le_of_ble_eq_true rfl), (Nat.le_of_ble_eq_true rfl)⟩) (fun f1852 H locs w => ?_)
  have w : xW G A s [(h0, .inr (8, [.ref h1, .ref h3, .ref h4, .ref h5, .ref h6, .int 0, .ref h7, .ref h8])), (h1, .inr (7, [.ref h2, .ref h9])), (h2, .inr (6, [.ref h10, .int 0]))] H _ := w
  refine lv_aload_n C.1 C.2.1 dX4_rangeNear_10 rfl (lv_at hl 0 rfl) ?_
  refine x_get (v := .ref h1) C w 0 8 0 (xin_X4 _) rfl rfl (by decide) (List.mem_cons_of_mem _ gw_24) rfl rfl dX4_rangeNear_11 ?_
  refine lv_iload_n C.1 C.2.1 dX4_rangeNear_14 rfl (lv_at hl 1 rfl) ?_
  refine lv_iload_n C.1 C.2.1 dX4_rangeNear_15 rfl (lv_at hl 2 rfl) ?_
  refine lv_iload_n C.1 C.2.1 dX4_rangeNear_16 rfl (lv_at hl 3 rfl) ?_
  refine lv_iload C.1 C.2.1 dX4_rangeNear_17 (lv_at hl 4 rfl) ?_
  refine x_ki C w [1, 2] [0] rfl rfl (by decide) (by decide) (va_runV (As := [.int v0, .int v1, .int v2, .int 1]) (rest := []) (xfix C) (c323_X3_placeNear l G cy sa sv h1 h2 h9 h10 v0 v1 v2 (xtr C) _) (cwV 4 (xhts C) (xgV (maxL := 0) (cc := ⟨#[]⟩) (ret := none) gw_424 gw_425 gw_426 gw_7 gc_X3_placeNear) rfl rfl rfl (by decide +kernel) ⟨(Nat.le_of_ble_eq_true rfl), (Nat.le_of_ble_eq_true rfl)⟩) (xPV C w [1, 2] rfl (by decide) (ci := 7) (q0 := 1) rfl rfl) rfl rfl hl.1 rfl (lv_room (Nat.le_of_ble_eq_true rfl)) dX4_rangeNear_19 ⟨(Nat.le_of_ble_eq_true rfl), (Nat.le_of_ble_eq_true rfl)⟩) (fun f1866 H locs w => ?_)
  have w : xW G A s [(h0, .inr (8, [.ref h1, .ref h3, .ref h4, .ref h5, .ref h6, .int 0, .ref h7, .ref h8])), (h1, .inr (7, [.ref h2, .ref h9])), (h2, .inr (6, [.ref h10, .int 0]))] H _ := w
  refine lv_istore (lv' := [(5, .int (-1)), (0, .ref h0), (1, .int v0), (2, .int v1), (3, .int v2), (4, .int 1)]) C.1 C.2.1 dX4_rangeNear_22 hl (by decide) rfl (fun ls hl => ?_)
  refine lv_iload C.1 C.2.1 dX4_rangeNear_24 (lv_at hl 0 rfl) ?_
  refine lv_iconst (v := (-1)) C.1 C.2.1 dX4_rangeNear_26 (by decide) ?_
  refine lv_icmp_ne (tgt := 40) C.1 C.2.1 dX4_rangeNear_27 (by decide) (fun c9 => absurd (by decide) c9) (fun _ => ?_)
  exact x_thr C w hno hl.1 (by decide) (List.mem_cons_of_mem _ gw_397) (List.mem_cons_of_mem _ gw_398) (tx := "there is no such key") (List.mem_of_getElem? (i := 1) rfl) (xat_161 C (fun w h => List.mem_cons_of_mem _ h)) xatg_161 dX4_rangeNear_30 dX4_rangeNear_33 dX4_rangeNear_34 dX4_rangeNear_36 dX4_rangeNear_39 (Nat.le_of_ble_eq_true rfl) (Nat.le_of_ble_eq_true rfl) (Nat.le_of_ble_eq_true rfl) (Nat.le_of_ble_eq_true rfl) rfl rfl (fun _ => 0) rfl
set_option maxHeartbeats 4000000 in
set_option maxRecDepth 100000 in
theorem c325_L_rangeNear (l : Launch) (G : va_G) (cy : Nat → ClassId) (sa : String → Nat → Nat) (sv : Nat → Nat) (h0 h1 h2 h3 h4 h5 h6 h7 h8 h9 h10 h11 : Nat) (v0 v1 v2 : Int32) (p0 : v0 ≤ v1) : xM l G cy sa sv yL_rangeNear (Cond.codeWith yL_rangeNear cL_rangeNear 7 (some .int) [(0, 15, 18, 19), (0, 15, 22, 21)] :: XG) { frames := 13, cells := 1, slots := 6, locals := 366 } [.ref h0, .int v0, .int v1, .int v2, .int 1, .ref h1] [(h0, .inr (8, [.ref h2, .ref h4, .ref h5, .ref h6, .ref h7, .int 0, .ref h8, .ref h9])), (h2, .inr (7, [.ref h3, .ref h10])), (h3, .inr (6, [.ref h11, .int 0]))] (xQi G (fun f => [(h0, .inr (8, [.ref h2, .ref h4, .ref h5, .ref h6, .ref h7, .int 0, .ref h8, .ref h9])), (h2, .inr (7, [.ref h3, .ref h10])), (h3, .inr (6, [.ref h11, .int 0]))]) 2) := by
  refine xofH (by decide) (Nat.le_of_ble_eq_true rfl) (fun p e s m below meth c A C w hr hn hT ls hl => ?_)
  have hl : lv_has ls 7 [(0, .ref h0), (1, .int v0), (2, .int v1), (3, .int v2), (4, .int 1), (5, .ref h1)] := hl
  refine lv_aload C.1 C.2.1 dL_rangeNear_0 (lv_at hl 5 rfl) ?_
  refine lv_aload_n C.1 C.2.1 dL_rangeNear_2 rfl (lv_at hl 0 rfl) ?_
  refine lv_iload_n C.1 C.2.1 dL_rangeNear_3 rfl (lv_at hl 1 rfl) ?_
  refine lv_iload_n C.1 C.2.1 dL_rangeNear_4 rfl (lv_at hl 2 rfl) ?_
  refine lv_iload_n C.1 C.2.1 dL_rangeNear_5 rfl (lv_at hl 3 rfl) ?_
  refine lv_iload C.1 C.2.1 dL_rangeNear_6 (lv_at hl 4 rfl) ?_
  refine x_kx C w [0, 1, 2] [] rfl rfl (by decide) (by decide) (vx_runV (As := [.int v0, .int v1, .int v2, .int 1]) (rest := [.ref h1]) (xfix C) (c324_X4_rangeNear l G cy sa sv h0 h2 h3 h4 h5 h6 h7 h8 h9 h10 h11 v0 v1 v2 p0 (xtr C) _) (cwV 4 (xhts C) (xgV (maxL := 0) (cc := ⟨#[]⟩) (ret := none) gw_685 gw_429 gw_430 gw_2 gc_X4_rangeNear) rfl rfl rfl (by decide +kernel) ⟨(Nat.le_of_ble_eq_true rfl), (Nat.le_of_ble_eq_true rfl)⟩) (xPV C w [0, 1, 2] rfl (by decide) (ci := 8) (q0 := 0) rfl rfl) rfl rfl hl.1 rfl (lv_room (Nat.le_of_ble_eq_true rfl)) dL_rangeNear_8 ⟨(Nat.le_of_ble_eq_true rfl), (Nat.le_of_ble_eq_true rfl)⟩) (fun f1867 H locs ce q9 w hce hcv hcl => ?_)
  have w : xW G A s [(h0, .inr (8, [.ref h2, .ref h4, .ref h5, .ref h6, .ref h7, .int 0, .ref h8, .ref h9])), (h2, .inr (7, [.ref h3, .ref h10])), (h3, .inr (6, [.ref h11, .int 0]))] H _ := w
  refine vx_widen (k := 1) (n := 6) (Nat.le_of_ble_eq_true rfl) (Nat.le_of_ble_eq_true rfl) ?_
  refine vx_catch (xown C) [⟨0, 15, 18, 19⟩] ⟨0, 15, 22, 21⟩ [] hT (fun z hz => Or.inr (by cases List.mem_singleton.mp hz; exact ⟨by decide, "java/lang/IllegalArgumentException", xhts C _ (List.mem_cons_of_mem _ gw_104), xs_n1 (xS C)⟩)) (by decide) (by decide) (xhts C _ (List.mem_cons_of_mem _ gw_407)) (va_any rfl (xs_c2 (xS C))) hce hcv hcl ?_
  refine lv_astore (lv' := [(6, .ref q9), (0, .ref h0), (1, .int v0), (2, .int v1), (3, .int v2), (4, .int 1), (5, .ref h1)]) C.1 C.2.1 dL_rangeNear_22 hl (by decide) rfl (fun ls hl => ?_)
  refine lv_iconst (v := 2) C.1 C.2.1 dL_rangeNear_24 (by decide) ?_
  exact x_iret C w hr (fun _ => 0) rfl rfl dL_rangeNear_25 (Nat.le_of_ble_eq_true rfl) (Nat.le_of_ble_eq_true rfl)
set_option maxHeartbeats 4000000 in
set_option maxRecDepth 100000 in
theorem c326_X6_rangeNear (l : Launch) (G : va_G) (cy : Nat → ClassId) (sa : String → Nat → Nat) (sv : Nat → Nat) (h0 h1 h2 h3 h4 h5 h6 h7 : Nat) (v0 v1 v2 : Int32) (p0 : ¬ v1 < v0) : xM l G cy sa sv yX6_rangeNear (Cond.code yX6_rangeNear cX6_rangeNear 5 (some .int) :: XG) { frames := 12, cells := 1, slots := 3, locals := 334 } [.ref h0, .int v0, .int v1, .int v2, .int 1] [(h0, .inr (10, [.ref h1, .ref h2, .ref h3, .ref h4, .ref h5, .ref h6, .ref h7, .int 0, .int 0])), (h1, .inr (3, [.int 0, .ref (sv 0), .int 0]))] (xQi G (fun f => [(h0, .inr (10, [.ref h1, .ref h2, .ref h3, .ref h4, .ref h5, .ref h6, .ref h7, .int 0, .int 2])), (h1, .inr (3, [.int 0, .ref (sv 0), .int 0]))]) 0) := by
  refine xof (by decide) (Nat.le_of_ble_eq_true rfl) (fun p e s m below meth c A C w hr hn ls hl => ?_)
  have hl : lv_has ls 5 [(0, .ref h0), (1, .int v0), (2, .int v1), (3, .int v2), (4, .int 1)] := hl
  refine lv_aload_n C.1 C.2.1 dX6_rangeNear_0 rfl (lv_at hl 0 rfl) ?_
  refine lv_iload_n C.1 C.2.1 dX6_rangeNear_1 rfl (lv_at hl 1 rfl) ?_
  refine lv_iload_n C.1 C.2.1 dX6_rangeNear_2 rfl (lv_at hl 2 rfl) ?_
  refine lv_icmp_gt (tgt := 14) C.1 C.2.1 dX6_rangeNear_3 (by decide) (fun c9 => absurd c9 p0) (fun _ => ?_)
  refine lv_iload C.1 C.2.1 dX6_rangeNear_6 (lv_at hl 4 rfl) ?_
  refine x_ki C w [] [0, 1] rfl rfl (by decide) (by decide) (va_runS (As := [.int 1]) (rest := [.ref h0]) (xfix C) (c158_X6_isNoHow l G cy sa sv (xtr C) _) (va_cwS 1 (xhts C) (xgS gw_439 gw_440 gw_58 gc_X6_isNoHow) rfl rfl rfl (by decide +kernel) ⟨(Nat.le_of_ble_eq_true rfl), (Nat.le_of_ble_eq_true rfl)⟩) (xPS C w [] rfl (by decide)) rfl rfl hl.1 rfl (lv_room (Nat.le_of_ble_eq_true rfl)) dX6_rangeNear_8 ⟨(Nat.le_of_ble_eq_true rfl), (Nat.le_of_ble_eq_true rfl)⟩) (fun f1872 H locs w => ?_)
  have w : xW G A s [(h0, .inr (10, [.ref h1, .ref h2, .ref h3, .ref h4, .ref h5, .ref h6, .ref h7, .int 0, .int 0])), (h1, .inr (3, [.int 0, .ref (sv 0), .int 0]))] H _ := w
  refine lv_if_eq (tgt := 18) C.1 C.2.1 dX6_rangeNear_11 (by decide) (fun _ => ?_) (fun c9 => absurd (by decide) c9)
  refine lv_iconst (v := 0) C.1 C.2.1 dX6_rangeNear_18 (by decide) ?_
  refine lv_iconst (v := 1) C.1 C.2.1 dX6_rangeNear_19 (by decide) ?_
  refine x_ki C w [0] [1] rfl rfl (by decide) (by decide) (va_runV (As := [.int 0, .int 1]) (rest := []) (xfix C) (c46_X6_start l G cy sa sv h0 h1 h2 h3 h4 h5 h6 h7 (xtr C) _) (cwV 2 (xhts C) (xgV (maxL := 0) (cc := ⟨#[]⟩) (ret := none) gw_114 gw_115 gw_116 gw_58 gc_X6_start) rfl rfl rfl (by decide +kernel) ⟨(Nat.le_of_ble_eq_true rfl), (Nat.le_of_ble_eq_true rfl)⟩) (xPV C w [0] rfl (by decide) (ci := 10) (q0 := 0) rfl rfl) rfl rfl hl.1 rfl (lv_room (Nat.le_of_ble_eq_true rfl)) dX6_rangeNear_20 ⟨(Nat.le_of_ble_eq_true rfl), (Nat.le_of_ble_eq_true rfl)⟩) (fun f1873 H locs w => ?_)
  have w : xW G A s [(h1, .inr (3, [.int 0, .ref (sv 0), .int 0])), (h0, .inr (10, [.ref h1, .ref h2, .ref h3, .ref h4, .ref h5, .ref h6, .ref h7, .int 0, .int 0]))] H _ := w
  refine lv_if_ne (tgt := 54) C.1 C.2.1 dX6_rangeNear_23 (by decide) (fun c9 => absurd (by decide) c9) (fun _ => ?_)
  refine lv_aload_n C.1 C.2.1 dX6_rangeNear_26 rfl (lv_at hl 0 rfl) ?_
  refine lv_aload_n C.1 C.2.1 dX6_rangeNear_27 rfl (lv_at hl 0 rfl) ?_
  refine lv_iload_n C.1 C.2.1 dX6_rangeNear_28 rfl (lv_at hl 1 rfl) ?_
  refine lv_iload_n C.1 C.2.1 dX6_rangeNear_29 rfl (lv_at hl 2 rfl) ?_
  refine x_kr C w [1, 0] [] rfl rfl (by decide) (by decide) (va_runV (As := [.int v0, .int v1]) (rest := [.ref h0]) (xfix C) (c298_X6_range l G cy sa sv h0 h1 h2 h3 h4 h5 h6 h7 v0 v1 (xtr C) _) (cwV 2 (xhts C) (xgV (maxL := 0) (cc := ⟨#[]⟩) (ret := none) gw_670 gw_671 gw_672 gw_58 gc_X6_range) rfl rfl rfl (by decide +kernel) ⟨(Nat.le_of_ble_eq_true rfl), (Nat.le_of_ble_eq_true rfl)⟩) (xPV C w [1, 0] rfl (by decide) (ci := 10) (q0 := 1) rfl rfl) rfl rfl hl.1 rfl (lv_room (Nat.le_of_ble_eq_true rfl)) dX6_rangeNear_30 ⟨(Nat.le_of_ble_eq_true rfl), (Nat.le_of_ble_eq_true rfl)⟩) (fun f1882 H locs w => ?_)
  have w : xW G A s [(h0, .inr (10, [.ref h1, .ref h2, .ref h3, .ref h4, .ref h5, .ref h6, .ref h7, .int 0, .int 0])), (h1, .inr (3, [.int 0, .ref (sv 0), .int 0])), ((f1882 0), .inr (3, [.int 0, .ref (sv 0), .int 0]))] H _ := w
  refine W.widen (k := 1) (n := 3) (Nat.le_of_ble_eq_true rfl) (Nat.le_of_ble_eq_true rfl) ?_
  refine lv_iload_n C.1 C.2.1 dX6_rangeNear_33 rfl (lv_at hl 3 rfl) ?_
  refine lv_iload C.1 C.2.1 dX6_rangeNear_34 (lv_at hl 4 rfl) ?_
  refine x_kn C w [2] [0, 1] rfl rfl (by decide) (by decide) (va_runS (As := [.ref (f1882 0), .int v2, .int 1]) (rest := [.ref h0]) (xfix C) (c159_X6_nearIn l G cy sa sv (f1882 0) v2 (xtr C) _) (va_cwS 3 (xhts C) (xgS gw_442 gw_443 gw_58 gc_X6_nearIn) rfl rfl rfl (by decide +kernel) ⟨(Nat.le_of_ble_eq_true rfl), (Nat.le_of_ble_eq_true rfl)⟩) (xPS C w [2] rfl (by decide)) rfl rfl hl.1 rfl (lv_room (Nat.le_of_ble_eq_true rfl)) dX6_rangeNear_36 ⟨(Nat.le_of_ble_eq_true rfl), (Nat.le_of_ble_eq_true rfl)⟩) (fun f1884 H locs w => ?_)
  have w : xW G A s [(h0, .inr (10, [.ref h1, .ref h2, .ref h3, .ref h4, .ref h5, .ref h6, .ref h7, .int 0, .int 0])), (h1, .inr (3, [.int 0, .ref (sv 0), .int 0])), ((f1882 0), .inr (3, [.int 0, .ref (sv 0), .int 0]))] H _ := w
  refine lv_ifnonnullN C.1 C.2.1 dX6_rangeNear_39 ?_
  refine lv_iconst (v := 1) C.1 C.2.1 dX6_rangeNear_42 (by decide) ?_
  refine lv_goto (tgt := 47) C.1 C.2.1 dX6_rangeNear_43 (by decide) ?_
  refine lv_iconst (v := 2) C.1 C.2.1 dX6_rangeNear_47 (by decide) ?_
  refine x_ki C w [0] [1, 2] rfl rfl (by decide) (by decide) (va_runV (As := [.int 1, .int 2]) (rest := []) (xfix C) (c149_X6_fails l G cy sa sv h0 h1 h2 h3 h4 h5 h6 h7 (xtr C) _) (cwV 2 (xhts C) (xgV (maxL := 0) (cc := ⟨#[]⟩) (ret := none) gw_203 gw_204 gw_205 gw_58 gc_X6_fails) rfl rfl rfl (by decide +kernel) ⟨(Nat.le_of_ble_eq_true rfl), (Nat.le_of_ble_eq_true rfl)⟩) (xPV C w [0] rfl (by decide) (ci := 10) (q0 := 0) rfl rfl) rfl rfl hl.1 rfl (lv_room (Nat.le_of_ble_eq_true rfl)) dX6_rangeNear_48 ⟨(Nat.le_of_ble_eq_true rfl), (Nat.le_of_ble_eq_true rfl)⟩) (fun f1885 H locs w => ?_)
  have w : xW G A s [(h1, .inr (3, [.int 0, .ref (sv 0), .int 0])), ((f1882 0), .inr (3, [.int 0, .ref (sv 0), .int 0])), (h0, .inr (10, [.ref h1, .ref h2, .ref h3, .ref h4, .ref h5, .ref h6, .ref h7, .int 0, .int 2]))] H _ := w
  refine lv_if_eq (tgt := 58) C.1 C.2.1 dX6_rangeNear_51 (by decide) (fun c9 => absurd c9 (by decide)) (fun _ => ?_)
  refine lv_iconst (v := 0) C.1 C.2.1 dX6_rangeNear_54 (by decide) ?_
  refine lv_goto (tgt := 72) C.1 C.2.1 dX6_rangeNear_55 (by decide) ?_
  have w := w.sub (ws' := [(h0, .inr (10, [.ref h1, .ref h2, .ref h3, .ref h4, .ref h5, .ref h6, .ref h7, .int 0, .int 2])), (h1, .inr (3, [.int 0, .ref (sv 0), .int 0]))]) [2, 0] (by decide) rfl rfl
  exact x_iret C w hr (fun _ => 0) rfl rfl dX6_rangeNear_72 (Nat.le_of_ble_eq_true rfl) (Nat.le_of_ble_eq_true rfl)
set_option maxHeartbeats 4000000 in
set_option maxRecDepth 100000 in
theorem c327_X4_rangeNear (l : Launch) (G : va_G) (cy : Nat → ClassId) (sa : String → Nat → Nat) (sv : Nat → Nat) (h0 : Nat) (v0 v1 v2 : Int32) (p0 : ¬ v0 ≤ v1) : xX l G cy sa sv yX4_rangeNear (Cond.code yX4_rangeNear cX4_rangeNear 6 (some .int) :: XG) { frames := 9, cells := 1, slots := 6, locals := 271 } [.ref h0, .int v0, .int v1, .int v2, .int 1] [] (fun f => []) "java/lang/IllegalArgumentException" := by
  refine xofX (by decide) (Nat.le_of_ble_eq_true rfl) (fun p e s m below meth c A C w hno ls hl => ?_)
  have hl : lv_has ls 6 [(0, .ref h0), (1, .int v0), (2, .int v1), (3, .int v2), (4, .int 1)] := hl
  refine lv_iload_n C.1 C.2.1 dX4_rangeNear_0 rfl (lv_at hl 1 rfl) ?_
  refine lv_iload_n C.1 C.2.1 dX4_rangeNear_1 rfl (lv_at hl 2 rfl) ?_
  refine x_kx C w [] [] rfl rfl (by decide) (by decide) (vx_runS (As := [.int v0, .int v1]) (rest := []) (xfix C) (c306_X4_checkRange l G cy sa sv v0 v1 p0 (xtr C) _) (va_cwS 2 (xhts C) (xgS gw_390 gw_391 gw_2 gc_X4_checkRange) rfl rfl rfl (by decide +kernel) ⟨(Nat.le_of_ble_eq_true rfl), (Nat.le_of_ble_eq_true rfl)⟩) (xPS C w [] rfl (by decide)) rfl rfl hl.1 rfl (lv_room (Nat.le_of_ble_eq_true rfl)) dX4_rangeNear_2 ⟨(Nat.le_of_ble_eq_true rfl), (Nat.le_of_ble_eq_true rfl)⟩) (fun f1892 H locs ce q9 w hce hcv hcl => ?_)
  have w : xW G A s [] H _ := w
  refine vx_widen (k := 1) (n := 6) (Nat.le_of_ble_eq_true rfl) (Nat.le_of_ble_eq_true rfl) ?_
  exact x_out C w hno (fun _ => 0) rfl hce hcv hcl (Nat.le_of_ble_eq_true rfl) (Nat.le_of_ble_eq_true rfl)
set_option maxHeartbeats 4000000 in
set_option maxRecDepth 100000 in
theorem c328_L_rangeNear (l : Launch) (G : va_G) (cy : Nat → ClassId) (sa : String → Nat → Nat) (sv : Nat → Nat) (h0 h1 h2 h3 h4 h5 h6 h7 h8 : Nat) (v0 v1 v2 : Int32) (p0 : ¬ v0 ≤ v1) : xM l G cy sa sv yL_rangeNear (Cond.codeWith yL_rangeNear cL_rangeNear 7 (some .int) [(0, 15, 18, 19), (0, 15, 22, 21)] :: XG) { frames := 10, cells := 1, slots := 6, locals := 296 } [.ref h0, .int v0, .int v1, .int v2, .int 1, .ref h1] [(h0, .inr (8, [.ref h2, .ref h3, .ref h4, .ref h5, .ref h6, .int 0, .ref h7, .ref h8]))] (xQi G (fun f => [(h0, .inr (8, [.ref h2, .ref h3, .ref h4, .ref h5, .ref h6, .int 0, .ref h7, .ref h8]))]) 1) := by
  refine xofH (by decide) (Nat.le_of_ble_eq_true rfl) (fun p e s m below meth c A C w hr hn hT ls hl => ?_)
  have hl : lv_has ls 7 [(0, .ref h0), (1, .int v0), (2, .int v1), (3, .int v2), (4, .int 1), (5, .ref h1)] := hl
  refine lv_aload C.1 C.2.1 dL_rangeNear_0 (lv_at hl 5 rfl) ?_
  refine lv_aload_n C.1 C.2.1 dL_rangeNear_2 rfl (lv_at hl 0 rfl) ?_
  refine lv_iload_n C.1 C.2.1 dL_rangeNear_3 rfl (lv_at hl 1 rfl) ?_
  refine lv_iload_n C.1 C.2.1 dL_rangeNear_4 rfl (lv_at hl 2 rfl) ?_
  refine lv_iload_n C.1 C.2.1 dL_rangeNear_5 rfl (lv_at hl 3 rfl) ?_
  refine lv_iload C.1 C.2.1 dL_rangeNear_6 (lv_at hl 4 rfl) ?_
  refine x_kx C w [] [0] rfl rfl (by decide) (by decide) (vx_runV (As := [.int v0, .int v1, .int v2, .int 1]) (rest := [.ref h1]) (xfix C) (c327_X4_rangeNear l G cy sa sv h0 v0 v1 v2 p0 (xtr C) _) (cwV 4 (xhts C) (xgV (maxL := 0) (cc := ⟨#[]⟩) (ret := none) gw_685 gw_429 gw_430 gw_2 gc_X4_rangeNear) rfl rfl rfl (by decide +kernel) ⟨(Nat.le_of_ble_eq_true rfl), (Nat.le_of_ble_eq_true rfl)⟩) (xPV C w [] rfl (by decide) (ci := 8) (q0 := 0) rfl rfl) rfl rfl hl.1 rfl (lv_room (Nat.le_of_ble_eq_true rfl)) dL_rangeNear_8 ⟨(Nat.le_of_ble_eq_true rfl), (Nat.le_of_ble_eq_true rfl)⟩) (fun f1893 H locs ce q9 w hce hcv hcl => ?_)
  have w : xW G A s [(h0, .inr (8, [.ref h2, .ref h3, .ref h4, .ref h5, .ref h6, .int 0, .ref h7, .ref h8]))] H _ := w
  refine vx_widen (k := 1) (n := 6) (Nat.le_of_ble_eq_true rfl) (Nat.le_of_ble_eq_true rfl) ?_
  refine vx_catch (xown C) [] ⟨0, 15, 18, 19⟩ [⟨0, 15, 22, 21⟩] hT (fun z hz => nomatch hz) (by decide) (by decide) (xhts C _ (List.mem_cons_of_mem _ gw_104)) (va_any rfl (xs_c1 (xS C))) hce hcv hcl ?_
  refine lv_astore (lv' := [(6, .ref q9), (0, .ref h0), (1, .int v0), (2, .int v1), (3, .int v2), (4, .int 1), (5, .ref h1)]) C.1 C.2.1 dL_rangeNear_18 hl (by decide) rfl (fun ls hl => ?_)
  refine lv_iconst (v := 1) C.1 C.2.1 dL_rangeNear_20 (by decide) ?_
  exact x_iret C w hr (fun _ => 0) rfl rfl dL_rangeNear_21 (Nat.le_of_ble_eq_true rfl) (Nat.le_of_ble_eq_true rfl)
set_option maxHeartbeats 4000000 in
set_option maxRecDepth 100000 in
theorem c329_X6_rangeNear (l : Launch) (G : va_G) (cy : Nat → ClassId) (sa : String → Nat → Nat) (sv : Nat → Nat) (h0 h1 h2 h3 h4 h5 h6 h7 : Nat) (v0 v1 v2 : Int32) (p0 : v1 < v0) : xM l G cy sa sv yX6_rangeNear (Cond.code yX6_rangeNear cX6_rangeNear 5 (some .int) :: XG) { frames := 9, cells := 0, slots := 0, locals := 272 } [.ref h0, .int v0, .int v1, .int v2, .int 1] [(h0, .inr (10, [.ref h1, .ref h2, .ref h3, .ref h4, .ref h5, .ref h6, .ref h7, .int 0, .int 0]))] (xQi G (fun f => [(h0, .inr (10, [.ref h1, .ref h2, .ref h3, .ref h4, .ref h5, .ref h6, .ref h7, .int 0, .int 1]))]) 0) := by
  refine xof (by decide) (Nat.le_of_ble_eq_true rfl) (fun p e s m below meth c A C w hr hn ls hl => ?_)
  have hl : lv_has ls 5 [(0, .ref h0), (1, .int v0), (2, .int v1), (3, .int v2), (4, .int 1)] := hl
  refine lv_aload_n C.1 C.2.1 dX6_rangeNear_0 rfl (lv_at hl 0 rfl) ?_
  refine lv_iload_n C.1 C.2.1 dX6_rangeNear_1 rfl (lv_at hl 1 rfl) ?_
  refine lv_iload_n C.1 C.2.1 dX6_rangeNear_2 rfl (lv_at hl 2 rfl) ?_
  refine lv_icmp_gt (tgt := 14) C.1 C.2.1 dX6_rangeNear_3 (by decide) (fun _ => ?_) (fun c9 => absurd p0 c9)
  refine lv_iconst (v := 1) C.1 C.2.1 dX6_rangeNear_14 (by decide) ?_
  refine lv_goto (tgt := 19) C.1 C.2.1 dX6_rangeNear_15 (by decide) ?_
  refine lv_iconst (v := 1) C.1 C.2.1 dX6_rangeNear_19 (by decide) ?_
  refine x_ki C w [0] [] rfl rfl (by decide) (by decide) (va_runV (As := [.int 1, .int 1]) (rest := []) (xfix C) (c17_X6_start l G cy sa sv h0 h1 h2 h3 h4 h5 h6 h7 (xtr C) _) (cwV 2 (xhts C) (xgV (maxL := 0) (cc := ⟨#[]⟩) (ret := none) gw_114 gw_115 gw_116 gw_58 gc_X6_start) rfl rfl rfl (by decide +kernel) ⟨(Nat.le_of_ble_eq_true rfl), (Nat.le_of_ble_eq_true rfl)⟩) (xPV C w [0] rfl (by decide) (ci := 10) (q0 := 0) rfl rfl) rfl rfl hl.1 rfl (lv_room (Nat.le_of_ble_eq_true rfl)) dX6_rangeNear_20 ⟨(Nat.le_of_ble_eq_true rfl), (Nat.le_of_ble_eq_true rfl)⟩) (fun f1896 H locs w => ?_)
  have w : xW G A s [(h0, .inr (10, [.ref h1, .ref h2, .ref h3, .ref h4, .ref h5, .ref h6, .ref h7, .int 0, .int 1]))] H _ := w
  refine lv_if_ne (tgt := 54) C.1 C.2.1 dX6_rangeNear_23 (by decide) (fun _ => ?_) (fun c9 => absurd c9 (by decide))
  refine lv_iconst (v := 0) C.1 C.2.1 dX6_rangeNear_54 (by decide) ?_
  refine lv_goto (tgt := 72) C.1 C.2.1 dX6_rangeNear_55 (by decide) ?_
  exact x_iret C w hr (fun _ => 0) rfl rfl dX6_rangeNear_72 (Nat.le_of_ble_eq_true rfl) (Nat.le_of_ble_eq_true rfl)
set_option maxHeartbeats 4000000 in
set_option maxRecDepth 100000 in
theorem c330_X3_placeNear (l : Launch) (G : va_G) (cy : Nat → ClassId) (sa : String → Nat → Nat) (sv : Nat → Nat) (h0 h1 h2 h3 : Nat) (v0 v1 v2 : Int32) : xM l G cy sa sv yX3_placeNear (Cond.code yX3_placeNear cX3_placeNear 8 (some .int) :: XG) { frames := 11, cells := 0, slots := 0, locals := 314 } [.ref h0, .int v0, .int v1, .int v2, .int 2] [(h0, .inr (7, [.ref h1, .ref h2])), (h1, .inr (6, [.ref h3, .int 0]))] (xQi G (fun f => [(h0, .inr (7, [.ref h1, .ref h2])), (h1, .inr (6, [.ref h3, .int 0]))]) (-1)) := by
  refine xof (by decide) (Nat.le_of_ble_eq_true rfl) (fun p e s m below meth c A C w hr hn ls hl => ?_)
  have hl : lv_has ls 8 [(0, .ref h0), (1, .int v0), (2, .int v1), (3, .int v2), (4, .int 2)] := hl
  refine lv_aload_n C.1 C.2.1 dX3_placeNear_0 rfl (lv_at hl 0 rfl) ?_
  refine lv_iload_n C.1 C.2.1 dX3_placeNear_1 rfl (lv_at hl 1 rfl) ?_
  refine x_ki C w [0, 1] [] rfl rfl (by decide) (by decide) (va_runV (As := [.int v0]) (rest := []) (xfix C) (c31_X3_countBelow l G cy sa sv h0 h1 h2 h3 v0 (xtr C) _) (cwV 1 (xhts C) (xgV (maxL := 0) (cc := ⟨#[]⟩) (ret := none) gw_158 gw_159 gw_160 gw_7 gc_X3_countBelow) rfl rfl rfl (by decide +kernel) ⟨(Nat.le_of_ble_eq_true rfl), (Nat.le_of_ble_eq_true rfl)⟩) (xPV C w [0, 1] rfl (by decide) (ci := 7) (q0 := 0) rfl rfl) rfl rfl hl.1 rfl (lv_room (Nat.le_of_ble_eq_true rfl)) dX3_placeNear_2 ⟨(Nat.le_of_ble_eq_true rfl), (Nat.le_of_ble_eq_true rfl)⟩) (fun f1910 H locs w => ?_)
  have w : xW G A s [(h0, .inr (7, [.ref h1, .ref h2])), (h1, .inr (6, [.ref h3, .int 0]))] H _ := w
  refine lv_istore (lv' := [(5, .int 0), (0, .ref h0), (1, .int v0), (2, .int v1), (3, .int v2), (4, .int 2)]) C.1 C.2.1 dX3_placeNear_5 hl (by decide) rfl (fun ls hl => ?_)
  refine lv_aload_n C.1 C.2.1 dX3_placeNear_7 rfl (lv_at hl 1 rfl) ?_
  refine lv_iload_n C.1 C.2.1 dX3_placeNear_8 rfl (lv_at hl 3 rfl) ?_
  refine x_ki C w [0, 1] [] rfl rfl (by decide) (by decide) (va_runV (As := [.int v1]) (rest := []) (xfix C) (c153_X3_countNotAbove l G cy sa sv h0 h1 h2 h3 v1 (xtr C) _) (cwV 1 (xhts C) (xgV (maxL := 0) (cc := ⟨#[]⟩) (ret := none) gw_392 gw_309 gw_310 gw_7 gc_X3_countNotAbove) rfl rfl rfl (by decide +kernel) ⟨(Nat.le_of_ble_eq_true rfl), (Nat.le_of_ble_eq_true rfl)⟩) (xPV C w [0, 1] rfl (by decide) (ci := 7) (q0 := 0) rfl rfl) rfl rfl hl.1 rfl (lv_room (Nat.le_of_ble_eq_true rfl)) dX3_placeNear_9 ⟨(Nat.le_of_ble_eq_true rfl), (Nat.le_of_ble_eq_true rfl)⟩) (fun f1915 H locs w => ?_)
  have w : xW G A s [(h0, .inr (7, [.ref h1, .ref h2])), (h1, .inr (6, [.ref h3, .int 0]))] H _ := w
  refine lv_iconst (v := 1) C.1 C.2.1 dX3_placeNear_12 (by decide) ?_
  refine lv_isub C.1 C.2.1 dX3_placeNear_13 ?_
  refine x_is (y := (-1)) (by decide) ?_
  refine lv_istore (lv' := [(6, .int (-1)), (5, .int 0), (0, .ref h0), (1, .int v0), (2, .int v1), (3, .int v2), (4, .int 2)]) C.1 C.2.1 dX3_placeNear_14 hl (by decide) rfl (fun ls hl => ?_)
  refine lv_iload C.1 C.2.1 dX3_placeNear_16 (lv_at hl 6 rfl) ?_
  refine lv_tableIn (off := 60) (tgt := 78) C.1 C.2.1 dX3_placeNear_18 (by decide) (by decide) (by decide) (by decide) ?_
  refine lv_aload_n C.1 C.2.1 dX3_placeNear_78 rfl (lv_at hl 2 rfl) ?_
  refine lv_iload_n C.1 C.2.1 dX3_placeNear_79 rfl (lv_at hl 5 rfl) ?_
  refine x_ki C w [0, 1] [] rfl rfl (by decide) (by decide) (va_runV (As := [.int v2]) (rest := []) (xfix C) (c31_X3_countBelow l G cy sa sv h0 h1 h2 h3 v2 (xtr C) _) (cwV 1 (xhts C) (xgV (maxL := 0) (cc := ⟨#[]⟩) (ret := none) gw_158 gw_159 gw_160 gw_7 gc_X3_countBelow) rfl rfl rfl (by decide +kernel) ⟨(Nat.le_of_ble_eq_true rfl), (Nat.le_of_ble_eq_true rfl)⟩) (xPV C w [0, 1] rfl (by decide) (ci := 7) (q0 := 0) rfl rfl) rfl rfl hl.1 rfl (lv_room (Nat.le_of_ble_eq_true rfl)) dX3_placeNear_80 ⟨(Nat.le_of_ble_eq_true rfl), (Nat.le_of_ble_eq_true rfl)⟩) (fun f1917 H locs w => ?_)
  have w : xW G A s [(h0, .inr (7, [.ref h1, .ref h2])), (h1, .inr (6, [.ref h3, .int 0]))] H _ := w
  refine lv_iload C.1 C.2.1 dX3_placeNear_83 (lv_at hl 1 rfl) ?_
  refine va_mmax C.1 C.2.1 (C.2.2.1.trans hl.1.symm) (xown C) (xhts C _ (List.mem_cons_of_mem _ gw_448)) (xhts C _ (List.mem_cons_of_mem _ gw_216)) (xhts C _ (List.mem_cons_of_mem _ gw_217)) (xhts C _ (List.mem_cons_of_mem _ gm_max)) (Nat.le_of_ble_eq_true rfl) (Nat.le_of_ble_eq_true rfl) (Nat.le_of_ble_eq_true rfl) (Nat.le_of_ble_eq_true rfl) dX3_placeNear_85 ?_
  refine x_is (y := 0) (if_neg (by decide)) ?_
  refine lv_istore (lv' := [(7, .int 0), (6, .int (-1)), (5, .int 0), (0, .ref h0), (1, .int v0), (2, .int v1), (3, .int v2), (4, .int 2)]) C.1 C.2.1 dX3_placeNear_88 hl (by decide) rfl (fun ls hl => ?_)
  refine lv_goto (tgt := 105) C.1 C.2.1 dX3_placeNear_90 (by decide) ?_
  refine lv_iload C.1 C.2.1 dX3_placeNear_105 (lv_at hl 2 rfl) ?_
  refine lv_iload C.1 C.2.1 dX3_placeNear_107 (lv_at hl 1 rfl) ?_
  refine lv_iload C.1 C.2.1 dX3_placeNear_109 (lv_at hl 0 rfl) ?_
  refine x_ki C w [] [0, 1] rfl rfl (by decide) (by decide) (va_runSN (As := [.int 0, .int (-1), .int 0]) (rest := []) (xfix C) (c162_X4_isBetween l G cy sa sv (xtr C) _) ⟨(va_cnB 3 (xhts C) (xgI gc_X4_isBetween) rfl rfl rfl (xs_mB (xS C)) (xhts C _ (List.mem_cons_of_mem _ gw_2)) (by decide +kernel) ⟨(Nat.le_of_ble_eq_true rfl), (Nat.le_of_ble_eq_true rfl)⟩), xhts C _ (List.mem_cons_of_mem _ gw_422), trivial⟩ (xPS C w [] rfl (by decide)) rfl rfl hl.1 rfl (lv_room (Nat.le_of_ble_eq_true rfl)) dX3_placeNear_111 ⟨(Nat.le_of_ble_eq_true rfl), (Nat.le_of_ble_eq_true rfl)⟩) (fun f1918 H locs w => ?_)
  have w : xW G A s [(h0, .inr (7, [.ref h1, .ref h2])), (h1, .inr (6, [.ref h3, .int 0]))] H _ := w
  refine lv_if_eq (tgt := 122) C.1 C.2.1 dX3_placeNear_114 (by decide) (fun _ => ?_) (fun c9 => absurd (by decide) c9)
  refine lv_iconst (v := (-1)) C.1 C.2.1 dX3_placeNear_122 (by decide) ?_
  exact x_iret C w hr (fun _ => 0) rfl rfl dX3_placeNear_123 (Nat.le_of_ble_eq_true rfl) (Nat.le_of_ble_eq_true rfl)
set_option maxHeartbeats 4000000 in
set_option maxRecDepth 100000 in
theorem c331_X4_rangeNear (l : Launch) (G : va_G) (cy : Nat → ClassId) (sa : String → Nat → Nat) (sv : Nat → Nat) (h0 h1 h2 h3 h4 h5 h6 h7 h8 h9 h10 : Nat) (v0 v1 v2 : Int32) (p0 : v0 ≤ v1) : xX l G cy sa sv yX4_rangeNear (Cond.code yX4_rangeNear cX4_rangeNear 6 (some .int) :: XG) { frames := 12, cells := 1, slots := 6, locals := 341 } [.ref h0, .int v0, .int v1, .int v2, .int 2] [(h0, .inr (8, [.ref h1, .ref h3, .ref h4, .ref h5, .ref h6, .int 0, .ref h7, .ref h8])), (h1, .inr (7, [.ref h2, .ref h9])), (h2, .inr (6, [.ref h10, .int 0]))] (fun f => [(h0, .inr (8, [.ref h1, .ref h3, .ref h4, .ref h5, .ref h6, .int 0, .ref h7, .ref h8])), (h1, .inr (7, [.ref h2, .ref h9])), (h2, .inr (6, [.ref h10, .int 0]))]) "java/lang/IllegalStateException" := by
  refine xofX (by decide) (Nat.le_of_ble_eq_true rfl) (fun p e s m below meth c A C w hno ls hl => ?_)
  have hl : lv_has ls 6 [(0, .ref h0), (1, .int v0), (2, .int v1), (3, .int v2), (4, .int 2)] := hl
  refine lv_iload_n C.1 C.2.1 dX4_rangeNear_0 rfl (lv_at hl 1 rfl) ?_
  refine lv_iload_n C.1 C.2.1 dX4_rangeNear_1 rfl (lv_at hl 2 rfl) ?_
  refine x_kv C w [] [0, 1, 2] rfl rfl (by decide) (by decide) (va_runS (As := [.int v0, .int v1]) (rest := []) (xfix C) (c302_X4_checkRange l G cy sa sv v0 v1 p0 (xtr C) _) (va_cwS 2 (xhts C) (xgS gw_390 gw_391 gw_2 gc_X4_checkRange) rfl rfl rfl (by decide +kernel) ⟨(Nat.le_of_ble_eq_true rfl), (Nat.le_of_ble_eq_true rfl)⟩) (xPS C w [] rfl (by decide)) rfl rfl hl.1 rfl (lv_room (Nat.le_of_ble_eq_true rfl)) dX4_rangeNear_2 ⟨(Nat.le_of_ble_eq_true rfl), (Nat.le_of_ble_eq_true rfl)⟩) (fun f1907 H locs w => ?_)
  have w : xW G A s [(h0, .inr (8, [.ref h1, .ref h3, .ref h4, .ref h5, .ref h6, .int 0, .ref h7, .ref h8])), (h1, .inr (7, [.ref h2, .ref h9])), (h2, .inr (6, [.ref h10, .int 0]))] H _ := w
  refine lv_iload C.1 C.2.1 dX4_rangeNear_5 (lv_at hl 4 rfl) ?_
  refine x_kv C w [] [0, 1, 2] rfl rfl (by decide) (by decide) (va_runS (As := [.int 2]) (rest := []) (xfix C) (c161_X4_checkHow l G cy sa sv (xtr C) _) (va_cwS 1 (xhts C) (xgS gw_416 gw_417 gw_2 gc_X4_checkHow) rfl rfl rfl (by decide +kernel) ⟨(Nat.le_of_ble_eq_true rfl), (Nat.le_of_ble_eq_true rfl)⟩) (xPS C w [] rfl (by decide)) rfl rfl hl.1 rfl (lv_room (Nat.le_of_ble_eq_true rfl)) dX4_rangeNear_7 ⟨(Nat.le_of_ble_eq_true rfl), (Nat.le_of_ble_eq_true rfl)⟩) (fun f1908 H locs w => ?_)
  have w : xW G A s [(h0, .inr (8, [.ref h1, .ref h3, .ref h4, .ref h5, .ref h6, .int 0, .ref h7, .ref h8])), (h1, .inr (7, [.ref h2, .ref h9])), (h2, .inr (6, [.ref h10, .int 0]))] H _ := w
  refine lv_aload_n C.1 C.2.1 dX4_rangeNear_10 rfl (lv_at hl 0 rfl) ?_
  refine x_get (v := .ref h1) C w 0 8 0 (xin_X4 _) rfl rfl (by decide) (List.mem_cons_of_mem _ gw_24) rfl rfl dX4_rangeNear_11 ?_
  refine lv_iload_n C.1 C.2.1 dX4_rangeNear_14 rfl (lv_at hl 1 rfl) ?_
  refine lv_iload_n C.1 C.2.1 dX4_rangeNear_15 rfl (lv_at hl 2 rfl) ?_
  refine lv_iload_n C.1 C.2.1 dX4_rangeNear_16 rfl (lv_at hl 3 rfl) ?_
  refine lv_iload C.1 C.2.1 dX4_rangeNear_17 (lv_at hl 4 rfl) ?_
  refine x_ki C w [1, 2] [0] rfl rfl (by decide) (by decide) (va_runV (As := [.int v0, .int v1, .int v2, .int 2]) (rest := []) (xfix C) (c330_X3_placeNear l G cy sa sv h1 h2 h9 h10 v0 v1 v2 (xtr C) _) (cwV 4 (xhts C) (xgV (maxL := 0) (cc := ⟨#[]⟩) (ret := none) gw_424 gw_425 gw_426 gw_7 gc_X3_placeNear) rfl rfl rfl (by decide +kernel) ⟨(Nat.le_of_ble_eq_true rfl), (Nat.le_of_ble_eq_true rfl)⟩) (xPV C w [1, 2] rfl (by decide) (ci := 7) (q0 := 1) rfl rfl) rfl rfl hl.1 rfl (lv_room (Nat.le_of_ble_eq_true rfl)) dX4_rangeNear_19 ⟨(Nat.le_of_ble_eq_true rfl), (Nat.le_of_ble_eq_true rfl)⟩) (fun f1919 H locs w => ?_)
  have w : xW G A s [(h0, .inr (8, [.ref h1, .ref h3, .ref h4, .ref h5, .ref h6, .int 0, .ref h7, .ref h8])), (h1, .inr (7, [.ref h2, .ref h9])), (h2, .inr (6, [.ref h10, .int 0]))] H _ := w
  refine lv_istore (lv' := [(5, .int (-1)), (0, .ref h0), (1, .int v0), (2, .int v1), (3, .int v2), (4, .int 2)]) C.1 C.2.1 dX4_rangeNear_22 hl (by decide) rfl (fun ls hl => ?_)
  refine lv_iload C.1 C.2.1 dX4_rangeNear_24 (lv_at hl 0 rfl) ?_
  refine lv_iconst (v := (-1)) C.1 C.2.1 dX4_rangeNear_26 (by decide) ?_
  refine lv_icmp_ne (tgt := 40) C.1 C.2.1 dX4_rangeNear_27 (by decide) (fun c9 => absurd (by decide) c9) (fun _ => ?_)
  exact x_thr C w hno hl.1 (by decide) (List.mem_cons_of_mem _ gw_397) (List.mem_cons_of_mem _ gw_398) (tx := "there is no such key") (List.mem_of_getElem? (i := 1) rfl) (xat_161 C (fun w h => List.mem_cons_of_mem _ h)) xatg_161 dX4_rangeNear_30 dX4_rangeNear_33 dX4_rangeNear_34 dX4_rangeNear_36 dX4_rangeNear_39 (Nat.le_of_ble_eq_true rfl) (Nat.le_of_ble_eq_true rfl) (Nat.le_of_ble_eq_true rfl) (Nat.le_of_ble_eq_true rfl) rfl rfl (fun _ => 0) rfl
set_option maxHeartbeats 4000000 in
set_option maxRecDepth 100000 in
theorem c332_L_rangeNear (l : Launch) (G : va_G) (cy : Nat → ClassId) (sa : String → Nat → Nat) (sv : Nat → Nat) (h0 h1 h2 h3 h4 h5 h6 h7 h8 h9 h10 h11 : Nat) (v0 v1 v2 : Int32) (p0 : v0 ≤ v1) : xM l G cy sa sv yL_rangeNear (Cond.codeWith yL_rangeNear cL_rangeNear 7 (some .int) [(0, 15, 18, 19), (0, 15, 22, 21)] :: XG) { frames := 13, cells := 1, slots := 6, locals := 366 } [.ref h0, .int v0, .int v1, .int v2, .int 2, .ref h1] [(h0, .inr (8, [.ref h2, .ref h4, .ref h5, .ref h6, .ref h7, .int 0, .ref h8, .ref h9])), (h2, .inr (7, [.ref h3, .ref h10])), (h3, .inr (6, [.ref h11, .int 0]))] (xQi G (fun f => [(h0, .inr (8, [.ref h2, .ref h4, .ref h5, .ref h6, .ref h7, .int 0, .ref h8, .ref h9])), (h2, .inr (7, [.ref h3, .ref h10])), (h3, .inr (6, [.ref h11, .int 0]))]) 2) := by
  refine xofH (by decide) (Nat.le_of_ble_eq_true rfl) (fun p e s m below meth c A C w hr hn hT ls hl => ?_)
  have hl : lv_has ls 7 [(0, .ref h0), (1, .int v0), (2, .int v1), (3, .int v2), (4, .int 2), (5, .ref h1)] := hl
  refine lv_aload C.1 C.2.1 dL_rangeNear_0 (lv_at hl 5 rfl) ?_
  refine lv_aload_n C.1 C.2.1 dL_rangeNear_2 rfl (lv_at hl 0 rfl) ?_
  refine lv_iload_n C.1 C.2.1 dL_rangeNear_3 rfl (lv_at hl 1 rfl) ?_
  refine lv_iload_n C.1 C.2.1 dL_rangeNear_4 rfl (lv_at hl 2 rfl) ?_
  refine lv_iload_n C.1 C.2.1 dL_rangeNear_5 rfl (lv_at hl 3 rfl) ?_
  refine lv_iload C.1 C.2.1 dL_rangeNear_6 (lv_at hl 4 rfl) ?_
  refine x_kx C w [0, 1, 2] [] rfl rfl (by decide) (by decide) (vx_runV (As := [.int v0, .int v1, .int v2, .int 2]) (rest := [.ref h1]) (xfix C) (c331_X4_rangeNear l G cy sa sv h0 h2 h3 h4 h5 h6 h7 h8 h9 h10 h11 v0 v1 v2 p0 (xtr C) _) (cwV 4 (xhts C) (xgV (maxL := 0) (cc := ⟨#[]⟩) (ret := none) gw_685 gw_429 gw_430 gw_2 gc_X4_rangeNear) rfl rfl rfl (by decide +kernel) ⟨(Nat.le_of_ble_eq_true rfl), (Nat.le_of_ble_eq_true rfl)⟩) (xPV C w [0, 1, 2] rfl (by decide) (ci := 8) (q0 := 0) rfl rfl) rfl rfl hl.1 rfl (lv_room (Nat.le_of_ble_eq_true rfl)) dL_rangeNear_8 ⟨(Nat.le_of_ble_eq_true rfl), (Nat.le_of_ble_eq_true rfl)⟩) (fun f1920 H locs ce q9 w hce hcv hcl => ?_)
  have w : xW G A s [(h0, .inr (8, [.ref h2, .ref h4, .ref h5, .ref h6, .ref h7, .int 0, .ref h8, .ref h9])), (h2, .inr (7, [.ref h3, .ref h10])), (h3, .inr (6, [.ref h11, .int 0]))] H _ := w
  refine vx_widen (k := 1) (n := 6) (Nat.le_of_ble_eq_true rfl) (Nat.le_of_ble_eq_true rfl) ?_
  refine vx_catch (xown C) [⟨0, 15, 18, 19⟩] ⟨0, 15, 22, 21⟩ [] hT (fun z hz => Or.inr (by cases List.mem_singleton.mp hz; exact ⟨by decide, "java/lang/IllegalArgumentException", xhts C _ (List.mem_cons_of_mem _ gw_104), xs_n1 (xS C)⟩)) (by decide) (by decide) (xhts C _ (List.mem_cons_of_mem _ gw_407)) (va_any rfl (xs_c2 (xS C))) hce hcv hcl ?_
  refine lv_astore (lv' := [(6, .ref q9), (0, .ref h0), (1, .int v0), (2, .int v1), (3, .int v2), (4, .int 2), (5, .ref h1)]) C.1 C.2.1 dL_rangeNear_22 hl (by decide) rfl (fun ls hl => ?_)
  refine lv_iconst (v := 2) C.1 C.2.1 dL_rangeNear_24 (by decide) ?_
  exact x_iret C w hr (fun _ => 0) rfl rfl dL_rangeNear_25 (Nat.le_of_ble_eq_true rfl) (Nat.le_of_ble_eq_true rfl)
set_option maxHeartbeats 4000000 in
set_option maxRecDepth 100000 in
theorem c333_X6_rangeNear (l : Launch) (G : va_G) (cy : Nat → ClassId) (sa : String → Nat → Nat) (sv : Nat → Nat) (h0 h1 h2 h3 h4 h5 h6 h7 : Nat) (v0 v1 v2 : Int32) (p0 : ¬ v1 < v0) : xM l G cy sa sv yX6_rangeNear (Cond.code yX6_rangeNear cX6_rangeNear 5 (some .int) :: XG) { frames := 12, cells := 1, slots := 3, locals := 334 } [.ref h0, .int v0, .int v1, .int v2, .int 2] [(h0, .inr (10, [.ref h1, .ref h2, .ref h3, .ref h4, .ref h5, .ref h6, .ref h7, .int 0, .int 0])), (h1, .inr (3, [.int 0, .ref (sv 0), .int 0]))] (xQi G (fun f => [(h0, .inr (10, [.ref h1, .ref h2, .ref h3, .ref h4, .ref h5, .ref h6, .ref h7, .int 0, .int 2])), (h1, .inr (3, [.int 0, .ref (sv 0), .int 0]))]) 0) := by
  refine xof (by decide) (Nat.le_of_ble_eq_true rfl) (fun p e s m below meth c A C w hr hn ls hl => ?_)
  have hl : lv_has ls 5 [(0, .ref h0), (1, .int v0), (2, .int v1), (3, .int v2), (4, .int 2)] := hl
  refine lv_aload_n C.1 C.2.1 dX6_rangeNear_0 rfl (lv_at hl 0 rfl) ?_
  refine lv_iload_n C.1 C.2.1 dX6_rangeNear_1 rfl (lv_at hl 1 rfl) ?_
  refine lv_iload_n C.1 C.2.1 dX6_rangeNear_2 rfl (lv_at hl 2 rfl) ?_
  refine lv_icmp_gt (tgt := 14) C.1 C.2.1 dX6_rangeNear_3 (by decide) (fun c9 => absurd c9 p0) (fun _ => ?_)
  refine lv_iload C.1 C.2.1 dX6_rangeNear_6 (lv_at hl 4 rfl) ?_
  refine x_ki C w [] [0, 1] rfl rfl (by decide) (by decide) (va_runS (As := [.int 2]) (rest := [.ref h0]) (xfix C) (c167_X6_isNoHow l G cy sa sv (xtr C) _) (va_cwS 1 (xhts C) (xgS gw_439 gw_440 gw_58 gc_X6_isNoHow) rfl rfl rfl (by decide +kernel) ⟨(Nat.le_of_ble_eq_true rfl), (Nat.le_of_ble_eq_true rfl)⟩) (xPS C w [] rfl (by decide)) rfl rfl hl.1 rfl (lv_room (Nat.le_of_ble_eq_true rfl)) dX6_rangeNear_8 ⟨(Nat.le_of_ble_eq_true rfl), (Nat.le_of_ble_eq_true rfl)⟩) (fun f1925 H locs w => ?_)
  have w : xW G A s [(h0, .inr (10, [.ref h1, .ref h2, .ref h3, .ref h4, .ref h5, .ref h6, .ref h7, .int 0, .int 0])), (h1, .inr (3, [.int 0, .ref (sv 0), .int 0]))] H _ := w
  refine lv_if_eq (tgt := 18) C.1 C.2.1 dX6_rangeNear_11 (by decide) (fun _ => ?_) (fun c9 => absurd (by decide) c9)
  refine lv_iconst (v := 0) C.1 C.2.1 dX6_rangeNear_18 (by decide) ?_
  refine lv_iconst (v := 1) C.1 C.2.1 dX6_rangeNear_19 (by decide) ?_
  refine x_ki C w [0] [1] rfl rfl (by decide) (by decide) (va_runV (As := [.int 0, .int 1]) (rest := []) (xfix C) (c46_X6_start l G cy sa sv h0 h1 h2 h3 h4 h5 h6 h7 (xtr C) _) (cwV 2 (xhts C) (xgV (maxL := 0) (cc := ⟨#[]⟩) (ret := none) gw_114 gw_115 gw_116 gw_58 gc_X6_start) rfl rfl rfl (by decide +kernel) ⟨(Nat.le_of_ble_eq_true rfl), (Nat.le_of_ble_eq_true rfl)⟩) (xPV C w [0] rfl (by decide) (ci := 10) (q0 := 0) rfl rfl) rfl rfl hl.1 rfl (lv_room (Nat.le_of_ble_eq_true rfl)) dX6_rangeNear_20 ⟨(Nat.le_of_ble_eq_true rfl), (Nat.le_of_ble_eq_true rfl)⟩) (fun f1926 H locs w => ?_)
  have w : xW G A s [(h1, .inr (3, [.int 0, .ref (sv 0), .int 0])), (h0, .inr (10, [.ref h1, .ref h2, .ref h3, .ref h4, .ref h5, .ref h6, .ref h7, .int 0, .int 0]))] H _ := w
  refine lv_if_ne (tgt := 54) C.1 C.2.1 dX6_rangeNear_23 (by decide) (fun c9 => absurd (by decide) c9) (fun _ => ?_)
  refine lv_aload_n C.1 C.2.1 dX6_rangeNear_26 rfl (lv_at hl 0 rfl) ?_
  refine lv_aload_n C.1 C.2.1 dX6_rangeNear_27 rfl (lv_at hl 0 rfl) ?_
  refine lv_iload_n C.1 C.2.1 dX6_rangeNear_28 rfl (lv_at hl 1 rfl) ?_
  refine lv_iload_n C.1 C.2.1 dX6_rangeNear_29 rfl (lv_at hl 2 rfl) ?_
  refine x_kr C w [1, 0] [] rfl rfl (by decide) (by decide) (va_runV (As := [.int v0, .int v1]) (rest := [.ref h0]) (xfix C) (c298_X6_range l G cy sa sv h0 h1 h2 h3 h4 h5 h6 h7 v0 v1 (xtr C) _) (cwV 2 (xhts C) (xgV (maxL := 0) (cc := ⟨#[]⟩) (ret := none) gw_670 gw_671 gw_672 gw_58 gc_X6_range) rfl rfl rfl (by decide +kernel) ⟨(Nat.le_of_ble_eq_true rfl), (Nat.le_of_ble_eq_true rfl)⟩) (xPV C w [1, 0] rfl (by decide) (ci := 10) (q0 := 1) rfl rfl) rfl rfl hl.1 rfl (lv_room (Nat.le_of_ble_eq_true rfl)) dX6_rangeNear_30 ⟨(Nat.le_of_ble_eq_true rfl), (Nat.le_of_ble_eq_true rfl)⟩) (fun f1935 H locs w => ?_)
  have w : xW G A s [(h0, .inr (10, [.ref h1, .ref h2, .ref h3, .ref h4, .ref h5, .ref h6, .ref h7, .int 0, .int 0])), (h1, .inr (3, [.int 0, .ref (sv 0), .int 0])), ((f1935 0), .inr (3, [.int 0, .ref (sv 0), .int 0]))] H _ := w
  refine W.widen (k := 1) (n := 3) (Nat.le_of_ble_eq_true rfl) (Nat.le_of_ble_eq_true rfl) ?_
  refine lv_iload_n C.1 C.2.1 dX6_rangeNear_33 rfl (lv_at hl 3 rfl) ?_
  refine lv_iload C.1 C.2.1 dX6_rangeNear_34 (lv_at hl 4 rfl) ?_
  refine x_kn C w [2] [0, 1] rfl rfl (by decide) (by decide) (va_runS (As := [.ref (f1935 0), .int v2, .int 2]) (rest := [.ref h0]) (xfix C) (c168_X6_nearIn l G cy sa sv (f1935 0) v2 (xtr C) _) (va_cwS 3 (xhts C) (xgS gw_442 gw_443 gw_58 gc_X6_nearIn) rfl rfl rfl (by decide +kernel) ⟨(Nat.le_of_ble_eq_true rfl), (Nat.le_of_ble_eq_true rfl)⟩) (xPS C w [2] rfl (by decide)) rfl rfl hl.1 rfl (lv_room (Nat.le_of_ble_eq_true rfl)) dX6_rangeNear_36 ⟨(Nat.le_of_ble_eq_true rfl), (Nat.le_of_ble_eq_true rfl)⟩) (fun f1937 H locs w => ?_)
  have w : xW G A s [(h0, .inr (10, [.ref h1, .ref h2, .ref h3, .ref h4, .ref h5, .ref h6, .ref h7, .int 0, .int 0])), (h1, .inr (3, [.int 0, .ref (sv 0), .int 0])), ((f1935 0), .inr (3, [.int 0, .ref (sv 0), .int 0]))] H _ := w
  refine lv_ifnonnullN C.1 C.2.1 dX6_rangeNear_39 ?_
  refine lv_iconst (v := 1) C.1 C.2.1 dX6_rangeNear_42 (by decide) ?_
  refine lv_goto (tgt := 47) C.1 C.2.1 dX6_rangeNear_43 (by decide) ?_
  refine lv_iconst (v := 2) C.1 C.2.1 dX6_rangeNear_47 (by decide) ?_
  refine x_ki C w [0] [1, 2] rfl rfl (by decide) (by decide) (va_runV (As := [.int 1, .int 2]) (rest := []) (xfix C) (c149_X6_fails l G cy sa sv h0 h1 h2 h3 h4 h5 h6 h7 (xtr C) _) (cwV 2 (xhts C) (xgV (maxL := 0) (cc := ⟨#[]⟩) (ret := none) gw_203 gw_204 gw_205 gw_58 gc_X6_fails) rfl rfl rfl (by decide +kernel) ⟨(Nat.le_of_ble_eq_true rfl), (Nat.le_of_ble_eq_true rfl)⟩) (xPV C w [0] rfl (by decide) (ci := 10) (q0 := 0) rfl rfl) rfl rfl hl.1 rfl (lv_room (Nat.le_of_ble_eq_true rfl)) dX6_rangeNear_48 ⟨(Nat.le_of_ble_eq_true rfl), (Nat.le_of_ble_eq_true rfl)⟩) (fun f1938 H locs w => ?_)
  have w : xW G A s [(h1, .inr (3, [.int 0, .ref (sv 0), .int 0])), ((f1935 0), .inr (3, [.int 0, .ref (sv 0), .int 0])), (h0, .inr (10, [.ref h1, .ref h2, .ref h3, .ref h4, .ref h5, .ref h6, .ref h7, .int 0, .int 2]))] H _ := w
  refine lv_if_eq (tgt := 58) C.1 C.2.1 dX6_rangeNear_51 (by decide) (fun c9 => absurd c9 (by decide)) (fun _ => ?_)
  refine lv_iconst (v := 0) C.1 C.2.1 dX6_rangeNear_54 (by decide) ?_
  refine lv_goto (tgt := 72) C.1 C.2.1 dX6_rangeNear_55 (by decide) ?_
  have w := w.sub (ws' := [(h0, .inr (10, [.ref h1, .ref h2, .ref h3, .ref h4, .ref h5, .ref h6, .ref h7, .int 0, .int 2])), (h1, .inr (3, [.int 0, .ref (sv 0), .int 0]))]) [2, 0] (by decide) rfl rfl
  exact x_iret C w hr (fun _ => 0) rfl rfl dX6_rangeNear_72 (Nat.le_of_ble_eq_true rfl) (Nat.le_of_ble_eq_true rfl)
set_option maxHeartbeats 4000000 in
set_option maxRecDepth 100000 in
theorem c334_X4_rangeNear (l : Launch) (G : va_G) (cy : Nat → ClassId) (sa : String → Nat → Nat) (sv : Nat → Nat) (h0 : Nat) (v0 v1 v2 : Int32) (p0 : ¬ v0 ≤ v1) : xX l G cy sa sv yX4_rangeNear (Cond.code yX4_rangeNear cX4_rangeNear 6 (some .int) :: XG) { frames := 9, cells := 1, slots := 6, locals := 271 } [.ref h0, .int v0, .int v1, .int v2, .int 2] [] (fun f => []) "java/lang/IllegalArgumentException" := by
  refine xofX (by decide) (Nat.le_of_ble_eq_true rfl) (fun p e s m below meth c A C w hno ls hl => ?_)
  have hl : lv_has ls 6 [(0, .ref h0), (1, .int v0), (2, .int v1), (3, .int v2), (4, .int 2)] := hl
  refine lv_iload_n C.1 C.2.1 dX4_rangeNear_0 rfl (lv_at hl 1 rfl) ?_
  refine lv_iload_n C.1 C.2.1 dX4_rangeNear_1 rfl (lv_at hl 2 rfl) ?_
  refine x_kx C w [] [] rfl rfl (by decide) (by decide) (vx_runS (As := [.int v0, .int v1]) (rest := []) (xfix C) (c306_X4_checkRange l G cy sa sv v0 v1 p0 (xtr C) _) (va_cwS 2 (xhts C) (xgS gw_390 gw_391 gw_2 gc_X4_checkRange) rfl rfl rfl (by decide +kernel) ⟨(Nat.le_of_ble_eq_true rfl), (Nat.le_of_ble_eq_true rfl)⟩) (xPS C w [] rfl (by decide)) rfl rfl hl.1 rfl (lv_room (Nat.le_of_ble_eq_true rfl)) dX4_rangeNear_2 ⟨(Nat.le_of_ble_eq_true rfl), (Nat.le_of_ble_eq_true rfl)⟩) (fun f1945 H locs ce q9 w hce hcv hcl => ?_)
  have w : xW G A s [] H _ := w
  refine vx_widen (k := 1) (n := 6) (Nat.le_of_ble_eq_true rfl) (Nat.le_of_ble_eq_true rfl) ?_
  exact x_out C w hno (fun _ => 0) rfl hce hcv hcl (Nat.le_of_ble_eq_true rfl) (Nat.le_of_ble_eq_true rfl)
set_option maxHeartbeats 4000000 in
set_option maxRecDepth 100000 in
theorem c335_L_rangeNear (l : Launch) (G : va_G) (cy : Nat → ClassId) (sa : String → Nat → Nat) (sv : Nat → Nat) (h0 h1 h2 h3 h4 h5 h6 h7 h8 : Nat) (v0 v1 v2 : Int32) (p0 : ¬ v0 ≤ v1) : xM l G cy sa sv yL_rangeNear (Cond.codeWith yL_rangeNear cL_rangeNear 7 (some .int) [(0, 15, 18, 19), (0, 15, 22, 21)] :: XG) { frames := 10, cells := 1, slots := 6, locals := 296 } [.ref h0, .int v0, .int v1, .int v2, .int 2, .ref h1] [(h0, .inr (8, [.ref h2, .ref h3, .ref h4, .ref h5, .ref h6, .int 0, .ref h7, .ref h8]))] (xQi G (fun f => [(h0, .inr (8, [.ref h2, .ref h3, .ref h4, .ref h5, .ref h6, .int 0, .ref h7, .ref h8]))]) 1) := by
  refine xofH (by decide) (Nat.le_of_ble_eq_true rfl) (fun p e s m below meth c A C w hr hn hT ls hl => ?_)
  have hl : lv_has ls 7 [(0, .ref h0), (1, .int v0), (2, .int v1), (3, .int v2), (4, .int 2), (5, .ref h1)] := hl
  refine lv_aload C.1 C.2.1 dL_rangeNear_0 (lv_at hl 5 rfl) ?_
  refine lv_aload_n C.1 C.2.1 dL_rangeNear_2 rfl (lv_at hl 0 rfl) ?_
  refine lv_iload_n C.1 C.2.1 dL_rangeNear_3 rfl (lv_at hl 1 rfl) ?_
  refine lv_iload_n C.1 C.2.1 dL_rangeNear_4 rfl (lv_at hl 2 rfl) ?_
  refine lv_iload_n C.1 C.2.1 dL_rangeNear_5 rfl (lv_at hl 3 rfl) ?_
  refine lv_iload C.1 C.2.1 dL_rangeNear_6 (lv_at hl 4 rfl) ?_
  refine x_kx C w [] [0] rfl rfl (by decide) (by decide) (vx_runV (As := [.int v0, .int v1, .int v2, .int 2]) (rest := [.ref h1]) (xfix C) (c334_X4_rangeNear l G cy sa sv h0 v0 v1 v2 p0 (xtr C) _) (cwV 4 (xhts C) (xgV (maxL := 0) (cc := ⟨#[]⟩) (ret := none) gw_685 gw_429 gw_430 gw_2 gc_X4_rangeNear) rfl rfl rfl (by decide +kernel) ⟨(Nat.le_of_ble_eq_true rfl), (Nat.le_of_ble_eq_true rfl)⟩) (xPV C w [] rfl (by decide) (ci := 8) (q0 := 0) rfl rfl) rfl rfl hl.1 rfl (lv_room (Nat.le_of_ble_eq_true rfl)) dL_rangeNear_8 ⟨(Nat.le_of_ble_eq_true rfl), (Nat.le_of_ble_eq_true rfl)⟩) (fun f1946 H locs ce q9 w hce hcv hcl => ?_)
  have w : xW G A s [(h0, .inr (8, [.ref h2, .ref h3, .ref h4, .ref h5, .ref h6, .int 0, .ref h7, .ref h8]))] H _ := w
  refine vx_widen (k := 1) (n := 6) (Nat.le_of_ble_eq_true rfl) (Nat.le_of_ble_eq_true rfl) ?_
  refine vx_catch (xown C) [] ⟨0, 15, 18, 19⟩ [⟨0, 15, 22, 21⟩] hT (fun z hz => nomatch hz) (by decide) (by decide) (xhts C _ (List.mem_cons_of_mem _ gw_104)) (va_any rfl (xs_c1 (xS C))) hce hcv hcl ?_
  refine lv_astore (lv' := [(6, .ref q9), (0, .ref h0), (1, .int v0), (2, .int v1), (3, .int v2), (4, .int 2), (5, .ref h1)]) C.1 C.2.1 dL_rangeNear_18 hl (by decide) rfl (fun ls hl => ?_)
  refine lv_iconst (v := 1) C.1 C.2.1 dL_rangeNear_20 (by decide) ?_
  exact x_iret C w hr (fun _ => 0) rfl rfl dL_rangeNear_21 (Nat.le_of_ble_eq_true rfl) (Nat.le_of_ble_eq_true rfl)
set_option maxHeartbeats 4000000 in
set_option maxRecDepth 100000 in
theorem c336_X6_rangeNear (l : Launch) (G : va_G) (cy : Nat → ClassId) (sa : String → Nat → Nat) (sv : Nat → Nat) (h0 h1 h2 h3 h4 h5 h6 h7 : Nat) (v0 v1 v2 : Int32) (p0 : v1 < v0) : xM l G cy sa sv yX6_rangeNear (Cond.code yX6_rangeNear cX6_rangeNear 5 (some .int) :: XG) { frames := 9, cells := 0, slots := 0, locals := 272 } [.ref h0, .int v0, .int v1, .int v2, .int 2] [(h0, .inr (10, [.ref h1, .ref h2, .ref h3, .ref h4, .ref h5, .ref h6, .ref h7, .int 0, .int 0]))] (xQi G (fun f => [(h0, .inr (10, [.ref h1, .ref h2, .ref h3, .ref h4, .ref h5, .ref h6, .ref h7, .int 0, .int 1]))]) 0) := by
  refine xof (by decide) (Nat.le_of_ble_eq_true rfl) (fun p e s m below meth c A C w hr hn ls hl => ?_)
  have hl : lv_has ls 5 [(0, .ref h0), (1, .int v0), (2, .int v1), (3, .int v2), (4, .int 2)] := hl
  refine lv_aload_n C.1 C.2.1 dX6_rangeNear_0 rfl (lv_at hl 0 rfl) ?_
  refine lv_iload_n C.1 C.2.1 dX6_rangeNear_1 rfl (lv_at hl 1 rfl) ?_
  refine lv_iload_n C.1 C.2.1 dX6_rangeNear_2 rfl (lv_at hl 2 rfl) ?_
  refine lv_icmp_gt (tgt := 14) C.1 C.2.1 dX6_rangeNear_3 (by decide) (fun _ => ?_) (fun c9 => absurd p0 c9)
  refine lv_iconst (v := 1) C.1 C.2.1 dX6_rangeNear_14 (by decide) ?_
  refine lv_goto (tgt := 19) C.1 C.2.1 dX6_rangeNear_15 (by decide) ?_
  refine lv_iconst (v := 1) C.1 C.2.1 dX6_rangeNear_19 (by decide) ?_
  refine x_ki C w [0] [] rfl rfl (by decide) (by decide) (va_runV (As := [.int 1, .int 1]) (rest := []) (xfix C) (c17_X6_start l G cy sa sv h0 h1 h2 h3 h4 h5 h6 h7 (xtr C) _) (cwV 2 (xhts C) (xgV (maxL := 0) (cc := ⟨#[]⟩) (ret := none) gw_114 gw_115 gw_116 gw_58 gc_X6_start) rfl rfl rfl (by decide +kernel) ⟨(Nat.le_of_ble_eq_true rfl), (Nat.le_of_ble_eq_true rfl)⟩) (xPV C w [0] rfl (by decide) (ci := 10) (q0 := 0) rfl rfl) rfl rfl hl.1 rfl (lv_room (Nat.le_of_ble_eq_true rfl)) dX6_rangeNear_20 ⟨(Nat.le_of_ble_eq_true rfl), (Nat.le_of_ble_eq_true rfl)⟩) (fun f1949 H locs w => ?_)
  have w : xW G A s [(h0, .inr (10, [.ref h1, .ref h2, .ref h3, .ref h4, .ref h5, .ref h6, .ref h7, .int 0, .int 1]))] H _ := w
  refine lv_if_ne (tgt := 54) C.1 C.2.1 dX6_rangeNear_23 (by decide) (fun _ => ?_) (fun c9 => absurd c9 (by decide))
  refine lv_iconst (v := 0) C.1 C.2.1 dX6_rangeNear_54 (by decide) ?_
  refine lv_goto (tgt := 72) C.1 C.2.1 dX6_rangeNear_55 (by decide) ?_
  exact x_iret C w hr (fun _ => 0) rfl rfl dX6_rangeNear_72 (Nat.le_of_ble_eq_true rfl) (Nat.le_of_ble_eq_true rfl)
set_option maxHeartbeats 4000000 in
set_option maxRecDepth 100000 in
theorem c337_X3_placeNear (l : Launch) (G : va_G) (cy : Nat → ClassId) (sa : String → Nat → Nat) (sv : Nat → Nat) (h0 h1 h2 h3 : Nat) (v0 v1 v2 : Int32) : xM l G cy sa sv yX3_placeNear (Cond.code yX3_placeNear cX3_placeNear 8 (some .int) :: XG) { frames := 11, cells := 0, slots := 0, locals := 314 } [.ref h0, .int v0, .int v1, .int v2, .int 3] [(h0, .inr (7, [.ref h1, .ref h2])), (h1, .inr (6, [.ref h3, .int 0]))] (xQi G (fun f => [(h0, .inr (7, [.ref h1, .ref h2])), (h1, .inr (6, [.ref h3, .int 0]))]) (-1)) := by
  refine xof (by decide) (Nat.le_of_ble_eq_true rfl) (fun p e s m below meth c A C w hr hn ls hl => ?_)
  have hl : lv_has ls 8 [(0, .ref h0), (1, .int v0), (2, .int v1), (3, .int v2), (4, .int 3)] := hl
  refine lv_aload_n C.1 C.2.1 dX3_placeNear_0 rfl (lv_at hl 0 rfl) ?_
  refine lv_iload_n C.1 C.2.1 dX3_placeNear_1 rfl (lv_at hl 1 rfl) ?_
  refine x_ki C w [0, 1] [] rfl rfl (by decide) (by decide) (va_runV (As := [.int v0]) (rest := []) (xfix C) (c31_X3_countBelow l G cy sa sv h0 h1 h2 h3 v0 (xtr C) _) (cwV 1 (xhts C) (xgV (maxL := 0) (cc := ⟨#[]⟩) (ret := none) gw_158 gw_159 gw_160 gw_7 gc_X3_countBelow) rfl rfl rfl (by decide +kernel) ⟨(Nat.le_of_ble_eq_true rfl), (Nat.le_of_ble_eq_true rfl)⟩) (xPV C w [0, 1] rfl (by decide) (ci := 7) (q0 := 0) rfl rfl) rfl rfl hl.1 rfl (lv_room (Nat.le_of_ble_eq_true rfl)) dX3_placeNear_2 ⟨(Nat.le_of_ble_eq_true rfl), (Nat.le_of_ble_eq_true rfl)⟩) (fun f1963 H locs w => ?_)
  have w : xW G A s [(h0, .inr (7, [.ref h1, .ref h2])), (h1, .inr (6, [.ref h3, .int 0]))] H _ := w
  refine lv_istore (lv' := [(5, .int 0), (0, .ref h0), (1, .int v0), (2, .int v1), (3, .int v2), (4, .int 3)]) C.1 C.2.1 dX3_placeNear_5 hl (by decide) rfl (fun ls hl => ?_)
  refine lv_aload_n C.1 C.2.1 dX3_placeNear_7 rfl (lv_at hl 1 rfl) ?_
  refine lv_iload_n C.1 C.2.1 dX3_placeNear_8 rfl (lv_at hl 3 rfl) ?_
  refine x_ki C w [0, 1] [] rfl rfl (by decide) (by decide) (va_runV (As := [.int v1]) (rest := []) (xfix C) (c153_X3_countNotAbove l G cy sa sv h0 h1 h2 h3 v1 (xtr C) _) (cwV 1 (xhts C) (xgV (maxL := 0) (cc := ⟨#[]⟩) (ret := none) gw_392 gw_309 gw_310 gw_7 gc_X3_countNotAbove) rfl rfl rfl (by decide +kernel) ⟨(Nat.le_of_ble_eq_true rfl), (Nat.le_of_ble_eq_true rfl)⟩) (xPV C w [0, 1] rfl (by decide) (ci := 7) (q0 := 0) rfl rfl) rfl rfl hl.1 rfl (lv_room (Nat.le_of_ble_eq_true rfl)) dX3_placeNear_9 ⟨(Nat.le_of_ble_eq_true rfl), (Nat.le_of_ble_eq_true rfl)⟩) (fun f1968 H locs w => ?_)
  have w : xW G A s [(h0, .inr (7, [.ref h1, .ref h2])), (h1, .inr (6, [.ref h3, .int 0]))] H _ := w
  refine lv_iconst (v := 1) C.1 C.2.1 dX3_placeNear_12 (by decide) ?_
  refine lv_isub C.1 C.2.1 dX3_placeNear_13 ?_
  refine x_is (y := (-1)) (by decide) ?_
  refine lv_istore (lv' := [(6, .int (-1)), (5, .int 0), (0, .ref h0), (1, .int v0), (2, .int v1), (3, .int v2), (4, .int 3)]) C.1 C.2.1 dX3_placeNear_14 hl (by decide) rfl (fun ls hl => ?_)
  refine lv_iload C.1 C.2.1 dX3_placeNear_16 (lv_at hl 6 rfl) ?_
  refine lv_tableOut (tgt := 93) C.1 C.2.1 dX3_placeNear_18 (by decide) (by decide) ?_
  refine lv_aload_n C.1 C.2.1 dX3_placeNear_93 rfl (lv_at hl 2 rfl) ?_
  refine lv_iload_n C.1 C.2.1 dX3_placeNear_94 rfl (lv_at hl 5 rfl) ?_
  refine x_ki C w [0, 1] [] rfl rfl (by decide) (by decide) (va_runV (As := [.int v2]) (rest := []) (xfix C) (c153_X3_countNotAbove l G cy sa sv h0 h1 h2 h3 v2 (xtr C) _) (cwV 1 (xhts C) (xgV (maxL := 0) (cc := ⟨#[]⟩) (ret := none) gw_392 gw_309 gw_310 gw_7 gc_X3_countNotAbove) rfl rfl rfl (by decide +kernel) ⟨(Nat.le_of_ble_eq_true rfl), (Nat.le_of_ble_eq_true rfl)⟩) (xPV C w [0, 1] rfl (by decide) (ci := 7) (q0 := 0) rfl rfl) rfl rfl hl.1 rfl (lv_room (Nat.le_of_ble_eq_true rfl)) dX3_placeNear_95 ⟨(Nat.le_of_ble_eq_true rfl), (Nat.le_of_ble_eq_true rfl)⟩) (fun f1973 H locs w => ?_)
  have w : xW G A s [(h0, .inr (7, [.ref h1, .ref h2])), (h1, .inr (6, [.ref h3, .int 0]))] H _ := w
  refine lv_iload C.1 C.2.1 dX3_placeNear_98 (lv_at hl 1 rfl) ?_
  refine va_mmax C.1 C.2.1 (C.2.2.1.trans hl.1.symm) (xown C) (xhts C _ (List.mem_cons_of_mem _ gw_448)) (xhts C _ (List.mem_cons_of_mem _ gw_216)) (xhts C _ (List.mem_cons_of_mem _ gw_217)) (xhts C _ (List.mem_cons_of_mem _ gm_max)) (Nat.le_of_ble_eq_true rfl) (Nat.le_of_ble_eq_true rfl) (Nat.le_of_ble_eq_true rfl) (Nat.le_of_ble_eq_true rfl) dX3_placeNear_100 ?_
  refine x_is (y := 0) (if_neg (by decide)) ?_
  refine lv_istore (lv' := [(7, .int 0), (6, .int (-1)), (5, .int 0), (0, .ref h0), (1, .int v0), (2, .int v1), (3, .int v2), (4, .int 3)]) C.1 C.2.1 dX3_placeNear_103 hl (by decide) rfl (fun ls hl => ?_)
  refine lv_iload C.1 C.2.1 dX3_placeNear_105 (lv_at hl 2 rfl) ?_
  refine lv_iload C.1 C.2.1 dX3_placeNear_107 (lv_at hl 1 rfl) ?_
  refine lv_iload C.1 C.2.1 dX3_placeNear_109 (lv_at hl 0 rfl) ?_
  refine x_ki C w [] [0, 1] rfl rfl (by decide) (by decide) (va_runSN (As := [.int 0, .int (-1), .int 0]) (rest := []) (xfix C) (c162_X4_isBetween l G cy sa sv (xtr C) _) ⟨(va_cnB 3 (xhts C) (xgI gc_X4_isBetween) rfl rfl rfl (xs_mB (xS C)) (xhts C _ (List.mem_cons_of_mem _ gw_2)) (by decide +kernel) ⟨(Nat.le_of_ble_eq_true rfl), (Nat.le_of_ble_eq_true rfl)⟩), xhts C _ (List.mem_cons_of_mem _ gw_422), trivial⟩ (xPS C w [] rfl (by decide)) rfl rfl hl.1 rfl (lv_room (Nat.le_of_ble_eq_true rfl)) dX3_placeNear_111 ⟨(Nat.le_of_ble_eq_true rfl), (Nat.le_of_ble_eq_true rfl)⟩) (fun f1974 H locs w => ?_)
  have w : xW G A s [(h0, .inr (7, [.ref h1, .ref h2])), (h1, .inr (6, [.ref h3, .int 0]))] H _ := w
  refine lv_if_eq (tgt := 122) C.1 C.2.1 dX3_placeNear_114 (by decide) (fun _ => ?_) (fun c9 => absurd (by decide) c9)
  refine lv_iconst (v := (-1)) C.1 C.2.1 dX3_placeNear_122 (by decide) ?_
  exact x_iret C w hr (fun _ => 0) rfl rfl dX3_placeNear_123 (Nat.le_of_ble_eq_true rfl) (Nat.le_of_ble_eq_true rfl)
