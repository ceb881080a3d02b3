set_option maxHeartbeats 4000000 in
set_option maxRecDepth 100000 in
theorem c270_J5_inflateIfNeededFor_a7421 (l : Launch) (G : va_G) (cy : Nat → ClassId) (sa : String → Nat → Nat) (sv : Nat → Nat) (h0 h1 : Nat) : xM l G cy sa sv yJ5_inflateIfNeededFor_a7421 (Cond.code yJ5_inflateIfNeededFor_a7421 cJ5_inflateIfNeededFor_a7421 2 none :: XG) { frames := 9, cells := 0, slots := 0, locals := 270 } [.ref h0, .ref (sa "TwinindexModel" 122)] [(h0, .inr (1, [.ref h1, .int 0, .int 0, .int 1]))] (xQv G (fun f => [(h0, .inr (1, [.ref h1, .int 0, .int 0, .int 1]))])) := by
  refine xof (by decide) (Nat.le_of_ble_eq_true rfl) (fun p e s m below meth c A C w hr hn ls hl => ?_)
  have hl : lv_has ls 2 [(0, .ref h0), (1, .ref (sa "TwinindexModel" 122))] := hl
  refine x_gets C w (xs_cs (xS C)) (List.mem_cons_of_mem _ gw_479) rfl dJ5_inflateIfNeededFor_a7421_0 ?_
  refine lv_if_eq (tgt := 21) C.1 C.2.1 dJ5_inflateIfNeededFor_a7421_3 (by decide) (fun c9 => absurd c9 (by decide)) (fun _ => ?_)
  refine lv_aload_n C.1 C.2.1 dJ5_inflateIfNeededFor_a7421_6 rfl (lv_at hl 0 rfl) ?_
  refine x_get (v := .int 0) C w 0 1 1 (xin_J4 _) rfl rfl (by decide) (List.mem_cons_of_mem _ gw_482) rfl rfl dJ5_inflateIfNeededFor_a7421_7 ?_
  refine lv_aload_n C.1 C.2.1 dJ5_inflateIfNeededFor_a7421_10 rfl (lv_at hl 1 rfl) ?_
  refine x_ki C w [] [0] rfl rfl (by decide) (by decide) (va_runV (As := []) (rest := [.int 0]) (xfix C) (c267_J0_coder_7d493 l G cy sa sv (xtr C) _) (cwV 0 (xhts C) (xgV (maxL := 0) (cc := ⟨#[]⟩) (ret := none) gw_612 gw_606 gw_607 gw_492 gc_J0_coder_7d493) rfl rfl rfl (by decide +kernel) ⟨(Nat.le_of_ble_eq_true rfl), (Nat.le_of_ble_eq_true rfl)⟩) (xPVs C w [] rfl (by decide) (xs_s0 (xS C))) rfl rfl hl.1 rfl (lv_room (Nat.le_of_ble_eq_true rfl)) dJ5_inflateIfNeededFor_a7421_11 ⟨(Nat.le_of_ble_eq_true rfl), (Nat.le_of_ble_eq_true rfl)⟩) (fun f1612 H locs w => ?_)
  have w : xW G A s [(h0, .inr (1, [.ref h1, .int 0, .int 0, .int 1]))] H _ := w
  refine lv_icmp_eq (tgt := 21) C.1 C.2.1 dJ5_inflateIfNeededFor_a7421_14 (by decide) (fun _ => ?_) (fun c9 => absurd (by decide) c9)
  exact x_vret C w hr (fun _ => 0) rfl dJ5_inflateIfNeededFor_a7421_21 (Nat.le_of_ble_eq_true rfl) (Nat.le_of_ble_eq_true rfl)
set_option maxHeartbeats 4000000 in
set_option maxRecDepth 100000 in
theorem c271_J0_getBytes_840e7 (l : Launch) (G : va_G) (cy : Nat → ClassId) (sa : String → Nat → Nat) (sv : Nat → Nat) (h0 : Nat) : xM l G cy sa sv yJ0_getBytes_840e7 (Cond.code yJ0_getBytes_840e7 cJ0_getBytes_840e7 4 none :: XG) { frames := 9, cells := 0, slots := 0, locals := 270 } [.ref (sa "TwinindexModel" 122), .ref h0, .int 1, .int 0] [(h0, .inl (cy 0, 16, .inl (va_cpy (fun j => ([123] : List Int32).getD j 0) (fun _ => 0) 0 0 1)))] (xQv G (fun f => [(h0, .inl (cy 0, 16, .inl (va_cpy (fun j => ([] : List Int32).getD j 0) (va_cpy (fun j => ([123] : List Int32).getD j 0) (fun _ => 0) 0 0 1) 0 1 0)))])) := by
  refine xof (by decide) (Nat.le_of_ble_eq_true rfl) (fun p e s m below meth c A C w hr hn ls hl => ?_)
  have hl : lv_has ls 4 [(0, .ref (sa "TwinindexModel" 122)), (1, .ref h0), (2, .int 1), (3, .int 0)] := hl
  refine lv_aload_n C.1 C.2.1 dJ0_getBytes_840e7_0 rfl (lv_at hl 0 rfl) ?_
  refine x_ki C w [] [0] rfl rfl (by decide) (by decide) (va_runV (As := []) (rest := []) (xfix C) (c267_J0_coder_7d493 l G cy sa sv (xtr C) _) (cwV 0 (xhts C) (xgV (maxL := 0) (cc := ⟨#[]⟩) (ret := none) gw_605 gw_606 gw_607 gw_492 gc_J0_coder_7d493) rfl rfl rfl (by decide +kernel) ⟨(Nat.le_of_ble_eq_true rfl), (Nat.le_of_ble_eq_true rfl)⟩) (xPVs C w [] rfl (by decide) (xs_s0 (xS C))) rfl rfl hl.1 rfl (lv_room (Nat.le_of_ble_eq_true rfl)) dJ0_getBytes_840e7_1 ⟨(Nat.le_of_ble_eq_true rfl), (Nat.le_of_ble_eq_true rfl)⟩) (fun f1614 H locs w => ?_)
  have w : xW G A s [(h0, .inl (cy 0, 16, .inl (va_cpy (fun j => ([123] : List Int32).getD j 0) (fun _ => 0) 0 0 1)))] H _ := w
  refine lv_iload_n C.1 C.2.1 dJ0_getBytes_840e7_4 rfl (lv_at hl 3 rfl) ?_
  refine lv_icmp_ne (tgt := 28) C.1 C.2.1 dJ0_getBytes_840e7_5 (by decide) (fun c9 => absurd (by decide) c9) (fun _ => ?_)
  refine lv_aload_n C.1 C.2.1 dJ0_getBytes_840e7_8 rfl (lv_at hl 0 rfl) ?_
  refine x_getk C w (xs_s0 (xS C)).2.2.1 (List.mem_cons_of_mem _ gw_530) rfl dJ0_getBytes_840e7_9 ?_
  refine lv_iconst (v := 0) C.1 C.2.1 dJ0_getBytes_840e7_12 (by decide) ?_
  refine lv_aload_n C.1 C.2.1 dJ0_getBytes_840e7_13 rfl (lv_at hl 1 rfl) ?_
  refine lv_iload_n C.1 C.2.1 dJ0_getBytes_840e7_14 rfl (lv_at hl 2 rfl) ?_
  refine lv_iload_n C.1 C.2.1 dJ0_getBytes_840e7_15 rfl (lv_at hl 3 rfl) ?_
  refine lv_ishl C.1 C.2.1 dJ0_getBytes_840e7_16 ?_
  refine x_is (y := 1) (by decide) ?_
  refine lv_aload_n C.1 C.2.1 dJ0_getBytes_840e7_17 rfl (lv_at hl 0 rfl) ?_
  refine x_getk C w (xs_s0 (xS C)).2.2.1 (List.mem_cons_of_mem _ gw_530) rfl dJ0_getBytes_840e7_18 ?_
  refine x_tlen (v := 0) C w (xs_s0 (xS C)).2.2.2 (by decide) dJ0_getBytes_840e7_21 ?_
  refine x_copyt (sp' := 0) (dp' := 1) (n' := 0) C w hl.1 (xs_s0 (xS C)).2.2.2 0 (List.mem_cons_of_mem _ gw_618) (List.mem_cons_of_mem _ gw_521) (List.mem_cons_of_mem _ gw_522) (List.mem_cons_of_mem _ gw_523) rfl (by decide) (by decide) (by decide) (by decide) (by decide) (by decide) (by decide) (by decide) (fun i hi => absurd hi (Nat.not_lt_zero i)) (Nat.le_of_ble_eq_true rfl) (Nat.le_of_ble_eq_true rfl) dJ0_getBytes_840e7_22 (fun H locs w => ?_)
  have w : xW G A s [(h0, .inl (cy 0, 16, .inl (va_cpy (fun j => ([] : List Int32).getD j 0) (va_cpy (fun j => ([123] : List Int32).getD j 0) (fun _ => 0) 0 0 1) 0 1 0)))] H _ := w
  refine lv_goto (tgt := 43) C.1 C.2.1 dJ0_getBytes_840e7_25 (by decide) ?_
  exact x_vret C w hr (fun _ => 0) rfl dJ0_getBytes_840e7_43 (Nat.le_of_ble_eq_true rfl) (Nat.le_of_ble_eq_true rfl)
set_option maxHeartbeats 4000000 in
set_option maxRecDepth 100000 in
theorem c272_J5_putStringAt_47b60 (l : Launch) (G : va_G) (cy : Nat → ClassId) (sa : String → Nat → Nat) (sv : Nat → Nat) (h0 h1 : Nat) : xM l G cy sa sv yJ5_putStringAt_47b60 (Cond.code yJ5_putStringAt_47b60 cJ5_putStringAt_47b60 3 none :: XG) { frames := 10, cells := 0, slots := 0, locals := 293 } [.ref h0, .int 1, .ref (sa "TwinindexModel" 122)] [(h0, .inr (1, [.ref h1, .int 0, .int 0, .int 1])), (h1, .inl (cy 0, 16, .inl (va_cpy (fun j => ([123] : List Int32).getD j 0) (fun _ => 0) 0 0 1)))] (xQv G (fun f => [(h0, .inr (1, [.ref h1, .int 0, .int 0, .int 1])), (h1, .inl (cy 0, 16, .inl (va_cpy (fun j => ([] : List Int32).getD j 0) (va_cpy (fun j => ([123] : List Int32).getD j 0) (fun _ => 0) 0 0 1) 0 1 0)))])) := by
  refine xof (by decide) (Nat.le_of_ble_eq_true rfl) (fun p e s m below meth c A C w hr hn ls hl => ?_)
  have hl : lv_has ls 3 [(0, .ref h0), (1, .int 1), (2, .ref (sa "TwinindexModel" 122))] := hl
  refine lv_aload_n C.1 C.2.1 dJ5_putStringAt_47b60_0 rfl (lv_at hl 0 rfl) ?_
  refine lv_aload_n C.1 C.2.1 dJ5_putStringAt_47b60_1 rfl (lv_at hl 2 rfl) ?_
  refine x_kv C w [0] [1] rfl rfl (by decide) (by decide) (va_runU (As := [.ref (sa "TwinindexModel" 122)]) (rest := []) (xfix C) (c270_J5_inflateIfNeededFor_a7421 l G cy sa sv h0 h1 (xtr C) _) (va_cwU 1 (xhts C) (xgU (x := ⟨"java/lang/AbstractStringBuilder", "inflateIfNeededFor", "(Ljava/lang/String;)V"⟩) gw_614 gw_615 gw_616 gw_617 gw_484 gc_J5_inflateIfNeededFor_a7421) rfl rfl rfl rfl (by decide +kernel) ⟨(Nat.le_of_ble_eq_true rfl), (Nat.le_of_ble_eq_true rfl)⟩) (xPV C w [0] rfl (by decide) (ci := 1) (q0 := 0) rfl rfl) rfl rfl hl.1 rfl (lv_room (Nat.le_of_ble_eq_true rfl)) dJ5_putStringAt_47b60_2 ⟨(Nat.le_of_ble_eq_true rfl), (Nat.le_of_ble_eq_true rfl)⟩) (fun f1613 H locs w => ?_)
  have w : xW G A s [(h1, .inl (cy 0, 16, .inl (va_cpy (fun j => ([123] : List Int32).getD j 0) (fun _ => 0) 0 0 1))), (h0, .inr (1, [.ref h1, .int 0, .int 0, .int 1]))] H _ := w
  refine lv_aload_n C.1 C.2.1 dJ5_putStringAt_47b60_5 rfl (lv_at hl 2 rfl) ?_
  refine lv_aload_n C.1 C.2.1 dJ5_putStringAt_47b60_6 rfl (lv_at hl 0 rfl) ?_
  refine x_get (v := .ref h1) C w 1 1 0 (xin_J4 _) rfl rfl (by decide) (List.mem_cons_of_mem _ gw_481) rfl rfl dJ5_putStringAt_47b60_7 ?_
  refine lv_iload_n C.1 C.2.1 dJ5_putStringAt_47b60_10 rfl (lv_at hl 1 rfl) ?_
  refine lv_aload_n C.1 C.2.1 dJ5_putStringAt_47b60_11 rfl (lv_at hl 0 rfl) ?_
  refine x_get (v := .int 0) C w 1 1 1 (xin_J4 _) rfl rfl (by decide) (List.mem_cons_of_mem _ gw_482) rfl rfl dJ5_putStringAt_47b60_12 ?_
  refine x_kv C w [0] [1] rfl rfl (by decide) (by decide) (va_runV (As := [.ref h1, .int 1, .int 0]) (rest := []) (xfix C) (c271_J0_getBytes_840e7 l G cy sa sv h1 (xtr C) _) (cwV 3 (xhts C) (xgV (maxL := 0) (cc := ⟨#[]⟩) (ret := none) gw_620 gw_621 gw_622 gw_492 gc_J0_getBytes_840e7) rfl rfl rfl (by decide +kernel) ⟨(Nat.le_of_ble_eq_true rfl), (Nat.le_of_ble_eq_true rfl)⟩) (xPVs C w [0] rfl (by decide) (xs_s0 (xS C))) rfl rfl hl.1 rfl (lv_room (Nat.le_of_ble_eq_true rfl)) dJ5_putStringAt_47b60_15 ⟨(Nat.le_of_ble_eq_true rfl), (Nat.le_of_ble_eq_true rfl)⟩) (fun f1615 H locs w => ?_)
  have w : xW G A s [(h0, .inr (1, [.ref h1, .int 0, .int 0, .int 1])), (h1, .inl (cy 0, 16, .inl (va_cpy (fun j => ([] : List Int32).getD j 0) (va_cpy (fun j => ([123] : List Int32).getD j 0) (fun _ => 0) 0 0 1) 0 1 0)))] H _ := w
  exact x_vret C w hr (fun _ => 0) rfl dJ5_putStringAt_47b60_18 (Nat.le_of_ble_eq_true rfl) (Nat.le_of_ble_eq_true rfl)
set_option maxHeartbeats 4000000 in
set_option maxRecDepth 100000 in
theorem c273_J5_append_cf1ce (l : Launch) (G : va_G) (cy : Nat → ClassId) (sa : String → Nat → Nat) (sv : Nat → Nat) (h0 h1 : Nat) : xM l G cy sa sv yJ5_append_cf1ce (Cond.code yJ5_append_cf1ce cJ5_append_cf1ce 3 (some (.object "java/lang/AbstractStringBuilder")) :: XG) { frames := 11, cells := 0, slots := 0, locals := 315 } [.ref h0, .ref (sa "TwinindexModel" 122)] [(h0, .inr (1, [.ref h1, .int 0, .int 0, .int 1])), (h1, .inl (cy 0, 16, .inl (va_cpy (fun j => ([123] : List Int32).getD j 0) (fun _ => 0) 0 0 1)))] (xQr G (fun f => [(h0, .inr (1, [.ref h1, .int 0, .int 0, .int 1])), (h1, .inl (cy 0, 16, .inl (va_cpy (fun j => ([] : List Int32).getD j 0) (va_cpy (fun j => ([123] : List Int32).getD j 0) (fun _ => 0) 0 0 1) 0 1 0)))]) (fun f => h0)) := by
  refine xof (by decide) (Nat.le_of_ble_eq_true rfl) (fun p e s m below meth c A C w hr hn ls hl => ?_)
  have hl : lv_has ls 3 [(0, .ref h0), (1, .ref (sa "TwinindexModel" 122))] := hl
  refine lv_aload_n C.1 C.2.1 dJ5_append_cf1ce_0 rfl (lv_at hl 1 rfl) ?_
  refine lv_ifnonnull (tgt := 9) C.1 C.2.1 dJ5_append_cf1ce_1 (by decide) ?_
  refine lv_aload_n C.1 C.2.1 dJ5_append_cf1ce_9 rfl (lv_at hl 1 rfl) ?_
  refine x_ki C w [] [0, 1] rfl rfl (by decide) (by decide) (va_runV (As := []) (rest := []) (xfix C) (c268_J0_length_8abf5 l G cy sa sv (xtr C) _) (cwV 0 (xhts C) (xgV (maxL := 0) (cc := ⟨#[]⟩) (ret := none) gw_609 gw_610 gw_611 gw_492 gc_J0_length_8abf5) rfl rfl rfl (by decide +kernel) ⟨(Nat.le_of_ble_eq_true rfl), (Nat.le_of_ble_eq_true rfl)⟩) (xPVs C w [] rfl (by decide) (xs_s0 (xS C))) rfl rfl hl.1 rfl (lv_room (Nat.le_of_ble_eq_true rfl)) dJ5_append_cf1ce_10 ⟨(Nat.le_of_ble_eq_true rfl), (Nat.le_of_ble_eq_true rfl)⟩) (fun f1610 H locs w => ?_)
  have w : xW G A s [(h0, .inr (1, [.ref h1, .int 0, .int 0, .int 1])), (h1, .inl (cy 0, 16, .inl (va_cpy (fun j => ([123] : List Int32).getD j 0) (fun _ => 0) 0 0 1)))] H _ := w
  refine lv_istore_n (lv' := [(2, .int 0), (0, .ref h0), (1, .ref (sa "TwinindexModel" 122))]) C.1 C.2.1 dJ5_append_cf1ce_13 rfl hl (by decide) rfl (fun ls hl => ?_)
  refine lv_aload_n C.1 C.2.1 dJ5_append_cf1ce_14 rfl (lv_at hl 1 rfl) ?_
  refine lv_aload_n C.1 C.2.1 dJ5_append_cf1ce_15 rfl (lv_at hl 1 rfl) ?_
  refine x_get (v := .int 1) C w 0 1 3 (xin_J4 _) rfl rfl (by decide) (List.mem_cons_of_mem _ gw_499) rfl rfl dJ5_append_cf1ce_16 ?_
  refine lv_iload_n C.1 C.2.1 dJ5_append_cf1ce_19 rfl (lv_at hl 0 rfl) ?_
  refine lv_iadd C.1 C.2.1 dJ5_append_cf1ce_20 ?_
  refine x_is (y := 1) (by decide) ?_
  refine x_kv C w [0, 1] [] rfl rfl (by decide) (by decide) (va_runU (As := [.int 1]) (rest := []) (xfix C) (c269_J5_ensureCapacityInternal_d00df l G cy sa sv h0 h1 (xtr C) _) (va_cwU 1 (xhts C) (xgU (x := ⟨"java/lang/AbstractStringBuilder", "ensureCapacityInternal", "(I)V"⟩) gw_577 gw_578 gw_579 gw_580 gw_484 gc_J5_ensureCapacityInternal_d00df) rfl rfl rfl rfl (by decide +kernel) ⟨(Nat.le_of_ble_eq_true rfl), (Nat.le_of_ble_eq_true rfl)⟩) (xPV C w [0, 1] rfl (by decide) (ci := 1) (q0 := 0) rfl rfl) rfl rfl hl.1 rfl (lv_room (Nat.le_of_ble_eq_true rfl)) dJ5_append_cf1ce_21 ⟨(Nat.le_of_ble_eq_true rfl), (Nat.le_of_ble_eq_true rfl)⟩) (fun f1611 H locs w => ?_)
  have w : xW G A s [(h0, .inr (1, [.ref h1, .int 0, .int 0, .int 1])), (h1, .inl (cy 0, 16, .inl (va_cpy (fun j => ([123] : List Int32).getD j 0) (fun _ => 0) 0 0 1)))] H _ := w
  refine lv_aload_n C.1 C.2.1 dJ5_append_cf1ce_24 rfl (lv_at hl 1 rfl) ?_
  refine lv_aload_n C.1 C.2.1 dJ5_append_cf1ce_25 rfl (lv_at hl 1 rfl) ?_
  refine x_get (v := .int 1) C w 0 1 3 (xin_J4 _) rfl rfl (by decide) (List.mem_cons_of_mem _ gw_499) rfl rfl dJ5_append_cf1ce_26 ?_
  refine lv_aload_n C.1 C.2.1 dJ5_append_cf1ce_29 rfl (lv_at hl 2 rfl) ?_
  refine x_kv C w [0, 1] [] rfl rfl (by decide) (by decide) (va_runU (As := [.int 1, .ref (sa "TwinindexModel" 122)]) (rest := []) (xfix C) (c272_J5_putStringAt_47b60 l G cy sa sv h0 h1 (xtr C) _) (va_cwU 2 (xhts C) (xgU (x := ⟨"java/lang/AbstractStringBuilder", "putStringAt", "(ILjava/lang/String;)V"⟩) gw_624 gw_625 gw_626 gw_627 gw_484 gc_J5_putStringAt_47b60) rfl rfl rfl rfl (by decide +kernel) ⟨(Nat.le_of_ble_eq_true rfl), (Nat.le_of_ble_eq_true rfl)⟩) (xPV C w [0, 1] rfl (by decide) (ci := 1) (q0 := 0) rfl rfl) rfl rfl hl.1 rfl (lv_room (Nat.le_of_ble_eq_true rfl)) dJ5_append_cf1ce_30 ⟨(Nat.le_of_ble_eq_true rfl), (Nat.le_of_ble_eq_true rfl)⟩) (fun f1616 H locs w => ?_)
  have w : xW G A s [(h0, .inr (1, [.ref h1, .int 0, .int 0, .int 1])), (h1, .inl (cy 0, 16, .inl (va_cpy (fun j => ([] : List Int32).getD j 0) (va_cpy (fun j => ([123] : List Int32).getD j 0) (fun _ => 0) 0 0 1) 0 1 0)))] H _ := w
  refine lv_aload_n C.1 C.2.1 dJ5_append_cf1ce_33 rfl (lv_at hl 1 rfl) ?_
  refine lv_dup C.1 C.2.1 dJ5_append_cf1ce_34 rfl ?_
  refine x_get (v := .int 1) C w 0 1 3 (xin_J4 _) rfl rfl (by decide) (List.mem_cons_of_mem _ gw_499) rfl rfl dJ5_append_cf1ce_35 ?_
  refine lv_iload_n C.1 C.2.1 dJ5_append_cf1ce_38 rfl (lv_at hl 0 rfl) ?_
  refine lv_iadd C.1 C.2.1 dJ5_append_cf1ce_39 ?_
  refine x_is (y := 1) (by decide) ?_
  refine x_put (ty := .int) (ty0 := tyJ4) C w 0 1 3 (xin_J4 _) tyJ4_ok nmJ4 rfl rfl (by decide) (List.mem_cons_of_mem _ gw_499) rfl rfl (by decide +kernel) rfl rfl (Nat.le_of_ble_eq_true rfl) dJ5_append_cf1ce_40 (fun H locs w => ?_)
  have w : xW G A s [(h0, .inr (1, [.ref h1, .int 0, .int 0, .int 1])), (h1, .inl (cy 0, 16, .inl (va_cpy (fun j => ([] : List Int32).getD j 0) (va_cpy (fun j => ([123] : List Int32).getD j 0) (fun _ => 0) 0 0 1) 0 1 0)))] H _ := w
  refine lv_aload_n C.1 C.2.1 dJ5_append_cf1ce_43 rfl (lv_at hl 1 rfl) ?_
  exact x_aret C w hr (Or.inl ⟨_, rfl⟩) (fun _ => 0) rfl rfl dJ5_append_cf1ce_44 (Nat.le_of_ble_eq_true rfl) (Nat.le_of_ble_eq_true rfl)
set_option maxHeartbeats 4000000 in
set_option maxRecDepth 100000 in
theorem c274_J4_append_15ec4 (l : Launch) (G : va_G) (cy : Nat → ClassId) (sa : String → Nat → Nat) (sv : Nat → Nat) (h0 h1 : Nat) : xM l G cy sa sv yJ4_append_15ec4 (Cond.code yJ4_append_15ec4 cJ4_append_15ec4 2 (some (.object "java/lang/StringBuilder")) :: XG) { frames := 12, cells := 0, slots := 0, locals := 337 } [.ref h0, .ref (sa "TwinindexModel" 122)] [(h0, .inr (1, [.ref h1, .int 0, .int 0, .int 1])), (h1, .inl (cy 0, 16, .inl (va_cpy (fun j => ([123] : List Int32).getD j 0) (fun _ => 0) 0 0 1)))] (xQr G (fun f => [(h0, .inr (1, [.ref h1, .int 0, .int 0, .int 1])), (h1, .inl (cy 0, 16, .inl (va_cpy (fun j => ([] : List Int32).getD j 0) (va_cpy (fun j => ([123] : List Int32).getD j 0) (fun _ => 0) 0 0 1) 0 1 0)))]) (fun f => h0)) := by
  refine xof (by decide) (Nat.le_of_ble_eq_true rfl) (fun p e s m below meth c A C w hr hn ls hl => ?_)
  have hl : lv_has ls 2 [(0, .ref h0), (1, .ref (sa "TwinindexModel" 122))] := hl
  refine lv_aload_n C.1 C.2.1 dJ4_append_15ec4_0 rfl (lv_at hl 0 rfl) ?_
  refine lv_aload_n C.1 C.2.1 dJ4_append_15ec4_1 rfl (lv_at hl 1 rfl) ?_
  refine x_kr C w [0, 1] [] rfl rfl (by decide) (by decide) (va_runSU ((xK C).1 1 _ rfl).2 (As := [.ref (sa "TwinindexModel" 122)]) (rest := []) (xfix C) (c273_J5_append_cf1ce l G cy sa sv h0 h1 (xtr C) _) (va_cwSU 1 (xhts C) (xgSU gw_629 gw_630 gw_503 gw_631 gw_484 gc_J5_append_cf1ce) rfl rfl rfl (by decide +kernel) ⟨(Nat.le_of_ble_eq_true rfl), (Nat.le_of_ble_eq_true rfl)⟩) (xPV C w [0, 1] rfl (by decide) (ci := 1) (q0 := 0) rfl rfl) rfl rfl hl.1 rfl (lv_room (Nat.le_of_ble_eq_true rfl)) dJ4_append_15ec4_2 ⟨(Nat.le_of_ble_eq_true rfl), (Nat.le_of_ble_eq_true rfl)⟩) (fun f1617 H locs w => ?_)
  have w : xW G A s [(h0, .inr (1, [.ref h1, .int 0, .int 0, .int 1])), (h1, .inl (cy 0, 16, .inl (va_cpy (fun j => ([] : List Int32).getD j 0) (va_cpy (fun j => ([123] : List Int32).getD j 0) (fun _ => 0) 0 0 1) 0 1 0)))] H _ := w
  refine lv_pop C.1 C.2.1 dJ4_append_15ec4_5 rfl ?_
  refine lv_aload_n C.1 C.2.1 dJ4_append_15ec4_6 rfl (lv_at hl 0 rfl) ?_
  exact x_aret C w hr (Or.inl ⟨_, rfl⟩) (fun _ => 0) rfl rfl dJ4_append_15ec4_7 (Nat.le_of_ble_eq_true rfl) (Nat.le_of_ble_eq_true rfl)
set_option maxHeartbeats 4000000 in
set_option maxRecDepth 100000 in
theorem c275_J0_coder_7d493 (l : Launch) (G : va_G) (cy : Nat → ClassId) (sa : String → Nat → Nat) (sv : Nat → Nat) : xM l G cy sa sv yJ0_coder_7d493 (Cond.code yJ0_coder_7d493 cJ0_coder_7d493 1 (some .byte) :: XG) { frames := 8, cells := 0, slots := 0, locals := 250 } [.ref (sa "TwinindexModel" 159)] [] (xQi G (fun f => []) 0) := by
  refine xof (by decide) (Nat.le_of_ble_eq_true rfl) (fun p e s m below meth c A C w hr hn ls hl => ?_)
  have hl : lv_has ls 1 [(0, .ref (sa "TwinindexModel" 159))] := hl
  refine x_gets C w (xs_cs (xS C)) (List.mem_cons_of_mem _ gw_557) rfl dJ0_coder_7d493_0 ?_
  refine lv_if_eq (tgt := 13) C.1 C.2.1 dJ0_coder_7d493_3 (by decide) (fun c9 => absurd c9 (by decide)) (fun _ => ?_)
  refine lv_aload_n C.1 C.2.1 dJ0_coder_7d493_6 rfl (lv_at hl 0 rfl) ?_
  refine x_getk C w (xs_s2 (xS C)).2.1 (List.mem_cons_of_mem _ gw_514) rfl dJ0_coder_7d493_7 ?_
  refine lv_goto (tgt := 14) C.1 C.2.1 dJ0_coder_7d493_10 (by decide) ?_
  exact x_zret C w hr rfl (fun _ => 0) rfl rfl dJ0_coder_7d493_14 (Nat.le_of_ble_eq_true rfl) (Nat.le_of_ble_eq_true rfl)
set_option maxHeartbeats 4000000 in
set_option maxRecDepth 100000 in
theorem c276_J0_length_8abf5 (l : Launch) (G : va_G) (cy : Nat → ClassId) (sa : String → Nat → Nat) (sv : Nat → Nat) : xM l G cy sa sv yJ0_length_8abf5 (Cond.code yJ0_length_8abf5 cJ0_length_8abf5 1 (some .int) :: XG) { frames := 9, cells := 0, slots := 0, locals := 270 } [.ref (sa "TwinindexModel" 159)] [] (xQi G (fun f => []) 1) := by
  refine xof (by decide) (Nat.le_of_ble_eq_true rfl) (fun p e s m below meth c A C w hr hn ls hl => ?_)
  have hl : lv_has ls 1 [(0, .ref (sa "TwinindexModel" 159))] := hl
  refine lv_aload_n C.1 C.2.1 dJ0_length_8abf5_0 rfl (lv_at hl 0 rfl) ?_
  refine x_getk C w (xs_s2 (xS C)).2.2.1 (List.mem_cons_of_mem _ gw_530) rfl dJ0_length_8abf5_1 ?_
  refine x_tlen (v := 1) C w (xs_s2 (xS C)).2.2.2 (by decide) dJ0_length_8abf5_4 ?_
  refine lv_aload_n C.1 C.2.1 dJ0_length_8abf5_5 rfl (lv_at hl 0 rfl) ?_
  refine x_ki C w [] [] rfl rfl (by decide) (by decide) (va_runV (As := []) (rest := [.int 1]) (xfix C) (c275_J0_coder_7d493 l G cy sa sv (xtr C) _) (cwV 0 (xhts C) (xgV (maxL := 0) (cc := ⟨#[]⟩) (ret := none) gw_605 gw_606 gw_607 gw_492 gc_J0_coder_7d493) rfl rfl rfl (by decide +kernel) ⟨(Nat.le_of_ble_eq_true rfl), (Nat.le_of_ble_eq_true rfl)⟩) (xPVs C w [] rfl (by decide) (xs_s2 (xS C))) rfl rfl hl.1 rfl (lv_room (Nat.le_of_ble_eq_true rfl)) dJ0_length_8abf5_6 ⟨(Nat.le_of_ble_eq_true rfl), (Nat.le_of_ble_eq_true rfl)⟩) (fun f1619 H locs w => ?_)
  have w : xW G A s [] H _ := w
  refine lv_ishr C.1 C.2.1 dJ0_length_8abf5_9 ?_
  refine x_is (y := 1) (by decide) ?_
  exact x_iret C w hr (fun _ => 0) rfl rfl dJ0_length_8abf5_10 (Nat.le_of_ble_eq_true rfl) (Nat.le_of_ble_eq_true rfl)
set_option maxHeartbeats 4000000 in
set_option maxRecDepth 100000 in
theorem c277_J5_ensureCapacityInternal_d00df (l : Launch) (G : va_G) (cy : Nat → ClassId) (sa : String → Nat → Nat) (sv : Nat → Nat) (h0 h1 : Nat) : xM l G cy sa sv yJ5_ensureCapacityInternal_d00df (Cond.code yJ5_ensureCapacityInternal_d00df cJ5_ensureCapacityInternal_d00df 3 none :: XG) { frames := 8, cells := 0, slots := 0, locals := 250 } [.ref h0, .int 2] [(h0, .inr (1, [.ref h1, .int 0, .int 0, .int 1])), (h1, .inl (cy 0, 16, .inl (va_cpy (fun j => ([] : List Int32).getD j 0) (va_cpy (fun j => ([123] : List Int32).getD j 0) (fun _ => 0) 0 0 1) 0 1 0)))] (xQv G (fun f => [(h0, .inr (1, [.ref h1, .int 0, .int 0, .int 1])), (h1, .inl (cy 0, 16, .inl (va_cpy (fun j => ([] : List Int32).getD j 0) (va_cpy (fun j => ([123] : List Int32).getD j 0) (fun _ => 0) 0 0 1) 0 1 0)))])) := by
  refine xof (by decide) (Nat.le_of_ble_eq_true rfl) (fun p e s m below meth c A C w hr hn ls hl => ?_)
  have hl : lv_has ls 3 [(0, .ref h0), (1, .int 2)] := hl
  refine lv_aload_n C.1 C.2.1 dJ5_ensureCapacityInternal_d00df_0 rfl (lv_at hl 0 rfl) ?_
  refine x_get (v := .ref h1) C w 0 1 0 (xin_J4 _) rfl rfl (by decide) (List.mem_cons_of_mem _ gw_481) rfl rfl dJ5_ensureCapacityInternal_d00df_1 ?_
  refine x_alen (v := 16) C w 1 0 rfl rfl (by rfl) dJ5_ensureCapacityInternal_d00df_4 ?_
  refine lv_aload_n C.1 C.2.1 dJ5_ensureCapacityInternal_d00df_5 rfl (lv_at hl 0 rfl) ?_
  refine x_get (v := .int 0) C w 0 1 1 (xin_J4 _) rfl rfl (by decide) (List.mem_cons_of_mem _ gw_482) rfl rfl dJ5_ensureCapacityInternal_d00df_6 ?_
  refine lv_ishr C.1 C.2.1 dJ5_ensureCapacityInternal_d00df_9 ?_
  refine x_is (y := 16) (by decide) ?_
  refine lv_istore_n (lv' := [(2, .int 16), (0, .ref h0), (1, .int 2)]) C.1 C.2.1 dJ5_ensureCapacityInternal_d00df_10 rfl hl (by decide) rfl (fun ls hl => ?_)
  refine lv_iload_n C.1 C.2.1 dJ5_ensureCapacityInternal_d00df_11 rfl (lv_at hl 2 rfl) ?_
  refine lv_iload_n C.1 C.2.1 dJ5_ensureCapacityInternal_d00df_12 rfl (lv_at hl 0 rfl) ?_
  refine lv_isub C.1 C.2.1 dJ5_ensureCapacityInternal_d00df_13 ?_
  refine x_is (y := (-14)) (by decide) ?_
  refine lv_if_le (tgt := 38) C.1 C.2.1 dJ5_ensureCapacityInternal_d00df_14 (by decide) (fun _ => ?_) (fun c9 => absurd (by decide) c9)
  exact x_vret C w hr (fun _ => 0) rfl dJ5_ensureCapacityInternal_d00df_38 (Nat.le_of_ble_eq_true rfl) (Nat.le_of_ble_eq_true rfl)
set_option maxHeartbeats 4000000 in
set_option maxRecDepth 100000 in
theorem c278_J5_inflateIfNeededFor_a7421 (l : Launch) (G : va_G) (cy : Nat → ClassId) (sa : String → Nat → Nat) (sv : Nat → Nat) (h0 h1 : Nat) : xM l G cy sa sv yJ5_inflateIfNeededFor_a7421 (Cond.code yJ5_inflateIfNeededFor_a7421 cJ5_inflateIfNeededFor_a7421 2 none :: XG) { frames := 9, cells := 0, slots := 0, locals := 270 } [.ref h0, .ref (sa "TwinindexModel" 159)] [(h0, .inr (1, [.ref h1, .int 0, .int 0, .int 1]))] (xQv G (fun f => [(h0, .inr (1, [.ref h1, .int 0, .int 0, .int 1]))])) := by
  refine xof (by decide) (Nat.le_of_ble_eq_true rfl) (fun p e s m below meth c A C w hr hn ls hl => ?_)
  have hl : lv_has ls 2 [(0, .ref h0), (1, .ref (sa "TwinindexModel" 159))] := hl
  refine x_gets C w (xs_cs (xS C)) (List.mem_cons_of_mem _ gw_479) rfl dJ5_inflateIfNeededFor_a7421_0 ?_
  refine lv_if_eq (tgt := 21) C.1 C.2.1 dJ5_inflateIfNeededFor_a7421_3 (by decide) (fun c9 => absurd c9 (by decide)) (fun _ => ?_)
  refine lv_aload_n C.1 C.2.1 dJ5_inflateIfNeededFor_a7421_6 rfl (lv_at hl 0 rfl) ?_
  refine x_get (v := .int 0) C w 0 1 1 (xin_J4 _) rfl rfl (by decide) (List.mem_cons_of_mem _ gw_482) rfl rfl dJ5_inflateIfNeededFor_a7421_7 ?_
  refine lv_aload_n C.1 C.2.1 dJ5_inflateIfNeededFor_a7421_10 rfl (lv_at hl 1 rfl) ?_
  refine x_ki C w [] [0] rfl rfl (by decide) (by decide) (va_runV (As := []) (rest := [.int 0]) (xfix C) (c275_J0_coder_7d493 l G cy sa sv (xtr C) _) (cwV 0 (xhts C) (xgV (maxL := 0) (cc := ⟨#[]⟩) (ret := none) gw_612 gw_606 gw_607 gw_492 gc_J0_coder_7d493) rfl rfl rfl (by decide +kernel) ⟨(Nat.le_of_ble_eq_true rfl), (Nat.le_of_ble_eq_true rfl)⟩) (xPVs C w [] rfl (by decide) (xs_s2 (xS C))) rfl rfl hl.1 rfl (lv_room (Nat.le_of_ble_eq_true rfl)) dJ5_inflateIfNeededFor_a7421_11 ⟨(Nat.le_of_ble_eq_true rfl), (Nat.le_of_ble_eq_true rfl)⟩) (fun f1622 H locs w => ?_)
  have w : xW G A s [(h0, .inr (1, [.ref h1, .int 0, .int 0, .int 1]))] H _ := w
  refine lv_icmp_eq (tgt := 21) C.1 C.2.1 dJ5_inflateIfNeededFor_a7421_14 (by decide) (fun _ => ?_) (fun c9 => absurd (by decide) c9)
  exact x_vret C w hr (fun _ => 0) rfl dJ5_inflateIfNeededFor_a7421_21 (Nat.le_of_ble_eq_true rfl) (Nat.le_of_ble_eq_true rfl)
set_option maxHeartbeats 4000000 in
set_option maxRecDepth 100000 in
theorem c279_J0_getBytes_840e7 (l : Launch) (G : va_G) (cy : Nat → ClassId) (sa : String → Nat → Nat) (sv : Nat → Nat) (h0 : Nat) : xM l G cy sa sv yJ0_getBytes_840e7 (Cond.code yJ0_getBytes_840e7 cJ0_getBytes_840e7 4 none :: XG) { frames := 9, cells := 0, slots := 0, locals := 270 } [.ref (sa "TwinindexModel" 159), .ref h0, .int 1, .int 0] [(h0, .inl (cy 0, 16, .inl (va_cpy (fun j => ([] : List Int32).getD j 0) (va_cpy (fun j => ([123] : List Int32).getD j 0) (fun _ => 0) 0 0 1) 0 1 0)))] (xQv G (fun f => [(h0, .inl (cy 0, 16, .inl (va_cpy (fun j => ([125] : List Int32).getD j 0) (va_cpy (fun j => ([] : List Int32).getD j 0) (va_cpy (fun j => ([123] : List Int32).getD j 0) (fun _ => 0) 0 0 1) 0 1 0) 0 1 1)))])) := by
  refine xof (by decide) (Nat.le_of_ble_eq_true rfl) (fun p e s m below meth c A C w hr hn ls hl => ?_)
  have hl : lv_has ls 4 [(0, .ref (sa "TwinindexModel" 159)), (1, .ref h0), (2, .int 1), (3, .int 0)] := hl
  refine lv_aload_n C.1 C.2.1 dJ0_getBytes_840e7_0 rfl (lv_at hl 0 rfl) ?_
  refine x_ki C w [] [0] rfl rfl (by decide) (by decide) (va_runV (As := []) (rest := []) (xfix C) (c275_J0_coder_7d493 l G cy sa sv (xtr C) _) (cwV 0 (xhts C) (xgV (maxL := 0) (cc := ⟨#[]⟩) (ret := none) gw_605 gw_606 gw_607 gw_492 gc_J0_coder_7d493) rfl rfl rfl (by decide +kernel) ⟨(Nat.le_of_ble_eq_true rfl), (Nat.le_of_ble_eq_true rfl)⟩) (xPVs C w [] rfl (by decide) (xs_s2 (xS C))) rfl rfl hl.1 rfl (lv_room (Nat.le_of_ble_eq_true rfl)) dJ0_getBytes_840e7_1 ⟨(Nat.le_of_ble_eq_true rfl), (Nat.le_of_ble_eq_true rfl)⟩) (fun f1624 H locs w => ?_)
  have w : xW G A s [(h0, .inl (cy 0, 16, .inl (va_cpy (fun j => ([] : List Int32).getD j 0) (va_cpy (fun j => ([123] : List Int32).getD j 0) (fun _ => 0) 0 0 1) 0 1 0)))] H _ := w
  refine lv_iload_n C.1 C.2.1 dJ0_getBytes_840e7_4 rfl (lv_at hl 3 rfl) ?_
  refine lv_icmp_ne (tgt := 28) C.1 C.2.1 dJ0_getBytes_840e7_5 (by decide) (fun c9 => absurd (by decide) c9) (fun _ => ?_)
  refine lv_aload_n C.1 C.2.1 dJ0_getBytes_840e7_8 rfl (lv_at hl 0 rfl) ?_
  refine x_getk C w (xs_s2 (xS C)).2.2.1 (List.mem_cons_of_mem _ gw_530) rfl dJ0_getBytes_840e7_9 ?_
  refine lv_iconst (v := 0) C.1 C.2.1 dJ0_getBytes_840e7_12 (by decide) ?_
  refine lv_aload_n C.1 C.2.1 dJ0_getBytes_840e7_13 rfl (lv_at hl 1 rfl) ?_
  refine lv_iload_n C.1 C.2.1 dJ0_getBytes_840e7_14 rfl (lv_at hl 2 rfl) ?_
  refine lv_iload_n C.1 C.2.1 dJ0_getBytes_840e7_15 rfl (lv_at hl 3 rfl) ?_
  refine lv_ishl C.1 C.2.1 dJ0_getBytes_840e7_16 ?_
  refine x_is (y := 1) (by decide) ?_
  refine lv_aload_n C.1 C.2.1 dJ0_getBytes_840e7_17 rfl (lv_at hl 0 rfl) ?_
  refine x_getk C w (xs_s2 (xS C)).2.2.1 (List.mem_cons_of_mem _ gw_530) rfl dJ0_getBytes_840e7_18 ?_
  refine x_tlen (v := 1) C w (xs_s2 (xS C)).2.2.2 (by decide) dJ0_getBytes_840e7_21 ?_
  refine x_copyt (sp' := 0) (dp' := 1) (n' := 1) C w hl.1 (xs_s2 (xS C)).2.2.2 0 (List.mem_cons_of_mem _ gw_618) (List.mem_cons_of_mem _ gw_521) (List.mem_cons_of_mem _ gw_522) (List.mem_cons_of_mem _ gw_523) rfl (by decide) (by decide) (by decide) (by decide) (by decide) (by decide) (by decide) (by decide) (fun i hi => by rcases (show i = 0 by omega) with rfl <;> rfl) (Nat.le_of_ble_eq_true rfl) (Nat.le_of_ble_eq_true rfl) dJ0_getBytes_840e7_22 (fun H locs w => ?_)
  have w : xW G A s [(h0, .inl (cy 0, 16, .inl (va_cpy (fun j => ([125] : List Int32).getD j 0) (va_cpy (fun j => ([] : List Int32).getD j 0) (va_cpy (fun j => ([123] : List Int32).getD j 0) (fun _ => 0) 0 0 1) 0 1 0) 0 1 1)))] H _ := w
  refine lv_goto (tgt := 43) C.1 C.2.1 dJ0_getBytes_840e7_25 (by decide) ?_
  exact x_vret C w hr (fun _ => 0) rfl dJ0_getBytes_840e7_43 (Nat.le_of_ble_eq_true rfl) (Nat.le_of_ble_eq_true rfl)
set_option maxHeartbeats 4000000 in
set_option maxRecDepth 100000 in
theorem c280_J5_putStringAt_47b60 (l : Launch) (G : va_G) (cy : Nat → ClassId) (sa : String → Nat → Nat) (sv : Nat → Nat) (h0 h1 : Nat) : xM l G cy sa sv yJ5_putStringAt_47b60 (Cond.code yJ5_putStringAt_47b60 cJ5_putStringAt_47b60 3 none :: XG) { frames := 10, cells := 0, slots := 0, locals := 293 } [.ref h0, .int 1, .ref (sa "TwinindexModel" 159)] [(h0, .inr (1, [.ref h1, .int 0, .int 0, .int 1])), (h1, .inl (cy 0, 16, .inl (va_cpy (fun j => ([] : List Int32).getD j 0) (va_cpy (fun j => ([123] : List Int32).getD j 0) (fun _ => 0) 0 0 1) 0 1 0)))] (xQv G (fun f => [(h0, .inr (1, [.ref h1, .int 0, .int 0, .int 1])), (h1, .inl (cy 0, 16, .inl (va_cpy (fun j => ([125] : List Int32).getD j 0) (va_cpy (fun j => ([] : List Int32).getD j 0) (va_cpy (fun j => ([123] : List Int32).getD j 0) (fun _ => 0) 0 0 1) 0 1 0) 0 1 1)))])) := by
  refine xof (by decide) (Nat.le_of_ble_eq_true rfl) (fun p e s m below meth c A C w hr hn ls hl => ?_)
  have hl : lv_has ls 3 [(0, .ref h0), (1, .int 1), (2, .ref (sa "TwinindexModel" 159))] := hl
  refine lv_aload_n C.1 C.2.1 dJ5_putStringAt_47b60_0 rfl (lv_at hl 0 rfl) ?_
  refine lv_aload_n C.1 C.2.1 dJ5_putStringAt_47b60_1 rfl (lv_at hl 2 rfl) ?_
  refine x_kv C w [0] [1] rfl rfl (by decide) (by decide) (va_runU (As := [.ref (sa "TwinindexModel" 159)]) (rest := []) (xfix C) (c278_J5_inflateIfNeededFor_a7421 l G cy sa sv h0 h1 (xtr C) _) (va_cwU 1 (xhts C) (xgU (x := ⟨"java/lang/AbstractStringBuilder", "inflateIfNeededFor", "(Ljava/lang/String;)V"⟩) gw_614 gw_615 gw_616 gw_617 gw_484 gc_J5_inflateIfNeededFor_a7421) rfl rfl rfl rfl (by decide +kernel) ⟨(Nat.le_of_ble_eq_true rfl), (Nat.le_of_ble_eq_true rfl)⟩) (xPV C w [0] rfl (by decide) (ci := 1) (q0 := 0) rfl rfl) rfl rfl hl.1 rfl (lv_room (Nat.le_of_ble_eq_true rfl)) dJ5_putStringAt_47b60_2 ⟨(Nat.le_of_ble_eq_true rfl), (Nat.le_of_ble_eq_true rfl)⟩) (fun f1623 H locs w => ?_)
  have w : xW G A s [(h1, .inl (cy 0, 16, .inl (va_cpy (fun j => ([] : List Int32).getD j 0) (va_cpy (fun j => ([123] : List Int32).getD j 0) (fun _ => 0) 0 0 1) 0 1 0))), (h0, .inr (1, [.ref h1, .int 0, .int 0, .int 1]))] H _ := w
  refine lv_aload_n C.1 C.2.1 dJ5_putStringAt_47b60_5 rfl (lv_at hl 2 rfl) ?_
  refine lv_aload_n C.1 C.2.1 dJ5_putStringAt_47b60_6 rfl (lv_at hl 0 rfl) ?_
  refine x_get (v := .ref h1) C w 1 1 0 (xin_J4 _) rfl rfl (by decide) (List.mem_cons_of_mem _ gw_481) rfl rfl dJ5_putStringAt_47b60_7 ?_
  refine lv_iload_n C.1 C.2.1 dJ5_putStringAt_47b60_10 rfl (lv_at hl 1 rfl) ?_
  refine lv_aload_n C.1 C.2.1 dJ5_putStringAt_47b60_11 rfl (lv_at hl 0 rfl) ?_
  refine x_get (v := .int 0) C w 1 1 1 (xin_J4 _) rfl rfl (by decide) (List.mem_cons_of_mem _ gw_482) rfl rfl dJ5_putStringAt_47b60_12 ?_
  refine x_kv C w [0] [1] rfl rfl (by decide) (by decide) (va_runV (As := [.ref h1, .int 1, .int 0]) (rest := []) (xfix C) (c279_J0_getBytes_840e7 l G cy sa sv h1 (xtr C) _) (cwV 3 (xhts C) (xgV (maxL := 0) (cc := ⟨#[]⟩) (ret := none) gw_620 gw_621 gw_622 gw_492 gc_J0_getBytes_840e7) rfl rfl rfl (by decide +kernel) ⟨(Nat.le_of_ble_eq_true rfl), (Nat.le_of_ble_eq_true rfl)⟩) (xPVs C w [0] rfl (by decide) (xs_s2 (xS C))) rfl rfl hl.1 rfl (lv_room (Nat.le_of_ble_eq_true rfl)) dJ5_putStringAt_47b60_15 ⟨(Nat.le_of_ble_eq_true rfl), (Nat.le_of_ble_eq_true rfl)⟩) (fun f1625 H locs w => ?_)
  have w : xW G A s [(h0, .inr (1, [.ref h1, .int 0, .int 0, .int 1])), (h1, .inl (cy 0, 16, .inl (va_cpy (fun j => ([125] : List Int32).getD j 0) (va_cpy (fun j => ([] : List Int32).getD j 0) (va_cpy (fun j => ([123] : List Int32).getD j 0) (fun _ => 0) 0 0 1) 0 1 0) 0 1 1)))] H _ := w
  exact x_vret C w hr (fun _ => 0) rfl dJ5_putStringAt_47b60_18 (Nat.le_of_ble_eq_true rfl) (Nat.le_of_ble_eq_true rfl)
set_option maxHeartbeats 4000000 in
set_option maxRecDepth 100000 in
theorem c281_J5_append_cf1ce (l : Launch) (G : va_G) (cy : Nat → ClassId) (sa : String → Nat → Nat) (sv : Nat → Nat) (h0 h1 : Nat) : xM l G cy sa sv yJ5_append_cf1ce (Cond.code yJ5_append_cf1ce cJ5_append_cf1ce 3 (some (.object "java/lang/AbstractStringBuilder")) :: XG) { frames := 11, cells := 0, slots := 0, locals := 315 } [.ref h0, .ref (sa "TwinindexModel" 159)] [(h0, .inr (1, [.ref h1, .int 0, .int 0, .int 1])), (h1, .inl (cy 0, 16, .inl (va_cpy (fun j => ([] : List Int32).getD j 0) (va_cpy (fun j => ([123] : List Int32).getD j 0) (fun _ => 0) 0 0 1) 0 1 0)))] (xQr G (fun f => [(h0, .inr (1, [.ref h1, .int 0, .int 0, .int 2])), (h1, .inl (cy 0, 16, .inl (va_cpy (fun j => ([125] : List Int32).getD j 0) (va_cpy (fun j => ([] : List Int32).getD j 0) (va_cpy (fun j => ([123] : List Int32).getD j 0) (fun _ => 0) 0 0 1) 0 1 0) 0 1 1)))]) (fun f => h0)) := by
  refine xof (by decide) (Nat.le_of_ble_eq_true rfl) (fun p e s m below meth c A C w hr hn ls hl => ?_)
  have hl : lv_has ls 3 [(0, .ref h0), (1, .ref (sa "TwinindexModel" 159))] := hl
  refine lv_aload_n C.1 C.2.1 dJ5_append_cf1ce_0 rfl (lv_at hl 1 rfl) ?_
  refine lv_ifnonnull (tgt := 9) C.1 C.2.1 dJ5_append_cf1ce_1 (by decide) ?_
  refine lv_aload_n C.1 C.2.1 dJ5_append_cf1ce_9 rfl (lv_at hl 1 rfl) ?_
  refine x_ki C w [] [0, 1] rfl rfl (by decide) (by decide) (va_runV (As := []) (rest := []) (xfix C) (c276_J0_length_8abf5 l G cy sa sv (xtr C) _) (cwV 0 (xhts C) (xgV (maxL := 0) (cc := ⟨#[]⟩) (ret := none) gw_609 gw_610 gw_611 gw_492 gc_J0_length_8abf5) rfl rfl rfl (by decide +kernel) ⟨(Nat.le_of_ble_eq_true rfl), (Nat.le_of_ble_eq_true rfl)⟩) (xPVs C w [] rfl (by decide) (xs_s2 (xS C))) rfl rfl hl.1 rfl (lv_room (Nat.le_of_ble_eq_true rfl)) dJ5_append_cf1ce_10 ⟨(Nat.le_of_ble_eq_true rfl), (Nat.le_of_ble_eq_true rfl)⟩) (fun f1620 H locs w => ?_)
  have w : xW G A s [(h0, .inr (1, [.ref h1, .int 0, .int 0, .int 1])), (h1, .inl (cy 0, 16, .inl (va_cpy (fun j => ([] : List Int32).getD j 0) (va_cpy (fun j => ([123] : List Int32).getD j 0) (fun _ => 0) 0 0 1) 0 1 0)))] H _ := w
  refine lv_istore_n (lv' := [(2, .int 1), (0, .ref h0), (1, .ref (sa "TwinindexModel" 159))]) C.1 C.2.1 dJ5_append_cf1ce_13 rfl hl (by decide) rfl (fun ls hl => ?_)
  refine lv_aload_n C.1 C.2.1 dJ5_append_cf1ce_14 rfl (lv_at hl 1 rfl) ?_
  refine lv_aload_n C.1 C.2.1 dJ5_append_cf1ce_15 rfl (lv_at hl 1 rfl) ?_
  refine x_get (v := .int 1) C w 0 1 3 (xin_J4 _) rfl rfl (by decide) (List.mem_cons_of_mem _ gw_499) rfl rfl dJ5_append_cf1ce_16 ?_
  refine lv_iload_n C.1 C.2.1 dJ5_append_cf1ce_19 rfl (lv_at hl 0 rfl) ?_
  refine lv_iadd C.1 C.2.1 dJ5_append_cf1ce_20 ?_
  refine x_is (y := 2) (by decide) ?_
  refine x_kv C w [0, 1] [] rfl rfl (by decide) (by decide) (va_runU (As := [.int 2]) (rest := []) (xfix C) (c277_J5_ensureCapacityInternal_d00df l G cy sa sv h0 h1 (xtr C) _) (va_cwU 1 (xhts C) (xgU (x := ⟨"java/lang/AbstractStringBuilder", "ensureCapacityInternal", "(I)V"⟩) gw_577 gw_578 gw_579 gw_580 gw_484 gc_J5_ensureCapacityInternal_d00df) rfl rfl rfl rfl (by decide +kernel) ⟨(Nat.le_of_ble_eq_true rfl), (Nat.le_of_ble_eq_true rfl)⟩) (xPV C w [0, 1] rfl (by decide) (ci := 1) (q0 := 0) rfl rfl) rfl rfl hl.1 rfl (lv_room (Nat.le_of_ble_eq_true rfl)) dJ5_append_cf1ce_21 ⟨(Nat.le_of_ble_eq_true rfl), (Nat.le_of_ble_eq_true rfl)⟩) (fun f1621 H locs w => ?_)
  have w : xW G A s [(h0, .inr (1, [.ref h1, .int 0, .int 0, .int 1])), (h1, .inl (cy 0, 16, .inl (va_cpy (fun j => ([] : List Int32).getD j 0) (va_cpy (fun j => ([123] : List Int32).getD j 0) (fun _ => 0) 0 0 1) 0 1 0)))] H _ := w
  refine lv_aload_n C.1 C.2.1 dJ5_append_cf1ce_24 rfl (lv_at hl 1 rfl) ?_
  refine lv_aload_n C.1 C.2.1 dJ5_append_cf1ce_25 rfl (lv_at hl 1 rfl) ?_
  refine x_get (v := .int 1) C w 0 1 3 (xin_J4 _) rfl rfl (by decide) (List.mem_cons_of_mem _ gw_499) rfl rfl dJ5_append_cf1ce_26 ?_
  refine lv_aload_n C.1 C.2.1 dJ5_append_cf1ce_29 rfl (lv_at hl 2 rfl) ?_
  refine x_kv C w [0, 1] [] rfl rfl (by decide) (by decide) (va_runU (As := [.int 1, .ref (sa "TwinindexModel" 159)]) (rest := []) (xfix C) (c280_J5_putStringAt_47b60 l G cy sa sv h0 h1 (xtr C) _) (va_cwU 2 (xhts C) (xgU (x := ⟨"java/lang/AbstractStringBuilder", "putStringAt", "(ILjava/lang/String;)V"⟩) gw_624 gw_625 gw_626 gw_627 gw_484 gc_J5_putStringAt_47b60) rfl rfl rfl rfl (by decide +kernel) ⟨(Nat.le_of_ble_eq_true rfl), (Nat.le_of_ble_eq_true rfl)⟩) (xPV C w [0, 1] rfl (by decide) (ci := 1) (q0 := 0) rfl rfl) rfl rfl hl.1 rfl (lv_room (Nat.le_of_ble_eq_true rfl)) dJ5_append_cf1ce_30 ⟨(Nat.le_of_ble_eq_true rfl), (Nat.le_of_ble_eq_true rfl)⟩) (fun f1626 H locs w => ?_)
  have w : xW G A s [(h0, .inr (1, [.ref h1, .int 0, .int 0, .int 1])), (h1, .inl (cy 0, 16, .inl (va_cpy (fun j => ([125] : List Int32).getD j 0) (va_cpy (fun j => ([] : List Int32).getD j 0) (va_cpy (fun j => ([123] : List Int32).getD j 0) (fun _ => 0) 0 0 1) 0 1 0) 0 1 1)))] H _ := w
  refine lv_aload_n C.1 C.2.1 dJ5_append_cf1ce_33 rfl (lv_at hl 1 rfl) ?_
  refine lv_dup C.1 C.2.1 dJ5_append_cf1ce_34 rfl ?_
  refine x_get (v := .int 1) C w 0 1 3 (xin_J4 _) rfl rfl (by decide) (List.mem_cons_of_mem _ gw_499) rfl rfl dJ5_append_cf1ce_35 ?_
  refine lv_iload_n C.1 C.2.1 dJ5_append_cf1ce_38 rfl (lv_at hl 0 rfl) ?_
  refine lv_iadd C.1 C.2.1 dJ5_append_cf1ce_39 ?_
  refine x_is (y := 2) (by decide) ?_
  refine x_put (ty := .int) (ty0 := tyJ4) C w 0 1 3 (xin_J4 _) tyJ4_ok nmJ4 rfl rfl (by decide) (List.mem_cons_of_mem _ gw_499) rfl rfl (by decide +kernel) rfl rfl (Nat.le_of_ble_eq_true rfl) dJ5_append_cf1ce_40 (fun H locs w => ?_)
  have w : xW G A s [(h0, .inr (1, [.ref h1, .int 0, .int 0, .int 2])), (h1, .inl (cy 0, 16, .inl (va_cpy (fun j => ([125] : List Int32).getD j 0) (va_cpy (fun j => ([] : List Int32).getD j 0) (va_cpy (fun j => ([123] : List Int32).getD j 0) (fun _ => 0) 0 0 1) 0 1 0) 0 1 1)))] H _ := w
  refine lv_aload_n C.1 C.2.1 dJ5_append_cf1ce_43 rfl (lv_at hl 1 rfl) ?_
  exact x_aret C w hr (Or.inl ⟨_, rfl⟩) (fun _ => 0) rfl rfl dJ5_append_cf1ce_44 (Nat.le_of_ble_eq_true rfl) (Nat.le_of_ble_eq_true rfl)
set_option maxHeartbeats 4000000 in
set_option maxRecDepth 100000 in
theorem c282_J4_append_15ec4 (l : Launch) (G : va_G) (cy : Nat → ClassId) (sa : String → Nat → Nat) (sv : Nat → Nat) (h0 h1 : Nat) : xM l G cy sa sv yJ4_append_15ec4 (Cond.code yJ4_append_15ec4 cJ4_append_15ec4 2 (some (.object "java/lang/StringBuilder")) :: XG) { frames := 12, cells := 0, slots := 0, locals := 337 } [.ref h0, .ref (sa "TwinindexModel" 159)] [(h0, .inr (1, [.ref h1, .int 0, .int 0, .int 1])), (h1, .inl (cy 0, 16, .inl (va_cpy (fun j => ([] : List Int32).getD j 0) (va_cpy (fun j => ([123] : List Int32).getD j 0) (fun _ => 0) 0 0 1) 0 1 0)))] (xQr G (fun f => [(h0, .inr (1, [.ref h1, .int 0, .int 0, .int 2])), (h1, .inl (cy 0, 16, .inl (va_cpy (fun j => ([125] : List Int32).getD j 0) (va_cpy (fun j => ([] : List Int32).getD j 0) (va_cpy (fun j => ([123] : List Int32).getD j 0) (fun _ => 0) 0 0 1) 0 1 0) 0 1 1)))]) (fun f => h0)) := by
  refine xof (by decide) (Nat.le_of_ble_eq_true rfl) (fun p e s m below meth c A C w hr hn ls hl => ?_)
  have hl : lv_has ls 2 [(0, .ref h0), (1, .ref (sa "TwinindexModel" 159))] := hl
  refine lv_aload_n C.1 C.2.1 dJ4_append_15ec4_0 rfl (lv_at hl 0 rfl) ?_
  refine lv_aload_n C.1 C.2.1 dJ4_append_15ec4_1 rfl (lv_at hl 1 rfl) ?_
  refine x_kr C w [0, 1] [] rfl rfl (by decide) (by decide) (va_runSU ((xK C).1 1 _ rfl).2 (As := [.ref (sa "TwinindexModel" 159)]) (rest := []) (xfix C) (c281_J5_append_cf1ce l G cy sa sv h0 h1 (xtr C) _) (va_cwSU 1 (xhts C) (xgSU gw_629 gw_630 gw_503 gw_631 gw_484 gc_J5_append_cf1ce) rfl rfl rfl (by decide +kernel) ⟨(Nat.le_of_ble_eq_true rfl), (Nat.le_of_ble_eq_true rfl)⟩) (xPV C w [0, 1] rfl (by decide) (ci := 1) (q0 := 0) rfl rfl) rfl rfl hl.1 rfl (lv_room (Nat.le_of_ble_eq_true rfl)) dJ4_append_15ec4_2 ⟨(Nat.le_of_ble_eq_true rfl), (Nat.le_of_ble_eq_true rfl)⟩) (fun f1627 H locs w => ?_)
  have w : xW G A s [(h0, .inr (1, [.ref h1, .int 0, .int 0, .int 2])), (h1, .inl (cy 0, 16, .inl (va_cpy (fun j => ([125] : List Int32).getD j 0) (va_cpy (fun j => ([] : List Int32).getD j 0) (va_cpy (fun j => ([123] : List Int32).getD j 0) (fun _ => 0) 0 0 1) 0 1 0) 0 1 1)))] H _ := w
  refine lv_pop C.1 C.2.1 dJ4_append_15ec4_5 rfl ?_
  refine lv_aload_n C.1 C.2.1 dJ4_append_15ec4_6 rfl (lv_at hl 0 rfl) ?_
  exact x_aret C w hr (Or.inl ⟨_, rfl⟩) (fun _ => 0) rfl rfl dJ4_append_15ec4_7 (Nat.le_of_ble_eq_true rfl) (Nat.le_of_ble_eq_true rfl)
set_option maxHeartbeats 4000000 in
set_option maxRecDepth 100000 in
theorem c283_J7_copyOfRangeByte_39247 (l : Launch) (G : va_G) (cy : Nat → ClassId) (sa : String → Nat → Nat) (sv : Nat → Nat) (h0 : Nat) : xM l G cy sa sv yJ7_copyOfRangeByte_39247 (Cond.code yJ7_copyOfRangeByte_39247 cJ7_copyOfRangeByte_39247 5 (some (.array .byte)) :: XG) { frames := 9, cells := 1, slots := 2, locals := 271 } [.ref h0, .int 0, .int 2] [(h0, .inl (cy 0, 16, .inl (va_cpy (fun j => ([125] : List Int32).getD j 0) (va_cpy (fun j => ([] : List Int32).getD j 0) (va_cpy (fun j => ([123] : List Int32).getD j 0) (fun _ => 0) 0 0 1) 0 1 0) 0 1 1)))] (xQr G (fun f => [(h0, .inl (cy 0, 16, .inl (va_cpy (fun j => ([125] : List Int32).getD j 0) (va_cpy (fun j => ([] : List Int32).getD j 0) (va_cpy (fun j => ([123] : List Int32).getD j 0) (fun _ => 0) 0 0 1) 0 1 0) 0 1 1))), ((f 0), .inl (cy 0, 2, .inl (va_cpy (va_cpy (fun j => ([125] : List Int32).getD j 0) (va_cpy (fun j => ([] : List Int32).getD j 0) (va_cpy (fun j => ([123] : List Int32).getD j 0) (fun _ => 0) 0 0 1) 0 1 0) 0 1 1) (fun _ => 0) 0 0 2)))]) (fun f => (f 0))) := by
  refine xof (by decide) (Nat.le_of_ble_eq_true rfl) (fun p e s m below meth c A C w hr hn ls hl => ?_)
  have hl : lv_has ls 5 [(0, .ref h0), (1, .int 0), (2, .int 2)] := hl
  refine lv_iload_n C.1 C.2.1 dJ7_copyOfRangeByte_39247_0 rfl (lv_at hl 1 rfl) ?_
  refine lv_iload_n C.1 C.2.1 dJ7_copyOfRangeByte_39247_1 rfl (lv_at hl 2 rfl) ?_
  refine x_kv C w [] [0] rfl rfl (by decide) (by decide) (va_runS (As := [.int 0, .int 2]) (rest := []) (xfix C) (c252_J7_checkLength_df160 l G cy sa sv (xtr C) _) (va_cwS 2 (xhts C) (xgS gw_517 gw_518 gw_516 gc_J7_checkLength_df160) rfl rfl rfl (by decide +kernel) ⟨(Nat.le_of_ble_eq_true rfl), (Nat.le_of_ble_eq_true rfl)⟩) (xPS C w [] rfl (by decide)) rfl rfl hl.1 rfl (lv_room (Nat.le_of_ble_eq_true rfl)) dJ7_copyOfRangeByte_39247_2 ⟨(Nat.le_of_ble_eq_true rfl), (Nat.le_of_ble_eq_true rfl)⟩) (fun f1646 H locs w => ?_)
  have w : xW G A s [(h0, .inl (cy 0, 16, .inl (va_cpy (fun j => ([125] : List Int32).getD j 0) (va_cpy (fun j => ([] : List Int32).getD j 0) (va_cpy (fun j => ([123] : List Int32).getD j 0) (fun _ => 0) 0 0 1) 0 1 0) 0 1 1)))] H _ := w
  refine lv_iload_n C.1 C.2.1 dJ7_copyOfRangeByte_39247_5 rfl (lv_at hl 2 rfl) ?_
  refine lv_iload_n C.1 C.2.1 dJ7_copyOfRangeByte_39247_6 rfl (lv_at hl 1 rfl) ?_
  refine lv_isub C.1 C.2.1 dJ7_copyOfRangeByte_39247_7 ?_
  refine x_is (y := 2) (by decide) ?_
  refine lv_istore_n (lv' := [(3, .int 2), (0, .ref h0), (1, .int 0), (2, .int 2)]) C.1 C.2.1 dJ7_copyOfRangeByte_39247_8 rfl hl (by decide) rfl (fun ls hl => ?_)
  refine lv_iload_n C.1 C.2.1 dJ7_copyOfRangeByte_39247_9 rfl (lv_at hl 0 rfl) ?_
  refine x_newa (atype := .byte) (ty := .byte) (N := 2) C w 0 (fun _ _ h => h) rfl (List.mem_cons_of_mem _ gw_480) rfl rfl (by decide) (by decide) (by decide) (Nat.le_of_ble_eq_true rfl) (Nat.le_of_ble_eq_true rfl) dJ7_copyOfRangeByte_39247_10 (fun q1647 H w => ?_)
  have w : xW G A s [(h0, .inl (cy 0, 16, .inl (va_cpy (fun j => ([125] : List Int32).getD j 0) (va_cpy (fun j => ([] : List Int32).getD j 0) (va_cpy (fun j => ([123] : List Int32).getD j 0) (fun _ => 0) 0 0 1) 0 1 0) 0 1 1))), (q1647, .inl (cy 0, 2, .inl (fun _ => 0)))] H _ := w
  refine W.widen (k := 1) (n := 2) (Nat.le_of_ble_eq_true rfl) (Nat.le_of_ble_eq_true rfl) ?_
  refine lv_astore (lv' := [(4, .ref q1647), (3, .int 2), (0, .ref h0), (1, .int 0), (2, .int 2)]) C.1 C.2.1 dJ7_copyOfRangeByte_39247_12 hl (by decide) rfl (fun ls hl => ?_)
  refine lv_aload_n C.1 C.2.1 dJ7_copyOfRangeByte_39247_14 rfl (lv_at hl 2 rfl) ?_
  refine lv_iload_n C.1 C.2.1 dJ7_copyOfRangeByte_39247_15 rfl (lv_at hl 3 rfl) ?_
  refine lv_aload C.1 C.2.1 dJ7_copyOfRangeByte_39247_16 (lv_at hl 0 rfl) ?_
  refine lv_iconst (v := 0) C.1 C.2.1 dJ7_copyOfRangeByte_39247_18 (by decide) ?_
  refine lv_aload_n C.1 C.2.1 dJ7_copyOfRangeByte_39247_19 rfl (lv_at hl 2 rfl) ?_
  refine x_alen (v := 16) C w 0 0 rfl rfl (by rfl) dJ7_copyOfRangeByte_39247_20 ?_
  refine lv_iload_n C.1 C.2.1 dJ7_copyOfRangeByte_39247_21 rfl (lv_at hl 3 rfl) ?_
  refine lv_isub C.1 C.2.1 dJ7_copyOfRangeByte_39247_22 ?_
  refine x_is (y := 16) (by decide) ?_
  refine lv_iload_n C.1 C.2.1 dJ7_copyOfRangeByte_39247_23 rfl (lv_at hl 1 rfl) ?_
  refine va_mmin C.1 C.2.1 (C.2.2.1.trans hl.1.symm) (xown C) (xhts C _ (List.mem_cons_of_mem _ gw_519)) (xhts C _ (List.mem_cons_of_mem _ gw_420)) (xhts C _ (List.mem_cons_of_mem _ gw_217)) (xhts C _ (List.mem_cons_of_mem _ gm_min)) (Nat.le_of_ble_eq_true rfl) (Nat.le_of_ble_eq_true rfl) (Nat.le_of_ble_eq_true rfl) (Nat.le_of_ble_eq_true rfl) dJ7_copyOfRangeByte_39247_24 ?_
  refine x_is (y := 2) (if_pos (by decide)) ?_
  refine x_copyi (sp' := 0) (dp' := 0) (n' := 2) C w hl.1 0 1 0 (List.mem_cons_of_mem _ gw_520) (List.mem_cons_of_mem _ gw_521) (List.mem_cons_of_mem _ gw_522) (List.mem_cons_of_mem _ gw_523) rfl rfl rfl rfl rfl (by decide) (by decide) (by decide) (by decide) (by decide) (by decide) (by decide) (by decide) (fun i hi => by rcases (show i = 0 ∨ i = 1 by omega) with rfl | rfl <;> rfl) (Nat.le_of_ble_eq_true rfl) (Nat.le_of_ble_eq_true rfl) dJ7_copyOfRangeByte_39247_27 (fun H locs w => ?_)
  have w : xW G A s [(h0, .inl (cy 0, 16, .inl (va_cpy (fun j => ([125] : List Int32).getD j 0) (va_cpy (fun j => ([] : List Int32).getD j 0) (va_cpy (fun j => ([123] : List Int32).getD j 0) (fun _ => 0) 0 0 1) 0 1 0) 0 1 1))), (q1647, .inl (cy 0, 2, .inl (va_cpy (va_cpy (fun j => ([125] : List Int32).getD j 0) (va_cpy (fun j => ([] : List Int32).getD j 0) (va_cpy (fun j => ([123] : List Int32).getD j 0) (fun _ => 0) 0 0 1) 0 1 0) 0 1 1) (fun _ => 0) 0 0 2)))] H _ := w
  refine lv_aload C.1 C.2.1 dJ7_copyOfRangeByte_39247_30 (lv_at hl 0 rfl) ?_
  exact x_aret C w hr (Or.inr ⟨_, rfl⟩) (fun k => match k with | 0 => q1647 | _ => 0) rfl rfl dJ7_copyOfRangeByte_39247_32 (Nat.le_of_ble_eq_true rfl) (Nat.le_of_ble_eq_true rfl)
set_option maxHeartbeats 4000000 in
set_option maxRecDepth 100000 in
theorem c284_J7_copyOfRange_39247 (l : Launch) (G : va_G) (cy : Nat → ClassId) (sa : String → Nat → Nat) (sv : Nat → Nat) (h0 : Nat) : xM l G cy sa sv yJ7_copyOfRange_39247 (Cond.code yJ7_copyOfRange_39247 cJ7_copyOfRange_39247 3 (some (.array .byte)) :: XG) { frames := 10, cells := 1, slots := 2, locals := 295 } [.ref h0, .int 0, .int 2] [(h0, .inl (cy 0, 16, .inl (va_cpy (fun j => ([125] : List Int32).getD j 0) (va_cpy (fun j => ([] : List Int32).getD j 0) (va_cpy (fun j => ([123] : List Int32).getD j 0) (fun _ => 0) 0 0 1) 0 1 0) 0 1 1)))] (xQr G (fun f => [(h0, .inl (cy 0, 16, .inl (va_cpy (fun j => ([125] : List Int32).getD j 0) (va_cpy (fun j => ([] : List Int32).getD j 0) (va_cpy (fun j => ([123] : List Int32).getD j 0) (fun _ => 0) 0 0 1) 0 1 0) 0 1 1))), ((f 0), .inl (cy 0, 2, .inl (va_cpy (va_cpy (fun j => ([125] : List Int32).getD j 0) (va_cpy (fun j => ([] : List Int32).getD j 0) (va_cpy (fun j => ([123] : List Int32).getD j 0) (fun _ => 0) 0 0 1) 0 1 0) 0 1 1) (fun _ => 0) 0 0 2)))]) (fun f => (f 0))) := by
  refine xof (by decide) (Nat.le_of_ble_eq_true rfl) (fun p e s m below meth c A C w hr hn ls hl => ?_)
  have hl : lv_has ls 3 [(0, .ref h0), (1, .int 0), (2, .int 2)] := hl
  refine lv_iload_n C.1 C.2.1 dJ7_copyOfRange_39247_0 rfl (lv_at hl 1 rfl) ?_
  refine lv_if_ne (tgt := 10) C.1 C.2.1 dJ7_copyOfRange_39247_1 (by decide) (fun c9 => absurd (by decide) c9) (fun _ => ?_)
  refine lv_iload_n C.1 C.2.1 dJ7_copyOfRange_39247_4 rfl (lv_at hl 2 rfl) ?_
  refine lv_aload_n C.1 C.2.1 dJ7_copyOfRange_39247_5 rfl (lv_at hl 0 rfl) ?_
  refine x_alen (v := 16) C w 0 0 rfl rfl (by rfl) dJ7_copyOfRange_39247_6 ?_
  refine lv_icmp_eq (tgt := 17) C.1 C.2.1 dJ7_copyOfRange_39247_7 (by decide) (fun c9 => absurd c9 (by decide)) (fun _ => ?_)
  refine lv_aload_n C.1 C.2.1 dJ7_copyOfRange_39247_10 rfl (lv_at hl 0 rfl) ?_
  refine lv_iload_n C.1 C.2.1 dJ7_copyOfRange_39247_11 rfl (lv_at hl 1 rfl) ?_
  refine lv_iload_n C.1 C.2.1 dJ7_copyOfRange_39247_12 rfl (lv_at hl 2 rfl) ?_
  refine x_kr C w [0] [] rfl rfl (by decide) (by decide) (va_runS (As := [.ref h0, .int 0, .int 2]) (rest := []) (xfix C) (c283_J7_copyOfRangeByte_39247 l G cy sa sv h0 (xtr C) _) (va_cwS 3 (xhts C) (xgS gw_525 gw_526 gw_516 gc_J7_copyOfRangeByte_39247) rfl rfl rfl (by decide +kernel) ⟨(Nat.le_of_ble_eq_true rfl), (Nat.le_of_ble_eq_true rfl)⟩) (xPS C w [0] rfl (by decide)) rfl rfl hl.1 rfl (lv_room (Nat.le_of_ble_eq_true rfl)) dJ7_copyOfRange_39247_13 ⟨(Nat.le_of_ble_eq_true rfl), (Nat.le_of_ble_eq_true rfl)⟩) (fun f1649 H locs w => ?_)
  have w : xW G A s [(h0, .inl (cy 0, 16, .inl (va_cpy (fun j => ([125] : List Int32).getD j 0) (va_cpy (fun j => ([] : List Int32).getD j 0) (va_cpy (fun j => ([123] : List Int32).getD j 0) (fun _ => 0) 0 0 1) 0 1 0) 0 1 1))), ((f1649 0), .inl (cy 0, 2, .inl (va_cpy (va_cpy (fun j => ([125] : List Int32).getD j 0) (va_cpy (fun j => ([] : List Int32).getD j 0) (va_cpy (fun j => ([123] : List Int32).getD j 0) (fun _ => 0) 0 0 1) 0 1 0) 0 1 1) (fun _ => 0) 0 0 2)))] H _ := w
  refine W.widen (k := 1) (n := 2) (Nat.le_of_ble_eq_true rfl) (Nat.le_of_ble_eq_true rfl) ?_
  exact x_aret C w hr (Or.inr ⟨_, rfl⟩) (fun k => match k with | 0 => (f1649 0) | _ => 0) rfl rfl dJ7_copyOfRange_39247_16 (Nat.le_of_ble_eq_true rfl) (Nat.le_of_ble_eq_true rfl)
set_option maxHeartbeats 4000000 in
set_option maxRecDepth 100000 in
theorem c285_J0_init_db425 (l : Launch) (G : va_G) (cy : Nat → ClassId) (sa : String → Nat → Nat) (sv : Nat → Nat) (h0 h1 h2 : Nat) : xM l G cy sa sv yJ0_init_db425 (Cond.code yJ0_init_db425 cJ0_init_db425 5 none :: XG) { frames := 11, cells := 1, slots := 2, locals := 317 } [.ref h0, .ref h1, .null] [(h1, .inr (1, [.ref h2, .int 0, .int 0, .int 2])), (h0, .inr (0, [.null, .int 0, .int 0, .int 0])), (h2, .inl (cy 0, 16, .inl (va_cpy (fun j => ([125] : List Int32).getD j 0) (va_cpy (fun j => ([] : List Int32).getD j 0) (va_cpy (fun j => ([123] : List Int32).getD j 0) (fun _ => 0) 0 0 1) 0 1 0) 0 1 1)))] (xQv G (fun f => [(h1, .inr (1, [.ref h2, .int 0, .int 0, .int 2])), (h0, .inr (0, [.ref (f 0), .int 0, .int 0, .int 0])), (h2, .inl (cy 0, 16, .inl (va_cpy (fun j => ([125] : List Int32).getD j 0) (va_cpy (fun j => ([] : List Int32).getD j 0) (va_cpy (fun j => ([123] : List Int32).getD j 0) (fun _ => 0) 0 0 1) 0 1 0) 0 1 1))), ((f 0), .inl (cy 0, 2, .inl (va_cpy (va_cpy (fun j => ([125] : List Int32).getD j 0) (va_cpy (fun j => ([] : List Int32).getD j 0) (va_cpy (fun j => ([123] : List Int32).getD j 0) (fun _ => 0) 0 0 1) 0 1 0) 0 1 1) (fun _ => 0) 0 0 2)))])) := by
  refine xof (by decide) (Nat.le_of_ble_eq_true rfl) (fun p e s m below meth c A C w hr hn ls hl => ?_)
  have hl : lv_has ls 5 [(0, .ref h0), (1, .ref h1), (2, .null)] := hl
  refine lv_aload_n C.1 C.2.1 dJ0_init_db425_0 rfl (lv_at hl 0 rfl) ?_
  refine x_oinit C hl.1 (List.mem_cons_of_mem _ gw_493) (List.mem_cons_of_mem _ gw_4) (List.mem_cons_of_mem _ gw_oi) dJ0_init_db425_1 (Nat.le_of_ble_eq_true rfl) (Nat.le_of_ble_eq_true rfl) (Nat.le_of_ble_eq_true rfl) ?_
  refine lv_aload_n C.1 C.2.1 dJ0_init_db425_4 rfl (lv_at hl 1 rfl) ?_
  refine x_kr C w [0] [1, 2] rfl rfl (by decide) (by decide) (va_runU (As := []) (rest := []) (xfix C) (c248_J5_getValue_6d5f1 l G cy sa sv h1 h2 (xtr C) _) (va_cwU 0 (xhts C) (xgU (x := ⟨"java/lang/AbstractStringBuilder", "getValue", "()[B"⟩) gw_495 gw_496 gw_497 gw_498 gw_484 gc_J5_getValue_6d5f1) rfl rfl rfl rfl (by decide +kernel) ⟨(Nat.le_of_ble_eq_true rfl), (Nat.le_of_ble_eq_true rfl)⟩) (xPV C w [0] rfl (by decide) (ci := 1) (q0 := 0) rfl rfl) rfl rfl hl.1 rfl (lv_room (Nat.le_of_ble_eq_true rfl)) dJ0_init_db425_5 ⟨(Nat.le_of_ble_eq_true rfl), (Nat.le_of_ble_eq_true rfl)⟩) (fun f1638 H locs w => ?_)
  have w : xW G A s [(h0, .inr (0, [.null, .int 0, .int 0, .int 0])), (h2, .inl (cy 0, 16, .inl (va_cpy (fun j => ([125] : List Int32).getD j 0) (va_cpy (fun j => ([] : List Int32).getD j 0) (va_cpy (fun j => ([123] : List Int32).getD j 0) (fun _ => 0) 0 0 1) 0 1 0) 0 1 1))), (h1, .inr (1, [.ref h2, .int 0, .int 0, .int 2]))] H _ := w
  refine lv_astore_n (lv' := [(3, .ref h2), (0, .ref h0), (1, .ref h1), (2, .null)]) C.1 C.2.1 dJ0_init_db425_8 rfl hl (by decide) rfl (fun ls hl => ?_)
  refine lv_aload_n C.1 C.2.1 dJ0_init_db425_9 rfl (lv_at hl 2 rfl) ?_
  refine x_ki C w [2] [0, 1] rfl rfl (by decide) (by decide) (va_runU (As := []) (rest := []) (xfix C) (c250_J4_length_8abf5 l G cy sa sv h1 h2 (xtr C) _) (va_cwO 0 (xhts C) (xgO (x := ⟨"java/lang/AbstractStringBuilder", "length", "()I"⟩) gw_506 gw_502 gw_504 gw_507 gw_508 gw_477 gc_J4_length_8abf5) rfl rfl rfl (List.mem_cons_of_mem _ gc_J5_length_8abf5) (by decide +kernel) ⟨(Nat.le_of_ble_eq_true rfl), (Nat.le_of_ble_eq_true rfl)⟩) (xPV C w [2] rfl (by decide) (ci := 1) (q0 := 2) rfl rfl) rfl rfl hl.1 rfl (lv_room (Nat.le_of_ble_eq_true rfl)) dJ0_init_db425_10 ⟨(Nat.le_of_ble_eq_true rfl), (Nat.le_of_ble_eq_true rfl)⟩) (fun f1640 H locs w => ?_)
  have w : xW G A s [(h0, .inr (0, [.null, .int 0, .int 0, .int 0])), (h2, .inl (cy 0, 16, .inl (va_cpy (fun j => ([125] : List Int32).getD j 0) (va_cpy (fun j => ([] : List Int32).getD j 0) (va_cpy (fun j => ([123] : List Int32).getD j 0) (fun _ => 0) 0 0 1) 0 1 0) 0 1 1))), (h1, .inr (1, [.ref h2, .int 0, .int 0, .int 2]))] H _ := w
  refine lv_istore (lv' := [(4, .int 2), (3, .ref h2), (0, .ref h0), (1, .ref h1), (2, .null)]) C.1 C.2.1 dJ0_init_db425_13 hl (by decide) rfl (fun ls hl => ?_)
  refine lv_aload_n C.1 C.2.1 dJ0_init_db425_15 rfl (lv_at hl 3 rfl) ?_
  refine x_ki C w [2] [0, 1] rfl rfl (by decide) (by decide) (va_runU (As := []) (rest := []) (xfix C) (c251_J5_isLatin1_aae02 l G cy sa sv h1 h2 (xtr C) _) (va_cwU 0 (xhts C) (xgU (x := ⟨"java/lang/AbstractStringBuilder", "isLatin1", "()Z"⟩) gw_510 gw_511 gw_512 gw_513 gw_484 gc_J5_isLatin1_aae02) rfl rfl rfl rfl (by decide +kernel) ⟨(Nat.le_of_ble_eq_true rfl), (Nat.le_of_ble_eq_true rfl)⟩) (xPV C w [2] rfl (by decide) (ci := 1) (q0 := 2) rfl rfl) rfl rfl hl.1 rfl (lv_room (Nat.le_of_ble_eq_true rfl)) dJ0_init_db425_16 ⟨(Nat.le_of_ble_eq_true rfl), (Nat.le_of_ble_eq_true rfl)⟩) (fun f1641 H locs w => ?_)
  have w : xW G A s [(h0, .inr (0, [.null, .int 0, .int 0, .int 0])), (h2, .inl (cy 0, 16, .inl (va_cpy (fun j => ([125] : List Int32).getD j 0) (va_cpy (fun j => ([] : List Int32).getD j 0) (va_cpy (fun j => ([123] : List Int32).getD j 0) (fun _ => 0) 0 0 1) 0 1 0) 0 1 1))), (h1, .inr (1, [.ref h2, .int 0, .int 0, .int 2]))] H _ := w
  refine lv_if_eq (tgt := 41) C.1 C.2.1 dJ0_init_db425_19 (by decide) (fun c9 => absurd c9 (by decide)) (fun _ => ?_)
  refine lv_aload_n C.1 C.2.1 dJ0_init_db425_22 rfl (lv_at hl 2 rfl) ?_
  refine lv_iconst (v := 0) C.1 C.2.1 dJ0_init_db425_23 (by decide) ?_
  refine x_putF (ty := .byte) (ty0 := tyJ0) C w hn 0 0 1 (xin_J0 _) tyJ0_ok nmJ0 rfl rfl (by decide) (List.mem_cons_of_mem _ gw_514) rfl rfl rfl (by decide +kernel) rfl rfl (Nat.le_of_ble_eq_true rfl) dJ0_init_db425_24 (fun H locs w => ?_)
  have w : xW G A s [(h0, .inr (0, [.null, .int 0, .int 0, .int 0])), (h2, .inl (cy 0, 16, .inl (va_cpy (fun j => ([125] : List Int32).getD j 0) (va_cpy (fun j => ([] : List Int32).getD j 0) (va_cpy (fun j => ([123] : List Int32).getD j 0) (fun _ => 0) 0 0 1) 0 1 0) 0 1 1))), (h1, .inr (1, [.ref h2, .int 0, .int 0, .int 2]))] H _ := w
  refine lv_aload_n C.1 C.2.1 dJ0_init_db425_27 rfl (lv_at hl 2 rfl) ?_
  refine lv_aload_n C.1 C.2.1 dJ0_init_db425_28 rfl (lv_at hl 1 rfl) ?_
  refine lv_iconst (v := 0) C.1 C.2.1 dJ0_init_db425_29 (by decide) ?_
  refine lv_iload C.1 C.2.1 dJ0_init_db425_30 (lv_at hl 0 rfl) ?_
  refine x_kr C w [1] [0, 2] rfl rfl (by decide) (by decide) (va_runS (As := [.ref h2, .int 0, .int 2]) (rest := [.ref h0]) (xfix C) (c284_J7_copyOfRange_39247 l G cy sa sv h2 (xtr C) _) (va_cwS 3 (xhts C) (xgS gw_528 gw_529 gw_516 gc_J7_copyOfRange_39247) rfl rfl rfl (by decide +kernel) ⟨(Nat.le_of_ble_eq_true rfl), (Nat.le_of_ble_eq_true rfl)⟩) (xPS C w [1] rfl (by decide)) rfl rfl hl.1 rfl (lv_room (Nat.le_of_ble_eq_true rfl)) dJ0_init_db425_32 ⟨(Nat.le_of_ble_eq_true rfl), (Nat.le_of_ble_eq_true rfl)⟩) (fun f1651 H locs w => ?_)
  have w : xW G A s [(h0, .inr (0, [.null, .int 0, .int 0, .int 0])), (h1, .inr (1, [.ref h2, .int 0, .int 0, .int 2])), (h2, .inl (cy 0, 16, .inl (va_cpy (fun j => ([125] : List Int32).getD j 0) (va_cpy (fun j => ([] : List Int32).getD j 0) (va_cpy (fun j => ([123] : List Int32).getD j 0) (fun _ => 0) 0 0 1) 0 1 0) 0 1 1))), ((f1651 0), .inl (cy 0, 2, .inl (va_cpy (va_cpy (fun j => ([125] : List Int32).getD j 0) (va_cpy (fun j => ([] : List Int32).getD j 0) (va_cpy (fun j => ([123] : List Int32).getD j 0) (fun _ => 0) 0 0 1) 0 1 0) 0 1 1) (fun _ => 0) 0 0 2)))] H _ := w
  refine W.widen (k := 1) (n := 2) (Nat.le_of_ble_eq_true rfl) (Nat.le_of_ble_eq_true rfl) ?_
  refine x_putF (ty := (.array .byte)) (ty0 := tyJ0) C w hn 0 0 0 (xin_J0 _) tyJ0_ok nmJ0 rfl rfl (by decide) (List.mem_cons_of_mem _ gw_530) rfl rfl rfl (by decide +kernel) rfl rfl (Nat.le_of_ble_eq_true rfl) dJ0_init_db425_35 (fun H locs w => ?_)
  have w : xW G A s [(h0, .inr (0, [.ref (f1651 0), .int 0, .int 0, .int 0])), (h1, .inr (1, [.ref h2, .int 0, .int 0, .int 2])), (h2, .inl (cy 0, 16, .inl (va_cpy (fun j => ([125] : List Int32).getD j 0) (va_cpy (fun j => ([] : List Int32).getD j 0) (va_cpy (fun j => ([123] : List Int32).getD j 0) (fun _ => 0) 0 0 1) 0 1 0) 0 1 1))), ((f1651 0), .inl (cy 0, 2, .inl (va_cpy (va_cpy (fun j => ([125] : List Int32).getD j 0) (va_cpy (fun j => ([] : List Int32).getD j 0) (va_cpy (fun j => ([123] : List Int32).getD j 0) (fun _ => 0) 0 0 1) 0 1 0) 0 1 1) (fun _ => 0) 0 0 2)))] H _ := w
  refine lv_goto (tgt := 97) C.1 C.2.1 dJ0_init_db425_38 (by decide) ?_
  have w := w.sub (ws' := [(h1, .inr (1, [.ref h2, .int 0, .int 0, .int 2])), (h0, .inr (0, [.ref (f1651 0), .int 0, .int 0, .int 0])), (h2, .inl (cy 0, 16, .inl (va_cpy (fun j => ([125] : List Int32).getD j 0) (va_cpy (fun j => ([] : List Int32).getD j 0) (va_cpy (fun j => ([123] : List Int32).getD j 0) (fun _ => 0) 0 0 1) 0 1 0) 0 1 1))), ((f1651 0), .inl (cy 0, 2, .inl (va_cpy (va_cpy (fun j => ([125] : List Int32).getD j 0) (va_cpy (fun j => ([] : List Int32).getD j 0) (va_cpy (fun j => ([123] : List Int32).getD j 0) (fun _ => 0) 0 0 1) 0 1 0) 0 1 1) (fun _ => 0) 0 0 2)))]) [1, 0, 2, 3] (by decide) rfl rfl
  exact x_vret C w hr (fun k => match k with | 0 => (f1651 0) | _ => 0) rfl dJ0_init_db425_97 (Nat.le_of_ble_eq_true rfl) (Nat.le_of_ble_eq_true rfl)
set_option maxHeartbeats 4000000 in
set_option maxRecDepth 100000 in
theorem c286_J0_init_81219 (l : Launch) (G : va_G) (cy : Nat → ClassId) (sa : String → Nat → Nat) (sv : Nat → Nat) (h0 h1 h2 : Nat) : xM l G cy sa sv yJ0_init_81219 (Cond.code yJ0_init_81219 cJ0_init_81219 2 none :: XG) { frames := 12, cells := 1, slots := 2, locals := 341 } [.ref h0, .ref h1] [(h0, .inr (0, [.null, .int 0, .int 0, .int 0])), (h1, .inr (1, [.ref h2, .int 0, .int 0, .int 2])), (h2, .inl (cy 0, 16, .inl (va_cpy (fun j => ([125] : List Int32).getD j 0) (va_cpy (fun j => ([] : List Int32).getD j 0) (va_cpy (fun j => ([123] : List Int32).getD j 0) (fun _ => 0) 0 0 1) 0 1 0) 0 1 1)))] (xQv G (fun f => [(h0, .inr (0, [.ref (f 0), .int 0, .int 0, .int 0])), (h1, .inr (1, [.ref h2, .int 0, .int 0, .int 2])), (h2, .inl (cy 0, 16, .inl (va_cpy (fun j => ([125] : List Int32).getD j 0) (va_cpy (fun j => ([] : List Int32).getD j 0) (va_cpy (fun j => ([123] : List Int32).getD j 0) (fun _ => 0) 0 0 1) 0 1 0) 0 1 1))), ((f 0), .inl (cy 0, 2, .inl (va_cpy (va_cpy (fun j => ([125] : List Int32).getD j 0) (va_cpy (fun j => ([] : List Int32).getD j 0) (va_cpy (fun j => ([123] : List Int32).getD j 0) (fun _ => 0) 0 0 1) 0 1 0) 0 1 1) (fun _ => 0) 0 0 2)))])) := by
  refine xof (by decide) (Nat.le_of_ble_eq_true rfl) (fun p e s m below meth c A C w hr hn ls hl => ?_)
  have hl : lv_has ls 2 [(0, .ref h0), (1, .ref h1)] := hl
  refine lv_aload_n C.1 C.2.1 dJ0_init_81219_0 rfl (lv_at hl 0 rfl) ?_
  refine lv_aload_n C.1 C.2.1 dJ0_init_81219_1 rfl (lv_at hl 1 rfl) ?_
  refine lv_null C.1 C.2.1 dJ0_init_81219_2 ?_
  refine x_kv C w [1, 0, 2] [] rfl rfl (by decide) (by decide) (va_runI (As := [.ref h1, .null]) (rest := []) (xfix C) (c285_J0_init_db425 l G cy sa sv h0 h1 h2 (xtr C) _) (cwI 2 (xhts C) (xgI gc_J0_init_db425) rfl rfl rfl (xhts C _ (List.mem_cons_of_mem _ gw_492)) (xhts C _ (List.mem_cons_of_mem _ gw_532)) (xhts C _ (List.mem_cons_of_mem _ gw_533)) rfl (by decide +kernel) ⟨(Nat.le_of_ble_eq_true rfl), (Nat.le_of_ble_eq_true rfl)⟩) (xPS C w [1, 0, 2] rfl (by decide)) rfl rfl hl.1 rfl (lv_room (Nat.le_of_ble_eq_true rfl)) dJ0_init_81219_3 ⟨(Nat.le_of_ble_eq_true rfl), (Nat.le_of_ble_eq_true rfl)⟩) (fun f1653 H locs w => ?_)
  have w : xW G A s [(h1, .inr (1, [.ref h2, .int 0, .int 0, .int 2])), (h0, .inr (0, [.ref (f1653 0), .int 0, .int 0, .int 0])), (h2, .inl (cy 0, 16, .inl (va_cpy (fun j => ([125] : List Int32).getD j 0) (va_cpy (fun j => ([] : List Int32).getD j 0) (va_cpy (fun j => ([123] : List Int32).getD j 0) (fun _ => 0) 0 0 1) 0 1 0) 0 1 1))), ((f1653 0), .inl (cy 0, 2, .inl (va_cpy (va_cpy (fun j => ([125] : List Int32).getD j 0) (va_cpy (fun j => ([] : List Int32).getD j 0) (va_cpy (fun j => ([123] : List Int32).getD j 0) (fun _ => 0) 0 0 1) 0 1 0) 0 1 1) (fun _ => 0) 0 0 2)))] H _ := w
  refine W.widen (k := 1) (n := 2) (Nat.le_of_ble_eq_true rfl) (Nat.le_of_ble_eq_true rfl) ?_
  have w := w.sub (ws' := [(h0, .inr (0, [.ref (f1653 0), .int 0, .int 0, .int 0])), (h1, .inr (1, [.ref h2, .int 0, .int 0, .int 2])), (h2, .inl (cy 0, 16, .inl (va_cpy (fun j => ([125] : List Int32).getD j 0) (va_cpy (fun j => ([] : List Int32).getD j 0) (va_cpy (fun j => ([123] : List Int32).getD j 0) (fun _ => 0) 0 0 1) 0 1 0) 0 1 1))), ((f1653 0), .inl (cy 0, 2, .inl (va_cpy (va_cpy (fun j => ([125] : List Int32).getD j 0) (va_cpy (fun j => ([] : List Int32).getD j 0) (va_cpy (fun j => ([123] : List Int32).getD j 0) (fun _ => 0) 0 0 1) 0 1 0) 0 1 1) (fun _ => 0) 0 0 2)))]) [1, 0, 2, 3] (by decide) rfl rfl
  exact x_vret C w hr (fun k => match k with | 0 => (f1653 0) | _ => 0) rfl dJ0_init_81219_6 (Nat.le_of_ble_eq_true rfl) (Nat.le_of_ble_eq_true rfl)
set_option maxHeartbeats 4000000 in
set_option maxRecDepth 100000 in
theorem c287_J4_toString_0e30d (l : Launch) (G : va_G) (cy : Nat → ClassId) (sa : String → Nat → Nat) (sv : Nat → Nat) (h0 h1 : Nat) : xM l G cy sa sv yJ4_toString_0e30d (Cond.code yJ4_toString_0e30d cJ4_toString_0e30d 1 (some (.object "java/lang/String")) :: XG) { frames := 13, cells := 2, slots := 6, locals := 362 } [.ref h0] [(h0, .inr (1, [.ref h1, .int 0, .int 0, .int 2])), (h1, .inl (cy 0, 16, .inl (va_cpy (fun j => ([125] : List Int32).getD j 0) (va_cpy (fun j => ([] : List Int32).getD j 0) (va_cpy (fun j => ([123] : List Int32).getD j 0) (fun _ => 0) 0 0 1) 0 1 0) 0 1 1)))] (xQr G (fun f => [(h0, .inr (1, [.ref h1, .int 0, .int 0, .int 2])), (h1, .inl (cy 0, 16, .inl (va_cpy (fun j => ([125] : List Int32).getD j 0) (va_cpy (fun j => ([] : List Int32).getD j 0) (va_cpy (fun j => ([123] : List Int32).getD j 0) (fun _ => 0) 0 0 1) 0 1 0) 0 1 1))), ((f 0), .inr (0, [.ref (f 1), .int 0, .int 0, .int 0])), ((f 1), .inl (cy 0, 2, .inl (va_cpy (va_cpy (fun j => ([125] : List Int32).getD j 0) (va_cpy (fun j => ([] : List Int32).getD j 0) (va_cpy (fun j => ([123] : List Int32).getD j 0) (fun _ => 0) 0 0 1) 0 1 0) 0 1 1) (fun _ => 0) 0 0 2)))]) (fun f => (f 0))) := by
  refine xof (by decide) (Nat.le_of_ble_eq_true rfl) (fun p e s m below meth c A C w hr hn ls hl => ?_)
  have hl : lv_has ls 1 [(0, .ref h0)] := hl
  refine x_new (fs := [.null, .int 0, .int 0, .int 0]) (ty0 := tyJ0) C w 0 (xin_J0 _) tyJ0_ok rfl (List.mem_cons_of_mem _ gw_490) (List.mem_cons_of_mem _ gw_491) (List.mem_cons_of_mem _ gw_492) (fun j hj => by rcases (show j = 0 ∨ j = 1 ∨ j = 2 ∨ j = 3 by omega) with rfl | rfl | rfl | rfl <;> rfl) (Nat.le_of_ble_eq_true rfl) (Nat.le_of_ble_eq_true rfl) dJ4_toString_0e30d_0 (fun q1633 H w => ?_)
  have w : xW G A s [(h0, .inr (1, [.ref h1, .int 0, .int 0, .int 2])), (h1, .inl (cy 0, 16, .inl (va_cpy (fun j => ([125] : List Int32).getD j 0) (va_cpy (fun j => ([] : List Int32).getD j 0) (va_cpy (fun j => ([123] : List Int32).getD j 0) (fun _ => 0) 0 0 1) 0 1 0) 0 1 1))), (q1633, .inr (0, [.null, .int 0, .int 0, .int 0]))] H _ := w
  refine W.widen (k := 1) (n := 4) (Nat.le_of_ble_eq_true rfl) (Nat.le_of_ble_eq_true rfl) ?_
  refine lv_dup C.1 C.2.1 dJ4_toString_0e30d_3 rfl ?_
  refine lv_aload_n C.1 C.2.1 dJ4_toString_0e30d_4 rfl (lv_at hl 0 rfl) ?_
  refine x_kv C w [2, 0, 1] [] rfl rfl (by decide) (by decide) (va_runI (As := [.ref h0]) (rest := [.ref q1633]) (xfix C) (c286_J0_init_81219 l G cy sa sv q1633 h0 h1 (xtr C) _) (cwI 1 (xhts C) (xgI gc_J0_init_81219) rfl rfl rfl (xhts C _ (List.mem_cons_of_mem _ gw_492)) (xhts C _ (List.mem_cons_of_mem _ gw_535)) (xhts C _ (List.mem_cons_of_mem _ gw_536)) rfl (by decide +kernel) ⟨(Nat.le_of_ble_eq_true rfl), (Nat.le_of_ble_eq_true rfl)⟩) (xPS C w [2, 0, 1] rfl (by decide)) rfl rfl hl.1 rfl (lv_room (Nat.le_of_ble_eq_true rfl)) dJ4_toString_0e30d_5 ⟨(Nat.le_of_ble_eq_true rfl), (Nat.le_of_ble_eq_true rfl)⟩) (fun f1655 H locs w => ?_)
  have w : xW G A s [(q1633, .inr (0, [.ref (f1655 0), .int 0, .int 0, .int 0])), (h0, .inr (1, [.ref h1, .int 0, .int 0, .int 2])), (h1, .inl (cy 0, 16, .inl (va_cpy (fun j => ([125] : List Int32).getD j 0) (va_cpy (fun j => ([] : List Int32).getD j 0) (va_cpy (fun j => ([123] : List Int32).getD j 0) (fun _ => 0) 0 0 1) 0 1 0) 0 1 1))), ((f1655 0), .inl (cy 0, 2, .inl (va_cpy (va_cpy (fun j => ([125] : List Int32).getD j 0) (va_cpy (fun j => ([] : List Int32).getD j 0) (va_cpy (fun j => ([123] : List Int32).getD j 0) (fun _ => 0) 0 0 1) 0 1 0) 0 1 1) (fun _ => 0) 0 0 2)))] H _ := w
  refine W.widen (k := 2) (n := 6) (Nat.le_of_ble_eq_true rfl) (Nat.le_of_ble_eq_true rfl) ?_
  have w := w.sub (ws' := [(h0, .inr (1, [.ref h1, .int 0, .int 0, .int 2])), (h1, .inl (cy 0, 16, .inl (va_cpy (fun j => ([125] : List Int32).getD j 0) (va_cpy (fun j => ([] : List Int32).getD j 0) (va_cpy (fun j => ([123] : List Int32).getD j 0) (fun _ => 0) 0 0 1) 0 1 0) 0 1 1))), (q1633, .inr (0, [.ref (f1655 0), .int 0, .int 0, .int 0])), ((f1655 0), .inl (cy 0, 2, .inl (va_cpy (va_cpy (fun j => ([125] : List Int32).getD j 0) (va_cpy (fun j => ([] : List Int32).getD j 0) (va_cpy (fun j => ([123] : List Int32).getD j 0) (fun _ => 0) 0 0 1) 0 1 0) 0 1 1) (fun _ => 0) 0 0 2)))]) [1, 2, 0, 3] (by decide) rfl rfl
  exact x_aret C w hr (Or.inl ⟨_, rfl⟩) (fun k => match k with | 0 => q1633 | 1 => (f1655 0) | _ => 0) rfl rfl dJ4_toString_0e30d_8 (Nat.le_of_ble_eq_true rfl) (Nat.le_of_ble_eq_true rfl)
set_option maxHeartbeats 4000000 in
set_option maxRecDepth 100000 in
theorem c288_X6_textNow (l : Launch) (G : va_G) (cy : Nat → ClassId) (sa : String → Nat → Nat) (sv : Nat → Nat) (h0 h1 h2 h3 h4 h5 h6 h7 : Nat) : xM l G cy sa sv yX6_textNow (Cond.code yX6_textNow cX6_textNow 1 (some (.object "java/lang/String")) :: XG) { frames := 14, cells := 5, slots := 26, locals := 382 } [.ref h0] [(h0, .inr (10, [.ref h1, .ref h2, .ref h3, .ref h4, .ref h5, .ref h6, .ref h7, .int 0, .int 0])), (h1, .inr (3, [.int 0, .ref (sv 0), .int 0]))] (xQr G (fun f => [(h0, .inr (10, [.ref h1, .ref h2, .ref h3, .ref h4, .ref h5, .ref h6, .ref h7, .int 0, .int 0])), (h1, .inr (3, [.int 0, .ref (sv 0), .int 0])), ((f 0), .inr (0, [.ref (f 1), .int 0, .int 0, .int 0])), ((f 1), .inl (cy 0, 2, .inl (va_cpy (va_cpy (fun j => ([125] : List Int32).getD j 0) (va_cpy (fun j => ([] : List Int32).getD j 0) (va_cpy (fun j => ([123] : List Int32).getD j 0) (fun _ => 0) 0 0 1) 0 1 0) 0 1 1) (fun _ => 0) 0 0 2)))]) (fun f => (f 0))) := by
  refine xof (by decide) (Nat.le_of_ble_eq_true rfl) (fun p e s m below meth c A C w hr hn ls hl => ?_)
  have hl : lv_has ls 1 [(0, .ref h0)] := hl
  refine x_new (fs := [.null, .int 0, .int 0, .int 0]) (ty0 := tyJ4) C w 1 (xin_J4 _) tyJ4_ok rfl (List.mem_cons_of_mem _ gw_602) (List.mem_cons_of_mem _ gw_476) (List.mem_cons_of_mem _ gw_477) (fun j hj => by rcases (show j = 0 ∨ j = 1 ∨ j = 2 ∨ j = 3 by omega) with rfl | rfl | rfl | rfl <;> rfl) (Nat.le_of_ble_eq_true rfl) (Nat.le_of_ble_eq_true rfl) dX6_textNow_0 (fun q1580 H w => ?_)
  have w : xW G A s [(h0, .inr (10, [.ref h1, .ref h2, .ref h3, .ref h4, .ref h5, .ref h6, .ref h7, .int 0, .int 0])), (h1, .inr (3, [.int 0, .ref (sv 0), .int 0])), (q1580, .inr (1, [.null, .int 0, .int 0, .int 0]))] H _ := w
  refine W.widen (k := 1) (n := 4) (Nat.le_of_ble_eq_true rfl) (Nat.le_of_ble_eq_true rfl) ?_
  refine lv_dup C.1 C.2.1 dX6_textNow_3 rfl ?_
  refine x_kv C w [2] [0, 1] rfl rfl (by decide) (by decide) (va_runI (As := []) (rest := [.ref q1580]) (xfix C) (c217_J4_init_da8c8 l G cy sa sv q1580 (xtr C) _) (cwI 0 (xhts C) (xgI gc_J4_init_da8c8) rfl rfl rfl (xhts C _ (List.mem_cons_of_mem _ gw_477)) (xhts C _ (List.mem_cons_of_mem _ gw_603)) (xhts C _ (List.mem_cons_of_mem _ gw_489)) rfl (by decide +kernel) ⟨(Nat.le_of_ble_eq_true rfl), (Nat.le_of_ble_eq_true rfl)⟩) (xPS C w [2] rfl (by decide)) rfl rfl hl.1 rfl (lv_room (Nat.le_of_ble_eq_true rfl)) dX6_textNow_4 ⟨(Nat.le_of_ble_eq_true rfl), (Nat.le_of_ble_eq_true rfl)⟩) (fun f1589 H locs w => ?_)
  have w : xW G A s [(h0, .inr (10, [.ref h1, .ref h2, .ref h3, .ref h4, .ref h5, .ref h6, .ref h7, .int 0, .int 0])), (h1, .inr (3, [.int 0, .ref (sv 0), .int 0])), (q1580, .inr (1, [.ref (f1589 0), .int 0, .int 0, .int 0])), ((f1589 0), .inl (cy 0, 16, .inl (fun _ => 0)))] H _ := w
  refine W.widen (k := 2) (n := 20) (Nat.le_of_ble_eq_true rfl) (Nat.le_of_ble_eq_true rfl) ?_
  refine x_ldcS C (tx := "{") (List.mem_of_getElem? (i := 13) rfl) dX6_textNow_7 ?_
  refine x_kr C w [2, 3] [0, 1] rfl rfl (by decide) (by decide) (va_runV (As := [.ref (sa "TwinindexModel" 151)]) (rest := []) (xfix C) (c265_J4_append_15ec4 l G cy sa sv q1580 (f1589 0) (xtr C) _) (cwV 1 (xhts C) (xgV (maxL := 0) (cc := ⟨#[]⟩) (ret := none) gw_633 gw_634 gw_635 gw_477 gc_J4_append_15ec4) rfl rfl rfl (by decide +kernel) ⟨(Nat.le_of_ble_eq_true rfl), (Nat.le_of_ble_eq_true rfl)⟩) (xPV C w [2, 3] rfl (by decide) (ci := 1) (q0 := 2) rfl rfl) rfl rfl hl.1 rfl (lv_room (Nat.le_of_ble_eq_true rfl)) dX6_textNow_9 ⟨(Nat.le_of_ble_eq_true rfl), (Nat.le_of_ble_eq_true rfl)⟩) (fun f1599 H locs w => ?_)
  have w : xW G A s [(h0, .inr (10, [.ref h1, .ref h2, .ref h3, .ref h4, .ref h5, .ref h6, .ref h7, .int 0, .int 0])), (h1, .inr (3, [.int 0, .ref (sv 0), .int 0])), (q1580, .inr (1, [.ref (f1589 0), .int 0, .int 0, .int 1])), ((f1589 0), .inl (cy 0, 16, .inl (va_cpy (fun j => ([123] : List Int32).getD j 0) (fun _ => 0) 0 0 1)))] H _ := w
  refine lv_aload_n C.1 C.2.1 dX6_textNow_12 rfl (lv_at hl 0 rfl) ?_
  refine x_get (v := .ref h1) C w 0 10 0 (xin_X6 _) rfl rfl (by decide) (List.mem_cons_of_mem _ gw_78) rfl rfl dX6_textNow_13 ?_
  refine x_ldcS C (tx := ", ") (List.mem_of_getElem? (i := 14) rfl) dX6_textNow_16 ?_
  refine x_kr C w [1] [0, 2, 3] rfl rfl (by decide) (by decide) (va_runS (As := [.ref h1, .ref (sa "TwinindexModel" 153)]) (rest := [.ref q1580]) (xfix C) (c266_X6_toldOf l G cy sa sv h1 (xtr C) _) (va_cwS 2 (xhts C) (xgS gw_637 gw_638 gw_58 gc_X6_toldOf) rfl rfl rfl (by decide +kernel) ⟨(Nat.le_of_ble_eq_true rfl), (Nat.le_of_ble_eq_true rfl)⟩) (xPS C w [1] rfl (by decide)) rfl rfl hl.1 rfl (lv_room (Nat.le_of_ble_eq_true rfl)) dX6_textNow_18 ⟨(Nat.le_of_ble_eq_true rfl), (Nat.le_of_ble_eq_true rfl)⟩) (fun f1608 H locs w => ?_)
  have w : xW G A s [(h0, .inr (10, [.ref h1, .ref h2, .ref h3, .ref h4, .ref h5, .ref h6, .ref h7, .int 0, .int 0])), (q1580, .inr (1, [.ref (f1589 0), .int 0, .int 0, .int 1])), ((f1589 0), .inl (cy 0, 16, .inl (va_cpy (fun j => ([123] : List Int32).getD j 0) (fun _ => 0) 0 0 1))), (h1, .inr (3, [.int 0, .ref (sv 0), .int 0]))] H _ := w
  refine W.widen (k := 3) (n := 20) (Nat.le_of_ble_eq_true rfl) (Nat.le_of_ble_eq_true rfl) ?_
  refine x_kr C w [1, 2] [0, 3] rfl rfl (by decide) (by decide) (va_runV (As := [.ref (sa "TwinindexModel" 122)]) (rest := []) (xfix C) (c274_J4_append_15ec4 l G cy sa sv q1580 (f1589 0) (xtr C) _) (cwV 1 (xhts C) (xgV (maxL := 0) (cc := ⟨#[]⟩) (ret := none) gw_633 gw_634 gw_635 gw_477 gc_J4_append_15ec4) rfl rfl rfl (by decide +kernel) ⟨(Nat.le_of_ble_eq_true rfl), (Nat.le_of_ble_eq_true rfl)⟩) (xPV C w [1, 2] rfl (by decide) (ci := 1) (q0 := 1) rfl rfl) rfl rfl hl.1 rfl (lv_room (Nat.le_of_ble_eq_true rfl)) dX6_textNow_21 ⟨(Nat.le_of_ble_eq_true rfl), (Nat.le_of_ble_eq_true rfl)⟩) (fun f1618 H locs w => ?_)
  have w : xW G A s [(h0, .inr (10, [.ref h1, .ref h2, .ref h3, .ref h4, .ref h5, .ref h6, .ref h7, .int 0, .int 0])), (h1, .inr (3, [.int 0, .ref (sv 0), .int 0])), (q1580, .inr (1, [.ref (f1589 0), .int 0, .int 0, .int 1])), ((f1589 0), .inl (cy 0, 16, .inl (va_cpy (fun j => ([] : List Int32).getD j 0) (va_cpy (fun j => ([123] : List Int32).getD j 0) (fun _ => 0) 0 0 1) 0 1 0)))] H _ := w
  refine x_ldcS C (tx := "}") (List.mem_of_getElem? (i := 15) rfl) dX6_textNow_24 ?_
  refine x_kr C w [2, 3] [0, 1] rfl rfl (by decide) (by decide) (va_runV (As := [.ref (sa "TwinindexModel" 159)]) (rest := []) (xfix C) (c282_J4_append_15ec4 l G cy sa sv q1580 (f1589 0) (xtr C) _) (cwV 1 (xhts C) (xgV (maxL := 0) (cc := ⟨#[]⟩) (ret := none) gw_633 gw_634 gw_635 gw_477 gc_J4_append_15ec4) rfl rfl rfl (by decide +kernel) ⟨(Nat.le_of_ble_eq_true rfl), (Nat.le_of_ble_eq_true rfl)⟩) (xPV C w [2, 3] rfl (by decide) (ci := 1) (q0 := 2) rfl rfl) rfl rfl hl.1 rfl (lv_room (Nat.le_of_ble_eq_true rfl)) dX6_textNow_26 ⟨(Nat.le_of_ble_eq_true rfl), (Nat.le_of_ble_eq_true rfl)⟩) (fun f1628 H locs w => ?_)
  have w : xW G A s [(h0, .inr (10, [.ref h1, .ref h2, .ref h3, .ref h4, .ref h5, .ref h6, .ref h7, .int 0, .int 0])), (h1, .inr (3, [.int 0, .ref (sv 0), .int 0])), (q1580, .inr (1, [.ref (f1589 0), .int 0, .int 0, .int 2])), ((f1589 0), .inl (cy 0, 16, .inl (va_cpy (fun j => ([125] : List Int32).getD j 0) (va_cpy (fun j => ([] : List Int32).getD j 0) (va_cpy (fun j => ([123] : List Int32).getD j 0) (fun _ => 0) 0 0 1) 0 1 0) 0 1 1)))] H _ := w
  refine x_kr C w [2, 3] [0, 1] rfl rfl (by decide) (by decide) (va_runV (As := []) (rest := []) (xfix C) (c287_J4_toString_0e30d l G cy sa sv q1580 (f1589 0) (xtr C) _) (cwV 0 (xhts C) (xgV (maxL := 0) (cc := ⟨#[]⟩) (ret := none) gw_639 gw_539 gw_540 gw_477 gc_J4_toString_0e30d) rfl rfl rfl (by decide +kernel) ⟨(Nat.le_of_ble_eq_true rfl), (Nat.le_of_ble_eq_true rfl)⟩) (xPV C w [2, 3] rfl (by decide) (ci := 1) (q0 := 2) rfl rfl) rfl rfl hl.1 rfl (lv_room (Nat.le_of_ble_eq_true rfl)) dX6_textNow_29 ⟨(Nat.le_of_ble_eq_true rfl), (Nat.le_of_ble_eq_true rfl)⟩) (fun f1658 H locs w => ?_)
  have w : xW G A s [(h0, .inr (10, [.ref h1, .ref h2, .ref h3, .ref h4, .ref h5, .ref h6, .ref h7, .int 0, .int 0])), (h1, .inr (3, [.int 0, .ref (sv 0), .int 0])), (q1580, .inr (1, [.ref (f1589 0), .int 0, .int 0, .int 2])), ((f1589 0), .inl (cy 0, 16, .inl (va_cpy (fun j => ([125] : List Int32).getD j 0) (va_cpy (fun j => ([] : List Int32).getD j 0) (va_cpy (fun j => ([123] : List Int32).getD j 0) (fun _ => 0) 0 0 1) 0 1 0) 0 1 1))), ((f1658 0), .inr (0, [.ref (f1658 1), .int 0, .int 0, .int 0])), ((f1658 1), .inl (cy 0, 2, .inl (va_cpy (va_cpy (fun j => ([125] : List Int32).getD j 0) (va_cpy (fun j => ([] : List Int32).getD j 0) (va_cpy (fun j => ([123] : List Int32).getD j 0) (fun _ => 0) 0 0 1) 0 1 0) 0 1 1) (fun _ => 0) 0 0 2)))] H _ := w
  refine W.widen (k := 5) (n := 26) (Nat.le_of_ble_eq_true rfl) (Nat.le_of_ble_eq_true rfl) ?_
  have w := w.sub (ws' := [(h0, .inr (10, [.ref h1, .ref h2, .ref h3, .ref h4, .ref h5, .ref h6, .ref h7, .int 0, .int 0])), (h1, .inr (3, [.int 0, .ref (sv 0), .int 0])), ((f1658 0), .inr (0, [.ref (f1658 1), .int 0, .int 0, .int 0])), ((f1658 1), .inl (cy 0, 2, .inl (va_cpy (va_cpy (fun j => ([125] : List Int32).getD j 0) (va_cpy (fun j => ([] : List Int32).getD j 0) (va_cpy (fun j => ([123] : List Int32).getD j 0) (fun _ => 0) 0 0 1) 0 1 0) 0 1 1) (fun _ => 0) 0 0 2)))]) [0, 1, 4, 5] (by decide) rfl rfl
  exact x_aret C w hr (Or.inl ⟨_, rfl⟩) (fun k => match k with | 0 => (f1658 0) | 1 => (f1658 1) | _ => 0) rfl rfl dX6_textNow_32 (Nat.le_of_ble_eq_true rfl) (Nat.le_of_ble_eq_true rfl)
set_option maxHeartbeats 4000000 in
set_option maxRecDepth 100000 in
theorem c289_X6_text (l : Launch) (G : va_G) (cy : Nat → ClassId) (sa : String → Nat → Nat) (sv : Nat → Nat) (h0 h1 h2 h3 h4 h5 h6 h7 : Nat) : xM l G cy sa sv yX6_text (Cond.code yX6_text cX6_text 1 (some (.object "java/lang/String")) :: XG) { frames := 15, cells := 5, slots := 26, locals := 402 } [.ref h0] [(h0, .inr (10, [.ref h1, .ref h2, .ref h3, .ref h4, .ref h5, .ref h6, .ref h7, .int 0, .int 0])), (h1, .inr (3, [.int 0, .ref (sv 0), .int 0]))] (xQr G (fun f => [(h0, .inr (10, [.ref h1, .ref h2, .ref h3, .ref h4, .ref h5, .ref h6, .ref h7, .int 0, .int 0])), (h1, .inr (3, [.int 0, .ref (sv 0), .int 0])), ((f 0), .inr (0, [.ref (f 1), .int 0, .int 0, .int 0])), ((f 1), .inl (cy 0, 2, .inl (va_cpy (va_cpy (fun j => ([125] : List Int32).getD j 0) (va_cpy (fun j => ([] : List Int32).getD j 0) (va_cpy (fun j => ([123] : List Int32).getD j 0) (fun _ => 0) 0 0 1) 0 1 0) 0 1 1) (fun _ => 0) 0 0 2)))]) (fun f => (f 0))) := by
  refine xof (by decide) (Nat.le_of_ble_eq_true rfl) (fun p e s m below meth c A C w hr hn ls hl => ?_)
  have hl : lv_has ls 1 [(0, .ref h0)] := hl
  refine lv_aload_n C.1 C.2.1 dX6_text_0 rfl (lv_at hl 0 rfl) ?_
  refine lv_iconst (v := 0) C.1 C.2.1 dX6_text_1 (by decide) ?_
  refine x_put (ty := .int) (ty0 := tyX6) C w 0 10 8 (xin_X6 _) tyX6_ok nmX6 rfl rfl (by decide) (List.mem_cons_of_mem _ gw_112) rfl rfl (by decide +kernel) rfl rfl (Nat.le_of_ble_eq_true rfl) dX6_text_2 (fun H locs w => ?_)
  have w : xW G A s [(h0, .inr (10, [.ref h1, .ref h2, .ref h3, .ref h4, .ref h5, .ref h6, .ref h7, .int 0, .int 0])), (h1, .inr (3, [.int 0, .ref (sv 0), .int 0]))] H _ := w
  refine lv_aload_n C.1 C.2.1 dX6_text_5 rfl (lv_at hl 0 rfl) ?_
  refine x_kr C w [0, 1] [] rfl rfl (by decide) (by decide) (va_runV (As := []) (rest := []) (xfix C) (c288_X6_textNow l G cy sa sv h0 h1 h2 h3 h4 h5 h6 h7 (xtr C) _) (cwV 0 (xhts C) (xgV (maxL := 0) (cc := ⟨#[]⟩) (ret := none) gw_641 gw_642 gw_643 gw_58 gc_X6_textNow) rfl rfl rfl (by decide +kernel) ⟨(Nat.le_of_ble_eq_true rfl), (Nat.le_of_ble_eq_true rfl)⟩) (xPV C w [0, 1] rfl (by decide) (ci := 10) (q0 := 0) rfl rfl) rfl rfl hl.1 rfl (lv_room (Nat.le_of_ble_eq_true rfl)) dX6_text_6 ⟨(Nat.le_of_ble_eq_true rfl), (Nat.le_of_ble_eq_true rfl)⟩) (fun f1661 H locs w => ?_)
  have w : xW G A s [(h0, .inr (10, [.ref h1, .ref h2, .ref h3, .ref h4, .ref h5, .ref h6, .ref h7, .int 0, .int 0])), (h1, .inr (3, [.int 0, .ref (sv 0), .int 0])), ((f1661 0), .inr (0, [.ref (f1661 1), .int 0, .int 0, .int 0])), ((f1661 1), .inl (cy 0, 2, .inl (va_cpy (va_cpy (fun j => ([125] : List Int32).getD j 0) (va_cpy (fun j => ([] : List Int32).getD j 0) (va_cpy (fun j => ([123] : List Int32).getD j 0) (fun _ => 0) 0 0 1) 0 1 0) 0 1 1) (fun _ => 0) 0 0 2)))] H _ := w
  refine W.widen (k := 5) (n := 26) (Nat.le_of_ble_eq_true rfl) (Nat.le_of_ble_eq_true rfl) ?_
  exact x_aret C w hr (Or.inl ⟨_, rfl⟩) (fun k => match k with | 0 => (f1661 0) | 1 => (f1661 1) | _ => 0) rfl rfl dX6_text_9 (Nat.le_of_ble_eq_true rfl) (Nat.le_of_ble_eq_true rfl)
set_option maxHeartbeats 4000000 in
set_option maxRecDepth 100000 in
theorem c290_J1_equals_b5fdf (l : Launch) (G : va_G) (cy : Nat → ClassId) (sa : String → Nat → Nat) (sv : Nat → Nat) (h0 h1 : Nat) : xM l G cy sa sv yJ1_equals_b5fdf (Cond.code yJ1_equals_b5fdf cJ1_equals_b5fdf 3 (some .boolean) :: XG) { frames := 8, cells := 0, slots := 0, locals := 250 } [.ref h0, .ref h1] [(h0, .inl (cy 0, 2, .inl (va_cpy (upd (upd (fun _ => 0) 0 123) 1 125) (fun _ => 0) 0 0 2))), (h1, .inl (cy 0, 2, .inl (va_cpy (va_cpy (fun j => ([125] : List Int32).getD j 0) (va_cpy (fun j => ([] : List Int32).getD j 0) (va_cpy (fun j => ([123] : List Int32).getD j 0) (fun _ => 0) 0 0 1) 0 1 0) 0 1 1) (fun _ => 0) 0 0 2)))] (xQi G (fun f => [(h0, .inl (cy 0, 2, .inl (va_cpy (upd (upd (fun _ => 0) 0 123) 1 125) (fun _ => 0) 0 0 2))), (h1, .inl (cy 0, 2, .inl (va_cpy (va_cpy (fun j => ([125] : List Int32).getD j 0) (va_cpy (fun j => ([] : List Int32).getD j 0) (va_cpy (fun j => ([123] : List Int32).getD j 0) (fun _ => 0) 0 0 1) 0 1 0) 0 1 1) (fun _ => 0) 0 0 2)))]) 1) := by
  refine xof (by decide) (Nat.le_of_ble_eq_true rfl) (fun p e s m below meth c A C w hr hn ls hl => ?_)
  have hl : lv_has ls 3 [(0, .ref h0), (1, .ref h1)] := hl
  refine lv_aload_n C.1 C.2.1 dJ1_equals_b5fdf_0 rfl (lv_at hl 0 rfl) ?_
  refine x_alen (v := 2) C w 0 0 rfl rfl (by rfl) dJ1_equals_b5fdf_1 ?_
  refine lv_aload_n C.1 C.2.1 dJ1_equals_b5fdf_2 rfl (lv_at hl 1 rfl) ?_
  refine x_alen (v := 2) C w 1 0 rfl rfl (by rfl) dJ1_equals_b5fdf_3 ?_
  refine lv_icmp_ne (tgt := 34) C.1 C.2.1 dJ1_equals_b5fdf_4 (by decide) (fun c9 => absurd (by decide) c9) (fun _ => ?_)
  refine lv_iconst (v := 0) C.1 C.2.1 dJ1_equals_b5fdf_7 (by decide) ?_
  refine lv_istore_n (lv' := [(2, .int 0), (0, .ref h0), (1, .ref h1)]) C.1 C.2.1 dJ1_equals_b5fdf_8 rfl hl (by decide) rfl (fun ls hl => ?_)
  refine lv_iload_n C.1 C.2.1 dJ1_equals_b5fdf_9 rfl (lv_at hl 0 rfl) ?_
  refine lv_aload_n C.1 C.2.1 dJ1_equals_b5fdf_10 rfl (lv_at hl 1 rfl) ?_
  refine x_alen (v := 2) C w 0 0 rfl rfl (by rfl) dJ1_equals_b5fdf_11 ?_
  refine lv_icmp_ge (tgt := 32) C.1 C.2.1 dJ1_equals_b5fdf_12 (by decide) (fun c9 => absurd c9 (by decide)) (fun _ => ?_)
  refine lv_aload_n C.1 C.2.1 dJ1_equals_b5fdf_15 rfl (lv_at hl 1 rfl) ?_
  refine lv_iload_n C.1 C.2.1 dJ1_equals_b5fdf_16 rfl (lv_at hl 0 rfl) ?_
  refine x_bald (v := 123) C w 0 0 rfl rfl (xvin (by decide)) (by rfl) dJ1_equals_b5fdf_17 ?_
  refine lv_aload_n C.1 C.2.1 dJ1_equals_b5fdf_18 rfl (lv_at hl 2 rfl) ?_
  refine lv_iload_n C.1 C.2.1 dJ1_equals_b5fdf_19 rfl (lv_at hl 0 rfl) ?_
  refine x_bald (v := 123) C w 1 0 rfl rfl (xvin (by decide)) (by rfl) dJ1_equals_b5fdf_20 ?_
  refine lv_icmp_eq (tgt := 26) C.1 C.2.1 dJ1_equals_b5fdf_21 (by decide) (fun _ => ?_) (fun c9 => absurd (by decide) c9)
  refine lv_iinc (v := 1) (lv' := [(2, .int 1), (0, .ref h0), (1, .ref h1)]) C.1 C.2.1 dJ1_equals_b5fdf_26 hl (k := 0) rfl (by decide) (by decide) rfl (fun ls hl => ?_)
  refine lv_goto (tgt := 9) C.1 C.2.1 dJ1_equals_b5fdf_29 (by decide) ?_
  refine lv_iload_n C.1 C.2.1 dJ1_equals_b5fdf_9 rfl (lv_at hl 0 rfl) ?_
  refine lv_aload_n C.1 C.2.1 dJ1_equals_b5fdf_10 rfl (lv_at hl 1 rfl) ?_
  refine x_alen (v := 2) C w 0 0 rfl rfl (by rfl) dJ1_equals_b5fdf_11 ?_
  refine lv_icmp_ge (tgt := 32) C.1 C.2.1 dJ1_equals_b5fdf_12 (by decide) (fun c9 => absurd c9 (by decide)) (fun _ => ?_)
  refine lv_aload_n C.1 C.2.1 dJ1_equals_b5fdf_15 rfl (lv_at hl 1 rfl) ?_
  refine lv_iload_n C.1 C.2.1 dJ1_equals_b5fdf_16 rfl (lv_at hl 0 rfl) ?_
  refine x_bald (v := 125) C w 0 0 rfl rfl (xvin (by decide)) (by rfl) dJ1_equals_b5fdf_17 ?_
  refine lv_aload_n C.1 C.2.1 dJ1_equals_b5fdf_18 rfl (lv_at hl 2 rfl) ?_
  refine lv_iload_n C.1 C.2.1 dJ1_equals_b5fdf_19 rfl (lv_at hl 0 rfl) ?_
  refine x_bald (v := 125) C w 1 0 rfl rfl (xvin (by decide)) (by rfl) dJ1_equals_b5fdf_20 ?_
  refine lv_icmp_eq (tgt := 26) C.1 C.2.1 dJ1_equals_b5fdf_21 (by decide) (fun _ => ?_) (fun c9 => absurd (by decide) c9)
  refine lv_iinc (v := 2) (lv' := [(2, .int 2), (0, .ref h0), (1, .ref h1)]) C.1 C.2.1 dJ1_equals_b5fdf_26 hl (k := 0) rfl (by decide) (by decide) rfl (fun ls hl => ?_)
  refine lv_goto (tgt := 9) C.1 C.2.1 dJ1_equals_b5fdf_29 (by decide) ?_
  refine lv_iload_n C.1 C.2.1 dJ1_equals_b5fdf_9 rfl (lv_at hl 0 rfl) ?_
  refine lv_aload_n C.1 C.2.1 dJ1_equals_b5fdf_10 rfl (lv_at hl 1 rfl) ?_
  refine x_alen (v := 2) C w 0 0 rfl rfl (by rfl) dJ1_equals_b5fdf_11 ?_
  refine lv_icmp_ge (tgt := 32) C.1 C.2.1 dJ1_equals_b5fdf_12 (by decide) (fun _ => ?_) (fun c9 => absurd (by decide) c9)
  refine lv_iconst (v := 1) C.1 C.2.1 dJ1_equals_b5fdf_32 (by decide) ?_
  exact x_zret C w hr rfl (fun _ => 0) rfl rfl dJ1_equals_b5fdf_33 (Nat.le_of_ble_eq_true rfl) (Nat.le_of_ble_eq_true rfl)
set_option maxHeartbeats 4000000 in
set_option maxRecDepth 100000 in
theorem c291_J0_equals_9ea2d (l : Launch) (G : va_G) (cy : Nat → ClassId) (sa : String → Nat → Nat) (sv : Nat → Nat) (h0 h1 h2 h3 : Nat) : xM l G cy sa sv yJ0_equals_9ea2d (Cond.code yJ0_equals_9ea2d cJ0_equals_9ea2d 3 (some .boolean) :: XG) { frames := 9, cells := 0, slots := 0, locals := 272 } [.ref h0, .ref h1] [(h0, .inr (0, [.ref h2, .int 0, .int 0, .int 0])), (h1, .inr (0, [.ref h3, .int 0, .int 0, .int 0])), (h2, .inl (cy 0, 2, .inl (va_cpy (upd (upd (fun _ => 0) 0 123) 1 125) (fun _ => 0) 0 0 2))), (h3, .inl (cy 0, 2, .inl (va_cpy (va_cpy (fun j => ([125] : List Int32).getD j 0) (va_cpy (fun j => ([] : List Int32).getD j 0) (va_cpy (fun j => ([123] : List Int32).getD j 0) (fun _ => 0) 0 0 1) 0 1 0) 0 1 1) (fun _ => 0) 0 0 2)))] (xQi G (fun f => [(h0, .inr (0, [.ref h2, .int 0, .int 0, .int 0])), (h1, .inr (0, [.ref h3, .int 0, .int 0, .int 0])), (h2, .inl (cy 0, 2, .inl (va_cpy (upd (upd (fun _ => 0) 0 123) 1 125) (fun _ => 0) 0 0 2))), (h3, .inl (cy 0, 2, .inl (va_cpy (va_cpy (fun j => ([125] : List Int32).getD j 0) (va_cpy (fun j => ([] : List Int32).getD j 0) (va_cpy (fun j => ([123] : List Int32).getD j 0) (fun _ => 0) 0 0 1) 0 1 0) 0 1 1) (fun _ => 0) 0 0 2)))]) 1) := by
  refine xof (by decide) (Nat.le_of_ble_eq_true rfl) (fun p e s m below meth c A C w hr hn ls hl => ?_)
  have hl : lv_has ls 3 [(0, .ref h0), (1, .ref h1)] := hl
  refine lv_aload_n C.1 C.2.1 dJ0_equals_9ea2d_0 rfl (lv_at hl 0 rfl) ?_
  refine lv_aload_n C.1 C.2.1 dJ0_equals_9ea2d_1 rfl (lv_at hl 1 rfl) ?_
  refine x_acmpne C (xne w.2.1 (i := 0) (j := 1) rfl rfl (by decide)) dJ0_equals_9ea2d_2 (tgt := 7) (by decide) ?_
  refine lv_aload_n C.1 C.2.1 dJ0_equals_9ea2d_7 rfl (lv_at hl 1 rfl) ?_
  refine x_instS (ci := 0) (q0 := 1) C w (List.mem_cons_of_mem _ gw_556) rfl rfl dJ0_equals_9ea2d_8 ?_
  refine lv_if_eq (tgt := 54) C.1 C.2.1 dJ0_equals_9ea2d_11 (by decide) (fun c9 => absurd c9 (by decide)) (fun _ => ?_)
  refine lv_aload_n C.1 C.2.1 dJ0_equals_9ea2d_14 rfl (lv_at hl 1 rfl) ?_
  refine x_castS (ci := 0) (q0 := 1) C w (List.mem_cons_of_mem _ gw_556) rfl rfl dJ0_equals_9ea2d_15 ?_
  refine lv_astore_n (lv' := [(2, .ref h1), (0, .ref h0), (1, .ref h1)]) C.1 C.2.1 dJ0_equals_9ea2d_18 rfl hl (by decide) rfl (fun ls hl => ?_)
  refine x_gets C w (xs_cs (xS C)) (List.mem_cons_of_mem _ gw_557) rfl dJ0_equals_9ea2d_19 ?_
  refine lv_if_eq (tgt := 36) C.1 C.2.1 dJ0_equals_9ea2d_22 (by decide) (fun c9 => absurd c9 (by decide)) (fun _ => ?_)
  refine lv_aload_n C.1 C.2.1 dJ0_equals_9ea2d_25 rfl (lv_at hl 1 rfl) ?_
  refine x_get (v := .int 0) C w 0 0 1 (xin_J0 _) rfl rfl (by decide) (List.mem_cons_of_mem _ gw_514) rfl rfl dJ0_equals_9ea2d_26 ?_
  refine lv_aload_n C.1 C.2.1 dJ0_equals_9ea2d_29 rfl (lv_at hl 0 rfl) ?_
  refine x_get (v := .int 0) C w 1 0 1 (xin_J0 _) rfl rfl (by decide) (List.mem_cons_of_mem _ gw_514) rfl rfl dJ0_equals_9ea2d_30 ?_
  refine lv_icmp_ne (tgt := 54) C.1 C.2.1 dJ0_equals_9ea2d_33 (by decide) (fun c9 => absurd (by decide) c9) (fun _ => ?_)
  refine lv_aload_n C.1 C.2.1 dJ0_equals_9ea2d_36 rfl (lv_at hl 1 rfl) ?_
  refine x_get (v := .ref h2) C w 0 0 0 (xin_J0 _) rfl rfl (by decide) (List.mem_cons_of_mem _ gw_530) rfl rfl dJ0_equals_9ea2d_37 ?_
  refine lv_aload_n C.1 C.2.1 dJ0_equals_9ea2d_40 rfl (lv_at hl 0 rfl) ?_
  refine x_get (v := .ref h3) C w 1 0 0 (xin_J0 _) rfl rfl (by decide) (List.mem_cons_of_mem _ gw_530) rfl rfl dJ0_equals_9ea2d_41 ?_
  refine x_ki C w [2, 3] [0, 1] rfl rfl (by decide) (by decide) (va_runS (As := [.ref h2, .ref h3]) (rest := []) (xfix C) (c290_J1_equals_b5fdf l G cy sa sv h2 h3 (xtr C) _) (va_cwS 2 (xhts C) (xgS gw_560 gw_561 gw_559 gc_J1_equals_b5fdf) rfl rfl rfl (by decide +kernel) ⟨(Nat.le_of_ble_eq_true rfl), (Nat.le_of_ble_eq_true rfl)⟩) (xPS C w [2, 3] rfl (by decide)) rfl rfl hl.1 rfl (lv_room (Nat.le_of_ble_eq_true rfl)) dJ0_equals_9ea2d_44 ⟨(Nat.le_of_ble_eq_true rfl), (Nat.le_of_ble_eq_true rfl)⟩) (fun f1665 H locs w => ?_)
  have w : xW G A s [(h0, .inr (0, [.ref h2, .int 0, .int 0, .int 0])), (h1, .inr (0, [.ref h3, .int 0, .int 0, .int 0])), (h2, .inl (cy 0, 2, .inl (va_cpy (upd (upd (fun _ => 0) 0 123) 1 125) (fun _ => 0) 0 0 2))), (h3, .inl (cy 0, 2, .inl (va_cpy (va_cpy (fun j => ([125] : List Int32).getD j 0) (va_cpy (fun j => ([] : List Int32).getD j 0) (va_cpy (fun j => ([123] : List Int32).getD j 0) (fun _ => 0) 0 0 1) 0 1 0) 0 1 1) (fun _ => 0) 0 0 2)))] H _ := w
  refine lv_if_eq (tgt := 54) C.1 C.2.1 dJ0_equals_9ea2d_47 (by decide) (fun c9 => absurd c9 (by decide)) (fun _ => ?_)
  refine lv_iconst (v := 1) C.1 C.2.1 dJ0_equals_9ea2d_50 (by decide) ?_
  refine lv_goto (tgt := 55) C.1 C.2.1 dJ0_equals_9ea2d_51 (by decide) ?_
  exact x_zret C w hr rfl (fun _ => 0) rfl rfl dJ0_equals_9ea2d_55 (Nat.le_of_ble_eq_true rfl) (Nat.le_of_ble_eq_true rfl)
set_option maxHeartbeats 4000000 in
set_option maxRecDepth 100000 in
theorem c292_X3_mixedSum (l : Launch) (G : va_G) (cy : Nat → ClassId) (sa : String → Nat → Nat) (sv : Nat → Nat) (h0 h1 h2 h3 : Nat) : xM l G cy sa sv yX3_mixedSum (Cond.code yX3_mixedSum cX3_mixedSum 3 (some .int) :: XG) { frames := 10, cells := 0, slots := 0, locals := 290 } [.ref h0] [(h0, .inr (7, [.ref h1, .ref h2])), (h1, .inr (6, [.ref h3, .int 0]))] (xQi G (fun f => [(h0, .inr (7, [.ref h1, .ref h2])), (h1, .inr (6, [.ref h3, .int 0]))]) 0) := by
  refine xof (by decide) (Nat.le_of_ble_eq_true rfl) (fun p e s m below meth c A C w hr hn ls hl => ?_)
  have hl : lv_has ls 3 [(0, .ref h0)] := hl
  refine lv_iconst (v := 0) C.1 C.2.1 dX3_mixedSum_0 (by decide) ?_
  refine lv_istore_n (lv' := [(1, .int 0), (0, .ref h0)]) C.1 C.2.1 dX3_mixedSum_1 rfl hl (by decide) rfl (fun ls hl => ?_)
  refine lv_iconst (v := 0) C.1 C.2.1 dX3_mixedSum_2 (by decide) ?_
  refine lv_istore_n (lv' := [(2, .int 0), (1, .int 0), (0, .ref h0)]) C.1 C.2.1 dX3_mixedSum_3 rfl hl (by decide) rfl (fun ls hl => ?_)
  refine lv_iload_n C.1 C.2.1 dX3_mixedSum_4 rfl (lv_at hl 0 rfl) ?_
  refine lv_aload_n C.1 C.2.1 dX3_mixedSum_5 rfl (lv_at hl 2 rfl) ?_
  refine x_ki C w [0, 1] [] rfl rfl (by decide) (by decide) (va_runV (As := []) (rest := [.int 0]) (xfix C) (c22_X3_count l G cy sa sv h0 h1 h2 h3 (xtr C) _) (cwV 0 (xhts C) (xgV (maxL := 0) (cc := ⟨#[]⟩) (ret := none) gw_648 gw_131 gw_132 gw_7 gc_X3_count) rfl rfl rfl (by decide +kernel) ⟨(Nat.le_of_ble_eq_true rfl), (Nat.le_of_ble_eq_true rfl)⟩) (xPV C w [0, 1] rfl (by decide) (ci := 7) (q0 := 0) rfl rfl) rfl rfl hl.1 rfl (lv_room (Nat.le_of_ble_eq_true rfl)) dX3_mixedSum_6 ⟨(Nat.le_of_ble_eq_true rfl), (Nat.le_of_ble_eq_true rfl)⟩) (fun f1668 H locs w => ?_)
  have w : xW G A s [(h0, .inr (7, [.ref h1, .ref h2])), (h1, .inr (6, [.ref h3, .int 0]))] H _ := w
  refine lv_icmp_ge (tgt := 32) C.1 C.2.1 dX3_mixedSum_9 (by decide) (fun _ => ?_) (fun c9 => absurd (by decide) c9)
  refine lv_iload_n C.1 C.2.1 dX3_mixedSum_32 rfl (lv_at hl 1 rfl) ?_
  exact x_iret C w hr (fun _ => 0) rfl rfl dX3_mixedSum_33 (Nat.le_of_ble_eq_true rfl) (Nat.le_of_ble_eq_true rfl)
set_option maxHeartbeats 4000000 in
set_option maxRecDepth 100000 in
theorem c293_X4_hash (l : Launch) (G : va_G) (cy : Nat → ClassId) (sa : String → Nat → Nat) (sv : Nat → Nat) (h0 h1 h2 h3 h4 h5 h6 h7 h8 h9 h10 : Nat) : xM l G cy sa sv yX4_hash (Cond.code yX4_hash cX4_hash 1 (some .int) :: XG) { frames := 11, cells := 0, slots := 0, locals := 312 } [.ref h0] [(h0, .inr (8, [.ref h1, .ref h3, .ref h4, .ref h5, .ref h6, .int 0, .ref h7, .ref h8])), (h1, .inr (7, [.ref h2, .ref h9])), (h2, .inr (6, [.ref h10, .int 0]))] (xQi G (fun f => [(h0, .inr (8, [.ref h1, .ref h3, .ref h4, .ref h5, .ref h6, .int 0, .ref h7, .ref h8])), (h1, .inr (7, [.ref h2, .ref h9])), (h2, .inr (6, [.ref h10, .int 0]))]) 0) := by
  refine xof (by decide) (Nat.le_of_ble_eq_true rfl) (fun p e s m below meth c A C w hr hn ls hl => ?_)
  have hl : lv_has ls 1 [(0, .ref h0)] := hl
  refine lv_aload_n C.1 C.2.1 dX4_hash_0 rfl (lv_at hl 0 rfl) ?_
  refine x_get (v := .ref h1) C w 0 8 0 (xin_X4 _) rfl rfl (by decide) (List.mem_cons_of_mem _ gw_24) rfl rfl dX4_hash_1 ?_
  refine x_ki C w [1, 2] [0] rfl rfl (by decide) (by decide) (va_runV (As := []) (rest := []) (xfix C) (c292_X3_mixedSum l G cy sa sv h1 h2 h9 h10 (xtr C) _) (cwV 0 (xhts C) (xgV (maxL := 0) (cc := ⟨#[]⟩) (ret := none) gw_650 gw_651 gw_652 gw_7 gc_X3_mixedSum) rfl rfl rfl (by decide +kernel) ⟨(Nat.le_of_ble_eq_true rfl), (Nat.le_of_ble_eq_true rfl)⟩) (xPV C w [1, 2] rfl (by decide) (ci := 7) (q0 := 1) rfl rfl) rfl rfl hl.1 rfl (lv_room (Nat.le_of_ble_eq_true rfl)) dX4_hash_4 ⟨(Nat.le_of_ble_eq_true rfl), (Nat.le_of_ble_eq_true rfl)⟩) (fun f1669 H locs w => ?_)
  have w : xW G A s [(h0, .inr (8, [.ref h1, .ref h3, .ref h4, .ref h5, .ref h6, .int 0, .ref h7, .ref h8])), (h1, .inr (7, [.ref h2, .ref h9])), (h2, .inr (6, [.ref h10, .int 0]))] H _ := w
  exact x_iret C w hr (fun _ => 0) rfl rfl dX4_hash_7 (Nat.le_of_ble_eq_true rfl) (Nat.le_of_ble_eq_true rfl)
set_option maxHeartbeats 4000000 in
set_option maxRecDepth 100000 in
theorem c294_X6_hashNow (l : Launch) (G : va_G) (cy : Nat → ClassId) (sa : String → Nat → Nat) (sv : Nat → Nat) (h0 h1 h2 h3 h4 h5 h6 h7 : Nat) : xM l G cy sa sv yX6_hashNow (Cond.code yX6_hashNow cX6_hashNow 3 (some .int) :: XG) { frames := 9, cells := 0, slots := 0, locals := 270 } [.ref h0] [(h0, .inr (10, [.ref h1, .ref h2, .ref h3, .ref h4, .ref h5, .ref h6, .ref h7, .int 0, .int 0])), (h1, .inr (3, [.int 0, .ref (sv 0), .int 0]))] (xQi G (fun f => [(h0, .inr (10, [.ref h1, .ref h2, .ref h3, .ref h4, .ref h5, .ref h6, .ref h7, .int 0, .int 0])), (h1, .inr (3, [.int 0, .ref (sv 0), .int 0]))]) 0) := by
  refine xof (by decide) (Nat.le_of_ble_eq_true rfl) (fun p e s m below meth c A C w hr hn ls hl => ?_)
  have hl : lv_has ls 3 [(0, .ref h0)] := hl
  refine lv_iconst (v := 0) C.1 C.2.1 dX6_hashNow_0 (by decide) ?_
  refine lv_istore_n (lv' := [(1, .int 0), (0, .ref h0)]) C.1 C.2.1 dX6_hashNow_1 rfl hl (by decide) rfl (fun ls hl => ?_)
  refine lv_iconst (v := 0) C.1 C.2.1 dX6_hashNow_2 (by decide) ?_
  refine lv_istore_n (lv' := [(2, .int 0), (1, .int 0), (0, .ref h0)]) C.1 C.2.1 dX6_hashNow_3 rfl hl (by decide) rfl (fun ls hl => ?_)
  refine lv_iload_n C.1 C.2.1 dX6_hashNow_4 rfl (lv_at hl 0 rfl) ?_
  refine lv_aload_n C.1 C.2.1 dX6_hashNow_5 rfl (lv_at hl 2 rfl) ?_
  refine x_get (v := .ref h1) C w 0 10 0 (xin_X6 _) rfl rfl (by decide) (List.mem_cons_of_mem _ gw_78) rfl rfl dX6_hashNow_6 ?_
  refine x_ki C w [1] [0] rfl rfl (by decide) (by decide) (va_runV (As := []) (rest := [.int 0]) (xfix C) (c47_Jx4a65c_size_8abf5 l G cy sa sv h1 (xtr C) _) (cwV 0 (xhts C) (xgV (maxL := 0) (cc := ⟨#[]⟩) (ret := none) gw_195 gw_196 gw_197 gw_62 gc_Jx4a65c_size_8abf5) rfl rfl rfl (by decide +kernel) ⟨(Nat.le_of_ble_eq_true rfl), (Nat.le_of_ble_eq_true rfl)⟩) (xPV C w [1] rfl (by decide) (ci := 3) (q0 := 1) rfl rfl) rfl rfl hl.1 rfl (lv_room (Nat.le_of_ble_eq_true rfl)) dX6_hashNow_9 ⟨(Nat.le_of_ble_eq_true rfl), (Nat.le_of_ble_eq_true rfl)⟩) (fun f1671 H locs w => ?_)
  have w : xW G A s [(h0, .inr (10, [.ref h1, .ref h2, .ref h3, .ref h4, .ref h5, .ref h6, .ref h7, .int 0, .int 0])), (h1, .inr (3, [.int 0, .ref (sv 0), .int 0]))] H _ := w
  refine lv_icmp_ge (tgt := 51) C.1 C.2.1 dX6_hashNow_12 (by decide) (fun _ => ?_) (fun c9 => absurd (by decide) c9)
  refine lv_iload_n C.1 C.2.1 dX6_hashNow_51 rfl (lv_at hl 1 rfl) ?_
  exact x_iret C w hr (fun _ => 0) rfl rfl dX6_hashNow_52 (Nat.le_of_ble_eq_true rfl) (Nat.le_of_ble_eq_true rfl)
set_option maxHeartbeats 4000000 in
set_option maxRecDepth 100000 in
theorem c295_X6_hash (l : Launch) (G : va_G) (cy : Nat → ClassId) (sa : String → Nat → Nat) (sv : Nat → Nat) (h0 h1 h2 h3 h4 h5 h6 h7 : Nat) : xM l G cy sa sv yX6_hash (Cond.code yX6_hash cX6_hash 1 (some .int) :: XG) { frames := 10, cells := 0, slots := 0, locals := 292 } [.ref h0] [(h0, .inr (10, [.ref h1, .ref h2, .ref h3, .ref h4, .ref h5, .ref h6, .ref h7, .int 0, .int 0])), (h1, .inr (3, [.int 0, .ref (sv 0), .int 0]))] (xQi G (fun f => [(h0, .inr (10, [.ref h1, .ref h2, .ref h3, .ref h4, .ref h5, .ref h6, .ref h7, .int 0, .int 0])), (h1, .inr (3, [.int 0, .ref (sv 0), .int 0]))]) 0) := by
  refine xof (by decide) (Nat.le_of_ble_eq_true rfl) (fun p e s m below meth c A C w hr hn ls hl => ?_)
  have hl : lv_has ls 1 [(0, .ref h0)] := hl
  refine lv_aload_n C.1 C.2.1 dX6_hash_0 rfl (lv_at hl 0 rfl) ?_
  refine lv_iconst (v := 0) C.1 C.2.1 dX6_hash_1 (by decide) ?_
  refine x_put (ty := .int) (ty0 := tyX6) C w 0 10 8 (xin_X6 _) tyX6_ok nmX6 rfl rfl (by decide) (List.mem_cons_of_mem _ gw_112) rfl rfl (by decide +kernel) rfl rfl (Nat.le_of_ble_eq_true rfl) dX6_hash_2 (fun H locs w => ?_)
  have w : xW G A s [(h0, .inr (10, [.ref h1, .ref h2, .ref h3, .ref h4, .ref h5, .ref h6, .ref h7, .int 0, .int 0])), (h1, .inr (3, [.int 0, .ref (sv 0), .int 0]))] H _ := w
  refine lv_aload_n C.1 C.2.1 dX6_hash_5 rfl (lv_at hl 0 rfl) ?_
  refine x_ki C w [0, 1] [] rfl rfl (by decide) (by decide) (va_runV (As := []) (rest := []) (xfix C) (c294_X6_hashNow l G cy sa sv h0 h1 h2 h3 h4 h5 h6 h7 (xtr C) _) (cwV 0 (xhts C) (xgV (maxL := 0) (cc := ⟨#[]⟩) (ret := none) gw_658 gw_659 gw_660 gw_58 gc_X6_hashNow) rfl rfl rfl (by decide +kernel) ⟨(Nat.le_of_ble_eq_true rfl), (Nat.le_of_ble_eq_true rfl)⟩) (xPV C w [0, 1] rfl (by decide) (ci := 10) (q0 := 0) rfl rfl) rfl rfl hl.1 rfl (lv_room (Nat.le_of_ble_eq_true rfl)) dX6_hash_6 ⟨(Nat.le_of_ble_eq_true rfl), (Nat.le_of_ble_eq_true rfl)⟩) (fun f1672 H locs w => ?_)
  have w : xW G A s [(h0, .inr (10, [.ref h1, .ref h2, .ref h3, .ref h4, .ref h5, .ref h6, .ref h7, .int 0, .int 0])), (h1, .inr (3, [.int 0, .ref (sv 0), .int 0]))] H _ := w
  exact x_iret C w hr (fun _ => 0) rfl rfl dX6_hash_9 (Nat.le_of_ble_eq_true rfl) (Nat.le_of_ble_eq_true rfl)
set_option maxHeartbeats 4000000 in
set_option maxRecDepth 100000 in
theorem c296_X3_countIn (l : Launch) (G : va_G) (cy : Nat → ClassId) (sa : String → Nat → Nat) (sv : Nat → Nat) (h0 h1 h2 h3 : Nat) (v0 v1 : Int32) : xM l G cy sa sv yX3_countIn (Cond.code yX3_countIn cX3_countIn 3 (some .int) :: XG) { frames := 11, cells := 0, slots := 0, locals := 314 } [.ref h0, .int v0, .int v1] [(h0, .inr (7, [.ref h1, .ref h2])), (h1, .inr (6, [.ref h3, .int 0]))] (xQi G (fun f => [(h0, .inr (7, [.ref h1, .ref h2])), (h1, .inr (6, [.ref h3, .int 0]))]) 0) := by
  refine xof (by decide) (Nat.le_of_ble_eq_true rfl) (fun p e s m below meth c A C w hr hn ls hl => ?_)
  have hl : lv_has ls 3 [(0, .ref h0), (1, .int v0), (2, .int v1)] := hl
  refine lv_aload_n C.1 C.2.1 dX3_countIn_0 rfl (lv_at hl 0 rfl) ?_
  refine lv_iload_n C.1 C.2.1 dX3_countIn_1 rfl (lv_at hl 2 rfl) ?_
  refine x_ki C w [0, 1] [] rfl rfl (by decide) (by decide) (va_runV (As := [.int v1]) (rest := []) (xfix C) (c153_X3_countNotAbove l G cy sa sv h0 h1 h2 h3 v1 (xtr C) _) (cwV 1 (xhts C) (xgV (maxL := 0) (cc := ⟨#[]⟩) (ret := none) gw_392 gw_309 gw_310 gw_7 gc_X3_countNotAbove) rfl rfl rfl (by decide +kernel) ⟨(Nat.le_of_ble_eq_true rfl), (Nat.le_of_ble_eq_true rfl)⟩) (xPV C w [0, 1] rfl (by decide) (ci := 7) (q0 := 0) rfl rfl) rfl rfl hl.1 rfl (lv_room (Nat.le_of_ble_eq_true rfl)) dX3_countIn_2 ⟨(Nat.le_of_ble_eq_true rfl), (Nat.le_of_ble_eq_true rfl)⟩) (fun f1680 H locs w => ?_)
  have w : xW G A s [(h0, .inr (7, [.ref h1, .ref h2])), (h1, .inr (6, [.ref h3, .int 0]))] H _ := w
  refine lv_aload_n C.1 C.2.1 dX3_countIn_5 rfl (lv_at hl 0 rfl) ?_
  refine lv_iload_n C.1 C.2.1 dX3_countIn_6 rfl (lv_at hl 1 rfl) ?_
  refine x_ki C w [0, 1] [] rfl rfl (by decide) (by decide) (va_runV (As := [.int v0]) (rest := [.int 0]) (xfix C) (c31_X3_countBelow l G cy sa sv h0 h1 h2 h3 v0 (xtr C) _) (cwV 1 (xhts C) (xgV (maxL := 0) (cc := ⟨#[]⟩) (ret := none) gw_158 gw_159 gw_160 gw_7 gc_X3_countBelow) rfl rfl rfl (by decide +kernel) ⟨(Nat.le_of_ble_eq_true rfl), (Nat.le_of_ble_eq_true rfl)⟩) (xPV C w [0, 1] rfl (by decide) (ci := 7) (q0 := 0) rfl rfl) rfl rfl hl.1 rfl (lv_room (Nat.le_of_ble_eq_true rfl)) dX3_countIn_7 ⟨(Nat.le_of_ble_eq_true rfl), (Nat.le_of_ble_eq_true rfl)⟩) (fun f1682 H locs w => ?_)
  have w : xW G A s [(h0, .inr (7, [.ref h1, .ref h2])), (h1, .inr (6, [.ref h3, .int 0]))] H _ := w
  refine lv_isub C.1 C.2.1 dX3_countIn_10 ?_
  refine x_is (y := 0) (by decide) ?_
  exact x_iret C w hr (fun _ => 0) rfl rfl dX3_countIn_11 (Nat.le_of_ble_eq_true rfl) (Nat.le_of_ble_eq_true rfl)
set_option maxHeartbeats 4000000 in
set_option maxRecDepth 100000 in
theorem c297_X4_inRange (l : Launch) (G : va_G) (cy : Nat → ClassId) (sa : String → Nat → Nat) (sv : Nat → Nat) (h0 h1 h2 h3 h4 h5 h6 h7 h8 h9 h10 : Nat) (v0 v1 : Int32) (p0 : v0 ≤ v1) : xM l G cy sa sv yX4_inRange (Cond.code yX4_inRange cX4_inRange 3 (some .int) :: XG) { frames := 12, cells := 0, slots := 0, locals := 336 } [.ref h0, .int v0, .int v1] [(h0, .inr (8, [.ref h1, .ref h3, .ref h4, .ref h5, .ref h6, .int 0, .ref h7, .ref h8])), (h1, .inr (7, [.ref h2, .ref h9])), (h2, .inr (6, [.ref h10, .int 0]))] (xQi G (fun f => [(h0, .inr (8, [.ref h1, .ref h3, .ref h4, .ref h5, .ref h6, .int 0, .ref h7, .ref h8])), (h1, .inr (7, [.ref h2, .ref h9])), (h2, .inr (6, [.ref h10, .int 0]))]) 0) := by
  refine xof (by decide) (Nat.le_of_ble_eq_true rfl) (fun p e s m below meth c A C w hr hn ls hl => ?_)
  have hl : lv_has ls 3 [(0, .ref h0), (1, .int v0), (2, .int v1)] := hl
  refine lv_iload_n C.1 C.2.1 dX4_inRange_0 rfl (lv_at hl 1 rfl) ?_
  refine lv_iload_n C.1 C.2.1 dX4_inRange_1 rfl (lv_at hl 2 rfl) ?_
  refine lv_icmp_le (tgt := 11) C.1 C.2.1 dX4_inRange_2 (by decide) (fun _ => ?_) (fun c9 => absurd p0 c9)
  refine lv_aload_n C.1 C.2.1 dX4_inRange_11 rfl (lv_at hl 0 rfl) ?_
  refine x_get (v := .ref h1) C w 0 8 0 (xin_X4 _) rfl rfl (by decide) (List.mem_cons_of_mem _ gw_24) rfl rfl dX4_inRange_12 ?_
  refine lv_iload_n C.1 C.2.1 dX4_inRange_15 rfl (lv_at hl 1 rfl) ?_
  refine lv_iload_n C.1 C.2.1 dX4_inRange_16 rfl (lv_at hl 2 rfl) ?_
  refine x_ki C w [1, 2] [0] rfl rfl (by decide) (by decide) (va_runV (As := [.int v0, .int v1]) (rest := []) (xfix C) (c296_X3_countIn l G cy sa sv h1 h2 h9 h10 v0 v1 (xtr C) _) (cwV 2 (xhts C) (xgV (maxL := 0) (cc := ⟨#[]⟩) (ret := none) gw_394 gw_395 gw_396 gw_7 gc_X3_countIn) rfl rfl rfl (by decide +kernel) ⟨(Nat.le_of_ble_eq_true rfl), (Nat.le_of_ble_eq_true rfl)⟩) (xPV C w [1, 2] rfl (by decide) (ci := 7) (q0 := 1) rfl rfl) rfl rfl hl.1 rfl (lv_room (Nat.le_of_ble_eq_true rfl)) dX4_inRange_17 ⟨(Nat.le_of_ble_eq_true rfl), (Nat.le_of_ble_eq_true rfl)⟩) (fun f1683 H locs w => ?_)
  have w : xW G A s [(h0, .inr (8, [.ref h1, .ref h3, .ref h4, .ref h5, .ref h6, .int 0, .ref h7, .ref h8])), (h1, .inr (7, [.ref h2, .ref h9])), (h2, .inr (6, [.ref h10, .int 0]))] H _ := w
  exact x_iret C w hr (fun _ => 0) rfl rfl dX4_inRange_20 (Nat.le_of_ble_eq_true rfl) (Nat.le_of_ble_eq_true rfl)
set_option maxHeartbeats 4000000 in
set_option maxRecDepth 100000 in
theorem c298_X6_range (l : Launch) (G : va_G) (cy : Nat → ClassId) (sa : String → Nat → Nat) (sv : Nat → Nat) (h0 h1 h2 h3 h4 h5 h6 h7 : Nat) (v0 v1 : Int32) : xM l G cy sa sv yX6_range (Cond.code yX6_range cX6_range 5 (some (.object "java/util/ArrayList")) :: XG) { frames := 11, cells := 1, slots := 3, locals := 310 } [.ref h0, .int v0, .int v1] [(h0, .inr (10, [.ref h1, .ref h2, .ref h3, .ref h4, .ref h5, .ref h6, .ref h7, .int 0, .int 0])), (h1, .inr (3, [.int 0, .ref (sv 0), .int 0]))] (xQr G (fun f => [(h0, .inr (10, [.ref h1, .ref h2, .ref h3, .ref h4, .ref h5, .ref h6, .ref h7, .int 0, .int 0])), (h1, .inr (3, [.int 0, .ref (sv 0), .int 0])), ((f 0), .inr (3, [.int 0, .ref (sv 0), .int 0]))]) (fun f => (f 0))) := by
  refine xof (by decide) (Nat.le_of_ble_eq_true rfl) (fun p e s m below meth c A C w hr hn ls hl => ?_)
  have hl : lv_has ls 5 [(0, .ref h0), (1, .int v0), (2, .int v1)] := hl
  refine x_new (fs := [.int 0, .null, .int 0]) (ty0 := tyJx4a65c) C w 3 (xin_Jx4a65c _) tyJx4a65c_ok rfl (List.mem_cons_of_mem _ gw_60) (List.mem_cons_of_mem _ gw_61) (List.mem_cons_of_mem _ gw_62) (fun j hj => by rcases (show j = 0 ∨ j = 1 ∨ j = 2 by omega) with rfl | rfl | rfl <;> rfl) (Nat.le_of_ble_eq_true rfl) (Nat.le_of_ble_eq_true rfl) dX6_range_0 (fun q1689 H w => ?_)
  have w : xW G A s [(h0, .inr (10, [.ref h1, .ref h2, .ref h3, .ref h4, .ref h5, .ref h6, .ref h7, .int 0, .int 0])), (h1, .inr (3, [.int 0, .ref (sv 0), .int 0])), (q1689, .inr (3, [.int 0, .null, .int 0]))] H _ := w
  refine W.widen (k := 1) (n := 3) (Nat.le_of_ble_eq_true rfl) (Nat.le_of_ble_eq_true rfl) ?_
  refine lv_dup C.1 C.2.1 dX6_range_3 rfl ?_
  refine x_kv C w [2] [0, 1] rfl rfl (by decide) (by decide) (va_runI (As := []) (rest := [.ref q1689]) (xfix C) (c10_Jx4a65c_init_da8c8 l G cy sa sv q1689 (xtr C) _) (cwI 0 (xhts C) (xgI gc_Jx4a65c_init_da8c8) rfl rfl rfl (xhts C _ (List.mem_cons_of_mem _ gw_62)) (xhts C _ (List.mem_cons_of_mem _ gw_76)) (xhts C _ (List.mem_cons_of_mem _ gw_77)) rfl (by decide +kernel) ⟨(Nat.le_of_ble_eq_true rfl), (Nat.le_of_ble_eq_true rfl)⟩) (xPS C w [2] rfl (by decide)) rfl rfl hl.1 rfl (lv_room (Nat.le_of_ble_eq_true rfl)) dX6_range_4 ⟨(Nat.le_of_ble_eq_true rfl), (Nat.le_of_ble_eq_true rfl)⟩) (fun f1692 H locs w => ?_)
  have w : xW G A s [(h0, .inr (10, [.ref h1, .ref h2, .ref h3, .ref h4, .ref h5, .ref h6, .ref h7, .int 0, .int 0])), (h1, .inr (3, [.int 0, .ref (sv 0), .int 0])), (q1689, .inr (3, [.int 0, .ref (sv 0), .int 0]))] H _ := w
  refine lv_astore_n (lv' := [(3, .ref q1689), (0, .ref h0), (1, .int v0), (2, .int v1)]) C.1 C.2.1 dX6_range_7 rfl hl (by decide) rfl (fun ls hl => ?_)
  refine lv_iconst (v := 0) C.1 C.2.1 dX6_range_8 (by decide) ?_
  refine lv_istore (lv' := [(4, .int 0), (3, .ref q1689), (0, .ref h0), (1, .int v0), (2, .int v1)]) C.1 C.2.1 dX6_range_9 hl (by decide) rfl (fun ls hl => ?_)
  refine lv_iload C.1 C.2.1 dX6_range_11 (lv_at hl 0 rfl) ?_
  refine lv_aload_n C.1 C.2.1 dX6_range_13 rfl (lv_at hl 2 rfl) ?_
  refine x_get (v := .ref h1) C w 0 10 0 (xin_X6 _) rfl rfl (by decide) (List.mem_cons_of_mem _ gw_78) rfl rfl dX6_range_14 ?_
  refine x_ki C w [1] [0, 2] rfl rfl (by decide) (by decide) (va_runV (As := []) (rest := [.int 0]) (xfix C) (c47_Jx4a65c_size_8abf5 l G cy sa sv h1 (xtr C) _) (cwV 0 (xhts C) (xgV (maxL := 0) (cc := ⟨#[]⟩) (ret := none) gw_195 gw_196 gw_197 gw_62 gc_Jx4a65c_size_8abf5) rfl rfl rfl (by decide +kernel) ⟨(Nat.le_of_ble_eq_true rfl), (Nat.le_of_ble_eq_true rfl)⟩) (xPV C w [1] rfl (by decide) (ci := 3) (q0 := 1) rfl rfl) rfl rfl hl.1 rfl (lv_room (Nat.le_of_ble_eq_true rfl)) dX6_range_17 ⟨(Nat.le_of_ble_eq_true rfl), (Nat.le_of_ble_eq_true rfl)⟩) (fun f1693 H locs w => ?_)
  have w : xW G A s [(h0, .inr (10, [.ref h1, .ref h2, .ref h3, .ref h4, .ref h5, .ref h6, .ref h7, .int 0, .int 0])), (q1689, .inr (3, [.int 0, .ref (sv 0), .int 0])), (h1, .inr (3, [.int 0, .ref (sv 0), .int 0]))] H _ := w
  refine lv_icmp_ge (tgt := 82) C.1 C.2.1 dX6_range_20 (by decide) (fun _ => ?_) (fun c9 => absurd (by decide) c9)
  refine lv_aload_n C.1 C.2.1 dX6_range_82 rfl (lv_at hl 1 rfl) ?_
  have w := w.sub (ws' := [(h0, .inr (10, [.ref h1, .ref h2, .ref h3, .ref h4, .ref h5, .ref h6, .ref h7, .int 0, .int 0])), (h1, .inr (3, [.int 0, .ref (sv 0), .int 0])), (q1689, .inr (3, [.int 0, .ref (sv 0), .int 0]))]) [0, 2, 1] (by decide) rfl rfl
  exact x_aret C w hr (Or.inl ⟨_, rfl⟩) (fun k => match k with | 0 => q1689 | _ => 0) rfl rfl dX6_range_83 (Nat.le_of_ble_eq_true rfl) (Nat.le_of_ble_eq_true rfl)
set_option maxHeartbeats 4000000 in
set_option maxRecDepth 100000 in
theorem c299_X6_inRange (l : Launch) (G : va_G) (cy : Nat → ClassId) (sa : String → Nat → Nat) (sv : Nat → Nat) (h0 h1 h2 h3 h4 h5 h6 h7 : Nat) (v0 v1 : Int32) (p0 : v0 ≤ v1) : xM l G cy sa sv yX6_inRange (Cond.code yX6_inRange cX6_inRange 3 (some .int) :: XG) { frames := 12, cells := 1, slots := 3, locals := 334 } [.ref h0, .int v0, .int v1] [(h0, .inr (10, [.ref h1, .ref h2, .ref h3, .ref h4, .ref h5, .ref h6, .ref h7, .int 0, .int 0])), (h1, .inr (3, [.int 0, .ref (sv 0), .int 0]))] (xQi G (fun f => [(h0, .inr (10, [.ref h1, .ref h2, .ref h3, .ref h4, .ref h5, .ref h6, .ref h7, .int 0, .int 0])), (h1, .inr (3, [.int 0, .ref (sv 0), .int 0]))]) 0) := by
  refine xof (by decide) (Nat.le_of_ble_eq_true rfl) (fun p e s m below meth c A C w hr hn ls hl => ?_)
  have hl : lv_has ls 3 [(0, .ref h0), (1, .int v0), (2, .int v1)] := hl
  refine lv_aload_n C.1 C.2.1 dX6_inRange_0 rfl (lv_at hl 0 rfl) ?_
  refine lv_iconst (v := 0) C.1 C.2.1 dX6_inRange_1 (by decide) ?_
  refine x_put (ty := .int) (ty0 := tyX6) C w 0 10 8 (xin_X6 _) tyX6_ok nmX6 rfl rfl (by decide) (List.mem_cons_of_mem _ gw_112) rfl rfl (by decide +kernel) rfl rfl (Nat.le_of_ble_eq_true rfl) dX6_inRange_2 (fun H locs w => ?_)
  have w : xW G A s [(h0, .inr (10, [.ref h1, .ref h2, .ref h3, .ref h4, .ref h5, .ref h6, .ref h7, .int 0, .int 0])), (h1, .inr (3, [.int 0, .ref (sv 0), .int 0]))] H _ := w
  refine lv_iload_n C.1 C.2.1 dX6_inRange_5 rfl (lv_at hl 1 rfl) ?_
  refine lv_iload_n C.1 C.2.1 dX6_inRange_6 rfl (lv_at hl 2 rfl) ?_
  refine lv_icmp_le (tgt := 16) C.1 C.2.1 dX6_inRange_7 (by decide) (fun _ => ?_) (fun c9 => absurd p0 c9)
  refine lv_aload_n C.1 C.2.1 dX6_inRange_16 rfl (lv_at hl 0 rfl) ?_
  refine lv_iload_n C.1 C.2.1 dX6_inRange_17 rfl (lv_at hl 1 rfl) ?_
  refine lv_iload_n C.1 C.2.1 dX6_inRange_18 rfl (lv_at hl 2 rfl) ?_
  refine x_kr C w [0, 1] [] rfl rfl (by decide) (by decide) (va_runV (As := [.int v0, .int v1]) (rest := []) (xfix C) (c298_X6_range l G cy sa sv h0 h1 h2 h3 h4 h5 h6 h7 v0 v1 (xtr C) _) (cwV 2 (xhts C) (xgV (maxL := 0) (cc := ⟨#[]⟩) (ret := none) gw_670 gw_671 gw_672 gw_58 gc_X6_range) rfl rfl rfl (by decide +kernel) ⟨(Nat.le_of_ble_eq_true rfl), (Nat.le_of_ble_eq_true rfl)⟩) (xPV C w [0, 1] rfl (by decide) (ci := 10) (q0 := 0) rfl rfl) rfl rfl hl.1 rfl (lv_room (Nat.le_of_ble_eq_true rfl)) dX6_inRange_19 ⟨(Nat.le_of_ble_eq_true rfl), (Nat.le_of_ble_eq_true rfl)⟩) (fun f1695 H locs w => ?_)
  have w : xW G A s [(h0, .inr (10, [.ref h1, .ref h2, .ref h3, .ref h4, .ref h5, .ref h6, .ref h7, .int 0, .int 0])), (h1, .inr (3, [.int 0, .ref (sv 0), .int 0])), ((f1695 0), .inr (3, [.int 0, .ref (sv 0), .int 0]))] H _ := w
  refine W.widen (k := 1) (n := 3) (Nat.le_of_ble_eq_true rfl) (Nat.le_of_ble_eq_true rfl) ?_
  refine x_ki C w [2] [0, 1] rfl rfl (by decide) (by decide) (va_runV (As := []) (rest := []) (xfix C) (c47_Jx4a65c_size_8abf5 l G cy sa sv (f1695 0) (xtr C) _) (cwV 0 (xhts C) (xgV (maxL := 0) (cc := ⟨#[]⟩) (ret := none) gw_195 gw_196 gw_197 gw_62 gc_Jx4a65c_size_8abf5) rfl rfl rfl (by decide +kernel) ⟨(Nat.le_of_ble_eq_true rfl), (Nat.le_of_ble_eq_true rfl)⟩) (xPV C w [2] rfl (by decide) (ci := 3) (q0 := 2) rfl rfl) rfl rfl hl.1 rfl (lv_room (Nat.le_of_ble_eq_true rfl)) dX6_inRange_22 ⟨(Nat.le_of_ble_eq_true rfl), (Nat.le_of_ble_eq_true rfl)⟩) (fun f1696 H locs w => ?_)
  have w : xW G A s [(h0, .inr (10, [.ref h1, .ref h2, .ref h3, .ref h4, .ref h5, .ref h6, .ref h7, .int 0, .int 0])), (h1, .inr (3, [.int 0, .ref (sv 0), .int 0])), ((f1695 0), .inr (3, [.int 0, .ref (sv 0), .int 0]))] H _ := w
  have w := w.sub (ws' := [(h0, .inr (10, [.ref h1, .ref h2, .ref h3, .ref h4, .ref h5, .ref h6, .ref h7, .int 0, .int 0])), (h1, .inr (3, [.int 0, .ref (sv 0), .int 0]))]) [0, 1] (by decide) rfl rfl
  exact x_iret C w hr (fun _ => 0) rfl rfl dX6_inRange_25 (Nat.le_of_ble_eq_true rfl) (Nat.le_of_ble_eq_true rfl)
set_option maxHeartbeats 4000000 in
set_option maxRecDepth 100000 in
theorem c300_X4_inRange (l : Launch) (G : va_G) (cy : Nat → ClassId) (sa : String → Nat → Nat) (sv : Nat → Nat) (h0 : Nat) (v0 v1 : Int32) (p0 : ¬ v0 ≤ v1) : xM l G cy sa sv yX4_inRange (Cond.code yX4_inRange cX4_inRange 3 (some .int) :: XG) { frames := 8, cells := 0, slots := 0, locals := 250 } [.ref h0, .int v0, .int v1] [] (xQi G (fun f => []) (-9999)) := by
  refine xof (by decide) (Nat.le_of_ble_eq_true rfl) (fun p e s m below meth c A C w hr hn ls hl => ?_)
  have hl : lv_has ls 3 [(0, .ref h0), (1, .int v0), (2, .int v1)] := hl
  refine lv_iload_n C.1 C.2.1 dX4_inRange_0 rfl (lv_at hl 1 rfl) ?_
  refine lv_iload_n C.1 C.2.1 dX4_inRange_1 rfl (lv_at hl 2 rfl) ?_
  refine lv_icmp_le (tgt := 11) C.1 C.2.1 dX4_inRange_2 (by decide) (fun c9 => absurd c9 p0) (fun _ => ?_)
  refine lv_sipush (v := (-9999)) C.1 C.2.1 dX4_inRange_5 (by decide) ?_
  refine lv_goto (tgt := 20) C.1 C.2.1 dX4_inRange_8 (by decide) ?_
  exact x_iret C w hr (fun _ => 0) rfl rfl dX4_inRange_20 (Nat.le_of_ble_eq_true rfl) (Nat.le_of_ble_eq_true rfl)
set_option maxHeartbeats 4000000 in
set_option maxRecDepth 100000 in
theorem c301_X6_inRange (l : Launch) (G : va_G) (cy : Nat → ClassId) (sa : String → Nat → Nat) (sv : Nat → Nat) (h0 h1 h2 h3 h4 h5 h6 h7 : Nat) (v0 v1 : Int32) (p0 : ¬ v0 ≤ v1) : xM l G cy sa sv yX6_inRange (Cond.code yX6_inRange cX6_inRange 3 (some .int) :: XG) { frames := 8, cells := 0, slots := 0, locals := 250 } [.ref h0, .int v0, .int v1] [(h0, .inr (10, [.ref h1, .ref h2, .ref h3, .ref h4, .ref h5, .ref h6, .ref h7, .int 0, .int 0]))] (xQi G (fun f => [(h0, .inr (10, [.ref h1, .ref h2, .ref h3, .ref h4, .ref h5, .ref h6, .ref h7, .int 0, .int 0]))]) (-9999)) := by
  refine xof (by decide) (Nat.le_of_ble_eq_true rfl) (fun p e s m below meth c A C w hr hn ls hl => ?_)
  have hl : lv_has ls 3 [(0, .ref h0), (1, .int v0), (2, .int v1)] := hl
  refine lv_aload_n C.1 C.2.1 dX6_inRange_0 rfl (lv_at hl 0 rfl) ?_
  refine lv_iconst (v := 0) C.1 C.2.1 dX6_inRange_1 (by decide) ?_
  refine x_put (ty := .int) (ty0 := tyX6) C w 0 10 8 (xin_X6 _) tyX6_ok nmX6 rfl rfl (by decide) (List.mem_cons_of_mem _ gw_112) rfl rfl (by decide +kernel) rfl rfl (Nat.le_of_ble_eq_true rfl) dX6_inRange_2 (fun H locs w => ?_)
  have w : xW G A s [(h0, .inr (10, [.ref h1, .ref h2, .ref h3, .ref h4, .ref h5, .ref h6, .ref h7, .int 0, .int 0]))] H _ := w
  refine lv_iload_n C.1 C.2.1 dX6_inRange_5 rfl (lv_at hl 1 rfl) ?_
  refine lv_iload_n C.1 C.2.1 dX6_inRange_6 rfl (lv_at hl 2 rfl) ?_
  refine lv_icmp_le (tgt := 16) C.1 C.2.1 dX6_inRange_7 (by decide) (fun c9 => absurd c9 p0) (fun _ => ?_)
  refine lv_sipush (v := (-9999)) C.1 C.2.1 dX6_inRange_10 (by decide) ?_
  refine lv_goto (tgt := 25) C.1 C.2.1 dX6_inRange_13 (by decide) ?_
  exact x_iret C w hr (fun _ => 0) rfl rfl dX6_inRange_25 (Nat.le_of_ble_eq_true rfl) (Nat.le_of_ble_eq_true rfl)
set_option maxHeartbeats 4000000 in
set_option maxRecDepth 100000 in
theorem c302_X4_checkRange (l : Launch) (G : va_G) (cy : Nat → ClassId) (sa : String → Nat → Nat) (sv : Nat → Nat) (v0 v1 : Int32) (p0 : v0 ≤ v1) : xM l G cy sa sv yX4_checkRange (Cond.code yX4_checkRange cX4_checkRange 2 none :: XG) { frames := 8, cells := 0, slots := 0, locals := 250 } [.int v0, .int v1] [] (xQv G (fun f => [])) := by
  refine xof (by decide) (Nat.le_of_ble_eq_true rfl) (fun p e s m below meth c A C w hr hn ls hl => ?_)
  have hl : lv_has ls 2 [(0, .int v0), (1, .int v1)] := hl
  refine lv_iload_n C.1 C.2.1 dX4_checkRange_0 rfl (lv_at hl 0 rfl) ?_
  refine lv_iload_n C.1 C.2.1 dX4_checkRange_1 rfl (lv_at hl 1 rfl) ?_
  refine lv_icmp_le (tgt := 16) C.1 C.2.1 dX4_checkRange_2 (by decide) (fun _ => ?_) (fun c9 => absurd p0 c9)
  exact x_vret C w hr (fun _ => 0) rfl dX4_checkRange_16 (Nat.le_of_ble_eq_true rfl) (Nat.le_of_ble_eq_true rfl)
set_option maxHeartbeats 4000000 in
set_option maxRecDepth 100000 in
theorem c303_X4_rangeEnd (l : Launch) (G : va_G) (cy : Nat → ClassId) (sa : String → Nat → Nat) (sv : Nat → Nat) (h0 h1 h2 h3 h4 h5 h6 h7 h8 h9 h10 : Nat) (v0 v1 : Int32) (p0 : v0 ≤ v1) : xX l G cy sa sv yX4_rangeEnd (Cond.code yX4_rangeEnd cX4_rangeEnd 4 (some .int) :: XG) { frames := 12, cells := 1, slots := 6, locals := 336 } [.ref h0, .int v0, .int v1, .int 0] [(h0, .inr (8, [.ref h1, .ref h3, .ref h4, .ref h5, .ref h6, .int 0, .ref h7, .ref h8])), (h1, .inr (7, [.ref h2, .ref h9])), (h2, .inr (6, [.ref h10, .int 0]))] (fun f => [(h0, .inr (8, [.ref h1, .ref h3, .ref h4, .ref h5, .ref h6, .int 0, .ref h7, .ref h8])), (h1, .inr (7, [.ref h2, .ref h9])), (h2, .inr (6, [.ref h10, .int 0]))]) "java/lang/IllegalStateException" := by
  refine xofX (by decide) (Nat.le_of_ble_eq_true rfl) (fun p e s m below meth c A C w hno ls hl => ?_)
  have hl : lv_has ls 4 [(0, .ref h0), (1, .int v0), (2, .int v1), (3, .int 0)] := hl
  refine lv_iload_n C.1 C.2.1 dX4_rangeEnd_0 rfl (lv_at hl 1 rfl) ?_
  refine lv_iload_n C.1 C.2.1 dX4_rangeEnd_1 rfl (lv_at hl 2 rfl) ?_
  refine x_kv C w [] [0, 1, 2] rfl rfl (by decide) (by decide) (va_runS (As := [.int v0, .int v1]) (rest := []) (xfix C) (c302_X4_checkRange l G cy sa sv v0 v1 p0 (xtr C) _) (va_cwS 2 (xhts C) (xgS gw_390 gw_391 gw_2 gc_X4_checkRange) rfl rfl rfl (by decide +kernel) ⟨(Nat.le_of_ble_eq_true rfl), (Nat.le_of_ble_eq_true rfl)⟩) (xPS C w [] rfl (by decide)) rfl rfl hl.1 rfl (lv_room (Nat.le_of_ble_eq_true rfl)) dX4_rangeEnd_2 ⟨(Nat.le_of_ble_eq_true rfl), (Nat.le_of_ble_eq_true rfl)⟩) (fun f1708 H locs w => ?_)
  have w : xW G A s [(h0, .inr (8, [.ref h1, .ref h3, .ref h4, .ref h5, .ref h6, .int 0, .ref h7, .ref h8])), (h1, .inr (7, [.ref h2, .ref h9])), (h2, .inr (6, [.ref h10, .int 0]))] H _ := w
  refine lv_aload_n C.1 C.2.1 dX4_rangeEnd_5 rfl (lv_at hl 0 rfl) ?_
  refine x_get (v := .ref h1) C w 0 8 0 (xin_X4 _) rfl rfl (by decide) (List.mem_cons_of_mem _ gw_24) rfl rfl dX4_rangeEnd_6 ?_
  refine lv_iload_n C.1 C.2.1 dX4_rangeEnd_9 rfl (lv_at hl 1 rfl) ?_
  refine lv_iload_n C.1 C.2.1 dX4_rangeEnd_10 rfl (lv_at hl 2 rfl) ?_
  refine x_ki C w [1, 2] [0] rfl rfl (by decide) (by decide) (va_runV (As := [.int v0, .int v1]) (rest := []) (xfix C) (c296_X3_countIn l G cy sa sv h1 h2 h9 h10 v0 v1 (xtr C) _) (cwV 2 (xhts C) (xgV (maxL := 0) (cc := ⟨#[]⟩) (ret := none) gw_394 gw_395 gw_396 gw_7 gc_X3_countIn) rfl rfl rfl (by decide +kernel) ⟨(Nat.le_of_ble_eq_true rfl), (Nat.le_of_ble_eq_true rfl)⟩) (xPV C w [1, 2] rfl (by decide) (ci := 7) (q0 := 1) rfl rfl) rfl rfl hl.1 rfl (lv_room (Nat.le_of_ble_eq_true rfl)) dX4_rangeEnd_11 ⟨(Nat.le_of_ble_eq_true rfl), (Nat.le_of_ble_eq_true rfl)⟩) (fun f1716 H locs w => ?_)
  have w : xW G A s [(h0, .inr (8, [.ref h1, .ref h3, .ref h4, .ref h5, .ref h6, .int 0, .ref h7, .ref h8])), (h1, .inr (7, [.ref h2, .ref h9])), (h2, .inr (6, [.ref h10, .int 0]))] H _ := w
  refine lv_if_ne (tgt := 27) C.1 C.2.1 dX4_rangeEnd_14 (by decide) (fun c9 => absurd (by decide) c9) (fun _ => ?_)
  exact x_thr C w hno hl.1 (by decide) (List.mem_cons_of_mem _ gw_397) (List.mem_cons_of_mem _ gw_398) (tx := "there is no such key") (List.mem_of_getElem? (i := 1) rfl) (xat_161 C (fun w h => List.mem_cons_of_mem _ h)) xatg_161 dX4_rangeEnd_17 dX4_rangeEnd_20 dX4_rangeEnd_21 dX4_rangeEnd_23 dX4_rangeEnd_26 (Nat.le_of_ble_eq_true rfl) (Nat.le_of_ble_eq_true rfl) (Nat.le_of_ble_eq_true rfl) (Nat.le_of_ble_eq_true rfl) rfl rfl (fun _ => 0) rfl
set_option maxHeartbeats 4000000 in
set_option maxRecDepth 100000 in
theorem c304_L_rangeEnd (l : Launch) (G : va_G) (cy : Nat → ClassId) (sa : String → Nat → Nat) (sv : Nat → Nat) (h0 h1 h2 h3 h4 h5 h6 h7 h8 h9 h10 h11 : Nat) (v0 v1 : Int32) (p0 : v0 ≤ v1) : xM l G cy sa sv yL_rangeEnd (Cond.codeWith yL_rangeEnd cL_rangeEnd 6 (some .int) [(0, 13, 16, 19), (0, 13, 20, 21)] :: XG) { frames := 13, cells := 1, slots := 6, locals := 359 } [.ref h0, .int v0, .int v1, .int 0, .ref h1] [(h0, .inr (8, [.ref h2, .ref h4, .ref h5, .ref h6, .ref h7, .int 0, .ref h8, .ref h9])), (h2, .inr (7, [.ref h3, .ref h10])), (h3, .inr (6, [.ref h11, .int 0]))] (xQi G (fun f => [(h0, .inr (8, [.ref h2, .ref h4, .ref h5, .ref h6, .ref h7, .int 0, .ref h8, .ref h9])), (h2, .inr (7, [.ref h3, .ref h10])), (h3, .inr (6, [.ref h11, .int 0]))]) 2) := by
  refine xofH (by decide) (Nat.le_of_ble_eq_true rfl) (fun p e s m below meth c A C w hr hn hT ls hl => ?_)
  have hl : lv_has ls 6 [(0, .ref h0), (1, .int v0), (2, .int v1), (3, .int 0), (4, .ref h1)] := hl
  refine lv_aload C.1 C.2.1 dL_rangeEnd_0 (lv_at hl 4 rfl) ?_
  refine lv_aload_n C.1 C.2.1 dL_rangeEnd_2 rfl (lv_at hl 0 rfl) ?_
  refine lv_iload_n C.1 C.2.1 dL_rangeEnd_3 rfl (lv_at hl 1 rfl) ?_
  refine lv_iload_n C.1 C.2.1 dL_rangeEnd_4 rfl (lv_at hl 2 rfl) ?_
  refine lv_iload_n C.1 C.2.1 dL_rangeEnd_5 rfl (lv_at hl 3 rfl) ?_
  refine x_kx C w [0, 1, 2] [] rfl rfl (by decide) (by decide) (vx_runV (As := [.int v0, .int v1, .int 0]) (rest := [.ref h1]) (xfix C) (c303_X4_rangeEnd l G cy sa sv h0 h2 h3 h4 h5 h6 h7 h8 h9 h10 h11 v0 v1 p0 (xtr C) _) (cwV 3 (xhts C) (xgV (maxL := 0) (cc := ⟨#[]⟩) (ret := none) gw_677 gw_401 gw_402 gw_2 gc_X4_rangeEnd) rfl rfl rfl (by decide +kernel) ⟨(Nat.le_of_ble_eq_true rfl), (Nat.le_of_ble_eq_true rfl)⟩) (xPV C w [0, 1, 2] rfl (by decide) (ci := 8) (q0 := 0) rfl rfl) rfl rfl hl.1 rfl (lv_room (Nat.le_of_ble_eq_true rfl)) dL_rangeEnd_6 ⟨(Nat.le_of_ble_eq_true rfl), (Nat.le_of_ble_eq_true rfl)⟩) (fun f1717 H locs ce q9 w hce hcv hcl => ?_)
  have w : xW G A s [(h0, .inr (8, [.ref h2, .ref h4, .ref h5, .ref h6, .ref h7, .int 0, .ref h8, .ref h9])), (h2, .inr (7, [.ref h3, .ref h10])), (h3, .inr (6, [.ref h11, .int 0]))] H _ := w
  refine vx_widen (k := 1) (n := 6) (Nat.le_of_ble_eq_true rfl) (Nat.le_of_ble_eq_true rfl) ?_
  refine vx_catch (xown C) [⟨0, 13, 16, 19⟩] ⟨0, 13, 20, 21⟩ [] hT (fun z hz => Or.inr (by cases List.mem_singleton.mp hz; exact ⟨by decide, "java/lang/IllegalArgumentException", xhts C _ (List.mem_cons_of_mem _ gw_104), xs_n1 (xS C)⟩)) (by decide) (by decide) (xhts C _ (List.mem_cons_of_mem _ gw_407)) (va_any rfl (xs_c2 (xS C))) hce hcv hcl ?_
  refine lv_astore (lv' := [(5, .ref q9), (0, .ref h0), (1, .int v0), (2, .int v1), (3, .int 0), (4, .ref h1)]) C.1 C.2.1 dL_rangeEnd_20 hl (by decide) rfl (fun ls hl => ?_)
  refine lv_iconst (v := 2) C.1 C.2.1 dL_rangeEnd_22 (by decide) ?_
  exact x_iret C w hr (fun _ => 0) rfl rfl dL_rangeEnd_23 (Nat.le_of_ble_eq_true rfl) (Nat.le_of_ble_eq_true rfl)
