set_option maxHeartbeats 4000000 in
set_option maxRecDepth 100000 in
theorem c63_X6_done (l : Launch) (G : va_G) (cy : Nat → ClassId) (sa : String → Nat → Nat) (sv : Nat → Nat) (h0 h1 h2 h3 h4 h5 h6 h7 h8 : Nat) : xM l G cy sa sv yX6_done (Cond.code yX6_done cX6_done 2 (some .int) :: XG) { frames := 12, cells := 2, slots := 13, locals := 337 } [.ref h0] [(h0, .inr (10, [.ref h3, .ref h4, .ref h2, .ref h1, .ref h5, .ref h6, .ref h7, .int 0, .int 0])), (h1, .inr (3, [.int 1, .ref h8, .int 1])), (h2, .inr (3, [.int 0, .ref (sv 0), .int 0]))] (xQi G (fun f => [(h0, .inr (10, [.ref h3, .ref h4, .ref h2, .ref (f 1), .ref h5, .ref h6, .ref h7, .int 0, .int 0])), (h1, .inr (3, [.int 1, .ref h8, .int 1])), (h2, .inr (3, [.int 1, .ref (f 0), .int 1])), ((f 0), .inl (cy 4, 10, .inr (.inr (.inr (.inr (va_up (fun _ => none) 0 (some h1))))))), ((f 1), .inr (3, [.int 0, .ref (sv 0), .int 0]))]) 1) := by
  refine xof (by decide) (Nat.le_of_ble_eq_true rfl) (fun p e s m below meth c A C w hr hn ls hl => ?_)
  have hl : lv_has ls 2 [(0, .ref h0)] := hl
  refine lv_aload_n C.1 C.2.1 dX6_done_0 rfl (lv_at hl 0 rfl) ?_
  refine x_get (v := .ref h1) C w 0 10 3 (xin_X6 _) rfl rfl (by decide) (List.mem_cons_of_mem _ gw_81) rfl rfl dX6_done_1 ?_
  refine x_ki C w [1] [0, 2] rfl rfl (by decide) (by decide) (va_runV (As := []) (rest := []) (xfix C) (c60_Jx4a65c_size_8abf5 l G cy sa sv h1 h8 (xtr C) _) (cwV 0 (xhts C) (xgV (maxL := 0) (cc := ⟨#[]⟩) (ret := none) gw_195 gw_196 gw_197 gw_62 gc_Jx4a65c_size_8abf5) rfl rfl rfl (by decide +kernel) ⟨(Nat.le_of_ble_eq_true rfl), (Nat.le_of_ble_eq_true rfl)⟩) (xPV C w [1] rfl (by decide) (ci := 3) (q0 := 1) rfl rfl) rfl rfl hl.1 rfl (lv_room (Nat.le_of_ble_eq_true rfl)) dX6_done_4 ⟨(Nat.le_of_ble_eq_true rfl), (Nat.le_of_ble_eq_true rfl)⟩) (fun f437 H locs w => ?_)
  have w : xW G A s [(h0, .inr (10, [.ref h3, .ref h4, .ref h2, .ref h1, .ref h5, .ref h6, .ref h7, .int 0, .int 0])), (h2, .inr (3, [.int 0, .ref (sv 0), .int 0])), (h1, .inr (3, [.int 1, .ref h8, .int 1]))] H _ := w
  refine lv_istore_n (lv' := [(1, .int 1), (0, .ref h0)]) C.1 C.2.1 dX6_done_7 rfl hl (by decide) rfl (fun ls hl => ?_)
  refine lv_iload_n C.1 C.2.1 dX6_done_8 rfl (lv_at hl 0 rfl) ?_
  refine lv_if_le (tgt := 24) C.1 C.2.1 dX6_done_9 (by decide) (fun c9 => absurd c9 (by decide)) (fun _ => ?_)
  refine lv_aload_n C.1 C.2.1 dX6_done_12 rfl (lv_at hl 1 rfl) ?_
  refine x_get (v := .ref h2) C w 0 10 2 (xin_X6 _) rfl rfl (by decide) (List.mem_cons_of_mem _ gw_80) rfl rfl dX6_done_13 ?_
  refine lv_aload_n C.1 C.2.1 dX6_done_16 rfl (lv_at hl 1 rfl) ?_
  refine x_get (v := .ref h1) C w 0 10 3 (xin_X6 _) rfl rfl (by decide) (List.mem_cons_of_mem _ gw_81) rfl rfl dX6_done_17 ?_
  refine x_ki C w [1, 2] [0] rfl rfl (by decide) (by decide) (va_runV (As := [.ref h1]) (rest := []) (xfix C) (c62_Jx4a65c_add_9ea2d l G cy sa sv h2 h1 h8 (xtr C) _) (cwV 1 (xhts C) (xgV (maxL := 0) (cc := ⟨#[]⟩) (ret := none) gw_232 gw_233 gw_234 gw_62 gc_Jx4a65c_add_9ea2d) rfl rfl rfl (by decide +kernel) ⟨(Nat.le_of_ble_eq_true rfl), (Nat.le_of_ble_eq_true rfl)⟩) (xPV C w [1, 2] rfl (by decide) (ci := 3) (q0 := 1) rfl rfl) rfl rfl hl.1 rfl (lv_room (Nat.le_of_ble_eq_true rfl)) dX6_done_20 ⟨(Nat.le_of_ble_eq_true rfl), (Nat.le_of_ble_eq_true rfl)⟩) (fun f454 H locs w => ?_)
  have w : xW G A s [(h0, .inr (10, [.ref h3, .ref h4, .ref h2, .ref h1, .ref h5, .ref h6, .ref h7, .int 0, .int 0])), (h2, .inr (3, [.int 1, .ref (f454 0), .int 1])), (h1, .inr (3, [.int 1, .ref h8, .int 1])), ((f454 0), .inl (cy 4, 10, .inr (.inr (.inr (.inr (va_up (fun _ => none) 0 (some h1)))))))] H _ := w
  refine W.widen (k := 1) (n := 10) (Nat.le_of_ble_eq_true rfl) (Nat.le_of_ble_eq_true rfl) ?_
  refine lv_pop C.1 C.2.1 dX6_done_23 rfl ?_
  refine lv_aload_n C.1 C.2.1 dX6_done_24 rfl (lv_at hl 1 rfl) ?_
  refine x_get (v := .ref h2) C w 0 10 2 (xin_X6 _) rfl rfl (by decide) (List.mem_cons_of_mem _ gw_80) rfl rfl dX6_done_25 ?_
  refine x_ki C w [1] [0, 2, 3] rfl rfl (by decide) (by decide) (va_runV (As := []) (rest := []) (xfix C) (c60_Jx4a65c_size_8abf5 l G cy sa sv h2 (f454 0) (xtr C) _) (cwV 0 (xhts C) (xgV (maxL := 0) (cc := ⟨#[]⟩) (ret := none) gw_195 gw_196 gw_197 gw_62 gc_Jx4a65c_size_8abf5) rfl rfl rfl (by decide +kernel) ⟨(Nat.le_of_ble_eq_true rfl), (Nat.le_of_ble_eq_true rfl)⟩) (xPV C w [1] rfl (by decide) (ci := 3) (q0 := 1) rfl rfl) rfl rfl hl.1 rfl (lv_room (Nat.le_of_ble_eq_true rfl)) dX6_done_28 ⟨(Nat.le_of_ble_eq_true rfl), (Nat.le_of_ble_eq_true rfl)⟩) (fun f455 H locs w => ?_)
  have w : xW G A s [(h0, .inr (10, [.ref h3, .ref h4, .ref h2, .ref h1, .ref h5, .ref h6, .ref h7, .int 0, .int 0])), (h1, .inr (3, [.int 1, .ref h8, .int 1])), ((f454 0), .inl (cy 4, 10, .inr (.inr (.inr (.inr (va_up (fun _ => none) 0 (some h1))))))), (h2, .inr (3, [.int 1, .ref (f454 0), .int 1]))] H _ := w
  refine lv_bipush (v := 12) C.1 C.2.1 dX6_done_31 (by decide) ?_
  refine lv_icmp_le (tgt := 45) C.1 C.2.1 dX6_done_33 (by decide) (fun _ => ?_) (fun c9 => absurd (by decide) c9)
  refine lv_aload_n C.1 C.2.1 dX6_done_45 rfl (lv_at hl 1 rfl) ?_
  refine x_new (fs := [.int 0, .null, .int 0]) (ty0 := tyJx4a65c) C w 3 (xin_Jx4a65c _) tyJx4a65c_ok rfl (List.mem_cons_of_mem _ gw_60) (List.mem_cons_of_mem _ gw_61) (List.mem_cons_of_mem _ gw_62) (fun j hj => by rcases (show j = 0 ∨ j = 1 ∨ j = 2 by omega) with rfl | rfl | rfl <;> rfl) (Nat.le_of_ble_eq_true rfl) (Nat.le_of_ble_eq_true rfl) dX6_done_46 (fun q456 H w => ?_)
  have w : xW G A s [(h0, .inr (10, [.ref h3, .ref h4, .ref h2, .ref h1, .ref h5, .ref h6, .ref h7, .int 0, .int 0])), (h1, .inr (3, [.int 1, .ref h8, .int 1])), ((f454 0), .inl (cy 4, 10, .inr (.inr (.inr (.inr (va_up (fun _ => none) 0 (some h1))))))), (h2, .inr (3, [.int 1, .ref (f454 0), .int 1])), (q456, .inr (3, [.int 0, .null, .int 0]))] H _ := w
  refine W.widen (k := 2) (n := 13) (Nat.le_of_ble_eq_true rfl) (Nat.le_of_ble_eq_true rfl) ?_
  refine lv_dup C.1 C.2.1 dX6_done_49 rfl ?_
  refine x_kv C w [4] [0, 1, 2, 3] rfl rfl (by decide) (by decide) (va_runI (As := []) (rest := [.ref q456, .ref h0]) (xfix C) (c10_Jx4a65c_init_da8c8 l G cy sa sv q456 (xtr C) _) (cwI 0 (xhts C) (xgI gc_Jx4a65c_init_da8c8) rfl rfl rfl (xhts C _ (List.mem_cons_of_mem _ gw_62)) (xhts C _ (List.mem_cons_of_mem _ gw_76)) (xhts C _ (List.mem_cons_of_mem _ gw_77)) rfl (by decide +kernel) ⟨(Nat.le_of_ble_eq_true rfl), (Nat.le_of_ble_eq_true rfl)⟩) (xPS C w [4] rfl (by decide)) rfl rfl hl.1 rfl (lv_room (Nat.le_of_ble_eq_true rfl)) dX6_done_50 ⟨(Nat.le_of_ble_eq_true rfl), (Nat.le_of_ble_eq_true rfl)⟩) (fun f459 H locs w => ?_)
  have w : xW G A s [(h0, .inr (10, [.ref h3, .ref h4, .ref h2, .ref h1, .ref h5, .ref h6, .ref h7, .int 0, .int 0])), (h1, .inr (3, [.int 1, .ref h8, .int 1])), ((f454 0), .inl (cy 4, 10, .inr (.inr (.inr (.inr (va_up (fun _ => none) 0 (some h1))))))), (h2, .inr (3, [.int 1, .ref (f454 0), .int 1])), (q456, .inr (3, [.int 0, .ref (sv 0), .int 0]))] H _ := w
  refine x_put (ty := (.object "java/util/ArrayList")) (ty0 := tyX6) C w 0 10 3 (xin_X6 _) tyX6_ok nmX6 rfl rfl (by decide) (List.mem_cons_of_mem _ gw_81) rfl rfl (by decide +kernel) rfl rfl (Nat.le_of_ble_eq_true rfl) dX6_done_53 (fun H locs w => ?_)
  have w : xW G A s [(h0, .inr (10, [.ref h3, .ref h4, .ref h2, .ref q456, .ref h5, .ref h6, .ref h7, .int 0, .int 0])), (h1, .inr (3, [.int 1, .ref h8, .int 1])), ((f454 0), .inl (cy 4, 10, .inr (.inr (.inr (.inr (va_up (fun _ => none) 0 (some h1))))))), (h2, .inr (3, [.int 1, .ref (f454 0), .int 1])), (q456, .inr (3, [.int 0, .ref (sv 0), .int 0]))] H _ := w
  refine lv_iload_n C.1 C.2.1 dX6_done_56 rfl (lv_at hl 0 rfl) ?_
  have w := w.sub (ws' := [(h0, .inr (10, [.ref h3, .ref h4, .ref h2, .ref q456, .ref h5, .ref h6, .ref h7, .int 0, .int 0])), (h1, .inr (3, [.int 1, .ref h8, .int 1])), (h2, .inr (3, [.int 1, .ref (f454 0), .int 1])), ((f454 0), .inl (cy 4, 10, .inr (.inr (.inr (.inr (va_up (fun _ => none) 0 (some h1))))))), (q456, .inr (3, [.int 0, .ref (sv 0), .int 0]))]) [0, 1, 3, 2, 4] (by decide) rfl rfl
  exact x_iret C w hr (fun k => match k with | 0 => (f454 0) | 1 => q456 | _ => 0) rfl rfl dX6_done_57 (Nat.le_of_ble_eq_true rfl) (Nat.le_of_ble_eq_true rfl)
set_option maxHeartbeats 4000000 in
set_option maxRecDepth 100000 in
theorem c64_X6_putNow (l : Launch) (G : va_G) (cy : Nat → ClassId) (sa : String → Nat → Nat) (sv : Nat → Nat) (h0 h1 h2 h3 h4 h5 h6 h7 : Nat) (v0 v1 : Int32) (p0 : ¬ (-1000) = v1) : xM l G cy sa sv yX6_putNow (Cond.code yX6_putNow cX6_putNow 4 (some .int) :: XG) { frames := 14, cells := 6, slots := 37, locals := 383 } [.ref h0, .int v0, .int v1] [(h0, .inr (10, [.ref h1, .ref h4, .ref h3, .ref h2, .ref h5, .ref h6, .ref h7, .int 0, .int 0])), (h1, .inr (3, [.int 0, .ref (sv 0), .int 0])), (h2, .inr (3, [.int 0, .ref (sv 0), .int 0])), (h3, .inr (3, [.int 0, .ref (sv 0), .int 0]))] (xQi G (fun f => [(h0, .inr (10, [.ref h1, .ref h4, .ref h3, .ref (f 5), .ref h5, .ref h6, .ref h7, .int 0, .int 0])), (h1, .inr (3, [.int 1, .ref (f 3), .int 1])), (h2, .inr (3, [.int 1, .ref (f 1), .int 1])), (h3, .inr (3, [.int 1, .ref (f 4), .int 1])), ((f 0), .inl (cy 1, 2, .inl (upd (upd (fun _ => 0) 0 v0) 1 (-1000)))), ((f 1), .inl (cy 4, 10, .inr (.inr (.inr (.inr (va_up (fun _ => none) 0 (some (f 0)))))))), ((f 2), .inl (cy 1, 2, .inl (upd (upd (fun _ => 0) 0 v0) 1 v1))), ((f 3), .inl (cy 4, 10, .inr (.inr (.inr (.inr (va_up (fun _ => none) 0 (some (f 2)))))))), ((f 4), .inl (cy 4, 10, .inr (.inr (.inr (.inr (va_up (fun _ => none) 0 (some h2))))))), ((f 5), .inr (3, [.int 0, .ref (sv 0), .int 0]))]) (-1000)) := by
  refine xof (by decide) (Nat.le_of_ble_eq_true rfl) (fun p e s m below meth c A C w hr hn ls hl => ?_)
  have hl : lv_has ls 4 [(0, .ref h0), (1, .int v0), (2, .int v1)] := hl
  refine lv_aload_n C.1 C.2.1 dX6_putNow_0 rfl (lv_at hl 0 rfl) ?_
  refine x_get (v := .ref h1) C w 0 10 0 (xin_X6 _) rfl rfl (by decide) (List.mem_cons_of_mem _ gw_78) rfl rfl dX6_putNow_1 ?_
  refine lv_iload_n C.1 C.2.1 dX6_putNow_4 rfl (lv_at hl 1 rfl) ?_
  refine x_ki C w [1] [0, 2, 3] rfl rfl (by decide) (by decide) (va_runS (As := [.ref h1, .int v0]) (rest := []) (xfix C) (c51_X6_valueIn l G cy sa sv h1 v0 (xtr C) _) (va_cwS 2 (xhts C) (xgS gw_210 gw_211 gw_58 gc_X6_valueIn) rfl rfl rfl (by decide +kernel) ⟨(Nat.le_of_ble_eq_true rfl), (Nat.le_of_ble_eq_true rfl)⟩) (xPS C w [1] rfl (by decide)) rfl rfl hl.1 rfl (lv_room (Nat.le_of_ble_eq_true rfl)) dX6_putNow_5 ⟨(Nat.le_of_ble_eq_true rfl), (Nat.le_of_ble_eq_true rfl)⟩) (fun f371 H locs w => ?_)
  have w : xW G A s [(h0, .inr (10, [.ref h1, .ref h4, .ref h3, .ref h2, .ref h5, .ref h6, .ref h7, .int 0, .int 0])), (h2, .inr (3, [.int 0, .ref (sv 0), .int 0])), (h3, .inr (3, [.int 0, .ref (sv 0), .int 0])), (h1, .inr (3, [.int 0, .ref (sv 0), .int 0]))] H _ := w
  refine lv_istore_n (lv' := [(3, .int (-1000)), (0, .ref h0), (1, .int v0), (2, .int v1)]) C.1 C.2.1 dX6_putNow_8 rfl hl (by decide) rfl (fun ls hl => ?_)
  refine lv_aload_n C.1 C.2.1 dX6_putNow_9 rfl (lv_at hl 1 rfl) ?_
  refine lv_iload_n C.1 C.2.1 dX6_putNow_10 rfl (lv_at hl 2 rfl) ?_
  refine lv_iload_n C.1 C.2.1 dX6_putNow_11 rfl (lv_at hl 3 rfl) ?_
  refine x_kv C w [0, 3, 1] [2] rfl rfl (by decide) (by decide) (va_runV (As := [.int v0, .int v1]) (rest := []) (xfix C) (c59_X6_lay l G cy sa sv h0 h1 h2 h4 h3 h5 h6 h7 v0 v1 p0 (xtr C) _) (cwV 2 (xhts C) (xgV (maxL := 0) (cc := ⟨#[]⟩) (ret := none) gw_240 gw_241 gw_242 gw_58 gc_X6_lay) rfl rfl rfl (by decide +kernel) ⟨(Nat.le_of_ble_eq_true rfl), (Nat.le_of_ble_eq_true rfl)⟩) (xPV C w [0, 3, 1] rfl (by decide) (ci := 10) (q0 := 0) rfl rfl) rfl rfl hl.1 rfl (lv_room (Nat.le_of_ble_eq_true rfl)) dX6_putNow_12 ⟨(Nat.le_of_ble_eq_true rfl), (Nat.le_of_ble_eq_true rfl)⟩) (fun f432 H locs w => ?_)
  have w : xW G A s [(h3, .inr (3, [.int 0, .ref (sv 0), .int 0])), (h0, .inr (10, [.ref h1, .ref h4, .ref h3, .ref h2, .ref h5, .ref h6, .ref h7, .int 0, .int 0])), (h1, .inr (3, [.int 1, .ref (f432 3), .int 1])), (h2, .inr (3, [.int 1, .ref (f432 1), .int 1])), ((f432 0), .inl (cy 1, 2, .inl (upd (upd (fun _ => 0) 0 v0) 1 (-1000)))), ((f432 1), .inl (cy 4, 10, .inr (.inr (.inr (.inr (va_up (fun _ => none) 0 (some (f432 0)))))))), ((f432 2), .inl (cy 1, 2, .inl (upd (upd (fun _ => 0) 0 v0) 1 v1))), ((f432 3), .inl (cy 4, 10, .inr (.inr (.inr (.inr (va_up (fun _ => none) 0 (some (f432 2))))))))] H _ := w
  refine W.widen (k := 4) (n := 24) (Nat.le_of_ble_eq_true rfl) (Nat.le_of_ble_eq_true rfl) ?_
  refine lv_aload_n C.1 C.2.1 dX6_putNow_15 rfl (lv_at hl 1 rfl) ?_
  refine x_ki C w [1, 3, 0] [2, 4, 5, 6, 7] rfl rfl (by decide) (by decide) (va_runV (As := []) (rest := []) (xfix C) (c63_X6_done l G cy sa sv h0 h2 h3 h1 h4 h5 h6 h7 (f432 1) (xtr C) _) (cwV 0 (xhts C) (xgV (maxL := 0) (cc := ⟨#[]⟩) (ret := none) gw_244 gw_245 gw_246 gw_58 gc_X6_done) rfl rfl rfl (by decide +kernel) ⟨(Nat.le_of_ble_eq_true rfl), (Nat.le_of_ble_eq_true rfl)⟩) (xPV C w [1, 3, 0] rfl (by decide) (ci := 10) (q0 := 1) rfl rfl) rfl rfl hl.1 rfl (lv_room (Nat.le_of_ble_eq_true rfl)) dX6_putNow_16 ⟨(Nat.le_of_ble_eq_true rfl), (Nat.le_of_ble_eq_true rfl)⟩) (fun f462 H locs w => ?_)
  have w : xW G A s [(h1, .inr (3, [.int 1, .ref (f432 3), .int 1])), ((f432 0), .inl (cy 1, 2, .inl (upd (upd (fun _ => 0) 0 v0) 1 (-1000)))), ((f432 1), .inl (cy 4, 10, .inr (.inr (.inr (.inr (va_up (fun _ => none) 0 (some (f432 0)))))))), ((f432 2), .inl (cy 1, 2, .inl (upd (upd (fun _ => 0) 0 v0) 1 v1))), ((f432 3), .inl (cy 4, 10, .inr (.inr (.inr (.inr (va_up (fun _ => none) 0 (some (f432 2)))))))), (h0, .inr (10, [.ref h1, .ref h4, .ref h3, .ref (f462 1), .ref h5, .ref h6, .ref h7, .int 0, .int 0])), (h2, .inr (3, [.int 1, .ref (f432 1), .int 1])), (h3, .inr (3, [.int 1, .ref (f462 0), .int 1])), ((f462 0), .inl (cy 4, 10, .inr (.inr (.inr (.inr (va_up (fun _ => none) 0 (some h2))))))), ((f462 1), .inr (3, [.int 0, .ref (sv 0), .int 0]))] H _ := w
  refine W.widen (k := 6) (n := 37) (Nat.le_of_ble_eq_true rfl) (Nat.le_of_ble_eq_true rfl) ?_
  refine lv_pop C.1 C.2.1 dX6_putNow_19 rfl ?_
  refine lv_iload_n C.1 C.2.1 dX6_putNow_20 rfl (lv_at hl 0 rfl) ?_
  have w := w.sub (ws' := [(h0, .inr (10, [.ref h1, .ref h4, .ref h3, .ref (f462 1), .ref h5, .ref h6, .ref h7, .int 0, .int 0])), (h1, .inr (3, [.int 1, .ref (f432 3), .int 1])), (h2, .inr (3, [.int 1, .ref (f432 1), .int 1])), (h3, .inr (3, [.int 1, .ref (f462 0), .int 1])), ((f432 0), .inl (cy 1, 2, .inl (upd (upd (fun _ => 0) 0 v0) 1 (-1000)))), ((f432 1), .inl (cy 4, 10, .inr (.inr (.inr (.inr (va_up (fun _ => none) 0 (some (f432 0)))))))), ((f432 2), .inl (cy 1, 2, .inl (upd (upd (fun _ => 0) 0 v0) 1 v1))), ((f432 3), .inl (cy 4, 10, .inr (.inr (.inr (.inr (va_up (fun _ => none) 0 (some (f432 2)))))))), ((f462 0), .inl (cy 4, 10, .inr (.inr (.inr (.inr (va_up (fun _ => none) 0 (some h2))))))), ((f462 1), .inr (3, [.int 0, .ref (sv 0), .int 0]))]) [5, 0, 6, 7, 1, 2, 3, 4, 8, 9] (by decide) rfl rfl
  exact x_iret C w hr (fun k => match k with | 0 => (f432 0) | 1 => (f432 1) | 2 => (f432 2) | 3 => (f432 3) | 4 => (f462 0) | 5 => (f462 1) | _ => 0) rfl rfl dX6_putNow_21 (Nat.le_of_ble_eq_true rfl) (Nat.le_of_ble_eq_true rfl)
set_option maxHeartbeats 4000000 in
set_option maxRecDepth 100000 in
theorem c65_X6_put (l : Launch) (G : va_G) (cy : Nat → ClassId) (sa : String → Nat → Nat) (sv : Nat → Nat) (h0 h1 h2 h3 h4 h5 h6 h7 : Nat) (v0 v1 : Int32) (p0 : ¬ v1 < (-999)) (p1 : v1 ≤ 999) (p2 : ¬ (-1000) = v1) : xM l G cy sa sv yX6_put (Cond.code yX6_put cX6_put 3 (some .int) :: XG) { frames := 15, cells := 6, slots := 37, locals := 406 } [.ref h0, .int v0, .int v1] [(h0, .inr (10, [.ref h1, .ref h4, .ref h3, .ref h2, .ref h5, .ref h6, .ref h7, .int 0, .int 0])), (h1, .inr (3, [.int 0, .ref (sv 0), .int 0])), (h2, .inr (3, [.int 0, .ref (sv 0), .int 0])), (h3, .inr (3, [.int 0, .ref (sv 0), .int 0]))] (xQi G (fun f => [(h0, .inr (10, [.ref h1, .ref h4, .ref h3, .ref (f 5), .ref h5, .ref h6, .ref h7, .int 0, .int 0])), (h1, .inr (3, [.int 1, .ref (f 3), .int 1])), (h2, .inr (3, [.int 1, .ref (f 1), .int 1])), (h3, .inr (3, [.int 1, .ref (f 4), .int 1])), ((f 0), .inl (cy 1, 2, .inl (upd (upd (fun _ => 0) 0 v0) 1 (-1000)))), ((f 1), .inl (cy 4, 10, .inr (.inr (.inr (.inr (va_up (fun _ => none) 0 (some (f 0)))))))), ((f 2), .inl (cy 1, 2, .inl (upd (upd (fun _ => 0) 0 v0) 1 v1))), ((f 3), .inl (cy 4, 10, .inr (.inr (.inr (.inr (va_up (fun _ => none) 0 (some (f 2)))))))), ((f 4), .inl (cy 4, 10, .inr (.inr (.inr (.inr (va_up (fun _ => none) 0 (some h2))))))), ((f 5), .inr (3, [.int 0, .ref (sv 0), .int 0]))]) (-1000)) := by
  refine xof (by decide) (Nat.le_of_ble_eq_true rfl) (fun p e s m below meth c A C w hr hn ls hl => ?_)
  have hl : lv_has ls 3 [(0, .ref h0), (1, .int v0), (2, .int v1)] := hl
  refine lv_aload_n C.1 C.2.1 dX6_put_0 rfl (lv_at hl 0 rfl) ?_
  refine lv_iload_n C.1 C.2.1 dX6_put_1 rfl (lv_at hl 2 rfl) ?_
  refine x_ki C w [] [0, 1, 2, 3] rfl rfl (by decide) (by decide) (va_runS (As := [.int v1]) (rest := [.ref h0]) (xfix C) (c45_X6_isNoValue l G cy sa sv v1 p0 p1 (xtr C) _) (va_cwS 1 (xhts C) (xgS gw_110 gw_111 gw_58 gc_X6_isNoValue) rfl rfl rfl (by decide +kernel) ⟨(Nat.le_of_ble_eq_true rfl), (Nat.le_of_ble_eq_true rfl)⟩) (xPS C w [] rfl (by decide)) rfl rfl hl.1 rfl (lv_room (Nat.le_of_ble_eq_true rfl)) dX6_put_2 ⟨(Nat.le_of_ble_eq_true rfl), (Nat.le_of_ble_eq_true rfl)⟩) (fun f352 H locs w => ?_)
  have w : xW G A s [(h0, .inr (10, [.ref h1, .ref h4, .ref h3, .ref h2, .ref h5, .ref h6, .ref h7, .int 0, .int 0])), (h1, .inr (3, [.int 0, .ref (sv 0), .int 0])), (h2, .inr (3, [.int 0, .ref (sv 0), .int 0])), (h3, .inr (3, [.int 0, .ref (sv 0), .int 0]))] H _ := w
  refine lv_iconst (v := 1) C.1 C.2.1 dX6_put_5 (by decide) ?_
  refine x_ki C w [0] [1, 2, 3] rfl rfl (by decide) (by decide) (va_runV (As := [.int 0, .int 1]) (rest := []) (xfix C) (c46_X6_start l G cy sa sv h0 h1 h4 h3 h2 h5 h6 h7 (xtr C) _) (cwV 2 (xhts C) (xgV (maxL := 0) (cc := ⟨#[]⟩) (ret := none) gw_114 gw_115 gw_116 gw_58 gc_X6_start) rfl rfl rfl (by decide +kernel) ⟨(Nat.le_of_ble_eq_true rfl), (Nat.le_of_ble_eq_true rfl)⟩) (xPV C w [0] rfl (by decide) (ci := 10) (q0 := 0) rfl rfl) rfl rfl hl.1 rfl (lv_room (Nat.le_of_ble_eq_true rfl)) dX6_put_6 ⟨(Nat.le_of_ble_eq_true rfl), (Nat.le_of_ble_eq_true rfl)⟩) (fun f353 H locs w => ?_)
  have w : xW G A s [(h1, .inr (3, [.int 0, .ref (sv 0), .int 0])), (h2, .inr (3, [.int 0, .ref (sv 0), .int 0])), (h3, .inr (3, [.int 0, .ref (sv 0), .int 0])), (h0, .inr (10, [.ref h1, .ref h4, .ref h3, .ref h2, .ref h5, .ref h6, .ref h7, .int 0, .int 0]))] H _ := w
  refine lv_if_ne (tgt := 25) C.1 C.2.1 dX6_put_9 (by decide) (fun c9 => absurd (by decide) c9) (fun _ => ?_)
  refine lv_aload_n C.1 C.2.1 dX6_put_12 rfl (lv_at hl 0 rfl) ?_
  refine lv_aload_n C.1 C.2.1 dX6_put_13 rfl (lv_at hl 0 rfl) ?_
  refine lv_iload_n C.1 C.2.1 dX6_put_14 rfl (lv_at hl 1 rfl) ?_
  refine x_ki C w [3, 0] [1, 2] rfl rfl (by decide) (by decide) (va_runV (As := [.int v0]) (rest := [.ref h0]) (xfix C) (c48_X6_isFull l G cy sa sv h0 h1 h4 h3 h2 h5 h6 h7 v0 (xtr C) _) (cwV 1 (xhts C) (xgV (maxL := 0) (cc := ⟨#[]⟩) (ret := none) gw_199 gw_200 gw_201 gw_58 gc_X6_isFull) rfl rfl rfl (by decide +kernel) ⟨(Nat.le_of_ble_eq_true rfl), (Nat.le_of_ble_eq_true rfl)⟩) (xPV C w [3, 0] rfl (by decide) (ci := 10) (q0 := 3) rfl rfl) rfl rfl hl.1 rfl (lv_room (Nat.le_of_ble_eq_true rfl)) dX6_put_15 ⟨(Nat.le_of_ble_eq_true rfl), (Nat.le_of_ble_eq_true rfl)⟩) (fun f355 H locs w => ?_)
  have w : xW G A s [(h2, .inr (3, [.int 0, .ref (sv 0), .int 0])), (h3, .inr (3, [.int 0, .ref (sv 0), .int 0])), (h0, .inr (10, [.ref h1, .ref h4, .ref h3, .ref h2, .ref h5, .ref h6, .ref h7, .int 0, .int 0])), (h1, .inr (3, [.int 0, .ref (sv 0), .int 0]))] H _ := w
  refine lv_iconst (v := 2) C.1 C.2.1 dX6_put_18 (by decide) ?_
  refine x_ki C w [] [0, 1, 2, 3] rfl rfl (by decide) (by decide) (va_runV (As := [.int 0, .int 2]) (rest := []) (xfix C) (c49_X6_fails l G cy sa sv h0 (xtr C) _) (cwV 2 (xhts C) (xgV (maxL := 0) (cc := ⟨#[]⟩) (ret := none) gw_203 gw_204 gw_205 gw_58 gc_X6_fails) rfl rfl rfl (by decide +kernel) ⟨(Nat.le_of_ble_eq_true rfl), (Nat.le_of_ble_eq_true rfl)⟩) (xPV C w [] rfl (by decide) (ci := 10) (q0 := 2) rfl rfl) rfl rfl hl.1 rfl (lv_room (Nat.le_of_ble_eq_true rfl)) dX6_put_19 ⟨(Nat.le_of_ble_eq_true rfl), (Nat.le_of_ble_eq_true rfl)⟩) (fun f356 H locs w => ?_)
  have w : xW G A s [(h2, .inr (3, [.int 0, .ref (sv 0), .int 0])), (h3, .inr (3, [.int 0, .ref (sv 0), .int 0])), (h0, .inr (10, [.ref h1, .ref h4, .ref h3, .ref h2, .ref h5, .ref h6, .ref h7, .int 0, .int 0])), (h1, .inr (3, [.int 0, .ref (sv 0), .int 0]))] H _ := w
  refine lv_if_eq (tgt := 29) C.1 C.2.1 dX6_put_22 (by decide) (fun _ => ?_) (fun c9 => absurd (by decide) c9)
  refine lv_aload_n C.1 C.2.1 dX6_put_29 rfl (lv_at hl 0 rfl) ?_
  refine lv_iload_n C.1 C.2.1 dX6_put_30 rfl (lv_at hl 1 rfl) ?_
  refine lv_iload_n C.1 C.2.1 dX6_put_31 rfl (lv_at hl 2 rfl) ?_
  refine x_ki C w [2, 3, 0, 1] [] rfl rfl (by decide) (by decide) (va_runV (As := [.int v0, .int v1]) (rest := []) (xfix C) (c64_X6_putNow l G cy sa sv h0 h1 h2 h3 h4 h5 h6 h7 v0 v1 p2 (xtr C) _) (cwV 2 (xhts C) (xgV (maxL := 0) (cc := ⟨#[]⟩) (ret := none) gw_248 gw_249 gw_250 gw_58 gc_X6_putNow) rfl rfl rfl (by decide +kernel) ⟨(Nat.le_of_ble_eq_true rfl), (Nat.le_of_ble_eq_true rfl)⟩) (xPV C w [2, 3, 0, 1] rfl (by decide) (ci := 10) (q0 := 2) rfl rfl) rfl rfl hl.1 rfl (lv_room (Nat.le_of_ble_eq_true rfl)) dX6_put_32 ⟨(Nat.le_of_ble_eq_true rfl), (Nat.le_of_ble_eq_true rfl)⟩) (fun f469 H locs w => ?_)
  have w : xW G A s [(h0, .inr (10, [.ref h1, .ref h4, .ref h3, .ref (f469 5), .ref h5, .ref h6, .ref h7, .int 0, .int 0])), (h1, .inr (3, [.int 1, .ref (f469 3), .int 1])), (h2, .inr (3, [.int 1, .ref (f469 1), .int 1])), (h3, .inr (3, [.int 1, .ref (f469 4), .int 1])), ((f469 0), .inl (cy 1, 2, .inl (upd (upd (fun _ => 0) 0 v0) 1 (-1000)))), ((f469 1), .inl (cy 4, 10, .inr (.inr (.inr (.inr (va_up (fun _ => none) 0 (some (f469 0)))))))), ((f469 2), .inl (cy 1, 2, .inl (upd (upd (fun _ => 0) 0 v0) 1 v1))), ((f469 3), .inl (cy 4, 10, .inr (.inr (.inr (.inr (va_up (fun _ => none) 0 (some (f469 2)))))))), ((f469 4), .inl (cy 4, 10, .inr (.inr (.inr (.inr (va_up (fun _ => none) 0 (some h2))))))), ((f469 5), .inr (3, [.int 0, .ref (sv 0), .int 0]))] H _ := w
  refine W.widen (k := 6) (n := 37) (Nat.le_of_ble_eq_true rfl) (Nat.le_of_ble_eq_true rfl) ?_
  exact x_iret C w hr (fun k => match k with | 0 => (f469 0) | 1 => (f469 1) | 2 => (f469 2) | 3 => (f469 3) | 4 => (f469 4) | 5 => (f469 5) | _ => 0) rfl rfl dX6_put_35 (Nat.le_of_ble_eq_true rfl) (Nat.le_of_ble_eq_true rfl)
set_option maxHeartbeats 4000000 in
set_option maxRecDepth 100000 in
theorem c66_X6_thrown (l : Launch) (G : va_G) (cy : Nat → ClassId) (sa : String → Nat → Nat) (sv : Nat → Nat) (h0 h1 h2 h3 h4 h5 h6 h7 : Nat) : xM l G cy sa sv yX6_thrown (Cond.code yX6_thrown cX6_thrown 1 (some .int) :: XG) { frames := 8, cells := 0, slots := 0, locals := 250 } [.ref h0] [(h0, .inr (10, [.ref h1, .ref h2, .ref h3, .ref h4, .ref h5, .ref h6, .ref h7, .int 0, .int 0]))] (xQi G (fun f => [(h0, .inr (10, [.ref h1, .ref h2, .ref h3, .ref h4, .ref h5, .ref h6, .ref h7, .int 0, .int 0]))]) 0) := by
  refine xof (by decide) (Nat.le_of_ble_eq_true rfl) (fun p e s m below meth c A C w hr hn ls hl => ?_)
  have hl : lv_has ls 1 [(0, .ref h0)] := hl
  refine lv_aload_n C.1 C.2.1 dX6_thrown_0 rfl (lv_at hl 0 rfl) ?_
  refine x_get (v := .int 0) C w 0 10 8 (xin_X6 _) rfl rfl (by decide) (List.mem_cons_of_mem _ gw_112) rfl rfl dX6_thrown_1 ?_
  exact x_iret C w hr (fun _ => 0) rfl rfl dX6_thrown_4 (Nat.le_of_ble_eq_true rfl) (Nat.le_of_ble_eq_true rfl)
set_option maxHeartbeats 4000000 in
set_option maxRecDepth 100000 in
theorem c67_X4_checkValue (l : Launch) (G : va_G) (cy : Nat → ClassId) (sa : String → Nat → Nat) (sv : Nat → Nat) (v0 : Int32) (p0 : ¬ v0 < (-999)) (p1 : ¬ v0 ≤ 999) : xX l G cy sa sv yX4_checkValue (Cond.code yX4_checkValue cX4_checkValue 1 none :: XG) { frames := 8, cells := 1, slots := 6, locals := 250 } [.int v0] [] (fun f => []) "java/lang/IllegalArgumentException" := by
  refine xofX (by decide) (Nat.le_of_ble_eq_true rfl) (fun p e s m below meth c A C w hno ls hl => ?_)
  have hl : lv_has ls 1 [(0, .int v0)] := hl
  refine lv_iload_n C.1 C.2.1 dX4_checkValue_0 rfl (lv_at hl 0 rfl) ?_
  refine lv_sipush (v := (-999)) C.1 C.2.1 dX4_checkValue_1 (by decide) ?_
  refine lv_icmp_lt (tgt := 14) C.1 C.2.1 dX4_checkValue_4 (by decide) (fun c9 => absurd c9 p0) (fun _ => ?_)
  refine lv_iload_n C.1 C.2.1 dX4_checkValue_7 rfl (lv_at hl 0 rfl) ?_
  refine lv_sipush (v := 999) C.1 C.2.1 dX4_checkValue_8 (by decide) ?_
  refine lv_icmp_le (tgt := 25) C.1 C.2.1 dX4_checkValue_11 (by decide) (fun c9 => absurd c9 p1) (fun _ => ?_)
  exact x_thrW C w hno hl.1 (by decide) (List.mem_cons_of_mem _ gw_95) (List.mem_cons_of_mem _ gw_96) (tx := "value is not -999 to 999") (List.mem_of_getElem? (i := 7) rfl) (xat_203 C (fun w h => List.mem_cons_of_mem _ h)) xatg_203 dX4_checkValue_14 dX4_checkValue_17 dX4_checkValue_18 dX4_checkValue_21 dX4_checkValue_24 (Nat.le_of_ble_eq_true rfl) (Nat.le_of_ble_eq_true rfl) (Nat.le_of_ble_eq_true rfl) (Nat.le_of_ble_eq_true rfl) rfl rfl (fun _ => 0) rfl
set_option maxHeartbeats 4000000 in
set_option maxRecDepth 100000 in
theorem c68_X4_put (l : Launch) (G : va_G) (cy : Nat → ClassId) (sa : String → Nat → Nat) (sv : Nat → Nat) (h0 : Nat) (v0 v1 : Int32) (p0 : ¬ v1 < (-999)) (p1 : ¬ v1 ≤ 999) : xX l G cy sa sv yX4_put (Cond.code yX4_put cX4_put 4 (some .int) :: XG) { frames := 9, cells := 1, slots := 6, locals := 270 } [.ref h0, .int v0, .int v1] [] (fun f => []) "java/lang/IllegalArgumentException" := by
  refine xofX (by decide) (Nat.le_of_ble_eq_true rfl) (fun p e s m below meth c A C w hno ls hl => ?_)
  have hl : lv_has ls 4 [(0, .ref h0), (1, .int v0), (2, .int v1)] := hl
  refine lv_iload_n C.1 C.2.1 dX4_put_0 rfl (lv_at hl 2 rfl) ?_
  refine x_kx C w [] [] rfl rfl (by decide) (by decide) (vx_runS (As := [.int v1]) (rest := []) (xfix C) (c67_X4_checkValue l G cy sa sv v1 p0 p1 (xtr C) _) (va_cwS 1 (xhts C) (xgS gw_98 gw_99 gw_2 gc_X4_checkValue) rfl rfl rfl (by decide +kernel) ⟨(Nat.le_of_ble_eq_true rfl), (Nat.le_of_ble_eq_true rfl)⟩) (xPS C w [] rfl (by decide)) rfl rfl hl.1 rfl (lv_room (Nat.le_of_ble_eq_true rfl)) dX4_put_1 ⟨(Nat.le_of_ble_eq_true rfl), (Nat.le_of_ble_eq_true rfl)⟩) (fun f481 H locs ce q9 w hce hcv hcl => ?_)
  have w : xW G A s [] H _ := w
  refine vx_widen (k := 1) (n := 6) (Nat.le_of_ble_eq_true rfl) (Nat.le_of_ble_eq_true rfl) ?_
  exact x_out C w hno (fun _ => 0) rfl hce hcv hcl (Nat.le_of_ble_eq_true rfl) (Nat.le_of_ble_eq_true rfl)
set_option maxHeartbeats 4000000 in
set_option maxRecDepth 100000 in
theorem c69_L_put (l : Launch) (G : va_G) (cy : Nat → ClassId) (sa : String → Nat → Nat) (sv : Nat → Nat) (h0 h1 h2 h3 h4 h5 h6 h7 h8 : Nat) (v0 v1 : Int32) (p0 : ¬ v1 < (-999)) (p1 : ¬ v1 ≤ 999) : xM l G cy sa sv yL_put (Cond.codeWith yL_put cL_put 5 (some .int) [(0, 11, 14, 19), (0, 11, 18, 21)] :: XG) { frames := 10, cells := 1, slots := 6, locals := 293 } [.ref h0, .int v0, .int v1, .ref h1] [(h0, .inr (8, [.ref h2, .ref h3, .ref h4, .ref h5, .ref h6, .int 0, .ref h7, .ref h8]))] (xQi G (fun f => [(h0, .inr (8, [.ref h2, .ref h3, .ref h4, .ref h5, .ref h6, .int 0, .ref h7, .ref h8]))]) 1) := by
  refine xofH (by decide) (Nat.le_of_ble_eq_true rfl) (fun p e s m below meth c A C w hr hn hT ls hl => ?_)
  have hl : lv_has ls 5 [(0, .ref h0), (1, .int v0), (2, .int v1), (3, .ref h1)] := hl
  refine lv_aload_n C.1 C.2.1 dL_put_0 rfl (lv_at hl 3 rfl) ?_
  refine lv_aload_n C.1 C.2.1 dL_put_1 rfl (lv_at hl 0 rfl) ?_
  refine lv_iload_n C.1 C.2.1 dL_put_2 rfl (lv_at hl 1 rfl) ?_
  refine lv_iload_n C.1 C.2.1 dL_put_3 rfl (lv_at hl 2 rfl) ?_
  refine x_kx C w [] [0] rfl rfl (by decide) (by decide) (vx_runV (As := [.int v0, .int v1]) (rest := [.ref h1]) (xfix C) (c68_X4_put l G cy sa sv h0 v0 v1 p0 p1 (xtr C) _) (cwV 2 (xhts C) (xgV (maxL := 0) (cc := ⟨#[]⟩) (ret := none) gw_101 gw_102 gw_103 gw_2 gc_X4_put) rfl rfl rfl (by decide +kernel) ⟨(Nat.le_of_ble_eq_true rfl), (Nat.le_of_ble_eq_true rfl)⟩) (xPV C w [] rfl (by decide) (ci := 8) (q0 := 0) rfl rfl) rfl rfl hl.1 rfl (lv_room (Nat.le_of_ble_eq_true rfl)) dL_put_4 ⟨(Nat.le_of_ble_eq_true rfl), (Nat.le_of_ble_eq_true rfl)⟩) (fun f482 H locs ce q9 w hce hcv hcl => ?_)
  have w : xW G A s [(h0, .inr (8, [.ref h2, .ref h3, .ref h4, .ref h5, .ref h6, .int 0, .ref h7, .ref h8]))] H _ := w
  refine vx_widen (k := 1) (n := 6) (Nat.le_of_ble_eq_true rfl) (Nat.le_of_ble_eq_true rfl) ?_
  refine vx_catch (xown C) [] ⟨0, 11, 14, 19⟩ [⟨0, 11, 18, 21⟩] hT (fun z hz => nomatch hz) (by decide) (by decide) (xhts C _ (List.mem_cons_of_mem _ gw_104)) (va_any rfl (xs_c1 (xS C))) hce hcv hcl ?_
  refine lv_astore (lv' := [(4, .ref q9), (0, .ref h0), (1, .int v0), (2, .int v1), (3, .ref h1)]) C.1 C.2.1 dL_put_14 hl (by decide) rfl (fun ls hl => ?_)
  refine lv_iconst (v := 1) C.1 C.2.1 dL_put_16 (by decide) ?_
  exact x_iret C w hr (fun _ => 0) rfl rfl dL_put_17 (Nat.le_of_ble_eq_true rfl) (Nat.le_of_ble_eq_true rfl)
set_option maxHeartbeats 4000000 in
set_option maxRecDepth 100000 in
theorem c70_X6_isNoValue (l : Launch) (G : va_G) (cy : Nat → ClassId) (sa : String → Nat → Nat) (sv : Nat → Nat) (v0 : Int32) (p0 : ¬ v0 < (-999)) (p1 : ¬ v0 ≤ 999) : xM l G cy sa sv yX6_isNoValue (Cond.code yX6_isNoValue cX6_isNoValue 1 (some .boolean) :: XG) { frames := 8, cells := 0, slots := 0, locals := 250 } [.int v0] [] (xQi G (fun f => []) 1) := by
  refine xof (by decide) (Nat.le_of_ble_eq_true rfl) (fun p e s m below meth c A C w hr hn ls hl => ?_)
  have hl : lv_has ls 1 [(0, .int v0)] := hl
  refine lv_iload_n C.1 C.2.1 dX6_isNoValue_0 rfl (lv_at hl 0 rfl) ?_
  refine lv_sipush (v := (-999)) C.1 C.2.1 dX6_isNoValue_1 (by decide) ?_
  refine lv_icmp_lt (tgt := 14) C.1 C.2.1 dX6_isNoValue_4 (by decide) (fun c9 => absurd c9 p0) (fun _ => ?_)
  refine lv_iload_n C.1 C.2.1 dX6_isNoValue_7 rfl (lv_at hl 0 rfl) ?_
  refine lv_sipush (v := 999) C.1 C.2.1 dX6_isNoValue_8 (by decide) ?_
  refine lv_icmp_le (tgt := 18) C.1 C.2.1 dX6_isNoValue_11 (by decide) (fun c9 => absurd c9 p1) (fun _ => ?_)
  refine lv_iconst (v := 1) C.1 C.2.1 dX6_isNoValue_14 (by decide) ?_
  refine lv_goto (tgt := 19) C.1 C.2.1 dX6_isNoValue_15 (by decide) ?_
  exact x_zret C w hr rfl (fun _ => 0) rfl rfl dX6_isNoValue_19 (Nat.le_of_ble_eq_true rfl) (Nat.le_of_ble_eq_true rfl)
set_option maxHeartbeats 4000000 in
set_option maxRecDepth 100000 in
theorem c71_X6_put (l : Launch) (G : va_G) (cy : Nat → ClassId) (sa : String → Nat → Nat) (sv : Nat → Nat) (h0 h1 h2 h3 h4 h5 h6 h7 : Nat) (v0 v1 : Int32) (p0 : ¬ v1 < (-999)) (p1 : ¬ v1 ≤ 999) : xM l G cy sa sv yX6_put (Cond.code yX6_put cX6_put 3 (some .int) :: XG) { frames := 9, cells := 0, slots := 0, locals := 272 } [.ref h0, .int v0, .int v1] [(h0, .inr (10, [.ref h1, .ref h2, .ref h3, .ref h4, .ref h5, .ref h6, .ref h7, .int 0, .int 0]))] (xQi G (fun f => [(h0, .inr (10, [.ref h1, .ref h2, .ref h3, .ref h4, .ref h5, .ref h6, .ref h7, .int 0, .int 1]))]) 0) := by
  refine xof (by decide) (Nat.le_of_ble_eq_true rfl) (fun p e s m below meth c A C w hr hn ls hl => ?_)
  have hl : lv_has ls 3 [(0, .ref h0), (1, .int v0), (2, .int v1)] := hl
  refine lv_aload_n C.1 C.2.1 dX6_put_0 rfl (lv_at hl 0 rfl) ?_
  refine lv_iload_n C.1 C.2.1 dX6_put_1 rfl (lv_at hl 2 rfl) ?_
  refine x_ki C w [] [0] rfl rfl (by decide) (by decide) (va_runS (As := [.int v1]) (rest := [.ref h0]) (xfix C) (c70_X6_isNoValue l G cy sa sv v1 p0 p1 (xtr C) _) (va_cwS 1 (xhts C) (xgS gw_110 gw_111 gw_58 gc_X6_isNoValue) rfl rfl rfl (by decide +kernel) ⟨(Nat.le_of_ble_eq_true rfl), (Nat.le_of_ble_eq_true rfl)⟩) (xPS C w [] rfl (by decide)) rfl rfl hl.1 rfl (lv_room (Nat.le_of_ble_eq_true rfl)) dX6_put_2 ⟨(Nat.le_of_ble_eq_true rfl), (Nat.le_of_ble_eq_true rfl)⟩) (fun f485 H locs w => ?_)
  have w : xW G A s [(h0, .inr (10, [.ref h1, .ref h2, .ref h3, .ref h4, .ref h5, .ref h6, .ref h7, .int 0, .int 0]))] H _ := w
  refine lv_iconst (v := 1) C.1 C.2.1 dX6_put_5 (by decide) ?_
  refine x_ki C w [0] [] rfl rfl (by decide) (by decide) (va_runV (As := [.int 1, .int 1]) (rest := []) (xfix C) (c17_X6_start l G cy sa sv h0 h1 h2 h3 h4 h5 h6 h7 (xtr C) _) (cwV 2 (xhts C) (xgV (maxL := 0) (cc := ⟨#[]⟩) (ret := none) gw_114 gw_115 gw_116 gw_58 gc_X6_start) rfl rfl rfl (by decide +kernel) ⟨(Nat.le_of_ble_eq_true rfl), (Nat.le_of_ble_eq_true rfl)⟩) (xPV C w [0] rfl (by decide) (ci := 10) (q0 := 0) rfl rfl) rfl rfl hl.1 rfl (lv_room (Nat.le_of_ble_eq_true rfl)) dX6_put_6 ⟨(Nat.le_of_ble_eq_true rfl), (Nat.le_of_ble_eq_true rfl)⟩) (fun f486 H locs w => ?_)
  have w : xW G A s [(h0, .inr (10, [.ref h1, .ref h2, .ref h3, .ref h4, .ref h5, .ref h6, .ref h7, .int 0, .int 1]))] H _ := w
  refine lv_if_ne (tgt := 25) C.1 C.2.1 dX6_put_9 (by decide) (fun _ => ?_) (fun c9 => absurd c9 (by decide))
  refine lv_iconst (v := 0) C.1 C.2.1 dX6_put_25 (by decide) ?_
  refine lv_goto (tgt := 35) C.1 C.2.1 dX6_put_26 (by decide) ?_
  exact x_iret C w hr (fun _ => 0) rfl rfl dX6_put_35 (Nat.le_of_ble_eq_true rfl) (Nat.le_of_ble_eq_true rfl)
set_option maxHeartbeats 4000000 in
set_option maxRecDepth 100000 in
theorem c72_X4_putNew (l : Launch) (G : va_G) (cy : Nat → ClassId) (sa : String → Nat → Nat) (sv : Nat → Nat) (h0 : Nat) (v0 v1 : Int32) (p0 : v1 < (-999)) : xX l G cy sa sv yX4_putNew (Cond.code yX4_putNew cX4_putNew 4 (some .int) :: XG) { frames := 9, cells := 1, slots := 6, locals := 270 } [.ref h0, .int v0, .int v1] [] (fun f => []) "java/lang/IllegalArgumentException" := by
  refine xofX (by decide) (Nat.le_of_ble_eq_true rfl) (fun p e s m below meth c A C w hno ls hl => ?_)
  have hl : lv_has ls 4 [(0, .ref h0), (1, .int v0), (2, .int v1)] := hl
  refine lv_iload_n C.1 C.2.1 dX4_putNew_0 rfl (lv_at hl 2 rfl) ?_
  refine x_kx C w [] [] rfl rfl (by decide) (by decide) (vx_runS (As := [.int v1]) (rest := []) (xfix C) (c13_X4_checkValue l G cy sa sv v1 p0 (xtr C) _) (va_cwS 1 (xhts C) (xgS gw_98 gw_99 gw_2 gc_X4_checkValue) rfl rfl rfl (by decide +kernel) ⟨(Nat.le_of_ble_eq_true rfl), (Nat.le_of_ble_eq_true rfl)⟩) (xPS C w [] rfl (by decide)) rfl rfl hl.1 rfl (lv_room (Nat.le_of_ble_eq_true rfl)) dX4_putNew_1 ⟨(Nat.le_of_ble_eq_true rfl), (Nat.le_of_ble_eq_true rfl)⟩) (fun f498 H locs ce q9 w hce hcv hcl => ?_)
  have w : xW G A s [] H _ := w
  refine vx_widen (k := 1) (n := 6) (Nat.le_of_ble_eq_true rfl) (Nat.le_of_ble_eq_true rfl) ?_
  exact x_out C w hno (fun _ => 0) rfl hce hcv hcl (Nat.le_of_ble_eq_true rfl) (Nat.le_of_ble_eq_true rfl)
set_option maxHeartbeats 4000000 in
set_option maxRecDepth 100000 in
theorem c73_L_putNew (l : Launch) (G : va_G) (cy : Nat → ClassId) (sa : String → Nat → Nat) (sv : Nat → Nat) (h0 h1 h2 h3 h4 h5 h6 h7 h8 : Nat) (v0 v1 : Int32) (p0 : v1 < (-999)) : xM l G cy sa sv yL_putNew (Cond.codeWith yL_putNew cL_putNew 5 (some .int) [(0, 11, 14, 19), (0, 11, 18, 21)] :: XG) { frames := 10, cells := 1, slots := 6, locals := 293 } [.ref h0, .int v0, .int v1, .ref h1] [(h0, .inr (8, [.ref h2, .ref h3, .ref h4, .ref h5, .ref h6, .int 0, .ref h7, .ref h8]))] (xQi G (fun f => [(h0, .inr (8, [.ref h2, .ref h3, .ref h4, .ref h5, .ref h6, .int 0, .ref h7, .ref h8]))]) 1) := by
  refine xofH (by decide) (Nat.le_of_ble_eq_true rfl) (fun p e s m below meth c A C w hr hn hT ls hl => ?_)
  have hl : lv_has ls 5 [(0, .ref h0), (1, .int v0), (2, .int v1), (3, .ref h1)] := hl
  refine lv_aload_n C.1 C.2.1 dL_putNew_0 rfl (lv_at hl 3 rfl) ?_
  refine lv_aload_n C.1 C.2.1 dL_putNew_1 rfl (lv_at hl 0 rfl) ?_
  refine lv_iload_n C.1 C.2.1 dL_putNew_2 rfl (lv_at hl 1 rfl) ?_
  refine lv_iload_n C.1 C.2.1 dL_putNew_3 rfl (lv_at hl 2 rfl) ?_
  refine x_kx C w [] [0] rfl rfl (by decide) (by decide) (vx_runV (As := [.int v0, .int v1]) (rest := [.ref h1]) (xfix C) (c72_X4_putNew l G cy sa sv h0 v0 v1 p0 (xtr C) _) (cwV 2 (xhts C) (xgV (maxL := 0) (cc := ⟨#[]⟩) (ret := none) gw_252 gw_253 gw_254 gw_2 gc_X4_putNew) rfl rfl rfl (by decide +kernel) ⟨(Nat.le_of_ble_eq_true rfl), (Nat.le_of_ble_eq_true rfl)⟩) (xPV C w [] rfl (by decide) (ci := 8) (q0 := 0) rfl rfl) rfl rfl hl.1 rfl (lv_room (Nat.le_of_ble_eq_true rfl)) dL_putNew_4 ⟨(Nat.le_of_ble_eq_true rfl), (Nat.le_of_ble_eq_true rfl)⟩) (fun f499 H locs ce q9 w hce hcv hcl => ?_)
  have w : xW G A s [(h0, .inr (8, [.ref h2, .ref h3, .ref h4, .ref h5, .ref h6, .int 0, .ref h7, .ref h8]))] H _ := w
  refine vx_widen (k := 1) (n := 6) (Nat.le_of_ble_eq_true rfl) (Nat.le_of_ble_eq_true rfl) ?_
  refine vx_catch (xown C) [] ⟨0, 11, 14, 19⟩ [⟨0, 11, 18, 21⟩] hT (fun z hz => nomatch hz) (by decide) (by decide) (xhts C _ (List.mem_cons_of_mem _ gw_104)) (va_any rfl (xs_c1 (xS C))) hce hcv hcl ?_
  refine lv_astore (lv' := [(4, .ref q9), (0, .ref h0), (1, .int v0), (2, .int v1), (3, .ref h1)]) C.1 C.2.1 dL_putNew_14 hl (by decide) rfl (fun ls hl => ?_)
  refine lv_iconst (v := 1) C.1 C.2.1 dL_putNew_16 (by decide) ?_
  exact x_iret C w hr (fun _ => 0) rfl rfl dL_putNew_17 (Nat.le_of_ble_eq_true rfl) (Nat.le_of_ble_eq_true rfl)
set_option maxHeartbeats 4000000 in
set_option maxRecDepth 100000 in
theorem c74_X6_putNew (l : Launch) (G : va_G) (cy : Nat → ClassId) (sa : String → Nat → Nat) (sv : Nat → Nat) (h0 h1 h2 h3 h4 h5 h6 h7 : Nat) (v0 v1 : Int32) (p0 : v1 < (-999)) : xM l G cy sa sv yX6_putNew (Cond.code yX6_putNew cX6_putNew 4 (some .int) :: XG) { frames := 9, cells := 0, slots := 0, locals := 272 } [.ref h0, .int v0, .int v1] [(h0, .inr (10, [.ref h1, .ref h2, .ref h3, .ref h4, .ref h5, .ref h6, .ref h7, .int 0, .int 0]))] (xQi G (fun f => [(h0, .inr (10, [.ref h1, .ref h2, .ref h3, .ref h4, .ref h5, .ref h6, .ref h7, .int 0, .int 1]))]) 0) := by
  refine xof (by decide) (Nat.le_of_ble_eq_true rfl) (fun p e s m below meth c A C w hr hn ls hl => ?_)
  have hl : lv_has ls 4 [(0, .ref h0), (1, .int v0), (2, .int v1)] := hl
  refine lv_aload_n C.1 C.2.1 dX6_putNew_0 rfl (lv_at hl 0 rfl) ?_
  refine lv_iload_n C.1 C.2.1 dX6_putNew_1 rfl (lv_at hl 2 rfl) ?_
  refine x_ki C w [] [0] rfl rfl (by decide) (by decide) (va_runS (As := [.int v1]) (rest := [.ref h0]) (xfix C) (c16_X6_isNoValue l G cy sa sv v1 p0 (xtr C) _) (va_cwS 1 (xhts C) (xgS gw_110 gw_111 gw_58 gc_X6_isNoValue) rfl rfl rfl (by decide +kernel) ⟨(Nat.le_of_ble_eq_true rfl), (Nat.le_of_ble_eq_true rfl)⟩) (xPS C w [] rfl (by decide)) rfl rfl hl.1 rfl (lv_room (Nat.le_of_ble_eq_true rfl)) dX6_putNew_2 ⟨(Nat.le_of_ble_eq_true rfl), (Nat.le_of_ble_eq_true rfl)⟩) (fun f502 H locs w => ?_)
  have w : xW G A s [(h0, .inr (10, [.ref h1, .ref h2, .ref h3, .ref h4, .ref h5, .ref h6, .ref h7, .int 0, .int 0]))] H _ := w
  refine lv_iconst (v := 1) C.1 C.2.1 dX6_putNew_5 (by decide) ?_
  refine x_ki C w [0] [] rfl rfl (by decide) (by decide) (va_runV (As := [.int 1, .int 1]) (rest := []) (xfix C) (c17_X6_start l G cy sa sv h0 h1 h2 h3 h4 h5 h6 h7 (xtr C) _) (cwV 2 (xhts C) (xgV (maxL := 0) (cc := ⟨#[]⟩) (ret := none) gw_114 gw_115 gw_116 gw_58 gc_X6_start) rfl rfl rfl (by decide +kernel) ⟨(Nat.le_of_ble_eq_true rfl), (Nat.le_of_ble_eq_true rfl)⟩) (xPV C w [0] rfl (by decide) (ci := 10) (q0 := 0) rfl rfl) rfl rfl hl.1 rfl (lv_room (Nat.le_of_ble_eq_true rfl)) dX6_putNew_6 ⟨(Nat.le_of_ble_eq_true rfl), (Nat.le_of_ble_eq_true rfl)⟩) (fun f503 H locs w => ?_)
  have w : xW G A s [(h0, .inr (10, [.ref h1, .ref h2, .ref h3, .ref h4, .ref h5, .ref h6, .ref h7, .int 0, .int 1]))] H _ := w
  refine lv_if_ne (tgt := 25) C.1 C.2.1 dX6_putNew_9 (by decide) (fun _ => ?_) (fun c9 => absurd c9 (by decide))
  refine lv_iconst (v := 0) C.1 C.2.1 dX6_putNew_25 (by decide) ?_
  exact x_iret C w hr (fun _ => 0) rfl rfl dX6_putNew_26 (Nat.le_of_ble_eq_true rfl) (Nat.le_of_ble_eq_true rfl)
set_option maxHeartbeats 4000000 in
set_option maxRecDepth 100000 in
theorem c75_X4_putNew (l : Launch) (G : va_G) (cy : Nat → ClassId) (sa : String → Nat → Nat) (sv : Nat → Nat) (h0 h1 h2 h3 h4 h5 h6 h7 h8 h9 h10 h11 h12 h13 h14 h15 h16 h17 h18 : Nat) (v0 v1 : Int32) (p0 : ¬ v1 < (-999)) (p1 : v1 ≤ 999) (p2 : ¬ (-1000) = v1) : xM l G cy sa sv yX4_putNew (Cond.code yX4_putNew cX4_putNew 4 (some .int) :: XG) { frames := 13, cells := 0, slots := 0, locals := 361 } [.ref h0, .int v0, .int v1] [(h0, .inr (8, [.ref h1, .ref h11, .ref h3, .ref h15, .ref h16, .int 0, .ref h17, .ref h18])), (h1, .inr (7, [.ref h2, .ref h9])), (h2, .inr (6, [.ref h8, .int 0])), (h3, .inr (5, [.ref h4, .ref h6, .ref h13, .int 0])), (h4, .inr (6, [.ref h5, .int 0])), (h5, .inl (cy 1, 624, .inl (fun _ => 0))), (h6, .inr (6, [.ref h7, .int 0])), (h7, .inl (cy 1, 624, .inl (fun _ => 0))), (h8, .inl (cy 1, 24, .inl (fun _ => 0))), (h9, .inr (6, [.ref h10, .int 0])), (h10, .inl (cy 1, 24, .inl (fun _ => 0))), (h11, .inr (6, [.ref h12, .int 0])), (h12, .inl (cy 1, 24, .inl (fun _ => 0))), (h13, .inr (6, [.ref h14, .int 0])), (h14, .inl (cy 1, 12, .inl (fun _ => 0)))] (xQi G (fun f => [(h0, .inr (8, [.ref h1, .ref h11, .ref h3, .ref h15, .ref h16, .int 0, .ref h17, .ref h18])), (h1, .inr (7, [.ref h2, .ref h9])), (h2, .inr (6, [.ref h8, .int 1])), (h3, .inr (5, [.ref h4, .ref h6, .ref h13, .int 0])), (h4, .inr (6, [.ref h5, .int 1])), (h5, .inl (cy 1, 624, .inl (upd (fun _ => 0) 0 v0))), (h6, .inr (6, [.ref h7, .int 1])), (h7, .inl (cy 1, 624, .inl (upd (fun _ => 0) 0 (-1000)))), (h8, .inl (cy 1, 24, .inl (upd (fun _ => 0) 0 v0))), (h9, .inr (6, [.ref h10, .int 1])), (h10, .inl (cy 1, 24, .inl (upd (fun _ => 0) 0 v1))), (h11, .inr (6, [.ref h12, .int 1])), (h12, .inl (cy 1, 24, .inl (upd (fun _ => 0) 0 v0))), (h13, .inr (6, [.ref h14, .int 1])), (h14, .inl (cy 1, 12, .inl (upd (fun _ => 0) 0 1)))]) (-1000)) := by
  refine xof (by decide) (Nat.le_of_ble_eq_true rfl) (fun p e s m below meth c A C w hr hn ls hl => ?_)
  have hl : lv_has ls 4 [(0, .ref h0), (1, .int v0), (2, .int v1)] := hl
  refine lv_iload_n C.1 C.2.1 dX4_putNew_0 rfl (lv_at hl 2 rfl) ?_
  refine x_kv C w [] [0, 1, 2, 3, 4, 5, 6, 7, 8, 9, 10, 11, 12, 13, 14] rfl rfl (by decide) (by decide) (va_runS (As := [.int v1]) (rest := []) (xfix C) (c20_X4_checkValue l G cy sa sv v1 p0 p1 (xtr C) _) (va_cwS 1 (xhts C) (xgS gw_98 gw_99 gw_2 gc_X4_checkValue) rfl rfl rfl (by decide +kernel) ⟨(Nat.le_of_ble_eq_true rfl), (Nat.le_of_ble_eq_true rfl)⟩) (xPS C w [] rfl (by decide)) rfl rfl hl.1 rfl (lv_room (Nat.le_of_ble_eq_true rfl)) dX4_putNew_1 ⟨(Nat.le_of_ble_eq_true rfl), (Nat.le_of_ble_eq_true rfl)⟩) (fun f524 H locs w => ?_)
  have w : xW G A s [(h0, .inr (8, [.ref h1, .ref h11, .ref h3, .ref h15, .ref h16, .int 0, .ref h17, .ref h18])), (h1, .inr (7, [.ref h2, .ref h9])), (h2, .inr (6, [.ref h8, .int 0])), (h3, .inr (5, [.ref h4, .ref h6, .ref h13, .int 0])), (h4, .inr (6, [.ref h5, .int 0])), (h5, .inl (cy 1, 624, .inl (fun _ => 0))), (h6, .inr (6, [.ref h7, .int 0])), (h7, .inl (cy 1, 624, .inl (fun _ => 0))), (h8, .inl (cy 1, 24, .inl (fun _ => 0))), (h9, .inr (6, [.ref h10, .int 0])), (h10, .inl (cy 1, 24, .inl (fun _ => 0))), (h11, .inr (6, [.ref h12, .int 0])), (h12, .inl (cy 1, 24, .inl (fun _ => 0))), (h13, .inr (6, [.ref h14, .int 0])), (h14, .inl (cy 1, 12, .inl (fun _ => 0)))] H _ := w
  refine lv_aload_n C.1 C.2.1 dX4_putNew_4 rfl (lv_at hl 0 rfl) ?_
  refine lv_iload_n C.1 C.2.1 dX4_putNew_5 rfl (lv_at hl 1 rfl) ?_
  refine x_kv C w [0, 1, 2] [3, 4, 5, 6, 7, 8, 9, 10, 11, 12, 13, 14] rfl rfl (by decide) (by decide) (va_runV (As := [.int v0]) (rest := []) (xfix C) (c23_X4_checkRoomFor l G cy sa sv h0 h1 h2 h11 h3 h15 h16 h17 h18 h9 h8 v0 (xtr C) _) (cwV 1 (xhts C) (xgV (maxL := 0) (cc := ⟨#[]⟩) (ret := none) gw_134 gw_135 gw_136 gw_2 gc_X4_checkRoomFor) rfl rfl rfl (by decide +kernel) ⟨(Nat.le_of_ble_eq_true rfl), (Nat.le_of_ble_eq_true rfl)⟩) (xPV C w [0, 1, 2] rfl (by decide) (ci := 8) (q0 := 0) rfl rfl) rfl rfl hl.1 rfl (lv_room (Nat.le_of_ble_eq_true rfl)) dX4_putNew_6 ⟨(Nat.le_of_ble_eq_true rfl), (Nat.le_of_ble_eq_true rfl)⟩) (fun f527 H locs w => ?_)
  have w : xW G A s [(h3, .inr (5, [.ref h4, .ref h6, .ref h13, .int 0])), (h4, .inr (6, [.ref h5, .int 0])), (h5, .inl (cy 1, 624, .inl (fun _ => 0))), (h6, .inr (6, [.ref h7, .int 0])), (h7, .inl (cy 1, 624, .inl (fun _ => 0))), (h8, .inl (cy 1, 24, .inl (fun _ => 0))), (h9, .inr (6, [.ref h10, .int 0])), (h10, .inl (cy 1, 24, .inl (fun _ => 0))), (h11, .inr (6, [.ref h12, .int 0])), (h12, .inl (cy 1, 24, .inl (fun _ => 0))), (h13, .inr (6, [.ref h14, .int 0])), (h14, .inl (cy 1, 12, .inl (fun _ => 0))), (h0, .inr (8, [.ref h1, .ref h11, .ref h3, .ref h15, .ref h16, .int 0, .ref h17, .ref h18])), (h1, .inr (7, [.ref h2, .ref h9])), (h2, .inr (6, [.ref h8, .int 0]))] H _ := w
  refine lv_aload_n C.1 C.2.1 dX4_putNew_9 rfl (lv_at hl 0 rfl) ?_
  refine x_get (v := .ref h1) C w 12 8 0 (xin_X4 _) rfl rfl (by decide) (List.mem_cons_of_mem _ gw_24) rfl rfl dX4_putNew_10 ?_
  refine lv_iload_n C.1 C.2.1 dX4_putNew_13 rfl (lv_at hl 1 rfl) ?_
  refine x_ki C w [13, 14] [0, 1, 2, 3, 4, 5, 6, 7, 8, 9, 10, 11, 12] rfl rfl (by decide) (by decide) (va_runV (As := [.int v0]) (rest := []) (xfix C) (c25_X3_valueOf l G cy sa sv h1 h2 h9 h8 v0 (xtr C) _) (cwV 1 (xhts C) (xgV (maxL := 0) (cc := ⟨#[]⟩) (ret := none) gw_142 gw_143 gw_144 gw_7 gc_X3_valueOf) rfl rfl rfl (by decide +kernel) ⟨(Nat.le_of_ble_eq_true rfl), (Nat.le_of_ble_eq_true rfl)⟩) (xPV C w [13, 14] rfl (by decide) (ci := 7) (q0 := 13) rfl rfl) rfl rfl hl.1 rfl (lv_room (Nat.le_of_ble_eq_true rfl)) dX4_putNew_14 ⟨(Nat.le_of_ble_eq_true rfl), (Nat.le_of_ble_eq_true rfl)⟩) (fun f529 H locs w => ?_)
  have w : xW G A s [(h3, .inr (5, [.ref h4, .ref h6, .ref h13, .int 0])), (h4, .inr (6, [.ref h5, .int 0])), (h5, .inl (cy 1, 624, .inl (fun _ => 0))), (h6, .inr (6, [.ref h7, .int 0])), (h7, .inl (cy 1, 624, .inl (fun _ => 0))), (h8, .inl (cy 1, 24, .inl (fun _ => 0))), (h9, .inr (6, [.ref h10, .int 0])), (h10, .inl (cy 1, 24, .inl (fun _ => 0))), (h11, .inr (6, [.ref h12, .int 0])), (h12, .inl (cy 1, 24, .inl (fun _ => 0))), (h13, .inr (6, [.ref h14, .int 0])), (h14, .inl (cy 1, 12, .inl (fun _ => 0))), (h0, .inr (8, [.ref h1, .ref h11, .ref h3, .ref h15, .ref h16, .int 0, .ref h17, .ref h18])), (h1, .inr (7, [.ref h2, .ref h9])), (h2, .inr (6, [.ref h8, .int 0]))] H _ := w
  refine lv_istore_n (lv' := [(3, .int (-1000)), (0, .ref h0), (1, .int v0), (2, .int v1)]) C.1 C.2.1 dX4_putNew_17 rfl hl (by decide) rfl (fun ls hl => ?_)
  refine lv_aload_n C.1 C.2.1 dX4_putNew_18 rfl (lv_at hl 1 rfl) ?_
  refine lv_iload_n C.1 C.2.1 dX4_putNew_19 rfl (lv_at hl 2 rfl) ?_
  refine lv_iload_n C.1 C.2.1 dX4_putNew_20 rfl (lv_at hl 0 rfl) ?_
  refine lv_sipush (v := (-1000)) C.1 C.2.1 dX4_putNew_21 (by decide) ?_
  refine lv_icmp_ne (tgt := 31) C.1 C.2.1 dX4_putNew_24 (by decide) (fun c9 => absurd (by decide) c9) (fun _ => ?_)
  refine lv_iload_n C.1 C.2.1 dX4_putNew_27 rfl (lv_at hl 3 rfl) ?_
  refine lv_goto (tgt := 32) C.1 C.2.1 dX4_putNew_28 (by decide) ?_
  refine x_kv C w [12, 13, 14, 0, 1, 2, 3, 4, 5, 6, 7, 8, 9] [10, 11] rfl rfl (by decide) (by decide) (va_runV (As := [.int v0, .int v1]) (rest := []) (xfix C) (c39_X4_store l G cy sa sv h0 h1 h2 h3 h4 h5 h6 h7 h8 h9 h10 h11 h12 h15 h16 h17 h18 h13 v0 v1 p2 (xtr C) _) (cwV 2 (xhts C) (xgV (maxL := 0) (cc := ⟨#[]⟩) (ret := none) gw_185 gw_186 gw_187 gw_2 gc_X4_store) rfl rfl rfl (by decide +kernel) ⟨(Nat.le_of_ble_eq_true rfl), (Nat.le_of_ble_eq_true rfl)⟩) (xPV C w [12, 13, 14, 0, 1, 2, 3, 4, 5, 6, 7, 8, 9] rfl (by decide) (ci := 8) (q0 := 12) rfl rfl) rfl rfl hl.1 rfl (lv_room (Nat.le_of_ble_eq_true rfl)) dX4_putNew_32 ⟨(Nat.le_of_ble_eq_true rfl), (Nat.le_of_ble_eq_true rfl)⟩) (fun f550 H locs w => ?_)
  have w : xW G A s [(h13, .inr (6, [.ref h14, .int 0])), (h14, .inl (cy 1, 12, .inl (fun _ => 0))), (h0, .inr (8, [.ref h1, .ref h11, .ref h3, .ref h15, .ref h16, .int 0, .ref h17, .ref h18])), (h1, .inr (7, [.ref h2, .ref h9])), (h2, .inr (6, [.ref h8, .int 1])), (h3, .inr (5, [.ref h4, .ref h6, .ref h13, .int 1])), (h4, .inr (6, [.ref h5, .int 1])), (h5, .inl (cy 1, 624, .inl (upd (fun _ => 0) 0 v0))), (h6, .inr (6, [.ref h7, .int 1])), (h7, .inl (cy 1, 624, .inl (upd (fun _ => 0) 0 (-1000)))), (h8, .inl (cy 1, 24, .inl (upd (fun _ => 0) 0 v0))), (h9, .inr (6, [.ref h10, .int 1])), (h10, .inl (cy 1, 24, .inl (upd (fun _ => 0) 0 v1))), (h11, .inr (6, [.ref h12, .int 1])), (h12, .inl (cy 1, 24, .inl (upd (fun _ => 0) 0 v0)))] H _ := w
  refine lv_aload_n C.1 C.2.1 dX4_putNew_35 rfl (lv_at hl 1 rfl) ?_
  refine x_get (v := .ref h3) C w 2 8 2 (xin_X4 _) rfl rfl (by decide) (List.mem_cons_of_mem _ gw_41) rfl rfl dX4_putNew_36 ?_
  refine x_kv C w [5, 0, 1] [2, 3, 4, 6, 7, 8, 9, 10, 11, 12, 13, 14] rfl rfl (by decide) (by decide) (va_runV (As := []) (rest := []) (xfix C) (c42_X1_endStep l G cy sa sv h3 h13 h14 h4 h6 (xtr C) _) (cwV 0 (xhts C) (xgV (maxL := 0) (cc := ⟨#[]⟩) (ret := none) gw_190 gw_191 gw_192 gw_30 gc_X1_endStep) rfl rfl rfl (by decide +kernel) ⟨(Nat.le_of_ble_eq_true rfl), (Nat.le_of_ble_eq_true rfl)⟩) (xPV C w [5, 0, 1] rfl (by decide) (ci := 5) (q0 := 5) rfl rfl) rfl rfl hl.1 rfl (lv_room (Nat.le_of_ble_eq_true rfl)) dX4_putNew_39 ⟨(Nat.le_of_ble_eq_true rfl), (Nat.le_of_ble_eq_true rfl)⟩) (fun f554 H locs w => ?_)
  have w : xW G A s [(h0, .inr (8, [.ref h1, .ref h11, .ref h3, .ref h15, .ref h16, .int 0, .ref h17, .ref h18])), (h1, .inr (7, [.ref h2, .ref h9])), (h2, .inr (6, [.ref h8, .int 1])), (h4, .inr (6, [.ref h5, .int 1])), (h5, .inl (cy 1, 624, .inl (upd (fun _ => 0) 0 v0))), (h6, .inr (6, [.ref h7, .int 1])), (h7, .inl (cy 1, 624, .inl (upd (fun _ => 0) 0 (-1000)))), (h8, .inl (cy 1, 24, .inl (upd (fun _ => 0) 0 v0))), (h9, .inr (6, [.ref h10, .int 1])), (h10, .inl (cy 1, 24, .inl (upd (fun _ => 0) 0 v1))), (h11, .inr (6, [.ref h12, .int 1])), (h12, .inl (cy 1, 24, .inl (upd (fun _ => 0) 0 v0))), (h3, .inr (5, [.ref h4, .ref h6, .ref h13, .int 0])), (h13, .inr (6, [.ref h14, .int 1])), (h14, .inl (cy 1, 12, .inl (upd (fun _ => 0) 0 1)))] H _ := w
  refine lv_iload_n C.1 C.2.1 dX4_putNew_42 rfl (lv_at hl 0 rfl) ?_
  have w := w.sub (ws' := [(h0, .inr (8, [.ref h1, .ref h11, .ref h3, .ref h15, .ref h16, .int 0, .ref h17, .ref h18])), (h1, .inr (7, [.ref h2, .ref h9])), (h2, .inr (6, [.ref h8, .int 1])), (h3, .inr (5, [.ref h4, .ref h6, .ref h13, .int 0])), (h4, .inr (6, [.ref h5, .int 1])), (h5, .inl (cy 1, 624, .inl (upd (fun _ => 0) 0 v0))), (h6, .inr (6, [.ref h7, .int 1])), (h7, .inl (cy 1, 624, .inl (upd (fun _ => 0) 0 (-1000)))), (h8, .inl (cy 1, 24, .inl (upd (fun _ => 0) 0 v0))), (h9, .inr (6, [.ref h10, .int 1])), (h10, .inl (cy 1, 24, .inl (upd (fun _ => 0) 0 v1))), (h11, .inr (6, [.ref h12, .int 1])), (h12, .inl (cy 1, 24, .inl (upd (fun _ => 0) 0 v0))), (h13, .inr (6, [.ref h14, .int 1])), (h14, .inl (cy 1, 12, .inl (upd (fun _ => 0) 0 1)))]) [0, 1, 2, 12, 3, 4, 5, 6, 7, 8, 9, 10, 11, 13, 14] (by decide) rfl rfl
  exact x_iret C w hr (fun _ => 0) rfl rfl dX4_putNew_43 (Nat.le_of_ble_eq_true rfl) (Nat.le_of_ble_eq_true rfl)
set_option maxHeartbeats 4000000 in
set_option maxRecDepth 100000 in
theorem c76_L_putNew (l : Launch) (G : va_G) (cy : Nat → ClassId) (sa : String → Nat → Nat) (sv : Nat → Nat) (h0 h1 h2 h3 h4 h5 h6 h7 h8 h9 h10 h11 h12 h13 h14 h15 h16 h17 h18 h19 : Nat) (v0 v1 : Int32) (p0 : ¬ v1 < (-999)) (p1 : v1 ≤ 999) (p2 : ¬ (-1000) = v1) : xM l G cy sa sv yL_putNew (Cond.codeWith yL_putNew cL_putNew 5 (some .int) [(0, 11, 14, 19), (0, 11, 18, 21)] :: XG) { frames := 14, cells := 0, slots := 0, locals := 384 } [.ref h0, .int v0, .int v1, .ref h1] [(h0, .inr (8, [.ref h2, .ref h12, .ref h4, .ref h16, .ref h17, .int 0, .ref h18, .ref h19])), (h2, .inr (7, [.ref h3, .ref h10])), (h3, .inr (6, [.ref h9, .int 0])), (h4, .inr (5, [.ref h5, .ref h7, .ref h14, .int 0])), (h5, .inr (6, [.ref h6, .int 0])), (h6, .inl (cy 1, 624, .inl (fun _ => 0))), (h7, .inr (6, [.ref h8, .int 0])), (h8, .inl (cy 1, 624, .inl (fun _ => 0))), (h9, .inl (cy 1, 24, .inl (fun _ => 0))), (h10, .inr (6, [.ref h11, .int 0])), (h11, .inl (cy 1, 24, .inl (fun _ => 0))), (h12, .inr (6, [.ref h13, .int 0])), (h13, .inl (cy 1, 24, .inl (fun _ => 0))), (h14, .inr (6, [.ref h15, .int 0])), (h15, .inl (cy 1, 12, .inl (fun _ => 0))), (h1, .inr (9, [.long 0, .null]))] (xQi G (fun f => [(h0, .inr (8, [.ref h2, .ref h12, .ref h4, .ref h16, .ref h17, .int 0, .ref h18, .ref h19])), (h2, .inr (7, [.ref h3, .ref h10])), (h3, .inr (6, [.ref h9, .int 1])), (h4, .inr (5, [.ref h5, .ref h7, .ref h14, .int 0])), (h5, .inr (6, [.ref h6, .int 1])), (h6, .inl (cy 1, 624, .inl (upd (fun _ => 0) 0 v0))), (h7, .inr (6, [.ref h8, .int 1])), (h8, .inl (cy 1, 624, .inl (upd (fun _ => 0) 0 (-1000)))), (h9, .inl (cy 1, 24, .inl (upd (fun _ => 0) 0 v0))), (h10, .inr (6, [.ref h11, .int 1])), (h11, .inl (cy 1, 24, .inl (upd (fun _ => 0) 0 v1))), (h12, .inr (6, [.ref h13, .int 1])), (h13, .inl (cy 1, 24, .inl (upd (fun _ => 0) 0 v0))), (h14, .inr (6, [.ref h15, .int 1])), (h15, .inl (cy 1, 12, .inl (upd (fun _ => 0) 0 1))), (h1, .inr (9, [.long (-1000), .null]))]) 0) := by
  refine xofH (by decide) (Nat.le_of_ble_eq_true rfl) (fun p e s m below meth c A C w hr hn hT ls hl => ?_)
  have hl : lv_has ls 5 [(0, .ref h0), (1, .int v0), (2, .int v1), (3, .ref h1)] := hl
  refine lv_aload_n C.1 C.2.1 dL_putNew_0 rfl (lv_at hl 3 rfl) ?_
  refine lv_aload_n C.1 C.2.1 dL_putNew_1 rfl (lv_at hl 0 rfl) ?_
  refine lv_iload_n C.1 C.2.1 dL_putNew_2 rfl (lv_at hl 1 rfl) ?_
  refine lv_iload_n C.1 C.2.1 dL_putNew_3 rfl (lv_at hl 2 rfl) ?_
  refine x_ki C w [0, 1, 2, 3, 4, 5, 6, 7, 8, 9, 10, 11, 12, 13, 14] [15] rfl rfl (by decide) (by decide) (va_runV (As := [.int v0, .int v1]) (rest := [.ref h1]) (xfix C) (c75_X4_putNew l G cy sa sv h0 h2 h3 h4 h5 h6 h7 h8 h9 h10 h11 h12 h13 h14 h15 h16 h17 h18 h19 v0 v1 p0 p1 p2 (xtr C) _) (cwV 2 (xhts C) (xgV (maxL := 0) (cc := ⟨#[]⟩) (ret := none) gw_252 gw_253 gw_254 gw_2 gc_X4_putNew) rfl rfl rfl (by decide +kernel) ⟨(Nat.le_of_ble_eq_true rfl), (Nat.le_of_ble_eq_true rfl)⟩) (xPV C w [0, 1, 2, 3, 4, 5, 6, 7, 8, 9, 10, 11, 12, 13, 14] rfl (by decide) (ci := 8) (q0 := 0) rfl rfl) rfl rfl hl.1 rfl (lv_room (Nat.le_of_ble_eq_true rfl)) dL_putNew_4 ⟨(Nat.le_of_ble_eq_true rfl), (Nat.le_of_ble_eq_true rfl)⟩) (fun f555 H locs w => ?_)
  have w : xW G A s [(h1, .inr (9, [.long 0, .null])), (h0, .inr (8, [.ref h2, .ref h12, .ref h4, .ref h16, .ref h17, .int 0, .ref h18, .ref h19])), (h2, .inr (7, [.ref h3, .ref h10])), (h3, .inr (6, [.ref h9, .int 1])), (h4, .inr (5, [.ref h5, .ref h7, .ref h14, .int 0])), (h5, .inr (6, [.ref h6, .int 1])), (h6, .inl (cy 1, 624, .inl (upd (fun _ => 0) 0 v0))), (h7, .inr (6, [.ref h8, .int 1])), (h8, .inl (cy 1, 624, .inl (upd (fun _ => 0) 0 (-1000)))), (h9, .inl (cy 1, 24, .inl (upd (fun _ => 0) 0 v0))), (h10, .inr (6, [.ref h11, .int 1])), (h11, .inl (cy 1, 24, .inl (upd (fun _ => 0) 0 v1))), (h12, .inr (6, [.ref h13, .int 1])), (h13, .inl (cy 1, 24, .inl (upd (fun _ => 0) 0 v0))), (h14, .inr (6, [.ref h15, .int 1])), (h15, .inl (cy 1, 12, .inl (upd (fun _ => 0) 0 1)))] H _ := w
  refine lv_i2l (v := (-1000)) C.1 C.2.1 dL_putNew_7 (by decide) ?_
  refine x_putN (ty := .long) (ty0 := tyX5) C w 0 9 0 (xin_X5 _) tyX5_ok nmX5 rfl rfl (by decide) (xs_f_n (xS C)) rfl rfl (by decide +kernel) rfl rfl (Nat.le_of_ble_eq_true rfl) dL_putNew_8 (fun H locs w => ?_)
  have w : xW G A s [(h1, .inr (9, [.long (-1000), .null])), (h0, .inr (8, [.ref h2, .ref h12, .ref h4, .ref h16, .ref h17, .int 0, .ref h18, .ref h19])), (h2, .inr (7, [.ref h3, .ref h10])), (h3, .inr (6, [.ref h9, .int 1])), (h4, .inr (5, [.ref h5, .ref h7, .ref h14, .int 0])), (h5, .inr (6, [.ref h6, .int 1])), (h6, .inl (cy 1, 624, .inl (upd (fun _ => 0) 0 v0))), (h7, .inr (6, [.ref h8, .int 1])), (h8, .inl (cy 1, 624, .inl (upd (fun _ => 0) 0 (-1000)))), (h9, .inl (cy 1, 24, .inl (upd (fun _ => 0) 0 v0))), (h10, .inr (6, [.ref h11, .int 1])), (h11, .inl (cy 1, 24, .inl (upd (fun _ => 0) 0 v1))), (h12, .inr (6, [.ref h13, .int 1])), (h13, .inl (cy 1, 24, .inl (upd (fun _ => 0) 0 v0))), (h14, .inr (6, [.ref h15, .int 1])), (h15, .inl (cy 1, 12, .inl (upd (fun _ => 0) 0 1)))] H _ := w
  refine lv_goto (tgt := 22) C.1 C.2.1 dL_putNew_11 (by decide) ?_
  refine lv_iconst (v := 0) C.1 C.2.1 dL_putNew_22 (by decide) ?_
  have w := w.sub (ws' := [(h0, .inr (8, [.ref h2, .ref h12, .ref h4, .ref h16, .ref h17, .int 0, .ref h18, .ref h19])), (h2, .inr (7, [.ref h3, .ref h10])), (h3, .inr (6, [.ref h9, .int 1])), (h4, .inr (5, [.ref h5, .ref h7, .ref h14, .int 0])), (h5, .inr (6, [.ref h6, .int 1])), (h6, .inl (cy 1, 624, .inl (upd (fun _ => 0) 0 v0))), (h7, .inr (6, [.ref h8, .int 1])), (h8, .inl (cy 1, 624, .inl (upd (fun _ => 0) 0 (-1000)))), (h9, .inl (cy 1, 24, .inl (upd (fun _ => 0) 0 v0))), (h10, .inr (6, [.ref h11, .int 1])), (h11, .inl (cy 1, 24, .inl (upd (fun _ => 0) 0 v1))), (h12, .inr (6, [.ref h13, .int 1])), (h13, .inl (cy 1, 24, .inl (upd (fun _ => 0) 0 v0))), (h14, .inr (6, [.ref h15, .int 1])), (h15, .inl (cy 1, 12, .inl (upd (fun _ => 0) 0 1))), (h1, .inr (9, [.long (-1000), .null]))]) [1, 2, 3, 4, 5, 6, 7, 8, 9, 10, 11, 12, 13, 14, 15, 0] (by decide) rfl rfl
  exact x_iret C w hr (fun _ => 0) rfl rfl dL_putNew_23 (Nat.le_of_ble_eq_true rfl) (Nat.le_of_ble_eq_true rfl)
set_option maxHeartbeats 4000000 in
set_option maxRecDepth 100000 in
theorem c77_X6_putNew (l : Launch) (G : va_G) (cy : Nat → ClassId) (sa : String → Nat → Nat) (sv : Nat → Nat) (h0 h1 h2 h3 h4 h5 h6 h7 : Nat) (v0 v1 : Int32) (p0 : ¬ v1 < (-999)) (p1 : v1 ≤ 999) (p2 : ¬ (-1000) = v1) : xM l G cy sa sv yX6_putNew (Cond.code yX6_putNew cX6_putNew 4 (some .int) :: XG) { frames := 15, cells := 6, slots := 37, locals := 406 } [.ref h0, .int v0, .int v1] [(h0, .inr (10, [.ref h1, .ref h4, .ref h3, .ref h2, .ref h5, .ref h6, .ref h7, .int 0, .int 0])), (h1, .inr (3, [.int 0, .ref (sv 0), .int 0])), (h2, .inr (3, [.int 0, .ref (sv 0), .int 0])), (h3, .inr (3, [.int 0, .ref (sv 0), .int 0]))] (xQi G (fun f => [(h0, .inr (10, [.ref h1, .ref h4, .ref h3, .ref (f 5), .ref h5, .ref h6, .ref h7, .int 0, .int 0])), (h1, .inr (3, [.int 1, .ref (f 3), .int 1])), (h2, .inr (3, [.int 1, .ref (f 1), .int 1])), (h3, .inr (3, [.int 1, .ref (f 4), .int 1])), ((f 0), .inl (cy 1, 2, .inl (upd (upd (fun _ => 0) 0 v0) 1 (-1000)))), ((f 1), .inl (cy 4, 10, .inr (.inr (.inr (.inr (va_up (fun _ => none) 0 (some (f 0)))))))), ((f 2), .inl (cy 1, 2, .inl (upd (upd (fun _ => 0) 0 v0) 1 v1))), ((f 3), .inl (cy 4, 10, .inr (.inr (.inr (.inr (va_up (fun _ => none) 0 (some (f 2)))))))), ((f 4), .inl (cy 4, 10, .inr (.inr (.inr (.inr (va_up (fun _ => none) 0 (some h2))))))), ((f 5), .inr (3, [.int 0, .ref (sv 0), .int 0]))]) (-1000)) := by
  refine xof (by decide) (Nat.le_of_ble_eq_true rfl) (fun p e s m below meth c A C w hr hn ls hl => ?_)
  have hl : lv_has ls 4 [(0, .ref h0), (1, .int v0), (2, .int v1)] := hl
  refine lv_aload_n C.1 C.2.1 dX6_putNew_0 rfl (lv_at hl 0 rfl) ?_
  refine lv_iload_n C.1 C.2.1 dX6_putNew_1 rfl (lv_at hl 2 rfl) ?_
  refine x_ki C w [] [0, 1, 2, 3] rfl rfl (by decide) (by decide) (va_runS (As := [.int v1]) (rest := [.ref h0]) (xfix C) (c45_X6_isNoValue l G cy sa sv v1 p0 p1 (xtr C) _) (va_cwS 1 (xhts C) (xgS gw_110 gw_111 gw_58 gc_X6_isNoValue) rfl rfl rfl (by decide +kernel) ⟨(Nat.le_of_ble_eq_true rfl), (Nat.le_of_ble_eq_true rfl)⟩) (xPS C w [] rfl (by decide)) rfl rfl hl.1 rfl (lv_room (Nat.le_of_ble_eq_true rfl)) dX6_putNew_2 ⟨(Nat.le_of_ble_eq_true rfl), (Nat.le_of_ble_eq_true rfl)⟩) (fun f569 H locs w => ?_)
  have w : xW G A s [(h0, .inr (10, [.ref h1, .ref h4, .ref h3, .ref h2, .ref h5, .ref h6, .ref h7, .int 0, .int 0])), (h1, .inr (3, [.int 0, .ref (sv 0), .int 0])), (h2, .inr (3, [.int 0, .ref (sv 0), .int 0])), (h3, .inr (3, [.int 0, .ref (sv 0), .int 0]))] H _ := w
  refine lv_iconst (v := 1) C.1 C.2.1 dX6_putNew_5 (by decide) ?_
  refine x_ki C w [0] [1, 2, 3] rfl rfl (by decide) (by decide) (va_runV (As := [.int 0, .int 1]) (rest := []) (xfix C) (c46_X6_start l G cy sa sv h0 h1 h4 h3 h2 h5 h6 h7 (xtr C) _) (cwV 2 (xhts C) (xgV (maxL := 0) (cc := ⟨#[]⟩) (ret := none) gw_114 gw_115 gw_116 gw_58 gc_X6_start) rfl rfl rfl (by decide +kernel) ⟨(Nat.le_of_ble_eq_true rfl), (Nat.le_of_ble_eq_true rfl)⟩) (xPV C w [0] rfl (by decide) (ci := 10) (q0 := 0) rfl rfl) rfl rfl hl.1 rfl (lv_room (Nat.le_of_ble_eq_true rfl)) dX6_putNew_6 ⟨(Nat.le_of_ble_eq_true rfl), (Nat.le_of_ble_eq_true rfl)⟩) (fun f570 H locs w => ?_)
  have w : xW G A s [(h1, .inr (3, [.int 0, .ref (sv 0), .int 0])), (h2, .inr (3, [.int 0, .ref (sv 0), .int 0])), (h3, .inr (3, [.int 0, .ref (sv 0), .int 0])), (h0, .inr (10, [.ref h1, .ref h4, .ref h3, .ref h2, .ref h5, .ref h6, .ref h7, .int 0, .int 0]))] H _ := w
  refine lv_if_ne (tgt := 25) C.1 C.2.1 dX6_putNew_9 (by decide) (fun c9 => absurd (by decide) c9) (fun _ => ?_)
  refine lv_aload_n C.1 C.2.1 dX6_putNew_12 rfl (lv_at hl 0 rfl) ?_
  refine lv_aload_n C.1 C.2.1 dX6_putNew_13 rfl (lv_at hl 0 rfl) ?_
  refine lv_iload_n C.1 C.2.1 dX6_putNew_14 rfl (lv_at hl 1 rfl) ?_
  refine x_ki C w [3, 0] [1, 2] rfl rfl (by decide) (by decide) (va_runV (As := [.int v0]) (rest := [.ref h0]) (xfix C) (c48_X6_isFull l G cy sa sv h0 h1 h4 h3 h2 h5 h6 h7 v0 (xtr C) _) (cwV 1 (xhts C) (xgV (maxL := 0) (cc := ⟨#[]⟩) (ret := none) gw_199 gw_200 gw_201 gw_58 gc_X6_isFull) rfl rfl rfl (by decide +kernel) ⟨(Nat.le_of_ble_eq_true rfl), (Nat.le_of_ble_eq_true rfl)⟩) (xPV C w [3, 0] rfl (by decide) (ci := 10) (q0 := 3) rfl rfl) rfl rfl hl.1 rfl (lv_room (Nat.le_of_ble_eq_true rfl)) dX6_putNew_15 ⟨(Nat.le_of_ble_eq_true rfl), (Nat.le_of_ble_eq_true rfl)⟩) (fun f572 H locs w => ?_)
  have w : xW G A s [(h2, .inr (3, [.int 0, .ref (sv 0), .int 0])), (h3, .inr (3, [.int 0, .ref (sv 0), .int 0])), (h0, .inr (10, [.ref h1, .ref h4, .ref h3, .ref h2, .ref h5, .ref h6, .ref h7, .int 0, .int 0])), (h1, .inr (3, [.int 0, .ref (sv 0), .int 0]))] H _ := w
  refine lv_iconst (v := 2) C.1 C.2.1 dX6_putNew_18 (by decide) ?_
  refine x_ki C w [] [0, 1, 2, 3] rfl rfl (by decide) (by decide) (va_runV (As := [.int 0, .int 2]) (rest := []) (xfix C) (c49_X6_fails l G cy sa sv h0 (xtr C) _) (cwV 2 (xhts C) (xgV (maxL := 0) (cc := ⟨#[]⟩) (ret := none) gw_203 gw_204 gw_205 gw_58 gc_X6_fails) rfl rfl rfl (by decide +kernel) ⟨(Nat.le_of_ble_eq_true rfl), (Nat.le_of_ble_eq_true rfl)⟩) (xPV C w [] rfl (by decide) (ci := 10) (q0 := 2) rfl rfl) rfl rfl hl.1 rfl (lv_room (Nat.le_of_ble_eq_true rfl)) dX6_putNew_19 ⟨(Nat.le_of_ble_eq_true rfl), (Nat.le_of_ble_eq_true rfl)⟩) (fun f573 H locs w => ?_)
  have w : xW G A s [(h2, .inr (3, [.int 0, .ref (sv 0), .int 0])), (h3, .inr (3, [.int 0, .ref (sv 0), .int 0])), (h0, .inr (10, [.ref h1, .ref h4, .ref h3, .ref h2, .ref h5, .ref h6, .ref h7, .int 0, .int 0])), (h1, .inr (3, [.int 0, .ref (sv 0), .int 0]))] H _ := w
  refine lv_if_eq (tgt := 27) C.1 C.2.1 dX6_putNew_22 (by decide) (fun _ => ?_) (fun c9 => absurd (by decide) c9)
  refine lv_aload_n C.1 C.2.1 dX6_putNew_27 rfl (lv_at hl 0 rfl) ?_
  refine x_get (v := .ref h1) C w 2 10 0 (xin_X6 _) rfl rfl (by decide) (List.mem_cons_of_mem _ gw_78) rfl rfl dX6_putNew_28 ?_
  refine lv_iload_n C.1 C.2.1 dX6_putNew_31 rfl (lv_at hl 1 rfl) ?_
  refine x_ki C w [3] [0, 1, 2] rfl rfl (by decide) (by decide) (va_runS (As := [.ref h1, .int v0]) (rest := []) (xfix C) (c51_X6_valueIn l G cy sa sv h1 v0 (xtr C) _) (va_cwS 2 (xhts C) (xgS gw_210 gw_211 gw_58 gc_X6_valueIn) rfl rfl rfl (by decide +kernel) ⟨(Nat.le_of_ble_eq_true rfl), (Nat.le_of_ble_eq_true rfl)⟩) (xPS C w [3] rfl (by decide)) rfl rfl hl.1 rfl (lv_room (Nat.le_of_ble_eq_true rfl)) dX6_putNew_32 ⟨(Nat.le_of_ble_eq_true rfl), (Nat.le_of_ble_eq_true rfl)⟩) (fun f576 H locs w => ?_)
  have w : xW G A s [(h2, .inr (3, [.int 0, .ref (sv 0), .int 0])), (h3, .inr (3, [.int 0, .ref (sv 0), .int 0])), (h0, .inr (10, [.ref h1, .ref h4, .ref h3, .ref h2, .ref h5, .ref h6, .ref h7, .int 0, .int 0])), (h1, .inr (3, [.int 0, .ref (sv 0), .int 0]))] H _ := w
  refine lv_istore_n (lv' := [(3, .int (-1000)), (0, .ref h0), (1, .int v0), (2, .int v1)]) C.1 C.2.1 dX6_putNew_35 rfl hl (by decide) rfl (fun ls hl => ?_)
  refine lv_aload_n C.1 C.2.1 dX6_putNew_36 rfl (lv_at hl 1 rfl) ?_
  refine lv_iload_n C.1 C.2.1 dX6_putNew_37 rfl (lv_at hl 2 rfl) ?_
  refine lv_iload_n C.1 C.2.1 dX6_putNew_38 rfl (lv_at hl 0 rfl) ?_
  refine lv_sipush (v := (-1000)) C.1 C.2.1 dX6_putNew_39 (by decide) ?_
  refine lv_icmp_ne (tgt := 49) C.1 C.2.1 dX6_putNew_42 (by decide) (fun c9 => absurd (by decide) c9) (fun _ => ?_)
  refine lv_iload_n C.1 C.2.1 dX6_putNew_45 rfl (lv_at hl 3 rfl) ?_
  refine lv_goto (tgt := 50) C.1 C.2.1 dX6_putNew_46 (by decide) ?_
  refine x_ki C w [2, 3, 0, 1] [] rfl rfl (by decide) (by decide) (va_runV (As := [.int v0, .int v1]) (rest := []) (xfix C) (c64_X6_putNow l G cy sa sv h0 h1 h2 h3 h4 h5 h6 h7 v0 v1 p2 (xtr C) _) (cwV 2 (xhts C) (xgV (maxL := 0) (cc := ⟨#[]⟩) (ret := none) gw_248 gw_249 gw_250 gw_58 gc_X6_putNow) rfl rfl rfl (by decide +kernel) ⟨(Nat.le_of_ble_eq_true rfl), (Nat.le_of_ble_eq_true rfl)⟩) (xPV C w [2, 3, 0, 1] rfl (by decide) (ci := 10) (q0 := 2) rfl rfl) rfl rfl hl.1 rfl (lv_room (Nat.le_of_ble_eq_true rfl)) dX6_putNew_50 ⟨(Nat.le_of_ble_eq_true rfl), (Nat.le_of_ble_eq_true rfl)⟩) (fun f689 H locs w => ?_)
  have w : xW G A s [(h0, .inr (10, [.ref h1, .ref h4, .ref h3, .ref (f689 5), .ref h5, .ref h6, .ref h7, .int 0, .int 0])), (h1, .inr (3, [.int 1, .ref (f689 3), .int 1])), (h2, .inr (3, [.int 1, .ref (f689 1), .int 1])), (h3, .inr (3, [.int 1, .ref (f689 4), .int 1])), ((f689 0), .inl (cy 1, 2, .inl (upd (upd (fun _ => 0) 0 v0) 1 (-1000)))), ((f689 1), .inl (cy 4, 10, .inr (.inr (.inr (.inr (va_up (fun _ => none) 0 (some (f689 0)))))))), ((f689 2), .inl (cy 1, 2, .inl (upd (upd (fun _ => 0) 0 v0) 1 v1))), ((f689 3), .inl (cy 4, 10, .inr (.inr (.inr (.inr (va_up (fun _ => none) 0 (some (f689 2)))))))), ((f689 4), .inl (cy 4, 10, .inr (.inr (.inr (.inr (va_up (fun _ => none) 0 (some h2))))))), ((f689 5), .inr (3, [.int 0, .ref (sv 0), .int 0]))] H _ := w
  refine W.widen (k := 6) (n := 37) (Nat.le_of_ble_eq_true rfl) (Nat.le_of_ble_eq_true rfl) ?_
  exact x_iret C w hr (fun k => match k with | 0 => (f689 0) | 1 => (f689 1) | 2 => (f689 2) | 3 => (f689 3) | 4 => (f689 4) | 5 => (f689 5) | _ => 0) rfl rfl dX6_putNew_53 (Nat.le_of_ble_eq_true rfl) (Nat.le_of_ble_eq_true rfl)
set_option maxHeartbeats 4000000 in
set_option maxRecDepth 100000 in
theorem c78_X4_putNew (l : Launch) (G : va_G) (cy : Nat → ClassId) (sa : String → Nat → Nat) (sv : Nat → Nat) (h0 : Nat) (v0 v1 : Int32) (p0 : ¬ v1 < (-999)) (p1 : ¬ v1 ≤ 999) : xX l G cy sa sv yX4_putNew (Cond.code yX4_putNew cX4_putNew 4 (some .int) :: XG) { frames := 9, cells := 1, slots := 6, locals := 270 } [.ref h0, .int v0, .int v1] [] (fun f => []) "java/lang/IllegalArgumentException" := by
  refine xofX (by decide) (Nat.le_of_ble_eq_true rfl) (fun p e s m below meth c A C w hno ls hl => ?_)
  have hl : lv_has ls 4 [(0, .ref h0), (1, .int v0), (2, .int v1)] := hl
  refine lv_iload_n C.1 C.2.1 dX4_putNew_0 rfl (lv_at hl 2 rfl) ?_
  refine x_kx C w [] [] rfl rfl (by decide) (by decide) (vx_runS (As := [.int v1]) (rest := []) (xfix C) (c67_X4_checkValue l G cy sa sv v1 p0 p1 (xtr C) _) (va_cwS 1 (xhts C) (xgS gw_98 gw_99 gw_2 gc_X4_checkValue) rfl rfl rfl (by decide +kernel) ⟨(Nat.le_of_ble_eq_true rfl), (Nat.le_of_ble_eq_true rfl)⟩) (xPS C w [] rfl (by decide)) rfl rfl hl.1 rfl (lv_room (Nat.le_of_ble_eq_true rfl)) dX4_putNew_1 ⟨(Nat.le_of_ble_eq_true rfl), (Nat.le_of_ble_eq_true rfl)⟩) (fun f701 H locs ce q9 w hce hcv hcl => ?_)
  have w : xW G A s [] H _ := w
  refine vx_widen (k := 1) (n := 6) (Nat.le_of_ble_eq_true rfl) (Nat.le_of_ble_eq_true rfl) ?_
  exact x_out C w hno (fun _ => 0) rfl hce hcv hcl (Nat.le_of_ble_eq_true rfl) (Nat.le_of_ble_eq_true rfl)
set_option maxHeartbeats 4000000 in
set_option maxRecDepth 100000 in
theorem c79_L_putNew (l : Launch) (G : va_G) (cy : Nat → ClassId) (sa : String → Nat → Nat) (sv : Nat → Nat) (h0 h1 h2 h3 h4 h5 h6 h7 h8 : Nat) (v0 v1 : Int32) (p0 : ¬ v1 < (-999)) (p1 : ¬ v1 ≤ 999) : xM l G cy sa sv yL_putNew (Cond.codeWith yL_putNew cL_putNew 5 (some .int) [(0, 11, 14, 19), (0, 11, 18, 21)] :: XG) { frames := 10, cells := 1, slots := 6, locals := 293 } [.ref h0, .int v0, .int v1, .ref h1] [(h0, .inr (8, [.ref h2, .ref h3, .ref h4, .ref h5, .ref h6, .int 0, .ref h7, .ref h8]))] (xQi G (fun f => [(h0, .inr (8, [.ref h2, .ref h3, .ref h4, .ref h5, .ref h6, .int 0, .ref h7, .ref h8]))]) 1) := by
  refine xofH (by decide) (Nat.le_of_ble_eq_true rfl) (fun p e s m below meth c A C w hr hn hT ls hl => ?_)
  have hl : lv_has ls 5 [(0, .ref h0), (1, .int v0), (2, .int v1), (3, .ref h1)] := hl
  refine lv_aload_n C.1 C.2.1 dL_putNew_0 rfl (lv_at hl 3 rfl) ?_
  refine lv_aload_n C.1 C.2.1 dL_putNew_1 rfl (lv_at hl 0 rfl) ?_
  refine lv_iload_n C.1 C.2.1 dL_putNew_2 rfl (lv_at hl 1 rfl) ?_
  refine lv_iload_n C.1 C.2.1 dL_putNew_3 rfl (lv_at hl 2 rfl) ?_
  refine x_kx C w [] [0] rfl rfl (by decide) (by decide) (vx_runV (As := [.int v0, .int v1]) (rest := [.ref h1]) (xfix C) (c78_X4_putNew l G cy sa sv h0 v0 v1 p0 p1 (xtr C) _) (cwV 2 (xhts C) (xgV (maxL := 0) (cc := ⟨#[]⟩) (ret := none) gw_252 gw_253 gw_254 gw_2 gc_X4_putNew) rfl rfl rfl (by decide +kernel) ⟨(Nat.le_of_ble_eq_true rfl), (Nat.le_of_ble_eq_true rfl)⟩) (xPV C w [] rfl (by decide) (ci := 8) (q0 := 0) rfl rfl) rfl rfl hl.1 rfl (lv_room (Nat.le_of_ble_eq_true rfl)) dL_putNew_4 ⟨(Nat.le_of_ble_eq_true rfl), (Nat.le_of_ble_eq_true rfl)⟩) (fun f702 H locs ce q9 w hce hcv hcl => ?_)
  have w : xW G A s [(h0, .inr (8, [.ref h2, .ref h3, .ref h4, .ref h5, .ref h6, .int 0, .ref h7, .ref h8]))] H _ := w
  refine vx_widen (k := 1) (n := 6) (Nat.le_of_ble_eq_true rfl) (Nat.le_of_ble_eq_true rfl) ?_
  refine vx_catch (xown C) [] ⟨0, 11, 14, 19⟩ [⟨0, 11, 18, 21⟩] hT (fun z hz => nomatch hz) (by decide) (by decide) (xhts C _ (List.mem_cons_of_mem _ gw_104)) (va_any rfl (xs_c1 (xS C))) hce hcv hcl ?_
  refine lv_astore (lv' := [(4, .ref q9), (0, .ref h0), (1, .int v0), (2, .int v1), (3, .ref h1)]) C.1 C.2.1 dL_putNew_14 hl (by decide) rfl (fun ls hl => ?_)
  refine lv_iconst (v := 1) C.1 C.2.1 dL_putNew_16 (by decide) ?_
  exact x_iret C w hr (fun _ => 0) rfl rfl dL_putNew_17 (Nat.le_of_ble_eq_true rfl) (Nat.le_of_ble_eq_true rfl)
set_option maxHeartbeats 4000000 in
set_option maxRecDepth 100000 in
theorem c80_X6_putNew (l : Launch) (G : va_G) (cy : Nat → ClassId) (sa : String → Nat → Nat) (sv : Nat → Nat) (h0 h1 h2 h3 h4 h5 h6 h7 : Nat) (v0 v1 : Int32) (p0 : ¬ v1 < (-999)) (p1 : ¬ v1 ≤ 999) : xM l G cy sa sv yX6_putNew (Cond.code yX6_putNew cX6_putNew 4 (some .int) :: XG) { frames := 9, cells := 0, slots := 0, locals := 272 } [.ref h0, .int v0, .int v1] [(h0, .inr (10, [.ref h1, .ref h2, .ref h3, .ref h4, .ref h5, .ref h6, .ref h7, .int 0, .int 0]))] (xQi G (fun f => [(h0, .inr (10, [.ref h1, .ref h2, .ref h3, .ref h4, .ref h5, .ref h6, .ref h7, .int 0, .int 1]))]) 0) := by
  refine xof (by decide) (Nat.le_of_ble_eq_true rfl) (fun p e s m below meth c A C w hr hn ls hl => ?_)
  have hl : lv_has ls 4 [(0, .ref h0), (1, .int v0), (2, .int v1)] := hl
  refine lv_aload_n C.1 C.2.1 dX6_putNew_0 rfl (lv_at hl 0 rfl) ?_
  refine lv_iload_n C.1 C.2.1 dX6_putNew_1 rfl (lv_at hl 2 rfl) ?_
  refine x_ki C w [] [0] rfl rfl (by decide) (by decide) (va_runS (As := [.int v1]) (rest := [.ref h0]) (xfix C) (c70_X6_isNoValue l G cy sa sv v1 p0 p1 (xtr C) _) (va_cwS 1 (xhts C) (xgS gw_110 gw_111 gw_58 gc_X6_isNoValue) rfl rfl rfl (by decide +kernel) ⟨(Nat.le_of_ble_eq_true rfl), (Nat.le_of_ble_eq_true rfl)⟩) (xPS C w [] rfl (by decide)) rfl rfl hl.1 rfl (lv_room (Nat.le_of_ble_eq_true rfl)) dX6_putNew_2 ⟨(Nat.le_of_ble_eq_true rfl), (Nat.le_of_ble_eq_true rfl)⟩) (fun f705 H locs w => ?_)
  have w : xW G A s [(h0, .inr (10, [.ref h1, .ref h2, .ref h3, .ref h4, .ref h5, .ref h6, .ref h7, .int 0, .int 0]))] H _ := w
  refine lv_iconst (v := 1) C.1 C.2.1 dX6_putNew_5 (by decide) ?_
  refine x_ki C w [0] [] rfl rfl (by decide) (by decide) (va_runV (As := [.int 1, .int 1]) (rest := []) (xfix C) (c17_X6_start l G cy sa sv h0 h1 h2 h3 h4 h5 h6 h7 (xtr C) _) (cwV 2 (xhts C) (xgV (maxL := 0) (cc := ⟨#[]⟩) (ret := none) gw_114 gw_115 gw_116 gw_58 gc_X6_start) rfl rfl rfl (by decide +kernel) ⟨(Nat.le_of_ble_eq_true rfl), (Nat.le_of_ble_eq_true rfl)⟩) (xPV C w [0] rfl (by decide) (ci := 10) (q0 := 0) rfl rfl) rfl rfl hl.1 rfl (lv_room (Nat.le_of_ble_eq_true rfl)) dX6_putNew_6 ⟨(Nat.le_of_ble_eq_true rfl), (Nat.le_of_ble_eq_true rfl)⟩) (fun f706 H locs w => ?_)
  have w : xW G A s [(h0, .inr (10, [.ref h1, .ref h2, .ref h3, .ref h4, .ref h5, .ref h6, .ref h7, .int 0, .int 1]))] H _ := w
  refine lv_if_ne (tgt := 25) C.1 C.2.1 dX6_putNew_9 (by decide) (fun _ => ?_) (fun c9 => absurd c9 (by decide))
  refine lv_iconst (v := 0) C.1 C.2.1 dX6_putNew_25 (by decide) ?_
  exact x_iret C w hr (fun _ => 0) rfl rfl dX6_putNew_26 (Nat.le_of_ble_eq_true rfl) (Nat.le_of_ble_eq_true rfl)
set_option maxHeartbeats 4000000 in
set_option maxRecDepth 100000 in
theorem c81_X4_replace (l : Launch) (G : va_G) (cy : Nat → ClassId) (sa : String → Nat → Nat) (sv : Nat → Nat) (h0 : Nat) (v0 v1 : Int32) (p0 : v1 < (-999)) : xX l G cy sa sv yX4_replace (Cond.code yX4_replace cX4_replace 4 (some .int) :: XG) { frames := 9, cells := 1, slots := 6, locals := 270 } [.ref h0, .int v0, .int v1] [] (fun f => []) "java/lang/IllegalArgumentException" := by
  refine xofX (by decide) (Nat.le_of_ble_eq_true rfl) (fun p e s m below meth c A C w hno ls hl => ?_)
  have hl : lv_has ls 4 [(0, .ref h0), (1, .int v0), (2, .int v1)] := hl
  refine lv_iload_n C.1 C.2.1 dX4_replace_0 rfl (lv_at hl 2 rfl) ?_
  refine x_kx C w [] [] rfl rfl (by decide) (by decide) (vx_runS (As := [.int v1]) (rest := []) (xfix C) (c13_X4_checkValue l G cy sa sv v1 p0 (xtr C) _) (va_cwS 1 (xhts C) (xgS gw_98 gw_99 gw_2 gc_X4_checkValue) rfl rfl rfl (by decide +kernel) ⟨(Nat.le_of_ble_eq_true rfl), (Nat.le_of_ble_eq_true rfl)⟩) (xPS C w [] rfl (by decide)) rfl rfl hl.1 rfl (lv_room (Nat.le_of_ble_eq_true rfl)) dX4_replace_1 ⟨(Nat.le_of_ble_eq_true rfl), (Nat.le_of_ble_eq_true rfl)⟩) (fun f712 H locs ce q9 w hce hcv hcl => ?_)
  have w : xW G A s [] H _ := w
  refine vx_widen (k := 1) (n := 6) (Nat.le_of_ble_eq_true rfl) (Nat.le_of_ble_eq_true rfl) ?_
  exact x_out C w hno (fun _ => 0) rfl hce hcv hcl (Nat.le_of_ble_eq_true rfl) (Nat.le_of_ble_eq_true rfl)
set_option maxHeartbeats 4000000 in
set_option maxRecDepth 100000 in
theorem c82_L_replace (l : Launch) (G : va_G) (cy : Nat → ClassId) (sa : String → Nat → Nat) (sv : Nat → Nat) (h0 h1 h2 h3 h4 h5 h6 h7 h8 : Nat) (v0 v1 : Int32) (p0 : v1 < (-999)) : xM l G cy sa sv yL_replace (Cond.codeWith yL_replace cL_replace 5 (some .int) [(0, 11, 14, 19)] :: XG) { frames := 10, cells := 1, slots := 6, locals := 293 } [.ref h0, .int v0, .int v1, .ref h1] [(h0, .inr (8, [.ref h2, .ref h3, .ref h4, .ref h5, .ref h6, .int 0, .ref h7, .ref h8]))] (xQi G (fun f => [(h0, .inr (8, [.ref h2, .ref h3, .ref h4, .ref h5, .ref h6, .int 0, .ref h7, .ref h8]))]) 1) := by
  refine xofH (by decide) (Nat.le_of_ble_eq_true rfl) (fun p e s m below meth c A C w hr hn hT ls hl => ?_)
  have hl : lv_has ls 5 [(0, .ref h0), (1, .int v0), (2, .int v1), (3, .ref h1)] := hl
  refine lv_aload_n C.1 C.2.1 dL_replace_0 rfl (lv_at hl 3 rfl) ?_
  refine lv_aload_n C.1 C.2.1 dL_replace_1 rfl (lv_at hl 0 rfl) ?_
  refine lv_iload_n C.1 C.2.1 dL_replace_2 rfl (lv_at hl 1 rfl) ?_
  refine lv_iload_n C.1 C.2.1 dL_replace_3 rfl (lv_at hl 2 rfl) ?_
  refine x_kx C w [] [0] rfl rfl (by decide) (by decide) (vx_runV (As := [.int v0, .int v1]) (rest := [.ref h1]) (xfix C) (c81_X4_replace l G cy sa sv h0 v0 v1 p0 (xtr C) _) (cwV 2 (xhts C) (xgV (maxL := 0) (cc := ⟨#[]⟩) (ret := none) gw_263 gw_264 gw_265 gw_2 gc_X4_replace) rfl rfl rfl (by decide +kernel) ⟨(Nat.le_of_ble_eq_true rfl), (Nat.le_of_ble_eq_true rfl)⟩) (xPV C w [] rfl (by decide) (ci := 8) (q0 := 0) rfl rfl) rfl rfl hl.1 rfl (lv_room (Nat.le_of_ble_eq_true rfl)) dL_replace_4 ⟨(Nat.le_of_ble_eq_true rfl), (Nat.le_of_ble_eq_true rfl)⟩) (fun f713 H locs ce q9 w hce hcv hcl => ?_)
  have w : xW G A s [(h0, .inr (8, [.ref h2, .ref h3, .ref h4, .ref h5, .ref h6, .int 0, .ref h7, .ref h8]))] H _ := w
  refine vx_widen (k := 1) (n := 6) (Nat.le_of_ble_eq_true rfl) (Nat.le_of_ble_eq_true rfl) ?_
  refine vx_catch (xown C) [] ⟨0, 11, 14, 19⟩ [] hT (fun z hz => nomatch hz) (by decide) (by decide) (xhts C _ (List.mem_cons_of_mem _ gw_104)) (va_any rfl (xs_c1 (xS C))) hce hcv hcl ?_
  refine lv_astore (lv' := [(4, .ref q9), (0, .ref h0), (1, .int v0), (2, .int v1), (3, .ref h1)]) C.1 C.2.1 dL_replace_14 hl (by decide) rfl (fun ls hl => ?_)
  refine lv_iconst (v := 1) C.1 C.2.1 dL_replace_16 (by decide) ?_
  exact x_iret C w hr (fun _ => 0) rfl rfl dL_replace_17 (Nat.le_of_ble_eq_true rfl) (Nat.le_of_ble_eq_true rfl)
set_option maxHeartbeats 4000000 in
set_option maxRecDepth 100000 in
theorem c83_X6_replace (l : Launch) (G : va_G) (cy : Nat → ClassId) (sa : String → Nat → Nat) (sv : Nat → Nat) (h0 h1 h2 h3 h4 h5 h6 h7 : Nat) (v0 v1 : Int32) (p0 : v1 < (-999)) : xM l G cy sa sv yX6_replace (Cond.code yX6_replace cX6_replace 3 (some .int) :: XG) { frames := 9, cells := 0, slots := 0, locals := 272 } [.ref h0, .int v0, .int v1] [(h0, .inr (10, [.ref h1, .ref h2, .ref h3, .ref h4, .ref h5, .ref h6, .ref h7, .int 0, .int 0]))] (xQi G (fun f => [(h0, .inr (10, [.ref h1, .ref h2, .ref h3, .ref h4, .ref h5, .ref h6, .ref h7, .int 0, .int 1]))]) 0) := by
  refine xof (by decide) (Nat.le_of_ble_eq_true rfl) (fun p e s m below meth c A C w hr hn ls hl => ?_)
  have hl : lv_has ls 3 [(0, .ref h0), (1, .int v0), (2, .int v1)] := hl
  refine lv_aload_n C.1 C.2.1 dX6_replace_0 rfl (lv_at hl 0 rfl) ?_
  refine lv_iload_n C.1 C.2.1 dX6_replace_1 rfl (lv_at hl 2 rfl) ?_
  refine x_ki C w [] [0] rfl rfl (by decide) (by decide) (va_runS (As := [.int v1]) (rest := [.ref h0]) (xfix C) (c16_X6_isNoValue l G cy sa sv v1 p0 (xtr C) _) (va_cwS 1 (xhts C) (xgS gw_110 gw_111 gw_58 gc_X6_isNoValue) rfl rfl rfl (by decide +kernel) ⟨(Nat.le_of_ble_eq_true rfl), (Nat.le_of_ble_eq_true rfl)⟩) (xPS C w [] rfl (by decide)) rfl rfl hl.1 rfl (lv_room (Nat.le_of_ble_eq_true rfl)) dX6_replace_2 ⟨(Nat.le_of_ble_eq_true rfl), (Nat.le_of_ble_eq_true rfl)⟩) (fun f716 H locs w => ?_)
  have w : xW G A s [(h0, .inr (10, [.ref h1, .ref h2, .ref h3, .ref h4, .ref h5, .ref h6, .ref h7, .int 0, .int 0]))] H _ := w
  refine lv_iconst (v := 1) C.1 C.2.1 dX6_replace_5 (by decide) ?_
  refine x_ki C w [0] [] rfl rfl (by decide) (by decide) (va_runV (As := [.int 1, .int 1]) (rest := []) (xfix C) (c17_X6_start l G cy sa sv h0 h1 h2 h3 h4 h5 h6 h7 (xtr C) _) (cwV 2 (xhts C) (xgV (maxL := 0) (cc := ⟨#[]⟩) (ret := none) gw_114 gw_115 gw_116 gw_58 gc_X6_start) rfl rfl rfl (by decide +kernel) ⟨(Nat.le_of_ble_eq_true rfl), (Nat.le_of_ble_eq_true rfl)⟩) (xPV C w [0] rfl (by decide) (ci := 10) (q0 := 0) rfl rfl) rfl rfl hl.1 rfl (lv_room (Nat.le_of_ble_eq_true rfl)) dX6_replace_6 ⟨(Nat.le_of_ble_eq_true rfl), (Nat.le_of_ble_eq_true rfl)⟩) (fun f717 H locs w => ?_)
  have w : xW G A s [(h0, .inr (10, [.ref h1, .ref h2, .ref h3, .ref h4, .ref h5, .ref h6, .ref h7, .int 0, .int 1]))] H _ := w
  refine lv_if_eq (tgt := 14) C.1 C.2.1 dX6_replace_9 (by decide) (fun c9 => absurd c9 (by decide)) (fun _ => ?_)
  refine lv_iconst (v := 0) C.1 C.2.1 dX6_replace_12 (by decide) ?_
  exact x_iret C w hr (fun _ => 0) rfl rfl dX6_replace_13 (Nat.le_of_ble_eq_true rfl) (Nat.le_of_ble_eq_true rfl)
set_option maxHeartbeats 4000000 in
set_option maxRecDepth 100000 in
theorem c84_X4_replace (l : Launch) (G : va_G) (cy : Nat → ClassId) (sa : String → Nat → Nat) (sv : Nat → Nat) (h0 h1 h2 h3 h4 h5 h6 h7 h8 h9 h10 : Nat) (v0 v1 : Int32) (p0 : ¬ v1 < (-999)) (p1 : v1 ≤ 999) : xM l G cy sa sv yX4_replace (Cond.code yX4_replace cX4_replace 4 (some .int) :: XG) { frames := 10, cells := 0, slots := 0, locals := 294 } [.ref h0, .int v0, .int v1] [(h0, .inr (8, [.ref h1, .ref h3, .ref h4, .ref h5, .ref h6, .int 0, .ref h7, .ref h8])), (h1, .inr (7, [.ref h2, .ref h9])), (h2, .inr (6, [.ref h10, .int 0]))] (xQi G (fun f => [(h0, .inr (8, [.ref h1, .ref h3, .ref h4, .ref h5, .ref h6, .int 0, .ref h7, .ref h8])), (h1, .inr (7, [.ref h2, .ref h9])), (h2, .inr (6, [.ref h10, .int 0]))]) (-1000)) := by
  refine xof (by decide) (Nat.le_of_ble_eq_true rfl) (fun p e s m below meth c A C w hr hn ls hl => ?_)
  have hl : lv_has ls 4 [(0, .ref h0), (1, .int v0), (2, .int v1)] := hl
  refine lv_iload_n C.1 C.2.1 dX4_replace_0 rfl (lv_at hl 2 rfl) ?_
  refine x_kv C w [] [0, 1, 2] rfl rfl (by decide) (by decide) (va_runS (As := [.int v1]) (rest := []) (xfix C) (c20_X4_checkValue l G cy sa sv v1 p0 p1 (xtr C) _) (va_cwS 1 (xhts C) (xgS gw_98 gw_99 gw_2 gc_X4_checkValue) rfl rfl rfl (by decide +kernel) ⟨(Nat.le_of_ble_eq_true rfl), (Nat.le_of_ble_eq_true rfl)⟩) (xPS C w [] rfl (by decide)) rfl rfl hl.1 rfl (lv_room (Nat.le_of_ble_eq_true rfl)) dX4_replace_1 ⟨(Nat.le_of_ble_eq_true rfl), (Nat.le_of_ble_eq_true rfl)⟩) (fun f720 H locs w => ?_)
  have w : xW G A s [(h0, .inr (8, [.ref h1, .ref h3, .ref h4, .ref h5, .ref h6, .int 0, .ref h7, .ref h8])), (h1, .inr (7, [.ref h2, .ref h9])), (h2, .inr (6, [.ref h10, .int 0]))] H _ := w
  refine lv_aload_n C.1 C.2.1 dX4_replace_4 rfl (lv_at hl 0 rfl) ?_
  refine x_get (v := .ref h1) C w 0 8 0 (xin_X4 _) rfl rfl (by decide) (List.mem_cons_of_mem _ gw_24) rfl rfl dX4_replace_5 ?_
  refine lv_iload_n C.1 C.2.1 dX4_replace_8 rfl (lv_at hl 1 rfl) ?_
  refine x_ki C w [1, 2] [0] rfl rfl (by decide) (by decide) (va_runV (As := [.int v0]) (rest := []) (xfix C) (c25_X3_valueOf l G cy sa sv h1 h2 h9 h10 v0 (xtr C) _) (cwV 1 (xhts C) (xgV (maxL := 0) (cc := ⟨#[]⟩) (ret := none) gw_142 gw_143 gw_144 gw_7 gc_X3_valueOf) rfl rfl rfl (by decide +kernel) ⟨(Nat.le_of_ble_eq_true rfl), (Nat.le_of_ble_eq_true rfl)⟩) (xPV C w [1, 2] rfl (by decide) (ci := 7) (q0 := 1) rfl rfl) rfl rfl hl.1 rfl (lv_room (Nat.le_of_ble_eq_true rfl)) dX4_replace_9 ⟨(Nat.le_of_ble_eq_true rfl), (Nat.le_of_ble_eq_true rfl)⟩) (fun f722 H locs w => ?_)
  have w : xW G A s [(h0, .inr (8, [.ref h1, .ref h3, .ref h4, .ref h5, .ref h6, .int 0, .ref h7, .ref h8])), (h1, .inr (7, [.ref h2, .ref h9])), (h2, .inr (6, [.ref h10, .int 0]))] H _ := w
  refine lv_istore_n (lv' := [(3, .int (-1000)), (0, .ref h0), (1, .int v0), (2, .int v1)]) C.1 C.2.1 dX4_replace_12 rfl hl (by decide) rfl (fun ls hl => ?_)
  refine lv_iload_n C.1 C.2.1 dX4_replace_13 rfl (lv_at hl 0 rfl) ?_
  refine lv_sipush (v := (-1000)) C.1 C.2.1 dX4_replace_14 (by decide) ?_
  refine lv_icmp_eq (tgt := 33) C.1 C.2.1 dX4_replace_17 (by decide) (fun _ => ?_) (fun c9 => absurd (by decide) c9)
  refine lv_iload_n C.1 C.2.1 dX4_replace_33 rfl (lv_at hl 0 rfl) ?_
  exact x_iret C w hr (fun _ => 0) rfl rfl dX4_replace_34 (Nat.le_of_ble_eq_true rfl) (Nat.le_of_ble_eq_true rfl)
set_option maxHeartbeats 4000000 in
set_option maxRecDepth 100000 in
theorem c85_L_replace (l : Launch) (G : va_G) (cy : Nat → ClassId) (sa : String → Nat → Nat) (sv : Nat → Nat) (h0 h1 h2 h3 h4 h5 h6 h7 h8 h9 h10 h11 : Nat) (v0 v1 : Int32) (p0 : ¬ v1 < (-999)) (p1 : v1 ≤ 999) : xM l G cy sa sv yL_replace (Cond.codeWith yL_replace cL_replace 5 (some .int) [(0, 11, 14, 19)] :: XG) { frames := 11, cells := 0, slots := 0, locals := 317 } [.ref h0, .int v0, .int v1, .ref h1] [(h0, .inr (8, [.ref h2, .ref h4, .ref h5, .ref h6, .ref h7, .int 0, .ref h8, .ref h9])), (h2, .inr (7, [.ref h3, .ref h10])), (h3, .inr (6, [.ref h11, .int 0])), (h1, .inr (9, [.long 0, .null]))] (xQi G (fun f => [(h0, .inr (8, [.ref h2, .ref h4, .ref h5, .ref h6, .ref h7, .int 0, .ref h8, .ref h9])), (h2, .inr (7, [.ref h3, .ref h10])), (h3, .inr (6, [.ref h11, .int 0])), (h1, .inr (9, [.long (-1000), .null]))]) 0) := by
  refine xofH (by decide) (Nat.le_of_ble_eq_true rfl) (fun p e s m below meth c A C w hr hn hT ls hl => ?_)
  have hl : lv_has ls 5 [(0, .ref h0), (1, .int v0), (2, .int v1), (3, .ref h1)] := hl
  refine lv_aload_n C.1 C.2.1 dL_replace_0 rfl (lv_at hl 3 rfl) ?_
  refine lv_aload_n C.1 C.2.1 dL_replace_1 rfl (lv_at hl 0 rfl) ?_
  refine lv_iload_n C.1 C.2.1 dL_replace_2 rfl (lv_at hl 1 rfl) ?_
  refine lv_iload_n C.1 C.2.1 dL_replace_3 rfl (lv_at hl 2 rfl) ?_
  refine x_ki C w [0, 1, 2] [3] rfl rfl (by decide) (by decide) (va_runV (As := [.int v0, .int v1]) (rest := [.ref h1]) (xfix C) (c84_X4_replace l G cy sa sv h0 h2 h3 h4 h5 h6 h7 h8 h9 h10 h11 v0 v1 p0 p1 (xtr C) _) (cwV 2 (xhts C) (xgV (maxL := 0) (cc := ⟨#[]⟩) (ret := none) gw_263 gw_264 gw_265 gw_2 gc_X4_replace) rfl rfl rfl (by decide +kernel) ⟨(Nat.le_of_ble_eq_true rfl), (Nat.le_of_ble_eq_true rfl)⟩) (xPV C w [0, 1, 2] rfl (by decide) (ci := 8) (q0 := 0) rfl rfl) rfl rfl hl.1 rfl (lv_room (Nat.le_of_ble_eq_true rfl)) dL_replace_4 ⟨(Nat.le_of_ble_eq_true rfl), (Nat.le_of_ble_eq_true rfl)⟩) (fun f723 H locs w => ?_)
  have w : xW G A s [(h1, .inr (9, [.long 0, .null])), (h0, .inr (8, [.ref h2, .ref h4, .ref h5, .ref h6, .ref h7, .int 0, .ref h8, .ref h9])), (h2, .inr (7, [.ref h3, .ref h10])), (h3, .inr (6, [.ref h11, .int 0]))] H _ := w
  refine lv_i2l (v := (-1000)) C.1 C.2.1 dL_replace_7 (by decide) ?_
  refine x_putN (ty := .long) (ty0 := tyX5) C w 0 9 0 (xin_X5 _) tyX5_ok nmX5 rfl rfl (by decide) (xs_f_n (xS C)) rfl rfl (by decide +kernel) rfl rfl (Nat.le_of_ble_eq_true rfl) dL_replace_8 (fun H locs w => ?_)
  have w : xW G A s [(h1, .inr (9, [.long (-1000), .null])), (h0, .inr (8, [.ref h2, .ref h4, .ref h5, .ref h6, .ref h7, .int 0, .ref h8, .ref h9])), (h2, .inr (7, [.ref h3, .ref h10])), (h3, .inr (6, [.ref h11, .int 0]))] H _ := w
  refine lv_goto (tgt := 18) C.1 C.2.1 dL_replace_11 (by decide) ?_
  refine lv_iconst (v := 0) C.1 C.2.1 dL_replace_18 (by decide) ?_
  have w := w.sub (ws' := [(h0, .inr (8, [.ref h2, .ref h4, .ref h5, .ref h6, .ref h7, .int 0, .ref h8, .ref h9])), (h2, .inr (7, [.ref h3, .ref h10])), (h3, .inr (6, [.ref h11, .int 0])), (h1, .inr (9, [.long (-1000), .null]))]) [1, 2, 3, 0] (by decide) rfl rfl
  exact x_iret C w hr (fun _ => 0) rfl rfl dL_replace_19 (Nat.le_of_ble_eq_true rfl) (Nat.le_of_ble_eq_true rfl)
set_option maxHeartbeats 4000000 in
set_option maxRecDepth 100000 in
theorem c86_X6_replace (l : Launch) (G : va_G) (cy : Nat → ClassId) (sa : String → Nat → Nat) (sv : Nat → Nat) (h0 h1 h2 h3 h4 h5 h6 h7 : Nat) (v0 v1 : Int32) (p0 : ¬ v1 < (-999)) (p1 : v1 ≤ 999) : xM l G cy sa sv yX6_replace (Cond.code yX6_replace cX6_replace 3 (some .int) :: XG) { frames := 10, cells := 0, slots := 0, locals := 292 } [.ref h0, .int v0, .int v1] [(h0, .inr (10, [.ref h1, .ref h2, .ref h3, .ref h4, .ref h5, .ref h6, .ref h7, .int 0, .int 0])), (h1, .inr (3, [.int 0, .ref (sv 0), .int 0]))] (xQi G (fun f => [(h0, .inr (10, [.ref h1, .ref h2, .ref h3, .ref h4, .ref h5, .ref h6, .ref h7, .int 0, .int 0])), (h1, .inr (3, [.int 0, .ref (sv 0), .int 0]))]) (-1000)) := by
  refine xof (by decide) (Nat.le_of_ble_eq_true rfl) (fun p e s m below meth c A C w hr hn ls hl => ?_)
  have hl : lv_has ls 3 [(0, .ref h0), (1, .int v0), (2, .int v1)] := hl
  refine lv_aload_n C.1 C.2.1 dX6_replace_0 rfl (lv_at hl 0 rfl) ?_
  refine lv_iload_n C.1 C.2.1 dX6_replace_1 rfl (lv_at hl 2 rfl) ?_
  refine x_ki C w [] [0, 1] rfl rfl (by decide) (by decide) (va_runS (As := [.int v1]) (rest := [.ref h0]) (xfix C) (c45_X6_isNoValue l G cy sa sv v1 p0 p1 (xtr C) _) (va_cwS 1 (xhts C) (xgS gw_110 gw_111 gw_58 gc_X6_isNoValue) rfl rfl rfl (by decide +kernel) ⟨(Nat.le_of_ble_eq_true rfl), (Nat.le_of_ble_eq_true rfl)⟩) (xPS C w [] rfl (by decide)) rfl rfl hl.1 rfl (lv_room (Nat.le_of_ble_eq_true rfl)) dX6_replace_2 ⟨(Nat.le_of_ble_eq_true rfl), (Nat.le_of_ble_eq_true rfl)⟩) (fun f725 H locs w => ?_)
  have w : xW G A s [(h0, .inr (10, [.ref h1, .ref h2, .ref h3, .ref h4, .ref h5, .ref h6, .ref h7, .int 0, .int 0])), (h1, .inr (3, [.int 0, .ref (sv 0), .int 0]))] H _ := w
  refine lv_iconst (v := 1) C.1 C.2.1 dX6_replace_5 (by decide) ?_
  refine x_ki C w [0] [1] rfl rfl (by decide) (by decide) (va_runV (As := [.int 0, .int 1]) (rest := []) (xfix C) (c46_X6_start l G cy sa sv h0 h1 h2 h3 h4 h5 h6 h7 (xtr C) _) (cwV 2 (xhts C) (xgV (maxL := 0) (cc := ⟨#[]⟩) (ret := none) gw_114 gw_115 gw_116 gw_58 gc_X6_start) rfl rfl rfl (by decide +kernel) ⟨(Nat.le_of_ble_eq_true rfl), (Nat.le_of_ble_eq_true rfl)⟩) (xPV C w [0] rfl (by decide) (ci := 10) (q0 := 0) rfl rfl) rfl rfl hl.1 rfl (lv_room (Nat.le_of_ble_eq_true rfl)) dX6_replace_6 ⟨(Nat.le_of_ble_eq_true rfl), (Nat.le_of_ble_eq_true rfl)⟩) (fun f726 H locs w => ?_)
  have w : xW G A s [(h1, .inr (3, [.int 0, .ref (sv 0), .int 0])), (h0, .inr (10, [.ref h1, .ref h2, .ref h3, .ref h4, .ref h5, .ref h6, .ref h7, .int 0, .int 0]))] H _ := w
  refine lv_if_eq (tgt := 14) C.1 C.2.1 dX6_replace_9 (by decide) (fun _ => ?_) (fun c9 => absurd (by decide) c9)
  refine lv_aload_n C.1 C.2.1 dX6_replace_14 rfl (lv_at hl 0 rfl) ?_
  refine x_get (v := .ref h1) C w 1 10 0 (xin_X6 _) rfl rfl (by decide) (List.mem_cons_of_mem _ gw_78) rfl rfl dX6_replace_15 ?_
  refine lv_iload_n C.1 C.2.1 dX6_replace_18 rfl (lv_at hl 1 rfl) ?_
  refine x_ki C w [0] [1] rfl rfl (by decide) (by decide) (va_runS (As := [.ref h1, .int v0]) (rest := []) (xfix C) (c50_X6_at l G cy sa sv h1 v0 (xtr C) _) (va_cwS 2 (xhts C) (xgS gw_207 gw_208 gw_58 gc_X6_at) rfl rfl rfl (by decide +kernel) ⟨(Nat.le_of_ble_eq_true rfl), (Nat.le_of_ble_eq_true rfl)⟩) (xPS C w [0] rfl (by decide)) rfl rfl hl.1 rfl (lv_room (Nat.le_of_ble_eq_true rfl)) dX6_replace_19 ⟨(Nat.le_of_ble_eq_true rfl), (Nat.le_of_ble_eq_true rfl)⟩) (fun f728 H locs w => ?_)
  have w : xW G A s [(h0, .inr (10, [.ref h1, .ref h2, .ref h3, .ref h4, .ref h5, .ref h6, .ref h7, .int 0, .int 0])), (h1, .inr (3, [.int 0, .ref (sv 0), .int 0]))] H _ := w
  refine lv_if_ge (tgt := 31) C.1 C.2.1 dX6_replace_22 (by decide) (fun c9 => absurd c9 (by decide)) (fun _ => ?_)
  refine lv_sipush (v := (-1000)) C.1 C.2.1 dX6_replace_25 (by decide) ?_
  refine lv_goto (tgt := 37) C.1 C.2.1 dX6_replace_28 (by decide) ?_
  exact x_iret C w hr (fun _ => 0) rfl rfl dX6_replace_37 (Nat.le_of_ble_eq_true rfl) (Nat.le_of_ble_eq_true rfl)
set_option maxHeartbeats 4000000 in
set_option maxRecDepth 100000 in
theorem c87_X4_replace (l : Launch) (G : va_G) (cy : Nat → ClassId) (sa : String → Nat → Nat) (sv : Nat → Nat) (h0 : Nat) (v0 v1 : Int32) (p0 : ¬ v1 < (-999)) (p1 : ¬ v1 ≤ 999) : xX l G cy sa sv yX4_replace (Cond.code yX4_replace cX4_replace 4 (some .int) :: XG) { frames := 9, cells := 1, slots := 6, locals := 270 } [.ref h0, .int v0, .int v1] [] (fun f => []) "java/lang/IllegalArgumentException" := by
  refine xofX (by decide) (Nat.le_of_ble_eq_true rfl) (fun p e s m below meth c A C w hno ls hl => ?_)
  have hl : lv_has ls 4 [(0, .ref h0), (1, .int v0), (2, .int v1)] := hl
  refine lv_iload_n C.1 C.2.1 dX4_replace_0 rfl (lv_at hl 2 rfl) ?_
  refine x_kx C w [] [] rfl rfl (by decide) (by decide) (vx_runS (As := [.int v1]) (rest := []) (xfix C) (c67_X4_checkValue l G cy sa sv v1 p0 p1 (xtr C) _) (va_cwS 1 (xhts C) (xgS gw_98 gw_99 gw_2 gc_X4_checkValue) rfl rfl rfl (by decide +kernel) ⟨(Nat.le_of_ble_eq_true rfl), (Nat.le_of_ble_eq_true rfl)⟩) (xPS C w [] rfl (by decide)) rfl rfl hl.1 rfl (lv_room (Nat.le_of_ble_eq_true rfl)) dX4_replace_1 ⟨(Nat.le_of_ble_eq_true rfl), (Nat.le_of_ble_eq_true rfl)⟩) (fun f734 H locs ce q9 w hce hcv hcl => ?_)
  have w : xW G A s [] H _ := w
  refine vx_widen (k := 1) (n := 6) (Nat.le_of_ble_eq_true rfl) (Nat.le_of_ble_eq_true rfl) ?_
  exact x_out C w hno (fun _ => 0) rfl hce hcv hcl (Nat.le_of_ble_eq_true rfl) (Nat.le_of_ble_eq_true rfl)
set_option maxHeartbeats 4000000 in
set_option maxRecDepth 100000 in
theorem c88_L_replace (l : Launch) (G : va_G) (cy : Nat → ClassId) (sa : String → Nat → Nat) (sv : Nat → Nat) (h0 h1 h2 h3 h4 h5 h6 h7 h8 : Nat) (v0 v1 : Int32) (p0 : ¬ v1 < (-999)) (p1 : ¬ v1 ≤ 999) : xM l G cy sa sv yL_replace (Cond.codeWith yL_replace cL_replace 5 (some .int) [(0, 11, 14, 19)] :: XG) { frames := 10, cells := 1, slots := 6, locals := 293 } [.ref h0, .int v0, .int v1, .ref h1] [(h0, .inr (8, [.ref h2, .ref h3, .ref h4, .ref h5, .ref h6, .int 0, .ref h7, .ref h8]))] (xQi G (fun f => [(h0, .inr (8, [.ref h2, .ref h3, .ref h4, .ref h5, .ref h6, .int 0, .ref h7, .ref h8]))]) 1) := by
  refine xofH (by decide) (Nat.le_of_ble_eq_true rfl) (fun p e s m below meth c A C w hr hn hT ls hl => ?_)
  have hl : lv_has ls 5 [(0, .ref h0), (1, .int v0), (2, .int v1), (3, .ref h1)] := hl
  refine lv_aload_n C.1 C.2.1 dL_replace_0 rfl (lv_at hl 3 rfl) ?_
  refine lv_aload_n C.1 C.2.1 dL_replace_1 rfl (lv_at hl 0 rfl) ?_
  refine lv_iload_n C.1 C.2.1 dL_replace_2 rfl (lv_at hl 1 rfl) ?_
  refine lv_iload_n C.1 C.2.1 dL_replace_3 rfl (lv_at hl 2 rfl) ?_
  refine x_kx C w [] [0] rfl rfl (by decide) (by decide) (vx_runV (As := [.int v0, .int v1]) (rest := [.ref h1]) (xfix C) (c87_X4_replace l G cy sa sv h0 v0 v1 p0 p1 (xtr C) _) (cwV 2 (xhts C) (xgV (maxL := 0) (cc := ⟨#[]⟩) (ret := none) gw_263 gw_264 gw_265 gw_2 gc_X4_replace) rfl rfl rfl (by decide +kernel) ⟨(Nat.le_of_ble_eq_true rfl), (Nat.le_of_ble_eq_true rfl)⟩) (xPV C w [] rfl (by decide) (ci := 8) (q0 := 0) rfl rfl) rfl rfl hl.1 rfl (lv_room (Nat.le_of_ble_eq_true rfl)) dL_replace_4 ⟨(Nat.le_of_ble_eq_true rfl), (Nat.le_of_ble_eq_true rfl)⟩) (fun f735 H locs ce q9 w hce hcv hcl => ?_)
  have w : xW G A s [(h0, .inr (8, [.ref h2, .ref h3, .ref h4, .ref h5, .ref h6, .int 0, .ref h7, .ref h8]))] H _ := w
  refine vx_widen (k := 1) (n := 6) (Nat.le_of_ble_eq_true rfl) (Nat.le_of_ble_eq_true rfl) ?_
  refine vx_catch (xown C) [] ⟨0, 11, 14, 19⟩ [] hT (fun z hz => nomatch hz) (by decide) (by decide) (xhts C _ (List.mem_cons_of_mem _ gw_104)) (va_any rfl (xs_c1 (xS C))) hce hcv hcl ?_
  refine lv_astore (lv' := [(4, .ref q9), (0, .ref h0), (1, .int v0), (2, .int v1), (3, .ref h1)]) C.1 C.2.1 dL_replace_14 hl (by decide) rfl (fun ls hl => ?_)
  refine lv_iconst (v := 1) C.1 C.2.1 dL_replace_16 (by decide) ?_
  exact x_iret C w hr (fun _ => 0) rfl rfl dL_replace_17 (Nat.le_of_ble_eq_true rfl) (Nat.le_of_ble_eq_true rfl)
set_option maxHeartbeats 4000000 in
set_option maxRecDepth 100000 in
theorem c89_X6_replace (l : Launch) (G : va_G) (cy : Nat → ClassId) (sa : String → Nat → Nat) (sv : Nat → Nat) (h0 h1 h2 h3 h4 h5 h6 h7 : Nat) (v0 v1 : Int32) (p0 : ¬ v1 < (-999)) (p1 : ¬ v1 ≤ 999) : xM l G cy sa sv yX6_replace (Cond.code yX6_replace cX6_replace 3 (some .int) :: XG) { frames := 9, cells := 0, slots := 0, locals := 272 } [.ref h0, .int v0, .int v1] [(h0, .inr (10, [.ref h1, .ref h2, .ref h3, .ref h4, .ref h5, .ref h6, .ref h7, .int 0, .int 0]))] (xQi G (fun f => [(h0, .inr (10, [.ref h1, .ref h2, .ref h3, .ref h4, .ref h5, .ref h6, .ref h7, .int 0, .int 1]))]) 0) := by
  refine xof (by decide) (Nat.le_of_ble_eq_true rfl) (fun p e s m below meth c A C w hr hn ls hl => ?_)
  have hl : lv_has ls 3 [(0, .ref h0), (1, .int v0), (2, .int v1)] := hl
  refine lv_aload_n C.1 C.2.1 dX6_replace_0 rfl (lv_at hl 0 rfl) ?_
  refine lv_iload_n C.1 C.2.1 dX6_replace_1 rfl (lv_at hl 2 rfl) ?_
  refine x_ki C w [] [0] rfl rfl (by decide) (by decide) (va_runS (As := [.int v1]) (rest := [.ref h0]) (xfix C) (c70_X6_isNoValue l G cy sa sv v1 p0 p1 (xtr C) _) (va_cwS 1 (xhts C) (xgS gw_110 gw_111 gw_58 gc_X6_isNoValue) rfl rfl rfl (by decide +kernel) ⟨(Nat.le_of_ble_eq_true rfl), (Nat.le_of_ble_eq_true rfl)⟩) (xPS C w [] rfl (by decide)) rfl rfl hl.1 rfl (lv_room (Nat.le_of_ble_eq_true rfl)) dX6_replace_2 ⟨(Nat.le_of_ble_eq_true rfl), (Nat.le_of_ble_eq_true rfl)⟩) (fun f738 H locs w => ?_)
  have w : xW G A s [(h0, .inr (10, [.ref h1, .ref h2, .ref h3, .ref h4, .ref h5, .ref h6, .ref h7, .int 0, .int 0]))] H _ := w
  refine lv_iconst (v := 1) C.1 C.2.1 dX6_replace_5 (by decide) ?_
  refine x_ki C w [0] [] rfl rfl (by decide) (by decide) (va_runV (As := [.int 1, .int 1]) (rest := []) (xfix C) (c17_X6_start l G cy sa sv h0 h1 h2 h3 h4 h5 h6 h7 (xtr C) _) (cwV 2 (xhts C) (xgV (maxL := 0) (cc := ⟨#[]⟩) (ret := none) gw_114 gw_115 gw_116 gw_58 gc_X6_start) rfl rfl rfl (by decide +kernel) ⟨(Nat.le_of_ble_eq_true rfl), (Nat.le_of_ble_eq_true rfl)⟩) (xPV C w [0] rfl (by decide) (ci := 10) (q0 := 0) rfl rfl) rfl rfl hl.1 rfl (lv_room (Nat.le_of_ble_eq_true rfl)) dX6_replace_6 ⟨(Nat.le_of_ble_eq_true rfl), (Nat.le_of_ble_eq_true rfl)⟩) (fun f739 H locs w => ?_)
  have w : xW G A s [(h0, .inr (10, [.ref h1, .ref h2, .ref h3, .ref h4, .ref h5, .ref h6, .ref h7, .int 0, .int 1]))] H _ := w
  refine lv_if_eq (tgt := 14) C.1 C.2.1 dX6_replace_9 (by decide) (fun c9 => absurd c9 (by decide)) (fun _ => ?_)
  refine lv_iconst (v := 0) C.1 C.2.1 dX6_replace_12 (by decide) ?_
  exact x_iret C w hr (fun _ => 0) rfl rfl dX6_replace_13 (Nat.le_of_ble_eq_true rfl) (Nat.le_of_ble_eq_true rfl)
set_option maxHeartbeats 4000000 in
set_option maxRecDepth 100000 in
theorem c90_X4_replaceIf (l : Launch) (G : va_G) (cy : Nat → ClassId) (sa : String → Nat → Nat) (sv : Nat → Nat) (h0 : Nat) (v0 v1 v2 : Int32) (p0 : v2 < (-999)) : xX l G cy sa sv yX4_replaceIf (Cond.code yX4_replaceIf cX4_replaceIf 4 (some .boolean) :: XG) { frames := 9, cells := 1, slots := 6, locals := 270 } [.ref h0, .int v0, .int v1, .int v2] [] (fun f => []) "java/lang/IllegalArgumentException" := by
  refine xofX (by decide) (Nat.le_of_ble_eq_true rfl) (fun p e s m below meth c A C w hno ls hl => ?_)
  have hl : lv_has ls 4 [(0, .ref h0), (1, .int v0), (2, .int v1), (3, .int v2)] := hl
  refine lv_iload_n C.1 C.2.1 dX4_replaceIf_0 rfl (lv_at hl 3 rfl) ?_
  refine x_kx C w [] [] rfl rfl (by decide) (by decide) (vx_runS (As := [.int v2]) (rest := []) (xfix C) (c13_X4_checkValue l G cy sa sv v2 p0 (xtr C) _) (va_cwS 1 (xhts C) (xgS gw_98 gw_99 gw_2 gc_X4_checkValue) rfl rfl rfl (by decide +kernel) ⟨(Nat.le_of_ble_eq_true rfl), (Nat.le_of_ble_eq_true rfl)⟩) (xPS C w [] rfl (by decide)) rfl rfl hl.1 rfl (lv_room (Nat.le_of_ble_eq_true rfl)) dX4_replaceIf_1 ⟨(Nat.le_of_ble_eq_true rfl), (Nat.le_of_ble_eq_true rfl)⟩) (fun f745 H locs ce q9 w hce hcv hcl => ?_)
  have w : xW G A s [] H _ := w
  refine vx_widen (k := 1) (n := 6) (Nat.le_of_ble_eq_true rfl) (Nat.le_of_ble_eq_true rfl) ?_
  exact x_out C w hno (fun _ => 0) rfl hce hcv hcl (Nat.le_of_ble_eq_true rfl) (Nat.le_of_ble_eq_true rfl)
set_option maxHeartbeats 4000000 in
set_option maxRecDepth 100000 in
theorem c91_L_replaceIf (l : Launch) (G : va_G) (cy : Nat → ClassId) (sa : String → Nat → Nat) (sv : Nat → Nat) (h0 h1 h2 h3 h4 h5 h6 h7 h8 : Nat) (v0 v1 v2 : Int32) (p0 : v2 < (-999)) : xM l G cy sa sv yL_replaceIf (Cond.codeWith yL_replaceIf cL_replaceIf 6 (some .int) [(0, 20, 23, 19)] :: XG) { frames := 10, cells := 1, slots := 6, locals := 293 } [.ref h0, .int v0, .int v1, .int v2, .ref h1] [(h0, .inr (8, [.ref h2, .ref h3, .ref h4, .ref h5, .ref h6, .int 0, .ref h7, .ref h8]))] (xQi G (fun f => [(h0, .inr (8, [.ref h2, .ref h3, .ref h4, .ref h5, .ref h6, .int 0, .ref h7, .ref h8]))]) 1) := by
  refine xofH (by decide) (Nat.le_of_ble_eq_true rfl) (fun p e s m below meth c A C w hr hn hT ls hl => ?_)
  have hl : lv_has ls 6 [(0, .ref h0), (1, .int v0), (2, .int v1), (3, .int v2), (4, .ref h1)] := hl
  refine lv_aload C.1 C.2.1 dL_replaceIf_0 (lv_at hl 4 rfl) ?_
  refine lv_aload_n C.1 C.2.1 dL_replaceIf_2 rfl (lv_at hl 0 rfl) ?_
  refine lv_iload_n C.1 C.2.1 dL_replaceIf_3 rfl (lv_at hl 1 rfl) ?_
  refine lv_iload_n C.1 C.2.1 dL_replaceIf_4 rfl (lv_at hl 2 rfl) ?_
  refine lv_iload_n C.1 C.2.1 dL_replaceIf_5 rfl (lv_at hl 3 rfl) ?_
  refine x_kx C w [] [0] rfl rfl (by decide) (by decide) (vx_runV (As := [.int v0, .int v1, .int v2]) (rest := [.ref h1]) (xfix C) (c90_X4_replaceIf l G cy sa sv h0 v0 v1 v2 p0 (xtr C) _) (cwV 3 (xhts C) (xgV (maxL := 0) (cc := ⟨#[]⟩) (ret := none) gw_274 gw_275 gw_276 gw_2 gc_X4_replaceIf) rfl rfl rfl (by decide +kernel) ⟨(Nat.le_of_ble_eq_true rfl), (Nat.le_of_ble_eq_true rfl)⟩) (xPV C w [] rfl (by decide) (ci := 8) (q0 := 0) rfl rfl) rfl rfl hl.1 rfl (lv_room (Nat.le_of_ble_eq_true rfl)) dL_replaceIf_6 ⟨(Nat.le_of_ble_eq_true rfl), (Nat.le_of_ble_eq_true rfl)⟩) (fun f746 H locs ce q9 w hce hcv hcl => ?_)
  have w : xW G A s [(h0, .inr (8, [.ref h2, .ref h3, .ref h4, .ref h5, .ref h6, .int 0, .ref h7, .ref h8]))] H _ := w
  refine vx_widen (k := 1) (n := 6) (Nat.le_of_ble_eq_true rfl) (Nat.le_of_ble_eq_true rfl) ?_
  refine vx_catch (xown C) [] ⟨0, 20, 23, 19⟩ [] hT (fun z hz => nomatch hz) (by decide) (by decide) (xhts C _ (List.mem_cons_of_mem _ gw_104)) (va_any rfl (xs_c1 (xS C))) hce hcv hcl ?_
  refine lv_astore (lv' := [(5, .ref q9), (0, .ref h0), (1, .int v0), (2, .int v1), (3, .int v2), (4, .ref h1)]) C.1 C.2.1 dL_replaceIf_23 hl (by decide) rfl (fun ls hl => ?_)
  refine lv_iconst (v := 1) C.1 C.2.1 dL_replaceIf_25 (by decide) ?_
  exact x_iret C w hr (fun _ => 0) rfl rfl dL_replaceIf_26 (Nat.le_of_ble_eq_true rfl) (Nat.le_of_ble_eq_true rfl)
set_option maxHeartbeats 4000000 in
set_option maxRecDepth 100000 in
theorem c92_X6_replaceIf (l : Launch) (G : va_G) (cy : Nat → ClassId) (sa : String → Nat → Nat) (sv : Nat → Nat) (h0 h1 h2 h3 h4 h5 h6 h7 : Nat) (v0 v1 v2 : Int32) (p0 : v2 < (-999)) : xM l G cy sa sv yX6_replaceIf (Cond.code yX6_replaceIf cX6_replaceIf 5 (some .boolean) :: XG) { frames := 9, cells := 0, slots := 0, locals := 272 } [.ref h0, .int v0, .int v1, .int v2] [(h0, .inr (10, [.ref h1, .ref h2, .ref h3, .ref h4, .ref h5, .ref h6, .ref h7, .int 0, .int 0]))] (xQi G (fun f => [(h0, .inr (10, [.ref h1, .ref h2, .ref h3, .ref h4, .ref h5, .ref h6, .ref h7, .int 0, .int 1]))]) 0) := by
  refine xof (by decide) (Nat.le_of_ble_eq_true rfl) (fun p e s m below meth c A C w hr hn ls hl => ?_)
  have hl : lv_has ls 5 [(0, .ref h0), (1, .int v0), (2, .int v1), (3, .int v2)] := hl
  refine lv_aload_n C.1 C.2.1 dX6_replaceIf_0 rfl (lv_at hl 0 rfl) ?_
  refine lv_iload_n C.1 C.2.1 dX6_replaceIf_1 rfl (lv_at hl 3 rfl) ?_
  refine x_ki C w [] [0] rfl rfl (by decide) (by decide) (va_runS (As := [.int v2]) (rest := [.ref h0]) (xfix C) (c16_X6_isNoValue l G cy sa sv v2 p0 (xtr C) _) (va_cwS 1 (xhts C) (xgS gw_110 gw_111 gw_58 gc_X6_isNoValue) rfl rfl rfl (by decide +kernel) ⟨(Nat.le_of_ble_eq_true rfl), (Nat.le_of_ble_eq_true rfl)⟩) (xPS C w [] rfl (by decide)) rfl rfl hl.1 rfl (lv_room (Nat.le_of_ble_eq_true rfl)) dX6_replaceIf_2 ⟨(Nat.le_of_ble_eq_true rfl), (Nat.le_of_ble_eq_true rfl)⟩) (fun f749 H locs w => ?_)
  have w : xW G A s [(h0, .inr (10, [.ref h1, .ref h2, .ref h3, .ref h4, .ref h5, .ref h6, .ref h7, .int 0, .int 0]))] H _ := w
  refine lv_iconst (v := 1) C.1 C.2.1 dX6_replaceIf_5 (by decide) ?_
  refine x_ki C w [0] [] rfl rfl (by decide) (by decide) (va_runV (As := [.int 1, .int 1]) (rest := []) (xfix C) (c17_X6_start l G cy sa sv h0 h1 h2 h3 h4 h5 h6 h7 (xtr C) _) (cwV 2 (xhts C) (xgV (maxL := 0) (cc := ⟨#[]⟩) (ret := none) gw_114 gw_115 gw_116 gw_58 gc_X6_start) rfl rfl rfl (by decide +kernel) ⟨(Nat.le_of_ble_eq_true rfl), (Nat.le_of_ble_eq_true rfl)⟩) (xPV C w [0] rfl (by decide) (ci := 10) (q0 := 0) rfl rfl) rfl rfl hl.1 rfl (lv_room (Nat.le_of_ble_eq_true rfl)) dX6_replaceIf_6 ⟨(Nat.le_of_ble_eq_true rfl), (Nat.le_of_ble_eq_true rfl)⟩) (fun f750 H locs w => ?_)
  have w : xW G A s [(h0, .inr (10, [.ref h1, .ref h2, .ref h3, .ref h4, .ref h5, .ref h6, .ref h7, .int 0, .int 1]))] H _ := w
  refine lv_if_eq (tgt := 14) C.1 C.2.1 dX6_replaceIf_9 (by decide) (fun c9 => absurd c9 (by decide)) (fun _ => ?_)
  refine lv_iconst (v := 0) C.1 C.2.1 dX6_replaceIf_12 (by decide) ?_
  exact x_zret C w hr rfl (fun _ => 0) rfl rfl dX6_replaceIf_13 (Nat.le_of_ble_eq_true rfl) (Nat.le_of_ble_eq_true rfl)
set_option maxHeartbeats 4000000 in
set_option maxRecDepth 100000 in
theorem c93_X4_isThereWith (l : Launch) (G : va_G) (cy : Nat → ClassId) (sa : String → Nat → Nat) (sv : Nat → Nat) (h0 h1 h2 h3 h4 h5 h6 h7 h8 h9 h10 : Nat) (v0 v1 : Int32) : xM l G cy sa sv yX4_isThereWith (Cond.code yX4_isThereWith cX4_isThereWith 3 (some .boolean) :: XG) { frames := 10, cells := 0, slots := 0, locals := 293 } [.ref h0, .int v0, .int v1] [(h0, .inr (8, [.ref h1, .ref h3, .ref h4, .ref h5, .ref h6, .int 0, .ref h7, .ref h8])), (h1, .inr (7, [.ref h2, .ref h9])), (h2, .inr (6, [.ref h10, .int 0]))] (xQi G (fun f => [(h0, .inr (8, [.ref h1, .ref h3, .ref h4, .ref h5, .ref h6, .int 0, .ref h7, .ref h8])), (h1, .inr (7, [.ref h2, .ref h9])), (h2, .inr (6, [.ref h10, .int 0]))]) 0) := by
  refine xof (by decide) (Nat.le_of_ble_eq_true rfl) (fun p e s m below meth c A C w hr hn ls hl => ?_)
  have hl : lv_has ls 3 [(0, .ref h0), (1, .int v0), (2, .int v1)] := hl
  refine lv_aload_n C.1 C.2.1 dX4_isThereWith_0 rfl (lv_at hl 0 rfl) ?_
  refine x_get (v := .ref h1) C w 0 8 0 (xin_X4 _) rfl rfl (by decide) (List.mem_cons_of_mem _ gw_24) rfl rfl dX4_isThereWith_1 ?_
  refine lv_iload_n C.1 C.2.1 dX4_isThereWith_4 rfl (lv_at hl 1 rfl) ?_
  refine x_ki C w [1, 2] [0] rfl rfl (by decide) (by decide) (va_runV (As := [.int v0]) (rest := []) (xfix C) (c32_X3_holds l G cy sa sv h1 h2 h9 h10 v0 (xtr C) _) (cwV 1 (xhts C) (xgV (maxL := 0) (cc := ⟨#[]⟩) (ret := none) gw_284 gw_163 gw_164 gw_7 gc_X3_holds) rfl rfl rfl (by decide +kernel) ⟨(Nat.le_of_ble_eq_true rfl), (Nat.le_of_ble_eq_true rfl)⟩) (xPV C w [1, 2] rfl (by decide) (ci := 7) (q0 := 1) rfl rfl) rfl rfl hl.1 rfl (lv_room (Nat.le_of_ble_eq_true rfl)) dX4_isThereWith_5 ⟨(Nat.le_of_ble_eq_true rfl), (Nat.le_of_ble_eq_true rfl)⟩) (fun f755 H locs w => ?_)
  have w : xW G A s [(h0, .inr (8, [.ref h1, .ref h3, .ref h4, .ref h5, .ref h6, .int 0, .ref h7, .ref h8])), (h1, .inr (7, [.ref h2, .ref h9])), (h2, .inr (6, [.ref h10, .int 0]))] H _ := w
  refine lv_if_eq (tgt := 27) C.1 C.2.1 dX4_isThereWith_8 (by decide) (fun _ => ?_) (fun c9 => absurd (by decide) c9)
  refine lv_iconst (v := 0) C.1 C.2.1 dX4_isThereWith_27 (by decide) ?_
  exact x_zret C w hr rfl (fun _ => 0) rfl rfl dX4_isThereWith_28 (Nat.le_of_ble_eq_true rfl) (Nat.le_of_ble_eq_true rfl)
set_option maxHeartbeats 4000000 in
set_option maxRecDepth 100000 in
theorem c94_X4_replaceIf (l : Launch) (G : va_G) (cy : Nat → ClassId) (sa : String → Nat → Nat) (sv : Nat → Nat) (h0 h1 h2 h3 h4 h5 h6 h7 h8 h9 h10 : Nat) (v0 v1 v2 : Int32) (p0 : ¬ v2 < (-999)) (p1 : v2 ≤ 999) : xM l G cy sa sv yX4_replaceIf (Cond.code yX4_replaceIf cX4_replaceIf 4 (some .boolean) :: XG) { frames := 11, cells := 0, slots := 0, locals := 315 } [.ref h0, .int v0, .int v1, .int v2] [(h0, .inr (8, [.ref h1, .ref h3, .ref h4, .ref h5, .ref h6, .int 0, .ref h7, .ref h8])), (h1, .inr (7, [.ref h2, .ref h9])), (h2, .inr (6, [.ref h10, .int 0]))] (xQi G (fun f => [(h0, .inr (8, [.ref h1, .ref h3, .ref h4, .ref h5, .ref h6, .int 0, .ref h7, .ref h8])), (h1, .inr (7, [.ref h2, .ref h9])), (h2, .inr (6, [.ref h10, .int 0]))]) 0) := by
  refine xof (by decide) (Nat.le_of_ble_eq_true rfl) (fun p e s m below meth c A C w hr hn ls hl => ?_)
  have hl : lv_has ls 4 [(0, .ref h0), (1, .int v0), (2, .int v1), (3, .int v2)] := hl
  refine lv_iload_n C.1 C.2.1 dX4_replaceIf_0 rfl (lv_at hl 3 rfl) ?_
  refine x_kv C w [] [0, 1, 2] rfl rfl (by decide) (by decide) (va_runS (As := [.int v2]) (rest := []) (xfix C) (c20_X4_checkValue l G cy sa sv v2 p0 p1 (xtr C) _) (va_cwS 1 (xhts C) (xgS gw_98 gw_99 gw_2 gc_X4_checkValue) rfl rfl rfl (by decide +kernel) ⟨(Nat.le_of_ble_eq_true rfl), (Nat.le_of_ble_eq_true rfl)⟩) (xPS C w [] rfl (by decide)) rfl rfl hl.1 rfl (lv_room (Nat.le_of_ble_eq_true rfl)) dX4_replaceIf_1 ⟨(Nat.le_of_ble_eq_true rfl), (Nat.le_of_ble_eq_true rfl)⟩) (fun f753 H locs w => ?_)
  have w : xW G A s [(h0, .inr (8, [.ref h1, .ref h3, .ref h4, .ref h5, .ref h6, .int 0, .ref h7, .ref h8])), (h1, .inr (7, [.ref h2, .ref h9])), (h2, .inr (6, [.ref h10, .int 0]))] H _ := w
  refine lv_aload_n C.1 C.2.1 dX4_replaceIf_4 rfl (lv_at hl 0 rfl) ?_
  refine lv_iload_n C.1 C.2.1 dX4_replaceIf_5 rfl (lv_at hl 1 rfl) ?_
  refine lv_iload_n C.1 C.2.1 dX4_replaceIf_6 rfl (lv_at hl 2 rfl) ?_
  refine x_ki C w [0, 1, 2] [] rfl rfl (by decide) (by decide) (va_runV (As := [.int v0, .int v1]) (rest := []) (xfix C) (c93_X4_isThereWith l G cy sa sv h0 h1 h2 h3 h4 h5 h6 h7 h8 h9 h10 v0 v1 (xtr C) _) (cwV 2 (xhts C) (xgV (maxL := 0) (cc := ⟨#[]⟩) (ret := none) gw_286 gw_287 gw_288 gw_2 gc_X4_isThereWith) rfl rfl rfl (by decide +kernel) ⟨(Nat.le_of_ble_eq_true rfl), (Nat.le_of_ble_eq_true rfl)⟩) (xPV C w [0, 1, 2] rfl (by decide) (ci := 8) (q0 := 0) rfl rfl) rfl rfl hl.1 rfl (lv_room (Nat.le_of_ble_eq_true rfl)) dX4_replaceIf_7 ⟨(Nat.le_of_ble_eq_true rfl), (Nat.le_of_ble_eq_true rfl)⟩) (fun f756 H locs w => ?_)
  have w : xW G A s [(h0, .inr (8, [.ref h1, .ref h3, .ref h4, .ref h5, .ref h6, .int 0, .ref h7, .ref h8])), (h1, .inr (7, [.ref h2, .ref h9])), (h2, .inr (6, [.ref h10, .int 0]))] H _ := w
  refine lv_if_ne (tgt := 15) C.1 C.2.1 dX4_replaceIf_10 (by decide) (fun c9 => absurd (by decide) c9) (fun _ => ?_)
  refine lv_iconst (v := 0) C.1 C.2.1 dX4_replaceIf_13 (by decide) ?_
  exact x_zret C w hr rfl (fun _ => 0) rfl rfl dX4_replaceIf_14 (Nat.le_of_ble_eq_true rfl) (Nat.le_of_ble_eq_true rfl)
set_option maxHeartbeats 4000000 in
set_option maxRecDepth 100000 in
theorem c95_L_replaceIf (l : Launch) (G : va_G) (cy : Nat → ClassId) (sa : String → Nat → Nat) (sv : Nat → Nat) (h0 h1 h2 h3 h4 h5 h6 h7 h8 h9 h10 h11 : Nat) (v0 v1 v2 : Int32) (p0 : ¬ v2 < (-999)) (p1 : v2 ≤ 999) : xM l G cy sa sv yL_replaceIf (Cond.codeWith yL_replaceIf cL_replaceIf 6 (some .int) [(0, 20, 23, 19)] :: XG) { frames := 12, cells := 0, slots := 0, locals := 338 } [.ref h0, .int v0, .int v1, .int v2, .ref h1] [(h0, .inr (8, [.ref h2, .ref h4, .ref h5, .ref h6, .ref h7, .int 0, .ref h8, .ref h9])), (h2, .inr (7, [.ref h3, .ref h10])), (h3, .inr (6, [.ref h11, .int 0])), (h1, .inr (9, [.long 0, .null]))] (xQi G (fun f => [(h0, .inr (8, [.ref h2, .ref h4, .ref h5, .ref h6, .ref h7, .int 0, .ref h8, .ref h9])), (h2, .inr (7, [.ref h3, .ref h10])), (h3, .inr (6, [.ref h11, .int 0])), (h1, .inr (9, [.long 0, .null]))]) 0) := by
  refine xofH (by decide) (Nat.le_of_ble_eq_true rfl) (fun p e s m below meth c A C w hr hn hT ls hl => ?_)
  have hl : lv_has ls 6 [(0, .ref h0), (1, .int v0), (2, .int v1), (3, .int v2), (4, .ref h1)] := hl
  refine lv_aload C.1 C.2.1 dL_replaceIf_0 (lv_at hl 4 rfl) ?_
  refine lv_aload_n C.1 C.2.1 dL_replaceIf_2 rfl (lv_at hl 0 rfl) ?_
  refine lv_iload_n C.1 C.2.1 dL_replaceIf_3 rfl (lv_at hl 1 rfl) ?_
  refine lv_iload_n C.1 C.2.1 dL_replaceIf_4 rfl (lv_at hl 2 rfl) ?_
  refine lv_iload_n C.1 C.2.1 dL_replaceIf_5 rfl (lv_at hl 3 rfl) ?_
  refine x_ki C w [0, 1, 2] [3] rfl rfl (by decide) (by decide) (va_runV (As := [.int v0, .int v1, .int v2]) (rest := [.ref h1]) (xfix C) (c94_X4_replaceIf l G cy sa sv h0 h2 h3 h4 h5 h6 h7 h8 h9 h10 h11 v0 v1 v2 p0 p1 (xtr C) _) (cwV 3 (xhts C) (xgV (maxL := 0) (cc := ⟨#[]⟩) (ret := none) gw_274 gw_275 gw_276 gw_2 gc_X4_replaceIf) rfl rfl rfl (by decide +kernel) ⟨(Nat.le_of_ble_eq_true rfl), (Nat.le_of_ble_eq_true rfl)⟩) (xPV C w [0, 1, 2] rfl (by decide) (ci := 8) (q0 := 0) rfl rfl) rfl rfl hl.1 rfl (lv_room (Nat.le_of_ble_eq_true rfl)) dL_replaceIf_6 ⟨(Nat.le_of_ble_eq_true rfl), (Nat.le_of_ble_eq_true rfl)⟩) (fun f757 H locs w => ?_)
  have w : xW G A s [(h1, .inr (9, [.long 0, .null])), (h0, .inr (8, [.ref h2, .ref h4, .ref h5, .ref h6, .ref h7, .int 0, .ref h8, .ref h9])), (h2, .inr (7, [.ref h3, .ref h10])), (h3, .inr (6, [.ref h11, .int 0]))] H _ := w
  refine lv_if_eq (tgt := 16) C.1 C.2.1 dL_replaceIf_9 (by decide) (fun _ => ?_) (fun c9 => absurd (by decide) c9)
  refine lv_lconst (v := 0) C.1 C.2.1 dL_replaceIf_16 (by decide) ?_
  refine x_putN (ty := .long) (ty0 := tyX5) C w 0 9 0 (xin_X5 _) tyX5_ok nmX5 rfl rfl (by decide) (xs_f_n (xS C)) rfl rfl (by decide +kernel) rfl rfl (Nat.le_of_ble_eq_true rfl) dL_replaceIf_17 (fun H locs w => ?_)
  have w : xW G A s [(h1, .inr (9, [.long 0, .null])), (h0, .inr (8, [.ref h2, .ref h4, .ref h5, .ref h6, .ref h7, .int 0, .ref h8, .ref h9])), (h2, .inr (7, [.ref h3, .ref h10])), (h3, .inr (6, [.ref h11, .int 0]))] H _ := w
  refine lv_goto (tgt := 27) C.1 C.2.1 dL_replaceIf_20 (by decide) ?_
  refine lv_iconst (v := 0) C.1 C.2.1 dL_replaceIf_27 (by decide) ?_
  have w := w.sub (ws' := [(h0, .inr (8, [.ref h2, .ref h4, .ref h5, .ref h6, .ref h7, .int 0, .ref h8, .ref h9])), (h2, .inr (7, [.ref h3, .ref h10])), (h3, .inr (6, [.ref h11, .int 0])), (h1, .inr (9, [.long 0, .null]))]) [1, 2, 3, 0] (by decide) rfl rfl
  exact x_iret C w hr (fun _ => 0) rfl rfl dL_replaceIf_28 (Nat.le_of_ble_eq_true rfl) (Nat.le_of_ble_eq_true rfl)
set_option maxHeartbeats 4000000 in
set_option maxRecDepth 100000 in
theorem c96_X6_replaceIf (l : Launch) (G : va_G) (cy : Nat → ClassId) (sa : String → Nat → Nat) (sv : Nat → Nat) (h0 h1 h2 h3 h4 h5 h6 h7 : Nat) (v0 v1 v2 : Int32) (p0 : ¬ v2 < (-999)) (p1 : v2 ≤ 999) : xM l G cy sa sv yX6_replaceIf (Cond.code yX6_replaceIf cX6_replaceIf 5 (some .boolean) :: XG) { frames := 10, cells := 0, slots := 0, locals := 292 } [.ref h0, .int v0, .int v1, .int v2] [(h0, .inr (10, [.ref h1, .ref h2, .ref h3, .ref h4, .ref h5, .ref h6, .ref h7, .int 0, .int 0])), (h1, .inr (3, [.int 0, .ref (sv 0), .int 0]))] (xQi G (fun f => [(h0, .inr (10, [.ref h1, .ref h2, .ref h3, .ref h4, .ref h5, .ref h6, .ref h7, .int 0, .int 0])), (h1, .inr (3, [.int 0, .ref (sv 0), .int 0]))]) 0) := by
  refine xof (by decide) (Nat.le_of_ble_eq_true rfl) (fun p e s m below meth c A C w hr hn ls hl => ?_)
  have hl : lv_has ls 5 [(0, .ref h0), (1, .int v0), (2, .int v1), (3, .int v2)] := hl
  refine lv_aload_n C.1 C.2.1 dX6_replaceIf_0 rfl (lv_at hl 0 rfl) ?_
  refine lv_iload_n C.1 C.2.1 dX6_replaceIf_1 rfl (lv_at hl 3 rfl) ?_
  refine x_ki C w [] [0, 1] rfl rfl (by decide) (by decide) (va_runS (As := [.int v2]) (rest := [.ref h0]) (xfix C) (c45_X6_isNoValue l G cy sa sv v2 p0 p1 (xtr C) _) (va_cwS 1 (xhts C) (xgS gw_110 gw_111 gw_58 gc_X6_isNoValue) rfl rfl rfl (by decide +kernel) ⟨(Nat.le_of_ble_eq_true rfl), (Nat.le_of_ble_eq_true rfl)⟩) (xPS C w [] rfl (by decide)) rfl rfl hl.1 rfl (lv_room (Nat.le_of_ble_eq_true rfl)) dX6_replaceIf_2 ⟨(Nat.le_of_ble_eq_true rfl), (Nat.le_of_ble_eq_true rfl)⟩) (fun f759 H locs w => ?_)
  have w : xW G A s [(h0, .inr (10, [.ref h1, .ref h2, .ref h3, .ref h4, .ref h5, .ref h6, .ref h7, .int 0, .int 0])), (h1, .inr (3, [.int 0, .ref (sv 0), .int 0]))] H _ := w
  refine lv_iconst (v := 1) C.1 C.2.1 dX6_replaceIf_5 (by decide) ?_
  refine x_ki C w [0] [1] rfl rfl (by decide) (by decide) (va_runV (As := [.int 0, .int 1]) (rest := []) (xfix C) (c46_X6_start l G cy sa sv h0 h1 h2 h3 h4 h5 h6 h7 (xtr C) _) (cwV 2 (xhts C) (xgV (maxL := 0) (cc := ⟨#[]⟩) (ret := none) gw_114 gw_115 gw_116 gw_58 gc_X6_start) rfl rfl rfl (by decide +kernel) ⟨(Nat.le_of_ble_eq_true rfl), (Nat.le_of_ble_eq_true rfl)⟩) (xPV C w [0] rfl (by decide) (ci := 10) (q0 := 0) rfl rfl) rfl rfl hl.1 rfl (lv_room (Nat.le_of_ble_eq_true rfl)) dX6_replaceIf_6 ⟨(Nat.le_of_ble_eq_true rfl), (Nat.le_of_ble_eq_true rfl)⟩) (fun f760 H locs w => ?_)
  have w : xW G A s [(h1, .inr (3, [.int 0, .ref (sv 0), .int 0])), (h0, .inr (10, [.ref h1, .ref h2, .ref h3, .ref h4, .ref h5, .ref h6, .ref h7, .int 0, .int 0]))] H _ := w
  refine lv_if_eq (tgt := 14) C.1 C.2.1 dX6_replaceIf_9 (by decide) (fun _ => ?_) (fun c9 => absurd (by decide) c9)
  refine lv_aload_n C.1 C.2.1 dX6_replaceIf_14 rfl (lv_at hl 0 rfl) ?_
  refine x_get (v := .ref h1) C w 1 10 0 (xin_X6 _) rfl rfl (by decide) (List.mem_cons_of_mem _ gw_78) rfl rfl dX6_replaceIf_15 ?_
  refine lv_iload_n C.1 C.2.1 dX6_replaceIf_18 rfl (lv_at hl 1 rfl) ?_
  refine x_ki C w [0] [1] rfl rfl (by decide) (by decide) (va_runS (As := [.ref h1, .int v0]) (rest := []) (xfix C) (c50_X6_at l G cy sa sv h1 v0 (xtr C) _) (va_cwS 2 (xhts C) (xgS gw_207 gw_208 gw_58 gc_X6_at) rfl rfl rfl (by decide +kernel) ⟨(Nat.le_of_ble_eq_true rfl), (Nat.le_of_ble_eq_true rfl)⟩) (xPS C w [0] rfl (by decide)) rfl rfl hl.1 rfl (lv_room (Nat.le_of_ble_eq_true rfl)) dX6_replaceIf_19 ⟨(Nat.le_of_ble_eq_true rfl), (Nat.le_of_ble_eq_true rfl)⟩) (fun f762 H locs w => ?_)
  have w : xW G A s [(h0, .inr (10, [.ref h1, .ref h2, .ref h3, .ref h4, .ref h5, .ref h6, .ref h7, .int 0, .int 0])), (h1, .inr (3, [.int 0, .ref (sv 0), .int 0]))] H _ := w
  refine lv_if_lt (tgt := 41) C.1 C.2.1 dX6_replaceIf_22 (by decide) (fun _ => ?_) (fun c9 => absurd (by decide) c9)
  refine lv_iconst (v := 0) C.1 C.2.1 dX6_replaceIf_41 (by decide) ?_
  refine lv_istore (lv' := [(4, .int 0), (0, .ref h0), (1, .int v0), (2, .int v1), (3, .int v2)]) C.1 C.2.1 dX6_replaceIf_42 hl (by decide) rfl (fun ls hl => ?_)
  refine lv_iload C.1 C.2.1 dX6_replaceIf_44 (lv_at hl 0 rfl) ?_
  refine lv_if_eq (tgt := 56) C.1 C.2.1 dX6_replaceIf_46 (by decide) (fun _ => ?_) (fun c9 => absurd (by decide) c9)
  refine lv_iload C.1 C.2.1 dX6_replaceIf_56 (lv_at hl 0 rfl) ?_
  exact x_zret C w hr rfl (fun _ => 0) rfl rfl dX6_replaceIf_58 (Nat.le_of_ble_eq_true rfl) (Nat.le_of_ble_eq_true rfl)
set_option maxHeartbeats 4000000 in
set_option maxRecDepth 100000 in
theorem c97_X4_replaceIf (l : Launch) (G : va_G) (cy : Nat → ClassId) (sa : String → Nat → Nat) (sv : Nat → Nat) (h0 : Nat) (v0 v1 v2 : Int32) (p0 : ¬ v2 < (-999)) (p1 : ¬ v2 ≤ 999) : xX l G cy sa sv yX4_replaceIf (Cond.code yX4_replaceIf cX4_replaceIf 4 (some .boolean) :: XG) { frames := 9, cells := 1, slots := 6, locals := 270 } [.ref h0, .int v0, .int v1, .int v2] [] (fun f => []) "java/lang/IllegalArgumentException" := by
  refine xofX (by decide) (Nat.le_of_ble_eq_true rfl) (fun p e s m below meth c A C w hno ls hl => ?_)
  have hl : lv_has ls 4 [(0, .ref h0), (1, .int v0), (2, .int v1), (3, .int v2)] := hl
  refine lv_iload_n C.1 C.2.1 dX4_replaceIf_0 rfl (lv_at hl 3 rfl) ?_
  refine x_kx C w [] [] rfl rfl (by decide) (by decide) (vx_runS (As := [.int v2]) (rest := []) (xfix C) (c67_X4_checkValue l G cy sa sv v2 p0 p1 (xtr C) _) (va_cwS 1 (xhts C) (xgS gw_98 gw_99 gw_2 gc_X4_checkValue) rfl rfl rfl (by decide +kernel) ⟨(Nat.le_of_ble_eq_true rfl), (Nat.le_of_ble_eq_true rfl)⟩) (xPS C w [] rfl (by decide)) rfl rfl hl.1 rfl (lv_room (Nat.le_of_ble_eq_true rfl)) dX4_replaceIf_1 ⟨(Nat.le_of_ble_eq_true rfl), (Nat.le_of_ble_eq_true rfl)⟩) (fun f768 H locs ce q9 w hce hcv hcl => ?_)
  have w : xW G A s [] H _ := w
  refine vx_widen (k := 1) (n := 6) (Nat.le_of_ble_eq_true rfl) (Nat.le_of_ble_eq_true rfl) ?_
  exact x_out C w hno (fun _ => 0) rfl hce hcv hcl (Nat.le_of_ble_eq_true rfl) (Nat.le_of_ble_eq_true rfl)
set_option maxHeartbeats 4000000 in
set_option maxRecDepth 100000 in
theorem c98_L_replaceIf (l : Launch) (G : va_G) (cy : Nat → ClassId) (sa : String → Nat → Nat) (sv : Nat → Nat) (h0 h1 h2 h3 h4 h5 h6 h7 h8 : Nat) (v0 v1 v2 : Int32) (p0 : ¬ v2 < (-999)) (p1 : ¬ v2 ≤ 999) : xM l G cy sa sv yL_replaceIf (Cond.codeWith yL_replaceIf cL_replaceIf 6 (some .int) [(0, 20, 23, 19)] :: XG) { frames := 10, cells := 1, slots := 6, locals := 293 } [.ref h0, .int v0, .int v1, .int v2, .ref h1] [(h0, .inr (8, [.ref h2, .ref h3, .ref h4, .ref h5, .ref h6, .int 0, .ref h7, .ref h8]))] (xQi G (fun f => [(h0, .inr (8, [.ref h2, .ref h3, .ref h4, .ref h5, .ref h6, .int 0, .ref h7, .ref h8]))]) 1) := by
  refine xofH (by decide) (Nat.le_of_ble_eq_true rfl) (fun p e s m below meth c A C w hr hn hT ls hl => ?_)
  have hl : lv_has ls 6 [(0, .ref h0), (1, .int v0), (2, .int v1), (3, .int v2), (4, .ref h1)] := hl
  refine lv_aload C.1 C.2.1 dL_replaceIf_0 (lv_at hl 4 rfl) ?_
  refine lv_aload_n C.1 C.2.1 dL_replaceIf_2 rfl (lv_at hl 0 rfl) ?_
  refine lv_iload_n C.1 C.2.1 dL_replaceIf_3 rfl (lv_at hl 1 rfl) ?_
  refine lv_iload_n C.1 C.2.1 dL_replaceIf_4 rfl (lv_at hl 2 rfl) ?_
  refine lv_iload_n C.1 C.2.1 dL_replaceIf_5 rfl (lv_at hl 3 rfl) ?_
  refine x_kx C w [] [0] rfl rfl (by decide) (by decide) (vx_runV (As := [.int v0, .int v1, .int v2]) (rest := [.ref h1]) (xfix C) (c97_X4_replaceIf l G cy sa sv h0 v0 v1 v2 p0 p1 (xtr C) _) (cwV 3 (xhts C) (xgV (maxL := 0) (cc := ⟨#[]⟩) (ret := none) gw_274 gw_275 gw_276 gw_2 gc_X4_replaceIf) rfl rfl rfl (by decide +kernel) ⟨(Nat.le_of_ble_eq_true rfl), (Nat.le_of_ble_eq_true rfl)⟩) (xPV C w [] rfl (by decide) (ci := 8) (q0 := 0) rfl rfl) rfl rfl hl.1 rfl (lv_room (Nat.le_of_ble_eq_true rfl)) dL_replaceIf_6 ⟨(Nat.le_of_ble_eq_true rfl), (Nat.le_of_ble_eq_true rfl)⟩) (fun f769 H locs ce q9 w hce hcv hcl => ?_)
  have w : xW G A s [(h0, .inr (8, [.ref h2, .ref h3, .ref h4, .ref h5, .ref h6, .int 0, .ref h7, .ref h8]))] H _ := w
  refine vx_widen (k := 1) (n := 6) (Nat.le_of_ble_eq_true rfl) (Nat.le_of_ble_eq_true rfl) ?_
  refine vx_catch (xown C) [] ⟨0, 20, 23, 19⟩ [] hT (fun z hz => nomatch hz) (by decide) (by decide) (xhts C _ (List.mem_cons_of_mem _ gw_104)) (va_any rfl (xs_c1 (xS C))) hce hcv hcl ?_
  refine lv_astore (lv' := [(5, .ref q9), (0, .ref h0), (1, .int v0), (2, .int v1), (3, .int v2), (4, .ref h1)]) C.1 C.2.1 dL_replaceIf_23 hl (by decide) rfl (fun ls hl => ?_)
  refine lv_iconst (v := 1) C.1 C.2.1 dL_replaceIf_25 (by decide) ?_
  exact x_iret C w hr (fun _ => 0) rfl rfl dL_replaceIf_26 (Nat.le_of_ble_eq_true rfl) (Nat.le_of_ble_eq_true rfl)
