set_option maxHeartbeats 4000000 in
set_option maxRecDepth 100000 in
theorem c99_X6_replaceIf (l : Launch) (G : va_G) (cy : Nat → ClassId) (sa : String → Nat → Nat) (sv : Nat → Nat) (h0 h1 h2 h3 h4 h5 h6 h7 : Nat) (v0 v1 v2 : Int32) (p0 : ¬ v2 < (-999)) (p1 : ¬ v2 ≤ 999) : xM l G cy sa sv yX6_replaceIf (Cond.code yX6_replaceIf cX6_replaceIf 5 (some .boolean) :: XG) { frames := 9, cells := 0, slots := 0, locals := 272 } [.ref h0, .int v0, .int v1, .int v2] [(h0, .inr (10, [.ref h1, .ref h2, .ref h3, .ref h4, .ref h5, .ref h6, .ref h7, .int 0, .int 0]))] (xQi G (fun f => [(h0, .inr (10, [.ref h1, .ref h2, .ref h3, .ref h4, .ref h5, .ref h6, .ref h7, .int 0, .int 1]))]) 0) := by
  refine xof (by decide) (Nat.le_of_ble_eq_true rfl) (fun p e s m below meth c A C w hr hn ls hl => ?_)
  have hl : lv_has ls 5 [(0, .ref h0), (1, .int v0), (2, .int v1), (3, .int v2)] := hl
  refine lv_aload_n C.1 C.2.1 dX6_replaceIf_0 rfl (lv_at hl 0 rfl) ?_
  refine lv_iload_n C.1 C.2.1 dX6_replaceIf_1 rfl (lv_at hl 3 rfl) ?_
  refine x_ki C w [] [0] rfl rfl (by decide) (by decide) (va_runS (As := [.int v2]) (rest := [.ref h0]) (xfix C) (c70_X6_isNoValue l G cy sa sv v2 p0 p1 (xtr C) _) (va_cwS 1 (xhts C) (xgS gw_110 gw_111 gw_58 gc_X6_isNoValue) rfl rfl rfl (by decide +kernel) ⟨(Nat.le_of_ble_eq_true rfl), (Nat.le_of_ble_eq_true rfl)⟩) (xPS C w [] rfl (by decide)) rfl rfl hl.1 rfl (lv_room (Nat.le_of_ble_eq_true rfl)) dX6_replaceIf_2 ⟨(Nat.le_of_ble_eq_true rfl), (Nat.le_of_ble_eq_true rfl)⟩) (fun f772 H locs w => ?_)
  have w : xW G A s [(h0, .inr (10, [.ref h1, .ref h2, .ref h3, .ref h4, .ref h5, .ref h6, .ref h7, .int 0, .int 0]))] H _ := w
  refine lv_iconst (v := 1) C.1 C.2.1 dX6_replaceIf_5 (by decide) ?_
  refine x_ki C w [0] [] rfl rfl (by decide) (by decide) (va_runV (As := [.int 1, .int 1]) (rest := []) (xfix C) (c17_X6_start l G cy sa sv h0 h1 h2 h3 h4 h5 h6 h7 (xtr C) _) (cwV 2 (xhts C) (xgV (maxL := 0) (cc := ⟨#[]⟩) (ret := none) gw_114 gw_115 gw_116 gw_58 gc_X6_start) rfl rfl rfl (by decide +kernel) ⟨(Nat.le_of_ble_eq_true rfl), (Nat.le_of_ble_eq_true rfl)⟩) (xPV C w [0] rfl (by decide) (ci := 10) (q0 := 0) rfl rfl) rfl rfl hl.1 rfl (lv_room (Nat.le_of_ble_eq_true rfl)) dX6_replaceIf_6 ⟨(Nat.le_of_ble_eq_true rfl), (Nat.le_of_ble_eq_true rfl)⟩) (fun f773 H locs w => ?_)
  have w : xW G A s [(h0, .inr (10, [.ref h1, .ref h2, .ref h3, .ref h4, .ref h5, .ref h6, .ref h7, .int 0, .int 1]))] H _ := w
  refine lv_if_eq (tgt := 14) C.1 C.2.1 dX6_replaceIf_9 (by decide) (fun c9 => absurd c9 (by decide)) (fun _ => ?_)
  refine lv_iconst (v := 0) C.1 C.2.1 dX6_replaceIf_12 (by decide) ?_
  exact x_zret C w hr rfl (fun _ => 0) rfl rfl dX6_replaceIf_13 (Nat.le_of_ble_eq_true rfl) (Nat.le_of_ble_eq_true rfl)
set_option maxHeartbeats 4000000 in
set_option maxRecDepth 100000 in
theorem c100_X4_remove (l : Launch) (G : va_G) (cy : Nat → ClassId) (sa : String → Nat → Nat) (sv : Nat → Nat) (h0 h1 h2 h3 h4 h5 h6 h7 h8 h9 h10 : Nat) (v0 : Int32) : xM l G cy sa sv yX4_remove (Cond.code yX4_remove cX4_remove 3 (some .int) :: XG) { frames := 10, cells := 0, slots := 0, locals := 294 } [.ref h0, .int v0] [(h0, .inr (8, [.ref h1, .ref h3, .ref h4, .ref h5, .ref h6, .int 0, .ref h7, .ref h8])), (h1, .inr (7, [.ref h2, .ref h9])), (h2, .inr (6, [.ref h10, .int 0]))] (xQi G (fun f => [(h0, .inr (8, [.ref h1, .ref h3, .ref h4, .ref h5, .ref h6, .int 0, .ref h7, .ref h8])), (h1, .inr (7, [.ref h2, .ref h9])), (h2, .inr (6, [.ref h10, .int 0]))]) (-1000)) := by
  refine xof (by decide) (Nat.le_of_ble_eq_true rfl) (fun p e s m below meth c A C w hr hn ls hl => ?_)
  have hl : lv_has ls 3 [(0, .ref h0), (1, .int v0)] := hl
  refine lv_aload_n C.1 C.2.1 dX4_remove_0 rfl (lv_at hl 0 rfl) ?_
  refine x_get (v := .ref h1) C w 0 8 0 (xin_X4 _) rfl rfl (by decide) (List.mem_cons_of_mem _ gw_24) rfl rfl dX4_remove_1 ?_
  refine lv_iload_n C.1 C.2.1 dX4_remove_4 rfl (lv_at hl 1 rfl) ?_
  refine x_ki C w [1, 2] [0] rfl rfl (by decide) (by decide) (va_runV (As := [.int v0]) (rest := []) (xfix C) (c25_X3_valueOf l G cy sa sv h1 h2 h9 h10 v0 (xtr C) _) (cwV 1 (xhts C) (xgV (maxL := 0) (cc := ⟨#[]⟩) (ret := none) gw_142 gw_143 gw_144 gw_7 gc_X3_valueOf) rfl rfl rfl (by decide +kernel) ⟨(Nat.le_of_ble_eq_true rfl), (Nat.le_of_ble_eq_true rfl)⟩) (xPV C w [1, 2] rfl (by decide) (ci := 7) (q0 := 1) rfl rfl) rfl rfl hl.1 rfl (lv_room (Nat.le_of_ble_eq_true rfl)) dX4_remove_5 ⟨(Nat.le_of_ble_eq_true rfl), (Nat.le_of_ble_eq_true rfl)⟩) (fun f778 H locs w => ?_)
  have w : xW G A s [(h0, .inr (8, [.ref h1, .ref h3, .ref h4, .ref h5, .ref h6, .int 0, .ref h7, .ref h8])), (h1, .inr (7, [.ref h2, .ref h9])), (h2, .inr (6, [.ref h10, .int 0]))] H _ := w
  refine lv_istore_n (lv' := [(2, .int (-1000)), (0, .ref h0), (1, .int v0)]) C.1 C.2.1 dX4_remove_8 rfl hl (by decide) rfl (fun ls hl => ?_)
  refine lv_iload_n C.1 C.2.1 dX4_remove_9 rfl (lv_at hl 0 rfl) ?_
  refine lv_sipush (v := (-1000)) C.1 C.2.1 dX4_remove_10 (by decide) ?_
  refine lv_icmp_eq (tgt := 28) C.1 C.2.1 dX4_remove_13 (by decide) (fun _ => ?_) (fun c9 => absurd (by decide) c9)
  refine lv_iload_n C.1 C.2.1 dX4_remove_28 rfl (lv_at hl 0 rfl) ?_
  exact x_iret C w hr (fun _ => 0) rfl rfl dX4_remove_29 (Nat.le_of_ble_eq_true rfl) (Nat.le_of_ble_eq_true rfl)
set_option maxHeartbeats 4000000 in
set_option maxRecDepth 100000 in
theorem c101_X6_done (l : Launch) (G : va_G) (cy : Nat → ClassId) (sa : String → Nat → Nat) (sv : Nat → Nat) (h0 h1 h2 h3 h4 h5 h6 h7 : Nat) : xM l G cy sa sv yX6_done (Cond.code yX6_done cX6_done 2 (some .int) :: XG) { frames := 11, cells := 1, slots := 3, locals := 310 } [.ref h0] [(h0, .inr (10, [.ref h3, .ref h4, .ref h2, .ref h1, .ref h5, .ref h6, .ref h7, .int 0, .int 0])), (h1, .inr (3, [.int 0, .ref (sv 0), .int 0])), (h2, .inr (3, [.int 0, .ref (sv 0), .int 0]))] (xQi G (fun f => [(h0, .inr (10, [.ref h3, .ref h4, .ref h2, .ref (f 0), .ref h5, .ref h6, .ref h7, .int 0, .int 0])), (h1, .inr (3, [.int 0, .ref (sv 0), .int 0])), (h2, .inr (3, [.int 0, .ref (sv 0), .int 0])), ((f 0), .inr (3, [.int 0, .ref (sv 0), .int 0]))]) 0) := by
  refine xof (by decide) (Nat.le_of_ble_eq_true rfl) (fun p e s m below meth c A C w hr hn ls hl => ?_)
  have hl : lv_has ls 2 [(0, .ref h0)] := hl
  refine lv_aload_n C.1 C.2.1 dX6_done_0 rfl (lv_at hl 0 rfl) ?_
  refine x_get (v := .ref h1) C w 0 10 3 (xin_X6 _) rfl rfl (by decide) (List.mem_cons_of_mem _ gw_81) rfl rfl dX6_done_1 ?_
  refine x_ki C w [1] [0, 2] rfl rfl (by decide) (by decide) (va_runV (As := []) (rest := []) (xfix C) (c47_Jx4a65c_size_8abf5 l G cy sa sv h1 (xtr C) _) (cwV 0 (xhts C) (xgV (maxL := 0) (cc := ⟨#[]⟩) (ret := none) gw_195 gw_196 gw_197 gw_62 gc_Jx4a65c_size_8abf5) rfl rfl rfl (by decide +kernel) ⟨(Nat.le_of_ble_eq_true rfl), (Nat.le_of_ble_eq_true rfl)⟩) (xPV C w [1] rfl (by decide) (ci := 3) (q0 := 1) rfl rfl) rfl rfl hl.1 rfl (lv_room (Nat.le_of_ble_eq_true rfl)) dX6_done_4 ⟨(Nat.le_of_ble_eq_true rfl), (Nat.le_of_ble_eq_true rfl)⟩) (fun f787 H locs w => ?_)
  have w : xW G A s [(h0, .inr (10, [.ref h3, .ref h4, .ref h2, .ref h1, .ref h5, .ref h6, .ref h7, .int 0, .int 0])), (h2, .inr (3, [.int 0, .ref (sv 0), .int 0])), (h1, .inr (3, [.int 0, .ref (sv 0), .int 0]))] H _ := w
  refine lv_istore_n (lv' := [(1, .int 0), (0, .ref h0)]) C.1 C.2.1 dX6_done_7 rfl hl (by decide) rfl (fun ls hl => ?_)
  refine lv_iload_n C.1 C.2.1 dX6_done_8 rfl (lv_at hl 0 rfl) ?_
  refine lv_if_le (tgt := 24) C.1 C.2.1 dX6_done_9 (by decide) (fun _ => ?_) (fun c9 => absurd (by decide) c9)
  refine lv_aload_n C.1 C.2.1 dX6_done_24 rfl (lv_at hl 1 rfl) ?_
  refine x_get (v := .ref h2) C w 0 10 2 (xin_X6 _) rfl rfl (by decide) (List.mem_cons_of_mem _ gw_80) rfl rfl dX6_done_25 ?_
  refine x_ki C w [1] [0, 2] rfl rfl (by decide) (by decide) (va_runV (As := []) (rest := []) (xfix C) (c47_Jx4a65c_size_8abf5 l G cy sa sv h2 (xtr C) _) (cwV 0 (xhts C) (xgV (maxL := 0) (cc := ⟨#[]⟩) (ret := none) gw_195 gw_196 gw_197 gw_62 gc_Jx4a65c_size_8abf5) rfl rfl rfl (by decide +kernel) ⟨(Nat.le_of_ble_eq_true rfl), (Nat.le_of_ble_eq_true rfl)⟩) (xPV C w [1] rfl (by decide) (ci := 3) (q0 := 1) rfl rfl) rfl rfl hl.1 rfl (lv_room (Nat.le_of_ble_eq_true rfl)) dX6_done_28 ⟨(Nat.le_of_ble_eq_true rfl), (Nat.le_of_ble_eq_true rfl)⟩) (fun f788 H locs w => ?_)
  have w : xW G A s [(h0, .inr (10, [.ref h3, .ref h4, .ref h2, .ref h1, .ref h5, .ref h6, .ref h7, .int 0, .int 0])), (h1, .inr (3, [.int 0, .ref (sv 0), .int 0])), (h2, .inr (3, [.int 0, .ref (sv 0), .int 0]))] H _ := w
  refine lv_bipush (v := 12) C.1 C.2.1 dX6_done_31 (by decide) ?_
  refine lv_icmp_le (tgt := 45) C.1 C.2.1 dX6_done_33 (by decide) (fun _ => ?_) (fun c9 => absurd (by decide) c9)
  refine lv_aload_n C.1 C.2.1 dX6_done_45 rfl (lv_at hl 1 rfl) ?_
  refine x_new (fs := [.int 0, .null, .int 0]) (ty0 := tyJx4a65c) C w 3 (xin_Jx4a65c _) tyJx4a65c_ok rfl (List.mem_cons_of_mem _ gw_60) (List.mem_cons_of_mem _ gw_61) (List.mem_cons_of_mem _ gw_62) (fun j hj => by rcases (show j = 0 ∨ j = 1 ∨ j = 2 by omega) with rfl | rfl | rfl <;> rfl) (Nat.le_of_ble_eq_true rfl) (Nat.le_of_ble_eq_true rfl) dX6_done_46 (fun q789 H w => ?_)
  have w : xW G A s [(h0, .inr (10, [.ref h3, .ref h4, .ref h2, .ref h1, .ref h5, .ref h6, .ref h7, .int 0, .int 0])), (h1, .inr (3, [.int 0, .ref (sv 0), .int 0])), (h2, .inr (3, [.int 0, .ref (sv 0), .int 0])), (q789, .inr (3, [.int 0, .null, .int 0]))] H _ := w
  refine W.widen (k := 1) (n := 3) (Nat.le_of_ble_eq_true rfl) (Nat.le_of_ble_eq_true rfl) ?_
  refine lv_dup C.1 C.2.1 dX6_done_49 rfl ?_
  refine x_kv C w [3] [0, 1, 2] rfl rfl (by decide) (by decide) (va_runI (As := []) (rest := [.ref q789, .ref h0]) (xfix C) (c10_Jx4a65c_init_da8c8 l G cy sa sv q789 (xtr C) _) (cwI 0 (xhts C) (xgI gc_Jx4a65c_init_da8c8) rfl rfl rfl (xhts C _ (List.mem_cons_of_mem _ gw_62)) (xhts C _ (List.mem_cons_of_mem _ gw_76)) (xhts C _ (List.mem_cons_of_mem _ gw_77)) rfl (by decide +kernel) ⟨(Nat.le_of_ble_eq_true rfl), (Nat.le_of_ble_eq_true rfl)⟩) (xPS C w [3] rfl (by decide)) rfl rfl hl.1 rfl (lv_room (Nat.le_of_ble_eq_true rfl)) dX6_done_50 ⟨(Nat.le_of_ble_eq_true rfl), (Nat.le_of_ble_eq_true rfl)⟩) (fun f792 H locs w => ?_)
  have w : xW G A s [(h0, .inr (10, [.ref h3, .ref h4, .ref h2, .ref h1, .ref h5, .ref h6, .ref h7, .int 0, .int 0])), (h1, .inr (3, [.int 0, .ref (sv 0), .int 0])), (h2, .inr (3, [.int 0, .ref (sv 0), .int 0])), (q789, .inr (3, [.int 0, .ref (sv 0), .int 0]))] H _ := w
  refine x_put (ty := (.object "java/util/ArrayList")) (ty0 := tyX6) C w 0 10 3 (xin_X6 _) tyX6_ok nmX6 rfl rfl (by decide) (List.mem_cons_of_mem _ gw_81) rfl rfl (by decide +kernel) rfl rfl (Nat.le_of_ble_eq_true rfl) dX6_done_53 (fun H locs w => ?_)
  have w : xW G A s [(h0, .inr (10, [.ref h3, .ref h4, .ref h2, .ref q789, .ref h5, .ref h6, .ref h7, .int 0, .int 0])), (h1, .inr (3, [.int 0, .ref (sv 0), .int 0])), (h2, .inr (3, [.int 0, .ref (sv 0), .int 0])), (q789, .inr (3, [.int 0, .ref (sv 0), .int 0]))] H _ := w
  refine lv_iload_n C.1 C.2.1 dX6_done_56 rfl (lv_at hl 0 rfl) ?_
  exact x_iret C w hr (fun k => match k with | 0 => q789 | _ => 0) rfl rfl dX6_done_57 (Nat.le_of_ble_eq_true rfl) (Nat.le_of_ble_eq_true rfl)
set_option maxHeartbeats 4000000 in
set_option maxRecDepth 100000 in
theorem c102_X6_remove (l : Launch) (G : va_G) (cy : Nat → ClassId) (sa : String → Nat → Nat) (sv : Nat → Nat) (h0 h1 h2 h3 h4 h5 h6 h7 : Nat) (v0 : Int32) : xM l G cy sa sv yX6_remove (Cond.code yX6_remove cX6_remove 3 (some .int) :: XG) { frames := 12, cells := 1, slots := 3, locals := 331 } [.ref h0, .int v0] [(h0, .inr (10, [.ref h1, .ref h4, .ref h3, .ref h2, .ref h5, .ref h6, .ref h7, .int 0, .int 0])), (h1, .inr (3, [.int 0, .ref (sv 0), .int 0])), (h2, .inr (3, [.int 0, .ref (sv 0), .int 0])), (h3, .inr (3, [.int 0, .ref (sv 0), .int 0]))] (xQi G (fun f => [(h0, .inr (10, [.ref h1, .ref h4, .ref h3, .ref (f 0), .ref h5, .ref h6, .ref h7, .int 0, .int 0])), (h1, .inr (3, [.int 0, .ref (sv 0), .int 0])), (h2, .inr (3, [.int 0, .ref (sv 0), .int 0])), (h3, .inr (3, [.int 0, .ref (sv 0), .int 0])), ((f 0), .inr (3, [.int 0, .ref (sv 0), .int 0]))]) (-1000)) := by
  refine xof (by decide) (Nat.le_of_ble_eq_true rfl) (fun p e s m below meth c A C w hr hn ls hl => ?_)
  have hl : lv_has ls 3 [(0, .ref h0), (1, .int v0)] := hl
  refine lv_aload_n C.1 C.2.1 dX6_remove_0 rfl (lv_at hl 0 rfl) ?_
  refine lv_iconst (v := 0) C.1 C.2.1 dX6_remove_1 (by decide) ?_
  refine x_put (ty := .int) (ty0 := tyX6) C w 0 10 8 (xin_X6 _) tyX6_ok nmX6 rfl rfl (by decide) (List.mem_cons_of_mem _ gw_112) rfl rfl (by decide +kernel) rfl rfl (Nat.le_of_ble_eq_true rfl) dX6_remove_2 (fun H locs w => ?_)
  have w : xW G A s [(h0, .inr (10, [.ref h1, .ref h4, .ref h3, .ref h2, .ref h5, .ref h6, .ref h7, .int 0, .int 0])), (h1, .inr (3, [.int 0, .ref (sv 0), .int 0])), (h2, .inr (3, [.int 0, .ref (sv 0), .int 0])), (h3, .inr (3, [.int 0, .ref (sv 0), .int 0]))] H _ := w
  refine lv_aload_n C.1 C.2.1 dX6_remove_5 rfl (lv_at hl 0 rfl) ?_
  refine x_get (v := .ref h1) C w 0 10 0 (xin_X6 _) rfl rfl (by decide) (List.mem_cons_of_mem _ gw_78) rfl rfl dX6_remove_6 ?_
  refine lv_iload_n C.1 C.2.1 dX6_remove_9 rfl (lv_at hl 1 rfl) ?_
  refine x_ki C w [1] [0, 2, 3] rfl rfl (by decide) (by decide) (va_runS (As := [.ref h1, .int v0]) (rest := []) (xfix C) (c51_X6_valueIn l G cy sa sv h1 v0 (xtr C) _) (va_cwS 2 (xhts C) (xgS gw_210 gw_211 gw_58 gc_X6_valueIn) rfl rfl rfl (by decide +kernel) ⟨(Nat.le_of_ble_eq_true rfl), (Nat.le_of_ble_eq_true rfl)⟩) (xPS C w [1] rfl (by decide)) rfl rfl hl.1 rfl (lv_room (Nat.le_of_ble_eq_true rfl)) dX6_remove_10 ⟨(Nat.le_of_ble_eq_true rfl), (Nat.le_of_ble_eq_true rfl)⟩) (fun f784 H locs w => ?_)
  have w : xW G A s [(h0, .inr (10, [.ref h1, .ref h4, .ref h3, .ref h2, .ref h5, .ref h6, .ref h7, .int 0, .int 0])), (h2, .inr (3, [.int 0, .ref (sv 0), .int 0])), (h3, .inr (3, [.int 0, .ref (sv 0), .int 0])), (h1, .inr (3, [.int 0, .ref (sv 0), .int 0]))] H _ := w
  refine lv_istore_n (lv' := [(2, .int (-1000)), (0, .ref h0), (1, .int v0)]) C.1 C.2.1 dX6_remove_13 rfl hl (by decide) rfl (fun ls hl => ?_)
  refine lv_iload_n C.1 C.2.1 dX6_remove_14 rfl (lv_at hl 0 rfl) ?_
  refine lv_sipush (v := (-1000)) C.1 C.2.1 dX6_remove_15 (by decide) ?_
  refine lv_icmp_eq (tgt := 26) C.1 C.2.1 dX6_remove_18 (by decide) (fun _ => ?_) (fun c9 => absurd (by decide) c9)
  refine lv_aload_n C.1 C.2.1 dX6_remove_26 rfl (lv_at hl 1 rfl) ?_
  refine x_ki C w [0, 1, 2] [3] rfl rfl (by decide) (by decide) (va_runV (As := []) (rest := []) (xfix C) (c101_X6_done l G cy sa sv h0 h2 h3 h1 h4 h5 h6 h7 (xtr C) _) (cwV 0 (xhts C) (xgV (maxL := 0) (cc := ⟨#[]⟩) (ret := none) gw_244 gw_245 gw_246 gw_58 gc_X6_done) rfl rfl rfl (by decide +kernel) ⟨(Nat.le_of_ble_eq_true rfl), (Nat.le_of_ble_eq_true rfl)⟩) (xPV C w [0, 1, 2] rfl (by decide) (ci := 10) (q0 := 0) rfl rfl) rfl rfl hl.1 rfl (lv_room (Nat.le_of_ble_eq_true rfl)) dX6_remove_27 ⟨(Nat.le_of_ble_eq_true rfl), (Nat.le_of_ble_eq_true rfl)⟩) (fun f794 H locs w => ?_)
  have w : xW G A s [(h1, .inr (3, [.int 0, .ref (sv 0), .int 0])), (h0, .inr (10, [.ref h1, .ref h4, .ref h3, .ref (f794 0), .ref h5, .ref h6, .ref h7, .int 0, .int 0])), (h2, .inr (3, [.int 0, .ref (sv 0), .int 0])), (h3, .inr (3, [.int 0, .ref (sv 0), .int 0])), ((f794 0), .inr (3, [.int 0, .ref (sv 0), .int 0]))] H _ := w
  refine W.widen (k := 1) (n := 3) (Nat.le_of_ble_eq_true rfl) (Nat.le_of_ble_eq_true rfl) ?_
  refine lv_pop C.1 C.2.1 dX6_remove_30 rfl ?_
  refine lv_iload_n C.1 C.2.1 dX6_remove_31 rfl (lv_at hl 0 rfl) ?_
  have w := w.sub (ws' := [(h0, .inr (10, [.ref h1, .ref h4, .ref h3, .ref (f794 0), .ref h5, .ref h6, .ref h7, .int 0, .int 0])), (h1, .inr (3, [.int 0, .ref (sv 0), .int 0])), (h2, .inr (3, [.int 0, .ref (sv 0), .int 0])), (h3, .inr (3, [.int 0, .ref (sv 0), .int 0])), ((f794 0), .inr (3, [.int 0, .ref (sv 0), .int 0]))]) [1, 0, 2, 3, 4] (by decide) rfl rfl
  exact x_iret C w hr (fun k => match k with | 0 => (f794 0) | _ => 0) rfl rfl dX6_remove_32 (Nat.le_of_ble_eq_true rfl) (Nat.le_of_ble_eq_true rfl)
set_option maxHeartbeats 4000000 in
set_option maxRecDepth 100000 in
theorem c103_X4_removeIf (l : Launch) (G : va_G) (cy : Nat → ClassId) (sa : String → Nat → Nat) (sv : Nat → Nat) (h0 h1 h2 h3 h4 h5 h6 h7 h8 h9 h10 : Nat) (v0 v1 : Int32) : xM l G cy sa sv yX4_removeIf (Cond.code yX4_removeIf cX4_removeIf 3 (some .boolean) :: XG) { frames := 11, cells := 0, slots := 0, locals := 315 } [.ref h0, .int v0, .int v1] [(h0, .inr (8, [.ref h1, .ref h3, .ref h4, .ref h5, .ref h6, .int 0, .ref h7, .ref h8])), (h1, .inr (7, [.ref h2, .ref h9])), (h2, .inr (6, [.ref h10, .int 0]))] (xQi G (fun f => [(h0, .inr (8, [.ref h1, .ref h3, .ref h4, .ref h5, .ref h6, .int 0, .ref h7, .ref h8])), (h1, .inr (7, [.ref h2, .ref h9])), (h2, .inr (6, [.ref h10, .int 0]))]) 0) := by
  refine xof (by decide) (Nat.le_of_ble_eq_true rfl) (fun p e s m below meth c A C w hr hn ls hl => ?_)
  have hl : lv_has ls 3 [(0, .ref h0), (1, .int v0), (2, .int v1)] := hl
  refine lv_aload_n C.1 C.2.1 dX4_removeIf_0 rfl (lv_at hl 0 rfl) ?_
  refine lv_iload_n C.1 C.2.1 dX4_removeIf_1 rfl (lv_at hl 1 rfl) ?_
  refine lv_iload_n C.1 C.2.1 dX4_removeIf_2 rfl (lv_at hl 2 rfl) ?_
  refine x_ki C w [0, 1, 2] [] rfl rfl (by decide) (by decide) (va_runV (As := [.int v0, .int v1]) (rest := []) (xfix C) (c93_X4_isThereWith l G cy sa sv h0 h1 h2 h3 h4 h5 h6 h7 h8 h9 h10 v0 v1 (xtr C) _) (cwV 2 (xhts C) (xgV (maxL := 0) (cc := ⟨#[]⟩) (ret := none) gw_286 gw_287 gw_288 gw_2 gc_X4_isThereWith) rfl rfl rfl (by decide +kernel) ⟨(Nat.le_of_ble_eq_true rfl), (Nat.le_of_ble_eq_true rfl)⟩) (xPV C w [0, 1, 2] rfl (by decide) (ci := 8) (q0 := 0) rfl rfl) rfl rfl hl.1 rfl (lv_room (Nat.le_of_ble_eq_true rfl)) dX4_removeIf_3 ⟨(Nat.le_of_ble_eq_true rfl), (Nat.le_of_ble_eq_true rfl)⟩) (fun f800 H locs w => ?_)
  have w : xW G A s [(h0, .inr (8, [.ref h1, .ref h3, .ref h4, .ref h5, .ref h6, .int 0, .ref h7, .ref h8])), (h1, .inr (7, [.ref h2, .ref h9])), (h2, .inr (6, [.ref h10, .int 0]))] H _ := w
  refine lv_if_ne (tgt := 11) C.1 C.2.1 dX4_removeIf_6 (by decide) (fun c9 => absurd (by decide) c9) (fun _ => ?_)
  refine lv_iconst (v := 0) C.1 C.2.1 dX4_removeIf_9 (by decide) ?_
  exact x_zret C w hr rfl (fun _ => 0) rfl rfl dX4_removeIf_10 (Nat.le_of_ble_eq_true rfl) (Nat.le_of_ble_eq_true rfl)
set_option maxHeartbeats 4000000 in
set_option maxRecDepth 100000 in
theorem c104_X6_removeIf (l : Launch) (G : va_G) (cy : Nat → ClassId) (sa : String → Nat → Nat) (sv : Nat → Nat) (h0 h1 h2 h3 h4 h5 h6 h7 : Nat) (v0 v1 : Int32) : xM l G cy sa sv yX6_removeIf (Cond.code yX6_removeIf cX6_removeIf 4 (some .boolean) :: XG) { frames := 12, cells := 1, slots := 3, locals := 331 } [.ref h0, .int v0, .int v1] [(h0, .inr (10, [.ref h1, .ref h4, .ref h3, .ref h2, .ref h5, .ref h6, .ref h7, .int 0, .int 0])), (h1, .inr (3, [.int 0, .ref (sv 0), .int 0])), (h2, .inr (3, [.int 0, .ref (sv 0), .int 0])), (h3, .inr (3, [.int 0, .ref (sv 0), .int 0]))] (xQi G (fun f => [(h0, .inr (10, [.ref h1, .ref h4, .ref h3, .ref (f 0), .ref h5, .ref h6, .ref h7, .int 0, .int 0])), (h1, .inr (3, [.int 0, .ref (sv 0), .int 0])), (h2, .inr (3, [.int 0, .ref (sv 0), .int 0])), (h3, .inr (3, [.int 0, .ref (sv 0), .int 0])), ((f 0), .inr (3, [.int 0, .ref (sv 0), .int 0]))]) 0) := by
  refine xof (by decide) (Nat.le_of_ble_eq_true rfl) (fun p e s m below meth c A C w hr hn ls hl => ?_)
  have hl : lv_has ls 4 [(0, .ref h0), (1, .int v0), (2, .int v1)] := hl
  refine lv_aload_n C.1 C.2.1 dX6_removeIf_0 rfl (lv_at hl 0 rfl) ?_
  refine lv_iconst (v := 0) C.1 C.2.1 dX6_removeIf_1 (by decide) ?_
  refine x_put (ty := .int) (ty0 := tyX6) C w 0 10 8 (xin_X6 _) tyX6_ok nmX6 rfl rfl (by decide) (List.mem_cons_of_mem _ gw_112) rfl rfl (by decide +kernel) rfl rfl (Nat.le_of_ble_eq_true rfl) dX6_removeIf_2 (fun H locs w => ?_)
  have w : xW G A s [(h0, .inr (10, [.ref h1, .ref h4, .ref h3, .ref h2, .ref h5, .ref h6, .ref h7, .int 0, .int 0])), (h1, .inr (3, [.int 0, .ref (sv 0), .int 0])), (h2, .inr (3, [.int 0, .ref (sv 0), .int 0])), (h3, .inr (3, [.int 0, .ref (sv 0), .int 0]))] H _ := w
  refine lv_aload_n C.1 C.2.1 dX6_removeIf_5 rfl (lv_at hl 0 rfl) ?_
  refine x_get (v := .ref h1) C w 0 10 0 (xin_X6 _) rfl rfl (by decide) (List.mem_cons_of_mem _ gw_78) rfl rfl dX6_removeIf_6 ?_
  refine lv_iload_n C.1 C.2.1 dX6_removeIf_9 rfl (lv_at hl 1 rfl) ?_
  refine x_ki C w [1] [0, 2, 3] rfl rfl (by decide) (by decide) (va_runS (As := [.ref h1, .int v0]) (rest := []) (xfix C) (c50_X6_at l G cy sa sv h1 v0 (xtr C) _) (va_cwS 2 (xhts C) (xgS gw_207 gw_208 gw_58 gc_X6_at) rfl rfl rfl (by decide +kernel) ⟨(Nat.le_of_ble_eq_true rfl), (Nat.le_of_ble_eq_true rfl)⟩) (xPS C w [1] rfl (by decide)) rfl rfl hl.1 rfl (lv_room (Nat.le_of_ble_eq_true rfl)) dX6_removeIf_10 ⟨(Nat.le_of_ble_eq_true rfl), (Nat.le_of_ble_eq_true rfl)⟩) (fun f805 H locs w => ?_)
  have w : xW G A s [(h0, .inr (10, [.ref h1, .ref h4, .ref h3, .ref h2, .ref h5, .ref h6, .ref h7, .int 0, .int 0])), (h2, .inr (3, [.int 0, .ref (sv 0), .int 0])), (h3, .inr (3, [.int 0, .ref (sv 0), .int 0])), (h1, .inr (3, [.int 0, .ref (sv 0), .int 0]))] H _ := w
  refine lv_if_lt (tgt := 32) C.1 C.2.1 dX6_removeIf_13 (by decide) (fun _ => ?_) (fun c9 => absurd (by decide) c9)
  refine lv_iconst (v := 0) C.1 C.2.1 dX6_removeIf_32 (by decide) ?_
  refine lv_istore_n (lv' := [(3, .int 0), (0, .ref h0), (1, .int v0), (2, .int v1)]) C.1 C.2.1 dX6_removeIf_33 rfl hl (by decide) rfl (fun ls hl => ?_)
  refine lv_iload_n C.1 C.2.1 dX6_removeIf_34 rfl (lv_at hl 0 rfl) ?_
  refine lv_if_eq (tgt := 43) C.1 C.2.1 dX6_removeIf_35 (by decide) (fun _ => ?_) (fun c9 => absurd (by decide) c9)
  refine lv_aload_n C.1 C.2.1 dX6_removeIf_43 rfl (lv_at hl 1 rfl) ?_
  refine x_ki C w [0, 1, 2] [3] rfl rfl (by decide) (by decide) (va_runV (As := []) (rest := []) (xfix C) (c101_X6_done l G cy sa sv h0 h2 h3 h1 h4 h5 h6 h7 (xtr C) _) (cwV 0 (xhts C) (xgV (maxL := 0) (cc := ⟨#[]⟩) (ret := none) gw_244 gw_245 gw_246 gw_58 gc_X6_done) rfl rfl rfl (by decide +kernel) ⟨(Nat.le_of_ble_eq_true rfl), (Nat.le_of_ble_eq_true rfl)⟩) (xPV C w [0, 1, 2] rfl (by decide) (ci := 10) (q0 := 0) rfl rfl) rfl rfl hl.1 rfl (lv_room (Nat.le_of_ble_eq_true rfl)) dX6_removeIf_44 ⟨(Nat.le_of_ble_eq_true rfl), (Nat.le_of_ble_eq_true rfl)⟩) (fun f815 H locs w => ?_)
  have w : xW G A s [(h1, .inr (3, [.int 0, .ref (sv 0), .int 0])), (h0, .inr (10, [.ref h1, .ref h4, .ref h3, .ref (f815 0), .ref h5, .ref h6, .ref h7, .int 0, .int 0])), (h2, .inr (3, [.int 0, .ref (sv 0), .int 0])), (h3, .inr (3, [.int 0, .ref (sv 0), .int 0])), ((f815 0), .inr (3, [.int 0, .ref (sv 0), .int 0]))] H _ := w
  refine W.widen (k := 1) (n := 3) (Nat.le_of_ble_eq_true rfl) (Nat.le_of_ble_eq_true rfl) ?_
  refine lv_pop C.1 C.2.1 dX6_removeIf_47 rfl ?_
  refine lv_iload_n C.1 C.2.1 dX6_removeIf_48 rfl (lv_at hl 0 rfl) ?_
  have w := w.sub (ws' := [(h0, .inr (10, [.ref h1, .ref h4, .ref h3, .ref (f815 0), .ref h5, .ref h6, .ref h7, .int 0, .int 0])), (h1, .inr (3, [.int 0, .ref (sv 0), .int 0])), (h2, .inr (3, [.int 0, .ref (sv 0), .int 0])), (h3, .inr (3, [.int 0, .ref (sv 0), .int 0])), ((f815 0), .inr (3, [.int 0, .ref (sv 0), .int 0]))]) [1, 0, 2, 3, 4] (by decide) rfl rfl
  exact x_zret C w hr rfl (fun k => match k with | 0 => (f815 0) | _ => 0) rfl rfl dX6_removeIf_49 (Nat.le_of_ble_eq_true rfl) (Nat.le_of_ble_eq_true rfl)
set_option maxHeartbeats 4000000 in
set_option maxRecDepth 100000 in
theorem c105_X2_placeOf (l : Launch) (G : va_G) (cy : Nat → ClassId) (sa : String → Nat → Nat) (sv : Nat → Nat) (h0 h1 : Nat) : xM l G cy sa sv yX2_placeOf (Cond.code yX2_placeOf cX2_placeOf 3 (some .int) :: XG) { frames := 8, cells := 0, slots := 0, locals := 250 } [.ref h0, .int 2147483647] [(h0, .inr (6, [.ref h1, .int 0]))] (xQi G (fun f => [(h0, .inr (6, [.ref h1, .int 0]))]) (-1)) := by
  refine xof (by decide) (Nat.le_of_ble_eq_true rfl) (fun p e s m below meth c A C w hr hn ls hl => ?_)
  have hl : lv_has ls 3 [(0, .ref h0), (1, .int 2147483647)] := hl
  refine lv_iconst (v := 0) C.1 C.2.1 dX2_placeOf_0 (by decide) ?_
  refine lv_istore_n (lv' := [(2, .int 0), (0, .ref h0), (1, .int 2147483647)]) C.1 C.2.1 dX2_placeOf_1 rfl hl (by decide) rfl (fun ls hl => ?_)
  refine lv_iload_n C.1 C.2.1 dX2_placeOf_2 rfl (lv_at hl 0 rfl) ?_
  refine lv_aload_n C.1 C.2.1 dX2_placeOf_3 rfl (lv_at hl 1 rfl) ?_
  refine x_get (v := .int 0) C w 0 6 1 (xin_X2 _) rfl rfl (by decide) (List.mem_cons_of_mem _ gw_15) rfl rfl dX2_placeOf_4 ?_
  refine lv_icmp_ge (tgt := 28) C.1 C.2.1 dX2_placeOf_7 (by decide) (fun _ => ?_) (fun c9 => absurd (by decide) c9)
  refine lv_iconst (v := (-1)) C.1 C.2.1 dX2_placeOf_28 (by decide) ?_
  exact x_iret C w hr (fun _ => 0) rfl rfl dX2_placeOf_29 (Nat.le_of_ble_eq_true rfl) (Nat.le_of_ble_eq_true rfl)
set_option maxHeartbeats 4000000 in
set_option maxRecDepth 100000 in
theorem c106_X3_holds (l : Launch) (G : va_G) (cy : Nat → ClassId) (sa : String → Nat → Nat) (sv : Nat → Nat) (h0 h1 h2 h3 : Nat) : xM l G cy sa sv yX3_holds (Cond.code yX3_holds cX3_holds 2 (some .boolean) :: XG) { frames := 9, cells := 0, slots := 0, locals := 272 } [.ref h0, .int 2147483647] [(h0, .inr (7, [.ref h1, .ref h2])), (h1, .inr (6, [.ref h3, .int 0]))] (xQi G (fun f => [(h0, .inr (7, [.ref h1, .ref h2])), (h1, .inr (6, [.ref h3, .int 0]))]) 0) := by
  refine xof (by decide) (Nat.le_of_ble_eq_true rfl) (fun p e s m below meth c A C w hr hn ls hl => ?_)
  have hl : lv_has ls 2 [(0, .ref h0), (1, .int 2147483647)] := hl
  refine lv_aload_n C.1 C.2.1 dX3_holds_0 rfl (lv_at hl 0 rfl) ?_
  refine x_get (v := .ref h1) C w 0 7 0 (xin_X3 _) rfl rfl (by decide) (List.mem_cons_of_mem _ gw_19) rfl rfl dX3_holds_1 ?_
  refine lv_iload_n C.1 C.2.1 dX3_holds_4 rfl (lv_at hl 1 rfl) ?_
  refine x_ki C w [1] [0] rfl rfl (by decide) (by decide) (va_runV (As := [.int 2147483647]) (rest := []) (xfix C) (c105_X2_placeOf l G cy sa sv h1 h3 (xtr C) _) (cwV 1 (xhts C) (xgV (maxL := 0) (cc := ⟨#[]⟩) (ret := none) gw_138 gw_139 gw_140 gw_11 gc_X2_placeOf) rfl rfl rfl (by decide +kernel) ⟨(Nat.le_of_ble_eq_true rfl), (Nat.le_of_ble_eq_true rfl)⟩) (xPV C w [1] rfl (by decide) (ci := 6) (q0 := 1) rfl rfl) rfl rfl hl.1 rfl (lv_room (Nat.le_of_ble_eq_true rfl)) dX3_holds_5 ⟨(Nat.le_of_ble_eq_true rfl), (Nat.le_of_ble_eq_true rfl)⟩) (fun f820 H locs w => ?_)
  have w : xW G A s [(h0, .inr (7, [.ref h1, .ref h2])), (h1, .inr (6, [.ref h3, .int 0]))] H _ := w
  refine lv_iconst (v := (-1)) C.1 C.2.1 dX3_holds_8 (by decide) ?_
  refine lv_icmp_eq (tgt := 16) C.1 C.2.1 dX3_holds_9 (by decide) (fun _ => ?_) (fun c9 => absurd (by decide) c9)
  refine lv_iconst (v := 0) C.1 C.2.1 dX3_holds_16 (by decide) ?_
  exact x_zret C w hr rfl (fun _ => 0) rfl rfl dX3_holds_17 (Nat.le_of_ble_eq_true rfl) (Nat.le_of_ble_eq_true rfl)
set_option maxHeartbeats 4000000 in
set_option maxRecDepth 100000 in
theorem c107_X3_countBelow (l : Launch) (G : va_G) (cy : Nat → ClassId) (sa : String → Nat → Nat) (sv : Nat → Nat) (h0 h1 h2 h3 : Nat) : xM l G cy sa sv yX3_countBelow (Cond.code yX3_countBelow cX3_countBelow 4 (some .int) :: XG) { frames := 9, cells := 0, slots := 0, locals := 270 } [.ref h0, .int 2147483647] [(h0, .inr (7, [.ref h1, .ref h2])), (h1, .inr (6, [.ref h3, .int 0]))] (xQi G (fun f => [(h0, .inr (7, [.ref h1, .ref h2])), (h1, .inr (6, [.ref h3, .int 0]))]) 0) := by
  refine xof (by decide) (Nat.le_of_ble_eq_true rfl) (fun p e s m below meth c A C w hr hn ls hl => ?_)
  have hl : lv_has ls 4 [(0, .ref h0), (1, .int 2147483647)] := hl
  refine lv_aload_n C.1 C.2.1 dX3_countBelow_0 rfl (lv_at hl 0 rfl) ?_
  refine x_get (v := .ref h1) C w 0 7 0 (xin_X3 _) rfl rfl (by decide) (List.mem_cons_of_mem _ gw_19) rfl rfl dX3_countBelow_1 ?_
  refine x_ki C w [1] [0] rfl rfl (by decide) (by decide) (va_runV (As := []) (rest := []) (xfix C) (c21_X2_count l G cy sa sv h1 h3 (xtr C) _) (cwV 0 (xhts C) (xgV (maxL := 0) (cc := ⟨#[]⟩) (ret := none) gw_126 gw_127 gw_128 gw_11 gc_X2_count) rfl rfl rfl (by decide +kernel) ⟨(Nat.le_of_ble_eq_true rfl), (Nat.le_of_ble_eq_true rfl)⟩) (xPV C w [1] rfl (by decide) (ci := 6) (q0 := 1) rfl rfl) rfl rfl hl.1 rfl (lv_room (Nat.le_of_ble_eq_true rfl)) dX3_countBelow_4 ⟨(Nat.le_of_ble_eq_true rfl), (Nat.le_of_ble_eq_true rfl)⟩) (fun f822 H locs w => ?_)
  have w : xW G A s [(h0, .inr (7, [.ref h1, .ref h2])), (h1, .inr (6, [.ref h3, .int 0]))] H _ := w
  refine lv_istore_n (lv' := [(2, .int 0), (0, .ref h0), (1, .int 2147483647)]) C.1 C.2.1 dX3_countBelow_7 rfl hl (by decide) rfl (fun ls hl => ?_)
  refine lv_iconst (v := 0) C.1 C.2.1 dX3_countBelow_8 (by decide) ?_
  refine lv_istore_n (lv' := [(3, .int 0), (2, .int 0), (0, .ref h0), (1, .int 2147483647)]) C.1 C.2.1 dX3_countBelow_9 rfl hl (by decide) rfl (fun ls hl => ?_)
  refine lv_iload_n C.1 C.2.1 dX3_countBelow_10 rfl (lv_at hl 0 rfl) ?_
  refine lv_iload_n C.1 C.2.1 dX3_countBelow_11 rfl (lv_at hl 1 rfl) ?_
  refine lv_icmp_ge (tgt := 35) C.1 C.2.1 dX3_countBelow_12 (by decide) (fun _ => ?_) (fun c9 => absurd (by decide) c9)
  refine lv_iload_n C.1 C.2.1 dX3_countBelow_35 rfl (lv_at hl 1 rfl) ?_
  exact x_iret C w hr (fun _ => 0) rfl rfl dX3_countBelow_36 (Nat.le_of_ble_eq_true rfl) (Nat.le_of_ble_eq_true rfl)
set_option maxHeartbeats 4000000 in
set_option maxRecDepth 100000 in
theorem c108_X3_countNotAbove (l : Launch) (G : va_G) (cy : Nat → ClassId) (sa : String → Nat → Nat) (sv : Nat → Nat) (h0 h1 h2 h3 : Nat) : xM l G cy sa sv yX3_countNotAbove (Cond.code yX3_countNotAbove cX3_countNotAbove 2 (some .int) :: XG) { frames := 10, cells := 0, slots := 0, locals := 293 } [.ref h0, .int 2147483647] [(h0, .inr (7, [.ref h1, .ref h2])), (h1, .inr (6, [.ref h3, .int 0]))] (xQi G (fun f => [(h0, .inr (7, [.ref h1, .ref h2])), (h1, .inr (6, [.ref h3, .int 0]))]) 0) := by
  refine xof (by decide) (Nat.le_of_ble_eq_true rfl) (fun p e s m below meth c A C w hr hn ls hl => ?_)
  have hl : lv_has ls 2 [(0, .ref h0), (1, .int 2147483647)] := hl
  refine lv_aload_n C.1 C.2.1 dX3_countNotAbove_0 rfl (lv_at hl 0 rfl) ?_
  refine lv_iload_n C.1 C.2.1 dX3_countNotAbove_1 rfl (lv_at hl 1 rfl) ?_
  refine x_ki C w [0, 1] [] rfl rfl (by decide) (by decide) (va_runV (As := [.int 2147483647]) (rest := []) (xfix C) (c106_X3_holds l G cy sa sv h0 h1 h2 h3 (xtr C) _) (cwV 1 (xhts C) (xgV (maxL := 0) (cc := ⟨#[]⟩) (ret := none) gw_162 gw_163 gw_164 gw_7 gc_X3_holds) rfl rfl rfl (by decide +kernel) ⟨(Nat.le_of_ble_eq_true rfl), (Nat.le_of_ble_eq_true rfl)⟩) (xPV C w [0, 1] rfl (by decide) (ci := 7) (q0 := 0) rfl rfl) rfl rfl hl.1 rfl (lv_room (Nat.le_of_ble_eq_true rfl)) dX3_countNotAbove_2 ⟨(Nat.le_of_ble_eq_true rfl), (Nat.le_of_ble_eq_true rfl)⟩) (fun f821 H locs w => ?_)
  have w : xW G A s [(h0, .inr (7, [.ref h1, .ref h2])), (h1, .inr (6, [.ref h3, .int 0]))] H _ := w
  refine lv_if_eq (tgt := 18) C.1 C.2.1 dX3_countNotAbove_5 (by decide) (fun _ => ?_) (fun c9 => absurd (by decide) c9)
  refine lv_aload_n C.1 C.2.1 dX3_countNotAbove_18 rfl (lv_at hl 0 rfl) ?_
  refine lv_iload_n C.1 C.2.1 dX3_countNotAbove_19 rfl (lv_at hl 1 rfl) ?_
  refine x_ki C w [0, 1] [] rfl rfl (by decide) (by decide) (va_runV (As := [.int 2147483647]) (rest := []) (xfix C) (c107_X3_countBelow l G cy sa sv h0 h1 h2 h3 (xtr C) _) (cwV 1 (xhts C) (xgV (maxL := 0) (cc := ⟨#[]⟩) (ret := none) gw_158 gw_159 gw_160 gw_7 gc_X3_countBelow) rfl rfl rfl (by decide +kernel) ⟨(Nat.le_of_ble_eq_true rfl), (Nat.le_of_ble_eq_true rfl)⟩) (xPV C w [0, 1] rfl (by decide) (ci := 7) (q0 := 0) rfl rfl) rfl rfl hl.1 rfl (lv_room (Nat.le_of_ble_eq_true rfl)) dX3_countNotAbove_20 ⟨(Nat.le_of_ble_eq_true rfl), (Nat.le_of_ble_eq_true rfl)⟩) (fun f823 H locs w => ?_)
  have w : xW G A s [(h0, .inr (7, [.ref h1, .ref h2])), (h1, .inr (6, [.ref h3, .int 0]))] H _ := w
  exact x_iret C w hr (fun _ => 0) rfl rfl dX3_countNotAbove_23 (Nat.le_of_ble_eq_true rfl) (Nat.le_of_ble_eq_true rfl)
set_option maxHeartbeats 4000000 in
set_option maxRecDepth 100000 in
theorem c109_X2_empty (l : Launch) (G : va_G) (cy : Nat → ClassId) (sa : String → Nat → Nat) (sv : Nat → Nat) (h0 h1 : Nat) : xM l G cy sa sv yX2_empty (Cond.code yX2_empty cX2_empty 1 none :: XG) { frames := 8, cells := 0, slots := 0, locals := 250 } [.ref h0] [(h0, .inr (6, [.ref h1, .int 0]))] (xQv G (fun f => [(h0, .inr (6, [.ref h1, .int 0]))])) := by
  refine xof (by decide) (Nat.le_of_ble_eq_true rfl) (fun p e s m below meth c A C w hr hn ls hl => ?_)
  have hl : lv_has ls 1 [(0, .ref h0)] := hl
  refine lv_aload_n C.1 C.2.1 dX2_empty_0 rfl (lv_at hl 0 rfl) ?_
  refine lv_iconst (v := 0) C.1 C.2.1 dX2_empty_1 (by decide) ?_
  refine x_put (ty := .int) (ty0 := tyX2) C w 0 6 1 (xin_X2 _) tyX2_ok nmX2 rfl rfl (by decide) (List.mem_cons_of_mem _ gw_15) rfl rfl (by decide +kernel) rfl rfl (Nat.le_of_ble_eq_true rfl) dX2_empty_2 (fun H locs w => ?_)
  have w : xW G A s [(h0, .inr (6, [.ref h1, .int 0]))] H _ := w
  exact x_vret C w hr (fun _ => 0) rfl dX2_empty_5 (Nat.le_of_ble_eq_true rfl) (Nat.le_of_ble_eq_true rfl)
set_option maxHeartbeats 4000000 in
set_option maxRecDepth 100000 in
theorem c110_X3_countBelow (l : Launch) (G : va_G) (cy : Nat → ClassId) (sa : String → Nat → Nat) (sv : Nat → Nat) (h0 h1 h2 h3 : Nat) : xM l G cy sa sv yX3_countBelow (Cond.code yX3_countBelow cX3_countBelow 4 (some .int) :: XG) { frames := 9, cells := 0, slots := 0, locals := 270 } [.ref h0, .int (-2147483648)] [(h0, .inr (7, [.ref h1, .ref h2])), (h1, .inr (6, [.ref h3, .int 0]))] (xQi G (fun f => [(h0, .inr (7, [.ref h1, .ref h2])), (h1, .inr (6, [.ref h3, .int 0]))]) 0) := by
  refine xof (by decide) (Nat.le_of_ble_eq_true rfl) (fun p e s m below meth c A C w hr hn ls hl => ?_)
  have hl : lv_has ls 4 [(0, .ref h0), (1, .int (-2147483648))] := hl
  refine lv_aload_n C.1 C.2.1 dX3_countBelow_0 rfl (lv_at hl 0 rfl) ?_
  refine x_get (v := .ref h1) C w 0 7 0 (xin_X3 _) rfl rfl (by decide) (List.mem_cons_of_mem _ gw_19) rfl rfl dX3_countBelow_1 ?_
  refine x_ki C w [1] [0] rfl rfl (by decide) (by decide) (va_runV (As := []) (rest := []) (xfix C) (c21_X2_count l G cy sa sv h1 h3 (xtr C) _) (cwV 0 (xhts C) (xgV (maxL := 0) (cc := ⟨#[]⟩) (ret := none) gw_126 gw_127 gw_128 gw_11 gc_X2_count) rfl rfl rfl (by decide +kernel) ⟨(Nat.le_of_ble_eq_true rfl), (Nat.le_of_ble_eq_true rfl)⟩) (xPV C w [1] rfl (by decide) (ci := 6) (q0 := 1) rfl rfl) rfl rfl hl.1 rfl (lv_room (Nat.le_of_ble_eq_true rfl)) dX3_countBelow_4 ⟨(Nat.le_of_ble_eq_true rfl), (Nat.le_of_ble_eq_true rfl)⟩) (fun f826 H locs w => ?_)
  have w : xW G A s [(h0, .inr (7, [.ref h1, .ref h2])), (h1, .inr (6, [.ref h3, .int 0]))] H _ := w
  refine lv_istore_n (lv' := [(2, .int 0), (0, .ref h0), (1, .int (-2147483648))]) C.1 C.2.1 dX3_countBelow_7 rfl hl (by decide) rfl (fun ls hl => ?_)
  refine lv_iconst (v := 0) C.1 C.2.1 dX3_countBelow_8 (by decide) ?_
  refine lv_istore_n (lv' := [(3, .int 0), (2, .int 0), (0, .ref h0), (1, .int (-2147483648))]) C.1 C.2.1 dX3_countBelow_9 rfl hl (by decide) rfl (fun ls hl => ?_)
  refine lv_iload_n C.1 C.2.1 dX3_countBelow_10 rfl (lv_at hl 0 rfl) ?_
  refine lv_iload_n C.1 C.2.1 dX3_countBelow_11 rfl (lv_at hl 1 rfl) ?_
  refine lv_icmp_ge (tgt := 35) C.1 C.2.1 dX3_countBelow_12 (by decide) (fun _ => ?_) (fun c9 => absurd (by decide) c9)
  refine lv_iload_n C.1 C.2.1 dX3_countBelow_35 rfl (lv_at hl 1 rfl) ?_
  exact x_iret C w hr (fun _ => 0) rfl rfl dX3_countBelow_36 (Nat.le_of_ble_eq_true rfl) (Nat.le_of_ble_eq_true rfl)
set_option maxHeartbeats 4000000 in
set_option maxRecDepth 100000 in
theorem c111_X4_dropChosen (l : Launch) (G : va_G) (cy : Nat → ClassId) (sa : String → Nat → Nat) (sv : Nat → Nat) (h0 h1 h2 h3 h4 h5 h6 h7 h8 : Nat) : xM l G cy sa sv yX4_dropChosen (Cond.code yX4_dropChosen cX4_dropChosen 3 (some .int) :: XG) { frames := 9, cells := 0, slots := 0, locals := 270 } [.ref h0] [(h0, .inr (8, [.ref h2, .ref h3, .ref h4, .ref h5, .ref h6, .int 0, .ref h1, .ref h7])), (h1, .inr (6, [.ref h8, .int 0]))] (xQi G (fun f => [(h0, .inr (8, [.ref h2, .ref h3, .ref h4, .ref h5, .ref h6, .int 0, .ref h1, .ref h7])), (h1, .inr (6, [.ref h8, .int 0]))]) 0) := by
  refine xof (by decide) (Nat.le_of_ble_eq_true rfl) (fun p e s m below meth c A C w hr hn ls hl => ?_)
  have hl : lv_has ls 3 [(0, .ref h0)] := hl
  refine lv_aload_n C.1 C.2.1 dX4_dropChosen_0 rfl (lv_at hl 0 rfl) ?_
  refine x_get (v := .ref h1) C w 0 8 6 (xin_X4 _) rfl rfl (by decide) (List.mem_cons_of_mem _ gw_51) rfl rfl dX4_dropChosen_1 ?_
  refine x_ki C w [1] [0] rfl rfl (by decide) (by decide) (va_runV (As := []) (rest := []) (xfix C) (c21_X2_count l G cy sa sv h1 h8 (xtr C) _) (cwV 0 (xhts C) (xgV (maxL := 0) (cc := ⟨#[]⟩) (ret := none) gw_316 gw_127 gw_128 gw_11 gc_X2_count) rfl rfl rfl (by decide +kernel) ⟨(Nat.le_of_ble_eq_true rfl), (Nat.le_of_ble_eq_true rfl)⟩) (xPV C w [1] rfl (by decide) (ci := 6) (q0 := 1) rfl rfl) rfl rfl hl.1 rfl (lv_room (Nat.le_of_ble_eq_true rfl)) dX4_dropChosen_4 ⟨(Nat.le_of_ble_eq_true rfl), (Nat.le_of_ble_eq_true rfl)⟩) (fun f828 H locs w => ?_)
  have w : xW G A s [(h0, .inr (8, [.ref h2, .ref h3, .ref h4, .ref h5, .ref h6, .int 0, .ref h1, .ref h7])), (h1, .inr (6, [.ref h8, .int 0]))] H _ := w
  refine lv_istore_n (lv' := [(1, .int 0), (0, .ref h0)]) C.1 C.2.1 dX4_dropChosen_7 rfl hl (by decide) rfl (fun ls hl => ?_)
  refine lv_iconst (v := 0) C.1 C.2.1 dX4_dropChosen_8 (by decide) ?_
  refine lv_istore_n (lv' := [(2, .int 0), (1, .int 0), (0, .ref h0)]) C.1 C.2.1 dX4_dropChosen_9 rfl hl (by decide) rfl (fun ls hl => ?_)
  refine lv_iload_n C.1 C.2.1 dX4_dropChosen_10 rfl (lv_at hl 0 rfl) ?_
  refine lv_iload_n C.1 C.2.1 dX4_dropChosen_11 rfl (lv_at hl 1 rfl) ?_
  refine lv_icmp_ge (tgt := 33) C.1 C.2.1 dX4_dropChosen_12 (by decide) (fun _ => ?_) (fun c9 => absurd (by decide) c9)
  refine lv_iload_n C.1 C.2.1 dX4_dropChosen_33 rfl (lv_at hl 1 rfl) ?_
  exact x_iret C w hr (fun _ => 0) rfl rfl dX4_dropChosen_34 (Nat.le_of_ble_eq_true rfl) (Nat.le_of_ble_eq_true rfl)
set_option maxHeartbeats 4000000 in
set_option maxRecDepth 100000 in
theorem c112_X1_endStep (l : Launch) (G : va_G) (cy : Nat → ClassId) (sa : String → Nat → Nat) (sv : Nat → Nat) (h0 h1 h2 h3 : Nat) : xM l G cy sa sv yX1_endStep (Cond.code yX1_endStep cX1_endStep 1 none :: XG) { frames := 8, cells := 0, slots := 0, locals := 250 } [.ref h0] [(h0, .inr (5, [.ref h1, .ref h2, .ref h3, .int 0]))] (xQv G (fun f => [(h0, .inr (5, [.ref h1, .ref h2, .ref h3, .int 0]))])) := by
  refine xof (by decide) (Nat.le_of_ble_eq_true rfl) (fun p e s m below meth c A C w hr hn ls hl => ?_)
  have hl : lv_has ls 1 [(0, .ref h0)] := hl
  refine lv_aload_n C.1 C.2.1 dX1_endStep_0 rfl (lv_at hl 0 rfl) ?_
  refine x_get (v := .int 0) C w 0 5 3 (xin_X1 _) rfl rfl (by decide) (List.mem_cons_of_mem _ gw_37) rfl rfl dX1_endStep_1 ?_
  refine lv_if_ne (tgt := 8) C.1 C.2.1 dX1_endStep_4 (by decide) (fun c9 => absurd (by decide) c9) (fun _ => ?_)
  exact x_vret C w hr (fun _ => 0) rfl dX1_endStep_7 (Nat.le_of_ble_eq_true rfl) (Nat.le_of_ble_eq_true rfl)
set_option maxHeartbeats 4000000 in
set_option maxRecDepth 100000 in
theorem c113_X4_rangeClear (l : Launch) (G : va_G) (cy : Nat → ClassId) (sa : String → Nat → Nat) (sv : Nat → Nat) (h0 h1 h2 h3 h4 h5 h6 h7 h8 h9 h10 h11 h12 h13 h14 : Nat) : xM l G cy sa sv yX4_rangeClear (Cond.code yX4_rangeClear cX4_rangeClear 5 (some .int) :: XG) { frames := 11, cells := 0, slots := 0, locals := 314 } [.ref h0, .int (-2147483648), .int 2147483647] [(h0, .inr (8, [.ref h1, .ref h5, .ref h4, .ref h6, .ref h7, .int 0, .ref h3, .ref h8])), (h1, .inr (7, [.ref h2, .ref h9])), (h2, .inr (6, [.ref h10, .int 0])), (h3, .inr (6, [.ref h11, .int 0])), (h4, .inr (5, [.ref h12, .ref h13, .ref h14, .int 0]))] (xQi G (fun f => [(h0, .inr (8, [.ref h1, .ref h5, .ref h4, .ref h6, .ref h7, .int 0, .ref h3, .ref h8])), (h1, .inr (7, [.ref h2, .ref h9])), (h2, .inr (6, [.ref h10, .int 0])), (h3, .inr (6, [.ref h11, .int 0])), (h4, .inr (5, [.ref h12, .ref h13, .ref h14, .int 0]))]) 0) := by
  refine xof (by decide) (Nat.le_of_ble_eq_true rfl) (fun p e s m below meth c A C w hr hn ls hl => ?_)
  have hl : lv_has ls 5 [(0, .ref h0), (1, .int (-2147483648)), (2, .int 2147483647)] := hl
  refine lv_iload_n C.1 C.2.1 dX4_rangeClear_0 rfl (lv_at hl 1 rfl) ?_
  refine lv_iload_n C.1 C.2.1 dX4_rangeClear_1 rfl (lv_at hl 2 rfl) ?_
  refine lv_icmp_le (tgt := 9) C.1 C.2.1 dX4_rangeClear_2 (by decide) (fun _ => ?_) (fun c9 => absurd (by decide) c9)
  refine lv_aload_n C.1 C.2.1 dX4_rangeClear_9 rfl (lv_at hl 0 rfl) ?_
  refine x_get (v := .ref h1) C w 0 8 0 (xin_X4 _) rfl rfl (by decide) (List.mem_cons_of_mem _ gw_24) rfl rfl dX4_rangeClear_10 ?_
  refine lv_iload_n C.1 C.2.1 dX4_rangeClear_13 rfl (lv_at hl 2 rfl) ?_
  refine x_ki C w [1, 2] [0, 3, 4] rfl rfl (by decide) (by decide) (va_runV (As := [.int 2147483647]) (rest := []) (xfix C) (c108_X3_countNotAbove l G cy sa sv h1 h2 h9 h10 (xtr C) _) (cwV 1 (xhts C) (xgV (maxL := 0) (cc := ⟨#[]⟩) (ret := none) gw_308 gw_309 gw_310 gw_7 gc_X3_countNotAbove) rfl rfl rfl (by decide +kernel) ⟨(Nat.le_of_ble_eq_true rfl), (Nat.le_of_ble_eq_true rfl)⟩) (xPV C w [1, 2] rfl (by decide) (ci := 7) (q0 := 1) rfl rfl) rfl rfl hl.1 rfl (lv_room (Nat.le_of_ble_eq_true rfl)) dX4_rangeClear_14 ⟨(Nat.le_of_ble_eq_true rfl), (Nat.le_of_ble_eq_true rfl)⟩) (fun f824 H locs w => ?_)
  have w : xW G A s [(h0, .inr (8, [.ref h1, .ref h5, .ref h4, .ref h6, .ref h7, .int 0, .ref h3, .ref h8])), (h3, .inr (6, [.ref h11, .int 0])), (h4, .inr (5, [.ref h12, .ref h13, .ref h14, .int 0])), (h1, .inr (7, [.ref h2, .ref h9])), (h2, .inr (6, [.ref h10, .int 0]))] H _ := w
  refine lv_istore_n (lv' := [(3, .int 0), (0, .ref h0), (1, .int (-2147483648)), (2, .int 2147483647)]) C.1 C.2.1 dX4_rangeClear_17 rfl hl (by decide) rfl (fun ls hl => ?_)
  refine lv_aload_n C.1 C.2.1 dX4_rangeClear_18 rfl (lv_at hl 1 rfl) ?_
  refine x_get (v := .ref h3) C w 0 8 6 (xin_X4 _) rfl rfl (by decide) (List.mem_cons_of_mem _ gw_51) rfl rfl dX4_rangeClear_19 ?_
  refine x_kv C w [1] [0, 2, 3, 4] rfl rfl (by decide) (by decide) (va_runV (As := []) (rest := []) (xfix C) (c109_X2_empty l G cy sa sv h3 h11 (xtr C) _) (cwV 0 (xhts C) (xgV (maxL := 0) (cc := ⟨#[]⟩) (ret := none) gw_312 gw_313 gw_314 gw_11 gc_X2_empty) rfl rfl rfl (by decide +kernel) ⟨(Nat.le_of_ble_eq_true rfl), (Nat.le_of_ble_eq_true rfl)⟩) (xPV C w [1] rfl (by decide) (ci := 6) (q0 := 1) rfl rfl) rfl rfl hl.1 rfl (lv_room (Nat.le_of_ble_eq_true rfl)) dX4_rangeClear_22 ⟨(Nat.le_of_ble_eq_true rfl), (Nat.le_of_ble_eq_true rfl)⟩) (fun f825 H locs w => ?_)
  have w : xW G A s [(h0, .inr (8, [.ref h1, .ref h5, .ref h4, .ref h6, .ref h7, .int 0, .ref h3, .ref h8])), (h4, .inr (5, [.ref h12, .ref h13, .ref h14, .int 0])), (h1, .inr (7, [.ref h2, .ref h9])), (h2, .inr (6, [.ref h10, .int 0])), (h3, .inr (6, [.ref h11, .int 0]))] H _ := w
  refine lv_aload_n C.1 C.2.1 dX4_rangeClear_25 rfl (lv_at hl 1 rfl) ?_
  refine x_get (v := .ref h1) C w 0 8 0 (xin_X4 _) rfl rfl (by decide) (List.mem_cons_of_mem _ gw_24) rfl rfl dX4_rangeClear_26 ?_
  refine lv_iload_n C.1 C.2.1 dX4_rangeClear_29 rfl (lv_at hl 2 rfl) ?_
  refine x_ki C w [2, 3] [0, 1, 4] rfl rfl (by decide) (by decide) (va_runV (As := [.int (-2147483648)]) (rest := []) (xfix C) (c110_X3_countBelow l G cy sa sv h1 h2 h9 h10 (xtr C) _) (cwV 1 (xhts C) (xgV (maxL := 0) (cc := ⟨#[]⟩) (ret := none) gw_315 gw_159 gw_160 gw_7 gc_X3_countBelow) rfl rfl rfl (by decide +kernel) ⟨(Nat.le_of_ble_eq_true rfl), (Nat.le_of_ble_eq_true rfl)⟩) (xPV C w [2, 3] rfl (by decide) (ci := 7) (q0 := 2) rfl rfl) rfl rfl hl.1 rfl (lv_room (Nat.le_of_ble_eq_true rfl)) dX4_rangeClear_30 ⟨(Nat.le_of_ble_eq_true rfl), (Nat.le_of_ble_eq_true rfl)⟩) (fun f827 H locs w => ?_)
  have w : xW G A s [(h0, .inr (8, [.ref h1, .ref h5, .ref h4, .ref h6, .ref h7, .int 0, .ref h3, .ref h8])), (h4, .inr (5, [.ref h12, .ref h13, .ref h14, .int 0])), (h3, .inr (6, [.ref h11, .int 0])), (h1, .inr (7, [.ref h2, .ref h9])), (h2, .inr (6, [.ref h10, .int 0]))] H _ := w
  refine lv_istore (lv' := [(4, .int 0), (3, .int 0), (0, .ref h0), (1, .int (-2147483648)), (2, .int 2147483647)]) C.1 C.2.1 dX4_rangeClear_33 hl (by decide) rfl (fun ls hl => ?_)
  refine lv_iload C.1 C.2.1 dX4_rangeClear_35 (lv_at hl 0 rfl) ?_
  refine lv_iload_n C.1 C.2.1 dX4_rangeClear_37 rfl (lv_at hl 1 rfl) ?_
  refine lv_icmp_ge (tgt := 63) C.1 C.2.1 dX4_rangeClear_38 (by decide) (fun _ => ?_) (fun c9 => absurd (by decide) c9)
  refine lv_aload_n C.1 C.2.1 dX4_rangeClear_63 rfl (lv_at hl 2 rfl) ?_
  refine x_ki C w [0, 2] [1, 3, 4] rfl rfl (by decide) (by decide) (va_runV (As := []) (rest := []) (xfix C) (c111_X4_dropChosen l G cy sa sv h0 h3 h1 h5 h4 h6 h7 h8 h11 (xtr C) _) (cwV 0 (xhts C) (xgV (maxL := 0) (cc := ⟨#[]⟩) (ret := none) gw_318 gw_319 gw_320 gw_2 gc_X4_dropChosen) rfl rfl rfl (by decide +kernel) ⟨(Nat.le_of_ble_eq_true rfl), (Nat.le_of_ble_eq_true rfl)⟩) (xPV C w [0, 2] rfl (by decide) (ci := 8) (q0 := 0) rfl rfl) rfl rfl hl.1 rfl (lv_room (Nat.le_of_ble_eq_true rfl)) dX4_rangeClear_64 ⟨(Nat.le_of_ble_eq_true rfl), (Nat.le_of_ble_eq_true rfl)⟩) (fun f829 H locs w => ?_)
  have w : xW G A s [(h4, .inr (5, [.ref h12, .ref h13, .ref h14, .int 0])), (h1, .inr (7, [.ref h2, .ref h9])), (h2, .inr (6, [.ref h10, .int 0])), (h0, .inr (8, [.ref h1, .ref h5, .ref h4, .ref h6, .ref h7, .int 0, .ref h3, .ref h8])), (h3, .inr (6, [.ref h11, .int 0]))] H _ := w
  refine lv_istore (lv' := [(4, .int 0), (3, .int 0), (0, .ref h0), (1, .int (-2147483648)), (2, .int 2147483647)]) C.1 C.2.1 dX4_rangeClear_67 hl (by decide) rfl (fun ls hl => ?_)
  refine lv_aload_n C.1 C.2.1 dX4_rangeClear_69 rfl (lv_at hl 2 rfl) ?_
  refine x_get (v := .ref h4) C w 3 8 2 (xin_X4 _) rfl rfl (by decide) (List.mem_cons_of_mem _ gw_41) rfl rfl dX4_rangeClear_70 ?_
  refine x_kv C w [0] [1, 2, 3, 4] rfl rfl (by decide) (by decide) (va_runV (As := []) (rest := []) (xfix C) (c112_X1_endStep l G cy sa sv h4 h12 h13 h14 (xtr C) _) (cwV 0 (xhts C) (xgV (maxL := 0) (cc := ⟨#[]⟩) (ret := none) gw_190 gw_191 gw_192 gw_30 gc_X1_endStep) rfl rfl rfl (by decide +kernel) ⟨(Nat.le_of_ble_eq_true rfl), (Nat.le_of_ble_eq_true rfl)⟩) (xPV C w [0] rfl (by decide) (ci := 5) (q0 := 0) rfl rfl) rfl rfl hl.1 rfl (lv_room (Nat.le_of_ble_eq_true rfl)) dX4_rangeClear_73 ⟨(Nat.le_of_ble_eq_true rfl), (Nat.le_of_ble_eq_true rfl)⟩) (fun f830 H locs w => ?_)
  have w : xW G A s [(h1, .inr (7, [.ref h2, .ref h9])), (h2, .inr (6, [.ref h10, .int 0])), (h0, .inr (8, [.ref h1, .ref h5, .ref h4, .ref h6, .ref h7, .int 0, .ref h3, .ref h8])), (h3, .inr (6, [.ref h11, .int 0])), (h4, .inr (5, [.ref h12, .ref h13, .ref h14, .int 0]))] H _ := w
  refine lv_iload C.1 C.2.1 dX4_rangeClear_76 (lv_at hl 0 rfl) ?_
  have w := w.sub (ws' := [(h0, .inr (8, [.ref h1, .ref h5, .ref h4, .ref h6, .ref h7, .int 0, .ref h3, .ref h8])), (h1, .inr (7, [.ref h2, .ref h9])), (h2, .inr (6, [.ref h10, .int 0])), (h3, .inr (6, [.ref h11, .int 0])), (h4, .inr (5, [.ref h12, .ref h13, .ref h14, .int 0]))]) [2, 0, 1, 3, 4] (by decide) rfl rfl
  exact x_iret C w hr (fun _ => 0) rfl rfl dX4_rangeClear_78 (Nat.le_of_ble_eq_true rfl) (Nat.le_of_ble_eq_true rfl)
set_option maxHeartbeats 4000000 in
set_option maxRecDepth 100000 in
theorem c114_X4_clear (l : Launch) (G : va_G) (cy : Nat → ClassId) (sa : String → Nat → Nat) (sv : Nat → Nat) (h0 h1 h2 h3 h4 h5 h6 h7 h8 h9 h10 h11 h12 h13 h14 : Nat) : xM l G cy sa sv yX4_clear (Cond.code yX4_clear cX4_clear 1 (some .int) :: XG) { frames := 12, cells := 0, slots := 0, locals := 338 } [.ref h0] [(h0, .inr (8, [.ref h1, .ref h5, .ref h4, .ref h6, .ref h7, .int 0, .ref h3, .ref h8])), (h1, .inr (7, [.ref h2, .ref h9])), (h2, .inr (6, [.ref h10, .int 0])), (h3, .inr (6, [.ref h11, .int 0])), (h4, .inr (5, [.ref h12, .ref h13, .ref h14, .int 0]))] (xQi G (fun f => [(h0, .inr (8, [.ref h1, .ref h5, .ref h4, .ref h6, .ref h7, .int 0, .ref h3, .ref h8])), (h1, .inr (7, [.ref h2, .ref h9])), (h2, .inr (6, [.ref h10, .int 0])), (h3, .inr (6, [.ref h11, .int 0])), (h4, .inr (5, [.ref h12, .ref h13, .ref h14, .int 0]))]) 0) := by
  refine xof (by decide) (Nat.le_of_ble_eq_true rfl) (fun p e s m below meth c A C w hr hn ls hl => ?_)
  have hl : lv_has ls 1 [(0, .ref h0)] := hl
  refine lv_aload_n C.1 C.2.1 dX4_clear_0 rfl (lv_at hl 0 rfl) ?_
  refine x_ldc (v := (-2147483648)) C (List.mem_cons_of_mem _ gw_305) dX4_clear_1 ?_
  refine x_ldc (v := 2147483647) C (List.mem_cons_of_mem _ gw_306) dX4_clear_3 ?_
  refine x_ki C w [0, 1, 2, 3, 4] [] rfl rfl (by decide) (by decide) (va_runV (As := [.int (-2147483648), .int 2147483647]) (rest := []) (xfix C) (c113_X4_rangeClear l G cy sa sv h0 h1 h2 h3 h4 h5 h6 h7 h8 h9 h10 h11 h12 h13 h14 (xtr C) _) (cwV 2 (xhts C) (xgV (maxL := 0) (cc := ⟨#[]⟩) (ret := none) gw_322 gw_323 gw_324 gw_2 gc_X4_rangeClear) rfl rfl rfl (by decide +kernel) ⟨(Nat.le_of_ble_eq_true rfl), (Nat.le_of_ble_eq_true rfl)⟩) (xPV C w [0, 1, 2, 3, 4] rfl (by decide) (ci := 8) (q0 := 0) rfl rfl) rfl rfl hl.1 rfl (lv_room (Nat.le_of_ble_eq_true rfl)) dX4_clear_5 ⟨(Nat.le_of_ble_eq_true rfl), (Nat.le_of_ble_eq_true rfl)⟩) (fun f831 H locs w => ?_)
  have w : xW G A s [(h0, .inr (8, [.ref h1, .ref h5, .ref h4, .ref h6, .ref h7, .int 0, .ref h3, .ref h8])), (h1, .inr (7, [.ref h2, .ref h9])), (h2, .inr (6, [.ref h10, .int 0])), (h3, .inr (6, [.ref h11, .int 0])), (h4, .inr (5, [.ref h12, .ref h13, .ref h14, .int 0]))] H _ := w
  exact x_iret C w hr (fun _ => 0) rfl rfl dX4_clear_8 (Nat.le_of_ble_eq_true rfl) (Nat.le_of_ble_eq_true rfl)
set_option maxHeartbeats 4000000 in
set_option maxRecDepth 100000 in
theorem c115_X6_keysOf (l : Launch) (G : va_G) (cy : Nat → ClassId) (sa : String → Nat → Nat) (sv : Nat → Nat) (h0 : Nat) : xM l G cy sa sv yX6_keysOf (Cond.code yX6_keysOf cX6_keysOf 4 (some (.array .int)) :: XG) { frames := 9, cells := 1, slots := 0, locals := 270 } [.ref h0] [(h0, .inr (3, [.int 0, .ref (sv 0), .int 0]))] (xQr G (fun f => [(h0, .inr (3, [.int 0, .ref (sv 0), .int 0])), ((f 0), .inl (cy 1, 0, .inl (fun _ => 0)))]) (fun f => (f 0))) := by
  refine xof (by decide) (Nat.le_of_ble_eq_true rfl) (fun p e s m below meth c A C w hr hn ls hl => ?_)
  have hl : lv_has ls 4 [(0, .ref h0)] := hl
  refine lv_aload_n C.1 C.2.1 dX6_keysOf_0 rfl (lv_at hl 0 rfl) ?_
  refine x_ki C w [0] [] rfl rfl (by decide) (by decide) (va_runV (As := []) (rest := []) (xfix C) (c47_Jx4a65c_size_8abf5 l G cy sa sv h0 (xtr C) _) (cwV 0 (xhts C) (xgV (maxL := 0) (cc := ⟨#[]⟩) (ret := none) gw_195 gw_196 gw_197 gw_62 gc_Jx4a65c_size_8abf5) rfl rfl rfl (by decide +kernel) ⟨(Nat.le_of_ble_eq_true rfl), (Nat.le_of_ble_eq_true rfl)⟩) (xPV C w [0] rfl (by decide) (ci := 3) (q0 := 0) rfl rfl) rfl rfl hl.1 rfl (lv_room (Nat.le_of_ble_eq_true rfl)) dX6_keysOf_1 ⟨(Nat.le_of_ble_eq_true rfl), (Nat.le_of_ble_eq_true rfl)⟩) (fun f839 H locs w => ?_)
  have w : xW G A s [(h0, .inr (3, [.int 0, .ref (sv 0), .int 0]))] H _ := w
  refine x_newa (atype := .int) (ty := .int) (N := 0) C w 1 (fun _ _ h => h) rfl (List.mem_cons_of_mem _ gw_13) rfl rfl (by decide) (by decide) (by decide) (Nat.le_of_ble_eq_true rfl) (Nat.le_of_ble_eq_true rfl) dX6_keysOf_4 (fun q840 H w => ?_)
  have w : xW G A s [(h0, .inr (3, [.int 0, .ref (sv 0), .int 0])), (q840, .inl (cy 1, 0, .inl (fun _ => 0)))] H _ := w
  refine W.widen (k := 1) (n := 0) (Nat.le_of_ble_eq_true rfl) (Nat.le_of_ble_eq_true rfl) ?_
  refine lv_astore_n (lv' := [(1, .ref q840), (0, .ref h0)]) C.1 C.2.1 dX6_keysOf_6 rfl hl (by decide) rfl (fun ls hl => ?_)
  refine lv_iconst (v := 0) C.1 C.2.1 dX6_keysOf_7 (by decide) ?_
  refine lv_istore_n (lv' := [(2, .int 0), (1, .ref q840), (0, .ref h0)]) C.1 C.2.1 dX6_keysOf_8 rfl hl (by decide) rfl (fun ls hl => ?_)
  refine lv_iload_n C.1 C.2.1 dX6_keysOf_9 rfl (lv_at hl 0 rfl) ?_
  refine lv_aload_n C.1 C.2.1 dX6_keysOf_10 rfl (lv_at hl 1 rfl) ?_
  refine x_alen (v := 0) C w 1 1 rfl rfl (by rfl) dX6_keysOf_11 ?_
  refine lv_icmp_ge (tgt := 72) C.1 C.2.1 dX6_keysOf_12 (by decide) (fun _ => ?_) (fun c9 => absurd (by decide) c9)
  refine lv_aload_n C.1 C.2.1 dX6_keysOf_72 rfl (lv_at hl 1 rfl) ?_
  exact x_aret C w hr (Or.inr ⟨_, rfl⟩) (fun k => match k with | 0 => q840 | _ => 0) rfl rfl dX6_keysOf_73 (Nat.le_of_ble_eq_true rfl) (Nat.le_of_ble_eq_true rfl)
set_option maxHeartbeats 4000000 in
set_option maxRecDepth 100000 in
theorem c116_X6_clear (l : Launch) (G : va_G) (cy : Nat → ClassId) (sa : String → Nat → Nat) (sv : Nat → Nat) (h0 h1 h2 h3 h4 h5 h6 h7 : Nat) : xM l G cy sa sv yX6_clear (Cond.code yX6_clear cX6_clear 5 (some .int) :: XG) { frames := 12, cells := 2, slots := 3, locals := 331 } [.ref h0] [(h0, .inr (10, [.ref h1, .ref h4, .ref h3, .ref h2, .ref h5, .ref h6, .ref h7, .int 0, .int 0])), (h1, .inr (3, [.int 0, .ref (sv 0), .int 0])), (h2, .inr (3, [.int 0, .ref (sv 0), .int 0])), (h3, .inr (3, [.int 0, .ref (sv 0), .int 0]))] (xQi G (fun f => [(h0, .inr (10, [.ref h1, .ref h4, .ref h3, .ref (f 0), .ref h5, .ref h6, .ref h7, .int 0, .int 0])), (h1, .inr (3, [.int 0, .ref (sv 0), .int 0])), (h2, .inr (3, [.int 0, .ref (sv 0), .int 0])), (h3, .inr (3, [.int 0, .ref (sv 0), .int 0])), ((f 0), .inr (3, [.int 0, .ref (sv 0), .int 0]))]) 0) := by
  refine xof (by decide) (Nat.le_of_ble_eq_true rfl) (fun p e s m below meth c A C w hr hn ls hl => ?_)
  have hl : lv_has ls 5 [(0, .ref h0)] := hl
  refine lv_aload_n C.1 C.2.1 dX6_clear_0 rfl (lv_at hl 0 rfl) ?_
  refine lv_iconst (v := 0) C.1 C.2.1 dX6_clear_1 (by decide) ?_
  refine x_put (ty := .int) (ty0 := tyX6) C w 0 10 8 (xin_X6 _) tyX6_ok nmX6 rfl rfl (by decide) (List.mem_cons_of_mem _ gw_112) rfl rfl (by decide +kernel) rfl rfl (Nat.le_of_ble_eq_true rfl) dX6_clear_2 (fun H locs w => ?_)
  have w : xW G A s [(h0, .inr (10, [.ref h1, .ref h4, .ref h3, .ref h2, .ref h5, .ref h6, .ref h7, .int 0, .int 0])), (h1, .inr (3, [.int 0, .ref (sv 0), .int 0])), (h2, .inr (3, [.int 0, .ref (sv 0), .int 0])), (h3, .inr (3, [.int 0, .ref (sv 0), .int 0]))] H _ := w
  refine lv_aload_n C.1 C.2.1 dX6_clear_5 rfl (lv_at hl 0 rfl) ?_
  refine x_get (v := .ref h1) C w 0 10 0 (xin_X6 _) rfl rfl (by decide) (List.mem_cons_of_mem _ gw_78) rfl rfl dX6_clear_6 ?_
  refine x_kr C w [1] [0, 2, 3] rfl rfl (by decide) (by decide) (va_runS (As := [.ref h1]) (rest := []) (xfix C) (c115_X6_keysOf l G cy sa sv h1 (xtr C) _) (va_cwS 1 (xhts C) (xgS gw_330 gw_331 gw_58 gc_X6_keysOf) rfl rfl rfl (by decide +kernel) ⟨(Nat.le_of_ble_eq_true rfl), (Nat.le_of_ble_eq_true rfl)⟩) (xPS C w [1] rfl (by decide)) rfl rfl hl.1 rfl (lv_room (Nat.le_of_ble_eq_true rfl)) dX6_clear_9 ⟨(Nat.le_of_ble_eq_true rfl), (Nat.le_of_ble_eq_true rfl)⟩) (fun f842 H locs w => ?_)
  have w : xW G A s [(h0, .inr (10, [.ref h1, .ref h4, .ref h3, .ref h2, .ref h5, .ref h6, .ref h7, .int 0, .int 0])), (h2, .inr (3, [.int 0, .ref (sv 0), .int 0])), (h3, .inr (3, [.int 0, .ref (sv 0), .int 0])), (h1, .inr (3, [.int 0, .ref (sv 0), .int 0])), ((f842 0), .inl (cy 1, 0, .inl (fun _ => 0)))] H _ := w
  refine W.widen (k := 1) (n := 0) (Nat.le_of_ble_eq_true rfl) (Nat.le_of_ble_eq_true rfl) ?_
  refine lv_astore_n (lv' := [(1, .ref (f842 0)), (0, .ref h0)]) C.1 C.2.1 dX6_clear_12 rfl hl (by decide) rfl (fun ls hl => ?_)
  refine lv_aload_n C.1 C.2.1 dX6_clear_13 rfl (lv_at hl 0 rfl) ?_
  refine x_alen (v := 0) C w 4 1 rfl rfl (by rfl) dX6_clear_14 ?_
  refine lv_istore_n (lv' := [(2, .int 0), (1, .ref (f842 0)), (0, .ref h0)]) C.1 C.2.1 dX6_clear_15 rfl hl (by decide) rfl (fun ls hl => ?_)
  refine lv_iconst (v := 0) C.1 C.2.1 dX6_clear_16 (by decide) ?_
  refine lv_istore_n (lv' := [(3, .int 0), (2, .int 0), (1, .ref (f842 0)), (0, .ref h0)]) C.1 C.2.1 dX6_clear_17 rfl hl (by decide) rfl (fun ls hl => ?_)
  refine lv_iload_n C.1 C.2.1 dX6_clear_18 rfl (lv_at hl 0 rfl) ?_
  refine lv_iload_n C.1 C.2.1 dX6_clear_19 rfl (lv_at hl 1 rfl) ?_
  refine lv_icmp_ge (tgt := 40) C.1 C.2.1 dX6_clear_20 (by decide) (fun _ => ?_) (fun c9 => absurd (by decide) c9)
  refine lv_aload_n C.1 C.2.1 dX6_clear_40 rfl (lv_at hl 3 rfl) ?_
  refine x_ki C w [0, 1, 2] [3, 4] rfl rfl (by decide) (by decide) (va_runV (As := []) (rest := []) (xfix C) (c101_X6_done l G cy sa sv h0 h2 h3 h1 h4 h5 h6 h7 (xtr C) _) (cwV 0 (xhts C) (xgV (maxL := 0) (cc := ⟨#[]⟩) (ret := none) gw_244 gw_245 gw_246 gw_58 gc_X6_done) rfl rfl rfl (by decide +kernel) ⟨(Nat.le_of_ble_eq_true rfl), (Nat.le_of_ble_eq_true rfl)⟩) (xPV C w [0, 1, 2] rfl (by decide) (ci := 10) (q0 := 0) rfl rfl) rfl rfl hl.1 rfl (lv_room (Nat.le_of_ble_eq_true rfl)) dX6_clear_41 ⟨(Nat.le_of_ble_eq_true rfl), (Nat.le_of_ble_eq_true rfl)⟩) (fun f852 H locs w => ?_)
  have w : xW G A s [(h1, .inr (3, [.int 0, .ref (sv 0), .int 0])), ((f842 0), .inl (cy 1, 0, .inl (fun _ => 0))), (h0, .inr (10, [.ref h1, .ref h4, .ref h3, .ref (f852 0), .ref h5, .ref h6, .ref h7, .int 0, .int 0])), (h2, .inr (3, [.int 0, .ref (sv 0), .int 0])), (h3, .inr (3, [.int 0, .ref (sv 0), .int 0])), ((f852 0), .inr (3, [.int 0, .ref (sv 0), .int 0]))] H _ := w
  refine W.widen (k := 2) (n := 3) (Nat.le_of_ble_eq_true rfl) (Nat.le_of_ble_eq_true rfl) ?_
  have w := w.sub (ws' := [(h0, .inr (10, [.ref h1, .ref h4, .ref h3, .ref (f852 0), .ref h5, .ref h6, .ref h7, .int 0, .int 0])), (h1, .inr (3, [.int 0, .ref (sv 0), .int 0])), (h2, .inr (3, [.int 0, .ref (sv 0), .int 0])), (h3, .inr (3, [.int 0, .ref (sv 0), .int 0])), ((f852 0), .inr (3, [.int 0, .ref (sv 0), .int 0]))]) [2, 0, 3, 4, 5] (by decide) rfl rfl
  exact x_iret C w hr (fun k => match k with | 0 => (f852 0) | _ => 0) rfl rfl dX6_clear_44 (Nat.le_of_ble_eq_true rfl) (Nat.le_of_ble_eq_true rfl)
set_option maxHeartbeats 4000000 in
set_option maxRecDepth 100000 in
theorem c117_X4_getOr (l : Launch) (G : va_G) (cy : Nat → ClassId) (sa : String → Nat → Nat) (sv : Nat → Nat) (h0 h1 h2 h3 h4 h5 h6 h7 h8 h9 h10 : Nat) (v0 : Int32) : xM l G cy sa sv yX4_getOr (Cond.code yX4_getOr cX4_getOr 4 (some .int) :: XG) { frames := 10, cells := 0, slots := 0, locals := 294 } [.ref h0, .int v0, .int (-1000)] [(h0, .inr (8, [.ref h1, .ref h3, .ref h4, .ref h5, .ref h6, .int 0, .ref h7, .ref h8])), (h1, .inr (7, [.ref h2, .ref h9])), (h2, .inr (6, [.ref h10, .int 0]))] (xQi G (fun f => [(h0, .inr (8, [.ref h1, .ref h3, .ref h4, .ref h5, .ref h6, .int 0, .ref h7, .ref h8])), (h1, .inr (7, [.ref h2, .ref h9])), (h2, .inr (6, [.ref h10, .int 0]))]) (-1000)) := by
  refine xof (by decide) (Nat.le_of_ble_eq_true rfl) (fun p e s m below meth c A C w hr hn ls hl => ?_)
  have hl : lv_has ls 4 [(0, .ref h0), (1, .int v0), (2, .int (-1000))] := hl
  refine lv_aload_n C.1 C.2.1 dX4_getOr_0 rfl (lv_at hl 0 rfl) ?_
  refine x_get (v := .ref h1) C w 0 8 0 (xin_X4 _) rfl rfl (by decide) (List.mem_cons_of_mem _ gw_24) rfl rfl dX4_getOr_1 ?_
  refine lv_iload_n C.1 C.2.1 dX4_getOr_4 rfl (lv_at hl 1 rfl) ?_
  refine x_ki C w [1, 2] [0] rfl rfl (by decide) (by decide) (va_runV (As := [.int v0]) (rest := []) (xfix C) (c25_X3_valueOf l G cy sa sv h1 h2 h9 h10 v0 (xtr C) _) (cwV 1 (xhts C) (xgV (maxL := 0) (cc := ⟨#[]⟩) (ret := none) gw_142 gw_143 gw_144 gw_7 gc_X3_valueOf) rfl rfl rfl (by decide +kernel) ⟨(Nat.le_of_ble_eq_true rfl), (Nat.le_of_ble_eq_true rfl)⟩) (xPV C w [1, 2] rfl (by decide) (ci := 7) (q0 := 1) rfl rfl) rfl rfl hl.1 rfl (lv_room (Nat.le_of_ble_eq_true rfl)) dX4_getOr_5 ⟨(Nat.le_of_ble_eq_true rfl), (Nat.le_of_ble_eq_true rfl)⟩) (fun f856 H locs w => ?_)
  have w : xW G A s [(h0, .inr (8, [.ref h1, .ref h3, .ref h4, .ref h5, .ref h6, .int 0, .ref h7, .ref h8])), (h1, .inr (7, [.ref h2, .ref h9])), (h2, .inr (6, [.ref h10, .int 0]))] H _ := w
  refine lv_istore_n (lv' := [(3, .int (-1000)), (0, .ref h0), (1, .int v0), (2, .int (-1000))]) C.1 C.2.1 dX4_getOr_8 rfl hl (by decide) rfl (fun ls hl => ?_)
  refine lv_iload_n C.1 C.2.1 dX4_getOr_9 rfl (lv_at hl 0 rfl) ?_
  refine lv_sipush (v := (-1000)) C.1 C.2.1 dX4_getOr_10 (by decide) ?_
  refine lv_icmp_ne (tgt := 18) C.1 C.2.1 dX4_getOr_13 (by decide) (fun c9 => absurd (by decide) c9) (fun _ => ?_)
  refine lv_iload_n C.1 C.2.1 dX4_getOr_16 rfl (lv_at hl 3 rfl) ?_
  exact x_iret C w hr (fun _ => 0) rfl rfl dX4_getOr_17 (Nat.le_of_ble_eq_true rfl) (Nat.le_of_ble_eq_true rfl)
set_option maxHeartbeats 4000000 in
set_option maxRecDepth 100000 in
theorem c118_X4_get (l : Launch) (G : va_G) (cy : Nat → ClassId) (sa : String → Nat → Nat) (sv : Nat → Nat) (h0 h1 h2 h3 h4 h5 h6 h7 h8 h9 h10 : Nat) (v0 : Int32) : xM l G cy sa sv yX4_get (Cond.code yX4_get cX4_get 2 (some .int) :: XG) { frames := 11, cells := 0, slots := 0, locals := 317 } [.ref h0, .int v0] [(h0, .inr (8, [.ref h1, .ref h3, .ref h4, .ref h5, .ref h6, .int 0, .ref h7, .ref h8])), (h1, .inr (7, [.ref h2, .ref h9])), (h2, .inr (6, [.ref h10, .int 0]))] (xQi G (fun f => [(h0, .inr (8, [.ref h1, .ref h3, .ref h4, .ref h5, .ref h6, .int 0, .ref h7, .ref h8])), (h1, .inr (7, [.ref h2, .ref h9])), (h2, .inr (6, [.ref h10, .int 0]))]) (-1000)) := by
  refine xof (by decide) (Nat.le_of_ble_eq_true rfl) (fun p e s m below meth c A C w hr hn ls hl => ?_)
  have hl : lv_has ls 2 [(0, .ref h0), (1, .int v0)] := hl
  refine lv_aload_n C.1 C.2.1 dX4_get_0 rfl (lv_at hl 0 rfl) ?_
  refine lv_iload_n C.1 C.2.1 dX4_get_1 rfl (lv_at hl 1 rfl) ?_
  refine lv_sipush (v := (-1000)) C.1 C.2.1 dX4_get_2 (by decide) ?_
  refine x_ki C w [0, 1, 2] [] rfl rfl (by decide) (by decide) (va_runV (As := [.int v0, .int (-1000)]) (rest := []) (xfix C) (c117_X4_getOr l G cy sa sv h0 h1 h2 h3 h4 h5 h6 h7 h8 h9 h10 v0 (xtr C) _) (cwV 2 (xhts C) (xgV (maxL := 0) (cc := ⟨#[]⟩) (ret := none) gw_337 gw_338 gw_339 gw_2 gc_X4_getOr) rfl rfl rfl (by decide +kernel) ⟨(Nat.le_of_ble_eq_true rfl), (Nat.le_of_ble_eq_true rfl)⟩) (xPV C w [0, 1, 2] rfl (by decide) (ci := 8) (q0 := 0) rfl rfl) rfl rfl hl.1 rfl (lv_room (Nat.le_of_ble_eq_true rfl)) dX4_get_5 ⟨(Nat.le_of_ble_eq_true rfl), (Nat.le_of_ble_eq_true rfl)⟩) (fun f857 H locs w => ?_)
  have w : xW G A s [(h0, .inr (8, [.ref h1, .ref h3, .ref h4, .ref h5, .ref h6, .int 0, .ref h7, .ref h8])), (h1, .inr (7, [.ref h2, .ref h9])), (h2, .inr (6, [.ref h10, .int 0]))] H _ := w
  exact x_iret C w hr (fun _ => 0) rfl rfl dX4_get_8 (Nat.le_of_ble_eq_true rfl) (Nat.le_of_ble_eq_true rfl)
set_option maxHeartbeats 4000000 in
set_option maxRecDepth 100000 in
theorem c119_X6_get (l : Launch) (G : va_G) (cy : Nat → ClassId) (sa : String → Nat → Nat) (sv : Nat → Nat) (h0 h1 h2 h3 h4 h5 h6 h7 : Nat) (v0 : Int32) : xM l G cy sa sv yX6_get (Cond.code yX6_get cX6_get 2 (some .int) :: XG) { frames := 10, cells := 0, slots := 0, locals := 292 } [.ref h0, .int v0] [(h0, .inr (10, [.ref h1, .ref h2, .ref h3, .ref h4, .ref h5, .ref h6, .ref h7, .int 0, .int 0])), (h1, .inr (3, [.int 0, .ref (sv 0), .int 0]))] (xQi G (fun f => [(h0, .inr (10, [.ref h1, .ref h2, .ref h3, .ref h4, .ref h5, .ref h6, .ref h7, .int 0, .int 0])), (h1, .inr (3, [.int 0, .ref (sv 0), .int 0]))]) (-1000)) := by
  refine xof (by decide) (Nat.le_of_ble_eq_true rfl) (fun p e s m below meth c A C w hr hn ls hl => ?_)
  have hl : lv_has ls 2 [(0, .ref h0), (1, .int v0)] := hl
  refine lv_aload_n C.1 C.2.1 dX6_get_0 rfl (lv_at hl 0 rfl) ?_
  refine lv_iconst (v := 0) C.1 C.2.1 dX6_get_1 (by decide) ?_
  refine x_put (ty := .int) (ty0 := tyX6) C w 0 10 8 (xin_X6 _) tyX6_ok nmX6 rfl rfl (by decide) (List.mem_cons_of_mem _ gw_112) rfl rfl (by decide +kernel) rfl rfl (Nat.le_of_ble_eq_true rfl) dX6_get_2 (fun H locs w => ?_)
  have w : xW G A s [(h0, .inr (10, [.ref h1, .ref h2, .ref h3, .ref h4, .ref h5, .ref h6, .ref h7, .int 0, .int 0])), (h1, .inr (3, [.int 0, .ref (sv 0), .int 0]))] H _ := w
  refine lv_aload_n C.1 C.2.1 dX6_get_5 rfl (lv_at hl 0 rfl) ?_
  refine x_get (v := .ref h1) C w 0 10 0 (xin_X6 _) rfl rfl (by decide) (List.mem_cons_of_mem _ gw_78) rfl rfl dX6_get_6 ?_
  refine lv_iload_n C.1 C.2.1 dX6_get_9 rfl (lv_at hl 1 rfl) ?_
  refine x_ki C w [1] [0] rfl rfl (by decide) (by decide) (va_runS (As := [.ref h1, .int v0]) (rest := []) (xfix C) (c50_X6_at l G cy sa sv h1 v0 (xtr C) _) (va_cwS 2 (xhts C) (xgS gw_207 gw_208 gw_58 gc_X6_at) rfl rfl rfl (by decide +kernel) ⟨(Nat.le_of_ble_eq_true rfl), (Nat.le_of_ble_eq_true rfl)⟩) (xPS C w [1] rfl (by decide)) rfl rfl hl.1 rfl (lv_room (Nat.le_of_ble_eq_true rfl)) dX6_get_10 ⟨(Nat.le_of_ble_eq_true rfl), (Nat.le_of_ble_eq_true rfl)⟩) (fun f860 H locs w => ?_)
  have w : xW G A s [(h0, .inr (10, [.ref h1, .ref h2, .ref h3, .ref h4, .ref h5, .ref h6, .ref h7, .int 0, .int 0])), (h1, .inr (3, [.int 0, .ref (sv 0), .int 0]))] H _ := w
  refine lv_if_ge (tgt := 22) C.1 C.2.1 dX6_get_13 (by decide) (fun c9 => absurd c9 (by decide)) (fun _ => ?_)
  refine lv_sipush (v := (-1000)) C.1 C.2.1 dX6_get_16 (by decide) ?_
  refine lv_goto (tgt := 35) C.1 C.2.1 dX6_get_19 (by decide) ?_
  exact x_iret C w hr (fun _ => 0) rfl rfl dX6_get_35 (Nat.le_of_ble_eq_true rfl) (Nat.le_of_ble_eq_true rfl)
set_option maxHeartbeats 4000000 in
set_option maxRecDepth 100000 in
theorem c120_X4_getOr (l : Launch) (G : va_G) (cy : Nat → ClassId) (sa : String → Nat → Nat) (sv : Nat → Nat) (h0 h1 h2 h3 h4 h5 h6 h7 h8 h9 h10 : Nat) (v0 v1 : Int32) : xM l G cy sa sv yX4_getOr (Cond.code yX4_getOr cX4_getOr 4 (some .int) :: XG) { frames := 10, cells := 0, slots := 0, locals := 294 } [.ref h0, .int v0, .int v1] [(h0, .inr (8, [.ref h1, .ref h3, .ref h4, .ref h5, .ref h6, .int 0, .ref h7, .ref h8])), (h1, .inr (7, [.ref h2, .ref h9])), (h2, .inr (6, [.ref h10, .int 0]))] (xQi G (fun f => [(h0, .inr (8, [.ref h1, .ref h3, .ref h4, .ref h5, .ref h6, .int 0, .ref h7, .ref h8])), (h1, .inr (7, [.ref h2, .ref h9])), (h2, .inr (6, [.ref h10, .int 0]))]) v1) := by
  refine xof (by decide) (Nat.le_of_ble_eq_true rfl) (fun p e s m below meth c A C w hr hn ls hl => ?_)
  have hl : lv_has ls 4 [(0, .ref h0), (1, .int v0), (2, .int v1)] := hl
  refine lv_aload_n C.1 C.2.1 dX4_getOr_0 rfl (lv_at hl 0 rfl) ?_
  refine x_get (v := .ref h1) C w 0 8 0 (xin_X4 _) rfl rfl (by decide) (List.mem_cons_of_mem _ gw_24) rfl rfl dX4_getOr_1 ?_
  refine lv_iload_n C.1 C.2.1 dX4_getOr_4 rfl (lv_at hl 1 rfl) ?_
  refine x_ki C w [1, 2] [0] rfl rfl (by decide) (by decide) (va_runV (As := [.int v0]) (rest := []) (xfix C) (c25_X3_valueOf l G cy sa sv h1 h2 h9 h10 v0 (xtr C) _) (cwV 1 (xhts C) (xgV (maxL := 0) (cc := ⟨#[]⟩) (ret := none) gw_142 gw_143 gw_144 gw_7 gc_X3_valueOf) rfl rfl rfl (by decide +kernel) ⟨(Nat.le_of_ble_eq_true rfl), (Nat.le_of_ble_eq_true rfl)⟩) (xPV C w [1, 2] rfl (by decide) (ci := 7) (q0 := 1) rfl rfl) rfl rfl hl.1 rfl (lv_room (Nat.le_of_ble_eq_true rfl)) dX4_getOr_5 ⟨(Nat.le_of_ble_eq_true rfl), (Nat.le_of_ble_eq_true rfl)⟩) (fun f863 H locs w => ?_)
  have w : xW G A s [(h0, .inr (8, [.ref h1, .ref h3, .ref h4, .ref h5, .ref h6, .int 0, .ref h7, .ref h8])), (h1, .inr (7, [.ref h2, .ref h9])), (h2, .inr (6, [.ref h10, .int 0]))] H _ := w
  refine lv_istore_n (lv' := [(3, .int (-1000)), (0, .ref h0), (1, .int v0), (2, .int v1)]) C.1 C.2.1 dX4_getOr_8 rfl hl (by decide) rfl (fun ls hl => ?_)
  refine lv_iload_n C.1 C.2.1 dX4_getOr_9 rfl (lv_at hl 0 rfl) ?_
  refine lv_sipush (v := (-1000)) C.1 C.2.1 dX4_getOr_10 (by decide) ?_
  refine lv_icmp_ne (tgt := 18) C.1 C.2.1 dX4_getOr_13 (by decide) (fun c9 => absurd (by decide) c9) (fun _ => ?_)
  refine lv_iload_n C.1 C.2.1 dX4_getOr_16 rfl (lv_at hl 3 rfl) ?_
  exact x_iret C w hr (fun _ => 0) rfl rfl dX4_getOr_17 (Nat.le_of_ble_eq_true rfl) (Nat.le_of_ble_eq_true rfl)
set_option maxHeartbeats 4000000 in
set_option maxRecDepth 100000 in
theorem c121_X6_getOr (l : Launch) (G : va_G) (cy : Nat → ClassId) (sa : String → Nat → Nat) (sv : Nat → Nat) (h0 h1 h2 h3 h4 h5 h6 h7 : Nat) (v0 v1 : Int32) : xM l G cy sa sv yX6_getOr (Cond.code yX6_getOr cX6_getOr 3 (some .int) :: XG) { frames := 10, cells := 0, slots := 0, locals := 292 } [.ref h0, .int v0, .int v1] [(h0, .inr (10, [.ref h1, .ref h2, .ref h3, .ref h4, .ref h5, .ref h6, .ref h7, .int 0, .int 0])), (h1, .inr (3, [.int 0, .ref (sv 0), .int 0]))] (xQi G (fun f => [(h0, .inr (10, [.ref h1, .ref h2, .ref h3, .ref h4, .ref h5, .ref h6, .ref h7, .int 0, .int 0])), (h1, .inr (3, [.int 0, .ref (sv 0), .int 0]))]) v1) := by
  refine xof (by decide) (Nat.le_of_ble_eq_true rfl) (fun p e s m below meth c A C w hr hn ls hl => ?_)
  have hl : lv_has ls 3 [(0, .ref h0), (1, .int v0), (2, .int v1)] := hl
  refine lv_aload_n C.1 C.2.1 dX6_getOr_0 rfl (lv_at hl 0 rfl) ?_
  refine lv_iconst (v := 0) C.1 C.2.1 dX6_getOr_1 (by decide) ?_
  refine x_put (ty := .int) (ty0 := tyX6) C w 0 10 8 (xin_X6 _) tyX6_ok nmX6 rfl rfl (by decide) (List.mem_cons_of_mem _ gw_112) rfl rfl (by decide +kernel) rfl rfl (Nat.le_of_ble_eq_true rfl) dX6_getOr_2 (fun H locs w => ?_)
  have w : xW G A s [(h0, .inr (10, [.ref h1, .ref h2, .ref h3, .ref h4, .ref h5, .ref h6, .ref h7, .int 0, .int 0])), (h1, .inr (3, [.int 0, .ref (sv 0), .int 0]))] H _ := w
  refine lv_aload_n C.1 C.2.1 dX6_getOr_5 rfl (lv_at hl 0 rfl) ?_
  refine x_get (v := .ref h1) C w 0 10 0 (xin_X6 _) rfl rfl (by decide) (List.mem_cons_of_mem _ gw_78) rfl rfl dX6_getOr_6 ?_
  refine lv_iload_n C.1 C.2.1 dX6_getOr_9 rfl (lv_at hl 1 rfl) ?_
  refine x_ki C w [1] [0] rfl rfl (by decide) (by decide) (va_runS (As := [.ref h1, .int v0]) (rest := []) (xfix C) (c50_X6_at l G cy sa sv h1 v0 (xtr C) _) (va_cwS 2 (xhts C) (xgS gw_207 gw_208 gw_58 gc_X6_at) rfl rfl rfl (by decide +kernel) ⟨(Nat.le_of_ble_eq_true rfl), (Nat.le_of_ble_eq_true rfl)⟩) (xPS C w [1] rfl (by decide)) rfl rfl hl.1 rfl (lv_room (Nat.le_of_ble_eq_true rfl)) dX6_getOr_10 ⟨(Nat.le_of_ble_eq_true rfl), (Nat.le_of_ble_eq_true rfl)⟩) (fun f866 H locs w => ?_)
  have w : xW G A s [(h0, .inr (10, [.ref h1, .ref h2, .ref h3, .ref h4, .ref h5, .ref h6, .ref h7, .int 0, .int 0])), (h1, .inr (3, [.int 0, .ref (sv 0), .int 0]))] H _ := w
  refine lv_if_ge (tgt := 20) C.1 C.2.1 dX6_getOr_13 (by decide) (fun c9 => absurd c9 (by decide)) (fun _ => ?_)
  refine lv_iload_n C.1 C.2.1 dX6_getOr_16 rfl (lv_at hl 2 rfl) ?_
  refine lv_goto (tgt := 33) C.1 C.2.1 dX6_getOr_17 (by decide) ?_
  exact x_iret C w hr (fun _ => 0) rfl rfl dX6_getOr_33 (Nat.le_of_ble_eq_true rfl) (Nat.le_of_ble_eq_true rfl)
set_option maxHeartbeats 4000000 in
set_option maxRecDepth 100000 in
theorem c122_X4_look (l : Launch) (G : va_G) (cy : Nat → ClassId) (sa : String → Nat → Nat) (sv : Nat → Nat) (h0 h1 h2 h3 h4 h5 h6 h7 h8 h9 h10 : Nat) (v0 : Int32) : xM l G cy sa sv yX4_look (Cond.code yX4_look cX4_look 2 (some .int) :: XG) { frames := 10, cells := 0, slots := 0, locals := 294 } [.ref h0, .int v0] [(h0, .inr (8, [.ref h1, .ref h3, .ref h4, .ref h5, .ref h6, .int 0, .ref h7, .ref h8])), (h1, .inr (7, [.ref h2, .ref h9])), (h2, .inr (6, [.ref h10, .int 0]))] (xQi G (fun f => [(h0, .inr (8, [.ref h1, .ref h3, .ref h4, .ref h5, .ref h6, .int 0, .ref h7, .ref h8])), (h1, .inr (7, [.ref h2, .ref h9])), (h2, .inr (6, [.ref h10, .int 0]))]) (-1000)) := by
  refine xof (by decide) (Nat.le_of_ble_eq_true rfl) (fun p e s m below meth c A C w hr hn ls hl => ?_)
  have hl : lv_has ls 2 [(0, .ref h0), (1, .int v0)] := hl
  refine lv_aload_n C.1 C.2.1 dX4_look_0 rfl (lv_at hl 0 rfl) ?_
  refine x_get (v := .ref h1) C w 0 8 0 (xin_X4 _) rfl rfl (by decide) (List.mem_cons_of_mem _ gw_24) rfl rfl dX4_look_1 ?_
  refine lv_iload_n C.1 C.2.1 dX4_look_4 rfl (lv_at hl 1 rfl) ?_
  refine x_ki C w [1, 2] [0] rfl rfl (by decide) (by decide) (va_runV (As := [.int v0]) (rest := []) (xfix C) (c25_X3_valueOf l G cy sa sv h1 h2 h9 h10 v0 (xtr C) _) (cwV 1 (xhts C) (xgV (maxL := 0) (cc := ⟨#[]⟩) (ret := none) gw_142 gw_143 gw_144 gw_7 gc_X3_valueOf) rfl rfl rfl (by decide +kernel) ⟨(Nat.le_of_ble_eq_true rfl), (Nat.le_of_ble_eq_true rfl)⟩) (xPV C w [1, 2] rfl (by decide) (ci := 7) (q0 := 1) rfl rfl) rfl rfl hl.1 rfl (lv_room (Nat.le_of_ble_eq_true rfl)) dX4_look_5 ⟨(Nat.le_of_ble_eq_true rfl), (Nat.le_of_ble_eq_true rfl)⟩) (fun f869 H locs w => ?_)
  have w : xW G A s [(h0, .inr (8, [.ref h1, .ref h3, .ref h4, .ref h5, .ref h6, .int 0, .ref h7, .ref h8])), (h1, .inr (7, [.ref h2, .ref h9])), (h2, .inr (6, [.ref h10, .int 0]))] H _ := w
  exact x_iret C w hr (fun _ => 0) rfl rfl dX4_look_8 (Nat.le_of_ble_eq_true rfl) (Nat.le_of_ble_eq_true rfl)
set_option maxHeartbeats 4000000 in
set_option maxRecDepth 100000 in
theorem c123_X6_look (l : Launch) (G : va_G) (cy : Nat → ClassId) (sa : String → Nat → Nat) (sv : Nat → Nat) (h0 h1 h2 h3 h4 h5 h6 h7 : Nat) (v0 : Int32) : xM l G cy sa sv yX6_look (Cond.code yX6_look cX6_look 2 (some .int) :: XG) { frames := 11, cells := 0, slots := 0, locals := 313 } [.ref h0, .int v0] [(h0, .inr (10, [.ref h1, .ref h2, .ref h3, .ref h4, .ref h5, .ref h6, .ref h7, .int 0, .int 0])), (h1, .inr (3, [.int 0, .ref (sv 0), .int 0]))] (xQi G (fun f => [(h0, .inr (10, [.ref h1, .ref h2, .ref h3, .ref h4, .ref h5, .ref h6, .ref h7, .int 0, .int 0])), (h1, .inr (3, [.int 0, .ref (sv 0), .int 0]))]) (-1000)) := by
  refine xof (by decide) (Nat.le_of_ble_eq_true rfl) (fun p e s m below meth c A C w hr hn ls hl => ?_)
  have hl : lv_has ls 2 [(0, .ref h0), (1, .int v0)] := hl
  refine lv_aload_n C.1 C.2.1 dX6_look_0 rfl (lv_at hl 0 rfl) ?_
  refine lv_iconst (v := 0) C.1 C.2.1 dX6_look_1 (by decide) ?_
  refine x_put (ty := .int) (ty0 := tyX6) C w 0 10 8 (xin_X6 _) tyX6_ok nmX6 rfl rfl (by decide) (List.mem_cons_of_mem _ gw_112) rfl rfl (by decide +kernel) rfl rfl (Nat.le_of_ble_eq_true rfl) dX6_look_2 (fun H locs w => ?_)
  have w : xW G A s [(h0, .inr (10, [.ref h1, .ref h2, .ref h3, .ref h4, .ref h5, .ref h6, .ref h7, .int 0, .int 0])), (h1, .inr (3, [.int 0, .ref (sv 0), .int 0]))] H _ := w
  refine lv_aload_n C.1 C.2.1 dX6_look_5 rfl (lv_at hl 0 rfl) ?_
  refine x_get (v := .ref h1) C w 0 10 0 (xin_X6 _) rfl rfl (by decide) (List.mem_cons_of_mem _ gw_78) rfl rfl dX6_look_6 ?_
  refine lv_iload_n C.1 C.2.1 dX6_look_9 rfl (lv_at hl 1 rfl) ?_
  refine x_ki C w [1] [0] rfl rfl (by decide) (by decide) (va_runS (As := [.ref h1, .int v0]) (rest := []) (xfix C) (c51_X6_valueIn l G cy sa sv h1 v0 (xtr C) _) (va_cwS 2 (xhts C) (xgS gw_210 gw_211 gw_58 gc_X6_valueIn) rfl rfl rfl (by decide +kernel) ⟨(Nat.le_of_ble_eq_true rfl), (Nat.le_of_ble_eq_true rfl)⟩) (xPS C w [1] rfl (by decide)) rfl rfl hl.1 rfl (lv_room (Nat.le_of_ble_eq_true rfl)) dX6_look_10 ⟨(Nat.le_of_ble_eq_true rfl), (Nat.le_of_ble_eq_true rfl)⟩) (fun f873 H locs w => ?_)
  have w : xW G A s [(h0, .inr (10, [.ref h1, .ref h2, .ref h3, .ref h4, .ref h5, .ref h6, .ref h7, .int 0, .int 0])), (h1, .inr (3, [.int 0, .ref (sv 0), .int 0]))] H _ := w
  exact x_iret C w hr (fun _ => 0) rfl rfl dX6_look_13 (Nat.le_of_ble_eq_true rfl) (Nat.le_of_ble_eq_true rfl)
set_option maxHeartbeats 4000000 in
set_option maxRecDepth 100000 in
theorem c124_X4_has (l : Launch) (G : va_G) (cy : Nat → ClassId) (sa : String → Nat → Nat) (sv : Nat → Nat) (h0 h1 h2 h3 h4 h5 h6 h7 h8 h9 h10 : Nat) (v0 : Int32) : xM l G cy sa sv yX4_has (Cond.code yX4_has cX4_has 2 (some .boolean) :: XG) { frames := 10, cells := 0, slots := 0, locals := 293 } [.ref h0, .int v0] [(h0, .inr (8, [.ref h1, .ref h3, .ref h4, .ref h5, .ref h6, .int 0, .ref h7, .ref h8])), (h1, .inr (7, [.ref h2, .ref h9])), (h2, .inr (6, [.ref h10, .int 0]))] (xQi G (fun f => [(h0, .inr (8, [.ref h1, .ref h3, .ref h4, .ref h5, .ref h6, .int 0, .ref h7, .ref h8])), (h1, .inr (7, [.ref h2, .ref h9])), (h2, .inr (6, [.ref h10, .int 0]))]) 0) := by
  refine xof (by decide) (Nat.le_of_ble_eq_true rfl) (fun p e s m below meth c A C w hr hn ls hl => ?_)
  have hl : lv_has ls 2 [(0, .ref h0), (1, .int v0)] := hl
  refine lv_aload_n C.1 C.2.1 dX4_has_0 rfl (lv_at hl 0 rfl) ?_
  refine x_get (v := .ref h1) C w 0 8 0 (xin_X4 _) rfl rfl (by decide) (List.mem_cons_of_mem _ gw_24) rfl rfl dX4_has_1 ?_
  refine lv_iload_n C.1 C.2.1 dX4_has_4 rfl (lv_at hl 1 rfl) ?_
  refine x_ki C w [1, 2] [0] rfl rfl (by decide) (by decide) (va_runV (As := [.int v0]) (rest := []) (xfix C) (c32_X3_holds l G cy sa sv h1 h2 h9 h10 v0 (xtr C) _) (cwV 1 (xhts C) (xgV (maxL := 0) (cc := ⟨#[]⟩) (ret := none) gw_284 gw_163 gw_164 gw_7 gc_X3_holds) rfl rfl rfl (by decide +kernel) ⟨(Nat.le_of_ble_eq_true rfl), (Nat.le_of_ble_eq_true rfl)⟩) (xPV C w [1, 2] rfl (by decide) (ci := 7) (q0 := 1) rfl rfl) rfl rfl hl.1 rfl (lv_room (Nat.le_of_ble_eq_true rfl)) dX4_has_5 ⟨(Nat.le_of_ble_eq_true rfl), (Nat.le_of_ble_eq_true rfl)⟩) (fun f876 H locs w => ?_)
  have w : xW G A s [(h0, .inr (8, [.ref h1, .ref h3, .ref h4, .ref h5, .ref h6, .int 0, .ref h7, .ref h8])), (h1, .inr (7, [.ref h2, .ref h9])), (h2, .inr (6, [.ref h10, .int 0]))] H _ := w
  exact x_zret C w hr rfl (fun _ => 0) rfl rfl dX4_has_8 (Nat.le_of_ble_eq_true rfl) (Nat.le_of_ble_eq_true rfl)
set_option maxHeartbeats 4000000 in
set_option maxRecDepth 100000 in
theorem c125_X6_has (l : Launch) (G : va_G) (cy : Nat → ClassId) (sa : String → Nat → Nat) (sv : Nat → Nat) (h0 h1 h2 h3 h4 h5 h6 h7 : Nat) (v0 : Int32) : xM l G cy sa sv yX6_has (Cond.code yX6_has cX6_has 2 (some .boolean) :: XG) { frames := 10, cells := 0, slots := 0, locals := 292 } [.ref h0, .int v0] [(h0, .inr (10, [.ref h1, .ref h2, .ref h3, .ref h4, .ref h5, .ref h6, .ref h7, .int 0, .int 0])), (h1, .inr (3, [.int 0, .ref (sv 0), .int 0]))] (xQi G (fun f => [(h0, .inr (10, [.ref h1, .ref h2, .ref h3, .ref h4, .ref h5, .ref h6, .ref h7, .int 0, .int 0])), (h1, .inr (3, [.int 0, .ref (sv 0), .int 0]))]) 0) := by
  refine xof (by decide) (Nat.le_of_ble_eq_true rfl) (fun p e s m below meth c A C w hr hn ls hl => ?_)
  have hl : lv_has ls 2 [(0, .ref h0), (1, .int v0)] := hl
  refine lv_aload_n C.1 C.2.1 dX6_has_0 rfl (lv_at hl 0 rfl) ?_
  refine lv_iconst (v := 0) C.1 C.2.1 dX6_has_1 (by decide) ?_
  refine x_put (ty := .int) (ty0 := tyX6) C w 0 10 8 (xin_X6 _) tyX6_ok nmX6 rfl rfl (by decide) (List.mem_cons_of_mem _ gw_112) rfl rfl (by decide +kernel) rfl rfl (Nat.le_of_ble_eq_true rfl) dX6_has_2 (fun H locs w => ?_)
  have w : xW G A s [(h0, .inr (10, [.ref h1, .ref h2, .ref h3, .ref h4, .ref h5, .ref h6, .ref h7, .int 0, .int 0])), (h1, .inr (3, [.int 0, .ref (sv 0), .int 0]))] H _ := w
  refine lv_aload_n C.1 C.2.1 dX6_has_5 rfl (lv_at hl 0 rfl) ?_
  refine x_get (v := .ref h1) C w 0 10 0 (xin_X6 _) rfl rfl (by decide) (List.mem_cons_of_mem _ gw_78) rfl rfl dX6_has_6 ?_
  refine lv_iload_n C.1 C.2.1 dX6_has_9 rfl (lv_at hl 1 rfl) ?_
  refine x_ki C w [1] [0] rfl rfl (by decide) (by decide) (va_runS (As := [.ref h1, .int v0]) (rest := []) (xfix C) (c50_X6_at l G cy sa sv h1 v0 (xtr C) _) (va_cwS 2 (xhts C) (xgS gw_207 gw_208 gw_58 gc_X6_at) rfl rfl rfl (by decide +kernel) ⟨(Nat.le_of_ble_eq_true rfl), (Nat.le_of_ble_eq_true rfl)⟩) (xPS C w [1] rfl (by decide)) rfl rfl hl.1 rfl (lv_room (Nat.le_of_ble_eq_true rfl)) dX6_has_10 ⟨(Nat.le_of_ble_eq_true rfl), (Nat.le_of_ble_eq_true rfl)⟩) (fun f879 H locs w => ?_)
  have w : xW G A s [(h0, .inr (10, [.ref h1, .ref h2, .ref h3, .ref h4, .ref h5, .ref h6, .ref h7, .int 0, .int 0])), (h1, .inr (3, [.int 0, .ref (sv 0), .int 0]))] H _ := w
  refine lv_if_lt (tgt := 20) C.1 C.2.1 dX6_has_13 (by decide) (fun _ => ?_) (fun c9 => absurd (by decide) c9)
  refine lv_iconst (v := 0) C.1 C.2.1 dX6_has_20 (by decide) ?_
  exact x_zret C w hr rfl (fun _ => 0) rfl rfl dX6_has_21 (Nat.le_of_ble_eq_true rfl) (Nat.le_of_ble_eq_true rfl)
set_option maxHeartbeats 4000000 in
set_option maxRecDepth 100000 in
theorem c126_X3_holdsValue (l : Launch) (G : va_G) (cy : Nat → ClassId) (sa : String → Nat → Nat) (sv : Nat → Nat) (h0 h1 h2 h3 : Nat) (v0 : Int32) : xM l G cy sa sv yX3_holdsValue (Cond.code yX3_holdsValue cX3_holdsValue 2 (some .boolean) :: XG) { frames := 9, cells := 0, slots := 0, locals := 272 } [.ref h0, .int v0] [(h0, .inr (7, [.ref h2, .ref h1])), (h1, .inr (6, [.ref h3, .int 0]))] (xQi G (fun f => [(h0, .inr (7, [.ref h2, .ref h1])), (h1, .inr (6, [.ref h3, .int 0]))]) 0) := by
  refine xof (by decide) (Nat.le_of_ble_eq_true rfl) (fun p e s m below meth c A C w hr hn ls hl => ?_)
  have hl : lv_has ls 2 [(0, .ref h0), (1, .int v0)] := hl
  refine lv_aload_n C.1 C.2.1 dX3_holdsValue_0 rfl (lv_at hl 0 rfl) ?_
  refine x_get (v := .ref h1) C w 0 7 1 (xin_X3 _) rfl rfl (by decide) (List.mem_cons_of_mem _ gw_20) rfl rfl dX3_holdsValue_1 ?_
  refine lv_iload_n C.1 C.2.1 dX3_holdsValue_4 rfl (lv_at hl 1 rfl) ?_
  refine x_ki C w [1] [0] rfl rfl (by decide) (by decide) (va_runV (As := [.int v0]) (rest := []) (xfix C) (c24_X2_placeOf l G cy sa sv h1 h3 v0 (xtr C) _) (cwV 1 (xhts C) (xgV (maxL := 0) (cc := ⟨#[]⟩) (ret := none) gw_138 gw_139 gw_140 gw_11 gc_X2_placeOf) rfl rfl rfl (by decide +kernel) ⟨(Nat.le_of_ble_eq_true rfl), (Nat.le_of_ble_eq_true rfl)⟩) (xPV C w [1] rfl (by decide) (ci := 6) (q0 := 1) rfl rfl) rfl rfl hl.1 rfl (lv_room (Nat.le_of_ble_eq_true rfl)) dX3_holdsValue_5 ⟨(Nat.le_of_ble_eq_true rfl), (Nat.le_of_ble_eq_true rfl)⟩) (fun f881 H locs w => ?_)
  have w : xW G A s [(h0, .inr (7, [.ref h2, .ref h1])), (h1, .inr (6, [.ref h3, .int 0]))] H _ := w
  refine lv_iconst (v := (-1)) C.1 C.2.1 dX3_holdsValue_8 (by decide) ?_
  refine lv_icmp_eq (tgt := 16) C.1 C.2.1 dX3_holdsValue_9 (by decide) (fun _ => ?_) (fun c9 => absurd (by decide) c9)
  refine lv_iconst (v := 0) C.1 C.2.1 dX3_holdsValue_16 (by decide) ?_
  exact x_zret C w hr rfl (fun _ => 0) rfl rfl dX3_holdsValue_17 (Nat.le_of_ble_eq_true rfl) (Nat.le_of_ble_eq_true rfl)
set_option maxHeartbeats 4000000 in
set_option maxRecDepth 100000 in
theorem c127_X4_hasValue (l : Launch) (G : va_G) (cy : Nat → ClassId) (sa : String → Nat → Nat) (sv : Nat → Nat) (h0 h1 h2 h3 h4 h5 h6 h7 h8 h9 h10 : Nat) (v0 : Int32) : xM l G cy sa sv yX4_hasValue (Cond.code yX4_hasValue cX4_hasValue 2 (some .boolean) :: XG) { frames := 10, cells := 0, slots := 0, locals := 293 } [.ref h0, .int v0] [(h0, .inr (8, [.ref h1, .ref h3, .ref h4, .ref h5, .ref h6, .int 0, .ref h7, .ref h8])), (h1, .inr (7, [.ref h9, .ref h2])), (h2, .inr (6, [.ref h10, .int 0]))] (xQi G (fun f => [(h0, .inr (8, [.ref h1, .ref h3, .ref h4, .ref h5, .ref h6, .int 0, .ref h7, .ref h8])), (h1, .inr (7, [.ref h9, .ref h2])), (h2, .inr (6, [.ref h10, .int 0]))]) 0) := by
  refine xof (by decide) (Nat.le_of_ble_eq_true rfl) (fun p e s m below meth c A C w hr hn ls hl => ?_)
  have hl : lv_has ls 2 [(0, .ref h0), (1, .int v0)] := hl
  refine lv_aload_n C.1 C.2.1 dX4_hasValue_0 rfl (lv_at hl 0 rfl) ?_
  refine x_get (v := .ref h1) C w 0 8 0 (xin_X4 _) rfl rfl (by decide) (List.mem_cons_of_mem _ gw_24) rfl rfl dX4_hasValue_1 ?_
  refine lv_iload_n C.1 C.2.1 dX4_hasValue_4 rfl (lv_at hl 1 rfl) ?_
  refine x_ki C w [1, 2] [0] rfl rfl (by decide) (by decide) (va_runV (As := [.int v0]) (rest := []) (xfix C) (c126_X3_holdsValue l G cy sa sv h1 h2 h9 h10 v0 (xtr C) _) (cwV 1 (xhts C) (xgV (maxL := 0) (cc := ⟨#[]⟩) (ret := none) gw_370 gw_371 gw_372 gw_7 gc_X3_holdsValue) rfl rfl rfl (by decide +kernel) ⟨(Nat.le_of_ble_eq_true rfl), (Nat.le_of_ble_eq_true rfl)⟩) (xPV C w [1, 2] rfl (by decide) (ci := 7) (q0 := 1) rfl rfl) rfl rfl hl.1 rfl (lv_room (Nat.le_of_ble_eq_true rfl)) dX4_hasValue_5 ⟨(Nat.le_of_ble_eq_true rfl), (Nat.le_of_ble_eq_true rfl)⟩) (fun f882 H locs w => ?_)
  have w : xW G A s [(h0, .inr (8, [.ref h1, .ref h3, .ref h4, .ref h5, .ref h6, .int 0, .ref h7, .ref h8])), (h1, .inr (7, [.ref h9, .ref h2])), (h2, .inr (6, [.ref h10, .int 0]))] H _ := w
  exact x_zret C w hr rfl (fun _ => 0) rfl rfl dX4_hasValue_8 (Nat.le_of_ble_eq_true rfl) (Nat.le_of_ble_eq_true rfl)
set_option maxHeartbeats 4000000 in
set_option maxRecDepth 100000 in
theorem c128_X6_hasValue (l : Launch) (G : va_G) (cy : Nat → ClassId) (sa : String → Nat → Nat) (sv : Nat → Nat) (h0 h1 h2 h3 h4 h5 h6 h7 : Nat) (v0 : Int32) : xM l G cy sa sv yX6_hasValue (Cond.code yX6_hasValue cX6_hasValue 4 (some .boolean) :: XG) { frames := 9, cells := 0, slots := 0, locals := 270 } [.ref h0, .int v0] [(h0, .inr (10, [.ref h1, .ref h2, .ref h3, .ref h4, .ref h5, .ref h6, .ref h7, .int 0, .int 0])), (h1, .inr (3, [.int 0, .ref (sv 0), .int 0]))] (xQi G (fun f => [(h0, .inr (10, [.ref h1, .ref h2, .ref h3, .ref h4, .ref h5, .ref h6, .ref h7, .int 0, .int 0])), (h1, .inr (3, [.int 0, .ref (sv 0), .int 0]))]) 0) := by
  refine xof (by decide) (Nat.le_of_ble_eq_true rfl) (fun p e s m below meth c A C w hr hn ls hl => ?_)
  have hl : lv_has ls 4 [(0, .ref h0), (1, .int v0)] := hl
  refine lv_aload_n C.1 C.2.1 dX6_hasValue_0 rfl (lv_at hl 0 rfl) ?_
  refine lv_iconst (v := 0) C.1 C.2.1 dX6_hasValue_1 (by decide) ?_
  refine x_put (ty := .int) (ty0 := tyX6) C w 0 10 8 (xin_X6 _) tyX6_ok nmX6 rfl rfl (by decide) (List.mem_cons_of_mem _ gw_112) rfl rfl (by decide +kernel) rfl rfl (Nat.le_of_ble_eq_true rfl) dX6_hasValue_2 (fun H locs w => ?_)
  have w : xW G A s [(h0, .inr (10, [.ref h1, .ref h2, .ref h3, .ref h4, .ref h5, .ref h6, .ref h7, .int 0, .int 0])), (h1, .inr (3, [.int 0, .ref (sv 0), .int 0]))] H _ := w
  refine lv_iconst (v := 0) C.1 C.2.1 dX6_hasValue_5 (by decide) ?_
  refine lv_istore_n (lv' := [(2, .int 0), (0, .ref h0), (1, .int v0)]) C.1 C.2.1 dX6_hasValue_6 rfl hl (by decide) rfl (fun ls hl => ?_)
  refine lv_iconst (v := 0) C.1 C.2.1 dX6_hasValue_7 (by decide) ?_
  refine lv_istore_n (lv' := [(3, .int 0), (2, .int 0), (0, .ref h0), (1, .int v0)]) C.1 C.2.1 dX6_hasValue_8 rfl hl (by decide) rfl (fun ls hl => ?_)
  refine lv_iload_n C.1 C.2.1 dX6_hasValue_9 rfl (lv_at hl 0 rfl) ?_
  refine lv_aload_n C.1 C.2.1 dX6_hasValue_10 rfl (lv_at hl 2 rfl) ?_
  refine x_get (v := .ref h1) C w 0 10 0 (xin_X6 _) rfl rfl (by decide) (List.mem_cons_of_mem _ gw_78) rfl rfl dX6_hasValue_11 ?_
  refine x_ki C w [1] [0] rfl rfl (by decide) (by decide) (va_runV (As := []) (rest := [.int 0]) (xfix C) (c47_Jx4a65c_size_8abf5 l G cy sa sv h1 (xtr C) _) (cwV 0 (xhts C) (xgV (maxL := 0) (cc := ⟨#[]⟩) (ret := none) gw_195 gw_196 gw_197 gw_62 gc_Jx4a65c_size_8abf5) rfl rfl rfl (by decide +kernel) ⟨(Nat.le_of_ble_eq_true rfl), (Nat.le_of_ble_eq_true rfl)⟩) (xPV C w [1] rfl (by decide) (ci := 3) (q0 := 1) rfl rfl) rfl rfl hl.1 rfl (lv_room (Nat.le_of_ble_eq_true rfl)) dX6_hasValue_14 ⟨(Nat.le_of_ble_eq_true rfl), (Nat.le_of_ble_eq_true rfl)⟩) (fun f884 H locs w => ?_)
  have w : xW G A s [(h0, .inr (10, [.ref h1, .ref h2, .ref h3, .ref h4, .ref h5, .ref h6, .ref h7, .int 0, .int 0])), (h1, .inr (3, [.int 0, .ref (sv 0), .int 0]))] H _ := w
  refine lv_icmp_ge (tgt := 51) C.1 C.2.1 dX6_hasValue_17 (by decide) (fun _ => ?_) (fun c9 => absurd (by decide) c9)
  refine lv_iload_n C.1 C.2.1 dX6_hasValue_51 rfl (lv_at hl 1 rfl) ?_
  exact x_zret C w hr rfl (fun _ => 0) rfl rfl dX6_hasValue_52 (Nat.le_of_ble_eq_true rfl) (Nat.le_of_ble_eq_true rfl)
set_option maxHeartbeats 4000000 in
set_option maxRecDepth 100000 in
theorem c129_X4_size (l : Launch) (G : va_G) (cy : Nat → ClassId) (sa : String → Nat → Nat) (sv : Nat → Nat) (h0 h1 h2 h3 h4 h5 h6 h7 h8 h9 h10 : Nat) : xM l G cy sa sv yX4_size (Cond.code yX4_size cX4_size 1 (some .int) :: XG) { frames := 10, cells := 0, slots := 0, locals := 290 } [.ref h0] [(h0, .inr (8, [.ref h1, .ref h3, .ref h4, .ref h5, .ref h6, .int 0, .ref h7, .ref h8])), (h1, .inr (7, [.ref h2, .ref h9])), (h2, .inr (6, [.ref h10, .int 0]))] (xQi G (fun f => [(h0, .inr (8, [.ref h1, .ref h3, .ref h4, .ref h5, .ref h6, .int 0, .ref h7, .ref h8])), (h1, .inr (7, [.ref h2, .ref h9])), (h2, .inr (6, [.ref h10, .int 0]))]) 0) := by
  refine xof (by decide) (Nat.le_of_ble_eq_true rfl) (fun p e s m below meth c A C w hr hn ls hl => ?_)
  have hl : lv_has ls 1 [(0, .ref h0)] := hl
  refine lv_aload_n C.1 C.2.1 dX4_size_0 rfl (lv_at hl 0 rfl) ?_
  refine x_get (v := .ref h1) C w 0 8 0 (xin_X4 _) rfl rfl (by decide) (List.mem_cons_of_mem _ gw_24) rfl rfl dX4_size_1 ?_
  refine x_ki C w [1, 2] [0] rfl rfl (by decide) (by decide) (va_runV (As := []) (rest := []) (xfix C) (c22_X3_count l G cy sa sv h1 h2 h9 h10 (xtr C) _) (cwV 0 (xhts C) (xgV (maxL := 0) (cc := ⟨#[]⟩) (ret := none) gw_130 gw_131 gw_132 gw_7 gc_X3_count) rfl rfl rfl (by decide +kernel) ⟨(Nat.le_of_ble_eq_true rfl), (Nat.le_of_ble_eq_true rfl)⟩) (xPV C w [1, 2] rfl (by decide) (ci := 7) (q0 := 1) rfl rfl) rfl rfl hl.1 rfl (lv_room (Nat.le_of_ble_eq_true rfl)) dX4_size_4 ⟨(Nat.le_of_ble_eq_true rfl), (Nat.le_of_ble_eq_true rfl)⟩) (fun f887 H locs w => ?_)
  have w : xW G A s [(h0, .inr (8, [.ref h1, .ref h3, .ref h4, .ref h5, .ref h6, .int 0, .ref h7, .ref h8])), (h1, .inr (7, [.ref h2, .ref h9])), (h2, .inr (6, [.ref h10, .int 0]))] H _ := w
  exact x_iret C w hr (fun _ => 0) rfl rfl dX4_size_7 (Nat.le_of_ble_eq_true rfl) (Nat.le_of_ble_eq_true rfl)
set_option maxHeartbeats 4000000 in
set_option maxRecDepth 100000 in
theorem c130_X6_size (l : Launch) (G : va_G) (cy : Nat → ClassId) (sa : String → Nat → Nat) (sv : Nat → Nat) (h0 h1 h2 h3 h4 h5 h6 h7 : Nat) : xM l G cy sa sv yX6_size (Cond.code yX6_size cX6_size 1 (some .int) :: XG) { frames := 9, cells := 0, slots := 0, locals := 270 } [.ref h0] [(h0, .inr (10, [.ref h1, .ref h2, .ref h3, .ref h4, .ref h5, .ref h6, .ref h7, .int 0, .int 0])), (h1, .inr (3, [.int 0, .ref (sv 0), .int 0]))] (xQi G (fun f => [(h0, .inr (10, [.ref h1, .ref h2, .ref h3, .ref h4, .ref h5, .ref h6, .ref h7, .int 0, .int 0])), (h1, .inr (3, [.int 0, .ref (sv 0), .int 0]))]) 0) := by
  refine xof (by decide) (Nat.le_of_ble_eq_true rfl) (fun p e s m below meth c A C w hr hn ls hl => ?_)
  have hl : lv_has ls 1 [(0, .ref h0)] := hl
  refine lv_aload_n C.1 C.2.1 dX6_size_0 rfl (lv_at hl 0 rfl) ?_
  refine lv_iconst (v := 0) C.1 C.2.1 dX6_size_1 (by decide) ?_
  refine x_put (ty := .int) (ty0 := tyX6) C w 0 10 8 (xin_X6 _) tyX6_ok nmX6 rfl rfl (by decide) (List.mem_cons_of_mem _ gw_112) rfl rfl (by decide +kernel) rfl rfl (Nat.le_of_ble_eq_true rfl) dX6_size_2 (fun H locs w => ?_)
  have w : xW G A s [(h0, .inr (10, [.ref h1, .ref h2, .ref h3, .ref h4, .ref h5, .ref h6, .ref h7, .int 0, .int 0])), (h1, .inr (3, [.int 0, .ref (sv 0), .int 0]))] H _ := w
  refine lv_aload_n C.1 C.2.1 dX6_size_5 rfl (lv_at hl 0 rfl) ?_
  refine x_get (v := .ref h1) C w 0 10 0 (xin_X6 _) rfl rfl (by decide) (List.mem_cons_of_mem _ gw_78) rfl rfl dX6_size_6 ?_
  refine x_ki C w [1] [0] rfl rfl (by decide) (by decide) (va_runV (As := []) (rest := []) (xfix C) (c47_Jx4a65c_size_8abf5 l G cy sa sv h1 (xtr C) _) (cwV 0 (xhts C) (xgV (maxL := 0) (cc := ⟨#[]⟩) (ret := none) gw_195 gw_196 gw_197 gw_62 gc_Jx4a65c_size_8abf5) rfl rfl rfl (by decide +kernel) ⟨(Nat.le_of_ble_eq_true rfl), (Nat.le_of_ble_eq_true rfl)⟩) (xPV C w [1] rfl (by decide) (ci := 3) (q0 := 1) rfl rfl) rfl rfl hl.1 rfl (lv_room (Nat.le_of_ble_eq_true rfl)) dX6_size_9 ⟨(Nat.le_of_ble_eq_true rfl), (Nat.le_of_ble_eq_true rfl)⟩) (fun f889 H locs w => ?_)
  have w : xW G A s [(h0, .inr (10, [.ref h1, .ref h2, .ref h3, .ref h4, .ref h5, .ref h6, .ref h7, .int 0, .int 0])), (h1, .inr (3, [.int 0, .ref (sv 0), .int 0]))] H _ := w
  exact x_iret C w hr (fun _ => 0) rfl rfl dX6_size_12 (Nat.le_of_ble_eq_true rfl) (Nat.le_of_ble_eq_true rfl)
set_option maxHeartbeats 4000000 in
set_option maxRecDepth 100000 in
theorem c131_X4_checkRange (l : Launch) (G : va_G) (cy : Nat → ClassId) (sa : String → Nat → Nat) (sv : Nat → Nat) : xM l G cy sa sv yX4_checkRange (Cond.code yX4_checkRange cX4_checkRange 2 none :: XG) { frames := 8, cells := 0, slots := 0, locals := 250 } [.int (-2147483648), .int 2147483647] [] (xQv G (fun f => [])) := by
  refine xof (by decide) (Nat.le_of_ble_eq_true rfl) (fun p e s m below meth c A C w hr hn ls hl => ?_)
  have hl : lv_has ls 2 [(0, .int (-2147483648)), (1, .int 2147483647)] := hl
  refine lv_iload_n C.1 C.2.1 dX4_checkRange_0 rfl (lv_at hl 0 rfl) ?_
  refine lv_iload_n C.1 C.2.1 dX4_checkRange_1 rfl (lv_at hl 1 rfl) ?_
  refine lv_icmp_le (tgt := 16) C.1 C.2.1 dX4_checkRange_2 (by decide) (fun _ => ?_) (fun c9 => absurd (by decide) c9)
  exact x_vret C w hr (fun _ => 0) rfl dX4_checkRange_16 (Nat.le_of_ble_eq_true rfl) (Nat.le_of_ble_eq_true rfl)
set_option maxHeartbeats 4000000 in
set_option maxRecDepth 100000 in
theorem c132_X3_countIn (l : Launch) (G : va_G) (cy : Nat → ClassId) (sa : String → Nat → Nat) (sv : Nat → Nat) (h0 h1 h2 h3 : Nat) : xM l G cy sa sv yX3_countIn (Cond.code yX3_countIn cX3_countIn 3 (some .int) :: XG) { frames := 11, cells := 0, slots := 0, locals := 314 } [.ref h0, .int (-2147483648), .int 2147483647] [(h0, .inr (7, [.ref h1, .ref h2])), (h1, .inr (6, [.ref h3, .int 0]))] (xQi G (fun f => [(h0, .inr (7, [.ref h1, .ref h2])), (h1, .inr (6, [.ref h3, .int 0]))]) 0) := by
  refine xof (by decide) (Nat.le_of_ble_eq_true rfl) (fun p e s m below meth c A C w hr hn ls hl => ?_)
  have hl : lv_has ls 3 [(0, .ref h0), (1, .int (-2147483648)), (2, .int 2147483647)] := hl
  refine lv_aload_n C.1 C.2.1 dX3_countIn_0 rfl (lv_at hl 0 rfl) ?_
  refine lv_iload_n C.1 C.2.1 dX3_countIn_1 rfl (lv_at hl 2 rfl) ?_
  refine x_ki C w [0, 1] [] rfl rfl (by decide) (by decide) (va_runV (As := [.int 2147483647]) (rest := []) (xfix C) (c108_X3_countNotAbove l G cy sa sv h0 h1 h2 h3 (xtr C) _) (cwV 1 (xhts C) (xgV (maxL := 0) (cc := ⟨#[]⟩) (ret := none) gw_392 gw_309 gw_310 gw_7 gc_X3_countNotAbove) rfl rfl rfl (by decide +kernel) ⟨(Nat.le_of_ble_eq_true rfl), (Nat.le_of_ble_eq_true rfl)⟩) (xPV C w [0, 1] rfl (by decide) (ci := 7) (q0 := 0) rfl rfl) rfl rfl hl.1 rfl (lv_room (Nat.le_of_ble_eq_true rfl)) dX3_countIn_2 ⟨(Nat.le_of_ble_eq_true rfl), (Nat.le_of_ble_eq_true rfl)⟩) (fun f900 H locs w => ?_)
  have w : xW G A s [(h0, .inr (7, [.ref h1, .ref h2])), (h1, .inr (6, [.ref h3, .int 0]))] H _ := w
  refine lv_aload_n C.1 C.2.1 dX3_countIn_5 rfl (lv_at hl 0 rfl) ?_
  refine lv_iload_n C.1 C.2.1 dX3_countIn_6 rfl (lv_at hl 1 rfl) ?_
  refine x_ki C w [0, 1] [] rfl rfl (by decide) (by decide) (va_runV (As := [.int (-2147483648)]) (rest := [.int 0]) (xfix C) (c110_X3_countBelow l G cy sa sv h0 h1 h2 h3 (xtr C) _) (cwV 1 (xhts C) (xgV (maxL := 0) (cc := ⟨#[]⟩) (ret := none) gw_158 gw_159 gw_160 gw_7 gc_X3_countBelow) rfl rfl rfl (by decide +kernel) ⟨(Nat.le_of_ble_eq_true rfl), (Nat.le_of_ble_eq_true rfl)⟩) (xPV C w [0, 1] rfl (by decide) (ci := 7) (q0 := 0) rfl rfl) rfl rfl hl.1 rfl (lv_room (Nat.le_of_ble_eq_true rfl)) dX3_countIn_7 ⟨(Nat.le_of_ble_eq_true rfl), (Nat.le_of_ble_eq_true rfl)⟩) (fun f902 H locs w => ?_)
  have w : xW G A s [(h0, .inr (7, [.ref h1, .ref h2])), (h1, .inr (6, [.ref h3, .int 0]))] H _ := w
  refine lv_isub C.1 C.2.1 dX3_countIn_10 ?_
  refine x_is (y := 0) (by decide) ?_
  exact x_iret C w hr (fun _ => 0) rfl rfl dX3_countIn_11 (Nat.le_of_ble_eq_true rfl) (Nat.le_of_ble_eq_true rfl)
set_option maxHeartbeats 4000000 in
set_option maxRecDepth 100000 in
theorem c133_X4_rangeEnd (l : Launch) (G : va_G) (cy : Nat → ClassId) (sa : String → Nat → Nat) (sv : Nat → Nat) (h0 h1 h2 h3 h4 h5 h6 h7 h8 h9 h10 : Nat) : xX l G cy sa sv yX4_rangeEnd (Cond.code yX4_rangeEnd cX4_rangeEnd 4 (some .int) :: XG) { frames := 12, cells := 1, slots := 6, locals := 336 } [.ref h0, .int (-2147483648), .int 2147483647, .int 0] [(h0, .inr (8, [.ref h1, .ref h3, .ref h4, .ref h5, .ref h6, .int 0, .ref h7, .ref h8])), (h1, .inr (7, [.ref h2, .ref h9])), (h2, .inr (6, [.ref h10, .int 0]))] (fun f => [(h0, .inr (8, [.ref h1, .ref h3, .ref h4, .ref h5, .ref h6, .int 0, .ref h7, .ref h8])), (h1, .inr (7, [.ref h2, .ref h9])), (h2, .inr (6, [.ref h10, .int 0]))]) "java/lang/IllegalStateException" := by
  refine xofX (by decide) (Nat.le_of_ble_eq_true rfl) (fun p e s m below meth c A C w hno ls hl => ?_)
  have hl : lv_has ls 4 [(0, .ref h0), (1, .int (-2147483648)), (2, .int 2147483647), (3, .int 0)] := hl
  refine lv_iload_n C.1 C.2.1 dX4_rangeEnd_0 rfl (lv_at hl 1 rfl) ?_
  refine lv_iload_n C.1 C.2.1 dX4_rangeEnd_1 rfl (lv_at hl 2 rfl) ?_
  refine x_kv C w [] [0, 1, 2] rfl rfl (by decide) (by decide) (va_runS (As := [.int (-2147483648), .int 2147483647]) (rest := []) (xfix C) (c131_X4_checkRange l G cy sa sv (xtr C) _) (va_cwS 2 (xhts C) (xgS gw_390 gw_391 gw_2 gc_X4_checkRange) rfl rfl rfl (by decide +kernel) ⟨(Nat.le_of_ble_eq_true rfl), (Nat.le_of_ble_eq_true rfl)⟩) (xPS C w [] rfl (by decide)) rfl rfl hl.1 rfl (lv_room (Nat.le_of_ble_eq_true rfl)) dX4_rangeEnd_2 ⟨(Nat.le_of_ble_eq_true rfl), (Nat.le_of_ble_eq_true rfl)⟩) (fun f895 H locs w => ?_)
  have w : xW G A s [(h0, .inr (8, [.ref h1, .ref h3, .ref h4, .ref h5, .ref h6, .int 0, .ref h7, .ref h8])), (h1, .inr (7, [.ref h2, .ref h9])), (h2, .inr (6, [.ref h10, .int 0]))] H _ := w
  refine lv_aload_n C.1 C.2.1 dX4_rangeEnd_5 rfl (lv_at hl 0 rfl) ?_
  refine x_get (v := .ref h1) C w 0 8 0 (xin_X4 _) rfl rfl (by decide) (List.mem_cons_of_mem _ gw_24) rfl rfl dX4_rangeEnd_6 ?_
  refine lv_iload_n C.1 C.2.1 dX4_rangeEnd_9 rfl (lv_at hl 1 rfl) ?_
  refine lv_iload_n C.1 C.2.1 dX4_rangeEnd_10 rfl (lv_at hl 2 rfl) ?_
  refine x_ki C w [1, 2] [0] rfl rfl (by decide) (by decide) (va_runV (As := [.int (-2147483648), .int 2147483647]) (rest := []) (xfix C) (c132_X3_countIn l G cy sa sv h1 h2 h9 h10 (xtr C) _) (cwV 2 (xhts C) (xgV (maxL := 0) (cc := ⟨#[]⟩) (ret := none) gw_394 gw_395 gw_396 gw_7 gc_X3_countIn) rfl rfl rfl (by decide +kernel) ⟨(Nat.le_of_ble_eq_true rfl), (Nat.le_of_ble_eq_true rfl)⟩) (xPV C w [1, 2] rfl (by decide) (ci := 7) (q0 := 1) rfl rfl) rfl rfl hl.1 rfl (lv_room (Nat.le_of_ble_eq_true rfl)) dX4_rangeEnd_11 ⟨(Nat.le_of_ble_eq_true rfl), (Nat.le_of_ble_eq_true rfl)⟩) (fun f903 H locs w => ?_)
  have w : xW G A s [(h0, .inr (8, [.ref h1, .ref h3, .ref h4, .ref h5, .ref h6, .int 0, .ref h7, .ref h8])), (h1, .inr (7, [.ref h2, .ref h9])), (h2, .inr (6, [.ref h10, .int 0]))] H _ := w
  refine lv_if_ne (tgt := 27) C.1 C.2.1 dX4_rangeEnd_14 (by decide) (fun c9 => absurd (by decide) c9) (fun _ => ?_)
  exact x_thr C w hno hl.1 (by decide) (List.mem_cons_of_mem _ gw_397) (List.mem_cons_of_mem _ gw_398) (tx := "there is no such key") (List.mem_of_getElem? (i := 1) rfl) (xat_161 C (fun w h => List.mem_cons_of_mem _ h)) xatg_161 dX4_rangeEnd_17 dX4_rangeEnd_20 dX4_rangeEnd_21 dX4_rangeEnd_23 dX4_rangeEnd_26 (Nat.le_of_ble_eq_true rfl) (Nat.le_of_ble_eq_true rfl) (Nat.le_of_ble_eq_true rfl) (Nat.le_of_ble_eq_true rfl) rfl rfl (fun _ => 0) rfl
set_option maxHeartbeats 4000000 in
set_option maxRecDepth 100000 in
theorem c134_X4_first (l : Launch) (G : va_G) (cy : Nat → ClassId) (sa : String → Nat → Nat) (sv : Nat → Nat) (h0 h1 h2 h3 h4 h5 h6 h7 h8 h9 h10 : Nat) : xX l G cy sa sv yX4_first (Cond.code yX4_first cX4_first 2 (some .int) :: XG) { frames := 13, cells := 1, slots := 6, locals := 359 } [.ref h0, .int 0] [(h0, .inr (8, [.ref h1, .ref h3, .ref h4, .ref h5, .ref h6, .int 0, .ref h7, .ref h8])), (h1, .inr (7, [.ref h2, .ref h9])), (h2, .inr (6, [.ref h10, .int 0]))] (fun f => [(h0, .inr (8, [.ref h1, .ref h3, .ref h4, .ref h5, .ref h6, .int 0, .ref h7, .ref h8])), (h1, .inr (7, [.ref h2, .ref h9])), (h2, .inr (6, [.ref h10, .int 0]))]) "java/lang/IllegalStateException" := by
  refine xofX (by decide) (Nat.le_of_ble_eq_true rfl) (fun p e s m below meth c A C w hno ls hl => ?_)
  have hl : lv_has ls 2 [(0, .ref h0), (1, .int 0)] := hl
  refine lv_aload_n C.1 C.2.1 dX4_first_0 rfl (lv_at hl 0 rfl) ?_
  refine x_ldc (v := (-2147483648)) C (List.mem_cons_of_mem _ gw_305) dX4_first_1 ?_
  refine x_ldc (v := 2147483647) C (List.mem_cons_of_mem _ gw_306) dX4_first_3 ?_
  refine lv_iload_n C.1 C.2.1 dX4_first_5 rfl (lv_at hl 1 rfl) ?_
  refine x_kx C w [0, 1, 2] [] rfl rfl (by decide) (by decide) (vx_runV (As := [.int (-2147483648), .int 2147483647, .int 0]) (rest := []) (xfix C) (c133_X4_rangeEnd l G cy sa sv h0 h1 h2 h3 h4 h5 h6 h7 h8 h9 h10 (xtr C) _) (cwV 3 (xhts C) (xgV (maxL := 0) (cc := ⟨#[]⟩) (ret := none) gw_400 gw_401 gw_402 gw_2 gc_X4_rangeEnd) rfl rfl rfl (by decide +kernel) ⟨(Nat.le_of_ble_eq_true rfl), (Nat.le_of_ble_eq_true rfl)⟩) (xPV C w [0, 1, 2] rfl (by decide) (ci := 8) (q0 := 0) rfl rfl) rfl rfl hl.1 rfl (lv_room (Nat.le_of_ble_eq_true rfl)) dX4_first_6 ⟨(Nat.le_of_ble_eq_true rfl), (Nat.le_of_ble_eq_true rfl)⟩) (fun f904 H locs ce q9 w hce hcv hcl => ?_)
  have w : xW G A s [(h0, .inr (8, [.ref h1, .ref h3, .ref h4, .ref h5, .ref h6, .int 0, .ref h7, .ref h8])), (h1, .inr (7, [.ref h2, .ref h9])), (h2, .inr (6, [.ref h10, .int 0]))] H _ := w
  refine vx_widen (k := 1) (n := 6) (Nat.le_of_ble_eq_true rfl) (Nat.le_of_ble_eq_true rfl) ?_
  exact x_out C w hno (fun _ => 0) rfl hce hcv hcl (Nat.le_of_ble_eq_true rfl) (Nat.le_of_ble_eq_true rfl)
set_option maxHeartbeats 4000000 in
set_option maxRecDepth 100000 in
theorem c135_L_first (l : Launch) (G : va_G) (cy : Nat → ClassId) (sa : String → Nat → Nat) (sv : Nat → Nat) (h0 h1 h2 h3 h4 h5 h6 h7 h8 h9 h10 h11 : Nat) : xM l G cy sa sv yL_first (Cond.codeWith yL_first cL_first 4 (some .int) [(0, 10, 13, 21)] :: XG) { frames := 14, cells := 1, slots := 6, locals := 380 } [.ref h0, .int 0, .ref h1] [(h0, .inr (8, [.ref h2, .ref h4, .ref h5, .ref h6, .ref h7, .int 0, .ref h8, .ref h9])), (h2, .inr (7, [.ref h3, .ref h10])), (h3, .inr (6, [.ref h11, .int 0]))] (xQi G (fun f => [(h0, .inr (8, [.ref h2, .ref h4, .ref h5, .ref h6, .ref h7, .int 0, .ref h8, .ref h9])), (h2, .inr (7, [.ref h3, .ref h10])), (h3, .inr (6, [.ref h11, .int 0]))]) 1) := by
  refine xofH (by decide) (Nat.le_of_ble_eq_true rfl) (fun p e s m below meth c A C w hr hn hT ls hl => ?_)
  have hl : lv_has ls 4 [(0, .ref h0), (1, .int 0), (2, .ref h1)] := hl
  refine lv_aload_n C.1 C.2.1 dL_first_0 rfl (lv_at hl 2 rfl) ?_
  refine lv_aload_n C.1 C.2.1 dL_first_1 rfl (lv_at hl 0 rfl) ?_
  refine lv_iload_n C.1 C.2.1 dL_first_2 rfl (lv_at hl 1 rfl) ?_
  refine x_kx C w [0, 1, 2] [] rfl rfl (by decide) (by decide) (vx_runV (As := [.int 0]) (rest := [.ref h1]) (xfix C) (c134_X4_first l G cy sa sv h0 h2 h3 h4 h5 h6 h7 h8 h9 h10 h11 (xtr C) _) (cwV 1 (xhts C) (xgV (maxL := 0) (cc := ⟨#[]⟩) (ret := none) gw_404 gw_405 gw_406 gw_2 gc_X4_first) rfl rfl rfl (by decide +kernel) ⟨(Nat.le_of_ble_eq_true rfl), (Nat.le_of_ble_eq_true rfl)⟩) (xPV C w [0, 1, 2] rfl (by decide) (ci := 8) (q0 := 0) rfl rfl) rfl rfl hl.1 rfl (lv_room (Nat.le_of_ble_eq_true rfl)) dL_first_3 ⟨(Nat.le_of_ble_eq_true rfl), (Nat.le_of_ble_eq_true rfl)⟩) (fun f905 H locs ce q9 w hce hcv hcl => ?_)
  have w : xW G A s [(h0, .inr (8, [.ref h2, .ref h4, .ref h5, .ref h6, .ref h7, .int 0, .ref h8, .ref h9])), (h2, .inr (7, [.ref h3, .ref h10])), (h3, .inr (6, [.ref h11, .int 0]))] H _ := w
  refine vx_widen (k := 1) (n := 6) (Nat.le_of_ble_eq_true rfl) (Nat.le_of_ble_eq_true rfl) ?_
  refine vx_catch (xown C) [] ⟨0, 10, 13, 21⟩ [] hT (fun z hz => nomatch hz) (by decide) (by decide) (xhts C _ (List.mem_cons_of_mem _ gw_407)) (va_any rfl (xs_c2 (xS C))) hce hcv hcl ?_
  refine lv_astore_n (lv' := [(3, .ref q9), (0, .ref h0), (1, .int 0), (2, .ref h1)]) C.1 C.2.1 dL_first_13 rfl hl (by decide) rfl (fun ls hl => ?_)
  refine lv_iconst (v := 1) C.1 C.2.1 dL_first_14 (by decide) ?_
  exact x_iret C w hr (fun _ => 0) rfl rfl dL_first_15 (Nat.le_of_ble_eq_true rfl) (Nat.le_of_ble_eq_true rfl)
set_option maxHeartbeats 4000000 in
set_option maxRecDepth 100000 in
theorem c136_X6_first (l : Launch) (G : va_G) (cy : Nat → ClassId) (sa : String → Nat → Nat) (sv : Nat → Nat) (h0 h1 h2 h3 h4 h5 h6 h7 : Nat) : xM l G cy sa sv yX6_first (Cond.code yX6_first cX6_first 2 (some .int) :: XG) { frames := 9, cells := 0, slots := 0, locals := 272 } [.ref h0, .int 0] [(h0, .inr (10, [.ref h1, .ref h2, .ref h3, .ref h4, .ref h5, .ref h6, .ref h7, .int 0, .int 0])), (h1, .inr (3, [.int 0, .ref (sv 0), .int 0]))] (xQi G (fun f => [(h0, .inr (10, [.ref h1, .ref h2, .ref h3, .ref h4, .ref h5, .ref h6, .ref h7, .int 0, .int 1])), (h1, .inr (3, [.int 0, .ref (sv 0), .int 0]))]) 0) := by
  refine xof (by decide) (Nat.le_of_ble_eq_true rfl) (fun p e s m below meth c A C w hr hn ls hl => ?_)
  have hl : lv_has ls 2 [(0, .ref h0), (1, .int 0)] := hl
  refine lv_aload_n C.1 C.2.1 dX6_first_0 rfl (lv_at hl 0 rfl) ?_
  refine lv_aload_n C.1 C.2.1 dX6_first_1 rfl (lv_at hl 0 rfl) ?_
  refine x_get (v := .ref h1) C w 0 10 0 (xin_X6 _) rfl rfl (by decide) (List.mem_cons_of_mem _ gw_78) rfl rfl dX6_first_2 ?_
  refine x_ki C w [1] [0] rfl rfl (by decide) (by decide) (va_runV (As := []) (rest := [.ref h0]) (xfix C) (c47_Jx4a65c_size_8abf5 l G cy sa sv h1 (xtr C) _) (cwV 0 (xhts C) (xgV (maxL := 0) (cc := ⟨#[]⟩) (ret := none) gw_195 gw_196 gw_197 gw_62 gc_Jx4a65c_size_8abf5) rfl rfl rfl (by decide +kernel) ⟨(Nat.le_of_ble_eq_true rfl), (Nat.le_of_ble_eq_true rfl)⟩) (xPV C w [1] rfl (by decide) (ci := 3) (q0 := 1) rfl rfl) rfl rfl hl.1 rfl (lv_room (Nat.le_of_ble_eq_true rfl)) dX6_first_5 ⟨(Nat.le_of_ble_eq_true rfl), (Nat.le_of_ble_eq_true rfl)⟩) (fun f908 H locs w => ?_)
  have w : xW G A s [(h0, .inr (10, [.ref h1, .ref h2, .ref h3, .ref h4, .ref h5, .ref h6, .ref h7, .int 0, .int 0])), (h1, .inr (3, [.int 0, .ref (sv 0), .int 0]))] H _ := w
  refine lv_if_ne (tgt := 15) C.1 C.2.1 dX6_first_8 (by decide) (fun c9 => absurd (by decide) c9) (fun _ => ?_)
  refine lv_iconst (v := 1) C.1 C.2.1 dX6_first_11 (by decide) ?_
  refine lv_goto (tgt := 16) C.1 C.2.1 dX6_first_12 (by decide) ?_
  refine lv_iconst (v := 1) C.1 C.2.1 dX6_first_16 (by decide) ?_
  refine x_ki C w [0] [1] rfl rfl (by decide) (by decide) (va_runV (As := [.int 1, .int 1]) (rest := []) (xfix C) (c17_X6_start l G cy sa sv h0 h1 h2 h3 h4 h5 h6 h7 (xtr C) _) (cwV 2 (xhts C) (xgV (maxL := 0) (cc := ⟨#[]⟩) (ret := none) gw_114 gw_115 gw_116 gw_58 gc_X6_start) rfl rfl rfl (by decide +kernel) ⟨(Nat.le_of_ble_eq_true rfl), (Nat.le_of_ble_eq_true rfl)⟩) (xPV C w [0] rfl (by decide) (ci := 10) (q0 := 0) rfl rfl) rfl rfl hl.1 rfl (lv_room (Nat.le_of_ble_eq_true rfl)) dX6_first_17 ⟨(Nat.le_of_ble_eq_true rfl), (Nat.le_of_ble_eq_true rfl)⟩) (fun f909 H locs w => ?_)
  have w : xW G A s [(h1, .inr (3, [.int 0, .ref (sv 0), .int 0])), (h0, .inr (10, [.ref h1, .ref h2, .ref h3, .ref h4, .ref h5, .ref h6, .ref h7, .int 0, .int 1]))] H _ := w
  refine lv_if_eq (tgt := 27) C.1 C.2.1 dX6_first_20 (by decide) (fun c9 => absurd c9 (by decide)) (fun _ => ?_)
  refine lv_iconst (v := 0) C.1 C.2.1 dX6_first_23 (by decide) ?_
  refine lv_goto (tgt := 35) C.1 C.2.1 dX6_first_24 (by decide) ?_
  have w := w.sub (ws' := [(h0, .inr (10, [.ref h1, .ref h2, .ref h3, .ref h4, .ref h5, .ref h6, .ref h7, .int 0, .int 1])), (h1, .inr (3, [.int 0, .ref (sv 0), .int 0]))]) [1, 0] (by decide) rfl rfl
  exact x_iret C w hr (fun _ => 0) rfl rfl dX6_first_35 (Nat.le_of_ble_eq_true rfl) (Nat.le_of_ble_eq_true rfl)
set_option maxHeartbeats 4000000 in
set_option maxRecDepth 100000 in
theorem c137_X4_rangeEnd (l : Launch) (G : va_G) (cy : Nat → ClassId) (sa : String → Nat → Nat) (sv : Nat → Nat) (h0 h1 h2 h3 h4 h5 h6 h7 h8 h9 h10 : Nat) : xX l G cy sa sv yX4_rangeEnd (Cond.code yX4_rangeEnd cX4_rangeEnd 4 (some .int) :: XG) { frames := 12, cells := 1, slots := 6, locals := 336 } [.ref h0, .int (-2147483648), .int 2147483647, .int 1] [(h0, .inr (8, [.ref h1, .ref h3, .ref h4, .ref h5, .ref h6, .int 0, .ref h7, .ref h8])), (h1, .inr (7, [.ref h2, .ref h9])), (h2, .inr (6, [.ref h10, .int 0]))] (fun f => [(h0, .inr (8, [.ref h1, .ref h3, .ref h4, .ref h5, .ref h6, .int 0, .ref h7, .ref h8])), (h1, .inr (7, [.ref h2, .ref h9])), (h2, .inr (6, [.ref h10, .int 0]))]) "java/lang/IllegalStateException" := by
  refine xofX (by decide) (Nat.le_of_ble_eq_true rfl) (fun p e s m below meth c A C w hno ls hl => ?_)
  have hl : lv_has ls 4 [(0, .ref h0), (1, .int (-2147483648)), (2, .int 2147483647), (3, .int 1)] := hl
  refine lv_iload_n C.1 C.2.1 dX4_rangeEnd_0 rfl (lv_at hl 1 rfl) ?_
  refine lv_iload_n C.1 C.2.1 dX4_rangeEnd_1 rfl (lv_at hl 2 rfl) ?_
  refine x_kv C w [] [0, 1, 2] rfl rfl (by decide) (by decide) (va_runS (As := [.int (-2147483648), .int 2147483647]) (rest := []) (xfix C) (c131_X4_checkRange l G cy sa sv (xtr C) _) (va_cwS 2 (xhts C) (xgS gw_390 gw_391 gw_2 gc_X4_checkRange) rfl rfl rfl (by decide +kernel) ⟨(Nat.le_of_ble_eq_true rfl), (Nat.le_of_ble_eq_true rfl)⟩) (xPS C w [] rfl (by decide)) rfl rfl hl.1 rfl (lv_room (Nat.le_of_ble_eq_true rfl)) dX4_rangeEnd_2 ⟨(Nat.le_of_ble_eq_true rfl), (Nat.le_of_ble_eq_true rfl)⟩) (fun f915 H locs w => ?_)
  have w : xW G A s [(h0, .inr (8, [.ref h1, .ref h3, .ref h4, .ref h5, .ref h6, .int 0, .ref h7, .ref h8])), (h1, .inr (7, [.ref h2, .ref h9])), (h2, .inr (6, [.ref h10, .int 0]))] H _ := w
  refine lv_aload_n C.1 C.2.1 dX4_rangeEnd_5 rfl (lv_at hl 0 rfl) ?_
  refine x_get (v := .ref h1) C w 0 8 0 (xin_X4 _) rfl rfl (by decide) (List.mem_cons_of_mem _ gw_24) rfl rfl dX4_rangeEnd_6 ?_
  refine lv_iload_n C.1 C.2.1 dX4_rangeEnd_9 rfl (lv_at hl 1 rfl) ?_
  refine lv_iload_n C.1 C.2.1 dX4_rangeEnd_10 rfl (lv_at hl 2 rfl) ?_
  refine x_ki C w [1, 2] [0] rfl rfl (by decide) (by decide) (va_runV (As := [.int (-2147483648), .int 2147483647]) (rest := []) (xfix C) (c132_X3_countIn l G cy sa sv h1 h2 h9 h10 (xtr C) _) (cwV 2 (xhts C) (xgV (maxL := 0) (cc := ⟨#[]⟩) (ret := none) gw_394 gw_395 gw_396 gw_7 gc_X3_countIn) rfl rfl rfl (by decide +kernel) ⟨(Nat.le_of_ble_eq_true rfl), (Nat.le_of_ble_eq_true rfl)⟩) (xPV C w [1, 2] rfl (by decide) (ci := 7) (q0 := 1) rfl rfl) rfl rfl hl.1 rfl (lv_room (Nat.le_of_ble_eq_true rfl)) dX4_rangeEnd_11 ⟨(Nat.le_of_ble_eq_true rfl), (Nat.le_of_ble_eq_true rfl)⟩) (fun f923 H locs w => ?_)
  have w : xW G A s [(h0, .inr (8, [.ref h1, .ref h3, .ref h4, .ref h5, .ref h6, .int 0, .ref h7, .ref h8])), (h1, .inr (7, [.ref h2, .ref h9])), (h2, .inr (6, [.ref h10, .int 0]))] H _ := w
  refine lv_if_ne (tgt := 27) C.1 C.2.1 dX4_rangeEnd_14 (by decide) (fun c9 => absurd (by decide) c9) (fun _ => ?_)
  exact x_thr C w hno hl.1 (by decide) (List.mem_cons_of_mem _ gw_397) (List.mem_cons_of_mem _ gw_398) (tx := "there is no such key") (List.mem_of_getElem? (i := 1) rfl) (xat_161 C (fun w h => List.mem_cons_of_mem _ h)) xatg_161 dX4_rangeEnd_17 dX4_rangeEnd_20 dX4_rangeEnd_21 dX4_rangeEnd_23 dX4_rangeEnd_26 (Nat.le_of_ble_eq_true rfl) (Nat.le_of_ble_eq_true rfl) (Nat.le_of_ble_eq_true rfl) (Nat.le_of_ble_eq_true rfl) rfl rfl (fun _ => 0) rfl
set_option maxHeartbeats 4000000 in
set_option maxRecDepth 100000 in
theorem c138_X4_first (l : Launch) (G : va_G) (cy : Nat → ClassId) (sa : String → Nat → Nat) (sv : Nat → Nat) (h0 h1 h2 h3 h4 h5 h6 h7 h8 h9 h10 : Nat) : xX l G cy sa sv yX4_first (Cond.code yX4_first cX4_first 2 (some .int) :: XG) { frames := 13, cells := 1, slots := 6, locals := 359 } [.ref h0, .int 1] [(h0, .inr (8, [.ref h1, .ref h3, .ref h4, .ref h5, .ref h6, .int 0, .ref h7, .ref h8])), (h1, .inr (7, [.ref h2, .ref h9])), (h2, .inr (6, [.ref h10, .int 0]))] (fun f => [(h0, .inr (8, [.ref h1, .ref h3, .ref h4, .ref h5, .ref h6, .int 0, .ref h7, .ref h8])), (h1, .inr (7, [.ref h2, .ref h9])), (h2, .inr (6, [.ref h10, .int 0]))]) "java/lang/IllegalStateException" := by
  refine xofX (by decide) (Nat.le_of_ble_eq_true rfl) (fun p e s m below meth c A C w hno ls hl => ?_)
  have hl : lv_has ls 2 [(0, .ref h0), (1, .int 1)] := hl
  refine lv_aload_n C.1 C.2.1 dX4_first_0 rfl (lv_at hl 0 rfl) ?_
  refine x_ldc (v := (-2147483648)) C (List.mem_cons_of_mem _ gw_305) dX4_first_1 ?_
  refine x_ldc (v := 2147483647) C (List.mem_cons_of_mem _ gw_306) dX4_first_3 ?_
  refine lv_iload_n C.1 C.2.1 dX4_first_5 rfl (lv_at hl 1 rfl) ?_
  refine x_kx C w [0, 1, 2] [] rfl rfl (by decide) (by decide) (vx_runV (As := [.int (-2147483648), .int 2147483647, .int 1]) (rest := []) (xfix C) (c137_X4_rangeEnd l G cy sa sv h0 h1 h2 h3 h4 h5 h6 h7 h8 h9 h10 (xtr C) _) (cwV 3 (xhts C) (xgV (maxL := 0) (cc := ⟨#[]⟩) (ret := none) gw_400 gw_401 gw_402 gw_2 gc_X4_rangeEnd) rfl rfl rfl (by decide +kernel) ⟨(Nat.le_of_ble_eq_true rfl), (Nat.le_of_ble_eq_true rfl)⟩) (xPV C w [0, 1, 2] rfl (by decide) (ci := 8) (q0 := 0) rfl rfl) rfl rfl hl.1 rfl (lv_room (Nat.le_of_ble_eq_true rfl)) dX4_first_6 ⟨(Nat.le_of_ble_eq_true rfl), (Nat.le_of_ble_eq_true rfl)⟩) (fun f924 H locs ce q9 w hce hcv hcl => ?_)
  have w : xW G A s [(h0, .inr (8, [.ref h1, .ref h3, .ref h4, .ref h5, .ref h6, .int 0, .ref h7, .ref h8])), (h1, .inr (7, [.ref h2, .ref h9])), (h2, .inr (6, [.ref h10, .int 0]))] H _ := w
  refine vx_widen (k := 1) (n := 6) (Nat.le_of_ble_eq_true rfl) (Nat.le_of_ble_eq_true rfl) ?_
  exact x_out C w hno (fun _ => 0) rfl hce hcv hcl (Nat.le_of_ble_eq_true rfl) (Nat.le_of_ble_eq_true rfl)
set_option maxHeartbeats 4000000 in
set_option maxRecDepth 100000 in
theorem c139_L_first (l : Launch) (G : va_G) (cy : Nat → ClassId) (sa : String → Nat → Nat) (sv : Nat → Nat) (h0 h1 h2 h3 h4 h5 h6 h7 h8 h9 h10 h11 : Nat) : xM l G cy sa sv yL_first (Cond.codeWith yL_first cL_first 4 (some .int) [(0, 10, 13, 21)] :: XG) { frames := 14, cells := 1, slots := 6, locals := 380 } [.ref h0, .int 1, .ref h1] [(h0, .inr (8, [.ref h2, .ref h4, .ref h5, .ref h6, .ref h7, .int 0, .ref h8, .ref h9])), (h2, .inr (7, [.ref h3, .ref h10])), (h3, .inr (6, [.ref h11, .int 0]))] (xQi G (fun f => [(h0, .inr (8, [.ref h2, .ref h4, .ref h5, .ref h6, .ref h7, .int 0, .ref h8, .ref h9])), (h2, .inr (7, [.ref h3, .ref h10])), (h3, .inr (6, [.ref h11, .int 0]))]) 1) := by
  refine xofH (by decide) (Nat.le_of_ble_eq_true rfl) (fun p e s m below meth c A C w hr hn hT ls hl => ?_)
  have hl : lv_has ls 4 [(0, .ref h0), (1, .int 1), (2, .ref h1)] := hl
  refine lv_aload_n C.1 C.2.1 dL_first_0 rfl (lv_at hl 2 rfl) ?_
  refine lv_aload_n C.1 C.2.1 dL_first_1 rfl (lv_at hl 0 rfl) ?_
  refine lv_iload_n C.1 C.2.1 dL_first_2 rfl (lv_at hl 1 rfl) ?_
  refine x_kx C w [0, 1, 2] [] rfl rfl (by decide) (by decide) (vx_runV (As := [.int 1]) (rest := [.ref h1]) (xfix C) (c138_X4_first l G cy sa sv h0 h2 h3 h4 h5 h6 h7 h8 h9 h10 h11 (xtr C) _) (cwV 1 (xhts C) (xgV (maxL := 0) (cc := ⟨#[]⟩) (ret := none) gw_404 gw_405 gw_406 gw_2 gc_X4_first) rfl rfl rfl (by decide +kernel) ⟨(Nat.le_of_ble_eq_true rfl), (Nat.le_of_ble_eq_true rfl)⟩) (xPV C w [0, 1, 2] rfl (by decide) (ci := 8) (q0 := 0) rfl rfl) rfl rfl hl.1 rfl (lv_room (Nat.le_of_ble_eq_true rfl)) dL_first_3 ⟨(Nat.le_of_ble_eq_true rfl), (Nat.le_of_ble_eq_true rfl)⟩) (fun f925 H locs ce q9 w hce hcv hcl => ?_)
  have w : xW G A s [(h0, .inr (8, [.ref h2, .ref h4, .ref h5, .ref h6, .ref h7, .int 0, .ref h8, .ref h9])), (h2, .inr (7, [.ref h3, .ref h10])), (h3, .inr (6, [.ref h11, .int 0]))] H _ := w
  refine vx_widen (k := 1) (n := 6) (Nat.le_of_ble_eq_true rfl) (Nat.le_of_ble_eq_true rfl) ?_
  refine vx_catch (xown C) [] ⟨0, 10, 13, 21⟩ [] hT (fun z hz => nomatch hz) (by decide) (by decide) (xhts C _ (List.mem_cons_of_mem _ gw_407)) (va_any rfl (xs_c2 (xS C))) hce hcv hcl ?_
  refine lv_astore_n (lv' := [(3, .ref q9), (0, .ref h0), (1, .int 1), (2, .ref h1)]) C.1 C.2.1 dL_first_13 rfl hl (by decide) rfl (fun ls hl => ?_)
  refine lv_iconst (v := 1) C.1 C.2.1 dL_first_14 (by decide) ?_
  exact x_iret C w hr (fun _ => 0) rfl rfl dL_first_15 (Nat.le_of_ble_eq_true rfl) (Nat.le_of_ble_eq_true rfl)
set_option maxHeartbeats 4000000 in
set_option maxRecDepth 100000 in
theorem c140_X6_first (l : Launch) (G : va_G) (cy : Nat → ClassId) (sa : String → Nat → Nat) (sv : Nat → Nat) (h0 h1 h2 h3 h4 h5 h6 h7 : Nat) : xM l G cy sa sv yX6_first (Cond.code yX6_first cX6_first 2 (some .int) :: XG) { frames := 9, cells := 0, slots := 0, locals := 272 } [.ref h0, .int 1] [(h0, .inr (10, [.ref h1, .ref h2, .ref h3, .ref h4, .ref h5, .ref h6, .ref h7, .int 0, .int 0])), (h1, .inr (3, [.int 0, .ref (sv 0), .int 0]))] (xQi G (fun f => [(h0, .inr (10, [.ref h1, .ref h2, .ref h3, .ref h4, .ref h5, .ref h6, .ref h7, .int 0, .int 1])), (h1, .inr (3, [.int 0, .ref (sv 0), .int 0]))]) 0) := by
  refine xof (by decide) (Nat.le_of_ble_eq_true rfl) (fun p e s m below meth c A C w hr hn ls hl => ?_)
  have hl : lv_has ls 2 [(0, .ref h0), (1, .int 1)] := hl
  refine lv_aload_n C.1 C.2.1 dX6_first_0 rfl (lv_at hl 0 rfl) ?_
  refine lv_aload_n C.1 C.2.1 dX6_first_1 rfl (lv_at hl 0 rfl) ?_
  refine x_get (v := .ref h1) C w 0 10 0 (xin_X6 _) rfl rfl (by decide) (List.mem_cons_of_mem _ gw_78) rfl rfl dX6_first_2 ?_
  refine x_ki C w [1] [0] rfl rfl (by decide) (by decide) (va_runV (As := []) (rest := [.ref h0]) (xfix C) (c47_Jx4a65c_size_8abf5 l G cy sa sv h1 (xtr C) _) (cwV 0 (xhts C) (xgV (maxL := 0) (cc := ⟨#[]⟩) (ret := none) gw_195 gw_196 gw_197 gw_62 gc_Jx4a65c_size_8abf5) rfl rfl rfl (by decide +kernel) ⟨(Nat.le_of_ble_eq_true rfl), (Nat.le_of_ble_eq_true rfl)⟩) (xPV C w [1] rfl (by decide) (ci := 3) (q0 := 1) rfl rfl) rfl rfl hl.1 rfl (lv_room (Nat.le_of_ble_eq_true rfl)) dX6_first_5 ⟨(Nat.le_of_ble_eq_true rfl), (Nat.le_of_ble_eq_true rfl)⟩) (fun f928 H locs w => ?_)
  have w : xW G A s [(h0, .inr (10, [.ref h1, .ref h2, .ref h3, .ref h4, .ref h5, .ref h6, .ref h7, .int 0, .int 0])), (h1, .inr (3, [.int 0, .ref (sv 0), .int 0]))] H _ := w
  refine lv_if_ne (tgt := 15) C.1 C.2.1 dX6_first_8 (by decide) (fun c9 => absurd (by decide) c9) (fun _ => ?_)
  refine lv_iconst (v := 1) C.1 C.2.1 dX6_first_11 (by decide) ?_
  refine lv_goto (tgt := 16) C.1 C.2.1 dX6_first_12 (by decide) ?_
  refine lv_iconst (v := 1) C.1 C.2.1 dX6_first_16 (by decide) ?_
  refine x_ki C w [0] [1] rfl rfl (by decide) (by decide) (va_runV (As := [.int 1, .int 1]) (rest := []) (xfix C) (c17_X6_start l G cy sa sv h0 h1 h2 h3 h4 h5 h6 h7 (xtr C) _) (cwV 2 (xhts C) (xgV (maxL := 0) (cc := ⟨#[]⟩) (ret := none) gw_114 gw_115 gw_116 gw_58 gc_X6_start) rfl rfl rfl (by decide +kernel) ⟨(Nat.le_of_ble_eq_true rfl), (Nat.le_of_ble_eq_true rfl)⟩) (xPV C w [0] rfl (by decide) (ci := 10) (q0 := 0) rfl rfl) rfl rfl hl.1 rfl (lv_room (Nat.le_of_ble_eq_true rfl)) dX6_first_17 ⟨(Nat.le_of_ble_eq_true rfl), (Nat.le_of_ble_eq_true rfl)⟩) (fun f929 H locs w => ?_)
  have w : xW G A s [(h1, .inr (3, [.int 0, .ref (sv 0), .int 0])), (h0, .inr (10, [.ref h1, .ref h2, .ref h3, .ref h4, .ref h5, .ref h6, .ref h7, .int 0, .int 1]))] H _ := w
  refine lv_if_eq (tgt := 27) C.1 C.2.1 dX6_first_20 (by decide) (fun c9 => absurd c9 (by decide)) (fun _ => ?_)
  refine lv_iconst (v := 0) C.1 C.2.1 dX6_first_23 (by decide) ?_
  refine lv_goto (tgt := 35) C.1 C.2.1 dX6_first_24 (by decide) ?_
  have w := w.sub (ws' := [(h0, .inr (10, [.ref h1, .ref h2, .ref h3, .ref h4, .ref h5, .ref h6, .ref h7, .int 0, .int 1])), (h1, .inr (3, [.int 0, .ref (sv 0), .int 0]))]) [1, 0] (by decide) rfl rfl
  exact x_iret C w hr (fun _ => 0) rfl rfl dX6_first_35 (Nat.le_of_ble_eq_true rfl) (Nat.le_of_ble_eq_true rfl)
set_option maxHeartbeats 4000000 in
set_option maxRecDepth 100000 in
theorem c141_X4_checkHow (l : Launch) (G : va_G) (cy : Nat → ClassId) (sa : String → Nat → Nat) (sv : Nat → Nat) : xM l G cy sa sv yX4_checkHow (Cond.code yX4_checkHow cX4_checkHow 1 none :: XG) { frames := 8, cells := 0, slots := 0, locals := 250 } [.int 0] [] (xQv G (fun f => [])) := by
  refine xof (by decide) (Nat.le_of_ble_eq_true rfl) (fun p e s m below meth c A C w hr hn ls hl => ?_)
  have hl : lv_has ls 1 [(0, .int 0)] := hl
  refine lv_iload_n C.1 C.2.1 dX4_checkHow_0 rfl (lv_at hl 0 rfl) ?_
  refine lv_if_lt (tgt := 9) C.1 C.2.1 dX4_checkHow_1 (by decide) (fun c9 => absurd c9 (by decide)) (fun _ => ?_)
  refine lv_iload_n C.1 C.2.1 dX4_checkHow_4 rfl (lv_at hl 0 rfl) ?_
  refine lv_iconst (v := 3) C.1 C.2.1 dX4_checkHow_5 (by decide) ?_
  refine lv_icmp_le (tgt := 20) C.1 C.2.1 dX4_checkHow_6 (by decide) (fun _ => ?_) (fun c9 => absurd (by decide) c9)
  exact x_vret C w hr (fun _ => 0) rfl dX4_checkHow_20 (Nat.le_of_ble_eq_true rfl) (Nat.le_of_ble_eq_true rfl)
set_option maxHeartbeats 4000000 in
set_option maxRecDepth 100000 in
theorem c142_X4_isBetween (l : Launch) (G : va_G) (cy : Nat → ClassId) (sa : String → Nat → Nat) (sv : Nat → Nat) : xM l G cy sa sv yX4_isBetween (Cond.code yX4_isBetween cX4_isBetween 3 (some .boolean) :: XG) { frames := 8, cells := 0, slots := 0, locals := 250 } [.int 0, .int (-1), .int (-1)] [] (xQi G (fun f => []) 0) := by
  refine xof (by decide) (Nat.le_of_ble_eq_true rfl) (fun p e s m below meth c A C w hr hn ls hl => ?_)
  have hl : lv_has ls 3 [(0, .int 0), (1, .int (-1)), (2, .int (-1))] := hl
  refine lv_iload_n C.1 C.2.1 dX4_isBetween_0 rfl (lv_at hl 0 rfl) ?_
  refine lv_iload_n C.1 C.2.1 dX4_isBetween_1 rfl (lv_at hl 2 rfl) ?_
  refine lv_icmp_gt (tgt := 14) C.1 C.2.1 dX4_isBetween_2 (by decide) (fun _ => ?_) (fun c9 => absurd (by decide) c9)
  refine lv_iconst (v := 0) C.1 C.2.1 dX4_isBetween_14 (by decide) ?_
  exact x_zret C w hr rfl (fun _ => 0) rfl rfl dX4_isBetween_15 (Nat.le_of_ble_eq_true rfl) (Nat.le_of_ble_eq_true rfl)
set_option maxHeartbeats 4000000 in
set_option maxRecDepth 100000 in
theorem c143_X3_placeNear (l : Launch) (G : va_G) (cy : Nat → ClassId) (sa : String → Nat → Nat) (sv : Nat → Nat) (h0 h1 h2 h3 : Nat) (v0 : Int32) : xM l G cy sa sv yX3_placeNear (Cond.code yX3_placeNear cX3_placeNear 8 (some .int) :: XG) { frames := 11, cells := 0, slots := 0, locals := 314 } [.ref h0, .int (-2147483648), .int 2147483647, .int v0, .int 0] [(h0, .inr (7, [.ref h1, .ref h2])), (h1, .inr (6, [.ref h3, .int 0]))] (xQi G (fun f => [(h0, .inr (7, [.ref h1, .ref h2])), (h1, .inr (6, [.ref h3, .int 0]))]) (-1)) := by
  refine xof (by decide) (Nat.le_of_ble_eq_true rfl) (fun p e s m below meth c A C w hr hn ls hl => ?_)
  have hl : lv_has ls 8 [(0, .ref h0), (1, .int (-2147483648)), (2, .int 2147483647), (3, .int v0), (4, .int 0)] := hl
  refine lv_aload_n C.1 C.2.1 dX3_placeNear_0 rfl (lv_at hl 0 rfl) ?_
  refine lv_iload_n C.1 C.2.1 dX3_placeNear_1 rfl (lv_at hl 1 rfl) ?_
  refine x_ki C w [0, 1] [] rfl rfl (by decide) (by decide) (va_runV (As := [.int (-2147483648)]) (rest := []) (xfix C) (c110_X3_countBelow l G cy sa sv h0 h1 h2 h3 (xtr C) _) (cwV 1 (xhts C) (xgV (maxL := 0) (cc := ⟨#[]⟩) (ret := none) gw_158 gw_159 gw_160 gw_7 gc_X3_countBelow) rfl rfl rfl (by decide +kernel) ⟨(Nat.le_of_ble_eq_true rfl), (Nat.le_of_ble_eq_true rfl)⟩) (xPV C w [0, 1] rfl (by decide) (ci := 7) (q0 := 0) rfl rfl) rfl rfl hl.1 rfl (lv_room (Nat.le_of_ble_eq_true rfl)) dX3_placeNear_2 ⟨(Nat.le_of_ble_eq_true rfl), (Nat.le_of_ble_eq_true rfl)⟩) (fun f938 H locs w => ?_)
  have w : xW G A s [(h0, .inr (7, [.ref h1, .ref h2])), (h1, .inr (6, [.ref h3, .int 0]))] H _ := w
  refine lv_istore (lv' := [(5, .int 0), (0, .ref h0), (1, .int (-2147483648)), (2, .int 2147483647), (3, .int v0), (4, .int 0)]) C.1 C.2.1 dX3_placeNear_5 hl (by decide) rfl (fun ls hl => ?_)
  refine lv_aload_n C.1 C.2.1 dX3_placeNear_7 rfl (lv_at hl 1 rfl) ?_
  refine lv_iload_n C.1 C.2.1 dX3_placeNear_8 rfl (lv_at hl 3 rfl) ?_
  refine x_ki C w [0, 1] [] rfl rfl (by decide) (by decide) (va_runV (As := [.int 2147483647]) (rest := []) (xfix C) (c108_X3_countNotAbove l G cy sa sv h0 h1 h2 h3 (xtr C) _) (cwV 1 (xhts C) (xgV (maxL := 0) (cc := ⟨#[]⟩) (ret := none) gw_392 gw_309 gw_310 gw_7 gc_X3_countNotAbove) rfl rfl rfl (by decide +kernel) ⟨(Nat.le_of_ble_eq_true rfl), (Nat.le_of_ble_eq_true rfl)⟩) (xPV C w [0, 1] rfl (by decide) (ci := 7) (q0 := 0) rfl rfl) rfl rfl hl.1 rfl (lv_room (Nat.le_of_ble_eq_true rfl)) dX3_placeNear_9 ⟨(Nat.le_of_ble_eq_true rfl), (Nat.le_of_ble_eq_true rfl)⟩) (fun f943 H locs w => ?_)
  have w : xW G A s [(h0, .inr (7, [.ref h1, .ref h2])), (h1, .inr (6, [.ref h3, .int 0]))] H _ := w
  refine lv_iconst (v := 1) C.1 C.2.1 dX3_placeNear_12 (by decide) ?_
  refine lv_isub C.1 C.2.1 dX3_placeNear_13 ?_
  refine x_is (y := (-1)) (by decide) ?_
  refine lv_istore (lv' := [(6, .int (-1)), (5, .int 0), (0, .ref h0), (1, .int (-2147483648)), (2, .int 2147483647), (3, .int v0), (4, .int 0)]) C.1 C.2.1 dX3_placeNear_14 hl (by decide) rfl (fun ls hl => ?_)
  refine lv_iload C.1 C.2.1 dX3_placeNear_16 (lv_at hl 6 rfl) ?_
  refine lv_tableIn (off := 26) (tgt := 44) C.1 C.2.1 dX3_placeNear_18 (by decide) (by decide) (by decide) (by decide) ?_
  refine lv_aload_n C.1 C.2.1 dX3_placeNear_44 rfl (lv_at hl 2 rfl) ?_
  refine lv_iload_n C.1 C.2.1 dX3_placeNear_45 rfl (lv_at hl 5 rfl) ?_
  refine x_ki C w [0, 1] [] rfl rfl (by decide) (by decide) (va_runV (As := [.int v0]) (rest := []) (xfix C) (c31_X3_countBelow l G cy sa sv h0 h1 h2 h3 v0 (xtr C) _) (cwV 1 (xhts C) (xgV (maxL := 0) (cc := ⟨#[]⟩) (ret := none) gw_158 gw_159 gw_160 gw_7 gc_X3_countBelow) rfl rfl rfl (by decide +kernel) ⟨(Nat.le_of_ble_eq_true rfl), (Nat.le_of_ble_eq_true rfl)⟩) (xPV C w [0, 1] rfl (by decide) (ci := 7) (q0 := 0) rfl rfl) rfl rfl hl.1 rfl (lv_room (Nat.le_of_ble_eq_true rfl)) dX3_placeNear_46 ⟨(Nat.le_of_ble_eq_true rfl), (Nat.le_of_ble_eq_true rfl)⟩) (fun f945 H locs w => ?_)
  have w : xW G A s [(h0, .inr (7, [.ref h1, .ref h2])), (h1, .inr (6, [.ref h3, .int 0]))] H _ := w
  refine lv_iconst (v := 1) C.1 C.2.1 dX3_placeNear_49 (by decide) ?_
  refine lv_isub C.1 C.2.1 dX3_placeNear_50 ?_
  refine x_is (y := (-1)) (by decide) ?_
  refine lv_iload C.1 C.2.1 dX3_placeNear_51 (lv_at hl 0 rfl) ?_
  refine va_mmin C.1 C.2.1 (C.2.2.1.trans hl.1.symm) (xown C) (xhts C _ (List.mem_cons_of_mem _ gw_419)) (xhts C _ (List.mem_cons_of_mem _ gw_420)) (xhts C _ (List.mem_cons_of_mem _ gw_217)) (xhts C _ (List.mem_cons_of_mem _ gm_min)) (Nat.le_of_ble_eq_true rfl) (Nat.le_of_ble_eq_true rfl) (Nat.le_of_ble_eq_true rfl) (Nat.le_of_ble_eq_true rfl) dX3_placeNear_53 ?_
  refine x_is (y := (-1)) (if_neg (by decide)) ?_
  refine lv_istore (lv' := [(7, .int (-1)), (6, .int (-1)), (5, .int 0), (0, .ref h0), (1, .int (-2147483648)), (2, .int 2147483647), (3, .int v0), (4, .int 0)]) C.1 C.2.1 dX3_placeNear_56 hl (by decide) rfl (fun ls hl => ?_)
  refine lv_goto (tgt := 105) C.1 C.2.1 dX3_placeNear_58 (by decide) ?_
  refine lv_iload C.1 C.2.1 dX3_placeNear_105 (lv_at hl 2 rfl) ?_
  refine lv_iload C.1 C.2.1 dX3_placeNear_107 (lv_at hl 1 rfl) ?_
  refine lv_iload C.1 C.2.1 dX3_placeNear_109 (lv_at hl 0 rfl) ?_
  refine x_ki C w [] [0, 1] rfl rfl (by decide) (by decide) (va_runSN (As := [.int 0, .int (-1), .int (-1)]) (rest := []) (xfix C) (c142_X4_isBetween l G cy sa sv (xtr C) _) ⟨(va_cnB 3 (xhts C) (xgI gc_X4_isBetween) rfl rfl rfl (xs_mB (xS C)) (xhts C _ (List.mem_cons_of_mem _ gw_2)) (by decide +kernel) ⟨(Nat.le_of_ble_eq_true rfl), (Nat.le_of_ble_eq_true rfl)⟩), xhts C _ (List.mem_cons_of_mem _ gw_422), trivial⟩ (xPS C w [] rfl (by decide)) rfl rfl hl.1 rfl (lv_room (Nat.le_of_ble_eq_true rfl)) dX3_placeNear_111 ⟨(Nat.le_of_ble_eq_true rfl), (Nat.le_of_ble_eq_true rfl)⟩) (fun f946 H locs w => ?_)
  have w : xW G A s [(h0, .inr (7, [.ref h1, .ref h2])), (h1, .inr (6, [.ref h3, .int 0]))] H _ := w
  refine lv_if_eq (tgt := 122) C.1 C.2.1 dX3_placeNear_114 (by decide) (fun _ => ?_) (fun c9 => absurd (by decide) c9)
  refine lv_iconst (v := (-1)) C.1 C.2.1 dX3_placeNear_122 (by decide) ?_
  exact x_iret C w hr (fun _ => 0) rfl rfl dX3_placeNear_123 (Nat.le_of_ble_eq_true rfl) (Nat.le_of_ble_eq_true rfl)
