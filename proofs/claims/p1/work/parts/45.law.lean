set_option maxHeartbeats 8000000 in
set_option maxRecDepth 100000 in
theorem law_20_41 {p : Program} {e : Env} {s : State} {m : MethodId} {below : List Frame} {meth : Method} {c : Code} {l : Launch} {G : va_G} {cy : Nat → ClassId} {sa : String → Nat → Nat} {sv : Nat → Nat} {A : Nat → Prop} {b : Nat} {xs : Nat → Int32} {a : Nat → Nat} {H : Heap} {locs : List Loc} {ls : Array Slot} (C : xC p l s m #[Value.ref b] meth c code 7 "TwinindexLaw" (Cond.initialized "TwinindexLaw" :: XG) G cy sa sv A) (hr : meth.sig.returnType = ret) (hX : va_X b 5 xs s s.heap) (hbl : b < s.heap.size) (hbA : ¬ A b) (hAl : ∀ q, A q → s.heap.size ≤ q) (w : xW G A s (xW0 cy sv a) H locs) (hl : lv_has ls 7 [(4, .int 0), (3, .ref (a 39)), (2, .ref (a 31)), (1, .ref (a 0)), (0, .ref b)]) (hk : ((xs 0) &&& 63) = 20) : W p l e room_1 s m #[Value.ref b] below meth c H locs 40 1536 (lw_Z below #[Value.ref b] s) (F0 m 27 ls []) := by
  have w : xW G A s [((a 0), .inr (8, [.ref (a 1), .ref (a 6), .ref (a 8), .ref (a 15), .ref (a 20), .int 0, .ref (a 24), .ref (a 26)])), ((a 1), .inr (7, [.ref (a 2), .ref (a 4)])), ((a 2), .inr (6, [.ref (a 3), .int 0])), ((a 3), .inl (cy 1, 24, .inl (fun _ => 0))), ((a 4), .inr (6, [.ref (a 5), .int 0])), ((a 5), .inl (cy 1, 24, .inl (fun _ => 0))), ((a 6), .inr (6, [.ref (a 7), .int 0])), ((a 7), .inl (cy 1, 24, .inl (fun _ => 0))), ((a 8), .inr (5, [.ref (a 9), .ref (a 11), .ref (a 13), .int 0])), ((a 9), .inr (6, [.ref (a 10), .int 0])), ((a 10), .inl (cy 1, 624, .inl (fun _ => 0))), ((a 11), .inr (6, [.ref (a 12), .int 0])), ((a 12), .inl (cy 1, 624, .inl (fun _ => 0))), ((a 13), .inr (6, [.ref (a 14), .int 0])), ((a 14), .inl (cy 1, 12, .inl (fun _ => 0))), ((a 15), .inr (7, [.ref (a 16), .ref (a 18)])), ((a 16), .inr (6, [.ref (a 17), .int 0])), ((a 17), .inl (cy 1, 24, .inl (fun _ => 0))), ((a 18), .inr (6, [.ref (a 19), .int 0])), ((a 19), .inl (cy 1, 24, .inl (fun _ => 0))), ((a 20), .inl (cy 3, 3, .inr (.inr (.inr (.inr (va_up (va_up (va_up (fun _ => none) 0 (some (a 21))) 1 (some (a 22))) 2 (some (a 23)))))))), ((a 21), .inr (4, [.int 0, .int 0, .int 0])), ((a 22), .inr (4, [.int 0, .int 0, .int 0])), ((a 23), .inr (4, [.int 0, .int 0, .int 0])), ((a 24), .inr (6, [.ref (a 25), .int 0])), ((a 25), .inl (cy 1, 24, .inl (fun _ => 0))), ((a 26), .inr (7, [.ref (a 27), .ref (a 29)])), ((a 27), .inr (6, [.ref (a 28), .int 0])), ((a 28), .inl (cy 1, 24, .inl (fun _ => 0))), ((a 29), .inr (6, [.ref (a 30), .int 0])), ((a 30), .inl (cy 1, 24, .inl (fun _ => 0))), ((a 31), .inr (10, [.ref (a 32), .ref (a 33), .ref (a 34), .ref (a 35), .ref (a 36), .ref (a 37), .ref (a 38), .int 0, .int 0])), ((a 32), .inr (3, [.int 0, .ref (sv 0), .int 0])), ((a 33), .inr (3, [.int 0, .ref (sv 0), .int 0])), ((a 34), .inr (3, [.int 0, .ref (sv 0), .int 0])), ((a 35), .inr (3, [.int 0, .ref (sv 0), .int 0])), ((a 36), .inl (cy 2, 3, .inl (fun _ => 0))), ((a 37), .inl (cy 1, 3, .inl (fun _ => 0))), ((a 38), .inl (cy 1, 3, .inl (fun _ => 0))), ((a 39), .inr (9, [.long 0, .null]))] H _ := w
  refine lv_iload C.1 C.2.1 dL_law_27 (lv_at hl 0 rfl) ?_
  refine lv_aload_n C.1 C.2.1 dL_law_29 rfl (lv_at hl 4 rfl) ?_
  refine va_slen C.1 C.2.1 hX hbl hbA w.2.2 dL_law_30 ?_
  refine x_is (y := 5) (by decide) ?_
  refine lv_iconst (v := 5) C.1 C.2.1 dL_law_31 (by decide) ?_
  refine lv_isub C.1 C.2.1 dL_law_32 ?_
  refine x_is (y := 0) (by decide) ?_
  refine lv_icmp_gt (tgt := 2515) C.1 C.2.1 dL_law_33 (by decide) (fun c9 => absurd c9 (by decide)) (fun _ => ?_)
  refine lv_aload_n C.1 C.2.1 dL_law_36 rfl (lv_at hl 4 rfl) ?_
  refine lv_iload C.1 C.2.1 dL_law_37 (lv_at hl 0 rfl) ?_
  refine va_sld C.1 C.2.1 hX hbl hbA w.2.2 (xvin (by decide)) dL_law_39 ?_
  refine x_is (y := (xs 0)) (by rfl) ?_
  refine lv_bipush (v := 63) C.1 C.2.1 dL_law_40 (by decide) ?_
  refine lv_iand C.1 C.2.1 dL_law_42 ?_
  refine x_is (y := 20) hk ?_
  refine lv_tableIn (off := 1093) (tgt := 1136) C.1 C.2.1 dL_law_43 (by decide) (by decide) (by decide) (by decide) ?_
  refine lv_aload_n C.1 C.2.1 dL_law_1136 rfl (lv_at hl 3 rfl) ?_
  refine x_ki C w [0, 1, 2] [3, 4, 5, 6, 7, 8, 9, 10, 11, 12, 13, 14, 15, 16, 17, 18, 19, 20, 21, 22, 23, 24, 25, 26, 27, 28, 29, 30, 31, 32, 33, 34, 35, 36, 37, 38, 39] rfl rfl (by decide) (by decide) (va_runV (As := []) (rest := []) (xfix C) (c293_X4_hash l G cy sa sv (a 0) (a 1) (a 2) (a 6) (a 8) (a 15) (a 20) (a 24) (a 26) (a 4) (a 3) (xtr C) _) (cwV 0 (xhts C) (xgV (maxL := 0) (cc := ⟨#[]⟩) (ret := none) gw_654 gw_655 gw_656 gw_2 gc_X4_hash) rfl rfl rfl (by decide +kernel) ⟨(Nat.le_of_ble_eq_true rfl), (Nat.le_of_ble_eq_true rfl)⟩) (xPV C w [0, 1, 2] rfl (by decide) (ci := 8) (q0 := 0) rfl rfl) rfl rfl hl.1 rfl (lv_room (Nat.le_of_ble_eq_true rfl)) dL_law_1137 ⟨(Nat.le_of_ble_eq_true rfl), (Nat.le_of_ble_eq_true rfl)⟩) (fun f1670 H locs w => ?_)
  have w : xW G A s [((a 3), .inl (cy 1, 24, .inl (fun _ => 0))), ((a 4), .inr (6, [.ref (a 5), .int 0])), ((a 5), .inl (cy 1, 24, .inl (fun _ => 0))), ((a 6), .inr (6, [.ref (a 7), .int 0])), ((a 7), .inl (cy 1, 24, .inl (fun _ => 0))), ((a 8), .inr (5, [.ref (a 9), .ref (a 11), .ref (a 13), .int 0])), ((a 9), .inr (6, [.ref (a 10), .int 0])), ((a 10), .inl (cy 1, 624, .inl (fun _ => 0))), ((a 11), .inr (6, [.ref (a 12), .int 0])), ((a 12), .inl (cy 1, 624, .inl (fun _ => 0))), ((a 13), .inr (6, [.ref (a 14), .int 0])), ((a 14), .inl (cy 1, 12, .inl (fun _ => 0))), ((a 15), .inr (7, [.ref (a 16), .ref (a 18)])), ((a 16), .inr (6, [.ref (a 17), .int 0])), ((a 17), .inl (cy 1, 24, .inl (fun _ => 0))), ((a 18), .inr (6, [.ref (a 19), .int 0])), ((a 19), .inl (cy 1, 24, .inl (fun _ => 0))), ((a 20), .inl (cy 3, 3, .inr (.inr (.inr (.inr (va_up (va_up (va_up (fun _ => none) 0 (some (a 21))) 1 (some (a 22))) 2 (some (a 23)))))))), ((a 21), .inr (4, [.int 0, .int 0, .int 0])), ((a 22), .inr (4, [.int 0, .int 0, .int 0])), ((a 23), .inr (4, [.int 0, .int 0, .int 0])), ((a 24), .inr (6, [.ref (a 25), .int 0])), ((a 25), .inl (cy 1, 24, .inl (fun _ => 0))), ((a 26), .inr (7, [.ref (a 27), .ref (a 29)])), ((a 27), .inr (6, [.ref (a 28), .int 0])), ((a 28), .inl (cy 1, 24, .inl (fun _ => 0))), ((a 29), .inr (6, [.ref (a 30), .int 0])), ((a 30), .inl (cy 1, 24, .inl (fun _ => 0))), ((a 31), .inr (10, [.ref (a 32), .ref (a 33), .ref (a 34), .ref (a 35), .ref (a 36), .ref (a 37), .ref (a 38), .int 0, .int 0])), ((a 32), .inr (3, [.int 0, .ref (sv 0), .int 0])), ((a 33), .inr (3, [.int 0, .ref (sv 0), .int 0])), ((a 34), .inr (3, [.int 0, .ref (sv 0), .int 0])), ((a 35), .inr (3, [.int 0, .ref (sv 0), .int 0])), ((a 36), .inl (cy 2, 3, .inl (fun _ => 0))), ((a 37), .inl (cy 1, 3, .inl (fun _ => 0))), ((a 38), .inl (cy 1, 3, .inl (fun _ => 0))), ((a 39), .inr (9, [.long 0, .null])), ((a 0), .inr (8, [.ref (a 1), .ref (a 6), .ref (a 8), .ref (a 15), .ref (a 20), .int 0, .ref (a 24), .ref (a 26)])), ((a 1), .inr (7, [.ref (a 2), .ref (a 4)])), ((a 2), .inr (6, [.ref (a 3), .int 0]))] H _ := w
  refine lv_aload_n C.1 C.2.1 dL_law_1140 rfl (lv_at hl 2 rfl) ?_
  refine x_ki C w [28, 29] [0, 1, 2, 3, 4, 5, 6, 7, 8, 9, 10, 11, 12, 13, 14, 15, 16, 17, 18, 19, 20, 21, 22, 23, 24, 25, 26, 27, 30, 31, 32, 33, 34, 35, 36, 37, 38, 39] rfl rfl (by decide) (by decide) (va_runV (As := []) (rest := [.int 0]) (xfix C) (c295_X6_hash l G cy sa sv (a 31) (a 32) (a 33) (a 34) (a 35) (a 36) (a 37) (a 38) (xtr C) _) (cwV 0 (xhts C) (xgV (maxL := 0) (cc := ⟨#[]⟩) (ret := none) gw_662 gw_663 gw_664 gw_58 gc_X6_hash) rfl rfl rfl (by decide +kernel) ⟨(Nat.le_of_ble_eq_true rfl), (Nat.le_of_ble_eq_true rfl)⟩) (xPV C w [28, 29] rfl (by decide) (ci := 10) (q0 := 28) rfl rfl) rfl rfl hl.1 rfl (lv_room (Nat.le_of_ble_eq_true rfl)) dL_law_1141 ⟨(Nat.le_of_ble_eq_true rfl), (Nat.le_of_ble_eq_true rfl)⟩) (fun f1673 H locs w => ?_)
  have w : xW G A s [((a 3), .inl (cy 1, 24, .inl (fun _ => 0))), ((a 4), .inr (6, [.ref (a 5), .int 0])), ((a 5), .inl (cy 1, 24, .inl (fun _ => 0))), ((a 6), .inr (6, [.ref (a 7), .int 0])), ((a 7), .inl (cy 1, 24, .inl (fun _ => 0))), ((a 8), .inr (5, [.ref (a 9), .ref (a 11), .ref (a 13), .int 0])), ((a 9), .inr (6, [.ref (a 10), .int 0])), ((a 10), .inl (cy 1, 624, .inl (fun _ => 0))), ((a 11), .inr (6, [.ref (a 12), .int 0])), ((a 12), .inl (cy 1, 624, .inl (fun _ => 0))), ((a 13), .inr (6, [.ref (a 14), .int 0])), ((a 14), .inl (cy 1, 12, .inl (fun _ => 0))), ((a 15), .inr (7, [.ref (a 16), .ref (a 18)])), ((a 16), .inr (6, [.ref (a 17), .int 0])), ((a 17), .inl (cy 1, 24, .inl (fun _ => 0))), ((a 18), .inr (6, [.ref (a 19), .int 0])), ((a 19), .inl (cy 1, 24, .inl (fun _ => 0))), ((a 20), .inl (cy 3, 3, .inr (.inr (.inr (.inr (va_up (va_up (va_up (fun _ => none) 0 (some (a 21))) 1 (some (a 22))) 2 (some (a 23)))))))), ((a 21), .inr (4, [.int 0, .int 0, .int 0])), ((a 22), .inr (4, [.int 0, .int 0, .int 0])), ((a 23), .inr (4, [.int 0, .int 0, .int 0])), ((a 24), .inr (6, [.ref (a 25), .int 0])), ((a 25), .inl (cy 1, 24, .inl (fun _ => 0))), ((a 26), .inr (7, [.ref (a 27), .ref (a 29)])), ((a 27), .inr (6, [.ref (a 28), .int 0])), ((a 28), .inl (cy 1, 24, .inl (fun _ => 0))), ((a 29), .inr (6, [.ref (a 30), .int 0])), ((a 30), .inl (cy 1, 24, .inl (fun _ => 0))), ((a 33), .inr (3, [.int 0, .ref (sv 0), .int 0])), ((a 34), .inr (3, [.int 0, .ref (sv 0), .int 0])), ((a 35), .inr (3, [.int 0, .ref (sv 0), .int 0])), ((a 36), .inl (cy 2, 3, .inl (fun _ => 0))), ((a 37), .inl (cy 1, 3, .inl (fun _ => 0))), ((a 38), .inl (cy 1, 3, .inl (fun _ => 0))), ((a 39), .inr (9, [.long 0, .null])), ((a 0), .inr (8, [.ref (a 1), .ref (a 6), .ref (a 8), .ref (a 15), .ref (a 20), .int 0, .ref (a 24), .ref (a 26)])), ((a 1), .inr (7, [.ref (a 2), .ref (a 4)])), ((a 2), .inr (6, [.ref (a 3), .int 0])), ((a 31), .inr (10, [.ref (a 32), .ref (a 33), .ref (a 34), .ref (a 35), .ref (a 36), .ref (a 37), .ref (a 38), .int 0, .int 0])), ((a 32), .inr (3, [.int 0, .ref (sv 0), .int 0]))] H _ := w
  refine lv_icmp_eq (tgt := 2509) C.1 C.2.1 dL_law_1144 (by decide) (fun _ => ?_) (fun c9 => absurd (by decide) c9)
  refine lv_iinc (v := 5) (lv' := [(4, .int 5), (3, .ref (a 39)), (2, .ref (a 31)), (1, .ref (a 0)), (0, .ref b)]) C.1 C.2.1 dL_law_2509 hl (k := 0) rfl (by decide) (by decide) rfl (fun ls hl => ?_)
  refine lv_goto (tgt := 27) C.1 C.2.1 dL_law_2512 (by decide) ?_
  refine lv_iload C.1 C.2.1 dL_law_27 (lv_at hl 0 rfl) ?_
  refine lv_aload_n C.1 C.2.1 dL_law_29 rfl (lv_at hl 4 rfl) ?_
  refine va_slen C.1 C.2.1 hX hbl hbA w.2.2 dL_law_30 ?_
  refine x_is (y := 5) (by decide) ?_
  refine lv_iconst (v := 5) C.1 C.2.1 dL_law_31 (by decide) ?_
  refine lv_isub C.1 C.2.1 dL_law_32 ?_
  refine x_is (y := 0) (by decide) ?_
  refine lv_icmp_gt (tgt := 2515) C.1 C.2.1 dL_law_33 (by decide) (fun _ => ?_) (fun c9 => absurd (by decide) c9)
  refine lv_iconst (v := 1) C.1 C.2.1 dL_law_2515 (by decide) ?_
  refine va_forget (fun q hq => hAl _ (w.2.2.2.2 q hq)) ?_
  refine W.widen (k := 600002) (n := 7302232) (Nat.le_of_ble_eq_true rfl) (Nat.le_of_ble_eq_true rfl) ?_
  exact lw_ret C.1 C.2.1 hr (xlk C) dL_law_2516
set_option maxHeartbeats 8000000 in
set_option maxRecDepth 100000 in
theorem law_21_42 {p : Program} {e : Env} {s : State} {m : MethodId} {below : List Frame} {meth : Method} {c : Code} {l : Launch} {G : va_G} {cy : Nat → ClassId} {sa : String → Nat → Nat} {sv : Nat → Nat} {A : Nat → Prop} {b : Nat} {xs : Nat → Int32} {a : Nat → Nat} {H : Heap} {locs : List Loc} {ls : Array Slot} (C : xC p l s m #[Value.ref b] meth c code 7 "TwinindexLaw" (Cond.initialized "TwinindexLaw" :: XG) G cy sa sv A) (hr : meth.sig.returnType = ret) (hX : va_X b 5 xs s s.heap) (hbl : b < s.heap.size) (hbA : ¬ A b) (hAl : ∀ q, A q → s.heap.size ≤ q) (w : xW G A s (xW0 cy sv a) H locs) (hl : lv_has ls 7 [(4, .int 0), (3, .ref (a 39)), (2, .ref (a 31)), (1, .ref (a 0)), (0, .ref b)]) (hk : ((xs 0) &&& 63) = 21) (p0 : (xs 1) ≤ (xs 2)) : W p l e room_1 s m #[Value.ref b] below meth c H locs 40 1536 (lw_Z below #[Value.ref b] s) (F0 m 27 ls []) := by
  have w : xW G A s [((a 0), .inr (8, [.ref (a 1), .ref (a 6), .ref (a 8), .ref (a 15), .ref (a 20), .int 0, .ref (a 24), .ref (a 26)])), ((a 1), .inr (7, [.ref (a 2), .ref (a 4)])), ((a 2), .inr (6, [.ref (a 3), .int 0])), ((a 3), .inl (cy 1, 24, .inl (fun _ => 0))), ((a 4), .inr (6, [.ref (a 5), .int 0])), ((a 5), .inl (cy 1, 24, .inl (fun _ => 0))), ((a 6), .inr (6, [.ref (a 7), .int 0])), ((a 7), .inl (cy 1, 24, .inl (fun _ => 0))), ((a 8), .inr (5, [.ref (a 9), .ref (a 11), .ref (a 13), .int 0])), ((a 9), .inr (6, [.ref (a 10), .int 0])), ((a 10), .inl (cy 1, 624, .inl (fun _ => 0))), ((a 11), .inr (6, [.ref (a 12), .int 0])), ((a 12), .inl (cy 1, 624, .inl (fun _ => 0))), ((a 13), .inr (6, [.ref (a 14), .int 0])), ((a 14), .inl (cy 1, 12, .inl (fun _ => 0))), ((a 15), .inr (7, [.ref (a 16), .ref (a 18)])), ((a 16), .inr (6, [.ref (a 17), .int 0])), ((a 17), .inl (cy 1, 24, .inl (fun _ => 0))), ((a 18), .inr (6, [.ref (a 19), .int 0])), ((a 19), .inl (cy 1, 24, .inl (fun _ => 0))), ((a 20), .inl (cy 3, 3, .inr (.inr (.inr (.inr (va_up (va_up (va_up (fun _ => none) 0 (some (a 21))) 1 (some (a 22))) 2 (some (a 23)))))))), ((a 21), .inr (4, [.int 0, .int 0, .int 0])), ((a 22), .inr (4, [.int 0, .int 0, .int 0])), ((a 23), .inr (4, [.int 0, .int 0, .int 0])), ((a 24), .inr (6, [.ref (a 25), .int 0])), ((a 25), .inl (cy 1, 24, .inl (fun _ => 0))), ((a 26), .inr (7, [.ref (a 27), .ref (a 29)])), ((a 27), .inr (6, [.ref (a 28), .int 0])), ((a 28), .inl (cy 1, 24, .inl (fun _ => 0))), ((a 29), .inr (6, [.ref (a 30), .int 0])), ((a 30), .inl (cy 1, 24, .inl (fun _ => 0))), ((a 31), .inr (10, [.ref (a 32), .ref (a 33), .ref (a 34), .ref (a 35), .ref (a 36), .ref (a 37), .ref (a 38), .int 0, .int 0])), ((a 32), .inr (3, [.int 0, .ref (sv 0), .int 0])), ((a 33), .inr (3, [.int 0, .ref (sv 0), .int 0])), ((a 34), .inr (3, [.int 0, .ref (sv 0), .int 0])), ((a 35), .inr (3, [.int 0, .ref (sv 0), .int 0])), ((a 36), .inl (cy 2, 3, .inl (fun _ => 0))), ((a 37), .inl (cy 1, 3, .inl (fun _ => 0))), ((a 38), .inl (cy 1, 3, .inl (fun _ => 0))), ((a 39), .inr (9, [.long 0, .null]))] H _ := w
  refine lv_iload C.1 C.2.1 dL_law_27 (lv_at hl 0 rfl) ?_
  refine lv_aload_n C.1 C.2.1 dL_law_29 rfl (lv_at hl 4 rfl) ?_
  refine va_slen C.1 C.2.1 hX hbl hbA w.2.2 dL_law_30 ?_
  refine x_is (y := 5) (by decide) ?_
  refine lv_iconst (v := 5) C.1 C.2.1 dL_law_31 (by decide) ?_
  refine lv_isub C.1 C.2.1 dL_law_32 ?_
  refine x_is (y := 0) (by decide) ?_
  refine lv_icmp_gt (tgt := 2515) C.1 C.2.1 dL_law_33 (by decide) (fun c9 => absurd c9 (by decide)) (fun _ => ?_)
  refine lv_aload_n C.1 C.2.1 dL_law_36 rfl (lv_at hl 4 rfl) ?_
  refine lv_iload C.1 C.2.1 dL_law_37 (lv_at hl 0 rfl) ?_
  refine va_sld C.1 C.2.1 hX hbl hbA w.2.2 (xvin (by decide)) dL_law_39 ?_
  refine x_is (y := (xs 0)) (by rfl) ?_
  refine lv_bipush (v := 63) C.1 C.2.1 dL_law_40 (by decide) ?_
  refine lv_iand C.1 C.2.1 dL_law_42 ?_
  refine x_is (y := 21) hk ?_
  refine lv_tableIn (off := 1106) (tgt := 1149) C.1 C.2.1 dL_law_43 (by decide) (by decide) (by decide) (by decide) ?_
  refine lv_aload_n C.1 C.2.1 dL_law_1149 rfl (lv_at hl 3 rfl) ?_
  refine lv_aload_n C.1 C.2.1 dL_law_1150 rfl (lv_at hl 4 rfl) ?_
  refine lv_iload C.1 C.2.1 dL_law_1151 (lv_at hl 0 rfl) ?_
  refine lv_iconst (v := 1) C.1 C.2.1 dL_law_1153 (by decide) ?_
  refine lv_iadd C.1 C.2.1 dL_law_1154 ?_
  refine x_is (y := 1) (by decide) ?_
  refine va_sld C.1 C.2.1 hX hbl hbA w.2.2 (xvin (by decide)) dL_law_1155 ?_
  refine x_is (y := (xs 1)) (by rfl) ?_
  refine lv_aload_n C.1 C.2.1 dL_law_1156 rfl (lv_at hl 4 rfl) ?_
  refine lv_iload C.1 C.2.1 dL_law_1157 (lv_at hl 0 rfl) ?_
  refine lv_iconst (v := 2) C.1 C.2.1 dL_law_1159 (by decide) ?_
  refine lv_iadd C.1 C.2.1 dL_law_1160 ?_
  refine x_is (y := 2) (by decide) ?_
  refine va_sld C.1 C.2.1 hX hbl hbA w.2.2 (xvin (by decide)) dL_law_1161 ?_
  refine x_is (y := (xs 2)) (by rfl) ?_
  refine x_ki C w [0, 1, 2] [3, 4, 5, 6, 7, 8, 9, 10, 11, 12, 13, 14, 15, 16, 17, 18, 19, 20, 21, 22, 23, 24, 25, 26, 27, 28, 29, 30, 31, 32, 33, 34, 35, 36, 37, 38, 39] rfl rfl (by decide) (by decide) (va_runV (As := [.int (xs 1), .int (xs 2)]) (rest := []) (xfix C) (c297_X4_inRange l G cy sa sv (a 0) (a 1) (a 2) (a 6) (a 8) (a 15) (a 20) (a 24) (a 26) (a 4) (a 3) (xs 1) (xs 2) p0 (xtr C) _) (cwV 2 (xhts C) (xgV (maxL := 0) (cc := ⟨#[]⟩) (ret := none) gw_666 gw_667 gw_668 gw_2 gc_X4_inRange) rfl rfl rfl (by decide +kernel) ⟨(Nat.le_of_ble_eq_true rfl), (Nat.le_of_ble_eq_true rfl)⟩) (xPV C w [0, 1, 2] rfl (by decide) (ci := 8) (q0 := 0) rfl rfl) rfl rfl hl.1 rfl (lv_room (Nat.le_of_ble_eq_true rfl)) dL_law_1162 ⟨(Nat.le_of_ble_eq_true rfl), (Nat.le_of_ble_eq_true rfl)⟩) (fun f1684 H locs w => ?_)
  have w : xW G A s [((a 3), .inl (cy 1, 24, .inl (fun _ => 0))), ((a 4), .inr (6, [.ref (a 5), .int 0])), ((a 5), .inl (cy 1, 24, .inl (fun _ => 0))), ((a 6), .inr (6, [.ref (a 7), .int 0])), ((a 7), .inl (cy 1, 24, .inl (fun _ => 0))), ((a 8), .inr (5, [.ref (a 9), .ref (a 11), .ref (a 13), .int 0])), ((a 9), .inr (6, [.ref (a 10), .int 0])), ((a 10), .inl (cy 1, 624, .inl (fun _ => 0))), ((a 11), .inr (6, [.ref (a 12), .int 0])), ((a 12), .inl (cy 1, 624, .inl (fun _ => 0))), ((a 13), .inr (6, [.ref (a 14), .int 0])), ((a 14), .inl (cy 1, 12, .inl (fun _ => 0))), ((a 15), .inr (7, [.ref (a 16), .ref (a 18)])), ((a 16), .inr (6, [.ref (a 17), .int 0])), ((a 17), .inl (cy 1, 24, .inl (fun _ => 0))), ((a 18), .inr (6, [.ref (a 19), .int 0])), ((a 19), .inl (cy 1, 24, .inl (fun _ => 0))), ((a 20), .inl (cy 3, 3, .inr (.inr (.inr (.inr (va_up (va_up (va_up (fun _ => none) 0 (some (a 21))) 1 (some (a 22))) 2 (some (a 23)))))))), ((a 21), .inr (4, [.int 0, .int 0, .int 0])), ((a 22), .inr (4, [.int 0, .int 0, .int 0])), ((a 23), .inr (4, [.int 0, .int 0, .int 0])), ((a 24), .inr (6, [.ref (a 25), .int 0])), ((a 25), .inl (cy 1, 24, .inl (fun _ => 0))), ((a 26), .inr (7, [.ref (a 27), .ref (a 29)])), ((a 27), .inr (6, [.ref (a 28), .int 0])), ((a 28), .inl (cy 1, 24, .inl (fun _ => 0))), ((a 29), .inr (6, [.ref (a 30), .int 0])), ((a 30), .inl (cy 1, 24, .inl (fun _ => 0))), ((a 31), .inr (10, [.ref (a 32), .ref (a 33), .ref (a 34), .ref (a 35), .ref (a 36), .ref (a 37), .ref (a 38), .int 0, .int 0])), ((a 32), .inr (3, [.int 0, .ref (sv 0), .int 0])), ((a 33), .inr (3, [.int 0, .ref (sv 0), .int 0])), ((a 34), .inr (3, [.int 0, .ref (sv 0), .int 0])), ((a 35), .inr (3, [.int 0, .ref (sv 0), .int 0])), ((a 36), .inl (cy 2, 3, .inl (fun _ => 0))), ((a 37), .inl (cy 1, 3, .inl (fun _ => 0))), ((a 38), .inl (cy 1, 3, .inl (fun _ => 0))), ((a 39), .inr (9, [.long 0, .null])), ((a 0), .inr (8, [.ref (a 1), .ref (a 6), .ref (a 8), .ref (a 15), .ref (a 20), .int 0, .ref (a 24), .ref (a 26)])), ((a 1), .inr (7, [.ref (a 2), .ref (a 4)])), ((a 2), .inr (6, [.ref (a 3), .int 0]))] H _ := w
  refine lv_aload_n C.1 C.2.1 dL_law_1165 rfl (lv_at hl 2 rfl) ?_
  refine lv_aload_n C.1 C.2.1 dL_law_1166 rfl (lv_at hl 4 rfl) ?_
  refine lv_iload C.1 C.2.1 dL_law_1167 (lv_at hl 0 rfl) ?_
  refine lv_iconst (v := 1) C.1 C.2.1 dL_law_1169 (by decide) ?_
  refine lv_iadd C.1 C.2.1 dL_law_1170 ?_
  refine x_is (y := 1) (by decide) ?_
  refine va_sld C.1 C.2.1 hX hbl hbA w.2.2 (xvin (by decide)) dL_law_1171 ?_
  refine x_is (y := (xs 1)) (by rfl) ?_
  refine lv_aload_n C.1 C.2.1 dL_law_1172 rfl (lv_at hl 4 rfl) ?_
  refine lv_iload C.1 C.2.1 dL_law_1173 (lv_at hl 0 rfl) ?_
  refine lv_iconst (v := 2) C.1 C.2.1 dL_law_1175 (by decide) ?_
  refine lv_iadd C.1 C.2.1 dL_law_1176 ?_
  refine x_is (y := 2) (by decide) ?_
  refine va_sld C.1 C.2.1 hX hbl hbA w.2.2 (xvin (by decide)) dL_law_1177 ?_
  refine x_is (y := (xs 2)) (by rfl) ?_
  refine x_ki C w [28, 29] [0, 1, 2, 3, 4, 5, 6, 7, 8, 9, 10, 11, 12, 13, 14, 15, 16, 17, 18, 19, 20, 21, 22, 23, 24, 25, 26, 27, 30, 31, 32, 33, 34, 35, 36, 37, 38, 39] rfl rfl (by decide) (by decide) (va_runV (As := [.int (xs 1), .int (xs 2)]) (rest := [.int 0]) (xfix C) (c299_X6_inRange l G cy sa sv (a 31) (a 32) (a 33) (a 34) (a 35) (a 36) (a 37) (a 38) (xs 1) (xs 2) p0 (xtr C) _) (cwV 2 (xhts C) (xgV (maxL := 0) (cc := ⟨#[]⟩) (ret := none) gw_674 gw_675 gw_676 gw_58 gc_X6_inRange) rfl rfl rfl (by decide +kernel) ⟨(Nat.le_of_ble_eq_true rfl), (Nat.le_of_ble_eq_true rfl)⟩) (xPV C w [28, 29] rfl (by decide) (ci := 10) (q0 := 28) rfl rfl) rfl rfl hl.1 rfl (lv_room (Nat.le_of_ble_eq_true rfl)) dL_law_1178 ⟨(Nat.le_of_ble_eq_true rfl), (Nat.le_of_ble_eq_true rfl)⟩) (fun f1697 H locs w => ?_)
  have w : xW G A s [((a 3), .inl (cy 1, 24, .inl (fun _ => 0))), ((a 4), .inr (6, [.ref (a 5), .int 0])), ((a 5), .inl (cy 1, 24, .inl (fun _ => 0))), ((a 6), .inr (6, [.ref (a 7), .int 0])), ((a 7), .inl (cy 1, 24, .inl (fun _ => 0))), ((a 8), .inr (5, [.ref (a 9), .ref (a 11), .ref (a 13), .int 0])), ((a 9), .inr (6, [.ref (a 10), .int 0])), ((a 10), .inl (cy 1, 624, .inl (fun _ => 0))), ((a 11), .inr (6, [.ref (a 12), .int 0])), ((a 12), .inl (cy 1, 624, .inl (fun _ => 0))), ((a 13), .inr (6, [.ref (a 14), .int 0])), ((a 14), .inl (cy 1, 12, .inl (fun _ => 0))), ((a 15), .inr (7, [.ref (a 16), .ref (a 18)])), ((a 16), .inr (6, [.ref (a 17), .int 0])), ((a 17), .inl (cy 1, 24, .inl (fun _ => 0))), ((a 18), .inr (6, [.ref (a 19), .int 0])), ((a 19), .inl (cy 1, 24, .inl (fun _ => 0))), ((a 20), .inl (cy 3, 3, .inr (.inr (.inr (.inr (va_up (va_up (va_up (fun _ => none) 0 (some (a 21))) 1 (some (a 22))) 2 (some (a 23)))))))), ((a 21), .inr (4, [.int 0, .int 0, .int 0])), ((a 22), .inr (4, [.int 0, .int 0, .int 0])), ((a 23), .inr (4, [.int 0, .int 0, .int 0])), ((a 24), .inr (6, [.ref (a 25), .int 0])), ((a 25), .inl (cy 1, 24, .inl (fun _ => 0))), ((a 26), .inr (7, [.ref (a 27), .ref (a 29)])), ((a 27), .inr (6, [.ref (a 28), .int 0])), ((a 28), .inl (cy 1, 24, .inl (fun _ => 0))), ((a 29), .inr (6, [.ref (a 30), .int 0])), ((a 30), .inl (cy 1, 24, .inl (fun _ => 0))), ((a 33), .inr (3, [.int 0, .ref (sv 0), .int 0])), ((a 34), .inr (3, [.int 0, .ref (sv 0), .int 0])), ((a 35), .inr (3, [.int 0, .ref (sv 0), .int 0])), ((a 36), .inl (cy 2, 3, .inl (fun _ => 0))), ((a 37), .inl (cy 1, 3, .inl (fun _ => 0))), ((a 38), .inl (cy 1, 3, .inl (fun _ => 0))), ((a 39), .inr (9, [.long 0, .null])), ((a 0), .inr (8, [.ref (a 1), .ref (a 6), .ref (a 8), .ref (a 15), .ref (a 20), .int 0, .ref (a 24), .ref (a 26)])), ((a 1), .inr (7, [.ref (a 2), .ref (a 4)])), ((a 2), .inr (6, [.ref (a 3), .int 0])), ((a 31), .inr (10, [.ref (a 32), .ref (a 33), .ref (a 34), .ref (a 35), .ref (a 36), .ref (a 37), .ref (a 38), .int 0, .int 0])), ((a 32), .inr (3, [.int 0, .ref (sv 0), .int 0]))] H _ := w
  refine W.widen (k := 41) (n := 1539) (Nat.le_of_ble_eq_true rfl) (Nat.le_of_ble_eq_true rfl) ?_
  refine lv_icmp_eq (tgt := 2509) C.1 C.2.1 dL_law_1181 (by decide) (fun _ => ?_) (fun c9 => absurd (by decide) c9)
  refine lv_iinc (v := 5) (lv' := [(4, .int 5), (3, .ref (a 39)), (2, .ref (a 31)), (1, .ref (a 0)), (0, .ref b)]) C.1 C.2.1 dL_law_2509 hl (k := 0) rfl (by decide) (by decide) rfl (fun ls hl => ?_)
  refine lv_goto (tgt := 27) C.1 C.2.1 dL_law_2512 (by decide) ?_
  refine lv_iload C.1 C.2.1 dL_law_27 (lv_at hl 0 rfl) ?_
  refine lv_aload_n C.1 C.2.1 dL_law_29 rfl (lv_at hl 4 rfl) ?_
  refine va_slen C.1 C.2.1 hX hbl hbA w.2.2 dL_law_30 ?_
  refine x_is (y := 5) (by decide) ?_
  refine lv_iconst (v := 5) C.1 C.2.1 dL_law_31 (by decide) ?_
  refine lv_isub C.1 C.2.1 dL_law_32 ?_
  refine x_is (y := 0) (by decide) ?_
  refine lv_icmp_gt (tgt := 2515) C.1 C.2.1 dL_law_33 (by decide) (fun _ => ?_) (fun c9 => absurd (by decide) c9)
  refine lv_iconst (v := 1) C.1 C.2.1 dL_law_2515 (by decide) ?_
  refine va_forget (fun q hq => hAl _ (w.2.2.2.2 q hq)) ?_
  refine W.widen (k := 600002) (n := 7302232) (Nat.le_of_ble_eq_true rfl) (Nat.le_of_ble_eq_true rfl) ?_
  exact lw_ret C.1 C.2.1 hr (xlk C) dL_law_2516
set_option maxHeartbeats 8000000 in
set_option maxRecDepth 100000 in
theorem law_21_43 {p : Program} {e : Env} {s : State} {m : MethodId} {below : List Frame} {meth : Method} {c : Code} {l : Launch} {G : va_G} {cy : Nat → ClassId} {sa : String → Nat → Nat} {sv : Nat → Nat} {A : Nat → Prop} {b : Nat} {xs : Nat → Int32} {a : Nat → Nat} {H : Heap} {locs : List Loc} {ls : Array Slot} (C : xC p l s m #[Value.ref b] meth c code 7 "TwinindexLaw" (Cond.initialized "TwinindexLaw" :: XG) G cy sa sv A) (hr : meth.sig.returnType = ret) (hX : va_X b 5 xs s s.heap) (hbl : b < s.heap.size) (hbA : ¬ A b) (hAl : ∀ q, A q → s.heap.size ≤ q) (w : xW G A s (xW0 cy sv a) H locs) (hl : lv_has ls 7 [(4, .int 0), (3, .ref (a 39)), (2, .ref (a 31)), (1, .ref (a 0)), (0, .ref b)]) (hk : ((xs 0) &&& 63) = 21) (p0 : ¬ (xs 1) ≤ (xs 2)) : W p l e room_1 s m #[Value.ref b] below meth c H locs 40 1536 (lw_Z below #[Value.ref b] s) (F0 m 27 ls []) := by
  have w : xW G A s [((a 0), .inr (8, [.ref (a 1), .ref (a 6), .ref (a 8), .ref (a 15), .ref (a 20), .int 0, .ref (a 24), .ref (a 26)])), ((a 1), .inr (7, [.ref (a 2), .ref (a 4)])), ((a 2), .inr (6, [.ref (a 3), .int 0])), ((a 3), .inl (cy 1, 24, .inl (fun _ => 0))), ((a 4), .inr (6, [.ref (a 5), .int 0])), ((a 5), .inl (cy 1, 24, .inl (fun _ => 0))), ((a 6), .inr (6, [.ref (a 7), .int 0])), ((a 7), .inl (cy 1, 24, .inl (fun _ => 0))), ((a 8), .inr (5, [.ref (a 9), .ref (a 11), .ref (a 13), .int 0])), ((a 9), .inr (6, [.ref (a 10), .int 0])), ((a 10), .inl (cy 1, 624, .inl (fun _ => 0))), ((a 11), .inr (6, [.ref (a 12), .int 0])), ((a 12), .inl (cy 1, 624, .inl (fun _ => 0))), ((a 13), .inr (6, [.ref (a 14), .int 0])), ((a 14), .inl (cy 1, 12, .inl (fun _ => 0))), ((a 15), .inr (7, [.ref (a 16), .ref (a 18)])), ((a 16), .inr (6, [.ref (a 17), .int 0])), ((a 17), .inl (cy 1, 24, .inl (fun _ => 0))), ((a 18), .inr (6, [.ref (a 19), .int 0])), ((a 19), .inl (cy 1, 24, .inl (fun _ => 0))), ((a 20), .inl (cy 3, 3, .inr (.inr (.inr (.inr (va_up (va_up (va_up (fun _ => none) 0 (some (a 21))) 1 (some (a 22))) 2 (some (a 23)))))))), ((a 21), .inr (4, [.int 0, .int 0, .int 0])), ((a 22), .inr (4, [.int 0, .int 0, .int 0])), ((a 23), .inr (4, [.int 0, .int 0, .int 0])), ((a 24), .inr (6, [.ref (a 25), .int 0])), ((a 25), .inl (cy 1, 24, .inl (fun _ => 0))), ((a 26), .inr (7, [.ref (a 27), .ref (a 29)])), ((a 27), .inr (6, [.ref (a 28), .int 0])), ((a 28), .inl (cy 1, 24, .inl (fun _ => 0))), ((a 29), .inr (6, [.ref (a 30), .int 0])), ((a 30), .inl (cy 1, 24, .inl (fun _ => 0))), ((a 31), .inr (10, [.ref (a 32), .ref (a 33), .ref (a 34), .ref (a 35), .ref (a 36), .ref (a 37), .ref (a 38), .int 0, .int 0])), ((a 32), .inr (3, [.int 0, .ref (sv 0), .int 0])), ((a 33), .inr (3, [.int 0, .ref (sv 0), .int 0])), ((a 34), .inr (3, [.int 0, .ref (sv 0), .int 0])), ((a 35), .inr (3, [.int 0, .ref (sv 0), .int 0])), ((a 36), .inl (cy 2, 3, .inl (fun _ => 0))), ((a 37), .inl (cy 1, 3, .inl (fun _ => 0))), ((a 38), .inl (cy 1, 3, .inl (fun _ => 0))), ((a 39), .inr (9, [.long 0, .null]))] H _ := w
  refine lv_iload C.1 C.2.1 dL_law_27 (lv_at hl 0 rfl) ?_
  refine lv_aload_n C.1 C.2.1 dL_law_29 rfl (lv_at hl 4 rfl) ?_
  refine va_slen C.1 C.2.1 hX hbl hbA w.2.2 dL_law_30 ?_
  refine x_is (y := 5) (by decide) ?_
  refine lv_iconst (v := 5) C.1 C.2.1 dL_law_31 (by decide) ?_
  refine lv_isub C.1 C.2.1 dL_law_32 ?_
  refine x_is (y := 0) (by decide) ?_
  refine lv_icmp_gt (tgt := 2515) C.1 C.2.1 dL_law_33 (by decide) (fun c9 => absurd c9 (by decide)) (fun _ => ?_)
  refine lv_aload_n C.1 C.2.1 dL_law_36 rfl (lv_at hl 4 rfl) ?_
  refine lv_iload C.1 C.2.1 dL_law_37 (lv_at hl 0 rfl) ?_
  refine va_sld C.1 C.2.1 hX hbl hbA w.2.2 (xvin (by decide)) dL_law_39 ?_
  refine x_is (y := (xs 0)) (by rfl) ?_
  refine lv_bipush (v := 63) C.1 C.2.1 dL_law_40 (by decide) ?_
  refine lv_iand C.1 C.2.1 dL_law_42 ?_
  refine x_is (y := 21) hk ?_
  refine lv_tableIn (off := 1106) (tgt := 1149) C.1 C.2.1 dL_law_43 (by decide) (by decide) (by decide) (by decide) ?_
  refine lv_aload_n C.1 C.2.1 dL_law_1149 rfl (lv_at hl 3 rfl) ?_
  refine lv_aload_n C.1 C.2.1 dL_law_1150 rfl (lv_at hl 4 rfl) ?_
  refine lv_iload C.1 C.2.1 dL_law_1151 (lv_at hl 0 rfl) ?_
  refine lv_iconst (v := 1) C.1 C.2.1 dL_law_1153 (by decide) ?_
  refine lv_iadd C.1 C.2.1 dL_law_1154 ?_
  refine x_is (y := 1) (by decide) ?_
  refine va_sld C.1 C.2.1 hX hbl hbA w.2.2 (xvin (by decide)) dL_law_1155 ?_
  refine x_is (y := (xs 1)) (by rfl) ?_
  refine lv_aload_n C.1 C.2.1 dL_law_1156 rfl (lv_at hl 4 rfl) ?_
  refine lv_iload C.1 C.2.1 dL_law_1157 (lv_at hl 0 rfl) ?_
  refine lv_iconst (v := 2) C.1 C.2.1 dL_law_1159 (by decide) ?_
  refine lv_iadd C.1 C.2.1 dL_law_1160 ?_
  refine x_is (y := 2) (by decide) ?_
  refine va_sld C.1 C.2.1 hX hbl hbA w.2.2 (xvin (by decide)) dL_law_1161 ?_
  refine x_is (y := (xs 2)) (by rfl) ?_
  refine x_ki C w [] [0, 1, 2, 3, 4, 5, 6, 7, 8, 9, 10, 11, 12, 13, 14, 15, 16, 17, 18, 19, 20, 21, 22, 23, 24, 25, 26, 27, 28, 29, 30, 31, 32, 33, 34, 35, 36, 37, 38, 39] rfl rfl (by decide) (by decide) (va_runV (As := [.int (xs 1), .int (xs 2)]) (rest := []) (xfix C) (c300_X4_inRange l G cy sa sv (a 0) (xs 1) (xs 2) p0 (xtr C) _) (cwV 2 (xhts C) (xgV (maxL := 0) (cc := ⟨#[]⟩) (ret := none) gw_666 gw_667 gw_668 gw_2 gc_X4_inRange) rfl rfl rfl (by decide +kernel) ⟨(Nat.le_of_ble_eq_true rfl), (Nat.le_of_ble_eq_true rfl)⟩) (xPV C w [] rfl (by decide) (ci := 8) (q0 := 0) rfl rfl) rfl rfl hl.1 rfl (lv_room (Nat.le_of_ble_eq_true rfl)) dL_law_1162 ⟨(Nat.le_of_ble_eq_true rfl), (Nat.le_of_ble_eq_true rfl)⟩) (fun f1698 H locs w => ?_)
  have w : xW G A s [((a 0), .inr (8, [.ref (a 1), .ref (a 6), .ref (a 8), .ref (a 15), .ref (a 20), .int 0, .ref (a 24), .ref (a 26)])), ((a 1), .inr (7, [.ref (a 2), .ref (a 4)])), ((a 2), .inr (6, [.ref (a 3), .int 0])), ((a 3), .inl (cy 1, 24, .inl (fun _ => 0))), ((a 4), .inr (6, [.ref (a 5), .int 0])), ((a 5), .inl (cy 1, 24, .inl (fun _ => 0))), ((a 6), .inr (6, [.ref (a 7), .int 0])), ((a 7), .inl (cy 1, 24, .inl (fun _ => 0))), ((a 8), .inr (5, [.ref (a 9), .ref (a 11), .ref (a 13), .int 0])), ((a 9), .inr (6, [.ref (a 10), .int 0])), ((a 10), .inl (cy 1, 624, .inl (fun _ => 0))), ((a 11), .inr (6, [.ref (a 12), .int 0])), ((a 12), .inl (cy 1, 624, .inl (fun _ => 0))), ((a 13), .inr (6, [.ref (a 14), .int 0])), ((a 14), .inl (cy 1, 12, .inl (fun _ => 0))), ((a 15), .inr (7, [.ref (a 16), .ref (a 18)])), ((a 16), .inr (6, [.ref (a 17), .int 0])), ((a 17), .inl (cy 1, 24, .inl (fun _ => 0))), ((a 18), .inr (6, [.ref (a 19), .int 0])), ((a 19), .inl (cy 1, 24, .inl (fun _ => 0))), ((a 20), .inl (cy 3, 3, .inr (.inr (.inr (.inr (va_up (va_up (va_up (fun _ => none) 0 (some (a 21))) 1 (some (a 22))) 2 (some (a 23)))))))), ((a 21), .inr (4, [.int 0, .int 0, .int 0])), ((a 22), .inr (4, [.int 0, .int 0, .int 0])), ((a 23), .inr (4, [.int 0, .int 0, .int 0])), ((a 24), .inr (6, [.ref (a 25), .int 0])), ((a 25), .inl (cy 1, 24, .inl (fun _ => 0))), ((a 26), .inr (7, [.ref (a 27), .ref (a 29)])), ((a 27), .inr (6, [.ref (a 28), .int 0])), ((a 28), .inl (cy 1, 24, .inl (fun _ => 0))), ((a 29), .inr (6, [.ref (a 30), .int 0])), ((a 30), .inl (cy 1, 24, .inl (fun _ => 0))), ((a 31), .inr (10, [.ref (a 32), .ref (a 33), .ref (a 34), .ref (a 35), .ref (a 36), .ref (a 37), .ref (a 38), .int 0, .int 0])), ((a 32), .inr (3, [.int 0, .ref (sv 0), .int 0])), ((a 33), .inr (3, [.int 0, .ref (sv 0), .int 0])), ((a 34), .inr (3, [.int 0, .ref (sv 0), .int 0])), ((a 35), .inr (3, [.int 0, .ref (sv 0), .int 0])), ((a 36), .inl (cy 2, 3, .inl (fun _ => 0))), ((a 37), .inl (cy 1, 3, .inl (fun _ => 0))), ((a 38), .inl (cy 1, 3, .inl (fun _ => 0))), ((a 39), .inr (9, [.long 0, .null]))] H _ := w
  refine lv_aload_n C.1 C.2.1 dL_law_1165 rfl (lv_at hl 2 rfl) ?_
  refine lv_aload_n C.1 C.2.1 dL_law_1166 rfl (lv_at hl 4 rfl) ?_
  refine lv_iload C.1 C.2.1 dL_law_1167 (lv_at hl 0 rfl) ?_
  refine lv_iconst (v := 1) C.1 C.2.1 dL_law_1169 (by decide) ?_
  refine lv_iadd C.1 C.2.1 dL_law_1170 ?_
  refine x_is (y := 1) (by decide) ?_
  refine va_sld C.1 C.2.1 hX hbl hbA w.2.2 (xvin (by decide)) dL_law_1171 ?_
  refine x_is (y := (xs 1)) (by rfl) ?_
  refine lv_aload_n C.1 C.2.1 dL_law_1172 rfl (lv_at hl 4 rfl) ?_
  refine lv_iload C.1 C.2.1 dL_law_1173 (lv_at hl 0 rfl) ?_
  refine lv_iconst (v := 2) C.1 C.2.1 dL_law_1175 (by decide) ?_
  refine lv_iadd C.1 C.2.1 dL_law_1176 ?_
  refine x_is (y := 2) (by decide) ?_
  refine va_sld C.1 C.2.1 hX hbl hbA w.2.2 (xvin (by decide)) dL_law_1177 ?_
  refine x_is (y := (xs 2)) (by rfl) ?_
  refine x_ki C w [31] [0, 1, 2, 3, 4, 5, 6, 7, 8, 9, 10, 11, 12, 13, 14, 15, 16, 17, 18, 19, 20, 21, 22, 23, 24, 25, 26, 27, 28, 29, 30, 32, 33, 34, 35, 36, 37, 38, 39] rfl rfl (by decide) (by decide) (va_runV (As := [.int (xs 1), .int (xs 2)]) (rest := [.int (-9999)]) (xfix C) (c301_X6_inRange l G cy sa sv (a 31) (a 32) (a 33) (a 34) (a 35) (a 36) (a 37) (a 38) (xs 1) (xs 2) p0 (xtr C) _) (cwV 2 (xhts C) (xgV (maxL := 0) (cc := ⟨#[]⟩) (ret := none) gw_674 gw_675 gw_676 gw_58 gc_X6_inRange) rfl rfl rfl (by decide +kernel) ⟨(Nat.le_of_ble_eq_true rfl), (Nat.le_of_ble_eq_true rfl)⟩) (xPV C w [31] rfl (by decide) (ci := 10) (q0 := 31) rfl rfl) rfl rfl hl.1 rfl (lv_room (Nat.le_of_ble_eq_true rfl)) dL_law_1178 ⟨(Nat.le_of_ble_eq_true rfl), (Nat.le_of_ble_eq_true rfl)⟩) (fun f1699 H locs w => ?_)
  have w : xW G A s [((a 0), .inr (8, [.ref (a 1), .ref (a 6), .ref (a 8), .ref (a 15), .ref (a 20), .int 0, .ref (a 24), .ref (a 26)])), ((a 1), .inr (7, [.ref (a 2), .ref (a 4)])), ((a 2), .inr (6, [.ref (a 3), .int 0])), ((a 3), .inl (cy 1, 24, .inl (fun _ => 0))), ((a 4), .inr (6, [.ref (a 5), .int 0])), ((a 5), .inl (cy 1, 24, .inl (fun _ => 0))), ((a 6), .inr (6, [.ref (a 7), .int 0])), ((a 7), .inl (cy 1, 24, .inl (fun _ => 0))), ((a 8), .inr (5, [.ref (a 9), .ref (a 11), .ref (a 13), .int 0])), ((a 9), .inr (6, [.ref (a 10), .int 0])), ((a 10), .inl (cy 1, 624, .inl (fun _ => 0))), ((a 11), .inr (6, [.ref (a 12), .int 0])), ((a 12), .inl (cy 1, 624, .inl (fun _ => 0))), ((a 13), .inr (6, [.ref (a 14), .int 0])), ((a 14), .inl (cy 1, 12, .inl (fun _ => 0))), ((a 15), .inr (7, [.ref (a 16), .ref (a 18)])), ((a 16), .inr (6, [.ref (a 17), .int 0])), ((a 17), .inl (cy 1, 24, .inl (fun _ => 0))), ((a 18), .inr (6, [.ref (a 19), .int 0])), ((a 19), .inl (cy 1, 24, .inl (fun _ => 0))), ((a 20), .inl (cy 3, 3, .inr (.inr (.inr (.inr (va_up (va_up (va_up (fun _ => none) 0 (some (a 21))) 1 (some (a 22))) 2 (some (a 23)))))))), ((a 21), .inr (4, [.int 0, .int 0, .int 0])), ((a 22), .inr (4, [.int 0, .int 0, .int 0])), ((a 23), .inr (4, [.int 0, .int 0, .int 0])), ((a 24), .inr (6, [.ref (a 25), .int 0])), ((a 25), .inl (cy 1, 24, .inl (fun _ => 0))), ((a 26), .inr (7, [.ref (a 27), .ref (a 29)])), ((a 27), .inr (6, [.ref (a 28), .int 0])), ((a 28), .inl (cy 1, 24, .inl (fun _ => 0))), ((a 29), .inr (6, [.ref (a 30), .int 0])), ((a 30), .inl (cy 1, 24, .inl (fun _ => 0))), ((a 32), .inr (3, [.int 0, .ref (sv 0), .int 0])), ((a 33), .inr (3, [.int 0, .ref (sv 0), .int 0])), ((a 34), .inr (3, [.int 0, .ref (sv 0), .int 0])), ((a 35), .inr (3, [.int 0, .ref (sv 0), .int 0])), ((a 36), .inl (cy 2, 3, .inl (fun _ => 0))), ((a 37), .inl (cy 1, 3, .inl (fun _ => 0))), ((a 38), .inl (cy 1, 3, .inl (fun _ => 0))), ((a 39), .inr (9, [.long 0, .null])), ((a 31), .inr (10, [.ref (a 32), .ref (a 33), .ref (a 34), .ref (a 35), .ref (a 36), .ref (a 37), .ref (a 38), .int 0, .int 0]))] H _ := w
  refine lv_icmp_eq (tgt := 2509) C.1 C.2.1 dL_law_1181 (by decide) (fun _ => ?_) (fun c9 => absurd (by decide) c9)
  refine lv_iinc (v := 5) (lv' := [(4, .int 5), (3, .ref (a 39)), (2, .ref (a 31)), (1, .ref (a 0)), (0, .ref b)]) C.1 C.2.1 dL_law_2509 hl (k := 0) rfl (by decide) (by decide) rfl (fun ls hl => ?_)
  refine lv_goto (tgt := 27) C.1 C.2.1 dL_law_2512 (by decide) ?_
  refine lv_iload C.1 C.2.1 dL_law_27 (lv_at hl 0 rfl) ?_
  refine lv_aload_n C.1 C.2.1 dL_law_29 rfl (lv_at hl 4 rfl) ?_
  refine va_slen C.1 C.2.1 hX hbl hbA w.2.2 dL_law_30 ?_
  refine x_is (y := 5) (by decide) ?_
  refine lv_iconst (v := 5) C.1 C.2.1 dL_law_31 (by decide) ?_
  refine lv_isub C.1 C.2.1 dL_law_32 ?_
  refine x_is (y := 0) (by decide) ?_
  refine lv_icmp_gt (tgt := 2515) C.1 C.2.1 dL_law_33 (by decide) (fun _ => ?_) (fun c9 => absurd (by decide) c9)
  refine lv_iconst (v := 1) C.1 C.2.1 dL_law_2515 (by decide) ?_
  refine va_forget (fun q hq => hAl _ (w.2.2.2.2 q hq)) ?_
  refine W.widen (k := 600002) (n := 7302232) (Nat.le_of_ble_eq_true rfl) (Nat.le_of_ble_eq_true rfl) ?_
  exact lw_ret C.1 C.2.1 hr (xlk C) dL_law_2516
set_option maxHeartbeats 8000000 in
set_option maxRecDepth 100000 in
theorem law_22_44 {p : Program} {e : Env} {s : State} {m : MethodId} {below : List Frame} {meth : Method} {c : Code} {l : Launch} {G : va_G} {cy : Nat → ClassId} {sa : String → Nat → Nat} {sv : Nat → Nat} {A : Nat → Prop} {b : Nat} {xs : Nat → Int32} {a : Nat → Nat} {H : Heap} {locs : List Loc} {ls : Array Slot} (C : xC p l s m #[Value.ref b] meth c code 7 "TwinindexLaw" (Cond.initialized "TwinindexLaw" :: XG) G cy sa sv A) (hr : meth.sig.returnType = ret) (hX : va_X b 5 xs s s.heap) (hbl : b < s.heap.size) (hbA : ¬ A b) (hAl : ∀ q, A q → s.heap.size ≤ q) (w : xW G A s (xW0 cy sv a) H locs) (hl : lv_has ls 7 [(4, .int 0), (3, .ref (a 39)), (2, .ref (a 31)), (1, .ref (a 0)), (0, .ref b)]) (hk : ((xs 0) &&& 63) = 22) (p0 : (xs 3) = 0) (p1 : (xs 1) ≤ (xs 2)) : W p l e room_1 s m #[Value.ref b] below meth c H locs 40 1536 (lw_Z below #[Value.ref b] s) (F0 m 27 ls []) := by
  have w : xW G A s [((a 0), .inr (8, [.ref (a 1), .ref (a 6), .ref (a 8), .ref (a 15), .ref (a 20), .int 0, .ref (a 24), .ref (a 26)])), ((a 1), .inr (7, [.ref (a 2), .ref (a 4)])), ((a 2), .inr (6, [.ref (a 3), .int 0])), ((a 3), .inl (cy 1, 24, .inl (fun _ => 0))), ((a 4), .inr (6, [.ref (a 5), .int 0])), ((a 5), .inl (cy 1, 24, .inl (fun _ => 0))), ((a 6), .inr (6, [.ref (a 7), .int 0])), ((a 7), .inl (cy 1, 24, .inl (fun _ => 0))), ((a 8), .inr (5, [.ref (a 9), .ref (a 11), .ref (a 13), .int 0])), ((a 9), .inr (6, [.ref (a 10), .int 0])), ((a 10), .inl (cy 1, 624, .inl (fun _ => 0))), ((a 11), .inr (6, [.ref (a 12), .int 0])), ((a 12), .inl (cy 1, 624, .inl (fun _ => 0))), ((a 13), .inr (6, [.ref (a 14), .int 0])), ((a 14), .inl (cy 1, 12, .inl (fun _ => 0))), ((a 15), .inr (7, [.ref (a 16), .ref (a 18)])), ((a 16), .inr (6, [.ref (a 17), .int 0])), ((a 17), .inl (cy 1, 24, .inl (fun _ => 0))), ((a 18), .inr (6, [.ref (a 19), .int 0])), ((a 19), .inl (cy 1, 24, .inl (fun _ => 0))), ((a 20), .inl (cy 3, 3, .inr (.inr (.inr (.inr (va_up (va_up (va_up (fun _ => none) 0 (some (a 21))) 1 (some (a 22))) 2 (some (a 23)))))))), ((a 21), .inr (4, [.int 0, .int 0, .int 0])), ((a 22), .inr (4, [.int 0, .int 0, .int 0])), ((a 23), .inr (4, [.int 0, .int 0, .int 0])), ((a 24), .inr (6, [.ref (a 25), .int 0])), ((a 25), .inl (cy 1, 24, .inl (fun _ => 0))), ((a 26), .inr (7, [.ref (a 27), .ref (a 29)])), ((a 27), .inr (6, [.ref (a 28), .int 0])), ((a 28), .inl (cy 1, 24, .inl (fun _ => 0))), ((a 29), .inr (6, [.ref (a 30), .int 0])), ((a 30), .inl (cy 1, 24, .inl (fun _ => 0))), ((a 31), .inr (10, [.ref (a 32), .ref (a 33), .ref (a 34), .ref (a 35), .ref (a 36), .ref (a 37), .ref (a 38), .int 0, .int 0])), ((a 32), .inr (3, [.int 0, .ref (sv 0), .int 0])), ((a 33), .inr (3, [.int 0, .ref (sv 0), .int 0])), ((a 34), .inr (3, [.int 0, .ref (sv 0), .int 0])), ((a 35), .inr (3, [.int 0, .ref (sv 0), .int 0])), ((a 36), .inl (cy 2, 3, .inl (fun _ => 0))), ((a 37), .inl (cy 1, 3, .inl (fun _ => 0))), ((a 38), .inl (cy 1, 3, .inl (fun _ => 0))), ((a 39), .inr (9, [.long 0, .null]))] H _ := w
  refine lv_iload C.1 C.2.1 dL_law_27 (lv_at hl 0 rfl) ?_
  refine lv_aload_n C.1 C.2.1 dL_law_29 rfl (lv_at hl 4 rfl) ?_
  refine va_slen C.1 C.2.1 hX hbl hbA w.2.2 dL_law_30 ?_
  refine x_is (y := 5) (by decide) ?_
  refine lv_iconst (v := 5) C.1 C.2.1 dL_law_31 (by decide) ?_
  refine lv_isub C.1 C.2.1 dL_law_32 ?_
  refine x_is (y := 0) (by decide) ?_
  refine lv_icmp_gt (tgt := 2515) C.1 C.2.1 dL_law_33 (by decide) (fun c9 => absurd c9 (by decide)) (fun _ => ?_)
  refine lv_aload_n C.1 C.2.1 dL_law_36 rfl (lv_at hl 4 rfl) ?_
  refine lv_iload C.1 C.2.1 dL_law_37 (lv_at hl 0 rfl) ?_
  refine va_sld C.1 C.2.1 hX hbl hbA w.2.2 (xvin (by decide)) dL_law_39 ?_
  refine x_is (y := (xs 0)) (by rfl) ?_
  refine lv_bipush (v := 63) C.1 C.2.1 dL_law_40 (by decide) ?_
  refine lv_iand C.1 C.2.1 dL_law_42 ?_
  refine x_is (y := 22) hk ?_
  refine lv_tableIn (off := 1143) (tgt := 1186) C.1 C.2.1 dL_law_43 (by decide) (by decide) (by decide) (by decide) ?_
  refine lv_aload_n C.1 C.2.1 dL_law_1186 rfl (lv_at hl 3 rfl) ?_
  refine lv_aload_n C.1 C.2.1 dL_law_1187 rfl (lv_at hl 4 rfl) ?_
  refine lv_iload C.1 C.2.1 dL_law_1188 (lv_at hl 0 rfl) ?_
  refine lv_iconst (v := 1) C.1 C.2.1 dL_law_1190 (by decide) ?_
  refine lv_iadd C.1 C.2.1 dL_law_1191 ?_
  refine x_is (y := 1) (by decide) ?_
  refine va_sld C.1 C.2.1 hX hbl hbA w.2.2 (xvin (by decide)) dL_law_1192 ?_
  refine x_is (y := (xs 1)) (by rfl) ?_
  refine lv_aload_n C.1 C.2.1 dL_law_1193 rfl (lv_at hl 4 rfl) ?_
  refine lv_iload C.1 C.2.1 dL_law_1194 (lv_at hl 0 rfl) ?_
  refine lv_iconst (v := 2) C.1 C.2.1 dL_law_1196 (by decide) ?_
  refine lv_iadd C.1 C.2.1 dL_law_1197 ?_
  refine x_is (y := 2) (by decide) ?_
  refine va_sld C.1 C.2.1 hX hbl hbA w.2.2 (xvin (by decide)) dL_law_1198 ?_
  refine x_is (y := (xs 2)) (by rfl) ?_
  refine lv_aload_n C.1 C.2.1 dL_law_1199 rfl (lv_at hl 4 rfl) ?_
  refine lv_iload C.1 C.2.1 dL_law_1200 (lv_at hl 0 rfl) ?_
  refine lv_iconst (v := 3) C.1 C.2.1 dL_law_1202 (by decide) ?_
  refine lv_iadd C.1 C.2.1 dL_law_1203 ?_
  refine x_is (y := 3) (by decide) ?_
  refine va_sld C.1 C.2.1 hX hbl hbA w.2.2 (xvin (by decide)) dL_law_1204 ?_
  refine x_is (y := (xs 3)) (by rfl) ?_
  refine lv_if_eq (tgt := 1212) C.1 C.2.1 dL_law_1205 (by decide) (fun _ => ?_) (fun c9 => absurd p0 c9)
  refine lv_iconst (v := 0) C.1 C.2.1 dL_law_1212 (by decide) ?_
  refine lv_aload_n C.1 C.2.1 dL_law_1213 rfl (lv_at hl 1 rfl) ?_
  refine x_ki C w [0, 1, 2] [3, 4, 5, 6, 7, 8, 9, 10, 11, 12, 13, 14, 15, 16, 17, 18, 19, 20, 21, 22, 23, 24, 25, 26, 27, 28, 29, 30, 31, 32, 33, 34, 35, 36, 37, 38, 39] rfl rfl (by decide) (by decide) (vx_runSW (As := [.ref (a 0), .int (xs 1), .int (xs 2), .int 0, .ref (a 39)]) (rest := []) (xfix C) (c304_L_rangeEnd l G cy sa sv (a 0) (a 39) (a 1) (a 2) (a 6) (a 8) (a 15) (a 20) (a 24) (a 26) (a 4) (a 3) (xs 1) (xs 2) p1 (xtr C) _) (vx_cwSW 5 (xhts C) (xgS gw_679 gw_680 gw_106 gc_L_rangeEnd) rfl rfl rfl (by decide +kernel) ⟨(Nat.le_of_ble_eq_true rfl), (Nat.le_of_ble_eq_true rfl)⟩) (xPS C w [0, 1, 2] rfl (by decide)) rfl rfl hl.1 rfl (lv_room (Nat.le_of_ble_eq_true rfl)) dL_law_1214 ⟨(Nat.le_of_ble_eq_true rfl), (Nat.le_of_ble_eq_true rfl)⟩) (fun f1719 H locs w => ?_)
  have w : xW G A s [((a 3), .inl (cy 1, 24, .inl (fun _ => 0))), ((a 4), .inr (6, [.ref (a 5), .int 0])), ((a 5), .inl (cy 1, 24, .inl (fun _ => 0))), ((a 6), .inr (6, [.ref (a 7), .int 0])), ((a 7), .inl (cy 1, 24, .inl (fun _ => 0))), ((a 8), .inr (5, [.ref (a 9), .ref (a 11), .ref (a 13), .int 0])), ((a 9), .inr (6, [.ref (a 10), .int 0])), ((a 10), .inl (cy 1, 624, .inl (fun _ => 0))), ((a 11), .inr (6, [.ref (a 12), .int 0])), ((a 12), .inl (cy 1, 624, .inl (fun _ => 0))), ((a 13), .inr (6, [.ref (a 14), .int 0])), ((a 14), .inl (cy 1, 12, .inl (fun _ => 0))), ((a 15), .inr (7, [.ref (a 16), .ref (a 18)])), ((a 16), .inr (6, [.ref (a 17), .int 0])), ((a 17), .inl (cy 1, 24, .inl (fun _ => 0))), ((a 18), .inr (6, [.ref (a 19), .int 0])), ((a 19), .inl (cy 1, 24, .inl (fun _ => 0))), ((a 20), .inl (cy 3, 3, .inr (.inr (.inr (.inr (va_up (va_up (va_up (fun _ => none) 0 (some (a 21))) 1 (some (a 22))) 2 (some (a 23)))))))), ((a 21), .inr (4, [.int 0, .int 0, .int 0])), ((a 22), .inr (4, [.int 0, .int 0, .int 0])), ((a 23), .inr (4, [.int 0, .int 0, .int 0])), ((a 24), .inr (6, [.ref (a 25), .int 0])), ((a 25), .inl (cy 1, 24, .inl (fun _ => 0))), ((a 26), .inr (7, [.ref (a 27), .ref (a 29)])), ((a 27), .inr (6, [.ref (a 28), .int 0])), ((a 28), .inl (cy 1, 24, .inl (fun _ => 0))), ((a 29), .inr (6, [.ref (a 30), .int 0])), ((a 30), .inl (cy 1, 24, .inl (fun _ => 0))), ((a 31), .inr (10, [.ref (a 32), .ref (a 33), .ref (a 34), .ref (a 35), .ref (a 36), .ref (a 37), .ref (a 38), .int 0, .int 0])), ((a 32), .inr (3, [.int 0, .ref (sv 0), .int 0])), ((a 33), .inr (3, [.int 0, .ref (sv 0), .int 0])), ((a 34), .inr (3, [.int 0, .ref (sv 0), .int 0])), ((a 35), .inr (3, [.int 0, .ref (sv 0), .int 0])), ((a 36), .inl (cy 2, 3, .inl (fun _ => 0))), ((a 37), .inl (cy 1, 3, .inl (fun _ => 0))), ((a 38), .inl (cy 1, 3, .inl (fun _ => 0))), ((a 39), .inr (9, [.long 0, .null])), ((a 0), .inr (8, [.ref (a 1), .ref (a 6), .ref (a 8), .ref (a 15), .ref (a 20), .int 0, .ref (a 24), .ref (a 26)])), ((a 1), .inr (7, [.ref (a 2), .ref (a 4)])), ((a 2), .inr (6, [.ref (a 3), .int 0]))] H _ := w
  refine W.widen (k := 41) (n := 1542) (Nat.le_of_ble_eq_true rfl) (Nat.le_of_ble_eq_true rfl) ?_
  refine lv_istore (lv' := [(5, .int 2), (4, .int 0), (3, .ref (a 39)), (2, .ref (a 31)), (1, .ref (a 0)), (0, .ref b)]) C.1 C.2.1 dL_law_1217 hl (by decide) rfl (fun ls hl => ?_)
  refine lv_aload_n C.1 C.2.1 dL_law_1219 rfl (lv_at hl 3 rfl) ?_
  refine lv_aload_n C.1 C.2.1 dL_law_1220 rfl (lv_at hl 5 rfl) ?_
  refine lv_iload C.1 C.2.1 dL_law_1221 (lv_at hl 1 rfl) ?_
  refine lv_iconst (v := 1) C.1 C.2.1 dL_law_1223 (by decide) ?_
  refine lv_iadd C.1 C.2.1 dL_law_1224 ?_
  refine x_is (y := 1) (by decide) ?_
  refine va_sld C.1 C.2.1 hX hbl hbA w.2.2 (xvin (by decide)) dL_law_1225 ?_
  refine x_is (y := (xs 1)) (by rfl) ?_
  refine lv_aload_n C.1 C.2.1 dL_law_1226 rfl (lv_at hl 5 rfl) ?_
  refine lv_iload C.1 C.2.1 dL_law_1227 (lv_at hl 1 rfl) ?_
  refine lv_iconst (v := 2) C.1 C.2.1 dL_law_1229 (by decide) ?_
  refine lv_iadd C.1 C.2.1 dL_law_1230 ?_
  refine x_is (y := 2) (by decide) ?_
  refine va_sld C.1 C.2.1 hX hbl hbA w.2.2 (xvin (by decide)) dL_law_1231 ?_
  refine x_is (y := (xs 2)) (by rfl) ?_
  refine lv_aload_n C.1 C.2.1 dL_law_1232 rfl (lv_at hl 5 rfl) ?_
  refine lv_iload C.1 C.2.1 dL_law_1233 (lv_at hl 1 rfl) ?_
  refine lv_iconst (v := 3) C.1 C.2.1 dL_law_1235 (by decide) ?_
  refine lv_iadd C.1 C.2.1 dL_law_1236 ?_
  refine x_is (y := 3) (by decide) ?_
  refine va_sld C.1 C.2.1 hX hbl hbA w.2.2 (xvin (by decide)) dL_law_1237 ?_
  refine x_is (y := (xs 3)) (by rfl) ?_
  refine lv_if_eq (tgt := 1245) C.1 C.2.1 dL_law_1238 (by decide) (fun _ => ?_) (fun c9 => absurd p0 c9)
  refine lv_iconst (v := 0) C.1 C.2.1 dL_law_1245 (by decide) ?_
  refine x_ki C w [28, 29] [0, 1, 2, 3, 4, 5, 6, 7, 8, 9, 10, 11, 12, 13, 14, 15, 16, 17, 18, 19, 20, 21, 22, 23, 24, 25, 26, 27, 30, 31, 32, 33, 34, 35, 36, 37, 38, 39] rfl rfl (by decide) (by decide) (va_runV (As := [.int (xs 1), .int (xs 2), .int 0]) (rest := []) (xfix C) (c305_X6_rangeEnd l G cy sa sv (a 31) (a 32) (a 33) (a 34) (a 35) (a 36) (a 37) (a 38) (xs 1) (xs 2) p1 (xtr C) _) (cwV 3 (xhts C) (xgV (maxL := 0) (cc := ⟨#[]⟩) (ret := none) gw_682 gw_683 gw_684 gw_58 gc_X6_rangeEnd) rfl rfl rfl (by decide +kernel) ⟨(Nat.le_of_ble_eq_true rfl), (Nat.le_of_ble_eq_true rfl)⟩) (xPV C w [28, 29] rfl (by decide) (ci := 10) (q0 := 28) rfl rfl) rfl rfl hl.1 rfl (lv_room (Nat.le_of_ble_eq_true rfl)) dL_law_1246 ⟨(Nat.le_of_ble_eq_true rfl), (Nat.le_of_ble_eq_true rfl)⟩) (fun f1734 H locs w => ?_)
  have w : xW G A s [((a 3), .inl (cy 1, 24, .inl (fun _ => 0))), ((a 4), .inr (6, [.ref (a 5), .int 0])), ((a 5), .inl (cy 1, 24, .inl (fun _ => 0))), ((a 6), .inr (6, [.ref (a 7), .int 0])), ((a 7), .inl (cy 1, 24, .inl (fun _ => 0))), ((a 8), .inr (5, [.ref (a 9), .ref (a 11), .ref (a 13), .int 0])), ((a 9), .inr (6, [.ref (a 10), .int 0])), ((a 10), .inl (cy 1, 624, .inl (fun _ => 0))), ((a 11), .inr (6, [.ref (a 12), .int 0])), ((a 12), .inl (cy 1, 624, .inl (fun _ => 0))), ((a 13), .inr (6, [.ref (a 14), .int 0])), ((a 14), .inl (cy 1, 12, .inl (fun _ => 0))), ((a 15), .inr (7, [.ref (a 16), .ref (a 18)])), ((a 16), .inr (6, [.ref (a 17), .int 0])), ((a 17), .inl (cy 1, 24, .inl (fun _ => 0))), ((a 18), .inr (6, [.ref (a 19), .int 0])), ((a 19), .inl (cy 1, 24, .inl (fun _ => 0))), ((a 20), .inl (cy 3, 3, .inr (.inr (.inr (.inr (va_up (va_up (va_up (fun _ => none) 0 (some (a 21))) 1 (some (a 22))) 2 (some (a 23)))))))), ((a 21), .inr (4, [.int 0, .int 0, .int 0])), ((a 22), .inr (4, [.int 0, .int 0, .int 0])), ((a 23), .inr (4, [.int 0, .int 0, .int 0])), ((a 24), .inr (6, [.ref (a 25), .int 0])), ((a 25), .inl (cy 1, 24, .inl (fun _ => 0))), ((a 26), .inr (7, [.ref (a 27), .ref (a 29)])), ((a 27), .inr (6, [.ref (a 28), .int 0])), ((a 28), .inl (cy 1, 24, .inl (fun _ => 0))), ((a 29), .inr (6, [.ref (a 30), .int 0])), ((a 30), .inl (cy 1, 24, .inl (fun _ => 0))), ((a 33), .inr (3, [.int 0, .ref (sv 0), .int 0])), ((a 34), .inr (3, [.int 0, .ref (sv 0), .int 0])), ((a 35), .inr (3, [.int 0, .ref (sv 0), .int 0])), ((a 36), .inl (cy 2, 3, .inl (fun _ => 0))), ((a 37), .inl (cy 1, 3, .inl (fun _ => 0))), ((a 38), .inl (cy 1, 3, .inl (fun _ => 0))), ((a 39), .inr (9, [.long 0, .null])), ((a 0), .inr (8, [.ref (a 1), .ref (a 6), .ref (a 8), .ref (a 15), .ref (a 20), .int 0, .ref (a 24), .ref (a 26)])), ((a 1), .inr (7, [.ref (a 2), .ref (a 4)])), ((a 2), .inr (6, [.ref (a 3), .int 0])), ((a 31), .inr (10, [.ref (a 32), .ref (a 33), .ref (a 34), .ref (a 35), .ref (a 36), .ref (a 37), .ref (a 38), .int 0, .int 2])), ((a 32), .inr (3, [.int 0, .ref (sv 0), .int 0]))] H _ := w
  refine W.widen (k := 42) (n := 1545) (Nat.le_of_ble_eq_true rfl) (Nat.le_of_ble_eq_true rfl) ?_
  refine lv_istore (lv' := [(6, .int 0), (5, .int 2), (4, .int 0), (3, .ref (a 39)), (2, .ref (a 31)), (1, .ref (a 0)), (0, .ref b)]) C.1 C.2.1 dL_law_1249 hl (by decide) rfl (fun ls hl => ?_)
  refine lv_aload_n C.1 C.2.1 dL_law_1251 rfl (lv_at hl 4 rfl) ?_
  refine x_ki C w [38] [0, 1, 2, 3, 4, 5, 6, 7, 8, 9, 10, 11, 12, 13, 14, 15, 16, 17, 18, 19, 20, 21, 22, 23, 24, 25, 26, 27, 28, 29, 30, 31, 32, 33, 34, 35, 36, 37, 39] rfl rfl (by decide) (by decide) (va_runV (As := []) (rest := []) (xfix C) (c151_X6_thrown l G cy sa sv (a 31) (a 32) (a 33) (a 34) (a 35) (a 36) (a 37) (a 38) (xtr C) _) (cwV 0 (xhts C) (xgV (maxL := 0) (cc := ⟨#[]⟩) (ret := none) gw_122 gw_123 gw_124 gw_58 gc_X6_thrown) rfl rfl rfl (by decide +kernel) ⟨(Nat.le_of_ble_eq_true rfl), (Nat.le_of_ble_eq_true rfl)⟩) (xPV C w [38] rfl (by decide) (ci := 10) (q0 := 38) rfl rfl) rfl rfl hl.1 rfl (lv_room (Nat.le_of_ble_eq_true rfl)) dL_law_1252 ⟨(Nat.le_of_ble_eq_true rfl), (Nat.le_of_ble_eq_true rfl)⟩) (fun f1735 H locs w => ?_)
  have w : xW G A s [((a 3), .inl (cy 1, 24, .inl (fun _ => 0))), ((a 4), .inr (6, [.ref (a 5), .int 0])), ((a 5), .inl (cy 1, 24, .inl (fun _ => 0))), ((a 6), .inr (6, [.ref (a 7), .int 0])), ((a 7), .inl (cy 1, 24, .inl (fun _ => 0))), ((a 8), .inr (5, [.ref (a 9), .ref (a 11), .ref (a 13), .int 0])), ((a 9), .inr (6, [.ref (a 10), .int 0])), ((a 10), .inl (cy 1, 624, .inl (fun _ => 0))), ((a 11), .inr (6, [.ref (a 12), .int 0])), ((a 12), .inl (cy 1, 624, .inl (fun _ => 0))), ((a 13), .inr (6, [.ref (a 14), .int 0])), ((a 14), .inl (cy 1, 12, .inl (fun _ => 0))), ((a 15), .inr (7, [.ref (a 16), .ref (a 18)])), ((a 16), .inr (6, [.ref (a 17), .int 0])), ((a 17), .inl (cy 1, 24, .inl (fun _ => 0))), ((a 18), .inr (6, [.ref (a 19), .int 0])), ((a 19), .inl (cy 1, 24, .inl (fun _ => 0))), ((a 20), .inl (cy 3, 3, .inr (.inr (.inr (.inr (va_up (va_up (va_up (fun _ => none) 0 (some (a 21))) 1 (some (a 22))) 2 (some (a 23)))))))), ((a 21), .inr (4, [.int 0, .int 0, .int 0])), ((a 22), .inr (4, [.int 0, .int 0, .int 0])), ((a 23), .inr (4, [.int 0, .int 0, .int 0])), ((a 24), .inr (6, [.ref (a 25), .int 0])), ((a 25), .inl (cy 1, 24, .inl (fun _ => 0))), ((a 26), .inr (7, [.ref (a 27), .ref (a 29)])), ((a 27), .inr (6, [.ref (a 28), .int 0])), ((a 28), .inl (cy 1, 24, .inl (fun _ => 0))), ((a 29), .inr (6, [.ref (a 30), .int 0])), ((a 30), .inl (cy 1, 24, .inl (fun _ => 0))), ((a 33), .inr (3, [.int 0, .ref (sv 0), .int 0])), ((a 34), .inr (3, [.int 0, .ref (sv 0), .int 0])), ((a 35), .inr (3, [.int 0, .ref (sv 0), .int 0])), ((a 36), .inl (cy 2, 3, .inl (fun _ => 0))), ((a 37), .inl (cy 1, 3, .inl (fun _ => 0))), ((a 38), .inl (cy 1, 3, .inl (fun _ => 0))), ((a 39), .inr (9, [.long 0, .null])), ((a 0), .inr (8, [.ref (a 1), .ref (a 6), .ref (a 8), .ref (a 15), .ref (a 20), .int 0, .ref (a 24), .ref (a 26)])), ((a 1), .inr (7, [.ref (a 2), .ref (a 4)])), ((a 2), .inr (6, [.ref (a 3), .int 0])), ((a 32), .inr (3, [.int 0, .ref (sv 0), .int 0])), ((a 31), .inr (10, [.ref (a 32), .ref (a 33), .ref (a 34), .ref (a 35), .ref (a 36), .ref (a 37), .ref (a 38), .int 0, .int 2]))] H _ := w
  refine lv_iload C.1 C.2.1 dL_law_1255 (lv_at hl 1 rfl) ?_
  refine lv_icmp_eq (tgt := 1262) C.1 C.2.1 dL_law_1257 (by decide) (fun _ => ?_) (fun c9 => absurd (by decide) c9)
  refine lv_iload C.1 C.2.1 dL_law_1262 (lv_at hl 1 rfl) ?_
  refine lv_if_ne (tgt := 1280) C.1 C.2.1 dL_law_1264 (by decide) (fun _ => ?_) (fun c9 => absurd c9 (by decide))
  refine lv_goto (tgt := 2509) C.1 C.2.1 dL_law_1280 (by decide) ?_
  refine lv_iinc (v := 5) (lv' := [(4, .int 5), (6, .int 0), (5, .int 2), (3, .ref (a 39)), (2, .ref (a 31)), (1, .ref (a 0)), (0, .ref b)]) C.1 C.2.1 dL_law_2509 hl (k := 2) rfl (by decide) (by decide) rfl (fun ls hl => ?_)
  refine lv_goto (tgt := 27) C.1 C.2.1 dL_law_2512 (by decide) ?_
  refine lv_iload C.1 C.2.1 dL_law_27 (lv_at hl 0 rfl) ?_
  refine lv_aload_n C.1 C.2.1 dL_law_29 rfl (lv_at hl 6 rfl) ?_
  refine va_slen C.1 C.2.1 hX hbl hbA w.2.2 dL_law_30 ?_
  refine x_is (y := 5) (by decide) ?_
  refine lv_iconst (v := 5) C.1 C.2.1 dL_law_31 (by decide) ?_
  refine lv_isub C.1 C.2.1 dL_law_32 ?_
  refine x_is (y := 0) (by decide) ?_
  refine lv_icmp_gt (tgt := 2515) C.1 C.2.1 dL_law_33 (by decide) (fun _ => ?_) (fun c9 => absurd (by decide) c9)
  refine lv_iconst (v := 1) C.1 C.2.1 dL_law_2515 (by decide) ?_
  refine va_forget (fun q hq => hAl _ (w.2.2.2.2 q hq)) ?_
  refine W.widen (k := 600002) (n := 7302232) (Nat.le_of_ble_eq_true rfl) (Nat.le_of_ble_eq_true rfl) ?_
  exact lw_ret C.1 C.2.1 hr (xlk C) dL_law_2516
set_option maxHeartbeats 8000000 in
set_option maxRecDepth 100000 in
theorem law_22_45 {p : Program} {e : Env} {s : State} {m : MethodId} {below : List Frame} {meth : Method} {c : Code} {l : Launch} {G : va_G} {cy : Nat → ClassId} {sa : String → Nat → Nat} {sv : Nat → Nat} {A : Nat → Prop} {b : Nat} {xs : Nat → Int32} {a : Nat → Nat} {H : Heap} {locs : List Loc} {ls : Array Slot} (C : xC p l s m #[Value.ref b] meth c code 7 "TwinindexLaw" (Cond.initialized "TwinindexLaw" :: XG) G cy sa sv A) (hr : meth.sig.returnType = ret) (hX : va_X b 5 xs s s.heap) (hbl : b < s.heap.size) (hbA : ¬ A b) (hAl : ∀ q, A q → s.heap.size ≤ q) (w : xW G A s (xW0 cy sv a) H locs) (hl : lv_has ls 7 [(4, .int 0), (3, .ref (a 39)), (2, .ref (a 31)), (1, .ref (a 0)), (0, .ref b)]) (hk : ((xs 0) &&& 63) = 22) (p0 : (xs 3) = 0) (p1 : ¬ (xs 1) ≤ (xs 2)) : W p l e room_1 s m #[Value.ref b] below meth c H locs 40 1536 (lw_Z below #[Value.ref b] s) (F0 m 27 ls []) := by
  have w : xW G A s [((a 0), .inr (8, [.ref (a 1), .ref (a 6), .ref (a 8), .ref (a 15), .ref (a 20), .int 0, .ref (a 24), .ref (a 26)])), ((a 1), .inr (7, [.ref (a 2), .ref (a 4)])), ((a 2), .inr (6, [.ref (a 3), .int 0])), ((a 3), .inl (cy 1, 24, .inl (fun _ => 0))), ((a 4), .inr (6, [.ref (a 5), .int 0])), ((a 5), .inl (cy 1, 24, .inl (fun _ => 0))), ((a 6), .inr (6, [.ref (a 7), .int 0])), ((a 7), .inl (cy 1, 24, .inl (fun _ => 0))), ((a 8), .inr (5, [.ref (a 9), .ref (a 11), .ref (a 13), .int 0])), ((a 9), .inr (6, [.ref (a 10), .int 0])), ((a 10), .inl (cy 1, 624, .inl (fun _ => 0))), ((a 11), .inr (6, [.ref (a 12), .int 0])), ((a 12), .inl (cy 1, 624, .inl (fun _ => 0))), ((a 13), .inr (6, [.ref (a 14), .int 0])), ((a 14), .inl (cy 1, 12, .inl (fun _ => 0))), ((a 15), .inr (7, [.ref (a 16), .ref (a 18)])), ((a 16), .inr (6, [.ref (a 17), .int 0])), ((a 17), .inl (cy 1, 24, .inl (fun _ => 0))), ((a 18), .inr (6, [.ref (a 19), .int 0])), ((a 19), .inl (cy 1, 24, .inl (fun _ => 0))), ((a 20), .inl (cy 3, 3, .inr (.inr (.inr (.inr (va_up (va_up (va_up (fun _ => none) 0 (some (a 21))) 1 (some (a 22))) 2 (some (a 23)))))))), ((a 21), .inr (4, [.int 0, .int 0, .int 0])), ((a 22), .inr (4, [.int 0, .int 0, .int 0])), ((a 23), .inr (4, [.int 0, .int 0, .int 0])), ((a 24), .inr (6, [.ref (a 25), .int 0])), ((a 25), .inl (cy 1, 24, .inl (fun _ => 0))), ((a 26), .inr (7, [.ref (a 27), .ref (a 29)])), ((a 27), .inr (6, [.ref (a 28), .int 0])), ((a 28), .inl (cy 1, 24, .inl (fun _ => 0))), ((a 29), .inr (6, [.ref (a 30), .int 0])), ((a 30), .inl (cy 1, 24, .inl (fun _ => 0))), ((a 31), .inr (10, [.ref (a 32), .ref (a 33), .ref (a 34), .ref (a 35), .ref (a 36), .ref (a 37), .ref (a 38), .int 0, .int 0])), ((a 32), .inr (3, [.int 0, .ref (sv 0), .int 0])), ((a 33), .inr (3, [.int 0, .ref (sv 0), .int 0])), ((a 34), .inr (3, [.int 0, .ref (sv 0), .int 0])), ((a 35), .inr (3, [.int 0, .ref (sv 0), .int 0])), ((a 36), .inl (cy 2, 3, .inl (fun _ => 0))), ((a 37), .inl (cy 1, 3, .inl (fun _ => 0))), ((a 38), .inl (cy 1, 3, .inl (fun _ => 0))), ((a 39), .inr (9, [.long 0, .null]))] H _ := w
  refine lv_iload C.1 C.2.1 dL_law_27 (lv_at hl 0 rfl) ?_
  refine lv_aload_n C.1 C.2.1 dL_law_29 rfl (lv_at hl 4 rfl) ?_
  refine va_slen C.1 C.2.1 hX hbl hbA w.2.2 dL_law_30 ?_
  refine x_is (y := 5) (by decide) ?_
  refine lv_iconst (v := 5) C.1 C.2.1 dL_law_31 (by decide) ?_
  refine lv_isub C.1 C.2.1 dL_law_32 ?_
  refine x_is (y := 0) (by decide) ?_
  refine lv_icmp_gt (tgt := 2515) C.1 C.2.1 dL_law_33 (by decide) (fun c9 => absurd c9 (by decide)) (fun _ => ?_)
  refine lv_aload_n C.1 C.2.1 dL_law_36 rfl (lv_at hl 4 rfl) ?_
  refine lv_iload C.1 C.2.1 dL_law_37 (lv_at hl 0 rfl) ?_
  refine va_sld C.1 C.2.1 hX hbl hbA w.2.2 (xvin (by decide)) dL_law_39 ?_
  refine x_is (y := (xs 0)) (by rfl) ?_
  refine lv_bipush (v := 63) C.1 C.2.1 dL_law_40 (by decide) ?_
  refine lv_iand C.1 C.2.1 dL_law_42 ?_
  refine x_is (y := 22) hk ?_
  refine lv_tableIn (off := 1143) (tgt := 1186) C.1 C.2.1 dL_law_43 (by decide) (by decide) (by decide) (by decide) ?_
  refine lv_aload_n C.1 C.2.1 dL_law_1186 rfl (lv_at hl 3 rfl) ?_
  refine lv_aload_n C.1 C.2.1 dL_law_1187 rfl (lv_at hl 4 rfl) ?_
  refine lv_iload C.1 C.2.1 dL_law_1188 (lv_at hl 0 rfl) ?_
  refine lv_iconst (v := 1) C.1 C.2.1 dL_law_1190 (by decide) ?_
  refine lv_iadd C.1 C.2.1 dL_law_1191 ?_
  refine x_is (y := 1) (by decide) ?_
  refine va_sld C.1 C.2.1 hX hbl hbA w.2.2 (xvin (by decide)) dL_law_1192 ?_
  refine x_is (y := (xs 1)) (by rfl) ?_
  refine lv_aload_n C.1 C.2.1 dL_law_1193 rfl (lv_at hl 4 rfl) ?_
  refine lv_iload C.1 C.2.1 dL_law_1194 (lv_at hl 0 rfl) ?_
  refine lv_iconst (v := 2) C.1 C.2.1 dL_law_1196 (by decide) ?_
  refine lv_iadd C.1 C.2.1 dL_law_1197 ?_
  refine x_is (y := 2) (by decide) ?_
  refine va_sld C.1 C.2.1 hX hbl hbA w.2.2 (xvin (by decide)) dL_law_1198 ?_
  refine x_is (y := (xs 2)) (by rfl) ?_
  refine lv_aload_n C.1 C.2.1 dL_law_1199 rfl (lv_at hl 4 rfl) ?_
  refine lv_iload C.1 C.2.1 dL_law_1200 (lv_at hl 0 rfl) ?_
  refine lv_iconst (v := 3) C.1 C.2.1 dL_law_1202 (by decide) ?_
  refine lv_iadd C.1 C.2.1 dL_law_1203 ?_
  refine x_is (y := 3) (by decide) ?_
  refine va_sld C.1 C.2.1 hX hbl hbA w.2.2 (xvin (by decide)) dL_law_1204 ?_
  refine x_is (y := (xs 3)) (by rfl) ?_
  refine lv_if_eq (tgt := 1212) C.1 C.2.1 dL_law_1205 (by decide) (fun _ => ?_) (fun c9 => absurd p0 c9)
  refine lv_iconst (v := 0) C.1 C.2.1 dL_law_1212 (by decide) ?_
  refine lv_aload_n C.1 C.2.1 dL_law_1213 rfl (lv_at hl 1 rfl) ?_
  refine x_ki C w [0] [1, 2, 3, 4, 5, 6, 7, 8, 9, 10, 11, 12, 13, 14, 15, 16, 17, 18, 19, 20, 21, 22, 23, 24, 25, 26, 27, 28, 29, 30, 31, 32, 33, 34, 35, 36, 37, 38, 39] rfl rfl (by decide) (by decide) (vx_runSW (As := [.ref (a 0), .int (xs 1), .int (xs 2), .int 0, .ref (a 39)]) (rest := []) (xfix C) (c308_L_rangeEnd l G cy sa sv (a 0) (a 39) (a 1) (a 6) (a 8) (a 15) (a 20) (a 24) (a 26) (xs 1) (xs 2) p1 (xtr C) _) (vx_cwSW 5 (xhts C) (xgS gw_679 gw_680 gw_106 gc_L_rangeEnd) rfl rfl rfl (by decide +kernel) ⟨(Nat.le_of_ble_eq_true rfl), (Nat.le_of_ble_eq_true rfl)⟩) (xPS C w [0] rfl (by decide)) rfl rfl hl.1 rfl (lv_room (Nat.le_of_ble_eq_true rfl)) dL_law_1214 ⟨(Nat.le_of_ble_eq_true rfl), (Nat.le_of_ble_eq_true rfl)⟩) (fun f1742 H locs w => ?_)
  have w : xW G A s [((a 1), .inr (7, [.ref (a 2), .ref (a 4)])), ((a 2), .inr (6, [.ref (a 3), .int 0])), ((a 3), .inl (cy 1, 24, .inl (fun _ => 0))), ((a 4), .inr (6, [.ref (a 5), .int 0])), ((a 5), .inl (cy 1, 24, .inl (fun _ => 0))), ((a 6), .inr (6, [.ref (a 7), .int 0])), ((a 7), .inl (cy 1, 24, .inl (fun _ => 0))), ((a 8), .inr (5, [.ref (a 9), .ref (a 11), .ref (a 13), .int 0])), ((a 9), .inr (6, [.ref (a 10), .int 0])), ((a 10), .inl (cy 1, 624, .inl (fun _ => 0))), ((a 11), .inr (6, [.ref (a 12), .int 0])), ((a 12), .inl (cy 1, 624, .inl (fun _ => 0))), ((a 13), .inr (6, [.ref (a 14), .int 0])), ((a 14), .inl (cy 1, 12, .inl (fun _ => 0))), ((a 15), .inr (7, [.ref (a 16), .ref (a 18)])), ((a 16), .inr (6, [.ref (a 17), .int 0])), ((a 17), .inl (cy 1, 24, .inl (fun _ => 0))), ((a 18), .inr (6, [.ref (a 19), .int 0])), ((a 19), .inl (cy 1, 24, .inl (fun _ => 0))), ((a 20), .inl (cy 3, 3, .inr (.inr (.inr (.inr (va_up (va_up (va_up (fun _ => none) 0 (some (a 21))) 1 (some (a 22))) 2 (some (a 23)))))))), ((a 21), .inr (4, [.int 0, .int 0, .int 0])), ((a 22), .inr (4, [.int 0, .int 0, .int 0])), ((a 23), .inr (4, [.int 0, .int 0, .int 0])), ((a 24), .inr (6, [.ref (a 25), .int 0])), ((a 25), .inl (cy 1, 24, .inl (fun _ => 0))), ((a 26), .inr (7, [.ref (a 27), .ref (a 29)])), ((a 27), .inr (6, [.ref (a 28), .int 0])), ((a 28), .inl (cy 1, 24, .inl (fun _ => 0))), ((a 29), .inr (6, [.ref (a 30), .int 0])), ((a 30), .inl (cy 1, 24, .inl (fun _ => 0))), ((a 31), .inr (10, [.ref (a 32), .ref (a 33), .ref (a 34), .ref (a 35), .ref (a 36), .ref (a 37), .ref (a 38), .int 0, .int 0])), ((a 32), .inr (3, [.int 0, .ref (sv 0), .int 0])), ((a 33), .inr (3, [.int 0, .ref (sv 0), .int 0])), ((a 34), .inr (3, [.int 0, .ref (sv 0), .int 0])), ((a 35), .inr (3, [.int 0, .ref (sv 0), .int 0])), ((a 36), .inl (cy 2, 3, .inl (fun _ => 0))), ((a 37), .inl (cy 1, 3, .inl (fun _ => 0))), ((a 38), .inl (cy 1, 3, .inl (fun _ => 0))), ((a 39), .inr (9, [.long 0, .null])), ((a 0), .inr (8, [.ref (a 1), .ref (a 6), .ref (a 8), .ref (a 15), .ref (a 20), .int 0, .ref (a 24), .ref (a 26)]))] H _ := w
  refine W.widen (k := 41) (n := 1542) (Nat.le_of_ble_eq_true rfl) (Nat.le_of_ble_eq_true rfl) ?_
  refine lv_istore (lv' := [(5, .int 1), (4, .int 0), (3, .ref (a 39)), (2, .ref (a 31)), (1, .ref (a 0)), (0, .ref b)]) C.1 C.2.1 dL_law_1217 hl (by decide) rfl (fun ls hl => ?_)
  refine lv_aload_n C.1 C.2.1 dL_law_1219 rfl (lv_at hl 3 rfl) ?_
  refine lv_aload_n C.1 C.2.1 dL_law_1220 rfl (lv_at hl 5 rfl) ?_
  refine lv_iload C.1 C.2.1 dL_law_1221 (lv_at hl 1 rfl) ?_
  refine lv_iconst (v := 1) C.1 C.2.1 dL_law_1223 (by decide) ?_
  refine lv_iadd C.1 C.2.1 dL_law_1224 ?_
  refine x_is (y := 1) (by decide) ?_
  refine va_sld C.1 C.2.1 hX hbl hbA w.2.2 (xvin (by decide)) dL_law_1225 ?_
  refine x_is (y := (xs 1)) (by rfl) ?_
  refine lv_aload_n C.1 C.2.1 dL_law_1226 rfl (lv_at hl 5 rfl) ?_
  refine lv_iload C.1 C.2.1 dL_law_1227 (lv_at hl 1 rfl) ?_
  refine lv_iconst (v := 2) C.1 C.2.1 dL_law_1229 (by decide) ?_
  refine lv_iadd C.1 C.2.1 dL_law_1230 ?_
  refine x_is (y := 2) (by decide) ?_
  refine va_sld C.1 C.2.1 hX hbl hbA w.2.2 (xvin (by decide)) dL_law_1231 ?_
  refine x_is (y := (xs 2)) (by rfl) ?_
  refine lv_aload_n C.1 C.2.1 dL_law_1232 rfl (lv_at hl 5 rfl) ?_
  refine lv_iload C.1 C.2.1 dL_law_1233 (lv_at hl 1 rfl) ?_
  refine lv_iconst (v := 3) C.1 C.2.1 dL_law_1235 (by decide) ?_
  refine lv_iadd C.1 C.2.1 dL_law_1236 ?_
  refine x_is (y := 3) (by decide) ?_
  refine va_sld C.1 C.2.1 hX hbl hbA w.2.2 (xvin (by decide)) dL_law_1237 ?_
  refine x_is (y := (xs 3)) (by rfl) ?_
  refine lv_if_eq (tgt := 1245) C.1 C.2.1 dL_law_1238 (by decide) (fun _ => ?_) (fun c9 => absurd p0 c9)
  refine lv_iconst (v := 0) C.1 C.2.1 dL_law_1245 (by decide) ?_
  refine x_ki C w [30] [0, 1, 2, 3, 4, 5, 6, 7, 8, 9, 10, 11, 12, 13, 14, 15, 16, 17, 18, 19, 20, 21, 22, 23, 24, 25, 26, 27, 28, 29, 31, 32, 33, 34, 35, 36, 37, 38, 39] rfl rfl (by decide) (by decide) (va_runV (As := [.int (xs 1), .int (xs 2), .int 0]) (rest := []) (xfix C) (c309_X6_rangeEnd l G cy sa sv (a 31) (a 32) (a 33) (a 34) (a 35) (a 36) (a 37) (a 38) (xs 1) (xs 2) p1 (xtr C) _) (cwV 3 (xhts C) (xgV (maxL := 0) (cc := ⟨#[]⟩) (ret := none) gw_682 gw_683 gw_684 gw_58 gc_X6_rangeEnd) rfl rfl rfl (by decide +kernel) ⟨(Nat.le_of_ble_eq_true rfl), (Nat.le_of_ble_eq_true rfl)⟩) (xPV C w [30] rfl (by decide) (ci := 10) (q0 := 30) rfl rfl) rfl rfl hl.1 rfl (lv_room (Nat.le_of_ble_eq_true rfl)) dL_law_1246 ⟨(Nat.le_of_ble_eq_true rfl), (Nat.le_of_ble_eq_true rfl)⟩) (fun f1744 H locs w => ?_)
  have w : xW G A s [((a 1), .inr (7, [.ref (a 2), .ref (a 4)])), ((a 2), .inr (6, [.ref (a 3), .int 0])), ((a 3), .inl (cy 1, 24, .inl (fun _ => 0))), ((a 4), .inr (6, [.ref (a 5), .int 0])), ((a 5), .inl (cy 1, 24, .inl (fun _ => 0))), ((a 6), .inr (6, [.ref (a 7), .int 0])), ((a 7), .inl (cy 1, 24, .inl (fun _ => 0))), ((a 8), .inr (5, [.ref (a 9), .ref (a 11), .ref (a 13), .int 0])), ((a 9), .inr (6, [.ref (a 10), .int 0])), ((a 10), .inl (cy 1, 624, .inl (fun _ => 0))), ((a 11), .inr (6, [.ref (a 12), .int 0])), ((a 12), .inl (cy 1, 624, .inl (fun _ => 0))), ((a 13), .inr (6, [.ref (a 14), .int 0])), ((a 14), .inl (cy 1, 12, .inl (fun _ => 0))), ((a 15), .inr (7, [.ref (a 16), .ref (a 18)])), ((a 16), .inr (6, [.ref (a 17), .int 0])), ((a 17), .inl (cy 1, 24, .inl (fun _ => 0))), ((a 18), .inr (6, [.ref (a 19), .int 0])), ((a 19), .inl (cy 1, 24, .inl (fun _ => 0))), ((a 20), .inl (cy 3, 3, .inr (.inr (.inr (.inr (va_up (va_up (va_up (fun _ => none) 0 (some (a 21))) 1 (some (a 22))) 2 (some (a 23)))))))), ((a 21), .inr (4, [.int 0, .int 0, .int 0])), ((a 22), .inr (4, [.int 0, .int 0, .int 0])), ((a 23), .inr (4, [.int 0, .int 0, .int 0])), ((a 24), .inr (6, [.ref (a 25), .int 0])), ((a 25), .inl (cy 1, 24, .inl (fun _ => 0))), ((a 26), .inr (7, [.ref (a 27), .ref (a 29)])), ((a 27), .inr (6, [.ref (a 28), .int 0])), ((a 28), .inl (cy 1, 24, .inl (fun _ => 0))), ((a 29), .inr (6, [.ref (a 30), .int 0])), ((a 30), .inl (cy 1, 24, .inl (fun _ => 0))), ((a 32), .inr (3, [.int 0, .ref (sv 0), .int 0])), ((a 33), .inr (3, [.int 0, .ref (sv 0), .int 0])), ((a 34), .inr (3, [.int 0, .ref (sv 0), .int 0])), ((a 35), .inr (3, [.int 0, .ref (sv 0), .int 0])), ((a 36), .inl (cy 2, 3, .inl (fun _ => 0))), ((a 37), .inl (cy 1, 3, .inl (fun _ => 0))), ((a 38), .inl (cy 1, 3, .inl (fun _ => 0))), ((a 39), .inr (9, [.long 0, .null])), ((a 0), .inr (8, [.ref (a 1), .ref (a 6), .ref (a 8), .ref (a 15), .ref (a 20), .int 0, .ref (a 24), .ref (a 26)])), ((a 31), .inr (10, [.ref (a 32), .ref (a 33), .ref (a 34), .ref (a 35), .ref (a 36), .ref (a 37), .ref (a 38), .int 0, .int 1]))] H _ := w
  refine lv_istore (lv' := [(6, .int 0), (5, .int 1), (4, .int 0), (3, .ref (a 39)), (2, .ref (a 31)), (1, .ref (a 0)), (0, .ref b)]) C.1 C.2.1 dL_law_1249 hl (by decide) rfl (fun ls hl => ?_)
  refine lv_aload_n C.1 C.2.1 dL_law_1251 rfl (lv_at hl 4 rfl) ?_
  refine x_ki C w [39] [0, 1, 2, 3, 4, 5, 6, 7, 8, 9, 10, 11, 12, 13, 14, 15, 16, 17, 18, 19, 20, 21, 22, 23, 24, 25, 26, 27, 28, 29, 30, 31, 32, 33, 34, 35, 36, 37, 38] rfl rfl (by decide) (by decide) (va_runV (As := []) (rest := []) (xfix C) (c19_X6_thrown l G cy sa sv (a 31) (a 32) (a 33) (a 34) (a 35) (a 36) (a 37) (a 38) (xtr C) _) (cwV 0 (xhts C) (xgV (maxL := 0) (cc := ⟨#[]⟩) (ret := none) gw_122 gw_123 gw_124 gw_58 gc_X6_thrown) rfl rfl rfl (by decide +kernel) ⟨(Nat.le_of_ble_eq_true rfl), (Nat.le_of_ble_eq_true rfl)⟩) (xPV C w [39] rfl (by decide) (ci := 10) (q0 := 39) rfl rfl) rfl rfl hl.1 rfl (lv_room (Nat.le_of_ble_eq_true rfl)) dL_law_1252 ⟨(Nat.le_of_ble_eq_true rfl), (Nat.le_of_ble_eq_true rfl)⟩) (fun f1745 H locs w => ?_)
  have w : xW G A s [((a 1), .inr (7, [.ref (a 2), .ref (a 4)])), ((a 2), .inr (6, [.ref (a 3), .int 0])), ((a 3), .inl (cy 1, 24, .inl (fun _ => 0))), ((a 4), .inr (6, [.ref (a 5), .int 0])), ((a 5), .inl (cy 1, 24, .inl (fun _ => 0))), ((a 6), .inr (6, [.ref (a 7), .int 0])), ((a 7), .inl (cy 1, 24, .inl (fun _ => 0))), ((a 8), .inr (5, [.ref (a 9), .ref (a 11), .ref (a 13), .int 0])), ((a 9), .inr (6, [.ref (a 10), .int 0])), ((a 10), .inl (cy 1, 624, .inl (fun _ => 0))), ((a 11), .inr (6, [.ref (a 12), .int 0])), ((a 12), .inl (cy 1, 624, .inl (fun _ => 0))), ((a 13), .inr (6, [.ref (a 14), .int 0])), ((a 14), .inl (cy 1, 12, .inl (fun _ => 0))), ((a 15), .inr (7, [.ref (a 16), .ref (a 18)])), ((a 16), .inr (6, [.ref (a 17), .int 0])), ((a 17), .inl (cy 1, 24, .inl (fun _ => 0))), ((a 18), .inr (6, [.ref (a 19), .int 0])), ((a 19), .inl (cy 1, 24, .inl (fun _ => 0))), ((a 20), .inl (cy 3, 3, .inr (.inr (.inr (.inr (va_up (va_up (va_up (fun _ => none) 0 (some (a 21))) 1 (some (a 22))) 2 (some (a 23)))))))), ((a 21), .inr (4, [.int 0, .int 0, .int 0])), ((a 22), .inr (4, [.int 0, .int 0, .int 0])), ((a 23), .inr (4, [.int 0, .int 0, .int 0])), ((a 24), .inr (6, [.ref (a 25), .int 0])), ((a 25), .inl (cy 1, 24, .inl (fun _ => 0))), ((a 26), .inr (7, [.ref (a 27), .ref (a 29)])), ((a 27), .inr (6, [.ref (a 28), .int 0])), ((a 28), .inl (cy 1, 24, .inl (fun _ => 0))), ((a 29), .inr (6, [.ref (a 30), .int 0])), ((a 30), .inl (cy 1, 24, .inl (fun _ => 0))), ((a 32), .inr (3, [.int 0, .ref (sv 0), .int 0])), ((a 33), .inr (3, [.int 0, .ref (sv 0), .int 0])), ((a 34), .inr (3, [.int 0, .ref (sv 0), .int 0])), ((a 35), .inr (3, [.int 0, .ref (sv 0), .int 0])), ((a 36), .inl (cy 2, 3, .inl (fun _ => 0))), ((a 37), .inl (cy 1, 3, .inl (fun _ => 0))), ((a 38), .inl (cy 1, 3, .inl (fun _ => 0))), ((a 39), .inr (9, [.long 0, .null])), ((a 0), .inr (8, [.ref (a 1), .ref (a 6), .ref (a 8), .ref (a 15), .ref (a 20), .int 0, .ref (a 24), .ref (a 26)])), ((a 31), .inr (10, [.ref (a 32), .ref (a 33), .ref (a 34), .ref (a 35), .ref (a 36), .ref (a 37), .ref (a 38), .int 0, .int 1]))] H _ := w
  refine lv_iload C.1 C.2.1 dL_law_1255 (lv_at hl 1 rfl) ?_
  refine lv_icmp_eq (tgt := 1262) C.1 C.2.1 dL_law_1257 (by decide) (fun _ => ?_) (fun c9 => absurd (by decide) c9)
  refine lv_iload C.1 C.2.1 dL_law_1262 (lv_at hl 1 rfl) ?_
  refine lv_if_ne (tgt := 1280) C.1 C.2.1 dL_law_1264 (by decide) (fun _ => ?_) (fun c9 => absurd c9 (by decide))
  refine lv_goto (tgt := 2509) C.1 C.2.1 dL_law_1280 (by decide) ?_
  refine lv_iinc (v := 5) (lv' := [(4, .int 5), (6, .int 0), (5, .int 1), (3, .ref (a 39)), (2, .ref (a 31)), (1, .ref (a 0)), (0, .ref b)]) C.1 C.2.1 dL_law_2509 hl (k := 2) rfl (by decide) (by decide) rfl (fun ls hl => ?_)
  refine lv_goto (tgt := 27) C.1 C.2.1 dL_law_2512 (by decide) ?_
  refine lv_iload C.1 C.2.1 dL_law_27 (lv_at hl 0 rfl) ?_
  refine lv_aload_n C.1 C.2.1 dL_law_29 rfl (lv_at hl 6 rfl) ?_
  refine va_slen C.1 C.2.1 hX hbl hbA w.2.2 dL_law_30 ?_
  refine x_is (y := 5) (by decide) ?_
  refine lv_iconst (v := 5) C.1 C.2.1 dL_law_31 (by decide) ?_
  refine lv_isub C.1 C.2.1 dL_law_32 ?_
  refine x_is (y := 0) (by decide) ?_
  refine lv_icmp_gt (tgt := 2515) C.1 C.2.1 dL_law_33 (by decide) (fun _ => ?_) (fun c9 => absurd (by decide) c9)
  refine lv_iconst (v := 1) C.1 C.2.1 dL_law_2515 (by decide) ?_
  refine va_forget (fun q hq => hAl _ (w.2.2.2.2 q hq)) ?_
  refine W.widen (k := 600002) (n := 7302232) (Nat.le_of_ble_eq_true rfl) (Nat.le_of_ble_eq_true rfl) ?_
  exact lw_ret C.1 C.2.1 hr (xlk C) dL_law_2516
set_option maxHeartbeats 8000000 in
set_option maxRecDepth 100000 in
theorem law_22_46 {p : Program} {e : Env} {s : State} {m : MethodId} {below : List Frame} {meth : Method} {c : Code} {l : Launch} {G : va_G} {cy : Nat → ClassId} {sa : String → Nat → Nat} {sv : Nat → Nat} {A : Nat → Prop} {b : Nat} {xs : Nat → Int32} {a : Nat → Nat} {H : Heap} {locs : List Loc} {ls : Array Slot} (C : xC p l s m #[Value.ref b] meth c code 7 "TwinindexLaw" (Cond.initialized "TwinindexLaw" :: XG) G cy sa sv A) (hr : meth.sig.returnType = ret) (hX : va_X b 5 xs s s.heap) (hbl : b < s.heap.size) (hbA : ¬ A b) (hAl : ∀ q, A q → s.heap.size ≤ q) (w : xW G A s (xW0 cy sv a) H locs) (hl : lv_has ls 7 [(4, .int 0), (3, .ref (a 39)), (2, .ref (a 31)), (1, .ref (a 0)), (0, .ref b)]) (hk : ((xs 0) &&& 63) = 22) (p0 : ¬ (xs 3) = 0) (p1 : (xs 1) ≤ (xs 2)) : W p l e room_1 s m #[Value.ref b] below meth c H locs 40 1536 (lw_Z below #[Value.ref b] s) (F0 m 27 ls []) := by
  have w : xW G A s [((a 0), .inr (8, [.ref (a 1), .ref (a 6), .ref (a 8), .ref (a 15), .ref (a 20), .int 0, .ref (a 24), .ref (a 26)])), ((a 1), .inr (7, [.ref (a 2), .ref (a 4)])), ((a 2), .inr (6, [.ref (a 3), .int 0])), ((a 3), .inl (cy 1, 24, .inl (fun _ => 0))), ((a 4), .inr (6, [.ref (a 5), .int 0])), ((a 5), .inl (cy 1, 24, .inl (fun _ => 0))), ((a 6), .inr (6, [.ref (a 7), .int 0])), ((a 7), .inl (cy 1, 24, .inl (fun _ => 0))), ((a 8), .inr (5, [.ref (a 9), .ref (a 11), .ref (a 13), .int 0])), ((a 9), .inr (6, [.ref (a 10), .int 0])), ((a 10), .inl (cy 1, 624, .inl (fun _ => 0))), ((a 11), .inr (6, [.ref (a 12), .int 0])), ((a 12), .inl (cy 1, 624, .inl (fun _ => 0))), ((a 13), .inr (6, [.ref (a 14), .int 0])), ((a 14), .inl (cy 1, 12, .inl (fun _ => 0))), ((a 15), .inr (7, [.ref (a 16), .ref (a 18)])), ((a 16), .inr (6, [.ref (a 17), .int 0])), ((a 17), .inl (cy 1, 24, .inl (fun _ => 0))), ((a 18), .inr (6, [.ref (a 19), .int 0])), ((a 19), .inl (cy 1, 24, .inl (fun _ => 0))), ((a 20), .inl (cy 3, 3, .inr (.inr (.inr (.inr (va_up (va_up (va_up (fun _ => none) 0 (some (a 21))) 1 (some (a 22))) 2 (some (a 23)))))))), ((a 21), .inr (4, [.int 0, .int 0, .int 0])), ((a 22), .inr (4, [.int 0, .int 0, .int 0])), ((a 23), .inr (4, [.int 0, .int 0, .int 0])), ((a 24), .inr (6, [.ref (a 25), .int 0])), ((a 25), .inl (cy 1, 24, .inl (fun _ => 0))), ((a 26), .inr (7, [.ref (a 27), .ref (a 29)])), ((a 27), .inr (6, [.ref (a 28), .int 0])), ((a 28), .inl (cy 1, 24, .inl (fun _ => 0))), ((a 29), .inr (6, [.ref (a 30), .int 0])), ((a 30), .inl (cy 1, 24, .inl (fun _ => 0))), ((a 31), .inr (10, [.ref (a 32), .ref (a 33), .ref (a 34), .ref (a 35), .ref (a 36), .ref (a 37), .ref (a 38), .int 0, .int 0])), ((a 32), .inr (3, [.int 0, .ref (sv 0), .int 0])), ((a 33), .inr (3, [.int 0, .ref (sv 0), .int 0])), ((a 34), .inr (3, [.int 0, .ref (sv 0), .int 0])), ((a 35), .inr (3, [.int 0, .ref (sv 0), .int 0])), ((a 36), .inl (cy 2, 3, .inl (fun _ => 0))), ((a 37), .inl (cy 1, 3, .inl (fun _ => 0))), ((a 38), .inl (cy 1, 3, .inl (fun _ => 0))), ((a 39), .inr (9, [.long 0, .null]))] H _ := w
  refine lv_iload C.1 C.2.1 dL_law_27 (lv_at hl 0 rfl) ?_
  refine lv_aload_n C.1 C.2.1 dL_law_29 rfl (lv_at hl 4 rfl) ?_
  refine va_slen C.1 C.2.1 hX hbl hbA w.2.2 dL_law_30 ?_
  refine x_is (y := 5) (by decide) ?_
  refine lv_iconst (v := 5) C.1 C.2.1 dL_law_31 (by decide) ?_
  refine lv_isub C.1 C.2.1 dL_law_32 ?_
  refine x_is (y := 0) (by decide) ?_
  refine lv_icmp_gt (tgt := 2515) C.1 C.2.1 dL_law_33 (by decide) (fun c9 => absurd c9 (by decide)) (fun _ => ?_)
  refine lv_aload_n C.1 C.2.1 dL_law_36 rfl (lv_at hl 4 rfl) ?_
  refine lv_iload C.1 C.2.1 dL_law_37 (lv_at hl 0 rfl) ?_
  refine va_sld C.1 C.2.1 hX hbl hbA w.2.2 (xvin (by decide)) dL_law_39 ?_
  refine x_is (y := (xs 0)) (by rfl) ?_
  refine lv_bipush (v := 63) C.1 C.2.1 dL_law_40 (by decide) ?_
  refine lv_iand C.1 C.2.1 dL_law_42 ?_
  refine x_is (y := 22) hk ?_
  refine lv_tableIn (off := 1143) (tgt := 1186) C.1 C.2.1 dL_law_43 (by decide) (by decide) (by decide) (by decide) ?_
  refine lv_aload_n C.1 C.2.1 dL_law_1186 rfl (lv_at hl 3 rfl) ?_
  refine lv_aload_n C.1 C.2.1 dL_law_1187 rfl (lv_at hl 4 rfl) ?_
  refine lv_iload C.1 C.2.1 dL_law_1188 (lv_at hl 0 rfl) ?_
  refine lv_iconst (v := 1) C.1 C.2.1 dL_law_1190 (by decide) ?_
  refine lv_iadd C.1 C.2.1 dL_law_1191 ?_
  refine x_is (y := 1) (by decide) ?_
  refine va_sld C.1 C.2.1 hX hbl hbA w.2.2 (xvin (by decide)) dL_law_1192 ?_
  refine x_is (y := (xs 1)) (by rfl) ?_
  refine lv_aload_n C.1 C.2.1 dL_law_1193 rfl (lv_at hl 4 rfl) ?_
  refine lv_iload C.1 C.2.1 dL_law_1194 (lv_at hl 0 rfl) ?_
  refine lv_iconst (v := 2) C.1 C.2.1 dL_law_1196 (by decide) ?_
  refine lv_iadd C.1 C.2.1 dL_law_1197 ?_
  refine x_is (y := 2) (by decide) ?_
  refine va_sld C.1 C.2.1 hX hbl hbA w.2.2 (xvin (by decide)) dL_law_1198 ?_
  refine x_is (y := (xs 2)) (by rfl) ?_
  refine lv_aload_n C.1 C.2.1 dL_law_1199 rfl (lv_at hl 4 rfl) ?_
  refine lv_iload C.1 C.2.1 dL_law_1200 (lv_at hl 0 rfl) ?_
  refine lv_iconst (v := 3) C.1 C.2.1 dL_law_1202 (by decide) ?_
  refine lv_iadd C.1 C.2.1 dL_law_1203 ?_
  refine x_is (y := 3) (by decide) ?_
  refine va_sld C.1 C.2.1 hX hbl hbA w.2.2 (xvin (by decide)) dL_law_1204 ?_
  refine x_is (y := (xs 3)) (by rfl) ?_
  refine lv_if_eq (tgt := 1212) C.1 C.2.1 dL_law_1205 (by decide) (fun c9 => absurd c9 p0) (fun _ => ?_)
  refine lv_iconst (v := 1) C.1 C.2.1 dL_law_1208 (by decide) ?_
  refine lv_goto (tgt := 1213) C.1 C.2.1 dL_law_1209 (by decide) ?_
  refine lv_aload_n C.1 C.2.1 dL_law_1213 rfl (lv_at hl 1 rfl) ?_
  refine x_ki C w [0, 1, 2] [3, 4, 5, 6, 7, 8, 9, 10, 11, 12, 13, 14, 15, 16, 17, 18, 19, 20, 21, 22, 23, 24, 25, 26, 27, 28, 29, 30, 31, 32, 33, 34, 35, 36, 37, 38, 39] rfl rfl (by decide) (by decide) (vx_runSW (As := [.ref (a 0), .int (xs 1), .int (xs 2), .int 1, .ref (a 39)]) (rest := []) (xfix C) (c311_L_rangeEnd l G cy sa sv (a 0) (a 39) (a 1) (a 2) (a 6) (a 8) (a 15) (a 20) (a 24) (a 26) (a 4) (a 3) (xs 1) (xs 2) p1 (xtr C) _) (vx_cwSW 5 (xhts C) (xgS gw_679 gw_680 gw_106 gc_L_rangeEnd) rfl rfl rfl (by decide +kernel) ⟨(Nat.le_of_ble_eq_true rfl), (Nat.le_of_ble_eq_true rfl)⟩) (xPS C w [0, 1, 2] rfl (by decide)) rfl rfl hl.1 rfl (lv_room (Nat.le_of_ble_eq_true rfl)) dL_law_1214 ⟨(Nat.le_of_ble_eq_true rfl), (Nat.le_of_ble_eq_true rfl)⟩) (fun f1763 H locs w => ?_)
  have w : xW G A s [((a 3), .inl (cy 1, 24, .inl (fun _ => 0))), ((a 4), .inr (6, [.ref (a 5), .int 0])), ((a 5), .inl (cy 1, 24, .inl (fun _ => 0))), ((a 6), .inr (6, [.ref (a 7), .int 0])), ((a 7), .inl (cy 1, 24, .inl (fun _ => 0))), ((a 8), .inr (5, [.ref (a 9), .ref (a 11), .ref (a 13), .int 0])), ((a 9), .inr (6, [.ref (a 10), .int 0])), ((a 10), .inl (cy 1, 624, .inl (fun _ => 0))), ((a 11), .inr (6, [.ref (a 12), .int 0])), ((a 12), .inl (cy 1, 624, .inl (fun _ => 0))), ((a 13), .inr (6, [.ref (a 14), .int 0])), ((a 14), .inl (cy 1, 12, .inl (fun _ => 0))), ((a 15), .inr (7, [.ref (a 16), .ref (a 18)])), ((a 16), .inr (6, [.ref (a 17), .int 0])), ((a 17), .inl (cy 1, 24, .inl (fun _ => 0))), ((a 18), .inr (6, [.ref (a 19), .int 0])), ((a 19), .inl (cy 1, 24, .inl (fun _ => 0))), ((a 20), .inl (cy 3, 3, .inr (.inr (.inr (.inr (va_up (va_up (va_up (fun _ => none) 0 (some (a 21))) 1 (some (a 22))) 2 (some (a 23)))))))), ((a 21), .inr (4, [.int 0, .int 0, .int 0])), ((a 22), .inr (4, [.int 0, .int 0, .int 0])), ((a 23), .inr (4, [.int 0, .int 0, .int 0])), ((a 24), .inr (6, [.ref (a 25), .int 0])), ((a 25), .inl (cy 1, 24, .inl (fun _ => 0))), ((a 26), .inr (7, [.ref (a 27), .ref (a 29)])), ((a 27), .inr (6, [.ref (a 28), .int 0])), ((a 28), .inl (cy 1, 24, .inl (fun _ => 0))), ((a 29), .inr (6, [.ref (a 30), .int 0])), ((a 30), .inl (cy 1, 24, .inl (fun _ => 0))), ((a 31), .inr (10, [.ref (a 32), .ref (a 33), .ref (a 34), .ref (a 35), .ref (a 36), .ref (a 37), .ref (a 38), .int 0, .int 0])), ((a 32), .inr (3, [.int 0, .ref (sv 0), .int 0])), ((a 33), .inr (3, [.int 0, .ref (sv 0), .int 0])), ((a 34), .inr (3, [.int 0, .ref (sv 0), .int 0])), ((a 35), .inr (3, [.int 0, .ref (sv 0), .int 0])), ((a 36), .inl (cy 2, 3, .inl (fun _ => 0))), ((a 37), .inl (cy 1, 3, .inl (fun _ => 0))), ((a 38), .inl (cy 1, 3, .inl (fun _ => 0))), ((a 39), .inr (9, [.long 0, .null])), ((a 0), .inr (8, [.ref (a 1), .ref (a 6), .ref (a 8), .ref (a 15), .ref (a 20), .int 0, .ref (a 24), .ref (a 26)])), ((a 1), .inr (7, [.ref (a 2), .ref (a 4)])), ((a 2), .inr (6, [.ref (a 3), .int 0]))] H _ := w
  refine W.widen (k := 41) (n := 1542) (Nat.le_of_ble_eq_true rfl) (Nat.le_of_ble_eq_true rfl) ?_
  refine lv_istore (lv' := [(5, .int 2), (4, .int 0), (3, .ref (a 39)), (2, .ref (a 31)), (1, .ref (a 0)), (0, .ref b)]) C.1 C.2.1 dL_law_1217 hl (by decide) rfl (fun ls hl => ?_)
  refine lv_aload_n C.1 C.2.1 dL_law_1219 rfl (lv_at hl 3 rfl) ?_
  refine lv_aload_n C.1 C.2.1 dL_law_1220 rfl (lv_at hl 5 rfl) ?_
  refine lv_iload C.1 C.2.1 dL_law_1221 (lv_at hl 1 rfl) ?_
  refine lv_iconst (v := 1) C.1 C.2.1 dL_law_1223 (by decide) ?_
  refine lv_iadd C.1 C.2.1 dL_law_1224 ?_
  refine x_is (y := 1) (by decide) ?_
  refine va_sld C.1 C.2.1 hX hbl hbA w.2.2 (xvin (by decide)) dL_law_1225 ?_
  refine x_is (y := (xs 1)) (by rfl) ?_
  refine lv_aload_n C.1 C.2.1 dL_law_1226 rfl (lv_at hl 5 rfl) ?_
  refine lv_iload C.1 C.2.1 dL_law_1227 (lv_at hl 1 rfl) ?_
  refine lv_iconst (v := 2) C.1 C.2.1 dL_law_1229 (by decide) ?_
  refine lv_iadd C.1 C.2.1 dL_law_1230 ?_
  refine x_is (y := 2) (by decide) ?_
  refine va_sld C.1 C.2.1 hX hbl hbA w.2.2 (xvin (by decide)) dL_law_1231 ?_
  refine x_is (y := (xs 2)) (by rfl) ?_
  refine lv_aload_n C.1 C.2.1 dL_law_1232 rfl (lv_at hl 5 rfl) ?_
  refine lv_iload C.1 C.2.1 dL_law_1233 (lv_at hl 1 rfl) ?_
  refine lv_iconst (v := 3) C.1 C.2.1 dL_law_1235 (by decide) ?_
  refine lv_iadd C.1 C.2.1 dL_law_1236 ?_
  refine x_is (y := 3) (by decide) ?_
  refine va_sld C.1 C.2.1 hX hbl hbA w.2.2 (xvin (by decide)) dL_law_1237 ?_
  refine x_is (y := (xs 3)) (by rfl) ?_
  refine lv_if_eq (tgt := 1245) C.1 C.2.1 dL_law_1238 (by decide) (fun c9 => absurd c9 p0) (fun _ => ?_)
  refine lv_iconst (v := 1) C.1 C.2.1 dL_law_1241 (by decide) ?_
  refine lv_goto (tgt := 1246) C.1 C.2.1 dL_law_1242 (by decide) ?_
  refine x_ki C w [28, 29] [0, 1, 2, 3, 4, 5, 6, 7, 8, 9, 10, 11, 12, 13, 14, 15, 16, 17, 18, 19, 20, 21, 22, 23, 24, 25, 26, 27, 30, 31, 32, 33, 34, 35, 36, 37, 38, 39] rfl rfl (by decide) (by decide) (va_runV (As := [.int (xs 1), .int (xs 2), .int 1]) (rest := []) (xfix C) (c312_X6_rangeEnd l G cy sa sv (a 31) (a 32) (a 33) (a 34) (a 35) (a 36) (a 37) (a 38) (xs 1) (xs 2) p1 (xtr C) _) (cwV 3 (xhts C) (xgV (maxL := 0) (cc := ⟨#[]⟩) (ret := none) gw_682 gw_683 gw_684 gw_58 gc_X6_rangeEnd) rfl rfl rfl (by decide +kernel) ⟨(Nat.le_of_ble_eq_true rfl), (Nat.le_of_ble_eq_true rfl)⟩) (xPV C w [28, 29] rfl (by decide) (ci := 10) (q0 := 28) rfl rfl) rfl rfl hl.1 rfl (lv_room (Nat.le_of_ble_eq_true rfl)) dL_law_1246 ⟨(Nat.le_of_ble_eq_true rfl), (Nat.le_of_ble_eq_true rfl)⟩) (fun f1778 H locs w => ?_)
  have w : xW G A s [((a 3), .inl (cy 1, 24, .inl (fun _ => 0))), ((a 4), .inr (6, [.ref (a 5), .int 0])), ((a 5), .inl (cy 1, 24, .inl (fun _ => 0))), ((a 6), .inr (6, [.ref (a 7), .int 0])), ((a 7), .inl (cy 1, 24, .inl (fun _ => 0))), ((a 8), .inr (5, [.ref (a 9), .ref (a 11), .ref (a 13), .int 0])), ((a 9), .inr (6, [.ref (a 10), .int 0])), ((a 10), .inl (cy 1, 624, .inl (fun _ => 0))), ((a 11), .inr (6, [.ref (a 12), .int 0])), ((a 12), .inl (cy 1, 624, .inl (fun _ => 0))), ((a 13), .inr (6, [.ref (a 14), .int 0])), ((a 14), .inl (cy 1, 12, .inl (fun _ => 0))), ((a 15), .inr (7, [.ref (a 16), .ref (a 18)])), ((a 16), .inr (6, [.ref (a 17), .int 0])), ((a 17), .inl (cy 1, 24, .inl (fun _ => 0))), ((a 18), .inr (6, [.ref (a 19), .int 0])), ((a 19), .inl (cy 1, 24, .inl (fun _ => 0))), ((a 20), .inl (cy 3, 3, .inr (.inr (.inr (.inr (va_up (va_up (va_up (fun _ => none) 0 (some (a 21))) 1 (some (a 22))) 2 (some (a 23)))))))), ((a 21), .inr (4, [.int 0, .int 0, .int 0])), ((a 22), .inr (4, [.int 0, .int 0, .int 0])), ((a 23), .inr (4, [.int 0, .int 0, .int 0])), ((a 24), .inr (6, [.ref (a 25), .int 0])), ((a 25), .inl (cy 1, 24, .inl (fun _ => 0))), ((a 26), .inr (7, [.ref (a 27), .ref (a 29)])), ((a 27), .inr (6, [.ref (a 28), .int 0])), ((a 28), .inl (cy 1, 24, .inl (fun _ => 0))), ((a 29), .inr (6, [.ref (a 30), .int 0])), ((a 30), .inl (cy 1, 24, .inl (fun _ => 0))), ((a 33), .inr (3, [.int 0, .ref (sv 0), .int 0])), ((a 34), .inr (3, [.int 0, .ref (sv 0), .int 0])), ((a 35), .inr (3, [.int 0, .ref (sv 0), .int 0])), ((a 36), .inl (cy 2, 3, .inl (fun _ => 0))), ((a 37), .inl (cy 1, 3, .inl (fun _ => 0))), ((a 38), .inl (cy 1, 3, .inl (fun _ => 0))), ((a 39), .inr (9, [.long 0, .null])), ((a 0), .inr (8, [.ref (a 1), .ref (a 6), .ref (a 8), .ref (a 15), .ref (a 20), .int 0, .ref (a 24), .ref (a 26)])), ((a 1), .inr (7, [.ref (a 2), .ref (a 4)])), ((a 2), .inr (6, [.ref (a 3), .int 0])), ((a 31), .inr (10, [.ref (a 32), .ref (a 33), .ref (a 34), .ref (a 35), .ref (a 36), .ref (a 37), .ref (a 38), .int 0, .int 2])), ((a 32), .inr (3, [.int 0, .ref (sv 0), .int 0]))] H _ := w
  refine W.widen (k := 42) (n := 1545) (Nat.le_of_ble_eq_true rfl) (Nat.le_of_ble_eq_true rfl) ?_
  refine lv_istore (lv' := [(6, .int 0), (5, .int 2), (4, .int 0), (3, .ref (a 39)), (2, .ref (a 31)), (1, .ref (a 0)), (0, .ref b)]) C.1 C.2.1 dL_law_1249 hl (by decide) rfl (fun ls hl => ?_)
  refine lv_aload_n C.1 C.2.1 dL_law_1251 rfl (lv_at hl 4 rfl) ?_
  refine x_ki C w [38] [0, 1, 2, 3, 4, 5, 6, 7, 8, 9, 10, 11, 12, 13, 14, 15, 16, 17, 18, 19, 20, 21, 22, 23, 24, 25, 26, 27, 28, 29, 30, 31, 32, 33, 34, 35, 36, 37, 39] rfl rfl (by decide) (by decide) (va_runV (As := []) (rest := []) (xfix C) (c151_X6_thrown l G cy sa sv (a 31) (a 32) (a 33) (a 34) (a 35) (a 36) (a 37) (a 38) (xtr C) _) (cwV 0 (xhts C) (xgV (maxL := 0) (cc := ⟨#[]⟩) (ret := none) gw_122 gw_123 gw_124 gw_58 gc_X6_thrown) rfl rfl rfl (by decide +kernel) ⟨(Nat.le_of_ble_eq_true rfl), (Nat.le_of_ble_eq_true rfl)⟩) (xPV C w [38] rfl (by decide) (ci := 10) (q0 := 38) rfl rfl) rfl rfl hl.1 rfl (lv_room (Nat.le_of_ble_eq_true rfl)) dL_law_1252 ⟨(Nat.le_of_ble_eq_true rfl), (Nat.le_of_ble_eq_true rfl)⟩) (fun f1779 H locs w => ?_)
  have w : xW G A s [((a 3), .inl (cy 1, 24, .inl (fun _ => 0))), ((a 4), .inr (6, [.ref (a 5), .int 0])), ((a 5), .inl (cy 1, 24, .inl (fun _ => 0))), ((a 6), .inr (6, [.ref (a 7), .int 0])), ((a 7), .inl (cy 1, 24, .inl (fun _ => 0))), ((a 8), .inr (5, [.ref (a 9), .ref (a 11), .ref (a 13), .int 0])), ((a 9), .inr (6, [.ref (a 10), .int 0])), ((a 10), .inl (cy 1, 624, .inl (fun _ => 0))), ((a 11), .inr (6, [.ref (a 12), .int 0])), ((a 12), .inl (cy 1, 624, .inl (fun _ => 0))), ((a 13), .inr (6, [.ref (a 14), .int 0])), ((a 14), .inl (cy 1, 12, .inl (fun _ => 0))), ((a 15), .inr (7, [.ref (a 16), .ref (a 18)])), ((a 16), .inr (6, [.ref (a 17), .int 0])), ((a 17), .inl (cy 1, 24, .inl (fun _ => 0))), ((a 18), .inr (6, [.ref (a 19), .int 0])), ((a 19), .inl (cy 1, 24, .inl (fun _ => 0))), ((a 20), .inl (cy 3, 3, .inr (.inr (.inr (.inr (va_up (va_up (va_up (fun _ => none) 0 (some (a 21))) 1 (some (a 22))) 2 (some (a 23)))))))), ((a 21), .inr (4, [.int 0, .int 0, .int 0])), ((a 22), .inr (4, [.int 0, .int 0, .int 0])), ((a 23), .inr (4, [.int 0, .int 0, .int 0])), ((a 24), .inr (6, [.ref (a 25), .int 0])), ((a 25), .inl (cy 1, 24, .inl (fun _ => 0))), ((a 26), .inr (7, [.ref (a 27), .ref (a 29)])), ((a 27), .inr (6, [.ref (a 28), .int 0])), ((a 28), .inl (cy 1, 24, .inl (fun _ => 0))), ((a 29), .inr (6, [.ref (a 30), .int 0])), ((a 30), .inl (cy 1, 24, .inl (fun _ => 0))), ((a 33), .inr (3, [.int 0, .ref (sv 0), .int 0])), ((a 34), .inr (3, [.int 0, .ref (sv 0), .int 0])), ((a 35), .inr (3, [.int 0, .ref (sv 0), .int 0])), ((a 36), .inl (cy 2, 3, .inl (fun _ => 0))), ((a 37), .inl (cy 1, 3, .inl (fun _ => 0))), ((a 38), .inl (cy 1, 3, .inl (fun _ => 0))), ((a 39), .inr (9, [.long 0, .null])), ((a 0), .inr (8, [.ref (a 1), .ref (a 6), .ref (a 8), .ref (a 15), .ref (a 20), .int 0, .ref (a 24), .ref (a 26)])), ((a 1), .inr (7, [.ref (a 2), .ref (a 4)])), ((a 2), .inr (6, [.ref (a 3), .int 0])), ((a 32), .inr (3, [.int 0, .ref (sv 0), .int 0])), ((a 31), .inr (10, [.ref (a 32), .ref (a 33), .ref (a 34), .ref (a 35), .ref (a 36), .ref (a 37), .ref (a 38), .int 0, .int 2]))] H _ := w
  refine lv_iload C.1 C.2.1 dL_law_1255 (lv_at hl 1 rfl) ?_
  refine lv_icmp_eq (tgt := 1262) C.1 C.2.1 dL_law_1257 (by decide) (fun _ => ?_) (fun c9 => absurd (by decide) c9)
  refine lv_iload C.1 C.2.1 dL_law_1262 (lv_at hl 1 rfl) ?_
  refine lv_if_ne (tgt := 1280) C.1 C.2.1 dL_law_1264 (by decide) (fun _ => ?_) (fun c9 => absurd c9 (by decide))
  refine lv_goto (tgt := 2509) C.1 C.2.1 dL_law_1280 (by decide) ?_
  refine lv_iinc (v := 5) (lv' := [(4, .int 5), (6, .int 0), (5, .int 2), (3, .ref (a 39)), (2, .ref (a 31)), (1, .ref (a 0)), (0, .ref b)]) C.1 C.2.1 dL_law_2509 hl (k := 2) rfl (by decide) (by decide) rfl (fun ls hl => ?_)
  refine lv_goto (tgt := 27) C.1 C.2.1 dL_law_2512 (by decide) ?_
  refine lv_iload C.1 C.2.1 dL_law_27 (lv_at hl 0 rfl) ?_
  refine lv_aload_n C.1 C.2.1 dL_law_29 rfl (lv_at hl 6 rfl) ?_
  refine va_slen C.1 C.2.1 hX hbl hbA w.2.2 dL_law_30 ?_
  refine x_is (y := 5) (by decide) ?_
  refine lv_iconst (v := 5) C.1 C.2.1 dL_law_31 (by decide) ?_
  refine lv_isub C.1 C.2.1 dL_law_32 ?_
  refine x_is (y := 0) (by decide) ?_
  refine lv_icmp_gt (tgt := 2515) C.1 C.2.1 dL_law_33 (by decide) (fun _ => ?_) (fun c9 => absurd (by decide) c9)
  refine lv_iconst (v := 1) C.1 C.2.1 dL_law_2515 (by decide) ?_
  refine va_forget (fun q hq => hAl _ (w.2.2.2.2 q hq)) ?_
  refine W.widen (k := 600002) (n := 7302232) (Nat.le_of_ble_eq_true rfl) (Nat.le_of_ble_eq_true rfl) ?_
  exact lw_ret C.1 C.2.1 hr (xlk C) dL_law_2516
set_option maxHeartbeats 8000000 in
set_option maxRecDepth 100000 in
theorem law_22_47 {p : Program} {e : Env} {s : State} {m : MethodId} {below : List Frame} {meth : Method} {c : Code} {l : Launch} {G : va_G} {cy : Nat → ClassId} {sa : String → Nat → Nat} {sv : Nat → Nat} {A : Nat → Prop} {b : Nat} {xs : Nat → Int32} {a : Nat → Nat} {H : Heap} {locs : List Loc} {ls : Array Slot} (C : xC p l s m #[Value.ref b] meth c code 7 "TwinindexLaw" (Cond.initialized "TwinindexLaw" :: XG) G cy sa sv A) (hr : meth.sig.returnType = ret) (hX : va_X b 5 xs s s.heap) (hbl : b < s.heap.size) (hbA : ¬ A b) (hAl : ∀ q, A q → s.heap.size ≤ q) (w : xW G A s (xW0 cy sv a) H locs) (hl : lv_has ls 7 [(4, .int 0), (3, .ref (a 39)), (2, .ref (a 31)), (1, .ref (a 0)), (0, .ref b)]) (hk : ((xs 0) &&& 63) = 22) (p0 : ¬ (xs 3) = 0) (p1 : ¬ (xs 1) ≤ (xs 2)) : W p l e room_1 s m #[Value.ref b] below meth c H locs 40 1536 (lw_Z below #[Value.ref b] s) (F0 m 27 ls []) := by
  have w : xW G A s [((a 0), .inr (8, [.ref (a 1), .ref (a 6), .ref (a 8), .ref (a 15), .ref (a 20), .int 0, .ref (a 24), .ref (a 26)])), ((a 1), .inr (7, [.ref (a 2), .ref (a 4)])), ((a 2), .inr (6, [.ref (a 3), .int 0])), ((a 3), .inl (cy 1, 24, .inl (fun _ => 0))), ((a 4), .inr (6, [.ref (a 5), .int 0])), ((a 5), .inl (cy 1, 24, .inl (fun _ => 0))), ((a 6), .inr (6, [.ref (a 7), .int 0])), ((a 7), .inl (cy 1, 24, .inl (fun _ => 0))), ((a 8), .inr (5, [.ref (a 9), .ref (a 11), .ref (a 13), .int 0])), ((a 9), .inr (6, [.ref (a 10), .int 0])), ((a 10), .inl (cy 1, 624, .inl (fun _ => 0))), ((a 11), .inr (6, [.ref (a 12), .int 0])), ((a 12), .inl (cy 1, 624, .inl (fun _ => 0))), ((a 13), .inr (6, [.ref (a 14), .int 0])), ((a 14), .inl (cy 1, 12, .inl (fun _ => 0))), ((a 15), .inr (7, [.ref (a 16), .ref (a 18)])), ((a 16), .inr (6, [.ref (a 17), .int 0])), ((a 17), .inl (cy 1, 24, .inl (fun _ => 0))), ((a 18), .inr (6, [.ref (a 19), .int 0])), ((a 19), .inl (cy 1, 24, .inl (fun _ => 0))), ((a 20), .inl (cy 3, 3, .inr (.inr (.inr (.inr (va_up (va_up (va_up (fun _ => none) 0 (some (a 21))) 1 (some (a 22))) 2 (some (a 23)))))))), ((a 21), .inr (4, [.int 0, .int 0, .int 0])), ((a 22), .inr (4, [.int 0, .int 0, .int 0])), ((a 23), .inr (4, [.int 0, .int 0, .int 0])), ((a 24), .inr (6, [.ref (a 25), .int 0])), ((a 25), .inl (cy 1, 24, .inl (fun _ => 0))), ((a 26), .inr (7, [.ref (a 27), .ref (a 29)])), ((a 27), .inr (6, [.ref (a 28), .int 0])), ((a 28), .inl (cy 1, 24, .inl (fun _ => 0))), ((a 29), .inr (6, [.ref (a 30), .int 0])), ((a 30), .inl (cy 1, 24, .inl (fun _ => 0))), ((a 31), .inr (10, [.ref (a 32), .ref (a 33), .ref (a 34), .ref (a 35), .ref (a 36), .ref (a 37), .ref (a 38), .int 0, .int 0])), ((a 32), .inr (3, [.int 0, .ref (sv 0), .int 0])), ((a 33), .inr (3, [.int 0, .ref (sv 0), .int 0])), ((a 34), .inr (3, [.int 0, .ref (sv 0), .int 0])), ((a 35), .inr (3, [.int 0, .ref (sv 0), .int 0])), ((a 36), .inl (cy 2, 3, .inl (fun _ => 0))), ((a 37), .inl (cy 1, 3, .inl (fun _ => 0))), ((a 38), .inl (cy 1, 3, .inl (fun _ => 0))), ((a 39), .inr (9, [.long 0, .null]))] H _ := w
  refine lv_iload C.1 C.2.1 dL_law_27 (lv_at hl 0 rfl) ?_
  refine lv_aload_n C.1 C.2.1 dL_law_29 rfl (lv_at hl 4 rfl) ?_
  refine va_slen C.1 C.2.1 hX hbl hbA w.2.2 dL_law_30 ?_
  refine x_is (y := 5) (by decide) ?_
  refine lv_iconst (v := 5) C.1 C.2.1 dL_law_31 (by decide) ?_
  refine lv_isub C.1 C.2.1 dL_law_32 ?_
  refine x_is (y := 0) (by decide) ?_
  refine lv_icmp_gt (tgt := 2515) C.1 C.2.1 dL_law_33 (by decide) (fun c9 => absurd c9 (by decide)) (fun _ => ?_)
  refine lv_aload_n C.1 C.2.1 dL_law_36 rfl (lv_at hl 4 rfl) ?_
  refine lv_iload C.1 C.2.1 dL_law_37 (lv_at hl 0 rfl) ?_
  refine va_sld C.1 C.2.1 hX hbl hbA w.2.2 (xvin (by decide)) dL_law_39 ?_
  refine x_is (y := (xs 0)) (by rfl) ?_
  refine lv_bipush (v := 63) C.1 C.2.1 dL_law_40 (by decide) ?_
  refine lv_iand C.1 C.2.1 dL_law_42 ?_
  refine x_is (y := 22) hk ?_
  refine lv_tableIn (off := 1143) (tgt := 1186) C.1 C.2.1 dL_law_43 (by decide) (by decide) (by decide) (by decide) ?_
  refine lv_aload_n C.1 C.2.1 dL_law_1186 rfl (lv_at hl 3 rfl) ?_
  refine lv_aload_n C.1 C.2.1 dL_law_1187 rfl (lv_at hl 4 rfl) ?_
  refine lv_iload C.1 C.2.1 dL_law_1188 (lv_at hl 0 rfl) ?_
  refine lv_iconst (v := 1) C.1 C.2.1 dL_law_1190 (by decide) ?_
  refine lv_iadd C.1 C.2.1 dL_law_1191 ?_
  refine x_is (y := 1) (by decide) ?_
  refine va_sld C.1 C.2.1 hX hbl hbA w.2.2 (xvin (by decide)) dL_law_1192 ?_
  refine x_is (y := (xs 1)) (by rfl) ?_
  refine lv_aload_n C.1 C.2.1 dL_law_1193 rfl (lv_at hl 4 rfl) ?_
  refine lv_iload C.1 C.2.1 dL_law_1194 (lv_at hl 0 rfl) ?_
  refine lv_iconst (v := 2) C.1 C.2.1 dL_law_1196 (by decide) ?_
  refine lv_iadd C.1 C.2.1 dL_law_1197 ?_
  refine x_is (y := 2) (by decide) ?_
  refine va_sld C.1 C.2.1 hX hbl hbA w.2.2 (xvin (by decide)) dL_law_1198 ?_
  refine x_is (y := (xs 2)) (by rfl) ?_
  refine lv_aload_n C.1 C.2.1 dL_law_1199 rfl (lv_at hl 4 rfl) ?_
  refine lv_iload C.1 C.2.1 dL_law_1200 (lv_at hl 0 rfl) ?_
  refine lv_iconst (v := 3) C.1 C.2.1 dL_law_1202 (by decide) ?_
  refine lv_iadd C.1 C.2.1 dL_law_1203 ?_
  refine x_is (y := 3) (by decide) ?_
  refine va_sld C.1 C.2.1 hX hbl hbA w.2.2 (xvin (by decide)) dL_law_1204 ?_
  refine x_is (y := (xs 3)) (by rfl) ?_
  refine lv_if_eq (tgt := 1212) C.1 C.2.1 dL_law_1205 (by decide) (fun c9 => absurd c9 p0) (fun _ => ?_)
  refine lv_iconst (v := 1) C.1 C.2.1 dL_law_1208 (by decide) ?_
  refine lv_goto (tgt := 1213) C.1 C.2.1 dL_law_1209 (by decide) ?_
  refine lv_aload_n C.1 C.2.1 dL_law_1213 rfl (lv_at hl 1 rfl) ?_
  refine x_ki C w [0] [1, 2, 3, 4, 5, 6, 7, 8, 9, 10, 11, 12, 13, 14, 15, 16, 17, 18, 19, 20, 21, 22, 23, 24, 25, 26, 27, 28, 29, 30, 31, 32, 33, 34, 35, 36, 37, 38, 39] rfl rfl (by decide) (by decide) (vx_runSW (As := [.ref (a 0), .int (xs 1), .int (xs 2), .int 1, .ref (a 39)]) (rest := []) (xfix C) (c314_L_rangeEnd l G cy sa sv (a 0) (a 39) (a 1) (a 6) (a 8) (a 15) (a 20) (a 24) (a 26) (xs 1) (xs 2) p1 (xtr C) _) (vx_cwSW 5 (xhts C) (xgS gw_679 gw_680 gw_106 gc_L_rangeEnd) rfl rfl rfl (by decide +kernel) ⟨(Nat.le_of_ble_eq_true rfl), (Nat.le_of_ble_eq_true rfl)⟩) (xPS C w [0] rfl (by decide)) rfl rfl hl.1 rfl (lv_room (Nat.le_of_ble_eq_true rfl)) dL_law_1214 ⟨(Nat.le_of_ble_eq_true rfl), (Nat.le_of_ble_eq_true rfl)⟩) (fun f1786 H locs w => ?_)
  have w : xW G A s [((a 1), .inr (7, [.ref (a 2), .ref (a 4)])), ((a 2), .inr (6, [.ref (a 3), .int 0])), ((a 3), .inl (cy 1, 24, .inl (fun _ => 0))), ((a 4), .inr (6, [.ref (a 5), .int 0])), ((a 5), .inl (cy 1, 24, .inl (fun _ => 0))), ((a 6), .inr (6, [.ref (a 7), .int 0])), ((a 7), .inl (cy 1, 24, .inl (fun _ => 0))), ((a 8), .inr (5, [.ref (a 9), .ref (a 11), .ref (a 13), .int 0])), ((a 9), .inr (6, [.ref (a 10), .int 0])), ((a 10), .inl (cy 1, 624, .inl (fun _ => 0))), ((a 11), .inr (6, [.ref (a 12), .int 0])), ((a 12), .inl (cy 1, 624, .inl (fun _ => 0))), ((a 13), .inr (6, [.ref (a 14), .int 0])), ((a 14), .inl (cy 1, 12, .inl (fun _ => 0))), ((a 15), .inr (7, [.ref (a 16), .ref (a 18)])), ((a 16), .inr (6, [.ref (a 17), .int 0])), ((a 17), .inl (cy 1, 24, .inl (fun _ => 0))), ((a 18), .inr (6, [.ref (a 19), .int 0])), ((a 19), .inl (cy 1, 24, .inl (fun _ => 0))), ((a 20), .inl (cy 3, 3, .inr (.inr (.inr (.inr (va_up (va_up (va_up (fun _ => none) 0 (some (a 21))) 1 (some (a 22))) 2 (some (a 23)))))))), ((a 21), .inr (4, [.int 0, .int 0, .int 0])), ((a 22), .inr (4, [.int 0, .int 0, .int 0])), ((a 23), .inr (4, [.int 0, .int 0, .int 0])), ((a 24), .inr (6, [.ref (a 25), .int 0])), ((a 25), .inl (cy 1, 24, .inl (fun _ => 0))), ((a 26), .inr (7, [.ref (a 27), .ref (a 29)])), ((a 27), .inr (6, [.ref (a 28), .int 0])), ((a 28), .inl (cy 1, 24, .inl (fun _ => 0))), ((a 29), .inr (6, [.ref (a 30), .int 0])), ((a 30), .inl (cy 1, 24, .inl (fun _ => 0))), ((a 31), .inr (10, [.ref (a 32), .ref (a 33), .ref (a 34), .ref (a 35), .ref (a 36), .ref (a 37), .ref (a 38), .int 0, .int 0])), ((a 32), .inr (3, [.int 0, .ref (sv 0), .int 0])), ((a 33), .inr (3, [.int 0, .ref (sv 0), .int 0])), ((a 34), .inr (3, [.int 0, .ref (sv 0), .int 0])), ((a 35), .inr (3, [.int 0, .ref (sv 0), .int 0])), ((a 36), .inl (cy 2, 3, .inl (fun _ => 0))), ((a 37), .inl (cy 1, 3, .inl (fun _ => 0))), ((a 38), .inl (cy 1, 3, .inl (fun _ => 0))), ((a 39), .inr (9, [.long 0, .null])), ((a 0), .inr (8, [.ref (a 1), .ref (a 6), .ref (a 8), .ref (a 15), .ref (a 20), .int 0, .ref (a 24), .ref (a 26)]))] H _ := w
  refine W.widen (k := 41) (n := 1542) (Nat.le_of_ble_eq_true rfl) (Nat.le_of_ble_eq_true rfl) ?_
  refine lv_istore (lv' := [(5, .int 1), (4, .int 0), (3, .ref (a 39)), (2, .ref (a 31)), (1, .ref (a 0)), (0, .ref b)]) C.1 C.2.1 dL_law_1217 hl (by decide) rfl (fun ls hl => ?_)
  refine lv_aload_n C.1 C.2.1 dL_law_1219 rfl (lv_at hl 3 rfl) ?_
  refine lv_aload_n C.1 C.2.1 dL_law_1220 rfl (lv_at hl 5 rfl) ?_
  refine lv_iload C.1 C.2.1 dL_law_1221 (lv_at hl 1 rfl) ?_
  refine lv_iconst (v := 1) C.1 C.2.1 dL_law_1223 (by decide) ?_
  refine lv_iadd C.1 C.2.1 dL_law_1224 ?_
  refine x_is (y := 1) (by decide) ?_
  refine va_sld C.1 C.2.1 hX hbl hbA w.2.2 (xvin (by decide)) dL_law_1225 ?_
  refine x_is (y := (xs 1)) (by rfl) ?_
  refine lv_aload_n C.1 C.2.1 dL_law_1226 rfl (lv_at hl 5 rfl) ?_
  refine lv_iload C.1 C.2.1 dL_law_1227 (lv_at hl 1 rfl) ?_
  refine lv_iconst (v := 2) C.1 C.2.1 dL_law_1229 (by decide) ?_
  refine lv_iadd C.1 C.2.1 dL_law_1230 ?_
  refine x_is (y := 2) (by decide) ?_
  refine va_sld C.1 C.2.1 hX hbl hbA w.2.2 (xvin (by decide)) dL_law_1231 ?_
  refine x_is (y := (xs 2)) (by rfl) ?_
  refine lv_aload_n C.1 C.2.1 dL_law_1232 rfl (lv_at hl 5 rfl) ?_
  refine lv_iload C.1 C.2.1 dL_law_1233 (lv_at hl 1 rfl) ?_
  refine lv_iconst (v := 3) C.1 C.2.1 dL_law_1235 (by decide) ?_
  refine lv_iadd C.1 C.2.1 dL_law_1236 ?_
  refine x_is (y := 3) (by decide) ?_
  refine va_sld C.1 C.2.1 hX hbl hbA w.2.2 (xvin (by decide)) dL_law_1237 ?_
  refine x_is (y := (xs 3)) (by rfl) ?_
  refine lv_if_eq (tgt := 1245) C.1 C.2.1 dL_law_1238 (by decide) (fun c9 => absurd c9 p0) (fun _ => ?_)
  refine lv_iconst (v := 1) C.1 C.2.1 dL_law_1241 (by decide) ?_
  refine lv_goto (tgt := 1246) C.1 C.2.1 dL_law_1242 (by decide) ?_
  refine x_ki C w [30] [0, 1, 2, 3, 4, 5, 6, 7, 8, 9, 10, 11, 12, 13, 14, 15, 16, 17, 18, 19, 20, 21, 22, 23, 24, 25, 26, 27, 28, 29, 31, 32, 33, 34, 35, 36, 37, 38, 39] rfl rfl (by decide) (by decide) (va_runV (As := [.int (xs 1), .int (xs 2), .int 1]) (rest := []) (xfix C) (c315_X6_rangeEnd l G cy sa sv (a 31) (a 32) (a 33) (a 34) (a 35) (a 36) (a 37) (a 38) (xs 1) (xs 2) p1 (xtr C) _) (cwV 3 (xhts C) (xgV (maxL := 0) (cc := ⟨#[]⟩) (ret := none) gw_682 gw_683 gw_684 gw_58 gc_X6_rangeEnd) rfl rfl rfl (by decide +kernel) ⟨(Nat.le_of_ble_eq_true rfl), (Nat.le_of_ble_eq_true rfl)⟩) (xPV C w [30] rfl (by decide) (ci := 10) (q0 := 30) rfl rfl) rfl rfl hl.1 rfl (lv_room (Nat.le_of_ble_eq_true rfl)) dL_law_1246 ⟨(Nat.le_of_ble_eq_true rfl), (Nat.le_of_ble_eq_true rfl)⟩) (fun f1788 H locs w => ?_)
  have w : xW G A s [((a 1), .inr (7, [.ref (a 2), .ref (a 4)])), ((a 2), .inr (6, [.ref (a 3), .int 0])), ((a 3), .inl (cy 1, 24, .inl (fun _ => 0))), ((a 4), .inr (6, [.ref (a 5), .int 0])), ((a 5), .inl (cy 1, 24, .inl (fun _ => 0))), ((a 6), .inr (6, [.ref (a 7), .int 0])), ((a 7), .inl (cy 1, 24, .inl (fun _ => 0))), ((a 8), .inr (5, [.ref (a 9), .ref (a 11), .ref (a 13), .int 0])), ((a 9), .inr (6, [.ref (a 10), .int 0])), ((a 10), .inl (cy 1, 624, .inl (fun _ => 0))), ((a 11), .inr (6, [.ref (a 12), .int 0])), ((a 12), .inl (cy 1, 624, .inl (fun _ => 0))), ((a 13), .inr (6, [.ref (a 14), .int 0])), ((a 14), .inl (cy 1, 12, .inl (fun _ => 0))), ((a 15), .inr (7, [.ref (a 16), .ref (a 18)])), ((a 16), .inr (6, [.ref (a 17), .int 0])), ((a 17), .inl (cy 1, 24, .inl (fun _ => 0))), ((a 18), .inr (6, [.ref (a 19), .int 0])), ((a 19), .inl (cy 1, 24, .inl (fun _ => 0))), ((a 20), .inl (cy 3, 3, .inr (.inr (.inr (.inr (va_up (va_up (va_up (fun _ => none) 0 (some (a 21))) 1 (some (a 22))) 2 (some (a 23)))))))), ((a 21), .inr (4, [.int 0, .int 0, .int 0])), ((a 22), .inr (4, [.int 0, .int 0, .int 0])), ((a 23), .inr (4, [.int 0, .int 0, .int 0])), ((a 24), .inr (6, [.ref (a 25), .int 0])), ((a 25), .inl (cy 1, 24, .inl (fun _ => 0))), ((a 26), .inr (7, [.ref (a 27), .ref (a 29)])), ((a 27), .inr (6, [.ref (a 28), .int 0])), ((a 28), .inl (cy 1, 24, .inl (fun _ => 0))), ((a 29), .inr (6, [.ref (a 30), .int 0])), ((a 30), .inl (cy 1, 24, .inl (fun _ => 0))), ((a 32), .inr (3, [.int 0, .ref (sv 0), .int 0])), ((a 33), .inr (3, [.int 0, .ref (sv 0), .int 0])), ((a 34), .inr (3, [.int 0, .ref (sv 0), .int 0])), ((a 35), .inr (3, [.int 0, .ref (sv 0), .int 0])), ((a 36), .inl (cy 2, 3, .inl (fun _ => 0))), ((a 37), .inl (cy 1, 3, .inl (fun _ => 0))), ((a 38), .inl (cy 1, 3, .inl (fun _ => 0))), ((a 39), .inr (9, [.long 0, .null])), ((a 0), .inr (8, [.ref (a 1), .ref (a 6), .ref (a 8), .ref (a 15), .ref (a 20), .int 0, .ref (a 24), .ref (a 26)])), ((a 31), .inr (10, [.ref (a 32), .ref (a 33), .ref (a 34), .ref (a 35), .ref (a 36), .ref (a 37), .ref (a 38), .int 0, .int 1]))] H _ := w
  refine lv_istore (lv' := [(6, .int 0), (5, .int 1), (4, .int 0), (3, .ref (a 39)), (2, .ref (a 31)), (1, .ref (a 0)), (0, .ref b)]) C.1 C.2.1 dL_law_1249 hl (by decide) rfl (fun ls hl => ?_)
  refine lv_aload_n C.1 C.2.1 dL_law_1251 rfl (lv_at hl 4 rfl) ?_
  refine x_ki C w [39] [0, 1, 2, 3, 4, 5, 6, 7, 8, 9, 10, 11, 12, 13, 14, 15, 16, 17, 18, 19, 20, 21, 22, 23, 24, 25, 26, 27, 28, 29, 30, 31, 32, 33, 34, 35, 36, 37, 38] rfl rfl (by decide) (by decide) (va_runV (As := []) (rest := []) (xfix C) (c19_X6_thrown l G cy sa sv (a 31) (a 32) (a 33) (a 34) (a 35) (a 36) (a 37) (a 38) (xtr C) _) (cwV 0 (xhts C) (xgV (maxL := 0) (cc := ⟨#[]⟩) (ret := none) gw_122 gw_123 gw_124 gw_58 gc_X6_thrown) rfl rfl rfl (by decide +kernel) ⟨(Nat.le_of_ble_eq_true rfl), (Nat.le_of_ble_eq_true rfl)⟩) (xPV C w [39] rfl (by decide) (ci := 10) (q0 := 39) rfl rfl) rfl rfl hl.1 rfl (lv_room (Nat.le_of_ble_eq_true rfl)) dL_law_1252 ⟨(Nat.le_of_ble_eq_true rfl), (Nat.le_of_ble_eq_true rfl)⟩) (fun f1789 H locs w => ?_)
  have w : xW G A s [((a 1), .inr (7, [.ref (a 2), .ref (a 4)])), ((a 2), .inr (6, [.ref (a 3), .int 0])), ((a 3), .inl (cy 1, 24, .inl (fun _ => 0))), ((a 4), .inr (6, [.ref (a 5), .int 0])), ((a 5), .inl (cy 1, 24, .inl (fun _ => 0))), ((a 6), .inr (6, [.ref (a 7), .int 0])), ((a 7), .inl (cy 1, 24, .inl (fun _ => 0))), ((a 8), .inr (5, [.ref (a 9), .ref (a 11), .ref (a 13), .int 0])), ((a 9), .inr (6, [.ref (a 10), .int 0])), ((a 10), .inl (cy 1, 624, .inl (fun _ => 0))), ((a 11), .inr (6, [.ref (a 12), .int 0])), ((a 12), .inl (cy 1, 624, .inl (fun _ => 0))), ((a 13), .inr (6, [.ref (a 14), .int 0])), ((a 14), .inl (cy 1, 12, .inl (fun _ => 0))), ((a 15), .inr (7, [.ref (a 16), .ref (a 18)])), ((a 16), .inr (6, [.ref (a 17), .int 0])), ((a 17), .inl (cy 1, 24, .inl (fun _ => 0))), ((a 18), .inr (6, [.ref (a 19), .int 0])), ((a 19), .inl (cy 1, 24, .inl (fun _ => 0))), ((a 20), .inl (cy 3, 3, .inr (.inr (.inr (.inr (va_up (va_up (va_up (fun _ => none) 0 (some (a 21))) 1 (some (a 22))) 2 (some (a 23)))))))), ((a 21), .inr (4, [.int 0, .int 0, .int 0])), ((a 22), .inr (4, [.int 0, .int 0, .int 0])), ((a 23), .inr (4, [.int 0, .int 0, .int 0])), ((a 24), .inr (6, [.ref (a 25), .int 0])), ((a 25), .inl (cy 1, 24, .inl (fun _ => 0))), ((a 26), .inr (7, [.ref (a 27), .ref (a 29)])), ((a 27), .inr (6, [.ref (a 28), .int 0])), ((a 28), .inl (cy 1, 24, .inl (fun _ => 0))), ((a 29), .inr (6, [.ref (a 30), .int 0])), ((a 30), .inl (cy 1, 24, .inl (fun _ => 0))), ((a 32), .inr (3, [.int 0, .ref (sv 0), .int 0])), ((a 33), .inr (3, [.int 0, .ref (sv 0), .int 0])), ((a 34), .inr (3, [.int 0, .ref (sv 0), .int 0])), ((a 35), .inr (3, [.int 0, .ref (sv 0), .int 0])), ((a 36), .inl (cy 2, 3, .inl (fun _ => 0))), ((a 37), .inl (cy 1, 3, .inl (fun _ => 0))), ((a 38), .inl (cy 1, 3, .inl (fun _ => 0))), ((a 39), .inr (9, [.long 0, .null])), ((a 0), .inr (8, [.ref (a 1), .ref (a 6), .ref (a 8), .ref (a 15), .ref (a 20), .int 0, .ref (a 24), .ref (a 26)])), ((a 31), .inr (10, [.ref (a 32), .ref (a 33), .ref (a 34), .ref (a 35), .ref (a 36), .ref (a 37), .ref (a 38), .int 0, .int 1]))] H _ := w
  refine lv_iload C.1 C.2.1 dL_law_1255 (lv_at hl 1 rfl) ?_
  refine lv_icmp_eq (tgt := 1262) C.1 C.2.1 dL_law_1257 (by decide) (fun _ => ?_) (fun c9 => absurd (by decide) c9)
  refine lv_iload C.1 C.2.1 dL_law_1262 (lv_at hl 1 rfl) ?_
  refine lv_if_ne (tgt := 1280) C.1 C.2.1 dL_law_1264 (by decide) (fun _ => ?_) (fun c9 => absurd c9 (by decide))
  refine lv_goto (tgt := 2509) C.1 C.2.1 dL_law_1280 (by decide) ?_
  refine lv_iinc (v := 5) (lv' := [(4, .int 5), (6, .int 0), (5, .int 1), (3, .ref (a 39)), (2, .ref (a 31)), (1, .ref (a 0)), (0, .ref b)]) C.1 C.2.1 dL_law_2509 hl (k := 2) rfl (by decide) (by decide) rfl (fun ls hl => ?_)
  refine lv_goto (tgt := 27) C.1 C.2.1 dL_law_2512 (by decide) ?_
  refine lv_iload C.1 C.2.1 dL_law_27 (lv_at hl 0 rfl) ?_
  refine lv_aload_n C.1 C.2.1 dL_law_29 rfl (lv_at hl 6 rfl) ?_
  refine va_slen C.1 C.2.1 hX hbl hbA w.2.2 dL_law_30 ?_
  refine x_is (y := 5) (by decide) ?_
  refine lv_iconst (v := 5) C.1 C.2.1 dL_law_31 (by decide) ?_
  refine lv_isub C.1 C.2.1 dL_law_32 ?_
  refine x_is (y := 0) (by decide) ?_
  refine lv_icmp_gt (tgt := 2515) C.1 C.2.1 dL_law_33 (by decide) (fun _ => ?_) (fun c9 => absurd (by decide) c9)
  refine lv_iconst (v := 1) C.1 C.2.1 dL_law_2515 (by decide) ?_
  refine va_forget (fun q hq => hAl _ (w.2.2.2.2 q hq)) ?_
  refine W.widen (k := 600002) (n := 7302232) (Nat.le_of_ble_eq_true rfl) (Nat.le_of_ble_eq_true rfl) ?_
  exact lw_ret C.1 C.2.1 hr (xlk C) dL_law_2516
set_option maxHeartbeats 8000000 in
set_option maxRecDepth 100000 in
theorem law_23f0_48 {p : Program} {e : Env} {s : State} {m : MethodId} {below : List Frame} {meth : Method} {c : Code} {l : Launch} {G : va_G} {cy : Nat → ClassId} {sa : String → Nat → Nat} {sv : Nat → Nat} {A : Nat → Prop} {b : Nat} {xs : Nat → Int32} {a : Nat → Nat} {H : Heap} {locs : List Loc} {ls : Array Slot} (C : xC p l s m #[Value.ref b] meth c code 7 "TwinindexLaw" (Cond.initialized "TwinindexLaw" :: XG) G cy sa sv A) (hr : meth.sig.returnType = ret) (hX : va_X b 5 xs s s.heap) (hbl : b < s.heap.size) (hbA : ¬ A b) (hAl : ∀ q, A q → s.heap.size ≤ q) (w : xW G A s (xW0 cy sv a) H locs) (hl : lv_has ls 7 [(4, .int 0), (3, .ref (a 39)), (2, .ref (a 31)), (1, .ref (a 0)), (0, .ref b)]) (hk : ((xs 0) &&& 63) = 23) (hs4 : xs 4 = 0) (p0 : (xs 1) ≤ (xs 2)) (p1 : ¬ (xs 2) < (xs 1)) : W p l e room_1 s m #[Value.ref b] below meth c H locs 40 1536 (lw_Z below #[Value.ref b] s) (F0 m 27 ls []) := by
  have w : xW G A s [((a 0), .inr (8, [.ref (a 1), .ref (a 6), .ref (a 8), .ref (a 15), .ref (a 20), .int 0, .ref (a 24), .ref (a 26)])), ((a 1), .inr (7, [.ref (a 2), .ref (a 4)])), ((a 2), .inr (6, [.ref (a 3), .int 0])), ((a 3), .inl (cy 1, 24, .inl (fun _ => 0))), ((a 4), .inr (6, [.ref (a 5), .int 0])), ((a 5), .inl (cy 1, 24, .inl (fun _ => 0))), ((a 6), .inr (6, [.ref (a 7), .int 0])), ((a 7), .inl (cy 1, 24, .inl (fun _ => 0))), ((a 8), .inr (5, [.ref (a 9), .ref (a 11), .ref (a 13), .int 0])), ((a 9), .inr (6, [.ref (a 10), .int 0])), ((a 10), .inl (cy 1, 624, .inl (fun _ => 0))), ((a 11), .inr (6, [.ref (a 12), .int 0])), ((a 12), .inl (cy 1, 624, .inl (fun _ => 0))), ((a 13), .inr (6, [.ref (a 14), .int 0])), ((a 14), .inl (cy 1, 12, .inl (fun _ => 0))), ((a 15), .inr (7, [.ref (a 16), .ref (a 18)])), ((a 16), .inr (6, [.ref (a 17), .int 0])), ((a 17), .inl (cy 1, 24, .inl (fun _ => 0))), ((a 18), .inr (6, [.ref (a 19), .int 0])), ((a 19), .inl (cy 1, 24, .inl (fun _ => 0))), ((a 20), .inl (cy 3, 3, .inr (.inr (.inr (.inr (va_up (va_up (va_up (fun _ => none) 0 (some (a 21))) 1 (some (a 22))) 2 (some (a 23)))))))), ((a 21), .inr (4, [.int 0, .int 0, .int 0])), ((a 22), .inr (4, [.int 0, .int 0, .int 0])), ((a 23), .inr (4, [.int 0, .int 0, .int 0])), ((a 24), .inr (6, [.ref (a 25), .int 0])), ((a 25), .inl (cy 1, 24, .inl (fun _ => 0))), ((a 26), .inr (7, [.ref (a 27), .ref (a 29)])), ((a 27), .inr (6, [.ref (a 28), .int 0])), ((a 28), .inl (cy 1, 24, .inl (fun _ => 0))), ((a 29), .inr (6, [.ref (a 30), .int 0])), ((a 30), .inl (cy 1, 24, .inl (fun _ => 0))), ((a 31), .inr (10, [.ref (a 32), .ref (a 33), .ref (a 34), .ref (a 35), .ref (a 36), .ref (a 37), .ref (a 38), .int 0, .int 0])), ((a 32), .inr (3, [.int 0, .ref (sv 0), .int 0])), ((a 33), .inr (3, [.int 0, .ref (sv 0), .int 0])), ((a 34), .inr (3, [.int 0, .ref (sv 0), .int 0])), ((a 35), .inr (3, [.int 0, .ref (sv 0), .int 0])), ((a 36), .inl (cy 2, 3, .inl (fun _ => 0))), ((a 37), .inl (cy 1, 3, .inl (fun _ => 0))), ((a 38), .inl (cy 1, 3, .inl (fun _ => 0))), ((a 39), .inr (9, [.long 0, .null]))] H _ := w
  refine lv_iload C.1 C.2.1 dL_law_27 (lv_at hl 0 rfl) ?_
  refine lv_aload_n C.1 C.2.1 dL_law_29 rfl (lv_at hl 4 rfl) ?_
  refine va_slen C.1 C.2.1 hX hbl hbA w.2.2 dL_law_30 ?_
  refine x_is (y := 5) (by decide) ?_
  refine lv_iconst (v := 5) C.1 C.2.1 dL_law_31 (by decide) ?_
  refine lv_isub C.1 C.2.1 dL_law_32 ?_
  refine x_is (y := 0) (by decide) ?_
  refine lv_icmp_gt (tgt := 2515) C.1 C.2.1 dL_law_33 (by decide) (fun c9 => absurd c9 (by decide)) (fun _ => ?_)
  refine lv_aload_n C.1 C.2.1 dL_law_36 rfl (lv_at hl 4 rfl) ?_
  refine lv_iload C.1 C.2.1 dL_law_37 (lv_at hl 0 rfl) ?_
  refine va_sld C.1 C.2.1 hX hbl hbA w.2.2 (xvin (by decide)) dL_law_39 ?_
  refine x_is (y := (xs 0)) (by rfl) ?_
  refine lv_bipush (v := 63) C.1 C.2.1 dL_law_40 (by decide) ?_
  refine lv_iand C.1 C.2.1 dL_law_42 ?_
  refine x_is (y := 23) hk ?_
  refine lv_tableIn (off := 1240) (tgt := 1283) C.1 C.2.1 dL_law_43 (by decide) (by decide) (by decide) (by decide) ?_
  refine lv_aload_n C.1 C.2.1 dL_law_1283 rfl (lv_at hl 3 rfl) ?_
  refine lv_aload_n C.1 C.2.1 dL_law_1284 rfl (lv_at hl 4 rfl) ?_
  refine lv_iload C.1 C.2.1 dL_law_1285 (lv_at hl 0 rfl) ?_
  refine lv_iconst (v := 1) C.1 C.2.1 dL_law_1287 (by decide) ?_
  refine lv_iadd C.1 C.2.1 dL_law_1288 ?_
  refine x_is (y := 1) (by decide) ?_
  refine va_sld C.1 C.2.1 hX hbl hbA w.2.2 (xvin (by decide)) dL_law_1289 ?_
  refine x_is (y := (xs 1)) (by rfl) ?_
  refine lv_aload_n C.1 C.2.1 dL_law_1290 rfl (lv_at hl 4 rfl) ?_
  refine lv_iload C.1 C.2.1 dL_law_1291 (lv_at hl 0 rfl) ?_
  refine lv_iconst (v := 2) C.1 C.2.1 dL_law_1293 (by decide) ?_
  refine lv_iadd C.1 C.2.1 dL_law_1294 ?_
  refine x_is (y := 2) (by decide) ?_
  refine va_sld C.1 C.2.1 hX hbl hbA w.2.2 (xvin (by decide)) dL_law_1295 ?_
  refine x_is (y := (xs 2)) (by rfl) ?_
  refine lv_aload_n C.1 C.2.1 dL_law_1296 rfl (lv_at hl 4 rfl) ?_
  refine lv_iload C.1 C.2.1 dL_law_1297 (lv_at hl 0 rfl) ?_
  refine lv_iconst (v := 3) C.1 C.2.1 dL_law_1299 (by decide) ?_
  refine lv_iadd C.1 C.2.1 dL_law_1300 ?_
  refine x_is (y := 3) (by decide) ?_
  refine va_sld C.1 C.2.1 hX hbl hbA w.2.2 (xvin (by decide)) dL_law_1301 ?_
  refine x_is (y := (xs 3)) (by rfl) ?_
  refine lv_aload_n C.1 C.2.1 dL_law_1302 rfl (lv_at hl 4 rfl) ?_
  refine lv_iload C.1 C.2.1 dL_law_1303 (lv_at hl 0 rfl) ?_
  refine lv_iconst (v := 4) C.1 C.2.1 dL_law_1305 (by decide) ?_
  refine lv_iadd C.1 C.2.1 dL_law_1306 ?_
  refine x_is (y := 4) (by decide) ?_
  refine va_sld C.1 C.2.1 hX hbl hbA w.2.2 (xvin (by decide)) dL_law_1307 ?_
  refine x_is (y := 0) (show xs 4 = 0 from hs4) ?_
  refine lv_aload_n C.1 C.2.1 dL_law_1308 rfl (lv_at hl 1 rfl) ?_
  refine x_ki C w [0, 1, 2] [3, 4, 5, 6, 7, 8, 9, 10, 11, 12, 13, 14, 15, 16, 17, 18, 19, 20, 21, 22, 23, 24, 25, 26, 27, 28, 29, 30, 31, 32, 33, 34, 35, 36, 37, 38, 39] rfl rfl (by decide) (by decide) (vx_runSW (As := [.ref (a 0), .int (xs 1), .int (xs 2), .int (xs 3), .int 0, .ref (a 39)]) (rest := []) (xfix C) (c318_L_rangeNear l G cy sa sv (a 0) (a 39) (a 1) (a 2) (a 6) (a 8) (a 15) (a 20) (a 24) (a 26) (a 4) (a 3) (xs 1) (xs 2) (xs 3) p0 (xtr C) _) (vx_cwSW 6 (xhts C) (xgS gw_687 gw_688 gw_106 gc_L_rangeNear) rfl rfl rfl (by decide +kernel) ⟨(Nat.le_of_ble_eq_true rfl), (Nat.le_of_ble_eq_true rfl)⟩) (xPS C w [0, 1, 2] rfl (by decide)) rfl rfl hl.1 rfl (lv_room (Nat.le_of_ble_eq_true rfl)) dL_law_1309 ⟨(Nat.le_of_ble_eq_true rfl), (Nat.le_of_ble_eq_true rfl)⟩) (fun f1813 H locs w => ?_)
  have w : xW G A s [((a 3), .inl (cy 1, 24, .inl (fun _ => 0))), ((a 4), .inr (6, [.ref (a 5), .int 0])), ((a 5), .inl (cy 1, 24, .inl (fun _ => 0))), ((a 6), .inr (6, [.ref (a 7), .int 0])), ((a 7), .inl (cy 1, 24, .inl (fun _ => 0))), ((a 8), .inr (5, [.ref (a 9), .ref (a 11), .ref (a 13), .int 0])), ((a 9), .inr (6, [.ref (a 10), .int 0])), ((a 10), .inl (cy 1, 624, .inl (fun _ => 0))), ((a 11), .inr (6, [.ref (a 12), .int 0])), ((a 12), .inl (cy 1, 624, .inl (fun _ => 0))), ((a 13), .inr (6, [.ref (a 14), .int 0])), ((a 14), .inl (cy 1, 12, .inl (fun _ => 0))), ((a 15), .inr (7, [.ref (a 16), .ref (a 18)])), ((a 16), .inr (6, [.ref (a 17), .int 0])), ((a 17), .inl (cy 1, 24, .inl (fun _ => 0))), ((a 18), .inr (6, [.ref (a 19), .int 0])), ((a 19), .inl (cy 1, 24, .inl (fun _ => 0))), ((a 20), .inl (cy 3, 3, .inr (.inr (.inr (.inr (va_up (va_up (va_up (fun _ => none) 0 (some (a 21))) 1 (some (a 22))) 2 (some (a 23)))))))), ((a 21), .inr (4, [.int 0, .int 0, .int 0])), ((a 22), .inr (4, [.int 0, .int 0, .int 0])), ((a 23), .inr (4, [.int 0, .int 0, .int 0])), ((a 24), .inr (6, [.ref (a 25), .int 0])), ((a 25), .inl (cy 1, 24, .inl (fun _ => 0))), ((a 26), .inr (7, [.ref (a 27), .ref (a 29)])), ((a 27), .inr (6, [.ref (a 28), .int 0])), ((a 28), .inl (cy 1, 24, .inl (fun _ => 0))), ((a 29), .inr (6, [.ref (a 30), .int 0])), ((a 30), .inl (cy 1, 24, .inl (fun _ => 0))), ((a 31), .inr (10, [.ref (a 32), .ref (a 33), .ref (a 34), .ref (a 35), .ref (a 36), .ref (a 37), .ref (a 38), .int 0, .int 0])), ((a 32), .inr (3, [.int 0, .ref (sv 0), .int 0])), ((a 33), .inr (3, [.int 0, .ref (sv 0), .int 0])), ((a 34), .inr (3, [.int 0, .ref (sv 0), .int 0])), ((a 35), .inr (3, [.int 0, .ref (sv 0), .int 0])), ((a 36), .inl (cy 2, 3, .inl (fun _ => 0))), ((a 37), .inl (cy 1, 3, .inl (fun _ => 0))), ((a 38), .inl (cy 1, 3, .inl (fun _ => 0))), ((a 39), .inr (9, [.long 0, .null])), ((a 0), .inr (8, [.ref (a 1), .ref (a 6), .ref (a 8), .ref (a 15), .ref (a 20), .int 0, .ref (a 24), .ref (a 26)])), ((a 1), .inr (7, [.ref (a 2), .ref (a 4)])), ((a 2), .inr (6, [.ref (a 3), .int 0]))] H _ := w
  refine W.widen (k := 41) (n := 1542) (Nat.le_of_ble_eq_true rfl) (Nat.le_of_ble_eq_true rfl) ?_
  refine lv_istore (lv' := [(5, .int 2), (4, .int 0), (3, .ref (a 39)), (2, .ref (a 31)), (1, .ref (a 0)), (0, .ref b)]) C.1 C.2.1 dL_law_1312 hl (by decide) rfl (fun ls hl => ?_)
  refine lv_aload_n C.1 C.2.1 dL_law_1314 rfl (lv_at hl 3 rfl) ?_
  refine lv_aload_n C.1 C.2.1 dL_law_1315 rfl (lv_at hl 5 rfl) ?_
  refine lv_iload C.1 C.2.1 dL_law_1316 (lv_at hl 1 rfl) ?_
  refine lv_iconst (v := 1) C.1 C.2.1 dL_law_1318 (by decide) ?_
  refine lv_iadd C.1 C.2.1 dL_law_1319 ?_
  refine x_is (y := 1) (by decide) ?_
  refine va_sld C.1 C.2.1 hX hbl hbA w.2.2 (xvin (by decide)) dL_law_1320 ?_
  refine x_is (y := (xs 1)) (by rfl) ?_
  refine lv_aload_n C.1 C.2.1 dL_law_1321 rfl (lv_at hl 5 rfl) ?_
  refine lv_iload C.1 C.2.1 dL_law_1322 (lv_at hl 1 rfl) ?_
  refine lv_iconst (v := 2) C.1 C.2.1 dL_law_1324 (by decide) ?_
  refine lv_iadd C.1 C.2.1 dL_law_1325 ?_
  refine x_is (y := 2) (by decide) ?_
  refine va_sld C.1 C.2.1 hX hbl hbA w.2.2 (xvin (by decide)) dL_law_1326 ?_
  refine x_is (y := (xs 2)) (by rfl) ?_
  refine lv_aload_n C.1 C.2.1 dL_law_1327 rfl (lv_at hl 5 rfl) ?_
  refine lv_iload C.1 C.2.1 dL_law_1328 (lv_at hl 1 rfl) ?_
  refine lv_iconst (v := 3) C.1 C.2.1 dL_law_1330 (by decide) ?_
  refine lv_iadd C.1 C.2.1 dL_law_1331 ?_
  refine x_is (y := 3) (by decide) ?_
  refine va_sld C.1 C.2.1 hX hbl hbA w.2.2 (xvin (by decide)) dL_law_1332 ?_
  refine x_is (y := (xs 3)) (by rfl) ?_
  refine lv_aload_n C.1 C.2.1 dL_law_1333 rfl (lv_at hl 5 rfl) ?_
  refine lv_iload C.1 C.2.1 dL_law_1334 (lv_at hl 1 rfl) ?_
  refine lv_iconst (v := 4) C.1 C.2.1 dL_law_1336 (by decide) ?_
  refine lv_iadd C.1 C.2.1 dL_law_1337 ?_
  refine x_is (y := 4) (by decide) ?_
  refine va_sld C.1 C.2.1 hX hbl hbA w.2.2 (xvin (by decide)) dL_law_1338 ?_
  refine x_is (y := 0) (show xs 4 = 0 from hs4) ?_
  refine x_ki C w [28, 29] [0, 1, 2, 3, 4, 5, 6, 7, 8, 9, 10, 11, 12, 13, 14, 15, 16, 17, 18, 19, 20, 21, 22, 23, 24, 25, 26, 27, 30, 31, 32, 33, 34, 35, 36, 37, 38, 39] rfl rfl (by decide) (by decide) (va_runV (As := [.int (xs 1), .int (xs 2), .int (xs 3), .int 0]) (rest := []) (xfix C) (c319_X6_rangeNear l G cy sa sv (a 31) (a 32) (a 33) (a 34) (a 35) (a 36) (a 37) (a 38) (xs 1) (xs 2) (xs 3) p1 (xtr C) _) (cwV 4 (xhts C) (xgV (maxL := 0) (cc := ⟨#[]⟩) (ret := none) gw_690 gw_691 gw_692 gw_58 gc_X6_rangeNear) rfl rfl rfl (by decide +kernel) ⟨(Nat.le_of_ble_eq_true rfl), (Nat.le_of_ble_eq_true rfl)⟩) (xPV C w [28, 29] rfl (by decide) (ci := 10) (q0 := 28) rfl rfl) rfl rfl hl.1 rfl (lv_room (Nat.le_of_ble_eq_true rfl)) dL_law_1339 ⟨(Nat.le_of_ble_eq_true rfl), (Nat.le_of_ble_eq_true rfl)⟩) (fun f1830 H locs w => ?_)
  have w : xW G A s [((a 3), .inl (cy 1, 24, .inl (fun _ => 0))), ((a 4), .inr (6, [.ref (a 5), .int 0])), ((a 5), .inl (cy 1, 24, .inl (fun _ => 0))), ((a 6), .inr (6, [.ref (a 7), .int 0])), ((a 7), .inl (cy 1, 24, .inl (fun _ => 0))), ((a 8), .inr (5, [.ref (a 9), .ref (a 11), .ref (a 13), .int 0])), ((a 9), .inr (6, [.ref (a 10), .int 0])), ((a 10), .inl (cy 1, 624, .inl (fun _ => 0))), ((a 11), .inr (6, [.ref (a 12), .int 0])), ((a 12), .inl (cy 1, 624, .inl (fun _ => 0))), ((a 13), .inr (6, [.ref (a 14), .int 0])), ((a 14), .inl (cy 1, 12, .inl (fun _ => 0))), ((a 15), .inr (7, [.ref (a 16), .ref (a 18)])), ((a 16), .inr (6, [.ref (a 17), .int 0])), ((a 17), .inl (cy 1, 24, .inl (fun _ => 0))), ((a 18), .inr (6, [.ref (a 19), .int 0])), ((a 19), .inl (cy 1, 24, .inl (fun _ => 0))), ((a 20), .inl (cy 3, 3, .inr (.inr (.inr (.inr (va_up (va_up (va_up (fun _ => none) 0 (some (a 21))) 1 (some (a 22))) 2 (some (a 23)))))))), ((a 21), .inr (4, [.int 0, .int 0, .int 0])), ((a 22), .inr (4, [.int 0, .int 0, .int 0])), ((a 23), .inr (4, [.int 0, .int 0, .int 0])), ((a 24), .inr (6, [.ref (a 25), .int 0])), ((a 25), .inl (cy 1, 24, .inl (fun _ => 0))), ((a 26), .inr (7, [.ref (a 27), .ref (a 29)])), ((a 27), .inr (6, [.ref (a 28), .int 0])), ((a 28), .inl (cy 1, 24, .inl (fun _ => 0))), ((a 29), .inr (6, [.ref (a 30), .int 0])), ((a 30), .inl (cy 1, 24, .inl (fun _ => 0))), ((a 33), .inr (3, [.int 0, .ref (sv 0), .int 0])), ((a 34), .inr (3, [.int 0, .ref (sv 0), .int 0])), ((a 35), .inr (3, [.int 0, .ref (sv 0), .int 0])), ((a 36), .inl (cy 2, 3, .inl (fun _ => 0))), ((a 37), .inl (cy 1, 3, .inl (fun _ => 0))), ((a 38), .inl (cy 1, 3, .inl (fun _ => 0))), ((a 39), .inr (9, [.long 0, .null])), ((a 0), .inr (8, [.ref (a 1), .ref (a 6), .ref (a 8), .ref (a 15), .ref (a 20), .int 0, .ref (a 24), .ref (a 26)])), ((a 1), .inr (7, [.ref (a 2), .ref (a 4)])), ((a 2), .inr (6, [.ref (a 3), .int 0])), ((a 31), .inr (10, [.ref (a 32), .ref (a 33), .ref (a 34), .ref (a 35), .ref (a 36), .ref (a 37), .ref (a 38), .int 0, .int 2])), ((a 32), .inr (3, [.int 0, .ref (sv 0), .int 0]))] H _ := w
  refine W.widen (k := 42) (n := 1545) (Nat.le_of_ble_eq_true rfl) (Nat.le_of_ble_eq_true rfl) ?_
  refine lv_istore (lv' := [(6, .int 0), (5, .int 2), (4, .int 0), (3, .ref (a 39)), (2, .ref (a 31)), (1, .ref (a 0)), (0, .ref b)]) C.1 C.2.1 dL_law_1342 hl (by decide) rfl (fun ls hl => ?_)
  refine lv_aload_n C.1 C.2.1 dL_law_1344 rfl (lv_at hl 4 rfl) ?_
  refine x_ki C w [38] [0, 1, 2, 3, 4, 5, 6, 7, 8, 9, 10, 11, 12, 13, 14, 15, 16, 17, 18, 19, 20, 21, 22, 23, 24, 25, 26, 27, 28, 29, 30, 31, 32, 33, 34, 35, 36, 37, 39] rfl rfl (by decide) (by decide) (va_runV (As := []) (rest := []) (xfix C) (c151_X6_thrown l G cy sa sv (a 31) (a 32) (a 33) (a 34) (a 35) (a 36) (a 37) (a 38) (xtr C) _) (cwV 0 (xhts C) (xgV (maxL := 0) (cc := ⟨#[]⟩) (ret := none) gw_122 gw_123 gw_124 gw_58 gc_X6_thrown) rfl rfl rfl (by decide +kernel) ⟨(Nat.le_of_ble_eq_true rfl), (Nat.le_of_ble_eq_true rfl)⟩) (xPV C w [38] rfl (by decide) (ci := 10) (q0 := 38) rfl rfl) rfl rfl hl.1 rfl (lv_room (Nat.le_of_ble_eq_true rfl)) dL_law_1345 ⟨(Nat.le_of_ble_eq_true rfl), (Nat.le_of_ble_eq_true rfl)⟩) (fun f1831 H locs w => ?_)
  have w : xW G A s [((a 3), .inl (cy 1, 24, .inl (fun _ => 0))), ((a 4), .inr (6, [.ref (a 5), .int 0])), ((a 5), .inl (cy 1, 24, .inl (fun _ => 0))), ((a 6), .inr (6, [.ref (a 7), .int 0])), ((a 7), .inl (cy 1, 24, .inl (fun _ => 0))), ((a 8), .inr (5, [.ref (a 9), .ref (a 11), .ref (a 13), .int 0])), ((a 9), .inr (6, [.ref (a 10), .int 0])), ((a 10), .inl (cy 1, 624, .inl (fun _ => 0))), ((a 11), .inr (6, [.ref (a 12), .int 0])), ((a 12), .inl (cy 1, 624, .inl (fun _ => 0))), ((a 13), .inr (6, [.ref (a 14), .int 0])), ((a 14), .inl (cy 1, 12, .inl (fun _ => 0))), ((a 15), .inr (7, [.ref (a 16), .ref (a 18)])), ((a 16), .inr (6, [.ref (a 17), .int 0])), ((a 17), .inl (cy 1, 24, .inl (fun _ => 0))), ((a 18), .inr (6, [.ref (a 19), .int 0])), ((a 19), .inl (cy 1, 24, .inl (fun _ => 0))), ((a 20), .inl (cy 3, 3, .inr (.inr (.inr (.inr (va_up (va_up (va_up (fun _ => none) 0 (some (a 21))) 1 (some (a 22))) 2 (some (a 23)))))))), ((a 21), .inr (4, [.int 0, .int 0, .int 0])), ((a 22), .inr (4, [.int 0, .int 0, .int 0])), ((a 23), .inr (4, [.int 0, .int 0, .int 0])), ((a 24), .inr (6, [.ref (a 25), .int 0])), ((a 25), .inl (cy 1, 24, .inl (fun _ => 0))), ((a 26), .inr (7, [.ref (a 27), .ref (a 29)])), ((a 27), .inr (6, [.ref (a 28), .int 0])), ((a 28), .inl (cy 1, 24, .inl (fun _ => 0))), ((a 29), .inr (6, [.ref (a 30), .int 0])), ((a 30), .inl (cy 1, 24, .inl (fun _ => 0))), ((a 33), .inr (3, [.int 0, .ref (sv 0), .int 0])), ((a 34), .inr (3, [.int 0, .ref (sv 0), .int 0])), ((a 35), .inr (3, [.int 0, .ref (sv 0), .int 0])), ((a 36), .inl (cy 2, 3, .inl (fun _ => 0))), ((a 37), .inl (cy 1, 3, .inl (fun _ => 0))), ((a 38), .inl (cy 1, 3, .inl (fun _ => 0))), ((a 39), .inr (9, [.long 0, .null])), ((a 0), .inr (8, [.ref (a 1), .ref (a 6), .ref (a 8), .ref (a 15), .ref (a 20), .int 0, .ref (a 24), .ref (a 26)])), ((a 1), .inr (7, [.ref (a 2), .ref (a 4)])), ((a 2), .inr (6, [.ref (a 3), .int 0])), ((a 32), .inr (3, [.int 0, .ref (sv 0), .int 0])), ((a 31), .inr (10, [.ref (a 32), .ref (a 33), .ref (a 34), .ref (a 35), .ref (a 36), .ref (a 37), .ref (a 38), .int 0, .int 2]))] H _ := w
  refine lv_iload C.1 C.2.1 dL_law_1348 (lv_at hl 1 rfl) ?_
  refine lv_icmp_eq (tgt := 1355) C.1 C.2.1 dL_law_1350 (by decide) (fun _ => ?_) (fun c9 => absurd (by decide) c9)
  refine lv_iload C.1 C.2.1 dL_law_1355 (lv_at hl 1 rfl) ?_
  refine lv_if_ne (tgt := 1373) C.1 C.2.1 dL_law_1357 (by decide) (fun _ => ?_) (fun c9 => absurd c9 (by decide))
  refine lv_goto (tgt := 2509) C.1 C.2.1 dL_law_1373 (by decide) ?_
  refine lv_iinc (v := 5) (lv' := [(4, .int 5), (6, .int 0), (5, .int 2), (3, .ref (a 39)), (2, .ref (a 31)), (1, .ref (a 0)), (0, .ref b)]) C.1 C.2.1 dL_law_2509 hl (k := 2) rfl (by decide) (by decide) rfl (fun ls hl => ?_)
  refine lv_goto (tgt := 27) C.1 C.2.1 dL_law_2512 (by decide) ?_
  refine lv_iload C.1 C.2.1 dL_law_27 (lv_at hl 0 rfl) ?_
  refine lv_aload_n C.1 C.2.1 dL_law_29 rfl (lv_at hl 6 rfl) ?_
  refine va_slen C.1 C.2.1 hX hbl hbA w.2.2 dL_law_30 ?_
  refine x_is (y := 5) (by decide) ?_
  refine lv_iconst (v := 5) C.1 C.2.1 dL_law_31 (by decide) ?_
  refine lv_isub C.1 C.2.1 dL_law_32 ?_
  refine x_is (y := 0) (by decide) ?_
  refine lv_icmp_gt (tgt := 2515) C.1 C.2.1 dL_law_33 (by decide) (fun _ => ?_) (fun c9 => absurd (by decide) c9)
  refine lv_iconst (v := 1) C.1 C.2.1 dL_law_2515 (by decide) ?_
  refine va_forget (fun q hq => hAl _ (w.2.2.2.2 q hq)) ?_
  refine W.widen (k := 600002) (n := 7302232) (Nat.le_of_ble_eq_true rfl) (Nat.le_of_ble_eq_true rfl) ?_
  exact lw_ret C.1 C.2.1 hr (xlk C) dL_law_2516
set_option maxHeartbeats 8000000 in
set_option maxRecDepth 100000 in
theorem law_23f0_49 {p : Program} {e : Env} {s : State} {m : MethodId} {below : List Frame} {meth : Method} {c : Code} {l : Launch} {G : va_G} {cy : Nat → ClassId} {sa : String → Nat → Nat} {sv : Nat → Nat} {A : Nat → Prop} {b : Nat} {xs : Nat → Int32} {a : Nat → Nat} {H : Heap} {locs : List Loc} {ls : Array Slot} (C : xC p l s m #[Value.ref b] meth c code 7 "TwinindexLaw" (Cond.initialized "TwinindexLaw" :: XG) G cy sa sv A) (hr : meth.sig.returnType = ret) (hX : va_X b 5 xs s s.heap) (hbl : b < s.heap.size) (hbA : ¬ A b) (hAl : ∀ q, A q → s.heap.size ≤ q) (w : xW G A s (xW0 cy sv a) H locs) (hl : lv_has ls 7 [(4, .int 0), (3, .ref (a 39)), (2, .ref (a 31)), (1, .ref (a 0)), (0, .ref b)]) (hk : ((xs 0) &&& 63) = 23) (hs4 : xs 4 = 0) (p0 : ¬ (xs 1) ≤ (xs 2)) (p1 : (xs 2) < (xs 1)) : W p l e room_1 s m #[Value.ref b] below meth c H locs 40 1536 (lw_Z below #[Value.ref b] s) (F0 m 27 ls []) := by
  have w : xW G A s [((a 0), .inr (8, [.ref (a 1), .ref (a 6), .ref (a 8), .ref (a 15), .ref (a 20), .int 0, .ref (a 24), .ref (a 26)])), ((a 1), .inr (7, [.ref (a 2), .ref (a 4)])), ((a 2), .inr (6, [.ref (a 3), .int 0])), ((a 3), .inl (cy 1, 24, .inl (fun _ => 0))), ((a 4), .inr (6, [.ref (a 5), .int 0])), ((a 5), .inl (cy 1, 24, .inl (fun _ => 0))), ((a 6), .inr (6, [.ref (a 7), .int 0])), ((a 7), .inl (cy 1, 24, .inl (fun _ => 0))), ((a 8), .inr (5, [.ref (a 9), .ref (a 11), .ref (a 13), .int 0])), ((a 9), .inr (6, [.ref (a 10), .int 0])), ((a 10), .inl (cy 1, 624, .inl (fun _ => 0))), ((a 11), .inr (6, [.ref (a 12), .int 0])), ((a 12), .inl (cy 1, 624, .inl (fun _ => 0))), ((a 13), .inr (6, [.ref (a 14), .int 0])), ((a 14), .inl (cy 1, 12, .inl (fun _ => 0))), ((a 15), .inr (7, [.ref (a 16), .ref (a 18)])), ((a 16), .inr (6, [.ref (a 17), .int 0])), ((a 17), .inl (cy 1, 24, .inl (fun _ => 0))), ((a 18), .inr (6, [.ref (a 19), .int 0])), ((a 19), .inl (cy 1, 24, .inl (fun _ => 0))), ((a 20), .inl (cy 3, 3, .inr (.inr (.inr (.inr (va_up (va_up (va_up (fun _ => none) 0 (some (a 21))) 1 (some (a 22))) 2 (some (a 23)))))))), ((a 21), .inr (4, [.int 0, .int 0, .int 0])), ((a 22), .inr (4, [.int 0, .int 0, .int 0])), ((a 23), .inr (4, [.int 0, .int 0, .int 0])), ((a 24), .inr (6, [.ref (a 25), .int 0])), ((a 25), .inl (cy 1, 24, .inl (fun _ => 0))), ((a 26), .inr (7, [.ref (a 27), .ref (a 29)])), ((a 27), .inr (6, [.ref (a 28), .int 0])), ((a 28), .inl (cy 1, 24, .inl (fun _ => 0))), ((a 29), .inr (6, [.ref (a 30), .int 0])), ((a 30), .inl (cy 1, 24, .inl (fun _ => 0))), ((a 31), .inr (10, [.ref (a 32), .ref (a 33), .ref (a 34), .ref (a 35), .ref (a 36), .ref (a 37), .ref (a 38), .int 0, .int 0])), ((a 32), .inr (3, [.int 0, .ref (sv 0), .int 0])), ((a 33), .inr (3, [.int 0, .ref (sv 0), .int 0])), ((a 34), .inr (3, [.int 0, .ref (sv 0), .int 0])), ((a 35), .inr (3, [.int 0, .ref (sv 0), .int 0])), ((a 36), .inl (cy 2, 3, .inl (fun _ => 0))), ((a 37), .inl (cy 1, 3, .inl (fun _ => 0))), ((a 38), .inl (cy 1, 3, .inl (fun _ => 0))), ((a 39), .inr (9, [.long 0, .null]))] H _ := w
  refine lv_iload C.1 C.2.1 dL_law_27 (lv_at hl 0 rfl) ?_
  refine lv_aload_n C.1 C.2.1 dL_law_29 rfl (lv_at hl 4 rfl) ?_
  refine va_slen C.1 C.2.1 hX hbl hbA w.2.2 dL_law_30 ?_
  refine x_is (y := 5) (by decide) ?_
  refine lv_iconst (v := 5) C.1 C.2.1 dL_law_31 (by decide) ?_
  refine lv_isub C.1 C.2.1 dL_law_32 ?_
  refine x_is (y := 0) (by decide) ?_
  refine lv_icmp_gt (tgt := 2515) C.1 C.2.1 dL_law_33 (by decide) (fun c9 => absurd c9 (by decide)) (fun _ => ?_)
  refine lv_aload_n C.1 C.2.1 dL_law_36 rfl (lv_at hl 4 rfl) ?_
  refine lv_iload C.1 C.2.1 dL_law_37 (lv_at hl 0 rfl) ?_
  refine va_sld C.1 C.2.1 hX hbl hbA w.2.2 (xvin (by decide)) dL_law_39 ?_
  refine x_is (y := (xs 0)) (by rfl) ?_
  refine lv_bipush (v := 63) C.1 C.2.1 dL_law_40 (by decide) ?_
  refine lv_iand C.1 C.2.1 dL_law_42 ?_
  refine x_is (y := 23) hk ?_
  refine lv_tableIn (off := 1240) (tgt := 1283) C.1 C.2.1 dL_law_43 (by decide) (by decide) (by decide) (by decide) ?_
  refine lv_aload_n C.1 C.2.1 dL_law_1283 rfl (lv_at hl 3 rfl) ?_
  refine lv_aload_n C.1 C.2.1 dL_law_1284 rfl (lv_at hl 4 rfl) ?_
  refine lv_iload C.1 C.2.1 dL_law_1285 (lv_at hl 0 rfl) ?_
  refine lv_iconst (v := 1) C.1 C.2.1 dL_law_1287 (by decide) ?_
  refine lv_iadd C.1 C.2.1 dL_law_1288 ?_
  refine x_is (y := 1) (by decide) ?_
  refine va_sld C.1 C.2.1 hX hbl hbA w.2.2 (xvin (by decide)) dL_law_1289 ?_
  refine x_is (y := (xs 1)) (by rfl) ?_
  refine lv_aload_n C.1 C.2.1 dL_law_1290 rfl (lv_at hl 4 rfl) ?_
  refine lv_iload C.1 C.2.1 dL_law_1291 (lv_at hl 0 rfl) ?_
  refine lv_iconst (v := 2) C.1 C.2.1 dL_law_1293 (by decide) ?_
  refine lv_iadd C.1 C.2.1 dL_law_1294 ?_
  refine x_is (y := 2) (by decide) ?_
  refine va_sld C.1 C.2.1 hX hbl hbA w.2.2 (xvin (by decide)) dL_law_1295 ?_
  refine x_is (y := (xs 2)) (by rfl) ?_
  refine lv_aload_n C.1 C.2.1 dL_law_1296 rfl (lv_at hl 4 rfl) ?_
  refine lv_iload C.1 C.2.1 dL_law_1297 (lv_at hl 0 rfl) ?_
  refine lv_iconst (v := 3) C.1 C.2.1 dL_law_1299 (by decide) ?_
  refine lv_iadd C.1 C.2.1 dL_law_1300 ?_
  refine x_is (y := 3) (by decide) ?_
  refine va_sld C.1 C.2.1 hX hbl hbA w.2.2 (xvin (by decide)) dL_law_1301 ?_
  refine x_is (y := (xs 3)) (by rfl) ?_
  refine lv_aload_n C.1 C.2.1 dL_law_1302 rfl (lv_at hl 4 rfl) ?_
  refine lv_iload C.1 C.2.1 dL_law_1303 (lv_at hl 0 rfl) ?_
  refine lv_iconst (v := 4) C.1 C.2.1 dL_law_1305 (by decide) ?_
  refine lv_iadd C.1 C.2.1 dL_law_1306 ?_
  refine x_is (y := 4) (by decide) ?_
  refine va_sld C.1 C.2.1 hX hbl hbA w.2.2 (xvin (by decide)) dL_law_1307 ?_
  refine x_is (y := 0) (show xs 4 = 0 from hs4) ?_
  refine lv_aload_n C.1 C.2.1 dL_law_1308 rfl (lv_at hl 1 rfl) ?_
  refine x_ki C w [0] [1, 2, 3, 4, 5, 6, 7, 8, 9, 10, 11, 12, 13, 14, 15, 16, 17, 18, 19, 20, 21, 22, 23, 24, 25, 26, 27, 28, 29, 30, 31, 32, 33, 34, 35, 36, 37, 38, 39] rfl rfl (by decide) (by decide) (vx_runSW (As := [.ref (a 0), .int (xs 1), .int (xs 2), .int (xs 3), .int 0, .ref (a 39)]) (rest := []) (xfix C) (c321_L_rangeNear l G cy sa sv (a 0) (a 39) (a 1) (a 6) (a 8) (a 15) (a 20) (a 24) (a 26) (xs 1) (xs 2) (xs 3) p0 (xtr C) _) (vx_cwSW 6 (xhts C) (xgS gw_687 gw_688 gw_106 gc_L_rangeNear) rfl rfl rfl (by decide +kernel) ⟨(Nat.le_of_ble_eq_true rfl), (Nat.le_of_ble_eq_true rfl)⟩) (xPS C w [0] rfl (by decide)) rfl rfl hl.1 rfl (lv_room (Nat.le_of_ble_eq_true rfl)) dL_law_1309 ⟨(Nat.le_of_ble_eq_true rfl), (Nat.le_of_ble_eq_true rfl)⟩) (fun f1839 H locs w => ?_)
  have w : xW G A s [((a 1), .inr (7, [.ref (a 2), .ref (a 4)])), ((a 2), .inr (6, [.ref (a 3), .int 0])), ((a 3), .inl (cy 1, 24, .inl (fun _ => 0))), ((a 4), .inr (6, [.ref (a 5), .int 0])), ((a 5), .inl (cy 1, 24, .inl (fun _ => 0))), ((a 6), .inr (6, [.ref (a 7), .int 0])), ((a 7), .inl (cy 1, 24, .inl (fun _ => 0))), ((a 8), .inr (5, [.ref (a 9), .ref (a 11), .ref (a 13), .int 0])), ((a 9), .inr (6, [.ref (a 10), .int 0])), ((a 10), .inl (cy 1, 624, .inl (fun _ => 0))), ((a 11), .inr (6, [.ref (a 12), .int 0])), ((a 12), .inl (cy 1, 624, .inl (fun _ => 0))), ((a 13), .inr (6, [.ref (a 14), .int 0])), ((a 14), .inl (cy 1, 12, .inl (fun _ => 0))), ((a 15), .inr (7, [.ref (a 16), .ref (a 18)])), ((a 16), .inr (6, [.ref (a 17), .int 0])), ((a 17), .inl (cy 1, 24, .inl (fun _ => 0))), ((a 18), .inr (6, [.ref (a 19), .int 0])), ((a 19), .inl (cy 1, 24, .inl (fun _ => 0))), ((a 20), .inl (cy 3, 3, .inr (.inr (.inr (.inr (va_up (va_up (va_up (fun _ => none) 0 (some (a 21))) 1 (some (a 22))) 2 (some (a 23)))))))), ((a 21), .inr (4, [.int 0, .int 0, .int 0])), ((a 22), .inr (4, [.int 0, .int 0, .int 0])), ((a 23), .inr (4, [.int 0, .int 0, .int 0])), ((a 24), .inr (6, [.ref (a 25), .int 0])), ((a 25), .inl (cy 1, 24, .inl (fun _ => 0))), ((a 26), .inr (7, [.ref (a 27), .ref (a 29)])), ((a 27), .inr (6, [.ref (a 28), .int 0])), ((a 28), .inl (cy 1, 24, .inl (fun _ => 0))), ((a 29), .inr (6, [.ref (a 30), .int 0])), ((a 30), .inl (cy 1, 24, .inl (fun _ => 0))), ((a 31), .inr (10, [.ref (a 32), .ref (a 33), .ref (a 34), .ref (a 35), .ref (a 36), .ref (a 37), .ref (a 38), .int 0, .int 0])), ((a 32), .inr (3, [.int 0, .ref (sv 0), .int 0])), ((a 33), .inr (3, [.int 0, .ref (sv 0), .int 0])), ((a 34), .inr (3, [.int 0, .ref (sv 0), .int 0])), ((a 35), .inr (3, [.int 0, .ref (sv 0), .int 0])), ((a 36), .inl (cy 2, 3, .inl (fun _ => 0))), ((a 37), .inl (cy 1, 3, .inl (fun _ => 0))), ((a 38), .inl (cy 1, 3, .inl (fun _ => 0))), ((a 39), .inr (9, [.long 0, .null])), ((a 0), .inr (8, [.ref (a 1), .ref (a 6), .ref (a 8), .ref (a 15), .ref (a 20), .int 0, .ref (a 24), .ref (a 26)]))] H _ := w
  refine W.widen (k := 41) (n := 1542) (Nat.le_of_ble_eq_true rfl) (Nat.le_of_ble_eq_true rfl) ?_
  refine lv_istore (lv' := [(5, .int 1), (4, .int 0), (3, .ref (a 39)), (2, .ref (a 31)), (1, .ref (a 0)), (0, .ref b)]) C.1 C.2.1 dL_law_1312 hl (by decide) rfl (fun ls hl => ?_)
  refine lv_aload_n C.1 C.2.1 dL_law_1314 rfl (lv_at hl 3 rfl) ?_
  refine lv_aload_n C.1 C.2.1 dL_law_1315 rfl (lv_at hl 5 rfl) ?_
  refine lv_iload C.1 C.2.1 dL_law_1316 (lv_at hl 1 rfl) ?_
  refine lv_iconst (v := 1) C.1 C.2.1 dL_law_1318 (by decide) ?_
  refine lv_iadd C.1 C.2.1 dL_law_1319 ?_
  refine x_is (y := 1) (by decide) ?_
  refine va_sld C.1 C.2.1 hX hbl hbA w.2.2 (xvin (by decide)) dL_law_1320 ?_
  refine x_is (y := (xs 1)) (by rfl) ?_
  refine lv_aload_n C.1 C.2.1 dL_law_1321 rfl (lv_at hl 5 rfl) ?_
  refine lv_iload C.1 C.2.1 dL_law_1322 (lv_at hl 1 rfl) ?_
  refine lv_iconst (v := 2) C.1 C.2.1 dL_law_1324 (by decide) ?_
  refine lv_iadd C.1 C.2.1 dL_law_1325 ?_
  refine x_is (y := 2) (by decide) ?_
  refine va_sld C.1 C.2.1 hX hbl hbA w.2.2 (xvin (by decide)) dL_law_1326 ?_
  refine x_is (y := (xs 2)) (by rfl) ?_
  refine lv_aload_n C.1 C.2.1 dL_law_1327 rfl (lv_at hl 5 rfl) ?_
  refine lv_iload C.1 C.2.1 dL_law_1328 (lv_at hl 1 rfl) ?_
  refine lv_iconst (v := 3) C.1 C.2.1 dL_law_1330 (by decide) ?_
  refine lv_iadd C.1 C.2.1 dL_law_1331 ?_
  refine x_is (y := 3) (by decide) ?_
  refine va_sld C.1 C.2.1 hX hbl hbA w.2.2 (xvin (by decide)) dL_law_1332 ?_
  refine x_is (y := (xs 3)) (by rfl) ?_
  refine lv_aload_n C.1 C.2.1 dL_law_1333 rfl (lv_at hl 5 rfl) ?_
  refine lv_iload C.1 C.2.1 dL_law_1334 (lv_at hl 1 rfl) ?_
  refine lv_iconst (v := 4) C.1 C.2.1 dL_law_1336 (by decide) ?_
  refine lv_iadd C.1 C.2.1 dL_law_1337 ?_
  refine x_is (y := 4) (by decide) ?_
  refine va_sld C.1 C.2.1 hX hbl hbA w.2.2 (xvin (by decide)) dL_law_1338 ?_
  refine x_is (y := 0) (show xs 4 = 0 from hs4) ?_
  refine x_ki C w [30] [0, 1, 2, 3, 4, 5, 6, 7, 8, 9, 10, 11, 12, 13, 14, 15, 16, 17, 18, 19, 20, 21, 22, 23, 24, 25, 26, 27, 28, 29, 31, 32, 33, 34, 35, 36, 37, 38, 39] rfl rfl (by decide) (by decide) (va_runV (As := [.int (xs 1), .int (xs 2), .int (xs 3), .int 0]) (rest := []) (xfix C) (c322_X6_rangeNear l G cy sa sv (a 31) (a 32) (a 33) (a 34) (a 35) (a 36) (a 37) (a 38) (xs 1) (xs 2) (xs 3) p1 (xtr C) _) (cwV 4 (xhts C) (xgV (maxL := 0) (cc := ⟨#[]⟩) (ret := none) gw_690 gw_691 gw_692 gw_58 gc_X6_rangeNear) rfl rfl rfl (by decide +kernel) ⟨(Nat.le_of_ble_eq_true rfl), (Nat.le_of_ble_eq_true rfl)⟩) (xPV C w [30] rfl (by decide) (ci := 10) (q0 := 30) rfl rfl) rfl rfl hl.1 rfl (lv_room (Nat.le_of_ble_eq_true rfl)) dL_law_1339 ⟨(Nat.le_of_ble_eq_true rfl), (Nat.le_of_ble_eq_true rfl)⟩) (fun f1841 H locs w => ?_)
  have w : xW G A s [((a 1), .inr (7, [.ref (a 2), .ref (a 4)])), ((a 2), .inr (6, [.ref (a 3), .int 0])), ((a 3), .inl (cy 1, 24, .inl (fun _ => 0))), ((a 4), .inr (6, [.ref (a 5), .int 0])), ((a 5), .inl (cy 1, 24, .inl (fun _ => 0))), ((a 6), .inr (6, [.ref (a 7), .int 0])), ((a 7), .inl (cy 1, 24, .inl (fun _ => 0))), ((a 8), .inr (5, [.ref (a 9), .ref (a 11), .ref (a 13), .int 0])), ((a 9), .inr (6, [.ref (a 10), .int 0])), ((a 10), .inl (cy 1, 624, .inl (fun _ => 0))), ((a 11), .inr (6, [.ref (a 12), .int 0])), ((a 12), .inl (cy 1, 624, .inl (fun _ => 0))), ((a 13), .inr (6, [.ref (a 14), .int 0])), ((a 14), .inl (cy 1, 12, .inl (fun _ => 0))), ((a 15), .inr (7, [.ref (a 16), .ref (a 18)])), ((a 16), .inr (6, [.ref (a 17), .int 0])), ((a 17), .inl (cy 1, 24, .inl (fun _ => 0))), ((a 18), .inr (6, [.ref (a 19), .int 0])), ((a 19), .inl (cy 1, 24, .inl (fun _ => 0))), ((a 20), .inl (cy 3, 3, .inr (.inr (.inr (.inr (va_up (va_up (va_up (fun _ => none) 0 (some (a 21))) 1 (some (a 22))) 2 (some (a 23)))))))), ((a 21), .inr (4, [.int 0, .int 0, .int 0])), ((a 22), .inr (4, [.int 0, .int 0, .int 0])), ((a 23), .inr (4, [.int 0, .int 0, .int 0])), ((a 24), .inr (6, [.ref (a 25), .int 0])), ((a 25), .inl (cy 1, 24, .inl (fun _ => 0))), ((a 26), .inr (7, [.ref (a 27), .ref (a 29)])), ((a 27), .inr (6, [.ref (a 28), .int 0])), ((a 28), .inl (cy 1, 24, .inl (fun _ => 0))), ((a 29), .inr (6, [.ref (a 30), .int 0])), ((a 30), .inl (cy 1, 24, .inl (fun _ => 0))), ((a 32), .inr (3, [.int 0, .ref (sv 0), .int 0])), ((a 33), .inr (3, [.int 0, .ref (sv 0), .int 0])), ((a 34), .inr (3, [.int 0, .ref (sv 0), .int 0])), ((a 35), .inr (3, [.int 0, .ref (sv 0), .int 0])), ((a 36), .inl (cy 2, 3, .inl (fun _ => 0))), ((a 37), .inl (cy 1, 3, .inl (fun _ => 0))), ((a 38), .inl (cy 1, 3, .inl (fun _ => 0))), ((a 39), .inr (9, [.long 0, .null])), ((a 0), .inr (8, [.ref (a 1), .ref (a 6), .ref (a 8), .ref (a 15), .ref (a 20), .int 0, .ref (a 24), .ref (a 26)])), ((a 31), .inr (10, [.ref (a 32), .ref (a 33), .ref (a 34), .ref (a 35), .ref (a 36), .ref (a 37), .ref (a 38), .int 0, .int 1]))] H _ := w
  refine lv_istore (lv' := [(6, .int 0), (5, .int 1), (4, .int 0), (3, .ref (a 39)), (2, .ref (a 31)), (1, .ref (a 0)), (0, .ref b)]) C.1 C.2.1 dL_law_1342 hl (by decide) rfl (fun ls hl => ?_)
  refine lv_aload_n C.1 C.2.1 dL_law_1344 rfl (lv_at hl 4 rfl) ?_
  refine x_ki C w [39] [0, 1, 2, 3, 4, 5, 6, 7, 8, 9, 10, 11, 12, 13, 14, 15, 16, 17, 18, 19, 20, 21, 22, 23, 24, 25, 26, 27, 28, 29, 30, 31, 32, 33, 34, 35, 36, 37, 38] rfl rfl (by decide) (by decide) (va_runV (As := []) (rest := []) (xfix C) (c19_X6_thrown l G cy sa sv (a 31) (a 32) (a 33) (a 34) (a 35) (a 36) (a 37) (a 38) (xtr C) _) (cwV 0 (xhts C) (xgV (maxL := 0) (cc := ⟨#[]⟩) (ret := none) gw_122 gw_123 gw_124 gw_58 gc_X6_thrown) rfl rfl rfl (by decide +kernel) ⟨(Nat.le_of_ble_eq_true rfl), (Nat.le_of_ble_eq_true rfl)⟩) (xPV C w [39] rfl (by decide) (ci := 10) (q0 := 39) rfl rfl) rfl rfl hl.1 rfl (lv_room (Nat.le_of_ble_eq_true rfl)) dL_law_1345 ⟨(Nat.le_of_ble_eq_true rfl), (Nat.le_of_ble_eq_true rfl)⟩) (fun f1842 H locs w => ?_)
  have w : xW G A s [((a 1), .inr (7, [.ref (a 2), .ref (a 4)])), ((a 2), .inr (6, [.ref (a 3), .int 0])), ((a 3), .inl (cy 1, 24, .inl (fun _ => 0))), ((a 4), .inr (6, [.ref (a 5), .int 0])), ((a 5), .inl (cy 1, 24, .inl (fun _ => 0))), ((a 6), .inr (6, [.ref (a 7), .int 0])), ((a 7), .inl (cy 1, 24, .inl (fun _ => 0))), ((a 8), .inr (5, [.ref (a 9), .ref (a 11), .ref (a 13), .int 0])), ((a 9), .inr (6, [.ref (a 10), .int 0])), ((a 10), .inl (cy 1, 624, .inl (fun _ => 0))), ((a 11), .inr (6, [.ref (a 12), .int 0])), ((a 12), .inl (cy 1, 624, .inl (fun _ => 0))), ((a 13), .inr (6, [.ref (a 14), .int 0])), ((a 14), .inl (cy 1, 12, .inl (fun _ => 0))), ((a 15), .inr (7, [.ref (a 16), .ref (a 18)])), ((a 16), .inr (6, [.ref (a 17), .int 0])), ((a 17), .inl (cy 1, 24, .inl (fun _ => 0))), ((a 18), .inr (6, [.ref (a 19), .int 0])), ((a 19), .inl (cy 1, 24, .inl (fun _ => 0))), ((a 20), .inl (cy 3, 3, .inr (.inr (.inr (.inr (va_up (va_up (va_up (fun _ => none) 0 (some (a 21))) 1 (some (a 22))) 2 (some (a 23)))))))), ((a 21), .inr (4, [.int 0, .int 0, .int 0])), ((a 22), .inr (4, [.int 0, .int 0, .int 0])), ((a 23), .inr (4, [.int 0, .int 0, .int 0])), ((a 24), .inr (6, [.ref (a 25), .int 0])), ((a 25), .inl (cy 1, 24, .inl (fun _ => 0))), ((a 26), .inr (7, [.ref (a 27), .ref (a 29)])), ((a 27), .inr (6, [.ref (a 28), .int 0])), ((a 28), .inl (cy 1, 24, .inl (fun _ => 0))), ((a 29), .inr (6, [.ref (a 30), .int 0])), ((a 30), .inl (cy 1, 24, .inl (fun _ => 0))), ((a 32), .inr (3, [.int 0, .ref (sv 0), .int 0])), ((a 33), .inr (3, [.int 0, .ref (sv 0), .int 0])), ((a 34), .inr (3, [.int 0, .ref (sv 0), .int 0])), ((a 35), .inr (3, [.int 0, .ref (sv 0), .int 0])), ((a 36), .inl (cy 2, 3, .inl (fun _ => 0))), ((a 37), .inl (cy 1, 3, .inl (fun _ => 0))), ((a 38), .inl (cy 1, 3, .inl (fun _ => 0))), ((a 39), .inr (9, [.long 0, .null])), ((a 0), .inr (8, [.ref (a 1), .ref (a 6), .ref (a 8), .ref (a 15), .ref (a 20), .int 0, .ref (a 24), .ref (a 26)])), ((a 31), .inr (10, [.ref (a 32), .ref (a 33), .ref (a 34), .ref (a 35), .ref (a 36), .ref (a 37), .ref (a 38), .int 0, .int 1]))] H _ := w
  refine lv_iload C.1 C.2.1 dL_law_1348 (lv_at hl 1 rfl) ?_
  refine lv_icmp_eq (tgt := 1355) C.1 C.2.1 dL_law_1350 (by decide) (fun _ => ?_) (fun c9 => absurd (by decide) c9)
  refine lv_iload C.1 C.2.1 dL_law_1355 (lv_at hl 1 rfl) ?_
  refine lv_if_ne (tgt := 1373) C.1 C.2.1 dL_law_1357 (by decide) (fun _ => ?_) (fun c9 => absurd c9 (by decide))
  refine lv_goto (tgt := 2509) C.1 C.2.1 dL_law_1373 (by decide) ?_
  refine lv_iinc (v := 5) (lv' := [(4, .int 5), (6, .int 0), (5, .int 1), (3, .ref (a 39)), (2, .ref (a 31)), (1, .ref (a 0)), (0, .ref b)]) C.1 C.2.1 dL_law_2509 hl (k := 2) rfl (by decide) (by decide) rfl (fun ls hl => ?_)
  refine lv_goto (tgt := 27) C.1 C.2.1 dL_law_2512 (by decide) ?_
  refine lv_iload C.1 C.2.1 dL_law_27 (lv_at hl 0 rfl) ?_
  refine lv_aload_n C.1 C.2.1 dL_law_29 rfl (lv_at hl 6 rfl) ?_
  refine va_slen C.1 C.2.1 hX hbl hbA w.2.2 dL_law_30 ?_
  refine x_is (y := 5) (by decide) ?_
  refine lv_iconst (v := 5) C.1 C.2.1 dL_law_31 (by decide) ?_
  refine lv_isub C.1 C.2.1 dL_law_32 ?_
  refine x_is (y := 0) (by decide) ?_
  refine lv_icmp_gt (tgt := 2515) C.1 C.2.1 dL_law_33 (by decide) (fun _ => ?_) (fun c9 => absurd (by decide) c9)
  refine lv_iconst (v := 1) C.1 C.2.1 dL_law_2515 (by decide) ?_
  refine va_forget (fun q hq => hAl _ (w.2.2.2.2 q hq)) ?_
  refine W.widen (k := 600002) (n := 7302232) (Nat.le_of_ble_eq_true rfl) (Nat.le_of_ble_eq_true rfl) ?_
  exact lw_ret C.1 C.2.1 hr (xlk C) dL_law_2516
set_option maxHeartbeats 8000000 in
set_option maxRecDepth 100000 in
theorem law_23f1_50 {p : Program} {e : Env} {s : State} {m : MethodId} {below : List Frame} {meth : Method} {c : Code} {l : Launch} {G : va_G} {cy : Nat → ClassId} {sa : String → Nat → Nat} {sv : Nat → Nat} {A : Nat → Prop} {b : Nat} {xs : Nat → Int32} {a : Nat → Nat} {H : Heap} {locs : List Loc} {ls : Array Slot} (C : xC p l s m #[Value.ref b] meth c code 7 "TwinindexLaw" (Cond.initialized "TwinindexLaw" :: XG) G cy sa sv A) (hr : meth.sig.returnType = ret) (hX : va_X b 5 xs s s.heap) (hbl : b < s.heap.size) (hbA : ¬ A b) (hAl : ∀ q, A q → s.heap.size ≤ q) (w : xW G A s (xW0 cy sv a) H locs) (hl : lv_has ls 7 [(4, .int 0), (3, .ref (a 39)), (2, .ref (a 31)), (1, .ref (a 0)), (0, .ref b)]) (hk : ((xs 0) &&& 63) = 23) (hs4 : xs 4 = 1) (p0 : (xs 1) ≤ (xs 2)) (p1 : ¬ (xs 2) < (xs 1)) : W p l e room_1 s m #[Value.ref b] below meth c H locs 40 1536 (lw_Z below #[Value.ref b] s) (F0 m 27 ls []) := by
  have w : xW G A s [((a 0), .inr (8, [.ref (a 1), .ref (a 6), .ref (a 8), .ref (a 15), .ref (a 20), .int 0, .ref (a 24), .ref (a 26)])), ((a 1), .inr (7, [.ref (a 2), .ref (a 4)])), ((a 2), .inr (6, [.ref (a 3), .int 0])), ((a 3), .inl (cy 1, 24, .inl (fun _ => 0))), ((a 4), .inr (6, [.ref (a 5), .int 0])), ((a 5), .inl (cy 1, 24, .inl (fun _ => 0))), ((a 6), .inr (6, [.ref (a 7), .int 0])), ((a 7), .inl (cy 1, 24, .inl (fun _ => 0))), ((a 8), .inr (5, [.ref (a 9), .ref (a 11), .ref (a 13), .int 0])), ((a 9), .inr (6, [.ref (a 10), .int 0])), ((a 10), .inl (cy 1, 624, .inl (fun _ => 0))), ((a 11), .inr (6, [.ref (a 12), .int 0])), ((a 12), .inl (cy 1, 624, .inl (fun _ => 0))), ((a 13), .inr (6, [.ref (a 14), .int 0])), ((a 14), .inl (cy 1, 12, .inl (fun _ => 0))), ((a 15), .inr (7, [.ref (a 16), .ref (a 18)])), ((a 16), .inr (6, [.ref (a 17), .int 0])), ((a 17), .inl (cy 1, 24, .inl (fun _ => 0))), ((a 18), .inr (6, [.ref (a 19), .int 0])), ((a 19), .inl (cy 1, 24, .inl (fun _ => 0))), ((a 20), .inl (cy 3, 3, .inr (.inr (.inr (.inr (va_up (va_up (va_up (fun _ => none) 0 (some (a 21))) 1 (some (a 22))) 2 (some (a 23)))))))), ((a 21), .inr (4, [.int 0, .int 0, .int 0])), ((a 22), .inr (4, [.int 0, .int 0, .int 0])), ((a 23), .inr (4, [.int 0, .int 0, .int 0])), ((a 24), .inr (6, [.ref (a 25), .int 0])), ((a 25), .inl (cy 1, 24, .inl (fun _ => 0))), ((a 26), .inr (7, [.ref (a 27), .ref (a 29)])), ((a 27), .inr (6, [.ref (a 28), .int 0])), ((a 28), .inl (cy 1, 24, .inl (fun _ => 0))), ((a 29), .inr (6, [.ref (a 30), .int 0])), ((a 30), .inl (cy 1, 24, .inl (fun _ => 0))), ((a 31), .inr (10, [.ref (a 32), .ref (a 33), .ref (a 34), .ref (a 35), .ref (a 36), .ref (a 37), .ref (a 38), .int 0, .int 0])), ((a 32), .inr (3, [.int 0, .ref (sv 0), .int 0])), ((a 33), .inr (3, [.int 0, .ref (sv 0), .int 0])), ((a 34), .inr (3, [.int 0, .ref (sv 0), .int 0])), ((a 35), .inr (3, [.int 0, .ref (sv 0), .int 0])), ((a 36), .inl (cy 2, 3, .inl (fun _ => 0))), ((a 37), .inl (cy 1, 3, .inl (fun _ => 0))), ((a 38), .inl (cy 1, 3, .inl (fun _ => 0))), ((a 39), .inr (9, [.long 0, .null]))] H _ := w
  refine lv_iload C.1 C.2.1 dL_law_27 (lv_at hl 0 rfl) ?_
  refine lv_aload_n C.1 C.2.1 dL_law_29 rfl (lv_at hl 4 rfl) ?_
  refine va_slen C.1 C.2.1 hX hbl hbA w.2.2 dL_law_30 ?_
  refine x_is (y := 5) (by decide) ?_
  refine lv_iconst (v := 5) C.1 C.2.1 dL_law_31 (by decide) ?_
  refine lv_isub C.1 C.2.1 dL_law_32 ?_
  refine x_is (y := 0) (by decide) ?_
  refine lv_icmp_gt (tgt := 2515) C.1 C.2.1 dL_law_33 (by decide) (fun c9 => absurd c9 (by decide)) (fun _ => ?_)
  refine lv_aload_n C.1 C.2.1 dL_law_36 rfl (lv_at hl 4 rfl) ?_
  refine lv_iload C.1 C.2.1 dL_law_37 (lv_at hl 0 rfl) ?_
  refine va_sld C.1 C.2.1 hX hbl hbA w.2.2 (xvin (by decide)) dL_law_39 ?_
  refine x_is (y := (xs 0)) (by rfl) ?_
  refine lv_bipush (v := 63) C.1 C.2.1 dL_law_40 (by decide) ?_
  refine lv_iand C.1 C.2.1 dL_law_42 ?_
  refine x_is (y := 23) hk ?_
  refine lv_tableIn (off := 1240) (tgt := 1283) C.1 C.2.1 dL_law_43 (by decide) (by decide) (by decide) (by decide) ?_
  refine lv_aload_n C.1 C.2.1 dL_law_1283 rfl (lv_at hl 3 rfl) ?_
  refine lv_aload_n C.1 C.2.1 dL_law_1284 rfl (lv_at hl 4 rfl) ?_
  refine lv_iload C.1 C.2.1 dL_law_1285 (lv_at hl 0 rfl) ?_
  refine lv_iconst (v := 1) C.1 C.2.1 dL_law_1287 (by decide) ?_
  refine lv_iadd C.1 C.2.1 dL_law_1288 ?_
  refine x_is (y := 1) (by decide) ?_
  refine va_sld C.1 C.2.1 hX hbl hbA w.2.2 (xvin (by decide)) dL_law_1289 ?_
  refine x_is (y := (xs 1)) (by rfl) ?_
  refine lv_aload_n C.1 C.2.1 dL_law_1290 rfl (lv_at hl 4 rfl) ?_
  refine lv_iload C.1 C.2.1 dL_law_1291 (lv_at hl 0 rfl) ?_
  refine lv_iconst (v := 2) C.1 C.2.1 dL_law_1293 (by decide) ?_
  refine lv_iadd C.1 C.2.1 dL_law_1294 ?_
  refine x_is (y := 2) (by decide) ?_
  refine va_sld C.1 C.2.1 hX hbl hbA w.2.2 (xvin (by decide)) dL_law_1295 ?_
  refine x_is (y := (xs 2)) (by rfl) ?_
  refine lv_aload_n C.1 C.2.1 dL_law_1296 rfl (lv_at hl 4 rfl) ?_
  refine lv_iload C.1 C.2.1 dL_law_1297 (lv_at hl 0 rfl) ?_
  refine lv_iconst (v := 3) C.1 C.2.1 dL_law_1299 (by decide) ?_
  refine lv_iadd C.1 C.2.1 dL_law_1300 ?_
  refine x_is (y := 3) (by decide) ?_
  refine va_sld C.1 C.2.1 hX hbl hbA w.2.2 (xvin (by decide)) dL_law_1301 ?_
  refine x_is (y := (xs 3)) (by rfl) ?_
  refine lv_aload_n C.1 C.2.1 dL_law_1302 rfl (lv_at hl 4 rfl) ?_
  refine lv_iload C.1 C.2.1 dL_law_1303 (lv_at hl 0 rfl) ?_
  refine lv_iconst (v := 4) C.1 C.2.1 dL_law_1305 (by decide) ?_
  refine lv_iadd C.1 C.2.1 dL_law_1306 ?_
  refine x_is (y := 4) (by decide) ?_
  refine va_sld C.1 C.2.1 hX hbl hbA w.2.2 (xvin (by decide)) dL_law_1307 ?_
  refine x_is (y := 1) (show xs 4 = 1 from hs4) ?_
  refine lv_aload_n C.1 C.2.1 dL_law_1308 rfl (lv_at hl 1 rfl) ?_
  refine x_ki C w [0, 1, 2] [3, 4, 5, 6, 7, 8, 9, 10, 11, 12, 13, 14, 15, 16, 17, 18, 19, 20, 21, 22, 23, 24, 25, 26, 27, 28, 29, 30, 31, 32, 33, 34, 35, 36, 37, 38, 39] rfl rfl (by decide) (by decide) (vx_runSW (As := [.ref (a 0), .int (xs 1), .int (xs 2), .int (xs 3), .int 1, .ref (a 39)]) (rest := []) (xfix C) (c325_L_rangeNear l G cy sa sv (a 0) (a 39) (a 1) (a 2) (a 6) (a 8) (a 15) (a 20) (a 24) (a 26) (a 4) (a 3) (xs 1) (xs 2) (xs 3) p0 (xtr C) _) (vx_cwSW 6 (xhts C) (xgS gw_687 gw_688 gw_106 gc_L_rangeNear) rfl rfl rfl (by decide +kernel) ⟨(Nat.le_of_ble_eq_true rfl), (Nat.le_of_ble_eq_true rfl)⟩) (xPS C w [0, 1, 2] rfl (by decide)) rfl rfl hl.1 rfl (lv_room (Nat.le_of_ble_eq_true rfl)) dL_law_1309 ⟨(Nat.le_of_ble_eq_true rfl), (Nat.le_of_ble_eq_true rfl)⟩) (fun f1869 H locs w => ?_)
  have w : xW G A s [((a 3), .inl (cy 1, 24, .inl (fun _ => 0))), ((a 4), .inr (6, [.ref (a 5), .int 0])), ((a 5), .inl (cy 1, 24, .inl (fun _ => 0))), ((a 6), .inr (6, [.ref (a 7), .int 0])), ((a 7), .inl (cy 1, 24, .inl (fun _ => 0))), ((a 8), .inr (5, [.ref (a 9), .ref (a 11), .ref (a 13), .int 0])), ((a 9), .inr (6, [.ref (a 10), .int 0])), ((a 10), .inl (cy 1, 624, .inl (fun _ => 0))), ((a 11), .inr (6, [.ref (a 12), .int 0])), ((a 12), .inl (cy 1, 624, .inl (fun _ => 0))), ((a 13), .inr (6, [.ref (a 14), .int 0])), ((a 14), .inl (cy 1, 12, .inl (fun _ => 0))), ((a 15), .inr (7, [.ref (a 16), .ref (a 18)])), ((a 16), .inr (6, [.ref (a 17), .int 0])), ((a 17), .inl (cy 1, 24, .inl (fun _ => 0))), ((a 18), .inr (6, [.ref (a 19), .int 0])), ((a 19), .inl (cy 1, 24, .inl (fun _ => 0))), ((a 20), .inl (cy 3, 3, .inr (.inr (.inr (.inr (va_up (va_up (va_up (fun _ => none) 0 (some (a 21))) 1 (some (a 22))) 2 (some (a 23)))))))), ((a 21), .inr (4, [.int 0, .int 0, .int 0])), ((a 22), .inr (4, [.int 0, .int 0, .int 0])), ((a 23), .inr (4, [.int 0, .int 0, .int 0])), ((a 24), .inr (6, [.ref (a 25), .int 0])), ((a 25), .inl (cy 1, 24, .inl (fun _ => 0))), ((a 26), .inr (7, [.ref (a 27), .ref (a 29)])), ((a 27), .inr (6, [.ref (a 28), .int 0])), ((a 28), .inl (cy 1, 24, .inl (fun _ => 0))), ((a 29), .inr (6, [.ref (a 30), .int 0])), ((a 30), .inl (cy 1, 24, .inl (fun _ => 0))), ((a 31), .inr (10, [.ref (a 32), .ref (a 33), .ref (a 34), .ref (a 35), .ref (a 36), .ref (a 37), .ref (a 38), .int 0, .int 0])), ((a 32), .inr (3, [.int 0, .ref (sv 0), .int 0])), ((a 33), .inr (3, [.int 0, .ref (sv 0), .int 0])), ((a 34), .inr (3, [.int 0, .ref (sv 0), .int 0])), ((a 35), .inr (3, [.int 0, .ref (sv 0), .int 0])), ((a 36), .inl (cy 2, 3, .inl (fun _ => 0))), ((a 37), .inl (cy 1, 3, .inl (fun _ => 0))), ((a 38), .inl (cy 1, 3, .inl (fun _ => 0))), ((a 39), .inr (9, [.long 0, .null])), ((a 0), .inr (8, [.ref (a 1), .ref (a 6), .ref (a 8), .ref (a 15), .ref (a 20), .int 0, .ref (a 24), .ref (a 26)])), ((a 1), .inr (7, [.ref (a 2), .ref (a 4)])), ((a 2), .inr (6, [.ref (a 3), .int 0]))] H _ := w
  refine W.widen (k := 41) (n := 1542) (Nat.le_of_ble_eq_true rfl) (Nat.le_of_ble_eq_true rfl) ?_
  refine lv_istore (lv' := [(5, .int 2), (4, .int 0), (3, .ref (a 39)), (2, .ref (a 31)), (1, .ref (a 0)), (0, .ref b)]) C.1 C.2.1 dL_law_1312 hl (by decide) rfl (fun ls hl => ?_)
  refine lv_aload_n C.1 C.2.1 dL_law_1314 rfl (lv_at hl 3 rfl) ?_
  refine lv_aload_n C.1 C.2.1 dL_law_1315 rfl (lv_at hl 5 rfl) ?_
  refine lv_iload C.1 C.2.1 dL_law_1316 (lv_at hl 1 rfl) ?_
  refine lv_iconst (v := 1) C.1 C.2.1 dL_law_1318 (by decide) ?_
  refine lv_iadd C.1 C.2.1 dL_law_1319 ?_
  refine x_is (y := 1) (by decide) ?_
  refine va_sld C.1 C.2.1 hX hbl hbA w.2.2 (xvin (by decide)) dL_law_1320 ?_
  refine x_is (y := (xs 1)) (by rfl) ?_
  refine lv_aload_n C.1 C.2.1 dL_law_1321 rfl (lv_at hl 5 rfl) ?_
  refine lv_iload C.1 C.2.1 dL_law_1322 (lv_at hl 1 rfl) ?_
  refine lv_iconst (v := 2) C.1 C.2.1 dL_law_1324 (by decide) ?_
  refine lv_iadd C.1 C.2.1 dL_law_1325 ?_
  refine x_is (y := 2) (by decide) ?_
  refine va_sld C.1 C.2.1 hX hbl hbA w.2.2 (xvin (by decide)) dL_law_1326 ?_
  refine x_is (y := (xs 2)) (by rfl) ?_
  refine lv_aload_n C.1 C.2.1 dL_law_1327 rfl (lv_at hl 5 rfl) ?_
  refine lv_iload C.1 C.2.1 dL_law_1328 (lv_at hl 1 rfl) ?_
  refine lv_iconst (v := 3) C.1 C.2.1 dL_law_1330 (by decide) ?_
  refine lv_iadd C.1 C.2.1 dL_law_1331 ?_
  refine x_is (y := 3) (by decide) ?_
  refine va_sld C.1 C.2.1 hX hbl hbA w.2.2 (xvin (by decide)) dL_law_1332 ?_
  refine x_is (y := (xs 3)) (by rfl) ?_
  refine lv_aload_n C.1 C.2.1 dL_law_1333 rfl (lv_at hl 5 rfl) ?_
  refine lv_iload C.1 C.2.1 dL_law_1334 (lv_at hl 1 rfl) ?_
  refine lv_iconst (v := 4) C.1 C.2.1 dL_law_1336 (by decide) ?_
  refine lv_iadd C.1 C.2.1 dL_law_1337 ?_
  refine x_is (y := 4) (by decide) ?_
  refine va_sld C.1 C.2.1 hX hbl hbA w.2.2 (xvin (by decide)) dL_law_1338 ?_
  refine x_is (y := 1) (show xs 4 = 1 from hs4) ?_
  refine x_ki C w [28, 29] [0, 1, 2, 3, 4, 5, 6, 7, 8, 9, 10, 11, 12, 13, 14, 15, 16, 17, 18, 19, 20, 21, 22, 23, 24, 25, 26, 27, 30, 31, 32, 33, 34, 35, 36, 37, 38, 39] rfl rfl (by decide) (by decide) (va_runV (As := [.int (xs 1), .int (xs 2), .int (xs 3), .int 1]) (rest := []) (xfix C) (c326_X6_rangeNear l G cy sa sv (a 31) (a 32) (a 33) (a 34) (a 35) (a 36) (a 37) (a 38) (xs 1) (xs 2) (xs 3) p1 (xtr C) _) (cwV 4 (xhts C) (xgV (maxL := 0) (cc := ⟨#[]⟩) (ret := none) gw_690 gw_691 gw_692 gw_58 gc_X6_rangeNear) rfl rfl rfl (by decide +kernel) ⟨(Nat.le_of_ble_eq_true rfl), (Nat.le_of_ble_eq_true rfl)⟩) (xPV C w [28, 29] rfl (by decide) (ci := 10) (q0 := 28) rfl rfl) rfl rfl hl.1 rfl (lv_room (Nat.le_of_ble_eq_true rfl)) dL_law_1339 ⟨(Nat.le_of_ble_eq_true rfl), (Nat.le_of_ble_eq_true rfl)⟩) (fun f1886 H locs w => ?_)
  have w : xW G A s [((a 3), .inl (cy 1, 24, .inl (fun _ => 0))), ((a 4), .inr (6, [.ref (a 5), .int 0])), ((a 5), .inl (cy 1, 24, .inl (fun _ => 0))), ((a 6), .inr (6, [.ref (a 7), .int 0])), ((a 7), .inl (cy 1, 24, .inl (fun _ => 0))), ((a 8), .inr (5, [.ref (a 9), .ref (a 11), .ref (a 13), .int 0])), ((a 9), .inr (6, [.ref (a 10), .int 0])), ((a 10), .inl (cy 1, 624, .inl (fun _ => 0))), ((a 11), .inr (6, [.ref (a 12), .int 0])), ((a 12), .inl (cy 1, 624, .inl (fun _ => 0))), ((a 13), .inr (6, [.ref (a 14), .int 0])), ((a 14), .inl (cy 1, 12, .inl (fun _ => 0))), ((a 15), .inr (7, [.ref (a 16), .ref (a 18)])), ((a 16), .inr (6, [.ref (a 17), .int 0])), ((a 17), .inl (cy 1, 24, .inl (fun _ => 0))), ((a 18), .inr (6, [.ref (a 19), .int 0])), ((a 19), .inl (cy 1, 24, .inl (fun _ => 0))), ((a 20), .inl (cy 3, 3, .inr (.inr (.inr (.inr (va_up (va_up (va_up (fun _ => none) 0 (some (a 21))) 1 (some (a 22))) 2 (some (a 23)))))))), ((a 21), .inr (4, [.int 0, .int 0, .int 0])), ((a 22), .inr (4, [.int 0, .int 0, .int 0])), ((a 23), .inr (4, [.int 0, .int 0, .int 0])), ((a 24), .inr (6, [.ref (a 25), .int 0])), ((a 25), .inl (cy 1, 24, .inl (fun _ => 0))), ((a 26), .inr (7, [.ref (a 27), .ref (a 29)])), ((a 27), .inr (6, [.ref (a 28), .int 0])), ((a 28), .inl (cy 1, 24, .inl (fun _ => 0))), ((a 29), .inr (6, [.ref (a 30), .int 0])), ((a 30), .inl (cy 1, 24, .inl (fun _ => 0))), ((a 33), .inr (3, [.int 0, .ref (sv 0), .int 0])), ((a 34), .inr (3, [.int 0, .ref (sv 0), .int 0])), ((a 35), .inr (3, [.int 0, .ref (sv 0), .int 0])), ((a 36), .inl (cy 2, 3, .inl (fun _ => 0))), ((a 37), .inl (cy 1, 3, .inl (fun _ => 0))), ((a 38), .inl (cy 1, 3, .inl (fun _ => 0))), ((a 39), .inr (9, [.long 0, .null])), ((a 0), .inr (8, [.ref (a 1), .ref (a 6), .ref (a 8), .ref (a 15), .ref (a 20), .int 0, .ref (a 24), .ref (a 26)])), ((a 1), .inr (7, [.ref (a 2), .ref (a 4)])), ((a 2), .inr (6, [.ref (a 3), .int 0])), ((a 31), .inr (10, [.ref (a 32), .ref (a 33), .ref (a 34), .ref (a 35), .ref (a 36), .ref (a 37), .ref (a 38), .int 0, .int 2])), ((a 32), .inr (3, [.int 0, .ref (sv 0), .int 0]))] H _ := w
  refine W.widen (k := 42) (n := 1545) (Nat.le_of_ble_eq_true rfl) (Nat.le_of_ble_eq_true rfl) ?_
  refine lv_istore (lv' := [(6, .int 0), (5, .int 2), (4, .int 0), (3, .ref (a 39)), (2, .ref (a 31)), (1, .ref (a 0)), (0, .ref b)]) C.1 C.2.1 dL_law_1342 hl (by decide) rfl (fun ls hl => ?_)
  refine lv_aload_n C.1 C.2.1 dL_law_1344 rfl (lv_at hl 4 rfl) ?_
  refine x_ki C w [38] [0, 1, 2, 3, 4, 5, 6, 7, 8, 9, 10, 11, 12, 13, 14, 15, 16, 17, 18, 19, 20, 21, 22, 23, 24, 25, 26, 27, 28, 29, 30, 31, 32, 33, 34, 35, 36, 37, 39] rfl rfl (by decide) (by decide) (va_runV (As := []) (rest := []) (xfix C) (c151_X6_thrown l G cy sa sv (a 31) (a 32) (a 33) (a 34) (a 35) (a 36) (a 37) (a 38) (xtr C) _) (cwV 0 (xhts C) (xgV (maxL := 0) (cc := ⟨#[]⟩) (ret := none) gw_122 gw_123 gw_124 gw_58 gc_X6_thrown) rfl rfl rfl (by decide +kernel) ⟨(Nat.le_of_ble_eq_true rfl), (Nat.le_of_ble_eq_true rfl)⟩) (xPV C w [38] rfl (by decide) (ci := 10) (q0 := 38) rfl rfl) rfl rfl hl.1 rfl (lv_room (Nat.le_of_ble_eq_true rfl)) dL_law_1345 ⟨(Nat.le_of_ble_eq_true rfl), (Nat.le_of_ble_eq_true rfl)⟩) (fun f1887 H locs w => ?_)
  have w : xW G A s [((a 3), .inl (cy 1, 24, .inl (fun _ => 0))), ((a 4), .inr (6, [.ref (a 5), .int 0])), ((a 5), .inl (cy 1, 24, .inl (fun _ => 0))), ((a 6), .inr (6, [.ref (a 7), .int 0])), ((a 7), .inl (cy 1, 24, .inl (fun _ => 0))), ((a 8), .inr (5, [.ref (a 9), .ref (a 11), .ref (a 13), .int 0])), ((a 9), .inr (6, [.ref (a 10), .int 0])), ((a 10), .inl (cy 1, 624, .inl (fun _ => 0))), ((a 11), .inr (6, [.ref (a 12), .int 0])), ((a 12), .inl (cy 1, 624, .inl (fun _ => 0))), ((a 13), .inr (6, [.ref (a 14), .int 0])), ((a 14), .inl (cy 1, 12, .inl (fun _ => 0))), ((a 15), .inr (7, [.ref (a 16), .ref (a 18)])), ((a 16), .inr (6, [.ref (a 17), .int 0])), ((a 17), .inl (cy 1, 24, .inl (fun _ => 0))), ((a 18), .inr (6, [.ref (a 19), .int 0])), ((a 19), .inl (cy 1, 24, .inl (fun _ => 0))), ((a 20), .inl (cy 3, 3, .inr (.inr (.inr (.inr (va_up (va_up (va_up (fun _ => none) 0 (some (a 21))) 1 (some (a 22))) 2 (some (a 23)))))))), ((a 21), .inr (4, [.int 0, .int 0, .int 0])), ((a 22), .inr (4, [.int 0, .int 0, .int 0])), ((a 23), .inr (4, [.int 0, .int 0, .int 0])), ((a 24), .inr (6, [.ref (a 25), .int 0])), ((a 25), .inl (cy 1, 24, .inl (fun _ => 0))), ((a 26), .inr (7, [.ref (a 27), .ref (a 29)])), ((a 27), .inr (6, [.ref (a 28), .int 0])), ((a 28), .inl (cy 1, 24, .inl (fun _ => 0))), ((a 29), .inr (6, [.ref (a 30), .int 0])), ((a 30), .inl (cy 1, 24, .inl (fun _ => 0))), ((a 33), .inr (3, [.int 0, .ref (sv 0), .int 0])), ((a 34), .inr (3, [.int 0, .ref (sv 0), .int 0])), ((a 35), .inr (3, [.int 0, .ref (sv 0), .int 0])), ((a 36), .inl (cy 2, 3, .inl (fun _ => 0))), ((a 37), .inl (cy 1, 3, .inl (fun _ => 0))), ((a 38), .inl (cy 1, 3, .inl (fun _ => 0))), ((a 39), .inr (9, [.long 0, .null])), ((a 0), .inr (8, [.ref (a 1), .ref (a 6), .ref (a 8), .ref (a 15), .ref (a 20), .int 0, .ref (a 24), .ref (a 26)])), ((a 1), .inr (7, [.ref (a 2), .ref (a 4)])), ((a 2), .inr (6, [.ref (a 3), .int 0])), ((a 32), .inr (3, [.int 0, .ref (sv 0), .int 0])), ((a 31), .inr (10, [.ref (a 32), .ref (a 33), .ref (a 34), .ref (a 35), .ref (a 36), .ref (a 37), .ref (a 38), .int 0, .int 2]))] H _ := w
  refine lv_iload C.1 C.2.1 dL_law_1348 (lv_at hl 1 rfl) ?_
  refine lv_icmp_eq (tgt := 1355) C.1 C.2.1 dL_law_1350 (by decide) (fun _ => ?_) (fun c9 => absurd (by decide) c9)
  refine lv_iload C.1 C.2.1 dL_law_1355 (lv_at hl 1 rfl) ?_
  refine lv_if_ne (tgt := 1373) C.1 C.2.1 dL_law_1357 (by decide) (fun _ => ?_) (fun c9 => absurd c9 (by decide))
  refine lv_goto (tgt := 2509) C.1 C.2.1 dL_law_1373 (by decide) ?_
  refine lv_iinc (v := 5) (lv' := [(4, .int 5), (6, .int 0), (5, .int 2), (3, .ref (a 39)), (2, .ref (a 31)), (1, .ref (a 0)), (0, .ref b)]) C.1 C.2.1 dL_law_2509 hl (k := 2) rfl (by decide) (by decide) rfl (fun ls hl => ?_)
  refine lv_goto (tgt := 27) C.1 C.2.1 dL_law_2512 (by decide) ?_
  refine lv_iload C.1 C.2.1 dL_law_27 (lv_at hl 0 rfl) ?_
  refine lv_aload_n C.1 C.2.1 dL_law_29 rfl (lv_at hl 6 rfl) ?_
  refine va_slen C.1 C.2.1 hX hbl hbA w.2.2 dL_law_30 ?_
  refine x_is (y := 5) (by decide) ?_
  refine lv_iconst (v := 5) C.1 C.2.1 dL_law_31 (by decide) ?_
  refine lv_isub C.1 C.2.1 dL_law_32 ?_
  refine x_is (y := 0) (by decide) ?_
  refine lv_icmp_gt (tgt := 2515) C.1 C.2.1 dL_law_33 (by decide) (fun _ => ?_) (fun c9 => absurd (by decide) c9)
  refine lv_iconst (v := 1) C.1 C.2.1 dL_law_2515 (by decide) ?_
  refine va_forget (fun q hq => hAl _ (w.2.2.2.2 q hq)) ?_
  refine W.widen (k := 600002) (n := 7302232) (Nat.le_of_ble_eq_true rfl) (Nat.le_of_ble_eq_true rfl) ?_
  exact lw_ret C.1 C.2.1 hr (xlk C) dL_law_2516
