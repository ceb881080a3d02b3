set_option maxHeartbeats 8000000 in
set_option maxRecDepth 100000 in
theorem law_46b_136 {p : Program} {e : Env} {s : State} {m : MethodId} {below : List Frame} {meth : Method} {c : Code} {l : Launch} {G : va_G} {cy : Nat → ClassId} {sa : String → Nat → Nat} {sv : Nat → Nat} {A : Nat → Prop} {b : Nat} {xs : Nat → Int32} {a : Nat → Nat} {H : Heap} {locs : List Loc} {ls : Array Slot} (C : xC p l s m #[Value.ref b] meth c code 7 "TwinindexLaw" (Cond.initialized "TwinindexLaw" :: XG) G cy sa sv A) (hr : meth.sig.returnType = ret) (hX : va_X b 5 xs s s.heap) (hbl : b < s.heap.size) (hbA : ¬ A b) (hAl : ∀ q, A q → s.heap.size ≤ q) (w : xW G A s (xW0 cy sv a) H locs) (hl : lv_has ls 7 [(4, .int 0), (3, .ref (a 39)), (2, .ref (a 31)), (1, .ref (a 0)), (0, .ref b)]) (hk : ((xs 0) &&& 63) = 46) (p0 : ((xs 1)).toInt < 0 ∨ 4 < ((xs 1)).toInt) (p1 : ¬ (xs 1) < 0) (p2 : ¬ (xs 1) ≤ 4) : W p l e room_1 s m #[Value.ref b] below meth c H locs 40 1536 (lw_Z below #[Value.ref b] s) (F0 m 27 ls []) := by
  have w : xW G A s [((a 0), .inr (8, [.ref (a 1), .ref (a 6), .ref (a 8), .ref (a 15), .ref (a 20), .int 0, .ref (a 24), .ref (a 26)])), ((a 1), .inr (7, [.ref (a 2), .ref (a 4)])), ((a 2), .inr (6, [.ref (a 3), .int 0])), ((a 3), .inl (cy 1, 24, .inl (fun _ => 0))), ((a 4), .inr (6, [.ref (a 5), .int 0])), ((a 5), .inl (cy 1, 24, .inl (fun _ => 0))), ((a 6), .inr (6, [.ref (a 7), .int 0])), ((a 7), .inl (cy 1, 24, .inl (fun _ => 0))), ((a 8), .inr (5, [.ref (a 9), .ref (a 11), .ref (a 13), .int 0])), ((a 9), .inr (6, [.ref (a 10), .int 0])), ((a 10), .inl (cy 1, 624, .inl (fun _ => 0))), ((a 11), .inr (6, [.ref (a 12), .int 0])), ((a 12), .inl (cy 1, 624, .inl (fun _ => 0))), ((a 13), .inr (6, [.ref (a 14), .int 0])), ((a 14), .inl (cy 1, 12, .inl (fun _ => 0))), ((a 15), .inr (7, [.ref (a 16), .ref (a 18)])), ((a 16), .inr (6, [.ref (a 17), .int 0])), ((a 17), .inl (cy 1, 24, .inl (fun _ => 0))), ((a 18), .inr (6, [.ref (a 19), .int 0])), ((a 19), .inl (cy 1, 24, .inl (fun _ => 0))), ((a 20), .inl (cy 3, 3, .inr (.inr (.inr (.inr (va_up (va_up (va_up (fun _ => none) 0 (some (a 21))) 1 (some (a 22))) 2 (some (a 23)))))))), ((a 21), .inr (4, [.int 0, .int 0, .int 0])), ((a 22), .inr (4, [.int 0, .int 0, .int 0])), ((a 23), .inr (4, [.int 0, .int 0, .int 0])), ((a 24), .inr (6, [.ref (a 25), .int 0])), ((a 25), .inl (cy 1, 24, .inl (fun _ => 0))), ((a 26), .inr (7, [.ref (a 27), .ref (a 29)])), ((a 27), .inr (6, [.ref (a 28), .int 0])), ((a 28), .inl (cy 1, 24, .inl (fun _ => 0))), ((a 29), .inr (6, [.ref (a 30), .int 0])), ((a 30), .inl (cy 1, 24, .inl (fun _ => 0))), ((a 31), .inr (10, [.ref (a 32), .ref (a 33), .ref (a 34), .ref (a 35), .ref (a 36), .ref (a 37), .ref (a 38), .int 0, .int 0])), ((a 32), .inr (3, [.int 0, .ref (sv 0), .int 0])), ((a 33), .inr (3, [.int 0, .ref (sv 0), .int 0])), ((a 34), .inr (3, [.int 0, .ref (sv 0), .int 0])), ((a 35), .inr (3, [.int 0, .ref (sv 0), .int 0])), ((a 36), .inl (cy 2, 3, .inl (fun _ => 0))), ((a 37), .inl (cy 1, 3, .inl (fun _ => 0))), ((a 38), .inl (cy 1, 3, .inl (fun _ => 0))), ((a 39), .inr (9, [.long 0, .null]))] H _ := w
  refine lv_iload C.1 C.2.1 dL_law_27 (lv_at hl 0 rfl) ?_
  refine lv_aload_n C.1 C.2.1 dL_law_29 rfl (lv_at hl 4 rfl) ?_
  refine va_slen C.1 C.2.1 hX hbl hbA w.2.2 dL_law_30 ?_
  refine x_is (y := 5) (by decide) ?_
  refine lv_iconst (v := 5) C.1 C.2.1 dL_law_31 (by decide) ?_
  refine lv_isub C.1 C.2.1 dL_law_32 ?_
  refine x_is (y := 0) (by decide) ?_
  refine lv_icmp_gt (tgt := 2515) C.1 C.2.1 dL_law_33 (by decide) (fun c9 => absurd c9 (by decide)) (fun _ => ?_)
  refine lv_aload_n C.1 C.2.1 dL_law_36 rfl (lv_at hl 4 rfl) ?_
  refine lv_iload C.1 C.2.1 dL_law_37 (lv_at hl 0 rfl) ?_
  refine va_sld C.1 C.2.1 hX hbl hbA w.2.2 (xvin (by decide)) dL_law_39 ?_
  refine x_is (y := (xs 0)) (by rfl) ?_
  refine lv_bipush (v := 63) C.1 C.2.1 dL_law_40 (by decide) ?_
  refine lv_iand C.1 C.2.1 dL_law_42 ?_
  refine x_is (y := 46) hk ?_
  refine lv_tableIn (off := 2369) (tgt := 2412) C.1 C.2.1 dL_law_43 (by decide) (by decide) (by decide) (by decide) ?_
  refine lv_aload_n C.1 C.2.1 dL_law_2412 rfl (lv_at hl 3 rfl) ?_
  refine lv_aload_n C.1 C.2.1 dL_law_2413 rfl (lv_at hl 4 rfl) ?_
  refine lv_iload C.1 C.2.1 dL_law_2414 (lv_at hl 0 rfl) ?_
  refine lv_iconst (v := 1) C.1 C.2.1 dL_law_2416 (by decide) ?_
  refine lv_iadd C.1 C.2.1 dL_law_2417 ?_
  refine x_is (y := 1) (by decide) ?_
  refine va_sld C.1 C.2.1 hX hbl hbA w.2.2 (xvin (by decide)) dL_law_2418 ?_
  refine x_is (y := (xs 1)) (by rfl) ?_
  refine lv_aload_n C.1 C.2.1 dL_law_2419 rfl (lv_at hl 1 rfl) ?_
  refine x_ki C w [0] [1, 2, 3, 4, 5, 6, 7, 8, 9, 10, 11, 12, 13, 14, 15, 16, 17, 18, 19, 20, 21, 22, 23, 24, 25, 26, 27, 28, 29, 30, 31, 32, 33, 34, 35, 36, 37, 38, 39] rfl rfl (by decide) (by decide) (vx_runSW (As := [.ref (a 0), .int (xs 1), .ref (a 39)]) (rest := []) (xfix C) (c622_L_house l G cy sa sv (a 0) (a 39) (a 1) (a 6) (a 8) (a 15) (a 20) (a 24) (a 26) (xs 1) p0 (xtr C) _) (vx_cwSW 3 (xhts C) (xgS gw_1010 gw_1011 gw_106 gc_L_house) rfl rfl rfl (by decide +kernel) ⟨(Nat.le_of_ble_eq_true rfl), (Nat.le_of_ble_eq_true rfl)⟩) (xPS C w [0] rfl (by decide)) rfl rfl hl.1 rfl (lv_room (Nat.le_of_ble_eq_true rfl)) dL_law_2420 ⟨(Nat.le_of_ble_eq_true rfl), (Nat.le_of_ble_eq_true rfl)⟩) (fun f4344 H locs w => ?_)
  have w : xW G A s [((a 1), .inr (7, [.ref (a 2), .ref (a 4)])), ((a 2), .inr (6, [.ref (a 3), .int 0])), ((a 3), .inl (cy 1, 24, .inl (fun _ => 0))), ((a 4), .inr (6, [.ref (a 5), .int 0])), ((a 5), .inl (cy 1, 24, .inl (fun _ => 0))), ((a 6), .inr (6, [.ref (a 7), .int 0])), ((a 7), .inl (cy 1, 24, .inl (fun _ => 0))), ((a 8), .inr (5, [.ref (a 9), .ref (a 11), .ref (a 13), .int 0])), ((a 9), .inr (6, [.ref (a 10), .int 0])), ((a 10), .inl (cy 1, 624, .inl (fun _ => 0))), ((a 11), .inr (6, [.ref (a 12), .int 0])), ((a 12), .inl (cy 1, 624, .inl (fun _ => 0))), ((a 13), .inr (6, [.ref (a 14), .int 0])), ((a 14), .inl (cy 1, 12, .inl (fun _ => 0))), ((a 15), .inr (7, [.ref (a 16), .ref (a 18)])), ((a 16), .inr (6, [.ref (a 17), .int 0])), ((a 17), .inl (cy 1, 24, .inl (fun _ => 0))), ((a 18), .inr (6, [.ref (a 19), .int 0])), ((a 19), .inl (cy 1, 24, .inl (fun _ => 0))), ((a 20), .inl (cy 3, 3, .inr (.inr (.inr (.inr (va_up (va_up (va_up (fun _ => none) 0 (some (a 21))) 1 (some (a 22))) 2 (some (a 23)))))))), ((a 21), .inr (4, [.int 0, .int 0, .int 0])), ((a 22), .inr (4, [.int 0, .int 0, .int 0])), ((a 23), .inr (4, [.int 0, .int 0, .int 0])), ((a 24), .inr (6, [.ref (a 25), .int 0])), ((a 25), .inl (cy 1, 24, .inl (fun _ => 0))), ((a 26), .inr (7, [.ref (a 27), .ref (a 29)])), ((a 27), .inr (6, [.ref (a 28), .int 0])), ((a 28), .inl (cy 1, 24, .inl (fun _ => 0))), ((a 29), .inr (6, [.ref (a 30), .int 0])), ((a 30), .inl (cy 1, 24, .inl (fun _ => 0))), ((a 31), .inr (10, [.ref (a 32), .ref (a 33), .ref (a 34), .ref (a 35), .ref (a 36), .ref (a 37), .ref (a 38), .int 0, .int 0])), ((a 32), .inr (3, [.int 0, .ref (sv 0), .int 0])), ((a 33), .inr (3, [.int 0, .ref (sv 0), .int 0])), ((a 34), .inr (3, [.int 0, .ref (sv 0), .int 0])), ((a 35), .inr (3, [.int 0, .ref (sv 0), .int 0])), ((a 36), .inl (cy 2, 3, .inl (fun _ => 0))), ((a 37), .inl (cy 1, 3, .inl (fun _ => 0))), ((a 38), .inl (cy 1, 3, .inl (fun _ => 0))), ((a 39), .inr (9, [.long 0, .null])), ((a 0), .inr (8, [.ref (a 1), .ref (a 6), .ref (a 8), .ref (a 15), .ref (a 20), .int 0, .ref (a 24), .ref (a 26)]))] H _ := w
  refine W.widen (k := 41) (n := 1542) (Nat.le_of_ble_eq_true rfl) (Nat.le_of_ble_eq_true rfl) ?_
  refine lv_istore (lv' := [(5, .int 1), (4, .int 0), (3, .ref (a 39)), (2, .ref (a 31)), (1, .ref (a 0)), (0, .ref b)]) C.1 C.2.1 dL_law_2423 hl (by decide) rfl (fun ls hl => ?_)
  refine lv_aload_n C.1 C.2.1 dL_law_2425 rfl (lv_at hl 3 rfl) ?_
  refine lv_aload_n C.1 C.2.1 dL_law_2426 rfl (lv_at hl 5 rfl) ?_
  refine lv_iload C.1 C.2.1 dL_law_2427 (lv_at hl 1 rfl) ?_
  refine lv_iconst (v := 1) C.1 C.2.1 dL_law_2429 (by decide) ?_
  refine lv_iadd C.1 C.2.1 dL_law_2430 ?_
  refine x_is (y := 1) (by decide) ?_
  refine va_sld C.1 C.2.1 hX hbl hbA w.2.2 (xvin (by decide)) dL_law_2431 ?_
  refine x_is (y := (xs 1)) (by rfl) ?_
  refine x_ki C w [30] [0, 1, 2, 3, 4, 5, 6, 7, 8, 9, 10, 11, 12, 13, 14, 15, 16, 17, 18, 19, 20, 21, 22, 23, 24, 25, 26, 27, 28, 29, 31, 32, 33, 34, 35, 36, 37, 38, 39] rfl rfl (by decide) (by decide) (va_runV (As := [.int (xs 1)]) (rest := []) (xfix C) (c624_X6_house l G cy sa sv (a 31) (a 32) (a 33) (a 34) (a 35) (a 36) (a 37) (a 38) (xs 1) p1 p2 (xtr C) _) (cwV 1 (xhts C) (xgV (maxL := 0) (cc := ⟨#[]⟩) (ret := none) gw_1018 gw_1019 gw_1020 gw_58 gc_X6_house) rfl rfl rfl (by decide +kernel) ⟨(Nat.le_of_ble_eq_true rfl), (Nat.le_of_ble_eq_true rfl)⟩) (xPV C w [30] rfl (by decide) (ci := 10) (q0 := 30) rfl rfl) rfl rfl hl.1 rfl (lv_room (Nat.le_of_ble_eq_true rfl)) dL_law_2432 ⟨(Nat.le_of_ble_eq_true rfl), (Nat.le_of_ble_eq_true rfl)⟩) (fun f4346 H locs w => ?_)
  have w : xW G A s [((a 1), .inr (7, [.ref (a 2), .ref (a 4)])), ((a 2), .inr (6, [.ref (a 3), .int 0])), ((a 3), .inl (cy 1, 24, .inl (fun _ => 0))), ((a 4), .inr (6, [.ref (a 5), .int 0])), ((a 5), .inl (cy 1, 24, .inl (fun _ => 0))), ((a 6), .inr (6, [.ref (a 7), .int 0])), ((a 7), .inl (cy 1, 24, .inl (fun _ => 0))), ((a 8), .inr (5, [.ref (a 9), .ref (a 11), .ref (a 13), .int 0])), ((a 9), .inr (6, [.ref (a 10), .int 0])), ((a 10), .inl (cy 1, 624, .inl (fun _ => 0))), ((a 11), .inr (6, [.ref (a 12), .int 0])), ((a 12), .inl (cy 1, 624, .inl (fun _ => 0))), ((a 13), .inr (6, [.ref (a 14), .int 0])), ((a 14), .inl (cy 1, 12, .inl (fun _ => 0))), ((a 15), .inr (7, [.ref (a 16), .ref (a 18)])), ((a 16), .inr (6, [.ref (a 17), .int 0])), ((a 17), .inl (cy 1, 24, .inl (fun _ => 0))), ((a 18), .inr (6, [.ref (a 19), .int 0])), ((a 19), .inl (cy 1, 24, .inl (fun _ => 0))), ((a 20), .inl (cy 3, 3, .inr (.inr (.inr (.inr (va_up (va_up (va_up (fun _ => none) 0 (some (a 21))) 1 (some (a 22))) 2 (some (a 23)))))))), ((a 21), .inr (4, [.int 0, .int 0, .int 0])), ((a 22), .inr (4, [.int 0, .int 0, .int 0])), ((a 23), .inr (4, [.int 0, .int 0, .int 0])), ((a 24), .inr (6, [.ref (a 25), .int 0])), ((a 25), .inl (cy 1, 24, .inl (fun _ => 0))), ((a 26), .inr (7, [.ref (a 27), .ref (a 29)])), ((a 27), .inr (6, [.ref (a 28), .int 0])), ((a 28), .inl (cy 1, 24, .inl (fun _ => 0))), ((a 29), .inr (6, [.ref (a 30), .int 0])), ((a 30), .inl (cy 1, 24, .inl (fun _ => 0))), ((a 32), .inr (3, [.int 0, .ref (sv 0), .int 0])), ((a 33), .inr (3, [.int 0, .ref (sv 0), .int 0])), ((a 34), .inr (3, [.int 0, .ref (sv 0), .int 0])), ((a 35), .inr (3, [.int 0, .ref (sv 0), .int 0])), ((a 36), .inl (cy 2, 3, .inl (fun _ => 0))), ((a 37), .inl (cy 1, 3, .inl (fun _ => 0))), ((a 38), .inl (cy 1, 3, .inl (fun _ => 0))), ((a 39), .inr (9, [.long 0, .null])), ((a 0), .inr (8, [.ref (a 1), .ref (a 6), .ref (a 8), .ref (a 15), .ref (a 20), .int 0, .ref (a 24), .ref (a 26)])), ((a 31), .inr (10, [.ref (a 32), .ref (a 33), .ref (a 34), .ref (a 35), .ref (a 36), .ref (a 37), .ref (a 38), .int 0, .int 1]))] H _ := w
  refine lv_istore (lv' := [(6, .int 0), (5, .int 1), (4, .int 0), (3, .ref (a 39)), (2, .ref (a 31)), (1, .ref (a 0)), (0, .ref b)]) C.1 C.2.1 dL_law_2435 hl (by decide) rfl (fun ls hl => ?_)
  refine lv_aload_n C.1 C.2.1 dL_law_2437 rfl (lv_at hl 4 rfl) ?_
  refine x_ki C w [39] [0, 1, 2, 3, 4, 5, 6, 7, 8, 9, 10, 11, 12, 13, 14, 15, 16, 17, 18, 19, 20, 21, 22, 23, 24, 25, 26, 27, 28, 29, 30, 31, 32, 33, 34, 35, 36, 37, 38] rfl rfl (by decide) (by decide) (va_runV (As := []) (rest := []) (xfix C) (c19_X6_thrown l G cy sa sv (a 31) (a 32) (a 33) (a 34) (a 35) (a 36) (a 37) (a 38) (xtr C) _) (cwV 0 (xhts C) (xgV (maxL := 0) (cc := ⟨#[]⟩) (ret := none) gw_122 gw_123 gw_124 gw_58 gc_X6_thrown) rfl rfl rfl (by decide +kernel) ⟨(Nat.le_of_ble_eq_true rfl), (Nat.le_of_ble_eq_true rfl)⟩) (xPV C w [39] rfl (by decide) (ci := 10) (q0 := 39) rfl rfl) rfl rfl hl.1 rfl (lv_room (Nat.le_of_ble_eq_true rfl)) dL_law_2438 ⟨(Nat.le_of_ble_eq_true rfl), (Nat.le_of_ble_eq_true rfl)⟩) (fun f4347 H locs w => ?_)
  have w : xW G A s [((a 1), .inr (7, [.ref (a 2), .ref (a 4)])), ((a 2), .inr (6, [.ref (a 3), .int 0])), ((a 3), .inl (cy 1, 24, .inl (fun _ => 0))), ((a 4), .inr (6, [.ref (a 5), .int 0])), ((a 5), .inl (cy 1, 24, .inl (fun _ => 0))), ((a 6), .inr (6, [.ref (a 7), .int 0])), ((a 7), .inl (cy 1, 24, .inl (fun _ => 0))), ((a 8), .inr (5, [.ref (a 9), .ref (a 11), .ref (a 13), .int 0])), ((a 9), .inr (6, [.ref (a 10), .int 0])), ((a 10), .inl (cy 1, 624, .inl (fun _ => 0))), ((a 11), .inr (6, [.ref (a 12), .int 0])), ((a 12), .inl (cy 1, 624, .inl (fun _ => 0))), ((a 13), .inr (6, [.ref (a 14), .int 0])), ((a 14), .inl (cy 1, 12, .inl (fun _ => 0))), ((a 15), .inr (7, [.ref (a 16), .ref (a 18)])), ((a 16), .inr (6, [.ref (a 17), .int 0])), ((a 17), .inl (cy 1, 24, .inl (fun _ => 0))), ((a 18), .inr (6, [.ref (a 19), .int 0])), ((a 19), .inl (cy 1, 24, .inl (fun _ => 0))), ((a 20), .inl (cy 3, 3, .inr (.inr (.inr (.inr (va_up (va_up (va_up (fun _ => none) 0 (some (a 21))) 1 (some (a 22))) 2 (some (a 23)))))))), ((a 21), .inr (4, [.int 0, .int 0, .int 0])), ((a 22), .inr (4, [.int 0, .int 0, .int 0])), ((a 23), .inr (4, [.int 0, .int 0, .int 0])), ((a 24), .inr (6, [.ref (a 25), .int 0])), ((a 25), .inl (cy 1, 24, .inl (fun _ => 0))), ((a 26), .inr (7, [.ref (a 27), .ref (a 29)])), ((a 27), .inr (6, [.ref (a 28), .int 0])), ((a 28), .inl (cy 1, 24, .inl (fun _ => 0))), ((a 29), .inr (6, [.ref (a 30), .int 0])), ((a 30), .inl (cy 1, 24, .inl (fun _ => 0))), ((a 32), .inr (3, [.int 0, .ref (sv 0), .int 0])), ((a 33), .inr (3, [.int 0, .ref (sv 0), .int 0])), ((a 34), .inr (3, [.int 0, .ref (sv 0), .int 0])), ((a 35), .inr (3, [.int 0, .ref (sv 0), .int 0])), ((a 36), .inl (cy 2, 3, .inl (fun _ => 0))), ((a 37), .inl (cy 1, 3, .inl (fun _ => 0))), ((a 38), .inl (cy 1, 3, .inl (fun _ => 0))), ((a 39), .inr (9, [.long 0, .null])), ((a 0), .inr (8, [.ref (a 1), .ref (a 6), .ref (a 8), .ref (a 15), .ref (a 20), .int 0, .ref (a 24), .ref (a 26)])), ((a 31), .inr (10, [.ref (a 32), .ref (a 33), .ref (a 34), .ref (a 35), .ref (a 36), .ref (a 37), .ref (a 38), .int 0, .int 1]))] H _ := w
  refine lv_iload C.1 C.2.1 dL_law_2441 (lv_at hl 1 rfl) ?_
  refine lv_icmp_eq (tgt := 2448) C.1 C.2.1 dL_law_2443 (by decide) (fun _ => ?_) (fun c9 => absurd (by decide) c9)
  refine lv_iload C.1 C.2.1 dL_law_2448 (lv_at hl 1 rfl) ?_
  refine lv_if_ne (tgt := 2466) C.1 C.2.1 dL_law_2450 (by decide) (fun _ => ?_) (fun c9 => absurd c9 (by decide))
  refine lv_goto (tgt := 2509) C.1 C.2.1 dL_law_2466 (by decide) ?_
  refine lv_iinc (v := 5) (lv' := [(4, .int 5), (6, .int 0), (5, .int 1), (3, .ref (a 39)), (2, .ref (a 31)), (1, .ref (a 0)), (0, .ref b)]) C.1 C.2.1 dL_law_2509 hl (k := 2) rfl (by decide) (by decide) rfl (fun ls hl => ?_)
  refine lv_goto (tgt := 27) C.1 C.2.1 dL_law_2512 (by decide) ?_
  refine lv_iload C.1 C.2.1 dL_law_27 (lv_at hl 0 rfl) ?_
  refine lv_aload_n C.1 C.2.1 dL_law_29 rfl (lv_at hl 6 rfl) ?_
  refine va_slen C.1 C.2.1 hX hbl hbA w.2.2 dL_law_30 ?_
  refine x_is (y := 5) (by decide) ?_
  refine lv_iconst (v := 5) C.1 C.2.1 dL_law_31 (by decide) ?_
  refine lv_isub C.1 C.2.1 dL_law_32 ?_
  refine x_is (y := 0) (by decide) ?_
  refine lv_icmp_gt (tgt := 2515) C.1 C.2.1 dL_law_33 (by decide) (fun _ => ?_) (fun c9 => absurd (by decide) c9)
  refine lv_iconst (v := 1) C.1 C.2.1 dL_law_2515 (by decide) ?_
  refine va_forget (fun q hq => hAl _ (w.2.2.2.2 q hq)) ?_
  refine W.widen (k := 600002) (n := 7302232) (Nat.le_of_ble_eq_true rfl) (Nat.le_of_ble_eq_true rfl) ?_
  exact lw_ret C.1 C.2.1 hr (xlk C) dL_law_2516
set_option maxHeartbeats 8000000 in
set_option maxRecDepth 100000 in
theorem law_47_137 {p : Program} {e : Env} {s : State} {m : MethodId} {below : List Frame} {meth : Method} {c : Code} {l : Launch} {G : va_G} {cy : Nat → ClassId} {sa : String → Nat → Nat} {sv : Nat → Nat} {A : Nat → Prop} {b : Nat} {xs : Nat → Int32} {a : Nat → Nat} {H : Heap} {locs : List Loc} {ls : Array Slot} (C : xC p l s m #[Value.ref b] meth c code 7 "TwinindexLaw" (Cond.initialized "TwinindexLaw" :: XG) G cy sa sv A) (hr : meth.sig.returnType = ret) (hX : va_X b 5 xs s s.heap) (hbl : b < s.heap.size) (hbA : ¬ A b) (hAl : ∀ q, A q → s.heap.size ≤ q) (w : xW G A s (xW0 cy sv a) H locs) (hl : lv_has ls 7 [(4, .int 0), (3, .ref (a 39)), (2, .ref (a 31)), (1, .ref (a 0)), (0, .ref b)]) (hk : ((xs 0) &&& 63) = 47) : W p l e room_1 s m #[Value.ref b] below meth c H locs 40 1536 (lw_Z below #[Value.ref b] s) (F0 m 27 ls []) := by
  have w : xW G A s [((a 0), .inr (8, [.ref (a 1), .ref (a 6), .ref (a 8), .ref (a 15), .ref (a 20), .int 0, .ref (a 24), .ref (a 26)])), ((a 1), .inr (7, [.ref (a 2), .ref (a 4)])), ((a 2), .inr (6, [.ref (a 3), .int 0])), ((a 3), .inl (cy 1, 24, .inl (fun _ => 0))), ((a 4), .inr (6, [.ref (a 5), .int 0])), ((a 5), .inl (cy 1, 24, .inl (fun _ => 0))), ((a 6), .inr (6, [.ref (a 7), .int 0])), ((a 7), .inl (cy 1, 24, .inl (fun _ => 0))), ((a 8), .inr (5, [.ref (a 9), .ref (a 11), .ref (a 13), .int 0])), ((a 9), .inr (6, [.ref (a 10), .int 0])), ((a 10), .inl (cy 1, 624, .inl (fun _ => 0))), ((a 11), .inr (6, [.ref (a 12), .int 0])), ((a 12), .inl (cy 1, 624, .inl (fun _ => 0))), ((a 13), .inr (6, [.ref (a 14), .int 0])), ((a 14), .inl (cy 1, 12, .inl (fun _ => 0))), ((a 15), .inr (7, [.ref (a 16), .ref (a 18)])), ((a 16), .inr (6, [.ref (a 17), .int 0])), ((a 17), .inl (cy 1, 24, .inl (fun _ => 0))), ((a 18), .inr (6, [.ref (a 19), .int 0])), ((a 19), .inl (cy 1, 24, .inl (fun _ => 0))), ((a 20), .inl (cy 3, 3, .inr (.inr (.inr (.inr (va_up (va_up (va_up (fun _ => none) 0 (some (a 21))) 1 (some (a 22))) 2 (some (a 23)))))))), ((a 21), .inr (4, [.int 0, .int 0, .int 0])), ((a 22), .inr (4, [.int 0, .int 0, .int 0])), ((a 23), .inr (4, [.int 0, .int 0, .int 0])), ((a 24), .inr (6, [.ref (a 25), .int 0])), ((a 25), .inl (cy 1, 24, .inl (fun _ => 0))), ((a 26), .inr (7, [.ref (a 27), .ref (a 29)])), ((a 27), .inr (6, [.ref (a 28), .int 0])), ((a 28), .inl (cy 1, 24, .inl (fun _ => 0))), ((a 29), .inr (6, [.ref (a 30), .int 0])), ((a 30), .inl (cy 1, 24, .inl (fun _ => 0))), ((a 31), .inr (10, [.ref (a 32), .ref (a 33), .ref (a 34), .ref (a 35), .ref (a 36), .ref (a 37), .ref (a 38), .int 0, .int 0])), ((a 32), .inr (3, [.int 0, .ref (sv 0), .int 0])), ((a 33), .inr (3, [.int 0, .ref (sv 0), .int 0])), ((a 34), .inr (3, [.int 0, .ref (sv 0), .int 0])), ((a 35), .inr (3, [.int 0, .ref (sv 0), .int 0])), ((a 36), .inl (cy 2, 3, .inl (fun _ => 0))), ((a 37), .inl (cy 1, 3, .inl (fun _ => 0))), ((a 38), .inl (cy 1, 3, .inl (fun _ => 0))), ((a 39), .inr (9, [.long 0, .null]))] H _ := w
  refine lv_iload C.1 C.2.1 dL_law_27 (lv_at hl 0 rfl) ?_
  refine lv_aload_n C.1 C.2.1 dL_law_29 rfl (lv_at hl 4 rfl) ?_
  refine va_slen C.1 C.2.1 hX hbl hbA w.2.2 dL_law_30 ?_
  refine x_is (y := 5) (by decide) ?_
  refine lv_iconst (v := 5) C.1 C.2.1 dL_law_31 (by decide) ?_
  refine lv_isub C.1 C.2.1 dL_law_32 ?_
  refine x_is (y := 0) (by decide) ?_
  refine lv_icmp_gt (tgt := 2515) C.1 C.2.1 dL_law_33 (by decide) (fun c9 => absurd c9 (by decide)) (fun _ => ?_)
  refine lv_aload_n C.1 C.2.1 dL_law_36 rfl (lv_at hl 4 rfl) ?_
  refine lv_iload C.1 C.2.1 dL_law_37 (lv_at hl 0 rfl) ?_
  refine va_sld C.1 C.2.1 hX hbl hbA w.2.2 (xvin (by decide)) dL_law_39 ?_
  refine x_is (y := (xs 0)) (by rfl) ?_
  refine lv_bipush (v := 63) C.1 C.2.1 dL_law_40 (by decide) ?_
  refine lv_iand C.1 C.2.1 dL_law_42 ?_
  refine x_is (y := 47) hk ?_
  refine lv_tableIn (off := 2426) (tgt := 2469) C.1 C.2.1 dL_law_43 (by decide) (by decide) (by decide) (by decide) ?_
  refine lv_aload_n C.1 C.2.1 dL_law_2469 rfl (lv_at hl 3 rfl) ?_
  refine x_ki C w [0] [1, 2, 3, 4, 5, 6, 7, 8, 9, 10, 11, 12, 13, 14, 15, 16, 17, 18, 19, 20, 21, 22, 23, 24, 25, 26, 27, 28, 29, 30, 31, 32, 33, 34, 35, 36, 37, 38, 39] rfl rfl (by decide) (by decide) (va_runV (As := []) (rest := []) (xfix C) (c625_X4_knock l G cy sa sv (a 0) (a 1) (a 6) (a 8) (a 15) (a 20) (a 24) (a 26) (xtr C) _) (cwV 0 (xhts C) (xgV (maxL := 0) (cc := ⟨#[]⟩) (ret := none) gw_1026 gw_1027 gw_1028 gw_2 gc_X4_knock) rfl rfl rfl (by decide +kernel) ⟨(Nat.le_of_ble_eq_true rfl), (Nat.le_of_ble_eq_true rfl)⟩) (xPV C w [0] rfl (by decide) (ci := 8) (q0 := 0) rfl rfl) rfl rfl hl.1 rfl (lv_room (Nat.le_of_ble_eq_true rfl)) dL_law_2470 ⟨(Nat.le_of_ble_eq_true rfl), (Nat.le_of_ble_eq_true rfl)⟩) (fun f4348 H locs w => ?_)
  have w : xW G A s [((a 1), .inr (7, [.ref (a 2), .ref (a 4)])), ((a 2), .inr (6, [.ref (a 3), .int 0])), ((a 3), .inl (cy 1, 24, .inl (fun _ => 0))), ((a 4), .inr (6, [.ref (a 5), .int 0])), ((a 5), .inl (cy 1, 24, .inl (fun _ => 0))), ((a 6), .inr (6, [.ref (a 7), .int 0])), ((a 7), .inl (cy 1, 24, .inl (fun _ => 0))), ((a 8), .inr (5, [.ref (a 9), .ref (a 11), .ref (a 13), .int 0])), ((a 9), .inr (6, [.ref (a 10), .int 0])), ((a 10), .inl (cy 1, 624, .inl (fun _ => 0))), ((a 11), .inr (6, [.ref (a 12), .int 0])), ((a 12), .inl (cy 1, 624, .inl (fun _ => 0))), ((a 13), .inr (6, [.ref (a 14), .int 0])), ((a 14), .inl (cy 1, 12, .inl (fun _ => 0))), ((a 15), .inr (7, [.ref (a 16), .ref (a 18)])), ((a 16), .inr (6, [.ref (a 17), .int 0])), ((a 17), .inl (cy 1, 24, .inl (fun _ => 0))), ((a 18), .inr (6, [.ref (a 19), .int 0])), ((a 19), .inl (cy 1, 24, .inl (fun _ => 0))), ((a 20), .inl (cy 3, 3, .inr (.inr (.inr (.inr (va_up (va_up (va_up (fun _ => none) 0 (some (a 21))) 1 (some (a 22))) 2 (some (a 23)))))))), ((a 21), .inr (4, [.int 0, .int 0, .int 0])), ((a 22), .inr (4, [.int 0, .int 0, .int 0])), ((a 23), .inr (4, [.int 0, .int 0, .int 0])), ((a 24), .inr (6, [.ref (a 25), .int 0])), ((a 25), .inl (cy 1, 24, .inl (fun _ => 0))), ((a 26), .inr (7, [.ref (a 27), .ref (a 29)])), ((a 27), .inr (6, [.ref (a 28), .int 0])), ((a 28), .inl (cy 1, 24, .inl (fun _ => 0))), ((a 29), .inr (6, [.ref (a 30), .int 0])), ((a 30), .inl (cy 1, 24, .inl (fun _ => 0))), ((a 31), .inr (10, [.ref (a 32), .ref (a 33), .ref (a 34), .ref (a 35), .ref (a 36), .ref (a 37), .ref (a 38), .int 0, .int 0])), ((a 32), .inr (3, [.int 0, .ref (sv 0), .int 0])), ((a 33), .inr (3, [.int 0, .ref (sv 0), .int 0])), ((a 34), .inr (3, [.int 0, .ref (sv 0), .int 0])), ((a 35), .inr (3, [.int 0, .ref (sv 0), .int 0])), ((a 36), .inl (cy 2, 3, .inl (fun _ => 0))), ((a 37), .inl (cy 1, 3, .inl (fun _ => 0))), ((a 38), .inl (cy 1, 3, .inl (fun _ => 0))), ((a 39), .inr (9, [.long 0, .null])), ((a 0), .inr (8, [.ref (a 1), .ref (a 6), .ref (a 8), .ref (a 15), .ref (a 20), .int 1, .ref (a 24), .ref (a 26)]))] H _ := w
  refine lv_aload_n C.1 C.2.1 dL_law_2473 rfl (lv_at hl 2 rfl) ?_
  refine x_ki C w [30] [0, 1, 2, 3, 4, 5, 6, 7, 8, 9, 10, 11, 12, 13, 14, 15, 16, 17, 18, 19, 20, 21, 22, 23, 24, 25, 26, 27, 28, 29, 31, 32, 33, 34, 35, 36, 37, 38, 39] rfl rfl (by decide) (by decide) (va_runV (As := []) (rest := [.int 1]) (xfix C) (c626_X6_knock l G cy sa sv (a 31) (a 32) (a 33) (a 34) (a 35) (a 36) (a 37) (a 38) (xtr C) _) (cwV 0 (xhts C) (xgV (maxL := 0) (cc := ⟨#[]⟩) (ret := none) gw_1030 gw_1031 gw_1032 gw_58 gc_X6_knock) rfl rfl rfl (by decide +kernel) ⟨(Nat.le_of_ble_eq_true rfl), (Nat.le_of_ble_eq_true rfl)⟩) (xPV C w [30] rfl (by decide) (ci := 10) (q0 := 30) rfl rfl) rfl rfl hl.1 rfl (lv_room (Nat.le_of_ble_eq_true rfl)) dL_law_2474 ⟨(Nat.le_of_ble_eq_true rfl), (Nat.le_of_ble_eq_true rfl)⟩) (fun f4349 H locs w => ?_)
  have w : xW G A s [((a 1), .inr (7, [.ref (a 2), .ref (a 4)])), ((a 2), .inr (6, [.ref (a 3), .int 0])), ((a 3), .inl (cy 1, 24, .inl (fun _ => 0))), ((a 4), .inr (6, [.ref (a 5), .int 0])), ((a 5), .inl (cy 1, 24, .inl (fun _ => 0))), ((a 6), .inr (6, [.ref (a 7), .int 0])), ((a 7), .inl (cy 1, 24, .inl (fun _ => 0))), ((a 8), .inr (5, [.ref (a 9), .ref (a 11), .ref (a 13), .int 0])), ((a 9), .inr (6, [.ref (a 10), .int 0])), ((a 10), .inl (cy 1, 624, .inl (fun _ => 0))), ((a 11), .inr (6, [.ref (a 12), .int 0])), ((a 12), .inl (cy 1, 624, .inl (fun _ => 0))), ((a 13), .inr (6, [.ref (a 14), .int 0])), ((a 14), .inl (cy 1, 12, .inl (fun _ => 0))), ((a 15), .inr (7, [.ref (a 16), .ref (a 18)])), ((a 16), .inr (6, [.ref (a 17), .int 0])), ((a 17), .inl (cy 1, 24, .inl (fun _ => 0))), ((a 18), .inr (6, [.ref (a 19), .int 0])), ((a 19), .inl (cy 1, 24, .inl (fun _ => 0))), ((a 20), .inl (cy 3, 3, .inr (.inr (.inr (.inr (va_up (va_up (va_up (fun _ => none) 0 (some (a 21))) 1 (some (a 22))) 2 (some (a 23)))))))), ((a 21), .inr (4, [.int 0, .int 0, .int 0])), ((a 22), .inr (4, [.int 0, .int 0, .int 0])), ((a 23), .inr (4, [.int 0, .int 0, .int 0])), ((a 24), .inr (6, [.ref (a 25), .int 0])), ((a 25), .inl (cy 1, 24, .inl (fun _ => 0))), ((a 26), .inr (7, [.ref (a 27), .ref (a 29)])), ((a 27), .inr (6, [.ref (a 28), .int 0])), ((a 28), .inl (cy 1, 24, .inl (fun _ => 0))), ((a 29), .inr (6, [.ref (a 30), .int 0])), ((a 30), .inl (cy 1, 24, .inl (fun _ => 0))), ((a 32), .inr (3, [.int 0, .ref (sv 0), .int 0])), ((a 33), .inr (3, [.int 0, .ref (sv 0), .int 0])), ((a 34), .inr (3, [.int 0, .ref (sv 0), .int 0])), ((a 35), .inr (3, [.int 0, .ref (sv 0), .int 0])), ((a 36), .inl (cy 2, 3, .inl (fun _ => 0))), ((a 37), .inl (cy 1, 3, .inl (fun _ => 0))), ((a 38), .inl (cy 1, 3, .inl (fun _ => 0))), ((a 39), .inr (9, [.long 0, .null])), ((a 0), .inr (8, [.ref (a 1), .ref (a 6), .ref (a 8), .ref (a 15), .ref (a 20), .int 1, .ref (a 24), .ref (a 26)])), ((a 31), .inr (10, [.ref (a 32), .ref (a 33), .ref (a 34), .ref (a 35), .ref (a 36), .ref (a 37), .ref (a 38), .int 1, .int 0]))] H _ := w
  refine lv_icmp_eq (tgt := 2509) C.1 C.2.1 dL_law_2477 (by decide) (fun _ => ?_) (fun c9 => absurd (by decide) c9)
  refine lv_iinc (v := 5) (lv' := [(4, .int 5), (3, .ref (a 39)), (2, .ref (a 31)), (1, .ref (a 0)), (0, .ref b)]) C.1 C.2.1 dL_law_2509 hl (k := 0) rfl (by decide) (by decide) rfl (fun ls hl => ?_)
  refine lv_goto (tgt := 27) C.1 C.2.1 dL_law_2512 (by decide) ?_
  refine lv_iload C.1 C.2.1 dL_law_27 (lv_at hl 0 rfl) ?_
  refine lv_aload_n C.1 C.2.1 dL_law_29 rfl (lv_at hl 4 rfl) ?_
  refine va_slen C.1 C.2.1 hX hbl hbA w.2.2 dL_law_30 ?_
  refine x_is (y := 5) (by decide) ?_
  refine lv_iconst (v := 5) C.1 C.2.1 dL_law_31 (by decide) ?_
  refine lv_isub C.1 C.2.1 dL_law_32 ?_
  refine x_is (y := 0) (by decide) ?_
  refine lv_icmp_gt (tgt := 2515) C.1 C.2.1 dL_law_33 (by decide) (fun _ => ?_) (fun c9 => absurd (by decide) c9)
  refine lv_iconst (v := 1) C.1 C.2.1 dL_law_2515 (by decide) ?_
  refine va_forget (fun q hq => hAl _ (w.2.2.2.2 q hq)) ?_
  refine W.widen (k := 600002) (n := 7302232) (Nat.le_of_ble_eq_true rfl) (Nat.le_of_ble_eq_true rfl) ?_
  exact lw_ret C.1 C.2.1 hr (xlk C) dL_law_2516
set_option maxHeartbeats 8000000 in
set_option maxRecDepth 100000 in
theorem law_48_138 {p : Program} {e : Env} {s : State} {m : MethodId} {below : List Frame} {meth : Method} {c : Code} {l : Launch} {G : va_G} {cy : Nat → ClassId} {sa : String → Nat → Nat} {sv : Nat → Nat} {A : Nat → Prop} {b : Nat} {xs : Nat → Int32} {a : Nat → Nat} {H : Heap} {locs : List Loc} {ls : Array Slot} (C : xC p l s m #[Value.ref b] meth c code 7 "TwinindexLaw" (Cond.initialized "TwinindexLaw" :: XG) G cy sa sv A) (hr : meth.sig.returnType = ret) (hX : va_X b 5 xs s s.heap) (hbl : b < s.heap.size) (hbA : ¬ A b) (hAl : ∀ q, A q → s.heap.size ≤ q) (w : xW G A s (xW0 cy sv a) H locs) (hl : lv_has ls 7 [(4, .int 0), (3, .ref (a 39)), (2, .ref (a 31)), (1, .ref (a 0)), (0, .ref b)]) (hk : ((xs 0) &&& 63) = 48) : W p l e room_1 s m #[Value.ref b] below meth c H locs 40 1536 (lw_Z below #[Value.ref b] s) (F0 m 27 ls []) := by
  have w : xW G A s [((a 0), .inr (8, [.ref (a 1), .ref (a 6), .ref (a 8), .ref (a 15), .ref (a 20), .int 0, .ref (a 24), .ref (a 26)])), ((a 1), .inr (7, [.ref (a 2), .ref (a 4)])), ((a 2), .inr (6, [.ref (a 3), .int 0])), ((a 3), .inl (cy 1, 24, .inl (fun _ => 0))), ((a 4), .inr (6, [.ref (a 5), .int 0])), ((a 5), .inl (cy 1, 24, .inl (fun _ => 0))), ((a 6), .inr (6, [.ref (a 7), .int 0])), ((a 7), .inl (cy 1, 24, .inl (fun _ => 0))), ((a 8), .inr (5, [.ref (a 9), .ref (a 11), .ref (a 13), .int 0])), ((a 9), .inr (6, [.ref (a 10), .int 0])), ((a 10), .inl (cy 1, 624, .inl (fun _ => 0))), ((a 11), .inr (6, [.ref (a 12), .int 0])), ((a 12), .inl (cy 1, 624, .inl (fun _ => 0))), ((a 13), .inr (6, [.ref (a 14), .int 0])), ((a 14), .inl (cy 1, 12, .inl (fun _ => 0))), ((a 15), .inr (7, [.ref (a 16), .ref (a 18)])), ((a 16), .inr (6, [.ref (a 17), .int 0])), ((a 17), .inl (cy 1, 24, .inl (fun _ => 0))), ((a 18), .inr (6, [.ref (a 19), .int 0])), ((a 19), .inl (cy 1, 24, .inl (fun _ => 0))), ((a 20), .inl (cy 3, 3, .inr (.inr (.inr (.inr (va_up (va_up (va_up (fun _ => none) 0 (some (a 21))) 1 (some (a 22))) 2 (some (a 23)))))))), ((a 21), .inr (4, [.int 0, .int 0, .int 0])), ((a 22), .inr (4, [.int 0, .int 0, .int 0])), ((a 23), .inr (4, [.int 0, .int 0, .int 0])), ((a 24), .inr (6, [.ref (a 25), .int 0])), ((a 25), .inl (cy 1, 24, .inl (fun _ => 0))), ((a 26), .inr (7, [.ref (a 27), .ref (a 29)])), ((a 27), .inr (6, [.ref (a 28), .int 0])), ((a 28), .inl (cy 1, 24, .inl (fun _ => 0))), ((a 29), .inr (6, [.ref (a 30), .int 0])), ((a 30), .inl (cy 1, 24, .inl (fun _ => 0))), ((a 31), .inr (10, [.ref (a 32), .ref (a 33), .ref (a 34), .ref (a 35), .ref (a 36), .ref (a 37), .ref (a 38), .int 0, .int 0])), ((a 32), .inr (3, [.int 0, .ref (sv 0), .int 0])), ((a 33), .inr (3, [.int 0, .ref (sv 0), .int 0])), ((a 34), .inr (3, [.int 0, .ref (sv 0), .int 0])), ((a 35), .inr (3, [.int 0, .ref (sv 0), .int 0])), ((a 36), .inl (cy 2, 3, .inl (fun _ => 0))), ((a 37), .inl (cy 1, 3, .inl (fun _ => 0))), ((a 38), .inl (cy 1, 3, .inl (fun _ => 0))), ((a 39), .inr (9, [.long 0, .null]))] H _ := w
  refine lv_iload C.1 C.2.1 dL_law_27 (lv_at hl 0 rfl) ?_
  refine lv_aload_n C.1 C.2.1 dL_law_29 rfl (lv_at hl 4 rfl) ?_
  refine va_slen C.1 C.2.1 hX hbl hbA w.2.2 dL_law_30 ?_
  refine x_is (y := 5) (by decide) ?_
  refine lv_iconst (v := 5) C.1 C.2.1 dL_law_31 (by decide) ?_
  refine lv_isub C.1 C.2.1 dL_law_32 ?_
  refine x_is (y := 0) (by decide) ?_
  refine lv_icmp_gt (tgt := 2515) C.1 C.2.1 dL_law_33 (by decide) (fun c9 => absurd c9 (by decide)) (fun _ => ?_)
  refine lv_aload_n C.1 C.2.1 dL_law_36 rfl (lv_at hl 4 rfl) ?_
  refine lv_iload C.1 C.2.1 dL_law_37 (lv_at hl 0 rfl) ?_
  refine va_sld C.1 C.2.1 hX hbl hbA w.2.2 (xvin (by decide)) dL_law_39 ?_
  refine x_is (y := (xs 0)) (by rfl) ?_
  refine lv_bipush (v := 63) C.1 C.2.1 dL_law_40 (by decide) ?_
  refine lv_iand C.1 C.2.1 dL_law_42 ?_
  refine x_is (y := 48) hk ?_
  refine lv_tableIn (off := 2439) (tgt := 2482) C.1 C.2.1 dL_law_43 (by decide) (by decide) (by decide) (by decide) ?_
  refine lv_aload_n C.1 C.2.1 dL_law_2482 rfl (lv_at hl 3 rfl) ?_
  refine x_ki C w [0, 1, 2, 6, 26, 27, 28, 3, 29, 4, 30, 5] [7, 8, 9, 10, 11, 12, 13, 14, 15, 16, 17, 18, 19, 20, 21, 22, 23, 24, 25, 31, 32, 33, 34, 35, 36, 37, 38, 39] rfl rfl (by decide) (by decide) (va_runV (As := []) (rest := []) (xfix C) (c634_X4_isSound l G cy sa sv (a 0) (a 1) (a 2) (a 6) (a 26) (a 27) (a 28) (a 3) (a 29) (a 4) (a 30) (a 5) (a 8) (a 15) (a 20) (a 24) (a 7) (xtr C) _) (cwV 0 (xhts C) (xgV (maxL := 0) (cc := ⟨#[]⟩) (ret := none) gw_1058 gw_1059 gw_1060 gw_2 gc_X4_isSound) rfl rfl rfl (by decide +kernel) ⟨(Nat.le_of_ble_eq_true rfl), (Nat.le_of_ble_eq_true rfl)⟩) (xPV C w [0, 1, 2, 6, 26, 27, 28, 3, 29, 4, 30, 5] rfl (by decide) (ci := 8) (q0 := 0) rfl rfl) rfl rfl hl.1 rfl (lv_room (Nat.le_of_ble_eq_true rfl)) dL_law_2483 ⟨(Nat.le_of_ble_eq_true rfl), (Nat.le_of_ble_eq_true rfl)⟩) (fun f4397 H locs w => ?_)
  have w : xW G A s [((a 7), .inl (cy 1, 24, .inl (fun _ => 0))), ((a 8), .inr (5, [.ref (a 9), .ref (a 11), .ref (a 13), .int 0])), ((a 9), .inr (6, [.ref (a 10), .int 0])), ((a 10), .inl (cy 1, 624, .inl (fun _ => 0))), ((a 11), .inr (6, [.ref (a 12), .int 0])), ((a 12), .inl (cy 1, 624, .inl (fun _ => 0))), ((a 13), .inr (6, [.ref (a 14), .int 0])), ((a 14), .inl (cy 1, 12, .inl (fun _ => 0))), ((a 15), .inr (7, [.ref (a 16), .ref (a 18)])), ((a 16), .inr (6, [.ref (a 17), .int 0])), ((a 17), .inl (cy 1, 24, .inl (fun _ => 0))), ((a 18), .inr (6, [.ref (a 19), .int 0])), ((a 19), .inl (cy 1, 24, .inl (fun _ => 0))), ((a 20), .inl (cy 3, 3, .inr (.inr (.inr (.inr (va_up (va_up (va_up (fun _ => none) 0 (some (a 21))) 1 (some (a 22))) 2 (some (a 23)))))))), ((a 21), .inr (4, [.int 0, .int 0, .int 0])), ((a 22), .inr (4, [.int 0, .int 0, .int 0])), ((a 23), .inr (4, [.int 0, .int 0, .int 0])), ((a 24), .inr (6, [.ref (a 25), .int 0])), ((a 25), .inl (cy 1, 24, .inl (fun _ => 0))), ((a 31), .inr (10, [.ref (a 32), .ref (a 33), .ref (a 34), .ref (a 35), .ref (a 36), .ref (a 37), .ref (a 38), .int 0, .int 0])), ((a 32), .inr (3, [.int 0, .ref (sv 0), .int 0])), ((a 33), .inr (3, [.int 0, .ref (sv 0), .int 0])), ((a 34), .inr (3, [.int 0, .ref (sv 0), .int 0])), ((a 35), .inr (3, [.int 0, .ref (sv 0), .int 0])), ((a 36), .inl (cy 2, 3, .inl (fun _ => 0))), ((a 37), .inl (cy 1, 3, .inl (fun _ => 0))), ((a 38), .inl (cy 1, 3, .inl (fun _ => 0))), ((a 39), .inr (9, [.long 0, .null])), ((a 0), .inr (8, [.ref (a 1), .ref (a 6), .ref (a 8), .ref (a 15), .ref (a 20), .int 0, .ref (a 24), .ref (a 26)])), ((a 1), .inr (7, [.ref (a 2), .ref (a 4)])), ((a 2), .inr (6, [.ref (a 3), .int 0])), ((a 6), .inr (6, [.ref (a 7), .int 0])), ((a 26), .inr (7, [.ref (a 27), .ref (a 29)])), ((a 27), .inr (6, [.ref (a 28), .int 0])), ((a 28), .inl (cy 1, 24, .inl (va_cpy (fun _ => 0) (fun _ => 0) 0 0 0))), ((a 3), .inl (cy 1, 24, .inl (fun _ => 0))), ((a 29), .inr (6, [.ref (a 30), .int 0])), ((a 4), .inr (6, [.ref (a 5), .int 0])), ((a 30), .inl (cy 1, 24, .inl (va_cpy (fun _ => 0) (fun _ => 0) 0 0 0))), ((a 5), .inl (cy 1, 24, .inl (fun _ => 0)))] H _ := w
  refine lv_aload_n C.1 C.2.1 dL_law_2486 rfl (lv_at hl 2 rfl) ?_
  refine x_ki C w [19] [0, 1, 2, 3, 4, 5, 6, 7, 8, 9, 10, 11, 12, 13, 14, 15, 16, 17, 18, 20, 21, 22, 23, 24, 25, 26, 27, 28, 29, 30, 31, 32, 33, 34, 35, 36, 37, 38, 39] rfl rfl (by decide) (by decide) (va_runV (As := []) (rest := [.int 1]) (xfix C) (c635_X6_isSound l G cy sa sv (a 31) (a 32) (a 33) (a 34) (a 35) (a 36) (a 37) (a 38) (xtr C) _) (cwV 0 (xhts C) (xgV (maxL := 0) (cc := ⟨#[]⟩) (ret := none) gw_1062 gw_1063 gw_1064 gw_58 gc_X6_isSound) rfl rfl rfl (by decide +kernel) ⟨(Nat.le_of_ble_eq_true rfl), (Nat.le_of_ble_eq_true rfl)⟩) (xPV C w [19] rfl (by decide) (ci := 10) (q0 := 19) rfl rfl) rfl rfl hl.1 rfl (lv_room (Nat.le_of_ble_eq_true rfl)) dL_law_2487 ⟨(Nat.le_of_ble_eq_true rfl), (Nat.le_of_ble_eq_true rfl)⟩) (fun f4398 H locs w => ?_)
  have w : xW G A s [((a 7), .inl (cy 1, 24, .inl (fun _ => 0))), ((a 8), .inr (5, [.ref (a 9), .ref (a 11), .ref (a 13), .int 0])), ((a 9), .inr (6, [.ref (a 10), .int 0])), ((a 10), .inl (cy 1, 624, .inl (fun _ => 0))), ((a 11), .inr (6, [.ref (a 12), .int 0])), ((a 12), .inl (cy 1, 624, .inl (fun _ => 0))), ((a 13), .inr (6, [.ref (a 14), .int 0])), ((a 14), .inl (cy 1, 12, .inl (fun _ => 0))), ((a 15), .inr (7, [.ref (a 16), .ref (a 18)])), ((a 16), .inr (6, [.ref (a 17), .int 0])), ((a 17), .inl (cy 1, 24, .inl (fun _ => 0))), ((a 18), .inr (6, [.ref (a 19), .int 0])), ((a 19), .inl (cy 1, 24, .inl (fun _ => 0))), ((a 20), .inl (cy 3, 3, .inr (.inr (.inr (.inr (va_up (va_up (va_up (fun _ => none) 0 (some (a 21))) 1 (some (a 22))) 2 (some (a 23)))))))), ((a 21), .inr (4, [.int 0, .int 0, .int 0])), ((a 22), .inr (4, [.int 0, .int 0, .int 0])), ((a 23), .inr (4, [.int 0, .int 0, .int 0])), ((a 24), .inr (6, [.ref (a 25), .int 0])), ((a 25), .inl (cy 1, 24, .inl (fun _ => 0))), ((a 32), .inr (3, [.int 0, .ref (sv 0), .int 0])), ((a 33), .inr (3, [.int 0, .ref (sv 0), .int 0])), ((a 34), .inr (3, [.int 0, .ref (sv 0), .int 0])), ((a 35), .inr (3, [.int 0, .ref (sv 0), .int 0])), ((a 36), .inl (cy 2, 3, .inl (fun _ => 0))), ((a 37), .inl (cy 1, 3, .inl (fun _ => 0))), ((a 38), .inl (cy 1, 3, .inl (fun _ => 0))), ((a 39), .inr (9, [.long 0, .null])), ((a 0), .inr (8, [.ref (a 1), .ref (a 6), .ref (a 8), .ref (a 15), .ref (a 20), .int 0, .ref (a 24), .ref (a 26)])), ((a 1), .inr (7, [.ref (a 2), .ref (a 4)])), ((a 2), .inr (6, [.ref (a 3), .int 0])), ((a 6), .inr (6, [.ref (a 7), .int 0])), ((a 26), .inr (7, [.ref (a 27), .ref (a 29)])), ((a 27), .inr (6, [.ref (a 28), .int 0])), ((a 28), .inl (cy 1, 24, .inl (va_cpy (fun _ => 0) (fun _ => 0) 0 0 0))), ((a 3), .inl (cy 1, 24, .inl (fun _ => 0))), ((a 29), .inr (6, [.ref (a 30), .int 0])), ((a 4), .inr (6, [.ref (a 5), .int 0])), ((a 30), .inl (cy 1, 24, .inl (va_cpy (fun _ => 0) (fun _ => 0) 0 0 0))), ((a 5), .inl (cy 1, 24, .inl (fun _ => 0))), ((a 31), .inr (10, [.ref (a 32), .ref (a 33), .ref (a 34), .ref (a 35), .ref (a 36), .ref (a 37), .ref (a 38), .int 0, .int 0]))] H _ := w
  refine lv_icmp_eq (tgt := 2509) C.1 C.2.1 dL_law_2490 (by decide) (fun _ => ?_) (fun c9 => absurd (by decide) c9)
  refine lv_iinc (v := 5) (lv' := [(4, .int 5), (3, .ref (a 39)), (2, .ref (a 31)), (1, .ref (a 0)), (0, .ref b)]) C.1 C.2.1 dL_law_2509 hl (k := 0) rfl (by decide) (by decide) rfl (fun ls hl => ?_)
  refine lv_goto (tgt := 27) C.1 C.2.1 dL_law_2512 (by decide) ?_
  refine lv_iload C.1 C.2.1 dL_law_27 (lv_at hl 0 rfl) ?_
  refine lv_aload_n C.1 C.2.1 dL_law_29 rfl (lv_at hl 4 rfl) ?_
  refine va_slen C.1 C.2.1 hX hbl hbA w.2.2 dL_law_30 ?_
  refine x_is (y := 5) (by decide) ?_
  refine lv_iconst (v := 5) C.1 C.2.1 dL_law_31 (by decide) ?_
  refine lv_isub C.1 C.2.1 dL_law_32 ?_
  refine x_is (y := 0) (by decide) ?_
  refine lv_icmp_gt (tgt := 2515) C.1 C.2.1 dL_law_33 (by decide) (fun _ => ?_) (fun c9 => absurd (by decide) c9)
  refine lv_iconst (v := 1) C.1 C.2.1 dL_law_2515 (by decide) ?_
  refine va_forget (fun q hq => hAl _ (w.2.2.2.2 q hq)) ?_
  refine W.widen (k := 600002) (n := 7302232) (Nat.le_of_ble_eq_true rfl) (Nat.le_of_ble_eq_true rfl) ?_
  exact lw_ret C.1 C.2.1 hr (xlk C) dL_law_2516
set_option maxHeartbeats 8000000 in
set_option maxRecDepth 100000 in
theorem law_49_139 {p : Program} {e : Env} {s : State} {m : MethodId} {below : List Frame} {meth : Method} {c : Code} {l : Launch} {G : va_G} {cy : Nat → ClassId} {sa : String → Nat → Nat} {sv : Nat → Nat} {A : Nat → Prop} {b : Nat} {xs : Nat → Int32} {a : Nat → Nat} {H : Heap} {locs : List Loc} {ls : Array Slot} (C : xC p l s m #[Value.ref b] meth c code 7 "TwinindexLaw" (Cond.initialized "TwinindexLaw" :: XG) G cy sa sv A) (hr : meth.sig.returnType = ret) (hX : va_X b 5 xs s s.heap) (hbl : b < s.heap.size) (hbA : ¬ A b) (hAl : ∀ q, A q → s.heap.size ≤ q) (w : xW G A s (xW0 cy sv a) H locs) (hl : lv_has ls 7 [(4, .int 0), (3, .ref (a 39)), (2, .ref (a 31)), (1, .ref (a 0)), (0, .ref b)]) (hk : ((xs 0) &&& 63) = 49) : W p l e room_1 s m #[Value.ref b] below meth c H locs 40 1536 (lw_Z below #[Value.ref b] s) (F0 m 27 ls []) := by
  have w : xW G A s [((a 0), .inr (8, [.ref (a 1), .ref (a 6), .ref (a 8), .ref (a 15), .ref (a 20), .int 0, .ref (a 24), .ref (a 26)])), ((a 1), .inr (7, [.ref (a 2), .ref (a 4)])), ((a 2), .inr (6, [.ref (a 3), .int 0])), ((a 3), .inl (cy 1, 24, .inl (fun _ => 0))), ((a 4), .inr (6, [.ref (a 5), .int 0])), ((a 5), .inl (cy 1, 24, .inl (fun _ => 0))), ((a 6), .inr (6, [.ref (a 7), .int 0])), ((a 7), .inl (cy 1, 24, .inl (fun _ => 0))), ((a 8), .inr (5, [.ref (a 9), .ref (a 11), .ref (a 13), .int 0])), ((a 9), .inr (6, [.ref (a 10), .int 0])), ((a 10), .inl (cy 1, 624, .inl (fun _ => 0))), ((a 11), .inr (6, [.ref (a 12), .int 0])), ((a 12), .inl (cy 1, 624, .inl (fun _ => 0))), ((a 13), .inr (6, [.ref (a 14), .int 0])), ((a 14), .inl (cy 1, 12, .inl (fun _ => 0))), ((a 15), .inr (7, [.ref (a 16), .ref (a 18)])), ((a 16), .inr (6, [.ref (a 17), .int 0])), ((a 17), .inl (cy 1, 24, .inl (fun _ => 0))), ((a 18), .inr (6, [.ref (a 19), .int 0])), ((a 19), .inl (cy 1, 24, .inl (fun _ => 0))), ((a 20), .inl (cy 3, 3, .inr (.inr (.inr (.inr (va_up (va_up (va_up (fun _ => none) 0 (some (a 21))) 1 (some (a 22))) 2 (some (a 23)))))))), ((a 21), .inr (4, [.int 0, .int 0, .int 0])), ((a 22), .inr (4, [.int 0, .int 0, .int 0])), ((a 23), .inr (4, [.int 0, .int 0, .int 0])), ((a 24), .inr (6, [.ref (a 25), .int 0])), ((a 25), .inl (cy 1, 24, .inl (fun _ => 0))), ((a 26), .inr (7, [.ref (a 27), .ref (a 29)])), ((a 27), .inr (6, [.ref (a 28), .int 0])), ((a 28), .inl (cy 1, 24, .inl (fun _ => 0))), ((a 29), .inr (6, [.ref (a 30), .int 0])), ((a 30), .inl (cy 1, 24, .inl (fun _ => 0))), ((a 31), .inr (10, [.ref (a 32), .ref (a 33), .ref (a 34), .ref (a 35), .ref (a 36), .ref (a 37), .ref (a 38), .int 0, .int 0])), ((a 32), .inr (3, [.int 0, .ref (sv 0), .int 0])), ((a 33), .inr (3, [.int 0, .ref (sv 0), .int 0])), ((a 34), .inr (3, [.int 0, .ref (sv 0), .int 0])), ((a 35), .inr (3, [.int 0, .ref (sv 0), .int 0])), ((a 36), .inl (cy 2, 3, .inl (fun _ => 0))), ((a 37), .inl (cy 1, 3, .inl (fun _ => 0))), ((a 38), .inl (cy 1, 3, .inl (fun _ => 0))), ((a 39), .inr (9, [.long 0, .null]))] H _ := w
  refine lv_iload C.1 C.2.1 dL_law_27 (lv_at hl 0 rfl) ?_
  refine lv_aload_n C.1 C.2.1 dL_law_29 rfl (lv_at hl 4 rfl) ?_
  refine va_slen C.1 C.2.1 hX hbl hbA w.2.2 dL_law_30 ?_
  refine x_is (y := 5) (by decide) ?_
  refine lv_iconst (v := 5) C.1 C.2.1 dL_law_31 (by decide) ?_
  refine lv_isub C.1 C.2.1 dL_law_32 ?_
  refine x_is (y := 0) (by decide) ?_
  refine lv_icmp_gt (tgt := 2515) C.1 C.2.1 dL_law_33 (by decide) (fun c9 => absurd c9 (by decide)) (fun _ => ?_)
  refine lv_aload_n C.1 C.2.1 dL_law_36 rfl (lv_at hl 4 rfl) ?_
  refine lv_iload C.1 C.2.1 dL_law_37 (lv_at hl 0 rfl) ?_
  refine va_sld C.1 C.2.1 hX hbl hbA w.2.2 (xvin (by decide)) dL_law_39 ?_
  refine x_is (y := (xs 0)) (by rfl) ?_
  refine lv_bipush (v := 63) C.1 C.2.1 dL_law_40 (by decide) ?_
  refine lv_iand C.1 C.2.1 dL_law_42 ?_
  refine x_is (y := 49) hk ?_
  refine lv_tableIn (off := 2452) (tgt := 2495) C.1 C.2.1 dL_law_43 (by decide) (by decide) (by decide) (by decide) ?_
  refine lv_aload_n C.1 C.2.1 dL_law_2495 rfl (lv_at hl 3 rfl) ?_
  refine x_kl C w [0, 1, 2, 8, 13, 15, 16, 20, 21, 22, 23, 6, 26, 27, 28, 3, 29, 4, 30, 5] [7, 9, 10, 11, 12, 14, 17, 18, 19, 24, 25, 31, 32, 33, 34, 35, 36, 37, 38, 39] rfl rfl (by decide) (by decide) (va_runV (As := []) (rest := []) (xfix C) (c661_X4_digest l G cy sa sv (a 0) (a 1) (a 2) (a 8) (a 13) (a 15) (a 16) (a 20) (a 21) (a 22) (a 23) (a 6) (a 26) (a 27) (a 28) (a 3) (a 29) (a 4) (a 30) (a 5) (a 24) (a 9) (a 11) (a 14) (a 18) (a 17) (a 7) (xtr C) _) (cwV 0 (xhts C) (xgV (maxL := 0) (cc := ⟨#[]⟩) (ret := none) gw_1085 gw_1086 gw_1087 gw_2 gc_X4_digest) rfl rfl rfl (by decide +kernel) ⟨(Nat.le_of_ble_eq_true rfl), (Nat.le_of_ble_eq_true rfl)⟩) (xPV C w [0, 1, 2, 8, 13, 15, 16, 20, 21, 22, 23, 6, 26, 27, 28, 3, 29, 4, 30, 5] rfl (by decide) (ci := 8) (q0 := 0) rfl rfl) rfl rfl hl.1 rfl (lv_room (Nat.le_of_ble_eq_true rfl)) dL_law_2496 ⟨(Nat.le_of_ble_eq_true rfl), (Nat.le_of_ble_eq_true rfl)⟩) (fun f4632 H locs w => ?_)
  have w : xW G A s [((a 7), .inl (cy 1, 24, .inl (fun _ => 0))), ((a 9), .inr (6, [.ref (a 10), .int 0])), ((a 10), .inl (cy 1, 624, .inl (fun _ => 0))), ((a 11), .inr (6, [.ref (a 12), .int 0])), ((a 12), .inl (cy 1, 624, .inl (fun _ => 0))), ((a 14), .inl (cy 1, 12, .inl (fun _ => 0))), ((a 17), .inl (cy 1, 24, .inl (fun _ => 0))), ((a 18), .inr (6, [.ref (a 19), .int 0])), ((a 19), .inl (cy 1, 24, .inl (fun _ => 0))), ((a 24), .inr (6, [.ref (a 25), .int 0])), ((a 25), .inl (cy 1, 24, .inl (fun _ => 0))), ((a 31), .inr (10, [.ref (a 32), .ref (a 33), .ref (a 34), .ref (a 35), .ref (a 36), .ref (a 37), .ref (a 38), .int 0, .int 0])), ((a 32), .inr (3, [.int 0, .ref (sv 0), .int 0])), ((a 33), .inr (3, [.int 0, .ref (sv 0), .int 0])), ((a 34), .inr (3, [.int 0, .ref (sv 0), .int 0])), ((a 35), .inr (3, [.int 0, .ref (sv 0), .int 0])), ((a 36), .inl (cy 2, 3, .inl (fun _ => 0))), ((a 37), .inl (cy 1, 3, .inl (fun _ => 0))), ((a 38), .inl (cy 1, 3, .inl (fun _ => 0))), ((a 39), .inr (9, [.long 0, .null])), ((a 0), .inr (8, [.ref (a 1), .ref (a 6), .ref (a 8), .ref (a 15), .ref (a 20), .int 0, .ref (a 24), .ref (a 26)])), ((a 1), .inr (7, [.ref (a 2), .ref (a 4)])), ((a 2), .inr (6, [.ref (a 3), .int 0])), ((a 8), .inr (5, [.ref (a 9), .ref (a 11), .ref (a 13), .int 0])), ((a 13), .inr (6, [.ref (a 14), .int 0])), ((a 15), .inr (7, [.ref (a 16), .ref (a 18)])), ((a 16), .inr (6, [.ref (a 17), .int 0])), ((a 20), .inl (cy 3, 3, .inr (.inr (.inr (.inr (va_up (va_up (va_up (fun _ => none) 0 (some (a 21))) 1 (some (a 22))) 2 (some (a 23)))))))), ((a 21), .inr (4, [.int 0, .int 0, .int 0])), ((a 22), .inr (4, [.int 0, .int 0, .int 0])), ((a 23), .inr (4, [.int 0, .int 0, .int 0])), ((a 6), .inr (6, [.ref (a 7), .int 0])), ((a 26), .inr (7, [.ref (a 27), .ref (a 29)])), ((a 27), .inr (6, [.ref (a 28), .int 0])), ((a 28), .inl (cy 1, 24, .inl (va_cpy (fun _ => 0) (fun _ => 0) 0 0 0))), ((a 3), .inl (cy 1, 24, .inl (fun _ => 0))), ((a 29), .inr (6, [.ref (a 30), .int 0])), ((a 4), .inr (6, [.ref (a 5), .int 0])), ((a 30), .inl (cy 1, 24, .inl (va_cpy (fun _ => 0) (fun _ => 0) 0 0 0))), ((a 5), .inl (cy 1, 24, .inl (fun _ => 0)))] H _ := w
  refine W.widen (k := 44) (n := 1562) (Nat.le_of_ble_eq_true rfl) (Nat.le_of_ble_eq_true rfl) ?_
  refine lv_aload_n C.1 C.2.1 dL_law_2499 rfl (lv_at hl 2 rfl) ?_
  refine x_kl C w [11, 16, 12, 14, 13, 18, 17] [0, 1, 2, 3, 4, 5, 6, 7, 8, 9, 10, 15, 19, 20, 21, 22, 23, 24, 25, 26, 27, 28, 29, 30, 31, 32, 33, 34, 35, 36, 37, 38, 39] rfl rfl (by decide) (by decide) (va_runV (As := []) (rest := [.long 4370165199281164868]) (xfix C) (c684_X6_digest l G cy sa sv (a 31) (a 36) (a 32) (a 34) (a 33) (a 38) (a 37) (a 35) (xtr C) _) (cwV 0 (xhts C) (xgV (maxL := 0) (cc := ⟨#[]⟩) (ret := none) gw_1095 gw_1096 gw_1097 gw_58 gc_X6_digest) rfl rfl rfl (by decide +kernel) ⟨(Nat.le_of_ble_eq_true rfl), (Nat.le_of_ble_eq_true rfl)⟩) (xPV C w [11, 16, 12, 14, 13, 18, 17] rfl (by decide) (ci := 10) (q0 := 11) rfl rfl) rfl rfl hl.1 rfl (lv_room (Nat.le_of_ble_eq_true rfl)) dL_law_2500 ⟨(Nat.le_of_ble_eq_true rfl), (Nat.le_of_ble_eq_true rfl)⟩) (fun f5043 H locs w => ?_)
  have w : xW G A s [((a 7), .inl (cy 1, 24, .inl (fun _ => 0))), ((a 9), .inr (6, [.ref (a 10), .int 0])), ((a 10), .inl (cy 1, 624, .inl (fun _ => 0))), ((a 11), .inr (6, [.ref (a 12), .int 0])), ((a 12), .inl (cy 1, 624, .inl (fun _ => 0))), ((a 14), .inl (cy 1, 12, .inl (fun _ => 0))), ((a 17), .inl (cy 1, 24, .inl (fun _ => 0))), ((a 18), .inr (6, [.ref (a 19), .int 0])), ((a 19), .inl (cy 1, 24, .inl (fun _ => 0))), ((a 24), .inr (6, [.ref (a 25), .int 0])), ((a 25), .inl (cy 1, 24, .inl (fun _ => 0))), ((a 35), .inr (3, [.int 0, .ref (sv 0), .int 0])), ((a 39), .inr (9, [.long 0, .null])), ((a 0), .inr (8, [.ref (a 1), .ref (a 6), .ref (a 8), .ref (a 15), .ref (a 20), .int 0, .ref (a 24), .ref (a 26)])), ((a 1), .inr (7, [.ref (a 2), .ref (a 4)])), ((a 2), .inr (6, [.ref (a 3), .int 0])), ((a 8), .inr (5, [.ref (a 9), .ref (a 11), .ref (a 13), .int 0])), ((a 13), .inr (6, [.ref (a 14), .int 0])), ((a 15), .inr (7, [.ref (a 16), .ref (a 18)])), ((a 16), .inr (6, [.ref (a 17), .int 0])), ((a 20), .inl (cy 3, 3, .inr (.inr (.inr (.inr (va_up (va_up (va_up (fun _ => none) 0 (some (a 21))) 1 (some (a 22))) 2 (some (a 23)))))))), ((a 21), .inr (4, [.int 0, .int 0, .int 0])), ((a 22), .inr (4, [.int 0, .int 0, .int 0])), ((a 23), .inr (4, [.int 0, .int 0, .int 0])), ((a 6), .inr (6, [.ref (a 7), .int 0])), ((a 26), .inr (7, [.ref (a 27), .ref (a 29)])), ((a 27), .inr (6, [.ref (a 28), .int 0])), ((a 28), .inl (cy 1, 24, .inl (va_cpy (fun _ => 0) (fun _ => 0) 0 0 0))), ((a 3), .inl (cy 1, 24, .inl (fun _ => 0))), ((a 29), .inr (6, [.ref (a 30), .int 0])), ((a 4), .inr (6, [.ref (a 5), .int 0])), ((a 30), .inl (cy 1, 24, .inl (va_cpy (fun _ => 0) (fun _ => 0) 0 0 0))), ((a 5), .inl (cy 1, 24, .inl (fun _ => 0))), ((a 31), .inr (10, [.ref (a 32), .ref (a 33), .ref (a 34), .ref (a 35), .ref (a 36), .ref (a 37), .ref (a 38), .int 0, .int 0])), ((a 36), .inl (cy 2, 3, .inl (fun _ => 0))), ((a 32), .inr (3, [.int 0, .ref (sv 0), .int 0])), ((a 34), .inr (3, [.int 0, .ref (sv 0), .int 0])), ((a 33), .inr (3, [.int 0, .ref (sv 0), .int 0])), ((a 38), .inl (cy 1, 3, .inl (fun _ => 0))), ((a 37), .inl (cy 1, 3, .inl (fun _ => 0)))] H _ := w
  refine W.widen (k := 70) (n := 1655) (Nat.le_of_ble_eq_true rfl) (Nat.le_of_ble_eq_true rfl) ?_
  refine W.lcmp C.1 C.2.1 dL_law_2503 ?_
  refine x_is (y := 0) (by decide) ?_
  refine lv_if_eq (tgt := 2509) C.1 C.2.1 dL_law_2504 (by decide) (fun _ => ?_) (fun c9 => absurd (by decide) c9)
  refine lv_iinc (v := 5) (lv' := [(4, .int 5), (3, .ref (a 39)), (2, .ref (a 31)), (1, .ref (a 0)), (0, .ref b)]) C.1 C.2.1 dL_law_2509 hl (k := 0) rfl (by decide) (by decide) rfl (fun ls hl => ?_)
  refine lv_goto (tgt := 27) C.1 C.2.1 dL_law_2512 (by decide) ?_
  refine lv_iload C.1 C.2.1 dL_law_27 (lv_at hl 0 rfl) ?_
  refine lv_aload_n C.1 C.2.1 dL_law_29 rfl (lv_at hl 4 rfl) ?_
  refine va_slen C.1 C.2.1 hX hbl hbA w.2.2 dL_law_30 ?_
  refine x_is (y := 5) (by decide) ?_
  refine lv_iconst (v := 5) C.1 C.2.1 dL_law_31 (by decide) ?_
  refine lv_isub C.1 C.2.1 dL_law_32 ?_
  refine x_is (y := 0) (by decide) ?_
  refine lv_icmp_gt (tgt := 2515) C.1 C.2.1 dL_law_33 (by decide) (fun _ => ?_) (fun c9 => absurd (by decide) c9)
  refine lv_iconst (v := 1) C.1 C.2.1 dL_law_2515 (by decide) ?_
  refine va_forget (fun q hq => hAl _ (w.2.2.2.2 q hq)) ?_
  refine W.widen (k := 600002) (n := 7302232) (Nat.le_of_ble_eq_true rfl) (Nat.le_of_ble_eq_true rfl) ?_
  exact lw_ret C.1 C.2.1 hr (xlk C) dL_law_2516
set_option maxHeartbeats 8000000 in
set_option maxRecDepth 100000 in
theorem law_50_140 {p : Program} {e : Env} {s : State} {m : MethodId} {below : List Frame} {meth : Method} {c : Code} {l : Launch} {G : va_G} {cy : Nat → ClassId} {sa : String → Nat → Nat} {sv : Nat → Nat} {A : Nat → Prop} {b : Nat} {xs : Nat → Int32} {a : Nat → Nat} {H : Heap} {locs : List Loc} {ls : Array Slot} (C : xC p l s m #[Value.ref b] meth c code 7 "TwinindexLaw" (Cond.initialized "TwinindexLaw" :: XG) G cy sa sv A) (hr : meth.sig.returnType = ret) (hX : va_X b 5 xs s s.heap) (hbl : b < s.heap.size) (hbA : ¬ A b) (hAl : ∀ q, A q → s.heap.size ≤ q) (w : xW G A s (xW0 cy sv a) H locs) (hl : lv_has ls 7 [(4, .int 0), (3, .ref (a 39)), (2, .ref (a 31)), (1, .ref (a 0)), (0, .ref b)]) (hk : ((xs 0) &&& 63) = 50) : W p l e room_1 s m #[Value.ref b] below meth c H locs 40 1536 (lw_Z below #[Value.ref b] s) (F0 m 27 ls []) := by
  have w : xW G A s [((a 0), .inr (8, [.ref (a 1), .ref (a 6), .ref (a 8), .ref (a 15), .ref (a 20), .int 0, .ref (a 24), .ref (a 26)])), ((a 1), .inr (7, [.ref (a 2), .ref (a 4)])), ((a 2), .inr (6, [.ref (a 3), .int 0])), ((a 3), .inl (cy 1, 24, .inl (fun _ => 0))), ((a 4), .inr (6, [.ref (a 5), .int 0])), ((a 5), .inl (cy 1, 24, .inl (fun _ => 0))), ((a 6), .inr (6, [.ref (a 7), .int 0])), ((a 7), .inl (cy 1, 24, .inl (fun _ => 0))), ((a 8), .inr (5, [.ref (a 9), .ref (a 11), .ref (a 13), .int 0])), ((a 9), .inr (6, [.ref (a 10), .int 0])), ((a 10), .inl (cy 1, 624, .inl (fun _ => 0))), ((a 11), .inr (6, [.ref (a 12), .int 0])), ((a 12), .inl (cy 1, 624, .inl (fun _ => 0))), ((a 13), .inr (6, [.ref (a 14), .int 0])), ((a 14), .inl (cy 1, 12, .inl (fun _ => 0))), ((a 15), .inr (7, [.ref (a 16), .ref (a 18)])), ((a 16), .inr (6, [.ref (a 17), .int 0])), ((a 17), .inl (cy 1, 24, .inl (fun _ => 0))), ((a 18), .inr (6, [.ref (a 19), .int 0])), ((a 19), .inl (cy 1, 24, .inl (fun _ => 0))), ((a 20), .inl (cy 3, 3, .inr (.inr (.inr (.inr (va_up (va_up (va_up (fun _ => none) 0 (some (a 21))) 1 (some (a 22))) 2 (some (a 23)))))))), ((a 21), .inr (4, [.int 0, .int 0, .int 0])), ((a 22), .inr (4, [.int 0, .int 0, .int 0])), ((a 23), .inr (4, [.int 0, .int 0, .int 0])), ((a 24), .inr (6, [.ref (a 25), .int 0])), ((a 25), .inl (cy 1, 24, .inl (fun _ => 0))), ((a 26), .inr (7, [.ref (a 27), .ref (a 29)])), ((a 27), .inr (6, [.ref (a 28), .int 0])), ((a 28), .inl (cy 1, 24, .inl (fun _ => 0))), ((a 29), .inr (6, [.ref (a 30), .int 0])), ((a 30), .inl (cy 1, 24, .inl (fun _ => 0))), ((a 31), .inr (10, [.ref (a 32), .ref (a 33), .ref (a 34), .ref (a 35), .ref (a 36), .ref (a 37), .ref (a 38), .int 0, .int 0])), ((a 32), .inr (3, [.int 0, .ref (sv 0), .int 0])), ((a 33), .inr (3, [.int 0, .ref (sv 0), .int 0])), ((a 34), .inr (3, [.int 0, .ref (sv 0), .int 0])), ((a 35), .inr (3, [.int 0, .ref (sv 0), .int 0])), ((a 36), .inl (cy 2, 3, .inl (fun _ => 0))), ((a 37), .inl (cy 1, 3, .inl (fun _ => 0))), ((a 38), .inl (cy 1, 3, .inl (fun _ => 0))), ((a 39), .inr (9, [.long 0, .null]))] H _ := w
  refine lv_iload C.1 C.2.1 dL_law_27 (lv_at hl 0 rfl) ?_
  refine lv_aload_n C.1 C.2.1 dL_law_29 rfl (lv_at hl 4 rfl) ?_
  refine va_slen C.1 C.2.1 hX hbl hbA w.2.2 dL_law_30 ?_
  refine x_is (y := 5) (by decide) ?_
  refine lv_iconst (v := 5) C.1 C.2.1 dL_law_31 (by decide) ?_
  refine lv_isub C.1 C.2.1 dL_law_32 ?_
  refine x_is (y := 0) (by decide) ?_
  refine lv_icmp_gt (tgt := 2515) C.1 C.2.1 dL_law_33 (by decide) (fun c9 => absurd c9 (by decide)) (fun _ => ?_)
  refine lv_aload_n C.1 C.2.1 dL_law_36 rfl (lv_at hl 4 rfl) ?_
  refine lv_iload C.1 C.2.1 dL_law_37 (lv_at hl 0 rfl) ?_
  refine va_sld C.1 C.2.1 hX hbl hbA w.2.2 (xvin (by decide)) dL_law_39 ?_
  refine x_is (y := (xs 0)) (by rfl) ?_
  refine lv_bipush (v := 63) C.1 C.2.1 dL_law_40 (by decide) ?_
  refine lv_iand C.1 C.2.1 dL_law_42 ?_
  refine x_is (y := 50) hk ?_
  refine lv_tableOut (tgt := 2509) C.1 C.2.1 dL_law_43 (by decide) (by decide) ?_
  refine lv_iinc (v := 5) (lv' := [(4, .int 5), (3, .ref (a 39)), (2, .ref (a 31)), (1, .ref (a 0)), (0, .ref b)]) C.1 C.2.1 dL_law_2509 hl (k := 0) rfl (by decide) (by decide) rfl (fun ls hl => ?_)
  refine lv_goto (tgt := 27) C.1 C.2.1 dL_law_2512 (by decide) ?_
  refine lv_iload C.1 C.2.1 dL_law_27 (lv_at hl 0 rfl) ?_
  refine lv_aload_n C.1 C.2.1 dL_law_29 rfl (lv_at hl 4 rfl) ?_
  refine va_slen C.1 C.2.1 hX hbl hbA w.2.2 dL_law_30 ?_
  refine x_is (y := 5) (by decide) ?_
  refine lv_iconst (v := 5) C.1 C.2.1 dL_law_31 (by decide) ?_
  refine lv_isub C.1 C.2.1 dL_law_32 ?_
  refine x_is (y := 0) (by decide) ?_
  refine lv_icmp_gt (tgt := 2515) C.1 C.2.1 dL_law_33 (by decide) (fun _ => ?_) (fun c9 => absurd (by decide) c9)
  refine lv_iconst (v := 1) C.1 C.2.1 dL_law_2515 (by decide) ?_
  refine va_forget (fun q hq => hAl _ (w.2.2.2.2 q hq)) ?_
  refine W.widen (k := 600002) (n := 7302232) (Nat.le_of_ble_eq_true rfl) (Nat.le_of_ble_eq_true rfl) ?_
  exact lw_ret C.1 C.2.1 hr (xlk C) dL_law_2516
set_option maxHeartbeats 8000000 in
set_option maxRecDepth 100000 in
theorem law_51_141 {p : Program} {e : Env} {s : State} {m : MethodId} {below : List Frame} {meth : Method} {c : Code} {l : Launch} {G : va_G} {cy : Nat → ClassId} {sa : String → Nat → Nat} {sv : Nat → Nat} {A : Nat → Prop} {b : Nat} {xs : Nat → Int32} {a : Nat → Nat} {H : Heap} {locs : List Loc} {ls : Array Slot} (C : xC p l s m #[Value.ref b] meth c code 7 "TwinindexLaw" (Cond.initialized "TwinindexLaw" :: XG) G cy sa sv A) (hr : meth.sig.returnType = ret) (hX : va_X b 5 xs s s.heap) (hbl : b < s.heap.size) (hbA : ¬ A b) (hAl : ∀ q, A q → s.heap.size ≤ q) (w : xW G A s (xW0 cy sv a) H locs) (hl : lv_has ls 7 [(4, .int 0), (3, .ref (a 39)), (2, .ref (a 31)), (1, .ref (a 0)), (0, .ref b)]) (hk : ((xs 0) &&& 63) = 51) : W p l e room_1 s m #[Value.ref b] below meth c H locs 40 1536 (lw_Z below #[Value.ref b] s) (F0 m 27 ls []) := by
  have w : xW G A s [((a 0), .inr (8, [.ref (a 1), .ref (a 6), .ref (a 8), .ref (a 15), .ref (a 20), .int 0, .ref (a 24), .ref (a 26)])), ((a 1), .inr (7, [.ref (a 2), .ref (a 4)])), ((a 2), .inr (6, [.ref (a 3), .int 0])), ((a 3), .inl (cy 1, 24, .inl (fun _ => 0))), ((a 4), .inr (6, [.ref (a 5), .int 0])), ((a 5), .inl (cy 1, 24, .inl (fun _ => 0))), ((a 6), .inr (6, [.ref (a 7), .int 0])), ((a 7), .inl (cy 1, 24, .inl (fun _ => 0))), ((a 8), .inr (5, [.ref (a 9), .ref (a 11), .ref (a 13), .int 0])), ((a 9), .inr (6, [.ref (a 10), .int 0])), ((a 10), .inl (cy 1, 624, .inl (fun _ => 0))), ((a 11), .inr (6, [.ref (a 12), .int 0])), ((a 12), .inl (cy 1, 624, .inl (fun _ => 0))), ((a 13), .inr (6, [.ref (a 14), .int 0])), ((a 14), .inl (cy 1, 12, .inl (fun _ => 0))), ((a 15), .inr (7, [.ref (a 16), .ref (a 18)])), ((a 16), .inr (6, [.ref (a 17), .int 0])), ((a 17), .inl (cy 1, 24, .inl (fun _ => 0))), ((a 18), .inr (6, [.ref (a 19), .int 0])), ((a 19), .inl (cy 1, 24, .inl (fun _ => 0))), ((a 20), .inl (cy 3, 3, .inr (.inr (.inr (.inr (va_up (va_up (va_up (fun _ => none) 0 (some (a 21))) 1 (some (a 22))) 2 (some (a 23)))))))), ((a 21), .inr (4, [.int 0, .int 0, .int 0])), ((a 22), .inr (4, [.int 0, .int 0, .int 0])), ((a 23), .inr (4, [.int 0, .int 0, .int 0])), ((a 24), .inr (6, [.ref (a 25), .int 0])), ((a 25), .inl (cy 1, 24, .inl (fun _ => 0))), ((a 26), .inr (7, [.ref (a 27), .ref (a 29)])), ((a 27), .inr (6, [.ref (a 28), .int 0])), ((a 28), .inl (cy 1, 24, .inl (fun _ => 0))), ((a 29), .inr (6, [.ref (a 30), .int 0])), ((a 30), .inl (cy 1, 24, .inl (fun _ => 0))), ((a 31), .inr (10, [.ref (a 32), .ref (a 33), .ref (a 34), .ref (a 35), .ref (a 36), .ref (a 37), .ref (a 38), .int 0, .int 0])), ((a 32), .inr (3, [.int 0, .ref (sv 0), .int 0])), ((a 33), .inr (3, [.int 0, .ref (sv 0), .int 0])), ((a 34), .inr (3, [.int 0, .ref (sv 0), .int 0])), ((a 35), .inr (3, [.int 0, .ref (sv 0), .int 0])), ((a 36), .inl (cy 2, 3, .inl (fun _ => 0))), ((a 37), .inl (cy 1, 3, .inl (fun _ => 0))), ((a 38), .inl (cy 1, 3, .inl (fun _ => 0))), ((a 39), .inr (9, [.long 0, .null]))] H _ := w
  refine lv_iload C.1 C.2.1 dL_law_27 (lv_at hl 0 rfl) ?_
  refine lv_aload_n C.1 C.2.1 dL_law_29 rfl (lv_at hl 4 rfl) ?_
  refine va_slen C.1 C.2.1 hX hbl hbA w.2.2 dL_law_30 ?_
  refine x_is (y := 5) (by decide) ?_
  refine lv_iconst (v := 5) C.1 C.2.1 dL_law_31 (by decide) ?_
  refine lv_isub C.1 C.2.1 dL_law_32 ?_
  refine x_is (y := 0) (by decide) ?_
  refine lv_icmp_gt (tgt := 2515) C.1 C.2.1 dL_law_33 (by decide) (fun c9 => absurd c9 (by decide)) (fun _ => ?_)
  refine lv_aload_n C.1 C.2.1 dL_law_36 rfl (lv_at hl 4 rfl) ?_
  refine lv_iload C.1 C.2.1 dL_law_37 (lv_at hl 0 rfl) ?_
  refine va_sld C.1 C.2.1 hX hbl hbA w.2.2 (xvin (by decide)) dL_law_39 ?_
  refine x_is (y := (xs 0)) (by rfl) ?_
  refine lv_bipush (v := 63) C.1 C.2.1 dL_law_40 (by decide) ?_
  refine lv_iand C.1 C.2.1 dL_law_42 ?_
  refine x_is (y := 51) hk ?_
  refine lv_tableOut (tgt := 2509) C.1 C.2.1 dL_law_43 (by decide) (by decide) ?_
  refine lv_iinc (v := 5) (lv' := [(4, .int 5), (3, .ref (a 39)), (2, .ref (a 31)), (1, .ref (a 0)), (0, .ref b)]) C.1 C.2.1 dL_law_2509 hl (k := 0) rfl (by decide) (by decide) rfl (fun ls hl => ?_)
  refine lv_goto (tgt := 27) C.1 C.2.1 dL_law_2512 (by decide) ?_
  refine lv_iload C.1 C.2.1 dL_law_27 (lv_at hl 0 rfl) ?_
  refine lv_aload_n C.1 C.2.1 dL_law_29 rfl (lv_at hl 4 rfl) ?_
  refine va_slen C.1 C.2.1 hX hbl hbA w.2.2 dL_law_30 ?_
  refine x_is (y := 5) (by decide) ?_
  refine lv_iconst (v := 5) C.1 C.2.1 dL_law_31 (by decide) ?_
  refine lv_isub C.1 C.2.1 dL_law_32 ?_
  refine x_is (y := 0) (by decide) ?_
  refine lv_icmp_gt (tgt := 2515) C.1 C.2.1 dL_law_33 (by decide) (fun _ => ?_) (fun c9 => absurd (by decide) c9)
  refine lv_iconst (v := 1) C.1 C.2.1 dL_law_2515 (by decide) ?_
  refine va_forget (fun q hq => hAl _ (w.2.2.2.2 q hq)) ?_
  refine W.widen (k := 600002) (n := 7302232) (Nat.le_of_ble_eq_true rfl) (Nat.le_of_ble_eq_true rfl) ?_
  exact lw_ret C.1 C.2.1 hr (xlk C) dL_law_2516
set_option maxHeartbeats 8000000 in
set_option maxRecDepth 100000 in
theorem law_52_142 {p : Program} {e : Env} {s : State} {m : MethodId} {below : List Frame} {meth : Method} {c : Code} {l : Launch} {G : va_G} {cy : Nat → ClassId} {sa : String → Nat → Nat} {sv : Nat → Nat} {A : Nat → Prop} {b : Nat} {xs : Nat → Int32} {a : Nat → Nat} {H : Heap} {locs : List Loc} {ls : Array Slot} (C : xC p l s m #[Value.ref b] meth c code 7 "TwinindexLaw" (Cond.initialized "TwinindexLaw" :: XG) G cy sa sv A) (hr : meth.sig.returnType = ret) (hX : va_X b 5 xs s s.heap) (hbl : b < s.heap.size) (hbA : ¬ A b) (hAl : ∀ q, A q → s.heap.size ≤ q) (w : xW G A s (xW0 cy sv a) H locs) (hl : lv_has ls 7 [(4, .int 0), (3, .ref (a 39)), (2, .ref (a 31)), (1, .ref (a 0)), (0, .ref b)]) (hk : ((xs 0) &&& 63) = 52) : W p l e room_1 s m #[Value.ref b] below meth c H locs 40 1536 (lw_Z below #[Value.ref b] s) (F0 m 27 ls []) := by
  have w : xW G A s [((a 0), .inr (8, [.ref (a 1), .ref (a 6), .ref (a 8), .ref (a 15), .ref (a 20), .int 0, .ref (a 24), .ref (a 26)])), ((a 1), .inr (7, [.ref (a 2), .ref (a 4)])), ((a 2), .inr (6, [.ref (a 3), .int 0])), ((a 3), .inl (cy 1, 24, .inl (fun _ => 0))), ((a 4), .inr (6, [.ref (a 5), .int 0])), ((a 5), .inl (cy 1, 24, .inl (fun _ => 0))), ((a 6), .inr (6, [.ref (a 7), .int 0])), ((a 7), .inl (cy 1, 24, .inl (fun _ => 0))), ((a 8), .inr (5, [.ref (a 9), .ref (a 11), .ref (a 13), .int 0])), ((a 9), .inr (6, [.ref (a 10), .int 0])), ((a 10), .inl (cy 1, 624, .inl (fun _ => 0))), ((a 11), .inr (6, [.ref (a 12), .int 0])), ((a 12), .inl (cy 1, 624, .inl (fun _ => 0))), ((a 13), .inr (6, [.ref (a 14), .int 0])), ((a 14), .inl (cy 1, 12, .inl (fun _ => 0))), ((a 15), .inr (7, [.ref (a 16), .ref (a 18)])), ((a 16), .inr (6, [.ref (a 17), .int 0])), ((a 17), .inl (cy 1, 24, .inl (fun _ => 0))), ((a 18), .inr (6, [.ref (a 19), .int 0])), ((a 19), .inl (cy 1, 24, .inl (fun _ => 0))), ((a 20), .inl (cy 3, 3, .inr (.inr (.inr (.inr (va_up (va_up (va_up (fun _ => none) 0 (some (a 21))) 1 (some (a 22))) 2 (some (a 23)))))))), ((a 21), .inr (4, [.int 0, .int 0, .int 0])), ((a 22), .inr (4, [.int 0, .int 0, .int 0])), ((a 23), .inr (4, [.int 0, .int 0, .int 0])), ((a 24), .inr (6, [.ref (a 25), .int 0])), ((a 25), .inl (cy 1, 24, .inl (fun _ => 0))), ((a 26), .inr (7, [.ref (a 27), .ref (a 29)])), ((a 27), .inr (6, [.ref (a 28), .int 0])), ((a 28), .inl (cy 1, 24, .inl (fun _ => 0))), ((a 29), .inr (6, [.ref (a 30), .int 0])), ((a 30), .inl (cy 1, 24, .inl (fun _ => 0))), ((a 31), .inr (10, [.ref (a 32), .ref (a 33), .ref (a 34), .ref (a 35), .ref (a 36), .ref (a 37), .ref (a 38), .int 0, .int 0])), ((a 32), .inr (3, [.int 0, .ref (sv 0), .int 0])), ((a 33), .inr (3, [.int 0, .ref (sv 0), .int 0])), ((a 34), .inr (3, [.int 0, .ref (sv 0), .int 0])), ((a 35), .inr (3, [.int 0, .ref (sv 0), .int 0])), ((a 36), .inl (cy 2, 3, .inl (fun _ => 0))), ((a 37), .inl (cy 1, 3, .inl (fun _ => 0))), ((a 38), .inl (cy 1, 3, .inl (fun _ => 0))), ((a 39), .inr (9, [.long 0, .null]))] H _ := w
  refine lv_iload C.1 C.2.1 dL_law_27 (lv_at hl 0 rfl) ?_
  refine lv_aload_n C.1 C.2.1 dL_law_29 rfl (lv_at hl 4 rfl) ?_
  refine va_slen C.1 C.2.1 hX hbl hbA w.2.2 dL_law_30 ?_
  refine x_is (y := 5) (by decide) ?_
  refine lv_iconst (v := 5) C.1 C.2.1 dL_law_31 (by decide) ?_
  refine lv_isub C.1 C.2.1 dL_law_32 ?_
  refine x_is (y := 0) (by decide) ?_
  refine lv_icmp_gt (tgt := 2515) C.1 C.2.1 dL_law_33 (by decide) (fun c9 => absurd c9 (by decide)) (fun _ => ?_)
  refine lv_aload_n C.1 C.2.1 dL_law_36 rfl (lv_at hl 4 rfl) ?_
  refine lv_iload C.1 C.2.1 dL_law_37 (lv_at hl 0 rfl) ?_
  refine va_sld C.1 C.2.1 hX hbl hbA w.2.2 (xvin (by decide)) dL_law_39 ?_
  refine x_is (y := (xs 0)) (by rfl) ?_
  refine lv_bipush (v := 63) C.1 C.2.1 dL_law_40 (by decide) ?_
  refine lv_iand C.1 C.2.1 dL_law_42 ?_
  refine x_is (y := 52) hk ?_
  refine lv_tableOut (tgt := 2509) C.1 C.2.1 dL_law_43 (by decide) (by decide) ?_
  refine lv_iinc (v := 5) (lv' := [(4, .int 5), (3, .ref (a 39)), (2, .ref (a 31)), (1, .ref (a 0)), (0, .ref b)]) C.1 C.2.1 dL_law_2509 hl (k := 0) rfl (by decide) (by decide) rfl (fun ls hl => ?_)
  refine lv_goto (tgt := 27) C.1 C.2.1 dL_law_2512 (by decide) ?_
  refine lv_iload C.1 C.2.1 dL_law_27 (lv_at hl 0 rfl) ?_
  refine lv_aload_n C.1 C.2.1 dL_law_29 rfl (lv_at hl 4 rfl) ?_
  refine va_slen C.1 C.2.1 hX hbl hbA w.2.2 dL_law_30 ?_
  refine x_is (y := 5) (by decide) ?_
  refine lv_iconst (v := 5) C.1 C.2.1 dL_law_31 (by decide) ?_
  refine lv_isub C.1 C.2.1 dL_law_32 ?_
  refine x_is (y := 0) (by decide) ?_
  refine lv_icmp_gt (tgt := 2515) C.1 C.2.1 dL_law_33 (by decide) (fun _ => ?_) (fun c9 => absurd (by decide) c9)
  refine lv_iconst (v := 1) C.1 C.2.1 dL_law_2515 (by decide) ?_
  refine va_forget (fun q hq => hAl _ (w.2.2.2.2 q hq)) ?_
  refine W.widen (k := 600002) (n := 7302232) (Nat.le_of_ble_eq_true rfl) (Nat.le_of_ble_eq_true rfl) ?_
  exact lw_ret C.1 C.2.1 hr (xlk C) dL_law_2516
set_option maxHeartbeats 8000000 in
set_option maxRecDepth 100000 in
theorem law_53_143 {p : Program} {e : Env} {s : State} {m : MethodId} {below : List Frame} {meth : Method} {c : Code} {l : Launch} {G : va_G} {cy : Nat → ClassId} {sa : String → Nat → Nat} {sv : Nat → Nat} {A : Nat → Prop} {b : Nat} {xs : Nat → Int32} {a : Nat → Nat} {H : Heap} {locs : List Loc} {ls : Array Slot} (C : xC p l s m #[Value.ref b] meth c code 7 "TwinindexLaw" (Cond.initialized "TwinindexLaw" :: XG) G cy sa sv A) (hr : meth.sig.returnType = ret) (hX : va_X b 5 xs s s.heap) (hbl : b < s.heap.size) (hbA : ¬ A b) (hAl : ∀ q, A q → s.heap.size ≤ q) (w : xW G A s (xW0 cy sv a) H locs) (hl : lv_has ls 7 [(4, .int 0), (3, .ref (a 39)), (2, .ref (a 31)), (1, .ref (a 0)), (0, .ref b)]) (hk : ((xs 0) &&& 63) = 53) : W p l e room_1 s m #[Value.ref b] below meth c H locs 40 1536 (lw_Z below #[Value.ref b] s) (F0 m 27 ls []) := by
  have w : xW G A s [((a 0), .inr (8, [.ref (a 1), .ref (a 6), .ref (a 8), .ref (a 15), .ref (a 20), .int 0, .ref (a 24), .ref (a 26)])), ((a 1), .inr (7, [.ref (a 2), .ref (a 4)])), ((a 2), .inr (6, [.ref (a 3), .int 0])), ((a 3), .inl (cy 1, 24, .inl (fun _ => 0))), ((a 4), .inr (6, [.ref (a 5), .int 0])), ((a 5), .inl (cy 1, 24, .inl (fun _ => 0))), ((a 6), .inr (6, [.ref (a 7), .int 0])), ((a 7), .inl (cy 1, 24, .inl (fun _ => 0))), ((a 8), .inr (5, [.ref (a 9), .ref (a 11), .ref (a 13), .int 0])), ((a 9), .inr (6, [.ref (a 10), .int 0])), ((a 10), .inl (cy 1, 624, .inl (fun _ => 0))), ((a 11), .inr (6, [.ref (a 12), .int 0])), ((a 12), .inl (cy 1, 624, .inl (fun _ => 0))), ((a 13), .inr (6, [.ref (a 14), .int 0])), ((a 14), .inl (cy 1, 12, .inl (fun _ => 0))), ((a 15), .inr (7, [.ref (a 16), .ref (a 18)])), ((a 16), .inr (6, [.ref (a 17), .int 0])), ((a 17), .inl (cy 1, 24, .inl (fun _ => 0))), ((a 18), .inr (6, [.ref (a 19), .int 0])), ((a 19), .inl (cy 1, 24, .inl (fun _ => 0))), ((a 20), .inl (cy 3, 3, .inr (.inr (.inr (.inr (va_up (va_up (va_up (fun _ => none) 0 (some (a 21))) 1 (some (a 22))) 2 (some (a 23)))))))), ((a 21), .inr (4, [.int 0, .int 0, .int 0])), ((a 22), .inr (4, [.int 0, .int 0, .int 0])), ((a 23), .inr (4, [.int 0, .int 0, .int 0])), ((a 24), .inr (6, [.ref (a 25), .int 0])), ((a 25), .inl (cy 1, 24, .inl (fun _ => 0))), ((a 26), .inr (7, [.ref (a 27), .ref (a 29)])), ((a 27), .inr (6, [.ref (a 28), .int 0])), ((a 28), .inl (cy 1, 24, .inl (fun _ => 0))), ((a 29), .inr (6, [.ref (a 30), .int 0])), ((a 30), .inl (cy 1, 24, .inl (fun _ => 0))), ((a 31), .inr (10, [.ref (a 32), .ref (a 33), .ref (a 34), .ref (a 35), .ref (a 36), .ref (a 37), .ref (a 38), .int 0, .int 0])), ((a 32), .inr (3, [.int 0, .ref (sv 0), .int 0])), ((a 33), .inr (3, [.int 0, .ref (sv 0), .int 0])), ((a 34), .inr (3, [.int 0, .ref (sv 0), .int 0])), ((a 35), .inr (3, [.int 0, .ref (sv 0), .int 0])), ((a 36), .inl (cy 2, 3, .inl (fun _ => 0))), ((a 37), .inl (cy 1, 3, .inl (fun _ => 0))), ((a 38), .inl (cy 1, 3, .inl (fun _ => 0))), ((a 39), .inr (9, [.long 0, .null]))] H _ := w
  refine lv_iload C.1 C.2.1 dL_law_27 (lv_at hl 0 rfl) ?_
  refine lv_aload_n C.1 C.2.1 dL_law_29 rfl (lv_at hl 4 rfl) ?_
  refine va_slen C.1 C.2.1 hX hbl hbA w.2.2 dL_law_30 ?_
  refine x_is (y := 5) (by decide) ?_
  refine lv_iconst (v := 5) C.1 C.2.1 dL_law_31 (by decide) ?_
  refine lv_isub C.1 C.2.1 dL_law_32 ?_
  refine x_is (y := 0) (by decide) ?_
  refine lv_icmp_gt (tgt := 2515) C.1 C.2.1 dL_law_33 (by decide) (fun c9 => absurd c9 (by decide)) (fun _ => ?_)
  refine lv_aload_n C.1 C.2.1 dL_law_36 rfl (lv_at hl 4 rfl) ?_
  refine lv_iload C.1 C.2.1 dL_law_37 (lv_at hl 0 rfl) ?_
  refine va_sld C.1 C.2.1 hX hbl hbA w.2.2 (xvin (by decide)) dL_law_39 ?_
  refine x_is (y := (xs 0)) (by rfl) ?_
  refine lv_bipush (v := 63) C.1 C.2.1 dL_law_40 (by decide) ?_
  refine lv_iand C.1 C.2.1 dL_law_42 ?_
  refine x_is (y := 53) hk ?_
  refine lv_tableOut (tgt := 2509) C.1 C.2.1 dL_law_43 (by decide) (by decide) ?_
  refine lv_iinc (v := 5) (lv' := [(4, .int 5), (3, .ref (a 39)), (2, .ref (a 31)), (1, .ref (a 0)), (0, .ref b)]) C.1 C.2.1 dL_law_2509 hl (k := 0) rfl (by decide) (by decide) rfl (fun ls hl => ?_)
  refine lv_goto (tgt := 27) C.1 C.2.1 dL_law_2512 (by decide) ?_
  refine lv_iload C.1 C.2.1 dL_law_27 (lv_at hl 0 rfl) ?_
  refine lv_aload_n C.1 C.2.1 dL_law_29 rfl (lv_at hl 4 rfl) ?_
  refine va_slen C.1 C.2.1 hX hbl hbA w.2.2 dL_law_30 ?_
  refine x_is (y := 5) (by decide) ?_
  refine lv_iconst (v := 5) C.1 C.2.1 dL_law_31 (by decide) ?_
  refine lv_isub C.1 C.2.1 dL_law_32 ?_
  refine x_is (y := 0) (by decide) ?_
  refine lv_icmp_gt (tgt := 2515) C.1 C.2.1 dL_law_33 (by decide) (fun _ => ?_) (fun c9 => absurd (by decide) c9)
  refine lv_iconst (v := 1) C.1 C.2.1 dL_law_2515 (by decide) ?_
  refine va_forget (fun q hq => hAl _ (w.2.2.2.2 q hq)) ?_
  refine W.widen (k := 600002) (n := 7302232) (Nat.le_of_ble_eq_true rfl) (Nat.le_of_ble_eq_true rfl) ?_
  exact lw_ret C.1 C.2.1 hr (xlk C) dL_law_2516
set_option maxHeartbeats 8000000 in
set_option maxRecDepth 100000 in
theorem law_54_144 {p : Program} {e : Env} {s : State} {m : MethodId} {below : List Frame} {meth : Method} {c : Code} {l : Launch} {G : va_G} {cy : Nat → ClassId} {sa : String → Nat → Nat} {sv : Nat → Nat} {A : Nat → Prop} {b : Nat} {xs : Nat → Int32} {a : Nat → Nat} {H : Heap} {locs : List Loc} {ls : Array Slot} (C : xC p l s m #[Value.ref b] meth c code 7 "TwinindexLaw" (Cond.initialized "TwinindexLaw" :: XG) G cy sa sv A) (hr : meth.sig.returnType = ret) (hX : va_X b 5 xs s s.heap) (hbl : b < s.heap.size) (hbA : ¬ A b) (hAl : ∀ q, A q → s.heap.size ≤ q) (w : xW G A s (xW0 cy sv a) H locs) (hl : lv_has ls 7 [(4, .int 0), (3, .ref (a 39)), (2, .ref (a 31)), (1, .ref (a 0)), (0, .ref b)]) (hk : ((xs 0) &&& 63) = 54) : W p l e room_1 s m #[Value.ref b] below meth c H locs 40 1536 (lw_Z below #[Value.ref b] s) (F0 m 27 ls []) := by
  have w : xW G A s [((a 0), .inr (8, [.ref (a 1), .ref (a 6), .ref (a 8), .ref (a 15), .ref (a 20), .int 0, .ref (a 24), .ref (a 26)])), ((a 1), .inr (7, [.ref (a 2), .ref (a 4)])), ((a 2), .inr (6, [.ref (a 3), .int 0])), ((a 3), .inl (cy 1, 24, .inl (fun _ => 0))), ((a 4), .inr (6, [.ref (a 5), .int 0])), ((a 5), .inl (cy 1, 24, .inl (fun _ => 0))), ((a 6), .inr (6, [.ref (a 7), .int 0])), ((a 7), .inl (cy 1, 24, .inl (fun _ => 0))), ((a 8), .inr (5, [.ref (a 9), .ref (a 11), .ref (a 13), .int 0])), ((a 9), .inr (6, [.ref (a 10), .int 0])), ((a 10), .inl (cy 1, 624, .inl (fun _ => 0))), ((a 11), .inr (6, [.ref (a 12), .int 0])), ((a 12), .inl (cy 1, 624, .inl (fun _ => 0))), ((a 13), .inr (6, [.ref (a 14), .int 0])), ((a 14), .inl (cy 1, 12, .inl (fun _ => 0))), ((a 15), .inr (7, [.ref (a 16), .ref (a 18)])), ((a 16), .inr (6, [.ref (a 17), .int 0])), ((a 17), .inl (cy 1, 24, .inl (fun _ => 0))), ((a 18), .inr (6, [.ref (a 19), .int 0])), ((a 19), .inl (cy 1, 24, .inl (fun _ => 0))), ((a 20), .inl (cy 3, 3, .inr (.inr (.inr (.inr (va_up (va_up (va_up (fun _ => none) 0 (some (a 21))) 1 (some (a 22))) 2 (some (a 23)))))))), ((a 21), .inr (4, [.int 0, .int 0, .int 0])), ((a 22), .inr (4, [.int 0, .int 0, .int 0])), ((a 23), .inr (4, [.int 0, .int 0, .int 0])), ((a 24), .inr (6, [.ref (a 25), .int 0])), ((a 25), .inl (cy 1, 24, .inl (fun _ => 0))), ((a 26), .inr (7, [.ref (a 27), .ref (a 29)])), ((a 27), .inr (6, [.ref (a 28), .int 0])), ((a 28), .inl (cy 1, 24, .inl (fun _ => 0))), ((a 29), .inr (6, [.ref (a 30), .int 0])), ((a 30), .inl (cy 1, 24, .inl (fun _ => 0))), ((a 31), .inr (10, [.ref (a 32), .ref (a 33), .ref (a 34), .ref (a 35), .ref (a 36), .ref (a 37), .ref (a 38), .int 0, .int 0])), ((a 32), .inr (3, [.int 0, .ref (sv 0), .int 0])), ((a 33), .inr (3, [.int 0, .ref (sv 0), .int 0])), ((a 34), .inr (3, [.int 0, .ref (sv 0), .int 0])), ((a 35), .inr (3, [.int 0, .ref (sv 0), .int 0])), ((a 36), .inl (cy 2, 3, .inl (fun _ => 0))), ((a 37), .inl (cy 1, 3, .inl (fun _ => 0))), ((a 38), .inl (cy 1, 3, .inl (fun _ => 0))), ((a 39), .inr (9, [.long 0, .null]))] H _ := w
  refine lv_iload C.1 C.2.1 dL_law_27 (lv_at hl 0 rfl) ?_
  refine lv_aload_n C.1 C.2.1 dL_law_29 rfl (lv_at hl 4 rfl) ?_
  refine va_slen C.1 C.2.1 hX hbl hbA w.2.2 dL_law_30 ?_
  refine x_is (y := 5) (by decide) ?_
  refine lv_iconst (v := 5) C.1 C.2.1 dL_law_31 (by decide) ?_
  refine lv_isub C.1 C.2.1 dL_law_32 ?_
  refine x_is (y := 0) (by decide) ?_
  refine lv_icmp_gt (tgt := 2515) C.1 C.2.1 dL_law_33 (by decide) (fun c9 => absurd c9 (by decide)) (fun _ => ?_)
  refine lv_aload_n C.1 C.2.1 dL_law_36 rfl (lv_at hl 4 rfl) ?_
  refine lv_iload C.1 C.2.1 dL_law_37 (lv_at hl 0 rfl) ?_
  refine va_sld C.1 C.2.1 hX hbl hbA w.2.2 (xvin (by decide)) dL_law_39 ?_
  refine x_is (y := (xs 0)) (by rfl) ?_
  refine lv_bipush (v := 63) C.1 C.2.1 dL_law_40 (by decide) ?_
  refine lv_iand C.1 C.2.1 dL_law_42 ?_
  refine x_is (y := 54) hk ?_
  refine lv_tableOut (tgt := 2509) C.1 C.2.1 dL_law_43 (by decide) (by decide) ?_
  refine lv_iinc (v := 5) (lv' := [(4, .int 5), (3, .ref (a 39)), (2, .ref (a 31)), (1, .ref (a 0)), (0, .ref b)]) C.1 C.2.1 dL_law_2509 hl (k := 0) rfl (by decide) (by decide) rfl (fun ls hl => ?_)
  refine lv_goto (tgt := 27) C.1 C.2.1 dL_law_2512 (by decide) ?_
  refine lv_iload C.1 C.2.1 dL_law_27 (lv_at hl 0 rfl) ?_
  refine lv_aload_n C.1 C.2.1 dL_law_29 rfl (lv_at hl 4 rfl) ?_
  refine va_slen C.1 C.2.1 hX hbl hbA w.2.2 dL_law_30 ?_
  refine x_is (y := 5) (by decide) ?_
  refine lv_iconst (v := 5) C.1 C.2.1 dL_law_31 (by decide) ?_
  refine lv_isub C.1 C.2.1 dL_law_32 ?_
  refine x_is (y := 0) (by decide) ?_
  refine lv_icmp_gt (tgt := 2515) C.1 C.2.1 dL_law_33 (by decide) (fun _ => ?_) (fun c9 => absurd (by decide) c9)
  refine lv_iconst (v := 1) C.1 C.2.1 dL_law_2515 (by decide) ?_
  refine va_forget (fun q hq => hAl _ (w.2.2.2.2 q hq)) ?_
  refine W.widen (k := 600002) (n := 7302232) (Nat.le_of_ble_eq_true rfl) (Nat.le_of_ble_eq_true rfl) ?_
  exact lw_ret C.1 C.2.1 hr (xlk C) dL_law_2516
set_option maxHeartbeats 8000000 in
set_option maxRecDepth 100000 in
theorem law_55_145 {p : Program} {e : Env} {s : State} {m : MethodId} {below : List Frame} {meth : Method} {c : Code} {l : Launch} {G : va_G} {cy : Nat → ClassId} {sa : String → Nat → Nat} {sv : Nat → Nat} {A : Nat → Prop} {b : Nat} {xs : Nat → Int32} {a : Nat → Nat} {H : Heap} {locs : List Loc} {ls : Array Slot} (C : xC p l s m #[Value.ref b] meth c code 7 "TwinindexLaw" (Cond.initialized "TwinindexLaw" :: XG) G cy sa sv A) (hr : meth.sig.returnType = ret) (hX : va_X b 5 xs s s.heap) (hbl : b < s.heap.size) (hbA : ¬ A b) (hAl : ∀ q, A q → s.heap.size ≤ q) (w : xW G A s (xW0 cy sv a) H locs) (hl : lv_has ls 7 [(4, .int 0), (3, .ref (a 39)), (2, .ref (a 31)), (1, .ref (a 0)), (0, .ref b)]) (hk : ((xs 0) &&& 63) = 55) : W p l e room_1 s m #[Value.ref b] below meth c H locs 40 1536 (lw_Z below #[Value.ref b] s) (F0 m 27 ls []) := by
  have w : xW G A s [((a 0), .inr (8, [.ref (a 1), .ref (a 6), .ref (a 8), .ref (a 15), .ref (a 20), .int 0, .ref (a 24), .ref (a 26)])), ((a 1), .inr (7, [.ref (a 2), .ref (a 4)])), ((a 2), .inr (6, [.ref (a 3), .int 0])), ((a 3), .inl (cy 1, 24, .inl (fun _ => 0))), ((a 4), .inr (6, [.ref (a 5), .int 0])), ((a 5), .inl (cy 1, 24, .inl (fun _ => 0))), ((a 6), .inr (6, [.ref (a 7), .int 0])), ((a 7), .inl (cy 1, 24, .inl (fun _ => 0))), ((a 8), .inr (5, [.ref (a 9), .ref (a 11), .ref (a 13), .int 0])), ((a 9), .inr (6, [.ref (a 10), .int 0])), ((a 10), .inl (cy 1, 624, .inl (fun _ => 0))), ((a 11), .inr (6, [.ref (a 12), .int 0])), ((a 12), .inl (cy 1, 624, .inl (fun _ => 0))), ((a 13), .inr (6, [.ref (a 14), .int 0])), ((a 14), .inl (cy 1, 12, .inl (fun _ => 0))), ((a 15), .inr (7, [.ref (a 16), .ref (a 18)])), ((a 16), .inr (6, [.ref (a 17), .int 0])), ((a 17), .inl (cy 1, 24, .inl (fun _ => 0))), ((a 18), .inr (6, [.ref (a 19), .int 0])), ((a 19), .inl (cy 1, 24, .inl (fun _ => 0))), ((a 20), .inl (cy 3, 3, .inr (.inr (.inr (.inr (va_up (va_up (va_up (fun _ => none) 0 (some (a 21))) 1 (some (a 22))) 2 (some (a 23)))))))), ((a 21), .inr (4, [.int 0, .int 0, .int 0])), ((a 22), .inr (4, [.int 0, .int 0, .int 0])), ((a 23), .inr (4, [.int 0, .int 0, .int 0])), ((a 24), .inr (6, [.ref (a 25), .int 0])), ((a 25), .inl (cy 1, 24, .inl (fun _ => 0))), ((a 26), .inr (7, [.ref (a 27), .ref (a 29)])), ((a 27), .inr (6, [.ref (a 28), .int 0])), ((a 28), .inl (cy 1, 24, .inl (fun _ => 0))), ((a 29), .inr (6, [.ref (a 30), .int 0])), ((a 30), .inl (cy 1, 24, .inl (fun _ => 0))), ((a 31), .inr (10, [.ref (a 32), .ref (a 33), .ref (a 34), .ref (a 35), .ref (a 36), .ref (a 37), .ref (a 38), .int 0, .int 0])), ((a 32), .inr (3, [.int 0, .ref (sv 0), .int 0])), ((a 33), .inr (3, [.int 0, .ref (sv 0), .int 0])), ((a 34), .inr (3, [.int 0, .ref (sv 0), .int 0])), ((a 35), .inr (3, [.int 0, .ref (sv 0), .int 0])), ((a 36), .inl (cy 2, 3, .inl (fun _ => 0))), ((a 37), .inl (cy 1, 3, .inl (fun _ => 0))), ((a 38), .inl (cy 1, 3, .inl (fun _ => 0))), ((a 39), .inr (9, [.long 0, .null]))] H _ := w
  refine lv_iload C.1 C.2.1 dL_law_27 (lv_at hl 0 rfl) ?_
  refine lv_aload_n C.1 C.2.1 dL_law_29 rfl (lv_at hl 4 rfl) ?_
  refine va_slen C.1 C.2.1 hX hbl hbA w.2.2 dL_law_30 ?_
  refine x_is (y := 5) (by decide) ?_
  refine lv_iconst (v := 5) C.1 C.2.1 dL_law_31 (by decide) ?_
  refine lv_isub C.1 C.2.1 dL_law_32 ?_
  refine x_is (y := 0) (by decide) ?_
  refine lv_icmp_gt (tgt := 2515) C.1 C.2.1 dL_law_33 (by decide) (fun c9 => absurd c9 (by decide)) (fun _ => ?_)
  refine lv_aload_n C.1 C.2.1 dL_law_36 rfl (lv_at hl 4 rfl) ?_
  refine lv_iload C.1 C.2.1 dL_law_37 (lv_at hl 0 rfl) ?_
  refine va_sld C.1 C.2.1 hX hbl hbA w.2.2 (xvin (by decide)) dL_law_39 ?_
  refine x_is (y := (xs 0)) (by rfl) ?_
  refine lv_bipush (v := 63) C.1 C.2.1 dL_law_40 (by decide) ?_
  refine lv_iand C.1 C.2.1 dL_law_42 ?_
  refine x_is (y := 55) hk ?_
  refine lv_tableOut (tgt := 2509) C.1 C.2.1 dL_law_43 (by decide) (by decide) ?_
  refine lv_iinc (v := 5) (lv' := [(4, .int 5), (3, .ref (a 39)), (2, .ref (a 31)), (1, .ref (a 0)), (0, .ref b)]) C.1 C.2.1 dL_law_2509 hl (k := 0) rfl (by decide) (by decide) rfl (fun ls hl => ?_)
  refine lv_goto (tgt := 27) C.1 C.2.1 dL_law_2512 (by decide) ?_
  refine lv_iload C.1 C.2.1 dL_law_27 (lv_at hl 0 rfl) ?_
  refine lv_aload_n C.1 C.2.1 dL_law_29 rfl (lv_at hl 4 rfl) ?_
  refine va_slen C.1 C.2.1 hX hbl hbA w.2.2 dL_law_30 ?_
  refine x_is (y := 5) (by decide) ?_
  refine lv_iconst (v := 5) C.1 C.2.1 dL_law_31 (by decide) ?_
  refine lv_isub C.1 C.2.1 dL_law_32 ?_
  refine x_is (y := 0) (by decide) ?_
  refine lv_icmp_gt (tgt := 2515) C.1 C.2.1 dL_law_33 (by decide) (fun _ => ?_) (fun c9 => absurd (by decide) c9)
  refine lv_iconst (v := 1) C.1 C.2.1 dL_law_2515 (by decide) ?_
  refine va_forget (fun q hq => hAl _ (w.2.2.2.2 q hq)) ?_
  refine W.widen (k := 600002) (n := 7302232) (Nat.le_of_ble_eq_true rfl) (Nat.le_of_ble_eq_true rfl) ?_
  exact lw_ret C.1 C.2.1 hr (xlk C) dL_law_2516
set_option maxHeartbeats 8000000 in
set_option maxRecDepth 100000 in
theorem law_56_146 {p : Program} {e : Env} {s : State} {m : MethodId} {below : List Frame} {meth : Method} {c : Code} {l : Launch} {G : va_G} {cy : Nat → ClassId} {sa : String → Nat → Nat} {sv : Nat → Nat} {A : Nat → Prop} {b : Nat} {xs : Nat → Int32} {a : Nat → Nat} {H : Heap} {locs : List Loc} {ls : Array Slot} (C : xC p l s m #[Value.ref b] meth c code 7 "TwinindexLaw" (Cond.initialized "TwinindexLaw" :: XG) G cy sa sv A) (hr : meth.sig.returnType = ret) (hX : va_X b 5 xs s s.heap) (hbl : b < s.heap.size) (hbA : ¬ A b) (hAl : ∀ q, A q → s.heap.size ≤ q) (w : xW G A s (xW0 cy sv a) H locs) (hl : lv_has ls 7 [(4, .int 0), (3, .ref (a 39)), (2, .ref (a 31)), (1, .ref (a 0)), (0, .ref b)]) (hk : ((xs 0) &&& 63) = 56) : W p l e room_1 s m #[Value.ref b] below meth c H locs 40 1536 (lw_Z below #[Value.ref b] s) (F0 m 27 ls []) := by
  have w : xW G A s [((a 0), .inr (8, [.ref (a 1), .ref (a 6), .ref (a 8), .ref (a 15), .ref (a 20), .int 0, .ref (a 24), .ref (a 26)])), ((a 1), .inr (7, [.ref (a 2), .ref (a 4)])), ((a 2), .inr (6, [.ref (a 3), .int 0])), ((a 3), .inl (cy 1, 24, .inl (fun _ => 0))), ((a 4), .inr (6, [.ref (a 5), .int 0])), ((a 5), .inl (cy 1, 24, .inl (fun _ => 0))), ((a 6), .inr (6, [.ref (a 7), .int 0])), ((a 7), .inl (cy 1, 24, .inl (fun _ => 0))), ((a 8), .inr (5, [.ref (a 9), .ref (a 11), .ref (a 13), .int 0])), ((a 9), .inr (6, [.ref (a 10), .int 0])), ((a 10), .inl (cy 1, 624, .inl (fun _ => 0))), ((a 11), .inr (6, [.ref (a 12), .int 0])), ((a 12), .inl (cy 1, 624, .inl (fun _ => 0))), ((a 13), .inr (6, [.ref (a 14), .int 0])), ((a 14), .inl (cy 1, 12, .inl (fun _ => 0))), ((a 15), .inr (7, [.ref (a 16), .ref (a 18)])), ((a 16), .inr (6, [.ref (a 17), .int 0])), ((a 17), .inl (cy 1, 24, .inl (fun _ => 0))), ((a 18), .inr (6, [.ref (a 19), .int 0])), ((a 19), .inl (cy 1, 24, .inl (fun _ => 0))), ((a 20), .inl (cy 3, 3, .inr (.inr (.inr (.inr (va_up (va_up (va_up (fun _ => none) 0 (some (a 21))) 1 (some (a 22))) 2 (some (a 23)))))))), ((a 21), .inr (4, [.int 0, .int 0, .int 0])), ((a 22), .inr (4, [.int 0, .int 0, .int 0])), ((a 23), .inr (4, [.int 0, .int 0, .int 0])), ((a 24), .inr (6, [.ref (a 25), .int 0])), ((a 25), .inl (cy 1, 24, .inl (fun _ => 0))), ((a 26), .inr (7, [.ref (a 27), .ref (a 29)])), ((a 27), .inr (6, [.ref (a 28), .int 0])), ((a 28), .inl (cy 1, 24, .inl (fun _ => 0))), ((a 29), .inr (6, [.ref (a 30), .int 0])), ((a 30), .inl (cy 1, 24, .inl (fun _ => 0))), ((a 31), .inr (10, [.ref (a 32), .ref (a 33), .ref (a 34), .ref (a 35), .ref (a 36), .ref (a 37), .ref (a 38), .int 0, .int 0])), ((a 32), .inr (3, [.int 0, .ref (sv 0), .int 0])), ((a 33), .inr (3, [.int 0, .ref (sv 0), .int 0])), ((a 34), .inr (3, [.int 0, .ref (sv 0), .int 0])), ((a 35), .inr (3, [.int 0, .ref (sv 0), .int 0])), ((a 36), .inl (cy 2, 3, .inl (fun _ => 0))), ((a 37), .inl (cy 1, 3, .inl (fun _ => 0))), ((a 38), .inl (cy 1, 3, .inl (fun _ => 0))), ((a 39), .inr (9, [.long 0, .null]))] H _ := w
  refine lv_iload C.1 C.2.1 dL_law_27 (lv_at hl 0 rfl) ?_
  refine lv_aload_n C.1 C.2.1 dL_law_29 rfl (lv_at hl 4 rfl) ?_
  refine va_slen C.1 C.2.1 hX hbl hbA w.2.2 dL_law_30 ?_
  refine x_is (y := 5) (by decide) ?_
  refine lv_iconst (v := 5) C.1 C.2.1 dL_law_31 (by decide) ?_
  refine lv_isub C.1 C.2.1 dL_law_32 ?_
  refine x_is (y := 0) (by decide) ?_
  refine lv_icmp_gt (tgt := 2515) C.1 C.2.1 dL_law_33 (by decide) (fun c9 => absurd c9 (by decide)) (fun _ => ?_)
  refine lv_aload_n C.1 C.2.1 dL_law_36 rfl (lv_at hl 4 rfl) ?_
  refine lv_iload C.1 C.2.1 dL_law_37 (lv_at hl 0 rfl) ?_
  refine va_sld C.1 C.2.1 hX hbl hbA w.2.2 (xvin (by decide)) dL_law_39 ?_
  refine x_is (y := (xs 0)) (by rfl) ?_
  refine lv_bipush (v := 63) C.1 C.2.1 dL_law_40 (by decide) ?_
  refine lv_iand C.1 C.2.1 dL_law_42 ?_
  refine x_is (y := 56) hk ?_
  refine lv_tableOut (tgt := 2509) C.1 C.2.1 dL_law_43 (by decide) (by decide) ?_
  refine lv_iinc (v := 5) (lv' := [(4, .int 5), (3, .ref (a 39)), (2, .ref (a 31)), (1, .ref (a 0)), (0, .ref b)]) C.1 C.2.1 dL_law_2509 hl (k := 0) rfl (by decide) (by decide) rfl (fun ls hl => ?_)
  refine lv_goto (tgt := 27) C.1 C.2.1 dL_law_2512 (by decide) ?_
  refine lv_iload C.1 C.2.1 dL_law_27 (lv_at hl 0 rfl) ?_
  refine lv_aload_n C.1 C.2.1 dL_law_29 rfl (lv_at hl 4 rfl) ?_
  refine va_slen C.1 C.2.1 hX hbl hbA w.2.2 dL_law_30 ?_
  refine x_is (y := 5) (by decide) ?_
  refine lv_iconst (v := 5) C.1 C.2.1 dL_law_31 (by decide) ?_
  refine lv_isub C.1 C.2.1 dL_law_32 ?_
  refine x_is (y := 0) (by decide) ?_
  refine lv_icmp_gt (tgt := 2515) C.1 C.2.1 dL_law_33 (by decide) (fun _ => ?_) (fun c9 => absurd (by decide) c9)
  refine lv_iconst (v := 1) C.1 C.2.1 dL_law_2515 (by decide) ?_
  refine va_forget (fun q hq => hAl _ (w.2.2.2.2 q hq)) ?_
  refine W.widen (k := 600002) (n := 7302232) (Nat.le_of_ble_eq_true rfl) (Nat.le_of_ble_eq_true rfl) ?_
  exact lw_ret C.1 C.2.1 hr (xlk C) dL_law_2516
set_option maxHeartbeats 8000000 in
set_option maxRecDepth 100000 in
theorem law_57_147 {p : Program} {e : Env} {s : State} {m : MethodId} {below : List Frame} {meth : Method} {c : Code} {l : Launch} {G : va_G} {cy : Nat → ClassId} {sa : String → Nat → Nat} {sv : Nat → Nat} {A : Nat → Prop} {b : Nat} {xs : Nat → Int32} {a : Nat → Nat} {H : Heap} {locs : List Loc} {ls : Array Slot} (C : xC p l s m #[Value.ref b] meth c code 7 "TwinindexLaw" (Cond.initialized "TwinindexLaw" :: XG) G cy sa sv A) (hr : meth.sig.returnType = ret) (hX : va_X b 5 xs s s.heap) (hbl : b < s.heap.size) (hbA : ¬ A b) (hAl : ∀ q, A q → s.heap.size ≤ q) (w : xW G A s (xW0 cy sv a) H locs) (hl : lv_has ls 7 [(4, .int 0), (3, .ref (a 39)), (2, .ref (a 31)), (1, .ref (a 0)), (0, .ref b)]) (hk : ((xs 0) &&& 63) = 57) : W p l e room_1 s m #[Value.ref b] below meth c H locs 40 1536 (lw_Z below #[Value.ref b] s) (F0 m 27 ls []) := by
  have w : xW G A s [((a 0), .inr (8, [.ref (a 1), .ref (a 6), .ref (a 8), .ref (a 15), .ref (a 20), .int 0, .ref (a 24), .ref (a 26)])), ((a 1), .inr (7, [.ref (a 2), .ref (a 4)])), ((a 2), .inr (6, [.ref (a 3), .int 0])), ((a 3), .inl (cy 1, 24, .inl (fun _ => 0))), ((a 4), .inr (6, [.ref (a 5), .int 0])), ((a 5), .inl (cy 1, 24, .inl (fun _ => 0))), ((a 6), .inr (6, [.ref (a 7), .int 0])), ((a 7), .inl (cy 1, 24, .inl (fun _ => 0))), ((a 8), .inr (5, [.ref (a 9), .ref (a 11), .ref (a 13), .int 0])), ((a 9), .inr (6, [.ref (a 10), .int 0])), ((a 10), .inl (cy 1, 624, .inl (fun _ => 0))), ((a 11), .inr (6, [.ref (a 12), .int 0])), ((a 12), .inl (cy 1, 624, .inl (fun _ => 0))), ((a 13), .inr (6, [.ref (a 14), .int 0])), ((a 14), .inl (cy 1, 12, .inl (fun _ => 0))), ((a 15), .inr (7, [.ref (a 16), .ref (a 18)])), ((a 16), .inr (6, [.ref (a 17), .int 0])), ((a 17), .inl (cy 1, 24, .inl (fun _ => 0))), ((a 18), .inr (6, [.ref (a 19), .int 0])), ((a 19), .inl (cy 1, 24, .inl (fun _ => 0))), ((a 20), .inl (cy 3, 3, .inr (.inr (.inr (.inr (va_up (va_up (va_up (fun _ => none) 0 (some (a 21))) 1 (some (a 22))) 2 (some (a 23)))))))), ((a 21), .inr (4, [.int 0, .int 0, .int 0])), ((a 22), .inr (4, [.int 0, .int 0, .int 0])), ((a 23), .inr (4, [.int 0, .int 0, .int 0])), ((a 24), .inr (6, [.ref (a 25), .int 0])), ((a 25), .inl (cy 1, 24, .inl (fun _ => 0))), ((a 26), .inr (7, [.ref (a 27), .ref (a 29)])), ((a 27), .inr (6, [.ref (a 28), .int 0])), ((a 28), .inl (cy 1, 24, .inl (fun _ => 0))), ((a 29), .inr (6, [.ref (a 30), .int 0])), ((a 30), .inl (cy 1, 24, .inl (fun _ => 0))), ((a 31), .inr (10, [.ref (a 32), .ref (a 33), .ref (a 34), .ref (a 35), .ref (a 36), .ref (a 37), .ref (a 38), .int 0, .int 0])), ((a 32), .inr (3, [.int 0, .ref (sv 0), .int 0])), ((a 33), .inr (3, [.int 0, .ref (sv 0), .int 0])), ((a 34), .inr (3, [.int 0, .ref (sv 0), .int 0])), ((a 35), .inr (3, [.int 0, .ref (sv 0), .int 0])), ((a 36), .inl (cy 2, 3, .inl (fun _ => 0))), ((a 37), .inl (cy 1, 3, .inl (fun _ => 0))), ((a 38), .inl (cy 1, 3, .inl (fun _ => 0))), ((a 39), .inr (9, [.long 0, .null]))] H _ := w
  refine lv_iload C.1 C.2.1 dL_law_27 (lv_at hl 0 rfl) ?_
  refine lv_aload_n C.1 C.2.1 dL_law_29 rfl (lv_at hl 4 rfl) ?_
  refine va_slen C.1 C.2.1 hX hbl hbA w.2.2 dL_law_30 ?_
  refine x_is (y := 5) (by decide) ?_
  refine lv_iconst (v := 5) C.1 C.2.1 dL_law_31 (by decide) ?_
  refine lv_isub C.1 C.2.1 dL_law_32 ?_
  refine x_is (y := 0) (by decide) ?_
  refine lv_icmp_gt (tgt := 2515) C.1 C.2.1 dL_law_33 (by decide) (fun c9 => absurd c9 (by decide)) (fun _ => ?_)
  refine lv_aload_n C.1 C.2.1 dL_law_36 rfl (lv_at hl 4 rfl) ?_
  refine lv_iload C.1 C.2.1 dL_law_37 (lv_at hl 0 rfl) ?_
  refine va_sld C.1 C.2.1 hX hbl hbA w.2.2 (xvin (by decide)) dL_law_39 ?_
  refine x_is (y := (xs 0)) (by rfl) ?_
  refine lv_bipush (v := 63) C.1 C.2.1 dL_law_40 (by decide) ?_
  refine lv_iand C.1 C.2.1 dL_law_42 ?_
  refine x_is (y := 57) hk ?_
  refine lv_tableOut (tgt := 2509) C.1 C.2.1 dL_law_43 (by decide) (by decide) ?_
  refine lv_iinc (v := 5) (lv' := [(4, .int 5), (3, .ref (a 39)), (2, .ref (a 31)), (1, .ref (a 0)), (0, .ref b)]) C.1 C.2.1 dL_law_2509 hl (k := 0) rfl (by decide) (by decide) rfl (fun ls hl => ?_)
  refine lv_goto (tgt := 27) C.1 C.2.1 dL_law_2512 (by decide) ?_
  refine lv_iload C.1 C.2.1 dL_law_27 (lv_at hl 0 rfl) ?_
  refine lv_aload_n C.1 C.2.1 dL_law_29 rfl (lv_at hl 4 rfl) ?_
  refine va_slen C.1 C.2.1 hX hbl hbA w.2.2 dL_law_30 ?_
  refine x_is (y := 5) (by decide) ?_
  refine lv_iconst (v := 5) C.1 C.2.1 dL_law_31 (by decide) ?_
  refine lv_isub C.1 C.2.1 dL_law_32 ?_
  refine x_is (y := 0) (by decide) ?_
  refine lv_icmp_gt (tgt := 2515) C.1 C.2.1 dL_law_33 (by decide) (fun _ => ?_) (fun c9 => absurd (by decide) c9)
  refine lv_iconst (v := 1) C.1 C.2.1 dL_law_2515 (by decide) ?_
  refine va_forget (fun q hq => hAl _ (w.2.2.2.2 q hq)) ?_
  refine W.widen (k := 600002) (n := 7302232) (Nat.le_of_ble_eq_true rfl) (Nat.le_of_ble_eq_true rfl) ?_
  exact lw_ret C.1 C.2.1 hr (xlk C) dL_law_2516
set_option maxHeartbeats 8000000 in
set_option maxRecDepth 100000 in
theorem law_58_148 {p : Program} {e : Env} {s : State} {m : MethodId} {below : List Frame} {meth : Method} {c : Code} {l : Launch} {G : va_G} {cy : Nat → ClassId} {sa : String → Nat → Nat} {sv : Nat → Nat} {A : Nat → Prop} {b : Nat} {xs : Nat → Int32} {a : Nat → Nat} {H : Heap} {locs : List Loc} {ls : Array Slot} (C : xC p l s m #[Value.ref b] meth c code 7 "TwinindexLaw" (Cond.initialized "TwinindexLaw" :: XG) G cy sa sv A) (hr : meth.sig.returnType = ret) (hX : va_X b 5 xs s s.heap) (hbl : b < s.heap.size) (hbA : ¬ A b) (hAl : ∀ q, A q → s.heap.size ≤ q) (w : xW G A s (xW0 cy sv a) H locs) (hl : lv_has ls 7 [(4, .int 0), (3, .ref (a 39)), (2, .ref (a 31)), (1, .ref (a 0)), (0, .ref b)]) (hk : ((xs 0) &&& 63) = 58) : W p l e room_1 s m #[Value.ref b] below meth c H locs 40 1536 (lw_Z below #[Value.ref b] s) (F0 m 27 ls []) := by
  have w : xW G A s [((a 0), .inr (8, [.ref (a 1), .ref (a 6), .ref (a 8), .ref (a 15), .ref (a 20), .int 0, .ref (a 24), .ref (a 26)])), ((a 1), .inr (7, [.ref (a 2), .ref (a 4)])), ((a 2), .inr (6, [.ref (a 3), .int 0])), ((a 3), .inl (cy 1, 24, .inl (fun _ => 0))), ((a 4), .inr (6, [.ref (a 5), .int 0])), ((a 5), .inl (cy 1, 24, .inl (fun _ => 0))), ((a 6), .inr (6, [.ref (a 7), .int 0])), ((a 7), .inl (cy 1, 24, .inl (fun _ => 0))), ((a 8), .inr (5, [.ref (a 9), .ref (a 11), .ref (a 13), .int 0])), ((a 9), .inr (6, [.ref (a 10), .int 0])), ((a 10), .inl (cy 1, 624, .inl (fun _ => 0))), ((a 11), .inr (6, [.ref (a 12), .int 0])), ((a 12), .inl (cy 1, 624, .inl (fun _ => 0))), ((a 13), .inr (6, [.ref (a 14), .int 0])), ((a 14), .inl (cy 1, 12, .inl (fun _ => 0))), ((a 15), .inr (7, [.ref (a 16), .ref (a 18)])), ((a 16), .inr (6, [.ref (a 17), .int 0])), ((a 17), .inl (cy 1, 24, .inl (fun _ => 0))), ((a 18), .inr (6, [.ref (a 19), .int 0])), ((a 19), .inl (cy 1, 24, .inl (fun _ => 0))), ((a 20), .inl (cy 3, 3, .inr (.inr (.inr (.inr (va_up (va_up (va_up (fun _ => none) 0 (some (a 21))) 1 (some (a 22))) 2 (some (a 23)))))))), ((a 21), .inr (4, [.int 0, .int 0, .int 0])), ((a 22), .inr (4, [.int 0, .int 0, .int 0])), ((a 23), .inr (4, [.int 0, .int 0, .int 0])), ((a 24), .inr (6, [.ref (a 25), .int 0])), ((a 25), .inl (cy 1, 24, .inl (fun _ => 0))), ((a 26), .inr (7, [.ref (a 27), .ref (a 29)])), ((a 27), .inr (6, [.ref (a 28), .int 0])), ((a 28), .inl (cy 1, 24, .inl (fun _ => 0))), ((a 29), .inr (6, [.ref (a 30), .int 0])), ((a 30), .inl (cy 1, 24, .inl (fun _ => 0))), ((a 31), .inr (10, [.ref (a 32), .ref (a 33), .ref (a 34), .ref (a 35), .ref (a 36), .ref (a 37), .ref (a 38), .int 0, .int 0])), ((a 32), .inr (3, [.int 0, .ref (sv 0), .int 0])), ((a 33), .inr (3, [.int 0, .ref (sv 0), .int 0])), ((a 34), .inr (3, [.int 0, .ref (sv 0), .int 0])), ((a 35), .inr (3, [.int 0, .ref (sv 0), .int 0])), ((a 36), .inl (cy 2, 3, .inl (fun _ => 0))), ((a 37), .inl (cy 1, 3, .inl (fun _ => 0))), ((a 38), .inl (cy 1, 3, .inl (fun _ => 0))), ((a 39), .inr (9, [.long 0, .null]))] H _ := w
  refine lv_iload C.1 C.2.1 dL_law_27 (lv_at hl 0 rfl) ?_
  refine lv_aload_n C.1 C.2.1 dL_law_29 rfl (lv_at hl 4 rfl) ?_
  refine va_slen C.1 C.2.1 hX hbl hbA w.2.2 dL_law_30 ?_
  refine x_is (y := 5) (by decide) ?_
  refine lv_iconst (v := 5) C.1 C.2.1 dL_law_31 (by decide) ?_
  refine lv_isub C.1 C.2.1 dL_law_32 ?_
  refine x_is (y := 0) (by decide) ?_
  refine lv_icmp_gt (tgt := 2515) C.1 C.2.1 dL_law_33 (by decide) (fun c9 => absurd c9 (by decide)) (fun _ => ?_)
  refine lv_aload_n C.1 C.2.1 dL_law_36 rfl (lv_at hl 4 rfl) ?_
  refine lv_iload C.1 C.2.1 dL_law_37 (lv_at hl 0 rfl) ?_
  refine va_sld C.1 C.2.1 hX hbl hbA w.2.2 (xvin (by decide)) dL_law_39 ?_
  refine x_is (y := (xs 0)) (by rfl) ?_
  refine lv_bipush (v := 63) C.1 C.2.1 dL_law_40 (by decide) ?_
  refine lv_iand C.1 C.2.1 dL_law_42 ?_
  refine x_is (y := 58) hk ?_
  refine lv_tableOut (tgt := 2509) C.1 C.2.1 dL_law_43 (by decide) (by decide) ?_
  refine lv_iinc (v := 5) (lv' := [(4, .int 5), (3, .ref (a 39)), (2, .ref (a 31)), (1, .ref (a 0)), (0, .ref b)]) C.1 C.2.1 dL_law_2509 hl (k := 0) rfl (by decide) (by decide) rfl (fun ls hl => ?_)
  refine lv_goto (tgt := 27) C.1 C.2.1 dL_law_2512 (by decide) ?_
  refine lv_iload C.1 C.2.1 dL_law_27 (lv_at hl 0 rfl) ?_
  refine lv_aload_n C.1 C.2.1 dL_law_29 rfl (lv_at hl 4 rfl) ?_
  refine va_slen C.1 C.2.1 hX hbl hbA w.2.2 dL_law_30 ?_
  refine x_is (y := 5) (by decide) ?_
  refine lv_iconst (v := 5) C.1 C.2.1 dL_law_31 (by decide) ?_
  refine lv_isub C.1 C.2.1 dL_law_32 ?_
  refine x_is (y := 0) (by decide) ?_
  refine lv_icmp_gt (tgt := 2515) C.1 C.2.1 dL_law_33 (by decide) (fun _ => ?_) (fun c9 => absurd (by decide) c9)
  refine lv_iconst (v := 1) C.1 C.2.1 dL_law_2515 (by decide) ?_
  refine va_forget (fun q hq => hAl _ (w.2.2.2.2 q hq)) ?_
  refine W.widen (k := 600002) (n := 7302232) (Nat.le_of_ble_eq_true rfl) (Nat.le_of_ble_eq_true rfl) ?_
  exact lw_ret C.1 C.2.1 hr (xlk C) dL_law_2516
set_option maxHeartbeats 8000000 in
set_option maxRecDepth 100000 in
theorem law_59_149 {p : Program} {e : Env} {s : State} {m : MethodId} {below : List Frame} {meth : Method} {c : Code} {l : Launch} {G : va_G} {cy : Nat → ClassId} {sa : String → Nat → Nat} {sv : Nat → Nat} {A : Nat → Prop} {b : Nat} {xs : Nat → Int32} {a : Nat → Nat} {H : Heap} {locs : List Loc} {ls : Array Slot} (C : xC p l s m #[Value.ref b] meth c code 7 "TwinindexLaw" (Cond.initialized "TwinindexLaw" :: XG) G cy sa sv A) (hr : meth.sig.returnType = ret) (hX : va_X b 5 xs s s.heap) (hbl : b < s.heap.size) (hbA : ¬ A b) (hAl : ∀ q, A q → s.heap.size ≤ q) (w : xW G A s (xW0 cy sv a) H locs) (hl : lv_has ls 7 [(4, .int 0), (3, .ref (a 39)), (2, .ref (a 31)), (1, .ref (a 0)), (0, .ref b)]) (hk : ((xs 0) &&& 63) = 59) : W p l e room_1 s m #[Value.ref b] below meth c H locs 40 1536 (lw_Z below #[Value.ref b] s) (F0 m 27 ls []) := by
  have w : xW G A s [((a 0), .inr (8, [.ref (a 1), .ref (a 6), .ref (a 8), .ref (a 15), .ref (a 20), .int 0, .ref (a 24), .ref (a 26)])), ((a 1), .inr (7, [.ref (a 2), .ref (a 4)])), ((a 2), .inr (6, [.ref (a 3), .int 0])), ((a 3), .inl (cy 1, 24, .inl (fun _ => 0))), ((a 4), .inr (6, [.ref (a 5), .int 0])), ((a 5), .inl (cy 1, 24, .inl (fun _ => 0))), ((a 6), .inr (6, [.ref (a 7), .int 0])), ((a 7), .inl (cy 1, 24, .inl (fun _ => 0))), ((a 8), .inr (5, [.ref (a 9), .ref (a 11), .ref (a 13), .int 0])), ((a 9), .inr (6, [.ref (a 10), .int 0])), ((a 10), .inl (cy 1, 624, .inl (fun _ => 0))), ((a 11), .inr (6, [.ref (a 12), .int 0])), ((a 12), .inl (cy 1, 624, .inl (fun _ => 0))), ((a 13), .inr (6, [.ref (a 14), .int 0])), ((a 14), .inl (cy 1, 12, .inl (fun _ => 0))), ((a 15), .inr (7, [.ref (a 16), .ref (a 18)])), ((a 16), .inr (6, [.ref (a 17), .int 0])), ((a 17), .inl (cy 1, 24, .inl (fun _ => 0))), ((a 18), .inr (6, [.ref (a 19), .int 0])), ((a 19), .inl (cy 1, 24, .inl (fun _ => 0))), ((a 20), .inl (cy 3, 3, .inr (.inr (.inr (.inr (va_up (va_up (va_up (fun _ => none) 0 (some (a 21))) 1 (some (a 22))) 2 (some (a 23)))))))), ((a 21), .inr (4, [.int 0, .int 0, .int 0])), ((a 22), .inr (4, [.int 0, .int 0, .int 0])), ((a 23), .inr (4, [.int 0, .int 0, .int 0])), ((a 24), .inr (6, [.ref (a 25), .int 0])), ((a 25), .inl (cy 1, 24, .inl (fun _ => 0))), ((a 26), .inr (7, [.ref (a 27), .ref (a 29)])), ((a 27), .inr (6, [.ref (a 28), .int 0])), ((a 28), .inl (cy 1, 24, .inl (fun _ => 0))), ((a 29), .inr (6, [.ref (a 30), .int 0])), ((a 30), .inl (cy 1, 24, .inl (fun _ => 0))), ((a 31), .inr (10, [.ref (a 32), .ref (a 33), .ref (a 34), .ref (a 35), .ref (a 36), .ref (a 37), .ref (a 38), .int 0, .int 0])), ((a 32), .inr (3, [.int 0, .ref (sv 0), .int 0])), ((a 33), .inr (3, [.int 0, .ref (sv 0), .int 0])), ((a 34), .inr (3, [.int 0, .ref (sv 0), .int 0])), ((a 35), .inr (3, [.int 0, .ref (sv 0), .int 0])), ((a 36), .inl (cy 2, 3, .inl (fun _ => 0))), ((a 37), .inl (cy 1, 3, .inl (fun _ => 0))), ((a 38), .inl (cy 1, 3, .inl (fun _ => 0))), ((a 39), .inr (9, [.long 0, .null]))] H _ := w
  refine lv_iload C.1 C.2.1 dL_law_27 (lv_at hl 0 rfl) ?_
  refine lv_aload_n C.1 C.2.1 dL_law_29 rfl (lv_at hl 4 rfl) ?_
  refine va_slen C.1 C.2.1 hX hbl hbA w.2.2 dL_law_30 ?_
  refine x_is (y := 5) (by decide) ?_
  refine lv_iconst (v := 5) C.1 C.2.1 dL_law_31 (by decide) ?_
  refine lv_isub C.1 C.2.1 dL_law_32 ?_
  refine x_is (y := 0) (by decide) ?_
  refine lv_icmp_gt (tgt := 2515) C.1 C.2.1 dL_law_33 (by decide) (fun c9 => absurd c9 (by decide)) (fun _ => ?_)
  refine lv_aload_n C.1 C.2.1 dL_law_36 rfl (lv_at hl 4 rfl) ?_
  refine lv_iload C.1 C.2.1 dL_law_37 (lv_at hl 0 rfl) ?_
  refine va_sld C.1 C.2.1 hX hbl hbA w.2.2 (xvin (by decide)) dL_law_39 ?_
  refine x_is (y := (xs 0)) (by rfl) ?_
  refine lv_bipush (v := 63) C.1 C.2.1 dL_law_40 (by decide) ?_
  refine lv_iand C.1 C.2.1 dL_law_42 ?_
  refine x_is (y := 59) hk ?_
  refine lv_tableOut (tgt := 2509) C.1 C.2.1 dL_law_43 (by decide) (by decide) ?_
  refine lv_iinc (v := 5) (lv' := [(4, .int 5), (3, .ref (a 39)), (2, .ref (a 31)), (1, .ref (a 0)), (0, .ref b)]) C.1 C.2.1 dL_law_2509 hl (k := 0) rfl (by decide) (by decide) rfl (fun ls hl => ?_)
  refine lv_goto (tgt := 27) C.1 C.2.1 dL_law_2512 (by decide) ?_
  refine lv_iload C.1 C.2.1 dL_law_27 (lv_at hl 0 rfl) ?_
  refine lv_aload_n C.1 C.2.1 dL_law_29 rfl (lv_at hl 4 rfl) ?_
  refine va_slen C.1 C.2.1 hX hbl hbA w.2.2 dL_law_30 ?_
  refine x_is (y := 5) (by decide) ?_
  refine lv_iconst (v := 5) C.1 C.2.1 dL_law_31 (by decide) ?_
  refine lv_isub C.1 C.2.1 dL_law_32 ?_
  refine x_is (y := 0) (by decide) ?_
  refine lv_icmp_gt (tgt := 2515) C.1 C.2.1 dL_law_33 (by decide) (fun _ => ?_) (fun c9 => absurd (by decide) c9)
  refine lv_iconst (v := 1) C.1 C.2.1 dL_law_2515 (by decide) ?_
  refine va_forget (fun q hq => hAl _ (w.2.2.2.2 q hq)) ?_
  refine W.widen (k := 600002) (n := 7302232) (Nat.le_of_ble_eq_true rfl) (Nat.le_of_ble_eq_true rfl) ?_
  exact lw_ret C.1 C.2.1 hr (xlk C) dL_law_2516
set_option maxHeartbeats 8000000 in
set_option maxRecDepth 100000 in
theorem law_60_150 {p : Program} {e : Env} {s : State} {m : MethodId} {below : List Frame} {meth : Method} {c : Code} {l : Launch} {G : va_G} {cy : Nat → ClassId} {sa : String → Nat → Nat} {sv : Nat → Nat} {A : Nat → Prop} {b : Nat} {xs : Nat → Int32} {a : Nat → Nat} {H : Heap} {locs : List Loc} {ls : Array Slot} (C : xC p l s m #[Value.ref b] meth c code 7 "TwinindexLaw" (Cond.initialized "TwinindexLaw" :: XG) G cy sa sv A) (hr : meth.sig.returnType = ret) (hX : va_X b 5 xs s s.heap) (hbl : b < s.heap.size) (hbA : ¬ A b) (hAl : ∀ q, A q → s.heap.size ≤ q) (w : xW G A s (xW0 cy sv a) H locs) (hl : lv_has ls 7 [(4, .int 0), (3, .ref (a 39)), (2, .ref (a 31)), (1, .ref (a 0)), (0, .ref b)]) (hk : ((xs 0) &&& 63) = 60) : W p l e room_1 s m #[Value.ref b] below meth c H locs 40 1536 (lw_Z below #[Value.ref b] s) (F0 m 27 ls []) := by
  have w : xW G A s [((a 0), .inr (8, [.ref (a 1), .ref (a 6), .ref (a 8), .ref (a 15), .ref (a 20), .int 0, .ref (a 24), .ref (a 26)])), ((a 1), .inr (7, [.ref (a 2), .ref (a 4)])), ((a 2), .inr (6, [.ref (a 3), .int 0])), ((a 3), .inl (cy 1, 24, .inl (fun _ => 0))), ((a 4), .inr (6, [.ref (a 5), .int 0])), ((a 5), .inl (cy 1, 24, .inl (fun _ => 0))), ((a 6), .inr (6, [.ref (a 7), .int 0])), ((a 7), .inl (cy 1, 24, .inl (fun _ => 0))), ((a 8), .inr (5, [.ref (a 9), .ref (a 11), .ref (a 13), .int 0])), ((a 9), .inr (6, [.ref (a 10), .int 0])), ((a 10), .inl (cy 1, 624, .inl (fun _ => 0))), ((a 11), .inr (6, [.ref (a 12), .int 0])), ((a 12), .inl (cy 1, 624, .inl (fun _ => 0))), ((a 13), .inr (6, [.ref (a 14), .int 0])), ((a 14), .inl (cy 1, 12, .inl (fun _ => 0))), ((a 15), .inr (7, [.ref (a 16), .ref (a 18)])), ((a 16), .inr (6, [.ref (a 17), .int 0])), ((a 17), .inl (cy 1, 24, .inl (fun _ => 0))), ((a 18), .inr (6, [.ref (a 19), .int 0])), ((a 19), .inl (cy 1, 24, .inl (fun _ => 0))), ((a 20), .inl (cy 3, 3, .inr (.inr (.inr (.inr (va_up (va_up (va_up (fun _ => none) 0 (some (a 21))) 1 (some (a 22))) 2 (some (a 23)))))))), ((a 21), .inr (4, [.int 0, .int 0, .int 0])), ((a 22), .inr (4, [.int 0, .int 0, .int 0])), ((a 23), .inr (4, [.int 0, .int 0, .int 0])), ((a 24), .inr (6, [.ref (a 25), .int 0])), ((a 25), .inl (cy 1, 24, .inl (fun _ => 0))), ((a 26), .inr (7, [.ref (a 27), .ref (a 29)])), ((a 27), .inr (6, [.ref (a 28), .int 0])), ((a 28), .inl (cy 1, 24, .inl (fun _ => 0))), ((a 29), .inr (6, [.ref (a 30), .int 0])), ((a 30), .inl (cy 1, 24, .inl (fun _ => 0))), ((a 31), .inr (10, [.ref (a 32), .ref (a 33), .ref (a 34), .ref (a 35), .ref (a 36), .ref (a 37), .ref (a 38), .int 0, .int 0])), ((a 32), .inr (3, [.int 0, .ref (sv 0), .int 0])), ((a 33), .inr (3, [.int 0, .ref (sv 0), .int 0])), ((a 34), .inr (3, [.int 0, .ref (sv 0), .int 0])), ((a 35), .inr (3, [.int 0, .ref (sv 0), .int 0])), ((a 36), .inl (cy 2, 3, .inl (fun _ => 0))), ((a 37), .inl (cy 1, 3, .inl (fun _ => 0))), ((a 38), .inl (cy 1, 3, .inl (fun _ => 0))), ((a 39), .inr (9, [.long 0, .null]))] H _ := w
  refine lv_iload C.1 C.2.1 dL_law_27 (lv_at hl 0 rfl) ?_
  refine lv_aload_n C.1 C.2.1 dL_law_29 rfl (lv_at hl 4 rfl) ?_
  refine va_slen C.1 C.2.1 hX hbl hbA w.2.2 dL_law_30 ?_
  refine x_is (y := 5) (by decide) ?_
  refine lv_iconst (v := 5) C.1 C.2.1 dL_law_31 (by decide) ?_
  refine lv_isub C.1 C.2.1 dL_law_32 ?_
  refine x_is (y := 0) (by decide) ?_
  refine lv_icmp_gt (tgt := 2515) C.1 C.2.1 dL_law_33 (by decide) (fun c9 => absurd c9 (by decide)) (fun _ => ?_)
  refine lv_aload_n C.1 C.2.1 dL_law_36 rfl (lv_at hl 4 rfl) ?_
  refine lv_iload C.1 C.2.1 dL_law_37 (lv_at hl 0 rfl) ?_
  refine va_sld C.1 C.2.1 hX hbl hbA w.2.2 (xvin (by decide)) dL_law_39 ?_
  refine x_is (y := (xs 0)) (by rfl) ?_
  refine lv_bipush (v := 63) C.1 C.2.1 dL_law_40 (by decide) ?_
  refine lv_iand C.1 C.2.1 dL_law_42 ?_
  refine x_is (y := 60) hk ?_
  refine lv_tableOut (tgt := 2509) C.1 C.2.1 dL_law_43 (by decide) (by decide) ?_
  refine lv_iinc (v := 5) (lv' := [(4, .int 5), (3, .ref (a 39)), (2, .ref (a 31)), (1, .ref (a 0)), (0, .ref b)]) C.1 C.2.1 dL_law_2509 hl (k := 0) rfl (by decide) (by decide) rfl (fun ls hl => ?_)
  refine lv_goto (tgt := 27) C.1 C.2.1 dL_law_2512 (by decide) ?_
  refine lv_iload C.1 C.2.1 dL_law_27 (lv_at hl 0 rfl) ?_
  refine lv_aload_n C.1 C.2.1 dL_law_29 rfl (lv_at hl 4 rfl) ?_
  refine va_slen C.1 C.2.1 hX hbl hbA w.2.2 dL_law_30 ?_
  refine x_is (y := 5) (by decide) ?_
  refine lv_iconst (v := 5) C.1 C.2.1 dL_law_31 (by decide) ?_
  refine lv_isub C.1 C.2.1 dL_law_32 ?_
  refine x_is (y := 0) (by decide) ?_
  refine lv_icmp_gt (tgt := 2515) C.1 C.2.1 dL_law_33 (by decide) (fun _ => ?_) (fun c9 => absurd (by decide) c9)
  refine lv_iconst (v := 1) C.1 C.2.1 dL_law_2515 (by decide) ?_
  refine va_forget (fun q hq => hAl _ (w.2.2.2.2 q hq)) ?_
  refine W.widen (k := 600002) (n := 7302232) (Nat.le_of_ble_eq_true rfl) (Nat.le_of_ble_eq_true rfl) ?_
  exact lw_ret C.1 C.2.1 hr (xlk C) dL_law_2516
set_option maxHeartbeats 8000000 in
set_option maxRecDepth 100000 in
theorem law_61_151 {p : Program} {e : Env} {s : State} {m : MethodId} {below : List Frame} {meth : Method} {c : Code} {l : Launch} {G : va_G} {cy : Nat → ClassId} {sa : String → Nat → Nat} {sv : Nat → Nat} {A : Nat → Prop} {b : Nat} {xs : Nat → Int32} {a : Nat → Nat} {H : Heap} {locs : List Loc} {ls : Array Slot} (C : xC p l s m #[Value.ref b] meth c code 7 "TwinindexLaw" (Cond.initialized "TwinindexLaw" :: XG) G cy sa sv A) (hr : meth.sig.returnType = ret) (hX : va_X b 5 xs s s.heap) (hbl : b < s.heap.size) (hbA : ¬ A b) (hAl : ∀ q, A q → s.heap.size ≤ q) (w : xW G A s (xW0 cy sv a) H locs) (hl : lv_has ls 7 [(4, .int 0), (3, .ref (a 39)), (2, .ref (a 31)), (1, .ref (a 0)), (0, .ref b)]) (hk : ((xs 0) &&& 63) = 61) : W p l e room_1 s m #[Value.ref b] below meth c H locs 40 1536 (lw_Z below #[Value.ref b] s) (F0 m 27 ls []) := by
  have w : xW G A s [((a 0), .inr (8, [.ref (a 1), .ref (a 6), .ref (a 8), .ref (a 15), .ref (a 20), .int 0, .ref (a 24), .ref (a 26)])), ((a 1), .inr (7, [.ref (a 2), .ref (a 4)])), ((a 2), .inr (6, [.ref (a 3), .int 0])), ((a 3), .inl (cy 1, 24, .inl (fun _ => 0))), ((a 4), .inr (6, [.ref (a 5), .int 0])), ((a 5), .inl (cy 1, 24, .inl (fun _ => 0))), ((a 6), .inr (6, [.ref (a 7), .int 0])), ((a 7), .inl (cy 1, 24, .inl (fun _ => 0))), ((a 8), .inr (5, [.ref (a 9), .ref (a 11), .ref (a 13), .int 0])), ((a 9), .inr (6, [.ref (a 10), .int 0])), ((a 10), .inl (cy 1, 624, .inl (fun _ => 0))), ((a 11), .inr (6, [.ref (a 12), .int 0])), ((a 12), .inl (cy 1, 624, .inl (fun _ => 0))), ((a 13), .inr (6, [.ref (a 14), .int 0])), ((a 14), .inl (cy 1, 12, .inl (fun _ => 0))), ((a 15), .inr (7, [.ref (a 16), .ref (a 18)])), ((a 16), .inr (6, [.ref (a 17), .int 0])), ((a 17), .inl (cy 1, 24, .inl (fun _ => 0))), ((a 18), .inr (6, [.ref (a 19), .int 0])), ((a 19), .inl (cy 1, 24, .inl (fun _ => 0))), ((a 20), .inl (cy 3, 3, .inr (.inr (.inr (.inr (va_up (va_up (va_up (fun _ => none) 0 (some (a 21))) 1 (some (a 22))) 2 (some (a 23)))))))), ((a 21), .inr (4, [.int 0, .int 0, .int 0])), ((a 22), .inr (4, [.int 0, .int 0, .int 0])), ((a 23), .inr (4, [.int 0, .int 0, .int 0])), ((a 24), .inr (6, [.ref (a 25), .int 0])), ((a 25), .inl (cy 1, 24, .inl (fun _ => 0))), ((a 26), .inr (7, [.ref (a 27), .ref (a 29)])), ((a 27), .inr (6, [.ref (a 28), .int 0])), ((a 28), .inl (cy 1, 24, .inl (fun _ => 0))), ((a 29), .inr (6, [.ref (a 30), .int 0])), ((a 30), .inl (cy 1, 24, .inl (fun _ => 0))), ((a 31), .inr (10, [.ref (a 32), .ref (a 33), .ref (a 34), .ref (a 35), .ref (a 36), .ref (a 37), .ref (a 38), .int 0, .int 0])), ((a 32), .inr (3, [.int 0, .ref (sv 0), .int 0])), ((a 33), .inr (3, [.int 0, .ref (sv 0), .int 0])), ((a 34), .inr (3, [.int 0, .ref (sv 0), .int 0])), ((a 35), .inr (3, [.int 0, .ref (sv 0), .int 0])), ((a 36), .inl (cy 2, 3, .inl (fun _ => 0))), ((a 37), .inl (cy 1, 3, .inl (fun _ => 0))), ((a 38), .inl (cy 1, 3, .inl (fun _ => 0))), ((a 39), .inr (9, [.long 0, .null]))] H _ := w
  refine lv_iload C.1 C.2.1 dL_law_27 (lv_at hl 0 rfl) ?_
  refine lv_aload_n C.1 C.2.1 dL_law_29 rfl (lv_at hl 4 rfl) ?_
  refine va_slen C.1 C.2.1 hX hbl hbA w.2.2 dL_law_30 ?_
  refine x_is (y := 5) (by decide) ?_
  refine lv_iconst (v := 5) C.1 C.2.1 dL_law_31 (by decide) ?_
  refine lv_isub C.1 C.2.1 dL_law_32 ?_
  refine x_is (y := 0) (by decide) ?_
  refine lv_icmp_gt (tgt := 2515) C.1 C.2.1 dL_law_33 (by decide) (fun c9 => absurd c9 (by decide)) (fun _ => ?_)
  refine lv_aload_n C.1 C.2.1 dL_law_36 rfl (lv_at hl 4 rfl) ?_
  refine lv_iload C.1 C.2.1 dL_law_37 (lv_at hl 0 rfl) ?_
  refine va_sld C.1 C.2.1 hX hbl hbA w.2.2 (xvin (by decide)) dL_law_39 ?_
  refine x_is (y := (xs 0)) (by rfl) ?_
  refine lv_bipush (v := 63) C.1 C.2.1 dL_law_40 (by decide) ?_
  refine lv_iand C.1 C.2.1 dL_law_42 ?_
  refine x_is (y := 61) hk ?_
  refine lv_tableOut (tgt := 2509) C.1 C.2.1 dL_law_43 (by decide) (by decide) ?_
  refine lv_iinc (v := 5) (lv' := [(4, .int 5), (3, .ref (a 39)), (2, .ref (a 31)), (1, .ref (a 0)), (0, .ref b)]) C.1 C.2.1 dL_law_2509 hl (k := 0) rfl (by decide) (by decide) rfl (fun ls hl => ?_)
  refine lv_goto (tgt := 27) C.1 C.2.1 dL_law_2512 (by decide) ?_
  refine lv_iload C.1 C.2.1 dL_law_27 (lv_at hl 0 rfl) ?_
  refine lv_aload_n C.1 C.2.1 dL_law_29 rfl (lv_at hl 4 rfl) ?_
  refine va_slen C.1 C.2.1 hX hbl hbA w.2.2 dL_law_30 ?_
  refine x_is (y := 5) (by decide) ?_
  refine lv_iconst (v := 5) C.1 C.2.1 dL_law_31 (by decide) ?_
  refine lv_isub C.1 C.2.1 dL_law_32 ?_
  refine x_is (y := 0) (by decide) ?_
  refine lv_icmp_gt (tgt := 2515) C.1 C.2.1 dL_law_33 (by decide) (fun _ => ?_) (fun c9 => absurd (by decide) c9)
  refine lv_iconst (v := 1) C.1 C.2.1 dL_law_2515 (by decide) ?_
  refine va_forget (fun q hq => hAl _ (w.2.2.2.2 q hq)) ?_
  refine W.widen (k := 600002) (n := 7302232) (Nat.le_of_ble_eq_true rfl) (Nat.le_of_ble_eq_true rfl) ?_
  exact lw_ret C.1 C.2.1 hr (xlk C) dL_law_2516
set_option maxHeartbeats 8000000 in
set_option maxRecDepth 100000 in
theorem law_62_152 {p : Program} {e : Env} {s : State} {m : MethodId} {below : List Frame} {meth : Method} {c : Code} {l : Launch} {G : va_G} {cy : Nat → ClassId} {sa : String → Nat → Nat} {sv : Nat → Nat} {A : Nat → Prop} {b : Nat} {xs : Nat → Int32} {a : Nat → Nat} {H : Heap} {locs : List Loc} {ls : Array Slot} (C : xC p l s m #[Value.ref b] meth c code 7 "TwinindexLaw" (Cond.initialized "TwinindexLaw" :: XG) G cy sa sv A) (hr : meth.sig.returnType = ret) (hX : va_X b 5 xs s s.heap) (hbl : b < s.heap.size) (hbA : ¬ A b) (hAl : ∀ q, A q → s.heap.size ≤ q) (w : xW G A s (xW0 cy sv a) H locs) (hl : lv_has ls 7 [(4, .int 0), (3, .ref (a 39)), (2, .ref (a 31)), (1, .ref (a 0)), (0, .ref b)]) (hk : ((xs 0) &&& 63) = 62) : W p l e room_1 s m #[Value.ref b] below meth c H locs 40 1536 (lw_Z below #[Value.ref b] s) (F0 m 27 ls []) := by
  have w : xW G A s [((a 0), .inr (8, [.ref (a 1), .ref (a 6), .ref (a 8), .ref (a 15), .ref (a 20), .int 0, .ref (a 24), .ref (a 26)])), ((a 1), .inr (7, [.ref (a 2), .ref (a 4)])), ((a 2), .inr (6, [.ref (a 3), .int 0])), ((a 3), .inl (cy 1, 24, .inl (fun _ => 0))), ((a 4), .inr (6, [.ref (a 5), .int 0])), ((a 5), .inl (cy 1, 24, .inl (fun _ => 0))), ((a 6), .inr (6, [.ref (a 7), .int 0])), ((a 7), .inl (cy 1, 24, .inl (fun _ => 0))), ((a 8), .inr (5, [.ref (a 9), .ref (a 11), .ref (a 13), .int 0])), ((a 9), .inr (6, [.ref (a 10), .int 0])), ((a 10), .inl (cy 1, 624, .inl (fun _ => 0))), ((a 11), .inr (6, [.ref (a 12), .int 0])), ((a 12), .inl (cy 1, 624, .inl (fun _ => 0))), ((a 13), .inr (6, [.ref (a 14), .int 0])), ((a 14), .inl (cy 1, 12, .inl (fun _ => 0))), ((a 15), .inr (7, [.ref (a 16), .ref (a 18)])), ((a 16), .inr (6, [.ref (a 17), .int 0])), ((a 17), .inl (cy 1, 24, .inl (fun _ => 0))), ((a 18), .inr (6, [.ref (a 19), .int 0])), ((a 19), .inl (cy 1, 24, .inl (fun _ => 0))), ((a 20), .inl (cy 3, 3, .inr (.inr (.inr (.inr (va_up (va_up (va_up (fun _ => none) 0 (some (a 21))) 1 (some (a 22))) 2 (some (a 23)))))))), ((a 21), .inr (4, [.int 0, .int 0, .int 0])), ((a 22), .inr (4, [.int 0, .int 0, .int 0])), ((a 23), .inr (4, [.int 0, .int 0, .int 0])), ((a 24), .inr (6, [.ref (a 25), .int 0])), ((a 25), .inl (cy 1, 24, .inl (fun _ => 0))), ((a 26), .inr (7, [.ref (a 27), .ref (a 29)])), ((a 27), .inr (6, [.ref (a 28), .int 0])), ((a 28), .inl (cy 1, 24, .inl (fun _ => 0))), ((a 29), .inr (6, [.ref (a 30), .int 0])), ((a 30), .inl (cy 1, 24, .inl (fun _ => 0))), ((a 31), .inr (10, [.ref (a 32), .ref (a 33), .ref (a 34), .ref (a 35), .ref (a 36), .ref (a 37), .ref (a 38), .int 0, .int 0])), ((a 32), .inr (3, [.int 0, .ref (sv 0), .int 0])), ((a 33), .inr (3, [.int 0, .ref (sv 0), .int 0])), ((a 34), .inr (3, [.int 0, .ref (sv 0), .int 0])), ((a 35), .inr (3, [.int 0, .ref (sv 0), .int 0])), ((a 36), .inl (cy 2, 3, .inl (fun _ => 0))), ((a 37), .inl (cy 1, 3, .inl (fun _ => 0))), ((a 38), .inl (cy 1, 3, .inl (fun _ => 0))), ((a 39), .inr (9, [.long 0, .null]))] H _ := w
  refine lv_iload C.1 C.2.1 dL_law_27 (lv_at hl 0 rfl) ?_
  refine lv_aload_n C.1 C.2.1 dL_law_29 rfl (lv_at hl 4 rfl) ?_
  refine va_slen C.1 C.2.1 hX hbl hbA w.2.2 dL_law_30 ?_
  refine x_is (y := 5) (by decide) ?_
  refine lv_iconst (v := 5) C.1 C.2.1 dL_law_31 (by decide) ?_
  refine lv_isub C.1 C.2.1 dL_law_32 ?_
  refine x_is (y := 0) (by decide) ?_
  refine lv_icmp_gt (tgt := 2515) C.1 C.2.1 dL_law_33 (by decide) (fun c9 => absurd c9 (by decide)) (fun _ => ?_)
  refine lv_aload_n C.1 C.2.1 dL_law_36 rfl (lv_at hl 4 rfl) ?_
  refine lv_iload C.1 C.2.1 dL_law_37 (lv_at hl 0 rfl) ?_
  refine va_sld C.1 C.2.1 hX hbl hbA w.2.2 (xvin (by decide)) dL_law_39 ?_
  refine x_is (y := (xs 0)) (by rfl) ?_
  refine lv_bipush (v := 63) C.1 C.2.1 dL_law_40 (by decide) ?_
  refine lv_iand C.1 C.2.1 dL_law_42 ?_
  refine x_is (y := 62) hk ?_
  refine lv_tableOut (tgt := 2509) C.1 C.2.1 dL_law_43 (by decide) (by decide) ?_
  refine lv_iinc (v := 5) (lv' := [(4, .int 5), (3, .ref (a 39)), (2, .ref (a 31)), (1, .ref (a 0)), (0, .ref b)]) C.1 C.2.1 dL_law_2509 hl (k := 0) rfl (by decide) (by decide) rfl (fun ls hl => ?_)
  refine lv_goto (tgt := 27) C.1 C.2.1 dL_law_2512 (by decide) ?_
  refine lv_iload C.1 C.2.1 dL_law_27 (lv_at hl 0 rfl) ?_
  refine lv_aload_n C.1 C.2.1 dL_law_29 rfl (lv_at hl 4 rfl) ?_
  refine va_slen C.1 C.2.1 hX hbl hbA w.2.2 dL_law_30 ?_
  refine x_is (y := 5) (by decide) ?_
  refine lv_iconst (v := 5) C.1 C.2.1 dL_law_31 (by decide) ?_
  refine lv_isub C.1 C.2.1 dL_law_32 ?_
  refine x_is (y := 0) (by decide) ?_
  refine lv_icmp_gt (tgt := 2515) C.1 C.2.1 dL_law_33 (by decide) (fun _ => ?_) (fun c9 => absurd (by decide) c9)
  refine lv_iconst (v := 1) C.1 C.2.1 dL_law_2515 (by decide) ?_
  refine va_forget (fun q hq => hAl _ (w.2.2.2.2 q hq)) ?_
  refine W.widen (k := 600002) (n := 7302232) (Nat.le_of_ble_eq_true rfl) (Nat.le_of_ble_eq_true rfl) ?_
  exact lw_ret C.1 C.2.1 hr (xlk C) dL_law_2516
set_option maxHeartbeats 8000000 in
set_option maxRecDepth 100000 in
theorem law_63_153 {p : Program} {e : Env} {s : State} {m : MethodId} {below : List Frame} {meth : Method} {c : Code} {l : Launch} {G : va_G} {cy : Nat → ClassId} {sa : String → Nat → Nat} {sv : Nat → Nat} {A : Nat → Prop} {b : Nat} {xs : Nat → Int32} {a : Nat → Nat} {H : Heap} {locs : List Loc} {ls : Array Slot} (C : xC p l s m #[Value.ref b] meth c code 7 "TwinindexLaw" (Cond.initialized "TwinindexLaw" :: XG) G cy sa sv A) (hr : meth.sig.returnType = ret) (hX : va_X b 5 xs s s.heap) (hbl : b < s.heap.size) (hbA : ¬ A b) (hAl : ∀ q, A q → s.heap.size ≤ q) (w : xW G A s (xW0 cy sv a) H locs) (hl : lv_has ls 7 [(4, .int 0), (3, .ref (a 39)), (2, .ref (a 31)), (1, .ref (a 0)), (0, .ref b)]) (hk : ((xs 0) &&& 63) = 63) : W p l e room_1 s m #[Value.ref b] below meth c H locs 40 1536 (lw_Z below #[Value.ref b] s) (F0 m 27 ls []) := by
  have w : xW G A s [((a 0), .inr (8, [.ref (a 1), .ref (a 6), .ref (a 8), .ref (a 15), .ref (a 20), .int 0, .ref (a 24), .ref (a 26)])), ((a 1), .inr (7, [.ref (a 2), .ref (a 4)])), ((a 2), .inr (6, [.ref (a 3), .int 0])), ((a 3), .inl (cy 1, 24, .inl (fun _ => 0))), ((a 4), .inr (6, [.ref (a 5), .int 0])), ((a 5), .inl (cy 1, 24, .inl (fun _ => 0))), ((a 6), .inr (6, [.ref (a 7), .int 0])), ((a 7), .inl (cy 1, 24, .inl (fun _ => 0))), ((a 8), .inr (5, [.ref (a 9), .ref (a 11), .ref (a 13), .int 0])), ((a 9), .inr (6, [.ref (a 10), .int 0])), ((a 10), .inl (cy 1, 624, .inl (fun _ => 0))), ((a 11), .inr (6, [.ref (a 12), .int 0])), ((a 12), .inl (cy 1, 624, .inl (fun _ => 0))), ((a 13), .inr (6, [.ref (a 14), .int 0])), ((a 14), .inl (cy 1, 12, .inl (fun _ => 0))), ((a 15), .inr (7, [.ref (a 16), .ref (a 18)])), ((a 16), .inr (6, [.ref (a 17), .int 0])), ((a 17), .inl (cy 1, 24, .inl (fun _ => 0))), ((a 18), .inr (6, [.ref (a 19), .int 0])), ((a 19), .inl (cy 1, 24, .inl (fun _ => 0))), ((a 20), .inl (cy 3, 3, .inr (.inr (.inr (.inr (va_up (va_up (va_up (fun _ => none) 0 (some (a 21))) 1 (some (a 22))) 2 (some (a 23)))))))), ((a 21), .inr (4, [.int 0, .int 0, .int 0])), ((a 22), .inr (4, [.int 0, .int 0, .int 0])), ((a 23), .inr (4, [.int 0, .int 0, .int 0])), ((a 24), .inr (6, [.ref (a 25), .int 0])), ((a 25), .inl (cy 1, 24, .inl (fun _ => 0))), ((a 26), .inr (7, [.ref (a 27), .ref (a 29)])), ((a 27), .inr (6, [.ref (a 28), .int 0])), ((a 28), .inl (cy 1, 24, .inl (fun _ => 0))), ((a 29), .inr (6, [.ref (a 30), .int 0])), ((a 30), .inl (cy 1, 24, .inl (fun _ => 0))), ((a 31), .inr (10, [.ref (a 32), .ref (a 33), .ref (a 34), .ref (a 35), .ref (a 36), .ref (a 37), .ref (a 38), .int 0, .int 0])), ((a 32), .inr (3, [.int 0, .ref (sv 0), .int 0])), ((a 33), .inr (3, [.int 0, .ref (sv 0), .int 0])), ((a 34), .inr (3, [.int 0, .ref (sv 0), .int 0])), ((a 35), .inr (3, [.int 0, .ref (sv 0), .int 0])), ((a 36), .inl (cy 2, 3, .inl (fun _ => 0))), ((a 37), .inl (cy 1, 3, .inl (fun _ => 0))), ((a 38), .inl (cy 1, 3, .inl (fun _ => 0))), ((a 39), .inr (9, [.long 0, .null]))] H _ := w
  refine lv_iload C.1 C.2.1 dL_law_27 (lv_at hl 0 rfl) ?_
  refine lv_aload_n C.1 C.2.1 dL_law_29 rfl (lv_at hl 4 rfl) ?_
  refine va_slen C.1 C.2.1 hX hbl hbA w.2.2 dL_law_30 ?_
  refine x_is (y := 5) (by decide) ?_
  refine lv_iconst (v := 5) C.1 C.2.1 dL_law_31 (by decide) ?_
  refine lv_isub C.1 C.2.1 dL_law_32 ?_
  refine x_is (y := 0) (by decide) ?_
  refine lv_icmp_gt (tgt := 2515) C.1 C.2.1 dL_law_33 (by decide) (fun c9 => absurd c9 (by decide)) (fun _ => ?_)
  refine lv_aload_n C.1 C.2.1 dL_law_36 rfl (lv_at hl 4 rfl) ?_
  refine lv_iload C.1 C.2.1 dL_law_37 (lv_at hl 0 rfl) ?_
  refine va_sld C.1 C.2.1 hX hbl hbA w.2.2 (xvin (by decide)) dL_law_39 ?_
  refine x_is (y := (xs 0)) (by rfl) ?_
  refine lv_bipush (v := 63) C.1 C.2.1 dL_law_40 (by decide) ?_
  refine lv_iand C.1 C.2.1 dL_law_42 ?_
  refine x_is (y := 63) hk ?_
  refine lv_tableOut (tgt := 2509) C.1 C.2.1 dL_law_43 (by decide) (by decide) ?_
  refine lv_iinc (v := 5) (lv' := [(4, .int 5), (3, .ref (a 39)), (2, .ref (a 31)), (1, .ref (a 0)), (0, .ref b)]) C.1 C.2.1 dL_law_2509 hl (k := 0) rfl (by decide) (by decide) rfl (fun ls hl => ?_)
  refine lv_goto (tgt := 27) C.1 C.2.1 dL_law_2512 (by decide) ?_
  refine lv_iload C.1 C.2.1 dL_law_27 (lv_at hl 0 rfl) ?_
  refine lv_aload_n C.1 C.2.1 dL_law_29 rfl (lv_at hl 4 rfl) ?_
  refine va_slen C.1 C.2.1 hX hbl hbA w.2.2 dL_law_30 ?_
  refine x_is (y := 5) (by decide) ?_
  refine lv_iconst (v := 5) C.1 C.2.1 dL_law_31 (by decide) ?_
  refine lv_isub C.1 C.2.1 dL_law_32 ?_
  refine x_is (y := 0) (by decide) ?_
  refine lv_icmp_gt (tgt := 2515) C.1 C.2.1 dL_law_33 (by decide) (fun _ => ?_) (fun c9 => absurd (by decide) c9)
  refine lv_iconst (v := 1) C.1 C.2.1 dL_law_2515 (by decide) ?_
  refine va_forget (fun q hq => hAl _ (w.2.2.2.2 q hq)) ?_
  refine W.widen (k := 600002) (n := 7302232) (Nat.le_of_ble_eq_true rfl) (Nat.le_of_ble_eq_true rfl) ?_
  exact lw_ret C.1 C.2.1 hr (xlk C) dL_law_2516
