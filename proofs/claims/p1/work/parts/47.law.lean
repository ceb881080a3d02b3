set_option maxHeartbeats 8000000 in
set_option maxRecDepth 100000 in
theorem law_24_60 {p : Program} {e : Env} {s : State} {m : MethodId} {below : List Frame} {meth : Method} {c : Code} {l : Launch} {G : va_G} {cy : Nat → ClassId} {sa : String → Nat → Nat} {sv : Nat → Nat} {A : Nat → Prop} {b : Nat} {xs : Nat → Int32} {a : Nat → Nat} {H : Heap} {locs : List Loc} {ls : Array Slot} (C : xC p l s m #[Value.ref b] meth c code 7 "TwinindexLaw" (Cond.initialized "TwinindexLaw" :: XG) G cy sa sv A) (hr : meth.sig.returnType = ret) (hX : va_X b 5 xs s s.heap) (hbl : b < s.heap.size) (hbA : ¬ A b) (hAl : ∀ q, A q → s.heap.size ≤ q) (w : xW G A s (xW0 cy sv a) H locs) (hl : lv_has ls 7 [(4, .int 0), (3, .ref (a 39)), (2, .ref (a 31)), (1, .ref (a 0)), (0, .ref b)]) (hk : ((xs 0) &&& 63) = 24) (p0 : ¬ (xs 4) < (-999)) (p1 : (xs 4) ≤ 999) (p2 : (xs 3) < (xs 1)) : W p l e room_1 s m #[Value.ref b] below meth c H locs 40 1536 (lw_Z below #[Value.ref b] s) (F0 m 27 ls []) := by
  have w : xW G A s [((a 0), .inr (8, [.ref (a 1), .ref (a 6), .ref (a 8), .ref (a 15), .ref (a 20), .int 0, .ref (a 24), .ref (a 26)])), ((a 1), .inr (7, [.ref (a 2), .ref (a 4)])), ((a 2), .inr (6, [.ref (a 3), .int 0])), ((a 3), .inl (cy 1, 24, .inl (fun _ => 0))), ((a 4), .inr (6, [.ref (a 5), .int 0])), ((a 5), .inl (cy 1, 24, .inl (fun _ => 0))), ((a 6), .inr (6, [.ref (a 7), .int 0])), ((a 7), .inl (cy 1, 24, .inl (fun _ => 0))), ((a 8), .inr (5, [.ref (a 9), .ref (a 11), .ref (a 13), .int 0])), ((a 9), .inr (6, [.ref (a 10), .int 0])), ((a 10), .inl (cy 1, 624, .inl (fun _ => 0))), ((a 11), .inr (6, [.ref (a 12), .int 0])), ((a 12), .inl (cy 1, 624, .inl (fun _ => 0))), ((a 13), .inr (6, [.ref (a 14), .int 0])), ((a 14), .inl (cy 1, 12, .inl (fun _ => 0))), ((a 15), .inr (7, [.ref (a 16), .ref (a 18)])), ((a 16), .inr (6, [.ref (a 17), .int 0])), ((a 17), .inl (cy 1, 24, .inl (fun _ => 0))), ((a 18), .inr (6, [.ref (a 19), .int 0])), ((a 19), .inl (cy 1, 24, .inl (fun _ => 0))), ((a 20), .inl (cy 3, 3, .inr (.inr (.inr (.inr (va_up (va_up (va_up (fun _ => none) 0 (some (a 21))) 1 (some (a 22))) 2 (some (a 23)))))))), ((a 21), .inr (4, [.int 0, .int 0, .int 0])), ((a 22), .inr (4, [.int 0, .int 0, .int 0])), ((a 23), .inr (4, [.int 0, .int 0, .int 0])), ((a 24), .inr (6, [.ref (a 25), .int 0])), ((a 25), .inl (cy 1, 24, .inl (fun _ => 0))), ((a 26), .inr (7, [.ref (a 27), .ref (a 29)])), ((a 27), .inr (6, [.ref (a 28), .int 0])), ((a 28), .inl (cy 1, 24, .inl (fun _ => 0))), ((a 29), .inr (6, [.ref (a 30), .int 0])), ((a 30), .inl (cy 1, 24, .inl (fun _ => 0))), ((a 31), .inr (10, [.ref (a 32), .ref (a 33), .ref (a 34), .ref (a 35), .ref (a 36), .ref (a 37), .ref (a 38), .int 0, .int 0])), ((a 32), .inr (3, [.int 0, .ref (sv 0), .int 0])), ((a 33), .inr (3, [.int 0, .ref (sv 0), .int 0])), ((a 34), .inr (3, [.int 0, .ref (sv 0), .int 0])), ((a 35), .inr (3, [.int 0, .ref (sv 0), .int 0])), ((a 36), .inl (cy 2, 3, .inl (fun _ => 0))), ((a 37), .inl (cy 1, 3, .inl (fun _ => 0))), ((a 38), .inl (cy 1, 3, .inl (fun _ => 0))), ((a 39), .inr (9, [.long 0, .null]))] H _ := w
  refine lv_iload C.1 C.2.1 dL_law_27 (lv_at hl 0 rfl) ?_
  refine lv_aload_n C.1 C.2.1 dL_law_29 rfl (lv_at hl 4 rfl) ?_
  refine va_slen C.1 C.2.1 hX hbl hbA w.2.2 dL_law_30 ?_
  refine x_is (y := 5) (by decide) ?_
  refine lv_iconst (v := 5) C.1 C.2.1 dL_law_31 (by decide) ?_
  refine lv_isub C.1 C.2.1 dL_law_32 ?_
  refine x_is (y := 0) (by decide) ?_
  refine lv_icmp_gt (tgt := 2515) C.1 C.2.1 dL_law_33 (by decide) (fun c9 => absurd c9 (by decide)) (fun _ => ?_)
  refine lv_aload_n C.1 C.2.1 dL_law_36 rfl (lv_at hl 4 rfl) ?_
  refine lv_iload C.1 C.2.1 dL_law_37 (lv_at hl 0 rfl) ?_
  refine va_sld C.1 C.2.1 hX hbl hbA w.2.2 (xvin (by decide)) dL_law_39 ?_
  refine x_is (y := (xs 0)) (by rfl) ?_
  refine lv_bipush (v := 63) C.1 C.2.1 dL_law_40 (by decide) ?_
  refine lv_iand C.1 C.2.1 dL_law_42 ?_
  refine x_is (y := 24) hk ?_
  refine lv_tableIn (off := 1333) (tgt := 1376) C.1 C.2.1 dL_law_43 (by decide) (by decide) (by decide) (by decide) ?_
  refine lv_aload_n C.1 C.2.1 dL_law_1376 rfl (lv_at hl 3 rfl) ?_
  refine lv_aload_n C.1 C.2.1 dL_law_1377 rfl (lv_at hl 4 rfl) ?_
  refine lv_iload C.1 C.2.1 dL_law_1378 (lv_at hl 0 rfl) ?_
  refine lv_iconst (v := 1) C.1 C.2.1 dL_law_1380 (by decide) ?_
  refine lv_iadd C.1 C.2.1 dL_law_1381 ?_
  refine x_is (y := 1) (by decide) ?_
  refine va_sld C.1 C.2.1 hX hbl hbA w.2.2 (xvin (by decide)) dL_law_1382 ?_
  refine x_is (y := (xs 1)) (by rfl) ?_
  refine lv_aload_n C.1 C.2.1 dL_law_1383 rfl (lv_at hl 4 rfl) ?_
  refine lv_iload C.1 C.2.1 dL_law_1384 (lv_at hl 0 rfl) ?_
  refine lv_iconst (v := 2) C.1 C.2.1 dL_law_1386 (by decide) ?_
  refine lv_iadd C.1 C.2.1 dL_law_1387 ?_
  refine x_is (y := 2) (by decide) ?_
  refine va_sld C.1 C.2.1 hX hbl hbA w.2.2 (xvin (by decide)) dL_law_1388 ?_
  refine x_is (y := (xs 2)) (by rfl) ?_
  refine lv_aload_n C.1 C.2.1 dL_law_1389 rfl (lv_at hl 4 rfl) ?_
  refine lv_iload C.1 C.2.1 dL_law_1390 (lv_at hl 0 rfl) ?_
  refine lv_iconst (v := 3) C.1 C.2.1 dL_law_1392 (by decide) ?_
  refine lv_iadd C.1 C.2.1 dL_law_1393 ?_
  refine x_is (y := 3) (by decide) ?_
  refine va_sld C.1 C.2.1 hX hbl hbA w.2.2 (xvin (by decide)) dL_law_1394 ?_
  refine x_is (y := (xs 3)) (by rfl) ?_
  refine lv_aload_n C.1 C.2.1 dL_law_1395 rfl (lv_at hl 4 rfl) ?_
  refine lv_iload C.1 C.2.1 dL_law_1396 (lv_at hl 0 rfl) ?_
  refine lv_iconst (v := 4) C.1 C.2.1 dL_law_1398 (by decide) ?_
  refine lv_iadd C.1 C.2.1 dL_law_1399 ?_
  refine x_is (y := 4) (by decide) ?_
  refine va_sld C.1 C.2.1 hX hbl hbA w.2.2 (xvin (by decide)) dL_law_1400 ?_
  refine x_is (y := (xs 4)) (by rfl) ?_
  refine lv_aload_n C.1 C.2.1 dL_law_1401 rfl (lv_at hl 1 rfl) ?_
  refine x_ki C w [0, 1, 2, 39] [3, 4, 5, 6, 7, 8, 9, 10, 11, 12, 13, 14, 15, 16, 17, 18, 19, 20, 21, 22, 23, 24, 25, 26, 27, 28, 29, 30, 31, 32, 33, 34, 35, 36, 37, 38] rfl rfl (by decide) (by decide) (vx_runSW (As := [.ref (a 0), .int (xs 1), .int (xs 2), .int (xs 3), .int (xs 4), .ref (a 39)]) (rest := []) (xfix C) (c358_L_rangePut l G cy sa sv (a 0) (a 39) (a 1) (a 2) (a 6) (a 8) (a 15) (a 20) (a 24) (a 26) (a 4) (a 3) (xs 1) (xs 2) (xs 3) (xs 4) p0 p1 p2 (xtr C) _) (vx_cwSW 6 (xhts C) (xgS gw_698 gw_699 gw_106 gc_L_rangePut) rfl rfl rfl (by decide +kernel) ⟨(Nat.le_of_ble_eq_true rfl), (Nat.le_of_ble_eq_true rfl)⟩) (xPS C w [0, 1, 2, 39] rfl (by decide)) rfl rfl hl.1 rfl (lv_room (Nat.le_of_ble_eq_true rfl)) dL_law_1402 ⟨(Nat.le_of_ble_eq_true rfl), (Nat.le_of_ble_eq_true rfl)⟩) (fun f2083 H locs w => ?_)
  have w : xW G A s [((a 3), .inl (cy 1, 24, .inl (fun _ => 0))), ((a 4), .inr (6, [.ref (a 5), .int 0])), ((a 5), .inl (cy 1, 24, .inl (fun _ => 0))), ((a 6), .inr (6, [.ref (a 7), .int 0])), ((a 7), .inl (cy 1, 24, .inl (fun _ => 0))), ((a 8), .inr (5, [.ref (a 9), .ref (a 11), .ref (a 13), .int 0])), ((a 9), .inr (6, [.ref (a 10), .int 0])), ((a 10), .inl (cy 1, 624, .inl (fun _ => 0))), ((a 11), .inr (6, [.ref (a 12), .int 0])), ((a 12), .inl (cy 1, 624, .inl (fun _ => 0))), ((a 13), .inr (6, [.ref (a 14), .int 0])), ((a 14), .inl (cy 1, 12, .inl (fun _ => 0))), ((a 15), .inr (7, [.ref (a 16), .ref (a 18)])), ((a 16), .inr (6, [.ref (a 17), .int 0])), ((a 17), .inl (cy 1, 24, .inl (fun _ => 0))), ((a 18), .inr (6, [.ref (a 19), .int 0])), ((a 19), .inl (cy 1, 24, .inl (fun _ => 0))), ((a 20), .inl (cy 3, 3, .inr (.inr (.inr (.inr (va_up (va_up (va_up (fun _ => none) 0 (some (a 21))) 1 (some (a 22))) 2 (some (a 23)))))))), ((a 21), .inr (4, [.int 0, .int 0, .int 0])), ((a 22), .inr (4, [.int 0, .int 0, .int 0])), ((a 23), .inr (4, [.int 0, .int 0, .int 0])), ((a 24), .inr (6, [.ref (a 25), .int 0])), ((a 25), .inl (cy 1, 24, .inl (fun _ => 0))), ((a 26), .inr (7, [.ref (a 27), .ref (a 29)])), ((a 27), .inr (6, [.ref (a 28), .int 0])), ((a 28), .inl (cy 1, 24, .inl (fun _ => 0))), ((a 29), .inr (6, [.ref (a 30), .int 0])), ((a 30), .inl (cy 1, 24, .inl (fun _ => 0))), ((a 31), .inr (10, [.ref (a 32), .ref (a 33), .ref (a 34), .ref (a 35), .ref (a 36), .ref (a 37), .ref (a 38), .int 0, .int 0])), ((a 32), .inr (3, [.int 0, .ref (sv 0), .int 0])), ((a 33), .inr (3, [.int 0, .ref (sv 0), .int 0])), ((a 34), .inr (3, [.int 0, .ref (sv 0), .int 0])), ((a 35), .inr (3, [.int 0, .ref (sv 0), .int 0])), ((a 36), .inl (cy 2, 3, .inl (fun _ => 0))), ((a 37), .inl (cy 1, 3, .inl (fun _ => 0))), ((a 38), .inl (cy 1, 3, .inl (fun _ => 0))), ((a 0), .inr (8, [.ref (a 1), .ref (a 6), .ref (a 8), .ref (a 15), .ref (a 20), .int 0, .ref (a 24), .ref (a 26)])), ((a 1), .inr (7, [.ref (a 2), .ref (a 4)])), ((a 2), .inr (6, [.ref (a 3), .int 0])), ((a 39), .inr (9, [.long (-9999), .null]))] H _ := w
  refine lv_istore (lv' := [(5, .int 0), (4, .int 0), (3, .ref (a 39)), (2, .ref (a 31)), (1, .ref (a 0)), (0, .ref b)]) C.1 C.2.1 dL_law_1405 hl (by decide) rfl (fun ls hl => ?_)
  refine lv_aload_n C.1 C.2.1 dL_law_1407 rfl (lv_at hl 3 rfl) ?_
  refine lv_aload_n C.1 C.2.1 dL_law_1408 rfl (lv_at hl 5 rfl) ?_
  refine lv_iload C.1 C.2.1 dL_law_1409 (lv_at hl 1 rfl) ?_
  refine lv_iconst (v := 1) C.1 C.2.1 dL_law_1411 (by decide) ?_
  refine lv_iadd C.1 C.2.1 dL_law_1412 ?_
  refine x_is (y := 1) (by decide) ?_
  refine va_sld C.1 C.2.1 hX hbl hbA w.2.2 (xvin (by decide)) dL_law_1413 ?_
  refine x_is (y := (xs 1)) (by rfl) ?_
  refine lv_aload_n C.1 C.2.1 dL_law_1414 rfl (lv_at hl 5 rfl) ?_
  refine lv_iload C.1 C.2.1 dL_law_1415 (lv_at hl 1 rfl) ?_
  refine lv_iconst (v := 2) C.1 C.2.1 dL_law_1417 (by decide) ?_
  refine lv_iadd C.1 C.2.1 dL_law_1418 ?_
  refine x_is (y := 2) (by decide) ?_
  refine va_sld C.1 C.2.1 hX hbl hbA w.2.2 (xvin (by decide)) dL_law_1419 ?_
  refine x_is (y := (xs 2)) (by rfl) ?_
  refine lv_aload_n C.1 C.2.1 dL_law_1420 rfl (lv_at hl 5 rfl) ?_
  refine lv_iload C.1 C.2.1 dL_law_1421 (lv_at hl 1 rfl) ?_
  refine lv_iconst (v := 3) C.1 C.2.1 dL_law_1423 (by decide) ?_
  refine lv_iadd C.1 C.2.1 dL_law_1424 ?_
  refine x_is (y := 3) (by decide) ?_
  refine va_sld C.1 C.2.1 hX hbl hbA w.2.2 (xvin (by decide)) dL_law_1425 ?_
  refine x_is (y := (xs 3)) (by rfl) ?_
  refine lv_aload_n C.1 C.2.1 dL_law_1426 rfl (lv_at hl 5 rfl) ?_
  refine lv_iload C.1 C.2.1 dL_law_1427 (lv_at hl 1 rfl) ?_
  refine lv_iconst (v := 4) C.1 C.2.1 dL_law_1429 (by decide) ?_
  refine lv_iadd C.1 C.2.1 dL_law_1430 ?_
  refine x_is (y := 4) (by decide) ?_
  refine va_sld C.1 C.2.1 hX hbl hbA w.2.2 (xvin (by decide)) dL_law_1431 ?_
  refine x_is (y := (xs 4)) (by rfl) ?_
  refine x_ki C w [28, 29] [0, 1, 2, 3, 4, 5, 6, 7, 8, 9, 10, 11, 12, 13, 14, 15, 16, 17, 18, 19, 20, 21, 22, 23, 24, 25, 26, 27, 30, 31, 32, 33, 34, 35, 36, 37, 38, 39] rfl rfl (by decide) (by decide) (va_runV (As := [.int (xs 1), .int (xs 2), .int (xs 3), .int (xs 4)]) (rest := []) (xfix C) (c359_X6_rangePut l G cy sa sv (a 31) (a 32) (a 33) (a 34) (a 35) (a 36) (a 37) (a 38) (xs 1) (xs 2) (xs 3) (xs 4) p0 p1 p2 (xtr C) _) (cwV 4 (xhts C) (xgV (maxL := 0) (cc := ⟨#[]⟩) (ret := none) gw_701 gw_702 gw_703 gw_58 gc_X6_rangePut) rfl rfl rfl (by decide +kernel) ⟨(Nat.le_of_ble_eq_true rfl), (Nat.le_of_ble_eq_true rfl)⟩) (xPV C w [28, 29] rfl (by decide) (ci := 10) (q0 := 28) rfl rfl) rfl rfl hl.1 rfl (lv_room (Nat.le_of_ble_eq_true rfl)) dL_law_1432 ⟨(Nat.le_of_ble_eq_true rfl), (Nat.le_of_ble_eq_true rfl)⟩) (fun f2089 H locs w => ?_)
  have w : xW G A s [((a 3), .inl (cy 1, 24, .inl (fun _ => 0))), ((a 4), .inr (6, [.ref (a 5), .int 0])), ((a 5), .inl (cy 1, 24, .inl (fun _ => 0))), ((a 6), .inr (6, [.ref (a 7), .int 0])), ((a 7), .inl (cy 1, 24, .inl (fun _ => 0))), ((a 8), .inr (5, [.ref (a 9), .ref (a 11), .ref (a 13), .int 0])), ((a 9), .inr (6, [.ref (a 10), .int 0])), ((a 10), .inl (cy 1, 624, .inl (fun _ => 0))), ((a 11), .inr (6, [.ref (a 12), .int 0])), ((a 12), .inl (cy 1, 624, .inl (fun _ => 0))), ((a 13), .inr (6, [.ref (a 14), .int 0])), ((a 14), .inl (cy 1, 12, .inl (fun _ => 0))), ((a 15), .inr (7, [.ref (a 16), .ref (a 18)])), ((a 16), .inr (6, [.ref (a 17), .int 0])), ((a 17), .inl (cy 1, 24, .inl (fun _ => 0))), ((a 18), .inr (6, [.ref (a 19), .int 0])), ((a 19), .inl (cy 1, 24, .inl (fun _ => 0))), ((a 20), .inl (cy 3, 3, .inr (.inr (.inr (.inr (va_up (va_up (va_up (fun _ => none) 0 (some (a 21))) 1 (some (a 22))) 2 (some (a 23)))))))), ((a 21), .inr (4, [.int 0, .int 0, .int 0])), ((a 22), .inr (4, [.int 0, .int 0, .int 0])), ((a 23), .inr (4, [.int 0, .int 0, .int 0])), ((a 24), .inr (6, [.ref (a 25), .int 0])), ((a 25), .inl (cy 1, 24, .inl (fun _ => 0))), ((a 26), .inr (7, [.ref (a 27), .ref (a 29)])), ((a 27), .inr (6, [.ref (a 28), .int 0])), ((a 28), .inl (cy 1, 24, .inl (fun _ => 0))), ((a 29), .inr (6, [.ref (a 30), .int 0])), ((a 30), .inl (cy 1, 24, .inl (fun _ => 0))), ((a 33), .inr (3, [.int 0, .ref (sv 0), .int 0])), ((a 34), .inr (3, [.int 0, .ref (sv 0), .int 0])), ((a 35), .inr (3, [.int 0, .ref (sv 0), .int 0])), ((a 36), .inl (cy 2, 3, .inl (fun _ => 0))), ((a 37), .inl (cy 1, 3, .inl (fun _ => 0))), ((a 38), .inl (cy 1, 3, .inl (fun _ => 0))), ((a 0), .inr (8, [.ref (a 1), .ref (a 6), .ref (a 8), .ref (a 15), .ref (a 20), .int 0, .ref (a 24), .ref (a 26)])), ((a 1), .inr (7, [.ref (a 2), .ref (a 4)])), ((a 2), .inr (6, [.ref (a 3), .int 0])), ((a 39), .inr (9, [.long (-9999), .null])), ((a 31), .inr (10, [.ref (a 32), .ref (a 33), .ref (a 34), .ref (a 35), .ref (a 36), .ref (a 37), .ref (a 38), .int 0, .int 0])), ((a 32), .inr (3, [.int 0, .ref (sv 0), .int 0]))] H _ := w
  refine lv_istore (lv' := [(6, .int (-9999)), (5, .int 0), (4, .int 0), (3, .ref (a 39)), (2, .ref (a 31)), (1, .ref (a 0)), (0, .ref b)]) C.1 C.2.1 dL_law_1435 hl (by decide) rfl (fun ls hl => ?_)
  refine lv_aload_n C.1 C.2.1 dL_law_1437 rfl (lv_at hl 4 rfl) ?_
  refine x_ki C w [38] [0, 1, 2, 3, 4, 5, 6, 7, 8, 9, 10, 11, 12, 13, 14, 15, 16, 17, 18, 19, 20, 21, 22, 23, 24, 25, 26, 27, 28, 29, 30, 31, 32, 33, 34, 35, 36, 37, 39] rfl rfl (by decide) (by decide) (va_runV (As := []) (rest := []) (xfix C) (c66_X6_thrown l G cy sa sv (a 31) (a 32) (a 33) (a 34) (a 35) (a 36) (a 37) (a 38) (xtr C) _) (cwV 0 (xhts C) (xgV (maxL := 0) (cc := ⟨#[]⟩) (ret := none) gw_122 gw_123 gw_124 gw_58 gc_X6_thrown) rfl rfl rfl (by decide +kernel) ⟨(Nat.le_of_ble_eq_true rfl), (Nat.le_of_ble_eq_true rfl)⟩) (xPV C w [38] rfl (by decide) (ci := 10) (q0 := 38) rfl rfl) rfl rfl hl.1 rfl (lv_room (Nat.le_of_ble_eq_true rfl)) dL_law_1438 ⟨(Nat.le_of_ble_eq_true rfl), (Nat.le_of_ble_eq_true rfl)⟩) (fun f2090 H locs w => ?_)
  have w : xW G A s [((a 3), .inl (cy 1, 24, .inl (fun _ => 0))), ((a 4), .inr (6, [.ref (a 5), .int 0])), ((a 5), .inl (cy 1, 24, .inl (fun _ => 0))), ((a 6), .inr (6, [.ref (a 7), .int 0])), ((a 7), .inl (cy 1, 24, .inl (fun _ => 0))), ((a 8), .inr (5, [.ref (a 9), .ref (a 11), .ref (a 13), .int 0])), ((a 9), .inr (6, [.ref (a 10), .int 0])), ((a 10), .inl (cy 1, 624, .inl (fun _ => 0))), ((a 11), .inr (6, [.ref (a 12), .int 0])), ((a 12), .inl (cy 1, 624, .inl (fun _ => 0))), ((a 13), .inr (6, [.ref (a 14), .int 0])), ((a 14), .inl (cy 1, 12, .inl (fun _ => 0))), ((a 15), .inr (7, [.ref (a 16), .ref (a 18)])), ((a 16), .inr (6, [.ref (a 17), .int 0])), ((a 17), .inl (cy 1, 24, .inl (fun _ => 0))), ((a 18), .inr (6, [.ref (a 19), .int 0])), ((a 19), .inl (cy 1, 24, .inl (fun _ => 0))), ((a 20), .inl (cy 3, 3, .inr (.inr (.inr (.inr (va_up (va_up (va_up (fun _ => none) 0 (some (a 21))) 1 (some (a 22))) 2 (some (a 23)))))))), ((a 21), .inr (4, [.int 0, .int 0, .int 0])), ((a 22), .inr (4, [.int 0, .int 0, .int 0])), ((a 23), .inr (4, [.int 0, .int 0, .int 0])), ((a 24), .inr (6, [.ref (a 25), .int 0])), ((a 25), .inl (cy 1, 24, .inl (fun _ => 0))), ((a 26), .inr (7, [.ref (a 27), .ref (a 29)])), ((a 27), .inr (6, [.ref (a 28), .int 0])), ((a 28), .inl (cy 1, 24, .inl (fun _ => 0))), ((a 29), .inr (6, [.ref (a 30), .int 0])), ((a 30), .inl (cy 1, 24, .inl (fun _ => 0))), ((a 33), .inr (3, [.int 0, .ref (sv 0), .int 0])), ((a 34), .inr (3, [.int 0, .ref (sv 0), .int 0])), ((a 35), .inr (3, [.int 0, .ref (sv 0), .int 0])), ((a 36), .inl (cy 2, 3, .inl (fun _ => 0))), ((a 37), .inl (cy 1, 3, .inl (fun _ => 0))), ((a 38), .inl (cy 1, 3, .inl (fun _ => 0))), ((a 0), .inr (8, [.ref (a 1), .ref (a 6), .ref (a 8), .ref (a 15), .ref (a 20), .int 0, .ref (a 24), .ref (a 26)])), ((a 1), .inr (7, [.ref (a 2), .ref (a 4)])), ((a 2), .inr (6, [.ref (a 3), .int 0])), ((a 39), .inr (9, [.long (-9999), .null])), ((a 32), .inr (3, [.int 0, .ref (sv 0), .int 0])), ((a 31), .inr (10, [.ref (a 32), .ref (a 33), .ref (a 34), .ref (a 35), .ref (a 36), .ref (a 37), .ref (a 38), .int 0, .int 0]))] H _ := w
  refine lv_iload C.1 C.2.1 dL_law_1441 (lv_at hl 1 rfl) ?_
  refine lv_icmp_eq (tgt := 1448) C.1 C.2.1 dL_law_1443 (by decide) (fun _ => ?_) (fun c9 => absurd (by decide) c9)
  refine lv_iload C.1 C.2.1 dL_law_1448 (lv_at hl 1 rfl) ?_
  refine lv_if_ne (tgt := 1466) C.1 C.2.1 dL_law_1450 (by decide) (fun c9 => absurd (by decide) c9) (fun _ => ?_)
  refine lv_aload_n C.1 C.2.1 dL_law_1453 rfl (lv_at hl 3 rfl) ?_
  refine x_getN (v := .long (-9999)) C w 37 9 0 (xin_X5 _) rfl rfl (by decide) (xs_f_n (xS C)) rfl rfl dL_law_1454 ?_
  refine lv_iload C.1 C.2.1 dL_law_1457 (lv_at hl 0 rfl) ?_
  refine lv_i2l (v := (-9999)) C.1 C.2.1 dL_law_1459 (by decide) ?_
  refine W.lcmp C.1 C.2.1 dL_law_1460 ?_
  refine x_is (y := 0) (by decide) ?_
  refine lv_if_eq (tgt := 1466) C.1 C.2.1 dL_law_1461 (by decide) (fun _ => ?_) (fun c9 => absurd (by decide) c9)
  refine lv_goto (tgt := 2509) C.1 C.2.1 dL_law_1466 (by decide) ?_
  refine lv_iinc (v := 5) (lv' := [(4, .int 5), (6, .int (-9999)), (5, .int 0), (3, .ref (a 39)), (2, .ref (a 31)), (1, .ref (a 0)), (0, .ref b)]) C.1 C.2.1 dL_law_2509 hl (k := 2) rfl (by decide) (by decide) rfl (fun ls hl => ?_)
  refine lv_goto (tgt := 27) C.1 C.2.1 dL_law_2512 (by decide) ?_
  refine lv_iload C.1 C.2.1 dL_law_27 (lv_at hl 0 rfl) ?_
  refine lv_aload_n C.1 C.2.1 dL_law_29 rfl (lv_at hl 6 rfl) ?_
  refine va_slen C.1 C.2.1 hX hbl hbA w.2.2 dL_law_30 ?_
  refine x_is (y := 5) (by decide) ?_
  refine lv_iconst (v := 5) C.1 C.2.1 dL_law_31 (by decide) ?_
  refine lv_isub C.1 C.2.1 dL_law_32 ?_
  refine x_is (y := 0) (by decide) ?_
  refine lv_icmp_gt (tgt := 2515) C.1 C.2.1 dL_law_33 (by decide) (fun _ => ?_) (fun c9 => absurd (by decide) c9)
  refine lv_iconst (v := 1) C.1 C.2.1 dL_law_2515 (by decide) ?_
  refine va_forget (fun q hq => hAl _ (w.2.2.2.2 q hq)) ?_
  refine W.widen (k := 600002) (n := 7302232) (Nat.le_of_ble_eq_true rfl) (Nat.le_of_ble_eq_true rfl) ?_
  exact lw_ret C.1 C.2.1 hr (xlk C) dL_law_2516
set_option maxHeartbeats 8000000 in
set_option maxRecDepth 100000 in
theorem law_24_61 {p : Program} {e : Env} {s : State} {m : MethodId} {below : List Frame} {meth : Method} {c : Code} {l : Launch} {G : va_G} {cy : Nat → ClassId} {sa : String → Nat → Nat} {sv : Nat → Nat} {A : Nat → Prop} {b : Nat} {xs : Nat → Int32} {a : Nat → Nat} {H : Heap} {locs : List Loc} {ls : Array Slot} (C : xC p l s m #[Value.ref b] meth c code 7 "TwinindexLaw" (Cond.initialized "TwinindexLaw" :: XG) G cy sa sv A) (hr : meth.sig.returnType = ret) (hX : va_X b 5 xs s s.heap) (hbl : b < s.heap.size) (hbA : ¬ A b) (hAl : ∀ q, A q → s.heap.size ≤ q) (w : xW G A s (xW0 cy sv a) H locs) (hl : lv_has ls 7 [(4, .int 0), (3, .ref (a 39)), (2, .ref (a 31)), (1, .ref (a 0)), (0, .ref b)]) (hk : ((xs 0) &&& 63) = 24) (p0 : ¬ (xs 4) < (-999)) (p1 : (xs 4) ≤ 999) (p2 : ¬ (xs 3) < (xs 1)) (p3 : (xs 2) < (xs 3)) (p4 : ¬ (xs 3) ≤ (xs 2)) : W p l e room_1 s m #[Value.ref b] below meth c H locs 40 1536 (lw_Z below #[Value.ref b] s) (F0 m 27 ls []) := by
  have w : xW G A s [((a 0), .inr (8, [.ref (a 1), .ref (a 6), .ref (a 8), .ref (a 15), .ref (a 20), .int 0, .ref (a 24), .ref (a 26)])), ((a 1), .inr (7, [.ref (a 2), .ref (a 4)])), ((a 2), .inr (6, [.ref (a 3), .int 0])), ((a 3), .inl (cy 1, 24, .inl (fun _ => 0))), ((a 4), .inr (6, [.ref (a 5), .int 0])), ((a 5), .inl (cy 1, 24, .inl (fun _ => 0))), ((a 6), .inr (6, [.ref (a 7), .int 0])), ((a 7), .inl (cy 1, 24, .inl (fun _ => 0))), ((a 8), .inr (5, [.ref (a 9), .ref (a 11), .ref (a 13), .int 0])), ((a 9), .inr (6, [.ref (a 10), .int 0])), ((a 10), .inl (cy 1, 624, .inl (fun _ => 0))), ((a 11), .inr (6, [.ref (a 12), .int 0])), ((a 12), .inl (cy 1, 624, .inl (fun _ => 0))), ((a 13), .inr (6, [.ref (a 14), .int 0])), ((a 14), .inl (cy 1, 12, .inl (fun _ => 0))), ((a 15), .inr (7, [.ref (a 16), .ref (a 18)])), ((a 16), .inr (6, [.ref (a 17), .int 0])), ((a 17), .inl (cy 1, 24, .inl (fun _ => 0))), ((a 18), .inr (6, [.ref (a 19), .int 0])), ((a 19), .inl (cy 1, 24, .inl (fun _ => 0))), ((a 20), .inl (cy 3, 3, .inr (.inr (.inr (.inr (va_up (va_up (va_up (fun _ => none) 0 (some (a 21))) 1 (some (a 22))) 2 (some (a 23)))))))), ((a 21), .inr (4, [.int 0, .int 0, .int 0])), ((a 22), .inr (4, [.int 0, .int 0, .int 0])), ((a 23), .inr (4, [.int 0, .int 0, .int 0])), ((a 24), .inr (6, [.ref (a 25), .int 0])), ((a 25), .inl (cy 1, 24, .inl (fun _ => 0))), ((a 26), .inr (7, [.ref (a 27), .ref (a 29)])), ((a 27), .inr (6, [.ref (a 28), .int 0])), ((a 28), .inl (cy 1, 24, .inl (fun _ => 0))), ((a 29), .inr (6, [.ref (a 30), .int 0])), ((a 30), .inl (cy 1, 24, .inl (fun _ => 0))), ((a 31), .inr (10, [.ref (a 32), .ref (a 33), .ref (a 34), .ref (a 35), .ref (a 36), .ref (a 37), .ref (a 38), .int 0, .int 0])), ((a 32), .inr (3, [.int 0, .ref (sv 0), .int 0])), ((a 33), .inr (3, [.int 0, .ref (sv 0), .int 0])), ((a 34), .inr (3, [.int 0, .ref (sv 0), .int 0])), ((a 35), .inr (3, [.int 0, .ref (sv 0), .int 0])), ((a 36), .inl (cy 2, 3, .inl (fun _ => 0))), ((a 37), .inl (cy 1, 3, .inl (fun _ => 0))), ((a 38), .inl (cy 1, 3, .inl (fun _ => 0))), ((a 39), .inr (9, [.long 0, .null]))] H _ := w
  refine lv_iload C.1 C.2.1 dL_law_27 (lv_at hl 0 rfl) ?_
  refine lv_aload_n C.1 C.2.1 dL_law_29 rfl (lv_at hl 4 rfl) ?_
  refine va_slen C.1 C.2.1 hX hbl hbA w.2.2 dL_law_30 ?_
  refine x_is (y := 5) (by decide) ?_
  refine lv_iconst (v := 5) C.1 C.2.1 dL_law_31 (by decide) ?_
  refine lv_isub C.1 C.2.1 dL_law_32 ?_
  refine x_is (y := 0) (by decide) ?_
  refine lv_icmp_gt (tgt := 2515) C.1 C.2.1 dL_law_33 (by decide) (fun c9 => absurd c9 (by decide)) (fun _ => ?_)
  refine lv_aload_n C.1 C.2.1 dL_law_36 rfl (lv_at hl 4 rfl) ?_
  refine lv_iload C.1 C.2.1 dL_law_37 (lv_at hl 0 rfl) ?_
  refine va_sld C.1 C.2.1 hX hbl hbA w.2.2 (xvin (by decide)) dL_law_39 ?_
  refine x_is (y := (xs 0)) (by rfl) ?_
  refine lv_bipush (v := 63) C.1 C.2.1 dL_law_40 (by decide) ?_
  refine lv_iand C.1 C.2.1 dL_law_42 ?_
  refine x_is (y := 24) hk ?_
  refine lv_tableIn (off := 1333) (tgt := 1376) C.1 C.2.1 dL_law_43 (by decide) (by decide) (by decide) (by decide) ?_
  refine lv_aload_n C.1 C.2.1 dL_law_1376 rfl (lv_at hl 3 rfl) ?_
  refine lv_aload_n C.1 C.2.1 dL_law_1377 rfl (lv_at hl 4 rfl) ?_
  refine lv_iload C.1 C.2.1 dL_law_1378 (lv_at hl 0 rfl) ?_
  refine lv_iconst (v := 1) C.1 C.2.1 dL_law_1380 (by decide) ?_
  refine lv_iadd C.1 C.2.1 dL_law_1381 ?_
  refine x_is (y := 1) (by decide) ?_
  refine va_sld C.1 C.2.1 hX hbl hbA w.2.2 (xvin (by decide)) dL_law_1382 ?_
  refine x_is (y := (xs 1)) (by rfl) ?_
  refine lv_aload_n C.1 C.2.1 dL_law_1383 rfl (lv_at hl 4 rfl) ?_
  refine lv_iload C.1 C.2.1 dL_law_1384 (lv_at hl 0 rfl) ?_
  refine lv_iconst (v := 2) C.1 C.2.1 dL_law_1386 (by decide) ?_
  refine lv_iadd C.1 C.2.1 dL_law_1387 ?_
  refine x_is (y := 2) (by decide) ?_
  refine va_sld C.1 C.2.1 hX hbl hbA w.2.2 (xvin (by decide)) dL_law_1388 ?_
  refine x_is (y := (xs 2)) (by rfl) ?_
  refine lv_aload_n C.1 C.2.1 dL_law_1389 rfl (lv_at hl 4 rfl) ?_
  refine lv_iload C.1 C.2.1 dL_law_1390 (lv_at hl 0 rfl) ?_
  refine lv_iconst (v := 3) C.1 C.2.1 dL_law_1392 (by decide) ?_
  refine lv_iadd C.1 C.2.1 dL_law_1393 ?_
  refine x_is (y := 3) (by decide) ?_
  refine va_sld C.1 C.2.1 hX hbl hbA w.2.2 (xvin (by decide)) dL_law_1394 ?_
  refine x_is (y := (xs 3)) (by rfl) ?_
  refine lv_aload_n C.1 C.2.1 dL_law_1395 rfl (lv_at hl 4 rfl) ?_
  refine lv_iload C.1 C.2.1 dL_law_1396 (lv_at hl 0 rfl) ?_
  refine lv_iconst (v := 4) C.1 C.2.1 dL_law_1398 (by decide) ?_
  refine lv_iadd C.1 C.2.1 dL_law_1399 ?_
  refine x_is (y := 4) (by decide) ?_
  refine va_sld C.1 C.2.1 hX hbl hbA w.2.2 (xvin (by decide)) dL_law_1400 ?_
  refine x_is (y := (xs 4)) (by rfl) ?_
  refine lv_aload_n C.1 C.2.1 dL_law_1401 rfl (lv_at hl 1 rfl) ?_
  refine x_ki C w [0, 1, 2, 39] [3, 4, 5, 6, 7, 8, 9, 10, 11, 12, 13, 14, 15, 16, 17, 18, 19, 20, 21, 22, 23, 24, 25, 26, 27, 28, 29, 30, 31, 32, 33, 34, 35, 36, 37, 38] rfl rfl (by decide) (by decide) (vx_runSW (As := [.ref (a 0), .int (xs 1), .int (xs 2), .int (xs 3), .int (xs 4), .ref (a 39)]) (rest := []) (xfix C) (c362_L_rangePut l G cy sa sv (a 0) (a 39) (a 1) (a 2) (a 6) (a 8) (a 15) (a 20) (a 24) (a 26) (a 4) (a 3) (xs 1) (xs 2) (xs 3) (xs 4) p0 p1 p2 p3 (xtr C) _) (vx_cwSW 6 (xhts C) (xgS gw_698 gw_699 gw_106 gc_L_rangePut) rfl rfl rfl (by decide +kernel) ⟨(Nat.le_of_ble_eq_true rfl), (Nat.le_of_ble_eq_true rfl)⟩) (xPS C w [0, 1, 2, 39] rfl (by decide)) rfl rfl hl.1 rfl (lv_room (Nat.le_of_ble_eq_true rfl)) dL_law_1402 ⟨(Nat.le_of_ble_eq_true rfl), (Nat.le_of_ble_eq_true rfl)⟩) (fun f2103 H locs w => ?_)
  have w : xW G A s [((a 3), .inl (cy 1, 24, .inl (fun _ => 0))), ((a 4), .inr (6, [.ref (a 5), .int 0])), ((a 5), .inl (cy 1, 24, .inl (fun _ => 0))), ((a 6), .inr (6, [.ref (a 7), .int 0])), ((a 7), .inl (cy 1, 24, .inl (fun _ => 0))), ((a 8), .inr (5, [.ref (a 9), .ref (a 11), .ref (a 13), .int 0])), ((a 9), .inr (6, [.ref (a 10), .int 0])), ((a 10), .inl (cy 1, 624, .inl (fun _ => 0))), ((a 11), .inr (6, [.ref (a 12), .int 0])), ((a 12), .inl (cy 1, 624, .inl (fun _ => 0))), ((a 13), .inr (6, [.ref (a 14), .int 0])), ((a 14), .inl (cy 1, 12, .inl (fun _ => 0))), ((a 15), .inr (7, [.ref (a 16), .ref (a 18)])), ((a 16), .inr (6, [.ref (a 17), .int 0])), ((a 17), .inl (cy 1, 24, .inl (fun _ => 0))), ((a 18), .inr (6, [.ref (a 19), .int 0])), ((a 19), .inl (cy 1, 24, .inl (fun _ => 0))), ((a 20), .inl (cy 3, 3, .inr (.inr (.inr (.inr (va_up (va_up (va_up (fun _ => none) 0 (some (a 21))) 1 (some (a 22))) 2 (some (a 23)))))))), ((a 21), .inr (4, [.int 0, .int 0, .int 0])), ((a 22), .inr (4, [.int 0, .int 0, .int 0])), ((a 23), .inr (4, [.int 0, .int 0, .int 0])), ((a 24), .inr (6, [.ref (a 25), .int 0])), ((a 25), .inl (cy 1, 24, .inl (fun _ => 0))), ((a 26), .inr (7, [.ref (a 27), .ref (a 29)])), ((a 27), .inr (6, [.ref (a 28), .int 0])), ((a 28), .inl (cy 1, 24, .inl (fun _ => 0))), ((a 29), .inr (6, [.ref (a 30), .int 0])), ((a 30), .inl (cy 1, 24, .inl (fun _ => 0))), ((a 31), .inr (10, [.ref (a 32), .ref (a 33), .ref (a 34), .ref (a 35), .ref (a 36), .ref (a 37), .ref (a 38), .int 0, .int 0])), ((a 32), .inr (3, [.int 0, .ref (sv 0), .int 0])), ((a 33), .inr (3, [.int 0, .ref (sv 0), .int 0])), ((a 34), .inr (3, [.int 0, .ref (sv 0), .int 0])), ((a 35), .inr (3, [.int 0, .ref (sv 0), .int 0])), ((a 36), .inl (cy 2, 3, .inl (fun _ => 0))), ((a 37), .inl (cy 1, 3, .inl (fun _ => 0))), ((a 38), .inl (cy 1, 3, .inl (fun _ => 0))), ((a 0), .inr (8, [.ref (a 1), .ref (a 6), .ref (a 8), .ref (a 15), .ref (a 20), .int 0, .ref (a 24), .ref (a 26)])), ((a 1), .inr (7, [.ref (a 2), .ref (a 4)])), ((a 2), .inr (6, [.ref (a 3), .int 0])), ((a 39), .inr (9, [.long (-9999), .null]))] H _ := w
  refine lv_istore (lv' := [(5, .int 0), (4, .int 0), (3, .ref (a 39)), (2, .ref (a 31)), (1, .ref (a 0)), (0, .ref b)]) C.1 C.2.1 dL_law_1405 hl (by decide) rfl (fun ls hl => ?_)
  refine lv_aload_n C.1 C.2.1 dL_law_1407 rfl (lv_at hl 3 rfl) ?_
  refine lv_aload_n C.1 C.2.1 dL_law_1408 rfl (lv_at hl 5 rfl) ?_
  refine lv_iload C.1 C.2.1 dL_law_1409 (lv_at hl 1 rfl) ?_
  refine lv_iconst (v := 1) C.1 C.2.1 dL_law_1411 (by decide) ?_
  refine lv_iadd C.1 C.2.1 dL_law_1412 ?_
  refine x_is (y := 1) (by decide) ?_
  refine va_sld C.1 C.2.1 hX hbl hbA w.2.2 (xvin (by decide)) dL_law_1413 ?_
  refine x_is (y := (xs 1)) (by rfl) ?_
  refine lv_aload_n C.1 C.2.1 dL_law_1414 rfl (lv_at hl 5 rfl) ?_
  refine lv_iload C.1 C.2.1 dL_law_1415 (lv_at hl 1 rfl) ?_
  refine lv_iconst (v := 2) C.1 C.2.1 dL_law_1417 (by decide) ?_
  refine lv_iadd C.1 C.2.1 dL_law_1418 ?_
  refine x_is (y := 2) (by decide) ?_
  refine va_sld C.1 C.2.1 hX hbl hbA w.2.2 (xvin (by decide)) dL_law_1419 ?_
  refine x_is (y := (xs 2)) (by rfl) ?_
  refine lv_aload_n C.1 C.2.1 dL_law_1420 rfl (lv_at hl 5 rfl) ?_
  refine lv_iload C.1 C.2.1 dL_law_1421 (lv_at hl 1 rfl) ?_
  refine lv_iconst (v := 3) C.1 C.2.1 dL_law_1423 (by decide) ?_
  refine lv_iadd C.1 C.2.1 dL_law_1424 ?_
  refine x_is (y := 3) (by decide) ?_
  refine va_sld C.1 C.2.1 hX hbl hbA w.2.2 (xvin (by decide)) dL_law_1425 ?_
  refine x_is (y := (xs 3)) (by rfl) ?_
  refine lv_aload_n C.1 C.2.1 dL_law_1426 rfl (lv_at hl 5 rfl) ?_
  refine lv_iload C.1 C.2.1 dL_law_1427 (lv_at hl 1 rfl) ?_
  refine lv_iconst (v := 4) C.1 C.2.1 dL_law_1429 (by decide) ?_
  refine lv_iadd C.1 C.2.1 dL_law_1430 ?_
  refine x_is (y := 4) (by decide) ?_
  refine va_sld C.1 C.2.1 hX hbl hbA w.2.2 (xvin (by decide)) dL_law_1431 ?_
  refine x_is (y := (xs 4)) (by rfl) ?_
  refine x_ki C w [28, 29] [0, 1, 2, 3, 4, 5, 6, 7, 8, 9, 10, 11, 12, 13, 14, 15, 16, 17, 18, 19, 20, 21, 22, 23, 24, 25, 26, 27, 30, 31, 32, 33, 34, 35, 36, 37, 38, 39] rfl rfl (by decide) (by decide) (va_runV (As := [.int (xs 1), .int (xs 2), .int (xs 3), .int (xs 4)]) (rest := []) (xfix C) (c363_X6_rangePut l G cy sa sv (a 31) (a 32) (a 33) (a 34) (a 35) (a 36) (a 37) (a 38) (xs 1) (xs 2) (xs 3) (xs 4) p0 p1 p2 p4 (xtr C) _) (cwV 4 (xhts C) (xgV (maxL := 0) (cc := ⟨#[]⟩) (ret := none) gw_701 gw_702 gw_703 gw_58 gc_X6_rangePut) rfl rfl rfl (by decide +kernel) ⟨(Nat.le_of_ble_eq_true rfl), (Nat.le_of_ble_eq_true rfl)⟩) (xPV C w [28, 29] rfl (by decide) (ci := 10) (q0 := 28) rfl rfl) rfl rfl hl.1 rfl (lv_room (Nat.le_of_ble_eq_true rfl)) dL_law_1432 ⟨(Nat.le_of_ble_eq_true rfl), (Nat.le_of_ble_eq_true rfl)⟩) (fun f2109 H locs w => ?_)
  have w : xW G A s [((a 3), .inl (cy 1, 24, .inl (fun _ => 0))), ((a 4), .inr (6, [.ref (a 5), .int 0])), ((a 5), .inl (cy 1, 24, .inl (fun _ => 0))), ((a 6), .inr (6, [.ref (a 7), .int 0])), ((a 7), .inl (cy 1, 24, .inl (fun _ => 0))), ((a 8), .inr (5, [.ref (a 9), .ref (a 11), .ref (a 13), .int 0])), ((a 9), .inr (6, [.ref (a 10), .int 0])), ((a 10), .inl (cy 1, 624, .inl (fun _ => 0))), ((a 11), .inr (6, [.ref (a 12), .int 0])), ((a 12), .inl (cy 1, 624, .inl (fun _ => 0))), ((a 13), .inr (6, [.ref (a 14), .int 0])), ((a 14), .inl (cy 1, 12, .inl (fun _ => 0))), ((a 15), .inr (7, [.ref (a 16), .ref (a 18)])), ((a 16), .inr (6, [.ref (a 17), .int 0])), ((a 17), .inl (cy 1, 24, .inl (fun _ => 0))), ((a 18), .inr (6, [.ref (a 19), .int 0])), ((a 19), .inl (cy 1, 24, .inl (fun _ => 0))), ((a 20), .inl (cy 3, 3, .inr (.inr (.inr (.inr (va_up (va_up (va_up (fun _ => none) 0 (some (a 21))) 1 (some (a 22))) 2 (some (a 23)))))))), ((a 21), .inr (4, [.int 0, .int 0, .int 0])), ((a 22), .inr (4, [.int 0, .int 0, .int 0])), ((a 23), .inr (4, [.int 0, .int 0, .int 0])), ((a 24), .inr (6, [.ref (a 25), .int 0])), ((a 25), .inl (cy 1, 24, .inl (fun _ => 0))), ((a 26), .inr (7, [.ref (a 27), .ref (a 29)])), ((a 27), .inr (6, [.ref (a 28), .int 0])), ((a 28), .inl (cy 1, 24, .inl (fun _ => 0))), ((a 29), .inr (6, [.ref (a 30), .int 0])), ((a 30), .inl (cy 1, 24, .inl (fun _ => 0))), ((a 33), .inr (3, [.int 0, .ref (sv 0), .int 0])), ((a 34), .inr (3, [.int 0, .ref (sv 0), .int 0])), ((a 35), .inr (3, [.int 0, .ref (sv 0), .int 0])), ((a 36), .inl (cy 2, 3, .inl (fun _ => 0))), ((a 37), .inl (cy 1, 3, .inl (fun _ => 0))), ((a 38), .inl (cy 1, 3, .inl (fun _ => 0))), ((a 0), .inr (8, [.ref (a 1), .ref (a 6), .ref (a 8), .ref (a 15), .ref (a 20), .int 0, .ref (a 24), .ref (a 26)])), ((a 1), .inr (7, [.ref (a 2), .ref (a 4)])), ((a 2), .inr (6, [.ref (a 3), .int 0])), ((a 39), .inr (9, [.long (-9999), .null])), ((a 31), .inr (10, [.ref (a 32), .ref (a 33), .ref (a 34), .ref (a 35), .ref (a 36), .ref (a 37), .ref (a 38), .int 0, .int 0])), ((a 32), .inr (3, [.int 0, .ref (sv 0), .int 0]))] H _ := w
  refine lv_istore (lv' := [(6, .int (-9999)), (5, .int 0), (4, .int 0), (3, .ref (a 39)), (2, .ref (a 31)), (1, .ref (a 0)), (0, .ref b)]) C.1 C.2.1 dL_law_1435 hl (by decide) rfl (fun ls hl => ?_)
  refine lv_aload_n C.1 C.2.1 dL_law_1437 rfl (lv_at hl 4 rfl) ?_
  refine x_ki C w [38] [0, 1, 2, 3, 4, 5, 6, 7, 8, 9, 10, 11, 12, 13, 14, 15, 16, 17, 18, 19, 20, 21, 22, 23, 24, 25, 26, 27, 28, 29, 30, 31, 32, 33, 34, 35, 36, 37, 39] rfl rfl (by decide) (by decide) (va_runV (As := []) (rest := []) (xfix C) (c66_X6_thrown l G cy sa sv (a 31) (a 32) (a 33) (a 34) (a 35) (a 36) (a 37) (a 38) (xtr C) _) (cwV 0 (xhts C) (xgV (maxL := 0) (cc := ⟨#[]⟩) (ret := none) gw_122 gw_123 gw_124 gw_58 gc_X6_thrown) rfl rfl rfl (by decide +kernel) ⟨(Nat.le_of_ble_eq_true rfl), (Nat.le_of_ble_eq_true rfl)⟩) (xPV C w [38] rfl (by decide) (ci := 10) (q0 := 38) rfl rfl) rfl rfl hl.1 rfl (lv_room (Nat.le_of_ble_eq_true rfl)) dL_law_1438 ⟨(Nat.le_of_ble_eq_true rfl), (Nat.le_of_ble_eq_true rfl)⟩) (fun f2110 H locs w => ?_)
  have w : xW G A s [((a 3), .inl (cy 1, 24, .inl (fun _ => 0))), ((a 4), .inr (6, [.ref (a 5), .int 0])), ((a 5), .inl (cy 1, 24, .inl (fun _ => 0))), ((a 6), .inr (6, [.ref (a 7), .int 0])), ((a 7), .inl (cy 1, 24, .inl (fun _ => 0))), ((a 8), .inr (5, [.ref (a 9), .ref (a 11), .ref (a 13), .int 0])), ((a 9), .inr (6, [.ref (a 10), .int 0])), ((a 10), .inl (cy 1, 624, .inl (fun _ => 0))), ((a 11), .inr (6, [.ref (a 12), .int 0])), ((a 12), .inl (cy 1, 624, .inl (fun _ => 0))), ((a 13), .inr (6, [.ref (a 14), .int 0])), ((a 14), .inl (cy 1, 12, .inl (fun _ => 0))), ((a 15), .inr (7, [.ref (a 16), .ref (a 18)])), ((a 16), .inr (6, [.ref (a 17), .int 0])), ((a 17), .inl (cy 1, 24, .inl (fun _ => 0))), ((a 18), .inr (6, [.ref (a 19), .int 0])), ((a 19), .inl (cy 1, 24, .inl (fun _ => 0))), ((a 20), .inl (cy 3, 3, .inr (.inr (.inr (.inr (va_up (va_up (va_up (fun _ => none) 0 (some (a 21))) 1 (some (a 22))) 2 (some (a 23)))))))), ((a 21), .inr (4, [.int 0, .int 0, .int 0])), ((a 22), .inr (4, [.int 0, .int 0, .int 0])), ((a 23), .inr (4, [.int 0, .int 0, .int 0])), ((a 24), .inr (6, [.ref (a 25), .int 0])), ((a 25), .inl (cy 1, 24, .inl (fun _ => 0))), ((a 26), .inr (7, [.ref (a 27), .ref (a 29)])), ((a 27), .inr (6, [.ref (a 28), .int 0])), ((a 28), .inl (cy 1, 24, .inl (fun _ => 0))), ((a 29), .inr (6, [.ref (a 30), .int 0])), ((a 30), .inl (cy 1, 24, .inl (fun _ => 0))), ((a 33), .inr (3, [.int 0, .ref (sv 0), .int 0])), ((a 34), .inr (3, [.int 0, .ref (sv 0), .int 0])), ((a 35), .inr (3, [.int 0, .ref (sv 0), .int 0])), ((a 36), .inl (cy 2, 3, .inl (fun _ => 0))), ((a 37), .inl (cy 1, 3, .inl (fun _ => 0))), ((a 38), .inl (cy 1, 3, .inl (fun _ => 0))), ((a 0), .inr (8, [.ref (a 1), .ref (a 6), .ref (a 8), .ref (a 15), .ref (a 20), .int 0, .ref (a 24), .ref (a 26)])), ((a 1), .inr (7, [.ref (a 2), .ref (a 4)])), ((a 2), .inr (6, [.ref (a 3), .int 0])), ((a 39), .inr (9, [.long (-9999), .null])), ((a 32), .inr (3, [.int 0, .ref (sv 0), .int 0])), ((a 31), .inr (10, [.ref (a 32), .ref (a 33), .ref (a 34), .ref (a 35), .ref (a 36), .ref (a 37), .ref (a 38), .int 0, .int 0]))] H _ := w
  refine lv_iload C.1 C.2.1 dL_law_1441 (lv_at hl 1 rfl) ?_
  refine lv_icmp_eq (tgt := 1448) C.1 C.2.1 dL_law_1443 (by decide) (fun _ => ?_) (fun c9 => absurd (by decide) c9)
  refine lv_iload C.1 C.2.1 dL_law_1448 (lv_at hl 1 rfl) ?_
  refine lv_if_ne (tgt := 1466) C.1 C.2.1 dL_law_1450 (by decide) (fun c9 => absurd (by decide) c9) (fun _ => ?_)
  refine lv_aload_n C.1 C.2.1 dL_law_1453 rfl (lv_at hl 3 rfl) ?_
  refine x_getN (v := .long (-9999)) C w 37 9 0 (xin_X5 _) rfl rfl (by decide) (xs_f_n (xS C)) rfl rfl dL_law_1454 ?_
  refine lv_iload C.1 C.2.1 dL_law_1457 (lv_at hl 0 rfl) ?_
  refine lv_i2l (v := (-9999)) C.1 C.2.1 dL_law_1459 (by decide) ?_
  refine W.lcmp C.1 C.2.1 dL_law_1460 ?_
  refine x_is (y := 0) (by decide) ?_
  refine lv_if_eq (tgt := 1466) C.1 C.2.1 dL_law_1461 (by decide) (fun _ => ?_) (fun c9 => absurd (by decide) c9)
  refine lv_goto (tgt := 2509) C.1 C.2.1 dL_law_1466 (by decide) ?_
  refine lv_iinc (v := 5) (lv' := [(4, .int 5), (6, .int (-9999)), (5, .int 0), (3, .ref (a 39)), (2, .ref (a 31)), (1, .ref (a 0)), (0, .ref b)]) C.1 C.2.1 dL_law_2509 hl (k := 2) rfl (by decide) (by decide) rfl (fun ls hl => ?_)
  refine lv_goto (tgt := 27) C.1 C.2.1 dL_law_2512 (by decide) ?_
  refine lv_iload C.1 C.2.1 dL_law_27 (lv_at hl 0 rfl) ?_
  refine lv_aload_n C.1 C.2.1 dL_law_29 rfl (lv_at hl 6 rfl) ?_
  refine va_slen C.1 C.2.1 hX hbl hbA w.2.2 dL_law_30 ?_
  refine x_is (y := 5) (by decide) ?_
  refine lv_iconst (v := 5) C.1 C.2.1 dL_law_31 (by decide) ?_
  refine lv_isub C.1 C.2.1 dL_law_32 ?_
  refine x_is (y := 0) (by decide) ?_
  refine lv_icmp_gt (tgt := 2515) C.1 C.2.1 dL_law_33 (by decide) (fun _ => ?_) (fun c9 => absurd (by decide) c9)
  refine lv_iconst (v := 1) C.1 C.2.1 dL_law_2515 (by decide) ?_
  refine va_forget (fun q hq => hAl _ (w.2.2.2.2 q hq)) ?_
  refine W.widen (k := 600002) (n := 7302232) (Nat.le_of_ble_eq_true rfl) (Nat.le_of_ble_eq_true rfl) ?_
  exact lw_ret C.1 C.2.1 hr (xlk C) dL_law_2516
set_option maxHeartbeats 8000000 in
set_option maxRecDepth 100000 in
theorem law_24_62 {p : Program} {e : Env} {s : State} {m : MethodId} {below : List Frame} {meth : Method} {c : Code} {l : Launch} {G : va_G} {cy : Nat → ClassId} {sa : String → Nat → Nat} {sv : Nat → Nat} {A : Nat → Prop} {b : Nat} {xs : Nat → Int32} {a : Nat → Nat} {H : Heap} {locs : List Loc} {ls : Array Slot} (C : xC p l s m #[Value.ref b] meth c code 7 "TwinindexLaw" (Cond.initialized "TwinindexLaw" :: XG) G cy sa sv A) (hr : meth.sig.returnType = ret) (hX : va_X b 5 xs s s.heap) (hbl : b < s.heap.size) (hbA : ¬ A b) (hAl : ∀ q, A q → s.heap.size ≤ q) (w : xW G A s (xW0 cy sv a) H locs) (hl : lv_has ls 7 [(4, .int 0), (3, .ref (a 39)), (2, .ref (a 31)), (1, .ref (a 0)), (0, .ref b)]) (hk : ((xs 0) &&& 63) = 24) (p0 : ¬ (xs 4) < (-999)) (p1 : (xs 4) ≤ 999) (p2 : ¬ (xs 3) < (xs 1)) (p3 : ¬ (xs 2) < (xs 3)) (p4 : ¬ (-1000) = (xs 4)) (p5 : (xs 3) ≤ (xs 2)) : W p l e room_1 s m #[Value.ref b] below meth c H locs 40 1536 (lw_Z below #[Value.ref b] s) (F0 m 27 ls []) := by
  have w : xW G A s [((a 0), .inr (8, [.ref (a 1), .ref (a 6), .ref (a 8), .ref (a 15), .ref (a 20), .int 0, .ref (a 24), .ref (a 26)])), ((a 1), .inr (7, [.ref (a 2), .ref (a 4)])), ((a 2), .inr (6, [.ref (a 3), .int 0])), ((a 3), .inl (cy 1, 24, .inl (fun _ => 0))), ((a 4), .inr (6, [.ref (a 5), .int 0])), ((a 5), .inl (cy 1, 24, .inl (fun _ => 0))), ((a 6), .inr (6, [.ref (a 7), .int 0])), ((a 7), .inl (cy 1, 24, .inl (fun _ => 0))), ((a 8), .inr (5, [.ref (a 9), .ref (a 11), .ref (a 13), .int 0])), ((a 9), .inr (6, [.ref (a 10), .int 0])), ((a 10), .inl (cy 1, 624, .inl (fun _ => 0))), ((a 11), .inr (6, [.ref (a 12), .int 0])), ((a 12), .inl (cy 1, 624, .inl (fun _ => 0))), ((a 13), .inr (6, [.ref (a 14), .int 0])), ((a 14), .inl (cy 1, 12, .inl (fun _ => 0))), ((a 15), .inr (7, [.ref (a 16), .ref (a 18)])), ((a 16), .inr (6, [.ref (a 17), .int 0])), ((a 17), .inl (cy 1, 24, .inl (fun _ => 0))), ((a 18), .inr (6, [.ref (a 19), .int 0])), ((a 19), .inl (cy 1, 24, .inl (fun _ => 0))), ((a 20), .inl (cy 3, 3, .inr (.inr (.inr (.inr (va_up (va_up (va_up (fun _ => none) 0 (some (a 21))) 1 (some (a 22))) 2 (some (a 23)))))))), ((a 21), .inr (4, [.int 0, .int 0, .int 0])), ((a 22), .inr (4, [.int 0, .int 0, .int 0])), ((a 23), .inr (4, [.int 0, .int 0, .int 0])), ((a 24), .inr (6, [.ref (a 25), .int 0])), ((a 25), .inl (cy 1, 24, .inl (fun _ => 0))), ((a 26), .inr (7, [.ref (a 27), .ref (a 29)])), ((a 27), .inr (6, [.ref (a 28), .int 0])), ((a 28), .inl (cy 1, 24, .inl (fun _ => 0))), ((a 29), .inr (6, [.ref (a 30), .int 0])), ((a 30), .inl (cy 1, 24, .inl (fun _ => 0))), ((a 31), .inr (10, [.ref (a 32), .ref (a 33), .ref (a 34), .ref (a 35), .ref (a 36), .ref (a 37), .ref (a 38), .int 0, .int 0])), ((a 32), .inr (3, [.int 0, .ref (sv 0), .int 0])), ((a 33), .inr (3, [.int 0, .ref (sv 0), .int 0])), ((a 34), .inr (3, [.int 0, .ref (sv 0), .int 0])), ((a 35), .inr (3, [.int 0, .ref (sv 0), .int 0])), ((a 36), .inl (cy 2, 3, .inl (fun _ => 0))), ((a 37), .inl (cy 1, 3, .inl (fun _ => 0))), ((a 38), .inl (cy 1, 3, .inl (fun _ => 0))), ((a 39), .inr (9, [.long 0, .null]))] H _ := w
  refine lv_iload C.1 C.2.1 dL_law_27 (lv_at hl 0 rfl) ?_
  refine lv_aload_n C.1 C.2.1 dL_law_29 rfl (lv_at hl 4 rfl) ?_
  refine va_slen C.1 C.2.1 hX hbl hbA w.2.2 dL_law_30 ?_
  refine x_is (y := 5) (by decide) ?_
  refine lv_iconst (v := 5) C.1 C.2.1 dL_law_31 (by decide) ?_
  refine lv_isub C.1 C.2.1 dL_law_32 ?_
  refine x_is (y := 0) (by decide) ?_
  refine lv_icmp_gt (tgt := 2515) C.1 C.2.1 dL_law_33 (by decide) (fun c9 => absurd c9 (by decide)) (fun _ => ?_)
  refine lv_aload_n C.1 C.2.1 dL_law_36 rfl (lv_at hl 4 rfl) ?_
  refine lv_iload C.1 C.2.1 dL_law_37 (lv_at hl 0 rfl) ?_
  refine va_sld C.1 C.2.1 hX hbl hbA w.2.2 (xvin (by decide)) dL_law_39 ?_
  refine x_is (y := (xs 0)) (by rfl) ?_
  refine lv_bipush (v := 63) C.1 C.2.1 dL_law_40 (by decide) ?_
  refine lv_iand C.1 C.2.1 dL_law_42 ?_
  refine x_is (y := 24) hk ?_
  refine lv_tableIn (off := 1333) (tgt := 1376) C.1 C.2.1 dL_law_43 (by decide) (by decide) (by decide) (by decide) ?_
  refine lv_aload_n C.1 C.2.1 dL_law_1376 rfl (lv_at hl 3 rfl) ?_
  refine lv_aload_n C.1 C.2.1 dL_law_1377 rfl (lv_at hl 4 rfl) ?_
  refine lv_iload C.1 C.2.1 dL_law_1378 (lv_at hl 0 rfl) ?_
  refine lv_iconst (v := 1) C.1 C.2.1 dL_law_1380 (by decide) ?_
  refine lv_iadd C.1 C.2.1 dL_law_1381 ?_
  refine x_is (y := 1) (by decide) ?_
  refine va_sld C.1 C.2.1 hX hbl hbA w.2.2 (xvin (by decide)) dL_law_1382 ?_
  refine x_is (y := (xs 1)) (by rfl) ?_
  refine lv_aload_n C.1 C.2.1 dL_law_1383 rfl (lv_at hl 4 rfl) ?_
  refine lv_iload C.1 C.2.1 dL_law_1384 (lv_at hl 0 rfl) ?_
  refine lv_iconst (v := 2) C.1 C.2.1 dL_law_1386 (by decide) ?_
  refine lv_iadd C.1 C.2.1 dL_law_1387 ?_
  refine x_is (y := 2) (by decide) ?_
  refine va_sld C.1 C.2.1 hX hbl hbA w.2.2 (xvin (by decide)) dL_law_1388 ?_
  refine x_is (y := (xs 2)) (by rfl) ?_
  refine lv_aload_n C.1 C.2.1 dL_law_1389 rfl (lv_at hl 4 rfl) ?_
  refine lv_iload C.1 C.2.1 dL_law_1390 (lv_at hl 0 rfl) ?_
  refine lv_iconst (v := 3) C.1 C.2.1 dL_law_1392 (by decide) ?_
  refine lv_iadd C.1 C.2.1 dL_law_1393 ?_
  refine x_is (y := 3) (by decide) ?_
  refine va_sld C.1 C.2.1 hX hbl hbA w.2.2 (xvin (by decide)) dL_law_1394 ?_
  refine x_is (y := (xs 3)) (by rfl) ?_
  refine lv_aload_n C.1 C.2.1 dL_law_1395 rfl (lv_at hl 4 rfl) ?_
  refine lv_iload C.1 C.2.1 dL_law_1396 (lv_at hl 0 rfl) ?_
  refine lv_iconst (v := 4) C.1 C.2.1 dL_law_1398 (by decide) ?_
  refine lv_iadd C.1 C.2.1 dL_law_1399 ?_
  refine x_is (y := 4) (by decide) ?_
  refine va_sld C.1 C.2.1 hX hbl hbA w.2.2 (xvin (by decide)) dL_law_1400 ?_
  refine x_is (y := (xs 4)) (by rfl) ?_
  refine lv_aload_n C.1 C.2.1 dL_law_1401 rfl (lv_at hl 1 rfl) ?_
  refine x_ki C w [0, 1, 2, 8, 9, 10, 11, 12, 3, 4, 5, 6, 7, 13, 14, 39] [15, 16, 17, 18, 19, 20, 21, 22, 23, 24, 25, 26, 27, 28, 29, 30, 31, 32, 33, 34, 35, 36, 37, 38] rfl rfl (by decide) (by decide) (vx_runSW (As := [.ref (a 0), .int (xs 1), .int (xs 2), .int (xs 3), .int (xs 4), .ref (a 39)]) (rest := []) (xfix C) (c366_L_rangePut l G cy sa sv (a 0) (a 39) (a 1) (a 2) (a 8) (a 9) (a 10) (a 11) (a 12) (a 3) (a 4) (a 5) (a 6) (a 7) (a 13) (a 14) (a 15) (a 20) (a 24) (a 26) (xs 1) (xs 2) (xs 3) (xs 4) p0 p1 p2 p3 p4 (xtr C) _) (vx_cwSW 6 (xhts C) (xgS gw_698 gw_699 gw_106 gc_L_rangePut) rfl rfl rfl (by decide +kernel) ⟨(Nat.le_of_ble_eq_true rfl), (Nat.le_of_ble_eq_true rfl)⟩) (xPS C w [0, 1, 2, 8, 9, 10, 11, 12, 3, 4, 5, 6, 7, 13, 14, 39] rfl (by decide)) rfl rfl hl.1 rfl (lv_room (Nat.le_of_ble_eq_true rfl)) dL_law_1402 ⟨(Nat.le_of_ble_eq_true rfl), (Nat.le_of_ble_eq_true rfl)⟩) (fun f2167 H locs w => ?_)
  have w : xW G A s [((a 15), .inr (7, [.ref (a 16), .ref (a 18)])), ((a 16), .inr (6, [.ref (a 17), .int 0])), ((a 17), .inl (cy 1, 24, .inl (fun _ => 0))), ((a 18), .inr (6, [.ref (a 19), .int 0])), ((a 19), .inl (cy 1, 24, .inl (fun _ => 0))), ((a 20), .inl (cy 3, 3, .inr (.inr (.inr (.inr (va_up (va_up (va_up (fun _ => none) 0 (some (a 21))) 1 (some (a 22))) 2 (some (a 23)))))))), ((a 21), .inr (4, [.int 0, .int 0, .int 0])), ((a 22), .inr (4, [.int 0, .int 0, .int 0])), ((a 23), .inr (4, [.int 0, .int 0, .int 0])), ((a 24), .inr (6, [.ref (a 25), .int 0])), ((a 25), .inl (cy 1, 24, .inl (fun _ => 0))), ((a 26), .inr (7, [.ref (a 27), .ref (a 29)])), ((a 27), .inr (6, [.ref (a 28), .int 0])), ((a 28), .inl (cy 1, 24, .inl (fun _ => 0))), ((a 29), .inr (6, [.ref (a 30), .int 0])), ((a 30), .inl (cy 1, 24, .inl (fun _ => 0))), ((a 31), .inr (10, [.ref (a 32), .ref (a 33), .ref (a 34), .ref (a 35), .ref (a 36), .ref (a 37), .ref (a 38), .int 0, .int 0])), ((a 32), .inr (3, [.int 0, .ref (sv 0), .int 0])), ((a 33), .inr (3, [.int 0, .ref (sv 0), .int 0])), ((a 34), .inr (3, [.int 0, .ref (sv 0), .int 0])), ((a 35), .inr (3, [.int 0, .ref (sv 0), .int 0])), ((a 36), .inl (cy 2, 3, .inl (fun _ => 0))), ((a 37), .inl (cy 1, 3, .inl (fun _ => 0))), ((a 38), .inl (cy 1, 3, .inl (fun _ => 0))), ((a 0), .inr (8, [.ref (a 1), .ref (a 6), .ref (a 8), .ref (a 15), .ref (a 20), .int 0, .ref (a 24), .ref (a 26)])), ((a 1), .inr (7, [.ref (a 2), .ref (a 4)])), ((a 2), .inr (6, [.ref (a 3), .int 1])), ((a 8), .inr (5, [.ref (a 9), .ref (a 11), .ref (a 13), .int 0])), ((a 9), .inr (6, [.ref (a 10), .int 1])), ((a 10), .inl (cy 1, 624, .inl (upd (fun _ => 0) 0 (xs 3)))), ((a 11), .inr (6, [.ref (a 12), .int 1])), ((a 12), .inl (cy 1, 624, .inl (upd (fun _ => 0) 0 (-1000)))), ((a 3), .inl (cy 1, 24, .inl (upd (fun _ => 0) 0 (xs 3)))), ((a 4), .inr (6, [.ref (a 5), .int 1])), ((a 5), .inl (cy 1, 24, .inl (upd (fun _ => 0) 0 (xs 4)))), ((a 6), .inr (6, [.ref (a 7), .int 1])), ((a 7), .inl (cy 1, 24, .inl (upd (fun _ => 0) 0 (xs 3)))), ((a 13), .inr (6, [.ref (a 14), .int 1])), ((a 14), .inl (cy 1, 12, .inl (upd (fun _ => 0) 0 1))), ((a 39), .inr (9, [.long (-1000), .null]))] H _ := w
  refine lv_istore (lv' := [(5, .int 0), (4, .int 0), (3, .ref (a 39)), (2, .ref (a 31)), (1, .ref (a 0)), (0, .ref b)]) C.1 C.2.1 dL_law_1405 hl (by decide) rfl (fun ls hl => ?_)
  refine lv_aload_n C.1 C.2.1 dL_law_1407 rfl (lv_at hl 3 rfl) ?_
  refine lv_aload_n C.1 C.2.1 dL_law_1408 rfl (lv_at hl 5 rfl) ?_
  refine lv_iload C.1 C.2.1 dL_law_1409 (lv_at hl 1 rfl) ?_
  refine lv_iconst (v := 1) C.1 C.2.1 dL_law_1411 (by decide) ?_
  refine lv_iadd C.1 C.2.1 dL_law_1412 ?_
  refine x_is (y := 1) (by decide) ?_
  refine va_sld C.1 C.2.1 hX hbl hbA w.2.2 (xvin (by decide)) dL_law_1413 ?_
  refine x_is (y := (xs 1)) (by rfl) ?_
  refine lv_aload_n C.1 C.2.1 dL_law_1414 rfl (lv_at hl 5 rfl) ?_
  refine lv_iload C.1 C.2.1 dL_law_1415 (lv_at hl 1 rfl) ?_
  refine lv_iconst (v := 2) C.1 C.2.1 dL_law_1417 (by decide) ?_
  refine lv_iadd C.1 C.2.1 dL_law_1418 ?_
  refine x_is (y := 2) (by decide) ?_
  refine va_sld C.1 C.2.1 hX hbl hbA w.2.2 (xvin (by decide)) dL_law_1419 ?_
  refine x_is (y := (xs 2)) (by rfl) ?_
  refine lv_aload_n C.1 C.2.1 dL_law_1420 rfl (lv_at hl 5 rfl) ?_
  refine lv_iload C.1 C.2.1 dL_law_1421 (lv_at hl 1 rfl) ?_
  refine lv_iconst (v := 3) C.1 C.2.1 dL_law_1423 (by decide) ?_
  refine lv_iadd C.1 C.2.1 dL_law_1424 ?_
  refine x_is (y := 3) (by decide) ?_
  refine va_sld C.1 C.2.1 hX hbl hbA w.2.2 (xvin (by decide)) dL_law_1425 ?_
  refine x_is (y := (xs 3)) (by rfl) ?_
  refine lv_aload_n C.1 C.2.1 dL_law_1426 rfl (lv_at hl 5 rfl) ?_
  refine lv_iload C.1 C.2.1 dL_law_1427 (lv_at hl 1 rfl) ?_
  refine lv_iconst (v := 4) C.1 C.2.1 dL_law_1429 (by decide) ?_
  refine lv_iadd C.1 C.2.1 dL_law_1430 ?_
  refine x_is (y := 4) (by decide) ?_
  refine va_sld C.1 C.2.1 hX hbl hbA w.2.2 (xvin (by decide)) dL_law_1431 ?_
  refine x_is (y := (xs 4)) (by rfl) ?_
  refine x_ki C w [16, 17, 20, 19] [0, 1, 2, 3, 4, 5, 6, 7, 8, 9, 10, 11, 12, 13, 14, 15, 18, 21, 22, 23, 24, 25, 26, 27, 28, 29, 30, 31, 32, 33, 34, 35, 36, 37, 38, 39] rfl rfl (by decide) (by decide) (va_runV (As := [.int (xs 1), .int (xs 2), .int (xs 3), .int (xs 4)]) (rest := []) (xfix C) (c367_X6_rangePut l G cy sa sv (a 31) (a 32) (a 35) (a 34) (a 33) (a 36) (a 37) (a 38) (xs 1) (xs 2) (xs 3) (xs 4) p0 p1 p2 p5 p4 (xtr C) _) (cwV 4 (xhts C) (xgV (maxL := 0) (cc := ⟨#[]⟩) (ret := none) gw_701 gw_702 gw_703 gw_58 gc_X6_rangePut) rfl rfl rfl (by decide +kernel) ⟨(Nat.le_of_ble_eq_true rfl), (Nat.le_of_ble_eq_true rfl)⟩) (xPV C w [16, 17, 20, 19] rfl (by decide) (ci := 10) (q0 := 16) rfl rfl) rfl rfl hl.1 rfl (lv_room (Nat.le_of_ble_eq_true rfl)) dL_law_1432 ⟨(Nat.le_of_ble_eq_true rfl), (Nat.le_of_ble_eq_true rfl)⟩) (fun f2304 H locs w => ?_)
  have w : xW G A s [((a 15), .inr (7, [.ref (a 16), .ref (a 18)])), ((a 16), .inr (6, [.ref (a 17), .int 0])), ((a 17), .inl (cy 1, 24, .inl (fun _ => 0))), ((a 18), .inr (6, [.ref (a 19), .int 0])), ((a 19), .inl (cy 1, 24, .inl (fun _ => 0))), ((a 20), .inl (cy 3, 3, .inr (.inr (.inr (.inr (va_up (va_up (va_up (fun _ => none) 0 (some (a 21))) 1 (some (a 22))) 2 (some (a 23)))))))), ((a 21), .inr (4, [.int 0, .int 0, .int 0])), ((a 22), .inr (4, [.int 0, .int 0, .int 0])), ((a 23), .inr (4, [.int 0, .int 0, .int 0])), ((a 24), .inr (6, [.ref (a 25), .int 0])), ((a 25), .inl (cy 1, 24, .inl (fun _ => 0))), ((a 26), .inr (7, [.ref (a 27), .ref (a 29)])), ((a 27), .inr (6, [.ref (a 28), .int 0])), ((a 28), .inl (cy 1, 24, .inl (fun _ => 0))), ((a 29), .inr (6, [.ref (a 30), .int 0])), ((a 30), .inl (cy 1, 24, .inl (fun _ => 0))), ((a 33), .inr (3, [.int 0, .ref (sv 0), .int 0])), ((a 36), .inl (cy 2, 3, .inl (fun _ => 0))), ((a 37), .inl (cy 1, 3, .inl (fun _ => 0))), ((a 38), .inl (cy 1, 3, .inl (fun _ => 0))), ((a 0), .inr (8, [.ref (a 1), .ref (a 6), .ref (a 8), .ref (a 15), .ref (a 20), .int 0, .ref (a 24), .ref (a 26)])), ((a 1), .inr (7, [.ref (a 2), .ref (a 4)])), ((a 2), .inr (6, [.ref (a 3), .int 1])), ((a 8), .inr (5, [.ref (a 9), .ref (a 11), .ref (a 13), .int 0])), ((a 9), .inr (6, [.ref (a 10), .int 1])), ((a 10), .inl (cy 1, 624, .inl (upd (fun _ => 0) 0 (xs 3)))), ((a 11), .inr (6, [.ref (a 12), .int 1])), ((a 12), .inl (cy 1, 624, .inl (upd (fun _ => 0) 0 (-1000)))), ((a 3), .inl (cy 1, 24, .inl (upd (fun _ => 0) 0 (xs 3)))), ((a 4), .inr (6, [.ref (a 5), .int 1])), ((a 5), .inl (cy 1, 24, .inl (upd (fun _ => 0) 0 (xs 4)))), ((a 6), .inr (6, [.ref (a 7), .int 1])), ((a 7), .inl (cy 1, 24, .inl (upd (fun _ => 0) 0 (xs 3)))), ((a 13), .inr (6, [.ref (a 14), .int 1])), ((a 14), .inl (cy 1, 12, .inl (upd (fun _ => 0) 0 1))), ((a 39), .inr (9, [.long (-1000), .null])), ((a 31), .inr (10, [.ref (a 32), .ref (a 33), .ref (a 34), .ref (f2304 5), .ref (a 36), .ref (a 37), .ref (a 38), .int 0, .int 0])), ((a 32), .inr (3, [.int 1, .ref (f2304 3), .int 1])), ((a 35), .inr (3, [.int 1, .ref (f2304 1), .int 1])), ((a 34), .inr (3, [.int 1, .ref (f2304 4), .int 1])), ((f2304 0), .inl (cy 1, 2, .inl (upd (upd (fun _ => 0) 0 (xs 3)) 1 (-1000)))), ((f2304 1), .inl (cy 4, 10, .inr (.inr (.inr (.inr (va_up (fun _ => none) 0 (some (f2304 0)))))))), ((f2304 2), .inl (cy 1, 2, .inl (upd (upd (fun _ => 0) 0 (xs 3)) 1 (xs 4)))), ((f2304 3), .inl (cy 4, 10, .inr (.inr (.inr (.inr (va_up (fun _ => none) 0 (some (f2304 2)))))))), ((f2304 4), .inl (cy 4, 10, .inr (.inr (.inr (.inr (va_up (fun _ => none) 0 (some (a 35)))))))), ((f2304 5), .inr (3, [.int 0, .ref (sv 0), .int 0]))] H _ := w
  refine W.widen (k := 46) (n := 1573) (Nat.le_of_ble_eq_true rfl) (Nat.le_of_ble_eq_true rfl) ?_
  refine lv_istore (lv' := [(6, .int (-1000)), (5, .int 0), (4, .int 0), (3, .ref (a 39)), (2, .ref (a 31)), (1, .ref (a 0)), (0, .ref b)]) C.1 C.2.1 dL_law_1435 hl (by decide) rfl (fun ls hl => ?_)
  refine lv_aload_n C.1 C.2.1 dL_law_1437 rfl (lv_at hl 4 rfl) ?_
  refine x_ki C w [36] [0, 1, 2, 3, 4, 5, 6, 7, 8, 9, 10, 11, 12, 13, 14, 15, 16, 17, 18, 19, 20, 21, 22, 23, 24, 25, 26, 27, 28, 29, 30, 31, 32, 33, 34, 35, 37, 38, 39, 40, 41, 42, 43, 44, 45] rfl rfl (by decide) (by decide) (va_runV (As := []) (rest := []) (xfix C) (c66_X6_thrown l G cy sa sv (a 31) (a 32) (a 33) (a 34) (f2304 5) (a 36) (a 37) (a 38) (xtr C) _) (cwV 0 (xhts C) (xgV (maxL := 0) (cc := ⟨#[]⟩) (ret := none) gw_122 gw_123 gw_124 gw_58 gc_X6_thrown) rfl rfl rfl (by decide +kernel) ⟨(Nat.le_of_ble_eq_true rfl), (Nat.le_of_ble_eq_true rfl)⟩) (xPV C w [36] rfl (by decide) (ci := 10) (q0 := 36) rfl rfl) rfl rfl hl.1 rfl (lv_room (Nat.le_of_ble_eq_true rfl)) dL_law_1438 ⟨(Nat.le_of_ble_eq_true rfl), (Nat.le_of_ble_eq_true rfl)⟩) (fun f2305 H locs w => ?_)
  have w : xW G A s [((a 15), .inr (7, [.ref (a 16), .ref (a 18)])), ((a 16), .inr (6, [.ref (a 17), .int 0])), ((a 17), .inl (cy 1, 24, .inl (fun _ => 0))), ((a 18), .inr (6, [.ref (a 19), .int 0])), ((a 19), .inl (cy 1, 24, .inl (fun _ => 0))), ((a 20), .inl (cy 3, 3, .inr (.inr (.inr (.inr (va_up (va_up (va_up (fun _ => none) 0 (some (a 21))) 1 (some (a 22))) 2 (some (a 23)))))))), ((a 21), .inr (4, [.int 0, .int 0, .int 0])), ((a 22), .inr (4, [.int 0, .int 0, .int 0])), ((a 23), .inr (4, [.int 0, .int 0, .int 0])), ((a 24), .inr (6, [.ref (a 25), .int 0])), ((a 25), .inl (cy 1, 24, .inl (fun _ => 0))), ((a 26), .inr (7, [.ref (a 27), .ref (a 29)])), ((a 27), .inr (6, [.ref (a 28), .int 0])), ((a 28), .inl (cy 1, 24, .inl (fun _ => 0))), ((a 29), .inr (6, [.ref (a 30), .int 0])), ((a 30), .inl (cy 1, 24, .inl (fun _ => 0))), ((a 33), .inr (3, [.int 0, .ref (sv 0), .int 0])), ((a 36), .inl (cy 2, 3, .inl (fun _ => 0))), ((a 37), .inl (cy 1, 3, .inl (fun _ => 0))), ((a 38), .inl (cy 1, 3, .inl (fun _ => 0))), ((a 0), .inr (8, [.ref (a 1), .ref (a 6), .ref (a 8), .ref (a 15), .ref (a 20), .int 0, .ref (a 24), .ref (a 26)])), ((a 1), .inr (7, [.ref (a 2), .ref (a 4)])), ((a 2), .inr (6, [.ref (a 3), .int 1])), ((a 8), .inr (5, [.ref (a 9), .ref (a 11), .ref (a 13), .int 0])), ((a 9), .inr (6, [.ref (a 10), .int 1])), ((a 10), .inl (cy 1, 624, .inl (upd (fun _ => 0) 0 (xs 3)))), ((a 11), .inr (6, [.ref (a 12), .int 1])), ((a 12), .inl (cy 1, 624, .inl (upd (fun _ => 0) 0 (-1000)))), ((a 3), .inl (cy 1, 24, .inl (upd (fun _ => 0) 0 (xs 3)))), ((a 4), .inr (6, [.ref (a 5), .int 1])), ((a 5), .inl (cy 1, 24, .inl (upd (fun _ => 0) 0 (xs 4)))), ((a 6), .inr (6, [.ref (a 7), .int 1])), ((a 7), .inl (cy 1, 24, .inl (upd (fun _ => 0) 0 (xs 3)))), ((a 13), .inr (6, [.ref (a 14), .int 1])), ((a 14), .inl (cy 1, 12, .inl (upd (fun _ => 0) 0 1))), ((a 39), .inr (9, [.long (-1000), .null])), ((a 32), .inr (3, [.int 1, .ref (f2304 3), .int 1])), ((a 35), .inr (3, [.int 1, .ref (f2304 1), .int 1])), ((a 34), .inr (3, [.int 1, .ref (f2304 4), .int 1])), ((f2304 0), .inl (cy 1, 2, .inl (upd (upd (fun _ => 0) 0 (xs 3)) 1 (-1000)))), ((f2304 1), .inl (cy 4, 10, .inr (.inr (.inr (.inr (va_up (fun _ => none) 0 (some (f2304 0)))))))), ((f2304 2), .inl (cy 1, 2, .inl (upd (upd (fun _ => 0) 0 (xs 3)) 1 (xs 4)))), ((f2304 3), .inl (cy 4, 10, .inr (.inr (.inr (.inr (va_up (fun _ => none) 0 (some (f2304 2)))))))), ((f2304 4), .inl (cy 4, 10, .inr (.inr (.inr (.inr (va_up (fun _ => none) 0 (some (a 35)))))))), ((f2304 5), .inr (3, [.int 0, .ref (sv 0), .int 0])), ((a 31), .inr (10, [.ref (a 32), .ref (a 33), .ref (a 34), .ref (f2304 5), .ref (a 36), .ref (a 37), .ref (a 38), .int 0, .int 0]))] H _ := w
  refine lv_iload C.1 C.2.1 dL_law_1441 (lv_at hl 1 rfl) ?_
  refine lv_icmp_eq (tgt := 1448) C.1 C.2.1 dL_law_1443 (by decide) (fun _ => ?_) (fun c9 => absurd (by decide) c9)
  refine lv_iload C.1 C.2.1 dL_law_1448 (lv_at hl 1 rfl) ?_
  refine lv_if_ne (tgt := 1466) C.1 C.2.1 dL_law_1450 (by decide) (fun c9 => absurd (by decide) c9) (fun _ => ?_)
  refine lv_aload_n C.1 C.2.1 dL_law_1453 rfl (lv_at hl 3 rfl) ?_
  refine x_getN (v := .long (-1000)) C w 35 9 0 (xin_X5 _) rfl rfl (by decide) (xs_f_n (xS C)) rfl rfl dL_law_1454 ?_
  refine lv_iload C.1 C.2.1 dL_law_1457 (lv_at hl 0 rfl) ?_
  refine lv_i2l (v := (-1000)) C.1 C.2.1 dL_law_1459 (by decide) ?_
  refine W.lcmp C.1 C.2.1 dL_law_1460 ?_
  refine x_is (y := 0) (by decide) ?_
  refine lv_if_eq (tgt := 1466) C.1 C.2.1 dL_law_1461 (by decide) (fun _ => ?_) (fun c9 => absurd (by decide) c9)
  refine lv_goto (tgt := 2509) C.1 C.2.1 dL_law_1466 (by decide) ?_
  refine lv_iinc (v := 5) (lv' := [(4, .int 5), (6, .int (-1000)), (5, .int 0), (3, .ref (a 39)), (2, .ref (a 31)), (1, .ref (a 0)), (0, .ref b)]) C.1 C.2.1 dL_law_2509 hl (k := 2) rfl (by decide) (by decide) rfl (fun ls hl => ?_)
  refine lv_goto (tgt := 27) C.1 C.2.1 dL_law_2512 (by decide) ?_
  refine lv_iload C.1 C.2.1 dL_law_27 (lv_at hl 0 rfl) ?_
  refine lv_aload_n C.1 C.2.1 dL_law_29 rfl (lv_at hl 6 rfl) ?_
  refine va_slen C.1 C.2.1 hX hbl hbA w.2.2 dL_law_30 ?_
  refine x_is (y := 5) (by decide) ?_
  refine lv_iconst (v := 5) C.1 C.2.1 dL_law_31 (by decide) ?_
  refine lv_isub C.1 C.2.1 dL_law_32 ?_
  refine x_is (y := 0) (by decide) ?_
  refine lv_icmp_gt (tgt := 2515) C.1 C.2.1 dL_law_33 (by decide) (fun _ => ?_) (fun c9 => absurd (by decide) c9)
  refine lv_iconst (v := 1) C.1 C.2.1 dL_law_2515 (by decide) ?_
  refine va_forget (fun q hq => hAl _ (w.2.2.2.2 q hq)) ?_
  refine W.widen (k := 600002) (n := 7302232) (Nat.le_of_ble_eq_true rfl) (Nat.le_of_ble_eq_true rfl) ?_
  exact lw_ret C.1 C.2.1 hr (xlk C) dL_law_2516
set_option maxHeartbeats 8000000 in
set_option maxRecDepth 100000 in
theorem law_24_63 {p : Program} {e : Env} {s : State} {m : MethodId} {below : List Frame} {meth : Method} {c : Code} {l : Launch} {G : va_G} {cy : Nat → ClassId} {sa : String → Nat → Nat} {sv : Nat → Nat} {A : Nat → Prop} {b : Nat} {xs : Nat → Int32} {a : Nat → Nat} {H : Heap} {locs : List Loc} {ls : Array Slot} (C : xC p l s m #[Value.ref b] meth c code 7 "TwinindexLaw" (Cond.initialized "TwinindexLaw" :: XG) G cy sa sv A) (hr : meth.sig.returnType = ret) (hX : va_X b 5 xs s s.heap) (hbl : b < s.heap.size) (hbA : ¬ A b) (hAl : ∀ q, A q → s.heap.size ≤ q) (w : xW G A s (xW0 cy sv a) H locs) (hl : lv_has ls 7 [(4, .int 0), (3, .ref (a 39)), (2, .ref (a 31)), (1, .ref (a 0)), (0, .ref b)]) (hk : ((xs 0) &&& 63) = 24) (p0 : ¬ (xs 4) < (-999)) (p1 : ¬ (xs 4) ≤ 999) : W p l e room_1 s m #[Value.ref b] below meth c H locs 40 1536 (lw_Z below #[Value.ref b] s) (F0 m 27 ls []) := by
  have w : xW G A s [((a 0), .inr (8, [.ref (a 1), .ref (a 6), .ref (a 8), .ref (a 15), .ref (a 20), .int 0, .ref (a 24), .ref (a 26)])), ((a 1), .inr (7, [.ref (a 2), .ref (a 4)])), ((a 2), .inr (6, [.ref (a 3), .int 0])), ((a 3), .inl (cy 1, 24, .inl (fun _ => 0))), ((a 4), .inr (6, [.ref (a 5), .int 0])), ((a 5), .inl (cy 1, 24, .inl (fun _ => 0))), ((a 6), .inr (6, [.ref (a 7), .int 0])), ((a 7), .inl (cy 1, 24, .inl (fun _ => 0))), ((a 8), .inr (5, [.ref (a 9), .ref (a 11), .ref (a 13), .int 0])), ((a 9), .inr (6, [.ref (a 10), .int 0])), ((a 10), .inl (cy 1, 624, .inl (fun _ => 0))), ((a 11), .inr (6, [.ref (a 12), .int 0])), ((a 12), .inl (cy 1, 624, .inl (fun _ => 0))), ((a 13), .inr (6, [.ref (a 14), .int 0])), ((a 14), .inl (cy 1, 12, .inl (fun _ => 0))), ((a 15), .inr (7, [.ref (a 16), .ref (a 18)])), ((a 16), .inr (6, [.ref (a 17), .int 0])), ((a 17), .inl (cy 1, 24, .inl (fun _ => 0))), ((a 18), .inr (6, [.ref (a 19), .int 0])), ((a 19), .inl (cy 1, 24, .inl (fun _ => 0))), ((a 20), .inl (cy 3, 3, .inr (.inr (.inr (.inr (va_up (va_up (va_up (fun _ => none) 0 (some (a 21))) 1 (some (a 22))) 2 (some (a 23)))))))), ((a 21), .inr (4, [.int 0, .int 0, .int 0])), ((a 22), .inr (4, [.int 0, .int 0, .int 0])), ((a 23), .inr (4, [.int 0, .int 0, .int 0])), ((a 24), .inr (6, [.ref (a 25), .int 0])), ((a 25), .inl (cy 1, 24, .inl (fun _ => 0))), ((a 26), .inr (7, [.ref (a 27), .ref (a 29)])), ((a 27), .inr (6, [.ref (a 28), .int 0])), ((a 28), .inl (cy 1, 24, .inl (fun _ => 0))), ((a 29), .inr (6, [.ref (a 30), .int 0])), ((a 30), .inl (cy 1, 24, .inl (fun _ => 0))), ((a 31), .inr (10, [.ref (a 32), .ref (a 33), .ref (a 34), .ref (a 35), .ref (a 36), .ref (a 37), .ref (a 38), .int 0, .int 0])), ((a 32), .inr (3, [.int 0, .ref (sv 0), .int 0])), ((a 33), .inr (3, [.int 0, .ref (sv 0), .int 0])), ((a 34), .inr (3, [.int 0, .ref (sv 0), .int 0])), ((a 35), .inr (3, [.int 0, .ref (sv 0), .int 0])), ((a 36), .inl (cy 2, 3, .inl (fun _ => 0))), ((a 37), .inl (cy 1, 3, .inl (fun _ => 0))), ((a 38), .inl (cy 1, 3, .inl (fun _ => 0))), ((a 39), .inr (9, [.long 0, .null]))] H _ := w
  refine lv_iload C.1 C.2.1 dL_law_27 (lv_at hl 0 rfl) ?_
  refine lv_aload_n C.1 C.2.1 dL_law_29 rfl (lv_at hl 4 rfl) ?_
  refine va_slen C.1 C.2.1 hX hbl hbA w.2.2 dL_law_30 ?_
  refine x_is (y := 5) (by decide) ?_
  refine lv_iconst (v := 5) C.1 C.2.1 dL_law_31 (by decide) ?_
  refine lv_isub C.1 C.2.1 dL_law_32 ?_
  refine x_is (y := 0) (by decide) ?_
  refine lv_icmp_gt (tgt := 2515) C.1 C.2.1 dL_law_33 (by decide) (fun c9 => absurd c9 (by decide)) (fun _ => ?_)
  refine lv_aload_n C.1 C.2.1 dL_law_36 rfl (lv_at hl 4 rfl) ?_
  refine lv_iload C.1 C.2.1 dL_law_37 (lv_at hl 0 rfl) ?_
  refine va_sld C.1 C.2.1 hX hbl hbA w.2.2 (xvin (by decide)) dL_law_39 ?_
  refine x_is (y := (xs 0)) (by rfl) ?_
  refine lv_bipush (v := 63) C.1 C.2.1 dL_law_40 (by decide) ?_
  refine lv_iand C.1 C.2.1 dL_law_42 ?_
  refine x_is (y := 24) hk ?_
  refine lv_tableIn (off := 1333) (tgt := 1376) C.1 C.2.1 dL_law_43 (by decide) (by decide) (by decide) (by decide) ?_
  refine lv_aload_n C.1 C.2.1 dL_law_1376 rfl (lv_at hl 3 rfl) ?_
  refine lv_aload_n C.1 C.2.1 dL_law_1377 rfl (lv_at hl 4 rfl) ?_
  refine lv_iload C.1 C.2.1 dL_law_1378 (lv_at hl 0 rfl) ?_
  refine lv_iconst (v := 1) C.1 C.2.1 dL_law_1380 (by decide) ?_
  refine lv_iadd C.1 C.2.1 dL_law_1381 ?_
  refine x_is (y := 1) (by decide) ?_
  refine va_sld C.1 C.2.1 hX hbl hbA w.2.2 (xvin (by decide)) dL_law_1382 ?_
  refine x_is (y := (xs 1)) (by rfl) ?_
  refine lv_aload_n C.1 C.2.1 dL_law_1383 rfl (lv_at hl 4 rfl) ?_
  refine lv_iload C.1 C.2.1 dL_law_1384 (lv_at hl 0 rfl) ?_
  refine lv_iconst (v := 2) C.1 C.2.1 dL_law_1386 (by decide) ?_
  refine lv_iadd C.1 C.2.1 dL_law_1387 ?_
  refine x_is (y := 2) (by decide) ?_
  refine va_sld C.1 C.2.1 hX hbl hbA w.2.2 (xvin (by decide)) dL_law_1388 ?_
  refine x_is (y := (xs 2)) (by rfl) ?_
  refine lv_aload_n C.1 C.2.1 dL_law_1389 rfl (lv_at hl 4 rfl) ?_
  refine lv_iload C.1 C.2.1 dL_law_1390 (lv_at hl 0 rfl) ?_
  refine lv_iconst (v := 3) C.1 C.2.1 dL_law_1392 (by decide) ?_
  refine lv_iadd C.1 C.2.1 dL_law_1393 ?_
  refine x_is (y := 3) (by decide) ?_
  refine va_sld C.1 C.2.1 hX hbl hbA w.2.2 (xvin (by decide)) dL_law_1394 ?_
  refine x_is (y := (xs 3)) (by rfl) ?_
  refine lv_aload_n C.1 C.2.1 dL_law_1395 rfl (lv_at hl 4 rfl) ?_
  refine lv_iload C.1 C.2.1 dL_law_1396 (lv_at hl 0 rfl) ?_
  refine lv_iconst (v := 4) C.1 C.2.1 dL_law_1398 (by decide) ?_
  refine lv_iadd C.1 C.2.1 dL_law_1399 ?_
  refine x_is (y := 4) (by decide) ?_
  refine va_sld C.1 C.2.1 hX hbl hbA w.2.2 (xvin (by decide)) dL_law_1400 ?_
  refine x_is (y := (xs 4)) (by rfl) ?_
  refine lv_aload_n C.1 C.2.1 dL_law_1401 rfl (lv_at hl 1 rfl) ?_
  refine x_ki C w [0] [1, 2, 3, 4, 5, 6, 7, 8, 9, 10, 11, 12, 13, 14, 15, 16, 17, 18, 19, 20, 21, 22, 23, 24, 25, 26, 27, 28, 29, 30, 31, 32, 33, 34, 35, 36, 37, 38, 39] rfl rfl (by decide) (by decide) (vx_runSW (As := [.ref (a 0), .int (xs 1), .int (xs 2), .int (xs 3), .int (xs 4), .ref (a 39)]) (rest := []) (xfix C) (c369_L_rangePut l G cy sa sv (a 0) (a 39) (a 1) (a 6) (a 8) (a 15) (a 20) (a 24) (a 26) (xs 1) (xs 2) (xs 3) (xs 4) p0 p1 (xtr C) _) (vx_cwSW 6 (xhts C) (xgS gw_698 gw_699 gw_106 gc_L_rangePut) rfl rfl rfl (by decide +kernel) ⟨(Nat.le_of_ble_eq_true rfl), (Nat.le_of_ble_eq_true rfl)⟩) (xPS C w [0] rfl (by decide)) rfl rfl hl.1 rfl (lv_room (Nat.le_of_ble_eq_true rfl)) dL_law_1402 ⟨(Nat.le_of_ble_eq_true rfl), (Nat.le_of_ble_eq_true rfl)⟩) (fun f2312 H locs w => ?_)
  have w : xW G A s [((a 1), .inr (7, [.ref (a 2), .ref (a 4)])), ((a 2), .inr (6, [.ref (a 3), .int 0])), ((a 3), .inl (cy 1, 24, .inl (fun _ => 0))), ((a 4), .inr (6, [.ref (a 5), .int 0])), ((a 5), .inl (cy 1, 24, .inl (fun _ => 0))), ((a 6), .inr (6, [.ref (a 7), .int 0])), ((a 7), .inl (cy 1, 24, .inl (fun _ => 0))), ((a 8), .inr (5, [.ref (a 9), .ref (a 11), .ref (a 13), .int 0])), ((a 9), .inr (6, [.ref (a 10), .int 0])), ((a 10), .inl (cy 1, 624, .inl (fun _ => 0))), ((a 11), .inr (6, [.ref (a 12), .int 0])), ((a 12), .inl (cy 1, 624, .inl (fun _ => 0))), ((a 13), .inr (6, [.ref (a 14), .int 0])), ((a 14), .inl (cy 1, 12, .inl (fun _ => 0))), ((a 15), .inr (7, [.ref (a 16), .ref (a 18)])), ((a 16), .inr (6, [.ref (a 17), .int 0])), ((a 17), .inl (cy 1, 24, .inl (fun _ => 0))), ((a 18), .inr (6, [.ref (a 19), .int 0])), ((a 19), .inl (cy 1, 24, .inl (fun _ => 0))), ((a 20), .inl (cy 3, 3, .inr (.inr (.inr (.inr (va_up (va_up (va_up (fun _ => none) 0 (some (a 21))) 1 (some (a 22))) 2 (some (a 23)))))))), ((a 21), .inr (4, [.int 0, .int 0, .int 0])), ((a 22), .inr (4, [.int 0, .int 0, .int 0])), ((a 23), .inr (4, [.int 0, .int 0, .int 0])), ((a 24), .inr (6, [.ref (a 25), .int 0])), ((a 25), .inl (cy 1, 24, .inl (fun _ => 0))), ((a 26), .inr (7, [.ref (a 27), .ref (a 29)])), ((a 27), .inr (6, [.ref (a 28), .int 0])), ((a 28), .inl (cy 1, 24, .inl (fun _ => 0))), ((a 29), .inr (6, [.ref (a 30), .int 0])), ((a 30), .inl (cy 1, 24, .inl (fun _ => 0))), ((a 31), .inr (10, [.ref (a 32), .ref (a 33), .ref (a 34), .ref (a 35), .ref (a 36), .ref (a 37), .ref (a 38), .int 0, .int 0])), ((a 32), .inr (3, [.int 0, .ref (sv 0), .int 0])), ((a 33), .inr (3, [.int 0, .ref (sv 0), .int 0])), ((a 34), .inr (3, [.int 0, .ref (sv 0), .int 0])), ((a 35), .inr (3, [.int 0, .ref (sv 0), .int 0])), ((a 36), .inl (cy 2, 3, .inl (fun _ => 0))), ((a 37), .inl (cy 1, 3, .inl (fun _ => 0))), ((a 38), .inl (cy 1, 3, .inl (fun _ => 0))), ((a 39), .inr (9, [.long 0, .null])), ((a 0), .inr (8, [.ref (a 1), .ref (a 6), .ref (a 8), .ref (a 15), .ref (a 20), .int 0, .ref (a 24), .ref (a 26)]))] H _ := w
  refine W.widen (k := 41) (n := 1542) (Nat.le_of_ble_eq_true rfl) (Nat.le_of_ble_eq_true rfl) ?_
  refine lv_istore (lv' := [(5, .int 1), (4, .int 0), (3, .ref (a 39)), (2, .ref (a 31)), (1, .ref (a 0)), (0, .ref b)]) C.1 C.2.1 dL_law_1405 hl (by decide) rfl (fun ls hl => ?_)
  refine lv_aload_n C.1 C.2.1 dL_law_1407 rfl (lv_at hl 3 rfl) ?_
  refine lv_aload_n C.1 C.2.1 dL_law_1408 rfl (lv_at hl 5 rfl) ?_
  refine lv_iload C.1 C.2.1 dL_law_1409 (lv_at hl 1 rfl) ?_
  refine lv_iconst (v := 1) C.1 C.2.1 dL_law_1411 (by decide) ?_
  refine lv_iadd C.1 C.2.1 dL_law_1412 ?_
  refine x_is (y := 1) (by decide) ?_
  refine va_sld C.1 C.2.1 hX hbl hbA w.2.2 (xvin (by decide)) dL_law_1413 ?_
  refine x_is (y := (xs 1)) (by rfl) ?_
  refine lv_aload_n C.1 C.2.1 dL_law_1414 rfl (lv_at hl 5 rfl) ?_
  refine lv_iload C.1 C.2.1 dL_law_1415 (lv_at hl 1 rfl) ?_
  refine lv_iconst (v := 2) C.1 C.2.1 dL_law_1417 (by decide) ?_
  refine lv_iadd C.1 C.2.1 dL_law_1418 ?_
  refine x_is (y := 2) (by decide) ?_
  refine va_sld C.1 C.2.1 hX hbl hbA w.2.2 (xvin (by decide)) dL_law_1419 ?_
  refine x_is (y := (xs 2)) (by rfl) ?_
  refine lv_aload_n C.1 C.2.1 dL_law_1420 rfl (lv_at hl 5 rfl) ?_
  refine lv_iload C.1 C.2.1 dL_law_1421 (lv_at hl 1 rfl) ?_
  refine lv_iconst (v := 3) C.1 C.2.1 dL_law_1423 (by decide) ?_
  refine lv_iadd C.1 C.2.1 dL_law_1424 ?_
  refine x_is (y := 3) (by decide) ?_
  refine va_sld C.1 C.2.1 hX hbl hbA w.2.2 (xvin (by decide)) dL_law_1425 ?_
  refine x_is (y := (xs 3)) (by rfl) ?_
  refine lv_aload_n C.1 C.2.1 dL_law_1426 rfl (lv_at hl 5 rfl) ?_
  refine lv_iload C.1 C.2.1 dL_law_1427 (lv_at hl 1 rfl) ?_
  refine lv_iconst (v := 4) C.1 C.2.1 dL_law_1429 (by decide) ?_
  refine lv_iadd C.1 C.2.1 dL_law_1430 ?_
  refine x_is (y := 4) (by decide) ?_
  refine va_sld C.1 C.2.1 hX hbl hbA w.2.2 (xvin (by decide)) dL_law_1431 ?_
  refine x_is (y := (xs 4)) (by rfl) ?_
  refine x_ki C w [30] [0, 1, 2, 3, 4, 5, 6, 7, 8, 9, 10, 11, 12, 13, 14, 15, 16, 17, 18, 19, 20, 21, 22, 23, 24, 25, 26, 27, 28, 29, 31, 32, 33, 34, 35, 36, 37, 38, 39] rfl rfl (by decide) (by decide) (va_runV (As := [.int (xs 1), .int (xs 2), .int (xs 3), .int (xs 4)]) (rest := []) (xfix C) (c370_X6_rangePut l G cy sa sv (a 31) (a 32) (a 33) (a 34) (a 35) (a 36) (a 37) (a 38) (xs 1) (xs 2) (xs 3) (xs 4) p0 p1 (xtr C) _) (cwV 4 (xhts C) (xgV (maxL := 0) (cc := ⟨#[]⟩) (ret := none) gw_701 gw_702 gw_703 gw_58 gc_X6_rangePut) rfl rfl rfl (by decide +kernel) ⟨(Nat.le_of_ble_eq_true rfl), (Nat.le_of_ble_eq_true rfl)⟩) (xPV C w [30] rfl (by decide) (ci := 10) (q0 := 30) rfl rfl) rfl rfl hl.1 rfl (lv_room (Nat.le_of_ble_eq_true rfl)) dL_law_1432 ⟨(Nat.le_of_ble_eq_true rfl), (Nat.le_of_ble_eq_true rfl)⟩) (fun f2315 H locs w => ?_)
  have w : xW G A s [((a 1), .inr (7, [.ref (a 2), .ref (a 4)])), ((a 2), .inr (6, [.ref (a 3), .int 0])), ((a 3), .inl (cy 1, 24, .inl (fun _ => 0))), ((a 4), .inr (6, [.ref (a 5), .int 0])), ((a 5), .inl (cy 1, 24, .inl (fun _ => 0))), ((a 6), .inr (6, [.ref (a 7), .int 0])), ((a 7), .inl (cy 1, 24, .inl (fun _ => 0))), ((a 8), .inr (5, [.ref (a 9), .ref (a 11), .ref (a 13), .int 0])), ((a 9), .inr (6, [.ref (a 10), .int 0])), ((a 10), .inl (cy 1, 624, .inl (fun _ => 0))), ((a 11), .inr (6, [.ref (a 12), .int 0])), ((a 12), .inl (cy 1, 624, .inl (fun _ => 0))), ((a 13), .inr (6, [.ref (a 14), .int 0])), ((a 14), .inl (cy 1, 12, .inl (fun _ => 0))), ((a 15), .inr (7, [.ref (a 16), .ref (a 18)])), ((a 16), .inr (6, [.ref (a 17), .int 0])), ((a 17), .inl (cy 1, 24, .inl (fun _ => 0))), ((a 18), .inr (6, [.ref (a 19), .int 0])), ((a 19), .inl (cy 1, 24, .inl (fun _ => 0))), ((a 20), .inl (cy 3, 3, .inr (.inr (.inr (.inr (va_up (va_up (va_up (fun _ => none) 0 (some (a 21))) 1 (some (a 22))) 2 (some (a 23)))))))), ((a 21), .inr (4, [.int 0, .int 0, .int 0])), ((a 22), .inr (4, [.int 0, .int 0, .int 0])), ((a 23), .inr (4, [.int 0, .int 0, .int 0])), ((a 24), .inr (6, [.ref (a 25), .int 0])), ((a 25), .inl (cy 1, 24, .inl (fun _ => 0))), ((a 26), .inr (7, [.ref (a 27), .ref (a 29)])), ((a 27), .inr (6, [.ref (a 28), .int 0])), ((a 28), .inl (cy 1, 24, .inl (fun _ => 0))), ((a 29), .inr (6, [.ref (a 30), .int 0])), ((a 30), .inl (cy 1, 24, .inl (fun _ => 0))), ((a 32), .inr (3, [.int 0, .ref (sv 0), .int 0])), ((a 33), .inr (3, [.int 0, .ref (sv 0), .int 0])), ((a 34), .inr (3, [.int 0, .ref (sv 0), .int 0])), ((a 35), .inr (3, [.int 0, .ref (sv 0), .int 0])), ((a 36), .inl (cy 2, 3, .inl (fun _ => 0))), ((a 37), .inl (cy 1, 3, .inl (fun _ => 0))), ((a 38), .inl (cy 1, 3, .inl (fun _ => 0))), ((a 39), .inr (9, [.long 0, .null])), ((a 0), .inr (8, [.ref (a 1), .ref (a 6), .ref (a 8), .ref (a 15), .ref (a 20), .int 0, .ref (a 24), .ref (a 26)])), ((a 31), .inr (10, [.ref (a 32), .ref (a 33), .ref (a 34), .ref (a 35), .ref (a 36), .ref (a 37), .ref (a 38), .int 0, .int 1]))] H _ := w
  refine lv_istore (lv' := [(6, .int 0), (5, .int 1), (4, .int 0), (3, .ref (a 39)), (2, .ref (a 31)), (1, .ref (a 0)), (0, .ref b)]) C.1 C.2.1 dL_law_1435 hl (by decide) rfl (fun ls hl => ?_)
  refine lv_aload_n C.1 C.2.1 dL_law_1437 rfl (lv_at hl 4 rfl) ?_
  refine x_ki C w [39] [0, 1, 2, 3, 4, 5, 6, 7, 8, 9, 10, 11, 12, 13, 14, 15, 16, 17, 18, 19, 20, 21, 22, 23, 24, 25, 26, 27, 28, 29, 30, 31, 32, 33, 34, 35, 36, 37, 38] rfl rfl (by decide) (by decide) (va_runV (As := []) (rest := []) (xfix C) (c19_X6_thrown l G cy sa sv (a 31) (a 32) (a 33) (a 34) (a 35) (a 36) (a 37) (a 38) (xtr C) _) (cwV 0 (xhts C) (xgV (maxL := 0) (cc := ⟨#[]⟩) (ret := none) gw_122 gw_123 gw_124 gw_58 gc_X6_thrown) rfl rfl rfl (by decide +kernel) ⟨(Nat.le_of_ble_eq_true rfl), (Nat.le_of_ble_eq_true rfl)⟩) (xPV C w [39] rfl (by decide) (ci := 10) (q0 := 39) rfl rfl) rfl rfl hl.1 rfl (lv_room (Nat.le_of_ble_eq_true rfl)) dL_law_1438 ⟨(Nat.le_of_ble_eq_true rfl), (Nat.le_of_ble_eq_true rfl)⟩) (fun f2316 H locs w => ?_)
  have w : xW G A s [((a 1), .inr (7, [.ref (a 2), .ref (a 4)])), ((a 2), .inr (6, [.ref (a 3), .int 0])), ((a 3), .inl (cy 1, 24, .inl (fun _ => 0))), ((a 4), .inr (6, [.ref (a 5), .int 0])), ((a 5), .inl (cy 1, 24, .inl (fun _ => 0))), ((a 6), .inr (6, [.ref (a 7), .int 0])), ((a 7), .inl (cy 1, 24, .inl (fun _ => 0))), ((a 8), .inr (5, [.ref (a 9), .ref (a 11), .ref (a 13), .int 0])), ((a 9), .inr (6, [.ref (a 10), .int 0])), ((a 10), .inl (cy 1, 624, .inl (fun _ => 0))), ((a 11), .inr (6, [.ref (a 12), .int 0])), ((a 12), .inl (cy 1, 624, .inl (fun _ => 0))), ((a 13), .inr (6, [.ref (a 14), .int 0])), ((a 14), .inl (cy 1, 12, .inl (fun _ => 0))), ((a 15), .inr (7, [.ref (a 16), .ref (a 18)])), ((a 16), .inr (6, [.ref (a 17), .int 0])), ((a 17), .inl (cy 1, 24, .inl (fun _ => 0))), ((a 18), .inr (6, [.ref (a 19), .int 0])), ((a 19), .inl (cy 1, 24, .inl (fun _ => 0))), ((a 20), .inl (cy 3, 3, .inr (.inr (.inr (.inr (va_up (va_up (va_up (fun _ => none) 0 (some (a 21))) 1 (some (a 22))) 2 (some (a 23)))))))), ((a 21), .inr (4, [.int 0, .int 0, .int 0])), ((a 22), .inr (4, [.int 0, .int 0, .int 0])), ((a 23), .inr (4, [.int 0, .int 0, .int 0])), ((a 24), .inr (6, [.ref (a 25), .int 0])), ((a 25), .inl (cy 1, 24, .inl (fun _ => 0))), ((a 26), .inr (7, [.ref (a 27), .ref (a 29)])), ((a 27), .inr (6, [.ref (a 28), .int 0])), ((a 28), .inl (cy 1, 24, .inl (fun _ => 0))), ((a 29), .inr (6, [.ref (a 30), .int 0])), ((a 30), .inl (cy 1, 24, .inl (fun _ => 0))), ((a 32), .inr (3, [.int 0, .ref (sv 0), .int 0])), ((a 33), .inr (3, [.int 0, .ref (sv 0), .int 0])), ((a 34), .inr (3, [.int 0, .ref (sv 0), .int 0])), ((a 35), .inr (3, [.int 0, .ref (sv 0), .int 0])), ((a 36), .inl (cy 2, 3, .inl (fun _ => 0))), ((a 37), .inl (cy 1, 3, .inl (fun _ => 0))), ((a 38), .inl (cy 1, 3, .inl (fun _ => 0))), ((a 39), .inr (9, [.long 0, .null])), ((a 0), .inr (8, [.ref (a 1), .ref (a 6), .ref (a 8), .ref (a 15), .ref (a 20), .int 0, .ref (a 24), .ref (a 26)])), ((a 31), .inr (10, [.ref (a 32), .ref (a 33), .ref (a 34), .ref (a 35), .ref (a 36), .ref (a 37), .ref (a 38), .int 0, .int 1]))] H _ := w
  refine lv_iload C.1 C.2.1 dL_law_1441 (lv_at hl 1 rfl) ?_
  refine lv_icmp_eq (tgt := 1448) C.1 C.2.1 dL_law_1443 (by decide) (fun _ => ?_) (fun c9 => absurd (by decide) c9)
  refine lv_iload C.1 C.2.1 dL_law_1448 (lv_at hl 1 rfl) ?_
  refine lv_if_ne (tgt := 1466) C.1 C.2.1 dL_law_1450 (by decide) (fun _ => ?_) (fun c9 => absurd c9 (by decide))
  refine lv_goto (tgt := 2509) C.1 C.2.1 dL_law_1466 (by decide) ?_
  refine lv_iinc (v := 5) (lv' := [(4, .int 5), (6, .int 0), (5, .int 1), (3, .ref (a 39)), (2, .ref (a 31)), (1, .ref (a 0)), (0, .ref b)]) C.1 C.2.1 dL_law_2509 hl (k := 2) rfl (by decide) (by decide) rfl (fun ls hl => ?_)
  refine lv_goto (tgt := 27) C.1 C.2.1 dL_law_2512 (by decide) ?_
  refine lv_iload C.1 C.2.1 dL_law_27 (lv_at hl 0 rfl) ?_
  refine lv_aload_n C.1 C.2.1 dL_law_29 rfl (lv_at hl 6 rfl) ?_
  refine va_slen C.1 C.2.1 hX hbl hbA w.2.2 dL_law_30 ?_
  refine x_is (y := 5) (by decide) ?_
  refine lv_iconst (v := 5) C.1 C.2.1 dL_law_31 (by decide) ?_
  refine lv_isub C.1 C.2.1 dL_law_32 ?_
  refine x_is (y := 0) (by decide) ?_
  refine lv_icmp_gt (tgt := 2515) C.1 C.2.1 dL_law_33 (by decide) (fun _ => ?_) (fun c9 => absurd (by decide) c9)
  refine lv_iconst (v := 1) C.1 C.2.1 dL_law_2515 (by decide) ?_
  refine va_forget (fun q hq => hAl _ (w.2.2.2.2 q hq)) ?_
  refine W.widen (k := 600002) (n := 7302232) (Nat.le_of_ble_eq_true rfl) (Nat.le_of_ble_eq_true rfl) ?_
  exact lw_ret C.1 C.2.1 hr (xlk C) dL_law_2516
set_option maxHeartbeats 8000000 in
set_option maxRecDepth 100000 in
theorem law_25_64 {p : Program} {e : Env} {s : State} {m : MethodId} {below : List Frame} {meth : Method} {c : Code} {l : Launch} {G : va_G} {cy : Nat → ClassId} {sa : String → Nat → Nat} {sv : Nat → Nat} {A : Nat → Prop} {b : Nat} {xs : Nat → Int32} {a : Nat → Nat} {H : Heap} {locs : List Loc} {ls : Array Slot} (C : xC p l s m #[Value.ref b] meth c code 7 "TwinindexLaw" (Cond.initialized "TwinindexLaw" :: XG) G cy sa sv A) (hr : meth.sig.returnType = ret) (hX : va_X b 5 xs s s.heap) (hbl : b < s.heap.size) (hbA : ¬ A b) (hAl : ∀ q, A q → s.heap.size ≤ q) (w : xW G A s (xW0 cy sv a) H locs) (hl : lv_has ls 7 [(4, .int 0), (3, .ref (a 39)), (2, .ref (a 31)), (1, .ref (a 0)), (0, .ref b)]) (hk : ((xs 0) &&& 63) = 25) (p0 : (xs 3) = 0) (p1 : (xs 1) ≤ (xs 2)) : W p l e room_1 s m #[Value.ref b] below meth c H locs 40 1536 (lw_Z below #[Value.ref b] s) (F0 m 27 ls []) := by
  have w : xW G A s [((a 0), .inr (8, [.ref (a 1), .ref (a 6), .ref (a 8), .ref (a 15), .ref (a 20), .int 0, .ref (a 24), .ref (a 26)])), ((a 1), .inr (7, [.ref (a 2), .ref (a 4)])), ((a 2), .inr (6, [.ref (a 3), .int 0])), ((a 3), .inl (cy 1, 24, .inl (fun _ => 0))), ((a 4), .inr (6, [.ref (a 5), .int 0])), ((a 5), .inl (cy 1, 24, .inl (fun _ => 0))), ((a 6), .inr (6, [.ref (a 7), .int 0])), ((a 7), .inl (cy 1, 24, .inl (fun _ => 0))), ((a 8), .inr (5, [.ref (a 9), .ref (a 11), .ref (a 13), .int 0])), ((a 9), .inr (6, [.ref (a 10), .int 0])), ((a 10), .inl (cy 1, 624, .inl (fun _ => 0))), ((a 11), .inr (6, [.ref (a 12), .int 0])), ((a 12), .inl (cy 1, 624, .inl (fun _ => 0))), ((a 13), .inr (6, [.ref (a 14), .int 0])), ((a 14), .inl (cy 1, 12, .inl (fun _ => 0))), ((a 15), .inr (7, [.ref (a 16), .ref (a 18)])), ((a 16), .inr (6, [.ref (a 17), .int 0])), ((a 17), .inl (cy 1, 24, .inl (fun _ => 0))), ((a 18), .inr (6, [.ref (a 19), .int 0])), ((a 19), .inl (cy 1, 24, .inl (fun _ => 0))), ((a 20), .inl (cy 3, 3, .inr (.inr (.inr (.inr (va_up (va_up (va_up (fun _ => none) 0 (some (a 21))) 1 (some (a 22))) 2 (some (a 23)))))))), ((a 21), .inr (4, [.int 0, .int 0, .int 0])), ((a 22), .inr (4, [.int 0, .int 0, .int 0])), ((a 23), .inr (4, [.int 0, .int 0, .int 0])), ((a 24), .inr (6, [.ref (a 25), .int 0])), ((a 25), .inl (cy 1, 24, .inl (fun _ => 0))), ((a 26), .inr (7, [.ref (a 27), .ref (a 29)])), ((a 27), .inr (6, [.ref (a 28), .int 0])), ((a 28), .inl (cy 1, 24, .inl (fun _ => 0))), ((a 29), .inr (6, [.ref (a 30), .int 0])), ((a 30), .inl (cy 1, 24, .inl (fun _ => 0))), ((a 31), .inr (10, [.ref (a 32), .ref (a 33), .ref (a 34), .ref (a 35), .ref (a 36), .ref (a 37), .ref (a 38), .int 0, .int 0])), ((a 32), .inr (3, [.int 0, .ref (sv 0), .int 0])), ((a 33), .inr (3, [.int 0, .ref (sv 0), .int 0])), ((a 34), .inr (3, [.int 0, .ref (sv 0), .int 0])), ((a 35), .inr (3, [.int 0, .ref (sv 0), .int 0])), ((a 36), .inl (cy 2, 3, .inl (fun _ => 0))), ((a 37), .inl (cy 1, 3, .inl (fun _ => 0))), ((a 38), .inl (cy 1, 3, .inl (fun _ => 0))), ((a 39), .inr (9, [.long 0, .null]))] H _ := w
  refine lv_iload C.1 C.2.1 dL_law_27 (lv_at hl 0 rfl) ?_
  refine lv_aload_n C.1 C.2.1 dL_law_29 rfl (lv_at hl 4 rfl) ?_
  refine va_slen C.1 C.2.1 hX hbl hbA w.2.2 dL_law_30 ?_
  refine x_is (y := 5) (by decide) ?_
  refine lv_iconst (v := 5) C.1 C.2.1 dL_law_31 (by decide) ?_
  refine lv_isub C.1 C.2.1 dL_law_32 ?_
  refine x_is (y := 0) (by decide) ?_
  refine lv_icmp_gt (tgt := 2515) C.1 C.2.1 dL_law_33 (by decide) (fun c9 => absurd c9 (by decide)) (fun _ => ?_)
  refine lv_aload_n C.1 C.2.1 dL_law_36 rfl (lv_at hl 4 rfl) ?_
  refine lv_iload C.1 C.2.1 dL_law_37 (lv_at hl 0 rfl) ?_
  refine va_sld C.1 C.2.1 hX hbl hbA w.2.2 (xvin (by decide)) dL_law_39 ?_
  refine x_is (y := (xs 0)) (by rfl) ?_
  refine lv_bipush (v := 63) C.1 C.2.1 dL_law_40 (by decide) ?_
  refine lv_iand C.1 C.2.1 dL_law_42 ?_
  refine x_is (y := 25) hk ?_
  refine lv_tableIn (off := 1426) (tgt := 1469) C.1 C.2.1 dL_law_43 (by decide) (by decide) (by decide) (by decide) ?_
  refine lv_aload_n C.1 C.2.1 dL_law_1469 rfl (lv_at hl 3 rfl) ?_
  refine lv_aload_n C.1 C.2.1 dL_law_1470 rfl (lv_at hl 4 rfl) ?_
  refine lv_iload C.1 C.2.1 dL_law_1471 (lv_at hl 0 rfl) ?_
  refine lv_iconst (v := 1) C.1 C.2.1 dL_law_1473 (by decide) ?_
  refine lv_iadd C.1 C.2.1 dL_law_1474 ?_
  refine x_is (y := 1) (by decide) ?_
  refine va_sld C.1 C.2.1 hX hbl hbA w.2.2 (xvin (by decide)) dL_law_1475 ?_
  refine x_is (y := (xs 1)) (by rfl) ?_
  refine lv_aload_n C.1 C.2.1 dL_law_1476 rfl (lv_at hl 4 rfl) ?_
  refine lv_iload C.1 C.2.1 dL_law_1477 (lv_at hl 0 rfl) ?_
  refine lv_iconst (v := 2) C.1 C.2.1 dL_law_1479 (by decide) ?_
  refine lv_iadd C.1 C.2.1 dL_law_1480 ?_
  refine x_is (y := 2) (by decide) ?_
  refine va_sld C.1 C.2.1 hX hbl hbA w.2.2 (xvin (by decide)) dL_law_1481 ?_
  refine x_is (y := (xs 2)) (by rfl) ?_
  refine lv_aload_n C.1 C.2.1 dL_law_1482 rfl (lv_at hl 4 rfl) ?_
  refine lv_iload C.1 C.2.1 dL_law_1483 (lv_at hl 0 rfl) ?_
  refine lv_iconst (v := 3) C.1 C.2.1 dL_law_1485 (by decide) ?_
  refine lv_iadd C.1 C.2.1 dL_law_1486 ?_
  refine x_is (y := 3) (by decide) ?_
  refine va_sld C.1 C.2.1 hX hbl hbA w.2.2 (xvin (by decide)) dL_law_1487 ?_
  refine x_is (y := (xs 3)) (by rfl) ?_
  refine lv_if_eq (tgt := 1495) C.1 C.2.1 dL_law_1488 (by decide) (fun _ => ?_) (fun c9 => absurd p0 c9)
  refine lv_iconst (v := 0) C.1 C.2.1 dL_law_1495 (by decide) ?_
  refine lv_aload_n C.1 C.2.1 dL_law_1496 rfl (lv_at hl 1 rfl) ?_
  refine x_ki C w [0, 1, 2] [3, 4, 5, 6, 7, 8, 9, 10, 11, 12, 13, 14, 15, 16, 17, 18, 19, 20, 21, 22, 23, 24, 25, 26, 27, 28, 29, 30, 31, 32, 33, 34, 35, 36, 37, 38, 39] rfl rfl (by decide) (by decide) (vx_runSW (As := [.ref (a 0), .int (xs 1), .int (xs 2), .int 0, .ref (a 39)]) (rest := []) (xfix C) (c372_L_rangePoll l G cy sa sv (a 0) (a 39) (a 1) (a 2) (a 6) (a 8) (a 15) (a 20) (a 24) (a 26) (a 4) (a 3) (xs 1) (xs 2) p1 (xtr C) _) (vx_cwSW 5 (xhts C) (xgS gw_708 gw_709 gw_106 gc_L_rangePoll) rfl rfl rfl (by decide +kernel) ⟨(Nat.le_of_ble_eq_true rfl), (Nat.le_of_ble_eq_true rfl)⟩) (xPS C w [0, 1, 2] rfl (by decide)) rfl rfl hl.1 rfl (lv_room (Nat.le_of_ble_eq_true rfl)) dL_law_1497 ⟨(Nat.le_of_ble_eq_true rfl), (Nat.le_of_ble_eq_true rfl)⟩) (fun f2337 H locs w => ?_)
  have w : xW G A s [((a 3), .inl (cy 1, 24, .inl (fun _ => 0))), ((a 4), .inr (6, [.ref (a 5), .int 0])), ((a 5), .inl (cy 1, 24, .inl (fun _ => 0))), ((a 6), .inr (6, [.ref (a 7), .int 0])), ((a 7), .inl (cy 1, 24, .inl (fun _ => 0))), ((a 8), .inr (5, [.ref (a 9), .ref (a 11), .ref (a 13), .int 0])), ((a 9), .inr (6, [.ref (a 10), .int 0])), ((a 10), .inl (cy 1, 624, .inl (fun _ => 0))), ((a 11), .inr (6, [.ref (a 12), .int 0])), ((a 12), .inl (cy 1, 624, .inl (fun _ => 0))), ((a 13), .inr (6, [.ref (a 14), .int 0])), ((a 14), .inl (cy 1, 12, .inl (fun _ => 0))), ((a 15), .inr (7, [.ref (a 16), .ref (a 18)])), ((a 16), .inr (6, [.ref (a 17), .int 0])), ((a 17), .inl (cy 1, 24, .inl (fun _ => 0))), ((a 18), .inr (6, [.ref (a 19), .int 0])), ((a 19), .inl (cy 1, 24, .inl (fun _ => 0))), ((a 20), .inl (cy 3, 3, .inr (.inr (.inr (.inr (va_up (va_up (va_up (fun _ => none) 0 (some (a 21))) 1 (some (a 22))) 2 (some (a 23)))))))), ((a 21), .inr (4, [.int 0, .int 0, .int 0])), ((a 22), .inr (4, [.int 0, .int 0, .int 0])), ((a 23), .inr (4, [.int 0, .int 0, .int 0])), ((a 24), .inr (6, [.ref (a 25), .int 0])), ((a 25), .inl (cy 1, 24, .inl (fun _ => 0))), ((a 26), .inr (7, [.ref (a 27), .ref (a 29)])), ((a 27), .inr (6, [.ref (a 28), .int 0])), ((a 28), .inl (cy 1, 24, .inl (fun _ => 0))), ((a 29), .inr (6, [.ref (a 30), .int 0])), ((a 30), .inl (cy 1, 24, .inl (fun _ => 0))), ((a 31), .inr (10, [.ref (a 32), .ref (a 33), .ref (a 34), .ref (a 35), .ref (a 36), .ref (a 37), .ref (a 38), .int 0, .int 0])), ((a 32), .inr (3, [.int 0, .ref (sv 0), .int 0])), ((a 33), .inr (3, [.int 0, .ref (sv 0), .int 0])), ((a 34), .inr (3, [.int 0, .ref (sv 0), .int 0])), ((a 35), .inr (3, [.int 0, .ref (sv 0), .int 0])), ((a 36), .inl (cy 2, 3, .inl (fun _ => 0))), ((a 37), .inl (cy 1, 3, .inl (fun _ => 0))), ((a 38), .inl (cy 1, 3, .inl (fun _ => 0))), ((a 39), .inr (9, [.long 0, .null])), ((a 0), .inr (8, [.ref (a 1), .ref (a 6), .ref (a 8), .ref (a 15), .ref (a 20), .int 0, .ref (a 24), .ref (a 26)])), ((a 1), .inr (7, [.ref (a 2), .ref (a 4)])), ((a 2), .inr (6, [.ref (a 3), .int 0]))] H _ := w
  refine W.widen (k := 41) (n := 1542) (Nat.le_of_ble_eq_true rfl) (Nat.le_of_ble_eq_true rfl) ?_
  refine lv_istore (lv' := [(5, .int 2), (4, .int 0), (3, .ref (a 39)), (2, .ref (a 31)), (1, .ref (a 0)), (0, .ref b)]) C.1 C.2.1 dL_law_1500 hl (by decide) rfl (fun ls hl => ?_)
  refine lv_aload_n C.1 C.2.1 dL_law_1502 rfl (lv_at hl 3 rfl) ?_
  refine lv_aload_n C.1 C.2.1 dL_law_1503 rfl (lv_at hl 5 rfl) ?_
  refine lv_iload C.1 C.2.1 dL_law_1504 (lv_at hl 1 rfl) ?_
  refine lv_iconst (v := 1) C.1 C.2.1 dL_law_1506 (by decide) ?_
  refine lv_iadd C.1 C.2.1 dL_law_1507 ?_
  refine x_is (y := 1) (by decide) ?_
  refine va_sld C.1 C.2.1 hX hbl hbA w.2.2 (xvin (by decide)) dL_law_1508 ?_
  refine x_is (y := (xs 1)) (by rfl) ?_
  refine lv_aload_n C.1 C.2.1 dL_law_1509 rfl (lv_at hl 5 rfl) ?_
  refine lv_iload C.1 C.2.1 dL_law_1510 (lv_at hl 1 rfl) ?_
  refine lv_iconst (v := 2) C.1 C.2.1 dL_law_1512 (by decide) ?_
  refine lv_iadd C.1 C.2.1 dL_law_1513 ?_
  refine x_is (y := 2) (by decide) ?_
  refine va_sld C.1 C.2.1 hX hbl hbA w.2.2 (xvin (by decide)) dL_law_1514 ?_
  refine x_is (y := (xs 2)) (by rfl) ?_
  refine lv_aload_n C.1 C.2.1 dL_law_1515 rfl (lv_at hl 5 rfl) ?_
  refine lv_iload C.1 C.2.1 dL_law_1516 (lv_at hl 1 rfl) ?_
  refine lv_iconst (v := 3) C.1 C.2.1 dL_law_1518 (by decide) ?_
  refine lv_iadd C.1 C.2.1 dL_law_1519 ?_
  refine x_is (y := 3) (by decide) ?_
  refine va_sld C.1 C.2.1 hX hbl hbA w.2.2 (xvin (by decide)) dL_law_1520 ?_
  refine x_is (y := (xs 3)) (by rfl) ?_
  refine lv_if_eq (tgt := 1528) C.1 C.2.1 dL_law_1521 (by decide) (fun _ => ?_) (fun c9 => absurd p0 c9)
  refine lv_iconst (v := 0) C.1 C.2.1 dL_law_1528 (by decide) ?_
  refine x_ki C w [28, 29] [0, 1, 2, 3, 4, 5, 6, 7, 8, 9, 10, 11, 12, 13, 14, 15, 16, 17, 18, 19, 20, 21, 22, 23, 24, 25, 26, 27, 30, 31, 32, 33, 34, 35, 36, 37, 38, 39] rfl rfl (by decide) (by decide) (va_runV (As := [.int (xs 1), .int (xs 2), .int 0]) (rest := []) (xfix C) (c373_X6_rangePoll l G cy sa sv (a 31) (a 32) (a 33) (a 34) (a 35) (a 36) (a 37) (a 38) (xs 1) (xs 2) p1 (xtr C) _) (cwV 3 (xhts C) (xgV (maxL := 0) (cc := ⟨#[]⟩) (ret := none) gw_711 gw_712 gw_713 gw_58 gc_X6_rangePoll) rfl rfl rfl (by decide +kernel) ⟨(Nat.le_of_ble_eq_true rfl), (Nat.le_of_ble_eq_true rfl)⟩) (xPV C w [28, 29] rfl (by decide) (ci := 10) (q0 := 28) rfl rfl) rfl rfl hl.1 rfl (lv_room (Nat.le_of_ble_eq_true rfl)) dL_law_1529 ⟨(Nat.le_of_ble_eq_true rfl), (Nat.le_of_ble_eq_true rfl)⟩) (fun f2352 H locs w => ?_)
  have w : xW G A s [((a 3), .inl (cy 1, 24, .inl (fun _ => 0))), ((a 4), .inr (6, [.ref (a 5), .int 0])), ((a 5), .inl (cy 1, 24, .inl (fun _ => 0))), ((a 6), .inr (6, [.ref (a 7), .int 0])), ((a 7), .inl (cy 1, 24, .inl (fun _ => 0))), ((a 8), .inr (5, [.ref (a 9), .ref (a 11), .ref (a 13), .int 0])), ((a 9), .inr (6, [.ref (a 10), .int 0])), ((a 10), .inl (cy 1, 624, .inl (fun _ => 0))), ((a 11), .inr (6, [.ref (a 12), .int 0])), ((a 12), .inl (cy 1, 624, .inl (fun _ => 0))), ((a 13), .inr (6, [.ref (a 14), .int 0])), ((a 14), .inl (cy 1, 12, .inl (fun _ => 0))), ((a 15), .inr (7, [.ref (a 16), .ref (a 18)])), ((a 16), .inr (6, [.ref (a 17), .int 0])), ((a 17), .inl (cy 1, 24, .inl (fun _ => 0))), ((a 18), .inr (6, [.ref (a 19), .int 0])), ((a 19), .inl (cy 1, 24, .inl (fun _ => 0))), ((a 20), .inl (cy 3, 3, .inr (.inr (.inr (.inr (va_up (va_up (va_up (fun _ => none) 0 (some (a 21))) 1 (some (a 22))) 2 (some (a 23)))))))), ((a 21), .inr (4, [.int 0, .int 0, .int 0])), ((a 22), .inr (4, [.int 0, .int 0, .int 0])), ((a 23), .inr (4, [.int 0, .int 0, .int 0])), ((a 24), .inr (6, [.ref (a 25), .int 0])), ((a 25), .inl (cy 1, 24, .inl (fun _ => 0))), ((a 26), .inr (7, [.ref (a 27), .ref (a 29)])), ((a 27), .inr (6, [.ref (a 28), .int 0])), ((a 28), .inl (cy 1, 24, .inl (fun _ => 0))), ((a 29), .inr (6, [.ref (a 30), .int 0])), ((a 30), .inl (cy 1, 24, .inl (fun _ => 0))), ((a 33), .inr (3, [.int 0, .ref (sv 0), .int 0])), ((a 34), .inr (3, [.int 0, .ref (sv 0), .int 0])), ((a 35), .inr (3, [.int 0, .ref (sv 0), .int 0])), ((a 36), .inl (cy 2, 3, .inl (fun _ => 0))), ((a 37), .inl (cy 1, 3, .inl (fun _ => 0))), ((a 38), .inl (cy 1, 3, .inl (fun _ => 0))), ((a 39), .inr (9, [.long 0, .null])), ((a 0), .inr (8, [.ref (a 1), .ref (a 6), .ref (a 8), .ref (a 15), .ref (a 20), .int 0, .ref (a 24), .ref (a 26)])), ((a 1), .inr (7, [.ref (a 2), .ref (a 4)])), ((a 2), .inr (6, [.ref (a 3), .int 0])), ((a 31), .inr (10, [.ref (a 32), .ref (a 33), .ref (a 34), .ref (a 35), .ref (a 36), .ref (a 37), .ref (a 38), .int 0, .int 2])), ((a 32), .inr (3, [.int 0, .ref (sv 0), .int 0]))] H _ := w
  refine W.widen (k := 42) (n := 1545) (Nat.le_of_ble_eq_true rfl) (Nat.le_of_ble_eq_true rfl) ?_
  refine lv_istore (lv' := [(6, .int 0), (5, .int 2), (4, .int 0), (3, .ref (a 39)), (2, .ref (a 31)), (1, .ref (a 0)), (0, .ref b)]) C.1 C.2.1 dL_law_1532 hl (by decide) rfl (fun ls hl => ?_)
  refine lv_aload_n C.1 C.2.1 dL_law_1534 rfl (lv_at hl 4 rfl) ?_
  refine x_ki C w [38] [0, 1, 2, 3, 4, 5, 6, 7, 8, 9, 10, 11, 12, 13, 14, 15, 16, 17, 18, 19, 20, 21, 22, 23, 24, 25, 26, 27, 28, 29, 30, 31, 32, 33, 34, 35, 36, 37, 39] rfl rfl (by decide) (by decide) (va_runV (As := []) (rest := []) (xfix C) (c151_X6_thrown l G cy sa sv (a 31) (a 32) (a 33) (a 34) (a 35) (a 36) (a 37) (a 38) (xtr C) _) (cwV 0 (xhts C) (xgV (maxL := 0) (cc := ⟨#[]⟩) (ret := none) gw_122 gw_123 gw_124 gw_58 gc_X6_thrown) rfl rfl rfl (by decide +kernel) ⟨(Nat.le_of_ble_eq_true rfl), (Nat.le_of_ble_eq_true rfl)⟩) (xPV C w [38] rfl (by decide) (ci := 10) (q0 := 38) rfl rfl) rfl rfl hl.1 rfl (lv_room (Nat.le_of_ble_eq_true rfl)) dL_law_1535 ⟨(Nat.le_of_ble_eq_true rfl), (Nat.le_of_ble_eq_true rfl)⟩) (fun f2353 H locs w => ?_)
  have w : xW G A s [((a 3), .inl (cy 1, 24, .inl (fun _ => 0))), ((a 4), .inr (6, [.ref (a 5), .int 0])), ((a 5), .inl (cy 1, 24, .inl (fun _ => 0))), ((a 6), .inr (6, [.ref (a 7), .int 0])), ((a 7), .inl (cy 1, 24, .inl (fun _ => 0))), ((a 8), .inr (5, [.ref (a 9), .ref (a 11), .ref (a 13), .int 0])), ((a 9), .inr (6, [.ref (a 10), .int 0])), ((a 10), .inl (cy 1, 624, .inl (fun _ => 0))), ((a 11), .inr (6, [.ref (a 12), .int 0])), ((a 12), .inl (cy 1, 624, .inl (fun _ => 0))), ((a 13), .inr (6, [.ref (a 14), .int 0])), ((a 14), .inl (cy 1, 12, .inl (fun _ => 0))), ((a 15), .inr (7, [.ref (a 16), .ref (a 18)])), ((a 16), .inr (6, [.ref (a 17), .int 0])), ((a 17), .inl (cy 1, 24, .inl (fun _ => 0))), ((a 18), .inr (6, [.ref (a 19), .int 0])), ((a 19), .inl (cy 1, 24, .inl (fun _ => 0))), ((a 20), .inl (cy 3, 3, .inr (.inr (.inr (.inr (va_up (va_up (va_up (fun _ => none) 0 (some (a 21))) 1 (some (a 22))) 2 (some (a 23)))))))), ((a 21), .inr (4, [.int 0, .int 0, .int 0])), ((a 22), .inr (4, [.int 0, .int 0, .int 0])), ((a 23), .inr (4, [.int 0, .int 0, .int 0])), ((a 24), .inr (6, [.ref (a 25), .int 0])), ((a 25), .inl (cy 1, 24, .inl (fun _ => 0))), ((a 26), .inr (7, [.ref (a 27), .ref (a 29)])), ((a 27), .inr (6, [.ref (a 28), .int 0])), ((a 28), .inl (cy 1, 24, .inl (fun _ => 0))), ((a 29), .inr (6, [.ref (a 30), .int 0])), ((a 30), .inl (cy 1, 24, .inl (fun _ => 0))), ((a 33), .inr (3, [.int 0, .ref (sv 0), .int 0])), ((a 34), .inr (3, [.int 0, .ref (sv 0), .int 0])), ((a 35), .inr (3, [.int 0, .ref (sv 0), .int 0])), ((a 36), .inl (cy 2, 3, .inl (fun _ => 0))), ((a 37), .inl (cy 1, 3, .inl (fun _ => 0))), ((a 38), .inl (cy 1, 3, .inl (fun _ => 0))), ((a 39), .inr (9, [.long 0, .null])), ((a 0), .inr (8, [.ref (a 1), .ref (a 6), .ref (a 8), .ref (a 15), .ref (a 20), .int 0, .ref (a 24), .ref (a 26)])), ((a 1), .inr (7, [.ref (a 2), .ref (a 4)])), ((a 2), .inr (6, [.ref (a 3), .int 0])), ((a 32), .inr (3, [.int 0, .ref (sv 0), .int 0])), ((a 31), .inr (10, [.ref (a 32), .ref (a 33), .ref (a 34), .ref (a 35), .ref (a 36), .ref (a 37), .ref (a 38), .int 0, .int 2]))] H _ := w
  refine lv_iload C.1 C.2.1 dL_law_1538 (lv_at hl 1 rfl) ?_
  refine lv_icmp_eq (tgt := 1545) C.1 C.2.1 dL_law_1540 (by decide) (fun _ => ?_) (fun c9 => absurd (by decide) c9)
  refine lv_iload C.1 C.2.1 dL_law_1545 (lv_at hl 1 rfl) ?_
  refine lv_if_ne (tgt := 1563) C.1 C.2.1 dL_law_1547 (by decide) (fun _ => ?_) (fun c9 => absurd c9 (by decide))
  refine lv_goto (tgt := 2509) C.1 C.2.1 dL_law_1563 (by decide) ?_
  refine lv_iinc (v := 5) (lv' := [(4, .int 5), (6, .int 0), (5, .int 2), (3, .ref (a 39)), (2, .ref (a 31)), (1, .ref (a 0)), (0, .ref b)]) C.1 C.2.1 dL_law_2509 hl (k := 2) rfl (by decide) (by decide) rfl (fun ls hl => ?_)
  refine lv_goto (tgt := 27) C.1 C.2.1 dL_law_2512 (by decide) ?_
  refine lv_iload C.1 C.2.1 dL_law_27 (lv_at hl 0 rfl) ?_
  refine lv_aload_n C.1 C.2.1 dL_law_29 rfl (lv_at hl 6 rfl) ?_
  refine va_slen C.1 C.2.1 hX hbl hbA w.2.2 dL_law_30 ?_
  refine x_is (y := 5) (by decide) ?_
  refine lv_iconst (v := 5) C.1 C.2.1 dL_law_31 (by decide) ?_
  refine lv_isub C.1 C.2.1 dL_law_32 ?_
  refine x_is (y := 0) (by decide) ?_
  refine lv_icmp_gt (tgt := 2515) C.1 C.2.1 dL_law_33 (by decide) (fun _ => ?_) (fun c9 => absurd (by decide) c9)
  refine lv_iconst (v := 1) C.1 C.2.1 dL_law_2515 (by decide) ?_
  refine va_forget (fun q hq => hAl _ (w.2.2.2.2 q hq)) ?_
  refine W.widen (k := 600002) (n := 7302232) (Nat.le_of_ble_eq_true rfl) (Nat.le_of_ble_eq_true rfl) ?_
  exact lw_ret C.1 C.2.1 hr (xlk C) dL_law_2516
set_option maxHeartbeats 8000000 in
set_option maxRecDepth 100000 in
theorem law_25_65 {p : Program} {e : Env} {s : State} {m : MethodId} {below : List Frame} {meth : Method} {c : Code} {l : Launch} {G : va_G} {cy : Nat → ClassId} {sa : String → Nat → Nat} {sv : Nat → Nat} {A : Nat → Prop} {b : Nat} {xs : Nat → Int32} {a : Nat → Nat} {H : Heap} {locs : List Loc} {ls : Array Slot} (C : xC p l s m #[Value.ref b] meth c code 7 "TwinindexLaw" (Cond.initialized "TwinindexLaw" :: XG) G cy sa sv A) (hr : meth.sig.returnType = ret) (hX : va_X b 5 xs s s.heap) (hbl : b < s.heap.size) (hbA : ¬ A b) (hAl : ∀ q, A q → s.heap.size ≤ q) (w : xW G A s (xW0 cy sv a) H locs) (hl : lv_has ls 7 [(4, .int 0), (3, .ref (a 39)), (2, .ref (a 31)), (1, .ref (a 0)), (0, .ref b)]) (hk : ((xs 0) &&& 63) = 25) (p0 : (xs 3) = 0) (p1 : ¬ (xs 1) ≤ (xs 2)) : W p l e room_1 s m #[Value.ref b] below meth c H locs 40 1536 (lw_Z below #[Value.ref b] s) (F0 m 27 ls []) := by
  have w : xW G A s [((a 0), .inr (8, [.ref (a 1), .ref (a 6), .ref (a 8), .ref (a 15), .ref (a 20), .int 0, .ref (a 24), .ref (a 26)])), ((a 1), .inr (7, [.ref (a 2), .ref (a 4)])), ((a 2), .inr (6, [.ref (a 3), .int 0])), ((a 3), .inl (cy 1, 24, .inl (fun _ => 0))), ((a 4), .inr (6, [.ref (a 5), .int 0])), ((a 5), .inl (cy 1, 24, .inl (fun _ => 0))), ((a 6), .inr (6, [.ref (a 7), .int 0])), ((a 7), .inl (cy 1, 24, .inl (fun _ => 0))), ((a 8), .inr (5, [.ref (a 9), .ref (a 11), .ref (a 13), .int 0])), ((a 9), .inr (6, [.ref (a 10), .int 0])), ((a 10), .inl (cy 1, 624, .inl (fun _ => 0))), ((a 11), .inr (6, [.ref (a 12), .int 0])), ((a 12), .inl (cy 1, 624, .inl (fun _ => 0))), ((a 13), .inr (6, [.ref (a 14), .int 0])), ((a 14), .inl (cy 1, 12, .inl (fun _ => 0))), ((a 15), .inr (7, [.ref (a 16), .ref (a 18)])), ((a 16), .inr (6, [.ref (a 17), .int 0])), ((a 17), .inl (cy 1, 24, .inl (fun _ => 0))), ((a 18), .inr (6, [.ref (a 19), .int 0])), ((a 19), .inl (cy 1, 24, .inl (fun _ => 0))), ((a 20), .inl (cy 3, 3, .inr (.inr (.inr (.inr (va_up (va_up (va_up (fun _ => none) 0 (some (a 21))) 1 (some (a 22))) 2 (some (a 23)))))))), ((a 21), .inr (4, [.int 0, .int 0, .int 0])), ((a 22), .inr (4, [.int 0, .int 0, .int 0])), ((a 23), .inr (4, [.int 0, .int 0, .int 0])), ((a 24), .inr (6, [.ref (a 25), .int 0])), ((a 25), .inl (cy 1, 24, .inl (fun _ => 0))), ((a 26), .inr (7, [.ref (a 27), .ref (a 29)])), ((a 27), .inr (6, [.ref (a 28), .int 0])), ((a 28), .inl (cy 1, 24, .inl (fun _ => 0))), ((a 29), .inr (6, [.ref (a 30), .int 0])), ((a 30), .inl (cy 1, 24, .inl (fun _ => 0))), ((a 31), .inr (10, [.ref (a 32), .ref (a 33), .ref (a 34), .ref (a 35), .ref (a 36), .ref (a 37), .ref (a 38), .int 0, .int 0])), ((a 32), .inr (3, [.int 0, .ref (sv 0), .int 0])), ((a 33), .inr (3, [.int 0, .ref (sv 0), .int 0])), ((a 34), .inr (3, [.int 0, .ref (sv 0), .int 0])), ((a 35), .inr (3, [.int 0, .ref (sv 0), .int 0])), ((a 36), .inl (cy 2, 3, .inl (fun _ => 0))), ((a 37), .inl (cy 1, 3, .inl (fun _ => 0))), ((a 38), .inl (cy 1, 3, .inl (fun _ => 0))), ((a 39), .inr (9, [.long 0, .null]))] H _ := w
  refine lv_iload C.1 C.2.1 dL_law_27 (lv_at hl 0 rfl) ?_
  refine lv_aload_n C.1 C.2.1 dL_law_29 rfl (lv_at hl 4 rfl) ?_
  refine va_slen C.1 C.2.1 hX hbl hbA w.2.2 dL_law_30 ?_
  refine x_is (y := 5) (by decide) ?_
  refine lv_iconst (v := 5) C.1 C.2.1 dL_law_31 (by decide) ?_
  refine lv_isub C.1 C.2.1 dL_law_32 ?_
  refine x_is (y := 0) (by decide) ?_
  refine lv_icmp_gt (tgt := 2515) C.1 C.2.1 dL_law_33 (by decide) (fun c9 => absurd c9 (by decide)) (fun _ => ?_)
  refine lv_aload_n C.1 C.2.1 dL_law_36 rfl (lv_at hl 4 rfl) ?_
  refine lv_iload C.1 C.2.1 dL_law_37 (lv_at hl 0 rfl) ?_
  refine va_sld C.1 C.2.1 hX hbl hbA w.2.2 (xvin (by decide)) dL_law_39 ?_
  refine x_is (y := (xs 0)) (by rfl) ?_
  refine lv_bipush (v := 63) C.1 C.2.1 dL_law_40 (by decide) ?_
  refine lv_iand C.1 C.2.1 dL_law_42 ?_
  refine x_is (y := 25) hk ?_
  refine lv_tableIn (off := 1426) (tgt := 1469) C.1 C.2.1 dL_law_43 (by decide) (by decide) (by decide) (by decide) ?_
  refine lv_aload_n C.1 C.2.1 dL_law_1469 rfl (lv_at hl 3 rfl) ?_
  refine lv_aload_n C.1 C.2.1 dL_law_1470 rfl (lv_at hl 4 rfl) ?_
  refine lv_iload C.1 C.2.1 dL_law_1471 (lv_at hl 0 rfl) ?_
  refine lv_iconst (v := 1) C.1 C.2.1 dL_law_1473 (by decide) ?_
  refine lv_iadd C.1 C.2.1 dL_law_1474 ?_
  refine x_is (y := 1) (by decide) ?_
  refine va_sld C.1 C.2.1 hX hbl hbA w.2.2 (xvin (by decide)) dL_law_1475 ?_
  refine x_is (y := (xs 1)) (by rfl) ?_
  refine lv_aload_n C.1 C.2.1 dL_law_1476 rfl (lv_at hl 4 rfl) ?_
  refine lv_iload C.1 C.2.1 dL_law_1477 (lv_at hl 0 rfl) ?_
  refine lv_iconst (v := 2) C.1 C.2.1 dL_law_1479 (by decide) ?_
  refine lv_iadd C.1 C.2.1 dL_law_1480 ?_
  refine x_is (y := 2) (by decide) ?_
  refine va_sld C.1 C.2.1 hX hbl hbA w.2.2 (xvin (by decide)) dL_law_1481 ?_
  refine x_is (y := (xs 2)) (by rfl) ?_
  refine lv_aload_n C.1 C.2.1 dL_law_1482 rfl (lv_at hl 4 rfl) ?_
  refine lv_iload C.1 C.2.1 dL_law_1483 (lv_at hl 0 rfl) ?_
  refine lv_iconst (v := 3) C.1 C.2.1 dL_law_1485 (by decide) ?_
  refine lv_iadd C.1 C.2.1 dL_law_1486 ?_
  refine x_is (y := 3) (by decide) ?_
  refine va_sld C.1 C.2.1 hX hbl hbA w.2.2 (xvin (by decide)) dL_law_1487 ?_
  refine x_is (y := (xs 3)) (by rfl) ?_
  refine lv_if_eq (tgt := 1495) C.1 C.2.1 dL_law_1488 (by decide) (fun _ => ?_) (fun c9 => absurd p0 c9)
  refine lv_iconst (v := 0) C.1 C.2.1 dL_law_1495 (by decide) ?_
  refine lv_aload_n C.1 C.2.1 dL_law_1496 rfl (lv_at hl 1 rfl) ?_
  refine x_ki C w [0] [1, 2, 3, 4, 5, 6, 7, 8, 9, 10, 11, 12, 13, 14, 15, 16, 17, 18, 19, 20, 21, 22, 23, 24, 25, 26, 27, 28, 29, 30, 31, 32, 33, 34, 35, 36, 37, 38, 39] rfl rfl (by decide) (by decide) (vx_runSW (As := [.ref (a 0), .int (xs 1), .int (xs 2), .int 0, .ref (a 39)]) (rest := []) (xfix C) (c375_L_rangePoll l G cy sa sv (a 0) (a 39) (a 1) (a 6) (a 8) (a 15) (a 20) (a 24) (a 26) (xs 1) (xs 2) p1 (xtr C) _) (vx_cwSW 5 (xhts C) (xgS gw_708 gw_709 gw_106 gc_L_rangePoll) rfl rfl rfl (by decide +kernel) ⟨(Nat.le_of_ble_eq_true rfl), (Nat.le_of_ble_eq_true rfl)⟩) (xPS C w [0] rfl (by decide)) rfl rfl hl.1 rfl (lv_room (Nat.le_of_ble_eq_true rfl)) dL_law_1497 ⟨(Nat.le_of_ble_eq_true rfl), (Nat.le_of_ble_eq_true rfl)⟩) (fun f2361 H locs w => ?_)
  have w : xW G A s [((a 1), .inr (7, [.ref (a 2), .ref (a 4)])), ((a 2), .inr (6, [.ref (a 3), .int 0])), ((a 3), .inl (cy 1, 24, .inl (fun _ => 0))), ((a 4), .inr (6, [.ref (a 5), .int 0])), ((a 5), .inl (cy 1, 24, .inl (fun _ => 0))), ((a 6), .inr (6, [.ref (a 7), .int 0])), ((a 7), .inl (cy 1, 24, .inl (fun _ => 0))), ((a 8), .inr (5, [.ref (a 9), .ref (a 11), .ref (a 13), .int 0])), ((a 9), .inr (6, [.ref (a 10), .int 0])), ((a 10), .inl (cy 1, 624, .inl (fun _ => 0))), ((a 11), .inr (6, [.ref (a 12), .int 0])), ((a 12), .inl (cy 1, 624, .inl (fun _ => 0))), ((a 13), .inr (6, [.ref (a 14), .int 0])), ((a 14), .inl (cy 1, 12, .inl (fun _ => 0))), ((a 15), .inr (7, [.ref (a 16), .ref (a 18)])), ((a 16), .inr (6, [.ref (a 17), .int 0])), ((a 17), .inl (cy 1, 24, .inl (fun _ => 0))), ((a 18), .inr (6, [.ref (a 19), .int 0])), ((a 19), .inl (cy 1, 24, .inl (fun _ => 0))), ((a 20), .inl (cy 3, 3, .inr (.inr (.inr (.inr (va_up (va_up (va_up (fun _ => none) 0 (some (a 21))) 1 (some (a 22))) 2 (some (a 23)))))))), ((a 21), .inr (4, [.int 0, .int 0, .int 0])), ((a 22), .inr (4, [.int 0, .int 0, .int 0])), ((a 23), .inr (4, [.int 0, .int 0, .int 0])), ((a 24), .inr (6, [.ref (a 25), .int 0])), ((a 25), .inl (cy 1, 24, .inl (fun _ => 0))), ((a 26), .inr (7, [.ref (a 27), .ref (a 29)])), ((a 27), .inr (6, [.ref (a 28), .int 0])), ((a 28), .inl (cy 1, 24, .inl (fun _ => 0))), ((a 29), .inr (6, [.ref (a 30), .int 0])), ((a 30), .inl (cy 1, 24, .inl (fun _ => 0))), ((a 31), .inr (10, [.ref (a 32), .ref (a 33), .ref (a 34), .ref (a 35), .ref (a 36), .ref (a 37), .ref (a 38), .int 0, .int 0])), ((a 32), .inr (3, [.int 0, .ref (sv 0), .int 0])), ((a 33), .inr (3, [.int 0, .ref (sv 0), .int 0])), ((a 34), .inr (3, [.int 0, .ref (sv 0), .int 0])), ((a 35), .inr (3, [.int 0, .ref (sv 0), .int 0])), ((a 36), .inl (cy 2, 3, .inl (fun _ => 0))), ((a 37), .inl (cy 1, 3, .inl (fun _ => 0))), ((a 38), .inl (cy 1, 3, .inl (fun _ => 0))), ((a 39), .inr (9, [.long 0, .null])), ((a 0), .inr (8, [.ref (a 1), .ref (a 6), .ref (a 8), .ref (a 15), .ref (a 20), .int 0, .ref (a 24), .ref (a 26)]))] H _ := w
  refine W.widen (k := 41) (n := 1542) (Nat.le_of_ble_eq_true rfl) (Nat.le_of_ble_eq_true rfl) ?_
  refine lv_istore (lv' := [(5, .int 1), (4, .int 0), (3, .ref (a 39)), (2, .ref (a 31)), (1, .ref (a 0)), (0, .ref b)]) C.1 C.2.1 dL_law_1500 hl (by decide) rfl (fun ls hl => ?_)
  refine lv_aload_n C.1 C.2.1 dL_law_1502 rfl (lv_at hl 3 rfl) ?_
  refine lv_aload_n C.1 C.2.1 dL_law_1503 rfl (lv_at hl 5 rfl) ?_
  refine lv_iload C.1 C.2.1 dL_law_1504 (lv_at hl 1 rfl) ?_
  refine lv_iconst (v := 1) C.1 C.2.1 dL_law_1506 (by decide) ?_
  refine lv_iadd C.1 C.2.1 dL_law_1507 ?_
  refine x_is (y := 1) (by decide) ?_
  refine va_sld C.1 C.2.1 hX hbl hbA w.2.2 (xvin (by decide)) dL_law_1508 ?_
  refine x_is (y := (xs 1)) (by rfl) ?_
  refine lv_aload_n C.1 C.2.1 dL_law_1509 rfl (lv_at hl 5 rfl) ?_
  refine lv_iload C.1 C.2.1 dL_law_1510 (lv_at hl 1 rfl) ?_
  refine lv_iconst (v := 2) C.1 C.2.1 dL_law_1512 (by decide) ?_
  refine lv_iadd C.1 C.2.1 dL_law_1513 ?_
  refine x_is (y := 2) (by decide) ?_
  refine va_sld C.1 C.2.1 hX hbl hbA w.2.2 (xvin (by decide)) dL_law_1514 ?_
  refine x_is (y := (xs 2)) (by rfl) ?_
  refine lv_aload_n C.1 C.2.1 dL_law_1515 rfl (lv_at hl 5 rfl) ?_
  refine lv_iload C.1 C.2.1 dL_law_1516 (lv_at hl 1 rfl) ?_
  refine lv_iconst (v := 3) C.1 C.2.1 dL_law_1518 (by decide) ?_
  refine lv_iadd C.1 C.2.1 dL_law_1519 ?_
  refine x_is (y := 3) (by decide) ?_
  refine va_sld C.1 C.2.1 hX hbl hbA w.2.2 (xvin (by decide)) dL_law_1520 ?_
  refine x_is (y := (xs 3)) (by rfl) ?_
  refine lv_if_eq (tgt := 1528) C.1 C.2.1 dL_law_1521 (by decide) (fun _ => ?_) (fun c9 => absurd p0 c9)
  refine lv_iconst (v := 0) C.1 C.2.1 dL_law_1528 (by decide) ?_
  refine x_ki C w [30] [0, 1, 2, 3, 4, 5, 6, 7, 8, 9, 10, 11, 12, 13, 14, 15, 16, 17, 18, 19, 20, 21, 22, 23, 24, 25, 26, 27, 28, 29, 31, 32, 33, 34, 35, 36, 37, 38, 39] rfl rfl (by decide) (by decide) (va_runV (As := [.int (xs 1), .int (xs 2), .int 0]) (rest := []) (xfix C) (c376_X6_rangePoll l G cy sa sv (a 31) (a 32) (a 33) (a 34) (a 35) (a 36) (a 37) (a 38) (xs 1) (xs 2) p1 (xtr C) _) (cwV 3 (xhts C) (xgV (maxL := 0) (cc := ⟨#[]⟩) (ret := none) gw_711 gw_712 gw_713 gw_58 gc_X6_rangePoll) rfl rfl rfl (by decide +kernel) ⟨(Nat.le_of_ble_eq_true rfl), (Nat.le_of_ble_eq_true rfl)⟩) (xPV C w [30] rfl (by decide) (ci := 10) (q0 := 30) rfl rfl) rfl rfl hl.1 rfl (lv_room (Nat.le_of_ble_eq_true rfl)) dL_law_1529 ⟨(Nat.le_of_ble_eq_true rfl), (Nat.le_of_ble_eq_true rfl)⟩) (fun f2363 H locs w => ?_)
  have w : xW G A s [((a 1), .inr (7, [.ref (a 2), .ref (a 4)])), ((a 2), .inr (6, [.ref (a 3), .int 0])), ((a 3), .inl (cy 1, 24, .inl (fun _ => 0))), ((a 4), .inr (6, [.ref (a 5), .int 0])), ((a 5), .inl (cy 1, 24, .inl (fun _ => 0))), ((a 6), .inr (6, [.ref (a 7), .int 0])), ((a 7), .inl (cy 1, 24, .inl (fun _ => 0))), ((a 8), .inr (5, [.ref (a 9), .ref (a 11), .ref (a 13), .int 0])), ((a 9), .inr (6, [.ref (a 10), .int 0])), ((a 10), .inl (cy 1, 624, .inl (fun _ => 0))), ((a 11), .inr (6, [.ref (a 12), .int 0])), ((a 12), .inl (cy 1, 624, .inl (fun _ => 0))), ((a 13), .inr (6, [.ref (a 14), .int 0])), ((a 14), .inl (cy 1, 12, .inl (fun _ => 0))), ((a 15), .inr (7, [.ref (a 16), .ref (a 18)])), ((a 16), .inr (6, [.ref (a 17), .int 0])), ((a 17), .inl (cy 1, 24, .inl (fun _ => 0))), ((a 18), .inr (6, [.ref (a 19), .int 0])), ((a 19), .inl (cy 1, 24, .inl (fun _ => 0))), ((a 20), .inl (cy 3, 3, .inr (.inr (.inr (.inr (va_up (va_up (va_up (fun _ => none) 0 (some (a 21))) 1 (some (a 22))) 2 (some (a 23)))))))), ((a 21), .inr (4, [.int 0, .int 0, .int 0])), ((a 22), .inr (4, [.int 0, .int 0, .int 0])), ((a 23), .inr (4, [.int 0, .int 0, .int 0])), ((a 24), .inr (6, [.ref (a 25), .int 0])), ((a 25), .inl (cy 1, 24, .inl (fun _ => 0))), ((a 26), .inr (7, [.ref (a 27), .ref (a 29)])), ((a 27), .inr (6, [.ref (a 28), .int 0])), ((a 28), .inl (cy 1, 24, .inl (fun _ => 0))), ((a 29), .inr (6, [.ref (a 30), .int 0])), ((a 30), .inl (cy 1, 24, .inl (fun _ => 0))), ((a 32), .inr (3, [.int 0, .ref (sv 0), .int 0])), ((a 33), .inr (3, [.int 0, .ref (sv 0), .int 0])), ((a 34), .inr (3, [.int 0, .ref (sv 0), .int 0])), ((a 35), .inr (3, [.int 0, .ref (sv 0), .int 0])), ((a 36), .inl (cy 2, 3, .inl (fun _ => 0))), ((a 37), .inl (cy 1, 3, .inl (fun _ => 0))), ((a 38), .inl (cy 1, 3, .inl (fun _ => 0))), ((a 39), .inr (9, [.long 0, .null])), ((a 0), .inr (8, [.ref (a 1), .ref (a 6), .ref (a 8), .ref (a 15), .ref (a 20), .int 0, .ref (a 24), .ref (a 26)])), ((a 31), .inr (10, [.ref (a 32), .ref (a 33), .ref (a 34), .ref (a 35), .ref (a 36), .ref (a 37), .ref (a 38), .int 0, .int 1]))] H _ := w
  refine lv_istore (lv' := [(6, .int 0), (5, .int 1), (4, .int 0), (3, .ref (a 39)), (2, .ref (a 31)), (1, .ref (a 0)), (0, .ref b)]) C.1 C.2.1 dL_law_1532 hl (by decide) rfl (fun ls hl => ?_)
  refine lv_aload_n C.1 C.2.1 dL_law_1534 rfl (lv_at hl 4 rfl) ?_
  refine x_ki C w [39] [0, 1, 2, 3, 4, 5, 6, 7, 8, 9, 10, 11, 12, 13, 14, 15, 16, 17, 18, 19, 20, 21, 22, 23, 24, 25, 26, 27, 28, 29, 30, 31, 32, 33, 34, 35, 36, 37, 38] rfl rfl (by decide) (by decide) (va_runV (As := []) (rest := []) (xfix C) (c19_X6_thrown l G cy sa sv (a 31) (a 32) (a 33) (a 34) (a 35) (a 36) (a 37) (a 38) (xtr C) _) (cwV 0 (xhts C) (xgV (maxL := 0) (cc := ⟨#[]⟩) (ret := none) gw_122 gw_123 gw_124 gw_58 gc_X6_thrown) rfl rfl rfl (by decide +kernel) ⟨(Nat.le_of_ble_eq_true rfl), (Nat.le_of_ble_eq_true rfl)⟩) (xPV C w [39] rfl (by decide) (ci := 10) (q0 := 39) rfl rfl) rfl rfl hl.1 rfl (lv_room (Nat.le_of_ble_eq_true rfl)) dL_law_1535 ⟨(Nat.le_of_ble_eq_true rfl), (Nat.le_of_ble_eq_true rfl)⟩) (fun f2364 H locs w => ?_)
  have w : xW G A s [((a 1), .inr (7, [.ref (a 2), .ref (a 4)])), ((a 2), .inr (6, [.ref (a 3), .int 0])), ((a 3), .inl (cy 1, 24, .inl (fun _ => 0))), ((a 4), .inr (6, [.ref (a 5), .int 0])), ((a 5), .inl (cy 1, 24, .inl (fun _ => 0))), ((a 6), .inr (6, [.ref (a 7), .int 0])), ((a 7), .inl (cy 1, 24, .inl (fun _ => 0))), ((a 8), .inr (5, [.ref (a 9), .ref (a 11), .ref (a 13), .int 0])), ((a 9), .inr (6, [.ref (a 10), .int 0])), ((a 10), .inl (cy 1, 624, .inl (fun _ => 0))), ((a 11), .inr (6, [.ref (a 12), .int 0])), ((a 12), .inl (cy 1, 624, .inl (fun _ => 0))), ((a 13), .inr (6, [.ref (a 14), .int 0])), ((a 14), .inl (cy 1, 12, .inl (fun _ => 0))), ((a 15), .inr (7, [.ref (a 16), .ref (a 18)])), ((a 16), .inr (6, [.ref (a 17), .int 0])), ((a 17), .inl (cy 1, 24, .inl (fun _ => 0))), ((a 18), .inr (6, [.ref (a 19), .int 0])), ((a 19), .inl (cy 1, 24, .inl (fun _ => 0))), ((a 20), .inl (cy 3, 3, .inr (.inr (.inr (.inr (va_up (va_up (va_up (fun _ => none) 0 (some (a 21))) 1 (some (a 22))) 2 (some (a 23)))))))), ((a 21), .inr (4, [.int 0, .int 0, .int 0])), ((a 22), .inr (4, [.int 0, .int 0, .int 0])), ((a 23), .inr (4, [.int 0, .int 0, .int 0])), ((a 24), .inr (6, [.ref (a 25), .int 0])), ((a 25), .inl (cy 1, 24, .inl (fun _ => 0))), ((a 26), .inr (7, [.ref (a 27), .ref (a 29)])), ((a 27), .inr (6, [.ref (a 28), .int 0])), ((a 28), .inl (cy 1, 24, .inl (fun _ => 0))), ((a 29), .inr (6, [.ref (a 30), .int 0])), ((a 30), .inl (cy 1, 24, .inl (fun _ => 0))), ((a 32), .inr (3, [.int 0, .ref (sv 0), .int 0])), ((a 33), .inr (3, [.int 0, .ref (sv 0), .int 0])), ((a 34), .inr (3, [.int 0, .ref (sv 0), .int 0])), ((a 35), .inr (3, [.int 0, .ref (sv 0), .int 0])), ((a 36), .inl (cy 2, 3, .inl (fun _ => 0))), ((a 37), .inl (cy 1, 3, .inl (fun _ => 0))), ((a 38), .inl (cy 1, 3, .inl (fun _ => 0))), ((a 39), .inr (9, [.long 0, .null])), ((a 0), .inr (8, [.ref (a 1), .ref (a 6), .ref (a 8), .ref (a 15), .ref (a 20), .int 0, .ref (a 24), .ref (a 26)])), ((a 31), .inr (10, [.ref (a 32), .ref (a 33), .ref (a 34), .ref (a 35), .ref (a 36), .ref (a 37), .ref (a 38), .int 0, .int 1]))] H _ := w
  refine lv_iload C.1 C.2.1 dL_law_1538 (lv_at hl 1 rfl) ?_
  refine lv_icmp_eq (tgt := 1545) C.1 C.2.1 dL_law_1540 (by decide) (fun _ => ?_) (fun c9 => absurd (by decide) c9)
  refine lv_iload C.1 C.2.1 dL_law_1545 (lv_at hl 1 rfl) ?_
  refine lv_if_ne (tgt := 1563) C.1 C.2.1 dL_law_1547 (by decide) (fun _ => ?_) (fun c9 => absurd c9 (by decide))
  refine lv_goto (tgt := 2509) C.1 C.2.1 dL_law_1563 (by decide) ?_
  refine lv_iinc (v := 5) (lv' := [(4, .int 5), (6, .int 0), (5, .int 1), (3, .ref (a 39)), (2, .ref (a 31)), (1, .ref (a 0)), (0, .ref b)]) C.1 C.2.1 dL_law_2509 hl (k := 2) rfl (by decide) (by decide) rfl (fun ls hl => ?_)
  refine lv_goto (tgt := 27) C.1 C.2.1 dL_law_2512 (by decide) ?_
  refine lv_iload C.1 C.2.1 dL_law_27 (lv_at hl 0 rfl) ?_
  refine lv_aload_n C.1 C.2.1 dL_law_29 rfl (lv_at hl 6 rfl) ?_
  refine va_slen C.1 C.2.1 hX hbl hbA w.2.2 dL_law_30 ?_
  refine x_is (y := 5) (by decide) ?_
  refine lv_iconst (v := 5) C.1 C.2.1 dL_law_31 (by decide) ?_
  refine lv_isub C.1 C.2.1 dL_law_32 ?_
  refine x_is (y := 0) (by decide) ?_
  refine lv_icmp_gt (tgt := 2515) C.1 C.2.1 dL_law_33 (by decide) (fun _ => ?_) (fun c9 => absurd (by decide) c9)
  refine lv_iconst (v := 1) C.1 C.2.1 dL_law_2515 (by decide) ?_
  refine va_forget (fun q hq => hAl _ (w.2.2.2.2 q hq)) ?_
  refine W.widen (k := 600002) (n := 7302232) (Nat.le_of_ble_eq_true rfl) (Nat.le_of_ble_eq_true rfl) ?_
  exact lw_ret C.1 C.2.1 hr (xlk C) dL_law_2516
set_option maxHeartbeats 8000000 in
set_option maxRecDepth 100000 in
theorem law_25_66 {p : Program} {e : Env} {s : State} {m : MethodId} {below : List Frame} {meth : Method} {c : Code} {l : Launch} {G : va_G} {cy : Nat → ClassId} {sa : String → Nat → Nat} {sv : Nat → Nat} {A : Nat → Prop} {b : Nat} {xs : Nat → Int32} {a : Nat → Nat} {H : Heap} {locs : List Loc} {ls : Array Slot} (C : xC p l s m #[Value.ref b] meth c code 7 "TwinindexLaw" (Cond.initialized "TwinindexLaw" :: XG) G cy sa sv A) (hr : meth.sig.returnType = ret) (hX : va_X b 5 xs s s.heap) (hbl : b < s.heap.size) (hbA : ¬ A b) (hAl : ∀ q, A q → s.heap.size ≤ q) (w : xW G A s (xW0 cy sv a) H locs) (hl : lv_has ls 7 [(4, .int 0), (3, .ref (a 39)), (2, .ref (a 31)), (1, .ref (a 0)), (0, .ref b)]) (hk : ((xs 0) &&& 63) = 25) (p0 : ¬ (xs 3) = 0) (p1 : (xs 1) ≤ (xs 2)) : W p l e room_1 s m #[Value.ref b] below meth c H locs 40 1536 (lw_Z below #[Value.ref b] s) (F0 m 27 ls []) := by
  have w : xW G A s [((a 0), .inr (8, [.ref (a 1), .ref (a 6), .ref (a 8), .ref (a 15), .ref (a 20), .int 0, .ref (a 24), .ref (a 26)])), ((a 1), .inr (7, [.ref (a 2), .ref (a 4)])), ((a 2), .inr (6, [.ref (a 3), .int 0])), ((a 3), .inl (cy 1, 24, .inl (fun _ => 0))), ((a 4), .inr (6, [.ref (a 5), .int 0])), ((a 5), .inl (cy 1, 24, .inl (fun _ => 0))), ((a 6), .inr (6, [.ref (a 7), .int 0])), ((a 7), .inl (cy 1, 24, .inl (fun _ => 0))), ((a 8), .inr (5, [.ref (a 9), .ref (a 11), .ref (a 13), .int 0])), ((a 9), .inr (6, [.ref (a 10), .int 0])), ((a 10), .inl (cy 1, 624, .inl (fun _ => 0))), ((a 11), .inr (6, [.ref (a 12), .int 0])), ((a 12), .inl (cy 1, 624, .inl (fun _ => 0))), ((a 13), .inr (6, [.ref (a 14), .int 0])), ((a 14), .inl (cy 1, 12, .inl (fun _ => 0))), ((a 15), .inr (7, [.ref (a 16), .ref (a 18)])), ((a 16), .inr (6, [.ref (a 17), .int 0])), ((a 17), .inl (cy 1, 24, .inl (fun _ => 0))), ((a 18), .inr (6, [.ref (a 19), .int 0])), ((a 19), .inl (cy 1, 24, .inl (fun _ => 0))), ((a 20), .inl (cy 3, 3, .inr (.inr (.inr (.inr (va_up (va_up (va_up (fun _ => none) 0 (some (a 21))) 1 (some (a 22))) 2 (some (a 23)))))))), ((a 21), .inr (4, [.int 0, .int 0, .int 0])), ((a 22), .inr (4, [.int 0, .int 0, .int 0])), ((a 23), .inr (4, [.int 0, .int 0, .int 0])), ((a 24), .inr (6, [.ref (a 25), .int 0])), ((a 25), .inl (cy 1, 24, .inl (fun _ => 0))), ((a 26), .inr (7, [.ref (a 27), .ref (a 29)])), ((a 27), .inr (6, [.ref (a 28), .int 0])), ((a 28), .inl (cy 1, 24, .inl (fun _ => 0))), ((a 29), .inr (6, [.ref (a 30), .int 0])), ((a 30), .inl (cy 1, 24, .inl (fun _ => 0))), ((a 31), .inr (10, [.ref (a 32), .ref (a 33), .ref (a 34), .ref (a 35), .ref (a 36), .ref (a 37), .ref (a 38), .int 0, .int 0])), ((a 32), .inr (3, [.int 0, .ref (sv 0), .int 0])), ((a 33), .inr (3, [.int 0, .ref (sv 0), .int 0])), ((a 34), .inr (3, [.int 0, .ref (sv 0), .int 0])), ((a 35), .inr (3, [.int 0, .ref (sv 0), .int 0])), ((a 36), .inl (cy 2, 3, .inl (fun _ => 0))), ((a 37), .inl (cy 1, 3, .inl (fun _ => 0))), ((a 38), .inl (cy 1, 3, .inl (fun _ => 0))), ((a 39), .inr (9, [.long 0, .null]))] H _ := w
  refine lv_iload C.1 C.2.1 dL_law_27 (lv_at hl 0 rfl) ?_
  refine lv_aload_n C.1 C.2.1 dL_law_29 rfl (lv_at hl 4 rfl) ?_
  refine va_slen C.1 C.2.1 hX hbl hbA w.2.2 dL_law_30 ?_
  refine x_is (y := 5) (by decide) ?_
  refine lv_iconst (v := 5) C.1 C.2.1 dL_law_31 (by decide) ?_
  refine lv_isub C.1 C.2.1 dL_law_32 ?_
  refine x_is (y := 0) (by decide) ?_
  refine lv_icmp_gt (tgt := 2515) C.1 C.2.1 dL_law_33 (by decide) (fun c9 => absurd c9 (by decide)) (fun _ => ?_)
  refine lv_aload_n C.1 C.2.1 dL_law_36 rfl (lv_at hl 4 rfl) ?_
  refine lv_iload C.1 C.2.1 dL_law_37 (lv_at hl 0 rfl) ?_
  refine va_sld C.1 C.2.1 hX hbl hbA w.2.2 (xvin (by decide)) dL_law_39 ?_
  refine x_is (y := (xs 0)) (by rfl) ?_
  refine lv_bipush (v := 63) C.1 C.2.1 dL_law_40 (by decide) ?_
  refine lv_iand C.1 C.2.1 dL_law_42 ?_
  refine x_is (y := 25) hk ?_
  refine lv_tableIn (off := 1426) (tgt := 1469) C.1 C.2.1 dL_law_43 (by decide) (by decide) (by decide) (by decide) ?_
  refine lv_aload_n C.1 C.2.1 dL_law_1469 rfl (lv_at hl 3 rfl) ?_
  refine lv_aload_n C.1 C.2.1 dL_law_1470 rfl (lv_at hl 4 rfl) ?_
  refine lv_iload C.1 C.2.1 dL_law_1471 (lv_at hl 0 rfl) ?_
  refine lv_iconst (v := 1) C.1 C.2.1 dL_law_1473 (by decide) ?_
  refine lv_iadd C.1 C.2.1 dL_law_1474 ?_
  refine x_is (y := 1) (by decide) ?_
  refine va_sld C.1 C.2.1 hX hbl hbA w.2.2 (xvin (by decide)) dL_law_1475 ?_
  refine x_is (y := (xs 1)) (by rfl) ?_
  refine lv_aload_n C.1 C.2.1 dL_law_1476 rfl (lv_at hl 4 rfl) ?_
  refine lv_iload C.1 C.2.1 dL_law_1477 (lv_at hl 0 rfl) ?_
  refine lv_iconst (v := 2) C.1 C.2.1 dL_law_1479 (by decide) ?_
  refine lv_iadd C.1 C.2.1 dL_law_1480 ?_
  refine x_is (y := 2) (by decide) ?_
  refine va_sld C.1 C.2.1 hX hbl hbA w.2.2 (xvin (by decide)) dL_law_1481 ?_
  refine x_is (y := (xs 2)) (by rfl) ?_
  refine lv_aload_n C.1 C.2.1 dL_law_1482 rfl (lv_at hl 4 rfl) ?_
  refine lv_iload C.1 C.2.1 dL_law_1483 (lv_at hl 0 rfl) ?_
  refine lv_iconst (v := 3) C.1 C.2.1 dL_law_1485 (by decide) ?_
  refine lv_iadd C.1 C.2.1 dL_law_1486 ?_
  refine x_is (y := 3) (by decide) ?_
  refine va_sld C.1 C.2.1 hX hbl hbA w.2.2 (xvin (by decide)) dL_law_1487 ?_
  refine x_is (y := (xs 3)) (by rfl) ?_
  refine lv_if_eq (tgt := 1495) C.1 C.2.1 dL_law_1488 (by decide) (fun c9 => absurd c9 p0) (fun _ => ?_)
  refine lv_iconst (v := 1) C.1 C.2.1 dL_law_1491 (by decide) ?_
  refine lv_goto (tgt := 1496) C.1 C.2.1 dL_law_1492 (by decide) ?_
  refine lv_aload_n C.1 C.2.1 dL_law_1496 rfl (lv_at hl 1 rfl) ?_
  refine x_ki C w [0, 1, 2] [3, 4, 5, 6, 7, 8, 9, 10, 11, 12, 13, 14, 15, 16, 17, 18, 19, 20, 21, 22, 23, 24, 25, 26, 27, 28, 29, 30, 31, 32, 33, 34, 35, 36, 37, 38, 39] rfl rfl (by decide) (by decide) (vx_runSW (As := [.ref (a 0), .int (xs 1), .int (xs 2), .int 1, .ref (a 39)]) (rest := []) (xfix C) (c378_L_rangePoll l G cy sa sv (a 0) (a 39) (a 1) (a 2) (a 6) (a 8) (a 15) (a 20) (a 24) (a 26) (a 4) (a 3) (xs 1) (xs 2) p1 (xtr C) _) (vx_cwSW 5 (xhts C) (xgS gw_708 gw_709 gw_106 gc_L_rangePoll) rfl rfl rfl (by decide +kernel) ⟨(Nat.le_of_ble_eq_true rfl), (Nat.le_of_ble_eq_true rfl)⟩) (xPS C w [0, 1, 2] rfl (by decide)) rfl rfl hl.1 rfl (lv_room (Nat.le_of_ble_eq_true rfl)) dL_law_1497 ⟨(Nat.le_of_ble_eq_true rfl), (Nat.le_of_ble_eq_true rfl)⟩) (fun f2383 H locs w => ?_)
  have w : xW G A s [((a 3), .inl (cy 1, 24, .inl (fun _ => 0))), ((a 4), .inr (6, [.ref (a 5), .int 0])), ((a 5), .inl (cy 1, 24, .inl (fun _ => 0))), ((a 6), .inr (6, [.ref (a 7), .int 0])), ((a 7), .inl (cy 1, 24, .inl (fun _ => 0))), ((a 8), .inr (5, [.ref (a 9), .ref (a 11), .ref (a 13), .int 0])), ((a 9), .inr (6, [.ref (a 10), .int 0])), ((a 10), .inl (cy 1, 624, .inl (fun _ => 0))), ((a 11), .inr (6, [.ref (a 12), .int 0])), ((a 12), .inl (cy 1, 624, .inl (fun _ => 0))), ((a 13), .inr (6, [.ref (a 14), .int 0])), ((a 14), .inl (cy 1, 12, .inl (fun _ => 0))), ((a 15), .inr (7, [.ref (a 16), .ref (a 18)])), ((a 16), .inr (6, [.ref (a 17), .int 0])), ((a 17), .inl (cy 1, 24, .inl (fun _ => 0))), ((a 18), .inr (6, [.ref (a 19), .int 0])), ((a 19), .inl (cy 1, 24, .inl (fun _ => 0))), ((a 20), .inl (cy 3, 3, .inr (.inr (.inr (.inr (va_up (va_up (va_up (fun _ => none) 0 (some (a 21))) 1 (some (a 22))) 2 (some (a 23)))))))), ((a 21), .inr (4, [.int 0, .int 0, .int 0])), ((a 22), .inr (4, [.int 0, .int 0, .int 0])), ((a 23), .inr (4, [.int 0, .int 0, .int 0])), ((a 24), .inr (6, [.ref (a 25), .int 0])), ((a 25), .inl (cy 1, 24, .inl (fun _ => 0))), ((a 26), .inr (7, [.ref (a 27), .ref (a 29)])), ((a 27), .inr (6, [.ref (a 28), .int 0])), ((a 28), .inl (cy 1, 24, .inl (fun _ => 0))), ((a 29), .inr (6, [.ref (a 30), .int 0])), ((a 30), .inl (cy 1, 24, .inl (fun _ => 0))), ((a 31), .inr (10, [.ref (a 32), .ref (a 33), .ref (a 34), .ref (a 35), .ref (a 36), .ref (a 37), .ref (a 38), .int 0, .int 0])), ((a 32), .inr (3, [.int 0, .ref (sv 0), .int 0])), ((a 33), .inr (3, [.int 0, .ref (sv 0), .int 0])), ((a 34), .inr (3, [.int 0, .ref (sv 0), .int 0])), ((a 35), .inr (3, [.int 0, .ref (sv 0), .int 0])), ((a 36), .inl (cy 2, 3, .inl (fun _ => 0))), ((a 37), .inl (cy 1, 3, .inl (fun _ => 0))), ((a 38), .inl (cy 1, 3, .inl (fun _ => 0))), ((a 39), .inr (9, [.long 0, .null])), ((a 0), .inr (8, [.ref (a 1), .ref (a 6), .ref (a 8), .ref (a 15), .ref (a 20), .int 0, .ref (a 24), .ref (a 26)])), ((a 1), .inr (7, [.ref (a 2), .ref (a 4)])), ((a 2), .inr (6, [.ref (a 3), .int 0]))] H _ := w
  refine W.widen (k := 41) (n := 1542) (Nat.le_of_ble_eq_true rfl) (Nat.le_of_ble_eq_true rfl) ?_
  refine lv_istore (lv' := [(5, .int 2), (4, .int 0), (3, .ref (a 39)), (2, .ref (a 31)), (1, .ref (a 0)), (0, .ref b)]) C.1 C.2.1 dL_law_1500 hl (by decide) rfl (fun ls hl => ?_)
  refine lv_aload_n C.1 C.2.1 dL_law_1502 rfl (lv_at hl 3 rfl) ?_
  refine lv_aload_n C.1 C.2.1 dL_law_1503 rfl (lv_at hl 5 rfl) ?_
  refine lv_iload C.1 C.2.1 dL_law_1504 (lv_at hl 1 rfl) ?_
  refine lv_iconst (v := 1) C.1 C.2.1 dL_law_1506 (by decide) ?_
  refine lv_iadd C.1 C.2.1 dL_law_1507 ?_
  refine x_is (y := 1) (by decide) ?_
  refine va_sld C.1 C.2.1 hX hbl hbA w.2.2 (xvin (by decide)) dL_law_1508 ?_
  refine x_is (y := (xs 1)) (by rfl) ?_
  refine lv_aload_n C.1 C.2.1 dL_law_1509 rfl (lv_at hl 5 rfl) ?_
  refine lv_iload C.1 C.2.1 dL_law_1510 (lv_at hl 1 rfl) ?_
  refine lv_iconst (v := 2) C.1 C.2.1 dL_law_1512 (by decide) ?_
  refine lv_iadd C.1 C.2.1 dL_law_1513 ?_
  refine x_is (y := 2) (by decide) ?_
  refine va_sld C.1 C.2.1 hX hbl hbA w.2.2 (xvin (by decide)) dL_law_1514 ?_
  refine x_is (y := (xs 2)) (by rfl) ?_
  refine lv_aload_n C.1 C.2.1 dL_law_1515 rfl (lv_at hl 5 rfl) ?_
  refine lv_iload C.1 C.2.1 dL_law_1516 (lv_at hl 1 rfl) ?_
  refine lv_iconst (v := 3) C.1 C.2.1 dL_law_1518 (by decide) ?_
  refine lv_iadd C.1 C.2.1 dL_law_1519 ?_
  refine x_is (y := 3) (by decide) ?_
  refine va_sld C.1 C.2.1 hX hbl hbA w.2.2 (xvin (by decide)) dL_law_1520 ?_
  refine x_is (y := (xs 3)) (by rfl) ?_
  refine lv_if_eq (tgt := 1528) C.1 C.2.1 dL_law_1521 (by decide) (fun c9 => absurd c9 p0) (fun _ => ?_)
  refine lv_iconst (v := 1) C.1 C.2.1 dL_law_1524 (by decide) ?_
  refine lv_goto (tgt := 1529) C.1 C.2.1 dL_law_1525 (by decide) ?_
  refine x_ki C w [28, 29] [0, 1, 2, 3, 4, 5, 6, 7, 8, 9, 10, 11, 12, 13, 14, 15, 16, 17, 18, 19, 20, 21, 22, 23, 24, 25, 26, 27, 30, 31, 32, 33, 34, 35, 36, 37, 38, 39] rfl rfl (by decide) (by decide) (va_runV (As := [.int (xs 1), .int (xs 2), .int 1]) (rest := []) (xfix C) (c379_X6_rangePoll l G cy sa sv (a 31) (a 32) (a 33) (a 34) (a 35) (a 36) (a 37) (a 38) (xs 1) (xs 2) p1 (xtr C) _) (cwV 3 (xhts C) (xgV (maxL := 0) (cc := ⟨#[]⟩) (ret := none) gw_711 gw_712 gw_713 gw_58 gc_X6_rangePoll) rfl rfl rfl (by decide +kernel) ⟨(Nat.le_of_ble_eq_true rfl), (Nat.le_of_ble_eq_true rfl)⟩) (xPV C w [28, 29] rfl (by decide) (ci := 10) (q0 := 28) rfl rfl) rfl rfl hl.1 rfl (lv_room (Nat.le_of_ble_eq_true rfl)) dL_law_1529 ⟨(Nat.le_of_ble_eq_true rfl), (Nat.le_of_ble_eq_true rfl)⟩) (fun f2398 H locs w => ?_)
  have w : xW G A s [((a 3), .inl (cy 1, 24, .inl (fun _ => 0))), ((a 4), .inr (6, [.ref (a 5), .int 0])), ((a 5), .inl (cy 1, 24, .inl (fun _ => 0))), ((a 6), .inr (6, [.ref (a 7), .int 0])), ((a 7), .inl (cy 1, 24, .inl (fun _ => 0))), ((a 8), .inr (5, [.ref (a 9), .ref (a 11), .ref (a 13), .int 0])), ((a 9), .inr (6, [.ref (a 10), .int 0])), ((a 10), .inl (cy 1, 624, .inl (fun _ => 0))), ((a 11), .inr (6, [.ref (a 12), .int 0])), ((a 12), .inl (cy 1, 624, .inl (fun _ => 0))), ((a 13), .inr (6, [.ref (a 14), .int 0])), ((a 14), .inl (cy 1, 12, .inl (fun _ => 0))), ((a 15), .inr (7, [.ref (a 16), .ref (a 18)])), ((a 16), .inr (6, [.ref (a 17), .int 0])), ((a 17), .inl (cy 1, 24, .inl (fun _ => 0))), ((a 18), .inr (6, [.ref (a 19), .int 0])), ((a 19), .inl (cy 1, 24, .inl (fun _ => 0))), ((a 20), .inl (cy 3, 3, .inr (.inr (.inr (.inr (va_up (va_up (va_up (fun _ => none) 0 (some (a 21))) 1 (some (a 22))) 2 (some (a 23)))))))), ((a 21), .inr (4, [.int 0, .int 0, .int 0])), ((a 22), .inr (4, [.int 0, .int 0, .int 0])), ((a 23), .inr (4, [.int 0, .int 0, .int 0])), ((a 24), .inr (6, [.ref (a 25), .int 0])), ((a 25), .inl (cy 1, 24, .inl (fun _ => 0))), ((a 26), .inr (7, [.ref (a 27), .ref (a 29)])), ((a 27), .inr (6, [.ref (a 28), .int 0])), ((a 28), .inl (cy 1, 24, .inl (fun _ => 0))), ((a 29), .inr (6, [.ref (a 30), .int 0])), ((a 30), .inl (cy 1, 24, .inl (fun _ => 0))), ((a 33), .inr (3, [.int 0, .ref (sv 0), .int 0])), ((a 34), .inr (3, [.int 0, .ref (sv 0), .int 0])), ((a 35), .inr (3, [.int 0, .ref (sv 0), .int 0])), ((a 36), .inl (cy 2, 3, .inl (fun _ => 0))), ((a 37), .inl (cy 1, 3, .inl (fun _ => 0))), ((a 38), .inl (cy 1, 3, .inl (fun _ => 0))), ((a 39), .inr (9, [.long 0, .null])), ((a 0), .inr (8, [.ref (a 1), .ref (a 6), .ref (a 8), .ref (a 15), .ref (a 20), .int 0, .ref (a 24), .ref (a 26)])), ((a 1), .inr (7, [.ref (a 2), .ref (a 4)])), ((a 2), .inr (6, [.ref (a 3), .int 0])), ((a 31), .inr (10, [.ref (a 32), .ref (a 33), .ref (a 34), .ref (a 35), .ref (a 36), .ref (a 37), .ref (a 38), .int 0, .int 2])), ((a 32), .inr (3, [.int 0, .ref (sv 0), .int 0]))] H _ := w
  refine W.widen (k := 42) (n := 1545) (Nat.le_of_ble_eq_true rfl) (Nat.le_of_ble_eq_true rfl) ?_
  refine lv_istore (lv' := [(6, .int 0), (5, .int 2), (4, .int 0), (3, .ref (a 39)), (2, .ref (a 31)), (1, .ref (a 0)), (0, .ref b)]) C.1 C.2.1 dL_law_1532 hl (by decide) rfl (fun ls hl => ?_)
  refine lv_aload_n C.1 C.2.1 dL_law_1534 rfl (lv_at hl 4 rfl) ?_
  refine x_ki C w [38] [0, 1, 2, 3, 4, 5, 6, 7, 8, 9, 10, 11, 12, 13, 14, 15, 16, 17, 18, 19, 20, 21, 22, 23, 24, 25, 26, 27, 28, 29, 30, 31, 32, 33, 34, 35, 36, 37, 39] rfl rfl (by decide) (by decide) (va_runV (As := []) (rest := []) (xfix C) (c151_X6_thrown l G cy sa sv (a 31) (a 32) (a 33) (a 34) (a 35) (a 36) (a 37) (a 38) (xtr C) _) (cwV 0 (xhts C) (xgV (maxL := 0) (cc := ⟨#[]⟩) (ret := none) gw_122 gw_123 gw_124 gw_58 gc_X6_thrown) rfl rfl rfl (by decide +kernel) ⟨(Nat.le_of_ble_eq_true rfl), (Nat.le_of_ble_eq_true rfl)⟩) (xPV C w [38] rfl (by decide) (ci := 10) (q0 := 38) rfl rfl) rfl rfl hl.1 rfl (lv_room (Nat.le_of_ble_eq_true rfl)) dL_law_1535 ⟨(Nat.le_of_ble_eq_true rfl), (Nat.le_of_ble_eq_true rfl)⟩) (fun f2399 H locs w => ?_)
  have w : xW G A s [((a 3), .inl (cy 1, 24, .inl (fun _ => 0))), ((a 4), .inr (6, [.ref (a 5), .int 0])), ((a 5), .inl (cy 1, 24, .inl (fun _ => 0))), ((a 6), .inr (6, [.ref (a 7), .int 0])), ((a 7), .inl (cy 1, 24, .inl (fun _ => 0))), ((a 8), .inr (5, [.ref (a 9), .ref (a 11), .ref (a 13), .int 0])), ((a 9), .inr (6, [.ref (a 10), .int 0])), ((a 10), .inl (cy 1, 624, .inl (fun _ => 0))), ((a 11), .inr (6, [.ref (a 12), .int 0])), ((a 12), .inl (cy 1, 624, .inl (fun _ => 0))), ((a 13), .inr (6, [.ref (a 14), .int 0])), ((a 14), .inl (cy 1, 12, .inl (fun _ => 0))), ((a 15), .inr (7, [.ref (a 16), .ref (a 18)])), ((a 16), .inr (6, [.ref (a 17), .int 0])), ((a 17), .inl (cy 1, 24, .inl (fun _ => 0))), ((a 18), .inr (6, [.ref (a 19), .int 0])), ((a 19), .inl (cy 1, 24, .inl (fun _ => 0))), ((a 20), .inl (cy 3, 3, .inr (.inr (.inr (.inr (va_up (va_up (va_up (fun _ => none) 0 (some (a 21))) 1 (some (a 22))) 2 (some (a 23)))))))), ((a 21), .inr (4, [.int 0, .int 0, .int 0])), ((a 22), .inr (4, [.int 0, .int 0, .int 0])), ((a 23), .inr (4, [.int 0, .int 0, .int 0])), ((a 24), .inr (6, [.ref (a 25), .int 0])), ((a 25), .inl (cy 1, 24, .inl (fun _ => 0))), ((a 26), .inr (7, [.ref (a 27), .ref (a 29)])), ((a 27), .inr (6, [.ref (a 28), .int 0])), ((a 28), .inl (cy 1, 24, .inl (fun _ => 0))), ((a 29), .inr (6, [.ref (a 30), .int 0])), ((a 30), .inl (cy 1, 24, .inl (fun _ => 0))), ((a 33), .inr (3, [.int 0, .ref (sv 0), .int 0])), ((a 34), .inr (3, [.int 0, .ref (sv 0), .int 0])), ((a 35), .inr (3, [.int 0, .ref (sv 0), .int 0])), ((a 36), .inl (cy 2, 3, .inl (fun _ => 0))), ((a 37), .inl (cy 1, 3, .inl (fun _ => 0))), ((a 38), .inl (cy 1, 3, .inl (fun _ => 0))), ((a 39), .inr (9, [.long 0, .null])), ((a 0), .inr (8, [.ref (a 1), .ref (a 6), .ref (a 8), .ref (a 15), .ref (a 20), .int 0, .ref (a 24), .ref (a 26)])), ((a 1), .inr (7, [.ref (a 2), .ref (a 4)])), ((a 2), .inr (6, [.ref (a 3), .int 0])), ((a 32), .inr (3, [.int 0, .ref (sv 0), .int 0])), ((a 31), .inr (10, [.ref (a 32), .ref (a 33), .ref (a 34), .ref (a 35), .ref (a 36), .ref (a 37), .ref (a 38), .int 0, .int 2]))] H _ := w
  refine lv_iload C.1 C.2.1 dL_law_1538 (lv_at hl 1 rfl) ?_
  refine lv_icmp_eq (tgt := 1545) C.1 C.2.1 dL_law_1540 (by decide) (fun _ => ?_) (fun c9 => absurd (by decide) c9)
  refine lv_iload C.1 C.2.1 dL_law_1545 (lv_at hl 1 rfl) ?_
  refine lv_if_ne (tgt := 1563) C.1 C.2.1 dL_law_1547 (by decide) (fun _ => ?_) (fun c9 => absurd c9 (by decide))
  refine lv_goto (tgt := 2509) C.1 C.2.1 dL_law_1563 (by decide) ?_
  refine lv_iinc (v := 5) (lv' := [(4, .int 5), (6, .int 0), (5, .int 2), (3, .ref (a 39)), (2, .ref (a 31)), (1, .ref (a 0)), (0, .ref b)]) C.1 C.2.1 dL_law_2509 hl (k := 2) rfl (by decide) (by decide) rfl (fun ls hl => ?_)
  refine lv_goto (tgt := 27) C.1 C.2.1 dL_law_2512 (by decide) ?_
  refine lv_iload C.1 C.2.1 dL_law_27 (lv_at hl 0 rfl) ?_
  refine lv_aload_n C.1 C.2.1 dL_law_29 rfl (lv_at hl 6 rfl) ?_
  refine va_slen C.1 C.2.1 hX hbl hbA w.2.2 dL_law_30 ?_
  refine x_is (y := 5) (by decide) ?_
  refine lv_iconst (v := 5) C.1 C.2.1 dL_law_31 (by decide) ?_
  refine lv_isub C.1 C.2.1 dL_law_32 ?_
  refine x_is (y := 0) (by decide) ?_
  refine lv_icmp_gt (tgt := 2515) C.1 C.2.1 dL_law_33 (by decide) (fun _ => ?_) (fun c9 => absurd (by decide) c9)
  refine lv_iconst (v := 1) C.1 C.2.1 dL_law_2515 (by decide) ?_
  refine va_forget (fun q hq => hAl _ (w.2.2.2.2 q hq)) ?_
  refine W.widen (k := 600002) (n := 7302232) (Nat.le_of_ble_eq_true rfl) (Nat.le_of_ble_eq_true rfl) ?_
  exact lw_ret C.1 C.2.1 hr (xlk C) dL_law_2516
set_option maxHeartbeats 8000000 in
set_option maxRecDepth 100000 in
theorem law_25_67 {p : Program} {e : Env} {s : State} {m : MethodId} {below : List Frame} {meth : Method} {c : Code} {l : Launch} {G : va_G} {cy : Nat → ClassId} {sa : String → Nat → Nat} {sv : Nat → Nat} {A : Nat → Prop} {b : Nat} {xs : Nat → Int32} {a : Nat → Nat} {H : Heap} {locs : List Loc} {ls : Array Slot} (C : xC p l s m #[Value.ref b] meth c code 7 "TwinindexLaw" (Cond.initialized "TwinindexLaw" :: XG) G cy sa sv A) (hr : meth.sig.returnType = ret) (hX : va_X b 5 xs s s.heap) (hbl : b < s.heap.size) (hbA : ¬ A b) (hAl : ∀ q, A q → s.heap.size ≤ q) (w : xW G A s (xW0 cy sv a) H locs) (hl : lv_has ls 7 [(4, .int 0), (3, .ref (a 39)), (2, .ref (a 31)), (1, .ref (a 0)), (0, .ref b)]) (hk : ((xs 0) &&& 63) = 25) (p0 : ¬ (xs 3) = 0) (p1 : ¬ (xs 1) ≤ (xs 2)) : W p l e room_1 s m #[Value.ref b] below meth c H locs 40 1536 (lw_Z below #[Value.ref b] s) (F0 m 27 ls []) := by
  have w : xW G A s [((a 0), .inr (8, [.ref (a 1), .ref (a 6), .ref (a 8), .ref (a 15), .ref (a 20), .int 0, .ref (a 24), .ref (a 26)])), ((a 1), .inr (7, [.ref (a 2), .ref (a 4)])), ((a 2), .inr (6, [.ref (a 3), .int 0])), ((a 3), .inl (cy 1, 24, .inl (fun _ => 0))), ((a 4), .inr (6, [.ref (a 5), .int 0])), ((a 5), .inl (cy 1, 24, .inl (fun _ => 0))), ((a 6), .inr (6, [.ref (a 7), .int 0])), ((a 7), .inl (cy 1, 24, .inl (fun _ => 0))), ((a 8), .inr (5, [.ref (a 9), .ref (a 11), .ref (a 13), .int 0])), ((a 9), .inr (6, [.ref (a 10), .int 0])), ((a 10), .inl (cy 1, 624, .inl (fun _ => 0))), ((a 11), .inr (6, [.ref (a 12), .int 0])), ((a 12), .inl (cy 1, 624, .inl (fun _ => 0))), ((a 13), .inr (6, [.ref (a 14), .int 0])), ((a 14), .inl (cy 1, 12, .inl (fun _ => 0))), ((a 15), .inr (7, [.ref (a 16), .ref (a 18)])), ((a 16), .inr (6, [.ref (a 17), .int 0])), ((a 17), .inl (cy 1, 24, .inl (fun _ => 0))), ((a 18), .inr (6, [.ref (a 19), .int 0])), ((a 19), .inl (cy 1, 24, .inl (fun _ => 0))), ((a 20), .inl (cy 3, 3, .inr (.inr (.inr (.inr (va_up (va_up (va_up (fun _ => none) 0 (some (a 21))) 1 (some (a 22))) 2 (some (a 23)))))))), ((a 21), .inr (4, [.int 0, .int 0, .int 0])), ((a 22), .inr (4, [.int 0, .int 0, .int 0])), ((a 23), .inr (4, [.int 0, .int 0, .int 0])), ((a 24), .inr (6, [.ref (a 25), .int 0])), ((a 25), .inl (cy 1, 24, .inl (fun _ => 0))), ((a 26), .inr (7, [.ref (a 27), .ref (a 29)])), ((a 27), .inr (6, [.ref (a 28), .int 0])), ((a 28), .inl (cy 1, 24, .inl (fun _ => 0))), ((a 29), .inr (6, [.ref (a 30), .int 0])), ((a 30), .inl (cy 1, 24, .inl (fun _ => 0))), ((a 31), .inr (10, [.ref (a 32), .ref (a 33), .ref (a 34), .ref (a 35), .ref (a 36), .ref (a 37), .ref (a 38), .int 0, .int 0])), ((a 32), .inr (3, [.int 0, .ref (sv 0), .int 0])), ((a 33), .inr (3, [.int 0, .ref (sv 0), .int 0])), ((a 34), .inr (3, [.int 0, .ref (sv 0), .int 0])), ((a 35), .inr (3, [.int 0, .ref (sv 0), .int 0])), ((a 36), .inl (cy 2, 3, .inl (fun _ => 0))), ((a 37), .inl (cy 1, 3, .inl (fun _ => 0))), ((a 38), .inl (cy 1, 3, .inl (fun _ => 0))), ((a 39), .inr (9, [.long 0, .null]))] H _ := w
  refine lv_iload C.1 C.2.1 dL_law_27 (lv_at hl 0 rfl) ?_
  refine lv_aload_n C.1 C.2.1 dL_law_29 rfl (lv_at hl 4 rfl) ?_
  refine va_slen C.1 C.2.1 hX hbl hbA w.2.2 dL_law_30 ?_
  refine x_is (y := 5) (by decide) ?_
  refine lv_iconst (v := 5) C.1 C.2.1 dL_law_31 (by decide) ?_
  refine lv_isub C.1 C.2.1 dL_law_32 ?_
  refine x_is (y := 0) (by decide) ?_
  refine lv_icmp_gt (tgt := 2515) C.1 C.2.1 dL_law_33 (by decide) (fun c9 => absurd c9 (by decide)) (fun _ => ?_)
  refine lv_aload_n C.1 C.2.1 dL_law_36 rfl (lv_at hl 4 rfl) ?_
  refine lv_iload C.1 C.2.1 dL_law_37 (lv_at hl 0 rfl) ?_
  refine va_sld C.1 C.2.1 hX hbl hbA w.2.2 (xvin (by decide)) dL_law_39 ?_
  refine x_is (y := (xs 0)) (by rfl) ?_
  refine lv_bipush (v := 63) C.1 C.2.1 dL_law_40 (by decide) ?_
  refine lv_iand C.1 C.2.1 dL_law_42 ?_
  refine x_is (y := 25) hk ?_
  refine lv_tableIn (off := 1426) (tgt := 1469) C.1 C.2.1 dL_law_43 (by decide) (by decide) (by decide) (by decide) ?_
  refine lv_aload_n C.1 C.2.1 dL_law_1469 rfl (lv_at hl 3 rfl) ?_
  refine lv_aload_n C.1 C.2.1 dL_law_1470 rfl (lv_at hl 4 rfl) ?_
  refine lv_iload C.1 C.2.1 dL_law_1471 (lv_at hl 0 rfl) ?_
  refine lv_iconst (v := 1) C.1 C.2.1 dL_law_1473 (by decide) ?_
  refine lv_iadd C.1 C.2.1 dL_law_1474 ?_
  refine x_is (y := 1) (by decide) ?_
  refine va_sld C.1 C.2.1 hX hbl hbA w.2.2 (xvin (by decide)) dL_law_1475 ?_
  refine x_is (y := (xs 1)) (by rfl) ?_
  refine lv_aload_n C.1 C.2.1 dL_law_1476 rfl (lv_at hl 4 rfl) ?_
  refine lv_iload C.1 C.2.1 dL_law_1477 (lv_at hl 0 rfl) ?_
  refine lv_iconst (v := 2) C.1 C.2.1 dL_law_1479 (by decide) ?_
  refine lv_iadd C.1 C.2.1 dL_law_1480 ?_
  refine x_is (y := 2) (by decide) ?_
  refine va_sld C.1 C.2.1 hX hbl hbA w.2.2 (xvin (by decide)) dL_law_1481 ?_
  refine x_is (y := (xs 2)) (by rfl) ?_
  refine lv_aload_n C.1 C.2.1 dL_law_1482 rfl (lv_at hl 4 rfl) ?_
  refine lv_iload C.1 C.2.1 dL_law_1483 (lv_at hl 0 rfl) ?_
  refine lv_iconst (v := 3) C.1 C.2.1 dL_law_1485 (by decide) ?_
  refine lv_iadd C.1 C.2.1 dL_law_1486 ?_
  refine x_is (y := 3) (by decide) ?_
  refine va_sld C.1 C.2.1 hX hbl hbA w.2.2 (xvin (by decide)) dL_law_1487 ?_
  refine x_is (y := (xs 3)) (by rfl) ?_
  refine lv_if_eq (tgt := 1495) C.1 C.2.1 dL_law_1488 (by decide) (fun c9 => absurd c9 p0) (fun _ => ?_)
  refine lv_iconst (v := 1) C.1 C.2.1 dL_law_1491 (by decide) ?_
  refine lv_goto (tgt := 1496) C.1 C.2.1 dL_law_1492 (by decide) ?_
  refine lv_aload_n C.1 C.2.1 dL_law_1496 rfl (lv_at hl 1 rfl) ?_
  refine x_ki C w [0] [1, 2, 3, 4, 5, 6, 7, 8, 9, 10, 11, 12, 13, 14, 15, 16, 17, 18, 19, 20, 21, 22, 23, 24, 25, 26, 27, 28, 29, 30, 31, 32, 33, 34, 35, 36, 37, 38, 39] rfl rfl (by decide) (by decide) (vx_runSW (As := [.ref (a 0), .int (xs 1), .int (xs 2), .int 1, .ref (a 39)]) (rest := []) (xfix C) (c381_L_rangePoll l G cy sa sv (a 0) (a 39) (a 1) (a 6) (a 8) (a 15) (a 20) (a 24) (a 26) (xs 1) (xs 2) p1 (xtr C) _) (vx_cwSW 5 (xhts C) (xgS gw_708 gw_709 gw_106 gc_L_rangePoll) rfl rfl rfl (by decide +kernel) ⟨(Nat.le_of_ble_eq_true rfl), (Nat.le_of_ble_eq_true rfl)⟩) (xPS C w [0] rfl (by decide)) rfl rfl hl.1 rfl (lv_room (Nat.le_of_ble_eq_true rfl)) dL_law_1497 ⟨(Nat.le_of_ble_eq_true rfl), (Nat.le_of_ble_eq_true rfl)⟩) (fun f2407 H locs w => ?_)
  have w : xW G A s [((a 1), .inr (7, [.ref (a 2), .ref (a 4)])), ((a 2), .inr (6, [.ref (a 3), .int 0])), ((a 3), .inl (cy 1, 24, .inl (fun _ => 0))), ((a 4), .inr (6, [.ref (a 5), .int 0])), ((a 5), .inl (cy 1, 24, .inl (fun _ => 0))), ((a 6), .inr (6, [.ref (a 7), .int 0])), ((a 7), .inl (cy 1, 24, .inl (fun _ => 0))), ((a 8), .inr (5, [.ref (a 9), .ref (a 11), .ref (a 13), .int 0])), ((a 9), .inr (6, [.ref (a 10), .int 0])), ((a 10), .inl (cy 1, 624, .inl (fun _ => 0))), ((a 11), .inr (6, [.ref (a 12), .int 0])), ((a 12), .inl (cy 1, 624, .inl (fun _ => 0))), ((a 13), .inr (6, [.ref (a 14), .int 0])), ((a 14), .inl (cy 1, 12, .inl (fun _ => 0))), ((a 15), .inr (7, [.ref (a 16), .ref (a 18)])), ((a 16), .inr (6, [.ref (a 17), .int 0])), ((a 17), .inl (cy 1, 24, .inl (fun _ => 0))), ((a 18), .inr (6, [.ref (a 19), .int 0])), ((a 19), .inl (cy 1, 24, .inl (fun _ => 0))), ((a 20), .inl (cy 3, 3, .inr (.inr (.inr (.inr (va_up (va_up (va_up (fun _ => none) 0 (some (a 21))) 1 (some (a 22))) 2 (some (a 23)))))))), ((a 21), .inr (4, [.int 0, .int 0, .int 0])), ((a 22), .inr (4, [.int 0, .int 0, .int 0])), ((a 23), .inr (4, [.int 0, .int 0, .int 0])), ((a 24), .inr (6, [.ref (a 25), .int 0])), ((a 25), .inl (cy 1, 24, .inl (fun _ => 0))), ((a 26), .inr (7, [.ref (a 27), .ref (a 29)])), ((a 27), .inr (6, [.ref (a 28), .int 0])), ((a 28), .inl (cy 1, 24, .inl (fun _ => 0))), ((a 29), .inr (6, [.ref (a 30), .int 0])), ((a 30), .inl (cy 1, 24, .inl (fun _ => 0))), ((a 31), .inr (10, [.ref (a 32), .ref (a 33), .ref (a 34), .ref (a 35), .ref (a 36), .ref (a 37), .ref (a 38), .int 0, .int 0])), ((a 32), .inr (3, [.int 0, .ref (sv 0), .int 0])), ((a 33), .inr (3, [.int 0, .ref (sv 0), .int 0])), ((a 34), .inr (3, [.int 0, .ref (sv 0), .int 0])), ((a 35), .inr (3, [.int 0, .ref (sv 0), .int 0])), ((a 36), .inl (cy 2, 3, .inl (fun _ => 0))), ((a 37), .inl (cy 1, 3, .inl (fun _ => 0))), ((a 38), .inl (cy 1, 3, .inl (fun _ => 0))), ((a 39), .inr (9, [.long 0, .null])), ((a 0), .inr (8, [.ref (a 1), .ref (a 6), .ref (a 8), .ref (a 15), .ref (a 20), .int 0, .ref (a 24), .ref (a 26)]))] H _ := w
  refine W.widen (k := 41) (n := 1542) (Nat.le_of_ble_eq_true rfl) (Nat.le_of_ble_eq_true rfl) ?_
  refine lv_istore (lv' := [(5, .int 1), (4, .int 0), (3, .ref (a 39)), (2, .ref (a 31)), (1, .ref (a 0)), (0, .ref b)]) C.1 C.2.1 dL_law_1500 hl (by decide) rfl (fun ls hl => ?_)
  refine lv_aload_n C.1 C.2.1 dL_law_1502 rfl (lv_at hl 3 rfl) ?_
  refine lv_aload_n C.1 C.2.1 dL_law_1503 rfl (lv_at hl 5 rfl) ?_
  refine lv_iload C.1 C.2.1 dL_law_1504 (lv_at hl 1 rfl) ?_
  refine lv_iconst (v := 1) C.1 C.2.1 dL_law_1506 (by decide) ?_
  refine lv_iadd C.1 C.2.1 dL_law_1507 ?_
  refine x_is (y := 1) (by decide) ?_
  refine va_sld C.1 C.2.1 hX hbl hbA w.2.2 (xvin (by decide)) dL_law_1508 ?_
  refine x_is (y := (xs 1)) (by rfl) ?_
  refine lv_aload_n C.1 C.2.1 dL_law_1509 rfl (lv_at hl 5 rfl) ?_
  refine lv_iload C.1 C.2.1 dL_law_1510 (lv_at hl 1 rfl) ?_
  refine lv_iconst (v := 2) C.1 C.2.1 dL_law_1512 (by decide) ?_
  refine lv_iadd C.1 C.2.1 dL_law_1513 ?_
  refine x_is (y := 2) (by decide) ?_
  refine va_sld C.1 C.2.1 hX hbl hbA w.2.2 (xvin (by decide)) dL_law_1514 ?_
  refine x_is (y := (xs 2)) (by rfl) ?_
  refine lv_aload_n C.1 C.2.1 dL_law_1515 rfl (lv_at hl 5 rfl) ?_
  refine lv_iload C.1 C.2.1 dL_law_1516 (lv_at hl 1 rfl) ?_
  refine lv_iconst (v := 3) C.1 C.2.1 dL_law_1518 (by decide) ?_
  refine lv_iadd C.1 C.2.1 dL_law_1519 ?_
  refine x_is (y := 3) (by decide) ?_
  refine va_sld C.1 C.2.1 hX hbl hbA w.2.2 (xvin (by decide)) dL_law_1520 ?_
  refine x_is (y := (xs 3)) (by rfl) ?_
  refine lv_if_eq (tgt := 1528) C.1 C.2.1 dL_law_1521 (by decide) (fun c9 => absurd c9 p0) (fun _ => ?_)
  refine lv_iconst (v := 1) C.1 C.2.1 dL_law_1524 (by decide) ?_
  refine lv_goto (tgt := 1529) C.1 C.2.1 dL_law_1525 (by decide) ?_
  refine x_ki C w [30] [0, 1, 2, 3, 4, 5, 6, 7, 8, 9, 10, 11, 12, 13, 14, 15, 16, 17, 18, 19, 20, 21, 22, 23, 24, 25, 26, 27, 28, 29, 31, 32, 33, 34, 35, 36, 37, 38, 39] rfl rfl (by decide) (by decide) (va_runV (As := [.int (xs 1), .int (xs 2), .int 1]) (rest := []) (xfix C) (c382_X6_rangePoll l G cy sa sv (a 31) (a 32) (a 33) (a 34) (a 35) (a 36) (a 37) (a 38) (xs 1) (xs 2) p1 (xtr C) _) (cwV 3 (xhts C) (xgV (maxL := 0) (cc := ⟨#[]⟩) (ret := none) gw_711 gw_712 gw_713 gw_58 gc_X6_rangePoll) rfl rfl rfl (by decide +kernel) ⟨(Nat.le_of_ble_eq_true rfl), (Nat.le_of_ble_eq_true rfl)⟩) (xPV C w [30] rfl (by decide) (ci := 10) (q0 := 30) rfl rfl) rfl rfl hl.1 rfl (lv_room (Nat.le_of_ble_eq_true rfl)) dL_law_1529 ⟨(Nat.le_of_ble_eq_true rfl), (Nat.le_of_ble_eq_true rfl)⟩) (fun f2409 H locs w => ?_)
  have w : xW G A s [((a 1), .inr (7, [.ref (a 2), .ref (a 4)])), ((a 2), .inr (6, [.ref (a 3), .int 0])), ((a 3), .inl (cy 1, 24, .inl (fun _ => 0))), ((a 4), .inr (6, [.ref (a 5), .int 0])), ((a 5), .inl (cy 1, 24, .inl (fun _ => 0))), ((a 6), .inr (6, [.ref (a 7), .int 0])), ((a 7), .inl (cy 1, 24, .inl (fun _ => 0))), ((a 8), .inr (5, [.ref (a 9), .ref (a 11), .ref (a 13), .int 0])), ((a 9), .inr (6, [.ref (a 10), .int 0])), ((a 10), .inl (cy 1, 624, .inl (fun _ => 0))), ((a 11), .inr (6, [.ref (a 12), .int 0])), ((a 12), .inl (cy 1, 624, .inl (fun _ => 0))), ((a 13), .inr (6, [.ref (a 14), .int 0])), ((a 14), .inl (cy 1, 12, .inl (fun _ => 0))), ((a 15), .inr (7, [.ref (a 16), .ref (a 18)])), ((a 16), .inr (6, [.ref (a 17), .int 0])), ((a 17), .inl (cy 1, 24, .inl (fun _ => 0))), ((a 18), .inr (6, [.ref (a 19), .int 0])), ((a 19), .inl (cy 1, 24, .inl (fun _ => 0))), ((a 20), .inl (cy 3, 3, .inr (.inr (.inr (.inr (va_up (va_up (va_up (fun _ => none) 0 (some (a 21))) 1 (some (a 22))) 2 (some (a 23)))))))), ((a 21), .inr (4, [.int 0, .int 0, .int 0])), ((a 22), .inr (4, [.int 0, .int 0, .int 0])), ((a 23), .inr (4, [.int 0, .int 0, .int 0])), ((a 24), .inr (6, [.ref (a 25), .int 0])), ((a 25), .inl (cy 1, 24, .inl (fun _ => 0))), ((a 26), .inr (7, [.ref (a 27), .ref (a 29)])), ((a 27), .inr (6, [.ref (a 28), .int 0])), ((a 28), .inl (cy 1, 24, .inl (fun _ => 0))), ((a 29), .inr (6, [.ref (a 30), .int 0])), ((a 30), .inl (cy 1, 24, .inl (fun _ => 0))), ((a 32), .inr (3, [.int 0, .ref (sv 0), .int 0])), ((a 33), .inr (3, [.int 0, .ref (sv 0), .int 0])), ((a 34), .inr (3, [.int 0, .ref (sv 0), .int 0])), ((a 35), .inr (3, [.int 0, .ref (sv 0), .int 0])), ((a 36), .inl (cy 2, 3, .inl (fun _ => 0))), ((a 37), .inl (cy 1, 3, .inl (fun _ => 0))), ((a 38), .inl (cy 1, 3, .inl (fun _ => 0))), ((a 39), .inr (9, [.long 0, .null])), ((a 0), .inr (8, [.ref (a 1), .ref (a 6), .ref (a 8), .ref (a 15), .ref (a 20), .int 0, .ref (a 24), .ref (a 26)])), ((a 31), .inr (10, [.ref (a 32), .ref (a 33), .ref (a 34), .ref (a 35), .ref (a 36), .ref (a 37), .ref (a 38), .int 0, .int 1]))] H _ := w
  refine lv_istore (lv' := [(6, .int 0), (5, .int 1), (4, .int 0), (3, .ref (a 39)), (2, .ref (a 31)), (1, .ref (a 0)), (0, .ref b)]) C.1 C.2.1 dL_law_1532 hl (by decide) rfl (fun ls hl => ?_)
  refine lv_aload_n C.1 C.2.1 dL_law_1534 rfl (lv_at hl 4 rfl) ?_
  refine x_ki C w [39] [0, 1, 2, 3, 4, 5, 6, 7, 8, 9, 10, 11, 12, 13, 14, 15, 16, 17, 18, 19, 20, 21, 22, 23, 24, 25, 26, 27, 28, 29, 30, 31, 32, 33, 34, 35, 36, 37, 38] rfl rfl (by decide) (by decide) (va_runV (As := []) (rest := []) (xfix C) (c19_X6_thrown l G cy sa sv (a 31) (a 32) (a 33) (a 34) (a 35) (a 36) (a 37) (a 38) (xtr C) _) (cwV 0 (xhts C) (xgV (maxL := 0) (cc := ⟨#[]⟩) (ret := none) gw_122 gw_123 gw_124 gw_58 gc_X6_thrown) rfl rfl rfl (by decide +kernel) ⟨(Nat.le_of_ble_eq_true rfl), (Nat.le_of_ble_eq_true rfl)⟩) (xPV C w [39] rfl (by decide) (ci := 10) (q0 := 39) rfl rfl) rfl rfl hl.1 rfl (lv_room (Nat.le_of_ble_eq_true rfl)) dL_law_1535 ⟨(Nat.le_of_ble_eq_true rfl), (Nat.le_of_ble_eq_true rfl)⟩) (fun f2410 H locs w => ?_)
  have w : xW G A s [((a 1), .inr (7, [.ref (a 2), .ref (a 4)])), ((a 2), .inr (6, [.ref (a 3), .int 0])), ((a 3), .inl (cy 1, 24, .inl (fun _ => 0))), ((a 4), .inr (6, [.ref (a 5), .int 0])), ((a 5), .inl (cy 1, 24, .inl (fun _ => 0))), ((a 6), .inr (6, [.ref (a 7), .int 0])), ((a 7), .inl (cy 1, 24, .inl (fun _ => 0))), ((a 8), .inr (5, [.ref (a 9), .ref (a 11), .ref (a 13), .int 0])), ((a 9), .inr (6, [.ref (a 10), .int 0])), ((a 10), .inl (cy 1, 624, .inl (fun _ => 0))), ((a 11), .inr (6, [.ref (a 12), .int 0])), ((a 12), .inl (cy 1, 624, .inl (fun _ => 0))), ((a 13), .inr (6, [.ref (a 14), .int 0])), ((a 14), .inl (cy 1, 12, .inl (fun _ => 0))), ((a 15), .inr (7, [.ref (a 16), .ref (a 18)])), ((a 16), .inr (6, [.ref (a 17), .int 0])), ((a 17), .inl (cy 1, 24, .inl (fun _ => 0))), ((a 18), .inr (6, [.ref (a 19), .int 0])), ((a 19), .inl (cy 1, 24, .inl (fun _ => 0))), ((a 20), .inl (cy 3, 3, .inr (.inr (.inr (.inr (va_up (va_up (va_up (fun _ => none) 0 (some (a 21))) 1 (some (a 22))) 2 (some (a 23)))))))), ((a 21), .inr (4, [.int 0, .int 0, .int 0])), ((a 22), .inr (4, [.int 0, .int 0, .int 0])), ((a 23), .inr (4, [.int 0, .int 0, .int 0])), ((a 24), .inr (6, [.ref (a 25), .int 0])), ((a 25), .inl (cy 1, 24, .inl (fun _ => 0))), ((a 26), .inr (7, [.ref (a 27), .ref (a 29)])), ((a 27), .inr (6, [.ref (a 28), .int 0])), ((a 28), .inl (cy 1, 24, .inl (fun _ => 0))), ((a 29), .inr (6, [.ref (a 30), .int 0])), ((a 30), .inl (cy 1, 24, .inl (fun _ => 0))), ((a 32), .inr (3, [.int 0, .ref (sv 0), .int 0])), ((a 33), .inr (3, [.int 0, .ref (sv 0), .int 0])), ((a 34), .inr (3, [.int 0, .ref (sv 0), .int 0])), ((a 35), .inr (3, [.int 0, .ref (sv 0), .int 0])), ((a 36), .inl (cy 2, 3, .inl (fun _ => 0))), ((a 37), .inl (cy 1, 3, .inl (fun _ => 0))), ((a 38), .inl (cy 1, 3, .inl (fun _ => 0))), ((a 39), .inr (9, [.long 0, .null])), ((a 0), .inr (8, [.ref (a 1), .ref (a 6), .ref (a 8), .ref (a 15), .ref (a 20), .int 0, .ref (a 24), .ref (a 26)])), ((a 31), .inr (10, [.ref (a 32), .ref (a 33), .ref (a 34), .ref (a 35), .ref (a 36), .ref (a 37), .ref (a 38), .int 0, .int 1]))] H _ := w
  refine lv_iload C.1 C.2.1 dL_law_1538 (lv_at hl 1 rfl) ?_
  refine lv_icmp_eq (tgt := 1545) C.1 C.2.1 dL_law_1540 (by decide) (fun _ => ?_) (fun c9 => absurd (by decide) c9)
  refine lv_iload C.1 C.2.1 dL_law_1545 (lv_at hl 1 rfl) ?_
  refine lv_if_ne (tgt := 1563) C.1 C.2.1 dL_law_1547 (by decide) (fun _ => ?_) (fun c9 => absurd c9 (by decide))
  refine lv_goto (tgt := 2509) C.1 C.2.1 dL_law_1563 (by decide) ?_
  refine lv_iinc (v := 5) (lv' := [(4, .int 5), (6, .int 0), (5, .int 1), (3, .ref (a 39)), (2, .ref (a 31)), (1, .ref (a 0)), (0, .ref b)]) C.1 C.2.1 dL_law_2509 hl (k := 2) rfl (by decide) (by decide) rfl (fun ls hl => ?_)
  refine lv_goto (tgt := 27) C.1 C.2.1 dL_law_2512 (by decide) ?_
  refine lv_iload C.1 C.2.1 dL_law_27 (lv_at hl 0 rfl) ?_
  refine lv_aload_n C.1 C.2.1 dL_law_29 rfl (lv_at hl 6 rfl) ?_
  refine va_slen C.1 C.2.1 hX hbl hbA w.2.2 dL_law_30 ?_
  refine x_is (y := 5) (by decide) ?_
  refine lv_iconst (v := 5) C.1 C.2.1 dL_law_31 (by decide) ?_
  refine lv_isub C.1 C.2.1 dL_law_32 ?_
  refine x_is (y := 0) (by decide) ?_
  refine lv_icmp_gt (tgt := 2515) C.1 C.2.1 dL_law_33 (by decide) (fun _ => ?_) (fun c9 => absurd (by decide) c9)
  refine lv_iconst (v := 1) C.1 C.2.1 dL_law_2515 (by decide) ?_
  refine va_forget (fun q hq => hAl _ (w.2.2.2.2 q hq)) ?_
  refine W.widen (k := 600002) (n := 7302232) (Nat.le_of_ble_eq_true rfl) (Nat.le_of_ble_eq_true rfl) ?_
  exact lw_ret C.1 C.2.1 hr (xlk C) dL_law_2516
set_option maxHeartbeats 8000000 in
set_option maxRecDepth 100000 in
theorem law_26_68 {p : Program} {e : Env} {s : State} {m : MethodId} {below : List Frame} {meth : Method} {c : Code} {l : Launch} {G : va_G} {cy : Nat → ClassId} {sa : String → Nat → Nat} {sv : Nat → Nat} {A : Nat → Prop} {b : Nat} {xs : Nat → Int32} {a : Nat → Nat} {H : Heap} {locs : List Loc} {ls : Array Slot} (C : xC p l s m #[Value.ref b] meth c code 7 "TwinindexLaw" (Cond.initialized "TwinindexLaw" :: XG) G cy sa sv A) (hr : meth.sig.returnType = ret) (hX : va_X b 5 xs s s.heap) (hbl : b < s.heap.size) (hbA : ¬ A b) (hAl : ∀ q, A q → s.heap.size ≤ q) (w : xW G A s (xW0 cy sv a) H locs) (hl : lv_has ls 7 [(4, .int 0), (3, .ref (a 39)), (2, .ref (a 31)), (1, .ref (a 0)), (0, .ref b)]) (hk : ((xs 0) &&& 63) = 26) (p0 : (xs 1) ≤ (xs 2)) : W p l e room_1 s m #[Value.ref b] below meth c H locs 40 1536 (lw_Z below #[Value.ref b] s) (F0 m 27 ls []) := by
  have w : xW G A s [((a 0), .inr (8, [.ref (a 1), .ref (a 6), .ref (a 8), .ref (a 15), .ref (a 20), .int 0, .ref (a 24), .ref (a 26)])), ((a 1), .inr (7, [.ref (a 2), .ref (a 4)])), ((a 2), .inr (6, [.ref (a 3), .int 0])), ((a 3), .inl (cy 1, 24, .inl (fun _ => 0))), ((a 4), .inr (6, [.ref (a 5), .int 0])), ((a 5), .inl (cy 1, 24, .inl (fun _ => 0))), ((a 6), .inr (6, [.ref (a 7), .int 0])), ((a 7), .inl (cy 1, 24, .inl (fun _ => 0))), ((a 8), .inr (5, [.ref (a 9), .ref (a 11), .ref (a 13), .int 0])), ((a 9), .inr (6, [.ref (a 10), .int 0])), ((a 10), .inl (cy 1, 624, .inl (fun _ => 0))), ((a 11), .inr (6, [.ref (a 12), .int 0])), ((a 12), .inl (cy 1, 624, .inl (fun _ => 0))), ((a 13), .inr (6, [.ref (a 14), .int 0])), ((a 14), .inl (cy 1, 12, .inl (fun _ => 0))), ((a 15), .inr (7, [.ref (a 16), .ref (a 18)])), ((a 16), .inr (6, [.ref (a 17), .int 0])), ((a 17), .inl (cy 1, 24, .inl (fun _ => 0))), ((a 18), .inr (6, [.ref (a 19), .int 0])), ((a 19), .inl (cy 1, 24, .inl (fun _ => 0))), ((a 20), .inl (cy 3, 3, .inr (.inr (.inr (.inr (va_up (va_up (va_up (fun _ => none) 0 (some (a 21))) 1 (some (a 22))) 2 (some (a 23)))))))), ((a 21), .inr (4, [.int 0, .int 0, .int 0])), ((a 22), .inr (4, [.int 0, .int 0, .int 0])), ((a 23), .inr (4, [.int 0, .int 0, .int 0])), ((a 24), .inr (6, [.ref (a 25), .int 0])), ((a 25), .inl (cy 1, 24, .inl (fun _ => 0))), ((a 26), .inr (7, [.ref (a 27), .ref (a 29)])), ((a 27), .inr (6, [.ref (a 28), .int 0])), ((a 28), .inl (cy 1, 24, .inl (fun _ => 0))), ((a 29), .inr (6, [.ref (a 30), .int 0])), ((a 30), .inl (cy 1, 24, .inl (fun _ => 0))), ((a 31), .inr (10, [.ref (a 32), .ref (a 33), .ref (a 34), .ref (a 35), .ref (a 36), .ref (a 37), .ref (a 38), .int 0, .int 0])), ((a 32), .inr (3, [.int 0, .ref (sv 0), .int 0])), ((a 33), .inr (3, [.int 0, .ref (sv 0), .int 0])), ((a 34), .inr (3, [.int 0, .ref (sv 0), .int 0])), ((a 35), .inr (3, [.int 0, .ref (sv 0), .int 0])), ((a 36), .inl (cy 2, 3, .inl (fun _ => 0))), ((a 37), .inl (cy 1, 3, .inl (fun _ => 0))), ((a 38), .inl (cy 1, 3, .inl (fun _ => 0))), ((a 39), .inr (9, [.long 0, .null]))] H _ := w
  refine lv_iload C.1 C.2.1 dL_law_27 (lv_at hl 0 rfl) ?_
  refine lv_aload_n C.1 C.2.1 dL_law_29 rfl (lv_at hl 4 rfl) ?_
  refine va_slen C.1 C.2.1 hX hbl hbA w.2.2 dL_law_30 ?_
  refine x_is (y := 5) (by decide) ?_
  refine lv_iconst (v := 5) C.1 C.2.1 dL_law_31 (by decide) ?_
  refine lv_isub C.1 C.2.1 dL_law_32 ?_
  refine x_is (y := 0) (by decide) ?_
  refine lv_icmp_gt (tgt := 2515) C.1 C.2.1 dL_law_33 (by decide) (fun c9 => absurd c9 (by decide)) (fun _ => ?_)
  refine lv_aload_n C.1 C.2.1 dL_law_36 rfl (lv_at hl 4 rfl) ?_
  refine lv_iload C.1 C.2.1 dL_law_37 (lv_at hl 0 rfl) ?_
  refine va_sld C.1 C.2.1 hX hbl hbA w.2.2 (xvin (by decide)) dL_law_39 ?_
  refine x_is (y := (xs 0)) (by rfl) ?_
  refine lv_bipush (v := 63) C.1 C.2.1 dL_law_40 (by decide) ?_
  refine lv_iand C.1 C.2.1 dL_law_42 ?_
  refine x_is (y := 26) hk ?_
  refine lv_tableIn (off := 1523) (tgt := 1566) C.1 C.2.1 dL_law_43 (by decide) (by decide) (by decide) (by decide) ?_
  refine lv_aload_n C.1 C.2.1 dL_law_1566 rfl (lv_at hl 3 rfl) ?_
  refine lv_aload_n C.1 C.2.1 dL_law_1567 rfl (lv_at hl 4 rfl) ?_
  refine lv_iload C.1 C.2.1 dL_law_1568 (lv_at hl 0 rfl) ?_
  refine lv_iconst (v := 1) C.1 C.2.1 dL_law_1570 (by decide) ?_
  refine lv_iadd C.1 C.2.1 dL_law_1571 ?_
  refine x_is (y := 1) (by decide) ?_
  refine va_sld C.1 C.2.1 hX hbl hbA w.2.2 (xvin (by decide)) dL_law_1572 ?_
  refine x_is (y := (xs 1)) (by rfl) ?_
  refine lv_aload_n C.1 C.2.1 dL_law_1573 rfl (lv_at hl 4 rfl) ?_
  refine lv_iload C.1 C.2.1 dL_law_1574 (lv_at hl 0 rfl) ?_
  refine lv_iconst (v := 2) C.1 C.2.1 dL_law_1576 (by decide) ?_
  refine lv_iadd C.1 C.2.1 dL_law_1577 ?_
  refine x_is (y := 2) (by decide) ?_
  refine va_sld C.1 C.2.1 hX hbl hbA w.2.2 (xvin (by decide)) dL_law_1578 ?_
  refine x_is (y := (xs 2)) (by rfl) ?_
  refine x_ki C w [0, 1, 2, 24, 8] [3, 4, 5, 6, 7, 9, 10, 11, 12, 13, 14, 15, 16, 17, 18, 19, 20, 21, 22, 23, 25, 26, 27, 28, 29, 30, 31, 32, 33, 34, 35, 36, 37, 38, 39] rfl rfl (by decide) (by decide) (va_runV (As := [.int (xs 1), .int (xs 2)]) (rest := []) (xfix C) (c383_X4_rangeClear l G cy sa sv (a 0) (a 1) (a 2) (a 24) (a 8) (a 6) (a 15) (a 20) (a 26) (a 4) (a 3) (a 25) (a 9) (a 11) (a 13) (xs 1) (xs 2) p0 (xtr C) _) (cwV 2 (xhts C) (xgV (maxL := 0) (cc := ⟨#[]⟩) (ret := none) gw_714 gw_323 gw_324 gw_2 gc_X4_rangeClear) rfl rfl rfl (by decide +kernel) ⟨(Nat.le_of_ble_eq_true rfl), (Nat.le_of_ble_eq_true rfl)⟩) (xPV C w [0, 1, 2, 24, 8] rfl (by decide) (ci := 8) (q0 := 0) rfl rfl) rfl rfl hl.1 rfl (lv_room (Nat.le_of_ble_eq_true rfl)) dL_law_1579 ⟨(Nat.le_of_ble_eq_true rfl), (Nat.le_of_ble_eq_true rfl)⟩) (fun f2428 H locs w => ?_)
  have w : xW G A s [((a 3), .inl (cy 1, 24, .inl (fun _ => 0))), ((a 4), .inr (6, [.ref (a 5), .int 0])), ((a 5), .inl (cy 1, 24, .inl (fun _ => 0))), ((a 6), .inr (6, [.ref (a 7), .int 0])), ((a 7), .inl (cy 1, 24, .inl (fun _ => 0))), ((a 9), .inr (6, [.ref (a 10), .int 0])), ((a 10), .inl (cy 1, 624, .inl (fun _ => 0))), ((a 11), .inr (6, [.ref (a 12), .int 0])), ((a 12), .inl (cy 1, 624, .inl (fun _ => 0))), ((a 13), .inr (6, [.ref (a 14), .int 0])), ((a 14), .inl (cy 1, 12, .inl (fun _ => 0))), ((a 15), .inr (7, [.ref (a 16), .ref (a 18)])), ((a 16), .inr (6, [.ref (a 17), .int 0])), ((a 17), .inl (cy 1, 24, .inl (fun _ => 0))), ((a 18), .inr (6, [.ref (a 19), .int 0])), ((a 19), .inl (cy 1, 24, .inl (fun _ => 0))), ((a 20), .inl (cy 3, 3, .inr (.inr (.inr (.inr (va_up (va_up (va_up (fun _ => none) 0 (some (a 21))) 1 (some (a 22))) 2 (some (a 23)))))))), ((a 21), .inr (4, [.int 0, .int 0, .int 0])), ((a 22), .inr (4, [.int 0, .int 0, .int 0])), ((a 23), .inr (4, [.int 0, .int 0, .int 0])), ((a 25), .inl (cy 1, 24, .inl (fun _ => 0))), ((a 26), .inr (7, [.ref (a 27), .ref (a 29)])), ((a 27), .inr (6, [.ref (a 28), .int 0])), ((a 28), .inl (cy 1, 24, .inl (fun _ => 0))), ((a 29), .inr (6, [.ref (a 30), .int 0])), ((a 30), .inl (cy 1, 24, .inl (fun _ => 0))), ((a 31), .inr (10, [.ref (a 32), .ref (a 33), .ref (a 34), .ref (a 35), .ref (a 36), .ref (a 37), .ref (a 38), .int 0, .int 0])), ((a 32), .inr (3, [.int 0, .ref (sv 0), .int 0])), ((a 33), .inr (3, [.int 0, .ref (sv 0), .int 0])), ((a 34), .inr (3, [.int 0, .ref (sv 0), .int 0])), ((a 35), .inr (3, [.int 0, .ref (sv 0), .int 0])), ((a 36), .inl (cy 2, 3, .inl (fun _ => 0))), ((a 37), .inl (cy 1, 3, .inl (fun _ => 0))), ((a 38), .inl (cy 1, 3, .inl (fun _ => 0))), ((a 39), .inr (9, [.long 0, .null])), ((a 0), .inr (8, [.ref (a 1), .ref (a 6), .ref (a 8), .ref (a 15), .ref (a 20), .int 0, .ref (a 24), .ref (a 26)])), ((a 1), .inr (7, [.ref (a 2), .ref (a 4)])), ((a 2), .inr (6, [.ref (a 3), .int 0])), ((a 24), .inr (6, [.ref (a 25), .int 0])), ((a 8), .inr (5, [.ref (a 9), .ref (a 11), .ref (a 13), .int 0]))] H _ := w
  refine lv_aload_n C.1 C.2.1 dL_law_1582 rfl (lv_at hl 2 rfl) ?_
  refine lv_aload_n C.1 C.2.1 dL_law_1583 rfl (lv_at hl 4 rfl) ?_
  refine lv_iload C.1 C.2.1 dL_law_1584 (lv_at hl 0 rfl) ?_
  refine lv_iconst (v := 1) C.1 C.2.1 dL_law_1586 (by decide) ?_
  refine lv_iadd C.1 C.2.1 dL_law_1587 ?_
  refine x_is (y := 1) (by decide) ?_
  refine va_sld C.1 C.2.1 hX hbl hbA w.2.2 (xvin (by decide)) dL_law_1588 ?_
  refine x_is (y := (xs 1)) (by rfl) ?_
  refine lv_aload_n C.1 C.2.1 dL_law_1589 rfl (lv_at hl 4 rfl) ?_
  refine lv_iload C.1 C.2.1 dL_law_1590 (lv_at hl 0 rfl) ?_
  refine lv_iconst (v := 2) C.1 C.2.1 dL_law_1592 (by decide) ?_
  refine lv_iadd C.1 C.2.1 dL_law_1593 ?_
  refine x_is (y := 2) (by decide) ?_
  refine va_sld C.1 C.2.1 hX hbl hbA w.2.2 (xvin (by decide)) dL_law_1594 ?_
  refine x_is (y := (xs 2)) (by rfl) ?_
  refine x_ki C w [26, 27, 30, 29] [0, 1, 2, 3, 4, 5, 6, 7, 8, 9, 10, 11, 12, 13, 14, 15, 16, 17, 18, 19, 20, 21, 22, 23, 24, 25, 28, 31, 32, 33, 34, 35, 36, 37, 38, 39] rfl rfl (by decide) (by decide) (va_runV (As := [.int (xs 1), .int (xs 2)]) (rest := [.int 0]) (xfix C) (c384_X6_rangeClear l G cy sa sv (a 31) (a 32) (a 35) (a 34) (a 33) (a 36) (a 37) (a 38) (xs 1) (xs 2) p0 (xtr C) _) (cwV 2 (xhts C) (xgV (maxL := 0) (cc := ⟨#[]⟩) (ret := none) gw_716 gw_717 gw_718 gw_58 gc_X6_rangeClear) rfl rfl rfl (by decide +kernel) ⟨(Nat.le_of_ble_eq_true rfl), (Nat.le_of_ble_eq_true rfl)⟩) (xPV C w [26, 27, 30, 29] rfl (by decide) (ci := 10) (q0 := 26) rfl rfl) rfl rfl hl.1 rfl (lv_room (Nat.le_of_ble_eq_true rfl)) dL_law_1595 ⟨(Nat.le_of_ble_eq_true rfl), (Nat.le_of_ble_eq_true rfl)⟩) (fun f2461 H locs w => ?_)
  have w : xW G A s [((a 3), .inl (cy 1, 24, .inl (fun _ => 0))), ((a 4), .inr (6, [.ref (a 5), .int 0])), ((a 5), .inl (cy 1, 24, .inl (fun _ => 0))), ((a 6), .inr (6, [.ref (a 7), .int 0])), ((a 7), .inl (cy 1, 24, .inl (fun _ => 0))), ((a 9), .inr (6, [.ref (a 10), .int 0])), ((a 10), .inl (cy 1, 624, .inl (fun _ => 0))), ((a 11), .inr (6, [.ref (a 12), .int 0])), ((a 12), .inl (cy 1, 624, .inl (fun _ => 0))), ((a 13), .inr (6, [.ref (a 14), .int 0])), ((a 14), .inl (cy 1, 12, .inl (fun _ => 0))), ((a 15), .inr (7, [.ref (a 16), .ref (a 18)])), ((a 16), .inr (6, [.ref (a 17), .int 0])), ((a 17), .inl (cy 1, 24, .inl (fun _ => 0))), ((a 18), .inr (6, [.ref (a 19), .int 0])), ((a 19), .inl (cy 1, 24, .inl (fun _ => 0))), ((a 20), .inl (cy 3, 3, .inr (.inr (.inr (.inr (va_up (va_up (va_up (fun _ => none) 0 (some (a 21))) 1 (some (a 22))) 2 (some (a 23)))))))), ((a 21), .inr (4, [.int 0, .int 0, .int 0])), ((a 22), .inr (4, [.int 0, .int 0, .int 0])), ((a 23), .inr (4, [.int 0, .int 0, .int 0])), ((a 25), .inl (cy 1, 24, .inl (fun _ => 0))), ((a 26), .inr (7, [.ref (a 27), .ref (a 29)])), ((a 27), .inr (6, [.ref (a 28), .int 0])), ((a 28), .inl (cy 1, 24, .inl (fun _ => 0))), ((a 29), .inr (6, [.ref (a 30), .int 0])), ((a 30), .inl (cy 1, 24, .inl (fun _ => 0))), ((a 33), .inr (3, [.int 0, .ref (sv 0), .int 0])), ((a 36), .inl (cy 2, 3, .inl (fun _ => 0))), ((a 37), .inl (cy 1, 3, .inl (fun _ => 0))), ((a 38), .inl (cy 1, 3, .inl (fun _ => 0))), ((a 39), .inr (9, [.long 0, .null])), ((a 0), .inr (8, [.ref (a 1), .ref (a 6), .ref (a 8), .ref (a 15), .ref (a 20), .int 0, .ref (a 24), .ref (a 26)])), ((a 1), .inr (7, [.ref (a 2), .ref (a 4)])), ((a 2), .inr (6, [.ref (a 3), .int 0])), ((a 24), .inr (6, [.ref (a 25), .int 0])), ((a 8), .inr (5, [.ref (a 9), .ref (a 11), .ref (a 13), .int 0])), ((a 31), .inr (10, [.ref (a 32), .ref (a 33), .ref (a 34), .ref (f2461 0), .ref (a 36), .ref (a 37), .ref (a 38), .int 0, .int 0])), ((a 32), .inr (3, [.int 0, .ref (sv 0), .int 0])), ((a 35), .inr (3, [.int 0, .ref (sv 0), .int 0])), ((a 34), .inr (3, [.int 0, .ref (sv 0), .int 0])), ((f2461 0), .inr (3, [.int 0, .ref (sv 0), .int 0]))] H _ := w
  refine W.widen (k := 43) (n := 1542) (Nat.le_of_ble_eq_true rfl) (Nat.le_of_ble_eq_true rfl) ?_
  refine lv_icmp_eq (tgt := 2509) C.1 C.2.1 dL_law_1598 (by decide) (fun _ => ?_) (fun c9 => absurd (by decide) c9)
  refine lv_iinc (v := 5) (lv' := [(4, .int 5), (3, .ref (a 39)), (2, .ref (a 31)), (1, .ref (a 0)), (0, .ref b)]) C.1 C.2.1 dL_law_2509 hl (k := 0) rfl (by decide) (by decide) rfl (fun ls hl => ?_)
  refine lv_goto (tgt := 27) C.1 C.2.1 dL_law_2512 (by decide) ?_
  refine lv_iload C.1 C.2.1 dL_law_27 (lv_at hl 0 rfl) ?_
  refine lv_aload_n C.1 C.2.1 dL_law_29 rfl (lv_at hl 4 rfl) ?_
  refine va_slen C.1 C.2.1 hX hbl hbA w.2.2 dL_law_30 ?_
  refine x_is (y := 5) (by decide) ?_
  refine lv_iconst (v := 5) C.1 C.2.1 dL_law_31 (by decide) ?_
  refine lv_isub C.1 C.2.1 dL_law_32 ?_
  refine x_is (y := 0) (by decide) ?_
  refine lv_icmp_gt (tgt := 2515) C.1 C.2.1 dL_law_33 (by decide) (fun _ => ?_) (fun c9 => absurd (by decide) c9)
  refine lv_iconst (v := 1) C.1 C.2.1 dL_law_2515 (by decide) ?_
  refine va_forget (fun q hq => hAl _ (w.2.2.2.2 q hq)) ?_
  refine W.widen (k := 600002) (n := 7302232) (Nat.le_of_ble_eq_true rfl) (Nat.le_of_ble_eq_true rfl) ?_
  exact lw_ret C.1 C.2.1 hr (xlk C) dL_law_2516
