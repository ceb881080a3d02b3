set_option maxHeartbeats 8000000 in
set_option maxRecDepth 100000 in
theorem law_38f03_106 {p : Program} {e : Env} {s : State} {m : MethodId} {below : List Frame} {meth : Method} {c : Code} {l : Launch} {G : va_G} {cy : Nat → ClassId} {sa : String → Nat → Nat} {sv : Nat → Nat} {A : Nat → Prop} {b : Nat} {xs : Nat → Int32} {a : Nat → Nat} {H : Heap} {locs : List Loc} {ls : Array Slot} (C : xC p l s m #[Value.ref b] meth c code 7 "TwinindexLaw" (Cond.initialized "TwinindexLaw" :: XG) G cy sa sv A) (hr : meth.sig.returnType = ret) (hX : va_X b 5 xs s s.heap) (hbl : b < s.heap.size) (hbA : ¬ A b) (hAl : ∀ q, A q → s.heap.size ≤ q) (w : xW G A s (xW0 cy sv a) H locs) (hl : lv_has ls 7 [(4, .int 0), (3, .ref (a 39)), (2, .ref (a 31)), (1, .ref (a 0)), (0, .ref b)]) (hk : ((xs 0) &&& 63) = 38) (hs1 : xs 1 = 0) (hs2 : xs 2 = 3) : W p l e room_1 s m #[Value.ref b] below meth c H locs 40 1536 (lw_Z below #[Value.ref b] s) (F0 m 27 ls []) := by
  have w : xW G A s [((a 0), .inr (8, [.ref (a 1), .ref (a 6), .ref (a 8), .ref (a 15), .ref (a 20), .int 0, .ref (a 24), .ref (a 26)])), ((a 1), .inr (7, [.ref (a 2), .ref (a 4)])), ((a 2), .inr (6, [.ref (a 3), .int 0])), ((a 3), .inl (cy 1, 24, .inl (fun _ => 0))), ((a 4), .inr (6, [.ref (a 5), .int 0])), ((a 5), .inl (cy 1, 24, .inl (fun _ => 0))), ((a 6), .inr (6, [.ref (a 7), .int 0])), ((a 7), .inl (cy 1, 24, .inl (fun _ => 0))), ((a 8), .inr (5, [.ref (a 9), .ref (a 11), .ref (a 13), .int 0])), ((a 9), .inr (6, [.ref (a 10), .int 0])), ((a 10), .inl (cy 1, 624, .inl (fun _ => 0))), ((a 11), .inr (6, [.ref (a 12), .int 0])), ((a 12), .inl (cy 1, 624, .inl (fun _ => 0))), ((a 13), .inr (6, [.ref (a 14), .int 0])), ((a 14), .inl (cy 1, 12, .inl (fun _ => 0))), ((a 15), .inr (7, [.ref (a 16), .ref (a 18)])), ((a 16), .inr (6, [.ref (a 17), .int 0])), ((a 17), .inl (cy 1, 24, .inl (fun _ => 0))), ((a 18), .inr (6, [.ref (a 19), .int 0])), ((a 19), .inl (cy 1, 24, .inl (fun _ => 0))), ((a 20), .inl (cy 3, 3, .inr (.inr (.inr (.inr (va_up (va_up (va_up (fun _ => none) 0 (some (a 21))) 1 (some (a 22))) 2 (some (a 23)))))))), ((a 21), .inr (4, [.int 0, .int 0, .int 0])), ((a 22), .inr (4, [.int 0, .int 0, .int 0])), ((a 23), .inr (4, [.int 0, .int 0, .int 0])), ((a 24), .inr (6, [.ref (a 25), .int 0])), ((a 25), .inl (cy 1, 24, .inl (fun _ => 0))), ((a 26), .inr (7, [.ref (a 27), .ref (a 29)])), ((a 27), .inr (6, [.ref (a 28), .int 0])), ((a 28), .inl (cy 1, 24, .inl (fun _ => 0))), ((a 29), .inr (6, [.ref (a 30), .int 0])), ((a 30), .inl (cy 1, 24, .inl (fun _ => 0))), ((a 31), .inr (10, [.ref (a 32), .ref (a 33), .ref (a 34), .ref (a 35), .ref (a 36), .ref (a 37), .ref (a 38), .int 0, .int 0])), ((a 32), .inr (3, [.int 0, .ref (sv 0), .int 0])), ((a 33), .inr (3, [.int 0, .ref (sv 0), .int 0])), ((a 34), .inr (3, [.int 0, .ref (sv 0), .int 0])), ((a 35), .inr (3, [.int 0, .ref (sv 0), .int 0])), ((a 36), .inl (cy 2, 3, .inl (fun _ => 0))), ((a 37), .inl (cy 1, 3, .inl (fun _ => 0))), ((a 38), .inl (cy 1, 3, .inl (fun _ => 0))), ((a 39), .inr (9, [.long 0, .null]))] H _ := w
  refine lv_iload C.1 C.2.1 dL_law_27 (lv_at hl 0 rfl) ?_
  refine lv_aload_n C.1 C.2.1 dL_law_29 rfl (lv_at hl 4 rfl) ?_
  refine va_slen C.1 C.2.1 hX hbl hbA w.2.2 dL_law_30 ?_
  refine x_is (y := 5) (by decide) ?_
  refine lv_iconst (v := 5) C.1 C.2.1 dL_law_31 (by decide) ?_
  refine lv_isub C.1 C.2.1 dL_law_32 ?_
  refine x_is (y := 0) (by decide) ?_
  refine lv_icmp_gt (tgt := 2515) C.1 C.2.1 dL_law_33 (by decide) (fun c9 => absurd c9 (by decide)) (fun _ => ?_)
  refine lv_aload_n C.1 C.2.1 dL_law_36 rfl (lv_at hl 4 rfl) ?_
  refine lv_iload C.1 C.2.1 dL_law_37 (lv_at hl 0 rfl) ?_
  refine va_sld C.1 C.2.1 hX hbl hbA w.2.2 (xvin (by decide)) dL_law_39 ?_
  refine x_is (y := (xs 0)) (by rfl) ?_
  refine lv_bipush (v := 63) C.1 C.2.1 dL_law_40 (by decide) ?_
  refine lv_iand C.1 C.2.1 dL_law_42 ?_
  refine x_is (y := 38) hk ?_
  refine lv_tableIn (off := 2209) (tgt := 2252) C.1 C.2.1 dL_law_43 (by decide) (by decide) (by decide) (by decide) ?_
  refine lv_aload_n C.1 C.2.1 dL_law_2252 rfl (lv_at hl 3 rfl) ?_
  refine lv_aload_n C.1 C.2.1 dL_law_2253 rfl (lv_at hl 4 rfl) ?_
  refine lv_iload C.1 C.2.1 dL_law_2254 (lv_at hl 0 rfl) ?_
  refine lv_iconst (v := 1) C.1 C.2.1 dL_law_2256 (by decide) ?_
  refine lv_iadd C.1 C.2.1 dL_law_2257 ?_
  refine x_is (y := 1) (by decide) ?_
  refine va_sld C.1 C.2.1 hX hbl hbA w.2.2 (xvin (by decide)) dL_law_2258 ?_
  refine x_is (y := 0) (show xs 1 = 0 from hs1) ?_
  refine lv_aload_n C.1 C.2.1 dL_law_2259 rfl (lv_at hl 4 rfl) ?_
  refine lv_iload C.1 C.2.1 dL_law_2260 (lv_at hl 0 rfl) ?_
  refine lv_iconst (v := 2) C.1 C.2.1 dL_law_2262 (by decide) ?_
  refine lv_iadd C.1 C.2.1 dL_law_2263 ?_
  refine x_is (y := 2) (by decide) ?_
  refine va_sld C.1 C.2.1 hX hbl hbA w.2.2 (xvin (by decide)) dL_law_2264 ?_
  refine x_is (y := 3) (show xs 2 = 3 from hs2) ?_
  refine lv_aload_n C.1 C.2.1 dL_law_2265 rfl (lv_at hl 1 rfl) ?_
  refine x_ki C w [0, 20, 21, 39] [1, 2, 3, 4, 5, 6, 7, 8, 9, 10, 11, 12, 13, 14, 15, 16, 17, 18, 19, 22, 23, 24, 25, 26, 27, 28, 29, 30, 31, 32, 33, 34, 35, 36, 37, 38] rfl rfl (by decide) (by decide) (vx_runSW (As := [.ref (a 0), .int 0, .int 3, .ref (a 39)]) (rest := []) (xfix C) (c525_L_ofPager l G cy sa sv (a 0) (a 39) (a 20) (a 21) (a 1) (a 6) (a 8) (a 15) (a 24) (a 26) (a 22) (a 23) (xtr C) _) (vx_cwSW 4 (xhts C) (xgS gw_901 gw_902 gw_106 gc_L_ofPager) rfl rfl rfl (by decide +kernel) ⟨(Nat.le_of_ble_eq_true rfl), (Nat.le_of_ble_eq_true rfl)⟩) (xPS C w [0, 20, 21, 39] rfl (by decide)) rfl rfl hl.1 rfl (lv_room (Nat.le_of_ble_eq_true rfl)) dL_law_2266 ⟨(Nat.le_of_ble_eq_true rfl), (Nat.le_of_ble_eq_true rfl)⟩) (fun f3764 H locs w => ?_)
  have w : xW G A s [((a 1), .inr (7, [.ref (a 2), .ref (a 4)])), ((a 2), .inr (6, [.ref (a 3), .int 0])), ((a 3), .inl (cy 1, 24, .inl (fun _ => 0))), ((a 4), .inr (6, [.ref (a 5), .int 0])), ((a 5), .inl (cy 1, 24, .inl (fun _ => 0))), ((a 6), .inr (6, [.ref (a 7), .int 0])), ((a 7), .inl (cy 1, 24, .inl (fun _ => 0))), ((a 8), .inr (5, [.ref (a 9), .ref (a 11), .ref (a 13), .int 0])), ((a 9), .inr (6, [.ref (a 10), .int 0])), ((a 10), .inl (cy 1, 624, .inl (fun _ => 0))), ((a 11), .inr (6, [.ref (a 12), .int 0])), ((a 12), .inl (cy 1, 624, .inl (fun _ => 0))), ((a 13), .inr (6, [.ref (a 14), .int 0])), ((a 14), .inl (cy 1, 12, .inl (fun _ => 0))), ((a 15), .inr (7, [.ref (a 16), .ref (a 18)])), ((a 16), .inr (6, [.ref (a 17), .int 0])), ((a 17), .inl (cy 1, 24, .inl (fun _ => 0))), ((a 18), .inr (6, [.ref (a 19), .int 0])), ((a 19), .inl (cy 1, 24, .inl (fun _ => 0))), ((a 22), .inr (4, [.int 0, .int 0, .int 0])), ((a 23), .inr (4, [.int 0, .int 0, .int 0])), ((a 24), .inr (6, [.ref (a 25), .int 0])), ((a 25), .inl (cy 1, 24, .inl (fun _ => 0))), ((a 26), .inr (7, [.ref (a 27), .ref (a 29)])), ((a 27), .inr (6, [.ref (a 28), .int 0])), ((a 28), .inl (cy 1, 24, .inl (fun _ => 0))), ((a 29), .inr (6, [.ref (a 30), .int 0])), ((a 30), .inl (cy 1, 24, .inl (fun _ => 0))), ((a 31), .inr (10, [.ref (a 32), .ref (a 33), .ref (a 34), .ref (a 35), .ref (a 36), .ref (a 37), .ref (a 38), .int 0, .int 0])), ((a 32), .inr (3, [.int 0, .ref (sv 0), .int 0])), ((a 33), .inr (3, [.int 0, .ref (sv 0), .int 0])), ((a 34), .inr (3, [.int 0, .ref (sv 0), .int 0])), ((a 35), .inr (3, [.int 0, .ref (sv 0), .int 0])), ((a 36), .inl (cy 2, 3, .inl (fun _ => 0))), ((a 37), .inl (cy 1, 3, .inl (fun _ => 0))), ((a 38), .inl (cy 1, 3, .inl (fun _ => 0))), ((a 0), .inr (8, [.ref (a 1), .ref (a 6), .ref (a 8), .ref (a 15), .ref (a 20), .int 0, .ref (a 24), .ref (a 26)])), ((a 20), .inl (cy 3, 3, .inr (.inr (.inr (.inr (va_up (va_up (va_up (fun _ => none) 0 (some (a 21))) 1 (some (a 22))) 2 (some (a 23)))))))), ((a 21), .inr (4, [.int 0, .int 0, .int 0])), ((a 39), .inr (9, [.long 0, .null]))] H _ := w
  refine lv_istore (lv' := [(5, .int 0), (4, .int 0), (3, .ref (a 39)), (2, .ref (a 31)), (1, .ref (a 0)), (0, .ref b)]) C.1 C.2.1 dL_law_2269 hl (by decide) rfl (fun ls hl => ?_)
  refine lv_aload_n C.1 C.2.1 dL_law_2271 rfl (lv_at hl 3 rfl) ?_
  refine lv_aload_n C.1 C.2.1 dL_law_2272 rfl (lv_at hl 5 rfl) ?_
  refine lv_iload C.1 C.2.1 dL_law_2273 (lv_at hl 1 rfl) ?_
  refine lv_iconst (v := 1) C.1 C.2.1 dL_law_2275 (by decide) ?_
  refine lv_iadd C.1 C.2.1 dL_law_2276 ?_
  refine x_is (y := 1) (by decide) ?_
  refine va_sld C.1 C.2.1 hX hbl hbA w.2.2 (xvin (by decide)) dL_law_2277 ?_
  refine x_is (y := 0) (show xs 1 = 0 from hs1) ?_
  refine lv_aload_n C.1 C.2.1 dL_law_2278 rfl (lv_at hl 5 rfl) ?_
  refine lv_iload C.1 C.2.1 dL_law_2279 (lv_at hl 1 rfl) ?_
  refine lv_iconst (v := 2) C.1 C.2.1 dL_law_2281 (by decide) ?_
  refine lv_iadd C.1 C.2.1 dL_law_2282 ?_
  refine x_is (y := 2) (by decide) ?_
  refine va_sld C.1 C.2.1 hX hbl hbA w.2.2 (xvin (by decide)) dL_law_2283 ?_
  refine x_is (y := 3) (show xs 2 = 3 from hs2) ?_
  refine x_ki C w [28, 34] [0, 1, 2, 3, 4, 5, 6, 7, 8, 9, 10, 11, 12, 13, 14, 15, 16, 17, 18, 19, 20, 21, 22, 23, 24, 25, 26, 27, 29, 30, 31, 32, 33, 35, 36, 37, 38, 39] rfl rfl (by decide) (by decide) (va_runV (As := [.int 0, .int 3]) (rest := []) (xfix C) (c527_X6_ofPager l G cy sa sv (a 31) (a 37) (a 32) (a 33) (a 34) (a 35) (a 36) (a 38) (xtr C) _) (cwV 2 (xhts C) (xgV (maxL := 0) (cc := ⟨#[]⟩) (ret := none) gw_908 gw_909 gw_910 gw_58 gc_X6_ofPager) rfl rfl rfl (by decide +kernel) ⟨(Nat.le_of_ble_eq_true rfl), (Nat.le_of_ble_eq_true rfl)⟩) (xPV C w [28, 34] rfl (by decide) (ci := 10) (q0 := 28) rfl rfl) rfl rfl hl.1 rfl (lv_room (Nat.le_of_ble_eq_true rfl)) dL_law_2284 ⟨(Nat.le_of_ble_eq_true rfl), (Nat.le_of_ble_eq_true rfl)⟩) (fun f3769 H locs w => ?_)
  have w : xW G A s [((a 1), .inr (7, [.ref (a 2), .ref (a 4)])), ((a 2), .inr (6, [.ref (a 3), .int 0])), ((a 3), .inl (cy 1, 24, .inl (fun _ => 0))), ((a 4), .inr (6, [.ref (a 5), .int 0])), ((a 5), .inl (cy 1, 24, .inl (fun _ => 0))), ((a 6), .inr (6, [.ref (a 7), .int 0])), ((a 7), .inl (cy 1, 24, .inl (fun _ => 0))), ((a 8), .inr (5, [.ref (a 9), .ref (a 11), .ref (a 13), .int 0])), ((a 9), .inr (6, [.ref (a 10), .int 0])), ((a 10), .inl (cy 1, 624, .inl (fun _ => 0))), ((a 11), .inr (6, [.ref (a 12), .int 0])), ((a 12), .inl (cy 1, 624, .inl (fun _ => 0))), ((a 13), .inr (6, [.ref (a 14), .int 0])), ((a 14), .inl (cy 1, 12, .inl (fun _ => 0))), ((a 15), .inr (7, [.ref (a 16), .ref (a 18)])), ((a 16), .inr (6, [.ref (a 17), .int 0])), ((a 17), .inl (cy 1, 24, .inl (fun _ => 0))), ((a 18), .inr (6, [.ref (a 19), .int 0])), ((a 19), .inl (cy 1, 24, .inl (fun _ => 0))), ((a 22), .inr (4, [.int 0, .int 0, .int 0])), ((a 23), .inr (4, [.int 0, .int 0, .int 0])), ((a 24), .inr (6, [.ref (a 25), .int 0])), ((a 25), .inl (cy 1, 24, .inl (fun _ => 0))), ((a 26), .inr (7, [.ref (a 27), .ref (a 29)])), ((a 27), .inr (6, [.ref (a 28), .int 0])), ((a 28), .inl (cy 1, 24, .inl (fun _ => 0))), ((a 29), .inr (6, [.ref (a 30), .int 0])), ((a 30), .inl (cy 1, 24, .inl (fun _ => 0))), ((a 32), .inr (3, [.int 0, .ref (sv 0), .int 0])), ((a 33), .inr (3, [.int 0, .ref (sv 0), .int 0])), ((a 34), .inr (3, [.int 0, .ref (sv 0), .int 0])), ((a 35), .inr (3, [.int 0, .ref (sv 0), .int 0])), ((a 36), .inl (cy 2, 3, .inl (fun _ => 0))), ((a 38), .inl (cy 1, 3, .inl (fun _ => 0))), ((a 0), .inr (8, [.ref (a 1), .ref (a 6), .ref (a 8), .ref (a 15), .ref (a 20), .int 0, .ref (a 24), .ref (a 26)])), ((a 20), .inl (cy 3, 3, .inr (.inr (.inr (.inr (va_up (va_up (va_up (fun _ => none) 0 (some (a 21))) 1 (some (a 22))) 2 (some (a 23)))))))), ((a 21), .inr (4, [.int 0, .int 0, .int 0])), ((a 39), .inr (9, [.long 0, .null])), ((a 31), .inr (10, [.ref (a 32), .ref (a 33), .ref (a 34), .ref (a 35), .ref (a 36), .ref (a 37), .ref (a 38), .int 0, .int 0])), ((a 37), .inl (cy 1, 3, .inl (fun _ => 0)))] H _ := w
  refine lv_istore (lv' := [(6, .int 0), (5, .int 0), (4, .int 0), (3, .ref (a 39)), (2, .ref (a 31)), (1, .ref (a 0)), (0, .ref b)]) C.1 C.2.1 dL_law_2287 hl (by decide) rfl (fun ls hl => ?_)
  refine lv_aload_n C.1 C.2.1 dL_law_2289 rfl (lv_at hl 4 rfl) ?_
  refine x_ki C w [38] [0, 1, 2, 3, 4, 5, 6, 7, 8, 9, 10, 11, 12, 13, 14, 15, 16, 17, 18, 19, 20, 21, 22, 23, 24, 25, 26, 27, 28, 29, 30, 31, 32, 33, 34, 35, 36, 37, 39] rfl rfl (by decide) (by decide) (va_runV (As := []) (rest := []) (xfix C) (c66_X6_thrown l G cy sa sv (a 31) (a 32) (a 33) (a 34) (a 35) (a 36) (a 37) (a 38) (xtr C) _) (cwV 0 (xhts C) (xgV (maxL := 0) (cc := ⟨#[]⟩) (ret := none) gw_122 gw_123 gw_124 gw_58 gc_X6_thrown) rfl rfl rfl (by decide +kernel) ⟨(Nat.le_of_ble_eq_true rfl), (Nat.le_of_ble_eq_true rfl)⟩) (xPV C w [38] rfl (by decide) (ci := 10) (q0 := 38) rfl rfl) rfl rfl hl.1 rfl (lv_room (Nat.le_of_ble_eq_true rfl)) dL_law_2290 ⟨(Nat.le_of_ble_eq_true rfl), (Nat.le_of_ble_eq_true rfl)⟩) (fun f3770 H locs w => ?_)
  have w : xW G A s [((a 1), .inr (7, [.ref (a 2), .ref (a 4)])), ((a 2), .inr (6, [.ref (a 3), .int 0])), ((a 3), .inl (cy 1, 24, .inl (fun _ => 0))), ((a 4), .inr (6, [.ref (a 5), .int 0])), ((a 5), .inl (cy 1, 24, .inl (fun _ => 0))), ((a 6), .inr (6, [.ref (a 7), .int 0])), ((a 7), .inl (cy 1, 24, .inl (fun _ => 0))), ((a 8), .inr (5, [.ref (a 9), .ref (a 11), .ref (a 13), .int 0])), ((a 9), .inr (6, [.ref (a 10), .int 0])), ((a 10), .inl (cy 1, 624, .inl (fun _ => 0))), ((a 11), .inr (6, [.ref (a 12), .int 0])), ((a 12), .inl (cy 1, 624, .inl (fun _ => 0))), ((a 13), .inr (6, [.ref (a 14), .int 0])), ((a 14), .inl (cy 1, 12, .inl (fun _ => 0))), ((a 15), .inr (7, [.ref (a 16), .ref (a 18)])), ((a 16), .inr (6, [.ref (a 17), .int 0])), ((a 17), .inl (cy 1, 24, .inl (fun _ => 0))), ((a 18), .inr (6, [.ref (a 19), .int 0])), ((a 19), .inl (cy 1, 24, .inl (fun _ => 0))), ((a 22), .inr (4, [.int 0, .int 0, .int 0])), ((a 23), .inr (4, [.int 0, .int 0, .int 0])), ((a 24), .inr (6, [.ref (a 25), .int 0])), ((a 25), .inl (cy 1, 24, .inl (fun _ => 0))), ((a 26), .inr (7, [.ref (a 27), .ref (a 29)])), ((a 27), .inr (6, [.ref (a 28), .int 0])), ((a 28), .inl (cy 1, 24, .inl (fun _ => 0))), ((a 29), .inr (6, [.ref (a 30), .int 0])), ((a 30), .inl (cy 1, 24, .inl (fun _ => 0))), ((a 32), .inr (3, [.int 0, .ref (sv 0), .int 0])), ((a 33), .inr (3, [.int 0, .ref (sv 0), .int 0])), ((a 34), .inr (3, [.int 0, .ref (sv 0), .int 0])), ((a 35), .inr (3, [.int 0, .ref (sv 0), .int 0])), ((a 36), .inl (cy 2, 3, .inl (fun _ => 0))), ((a 38), .inl (cy 1, 3, .inl (fun _ => 0))), ((a 0), .inr (8, [.ref (a 1), .ref (a 6), .ref (a 8), .ref (a 15), .ref (a 20), .int 0, .ref (a 24), .ref (a 26)])), ((a 20), .inl (cy 3, 3, .inr (.inr (.inr (.inr (va_up (va_up (va_up (fun _ => none) 0 (some (a 21))) 1 (some (a 22))) 2 (some (a 23)))))))), ((a 21), .inr (4, [.int 0, .int 0, .int 0])), ((a 39), .inr (9, [.long 0, .null])), ((a 37), .inl (cy 1, 3, .inl (fun _ => 0))), ((a 31), .inr (10, [.ref (a 32), .ref (a 33), .ref (a 34), .ref (a 35), .ref (a 36), .ref (a 37), .ref (a 38), .int 0, .int 0]))] H _ := w
  refine lv_iload C.1 C.2.1 dL_law_2293 (lv_at hl 1 rfl) ?_
  refine lv_icmp_eq (tgt := 2300) C.1 C.2.1 dL_law_2295 (by decide) (fun _ => ?_) (fun c9 => absurd (by decide) c9)
  refine lv_iload C.1 C.2.1 dL_law_2300 (lv_at hl 1 rfl) ?_
  refine lv_if_ne (tgt := 2318) C.1 C.2.1 dL_law_2302 (by decide) (fun c9 => absurd (by decide) c9) (fun _ => ?_)
  refine lv_aload_n C.1 C.2.1 dL_law_2305 rfl (lv_at hl 3 rfl) ?_
  refine x_getN (v := .long 0) C w 37 9 0 (xin_X5 _) rfl rfl (by decide) (xs_f_n (xS C)) rfl rfl dL_law_2306 ?_
  refine lv_iload C.1 C.2.1 dL_law_2309 (lv_at hl 0 rfl) ?_
  refine lv_i2l (v := 0) C.1 C.2.1 dL_law_2311 (by decide) ?_
  refine W.lcmp C.1 C.2.1 dL_law_2312 ?_
  refine x_is (y := 0) (by decide) ?_
  refine lv_if_eq (tgt := 2318) C.1 C.2.1 dL_law_2313 (by decide) (fun _ => ?_) (fun c9 => absurd (by decide) c9)
  refine lv_goto (tgt := 2509) C.1 C.2.1 dL_law_2318 (by decide) ?_
  refine lv_iinc (v := 5) (lv' := [(4, .int 5), (6, .int 0), (5, .int 0), (3, .ref (a 39)), (2, .ref (a 31)), (1, .ref (a 0)), (0, .ref b)]) C.1 C.2.1 dL_law_2509 hl (k := 2) rfl (by decide) (by decide) rfl (fun ls hl => ?_)
  refine lv_goto (tgt := 27) C.1 C.2.1 dL_law_2512 (by decide) ?_
  refine lv_iload C.1 C.2.1 dL_law_27 (lv_at hl 0 rfl) ?_
  refine lv_aload_n C.1 C.2.1 dL_law_29 rfl (lv_at hl 6 rfl) ?_
  refine va_slen C.1 C.2.1 hX hbl hbA w.2.2 dL_law_30 ?_
  refine x_is (y := 5) (by decide) ?_
  refine lv_iconst (v := 5) C.1 C.2.1 dL_law_31 (by decide) ?_
  refine lv_isub C.1 C.2.1 dL_law_32 ?_
  refine x_is (y := 0) (by decide) ?_
  refine lv_icmp_gt (tgt := 2515) C.1 C.2.1 dL_law_33 (by decide) (fun _ => ?_) (fun c9 => absurd (by decide) c9)
  refine lv_iconst (v := 1) C.1 C.2.1 dL_law_2515 (by decide) ?_
  refine va_forget (fun q hq => hAl _ (w.2.2.2.2 q hq)) ?_
  refine W.widen (k := 600002) (n := 7302232) (Nat.le_of_ble_eq_true rfl) (Nat.le_of_ble_eq_true rfl) ?_
  exact lw_ret C.1 C.2.1 hr (xlk C) dL_law_2516
set_option maxHeartbeats 8000000 in
set_option maxRecDepth 100000 in
theorem law_38f10_107 {p : Program} {e : Env} {s : State} {m : MethodId} {below : List Frame} {meth : Method} {c : Code} {l : Launch} {G : va_G} {cy : Nat → ClassId} {sa : String → Nat → Nat} {sv : Nat → Nat} {A : Nat → Prop} {b : Nat} {xs : Nat → Int32} {a : Nat → Nat} {H : Heap} {locs : List Loc} {ls : Array Slot} (C : xC p l s m #[Value.ref b] meth c code 7 "TwinindexLaw" (Cond.initialized "TwinindexLaw" :: XG) G cy sa sv A) (hr : meth.sig.returnType = ret) (hX : va_X b 5 xs s s.heap) (hbl : b < s.heap.size) (hbA : ¬ A b) (hAl : ∀ q, A q → s.heap.size ≤ q) (w : xW G A s (xW0 cy sv a) H locs) (hl : lv_has ls 7 [(4, .int 0), (3, .ref (a 39)), (2, .ref (a 31)), (1, .ref (a 0)), (0, .ref b)]) (hk : ((xs 0) &&& 63) = 38) (hs1 : xs 1 = 1) (hs2 : xs 2 = 0) : W p l e room_1 s m #[Value.ref b] below meth c H locs 40 1536 (lw_Z below #[Value.ref b] s) (F0 m 27 ls []) := by
  have w : xW G A s [((a 0), .inr (8, [.ref (a 1), .ref (a 6), .ref (a 8), .ref (a 15), .ref (a 20), .int 0, .ref (a 24), .ref (a 26)])), ((a 1), .inr (7, [.ref (a 2), .ref (a 4)])), ((a 2), .inr (6, [.ref (a 3), .int 0])), ((a 3), .inl (cy 1, 24, .inl (fun _ => 0))), ((a 4), .inr (6, [.ref (a 5), .int 0])), ((a 5), .inl (cy 1, 24, .inl (fun _ => 0))), ((a 6), .inr (6, [.ref (a 7), .int 0])), ((a 7), .inl (cy 1, 24, .inl (fun _ => 0))), ((a 8), .inr (5, [.ref (a 9), .ref (a 11), .ref (a 13), .int 0])), ((a 9), .inr (6, [.ref (a 10), .int 0])), ((a 10), .inl (cy 1, 624, .inl (fun _ => 0))), ((a 11), .inr (6, [.ref (a 12), .int 0])), ((a 12), .inl (cy 1, 624, .inl (fun _ => 0))), ((a 13), .inr (6, [.ref (a 14), .int 0])), ((a 14), .inl (cy 1, 12, .inl (fun _ => 0))), ((a 15), .inr (7, [.ref (a 16), .ref (a 18)])), ((a 16), .inr (6, [.ref (a 17), .int 0])), ((a 17), .inl (cy 1, 24, .inl (fun _ => 0))), ((a 18), .inr (6, [.ref (a 19), .int 0])), ((a 19), .inl (cy 1, 24, .inl (fun _ => 0))), ((a 20), .inl (cy 3, 3, .inr (.inr (.inr (.inr (va_up (va_up (va_up (fun _ => none) 0 (some (a 21))) 1 (some (a 22))) 2 (some (a 23)))))))), ((a 21), .inr (4, [.int 0, .int 0, .int 0])), ((a 22), .inr (4, [.int 0, .int 0, .int 0])), ((a 23), .inr (4, [.int 0, .int 0, .int 0])), ((a 24), .inr (6, [.ref (a 25), .int 0])), ((a 25), .inl (cy 1, 24, .inl (fun _ => 0))), ((a 26), .inr (7, [.ref (a 27), .ref (a 29)])), ((a 27), .inr (6, [.ref (a 28), .int 0])), ((a 28), .inl (cy 1, 24, .inl (fun _ => 0))), ((a 29), .inr (6, [.ref (a 30), .int 0])), ((a 30), .inl (cy 1, 24, .inl (fun _ => 0))), ((a 31), .inr (10, [.ref (a 32), .ref (a 33), .ref (a 34), .ref (a 35), .ref (a 36), .ref (a 37), .ref (a 38), .int 0, .int 0])), ((a 32), .inr (3, [.int 0, .ref (sv 0), .int 0])), ((a 33), .inr (3, [.int 0, .ref (sv 0), .int 0])), ((a 34), .inr (3, [.int 0, .ref (sv 0), .int 0])), ((a 35), .inr (3, [.int 0, .ref (sv 0), .int 0])), ((a 36), .inl (cy 2, 3, .inl (fun _ => 0))), ((a 37), .inl (cy 1, 3, .inl (fun _ => 0))), ((a 38), .inl (cy 1, 3, .inl (fun _ => 0))), ((a 39), .inr (9, [.long 0, .null]))] H _ := w
  refine lv_iload C.1 C.2.1 dL_law_27 (lv_at hl 0 rfl) ?_
  refine lv_aload_n C.1 C.2.1 dL_law_29 rfl (lv_at hl 4 rfl) ?_
  refine va_slen C.1 C.2.1 hX hbl hbA w.2.2 dL_law_30 ?_
  refine x_is (y := 5) (by decide) ?_
  refine lv_iconst (v := 5) C.1 C.2.1 dL_law_31 (by decide) ?_
  refine lv_isub C.1 C.2.1 dL_law_32 ?_
  refine x_is (y := 0) (by decide) ?_
  refine lv_icmp_gt (tgt := 2515) C.1 C.2.1 dL_law_33 (by decide) (fun c9 => absurd c9 (by decide)) (fun _ => ?_)
  refine lv_aload_n C.1 C.2.1 dL_law_36 rfl (lv_at hl 4 rfl) ?_
  refine lv_iload C.1 C.2.1 dL_law_37 (lv_at hl 0 rfl) ?_
  refine va_sld C.1 C.2.1 hX hbl hbA w.2.2 (xvin (by decide)) dL_law_39 ?_
  refine x_is (y := (xs 0)) (by rfl) ?_
  refine lv_bipush (v := 63) C.1 C.2.1 dL_law_40 (by decide) ?_
  refine lv_iand C.1 C.2.1 dL_law_42 ?_
  refine x_is (y := 38) hk ?_
  refine lv_tableIn (off := 2209) (tgt := 2252) C.1 C.2.1 dL_law_43 (by decide) (by decide) (by decide) (by decide) ?_
  refine lv_aload_n C.1 C.2.1 dL_law_2252 rfl (lv_at hl 3 rfl) ?_
  refine lv_aload_n C.1 C.2.1 dL_law_2253 rfl (lv_at hl 4 rfl) ?_
  refine lv_iload C.1 C.2.1 dL_law_2254 (lv_at hl 0 rfl) ?_
  refine lv_iconst (v := 1) C.1 C.2.1 dL_law_2256 (by decide) ?_
  refine lv_iadd C.1 C.2.1 dL_law_2257 ?_
  refine x_is (y := 1) (by decide) ?_
  refine va_sld C.1 C.2.1 hX hbl hbA w.2.2 (xvin (by decide)) dL_law_2258 ?_
  refine x_is (y := 1) (show xs 1 = 1 from hs1) ?_
  refine lv_aload_n C.1 C.2.1 dL_law_2259 rfl (lv_at hl 4 rfl) ?_
  refine lv_iload C.1 C.2.1 dL_law_2260 (lv_at hl 0 rfl) ?_
  refine lv_iconst (v := 2) C.1 C.2.1 dL_law_2262 (by decide) ?_
  refine lv_iadd C.1 C.2.1 dL_law_2263 ?_
  refine x_is (y := 2) (by decide) ?_
  refine va_sld C.1 C.2.1 hX hbl hbA w.2.2 (xvin (by decide)) dL_law_2264 ?_
  refine x_is (y := 0) (show xs 2 = 0 from hs2) ?_
  refine lv_aload_n C.1 C.2.1 dL_law_2265 rfl (lv_at hl 1 rfl) ?_
  refine x_ki C w [0, 20, 22, 39] [1, 2, 3, 4, 5, 6, 7, 8, 9, 10, 11, 12, 13, 14, 15, 16, 17, 18, 19, 21, 23, 24, 25, 26, 27, 28, 29, 30, 31, 32, 33, 34, 35, 36, 37, 38] rfl rfl (by decide) (by decide) (vx_runSW (As := [.ref (a 0), .int 1, .int 0, .ref (a 39)]) (rest := []) (xfix C) (c529_L_ofPager l G cy sa sv (a 0) (a 39) (a 20) (a 22) (a 1) (a 6) (a 8) (a 15) (a 24) (a 26) (a 21) (a 23) (xtr C) _) (vx_cwSW 4 (xhts C) (xgS gw_901 gw_902 gw_106 gc_L_ofPager) rfl rfl rfl (by decide +kernel) ⟨(Nat.le_of_ble_eq_true rfl), (Nat.le_of_ble_eq_true rfl)⟩) (xPS C w [0, 20, 22, 39] rfl (by decide)) rfl rfl hl.1 rfl (lv_room (Nat.le_of_ble_eq_true rfl)) dL_law_2266 ⟨(Nat.le_of_ble_eq_true rfl), (Nat.le_of_ble_eq_true rfl)⟩) (fun f3773 H locs w => ?_)
  have w : xW G A s [((a 1), .inr (7, [.ref (a 2), .ref (a 4)])), ((a 2), .inr (6, [.ref (a 3), .int 0])), ((a 3), .inl (cy 1, 24, .inl (fun _ => 0))), ((a 4), .inr (6, [.ref (a 5), .int 0])), ((a 5), .inl (cy 1, 24, .inl (fun _ => 0))), ((a 6), .inr (6, [.ref (a 7), .int 0])), ((a 7), .inl (cy 1, 24, .inl (fun _ => 0))), ((a 8), .inr (5, [.ref (a 9), .ref (a 11), .ref (a 13), .int 0])), ((a 9), .inr (6, [.ref (a 10), .int 0])), ((a 10), .inl (cy 1, 624, .inl (fun _ => 0))), ((a 11), .inr (6, [.ref (a 12), .int 0])), ((a 12), .inl (cy 1, 624, .inl (fun _ => 0))), ((a 13), .inr (6, [.ref (a 14), .int 0])), ((a 14), .inl (cy 1, 12, .inl (fun _ => 0))), ((a 15), .inr (7, [.ref (a 16), .ref (a 18)])), ((a 16), .inr (6, [.ref (a 17), .int 0])), ((a 17), .inl (cy 1, 24, .inl (fun _ => 0))), ((a 18), .inr (6, [.ref (a 19), .int 0])), ((a 19), .inl (cy 1, 24, .inl (fun _ => 0))), ((a 21), .inr (4, [.int 0, .int 0, .int 0])), ((a 23), .inr (4, [.int 0, .int 0, .int 0])), ((a 24), .inr (6, [.ref (a 25), .int 0])), ((a 25), .inl (cy 1, 24, .inl (fun _ => 0))), ((a 26), .inr (7, [.ref (a 27), .ref (a 29)])), ((a 27), .inr (6, [.ref (a 28), .int 0])), ((a 28), .inl (cy 1, 24, .inl (fun _ => 0))), ((a 29), .inr (6, [.ref (a 30), .int 0])), ((a 30), .inl (cy 1, 24, .inl (fun _ => 0))), ((a 31), .inr (10, [.ref (a 32), .ref (a 33), .ref (a 34), .ref (a 35), .ref (a 36), .ref (a 37), .ref (a 38), .int 0, .int 0])), ((a 32), .inr (3, [.int 0, .ref (sv 0), .int 0])), ((a 33), .inr (3, [.int 0, .ref (sv 0), .int 0])), ((a 34), .inr (3, [.int 0, .ref (sv 0), .int 0])), ((a 35), .inr (3, [.int 0, .ref (sv 0), .int 0])), ((a 36), .inl (cy 2, 3, .inl (fun _ => 0))), ((a 37), .inl (cy 1, 3, .inl (fun _ => 0))), ((a 38), .inl (cy 1, 3, .inl (fun _ => 0))), ((a 0), .inr (8, [.ref (a 1), .ref (a 6), .ref (a 8), .ref (a 15), .ref (a 20), .int 0, .ref (a 24), .ref (a 26)])), ((a 20), .inl (cy 3, 3, .inr (.inr (.inr (.inr (va_up (va_up (va_up (fun _ => none) 0 (some (a 21))) 1 (some (a 22))) 2 (some (a 23)))))))), ((a 22), .inr (4, [.int 0, .int 0, .int 0])), ((a 39), .inr (9, [.long 0, .null]))] H _ := w
  refine lv_istore (lv' := [(5, .int 0), (4, .int 0), (3, .ref (a 39)), (2, .ref (a 31)), (1, .ref (a 0)), (0, .ref b)]) C.1 C.2.1 dL_law_2269 hl (by decide) rfl (fun ls hl => ?_)
  refine lv_aload_n C.1 C.2.1 dL_law_2271 rfl (lv_at hl 3 rfl) ?_
  refine lv_aload_n C.1 C.2.1 dL_law_2272 rfl (lv_at hl 5 rfl) ?_
  refine lv_iload C.1 C.2.1 dL_law_2273 (lv_at hl 1 rfl) ?_
  refine lv_iconst (v := 1) C.1 C.2.1 dL_law_2275 (by decide) ?_
  refine lv_iadd C.1 C.2.1 dL_law_2276 ?_
  refine x_is (y := 1) (by decide) ?_
  refine va_sld C.1 C.2.1 hX hbl hbA w.2.2 (xvin (by decide)) dL_law_2277 ?_
  refine x_is (y := 1) (show xs 1 = 1 from hs1) ?_
  refine lv_aload_n C.1 C.2.1 dL_law_2278 rfl (lv_at hl 5 rfl) ?_
  refine lv_iload C.1 C.2.1 dL_law_2279 (lv_at hl 1 rfl) ?_
  refine lv_iconst (v := 2) C.1 C.2.1 dL_law_2281 (by decide) ?_
  refine lv_iadd C.1 C.2.1 dL_law_2282 ?_
  refine x_is (y := 2) (by decide) ?_
  refine va_sld C.1 C.2.1 hX hbl hbA w.2.2 (xvin (by decide)) dL_law_2283 ?_
  refine x_is (y := 0) (show xs 2 = 0 from hs2) ?_
  refine x_ki C w [28, 35] [0, 1, 2, 3, 4, 5, 6, 7, 8, 9, 10, 11, 12, 13, 14, 15, 16, 17, 18, 19, 20, 21, 22, 23, 24, 25, 26, 27, 29, 30, 31, 32, 33, 34, 36, 37, 38, 39] rfl rfl (by decide) (by decide) (va_runV (As := [.int 1, .int 0]) (rest := []) (xfix C) (c531_X6_ofPager l G cy sa sv (a 31) (a 38) (a 32) (a 33) (a 34) (a 35) (a 36) (a 37) (xtr C) _) (cwV 2 (xhts C) (xgV (maxL := 0) (cc := ⟨#[]⟩) (ret := none) gw_908 gw_909 gw_910 gw_58 gc_X6_ofPager) rfl rfl rfl (by decide +kernel) ⟨(Nat.le_of_ble_eq_true rfl), (Nat.le_of_ble_eq_true rfl)⟩) (xPV C w [28, 35] rfl (by decide) (ci := 10) (q0 := 28) rfl rfl) rfl rfl hl.1 rfl (lv_room (Nat.le_of_ble_eq_true rfl)) dL_law_2284 ⟨(Nat.le_of_ble_eq_true rfl), (Nat.le_of_ble_eq_true rfl)⟩) (fun f3778 H locs w => ?_)
  have w : xW G A s [((a 1), .inr (7, [.ref (a 2), .ref (a 4)])), ((a 2), .inr (6, [.ref (a 3), .int 0])), ((a 3), .inl (cy 1, 24, .inl (fun _ => 0))), ((a 4), .inr (6, [.ref (a 5), .int 0])), ((a 5), .inl (cy 1, 24, .inl (fun _ => 0))), ((a 6), .inr (6, [.ref (a 7), .int 0])), ((a 7), .inl (cy 1, 24, .inl (fun _ => 0))), ((a 8), .inr (5, [.ref (a 9), .ref (a 11), .ref (a 13), .int 0])), ((a 9), .inr (6, [.ref (a 10), .int 0])), ((a 10), .inl (cy 1, 624, .inl (fun _ => 0))), ((a 11), .inr (6, [.ref (a 12), .int 0])), ((a 12), .inl (cy 1, 624, .inl (fun _ => 0))), ((a 13), .inr (6, [.ref (a 14), .int 0])), ((a 14), .inl (cy 1, 12, .inl (fun _ => 0))), ((a 15), .inr (7, [.ref (a 16), .ref (a 18)])), ((a 16), .inr (6, [.ref (a 17), .int 0])), ((a 17), .inl (cy 1, 24, .inl (fun _ => 0))), ((a 18), .inr (6, [.ref (a 19), .int 0])), ((a 19), .inl (cy 1, 24, .inl (fun _ => 0))), ((a 21), .inr (4, [.int 0, .int 0, .int 0])), ((a 23), .inr (4, [.int 0, .int 0, .int 0])), ((a 24), .inr (6, [.ref (a 25), .int 0])), ((a 25), .inl (cy 1, 24, .inl (fun _ => 0))), ((a 26), .inr (7, [.ref (a 27), .ref (a 29)])), ((a 27), .inr (6, [.ref (a 28), .int 0])), ((a 28), .inl (cy 1, 24, .inl (fun _ => 0))), ((a 29), .inr (6, [.ref (a 30), .int 0])), ((a 30), .inl (cy 1, 24, .inl (fun _ => 0))), ((a 32), .inr (3, [.int 0, .ref (sv 0), .int 0])), ((a 33), .inr (3, [.int 0, .ref (sv 0), .int 0])), ((a 34), .inr (3, [.int 0, .ref (sv 0), .int 0])), ((a 35), .inr (3, [.int 0, .ref (sv 0), .int 0])), ((a 36), .inl (cy 2, 3, .inl (fun _ => 0))), ((a 37), .inl (cy 1, 3, .inl (fun _ => 0))), ((a 0), .inr (8, [.ref (a 1), .ref (a 6), .ref (a 8), .ref (a 15), .ref (a 20), .int 0, .ref (a 24), .ref (a 26)])), ((a 20), .inl (cy 3, 3, .inr (.inr (.inr (.inr (va_up (va_up (va_up (fun _ => none) 0 (some (a 21))) 1 (some (a 22))) 2 (some (a 23)))))))), ((a 22), .inr (4, [.int 0, .int 0, .int 0])), ((a 39), .inr (9, [.long 0, .null])), ((a 31), .inr (10, [.ref (a 32), .ref (a 33), .ref (a 34), .ref (a 35), .ref (a 36), .ref (a 37), .ref (a 38), .int 0, .int 0])), ((a 38), .inl (cy 1, 3, .inl (fun _ => 0)))] H _ := w
  refine lv_istore (lv' := [(6, .int 0), (5, .int 0), (4, .int 0), (3, .ref (a 39)), (2, .ref (a 31)), (1, .ref (a 0)), (0, .ref b)]) C.1 C.2.1 dL_law_2287 hl (by decide) rfl (fun ls hl => ?_)
  refine lv_aload_n C.1 C.2.1 dL_law_2289 rfl (lv_at hl 4 rfl) ?_
  refine x_ki C w [38] [0, 1, 2, 3, 4, 5, 6, 7, 8, 9, 10, 11, 12, 13, 14, 15, 16, 17, 18, 19, 20, 21, 22, 23, 24, 25, 26, 27, 28, 29, 30, 31, 32, 33, 34, 35, 36, 37, 39] rfl rfl (by decide) (by decide) (va_runV (As := []) (rest := []) (xfix C) (c66_X6_thrown l G cy sa sv (a 31) (a 32) (a 33) (a 34) (a 35) (a 36) (a 37) (a 38) (xtr C) _) (cwV 0 (xhts C) (xgV (maxL := 0) (cc := ⟨#[]⟩) (ret := none) gw_122 gw_123 gw_124 gw_58 gc_X6_thrown) rfl rfl rfl (by decide +kernel) ⟨(Nat.le_of_ble_eq_true rfl), (Nat.le_of_ble_eq_true rfl)⟩) (xPV C w [38] rfl (by decide) (ci := 10) (q0 := 38) rfl rfl) rfl rfl hl.1 rfl (lv_room (Nat.le_of_ble_eq_true rfl)) dL_law_2290 ⟨(Nat.le_of_ble_eq_true rfl), (Nat.le_of_ble_eq_true rfl)⟩) (fun f3779 H locs w => ?_)
  have w : xW G A s [((a 1), .inr (7, [.ref (a 2), .ref (a 4)])), ((a 2), .inr (6, [.ref (a 3), .int 0])), ((a 3), .inl (cy 1, 24, .inl (fun _ => 0))), ((a 4), .inr (6, [.ref (a 5), .int 0])), ((a 5), .inl (cy 1, 24, .inl (fun _ => 0))), ((a 6), .inr (6, [.ref (a 7), .int 0])), ((a 7), .inl (cy 1, 24, .inl (fun _ => 0))), ((a 8), .inr (5, [.ref (a 9), .ref (a 11), .ref (a 13), .int 0])), ((a 9), .inr (6, [.ref (a 10), .int 0])), ((a 10), .inl (cy 1, 624, .inl (fun _ => 0))), ((a 11), .inr (6, [.ref (a 12), .int 0])), ((a 12), .inl (cy 1, 624, .inl (fun _ => 0))), ((a 13), .inr (6, [.ref (a 14), .int 0])), ((a 14), .inl (cy 1, 12, .inl (fun _ => 0))), ((a 15), .inr (7, [.ref (a 16), .ref (a 18)])), ((a 16), .inr (6, [.ref (a 17), .int 0])), ((a 17), .inl (cy 1, 24, .inl (fun _ => 0))), ((a 18), .inr (6, [.ref (a 19), .int 0])), ((a 19), .inl (cy 1, 24, .inl (fun _ => 0))), ((a 21), .inr (4, [.int 0, .int 0, .int 0])), ((a 23), .inr (4, [.int 0, .int 0, .int 0])), ((a 24), .inr (6, [.ref (a 25), .int 0])), ((a 25), .inl (cy 1, 24, .inl (fun _ => 0))), ((a 26), .inr (7, [.ref (a 27), .ref (a 29)])), ((a 27), .inr (6, [.ref (a 28), .int 0])), ((a 28), .inl (cy 1, 24, .inl (fun _ => 0))), ((a 29), .inr (6, [.ref (a 30), .int 0])), ((a 30), .inl (cy 1, 24, .inl (fun _ => 0))), ((a 32), .inr (3, [.int 0, .ref (sv 0), .int 0])), ((a 33), .inr (3, [.int 0, .ref (sv 0), .int 0])), ((a 34), .inr (3, [.int 0, .ref (sv 0), .int 0])), ((a 35), .inr (3, [.int 0, .ref (sv 0), .int 0])), ((a 36), .inl (cy 2, 3, .inl (fun _ => 0))), ((a 37), .inl (cy 1, 3, .inl (fun _ => 0))), ((a 0), .inr (8, [.ref (a 1), .ref (a 6), .ref (a 8), .ref (a 15), .ref (a 20), .int 0, .ref (a 24), .ref (a 26)])), ((a 20), .inl (cy 3, 3, .inr (.inr (.inr (.inr (va_up (va_up (va_up (fun _ => none) 0 (some (a 21))) 1 (some (a 22))) 2 (some (a 23)))))))), ((a 22), .inr (4, [.int 0, .int 0, .int 0])), ((a 39), .inr (9, [.long 0, .null])), ((a 38), .inl (cy 1, 3, .inl (fun _ => 0))), ((a 31), .inr (10, [.ref (a 32), .ref (a 33), .ref (a 34), .ref (a 35), .ref (a 36), .ref (a 37), .ref (a 38), .int 0, .int 0]))] H _ := w
  refine lv_iload C.1 C.2.1 dL_law_2293 (lv_at hl 1 rfl) ?_
  refine lv_icmp_eq (tgt := 2300) C.1 C.2.1 dL_law_2295 (by decide) (fun _ => ?_) (fun c9 => absurd (by decide) c9)
  refine lv_iload C.1 C.2.1 dL_law_2300 (lv_at hl 1 rfl) ?_
  refine lv_if_ne (tgt := 2318) C.1 C.2.1 dL_law_2302 (by decide) (fun c9 => absurd (by decide) c9) (fun _ => ?_)
  refine lv_aload_n C.1 C.2.1 dL_law_2305 rfl (lv_at hl 3 rfl) ?_
  refine x_getN (v := .long 0) C w 37 9 0 (xin_X5 _) rfl rfl (by decide) (xs_f_n (xS C)) rfl rfl dL_law_2306 ?_
  refine lv_iload C.1 C.2.1 dL_law_2309 (lv_at hl 0 rfl) ?_
  refine lv_i2l (v := 0) C.1 C.2.1 dL_law_2311 (by decide) ?_
  refine W.lcmp C.1 C.2.1 dL_law_2312 ?_
  refine x_is (y := 0) (by decide) ?_
  refine lv_if_eq (tgt := 2318) C.1 C.2.1 dL_law_2313 (by decide) (fun _ => ?_) (fun c9 => absurd (by decide) c9)
  refine lv_goto (tgt := 2509) C.1 C.2.1 dL_law_2318 (by decide) ?_
  refine lv_iinc (v := 5) (lv' := [(4, .int 5), (6, .int 0), (5, .int 0), (3, .ref (a 39)), (2, .ref (a 31)), (1, .ref (a 0)), (0, .ref b)]) C.1 C.2.1 dL_law_2509 hl (k := 2) rfl (by decide) (by decide) rfl (fun ls hl => ?_)
  refine lv_goto (tgt := 27) C.1 C.2.1 dL_law_2512 (by decide) ?_
  refine lv_iload C.1 C.2.1 dL_law_27 (lv_at hl 0 rfl) ?_
  refine lv_aload_n C.1 C.2.1 dL_law_29 rfl (lv_at hl 6 rfl) ?_
  refine va_slen C.1 C.2.1 hX hbl hbA w.2.2 dL_law_30 ?_
  refine x_is (y := 5) (by decide) ?_
  refine lv_iconst (v := 5) C.1 C.2.1 dL_law_31 (by decide) ?_
  refine lv_isub C.1 C.2.1 dL_law_32 ?_
  refine x_is (y := 0) (by decide) ?_
  refine lv_icmp_gt (tgt := 2515) C.1 C.2.1 dL_law_33 (by decide) (fun _ => ?_) (fun c9 => absurd (by decide) c9)
  refine lv_iconst (v := 1) C.1 C.2.1 dL_law_2515 (by decide) ?_
  refine va_forget (fun q hq => hAl _ (w.2.2.2.2 q hq)) ?_
  refine W.widen (k := 600002) (n := 7302232) (Nat.le_of_ble_eq_true rfl) (Nat.le_of_ble_eq_true rfl) ?_
  exact lw_ret C.1 C.2.1 hr (xlk C) dL_law_2516
set_option maxHeartbeats 8000000 in
set_option maxRecDepth 100000 in
theorem law_38f11_108 {p : Program} {e : Env} {s : State} {m : MethodId} {below : List Frame} {meth : Method} {c : Code} {l : Launch} {G : va_G} {cy : Nat → ClassId} {sa : String → Nat → Nat} {sv : Nat → Nat} {A : Nat → Prop} {b : Nat} {xs : Nat → Int32} {a : Nat → Nat} {H : Heap} {locs : List Loc} {ls : Array Slot} (C : xC p l s m #[Value.ref b] meth c code 7 "TwinindexLaw" (Cond.initialized "TwinindexLaw" :: XG) G cy sa sv A) (hr : meth.sig.returnType = ret) (hX : va_X b 5 xs s s.heap) (hbl : b < s.heap.size) (hbA : ¬ A b) (hAl : ∀ q, A q → s.heap.size ≤ q) (w : xW G A s (xW0 cy sv a) H locs) (hl : lv_has ls 7 [(4, .int 0), (3, .ref (a 39)), (2, .ref (a 31)), (1, .ref (a 0)), (0, .ref b)]) (hk : ((xs 0) &&& 63) = 38) (hs1 : xs 1 = 1) (hs2 : xs 2 = 1) : W p l e room_1 s m #[Value.ref b] below meth c H locs 40 1536 (lw_Z below #[Value.ref b] s) (F0 m 27 ls []) := by
  have w : xW G A s [((a 0), .inr (8, [.ref (a 1), .ref (a 6), .ref (a 8), .ref (a 15), .ref (a 20), .int 0, .ref (a 24), .ref (a 26)])), ((a 1), .inr (7, [.ref (a 2), .ref (a 4)])), ((a 2), .inr (6, [.ref (a 3), .int 0])), ((a 3), .inl (cy 1, 24, .inl (fun _ => 0))), ((a 4), .inr (6, [.ref (a 5), .int 0])), ((a 5), .inl (cy 1, 24, .inl (fun _ => 0))), ((a 6), .inr (6, [.ref (a 7), .int 0])), ((a 7), .inl (cy 1, 24, .inl (fun _ => 0))), ((a 8), .inr (5, [.ref (a 9), .ref (a 11), .ref (a 13), .int 0])), ((a 9), .inr (6, [.ref (a 10), .int 0])), ((a 10), .inl (cy 1, 624, .inl (fun _ => 0))), ((a 11), .inr (6, [.ref (a 12), .int 0])), ((a 12), .inl (cy 1, 624, .inl (fun _ => 0))), ((a 13), .inr (6, [.ref (a 14), .int 0])), ((a 14), .inl (cy 1, 12, .inl (fun _ => 0))), ((a 15), .inr (7, [.ref (a 16), .ref (a 18)])), ((a 16), .inr (6, [.ref (a 17), .int 0])), ((a 17), .inl (cy 1, 24, .inl (fun _ => 0))), ((a 18), .inr (6, [.ref (a 19), .int 0])), ((a 19), .inl (cy 1, 24, .inl (fun _ => 0))), ((a 20), .inl (cy 3, 3, .inr (.inr (.inr (.inr (va_up (va_up (va_up (fun _ => none) 0 (some (a 21))) 1 (some (a 22))) 2 (some (a 23)))))))), ((a 21), .inr (4, [.int 0, .int 0, .int 0])), ((a 22), .inr (4, [.int 0, .int 0, .int 0])), ((a 23), .inr (4, [.int 0, .int 0, .int 0])), ((a 24), .inr (6, [.ref (a 25), .int 0])), ((a 25), .inl (cy 1, 24, .inl (fun _ => 0))), ((a 26), .inr (7, [.ref (a 27), .ref (a 29)])), ((a 27), .inr (6, [.ref (a 28), .int 0])), ((a 28), .inl (cy 1, 24, .inl (fun _ => 0))), ((a 29), .inr (6, [.ref (a 30), .int 0])), ((a 30), .inl (cy 1, 24, .inl (fun _ => 0))), ((a 31), .inr (10, [.ref (a 32), .ref (a 33), .ref (a 34), .ref (a 35), .ref (a 36), .ref (a 37), .ref (a 38), .int 0, .int 0])), ((a 32), .inr (3, [.int 0, .ref (sv 0), .int 0])), ((a 33), .inr (3, [.int 0, .ref (sv 0), .int 0])), ((a 34), .inr (3, [.int 0, .ref (sv 0), .int 0])), ((a 35), .inr (3, [.int 0, .ref (sv 0), .int 0])), ((a 36), .inl (cy 2, 3, .inl (fun _ => 0))), ((a 37), .inl (cy 1, 3, .inl (fun _ => 0))), ((a 38), .inl (cy 1, 3, .inl (fun _ => 0))), ((a 39), .inr (9, [.long 0, .null]))] H _ := w
  refine lv_iload C.1 C.2.1 dL_law_27 (lv_at hl 0 rfl) ?_
  refine lv_aload_n C.1 C.2.1 dL_law_29 rfl (lv_at hl 4 rfl) ?_
  refine va_slen C.1 C.2.1 hX hbl hbA w.2.2 dL_law_30 ?_
  refine x_is (y := 5) (by decide) ?_
  refine lv_iconst (v := 5) C.1 C.2.1 dL_law_31 (by decide) ?_
  refine lv_isub C.1 C.2.1 dL_law_32 ?_
  refine x_is (y := 0) (by decide) ?_
  refine lv_icmp_gt (tgt := 2515) C.1 C.2.1 dL_law_33 (by decide) (fun c9 => absurd c9 (by decide)) (fun _ => ?_)
  refine lv_aload_n C.1 C.2.1 dL_law_36 rfl (lv_at hl 4 rfl) ?_
  refine lv_iload C.1 C.2.1 dL_law_37 (lv_at hl 0 rfl) ?_
  refine va_sld C.1 C.2.1 hX hbl hbA w.2.2 (xvin (by decide)) dL_law_39 ?_
  refine x_is (y := (xs 0)) (by rfl) ?_
  refine lv_bipush (v := 63) C.1 C.2.1 dL_law_40 (by decide) ?_
  refine lv_iand C.1 C.2.1 dL_law_42 ?_
  refine x_is (y := 38) hk ?_
  refine lv_tableIn (off := 2209) (tgt := 2252) C.1 C.2.1 dL_law_43 (by decide) (by decide) (by decide) (by decide) ?_
  refine lv_aload_n C.1 C.2.1 dL_law_2252 rfl (lv_at hl 3 rfl) ?_
  refine lv_aload_n C.1 C.2.1 dL_law_2253 rfl (lv_at hl 4 rfl) ?_
  refine lv_iload C.1 C.2.1 dL_law_2254 (lv_at hl 0 rfl) ?_
  refine lv_iconst (v := 1) C.1 C.2.1 dL_law_2256 (by decide) ?_
  refine lv_iadd C.1 C.2.1 dL_law_2257 ?_
  refine x_is (y := 1) (by decide) ?_
  refine va_sld C.1 C.2.1 hX hbl hbA w.2.2 (xvin (by decide)) dL_law_2258 ?_
  refine x_is (y := 1) (show xs 1 = 1 from hs1) ?_
  refine lv_aload_n C.1 C.2.1 dL_law_2259 rfl (lv_at hl 4 rfl) ?_
  refine lv_iload C.1 C.2.1 dL_law_2260 (lv_at hl 0 rfl) ?_
  refine lv_iconst (v := 2) C.1 C.2.1 dL_law_2262 (by decide) ?_
  refine lv_iadd C.1 C.2.1 dL_law_2263 ?_
  refine x_is (y := 2) (by decide) ?_
  refine va_sld C.1 C.2.1 hX hbl hbA w.2.2 (xvin (by decide)) dL_law_2264 ?_
  refine x_is (y := 1) (show xs 2 = 1 from hs2) ?_
  refine lv_aload_n C.1 C.2.1 dL_law_2265 rfl (lv_at hl 1 rfl) ?_
  refine x_ki C w [0, 20, 1, 2, 22, 39] [3, 4, 5, 6, 7, 8, 9, 10, 11, 12, 13, 14, 15, 16, 17, 18, 19, 21, 23, 24, 25, 26, 27, 28, 29, 30, 31, 32, 33, 34, 35, 36, 37, 38] rfl rfl (by decide) (by decide) (vx_runSW (As := [.ref (a 0), .int 1, .int 1, .ref (a 39)]) (rest := []) (xfix C) (c533_L_ofPager l G cy sa sv (a 0) (a 39) (a 20) (a 1) (a 2) (a 22) (a 6) (a 8) (a 15) (a 24) (a 26) (a 21) (a 23) (a 4) (a 3) (xtr C) _) (vx_cwSW 4 (xhts C) (xgS gw_901 gw_902 gw_106 gc_L_ofPager) rfl rfl rfl (by decide +kernel) ⟨(Nat.le_of_ble_eq_true rfl), (Nat.le_of_ble_eq_true rfl)⟩) (xPS C w [0, 20, 1, 2, 22, 39] rfl (by decide)) rfl rfl hl.1 rfl (lv_room (Nat.le_of_ble_eq_true rfl)) dL_law_2266 ⟨(Nat.le_of_ble_eq_true rfl), (Nat.le_of_ble_eq_true rfl)⟩) (fun f3789 H locs w => ?_)
  have w : xW G A s [((a 3), .inl (cy 1, 24, .inl (fun _ => 0))), ((a 4), .inr (6, [.ref (a 5), .int 0])), ((a 5), .inl (cy 1, 24, .inl (fun _ => 0))), ((a 6), .inr (6, [.ref (a 7), .int 0])), ((a 7), .inl (cy 1, 24, .inl (fun _ => 0))), ((a 8), .inr (5, [.ref (a 9), .ref (a 11), .ref (a 13), .int 0])), ((a 9), .inr (6, [.ref (a 10), .int 0])), ((a 10), .inl (cy 1, 624, .inl (fun _ => 0))), ((a 11), .inr (6, [.ref (a 12), .int 0])), ((a 12), .inl (cy 1, 624, .inl (fun _ => 0))), ((a 13), .inr (6, [.ref (a 14), .int 0])), ((a 14), .inl (cy 1, 12, .inl (fun _ => 0))), ((a 15), .inr (7, [.ref (a 16), .ref (a 18)])), ((a 16), .inr (6, [.ref (a 17), .int 0])), ((a 17), .inl (cy 1, 24, .inl (fun _ => 0))), ((a 18), .inr (6, [.ref (a 19), .int 0])), ((a 19), .inl (cy 1, 24, .inl (fun _ => 0))), ((a 21), .inr (4, [.int 0, .int 0, .int 0])), ((a 23), .inr (4, [.int 0, .int 0, .int 0])), ((a 24), .inr (6, [.ref (a 25), .int 0])), ((a 25), .inl (cy 1, 24, .inl (fun _ => 0))), ((a 26), .inr (7, [.ref (a 27), .ref (a 29)])), ((a 27), .inr (6, [.ref (a 28), .int 0])), ((a 28), .inl (cy 1, 24, .inl (fun _ => 0))), ((a 29), .inr (6, [.ref (a 30), .int 0])), ((a 30), .inl (cy 1, 24, .inl (fun _ => 0))), ((a 31), .inr (10, [.ref (a 32), .ref (a 33), .ref (a 34), .ref (a 35), .ref (a 36), .ref (a 37), .ref (a 38), .int 0, .int 0])), ((a 32), .inr (3, [.int 0, .ref (sv 0), .int 0])), ((a 33), .inr (3, [.int 0, .ref (sv 0), .int 0])), ((a 34), .inr (3, [.int 0, .ref (sv 0), .int 0])), ((a 35), .inr (3, [.int 0, .ref (sv 0), .int 0])), ((a 36), .inl (cy 2, 3, .inl (fun _ => 0))), ((a 37), .inl (cy 1, 3, .inl (fun _ => 0))), ((a 38), .inl (cy 1, 3, .inl (fun _ => 0))), ((a 0), .inr (8, [.ref (a 1), .ref (a 6), .ref (a 8), .ref (a 15), .ref (a 20), .int 0, .ref (a 24), .ref (a 26)])), ((a 20), .inl (cy 3, 3, .inr (.inr (.inr (.inr (va_up (va_up (va_up (fun _ => none) 0 (some (a 21))) 1 (some (a 22))) 2 (some (a 23)))))))), ((a 1), .inr (7, [.ref (a 2), .ref (a 4)])), ((a 2), .inr (6, [.ref (a 3), .int 0])), ((a 22), .inr (4, [.int 0, .int 0, .int 0])), ((a 39), .inr (9, [.long 0, .null]))] H _ := w
  refine lv_istore (lv' := [(5, .int 0), (4, .int 0), (3, .ref (a 39)), (2, .ref (a 31)), (1, .ref (a 0)), (0, .ref b)]) C.1 C.2.1 dL_law_2269 hl (by decide) rfl (fun ls hl => ?_)
  refine lv_aload_n C.1 C.2.1 dL_law_2271 rfl (lv_at hl 3 rfl) ?_
  refine lv_aload_n C.1 C.2.1 dL_law_2272 rfl (lv_at hl 5 rfl) ?_
  refine lv_iload C.1 C.2.1 dL_law_2273 (lv_at hl 1 rfl) ?_
  refine lv_iconst (v := 1) C.1 C.2.1 dL_law_2275 (by decide) ?_
  refine lv_iadd C.1 C.2.1 dL_law_2276 ?_
  refine x_is (y := 1) (by decide) ?_
  refine va_sld C.1 C.2.1 hX hbl hbA w.2.2 (xvin (by decide)) dL_law_2277 ?_
  refine x_is (y := 1) (show xs 1 = 1 from hs1) ?_
  refine lv_aload_n C.1 C.2.1 dL_law_2278 rfl (lv_at hl 5 rfl) ?_
  refine lv_iload C.1 C.2.1 dL_law_2279 (lv_at hl 1 rfl) ?_
  refine lv_iconst (v := 2) C.1 C.2.1 dL_law_2281 (by decide) ?_
  refine lv_iadd C.1 C.2.1 dL_law_2282 ?_
  refine x_is (y := 2) (by decide) ?_
  refine va_sld C.1 C.2.1 hX hbl hbA w.2.2 (xvin (by decide)) dL_law_2283 ?_
  refine x_is (y := 1) (show xs 2 = 1 from hs2) ?_
  refine x_ki C w [26, 27] [0, 1, 2, 3, 4, 5, 6, 7, 8, 9, 10, 11, 12, 13, 14, 15, 16, 17, 18, 19, 20, 21, 22, 23, 24, 25, 28, 29, 30, 31, 32, 33, 34, 35, 36, 37, 38, 39] rfl rfl (by decide) (by decide) (va_runV (As := [.int 1, .int 1]) (rest := []) (xfix C) (c535_X6_ofPager l G cy sa sv (a 31) (a 32) (a 33) (a 34) (a 35) (a 36) (a 37) (a 38) (xtr C) _) (cwV 2 (xhts C) (xgV (maxL := 0) (cc := ⟨#[]⟩) (ret := none) gw_908 gw_909 gw_910 gw_58 gc_X6_ofPager) rfl rfl rfl (by decide +kernel) ⟨(Nat.le_of_ble_eq_true rfl), (Nat.le_of_ble_eq_true rfl)⟩) (xPV C w [26, 27] rfl (by decide) (ci := 10) (q0 := 26) rfl rfl) rfl rfl hl.1 rfl (lv_room (Nat.le_of_ble_eq_true rfl)) dL_law_2284 ⟨(Nat.le_of_ble_eq_true rfl), (Nat.le_of_ble_eq_true rfl)⟩) (fun f3850 H locs w => ?_)
  have w : xW G A s [((a 3), .inl (cy 1, 24, .inl (fun _ => 0))), ((a 4), .inr (6, [.ref (a 5), .int 0])), ((a 5), .inl (cy 1, 24, .inl (fun _ => 0))), ((a 6), .inr (6, [.ref (a 7), .int 0])), ((a 7), .inl (cy 1, 24, .inl (fun _ => 0))), ((a 8), .inr (5, [.ref (a 9), .ref (a 11), .ref (a 13), .int 0])), ((a 9), .inr (6, [.ref (a 10), .int 0])), ((a 10), .inl (cy 1, 624, .inl (fun _ => 0))), ((a 11), .inr (6, [.ref (a 12), .int 0])), ((a 12), .inl (cy 1, 624, .inl (fun _ => 0))), ((a 13), .inr (6, [.ref (a 14), .int 0])), ((a 14), .inl (cy 1, 12, .inl (fun _ => 0))), ((a 15), .inr (7, [.ref (a 16), .ref (a 18)])), ((a 16), .inr (6, [.ref (a 17), .int 0])), ((a 17), .inl (cy 1, 24, .inl (fun _ => 0))), ((a 18), .inr (6, [.ref (a 19), .int 0])), ((a 19), .inl (cy 1, 24, .inl (fun _ => 0))), ((a 21), .inr (4, [.int 0, .int 0, .int 0])), ((a 23), .inr (4, [.int 0, .int 0, .int 0])), ((a 24), .inr (6, [.ref (a 25), .int 0])), ((a 25), .inl (cy 1, 24, .inl (fun _ => 0))), ((a 26), .inr (7, [.ref (a 27), .ref (a 29)])), ((a 27), .inr (6, [.ref (a 28), .int 0])), ((a 28), .inl (cy 1, 24, .inl (fun _ => 0))), ((a 29), .inr (6, [.ref (a 30), .int 0])), ((a 30), .inl (cy 1, 24, .inl (fun _ => 0))), ((a 33), .inr (3, [.int 0, .ref (sv 0), .int 0])), ((a 34), .inr (3, [.int 0, .ref (sv 0), .int 0])), ((a 35), .inr (3, [.int 0, .ref (sv 0), .int 0])), ((a 36), .inl (cy 2, 3, .inl (fun _ => 0))), ((a 37), .inl (cy 1, 3, .inl (fun _ => 0))), ((a 38), .inl (cy 1, 3, .inl (fun _ => 0))), ((a 0), .inr (8, [.ref (a 1), .ref (a 6), .ref (a 8), .ref (a 15), .ref (a 20), .int 0, .ref (a 24), .ref (a 26)])), ((a 20), .inl (cy 3, 3, .inr (.inr (.inr (.inr (va_up (va_up (va_up (fun _ => none) 0 (some (a 21))) 1 (some (a 22))) 2 (some (a 23)))))))), ((a 1), .inr (7, [.ref (a 2), .ref (a 4)])), ((a 2), .inr (6, [.ref (a 3), .int 0])), ((a 22), .inr (4, [.int 0, .int 0, .int 0])), ((a 39), .inr (9, [.long 0, .null])), ((a 31), .inr (10, [.ref (a 32), .ref (a 33), .ref (a 34), .ref (a 35), .ref (a 36), .ref (a 37), .ref (a 38), .int 0, .int 0])), ((a 32), .inr (3, [.int 0, .ref (sv 0), .int 0]))] H _ := w
  refine W.widen (k := 44) (n := 1546) (Nat.le_of_ble_eq_true rfl) (Nat.le_of_ble_eq_true rfl) ?_
  refine lv_istore (lv' := [(6, .int 0), (5, .int 0), (4, .int 0), (3, .ref (a 39)), (2, .ref (a 31)), (1, .ref (a 0)), (0, .ref b)]) C.1 C.2.1 dL_law_2287 hl (by decide) rfl (fun ls hl => ?_)
  refine lv_aload_n C.1 C.2.1 dL_law_2289 rfl (lv_at hl 4 rfl) ?_
  refine x_ki C w [38] [0, 1, 2, 3, 4, 5, 6, 7, 8, 9, 10, 11, 12, 13, 14, 15, 16, 17, 18, 19, 20, 21, 22, 23, 24, 25, 26, 27, 28, 29, 30, 31, 32, 33, 34, 35, 36, 37, 39] rfl rfl (by decide) (by decide) (va_runV (As := []) (rest := []) (xfix C) (c66_X6_thrown l G cy sa sv (a 31) (a 32) (a 33) (a 34) (a 35) (a 36) (a 37) (a 38) (xtr C) _) (cwV 0 (xhts C) (xgV (maxL := 0) (cc := ⟨#[]⟩) (ret := none) gw_122 gw_123 gw_124 gw_58 gc_X6_thrown) rfl rfl rfl (by decide +kernel) ⟨(Nat.le_of_ble_eq_true rfl), (Nat.le_of_ble_eq_true rfl)⟩) (xPV C w [38] rfl (by decide) (ci := 10) (q0 := 38) rfl rfl) rfl rfl hl.1 rfl (lv_room (Nat.le_of_ble_eq_true rfl)) dL_law_2290 ⟨(Nat.le_of_ble_eq_true rfl), (Nat.le_of_ble_eq_true rfl)⟩) (fun f3851 H locs w => ?_)
  have w : xW G A s [((a 3), .inl (cy 1, 24, .inl (fun _ => 0))), ((a 4), .inr (6, [.ref (a 5), .int 0])), ((a 5), .inl (cy 1, 24, .inl (fun _ => 0))), ((a 6), .inr (6, [.ref (a 7), .int 0])), ((a 7), .inl (cy 1, 24, .inl (fun _ => 0))), ((a 8), .inr (5, [.ref (a 9), .ref (a 11), .ref (a 13), .int 0])), ((a 9), .inr (6, [.ref (a 10), .int 0])), ((a 10), .inl (cy 1, 624, .inl (fun _ => 0))), ((a 11), .inr (6, [.ref (a 12), .int 0])), ((a 12), .inl (cy 1, 624, .inl (fun _ => 0))), ((a 13), .inr (6, [.ref (a 14), .int 0])), ((a 14), .inl (cy 1, 12, .inl (fun _ => 0))), ((a 15), .inr (7, [.ref (a 16), .ref (a 18)])), ((a 16), .inr (6, [.ref (a 17), .int 0])), ((a 17), .inl (cy 1, 24, .inl (fun _ => 0))), ((a 18), .inr (6, [.ref (a 19), .int 0])), ((a 19), .inl (cy 1, 24, .inl (fun _ => 0))), ((a 21), .inr (4, [.int 0, .int 0, .int 0])), ((a 23), .inr (4, [.int 0, .int 0, .int 0])), ((a 24), .inr (6, [.ref (a 25), .int 0])), ((a 25), .inl (cy 1, 24, .inl (fun _ => 0))), ((a 26), .inr (7, [.ref (a 27), .ref (a 29)])), ((a 27), .inr (6, [.ref (a 28), .int 0])), ((a 28), .inl (cy 1, 24, .inl (fun _ => 0))), ((a 29), .inr (6, [.ref (a 30), .int 0])), ((a 30), .inl (cy 1, 24, .inl (fun _ => 0))), ((a 33), .inr (3, [.int 0, .ref (sv 0), .int 0])), ((a 34), .inr (3, [.int 0, .ref (sv 0), .int 0])), ((a 35), .inr (3, [.int 0, .ref (sv 0), .int 0])), ((a 36), .inl (cy 2, 3, .inl (fun _ => 0))), ((a 37), .inl (cy 1, 3, .inl (fun _ => 0))), ((a 38), .inl (cy 1, 3, .inl (fun _ => 0))), ((a 0), .inr (8, [.ref (a 1), .ref (a 6), .ref (a 8), .ref (a 15), .ref (a 20), .int 0, .ref (a 24), .ref (a 26)])), ((a 20), .inl (cy 3, 3, .inr (.inr (.inr (.inr (va_up (va_up (va_up (fun _ => none) 0 (some (a 21))) 1 (some (a 22))) 2 (some (a 23)))))))), ((a 1), .inr (7, [.ref (a 2), .ref (a 4)])), ((a 2), .inr (6, [.ref (a 3), .int 0])), ((a 22), .inr (4, [.int 0, .int 0, .int 0])), ((a 39), .inr (9, [.long 0, .null])), ((a 32), .inr (3, [.int 0, .ref (sv 0), .int 0])), ((a 31), .inr (10, [.ref (a 32), .ref (a 33), .ref (a 34), .ref (a 35), .ref (a 36), .ref (a 37), .ref (a 38), .int 0, .int 0]))] H _ := w
  refine lv_iload C.1 C.2.1 dL_law_2293 (lv_at hl 1 rfl) ?_
  refine lv_icmp_eq (tgt := 2300) C.1 C.2.1 dL_law_2295 (by decide) (fun _ => ?_) (fun c9 => absurd (by decide) c9)
  refine lv_iload C.1 C.2.1 dL_law_2300 (lv_at hl 1 rfl) ?_
  refine lv_if_ne (tgt := 2318) C.1 C.2.1 dL_law_2302 (by decide) (fun c9 => absurd (by decide) c9) (fun _ => ?_)
  refine lv_aload_n C.1 C.2.1 dL_law_2305 rfl (lv_at hl 3 rfl) ?_
  refine x_getN (v := .long 0) C w 37 9 0 (xin_X5 _) rfl rfl (by decide) (xs_f_n (xS C)) rfl rfl dL_law_2306 ?_
  refine lv_iload C.1 C.2.1 dL_law_2309 (lv_at hl 0 rfl) ?_
  refine lv_i2l (v := 0) C.1 C.2.1 dL_law_2311 (by decide) ?_
  refine W.lcmp C.1 C.2.1 dL_law_2312 ?_
  refine x_is (y := 0) (by decide) ?_
  refine lv_if_eq (tgt := 2318) C.1 C.2.1 dL_law_2313 (by decide) (fun _ => ?_) (fun c9 => absurd (by decide) c9)
  refine lv_goto (tgt := 2509) C.1 C.2.1 dL_law_2318 (by decide) ?_
  refine lv_iinc (v := 5) (lv' := [(4, .int 5), (6, .int 0), (5, .int 0), (3, .ref (a 39)), (2, .ref (a 31)), (1, .ref (a 0)), (0, .ref b)]) C.1 C.2.1 dL_law_2509 hl (k := 2) rfl (by decide) (by decide) rfl (fun ls hl => ?_)
  refine lv_goto (tgt := 27) C.1 C.2.1 dL_law_2512 (by decide) ?_
  refine lv_iload C.1 C.2.1 dL_law_27 (lv_at hl 0 rfl) ?_
  refine lv_aload_n C.1 C.2.1 dL_law_29 rfl (lv_at hl 6 rfl) ?_
  refine va_slen C.1 C.2.1 hX hbl hbA w.2.2 dL_law_30 ?_
  refine x_is (y := 5) (by decide) ?_
  refine lv_iconst (v := 5) C.1 C.2.1 dL_law_31 (by decide) ?_
  refine lv_isub C.1 C.2.1 dL_law_32 ?_
  refine x_is (y := 0) (by decide) ?_
  refine lv_icmp_gt (tgt := 2515) C.1 C.2.1 dL_law_33 (by decide) (fun _ => ?_) (fun c9 => absurd (by decide) c9)
  refine lv_iconst (v := 1) C.1 C.2.1 dL_law_2515 (by decide) ?_
  refine va_forget (fun q hq => hAl _ (w.2.2.2.2 q hq)) ?_
  refine W.widen (k := 600002) (n := 7302232) (Nat.le_of_ble_eq_true rfl) (Nat.le_of_ble_eq_true rfl) ?_
  exact lw_ret C.1 C.2.1 hr (xlk C) dL_law_2516
set_option maxHeartbeats 8000000 in
set_option maxRecDepth 100000 in
theorem law_38f12_109 {p : Program} {e : Env} {s : State} {m : MethodId} {below : List Frame} {meth : Method} {c : Code} {l : Launch} {G : va_G} {cy : Nat → ClassId} {sa : String → Nat → Nat} {sv : Nat → Nat} {A : Nat → Prop} {b : Nat} {xs : Nat → Int32} {a : Nat → Nat} {H : Heap} {locs : List Loc} {ls : Array Slot} (C : xC p l s m #[Value.ref b] meth c code 7 "TwinindexLaw" (Cond.initialized "TwinindexLaw" :: XG) G cy sa sv A) (hr : meth.sig.returnType = ret) (hX : va_X b 5 xs s s.heap) (hbl : b < s.heap.size) (hbA : ¬ A b) (hAl : ∀ q, A q → s.heap.size ≤ q) (w : xW G A s (xW0 cy sv a) H locs) (hl : lv_has ls 7 [(4, .int 0), (3, .ref (a 39)), (2, .ref (a 31)), (1, .ref (a 0)), (0, .ref b)]) (hk : ((xs 0) &&& 63) = 38) (hs1 : xs 1 = 1) (hs2 : xs 2 = 2) : W p l e room_1 s m #[Value.ref b] below meth c H locs 40 1536 (lw_Z below #[Value.ref b] s) (F0 m 27 ls []) := by
  have w : xW G A s [((a 0), .inr (8, [.ref (a 1), .ref (a 6), .ref (a 8), .ref (a 15), .ref (a 20), .int 0, .ref (a 24), .ref (a 26)])), ((a 1), .inr (7, [.ref (a 2), .ref (a 4)])), ((a 2), .inr (6, [.ref (a 3), .int 0])), ((a 3), .inl (cy 1, 24, .inl (fun _ => 0))), ((a 4), .inr (6, [.ref (a 5), .int 0])), ((a 5), .inl (cy 1, 24, .inl (fun _ => 0))), ((a 6), .inr (6, [.ref (a 7), .int 0])), ((a 7), .inl (cy 1, 24, .inl (fun _ => 0))), ((a 8), .inr (5, [.ref (a 9), .ref (a 11), .ref (a 13), .int 0])), ((a 9), .inr (6, [.ref (a 10), .int 0])), ((a 10), .inl (cy 1, 624, .inl (fun _ => 0))), ((a 11), .inr (6, [.ref (a 12), .int 0])), ((a 12), .inl (cy 1, 624, .inl (fun _ => 0))), ((a 13), .inr (6, [.ref (a 14), .int 0])), ((a 14), .inl (cy 1, 12, .inl (fun _ => 0))), ((a 15), .inr (7, [.ref (a 16), .ref (a 18)])), ((a 16), .inr (6, [.ref (a 17), .int 0])), ((a 17), .inl (cy 1, 24, .inl (fun _ => 0))), ((a 18), .inr (6, [.ref (a 19), .int 0])), ((a 19), .inl (cy 1, 24, .inl (fun _ => 0))), ((a 20), .inl (cy 3, 3, .inr (.inr (.inr (.inr (va_up (va_up (va_up (fun _ => none) 0 (some (a 21))) 1 (some (a 22))) 2 (some (a 23)))))))), ((a 21), .inr (4, [.int 0, .int 0, .int 0])), ((a 22), .inr (4, [.int 0, .int 0, .int 0])), ((a 23), .inr (4, [.int 0, .int 0, .int 0])), ((a 24), .inr (6, [.ref (a 25), .int 0])), ((a 25), .inl (cy 1, 24, .inl (fun _ => 0))), ((a 26), .inr (7, [.ref (a 27), .ref (a 29)])), ((a 27), .inr (6, [.ref (a 28), .int 0])), ((a 28), .inl (cy 1, 24, .inl (fun _ => 0))), ((a 29), .inr (6, [.ref (a 30), .int 0])), ((a 30), .inl (cy 1, 24, .inl (fun _ => 0))), ((a 31), .inr (10, [.ref (a 32), .ref (a 33), .ref (a 34), .ref (a 35), .ref (a 36), .ref (a 37), .ref (a 38), .int 0, .int 0])), ((a 32), .inr (3, [.int 0, .ref (sv 0), .int 0])), ((a 33), .inr (3, [.int 0, .ref (sv 0), .int 0])), ((a 34), .inr (3, [.int 0, .ref (sv 0), .int 0])), ((a 35), .inr (3, [.int 0, .ref (sv 0), .int 0])), ((a 36), .inl (cy 2, 3, .inl (fun _ => 0))), ((a 37), .inl (cy 1, 3, .inl (fun _ => 0))), ((a 38), .inl (cy 1, 3, .inl (fun _ => 0))), ((a 39), .inr (9, [.long 0, .null]))] H _ := w
  refine lv_iload C.1 C.2.1 dL_law_27 (lv_at hl 0 rfl) ?_
  refine lv_aload_n C.1 C.2.1 dL_law_29 rfl (lv_at hl 4 rfl) ?_
  refine va_slen C.1 C.2.1 hX hbl hbA w.2.2 dL_law_30 ?_
  refine x_is (y := 5) (by decide) ?_
  refine lv_iconst (v := 5) C.1 C.2.1 dL_law_31 (by decide) ?_
  refine lv_isub C.1 C.2.1 dL_law_32 ?_
  refine x_is (y := 0) (by decide) ?_
  refine lv_icmp_gt (tgt := 2515) C.1 C.2.1 dL_law_33 (by decide) (fun c9 => absurd c9 (by decide)) (fun _ => ?_)
  refine lv_aload_n C.1 C.2.1 dL_law_36 rfl (lv_at hl 4 rfl) ?_
  refine lv_iload C.1 C.2.1 dL_law_37 (lv_at hl 0 rfl) ?_
  refine va_sld C.1 C.2.1 hX hbl hbA w.2.2 (xvin (by decide)) dL_law_39 ?_
  refine x_is (y := (xs 0)) (by rfl) ?_
  refine lv_bipush (v := 63) C.1 C.2.1 dL_law_40 (by decide) ?_
  refine lv_iand C.1 C.2.1 dL_law_42 ?_
  refine x_is (y := 38) hk ?_
  refine lv_tableIn (off := 2209) (tgt := 2252) C.1 C.2.1 dL_law_43 (by decide) (by decide) (by decide) (by decide) ?_
  refine lv_aload_n C.1 C.2.1 dL_law_2252 rfl (lv_at hl 3 rfl) ?_
  refine lv_aload_n C.1 C.2.1 dL_law_2253 rfl (lv_at hl 4 rfl) ?_
  refine lv_iload C.1 C.2.1 dL_law_2254 (lv_at hl 0 rfl) ?_
  refine lv_iconst (v := 1) C.1 C.2.1 dL_law_2256 (by decide) ?_
  refine lv_iadd C.1 C.2.1 dL_law_2257 ?_
  refine x_is (y := 1) (by decide) ?_
  refine va_sld C.1 C.2.1 hX hbl hbA w.2.2 (xvin (by decide)) dL_law_2258 ?_
  refine x_is (y := 1) (show xs 1 = 1 from hs1) ?_
  refine lv_aload_n C.1 C.2.1 dL_law_2259 rfl (lv_at hl 4 rfl) ?_
  refine lv_iload C.1 C.2.1 dL_law_2260 (lv_at hl 0 rfl) ?_
  refine lv_iconst (v := 2) C.1 C.2.1 dL_law_2262 (by decide) ?_
  refine lv_iadd C.1 C.2.1 dL_law_2263 ?_
  refine x_is (y := 2) (by decide) ?_
  refine va_sld C.1 C.2.1 hX hbl hbA w.2.2 (xvin (by decide)) dL_law_2264 ?_
  refine x_is (y := 2) (show xs 2 = 2 from hs2) ?_
  refine lv_aload_n C.1 C.2.1 dL_law_2265 rfl (lv_at hl 1 rfl) ?_
  refine x_ki C w [0, 20, 22, 39] [1, 2, 3, 4, 5, 6, 7, 8, 9, 10, 11, 12, 13, 14, 15, 16, 17, 18, 19, 21, 23, 24, 25, 26, 27, 28, 29, 30, 31, 32, 33, 34, 35, 36, 37, 38] rfl rfl (by decide) (by decide) (vx_runSW (As := [.ref (a 0), .int 1, .int 2, .ref (a 39)]) (rest := []) (xfix C) (c537_L_ofPager l G cy sa sv (a 0) (a 39) (a 20) (a 22) (a 1) (a 6) (a 8) (a 15) (a 24) (a 26) (a 21) (a 23) (xtr C) _) (vx_cwSW 4 (xhts C) (xgS gw_901 gw_902 gw_106 gc_L_ofPager) rfl rfl rfl (by decide +kernel) ⟨(Nat.le_of_ble_eq_true rfl), (Nat.le_of_ble_eq_true rfl)⟩) (xPS C w [0, 20, 22, 39] rfl (by decide)) rfl rfl hl.1 rfl (lv_room (Nat.le_of_ble_eq_true rfl)) dL_law_2266 ⟨(Nat.le_of_ble_eq_true rfl), (Nat.le_of_ble_eq_true rfl)⟩) (fun f3854 H locs w => ?_)
  have w : xW G A s [((a 1), .inr (7, [.ref (a 2), .ref (a 4)])), ((a 2), .inr (6, [.ref (a 3), .int 0])), ((a 3), .inl (cy 1, 24, .inl (fun _ => 0))), ((a 4), .inr (6, [.ref (a 5), .int 0])), ((a 5), .inl (cy 1, 24, .inl (fun _ => 0))), ((a 6), .inr (6, [.ref (a 7), .int 0])), ((a 7), .inl (cy 1, 24, .inl (fun _ => 0))), ((a 8), .inr (5, [.ref (a 9), .ref (a 11), .ref (a 13), .int 0])), ((a 9), .inr (6, [.ref (a 10), .int 0])), ((a 10), .inl (cy 1, 624, .inl (fun _ => 0))), ((a 11), .inr (6, [.ref (a 12), .int 0])), ((a 12), .inl (cy 1, 624, .inl (fun _ => 0))), ((a 13), .inr (6, [.ref (a 14), .int 0])), ((a 14), .inl (cy 1, 12, .inl (fun _ => 0))), ((a 15), .inr (7, [.ref (a 16), .ref (a 18)])), ((a 16), .inr (6, [.ref (a 17), .int 0])), ((a 17), .inl (cy 1, 24, .inl (fun _ => 0))), ((a 18), .inr (6, [.ref (a 19), .int 0])), ((a 19), .inl (cy 1, 24, .inl (fun _ => 0))), ((a 21), .inr (4, [.int 0, .int 0, .int 0])), ((a 23), .inr (4, [.int 0, .int 0, .int 0])), ((a 24), .inr (6, [.ref (a 25), .int 0])), ((a 25), .inl (cy 1, 24, .inl (fun _ => 0))), ((a 26), .inr (7, [.ref (a 27), .ref (a 29)])), ((a 27), .inr (6, [.ref (a 28), .int 0])), ((a 28), .inl (cy 1, 24, .inl (fun _ => 0))), ((a 29), .inr (6, [.ref (a 30), .int 0])), ((a 30), .inl (cy 1, 24, .inl (fun _ => 0))), ((a 31), .inr (10, [.ref (a 32), .ref (a 33), .ref (a 34), .ref (a 35), .ref (a 36), .ref (a 37), .ref (a 38), .int 0, .int 0])), ((a 32), .inr (3, [.int 0, .ref (sv 0), .int 0])), ((a 33), .inr (3, [.int 0, .ref (sv 0), .int 0])), ((a 34), .inr (3, [.int 0, .ref (sv 0), .int 0])), ((a 35), .inr (3, [.int 0, .ref (sv 0), .int 0])), ((a 36), .inl (cy 2, 3, .inl (fun _ => 0))), ((a 37), .inl (cy 1, 3, .inl (fun _ => 0))), ((a 38), .inl (cy 1, 3, .inl (fun _ => 0))), ((a 0), .inr (8, [.ref (a 1), .ref (a 6), .ref (a 8), .ref (a 15), .ref (a 20), .int 0, .ref (a 24), .ref (a 26)])), ((a 20), .inl (cy 3, 3, .inr (.inr (.inr (.inr (va_up (va_up (va_up (fun _ => none) 0 (some (a 21))) 1 (some (a 22))) 2 (some (a 23)))))))), ((a 22), .inr (4, [.int 0, .int 0, .int 0])), ((a 39), .inr (9, [.long 0, .null]))] H _ := w
  refine lv_istore (lv' := [(5, .int 0), (4, .int 0), (3, .ref (a 39)), (2, .ref (a 31)), (1, .ref (a 0)), (0, .ref b)]) C.1 C.2.1 dL_law_2269 hl (by decide) rfl (fun ls hl => ?_)
  refine lv_aload_n C.1 C.2.1 dL_law_2271 rfl (lv_at hl 3 rfl) ?_
  refine lv_aload_n C.1 C.2.1 dL_law_2272 rfl (lv_at hl 5 rfl) ?_
  refine lv_iload C.1 C.2.1 dL_law_2273 (lv_at hl 1 rfl) ?_
  refine lv_iconst (v := 1) C.1 C.2.1 dL_law_2275 (by decide) ?_
  refine lv_iadd C.1 C.2.1 dL_law_2276 ?_
  refine x_is (y := 1) (by decide) ?_
  refine va_sld C.1 C.2.1 hX hbl hbA w.2.2 (xvin (by decide)) dL_law_2277 ?_
  refine x_is (y := 1) (show xs 1 = 1 from hs1) ?_
  refine lv_aload_n C.1 C.2.1 dL_law_2278 rfl (lv_at hl 5 rfl) ?_
  refine lv_iload C.1 C.2.1 dL_law_2279 (lv_at hl 1 rfl) ?_
  refine lv_iconst (v := 2) C.1 C.2.1 dL_law_2281 (by decide) ?_
  refine lv_iadd C.1 C.2.1 dL_law_2282 ?_
  refine x_is (y := 2) (by decide) ?_
  refine va_sld C.1 C.2.1 hX hbl hbA w.2.2 (xvin (by decide)) dL_law_2283 ?_
  refine x_is (y := 2) (show xs 2 = 2 from hs2) ?_
  refine x_ki C w [28, 33] [0, 1, 2, 3, 4, 5, 6, 7, 8, 9, 10, 11, 12, 13, 14, 15, 16, 17, 18, 19, 20, 21, 22, 23, 24, 25, 26, 27, 29, 30, 31, 32, 34, 35, 36, 37, 38, 39] rfl rfl (by decide) (by decide) (va_runV (As := [.int 1, .int 2]) (rest := []) (xfix C) (c539_X6_ofPager l G cy sa sv (a 31) (a 36) (a 32) (a 33) (a 34) (a 35) (a 37) (a 38) (xtr C) _) (cwV 2 (xhts C) (xgV (maxL := 0) (cc := ⟨#[]⟩) (ret := none) gw_908 gw_909 gw_910 gw_58 gc_X6_ofPager) rfl rfl rfl (by decide +kernel) ⟨(Nat.le_of_ble_eq_true rfl), (Nat.le_of_ble_eq_true rfl)⟩) (xPV C w [28, 33] rfl (by decide) (ci := 10) (q0 := 28) rfl rfl) rfl rfl hl.1 rfl (lv_room (Nat.le_of_ble_eq_true rfl)) dL_law_2284 ⟨(Nat.le_of_ble_eq_true rfl), (Nat.le_of_ble_eq_true rfl)⟩) (fun f3860 H locs w => ?_)
  have w : xW G A s [((a 1), .inr (7, [.ref (a 2), .ref (a 4)])), ((a 2), .inr (6, [.ref (a 3), .int 0])), ((a 3), .inl (cy 1, 24, .inl (fun _ => 0))), ((a 4), .inr (6, [.ref (a 5), .int 0])), ((a 5), .inl (cy 1, 24, .inl (fun _ => 0))), ((a 6), .inr (6, [.ref (a 7), .int 0])), ((a 7), .inl (cy 1, 24, .inl (fun _ => 0))), ((a 8), .inr (5, [.ref (a 9), .ref (a 11), .ref (a 13), .int 0])), ((a 9), .inr (6, [.ref (a 10), .int 0])), ((a 10), .inl (cy 1, 624, .inl (fun _ => 0))), ((a 11), .inr (6, [.ref (a 12), .int 0])), ((a 12), .inl (cy 1, 624, .inl (fun _ => 0))), ((a 13), .inr (6, [.ref (a 14), .int 0])), ((a 14), .inl (cy 1, 12, .inl (fun _ => 0))), ((a 15), .inr (7, [.ref (a 16), .ref (a 18)])), ((a 16), .inr (6, [.ref (a 17), .int 0])), ((a 17), .inl (cy 1, 24, .inl (fun _ => 0))), ((a 18), .inr (6, [.ref (a 19), .int 0])), ((a 19), .inl (cy 1, 24, .inl (fun _ => 0))), ((a 21), .inr (4, [.int 0, .int 0, .int 0])), ((a 23), .inr (4, [.int 0, .int 0, .int 0])), ((a 24), .inr (6, [.ref (a 25), .int 0])), ((a 25), .inl (cy 1, 24, .inl (fun _ => 0))), ((a 26), .inr (7, [.ref (a 27), .ref (a 29)])), ((a 27), .inr (6, [.ref (a 28), .int 0])), ((a 28), .inl (cy 1, 24, .inl (fun _ => 0))), ((a 29), .inr (6, [.ref (a 30), .int 0])), ((a 30), .inl (cy 1, 24, .inl (fun _ => 0))), ((a 32), .inr (3, [.int 0, .ref (sv 0), .int 0])), ((a 33), .inr (3, [.int 0, .ref (sv 0), .int 0])), ((a 34), .inr (3, [.int 0, .ref (sv 0), .int 0])), ((a 35), .inr (3, [.int 0, .ref (sv 0), .int 0])), ((a 37), .inl (cy 1, 3, .inl (fun _ => 0))), ((a 38), .inl (cy 1, 3, .inl (fun _ => 0))), ((a 0), .inr (8, [.ref (a 1), .ref (a 6), .ref (a 8), .ref (a 15), .ref (a 20), .int 0, .ref (a 24), .ref (a 26)])), ((a 20), .inl (cy 3, 3, .inr (.inr (.inr (.inr (va_up (va_up (va_up (fun _ => none) 0 (some (a 21))) 1 (some (a 22))) 2 (some (a 23)))))))), ((a 22), .inr (4, [.int 0, .int 0, .int 0])), ((a 39), .inr (9, [.long 0, .null])), ((a 31), .inr (10, [.ref (a 32), .ref (a 33), .ref (a 34), .ref (a 35), .ref (a 36), .ref (a 37), .ref (a 38), .int 0, .int 0])), ((a 36), .inl (cy 2, 3, .inl (fun _ => 0)))] H _ := w
  refine lv_istore (lv' := [(6, .int 0), (5, .int 0), (4, .int 0), (3, .ref (a 39)), (2, .ref (a 31)), (1, .ref (a 0)), (0, .ref b)]) C.1 C.2.1 dL_law_2287 hl (by decide) rfl (fun ls hl => ?_)
  refine lv_aload_n C.1 C.2.1 dL_law_2289 rfl (lv_at hl 4 rfl) ?_
  refine x_ki C w [38] [0, 1, 2, 3, 4, 5, 6, 7, 8, 9, 10, 11, 12, 13, 14, 15, 16, 17, 18, 19, 20, 21, 22, 23, 24, 25, 26, 27, 28, 29, 30, 31, 32, 33, 34, 35, 36, 37, 39] rfl rfl (by decide) (by decide) (va_runV (As := []) (rest := []) (xfix C) (c66_X6_thrown l G cy sa sv (a 31) (a 32) (a 33) (a 34) (a 35) (a 36) (a 37) (a 38) (xtr C) _) (cwV 0 (xhts C) (xgV (maxL := 0) (cc := ⟨#[]⟩) (ret := none) gw_122 gw_123 gw_124 gw_58 gc_X6_thrown) rfl rfl rfl (by decide +kernel) ⟨(Nat.le_of_ble_eq_true rfl), (Nat.le_of_ble_eq_true rfl)⟩) (xPV C w [38] rfl (by decide) (ci := 10) (q0 := 38) rfl rfl) rfl rfl hl.1 rfl (lv_room (Nat.le_of_ble_eq_true rfl)) dL_law_2290 ⟨(Nat.le_of_ble_eq_true rfl), (Nat.le_of_ble_eq_true rfl)⟩) (fun f3861 H locs w => ?_)
  have w : xW G A s [((a 1), .inr (7, [.ref (a 2), .ref (a 4)])), ((a 2), .inr (6, [.ref (a 3), .int 0])), ((a 3), .inl (cy 1, 24, .inl (fun _ => 0))), ((a 4), .inr (6, [.ref (a 5), .int 0])), ((a 5), .inl (cy 1, 24, .inl (fun _ => 0))), ((a 6), .inr (6, [.ref (a 7), .int 0])), ((a 7), .inl (cy 1, 24, .inl (fun _ => 0))), ((a 8), .inr (5, [.ref (a 9), .ref (a 11), .ref (a 13), .int 0])), ((a 9), .inr (6, [.ref (a 10), .int 0])), ((a 10), .inl (cy 1, 624, .inl (fun _ => 0))), ((a 11), .inr (6, [.ref (a 12), .int 0])), ((a 12), .inl (cy 1, 624, .inl (fun _ => 0))), ((a 13), .inr (6, [.ref (a 14), .int 0])), ((a 14), .inl (cy 1, 12, .inl (fun _ => 0))), ((a 15), .inr (7, [.ref (a 16), .ref (a 18)])), ((a 16), .inr (6, [.ref (a 17), .int 0])), ((a 17), .inl (cy 1, 24, .inl (fun _ => 0))), ((a 18), .inr (6, [.ref (a 19), .int 0])), ((a 19), .inl (cy 1, 24, .inl (fun _ => 0))), ((a 21), .inr (4, [.int 0, .int 0, .int 0])), ((a 23), .inr (4, [.int 0, .int 0, .int 0])), ((a 24), .inr (6, [.ref (a 25), .int 0])), ((a 25), .inl (cy 1, 24, .inl (fun _ => 0))), ((a 26), .inr (7, [.ref (a 27), .ref (a 29)])), ((a 27), .inr (6, [.ref (a 28), .int 0])), ((a 28), .inl (cy 1, 24, .inl (fun _ => 0))), ((a 29), .inr (6, [.ref (a 30), .int 0])), ((a 30), .inl (cy 1, 24, .inl (fun _ => 0))), ((a 32), .inr (3, [.int 0, .ref (sv 0), .int 0])), ((a 33), .inr (3, [.int 0, .ref (sv 0), .int 0])), ((a 34), .inr (3, [.int 0, .ref (sv 0), .int 0])), ((a 35), .inr (3, [.int 0, .ref (sv 0), .int 0])), ((a 37), .inl (cy 1, 3, .inl (fun _ => 0))), ((a 38), .inl (cy 1, 3, .inl (fun _ => 0))), ((a 0), .inr (8, [.ref (a 1), .ref (a 6), .ref (a 8), .ref (a 15), .ref (a 20), .int 0, .ref (a 24), .ref (a 26)])), ((a 20), .inl (cy 3, 3, .inr (.inr (.inr (.inr (va_up (va_up (va_up (fun _ => none) 0 (some (a 21))) 1 (some (a 22))) 2 (some (a 23)))))))), ((a 22), .inr (4, [.int 0, .int 0, .int 0])), ((a 39), .inr (9, [.long 0, .null])), ((a 36), .inl (cy 2, 3, .inl (fun _ => 0))), ((a 31), .inr (10, [.ref (a 32), .ref (a 33), .ref (a 34), .ref (a 35), .ref (a 36), .ref (a 37), .ref (a 38), .int 0, .int 0]))] H _ := w
  refine lv_iload C.1 C.2.1 dL_law_2293 (lv_at hl 1 rfl) ?_
  refine lv_icmp_eq (tgt := 2300) C.1 C.2.1 dL_law_2295 (by decide) (fun _ => ?_) (fun c9 => absurd (by decide) c9)
  refine lv_iload C.1 C.2.1 dL_law_2300 (lv_at hl 1 rfl) ?_
  refine lv_if_ne (tgt := 2318) C.1 C.2.1 dL_law_2302 (by decide) (fun c9 => absurd (by decide) c9) (fun _ => ?_)
  refine lv_aload_n C.1 C.2.1 dL_law_2305 rfl (lv_at hl 3 rfl) ?_
  refine x_getN (v := .long 0) C w 37 9 0 (xin_X5 _) rfl rfl (by decide) (xs_f_n (xS C)) rfl rfl dL_law_2306 ?_
  refine lv_iload C.1 C.2.1 dL_law_2309 (lv_at hl 0 rfl) ?_
  refine lv_i2l (v := 0) C.1 C.2.1 dL_law_2311 (by decide) ?_
  refine W.lcmp C.1 C.2.1 dL_law_2312 ?_
  refine x_is (y := 0) (by decide) ?_
  refine lv_if_eq (tgt := 2318) C.1 C.2.1 dL_law_2313 (by decide) (fun _ => ?_) (fun c9 => absurd (by decide) c9)
  refine lv_goto (tgt := 2509) C.1 C.2.1 dL_law_2318 (by decide) ?_
  refine lv_iinc (v := 5) (lv' := [(4, .int 5), (6, .int 0), (5, .int 0), (3, .ref (a 39)), (2, .ref (a 31)), (1, .ref (a 0)), (0, .ref b)]) C.1 C.2.1 dL_law_2509 hl (k := 2) rfl (by decide) (by decide) rfl (fun ls hl => ?_)
  refine lv_goto (tgt := 27) C.1 C.2.1 dL_law_2512 (by decide) ?_
  refine lv_iload C.1 C.2.1 dL_law_27 (lv_at hl 0 rfl) ?_
  refine lv_aload_n C.1 C.2.1 dL_law_29 rfl (lv_at hl 6 rfl) ?_
  refine va_slen C.1 C.2.1 hX hbl hbA w.2.2 dL_law_30 ?_
  refine x_is (y := 5) (by decide) ?_
  refine lv_iconst (v := 5) C.1 C.2.1 dL_law_31 (by decide) ?_
  refine lv_isub C.1 C.2.1 dL_law_32 ?_
  refine x_is (y := 0) (by decide) ?_
  refine lv_icmp_gt (tgt := 2515) C.1 C.2.1 dL_law_33 (by decide) (fun _ => ?_) (fun c9 => absurd (by decide) c9)
  refine lv_iconst (v := 1) C.1 C.2.1 dL_law_2515 (by decide) ?_
  refine va_forget (fun q hq => hAl _ (w.2.2.2.2 q hq)) ?_
  refine W.widen (k := 600002) (n := 7302232) (Nat.le_of_ble_eq_true rfl) (Nat.le_of_ble_eq_true rfl) ?_
  exact lw_ret C.1 C.2.1 hr (xlk C) dL_law_2516
set_option maxHeartbeats 8000000 in
set_option maxRecDepth 100000 in
theorem law_38f13_110 {p : Program} {e : Env} {s : State} {m : MethodId} {below : List Frame} {meth : Method} {c : Code} {l : Launch} {G : va_G} {cy : Nat → ClassId} {sa : String → Nat → Nat} {sv : Nat → Nat} {A : Nat → Prop} {b : Nat} {xs : Nat → Int32} {a : Nat → Nat} {H : Heap} {locs : List Loc} {ls : Array Slot} (C : xC p l s m #[Value.ref b] meth c code 7 "TwinindexLaw" (Cond.initialized "TwinindexLaw" :: XG) G cy sa sv A) (hr : meth.sig.returnType = ret) (hX : va_X b 5 xs s s.heap) (hbl : b < s.heap.size) (hbA : ¬ A b) (hAl : ∀ q, A q → s.heap.size ≤ q) (w : xW G A s (xW0 cy sv a) H locs) (hl : lv_has ls 7 [(4, .int 0), (3, .ref (a 39)), (2, .ref (a 31)), (1, .ref (a 0)), (0, .ref b)]) (hk : ((xs 0) &&& 63) = 38) (hs1 : xs 1 = 1) (hs2 : xs 2 = 3) : W p l e room_1 s m #[Value.ref b] below meth c H locs 40 1536 (lw_Z below #[Value.ref b] s) (F0 m 27 ls []) := by
  have w : xW G A s [((a 0), .inr (8, [.ref (a 1), .ref (a 6), .ref (a 8), .ref (a 15), .ref (a 20), .int 0, .ref (a 24), .ref (a 26)])), ((a 1), .inr (7, [.ref (a 2), .ref (a 4)])), ((a 2), .inr (6, [.ref (a 3), .int 0])), ((a 3), .inl (cy 1, 24, .inl (fun _ => 0))), ((a 4), .inr (6, [.ref (a 5), .int 0])), ((a 5), .inl (cy 1, 24, .inl (fun _ => 0))), ((a 6), .inr (6, [.ref (a 7), .int 0])), ((a 7), .inl (cy 1, 24, .inl (fun _ => 0))), ((a 8), .inr (5, [.ref (a 9), .ref (a 11), .ref (a 13), .int 0])), ((a 9), .inr (6, [.ref (a 10), .int 0])), ((a 10), .inl (cy 1, 624, .inl (fun _ => 0))), ((a 11), .inr (6, [.ref (a 12), .int 0])), ((a 12), .inl (cy 1, 624, .inl (fun _ => 0))), ((a 13), .inr (6, [.ref (a 14), .int 0])), ((a 14), .inl (cy 1, 12, .inl (fun _ => 0))), ((a 15), .inr (7, [.ref (a 16), .ref (a 18)])), ((a 16), .inr (6, [.ref (a 17), .int 0])), ((a 17), .inl (cy 1, 24, .inl (fun _ => 0))), ((a 18), .inr (6, [.ref (a 19), .int 0])), ((a 19), .inl (cy 1, 24, .inl (fun _ => 0))), ((a 20), .inl (cy 3, 3, .inr (.inr (.inr (.inr (va_up (va_up (va_up (fun _ => none) 0 (some (a 21))) 1 (some (a 22))) 2 (some (a 23)))))))), ((a 21), .inr (4, [.int 0, .int 0, .int 0])), ((a 22), .inr (4, [.int 0, .int 0, .int 0])), ((a 23), .inr (4, [.int 0, .int 0, .int 0])), ((a 24), .inr (6, [.ref (a 25), .int 0])), ((a 25), .inl (cy 1, 24, .inl (fun _ => 0))), ((a 26), .inr (7, [.ref (a 27), .ref (a 29)])), ((a 27), .inr (6, [.ref (a 28), .int 0])), ((a 28), .inl (cy 1, 24, .inl (fun _ => 0))), ((a 29), .inr (6, [.ref (a 30), .int 0])), ((a 30), .inl (cy 1, 24, .inl (fun _ => 0))), ((a 31), .inr (10, [.ref (a 32), .ref (a 33), .ref (a 34), .ref (a 35), .ref (a 36), .ref (a 37), .ref (a 38), .int 0, .int 0])), ((a 32), .inr (3, [.int 0, .ref (sv 0), .int 0])), ((a 33), .inr (3, [.int 0, .ref (sv 0), .int 0])), ((a 34), .inr (3, [.int 0, .ref (sv 0), .int 0])), ((a 35), .inr (3, [.int 0, .ref (sv 0), .int 0])), ((a 36), .inl (cy 2, 3, .inl (fun _ => 0))), ((a 37), .inl (cy 1, 3, .inl (fun _ => 0))), ((a 38), .inl (cy 1, 3, .inl (fun _ => 0))), ((a 39), .inr (9, [.long 0, .null]))] H _ := w
  refine lv_iload C.1 C.2.1 dL_law_27 (lv_at hl 0 rfl) ?_
  refine lv_aload_n C.1 C.2.1 dL_law_29 rfl (lv_at hl 4 rfl) ?_
  refine va_slen C.1 C.2.1 hX hbl hbA w.2.2 dL_law_30 ?_
  refine x_is (y := 5) (by decide) ?_
  refine lv_iconst (v := 5) C.1 C.2.1 dL_law_31 (by decide) ?_
  refine lv_isub C.1 C.2.1 dL_law_32 ?_
  refine x_is (y := 0) (by decide) ?_
  refine lv_icmp_gt (tgt := 2515) C.1 C.2.1 dL_law_33 (by decide) (fun c9 => absurd c9 (by decide)) (fun _ => ?_)
  refine lv_aload_n C.1 C.2.1 dL_law_36 rfl (lv_at hl 4 rfl) ?_
  refine lv_iload C.1 C.2.1 dL_law_37 (lv_at hl 0 rfl) ?_
  refine va_sld C.1 C.2.1 hX hbl hbA w.2.2 (xvin (by decide)) dL_law_39 ?_
  refine x_is (y := (xs 0)) (by rfl) ?_
  refine lv_bipush (v := 63) C.1 C.2.1 dL_law_40 (by decide) ?_
  refine lv_iand C.1 C.2.1 dL_law_42 ?_
  refine x_is (y := 38) hk ?_
  refine lv_tableIn (off := 2209) (tgt := 2252) C.1 C.2.1 dL_law_43 (by decide) (by decide) (by decide) (by decide) ?_
  refine lv_aload_n C.1 C.2.1 dL_law_2252 rfl (lv_at hl 3 rfl) ?_
  refine lv_aload_n C.1 C.2.1 dL_law_2253 rfl (lv_at hl 4 rfl) ?_
  refine lv_iload C.1 C.2.1 dL_law_2254 (lv_at hl 0 rfl) ?_
  refine lv_iconst (v := 1) C.1 C.2.1 dL_law_2256 (by decide) ?_
  refine lv_iadd C.1 C.2.1 dL_law_2257 ?_
  refine x_is (y := 1) (by decide) ?_
  refine va_sld C.1 C.2.1 hX hbl hbA w.2.2 (xvin (by decide)) dL_law_2258 ?_
  refine x_is (y := 1) (show xs 1 = 1 from hs1) ?_
  refine lv_aload_n C.1 C.2.1 dL_law_2259 rfl (lv_at hl 4 rfl) ?_
  refine lv_iload C.1 C.2.1 dL_law_2260 (lv_at hl 0 rfl) ?_
  refine lv_iconst (v := 2) C.1 C.2.1 dL_law_2262 (by decide) ?_
  refine lv_iadd C.1 C.2.1 dL_law_2263 ?_
  refine x_is (y := 2) (by decide) ?_
  refine va_sld C.1 C.2.1 hX hbl hbA w.2.2 (xvin (by decide)) dL_law_2264 ?_
  refine x_is (y := 3) (show xs 2 = 3 from hs2) ?_
  refine lv_aload_n C.1 C.2.1 dL_law_2265 rfl (lv_at hl 1 rfl) ?_
  refine x_ki C w [0, 20, 22, 39] [1, 2, 3, 4, 5, 6, 7, 8, 9, 10, 11, 12, 13, 14, 15, 16, 17, 18, 19, 21, 23, 24, 25, 26, 27, 28, 29, 30, 31, 32, 33, 34, 35, 36, 37, 38] rfl rfl (by decide) (by decide) (vx_runSW (As := [.ref (a 0), .int 1, .int 3, .ref (a 39)]) (rest := []) (xfix C) (c541_L_ofPager l G cy sa sv (a 0) (a 39) (a 20) (a 22) (a 1) (a 6) (a 8) (a 15) (a 24) (a 26) (a 21) (a 23) (xtr C) _) (vx_cwSW 4 (xhts C) (xgS gw_901 gw_902 gw_106 gc_L_ofPager) rfl rfl rfl (by decide +kernel) ⟨(Nat.le_of_ble_eq_true rfl), (Nat.le_of_ble_eq_true rfl)⟩) (xPS C w [0, 20, 22, 39] rfl (by decide)) rfl rfl hl.1 rfl (lv_room (Nat.le_of_ble_eq_true rfl)) dL_law_2266 ⟨(Nat.le_of_ble_eq_true rfl), (Nat.le_of_ble_eq_true rfl)⟩) (fun f3864 H locs w => ?_)
  have w : xW G A s [((a 1), .inr (7, [.ref (a 2), .ref (a 4)])), ((a 2), .inr (6, [.ref (a 3), .int 0])), ((a 3), .inl (cy 1, 24, .inl (fun _ => 0))), ((a 4), .inr (6, [.ref (a 5), .int 0])), ((a 5), .inl (cy 1, 24, .inl (fun _ => 0))), ((a 6), .inr (6, [.ref (a 7), .int 0])), ((a 7), .inl (cy 1, 24, .inl (fun _ => 0))), ((a 8), .inr (5, [.ref (a 9), .ref (a 11), .ref (a 13), .int 0])), ((a 9), .inr (6, [.ref (a 10), .int 0])), ((a 10), .inl (cy 1, 624, .inl (fun _ => 0))), ((a 11), .inr (6, [.ref (a 12), .int 0])), ((a 12), .inl (cy 1, 624, .inl (fun _ => 0))), ((a 13), .inr (6, [.ref (a 14), .int 0])), ((a 14), .inl (cy 1, 12, .inl (fun _ => 0))), ((a 15), .inr (7, [.ref (a 16), .ref (a 18)])), ((a 16), .inr (6, [.ref (a 17), .int 0])), ((a 17), .inl (cy 1, 24, .inl (fun _ => 0))), ((a 18), .inr (6, [.ref (a 19), .int 0])), ((a 19), .inl (cy 1, 24, .inl (fun _ => 0))), ((a 21), .inr (4, [.int 0, .int 0, .int 0])), ((a 23), .inr (4, [.int 0, .int 0, .int 0])), ((a 24), .inr (6, [.ref (a 25), .int 0])), ((a 25), .inl (cy 1, 24, .inl (fun _ => 0))), ((a 26), .inr (7, [.ref (a 27), .ref (a 29)])), ((a 27), .inr (6, [.ref (a 28), .int 0])), ((a 28), .inl (cy 1, 24, .inl (fun _ => 0))), ((a 29), .inr (6, [.ref (a 30), .int 0])), ((a 30), .inl (cy 1, 24, .inl (fun _ => 0))), ((a 31), .inr (10, [.ref (a 32), .ref (a 33), .ref (a 34), .ref (a 35), .ref (a 36), .ref (a 37), .ref (a 38), .int 0, .int 0])), ((a 32), .inr (3, [.int 0, .ref (sv 0), .int 0])), ((a 33), .inr (3, [.int 0, .ref (sv 0), .int 0])), ((a 34), .inr (3, [.int 0, .ref (sv 0), .int 0])), ((a 35), .inr (3, [.int 0, .ref (sv 0), .int 0])), ((a 36), .inl (cy 2, 3, .inl (fun _ => 0))), ((a 37), .inl (cy 1, 3, .inl (fun _ => 0))), ((a 38), .inl (cy 1, 3, .inl (fun _ => 0))), ((a 0), .inr (8, [.ref (a 1), .ref (a 6), .ref (a 8), .ref (a 15), .ref (a 20), .int 0, .ref (a 24), .ref (a 26)])), ((a 20), .inl (cy 3, 3, .inr (.inr (.inr (.inr (va_up (va_up (va_up (fun _ => none) 0 (some (a 21))) 1 (some (a 22))) 2 (some (a 23)))))))), ((a 22), .inr (4, [.int 0, .int 0, .int 0])), ((a 39), .inr (9, [.long 0, .null]))] H _ := w
  refine lv_istore (lv' := [(5, .int 0), (4, .int 0), (3, .ref (a 39)), (2, .ref (a 31)), (1, .ref (a 0)), (0, .ref b)]) C.1 C.2.1 dL_law_2269 hl (by decide) rfl (fun ls hl => ?_)
  refine lv_aload_n C.1 C.2.1 dL_law_2271 rfl (lv_at hl 3 rfl) ?_
  refine lv_aload_n C.1 C.2.1 dL_law_2272 rfl (lv_at hl 5 rfl) ?_
  refine lv_iload C.1 C.2.1 dL_law_2273 (lv_at hl 1 rfl) ?_
  refine lv_iconst (v := 1) C.1 C.2.1 dL_law_2275 (by decide) ?_
  refine lv_iadd C.1 C.2.1 dL_law_2276 ?_
  refine x_is (y := 1) (by decide) ?_
  refine va_sld C.1 C.2.1 hX hbl hbA w.2.2 (xvin (by decide)) dL_law_2277 ?_
  refine x_is (y := 1) (show xs 1 = 1 from hs1) ?_
  refine lv_aload_n C.1 C.2.1 dL_law_2278 rfl (lv_at hl 5 rfl) ?_
  refine lv_iload C.1 C.2.1 dL_law_2279 (lv_at hl 1 rfl) ?_
  refine lv_iconst (v := 2) C.1 C.2.1 dL_law_2281 (by decide) ?_
  refine lv_iadd C.1 C.2.1 dL_law_2282 ?_
  refine x_is (y := 2) (by decide) ?_
  refine va_sld C.1 C.2.1 hX hbl hbA w.2.2 (xvin (by decide)) dL_law_2283 ?_
  refine x_is (y := 3) (show xs 2 = 3 from hs2) ?_
  refine x_ki C w [28, 34] [0, 1, 2, 3, 4, 5, 6, 7, 8, 9, 10, 11, 12, 13, 14, 15, 16, 17, 18, 19, 20, 21, 22, 23, 24, 25, 26, 27, 29, 30, 31, 32, 33, 35, 36, 37, 38, 39] rfl rfl (by decide) (by decide) (va_runV (As := [.int 1, .int 3]) (rest := []) (xfix C) (c543_X6_ofPager l G cy sa sv (a 31) (a 37) (a 32) (a 33) (a 34) (a 35) (a 36) (a 38) (xtr C) _) (cwV 2 (xhts C) (xgV (maxL := 0) (cc := ⟨#[]⟩) (ret := none) gw_908 gw_909 gw_910 gw_58 gc_X6_ofPager) rfl rfl rfl (by decide +kernel) ⟨(Nat.le_of_ble_eq_true rfl), (Nat.le_of_ble_eq_true rfl)⟩) (xPV C w [28, 34] rfl (by decide) (ci := 10) (q0 := 28) rfl rfl) rfl rfl hl.1 rfl (lv_room (Nat.le_of_ble_eq_true rfl)) dL_law_2284 ⟨(Nat.le_of_ble_eq_true rfl), (Nat.le_of_ble_eq_true rfl)⟩) (fun f3869 H locs w => ?_)
  have w : xW G A s [((a 1), .inr (7, [.ref (a 2), .ref (a 4)])), ((a 2), .inr (6, [.ref (a 3), .int 0])), ((a 3), .inl (cy 1, 24, .inl (fun _ => 0))), ((a 4), .inr (6, [.ref (a 5), .int 0])), ((a 5), .inl (cy 1, 24, .inl (fun _ => 0))), ((a 6), .inr (6, [.ref (a 7), .int 0])), ((a 7), .inl (cy 1, 24, .inl (fun _ => 0))), ((a 8), .inr (5, [.ref (a 9), .ref (a 11), .ref (a 13), .int 0])), ((a 9), .inr (6, [.ref (a 10), .int 0])), ((a 10), .inl (cy 1, 624, .inl (fun _ => 0))), ((a 11), .inr (6, [.ref (a 12), .int 0])), ((a 12), .inl (cy 1, 624, .inl (fun _ => 0))), ((a 13), .inr (6, [.ref (a 14), .int 0])), ((a 14), .inl (cy 1, 12, .inl (fun _ => 0))), ((a 15), .inr (7, [.ref (a 16), .ref (a 18)])), ((a 16), .inr (6, [.ref (a 17), .int 0])), ((a 17), .inl (cy 1, 24, .inl (fun _ => 0))), ((a 18), .inr (6, [.ref (a 19), .int 0])), ((a 19), .inl (cy 1, 24, .inl (fun _ => 0))), ((a 21), .inr (4, [.int 0, .int 0, .int 0])), ((a 23), .inr (4, [.int 0, .int 0, .int 0])), ((a 24), .inr (6, [.ref (a 25), .int 0])), ((a 25), .inl (cy 1, 24, .inl (fun _ => 0))), ((a 26), .inr (7, [.ref (a 27), .ref (a 29)])), ((a 27), .inr (6, [.ref (a 28), .int 0])), ((a 28), .inl (cy 1, 24, .inl (fun _ => 0))), ((a 29), .inr (6, [.ref (a 30), .int 0])), ((a 30), .inl (cy 1, 24, .inl (fun _ => 0))), ((a 32), .inr (3, [.int 0, .ref (sv 0), .int 0])), ((a 33), .inr (3, [.int 0, .ref (sv 0), .int 0])), ((a 34), .inr (3, [.int 0, .ref (sv 0), .int 0])), ((a 35), .inr (3, [.int 0, .ref (sv 0), .int 0])), ((a 36), .inl (cy 2, 3, .inl (fun _ => 0))), ((a 38), .inl (cy 1, 3, .inl (fun _ => 0))), ((a 0), .inr (8, [.ref (a 1), .ref (a 6), .ref (a 8), .ref (a 15), .ref (a 20), .int 0, .ref (a 24), .ref (a 26)])), ((a 20), .inl (cy 3, 3, .inr (.inr (.inr (.inr (va_up (va_up (va_up (fun _ => none) 0 (some (a 21))) 1 (some (a 22))) 2 (some (a 23)))))))), ((a 22), .inr (4, [.int 0, .int 0, .int 0])), ((a 39), .inr (9, [.long 0, .null])), ((a 31), .inr (10, [.ref (a 32), .ref (a 33), .ref (a 34), .ref (a 35), .ref (a 36), .ref (a 37), .ref (a 38), .int 0, .int 0])), ((a 37), .inl (cy 1, 3, .inl (fun _ => 0)))] H _ := w
  refine lv_istore (lv' := [(6, .int 0), (5, .int 0), (4, .int 0), (3, .ref (a 39)), (2, .ref (a 31)), (1, .ref (a 0)), (0, .ref b)]) C.1 C.2.1 dL_law_2287 hl (by decide) rfl (fun ls hl => ?_)
  refine lv_aload_n C.1 C.2.1 dL_law_2289 rfl (lv_at hl 4 rfl) ?_
  refine x_ki C w [38] [0, 1, 2, 3, 4, 5, 6, 7, 8, 9, 10, 11, 12, 13, 14, 15, 16, 17, 18, 19, 20, 21, 22, 23, 24, 25, 26, 27, 28, 29, 30, 31, 32, 33, 34, 35, 36, 37, 39] rfl rfl (by decide) (by decide) (va_runV (As := []) (rest := []) (xfix C) (c66_X6_thrown l G cy sa sv (a 31) (a 32) (a 33) (a 34) (a 35) (a 36) (a 37) (a 38) (xtr C) _) (cwV 0 (xhts C) (xgV (maxL := 0) (cc := ⟨#[]⟩) (ret := none) gw_122 gw_123 gw_124 gw_58 gc_X6_thrown) rfl rfl rfl (by decide +kernel) ⟨(Nat.le_of_ble_eq_true rfl), (Nat.le_of_ble_eq_true rfl)⟩) (xPV C w [38] rfl (by decide) (ci := 10) (q0 := 38) rfl rfl) rfl rfl hl.1 rfl (lv_room (Nat.le_of_ble_eq_true rfl)) dL_law_2290 ⟨(Nat.le_of_ble_eq_true rfl), (Nat.le_of_ble_eq_true rfl)⟩) (fun f3870 H locs w => ?_)
  have w : xW G A s [((a 1), .inr (7, [.ref (a 2), .ref (a 4)])), ((a 2), .inr (6, [.ref (a 3), .int 0])), ((a 3), .inl (cy 1, 24, .inl (fun _ => 0))), ((a 4), .inr (6, [.ref (a 5), .int 0])), ((a 5), .inl (cy 1, 24, .inl (fun _ => 0))), ((a 6), .inr (6, [.ref (a 7), .int 0])), ((a 7), .inl (cy 1, 24, .inl (fun _ => 0))), ((a 8), .inr (5, [.ref (a 9), .ref (a 11), .ref (a 13), .int 0])), ((a 9), .inr (6, [.ref (a 10), .int 0])), ((a 10), .inl (cy 1, 624, .inl (fun _ => 0))), ((a 11), .inr (6, [.ref (a 12), .int 0])), ((a 12), .inl (cy 1, 624, .inl (fun _ => 0))), ((a 13), .inr (6, [.ref (a 14), .int 0])), ((a 14), .inl (cy 1, 12, .inl (fun _ => 0))), ((a 15), .inr (7, [.ref (a 16), .ref (a 18)])), ((a 16), .inr (6, [.ref (a 17), .int 0])), ((a 17), .inl (cy 1, 24, .inl (fun _ => 0))), ((a 18), .inr (6, [.ref (a 19), .int 0])), ((a 19), .inl (cy 1, 24, .inl (fun _ => 0))), ((a 21), .inr (4, [.int 0, .int 0, .int 0])), ((a 23), .inr (4, [.int 0, .int 0, .int 0])), ((a 24), .inr (6, [.ref (a 25), .int 0])), ((a 25), .inl (cy 1, 24, .inl (fun _ => 0))), ((a 26), .inr (7, [.ref (a 27), .ref (a 29)])), ((a 27), .inr (6, [.ref (a 28), .int 0])), ((a 28), .inl (cy 1, 24, .inl (fun _ => 0))), ((a 29), .inr (6, [.ref (a 30), .int 0])), ((a 30), .inl (cy 1, 24, .inl (fun _ => 0))), ((a 32), .inr (3, [.int 0, .ref (sv 0), .int 0])), ((a 33), .inr (3, [.int 0, .ref (sv 0), .int 0])), ((a 34), .inr (3, [.int 0, .ref (sv 0), .int 0])), ((a 35), .inr (3, [.int 0, .ref (sv 0), .int 0])), ((a 36), .inl (cy 2, 3, .inl (fun _ => 0))), ((a 38), .inl (cy 1, 3, .inl (fun _ => 0))), ((a 0), .inr (8, [.ref (a 1), .ref (a 6), .ref (a 8), .ref (a 15), .ref (a 20), .int 0, .ref (a 24), .ref (a 26)])), ((a 20), .inl (cy 3, 3, .inr (.inr (.inr (.inr (va_up (va_up (va_up (fun _ => none) 0 (some (a 21))) 1 (some (a 22))) 2 (some (a 23)))))))), ((a 22), .inr (4, [.int 0, .int 0, .int 0])), ((a 39), .inr (9, [.long 0, .null])), ((a 37), .inl (cy 1, 3, .inl (fun _ => 0))), ((a 31), .inr (10, [.ref (a 32), .ref (a 33), .ref (a 34), .ref (a 35), .ref (a 36), .ref (a 37), .ref (a 38), .int 0, .int 0]))] H _ := w
  refine lv_iload C.1 C.2.1 dL_law_2293 (lv_at hl 1 rfl) ?_
  refine lv_icmp_eq (tgt := 2300) C.1 C.2.1 dL_law_2295 (by decide) (fun _ => ?_) (fun c9 => absurd (by decide) c9)
  refine lv_iload C.1 C.2.1 dL_law_2300 (lv_at hl 1 rfl) ?_
  refine lv_if_ne (tgt := 2318) C.1 C.2.1 dL_law_2302 (by decide) (fun c9 => absurd (by decide) c9) (fun _ => ?_)
  refine lv_aload_n C.1 C.2.1 dL_law_2305 rfl (lv_at hl 3 rfl) ?_
  refine x_getN (v := .long 0) C w 37 9 0 (xin_X5 _) rfl rfl (by decide) (xs_f_n (xS C)) rfl rfl dL_law_2306 ?_
  refine lv_iload C.1 C.2.1 dL_law_2309 (lv_at hl 0 rfl) ?_
  refine lv_i2l (v := 0) C.1 C.2.1 dL_law_2311 (by decide) ?_
  refine W.lcmp C.1 C.2.1 dL_law_2312 ?_
  refine x_is (y := 0) (by decide) ?_
  refine lv_if_eq (tgt := 2318) C.1 C.2.1 dL_law_2313 (by decide) (fun _ => ?_) (fun c9 => absurd (by decide) c9)
  refine lv_goto (tgt := 2509) C.1 C.2.1 dL_law_2318 (by decide) ?_
  refine lv_iinc (v := 5) (lv' := [(4, .int 5), (6, .int 0), (5, .int 0), (3, .ref (a 39)), (2, .ref (a 31)), (1, .ref (a 0)), (0, .ref b)]) C.1 C.2.1 dL_law_2509 hl (k := 2) rfl (by decide) (by decide) rfl (fun ls hl => ?_)
  refine lv_goto (tgt := 27) C.1 C.2.1 dL_law_2512 (by decide) ?_
  refine lv_iload C.1 C.2.1 dL_law_27 (lv_at hl 0 rfl) ?_
  refine lv_aload_n C.1 C.2.1 dL_law_29 rfl (lv_at hl 6 rfl) ?_
  refine va_slen C.1 C.2.1 hX hbl hbA w.2.2 dL_law_30 ?_
  refine x_is (y := 5) (by decide) ?_
  refine lv_iconst (v := 5) C.1 C.2.1 dL_law_31 (by decide) ?_
  refine lv_isub C.1 C.2.1 dL_law_32 ?_
  refine x_is (y := 0) (by decide) ?_
  refine lv_icmp_gt (tgt := 2515) C.1 C.2.1 dL_law_33 (by decide) (fun _ => ?_) (fun c9 => absurd (by decide) c9)
  refine lv_iconst (v := 1) C.1 C.2.1 dL_law_2515 (by decide) ?_
  refine va_forget (fun q hq => hAl _ (w.2.2.2.2 q hq)) ?_
  refine W.widen (k := 600002) (n := 7302232) (Nat.le_of_ble_eq_true rfl) (Nat.le_of_ble_eq_true rfl) ?_
  exact lw_ret C.1 C.2.1 hr (xlk C) dL_law_2516
set_option maxHeartbeats 8000000 in
set_option maxRecDepth 100000 in
theorem law_38f20_111 {p : Program} {e : Env} {s : State} {m : MethodId} {below : List Frame} {meth : Method} {c : Code} {l : Launch} {G : va_G} {cy : Nat → ClassId} {sa : String → Nat → Nat} {sv : Nat → Nat} {A : Nat → Prop} {b : Nat} {xs : Nat → Int32} {a : Nat → Nat} {H : Heap} {locs : List Loc} {ls : Array Slot} (C : xC p l s m #[Value.ref b] meth c code 7 "TwinindexLaw" (Cond.initialized "TwinindexLaw" :: XG) G cy sa sv A) (hr : meth.sig.returnType = ret) (hX : va_X b 5 xs s s.heap) (hbl : b < s.heap.size) (hbA : ¬ A b) (hAl : ∀ q, A q → s.heap.size ≤ q) (w : xW G A s (xW0 cy sv a) H locs) (hl : lv_has ls 7 [(4, .int 0), (3, .ref (a 39)), (2, .ref (a 31)), (1, .ref (a 0)), (0, .ref b)]) (hk : ((xs 0) &&& 63) = 38) (hs1 : xs 1 = 2) (hs2 : xs 2 = 0) : W p l e room_1 s m #[Value.ref b] below meth c H locs 40 1536 (lw_Z below #[Value.ref b] s) (F0 m 27 ls []) := by
  have w : xW G A s [((a 0), .inr (8, [.ref (a 1), .ref (a 6), .ref (a 8), .ref (a 15), .ref (a 20), .int 0, .ref (a 24), .ref (a 26)])), ((a 1), .inr (7, [.ref (a 2), .ref (a 4)])), ((a 2), .inr (6, [.ref (a 3), .int 0])), ((a 3), .inl (cy 1, 24, .inl (fun _ => 0))), ((a 4), .inr (6, [.ref (a 5), .int 0])), ((a 5), .inl (cy 1, 24, .inl (fun _ => 0))), ((a 6), .inr (6, [.ref (a 7), .int 0])), ((a 7), .inl (cy 1, 24, .inl (fun _ => 0))), ((a 8), .inr (5, [.ref (a 9), .ref (a 11), .ref (a 13), .int 0])), ((a 9), .inr (6, [.ref (a 10), .int 0])), ((a 10), .inl (cy 1, 624, .inl (fun _ => 0))), ((a 11), .inr (6, [.ref (a 12), .int 0])), ((a 12), .inl (cy 1, 624, .inl (fun _ => 0))), ((a 13), .inr (6, [.ref (a 14), .int 0])), ((a 14), .inl (cy 1, 12, .inl (fun _ => 0))), ((a 15), .inr (7, [.ref (a 16), .ref (a 18)])), ((a 16), .inr (6, [.ref (a 17), .int 0])), ((a 17), .inl (cy 1, 24, .inl (fun _ => 0))), ((a 18), .inr (6, [.ref (a 19), .int 0])), ((a 19), .inl (cy 1, 24, .inl (fun _ => 0))), ((a 20), .inl (cy 3, 3, .inr (.inr (.inr (.inr (va_up (va_up (va_up (fun _ => none) 0 (some (a 21))) 1 (some (a 22))) 2 (some (a 23)))))))), ((a 21), .inr (4, [.int 0, .int 0, .int 0])), ((a 22), .inr (4, [.int 0, .int 0, .int 0])), ((a 23), .inr (4, [.int 0, .int 0, .int 0])), ((a 24), .inr (6, [.ref (a 25), .int 0])), ((a 25), .inl (cy 1, 24, .inl (fun _ => 0))), ((a 26), .inr (7, [.ref (a 27), .ref (a 29)])), ((a 27), .inr (6, [.ref (a 28), .int 0])), ((a 28), .inl (cy 1, 24, .inl (fun _ => 0))), ((a 29), .inr (6, [.ref (a 30), .int 0])), ((a 30), .inl (cy 1, 24, .inl (fun _ => 0))), ((a 31), .inr (10, [.ref (a 32), .ref (a 33), .ref (a 34), .ref (a 35), .ref (a 36), .ref (a 37), .ref (a 38), .int 0, .int 0])), ((a 32), .inr (3, [.int 0, .ref (sv 0), .int 0])), ((a 33), .inr (3, [.int 0, .ref (sv 0), .int 0])), ((a 34), .inr (3, [.int 0, .ref (sv 0), .int 0])), ((a 35), .inr (3, [.int 0, .ref (sv 0), .int 0])), ((a 36), .inl (cy 2, 3, .inl (fun _ => 0))), ((a 37), .inl (cy 1, 3, .inl (fun _ => 0))), ((a 38), .inl (cy 1, 3, .inl (fun _ => 0))), ((a 39), .inr (9, [.long 0, .null]))] H _ := w
  refine lv_iload C.1 C.2.1 dL_law_27 (lv_at hl 0 rfl) ?_
  refine lv_aload_n C.1 C.2.1 dL_law_29 rfl (lv_at hl 4 rfl) ?_
  refine va_slen C.1 C.2.1 hX hbl hbA w.2.2 dL_law_30 ?_
  refine x_is (y := 5) (by decide) ?_
  refine lv_iconst (v := 5) C.1 C.2.1 dL_law_31 (by decide) ?_
  refine lv_isub C.1 C.2.1 dL_law_32 ?_
  refine x_is (y := 0) (by decide) ?_
  refine lv_icmp_gt (tgt := 2515) C.1 C.2.1 dL_law_33 (by decide) (fun c9 => absurd c9 (by decide)) (fun _ => ?_)
  refine lv_aload_n C.1 C.2.1 dL_law_36 rfl (lv_at hl 4 rfl) ?_
  refine lv_iload C.1 C.2.1 dL_law_37 (lv_at hl 0 rfl) ?_
  refine va_sld C.1 C.2.1 hX hbl hbA w.2.2 (xvin (by decide)) dL_law_39 ?_
  refine x_is (y := (xs 0)) (by rfl) ?_
  refine lv_bipush (v := 63) C.1 C.2.1 dL_law_40 (by decide) ?_
  refine lv_iand C.1 C.2.1 dL_law_42 ?_
  refine x_is (y := 38) hk ?_
  refine lv_tableIn (off := 2209) (tgt := 2252) C.1 C.2.1 dL_law_43 (by decide) (by decide) (by decide) (by decide) ?_
  refine lv_aload_n C.1 C.2.1 dL_law_2252 rfl (lv_at hl 3 rfl) ?_
  refine lv_aload_n C.1 C.2.1 dL_law_2253 rfl (lv_at hl 4 rfl) ?_
  refine lv_iload C.1 C.2.1 dL_law_2254 (lv_at hl 0 rfl) ?_
  refine lv_iconst (v := 1) C.1 C.2.1 dL_law_2256 (by decide) ?_
  refine lv_iadd C.1 C.2.1 dL_law_2257 ?_
  refine x_is (y := 1) (by decide) ?_
  refine va_sld C.1 C.2.1 hX hbl hbA w.2.2 (xvin (by decide)) dL_law_2258 ?_
  refine x_is (y := 2) (show xs 1 = 2 from hs1) ?_
  refine lv_aload_n C.1 C.2.1 dL_law_2259 rfl (lv_at hl 4 rfl) ?_
  refine lv_iload C.1 C.2.1 dL_law_2260 (lv_at hl 0 rfl) ?_
  refine lv_iconst (v := 2) C.1 C.2.1 dL_law_2262 (by decide) ?_
  refine lv_iadd C.1 C.2.1 dL_law_2263 ?_
  refine x_is (y := 2) (by decide) ?_
  refine va_sld C.1 C.2.1 hX hbl hbA w.2.2 (xvin (by decide)) dL_law_2264 ?_
  refine x_is (y := 0) (show xs 2 = 0 from hs2) ?_
  refine lv_aload_n C.1 C.2.1 dL_law_2265 rfl (lv_at hl 1 rfl) ?_
  refine x_ki C w [0, 20, 23, 39] [1, 2, 3, 4, 5, 6, 7, 8, 9, 10, 11, 12, 13, 14, 15, 16, 17, 18, 19, 21, 22, 24, 25, 26, 27, 28, 29, 30, 31, 32, 33, 34, 35, 36, 37, 38] rfl rfl (by decide) (by decide) (vx_runSW (As := [.ref (a 0), .int 2, .int 0, .ref (a 39)]) (rest := []) (xfix C) (c545_L_ofPager l G cy sa sv (a 0) (a 39) (a 20) (a 23) (a 1) (a 6) (a 8) (a 15) (a 24) (a 26) (a 21) (a 22) (xtr C) _) (vx_cwSW 4 (xhts C) (xgS gw_901 gw_902 gw_106 gc_L_ofPager) rfl rfl rfl (by decide +kernel) ⟨(Nat.le_of_ble_eq_true rfl), (Nat.le_of_ble_eq_true rfl)⟩) (xPS C w [0, 20, 23, 39] rfl (by decide)) rfl rfl hl.1 rfl (lv_room (Nat.le_of_ble_eq_true rfl)) dL_law_2266 ⟨(Nat.le_of_ble_eq_true rfl), (Nat.le_of_ble_eq_true rfl)⟩) (fun f3873 H locs w => ?_)
  have w : xW G A s [((a 1), .inr (7, [.ref (a 2), .ref (a 4)])), ((a 2), .inr (6, [.ref (a 3), .int 0])), ((a 3), .inl (cy 1, 24, .inl (fun _ => 0))), ((a 4), .inr (6, [.ref (a 5), .int 0])), ((a 5), .inl (cy 1, 24, .inl (fun _ => 0))), ((a 6), .inr (6, [.ref (a 7), .int 0])), ((a 7), .inl (cy 1, 24, .inl (fun _ => 0))), ((a 8), .inr (5, [.ref (a 9), .ref (a 11), .ref (a 13), .int 0])), ((a 9), .inr (6, [.ref (a 10), .int 0])), ((a 10), .inl (cy 1, 624, .inl (fun _ => 0))), ((a 11), .inr (6, [.ref (a 12), .int 0])), ((a 12), .inl (cy 1, 624, .inl (fun _ => 0))), ((a 13), .inr (6, [.ref (a 14), .int 0])), ((a 14), .inl (cy 1, 12, .inl (fun _ => 0))), ((a 15), .inr (7, [.ref (a 16), .ref (a 18)])), ((a 16), .inr (6, [.ref (a 17), .int 0])), ((a 17), .inl (cy 1, 24, .inl (fun _ => 0))), ((a 18), .inr (6, [.ref (a 19), .int 0])), ((a 19), .inl (cy 1, 24, .inl (fun _ => 0))), ((a 21), .inr (4, [.int 0, .int 0, .int 0])), ((a 22), .inr (4, [.int 0, .int 0, .int 0])), ((a 24), .inr (6, [.ref (a 25), .int 0])), ((a 25), .inl (cy 1, 24, .inl (fun _ => 0))), ((a 26), .inr (7, [.ref (a 27), .ref (a 29)])), ((a 27), .inr (6, [.ref (a 28), .int 0])), ((a 28), .inl (cy 1, 24, .inl (fun _ => 0))), ((a 29), .inr (6, [.ref (a 30), .int 0])), ((a 30), .inl (cy 1, 24, .inl (fun _ => 0))), ((a 31), .inr (10, [.ref (a 32), .ref (a 33), .ref (a 34), .ref (a 35), .ref (a 36), .ref (a 37), .ref (a 38), .int 0, .int 0])), ((a 32), .inr (3, [.int 0, .ref (sv 0), .int 0])), ((a 33), .inr (3, [.int 0, .ref (sv 0), .int 0])), ((a 34), .inr (3, [.int 0, .ref (sv 0), .int 0])), ((a 35), .inr (3, [.int 0, .ref (sv 0), .int 0])), ((a 36), .inl (cy 2, 3, .inl (fun _ => 0))), ((a 37), .inl (cy 1, 3, .inl (fun _ => 0))), ((a 38), .inl (cy 1, 3, .inl (fun _ => 0))), ((a 0), .inr (8, [.ref (a 1), .ref (a 6), .ref (a 8), .ref (a 15), .ref (a 20), .int 0, .ref (a 24), .ref (a 26)])), ((a 20), .inl (cy 3, 3, .inr (.inr (.inr (.inr (va_up (va_up (va_up (fun _ => none) 0 (some (a 21))) 1 (some (a 22))) 2 (some (a 23)))))))), ((a 23), .inr (4, [.int 0, .int 0, .int 0])), ((a 39), .inr (9, [.long 0, .null]))] H _ := w
  refine lv_istore (lv' := [(5, .int 0), (4, .int 0), (3, .ref (a 39)), (2, .ref (a 31)), (1, .ref (a 0)), (0, .ref b)]) C.1 C.2.1 dL_law_2269 hl (by decide) rfl (fun ls hl => ?_)
  refine lv_aload_n C.1 C.2.1 dL_law_2271 rfl (lv_at hl 3 rfl) ?_
  refine lv_aload_n C.1 C.2.1 dL_law_2272 rfl (lv_at hl 5 rfl) ?_
  refine lv_iload C.1 C.2.1 dL_law_2273 (lv_at hl 1 rfl) ?_
  refine lv_iconst (v := 1) C.1 C.2.1 dL_law_2275 (by decide) ?_
  refine lv_iadd C.1 C.2.1 dL_law_2276 ?_
  refine x_is (y := 1) (by decide) ?_
  refine va_sld C.1 C.2.1 hX hbl hbA w.2.2 (xvin (by decide)) dL_law_2277 ?_
  refine x_is (y := 2) (show xs 1 = 2 from hs1) ?_
  refine lv_aload_n C.1 C.2.1 dL_law_2278 rfl (lv_at hl 5 rfl) ?_
  refine lv_iload C.1 C.2.1 dL_law_2279 (lv_at hl 1 rfl) ?_
  refine lv_iconst (v := 2) C.1 C.2.1 dL_law_2281 (by decide) ?_
  refine lv_iadd C.1 C.2.1 dL_law_2282 ?_
  refine x_is (y := 2) (by decide) ?_
  refine va_sld C.1 C.2.1 hX hbl hbA w.2.2 (xvin (by decide)) dL_law_2283 ?_
  refine x_is (y := 0) (show xs 2 = 0 from hs2) ?_
  refine x_ki C w [28, 35] [0, 1, 2, 3, 4, 5, 6, 7, 8, 9, 10, 11, 12, 13, 14, 15, 16, 17, 18, 19, 20, 21, 22, 23, 24, 25, 26, 27, 29, 30, 31, 32, 33, 34, 36, 37, 38, 39] rfl rfl (by decide) (by decide) (va_runV (As := [.int 2, .int 0]) (rest := []) (xfix C) (c547_X6_ofPager l G cy sa sv (a 31) (a 38) (a 32) (a 33) (a 34) (a 35) (a 36) (a 37) (xtr C) _) (cwV 2 (xhts C) (xgV (maxL := 0) (cc := ⟨#[]⟩) (ret := none) gw_908 gw_909 gw_910 gw_58 gc_X6_ofPager) rfl rfl rfl (by decide +kernel) ⟨(Nat.le_of_ble_eq_true rfl), (Nat.le_of_ble_eq_true rfl)⟩) (xPV C w [28, 35] rfl (by decide) (ci := 10) (q0 := 28) rfl rfl) rfl rfl hl.1 rfl (lv_room (Nat.le_of_ble_eq_true rfl)) dL_law_2284 ⟨(Nat.le_of_ble_eq_true rfl), (Nat.le_of_ble_eq_true rfl)⟩) (fun f3878 H locs w => ?_)
  have w : xW G A s [((a 1), .inr (7, [.ref (a 2), .ref (a 4)])), ((a 2), .inr (6, [.ref (a 3), .int 0])), ((a 3), .inl (cy 1, 24, .inl (fun _ => 0))), ((a 4), .inr (6, [.ref (a 5), .int 0])), ((a 5), .inl (cy 1, 24, .inl (fun _ => 0))), ((a 6), .inr (6, [.ref (a 7), .int 0])), ((a 7), .inl (cy 1, 24, .inl (fun _ => 0))), ((a 8), .inr (5, [.ref (a 9), .ref (a 11), .ref (a 13), .int 0])), ((a 9), .inr (6, [.ref (a 10), .int 0])), ((a 10), .inl (cy 1, 624, .inl (fun _ => 0))), ((a 11), .inr (6, [.ref (a 12), .int 0])), ((a 12), .inl (cy 1, 624, .inl (fun _ => 0))), ((a 13), .inr (6, [.ref (a 14), .int 0])), ((a 14), .inl (cy 1, 12, .inl (fun _ => 0))), ((a 15), .inr (7, [.ref (a 16), .ref (a 18)])), ((a 16), .inr (6, [.ref (a 17), .int 0])), ((a 17), .inl (cy 1, 24, .inl (fun _ => 0))), ((a 18), .inr (6, [.ref (a 19), .int 0])), ((a 19), .inl (cy 1, 24, .inl (fun _ => 0))), ((a 21), .inr (4, [.int 0, .int 0, .int 0])), ((a 22), .inr (4, [.int 0, .int 0, .int 0])), ((a 24), .inr (6, [.ref (a 25), .int 0])), ((a 25), .inl (cy 1, 24, .inl (fun _ => 0))), ((a 26), .inr (7, [.ref (a 27), .ref (a 29)])), ((a 27), .inr (6, [.ref (a 28), .int 0])), ((a 28), .inl (cy 1, 24, .inl (fun _ => 0))), ((a 29), .inr (6, [.ref (a 30), .int 0])), ((a 30), .inl (cy 1, 24, .inl (fun _ => 0))), ((a 32), .inr (3, [.int 0, .ref (sv 0), .int 0])), ((a 33), .inr (3, [.int 0, .ref (sv 0), .int 0])), ((a 34), .inr (3, [.int 0, .ref (sv 0), .int 0])), ((a 35), .inr (3, [.int 0, .ref (sv 0), .int 0])), ((a 36), .inl (cy 2, 3, .inl (fun _ => 0))), ((a 37), .inl (cy 1, 3, .inl (fun _ => 0))), ((a 0), .inr (8, [.ref (a 1), .ref (a 6), .ref (a 8), .ref (a 15), .ref (a 20), .int 0, .ref (a 24), .ref (a 26)])), ((a 20), .inl (cy 3, 3, .inr (.inr (.inr (.inr (va_up (va_up (va_up (fun _ => none) 0 (some (a 21))) 1 (some (a 22))) 2 (some (a 23)))))))), ((a 23), .inr (4, [.int 0, .int 0, .int 0])), ((a 39), .inr (9, [.long 0, .null])), ((a 31), .inr (10, [.ref (a 32), .ref (a 33), .ref (a 34), .ref (a 35), .ref (a 36), .ref (a 37), .ref (a 38), .int 0, .int 0])), ((a 38), .inl (cy 1, 3, .inl (fun _ => 0)))] H _ := w
  refine lv_istore (lv' := [(6, .int 0), (5, .int 0), (4, .int 0), (3, .ref (a 39)), (2, .ref (a 31)), (1, .ref (a 0)), (0, .ref b)]) C.1 C.2.1 dL_law_2287 hl (by decide) rfl (fun ls hl => ?_)
  refine lv_aload_n C.1 C.2.1 dL_law_2289 rfl (lv_at hl 4 rfl) ?_
  refine x_ki C w [38] [0, 1, 2, 3, 4, 5, 6, 7, 8, 9, 10, 11, 12, 13, 14, 15, 16, 17, 18, 19, 20, 21, 22, 23, 24, 25, 26, 27, 28, 29, 30, 31, 32, 33, 34, 35, 36, 37, 39] rfl rfl (by decide) (by decide) (va_runV (As := []) (rest := []) (xfix C) (c66_X6_thrown l G cy sa sv (a 31) (a 32) (a 33) (a 34) (a 35) (a 36) (a 37) (a 38) (xtr C) _) (cwV 0 (xhts C) (xgV (maxL := 0) (cc := ⟨#[]⟩) (ret := none) gw_122 gw_123 gw_124 gw_58 gc_X6_thrown) rfl rfl rfl (by decide +kernel) ⟨(Nat.le_of_ble_eq_true rfl), (Nat.le_of_ble_eq_true rfl)⟩) (xPV C w [38] rfl (by decide) (ci := 10) (q0 := 38) rfl rfl) rfl rfl hl.1 rfl (lv_room (Nat.le_of_ble_eq_true rfl)) dL_law_2290 ⟨(Nat.le_of_ble_eq_true rfl), (Nat.le_of_ble_eq_true rfl)⟩) (fun f3879 H locs w => ?_)
  have w : xW G A s [((a 1), .inr (7, [.ref (a 2), .ref (a 4)])), ((a 2), .inr (6, [.ref (a 3), .int 0])), ((a 3), .inl (cy 1, 24, .inl (fun _ => 0))), ((a 4), .inr (6, [.ref (a 5), .int 0])), ((a 5), .inl (cy 1, 24, .inl (fun _ => 0))), ((a 6), .inr (6, [.ref (a 7), .int 0])), ((a 7), .inl (cy 1, 24, .inl (fun _ => 0))), ((a 8), .inr (5, [.ref (a 9), .ref (a 11), .ref (a 13), .int 0])), ((a 9), .inr (6, [.ref (a 10), .int 0])), ((a 10), .inl (cy 1, 624, .inl (fun _ => 0))), ((a 11), .inr (6, [.ref (a 12), .int 0])), ((a 12), .inl (cy 1, 624, .inl (fun _ => 0))), ((a 13), .inr (6, [.ref (a 14), .int 0])), ((a 14), .inl (cy 1, 12, .inl (fun _ => 0))), ((a 15), .inr (7, [.ref (a 16), .ref (a 18)])), ((a 16), .inr (6, [.ref (a 17), .int 0])), ((a 17), .inl (cy 1, 24, .inl (fun _ => 0))), ((a 18), .inr (6, [.ref (a 19), .int 0])), ((a 19), .inl (cy 1, 24, .inl (fun _ => 0))), ((a 21), .inr (4, [.int 0, .int 0, .int 0])), ((a 22), .inr (4, [.int 0, .int 0, .int 0])), ((a 24), .inr (6, [.ref (a 25), .int 0])), ((a 25), .inl (cy 1, 24, .inl (fun _ => 0))), ((a 26), .inr (7, [.ref (a 27), .ref (a 29)])), ((a 27), .inr (6, [.ref (a 28), .int 0])), ((a 28), .inl (cy 1, 24, .inl (fun _ => 0))), ((a 29), .inr (6, [.ref (a 30), .int 0])), ((a 30), .inl (cy 1, 24, .inl (fun _ => 0))), ((a 32), .inr (3, [.int 0, .ref (sv 0), .int 0])), ((a 33), .inr (3, [.int 0, .ref (sv 0), .int 0])), ((a 34), .inr (3, [.int 0, .ref (sv 0), .int 0])), ((a 35), .inr (3, [.int 0, .ref (sv 0), .int 0])), ((a 36), .inl (cy 2, 3, .inl (fun _ => 0))), ((a 37), .inl (cy 1, 3, .inl (fun _ => 0))), ((a 0), .inr (8, [.ref (a 1), .ref (a 6), .ref (a 8), .ref (a 15), .ref (a 20), .int 0, .ref (a 24), .ref (a 26)])), ((a 20), .inl (cy 3, 3, .inr (.inr (.inr (.inr (va_up (va_up (va_up (fun _ => none) 0 (some (a 21))) 1 (some (a 22))) 2 (some (a 23)))))))), ((a 23), .inr (4, [.int 0, .int 0, .int 0])), ((a 39), .inr (9, [.long 0, .null])), ((a 38), .inl (cy 1, 3, .inl (fun _ => 0))), ((a 31), .inr (10, [.ref (a 32), .ref (a 33), .ref (a 34), .ref (a 35), .ref (a 36), .ref (a 37), .ref (a 38), .int 0, .int 0]))] H _ := w
  refine lv_iload C.1 C.2.1 dL_law_2293 (lv_at hl 1 rfl) ?_
  refine lv_icmp_eq (tgt := 2300) C.1 C.2.1 dL_law_2295 (by decide) (fun _ => ?_) (fun c9 => absurd (by decide) c9)
  refine lv_iload C.1 C.2.1 dL_law_2300 (lv_at hl 1 rfl) ?_
  refine lv_if_ne (tgt := 2318) C.1 C.2.1 dL_law_2302 (by decide) (fun c9 => absurd (by decide) c9) (fun _ => ?_)
  refine lv_aload_n C.1 C.2.1 dL_law_2305 rfl (lv_at hl 3 rfl) ?_
  refine x_getN (v := .long 0) C w 37 9 0 (xin_X5 _) rfl rfl (by decide) (xs_f_n (xS C)) rfl rfl dL_law_2306 ?_
  refine lv_iload C.1 C.2.1 dL_law_2309 (lv_at hl 0 rfl) ?_
  refine lv_i2l (v := 0) C.1 C.2.1 dL_law_2311 (by decide) ?_
  refine W.lcmp C.1 C.2.1 dL_law_2312 ?_
  refine x_is (y := 0) (by decide) ?_
  refine lv_if_eq (tgt := 2318) C.1 C.2.1 dL_law_2313 (by decide) (fun _ => ?_) (fun c9 => absurd (by decide) c9)
  refine lv_goto (tgt := 2509) C.1 C.2.1 dL_law_2318 (by decide) ?_
  refine lv_iinc (v := 5) (lv' := [(4, .int 5), (6, .int 0), (5, .int 0), (3, .ref (a 39)), (2, .ref (a 31)), (1, .ref (a 0)), (0, .ref b)]) C.1 C.2.1 dL_law_2509 hl (k := 2) rfl (by decide) (by decide) rfl (fun ls hl => ?_)
  refine lv_goto (tgt := 27) C.1 C.2.1 dL_law_2512 (by decide) ?_
  refine lv_iload C.1 C.2.1 dL_law_27 (lv_at hl 0 rfl) ?_
  refine lv_aload_n C.1 C.2.1 dL_law_29 rfl (lv_at hl 6 rfl) ?_
  refine va_slen C.1 C.2.1 hX hbl hbA w.2.2 dL_law_30 ?_
  refine x_is (y := 5) (by decide) ?_
  refine lv_iconst (v := 5) C.1 C.2.1 dL_law_31 (by decide) ?_
  refine lv_isub C.1 C.2.1 dL_law_32 ?_
  refine x_is (y := 0) (by decide) ?_
  refine lv_icmp_gt (tgt := 2515) C.1 C.2.1 dL_law_33 (by decide) (fun _ => ?_) (fun c9 => absurd (by decide) c9)
  refine lv_iconst (v := 1) C.1 C.2.1 dL_law_2515 (by decide) ?_
  refine va_forget (fun q hq => hAl _ (w.2.2.2.2 q hq)) ?_
  refine W.widen (k := 600002) (n := 7302232) (Nat.le_of_ble_eq_true rfl) (Nat.le_of_ble_eq_true rfl) ?_
  exact lw_ret C.1 C.2.1 hr (xlk C) dL_law_2516
set_option maxHeartbeats 8000000 in
set_option maxRecDepth 100000 in
theorem law_38f21_112 {p : Program} {e : Env} {s : State} {m : MethodId} {below : List Frame} {meth : Method} {c : Code} {l : Launch} {G : va_G} {cy : Nat → ClassId} {sa : String → Nat → Nat} {sv : Nat → Nat} {A : Nat → Prop} {b : Nat} {xs : Nat → Int32} {a : Nat → Nat} {H : Heap} {locs : List Loc} {ls : Array Slot} (C : xC p l s m #[Value.ref b] meth c code 7 "TwinindexLaw" (Cond.initialized "TwinindexLaw" :: XG) G cy sa sv A) (hr : meth.sig.returnType = ret) (hX : va_X b 5 xs s s.heap) (hbl : b < s.heap.size) (hbA : ¬ A b) (hAl : ∀ q, A q → s.heap.size ≤ q) (w : xW G A s (xW0 cy sv a) H locs) (hl : lv_has ls 7 [(4, .int 0), (3, .ref (a 39)), (2, .ref (a 31)), (1, .ref (a 0)), (0, .ref b)]) (hk : ((xs 0) &&& 63) = 38) (hs1 : xs 1 = 2) (hs2 : xs 2 = 1) : W p l e room_1 s m #[Value.ref b] below meth c H locs 40 1536 (lw_Z below #[Value.ref b] s) (F0 m 27 ls []) := by
  have w : xW G A s [((a 0), .inr (8, [.ref (a 1), .ref (a 6), .ref (a 8), .ref (a 15), .ref (a 20), .int 0, .ref (a 24), .ref (a 26)])), ((a 1), .inr (7, [.ref (a 2), .ref (a 4)])), ((a 2), .inr (6, [.ref (a 3), .int 0])), ((a 3), .inl (cy 1, 24, .inl (fun _ => 0))), ((a 4), .inr (6, [.ref (a 5), .int 0])), ((a 5), .inl (cy 1, 24, .inl (fun _ => 0))), ((a 6), .inr (6, [.ref (a 7), .int 0])), ((a 7), .inl (cy 1, 24, .inl (fun _ => 0))), ((a 8), .inr (5, [.ref (a 9), .ref (a 11), .ref (a 13), .int 0])), ((a 9), .inr (6, [.ref (a 10), .int 0])), ((a 10), .inl (cy 1, 624, .inl (fun _ => 0))), ((a 11), .inr (6, [.ref (a 12), .int 0])), ((a 12), .inl (cy 1, 624, .inl (fun _ => 0))), ((a 13), .inr (6, [.ref (a 14), .int 0])), ((a 14), .inl (cy 1, 12, .inl (fun _ => 0))), ((a 15), .inr (7, [.ref (a 16), .ref (a 18)])), ((a 16), .inr (6, [.ref (a 17), .int 0])), ((a 17), .inl (cy 1, 24, .inl (fun _ => 0))), ((a 18), .inr (6, [.ref (a 19), .int 0])), ((a 19), .inl (cy 1, 24, .inl (fun _ => 0))), ((a 20), .inl (cy 3, 3, .inr (.inr (.inr (.inr (va_up (va_up (va_up (fun _ => none) 0 (some (a 21))) 1 (some (a 22))) 2 (some (a 23)))))))), ((a 21), .inr (4, [.int 0, .int 0, .int 0])), ((a 22), .inr (4, [.int 0, .int 0, .int 0])), ((a 23), .inr (4, [.int 0, .int 0, .int 0])), ((a 24), .inr (6, [.ref (a 25), .int 0])), ((a 25), .inl (cy 1, 24, .inl (fun _ => 0))), ((a 26), .inr (7, [.ref (a 27), .ref (a 29)])), ((a 27), .inr (6, [.ref (a 28), .int 0])), ((a 28), .inl (cy 1, 24, .inl (fun _ => 0))), ((a 29), .inr (6, [.ref (a 30), .int 0])), ((a 30), .inl (cy 1, 24, .inl (fun _ => 0))), ((a 31), .inr (10, [.ref (a 32), .ref (a 33), .ref (a 34), .ref (a 35), .ref (a 36), .ref (a 37), .ref (a 38), .int 0, .int 0])), ((a 32), .inr (3, [.int 0, .ref (sv 0), .int 0])), ((a 33), .inr (3, [.int 0, .ref (sv 0), .int 0])), ((a 34), .inr (3, [.int 0, .ref (sv 0), .int 0])), ((a 35), .inr (3, [.int 0, .ref (sv 0), .int 0])), ((a 36), .inl (cy 2, 3, .inl (fun _ => 0))), ((a 37), .inl (cy 1, 3, .inl (fun _ => 0))), ((a 38), .inl (cy 1, 3, .inl (fun _ => 0))), ((a 39), .inr (9, [.long 0, .null]))] H _ := w
  refine lv_iload C.1 C.2.1 dL_law_27 (lv_at hl 0 rfl) ?_
  refine lv_aload_n C.1 C.2.1 dL_law_29 rfl (lv_at hl 4 rfl) ?_
  refine va_slen C.1 C.2.1 hX hbl hbA w.2.2 dL_law_30 ?_
  refine x_is (y := 5) (by decide) ?_
  refine lv_iconst (v := 5) C.1 C.2.1 dL_law_31 (by decide) ?_
  refine lv_isub C.1 C.2.1 dL_law_32 ?_
  refine x_is (y := 0) (by decide) ?_
  refine lv_icmp_gt (tgt := 2515) C.1 C.2.1 dL_law_33 (by decide) (fun c9 => absurd c9 (by decide)) (fun _ => ?_)
  refine lv_aload_n C.1 C.2.1 dL_law_36 rfl (lv_at hl 4 rfl) ?_
  refine lv_iload C.1 C.2.1 dL_law_37 (lv_at hl 0 rfl) ?_
  refine va_sld C.1 C.2.1 hX hbl hbA w.2.2 (xvin (by decide)) dL_law_39 ?_
  refine x_is (y := (xs 0)) (by rfl) ?_
  refine lv_bipush (v := 63) C.1 C.2.1 dL_law_40 (by decide) ?_
  refine lv_iand C.1 C.2.1 dL_law_42 ?_
  refine x_is (y := 38) hk ?_
  refine lv_tableIn (off := 2209) (tgt := 2252) C.1 C.2.1 dL_law_43 (by decide) (by decide) (by decide) (by decide) ?_
  refine lv_aload_n C.1 C.2.1 dL_law_2252 rfl (lv_at hl 3 rfl) ?_
  refine lv_aload_n C.1 C.2.1 dL_law_2253 rfl (lv_at hl 4 rfl) ?_
  refine lv_iload C.1 C.2.1 dL_law_2254 (lv_at hl 0 rfl) ?_
  refine lv_iconst (v := 1) C.1 C.2.1 dL_law_2256 (by decide) ?_
  refine lv_iadd C.1 C.2.1 dL_law_2257 ?_
  refine x_is (y := 1) (by decide) ?_
  refine va_sld C.1 C.2.1 hX hbl hbA w.2.2 (xvin (by decide)) dL_law_2258 ?_
  refine x_is (y := 2) (show xs 1 = 2 from hs1) ?_
  refine lv_aload_n C.1 C.2.1 dL_law_2259 rfl (lv_at hl 4 rfl) ?_
  refine lv_iload C.1 C.2.1 dL_law_2260 (lv_at hl 0 rfl) ?_
  refine lv_iconst (v := 2) C.1 C.2.1 dL_law_2262 (by decide) ?_
  refine lv_iadd C.1 C.2.1 dL_law_2263 ?_
  refine x_is (y := 2) (by decide) ?_
  refine va_sld C.1 C.2.1 hX hbl hbA w.2.2 (xvin (by decide)) dL_law_2264 ?_
  refine x_is (y := 1) (show xs 2 = 1 from hs2) ?_
  refine lv_aload_n C.1 C.2.1 dL_law_2265 rfl (lv_at hl 1 rfl) ?_
  refine x_ki C w [0, 20, 1, 2, 23, 39] [3, 4, 5, 6, 7, 8, 9, 10, 11, 12, 13, 14, 15, 16, 17, 18, 19, 21, 22, 24, 25, 26, 27, 28, 29, 30, 31, 32, 33, 34, 35, 36, 37, 38] rfl rfl (by decide) (by decide) (vx_runSW (As := [.ref (a 0), .int 2, .int 1, .ref (a 39)]) (rest := []) (xfix C) (c549_L_ofPager l G cy sa sv (a 0) (a 39) (a 20) (a 1) (a 2) (a 23) (a 6) (a 8) (a 15) (a 24) (a 26) (a 21) (a 22) (a 4) (a 3) (xtr C) _) (vx_cwSW 4 (xhts C) (xgS gw_901 gw_902 gw_106 gc_L_ofPager) rfl rfl rfl (by decide +kernel) ⟨(Nat.le_of_ble_eq_true rfl), (Nat.le_of_ble_eq_true rfl)⟩) (xPS C w [0, 20, 1, 2, 23, 39] rfl (by decide)) rfl rfl hl.1 rfl (lv_room (Nat.le_of_ble_eq_true rfl)) dL_law_2266 ⟨(Nat.le_of_ble_eq_true rfl), (Nat.le_of_ble_eq_true rfl)⟩) (fun f3889 H locs w => ?_)
  have w : xW G A s [((a 3), .inl (cy 1, 24, .inl (fun _ => 0))), ((a 4), .inr (6, [.ref (a 5), .int 0])), ((a 5), .inl (cy 1, 24, .inl (fun _ => 0))), ((a 6), .inr (6, [.ref (a 7), .int 0])), ((a 7), .inl (cy 1, 24, .inl (fun _ => 0))), ((a 8), .inr (5, [.ref (a 9), .ref (a 11), .ref (a 13), .int 0])), ((a 9), .inr (6, [.ref (a 10), .int 0])), ((a 10), .inl (cy 1, 624, .inl (fun _ => 0))), ((a 11), .inr (6, [.ref (a 12), .int 0])), ((a 12), .inl (cy 1, 624, .inl (fun _ => 0))), ((a 13), .inr (6, [.ref (a 14), .int 0])), ((a 14), .inl (cy 1, 12, .inl (fun _ => 0))), ((a 15), .inr (7, [.ref (a 16), .ref (a 18)])), ((a 16), .inr (6, [.ref (a 17), .int 0])), ((a 17), .inl (cy 1, 24, .inl (fun _ => 0))), ((a 18), .inr (6, [.ref (a 19), .int 0])), ((a 19), .inl (cy 1, 24, .inl (fun _ => 0))), ((a 21), .inr (4, [.int 0, .int 0, .int 0])), ((a 22), .inr (4, [.int 0, .int 0, .int 0])), ((a 24), .inr (6, [.ref (a 25), .int 0])), ((a 25), .inl (cy 1, 24, .inl (fun _ => 0))), ((a 26), .inr (7, [.ref (a 27), .ref (a 29)])), ((a 27), .inr (6, [.ref (a 28), .int 0])), ((a 28), .inl (cy 1, 24, .inl (fun _ => 0))), ((a 29), .inr (6, [.ref (a 30), .int 0])), ((a 30), .inl (cy 1, 24, .inl (fun _ => 0))), ((a 31), .inr (10, [.ref (a 32), .ref (a 33), .ref (a 34), .ref (a 35), .ref (a 36), .ref (a 37), .ref (a 38), .int 0, .int 0])), ((a 32), .inr (3, [.int 0, .ref (sv 0), .int 0])), ((a 33), .inr (3, [.int 0, .ref (sv 0), .int 0])), ((a 34), .inr (3, [.int 0, .ref (sv 0), .int 0])), ((a 35), .inr (3, [.int 0, .ref (sv 0), .int 0])), ((a 36), .inl (cy 2, 3, .inl (fun _ => 0))), ((a 37), .inl (cy 1, 3, .inl (fun _ => 0))), ((a 38), .inl (cy 1, 3, .inl (fun _ => 0))), ((a 0), .inr (8, [.ref (a 1), .ref (a 6), .ref (a 8), .ref (a 15), .ref (a 20), .int 0, .ref (a 24), .ref (a 26)])), ((a 20), .inl (cy 3, 3, .inr (.inr (.inr (.inr (va_up (va_up (va_up (fun _ => none) 0 (some (a 21))) 1 (some (a 22))) 2 (some (a 23)))))))), ((a 1), .inr (7, [.ref (a 2), .ref (a 4)])), ((a 2), .inr (6, [.ref (a 3), .int 0])), ((a 23), .inr (4, [.int 0, .int 0, .int 0])), ((a 39), .inr (9, [.long 0, .null]))] H _ := w
  refine lv_istore (lv' := [(5, .int 0), (4, .int 0), (3, .ref (a 39)), (2, .ref (a 31)), (1, .ref (a 0)), (0, .ref b)]) C.1 C.2.1 dL_law_2269 hl (by decide) rfl (fun ls hl => ?_)
  refine lv_aload_n C.1 C.2.1 dL_law_2271 rfl (lv_at hl 3 rfl) ?_
  refine lv_aload_n C.1 C.2.1 dL_law_2272 rfl (lv_at hl 5 rfl) ?_
  refine lv_iload C.1 C.2.1 dL_law_2273 (lv_at hl 1 rfl) ?_
  refine lv_iconst (v := 1) C.1 C.2.1 dL_law_2275 (by decide) ?_
  refine lv_iadd C.1 C.2.1 dL_law_2276 ?_
  refine x_is (y := 1) (by decide) ?_
  refine va_sld C.1 C.2.1 hX hbl hbA w.2.2 (xvin (by decide)) dL_law_2277 ?_
  refine x_is (y := 2) (show xs 1 = 2 from hs1) ?_
  refine lv_aload_n C.1 C.2.1 dL_law_2278 rfl (lv_at hl 5 rfl) ?_
  refine lv_iload C.1 C.2.1 dL_law_2279 (lv_at hl 1 rfl) ?_
  refine lv_iconst (v := 2) C.1 C.2.1 dL_law_2281 (by decide) ?_
  refine lv_iadd C.1 C.2.1 dL_law_2282 ?_
  refine x_is (y := 2) (by decide) ?_
  refine va_sld C.1 C.2.1 hX hbl hbA w.2.2 (xvin (by decide)) dL_law_2283 ?_
  refine x_is (y := 1) (show xs 2 = 1 from hs2) ?_
  refine x_ki C w [26, 27] [0, 1, 2, 3, 4, 5, 6, 7, 8, 9, 10, 11, 12, 13, 14, 15, 16, 17, 18, 19, 20, 21, 22, 23, 24, 25, 28, 29, 30, 31, 32, 33, 34, 35, 36, 37, 38, 39] rfl rfl (by decide) (by decide) (va_runV (As := [.int 2, .int 1]) (rest := []) (xfix C) (c551_X6_ofPager l G cy sa sv (a 31) (a 32) (a 33) (a 34) (a 35) (a 36) (a 37) (a 38) (xtr C) _) (cwV 2 (xhts C) (xgV (maxL := 0) (cc := ⟨#[]⟩) (ret := none) gw_908 gw_909 gw_910 gw_58 gc_X6_ofPager) rfl rfl rfl (by decide +kernel) ⟨(Nat.le_of_ble_eq_true rfl), (Nat.le_of_ble_eq_true rfl)⟩) (xPV C w [26, 27] rfl (by decide) (ci := 10) (q0 := 26) rfl rfl) rfl rfl hl.1 rfl (lv_room (Nat.le_of_ble_eq_true rfl)) dL_law_2284 ⟨(Nat.le_of_ble_eq_true rfl), (Nat.le_of_ble_eq_true rfl)⟩) (fun f3950 H locs w => ?_)
  have w : xW G A s [((a 3), .inl (cy 1, 24, .inl (fun _ => 0))), ((a 4), .inr (6, [.ref (a 5), .int 0])), ((a 5), .inl (cy 1, 24, .inl (fun _ => 0))), ((a 6), .inr (6, [.ref (a 7), .int 0])), ((a 7), .inl (cy 1, 24, .inl (fun _ => 0))), ((a 8), .inr (5, [.ref (a 9), .ref (a 11), .ref (a 13), .int 0])), ((a 9), .inr (6, [.ref (a 10), .int 0])), ((a 10), .inl (cy 1, 624, .inl (fun _ => 0))), ((a 11), .inr (6, [.ref (a 12), .int 0])), ((a 12), .inl (cy 1, 624, .inl (fun _ => 0))), ((a 13), .inr (6, [.ref (a 14), .int 0])), ((a 14), .inl (cy 1, 12, .inl (fun _ => 0))), ((a 15), .inr (7, [.ref (a 16), .ref (a 18)])), ((a 16), .inr (6, [.ref (a 17), .int 0])), ((a 17), .inl (cy 1, 24, .inl (fun _ => 0))), ((a 18), .inr (6, [.ref (a 19), .int 0])), ((a 19), .inl (cy 1, 24, .inl (fun _ => 0))), ((a 21), .inr (4, [.int 0, .int 0, .int 0])), ((a 22), .inr (4, [.int 0, .int 0, .int 0])), ((a 24), .inr (6, [.ref (a 25), .int 0])), ((a 25), .inl (cy 1, 24, .inl (fun _ => 0))), ((a 26), .inr (7, [.ref (a 27), .ref (a 29)])), ((a 27), .inr (6, [.ref (a 28), .int 0])), ((a 28), .inl (cy 1, 24, .inl (fun _ => 0))), ((a 29), .inr (6, [.ref (a 30), .int 0])), ((a 30), .inl (cy 1, 24, .inl (fun _ => 0))), ((a 33), .inr (3, [.int 0, .ref (sv 0), .int 0])), ((a 34), .inr (3, [.int 0, .ref (sv 0), .int 0])), ((a 35), .inr (3, [.int 0, .ref (sv 0), .int 0])), ((a 36), .inl (cy 2, 3, .inl (fun _ => 0))), ((a 37), .inl (cy 1, 3, .inl (fun _ => 0))), ((a 38), .inl (cy 1, 3, .inl (fun _ => 0))), ((a 0), .inr (8, [.ref (a 1), .ref (a 6), .ref (a 8), .ref (a 15), .ref (a 20), .int 0, .ref (a 24), .ref (a 26)])), ((a 20), .inl (cy 3, 3, .inr (.inr (.inr (.inr (va_up (va_up (va_up (fun _ => none) 0 (some (a 21))) 1 (some (a 22))) 2 (some (a 23)))))))), ((a 1), .inr (7, [.ref (a 2), .ref (a 4)])), ((a 2), .inr (6, [.ref (a 3), .int 0])), ((a 23), .inr (4, [.int 0, .int 0, .int 0])), ((a 39), .inr (9, [.long 0, .null])), ((a 31), .inr (10, [.ref (a 32), .ref (a 33), .ref (a 34), .ref (a 35), .ref (a 36), .ref (a 37), .ref (a 38), .int 0, .int 0])), ((a 32), .inr (3, [.int 0, .ref (sv 0), .int 0]))] H _ := w
  refine W.widen (k := 44) (n := 1546) (Nat.le_of_ble_eq_true rfl) (Nat.le_of_ble_eq_true rfl) ?_
  refine lv_istore (lv' := [(6, .int 0), (5, .int 0), (4, .int 0), (3, .ref (a 39)), (2, .ref (a 31)), (1, .ref (a 0)), (0, .ref b)]) C.1 C.2.1 dL_law_2287 hl (by decide) rfl (fun ls hl => ?_)
  refine lv_aload_n C.1 C.2.1 dL_law_2289 rfl (lv_at hl 4 rfl) ?_
  refine x_ki C w [38] [0, 1, 2, 3, 4, 5, 6, 7, 8, 9, 10, 11, 12, 13, 14, 15, 16, 17, 18, 19, 20, 21, 22, 23, 24, 25, 26, 27, 28, 29, 30, 31, 32, 33, 34, 35, 36, 37, 39] rfl rfl (by decide) (by decide) (va_runV (As := []) (rest := []) (xfix C) (c66_X6_thrown l G cy sa sv (a 31) (a 32) (a 33) (a 34) (a 35) (a 36) (a 37) (a 38) (xtr C) _) (cwV 0 (xhts C) (xgV (maxL := 0) (cc := ⟨#[]⟩) (ret := none) gw_122 gw_123 gw_124 gw_58 gc_X6_thrown) rfl rfl rfl (by decide +kernel) ⟨(Nat.le_of_ble_eq_true rfl), (Nat.le_of_ble_eq_true rfl)⟩) (xPV C w [38] rfl (by decide) (ci := 10) (q0 := 38) rfl rfl) rfl rfl hl.1 rfl (lv_room (Nat.le_of_ble_eq_true rfl)) dL_law_2290 ⟨(Nat.le_of_ble_eq_true rfl), (Nat.le_of_ble_eq_true rfl)⟩) (fun f3951 H locs w => ?_)
  have w : xW G A s [((a 3), .inl (cy 1, 24, .inl (fun _ => 0))), ((a 4), .inr (6, [.ref (a 5), .int 0])), ((a 5), .inl (cy 1, 24, .inl (fun _ => 0))), ((a 6), .inr (6, [.ref (a 7), .int 0])), ((a 7), .inl (cy 1, 24, .inl (fun _ => 0))), ((a 8), .inr (5, [.ref (a 9), .ref (a 11), .ref (a 13), .int 0])), ((a 9), .inr (6, [.ref (a 10), .int 0])), ((a 10), .inl (cy 1, 624, .inl (fun _ => 0))), ((a 11), .inr (6, [.ref (a 12), .int 0])), ((a 12), .inl (cy 1, 624, .inl (fun _ => 0))), ((a 13), .inr (6, [.ref (a 14), .int 0])), ((a 14), .inl (cy 1, 12, .inl (fun _ => 0))), ((a 15), .inr (7, [.ref (a 16), .ref (a 18)])), ((a 16), .inr (6, [.ref (a 17), .int 0])), ((a 17), .inl (cy 1, 24, .inl (fun _ => 0))), ((a 18), .inr (6, [.ref (a 19), .int 0])), ((a 19), .inl (cy 1, 24, .inl (fun _ => 0))), ((a 21), .inr (4, [.int 0, .int 0, .int 0])), ((a 22), .inr (4, [.int 0, .int 0, .int 0])), ((a 24), .inr (6, [.ref (a 25), .int 0])), ((a 25), .inl (cy 1, 24, .inl (fun _ => 0))), ((a 26), .inr (7, [.ref (a 27), .ref (a 29)])), ((a 27), .inr (6, [.ref (a 28), .int 0])), ((a 28), .inl (cy 1, 24, .inl (fun _ => 0))), ((a 29), .inr (6, [.ref (a 30), .int 0])), ((a 30), .inl (cy 1, 24, .inl (fun _ => 0))), ((a 33), .inr (3, [.int 0, .ref (sv 0), .int 0])), ((a 34), .inr (3, [.int 0, .ref (sv 0), .int 0])), ((a 35), .inr (3, [.int 0, .ref (sv 0), .int 0])), ((a 36), .inl (cy 2, 3, .inl (fun _ => 0))), ((a 37), .inl (cy 1, 3, .inl (fun _ => 0))), ((a 38), .inl (cy 1, 3, .inl (fun _ => 0))), ((a 0), .inr (8, [.ref (a 1), .ref (a 6), .ref (a 8), .ref (a 15), .ref (a 20), .int 0, .ref (a 24), .ref (a 26)])), ((a 20), .inl (cy 3, 3, .inr (.inr (.inr (.inr (va_up (va_up (va_up (fun _ => none) 0 (some (a 21))) 1 (some (a 22))) 2 (some (a 23)))))))), ((a 1), .inr (7, [.ref (a 2), .ref (a 4)])), ((a 2), .inr (6, [.ref (a 3), .int 0])), ((a 23), .inr (4, [.int 0, .int 0, .int 0])), ((a 39), .inr (9, [.long 0, .null])), ((a 32), .inr (3, [.int 0, .ref (sv 0), .int 0])), ((a 31), .inr (10, [.ref (a 32), .ref (a 33), .ref (a 34), .ref (a 35), .ref (a 36), .ref (a 37), .ref (a 38), .int 0, .int 0]))] H _ := w
  refine lv_iload C.1 C.2.1 dL_law_2293 (lv_at hl 1 rfl) ?_
  refine lv_icmp_eq (tgt := 2300) C.1 C.2.1 dL_law_2295 (by decide) (fun _ => ?_) (fun c9 => absurd (by decide) c9)
  refine lv_iload C.1 C.2.1 dL_law_2300 (lv_at hl 1 rfl) ?_
  refine lv_if_ne (tgt := 2318) C.1 C.2.1 dL_law_2302 (by decide) (fun c9 => absurd (by decide) c9) (fun _ => ?_)
  refine lv_aload_n C.1 C.2.1 dL_law_2305 rfl (lv_at hl 3 rfl) ?_
  refine x_getN (v := .long 0) C w 37 9 0 (xin_X5 _) rfl rfl (by decide) (xs_f_n (xS C)) rfl rfl dL_law_2306 ?_
  refine lv_iload C.1 C.2.1 dL_law_2309 (lv_at hl 0 rfl) ?_
  refine lv_i2l (v := 0) C.1 C.2.1 dL_law_2311 (by decide) ?_
  refine W.lcmp C.1 C.2.1 dL_law_2312 ?_
  refine x_is (y := 0) (by decide) ?_
  refine lv_if_eq (tgt := 2318) C.1 C.2.1 dL_law_2313 (by decide) (fun _ => ?_) (fun c9 => absurd (by decide) c9)
  refine lv_goto (tgt := 2509) C.1 C.2.1 dL_law_2318 (by decide) ?_
  refine lv_iinc (v := 5) (lv' := [(4, .int 5), (6, .int 0), (5, .int 0), (3, .ref (a 39)), (2, .ref (a 31)), (1, .ref (a 0)), (0, .ref b)]) C.1 C.2.1 dL_law_2509 hl (k := 2) rfl (by decide) (by decide) rfl (fun ls hl => ?_)
  refine lv_goto (tgt := 27) C.1 C.2.1 dL_law_2512 (by decide) ?_
  refine lv_iload C.1 C.2.1 dL_law_27 (lv_at hl 0 rfl) ?_
  refine lv_aload_n C.1 C.2.1 dL_law_29 rfl (lv_at hl 6 rfl) ?_
  refine va_slen C.1 C.2.1 hX hbl hbA w.2.2 dL_law_30 ?_
  refine x_is (y := 5) (by decide) ?_
  refine lv_iconst (v := 5) C.1 C.2.1 dL_law_31 (by decide) ?_
  refine lv_isub C.1 C.2.1 dL_law_32 ?_
  refine x_is (y := 0) (by decide) ?_
  refine lv_icmp_gt (tgt := 2515) C.1 C.2.1 dL_law_33 (by decide) (fun _ => ?_) (fun c9 => absurd (by decide) c9)
  refine lv_iconst (v := 1) C.1 C.2.1 dL_law_2515 (by decide) ?_
  refine va_forget (fun q hq => hAl _ (w.2.2.2.2 q hq)) ?_
  refine W.widen (k := 600002) (n := 7302232) (Nat.le_of_ble_eq_true rfl) (Nat.le_of_ble_eq_true rfl) ?_
  exact lw_ret C.1 C.2.1 hr (xlk C) dL_law_2516
set_option maxHeartbeats 8000000 in
set_option maxRecDepth 100000 in
theorem law_38f22_113 {p : Program} {e : Env} {s : State} {m : MethodId} {below : List Frame} {meth : Method} {c : Code} {l : Launch} {G : va_G} {cy : Nat → ClassId} {sa : String → Nat → Nat} {sv : Nat → Nat} {A : Nat → Prop} {b : Nat} {xs : Nat → Int32} {a : Nat → Nat} {H : Heap} {locs : List Loc} {ls : Array Slot} (C : xC p l s m #[Value.ref b] meth c code 7 "TwinindexLaw" (Cond.initialized "TwinindexLaw" :: XG) G cy sa sv A) (hr : meth.sig.returnType = ret) (hX : va_X b 5 xs s s.heap) (hbl : b < s.heap.size) (hbA : ¬ A b) (hAl : ∀ q, A q → s.heap.size ≤ q) (w : xW G A s (xW0 cy sv a) H locs) (hl : lv_has ls 7 [(4, .int 0), (3, .ref (a 39)), (2, .ref (a 31)), (1, .ref (a 0)), (0, .ref b)]) (hk : ((xs 0) &&& 63) = 38) (hs1 : xs 1 = 2) (hs2 : xs 2 = 2) : W p l e room_1 s m #[Value.ref b] below meth c H locs 40 1536 (lw_Z below #[Value.ref b] s) (F0 m 27 ls []) := by
  have w : xW G A s [((a 0), .inr (8, [.ref (a 1), .ref (a 6), .ref (a 8), .ref (a 15), .ref (a 20), .int 0, .ref (a 24), .ref (a 26)])), ((a 1), .inr (7, [.ref (a 2), .ref (a 4)])), ((a 2), .inr (6, [.ref (a 3), .int 0])), ((a 3), .inl (cy 1, 24, .inl (fun _ => 0))), ((a 4), .inr (6, [.ref (a 5), .int 0])), ((a 5), .inl (cy 1, 24, .inl (fun _ => 0))), ((a 6), .inr (6, [.ref (a 7), .int 0])), ((a 7), .inl (cy 1, 24, .inl (fun _ => 0))), ((a 8), .inr (5, [.ref (a 9), .ref (a 11), .ref (a 13), .int 0])), ((a 9), .inr (6, [.ref (a 10), .int 0])), ((a 10), .inl (cy 1, 624, .inl (fun _ => 0))), ((a 11), .inr (6, [.ref (a 12), .int 0])), ((a 12), .inl (cy 1, 624, .inl (fun _ => 0))), ((a 13), .inr (6, [.ref (a 14), .int 0])), ((a 14), .inl (cy 1, 12, .inl (fun _ => 0))), ((a 15), .inr (7, [.ref (a 16), .ref (a 18)])), ((a 16), .inr (6, [.ref (a 17), .int 0])), ((a 17), .inl (cy 1, 24, .inl (fun _ => 0))), ((a 18), .inr (6, [.ref (a 19), .int 0])), ((a 19), .inl (cy 1, 24, .inl (fun _ => 0))), ((a 20), .inl (cy 3, 3, .inr (.inr (.inr (.inr (va_up (va_up (va_up (fun _ => none) 0 (some (a 21))) 1 (some (a 22))) 2 (some (a 23)))))))), ((a 21), .inr (4, [.int 0, .int 0, .int 0])), ((a 22), .inr (4, [.int 0, .int 0, .int 0])), ((a 23), .inr (4, [.int 0, .int 0, .int 0])), ((a 24), .inr (6, [.ref (a 25), .int 0])), ((a 25), .inl (cy 1, 24, .inl (fun _ => 0))), ((a 26), .inr (7, [.ref (a 27), .ref (a 29)])), ((a 27), .inr (6, [.ref (a 28), .int 0])), ((a 28), .inl (cy 1, 24, .inl (fun _ => 0))), ((a 29), .inr (6, [.ref (a 30), .int 0])), ((a 30), .inl (cy 1, 24, .inl (fun _ => 0))), ((a 31), .inr (10, [.ref (a 32), .ref (a 33), .ref (a 34), .ref (a 35), .ref (a 36), .ref (a 37), .ref (a 38), .int 0, .int 0])), ((a 32), .inr (3, [.int 0, .ref (sv 0), .int 0])), ((a 33), .inr (3, [.int 0, .ref (sv 0), .int 0])), ((a 34), .inr (3, [.int 0, .ref (sv 0), .int 0])), ((a 35), .inr (3, [.int 0, .ref (sv 0), .int 0])), ((a 36), .inl (cy 2, 3, .inl (fun _ => 0))), ((a 37), .inl (cy 1, 3, .inl (fun _ => 0))), ((a 38), .inl (cy 1, 3, .inl (fun _ => 0))), ((a 39), .inr (9, [.long 0, .null]))] H _ := w
  refine lv_iload C.1 C.2.1 dL_law_27 (lv_at hl 0 rfl) ?_
  refine lv_aload_n C.1 C.2.1 dL_law_29 rfl (lv_at hl 4 rfl) ?_
  refine va_slen C.1 C.2.1 hX hbl hbA w.2.2 dL_law_30 ?_
  refine x_is (y := 5) (by decide) ?_
  refine lv_iconst (v := 5) C.1 C.2.1 dL_law_31 (by decide) ?_
  refine lv_isub C.1 C.2.1 dL_law_32 ?_
  refine x_is (y := 0) (by decide) ?_
  refine lv_icmp_gt (tgt := 2515) C.1 C.2.1 dL_law_33 (by decide) (fun c9 => absurd c9 (by decide)) (fun _ => ?_)
  refine lv_aload_n C.1 C.2.1 dL_law_36 rfl (lv_at hl 4 rfl) ?_
  refine lv_iload C.1 C.2.1 dL_law_37 (lv_at hl 0 rfl) ?_
  refine va_sld C.1 C.2.1 hX hbl hbA w.2.2 (xvin (by decide)) dL_law_39 ?_
  refine x_is (y := (xs 0)) (by rfl) ?_
  refine lv_bipush (v := 63) C.1 C.2.1 dL_law_40 (by decide) ?_
  refine lv_iand C.1 C.2.1 dL_law_42 ?_
  refine x_is (y := 38) hk ?_
  refine lv_tableIn (off := 2209) (tgt := 2252) C.1 C.2.1 dL_law_43 (by decide) (by decide) (by decide) (by decide) ?_
  refine lv_aload_n C.1 C.2.1 dL_law_2252 rfl (lv_at hl 3 rfl) ?_
  refine lv_aload_n C.1 C.2.1 dL_law_2253 rfl (lv_at hl 4 rfl) ?_
  refine lv_iload C.1 C.2.1 dL_law_2254 (lv_at hl 0 rfl) ?_
  refine lv_iconst (v := 1) C.1 C.2.1 dL_law_2256 (by decide) ?_
  refine lv_iadd C.1 C.2.1 dL_law_2257 ?_
  refine x_is (y := 1) (by decide) ?_
  refine va_sld C.1 C.2.1 hX hbl hbA w.2.2 (xvin (by decide)) dL_law_2258 ?_
  refine x_is (y := 2) (show xs 1 = 2 from hs1) ?_
  refine lv_aload_n C.1 C.2.1 dL_law_2259 rfl (lv_at hl 4 rfl) ?_
  refine lv_iload C.1 C.2.1 dL_law_2260 (lv_at hl 0 rfl) ?_
  refine lv_iconst (v := 2) C.1 C.2.1 dL_law_2262 (by decide) ?_
  refine lv_iadd C.1 C.2.1 dL_law_2263 ?_
  refine x_is (y := 2) (by decide) ?_
  refine va_sld C.1 C.2.1 hX hbl hbA w.2.2 (xvin (by decide)) dL_law_2264 ?_
  refine x_is (y := 2) (show xs 2 = 2 from hs2) ?_
  refine lv_aload_n C.1 C.2.1 dL_law_2265 rfl (lv_at hl 1 rfl) ?_
  refine x_ki C w [0, 20, 23, 39] [1, 2, 3, 4, 5, 6, 7, 8, 9, 10, 11, 12, 13, 14, 15, 16, 17, 18, 19, 21, 22, 24, 25, 26, 27, 28, 29, 30, 31, 32, 33, 34, 35, 36, 37, 38] rfl rfl (by decide) (by decide) (vx_runSW (As := [.ref (a 0), .int 2, .int 2, .ref (a 39)]) (rest := []) (xfix C) (c553_L_ofPager l G cy sa sv (a 0) (a 39) (a 20) (a 23) (a 1) (a 6) (a 8) (a 15) (a 24) (a 26) (a 21) (a 22) (xtr C) _) (vx_cwSW 4 (xhts C) (xgS gw_901 gw_902 gw_106 gc_L_ofPager) rfl rfl rfl (by decide +kernel) ⟨(Nat.le_of_ble_eq_true rfl), (Nat.le_of_ble_eq_true rfl)⟩) (xPS C w [0, 20, 23, 39] rfl (by decide)) rfl rfl hl.1 rfl (lv_room (Nat.le_of_ble_eq_true rfl)) dL_law_2266 ⟨(Nat.le_of_ble_eq_true rfl), (Nat.le_of_ble_eq_true rfl)⟩) (fun f3954 H locs w => ?_)
  have w : xW G A s [((a 1), .inr (7, [.ref (a 2), .ref (a 4)])), ((a 2), .inr (6, [.ref (a 3), .int 0])), ((a 3), .inl (cy 1, 24, .inl (fun _ => 0))), ((a 4), .inr (6, [.ref (a 5), .int 0])), ((a 5), .inl (cy 1, 24, .inl (fun _ => 0))), ((a 6), .inr (6, [.ref (a 7), .int 0])), ((a 7), .inl (cy 1, 24, .inl (fun _ => 0))), ((a 8), .inr (5, [.ref (a 9), .ref (a 11), .ref (a 13), .int 0])), ((a 9), .inr (6, [.ref (a 10), .int 0])), ((a 10), .inl (cy 1, 624, .inl (fun _ => 0))), ((a 11), .inr (6, [.ref (a 12), .int 0])), ((a 12), .inl (cy 1, 624, .inl (fun _ => 0))), ((a 13), .inr (6, [.ref (a 14), .int 0])), ((a 14), .inl (cy 1, 12, .inl (fun _ => 0))), ((a 15), .inr (7, [.ref (a 16), .ref (a 18)])), ((a 16), .inr (6, [.ref (a 17), .int 0])), ((a 17), .inl (cy 1, 24, .inl (fun _ => 0))), ((a 18), .inr (6, [.ref (a 19), .int 0])), ((a 19), .inl (cy 1, 24, .inl (fun _ => 0))), ((a 21), .inr (4, [.int 0, .int 0, .int 0])), ((a 22), .inr (4, [.int 0, .int 0, .int 0])), ((a 24), .inr (6, [.ref (a 25), .int 0])), ((a 25), .inl (cy 1, 24, .inl (fun _ => 0))), ((a 26), .inr (7, [.ref (a 27), .ref (a 29)])), ((a 27), .inr (6, [.ref (a 28), .int 0])), ((a 28), .inl (cy 1, 24, .inl (fun _ => 0))), ((a 29), .inr (6, [.ref (a 30), .int 0])), ((a 30), .inl (cy 1, 24, .inl (fun _ => 0))), ((a 31), .inr (10, [.ref (a 32), .ref (a 33), .ref (a 34), .ref (a 35), .ref (a 36), .ref (a 37), .ref (a 38), .int 0, .int 0])), ((a 32), .inr (3, [.int 0, .ref (sv 0), .int 0])), ((a 33), .inr (3, [.int 0, .ref (sv 0), .int 0])), ((a 34), .inr (3, [.int 0, .ref (sv 0), .int 0])), ((a 35), .inr (3, [.int 0, .ref (sv 0), .int 0])), ((a 36), .inl (cy 2, 3, .inl (fun _ => 0))), ((a 37), .inl (cy 1, 3, .inl (fun _ => 0))), ((a 38), .inl (cy 1, 3, .inl (fun _ => 0))), ((a 0), .inr (8, [.ref (a 1), .ref (a 6), .ref (a 8), .ref (a 15), .ref (a 20), .int 0, .ref (a 24), .ref (a 26)])), ((a 20), .inl (cy 3, 3, .inr (.inr (.inr (.inr (va_up (va_up (va_up (fun _ => none) 0 (some (a 21))) 1 (some (a 22))) 2 (some (a 23)))))))), ((a 23), .inr (4, [.int 0, .int 0, .int 0])), ((a 39), .inr (9, [.long 0, .null]))] H _ := w
  refine lv_istore (lv' := [(5, .int 0), (4, .int 0), (3, .ref (a 39)), (2, .ref (a 31)), (1, .ref (a 0)), (0, .ref b)]) C.1 C.2.1 dL_law_2269 hl (by decide) rfl (fun ls hl => ?_)
  refine lv_aload_n C.1 C.2.1 dL_law_2271 rfl (lv_at hl 3 rfl) ?_
  refine lv_aload_n C.1 C.2.1 dL_law_2272 rfl (lv_at hl 5 rfl) ?_
  refine lv_iload C.1 C.2.1 dL_law_2273 (lv_at hl 1 rfl) ?_
  refine lv_iconst (v := 1) C.1 C.2.1 dL_law_2275 (by decide) ?_
  refine lv_iadd C.1 C.2.1 dL_law_2276 ?_
  refine x_is (y := 1) (by decide) ?_
  refine va_sld C.1 C.2.1 hX hbl hbA w.2.2 (xvin (by decide)) dL_law_2277 ?_
  refine x_is (y := 2) (show xs 1 = 2 from hs1) ?_
  refine lv_aload_n C.1 C.2.1 dL_law_2278 rfl (lv_at hl 5 rfl) ?_
  refine lv_iload C.1 C.2.1 dL_law_2279 (lv_at hl 1 rfl) ?_
  refine lv_iconst (v := 2) C.1 C.2.1 dL_law_2281 (by decide) ?_
  refine lv_iadd C.1 C.2.1 dL_law_2282 ?_
  refine x_is (y := 2) (by decide) ?_
  refine va_sld C.1 C.2.1 hX hbl hbA w.2.2 (xvin (by decide)) dL_law_2283 ?_
  refine x_is (y := 2) (show xs 2 = 2 from hs2) ?_
  refine x_ki C w [28, 33] [0, 1, 2, 3, 4, 5, 6, 7, 8, 9, 10, 11, 12, 13, 14, 15, 16, 17, 18, 19, 20, 21, 22, 23, 24, 25, 26, 27, 29, 30, 31, 32, 34, 35, 36, 37, 38, 39] rfl rfl (by decide) (by decide) (va_runV (As := [.int 2, .int 2]) (rest := []) (xfix C) (c555_X6_ofPager l G cy sa sv (a 31) (a 36) (a 32) (a 33) (a 34) (a 35) (a 37) (a 38) (xtr C) _) (cwV 2 (xhts C) (xgV (maxL := 0) (cc := ⟨#[]⟩) (ret := none) gw_908 gw_909 gw_910 gw_58 gc_X6_ofPager) rfl rfl rfl (by decide +kernel) ⟨(Nat.le_of_ble_eq_true rfl), (Nat.le_of_ble_eq_true rfl)⟩) (xPV C w [28, 33] rfl (by decide) (ci := 10) (q0 := 28) rfl rfl) rfl rfl hl.1 rfl (lv_room (Nat.le_of_ble_eq_true rfl)) dL_law_2284 ⟨(Nat.le_of_ble_eq_true rfl), (Nat.le_of_ble_eq_true rfl)⟩) (fun f3960 H locs w => ?_)
  have w : xW G A s [((a 1), .inr (7, [.ref (a 2), .ref (a 4)])), ((a 2), .inr (6, [.ref (a 3), .int 0])), ((a 3), .inl (cy 1, 24, .inl (fun _ => 0))), ((a 4), .inr (6, [.ref (a 5), .int 0])), ((a 5), .inl (cy 1, 24, .inl (fun _ => 0))), ((a 6), .inr (6, [.ref (a 7), .int 0])), ((a 7), .inl (cy 1, 24, .inl (fun _ => 0))), ((a 8), .inr (5, [.ref (a 9), .ref (a 11), .ref (a 13), .int 0])), ((a 9), .inr (6, [.ref (a 10), .int 0])), ((a 10), .inl (cy 1, 624, .inl (fun _ => 0))), ((a 11), .inr (6, [.ref (a 12), .int 0])), ((a 12), .inl (cy 1, 624, .inl (fun _ => 0))), ((a 13), .inr (6, [.ref (a 14), .int 0])), ((a 14), .inl (cy 1, 12, .inl (fun _ => 0))), ((a 15), .inr (7, [.ref (a 16), .ref (a 18)])), ((a 16), .inr (6, [.ref (a 17), .int 0])), ((a 17), .inl (cy 1, 24, .inl (fun _ => 0))), ((a 18), .inr (6, [.ref (a 19), .int 0])), ((a 19), .inl (cy 1, 24, .inl (fun _ => 0))), ((a 21), .inr (4, [.int 0, .int 0, .int 0])), ((a 22), .inr (4, [.int 0, .int 0, .int 0])), ((a 24), .inr (6, [.ref (a 25), .int 0])), ((a 25), .inl (cy 1, 24, .inl (fun _ => 0))), ((a 26), .inr (7, [.ref (a 27), .ref (a 29)])), ((a 27), .inr (6, [.ref (a 28), .int 0])), ((a 28), .inl (cy 1, 24, .inl (fun _ => 0))), ((a 29), .inr (6, [.ref (a 30), .int 0])), ((a 30), .inl (cy 1, 24, .inl (fun _ => 0))), ((a 32), .inr (3, [.int 0, .ref (sv 0), .int 0])), ((a 33), .inr (3, [.int 0, .ref (sv 0), .int 0])), ((a 34), .inr (3, [.int 0, .ref (sv 0), .int 0])), ((a 35), .inr (3, [.int 0, .ref (sv 0), .int 0])), ((a 37), .inl (cy 1, 3, .inl (fun _ => 0))), ((a 38), .inl (cy 1, 3, .inl (fun _ => 0))), ((a 0), .inr (8, [.ref (a 1), .ref (a 6), .ref (a 8), .ref (a 15), .ref (a 20), .int 0, .ref (a 24), .ref (a 26)])), ((a 20), .inl (cy 3, 3, .inr (.inr (.inr (.inr (va_up (va_up (va_up (fun _ => none) 0 (some (a 21))) 1 (some (a 22))) 2 (some (a 23)))))))), ((a 23), .inr (4, [.int 0, .int 0, .int 0])), ((a 39), .inr (9, [.long 0, .null])), ((a 31), .inr (10, [.ref (a 32), .ref (a 33), .ref (a 34), .ref (a 35), .ref (a 36), .ref (a 37), .ref (a 38), .int 0, .int 0])), ((a 36), .inl (cy 2, 3, .inl (fun _ => 0)))] H _ := w
  refine lv_istore (lv' := [(6, .int 0), (5, .int 0), (4, .int 0), (3, .ref (a 39)), (2, .ref (a 31)), (1, .ref (a 0)), (0, .ref b)]) C.1 C.2.1 dL_law_2287 hl (by decide) rfl (fun ls hl => ?_)
  refine lv_aload_n C.1 C.2.1 dL_law_2289 rfl (lv_at hl 4 rfl) ?_
  refine x_ki C w [38] [0, 1, 2, 3, 4, 5, 6, 7, 8, 9, 10, 11, 12, 13, 14, 15, 16, 17, 18, 19, 20, 21, 22, 23, 24, 25, 26, 27, 28, 29, 30, 31, 32, 33, 34, 35, 36, 37, 39] rfl rfl (by decide) (by decide) (va_runV (As := []) (rest := []) (xfix C) (c66_X6_thrown l G cy sa sv (a 31) (a 32) (a 33) (a 34) (a 35) (a 36) (a 37) (a 38) (xtr C) _) (cwV 0 (xhts C) (xgV (maxL := 0) (cc := ⟨#[]⟩) (ret := none) gw_122 gw_123 gw_124 gw_58 gc_X6_thrown) rfl rfl rfl (by decide +kernel) ⟨(Nat.le_of_ble_eq_true rfl), (Nat.le_of_ble_eq_true rfl)⟩) (xPV C w [38] rfl (by decide) (ci := 10) (q0 := 38) rfl rfl) rfl rfl hl.1 rfl (lv_room (Nat.le_of_ble_eq_true rfl)) dL_law_2290 ⟨(Nat.le_of_ble_eq_true rfl), (Nat.le_of_ble_eq_true rfl)⟩) (fun f3961 H locs w => ?_)
  have w : xW G A s [((a 1), .inr (7, [.ref (a 2), .ref (a 4)])), ((a 2), .inr (6, [.ref (a 3), .int 0])), ((a 3), .inl (cy 1, 24, .inl (fun _ => 0))), ((a 4), .inr (6, [.ref (a 5), .int 0])), ((a 5), .inl (cy 1, 24, .inl (fun _ => 0))), ((a 6), .inr (6, [.ref (a 7), .int 0])), ((a 7), .inl (cy 1, 24, .inl (fun _ => 0))), ((a 8), .inr (5, [.ref (a 9), .ref (a 11), .ref (a 13), .int 0])), ((a 9), .inr (6, [.ref (a 10), .int 0])), ((a 10), .inl (cy 1, 624, .inl (fun _ => 0))), ((a 11), .inr (6, [.ref (a 12), .int 0])), ((a 12), .inl (cy 1, 624, .inl (fun _ => 0))), ((a 13), .inr (6, [.ref (a 14), .int 0])), ((a 14), .inl (cy 1, 12, .inl (fun _ => 0))), ((a 15), .inr (7, [.ref (a 16), .ref (a 18)])), ((a 16), .inr (6, [.ref (a 17), .int 0])), ((a 17), .inl (cy 1, 24, .inl (fun _ => 0))), ((a 18), .inr (6, [.ref (a 19), .int 0])), ((a 19), .inl (cy 1, 24, .inl (fun _ => 0))), ((a 21), .inr (4, [.int 0, .int 0, .int 0])), ((a 22), .inr (4, [.int 0, .int 0, .int 0])), ((a 24), .inr (6, [.ref (a 25), .int 0])), ((a 25), .inl (cy 1, 24, .inl (fun _ => 0))), ((a 26), .inr (7, [.ref (a 27), .ref (a 29)])), ((a 27), .inr (6, [.ref (a 28), .int 0])), ((a 28), .inl (cy 1, 24, .inl (fun _ => 0))), ((a 29), .inr (6, [.ref (a 30), .int 0])), ((a 30), .inl (cy 1, 24, .inl (fun _ => 0))), ((a 32), .inr (3, [.int 0, .ref (sv 0), .int 0])), ((a 33), .inr (3, [.int 0, .ref (sv 0), .int 0])), ((a 34), .inr (3, [.int 0, .ref (sv 0), .int 0])), ((a 35), .inr (3, [.int 0, .ref (sv 0), .int 0])), ((a 37), .inl (cy 1, 3, .inl (fun _ => 0))), ((a 38), .inl (cy 1, 3, .inl (fun _ => 0))), ((a 0), .inr (8, [.ref (a 1), .ref (a 6), .ref (a 8), .ref (a 15), .ref (a 20), .int 0, .ref (a 24), .ref (a 26)])), ((a 20), .inl (cy 3, 3, .inr (.inr (.inr (.inr (va_up (va_up (va_up (fun _ => none) 0 (some (a 21))) 1 (some (a 22))) 2 (some (a 23)))))))), ((a 23), .inr (4, [.int 0, .int 0, .int 0])), ((a 39), .inr (9, [.long 0, .null])), ((a 36), .inl (cy 2, 3, .inl (fun _ => 0))), ((a 31), .inr (10, [.ref (a 32), .ref (a 33), .ref (a 34), .ref (a 35), .ref (a 36), .ref (a 37), .ref (a 38), .int 0, .int 0]))] H _ := w
  refine lv_iload C.1 C.2.1 dL_law_2293 (lv_at hl 1 rfl) ?_
  refine lv_icmp_eq (tgt := 2300) C.1 C.2.1 dL_law_2295 (by decide) (fun _ => ?_) (fun c9 => absurd (by decide) c9)
  refine lv_iload C.1 C.2.1 dL_law_2300 (lv_at hl 1 rfl) ?_
  refine lv_if_ne (tgt := 2318) C.1 C.2.1 dL_law_2302 (by decide) (fun c9 => absurd (by decide) c9) (fun _ => ?_)
  refine lv_aload_n C.1 C.2.1 dL_law_2305 rfl (lv_at hl 3 rfl) ?_
  refine x_getN (v := .long 0) C w 37 9 0 (xin_X5 _) rfl rfl (by decide) (xs_f_n (xS C)) rfl rfl dL_law_2306 ?_
  refine lv_iload C.1 C.2.1 dL_law_2309 (lv_at hl 0 rfl) ?_
  refine lv_i2l (v := 0) C.1 C.2.1 dL_law_2311 (by decide) ?_
  refine W.lcmp C.1 C.2.1 dL_law_2312 ?_
  refine x_is (y := 0) (by decide) ?_
  refine lv_if_eq (tgt := 2318) C.1 C.2.1 dL_law_2313 (by decide) (fun _ => ?_) (fun c9 => absurd (by decide) c9)
  refine lv_goto (tgt := 2509) C.1 C.2.1 dL_law_2318 (by decide) ?_
  refine lv_iinc (v := 5) (lv' := [(4, .int 5), (6, .int 0), (5, .int 0), (3, .ref (a 39)), (2, .ref (a 31)), (1, .ref (a 0)), (0, .ref b)]) C.1 C.2.1 dL_law_2509 hl (k := 2) rfl (by decide) (by decide) rfl (fun ls hl => ?_)
  refine lv_goto (tgt := 27) C.1 C.2.1 dL_law_2512 (by decide) ?_
  refine lv_iload C.1 C.2.1 dL_law_27 (lv_at hl 0 rfl) ?_
  refine lv_aload_n C.1 C.2.1 dL_law_29 rfl (lv_at hl 6 rfl) ?_
  refine va_slen C.1 C.2.1 hX hbl hbA w.2.2 dL_law_30 ?_
  refine x_is (y := 5) (by decide) ?_
  refine lv_iconst (v := 5) C.1 C.2.1 dL_law_31 (by decide) ?_
  refine lv_isub C.1 C.2.1 dL_law_32 ?_
  refine x_is (y := 0) (by decide) ?_
  refine lv_icmp_gt (tgt := 2515) C.1 C.2.1 dL_law_33 (by decide) (fun _ => ?_) (fun c9 => absurd (by decide) c9)
  refine lv_iconst (v := 1) C.1 C.2.1 dL_law_2515 (by decide) ?_
  refine va_forget (fun q hq => hAl _ (w.2.2.2.2 q hq)) ?_
  refine W.widen (k := 600002) (n := 7302232) (Nat.le_of_ble_eq_true rfl) (Nat.le_of_ble_eq_true rfl) ?_
  exact lw_ret C.1 C.2.1 hr (xlk C) dL_law_2516
set_option maxHeartbeats 8000000 in
set_option maxRecDepth 100000 in
theorem law_38f23_114 {p : Program} {e : Env} {s : State} {m : MethodId} {below : List Frame} {meth : Method} {c : Code} {l : Launch} {G : va_G} {cy : Nat → ClassId} {sa : String → Nat → Nat} {sv : Nat → Nat} {A : Nat → Prop} {b : Nat} {xs : Nat → Int32} {a : Nat → Nat} {H : Heap} {locs : List Loc} {ls : Array Slot} (C : xC p l s m #[Value.ref b] meth c code 7 "TwinindexLaw" (Cond.initialized "TwinindexLaw" :: XG) G cy sa sv A) (hr : meth.sig.returnType = ret) (hX : va_X b 5 xs s s.heap) (hbl : b < s.heap.size) (hbA : ¬ A b) (hAl : ∀ q, A q → s.heap.size ≤ q) (w : xW G A s (xW0 cy sv a) H locs) (hl : lv_has ls 7 [(4, .int 0), (3, .ref (a 39)), (2, .ref (a 31)), (1, .ref (a 0)), (0, .ref b)]) (hk : ((xs 0) &&& 63) = 38) (hs1 : xs 1 = 2) (hs2 : xs 2 = 3) : W p l e room_1 s m #[Value.ref b] below meth c H locs 40 1536 (lw_Z below #[Value.ref b] s) (F0 m 27 ls []) := by
  have w : xW G A s [((a 0), .inr (8, [.ref (a 1), .ref (a 6), .ref (a 8), .ref (a 15), .ref (a 20), .int 0, .ref (a 24), .ref (a 26)])), ((a 1), .inr (7, [.ref (a 2), .ref (a 4)])), ((a 2), .inr (6, [.ref (a 3), .int 0])), ((a 3), .inl (cy 1, 24, .inl (fun _ => 0))), ((a 4), .inr (6, [.ref (a 5), .int 0])), ((a 5), .inl (cy 1, 24, .inl (fun _ => 0))), ((a 6), .inr (6, [.ref (a 7), .int 0])), ((a 7), .inl (cy 1, 24, .inl (fun _ => 0))), ((a 8), .inr (5, [.ref (a 9), .ref (a 11), .ref (a 13), .int 0])), ((a 9), .inr (6, [.ref (a 10), .int 0])), ((a 10), .inl (cy 1, 624, .inl (fun _ => 0))), ((a 11), .inr (6, [.ref (a 12), .int 0])), ((a 12), .inl (cy 1, 624, .inl (fun _ => 0))), ((a 13), .inr (6, [.ref (a 14), .int 0])), ((a 14), .inl (cy 1, 12, .inl (fun _ => 0))), ((a 15), .inr (7, [.ref (a 16), .ref (a 18)])), ((a 16), .inr (6, [.ref (a 17), .int 0])), ((a 17), .inl (cy 1, 24, .inl (fun _ => 0))), ((a 18), .inr (6, [.ref (a 19), .int 0])), ((a 19), .inl (cy 1, 24, .inl (fun _ => 0))), ((a 20), .inl (cy 3, 3, .inr (.inr (.inr (.inr (va_up (va_up (va_up (fun _ => none) 0 (some (a 21))) 1 (some (a 22))) 2 (some (a 23)))))))), ((a 21), .inr (4, [.int 0, .int 0, .int 0])), ((a 22), .inr (4, [.int 0, .int 0, .int 0])), ((a 23), .inr (4, [.int 0, .int 0, .int 0])), ((a 24), .inr (6, [.ref (a 25), .int 0])), ((a 25), .inl (cy 1, 24, .inl (fun _ => 0))), ((a 26), .inr (7, [.ref (a 27), .ref (a 29)])), ((a 27), .inr (6, [.ref (a 28), .int 0])), ((a 28), .inl (cy 1, 24, .inl (fun _ => 0))), ((a 29), .inr (6, [.ref (a 30), .int 0])), ((a 30), .inl (cy 1, 24, .inl (fun _ => 0))), ((a 31), .inr (10, [.ref (a 32), .ref (a 33), .ref (a 34), .ref (a 35), .ref (a 36), .ref (a 37), .ref (a 38), .int 0, .int 0])), ((a 32), .inr (3, [.int 0, .ref (sv 0), .int 0])), ((a 33), .inr (3, [.int 0, .ref (sv 0), .int 0])), ((a 34), .inr (3, [.int 0, .ref (sv 0), .int 0])), ((a 35), .inr (3, [.int 0, .ref (sv 0), .int 0])), ((a 36), .inl (cy 2, 3, .inl (fun _ => 0))), ((a 37), .inl (cy 1, 3, .inl (fun _ => 0))), ((a 38), .inl (cy 1, 3, .inl (fun _ => 0))), ((a 39), .inr (9, [.long 0, .null]))] H _ := w
  refine lv_iload C.1 C.2.1 dL_law_27 (lv_at hl 0 rfl) ?_
  refine lv_aload_n C.1 C.2.1 dL_law_29 rfl (lv_at hl 4 rfl) ?_
  refine va_slen C.1 C.2.1 hX hbl hbA w.2.2 dL_law_30 ?_
  refine x_is (y := 5) (by decide) ?_
  refine lv_iconst (v := 5) C.1 C.2.1 dL_law_31 (by decide) ?_
  refine lv_isub C.1 C.2.1 dL_law_32 ?_
  refine x_is (y := 0) (by decide) ?_
  refine lv_icmp_gt (tgt := 2515) C.1 C.2.1 dL_law_33 (by decide) (fun c9 => absurd c9 (by decide)) (fun _ => ?_)
  refine lv_aload_n C.1 C.2.1 dL_law_36 rfl (lv_at hl 4 rfl) ?_
  refine lv_iload C.1 C.2.1 dL_law_37 (lv_at hl 0 rfl) ?_
  refine va_sld C.1 C.2.1 hX hbl hbA w.2.2 (xvin (by decide)) dL_law_39 ?_
  refine x_is (y := (xs 0)) (by rfl) ?_
  refine lv_bipush (v := 63) C.1 C.2.1 dL_law_40 (by decide) ?_
  refine lv_iand C.1 C.2.1 dL_law_42 ?_
  refine x_is (y := 38) hk ?_
  refine lv_tableIn (off := 2209) (tgt := 2252) C.1 C.2.1 dL_law_43 (by decide) (by decide) (by decide) (by decide) ?_
  refine lv_aload_n C.1 C.2.1 dL_law_2252 rfl (lv_at hl 3 rfl) ?_
  refine lv_aload_n C.1 C.2.1 dL_law_2253 rfl (lv_at hl 4 rfl) ?_
  refine lv_iload C.1 C.2.1 dL_law_2254 (lv_at hl 0 rfl) ?_
  refine lv_iconst (v := 1) C.1 C.2.1 dL_law_2256 (by decide) ?_
  refine lv_iadd C.1 C.2.1 dL_law_2257 ?_
  refine x_is (y := 1) (by decide) ?_
  refine va_sld C.1 C.2.1 hX hbl hbA w.2.2 (xvin (by decide)) dL_law_2258 ?_
  refine x_is (y := 2) (show xs 1 = 2 from hs1) ?_
  refine lv_aload_n C.1 C.2.1 dL_law_2259 rfl (lv_at hl 4 rfl) ?_
  refine lv_iload C.1 C.2.1 dL_law_2260 (lv_at hl 0 rfl) ?_
  refine lv_iconst (v := 2) C.1 C.2.1 dL_law_2262 (by decide) ?_
  refine lv_iadd C.1 C.2.1 dL_law_2263 ?_
  refine x_is (y := 2) (by decide) ?_
  refine va_sld C.1 C.2.1 hX hbl hbA w.2.2 (xvin (by decide)) dL_law_2264 ?_
  refine x_is (y := 3) (show xs 2 = 3 from hs2) ?_
  refine lv_aload_n C.1 C.2.1 dL_law_2265 rfl (lv_at hl 1 rfl) ?_
  refine x_ki C w [0, 20, 23, 39] [1, 2, 3, 4, 5, 6, 7, 8, 9, 10, 11, 12, 13, 14, 15, 16, 17, 18, 19, 21, 22, 24, 25, 26, 27, 28, 29, 30, 31, 32, 33, 34, 35, 36, 37, 38] rfl rfl (by decide) (by decide) (vx_runSW (As := [.ref (a 0), .int 2, .int 3, .ref (a 39)]) (rest := []) (xfix C) (c557_L_ofPager l G cy sa sv (a 0) (a 39) (a 20) (a 23) (a 1) (a 6) (a 8) (a 15) (a 24) (a 26) (a 21) (a 22) (xtr C) _) (vx_cwSW 4 (xhts C) (xgS gw_901 gw_902 gw_106 gc_L_ofPager) rfl rfl rfl (by decide +kernel) ⟨(Nat.le_of_ble_eq_true rfl), (Nat.le_of_ble_eq_true rfl)⟩) (xPS C w [0, 20, 23, 39] rfl (by decide)) rfl rfl hl.1 rfl (lv_room (Nat.le_of_ble_eq_true rfl)) dL_law_2266 ⟨(Nat.le_of_ble_eq_true rfl), (Nat.le_of_ble_eq_true rfl)⟩) (fun f3964 H locs w => ?_)
  have w : xW G A s [((a 1), .inr (7, [.ref (a 2), .ref (a 4)])), ((a 2), .inr (6, [.ref (a 3), .int 0])), ((a 3), .inl (cy 1, 24, .inl (fun _ => 0))), ((a 4), .inr (6, [.ref (a 5), .int 0])), ((a 5), .inl (cy 1, 24, .inl (fun _ => 0))), ((a 6), .inr (6, [.ref (a 7), .int 0])), ((a 7), .inl (cy 1, 24, .inl (fun _ => 0))), ((a 8), .inr (5, [.ref (a 9), .ref (a 11), .ref (a 13), .int 0])), ((a 9), .inr (6, [.ref (a 10), .int 0])), ((a 10), .inl (cy 1, 624, .inl (fun _ => 0))), ((a 11), .inr (6, [.ref (a 12), .int 0])), ((a 12), .inl (cy 1, 624, .inl (fun _ => 0))), ((a 13), .inr (6, [.ref (a 14), .int 0])), ((a 14), .inl (cy 1, 12, .inl (fun _ => 0))), ((a 15), .inr (7, [.ref (a 16), .ref (a 18)])), ((a 16), .inr (6, [.ref (a 17), .int 0])), ((a 17), .inl (cy 1, 24, .inl (fun _ => 0))), ((a 18), .inr (6, [.ref (a 19), .int 0])), ((a 19), .inl (cy 1, 24, .inl (fun _ => 0))), ((a 21), .inr (4, [.int 0, .int 0, .int 0])), ((a 22), .inr (4, [.int 0, .int 0, .int 0])), ((a 24), .inr (6, [.ref (a 25), .int 0])), ((a 25), .inl (cy 1, 24, .inl (fun _ => 0))), ((a 26), .inr (7, [.ref (a 27), .ref (a 29)])), ((a 27), .inr (6, [.ref (a 28), .int 0])), ((a 28), .inl (cy 1, 24, .inl (fun _ => 0))), ((a 29), .inr (6, [.ref (a 30), .int 0])), ((a 30), .inl (cy 1, 24, .inl (fun _ => 0))), ((a 31), .inr (10, [.ref (a 32), .ref (a 33), .ref (a 34), .ref (a 35), .ref (a 36), .ref (a 37), .ref (a 38), .int 0, .int 0])), ((a 32), .inr (3, [.int 0, .ref (sv 0), .int 0])), ((a 33), .inr (3, [.int 0, .ref (sv 0), .int 0])), ((a 34), .inr (3, [.int 0, .ref (sv 0), .int 0])), ((a 35), .inr (3, [.int 0, .ref (sv 0), .int 0])), ((a 36), .inl (cy 2, 3, .inl (fun _ => 0))), ((a 37), .inl (cy 1, 3, .inl (fun _ => 0))), ((a 38), .inl (cy 1, 3, .inl (fun _ => 0))), ((a 0), .inr (8, [.ref (a 1), .ref (a 6), .ref (a 8), .ref (a 15), .ref (a 20), .int 0, .ref (a 24), .ref (a 26)])), ((a 20), .inl (cy 3, 3, .inr (.inr (.inr (.inr (va_up (va_up (va_up (fun _ => none) 0 (some (a 21))) 1 (some (a 22))) 2 (some (a 23)))))))), ((a 23), .inr (4, [.int 0, .int 0, .int 0])), ((a 39), .inr (9, [.long 0, .null]))] H _ := w
  refine lv_istore (lv' := [(5, .int 0), (4, .int 0), (3, .ref (a 39)), (2, .ref (a 31)), (1, .ref (a 0)), (0, .ref b)]) C.1 C.2.1 dL_law_2269 hl (by decide) rfl (fun ls hl => ?_)
  refine lv_aload_n C.1 C.2.1 dL_law_2271 rfl (lv_at hl 3 rfl) ?_
  refine lv_aload_n C.1 C.2.1 dL_law_2272 rfl (lv_at hl 5 rfl) ?_
  refine lv_iload C.1 C.2.1 dL_law_2273 (lv_at hl 1 rfl) ?_
  refine lv_iconst (v := 1) C.1 C.2.1 dL_law_2275 (by decide) ?_
  refine lv_iadd C.1 C.2.1 dL_law_2276 ?_
  refine x_is (y := 1) (by decide) ?_
  refine va_sld C.1 C.2.1 hX hbl hbA w.2.2 (xvin (by decide)) dL_law_2277 ?_
  refine x_is (y := 2) (show xs 1 = 2 from hs1) ?_
  refine lv_aload_n C.1 C.2.1 dL_law_2278 rfl (lv_at hl 5 rfl) ?_
  refine lv_iload C.1 C.2.1 dL_law_2279 (lv_at hl 1 rfl) ?_
  refine lv_iconst (v := 2) C.1 C.2.1 dL_law_2281 (by decide) ?_
  refine lv_iadd C.1 C.2.1 dL_law_2282 ?_
  refine x_is (y := 2) (by decide) ?_
  refine va_sld C.1 C.2.1 hX hbl hbA w.2.2 (xvin (by decide)) dL_law_2283 ?_
  refine x_is (y := 3) (show xs 2 = 3 from hs2) ?_
  refine x_ki C w [28, 34] [0, 1, 2, 3, 4, 5, 6, 7, 8, 9, 10, 11, 12, 13, 14, 15, 16, 17, 18, 19, 20, 21, 22, 23, 24, 25, 26, 27, 29, 30, 31, 32, 33, 35, 36, 37, 38, 39] rfl rfl (by decide) (by decide) (va_runV (As := [.int 2, .int 3]) (rest := []) (xfix C) (c559_X6_ofPager l G cy sa sv (a 31) (a 37) (a 32) (a 33) (a 34) (a 35) (a 36) (a 38) (xtr C) _) (cwV 2 (xhts C) (xgV (maxL := 0) (cc := ⟨#[]⟩) (ret := none) gw_908 gw_909 gw_910 gw_58 gc_X6_ofPager) rfl rfl rfl (by decide +kernel) ⟨(Nat.le_of_ble_eq_true rfl), (Nat.le_of_ble_eq_true rfl)⟩) (xPV C w [28, 34] rfl (by decide) (ci := 10) (q0 := 28) rfl rfl) rfl rfl hl.1 rfl (lv_room (Nat.le_of_ble_eq_true rfl)) dL_law_2284 ⟨(Nat.le_of_ble_eq_true rfl), (Nat.le_of_ble_eq_true rfl)⟩) (fun f3969 H locs w => ?_)
  have w : xW G A s [((a 1), .inr (7, [.ref (a 2), .ref (a 4)])), ((a 2), .inr (6, [.ref (a 3), .int 0])), ((a 3), .inl (cy 1, 24, .inl (fun _ => 0))), ((a 4), .inr (6, [.ref (a 5), .int 0])), ((a 5), .inl (cy 1, 24, .inl (fun _ => 0))), ((a 6), .inr (6, [.ref (a 7), .int 0])), ((a 7), .inl (cy 1, 24, .inl (fun _ => 0))), ((a 8), .inr (5, [.ref (a 9), .ref (a 11), .ref (a 13), .int 0])), ((a 9), .inr (6, [.ref (a 10), .int 0])), ((a 10), .inl (cy 1, 624, .inl (fun _ => 0))), ((a 11), .inr (6, [.ref (a 12), .int 0])), ((a 12), .inl (cy 1, 624, .inl (fun _ => 0))), ((a 13), .inr (6, [.ref (a 14), .int 0])), ((a 14), .inl (cy 1, 12, .inl (fun _ => 0))), ((a 15), .inr (7, [.ref (a 16), .ref (a 18)])), ((a 16), .inr (6, [.ref (a 17), .int 0])), ((a 17), .inl (cy 1, 24, .inl (fun _ => 0))), ((a 18), .inr (6, [.ref (a 19), .int 0])), ((a 19), .inl (cy 1, 24, .inl (fun _ => 0))), ((a 21), .inr (4, [.int 0, .int 0, .int 0])), ((a 22), .inr (4, [.int 0, .int 0, .int 0])), ((a 24), .inr (6, [.ref (a 25), .int 0])), ((a 25), .inl (cy 1, 24, .inl (fun _ => 0))), ((a 26), .inr (7, [.ref (a 27), .ref (a 29)])), ((a 27), .inr (6, [.ref (a 28), .int 0])), ((a 28), .inl (cy 1, 24, .inl (fun _ => 0))), ((a 29), .inr (6, [.ref (a 30), .int 0])), ((a 30), .inl (cy 1, 24, .inl (fun _ => 0))), ((a 32), .inr (3, [.int 0, .ref (sv 0), .int 0])), ((a 33), .inr (3, [.int 0, .ref (sv 0), .int 0])), ((a 34), .inr (3, [.int 0, .ref (sv 0), .int 0])), ((a 35), .inr (3, [.int 0, .ref (sv 0), .int 0])), ((a 36), .inl (cy 2, 3, .inl (fun _ => 0))), ((a 38), .inl (cy 1, 3, .inl (fun _ => 0))), ((a 0), .inr (8, [.ref (a 1), .ref (a 6), .ref (a 8), .ref (a 15), .ref (a 20), .int 0, .ref (a 24), .ref (a 26)])), ((a 20), .inl (cy 3, 3, .inr (.inr (.inr (.inr (va_up (va_up (va_up (fun _ => none) 0 (some (a 21))) 1 (some (a 22))) 2 (some (a 23)))))))), ((a 23), .inr (4, [.int 0, .int 0, .int 0])), ((a 39), .inr (9, [.long 0, .null])), ((a 31), .inr (10, [.ref (a 32), .ref (a 33), .ref (a 34), .ref (a 35), .ref (a 36), .ref (a 37), .ref (a 38), .int 0, .int 0])), ((a 37), .inl (cy 1, 3, .inl (fun _ => 0)))] H _ := w
  refine lv_istore (lv' := [(6, .int 0), (5, .int 0), (4, .int 0), (3, .ref (a 39)), (2, .ref (a 31)), (1, .ref (a 0)), (0, .ref b)]) C.1 C.2.1 dL_law_2287 hl (by decide) rfl (fun ls hl => ?_)
  refine lv_aload_n C.1 C.2.1 dL_law_2289 rfl (lv_at hl 4 rfl) ?_
  refine x_ki C w [38] [0, 1, 2, 3, 4, 5, 6, 7, 8, 9, 10, 11, 12, 13, 14, 15, 16, 17, 18, 19, 20, 21, 22, 23, 24, 25, 26, 27, 28, 29, 30, 31, 32, 33, 34, 35, 36, 37, 39] rfl rfl (by decide) (by decide) (va_runV (As := []) (rest := []) (xfix C) (c66_X6_thrown l G cy sa sv (a 31) (a 32) (a 33) (a 34) (a 35) (a 36) (a 37) (a 38) (xtr C) _) (cwV 0 (xhts C) (xgV (maxL := 0) (cc := ⟨#[]⟩) (ret := none) gw_122 gw_123 gw_124 gw_58 gc_X6_thrown) rfl rfl rfl (by decide +kernel) ⟨(Nat.le_of_ble_eq_true rfl), (Nat.le_of_ble_eq_true rfl)⟩) (xPV C w [38] rfl (by decide) (ci := 10) (q0 := 38) rfl rfl) rfl rfl hl.1 rfl (lv_room (Nat.le_of_ble_eq_true rfl)) dL_law_2290 ⟨(Nat.le_of_ble_eq_true rfl), (Nat.le_of_ble_eq_true rfl)⟩) (fun f3970 H locs w => ?_)
  have w : xW G A s [((a 1), .inr (7, [.ref (a 2), .ref (a 4)])), ((a 2), .inr (6, [.ref (a 3), .int 0])), ((a 3), .inl (cy 1, 24, .inl (fun _ => 0))), ((a 4), .inr (6, [.ref (a 5), .int 0])), ((a 5), .inl (cy 1, 24, .inl (fun _ => 0))), ((a 6), .inr (6, [.ref (a 7), .int 0])), ((a 7), .inl (cy 1, 24, .inl (fun _ => 0))), ((a 8), .inr (5, [.ref (a 9), .ref (a 11), .ref (a 13), .int 0])), ((a 9), .inr (6, [.ref (a 10), .int 0])), ((a 10), .inl (cy 1, 624, .inl (fun _ => 0))), ((a 11), .inr (6, [.ref (a 12), .int 0])), ((a 12), .inl (cy 1, 624, .inl (fun _ => 0))), ((a 13), .inr (6, [.ref (a 14), .int 0])), ((a 14), .inl (cy 1, 12, .inl (fun _ => 0))), ((a 15), .inr (7, [.ref (a 16), .ref (a 18)])), ((a 16), .inr (6, [.ref (a 17), .int 0])), ((a 17), .inl (cy 1, 24, .inl (fun _ => 0))), ((a 18), .inr (6, [.ref (a 19), .int 0])), ((a 19), .inl (cy 1, 24, .inl (fun _ => 0))), ((a 21), .inr (4, [.int 0, .int 0, .int 0])), ((a 22), .inr (4, [.int 0, .int 0, .int 0])), ((a 24), .inr (6, [.ref (a 25), .int 0])), ((a 25), .inl (cy 1, 24, .inl (fun _ => 0))), ((a 26), .inr (7, [.ref (a 27), .ref (a 29)])), ((a 27), .inr (6, [.ref (a 28), .int 0])), ((a 28), .inl (cy 1, 24, .inl (fun _ => 0))), ((a 29), .inr (6, [.ref (a 30), .int 0])), ((a 30), .inl (cy 1, 24, .inl (fun _ => 0))), ((a 32), .inr (3, [.int 0, .ref (sv 0), .int 0])), ((a 33), .inr (3, [.int 0, .ref (sv 0), .int 0])), ((a 34), .inr (3, [.int 0, .ref (sv 0), .int 0])), ((a 35), .inr (3, [.int 0, .ref (sv 0), .int 0])), ((a 36), .inl (cy 2, 3, .inl (fun _ => 0))), ((a 38), .inl (cy 1, 3, .inl (fun _ => 0))), ((a 0), .inr (8, [.ref (a 1), .ref (a 6), .ref (a 8), .ref (a 15), .ref (a 20), .int 0, .ref (a 24), .ref (a 26)])), ((a 20), .inl (cy 3, 3, .inr (.inr (.inr (.inr (va_up (va_up (va_up (fun _ => none) 0 (some (a 21))) 1 (some (a 22))) 2 (some (a 23)))))))), ((a 23), .inr (4, [.int 0, .int 0, .int 0])), ((a 39), .inr (9, [.long 0, .null])), ((a 37), .inl (cy 1, 3, .inl (fun _ => 0))), ((a 31), .inr (10, [.ref (a 32), .ref (a 33), .ref (a 34), .ref (a 35), .ref (a 36), .ref (a 37), .ref (a 38), .int 0, .int 0]))] H _ := w
  refine lv_iload C.1 C.2.1 dL_law_2293 (lv_at hl 1 rfl) ?_
  refine lv_icmp_eq (tgt := 2300) C.1 C.2.1 dL_law_2295 (by decide) (fun _ => ?_) (fun c9 => absurd (by decide) c9)
  refine lv_iload C.1 C.2.1 dL_law_2300 (lv_at hl 1 rfl) ?_
  refine lv_if_ne (tgt := 2318) C.1 C.2.1 dL_law_2302 (by decide) (fun c9 => absurd (by decide) c9) (fun _ => ?_)
  refine lv_aload_n C.1 C.2.1 dL_law_2305 rfl (lv_at hl 3 rfl) ?_
  refine x_getN (v := .long 0) C w 37 9 0 (xin_X5 _) rfl rfl (by decide) (xs_f_n (xS C)) rfl rfl dL_law_2306 ?_
  refine lv_iload C.1 C.2.1 dL_law_2309 (lv_at hl 0 rfl) ?_
  refine lv_i2l (v := 0) C.1 C.2.1 dL_law_2311 (by decide) ?_
  refine W.lcmp C.1 C.2.1 dL_law_2312 ?_
  refine x_is (y := 0) (by decide) ?_
  refine lv_if_eq (tgt := 2318) C.1 C.2.1 dL_law_2313 (by decide) (fun _ => ?_) (fun c9 => absurd (by decide) c9)
  refine lv_goto (tgt := 2509) C.1 C.2.1 dL_law_2318 (by decide) ?_
  refine lv_iinc (v := 5) (lv' := [(4, .int 5), (6, .int 0), (5, .int 0), (3, .ref (a 39)), (2, .ref (a 31)), (1, .ref (a 0)), (0, .ref b)]) C.1 C.2.1 dL_law_2509 hl (k := 2) rfl (by decide) (by decide) rfl (fun ls hl => ?_)
  refine lv_goto (tgt := 27) C.1 C.2.1 dL_law_2512 (by decide) ?_
  refine lv_iload C.1 C.2.1 dL_law_27 (lv_at hl 0 rfl) ?_
  refine lv_aload_n C.1 C.2.1 dL_law_29 rfl (lv_at hl 6 rfl) ?_
  refine va_slen C.1 C.2.1 hX hbl hbA w.2.2 dL_law_30 ?_
  refine x_is (y := 5) (by decide) ?_
  refine lv_iconst (v := 5) C.1 C.2.1 dL_law_31 (by decide) ?_
  refine lv_isub C.1 C.2.1 dL_law_32 ?_
  refine x_is (y := 0) (by decide) ?_
  refine lv_icmp_gt (tgt := 2515) C.1 C.2.1 dL_law_33 (by decide) (fun _ => ?_) (fun c9 => absurd (by decide) c9)
  refine lv_iconst (v := 1) C.1 C.2.1 dL_law_2515 (by decide) ?_
  refine va_forget (fun q hq => hAl _ (w.2.2.2.2 q hq)) ?_
  refine W.widen (k := 600002) (n := 7302232) (Nat.le_of_ble_eq_true rfl) (Nat.le_of_ble_eq_true rfl) ?_
  exact lw_ret C.1 C.2.1 hr (xlk C) dL_law_2516
