theorem law_all {p : Program} {e : Env} {s : State} {m : MethodId} {below : List Frame} {meth : Method} {c : Code} {l : Launch} {G : va_G} {cy : Nat → ClassId} {sa : String → Nat → Nat} {sv : Nat → Nat} {A : Nat → Prop} {b : Nat} {xs : Nat → Int32} {a : Nat → Nat} {H : Heap} {locs : List Loc} {ls : Array Slot} (C : xC p l s m #[Value.ref b] meth c code 7 "TwinindexLaw" (Cond.initialized "TwinindexLaw" :: XG) G cy sa sv A) (hr : meth.sig.returnType = ret) (hX : va_X b 5 xs s s.heap) (hbl : b < s.heap.size) (hbA : ¬ A b) (hAl : ∀ q, A q → s.heap.size ≤ q) (w : xW G A s (xW0 cy sv a) H locs) (hl : lv_has ls 7 [(4, .int 0), (3, .ref (a 39)), (2, .ref (a 31)), (1, .ref (a 0)), (0, .ref b)]) : W p l e room_1 s m #[Value.ref b] below meth c H locs 40 1536 (lw_Z below #[Value.ref b] s) (F0 m 27 ls []) := by
  obtain ⟨j, hj, hk⟩ := pk_andE (xs 0) (m := 63) 6 (by decide)
  have hj : j < 64 := hj
  rcases (show j = 0 ∨ j = 1 ∨ j = 2 ∨ j = 3 ∨ j = 4 ∨ j = 5 ∨ j = 6 ∨ j = 7 ∨ j = 8 ∨ j = 9 ∨ j = 10 ∨ j = 11 ∨ j = 12 ∨ j = 13 ∨ j = 14 ∨ j = 15 ∨ j = 16 ∨ j = 17 ∨ j = 18 ∨ j = 19 ∨ j = 20 ∨ j = 21 ∨ j = 22 ∨ j = 23 ∨ j = 24 ∨ j = 25 ∨ j = 26 ∨ j = 27 ∨ j = 28 ∨ j = 29 ∨ j = 30 ∨ j = 31 ∨ j = 32 ∨ j = 33 ∨ j = 34 ∨ j = 35 ∨ j = 36 ∨ j = 37 ∨ j = 38 ∨ j = 39 ∨ j = 40 ∨ j = 41 ∨ j = 42 ∨ j = 43 ∨ j = 44 ∨ j = 45 ∨ j = 46 ∨ j = 47 ∨ j = 48 ∨ j = 49 ∨ j = 50 ∨ j = 51 ∨ j = 52 ∨ j = 53 ∨ j = 54 ∨ j = 55 ∨ j = 56 ∨ j = 57 ∨ j = 58 ∨ j = 59 ∨ j = 60 ∨ j = 61 ∨ j = 62 ∨ j = 63 by omega) with rfl | rfl | rfl | rfl | rfl | rfl | rfl | rfl | rfl | rfl | rfl | rfl | rfl | rfl | rfl | rfl | rfl | rfl | rfl | rfl | rfl | rfl | rfl | rfl | rfl | rfl | rfl | rfl | rfl | rfl | rfl | rfl | rfl | rfl | rfl | rfl | rfl | rfl | rfl | rfl | rfl | rfl | rfl | rfl | rfl | rfl | rfl | rfl | rfl | rfl | rfl | rfl | rfl | rfl | rfl | rfl | rfl | rfl | rfl | rfl | rfl | rfl | rfl | rfl
  · exact law_0 C hr hX hbl hbA hAl w hl (hk.trans (by decide))
  · exact law_1 C hr hX hbl hbA hAl w hl (hk.trans (by decide))
  · exact law_2 C hr hX hbl hbA hAl w hl (hk.trans (by decide))
  · exact law_3 C hr hX hbl hbA hAl w hl (hk.trans (by decide))
  · exact law_4 C hr hX hbl hbA hAl w hl (hk.trans (by decide))
  · exact law_5 C hr hX hbl hbA hAl w hl (hk.trans (by decide))
  · exact law_6 C hr hX hbl hbA hAl w hl (hk.trans (by decide))
  · exact law_7 C hr hX hbl hbA hAl w hl (hk.trans (by decide))
  · exact law_8 C hr hX hbl hbA hAl w hl (hk.trans (by decide))
  · exact law_9 C hr hX hbl hbA hAl w hl (hk.trans (by decide))
  · exact law_10 C hr hX hbl hbA hAl w hl (hk.trans (by decide))
  · exact law_11 C hr hX hbl hbA hAl w hl (hk.trans (by decide))
  · exact law_12 C hr hX hbl hbA hAl w hl (hk.trans (by decide))
  · exact law_13 C hr hX hbl hbA hAl w hl (hk.trans (by decide))
  · exact law_14 C hr hX hbl hbA hAl w hl (hk.trans (by decide))
  · exact law_15 C hr hX hbl hbA hAl w hl (hk.trans (by decide))
  · exact law_16 C hr hX hbl hbA hAl w hl (hk.trans (by decide))
  · exact law_17 C hr hX hbl hbA hAl w hl (hk.trans (by decide))
  · exact law_18 C hr hX hbl hbA hAl w hl (hk.trans (by decide))
  · exact law_19 C hr hX hbl hbA hAl w hl (hk.trans (by decide))
  · exact law_20 C hr hX hbl hbA hAl w hl (hk.trans (by decide))
  · exact law_21 C hr hX hbl hbA hAl w hl (hk.trans (by decide))
  · exact law_22 C hr hX hbl hbA hAl w hl (hk.trans (by decide))
  · exact law_23 C hr hX hbl hbA hAl w hl (hk.trans (by decide))
  · exact law_24 C hr hX hbl hbA hAl w hl (hk.trans (by decide))
  · exact law_25 C hr hX hbl hbA hAl w hl (hk.trans (by decide))
  · exact law_26 C hr hX hbl hbA hAl w hl (hk.trans (by decide))
  · exact law_27 C hr hX hbl hbA hAl w hl (hk.trans (by decide))
  · exact law_28 C hr hX hbl hbA hAl w hl (hk.trans (by decide))
  · exact law_29 C hr hX hbl hbA hAl w hl (hk.trans (by decide))
  · exact law_30 C hr hX hbl hbA hAl w hl (hk.trans (by decide))
  · exact law_31 C hr hX hbl hbA hAl w hl (hk.trans (by decide))
  · exact law_32 C hr hX hbl hbA hAl w hl (hk.trans (by decide))
  · exact law_33 C hr hX hbl hbA hAl w hl (hk.trans (by decide))
  · exact law_34 C hr hX hbl hbA hAl w hl (hk.trans (by decide))
  · exact law_35 C hr hX hbl hbA hAl w hl (hk.trans (by decide))
  · exact law_36 C hr hX hbl hbA hAl w hl (hk.trans (by decide))
  · exact law_37 C hr hX hbl hbA hAl w hl (hk.trans (by decide))
  · exact law_38 C hr hX hbl hbA hAl w hl (hk.trans (by decide))
  · exact law_39 C hr hX hbl hbA hAl w hl (hk.trans (by decide))
  · exact law_40 C hr hX hbl hbA hAl w hl (hk.trans (by decide))
  · exact law_41 C hr hX hbl hbA hAl w hl (hk.trans (by decide))
  · exact law_42 C hr hX hbl hbA hAl w hl (hk.trans (by decide))
  · exact law_43 C hr hX hbl hbA hAl w hl (hk.trans (by decide))
  · exact law_44 C hr hX hbl hbA hAl w hl (hk.trans (by decide))
  · exact law_45 C hr hX hbl hbA hAl w hl (hk.trans (by decide))
  · exact law_46 C hr hX hbl hbA hAl w hl (hk.trans (by decide))
  · exact law_47 C hr hX hbl hbA hAl w hl (hk.trans (by decide))
  · exact law_48 C hr hX hbl hbA hAl w hl (hk.trans (by decide))
  · exact law_49 C hr hX hbl hbA hAl w hl (hk.trans (by decide))
  · exact law_50 C hr hX hbl hbA hAl w hl (hk.trans (by decide))
  · exact law_51 C hr hX hbl hbA hAl w hl (hk.trans (by decide))
  · exact law_52 C hr hX hbl hbA hAl w hl (hk.trans (by decide))
  · exact law_53 C hr hX hbl hbA hAl w hl (hk.trans (by decide))
  · exact law_54 C hr hX hbl hbA hAl w hl (hk.trans (by decide))
  · exact law_55 C hr hX hbl hbA hAl w hl (hk.trans (by decide))
  · exact law_56 C hr hX hbl hbA hAl w hl (hk.trans (by decide))
  · exact law_57 C hr hX hbl hbA hAl w hl (hk.trans (by decide))
  · exact law_58 C hr hX hbl hbA hAl w hl (hk.trans (by decide))
  · exact law_59 C hr hX hbl hbA hAl w hl (hk.trans (by decide))
  · exact law_60 C hr hX hbl hbA hAl w hl (hk.trans (by decide))
  · exact law_61 C hr hX hbl hbA hAl w hl (hk.trans (by decide))
  · exact law_62 C hr hX hbl hbA hAl w hl (hk.trans (by decide))
  · exact law_63 C hr hX hbl hbA hAl w hl (hk.trans (by decide))
theorem law_loop {p : Program} {e : Env} {s : State} {m : MethodId} {below : List Frame} {meth : Method} {c : Code} {l : Launch} {G : va_G} {cy : Nat → ClassId} {sa : String → Nat → Nat} {sv : Nat → Nat} {A : Nat → Prop} {b L : Nat} {xs : Nat → Int32} {a : Nat → Nat} {H : Heap} {locs : List Loc} {ls : Array Slot} (C : xC p l s m #[Value.ref b] meth c code 7 "TwinindexLaw" (Cond.initialized "TwinindexLaw" :: XG) G cy sa sv A) (hr : meth.sig.returnType = ret) (hX : va_X b L xs s s.heap) (hL : L ≤ 5) (hbl : b < s.heap.size) (hbA : ¬ A b) (hAl : ∀ q, A q → s.heap.size ≤ q) (w : xW G A s (xW0 cy sv a) H locs) (hl : lv_has ls 7 [(4, .int 0), (3, .ref (a 39)), (2, .ref (a 31)), (1, .ref (a 0)), (0, .ref b)]) : W p l e room_1 s m #[Value.ref b] below meth c H locs 40 1536 (lw_Z below #[Value.ref b] s) (F0 m 27 ls []) := by
  rcases Nat.lt_or_ge L 5 with h5 | h5
  · rcases (show L = 0 ∨ L = 1 ∨ L = 2 ∨ L = 3 ∨ L = 4 by omega) with rfl | rfl | rfl | rfl | rfl
    · refine lv_iload C.1 C.2.1 dL_law_27 (lv_at hl 0 rfl) ?_
      refine lv_aload_n C.1 C.2.1 dL_law_29 rfl (lv_at hl 4 rfl) ?_
      refine va_slen C.1 C.2.1 hX hbl hbA w.2.2 dL_law_30 ?_
      refine lv_iconst (v := 5) C.1 C.2.1 dL_law_31 (by decide) ?_
      refine lv_isub C.1 C.2.1 dL_law_32 ?_
      refine lv_icmp_gt (tgt := 2515) C.1 C.2.1 dL_law_33 (by decide) (fun _ => ?_) (fun c9 => absurd (by decide) c9)
      refine lv_iconst (v := 1) C.1 C.2.1 dL_law_2515 (by decide) ?_
      refine va_forget (fun q hq => hAl _ (w.2.2.2.2 q hq)) ?_
      refine W.widen (k := 600002) (n := 7302232) (Nat.le_of_ble_eq_true rfl) (Nat.le_of_ble_eq_true rfl) ?_
      exact lw_ret C.1 C.2.1 hr (xlk C) dL_law_2516
    · refine lv_iload C.1 C.2.1 dL_law_27 (lv_at hl 0 rfl) ?_
      refine lv_aload_n C.1 C.2.1 dL_law_29 rfl (lv_at hl 4 rfl) ?_
      refine va_slen C.1 C.2.1 hX hbl hbA w.2.2 dL_law_30 ?_
      refine lv_iconst (v := 5) C.1 C.2.1 dL_law_31 (by decide) ?_
      refine lv_isub C.1 C.2.1 dL_law_32 ?_
      refine lv_icmp_gt (tgt := 2515) C.1 C.2.1 dL_law_33 (by decide) (fun _ => ?_) (fun c9 => absurd (by decide) c9)
      refine lv_iconst (v := 1) C.1 C.2.1 dL_law_2515 (by decide) ?_
      refine va_forget (fun q hq => hAl _ (w.2.2.2.2 q hq)) ?_
      refine W.widen (k := 600002) (n := 7302232) (Nat.le_of_ble_eq_true rfl) (Nat.le_of_ble_eq_true rfl) ?_
      exact lw_ret C.1 C.2.1 hr (xlk C) dL_law_2516
    · refine lv_iload C.1 C.2.1 dL_law_27 (lv_at hl 0 rfl) ?_
      refine lv_aload_n C.1 C.2.1 dL_law_29 rfl (lv_at hl 4 rfl) ?_
      refine va_slen C.1 C.2.1 hX hbl hbA w.2.2 dL_law_30 ?_
      refine lv_iconst (v := 5) C.1 C.2.1 dL_law_31 (by decide) ?_
      refine lv_isub C.1 C.2.1 dL_law_32 ?_
      refine lv_icmp_gt (tgt := 2515) C.1 C.2.1 dL_law_33 (by decide) (fun _ => ?_) (fun c9 => absurd (by decide) c9)
      refine lv_iconst (v := 1) C.1 C.2.1 dL_law_2515 (by decide) ?_
      refine va_forget (fun q hq => hAl _ (w.2.2.2.2 q hq)) ?_
      refine W.widen (k := 600002) (n := 7302232) (Nat.le_of_ble_eq_true rfl) (Nat.le_of_ble_eq_true rfl) ?_
      exact lw_ret C.1 C.2.1 hr (xlk C) dL_law_2516
    · refine lv_iload C.1 C.2.1 dL_law_27 (lv_at hl 0 rfl) ?_
      refine lv_aload_n C.1 C.2.1 dL_law_29 rfl (lv_at hl 4 rfl) ?_
      refine va_slen C.1 C.2.1 hX hbl hbA w.2.2 dL_law_30 ?_
      refine lv_iconst (v := 5) C.1 C.2.1 dL_law_31 (by decide) ?_
      refine lv_isub C.1 C.2.1 dL_law_32 ?_
      refine lv_icmp_gt (tgt := 2515) C.1 C.2.1 dL_law_33 (by decide) (fun _ => ?_) (fun c9 => absurd (by decide) c9)
      refine lv_iconst (v := 1) C.1 C.2.1 dL_law_2515 (by decide) ?_
      refine va_forget (fun q hq => hAl _ (w.2.2.2.2 q hq)) ?_
      refine W.widen (k := 600002) (n := 7302232) (Nat.le_of_ble_eq_true rfl) (Nat.le_of_ble_eq_true rfl) ?_
      exact lw_ret C.1 C.2.1 hr (xlk C) dL_law_2516
    · refine lv_iload C.1 C.2.1 dL_law_27 (lv_at hl 0 rfl) ?_
      refine lv_aload_n C.1 C.2.1 dL_law_29 rfl (lv_at hl 4 rfl) ?_
      refine va_slen C.1 C.2.1 hX hbl hbA w.2.2 dL_law_30 ?_
      refine lv_iconst (v := 5) C.1 C.2.1 dL_law_31 (by decide) ?_
      refine lv_isub C.1 C.2.1 dL_law_32 ?_
      refine lv_icmp_gt (tgt := 2515) C.1 C.2.1 dL_law_33 (by decide) (fun _ => ?_) (fun c9 => absurd (by decide) c9)
      refine lv_iconst (v := 1) C.1 C.2.1 dL_law_2515 (by decide) ?_
      refine va_forget (fun q hq => hAl _ (w.2.2.2.2 q hq)) ?_
      refine W.widen (k := 600002) (n := 7302232) (Nat.le_of_ble_eq_true rfl) (Nat.le_of_ble_eq_true rfl) ?_
      exact lw_ret C.1 C.2.1 hr (xlk C) dL_law_2516
  · obtain rfl : L = 5 := by omega
    exact law_all C hr hX hbl hbA hAl w hl
set_option maxHeartbeats 8000000 in
set_option maxRecDepth 100000 in
theorem law_entry {p : Program} {e : Env} {s : State} {m : MethodId} {below : List Frame} {meth : Method} {c : Code} {l : Launch} {G : va_G} {cy : Nat → ClassId} {sa : String → Nat → Nat} {sv : Nat → Nat} {A : Nat → Prop} {b L : Nat} {xs : Nat → Int32} (C : xC p l s m #[Value.ref b] meth c code 7 "TwinindexLaw" (Cond.initialized "TwinindexLaw" :: XG) G cy sa sv A) (hr : meth.sig.returnType = ret) (hX : va_X b L xs s s.heap) (hL : L ≤ 5) (hbl : b < s.heap.size) (hbA : ¬ A b) (hAl : ∀ q, A q → s.heap.size ≤ q) : W p l e room_1 s m #[Value.ref b] below meth c s.heap [] 0 0 (lw_Z below #[Value.ref b] s) (entryFrame m ([Value.ref b] : List Value).toArray 7) := by
  have w : xW G A s [] s.heap [] := ⟨fun k q h => by simp at h, ⟨fun i j p q h => by simp at h, fun k q h => by simp at h⟩, va_S.rf⟩
  have hl := lv_entry ([.ref b]) (n := 7) (Nat.le_of_ble_eq_true rfl)
  rw [lg_entry_eq]
  generalize (lg_sl ([.ref b]) ++ List.replicate (7 - (lg_sl ([.ref b])).length) Slot.unset).toArray = ls at hl ⊢
  have hl : lv_has ls 7 [(0, .ref b)] := hl
  refine x_new (fs := [.null, .null, .null, .null, .null, .int 0, .null, .null]) (ty0 := tyX4) C w 8 (xin_X4 _) tyX4_ok rfl (List.mem_cons_of_mem _ gw_0) (List.mem_cons_of_mem _ gw_1) (List.mem_cons_of_mem _ gw_2) (fun j hj => by rcases (show j = 0 ∨ j = 1 ∨ j = 2 ∨ j = 3 ∨ j = 4 ∨ j = 5 ∨ j = 6 ∨ j = 7 by omega) with rfl | rfl | rfl | rfl | rfl | rfl | rfl | rfl <;> rfl) (Nat.le_of_ble_eq_true rfl) (Nat.le_of_ble_eq_true rfl) dL_law_0 (fun q1 H w => ?_)
  have w : xW G A s [(q1, .inr (8, [.null, .null, .null, .null, .null, .int 0, .null, .null]))] H _ := w
  refine W.widen (k := 1) (n := 8) (Nat.le_of_ble_eq_true rfl) (Nat.le_of_ble_eq_true rfl) ?_
  refine lv_dup C.1 C.2.1 dL_law_3 rfl ?_
  refine x_kv C w [0] [] rfl rfl (by decide) (by decide) (va_runI (As := []) (rest := [.ref q1]) (xfix C) (c7_X4_init l G cy sa sv q1 (xtr C) _) (cwI 0 (xhts C) (xgI gc_X4_init) rfl rfl rfl (xhts C _ (List.mem_cons_of_mem _ gw_2)) (xhts C _ (List.mem_cons_of_mem _ gw_54)) (xhts C _ (List.mem_cons_of_mem _ gw_55)) rfl (by decide +kernel) ⟨(Nat.le_of_ble_eq_true rfl), (Nat.le_of_ble_eq_true rfl)⟩) (xPS C w [0] rfl (by decide)) rfl rfl hl.1 rfl (lv_room (Nat.le_of_ble_eq_true rfl)) dL_law_4 ⟨(Nat.le_of_ble_eq_true rfl), (Nat.le_of_ble_eq_true rfl)⟩) (fun f227 H locs w => ?_)
  have w : xW G A s [(q1, .inr (8, [.ref (f227 0), .ref (f227 5), .ref (f227 7), .ref (f227 14), .ref (f227 19), .int 0, .ref (f227 23), .ref (f227 25)])), ((f227 0), .inr (7, [.ref (f227 1), .ref (f227 3)])), ((f227 1), .inr (6, [.ref (f227 2), .int 0])), ((f227 2), .inl (cy 1, 24, .inl (fun _ => 0))), ((f227 3), .inr (6, [.ref (f227 4), .int 0])), ((f227 4), .inl (cy 1, 24, .inl (fun _ => 0))), ((f227 5), .inr (6, [.ref (f227 6), .int 0])), ((f227 6), .inl (cy 1, 24, .inl (fun _ => 0))), ((f227 7), .inr (5, [.ref (f227 8), .ref (f227 10), .ref (f227 12), .int 0])), ((f227 8), .inr (6, [.ref (f227 9), .int 0])), ((f227 9), .inl (cy 1, 624, .inl (fun _ => 0))), ((f227 10), .inr (6, [.ref (f227 11), .int 0])), ((f227 11), .inl (cy 1, 624, .inl (fun _ => 0))), ((f227 12), .inr (6, [.ref (f227 13), .int 0])), ((f227 13), .inl (cy 1, 12, .inl (fun _ => 0))), ((f227 14), .inr (7, [.ref (f227 15), .ref (f227 17)])), ((f227 15), .inr (6, [.ref (f227 16), .int 0])), ((f227 16), .inl (cy 1, 24, .inl (fun _ => 0))), ((f227 17), .inr (6, [.ref (f227 18), .int 0])), ((f227 18), .inl (cy 1, 24, .inl (fun _ => 0))), ((f227 19), .inl (cy 3, 3, .inr (.inr (.inr (.inr (va_up (va_up (va_up (fun _ => none) 0 (some (f227 20))) 1 (some (f227 21))) 2 (some (f227 22)))))))), ((f227 20), .inr (4, [.int 0, .int 0, .int 0])), ((f227 21), .inr (4, [.int 0, .int 0, .int 0])), ((f227 22), .inr (4, [.int 0, .int 0, .int 0])), ((f227 23), .inr (6, [.ref (f227 24), .int 0])), ((f227 24), .inl (cy 1, 24, .inl (fun _ => 0))), ((f227 25), .inr (7, [.ref (f227 26), .ref (f227 28)])), ((f227 26), .inr (6, [.ref (f227 27), .int 0])), ((f227 27), .inl (cy 1, 24, .inl (fun _ => 0))), ((f227 28), .inr (6, [.ref (f227 29), .int 0])), ((f227 29), .inl (cy 1, 24, .inl (fun _ => 0)))] H _ := w
  refine W.widen (k := 31) (n := 1504) (Nat.le_of_ble_eq_true rfl) (Nat.le_of_ble_eq_true rfl) ?_
  refine lv_astore_n (lv' := [(1, .ref q1), (0, .ref b)]) C.1 C.2.1 dL_law_7 rfl hl (by decide) rfl (fun ls hl => ?_)
  refine x_new (fs := [.null, .null, .null, .null, .null, .null, .null, .int 0, .int 0]) (ty0 := tyX6) C w 10 (xin_X6 _) tyX6_ok rfl (List.mem_cons_of_mem _ gw_56) (List.mem_cons_of_mem _ gw_57) (List.mem_cons_of_mem _ gw_58) (fun j hj => by rcases (show j = 0 ∨ j = 1 ∨ j = 2 ∨ j = 3 ∨ j = 4 ∨ j = 5 ∨ j = 6 ∨ j = 7 ∨ j = 8 by omega) with rfl | rfl | rfl | rfl | rfl | rfl | rfl | rfl | rfl <;> rfl) (Nat.le_of_ble_eq_true rfl) (Nat.le_of_ble_eq_true rfl) dL_law_8 (fun q228 H w => ?_)
  have w : xW G A s [(q1, .inr (8, [.ref (f227 0), .ref (f227 5), .ref (f227 7), .ref (f227 14), .ref (f227 19), .int 0, .ref (f227 23), .ref (f227 25)])), ((f227 0), .inr (7, [.ref (f227 1), .ref (f227 3)])), ((f227 1), .inr (6, [.ref (f227 2), .int 0])), ((f227 2), .inl (cy 1, 24, .inl (fun _ => 0))), ((f227 3), .inr (6, [.ref (f227 4), .int 0])), ((f227 4), .inl (cy 1, 24, .inl (fun _ => 0))), ((f227 5), .inr (6, [.ref (f227 6), .int 0])), ((f227 6), .inl (cy 1, 24, .inl (fun _ => 0))), ((f227 7), .inr (5, [.ref (f227 8), .ref (f227 10), .ref (f227 12), .int 0])), ((f227 8), .inr (6, [.ref (f227 9), .int 0])), ((f227 9), .inl (cy 1, 624, .inl (fun _ => 0))), ((f227 10), .inr (6, [.ref (f227 11), .int 0])), ((f227 11), .inl (cy 1, 624, .inl (fun _ => 0))), ((f227 12), .inr (6, [.ref (f227 13), .int 0])), ((f227 13), .inl (cy 1, 12, .inl (fun _ => 0))), ((f227 14), .inr (7, [.ref (f227 15), .ref (f227 17)])), ((f227 15), .inr (6, [.ref (f227 16), .int 0])), ((f227 16), .inl (cy 1, 24, .inl (fun _ => 0))), ((f227 17), .inr (6, [.ref (f227 18), .int 0])), ((f227 18), .inl (cy 1, 24, .inl (fun _ => 0))), ((f227 19), .inl (cy 3, 3, .inr (.inr (.inr (.inr (va_up (va_up (va_up (fun _ => none) 0 (some (f227 20))) 1 (some (f227 21))) 2 (some (f227 22)))))))), ((f227 20), .inr (4, [.int 0, .int 0, .int 0])), ((f227 21), .inr (4, [.int 0, .int 0, .int 0])), ((f227 22), .inr (4, [.int 0, .int 0, .int 0])), ((f227 23), .inr (6, [.ref (f227 24), .int 0])), ((f227 24), .inl (cy 1, 24, .inl (fun _ => 0))), ((f227 25), .inr (7, [.ref (f227 26), .ref (f227 28)])), ((f227 26), .inr (6, [.ref (f227 27), .int 0])), ((f227 27), .inl (cy 1, 24, .inl (fun _ => 0))), ((f227 28), .inr (6, [.ref (f227 29), .int 0])), ((f227 29), .inl (cy 1, 24, .inl (fun _ => 0))), (q228, .inr (10, [.null, .null, .null, .null, .null, .null, .null, .int 0, .int 0]))] H _ := w
  refine W.widen (k := 32) (n := 1513) (Nat.le_of_ble_eq_true rfl) (Nat.le_of_ble_eq_true rfl) ?_
  refine lv_dup C.1 C.2.1 dL_law_11 rfl ?_
  refine x_kv C w [31] [0, 1, 2, 3, 4, 5, 6, 7, 8, 9, 10, 11, 12, 13, 14, 15, 16, 17, 18, 19, 20, 21, 22, 23, 24, 25, 26, 27, 28, 29, 30] rfl rfl (by decide) (by decide) (va_runI (As := []) (rest := [.ref q228]) (xfix C) (c11_X6_init l G cy sa sv q228 (xtr C) _) (cwI 0 (xhts C) (xgI gc_X6_init) rfl rfl rfl (xhts C _ (List.mem_cons_of_mem _ gw_58)) (xhts C _ (List.mem_cons_of_mem _ gw_87)) (xhts C _ (List.mem_cons_of_mem _ gw_88)) rfl (by decide +kernel) ⟨(Nat.le_of_ble_eq_true rfl), (Nat.le_of_ble_eq_true rfl)⟩) (xPS C w [31] rfl (by decide)) rfl rfl hl.1 rfl (lv_room (Nat.le_of_ble_eq_true rfl)) dL_law_12 ⟨(Nat.le_of_ble_eq_true rfl), (Nat.le_of_ble_eq_true rfl)⟩) (fun f269 H locs w => ?_)
  have w : xW G A s [(q1, .inr (8, [.ref (f227 0), .ref (f227 5), .ref (f227 7), .ref (f227 14), .ref (f227 19), .int 0, .ref (f227 23), .ref (f227 25)])), ((f227 0), .inr (7, [.ref (f227 1), .ref (f227 3)])), ((f227 1), .inr (6, [.ref (f227 2), .int 0])), ((f227 2), .inl (cy 1, 24, .inl (fun _ => 0))), ((f227 3), .inr (6, [.ref (f227 4), .int 0])), ((f227 4), .inl (cy 1, 24, .inl (fun _ => 0))), ((f227 5), .inr (6, [.ref (f227 6), .int 0])), ((f227 6), .inl (cy 1, 24, .inl (fun _ => 0))), ((f227 7), .inr (5, [.ref (f227 8), .ref (f227 10), .ref (f227 12), .int 0])), ((f227 8), .inr (6, [.ref (f227 9), .int 0])), ((f227 9), .inl (cy 1, 624, .inl (fun _ => 0))), ((f227 10), .inr (6, [.ref (f227 11), .int 0])), ((f227 11), .inl (cy 1, 624, .inl (fun _ => 0))), ((f227 12), .inr (6, [.ref (f227 13), .int 0])), ((f227 13), .inl (cy 1, 12, .inl (fun _ => 0))), ((f227 14), .inr (7, [.ref (f227 15), .ref (f227 17)])), ((f227 15), .inr (6, [.ref (f227 16), .int 0])), ((f227 16), .inl (cy 1, 24, .inl (fun _ => 0))), ((f227 17), .inr (6, [.ref (f227 18), .int 0])), ((f227 18), .inl (cy 1, 24, .inl (fun _ => 0))), ((f227 19), .inl (cy 3, 3, .inr (.inr (.inr (.inr (va_up (va_up (va_up (fun _ => none) 0 (some (f227 20))) 1 (some (f227 21))) 2 (some (f227 22)))))))), ((f227 20), .inr (4, [.int 0, .int 0, .int 0])), ((f227 21), .inr (4, [.int 0, .int 0, .int 0])), ((f227 22), .inr (4, [.int 0, .int 0, .int 0])), ((f227 23), .inr (6, [.ref (f227 24), .int 0])), ((f227 24), .inl (cy 1, 24, .inl (fun _ => 0))), ((f227 25), .inr (7, [.ref (f227 26), .ref (f227 28)])), ((f227 26), .inr (6, [.ref (f227 27), .int 0])), ((f227 27), .inl (cy 1, 24, .inl (fun _ => 0))), ((f227 28), .inr (6, [.ref (f227 29), .int 0])), ((f227 29), .inl (cy 1, 24, .inl (fun _ => 0))), (q228, .inr (10, [.ref (f269 0), .ref (f269 1), .ref (f269 2), .ref (f269 3), .ref (f269 4), .ref (f269 5), .ref (f269 6), .int 0, .int 0])), ((f269 0), .inr (3, [.int 0, .ref (sv 0), .int 0])), ((f269 1), .inr (3, [.int 0, .ref (sv 0), .int 0])), ((f269 2), .inr (3, [.int 0, .ref (sv 0), .int 0])), ((f269 3), .inr (3, [.int 0, .ref (sv 0), .int 0])), ((f269 4), .inl (cy 2, 3, .inl (fun _ => 0))), ((f269 5), .inl (cy 1, 3, .inl (fun _ => 0))), ((f269 6), .inl (cy 1, 3, .inl (fun _ => 0)))] H _ := w
  refine W.widen (k := 39) (n := 1534) (Nat.le_of_ble_eq_true rfl) (Nat.le_of_ble_eq_true rfl) ?_
  refine lv_astore_n (lv' := [(2, .ref q228), (1, .ref q1), (0, .ref b)]) C.1 C.2.1 dL_law_15 rfl hl (by decide) rfl (fun ls hl => ?_)
  refine x_new (fs := [.long 0, .null]) (ty0 := tyX5) C w 9 (xin_X5 _) tyX5_ok rfl (List.mem_cons_of_mem _ gw_89) (List.mem_cons_of_mem _ gw_90) (List.mem_cons_of_mem _ gw_91) (fun j hj => by rcases (show j = 0 ∨ j = 1 by omega) with rfl | rfl <;> rfl) (Nat.le_of_ble_eq_true rfl) (Nat.le_of_ble_eq_true rfl) dL_law_16 (fun q270 H w => ?_)
  have w : xW G A s [(q1, .inr (8, [.ref (f227 0), .ref (f227 5), .ref (f227 7), .ref (f227 14), .ref (f227 19), .int 0, .ref (f227 23), .ref (f227 25)])), ((f227 0), .inr (7, [.ref (f227 1), .ref (f227 3)])), ((f227 1), .inr (6, [.ref (f227 2), .int 0])), ((f227 2), .inl (cy 1, 24, .inl (fun _ => 0))), ((f227 3), .inr (6, [.ref (f227 4), .int 0])), ((f227 4), .inl (cy 1, 24, .inl (fun _ => 0))), ((f227 5), .inr (6, [.ref (f227 6), .int 0])), ((f227 6), .inl (cy 1, 24, .inl (fun _ => 0))), ((f227 7), .inr (5, [.ref (f227 8), .ref (f227 10), .ref (f227 12), .int 0])), ((f227 8), .inr (6, [.ref (f227 9), .int 0])), ((f227 9), .inl (cy 1, 624, .inl (fun _ => 0))), ((f227 10), .inr (6, [.ref (f227 11), .int 0])), ((f227 11), .inl (cy 1, 624, .inl (fun _ => 0))), ((f227 12), .inr (6, [.ref (f227 13), .int 0])), ((f227 13), .inl (cy 1, 12, .inl (fun _ => 0))), ((f227 14), .inr (7, [.ref (f227 15), .ref (f227 17)])), ((f227 15), .inr (6, [.ref (f227 16), .int 0])), ((f227 16), .inl (cy 1, 24, .inl (fun _ => 0))), ((f227 17), .inr (6, [.ref (f227 18), .int 0])), ((f227 18), .inl (cy 1, 24, .inl (fun _ => 0))), ((f227 19), .inl (cy 3, 3, .inr (.inr (.inr (.inr (va_up (va_up (va_up (fun _ => none) 0 (some (f227 20))) 1 (some (f227 21))) 2 (some (f227 22)))))))), ((f227 20), .inr (4, [.int 0, .int 0, .int 0])), ((f227 21), .inr (4, [.int 0, .int 0, .int 0])), ((f227 22), .inr (4, [.int 0, .int 0, .int 0])), ((f227 23), .inr (6, [.ref (f227 24), .int 0])), ((f227 24), .inl (cy 1, 24, .inl (fun _ => 0))), ((f227 25), .inr (7, [.ref (f227 26), .ref (f227 28)])), ((f227 26), .inr (6, [.ref (f227 27), .int 0])), ((f227 27), .inl (cy 1, 24, .inl (fun _ => 0))), ((f227 28), .inr (6, [.ref (f227 29), .int 0])), ((f227 29), .inl (cy 1, 24, .inl (fun _ => 0))), (q228, .inr (10, [.ref (f269 0), .ref (f269 1), .ref (f269 2), .ref (f269 3), .ref (f269 4), .ref (f269 5), .ref (f269 6), .int 0, .int 0])), ((f269 0), .inr (3, [.int 0, .ref (sv 0), .int 0])), ((f269 1), .inr (3, [.int 0, .ref (sv 0), .int 0])), ((f269 2), .inr (3, [.int 0, .ref (sv 0), .int 0])), ((f269 3), .inr (3, [.int 0, .ref (sv 0), .int 0])), ((f269 4), .inl (cy 2, 3, .inl (fun _ => 0))), ((f269 5), .inl (cy 1, 3, .inl (fun _ => 0))), ((f269 6), .inl (cy 1, 3, .inl (fun _ => 0))), (q270, .inr (9, [.long 0, .null]))] H _ := w
  refine W.widen (k := 40) (n := 1536) (Nat.le_of_ble_eq_true rfl) (Nat.le_of_ble_eq_true rfl) ?_
  refine lv_dup C.1 C.2.1 dL_law_19 rfl ?_
  refine x_kv C w [] [0, 1, 2, 3, 4, 5, 6, 7, 8, 9, 10, 11, 12, 13, 14, 15, 16, 17, 18, 19, 20, 21, 22, 23, 24, 25, 26, 27, 28, 29, 30, 31, 32, 33, 34, 35, 36, 37, 38, 39] rfl rfl (by decide) (by decide) (va_runIN (As := []) (rest := [.ref q270]) (xfix C) (c12_X5_init l G cy sa sv q270 (xtr C) _) ⟨(va_cnB 0 (xhts C) (xgI gc_X5_init) rfl rfl rfl (xs_mO (xS C)) (xhts C _ (List.mem_cons_of_mem _ gw_91)) (by decide +kernel) ⟨(Nat.le_of_ble_eq_true rfl), (Nat.le_of_ble_eq_true rfl)⟩), rfl, xhts C _ (List.mem_cons_of_mem _ gw_94)⟩ (xPS C w [] rfl (by decide)) rfl rfl hl.1 rfl (lv_room (Nat.le_of_ble_eq_true rfl)) dL_law_20 ⟨(Nat.le_of_ble_eq_true rfl), (Nat.le_of_ble_eq_true rfl)⟩) (fun f271 H locs w => ?_)
  have w : xW G A s [(q1, .inr (8, [.ref (f227 0), .ref (f227 5), .ref (f227 7), .ref (f227 14), .ref (f227 19), .int 0, .ref (f227 23), .ref (f227 25)])), ((f227 0), .inr (7, [.ref (f227 1), .ref (f227 3)])), ((f227 1), .inr (6, [.ref (f227 2), .int 0])), ((f227 2), .inl (cy 1, 24, .inl (fun _ => 0))), ((f227 3), .inr (6, [.ref (f227 4), .int 0])), ((f227 4), .inl (cy 1, 24, .inl (fun _ => 0))), ((f227 5), .inr (6, [.ref (f227 6), .int 0])), ((f227 6), .inl (cy 1, 24, .inl (fun _ => 0))), ((f227 7), .inr (5, [.ref (f227 8), .ref (f227 10), .ref (f227 12), .int 0])), ((f227 8), .inr (6, [.ref (f227 9), .int 0])), ((f227 9), .inl (cy 1, 624, .inl (fun _ => 0))), ((f227 10), .inr (6, [.ref (f227 11), .int 0])), ((f227 11), .inl (cy 1, 624, .inl (fun _ => 0))), ((f227 12), .inr (6, [.ref (f227 13), .int 0])), ((f227 13), .inl (cy 1, 12, .inl (fun _ => 0))), ((f227 14), .inr (7, [.ref (f227 15), .ref (f227 17)])), ((f227 15), .inr (6, [.ref (f227 16), .int 0])), ((f227 16), .inl (cy 1, 24, .inl (fun _ => 0))), ((f227 17), .inr (6, [.ref (f227 18), .int 0])), ((f227 18), .inl (cy 1, 24, .inl (fun _ => 0))), ((f227 19), .inl (cy 3, 3, .inr (.inr (.inr (.inr (va_up (va_up (va_up (fun _ => none) 0 (some (f227 20))) 1 (some (f227 21))) 2 (some (f227 22)))))))), ((f227 20), .inr (4, [.int 0, .int 0, .int 0])), ((f227 21), .inr (4, [.int 0, .int 0, .int 0])), ((f227 22), .inr (4, [.int 0, .int 0, .int 0])), ((f227 23), .inr (6, [.ref (f227 24), .int 0])), ((f227 24), .inl (cy 1, 24, .inl (fun _ => 0))), ((f227 25), .inr (7, [.ref (f227 26), .ref (f227 28)])), ((f227 26), .inr (6, [.ref (f227 27), .int 0])), ((f227 27), .inl (cy 1, 24, .inl (fun _ => 0))), ((f227 28), .inr (6, [.ref (f227 29), .int 0])), ((f227 29), .inl (cy 1, 24, .inl (fun _ => 0))), (q228, .inr (10, [.ref (f269 0), .ref (f269 1), .ref (f269 2), .ref (f269 3), .ref (f269 4), .ref (f269 5), .ref (f269 6), .int 0, .int 0])), ((f269 0), .inr (3, [.int 0, .ref (sv 0), .int 0])), ((f269 1), .inr (3, [.int 0, .ref (sv 0), .int 0])), ((f269 2), .inr (3, [.int 0, .ref (sv 0), .int 0])), ((f269 3), .inr (3, [.int 0, .ref (sv 0), .int 0])), ((f269 4), .inl (cy 2, 3, .inl (fun _ => 0))), ((f269 5), .inl (cy 1, 3, .inl (fun _ => 0))), ((f269 6), .inl (cy 1, 3, .inl (fun _ => 0))), (q270, .inr (9, [.long 0, .null]))] H _ := w
  refine lv_astore_n (lv' := [(3, .ref q270), (2, .ref q228), (1, .ref q1), (0, .ref b)]) C.1 C.2.1 dL_law_23 rfl hl (by decide) rfl (fun ls hl => ?_)
  refine lv_iconst (v := 0) C.1 C.2.1 dL_law_24 (by decide) ?_
  refine lv_istore (lv' := [(4, .int 0), (3, .ref q270), (2, .ref q228), (1, .ref q1), (0, .ref b)]) C.1 C.2.1 dL_law_25 hl (by decide) rfl (fun ls hl => ?_)
  exact law_loop C hr hX hL hbl hbA hAl (a := fun k => match k with | 0 => q1 | 1 => (f227 0) | 2 => (f227 1) | 3 => (f227 2) | 4 => (f227 3) | 5 => (f227 4) | 6 => (f227 5) | 7 => (f227 6) | 8 => (f227 7) | 9 => (f227 8) | 10 => (f227 9) | 11 => (f227 10) | 12 => (f227 11) | 13 => (f227 12) | 14 => (f227 13) | 15 => (f227 14) | 16 => (f227 15) | 17 => (f227 16) | 18 => (f227 17) | 19 => (f227 18) | 20 => (f227 19) | 21 => (f227 20) | 22 => (f227 21) | 23 => (f227 22) | 24 => (f227 23) | 25 => (f227 24) | 26 => (f227 25) | 27 => (f227 26) | 28 => (f227 27) | 29 => (f227 28) | 30 => (f227 29) | 31 => q228 | 32 => (f269 0) | 33 => (f269 1) | 34 => (f269 2) | 35 => (f269 3) | 36 => (f269 4) | 37 => (f269 5) | 38 => (f269 6) | 39 => q270 | _ => 0) w hl
theorem whole_start {p : Program} {e : Env} {s : State} {m : MethodId} {below : List Frame} {meth : Method} {c : Code} (l : Launch) (hflags : l.flags = flags0) {b L : Nat} {xs : Nat → Int32} (hL : L ≤ 5) (C0 : lw_At p s m meth c b L xs) : W p l e room_1 s m #[Value.ref b] below meth c s.heap [] 0 0 (lw_Z below #[Value.ref b] s) (entryFrame m ([Value.ref b] : List Value).toArray 7) := by
  obtain ⟨hx, hb, hr, hml, hown, hts, hX, hbl, hlocks, hgv⟩ := C0
  obtain ⟨sa, sv, hSt⟩ := xst0 (A := fun q : Nat => s.heap.size ≤ q) hts hgv (fun a h h2 => absurd h (Nat.not_lt.mpr h2))
  have hxg := xtb0 hts
  obtain ⟨G, cy, hK⟩ := xk0 hts (fun w hw => hxg w (List.mem_cons_of_mem _ hw))
  have C : xC p l s m #[Value.ref b] meth c code 7 "TwinindexLaw" (Cond.initialized "TwinindexLaw" :: XG) G cy sa sv (fun q : Nat => s.heap.size ≤ q) := ⟨hx, hb, hml, hown, hxg, hK, hSt, fun _ h => h, hlocks, by unfold Launch.stackTraces; rw [hflags]; decide⟩
  exact law_entry C hr hX hL hbl (Nat.not_le.mpr hbl) (fun _ h => h)
