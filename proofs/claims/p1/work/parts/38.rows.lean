set_option maxHeartbeats 4000000 in
set_option maxRecDepth 100000 in
theorem c662_X6_added (l : Launch) (G : va_G) (cy : Nat → ClassId) (sa : String → Nat → Nat) (sv : Nat → Nat) : xM l G cy sa sv yX6_added (Cond.code yX6_added cX6_added 4 (some .long) :: XG) { frames := 8, cells := 0, slots := 0, locals := 250 } [.long 7839, .long 0] [] (xQl G (fun f => []) 243009) := by
  refine xof (by decide) (Nat.le_of_ble_eq_true rfl) (fun p e s m below meth c A C w hr hn ls hl => ?_)
  have hl : lv_has ls 4 [(0, .long 7839), (2, .long 0)] := hl
  refine lv_lload_n C.1 C.2.1 dX6_added_0 rfl (lv_at hl 0 rfl) ?_
  refine lv_ldc2 (v := 31) C.1 C.2.1 (xown C) (xhts C _ (List.mem_cons_of_mem _ gw_1089)) dX6_added_1 ?_
  refine lv_lmul C.1 C.2.1 dX6_added_4 ?_
  refine x_il (y := 243009) (by decide) ?_
  refine lv_lload_n C.1 C.2.1 dX6_added_5 rfl (lv_at hl 1 rfl) ?_
  refine lv_ladd C.1 C.2.1 dX6_added_6 ?_
  refine x_il (y := 243009) (by decide) ?_
  exact x_lret C w hr (fun _ => 0) rfl rfl dX6_added_7 (Nat.le_of_ble_eq_true rfl) (Nat.le_of_ble_eq_true rfl)
set_option maxHeartbeats 4000000 in
set_option maxRecDepth 100000 in
theorem c663_X6_added (l : Launch) (G : va_G) (cy : Nat → ClassId) (sa : String → Nat → Nat) (sv : Nat → Nat) : xM l G cy sa sv yX6_added (Cond.code yX6_added cX6_added 4 (some .long) :: XG) { frames := 8, cells := 0, slots := 0, locals := 250 } [.long 243009, .long 0] [] (xQl G (fun f => []) 7533279) := by
  refine xof (by decide) (Nat.le_of_ble_eq_true rfl) (fun p e s m below meth c A C w hr hn ls hl => ?_)
  have hl : lv_has ls 4 [(0, .long 243009), (2, .long 0)] := hl
  refine lv_lload_n C.1 C.2.1 dX6_added_0 rfl (lv_at hl 0 rfl) ?_
  refine lv_ldc2 (v := 31) C.1 C.2.1 (xown C) (xhts C _ (List.mem_cons_of_mem _ gw_1089)) dX6_added_1 ?_
  refine lv_lmul C.1 C.2.1 dX6_added_4 ?_
  refine x_il (y := 7533279) (by decide) ?_
  refine lv_lload_n C.1 C.2.1 dX6_added_5 rfl (lv_at hl 1 rfl) ?_
  refine lv_ladd C.1 C.2.1 dX6_added_6 ?_
  refine x_il (y := 7533279) (by decide) ?_
  exact x_lret C w hr (fun _ => 0) rfl rfl dX6_added_7 (Nat.le_of_ble_eq_true rfl) (Nat.le_of_ble_eq_true rfl)
set_option maxHeartbeats 4000000 in
set_option maxRecDepth 100000 in
theorem c664_X6_added (l : Launch) (G : va_G) (cy : Nat → ClassId) (sa : String → Nat → Nat) (sv : Nat → Nat) : xM l G cy sa sv yX6_added (Cond.code yX6_added cX6_added 4 (some .long) :: XG) { frames := 8, cells := 0, slots := 0, locals := 250 } [.long 7533279, .long 0] [] (xQl G (fun f => []) 233531649) := by
  refine xof (by decide) (Nat.le_of_ble_eq_true rfl) (fun p e s m below meth c A C w hr hn ls hl => ?_)
  have hl : lv_has ls 4 [(0, .long 7533279), (2, .long 0)] := hl
  refine lv_lload_n C.1 C.2.1 dX6_added_0 rfl (lv_at hl 0 rfl) ?_
  refine lv_ldc2 (v := 31) C.1 C.2.1 (xown C) (xhts C _ (List.mem_cons_of_mem _ gw_1089)) dX6_added_1 ?_
  refine lv_lmul C.1 C.2.1 dX6_added_4 ?_
  refine x_il (y := 233531649) (by decide) ?_
  refine lv_lload_n C.1 C.2.1 dX6_added_5 rfl (lv_at hl 1 rfl) ?_
  refine lv_ladd C.1 C.2.1 dX6_added_6 ?_
  refine x_il (y := 233531649) (by decide) ?_
  exact x_lret C w hr (fun _ => 0) rfl rfl dX6_added_7 (Nat.le_of_ble_eq_true rfl) (Nat.le_of_ble_eq_true rfl)
set_option maxHeartbeats 4000000 in
set_option maxRecDepth 100000 in
theorem c665_X6_added (l : Launch) (G : va_G) (cy : Nat → ClassId) (sa : String → Nat → Nat) (sv : Nat → Nat) : xM l G cy sa sv yX6_added (Cond.code yX6_added cX6_added 4 (some .long) :: XG) { frames := 8, cells := 0, slots := 0, locals := 250 } [.long 233531649, .long 0] [] (xQl G (fun f => []) 7239481119) := by
  refine xof (by decide) (Nat.le_of_ble_eq_true rfl) (fun p e s m below meth c A C w hr hn ls hl => ?_)
  have hl : lv_has ls 4 [(0, .long 233531649), (2, .long 0)] := hl
  refine lv_lload_n C.1 C.2.1 dX6_added_0 rfl (lv_at hl 0 rfl) ?_
  refine lv_ldc2 (v := 31) C.1 C.2.1 (xown C) (xhts C _ (List.mem_cons_of_mem _ gw_1089)) dX6_added_1 ?_
  refine lv_lmul C.1 C.2.1 dX6_added_4 ?_
  refine x_il (y := 7239481119) (by decide) ?_
  refine lv_lload_n C.1 C.2.1 dX6_added_5 rfl (lv_at hl 1 rfl) ?_
  refine lv_ladd C.1 C.2.1 dX6_added_6 ?_
  refine x_il (y := 7239481119) (by decide) ?_
  exact x_lret C w hr (fun _ => 0) rfl rfl dX6_added_7 (Nat.le_of_ble_eq_true rfl) (Nat.le_of_ble_eq_true rfl)
set_option maxHeartbeats 4000000 in
set_option maxRecDepth 100000 in
theorem c666_X6_added (l : Launch) (G : va_G) (cy : Nat → ClassId) (sa : String → Nat → Nat) (sv : Nat → Nat) : xM l G cy sa sv yX6_added (Cond.code yX6_added cX6_added 4 (some .long) :: XG) { frames := 8, cells := 0, slots := 0, locals := 250 } [.long 7239481119, .long 0] [] (xQl G (fun f => []) 224423914689) := by
  refine xof (by decide) (Nat.le_of_ble_eq_true rfl) (fun p e s m below meth c A C w hr hn ls hl => ?_)
  have hl : lv_has ls 4 [(0, .long 7239481119), (2, .long 0)] := hl
  refine lv_lload_n C.1 C.2.1 dX6_added_0 rfl (lv_at hl 0 rfl) ?_
  refine lv_ldc2 (v := 31) C.1 C.2.1 (xown C) (xhts C _ (List.mem_cons_of_mem _ gw_1089)) dX6_added_1 ?_
  refine lv_lmul C.1 C.2.1 dX6_added_4 ?_
  refine x_il (y := 224423914689) (by decide) ?_
  refine lv_lload_n C.1 C.2.1 dX6_added_5 rfl (lv_at hl 1 rfl) ?_
  refine lv_ladd C.1 C.2.1 dX6_added_6 ?_
  refine x_il (y := 224423914689) (by decide) ?_
  exact x_lret C w hr (fun _ => 0) rfl rfl dX6_added_7 (Nat.le_of_ble_eq_true rfl) (Nat.le_of_ble_eq_true rfl)
set_option maxHeartbeats 4000000 in
set_option maxRecDepth 100000 in
theorem c667_X6_added (l : Launch) (G : va_G) (cy : Nat → ClassId) (sa : String → Nat → Nat) (sv : Nat → Nat) : xM l G cy sa sv yX6_added (Cond.code yX6_added cX6_added 4 (some .long) :: XG) { frames := 8, cells := 0, slots := 0, locals := 250 } [.long 224423914689, .long 0] [] (xQl G (fun f => []) 6957141355359) := by
  refine xof (by decide) (Nat.le_of_ble_eq_true rfl) (fun p e s m below meth c A C w hr hn ls hl => ?_)
  have hl : lv_has ls 4 [(0, .long 224423914689), (2, .long 0)] := hl
  refine lv_lload_n C.1 C.2.1 dX6_added_0 rfl (lv_at hl 0 rfl) ?_
  refine lv_ldc2 (v := 31) C.1 C.2.1 (xown C) (xhts C _ (List.mem_cons_of_mem _ gw_1089)) dX6_added_1 ?_
  refine lv_lmul C.1 C.2.1 dX6_added_4 ?_
  refine x_il (y := 6957141355359) (by decide) ?_
  refine lv_lload_n C.1 C.2.1 dX6_added_5 rfl (lv_at hl 1 rfl) ?_
  refine lv_ladd C.1 C.2.1 dX6_added_6 ?_
  refine x_il (y := 6957141355359) (by decide) ?_
  exact x_lret C w hr (fun _ => 0) rfl rfl dX6_added_7 (Nat.le_of_ble_eq_true rfl) (Nat.le_of_ble_eq_true rfl)
set_option maxHeartbeats 4000000 in
set_option maxRecDepth 100000 in
theorem c668_X6_added (l : Launch) (G : va_G) (cy : Nat → ClassId) (sa : String → Nat → Nat) (sv : Nat → Nat) : xM l G cy sa sv yX6_added (Cond.code yX6_added cX6_added 4 (some .long) :: XG) { frames := 8, cells := 0, slots := 0, locals := 250 } [.long 6957141355359, .long 0] [] (xQl G (fun f => []) 215671382016129) := by
  refine xof (by decide) (Nat.le_of_ble_eq_true rfl) (fun p e s m below meth c A C w hr hn ls hl => ?_)
  have hl : lv_has ls 4 [(0, .long 6957141355359), (2, .long 0)] := hl
  refine lv_lload_n C.1 C.2.1 dX6_added_0 rfl (lv_at hl 0 rfl) ?_
  refine lv_ldc2 (v := 31) C.1 C.2.1 (xown C) (xhts C _ (List.mem_cons_of_mem _ gw_1089)) dX6_added_1 ?_
  refine lv_lmul C.1 C.2.1 dX6_added_4 ?_
  refine x_il (y := 215671382016129) (by decide) ?_
  refine lv_lload_n C.1 C.2.1 dX6_added_5 rfl (lv_at hl 1 rfl) ?_
  refine lv_ladd C.1 C.2.1 dX6_added_6 ?_
  refine x_il (y := 215671382016129) (by decide) ?_
  exact x_lret C w hr (fun _ => 0) rfl rfl dX6_added_7 (Nat.le_of_ble_eq_true rfl) (Nat.le_of_ble_eq_true rfl)
set_option maxHeartbeats 4000000 in
set_option maxRecDepth 100000 in
theorem c669_X6_added (l : Launch) (G : va_G) (cy : Nat → ClassId) (sa : String → Nat → Nat) (sv : Nat → Nat) : xM l G cy sa sv yX6_added (Cond.code yX6_added cX6_added 4 (some .long) :: XG) { frames := 8, cells := 0, slots := 0, locals := 250 } [.long 215671382016129, .long 0] [] (xQl G (fun f => []) 6685812842499999) := by
  refine xof (by decide) (Nat.le_of_ble_eq_true rfl) (fun p e s m below meth c A C w hr hn ls hl => ?_)
  have hl : lv_has ls 4 [(0, .long 215671382016129), (2, .long 0)] := hl
  refine lv_lload_n C.1 C.2.1 dX6_added_0 rfl (lv_at hl 0 rfl) ?_
  refine lv_ldc2 (v := 31) C.1 C.2.1 (xown C) (xhts C _ (List.mem_cons_of_mem _ gw_1089)) dX6_added_1 ?_
  refine lv_lmul C.1 C.2.1 dX6_added_4 ?_
  refine x_il (y := 6685812842499999) (by decide) ?_
  refine lv_lload_n C.1 C.2.1 dX6_added_5 rfl (lv_at hl 1 rfl) ?_
  refine lv_ladd C.1 C.2.1 dX6_added_6 ?_
  refine x_il (y := 6685812842499999) (by decide) ?_
  exact x_lret C w hr (fun _ => 0) rfl rfl dX6_added_7 (Nat.le_of_ble_eq_true rfl) (Nat.le_of_ble_eq_true rfl)
set_option maxHeartbeats 4000000 in
set_option maxRecDepth 100000 in
theorem c670_X6_added (l : Launch) (G : va_G) (cy : Nat → ClassId) (sa : String → Nat → Nat) (sv : Nat → Nat) : xM l G cy sa sv yX6_added (Cond.code yX6_added cX6_added 4 (some .long) :: XG) { frames := 8, cells := 0, slots := 0, locals := 250 } [.long 6685812842499999, .long 0] [] (xQl G (fun f => []) 207260198117499969) := by
  refine xof (by decide) (Nat.le_of_ble_eq_true rfl) (fun p e s m below meth c A C w hr hn ls hl => ?_)
  have hl : lv_has ls 4 [(0, .long 6685812842499999), (2, .long 0)] := hl
  refine lv_lload_n C.1 C.2.1 dX6_added_0 rfl (lv_at hl 0 rfl) ?_
  refine lv_ldc2 (v := 31) C.1 C.2.1 (xown C) (xhts C _ (List.mem_cons_of_mem _ gw_1089)) dX6_added_1 ?_
  refine lv_lmul C.1 C.2.1 dX6_added_4 ?_
  refine x_il (y := 207260198117499969) (by decide) ?_
  refine lv_lload_n C.1 C.2.1 dX6_added_5 rfl (lv_at hl 1 rfl) ?_
  refine lv_ladd C.1 C.2.1 dX6_added_6 ?_
  refine x_il (y := 207260198117499969) (by decide) ?_
  exact x_lret C w hr (fun _ => 0) rfl rfl dX6_added_7 (Nat.le_of_ble_eq_true rfl) (Nat.le_of_ble_eq_true rfl)
set_option maxHeartbeats 4000000 in
set_option maxRecDepth 100000 in
theorem c671_X6_added (l : Launch) (G : va_G) (cy : Nat → ClassId) (sa : String → Nat → Nat) (sv : Nat → Nat) : xM l G cy sa sv yX6_added (Cond.code yX6_added cX6_added 4 (some .long) :: XG) { frames := 8, cells := 0, slots := 0, locals := 250 } [.long 207260198117499969, .long 0] [] (xQl G (fun f => []) 6425066141642499039) := by
  refine xof (by decide) (Nat.le_of_ble_eq_true rfl) (fun p e s m below meth c A C w hr hn ls hl => ?_)
  have hl : lv_has ls 4 [(0, .long 207260198117499969), (2, .long 0)] := hl
  refine lv_lload_n C.1 C.2.1 dX6_added_0 rfl (lv_at hl 0 rfl) ?_
  refine lv_ldc2 (v := 31) C.1 C.2.1 (xown C) (xhts C _ (List.mem_cons_of_mem _ gw_1089)) dX6_added_1 ?_
  refine lv_lmul C.1 C.2.1 dX6_added_4 ?_
  refine x_il (y := 6425066141642499039) (by decide) ?_
  refine lv_lload_n C.1 C.2.1 dX6_added_5 rfl (lv_at hl 1 rfl) ?_
  refine lv_ladd C.1 C.2.1 dX6_added_6 ?_
  refine x_il (y := 6425066141642499039) (by decide) ?_
  exact x_lret C w hr (fun _ => 0) rfl rfl dX6_added_7 (Nat.le_of_ble_eq_true rfl) (Nat.le_of_ble_eq_true rfl)
set_option maxHeartbeats 4000000 in
set_option maxRecDepth 100000 in
theorem c672_X6_added (l : Launch) (G : va_G) (cy : Nat → ClassId) (sa : String → Nat → Nat) (sv : Nat → Nat) : xM l G cy sa sv yX6_added (Cond.code yX6_added cX6_added 4 (some .long) :: XG) { frames := 8, cells := 0, slots := 0, locals := 250 } [.long 6425066141642499039, .long 0] [] (xQl G (fun f => []) (-3737134419887597567)) := by
  refine xof (by decide) (Nat.le_of_ble_eq_true rfl) (fun p e s m below meth c A C w hr hn ls hl => ?_)
  have hl : lv_has ls 4 [(0, .long 6425066141642499039), (2, .long 0)] := hl
  refine lv_lload_n C.1 C.2.1 dX6_added_0 rfl (lv_at hl 0 rfl) ?_
  refine lv_ldc2 (v := 31) C.1 C.2.1 (xown C) (xhts C _ (List.mem_cons_of_mem _ gw_1089)) dX6_added_1 ?_
  refine lv_lmul C.1 C.2.1 dX6_added_4 ?_
  refine x_il (y := (-3737134419887597567)) (by decide) ?_
  refine lv_lload_n C.1 C.2.1 dX6_added_5 rfl (lv_at hl 1 rfl) ?_
  refine lv_ladd C.1 C.2.1 dX6_added_6 ?_
  refine x_il (y := (-3737134419887597567)) (by decide) ?_
  exact x_lret C w hr (fun _ => 0) rfl rfl dX6_added_7 (Nat.le_of_ble_eq_true rfl) (Nat.le_of_ble_eq_true rfl)
set_option maxHeartbeats 4000000 in
set_option maxRecDepth 100000 in
theorem c673_X6_added (l : Launch) (G : va_G) (cy : Nat → ClassId) (sa : String → Nat → Nat) (sv : Nat → Nat) : xM l G cy sa sv yX6_added (Cond.code yX6_added cX6_added 4 (some .long) :: XG) { frames := 8, cells := 0, slots := 0, locals := 250 } [.long (-3737134419887597567), .long 0] [] (xQl G (fun f => []) (-5170702574258214881)) := by
  refine xof (by decide) (Nat.le_of_ble_eq_true rfl) (fun p e s m below meth c A C w hr hn ls hl => ?_)
  have hl : lv_has ls 4 [(0, .long (-3737134419887597567)), (2, .long 0)] := hl
  refine lv_lload_n C.1 C.2.1 dX6_added_0 rfl (lv_at hl 0 rfl) ?_
  refine lv_ldc2 (v := 31) C.1 C.2.1 (xown C) (xhts C _ (List.mem_cons_of_mem _ gw_1089)) dX6_added_1 ?_
  refine lv_lmul C.1 C.2.1 dX6_added_4 ?_
  refine x_il (y := (-5170702574258214881)) (by decide) ?_
  refine lv_lload_n C.1 C.2.1 dX6_added_5 rfl (lv_at hl 1 rfl) ?_
  refine lv_ladd C.1 C.2.1 dX6_added_6 ?_
  refine x_il (y := (-5170702574258214881)) (by decide) ?_
  exact x_lret C w hr (fun _ => 0) rfl rfl dX6_added_7 (Nat.le_of_ble_eq_true rfl) (Nat.le_of_ble_eq_true rfl)
set_option maxHeartbeats 4000000 in
set_option maxRecDepth 100000 in
theorem c674_X6_added (l : Launch) (G : va_G) (cy : Nat → ClassId) (sa : String → Nat → Nat) (sv : Nat → Nat) : xM l G cy sa sv yX6_added (Cond.code yX6_added cX6_added 4 (some .long) :: XG) { frames := 8, cells := 0, slots := 0, locals := 250 } [.long (-5170702574258214881), .long 0] [] (xQl G (fun f => []) 5728916861381303233) := by
  refine xof (by decide) (Nat.le_of_ble_eq_true rfl) (fun p e s m below meth c A C w hr hn ls hl => ?_)
  have hl : lv_has ls 4 [(0, .long (-5170702574258214881)), (2, .long 0)] := hl
  refine lv_lload_n C.1 C.2.1 dX6_added_0 rfl (lv_at hl 0 rfl) ?_
  refine lv_ldc2 (v := 31) C.1 C.2.1 (xown C) (xhts C _ (List.mem_cons_of_mem _ gw_1089)) dX6_added_1 ?_
  refine lv_lmul C.1 C.2.1 dX6_added_4 ?_
  refine x_il (y := 5728916861381303233) (by decide) ?_
  refine lv_lload_n C.1 C.2.1 dX6_added_5 rfl (lv_at hl 1 rfl) ?_
  refine lv_ladd C.1 C.2.1 dX6_added_6 ?_
  refine x_il (y := 5728916861381303233) (by decide) ?_
  exact x_lret C w hr (fun _ => 0) rfl rfl dX6_added_7 (Nat.le_of_ble_eq_true rfl) (Nat.le_of_ble_eq_true rfl)
set_option maxHeartbeats 4000000 in
set_option maxRecDepth 100000 in
theorem c675_X6_added (l : Launch) (G : va_G) (cy : Nat → ClassId) (sa : String → Nat → Nat) (sv : Nat → Nat) : xM l G cy sa sv yX6_added (Cond.code yX6_added cX6_added 4 (some .long) :: XG) { frames := 8, cells := 0, slots := 0, locals := 250 } [.long 5728916861381303233, .long 0] [] (xQl G (fun f => []) (-6871018034275115937)) := by
  refine xof (by decide) (Nat.le_of_ble_eq_true rfl) (fun p e s m below meth c A C w hr hn ls hl => ?_)
  have hl : lv_has ls 4 [(0, .long 5728916861381303233), (2, .long 0)] := hl
  refine lv_lload_n C.1 C.2.1 dX6_added_0 rfl (lv_at hl 0 rfl) ?_
  refine lv_ldc2 (v := 31) C.1 C.2.1 (xown C) (xhts C _ (List.mem_cons_of_mem _ gw_1089)) dX6_added_1 ?_
  refine lv_lmul C.1 C.2.1 dX6_added_4 ?_
  refine x_il (y := (-6871018034275115937)) (by decide) ?_
  refine lv_lload_n C.1 C.2.1 dX6_added_5 rfl (lv_at hl 1 rfl) ?_
  refine lv_ladd C.1 C.2.1 dX6_added_6 ?_
  refine x_il (y := (-6871018034275115937)) (by decide) ?_
  exact x_lret C w hr (fun _ => 0) rfl rfl dX6_added_7 (Nat.le_of_ble_eq_true rfl) (Nat.le_of_ble_eq_true rfl)
set_option maxHeartbeats 4000000 in
set_option maxRecDepth 100000 in
theorem c676_X6_added (l : Launch) (G : va_G) (cy : Nat → ClassId) (sa : String → Nat → Nat) (sv : Nat → Nat) : xM l G cy sa sv yX6_added (Cond.code yX6_added cX6_added 4 (some .long) :: XG) { frames := 8, cells := 0, slots := 0, locals := 250 } [.long (-6871018034275115937), .long 0] [] (xQl G (fun f => []) 8359369821986025345) := by
  refine xof (by decide) (Nat.le_of_ble_eq_true rfl) (fun p e s m below meth c A C w hr hn ls hl => ?_)
  have hl : lv_has ls 4 [(0, .long (-6871018034275115937)), (2, .long 0)] := hl
  refine lv_lload_n C.1 C.2.1 dX6_added_0 rfl (lv_at hl 0 rfl) ?_
  refine lv_ldc2 (v := 31) C.1 C.2.1 (xown C) (xhts C _ (List.mem_cons_of_mem _ gw_1089)) dX6_added_1 ?_
  refine lv_lmul C.1 C.2.1 dX6_added_4 ?_
  refine x_il (y := 8359369821986025345) (by decide) ?_
  refine lv_lload_n C.1 C.2.1 dX6_added_5 rfl (lv_at hl 1 rfl) ?_
  refine lv_ladd C.1 C.2.1 dX6_added_6 ?_
  refine x_il (y := 8359369821986025345) (by decide) ?_
  exact x_lret C w hr (fun _ => 0) rfl rfl dX6_added_7 (Nat.le_of_ble_eq_true rfl) (Nat.le_of_ble_eq_true rfl)
set_option maxHeartbeats 4000000 in
set_option maxRecDepth 100000 in
theorem c677_X6_added (l : Launch) (G : va_G) (cy : Nat → ClassId) (sa : String → Nat → Nat) (sv : Nat → Nat) : xM l G cy sa sv yX6_added (Cond.code yX6_added cX6_added 4 (some .long) :: XG) { frames := 8, cells := 0, slots := 0, locals := 250 } [.long 8359369821986025345, .long 0] [] (xQl G (fun f => []) 886047449633063071) := by
  refine xof (by decide) (Nat.le_of_ble_eq_true rfl) (fun p e s m below meth c A C w hr hn ls hl => ?_)
  have hl : lv_has ls 4 [(0, .long 8359369821986025345), (2, .long 0)] := hl
  refine lv_lload_n C.1 C.2.1 dX6_added_0 rfl (lv_at hl 0 rfl) ?_
  refine lv_ldc2 (v := 31) C.1 C.2.1 (xown C) (xhts C _ (List.mem_cons_of_mem _ gw_1089)) dX6_added_1 ?_
  refine lv_lmul C.1 C.2.1 dX6_added_4 ?_
  refine x_il (y := 886047449633063071) (by decide) ?_
  refine lv_lload_n C.1 C.2.1 dX6_added_5 rfl (lv_at hl 1 rfl) ?_
  refine lv_ladd C.1 C.2.1 dX6_added_6 ?_
  refine x_il (y := 886047449633063071) (by decide) ?_
  exact x_lret C w hr (fun _ => 0) rfl rfl dX6_added_7 (Nat.le_of_ble_eq_true rfl) (Nat.le_of_ble_eq_true rfl)
set_option maxHeartbeats 4000000 in
set_option maxRecDepth 100000 in
theorem c678_X6_added (l : Launch) (G : va_G) (cy : Nat → ClassId) (sa : String → Nat → Nat) (sv : Nat → Nat) : xM l G cy sa sv yX6_added (Cond.code yX6_added cX6_added 4 (some .long) :: XG) { frames := 8, cells := 0, slots := 0, locals := 250 } [.long 886047449633063071, .long 0] [] (xQl G (fun f => []) 9020726864915403585) := by
  refine xof (by decide) (Nat.le_of_ble_eq_true rfl) (fun p e s m below meth c A C w hr hn ls hl => ?_)
  have hl : lv_has ls 4 [(0, .long 886047449633063071), (2, .long 0)] := hl
  refine lv_lload_n C.1 C.2.1 dX6_added_0 rfl (lv_at hl 0 rfl) ?_
  refine lv_ldc2 (v := 31) C.1 C.2.1 (xown C) (xhts C _ (List.mem_cons_of_mem _ gw_1089)) dX6_added_1 ?_
  refine lv_lmul C.1 C.2.1 dX6_added_4 ?_
  refine x_il (y := 9020726864915403585) (by decide) ?_
  refine lv_lload_n C.1 C.2.1 dX6_added_5 rfl (lv_at hl 1 rfl) ?_
  refine lv_ladd C.1 C.2.1 dX6_added_6 ?_
  refine x_il (y := 9020726864915403585) (by decide) ?_
  exact x_lret C w hr (fun _ => 0) rfl rfl dX6_added_7 (Nat.le_of_ble_eq_true rfl) (Nat.le_of_ble_eq_true rfl)
set_option maxHeartbeats 4000000 in
set_option maxRecDepth 100000 in
theorem c679_X6_added (l : Launch) (G : va_G) (cy : Nat → ClassId) (sa : String → Nat → Nat) (sv : Nat → Nat) : xM l G cy sa sv yX6_added (Cond.code yX6_added cX6_added 4 (some .long) :: XG) { frames := 8, cells := 0, slots := 0, locals := 250 } [.long 9020726864915403585, .long 0] [] (xQl G (fun f => []) 2941371706734236895) := by
  refine xof (by decide) (Nat.le_of_ble_eq_true rfl) (fun p e s m below meth c A C w hr hn ls hl => ?_)
  have hl : lv_has ls 4 [(0, .long 9020726864915403585), (2, .long 0)] := hl
  refine lv_lload_n C.1 C.2.1 dX6_added_0 rfl (lv_at hl 0 rfl) ?_
  refine lv_ldc2 (v := 31) C.1 C.2.1 (xown C) (xhts C _ (List.mem_cons_of_mem _ gw_1089)) dX6_added_1 ?_
  refine lv_lmul C.1 C.2.1 dX6_added_4 ?_
  refine x_il (y := 2941371706734236895) (by decide) ?_
  refine lv_lload_n C.1 C.2.1 dX6_added_5 rfl (lv_at hl 1 rfl) ?_
  refine lv_ladd C.1 C.2.1 dX6_added_6 ?_
  refine x_il (y := 2941371706734236895) (by decide) ?_
  exact x_lret C w hr (fun _ => 0) rfl rfl dX6_added_7 (Nat.le_of_ble_eq_true rfl) (Nat.le_of_ble_eq_true rfl)
set_option maxHeartbeats 4000000 in
set_option maxRecDepth 100000 in
theorem c680_J0_length_8abf5 (l : Launch) (G : va_G) (cy : Nat → ClassId) (sa : String → Nat → Nat) (sv : Nat → Nat) (h0 h1 : Nat) : xM l G cy sa sv yJ0_length_8abf5 (Cond.code yJ0_length_8abf5 cJ0_length_8abf5 1 (some .int) :: XG) { frames := 9, cells := 0, slots := 0, locals := 270 } [.ref h0] [(h0, .inr (0, [.ref h1, .int 0, .int 0, .int 0])), (h1, .inl (cy 0, 2, .inl (va_cpy (va_cpy (fun j => ([125] : List Int32).getD j 0) (va_cpy (fun j => ([] : List Int32).getD j 0) (va_cpy (fun j => ([123] : List Int32).getD j 0) (fun _ => 0) 0 0 1) 0 1 0) 0 1 1) (fun _ => 0) 0 0 2)))] (xQi G (fun f => [(h0, .inr (0, [.ref h1, .int 0, .int 0, .int 0])), (h1, .inl (cy 0, 2, .inl (va_cpy (va_cpy (fun j => ([125] : List Int32).getD j 0) (va_cpy (fun j => ([] : List Int32).getD j 0) (va_cpy (fun j => ([123] : List Int32).getD j 0) (fun _ => 0) 0 0 1) 0 1 0) 0 1 1) (fun _ => 0) 0 0 2)))]) 2) := by
  refine xof (by decide) (Nat.le_of_ble_eq_true rfl) (fun p e s m below meth c A C w hr hn ls hl => ?_)
  have hl : lv_has ls 1 [(0, .ref h0)] := hl
  refine lv_aload_n C.1 C.2.1 dJ0_length_8abf5_0 rfl (lv_at hl 0 rfl) ?_
  refine x_get (v := .ref h1) C w 0 0 0 (xin_J0 _) rfl rfl (by decide) (List.mem_cons_of_mem _ gw_530) rfl rfl dJ0_length_8abf5_1 ?_
  refine x_alen (v := 2) C w 1 0 rfl rfl (by rfl) dJ0_length_8abf5_4 ?_
  refine lv_aload_n C.1 C.2.1 dJ0_length_8abf5_5 rfl (lv_at hl 0 rfl) ?_
  refine x_ki C w [0] [1] rfl rfl (by decide) (by decide) (va_runV (As := []) (rest := [.int 2]) (xfix C) (c656_J0_coder_7d493 l G cy sa sv h0 h1 (xtr C) _) (cwV 0 (xhts C) (xgV (maxL := 0) (cc := ⟨#[]⟩) (ret := none) gw_605 gw_606 gw_607 gw_492 gc_J0_coder_7d493) rfl rfl rfl (by decide +kernel) ⟨(Nat.le_of_ble_eq_true rfl), (Nat.le_of_ble_eq_true rfl)⟩) (xPV C w [0] rfl (by decide) (ci := 0) (q0 := 0) rfl rfl) rfl rfl hl.1 rfl (lv_room (Nat.le_of_ble_eq_true rfl)) dJ0_length_8abf5_6 ⟨(Nat.le_of_ble_eq_true rfl), (Nat.le_of_ble_eq_true rfl)⟩) (fun f5019 H locs w => ?_)
  have w : xW G A s [(h1, .inl (cy 0, 2, .inl (va_cpy (va_cpy (fun j => ([125] : List Int32).getD j 0) (va_cpy (fun j => ([] : List Int32).getD j 0) (va_cpy (fun j => ([123] : List Int32).getD j 0) (fun _ => 0) 0 0 1) 0 1 0) 0 1 1) (fun _ => 0) 0 0 2))), (h0, .inr (0, [.ref h1, .int 0, .int 0, .int 0]))] H _ := w
  refine lv_ishr C.1 C.2.1 dJ0_length_8abf5_9 ?_
  refine x_is (y := 2) (by decide) ?_
  have w := w.sub (ws' := [(h0, .inr (0, [.ref h1, .int 0, .int 0, .int 0])), (h1, .inl (cy 0, 2, .inl (va_cpy (va_cpy (fun j => ([125] : List Int32).getD j 0) (va_cpy (fun j => ([] : List Int32).getD j 0) (va_cpy (fun j => ([123] : List Int32).getD j 0) (fun _ => 0) 0 0 1) 0 1 0) 0 1 1) (fun _ => 0) 0 0 2)))]) [1, 0] (by decide) rfl rfl
  exact x_iret C w hr (fun _ => 0) rfl rfl dJ0_length_8abf5_10 (Nat.le_of_ble_eq_true rfl) (Nat.le_of_ble_eq_true rfl)
set_option maxHeartbeats 4000000 in
set_option maxRecDepth 100000 in
theorem c681_X6_added (l : Launch) (G : va_G) (cy : Nat → ClassId) (sa : String → Nat → Nat) (sv : Nat → Nat) : xM l G cy sa sv yX6_added (Cond.code yX6_added cX6_added 4 (some .long) :: XG) { frames := 8, cells := 0, slots := 0, locals := 250 } [.long 2941371706734236895, .long 2] [] (xQl G (fun f => []) (-1051197459786414333)) := by
  refine xof (by decide) (Nat.le_of_ble_eq_true rfl) (fun p e s m below meth c A C w hr hn ls hl => ?_)
  have hl : lv_has ls 4 [(0, .long 2941371706734236895), (2, .long 2)] := hl
  refine lv_lload_n C.1 C.2.1 dX6_added_0 rfl (lv_at hl 0 rfl) ?_
  refine lv_ldc2 (v := 31) C.1 C.2.1 (xown C) (xhts C _ (List.mem_cons_of_mem _ gw_1089)) dX6_added_1 ?_
  refine lv_lmul C.1 C.2.1 dX6_added_4 ?_
  refine x_il (y := (-1051197459786414335)) (by decide) ?_
  refine lv_lload_n C.1 C.2.1 dX6_added_5 rfl (lv_at hl 1 rfl) ?_
  refine lv_ladd C.1 C.2.1 dX6_added_6 ?_
  refine x_il (y := (-1051197459786414333)) (by decide) ?_
  exact x_lret C w hr (fun _ => 0) rfl rfl dX6_added_7 (Nat.le_of_ble_eq_true rfl) (Nat.le_of_ble_eq_true rfl)
set_option maxHeartbeats 4000000 in
set_option maxRecDepth 100000 in
theorem c682_X6_added (l : Launch) (G : va_G) (cy : Nat → ClassId) (sa : String → Nat → Nat) (sv : Nat → Nat) : xM l G cy sa sv yX6_added (Cond.code yX6_added cX6_added 4 (some .long) :: XG) { frames := 8, cells := 0, slots := 0, locals := 250 } [.long (-1051197459786414333), .long 0] [] (xQl G (fun f => []) 4306366894040258909) := by
  refine xof (by decide) (Nat.le_of_ble_eq_true rfl) (fun p e s m below meth c A C w hr hn ls hl => ?_)
  have hl : lv_has ls 4 [(0, .long (-1051197459786414333)), (2, .long 0)] := hl
  refine lv_lload_n C.1 C.2.1 dX6_added_0 rfl (lv_at hl 0 rfl) ?_
  refine lv_ldc2 (v := 31) C.1 C.2.1 (xown C) (xhts C _ (List.mem_cons_of_mem _ gw_1089)) dX6_added_1 ?_
  refine lv_lmul C.1 C.2.1 dX6_added_4 ?_
  refine x_il (y := 4306366894040258909) (by decide) ?_
  refine lv_lload_n C.1 C.2.1 dX6_added_5 rfl (lv_at hl 1 rfl) ?_
  refine lv_ladd C.1 C.2.1 dX6_added_6 ?_
  refine x_il (y := 4306366894040258909) (by decide) ?_
  exact x_lret C w hr (fun _ => 0) rfl rfl dX6_added_7 (Nat.le_of_ble_eq_true rfl) (Nat.le_of_ble_eq_true rfl)
set_option maxHeartbeats 4000000 in
set_option maxRecDepth 100000 in
theorem c683_X6_added (l : Launch) (G : va_G) (cy : Nat → ClassId) (sa : String → Nat → Nat) (sv : Nat → Nat) : xM l G cy sa sv yX6_added (Cond.code yX6_added cX6_added 4 (some .long) :: XG) { frames := 8, cells := 0, slots := 0, locals := 250 } [.long 4306366894040258909, .long 1] [] (xQl G (fun f => []) 4370165199281164868) := by
  refine xof (by decide) (Nat.le_of_ble_eq_true rfl) (fun p e s m below meth c A C w hr hn ls hl => ?_)
  have hl : lv_has ls 4 [(0, .long 4306366894040258909), (2, .long 1)] := hl
  refine lv_lload_n C.1 C.2.1 dX6_added_0 rfl (lv_at hl 0 rfl) ?_
  refine lv_ldc2 (v := 31) C.1 C.2.1 (xown C) (xhts C _ (List.mem_cons_of_mem _ gw_1089)) dX6_added_1 ?_
  refine lv_lmul C.1 C.2.1 dX6_added_4 ?_
  refine x_il (y := 4370165199281164867) (by decide) ?_
  refine lv_lload_n C.1 C.2.1 dX6_added_5 rfl (lv_at hl 1 rfl) ?_
  refine lv_ladd C.1 C.2.1 dX6_added_6 ?_
  refine x_il (y := 4370165199281164868) (by decide) ?_
  exact x_lret C w hr (fun _ => 0) rfl rfl dX6_added_7 (Nat.le_of_ble_eq_true rfl) (Nat.le_of_ble_eq_true rfl)
set_option maxHeartbeats 4000000 in
set_option maxRecDepth 100000 in
theorem c684_X6_digest (l : Launch) (G : va_G) (cy : Nat → ClassId) (sa : String → Nat → Nat) (sv : Nat → Nat) (h0 h1 h2 h3 h4 h5 h6 h7 : Nat) : xM l G cy sa sv yX6_digest (Cond.code yX6_digest cX6_digest 7 (some .long) :: XG) { frames := 15, cells := 26, slots := 93, locals := 402 } [.ref h0] [(h0, .inr (10, [.ref h2, .ref h4, .ref h3, .ref h7, .ref h1, .ref h6, .ref h5, .int 0, .int 0])), (h1, .inl (cy 2, 3, .inl (fun _ => 0))), (h2, .inr (3, [.int 0, .ref (sv 0), .int 0])), (h3, .inr (3, [.int 0, .ref (sv 0), .int 0])), (h4, .inr (3, [.int 0, .ref (sv 0), .int 0])), (h5, .inl (cy 1, 3, .inl (fun _ => 0))), (h6, .inl (cy 1, 3, .inl (fun _ => 0)))] (xQl G (fun f => [(h0, .inr (10, [.ref h2, .ref h4, .ref h3, .ref h7, .ref h1, .ref h6, .ref h5, .int 0, .int 0])), (h1, .inl (cy 2, 3, .inl (fun _ => 0))), (h2, .inr (3, [.int 0, .ref (sv 0), .int 0])), (h3, .inr (3, [.int 0, .ref (sv 0), .int 0])), (h4, .inr (3, [.int 0, .ref (sv 0), .int 0])), (h5, .inl (cy 1, 3, .inl (fun _ => 0))), (h6, .inl (cy 1, 3, .inl (fun _ => 0)))]) 4370165199281164868) := by
  refine xof (by decide) (Nat.le_of_ble_eq_true rfl) (fun p e s m below meth c A C w hr hn ls hl => ?_)
  have hl : lv_has ls 7 [(0, .ref h0)] := hl
  refine lv_aload_n C.1 C.2.1 dX6_digest_0 rfl (lv_at hl 0 rfl) ?_
  refine lv_iconst (v := 0) C.1 C.2.1 dX6_digest_1 (by decide) ?_
  refine x_put (ty := .int) (ty0 := tyX6) C w 0 10 8 (xin_X6 _) tyX6_ok nmX6 rfl rfl (by decide) (List.mem_cons_of_mem _ gw_112) rfl rfl (by decide +kernel) rfl rfl (Nat.le_of_ble_eq_true rfl) dX6_digest_2 (fun H locs w => ?_)
  have w : xW G A s [(h0, .inr (10, [.ref h2, .ref h4, .ref h3, .ref h7, .ref h1, .ref h6, .ref h5, .int 0, .int 0])), (h1, .inl (cy 2, 3, .inl (fun _ => 0))), (h2, .inr (3, [.int 0, .ref (sv 0), .int 0])), (h3, .inr (3, [.int 0, .ref (sv 0), .int 0])), (h4, .inr (3, [.int 0, .ref (sv 0), .int 0])), (h5, .inl (cy 1, 3, .inl (fun _ => 0))), (h6, .inl (cy 1, 3, .inl (fun _ => 0)))] H _ := w
  refine lv_ldc2 (v := 7839) C.1 C.2.1 (xown C) (xhts C _ (List.mem_cons_of_mem _ gw_1088)) dX6_digest_5 ?_
  refine lv_lstore_n (lv' := [(1, .long 7839), (0, .ref h0)]) C.1 C.2.1 dX6_digest_8 rfl hl (by decide) rfl (fun ls hl => ?_)
  refine lv_iconst (v := 0) C.1 C.2.1 dX6_digest_9 (by decide) ?_
  refine lv_istore_n (lv' := [(3, .int 0), (1, .long 7839), (0, .ref h0)]) C.1 C.2.1 dX6_digest_10 rfl hl (by decide) rfl (fun ls hl => ?_)
  refine lv_iload_n C.1 C.2.1 dX6_digest_11 rfl (lv_at hl 0 rfl) ?_
  refine lv_iconst (v := 5) C.1 C.2.1 dX6_digest_12 (by decide) ?_
  refine lv_icmp_ge (tgt := 33) C.1 C.2.1 dX6_digest_13 (by decide) (fun c9 => absurd c9 (by decide)) (fun _ => ?_)
  refine lv_lload_n C.1 C.2.1 dX6_digest_16 rfl (lv_at hl 1 rfl) ?_
  refine lv_aload_n C.1 C.2.1 dX6_digest_17 rfl (lv_at hl 2 rfl) ?_
  refine lv_iload_n C.1 C.2.1 dX6_digest_18 rfl (lv_at hl 0 rfl) ?_
  refine x_ki C w [0, 1, 2, 3, 4] [5, 6] rfl rfl (by decide) (by decide) (va_runV (As := [.int 0]) (rest := [.long 7839]) (xfix C) (c602_X6_houseNow l G cy sa sv h0 h1 h2 h3 h4 h7 h6 h5 (xtr C) _) (cwV 1 (xhts C) (xgV (maxL := 0) (cc := ⟨#[]⟩) (ret := none) gw_1014 gw_1015 gw_1016 gw_58 gc_X6_houseNow) rfl rfl rfl (by decide +kernel) ⟨(Nat.le_of_ble_eq_true rfl), (Nat.le_of_ble_eq_true rfl)⟩) (xPV C w [0, 1, 2, 3, 4] rfl (by decide) (ci := 10) (q0 := 0) rfl rfl) rfl rfl hl.1 rfl (lv_room (Nat.le_of_ble_eq_true rfl)) dX6_digest_19 ⟨(Nat.le_of_ble_eq_true rfl), (Nat.le_of_ble_eq_true rfl)⟩) (fun f4694 H locs w => ?_)
  have w : xW G A s [(h5, .inl (cy 1, 3, .inl (fun _ => 0))), (h6, .inl (cy 1, 3, .inl (fun _ => 0))), (h0, .inr (10, [.ref h2, .ref h4, .ref h3, .ref h7, .ref h1, .ref h6, .ref h5, .int 0, .int 0])), (h1, .inl (cy 2, 3, .inl (fun _ => 0))), (h2, .inr (3, [.int 0, .ref (sv 0), .int 0])), (h3, .inr (3, [.int 0, .ref (sv 0), .int 0])), (h4, .inr (3, [.int 0, .ref (sv 0), .int 0]))] H _ := w
  refine W.widen (k := 1) (n := 5) (Nat.le_of_ble_eq_true rfl) (Nat.le_of_ble_eq_true rfl) ?_
  refine lv_i2l (v := 0) C.1 C.2.1 dX6_digest_22 (by decide) ?_
  refine x_kl C w [] [0, 1, 2, 3, 4, 5, 6] rfl rfl (by decide) (by decide) (va_runS (As := [.long 7839, .long 0]) (rest := []) (xfix C) (c662_X6_added l G cy sa sv (xtr C) _) (va_cwS 2 (xhts C) (xgS gw_1091 gw_1092 gw_58 gc_X6_added) rfl rfl rfl (by decide +kernel) ⟨(Nat.le_of_ble_eq_true rfl), (Nat.le_of_ble_eq_true rfl)⟩) (xPS C w [] rfl (by decide)) rfl rfl hl.1 rfl (lv_room (Nat.le_of_ble_eq_true rfl)) dX6_digest_23 ⟨(Nat.le_of_ble_eq_true rfl), (Nat.le_of_ble_eq_true rfl)⟩) (fun f4695 H locs w => ?_)
  have w : xW G A s [(h5, .inl (cy 1, 3, .inl (fun _ => 0))), (h6, .inl (cy 1, 3, .inl (fun _ => 0))), (h0, .inr (10, [.ref h2, .ref h4, .ref h3, .ref h7, .ref h1, .ref h6, .ref h5, .int 0, .int 0])), (h1, .inl (cy 2, 3, .inl (fun _ => 0))), (h2, .inr (3, [.int 0, .ref (sv 0), .int 0])), (h3, .inr (3, [.int 0, .ref (sv 0), .int 0])), (h4, .inr (3, [.int 0, .ref (sv 0), .int 0]))] H _ := w
  refine lv_lstore_n (lv' := [(1, .long 243009), (3, .int 0), (0, .ref h0)]) C.1 C.2.1 dX6_digest_26 rfl hl (by decide) rfl (fun ls hl => ?_)
  refine lv_iinc (v := 1) (lv' := [(3, .int 1), (1, .long 243009), (0, .ref h0)]) C.1 C.2.1 dX6_digest_27 hl (k := 1) rfl (by decide) (by decide) rfl (fun ls hl => ?_)
  refine lv_goto (tgt := 11) C.1 C.2.1 dX6_digest_30 (by decide) ?_
  refine lv_iload_n C.1 C.2.1 dX6_digest_11 rfl (lv_at hl 0 rfl) ?_
  refine lv_iconst (v := 5) C.1 C.2.1 dX6_digest_12 (by decide) ?_
  refine lv_icmp_ge (tgt := 33) C.1 C.2.1 dX6_digest_13 (by decide) (fun c9 => absurd c9 (by decide)) (fun _ => ?_)
  refine lv_lload_n C.1 C.2.1 dX6_digest_16 rfl (lv_at hl 1 rfl) ?_
  refine lv_aload_n C.1 C.2.1 dX6_digest_17 rfl (lv_at hl 2 rfl) ?_
  refine lv_iload_n C.1 C.2.1 dX6_digest_18 rfl (lv_at hl 0 rfl) ?_
  refine x_ki C w [2, 3, 4, 5, 6] [0, 1] rfl rfl (by decide) (by decide) (va_runV (As := [.int 1]) (rest := [.long 243009]) (xfix C) (c606_X6_houseNow l G cy sa sv h0 h1 h2 h3 h4 h7 h6 h5 (xtr C) _) (cwV 1 (xhts C) (xgV (maxL := 0) (cc := ⟨#[]⟩) (ret := none) gw_1014 gw_1015 gw_1016 gw_58 gc_X6_houseNow) rfl rfl rfl (by decide +kernel) ⟨(Nat.le_of_ble_eq_true rfl), (Nat.le_of_ble_eq_true rfl)⟩) (xPV C w [2, 3, 4, 5, 6] rfl (by decide) (ci := 10) (q0 := 2) rfl rfl) rfl rfl hl.1 rfl (lv_room (Nat.le_of_ble_eq_true rfl)) dX6_digest_19 ⟨(Nat.le_of_ble_eq_true rfl), (Nat.le_of_ble_eq_true rfl)⟩) (fun f4705 H locs w => ?_)
  have w : xW G A s [(h5, .inl (cy 1, 3, .inl (fun _ => 0))), (h6, .inl (cy 1, 3, .inl (fun _ => 0))), (h0, .inr (10, [.ref h2, .ref h4, .ref h3, .ref h7, .ref h1, .ref h6, .ref h5, .int 0, .int 0])), (h1, .inl (cy 2, 3, .inl (fun _ => 0))), (h2, .inr (3, [.int 0, .ref (sv 0), .int 0])), (h3, .inr (3, [.int 0, .ref (sv 0), .int 0])), (h4, .inr (3, [.int 0, .ref (sv 0), .int 0]))] H _ := w
  refine W.widen (k := 2) (n := 10) (Nat.le_of_ble_eq_true rfl) (Nat.le_of_ble_eq_true rfl) ?_
  refine lv_i2l (v := 0) C.1 C.2.1 dX6_digest_22 (by decide) ?_
  refine x_kl C w [] [0, 1, 2, 3, 4, 5, 6] rfl rfl (by decide) (by decide) (va_runS (As := [.long 243009, .long 0]) (rest := []) (xfix C) (c663_X6_added l G cy sa sv (xtr C) _) (va_cwS 2 (xhts C) (xgS gw_1091 gw_1092 gw_58 gc_X6_added) rfl rfl rfl (by decide +kernel) ⟨(Nat.le_of_ble_eq_true rfl), (Nat.le_of_ble_eq_true rfl)⟩) (xPS C w [] rfl (by decide)) rfl rfl hl.1 rfl (lv_room (Nat.le_of_ble_eq_true rfl)) dX6_digest_23 ⟨(Nat.le_of_ble_eq_true rfl), (Nat.le_of_ble_eq_true rfl)⟩) (fun f4706 H locs w => ?_)
  have w : xW G A s [(h5, .inl (cy 1, 3, .inl (fun _ => 0))), (h6, .inl (cy 1, 3, .inl (fun _ => 0))), (h0, .inr (10, [.ref h2, .ref h4, .ref h3, .ref h7, .ref h1, .ref h6, .ref h5, .int 0, .int 0])), (h1, .inl (cy 2, 3, .inl (fun _ => 0))), (h2, .inr (3, [.int 0, .ref (sv 0), .int 0])), (h3, .inr (3, [.int 0, .ref (sv 0), .int 0])), (h4, .inr (3, [.int 0, .ref (sv 0), .int 0]))] H _ := w
  refine lv_lstore_n (lv' := [(1, .long 7533279), (3, .int 1), (0, .ref h0)]) C.1 C.2.1 dX6_digest_26 rfl hl (by decide) rfl (fun ls hl => ?_)
  refine lv_iinc (v := 2) (lv' := [(3, .int 2), (1, .long 7533279), (0, .ref h0)]) C.1 C.2.1 dX6_digest_27 hl (k := 1) rfl (by decide) (by decide) rfl (fun ls hl => ?_)
  refine lv_goto (tgt := 11) C.1 C.2.1 dX6_digest_30 (by decide) ?_
  refine lv_iload_n C.1 C.2.1 dX6_digest_11 rfl (lv_at hl 0 rfl) ?_
  refine lv_iconst (v := 5) C.1 C.2.1 dX6_digest_12 (by decide) ?_
  refine lv_icmp_ge (tgt := 33) C.1 C.2.1 dX6_digest_13 (by decide) (fun c9 => absurd c9 (by decide)) (fun _ => ?_)
  refine lv_lload_n C.1 C.2.1 dX6_digest_16 rfl (lv_at hl 1 rfl) ?_
  refine lv_aload_n C.1 C.2.1 dX6_digest_17 rfl (lv_at hl 2 rfl) ?_
  refine lv_iload_n C.1 C.2.1 dX6_digest_18 rfl (lv_at hl 0 rfl) ?_
  refine x_ki C w [2, 3, 4, 5, 6] [0, 1] rfl rfl (by decide) (by decide) (va_runV (As := [.int 2]) (rest := [.long 7533279]) (xfix C) (c610_X6_houseNow l G cy sa sv h0 h1 h2 h3 h4 h7 h6 h5 (xtr C) _) (cwV 1 (xhts C) (xgV (maxL := 0) (cc := ⟨#[]⟩) (ret := none) gw_1014 gw_1015 gw_1016 gw_58 gc_X6_houseNow) rfl rfl rfl (by decide +kernel) ⟨(Nat.le_of_ble_eq_true rfl), (Nat.le_of_ble_eq_true rfl)⟩) (xPV C w [2, 3, 4, 5, 6] rfl (by decide) (ci := 10) (q0 := 2) rfl rfl) rfl rfl hl.1 rfl (lv_room (Nat.le_of_ble_eq_true rfl)) dX6_digest_19 ⟨(Nat.le_of_ble_eq_true rfl), (Nat.le_of_ble_eq_true rfl)⟩) (fun f4716 H locs w => ?_)
  have w : xW G A s [(h5, .inl (cy 1, 3, .inl (fun _ => 0))), (h6, .inl (cy 1, 3, .inl (fun _ => 0))), (h0, .inr (10, [.ref h2, .ref h4, .ref h3, .ref h7, .ref h1, .ref h6, .ref h5, .int 0, .int 0])), (h1, .inl (cy 2, 3, .inl (fun _ => 0))), (h2, .inr (3, [.int 0, .ref (sv 0), .int 0])), (h3, .inr (3, [.int 0, .ref (sv 0), .int 0])), (h4, .inr (3, [.int 0, .ref (sv 0), .int 0]))] H _ := w
  refine W.widen (k := 3) (n := 15) (Nat.le_of_ble_eq_true rfl) (Nat.le_of_ble_eq_true rfl) ?_
  refine lv_i2l (v := 0) C.1 C.2.1 dX6_digest_22 (by decide) ?_
  refine x_kl C w [] [0, 1, 2, 3, 4, 5, 6] rfl rfl (by decide) (by decide) (va_runS (As := [.long 7533279, .long 0]) (rest := []) (xfix C) (c664_X6_added l G cy sa sv (xtr C) _) (va_cwS 2 (xhts C) (xgS gw_1091 gw_1092 gw_58 gc_X6_added) rfl rfl rfl (by decide +kernel) ⟨(Nat.le_of_ble_eq_true rfl), (Nat.le_of_ble_eq_true rfl)⟩) (xPS C w [] rfl (by decide)) rfl rfl hl.1 rfl (lv_room (Nat.le_of_ble_eq_true rfl)) dX6_digest_23 ⟨(Nat.le_of_ble_eq_true rfl), (Nat.le_of_ble_eq_true rfl)⟩) (fun f4717 H locs w => ?_)
  have w : xW G A s [(h5, .inl (cy 1, 3, .inl (fun _ => 0))), (h6, .inl (cy 1, 3, .inl (fun _ => 0))), (h0, .inr (10, [.ref h2, .ref h4, .ref h3, .ref h7, .ref h1, .ref h6, .ref h5, .int 0, .int 0])), (h1, .inl (cy 2, 3, .inl (fun _ => 0))), (h2, .inr (3, [.int 0, .ref (sv 0), .int 0])), (h3, .inr (3, [.int 0, .ref (sv 0), .int 0])), (h4, .inr (3, [.int 0, .ref (sv 0), .int 0]))] H _ := w
  refine lv_lstore_n (lv' := [(1, .long 233531649), (3, .int 2), (0, .ref h0)]) C.1 C.2.1 dX6_digest_26 rfl hl (by decide) rfl (fun ls hl => ?_)
  refine lv_iinc (v := 3) (lv' := [(3, .int 3), (1, .long 233531649), (0, .ref h0)]) C.1 C.2.1 dX6_digest_27 hl (k := 1) rfl (by decide) (by decide) rfl (fun ls hl => ?_)
  refine lv_goto (tgt := 11) C.1 C.2.1 dX6_digest_30 (by decide) ?_
  refine lv_iload_n C.1 C.2.1 dX6_digest_11 rfl (lv_at hl 0 rfl) ?_
  refine lv_iconst (v := 5) C.1 C.2.1 dX6_digest_12 (by decide) ?_
  refine lv_icmp_ge (tgt := 33) C.1 C.2.1 dX6_digest_13 (by decide) (fun c9 => absurd c9 (by decide)) (fun _ => ?_)
  refine lv_lload_n C.1 C.2.1 dX6_digest_16 rfl (lv_at hl 1 rfl) ?_
  refine lv_aload_n C.1 C.2.1 dX6_digest_17 rfl (lv_at hl 2 rfl) ?_
  refine lv_iload_n C.1 C.2.1 dX6_digest_18 rfl (lv_at hl 0 rfl) ?_
  refine x_ki C w [2, 3, 4, 5, 6] [0, 1] rfl rfl (by decide) (by decide) (va_runV (As := [.int 3]) (rest := [.long 233531649]) (xfix C) (c615_X6_houseNow l G cy sa sv h0 h1 h2 h3 h4 h7 h6 h5 (xtr C) _) (cwV 1 (xhts C) (xgV (maxL := 0) (cc := ⟨#[]⟩) (ret := none) gw_1014 gw_1015 gw_1016 gw_58 gc_X6_houseNow) rfl rfl rfl (by decide +kernel) ⟨(Nat.le_of_ble_eq_true rfl), (Nat.le_of_ble_eq_true rfl)⟩) (xPV C w [2, 3, 4, 5, 6] rfl (by decide) (ci := 10) (q0 := 2) rfl rfl) rfl rfl hl.1 rfl (lv_room (Nat.le_of_ble_eq_true rfl)) dX6_digest_19 ⟨(Nat.le_of_ble_eq_true rfl), (Nat.le_of_ble_eq_true rfl)⟩) (fun f4727 H locs w => ?_)
  have w : xW G A s [(h5, .inl (cy 1, 3, .inl (fun _ => 0))), (h6, .inl (cy 1, 3, .inl (fun _ => 0))), (h0, .inr (10, [.ref h2, .ref h4, .ref h3, .ref h7, .ref h1, .ref h6, .ref h5, .int 0, .int 0])), (h1, .inl (cy 2, 3, .inl (fun _ => 0))), (h2, .inr (3, [.int 0, .ref (sv 0), .int 0])), (h3, .inr (3, [.int 0, .ref (sv 0), .int 0])), (h4, .inr (3, [.int 0, .ref (sv 0), .int 0]))] H _ := w
  refine W.widen (k := 4) (n := 20) (Nat.le_of_ble_eq_true rfl) (Nat.le_of_ble_eq_true rfl) ?_
  refine lv_i2l (v := 0) C.1 C.2.1 dX6_digest_22 (by decide) ?_
  refine x_kl C w [] [0, 1, 2, 3, 4, 5, 6] rfl rfl (by decide) (by decide) (va_runS (As := [.long 233531649, .long 0]) (rest := []) (xfix C) (c665_X6_added l G cy sa sv (xtr C) _) (va_cwS 2 (xhts C) (xgS gw_1091 gw_1092 gw_58 gc_X6_added) rfl rfl rfl (by decide +kernel) ⟨(Nat.le_of_ble_eq_true rfl), (Nat.le_of_ble_eq_true rfl)⟩) (xPS C w [] rfl (by decide)) rfl rfl hl.1 rfl (lv_room (Nat.le_of_ble_eq_true rfl)) dX6_digest_23 ⟨(Nat.le_of_ble_eq_true rfl), (Nat.le_of_ble_eq_true rfl)⟩) (fun f4728 H locs w => ?_)
  have w : xW G A s [(h5, .inl (cy 1, 3, .inl (fun _ => 0))), (h6, .inl (cy 1, 3, .inl (fun _ => 0))), (h0, .inr (10, [.ref h2, .ref h4, .ref h3, .ref h7, .ref h1, .ref h6, .ref h5, .int 0, .int 0])), (h1, .inl (cy 2, 3, .inl (fun _ => 0))), (h2, .inr (3, [.int 0, .ref (sv 0), .int 0])), (h3, .inr (3, [.int 0, .ref (sv 0), .int 0])), (h4, .inr (3, [.int 0, .ref (sv 0), .int 0]))] H _ := w
  refine lv_lstore_n (lv' := [(1, .long 7239481119), (3, .int 3), (0, .ref h0)]) C.1 C.2.1 dX6_digest_26 rfl hl (by decide) rfl (fun ls hl => ?_)
  refine lv_iinc (v := 4) (lv' := [(3, .int 4), (1, .long 7239481119), (0, .ref h0)]) C.1 C.2.1 dX6_digest_27 hl (k := 1) rfl (by decide) (by decide) rfl (fun ls hl => ?_)
  refine lv_goto (tgt := 11) C.1 C.2.1 dX6_digest_30 (by decide) ?_
  refine lv_iload_n C.1 C.2.1 dX6_digest_11 rfl (lv_at hl 0 rfl) ?_
  refine lv_iconst (v := 5) C.1 C.2.1 dX6_digest_12 (by decide) ?_
  refine lv_icmp_ge (tgt := 33) C.1 C.2.1 dX6_digest_13 (by decide) (fun c9 => absurd c9 (by decide)) (fun _ => ?_)
  refine lv_lload_n C.1 C.2.1 dX6_digest_16 rfl (lv_at hl 1 rfl) ?_
  refine lv_aload_n C.1 C.2.1 dX6_digest_17 rfl (lv_at hl 2 rfl) ?_
  refine lv_iload_n C.1 C.2.1 dX6_digest_18 rfl (lv_at hl 0 rfl) ?_
  refine x_ki C w [2, 3, 4, 5, 6] [0, 1] rfl rfl (by decide) (by decide) (va_runV (As := [.int 4]) (rest := [.long 7239481119]) (xfix C) (c619_X6_houseNow l G cy sa sv h0 h1 h2 h3 h4 h7 h6 h5 (xtr C) _) (cwV 1 (xhts C) (xgV (maxL := 0) (cc := ⟨#[]⟩) (ret := none) gw_1014 gw_1015 gw_1016 gw_58 gc_X6_houseNow) rfl rfl rfl (by decide +kernel) ⟨(Nat.le_of_ble_eq_true rfl), (Nat.le_of_ble_eq_true rfl)⟩) (xPV C w [2, 3, 4, 5, 6] rfl (by decide) (ci := 10) (q0 := 2) rfl rfl) rfl rfl hl.1 rfl (lv_room (Nat.le_of_ble_eq_true rfl)) dX6_digest_19 ⟨(Nat.le_of_ble_eq_true rfl), (Nat.le_of_ble_eq_true rfl)⟩) (fun f4738 H locs w => ?_)
  have w : xW G A s [(h5, .inl (cy 1, 3, .inl (fun _ => 0))), (h6, .inl (cy 1, 3, .inl (fun _ => 0))), (h0, .inr (10, [.ref h2, .ref h4, .ref h3, .ref h7, .ref h1, .ref h6, .ref h5, .int 0, .int 0])), (h1, .inl (cy 2, 3, .inl (fun _ => 0))), (h2, .inr (3, [.int 0, .ref (sv 0), .int 0])), (h3, .inr (3, [.int 0, .ref (sv 0), .int 0])), (h4, .inr (3, [.int 0, .ref (sv 0), .int 0]))] H _ := w
  refine W.widen (k := 5) (n := 25) (Nat.le_of_ble_eq_true rfl) (Nat.le_of_ble_eq_true rfl) ?_
  refine lv_i2l (v := 0) C.1 C.2.1 dX6_digest_22 (by decide) ?_
  refine x_kl C w [] [0, 1, 2, 3, 4, 5, 6] rfl rfl (by decide) (by decide) (va_runS (As := [.long 7239481119, .long 0]) (rest := []) (xfix C) (c666_X6_added l G cy sa sv (xtr C) _) (va_cwS 2 (xhts C) (xgS gw_1091 gw_1092 gw_58 gc_X6_added) rfl rfl rfl (by decide +kernel) ⟨(Nat.le_of_ble_eq_true rfl), (Nat.le_of_ble_eq_true rfl)⟩) (xPS C w [] rfl (by decide)) rfl rfl hl.1 rfl (lv_room (Nat.le_of_ble_eq_true rfl)) dX6_digest_23 ⟨(Nat.le_of_ble_eq_true rfl), (Nat.le_of_ble_eq_true rfl)⟩) (fun f4739 H locs w => ?_)
  have w : xW G A s [(h5, .inl (cy 1, 3, .inl (fun _ => 0))), (h6, .inl (cy 1, 3, .inl (fun _ => 0))), (h0, .inr (10, [.ref h2, .ref h4, .ref h3, .ref h7, .ref h1, .ref h6, .ref h5, .int 0, .int 0])), (h1, .inl (cy 2, 3, .inl (fun _ => 0))), (h2, .inr (3, [.int 0, .ref (sv 0), .int 0])), (h3, .inr (3, [.int 0, .ref (sv 0), .int 0])), (h4, .inr (3, [.int 0, .ref (sv 0), .int 0]))] H _ := w
  refine lv_lstore_n (lv' := [(1, .long 224423914689), (3, .int 4), (0, .ref h0)]) C.1 C.2.1 dX6_digest_26 rfl hl (by decide) rfl (fun ls hl => ?_)
  refine lv_iinc (v := 5) (lv' := [(3, .int 5), (1, .long 224423914689), (0, .ref h0)]) C.1 C.2.1 dX6_digest_27 hl (k := 1) rfl (by decide) (by decide) rfl (fun ls hl => ?_)
  refine lv_goto (tgt := 11) C.1 C.2.1 dX6_digest_30 (by decide) ?_
  refine lv_iload_n C.1 C.2.1 dX6_digest_11 rfl (lv_at hl 0 rfl) ?_
  refine lv_iconst (v := 5) C.1 C.2.1 dX6_digest_12 (by decide) ?_
  refine lv_icmp_ge (tgt := 33) C.1 C.2.1 dX6_digest_13 (by decide) (fun _ => ?_) (fun c9 => absurd (by decide) c9)
  refine lv_aload_n C.1 C.2.1 dX6_digest_33 rfl (lv_at hl 2 rfl) ?_
  refine x_get (v := .ref h2) C w 2 10 0 (xin_X6 _) rfl rfl (by decide) (List.mem_cons_of_mem _ gw_78) rfl rfl dX6_digest_34 ?_
  refine x_kr C w [4] [0, 1, 2, 3, 5, 6] rfl rfl (by decide) (by decide) (va_runS (As := [.ref h2]) (rest := []) (xfix C) (c115_X6_keysOf l G cy sa sv h2 (xtr C) _) (va_cwS 1 (xhts C) (xgS gw_330 gw_331 gw_58 gc_X6_keysOf) rfl rfl rfl (by decide +kernel) ⟨(Nat.le_of_ble_eq_true rfl), (Nat.le_of_ble_eq_true rfl)⟩) (xPS C w [4] rfl (by decide)) rfl rfl hl.1 rfl (lv_room (Nat.le_of_ble_eq_true rfl)) dX6_digest_37 ⟨(Nat.le_of_ble_eq_true rfl), (Nat.le_of_ble_eq_true rfl)⟩) (fun f4745 H locs w => ?_)
  have w : xW G A s [(h5, .inl (cy 1, 3, .inl (fun _ => 0))), (h6, .inl (cy 1, 3, .inl (fun _ => 0))), (h0, .inr (10, [.ref h2, .ref h4, .ref h3, .ref h7, .ref h1, .ref h6, .ref h5, .int 0, .int 0])), (h1, .inl (cy 2, 3, .inl (fun _ => 0))), (h3, .inr (3, [.int 0, .ref (sv 0), .int 0])), (h4, .inr (3, [.int 0, .ref (sv 0), .int 0])), (h2, .inr (3, [.int 0, .ref (sv 0), .int 0])), ((f4745 0), .inl (cy 1, 0, .inl (fun _ => 0)))] H _ := w
  refine W.widen (k := 6) (n := 25) (Nat.le_of_ble_eq_true rfl) (Nat.le_of_ble_eq_true rfl) ?_
  refine lv_astore_n (lv' := [(3, .ref (f4745 0)), (1, .long 224423914689), (0, .ref h0)]) C.1 C.2.1 dX6_digest_40 rfl hl (by decide) rfl (fun ls hl => ?_)
  refine lv_aload_n C.1 C.2.1 dX6_digest_41 rfl (lv_at hl 0 rfl) ?_
  refine x_alen (v := 0) C w 7 1 rfl rfl (by rfl) dX6_digest_42 ?_
  refine lv_istore (lv' := [(4, .int 0), (3, .ref (f4745 0)), (1, .long 224423914689), (0, .ref h0)]) C.1 C.2.1 dX6_digest_43 hl (by decide) rfl (fun ls hl => ?_)
  refine lv_iconst (v := 0) C.1 C.2.1 dX6_digest_45 (by decide) ?_
  refine lv_istore (lv' := [(5, .int 0), (4, .int 0), (3, .ref (f4745 0)), (1, .long 224423914689), (0, .ref h0)]) C.1 C.2.1 dX6_digest_46 hl (by decide) rfl (fun ls hl => ?_)
  refine lv_iload C.1 C.2.1 dX6_digest_48 (lv_at hl 0 rfl) ?_
  refine lv_iload C.1 C.2.1 dX6_digest_50 (lv_at hl 1 rfl) ?_
  refine lv_icmp_ge (tgt := 88) C.1 C.2.1 dX6_digest_52 (by decide) (fun _ => ?_) (fun c9 => absurd (by decide) c9)
  refine lv_aload_n C.1 C.2.1 dX6_digest_88 rfl (lv_at hl 4 rfl) ?_
  refine x_get (v := .ref h2) C w 2 10 0 (xin_X6 _) rfl rfl (by decide) (List.mem_cons_of_mem _ gw_78) rfl rfl dX6_digest_89 ?_
  refine x_kr C w [6] [0, 1, 2, 3, 4, 5, 7] rfl rfl (by decide) (by decide) (va_runV (As := []) (rest := []) (xfix C) (c390_Jx4a65c_iterator_32c93 l G cy sa sv h2 (xtr C) _) (cwV 0 (xhts C) (xgV (maxL := 0) (cc := ⟨#[]⟩) (ret := none) gw_738 gw_739 gw_740 gw_62 gc_Jx4a65c_iterator_32c93) rfl rfl rfl (by decide +kernel) ⟨(Nat.le_of_ble_eq_true rfl), (Nat.le_of_ble_eq_true rfl)⟩) (xPV C w [6] rfl (by decide) (ci := 3) (q0 := 6) rfl rfl) rfl rfl hl.1 rfl (lv_room (Nat.le_of_ble_eq_true rfl)) dX6_digest_92 ⟨(Nat.le_of_ble_eq_true rfl), (Nat.le_of_ble_eq_true rfl)⟩) (fun f4751 H locs w => ?_)
  have w : xW G A s [(h5, .inl (cy 1, 3, .inl (fun _ => 0))), (h6, .inl (cy 1, 3, .inl (fun _ => 0))), (h0, .inr (10, [.ref h2, .ref h4, .ref h3, .ref h7, .ref h1, .ref h6, .ref h5, .int 0, .int 0])), (h1, .inl (cy 2, 3, .inl (fun _ => 0))), (h3, .inr (3, [.int 0, .ref (sv 0), .int 0])), (h4, .inr (3, [.int 0, .ref (sv 0), .int 0])), ((f4745 0), .inl (cy 1, 0, .inl (fun _ => 0))), (h2, .inr (3, [.int 0, .ref (sv 0), .int 0])), ((f4751 0), .inr (2, [.int 0, .int (-1), .int 0, .ref h2]))] H _ := w
  refine W.widen (k := 7) (n := 29) (Nat.le_of_ble_eq_true rfl) (Nat.le_of_ble_eq_true rfl) ?_
  refine lv_astore_n (lv' := [(3, .ref (f4751 0)), (5, .int 0), (4, .int 0), (1, .long 224423914689), (0, .ref h0)]) C.1 C.2.1 dX6_digest_95 rfl hl (by decide) rfl (fun ls hl => ?_)
  refine lv_aload_n C.1 C.2.1 dX6_digest_96 rfl (lv_at hl 0 rfl) ?_
  refine x_kFi C w [8, 7] [0, 1, 2, 3, 4, 5, 6] rfl rfl (by decide) (by decide) (va_runF ((xK C).1 2 _ rfl).2 (As := []) (rest := []) (xfix C) (c391_Jx35411_hasNext_aae02 l G cy sa sv (f4751 0) h2 (xtr C) _) (va_cwF 0 (xhts C) (xgF (x := ⟨"java/util/Iterator", "hasNext", "()Z"⟩) gw_743 gw_744 gw_745 gw_728 gc_Jx35411_hasNext_aae02) rfl rfl rfl (xs_fw (xS C)) (by decide +kernel) ⟨(Nat.le_of_ble_eq_true rfl), (Nat.le_of_ble_eq_true rfl)⟩) (xPV C w [8, 7] rfl (by decide) (ci := 2) (q0 := 8) rfl rfl) rfl rfl hl.1 rfl (lv_room (Nat.le_of_ble_eq_true rfl)) dX6_digest_97 ⟨(Nat.le_of_ble_eq_true rfl), (Nat.le_of_ble_eq_true rfl)⟩) (fun f4752 H locs w => ?_)
  have w : xW G A s [(h5, .inl (cy 1, 3, .inl (fun _ => 0))), (h6, .inl (cy 1, 3, .inl (fun _ => 0))), (h0, .inr (10, [.ref h2, .ref h4, .ref h3, .ref h7, .ref h1, .ref h6, .ref h5, .int 0, .int 0])), (h1, .inl (cy 2, 3, .inl (fun _ => 0))), (h3, .inr (3, [.int 0, .ref (sv 0), .int 0])), (h4, .inr (3, [.int 0, .ref (sv 0), .int 0])), ((f4745 0), .inl (cy 1, 0, .inl (fun _ => 0))), ((f4751 0), .inr (2, [.int 0, .int (-1), .int 0, .ref h2])), (h2, .inr (3, [.int 0, .ref (sv 0), .int 0]))] H _ := w
  refine lv_if_eq (tgt := 129) C.1 C.2.1 dX6_digest_102 (by decide) (fun _ => ?_) (fun c9 => absurd (by decide) c9)
  refine lv_iconst (v := 0) C.1 C.2.1 dX6_digest_129 (by decide) ?_
  refine lv_istore_n (lv' := [(3, .int 0), (5, .int 0), (4, .int 0), (1, .long 224423914689), (0, .ref h0)]) C.1 C.2.1 dX6_digest_130 rfl hl (by decide) rfl (fun ls hl => ?_)
  refine lv_iload_n C.1 C.2.1 dX6_digest_131 rfl (lv_at hl 0 rfl) ?_
  refine lv_iconst (v := 3) C.1 C.2.1 dX6_digest_132 (by decide) ?_
  refine lv_icmp_ge (tgt := 170) C.1 C.2.1 dX6_digest_133 (by decide) (fun c9 => absurd c9 (by decide)) (fun _ => ?_)
  refine lv_iconst (v := 0) C.1 C.2.1 dX6_digest_136 (by decide) ?_
  refine lv_istore (lv' := [(4, .int 0), (3, .int 0), (5, .int 0), (1, .long 224423914689), (0, .ref h0)]) C.1 C.2.1 dX6_digest_137 hl (by decide) rfl (fun ls hl => ?_)
  refine lv_iload C.1 C.2.1 dX6_digest_139 (lv_at hl 0 rfl) ?_
  refine lv_iconst (v := 4) C.1 C.2.1 dX6_digest_141 (by decide) ?_
  refine lv_icmp_ge (tgt := 164) C.1 C.2.1 dX6_digest_142 (by decide) (fun c9 => absurd c9 (by decide)) (fun _ => ?_)
  refine lv_lload_n C.1 C.2.1 dX6_digest_145 rfl (lv_at hl 3 rfl) ?_
  refine lv_aload_n C.1 C.2.1 dX6_digest_146 rfl (lv_at hl 4 rfl) ?_
  refine lv_iload_n C.1 C.2.1 dX6_digest_147 rfl (lv_at hl 1 rfl) ?_
  refine lv_iload C.1 C.2.1 dX6_digest_148 (lv_at hl 0 rfl) ?_
  refine x_ki C w [2, 0] [1, 3, 4, 5, 6, 7, 8] rfl rfl (by decide) (by decide) (va_runV (As := [.int 0, .int 0]) (rest := [.long 224423914689]) (xfix C) (c513_X6_pagerNow l G cy sa sv h0 h5 h2 h4 h3 h7 h1 h6 (xtr C) _) (cwV 2 (xhts C) (xgV (maxL := 0) (cc := ⟨#[]⟩) (ret := none) gw_904 gw_905 gw_906 gw_58 gc_X6_pagerNow) rfl rfl rfl (by decide +kernel) ⟨(Nat.le_of_ble_eq_true rfl), (Nat.le_of_ble_eq_true rfl)⟩) (xPV C w [2, 0] rfl (by decide) (ci := 10) (q0 := 2) rfl rfl) rfl rfl hl.1 rfl (lv_room (Nat.le_of_ble_eq_true rfl)) dX6_digest_150 ⟨(Nat.le_of_ble_eq_true rfl), (Nat.le_of_ble_eq_true rfl)⟩) (fun f4753 H locs w => ?_)
  have w : xW G A s [(h6, .inl (cy 1, 3, .inl (fun _ => 0))), (h1, .inl (cy 2, 3, .inl (fun _ => 0))), (h3, .inr (3, [.int 0, .ref (sv 0), .int 0])), (h4, .inr (3, [.int 0, .ref (sv 0), .int 0])), ((f4745 0), .inl (cy 1, 0, .inl (fun _ => 0))), ((f4751 0), .inr (2, [.int 0, .int (-1), .int 0, .ref h2])), (h2, .inr (3, [.int 0, .ref (sv 0), .int 0])), (h0, .inr (10, [.ref h2, .ref h4, .ref h3, .ref h7, .ref h1, .ref h6, .ref h5, .int 0, .int 0])), (h5, .inl (cy 1, 3, .inl (fun _ => 0)))] H _ := w
  refine lv_i2l (v := 0) C.1 C.2.1 dX6_digest_153 (by decide) ?_
  refine x_kl C w [] [0, 1, 2, 3, 4, 5, 6, 7, 8] rfl rfl (by decide) (by decide) (va_runS (As := [.long 224423914689, .long 0]) (rest := []) (xfix C) (c667_X6_added l G cy sa sv (xtr C) _) (va_cwS 2 (xhts C) (xgS gw_1091 gw_1092 gw_58 gc_X6_added) rfl rfl rfl (by decide +kernel) ⟨(Nat.le_of_ble_eq_true rfl), (Nat.le_of_ble_eq_true rfl)⟩) (xPS C w [] rfl (by decide)) rfl rfl hl.1 rfl (lv_room (Nat.le_of_ble_eq_true rfl)) dX6_digest_154 ⟨(Nat.le_of_ble_eq_true rfl), (Nat.le_of_ble_eq_true rfl)⟩) (fun f4754 H locs w => ?_)
  have w : xW G A s [(h6, .inl (cy 1, 3, .inl (fun _ => 0))), (h1, .inl (cy 2, 3, .inl (fun _ => 0))), (h3, .inr (3, [.int 0, .ref (sv 0), .int 0])), (h4, .inr (3, [.int 0, .ref (sv 0), .int 0])), ((f4745 0), .inl (cy 1, 0, .inl (fun _ => 0))), ((f4751 0), .inr (2, [.int 0, .int (-1), .int 0, .ref h2])), (h2, .inr (3, [.int 0, .ref (sv 0), .int 0])), (h0, .inr (10, [.ref h2, .ref h4, .ref h3, .ref h7, .ref h1, .ref h6, .ref h5, .int 0, .int 0])), (h5, .inl (cy 1, 3, .inl (fun _ => 0)))] H _ := w
  refine lv_lstore_n (lv' := [(1, .long 6957141355359), (4, .int 0), (3, .int 0), (5, .int 0), (0, .ref h0)]) C.1 C.2.1 dX6_digest_157 rfl hl (by decide) rfl (fun ls hl => ?_)
  refine lv_iinc (v := 1) (lv' := [(4, .int 1), (1, .long 6957141355359), (3, .int 0), (5, .int 0), (0, .ref h0)]) C.1 C.2.1 dX6_digest_158 hl (k := 1) rfl (by decide) (by decide) rfl (fun ls hl => ?_)
  refine lv_goto (tgt := 139) C.1 C.2.1 dX6_digest_161 (by decide) ?_
  refine lv_iload C.1 C.2.1 dX6_digest_139 (lv_at hl 0 rfl) ?_
  refine lv_iconst (v := 4) C.1 C.2.1 dX6_digest_141 (by decide) ?_
  refine lv_icmp_ge (tgt := 164) C.1 C.2.1 dX6_digest_142 (by decide) (fun c9 => absurd c9 (by decide)) (fun _ => ?_)
  refine lv_lload_n C.1 C.2.1 dX6_digest_145 rfl (lv_at hl 1 rfl) ?_
  refine lv_aload_n C.1 C.2.1 dX6_digest_146 rfl (lv_at hl 4 rfl) ?_
  refine lv_iload_n C.1 C.2.1 dX6_digest_147 rfl (lv_at hl 2 rfl) ?_
  refine lv_iload C.1 C.2.1 dX6_digest_148 (lv_at hl 0 rfl) ?_
  refine x_ki C w [7, 6] [0, 1, 2, 3, 4, 5, 8] rfl rfl (by decide) (by decide) (va_runV (As := [.int 0, .int 1]) (rest := [.long 6957141355359]) (xfix C) (c517_X6_pagerNow l G cy sa sv h0 h2 h4 h3 h7 h1 h6 h5 (xtr C) _) (cwV 2 (xhts C) (xgV (maxL := 0) (cc := ⟨#[]⟩) (ret := none) gw_904 gw_905 gw_906 gw_58 gc_X6_pagerNow) rfl rfl rfl (by decide +kernel) ⟨(Nat.le_of_ble_eq_true rfl), (Nat.le_of_ble_eq_true rfl)⟩) (xPV C w [7, 6] rfl (by decide) (ci := 10) (q0 := 7) rfl rfl) rfl rfl hl.1 rfl (lv_room (Nat.le_of_ble_eq_true rfl)) dX6_digest_150 ⟨(Nat.le_of_ble_eq_true rfl), (Nat.le_of_ble_eq_true rfl)⟩) (fun f4803 H locs w => ?_)
  have w : xW G A s [(h6, .inl (cy 1, 3, .inl (fun _ => 0))), (h1, .inl (cy 2, 3, .inl (fun _ => 0))), (h3, .inr (3, [.int 0, .ref (sv 0), .int 0])), (h4, .inr (3, [.int 0, .ref (sv 0), .int 0])), ((f4745 0), .inl (cy 1, 0, .inl (fun _ => 0))), ((f4751 0), .inr (2, [.int 0, .int (-1), .int 0, .ref h2])), (h5, .inl (cy 1, 3, .inl (fun _ => 0))), (h0, .inr (10, [.ref h2, .ref h4, .ref h3, .ref h7, .ref h1, .ref h6, .ref h5, .int 0, .int 0])), (h2, .inr (3, [.int 0, .ref (sv 0), .int 0]))] H _ := w
  refine W.widen (k := 11) (n := 39) (Nat.le_of_ble_eq_true rfl) (Nat.le_of_ble_eq_true rfl) ?_
  refine lv_i2l (v := 0) C.1 C.2.1 dX6_digest_153 (by decide) ?_
  refine x_kl C w [] [0, 1, 2, 3, 4, 5, 6, 7, 8] rfl rfl (by decide) (by decide) (va_runS (As := [.long 6957141355359, .long 0]) (rest := []) (xfix C) (c668_X6_added l G cy sa sv (xtr C) _) (va_cwS 2 (xhts C) (xgS gw_1091 gw_1092 gw_58 gc_X6_added) rfl rfl rfl (by decide +kernel) ⟨(Nat.le_of_ble_eq_true rfl), (Nat.le_of_ble_eq_true rfl)⟩) (xPS C w [] rfl (by decide)) rfl rfl hl.1 rfl (lv_room (Nat.le_of_ble_eq_true rfl)) dX6_digest_154 ⟨(Nat.le_of_ble_eq_true rfl), (Nat.le_of_ble_eq_true rfl)⟩) (fun f4804 H locs w => ?_)
  have w : xW G A s [(h6, .inl (cy 1, 3, .inl (fun _ => 0))), (h1, .inl (cy 2, 3, .inl (fun _ => 0))), (h3, .inr (3, [.int 0, .ref (sv 0), .int 0])), (h4, .inr (3, [.int 0, .ref (sv 0), .int 0])), ((f4745 0), .inl (cy 1, 0, .inl (fun _ => 0))), ((f4751 0), .inr (2, [.int 0, .int (-1), .int 0, .ref h2])), (h5, .inl (cy 1, 3, .inl (fun _ => 0))), (h0, .inr (10, [.ref h2, .ref h4, .ref h3, .ref h7, .ref h1, .ref h6, .ref h5, .int 0, .int 0])), (h2, .inr (3, [.int 0, .ref (sv 0), .int 0]))] H _ := w
  refine lv_lstore_n (lv' := [(1, .long 215671382016129), (4, .int 1), (3, .int 0), (5, .int 0), (0, .ref h0)]) C.1 C.2.1 dX6_digest_157 rfl hl (by decide) rfl (fun ls hl => ?_)
  refine lv_iinc (v := 2) (lv' := [(4, .int 2), (1, .long 215671382016129), (3, .int 0), (5, .int 0), (0, .ref h0)]) C.1 C.2.1 dX6_digest_158 hl (k := 1) rfl (by decide) (by decide) rfl (fun ls hl => ?_)
  refine lv_goto (tgt := 139) C.1 C.2.1 dX6_digest_161 (by decide) ?_
  refine lv_iload C.1 C.2.1 dX6_digest_139 (lv_at hl 0 rfl) ?_
  refine lv_iconst (v := 4) C.1 C.2.1 dX6_digest_141 (by decide) ?_
  refine lv_icmp_ge (tgt := 164) C.1 C.2.1 dX6_digest_142 (by decide) (fun c9 => absurd c9 (by decide)) (fun _ => ?_)
  refine lv_lload_n C.1 C.2.1 dX6_digest_145 rfl (lv_at hl 1 rfl) ?_
  refine lv_aload_n C.1 C.2.1 dX6_digest_146 rfl (lv_at hl 4 rfl) ?_
  refine lv_iload_n C.1 C.2.1 dX6_digest_147 rfl (lv_at hl 2 rfl) ?_
  refine lv_iload C.1 C.2.1 dX6_digest_148 (lv_at hl 0 rfl) ?_
  refine x_ki C w [7, 1] [0, 2, 3, 4, 5, 6, 8] rfl rfl (by decide) (by decide) (va_runV (As := [.int 0, .int 2]) (rest := [.long 215671382016129]) (xfix C) (c522_X6_pagerNow l G cy sa sv h0 h1 h2 h4 h3 h7 h6 h5 (xtr C) _) (cwV 2 (xhts C) (xgV (maxL := 0) (cc := ⟨#[]⟩) (ret := none) gw_904 gw_905 gw_906 gw_58 gc_X6_pagerNow) rfl rfl rfl (by decide +kernel) ⟨(Nat.le_of_ble_eq_true rfl), (Nat.le_of_ble_eq_true rfl)⟩) (xPV C w [7, 1] rfl (by decide) (ci := 10) (q0 := 7) rfl rfl) rfl rfl hl.1 rfl (lv_room (Nat.le_of_ble_eq_true rfl)) dX6_digest_150 ⟨(Nat.le_of_ble_eq_true rfl), (Nat.le_of_ble_eq_true rfl)⟩) (fun f4806 H locs w => ?_)
  have w : xW G A s [(h6, .inl (cy 1, 3, .inl (fun _ => 0))), (h3, .inr (3, [.int 0, .ref (sv 0), .int 0])), (h4, .inr (3, [.int 0, .ref (sv 0), .int 0])), ((f4745 0), .inl (cy 1, 0, .inl (fun _ => 0))), ((f4751 0), .inr (2, [.int 0, .int (-1), .int 0, .ref h2])), (h5, .inl (cy 1, 3, .inl (fun _ => 0))), (h2, .inr (3, [.int 0, .ref (sv 0), .int 0])), (h0, .inr (10, [.ref h2, .ref h4, .ref h3, .ref h7, .ref h1, .ref h6, .ref h5, .int 0, .int 0])), (h1, .inl (cy 2, 3, .inl (fun _ => 0)))] H _ := w
  refine lv_i2l (v := 0) C.1 C.2.1 dX6_digest_153 (by decide) ?_
  refine x_kl C w [] [0, 1, 2, 3, 4, 5, 6, 7, 8] rfl rfl (by decide) (by decide) (va_runS (As := [.long 215671382016129, .long 0]) (rest := []) (xfix C) (c669_X6_added l G cy sa sv (xtr C) _) (va_cwS 2 (xhts C) (xgS gw_1091 gw_1092 gw_58 gc_X6_added) rfl rfl rfl (by decide +kernel) ⟨(Nat.le_of_ble_eq_true rfl), (Nat.le_of_ble_eq_true rfl)⟩) (xPS C w [] rfl (by decide)) rfl rfl hl.1 rfl (lv_room (Nat.le_of_ble_eq_true rfl)) dX6_digest_154 ⟨(Nat.le_of_ble_eq_true rfl), (Nat.le_of_ble_eq_true rfl)⟩) (fun f4807 H locs w => ?_)
  have w : xW G A s [(h6, .inl (cy 1, 3, .inl (fun _ => 0))), (h3, .inr (3, [.int 0, .ref (sv 0), .int 0])), (h4, .inr (3, [.int 0, .ref (sv 0), .int 0])), ((f4745 0), .inl (cy 1, 0, .inl (fun _ => 0))), ((f4751 0), .inr (2, [.int 0, .int (-1), .int 0, .ref h2])), (h5, .inl (cy 1, 3, .inl (fun _ => 0))), (h2, .inr (3, [.int 0, .ref (sv 0), .int 0])), (h0, .inr (10, [.ref h2, .ref h4, .ref h3, .ref h7, .ref h1, .ref h6, .ref h5, .int 0, .int 0])), (h1, .inl (cy 2, 3, .inl (fun _ => 0)))] H _ := w
  refine lv_lstore_n (lv' := [(1, .long 6685812842499999), (4, .int 2), (3, .int 0), (5, .int 0), (0, .ref h0)]) C.1 C.2.1 dX6_digest_157 rfl hl (by decide) rfl (fun ls hl => ?_)
  refine lv_iinc (v := 3) (lv' := [(4, .int 3), (1, .long 6685812842499999), (3, .int 0), (5, .int 0), (0, .ref h0)]) C.1 C.2.1 dX6_digest_158 hl (k := 1) rfl (by decide) (by decide) rfl (fun ls hl => ?_)
  refine lv_goto (tgt := 139) C.1 C.2.1 dX6_digest_161 (by decide) ?_
  refine lv_iload C.1 C.2.1 dX6_digest_139 (lv_at hl 0 rfl) ?_
  refine lv_iconst (v := 4) C.1 C.2.1 dX6_digest_141 (by decide) ?_
  refine lv_icmp_ge (tgt := 164) C.1 C.2.1 dX6_digest_142 (by decide) (fun c9 => absurd c9 (by decide)) (fun _ => ?_)
  refine lv_lload_n C.1 C.2.1 dX6_digest_145 rfl (lv_at hl 1 rfl) ?_
  refine lv_aload_n C.1 C.2.1 dX6_digest_146 rfl (lv_at hl 4 rfl) ?_
  refine lv_iload_n C.1 C.2.1 dX6_digest_147 rfl (lv_at hl 2 rfl) ?_
  refine lv_iload C.1 C.2.1 dX6_digest_148 (lv_at hl 0 rfl) ?_
  refine x_ki C w [7, 0] [1, 2, 3, 4, 5, 6, 8] rfl rfl (by decide) (by decide) (va_runV (As := [.int 0, .int 3]) (rest := [.long 6685812842499999]) (xfix C) (c526_X6_pagerNow l G cy sa sv h0 h6 h2 h4 h3 h7 h1 h5 (xtr C) _) (cwV 2 (xhts C) (xgV (maxL := 0) (cc := ⟨#[]⟩) (ret := none) gw_904 gw_905 gw_906 gw_58 gc_X6_pagerNow) rfl rfl rfl (by decide +kernel) ⟨(Nat.le_of_ble_eq_true rfl), (Nat.le_of_ble_eq_true rfl)⟩) (xPV C w [7, 0] rfl (by decide) (ci := 10) (q0 := 7) rfl rfl) rfl rfl hl.1 rfl (lv_room (Nat.le_of_ble_eq_true rfl)) dX6_digest_150 ⟨(Nat.le_of_ble_eq_true rfl), (Nat.le_of_ble_eq_true rfl)⟩) (fun f4808 H locs w => ?_)
  have w : xW G A s [(h3, .inr (3, [.int 0, .ref (sv 0), .int 0])), (h4, .inr (3, [.int 0, .ref (sv 0), .int 0])), ((f4745 0), .inl (cy 1, 0, .inl (fun _ => 0))), ((f4751 0), .inr (2, [.int 0, .int (-1), .int 0, .ref h2])), (h5, .inl (cy 1, 3, .inl (fun _ => 0))), (h2, .inr (3, [.int 0, .ref (sv 0), .int 0])), (h1, .inl (cy 2, 3, .inl (fun _ => 0))), (h0, .inr (10, [.ref h2, .ref h4, .ref h3, .ref h7, .ref h1, .ref h6, .ref h5, .int 0, .int 0])), (h6, .inl (cy 1, 3, .inl (fun _ => 0)))] H _ := w
  refine lv_i2l (v := 0) C.1 C.2.1 dX6_digest_153 (by decide) ?_
  refine x_kl C w [] [0, 1, 2, 3, 4, 5, 6, 7, 8] rfl rfl (by decide) (by decide) (va_runS (As := [.long 6685812842499999, .long 0]) (rest := []) (xfix C) (c670_X6_added l G cy sa sv (xtr C) _) (va_cwS 2 (xhts C) (xgS gw_1091 gw_1092 gw_58 gc_X6_added) rfl rfl rfl (by decide +kernel) ⟨(Nat.le_of_ble_eq_true rfl), (Nat.le_of_ble_eq_true rfl)⟩) (xPS C w [] rfl (by decide)) rfl rfl hl.1 rfl (lv_room (Nat.le_of_ble_eq_true rfl)) dX6_digest_154 ⟨(Nat.le_of_ble_eq_true rfl), (Nat.le_of_ble_eq_true rfl)⟩) (fun f4809 H locs w => ?_)
  have w : xW G A s [(h3, .inr (3, [.int 0, .ref (sv 0), .int 0])), (h4, .inr (3, [.int 0, .ref (sv 0), .int 0])), ((f4745 0), .inl (cy 1, 0, .inl (fun _ => 0))), ((f4751 0), .inr (2, [.int 0, .int (-1), .int 0, .ref h2])), (h5, .inl (cy 1, 3, .inl (fun _ => 0))), (h2, .inr (3, [.int 0, .ref (sv 0), .int 0])), (h1, .inl (cy 2, 3, .inl (fun _ => 0))), (h0, .inr (10, [.ref h2, .ref h4, .ref h3, .ref h7, .ref h1, .ref h6, .ref h5, .int 0, .int 0])), (h6, .inl (cy 1, 3, .inl (fun _ => 0)))] H _ := w
  refine lv_lstore_n (lv' := [(1, .long 207260198117499969), (4, .int 3), (3, .int 0), (5, .int 0), (0, .ref h0)]) C.1 C.2.1 dX6_digest_157 rfl hl (by decide) rfl (fun ls hl => ?_)
  refine lv_iinc (v := 4) (lv' := [(4, .int 4), (1, .long 207260198117499969), (3, .int 0), (5, .int 0), (0, .ref h0)]) C.1 C.2.1 dX6_digest_158 hl (k := 1) rfl (by decide) (by decide) rfl (fun ls hl => ?_)
  refine lv_goto (tgt := 139) C.1 C.2.1 dX6_digest_161 (by decide) ?_
  refine lv_iload C.1 C.2.1 dX6_digest_139 (lv_at hl 0 rfl) ?_
  refine lv_iconst (v := 4) C.1 C.2.1 dX6_digest_141 (by decide) ?_
  refine lv_icmp_ge (tgt := 164) C.1 C.2.1 dX6_digest_142 (by decide) (fun _ => ?_) (fun c9 => absurd (by decide) c9)
  refine lv_iinc (v := 1) (lv' := [(3, .int 1), (4, .int 4), (1, .long 207260198117499969), (5, .int 0), (0, .ref h0)]) C.1 C.2.1 dX6_digest_164 hl (k := 2) rfl (by decide) (by decide) rfl (fun ls hl => ?_)
  refine lv_goto (tgt := 131) C.1 C.2.1 dX6_digest_167 (by decide) ?_
  refine lv_iload_n C.1 C.2.1 dX6_digest_131 rfl (lv_at hl 0 rfl) ?_
  refine lv_iconst (v := 3) C.1 C.2.1 dX6_digest_132 (by decide) ?_
  refine lv_icmp_ge (tgt := 170) C.1 C.2.1 dX6_digest_133 (by decide) (fun c9 => absurd c9 (by decide)) (fun _ => ?_)
  refine lv_iconst (v := 0) C.1 C.2.1 dX6_digest_136 (by decide) ?_
  refine lv_istore (lv' := [(4, .int 0), (3, .int 1), (1, .long 207260198117499969), (5, .int 0), (0, .ref h0)]) C.1 C.2.1 dX6_digest_137 hl (by decide) rfl (fun ls hl => ?_)
  refine lv_iload C.1 C.2.1 dX6_digest_139 (lv_at hl 0 rfl) ?_
  refine lv_iconst (v := 4) C.1 C.2.1 dX6_digest_141 (by decide) ?_
  refine lv_icmp_ge (tgt := 164) C.1 C.2.1 dX6_digest_142 (by decide) (fun c9 => absurd c9 (by decide)) (fun _ => ?_)
  refine lv_lload_n C.1 C.2.1 dX6_digest_145 rfl (lv_at hl 2 rfl) ?_
  refine lv_aload_n C.1 C.2.1 dX6_digest_146 rfl (lv_at hl 4 rfl) ?_
  refine lv_iload_n C.1 C.2.1 dX6_digest_147 rfl (lv_at hl 1 rfl) ?_
  refine lv_iload C.1 C.2.1 dX6_digest_148 (lv_at hl 0 rfl) ?_
  refine x_ki C w [7, 4] [0, 1, 2, 3, 5, 6, 8] rfl rfl (by decide) (by decide) (va_runV (As := [.int 1, .int 0]) (rest := [.long 207260198117499969]) (xfix C) (c530_X6_pagerNow l G cy sa sv h0 h5 h2 h4 h3 h7 h1 h6 (xtr C) _) (cwV 2 (xhts C) (xgV (maxL := 0) (cc := ⟨#[]⟩) (ret := none) gw_904 gw_905 gw_906 gw_58 gc_X6_pagerNow) rfl rfl rfl (by decide +kernel) ⟨(Nat.le_of_ble_eq_true rfl), (Nat.le_of_ble_eq_true rfl)⟩) (xPV C w [7, 4] rfl (by decide) (ci := 10) (q0 := 7) rfl rfl) rfl rfl hl.1 rfl (lv_room (Nat.le_of_ble_eq_true rfl)) dX6_digest_150 ⟨(Nat.le_of_ble_eq_true rfl), (Nat.le_of_ble_eq_true rfl)⟩) (fun f4810 H locs w => ?_)
  have w : xW G A s [(h3, .inr (3, [.int 0, .ref (sv 0), .int 0])), (h4, .inr (3, [.int 0, .ref (sv 0), .int 0])), ((f4745 0), .inl (cy 1, 0, .inl (fun _ => 0))), ((f4751 0), .inr (2, [.int 0, .int (-1), .int 0, .ref h2])), (h2, .inr (3, [.int 0, .ref (sv 0), .int 0])), (h1, .inl (cy 2, 3, .inl (fun _ => 0))), (h6, .inl (cy 1, 3, .inl (fun _ => 0))), (h0, .inr (10, [.ref h2, .ref h4, .ref h3, .ref h7, .ref h1, .ref h6, .ref h5, .int 0, .int 0])), (h5, .inl (cy 1, 3, .inl (fun _ => 0)))] H _ := w
  refine lv_i2l (v := 0) C.1 C.2.1 dX6_digest_153 (by decide) ?_
  refine x_kl C w [] [0, 1, 2, 3, 4, 5, 6, 7, 8] rfl rfl (by decide) (by decide) (va_runS (As := [.long 207260198117499969, .long 0]) (rest := []) (xfix C) (c671_X6_added l G cy sa sv (xtr C) _) (va_cwS 2 (xhts C) (xgS gw_1091 gw_1092 gw_58 gc_X6_added) rfl rfl rfl (by decide +kernel) ⟨(Nat.le_of_ble_eq_true rfl), (Nat.le_of_ble_eq_true rfl)⟩) (xPS C w [] rfl (by decide)) rfl rfl hl.1 rfl (lv_room (Nat.le_of_ble_eq_true rfl)) dX6_digest_154 ⟨(Nat.le_of_ble_eq_true rfl), (Nat.le_of_ble_eq_true rfl)⟩) (fun f4811 H locs w => ?_)
  have w : xW G A s [(h3, .inr (3, [.int 0, .ref (sv 0), .int 0])), (h4, .inr (3, [.int 0, .ref (sv 0), .int 0])), ((f4745 0), .inl (cy 1, 0, .inl (fun _ => 0))), ((f4751 0), .inr (2, [.int 0, .int (-1), .int 0, .ref h2])), (h2, .inr (3, [.int 0, .ref (sv 0), .int 0])), (h1, .inl (cy 2, 3, .inl (fun _ => 0))), (h6, .inl (cy 1, 3, .inl (fun _ => 0))), (h0, .inr (10, [.ref h2, .ref h4, .ref h3, .ref h7, .ref h1, .ref h6, .ref h5, .int 0, .int 0])), (h5, .inl (cy 1, 3, .inl (fun _ => 0)))] H _ := w
  refine lv_lstore_n (lv' := [(1, .long 6425066141642499039), (4, .int 0), (3, .int 1), (5, .int 0), (0, .ref h0)]) C.1 C.2.1 dX6_digest_157 rfl hl (by decide) rfl (fun ls hl => ?_)
  refine lv_iinc (v := 1) (lv' := [(4, .int 1), (1, .long 6425066141642499039), (3, .int 1), (5, .int 0), (0, .ref h0)]) C.1 C.2.1 dX6_digest_158 hl (k := 1) rfl (by decide) (by decide) rfl (fun ls hl => ?_)
  refine lv_goto (tgt := 139) C.1 C.2.1 dX6_digest_161 (by decide) ?_
  refine lv_iload C.1 C.2.1 dX6_digest_139 (lv_at hl 0 rfl) ?_
  refine lv_iconst (v := 4) C.1 C.2.1 dX6_digest_141 (by decide) ?_
  refine lv_icmp_ge (tgt := 164) C.1 C.2.1 dX6_digest_142 (by decide) (fun c9 => absurd c9 (by decide)) (fun _ => ?_)
  refine lv_lload_n C.1 C.2.1 dX6_digest_145 rfl (lv_at hl 1 rfl) ?_
  refine lv_aload_n C.1 C.2.1 dX6_digest_146 rfl (lv_at hl 4 rfl) ?_
  refine lv_iload_n C.1 C.2.1 dX6_digest_147 rfl (lv_at hl 2 rfl) ?_
  refine lv_iload C.1 C.2.1 dX6_digest_148 (lv_at hl 0 rfl) ?_
  refine x_ki C w [7, 4] [0, 1, 2, 3, 5, 6, 8] rfl rfl (by decide) (by decide) (va_runV (As := [.int 1, .int 1]) (rest := [.long 6425066141642499039]) (xfix C) (c534_X6_pagerNow l G cy sa sv h0 h2 h4 h3 h7 h1 h6 h5 (xtr C) _) (cwV 2 (xhts C) (xgV (maxL := 0) (cc := ⟨#[]⟩) (ret := none) gw_904 gw_905 gw_906 gw_58 gc_X6_pagerNow) rfl rfl rfl (by decide +kernel) ⟨(Nat.le_of_ble_eq_true rfl), (Nat.le_of_ble_eq_true rfl)⟩) (xPV C w [7, 4] rfl (by decide) (ci := 10) (q0 := 7) rfl rfl) rfl rfl hl.1 rfl (lv_room (Nat.le_of_ble_eq_true rfl)) dX6_digest_150 ⟨(Nat.le_of_ble_eq_true rfl), (Nat.le_of_ble_eq_true rfl)⟩) (fun f4860 H locs w => ?_)
  have w : xW G A s [(h3, .inr (3, [.int 0, .ref (sv 0), .int 0])), (h4, .inr (3, [.int 0, .ref (sv 0), .int 0])), ((f4745 0), .inl (cy 1, 0, .inl (fun _ => 0))), ((f4751 0), .inr (2, [.int 0, .int (-1), .int 0, .ref h2])), (h1, .inl (cy 2, 3, .inl (fun _ => 0))), (h6, .inl (cy 1, 3, .inl (fun _ => 0))), (h5, .inl (cy 1, 3, .inl (fun _ => 0))), (h0, .inr (10, [.ref h2, .ref h4, .ref h3, .ref h7, .ref h1, .ref h6, .ref h5, .int 0, .int 0])), (h2, .inr (3, [.int 0, .ref (sv 0), .int 0]))] H _ := w
  refine W.widen (k := 15) (n := 49) (Nat.le_of_ble_eq_true rfl) (Nat.le_of_ble_eq_true rfl) ?_
  refine lv_i2l (v := 0) C.1 C.2.1 dX6_digest_153 (by decide) ?_
  refine x_kl C w [] [0, 1, 2, 3, 4, 5, 6, 7, 8] rfl rfl (by decide) (by decide) (va_runS (As := [.long 6425066141642499039, .long 0]) (rest := []) (xfix C) (c672_X6_added l G cy sa sv (xtr C) _) (va_cwS 2 (xhts C) (xgS gw_1091 gw_1092 gw_58 gc_X6_added) rfl rfl rfl (by decide +kernel) ⟨(Nat.le_of_ble_eq_true rfl), (Nat.le_of_ble_eq_true rfl)⟩) (xPS C w [] rfl (by decide)) rfl rfl hl.1 rfl (lv_room (Nat.le_of_ble_eq_true rfl)) dX6_digest_154 ⟨(Nat.le_of_ble_eq_true rfl), (Nat.le_of_ble_eq_true rfl)⟩) (fun f4861 H locs w => ?_)
  have w : xW G A s [(h3, .inr (3, [.int 0, .ref (sv 0), .int 0])), (h4, .inr (3, [.int 0, .ref (sv 0), .int 0])), ((f4745 0), .inl (cy 1, 0, .inl (fun _ => 0))), ((f4751 0), .inr (2, [.int 0, .int (-1), .int 0, .ref h2])), (h1, .inl (cy 2, 3, .inl (fun _ => 0))), (h6, .inl (cy 1, 3, .inl (fun _ => 0))), (h5, .inl (cy 1, 3, .inl (fun _ => 0))), (h0, .inr (10, [.ref h2, .ref h4, .ref h3, .ref h7, .ref h1, .ref h6, .ref h5, .int 0, .int 0])), (h2, .inr (3, [.int 0, .ref (sv 0), .int 0]))] H _ := w
  refine lv_lstore_n (lv' := [(1, .long (-3737134419887597567)), (4, .int 1), (3, .int 1), (5, .int 0), (0, .ref h0)]) C.1 C.2.1 dX6_digest_157 rfl hl (by decide) rfl (fun ls hl => ?_)
  refine lv_iinc (v := 2) (lv' := [(4, .int 2), (1, .long (-3737134419887597567)), (3, .int 1), (5, .int 0), (0, .ref h0)]) C.1 C.2.1 dX6_digest_158 hl (k := 1) rfl (by decide) (by decide) rfl (fun ls hl => ?_)
  refine lv_goto (tgt := 139) C.1 C.2.1 dX6_digest_161 (by decide) ?_
  refine lv_iload C.1 C.2.1 dX6_digest_139 (lv_at hl 0 rfl) ?_
  refine lv_iconst (v := 4) C.1 C.2.1 dX6_digest_141 (by decide) ?_
  refine lv_icmp_ge (tgt := 164) C.1 C.2.1 dX6_digest_142 (by decide) (fun c9 => absurd c9 (by decide)) (fun _ => ?_)
  refine lv_lload_n C.1 C.2.1 dX6_digest_145 rfl (lv_at hl 1 rfl) ?_
  refine lv_aload_n C.1 C.2.1 dX6_digest_146 rfl (lv_at hl 4 rfl) ?_
  refine lv_iload_n C.1 C.2.1 dX6_digest_147 rfl (lv_at hl 2 rfl) ?_
  refine lv_iload C.1 C.2.1 dX6_digest_148 (lv_at hl 0 rfl) ?_
  refine x_ki C w [7, 4] [0, 1, 2, 3, 5, 6, 8] rfl rfl (by decide) (by decide) (va_runV (As := [.int 1, .int 2]) (rest := [.long (-3737134419887597567)]) (xfix C) (c538_X6_pagerNow l G cy sa sv h0 h1 h2 h4 h3 h7 h6 h5 (xtr C) _) (cwV 2 (xhts C) (xgV (maxL := 0) (cc := ⟨#[]⟩) (ret := none) gw_904 gw_905 gw_906 gw_58 gc_X6_pagerNow) rfl rfl rfl (by decide +kernel) ⟨(Nat.le_of_ble_eq_true rfl), (Nat.le_of_ble_eq_true rfl)⟩) (xPV C w [7, 4] rfl (by decide) (ci := 10) (q0 := 7) rfl rfl) rfl rfl hl.1 rfl (lv_room (Nat.le_of_ble_eq_true rfl)) dX6_digest_150 ⟨(Nat.le_of_ble_eq_true rfl), (Nat.le_of_ble_eq_true rfl)⟩) (fun f4863 H locs w => ?_)
  have w : xW G A s [(h3, .inr (3, [.int 0, .ref (sv 0), .int 0])), (h4, .inr (3, [.int 0, .ref (sv 0), .int 0])), ((f4745 0), .inl (cy 1, 0, .inl (fun _ => 0))), ((f4751 0), .inr (2, [.int 0, .int (-1), .int 0, .ref h2])), (h6, .inl (cy 1, 3, .inl (fun _ => 0))), (h5, .inl (cy 1, 3, .inl (fun _ => 0))), (h2, .inr (3, [.int 0, .ref (sv 0), .int 0])), (h0, .inr (10, [.ref h2, .ref h4, .ref h3, .ref h7, .ref h1, .ref h6, .ref h5, .int 0, .int 0])), (h1, .inl (cy 2, 3, .inl (fun _ => 0)))] H _ := w
  refine lv_i2l (v := 0) C.1 C.2.1 dX6_digest_153 (by decide) ?_
  refine x_kl C w [] [0, 1, 2, 3, 4, 5, 6, 7, 8] rfl rfl (by decide) (by decide) (va_runS (As := [.long (-3737134419887597567), .long 0]) (rest := []) (xfix C) (c673_X6_added l G cy sa sv (xtr C) _) (va_cwS 2 (xhts C) (xgS gw_1091 gw_1092 gw_58 gc_X6_added) rfl rfl rfl (by decide +kernel) ⟨(Nat.le_of_ble_eq_true rfl), (Nat.le_of_ble_eq_true rfl)⟩) (xPS C w [] rfl (by decide)) rfl rfl hl.1 rfl (lv_room (Nat.le_of_ble_eq_true rfl)) dX6_digest_154 ⟨(Nat.le_of_ble_eq_true rfl), (Nat.le_of_ble_eq_true rfl)⟩) (fun f4864 H locs w => ?_)
  have w : xW G A s [(h3, .inr (3, [.int 0, .ref (sv 0), .int 0])), (h4, .inr (3, [.int 0, .ref (sv 0), .int 0])), ((f4745 0), .inl (cy 1, 0, .inl (fun _ => 0))), ((f4751 0), .inr (2, [.int 0, .int (-1), .int 0, .ref h2])), (h6, .inl (cy 1, 3, .inl (fun _ => 0))), (h5, .inl (cy 1, 3, .inl (fun _ => 0))), (h2, .inr (3, [.int 0, .ref (sv 0), .int 0])), (h0, .inr (10, [.ref h2, .ref h4, .ref h3, .ref h7, .ref h1, .ref h6, .ref h5, .int 0, .int 0])), (h1, .inl (cy 2, 3, .inl (fun _ => 0)))] H _ := w
  refine lv_lstore_n (lv' := [(1, .long (-5170702574258214881)), (4, .int 2), (3, .int 1), (5, .int 0), (0, .ref h0)]) C.1 C.2.1 dX6_digest_157 rfl hl (by decide) rfl (fun ls hl => ?_)
  refine lv_iinc (v := 3) (lv' := [(4, .int 3), (1, .long (-5170702574258214881)), (3, .int 1), (5, .int 0), (0, .ref h0)]) C.1 C.2.1 dX6_digest_158 hl (k := 1) rfl (by decide) (by decide) rfl (fun ls hl => ?_)
  refine lv_goto (tgt := 139) C.1 C.2.1 dX6_digest_161 (by decide) ?_
  refine lv_iload C.1 C.2.1 dX6_digest_139 (lv_at hl 0 rfl) ?_
  refine lv_iconst (v := 4) C.1 C.2.1 dX6_digest_141 (by decide) ?_
  refine lv_icmp_ge (tgt := 164) C.1 C.2.1 dX6_digest_142 (by decide) (fun c9 => absurd c9 (by decide)) (fun _ => ?_)
  refine lv_lload_n C.1 C.2.1 dX6_digest_145 rfl (lv_at hl 1 rfl) ?_
  refine lv_aload_n C.1 C.2.1 dX6_digest_146 rfl (lv_at hl 4 rfl) ?_
  refine lv_iload_n C.1 C.2.1 dX6_digest_147 rfl (lv_at hl 2 rfl) ?_
  refine lv_iload C.1 C.2.1 dX6_digest_148 (lv_at hl 0 rfl) ?_
  refine x_ki C w [7, 4] [0, 1, 2, 3, 5, 6, 8] rfl rfl (by decide) (by decide) (va_runV (As := [.int 1, .int 3]) (rest := [.long (-5170702574258214881)]) (xfix C) (c542_X6_pagerNow l G cy sa sv h0 h6 h2 h4 h3 h7 h1 h5 (xtr C) _) (cwV 2 (xhts C) (xgV (maxL := 0) (cc := ⟨#[]⟩) (ret := none) gw_904 gw_905 gw_906 gw_58 gc_X6_pagerNow) rfl rfl rfl (by decide +kernel) ⟨(Nat.le_of_ble_eq_true rfl), (Nat.le_of_ble_eq_true rfl)⟩) (xPV C w [7, 4] rfl (by decide) (ci := 10) (q0 := 7) rfl rfl) rfl rfl hl.1 rfl (lv_room (Nat.le_of_ble_eq_true rfl)) dX6_digest_150 ⟨(Nat.le_of_ble_eq_true rfl), (Nat.le_of_ble_eq_true rfl)⟩) (fun f4865 H locs w => ?_)
  have w : xW G A s [(h3, .inr (3, [.int 0, .ref (sv 0), .int 0])), (h4, .inr (3, [.int 0, .ref (sv 0), .int 0])), ((f4745 0), .inl (cy 1, 0, .inl (fun _ => 0))), ((f4751 0), .inr (2, [.int 0, .int (-1), .int 0, .ref h2])), (h5, .inl (cy 1, 3, .inl (fun _ => 0))), (h2, .inr (3, [.int 0, .ref (sv 0), .int 0])), (h1, .inl (cy 2, 3, .inl (fun _ => 0))), (h0, .inr (10, [.ref h2, .ref h4, .ref h3, .ref h7, .ref h1, .ref h6, .ref h5, .int 0, .int 0])), (h6, .inl (cy 1, 3, .inl (fun _ => 0)))] H _ := w
  refine lv_i2l (v := 0) C.1 C.2.1 dX6_digest_153 (by decide) ?_
  refine x_kl C w [] [0, 1, 2, 3, 4, 5, 6, 7, 8] rfl rfl (by decide) (by decide) (va_runS (As := [.long (-5170702574258214881), .long 0]) (rest := []) (xfix C) (c674_X6_added l G cy sa sv (xtr C) _) (va_cwS 2 (xhts C) (xgS gw_1091 gw_1092 gw_58 gc_X6_added) rfl rfl rfl (by decide +kernel) ⟨(Nat.le_of_ble_eq_true rfl), (Nat.le_of_ble_eq_true rfl)⟩) (xPS C w [] rfl (by decide)) rfl rfl hl.1 rfl (lv_room (Nat.le_of_ble_eq_true rfl)) dX6_digest_154 ⟨(Nat.le_of_ble_eq_true rfl), (Nat.le_of_ble_eq_true rfl)⟩) (fun f4866 H locs w => ?_)
  have w : xW G A s [(h3, .inr (3, [.int 0, .ref (sv 0), .int 0])), (h4, .inr (3, [.int 0, .ref (sv 0), .int 0])), ((f4745 0), .inl (cy 1, 0, .inl (fun _ => 0))), ((f4751 0), .inr (2, [.int 0, .int (-1), .int 0, .ref h2])), (h5, .inl (cy 1, 3, .inl (fun _ => 0))), (h2, .inr (3, [.int 0, .ref (sv 0), .int 0])), (h1, .inl (cy 2, 3, .inl (fun _ => 0))), (h0, .inr (10, [.ref h2, .ref h4, .ref h3, .ref h7, .ref h1, .ref h6, .ref h5, .int 0, .int 0])), (h6, .inl (cy 1, 3, .inl (fun _ => 0)))] H _ := w
  refine lv_lstore_n (lv' := [(1, .long 5728916861381303233), (4, .int 3), (3, .int 1), (5, .int 0), (0, .ref h0)]) C.1 C.2.1 dX6_digest_157 rfl hl (by decide) rfl (fun ls hl => ?_)
  refine lv_iinc (v := 4) (lv' := [(4, .int 4), (1, .long 5728916861381303233), (3, .int 1), (5, .int 0), (0, .ref h0)]) C.1 C.2.1 dX6_digest_158 hl (k := 1) rfl (by decide) (by decide) rfl (fun ls hl => ?_)
  refine lv_goto (tgt := 139) C.1 C.2.1 dX6_digest_161 (by decide) ?_
  refine lv_iload C.1 C.2.1 dX6_digest_139 (lv_at hl 0 rfl) ?_
  refine lv_iconst (v := 4) C.1 C.2.1 dX6_digest_141 (by decide) ?_
  refine lv_icmp_ge (tgt := 164) C.1 C.2.1 dX6_digest_142 (by decide) (fun _ => ?_) (fun c9 => absurd (by decide) c9)
  refine lv_iinc (v := 2) (lv' := [(3, .int 2), (4, .int 4), (1, .long 5728916861381303233), (5, .int 0), (0, .ref h0)]) C.1 C.2.1 dX6_digest_164 hl (k := 2) rfl (by decide) (by decide) rfl (fun ls hl => ?_)
  refine lv_goto (tgt := 131) C.1 C.2.1 dX6_digest_167 (by decide) ?_
  refine lv_iload_n C.1 C.2.1 dX6_digest_131 rfl (lv_at hl 0 rfl) ?_
  refine lv_iconst (v := 3) C.1 C.2.1 dX6_digest_132 (by decide) ?_
  refine lv_icmp_ge (tgt := 170) C.1 C.2.1 dX6_digest_133 (by decide) (fun c9 => absurd c9 (by decide)) (fun _ => ?_)
  refine lv_iconst (v := 0) C.1 C.2.1 dX6_digest_136 (by decide) ?_
  refine lv_istore (lv' := [(4, .int 0), (3, .int 2), (1, .long 5728916861381303233), (5, .int 0), (0, .ref h0)]) C.1 C.2.1 dX6_digest_137 hl (by decide) rfl (fun ls hl => ?_)
  refine lv_iload C.1 C.2.1 dX6_digest_139 (lv_at hl 0 rfl) ?_
  refine lv_iconst (v := 4) C.1 C.2.1 dX6_digest_141 (by decide) ?_
  refine lv_icmp_ge (tgt := 164) C.1 C.2.1 dX6_digest_142 (by decide) (fun c9 => absurd c9 (by decide)) (fun _ => ?_)
  refine lv_lload_n C.1 C.2.1 dX6_digest_145 rfl (lv_at hl 2 rfl) ?_
  refine lv_aload_n C.1 C.2.1 dX6_digest_146 rfl (lv_at hl 4 rfl) ?_
  refine lv_iload_n C.1 C.2.1 dX6_digest_147 rfl (lv_at hl 1 rfl) ?_
  refine lv_iload C.1 C.2.1 dX6_digest_148 (lv_at hl 0 rfl) ?_
  refine x_ki C w [7, 4] [0, 1, 2, 3, 5, 6, 8] rfl rfl (by decide) (by decide) (va_runV (As := [.int 2, .int 0]) (rest := [.long 5728916861381303233]) (xfix C) (c546_X6_pagerNow l G cy sa sv h0 h5 h2 h4 h3 h7 h1 h6 (xtr C) _) (cwV 2 (xhts C) (xgV (maxL := 0) (cc := ⟨#[]⟩) (ret := none) gw_904 gw_905 gw_906 gw_58 gc_X6_pagerNow) rfl rfl rfl (by decide +kernel) ⟨(Nat.le_of_ble_eq_true rfl), (Nat.le_of_ble_eq_true rfl)⟩) (xPV C w [7, 4] rfl (by decide) (ci := 10) (q0 := 7) rfl rfl) rfl rfl hl.1 rfl (lv_room (Nat.le_of_ble_eq_true rfl)) dX6_digest_150 ⟨(Nat.le_of_ble_eq_true rfl), (Nat.le_of_ble_eq_true rfl)⟩) (fun f4867 H locs w => ?_)
  have w : xW G A s [(h3, .inr (3, [.int 0, .ref (sv 0), .int 0])), (h4, .inr (3, [.int 0, .ref (sv 0), .int 0])), ((f4745 0), .inl (cy 1, 0, .inl (fun _ => 0))), ((f4751 0), .inr (2, [.int 0, .int (-1), .int 0, .ref h2])), (h2, .inr (3, [.int 0, .ref (sv 0), .int 0])), (h1, .inl (cy 2, 3, .inl (fun _ => 0))), (h6, .inl (cy 1, 3, .inl (fun _ => 0))), (h0, .inr (10, [.ref h2, .ref h4, .ref h3, .ref h7, .ref h1, .ref h6, .ref h5, .int 0, .int 0])), (h5, .inl (cy 1, 3, .inl (fun _ => 0)))] H _ := w
  refine lv_i2l (v := 0) C.1 C.2.1 dX6_digest_153 (by decide) ?_
  refine x_kl C w [] [0, 1, 2, 3, 4, 5, 6, 7, 8] rfl rfl (by decide) (by decide) (va_runS (As := [.long 5728916861381303233, .long 0]) (rest := []) (xfix C) (c675_X6_added l G cy sa sv (xtr C) _) (va_cwS 2 (xhts C) (xgS gw_1091 gw_1092 gw_58 gc_X6_added) rfl rfl rfl (by decide +kernel) ⟨(Nat.le_of_ble_eq_true rfl), (Nat.le_of_ble_eq_true rfl)⟩) (xPS C w [] rfl (by decide)) rfl rfl hl.1 rfl (lv_room (Nat.le_of_ble_eq_true rfl)) dX6_digest_154 ⟨(Nat.le_of_ble_eq_true rfl), (Nat.le_of_ble_eq_true rfl)⟩) (fun f4868 H locs w => ?_)
  have w : xW G A s [(h3, .inr (3, [.int 0, .ref (sv 0), .int 0])), (h4, .inr (3, [.int 0, .ref (sv 0), .int 0])), ((f4745 0), .inl (cy 1, 0, .inl (fun _ => 0))), ((f4751 0), .inr (2, [.int 0, .int (-1), .int 0, .ref h2])), (h2, .inr (3, [.int 0, .ref (sv 0), .int 0])), (h1, .inl (cy 2, 3, .inl (fun _ => 0))), (h6, .inl (cy 1, 3, .inl (fun _ => 0))), (h0, .inr (10, [.ref h2, .ref h4, .ref h3, .ref h7, .ref h1, .ref h6, .ref h5, .int 0, .int 0])), (h5, .inl (cy 1, 3, .inl (fun _ => 0)))] H _ := w
  refine lv_lstore_n (lv' := [(1, .long (-6871018034275115937)), (4, .int 0), (3, .int 2), (5, .int 0), (0, .ref h0)]) C.1 C.2.1 dX6_digest_157 rfl hl (by decide) rfl (fun ls hl => ?_)
  refine lv_iinc (v := 1) (lv' := [(4, .int 1), (1, .long (-6871018034275115937)), (3, .int 2), (5, .int 0), (0, .ref h0)]) C.1 C.2.1 dX6_digest_158 hl (k := 1) rfl (by decide) (by decide) rfl (fun ls hl => ?_)
  refine lv_goto (tgt := 139) C.1 C.2.1 dX6_digest_161 (by decide) ?_
  refine lv_iload C.1 C.2.1 dX6_digest_139 (lv_at hl 0 rfl) ?_
  refine lv_iconst (v := 4) C.1 C.2.1 dX6_digest_141 (by decide) ?_
  refine lv_icmp_ge (tgt := 164) C.1 C.2.1 dX6_digest_142 (by decide) (fun c9 => absurd c9 (by decide)) (fun _ => ?_)
  refine lv_lload_n C.1 C.2.1 dX6_digest_145 rfl (lv_at hl 1 rfl) ?_
  refine lv_aload_n C.1 C.2.1 dX6_digest_146 rfl (lv_at hl 4 rfl) ?_
  refine lv_iload_n C.1 C.2.1 dX6_digest_147 rfl (lv_at hl 2 rfl) ?_
  refine lv_iload C.1 C.2.1 dX6_digest_148 (lv_at hl 0 rfl) ?_
  refine x_ki C w [7, 4] [0, 1, 2, 3, 5, 6, 8] rfl rfl (by decide) (by decide) (va_runV (As := [.int 2, .int 1]) (rest := [.long (-6871018034275115937)]) (xfix C) (c550_X6_pagerNow l G cy sa sv h0 h2 h4 h3 h7 h1 h6 h5 (xtr C) _) (cwV 2 (xhts C) (xgV (maxL := 0) (cc := ⟨#[]⟩) (ret := none) gw_904 gw_905 gw_906 gw_58 gc_X6_pagerNow) rfl rfl rfl (by decide +kernel) ⟨(Nat.le_of_ble_eq_true rfl), (Nat.le_of_ble_eq_true rfl)⟩) (xPV C w [7, 4] rfl (by decide) (ci := 10) (q0 := 7) rfl rfl) rfl rfl hl.1 rfl (lv_room (Nat.le_of_ble_eq_true rfl)) dX6_digest_150 ⟨(Nat.le_of_ble_eq_true rfl), (Nat.le_of_ble_eq_true rfl)⟩) (fun f4917 H locs w => ?_)
  have w : xW G A s [(h3, .inr (3, [.int 0, .ref (sv 0), .int 0])), (h4, .inr (3, [.int 0, .ref (sv 0), .int 0])), ((f4745 0), .inl (cy 1, 0, .inl (fun _ => 0))), ((f4751 0), .inr (2, [.int 0, .int (-1), .int 0, .ref h2])), (h1, .inl (cy 2, 3, .inl (fun _ => 0))), (h6, .inl (cy 1, 3, .inl (fun _ => 0))), (h5, .inl (cy 1, 3, .inl (fun _ => 0))), (h0, .inr (10, [.ref h2, .ref h4, .ref h3, .ref h7, .ref h1, .ref h6, .ref h5, .int 0, .int 0])), (h2, .inr (3, [.int 0, .ref (sv 0), .int 0]))] H _ := w
  refine W.widen (k := 19) (n := 59) (Nat.le_of_ble_eq_true rfl) (Nat.le_of_ble_eq_true rfl) ?_
  refine lv_i2l (v := 0) C.1 C.2.1 dX6_digest_153 (by decide) ?_
  refine x_kl C w [] [0, 1, 2, 3, 4, 5, 6, 7, 8] rfl rfl (by decide) (by decide) (va_runS (As := [.long (-6871018034275115937), .long 0]) (rest := []) (xfix C) (c676_X6_added l G cy sa sv (xtr C) _) (va_cwS 2 (xhts C) (xgS gw_1091 gw_1092 gw_58 gc_X6_added) rfl rfl rfl (by decide +kernel) ⟨(Nat.le_of_ble_eq_true rfl), (Nat.le_of_ble_eq_true rfl)⟩) (xPS C w [] rfl (by decide)) rfl rfl hl.1 rfl (lv_room (Nat.le_of_ble_eq_true rfl)) dX6_digest_154 ⟨(Nat.le_of_ble_eq_true rfl), (Nat.le_of_ble_eq_true rfl)⟩) (fun f4918 H locs w => ?_)
  have w : xW G A s [(h3, .inr (3, [.int 0, .ref (sv 0), .int 0])), (h4, .inr (3, [.int 0, .ref (sv 0), .int 0])), ((f4745 0), .inl (cy 1, 0, .inl (fun _ => 0))), ((f4751 0), .inr (2, [.int 0, .int (-1), .int 0, .ref h2])), (h1, .inl (cy 2, 3, .inl (fun _ => 0))), (h6, .inl (cy 1, 3, .inl (fun _ => 0))), (h5, .inl (cy 1, 3, .inl (fun _ => 0))), (h0, .inr (10, [.ref h2, .ref h4, .ref h3, .ref h7, .ref h1, .ref h6, .ref h5, .int 0, .int 0])), (h2, .inr (3, [.int 0, .ref (sv 0), .int 0]))] H _ := w
  refine lv_lstore_n (lv' := [(1, .long 8359369821986025345), (4, .int 1), (3, .int 2), (5, .int 0), (0, .ref h0)]) C.1 C.2.1 dX6_digest_157 rfl hl (by decide) rfl (fun ls hl => ?_)
  refine lv_iinc (v := 2) (lv' := [(4, .int 2), (1, .long 8359369821986025345), (3, .int 2), (5, .int 0), (0, .ref h0)]) C.1 C.2.1 dX6_digest_158 hl (k := 1) rfl (by decide) (by decide) rfl (fun ls hl => ?_)
  refine lv_goto (tgt := 139) C.1 C.2.1 dX6_digest_161 (by decide) ?_
  refine lv_iload C.1 C.2.1 dX6_digest_139 (lv_at hl 0 rfl) ?_
  refine lv_iconst (v := 4) C.1 C.2.1 dX6_digest_141 (by decide) ?_
  refine lv_icmp_ge (tgt := 164) C.1 C.2.1 dX6_digest_142 (by decide) (fun c9 => absurd c9 (by decide)) (fun _ => ?_)
  refine lv_lload_n C.1 C.2.1 dX6_digest_145 rfl (lv_at hl 1 rfl) ?_
  refine lv_aload_n C.1 C.2.1 dX6_digest_146 rfl (lv_at hl 4 rfl) ?_
  refine lv_iload_n C.1 C.2.1 dX6_digest_147 rfl (lv_at hl 2 rfl) ?_
  refine lv_iload C.1 C.2.1 dX6_digest_148 (lv_at hl 0 rfl) ?_
  refine x_ki C w [7, 4] [0, 1, 2, 3, 5, 6, 8] rfl rfl (by decide) (by decide) (va_runV (As := [.int 2, .int 2]) (rest := [.long 8359369821986025345]) (xfix C) (c554_X6_pagerNow l G cy sa sv h0 h1 h2 h4 h3 h7 h6 h5 (xtr C) _) (cwV 2 (xhts C) (xgV (maxL := 0) (cc := ⟨#[]⟩) (ret := none) gw_904 gw_905 gw_906 gw_58 gc_X6_pagerNow) rfl rfl rfl (by decide +kernel) ⟨(Nat.le_of_ble_eq_true rfl), (Nat.le_of_ble_eq_true rfl)⟩) (xPV C w [7, 4] rfl (by decide) (ci := 10) (q0 := 7) rfl rfl) rfl rfl hl.1 rfl (lv_room (Nat.le_of_ble_eq_true rfl)) dX6_digest_150 ⟨(Nat.le_of_ble_eq_true rfl), (Nat.le_of_ble_eq_true rfl)⟩) (fun f4920 H locs w => ?_)
  have w : xW G A s [(h3, .inr (3, [.int 0, .ref (sv 0), .int 0])), (h4, .inr (3, [.int 0, .ref (sv 0), .int 0])), ((f4745 0), .inl (cy 1, 0, .inl (fun _ => 0))), ((f4751 0), .inr (2, [.int 0, .int (-1), .int 0, .ref h2])), (h6, .inl (cy 1, 3, .inl (fun _ => 0))), (h5, .inl (cy 1, 3, .inl (fun _ => 0))), (h2, .inr (3, [.int 0, .ref (sv 0), .int 0])), (h0, .inr (10, [.ref h2, .ref h4, .ref h3, .ref h7, .ref h1, .ref h6, .ref h5, .int 0, .int 0])), (h1, .inl (cy 2, 3, .inl (fun _ => 0)))] H _ := w
  refine lv_i2l (v := 0) C.1 C.2.1 dX6_digest_153 (by decide) ?_
  refine x_kl C w [] [0, 1, 2, 3, 4, 5, 6, 7, 8] rfl rfl (by decide) (by decide) (va_runS (As := [.long 8359369821986025345, .long 0]) (rest := []) (xfix C) (c677_X6_added l G cy sa sv (xtr C) _) (va_cwS 2 (xhts C) (xgS gw_1091 gw_1092 gw_58 gc_X6_added) rfl rfl rfl (by decide +kernel) ⟨(Nat.le_of_ble_eq_true rfl), (Nat.le_of_ble_eq_true rfl)⟩) (xPS C w [] rfl (by decide)) rfl rfl hl.1 rfl (lv_room (Nat.le_of_ble_eq_true rfl)) dX6_digest_154 ⟨(Nat.le_of_ble_eq_true rfl), (Nat.le_of_ble_eq_true rfl)⟩) (fun f4921 H locs w => ?_)
  have w : xW G A s [(h3, .inr (3, [.int 0, .ref (sv 0), .int 0])), (h4, .inr (3, [.int 0, .ref (sv 0), .int 0])), ((f4745 0), .inl (cy 1, 0, .inl (fun _ => 0))), ((f4751 0), .inr (2, [.int 0, .int (-1), .int 0, .ref h2])), (h6, .inl (cy 1, 3, .inl (fun _ => 0))), (h5, .inl (cy 1, 3, .inl (fun _ => 0))), (h2, .inr (3, [.int 0, .ref (sv 0), .int 0])), (h0, .inr (10, [.ref h2, .ref h4, .ref h3, .ref h7, .ref h1, .ref h6, .ref h5, .int 0, .int 0])), (h1, .inl (cy 2, 3, .inl (fun _ => 0)))] H _ := w
  refine lv_lstore_n (lv' := [(1, .long 886047449633063071), (4, .int 2), (3, .int 2), (5, .int 0), (0, .ref h0)]) C.1 C.2.1 dX6_digest_157 rfl hl (by decide) rfl (fun ls hl => ?_)
  refine lv_iinc (v := 3) (lv' := [(4, .int 3), (1, .long 886047449633063071), (3, .int 2), (5, .int 0), (0, .ref h0)]) C.1 C.2.1 dX6_digest_158 hl (k := 1) rfl (by decide) (by decide) rfl (fun ls hl => ?_)
  refine lv_goto (tgt := 139) C.1 C.2.1 dX6_digest_161 (by decide) ?_
  refine lv_iload C.1 C.2.1 dX6_digest_139 (lv_at hl 0 rfl) ?_
  refine lv_iconst (v := 4) C.1 C.2.1 dX6_digest_141 (by decide) ?_
  refine lv_icmp_ge (tgt := 164) C.1 C.2.1 dX6_digest_142 (by decide) (fun c9 => absurd c9 (by decide)) (fun _ => ?_)
  refine lv_lload_n C.1 C.2.1 dX6_digest_145 rfl (lv_at hl 1 rfl) ?_
  refine lv_aload_n C.1 C.2.1 dX6_digest_146 rfl (lv_at hl 4 rfl) ?_
  refine lv_iload_n C.1 C.2.1 dX6_digest_147 rfl (lv_at hl 2 rfl) ?_
  refine lv_iload C.1 C.2.1 dX6_digest_148 (lv_at hl 0 rfl) ?_
  refine x_ki C w [7, 4] [0, 1, 2, 3, 5, 6, 8] rfl rfl (by decide) (by decide) (va_runV (As := [.int 2, .int 3]) (rest := [.long 886047449633063071]) (xfix C) (c558_X6_pagerNow l G cy sa sv h0 h6 h2 h4 h3 h7 h1 h5 (xtr C) _) (cwV 2 (xhts C) (xgV (maxL := 0) (cc := ⟨#[]⟩) (ret := none) gw_904 gw_905 gw_906 gw_58 gc_X6_pagerNow) rfl rfl rfl (by decide +kernel) ⟨(Nat.le_of_ble_eq_true rfl), (Nat.le_of_ble_eq_true rfl)⟩) (xPV C w [7, 4] rfl (by decide) (ci := 10) (q0 := 7) rfl rfl) rfl rfl hl.1 rfl (lv_room (Nat.le_of_ble_eq_true rfl)) dX6_digest_150 ⟨(Nat.le_of_ble_eq_true rfl), (Nat.le_of_ble_eq_true rfl)⟩) (fun f4922 H locs w => ?_)
  have w : xW G A s [(h3, .inr (3, [.int 0, .ref (sv 0), .int 0])), (h4, .inr (3, [.int 0, .ref (sv 0), .int 0])), ((f4745 0), .inl (cy 1, 0, .inl (fun _ => 0))), ((f4751 0), .inr (2, [.int 0, .int (-1), .int 0, .ref h2])), (h5, .inl (cy 1, 3, .inl (fun _ => 0))), (h2, .inr (3, [.int 0, .ref (sv 0), .int 0])), (h1, .inl (cy 2, 3, .inl (fun _ => 0))), (h0, .inr (10, [.ref h2, .ref h4, .ref h3, .ref h7, .ref h1, .ref h6, .ref h5, .int 0, .int 0])), (h6, .inl (cy 1, 3, .inl (fun _ => 0)))] H _ := w
  refine lv_i2l (v := 0) C.1 C.2.1 dX6_digest_153 (by decide) ?_
  refine x_kl C w [] [0, 1, 2, 3, 4, 5, 6, 7, 8] rfl rfl (by decide) (by decide) (va_runS (As := [.long 886047449633063071, .long 0]) (rest := []) (xfix C) (c678_X6_added l G cy sa sv (xtr C) _) (va_cwS 2 (xhts C) (xgS gw_1091 gw_1092 gw_58 gc_X6_added) rfl rfl rfl (by decide +kernel) ⟨(Nat.le_of_ble_eq_true rfl), (Nat.le_of_ble_eq_true rfl)⟩) (xPS C w [] rfl (by decide)) rfl rfl hl.1 rfl (lv_room (Nat.le_of_ble_eq_true rfl)) dX6_digest_154 ⟨(Nat.le_of_ble_eq_true rfl), (Nat.le_of_ble_eq_true rfl)⟩) (fun f4923 H locs w => ?_)
  have w : xW G A s [(h3, .inr (3, [.int 0, .ref (sv 0), .int 0])), (h4, .inr (3, [.int 0, .ref (sv 0), .int 0])), ((f4745 0), .inl (cy 1, 0, .inl (fun _ => 0))), ((f4751 0), .inr (2, [.int 0, .int (-1), .int 0, .ref h2])), (h5, .inl (cy 1, 3, .inl (fun _ => 0))), (h2, .inr (3, [.int 0, .ref (sv 0), .int 0])), (h1, .inl (cy 2, 3, .inl (fun _ => 0))), (h0, .inr (10, [.ref h2, .ref h4, .ref h3, .ref h7, .ref h1, .ref h6, .ref h5, .int 0, .int 0])), (h6, .inl (cy 1, 3, .inl (fun _ => 0)))] H _ := w
  refine lv_lstore_n (lv' := [(1, .long 9020726864915403585), (4, .int 3), (3, .int 2), (5, .int 0), (0, .ref h0)]) C.1 C.2.1 dX6_digest_157 rfl hl (by decide) rfl (fun ls hl => ?_)
  refine lv_iinc (v := 4) (lv' := [(4, .int 4), (1, .long 9020726864915403585), (3, .int 2), (5, .int 0), (0, .ref h0)]) C.1 C.2.1 dX6_digest_158 hl (k := 1) rfl (by decide) (by decide) rfl (fun ls hl => ?_)
  refine lv_goto (tgt := 139) C.1 C.2.1 dX6_digest_161 (by decide) ?_
  refine lv_iload C.1 C.2.1 dX6_digest_139 (lv_at hl 0 rfl) ?_
  refine lv_iconst (v := 4) C.1 C.2.1 dX6_digest_141 (by decide) ?_
  refine lv_icmp_ge (tgt := 164) C.1 C.2.1 dX6_digest_142 (by decide) (fun _ => ?_) (fun c9 => absurd (by decide) c9)
  refine lv_iinc (v := 3) (lv' := [(3, .int 3), (4, .int 4), (1, .long 9020726864915403585), (5, .int 0), (0, .ref h0)]) C.1 C.2.1 dX6_digest_164 hl (k := 2) rfl (by decide) (by decide) rfl (fun ls hl => ?_)
  refine lv_goto (tgt := 131) C.1 C.2.1 dX6_digest_167 (by decide) ?_
  refine lv_iload_n C.1 C.2.1 dX6_digest_131 rfl (lv_at hl 0 rfl) ?_
  refine lv_iconst (v := 3) C.1 C.2.1 dX6_digest_132 (by decide) ?_
  refine lv_icmp_ge (tgt := 170) C.1 C.2.1 dX6_digest_133 (by decide) (fun _ => ?_) (fun c9 => absurd (by decide) c9)
  refine lv_lload_n C.1 C.2.1 dX6_digest_170 rfl (lv_at hl 2 rfl) ?_
  refine lv_aload_n C.1 C.2.1 dX6_digest_171 rfl (lv_at hl 4 rfl) ?_
  refine x_ki C w [7, 5] [0, 1, 2, 3, 4, 6, 8] rfl rfl (by decide) (by decide) (va_runV (As := []) (rest := [.long 9020726864915403585]) (xfix C) (c294_X6_hashNow l G cy sa sv h0 h2 h4 h3 h7 h1 h6 h5 (xtr C) _) (cwV 0 (xhts C) (xgV (maxL := 0) (cc := ⟨#[]⟩) (ret := none) gw_658 gw_659 gw_660 gw_58 gc_X6_hashNow) rfl rfl rfl (by decide +kernel) ⟨(Nat.le_of_ble_eq_true rfl), (Nat.le_of_ble_eq_true rfl)⟩) (xPV C w [7, 5] rfl (by decide) (ci := 10) (q0 := 7) rfl rfl) rfl rfl hl.1 rfl (lv_room (Nat.le_of_ble_eq_true rfl)) dX6_digest_172 ⟨(Nat.le_of_ble_eq_true rfl), (Nat.le_of_ble_eq_true rfl)⟩) (fun f4925 H locs w => ?_)
  have w : xW G A s [(h3, .inr (3, [.int 0, .ref (sv 0), .int 0])), (h4, .inr (3, [.int 0, .ref (sv 0), .int 0])), ((f4745 0), .inl (cy 1, 0, .inl (fun _ => 0))), ((f4751 0), .inr (2, [.int 0, .int (-1), .int 0, .ref h2])), (h5, .inl (cy 1, 3, .inl (fun _ => 0))), (h1, .inl (cy 2, 3, .inl (fun _ => 0))), (h6, .inl (cy 1, 3, .inl (fun _ => 0))), (h0, .inr (10, [.ref h2, .ref h4, .ref h3, .ref h7, .ref h1, .ref h6, .ref h5, .int 0, .int 0])), (h2, .inr (3, [.int 0, .ref (sv 0), .int 0]))] H _ := w
  refine lv_i2l (v := 0) C.1 C.2.1 dX6_digest_175 (by decide) ?_
  refine x_kl C w [] [0, 1, 2, 3, 4, 5, 6, 7, 8] rfl rfl (by decide) (by decide) (va_runS (As := [.long 9020726864915403585, .long 0]) (rest := []) (xfix C) (c679_X6_added l G cy sa sv (xtr C) _) (va_cwS 2 (xhts C) (xgS gw_1091 gw_1092 gw_58 gc_X6_added) rfl rfl rfl (by decide +kernel) ⟨(Nat.le_of_ble_eq_true rfl), (Nat.le_of_ble_eq_true rfl)⟩) (xPS C w [] rfl (by decide)) rfl rfl hl.1 rfl (lv_room (Nat.le_of_ble_eq_true rfl)) dX6_digest_176 ⟨(Nat.le_of_ble_eq_true rfl), (Nat.le_of_ble_eq_true rfl)⟩) (fun f4926 H locs w => ?_)
  have w : xW G A s [(h3, .inr (3, [.int 0, .ref (sv 0), .int 0])), (h4, .inr (3, [.int 0, .ref (sv 0), .int 0])), ((f4745 0), .inl (cy 1, 0, .inl (fun _ => 0))), ((f4751 0), .inr (2, [.int 0, .int (-1), .int 0, .ref h2])), (h5, .inl (cy 1, 3, .inl (fun _ => 0))), (h1, .inl (cy 2, 3, .inl (fun _ => 0))), (h6, .inl (cy 1, 3, .inl (fun _ => 0))), (h0, .inr (10, [.ref h2, .ref h4, .ref h3, .ref h7, .ref h1, .ref h6, .ref h5, .int 0, .int 0])), (h2, .inr (3, [.int 0, .ref (sv 0), .int 0]))] H _ := w
  refine lv_aload_n C.1 C.2.1 dX6_digest_179 rfl (lv_at hl 4 rfl) ?_
  refine x_kr C w [7, 8] [0, 1, 2, 3, 4, 5, 6] rfl rfl (by decide) (by decide) (va_runV (As := []) (rest := [.long 2941371706734236895]) (xfix C) (c288_X6_textNow l G cy sa sv h0 h2 h4 h3 h7 h1 h6 h5 (xtr C) _) (cwV 0 (xhts C) (xgV (maxL := 0) (cc := ⟨#[]⟩) (ret := none) gw_641 gw_642 gw_643 gw_58 gc_X6_textNow) rfl rfl rfl (by decide +kernel) ⟨(Nat.le_of_ble_eq_true rfl), (Nat.le_of_ble_eq_true rfl)⟩) (xPV C w [7, 8] rfl (by decide) (ci := 10) (q0 := 7) rfl rfl) rfl rfl hl.1 rfl (lv_room (Nat.le_of_ble_eq_true rfl)) dX6_digest_180 ⟨(Nat.le_of_ble_eq_true rfl), (Nat.le_of_ble_eq_true rfl)⟩) (fun f5018 H locs w => ?_)
  have w : xW G A s [(h3, .inr (3, [.int 0, .ref (sv 0), .int 0])), (h4, .inr (3, [.int 0, .ref (sv 0), .int 0])), ((f4745 0), .inl (cy 1, 0, .inl (fun _ => 0))), ((f4751 0), .inr (2, [.int 0, .int (-1), .int 0, .ref h2])), (h5, .inl (cy 1, 3, .inl (fun _ => 0))), (h1, .inl (cy 2, 3, .inl (fun _ => 0))), (h6, .inl (cy 1, 3, .inl (fun _ => 0))), (h0, .inr (10, [.ref h2, .ref h4, .ref h3, .ref h7, .ref h1, .ref h6, .ref h5, .int 0, .int 0])), (h2, .inr (3, [.int 0, .ref (sv 0), .int 0])), ((f5018 0), .inr (0, [.ref (f5018 1), .int 0, .int 0, .int 0])), ((f5018 1), .inl (cy 0, 2, .inl (va_cpy (va_cpy (fun j => ([125] : List Int32).getD j 0) (va_cpy (fun j => ([] : List Int32).getD j 0) (va_cpy (fun j => ([123] : List Int32).getD j 0) (fun _ => 0) 0 0 1) 0 1 0) 0 1 1) (fun _ => 0) 0 0 2)))] H _ := w
  refine W.widen (k := 24) (n := 85) (Nat.le_of_ble_eq_true rfl) (Nat.le_of_ble_eq_true rfl) ?_
  refine x_ki C w [9, 10] [0, 1, 2, 3, 4, 5, 6, 7, 8] rfl rfl (by decide) (by decide) (va_runV (As := []) (rest := [.long 2941371706734236895]) (xfix C) (c680_J0_length_8abf5 l G cy sa sv (f5018 0) (f5018 1) (xtr C) _) (cwV 0 (xhts C) (xgV (maxL := 0) (cc := ⟨#[]⟩) (ret := none) gw_1093 gw_610 gw_611 gw_492 gc_J0_length_8abf5) rfl rfl rfl (by decide +kernel) ⟨(Nat.le_of_ble_eq_true rfl), (Nat.le_of_ble_eq_true rfl)⟩) (xPV C w [9, 10] rfl (by decide) (ci := 0) (q0 := 9) rfl rfl) rfl rfl hl.1 rfl (lv_room (Nat.le_of_ble_eq_true rfl)) dX6_digest_183 ⟨(Nat.le_of_ble_eq_true rfl), (Nat.le_of_ble_eq_true rfl)⟩) (fun f5020 H locs w => ?_)
  have w : xW G A s [(h3, .inr (3, [.int 0, .ref (sv 0), .int 0])), (h4, .inr (3, [.int 0, .ref (sv 0), .int 0])), ((f4745 0), .inl (cy 1, 0, .inl (fun _ => 0))), ((f4751 0), .inr (2, [.int 0, .int (-1), .int 0, .ref h2])), (h5, .inl (cy 1, 3, .inl (fun _ => 0))), (h1, .inl (cy 2, 3, .inl (fun _ => 0))), (h6, .inl (cy 1, 3, .inl (fun _ => 0))), (h0, .inr (10, [.ref h2, .ref h4, .ref h3, .ref h7, .ref h1, .ref h6, .ref h5, .int 0, .int 0])), (h2, .inr (3, [.int 0, .ref (sv 0), .int 0])), ((f5018 0), .inr (0, [.ref (f5018 1), .int 0, .int 0, .int 0])), ((f5018 1), .inl (cy 0, 2, .inl (va_cpy (va_cpy (fun j => ([125] : List Int32).getD j 0) (va_cpy (fun j => ([] : List Int32).getD j 0) (va_cpy (fun j => ([123] : List Int32).getD j 0) (fun _ => 0) 0 0 1) 0 1 0) 0 1 1) (fun _ => 0) 0 0 2)))] H _ := w
  refine lv_i2l (v := 2) C.1 C.2.1 dX6_digest_186 (by decide) ?_
  refine x_kl C w [] [0, 1, 2, 3, 4, 5, 6, 7, 8, 9, 10] rfl rfl (by decide) (by decide) (va_runS (As := [.long 2941371706734236895, .long 2]) (rest := []) (xfix C) (c681_X6_added l G cy sa sv (xtr C) _) (va_cwS 2 (xhts C) (xgS gw_1091 gw_1092 gw_58 gc_X6_added) rfl rfl rfl (by decide +kernel) ⟨(Nat.le_of_ble_eq_true rfl), (Nat.le_of_ble_eq_true rfl)⟩) (xPS C w [] rfl (by decide)) rfl rfl hl.1 rfl (lv_room (Nat.le_of_ble_eq_true rfl)) dX6_digest_187 ⟨(Nat.le_of_ble_eq_true rfl), (Nat.le_of_ble_eq_true rfl)⟩) (fun f5021 H locs w => ?_)
  have w : xW G A s [(h3, .inr (3, [.int 0, .ref (sv 0), .int 0])), (h4, .inr (3, [.int 0, .ref (sv 0), .int 0])), ((f4745 0), .inl (cy 1, 0, .inl (fun _ => 0))), ((f4751 0), .inr (2, [.int 0, .int (-1), .int 0, .ref h2])), (h5, .inl (cy 1, 3, .inl (fun _ => 0))), (h1, .inl (cy 2, 3, .inl (fun _ => 0))), (h6, .inl (cy 1, 3, .inl (fun _ => 0))), (h0, .inr (10, [.ref h2, .ref h4, .ref h3, .ref h7, .ref h1, .ref h6, .ref h5, .int 0, .int 0])), (h2, .inr (3, [.int 0, .ref (sv 0), .int 0])), ((f5018 0), .inr (0, [.ref (f5018 1), .int 0, .int 0, .int 0])), ((f5018 1), .inl (cy 0, 2, .inl (va_cpy (va_cpy (fun j => ([125] : List Int32).getD j 0) (va_cpy (fun j => ([] : List Int32).getD j 0) (va_cpy (fun j => ([123] : List Int32).getD j 0) (fun _ => 0) 0 0 1) 0 1 0) 0 1 1) (fun _ => 0) 0 0 2)))] H _ := w
  refine lv_aload_n C.1 C.2.1 dX6_digest_190 rfl (lv_at hl 4 rfl) ?_
  refine x_ki C w [7, 8, 1] [0, 2, 3, 4, 5, 6, 9, 10] rfl rfl (by decide) (by decide) (va_runV (As := []) (rest := [.long (-1051197459786414333)]) (xfix C) (c594_X6_apartNow l G cy sa sv h0 h2 h4 h3 h7 h1 h6 h5 (xtr C) _) (cwV 0 (xhts C) (xgV (maxL := 0) (cc := ⟨#[]⟩) (ret := none) gw_981 gw_982 gw_983 gw_58 gc_X6_apartNow) rfl rfl rfl (by decide +kernel) ⟨(Nat.le_of_ble_eq_true rfl), (Nat.le_of_ble_eq_true rfl)⟩) (xPV C w [7, 8, 1] rfl (by decide) (ci := 10) (q0 := 7) rfl rfl) rfl rfl hl.1 rfl (lv_room (Nat.le_of_ble_eq_true rfl)) dX6_digest_191 ⟨(Nat.le_of_ble_eq_true rfl), (Nat.le_of_ble_eq_true rfl)⟩) (fun f5040 H locs w => ?_)
  have w : xW G A s [(h3, .inr (3, [.int 0, .ref (sv 0), .int 0])), ((f4745 0), .inl (cy 1, 0, .inl (fun _ => 0))), ((f4751 0), .inr (2, [.int 0, .int (-1), .int 0, .ref h2])), (h5, .inl (cy 1, 3, .inl (fun _ => 0))), (h1, .inl (cy 2, 3, .inl (fun _ => 0))), (h6, .inl (cy 1, 3, .inl (fun _ => 0))), ((f5018 0), .inr (0, [.ref (f5018 1), .int 0, .int 0, .int 0])), ((f5018 1), .inl (cy 0, 2, .inl (va_cpy (va_cpy (fun j => ([125] : List Int32).getD j 0) (va_cpy (fun j => ([] : List Int32).getD j 0) (va_cpy (fun j => ([123] : List Int32).getD j 0) (fun _ => 0) 0 0 1) 0 1 0) 0 1 1) (fun _ => 0) 0 0 2))), (h0, .inr (10, [.ref h2, .ref h4, .ref h3, .ref h7, .ref h1, .ref h6, .ref h5, .int 0, .int 0])), (h2, .inr (3, [.int 0, .ref (sv 0), .int 0])), (h4, .inr (3, [.int 0, .ref (sv 0), .int 0]))] H _ := w
  refine W.widen (k := 26) (n := 93) (Nat.le_of_ble_eq_true rfl) (Nat.le_of_ble_eq_true rfl) ?_
  refine lv_i2l (v := 0) C.1 C.2.1 dX6_digest_194 (by decide) ?_
  refine x_kl C w [] [0, 1, 2, 3, 4, 5, 6, 7, 8, 9, 10] rfl rfl (by decide) (by decide) (va_runS (As := [.long (-1051197459786414333), .long 0]) (rest := []) (xfix C) (c682_X6_added l G cy sa sv (xtr C) _) (va_cwS 2 (xhts C) (xgS gw_1091 gw_1092 gw_58 gc_X6_added) rfl rfl rfl (by decide +kernel) ⟨(Nat.le_of_ble_eq_true rfl), (Nat.le_of_ble_eq_true rfl)⟩) (xPS C w [] rfl (by decide)) rfl rfl hl.1 rfl (lv_room (Nat.le_of_ble_eq_true rfl)) dX6_digest_195 ⟨(Nat.le_of_ble_eq_true rfl), (Nat.le_of_ble_eq_true rfl)⟩) (fun f5041 H locs w => ?_)
  have w : xW G A s [(h3, .inr (3, [.int 0, .ref (sv 0), .int 0])), ((f4745 0), .inl (cy 1, 0, .inl (fun _ => 0))), ((f4751 0), .inr (2, [.int 0, .int (-1), .int 0, .ref h2])), (h5, .inl (cy 1, 3, .inl (fun _ => 0))), (h1, .inl (cy 2, 3, .inl (fun _ => 0))), (h6, .inl (cy 1, 3, .inl (fun _ => 0))), ((f5018 0), .inr (0, [.ref (f5018 1), .int 0, .int 0, .int 0])), ((f5018 1), .inl (cy 0, 2, .inl (va_cpy (va_cpy (fun j => ([125] : List Int32).getD j 0) (va_cpy (fun j => ([] : List Int32).getD j 0) (va_cpy (fun j => ([123] : List Int32).getD j 0) (fun _ => 0) 0 0 1) 0 1 0) 0 1 1) (fun _ => 0) 0 0 2))), (h0, .inr (10, [.ref h2, .ref h4, .ref h3, .ref h7, .ref h1, .ref h6, .ref h5, .int 0, .int 0])), (h2, .inr (3, [.int 0, .ref (sv 0), .int 0])), (h4, .inr (3, [.int 0, .ref (sv 0), .int 0]))] H _ := w
  refine lv_lconst (v := 1) C.1 C.2.1 dX6_digest_198 (by decide) ?_
  refine x_kl C w [] [0, 1, 2, 3, 4, 5, 6, 7, 8, 9, 10] rfl rfl (by decide) (by decide) (va_runS (As := [.long 4306366894040258909, .long 1]) (rest := []) (xfix C) (c683_X6_added l G cy sa sv (xtr C) _) (va_cwS 2 (xhts C) (xgS gw_1091 gw_1092 gw_58 gc_X6_added) rfl rfl rfl (by decide +kernel) ⟨(Nat.le_of_ble_eq_true rfl), (Nat.le_of_ble_eq_true rfl)⟩) (xPS C w [] rfl (by decide)) rfl rfl hl.1 rfl (lv_room (Nat.le_of_ble_eq_true rfl)) dX6_digest_199 ⟨(Nat.le_of_ble_eq_true rfl), (Nat.le_of_ble_eq_true rfl)⟩) (fun f5042 H locs w => ?_)
  have w : xW G A s [(h3, .inr (3, [.int 0, .ref (sv 0), .int 0])), ((f4745 0), .inl (cy 1, 0, .inl (fun _ => 0))), ((f4751 0), .inr (2, [.int 0, .int (-1), .int 0, .ref h2])), (h5, .inl (cy 1, 3, .inl (fun _ => 0))), (h1, .inl (cy 2, 3, .inl (fun _ => 0))), (h6, .inl (cy 1, 3, .inl (fun _ => 0))), ((f5018 0), .inr (0, [.ref (f5018 1), .int 0, .int 0, .int 0])), ((f5018 1), .inl (cy 0, 2, .inl (va_cpy (va_cpy (fun j => ([125] : List Int32).getD j 0) (va_cpy (fun j => ([] : List Int32).getD j 0) (va_cpy (fun j => ([123] : List Int32).getD j 0) (fun _ => 0) 0 0 1) 0 1 0) 0 1 1) (fun _ => 0) 0 0 2))), (h0, .inr (10, [.ref h2, .ref h4, .ref h3, .ref h7, .ref h1, .ref h6, .ref h5, .int 0, .int 0])), (h2, .inr (3, [.int 0, .ref (sv 0), .int 0])), (h4, .inr (3, [.int 0, .ref (sv 0), .int 0]))] H _ := w
  have w := w.sub (ws' := [(h0, .inr (10, [.ref h2, .ref h4, .ref h3, .ref h7, .ref h1, .ref h6, .ref h5, .int 0, .int 0])), (h1, .inl (cy 2, 3, .inl (fun _ => 0))), (h2, .inr (3, [.int 0, .ref (sv 0), .int 0])), (h3, .inr (3, [.int 0, .ref (sv 0), .int 0])), (h4, .inr (3, [.int 0, .ref (sv 0), .int 0])), (h5, .inl (cy 1, 3, .inl (fun _ => 0))), (h6, .inl (cy 1, 3, .inl (fun _ => 0)))]) [8, 4, 9, 0, 10, 3, 5] (by decide) rfl rfl
  exact x_lret C w hr (fun _ => 0) rfl rfl dX6_digest_202 (Nat.le_of_ble_eq_true rfl) (Nat.le_of_ble_eq_true rfl)
