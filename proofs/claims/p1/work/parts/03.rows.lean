/-! ===== more rows of the base: a callee's words, the constants by name, throws, bodies with handlers ===== -/
theorem xgC {k : Cond} {ws : List Cond} (h : ∀ w ∈ ws, w ∈ XG) : GoodIn (k :: XG) ws := fun w hw => ⟨List.mem_cons_of_mem _ (h w hw), good_of_word (xg_ok w (h w hw))⟩
theorem xgI {k c : Cond} (h : c ∈ XG) : GoodIn (k :: XG) (c :: XG) := xgC (fun w hw => (List.mem_cons.mp hw).elim (fun e => by rw [e]; exact h) (fun e => e))
theorem xgV {k : Cond} {own C : String} {idx maxL : Nat} {y : MethodName} {cc : ByteArray} {ret : Option FieldType} (h1 : Cond.methodLink own idx y ∈ XG) (h2 : Cond.instanceMethod y ∈ XG) (h3 : Cond.selects C y y ∈ XG) (h4 : Cond.initialized C ∈ XG) {c : Cond} (h5 : c ∈ XG) : GoodIn (k :: XG) (wsV own idx C y (c :: XG)) := xgC (fun w hw => by
  simp only [wsV, List.mem_append, List.mem_cons, List.not_mem_nil, or_false] at hw
  rcases hw with (rfl | rfl | rfl | rfl) | rfl | hw <;> assumption)
theorem xgS {k : Cond} {own : String} {idx : Nat} {y : MethodName} (h1 : Cond.methodLink own idx y ∈ XG) (h2 : Cond.static y ∈ XG) (h3 : Cond.initialized y.cls ∈ XG) {c : Cond} (h5 : c ∈ XG) : GoodIn (k :: XG) (va_wsS own idx y (c :: XG)) := xgC (fun w hw => by
  simp only [va_wsS, List.mem_append, List.mem_cons, List.not_mem_nil, or_false] at hw
  rcases hw with (rfl | rfl | rfl) | rfl | hw <;> assumption)
theorem xgU {k : Cond} {own C owner : String} {idx : Nat} {x y : MethodName} (h1 : Cond.methodLink own idx x ∈ XG) (h2 : Cond.sameMethod x.cls owner x.name x.desc ∈ XG) (h3 : Cond.selects C x y ∈ XG) (h4 : Cond.instanceMethod y ∈ XG) (h6 : Cond.initialized y.cls ∈ XG) {c : Cond} (h5 : c ∈ XG) : GoodIn (k :: XG) (va_wsU own idx C owner x y (c :: XG)) := xgC (fun w hw => by
  simp only [va_wsU, List.mem_append, List.mem_cons, List.not_mem_nil, or_false] at hw
  rcases hw with (rfl | rfl | rfl | rfl | rfl) | rfl | hw <;> assumption)
theorem xgO {k : Cond} {own C owner : String} {idx : Nat} {x y : MethodName} (h1 : Cond.methodLink own idx x ∈ XG) (h2 : Cond.sameMethod x.cls owner x.name x.desc ∈ XG) (h7 : Cond.instanceMethod ⟨owner, x.name, x.desc⟩ ∈ XG) (h3 : Cond.selects C x y ∈ XG) (h4 : Cond.instanceMethod y ∈ XG) (h6 : Cond.initialized y.cls ∈ XG) {c : Cond} (h5 : c ∈ XG) : GoodIn (k :: XG) (va_wsO own idx C owner x y (c :: XG)) := xgC (fun w hw => by
  simp only [va_wsO, List.mem_append, List.mem_cons, List.not_mem_nil, or_false] at hw
  rcases hw with (rfl | rfl | rfl | rfl | rfl | rfl) | rfl | hw <;> assumption)
theorem xgSU {k : Cond} {own : String} {idx : Nat} {y : MethodName} (h1 : Cond.methodLink own idx y ∈ XG) (h2 : Cond.sameMethod y.cls y.cls y.name y.desc ∈ XG) (h3 : Cond.superclass own y.cls ∈ XG) (h4 : Cond.instanceMethod y ∈ XG) (h6 : Cond.initialized y.cls ∈ XG) {c : Cond} (h5 : c ∈ XG) : GoodIn (k :: XG) (va_wsSU own idx y (c :: XG)) := xgC (fun w hw => by
  simp only [va_wsSU, List.mem_append, List.mem_cons, List.not_mem_nil, or_false] at hw
  rcases hw with (rfl | rfl | rfl | rfl | rfl) | rfl | hw <;> assumption)
theorem xgF {k : Cond} {own C : String} {idx : Nat} {x y : MethodName} (h1 : Cond.methodLink own idx x ∈ XG) (h3 : Cond.selects C x y ∈ XG) (h4 : Cond.instanceMethod y ∈ XG) (h6 : Cond.initialized y.cls ∈ XG) {c : Cond} (h5 : c ∈ XG) : GoodIn (k :: XG) (va_wsF own idx C x y (c :: XG)) := xgC (fun w hw => by
  simp only [va_wsF, List.mem_append, List.mem_cons, List.not_mem_nil, or_false] at hw
  rcases hw with (rfl | rfl | rfl | rfl) | rfl | hw <;> assumption)
theorem gw_oi : Cond.code objectInit ⟨#[0xb1]⟩ 1 none ∈ XG := xg 83 (by decide +kernel) (by decide +kernel)
theorem xinG_J0 : ∀ w ∈ u_ws RJ0 TJ0 4, w ∈ XG := by
  have h : (u_ws RJ0 TJ0 4).all (fun w => decide (w ∈ xTb) && goodWord w) = true := by decide +kernel
  intro w hw
  have h1 := List.all_eq_true.mp h w hw
  simp only [Bool.and_eq_true, decide_eq_true_eq] at h1
  exact List.mem_filter.mpr h1
theorem xin_J0 (k : Cond) : ∀ w ∈ u_ws RJ0 TJ0 4, w ∈ k :: XG := fun w h => List.mem_cons_of_mem _ (xinG_J0 w h)
theorem xinG_J4 : ∀ w ∈ u_ws RJ4 TJ4 4, w ∈ XG := by
  have h : (u_ws RJ4 TJ4 4).all (fun w => decide (w ∈ xTb) && goodWord w) = true := by decide +kernel
  intro w hw
  have h1 := List.all_eq_true.mp h w hw
  simp only [Bool.and_eq_true, decide_eq_true_eq] at h1
  exact List.mem_filter.mpr h1
theorem xin_J4 (k : Cond) : ∀ w ∈ u_ws RJ4 TJ4 4, w ∈ k :: XG := fun w h => List.mem_cons_of_mem _ (xinG_J4 w h)
theorem xinG_Jx35411 : ∀ w ∈ u_ws RJx35411 TJx35411 4, w ∈ XG := by
  have h : (u_ws RJx35411 TJx35411 4).all (fun w => decide (w ∈ xTb) && goodWord w) = true := by decide +kernel
  intro w hw
  have h1 := List.all_eq_true.mp h w hw
  simp only [Bool.and_eq_true, decide_eq_true_eq] at h1
  exact List.mem_filter.mpr h1
theorem xin_Jx35411 (k : Cond) : ∀ w ∈ u_ws RJx35411 TJx35411 4, w ∈ k :: XG := fun w h => List.mem_cons_of_mem _ (xinG_Jx35411 w h)
theorem xinG_Jx4a65c : ∀ w ∈ u_ws RJx4a65c TJx4a65c 3, w ∈ XG := by
  have h : (u_ws RJx4a65c TJx4a65c 3).all (fun w => decide (w ∈ xTb) && goodWord w) = true := by decide +kernel
  intro w hw
  have h1 := List.all_eq_true.mp h w hw
  simp only [Bool.and_eq_true, decide_eq_true_eq] at h1
  exact List.mem_filter.mpr h1
theorem xin_Jx4a65c (k : Cond) : ∀ w ∈ u_ws RJx4a65c TJx4a65c 3, w ∈ k :: XG := fun w h => List.mem_cons_of_mem _ (xinG_Jx4a65c w h)
theorem xinG_X0 : ∀ w ∈ u_ws RX0 TX0 3, w ∈ XG := by
  have h : (u_ws RX0 TX0 3).all (fun w => decide (w ∈ xTb) && goodWord w) = true := by decide +kernel
  intro w hw
  have h1 := List.all_eq_true.mp h w hw
  simp only [Bool.and_eq_true, decide_eq_true_eq] at h1
  exact List.mem_filter.mpr h1
theorem xin_X0 (k : Cond) : ∀ w ∈ u_ws RX0 TX0 3, w ∈ k :: XG := fun w h => List.mem_cons_of_mem _ (xinG_X0 w h)
theorem xinG_X1 : ∀ w ∈ u_ws RX1 TX1 4, w ∈ XG := by
  have h : (u_ws RX1 TX1 4).all (fun w => decide (w ∈ xTb) && goodWord w) = true := by decide +kernel
  intro w hw
  have h1 := List.all_eq_true.mp h w hw
  simp only [Bool.and_eq_true, decide_eq_true_eq] at h1
  exact List.mem_filter.mpr h1
theorem xin_X1 (k : Cond) : ∀ w ∈ u_ws RX1 TX1 4, w ∈ k :: XG := fun w h => List.mem_cons_of_mem _ (xinG_X1 w h)
theorem xinG_X2 : ∀ w ∈ u_ws RX2 TX2 2, w ∈ XG := by
  have h : (u_ws RX2 TX2 2).all (fun w => decide (w ∈ xTb) && goodWord w) = true := by decide +kernel
  intro w hw
  have h1 := List.all_eq_true.mp h w hw
  simp only [Bool.and_eq_true, decide_eq_true_eq] at h1
  exact List.mem_filter.mpr h1
theorem xin_X2 (k : Cond) : ∀ w ∈ u_ws RX2 TX2 2, w ∈ k :: XG := fun w h => List.mem_cons_of_mem _ (xinG_X2 w h)
theorem xinG_X3 : ∀ w ∈ u_ws RX3 TX3 2, w ∈ XG := by
  have h : (u_ws RX3 TX3 2).all (fun w => decide (w ∈ xTb) && goodWord w) = true := by decide +kernel
  intro w hw
  have h1 := List.all_eq_true.mp h w hw
  simp only [Bool.and_eq_true, decide_eq_true_eq] at h1
  exact List.mem_filter.mpr h1
theorem xin_X3 (k : Cond) : ∀ w ∈ u_ws RX3 TX3 2, w ∈ k :: XG := fun w h => List.mem_cons_of_mem _ (xinG_X3 w h)
theorem xinG_X4 : ∀ w ∈ u_ws RX4 TX4 8, w ∈ XG := by
  have h : (u_ws RX4 TX4 8).all (fun w => decide (w ∈ xTb) && goodWord w) = true := by decide +kernel
  intro w hw
  have h1 := List.all_eq_true.mp h w hw
  simp only [Bool.and_eq_true, decide_eq_true_eq] at h1
  exact List.mem_filter.mpr h1
theorem xin_X4 (k : Cond) : ∀ w ∈ u_ws RX4 TX4 8, w ∈ k :: XG := fun w h => List.mem_cons_of_mem _ (xinG_X4 w h)
theorem xinG_X5 : ∀ w ∈ u_ws RX5 TX5 2, w ∈ XG := by
  have h : (u_ws RX5 TX5 2).all (fun w => decide (w ∈ xTb) && goodWord w) = true := by decide +kernel
  intro w hw
  have h1 := List.all_eq_true.mp h w hw
  simp only [Bool.and_eq_true, decide_eq_true_eq] at h1
  exact List.mem_filter.mpr h1
theorem xin_X5 (k : Cond) : ∀ w ∈ u_ws RX5 TX5 2, w ∈ k :: XG := fun w h => List.mem_cons_of_mem _ (xinG_X5 w h)
theorem xinG_X6 : ∀ w ∈ u_ws RX6 TX6 9, w ∈ XG := by
  have h : (u_ws RX6 TX6 9).all (fun w => decide (w ∈ xTb) && goodWord w) = true := by decide +kernel
  intro w hw
  have h1 := List.all_eq_true.mp h w hw
  simp only [Bool.and_eq_true, decide_eq_true_eq] at h1
  exact List.mem_filter.mpr h1
theorem xin_X6 (k : Cond) : ∀ w ∈ u_ws RX6 TX6 9, w ∈ k :: XG := fun w h => List.mem_cons_of_mem _ (xinG_X6 w h)
section XS
variable {sa : String → Nat → Nat} {sv : Nat → Nat} {A : Nat → Prop} {U : State} {H : Heap}
theorem xs_cs (h : xSt sa sv A U H) : va_Z "java/lang/String" "COMPACT_STRINGS" "Z" (.int 1) A U H := h.1
theorem xs_dz (h : xSt sa sv A U H) : va_Z "java/util/ArrayList" "DEFAULTCAPACITY_EMPTY_ELEMENTDATA" "[Ljava/lang/Object;" (.ref (sv 0)) A U H := h.2.1.1
theorem xs_dt (h : xSt sa sv A U H) : va_T (.object "java/lang/Object") (sv 0) 0 (fun _ => .null) A U H := h.2.1.2
theorem xs_tU (h : xSt sa sv A U H) : vx_Zq Bundle.tN "UNASSIGNED_STACK" Bundle.steD A U H := h.2.2.1.1
theorem xs_tN (h : xSt sa sv A U H) : vx_Zq Bundle.tN "SUPPRESSED_SENTINEL" Bundle.listD A U H := h.2.2.1.2
theorem xs_s0 (h : xSt sa sv A U H) : xStr (sa "TwinindexModel" 122) (sv 1) [] A U H := h.2.2.2.2.1.1
theorem xs_s1 (h : xSt sa sv A U H) : xStr (sa "TwinindexModel" 151) (sv 2) [123] A U H := h.2.2.2.2.1.2.1
theorem xs_s2 (h : xSt sa sv A U H) : xStr (sa "TwinindexModel" 159) (sv 3) [125] A U H := h.2.2.2.2.1.2.2
theorem xs_n1 (h : xSt sa sv A U H) : va_Nc "java/lang/IllegalStateException" "java/lang/IllegalArgumentException" U := h.2.2.2.2.2.1.1
theorem xs_n2 (h : xSt sa sv A U H) : va_Nc "java/lang/IllegalArgumentException" "java/lang/IndexOutOfBoundsException" U := h.2.2.2.2.2.1.2.1
theorem xs_aoP (h : xSt sa sv A U H) : va_AO "Twinindex$Pager" U := h.2.2.2.2.2.1.2.2.1
theorem xs_aoO (h : xSt sa sv A U H) : va_AO "java/lang/Object" U := h.2.2.2.2.2.1.2.2.2
theorem xs_c1 (h : xSt sa sv A U H) : va_Nw (.castable "java/lang/IllegalArgumentException" "java/lang/IllegalArgumentException") U := h.2.2.2.2.2.2.1.1
theorem xs_c2 (h : xSt sa sv A U H) : va_Nw (.castable "java/lang/IllegalStateException" "java/lang/IllegalStateException") U := h.2.2.2.2.2.2.1.2.1
theorem xs_c3 (h : xSt sa sv A U H) : va_Nw (.castable "java/lang/IndexOutOfBoundsException" "java/lang/IndexOutOfBoundsException") U := h.2.2.2.2.2.2.1.2.2.1
theorem xs_cI (h : xSt sa sv A U H) : va_Nw (.castable "[I" "java/lang/Object") U := h.2.2.2.2.2.2.1.2.2.2.1
theorem xs_cA (h : xSt sa sv A U H) : va_Nw (.castable "java/util/ArrayList" "java/lang/Object") U := h.2.2.2.2.2.2.1.2.2.2.2.1
theorem xs_d1 (h : xSt sa sv A U H) : va_Nw (.declares (Bundle.initS "java/lang/RuntimeException")) U := h.2.2.2.2.2.2.1.2.2.2.2.2.1
theorem xs_d2 (h : xSt sa sv A U H) : va_Nw (.declares (Bundle.initS "java/lang/Exception")) U := h.2.2.2.2.2.2.1.2.2.2.2.2.2.1
theorem xs_d3 (h : xSt sa sv A U H) : va_Nw (.declares (Bundle.initS Bundle.tN)) U := h.2.2.2.2.2.2.1.2.2.2.2.2.2.2
theorem xs_fw (h : xSt sa sv A U H) : va_Fw RJx35411 ⟨"java/util/Iterator", "hasNext", "()Z"⟩ yJx35411_hasNext_aae02 U := h.2.2.2.2.2.2.2.1
theorem xs_mP (h : xSt sa sv A U H) : va_Nw (.methodLinkNest "Twinindex" 41 yX0_init "Twinindex") U := h.2.2.2.2.2.2.2.2.1.1
theorem xs_mB (h : xSt sa sv A U H) : va_Nw (.methodLinkNest "Twinindex$Sheet" 56 yX4_isBetween "Twinindex") U := h.2.2.2.2.2.2.2.2.1.2.1
theorem xs_mO (h : xSt sa sv A U H) : va_Nw (.methodLinkNest "TwinindexLaw" 106 yX5_init "TwinindexLaw") U := h.2.2.2.2.2.2.2.2.1.2.2
theorem xs_f_isMarked (h : xSt sa sv A U H) : va_Nw (.fieldLinkNest "Twinindex" 228 "Twinindex$Pager" "isMarked" "Z" "Twinindex") U := h.2.2.2.2.2.2.2.2.2.1
theorem xs_f_mark (h : xSt sa sv A U H) : va_Nw (.fieldLinkNest "Twinindex" 232 "Twinindex$Pager" "mark" "I" "Twinindex") U := h.2.2.2.2.2.2.2.2.2.2.1
theorem xs_f_told (h : xSt sa sv A U H) : va_Nw (.fieldLinkNest "Twinindex" 225 "Twinindex$Pager" "told" "I" "Twinindex") U := h.2.2.2.2.2.2.2.2.2.2.2.1
theorem xs_f_n (h : xSt sa sv A U H) : va_Nw (.fieldLinkNest "TwinindexLaw" 13 "TwinindexLaw$Out" "n" "J" "TwinindexLaw") U := h.2.2.2.2.2.2.2.2.2.2.2.2.1
theorem xs_f_s (h : xSt sa sv A U H) : va_Nw (.fieldLinkNest "TwinindexLaw" 67 "TwinindexLaw$Out" "s" "Ljava/lang/String;" "TwinindexLaw") U := h.2.2.2.2.2.2.2.2.2.2.2.2.2.1
theorem xs_f_size (h : xSt sa sv A U H) : va_Nw (.fieldLinkNest "java/util/ArrayList$Itr" 28 "java/util/ArrayList" "size" "I" "java/util/ArrayList") U := h.2.2.2.2.2.2.2.2.2.2.2.2.2.2
end XS
abbrev xNm : List String := ["java/lang/RuntimeException", "java/lang/Exception"]
theorem x_thr {p : Program} {l : Launch} {e : Env} {R : Room} {s : State} {m : MethodId} {args : Array Value} {below : List Frame} {meth : Method} {c : Code} {H : Heap} {locs : List Loc} {cells slots : Nat} {cc : ByteArray} {nL : Nat} {own : String} {Ts : List Cond} {G : va_G} {cy : Nat → ClassId} {sa : String → Nat → Nat} {sv : Nat → Nat} {A : Nat → Prop} {ws : va_W} {w1 : (Nat → Nat) → va_W} {pc mc ms : Nat} {ls : Array Slot} {rest : List Value} {Qc : Array Value → State → Outcome → State → Prop} {E tx : String} {ik is ic : Nat}
    (C : xC p l s m args meth c cc nL own Ts G cy sa sv A) (w : xW G A s ws H locs) (hno : ∀ x ∈ c.exceptionTable.toList, False) (hsz : ls.size = nL) (hcls : Bundle.fit E = true) (hk : Cond.classLink own ik E ∈ Ts) (hini : Cond.initialized E ∈ Ts) (hm : (own, is, tx) ∈ xSR) (hat : ∀ w ∈ vx_atS own ic E xNm, w.before args s = true) (hgood : ∀ ik : Nat, ∀ w ∈ Cond.classLink own ik E :: Cond.initialized E :: vx_atS own ic E xNm, vx_ot w = true)
    (d0 : decode cc pc = .ok (.new ik, 3)) (d3 : decode cc (pc + 3) = .ok (.dup, 1)) (d4 : decode cc (pc + 4) = .ok (.ldc is, 2)) (d6 : decode cc (pc + 6) = .ok (.invokespecial ic, 3)) (d9 : decode cc (pc + 9) = .ok (.athrow, 1))
    (hRf : 6 ≤ R.frames) (hRl : (rest.map fun v => v.category).sum + 100 ≤ R.locals) (hc : cells + 1 ≤ mc) (hs : slots + 6 ≤ ms) (hRc : mc = R.cells) (hRs : ms = R.slots) (f : Nat → Nat) (hf : w1 f = ws) :
    W p l e R s m args below meth c H locs cells slots (vx_MQ below Qc (xQx G w1 E A) args s mc ms A) (F0 m pc ls rest) := by
  refine vx_throwS (names := xNm) C.1 C.2.1 (xtr C) (xown C) hcls (by decide) (xhts C _ hk) (xhts C _ hini) ((xS C).2.2.2.1 _ hm) hat (hgood ik) (xs_tU (xS C)) (xs_tN (xS C)) w.2.2 (hsz.trans C.2.2.1.symm) d0 d3 d4 d6 d9 (fun x hx => (hno x hx).elim) (by show 2 + 3 < R.frames; omega) (by show (rest.map fun v => v.category).sum + (13 * (2 + 1) + 43) ≤ R.locals; omega) (by omega) (by omega) (xlk C) ?_ w.2.2.2.2 hc hs
  intro t _ hle hsame
  refine ⟨(), trivial, ⟨rfl, f, by rw [hf]; exact w.1.kept (fun k x hx => hsame x.1 ((w.1 k x hx).lt)), by rw [hf]; exact w.2.1⟩, Nat.le_trans w.2.2.1 hle, fun q h1 h2 => ?_⟩
  exact (hsame q (Nat.lt_of_lt_of_le h1 w.2.2.1)).trans (w.2.2.2.1 q h1 h2)
theorem x_thrW {p : Program} {l : Launch} {e : Env} {R : Room} {s : State} {m : MethodId} {args : Array Value} {below : List Frame} {meth : Method} {c : Code} {H : Heap} {locs : List Loc} {cells slots : Nat} {cc : ByteArray} {nL : Nat} {own : String} {Ts : List Cond} {G : va_G} {cy : Nat → ClassId} {sa : String → Nat → Nat} {sv : Nat → Nat} {A : Nat → Prop} {ws : va_W} {w1 : (Nat → Nat) → va_W} {pc mc ms : Nat} {ls : Array Slot} {rest : List Value} {Qc : Array Value → State → Outcome → State → Prop} {E tx : String} {ik is ic : Nat}
    (C : xC p l s m args meth c cc nL own Ts G cy sa sv A) (w : xW G A s ws H locs) (hno : ∀ x ∈ c.exceptionTable.toList, False) (hsz : ls.size = nL) (hcls : Bundle.fit E = true) (hk : Cond.classLink own ik E ∈ Ts) (hini : Cond.initialized E ∈ Ts) (hm : (own, is, tx) ∈ xSR) (hat : ∀ w ∈ vx_atS own ic E xNm, w.before args s = true) (hgood : ∀ ik : Nat, ∀ w ∈ Cond.classLink own ik E :: Cond.initialized E :: vx_atS own ic E xNm, vx_ot w = true)
    (d0 : decode cc pc = .ok (.new ik, 3)) (d3 : decode cc (pc + 3) = .ok (.dup, 1)) (d4 : decode cc (pc + 4) = .ok (.ldc_w is, 3)) (d6 : decode cc (pc + 7) = .ok (.invokespecial ic, 3)) (d9 : decode cc (pc + 10) = .ok (.athrow, 1))
    (hRf : 6 ≤ R.frames) (hRl : (rest.map fun v => v.category).sum + 100 ≤ R.locals) (hc : cells + 1 ≤ mc) (hs : slots + 6 ≤ ms) (hRc : mc = R.cells) (hRs : ms = R.slots) (f : Nat → Nat) (hf : w1 f = ws) :
    W p l e R s m args below meth c H locs cells slots (vx_MQ below Qc (xQx G w1 E A) args s mc ms A) (F0 m pc ls rest) := by
  refine vx_throwSW (names := xNm) C.1 C.2.1 (xtr C) (xown C) hcls (by decide) (xhts C _ hk) (xhts C _ hini) ((xS C).2.2.2.1 _ hm) hat (hgood ik) (xs_tU (xS C)) (xs_tN (xS C)) w.2.2 (hsz.trans C.2.2.1.symm) d0 d3 d4 d6 d9 (fun x hx => (hno x hx).elim) (by show 2 + 3 < R.frames; omega) (by show (rest.map fun v => v.category).sum + (13 * (2 + 1) + 43) ≤ R.locals; omega) (by omega) (by omega) (xlk C) ?_ w.2.2.2.2 hc hs
  intro t _ hle hsame
  refine ⟨(), trivial, ⟨rfl, f, by rw [hf]; exact w.1.kept (fun k x hx => hsame x.1 ((w.1 k x hx).lt)), by rw [hf]; exact w.2.1⟩, Nat.le_trans w.2.2.1 hle, fun q h1 h2 => ?_⟩
  exact (hsame q (Nat.lt_of_lt_of_le h1 w.2.2.1)).trans (w.2.2.2.1 q h1 h2)
/-- a body with handlers that comes back -/
theorem xofH {l : Launch} {G : va_G} {cy : Nat → ClassId} {sa : String → Nat → Nat} {sv : Nat → Nat} {y : MethodName} {rm : Room} {av : List Value} {wc : va_W} {Q : (Nat → Prop) → Array Value → State → Outcome → State → Prop} {cc : ByteArray} {maxL : Nat} {ret : Option FieldType} {hh : List (Nat × Nat × Nat × Nat)} (hy : plainName y.cls = true) (hlen : (lg_sl av).length ≤ maxL)
    (body : ∀ (p : Program) (e : Env) (s : State) (m : MethodId) (below : List Frame) (meth : Method) (c : Code) (A : Nat → Prop), xC p l s m av.toArray meth c cc maxL y.cls (Cond.codeWith y cc maxL ret hh :: XG) G cy sa sv A → xW G A s wc s.heap [] → meth.sig.returnType = ret → meth.name = y.name → c.exceptionTable.toList = tableOf hh → ∀ ls : Array Slot, lv_has ls maxL (lv_args 0 av) → W p l e rm s m av.toArray below meth c s.heap [] 0 0 (MQ below (Q A) av.toArray s rm.cells rm.slots A) (F0 m 0 ls [])) :
    xM l G cy sa sv y (Cond.codeWith y cc maxL ret hh :: XG) rm av wc Q := by
  intro htr sz
  refine MetFree.of_bodyS (code := cc) (maxLocals := maxL) (ret := ret) hy ?_ ?_
  · intro args s m h hn
    obtain ⟨m9, meth, c, hn9, h1, h2, h3, h4, -, h5, h6, -⟩ := Cond.codeWith_spec (atoms_spec (ws := Cond.codeWith y cc maxL ret hh :: XG) h _ List.mem_cons_self)
    cases hn.symm.trans hn9
    exact ⟨meth, c, h1, h2, h3, h4, h5, h6⟩
  · intro p e s m args below meth c s₁ B hml hv _
    have hh0 : s₁.heap = s.heap := by rw [B.state]; rfl
    have hT := vx_table (x := y) B (atoms_spec (ws := Cond.codeWith y cc maxL ret hh :: XG) B.pre _ List.mem_cons_self)
    obtain ⟨rfl, hsz, hP, hK, hD0, hSt⟩ := hv
    subst hsz
    have hD := hD0.self (sz := s.heap.size)
    have K := body p e s m below meth c (va_A wc s.heap.size) ⟨B.exec, B.bytes, hml, findClass_of_methodNamed B.named, atoms_spec (ws := Cond.codeWith y cc maxL ret hh :: XG) B.pre, hK, hSt, fun q h => Or.inr h, B.notSynchronized, htr⟩ ⟨hP, hD, va_S.rf⟩ B.returns (name_of_methodNamed B.named B.method).1 hT _ (lv_entry av hlen)
    rw [← lg_entry_eq] at K
    obtain ⟨t, a1, o, b1, b2, b3⟩ := K s₁ hh0 (Stand.of_body B)
    exact ⟨t, o, a1, b1, b2, ⟨b3.1, b3.2⟩⟩
theorem x_acmpeqT {p : Program} {l : Launch} {e : Env} {R : Room} {s : State} {m : MethodId} {args : Array Value} {below : List Frame} {meth : Method} {c : Code} {H : Heap} {locs : List Loc} {cells slots : Nat} {Q : State → Prop} {cc : ByteArray} {nL : Nat} {own : String} {Ts : List Cond} {G : va_G} {cy : Nat → ClassId} {sa : String → Nat → Nat} {sv : Nat → Nat} {A : Nat → Prop} {pc x : Nat} {ls : Array Slot} {rest : List Value} {off : Int} {tgt : Nat} (C : xC p l s m args meth c cc nL own Ts G cy sa sv A) (hdg : decode cc pc = .ok (.if_acmp .eq off, 3)) (ht : (pc : Int) + off = (tgt : Int)) (kt : W p l e R s m args below meth c H locs cells slots Q (F0 m tgt ls rest)) : W p l e R s m args below meth c H locs cells slots Q (F0 m pc ls (.ref x :: .ref x :: rest)) :=
  lv_acmp_eq (rx := some x) (ry := some x) C.1 C.2.1 hdg ht (fun _ => kt) (fun h => absurd rfl h)
theorem xvin {i : Int32} {n : Nat} (h : ¬ (i < 0 ∨ n ≤ i.toNatClampNeg)) : vp_in i n := h
