theorem xat1_203 : ((vx_atS "Twinindex" 203 "java/lang/IllegalArgumentException" xNm).filter goodWord).all (fun w => decide (w ∈ xTb)) = true := by decide +kernel
theorem xat2_203 : ((vx_atS "Twinindex" 203 "java/lang/IllegalArgumentException" xNm).filter (fun w => !goodWord w)).all (fun w => decide (w ∈ ([.castable "java/lang/IllegalArgumentException" "java/lang/IllegalArgumentException", .declares (Bundle.initS "java/lang/RuntimeException"), .declares (Bundle.initS "java/lang/Exception"), .declares (Bundle.initS Bundle.tN)] : List Cond))) = true := by decide +kernel
theorem xat3_203 : (vx_atS "Twinindex" 203 "java/lang/IllegalArgumentException" xNm).all vx_ot = true := by decide +kernel
theorem xat_203 {p : Program} {l : Launch} {s : State} {m : MethodId} {args : Array Value} {meth : Method} {c : Code} {cc : ByteArray} {nL : Nat} {own : String} {Ts : List Cond} {G : va_G} {cy : Nat → ClassId} {sa : String → Nat → Nat} {sv : Nat → Nat} {A : Nat → Prop} (C : xC p l s m args meth c cc nL own Ts G cy sa sv A) (hk : ∀ w ∈ XG, w ∈ Ts) : ∀ w ∈ vx_atS "Twinindex" 203 "java/lang/IllegalArgumentException" xNm, w.before args s = true := by
  refine vx_hat (B := [.castable "java/lang/IllegalArgumentException" "java/lang/IllegalArgumentException", .declares (Bundle.initS "java/lang/RuntimeException"), .declares (Bundle.initS "java/lang/Exception"), .declares (Bundle.initS Bundle.tN)]) (fun w hw => xhts C w (hk w (List.mem_filter.mpr ⟨of_decide_eq_true (List.all_eq_true.mp xat1_203 w hw), (List.mem_filter.mp hw).2⟩))) (fun w hw => of_decide_eq_true (List.all_eq_true.mp xat2_203 w hw)) ?_
  exact vx_c (va_any rfl (xs_c1 (xS C))) (vx_c (va_any rfl (xs_d1 (xS C))) (vx_c (va_any rfl (xs_d2 (xS C))) (vx_c (va_any rfl (xs_d3 (xS C))) vx_n)))
theorem xatg_203 (ik : Nat) : ∀ w ∈ Cond.classLink "Twinindex" ik "java/lang/IllegalArgumentException" :: Cond.initialized "java/lang/IllegalArgumentException" :: vx_atS "Twinindex" 203 "java/lang/IllegalArgumentException" xNm, vx_ot w = true := by
  intro w hw
  rcases List.mem_cons.mp hw with rfl | hw
  · rfl
  · rcases List.mem_cons.mp hw with rfl | hw
    · rfl
    · exact List.all_eq_true.mp xat3_203 w hw
theorem xat1_161 : ((vx_atS "Twinindex" 161 "java/lang/IllegalStateException" xNm).filter goodWord).all (fun w => decide (w ∈ xTb)) = true := by decide +kernel
theorem xat2_161 : ((vx_atS "Twinindex" 161 "java/lang/IllegalStateException" xNm).filter (fun w => !goodWord w)).all (fun w => decide (w ∈ ([.castable "java/lang/IllegalStateException" "java/lang/IllegalStateException", .declares (Bundle.initS "java/lang/RuntimeException"), .declares (Bundle.initS "java/lang/Exception"), .declares (Bundle.initS Bundle.tN)] : List Cond))) = true := by decide +kernel
theorem xat3_161 : (vx_atS "Twinindex" 161 "java/lang/IllegalStateException" xNm).all vx_ot = true := by decide +kernel
theorem xat_161 {p : Program} {l : Launch} {s : State} {m : MethodId} {args : Array Value} {meth : Method} {c : Code} {cc : ByteArray} {nL : Nat} {own : String} {Ts : List Cond} {G : va_G} {cy : Nat → ClassId} {sa : String → Nat → Nat} {sv : Nat → Nat} {A : Nat → Prop} (C : xC p l s m args meth c cc nL own Ts G cy sa sv A) (hk : ∀ w ∈ XG, w ∈ Ts) : ∀ w ∈ vx_atS "Twinindex" 161 "java/lang/IllegalStateException" xNm, w.before args s = true := by
  refine vx_hat (B := [.castable "java/lang/IllegalStateException" "java/lang/IllegalStateException", .declares (Bundle.initS "java/lang/RuntimeException"), .declares (Bundle.initS "java/lang/Exception"), .declares (Bundle.initS Bundle.tN)]) (fun w hw => xhts C w (hk w (List.mem_filter.mpr ⟨of_decide_eq_true (List.all_eq_true.mp xat1_161 w hw), (List.mem_filter.mp hw).2⟩))) (fun w hw => of_decide_eq_true (List.all_eq_true.mp xat2_161 w hw)) ?_
  exact vx_c (va_any rfl (xs_c2 (xS C))) (vx_c (va_any rfl (xs_d1 (xS C))) (vx_c (va_any rfl (xs_d2 (xS C))) (vx_c (va_any rfl (xs_d3 (xS C))) vx_n)))
theorem xatg_161 (ik : Nat) : ∀ w ∈ Cond.classLink "Twinindex" ik "java/lang/IllegalStateException" :: Cond.initialized "java/lang/IllegalStateException" :: vx_atS "Twinindex" 161 "java/lang/IllegalStateException" xNm, vx_ot w = true := by
  intro w hw
  rcases List.mem_cons.mp hw with rfl | hw
  · rfl
  · rcases List.mem_cons.mp hw with rfl | hw
    · rfl
    · exact List.all_eq_true.mp xat3_161 w hw
