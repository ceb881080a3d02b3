theorem xat1_333 : ((vx_atS "Twinindex" 333 "java/lang/IndexOutOfBoundsException" xNm).filter goodWord).all (fun w => decide (w ∈ xTb)) = true := by decide +kernel
theorem xat2_333 : ((vx_atS "Twinindex" 333 "java/lang/IndexOutOfBoundsException" xNm).filter (fun w => !goodWord w)).all (fun w => decide (w ∈ ([.castable "java/lang/IndexOutOfBoundsException" "java/lang/IndexOutOfBoundsException", .declares (Bundle.initS "java/lang/RuntimeException"), .declares (Bundle.initS "java/lang/Exception"), .declares (Bundle.initS Bundle.tN)] : List Cond))) = true := by decide +kernel
theorem xat3_333 : (vx_atS "Twinindex" 333 "java/lang/IndexOutOfBoundsException" xNm).all vx_ot = true := by decide +kernel
theorem xat_333 {p : Program} {l : Launch} {s : State} {m : MethodId} {args : Array Value} {meth : Method} {c : Code} {cc : ByteArray} {nL : Nat} {own : String} {Ts : List Cond} {G : va_G} {cy : Nat → ClassId} {sa : String → Nat → Nat} {sv : Nat → Nat} {A : Nat → Prop} (C : xC p l s m args meth c cc nL own Ts G cy sa sv A) (hk : ∀ w ∈ XG, w ∈ Ts) : ∀ w ∈ vx_atS "Twinindex" 333 "java/lang/IndexOutOfBoundsException" xNm, w.before args s = true := by
  refine vx_hat (B := [.castable "java/lang/IndexOutOfBoundsException" "java/lang/IndexOutOfBoundsException", .declares (Bundle.initS "java/lang/RuntimeException"), .declares (Bundle.initS "java/lang/Exception"), .declares (Bundle.initS Bundle.tN)]) (fun w hw => xhts C w (hk w (List.mem_filter.mpr ⟨of_decide_eq_true (List.all_eq_true.mp xat1_333 w hw), (List.mem_filter.mp hw).2⟩))) (fun w hw => of_decide_eq_true (List.all_eq_true.mp xat2_333 w hw)) ?_
  exact vx_c (va_any rfl (xs_c3 (xS C))) (vx_c (va_any rfl (xs_d1 (xS C))) (vx_c (va_any rfl (xs_d2 (xS C))) (vx_c (va_any rfl (xs_d3 (xS C))) vx_n)))
theorem xatg_333 (ik : Nat) : ∀ w ∈ Cond.classLink "Twinindex" ik "java/lang/IndexOutOfBoundsException" :: Cond.initialized "java/lang/IndexOutOfBoundsException" :: vx_atS "Twinindex" 333 "java/lang/IndexOutOfBoundsException" xNm, vx_ot w = true := by
  intro w hw
  rcases List.mem_cons.mp hw with rfl | hw
  · rfl
  · rcases List.mem_cons.mp hw with rfl | hw
    · rfl
    · exact List.all_eq_true.mp xat3_333 w hw
