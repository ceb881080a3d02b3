/-! ===== the start: what the Statement gives of it, as xSt and the classes; some numbers ===== -/
theorem fa_lt (a b : Int32) : a < b ↔ a.toInt < b.toInt := Int32.lt_iff_toInt_lt
theorem fa_le (a b : Int32) : a ≤ b ↔ a.toInt ≤ b.toInt := Int32.le_iff_toInt_le
theorem fa_eq (a b : Int32) : a = b ↔ a.toInt = b.toInt := Int32.toInt_inj.symm
theorem xsub0 (x : Int32) : 0 ≤ x.toInt → ((0 : Int32) - x).toInt = - x.toInt := by
  intro h
  have h1 := Int32.le_toInt x
  have h2 := Int32.toInt_lt x
  have h0 : (0 : Int32).toInt = 0 := by decide
  rw [Int32.toInt_sub, h0, Int.bmod_eq_of_le (by omega) (by omega)]
  omega
theorem xadd0 (x : Int32) : ((0 : Int32) + x).toInt = x.toInt := by rw [Int32.zero_add]
theorem xarrP {args : Array Value} {s : State} {ty : FieldType} (h : (Cond.arrayClass ty).before args s = true) (hpr : ∀ cA, s.vm.findClass ("[" ++ ty.toString) = some cA → va_RA s cA ty) : ∃ cA, ArrOfT s cA ty ∧ va_RA s cA ty := by
  obtain ⟨c, k, comp, h1, h2, h3⟩ := Cond.arrayClass_spec h
  exact ⟨c, fun n z => ⟨fun k h => (by cases h), k, h2, comp, h3⟩, hpr c h1⟩
theorem xarrO {args : Array Value} {s : State} {n : String} (h : (Cond.arrayOver (.object n)).before args s = true) : ∃ cA, ArrOfT s cA (.object n) ∧ va_RA s cA (.object n) := by
  obtain ⟨comp, c, k, h1, -, h2, h3, h4⟩ := Cond.arrayOver_spec h
  exact ⟨c, fun n z => ⟨fun k h => (by cases h), k, h2, comp, h3⟩, k, comp, h2, h3, h1, h4⟩
theorem xvr {args : Array Value} {s : State} {own tx : String} {k : Nat} (h1 : (Cond.stringRef own k tx).before args s = true) (h2 : (Cond.exactly (.string own k) "java/lang/String").before args s = true) : ∃ a, vk_R own k tx a s := by
  obtain ⟨a, c, cA, kA, q1, -⟩ := Cond.exactly_spec (args := args) (first := s) (o := none) (s := s) (idx := []) (t := .string own k) (cls := "java/lang/String") h2
  exact ⟨a, vk_R.of h1 q1⟩
theorem xstr0 {args : Array Value} {s : State} {own : String} {k : Nat} {bs : List Int32} {A : Nat → Prop} (hlen : bs.length < 2 ^ 31) (hex : (Cond.exactly (.string own k) "java/lang/String").before args s = true) (hco : (Cond.eq (.field (.string own k) "java/lang/String" "coder" "B") (.int 0)).before args s = true)
    (har : (Cond.arrayOf (.field (.string own k) "java/lang/String" "value" "[B") .byte).before args s = true) (hle : (Cond.eq (.length (.field (.string own k) "java/lang/String" "value" "[B")) (.int (Int32.ofNat bs.length))).before args s = true)
    (hel : ∀ j : Nat, j < bs.length → (Cond.eq (.elem (.field (.string own k) "java/lang/String" "value" "[B") (.int (Int32.ofNat j))) (.int (bs.getD j 0))).before args s = true) (hA : ∀ a : Nat, a < s.heap.size → ¬ A a) :
    ∃ q v : Nat, (Term.string own k).eval args s none [] s = some (.ref q) ∧ xStr q v bs A s s.heap := by
  obtain ⟨a, c, cA, kA, q1, q2, q3, q4, q5, q6, -⟩ := Cond.exactly_spec (args := args) (first := s) (o := none) (s := s) (idx := []) (t := .string own k) (cls := "java/lang/String") hex
  obtain ⟨t, ht, hT⟩ := va_Tof (f := fun j => .int (bs.getD j 0)) (A := A) hlen har (va_eqt hle) (fun j hj => va_eqt (hel j hj)) hA
  exact ⟨a, t, q1, ⟨cA, q3, q5, by rw [q6]; exact q2, hA a (Array.getElem?_eq_some_iff.mp q3).1⟩, vk_OFof q1 (va_eqt hco) hA, vk_OFof q1 ht hA, hT⟩
theorem xel1 {P : Nat → Prop} (h : P 0) : ∀ j : Nat, j < 1 → P j := fun j hj => by
  have e : j = 0 := by omega
  rw [e]; exact h
set_option maxHeartbeats 4000000 in
set_option maxRecDepth 100000 in
theorem xst0 {s : State} {b : Nat} {A : Nat → Prop} (hts : ∀ w ∈ lw_tbl, w.before #[Value.ref b] s = true) (hgv : (Jvm.Cond.and given_1 narrow_1).before #[Value.ref b] s = true) (hA : ∀ a : Nat, a < s.heap.size → ¬ A a) : ∃ (sa : String → Nat → Nat) (sv : Nat → Nat), xSt sa sv A s s.heap := by
  have hs := flat_of_before _ hgv
  have hR : ∀ q ∈ xSR, ∃ a, vk_R q.1 q.2.1 q.2.2 a s := by
    refine List.forall_mem_cons.mpr ⟨xvr (hts (Cond.stringRef "Twinindex" 139 ", ") (List.mem_of_getElem? (i := 682) (by decide +kernel))) (hs (Cond.exactly (.string "Twinindex" 139) "java/lang/String") (by decide +kernel)), List.forall_mem_cons.mpr ⟨xvr (hts (Cond.stringRef "Twinindex" 159 "there is no such key") (List.mem_of_getElem? (i := 1000) (by decide +kernel))) (hs (Cond.exactly (.string "Twinindex" 159) "java/lang/String") (by decide +kernel)), List.forall_mem_cons.mpr ⟨xvr (hts (Cond.stringRef "Twinindex" 180 " ") (List.mem_of_getElem? (i := 1069) (by decide +kernel))) (hs (Cond.exactly (.string "Twinindex" 180) "java/lang/String") (by decide +kernel)), List.forall_mem_cons.mpr ⟨xvr (hts (Cond.stringRef "Twinindex" 201 "many is below 0") (List.mem_of_getElem? (i := 1111) (by decide +kernel))) (hs (Cond.exactly (.string "Twinindex" 201) "java/lang/String") (by decide +kernel)), List.forall_mem_cons.mpr ⟨xvr (hts (Cond.stringRef "Twinindex" 211 "many is not 1 to 24") (List.mem_of_getElem? (i := 1131) (by decide +kernel))) (hs (Cond.exactly (.string "Twinindex" 211) "java/lang/String") (by decide +kernel)), List.forall_mem_cons.mpr ⟨xvr (hts (Cond.stringRef "Twinindex" 235 "what is not 0 to 3") (List.mem_of_getElem? (i := 913) (by decide +kernel))) (hs (Cond.exactly (.string "Twinindex" 235) "java/lang/String") (by decide +kernel)), List.forall_mem_cons.mpr ⟨xvr (hts (Cond.stringRef "Twinindex" 273 "what is not 0 to 4") (List.mem_of_getElem? (i := 870) (by decide +kernel))) (hs (Cond.exactly (.string "Twinindex" 273) "java/lang/String") (by decide +kernel)), List.forall_mem_cons.mpr ⟨xvr (hts (Cond.stringRef "Twinindex" 321 "value is not -999 to 999") (List.mem_of_getElem? (i := 943) (by decide +kernel))) (hs (Cond.exactly (.string "Twinindex" 321) "java/lang/String") (by decide +kernel)), List.forall_mem_cons.mpr ⟨xvr (hts (Cond.stringRef "Twinindex" 325 "how is not 0 to 3") (List.mem_of_getElem? (i := 1015) (by decide +kernel))) (hs (Cond.exactly (.string "Twinindex" 325) "java/lang/String") (by decide +kernel)), List.forall_mem_cons.mpr ⟨xvr (hts (Cond.stringRef "Twinindex" 327 "from is above to") (List.mem_of_getElem? (i := 999) (by decide +kernel))) (hs (Cond.exactly (.string "Twinindex" 327) "java/lang/String") (by decide +kernel)), List.forall_mem_cons.mpr ⟨xvr (hts (Cond.stringRef "Twinindex" 331 "pager is not 0 to 2") (List.mem_of_getElem? (i := 901) (by decide +kernel))) (hs (Cond.exactly (.string "Twinindex" 331) "java/lang/String") (by decide +kernel)), List.forall_mem_cons.mpr ⟨xvr (hts (Cond.stringRef "TwinindexModel" 122 "") (List.mem_of_getElem? (i := 1417) (by decide +kernel))) (hs (Cond.exactly (.string "TwinindexModel" 122) "java/lang/String") (by decide +kernel)), List.forall_mem_cons.mpr ⟨xvr (hts (Cond.stringRef "TwinindexModel" 131 " ") (List.mem_of_getElem? (i := 1421) (by decide +kernel))) (hs (Cond.exactly (.string "TwinindexModel" 131) "java/lang/String") (by decide +kernel)), List.forall_mem_cons.mpr ⟨xvr (hts (Cond.stringRef "TwinindexModel" 151 "{") (List.mem_of_getElem? (i := 1436) (by decide +kernel))) (hs (Cond.exactly (.string "TwinindexModel" 151) "java/lang/String") (by decide +kernel)), List.forall_mem_cons.mpr ⟨xvr (hts (Cond.stringRef "TwinindexModel" 153 ", ") (List.mem_of_getElem? (i := 1437) (by decide +kernel))) (hs (Cond.exactly (.string "TwinindexModel" 153) "java/lang/String") (by decide +kernel)), List.forall_mem_cons.mpr ⟨xvr (hts (Cond.stringRef "TwinindexModel" 159 "}") (List.mem_of_getElem? (i := 1443) (by decide +kernel))) (hs (Cond.exactly (.string "TwinindexModel" 159) "java/lang/String") (by decide +kernel)), fun _ h => absurd h List.not_mem_nil⟩⟩⟩⟩⟩⟩⟩⟩⟩⟩⟩⟩⟩⟩⟩⟩
  have hch : ∃ sa : String → Nat → Nat, ∀ q ∈ xSR, vk_R q.1 q.2.1 q.2.2 (sa q.1 q.2.1) s := by
    refine ⟨fun own k => (((Term.string own k).eval #[] s none [] s).bind (fun v => match v with | .ref a => some a | _ => none)).getD 0, fun q hq => ?_⟩
    obtain ⟨a, ha⟩ := hR q hq
    have e : (((Term.string q.1 q.2.1).eval #[] s none [] s).bind (fun v => match v with | .ref a => some a | _ => none)).getD 0 = a := by rw [ha.2]; rfl
    show vk_R q.1 q.2.1 q.2.2 ((((Term.string q.1 q.2.1).eval #[] s none [] s).bind (fun v => match v with | .ref a => some a | _ => none)).getD 0) s
    rw [e]; exact ha
  obtain ⟨sa, hsa⟩ := hch
  obtain ⟨q0, v0, e0, x0⟩ := xstr0 (args := #[Value.ref b]) (s := s) (own := "TwinindexModel") (k := 122) (bs := []) (A := A) (by decide) (hs (Cond.exactly (.string "TwinindexModel" 122) "java/lang/String") (by decide +kernel)) (hs (Cond.eq (.field (.string "TwinindexModel" 122) "java/lang/String" "coder" "B") (.int 0)) (by decide +kernel)) (hs (Cond.arrayOf (.field (.string "TwinindexModel" 122) "java/lang/String" "value" "[B") .byte) (by decide +kernel)) (hs (Cond.eq (.length (.field (.string "TwinindexModel" 122) "java/lang/String" "value" "[B")) (.int 0)) (by decide +kernel)) (fun j hj => absurd hj (Nat.not_lt_zero j)) hA
  have y0 : sa "TwinindexModel" 122 = q0 := by
    have z1 := (hsa _ (List.mem_of_getElem? (l := xSR) (i := 11) rfl)).2
    have z2 := (vk_R.of (hts (Cond.stringRef "TwinindexModel" 122 "") (List.mem_of_getElem? (i := 1417) (by decide +kernel))) e0).2
    exact Value.ref.inj (Option.some.inj (z1.symm.trans z2))
  obtain ⟨q1, v1, e1, x1⟩ := xstr0 (args := #[Value.ref b]) (s := s) (own := "TwinindexModel") (k := 151) (bs := [123]) (A := A) (by decide) (hs (Cond.exactly (.string "TwinindexModel" 151) "java/lang/String") (by decide +kernel)) (hs (Cond.eq (.field (.string "TwinindexModel" 151) "java/lang/String" "coder" "B") (.int 0)) (by decide +kernel)) (hs (Cond.arrayOf (.field (.string "TwinindexModel" 151) "java/lang/String" "value" "[B") .byte) (by decide +kernel)) (hs (Cond.eq (.length (.field (.string "TwinindexModel" 151) "java/lang/String" "value" "[B")) (.int 1)) (by decide +kernel)) (xel1 (hs (Cond.eq (.elem (.field (.string "TwinindexModel" 151) "java/lang/String" "value" "[B") (.int 0)) (.int 123)) (by decide +kernel))) hA
  have y1 : sa "TwinindexModel" 151 = q1 := by
    have z1 := (hsa _ (List.mem_of_getElem? (l := xSR) (i := 13) rfl)).2
    have z2 := (vk_R.of (hts (Cond.stringRef "TwinindexModel" 151 "{") (List.mem_of_getElem? (i := 1436) (by decide +kernel))) e1).2
    exact Value.ref.inj (Option.some.inj (z1.symm.trans z2))
  obtain ⟨q2, v2, e2, x2⟩ := xstr0 (args := #[Value.ref b]) (s := s) (own := "TwinindexModel") (k := 159) (bs := [125]) (A := A) (by decide) (hs (Cond.exactly (.string "TwinindexModel" 159) "java/lang/String") (by decide +kernel)) (hs (Cond.eq (.field (.string "TwinindexModel" 159) "java/lang/String" "coder" "B") (.int 0)) (by decide +kernel)) (hs (Cond.arrayOf (.field (.string "TwinindexModel" 159) "java/lang/String" "value" "[B") .byte) (by decide +kernel)) (hs (Cond.eq (.length (.field (.string "TwinindexModel" 159) "java/lang/String" "value" "[B")) (.int 1)) (by decide +kernel)) (xel1 (hs (Cond.eq (.elem (.field (.string "TwinindexModel" 159) "java/lang/String" "value" "[B") (.int 0)) (.int 125)) (by decide +kernel))) hA
  have y2 : sa "TwinindexModel" 159 = q2 := by
    have z1 := (hsa _ (List.mem_of_getElem? (l := xSR) (i := 15) rfl)).2
    have z2 := (vk_R.of (hts (Cond.stringRef "TwinindexModel" 159 "}") (List.mem_of_getElem? (i := 1443) (by decide +kernel))) e2).2
    exact Value.ref.inj (Option.some.inj (z1.symm.trans z2))
  obtain ⟨d0, ed, hd⟩ := va_Tof (args := #[Value.ref b]) (s := s) (tm := (.static "java/util/ArrayList" "DEFAULTCAPACITY_EMPTY_ELEMENTDATA" "[Ljava/lang/Object;")) (ty := .object "java/lang/Object") (N := 0) (f := fun _ => .null) (A := A) (by decide) (hs (Cond.arrayOf (.static "java/util/ArrayList" "DEFAULTCAPACITY_EMPTY_ELEMENTDATA" "[Ljava/lang/Object;") (.object "java/lang/Object")) (by decide +kernel)) (va_eqt (hs (Cond.eq (.length (.static "java/util/ArrayList" "DEFAULTCAPACITY_EMPTY_ELEMENTDATA" "[Ljava/lang/Object;")) (.int 0)) (by decide +kernel))) (fun j hj => absurd hj (Nat.not_lt_zero j)) hA
  refine ⟨sa, fun i => match i with | 0 => d0 | 1 => v0 | 2 => v1 | _ => v2, va_Zof (hts (Cond.laysStatic "java/lang/String" "COMPACT_STRINGS" "Z") (List.mem_of_getElem? (i := 352) (by decide +kernel))) (hts (Cond.initialized "java/lang/String") (List.mem_of_getElem? (i := 69) (by decide +kernel))) (va_eqt (hs (Cond.eq (.static "java/lang/String" "COMPACT_STRINGS" "Z") (.int 1)) (by decide +kernel))) hA, ⟨va_Zof (hts (Cond.laysStatic "java/util/ArrayList" "DEFAULTCAPACITY_EMPTY_ELEMENTDATA" "[Ljava/lang/Object;") (List.mem_of_getElem? (i := 1164) (by decide +kernel))) (hts (Cond.initialized "java/util/ArrayList") (List.mem_of_getElem? (i := 54) (by decide +kernel))) ed hA, hd⟩, ⟨vx_Zqof (hts (Cond.laysStatic "java/lang/Throwable" "UNASSIGNED_STACK" "[Ljava/lang/StackTraceElement;") (List.mem_of_getElem? (i := 564) (by decide +kernel))) (hts (Cond.initialized "java/lang/Throwable") (List.mem_of_getElem? (i := 56) (by decide +kernel))) (hs (Cond.isRef (.static Bundle.tN "UNASSIGNED_STACK" Bundle.steD)) (by decide +kernel)) hA, vx_Zqof (hts (Cond.laysStatic "java/lang/Throwable" "SUPPRESSED_SENTINEL" "Ljava/util/List;") (List.mem_of_getElem? (i := 566) (by decide +kernel))) (hts (Cond.initialized "java/lang/Throwable") (List.mem_of_getElem? (i := 56) (by decide +kernel))) (hs (Cond.isRef (.static Bundle.tN "SUPPRESSED_SENTINEL" Bundle.listD)) (by decide +kernel)) hA⟩, hsa, ⟨by rw [y0]; exact x0, by rw [y1]; exact x1, by rw [y2]; exact x2⟩, ⟨(va_Nc.of (hs (Cond.not (.castable "java/lang/IllegalStateException" "java/lang/IllegalArgumentException")) (by decide +kernel))), (va_Nc.of (hs (Cond.not (.castable "java/lang/IllegalArgumentException" "java/lang/IndexOutOfBoundsException")) (by decide +kernel))), va_AO.of (hts (Cond.arrayOver (.object "Twinindex$Pager")) (List.mem_of_getElem? (i := 135) (by decide +kernel))), va_AO.of (hts (Cond.arrayOver (.object "java/lang/Object")) (List.mem_of_getElem? (i := 1305) (by decide +kernel)))⟩, ⟨(va_any (A := #[Value.ref b]) rfl (hts (Cond.castable "java/lang/IllegalArgumentException" "java/lang/IllegalArgumentException") (List.mem_of_getElem? (i := 539) (by decide +kernel)))), (va_any (A := #[Value.ref b]) rfl (hts (Cond.castable "java/lang/IllegalStateException" "java/lang/IllegalStateException") (List.mem_of_getElem? (i := 950) (by decide +kernel)))), (va_any (A := #[Value.ref b]) rfl (hts (Cond.castable "java/lang/IndexOutOfBoundsException" "java/lang/IndexOutOfBoundsException") (List.mem_of_getElem? (i := 894) (by decide +kernel)))), (va_any (A := #[Value.ref b]) rfl (hts (Cond.castable "[I" "java/lang/Object") (List.mem_of_getElem? (i := 1698) (by decide +kernel)))), (va_any (A := #[Value.ref b]) rfl (hts (Cond.castable "java/util/ArrayList" "java/lang/Object") (List.mem_of_getElem? (i := 1686) (by decide +kernel)))), (va_any (A := #[Value.ref b]) rfl (hts (Cond.declares ⟨"java/lang/RuntimeException", "<init>", "(Ljava/lang/String;)V"⟩) (List.mem_of_getElem? (i := 541) (by decide +kernel)))), (va_any (A := #[Value.ref b]) rfl (hts (Cond.declares ⟨"java/lang/Exception", "<init>", "(Ljava/lang/String;)V"⟩) (List.mem_of_getElem? (i := 543) (by decide +kernel)))), (va_any (A := #[Value.ref b]) rfl (hts (Cond.declares ⟨"java/lang/Throwable", "<init>", "(Ljava/lang/String;)V"⟩) (List.mem_of_getElem? (i := 545) (by decide +kernel))))⟩, ?_, ⟨(va_any (A := #[Value.ref b]) rfl (hts (Cond.methodLinkNest "Twinindex" 41 yX0_init "Twinindex") (List.mem_of_getElem? (i := 137) (by decide +kernel)))), (va_any (A := #[Value.ref b]) rfl (hts (Cond.methodLinkNest "Twinindex$Sheet" 56 yX4_isBetween "Twinindex") (List.mem_of_getElem? (i := 837) (by decide +kernel)))), (va_any (A := #[Value.ref b]) rfl (hts (Cond.methodLinkNest "TwinindexLaw" 106 yX5_init "TwinindexLaw") (List.mem_of_getElem? (i := 920) (by decide +kernel))))⟩, (va_any (A := #[Value.ref b]) rfl (hts (Cond.fieldLinkNest "Twinindex" 228 "Twinindex$Pager" "isMarked" "Z" "Twinindex") (List.mem_of_getElem? (i := 142) (by decide +kernel)))), (va_any (A := #[Value.ref b]) rfl (hts (Cond.fieldLinkNest "Twinindex" 232 "Twinindex$Pager" "mark" "I" "Twinindex") (List.mem_of_getElem? (i := 144) (by decide +kernel)))), (va_any (A := #[Value.ref b]) rfl (hts (Cond.fieldLinkNest "Twinindex" 225 "Twinindex$Pager" "told" "I" "Twinindex") (List.mem_of_getElem? (i := 146) (by decide +kernel)))), (va_any (A := #[Value.ref b]) rfl (hts (Cond.fieldLinkNest "TwinindexLaw" 13 "TwinindexLaw$Out" "n" "J" "TwinindexLaw") (List.mem_of_getElem? (i := 924) (by decide +kernel)))), (va_any (A := #[Value.ref b]) rfl (hts (Cond.fieldLinkNest "TwinindexLaw" 67 "TwinindexLaw$Out" "s" "Ljava/lang/String;" "TwinindexLaw") (List.mem_of_getElem? (i := 925) (by decide +kernel)))), (va_any (A := #[Value.ref b]) rfl (hts (Cond.fieldLinkNest "java/util/ArrayList$Itr" 28 "java/util/ArrayList" "size" "I" "java/util/ArrayList") (List.mem_of_getElem? (i := 1167) (by decide +kernel))))⟩
  exact va_Fw.of (hts (Cond.declares ⟨"java/util/Iterator", "hasNext", "()Z"⟩) (List.mem_of_getElem? (i := 1510) (by decide +kernel))) (hts (Cond.interfaceMethod "java/util/Iterator" "java/util/Iterator" "hasNext" "()Z") (List.mem_of_getElem? (i := 1509) (by decide +kernel))) (hts (Cond.publicMethod yJx35411_hasNext_aae02) (List.mem_of_getElem? (i := 1515) (by decide +kernel))) (hts (Cond.unhidden "java/util/ArrayList$Itr" "hasNext" "()Z") (List.mem_of_getElem? (i := 1513) (by decide +kernel))) (hts (Cond.castable "java/util/ArrayList$Itr" "java/util/Iterator") (List.mem_of_getElem? (i := 1511) (by decide +kernel)))
set_option maxRecDepth 100000 in
theorem xtb0 {s : State} {b : Nat} (hts : ∀ w ∈ lw_tbl, w.before #[Value.ref b] s = true) : ∀ w ∈ Cond.initialized "TwinindexLaw" :: XG, w.before #[Value.ref b] s = true := by
  intro w hw
  rcases List.mem_cons.mp hw with rfl | hw
  · exact (hts (Cond.initialized "TwinindexLaw") (List.mem_of_getElem? (i := 45) (by decide +kernel)))
  · rcases List.mem_append.mp (xg_tbl w hw) with hw | hw
    · exact hts w hw
    · have hz := (hts (Cond.selects "java/lang/StringBuilder" yJ5_isLatin1_aae02 yJ5_isLatin1_aae02) (List.mem_of_getElem? (i := 417) (by decide +kernel)))
      have hz : (Cond.selects RJ4 yJ5_isLatin1_aae02 yJ5_isLatin1_aae02).before #[Value.ref b] s = true := hz
      simp only [xEx, List.mem_cons, List.not_mem_nil, or_false] at hw
      rcases hw with rfl | rfl | rfl
      · exact xselP ⟨by decide, by decide⟩ hz rfl (hts (Cond.privateMethod yJ5_ensureCapacityInternal_d00df) (List.mem_of_getElem? (i := 382) (by decide +kernel))) (hts (Cond.instanceMethod yJ5_ensureCapacityInternal_d00df) (List.mem_of_getElem? (i := 383) (by decide +kernel)))
      · exact xselP ⟨by decide, by decide⟩ hz rfl (hts (Cond.privateMethod yJ5_putStringAt_47b60) (List.mem_of_getElem? (i := 606) (by decide +kernel))) (hts (Cond.instanceMethod yJ5_putStringAt_47b60) (List.mem_of_getElem? (i := 607) (by decide +kernel)))
      · exact xselP ⟨by decide, by decide⟩ hz rfl (hts (Cond.privateMethod yJ5_inflateIfNeededFor_a7421) (List.mem_of_getElem? (i := 610) (by decide +kernel))) (hts (Cond.instanceMethod yJ5_inflateIfNeededFor_a7421) (List.mem_of_getElem? (i := 611) (by decide +kernel)))
set_option maxHeartbeats 4000000 in
set_option maxRecDepth 100000 in
theorem xk0 {s : State} {b : Nat} (hts : ∀ w ∈ lw_tbl, w.before #[Value.ref b] s = true) (hxg : ∀ w ∈ XG, w.before #[Value.ref b] s = true) : ∃ (G : va_G) (cy : Nat → ClassId), va_K G vwCl (xTY cy) s := by
  obtain ⟨c0, i0, k0⟩ := u_known (C := RJ0) (T := TJ0) (N := 4) (n := 4) hxg xinG_J0 (hts (Cond.instantiable "java/lang/String" 4) (List.mem_of_getElem? (i := 506) (by decide +kernel)))
  obtain ⟨c1, i1, k1⟩ := u_known (C := RJ4) (T := TJ4) (N := 4) (n := 4) hxg xinG_J4 (hts (Cond.instantiable "java/lang/StringBuilder" 4) (List.mem_of_getElem? (i := 343) (by decide +kernel)))
  obtain ⟨c2, i2, k2⟩ := u_known (C := RJx35411) (T := TJx35411) (N := 4) (n := 4) hxg xinG_Jx35411 (hts (Cond.instantiable "java/util/ArrayList$Itr" 4) (List.mem_of_getElem? (i := 1489) (by decide +kernel)))
  obtain ⟨c3, i3, k3⟩ := u_known (C := RJx4a65c) (T := TJx4a65c) (N := 3) (n := 3) hxg xinG_Jx4a65c (hts (Cond.instantiable "java/util/ArrayList" 3) (List.mem_of_getElem? (i := 1152) (by decide +kernel)))
  obtain ⟨c4, i4, k4⟩ := u_known (C := RX0) (T := TX0) (N := 3) (n := 3) hxg xinG_X0 (hts (Cond.instantiable "Twinindex$Pager" 3) (List.mem_of_getElem? (i := 136) (by decide +kernel)))
  obtain ⟨c5, i5, k5⟩ := u_known (C := RX1) (T := TX1) (N := 4) (n := 4) hxg xinG_X1 (hts (Cond.instantiable "Twinindex$Past" 4) (List.mem_of_getElem? (i := 114) (by decide +kernel)))
  obtain ⟨c6, i6, k6⟩ := u_known (C := RX2) (T := TX2) (N := 2) (n := 2) hxg xinG_X2 (hts (Cond.instantiable "Twinindex$Row" 2) (List.mem_of_getElem? (i := 91) (by decide +kernel)))
  obtain ⟨c7, i7, k7⟩ := u_known (C := RX3) (T := TX3) (N := 2) (n := 2) hxg xinG_X3 (hts (Cond.instantiable "Twinindex$Sheet" 2) (List.mem_of_getElem? (i := 85) (by decide +kernel)))
  obtain ⟨c8, i8, k8⟩ := u_known (C := RX4) (T := TX4) (N := 8) (n := 8) hxg xinG_X4 (hts (Cond.instantiable "Twinindex" 8) (List.mem_of_getElem? (i := 77) (by decide +kernel)))
  obtain ⟨c9, i9, k9⟩ := u_known (C := RX5) (T := TX5) (N := 2) (n := 2) hxg xinG_X5 (hts (Cond.instantiable "TwinindexLaw$Out" 2) (List.mem_of_getElem? (i := 919) (by decide +kernel)))
  obtain ⟨c10, i10, k10⟩ := u_known (C := RX6) (T := TX6) (N := 9) (n := 9) hxg xinG_X6 (hts (Cond.instantiable "TwinindexModel" 9) (List.mem_of_getElem? (i := 1146) (by decide +kernel)))
  obtain ⟨a0, r0, s0⟩ := xarrP (ty := .byte) (hts (Cond.arrayClass .byte) (List.mem_of_getElem? (i := 373) (by decide +kernel))) (fun _ h => h)
  obtain ⟨a1, r1, s1⟩ := xarrP (ty := .int) (hts (Cond.arrayClass .int) (List.mem_of_getElem? (i := 103) (by decide +kernel))) (fun _ h => h)
  obtain ⟨a2, r2, s2⟩ := xarrP (ty := .boolean) (hts (Cond.arrayClass .boolean) (List.mem_of_getElem? (i := 1208) (by decide +kernel))) (fun _ h => h)
  obtain ⟨a3, r3, s3⟩ := xarrO (n := "Twinindex$Pager") (hts (Cond.arrayOver (.object "Twinindex$Pager")) (List.mem_of_getElem? (i := 135) (by decide +kernel)))
  obtain ⟨a4, r4, s4⟩ := xarrO (n := "java/lang/Object") (hts (Cond.arrayOver (.object "java/lang/Object")) (List.mem_of_getElem? (i := 1305) (by decide +kernel)))
  refine ⟨(fun k => match k with | 0 => c0 | 1 => c1 | 2 => c2 | 3 => c3 | 4 => c4 | 5 => c5 | 6 => c6 | 7 => c7 | 8 => c8 | 9 => c9 | _ => c10, fun k => match k with | 0 => i0 | 1 => i1 | 2 => i2 | 3 => i3 | 4 => i4 | 5 => i5 | 6 => i6 | 7 => i7 | 8 => i8 | 9 => i9 | _ => i10), fun k => match k with | 0 => a0 | 1 => a1 | 2 => a2 | 3 => a3 | _ => a4, fun k q hq => ?_, fun k q hq => ?_⟩
  · match k, hq with
    | 0, hq => cases hq; exact k0
    | 1, hq => cases hq; exact k1
    | 2, hq => cases hq; exact k2
    | 3, hq => cases hq; exact k3
    | 4, hq => cases hq; exact k4
    | 5, hq => cases hq; exact k5
    | 6, hq => cases hq; exact k6
    | 7, hq => cases hq; exact k7
    | 8, hq => cases hq; exact k8
    | 9, hq => cases hq; exact k9
    | 10, hq => cases hq; exact k10
    | k + 11, hq => simp [vwCl] at hq
  · match k, hq with
    | 0, hq => cases hq; exact ⟨r0, s0⟩
    | 1, hq => cases hq; exact ⟨r1, s1⟩
    | 2, hq => cases hq; exact ⟨r2, s2⟩
    | 3, hq => cases hq; exact ⟨r3, s3⟩
    | 4, hq => cases hq; exact ⟨r4, s4⟩
    | k + 5, hq => simp at hq
