/-! ===== BASE of p1: one world, one form of contract, one row a kind of instruction; read together with wip/p1/emit.py, which lays all parts behind this one ===== -/
abbrev xTY (cy : Nat → ClassId) : List (ClassId × FieldType) := [(cy 0, .byte), (cy 1, .int), (cy 2, .boolean), (cy 3, .object "Twinindex$Pager"), (cy 4, .object "java/lang/Object")]
/-- a String constant: its cell q, its row of bytes v -/
def xStr (q v : Nat) (bs : List Int32) (A : Nat → Prop) (U : State) (H : Heap) : Prop := va_O "java/lang/String" q A U H ∧ va_OF "java/lang/String" "coder" "B" (.int 0) q A U H ∧ va_OF "java/lang/String" "value" "[B" (.ref v) q A U H ∧ va_T .byte v bs.length (fun j => .int (bs.getD j 0)) A U H
theorem xStr.moved {q v : Nat} {bs : List Int32} {A : Nat → Prop} {u U : State} {H : Heap} (hvm : u.vm.Alike U.vm) (h : xStr q v bs A u H) : xStr q v bs A U H := ⟨va_O.moved hvm h.1, va_OF.moved hvm h.2.1, va_OF.moved hvm h.2.2.1, va_T.moved hvm h.2.2.2⟩
theorem xStr.kept {q v : Nat} {bs : List Int32} {A : Nat → Prop} {U : State} {H H1 : Heap} (h : xStr q v bs A U H) (hq : ∀ a : Nat, a < H.size → ¬ A a → H1[a]? = H[a]?) : xStr q v bs A U H1 := ⟨h.1.kept hq, h.2.1.kept hq, h.2.2.1.kept hq, h.2.2.2.kept hq⟩
theorem xStr.narrow {q v : Nat} {bs : List Int32} {A B : Nat → Prop} {U : State} {H : Heap} (h : xStr q v bs A U H) (hAB : ∀ q, B q → A q) : xStr q v bs B U H := ⟨h.1.narrow hAB, h.2.1.narrow hAB, h.2.2.1.narrow hAB, h.2.2.2.narrow hAB⟩
/-- all the tables' words that a warming keeps: the words of every contract here, behind its own code -/
def xEx : List Cond := [.selects RJ4 yJ5_ensureCapacityInternal_d00df yJ5_ensureCapacityInternal_d00df, .selects RJ4 yJ5_putStringAt_47b60 yJ5_putStringAt_47b60, .selects RJ4 yJ5_inflateIfNeededFor_a7421 yJ5_inflateIfNeededFor_a7421]
abbrev xTb : List Cond := lw_tbl ++ xEx
def XG : List Cond := xTb.filter goodWord
/-- a private method of a class above is selected for itself -/
theorem xselP {C : String} {y z : MethodName} {s : State} {args : Array Value} (hy : y.cls ≠ "java/lang/invoke/MethodHandle" ∧ y.cls ≠ "java/lang/invoke/VarHandle") (hz : (Cond.selects C z z).before args s = true) (hyz : y.cls = z.cls) (hpriv : (Cond.privateMethod y).before args s = true) (hinst : (Cond.instanceMethod y).before args s = true) : (Cond.selects C y y).before args s = true := by
  obtain ⟨c, r, m, hc, -, hnz, -, mk, hmk, hni⟩ := Cond.selects_spec hz
  obtain ⟨my, methM, hnamed, hmethM, -, -⟩ := Cond.instanceMethod_spec hinst
  have hfound : s.methodFound? y.cls y.name y.desc = some my := State.methodFound?_of_named hnamed hy
  have h1 := findClass_of_methodNamed hnamed
  have h2 := findClass_of_methodNamed hnz
  rw [hyz] at h1
  have hcls : my.cls = m.cls := Option.some.inj (h1.symm.trans h2)
  have hsel : selectMethod {} s.vm c my = .method my := selectMethod_private hmethM (Cond.privateMethod_at hpriv my methM hnamed hmethM)
  simp only [Cond.before, Cond.holds, Cond.value, hc, hfound, hnamed, hsel, hcls, hmk]
  simp; exact hni
theorem xg {w : Cond} (k : Nat) (h : xTb[k]? = some w) (hg : goodWord w = true) : w ∈ XG := List.mem_filter.mpr ⟨List.mem_of_getElem? h, hg⟩
theorem xg_ok : ∀ w ∈ XG, goodWord w = true := fun _ h => (List.mem_filter.mp h).2
theorem xg_tbl : ∀ w ∈ XG, w ∈ xTb := fun _ h => (List.mem_filter.mp h).1
/-- the constants' places: (class, entry, text) -/
def xSR : List (String × Nat × String) := [("Twinindex", 139, ", "), ("Twinindex", 159, "there is no such key"), ("Twinindex", 180, " "), ("Twinindex", 201, "many is below 0"), ("Twinindex", 211, "many is not 1 to 24"), ("Twinindex", 235, "what is not 0 to 3"), ("Twinindex", 273, "what is not 0 to 4"), ("Twinindex", 321, "value is not -999 to 999"), ("Twinindex", 325, "how is not 0 to 3"), ("Twinindex", 327, "from is above to"), ("Twinindex", 331, "pager is not 0 to 2"), ("TwinindexModel", 122, ""), ("TwinindexModel", 131, " "), ("TwinindexModel", 151, "{"), ("TwinindexModel", 153, ", "), ("TwinindexModel", 159, "}")]
/-- the words that are no good words: asked at the start, kept by a warming each by its own law -/
def xNw : List Cond := [.castable "java/lang/IllegalArgumentException" "java/lang/IllegalArgumentException", .castable "java/lang/IllegalStateException" "java/lang/IllegalStateException", .castable "java/lang/IndexOutOfBoundsException" "java/lang/IndexOutOfBoundsException"]
/-- what every contract asks of the start and keeps: statics, constants, classes -/
def xSt (sa : String → Nat → Nat) (sv : Nat → Nat) (A : Nat → Prop) (U : State) (H : Heap) : Prop :=
  va_Z "java/lang/String" "COMPACT_STRINGS" "Z" (.int 1) A U H ∧
  (va_Z "java/util/ArrayList" "DEFAULTCAPACITY_EMPTY_ELEMENTDATA" "[Ljava/lang/Object;" (.ref (sv 0)) A U H ∧ va_T (.object "java/lang/Object") (sv 0) 0 (fun _ => .null) A U H) ∧
  (vx_Zq Bundle.tN "UNASSIGNED_STACK" Bundle.steD A U H ∧ vx_Zq Bundle.tN "SUPPRESSED_SENTINEL" Bundle.listD A U H) ∧
  (∀ q ∈ xSR, vk_R q.1 q.2.1 q.2.2 (sa q.1 q.2.1) U) ∧
  (xStr (sa "TwinindexModel" 122) (sv 1) [] A U H ∧ xStr (sa "TwinindexModel" 151) (sv 2) [123] A U H ∧ xStr (sa "TwinindexModel" 159) (sv 3) [125] A U H) ∧
  (va_Nc "java/lang/IllegalStateException" "java/lang/IllegalArgumentException" U ∧ va_Nc "java/lang/IllegalArgumentException" "java/lang/IndexOutOfBoundsException" U ∧ va_AO "Twinindex$Pager" U ∧ va_AO "java/lang/Object" U) ∧
  (va_Nw (.castable "java/lang/IllegalArgumentException" "java/lang/IllegalArgumentException") U ∧ va_Nw (.castable "java/lang/IllegalStateException" "java/lang/IllegalStateException") U ∧ va_Nw (.castable "java/lang/IndexOutOfBoundsException" "java/lang/IndexOutOfBoundsException") U ∧ va_Nw (.castable "[I" "java/lang/Object") U ∧ va_Nw (.castable "java/util/ArrayList" "java/lang/Object") U ∧ va_Nw (.declares (Bundle.initS "java/lang/RuntimeException")) U ∧ va_Nw (.declares (Bundle.initS "java/lang/Exception")) U ∧ va_Nw (.declares (Bundle.initS Bundle.tN)) U) ∧
  va_Fw RJx35411 ⟨"java/util/Iterator", "hasNext", "()Z"⟩ yJx35411_hasNext_aae02 U ∧
  (va_Nw (.methodLinkNest "Twinindex" 41 yX0_init "Twinindex") U ∧ va_Nw (.methodLinkNest "Twinindex$Sheet" 56 yX4_isBetween "Twinindex") U ∧ va_Nw (.methodLinkNest "TwinindexLaw" 106 yX5_init "TwinindexLaw") U) ∧
  (va_Nw (.fieldLinkNest "Twinindex" 228 "Twinindex$Pager" "isMarked" "Z" "Twinindex") U ∧ va_Nw (.fieldLinkNest "Twinindex" 232 "Twinindex$Pager" "mark" "I" "Twinindex") U ∧ va_Nw (.fieldLinkNest "Twinindex" 225 "Twinindex$Pager" "told" "I" "Twinindex") U ∧ va_Nw (.fieldLinkNest "TwinindexLaw" 13 "TwinindexLaw$Out" "n" "J" "TwinindexLaw") U ∧ va_Nw (.fieldLinkNest "TwinindexLaw" 67 "TwinindexLaw$Out" "s" "Ljava/lang/String;" "TwinindexLaw") U ∧ va_Nw (.fieldLinkNest "java/util/ArrayList$Itr" 28 "java/util/ArrayList" "size" "I" "java/util/ArrayList") U)
theorem xSt.to {sa : String → Nat → Nat} {sv : Nat → Nat} {A : Nat → Prop} {s U : State} {H : Heap} (hW : s.WarmedH U.vm) (h : xSt sa sv A s H) : xSt sa sv A U H := by
  obtain ⟨h1, ⟨h2, h3⟩, ⟨h4, h5⟩, h6, ⟨h7, h8, h9⟩, ⟨h10, h11, h12, h13⟩, ⟨c1, c2, c3, c4, c5, c6, c7, c8⟩, hf, ⟨m1, m2, m3⟩, f1, f2, f3, f4, f5, f6⟩ := h
  have ha := hW.alike
  exact ⟨va_Z.moved ha h1, ⟨va_Z.moved ha h2, va_T.moved ha h3⟩, ⟨vx_Zq.moved ha h4, vx_Zq.moved ha h5⟩, fun q hq => vk_R.warm hW (h6 q hq), ⟨h7.moved ha, h8.moved ha, h9.moved ha⟩, ⟨va_Nc.moved ha h10, va_Nc.moved ha h11, va_AO.moved ha h12, va_AO.moved ha h13⟩, ⟨va_Nw.warmC hW c1, va_Nw.warmC hW c2, va_Nw.warmC hW c3, va_Nw.warmC hW c4, va_Nw.warmC hW c5, va_Nw.warmD hW c6, va_Nw.warmD hW c7, va_Nw.warmD hW c8⟩, va_Fw.moved ⟨by decide, by decide⟩ ha hf, ⟨va_Nw.warmM hW m1, va_Nw.warmM hW m2, va_Nw.warmM hW m3⟩, va_Nw.warmF hW f1, va_Nw.warmF hW f2, va_Nw.warmF hW f3, va_Nw.warmF hW f4, va_Nw.warmF hW f5, va_Nw.warmF hW f6⟩
theorem xSt.kept {sa : String → Nat → Nat} {sv : Nat → Nat} {A : Nat → Prop} {U : State} {H H1 : Heap} (h : xSt sa sv A U H) (hq : ∀ a : Nat, a < H.size → ¬ A a → H1[a]? = H[a]?) : xSt sa sv A U H1 := by
  obtain ⟨h1, ⟨h2, h3⟩, ⟨h4, h5⟩, h6, ⟨h7, h8, h9⟩, hr⟩ := h
  exact ⟨h1.kept hq, ⟨h2.kept hq, h3.kept hq⟩, ⟨h4.kept hq, h5.kept hq⟩, h6, ⟨h7.kept hq, h8.kept hq, h9.kept hq⟩, hr⟩
theorem xSt.narrow {sa : String → Nat → Nat} {sv : Nat → Nat} {A B : Nat → Prop} {U : State} {H : Heap} (h : xSt sa sv A U H) (hAB : ∀ q, B q → A q) : xSt sa sv B U H := by
  obtain ⟨h1, ⟨h2, h3⟩, ⟨h4, h5⟩, h6, ⟨h7, h8, h9⟩, hr⟩ := h
  exact ⟨h1.narrow hAB, ⟨h2.narrow hAB, h3.narrow hAB⟩, ⟨h4.narrow hAB, h5.narrow hAB⟩, h6, ⟨h7.narrow hAB, h8.narrow hAB, h9.narrow hAB⟩, hr⟩
/-- what a contract finds: the cells wc, all apart, the classes, the constants -/
def xPre (G : va_G) (cy : Nat → ClassId) (sa : String → Nat → Nat) (sv : Nat → Nat) (wc : va_W) (sz : Nat) : State → Prop := fun U => U.heap.size = sz ∧ va_P G vwCl wc U.heap ∧ va_K G vwCl (xTY cy) U ∧ va_D (fun _ => True) wc ∧ xSt sa sv (va_A wc sz) U U.heap
/-- what it leaves: the cells w1, some of them at new places f 0, f 1 .. -/
def xEnd (G : va_G) (w1 : (Nat → Nat) → va_W) (A : Nat → Prop) (t : State) : Prop := ∃ f : Nat → Nat, va_P G vwCl (w1 f) t.heap ∧ va_D A (w1 f)
abbrev xQi (G : va_G) (w1 : (Nat → Nat) → va_W) (r : Int32) (A : Nat → Prop) : Array Value → State → Outcome → State → Prop := va_Qi (fun (x : Int32) (_ : Unit) => x = r) (fun _ t => xEnd G w1 A t) A
abbrev xQl (G : va_G) (w1 : (Nat → Nat) → va_W) (r : Int64) (A : Nat → Prop) : Array Value → State → Outcome → State → Prop := va_Ql (fun (x : Int64) (_ : Unit) => x = r) (fun _ t => xEnd G w1 A t) A
abbrev xQv (G : va_G) (w1 : (Nat → Nat) → va_W) (A : Nat → Prop) : Array Value → State → Outcome → State → Prop := va_Qv (fun (_ : Unit) => True) (fun _ t => xEnd G w1 A t) A
abbrev xQr (G : va_G) (w1 : (Nat → Nat) → va_W) (ra : (Nat → Nat) → Nat) (A : Nat → Prop) : Array Value → State → Outcome → State → Prop := va_Qr (fun (_ : Unit) => True) (fun _ a t => ∃ f : Nat → Nat, a = ra f ∧ va_P G vwCl (w1 f) t.heap ∧ va_D A (w1 f)) A
abbrev xQn (G : va_G) (w1 : (Nat → Nat) → va_W) (A : Nat → Prop) : Array Value → State → Outcome → State → Prop := va_Qq (fun (x : Option Nat) (_ : Unit) => x = none) (fun _ t => xEnd G w1 A t) A
abbrev xQ0 (A : Nat → Prop) : Array Value → State → Outcome → State → Prop := va_Qi (fun (_ : Int32) (_ : Unit) => False) (fun _ _ => False) A
abbrev xQx (G : va_G) (w1 : (Nat → Nat) → va_W) (E : String) (A : Nat → Prop) : String → State → State → Prop := vx_X (fun (_ : Unit) => True) (fun E' _ t => E' = E ∧ xEnd G w1 A t) A
/-- a contract: y, called with av in the cells wc, comes back as Q says; rm is its room -/
def xM (l : Launch) (G : va_G) (cy : Nat → ClassId) (sa : String → Nat → Nat) (sv : Nat → Nat) (y : MethodName) (ws : List Cond) (rm : Room) (av : List Value) (wc : va_W) (Q : (Nat → Prop) → Array Value → State → Outcome → State → Prop) : Prop :=
  l.stackTraces = false → ∀ sz : Nat, Met l y ws rm (va_Pc av (xPre G cy sa sv wc sz)) (Q (va_A wc sz)) rm.cells rm.slots (va_A wc sz)
/-- the same, of a call that throws an E -/
def xX (l : Launch) (G : va_G) (cy : Nat → ClassId) (sa : String → Nat → Nat) (sv : Nat → Nat) (y : MethodName) (ws : List Cond) (rm : Room) (av : List Value) (wc : va_W) (w1 : (Nat → Nat) → va_W) (E : String) : Prop :=
  l.stackTraces = false → ∀ sz : Nat, vx_Met l y ws rm (va_Pc av (xPre G cy sa sv wc sz)) (xQ0 (va_A wc sz)) (xQx G w1 E (va_A wc sz)) rm.cells rm.slots (va_A wc sz)
/-- where a body stands: what doesn't change in it -/
def xC (p : Program) (l : Launch) (s : State) (m : MethodId) (args : Array Value) (meth : Method) (c : Code) (cc : ByteArray) (nL : Nat) (own : String) (Ts : List Cond) (G : va_G) (cy : Nat → ClassId) (sa : String → Nat → Nat) (sv : Nat → Nat) (A : Nat → Prop) : Prop :=
  p.tables.exec = Jvm.exec ∧ c.code = cc ∧ c.maxLocals = nL ∧ s.vm.findClass own = some m.cls ∧ (∀ w ∈ Ts, w.before args s = true) ∧ va_K G vwCl (xTY cy) s ∧ xSt sa sv A s s.heap ∧ (∀ q, s.heap.size ≤ q → A q) ∧ meth.locks = false ∧ l.stackTraces = false
/-- the world at a place of a body -/
def xW (G : va_G) (A : Nat → Prop) (s : State) (ws : va_W) (H : Heap) (locs : List Loc) : Prop := va_P G vwCl ws H ∧ va_D A ws ∧ va_S A s.heap H locs
theorem xmap {α : Type} {ws : List α} : ∀ (is : List Nat), is.all (fun i => decide (i < ws.length)) = true → is.map (fun i => ws[i]?) = (is.filterMap (fun i => ws[i]?)).map some
  | [], _ => rfl
  | i :: is, h => by
    simp only [List.all_cons, Bool.and_eq_true, decide_eq_true_eq] at h
    have h1 : ws[i]? = some ws[i] := List.getElem?_eq_getElem h.1
    have h2 := xmap is h.2
    rw [List.map_cons, h2, List.filterMap_cons, h1]
    rfl
theorem xW.sub {G : va_G} {A : Nat → Prop} {s : State} {ws ws' : va_W} {H : Heap} {locs : List Loc} (w : xW G A s ws H locs) (is : List Nat) (hn : va_nd is = true) (h1 : is.filterMap (fun i => ws[i]?) = ws') (h2 : is.map (fun i => ws[i]?) = ws'.map some) : xW G A s ws' H locs := ⟨w.1.sub is h1, w.2.1.sub is hn h2, w.2.2⟩
section XB
variable {p : Program} {l : Launch} {e : Env} {R : Room} {s : State} {m : MethodId} {args : Array Value} {below : List Frame} {meth : Method} {c : Code} {H : Heap} {locs : List Loc} {cells slots : Nat} {Q : State → Prop}
variable {cc : ByteArray} {nL : Nat} {own : String} {Ts : List Cond} {G : va_G} {cy : Nat → ClassId} {sa : String → Nat → Nat} {sv : Nat → Nat} {A : Nat → Prop} {ws wc wr : va_W} {w1 : (Nat → Nat) → va_W} {pc a mc ms : Nat} {ls : Array Slot} {rest st0 : List Value} {av : List Value}
theorem xfix (C : xC p l s m args meth c cc nL own Ts G cy sa sv A) : CallFix p m c cc nL s args Ts own := ⟨C.1, C.2.1, C.2.2.1, C.2.2.2.1, C.2.2.2.2.1⟩
theorem xhts (C : xC p l s m args meth c cc nL own Ts G cy sa sv A) : ∀ w ∈ Ts, w.before args s = true := C.2.2.2.2.1
theorem xown (C : xC p l s m args meth c cc nL own Ts G cy sa sv A) : s.vm.findClass own = some m.cls := C.2.2.2.1
theorem xK (C : xC p l s m args meth c cc nL own Ts G cy sa sv A) : va_K G vwCl (xTY cy) s := C.2.2.2.2.2.1
theorem xS (C : xC p l s m args meth c cc nL own Ts G cy sa sv A) : xSt sa sv A s s.heap := C.2.2.2.2.2.2.1
theorem xA (C : xC p l s m args meth c cc nL own Ts G cy sa sv A) : ∀ q, s.heap.size ≤ q → A q := C.2.2.2.2.2.2.2.1
theorem xlk (C : xC p l s m args meth c cc nL own Ts G cy sa sv A) : meth.locks = false := C.2.2.2.2.2.2.2.2.1
theorem xtr (C : xC p l s m args meth c cc nL own Ts G cy sa sv A) : l.stackTraces = false := C.2.2.2.2.2.2.2.2.2
theorem xhas (w : xW G A s ws H locs) (isC : List Nat) (hC : isC.map (fun i => ws[i]?) = wc.map some) (hn : va_nd isC = true) (C : xC p l s m args meth c cc nL own Ts G cy sa sv A) : ∀ U : State, U.heap = H → s.WarmedH U.vm → xPre G cy sa sv wc H.size U := by
  intro U hU hW
  have hF := va_free w.2.1 w.2.2 (xA C) isC hC
  refine ⟨by rw [hU], ?_, va_K.moved hW.alike (xK C), (w.2.1.sub isC hn hC).weaken (fun _ _ _ _ => trivial), ?_⟩
  · rw [hU]
    refine w.1.sub isC ?_
    have : isC.filterMap (fun i => ws[i]?) = (isC.map (fun i => ws[i]?)).filterMap id := by rw [List.filterMap_map]; rfl
    rw [this, hC, List.filterMap_map]
    exact List.filterMap_some
  · rw [hU]
    exact (((xS C).kept w.2.2.2.1).narrow hF).to hW
theorem xbl (wc : va_W) (sz : Nat) : FrameBlind (va_Pc av (xPre G cy sa sv wc sz)) := by
  intro a U g mk q
  obtain ⟨q0, q1, qP, qK, qD, qS⟩ := q
  exact ⟨q0, q1, qP, va_K.moved (u := U) (U := U.calling g mk a) (Vm.Alike.refl U.vm) qK, qD, xSt.to (s := U) (U := U.calling g mk a) (State.WarmedH.refl U) qS⟩
theorem xPS (C : xC p l s m args meth c cc nL own Ts G cy sa sv A) (w : xW G A s ws H locs) (isC : List Nat) (hC : isC.map (fun i => ws[i]?) = wc.map some) (hn : va_nd isC = true) : PreS s H (va_Pc av (xPre G cy sa sv wc H.size)) av :=
  ⟨xbl wc H.size, fun U hU hW => ⟨rfl, xhas w isC hC hn C U hU hW⟩⟩
theorem xPV {b : Nat} {Cn : String} {T : u_T} {N ci q0 : Nat} {fs As : List Value} (C : xC p l s m args meth c cc nL own Ts G cy sa sv A) (w : xW G A s ws H locs) (isC : List Nat) (hC : isC.map (fun i => ws[i]?) = wc.map some) (hn : va_nd isC = true) (hc : vwCl[ci]? = some (Cn, T, N)) (he : ws[q0]? = some (b, .inr (ci, fs))) : PreV s H Cn b (va_Pc (.ref b :: As) (xPre G cy sa sv wc H.size)) As :=
  ⟨xbl wc H.size, va_recv (xK C) w.1 hc he, fun U hU hW => ⟨rfl, xhas w isC hC hn C U hU hW⟩⟩
theorem xPVs {b v : Nat} {bs : List Int32} {As : List Value} (C : xC p l s m args meth c cc nL own Ts G cy sa sv A) (w : xW G A s ws H locs) (isC : List Nat) (hC : isC.map (fun i => ws[i]?) = wc.map some) (hn : va_nd isC = true) (hs : xStr b v bs A s s.heap) : PreV s H "java/lang/String" b (va_Pc (.ref b :: As) (xPre G cy sa sv wc H.size)) As :=
  ⟨xbl wc H.size, by obtain ⟨cell, h1, h2, h3, -⟩ := hs.1.kept w.2.2.2.1; exact ⟨cell, h1, h2, h3⟩, fun U hU hW => ⟨rfl, xhas w isC hC hn C U hU hW⟩⟩
theorem x_ki {r : Int32} (C : xC p l s m args meth c cc nL own Ts G cy sa sv A) (w : xW G A s ws H locs) (isC isR : List Nat) (hC : isC.map (fun i => ws[i]?) = wc.map some) (hR : isR.all (fun i => decide (i < ws.length)) = true) (hn : va_nd isR = true) (hd : ∀ i ∈ isR, i ∉ isC)
    (hr : va_Run p l e R s m args below meth c H locs cells slots mc ms (F0 m pc ls st0) rest (xQi G w1 r (va_A wc H.size) av.toArray) (va_A wc H.size))
    (kk : ∀ (f : Nat → Nat) (H1 : Heap) (locs1 : List Loc), xW G A s (isR.filterMap (fun i => ws[i]?) ++ w1 f) H1 locs1 → W p l e R s m args below meth c H1 locs1 (cells + mc) (slots + ms) Q (F0 m (pc + 3) ls (.int r :: rest))) : W p l e R s m args below meth c H locs cells slots Q (F0 m pc ls st0) := by
  have hF := va_free w.2.1 w.2.2 (xA C) isC hC
  refine va_calli hr w.2.2 (fun q _ h => hF q h) hF (fun r' u t H1 locs1 ht hvm hw hB hz hk hS => ?_)
  obtain ⟨f, hP1, hD1⟩ := hB
  rw [ht] at hP1
  obtain ⟨hP, hD⟩ := va_join w.1 w.2.1 isC isR hC (xmap isR hR) hn hd hk hF hP1 hD1
  subst hw
  exact kk f H1 locs1 ⟨hP, hD, hS⟩
theorem x_kl {r : Int64} (C : xC p l s m args meth c cc nL own Ts G cy sa sv A) (w : xW G A s ws H locs) (isC isR : List Nat) (hC : isC.map (fun i => ws[i]?) = wc.map some) (hR : isR.all (fun i => decide (i < ws.length)) = true) (hn : va_nd isR = true) (hd : ∀ i ∈ isR, i ∉ isC)
    (hr : va_Run p l e R s m args below meth c H locs cells slots mc ms (F0 m pc ls st0) rest (xQl G w1 r (va_A wc H.size) av.toArray) (va_A wc H.size))
    (kk : ∀ (f : Nat → Nat) (H1 : Heap) (locs1 : List Loc), xW G A s (isR.filterMap (fun i => ws[i]?) ++ w1 f) H1 locs1 → W p l e R s m args below meth c H1 locs1 (cells + mc) (slots + ms) Q (F0 m (pc + 3) ls (.long r :: rest))) : W p l e R s m args below meth c H locs cells slots Q (F0 m pc ls st0) := by
  have hF := va_free w.2.1 w.2.2 (xA C) isC hC
  refine va_calll hr w.2.2 (fun q _ h => hF q h) hF (fun r' u t H1 locs1 ht hvm hw hB hz hk hS => ?_)
  obtain ⟨f, hP1, hD1⟩ := hB
  rw [ht] at hP1
  obtain ⟨hP, hD⟩ := va_join w.1 w.2.1 isC isR hC (xmap isR hR) hn hd hk hF hP1 hD1
  subst hw
  exact kk f H1 locs1 ⟨hP, hD, hS⟩
theorem x_kv (C : xC p l s m args meth c cc nL own Ts G cy sa sv A) (w : xW G A s ws H locs) (isC isR : List Nat) (hC : isC.map (fun i => ws[i]?) = wc.map some) (hR : isR.all (fun i => decide (i < ws.length)) = true) (hn : va_nd isR = true) (hd : ∀ i ∈ isR, i ∉ isC)
    (hr : va_Run p l e R s m args below meth c H locs cells slots mc ms (F0 m pc ls st0) rest (xQv G w1 (va_A wc H.size) av.toArray) (va_A wc H.size))
    (kk : ∀ (f : Nat → Nat) (H1 : Heap) (locs1 : List Loc), xW G A s (isR.filterMap (fun i => ws[i]?) ++ w1 f) H1 locs1 → W p l e R s m args below meth c H1 locs1 (cells + mc) (slots + ms) Q (F0 m (pc + 3) ls rest)) : W p l e R s m args below meth c H locs cells slots Q (F0 m pc ls st0) := by
  have hF := va_free w.2.1 w.2.2 (xA C) isC hC
  refine va_callv hr w.2.2 (fun q _ h => hF q h) hF (fun u t H1 locs1 ht hvm hw hB hz hk hS => ?_)
  obtain ⟨f, hP1, hD1⟩ := hB
  rw [ht] at hP1
  obtain ⟨hP, hD⟩ := va_join w.1 w.2.1 isC isR hC (xmap isR hR) hn hd hk hF hP1 hD1
  exact kk f H1 locs1 ⟨hP, hD, hS⟩
theorem x_kr {ra : (Nat → Nat) → Nat} (C : xC p l s m args meth c cc nL own Ts G cy sa sv A) (w : xW G A s ws H locs) (isC isR : List Nat) (hC : isC.map (fun i => ws[i]?) = wc.map some) (hR : isR.all (fun i => decide (i < ws.length)) = true) (hn : va_nd isR = true) (hd : ∀ i ∈ isR, i ∉ isC)
    (hr : va_Run p l e R s m args below meth c H locs cells slots mc ms (F0 m pc ls st0) rest (xQr G w1 ra (va_A wc H.size) av.toArray) (va_A wc H.size))
    (kk : ∀ (f : Nat → Nat) (H1 : Heap) (locs1 : List Loc), xW G A s (isR.filterMap (fun i => ws[i]?) ++ w1 f) H1 locs1 → W p l e R s m args below meth c H1 locs1 (cells + mc) (slots + ms) Q (F0 m (pc + 3) ls (.ref (ra f) :: rest))) : W p l e R s m args below meth c H locs cells slots Q (F0 m pc ls st0) := by
  have hF := va_free w.2.1 w.2.2 (xA C) isC hC
  refine va_callr hr w.2.2 (fun q _ h => hF q h) hF (fun u a t H1 locs1 ht hvm hw hB hz hk hS => ?_)
  obtain ⟨f, ha, hP1, hD1⟩ := hB
  rw [ht] at hP1
  obtain ⟨hP, hD⟩ := va_join w.1 w.2.1 isC isR hC (xmap isR hR) hn hd hk hF hP1 hD1
  subst ha
  exact kk f H1 locs1 ⟨hP, hD, hS⟩
theorem x_kn (C : xC p l s m args meth c cc nL own Ts G cy sa sv A) (w : xW G A s ws H locs) (isC isR : List Nat) (hC : isC.map (fun i => ws[i]?) = wc.map some) (hR : isR.all (fun i => decide (i < ws.length)) = true) (hn : va_nd isR = true) (hd : ∀ i ∈ isR, i ∉ isC)
    (hr : va_Run p l e R s m args below meth c H locs cells slots mc ms (F0 m pc ls st0) rest (xQn G w1 (va_A wc H.size) av.toArray) (va_A wc H.size))
    (kk : ∀ (f : Nat → Nat) (H1 : Heap) (locs1 : List Loc), xW G A s (isR.filterMap (fun i => ws[i]?) ++ w1 f) H1 locs1 → W p l e R s m args below meth c H1 locs1 (cells + mc) (slots + ms) Q (F0 m (pc + 3) ls (.null :: rest))) : W p l e R s m args below meth c H locs cells slots Q (F0 m pc ls st0) := by
  have hF := va_free w.2.1 w.2.2 (xA C) isC hC
  refine va_callq hr w.2.2 (fun q _ h => hF q h) hF (fun r' u t H1 locs1 ht hvm hw hB hz hk hS => ?_)
  obtain ⟨f, hP1, hD1⟩ := hB
  rw [ht] at hP1
  obtain ⟨hP, hD⟩ := va_join w.1 w.2.1 isC isR hC (xmap isR hR) hn hd hk hF hP1 hD1
  subst hw
  exact kk f H1 locs1 ⟨hP, hD, hS⟩
theorem x_kFi {r : Int32} (C : xC p l s m args meth c cc nL own Ts G cy sa sv A) (w : xW G A s ws H locs) (isC isR : List Nat) (hC : isC.map (fun i => ws[i]?) = wc.map some) (hR : isR.all (fun i => decide (i < ws.length)) = true) (hn : va_nd isR = true) (hd : ∀ i ∈ isR, i ∉ isC)
    (hr : va_Run5 p l e R s m args below meth c H locs cells slots mc ms (F0 m pc ls st0) rest (xQi G w1 r (va_A wc H.size) av.toArray) (va_A wc H.size))
    (kk : ∀ (f : Nat → Nat) (H1 : Heap) (locs1 : List Loc), xW G A s (isR.filterMap (fun i => ws[i]?) ++ w1 f) H1 locs1 → W p l e R s m args below meth c H1 locs1 (cells + mc) (slots + ms) Q (F0 m (pc + 5) ls (.int r :: rest))) : W p l e R s m args below meth c H locs cells slots Q (F0 m pc ls st0) := by
  have hF := va_free w.2.1 w.2.2 (xA C) isC hC
  refine va_callFi hr w.2.2 (fun q _ h => hF q h) hF (fun r' u t H1 locs1 ht hvm hw hB hz hk hS => ?_)
  obtain ⟨f, hP1, hD1⟩ := hB
  rw [ht] at hP1
  obtain ⟨hP, hD⟩ := va_join w.1 w.2.1 isC isR hC (xmap isR hR) hn hd hk hF hP1 hD1
  subst hw
  exact kk f H1 locs1 ⟨hP, hD, hS⟩
/-- a callee that throws -/
theorem x_kx {E : String} (C : xC p l s m args meth c cc nL own Ts G cy sa sv A) (w : xW G A s ws H locs) (isC isR : List Nat) (hC : isC.map (fun i => ws[i]?) = wc.map some) (hR : isR.all (fun i => decide (i < ws.length)) = true) (hn : va_nd isR = true) (hd : ∀ i ∈ isR, i ∉ isC)
    (hr : vx_Run p l e R s m args below meth c H locs cells slots mc ms (F0 m pc ls st0) rest (xQ0 (va_A wc H.size) av.toArray) (xQx G w1 E (va_A wc H.size)) (va_A wc H.size))
    (kk : ∀ (f : Nat → Nat) (H1 : Heap) (locs1 : List Loc) (ce : Cell) (q9 : Addr), xW G A s (isR.filterMap (fun i => ws[i]?) ++ w1 f) H1 locs1 → H1[q9]? = some ce → ce.vm = .none → s.vm.findClass E = some ce.cls → vx_W p l e R s m args below meth c H1 locs1 (cells + mc) (slots + ms) Q (F0 m pc ls rest) q9) : W p l e R s m args below meth c H locs cells slots Q (F0 m pc ls st0) := by
  have hF := va_free w.2.1 w.2.2 (xA C) isC hC
  refine vx_calli hr w.2.2 (fun q _ h => hF q h) hF (fun q _ h => hF q h) (fun E' ce q9 u t H1 locs1 ht hvm _ hB hz hk hS hce hcv hcl => ?_) (fun r' u t H1 locs1 ht hvm hw hB hz hk hS => hw.elim)
  obtain ⟨rfl, f, hP1, hD1⟩ := hB
  rw [ht] at hP1
  obtain ⟨hP, hD⟩ := va_join w.1 w.2.1 isC isR hC (xmap isR hR) hn hd hk hF hP1 hD1
  exact kk f H1 locs1 ce q9 ⟨hP, hD, hS⟩ hce hcv hcl
/-- it goes on to this method's caller -/
theorem x_out {E : String} {ce : Cell} {q9 : Addr} {Qc : Array Value → State → Outcome → State → Prop} (C : xC p l s m args meth c cc nL own Ts G cy sa sv A) (w : xW G A s ws H locs) (hout : ∀ x ∈ c.exceptionTable.toList, False) (f : Nat → Nat) (hf : w1 f = ws) (hce : H[q9]? = some ce) (hcv : ce.vm = .none) (hcl : s.vm.findClass E = some ce.cls) (hc : cells ≤ mc) (hs : slots ≤ ms) :
    vx_W p l e R s m args below meth c H locs cells slots (vx_MQ below Qc (xQx G w1 E A) args s mc ms A) (F0 m pc ls rest) q9 :=
  vx_out (fun x hx => (hout x hx).elim) (xlk C) hce hcv hcl (fun t ht _ => ⟨(), trivial, ⟨rfl, f, by rw [ht, hf]; exact w.1, by rw [hf]; exact w.2.1⟩, w.2.2.F ht⟩) w.2.2.2.2 hc hs
/-- the ends -/
theorem x_iret {v r : Int32} (C : xC p l s m args meth c cc nL own Ts G cy sa sv A) (w : xW G A s ws H locs) (hr : meth.sig.returnType = some .int) (f : Nat → Nat) (hf : w1 f = ws) (hv : v = r) (hdg : decode cc pc = .ok (.ireturn, 1)) (hc : cells ≤ mc) (hs : slots ≤ ms) :
    W p l e R s m args below meth c H locs cells slots (MQ below (xQi G w1 r A) args s mc ms A) (F0 m pc ls [.int v]) :=
  W.widen hc hs (W.iret C.1 C.2.1 hr (fun t ht _ => ⟨⟨v, (), rfl, hv, f, by rw [ht, hf]; exact w.1, by rw [hf]; exact w.2.1⟩, w.2.2.F ht⟩) w.2.2.2.2 hdg (xlk C))
theorem x_zret {v r : Int32} {ty : FieldType} (C : xC p l s m args meth c cc nL own Ts G cy sa sv A) (w : xW G A s ws H locs) (hr : meth.sig.returnType = some ty) (hn : narrow ty (.int v) = .int v) (f : Nat → Nat) (hf : w1 f = ws) (hv : v = r) (hdg : decode cc pc = .ok (.ireturn, 1)) (hc : cells ≤ mc) (hs : slots ≤ ms) :
    W p l e R s m args below meth c H locs cells slots (MQ below (xQi G w1 r A) args s mc ms A) (F0 m pc ls [.int v]) :=
  W.widen hc hs (W.zret C.1 C.2.1 hr hn (fun t ht _ => ⟨⟨v, (), rfl, hv, f, by rw [ht, hf]; exact w.1, by rw [hf]; exact w.2.1⟩, w.2.2.F ht⟩) w.2.2.2.2 hdg (xlk C))
theorem x_lret {v r : Int64} (C : xC p l s m args meth c cc nL own Ts G cy sa sv A) (w : xW G A s ws H locs) (hr : meth.sig.returnType = some .long) (f : Nat → Nat) (hf : w1 f = ws) (hv : v = r) (hdg : decode cc pc = .ok (.lreturn, 1)) (hc : cells ≤ mc) (hs : slots ≤ ms) :
    W p l e R s m args below meth c H locs cells slots (MQ below (xQl G w1 r A) args s mc ms A) (F0 m pc ls [.long v]) :=
  W.widen hc hs (W.lret C.1 C.2.1 hr (fun t ht _ => ⟨⟨v, (), rfl, hv, f, by rw [ht, hf]; exact w.1, by rw [hf]; exact w.2.1⟩, w.2.2.F ht⟩) w.2.2.2.2 hdg (xlk C))
theorem x_vret (C : xC p l s m args meth c cc nL own Ts G cy sa sv A) (w : xW G A s ws H locs) (hr : meth.sig.returnType = none) (f : Nat → Nat) (hf : w1 f = ws) (hdg : decode cc pc = .ok (.return_, 1)) (hc : cells ≤ mc) (hs : slots ≤ ms) :
    W p l e R s m args below meth c H locs cells slots (MQ below (xQv G w1 A) args s mc ms A) (F0 m pc ls []) :=
  W.widen hc hs (W.vret C.1 C.2.1 hr (fun t ht _ => ⟨⟨(), rfl, trivial, f, by rw [ht, hf]; exact w.1, by rw [hf]; exact w.2.1⟩, w.2.2.F ht⟩) w.2.2.2.2 hdg (xlk C))
theorem x_aret {ra : (Nat → Nat) → Nat} {v : Nat} {rt : FieldType} (C : xC p l s m args meth c cc nL own Ts G cy sa sv A) (w : xW G A s ws H locs) (hr : meth.sig.returnType = some rt) (hrt : (∃ n, rt = .object n) ∨ ∃ t, rt = .array t) (f : Nat → Nat) (hf : w1 f = ws) (hv : v = ra f) (hdg : decode cc pc = .ok (.areturn, 1)) (hc : cells ≤ mc) (hs : slots ≤ ms) :
    W p l e R s m args below meth c H locs cells slots (MQ below (xQr G w1 ra A) args s mc ms A) (F0 m pc ls [.ref v]) :=
  W.widen hc hs (W.aret C.1 C.2.1 hr hrt (Or.inr ⟨v, rfl⟩) (fun t ht _ => ⟨⟨(), v, rfl, trivial, f, hv, by rw [ht, hf]; exact w.1, by rw [hf]; exact w.2.1⟩, w.2.2.F ht⟩) w.2.2.2.2 hdg (xlk C))
theorem x_nret {rt : FieldType} (C : xC p l s m args meth c cc nL own Ts G cy sa sv A) (w : xW G A s ws H locs) (hr : meth.sig.returnType = some rt) (hrt : (∃ n, rt = .object n) ∨ ∃ t, rt = .array t) (f : Nat → Nat) (hf : w1 f = ws) (hdg : decode cc pc = .ok (.areturn, 1)) (hc : cells ≤ mc) (hs : slots ≤ ms) :
    W p l e R s m args below meth c H locs cells slots (MQ below (xQn G w1 A) args s mc ms A) (F0 m pc ls [.null]) :=
  W.widen hc hs (W.aret C.1 C.2.1 hr hrt (Or.inl rfl) (fun t ht _ => ⟨⟨none, (), rfl, rfl, f, by rw [ht, hf]; exact w.1, by rw [hf]; exact w.2.1⟩, w.2.2.F ht⟩) w.2.2.2.2 hdg (xlk C))
/-- the rows of one instruction -/
theorem x_get {ref Cn : String} {T : u_T} {N index : Nat} {v : Value} {fs : List Value} (C : xC p l s m args meth c cc nL own Ts G cy sa sv A) (w : xW G A s ws H locs) (q0 ci k : Nat) (hin : ∀ w ∈ u_ws Cn T N, w ∈ Ts) (hc : vwCl[ci]? = some (Cn, T, N)) (he : ws[q0]? = some (a, .inr (ci, fs))) (hk : k < N) (hlink : Cond.fieldLink own index ref (T k).2.1 (T k).2.2.1 ∈ Ts) (href : ref = (T k).1) (hv : fs[k]? = some v) (hdg : decode cc pc = .ok (.getfield index, 3))
    (kk : W p l e R s m args below meth c H locs cells slots Q (F0 m (pc + 3) ls (v :: rest))) : W p l e R s m args below meth c H locs cells slots Q (F0 m pc ls (.ref a :: rest)) :=
  va_get C.1 C.2.1 (xhts C) hin (xown C) (xK C) w.1 q0 he hc k hk (xhts C _ hlink) (fun _ h => by rw [href]; exact h) hv hdg kk
theorem x_getS {ref Cn : String} {T : u_T} {N index : Nat} {v : Value} {fs : List Value} (C : xC p l s m args meth c cc nL own Ts G cy sa sv A) (w : xW G A s ws H locs) (q0 ci k : Nat) (hin : ∀ w ∈ u_ws Cn T N, w ∈ Ts) (hc : vwCl[ci]? = some (Cn, T, N)) (he : ws[q0]? = some (a, .inr (ci, fs))) (hk : k < N) (hlink : Cond.fieldLink own index ref (T k).2.1 (T k).2.2.1 ∈ Ts) (href : Cond.sameField ref (T k).1 (T k).2.1 (T k).2.2.1 ∈ Ts) (hv : fs[k]? = some v) (hdg : decode cc pc = .ok (.getfield index, 3))
    (kk : W p l e R s m args below meth c H locs cells slots Q (F0 m (pc + 3) ls (v :: rest))) : W p l e R s m args below meth c H locs cells slots Q (F0 m pc ls (.ref a :: rest)) :=
  va_get C.1 C.2.1 (xhts C) hin (xown C) (xK C) w.1 q0 he hc k hk (xhts C _ hlink) (fun x h => u_same (xhts C _ href) x h) hv hdg kk
theorem x_putS {ref Cn : String} {T : u_T} {N index : Nat} {v : Value} {fs : List Value} {ty : FieldType} {ty0 : Nat → FieldType} (C : xC p l s m args meth c cc nL own Ts G cy sa sv A) (w : xW G A s ws H locs) (q0 ci k : Nat) (hin : ∀ w ∈ u_ws Cn T N, w ∈ Ts) (hty : ∀ k, k < N → parseFieldDescriptor (T k).2.2.1 = some (ty0 k)) (hnm : ∀ a, a < N → ∀ b, b < N → a ≠ b → (T a).2.1 ≠ (T b).2.1) (hc : vwCl[ci]? = some (Cn, T, N)) (he : ws[q0]? = some (a, .inr (ci, fs))) (hk : k < N) (hlink : Cond.fieldLink own index ref (T k).2.1 (T k).2.2.1 ∈ Ts) (href : Cond.sameField ref (T k).1 (T k).2.1 (T k).2.2.1 ∈ Ts) (hfin : (T k).2.2.2 = false) (hd : parseFieldDescriptor (T k).2.2.1 = some ty) (hn : narrow ty v = v) (hfit : fits ty v = true) (hl : k < fs.length) (hdg : decode cc pc = .ok (.putfield index, 3))
    (kk : ∀ (H1 : Heap) (locs1 : List Loc), xW G A s (ws.set q0 (a, .inr (ci, fs.set k v))) H1 locs1 → W p l e R s m args below meth c H1 locs1 cells slots Q (F0 m (pc + 3) ls rest)) : W p l e R s m args below meth c H locs cells slots Q (F0 m pc ls (v :: .ref a :: rest)) :=
  va_put C.1 C.2.1 (xhts C) hin ty0 hty hnm (xown C) (xK C) w.1 w.2.1 w.2.2 q0 he hc k hk (xhts C _ hlink) (fun x h => u_same (xhts C _ href) x h) hfin hd hn hfit hl hdg (fun H1 l1 hP hD hS => kk H1 l1 ⟨hP, hD, hS⟩)
theorem x_getN {ref Cn host : String} {T : u_T} {N index : Nat} {v : Value} {fs : List Value} (C : xC p l s m args meth c cc nL own Ts G cy sa sv A) (w : xW G A s ws H locs) (q0 ci k : Nat) (hin : ∀ w ∈ u_ws Cn T N, w ∈ Ts) (hc : vwCl[ci]? = some (Cn, T, N)) (he : ws[q0]? = some (a, .inr (ci, fs))) (hk : k < N) (hlink : va_Nw (.fieldLinkNest own index ref (T k).2.1 (T k).2.2.1 host) s) (href : ref = (T k).1) (hv : fs[k]? = some v) (hdg : decode cc pc = .ok (.getfield index, 3))
    (kk : W p l e R s m args below meth c H locs cells slots Q (F0 m (pc + 3) ls (v :: rest))) : W p l e R s m args below meth c H locs cells slots Q (F0 m pc ls (.ref a :: rest)) :=
  va_getN C.1 C.2.1 (xhts C) hin (xown C) (xK C) w.1 q0 he hc k hk (va_any rfl hlink) (fun _ h => by rw [href]; exact h) hv hdg kk
theorem x_put {ref Cn : String} {T : u_T} {N index : Nat} {v : Value} {fs : List Value} {ty : FieldType} {ty0 : Nat → FieldType} (C : xC p l s m args meth c cc nL own Ts G cy sa sv A) (w : xW G A s ws H locs) (q0 ci k : Nat) (hin : ∀ w ∈ u_ws Cn T N, w ∈ Ts) (hty : ∀ k, k < N → parseFieldDescriptor (T k).2.2.1 = some (ty0 k)) (hnm : ∀ a, a < N → ∀ b, b < N → a ≠ b → (T a).2.1 ≠ (T b).2.1) (hc : vwCl[ci]? = some (Cn, T, N)) (he : ws[q0]? = some (a, .inr (ci, fs))) (hk : k < N) (hlink : Cond.fieldLink own index ref (T k).2.1 (T k).2.2.1 ∈ Ts) (href : ref = (T k).1) (hfin : (T k).2.2.2 = false) (hd : parseFieldDescriptor (T k).2.2.1 = some ty) (hn : narrow ty v = v) (hfit : fits ty v = true) (hl : k < fs.length) (hdg : decode cc pc = .ok (.putfield index, 3))
    (kk : ∀ (H1 : Heap) (locs1 : List Loc), xW G A s (ws.set q0 (a, .inr (ci, fs.set k v))) H1 locs1 → W p l e R s m args below meth c H1 locs1 cells slots Q (F0 m (pc + 3) ls rest)) : W p l e R s m args below meth c H locs cells slots Q (F0 m pc ls (v :: .ref a :: rest)) :=
  va_put C.1 C.2.1 (xhts C) hin ty0 hty hnm (xown C) (xK C) w.1 w.2.1 w.2.2 q0 he hc k hk (xhts C _ hlink) (fun _ h => by rw [href]; exact h) hfin hd hn hfit hl hdg (fun H1 l1 hP hD hS => kk H1 l1 ⟨hP, hD, hS⟩)
theorem x_putN {ref Cn host : String} {T : u_T} {N index : Nat} {v : Value} {fs : List Value} {ty : FieldType} {ty0 : Nat → FieldType} (C : xC p l s m args meth c cc nL own Ts G cy sa sv A) (w : xW G A s ws H locs) (q0 ci k : Nat) (hin : ∀ w ∈ u_ws Cn T N, w ∈ Ts) (hty : ∀ k, k < N → parseFieldDescriptor (T k).2.2.1 = some (ty0 k)) (hnm : ∀ a, a < N → ∀ b, b < N → a ≠ b → (T a).2.1 ≠ (T b).2.1) (hc : vwCl[ci]? = some (Cn, T, N)) (he : ws[q0]? = some (a, .inr (ci, fs))) (hk : k < N) (hlink : va_Nw (.fieldLinkNest own index ref (T k).2.1 (T k).2.2.1 host) s) (href : ref = (T k).1) (hfin : (T k).2.2.2 = false) (hd : parseFieldDescriptor (T k).2.2.1 = some ty) (hn : narrow ty v = v) (hfit : fits ty v = true) (hl : k < fs.length) (hdg : decode cc pc = .ok (.putfield index, 3))
    (kk : ∀ (H1 : Heap) (locs1 : List Loc), xW G A s (ws.set q0 (a, .inr (ci, fs.set k v))) H1 locs1 → W p l e R s m args below meth c H1 locs1 cells slots Q (F0 m (pc + 3) ls rest)) : W p l e R s m args below meth c H locs cells slots Q (F0 m pc ls (v :: .ref a :: rest)) :=
  va_putN C.1 C.2.1 (xhts C) hin ty0 hty hnm (xown C) (xK C) w.1 w.2.1 w.2.2 q0 he hc k hk (va_any rfl hlink) (fun _ h => by rw [href]; exact h) hfin hd hn hfit hl hdg (fun H1 l1 hP hD hS => kk H1 l1 ⟨hP, hD, hS⟩)
theorem x_putF {ref Cn : String} {T : u_T} {N index : Nat} {v : Value} {fs : List Value} {ty : FieldType} {ty0 : Nat → FieldType} (C : xC p l s m args meth c cc nL own Ts G cy sa sv A) (w : xW G A s ws H locs) (hname : meth.name = "<init>") (q0 ci k : Nat) (hin : ∀ w ∈ u_ws Cn T N, w ∈ Ts) (hty : ∀ k, k < N → parseFieldDescriptor (T k).2.2.1 = some (ty0 k)) (hnm : ∀ a, a < N → ∀ b, b < N → a ≠ b → (T a).2.1 ≠ (T b).2.1) (hc : vwCl[ci]? = some (Cn, T, N)) (he : ws[q0]? = some (a, .inr (ci, fs))) (hk : k < N) (hlink : Cond.fieldLink own index ref (T k).2.1 (T k).2.2.1 ∈ Ts) (href : ref = (T k).1) (hfin : (T k).2.2.2 = true) (hdecl : (T k).1 = own) (hd : parseFieldDescriptor (T k).2.2.1 = some ty) (hn : narrow ty v = v) (hfit : fits ty v = true) (hl : k < fs.length) (hdg : decode cc pc = .ok (.putfield index, 3))
    (kk : ∀ (H1 : Heap) (locs1 : List Loc), xW G A s (ws.set q0 (a, .inr (ci, fs.set k v))) H1 locs1 → W p l e R s m args below meth c H1 locs1 cells slots Q (F0 m (pc + 3) ls rest)) : W p l e R s m args below meth c H locs cells slots Q (F0 m pc ls (v :: .ref a :: rest)) :=
  va_putF C.1 C.2.1 (xhts C) hin ty0 hty hnm (xown C) (xK C) w.1 w.2.1 w.2.2 q0 he hc k hk (xhts C _ hlink) (fun _ h => by rw [href]; exact h) hfin hname hdecl hd hn hfit hl hdg (fun H1 l1 hP hD hS => kk H1 l1 ⟨hP, hD, hS⟩)
theorem x_new {Cn : String} {T : u_T} {N index : Nat} {fs : List Value} {ty0 : Nat → FieldType} (C : xC p l s m args meth c cc nL own Ts G cy sa sv A) (w : xW G A s ws H locs) (ci : Nat) (hin : ∀ w ∈ u_ws Cn T N, w ∈ Ts) (hty : ∀ k, k < N → parseFieldDescriptor (T k).2.2.1 = some (ty0 k)) (hc : vwCl[ci]? = some (Cn, T, N)) (hlink : Cond.classLink own index Cn ∈ Ts) (hinst : Cond.instantiable Cn N ∈ Ts) (hini : Cond.initialized Cn ∈ Ts) (hfs : ∀ j, j < N → defaultValue (ty0 j) = vp_V fs j) (hcells : cells + 1 ≤ R.cells) (hslots : slots + N ≤ R.slots) (hdg : decode cc pc = .ok (.new index, 3))
    (kk : ∀ (q : Nat) (H1 : Heap), xW G A s (ws ++ [(q, .inr (ci, fs))]) H1 locs → W p l e R s m args below meth c H1 locs (cells + 1) (slots + N) Q (F0 m (pc + 3) ls (.ref q :: rest))) : W p l e R s m args below meth c H locs cells slots Q (F0 m pc ls rest) :=
  va_new C.1 C.2.1 (xhts C) hin ty0 hty (xown C) (xhts C _ hlink) (xhts C _ hinst) (xhts C _ hini) (xK C) w.1 w.2.1 w.2.2 (xA C) hc hfs hcells hslots hdg (fun q H1 hP hD hS => kk q H1 ⟨hP, hD, hS⟩)
theorem x_newa {atype : ArrayType} {ty : FieldType} {n : Int32} {N : Nat} (C : xC p l s m args meth c cc nL own Ts G cy sa sv A) (w : xW G A s ws H locs) (t0 : Nat) (hpr : ∀ U cA, va_RA U cA ty → U.vm.findClass ("[" ++ ty.toString) = some cA) (ht : (xTY cy)[t0]? = some (cy t0, ty)) (harr : Cond.arrayClass (newarray.typeOf atype) ∈ Ts) (hty : newarray.typeOf atype = ty) (hz : defaultValue ty = .int 0) (hn : ¬ n < 0) (hN : n.toNatClampNeg = N) (hbytes : N * componentBytes ty ≤ 536870912) (hcells : cells + 1 ≤ R.cells) (hslots : slots + N ≤ R.slots) (hdg : decode cc pc = .ok (.newarray atype, 2))
    (kk : ∀ (q : Nat) (H1 : Heap), xW G A s (ws ++ [(q, .inl (cy t0, N, .inl (fun _ => 0)))]) H1 locs → W p l e R s m args below meth c H1 locs (cells + 1) (slots + N) Q (F0 m (pc + 2) ls (.ref q :: rest))) : W p l e R s m args below meth c H locs cells slots Q (F0 m pc ls (.int n :: rest)) := by
  refine va_newa C.1 C.2.1 (xhts C _ harr) hty (xK C) w.1 w.2.1 w.2.2 (xA C) (N' := N) (a0 := (N, .inl (fun _ => 0))) (fun cA => by rw [hz]; rfl) hn hN hbytes hcells hslots hdg (fun q cA H1 hK hP hD hS => ?_)
  have h1 : s.vm.findClass ("[" ++ ty.toString) = some cA := hpr s cA (hK.2 5 (cA, ty) (by rfl)).2
  have h2 : s.vm.findClass ("[" ++ ty.toString) = some (cy t0) := hpr s _ ((xK C).2 t0 _ ht).2
  cases Option.some.inj (h1.symm.trans h2)
  exact kk q H1 ⟨hP, hD, hS⟩
theorem x_newq {Cn : String} {index : Nat} {n : Int32} {N : Nat} (C : xC p l s m args meth c cc nL own Ts G cy sa sv A) (w : xW G A s ws H locs) (t0 : Nat) (ht : (xTY cy)[t0]? = some (cy t0, .object Cn)) (hlink : Cond.classLink own index Cn ∈ Ts) (hover : va_AO Cn s) (hn : ¬ n < 0) (hN : n.toNatClampNeg = N) (hbytes : N * 4 ≤ 536870912) (hcells : cells + 1 ≤ R.cells) (hslots : slots + N ≤ R.slots) (hdg : decode cc pc = .ok (.anewarray index, 3))
    (kk : ∀ (q : Nat) (H1 : Heap), xW G A s (ws ++ [(q, .inl (cy t0, N, .inr (.inr (.inr (.inr (fun _ => none))))))]) H1 locs → W p l e R s m args below meth c H1 locs (cells + 1) (slots + N) Q (F0 m (pc + 3) ls (.ref q :: rest))) : W p l e R s m args below meth c H locs cells slots Q (F0 m pc ls (.int n :: rest)) := by
  refine va_newq C.1 C.2.1 (xown C) (xhts C _ hlink) hover (xK C) w.1 w.2.1 w.2.2 (xA C) hn hN hbytes hcells hslots hdg (fun q cA H1 hK hP hD hS => ?_)
  obtain ⟨_, _, _, _, _, h1⟩ := (hK.2 5 (cA, .object Cn) (by rfl)).2
  obtain ⟨_, _, _, _, _, h2⟩ := ((xK C).2 t0 _ ht).2
  cases Option.some.inj (h1.symm.trans h2)
  exact kk q H1 ⟨hP, hD, hS⟩
theorem x_alen {x : vp_A} {ty : FieldType} {v : Int32} {cA : ClassId} (C : xC p l s m args meth c cc nL own Ts G cy sa sv A) (w : xW G A s ws H locs) (q0 t0 : Nat) (ha : ws[q0]? = some (a, .inl (cA, x))) (ht : (xTY cy)[t0]? = some (cA, ty)) (hv : Int32.ofNat x.1 = v) (hdg : decode cc pc = .ok (.arraylength, 1))
    (kk : W p l e R s m args below meth c H locs cells slots Q (F0 m (pc + 1) ls (.int v :: rest))) : W p l e R s m args below meth c H locs cells slots Q (F0 m pc ls (.ref a :: rest)) :=
  va_alen C.1 C.2.1 (xK C) w.1 q0 t0 ha ht hv hdg kk
theorem x_iald {n : Nat} {f : Nat → Int32} {i v : Int32} {cA : ClassId} (C : xC p l s m args meth c cc nL own Ts G cy sa sv A) (w : xW G A s ws H locs) (q0 t0 : Nat) (ha : ws[q0]? = some (a, .inl (cA, n, .inl f))) (ht : (xTY cy)[t0]? = some (cA, .int)) (hin : vp_in i n) (hv : f i.toNatClampNeg = v) (hdg : decode cc pc = .ok (.iaload, 1))
    (kk : W p l e R s m args below meth c H locs cells slots Q (F0 m (pc + 1) ls (.int v :: rest))) : W p l e R s m args below meth c H locs cells slots Q (F0 m pc ls (.int i :: .ref a :: rest)) :=
  va_iald C.1 C.2.1 (xK C) w.1 q0 t0 ha ht hin hdg (by rw [hv]; exact kk)
theorem x_bald {n : Nat} {f : Nat → Int32} {i v : Int32} {cA : ClassId} (C : xC p l s m args meth c cc nL own Ts G cy sa sv A) (w : xW G A s ws H locs) (q0 t0 : Nat) (ha : ws[q0]? = some (a, .inl (cA, n, .inl f))) (ht : (xTY cy)[t0]? = some (cA, .byte)) (hin : vp_in i n) (hv : f i.toNatClampNeg = v) (hdg : decode cc pc = .ok (.baload, 1))
    (kk : W p l e R s m args below meth c H locs cells slots Q (F0 m (pc + 1) ls (.int v :: rest))) : W p l e R s m args below meth c H locs cells slots Q (F0 m pc ls (.int i :: .ref a :: rest)) :=
  va_bald C.1 C.2.1 (xK C) w.1 q0 t0 ha ht hin hdg (by rw [hv]; exact kk)
theorem x_zald {n : Nat} {f : Nat → Int32} {i v : Int32} {cA : ClassId} (C : xC p l s m args meth c cc nL own Ts G cy sa sv A) (w : xW G A s ws H locs) (q0 t0 : Nat) (ha : ws[q0]? = some (a, .inl (cA, n, .inl f))) (ht : (xTY cy)[t0]? = some (cA, .boolean)) (hin : vp_in i n) (hv : f i.toNatClampNeg = v) (hdg : decode cc pc = .ok (.baload, 1))
    (kk : W p l e R s m args below meth c H locs cells slots Q (F0 m (pc + 1) ls (.int v :: rest))) : W p l e R s m args below meth c H locs cells slots Q (F0 m pc ls (.int i :: .ref a :: rest)) :=
  va_zald C.1 C.2.1 (xK C) w.1 q0 t0 ha ht hin hdg (by rw [hv]; exact kk)
theorem x_iast {n k : Nat} {f : Nat → Int32} {i x : Int32} {cA : ClassId} (C : xC p l s m args meth c cc nL own Ts G cy sa sv A) (w : xW G A s ws H locs) (q0 t0 : Nat) (ha : ws[q0]? = some (a, .inl (cA, n, .inl f))) (ht : (xTY cy)[t0]? = some (cA, .int)) (hin : vp_in i n) (hk : i.toNatClampNeg = k) (hdg : decode cc pc = .ok (.iastore, 1))
    (kk : ∀ (H1 : Heap) (locs1 : List Loc), xW G A s (ws.set q0 (a, .inl (cA, n, .inl (upd f k x)))) H1 locs1 → W p l e R s m args below meth c H1 locs1 cells slots Q (F0 m (pc + 1) ls rest)) : W p l e R s m args below meth c H locs cells slots Q (F0 m pc ls (.int x :: .int i :: .ref a :: rest)) := by
  subst hk
  exact va_iast C.1 C.2.1 (xK C) w.1 w.2.1 w.2.2 q0 t0 ha ht hin hdg (fun H1 l1 hP hD hS => kk H1 l1 ⟨hP, hD, hS⟩)
theorem x_bast {n k : Nat} {f : Nat → Int32} {i x y : Int32} {cA : ClassId} (C : xC p l s m args meth c cc nL own Ts G cy sa sv A) (w : xW G A s ws H locs) (q0 t0 : Nat) (ha : ws[q0]? = some (a, .inl (cA, n, .inl f))) (ht : (xTY cy)[t0]? = some (cA, .byte)) (hin : vp_in i n) (hk : i.toNatClampNeg = k) (hy : vp_nar .byte x = y) (hdg : decode cc pc = .ok (.bastore, 1))
    (kk : ∀ (H1 : Heap) (locs1 : List Loc), xW G A s (ws.set q0 (a, .inl (cA, n, .inl (upd f k y)))) H1 locs1 → W p l e R s m args below meth c H1 locs1 cells slots Q (F0 m (pc + 1) ls rest)) : W p l e R s m args below meth c H locs cells slots Q (F0 m pc ls (.int x :: .int i :: .ref a :: rest)) := by
  subst hk; subst hy
  exact va_bast C.1 C.2.1 (xK C) w.1 w.2.1 w.2.2 q0 t0 ha ht hin hdg (fun H1 l1 hP hD hS => kk H1 l1 ⟨hP, hD, hS⟩)
theorem x_zast {n k : Nat} {f : Nat → Int32} {i x y : Int32} {cA : ClassId} (C : xC p l s m args meth c cc nL own Ts G cy sa sv A) (w : xW G A s ws H locs) (q0 t0 : Nat) (ha : ws[q0]? = some (a, .inl (cA, n, .inl f))) (ht : (xTY cy)[t0]? = some (cA, .boolean)) (hin : vp_in i n) (hk : i.toNatClampNeg = k) (hy : vp_nar .boolean x = y) (hdg : decode cc pc = .ok (.bastore, 1))
    (kk : ∀ (H1 : Heap) (locs1 : List Loc), xW G A s (ws.set q0 (a, .inl (cA, n, .inl (upd f k y)))) H1 locs1 → W p l e R s m args below meth c H1 locs1 cells slots Q (F0 m (pc + 1) ls rest)) : W p l e R s m args below meth c H locs cells slots Q (F0 m pc ls (.int x :: .int i :: .ref a :: rest)) := by
  subst hk; subst hy
  exact va_zast C.1 C.2.1 (xK C) w.1 w.2.1 w.2.2 q0 t0 ha ht hin hdg (fun H1 l1 hP hD hS => kk H1 l1 ⟨hP, hD, hS⟩)
theorem x_aldq {n b : Nat} {Cn : String} {f : Nat → Option Nat} {i : Int32} {cA : ClassId} (C : xC p l s m args meth c cc nL own Ts G cy sa sv A) (w : xW G A s ws H locs) (q0 t0 : Nat) (ha : ws[q0]? = some (a, .inl (cA, n, .inr (.inr (.inr (.inr f)))))) (ht : (xTY cy)[t0]? = some (cA, .object Cn)) (hin : vp_in i n) (hv : f i.toNatClampNeg = some b) (hdg : decode cc pc = .ok (.aaload, 1))
    (kk : W p l e R s m args below meth c H locs cells slots Q (F0 m (pc + 1) ls (.ref b :: rest))) : W p l e R s m args below meth c H locs cells slots Q (F0 m pc ls (.int i :: .ref a :: rest)) :=
  va_aldq C.1 C.2.1 (xK C) w.1 q0 t0 ha ht hin hdg (by rw [hv]; exact kk)
theorem x_astq {n v k : Nat} {Cn : String} {T : u_T} {N : Nat} {vs : List Value} {f : Nat → Option Nat} {i : Int32} {cA : ClassId} (C : xC p l s m args meth c cc nL own Ts G cy sa sv A) (w : xW G A s ws H locs) (q0 t0 qk ci : Nat) (ha : ws[q0]? = some (a, .inl (cA, n, .inr (.inr (.inr (.inr f)))))) (ht : (xTY cy)[t0]? = some (cA, .object Cn)) (hv : ws[qk]? = some (v, .inr (ci, vs))) (hc : vwCl[ci]? = some (Cn, T, N)) (hin : vp_in i n) (hk : i.toNatClampNeg = k) (hdg : decode cc pc = .ok (.aastore, 1))
    (kk : ∀ (H1 : Heap) (locs1 : List Loc), xW G A s (ws.set q0 (a, .inl (cA, n, .inr (.inr (.inr (.inr (va_up f k (some v)))))))) H1 locs1 → W p l e R s m args below meth c H1 locs1 cells slots Q (F0 m (pc + 1) ls rest)) : W p l e R s m args below meth c H locs cells slots Q (F0 m pc ls (.ref v :: .int i :: .ref a :: rest)) := by
  subst hk
  exact va_astq C.1 C.2.1 (xK C) w.1 w.2.1 w.2.2 q0 t0 qk ci (r := (Cn, T, N)) ha ht hv hc hin hdg (fun H1 l1 hP hD hS => kk H1 l1 ⟨hP, hD, hS⟩)
/-- an object of a known class into a row of Objects -/
theorem x_astqO {n v k : Nat} {Cn : String} {T : u_T} {N : Nat} {vs : List Value} {f : Nat → Option Nat} {i : Int32} {cA : ClassId} (C : xC p l s m args meth c cc nL own Ts G cy sa sv A) (w : xW G A s ws H locs) (q0 t0 qk ci : Nat) (ha : ws[q0]? = some (a, .inl (cA, n, .inr (.inr (.inr (.inr f)))))) (ht : (xTY cy)[t0]? = some (cA, .object "java/lang/Object")) (hca : va_Nw (.castable Cn "java/lang/Object") s) (hv : ws[qk]? = some (v, .inr (ci, vs))) (hc : vwCl[ci]? = some (Cn, T, N)) (hin : vp_in i n) (hk : i.toNatClampNeg = k) (hdg : decode cc pc = .ok (.aastore, 1))
    (kk : ∀ (H1 : Heap) (locs1 : List Loc), xW G A s (ws.set q0 (a, .inl (cA, n, .inr (.inr (.inr (.inr (va_up f k (some v)))))))) H1 locs1 → W p l e R s m args below meth c H1 locs1 cells slots Q (F0 m (pc + 1) ls rest)) : W p l e R s m args below meth c H locs cells slots Q (F0 m pc ls (.ref v :: .int i :: .ref a :: rest)) := by
  subst hk
  exact va_astqO C.1 C.2.1 (xK C) w.1 w.2.1 w.2.2 q0 t0 qk ci (r := (Cn, T, N)) ha ht hca hv hc hin hdg (fun H1 l1 hP hD hS => kk H1 l1 ⟨hP, hD, hS⟩)
/-- a row of ints into a row of Objects -/
theorem x_astqI {n n2 v k : Nat} {g : Nat → Int32} {f : Nat → Option Nat} {i : Int32} {cA : ClassId} (C : xC p l s m args meth c cc nL own Ts G cy sa sv A) (w : xW G A s ws H locs) (q0 t0 qk : Nat) (ha : ws[q0]? = some (a, .inl (cA, n, .inr (.inr (.inr (.inr f)))))) (ht : (xTY cy)[t0]? = some (cA, .object "java/lang/Object")) (hca : va_Nw (.castable "[I" "java/lang/Object") s) (hv : ws[qk]? = some (v, .inl (cy 1, n2, .inl g))) (hin : vp_in i n) (hk : i.toNatClampNeg = k) (hdg : decode cc pc = .ok (.aastore, 1))
    (kk : ∀ (H1 : Heap) (locs1 : List Loc), xW G A s (ws.set q0 (a, .inl (cA, n, .inr (.inr (.inr (.inr (va_up f k (some v)))))))) H1 locs1 → W p l e R s m args below meth c H1 locs1 cells slots Q (F0 m (pc + 1) ls rest)) : W p l e R s m args below meth c H locs cells slots Q (F0 m pc ls (.ref v :: .int i :: .ref a :: rest)) := by
  subst hk
  have h1 : s.vm.findClass "[I" = some (cy 1) := ((xK C).2 1 _ rfl).2
  obtain ⟨kC, hkC, -⟩ := Vm.findClass_spec h1
  obtain ⟨c3, c4, hc3, hc4, hasg⟩ := Cond.castable_spec hca
  cases Option.some.inj (hc3.symm.trans h1)
  have hcell : H[v]? = some (vp_cell (cy 1) (n2, .inl g)) := w.1 qk _ hv
  exact va_astqM C.1 C.2.1 (xK C) w.1 w.2.1 w.2.2 q0 t0 ha ht ⟨_, hcell, rfl, ⟨kC, hkC⟩, fun comp hcomp => by cases Option.some.inj (hcomp.symm.trans hc4); exact hasg⟩ hin hdg (fun H1 l1 hP hD hS => kk H1 l1 ⟨hP, hD, hS⟩)
theorem x_copyi {a0 n0 n1 : Nat} {f g : Nat → Int32} {c0 c1 : ClassId} {ty : FieldType} {sp dp n : Int32} {sp' dp' n' index : Nat} (C : xC p l s m args meth c cc nL own Ts G cy sa sv A) (w : xW G A s ws H locs) (hsz : ls.size = nL) (q0 q1 t0 : Nat) (hlink : Cond.methodLink own index arraycopyName ∈ Ts) (hnat : Cond.native arraycopyName ∈ Ts) (hstat : Cond.static arraycopyName ∈ Ts) (hini : Cond.initialized "java/lang/System" ∈ Ts) (ha0 : ws[q0]? = some (a0, .inl (c0, n0, .inl f))) (ha1 : ws[q1]? = some (a, .inl (c1, n1, .inl g))) (ht0 : (xTY cy)[t0]? = some (c0, ty)) (ht1 : (xTY cy)[t0]? = some (c1, ty)) (hprim : refKind ty = false) (hs1 : ¬ sp < 0) (hs2 : ¬ dp < 0) (hs3 : ¬ n < 0) (e1 : sp.toNatClampNeg = sp') (e2 : dp.toNatClampNeg = dp') (e3 : n.toNatClampNeg = n') (h4 : sp' + n' ≤ n0) (h5 : dp' + n' ≤ n1) (hfit : ∀ i, i < n' → fits ty (.int (f (sp' + i))) = true) (hframes : 1 ≤ R.frames) (hlocals : (rest.map fun v => v.category).sum + (nativeFrameWords "java/lang/System" "arraycopy" 5 + 11) ≤ R.locals) (hdg : decode cc pc = .ok (.invokestatic index, 3))
    (kk : ∀ (H1 : Heap) (locs1 : List Loc), xW G A s (ws.set q1 (a, .inl (c1, n1, .inl (va_cpy f g sp' dp' n')))) H1 locs1 → W p l e R s m args below meth c H1 locs1 cells slots Q (F0 m (pc + 3) ls rest)) : W p l e R s m args below meth c H locs cells slots Q (F0 m pc ls (.int n :: .int dp :: .ref a :: .int sp :: .ref a0 :: rest)) := by
  subst e1; subst e2; subst e3
  exact va_copyi C.1 C.2.1 (C.2.2.1.trans hsz.symm) (xown C) (xhts C _ hlink) (xhts C _ hnat) (xhts C _ hstat) (xhts C _ hini) (xK C) w.1 w.2.1 w.2.2 q0 q1 t0 t0 ha0 ha1 ht0 ht1 hprim hs1 hs2 hs3 h4 h5 hfit hframes hlocals hdg (fun H1 l1 hP hD hS => kk H1 l1 ⟨hP, hD, hS⟩)
/-- out of a constant's bytes -/
theorem x_copyt {b0 n0 n1 : Nat} {f g : Nat → Int32} {sp dp n : Int32} {sp' dp' n' index : Nat} (C : xC p l s m args meth c cc nL own Ts G cy sa sv A) (w : xW G A s ws H locs) (hsz : ls.size = nL) (hX : va_T .byte b0 n0 (fun j => .int (f j)) A s s.heap) (q1 : Nat) (hlink : Cond.methodLink own index arraycopyName ∈ Ts) (hnat : Cond.native arraycopyName ∈ Ts) (hstat : Cond.static arraycopyName ∈ Ts) (hini : Cond.initialized "java/lang/System" ∈ Ts) (ha1 : ws[q1]? = some (a, .inl (cy 0, n1, .inl g))) (hs1 : ¬ sp < 0) (hs2 : ¬ dp < 0) (hs3 : ¬ n < 0) (e1 : sp.toNatClampNeg = sp') (e2 : dp.toNatClampNeg = dp') (e3 : n.toNatClampNeg = n') (h4 : sp' + n' ≤ n0) (h5 : dp' + n' ≤ n1) (hfit : ∀ i, i < n' → fits .byte (.int (f (sp' + i))) = true) (hframes : 1 ≤ R.frames) (hlocals : (rest.map fun v => v.category).sum + (nativeFrameWords "java/lang/System" "arraycopy" 5 + 11) ≤ R.locals) (hdg : decode cc pc = .ok (.invokestatic index, 3))
    (kk : ∀ (H1 : Heap) (locs1 : List Loc), xW G A s (ws.set q1 (a, .inl (cy 0, n1, .inl (va_cpy f g sp' dp' n')))) H1 locs1 → W p l e R s m args below meth c H1 locs1 cells slots Q (F0 m (pc + 3) ls rest)) : W p l e R s m args below meth c H locs cells slots Q (F0 m pc ls (.int n :: .int dp :: .ref a :: .int sp :: .ref b0 :: rest)) := by
  subst e1; subst e2; subst e3
  exact vk_copyt C.1 C.2.1 (C.2.2.1.trans hsz.symm) (xown C) (xhts C _ hlink) (xhts C _ hnat) (xhts C _ hstat) (xhts C _ hini) (xK C) w.1 w.2.1 w.2.2 hX q1 0 ha1 rfl hs1 hs2 hs3 h4 h5 hfit hframes hlocals hdg (fun H1 l1 hP hD hS => kk H1 l1 ⟨hP, hD, hS⟩)
theorem x_gets {Cn n d ref : String} {v : Value} {index : Nat} (C : xC p l s m args meth c cc nL own Ts G cy sa sv A) (w : xW G A s ws H locs) (hZ : va_Z Cn n d v A s s.heap) (hlink : Cond.fieldLink own index ref n d ∈ Ts) (href : ref = Cn) (hdg : decode cc pc = .ok (.getstatic index, 3))
    (kk : W p l e R s m args below meth c H locs cells slots Q (F0 m (pc + 3) ls (v :: rest))) : W p l e R s m args below meth c H locs cells slots Q (F0 m pc ls rest) :=
  va_gets C.1 C.2.1 hZ w.2.2 (xown C) (xhts C _ hlink) (fun _ h => by rw [href]; exact h) hdg kk
theorem x_getk {o n d ref : String} {index q : Nat} {v : Value} (C : xC p l s m args meth c cc nL own Ts G cy sa sv A) (w : xW G A s ws H locs) (hE : va_OF o n d v q A s s.heap) (hlink : Cond.fieldLink own index ref n d ∈ Ts) (href : ref = o) (hdg : decode cc pc = .ok (.getfield index, 3))
    (kk : W p l e R s m args below meth c H locs cells slots Q (F0 m (pc + 3) ls (v :: rest))) : W p l e R s m args below meth c H locs cells slots Q (F0 m pc ls (.ref q :: rest)) :=
  vk_getf C.1 C.2.1 hE w.2.2 (xown C) (xhts C _ hlink) (fun _ h => by rw [href]; exact h) hdg kk
theorem x_tlen {ty : FieldType} {t N : Nat} {f : Nat → Value} {v : Int32} (C : xC p l s m args meth c cc nL own Ts G cy sa sv A) (w : xW G A s ws H locs) (hT : va_T ty t N f A s s.heap) (hv : Int32.ofNat N = v) (hdg : decode cc pc = .ok (.arraylength, 1))
    (kk : W p l e R s m args below meth c H locs cells slots Q (F0 m (pc + 1) ls (.int v :: rest))) : W p l e R s m args below meth c H locs cells slots Q (F0 m pc ls (.ref t :: rest)) :=
  va_tlen C.1 C.2.1 hT w.2.2 hv hdg kk
theorem x_ldcS {tx : String} {index : Nat} (C : xC p l s m args meth c cc nL own Ts G cy sa sv A) (hm : (own, index, tx) ∈ xSR) (hdg : decode cc pc = .ok (.ldc index, 2))
    (kk : W p l e R s m args below meth c H locs cells slots Q (F0 m (pc + 2) ls (.ref (sa own index) :: rest))) : W p l e R s m args below meth c H locs cells slots Q (F0 m pc ls rest) :=
  va_ldcS C.1 C.2.1 (xown C) ((xS C).2.2.2.1 _ hm) hdg kk
theorem x_ldc {index : Nat} {v : Int32} (C : xC p l s m args meth c cc nL own Ts G cy sa sv A) (hm : Cond.constant own index v ∈ Ts) (hdg : decode cc pc = .ok (.ldc index, 2))
    (kk : W p l e R s m args below meth c H locs cells slots Q (F0 m (pc + 2) ls (.int v :: rest))) : W p l e R s m args below meth c H locs cells slots Q (F0 m pc ls rest) :=
  lv_ldc C.1 C.2.1 (xown C) (xhts C _ hm) hdg kk
theorem x_oinit {index : Nat} (C : xC p l s m args meth c cc nL own Ts G cy sa sv A) (hsz : ls.size = nL) (h1 : Cond.methodLink own index objectInit ∈ Ts) (h2 : Cond.instanceMethod objectInit ∈ Ts) (h3 : Cond.code objectInit ⟨#[0xb1]⟩ 1 none ∈ Ts) (hdg : decode cc pc = .ok (.invokespecial index, 3)) (hframes : 1 ≤ R.frames) (hlocals : (rest.map fun v => v.category).sum ≤ 8) (hloc : 20 ≤ R.locals)
    (kk : W p l e R s m args below meth c H locs cells slots Q (F0 m (pc + 3) ls rest)) : W p l e R s m args below meth c H locs cells slots Q (F0 m pc ls (.ref a :: rest)) :=
  W.objInit C.1 C.2.1 (xown C) (xhts C _ h1) (xhts C _ h2) (xhts C _ h3) rfl (hsz.trans C.2.2.1.symm) rfl hdg hframes (Nat.le_trans (Nat.add_le_add_right (lv_room (m := m) (pc := pc) (ls := ls) (rest := rest) hlocals) 12) hloc) kk
/-- a number by another name -/
theorem x_is {x y : Int32} (h : x = y) (k : W p l e R s m args below meth c H locs cells slots Q (F0 m pc ls (.int y :: rest))) : W p l e R s m args below meth c H locs cells slots Q (F0 m pc ls (.int x :: rest)) := h ▸ k
theorem x_il {x y : Int64} (h : x = y) (k : W p l e R s m args below meth c H locs cells slots Q (F0 m pc ls (.long y :: rest))) : W p l e R s m args below meth c H locs cells slots Q (F0 m pc ls (.long x :: rest)) := h ▸ k
theorem x_instS {index b : Nat} {Cn : String} {T : u_T} {N ci q0 : Nat} {fs : List Value} (C : xC p l s m args meth c cc nL own Ts G cy sa sv A) (w : xW G A s ws H locs) (hlink : Cond.classLink own index Cn ∈ Ts) (hc : vwCl[ci]? = some (Cn, T, N)) (he : ws[q0]? = some (b, .inr (ci, fs))) (hdg : decode cc pc = .ok (.instanceof index, 3))
    (kk : W p l e R s m args below meth c H locs cells slots Q (F0 m (pc + 3) ls (.int 1 :: rest))) : W p l e R s m args below meth c H locs cells slots Q (F0 m pc ls (.ref b :: rest)) :=
  va_instE C.1 C.2.1 (xown C) (xhts C _ hlink) (va_recv (xK C) w.1 hc he) hdg kk
theorem x_instK {index b v : Nat} {bs : List Int32} (C : xC p l s m args meth c cc nL own Ts G cy sa sv A) (w : xW G A s ws H locs) (hlink : Cond.classLink own index "java/lang/String" ∈ Ts) (hs : xStr b v bs A s s.heap) (hdg : decode cc pc = .ok (.instanceof index, 3))
    (kk : W p l e R s m args below meth c H locs cells slots Q (F0 m (pc + 3) ls (.int 1 :: rest))) : W p l e R s m args below meth c H locs cells slots Q (F0 m pc ls (.ref b :: rest)) :=
  va_instE C.1 C.2.1 (xown C) (xhts C _ hlink) (by obtain ⟨cell, h1, h2, h3, -⟩ := hs.1.kept w.2.2.2.1; exact ⟨cell, h1, h2, h3⟩) hdg kk
theorem x_castS {index b : Nat} {Cn : String} {T : u_T} {N ci q0 : Nat} {fs : List Value} (C : xC p l s m args meth c cc nL own Ts G cy sa sv A) (w : xW G A s ws H locs) (hlink : Cond.classLink own index Cn ∈ Ts) (hc : vwCl[ci]? = some (Cn, T, N)) (he : ws[q0]? = some (b, .inr (ci, fs))) (hdg : decode cc pc = .ok (.checkcast index, 3))
    (kk : W p l e R s m args below meth c H locs cells slots Q (F0 m (pc + 3) ls (.ref b :: rest))) : W p l e R s m args below meth c H locs cells slots Q (F0 m pc ls (.ref b :: rest)) :=
  va_castE C.1 C.2.1 (xown C) (xhts C _ hlink) (va_recv (xK C) w.1 hc he) hdg kk
theorem x_castK {index b v : Nat} {bs : List Int32} (C : xC p l s m args meth c cc nL own Ts G cy sa sv A) (w : xW G A s ws H locs) (hlink : Cond.classLink own index "java/lang/String" ∈ Ts) (hs : xStr b v bs A s s.heap) (hdg : decode cc pc = .ok (.checkcast index, 3))
    (kk : W p l e R s m args below meth c H locs cells slots Q (F0 m (pc + 3) ls (.ref b :: rest))) : W p l e R s m args below meth c H locs cells slots Q (F0 m pc ls (.ref b :: rest)) :=
  va_castE C.1 C.2.1 (xown C) (xhts C _ hlink) (by obtain ⟨cell, h1, h2, h3, -⟩ := hs.1.kept w.2.2.2.1; exact ⟨cell, h1, h2, h3⟩) hdg kk
theorem x_acmpne {x y : Nat} {off : Int} {tgt : Nat} (C : xC p l s m args meth c cc nL own Ts G cy sa sv A) (hne : x ≠ y) (hdg : decode cc pc = .ok (.if_acmp .ne off, 3)) (ht : (pc : Int) + off = (tgt : Int)) (kt : W p l e R s m args below meth c H locs cells slots Q (F0 m tgt ls rest)) : W p l e R s m args below meth c H locs cells slots Q (F0 m pc ls (.ref y :: .ref x :: rest)) :=
  lv_acmp_ne (rx := some x) (ry := some y) C.1 C.2.1 hdg ht (fun _ => kt) (fun h => absurd (Option.some.inj h) hne)
theorem x_acmpeq {x : Nat} {off : Int} (C : xC p l s m args meth c cc nL own Ts G cy sa sv A) {tgt : Nat} (hdg : decode cc pc = .ok (.if_acmp .ne off, 3)) (ht : (pc : Int) + off = (tgt : Int)) (kf : W p l e R s m args below meth c H locs cells slots Q (F0 m (pc + 3) ls rest)) : W p l e R s m args below meth c H locs cells slots Q (F0 m pc ls (.ref x :: .ref x :: rest)) :=
  lv_acmp_ne (rx := some x) (ry := some x) C.1 C.2.1 hdg ht (fun h => absurd rfl h) (fun _ => kf)
end XB
/-- two places of a world are two -/
theorem xne {A : Nat → Prop} {ws : va_W} (hD : va_D A ws) {i j x y : Nat} {e1 e2 : va_E} (hi : ws[i]? = some (x, e1)) (hj : ws[j]? = some (y, e2)) (hij : i ≠ j) : x ≠ y := fun h => hij (hD.1 i j _ _ hi hj h)
theorem xneS {A : Nat → Prop} {ws : va_W} {U : State} {H : Heap} {v : Nat} {bs : List Int32} (hD : va_D A ws) {i x y : Nat} {e1 : va_E} (hi : ws[i]? = some (x, e1)) (hs : xStr y v bs A U H) : x ≠ y := by
  intro h
  obtain ⟨cell, -, -, -, hA⟩ := hs.1
  exact hA (h ▸ hD.2 i _ hi)
/-- bodies -/
theorem xof {l : Launch} {G : va_G} {cy : Nat → ClassId} {sa : String → Nat → Nat} {sv : Nat → Nat} {y : MethodName} {rm : Room} {av : List Value} {wc : va_W} {Q : (Nat → Prop) → Array Value → State → Outcome → State → Prop} {cc : ByteArray} {maxL : Nat} {ret : Option FieldType} (hy : plainName y.cls = true) (hlen : (lg_sl av).length ≤ maxL)
    (body : ∀ (p : Program) (e : Env) (s : State) (m : MethodId) (below : List Frame) (meth : Method) (c : Code) (A : Nat → Prop), xC p l s m av.toArray meth c cc maxL y.cls (Cond.code y cc maxL ret :: XG) G cy sa sv A → xW G A s wc s.heap [] → meth.sig.returnType = ret → meth.name = y.name → ∀ ls : Array Slot, lv_has ls maxL (lv_args 0 av) → W p l e rm s m av.toArray below meth c s.heap [] 0 0 (MQ below (Q A) av.toArray s rm.cells rm.slots A) (F0 m 0 ls [])) :
    xM l G cy sa sv y (Cond.code y cc maxL ret :: XG) rm av wc Q := by
  intro htr sz
  refine Met.ofW (cc := cc) (maxL := maxL) (ret := ret) hy rfl ?_
  intro p e s m args below meth c s₁ B hml hv
  obtain ⟨rfl, hsz, hP, hK, hD0, hSt⟩ := hv
  subst hsz
  have hD := hD0.self (sz := s.heap.size)
  rw [lg_entry_eq]
  exact body p e s m below meth c (va_A wc s.heap.size) ⟨B.exec, B.bytes, hml, findClass_of_methodNamed B.named, atoms_spec (ws := Cond.code y cc maxL ret :: XG) B.pre, hK, hSt, fun q h => Or.inr h, B.notSynchronized, htr⟩ ⟨hP, hD, va_S.rf⟩ B.returns (name_of_methodNamed B.named B.method).1 _ (lv_entry av hlen)
theorem xofX {l : Launch} {G : va_G} {cy : Nat → ClassId} {sa : String → Nat → Nat} {sv : Nat → Nat} {y : MethodName} {rm : Room} {av : List Value} {wc : va_W} {w1 : (Nat → Nat) → va_W} {E : String} {cc : ByteArray} {maxL : Nat} {ret : Option FieldType} (hy : plainName y.cls = true) (hlen : (lg_sl av).length ≤ maxL)
    (body : ∀ (p : Program) (e : Env) (s : State) (m : MethodId) (below : List Frame) (meth : Method) (c : Code) (A : Nat → Prop), xC p l s m av.toArray meth c cc maxL y.cls (Cond.code y cc maxL ret :: XG) G cy sa sv A → xW G A s wc s.heap [] → (∀ x ∈ c.exceptionTable.toList, False) → ∀ ls : Array Slot, lv_has ls maxL (lv_args 0 av) → W p l e rm s m av.toArray below meth c s.heap [] 0 0 (vx_MQ below (xQ0 A) (xQx G w1 E A) av.toArray s rm.cells rm.slots A) (F0 m 0 ls [])) :
    xX l G cy sa sv y (Cond.code y cc maxL ret :: XG) rm av wc w1 E := by
  intro htr sz
  refine vx_ofW (cc := cc) (maxL := maxL) (ret := ret) hy rfl ?_
  intro p e s m args below meth c s₁ B hml hno hv
  obtain ⟨rfl, hsz, hP, hK, hD0, hSt⟩ := hv
  subst hsz
  have hD := hD0.self (sz := s.heap.size)
  rw [lg_entry_eq]
  exact body p e s m below meth c (va_A wc s.heap.size) ⟨B.exec, B.bytes, hml, findClass_of_methodNamed B.named, atoms_spec (ws := Cond.code y cc maxL ret :: XG) B.pre, hK, hSt, fun q h => Or.inr h, B.notSynchronized, htr⟩ ⟨hP, hD, va_S.rf⟩ hno _ (lv_entry av hlen)
