theorem law_0 {p : Program} {e : Env} {s : State} {m : MethodId} {below : List Frame} {meth : Method} {c : Code} {l : Launch} {G : va_G} {cy : Nat → ClassId} {sa : String → Nat → Nat} {sv : Nat → Nat} {A : Nat → Prop} {b : Nat} {xs : Nat → Int32} {a : Nat → Nat} {H : Heap} {locs : List Loc} {ls : Array Slot} (C : xC p l s m #[Value.ref b] meth c code 7 "TwinindexLaw" (Cond.initialized "TwinindexLaw" :: XG) G cy sa sv A) (hr : meth.sig.returnType = ret) (hX : va_X b 5 xs s s.heap) (hbl : b < s.heap.size) (hbA : ¬ A b) (hAl : ∀ q, A q → s.heap.size ≤ q) (w : xW G A s (xW0 cy sv a) H locs) (hl : lv_has ls 7 [(4, .int 0), (3, .ref (a 39)), (2, .ref (a 31)), (1, .ref (a 0)), (0, .ref b)]) (hk : ((xs 0) &&& 63) = 0) : W p l e room_1 s m #[Value.ref b] below meth c H locs 40 1536 (lw_Z below #[Value.ref b] s) (F0 m 27 ls []) := by
  by_cases g1 : (xs 2) < (-999)
  · exact law_0_0 C hr hX hbl hbA hAl w hl hk g1
  · by_cases g2 : (xs 2) ≤ 999
    · by_cases g3 : (-1000) = (xs 2)
      · exfalso
        have t1 := mt (fa_lt _ _).mpr g1
        have t2 := (fa_le _ _).mp g2
        have t3 := (fa_eq _ _).mp g3
        have u0 : ((-1000) : Int32).toInt = (-1000) := by decide
        have u1 : ((-999) : Int32).toInt = (-999) := by decide
        have u2 : (999 : Int32).toInt = 999 := by decide
        omega
      · exact law_0_1 C hr hX hbl hbA hAl w hl hk g1 g2 g3
    · exact law_0_2 C hr hX hbl hbA hAl w hl hk g1 g2
theorem law_1 {p : Program} {e : Env} {s : State} {m : MethodId} {below : List Frame} {meth : Method} {c : Code} {l : Launch} {G : va_G} {cy : Nat → ClassId} {sa : String → Nat → Nat} {sv : Nat → Nat} {A : Nat → Prop} {b : Nat} {xs : Nat → Int32} {a : Nat → Nat} {H : Heap} {locs : List Loc} {ls : Array Slot} (C : xC p l s m #[Value.ref b] meth c code 7 "TwinindexLaw" (Cond.initialized "TwinindexLaw" :: XG) G cy sa sv A) (hr : meth.sig.returnType = ret) (hX : va_X b 5 xs s s.heap) (hbl : b < s.heap.size) (hbA : ¬ A b) (hAl : ∀ q, A q → s.heap.size ≤ q) (w : xW G A s (xW0 cy sv a) H locs) (hl : lv_has ls 7 [(4, .int 0), (3, .ref (a 39)), (2, .ref (a 31)), (1, .ref (a 0)), (0, .ref b)]) (hk : ((xs 0) &&& 63) = 1) : W p l e room_1 s m #[Value.ref b] below meth c H locs 40 1536 (lw_Z below #[Value.ref b] s) (F0 m 27 ls []) := by
  by_cases g1 : (xs 2) < (-999)
  · exact law_1_3 C hr hX hbl hbA hAl w hl hk g1
  · by_cases g2 : (xs 2) ≤ 999
    · by_cases g3 : (-1000) = (xs 2)
      · exfalso
        have t1 := mt (fa_lt _ _).mpr g1
        have t2 := (fa_le _ _).mp g2
        have t3 := (fa_eq _ _).mp g3
        have u0 : ((-1000) : Int32).toInt = (-1000) := by decide
        have u1 : ((-999) : Int32).toInt = (-999) := by decide
        have u2 : (999 : Int32).toInt = 999 := by decide
        omega
      · exact law_1_4 C hr hX hbl hbA hAl w hl hk g1 g2 g3
    · exact law_1_5 C hr hX hbl hbA hAl w hl hk g1 g2
theorem law_2 {p : Program} {e : Env} {s : State} {m : MethodId} {below : List Frame} {meth : Method} {c : Code} {l : Launch} {G : va_G} {cy : Nat → ClassId} {sa : String → Nat → Nat} {sv : Nat → Nat} {A : Nat → Prop} {b : Nat} {xs : Nat → Int32} {a : Nat → Nat} {H : Heap} {locs : List Loc} {ls : Array Slot} (C : xC p l s m #[Value.ref b] meth c code 7 "TwinindexLaw" (Cond.initialized "TwinindexLaw" :: XG) G cy sa sv A) (hr : meth.sig.returnType = ret) (hX : va_X b 5 xs s s.heap) (hbl : b < s.heap.size) (hbA : ¬ A b) (hAl : ∀ q, A q → s.heap.size ≤ q) (w : xW G A s (xW0 cy sv a) H locs) (hl : lv_has ls 7 [(4, .int 0), (3, .ref (a 39)), (2, .ref (a 31)), (1, .ref (a 0)), (0, .ref b)]) (hk : ((xs 0) &&& 63) = 2) : W p l e room_1 s m #[Value.ref b] below meth c H locs 40 1536 (lw_Z below #[Value.ref b] s) (F0 m 27 ls []) := by
  by_cases g1 : (xs 2) < (-999)
  · exact law_2_6 C hr hX hbl hbA hAl w hl hk g1
  · by_cases g2 : (xs 2) ≤ 999
    · exact law_2_7 C hr hX hbl hbA hAl w hl hk g1 g2
    · exact law_2_8 C hr hX hbl hbA hAl w hl hk g1 g2
theorem law_3 {p : Program} {e : Env} {s : State} {m : MethodId} {below : List Frame} {meth : Method} {c : Code} {l : Launch} {G : va_G} {cy : Nat → ClassId} {sa : String → Nat → Nat} {sv : Nat → Nat} {A : Nat → Prop} {b : Nat} {xs : Nat → Int32} {a : Nat → Nat} {H : Heap} {locs : List Loc} {ls : Array Slot} (C : xC p l s m #[Value.ref b] meth c code 7 "TwinindexLaw" (Cond.initialized "TwinindexLaw" :: XG) G cy sa sv A) (hr : meth.sig.returnType = ret) (hX : va_X b 5 xs s s.heap) (hbl : b < s.heap.size) (hbA : ¬ A b) (hAl : ∀ q, A q → s.heap.size ≤ q) (w : xW G A s (xW0 cy sv a) H locs) (hl : lv_has ls 7 [(4, .int 0), (3, .ref (a 39)), (2, .ref (a 31)), (1, .ref (a 0)), (0, .ref b)]) (hk : ((xs 0) &&& 63) = 3) : W p l e room_1 s m #[Value.ref b] below meth c H locs 40 1536 (lw_Z below #[Value.ref b] s) (F0 m 27 ls []) := by
  by_cases g1 : (xs 3) < (-999)
  · exact law_3_9 C hr hX hbl hbA hAl w hl hk g1
  · by_cases g2 : (xs 3) ≤ 999
    · exact law_3_10 C hr hX hbl hbA hAl w hl hk g1 g2
    · exact law_3_11 C hr hX hbl hbA hAl w hl hk g1 g2
theorem law_4 {p : Program} {e : Env} {s : State} {m : MethodId} {below : List Frame} {meth : Method} {c : Code} {l : Launch} {G : va_G} {cy : Nat → ClassId} {sa : String → Nat → Nat} {sv : Nat → Nat} {A : Nat → Prop} {b : Nat} {xs : Nat → Int32} {a : Nat → Nat} {H : Heap} {locs : List Loc} {ls : Array Slot} (C : xC p l s m #[Value.ref b] meth c code 7 "TwinindexLaw" (Cond.initialized "TwinindexLaw" :: XG) G cy sa sv A) (hr : meth.sig.returnType = ret) (hX : va_X b 5 xs s s.heap) (hbl : b < s.heap.size) (hbA : ¬ A b) (hAl : ∀ q, A q → s.heap.size ≤ q) (w : xW G A s (xW0 cy sv a) H locs) (hl : lv_has ls 7 [(4, .int 0), (3, .ref (a 39)), (2, .ref (a 31)), (1, .ref (a 0)), (0, .ref b)]) (hk : ((xs 0) &&& 63) = 4) : W p l e room_1 s m #[Value.ref b] below meth c H locs 40 1536 (lw_Z below #[Value.ref b] s) (F0 m 27 ls []) := by
  exact law_4_12 C hr hX hbl hbA hAl w hl hk
theorem law_5 {p : Program} {e : Env} {s : State} {m : MethodId} {below : List Frame} {meth : Method} {c : Code} {l : Launch} {G : va_G} {cy : Nat → ClassId} {sa : String → Nat → Nat} {sv : Nat → Nat} {A : Nat → Prop} {b : Nat} {xs : Nat → Int32} {a : Nat → Nat} {H : Heap} {locs : List Loc} {ls : Array Slot} (C : xC p l s m #[Value.ref b] meth c code 7 "TwinindexLaw" (Cond.initialized "TwinindexLaw" :: XG) G cy sa sv A) (hr : meth.sig.returnType = ret) (hX : va_X b 5 xs s s.heap) (hbl : b < s.heap.size) (hbA : ¬ A b) (hAl : ∀ q, A q → s.heap.size ≤ q) (w : xW G A s (xW0 cy sv a) H locs) (hl : lv_has ls 7 [(4, .int 0), (3, .ref (a 39)), (2, .ref (a 31)), (1, .ref (a 0)), (0, .ref b)]) (hk : ((xs 0) &&& 63) = 5) : W p l e room_1 s m #[Value.ref b] below meth c H locs 40 1536 (lw_Z below #[Value.ref b] s) (F0 m 27 ls []) := by
  exact law_5_13 C hr hX hbl hbA hAl w hl hk
theorem law_6 {p : Program} {e : Env} {s : State} {m : MethodId} {below : List Frame} {meth : Method} {c : Code} {l : Launch} {G : va_G} {cy : Nat → ClassId} {sa : String → Nat → Nat} {sv : Nat → Nat} {A : Nat → Prop} {b : Nat} {xs : Nat → Int32} {a : Nat → Nat} {H : Heap} {locs : List Loc} {ls : Array Slot} (C : xC p l s m #[Value.ref b] meth c code 7 "TwinindexLaw" (Cond.initialized "TwinindexLaw" :: XG) G cy sa sv A) (hr : meth.sig.returnType = ret) (hX : va_X b 5 xs s s.heap) (hbl : b < s.heap.size) (hbA : ¬ A b) (hAl : ∀ q, A q → s.heap.size ≤ q) (w : xW G A s (xW0 cy sv a) H locs) (hl : lv_has ls 7 [(4, .int 0), (3, .ref (a 39)), (2, .ref (a 31)), (1, .ref (a 0)), (0, .ref b)]) (hk : ((xs 0) &&& 63) = 6) : W p l e room_1 s m #[Value.ref b] below meth c H locs 40 1536 (lw_Z below #[Value.ref b] s) (F0 m 27 ls []) := by
  exact law_6_14 C hr hX hbl hbA hAl w hl hk
theorem law_7 {p : Program} {e : Env} {s : State} {m : MethodId} {below : List Frame} {meth : Method} {c : Code} {l : Launch} {G : va_G} {cy : Nat → ClassId} {sa : String → Nat → Nat} {sv : Nat → Nat} {A : Nat → Prop} {b : Nat} {xs : Nat → Int32} {a : Nat → Nat} {H : Heap} {locs : List Loc} {ls : Array Slot} (C : xC p l s m #[Value.ref b] meth c code 7 "TwinindexLaw" (Cond.initialized "TwinindexLaw" :: XG) G cy sa sv A) (hr : meth.sig.returnType = ret) (hX : va_X b 5 xs s s.heap) (hbl : b < s.heap.size) (hbA : ¬ A b) (hAl : ∀ q, A q → s.heap.size ≤ q) (w : xW G A s (xW0 cy sv a) H locs) (hl : lv_has ls 7 [(4, .int 0), (3, .ref (a 39)), (2, .ref (a 31)), (1, .ref (a 0)), (0, .ref b)]) (hk : ((xs 0) &&& 63) = 7) : W p l e room_1 s m #[Value.ref b] below meth c H locs 40 1536 (lw_Z below #[Value.ref b] s) (F0 m 27 ls []) := by
  exact law_7_15 C hr hX hbl hbA hAl w hl hk
theorem law_8 {p : Program} {e : Env} {s : State} {m : MethodId} {below : List Frame} {meth : Method} {c : Code} {l : Launch} {G : va_G} {cy : Nat → ClassId} {sa : String → Nat → Nat} {sv : Nat → Nat} {A : Nat → Prop} {b : Nat} {xs : Nat → Int32} {a : Nat → Nat} {H : Heap} {locs : List Loc} {ls : Array Slot} (C : xC p l s m #[Value.ref b] meth c code 7 "TwinindexLaw" (Cond.initialized "TwinindexLaw" :: XG) G cy sa sv A) (hr : meth.sig.returnType = ret) (hX : va_X b 5 xs s s.heap) (hbl : b < s.heap.size) (hbA : ¬ A b) (hAl : ∀ q, A q → s.heap.size ≤ q) (w : xW G A s (xW0 cy sv a) H locs) (hl : lv_has ls 7 [(4, .int 0), (3, .ref (a 39)), (2, .ref (a 31)), (1, .ref (a 0)), (0, .ref b)]) (hk : ((xs 0) &&& 63) = 8) : W p l e room_1 s m #[Value.ref b] below meth c H locs 40 1536 (lw_Z below #[Value.ref b] s) (F0 m 27 ls []) := by
  by_cases g1 : (xs 2) = (xs 2)
  · exact law_8_16 C hr hX hbl hbA hAl w hl hk g1
  · exfalso
    have t1 := mt (fa_eq _ _).mpr g1
    omega
theorem law_9 {p : Program} {e : Env} {s : State} {m : MethodId} {below : List Frame} {meth : Method} {c : Code} {l : Launch} {G : va_G} {cy : Nat → ClassId} {sa : String → Nat → Nat} {sv : Nat → Nat} {A : Nat → Prop} {b : Nat} {xs : Nat → Int32} {a : Nat → Nat} {H : Heap} {locs : List Loc} {ls : Array Slot} (C : xC p l s m #[Value.ref b] meth c code 7 "TwinindexLaw" (Cond.initialized "TwinindexLaw" :: XG) G cy sa sv A) (hr : meth.sig.returnType = ret) (hX : va_X b 5 xs s s.heap) (hbl : b < s.heap.size) (hbA : ¬ A b) (hAl : ∀ q, A q → s.heap.size ≤ q) (w : xW G A s (xW0 cy sv a) H locs) (hl : lv_has ls 7 [(4, .int 0), (3, .ref (a 39)), (2, .ref (a 31)), (1, .ref (a 0)), (0, .ref b)]) (hk : ((xs 0) &&& 63) = 9) : W p l e room_1 s m #[Value.ref b] below meth c H locs 40 1536 (lw_Z below #[Value.ref b] s) (F0 m 27 ls []) := by
  exact law_9_17 C hr hX hbl hbA hAl w hl hk
theorem law_10 {p : Program} {e : Env} {s : State} {m : MethodId} {below : List Frame} {meth : Method} {c : Code} {l : Launch} {G : va_G} {cy : Nat → ClassId} {sa : String → Nat → Nat} {sv : Nat → Nat} {A : Nat → Prop} {b : Nat} {xs : Nat → Int32} {a : Nat → Nat} {H : Heap} {locs : List Loc} {ls : Array Slot} (C : xC p l s m #[Value.ref b] meth c code 7 "TwinindexLaw" (Cond.initialized "TwinindexLaw" :: XG) G cy sa sv A) (hr : meth.sig.returnType = ret) (hX : va_X b 5 xs s s.heap) (hbl : b < s.heap.size) (hbA : ¬ A b) (hAl : ∀ q, A q → s.heap.size ≤ q) (w : xW G A s (xW0 cy sv a) H locs) (hl : lv_has ls 7 [(4, .int 0), (3, .ref (a 39)), (2, .ref (a 31)), (1, .ref (a 0)), (0, .ref b)]) (hk : ((xs 0) &&& 63) = 10) : W p l e room_1 s m #[Value.ref b] below meth c H locs 40 1536 (lw_Z below #[Value.ref b] s) (F0 m 27 ls []) := by
  exact law_10_18 C hr hX hbl hbA hAl w hl hk
theorem law_11 {p : Program} {e : Env} {s : State} {m : MethodId} {below : List Frame} {meth : Method} {c : Code} {l : Launch} {G : va_G} {cy : Nat → ClassId} {sa : String → Nat → Nat} {sv : Nat → Nat} {A : Nat → Prop} {b : Nat} {xs : Nat → Int32} {a : Nat → Nat} {H : Heap} {locs : List Loc} {ls : Array Slot} (C : xC p l s m #[Value.ref b] meth c code 7 "TwinindexLaw" (Cond.initialized "TwinindexLaw" :: XG) G cy sa sv A) (hr : meth.sig.returnType = ret) (hX : va_X b 5 xs s s.heap) (hbl : b < s.heap.size) (hbA : ¬ A b) (hAl : ∀ q, A q → s.heap.size ≤ q) (w : xW G A s (xW0 cy sv a) H locs) (hl : lv_has ls 7 [(4, .int 0), (3, .ref (a 39)), (2, .ref (a 31)), (1, .ref (a 0)), (0, .ref b)]) (hk : ((xs 0) &&& 63) = 11) : W p l e room_1 s m #[Value.ref b] below meth c H locs 40 1536 (lw_Z below #[Value.ref b] s) (F0 m 27 ls []) := by
  exact law_11_19 C hr hX hbl hbA hAl w hl hk
theorem law_12 {p : Program} {e : Env} {s : State} {m : MethodId} {below : List Frame} {meth : Method} {c : Code} {l : Launch} {G : va_G} {cy : Nat → ClassId} {sa : String → Nat → Nat} {sv : Nat → Nat} {A : Nat → Prop} {b : Nat} {xs : Nat → Int32} {a : Nat → Nat} {H : Heap} {locs : List Loc} {ls : Array Slot} (C : xC p l s m #[Value.ref b] meth c code 7 "TwinindexLaw" (Cond.initialized "TwinindexLaw" :: XG) G cy sa sv A) (hr : meth.sig.returnType = ret) (hX : va_X b 5 xs s s.heap) (hbl : b < s.heap.size) (hbA : ¬ A b) (hAl : ∀ q, A q → s.heap.size ≤ q) (w : xW G A s (xW0 cy sv a) H locs) (hl : lv_has ls 7 [(4, .int 0), (3, .ref (a 39)), (2, .ref (a 31)), (1, .ref (a 0)), (0, .ref b)]) (hk : ((xs 0) &&& 63) = 12) : W p l e room_1 s m #[Value.ref b] below meth c H locs 40 1536 (lw_Z below #[Value.ref b] s) (F0 m 27 ls []) := by
  exact law_12_20 C hr hX hbl hbA hAl w hl hk
theorem law_13 {p : Program} {e : Env} {s : State} {m : MethodId} {below : List Frame} {meth : Method} {c : Code} {l : Launch} {G : va_G} {cy : Nat → ClassId} {sa : String → Nat → Nat} {sv : Nat → Nat} {A : Nat → Prop} {b : Nat} {xs : Nat → Int32} {a : Nat → Nat} {H : Heap} {locs : List Loc} {ls : Array Slot} (C : xC p l s m #[Value.ref b] meth c code 7 "TwinindexLaw" (Cond.initialized "TwinindexLaw" :: XG) G cy sa sv A) (hr : meth.sig.returnType = ret) (hX : va_X b 5 xs s s.heap) (hbl : b < s.heap.size) (hbA : ¬ A b) (hAl : ∀ q, A q → s.heap.size ≤ q) (w : xW G A s (xW0 cy sv a) H locs) (hl : lv_has ls 7 [(4, .int 0), (3, .ref (a 39)), (2, .ref (a 31)), (1, .ref (a 0)), (0, .ref b)]) (hk : ((xs 0) &&& 63) = 13) : W p l e room_1 s m #[Value.ref b] below meth c H locs 40 1536 (lw_Z below #[Value.ref b] s) (F0 m 27 ls []) := by
  by_cases g1 : (xs 1) = 0
  · exact law_13_21 C hr hX hbl hbA hAl w hl hk g1
  · exact law_13_22 C hr hX hbl hbA hAl w hl hk g1
theorem law_14 {p : Program} {e : Env} {s : State} {m : MethodId} {below : List Frame} {meth : Method} {c : Code} {l : Launch} {G : va_G} {cy : Nat → ClassId} {sa : String → Nat → Nat} {sv : Nat → Nat} {A : Nat → Prop} {b : Nat} {xs : Nat → Int32} {a : Nat → Nat} {H : Heap} {locs : List Loc} {ls : Array Slot} (C : xC p l s m #[Value.ref b] meth c code 7 "TwinindexLaw" (Cond.initialized "TwinindexLaw" :: XG) G cy sa sv A) (hr : meth.sig.returnType = ret) (hX : va_X b 5 xs s s.heap) (hbl : b < s.heap.size) (hbA : ¬ A b) (hAl : ∀ q, A q → s.heap.size ≤ q) (w : xW G A s (xW0 cy sv a) H locs) (hl : lv_has ls 7 [(4, .int 0), (3, .ref (a 39)), (2, .ref (a 31)), (1, .ref (a 0)), (0, .ref b)]) (hk : ((xs 0) &&& 63) = 14) : W p l e room_1 s m #[Value.ref b] below meth c H locs 40 1536 (lw_Z below #[Value.ref b] s) (F0 m 27 ls []) := by
  by_cases g1 : xs 2 = 0
  · exact law_14f0_23 C hr hX hbl hbA hAl w hl hk g1
  by_cases g2 : xs 2 = 1
  · exact law_14f1_24 C hr hX hbl hbA hAl w hl hk g2
  by_cases g3 : xs 2 = 2
  · exact law_14f2_25 C hr hX hbl hbA hAl w hl hk g3
  by_cases g4 : xs 2 = 3
  · exact law_14f3_26 C hr hX hbl hbA hAl w hl hk g4
  by_cases g5 : (xs 2) < 0
  · exact law_14b_27 C hr hX hbl hbA hAl w hl hk g5
  · by_cases g6 : (xs 2) ≤ 3
    · exfalso
      have t1 := mt (fa_eq _ _).mpr g1
      have t2 := mt (fa_eq _ _).mpr g2
      have t3 := mt (fa_eq _ _).mpr g3
      have t4 := mt (fa_eq _ _).mpr g4
      have t5 := mt (fa_lt _ _).mpr g5
      have t6 := (fa_le _ _).mp g6
      have u0 : (0 : Int32).toInt = 0 := by decide
      have u1 : (1 : Int32).toInt = 1 := by decide
      have u2 : (2 : Int32).toInt = 2 := by decide
      have u3 : (3 : Int32).toInt = 3 := by decide
      omega
    · exact law_14b_28 C hr hX hbl hbA hAl w hl hk g5 g6
theorem law_15 {p : Program} {e : Env} {s : State} {m : MethodId} {below : List Frame} {meth : Method} {c : Code} {l : Launch} {G : va_G} {cy : Nat → ClassId} {sa : String → Nat → Nat} {sv : Nat → Nat} {A : Nat → Prop} {b : Nat} {xs : Nat → Int32} {a : Nat → Nat} {H : Heap} {locs : List Loc} {ls : Array Slot} (C : xC p l s m #[Value.ref b] meth c code 7 "TwinindexLaw" (Cond.initialized "TwinindexLaw" :: XG) G cy sa sv A) (hr : meth.sig.returnType = ret) (hX : va_X b 5 xs s s.heap) (hbl : b < s.heap.size) (hbA : ¬ A b) (hAl : ∀ q, A q → s.heap.size ≤ q) (w : xW G A s (xW0 cy sv a) H locs) (hl : lv_has ls 7 [(4, .int 0), (3, .ref (a 39)), (2, .ref (a 31)), (1, .ref (a 0)), (0, .ref b)]) (hk : ((xs 0) &&& 63) = 15) : W p l e room_1 s m #[Value.ref b] below meth c H locs 40 1536 (lw_Z below #[Value.ref b] s) (F0 m 27 ls []) := by
  by_cases g1 : xs 2 = 0
  · exact law_15f0_29 C hr hX hbl hbA hAl w hl hk g1
  by_cases g2 : xs 2 = 1
  · exact law_15f1_30 C hr hX hbl hbA hAl w hl hk g2
  by_cases g3 : xs 2 = 2
  · exact law_15f2_31 C hr hX hbl hbA hAl w hl hk g3
  by_cases g4 : xs 2 = 3
  · exact law_15f3_32 C hr hX hbl hbA hAl w hl hk g4
  by_cases g5 : (xs 2) < 0
  · exact law_15b_33 C hr hX hbl hbA hAl w hl hk g5
  · by_cases g6 : (xs 2) ≤ 3
    · exfalso
      have t1 := mt (fa_eq _ _).mpr g1
      have t2 := mt (fa_eq _ _).mpr g2
      have t3 := mt (fa_eq _ _).mpr g3
      have t4 := mt (fa_eq _ _).mpr g4
      have t5 := mt (fa_lt _ _).mpr g5
      have t6 := (fa_le _ _).mp g6
      have u0 : (0 : Int32).toInt = 0 := by decide
      have u1 : (1 : Int32).toInt = 1 := by decide
      have u2 : (2 : Int32).toInt = 2 := by decide
      have u3 : (3 : Int32).toInt = 3 := by decide
      omega
    · exact law_15b_34 C hr hX hbl hbA hAl w hl hk g5 g6
theorem law_16 {p : Program} {e : Env} {s : State} {m : MethodId} {below : List Frame} {meth : Method} {c : Code} {l : Launch} {G : va_G} {cy : Nat → ClassId} {sa : String → Nat → Nat} {sv : Nat → Nat} {A : Nat → Prop} {b : Nat} {xs : Nat → Int32} {a : Nat → Nat} {H : Heap} {locs : List Loc} {ls : Array Slot} (C : xC p l s m #[Value.ref b] meth c code 7 "TwinindexLaw" (Cond.initialized "TwinindexLaw" :: XG) G cy sa sv A) (hr : meth.sig.returnType = ret) (hX : va_X b 5 xs s s.heap) (hbl : b < s.heap.size) (hbA : ¬ A b) (hAl : ∀ q, A q → s.heap.size ≤ q) (w : xW G A s (xW0 cy sv a) H locs) (hl : lv_has ls 7 [(4, .int 0), (3, .ref (a 39)), (2, .ref (a 31)), (1, .ref (a 0)), (0, .ref b)]) (hk : ((xs 0) &&& 63) = 16) : W p l e room_1 s m #[Value.ref b] below meth c H locs 40 1536 (lw_Z below #[Value.ref b] s) (F0 m 27 ls []) := by
  by_cases g1 : (xs 1) = 0
  · exact law_16_35 C hr hX hbl hbA hAl w hl hk g1
  · exact law_16_36 C hr hX hbl hbA hAl w hl hk g1
theorem law_17 {p : Program} {e : Env} {s : State} {m : MethodId} {below : List Frame} {meth : Method} {c : Code} {l : Launch} {G : va_G} {cy : Nat → ClassId} {sa : String → Nat → Nat} {sv : Nat → Nat} {A : Nat → Prop} {b : Nat} {xs : Nat → Int32} {a : Nat → Nat} {H : Heap} {locs : List Loc} {ls : Array Slot} (C : xC p l s m #[Value.ref b] meth c code 7 "TwinindexLaw" (Cond.initialized "TwinindexLaw" :: XG) G cy sa sv A) (hr : meth.sig.returnType = ret) (hX : va_X b 5 xs s s.heap) (hbl : b < s.heap.size) (hbA : ¬ A b) (hAl : ∀ q, A q → s.heap.size ≤ q) (w : xW G A s (xW0 cy sv a) H locs) (hl : lv_has ls 7 [(4, .int 0), (3, .ref (a 39)), (2, .ref (a 31)), (1, .ref (a 0)), (0, .ref b)]) (hk : ((xs 0) &&& 63) = 17) : W p l e room_1 s m #[Value.ref b] below meth c H locs 40 1536 (lw_Z below #[Value.ref b] s) (F0 m 27 ls []) := by
  by_cases g1 : (xs 1) = 0
  · exact law_17_37 C hr hX hbl hbA hAl w hl hk g1
  · exact law_17_38 C hr hX hbl hbA hAl w hl hk g1
theorem law_18 {p : Program} {e : Env} {s : State} {m : MethodId} {below : List Frame} {meth : Method} {c : Code} {l : Launch} {G : va_G} {cy : Nat → ClassId} {sa : String → Nat → Nat} {sv : Nat → Nat} {A : Nat → Prop} {b : Nat} {xs : Nat → Int32} {a : Nat → Nat} {H : Heap} {locs : List Loc} {ls : Array Slot} (C : xC p l s m #[Value.ref b] meth c code 7 "TwinindexLaw" (Cond.initialized "TwinindexLaw" :: XG) G cy sa sv A) (hr : meth.sig.returnType = ret) (hX : va_X b 5 xs s s.heap) (hbl : b < s.heap.size) (hbA : ¬ A b) (hAl : ∀ q, A q → s.heap.size ≤ q) (w : xW G A s (xW0 cy sv a) H locs) (hl : lv_has ls 7 [(4, .int 0), (3, .ref (a 39)), (2, .ref (a 31)), (1, .ref (a 0)), (0, .ref b)]) (hk : ((xs 0) &&& 63) = 18) : W p l e room_1 s m #[Value.ref b] below meth c H locs 40 1536 (lw_Z below #[Value.ref b] s) (F0 m 27 ls []) := by
  exact law_18_39 C hr hX hbl hbA hAl w hl hk
theorem law_19 {p : Program} {e : Env} {s : State} {m : MethodId} {below : List Frame} {meth : Method} {c : Code} {l : Launch} {G : va_G} {cy : Nat → ClassId} {sa : String → Nat → Nat} {sv : Nat → Nat} {A : Nat → Prop} {b : Nat} {xs : Nat → Int32} {a : Nat → Nat} {H : Heap} {locs : List Loc} {ls : Array Slot} (C : xC p l s m #[Value.ref b] meth c code 7 "TwinindexLaw" (Cond.initialized "TwinindexLaw" :: XG) G cy sa sv A) (hr : meth.sig.returnType = ret) (hX : va_X b 5 xs s s.heap) (hbl : b < s.heap.size) (hbA : ¬ A b) (hAl : ∀ q, A q → s.heap.size ≤ q) (w : xW G A s (xW0 cy sv a) H locs) (hl : lv_has ls 7 [(4, .int 0), (3, .ref (a 39)), (2, .ref (a 31)), (1, .ref (a 0)), (0, .ref b)]) (hk : ((xs 0) &&& 63) = 19) : W p l e room_1 s m #[Value.ref b] below meth c H locs 40 1536 (lw_Z below #[Value.ref b] s) (F0 m 27 ls []) := by
  exact law_19_40 C hr hX hbl hbA hAl w hl hk
theorem law_20 {p : Program} {e : Env} {s : State} {m : MethodId} {below : List Frame} {meth : Method} {c : Code} {l : Launch} {G : va_G} {cy : Nat → ClassId} {sa : String → Nat → Nat} {sv : Nat → Nat} {A : Nat → Prop} {b : Nat} {xs : Nat → Int32} {a : Nat → Nat} {H : Heap} {locs : List Loc} {ls : Array Slot} (C : xC p l s m #[Value.ref b] meth c code 7 "TwinindexLaw" (Cond.initialized "TwinindexLaw" :: XG) G cy sa sv A) (hr : meth.sig.returnType = ret) (hX : va_X b 5 xs s s.heap) (hbl : b < s.heap.size) (hbA : ¬ A b) (hAl : ∀ q, A q → s.heap.size ≤ q) (w : xW G A s (xW0 cy sv a) H locs) (hl : lv_has ls 7 [(4, .int 0), (3, .ref (a 39)), (2, .ref (a 31)), (1, .ref (a 0)), (0, .ref b)]) (hk : ((xs 0) &&& 63) = 20) : W p l e room_1 s m #[Value.ref b] below meth c H locs 40 1536 (lw_Z below #[Value.ref b] s) (F0 m 27 ls []) := by
  exact law_20_41 C hr hX hbl hbA hAl w hl hk
theorem law_21 {p : Program} {e : Env} {s : State} {m : MethodId} {below : List Frame} {meth : Method} {c : Code} {l : Launch} {G : va_G} {cy : Nat → ClassId} {sa : String → Nat → Nat} {sv : Nat → Nat} {A : Nat → Prop} {b : Nat} {xs : Nat → Int32} {a : Nat → Nat} {H : Heap} {locs : List Loc} {ls : Array Slot} (C : xC p l s m #[Value.ref b] meth c code 7 "TwinindexLaw" (Cond.initialized "TwinindexLaw" :: XG) G cy sa sv A) (hr : meth.sig.returnType = ret) (hX : va_X b 5 xs s s.heap) (hbl : b < s.heap.size) (hbA : ¬ A b) (hAl : ∀ q, A q → s.heap.size ≤ q) (w : xW G A s (xW0 cy sv a) H locs) (hl : lv_has ls 7 [(4, .int 0), (3, .ref (a 39)), (2, .ref (a 31)), (1, .ref (a 0)), (0, .ref b)]) (hk : ((xs 0) &&& 63) = 21) : W p l e room_1 s m #[Value.ref b] below meth c H locs 40 1536 (lw_Z below #[Value.ref b] s) (F0 m 27 ls []) := by
  by_cases g1 : (xs 1) ≤ (xs 2)
  · exact law_21_42 C hr hX hbl hbA hAl w hl hk g1
  · exact law_21_43 C hr hX hbl hbA hAl w hl hk g1
theorem law_22 {p : Program} {e : Env} {s : State} {m : MethodId} {below : List Frame} {meth : Method} {c : Code} {l : Launch} {G : va_G} {cy : Nat → ClassId} {sa : String → Nat → Nat} {sv : Nat → Nat} {A : Nat → Prop} {b : Nat} {xs : Nat → Int32} {a : Nat → Nat} {H : Heap} {locs : List Loc} {ls : Array Slot} (C : xC p l s m #[Value.ref b] meth c code 7 "TwinindexLaw" (Cond.initialized "TwinindexLaw" :: XG) G cy sa sv A) (hr : meth.sig.returnType = ret) (hX : va_X b 5 xs s s.heap) (hbl : b < s.heap.size) (hbA : ¬ A b) (hAl : ∀ q, A q → s.heap.size ≤ q) (w : xW G A s (xW0 cy sv a) H locs) (hl : lv_has ls 7 [(4, .int 0), (3, .ref (a 39)), (2, .ref (a 31)), (1, .ref (a 0)), (0, .ref b)]) (hk : ((xs 0) &&& 63) = 22) : W p l e room_1 s m #[Value.ref b] below meth c H locs 40 1536 (lw_Z below #[Value.ref b] s) (F0 m 27 ls []) := by
  by_cases g1 : (xs 3) = 0
  · by_cases g2 : (xs 1) ≤ (xs 2)
    · exact law_22_44 C hr hX hbl hbA hAl w hl hk g1 g2
    · exact law_22_45 C hr hX hbl hbA hAl w hl hk g1 g2
  · by_cases g3 : (xs 1) ≤ (xs 2)
    · exact law_22_46 C hr hX hbl hbA hAl w hl hk g1 g3
    · exact law_22_47 C hr hX hbl hbA hAl w hl hk g1 g3
theorem law_23 {p : Program} {e : Env} {s : State} {m : MethodId} {below : List Frame} {meth : Method} {c : Code} {l : Launch} {G : va_G} {cy : Nat → ClassId} {sa : String → Nat → Nat} {sv : Nat → Nat} {A : Nat → Prop} {b : Nat} {xs : Nat → Int32} {a : Nat → Nat} {H : Heap} {locs : List Loc} {ls : Array Slot} (C : xC p l s m #[Value.ref b] meth c code 7 "TwinindexLaw" (Cond.initialized "TwinindexLaw" :: XG) G cy sa sv A) (hr : meth.sig.returnType = ret) (hX : va_X b 5 xs s s.heap) (hbl : b < s.heap.size) (hbA : ¬ A b) (hAl : ∀ q, A q → s.heap.size ≤ q) (w : xW G A s (xW0 cy sv a) H locs) (hl : lv_has ls 7 [(4, .int 0), (3, .ref (a 39)), (2, .ref (a 31)), (1, .ref (a 0)), (0, .ref b)]) (hk : ((xs 0) &&& 63) = 23) : W p l e room_1 s m #[Value.ref b] below meth c H locs 40 1536 (lw_Z below #[Value.ref b] s) (F0 m 27 ls []) := by
  by_cases g1 : xs 4 = 0
  · by_cases g2 : (xs 1) ≤ (xs 2)
    · by_cases g3 : (xs 2) < (xs 1)
      · exfalso
        have t1 := (fa_le _ _).mp g2
        have t2 := (fa_lt _ _).mp g3
        omega
      · exact law_23f0_48 C hr hX hbl hbA hAl w hl hk g1 g2 g3
    · by_cases g4 : (xs 2) < (xs 1)
      · exact law_23f0_49 C hr hX hbl hbA hAl w hl hk g1 g2 g4
      · exfalso
        have t1 := mt (fa_le _ _).mpr g2
        have t2 := mt (fa_lt _ _).mpr g4
        omega
  by_cases g5 : xs 4 = 1
  · by_cases g6 : (xs 1) ≤ (xs 2)
    · by_cases g7 : (xs 2) < (xs 1)
      · exfalso
        have t1 := mt (fa_eq _ _).mpr g1
        have t2 := (fa_le _ _).mp g6
        have t3 := (fa_lt _ _).mp g7
        have u0 : (0 : Int32).toInt = 0 := by decide
        omega
      · exact law_23f1_50 C hr hX hbl hbA hAl w hl hk g5 g6 g7
    · by_cases g8 : (xs 2) < (xs 1)
      · exact law_23f1_51 C hr hX hbl hbA hAl w hl hk g5 g6 g8
      · exfalso
        have t1 := mt (fa_eq _ _).mpr g1
        have t2 := mt (fa_le _ _).mpr g6
        have t3 := mt (fa_lt _ _).mpr g8
        have u0 : (0 : Int32).toInt = 0 := by decide
        omega
  by_cases g9 : xs 4 = 2
  · by_cases g10 : (xs 1) ≤ (xs 2)
    · by_cases g11 : (xs 2) < (xs 1)
      · exfalso
        have t1 := mt (fa_eq _ _).mpr g1
        have t2 := mt (fa_eq _ _).mpr g5
        have t3 := (fa_le _ _).mp g10
        have t4 := (fa_lt _ _).mp g11
        have u0 : (0 : Int32).toInt = 0 := by decide
        have u1 : (1 : Int32).toInt = 1 := by decide
        omega
      · exact law_23f2_52 C hr hX hbl hbA hAl w hl hk g9 g10 g11
    · by_cases g12 : (xs 2) < (xs 1)
      · exact law_23f2_53 C hr hX hbl hbA hAl w hl hk g9 g10 g12
      · exfalso
        have t1 := mt (fa_eq _ _).mpr g1
        have t2 := mt (fa_eq _ _).mpr g5
        have t3 := mt (fa_le _ _).mpr g10
        have t4 := mt (fa_lt _ _).mpr g12
        have u0 : (0 : Int32).toInt = 0 := by decide
        have u1 : (1 : Int32).toInt = 1 := by decide
        omega
  by_cases g13 : xs 4 = 3
  · by_cases g14 : (xs 1) ≤ (xs 2)
    · by_cases g15 : (xs 2) < (xs 1)
      · exfalso
        have t1 := mt (fa_eq _ _).mpr g1
        have t2 := mt (fa_eq _ _).mpr g5
        have t3 := mt (fa_eq _ _).mpr g9
        have t4 := (fa_le _ _).mp g14
        have t5 := (fa_lt _ _).mp g15
        have u0 : (0 : Int32).toInt = 0 := by decide
        have u1 : (1 : Int32).toInt = 1 := by decide
        have u2 : (2 : Int32).toInt = 2 := by decide
        omega
      · exact law_23f3_54 C hr hX hbl hbA hAl w hl hk g13 g14 g15
    · by_cases g16 : (xs 2) < (xs 1)
      · exact law_23f3_55 C hr hX hbl hbA hAl w hl hk g13 g14 g16
      · exfalso
        have t1 := mt (fa_eq _ _).mpr g1
        have t2 := mt (fa_eq _ _).mpr g5
        have t3 := mt (fa_eq _ _).mpr g9
        have t4 := mt (fa_le _ _).mpr g14
        have t5 := mt (fa_lt _ _).mpr g16
        have u0 : (0 : Int32).toInt = 0 := by decide
        have u1 : (1 : Int32).toInt = 1 := by decide
        have u2 : (2 : Int32).toInt = 2 := by decide
        omega
  by_cases g17 : (xs 1) ≤ (xs 2)
  · by_cases g18 : (xs 4) < 0
    · by_cases g19 : (xs 2) < (xs 1)
      · exfalso
        have t1 := mt (fa_eq _ _).mpr g1
        have t2 := mt (fa_eq _ _).mpr g5
        have t3 := mt (fa_eq _ _).mpr g9
        have t4 := mt (fa_eq _ _).mpr g13
        have t5 := (fa_le _ _).mp g17
        have t6 := (fa_lt _ _).mp g18
        have t7 := (fa_lt _ _).mp g19
        have u0 : (0 : Int32).toInt = 0 := by decide
        have u1 : (1 : Int32).toInt = 1 := by decide
        have u2 : (2 : Int32).toInt = 2 := by decide
        have u3 : (3 : Int32).toInt = 3 := by decide
        omega
      · exact law_23b_56 C hr hX hbl hbA hAl w hl hk g17 g18 g19
    · by_cases g20 : (xs 4) ≤ 3
      · exfalso
        have t1 := mt (fa_eq _ _).mpr g1
        have t2 := mt (fa_eq _ _).mpr g5
        have t3 := mt (fa_eq _ _).mpr g9
        have t4 := mt (fa_eq _ _).mpr g13
        have t5 := (fa_le _ _).mp g17
        have t6 := mt (fa_lt _ _).mpr g18
        have t7 := (fa_le _ _).mp g20
        have u0 : (0 : Int32).toInt = 0 := by decide
        have u1 : (1 : Int32).toInt = 1 := by decide
        have u2 : (2 : Int32).toInt = 2 := by decide
        have u3 : (3 : Int32).toInt = 3 := by decide
        omega
      · by_cases g21 : (xs 2) < (xs 1)
        · exfalso
          have t1 := mt (fa_eq _ _).mpr g1
          have t2 := mt (fa_eq _ _).mpr g5
          have t3 := mt (fa_eq _ _).mpr g9
          have t4 := mt (fa_eq _ _).mpr g13
          have t5 := (fa_le _ _).mp g17
          have t6 := mt (fa_lt _ _).mpr g18
          have t7 := mt (fa_le _ _).mpr g20
          have t8 := (fa_lt _ _).mp g21
          have u0 : (0 : Int32).toInt = 0 := by decide
          have u1 : (1 : Int32).toInt = 1 := by decide
          have u2 : (2 : Int32).toInt = 2 := by decide
          have u3 : (3 : Int32).toInt = 3 := by decide
          omega
        · exact law_23b_57 C hr hX hbl hbA hAl w hl hk g17 g18 g20 g21
  · by_cases g22 : (xs 2) < (xs 1)
    · exact law_23b_58 C hr hX hbl hbA hAl w hl hk g17 g22
    · exfalso
      have t1 := mt (fa_eq _ _).mpr g1
      have t2 := mt (fa_eq _ _).mpr g5
      have t3 := mt (fa_eq _ _).mpr g9
      have t4 := mt (fa_eq _ _).mpr g13
      have t5 := mt (fa_le _ _).mpr g17
      have t6 := mt (fa_lt _ _).mpr g22
      have u0 : (0 : Int32).toInt = 0 := by decide
      have u1 : (1 : Int32).toInt = 1 := by decide
      have u2 : (2 : Int32).toInt = 2 := by decide
      have u3 : (3 : Int32).toInt = 3 := by decide
      omega
theorem law_24 {p : Program} {e : Env} {s : State} {m : MethodId} {below : List Frame} {meth : Method} {c : Code} {l : Launch} {G : va_G} {cy : Nat → ClassId} {sa : String → Nat → Nat} {sv : Nat → Nat} {A : Nat → Prop} {b : Nat} {xs : Nat → Int32} {a : Nat → Nat} {H : Heap} {locs : List Loc} {ls : Array Slot} (C : xC p l s m #[Value.ref b] meth c code 7 "TwinindexLaw" (Cond.initialized "TwinindexLaw" :: XG) G cy sa sv A) (hr : meth.sig.returnType = ret) (hX : va_X b 5 xs s s.heap) (hbl : b < s.heap.size) (hbA : ¬ A b) (hAl : ∀ q, A q → s.heap.size ≤ q) (w : xW G A s (xW0 cy sv a) H locs) (hl : lv_has ls 7 [(4, .int 0), (3, .ref (a 39)), (2, .ref (a 31)), (1, .ref (a 0)), (0, .ref b)]) (hk : ((xs 0) &&& 63) = 24) : W p l e room_1 s m #[Value.ref b] below meth c H locs 40 1536 (lw_Z below #[Value.ref b] s) (F0 m 27 ls []) := by
  by_cases g1 : (xs 4) < (-999)
  · exact law_24_59 C hr hX hbl hbA hAl w hl hk g1
  · by_cases g2 : (xs 4) ≤ 999
    · by_cases g3 : (xs 3) < (xs 1)
      · exact law_24_60 C hr hX hbl hbA hAl w hl hk g1 g2 g3
      · by_cases g4 : (xs 2) < (xs 3)
        · by_cases g5 : (xs 3) ≤ (xs 2)
          · exfalso
            have t1 := mt (fa_lt _ _).mpr g1
            have t2 := (fa_le _ _).mp g2
            have t3 := mt (fa_lt _ _).mpr g3
            have t4 := (fa_lt _ _).mp g4
            have t5 := (fa_le _ _).mp g5
            have u0 : ((-999) : Int32).toInt = (-999) := by decide
            have u1 : (999 : Int32).toInt = 999 := by decide
            omega
          · exact law_24_61 C hr hX hbl hbA hAl w hl hk g1 g2 g3 g4 g5
        · by_cases g6 : (-1000) = (xs 4)
          · exfalso
            have t1 := mt (fa_lt _ _).mpr g1
            have t2 := (fa_le _ _).mp g2
            have t3 := mt (fa_lt _ _).mpr g3
            have t4 := mt (fa_lt _ _).mpr g4
            have t5 := (fa_eq _ _).mp g6
            have u0 : ((-1000) : Int32).toInt = (-1000) := by decide
            have u1 : ((-999) : Int32).toInt = (-999) := by decide
            have u2 : (999 : Int32).toInt = 999 := by decide
            omega
          · by_cases g7 : (xs 3) ≤ (xs 2)
            · exact law_24_62 C hr hX hbl hbA hAl w hl hk g1 g2 g3 g4 g6 g7
            · exfalso
              have t1 := mt (fa_lt _ _).mpr g1
              have t2 := (fa_le _ _).mp g2
              have t3 := mt (fa_lt _ _).mpr g3
              have t4 := mt (fa_lt _ _).mpr g4
              have t5 := mt (fa_eq _ _).mpr g6
              have t6 := mt (fa_le _ _).mpr g7
              have u0 : ((-1000) : Int32).toInt = (-1000) := by decide
              have u1 : ((-999) : Int32).toInt = (-999) := by decide
              have u2 : (999 : Int32).toInt = 999 := by decide
              omega
    · exact law_24_63 C hr hX hbl hbA hAl w hl hk g1 g2
theorem law_25 {p : Program} {e : Env} {s : State} {m : MethodId} {below : List Frame} {meth : Method} {c : Code} {l : Launch} {G : va_G} {cy : Nat → ClassId} {sa : String → Nat → Nat} {sv : Nat → Nat} {A : Nat → Prop} {b : Nat} {xs : Nat → Int32} {a : Nat → Nat} {H : Heap} {locs : List Loc} {ls : Array Slot} (C : xC p l s m #[Value.ref b] meth c code 7 "TwinindexLaw" (Cond.initialized "TwinindexLaw" :: XG) G cy sa sv A) (hr : meth.sig.returnType = ret) (hX : va_X b 5 xs s s.heap) (hbl : b < s.heap.size) (hbA : ¬ A b) (hAl : ∀ q, A q → s.heap.size ≤ q) (w : xW G A s (xW0 cy sv a) H locs) (hl : lv_has ls 7 [(4, .int 0), (3, .ref (a 39)), (2, .ref (a 31)), (1, .ref (a 0)), (0, .ref b)]) (hk : ((xs 0) &&& 63) = 25) : W p l e room_1 s m #[Value.ref b] below meth c H locs 40 1536 (lw_Z below #[Value.ref b] s) (F0 m 27 ls []) := by
  by_cases g1 : (xs 3) = 0
  · by_cases g2 : (xs 1) ≤ (xs 2)
    · exact law_25_64 C hr hX hbl hbA hAl w hl hk g1 g2
    · exact law_25_65 C hr hX hbl hbA hAl w hl hk g1 g2
  · by_cases g3 : (xs 1) ≤ (xs 2)
    · exact law_25_66 C hr hX hbl hbA hAl w hl hk g1 g3
    · exact law_25_67 C hr hX hbl hbA hAl w hl hk g1 g3
theorem law_26 {p : Program} {e : Env} {s : State} {m : MethodId} {below : List Frame} {meth : Method} {c : Code} {l : Launch} {G : va_G} {cy : Nat → ClassId} {sa : String → Nat → Nat} {sv : Nat → Nat} {A : Nat → Prop} {b : Nat} {xs : Nat → Int32} {a : Nat → Nat} {H : Heap} {locs : List Loc} {ls : Array Slot} (C : xC p l s m #[Value.ref b] meth c code 7 "TwinindexLaw" (Cond.initialized "TwinindexLaw" :: XG) G cy sa sv A) (hr : meth.sig.returnType = ret) (hX : va_X b 5 xs s s.heap) (hbl : b < s.heap.size) (hbA : ¬ A b) (hAl : ∀ q, A q → s.heap.size ≤ q) (w : xW G A s (xW0 cy sv a) H locs) (hl : lv_has ls 7 [(4, .int 0), (3, .ref (a 39)), (2, .ref (a 31)), (1, .ref (a 0)), (0, .ref b)]) (hk : ((xs 0) &&& 63) = 26) : W p l e room_1 s m #[Value.ref b] below meth c H locs 40 1536 (lw_Z below #[Value.ref b] s) (F0 m 27 ls []) := by
  by_cases g1 : (xs 1) ≤ (xs 2)
  · exact law_26_68 C hr hX hbl hbA hAl w hl hk g1
  · exact law_26_69 C hr hX hbl hbA hAl w hl hk g1
theorem law_27 {p : Program} {e : Env} {s : State} {m : MethodId} {below : List Frame} {meth : Method} {c : Code} {l : Launch} {G : va_G} {cy : Nat → ClassId} {sa : String → Nat → Nat} {sv : Nat → Nat} {A : Nat → Prop} {b : Nat} {xs : Nat → Int32} {a : Nat → Nat} {H : Heap} {locs : List Loc} {ls : Array Slot} (C : xC p l s m #[Value.ref b] meth c code 7 "TwinindexLaw" (Cond.initialized "TwinindexLaw" :: XG) G cy sa sv A) (hr : meth.sig.returnType = ret) (hX : va_X b 5 xs s s.heap) (hbl : b < s.heap.size) (hbA : ¬ A b) (hAl : ∀ q, A q → s.heap.size ≤ q) (w : xW G A s (xW0 cy sv a) H locs) (hl : lv_has ls 7 [(4, .int 0), (3, .ref (a 39)), (2, .ref (a 31)), (1, .ref (a 0)), (0, .ref b)]) (hk : ((xs 0) &&& 63) = 27) : W p l e room_1 s m #[Value.ref b] below meth c H locs 40 1536 (lw_Z below #[Value.ref b] s) (F0 m 27 ls []) := by
  by_cases g1 : (xs 1) ≤ (xs 2)
  · exact law_27_70 C hr hX hbl hbA hAl w hl hk g1
  · exact law_27_71 C hr hX hbl hbA hAl w hl hk g1
theorem law_28 {p : Program} {e : Env} {s : State} {m : MethodId} {below : List Frame} {meth : Method} {c : Code} {l : Launch} {G : va_G} {cy : Nat → ClassId} {sa : String → Nat → Nat} {sv : Nat → Nat} {A : Nat → Prop} {b : Nat} {xs : Nat → Int32} {a : Nat → Nat} {H : Heap} {locs : List Loc} {ls : Array Slot} (C : xC p l s m #[Value.ref b] meth c code 7 "TwinindexLaw" (Cond.initialized "TwinindexLaw" :: XG) G cy sa sv A) (hr : meth.sig.returnType = ret) (hX : va_X b 5 xs s s.heap) (hbl : b < s.heap.size) (hbA : ¬ A b) (hAl : ∀ q, A q → s.heap.size ≤ q) (w : xW G A s (xW0 cy sv a) H locs) (hl : lv_has ls 7 [(4, .int 0), (3, .ref (a 39)), (2, .ref (a 31)), (1, .ref (a 0)), (0, .ref b)]) (hk : ((xs 0) &&& 63) = 28) : W p l e room_1 s m #[Value.ref b] below meth c H locs 40 1536 (lw_Z below #[Value.ref b] s) (F0 m 27 ls []) := by
  by_cases g1 : (xs 1) ≤ (xs 2)
  · exact law_28_72 C hr hX hbl hbA hAl w hl hk g1
  · exact law_28_73 C hr hX hbl hbA hAl w hl hk g1
theorem law_29 {p : Program} {e : Env} {s : State} {m : MethodId} {below : List Frame} {meth : Method} {c : Code} {l : Launch} {G : va_G} {cy : Nat → ClassId} {sa : String → Nat → Nat} {sv : Nat → Nat} {A : Nat → Prop} {b : Nat} {xs : Nat → Int32} {a : Nat → Nat} {H : Heap} {locs : List Loc} {ls : Array Slot} (C : xC p l s m #[Value.ref b] meth c code 7 "TwinindexLaw" (Cond.initialized "TwinindexLaw" :: XG) G cy sa sv A) (hr : meth.sig.returnType = ret) (hX : va_X b 5 xs s s.heap) (hbl : b < s.heap.size) (hbA : ¬ A b) (hAl : ∀ q, A q → s.heap.size ≤ q) (w : xW G A s (xW0 cy sv a) H locs) (hl : lv_has ls 7 [(4, .int 0), (3, .ref (a 39)), (2, .ref (a 31)), (1, .ref (a 0)), (0, .ref b)]) (hk : ((xs 0) &&& 63) = 29) : W p l e room_1 s m #[Value.ref b] below meth c H locs 40 1536 (lw_Z below #[Value.ref b] s) (F0 m 27 ls []) := by
  by_cases g1 : (xs 1) ≤ (xs 2)
  · exact law_29_74 C hr hX hbl hbA hAl w hl hk g1
  · exact law_29_75 C hr hX hbl hbA hAl w hl hk g1
theorem law_30 {p : Program} {e : Env} {s : State} {m : MethodId} {below : List Frame} {meth : Method} {c : Code} {l : Launch} {G : va_G} {cy : Nat → ClassId} {sa : String → Nat → Nat} {sv : Nat → Nat} {A : Nat → Prop} {b : Nat} {xs : Nat → Int32} {a : Nat → Nat} {H : Heap} {locs : List Loc} {ls : Array Slot} (C : xC p l s m #[Value.ref b] meth c code 7 "TwinindexLaw" (Cond.initialized "TwinindexLaw" :: XG) G cy sa sv A) (hr : meth.sig.returnType = ret) (hX : va_X b 5 xs s s.heap) (hbl : b < s.heap.size) (hbA : ¬ A b) (hAl : ∀ q, A q → s.heap.size ≤ q) (w : xW G A s (xW0 cy sv a) H locs) (hl : lv_has ls 7 [(4, .int 0), (3, .ref (a 39)), (2, .ref (a 31)), (1, .ref (a 0)), (0, .ref b)]) (hk : ((xs 0) &&& 63) = 30) : W p l e room_1 s m #[Value.ref b] below meth c H locs 40 1536 (lw_Z below #[Value.ref b] s) (F0 m 27 ls []) := by
  by_cases g1 : (xs 3) = 0
  · by_cases g2 : (xs 1) ≤ (xs 2)
    · exact law_30_76 C hr hX hbl hbA hAl w hl hk g1 g2
    · exact law_30_77 C hr hX hbl hbA hAl w hl hk g1 g2
  · by_cases g3 : (xs 1) ≤ (xs 2)
    · exact law_30_78 C hr hX hbl hbA hAl w hl hk g1 g3
    · exact law_30_79 C hr hX hbl hbA hAl w hl hk g1 g3
theorem law_31 {p : Program} {e : Env} {s : State} {m : MethodId} {below : List Frame} {meth : Method} {c : Code} {l : Launch} {G : va_G} {cy : Nat → ClassId} {sa : String → Nat → Nat} {sv : Nat → Nat} {A : Nat → Prop} {b : Nat} {xs : Nat → Int32} {a : Nat → Nat} {H : Heap} {locs : List Loc} {ls : Array Slot} (C : xC p l s m #[Value.ref b] meth c code 7 "TwinindexLaw" (Cond.initialized "TwinindexLaw" :: XG) G cy sa sv A) (hr : meth.sig.returnType = ret) (hX : va_X b 5 xs s s.heap) (hbl : b < s.heap.size) (hbA : ¬ A b) (hAl : ∀ q, A q → s.heap.size ≤ q) (w : xW G A s (xW0 cy sv a) H locs) (hl : lv_has ls 7 [(4, .int 0), (3, .ref (a 39)), (2, .ref (a 31)), (1, .ref (a 0)), (0, .ref b)]) (hk : ((xs 0) &&& 63) = 31) : W p l e room_1 s m #[Value.ref b] below meth c H locs 40 1536 (lw_Z below #[Value.ref b] s) (F0 m 27 ls []) := by
  by_cases g1 : (xs 1) = 0
  · exact law_31_80 C hr hX hbl hbA hAl w hl hk g1
  · exact law_31_81 C hr hX hbl hbA hAl w hl hk g1
