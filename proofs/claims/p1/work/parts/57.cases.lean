theorem law_32 {p : Program} {e : Env} {s : State} {m : MethodId} {below : List Frame} {meth : Method} {c : Code} {l : Launch} {G : va_G} {cy : Nat → ClassId} {sa : String → Nat → Nat} {sv : Nat → Nat} {A : Nat → Prop} {b : Nat} {xs : Nat → Int32} {a : Nat → Nat} {H : Heap} {locs : List Loc} {ls : Array Slot} (C : xC p l s m #[Value.ref b] meth c code 7 "TwinindexLaw" (Cond.initialized "TwinindexLaw" :: XG) G cy sa sv A) (hr : meth.sig.returnType = ret) (hX : va_X b 5 xs s s.heap) (hbl : b < s.heap.size) (hbA : ¬ A b) (hAl : ∀ q, A q → s.heap.size ≤ q) (w : xW G A s (xW0 cy sv a) H locs) (hl : lv_has ls 7 [(4, .int 0), (3, .ref (a 39)), (2, .ref (a 31)), (1, .ref (a 0)), (0, .ref b)]) (hk : ((xs 0) &&& 63) = 32) : W p l e room_1 s m #[Value.ref b] below meth c H locs 40 1536 (lw_Z below #[Value.ref b] s) (F0 m 27 ls []) := by
  exact law_32_82 C hr hX hbl hbA hAl w hl hk
theorem law_33 {p : Program} {e : Env} {s : State} {m : MethodId} {below : List Frame} {meth : Method} {c : Code} {l : Launch} {G : va_G} {cy : Nat → ClassId} {sa : String → Nat → Nat} {sv : Nat → Nat} {A : Nat → Prop} {b : Nat} {xs : Nat → Int32} {a : Nat → Nat} {H : Heap} {locs : List Loc} {ls : Array Slot} (C : xC p l s m #[Value.ref b] meth c code 7 "TwinindexLaw" (Cond.initialized "TwinindexLaw" :: XG) G cy sa sv A) (hr : meth.sig.returnType = ret) (hX : va_X b 5 xs s s.heap) (hbl : b < s.heap.size) (hbA : ¬ A b) (hAl : ∀ q, A q → s.heap.size ≤ q) (w : xW G A s (xW0 cy sv a) H locs) (hl : lv_has ls 7 [(4, .int 0), (3, .ref (a 39)), (2, .ref (a 31)), (1, .ref (a 0)), (0, .ref b)]) (hk : ((xs 0) &&& 63) = 33) : W p l e room_1 s m #[Value.ref b] below meth c H locs 40 1536 (lw_Z below #[Value.ref b] s) (F0 m 27 ls []) := by
  exact law_33_83 C hr hX hbl hbA hAl w hl hk
theorem law_34 {p : Program} {e : Env} {s : State} {m : MethodId} {below : List Frame} {meth : Method} {c : Code} {l : Launch} {G : va_G} {cy : Nat → ClassId} {sa : String → Nat → Nat} {sv : Nat → Nat} {A : Nat → Prop} {b : Nat} {xs : Nat → Int32} {a : Nat → Nat} {H : Heap} {locs : List Loc} {ls : Array Slot} (C : xC p l s m #[Value.ref b] meth c code 7 "TwinindexLaw" (Cond.initialized "TwinindexLaw" :: XG) G cy sa sv A) (hr : meth.sig.returnType = ret) (hX : va_X b 5 xs s s.heap) (hbl : b < s.heap.size) (hbA : ¬ A b) (hAl : ∀ q, A q → s.heap.size ≤ q) (w : xW G A s (xW0 cy sv a) H locs) (hl : lv_has ls 7 [(4, .int 0), (3, .ref (a 39)), (2, .ref (a 31)), (1, .ref (a 0)), (0, .ref b)]) (hk : ((xs 0) &&& 63) = 34) : W p l e room_1 s m #[Value.ref b] below meth c H locs 40 1536 (lw_Z below #[Value.ref b] s) (F0 m 27 ls []) := by
  by_cases g1 : 0 ≤ (xs 1)
  · by_cases g2 : (0 - (xs 1)) ≤ 0
    · exact law_34_84 C hr hX hbl hbA hAl w hl hk g1 g2
    · exfalso
      have t1 := (fa_le _ _).mp g1
      have t2 := mt (fa_le _ _).mpr g2
      have u0 : (0 : Int32).toInt = 0 := by decide
      have v1 := xsub0 (xs 1)
      omega
  · exact law_34_85 C hr hX hbl hbA hAl w hl hk g1
theorem law_35 {p : Program} {e : Env} {s : State} {m : MethodId} {below : List Frame} {meth : Method} {c : Code} {l : Launch} {G : va_G} {cy : Nat → ClassId} {sa : String → Nat → Nat} {sv : Nat → Nat} {A : Nat → Prop} {b : Nat} {xs : Nat → Int32} {a : Nat → Nat} {H : Heap} {locs : List Loc} {ls : Array Slot} (C : xC p l s m #[Value.ref b] meth c code 7 "TwinindexLaw" (Cond.initialized "TwinindexLaw" :: XG) G cy sa sv A) (hr : meth.sig.returnType = ret) (hX : va_X b 5 xs s s.heap) (hbl : b < s.heap.size) (hbA : ¬ A b) (hAl : ∀ q, A q → s.heap.size ≤ q) (w : xW G A s (xW0 cy sv a) H locs) (hl : lv_has ls 7 [(4, .int 0), (3, .ref (a 39)), (2, .ref (a 31)), (1, .ref (a 0)), (0, .ref b)]) (hk : ((xs 0) &&& 63) = 35) : W p l e room_1 s m #[Value.ref b] below meth c H locs 40 1536 (lw_Z below #[Value.ref b] s) (F0 m 27 ls []) := by
  exact law_35_86 C hr hX hbl hbA hAl w hl hk
theorem law_36 {p : Program} {e : Env} {s : State} {m : MethodId} {below : List Frame} {meth : Method} {c : Code} {l : Launch} {G : va_G} {cy : Nat → ClassId} {sa : String → Nat → Nat} {sv : Nat → Nat} {A : Nat → Prop} {b : Nat} {xs : Nat → Int32} {a : Nat → Nat} {H : Heap} {locs : List Loc} {ls : Array Slot} (C : xC p l s m #[Value.ref b] meth c code 7 "TwinindexLaw" (Cond.initialized "TwinindexLaw" :: XG) G cy sa sv A) (hr : meth.sig.returnType = ret) (hX : va_X b 5 xs s s.heap) (hbl : b < s.heap.size) (hbA : ¬ A b) (hAl : ∀ q, A q → s.heap.size ≤ q) (w : xW G A s (xW0 cy sv a) H locs) (hl : lv_has ls 7 [(4, .int 0), (3, .ref (a 39)), (2, .ref (a 31)), (1, .ref (a 0)), (0, .ref b)]) (hk : ((xs 0) &&& 63) = 36) : W p l e room_1 s m #[Value.ref b] below meth c H locs 40 1536 (lw_Z below #[Value.ref b] s) (F0 m 27 ls []) := by
  by_cases g1 : xs 1 = 0
  · exact law_36f0_87 C hr hX hbl hbA hAl w hl hk g1
  by_cases g2 : xs 1 = 1
  · exact law_36f1_88 C hr hX hbl hbA hAl w hl hk g2
  by_cases g3 : xs 1 = 2
  · exact law_36f2_89 C hr hX hbl hbA hAl w hl hk g3
  by_cases g4 : (xs 1) < 0
  · exact law_36b_90 C hr hX hbl hbA hAl w hl hk g4
  · by_cases g5 : (xs 1) < 3
    · exfalso
      have t1 := mt (fa_eq _ _).mpr g1
      have t2 := mt (fa_eq _ _).mpr g2
      have t3 := mt (fa_eq _ _).mpr g3
      have t4 := mt (fa_lt _ _).mpr g4
      have t5 := (fa_lt _ _).mp g5
      have u0 : (0 : Int32).toInt = 0 := by decide
      have u1 : (1 : Int32).toInt = 1 := by decide
      have u2 : (2 : Int32).toInt = 2 := by decide
      have u3 : (3 : Int32).toInt = 3 := by decide
      omega
    · exact law_36b_91 C hr hX hbl hbA hAl w hl hk g4 g5
theorem law_37 {p : Program} {e : Env} {s : State} {m : MethodId} {below : List Frame} {meth : Method} {c : Code} {l : Launch} {G : va_G} {cy : Nat → ClassId} {sa : String → Nat → Nat} {sv : Nat → Nat} {A : Nat → Prop} {b : Nat} {xs : Nat → Int32} {a : Nat → Nat} {H : Heap} {locs : List Loc} {ls : Array Slot} (C : xC p l s m #[Value.ref b] meth c code 7 "TwinindexLaw" (Cond.initialized "TwinindexLaw" :: XG) G cy sa sv A) (hr : meth.sig.returnType = ret) (hX : va_X b 5 xs s s.heap) (hbl : b < s.heap.size) (hbA : ¬ A b) (hAl : ∀ q, A q → s.heap.size ≤ q) (w : xW G A s (xW0 cy sv a) H locs) (hl : lv_has ls 7 [(4, .int 0), (3, .ref (a 39)), (2, .ref (a 31)), (1, .ref (a 0)), (0, .ref b)]) (hk : ((xs 0) &&& 63) = 37) : W p l e room_1 s m #[Value.ref b] below meth c H locs 40 1536 (lw_Z below #[Value.ref b] s) (F0 m 27 ls []) := by
  by_cases g1 : xs 1 = 0
  · by_cases g2 : (xs 2) < 1
    · exact law_37f0_92 C hr hX hbl hbA hAl w hl hk g1 g2
    · by_cases g3 : (xs 2) ≤ 24
      · by_cases g4 : 0 < (0 + (xs 2))
        · by_cases g5 : 0 < (xs 2)
          · exact law_37f0_93 C hr hX hbl hbA hAl w hl hk g1 g2 g3 g4 g5
          · exfalso
            have t1 := mt (fa_lt _ _).mpr g2
            have t2 := (fa_le _ _).mp g3
            have t3 := (fa_lt _ _).mp g4
            have t4 := mt (fa_lt _ _).mpr g5
            have u0 : (0 : Int32).toInt = 0 := by decide
            have u1 : (1 : Int32).toInt = 1 := by decide
            have u2 : (24 : Int32).toInt = 24 := by decide
            have v2 := xadd0 (xs 2)
            omega
        · exfalso
          have t1 := mt (fa_lt _ _).mpr g2
          have t2 := (fa_le _ _).mp g3
          have t3 := mt (fa_lt _ _).mpr g4
          have u0 : (0 : Int32).toInt = 0 := by decide
          have u1 : (1 : Int32).toInt = 1 := by decide
          have u2 : (24 : Int32).toInt = 24 := by decide
          have v2 := xadd0 (xs 2)
          omega
      · exact law_37f0_94 C hr hX hbl hbA hAl w hl hk g1 g2 g3
  by_cases g6 : xs 1 = 1
  · by_cases g7 : (xs 2) < 1
    · exact law_37f1_95 C hr hX hbl hbA hAl w hl hk g6 g7
    · by_cases g8 : (xs 2) ≤ 24
      · by_cases g9 : 0 < (0 + (xs 2))
        · by_cases g10 : 0 < (xs 2)
          · exact law_37f1_96 C hr hX hbl hbA hAl w hl hk g6 g7 g8 g9 g10
          · exfalso
            have t1 := mt (fa_eq _ _).mpr g1
            have t2 := mt (fa_lt _ _).mpr g7
            have t3 := (fa_le _ _).mp g8
            have t4 := (fa_lt _ _).mp g9
            have t5 := mt (fa_lt _ _).mpr g10
            have u0 : (0 : Int32).toInt = 0 := by decide
            have u1 : (1 : Int32).toInt = 1 := by decide
            have u2 : (24 : Int32).toInt = 24 := by decide
            have v2 := xadd0 (xs 2)
            omega
        · exfalso
          have t1 := mt (fa_eq _ _).mpr g1
          have t2 := mt (fa_lt _ _).mpr g7
          have t3 := (fa_le _ _).mp g8
          have t4 := mt (fa_lt _ _).mpr g9
          have u0 : (0 : Int32).toInt = 0 := by decide
          have u1 : (1 : Int32).toInt = 1 := by decide
          have u2 : (24 : Int32).toInt = 24 := by decide
          have v2 := xadd0 (xs 2)
          omega
      · exact law_37f1_97 C hr hX hbl hbA hAl w hl hk g6 g7 g8
  by_cases g11 : xs 1 = 2
  · by_cases g12 : (xs 2) < 1
    · exact law_37f2_98 C hr hX hbl hbA hAl w hl hk g11 g12
    · by_cases g13 : (xs 2) ≤ 24
      · by_cases g14 : 0 < (0 + (xs 2))
        · by_cases g15 : 0 < (xs 2)
          · exact law_37f2_99 C hr hX hbl hbA hAl w hl hk g11 g12 g13 g14 g15
          · exfalso
            have t1 := mt (fa_eq _ _).mpr g1
            have t2 := mt (fa_eq _ _).mpr g6
            have t3 := mt (fa_lt _ _).mpr g12
            have t4 := (fa_le _ _).mp g13
            have t5 := (fa_lt _ _).mp g14
            have t6 := mt (fa_lt _ _).mpr g15
            have u0 : (0 : Int32).toInt = 0 := by decide
            have u1 : (1 : Int32).toInt = 1 := by decide
            have u2 : (24 : Int32).toInt = 24 := by decide
            have v2 := xadd0 (xs 2)
            omega
        · exfalso
          have t1 := mt (fa_eq _ _).mpr g1
          have t2 := mt (fa_eq _ _).mpr g6
          have t3 := mt (fa_lt _ _).mpr g12
          have t4 := (fa_le _ _).mp g13
          have t5 := mt (fa_lt _ _).mpr g14
          have u0 : (0 : Int32).toInt = 0 := by decide
          have u1 : (1 : Int32).toInt = 1 := by decide
          have u2 : (24 : Int32).toInt = 24 := by decide
          have v2 := xadd0 (xs 2)
          omega
      · exact law_37f2_100 C hr hX hbl hbA hAl w hl hk g11 g12 g13
  by_cases g16 : (xs 1) < 0
  · exact law_37b_101 C hr hX hbl hbA hAl w hl hk g16
  · by_cases g17 : (xs 1) < 3
    · exfalso
      have t1 := mt (fa_eq _ _).mpr g1
      have t2 := mt (fa_eq _ _).mpr g6
      have t3 := mt (fa_eq _ _).mpr g11
      have t4 := mt (fa_lt _ _).mpr g16
      have t5 := (fa_lt _ _).mp g17
      have u0 : (0 : Int32).toInt = 0 := by decide
      have u1 : (1 : Int32).toInt = 1 := by decide
      have u2 : (2 : Int32).toInt = 2 := by decide
      have u3 : (3 : Int32).toInt = 3 := by decide
      omega
    · exact law_37b_102 C hr hX hbl hbA hAl w hl hk g16 g17
theorem law_38 {p : Program} {e : Env} {s : State} {m : MethodId} {below : List Frame} {meth : Method} {c : Code} {l : Launch} {G : va_G} {cy : Nat → ClassId} {sa : String → Nat → Nat} {sv : Nat → Nat} {A : Nat → Prop} {b : Nat} {xs : Nat → Int32} {a : Nat → Nat} {H : Heap} {locs : List Loc} {ls : Array Slot} (C : xC p l s m #[Value.ref b] meth c code 7 "TwinindexLaw" (Cond.initialized "TwinindexLaw" :: XG) G cy sa sv A) (hr : meth.sig.returnType = ret) (hX : va_X b 5 xs s s.heap) (hbl : b < s.heap.size) (hbA : ¬ A b) (hAl : ∀ q, A q → s.heap.size ≤ q) (w : xW G A s (xW0 cy sv a) H locs) (hl : lv_has ls 7 [(4, .int 0), (3, .ref (a 39)), (2, .ref (a 31)), (1, .ref (a 0)), (0, .ref b)]) (hk : ((xs 0) &&& 63) = 38) : W p l e room_1 s m #[Value.ref b] below meth c H locs 40 1536 (lw_Z below #[Value.ref b] s) (F0 m 27 ls []) := by
  by_cases g1 : xs 1 = 0
  · by_cases g2 : xs 2 = 0
    · exact law_38f00_103 C hr hX hbl hbA hAl w hl hk g1 g2
    by_cases g3 : xs 2 = 1
    · exact law_38f01_104 C hr hX hbl hbA hAl w hl hk g1 g3
    by_cases g4 : xs 2 = 2
    · exact law_38f02_105 C hr hX hbl hbA hAl w hl hk g1 g4
    by_cases g5 : xs 2 = 3
    · exact law_38f03_106 C hr hX hbl hbA hAl w hl hk g1 g5
    by_cases g6 : ((xs 2)).toInt < 0 ∨ 3 < ((xs 2)).toInt
    · by_cases g7 : (xs 2) < 0
      · exact law_38f0b_115 C hr hX hbl hbA hAl w hl hk g1 g6 g7
      · by_cases g8 : (xs 2) ≤ 3
        · exfalso
          have t1 := mt (fa_eq _ _).mpr g2
          have t2 := mt (fa_eq _ _).mpr g3
          have t3 := mt (fa_eq _ _).mpr g4
          have t4 := mt (fa_eq _ _).mpr g5
          have t5 := g6
          have t6 := mt (fa_lt _ _).mpr g7
          have t7 := (fa_le _ _).mp g8
          have u0 : (0 : Int32).toInt = 0 := by decide
          have u1 : (1 : Int32).toInt = 1 := by decide
          have u2 : (2 : Int32).toInt = 2 := by decide
          have u3 : (3 : Int32).toInt = 3 := by decide
          omega
        · exact law_38f0b_116 C hr hX hbl hbA hAl w hl hk g1 g6 g7 g8
    · exfalso
      have t1 := mt (fa_eq _ _).mpr g2
      have t2 := mt (fa_eq _ _).mpr g3
      have t3 := mt (fa_eq _ _).mpr g4
      have t4 := mt (fa_eq _ _).mpr g5
      have t5 := g6
      have u0 : (0 : Int32).toInt = 0 := by decide
      have u1 : (1 : Int32).toInt = 1 := by decide
      have u2 : (2 : Int32).toInt = 2 := by decide
      have u3 : (3 : Int32).toInt = 3 := by decide
      omega
  by_cases g9 : xs 1 = 1
  · by_cases g10 : xs 2 = 0
    · exact law_38f10_107 C hr hX hbl hbA hAl w hl hk g9 g10
    by_cases g11 : xs 2 = 1
    · exact law_38f11_108 C hr hX hbl hbA hAl w hl hk g9 g11
    by_cases g12 : xs 2 = 2
    · exact law_38f12_109 C hr hX hbl hbA hAl w hl hk g9 g12
    by_cases g13 : xs 2 = 3
    · exact law_38f13_110 C hr hX hbl hbA hAl w hl hk g9 g13
    by_cases g14 : ((xs 2)).toInt < 0 ∨ 3 < ((xs 2)).toInt
    · by_cases g15 : (xs 2) < 0
      · exact law_38f1b_117 C hr hX hbl hbA hAl w hl hk g9 g14 g15
      · by_cases g16 : (xs 2) ≤ 3
        · exfalso
          have t1 := mt (fa_eq _ _).mpr g1
          have t2 := mt (fa_eq _ _).mpr g10
          have t3 := mt (fa_eq _ _).mpr g11
          have t4 := mt (fa_eq _ _).mpr g12
          have t5 := mt (fa_eq _ _).mpr g13
          have t6 := g14
          have t7 := mt (fa_lt _ _).mpr g15
          have t8 := (fa_le _ _).mp g16
          have u0 : (0 : Int32).toInt = 0 := by decide
          have u1 : (1 : Int32).toInt = 1 := by decide
          have u2 : (2 : Int32).toInt = 2 := by decide
          have u3 : (3 : Int32).toInt = 3 := by decide
          omega
        · exact law_38f1b_118 C hr hX hbl hbA hAl w hl hk g9 g14 g15 g16
    · exfalso
      have t1 := mt (fa_eq _ _).mpr g1
      have t2 := mt (fa_eq _ _).mpr g10
      have t3 := mt (fa_eq _ _).mpr g11
      have t4 := mt (fa_eq _ _).mpr g12
      have t5 := mt (fa_eq _ _).mpr g13
      have t6 := g14
      have u0 : (0 : Int32).toInt = 0 := by decide
      have u1 : (1 : Int32).toInt = 1 := by decide
      have u2 : (2 : Int32).toInt = 2 := by decide
      have u3 : (3 : Int32).toInt = 3 := by decide
      omega
  by_cases g17 : xs 1 = 2
  · by_cases g18 : xs 2 = 0
    · exact law_38f20_111 C hr hX hbl hbA hAl w hl hk g17 g18
    by_cases g19 : xs 2 = 1
    · exact law_38f21_112 C hr hX hbl hbA hAl w hl hk g17 g19
    by_cases g20 : xs 2 = 2
    · exact law_38f22_113 C hr hX hbl hbA hAl w hl hk g17 g20
    by_cases g21 : xs 2 = 3
    · exact law_38f23_114 C hr hX hbl hbA hAl w hl hk g17 g21
    by_cases g22 : ((xs 2)).toInt < 0 ∨ 3 < ((xs 2)).toInt
    · by_cases g23 : (xs 2) < 0
      · exact law_38f2b_119 C hr hX hbl hbA hAl w hl hk g17 g22 g23
      · by_cases g24 : (xs 2) ≤ 3
        · exfalso
          have t1 := mt (fa_eq _ _).mpr g1
          have t2 := mt (fa_eq _ _).mpr g9
          have t3 := mt (fa_eq _ _).mpr g18
          have t4 := mt (fa_eq _ _).mpr g19
          have t5 := mt (fa_eq _ _).mpr g20
          have t6 := mt (fa_eq _ _).mpr g21
          have t7 := g22
          have t8 := mt (fa_lt _ _).mpr g23
          have t9 := (fa_le _ _).mp g24
          have u0 : (0 : Int32).toInt = 0 := by decide
          have u1 : (1 : Int32).toInt = 1 := by decide
          have u2 : (2 : Int32).toInt = 2 := by decide
          have u3 : (3 : Int32).toInt = 3 := by decide
          omega
        · exact law_38f2b_120 C hr hX hbl hbA hAl w hl hk g17 g22 g23 g24
    · exfalso
      have t1 := mt (fa_eq _ _).mpr g1
      have t2 := mt (fa_eq _ _).mpr g9
      have t3 := mt (fa_eq _ _).mpr g18
      have t4 := mt (fa_eq _ _).mpr g19
      have t5 := mt (fa_eq _ _).mpr g20
      have t6 := mt (fa_eq _ _).mpr g21
      have t7 := g22
      have u0 : (0 : Int32).toInt = 0 := by decide
      have u1 : (1 : Int32).toInt = 1 := by decide
      have u2 : (2 : Int32).toInt = 2 := by decide
      have u3 : (3 : Int32).toInt = 3 := by decide
      omega
  by_cases g25 : (xs 1) < 0
  · exact law_38b_121 C hr hX hbl hbA hAl w hl hk g25
  · by_cases g26 : (xs 1) < 3
    · exfalso
      have t1 := mt (fa_eq _ _).mpr g1
      have t2 := mt (fa_eq _ _).mpr g9
      have t3 := mt (fa_eq _ _).mpr g17
      have t4 := mt (fa_lt _ _).mpr g25
      have t5 := (fa_lt _ _).mp g26
      have u0 : (0 : Int32).toInt = 0 := by decide
      have u1 : (1 : Int32).toInt = 1 := by decide
      have u2 : (2 : Int32).toInt = 2 := by decide
      have u3 : (3 : Int32).toInt = 3 := by decide
      omega
    · exact law_38b_122 C hr hX hbl hbA hAl w hl hk g25 g26
theorem law_39 {p : Program} {e : Env} {s : State} {m : MethodId} {below : List Frame} {meth : Method} {c : Code} {l : Launch} {G : va_G} {cy : Nat → ClassId} {sa : String → Nat → Nat} {sv : Nat → Nat} {A : Nat → Prop} {b : Nat} {xs : Nat → Int32} {a : Nat → Nat} {H : Heap} {locs : List Loc} {ls : Array Slot} (C : xC p l s m #[Value.ref b] meth c code 7 "TwinindexLaw" (Cond.initialized "TwinindexLaw" :: XG) G cy sa sv A) (hr : meth.sig.returnType = ret) (hX : va_X b 5 xs s s.heap) (hbl : b < s.heap.size) (hbA : ¬ A b) (hAl : ∀ q, A q → s.heap.size ≤ q) (w : xW G A s (xW0 cy sv a) H locs) (hl : lv_has ls 7 [(4, .int 0), (3, .ref (a 39)), (2, .ref (a 31)), (1, .ref (a 0)), (0, .ref b)]) (hk : ((xs 0) &&& 63) = 39) : W p l e room_1 s m #[Value.ref b] below meth c H locs 40 1536 (lw_Z below #[Value.ref b] s) (F0 m 27 ls []) := by
  exact law_39_123 C hr hX hbl hbA hAl w hl hk
theorem law_40 {p : Program} {e : Env} {s : State} {m : MethodId} {below : List Frame} {meth : Method} {c : Code} {l : Launch} {G : va_G} {cy : Nat → ClassId} {sa : String → Nat → Nat} {sv : Nat → Nat} {A : Nat → Prop} {b : Nat} {xs : Nat → Int32} {a : Nat → Nat} {H : Heap} {locs : List Loc} {ls : Array Slot} (C : xC p l s m #[Value.ref b] meth c code 7 "TwinindexLaw" (Cond.initialized "TwinindexLaw" :: XG) G cy sa sv A) (hr : meth.sig.returnType = ret) (hX : va_X b 5 xs s s.heap) (hbl : b < s.heap.size) (hbA : ¬ A b) (hAl : ∀ q, A q → s.heap.size ≤ q) (w : xW G A s (xW0 cy sv a) H locs) (hl : lv_has ls 7 [(4, .int 0), (3, .ref (a 39)), (2, .ref (a 31)), (1, .ref (a 0)), (0, .ref b)]) (hk : ((xs 0) &&& 63) = 40) : W p l e room_1 s m #[Value.ref b] below meth c H locs 40 1536 (lw_Z below #[Value.ref b] s) (F0 m 27 ls []) := by
  exact law_40_124 C hr hX hbl hbA hAl w hl hk
theorem law_41 {p : Program} {e : Env} {s : State} {m : MethodId} {below : List Frame} {meth : Method} {c : Code} {l : Launch} {G : va_G} {cy : Nat → ClassId} {sa : String → Nat → Nat} {sv : Nat → Nat} {A : Nat → Prop} {b : Nat} {xs : Nat → Int32} {a : Nat → Nat} {H : Heap} {locs : List Loc} {ls : Array Slot} (C : xC p l s m #[Value.ref b] meth c code 7 "TwinindexLaw" (Cond.initialized "TwinindexLaw" :: XG) G cy sa sv A) (hr : meth.sig.returnType = ret) (hX : va_X b 5 xs s s.heap) (hbl : b < s.heap.size) (hbA : ¬ A b) (hAl : ∀ q, A q → s.heap.size ≤ q) (w : xW G A s (xW0 cy sv a) H locs) (hl : lv_has ls 7 [(4, .int 0), (3, .ref (a 39)), (2, .ref (a 31)), (1, .ref (a 0)), (0, .ref b)]) (hk : ((xs 0) &&& 63) = 41) : W p l e room_1 s m #[Value.ref b] below meth c H locs 40 1536 (lw_Z below #[Value.ref b] s) (F0 m 27 ls []) := by
  exact law_41_125 C hr hX hbl hbA hAl w hl hk
theorem law_42 {p : Program} {e : Env} {s : State} {m : MethodId} {below : List Frame} {meth : Method} {c : Code} {l : Launch} {G : va_G} {cy : Nat → ClassId} {sa : String → Nat → Nat} {sv : Nat → Nat} {A : Nat → Prop} {b : Nat} {xs : Nat → Int32} {a : Nat → Nat} {H : Heap} {locs : List Loc} {ls : Array Slot} (C : xC p l s m #[Value.ref b] meth c code 7 "TwinindexLaw" (Cond.initialized "TwinindexLaw" :: XG) G cy sa sv A) (hr : meth.sig.returnType = ret) (hX : va_X b 5 xs s s.heap) (hbl : b < s.heap.size) (hbA : ¬ A b) (hAl : ∀ q, A q → s.heap.size ≤ q) (w : xW G A s (xW0 cy sv a) H locs) (hl : lv_has ls 7 [(4, .int 0), (3, .ref (a 39)), (2, .ref (a 31)), (1, .ref (a 0)), (0, .ref b)]) (hk : ((xs 0) &&& 63) = 42) : W p l e room_1 s m #[Value.ref b] below meth c H locs 40 1536 (lw_Z below #[Value.ref b] s) (F0 m 27 ls []) := by
  exact law_42_126 C hr hX hbl hbA hAl w hl hk
theorem law_43 {p : Program} {e : Env} {s : State} {m : MethodId} {below : List Frame} {meth : Method} {c : Code} {l : Launch} {G : va_G} {cy : Nat → ClassId} {sa : String → Nat → Nat} {sv : Nat → Nat} {A : Nat → Prop} {b : Nat} {xs : Nat → Int32} {a : Nat → Nat} {H : Heap} {locs : List Loc} {ls : Array Slot} (C : xC p l s m #[Value.ref b] meth c code 7 "TwinindexLaw" (Cond.initialized "TwinindexLaw" :: XG) G cy sa sv A) (hr : meth.sig.returnType = ret) (hX : va_X b 5 xs s s.heap) (hbl : b < s.heap.size) (hbA : ¬ A b) (hAl : ∀ q, A q → s.heap.size ≤ q) (w : xW G A s (xW0 cy sv a) H locs) (hl : lv_has ls 7 [(4, .int 0), (3, .ref (a 39)), (2, .ref (a 31)), (1, .ref (a 0)), (0, .ref b)]) (hk : ((xs 0) &&& 63) = 43) : W p l e room_1 s m #[Value.ref b] below meth c H locs 40 1536 (lw_Z below #[Value.ref b] s) (F0 m 27 ls []) := by
  exact law_43_127 C hr hX hbl hbA hAl w hl hk
theorem law_44 {p : Program} {e : Env} {s : State} {m : MethodId} {below : List Frame} {meth : Method} {c : Code} {l : Launch} {G : va_G} {cy : Nat → ClassId} {sa : String → Nat → Nat} {sv : Nat → Nat} {A : Nat → Prop} {b : Nat} {xs : Nat → Int32} {a : Nat → Nat} {H : Heap} {locs : List Loc} {ls : Array Slot} (C : xC p l s m #[Value.ref b] meth c code 7 "TwinindexLaw" (Cond.initialized "TwinindexLaw" :: XG) G cy sa sv A) (hr : meth.sig.returnType = ret) (hX : va_X b 5 xs s s.heap) (hbl : b < s.heap.size) (hbA : ¬ A b) (hAl : ∀ q, A q → s.heap.size ≤ q) (w : xW G A s (xW0 cy sv a) H locs) (hl : lv_has ls 7 [(4, .int 0), (3, .ref (a 39)), (2, .ref (a 31)), (1, .ref (a 0)), (0, .ref b)]) (hk : ((xs 0) &&& 63) = 44) : W p l e room_1 s m #[Value.ref b] below meth c H locs 40 1536 (lw_Z below #[Value.ref b] s) (F0 m 27 ls []) := by
  exact law_44_128 C hr hX hbl hbA hAl w hl hk
theorem law_45 {p : Program} {e : Env} {s : State} {m : MethodId} {below : List Frame} {meth : Method} {c : Code} {l : Launch} {G : va_G} {cy : Nat → ClassId} {sa : String → Nat → Nat} {sv : Nat → Nat} {A : Nat → Prop} {b : Nat} {xs : Nat → Int32} {a : Nat → Nat} {H : Heap} {locs : List Loc} {ls : Array Slot} (C : xC p l s m #[Value.ref b] meth c code 7 "TwinindexLaw" (Cond.initialized "TwinindexLaw" :: XG) G cy sa sv A) (hr : meth.sig.returnType = ret) (hX : va_X b 5 xs s s.heap) (hbl : b < s.heap.size) (hbA : ¬ A b) (hAl : ∀ q, A q → s.heap.size ≤ q) (w : xW G A s (xW0 cy sv a) H locs) (hl : lv_has ls 7 [(4, .int 0), (3, .ref (a 39)), (2, .ref (a 31)), (1, .ref (a 0)), (0, .ref b)]) (hk : ((xs 0) &&& 63) = 45) : W p l e room_1 s m #[Value.ref b] below meth c H locs 40 1536 (lw_Z below #[Value.ref b] s) (F0 m 27 ls []) := by
  exact law_45_129 C hr hX hbl hbA hAl w hl hk
theorem law_46 {p : Program} {e : Env} {s : State} {m : MethodId} {below : List Frame} {meth : Method} {c : Code} {l : Launch} {G : va_G} {cy : Nat → ClassId} {sa : String → Nat → Nat} {sv : Nat → Nat} {A : Nat → Prop} {b : Nat} {xs : Nat → Int32} {a : Nat → Nat} {H : Heap} {locs : List Loc} {ls : Array Slot} (C : xC p l s m #[Value.ref b] meth c code 7 "TwinindexLaw" (Cond.initialized "TwinindexLaw" :: XG) G cy sa sv A) (hr : meth.sig.returnType = ret) (hX : va_X b 5 xs s s.heap) (hbl : b < s.heap.size) (hbA : ¬ A b) (hAl : ∀ q, A q → s.heap.size ≤ q) (w : xW G A s (xW0 cy sv a) H locs) (hl : lv_has ls 7 [(4, .int 0), (3, .ref (a 39)), (2, .ref (a 31)), (1, .ref (a 0)), (0, .ref b)]) (hk : ((xs 0) &&& 63) = 46) : W p l e room_1 s m #[Value.ref b] below meth c H locs 40 1536 (lw_Z below #[Value.ref b] s) (F0 m 27 ls []) := by
  by_cases g1 : xs 1 = 0
  · exact law_46f0_130 C hr hX hbl hbA hAl w hl hk g1
  by_cases g2 : xs 1 = 1
  · exact law_46f1_131 C hr hX hbl hbA hAl w hl hk g2
  by_cases g3 : xs 1 = 2
  · exact law_46f2_132 C hr hX hbl hbA hAl w hl hk g3
  by_cases g4 : xs 1 = 3
  · exact law_46f3_133 C hr hX hbl hbA hAl w hl hk g4
  by_cases g5 : xs 1 = 4
  · exact law_46f4_134 C hr hX hbl hbA hAl w hl hk g5
  by_cases g6 : ((xs 1)).toInt < 0 ∨ 4 < ((xs 1)).toInt
  · by_cases g7 : (xs 1) < 0
    · exact law_46b_135 C hr hX hbl hbA hAl w hl hk g6 g7
    · by_cases g8 : (xs 1) ≤ 4
      · exfalso
        have t1 := mt (fa_eq _ _).mpr g1
        have t2 := mt (fa_eq _ _).mpr g2
        have t3 := mt (fa_eq _ _).mpr g3
        have t4 := mt (fa_eq _ _).mpr g4
        have t5 := mt (fa_eq _ _).mpr g5
        have t6 := g6
        have t7 := mt (fa_lt _ _).mpr g7
        have t8 := (fa_le _ _).mp g8
        have u0 : (0 : Int32).toInt = 0 := by decide
        have u1 : (1 : Int32).toInt = 1 := by decide
        have u2 : (2 : Int32).toInt = 2 := by decide
        have u3 : (3 : Int32).toInt = 3 := by decide
        have u4 : (4 : Int32).toInt = 4 := by decide
        omega
      · exact law_46b_136 C hr hX hbl hbA hAl w hl hk g6 g7 g8
  · exfalso
    have t1 := mt (fa_eq _ _).mpr g1
    have t2 := mt (fa_eq _ _).mpr g2
    have t3 := mt (fa_eq _ _).mpr g3
    have t4 := mt (fa_eq _ _).mpr g4
    have t5 := mt (fa_eq _ _).mpr g5
    have t6 := g6
    have u0 : (0 : Int32).toInt = 0 := by decide
    have u1 : (1 : Int32).toInt = 1 := by decide
    have u2 : (2 : Int32).toInt = 2 := by decide
    have u3 : (3 : Int32).toInt = 3 := by decide
    have u4 : (4 : Int32).toInt = 4 := by decide
    omega
theorem law_47 {p : Program} {e : Env} {s : State} {m : MethodId} {below : List Frame} {meth : Method} {c : Code} {l : Launch} {G : va_G} {cy : Nat → ClassId} {sa : String → Nat → Nat} {sv : Nat → Nat} {A : Nat → Prop} {b : Nat} {xs : Nat → Int32} {a : Nat → Nat} {H : Heap} {locs : List Loc} {ls : Array Slot} (C : xC p l s m #[Value.ref b] meth c code 7 "TwinindexLaw" (Cond.initialized "TwinindexLaw" :: XG) G cy sa sv A) (hr : meth.sig.returnType = ret) (hX : va_X b 5 xs s s.heap) (hbl : b < s.heap.size) (hbA : ¬ A b) (hAl : ∀ q, A q → s.heap.size ≤ q) (w : xW G A s (xW0 cy sv a) H locs) (hl : lv_has ls 7 [(4, .int 0), (3, .ref (a 39)), (2, .ref (a 31)), (1, .ref (a 0)), (0, .ref b)]) (hk : ((xs 0) &&& 63) = 47) : W p l e room_1 s m #[Value.ref b] below meth c H locs 40 1536 (lw_Z below #[Value.ref b] s) (F0 m 27 ls []) := by
  exact law_47_137 C hr hX hbl hbA hAl w hl hk
theorem law_48 {p : Program} {e : Env} {s : State} {m : MethodId} {below : List Frame} {meth : Method} {c : Code} {l : Launch} {G : va_G} {cy : Nat → ClassId} {sa : String → Nat → Nat} {sv : Nat → Nat} {A : Nat → Prop} {b : Nat} {xs : Nat → Int32} {a : Nat → Nat} {H : Heap} {locs : List Loc} {ls : Array Slot} (C : xC p l s m #[Value.ref b] meth c code 7 "TwinindexLaw" (Cond.initialized "TwinindexLaw" :: XG) G cy sa sv A) (hr : meth.sig.returnType = ret) (hX : va_X b 5 xs s s.heap) (hbl : b < s.heap.size) (hbA : ¬ A b) (hAl : ∀ q, A q → s.heap.size ≤ q) (w : xW G A s (xW0 cy sv a) H locs) (hl : lv_has ls 7 [(4, .int 0), (3, .ref (a 39)), (2, .ref (a 31)), (1, .ref (a 0)), (0, .ref b)]) (hk : ((xs 0) &&& 63) = 48) : W p l e room_1 s m #[Value.ref b] below meth c H locs 40 1536 (lw_Z below #[Value.ref b] s) (F0 m 27 ls []) := by
  exact law_48_138 C hr hX hbl hbA hAl w hl hk
theorem law_49 {p : Program} {e : Env} {s : State} {m : MethodId} {below : List Frame} {meth : Method} {c : Code} {l : Launch} {G : va_G} {cy : Nat → ClassId} {sa : String → Nat → Nat} {sv : Nat → Nat} {A : Nat → Prop} {b : Nat} {xs : Nat → Int32} {a : Nat → Nat} {H : Heap} {locs : List Loc} {ls : Array Slot} (C : xC p l s m #[Value.ref b] meth c code 7 "TwinindexLaw" (Cond.initialized "TwinindexLaw" :: XG) G cy sa sv A) (hr : meth.sig.returnType = ret) (hX : va_X b 5 xs s s.heap) (hbl : b < s.heap.size) (hbA : ¬ A b) (hAl : ∀ q, A q → s.heap.size ≤ q) (w : xW G A s (xW0 cy sv a) H locs) (hl : lv_has ls 7 [(4, .int 0), (3, .ref (a 39)), (2, .ref (a 31)), (1, .ref (a 0)), (0, .ref b)]) (hk : ((xs 0) &&& 63) = 49) : W p l e room_1 s m #[Value.ref b] below meth c H locs 40 1536 (lw_Z below #[Value.ref b] s) (F0 m 27 ls []) := by
  exact law_49_139 C hr hX hbl hbA hAl w hl hk
theorem law_50 {p : Program} {e : Env} {s : State} {m : MethodId} {below : List Frame} {meth : Method} {c : Code} {l : Launch} {G : va_G} {cy : Nat → ClassId} {sa : String → Nat → Nat} {sv : Nat → Nat} {A : Nat → Prop} {b : Nat} {xs : Nat → Int32} {a : Nat → Nat} {H : Heap} {locs : List Loc} {ls : Array Slot} (C : xC p l s m #[Value.ref b] meth c code 7 "TwinindexLaw" (Cond.initialized "TwinindexLaw" :: XG) G cy sa sv A) (hr : meth.sig.returnType = ret) (hX : va_X b 5 xs s s.heap) (hbl : b < s.heap.size) (hbA : ¬ A b) (hAl : ∀ q, A q → s.heap.size ≤ q) (w : xW G A s (xW0 cy sv a) H locs) (hl : lv_has ls 7 [(4, .int 0), (3, .ref (a 39)), (2, .ref (a 31)), (1, .ref (a 0)), (0, .ref b)]) (hk : ((xs 0) &&& 63) = 50) : W p l e room_1 s m #[Value.ref b] below meth c H locs 40 1536 (lw_Z below #[Value.ref b] s) (F0 m 27 ls []) := by
  exact law_50_140 C hr hX hbl hbA hAl w hl hk
theorem law_51 {p : Program} {e : Env} {s : State} {m : MethodId} {below : List Frame} {meth : Method} {c : Code} {l : Launch} {G : va_G} {cy : Nat → ClassId} {sa : String → Nat → Nat} {sv : Nat → Nat} {A : Nat → Prop} {b : Nat} {xs : Nat → Int32} {a : Nat → Nat} {H : Heap} {locs : List Loc} {ls : Array Slot} (C : xC p l s m #[Value.ref b] meth c code 7 "TwinindexLaw" (Cond.initialized "TwinindexLaw" :: XG) G cy sa sv A) (hr : meth.sig.returnType = ret) (hX : va_X b 5 xs s s.heap) (hbl : b < s.heap.size) (hbA : ¬ A b) (hAl : ∀ q, A q → s.heap.size ≤ q) (w : xW G A s (xW0 cy sv a) H locs) (hl : lv_has ls 7 [(4, .int 0), (3, .ref (a 39)), (2, .ref (a 31)), (1, .ref (a 0)), (0, .ref b)]) (hk : ((xs 0) &&& 63) = 51) : W p l e room_1 s m #[Value.ref b] below meth c H locs 40 1536 (lw_Z below #[Value.ref b] s) (F0 m 27 ls []) := by
  exact law_51_141 C hr hX hbl hbA hAl w hl hk
theorem law_52 {p : Program} {e : Env} {s : State} {m : MethodId} {below : List Frame} {meth : Method} {c : Code} {l : Launch} {G : va_G} {cy : Nat → ClassId} {sa : String → Nat → Nat} {sv : Nat → Nat} {A : Nat → Prop} {b : Nat} {xs : Nat → Int32} {a : Nat → Nat} {H : Heap} {locs : List Loc} {ls : Array Slot} (C : xC p l s m #[Value.ref b] meth c code 7 "TwinindexLaw" (Cond.initialized "TwinindexLaw" :: XG) G cy sa sv A) (hr : meth.sig.returnType = ret) (hX : va_X b 5 xs s s.heap) (hbl : b < s.heap.size) (hbA : ¬ A b) (hAl : ∀ q, A q → s.heap.size ≤ q) (w : xW G A s (xW0 cy sv a) H locs) (hl : lv_has ls 7 [(4, .int 0), (3, .ref (a 39)), (2, .ref (a 31)), (1, .ref (a 0)), (0, .ref b)]) (hk : ((xs 0) &&& 63) = 52) : W p l e room_1 s m #[Value.ref b] below meth c H locs 40 1536 (lw_Z below #[Value.ref b] s) (F0 m 27 ls []) := by
  exact law_52_142 C hr hX hbl hbA hAl w hl hk
theorem law_53 {p : Program} {e : Env} {s : State} {m : MethodId} {below : List Frame} {meth : Method} {c : Code} {l : Launch} {G : va_G} {cy : Nat → ClassId} {sa : String → Nat → Nat} {sv : Nat → Nat} {A : Nat → Prop} {b : Nat} {xs : Nat → Int32} {a : Nat → Nat} {H : Heap} {locs : List Loc} {ls : Array Slot} (C : xC p l s m #[Value.ref b] meth c code 7 "TwinindexLaw" (Cond.initialized "TwinindexLaw" :: XG) G cy sa sv A) (hr : meth.sig.returnType = ret) (hX : va_X b 5 xs s s.heap) (hbl : b < s.heap.size) (hbA : ¬ A b) (hAl : ∀ q, A q → s.heap.size ≤ q) (w : xW G A s (xW0 cy sv a) H locs) (hl : lv_has ls 7 [(4, .int 0), (3, .ref (a 39)), (2, .ref (a 31)), (1, .ref (a 0)), (0, .ref b)]) (hk : ((xs 0) &&& 63) = 53) : W p l e room_1 s m #[Value.ref b] below meth c H locs 40 1536 (lw_Z below #[Value.ref b] s) (F0 m 27 ls []) := by
  exact law_53_143 C hr hX hbl hbA hAl w hl hk
theorem law_54 {p : Program} {e : Env} {s : State} {m : MethodId} {below : List Frame} {meth : Method} {c : Code} {l : Launch} {G : va_G} {cy : Nat → ClassId} {sa : String → Nat → Nat} {sv : Nat → Nat} {A : Nat → Prop} {b : Nat} {xs : Nat → Int32} {a : Nat → Nat} {H : Heap} {locs : List Loc} {ls : Array Slot} (C : xC p l s m #[Value.ref b] meth c code 7 "TwinindexLaw" (Cond.initialized "TwinindexLaw" :: XG) G cy sa sv A) (hr : meth.sig.returnType = ret) (hX : va_X b 5 xs s s.heap) (hbl : b < s.heap.size) (hbA : ¬ A b) (hAl : ∀ q, A q → s.heap.size ≤ q) (w : xW G A s (xW0 cy sv a) H locs) (hl : lv_has ls 7 [(4, .int 0), (3, .ref (a 39)), (2, .ref (a 31)), (1, .ref (a 0)), (0, .ref b)]) (hk : ((xs 0) &&& 63) = 54) : W p l e room_1 s m #[Value.ref b] below meth c H locs 40 1536 (lw_Z below #[Value.ref b] s) (F0 m 27 ls []) := by
  exact law_54_144 C hr hX hbl hbA hAl w hl hk
theorem law_55 {p : Program} {e : Env} {s : State} {m : MethodId} {below : List Frame} {meth : Method} {c : Code} {l : Launch} {G : va_G} {cy : Nat → ClassId} {sa : String → Nat → Nat} {sv : Nat → Nat} {A : Nat → Prop} {b : Nat} {xs : Nat → Int32} {a : Nat → Nat} {H : Heap} {locs : List Loc} {ls : Array Slot} (C : xC p l s m #[Value.ref b] meth c code 7 "TwinindexLaw" (Cond.initialized "TwinindexLaw" :: XG) G cy sa sv A) (hr : meth.sig.returnType = ret) (hX : va_X b 5 xs s s.heap) (hbl : b < s.heap.size) (hbA : ¬ A b) (hAl : ∀ q, A q → s.heap.size ≤ q) (w : xW G A s (xW0 cy sv a) H locs) (hl : lv_has ls 7 [(4, .int 0), (3, .ref (a 39)), (2, .ref (a 31)), (1, .ref (a 0)), (0, .ref b)]) (hk : ((xs 0) &&& 63) = 55) : W p l e room_1 s m #[Value.ref b] below meth c H locs 40 1536 (lw_Z below #[Value.ref b] s) (F0 m 27 ls []) := by
  exact law_55_145 C hr hX hbl hbA hAl w hl hk
theorem law_56 {p : Program} {e : Env} {s : State} {m : MethodId} {below : List Frame} {meth : Method} {c : Code} {l : Launch} {G : va_G} {cy : Nat → ClassId} {sa : String → Nat → Nat} {sv : Nat → Nat} {A : Nat → Prop} {b : Nat} {xs : Nat → Int32} {a : Nat → Nat} {H : Heap} {locs : List Loc} {ls : Array Slot} (C : xC p l s m #[Value.ref b] meth c code 7 "TwinindexLaw" (Cond.initialized "TwinindexLaw" :: XG) G cy sa sv A) (hr : meth.sig.returnType = ret) (hX : va_X b 5 xs s s.heap) (hbl : b < s.heap.size) (hbA : ¬ A b) (hAl : ∀ q, A q → s.heap.size ≤ q) (w : xW G A s (xW0 cy sv a) H locs) (hl : lv_has ls 7 [(4, .int 0), (3, .ref (a 39)), (2, .ref (a 31)), (1, .ref (a 0)), (0, .ref b)]) (hk : ((xs 0) &&& 63) = 56) : W p l e room_1 s m #[Value.ref b] below meth c H locs 40 1536 (lw_Z below #[Value.ref b] s) (F0 m 27 ls []) := by
  exact law_56_146 C hr hX hbl hbA hAl w hl hk
theorem law_57 {p : Program} {e : Env} {s : State} {m : MethodId} {below : List Frame} {meth : Method} {c : Code} {l : Launch} {G : va_G} {cy : Nat → ClassId} {sa : String → Nat → Nat} {sv : Nat → Nat} {A : Nat → Prop} {b : Nat} {xs : Nat → Int32} {a : Nat → Nat} {H : Heap} {locs : List Loc} {ls : Array Slot} (C : xC p l s m #[Value.ref b] meth c code 7 "TwinindexLaw" (Cond.initialized "TwinindexLaw" :: XG) G cy sa sv A) (hr : meth.sig.returnType = ret) (hX : va_X b 5 xs s s.heap) (hbl : b < s.heap.size) (hbA : ¬ A b) (hAl : ∀ q, A q → s.heap.size ≤ q) (w : xW G A s (xW0 cy sv a) H locs) (hl : lv_has ls 7 [(4, .int 0), (3, .ref (a 39)), (2, .ref (a 31)), (1, .ref (a 0)), (0, .ref b)]) (hk : ((xs 0) &&& 63) = 57) : W p l e room_1 s m #[Value.ref b] below meth c H locs 40 1536 (lw_Z below #[Value.ref b] s) (F0 m 27 ls []) := by
  exact law_57_147 C hr hX hbl hbA hAl w hl hk
theorem law_58 {p : Program} {e : Env} {s : State} {m : MethodId} {below : List Frame} {meth : Method} {c : Code} {l : Launch} {G : va_G} {cy : Nat → ClassId} {sa : String → Nat → Nat} {sv : Nat → Nat} {A : Nat → Prop} {b : Nat} {xs : Nat → Int32} {a : Nat → Nat} {H : Heap} {locs : List Loc} {ls : Array Slot} (C : xC p l s m #[Value.ref b] meth c code 7 "TwinindexLaw" (Cond.initialized "TwinindexLaw" :: XG) G cy sa sv A) (hr : meth.sig.returnType = ret) (hX : va_X b 5 xs s s.heap) (hbl : b < s.heap.size) (hbA : ¬ A b) (hAl : ∀ q, A q → s.heap.size ≤ q) (w : xW G A s (xW0 cy sv a) H locs) (hl : lv_has ls 7 [(4, .int 0), (3, .ref (a 39)), (2, .ref (a 31)), (1, .ref (a 0)), (0, .ref b)]) (hk : ((xs 0) &&& 63) = 58) : W p l e room_1 s m #[Value.ref b] below meth c H locs 40 1536 (lw_Z below #[Value.ref b] s) (F0 m 27 ls []) := by
  exact law_58_148 C hr hX hbl hbA hAl w hl hk
theorem law_59 {p : Program} {e : Env} {s : State} {m : MethodId} {below : List Frame} {meth : Method} {c : Code} {l : Launch} {G : va_G} {cy : Nat → ClassId} {sa : String → Nat → Nat} {sv : Nat → Nat} {A : Nat → Prop} {b : Nat} {xs : Nat → Int32} {a : Nat → Nat} {H : Heap} {locs : List Loc} {ls : Array Slot} (C : xC p l s m #[Value.ref b] meth c code 7 "TwinindexLaw" (Cond.initialized "TwinindexLaw" :: XG) G cy sa sv A) (hr : meth.sig.returnType = ret) (hX : va_X b 5 xs s s.heap) (hbl : b < s.heap.size) (hbA : ¬ A b) (hAl : ∀ q, A q → s.heap.size ≤ q) (w : xW G A s (xW0 cy sv a) H locs) (hl : lv_has ls 7 [(4, .int 0), (3, .ref (a 39)), (2, .ref (a 31)), (1, .ref (a 0)), (0, .ref b)]) (hk : ((xs 0) &&& 63) = 59) : W p l e room_1 s m #[Value.ref b] below meth c H locs 40 1536 (lw_Z below #[Value.ref b] s) (F0 m 27 ls []) := by
  exact law_59_149 C hr hX hbl hbA hAl w hl hk
theorem law_60 {p : Program} {e : Env} {s : State} {m : MethodId} {below : List Frame} {meth : Method} {c : Code} {l : Launch} {G : va_G} {cy : Nat → ClassId} {sa : String → Nat → Nat} {sv : Nat → Nat} {A : Nat → Prop} {b : Nat} {xs : Nat → Int32} {a : Nat → Nat} {H : Heap} {locs : List Loc} {ls : Array Slot} (C : xC p l s m #[Value.ref b] meth c code 7 "TwinindexLaw" (Cond.initialized "TwinindexLaw" :: XG) G cy sa sv A) (hr : meth.sig.returnType = ret) (hX : va_X b 5 xs s s.heap) (hbl : b < s.heap.size) (hbA : ¬ A b) (hAl : ∀ q, A q → s.heap.size ≤ q) (w : xW G A s (xW0 cy sv a) H locs) (hl : lv_has ls 7 [(4, .int 0), (3, .ref (a 39)), (2, .ref (a 31)), (1, .ref (a 0)), (0, .ref b)]) (hk : ((xs 0) &&& 63) = 60) : W p l e room_1 s m #[Value.ref b] below meth c H locs 40 1536 (lw_Z below #[Value.ref b] s) (F0 m 27 ls []) := by
  exact law_60_150 C hr hX hbl hbA hAl w hl hk
theorem law_61 {p : Program} {e : Env} {s : State} {m : MethodId} {below : List Frame} {meth : Method} {c : Code} {l : Launch} {G : va_G} {cy : Nat → ClassId} {sa : String → Nat → Nat} {sv : Nat → Nat} {A : Nat → Prop} {b : Nat} {xs : Nat → Int32} {a : Nat → Nat} {H : Heap} {locs : List Loc} {ls : Array Slot} (C : xC p l s m #[Value.ref b] meth c code 7 "TwinindexLaw" (Cond.initialized "TwinindexLaw" :: XG) G cy sa sv A) (hr : meth.sig.returnType = ret) (hX : va_X b 5 xs s s.heap) (hbl : b < s.heap.size) (hbA : ¬ A b) (hAl : ∀ q, A q → s.heap.size ≤ q) (w : xW G A s (xW0 cy sv a) H locs) (hl : lv_has ls 7 [(4, .int 0), (3, .ref (a 39)), (2, .ref (a 31)), (1, .ref (a 0)), (0, .ref b)]) (hk : ((xs 0) &&& 63) = 61) : W p l e room_1 s m #[Value.ref b] below meth c H locs 40 1536 (lw_Z below #[Value.ref b] s) (F0 m 27 ls []) := by
  exact law_61_151 C hr hX hbl hbA hAl w hl hk
theorem law_62 {p : Program} {e : Env} {s : State} {m : MethodId} {below : List Frame} {meth : Method} {c : Code} {l : Launch} {G : va_G} {cy : Nat → ClassId} {sa : String → Nat → Nat} {sv : Nat → Nat} {A : Nat → Prop} {b : Nat} {xs : Nat → Int32} {a : Nat → Nat} {H : Heap} {locs : List Loc} {ls : Array Slot} (C : xC p l s m #[Value.ref b] meth c code 7 "TwinindexLaw" (Cond.initialized "TwinindexLaw" :: XG) G cy sa sv A) (hr : meth.sig.returnType = ret) (hX : va_X b 5 xs s s.heap) (hbl : b < s.heap.size) (hbA : ¬ A b) (hAl : ∀ q, A q → s.heap.size ≤ q) (w : xW G A s (xW0 cy sv a) H locs) (hl : lv_has ls 7 [(4, .int 0), (3, .ref (a 39)), (2, .ref (a 31)), (1, .ref (a 0)), (0, .ref b)]) (hk : ((xs 0) &&& 63) = 62) : W p l e room_1 s m #[Value.ref b] below meth c H locs 40 1536 (lw_Z below #[Value.ref b] s) (F0 m 27 ls []) := by
  exact law_62_152 C hr hX hbl hbA hAl w hl hk
theorem law_63 {p : Program} {e : Env} {s : State} {m : MethodId} {below : List Frame} {meth : Method} {c : Code} {l : Launch} {G : va_G} {cy : Nat → ClassId} {sa : String → Nat → Nat} {sv : Nat → Nat} {A : Nat → Prop} {b : Nat} {xs : Nat → Int32} {a : Nat → Nat} {H : Heap} {locs : List Loc} {ls : Array Slot} (C : xC p l s m #[Value.ref b] meth c code 7 "TwinindexLaw" (Cond.initialized "TwinindexLaw" :: XG) G cy sa sv A) (hr : meth.sig.returnType = ret) (hX : va_X b 5 xs s s.heap) (hbl : b < s.heap.size) (hbA : ¬ A b) (hAl : ∀ q, A q → s.heap.size ≤ q) (w : xW G A s (xW0 cy sv a) H locs) (hl : lv_has ls 7 [(4, .int 0), (3, .ref (a 39)), (2, .ref (a 31)), (1, .ref (a 0)), (0, .ref b)]) (hk : ((xs 0) &&& 63) = 63) : W p l e room_1 s m #[Value.ref b] below meth c H locs 40 1536 (lw_Z below #[Value.ref b] s) (F0 m 27 ls []) := by
  exact law_63_153 C hr hX hbl hbA hAl w hl hk
