theorem gw_0 : (Cond.methodLink "Twinindex" 3 ⟨"java/lang/Object", "<init>", "()V"⟩ : Cond) ∈ XG := xg 81 (by decide +kernel) (by decide +kernel)
theorem gw_1 : (Cond.instanceMethod ⟨"java/lang/Object", "<init>", "()V"⟩ : Cond) ∈ XG := xg 82 (by decide +kernel) (by decide +kernel)
theorem gw_2 : (Cond.classLink "Twinindex" 9 "Twinindex$Sheet" : Cond) ∈ XG := xg 84 (by decide +kernel) (by decide +kernel)
theorem gw_3 : (Cond.instantiable "Twinindex$Sheet" 2 : Cond) ∈ XG := xg 85 (by decide +kernel) (by decide +kernel)
theorem gw_4 : (Cond.initialized "Twinindex$Sheet" : Cond) ∈ XG := xg 47 (by decide +kernel) (by decide +kernel)
theorem gw_5 : (Cond.methodLink "Twinindex$Sheet" 3 ⟨"java/lang/Object", "<init>", "()V"⟩ : Cond) ∈ XG := xg 89 (by decide +kernel) (by decide +kernel)
theorem gw_6 : (Cond.classLink "Twinindex$Sheet" 9 "Twinindex$Row" : Cond) ∈ XG := xg 90 (by decide +kernel) (by decide +kernel)
theorem gw_7 : (Cond.instantiable "Twinindex$Row" 2 : Cond) ∈ XG := xg 91 (by decide +kernel) (by decide +kernel)
theorem gw_8 : (Cond.initialized "Twinindex$Row" : Cond) ∈ XG := xg 48 (by decide +kernel) (by decide +kernel)
theorem gw_9 : (Cond.methodLink "Twinindex$Row" 3 ⟨"java/lang/Object", "<init>", "()V"⟩ : Cond) ∈ XG := xg 95 (by decide +kernel) (by decide +kernel)
theorem gw_10 : (Cond.arrayClass .int : Cond) ∈ XG := xg 103 (by decide +kernel) (by decide +kernel)
theorem gw_11 : (Cond.fieldLink "Twinindex$Row" 9 "Twinindex$Row" "cells" "[I" : Cond) ∈ XG := xg 96 (by decide +kernel) (by decide +kernel)
theorem gw_12 : (Cond.fieldLink "Twinindex$Row" 15 "Twinindex$Row" "filled" "I" : Cond) ∈ XG := xg 97 (by decide +kernel) (by decide +kernel)
theorem gc_X2_init : (Cond.code yX2_init cX2_init 2 none : Cond) ∈ XG := xg 94 (by decide +kernel) (by decide +kernel)
theorem gw_14 : (Cond.methodLink "Twinindex$Sheet" 11 yX2_init : Cond) ∈ XG := xg 92 (by decide +kernel) (by decide +kernel)
theorem gw_15 : (Cond.instanceMethod yX2_init : Cond) ∈ XG := xg 93 (by decide +kernel) (by decide +kernel)
theorem gw_16 : (Cond.fieldLink "Twinindex$Sheet" 14 "Twinindex$Sheet" "sheetKeys" "LTwinindex$Row;" : Cond) ∈ XG := xg 104 (by decide +kernel) (by decide +kernel)
theorem gw_17 : (Cond.fieldLink "Twinindex$Sheet" 20 "Twinindex$Sheet" "sheetValues" "LTwinindex$Row;" : Cond) ∈ XG := xg 105 (by decide +kernel) (by decide +kernel)
theorem gc_X3_init : (Cond.code yX3_init cX3_init 1 none : Cond) ∈ XG := xg 88 (by decide +kernel) (by decide +kernel)
theorem gw_19 : (Cond.methodLink "Twinindex" 11 yX3_init : Cond) ∈ XG := xg 86 (by decide +kernel) (by decide +kernel)
theorem gw_20 : (Cond.instanceMethod yX3_init : Cond) ∈ XG := xg 87 (by decide +kernel) (by decide +kernel)
theorem gw_21 : (Cond.fieldLink "Twinindex" 12 "Twinindex" "pairs" "LTwinindex$Sheet;" : Cond) ∈ XG := xg 154 (by decide +kernel) (by decide +kernel)
theorem gw_22 : (Cond.classLink "Twinindex" 16 "Twinindex$Row" : Cond) ∈ XG := xg 111 (by decide +kernel) (by decide +kernel)
theorem gw_23 : (Cond.methodLink "Twinindex" 18 yX2_init : Cond) ∈ XG := xg 112 (by decide +kernel) (by decide +kernel)
theorem gw_24 : (Cond.fieldLink "Twinindex" 21 "Twinindex" "byUse" "LTwinindex$Row;" : Cond) ∈ XG := xg 155 (by decide +kernel) (by decide +kernel)
theorem gw_25 : (Cond.classLink "Twinindex" 25 "Twinindex$Past" : Cond) ∈ XG := xg 113 (by decide +kernel) (by decide +kernel)
theorem gw_26 : (Cond.instantiable "Twinindex$Past" 4 : Cond) ∈ XG := xg 114 (by decide +kernel) (by decide +kernel)
theorem gw_27 : (Cond.initialized "Twinindex$Past" : Cond) ∈ XG := xg 49 (by decide +kernel) (by decide +kernel)
theorem gw_28 : (Cond.methodLink "Twinindex$Past" 3 ⟨"java/lang/Object", "<init>", "()V"⟩ : Cond) ∈ XG := xg 118 (by decide +kernel) (by decide +kernel)
theorem gw_29 : (Cond.classLink "Twinindex$Past" 9 "Twinindex$Row" : Cond) ∈ XG := xg 119 (by decide +kernel) (by decide +kernel)
theorem gw_30 : (Cond.methodLink "Twinindex$Past" 11 yX2_init : Cond) ∈ XG := xg 120 (by decide +kernel) (by decide +kernel)
theorem gw_31 : (Cond.fieldLink "Twinindex$Past" 14 "Twinindex$Past" "noteKeys" "LTwinindex$Row;" : Cond) ∈ XG := xg 121 (by decide +kernel) (by decide +kernel)
theorem gw_32 : (Cond.fieldLink "Twinindex$Past" 20 "Twinindex$Past" "noteValues" "LTwinindex$Row;" : Cond) ∈ XG := xg 122 (by decide +kernel) (by decide +kernel)
theorem gw_33 : (Cond.fieldLink "Twinindex$Past" 23 "Twinindex$Past" "stepLengths" "LTwinindex$Row;" : Cond) ∈ XG := xg 123 (by decide +kernel) (by decide +kernel)
theorem gw_34 : (Cond.fieldLink "Twinindex$Past" 26 "Twinindex$Past" "openNotes" "I" : Cond) ∈ XG := xg 124 (by decide +kernel) (by decide +kernel)
theorem gc_X1_init : (Cond.code yX1_init cX1_init 1 none : Cond) ∈ XG := xg 117 (by decide +kernel) (by decide +kernel)
theorem gw_36 : (Cond.methodLink "Twinindex" 27 yX1_init : Cond) ∈ XG := xg 115 (by decide +kernel) (by decide +kernel)
theorem gw_37 : (Cond.instanceMethod yX1_init : Cond) ∈ XG := xg 116 (by decide +kernel) (by decide +kernel)
theorem gw_38 : (Cond.fieldLink "Twinindex" 28 "Twinindex" "past" "LTwinindex$Past;" : Cond) ∈ XG := xg 156 (by decide +kernel) (by decide +kernel)
theorem gw_39 : (Cond.fieldLink "Twinindex" 32 "Twinindex" "kept" "LTwinindex$Sheet;" : Cond) ∈ XG := xg 157 (by decide +kernel) (by decide +kernel)
theorem gw_40 : (Cond.classLink "Twinindex" 35 "Twinindex$Pager" : Cond) ∈ XG := xg 134 (by decide +kernel) (by decide +kernel)
theorem gw_41 : (Cond.fieldLink "Twinindex" 37 "Twinindex" "pagers" "[LTwinindex$Pager;" : Cond) ∈ XG := xg 158 (by decide +kernel) (by decide +kernel)
theorem gw_42 : (Cond.instantiable "Twinindex$Pager" 3 : Cond) ∈ XG := xg 136 (by decide +kernel) (by decide +kernel)
theorem gw_43 : (Cond.initialized "Twinindex$Pager" : Cond) ∈ XG := xg 50 (by decide +kernel) (by decide +kernel)
theorem gw_44 : (Cond.methodLink "Twinindex$Pager" 1 ⟨"java/lang/Object", "<init>", "()V"⟩ : Cond) ∈ XG := xg 140 (by decide +kernel) (by decide +kernel)
theorem gc_X0_init : (Cond.code yX0_init cX0_init 1 none : Cond) ∈ XG := xg 139 (by decide +kernel) (by decide +kernel)
theorem gw_46 : (Cond.instanceMethod yX0_init : Cond) ∈ XG := xg 138 (by decide +kernel) (by decide +kernel)
theorem gw_47 : (Cond.fieldLink "Twinindex" 42 "Twinindex" "knocks" "I" : Cond) ∈ XG := xg 159 (by decide +kernel) (by decide +kernel)
theorem gw_48 : (Cond.fieldLink "Twinindex" 46 "Twinindex" "chosen" "LTwinindex$Row;" : Cond) ∈ XG := xg 160 (by decide +kernel) (by decide +kernel)
theorem gw_49 : (Cond.fieldLink "Twinindex" 49 "Twinindex" "fresh" "LTwinindex$Sheet;" : Cond) ∈ XG := xg 161 (by decide +kernel) (by decide +kernel)
theorem dX0_init_0 : decode cX0_init 0 = .ok (.aload_n 0, 1) := by decide +kernel
theorem dX0_init_1 : decode cX0_init 1 = .ok (.invokespecial 1, 3) := by decide +kernel
theorem dX0_init_4 : decode cX0_init 4 = .ok (.return_, 1) := by decide +kernel
theorem dX1_init_0 : decode cX1_init 0 = .ok (.aload_n 0, 1) := by decide +kernel
theorem dX1_init_1 : decode cX1_init 1 = .ok (.invokespecial 3, 3) := by decide +kernel
theorem dX1_init_12 : decode cX1_init 12 = .ok (.invokespecial 11, 3) := by decide +kernel
theorem dX1_init_15 : decode cX1_init 15 = .ok (.putfield 14, 3) := by decide +kernel
theorem dX1_init_18 : decode cX1_init 18 = .ok (.aload_n 0, 1) := by decide +kernel
theorem dX1_init_19 : decode cX1_init 19 = .ok (.new 9, 3) := by decide +kernel
theorem dX1_init_22 : decode cX1_init 22 = .ok (.dup, 1) := by decide +kernel
theorem dX1_init_23 : decode cX1_init 23 = .ok (.sipush 624, 3) := by decide +kernel
theorem dX1_init_26 : decode cX1_init 26 = .ok (.invokespecial 11, 3) := by decide +kernel
theorem dX1_init_29 : decode cX1_init 29 = .ok (.putfield 20, 3) := by decide +kernel
theorem dX1_init_32 : decode cX1_init 32 = .ok (.aload_n 0, 1) := by decide +kernel
theorem dX1_init_33 : decode cX1_init 33 = .ok (.new 9, 3) := by decide +kernel
theorem dX1_init_36 : decode cX1_init 36 = .ok (.dup, 1) := by decide +kernel
theorem dX1_init_37 : decode cX1_init 37 = .ok (.bipush 12, 2) := by decide +kernel
theorem dX1_init_39 : decode cX1_init 39 = .ok (.invokespecial 11, 3) := by decide +kernel
theorem dX1_init_4 : decode cX1_init 4 = .ok (.aload_n 0, 1) := by decide +kernel
theorem dX1_init_42 : decode cX1_init 42 = .ok (.putfield 23, 3) := by decide +kernel
theorem dX1_init_45 : decode cX1_init 45 = .ok (.aload_n 0, 1) := by decide +kernel
theorem dX1_init_46 : decode cX1_init 46 = .ok (.iconst 0, 1) := by decide +kernel
theorem dX1_init_47 : decode cX1_init 47 = .ok (.putfield 26, 3) := by decide +kernel
theorem dX1_init_5 : decode cX1_init 5 = .ok (.new 9, 3) := by decide +kernel
theorem dX1_init_50 : decode cX1_init 50 = .ok (.return_, 1) := by decide +kernel
theorem dX1_init_8 : decode cX1_init 8 = .ok (.dup, 1) := by decide +kernel
theorem dX1_init_9 : decode cX1_init 9 = .ok (.sipush 624, 3) := by decide +kernel
theorem dX2_init_0 : decode cX2_init 0 = .ok (.aload_n 0, 1) := by decide +kernel
theorem dX2_init_1 : decode cX2_init 1 = .ok (.invokespecial 3, 3) := by decide +kernel
theorem dX2_init_10 : decode cX2_init 10 = .ok (.goto 4, 3) := by decide +kernel
theorem dX2_init_14 : decode cX2_init 14 = .ok (.newarray .int, 2) := by decide +kernel
theorem dX2_init_16 : decode cX2_init 16 = .ok (.putfield 9, 3) := by decide +kernel
theorem dX2_init_19 : decode cX2_init 19 = .ok (.aload_n 0, 1) := by decide +kernel
theorem dX2_init_20 : decode cX2_init 20 = .ok (.iconst 0, 1) := by decide +kernel
theorem dX2_init_21 : decode cX2_init 21 = .ok (.putfield 15, 3) := by decide +kernel
theorem dX2_init_24 : decode cX2_init 24 = .ok (.return_, 1) := by decide +kernel
theorem dX2_init_4 : decode cX2_init 4 = .ok (.aload_n 0, 1) := by decide +kernel
theorem dX2_init_5 : decode cX2_init 5 = .ok (.iload_n 1, 1) := by decide +kernel
theorem dX2_init_6 : decode cX2_init 6 = .ok (.ifCond .le 7, 3) := by decide +kernel
theorem dX2_init_9 : decode cX2_init 9 = .ok (.iload_n 1, 1) := by decide +kernel
theorem dX3_init_0 : decode cX3_init 0 = .ok (.aload_n 0, 1) := by decide +kernel
theorem dX3_init_1 : decode cX3_init 1 = .ok (.invokespecial 3, 3) := by decide +kernel
theorem dX3_init_11 : decode cX3_init 11 = .ok (.invokespecial 11, 3) := by decide +kernel
theorem dX3_init_14 : decode cX3_init 14 = .ok (.putfield 14, 3) := by decide +kernel
theorem dX3_init_17 : decode cX3_init 17 = .ok (.aload_n 0, 1) := by decide +kernel
theorem dX3_init_18 : decode cX3_init 18 = .ok (.new 9, 3) := by decide +kernel
theorem dX3_init_21 : decode cX3_init 21 = .ok (.dup, 1) := by decide +kernel
theorem dX3_init_22 : decode cX3_init 22 = .ok (.bipush 24, 2) := by decide +kernel
theorem dX3_init_24 : decode cX3_init 24 = .ok (.invokespecial 11, 3) := by decide +kernel
theorem dX3_init_27 : decode cX3_init 27 = .ok (.putfield 20, 3) := by decide +kernel
theorem dX3_init_30 : decode cX3_init 30 = .ok (.return_, 1) := by decide +kernel
theorem dX3_init_4 : decode cX3_init 4 = .ok (.aload_n 0, 1) := by decide +kernel
theorem dX3_init_5 : decode cX3_init 5 = .ok (.new 9, 3) := by decide +kernel
theorem dX3_init_8 : decode cX3_init 8 = .ok (.dup, 1) := by decide +kernel
theorem dX3_init_9 : decode cX3_init 9 = .ok (.bipush 24, 2) := by decide +kernel
theorem dX4_init_0 : decode cX4_init 0 = .ok (.aload_n 0, 1) := by decide +kernel
theorem dX4_init_1 : decode cX4_init 1 = .ok (.invokespecial 3, 3) := by decide +kernel
theorem dX4_init_102 : decode cX4_init 102 = .ok (.aload_n 0, 1) := by decide +kernel
theorem dX4_init_103 : decode cX4_init 103 = .ok (.new 9, 3) := by decide +kernel
theorem dX4_init_106 : decode cX4_init 106 = .ok (.dup, 1) := by decide +kernel
theorem dX4_init_107 : decode cX4_init 107 = .ok (.invokespecial 11, 3) := by decide +kernel
theorem dX4_init_110 : decode cX4_init 110 = .ok (.putfield 49, 3) := by decide +kernel
theorem dX4_init_113 : decode cX4_init 113 = .ok (.return_, 1) := by decide +kernel
theorem dX4_init_12 : decode cX4_init 12 = .ok (.putfield 12, 3) := by decide +kernel
theorem dX4_init_15 : decode cX4_init 15 = .ok (.aload_n 0, 1) := by decide +kernel
theorem dX4_init_16 : decode cX4_init 16 = .ok (.new 16, 3) := by decide +kernel
theorem dX4_init_19 : decode cX4_init 19 = .ok (.dup, 1) := by decide +kernel
theorem dX4_init_20 : decode cX4_init 20 = .ok (.bipush 24, 2) := by decide +kernel
theorem dX4_init_22 : decode cX4_init 22 = .ok (.invokespecial 18, 3) := by decide +kernel
theorem dX4_init_25 : decode cX4_init 25 = .ok (.putfield 21, 3) := by decide +kernel
theorem dX4_init_28 : decode cX4_init 28 = .ok (.aload_n 0, 1) := by decide +kernel
theorem dX4_init_29 : decode cX4_init 29 = .ok (.new 25, 3) := by decide +kernel
theorem dX4_init_32 : decode cX4_init 32 = .ok (.dup, 1) := by decide +kernel
theorem dX4_init_33 : decode cX4_init 33 = .ok (.invokespecial 27, 3) := by decide +kernel
theorem dX4_init_36 : decode cX4_init 36 = .ok (.putfield 28, 3) := by decide +kernel
theorem dX4_init_39 : decode cX4_init 39 = .ok (.aload_n 0, 1) := by decide +kernel
theorem dX4_init_4 : decode cX4_init 4 = .ok (.aload_n 0, 1) := by decide +kernel
theorem dX4_init_40 : decode cX4_init 40 = .ok (.new 9, 3) := by decide +kernel
theorem dX4_init_43 : decode cX4_init 43 = .ok (.dup, 1) := by decide +kernel
theorem dX4_init_44 : decode cX4_init 44 = .ok (.invokespecial 11, 3) := by decide +kernel
theorem dX4_init_47 : decode cX4_init 47 = .ok (.putfield 32, 3) := by decide +kernel
theorem dX4_init_5 : decode cX4_init 5 = .ok (.new 9, 3) := by decide +kernel
theorem dX4_init_50 : decode cX4_init 50 = .ok (.aload_n 0, 1) := by decide +kernel
theorem dX4_init_51 : decode cX4_init 51 = .ok (.iconst 3, 1) := by decide +kernel
theorem dX4_init_52 : decode cX4_init 52 = .ok (.anewarray 35, 3) := by decide +kernel
theorem dX4_init_55 : decode cX4_init 55 = .ok (.putfield 37, 3) := by decide +kernel
theorem dX4_init_58 : decode cX4_init 58 = .ok (.iconst 0, 1) := by decide +kernel
theorem dX4_init_59 : decode cX4_init 59 = .ok (.istore_n 1, 1) := by decide +kernel
theorem dX4_init_60 : decode cX4_init 60 = .ok (.iload_n 1, 1) := by decide +kernel
theorem dX4_init_61 : decode cX4_init 61 = .ok (.iconst 3, 1) := by decide +kernel
theorem dX4_init_62 : decode cX4_init 62 = .ok (.if_icmp .ge 22, 3) := by decide +kernel
theorem dX4_init_65 : decode cX4_init 65 = .ok (.aload_n 0, 1) := by decide +kernel
theorem dX4_init_66 : decode cX4_init 66 = .ok (.getfield 37, 3) := by decide +kernel
theorem dX4_init_69 : decode cX4_init 69 = .ok (.iload_n 1, 1) := by decide +kernel
theorem dX4_init_70 : decode cX4_init 70 = .ok (.new 35, 3) := by decide +kernel
theorem dX4_init_73 : decode cX4_init 73 = .ok (.dup, 1) := by decide +kernel
theorem dX4_init_74 : decode cX4_init 74 = .ok (.invokespecial 41, 3) := by decide +kernel
theorem dX4_init_77 : decode cX4_init 77 = .ok (.aastore, 1) := by decide +kernel
theorem dX4_init_78 : decode cX4_init 78 = .ok (.iinc 1 1, 3) := by decide +kernel
theorem dX4_init_8 : decode cX4_init 8 = .ok (.dup, 1) := by decide +kernel
theorem dX4_init_81 : decode cX4_init 81 = .ok (.goto (-21), 3) := by decide +kernel
theorem dX4_init_84 : decode cX4_init 84 = .ok (.aload_n 0, 1) := by decide +kernel
theorem dX4_init_85 : decode cX4_init 85 = .ok (.iconst 0, 1) := by decide +kernel
theorem dX4_init_86 : decode cX4_init 86 = .ok (.putfield 42, 3) := by decide +kernel
theorem dX4_init_89 : decode cX4_init 89 = .ok (.aload_n 0, 1) := by decide +kernel
theorem dX4_init_9 : decode cX4_init 9 = .ok (.invokespecial 11, 3) := by decide +kernel
theorem dX4_init_90 : decode cX4_init 90 = .ok (.new 16, 3) := by decide +kernel
theorem dX4_init_93 : decode cX4_init 93 = .ok (.dup, 1) := by decide +kernel
theorem dX4_init_94 : decode cX4_init 94 = .ok (.bipush 24, 2) := by decide +kernel
theorem dX4_init_96 : decode cX4_init 96 = .ok (.invokespecial 18, 3) := by decide +kernel
theorem dX4_init_99 : decode cX4_init 99 = .ok (.putfield 46, 3) := by decide +kernel
