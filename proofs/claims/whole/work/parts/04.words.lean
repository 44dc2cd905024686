theorem zW_l {w : Cond} {i : Nat} (h : lw_tbl[i]? = some w) (g : goodWord w = true) : w ∈ zW := zW_in (List.mem_of_getElem? h) g
theorem zW_ws {ws : List Cond} (ps : List Nat) (hp : ws = ps.filterMap (fun i => tables_1[i]?)) (h : ws.all goodWord = true) : ∀ w ∈ ws, w ∈ zW := by
  intro w hw
  have h1 := List.all_eq_true.mp h w hw
  rw [hp] at hw
  obtain ⟨i, -, hi⟩ := List.mem_filterMap.mp hw
  exact zW_t hi h1
theorem zTp1 {w : Cond} {i : Nat} (h : tables_1_1[i]? = some w) : w ∈ lw_tbl := List.mem_append_right _ (List.mem_append_left _ (List.mem_of_getElem? h))
theorem zTp2 {w : Cond} {i : Nat} (h : tables_1_2[i]? = some w) : w ∈ lw_tbl := List.mem_append_right _ (List.mem_append_right _ (List.mem_append_left _ (List.mem_of_getElem? h)))
theorem zTp3 {w : Cond} {i : Nat} (h : tables_1_3[i]? = some w) : w ∈ lw_tbl := List.mem_append_right _ (List.mem_append_right _ (List.mem_append_right _ (List.mem_append_left _ (List.mem_of_getElem? h))))
theorem zTp4 {w : Cond} {i : Nat} (h : tables_1_4[i]? = some w) : w ∈ lw_tbl := List.mem_append_right _ (List.mem_append_right _ (List.mem_append_right _ (List.mem_append_right _ (List.mem_append_left _ (List.mem_of_getElem? h)))))
theorem zTp5 {w : Cond} {i : Nat} (h : tables_1_5[i]? = some w) : w ∈ lw_tbl := List.mem_append_right _ (List.mem_append_right _ (List.mem_append_right _ (List.mem_append_right _ (List.mem_append_right _ (List.mem_append_left _ (List.mem_of_getElem? h))))))
theorem zTp6 {w : Cond} {i : Nat} (h : tables_1_6[i]? = some w) : w ∈ lw_tbl := List.mem_append_right _ (List.mem_append_right _ (List.mem_append_right _ (List.mem_append_right _ (List.mem_append_right _ (List.mem_append_right _ (List.mem_append_left _ (List.mem_of_getElem? h)))))))
theorem zTp7 {w : Cond} {i : Nat} (h : tables_1_7[i]? = some w) : w ∈ lw_tbl := List.mem_append_right _ (List.mem_append_right _ (List.mem_append_right _ (List.mem_append_right _ (List.mem_append_right _ (List.mem_append_right _ (List.mem_append_right _ (List.mem_append_left _ (List.mem_of_getElem? h))))))))
theorem zTp8 {w : Cond} {i : Nat} (h : tables_1_8[i]? = some w) : w ∈ lw_tbl := List.mem_append_right _ (List.mem_append_right _ (List.mem_append_right _ (List.mem_append_right _ (List.mem_append_right _ (List.mem_append_right _ (List.mem_append_right _ (List.mem_append_right _ ((List.mem_of_getElem? h)))))))))
set_option maxRecDepth 100000 in
theorem w_1 : (Jvm.Cond.initialized "Taskgraphic") ∈ zW := zW_in (zTp1 (i := 1) rfl) rfl
set_option maxRecDepth 100000 in
theorem w_2 : (Jvm.Cond.initialized "Taskgraphic$Graph") ∈ zW := zW_in (zTp1 (i := 2) rfl) rfl
set_option maxRecDepth 100000 in
theorem w_3 : (Jvm.Cond.initialized "java/util/AbstractCollection") ∈ zW := zW_in (zTp1 (i := 3) rfl) rfl
set_option maxRecDepth 100000 in
theorem w_4 : (Jvm.Cond.initialized "java/util/AbstractList") ∈ zW := zW_in (zTp1 (i := 4) rfl) rfl
set_option maxRecDepth 100000 in
theorem w_5 : (Jvm.Cond.initialized "java/util/ArrayList") ∈ zW := zW_in (zTp1 (i := 5) rfl) rfl
set_option maxRecDepth 100000 in
theorem w_6 : (Jvm.Cond.initialized "Taskgraphic$Node") ∈ zW := zW_in (zTp1 (i := 6) rfl) rfl
set_option maxRecDepth 100000 in
theorem w_9 : (Jvm.Cond.initialized "Taskgraphic$Rows") ∈ zW := zW_in (zTp1 (i := 9) rfl) rfl
set_option maxRecDepth 100000 in
theorem w_10 : (Jvm.Cond.initialized "Taskgraphic$Ints") ∈ zW := zW_in (zTp1 (i := 10) rfl) rfl
set_option maxRecDepth 100000 in
theorem w_11 : (Jvm.Cond.initialized "java/lang/Math") ∈ zW := zW_in (zTp1 (i := 11) rfl) rfl
set_option maxRecDepth 100000 in
theorem w_12 : (Jvm.Cond.initialized "Taskgraphic$Holding") ∈ zW := zW_in (zTp1 (i := 12) rfl) rfl
set_option maxRecDepth 100000 in
theorem w_13 : (Jvm.Cond.initialized "Taskgraphic$Cache") ∈ zW := zW_in (zTp1 (i := 13) rfl) rfl
set_option maxRecDepth 100000 in
theorem w_14 : (Jvm.Cond.initialized "Taskgraphic$Plan") ∈ zW := zW_in (zTp1 (i := 14) rfl) rfl
set_option maxRecDepth 100000 in
theorem w_15 : (Jvm.Cond.initialized "Taskgraphic$Stage") ∈ zW := zW_in (zTp1 (i := 15) rfl) rfl
set_option maxRecDepth 100000 in
theorem w_16 : (Jvm.Cond.initialized "Taskgraphic$Log") ∈ zW := zW_in (zTp1 (i := 16) rfl) rfl
set_option maxRecDepth 100000 in
theorem w_17 : (Jvm.Cond.initialized "Taskgraphic$Crew") ∈ zW := zW_in (zTp1 (i := 17) rfl) rfl
set_option maxRecDepth 100000 in
theorem w_18 : (Jvm.Cond.initialized "TaskgraphicModel") ∈ zW := zW_in (zTp1 (i := 18) rfl) rfl
set_option maxRecDepth 100000 in
theorem w_24 : (Jvm.Cond.initialized "java/util/Objects") ∈ zW := zW_in (zTp1 (i := 24) rfl) rfl
set_option maxRecDepth 100000 in
theorem w_25 : (Jvm.Cond.initialized "jdk/internal/util/Preconditions") ∈ zW := zW_in (zTp1 (i := 25) rfl) rfl
set_option maxRecDepth 100000 in
theorem w_26 : (Jvm.Cond.initialized "jdk/internal/util/ArraysSupport") ∈ zW := zW_in (zTp1 (i := 26) rfl) rfl
set_option maxRecDepth 100000 in
theorem w_27 : (Jvm.Cond.initialized "java/util/Arrays") ∈ zW := zW_in (zTp1 (i := 27) rfl) rfl
set_option maxRecDepth 100000 in
theorem w_30 : (Jvm.Cond.initialized "java/lang/Integer") ∈ zW := zW_in (zTp1 (i := 30) rfl) rfl
set_option maxRecDepth 100000 in
theorem w_31 : (Jvm.Cond.classLink "TaskgraphicLaw" (8 : Nat) "Taskgraphic") ∈ zW := zW_in (zTp1 (i := 31) rfl) rfl
set_option maxRecDepth 100000 in
theorem w_32 : (Jvm.Cond.instantiable "Taskgraphic" (9 : Nat)) ∈ zW := zW_in (zTp1 (i := 32) rfl) rfl
set_option maxRecDepth 100000 in
theorem w_33 : (Jvm.Cond.methodLink "TaskgraphicLaw" (113 : Nat) ({ cls := "Taskgraphic", name := "<init>", desc := "()V" } : Jvm.MethodName)) ∈ zW := zW_in (zTp1 (i := 33) rfl) rfl
set_option maxRecDepth 100000 in
theorem w_34 : (Jvm.Cond.instanceMethod ({ cls := "Taskgraphic", name := "<init>", desc := "()V" } : Jvm.MethodName)) ∈ zW := zW_in (zTp1 (i := 34) rfl) rfl
set_option maxRecDepth 100000 in
theorem w_35 : (Jvm.Cond.code ({ cls := "Taskgraphic", name := "<init>", desc := "()V" } : Jvm.MethodName) prog_1_method_1_code (1 : Nat) (Option.none : Option Jvm.ClassFile.FieldType)) ∈ zW := zW_in (zTp1 (i := 35) rfl) rfl
set_option maxRecDepth 100000 in
theorem w_36 : (Jvm.Cond.methodLink "Taskgraphic" (3 : Nat) ({ cls := "java/lang/Object", name := "<init>", desc := "()V" } : Jvm.MethodName)) ∈ zW := zW_in (zTp1 (i := 36) rfl) rfl
set_option maxRecDepth 100000 in
theorem w_39 : (Jvm.Cond.classLink "Taskgraphic" (13 : Nat) "Taskgraphic$Graph") ∈ zW := zW_in (zTp1 (i := 39) rfl) rfl
set_option maxRecDepth 100000 in
theorem w_40 : (Jvm.Cond.instantiable "Taskgraphic$Graph" (3 : Nat)) ∈ zW := zW_in (zTp1 (i := 40) rfl) rfl
set_option maxRecDepth 100000 in
theorem w_41 : (Jvm.Cond.methodLinkNest "Taskgraphic" (15 : Nat) ({ cls := "Taskgraphic$Graph", name := "<init>", desc := "()V" } : Jvm.MethodName) "Taskgraphic") ∈ zN := List.mem_filter.mpr ⟨zTp1 (i := 41) rfl, rfl⟩
set_option maxRecDepth 100000 in
theorem w_42 : (Jvm.Cond.instanceMethod ({ cls := "Taskgraphic$Graph", name := "<init>", desc := "()V" } : Jvm.MethodName)) ∈ zW := zW_in (zTp1 (i := 42) rfl) rfl
set_option maxRecDepth 100000 in
theorem w_43 : (Jvm.Cond.code ({ cls := "Taskgraphic$Graph", name := "<init>", desc := "()V" } : Jvm.MethodName) prog_4_method_1_code (1 : Nat) (Option.none : Option Jvm.ClassFile.FieldType)) ∈ zW := zW_in (zTp1 (i := 43) rfl) rfl
set_option maxRecDepth 100000 in
theorem w_44 : (Jvm.Cond.methodLink "Taskgraphic$Graph" (3 : Nat) ({ cls := "java/lang/Object", name := "<init>", desc := "()V" } : Jvm.MethodName)) ∈ zW := zW_in (zTp1 (i := 44) rfl) rfl
set_option maxRecDepth 100000 in
theorem w_45 : (Jvm.Cond.classLink "Taskgraphic$Graph" (9 : Nat) "java/util/ArrayList") ∈ zW := zW_in (zTp1 (i := 45) rfl) rfl
set_option maxRecDepth 100000 in
theorem w_46 : (Jvm.Cond.instantiable "java/util/ArrayList" (3 : Nat)) ∈ zW := zW_in (zTp1 (i := 46) rfl) rfl
set_option maxRecDepth 100000 in
theorem w_47 : (Jvm.Cond.methodLink "Taskgraphic$Graph" (11 : Nat) ({ cls := "java/util/ArrayList", name := "<init>", desc := "()V" } : Jvm.MethodName)) ∈ zW := zW_in (zTp1 (i := 47) rfl) rfl
set_option maxRecDepth 100000 in
theorem w_48 : (Jvm.Cond.instanceMethod ({ cls := "java/util/ArrayList", name := "<init>", desc := "()V" } : Jvm.MethodName)) ∈ zW := zW_in (zTp1 (i := 48) rfl) rfl
set_option maxRecDepth 100000 in
theorem w_49 : (Jvm.Cond.code ({ cls := "java/util/ArrayList", name := "<init>", desc := "()V" } : Jvm.MethodName) prog_31_method_2_code (1 : Nat) (Option.none : Option Jvm.ClassFile.FieldType)) ∈ zW := zW_in (zTp1 (i := 49) rfl) rfl
set_option maxRecDepth 100000 in
theorem w_50 : (Jvm.Cond.methodLink "java/util/ArrayList" (1 : Nat) ({ cls := "java/util/AbstractList", name := "<init>", desc := "()V" } : Jvm.MethodName)) ∈ zW := zW_in (zTp1 (i := 50) rfl) rfl
set_option maxRecDepth 100000 in
theorem w_51 : (Jvm.Cond.instanceMethod ({ cls := "java/util/AbstractList", name := "<init>", desc := "()V" } : Jvm.MethodName)) ∈ zW := zW_in (zTp1 (i := 51) rfl) rfl
set_option maxRecDepth 100000 in
theorem w_52 : (Jvm.Cond.code ({ cls := "java/util/AbstractList", name := "<init>", desc := "()V" } : Jvm.MethodName) prog_30_method_1_code (1 : Nat) (Option.none : Option Jvm.ClassFile.FieldType)) ∈ zW := zW_in (zTp1 (i := 52) rfl) rfl
set_option maxRecDepth 100000 in
theorem w_53 : (Jvm.Cond.methodLink "java/util/AbstractList" (1 : Nat) ({ cls := "java/util/AbstractCollection", name := "<init>", desc := "()V" } : Jvm.MethodName)) ∈ zW := zW_in (zTp1 (i := 53) rfl) rfl
set_option maxRecDepth 100000 in
theorem w_54 : (Jvm.Cond.instanceMethod ({ cls := "java/util/AbstractCollection", name := "<init>", desc := "()V" } : Jvm.MethodName)) ∈ zW := zW_in (zTp1 (i := 54) rfl) rfl
set_option maxRecDepth 100000 in
theorem w_55 : (Jvm.Cond.code ({ cls := "java/util/AbstractCollection", name := "<init>", desc := "()V" } : Jvm.MethodName) prog_29_method_1_code (1 : Nat) (Option.none : Option Jvm.ClassFile.FieldType)) ∈ zW := zW_in (zTp1 (i := 55) rfl) rfl
set_option maxRecDepth 100000 in
theorem w_56 : (Jvm.Cond.methodLink "java/util/AbstractCollection" (1 : Nat) ({ cls := "java/lang/Object", name := "<init>", desc := "()V" } : Jvm.MethodName)) ∈ zW := zW_in (zTp1 (i := 56) rfl) rfl
set_option maxRecDepth 100000 in
theorem w_59 : (Jvm.Cond.fieldLink "java/util/ArrayList" (9 : Nat) "java/util/ArrayList" "elementData" "[Ljava/lang/Object;") ∈ zW := zW_in (zTp1 (i := 59) rfl) rfl
set_option maxRecDepth 100000 in
theorem w_60 : (Jvm.Cond.fieldLink "java/util/ArrayList" (48 : Nat) "java/util/ArrayList" "size" "I") ∈ zW := zW_in (zTp1 (i := 60) rfl) rfl
set_option maxRecDepth 100000 in
theorem w_71 : (Jvm.Cond.classLink "Taskgraphic$Graph" (18 : Nat) "Taskgraphic$Node") ∈ zW := zW_in (zTp1 (i := 71) rfl) rfl
set_option maxRecDepth 100000 in
theorem w_72 : (Jvm.Cond.instantiable "Taskgraphic$Node" (15 : Nat)) ∈ zW := zW_in (zTp1 (i := 72) rfl) rfl
set_option maxRecDepth 100000 in
theorem w_73 : (Jvm.Cond.fieldLink "Taskgraphic$Graph" (20 : Nat) "Taskgraphic$Kind" "SOURCE" "LTaskgraphic$Kind;") ∈ zW := zW_in (zTp1 (i := 73) rfl) rfl
set_option maxRecDepth 100000 in
theorem w_75 : (Jvm.Cond.methodLink "Taskgraphic$Graph" (26 : Nat) ({ cls := "Taskgraphic$Node", name := "<init>", desc := "(LTaskgraphic$Kind;IIII)V" } : Jvm.MethodName)) ∈ zW := zW_in (zTp1 (i := 75) rfl) rfl
set_option maxRecDepth 100000 in
theorem w_76 : (Jvm.Cond.instanceMethod ({ cls := "Taskgraphic$Node", name := "<init>", desc := "(LTaskgraphic$Kind;IIII)V" } : Jvm.MethodName)) ∈ zW := zW_in (zTp1 (i := 76) rfl) rfl
set_option maxRecDepth 100000 in
theorem w_77 : (Jvm.Cond.code ({ cls := "Taskgraphic$Node", name := "<init>", desc := "(LTaskgraphic$Kind;IIII)V" } : Jvm.MethodName) prog_9_method_1_code (6 : Nat) (Option.none : Option Jvm.ClassFile.FieldType)) ∈ zW := zW_in (zTp1 (i := 77) rfl) rfl
set_option maxRecDepth 100000 in
theorem w_78 : (Jvm.Cond.methodLink "Taskgraphic$Node" (3 : Nat) ({ cls := "java/lang/Object", name := "<init>", desc := "()V" } : Jvm.MethodName)) ∈ zW := zW_in (zTp1 (i := 78) rfl) rfl
set_option maxRecDepth 100000 in
theorem w_79 : (Jvm.Cond.classLink "Taskgraphic$Node" (28 : Nat) "Taskgraphic$Rows") ∈ zW := zW_in (zTp1 (i := 79) rfl) rfl
set_option maxRecDepth 100000 in
theorem w_80 : (Jvm.Cond.instantiable "Taskgraphic$Rows" (6 : Nat)) ∈ zW := zW_in (zTp1 (i := 80) rfl) rfl
set_option maxRecDepth 100000 in
theorem w_81 : (Jvm.Cond.fieldLink "Taskgraphic$Node" (30 : Nat) "Taskgraphic$Kind" "SOURCE" "LTaskgraphic$Kind;") ∈ zW := zW_in (zTp1 (i := 81) rfl) rfl
set_option maxRecDepth 100000 in
theorem w_82 : (Jvm.Cond.methodLink "Taskgraphic$Node" (35 : Nat) ({ cls := "Taskgraphic$Rows", name := "<init>", desc := "(I)V" } : Jvm.MethodName)) ∈ zW := zW_in (zTp1 (i := 82) rfl) rfl
set_option maxRecDepth 100000 in
theorem w_83 : (Jvm.Cond.instanceMethod ({ cls := "Taskgraphic$Rows", name := "<init>", desc := "(I)V" } : Jvm.MethodName)) ∈ zW := zW_in (zTp1 (i := 83) rfl) rfl
set_option maxRecDepth 100000 in
theorem w_84 : (Jvm.Cond.code ({ cls := "Taskgraphic$Rows", name := "<init>", desc := "(I)V" } : Jvm.MethodName) prog_11_method_1_code (2 : Nat) (Option.none : Option Jvm.ClassFile.FieldType)) ∈ zW := zW_in (zTp1 (i := 84) rfl) rfl
set_option maxRecDepth 100000 in
theorem w_85 : (Jvm.Cond.methodLink "Taskgraphic$Rows" (3 : Nat) ({ cls := "java/lang/Object", name := "<init>", desc := "()V" } : Jvm.MethodName)) ∈ zW := zW_in (zTp1 (i := 85) rfl) rfl
set_option maxRecDepth 100000 in
theorem w_86 : (Jvm.Cond.classLink "Taskgraphic$Rows" (15 : Nat) "Taskgraphic$Ints") ∈ zW := zW_in (zTp1 (i := 86) rfl) rfl
set_option maxRecDepth 100000 in
theorem w_87 : (Jvm.Cond.instantiable "Taskgraphic$Ints" (1 : Nat)) ∈ zW := zW_in (zTp1 (i := 87) rfl) rfl
set_option maxRecDepth 100000 in
theorem w_88 : (Jvm.Cond.methodLink "Taskgraphic$Rows" (17 : Nat) ({ cls := "Taskgraphic$Ints", name := "<init>", desc := "(I)V" } : Jvm.MethodName)) ∈ zW := zW_in (zTp1 (i := 88) rfl) rfl
set_option maxRecDepth 100000 in
theorem w_89 : (Jvm.Cond.instanceMethod ({ cls := "Taskgraphic$Ints", name := "<init>", desc := "(I)V" } : Jvm.MethodName)) ∈ zW := zW_in (zTp1 (i := 89) rfl) rfl
set_option maxRecDepth 100000 in
theorem w_90 : (Jvm.Cond.code ({ cls := "Taskgraphic$Ints", name := "<init>", desc := "(I)V" } : Jvm.MethodName) prog_6_method_1_code (2 : Nat) (Option.none : Option Jvm.ClassFile.FieldType)) ∈ zW := zW_in (zTp1 (i := 90) rfl) rfl
set_option maxRecDepth 100000 in
theorem w_91 : (Jvm.Cond.methodLink "Taskgraphic$Ints" (1 : Nat) ({ cls := "java/lang/Object", name := "<init>", desc := "()V" } : Jvm.MethodName)) ∈ zW := zW_in (zTp1 (i := 91) rfl) rfl
set_option maxRecDepth 100000 in
theorem w_92 : (Jvm.Cond.methodLink "Taskgraphic$Ints" (7 : Nat) ({ cls := "java/lang/Math", name := "max", desc := "(II)I" } : Jvm.MethodName)) ∈ zW := zW_in (zTp1 (i := 92) rfl) rfl
set_option maxRecDepth 100000 in
theorem w_93 : (Jvm.Cond.static ({ cls := "java/lang/Math", name := "max", desc := "(II)I" } : Jvm.MethodName)) ∈ zW := zW_in (zTp1 (i := 93) rfl) rfl
set_option maxRecDepth 100000 in
theorem w_94 : (Jvm.Cond.code ({ cls := "java/lang/Math", name := "max", desc := "(II)I" } : Jvm.MethodName) prog_24_method_65_code (2 : Nat) (Option.some Jvm.ClassFile.FieldType.int)) ∈ zW := zW_in (zTp1 (i := 94) rfl) rfl
set_option maxRecDepth 100000 in
theorem w_95 : (Jvm.Cond.fieldLink "Taskgraphic$Ints" (13 : Nat) "Taskgraphic$Ints" "cells" "[I") ∈ zW := zW_in (zTp1 (i := 95) rfl) rfl
set_option maxRecDepth 100000 in
theorem w_100 : (Jvm.Cond.fieldLink "Taskgraphic$Rows" (9 : Nat) "Taskgraphic$Rows" "most" "I") ∈ zW := zW_in (zTp1 (i := 100) rfl) rfl
set_option maxRecDepth 100000 in
theorem w_101 : (Jvm.Cond.fieldLink "Taskgraphic$Rows" (20 : Nat) "Taskgraphic$Rows" "keys" "LTaskgraphic$Ints;") ∈ zW := zW_in (zTp1 (i := 101) rfl) rfl
set_option maxRecDepth 100000 in
theorem w_102 : (Jvm.Cond.fieldLink "Taskgraphic$Rows" (24 : Nat) "Taskgraphic$Rows" "values" "LTaskgraphic$Ints;") ∈ zW := zW_in (zTp1 (i := 102) rfl) rfl
set_option maxRecDepth 100000 in
theorem w_103 : (Jvm.Cond.fieldLink "Taskgraphic$Rows" (27 : Nat) "Taskgraphic$Rows" "ends" "LTaskgraphic$Ints;") ∈ zW := zW_in (zTp1 (i := 103) rfl) rfl
set_option maxRecDepth 100000 in
theorem w_104 : (Jvm.Cond.fieldLink "Taskgraphic$Rows" (30 : Nat) "Taskgraphic$Rows" "count" "I") ∈ zW := zW_in (zTp1 (i := 104) rfl) rfl
set_option maxRecDepth 100000 in
theorem w_105 : (Jvm.Cond.fieldLink "Taskgraphic$Rows" (33 : Nat) "Taskgraphic$Rows" "parts" "I") ∈ zW := zW_in (zTp1 (i := 105) rfl) rfl
set_option maxRecDepth 100000 in
theorem w_119 : (Jvm.Cond.fieldLink "Taskgraphic$Node" (9 : Nat) "Taskgraphic$Node" "kind" "LTaskgraphic$Kind;") ∈ zW := zW_in (zTp1 (i := 119) rfl) rfl
set_option maxRecDepth 100000 in
theorem w_120 : (Jvm.Cond.fieldLink "Taskgraphic" (103 : Nat) "Taskgraphic$Node" "kind" "LTaskgraphic$Kind;") ∈ zW := zW_in (zTp1 (i := 120) rfl) rfl
set_option maxRecDepth 100000 in
theorem w_121 : (Jvm.Cond.fieldLink "Taskgraphic$Holding" (65 : Nat) "Taskgraphic$Node" "kind" "LTaskgraphic$Kind;") ∈ zW := zW_in (zTp1 (i := 121) rfl) rfl
set_option maxRecDepth 100000 in
theorem w_122 : (Jvm.Cond.fieldLink "Taskgraphic$Plan" (95 : Nat) "Taskgraphic$Node" "kind" "LTaskgraphic$Kind;") ∈ zW := zW_in (zTp1 (i := 122) rfl) rfl
set_option maxRecDepth 100000 in
theorem w_123 : (Jvm.Cond.fieldLink "Taskgraphic$Node" (15 : Nat) "Taskgraphic$Node" "first" "I") ∈ zW := zW_in (zTp1 (i := 123) rfl) rfl
set_option maxRecDepth 100000 in
theorem w_124 : (Jvm.Cond.fieldLink "Taskgraphic$Graph" (45 : Nat) "Taskgraphic$Node" "first" "I") ∈ zW := zW_in (zTp1 (i := 124) rfl) rfl
set_option maxRecDepth 100000 in
theorem w_125 : (Jvm.Cond.fieldLink "Taskgraphic$Holding" (84 : Nat) "Taskgraphic$Node" "first" "I") ∈ zW := zW_in (zTp1 (i := 125) rfl) rfl
set_option maxRecDepth 100000 in
theorem w_126 : (Jvm.Cond.fieldLink "Taskgraphic$Plan" (125 : Nat) "Taskgraphic$Node" "first" "I") ∈ zW := zW_in (zTp1 (i := 126) rfl) rfl
set_option maxRecDepth 100000 in
theorem w_127 : (Jvm.Cond.fieldLink "Taskgraphic$Node" (19 : Nat) "Taskgraphic$Node" "second" "I") ∈ zW := zW_in (zTp1 (i := 127) rfl) rfl
set_option maxRecDepth 100000 in
theorem w_128 : (Jvm.Cond.fieldLink "Taskgraphic$Graph" (55 : Nat) "Taskgraphic$Node" "second" "I") ∈ zW := zW_in (zTp1 (i := 128) rfl) rfl
set_option maxRecDepth 100000 in
theorem w_129 : (Jvm.Cond.fieldLink "Taskgraphic$Holding" (74 : Nat) "Taskgraphic$Node" "second" "I") ∈ zW := zW_in (zTp1 (i := 129) rfl) rfl
set_option maxRecDepth 100000 in
theorem w_130 : (Jvm.Cond.fieldLink "Taskgraphic$Plan" (119 : Nat) "Taskgraphic$Node" "second" "I") ∈ zW := zW_in (zTp1 (i := 130) rfl) rfl
set_option maxRecDepth 100000 in
theorem w_131 : (Jvm.Cond.fieldLink "Taskgraphic$Node" (22 : Nat) "Taskgraphic$Node" "bound" "I") ∈ zW := zW_in (zTp1 (i := 131) rfl) rfl
set_option maxRecDepth 100000 in
theorem w_132 : (Jvm.Cond.fieldLink "Taskgraphic" (159 : Nat) "Taskgraphic$Node" "bound" "I") ∈ zW := zW_in (zTp1 (i := 132) rfl) rfl
set_option maxRecDepth 100000 in
theorem w_133 : (Jvm.Cond.fieldLink "Taskgraphic$Node" (25 : Nat) "Taskgraphic$Node" "width" "I") ∈ zW := zW_in (zTp1 (i := 133) rfl) rfl
set_option maxRecDepth 100000 in
theorem w_134 : (Jvm.Cond.fieldLink "Taskgraphic" (162 : Nat) "Taskgraphic$Node" "width" "I") ∈ zW := zW_in (zTp1 (i := 134) rfl) rfl
set_option maxRecDepth 100000 in
theorem w_135 : (Jvm.Cond.fieldLink "Taskgraphic$Node" (38 : Nat) "Taskgraphic$Node" "told" "LTaskgraphic$Rows;") ∈ zW := zW_in (zTp1 (i := 135) rfl) rfl
set_option maxRecDepth 100000 in
theorem w_136 : (Jvm.Cond.fieldLink "Taskgraphic" (106 : Nat) "Taskgraphic$Node" "told" "LTaskgraphic$Rows;") ∈ zW := zW_in (zTp1 (i := 136) rfl) rfl
set_option maxRecDepth 100000 in
theorem w_137 : (Jvm.Cond.fieldLink "Taskgraphic$Holding" (96 : Nat) "Taskgraphic$Node" "told" "LTaskgraphic$Rows;") ∈ zW := zW_in (zTp1 (i := 137) rfl) rfl
set_option maxRecDepth 100000 in
theorem w_138 : (Jvm.Cond.fieldLink "Taskgraphic$Node" (42 : Nat) "Taskgraphic$Node" "spread" "LTaskgraphic$Rows;") ∈ zW := zW_in (zTp1 (i := 138) rfl) rfl
set_option maxRecDepth 100000 in
theorem w_139 : (Jvm.Cond.fieldLink "Taskgraphic$Holding" (39 : Nat) "Taskgraphic$Node" "spread" "LTaskgraphic$Rows;") ∈ zW := zW_in (zTp1 (i := 139) rfl) rfl
set_option maxRecDepth 100000 in
theorem w_140 : (Jvm.Cond.fieldLink "Taskgraphic$Node" (45 : Nat) "Taskgraphic$Node" "inOnePlace" "LTaskgraphic$Rows;") ∈ zW := zW_in (zTp1 (i := 140) rfl) rfl
set_option maxRecDepth 100000 in
theorem w_141 : (Jvm.Cond.fieldLink "Taskgraphic$Holding" (34 : Nat) "Taskgraphic$Node" "inOnePlace" "LTaskgraphic$Rows;") ∈ zW := zW_in (zTp1 (i := 141) rfl) rfl
set_option maxRecDepth 100000 in
theorem w_142 : (Jvm.Cond.fieldLink "Taskgraphic" (89 : Nat) "Taskgraphic$Node" "toldPartitions" "I") ∈ zW := zW_in (zTp1 (i := 142) rfl) rfl
set_option maxRecDepth 100000 in
theorem w_143 : (Jvm.Cond.fieldLink "Taskgraphic$Holding" (87 : Nat) "Taskgraphic$Node" "toldPartitions" "I") ∈ zW := zW_in (zTp1 (i := 143) rfl) rfl
set_option maxRecDepth 100000 in
theorem w_144 : (Jvm.Cond.fieldLink "Taskgraphic$Plan" (131 : Nat) "Taskgraphic$Node" "toldPartitions" "I") ∈ zW := zW_in (zTp1 (i := 144) rfl) rfl
set_option maxRecDepth 100000 in
theorem w_145 : (Jvm.Cond.fieldLink "Taskgraphic$Node" (48 : Nat) "Taskgraphic$Node" "how" "I") ∈ zW := zW_in (zTp1 (i := 145) rfl) rfl
set_option maxRecDepth 100000 in
theorem w_146 : (Jvm.Cond.fieldLink "Taskgraphic" (144 : Nat) "Taskgraphic$Node" "how" "I") ∈ zW := zW_in (zTp1 (i := 146) rfl) rfl
set_option maxRecDepth 100000 in
theorem w_147 : (Jvm.Cond.fieldLink "Taskgraphic$Node" (51 : Nat) "Taskgraphic$Node" "constant" "I") ∈ zW := zW_in (zTp1 (i := 147) rfl) rfl
set_option maxRecDepth 100000 in
theorem w_148 : (Jvm.Cond.fieldLink "Taskgraphic" (147 : Nat) "Taskgraphic$Node" "constant" "I") ∈ zW := zW_in (zTp1 (i := 148) rfl) rfl
set_option maxRecDepth 100000 in
theorem w_149 : (Jvm.Cond.fieldLink "Taskgraphic" (153 : Nat) "Taskgraphic$Node" "low" "I") ∈ zW := zW_in (zTp1 (i := 149) rfl) rfl
set_option maxRecDepth 100000 in
theorem w_150 : (Jvm.Cond.fieldLink "Taskgraphic$Holding" (176 : Nat) "Taskgraphic$Node" "low" "I") ∈ zW := zW_in (zTp1 (i := 150) rfl) rfl
set_option maxRecDepth 100000 in
theorem w_151 : (Jvm.Cond.fieldLink "Taskgraphic" (156 : Nat) "Taskgraphic$Node" "high" "I") ∈ zW := zW_in (zTp1 (i := 151) rfl) rfl
set_option maxRecDepth 100000 in
theorem w_152 : (Jvm.Cond.fieldLink "Taskgraphic$Holding" (179 : Nat) "Taskgraphic$Node" "high" "I") ∈ zW := zW_in (zTp1 (i := 152) rfl) rfl
set_option maxRecDepth 100000 in
theorem w_153 : (Jvm.Cond.fieldLink "Taskgraphic" (261 : Nat) "Taskgraphic$Node" "marked" "Z") ∈ zW := zW_in (zTp1 (i := 153) rfl) rfl
set_option maxRecDepth 100000 in
theorem w_154 : (Jvm.Cond.fieldLink "Taskgraphic$Graph" (52 : Nat) "Taskgraphic$Node" "lineage" "I") ∈ zW := zW_in (zTp1 (i := 154) rfl) rfl
set_option maxRecDepth 100000 in
theorem w_155 : (Jvm.Cond.fieldLink "Taskgraphic$Holding" (46 : Nat) "Taskgraphic$Node" "lineage" "I") ∈ zW := zW_in (zTp1 (i := 155) rfl) rfl
set_option maxRecDepth 100000 in
theorem w_187 : (Jvm.Cond.fieldLink "Taskgraphic$Graph" (12 : Nat) "Taskgraphic$Graph" "made" "Ljava/util/ArrayList;") ∈ zW := zW_in (zTp1 (i := 187) rfl) rfl
set_option maxRecDepth 100000 in
theorem w_188 : (Jvm.Cond.fieldLink "Taskgraphic$Graph" (29 : Nat) "Taskgraphic$Graph" "none" "LTaskgraphic$Node;") ∈ zW := zW_in (zTp1 (i := 188) rfl) rfl
set_option maxRecDepth 100000 in
theorem w_189 : (Jvm.Cond.fieldLink "Taskgraphic$Graph" (33 : Nat) "Taskgraphic$Graph" "limit" "I") ∈ zW := zW_in (zTp1 (i := 189) rfl) rfl
set_option maxRecDepth 100000 in
theorem w_190 : (Jvm.Cond.fieldLink "Taskgraphic$Holding" (81 : Nat) "Taskgraphic$Graph" "limit" "I") ∈ zW := zW_in (zTp1 (i := 190) rfl) rfl
set_option maxRecDepth 100000 in
theorem w_191 : (Jvm.Cond.fieldLink "Taskgraphic" (249 : Nat) "Taskgraphic$Graph" "limit" "I") ∈ zW := zW_in (zTp1 (i := 191) rfl) rfl
set_option maxRecDepth 100000 in
theorem w_199 : (Jvm.Cond.classLink "Taskgraphic" (20 : Nat) "Taskgraphic$Holding") ∈ zW := zW_in (zTp1 (i := 199) rfl) rfl
set_option maxRecDepth 100000 in
theorem w_200 : (Jvm.Cond.instantiable "Taskgraphic$Holding" (4 : Nat)) ∈ zW := zW_in (zTp1 (i := 200) rfl) rfl
set_option maxRecDepth 100000 in
theorem w_201 : (Jvm.Cond.methodLink "Taskgraphic" (22 : Nat) ({ cls := "Taskgraphic$Holding", name := "<init>", desc := "(LTaskgraphic$Graph;Z)V" } : Jvm.MethodName)) ∈ zW := zW_in (zTp1 (i := 201) rfl) rfl
set_option maxRecDepth 100000 in
theorem w_202 : (Jvm.Cond.instanceMethod ({ cls := "Taskgraphic$Holding", name := "<init>", desc := "(LTaskgraphic$Graph;Z)V" } : Jvm.MethodName)) ∈ zW := zW_in (zTp1 (i := 202) rfl) rfl
set_option maxRecDepth 100000 in
theorem w_203 : (Jvm.Cond.code ({ cls := "Taskgraphic$Holding", name := "<init>", desc := "(LTaskgraphic$Graph;Z)V" } : Jvm.MethodName) prog_5_method_1_code (3 : Nat) (Option.none : Option Jvm.ClassFile.FieldType)) ∈ zW := zW_in (zTp1 (i := 203) rfl) rfl
set_option maxRecDepth 100000 in
theorem w_204 : (Jvm.Cond.methodLink "Taskgraphic$Holding" (3 : Nat) ({ cls := "java/lang/Object", name := "<init>", desc := "()V" } : Jvm.MethodName)) ∈ zW := zW_in (zTp1 (i := 204) rfl) rfl
set_option maxRecDepth 100000 in
theorem w_205 : (Jvm.Cond.classLink "Taskgraphic$Holding" (9 : Nat) "Taskgraphic$Rows") ∈ zW := zW_in (zTp1 (i := 205) rfl) rfl
set_option maxRecDepth 100000 in
theorem w_206 : (Jvm.Cond.methodLink "Taskgraphic$Holding" (11 : Nat) ({ cls := "Taskgraphic$Rows", name := "<init>", desc := "(I)V" } : Jvm.MethodName)) ∈ zW := zW_in (zTp1 (i := 206) rfl) rfl
set_option maxRecDepth 100000 in
theorem w_207 : (Jvm.Cond.fieldLink "Taskgraphic$Holding" (20 : Nat) "Taskgraphic$Holding" "graph" "LTaskgraphic$Graph;") ∈ zW := zW_in (zTp1 (i := 207) rfl) rfl
set_option maxRecDepth 100000 in
theorem w_208 : (Jvm.Cond.fieldLink "Taskgraphic$Holding" (24 : Nat) "Taskgraphic$Holding" "inPlace" "Z") ∈ zW := zW_in (zTp1 (i := 208) rfl) rfl
set_option maxRecDepth 100000 in
theorem w_209 : (Jvm.Cond.fieldLink "Taskgraphic$Holding" (14 : Nat) "Taskgraphic$Holding" "byKey" "LTaskgraphic$Rows;") ∈ zW := zW_in (zTp1 (i := 209) rfl) rfl
set_option maxRecDepth 100000 in
theorem w_210 : (Jvm.Cond.fieldLink "Taskgraphic$Holding" (42 : Nat) "Taskgraphic$Holding" "fresh" "I") ∈ zW := zW_in (zTp1 (i := 210) rfl) rfl
set_option maxRecDepth 100000 in
theorem w_220 : (Jvm.Cond.classLink "Taskgraphic" (32 : Nat) "Taskgraphic$Cache") ∈ zW := zW_in (zTp1 (i := 220) rfl) rfl
set_option maxRecDepth 100000 in
theorem w_221 : (Jvm.Cond.instantiable "Taskgraphic$Cache" (6 : Nat)) ∈ zW := zW_in (zTp1 (i := 221) rfl) rfl
set_option maxRecDepth 100000 in
theorem w_222 : (Jvm.Cond.methodLinkNest "Taskgraphic" (34 : Nat) ({ cls := "Taskgraphic$Cache", name := "<init>", desc := "()V" } : Jvm.MethodName) "Taskgraphic") ∈ zN := List.mem_filter.mpr ⟨zTp1 (i := 222) rfl, rfl⟩
set_option maxRecDepth 100000 in
theorem w_223 : (Jvm.Cond.instanceMethod ({ cls := "Taskgraphic$Cache", name := "<init>", desc := "()V" } : Jvm.MethodName)) ∈ zW := zW_in (zTp1 (i := 223) rfl) rfl
set_option maxRecDepth 100000 in
theorem w_224 : (Jvm.Cond.code ({ cls := "Taskgraphic$Cache", name := "<init>", desc := "()V" } : Jvm.MethodName) prog_2_method_1_code (1 : Nat) (Option.none : Option Jvm.ClassFile.FieldType)) ∈ zW := zW_in (zTp1 (i := 224) rfl) rfl
set_option maxRecDepth 100000 in
theorem w_225 : (Jvm.Cond.methodLink "Taskgraphic$Cache" (3 : Nat) ({ cls := "java/lang/Object", name := "<init>", desc := "()V" } : Jvm.MethodName)) ∈ zW := zW_in (zTp1 (i := 225) rfl) rfl
set_option maxRecDepth 100000 in
theorem w_226 : (Jvm.Cond.classLink "Taskgraphic$Cache" (9 : Nat) "Taskgraphic$Ints") ∈ zW := zW_in (zTp1 (i := 226) rfl) rfl
set_option maxRecDepth 100000 in
theorem w_227 : (Jvm.Cond.methodLink "Taskgraphic$Cache" (11 : Nat) ({ cls := "Taskgraphic$Ints", name := "<init>", desc := "(I)V" } : Jvm.MethodName)) ∈ zW := zW_in (zTp1 (i := 227) rfl) rfl
set_option maxRecDepth 100000 in
theorem w_228 : (Jvm.Cond.fieldLink "Taskgraphic$Cache" (14 : Nat) "Taskgraphic$Cache" "inOrder" "LTaskgraphic$Ints;") ∈ zW := zW_in (zTp1 (i := 228) rfl) rfl
set_option maxRecDepth 100000 in
theorem w_229 : (Jvm.Cond.fieldLink "Taskgraphic$Cache" (20 : Nat) "Taskgraphic$Cache" "sizes" "LTaskgraphic$Ints;") ∈ zW := zW_in (zTp1 (i := 229) rfl) rfl
set_option maxRecDepth 100000 in
theorem w_230 : (Jvm.Cond.fieldLink "Taskgraphic$Cache" (31 : Nat) "Taskgraphic$Cache" "count" "I") ∈ zW := zW_in (zTp1 (i := 230) rfl) rfl
set_option maxRecDepth 100000 in
theorem w_231 : (Jvm.Cond.fieldLink "Taskgraphic$Cache" (23 : Nat) "Taskgraphic$Cache" "members" "I") ∈ zW := zW_in (zTp1 (i := 231) rfl) rfl
set_option maxRecDepth 100000 in
theorem w_232 : (Jvm.Cond.fieldLink "Taskgraphic$Cache" (34 : Nat) "Taskgraphic$Cache" "filled" "I") ∈ zW := zW_in (zTp1 (i := 232) rfl) rfl
set_option maxRecDepth 100000 in
theorem w_233 : (Jvm.Cond.fieldLink "Taskgraphic$Cache" (48 : Nat) "Taskgraphic$Cache" "room" "I") ∈ zW := zW_in (zTp1 (i := 233) rfl) rfl
set_option maxRecDepth 100000 in
theorem w_234 : (Jvm.Cond.fieldLink "Taskgraphic" (255 : Nat) "Taskgraphic$Cache" "room" "I") ∈ zW := zW_in (zTp1 (i := 234) rfl) rfl
set_option maxRecDepth 100000 in
theorem w_248 : (Jvm.Cond.classLink "Taskgraphic" (39 : Nat) "Taskgraphic$Plan") ∈ zW := zW_in (zTp2 (i := 8) rfl) rfl
set_option maxRecDepth 100000 in
theorem w_249 : (Jvm.Cond.instantiable "Taskgraphic$Plan" (7 : Nat)) ∈ zW := zW_in (zTp2 (i := 9) rfl) rfl
set_option maxRecDepth 100000 in
theorem w_250 : (Jvm.Cond.methodLink "Taskgraphic" (41 : Nat) ({ cls := "Taskgraphic$Plan", name := "<init>", desc := "(LTaskgraphic$Graph;LTaskgraphic$Holding;LTaskgraphic$Cache;)V" } : Jvm.MethodName)) ∈ zW := zW_in (zTp2 (i := 10) rfl) rfl
set_option maxRecDepth 100000 in
theorem w_251 : (Jvm.Cond.instanceMethod ({ cls := "Taskgraphic$Plan", name := "<init>", desc := "(LTaskgraphic$Graph;LTaskgraphic$Holding;LTaskgraphic$Cache;)V" } : Jvm.MethodName)) ∈ zW := zW_in (zTp2 (i := 11) rfl) rfl
set_option maxRecDepth 100000 in
theorem w_252 : (Jvm.Cond.code ({ cls := "Taskgraphic$Plan", name := "<init>", desc := "(LTaskgraphic$Graph;LTaskgraphic$Holding;LTaskgraphic$Cache;)V" } : Jvm.MethodName) prog_10_method_1_code (4 : Nat) (Option.none : Option Jvm.ClassFile.FieldType)) ∈ zW := zW_in (zTp2 (i := 12) rfl) rfl
set_option maxRecDepth 100000 in
theorem w_253 : (Jvm.Cond.methodLink "Taskgraphic$Plan" (3 : Nat) ({ cls := "java/lang/Object", name := "<init>", desc := "()V" } : Jvm.MethodName)) ∈ zW := zW_in (zTp2 (i := 13) rfl) rfl
set_option maxRecDepth 100000 in
theorem w_254 : (Jvm.Cond.classLink "Taskgraphic$Plan" (9 : Nat) "Taskgraphic$Ints") ∈ zW := zW_in (zTp2 (i := 14) rfl) rfl
set_option maxRecDepth 100000 in
theorem w_255 : (Jvm.Cond.methodLink "Taskgraphic$Plan" (11 : Nat) ({ cls := "Taskgraphic$Ints", name := "<init>", desc := "(I)V" } : Jvm.MethodName)) ∈ zW := zW_in (zTp2 (i := 15) rfl) rfl
set_option maxRecDepth 100000 in
theorem w_256 : (Jvm.Cond.fieldLink "Taskgraphic$Plan" (20 : Nat) "Taskgraphic$Plan" "graph" "LTaskgraphic$Graph;") ∈ zW := zW_in (zTp2 (i := 16) rfl) rfl
set_option maxRecDepth 100000 in
theorem w_257 : (Jvm.Cond.fieldLink "Taskgraphic$Plan" (24 : Nat) "Taskgraphic$Plan" "holding" "LTaskgraphic$Holding;") ∈ zW := zW_in (zTp2 (i := 17) rfl) rfl
set_option maxRecDepth 100000 in
theorem w_258 : (Jvm.Cond.fieldLink "Taskgraphic$Plan" (28 : Nat) "Taskgraphic$Plan" "cache" "LTaskgraphic$Cache;") ∈ zW := zW_in (zTp2 (i := 18) rfl) rfl
set_option maxRecDepth 100000 in
theorem w_259 : (Jvm.Cond.fieldLink "Taskgraphic$Plan" (14 : Nat) "Taskgraphic$Plan" "reads" "LTaskgraphic$Ints;") ∈ zW := zW_in (zTp2 (i := 19) rfl) rfl
set_option maxRecDepth 100000 in
theorem w_260 : (Jvm.Cond.fieldLink "Taskgraphic$Plan" (32 : Nat) "Taskgraphic$Plan" "outputs" "I") ∈ zW := zW_in (zTp2 (i := 20) rfl) rfl
set_option maxRecDepth 100000 in
theorem w_261 : (Jvm.Cond.fieldLink "Taskgraphic" (281 : Nat) "Taskgraphic$Plan" "outputs" "I") ∈ zW := zW_in (zTp2 (i := 21) rfl) rfl
set_option maxRecDepth 100000 in
theorem w_262 : (Jvm.Cond.fieldLink "Taskgraphic$Plan" (49 : Nat) "Taskgraphic$Plan" "workedOut" "I") ∈ zW := zW_in (zTp2 (i := 22) rfl) rfl
set_option maxRecDepth 100000 in
theorem w_263 : (Jvm.Cond.fieldLink "Taskgraphic" (363 : Nat) "Taskgraphic$Plan" "workedOut" "I") ∈ zW := zW_in (zTp2 (i := 23) rfl) rfl
set_option maxRecDepth 100000 in
theorem w_264 : (Jvm.Cond.fieldLink "Taskgraphic$Plan" (52 : Nat) "Taskgraphic$Plan" "used" "I") ∈ zW := zW_in (zTp2 (i := 24) rfl) rfl
set_option maxRecDepth 100000 in
theorem w_265 : (Jvm.Cond.fieldLink "Taskgraphic" (357 : Nat) "Taskgraphic$Plan" "used" "I") ∈ zW := zW_in (zTp2 (i := 25) rfl) rfl
set_option maxRecDepth 100000 in
theorem w_281 : (Jvm.Cond.classLink "Taskgraphic" (48 : Nat) "Taskgraphic$Stage") ∈ zW := zW_in (zTp2 (i := 41) rfl) rfl
set_option maxRecDepth 100000 in
theorem w_282 : (Jvm.Cond.instantiable "Taskgraphic$Stage" (7 : Nat)) ∈ zW := zW_in (zTp2 (i := 42) rfl) rfl
set_option maxRecDepth 100000 in
theorem w_283 : (Jvm.Cond.methodLinkNest "Taskgraphic" (50 : Nat) ({ cls := "Taskgraphic$Stage", name := "<init>", desc := "()V" } : Jvm.MethodName) "Taskgraphic") ∈ zN := List.mem_filter.mpr ⟨zTp2 (i := 43) rfl, rfl⟩
set_option maxRecDepth 100000 in
theorem w_284 : (Jvm.Cond.instanceMethod ({ cls := "Taskgraphic$Stage", name := "<init>", desc := "()V" } : Jvm.MethodName)) ∈ zW := zW_in (zTp2 (i := 44) rfl) rfl
set_option maxRecDepth 100000 in
theorem w_285 : (Jvm.Cond.code ({ cls := "Taskgraphic$Stage", name := "<init>", desc := "()V" } : Jvm.MethodName) prog_12_method_1_code (1 : Nat) (Option.none : Option Jvm.ClassFile.FieldType)) ∈ zW := zW_in (zTp2 (i := 45) rfl) rfl
set_option maxRecDepth 100000 in
theorem w_286 : (Jvm.Cond.methodLink "Taskgraphic$Stage" (3 : Nat) ({ cls := "java/lang/Object", name := "<init>", desc := "()V" } : Jvm.MethodName)) ∈ zW := zW_in (zTp2 (i := 46) rfl) rfl
set_option maxRecDepth 100000 in
theorem w_287 : (Jvm.Cond.classLink "Taskgraphic$Stage" (9 : Nat) "Taskgraphic$Ints") ∈ zW := zW_in (zTp2 (i := 47) rfl) rfl
set_option maxRecDepth 100000 in
theorem w_288 : (Jvm.Cond.methodLink "Taskgraphic$Stage" (11 : Nat) ({ cls := "Taskgraphic$Ints", name := "<init>", desc := "(I)V" } : Jvm.MethodName)) ∈ zW := zW_in (zTp2 (i := 48) rfl) rfl
set_option maxRecDepth 100000 in
theorem w_289 : (Jvm.Cond.fieldLink "Taskgraphic$Stage" (14 : Nat) "Taskgraphic$Stage" "work" "LTaskgraphic$Ints;") ∈ zW := zW_in (zTp2 (i := 49) rfl) rfl
set_option maxRecDepth 100000 in
theorem w_290 : (Jvm.Cond.fieldLinkNest "Taskgraphic$Crew" (65 : Nat) "Taskgraphic$Stage" "work" "LTaskgraphic$Ints;" "Taskgraphic") ∈ zN := List.mem_filter.mpr ⟨zTp2 (i := 50) rfl, rfl⟩
set_option maxRecDepth 100000 in
theorem w_291 : (Jvm.Cond.fieldLinkNest "Taskgraphic" (354 : Nat) "Taskgraphic$Stage" "work" "LTaskgraphic$Ints;" "Taskgraphic") ∈ zN := List.mem_filter.mpr ⟨zTp2 (i := 51) rfl, rfl⟩
set_option maxRecDepth 100000 in
theorem w_292 : (Jvm.Cond.fieldLink "Taskgraphic$Stage" (20 : Nat) "Taskgraphic$Stage" "ends" "LTaskgraphic$Ints;") ∈ zW := zW_in (zTp2 (i := 52) rfl) rfl
set_option maxRecDepth 100000 in
theorem w_293 : (Jvm.Cond.fieldLinkNest "Taskgraphic$Crew" (83 : Nat) "Taskgraphic$Stage" "ends" "LTaskgraphic$Ints;" "Taskgraphic") ∈ zN := List.mem_filter.mpr ⟨zTp2 (i := 53) rfl, rfl⟩
set_option maxRecDepth 100000 in
theorem w_294 : (Jvm.Cond.fieldLink "Taskgraphic$Stage" (23 : Nat) "Taskgraphic$Stage" "attempts" "LTaskgraphic$Ints;") ∈ zW := zW_in (zTp2 (i := 54) rfl) rfl
set_option maxRecDepth 100000 in
theorem w_295 : (Jvm.Cond.fieldLinkNest "Taskgraphic$Crew" (86 : Nat) "Taskgraphic$Stage" "attempts" "LTaskgraphic$Ints;" "Taskgraphic") ∈ zN := List.mem_filter.mpr ⟨zTp2 (i := 55) rfl, rfl⟩
set_option maxRecDepth 100000 in
theorem w_296 : (Jvm.Cond.fieldLink "Taskgraphic$Stage" (26 : Nat) "Taskgraphic$Stage" "output" "I") ∈ zW := zW_in (zTp2 (i := 56) rfl) rfl
set_option maxRecDepth 100000 in
theorem w_297 : (Jvm.Cond.fieldLink "Taskgraphic$Crew" (68 : Nat) "Taskgraphic$Stage" "output" "I") ∈ zW := zW_in (zTp2 (i := 57) rfl) rfl
set_option maxRecDepth 100000 in
theorem w_298 : (Jvm.Cond.fieldLink "Taskgraphic$Stage" (30 : Nat) "Taskgraphic$Stage" "tasks" "I") ∈ zW := zW_in (zTp2 (i := 58) rfl) rfl
set_option maxRecDepth 100000 in
theorem w_299 : (Jvm.Cond.fieldLink "Taskgraphic$Crew" (41 : Nat) "Taskgraphic$Stage" "tasks" "I") ∈ zW := zW_in (zTp2 (i := 59) rfl) rfl
set_option maxRecDepth 100000 in
theorem w_300 : (Jvm.Cond.fieldLink "Taskgraphic$Stage" (33 : Nat) "Taskgraphic$Stage" "taken" "I") ∈ zW := zW_in (zTp2 (i := 60) rfl) rfl
set_option maxRecDepth 100000 in
theorem w_301 : (Jvm.Cond.fieldLink "Taskgraphic$Crew" (54 : Nat) "Taskgraphic$Stage" "taken" "I") ∈ zW := zW_in (zTp2 (i := 61) rfl) rfl
set_option maxRecDepth 100000 in
theorem w_302 : (Jvm.Cond.fieldLink "Taskgraphic$Stage" (36 : Nat) "Taskgraphic$Stage" "copied" "I") ∈ zW := zW_in (zTp2 (i := 62) rfl) rfl
set_option maxRecDepth 100000 in
theorem w_318 : (Jvm.Cond.classLink "Taskgraphic" (55 : Nat) "Taskgraphic$Log") ∈ zW := zW_in (zTp2 (i := 78) rfl) rfl
set_option maxRecDepth 100000 in
theorem w_319 : (Jvm.Cond.instantiable "Taskgraphic$Log" (10 : Nat)) ∈ zW := zW_in (zTp2 (i := 79) rfl) rfl
set_option maxRecDepth 100000 in
theorem w_320 : (Jvm.Cond.methodLinkNest "Taskgraphic" (57 : Nat) ({ cls := "Taskgraphic$Log", name := "<init>", desc := "()V" } : Jvm.MethodName) "Taskgraphic") ∈ zN := List.mem_filter.mpr ⟨zTp2 (i := 80) rfl, rfl⟩
set_option maxRecDepth 100000 in
theorem w_321 : (Jvm.Cond.instanceMethod ({ cls := "Taskgraphic$Log", name := "<init>", desc := "()V" } : Jvm.MethodName)) ∈ zW := zW_in (zTp2 (i := 81) rfl) rfl
set_option maxRecDepth 100000 in
theorem w_322 : (Jvm.Cond.code ({ cls := "Taskgraphic$Log", name := "<init>", desc := "()V" } : Jvm.MethodName) prog_8_method_1_code (1 : Nat) (Option.none : Option Jvm.ClassFile.FieldType)) ∈ zW := zW_in (zTp2 (i := 82) rfl) rfl
set_option maxRecDepth 100000 in
theorem w_323 : (Jvm.Cond.methodLink "Taskgraphic$Log" (3 : Nat) ({ cls := "java/lang/Object", name := "<init>", desc := "()V" } : Jvm.MethodName)) ∈ zW := zW_in (zTp2 (i := 83) rfl) rfl
set_option maxRecDepth 100000 in
theorem w_324 : (Jvm.Cond.classLink "Taskgraphic$Log" (9 : Nat) "Taskgraphic$Ints") ∈ zW := zW_in (zTp2 (i := 84) rfl) rfl
set_option maxRecDepth 100000 in
theorem w_325 : (Jvm.Cond.methodLink "Taskgraphic$Log" (11 : Nat) ({ cls := "Taskgraphic$Ints", name := "<init>", desc := "(I)V" } : Jvm.MethodName)) ∈ zW := zW_in (zTp2 (i := 85) rfl) rfl
set_option maxRecDepth 100000 in
theorem w_326 : (Jvm.Cond.fieldLink "Taskgraphic$Log" (14 : Nat) "Taskgraphic$Log" "outputs" "LTaskgraphic$Ints;") ∈ zW := zW_in (zTp2 (i := 86) rfl) rfl
set_option maxRecDepth 100000 in
theorem w_327 : (Jvm.Cond.fieldLinkNest "Taskgraphic" (310 : Nat) "Taskgraphic$Log" "outputs" "LTaskgraphic$Ints;" "Taskgraphic") ∈ zN := List.mem_filter.mpr ⟨zTp2 (i := 87) rfl, rfl⟩
set_option maxRecDepth 100000 in
theorem w_328 : (Jvm.Cond.fieldLink "Taskgraphic$Log" (20 : Nat) "Taskgraphic$Log" "parts" "LTaskgraphic$Ints;") ∈ zW := zW_in (zTp2 (i := 88) rfl) rfl
set_option maxRecDepth 100000 in
theorem w_329 : (Jvm.Cond.fieldLinkNest "Taskgraphic" (312 : Nat) "Taskgraphic$Log" "parts" "LTaskgraphic$Ints;" "Taskgraphic") ∈ zN := List.mem_filter.mpr ⟨zTp2 (i := 89) rfl, rfl⟩
set_option maxRecDepth 100000 in
theorem w_330 : (Jvm.Cond.fieldLink "Taskgraphic$Log" (23 : Nat) "Taskgraphic$Log" "workers" "LTaskgraphic$Ints;") ∈ zW := zW_in (zTp2 (i := 90) rfl) rfl
set_option maxRecDepth 100000 in
theorem w_331 : (Jvm.Cond.fieldLinkNest "Taskgraphic$Crew" (93 : Nat) "Taskgraphic$Log" "workers" "LTaskgraphic$Ints;" "Taskgraphic") ∈ zN := List.mem_filter.mpr ⟨zTp2 (i := 91) rfl, rfl⟩
set_option maxRecDepth 100000 in
theorem w_332 : (Jvm.Cond.fieldLinkNest "Taskgraphic" (314 : Nat) "Taskgraphic$Log" "workers" "LTaskgraphic$Ints;" "Taskgraphic") ∈ zN := List.mem_filter.mpr ⟨zTp2 (i := 92) rfl, rfl⟩
set_option maxRecDepth 100000 in
theorem w_333 : (Jvm.Cond.fieldLink "Taskgraphic$Log" (26 : Nat) "Taskgraphic$Log" "starts" "LTaskgraphic$Ints;") ∈ zW := zW_in (zTp2 (i := 93) rfl) rfl
set_option maxRecDepth 100000 in
theorem w_334 : (Jvm.Cond.fieldLinkNest "Taskgraphic" (317 : Nat) "Taskgraphic$Log" "starts" "LTaskgraphic$Ints;" "Taskgraphic") ∈ zN := List.mem_filter.mpr ⟨zTp2 (i := 94) rfl, rfl⟩
set_option maxRecDepth 100000 in
theorem w_335 : (Jvm.Cond.fieldLink "Taskgraphic$Log" (29 : Nat) "Taskgraphic$Log" "ends" "LTaskgraphic$Ints;") ∈ zW := zW_in (zTp2 (i := 95) rfl) rfl
set_option maxRecDepth 100000 in
theorem w_336 : (Jvm.Cond.fieldLinkNest "Taskgraphic$Crew" (89 : Nat) "Taskgraphic$Log" "ends" "LTaskgraphic$Ints;" "Taskgraphic") ∈ zN := List.mem_filter.mpr ⟨zTp2 (i := 96) rfl, rfl⟩
set_option maxRecDepth 100000 in
theorem w_337 : (Jvm.Cond.fieldLinkNest "Taskgraphic" (320 : Nat) "Taskgraphic$Log" "ends" "LTaskgraphic$Ints;" "Taskgraphic") ∈ zN := List.mem_filter.mpr ⟨zTp2 (i := 97) rfl, rfl⟩
set_option maxRecDepth 100000 in
theorem w_338 : (Jvm.Cond.fieldLink "Taskgraphic$Log" (32 : Nat) "Taskgraphic$Log" "copies" "LTaskgraphic$Ints;") ∈ zW := zW_in (zTp2 (i := 98) rfl) rfl
set_option maxRecDepth 100000 in
theorem w_339 : (Jvm.Cond.fieldLinkNest "Taskgraphic" (323 : Nat) "Taskgraphic$Log" "copies" "LTaskgraphic$Ints;" "Taskgraphic") ∈ zN := List.mem_filter.mpr ⟨zTp2 (i := 99) rfl, rfl⟩
set_option maxRecDepth 100000 in
theorem w_340 : (Jvm.Cond.fieldLink "Taskgraphic$Log" (35 : Nat) "Taskgraphic$Log" "count" "I") ∈ zW := zW_in (zTp2 (i := 100) rfl) rfl
set_option maxRecDepth 100000 in
theorem w_341 : (Jvm.Cond.fieldLink "Taskgraphic" (304 : Nat) "Taskgraphic$Log" "count" "I") ∈ zW := zW_in (zTp2 (i := 101) rfl) rfl
set_option maxRecDepth 100000 in
theorem w_342 : (Jvm.Cond.fieldLink "Taskgraphic" (295 : Nat) "Taskgraphic$Log" "ticks" "I") ∈ zW := zW_in (zTp2 (i := 102) rfl) rfl
set_option maxRecDepth 100000 in
theorem w_343 : (Jvm.Cond.fieldLink "Taskgraphic$Log" (39 : Nat) "Taskgraphic$Log" "spilled" "I") ∈ zW := zW_in (zTp2 (i := 103) rfl) rfl
set_option maxRecDepth 100000 in
theorem w_344 : (Jvm.Cond.fieldLink "Taskgraphic" (301 : Nat) "Taskgraphic$Log" "spilled" "I") ∈ zW := zW_in (zTp2 (i := 104) rfl) rfl
set_option maxRecDepth 100000 in
theorem w_345 : (Jvm.Cond.fieldLink "Taskgraphic$Log" (42 : Nat) "Taskgraphic$Log" "crewSize" "I") ∈ zW := zW_in (zTp2 (i := 105) rfl) rfl
set_option maxRecDepth 100000 in
theorem w_346 : (Jvm.Cond.fieldLink "Taskgraphic" (326 : Nat) "Taskgraphic$Log" "crewSize" "I") ∈ zW := zW_in (zTp2 (i := 106) rfl) rfl
set_option maxRecDepth 100000 in
theorem w_368 : (Jvm.Cond.classLink "Taskgraphic" (62 : Nat) "Taskgraphic$Crew") ∈ zW := zW_in (zTp2 (i := 128) rfl) rfl
set_option maxRecDepth 100000 in
theorem w_369 : (Jvm.Cond.instantiable "Taskgraphic$Crew" (4 : Nat)) ∈ zW := zW_in (zTp2 (i := 129) rfl) rfl
set_option maxRecDepth 100000 in
theorem w_370 : (Jvm.Cond.methodLink "Taskgraphic" (64 : Nat) ({ cls := "Taskgraphic$Crew", name := "<init>", desc := "(LTaskgraphic$Log;)V" } : Jvm.MethodName)) ∈ zW := zW_in (zTp2 (i := 130) rfl) rfl
set_option maxRecDepth 100000 in
theorem w_371 : (Jvm.Cond.instanceMethod ({ cls := "Taskgraphic$Crew", name := "<init>", desc := "(LTaskgraphic$Log;)V" } : Jvm.MethodName)) ∈ zW := zW_in (zTp2 (i := 131) rfl) rfl
set_option maxRecDepth 100000 in
theorem w_372 : (Jvm.Cond.code ({ cls := "Taskgraphic$Crew", name := "<init>", desc := "(LTaskgraphic$Log;)V" } : Jvm.MethodName) prog_3_method_1_code (3 : Nat) (Option.none : Option Jvm.ClassFile.FieldType)) ∈ zW := zW_in (zTp2 (i := 132) rfl) rfl
set_option maxRecDepth 100000 in
theorem w_373 : (Jvm.Cond.methodLink "Taskgraphic$Crew" (3 : Nat) ({ cls := "java/lang/Object", name := "<init>", desc := "()V" } : Jvm.MethodName)) ∈ zW := zW_in (zTp2 (i := 133) rfl) rfl
set_option maxRecDepth 100000 in
theorem w_374 : (Jvm.Cond.classLink "Taskgraphic$Crew" (9 : Nat) "Taskgraphic$Ints") ∈ zW := zW_in (zTp2 (i := 134) rfl) rfl
set_option maxRecDepth 100000 in
theorem w_375 : (Jvm.Cond.methodLink "Taskgraphic$Crew" (11 : Nat) ({ cls := "Taskgraphic$Ints", name := "<init>", desc := "(I)V" } : Jvm.MethodName)) ∈ zW := zW_in (zTp2 (i := 135) rfl) rfl
set_option maxRecDepth 100000 in
theorem w_376 : (Jvm.Cond.methodLink "Taskgraphic$Crew" (31 : Nat) ({ cls := "Taskgraphic$Ints", name := "set", desc := "(II)V" } : Jvm.MethodName)) ∈ zW := zW_in (zTp2 (i := 136) rfl) rfl
set_option maxRecDepth 100000 in
theorem w_377 : (Jvm.Cond.instanceMethod ({ cls := "Taskgraphic$Ints", name := "set", desc := "(II)V" } : Jvm.MethodName)) ∈ zW := zW_in (zTp2 (i := 137) rfl) rfl
set_option maxRecDepth 100000 in
theorem w_378 : (Jvm.Cond.selects "Taskgraphic$Ints" ({ cls := "Taskgraphic$Ints", name := "set", desc := "(II)V" } : Jvm.MethodName) ({ cls := "Taskgraphic$Ints", name := "set", desc := "(II)V" } : Jvm.MethodName)) ∈ zW := zW_in (zTp2 (i := 138) rfl) rfl
set_option maxRecDepth 100000 in
theorem w_379 : (Jvm.Cond.code ({ cls := "Taskgraphic$Ints", name := "set", desc := "(II)V" } : Jvm.MethodName) prog_6_method_3_code (3 : Nat) (Option.none : Option Jvm.ClassFile.FieldType)) ∈ zW := zW_in (zTp2 (i := 139) rfl) rfl
set_option maxRecDepth 100000 in
theorem w_380 : (Jvm.Cond.fieldLink "Taskgraphic$Crew" (27 : Nat) "Taskgraphic$Crew" "log" "LTaskgraphic$Log;") ∈ zW := zW_in (zTp2 (i := 140) rfl) rfl
set_option maxRecDepth 100000 in
theorem w_381 : (Jvm.Cond.fieldLink "Taskgraphic$Crew" (14 : Nat) "Taskgraphic$Crew" "slowness" "LTaskgraphic$Ints;") ∈ zW := zW_in (zTp2 (i := 141) rfl) rfl
set_option maxRecDepth 100000 in
theorem w_382 : (Jvm.Cond.fieldLinkNest "Taskgraphic" (235 : Nat) "Taskgraphic$Crew" "slowness" "LTaskgraphic$Ints;" "Taskgraphic") ∈ zN := List.mem_filter.mpr ⟨zTp2 (i := 142) rfl, rfl⟩
set_option maxRecDepth 100000 in
theorem w_383 : (Jvm.Cond.fieldLink "Taskgraphic$Crew" (20 : Nat) "Taskgraphic$Crew" "idleFrom" "LTaskgraphic$Ints;") ∈ zW := zW_in (zTp2 (i := 143) rfl) rfl
set_option maxRecDepth 100000 in
theorem w_384 : (Jvm.Cond.fieldLink "Taskgraphic$Crew" (23 : Nat) "Taskgraphic$Crew" "size" "I") ∈ zW := zW_in (zTp2 (i := 144) rfl) rfl
set_option maxRecDepth 100000 in
theorem w_385 : (Jvm.Cond.fieldLink "Taskgraphic" (226 : Nat) "Taskgraphic$Crew" "size" "I") ∈ zW := zW_in (zTp2 (i := 145) rfl) rfl
set_option maxRecDepth 100000 in
theorem w_395 : (Jvm.Cond.fieldLink "Taskgraphic" (16 : Nat) "Taskgraphic" "graph" "LTaskgraphic$Graph;") ∈ zW := zW_in (zTp2 (i := 155) rfl) rfl
set_option maxRecDepth 100000 in
theorem w_396 : (Jvm.Cond.fieldLink "Taskgraphic" (25 : Nat) "Taskgraphic" "spread" "LTaskgraphic$Holding;") ∈ zW := zW_in (zTp2 (i := 156) rfl) rfl
set_option maxRecDepth 100000 in
theorem w_397 : (Jvm.Cond.fieldLink "Taskgraphic" (29 : Nat) "Taskgraphic" "inOnePlace" "LTaskgraphic$Holding;") ∈ zW := zW_in (zTp2 (i := 157) rfl) rfl
set_option maxRecDepth 100000 in
theorem w_398 : (Jvm.Cond.fieldLink "Taskgraphic" (35 : Nat) "Taskgraphic" "cache" "LTaskgraphic$Cache;") ∈ zW := zW_in (zTp2 (i := 158) rfl) rfl
set_option maxRecDepth 100000 in
theorem w_399 : (Jvm.Cond.fieldLink "Taskgraphic" (44 : Nat) "Taskgraphic" "plan" "LTaskgraphic$Plan;") ∈ zW := zW_in (zTp2 (i := 159) rfl) rfl
set_option maxRecDepth 100000 in
theorem w_400 : (Jvm.Cond.fieldLink "Taskgraphic" (51 : Nat) "Taskgraphic" "stage" "LTaskgraphic$Stage;") ∈ zW := zW_in (zTp2 (i := 160) rfl) rfl
set_option maxRecDepth 100000 in
theorem w_401 : (Jvm.Cond.fieldLink "Taskgraphic" (67 : Nat) "Taskgraphic" "crew" "LTaskgraphic$Crew;") ∈ zW := zW_in (zTp2 (i := 161) rfl) rfl
set_option maxRecDepth 100000 in
theorem w_402 : (Jvm.Cond.fieldLink "Taskgraphic" (58 : Nat) "Taskgraphic" "log" "LTaskgraphic$Log;") ∈ zW := zW_in (zTp2 (i := 162) rfl) rfl
set_option maxRecDepth 100000 in
theorem w_403 : (Jvm.Cond.fieldLink "Taskgraphic" (9 : Nat) "Taskgraphic" "memory" "I") ∈ zW := zW_in (zTp2 (i := 163) rfl) rfl
set_option maxRecDepth 100000 in
theorem w_423 : (Jvm.Cond.methodLink "TaskgraphicLaw" (147 : Nat) ({ cls := "Taskgraphic", name := "nodes", desc := "()I" } : Jvm.MethodName)) ∈ zW := zW_in (zTp2 (i := 183) rfl) rfl
set_option maxRecDepth 100000 in
theorem w_424 : (Jvm.Cond.instanceMethod ({ cls := "Taskgraphic", name := "nodes", desc := "()I" } : Jvm.MethodName)) ∈ zW := zW_in (zTp2 (i := 184) rfl) rfl
set_option maxRecDepth 100000 in
theorem w_425 : (Jvm.Cond.selects "Taskgraphic" ({ cls := "Taskgraphic", name := "nodes", desc := "()I" } : Jvm.MethodName) ({ cls := "Taskgraphic", name := "nodes", desc := "()I" } : Jvm.MethodName)) ∈ zW := zW_in (zTp2 (i := 185) rfl) rfl
set_option maxRecDepth 100000 in
theorem w_426 : (Jvm.Cond.code ({ cls := "Taskgraphic", name := "nodes", desc := "()I" } : Jvm.MethodName) prog_1_method_9_code (1 : Nat) (Option.some Jvm.ClassFile.FieldType.int)) ∈ zW := zW_in (zTp2 (i := 186) rfl) rfl
set_option maxRecDepth 100000 in
theorem w_427 : (Jvm.Cond.methodLink "Taskgraphic" (186 : Nat) ({ cls := "Taskgraphic$Graph", name := "size", desc := "()I" } : Jvm.MethodName)) ∈ zW := zW_in (zTp2 (i := 187) rfl) rfl
set_option maxRecDepth 100000 in
theorem w_428 : (Jvm.Cond.instanceMethod ({ cls := "Taskgraphic$Graph", name := "size", desc := "()I" } : Jvm.MethodName)) ∈ zW := zW_in (zTp2 (i := 188) rfl) rfl
set_option maxRecDepth 100000 in
theorem w_429 : (Jvm.Cond.selects "Taskgraphic$Graph" ({ cls := "Taskgraphic$Graph", name := "size", desc := "()I" } : Jvm.MethodName) ({ cls := "Taskgraphic$Graph", name := "size", desc := "()I" } : Jvm.MethodName)) ∈ zW := zW_in (zTp2 (i := 189) rfl) rfl
set_option maxRecDepth 100000 in
theorem w_430 : (Jvm.Cond.code ({ cls := "Taskgraphic$Graph", name := "size", desc := "()I" } : Jvm.MethodName) prog_4_method_2_code (1 : Nat) (Option.some Jvm.ClassFile.FieldType.int)) ∈ zW := zW_in (zTp2 (i := 190) rfl) rfl
set_option maxRecDepth 100000 in
theorem w_431 : (Jvm.Cond.methodLink "Taskgraphic$Graph" (37 : Nat) ({ cls := "java/util/ArrayList", name := "size", desc := "()I" } : Jvm.MethodName)) ∈ zW := zW_in (zTp2 (i := 191) rfl) rfl
set_option maxRecDepth 100000 in
theorem w_432 : (Jvm.Cond.instanceMethod ({ cls := "java/util/ArrayList", name := "size", desc := "()I" } : Jvm.MethodName)) ∈ zW := zW_in (zTp2 (i := 192) rfl) rfl
set_option maxRecDepth 100000 in
theorem w_433 : (Jvm.Cond.selects "java/util/ArrayList" ({ cls := "java/util/ArrayList", name := "size", desc := "()I" } : Jvm.MethodName) ({ cls := "java/util/ArrayList", name := "size", desc := "()I" } : Jvm.MethodName)) ∈ zW := zW_in (zTp2 (i := 193) rfl) rfl
set_option maxRecDepth 100000 in
theorem w_434 : (Jvm.Cond.code ({ cls := "java/util/ArrayList", name := "size", desc := "()I" } : Jvm.MethodName) prog_31_method_8_code (1 : Nat) (Option.some Jvm.ClassFile.FieldType.int)) ∈ zW := zW_in (zTp2 (i := 194) rfl) rfl
set_option maxRecDepth 100000 in
theorem w_435 : (Jvm.Cond.methodLink "TaskgraphicLaw" (206 : Nat) ({ cls := "Taskgraphic", name := "ticks", desc := "()I" } : Jvm.MethodName)) ∈ zW := zW_in (zTp2 (i := 195) rfl) rfl
set_option maxRecDepth 100000 in
theorem w_436 : (Jvm.Cond.instanceMethod ({ cls := "Taskgraphic", name := "ticks", desc := "()I" } : Jvm.MethodName)) ∈ zW := zW_in (zTp2 (i := 196) rfl) rfl
set_option maxRecDepth 100000 in
theorem w_437 : (Jvm.Cond.selects "Taskgraphic" ({ cls := "Taskgraphic", name := "ticks", desc := "()I" } : Jvm.MethodName) ({ cls := "Taskgraphic", name := "ticks", desc := "()I" } : Jvm.MethodName)) ∈ zW := zW_in (zTp2 (i := 197) rfl) rfl
set_option maxRecDepth 100000 in
theorem w_438 : (Jvm.Cond.code ({ cls := "Taskgraphic", name := "ticks", desc := "()I" } : Jvm.MethodName) prog_1_method_28_code (1 : Nat) (Option.some Jvm.ClassFile.FieldType.int)) ∈ zW := zW_in (zTp2 (i := 198) rfl) rfl
set_option maxRecDepth 100000 in
theorem w_439 : (Jvm.Cond.methodLink "TaskgraphicLaw" (210 : Nat) ({ cls := "Taskgraphic", name := "spilled", desc := "()I" } : Jvm.MethodName)) ∈ zW := zW_in (zTp2 (i := 199) rfl) rfl
set_option maxRecDepth 100000 in
theorem w_440 : (Jvm.Cond.instanceMethod ({ cls := "Taskgraphic", name := "spilled", desc := "()I" } : Jvm.MethodName)) ∈ zW := zW_in (zTp2 (i := 200) rfl) rfl
set_option maxRecDepth 100000 in
theorem w_441 : (Jvm.Cond.selects "Taskgraphic" ({ cls := "Taskgraphic", name := "spilled", desc := "()I" } : Jvm.MethodName) ({ cls := "Taskgraphic", name := "spilled", desc := "()I" } : Jvm.MethodName)) ∈ zW := zW_in (zTp2 (i := 201) rfl) rfl
set_option maxRecDepth 100000 in
theorem w_442 : (Jvm.Cond.code ({ cls := "Taskgraphic", name := "spilled", desc := "()I" } : Jvm.MethodName) prog_1_method_29_code (1 : Nat) (Option.some Jvm.ClassFile.FieldType.int)) ∈ zW := zW_in (zTp2 (i := 202) rfl) rfl
set_option maxRecDepth 100000 in
theorem w_443 : (Jvm.Cond.methodLink "TaskgraphicLaw" (214 : Nat) ({ cls := "Taskgraphic", name := "attempts", desc := "()I" } : Jvm.MethodName)) ∈ zW := zW_in (zTp2 (i := 203) rfl) rfl
set_option maxRecDepth 100000 in
theorem w_444 : (Jvm.Cond.instanceMethod ({ cls := "Taskgraphic", name := "attempts", desc := "()I" } : Jvm.MethodName)) ∈ zW := zW_in (zTp2 (i := 204) rfl) rfl
set_option maxRecDepth 100000 in
theorem w_445 : (Jvm.Cond.selects "Taskgraphic" ({ cls := "Taskgraphic", name := "attempts", desc := "()I" } : Jvm.MethodName) ({ cls := "Taskgraphic", name := "attempts", desc := "()I" } : Jvm.MethodName)) ∈ zW := zW_in (zTp2 (i := 205) rfl) rfl
set_option maxRecDepth 100000 in
theorem w_446 : (Jvm.Cond.code ({ cls := "Taskgraphic", name := "attempts", desc := "()I" } : Jvm.MethodName) prog_1_method_30_code (1 : Nat) (Option.some Jvm.ClassFile.FieldType.int)) ∈ zW := zW_in (zTp2 (i := 206) rfl) rfl
set_option maxRecDepth 100000 in
theorem w_447 : (Jvm.Cond.methodLink "TaskgraphicLaw" (236 : Nat) ({ cls := "Taskgraphic", name := "share", desc := "()F" } : Jvm.MethodName)) ∈ zW := zW_in (zTp2 (i := 207) rfl) rfl
set_option maxRecDepth 100000 in
theorem w_448 : (Jvm.Cond.instanceMethod ({ cls := "Taskgraphic", name := "share", desc := "()F" } : Jvm.MethodName)) ∈ zW := zW_in (zTp2 (i := 208) rfl) rfl
set_option maxRecDepth 100000 in
theorem w_449 : (Jvm.Cond.selects "Taskgraphic" ({ cls := "Taskgraphic", name := "share", desc := "()F" } : Jvm.MethodName) ({ cls := "Taskgraphic", name := "share", desc := "()F" } : Jvm.MethodName)) ∈ zW := zW_in (zTp2 (i := 209) rfl) rfl
set_option maxRecDepth 100000 in
theorem w_450 : (Jvm.Cond.code ({ cls := "Taskgraphic", name := "share", desc := "()F" } : Jvm.MethodName) prog_1_method_37_code (2 : Nat) (Option.some Jvm.ClassFile.FieldType.float)) ∈ zW := zW_in (zTp2 (i := 210) rfl) rfl
set_option maxRecDepth 100000 in
theorem w_451 : (Jvm.Cond.methodLink "Taskgraphic" (329 : Nat) ({ cls := "Taskgraphic$Log", name := "ticksOfAttempts", desc := "()I" } : Jvm.MethodName)) ∈ zW := zW_in (zTp2 (i := 211) rfl) rfl
set_option maxRecDepth 100000 in
theorem w_452 : (Jvm.Cond.instanceMethod ({ cls := "Taskgraphic$Log", name := "ticksOfAttempts", desc := "()I" } : Jvm.MethodName)) ∈ zW := zW_in (zTp2 (i := 212) rfl) rfl
set_option maxRecDepth 100000 in
theorem w_453 : (Jvm.Cond.selects "Taskgraphic$Log" ({ cls := "Taskgraphic$Log", name := "ticksOfAttempts", desc := "()I" } : Jvm.MethodName) ({ cls := "Taskgraphic$Log", name := "ticksOfAttempts", desc := "()I" } : Jvm.MethodName)) ∈ zW := zW_in (zTp2 (i := 213) rfl) rfl
set_option maxRecDepth 100000 in
theorem w_454 : (Jvm.Cond.code ({ cls := "Taskgraphic$Log", name := "ticksOfAttempts", desc := "()I" } : Jvm.MethodName) prog_8_method_4_code (3 : Nat) (Option.some Jvm.ClassFile.FieldType.int)) ∈ zW := zW_in (zTp2 (i := 214) rfl) rfl
set_option maxRecDepth 100000 in
theorem w_455 : (Jvm.Cond.methodLink "Taskgraphic$Log" (49 : Nat) ({ cls := "Taskgraphic$Ints", name := "at", desc := "(I)I" } : Jvm.MethodName)) ∈ zW := zW_in (zTp2 (i := 215) rfl) rfl
set_option maxRecDepth 100000 in
theorem w_456 : (Jvm.Cond.instanceMethod ({ cls := "Taskgraphic$Ints", name := "at", desc := "(I)I" } : Jvm.MethodName)) ∈ zW := zW_in (zTp2 (i := 216) rfl) rfl
set_option maxRecDepth 100000 in
theorem w_457 : (Jvm.Cond.selects "Taskgraphic$Ints" ({ cls := "Taskgraphic$Ints", name := "at", desc := "(I)I" } : Jvm.MethodName) ({ cls := "Taskgraphic$Ints", name := "at", desc := "(I)I" } : Jvm.MethodName)) ∈ zW := zW_in (zTp2 (i := 217) rfl) rfl
set_option maxRecDepth 100000 in
theorem w_458 : (Jvm.Cond.code ({ cls := "Taskgraphic$Ints", name := "at", desc := "(I)I" } : Jvm.MethodName) prog_6_method_2_code (2 : Nat) (Option.some Jvm.ClassFile.FieldType.int)) ∈ zW := zW_in (zTp2 (i := 218) rfl) rfl
set_option maxRecDepth 100000 in
theorem w_464 : (Jvm.Cond.methodLink "TaskgraphicLaw" (7 : Nat) ({ cls := "Taskgraphic", name := "source", desc := "(I)I" } : Jvm.MethodName)) ∈ zW := zW_in (zTp2 (i := 224) rfl) rfl
set_option maxRecDepth 100000 in
theorem w_465 : (Jvm.Cond.instanceMethod ({ cls := "Taskgraphic", name := "source", desc := "(I)I" } : Jvm.MethodName)) ∈ zW := zW_in (zTp2 (i := 225) rfl) rfl
set_option maxRecDepth 100000 in
theorem w_466 : (Jvm.Cond.selects "Taskgraphic" ({ cls := "Taskgraphic", name := "source", desc := "(I)I" } : Jvm.MethodName) ({ cls := "Taskgraphic", name := "source", desc := "(I)I" } : Jvm.MethodName)) ∈ zW := zW_in (zTp2 (i := 226) rfl) rfl
set_option maxRecDepth 100000 in
theorem w_467 : (Jvm.Cond.code ({ cls := "Taskgraphic", name := "source", desc := "(I)I" } : Jvm.MethodName) prog_1_method_2_code (3 : Nat) (Option.some Jvm.ClassFile.FieldType.int)) ∈ zW := zW_in (zTp2 (i := 227) rfl) rfl
set_option maxRecDepth 100000 in
theorem w_468 : (Jvm.Cond.methodLink "Taskgraphic" (71 : Nat) ({ cls := "Taskgraphic", name := "checkToldPartitions", desc := "(I)V" } : Jvm.MethodName)) ∈ zW := zW_in (zTp2 (i := 228) rfl) rfl
set_option maxRecDepth 100000 in
theorem w_469 : (Jvm.Cond.static ({ cls := "Taskgraphic", name := "checkToldPartitions", desc := "(I)V" } : Jvm.MethodName)) ∈ zW := zW_in (zTp2 (i := 229) rfl) rfl
set_option maxRecDepth 100000 in
theorem w_470 : (Jvm.Cond.code ({ cls := "Taskgraphic", name := "checkToldPartitions", desc := "(I)V" } : Jvm.MethodName) prog_1_method_41_code (1 : Nat) (Option.none : Option Jvm.ClassFile.FieldType)) ∈ zW := zW_in (zTp2 (i := 230) rfl) rfl
set_option maxRecDepth 100000 in
theorem w_539 : (Jvm.Cond.methodLink "Taskgraphic" (75 : Nat) ({ cls := "Taskgraphic", name := "checkAnotherNode", desc := "()V" } : Jvm.MethodName)) ∈ zW := zW_in (zTp3 (i := 59) rfl) rfl
set_option maxRecDepth 100000 in
theorem w_541 : (Jvm.Cond.instanceMethod ({ cls := "Taskgraphic", name := "checkAnotherNode", desc := "()V" } : Jvm.MethodName)) ∈ zW := zW_in (zTp3 (i := 61) rfl) rfl
set_option maxRecDepth 100000 in
theorem w_542 : (Jvm.Cond.code ({ cls := "Taskgraphic", name := "checkAnotherNode", desc := "()V" } : Jvm.MethodName) prog_1_method_39_code (1 : Nat) (Option.none : Option Jvm.ClassFile.FieldType)) ∈ zW := zW_in (zTp3 (i := 62) rfl) rfl
set_option maxRecDepth 100000 in
theorem w_559 : (Jvm.Cond.classLink "Taskgraphic" (78 : Nat) "Taskgraphic$Node") ∈ zW := zW_in (zTp3 (i := 79) rfl) rfl
set_option maxRecDepth 100000 in
theorem w_560 : (Jvm.Cond.fieldLink "Taskgraphic" (80 : Nat) "Taskgraphic$Kind" "SOURCE" "LTaskgraphic$Kind;") ∈ zW := zW_in (zTp3 (i := 80) rfl) rfl
set_option maxRecDepth 100000 in
theorem w_561 : (Jvm.Cond.methodLink "Taskgraphic" (86 : Nat) ({ cls := "Taskgraphic$Node", name := "<init>", desc := "(LTaskgraphic$Kind;IIII)V" } : Jvm.MethodName)) ∈ zW := zW_in (zTp3 (i := 81) rfl) rfl
set_option maxRecDepth 100000 in
theorem w_562 : (Jvm.Cond.methodLink "Taskgraphic" (92 : Nat) ({ cls := "Taskgraphic$Graph", name := "add", desc := "(LTaskgraphic$Node;)I" } : Jvm.MethodName)) ∈ zW := zW_in (zTp3 (i := 82) rfl) rfl
set_option maxRecDepth 100000 in
theorem w_563 : (Jvm.Cond.instanceMethod ({ cls := "Taskgraphic$Graph", name := "add", desc := "(LTaskgraphic$Node;)I" } : Jvm.MethodName)) ∈ zW := zW_in (zTp3 (i := 83) rfl) rfl
set_option maxRecDepth 100000 in
theorem w_564 : (Jvm.Cond.selects "Taskgraphic$Graph" ({ cls := "Taskgraphic$Graph", name := "add", desc := "(LTaskgraphic$Node;)I" } : Jvm.MethodName) ({ cls := "Taskgraphic$Graph", name := "add", desc := "(LTaskgraphic$Node;)I" } : Jvm.MethodName)) ∈ zW := zW_in (zTp3 (i := 84) rfl) rfl
set_option maxRecDepth 100000 in
theorem w_565 : (Jvm.Cond.code ({ cls := "Taskgraphic$Graph", name := "add", desc := "(LTaskgraphic$Node;)I" } : Jvm.MethodName) prog_4_method_4_code (4 : Nat) (Option.some Jvm.ClassFile.FieldType.int)) ∈ zW := zW_in (zTp3 (i := 85) rfl) rfl
set_option maxRecDepth 100000 in
theorem w_566 : (Jvm.Cond.methodLink "Taskgraphic$Graph" (48 : Nat) ({ cls := "Taskgraphic$Graph", name := "at", desc := "(I)LTaskgraphic$Node;" } : Jvm.MethodName)) ∈ zW := zW_in (zTp3 (i := 86) rfl) rfl
set_option maxRecDepth 100000 in
theorem w_567 : (Jvm.Cond.instanceMethod ({ cls := "Taskgraphic$Graph", name := "at", desc := "(I)LTaskgraphic$Node;" } : Jvm.MethodName)) ∈ zW := zW_in (zTp3 (i := 87) rfl) rfl
set_option maxRecDepth 100000 in
theorem w_568 : (Jvm.Cond.selects "Taskgraphic$Graph" ({ cls := "Taskgraphic$Graph", name := "at", desc := "(I)LTaskgraphic$Node;" } : Jvm.MethodName) ({ cls := "Taskgraphic$Graph", name := "at", desc := "(I)LTaskgraphic$Node;" } : Jvm.MethodName)) ∈ zW := zW_in (zTp3 (i := 88) rfl) rfl
set_option maxRecDepth 100000 in
theorem w_569 : (Jvm.Cond.code ({ cls := "Taskgraphic$Graph", name := "at", desc := "(I)LTaskgraphic$Node;" } : Jvm.MethodName) prog_4_method_3_code (2 : Nat) (Option.some (Jvm.ClassFile.FieldType.object "Taskgraphic$Node"))) ∈ zW := zW_in (zTp3 (i := 89) rfl) rfl
set_option maxRecDepth 100000 in
theorem w_570 : (Jvm.Cond.methodLink "Taskgraphic$Graph" (41 : Nat) ({ cls := "java/util/ArrayList", name := "get", desc := "(I)Ljava/lang/Object;" } : Jvm.MethodName)) ∈ zW := zW_in (zTp3 (i := 90) rfl) rfl
set_option maxRecDepth 100000 in
theorem w_571 : (Jvm.Cond.instanceMethod ({ cls := "java/util/ArrayList", name := "get", desc := "(I)Ljava/lang/Object;" } : Jvm.MethodName)) ∈ zW := zW_in (zTp3 (i := 91) rfl) rfl
set_option maxRecDepth 100000 in
theorem w_572 : (Jvm.Cond.selects "java/util/ArrayList" ({ cls := "java/util/ArrayList", name := "get", desc := "(I)Ljava/lang/Object;" } : Jvm.MethodName) ({ cls := "java/util/ArrayList", name := "get", desc := "(I)Ljava/lang/Object;" } : Jvm.MethodName)) ∈ zW := zW_in (zTp3 (i := 92) rfl) rfl
set_option maxRecDepth 100000 in
theorem w_573 : (Jvm.Cond.code ({ cls := "java/util/ArrayList", name := "get", desc := "(I)Ljava/lang/Object;" } : Jvm.MethodName) prog_31_method_20_code (2 : Nat) (Option.some (Jvm.ClassFile.FieldType.object "java/lang/Object"))) ∈ zW := zW_in (zTp3 (i := 93) rfl) rfl
set_option maxRecDepth 100000 in
theorem w_574 : (Jvm.Cond.methodLink "java/util/ArrayList" (118 : Nat) ({ cls := "java/util/Objects", name := "checkIndex", desc := "(II)I" } : Jvm.MethodName)) ∈ zW := zW_in (zTp3 (i := 94) rfl) rfl
set_option maxRecDepth 100000 in
theorem w_575 : (Jvm.Cond.static ({ cls := "java/util/Objects", name := "checkIndex", desc := "(II)I" } : Jvm.MethodName)) ∈ zW := zW_in (zTp3 (i := 95) rfl) rfl
set_option maxRecDepth 100000 in
theorem w_576 : (Jvm.Cond.code ({ cls := "java/util/Objects", name := "checkIndex", desc := "(II)I" } : Jvm.MethodName) prog_35_method_17_code (2 : Nat) (Option.some Jvm.ClassFile.FieldType.int)) ∈ zW := zW_in (zTp3 (i := 96) rfl) rfl
set_option maxRecDepth 100000 in
theorem w_577 : (Jvm.Cond.methodLink "java/util/Objects" (105 : Nat) ({ cls := "jdk/internal/util/Preconditions", name := "checkIndex", desc := "(IILjava/util/function/BiFunction;)I" } : Jvm.MethodName)) ∈ zW := zW_in (zTp3 (i := 97) rfl) rfl
set_option maxRecDepth 100000 in
theorem w_578 : (Jvm.Cond.static ({ cls := "jdk/internal/util/Preconditions", name := "checkIndex", desc := "(IILjava/util/function/BiFunction;)I" } : Jvm.MethodName)) ∈ zW := zW_in (zTp3 (i := 98) rfl) rfl
set_option maxRecDepth 100000 in
theorem w_579 : (Jvm.Cond.code ({ cls := "jdk/internal/util/Preconditions", name := "checkIndex", desc := "(IILjava/util/function/BiFunction;)I" } : Jvm.MethodName) prog_39_method_11_code (3 : Nat) (Option.some Jvm.ClassFile.FieldType.int)) ∈ zW := zW_in (zTp3 (i := 99) rfl) rfl
set_option maxRecDepth 100000 in
theorem w_580 : (Jvm.Cond.methodLink "java/util/ArrayList" (123 : Nat) ({ cls := "java/util/ArrayList", name := "elementData", desc := "(I)Ljava/lang/Object;" } : Jvm.MethodName)) ∈ zW := zW_in (zTp3 (i := 100) rfl) rfl
set_option maxRecDepth 100000 in
theorem w_581 : (Jvm.Cond.instanceMethod ({ cls := "java/util/ArrayList", name := "elementData", desc := "(I)Ljava/lang/Object;" } : Jvm.MethodName)) ∈ zW := zW_in (zTp3 (i := 101) rfl) rfl
set_option maxRecDepth 100000 in
theorem w_582 : (Jvm.Cond.selects "java/util/ArrayList" ({ cls := "java/util/ArrayList", name := "elementData", desc := "(I)Ljava/lang/Object;" } : Jvm.MethodName) ({ cls := "java/util/ArrayList", name := "elementData", desc := "(I)Ljava/lang/Object;" } : Jvm.MethodName)) ∈ zW := zW_in (zTp3 (i := 102) rfl) rfl
set_option maxRecDepth 100000 in
theorem w_583 : (Jvm.Cond.code ({ cls := "java/util/ArrayList", name := "elementData", desc := "(I)Ljava/lang/Object;" } : Jvm.MethodName) prog_31_method_18_code (2 : Nat) (Option.some (Jvm.ClassFile.FieldType.object "java/lang/Object"))) ∈ zW := zW_in (zTp3 (i := 103) rfl) rfl
set_option maxRecDepth 100000 in
theorem w_584 : (Jvm.Cond.methodLinkNest "Taskgraphic$Graph" (58 : Nat) ({ cls := "Taskgraphic", name := "with", desc := "(II)I" } : Jvm.MethodName) "Taskgraphic") ∈ zN := List.mem_filter.mpr ⟨zTp3 (i := 104) rfl, rfl⟩
set_option maxRecDepth 100000 in
theorem w_585 : (Jvm.Cond.static ({ cls := "Taskgraphic", name := "with", desc := "(II)I" } : Jvm.MethodName)) ∈ zW := zW_in (zTp3 (i := 105) rfl) rfl
set_option maxRecDepth 100000 in
theorem w_586 : (Jvm.Cond.code ({ cls := "Taskgraphic", name := "with", desc := "(II)I" } : Jvm.MethodName) prog_1_method_49_code (2 : Nat) (Option.some Jvm.ClassFile.FieldType.int)) ∈ zW := zW_in (zTp3 (i := 106) rfl) rfl
set_option maxRecDepth 100000 in
theorem w_587 : (Jvm.Cond.methodLink "Taskgraphic$Graph" (62 : Nat) ({ cls := "java/util/ArrayList", name := "add", desc := "(Ljava/lang/Object;)Z" } : Jvm.MethodName)) ∈ zW := zW_in (zTp3 (i := 107) rfl) rfl
set_option maxRecDepth 100000 in
theorem w_588 : (Jvm.Cond.instanceMethod ({ cls := "java/util/ArrayList", name := "add", desc := "(Ljava/lang/Object;)Z" } : Jvm.MethodName)) ∈ zW := zW_in (zTp3 (i := 108) rfl) rfl
set_option maxRecDepth 100000 in
theorem w_589 : (Jvm.Cond.selects "java/util/ArrayList" ({ cls := "java/util/ArrayList", name := "add", desc := "(Ljava/lang/Object;)Z" } : Jvm.MethodName) ({ cls := "java/util/ArrayList", name := "add", desc := "(Ljava/lang/Object;)Z" } : Jvm.MethodName)) ∈ zW := zW_in (zTp3 (i := 109) rfl) rfl
set_option maxRecDepth 100000 in
theorem w_590 : (Jvm.Cond.code ({ cls := "java/util/ArrayList", name := "add", desc := "(Ljava/lang/Object;)Z" } : Jvm.MethodName) prog_31_method_25_code (2 : Nat) (Option.some Jvm.ClassFile.FieldType.boolean)) ∈ zW := zW_in (zTp3 (i := 110) rfl) rfl
set_option maxRecDepth 100000 in
theorem w_591 : (Jvm.Cond.methodLink "java/util/ArrayList" (131 : Nat) ({ cls := "java/util/ArrayList", name := "add", desc := "(Ljava/lang/Object;[Ljava/lang/Object;I)V" } : Jvm.MethodName)) ∈ zW := zW_in (zTp3 (i := 111) rfl) rfl
set_option maxRecDepth 100000 in
theorem w_593 : (Jvm.Cond.instanceMethod ({ cls := "java/util/ArrayList", name := "add", desc := "(Ljava/lang/Object;[Ljava/lang/Object;I)V" } : Jvm.MethodName)) ∈ zW := zW_in (zTp3 (i := 113) rfl) rfl
set_option maxRecDepth 100000 in
theorem w_594 : (Jvm.Cond.code ({ cls := "java/util/ArrayList", name := "add", desc := "(Ljava/lang/Object;[Ljava/lang/Object;I)V" } : Jvm.MethodName) prog_31_method_24_code (4 : Nat) (Option.none : Option Jvm.ClassFile.FieldType)) ∈ zW := zW_in (zTp3 (i := 114) rfl) rfl
set_option maxRecDepth 100000 in
theorem w_595 : (Jvm.Cond.methodLink "java/util/ArrayList" (129 : Nat) ({ cls := "java/util/ArrayList", name := "grow", desc := "()[Ljava/lang/Object;" } : Jvm.MethodName)) ∈ zW := zW_in (zTp3 (i := 115) rfl) rfl
set_option maxRecDepth 100000 in
theorem w_597 : (Jvm.Cond.instanceMethod ({ cls := "java/util/ArrayList", name := "grow", desc := "()[Ljava/lang/Object;" } : Jvm.MethodName)) ∈ zW := zW_in (zTp3 (i := 117) rfl) rfl
set_option maxRecDepth 100000 in
theorem w_598 : (Jvm.Cond.code ({ cls := "java/util/ArrayList", name := "grow", desc := "()[Ljava/lang/Object;" } : Jvm.MethodName) prog_31_method_7_code (1 : Nat) (Option.some (Jvm.ClassFile.FieldType.array (Jvm.ClassFile.FieldType.object "java/lang/Object")))) ∈ zW := zW_in (zTp3 (i := 118) rfl) rfl
set_option maxRecDepth 100000 in
theorem w_599 : (Jvm.Cond.methodLink "java/util/ArrayList" (69 : Nat) ({ cls := "java/util/ArrayList", name := "grow", desc := "(I)[Ljava/lang/Object;" } : Jvm.MethodName)) ∈ zW := zW_in (zTp3 (i := 119) rfl) rfl
set_option maxRecDepth 100000 in
theorem w_601 : (Jvm.Cond.instanceMethod ({ cls := "java/util/ArrayList", name := "grow", desc := "(I)[Ljava/lang/Object;" } : Jvm.MethodName)) ∈ zW := zW_in (zTp3 (i := 121) rfl) rfl
set_option maxRecDepth 100000 in
theorem w_602 : (Jvm.Cond.code ({ cls := "java/util/ArrayList", name := "grow", desc := "(I)[Ljava/lang/Object;" } : Jvm.MethodName) prog_31_method_6_code (4 : Nat) (Option.some (Jvm.ClassFile.FieldType.array (Jvm.ClassFile.FieldType.object "java/lang/Object")))) ∈ zW := zW_in (zTp3 (i := 122) rfl) rfl
set_option maxRecDepth 100000 in
theorem w_603 : (Jvm.Cond.methodLink "java/util/ArrayList" (73 : Nat) ({ cls := "jdk/internal/util/ArraysSupport", name := "newLength", desc := "(III)I" } : Jvm.MethodName)) ∈ zW := zW_in (zTp3 (i := 123) rfl) rfl
set_option maxRecDepth 100000 in
theorem w_604 : (Jvm.Cond.static ({ cls := "jdk/internal/util/ArraysSupport", name := "newLength", desc := "(III)I" } : Jvm.MethodName)) ∈ zW := zW_in (zTp3 (i := 124) rfl) rfl
set_option maxRecDepth 100000 in
theorem w_605 : (Jvm.Cond.code ({ cls := "jdk/internal/util/ArraysSupport", name := "newLength", desc := "(III)I" } : Jvm.MethodName) prog_38_method_27_code (4 : Nat) (Option.some Jvm.ClassFile.FieldType.int)) ∈ zW := zW_in (zTp3 (i := 125) rfl) rfl
set_option maxRecDepth 100000 in
theorem w_606 : (Jvm.Cond.methodLink "jdk/internal/util/ArraysSupport" (194 : Nat) ({ cls := "java/lang/Math", name := "max", desc := "(II)I" } : Jvm.MethodName)) ∈ zW := zW_in (zTp3 (i := 126) rfl) rfl
set_option maxRecDepth 100000 in
theorem w_607 : (Jvm.Cond.constant "jdk/internal/util/ArraysSupport" (200 : Nat) (2147483639 : Int32)) ∈ zW := zW_in (zTp3 (i := 127) rfl) rfl
set_option maxRecDepth 100000 in
theorem w_608 : (Jvm.Cond.methodLink "jdk/internal/util/ArraysSupport" (201 : Nat) ({ cls := "jdk/internal/util/ArraysSupport", name := "hugeLength", desc := "(II)I" } : Jvm.MethodName)) ∈ zW := zW_in (zTp3 (i := 128) rfl) rfl
set_option maxRecDepth 100000 in
theorem w_609 : (Jvm.Cond.static ({ cls := "jdk/internal/util/ArraysSupport", name := "hugeLength", desc := "(II)I" } : Jvm.MethodName)) ∈ zW := zW_in (zTp3 (i := 129) rfl) rfl
set_option maxRecDepth 100000 in
theorem w_610 : (Jvm.Cond.code ({ cls := "jdk/internal/util/ArraysSupport", name := "hugeLength", desc := "(II)I" } : Jvm.MethodName) prog_38_method_28_code (3 : Nat) (Option.some Jvm.ClassFile.FieldType.int)) ∈ zW := zW_in (zTp3 (i := 130) rfl) rfl
set_option maxRecDepth 100000 in
theorem w_611 : (Jvm.Cond.methodLink "java/util/ArrayList" (66 : Nat) ({ cls := "java/util/Arrays", name := "copyOf", desc := "([Ljava/lang/Object;I)[Ljava/lang/Object;" } : Jvm.MethodName)) ∈ zW := zW_in (zTp3 (i := 131) rfl) rfl
set_option maxRecDepth 100000 in
theorem w_612 : (Jvm.Cond.static ({ cls := "java/util/Arrays", name := "copyOf", desc := "([Ljava/lang/Object;I)[Ljava/lang/Object;" } : Jvm.MethodName)) ∈ zW := zW_in (zTp3 (i := 132) rfl) rfl
set_option maxRecDepth 100000 in
theorem w_613 : (Jvm.Cond.code ({ cls := "java/util/Arrays", name := "copyOf", desc := "([Ljava/lang/Object;I)[Ljava/lang/Object;" } : Jvm.MethodName) prog_32_method_119_code (2 : Nat) (Option.some (Jvm.ClassFile.FieldType.array (Jvm.ClassFile.FieldType.object "java/lang/Object")))) ∈ zW := zW_in (zTp3 (i := 133) rfl) rfl
set_option maxRecDepth 100000 in
theorem w_635 : (Jvm.Cond.methodLink "java/util/Arrays" (300 : Nat) ({ cls := "java/util/Arrays", name := "copyOf", desc := "([Ljava/lang/Object;ILjava/lang/Class;)[Ljava/lang/Object;" } : Jvm.MethodName)) ∈ zW := zW_in (zTp3 (i := 155) rfl) rfl
set_option maxRecDepth 100000 in
theorem w_636 : (Jvm.Cond.static ({ cls := "java/util/Arrays", name := "copyOf", desc := "([Ljava/lang/Object;ILjava/lang/Class;)[Ljava/lang/Object;" } : Jvm.MethodName)) ∈ zW := zW_in (zTp3 (i := 156) rfl) rfl
set_option maxRecDepth 100000 in
theorem w_637 : (Jvm.Cond.code ({ cls := "java/util/Arrays", name := "copyOf", desc := "([Ljava/lang/Object;ILjava/lang/Class;)[Ljava/lang/Object;" } : Jvm.MethodName) prog_32_method_120_code (4 : Nat) (Option.some (Jvm.ClassFile.FieldType.array (Jvm.ClassFile.FieldType.object "java/lang/Object")))) ∈ zW := zW_in (zTp3 (i := 157) rfl) rfl
set_option maxRecDepth 100000 in
theorem w_641 : (Jvm.Cond.methodLink "java/util/Arrays" (304 : Nat) ({ cls := "java/lang/Math", name := "min", desc := "(II)I" } : Jvm.MethodName)) ∈ zW := zW_in (zTp3 (i := 161) rfl) rfl
set_option maxRecDepth 100000 in
theorem w_642 : (Jvm.Cond.static ({ cls := "java/lang/Math", name := "min", desc := "(II)I" } : Jvm.MethodName)) ∈ zW := zW_in (zTp3 (i := 162) rfl) rfl
set_option maxRecDepth 100000 in
theorem w_643 : (Jvm.Cond.code ({ cls := "java/lang/Math", name := "min", desc := "(II)I" } : Jvm.MethodName) prog_24_method_69_code (2 : Nat) (Option.some Jvm.ClassFile.FieldType.int)) ∈ zW := zW_in (zTp3 (i := 163) rfl) rfl
set_option maxRecDepth 100000 in
theorem w_647 : (Jvm.Cond.methodLink "java/util/ArrayList" (79 : Nat) ({ cls := "java/lang/Math", name := "max", desc := "(II)I" } : Jvm.MethodName)) ∈ zW := zW_in (zTp3 (i := 167) rfl) rfl
set_option maxRecDepth 100000 in
theorem w_653 : (Jvm.Cond.methodLink "TaskgraphicLaw" (17 : Nat) ({ cls := "Taskgraphic", name := "put", desc := "(III)I" } : Jvm.MethodName)) ∈ zW := zW_in (zTp3 (i := 173) rfl) rfl
set_option maxRecDepth 100000 in
theorem w_654 : (Jvm.Cond.instanceMethod ({ cls := "Taskgraphic", name := "put", desc := "(III)I" } : Jvm.MethodName)) ∈ zW := zW_in (zTp3 (i := 174) rfl) rfl
set_option maxRecDepth 100000 in
theorem w_655 : (Jvm.Cond.selects "Taskgraphic" ({ cls := "Taskgraphic", name := "put", desc := "(III)I" } : Jvm.MethodName) ({ cls := "Taskgraphic", name := "put", desc := "(III)I" } : Jvm.MethodName)) ∈ zW := zW_in (zTp3 (i := 175) rfl) rfl
set_option maxRecDepth 100000 in
theorem w_656 : (Jvm.Cond.code ({ cls := "Taskgraphic", name := "put", desc := "(III)I" } : Jvm.MethodName) prog_1_method_3_code (5 : Nat) (Option.some Jvm.ClassFile.FieldType.int)) ∈ zW := zW_in (zTp3 (i := 176) rfl) rfl
set_option maxRecDepth 100000 in
theorem w_657 : (Jvm.Cond.methodLink "Taskgraphic" (96 : Nat) ({ cls := "Taskgraphic", name := "checkNode", desc := "(I)V" } : Jvm.MethodName)) ∈ zW := zW_in (zTp3 (i := 177) rfl) rfl
set_option maxRecDepth 100000 in
theorem w_659 : (Jvm.Cond.instanceMethod ({ cls := "Taskgraphic", name := "checkNode", desc := "(I)V" } : Jvm.MethodName)) ∈ zW := zW_in (zTp3 (i := 179) rfl) rfl
set_option maxRecDepth 100000 in
theorem w_660 : (Jvm.Cond.code ({ cls := "Taskgraphic", name := "checkNode", desc := "(I)V" } : Jvm.MethodName) prog_1_method_38_code (2 : Nat) (Option.none : Option Jvm.ClassFile.FieldType)) ∈ zW := zW_in (zTp3 (i := 180) rfl) rfl
set_option maxRecDepth 100000 in
theorem w_677 : (Jvm.Cond.methodLink "Taskgraphic" (99 : Nat) ({ cls := "Taskgraphic$Graph", name := "at", desc := "(I)LTaskgraphic$Node;" } : Jvm.MethodName)) ∈ zW := zW_in (zTp3 (i := 197) rfl) rfl
set_option maxRecDepth 100000 in
theorem w_678 : (Jvm.Cond.methodLink "Taskgraphic" (110 : Nat) ({ cls := "Taskgraphic$Rows", name := "size", desc := "()I" } : Jvm.MethodName)) ∈ zW := zW_in (zTp3 (i := 198) rfl) rfl
set_option maxRecDepth 100000 in
theorem w_679 : (Jvm.Cond.instanceMethod ({ cls := "Taskgraphic$Rows", name := "size", desc := "()I" } : Jvm.MethodName)) ∈ zW := zW_in (zTp3 (i := 199) rfl) rfl
set_option maxRecDepth 100000 in
theorem w_680 : (Jvm.Cond.selects "Taskgraphic$Rows" ({ cls := "Taskgraphic$Rows", name := "size", desc := "()I" } : Jvm.MethodName) ({ cls := "Taskgraphic$Rows", name := "size", desc := "()I" } : Jvm.MethodName)) ∈ zW := zW_in (zTp3 (i := 200) rfl) rfl
set_option maxRecDepth 100000 in
theorem w_681 : (Jvm.Cond.code ({ cls := "Taskgraphic$Rows", name := "size", desc := "()I" } : Jvm.MethodName) prog_11_method_3_code (1 : Nat) (Option.some Jvm.ClassFile.FieldType.int)) ∈ zW := zW_in (zTp3 (i := 201) rfl) rfl
set_option maxRecDepth 100000 in
theorem w_683 : (Jvm.Cond.methodLink "Taskgraphic" (123 : Nat) ({ cls := "Taskgraphic$Rows", name := "add", desc := "(II)V" } : Jvm.MethodName)) ∈ zW := zW_in (zTp3 (i := 203) rfl) rfl
set_option maxRecDepth 100000 in
theorem w_684 : (Jvm.Cond.instanceMethod ({ cls := "Taskgraphic$Rows", name := "add", desc := "(II)V" } : Jvm.MethodName)) ∈ zW := zW_in (zTp3 (i := 204) rfl) rfl
set_option maxRecDepth 100000 in
theorem w_685 : (Jvm.Cond.selects "Taskgraphic$Rows" ({ cls := "Taskgraphic$Rows", name := "add", desc := "(II)V" } : Jvm.MethodName) ({ cls := "Taskgraphic$Rows", name := "add", desc := "(II)V" } : Jvm.MethodName)) ∈ zW := zW_in (zTp3 (i := 205) rfl) rfl
set_option maxRecDepth 100000 in
theorem w_686 : (Jvm.Cond.code ({ cls := "Taskgraphic$Rows", name := "add", desc := "(II)V" } : Jvm.MethodName) prog_11_method_11_code (3 : Nat) (Option.none : Option Jvm.ClassFile.FieldType)) ∈ zW := zW_in (zTp3 (i := 206) rfl) rfl
set_option maxRecDepth 100000 in
theorem w_687 : (Jvm.Cond.methodLink "Taskgraphic$Rows" (46 : Nat) ({ cls := "Taskgraphic$Ints", name := "set", desc := "(II)V" } : Jvm.MethodName)) ∈ zW := zW_in (zTp3 (i := 207) rfl) rfl
set_option maxRecDepth 100000 in
theorem w_688 : (Jvm.Cond.methodLink "Taskgraphic" (126 : Nat) ({ cls := "Taskgraphic$Holding", name := "forgetAllOf", desc := "(I)V" } : Jvm.MethodName)) ∈ zW := zW_in (zTp3 (i := 208) rfl) rfl
set_option maxRecDepth 100000 in
theorem w_689 : (Jvm.Cond.instanceMethod ({ cls := "Taskgraphic$Holding", name := "forgetAllOf", desc := "(I)V" } : Jvm.MethodName)) ∈ zW := zW_in (zTp3 (i := 209) rfl) rfl
set_option maxRecDepth 100000 in
theorem w_690 : (Jvm.Cond.selects "Taskgraphic$Holding" ({ cls := "Taskgraphic$Holding", name := "forgetAllOf", desc := "(I)V" } : Jvm.MethodName) ({ cls := "Taskgraphic$Holding", name := "forgetAllOf", desc := "(I)V" } : Jvm.MethodName)) ∈ zW := zW_in (zTp3 (i := 210) rfl) rfl
set_option maxRecDepth 100000 in
theorem w_691 : (Jvm.Cond.code ({ cls := "Taskgraphic$Holding", name := "forgetAllOf", desc := "(I)V" } : Jvm.MethodName) prog_5_method_4_code (3 : Nat) (Option.none : Option Jvm.ClassFile.FieldType)) ∈ zW := zW_in (zTp3 (i := 211) rfl) rfl
set_option maxRecDepth 100000 in
theorem w_692 : (Jvm.Cond.methodLink "Taskgraphic$Holding" (28 : Nat) ({ cls := "Taskgraphic$Graph", name := "at", desc := "(I)LTaskgraphic$Node;" } : Jvm.MethodName)) ∈ zW := zW_in (zTp3 (i := 212) rfl) rfl
set_option maxRecDepth 100000 in
theorem w_693 : (Jvm.Cond.methodLinkNest "Taskgraphic$Holding" (49 : Nat) ({ cls := "Taskgraphic", name := "has", desc := "(II)Z" } : Jvm.MethodName) "Taskgraphic") ∈ zN := List.mem_filter.mpr ⟨zTp3 (i := 213) rfl, rfl⟩
set_option maxRecDepth 100000 in
theorem w_694 : (Jvm.Cond.static ({ cls := "Taskgraphic", name := "has", desc := "(II)Z" } : Jvm.MethodName)) ∈ zW := zW_in (zTp3 (i := 214) rfl) rfl
set_option maxRecDepth 100000 in
theorem w_695 : (Jvm.Cond.code ({ cls := "Taskgraphic", name := "has", desc := "(II)Z" } : Jvm.MethodName) prog_1_method_48_code (2 : Nat) (Option.some Jvm.ClassFile.FieldType.boolean)) ∈ zW := zW_in (zTp3 (i := 215) rfl) rfl
set_option maxRecDepth 100000 in
theorem w_696 : (Jvm.Cond.methodLinkNest "Taskgraphic$Holding" (53 : Nat) ({ cls := "Taskgraphic", name := "with", desc := "(II)I" } : Jvm.MethodName) "Taskgraphic") ∈ zN := List.mem_filter.mpr ⟨zTp3 (i := 216) rfl, rfl⟩
set_option maxRecDepth 100000 in
theorem w_697 : (Jvm.Cond.methodLink "Taskgraphic" (129 : Nat) ({ cls := "Taskgraphic$Cache", name := "empty", desc := "()V" } : Jvm.MethodName)) ∈ zW := zW_in (zTp3 (i := 217) rfl) rfl
set_option maxRecDepth 100000 in
theorem w_698 : (Jvm.Cond.instanceMethod ({ cls := "Taskgraphic$Cache", name := "empty", desc := "()V" } : Jvm.MethodName)) ∈ zW := zW_in (zTp3 (i := 218) rfl) rfl
set_option maxRecDepth 100000 in
theorem w_699 : (Jvm.Cond.selects "Taskgraphic$Cache" ({ cls := "Taskgraphic$Cache", name := "empty", desc := "()V" } : Jvm.MethodName) ({ cls := "Taskgraphic$Cache", name := "empty", desc := "()V" } : Jvm.MethodName)) ∈ zW := zW_in (zTp3 (i := 219) rfl) rfl
set_option maxRecDepth 100000 in
theorem w_700 : (Jvm.Cond.code ({ cls := "Taskgraphic$Cache", name := "empty", desc := "()V" } : Jvm.MethodName) prog_2_method_3_code (1 : Nat) (Option.none : Option Jvm.ClassFile.FieldType)) ∈ zW := zW_in (zTp3 (i := 220) rfl) rfl
set_option maxRecDepth 100000 in
theorem w_704 : (Jvm.Cond.methodLink "TaskgraphicLaw" (23 : Nat) ({ cls := "Taskgraphic", name := "map", desc := "(III)I" } : Jvm.MethodName)) ∈ zW := zW_in (zTp3 (i := 224) rfl) rfl
set_option maxRecDepth 100000 in
theorem w_705 : (Jvm.Cond.instanceMethod ({ cls := "Taskgraphic", name := "map", desc := "(III)I" } : Jvm.MethodName)) ∈ zW := zW_in (zTp3 (i := 225) rfl) rfl
set_option maxRecDepth 100000 in
theorem w_706 : (Jvm.Cond.selects "Taskgraphic" ({ cls := "Taskgraphic", name := "map", desc := "(III)I" } : Jvm.MethodName) ({ cls := "Taskgraphic", name := "map", desc := "(III)I" } : Jvm.MethodName)) ∈ zW := zW_in (zTp3 (i := 226) rfl) rfl
set_option maxRecDepth 100000 in
theorem w_707 : (Jvm.Cond.code ({ cls := "Taskgraphic", name := "map", desc := "(III)I" } : Jvm.MethodName) prog_1_method_4_code (5 : Nat) (Option.some Jvm.ClassFile.FieldType.int)) ∈ zW := zW_in (zTp3 (i := 227) rfl) rfl
set_option maxRecDepth 100000 in
theorem w_709 : (Jvm.Cond.fieldLink "Taskgraphic" (137 : Nat) "Taskgraphic$Kind" "MAP" "LTaskgraphic$Kind;") ∈ zW := zW_in (zTp3 (i := 229) rfl) rfl
set_option maxRecDepth 100000 in
theorem w_711 : (Jvm.Cond.methodLink "Taskgraphic" (140 : Nat) ({ cls := "Taskgraphic", name := "changeOf", desc := "(LTaskgraphic$Kind;I)LTaskgraphic$Node;" } : Jvm.MethodName)) ∈ zW := zW_in (zTp3 (i := 231) rfl) rfl
set_option maxRecDepth 100000 in
theorem w_713 : (Jvm.Cond.instanceMethod ({ cls := "Taskgraphic", name := "changeOf", desc := "(LTaskgraphic$Kind;I)LTaskgraphic$Node;" } : Jvm.MethodName)) ∈ zW := zW_in (zTp3 (i := 233) rfl) rfl
set_option maxRecDepth 100000 in
theorem w_714 : (Jvm.Cond.code ({ cls := "Taskgraphic", name := "changeOf", desc := "(LTaskgraphic$Kind;I)LTaskgraphic$Node;" } : Jvm.MethodName) prog_1_method_45_code (4 : Nat) (Option.some (Jvm.ClassFile.FieldType.object "Taskgraphic$Node"))) ∈ zW := zW_in (zTp3 (i := 234) rfl) rfl
set_option maxRecDepth 100000 in
theorem w_718 : (Jvm.Cond.methodLink "TaskgraphicLaw" (26 : Nat) ({ cls := "Taskgraphic", name := "filter", desc := "(III)I" } : Jvm.MethodName)) ∈ zW := zW_in (zTp3 (i := 238) rfl) rfl
set_option maxRecDepth 100000 in
theorem w_719 : (Jvm.Cond.instanceMethod ({ cls := "Taskgraphic", name := "filter", desc := "(III)I" } : Jvm.MethodName)) ∈ zW := zW_in (zTp3 (i := 239) rfl) rfl
set_option maxRecDepth 100000 in
theorem w_720 : (Jvm.Cond.selects "Taskgraphic" ({ cls := "Taskgraphic", name := "filter", desc := "(III)I" } : Jvm.MethodName) ({ cls := "Taskgraphic", name := "filter", desc := "(III)I" } : Jvm.MethodName)) ∈ zW := zW_in (zTp4 (i := 0) rfl) rfl
set_option maxRecDepth 100000 in
theorem w_721 : (Jvm.Cond.code ({ cls := "Taskgraphic", name := "filter", desc := "(III)I" } : Jvm.MethodName) prog_1_method_5_code (5 : Nat) (Option.some Jvm.ClassFile.FieldType.int)) ∈ zW := zW_in (zTp4 (i := 1) rfl) rfl
set_option maxRecDepth 100000 in
theorem w_722 : (Jvm.Cond.fieldLink "Taskgraphic" (150 : Nat) "Taskgraphic$Kind" "FILTER" "LTaskgraphic$Kind;") ∈ zW := zW_in (zTp4 (i := 2) rfl) rfl
set_option maxRecDepth 100000 in
theorem w_727 : (Jvm.Cond.methodLink "TaskgraphicLaw" (29 : Nat) ({ cls := "Taskgraphic", name := "union", desc := "(II)I" } : Jvm.MethodName)) ∈ zW := zW_in (zTp4 (i := 7) rfl) rfl
set_option maxRecDepth 100000 in
theorem w_728 : (Jvm.Cond.instanceMethod ({ cls := "Taskgraphic", name := "union", desc := "(II)I" } : Jvm.MethodName)) ∈ zW := zW_in (zTp4 (i := 8) rfl) rfl
set_option maxRecDepth 100000 in
theorem w_729 : (Jvm.Cond.selects "Taskgraphic" ({ cls := "Taskgraphic", name := "union", desc := "(II)I" } : Jvm.MethodName) ({ cls := "Taskgraphic", name := "union", desc := "(II)I" } : Jvm.MethodName)) ∈ zW := zW_in (zTp4 (i := 9) rfl) rfl
set_option maxRecDepth 100000 in
theorem w_730 : (Jvm.Cond.code ({ cls := "Taskgraphic", name := "union", desc := "(II)I" } : Jvm.MethodName) prog_1_method_6_code (7 : Nat) (Option.some Jvm.ClassFile.FieldType.int)) ∈ zW := zW_in (zTp4 (i := 10) rfl) rfl
set_option maxRecDepth 100000 in
theorem w_732 : (Jvm.Cond.fieldLink "Taskgraphic" (167 : Nat) "Taskgraphic$Kind" "UNION" "LTaskgraphic$Kind;") ∈ zW := zW_in (zTp4 (i := 12) rfl) rfl
set_option maxRecDepth 100000 in
theorem w_737 : (Jvm.Cond.methodLink "TaskgraphicLaw" (33 : Nat) ({ cls := "Taskgraphic", name := "group", desc := "(III)I" } : Jvm.MethodName)) ∈ zW := zW_in (zTp4 (i := 17) rfl) rfl
set_option maxRecDepth 100000 in
theorem w_738 : (Jvm.Cond.instanceMethod ({ cls := "Taskgraphic", name := "group", desc := "(III)I" } : Jvm.MethodName)) ∈ zW := zW_in (zTp4 (i := 18) rfl) rfl
set_option maxRecDepth 100000 in
theorem w_739 : (Jvm.Cond.selects "Taskgraphic" ({ cls := "Taskgraphic", name := "group", desc := "(III)I" } : Jvm.MethodName) ({ cls := "Taskgraphic", name := "group", desc := "(III)I" } : Jvm.MethodName)) ∈ zW := zW_in (zTp4 (i := 19) rfl) rfl
set_option maxRecDepth 100000 in
theorem w_740 : (Jvm.Cond.code ({ cls := "Taskgraphic", name := "group", desc := "(III)I" } : Jvm.MethodName) prog_1_method_7_code (5 : Nat) (Option.some Jvm.ClassFile.FieldType.int)) ∈ zW := zW_in (zTp4 (i := 20) rfl) rfl
set_option maxRecDepth 100000 in
theorem w_742 : (Jvm.Cond.fieldLink "Taskgraphic" (172 : Nat) "Taskgraphic$Kind" "GROUP" "LTaskgraphic$Kind;") ∈ zW := zW_in (zTp4 (i := 22) rfl) rfl
set_option maxRecDepth 100000 in
theorem w_747 : (Jvm.Cond.methodLink "TaskgraphicLaw" (36 : Nat) ({ cls := "Taskgraphic", name := "join", desc := "(III)I" } : Jvm.MethodName)) ∈ zW := zW_in (zTp4 (i := 27) rfl) rfl
set_option maxRecDepth 100000 in
theorem w_748 : (Jvm.Cond.instanceMethod ({ cls := "Taskgraphic", name := "join", desc := "(III)I" } : Jvm.MethodName)) ∈ zW := zW_in (zTp4 (i := 28) rfl) rfl
set_option maxRecDepth 100000 in
theorem w_749 : (Jvm.Cond.selects "Taskgraphic" ({ cls := "Taskgraphic", name := "join", desc := "(III)I" } : Jvm.MethodName) ({ cls := "Taskgraphic", name := "join", desc := "(III)I" } : Jvm.MethodName)) ∈ zW := zW_in (zTp4 (i := 29) rfl) rfl
set_option maxRecDepth 100000 in
theorem w_750 : (Jvm.Cond.code ({ cls := "Taskgraphic", name := "join", desc := "(III)I" } : Jvm.MethodName) prog_1_method_8_code (7 : Nat) (Option.some Jvm.ClassFile.FieldType.int)) ∈ zW := zW_in (zTp4 (i := 30) rfl) rfl
set_option maxRecDepth 100000 in
theorem w_752 : (Jvm.Cond.methodLink "Taskgraphic" (177 : Nat) ({ cls := "java/lang/Math", name := "max", desc := "(II)I" } : Jvm.MethodName)) ∈ zW := zW_in (zTp4 (i := 32) rfl) rfl
set_option maxRecDepth 100000 in
theorem w_753 : (Jvm.Cond.fieldLink "Taskgraphic" (183 : Nat) "Taskgraphic$Kind" "JOIN" "LTaskgraphic$Kind;") ∈ zW := zW_in (zTp4 (i := 33) rfl) rfl
set_option maxRecDepth 100000 in
theorem w_758 : (Jvm.Cond.methodLink "TaskgraphicLaw" (39 : Nat) ({ cls := "Taskgraphic", name := "partitions", desc := "(I)I" } : Jvm.MethodName)) ∈ zW := zW_in (zTp4 (i := 38) rfl) rfl
set_option maxRecDepth 100000 in
theorem w_759 : (Jvm.Cond.instanceMethod ({ cls := "Taskgraphic", name := "partitions", desc := "(I)I" } : Jvm.MethodName)) ∈ zW := zW_in (zTp4 (i := 39) rfl) rfl
set_option maxRecDepth 100000 in
theorem w_760 : (Jvm.Cond.selects "Taskgraphic" ({ cls := "Taskgraphic", name := "partitions", desc := "(I)I" } : Jvm.MethodName) ({ cls := "Taskgraphic", name := "partitions", desc := "(I)I" } : Jvm.MethodName)) ∈ zW := zW_in (zTp4 (i := 40) rfl) rfl
set_option maxRecDepth 100000 in
theorem w_761 : (Jvm.Cond.code ({ cls := "Taskgraphic", name := "partitions", desc := "(I)I" } : Jvm.MethodName) prog_1_method_10_code (2 : Nat) (Option.some Jvm.ClassFile.FieldType.int)) ∈ zW := zW_in (zTp4 (i := 41) rfl) rfl
set_option maxRecDepth 100000 in
theorem w_762 : (Jvm.Cond.methodLink "Taskgraphic" (187 : Nat) ({ cls := "Taskgraphic$Holding", name := "freshRows", desc := "(I)LTaskgraphic$Rows;" } : Jvm.MethodName)) ∈ zW := zW_in (zTp4 (i := 42) rfl) rfl
set_option maxRecDepth 100000 in
theorem w_763 : (Jvm.Cond.instanceMethod ({ cls := "Taskgraphic$Holding", name := "freshRows", desc := "(I)LTaskgraphic$Rows;" } : Jvm.MethodName)) ∈ zW := zW_in (zTp4 (i := 43) rfl) rfl
set_option maxRecDepth 100000 in
theorem w_764 : (Jvm.Cond.selects "Taskgraphic$Holding" ({ cls := "Taskgraphic$Holding", name := "freshRows", desc := "(I)LTaskgraphic$Rows;" } : Jvm.MethodName) ({ cls := "Taskgraphic$Holding", name := "freshRows", desc := "(I)LTaskgraphic$Rows;" } : Jvm.MethodName)) ∈ zW := zW_in (zTp4 (i := 44) rfl) rfl
set_option maxRecDepth 100000 in
theorem w_765 : (Jvm.Cond.code ({ cls := "Taskgraphic$Holding", name := "freshRows", desc := "(I)LTaskgraphic$Rows;" } : Jvm.MethodName) prog_5_method_5_code (4 : Nat) (Option.some (Jvm.ClassFile.FieldType.object "Taskgraphic$Rows"))) ∈ zW := zW_in (zTp4 (i := 45) rfl) rfl
set_option maxRecDepth 100000 in
theorem w_766 : (Jvm.Cond.methodLink "Taskgraphic$Holding" (57 : Nat) ({ cls := "Taskgraphic$Holding", name := "of", desc := "(I)LTaskgraphic$Rows;" } : Jvm.MethodName)) ∈ zW := zW_in (zTp4 (i := 46) rfl) rfl
set_option maxRecDepth 100000 in
theorem w_767 : (Jvm.Cond.instanceMethod ({ cls := "Taskgraphic$Holding", name := "of", desc := "(I)LTaskgraphic$Rows;" } : Jvm.MethodName)) ∈ zW := zW_in (zTp4 (i := 47) rfl) rfl
set_option maxRecDepth 100000 in
theorem w_768 : (Jvm.Cond.selects "Taskgraphic$Holding" ({ cls := "Taskgraphic$Holding", name := "of", desc := "(I)LTaskgraphic$Rows;" } : Jvm.MethodName) ({ cls := "Taskgraphic$Holding", name := "of", desc := "(I)LTaskgraphic$Rows;" } : Jvm.MethodName)) ∈ zW := zW_in (zTp4 (i := 48) rfl) rfl
set_option maxRecDepth 100000 in
theorem w_769 : (Jvm.Cond.code ({ cls := "Taskgraphic$Holding", name := "of", desc := "(I)LTaskgraphic$Rows;" } : Jvm.MethodName) prog_5_method_2_code (3 : Nat) (Option.some (Jvm.ClassFile.FieldType.object "Taskgraphic$Rows"))) ∈ zW := zW_in (zTp4 (i := 49) rfl) rfl
set_option maxRecDepth 100000 in
theorem w_770 : (Jvm.Cond.methodLink "Taskgraphic$Holding" (61 : Nat) ({ cls := "Taskgraphic$Holding", name := "fill", desc := "(LTaskgraphic$Node;LTaskgraphic$Rows;)V" } : Jvm.MethodName)) ∈ zW := zW_in (zTp4 (i := 50) rfl) rfl
set_option maxRecDepth 100000 in
theorem w_772 : (Jvm.Cond.instanceMethod ({ cls := "Taskgraphic$Holding", name := "fill", desc := "(LTaskgraphic$Node;LTaskgraphic$Rows;)V" } : Jvm.MethodName)) ∈ zW := zW_in (zTp4 (i := 52) rfl) rfl
set_option maxRecDepth 100000 in
theorem w_773 : (Jvm.Cond.code ({ cls := "Taskgraphic$Holding", name := "fill", desc := "(LTaskgraphic$Node;LTaskgraphic$Rows;)V" } : Jvm.MethodName) prog_5_method_7_code (6 : Nat) (Option.none : Option Jvm.ClassFile.FieldType)) ∈ zW := zW_in (zTp4 (i := 53) rfl) rfl
set_option maxRecDepth 100000 in
theorem w_774 : (Jvm.Cond.methodLink "Taskgraphic$Holding" (90 : Nat) ({ cls := "Taskgraphic$Rows", name := "clear", desc := "()V" } : Jvm.MethodName)) ∈ zW := zW_in (zTp4 (i := 54) rfl) rfl
set_option maxRecDepth 100000 in
theorem w_775 : (Jvm.Cond.instanceMethod ({ cls := "Taskgraphic$Rows", name := "clear", desc := "()V" } : Jvm.MethodName)) ∈ zW := zW_in (zTp4 (i := 55) rfl) rfl
set_option maxRecDepth 100000 in
theorem w_776 : (Jvm.Cond.selects "Taskgraphic$Rows" ({ cls := "Taskgraphic$Rows", name := "clear", desc := "()V" } : Jvm.MethodName) ({ cls := "Taskgraphic$Rows", name := "clear", desc := "()V" } : Jvm.MethodName)) ∈ zW := zW_in (zTp4 (i := 56) rfl) rfl
set_option maxRecDepth 100000 in
theorem w_777 : (Jvm.Cond.code ({ cls := "Taskgraphic$Rows", name := "clear", desc := "()V" } : Jvm.MethodName) prog_11_method_2_code (1 : Nat) (Option.none : Option Jvm.ClassFile.FieldType)) ∈ zW := zW_in (zTp4 (i := 57) rfl) rfl
set_option maxRecDepth 100000 in
theorem w_778 : (Jvm.Cond.fieldLink "Taskgraphic$Holding" (93 : Nat) "Taskgraphic$Kind" "SOURCE" "LTaskgraphic$Kind;") ∈ zW := zW_in (zTp4 (i := 58) rfl) rfl
set_option maxRecDepth 100000 in
theorem w_779 : (Jvm.Cond.methodLink "Taskgraphic$Holding" (99 : Nat) ({ cls := "Taskgraphic$Holding", name := "deal", desc := "(LTaskgraphic$Rows;ILTaskgraphic$Rows;)V" } : Jvm.MethodName)) ∈ zW := zW_in (zTp4 (i := 59) rfl) rfl
set_option maxRecDepth 100000 in
theorem w_781 : (Jvm.Cond.instanceMethod ({ cls := "Taskgraphic$Holding", name := "deal", desc := "(LTaskgraphic$Rows;ILTaskgraphic$Rows;)V" } : Jvm.MethodName)) ∈ zW := zW_in (zTp4 (i := 61) rfl) rfl
set_option maxRecDepth 100000 in
theorem w_782 : (Jvm.Cond.code ({ cls := "Taskgraphic$Holding", name := "deal", desc := "(LTaskgraphic$Rows;ILTaskgraphic$Rows;)V" } : Jvm.MethodName) prog_5_method_8_code (6 : Nat) (Option.none : Option Jvm.ClassFile.FieldType)) ∈ zW := zW_in (zTp4 (i := 62) rfl) rfl
set_option maxRecDepth 100000 in
theorem w_783 : (Jvm.Cond.methodLink "Taskgraphic$Holding" (77 : Nat) ({ cls := "Taskgraphic$Rows", name := "size", desc := "()I" } : Jvm.MethodName)) ∈ zW := zW_in (zTp4 (i := 63) rfl) rfl
set_option maxRecDepth 100000 in
theorem w_784 : (Jvm.Cond.methodLinkNest "Taskgraphic$Holding" (144 : Nat) ({ cls := "Taskgraphic", name := "modulo", desc := "(II)I" } : Jvm.MethodName) "Taskgraphic") ∈ zN := List.mem_filter.mpr ⟨zTp4 (i := 64) rfl, rfl⟩
set_option maxRecDepth 100000 in
theorem w_785 : (Jvm.Cond.static ({ cls := "Taskgraphic", name := "modulo", desc := "(II)I" } : Jvm.MethodName)) ∈ zW := zW_in (zTp4 (i := 65) rfl) rfl
set_option maxRecDepth 100000 in
theorem w_786 : (Jvm.Cond.code ({ cls := "Taskgraphic", name := "modulo", desc := "(II)I" } : Jvm.MethodName) prog_1_method_50_code (2 : Nat) (Option.some Jvm.ClassFile.FieldType.int)) ∈ zW := zW_in (zTp4 (i := 66) rfl) rfl
set_option maxRecDepth 100000 in
theorem w_787 : (Jvm.Cond.methodLink "Taskgraphic" (369 : Nat) ({ cls := "java/lang/Math", name := "floorMod", desc := "(II)I" } : Jvm.MethodName)) ∈ zW := zW_in (zTp4 (i := 67) rfl) rfl
set_option maxRecDepth 100000 in
theorem w_788 : (Jvm.Cond.static ({ cls := "java/lang/Math", name := "floorMod", desc := "(II)I" } : Jvm.MethodName)) ∈ zW := zW_in (zTp4 (i := 68) rfl) rfl
set_option maxRecDepth 100000 in
theorem w_789 : (Jvm.Cond.code ({ cls := "java/lang/Math", name := "floorMod", desc := "(II)I" } : Jvm.MethodName) prog_24_method_50_code (3 : Nat) (Option.some Jvm.ClassFile.FieldType.int)) ∈ zW := zW_in (zTp4 (i := 69) rfl) rfl
set_option maxRecDepth 100000 in
theorem w_790 : (Jvm.Cond.methodLink "Taskgraphic$Holding" (147 : Nat) ({ cls := "Taskgraphic$Rows", name := "key", desc := "(I)I" } : Jvm.MethodName)) ∈ zW := zW_in (zTp4 (i := 70) rfl) rfl
set_option maxRecDepth 100000 in
theorem w_791 : (Jvm.Cond.instanceMethod ({ cls := "Taskgraphic$Rows", name := "key", desc := "(I)I" } : Jvm.MethodName)) ∈ zW := zW_in (zTp4 (i := 71) rfl) rfl
set_option maxRecDepth 100000 in
theorem w_792 : (Jvm.Cond.selects "Taskgraphic$Rows" ({ cls := "Taskgraphic$Rows", name := "key", desc := "(I)I" } : Jvm.MethodName) ({ cls := "Taskgraphic$Rows", name := "key", desc := "(I)I" } : Jvm.MethodName)) ∈ zW := zW_in (zTp4 (i := 72) rfl) rfl
set_option maxRecDepth 100000 in
theorem w_793 : (Jvm.Cond.code ({ cls := "Taskgraphic$Rows", name := "key", desc := "(I)I" } : Jvm.MethodName) prog_11_method_8_code (2 : Nat) (Option.some Jvm.ClassFile.FieldType.int)) ∈ zW := zW_in (zTp4 (i := 73) rfl) rfl
set_option maxRecDepth 100000 in
theorem w_794 : (Jvm.Cond.methodLink "Taskgraphic$Rows" (36 : Nat) ({ cls := "Taskgraphic$Ints", name := "at", desc := "(I)I" } : Jvm.MethodName)) ∈ zW := zW_in (zTp4 (i := 74) rfl) rfl
set_option maxRecDepth 100000 in
theorem w_795 : (Jvm.Cond.methodLink "Taskgraphic$Holding" (151 : Nat) ({ cls := "Taskgraphic$Rows", name := "value", desc := "(I)I" } : Jvm.MethodName)) ∈ zW := zW_in (zTp4 (i := 75) rfl) rfl
set_option maxRecDepth 100000 in
theorem w_796 : (Jvm.Cond.instanceMethod ({ cls := "Taskgraphic$Rows", name := "value", desc := "(I)I" } : Jvm.MethodName)) ∈ zW := zW_in (zTp4 (i := 76) rfl) rfl
set_option maxRecDepth 100000 in
theorem w_797 : (Jvm.Cond.selects "Taskgraphic$Rows" ({ cls := "Taskgraphic$Rows", name := "value", desc := "(I)I" } : Jvm.MethodName) ({ cls := "Taskgraphic$Rows", name := "value", desc := "(I)I" } : Jvm.MethodName)) ∈ zW := zW_in (zTp4 (i := 77) rfl) rfl
set_option maxRecDepth 100000 in
theorem w_798 : (Jvm.Cond.code ({ cls := "Taskgraphic$Rows", name := "value", desc := "(I)I" } : Jvm.MethodName) prog_11_method_9_code (2 : Nat) (Option.some Jvm.ClassFile.FieldType.int)) ∈ zW := zW_in (zTp4 (i := 78) rfl) rfl
set_option maxRecDepth 100000 in
theorem w_799 : (Jvm.Cond.methodLink "Taskgraphic$Holding" (154 : Nat) ({ cls := "Taskgraphic$Rows", name := "add", desc := "(II)V" } : Jvm.MethodName)) ∈ zW := zW_in (zTp4 (i := 79) rfl) rfl
set_option maxRecDepth 100000 in
theorem w_800 : (Jvm.Cond.methodLink "Taskgraphic$Holding" (158 : Nat) ({ cls := "Taskgraphic$Rows", name := "endPartition", desc := "()V" } : Jvm.MethodName)) ∈ zW := zW_in (zTp4 (i := 80) rfl) rfl
set_option maxRecDepth 100000 in
theorem w_801 : (Jvm.Cond.instanceMethod ({ cls := "Taskgraphic$Rows", name := "endPartition", desc := "()V" } : Jvm.MethodName)) ∈ zW := zW_in (zTp4 (i := 81) rfl) rfl
set_option maxRecDepth 100000 in
theorem w_802 : (Jvm.Cond.selects "Taskgraphic$Rows" ({ cls := "Taskgraphic$Rows", name := "endPartition", desc := "()V" } : Jvm.MethodName) ({ cls := "Taskgraphic$Rows", name := "endPartition", desc := "()V" } : Jvm.MethodName)) ∈ zW := zW_in (zTp4 (i := 82) rfl) rfl
set_option maxRecDepth 100000 in
theorem w_803 : (Jvm.Cond.code ({ cls := "Taskgraphic$Rows", name := "endPartition", desc := "()V" } : Jvm.MethodName) prog_11_method_13_code (1 : Nat) (Option.none : Option Jvm.ClassFile.FieldType)) ∈ zW := zW_in (zTp4 (i := 83) rfl) rfl
set_option maxRecDepth 100000 in
theorem w_804 : (Jvm.Cond.fieldLink "Taskgraphic$Holding" (103 : Nat) "Taskgraphic$Kind" "MAP" "LTaskgraphic$Kind;") ∈ zW := zW_in (zTp4 (i := 84) rfl) rfl
set_option maxRecDepth 100000 in
theorem w_805 : (Jvm.Cond.methodLink "Taskgraphic$Holding" (106 : Nat) ({ cls := "Taskgraphic$Holding", name := "change", desc := "(LTaskgraphic$Rows;LTaskgraphic$Node;LTaskgraphic$Rows;)V" } : Jvm.MethodName)) ∈ zW := zW_in (zTp4 (i := 85) rfl) rfl
set_option maxRecDepth 100000 in
theorem w_807 : (Jvm.Cond.instanceMethod ({ cls := "Taskgraphic$Holding", name := "change", desc := "(LTaskgraphic$Rows;LTaskgraphic$Node;LTaskgraphic$Rows;)V" } : Jvm.MethodName)) ∈ zW := zW_in (zTp4 (i := 87) rfl) rfl
set_option maxRecDepth 100000 in
theorem w_808 : (Jvm.Cond.code ({ cls := "Taskgraphic$Holding", name := "change", desc := "(LTaskgraphic$Rows;LTaskgraphic$Node;LTaskgraphic$Rows;)V" } : Jvm.MethodName) prog_5_method_9_code (8 : Nat) (Option.none : Option Jvm.ClassFile.FieldType)) ∈ zW := zW_in (zTp4 (i := 88) rfl) rfl
set_option maxRecDepth 100000 in
theorem w_809 : (Jvm.Cond.methodLink "Taskgraphic$Holding" (161 : Nat) ({ cls := "Taskgraphic$Rows", name := "parts", desc := "()I" } : Jvm.MethodName)) ∈ zW := zW_in (zTp4 (i := 89) rfl) rfl
set_option maxRecDepth 100000 in
theorem w_810 : (Jvm.Cond.instanceMethod ({ cls := "Taskgraphic$Rows", name := "parts", desc := "()I" } : Jvm.MethodName)) ∈ zW := zW_in (zTp4 (i := 90) rfl) rfl
set_option maxRecDepth 100000 in
theorem w_811 : (Jvm.Cond.selects "Taskgraphic$Rows" ({ cls := "Taskgraphic$Rows", name := "parts", desc := "()I" } : Jvm.MethodName) ({ cls := "Taskgraphic$Rows", name := "parts", desc := "()I" } : Jvm.MethodName)) ∈ zW := zW_in (zTp4 (i := 91) rfl) rfl
set_option maxRecDepth 100000 in
theorem w_812 : (Jvm.Cond.code ({ cls := "Taskgraphic$Rows", name := "parts", desc := "()I" } : Jvm.MethodName) prog_11_method_4_code (1 : Nat) (Option.some Jvm.ClassFile.FieldType.int)) ∈ zW := zW_in (zTp4 (i := 92) rfl) rfl
set_option maxRecDepth 100000 in
theorem w_813 : (Jvm.Cond.methodLink "Taskgraphic$Holding" (164 : Nat) ({ cls := "Taskgraphic$Rows", name := "begin", desc := "(I)I" } : Jvm.MethodName)) ∈ zW := zW_in (zTp4 (i := 93) rfl) rfl
set_option maxRecDepth 100000 in
theorem w_814 : (Jvm.Cond.instanceMethod ({ cls := "Taskgraphic$Rows", name := "begin", desc := "(I)I" } : Jvm.MethodName)) ∈ zW := zW_in (zTp4 (i := 94) rfl) rfl
set_option maxRecDepth 100000 in
theorem w_815 : (Jvm.Cond.selects "Taskgraphic$Rows" ({ cls := "Taskgraphic$Rows", name := "begin", desc := "(I)I" } : Jvm.MethodName) ({ cls := "Taskgraphic$Rows", name := "begin", desc := "(I)I" } : Jvm.MethodName)) ∈ zW := zW_in (zTp4 (i := 95) rfl) rfl
set_option maxRecDepth 100000 in
theorem w_816 : (Jvm.Cond.code ({ cls := "Taskgraphic$Rows", name := "begin", desc := "(I)I" } : Jvm.MethodName) prog_11_method_5_code (2 : Nat) (Option.some Jvm.ClassFile.FieldType.int)) ∈ zW := zW_in (zTp4 (i := 96) rfl) rfl
set_option maxRecDepth 100000 in
theorem w_817 : (Jvm.Cond.methodLink "Taskgraphic$Holding" (167 : Nat) ({ cls := "Taskgraphic$Rows", name := "end", desc := "(I)I" } : Jvm.MethodName)) ∈ zW := zW_in (zTp4 (i := 97) rfl) rfl
set_option maxRecDepth 100000 in
theorem w_818 : (Jvm.Cond.instanceMethod ({ cls := "Taskgraphic$Rows", name := "end", desc := "(I)I" } : Jvm.MethodName)) ∈ zW := zW_in (zTp4 (i := 98) rfl) rfl
set_option maxRecDepth 100000 in
theorem w_819 : (Jvm.Cond.selects "Taskgraphic$Rows" ({ cls := "Taskgraphic$Rows", name := "end", desc := "(I)I" } : Jvm.MethodName) ({ cls := "Taskgraphic$Rows", name := "end", desc := "(I)I" } : Jvm.MethodName)) ∈ zW := zW_in (zTp4 (i := 99) rfl) rfl
set_option maxRecDepth 100000 in
theorem w_820 : (Jvm.Cond.code ({ cls := "Taskgraphic$Rows", name := "end", desc := "(I)I" } : Jvm.MethodName) prog_11_method_6_code (2 : Nat) (Option.some Jvm.ClassFile.FieldType.int)) ∈ zW := zW_in (zTp4 (i := 100) rfl) rfl
set_option maxRecDepth 100000 in
theorem w_821 : (Jvm.Cond.methodLink "Taskgraphic$Holding" (170 : Nat) ({ cls := "Taskgraphic$Node", name := "newKey", desc := "(II)I" } : Jvm.MethodName)) ∈ zW := zW_in (zTp4 (i := 101) rfl) rfl
set_option maxRecDepth 100000 in
theorem w_822 : (Jvm.Cond.instanceMethod ({ cls := "Taskgraphic$Node", name := "newKey", desc := "(II)I" } : Jvm.MethodName)) ∈ zW := zW_in (zTp4 (i := 102) rfl) rfl
set_option maxRecDepth 100000 in
theorem w_823 : (Jvm.Cond.selects "Taskgraphic$Node" ({ cls := "Taskgraphic$Node", name := "newKey", desc := "(II)I" } : Jvm.MethodName) ({ cls := "Taskgraphic$Node", name := "newKey", desc := "(II)I" } : Jvm.MethodName)) ∈ zW := zW_in (zTp4 (i := 103) rfl) rfl
set_option maxRecDepth 100000 in
theorem w_824 : (Jvm.Cond.code ({ cls := "Taskgraphic$Node", name := "newKey", desc := "(II)I" } : Jvm.MethodName) prog_9_method_2_code (3 : Nat) (Option.some Jvm.ClassFile.FieldType.int)) ∈ zW := zW_in (zTp4 (i := 104) rfl) rfl
set_option maxRecDepth 100000 in
theorem w_825 : (Jvm.Cond.methodLinkNest "Taskgraphic$Node" (54 : Nat) ({ cls := "Taskgraphic", name := "modulo", desc := "(II)I" } : Jvm.MethodName) "Taskgraphic") ∈ zN := List.mem_filter.mpr ⟨zTp4 (i := 105) rfl, rfl⟩
set_option maxRecDepth 100000 in
theorem w_826 : (Jvm.Cond.methodLink "Taskgraphic$Holding" (173 : Nat) ({ cls := "Taskgraphic$Node", name := "newValue", desc := "(II)I" } : Jvm.MethodName)) ∈ zW := zW_in (zTp4 (i := 106) rfl) rfl
set_option maxRecDepth 100000 in
theorem w_827 : (Jvm.Cond.instanceMethod ({ cls := "Taskgraphic$Node", name := "newValue", desc := "(II)I" } : Jvm.MethodName)) ∈ zW := zW_in (zTp4 (i := 107) rfl) rfl
set_option maxRecDepth 100000 in
theorem w_828 : (Jvm.Cond.selects "Taskgraphic$Node" ({ cls := "Taskgraphic$Node", name := "newValue", desc := "(II)I" } : Jvm.MethodName) ({ cls := "Taskgraphic$Node", name := "newValue", desc := "(II)I" } : Jvm.MethodName)) ∈ zW := zW_in (zTp4 (i := 108) rfl) rfl
set_option maxRecDepth 100000 in
theorem w_829 : (Jvm.Cond.code ({ cls := "Taskgraphic$Node", name := "newValue", desc := "(II)I" } : Jvm.MethodName) prog_9_method_3_code (3 : Nat) (Option.some Jvm.ClassFile.FieldType.int)) ∈ zW := zW_in (zTp4 (i := 109) rfl) rfl
set_option maxRecDepth 100000 in
theorem w_830 : (Jvm.Cond.fieldLink "Taskgraphic$Holding" (110 : Nat) "Taskgraphic$Kind" "FILTER" "LTaskgraphic$Kind;") ∈ zW := zW_in (zTp4 (i := 110) rfl) rfl
set_option maxRecDepth 100000 in
theorem w_831 : (Jvm.Cond.methodLink "Taskgraphic$Holding" (113 : Nat) ({ cls := "Taskgraphic$Holding", name := "sift", desc := "(LTaskgraphic$Rows;LTaskgraphic$Node;LTaskgraphic$Rows;)V" } : Jvm.MethodName)) ∈ zW := zW_in (zTp4 (i := 111) rfl) rfl
set_option maxRecDepth 100000 in
theorem w_833 : (Jvm.Cond.instanceMethod ({ cls := "Taskgraphic$Holding", name := "sift", desc := "(LTaskgraphic$Rows;LTaskgraphic$Node;LTaskgraphic$Rows;)V" } : Jvm.MethodName)) ∈ zW := zW_in (zTp4 (i := 113) rfl) rfl
set_option maxRecDepth 100000 in
theorem w_834 : (Jvm.Cond.code ({ cls := "Taskgraphic$Holding", name := "sift", desc := "(LTaskgraphic$Rows;LTaskgraphic$Node;LTaskgraphic$Rows;)V" } : Jvm.MethodName) prog_5_method_10_code (7 : Nat) (Option.none : Option Jvm.ClassFile.FieldType)) ∈ zW := zW_in (zTp4 (i := 114) rfl) rfl
set_option maxRecDepth 100000 in
theorem w_835 : (Jvm.Cond.fieldLink "Taskgraphic$Holding" (116 : Nat) "Taskgraphic$Kind" "UNION" "LTaskgraphic$Kind;") ∈ zW := zW_in (zTp4 (i := 115) rfl) rfl
set_option maxRecDepth 100000 in
theorem w_836 : (Jvm.Cond.methodLink "Taskgraphic$Holding" (119 : Nat) ({ cls := "Taskgraphic$Holding", name := "unite", desc := "(LTaskgraphic$Rows;LTaskgraphic$Rows;LTaskgraphic$Rows;)V" } : Jvm.MethodName)) ∈ zW := zW_in (zTp4 (i := 116) rfl) rfl
set_option maxRecDepth 100000 in
theorem w_838 : (Jvm.Cond.instanceMethod ({ cls := "Taskgraphic$Holding", name := "unite", desc := "(LTaskgraphic$Rows;LTaskgraphic$Rows;LTaskgraphic$Rows;)V" } : Jvm.MethodName)) ∈ zW := zW_in (zTp4 (i := 118) rfl) rfl
set_option maxRecDepth 100000 in
theorem w_839 : (Jvm.Cond.code ({ cls := "Taskgraphic$Holding", name := "unite", desc := "(LTaskgraphic$Rows;LTaskgraphic$Rows;LTaskgraphic$Rows;)V" } : Jvm.MethodName) prog_5_method_11_code (4 : Nat) (Option.none : Option Jvm.ClassFile.FieldType)) ∈ zW := zW_in (zTp4 (i := 119) rfl) rfl
set_option maxRecDepth 100000 in
theorem w_840 : (Jvm.Cond.methodLink "Taskgraphic$Holding" (182 : Nat) ({ cls := "Taskgraphic$Holding", name := "append", desc := "(LTaskgraphic$Rows;LTaskgraphic$Rows;)V" } : Jvm.MethodName)) ∈ zW := zW_in (zTp4 (i := 120) rfl) rfl
set_option maxRecDepth 100000 in
theorem w_842 : (Jvm.Cond.instanceMethod ({ cls := "Taskgraphic$Holding", name := "append", desc := "(LTaskgraphic$Rows;LTaskgraphic$Rows;)V" } : Jvm.MethodName)) ∈ zW := zW_in (zTp4 (i := 122) rfl) rfl
set_option maxRecDepth 100000 in
theorem w_843 : (Jvm.Cond.code ({ cls := "Taskgraphic$Holding", name := "append", desc := "(LTaskgraphic$Rows;LTaskgraphic$Rows;)V" } : Jvm.MethodName) prog_5_method_12_code (5 : Nat) (Option.none : Option Jvm.ClassFile.FieldType)) ∈ zW := zW_in (zTp4 (i := 123) rfl) rfl
set_option maxRecDepth 100000 in
theorem w_844 : (Jvm.Cond.fieldLink "Taskgraphic$Holding" (123 : Nat) "Taskgraphic$Kind" "GROUP" "LTaskgraphic$Kind;") ∈ zW := zW_in (zTp4 (i := 124) rfl) rfl
set_option maxRecDepth 100000 in
theorem w_845 : (Jvm.Cond.methodLink "Taskgraphic$Holding" (126 : Nat) ({ cls := "Taskgraphic$Holding", name := "groupByKey", desc := "(LTaskgraphic$Rows;LTaskgraphic$Node;)V" } : Jvm.MethodName)) ∈ zW := zW_in (zTp4 (i := 125) rfl) rfl
set_option maxRecDepth 100000 in
theorem w_847 : (Jvm.Cond.instanceMethod ({ cls := "Taskgraphic$Holding", name := "groupByKey", desc := "(LTaskgraphic$Rows;LTaskgraphic$Node;)V" } : Jvm.MethodName)) ∈ zW := zW_in (zTp4 (i := 127) rfl) rfl
set_option maxRecDepth 100000 in
theorem w_848 : (Jvm.Cond.code ({ cls := "Taskgraphic$Holding", name := "groupByKey", desc := "(LTaskgraphic$Rows;LTaskgraphic$Node;)V" } : Jvm.MethodName) prog_5_method_13_code (8 : Nat) (Option.none : Option Jvm.ClassFile.FieldType)) ∈ zW := zW_in (zTp4 (i := 128) rfl) rfl
set_option maxRecDepth 100000 in
theorem w_849 : (Jvm.Cond.methodLink "Taskgraphic$Holding" (186 : Nat) ({ cls := "Taskgraphic$Rows", name := "placeBehind", desc := "(I)I" } : Jvm.MethodName)) ∈ zW := zW_in (zTp4 (i := 129) rfl) rfl
set_option maxRecDepth 100000 in
theorem w_850 : (Jvm.Cond.instanceMethod ({ cls := "Taskgraphic$Rows", name := "placeBehind", desc := "(I)I" } : Jvm.MethodName)) ∈ zW := zW_in (zTp4 (i := 130) rfl) rfl
set_option maxRecDepth 100000 in
theorem w_851 : (Jvm.Cond.selects "Taskgraphic$Rows" ({ cls := "Taskgraphic$Rows", name := "placeBehind", desc := "(I)I" } : Jvm.MethodName) ({ cls := "Taskgraphic$Rows", name := "placeBehind", desc := "(I)I" } : Jvm.MethodName)) ∈ zW := zW_in (zTp4 (i := 131) rfl) rfl
set_option maxRecDepth 100000 in
theorem w_852 : (Jvm.Cond.code ({ cls := "Taskgraphic$Rows", name := "placeBehind", desc := "(I)I" } : Jvm.MethodName) prog_11_method_15_code (6 : Nat) (Option.some Jvm.ClassFile.FieldType.int)) ∈ zW := zW_in (zTp4 (i := 132) rfl) rfl
set_option maxRecDepth 100000 in
theorem w_853 : (Jvm.Cond.methodLink "Taskgraphic$Holding" (189 : Nat) ({ cls := "Taskgraphic$Rows", name := "hasKey", desc := "(II)Z" } : Jvm.MethodName)) ∈ zW := zW_in (zTp4 (i := 133) rfl) rfl
set_option maxRecDepth 100000 in
theorem w_854 : (Jvm.Cond.instanceMethod ({ cls := "Taskgraphic$Rows", name := "hasKey", desc := "(II)Z" } : Jvm.MethodName)) ∈ zW := zW_in (zTp4 (i := 134) rfl) rfl
set_option maxRecDepth 100000 in
theorem w_855 : (Jvm.Cond.selects "Taskgraphic$Rows" ({ cls := "Taskgraphic$Rows", name := "hasKey", desc := "(II)Z" } : Jvm.MethodName) ({ cls := "Taskgraphic$Rows", name := "hasKey", desc := "(II)Z" } : Jvm.MethodName)) ∈ zW := zW_in (zTp4 (i := 135) rfl) rfl
set_option maxRecDepth 100000 in
theorem w_856 : (Jvm.Cond.code ({ cls := "Taskgraphic$Rows", name := "hasKey", desc := "(II)Z" } : Jvm.MethodName) prog_11_method_14_code (3 : Nat) (Option.some Jvm.ClassFile.FieldType.boolean)) ∈ zW := zW_in (zTp4 (i := 136) rfl) rfl
set_option maxRecDepth 100000 in
theorem w_857 : (Jvm.Cond.methodLink "Taskgraphic$Holding" (192 : Nat) ({ cls := "Taskgraphic$Node", name := "nextOfGroup", desc := "(II)I" } : Jvm.MethodName)) ∈ zW := zW_in (zTp4 (i := 137) rfl) rfl
set_option maxRecDepth 100000 in
theorem w_858 : (Jvm.Cond.instanceMethod ({ cls := "Taskgraphic$Node", name := "nextOfGroup", desc := "(II)I" } : Jvm.MethodName)) ∈ zW := zW_in (zTp4 (i := 138) rfl) rfl
set_option maxRecDepth 100000 in
theorem w_859 : (Jvm.Cond.selects "Taskgraphic$Node" ({ cls := "Taskgraphic$Node", name := "nextOfGroup", desc := "(II)I" } : Jvm.MethodName) ({ cls := "Taskgraphic$Node", name := "nextOfGroup", desc := "(II)I" } : Jvm.MethodName)) ∈ zW := zW_in (zTp4 (i := 139) rfl) rfl
set_option maxRecDepth 100000 in
theorem w_860 : (Jvm.Cond.code ({ cls := "Taskgraphic$Node", name := "nextOfGroup", desc := "(II)I" } : Jvm.MethodName) prog_9_method_5_code (3 : Nat) (Option.some Jvm.ClassFile.FieldType.int)) ∈ zW := zW_in (zTp4 (i := 140) rfl) rfl
set_option maxRecDepth 100000 in
theorem w_861 : (Jvm.Cond.methodLink "Taskgraphic$Node" (58 : Nat) ({ cls := "java/lang/Math", name := "min", desc := "(II)I" } : Jvm.MethodName)) ∈ zW := zW_in (zTp4 (i := 141) rfl) rfl
set_option maxRecDepth 100000 in
theorem w_862 : (Jvm.Cond.methodLink "Taskgraphic$Node" (63 : Nat) ({ cls := "java/lang/Math", name := "max", desc := "(II)I" } : Jvm.MethodName)) ∈ zW := zW_in (zTp4 (i := 142) rfl) rfl
set_option maxRecDepth 100000 in
theorem w_863 : (Jvm.Cond.methodLink "Taskgraphic$Node" (66 : Nat) ({ cls := "Taskgraphic$Node", name := "firstOfGroup", desc := "(I)I" } : Jvm.MethodName)) ∈ zW := zW_in (zTp4 (i := 143) rfl) rfl
set_option maxRecDepth 100000 in
theorem w_864 : (Jvm.Cond.instanceMethod ({ cls := "Taskgraphic$Node", name := "firstOfGroup", desc := "(I)I" } : Jvm.MethodName)) ∈ zW := zW_in (zTp4 (i := 144) rfl) rfl
set_option maxRecDepth 100000 in
theorem w_865 : (Jvm.Cond.selects "Taskgraphic$Node" ({ cls := "Taskgraphic$Node", name := "firstOfGroup", desc := "(I)I" } : Jvm.MethodName) ({ cls := "Taskgraphic$Node", name := "firstOfGroup", desc := "(I)I" } : Jvm.MethodName)) ∈ zW := zW_in (zTp4 (i := 145) rfl) rfl
set_option maxRecDepth 100000 in
theorem w_866 : (Jvm.Cond.code ({ cls := "Taskgraphic$Node", name := "firstOfGroup", desc := "(I)I" } : Jvm.MethodName) prog_9_method_4_code (2 : Nat) (Option.some Jvm.ClassFile.FieldType.int)) ∈ zW := zW_in (zTp4 (i := 146) rfl) rfl
set_option maxRecDepth 100000 in
theorem w_867 : (Jvm.Cond.methodLink "Taskgraphic$Holding" (195 : Nat) ({ cls := "Taskgraphic$Rows", name := "setValue", desc := "(II)V" } : Jvm.MethodName)) ∈ zW := zW_in (zTp4 (i := 147) rfl) rfl
set_option maxRecDepth 100000 in
theorem w_868 : (Jvm.Cond.instanceMethod ({ cls := "Taskgraphic$Rows", name := "setValue", desc := "(II)V" } : Jvm.MethodName)) ∈ zW := zW_in (zTp4 (i := 148) rfl) rfl
set_option maxRecDepth 100000 in
theorem w_869 : (Jvm.Cond.selects "Taskgraphic$Rows" ({ cls := "Taskgraphic$Rows", name := "setValue", desc := "(II)V" } : Jvm.MethodName) ({ cls := "Taskgraphic$Rows", name := "setValue", desc := "(II)V" } : Jvm.MethodName)) ∈ zW := zW_in (zTp4 (i := 149) rfl) rfl
set_option maxRecDepth 100000 in
theorem w_870 : (Jvm.Cond.code ({ cls := "Taskgraphic$Rows", name := "setValue", desc := "(II)V" } : Jvm.MethodName) prog_11_method_10_code (3 : Nat) (Option.none : Option Jvm.ClassFile.FieldType)) ∈ zW := zW_in (zTp4 (i := 150) rfl) rfl
set_option maxRecDepth 100000 in
theorem w_871 : (Jvm.Cond.methodLink "Taskgraphic$Holding" (198 : Nat) ({ cls := "Taskgraphic$Node", name := "firstOfGroup", desc := "(I)I" } : Jvm.MethodName)) ∈ zW := zW_in (zTp4 (i := 151) rfl) rfl
set_option maxRecDepth 100000 in
theorem w_872 : (Jvm.Cond.methodLink "Taskgraphic$Holding" (201 : Nat) ({ cls := "Taskgraphic$Rows", name := "insert", desc := "(III)V" } : Jvm.MethodName)) ∈ zW := zW_in (zTp4 (i := 152) rfl) rfl
set_option maxRecDepth 100000 in
theorem w_873 : (Jvm.Cond.instanceMethod ({ cls := "Taskgraphic$Rows", name := "insert", desc := "(III)V" } : Jvm.MethodName)) ∈ zW := zW_in (zTp4 (i := 153) rfl) rfl
set_option maxRecDepth 100000 in
theorem w_874 : (Jvm.Cond.selects "Taskgraphic$Rows" ({ cls := "Taskgraphic$Rows", name := "insert", desc := "(III)V" } : Jvm.MethodName) ({ cls := "Taskgraphic$Rows", name := "insert", desc := "(III)V" } : Jvm.MethodName)) ∈ zW := zW_in (zTp4 (i := 154) rfl) rfl
set_option maxRecDepth 100000 in
theorem w_875 : (Jvm.Cond.code ({ cls := "Taskgraphic$Rows", name := "insert", desc := "(III)V" } : Jvm.MethodName) prog_11_method_12_code (5 : Nat) (Option.none : Option Jvm.ClassFile.FieldType)) ∈ zW := zW_in (zTp4 (i := 155) rfl) rfl
set_option maxRecDepth 100000 in
theorem w_876 : (Jvm.Cond.methodLink "Taskgraphic$Holding" (130 : Nat) ({ cls := "Taskgraphic$Holding", name := "dealByKey", desc := "(ILTaskgraphic$Rows;)V" } : Jvm.MethodName)) ∈ zW := zW_in (zTp4 (i := 156) rfl) rfl
set_option maxRecDepth 100000 in
theorem w_878 : (Jvm.Cond.instanceMethod ({ cls := "Taskgraphic$Holding", name := "dealByKey", desc := "(ILTaskgraphic$Rows;)V" } : Jvm.MethodName)) ∈ zW := zW_in (zTp4 (i := 158) rfl) rfl
set_option maxRecDepth 100000 in
theorem w_879 : (Jvm.Cond.code ({ cls := "Taskgraphic$Holding", name := "dealByKey", desc := "(ILTaskgraphic$Rows;)V" } : Jvm.MethodName) prog_5_method_14_code (6 : Nat) (Option.none : Option Jvm.ClassFile.FieldType)) ∈ zW := zW_in (zTp4 (i := 159) rfl) rfl
set_option maxRecDepth 100000 in
theorem w_880 : (Jvm.Cond.methodLink "Taskgraphic$Holding" (134 : Nat) ({ cls := "Taskgraphic$Holding", name := "joinInOrder", desc := "(LTaskgraphic$Rows;LTaskgraphic$Rows;LTaskgraphic$Rows;)V" } : Jvm.MethodName)) ∈ zW := zW_in (zTp4 (i := 160) rfl) rfl
set_option maxRecDepth 100000 in
theorem w_882 : (Jvm.Cond.instanceMethod ({ cls := "Taskgraphic$Holding", name := "joinInOrder", desc := "(LTaskgraphic$Rows;LTaskgraphic$Rows;LTaskgraphic$Rows;)V" } : Jvm.MethodName)) ∈ zW := zW_in (zTp4 (i := 162) rfl) rfl
set_option maxRecDepth 100000 in
theorem w_883 : (Jvm.Cond.code ({ cls := "Taskgraphic$Holding", name := "joinInOrder", desc := "(LTaskgraphic$Rows;LTaskgraphic$Rows;LTaskgraphic$Rows;)V" } : Jvm.MethodName) prog_5_method_15_code (6 : Nat) (Option.none : Option Jvm.ClassFile.FieldType)) ∈ zW := zW_in (zTp4 (i := 163) rfl) rfl
set_option maxRecDepth 100000 in
theorem w_884 : (Jvm.Cond.methodLink "Taskgraphic$Holding" (205 : Nat) ({ cls := "Taskgraphic$Holding", name := "addMatches", desc := "(IILTaskgraphic$Rows;LTaskgraphic$Rows;)V" } : Jvm.MethodName)) ∈ zW := zW_in (zTp4 (i := 164) rfl) rfl
set_option maxRecDepth 100000 in
theorem w_886 : (Jvm.Cond.instanceMethod ({ cls := "Taskgraphic$Holding", name := "addMatches", desc := "(IILTaskgraphic$Rows;LTaskgraphic$Rows;)V" } : Jvm.MethodName)) ∈ zW := zW_in (zTp4 (i := 166) rfl) rfl
set_option maxRecDepth 100000 in
theorem w_887 : (Jvm.Cond.code ({ cls := "Taskgraphic$Holding", name := "addMatches", desc := "(IILTaskgraphic$Rows;LTaskgraphic$Rows;)V" } : Jvm.MethodName) prog_5_method_18_code (6 : Nat) (Option.none : Option Jvm.ClassFile.FieldType)) ∈ zW := zW_in (zTp4 (i := 167) rfl) rfl
set_option maxRecDepth 100000 in
theorem w_888 : (Jvm.Cond.methodLink "Taskgraphic$Holding" (137 : Nat) ({ cls := "Taskgraphic$Holding", name := "sortByKey", desc := "(LTaskgraphic$Rows;)V" } : Jvm.MethodName)) ∈ zW := zW_in (zTp4 (i := 168) rfl) rfl
set_option maxRecDepth 100000 in
theorem w_890 : (Jvm.Cond.instanceMethod ({ cls := "Taskgraphic$Holding", name := "sortByKey", desc := "(LTaskgraphic$Rows;)V" } : Jvm.MethodName)) ∈ zW := zW_in (zTp4 (i := 170) rfl) rfl
set_option maxRecDepth 100000 in
theorem w_891 : (Jvm.Cond.code ({ cls := "Taskgraphic$Holding", name := "sortByKey", desc := "(LTaskgraphic$Rows;)V" } : Jvm.MethodName) prog_5_method_16_code (4 : Nat) (Option.none : Option Jvm.ClassFile.FieldType)) ∈ zW := zW_in (zTp4 (i := 171) rfl) rfl
set_option maxRecDepth 100000 in
theorem w_892 : (Jvm.Cond.methodLink "Taskgraphic$Holding" (141 : Nat) ({ cls := "Taskgraphic$Holding", name := "joinByKey", desc := "(LTaskgraphic$Rows;ILTaskgraphic$Rows;)V" } : Jvm.MethodName)) ∈ zW := zW_in (zTp4 (i := 172) rfl) rfl
set_option maxRecDepth 100000 in
theorem w_894 : (Jvm.Cond.instanceMethod ({ cls := "Taskgraphic$Holding", name := "joinByKey", desc := "(LTaskgraphic$Rows;ILTaskgraphic$Rows;)V" } : Jvm.MethodName)) ∈ zW := zW_in (zTp4 (i := 174) rfl) rfl
set_option maxRecDepth 100000 in
theorem w_895 : (Jvm.Cond.code ({ cls := "Taskgraphic$Holding", name := "joinByKey", desc := "(LTaskgraphic$Rows;ILTaskgraphic$Rows;)V" } : Jvm.MethodName) prog_5_method_17_code (7 : Nat) (Option.none : Option Jvm.ClassFile.FieldType)) ∈ zW := zW_in (zTp4 (i := 175) rfl) rfl
set_option maxRecDepth 100000 in
theorem w_896 : (Jvm.Cond.methodLink "Taskgraphic" (191 : Nat) ({ cls := "Taskgraphic$Rows", name := "parts", desc := "()I" } : Jvm.MethodName)) ∈ zW := zW_in (zTp4 (i := 176) rfl) rfl
set_option maxRecDepth 100000 in
theorem w_900 : (Jvm.Cond.methodLink "TaskgraphicLaw" (42 : Nat) ({ cls := "Taskgraphic", name := "rowsIn", desc := "(II)I" } : Jvm.MethodName)) ∈ zW := zW_in (zTp4 (i := 180) rfl) rfl
set_option maxRecDepth 100000 in
theorem w_901 : (Jvm.Cond.instanceMethod ({ cls := "Taskgraphic", name := "rowsIn", desc := "(II)I" } : Jvm.MethodName)) ∈ zW := zW_in (zTp4 (i := 181) rfl) rfl
set_option maxRecDepth 100000 in
theorem w_902 : (Jvm.Cond.selects "Taskgraphic" ({ cls := "Taskgraphic", name := "rowsIn", desc := "(II)I" } : Jvm.MethodName) ({ cls := "Taskgraphic", name := "rowsIn", desc := "(II)I" } : Jvm.MethodName)) ∈ zW := zW_in (zTp4 (i := 182) rfl) rfl
set_option maxRecDepth 100000 in
theorem w_903 : (Jvm.Cond.code ({ cls := "Taskgraphic", name := "rowsIn", desc := "(II)I" } : Jvm.MethodName) prog_1_method_11_code (4 : Nat) (Option.some Jvm.ClassFile.FieldType.int)) ∈ zW := zW_in (zTp4 (i := 183) rfl) rfl
set_option maxRecDepth 100000 in
theorem w_904 : (Jvm.Cond.methodLink "Taskgraphic" (194 : Nat) ({ cls := "Taskgraphic", name := "checkPartition", desc := "(LTaskgraphic$Rows;I)V" } : Jvm.MethodName)) ∈ zW := zW_in (zTp4 (i := 184) rfl) rfl
set_option maxRecDepth 100000 in
theorem w_905 : (Jvm.Cond.static ({ cls := "Taskgraphic", name := "checkPartition", desc := "(LTaskgraphic$Rows;I)V" } : Jvm.MethodName)) ∈ zW := zW_in (zTp4 (i := 185) rfl) rfl
set_option maxRecDepth 100000 in
theorem w_906 : (Jvm.Cond.code ({ cls := "Taskgraphic", name := "checkPartition", desc := "(LTaskgraphic$Rows;I)V" } : Jvm.MethodName) prog_1_method_43_code (2 : Nat) (Option.none : Option Jvm.ClassFile.FieldType)) ∈ zW := zW_in (zTp4 (i := 186) rfl) rfl
set_option maxRecDepth 100000 in
theorem w_908 : (Jvm.Cond.methodLink "Taskgraphic" (198 : Nat) ({ cls := "Taskgraphic$Rows", name := "sizeOf", desc := "(I)I" } : Jvm.MethodName)) ∈ zW := zW_in (zTp4 (i := 188) rfl) rfl
set_option maxRecDepth 100000 in
theorem w_909 : (Jvm.Cond.instanceMethod ({ cls := "Taskgraphic$Rows", name := "sizeOf", desc := "(I)I" } : Jvm.MethodName)) ∈ zW := zW_in (zTp4 (i := 189) rfl) rfl
set_option maxRecDepth 100000 in
theorem w_910 : (Jvm.Cond.selects "Taskgraphic$Rows" ({ cls := "Taskgraphic$Rows", name := "sizeOf", desc := "(I)I" } : Jvm.MethodName) ({ cls := "Taskgraphic$Rows", name := "sizeOf", desc := "(I)I" } : Jvm.MethodName)) ∈ zW := zW_in (zTp4 (i := 190) rfl) rfl
set_option maxRecDepth 100000 in
theorem w_911 : (Jvm.Cond.code ({ cls := "Taskgraphic$Rows", name := "sizeOf", desc := "(I)I" } : Jvm.MethodName) prog_11_method_7_code (2 : Nat) (Option.some Jvm.ClassFile.FieldType.int)) ∈ zW := zW_in (zTp4 (i := 191) rfl) rfl
set_option maxRecDepth 100000 in
theorem w_912 : (Jvm.Cond.methodLink "Taskgraphic$Rows" (40 : Nat) ({ cls := "Taskgraphic$Rows", name := "end", desc := "(I)I" } : Jvm.MethodName)) ∈ zW := zW_in (zTp4 (i := 192) rfl) rfl
set_option maxRecDepth 100000 in
theorem w_913 : (Jvm.Cond.methodLink "Taskgraphic$Rows" (43 : Nat) ({ cls := "Taskgraphic$Rows", name := "begin", desc := "(I)I" } : Jvm.MethodName)) ∈ zW := zW_in (zTp4 (i := 193) rfl) rfl
set_option maxRecDepth 100000 in
theorem w_917 : (Jvm.Cond.methodLink "TaskgraphicLaw" (45 : Nat) ({ cls := "Taskgraphic", name := "rows", desc := "(I)I" } : Jvm.MethodName)) ∈ zW := zW_in (zTp4 (i := 197) rfl) rfl
set_option maxRecDepth 100000 in
theorem w_918 : (Jvm.Cond.instanceMethod ({ cls := "Taskgraphic", name := "rows", desc := "(I)I" } : Jvm.MethodName)) ∈ zW := zW_in (zTp4 (i := 198) rfl) rfl
set_option maxRecDepth 100000 in
theorem w_919 : (Jvm.Cond.selects "Taskgraphic" ({ cls := "Taskgraphic", name := "rows", desc := "(I)I" } : Jvm.MethodName) ({ cls := "Taskgraphic", name := "rows", desc := "(I)I" } : Jvm.MethodName)) ∈ zW := zW_in (zTp4 (i := 199) rfl) rfl
set_option maxRecDepth 100000 in
theorem w_920 : (Jvm.Cond.code ({ cls := "Taskgraphic", name := "rows", desc := "(I)I" } : Jvm.MethodName) prog_1_method_12_code (2 : Nat) (Option.some Jvm.ClassFile.FieldType.int)) ∈ zW := zW_in (zTp4 (i := 200) rfl) rfl
set_option maxRecDepth 100000 in
theorem w_924 : (Jvm.Cond.methodLink "TaskgraphicLaw" (48 : Nat) ({ cls := "Taskgraphic", name := "keyAt", desc := "(III)I" } : Jvm.MethodName)) ∈ zW := zW_in (zTp4 (i := 204) rfl) rfl
set_option maxRecDepth 100000 in
theorem w_925 : (Jvm.Cond.instanceMethod ({ cls := "Taskgraphic", name := "keyAt", desc := "(III)I" } : Jvm.MethodName)) ∈ zW := zW_in (zTp4 (i := 205) rfl) rfl
set_option maxRecDepth 100000 in
theorem w_926 : (Jvm.Cond.selects "Taskgraphic" ({ cls := "Taskgraphic", name := "keyAt", desc := "(III)I" } : Jvm.MethodName) ({ cls := "Taskgraphic", name := "keyAt", desc := "(III)I" } : Jvm.MethodName)) ∈ zW := zW_in (zTp4 (i := 206) rfl) rfl
set_option maxRecDepth 100000 in
theorem w_927 : (Jvm.Cond.code ({ cls := "Taskgraphic", name := "keyAt", desc := "(III)I" } : Jvm.MethodName) prog_1_method_13_code (5 : Nat) (Option.some Jvm.ClassFile.FieldType.int)) ∈ zW := zW_in (zTp4 (i := 207) rfl) rfl
set_option maxRecDepth 100000 in
theorem w_928 : (Jvm.Cond.methodLink "Taskgraphic" (202 : Nat) ({ cls := "Taskgraphic", name := "checkPlace", desc := "(LTaskgraphic$Rows;II)V" } : Jvm.MethodName)) ∈ zW := zW_in (zTp4 (i := 208) rfl) rfl
set_option maxRecDepth 100000 in
theorem w_929 : (Jvm.Cond.static ({ cls := "Taskgraphic", name := "checkPlace", desc := "(LTaskgraphic$Rows;II)V" } : Jvm.MethodName)) ∈ zW := zW_in (zTp4 (i := 209) rfl) rfl
set_option maxRecDepth 100000 in
theorem w_930 : (Jvm.Cond.code ({ cls := "Taskgraphic", name := "checkPlace", desc := "(LTaskgraphic$Rows;II)V" } : Jvm.MethodName) prog_1_method_44_code (3 : Nat) (Option.none : Option Jvm.ClassFile.FieldType)) ∈ zW := zW_in (zTp4 (i := 210) rfl) rfl
set_option maxRecDepth 100000 in
theorem w_932 : (Jvm.Cond.methodLink "Taskgraphic" (206 : Nat) ({ cls := "Taskgraphic$Rows", name := "begin", desc := "(I)I" } : Jvm.MethodName)) ∈ zW := zW_in (zTp4 (i := 212) rfl) rfl
set_option maxRecDepth 100000 in
theorem w_933 : (Jvm.Cond.methodLink "Taskgraphic" (209 : Nat) ({ cls := "Taskgraphic$Rows", name := "key", desc := "(I)I" } : Jvm.MethodName)) ∈ zW := zW_in (zTp4 (i := 213) rfl) rfl
set_option maxRecDepth 100000 in
theorem w_937 : (Jvm.Cond.methodLink "TaskgraphicLaw" (51 : Nat) ({ cls := "Taskgraphic", name := "valueAt", desc := "(III)I" } : Jvm.MethodName)) ∈ zW := zW_in (zTp4 (i := 217) rfl) rfl
set_option maxRecDepth 100000 in
theorem w_938 : (Jvm.Cond.instanceMethod ({ cls := "Taskgraphic", name := "valueAt", desc := "(III)I" } : Jvm.MethodName)) ∈ zW := zW_in (zTp4 (i := 218) rfl) rfl
set_option maxRecDepth 100000 in
theorem w_939 : (Jvm.Cond.selects "Taskgraphic" ({ cls := "Taskgraphic", name := "valueAt", desc := "(III)I" } : Jvm.MethodName) ({ cls := "Taskgraphic", name := "valueAt", desc := "(III)I" } : Jvm.MethodName)) ∈ zW := zW_in (zTp4 (i := 219) rfl) rfl
set_option maxRecDepth 100000 in
theorem w_940 : (Jvm.Cond.code ({ cls := "Taskgraphic", name := "valueAt", desc := "(III)I" } : Jvm.MethodName) prog_1_method_14_code (5 : Nat) (Option.some Jvm.ClassFile.FieldType.int)) ∈ zW := zW_in (zTp4 (i := 220) rfl) rfl
set_option maxRecDepth 100000 in
theorem w_941 : (Jvm.Cond.methodLink "Taskgraphic" (212 : Nat) ({ cls := "Taskgraphic$Rows", name := "value", desc := "(I)I" } : Jvm.MethodName)) ∈ zW := zW_in (zTp4 (i := 221) rfl) rfl
set_option maxRecDepth 100000 in
theorem w_945 : (Jvm.Cond.methodLink "TaskgraphicLaw" (54 : Nat) ({ cls := "Taskgraphic", name := "isBroad", desc := "(I)Z" } : Jvm.MethodName)) ∈ zW := zW_in (zTp4 (i := 225) rfl) rfl
set_option maxRecDepth 100000 in
theorem w_946 : (Jvm.Cond.instanceMethod ({ cls := "Taskgraphic", name := "isBroad", desc := "(I)Z" } : Jvm.MethodName)) ∈ zW := zW_in (zTp4 (i := 226) rfl) rfl
set_option maxRecDepth 100000 in
theorem w_947 : (Jvm.Cond.selects "Taskgraphic" ({ cls := "Taskgraphic", name := "isBroad", desc := "(I)Z" } : Jvm.MethodName) ({ cls := "Taskgraphic", name := "isBroad", desc := "(I)Z" } : Jvm.MethodName)) ∈ zW := zW_in (zTp4 (i := 227) rfl) rfl
set_option maxRecDepth 100000 in
theorem w_948 : (Jvm.Cond.code ({ cls := "Taskgraphic", name := "isBroad", desc := "(I)Z" } : Jvm.MethodName) prog_1_method_15_code (2 : Nat) (Option.some Jvm.ClassFile.FieldType.boolean)) ∈ zW := zW_in (zTp4 (i := 228) rfl) rfl
set_option maxRecDepth 100000 in
theorem w_950 : (Jvm.Cond.methodLink "Taskgraphic" (217 : Nat) ({ cls := "Taskgraphic$Holding", name := "joinsBroadly", desc := "(I)Z" } : Jvm.MethodName)) ∈ zW := zW_in (zTp4 (i := 230) rfl) rfl
set_option maxRecDepth 100000 in
theorem w_951 : (Jvm.Cond.instanceMethod ({ cls := "Taskgraphic$Holding", name := "joinsBroadly", desc := "(I)Z" } : Jvm.MethodName)) ∈ zW := zW_in (zTp4 (i := 231) rfl) rfl
set_option maxRecDepth 100000 in
theorem w_952 : (Jvm.Cond.selects "Taskgraphic$Holding" ({ cls := "Taskgraphic$Holding", name := "joinsBroadly", desc := "(I)Z" } : Jvm.MethodName) ({ cls := "Taskgraphic$Holding", name := "joinsBroadly", desc := "(I)Z" } : Jvm.MethodName)) ∈ zW := zW_in (zTp4 (i := 232) rfl) rfl
set_option maxRecDepth 100000 in
theorem w_953 : (Jvm.Cond.code ({ cls := "Taskgraphic$Holding", name := "joinsBroadly", desc := "(I)Z" } : Jvm.MethodName) prog_5_method_6_code (3 : Nat) (Option.some Jvm.ClassFile.FieldType.boolean)) ∈ zW := zW_in (zTp4 (i := 233) rfl) rfl
set_option maxRecDepth 100000 in
theorem w_954 : (Jvm.Cond.fieldLink "Taskgraphic$Holding" (69 : Nat) "Taskgraphic$Kind" "JOIN" "LTaskgraphic$Kind;") ∈ zW := zW_in (zTp4 (i := 234) rfl) rfl
set_option maxRecDepth 100000 in
theorem w_958 : (Jvm.Cond.methodLink "TaskgraphicLaw" (58 : Nat) ({ cls := "Taskgraphic", name := "digest", desc := "(I)I" } : Jvm.MethodName)) ∈ zW := zW_in (zTp4 (i := 238) rfl) rfl
set_option maxRecDepth 100000 in
theorem w_959 : (Jvm.Cond.instanceMethod ({ cls := "Taskgraphic", name := "digest", desc := "(I)I" } : Jvm.MethodName)) ∈ zW := zW_in (zTp4 (i := 239) rfl) rfl
set_option maxRecDepth 100000 in
theorem w_960 : (Jvm.Cond.selects "Taskgraphic" ({ cls := "Taskgraphic", name := "digest", desc := "(I)I" } : Jvm.MethodName) ({ cls := "Taskgraphic", name := "digest", desc := "(I)I" } : Jvm.MethodName)) ∈ zW := zW_in (zTp5 (i := 0) rfl) rfl
set_option maxRecDepth 100000 in
theorem w_961 : (Jvm.Cond.code ({ cls := "Taskgraphic", name := "digest", desc := "(I)I" } : Jvm.MethodName) prog_1_method_16_code (2 : Nat) (Option.some Jvm.ClassFile.FieldType.int)) ∈ zW := zW_in (zTp5 (i := 1) rfl) rfl
set_option maxRecDepth 100000 in
theorem w_962 : (Jvm.Cond.methodLink "Taskgraphic" (221 : Nat) ({ cls := "Taskgraphic$Rows", name := "squares", desc := "()I" } : Jvm.MethodName)) ∈ zW := zW_in (zTp5 (i := 2) rfl) rfl
set_option maxRecDepth 100000 in
theorem w_963 : (Jvm.Cond.instanceMethod ({ cls := "Taskgraphic$Rows", name := "squares", desc := "()I" } : Jvm.MethodName)) ∈ zW := zW_in (zTp5 (i := 3) rfl) rfl
set_option maxRecDepth 100000 in
theorem w_964 : (Jvm.Cond.selects "Taskgraphic$Rows" ({ cls := "Taskgraphic$Rows", name := "squares", desc := "()I" } : Jvm.MethodName) ({ cls := "Taskgraphic$Rows", name := "squares", desc := "()I" } : Jvm.MethodName)) ∈ zW := zW_in (zTp5 (i := 4) rfl) rfl
set_option maxRecDepth 100000 in
theorem w_965 : (Jvm.Cond.code ({ cls := "Taskgraphic$Rows", name := "squares", desc := "()I" } : Jvm.MethodName) prog_11_method_16_code (4 : Nat) (Option.some Jvm.ClassFile.FieldType.int)) ∈ zW := zW_in (zTp5 (i := 5) rfl) rfl
set_option maxRecDepth 100000 in
theorem w_969 : (Jvm.Cond.methodLink "TaskgraphicLaw" (61 : Nat) ({ cls := "Taskgraphic", name := "digestInPlace", desc := "(I)I" } : Jvm.MethodName)) ∈ zW := zW_in (zTp5 (i := 9) rfl) rfl
set_option maxRecDepth 100000 in
theorem w_970 : (Jvm.Cond.instanceMethod ({ cls := "Taskgraphic", name := "digestInPlace", desc := "(I)I" } : Jvm.MethodName)) ∈ zW := zW_in (zTp5 (i := 10) rfl) rfl
set_option maxRecDepth 100000 in
theorem w_971 : (Jvm.Cond.selects "Taskgraphic" ({ cls := "Taskgraphic", name := "digestInPlace", desc := "(I)I" } : Jvm.MethodName) ({ cls := "Taskgraphic", name := "digestInPlace", desc := "(I)I" } : Jvm.MethodName)) ∈ zW := zW_in (zTp5 (i := 11) rfl) rfl
set_option maxRecDepth 100000 in
theorem w_972 : (Jvm.Cond.code ({ cls := "Taskgraphic", name := "digestInPlace", desc := "(I)I" } : Jvm.MethodName) prog_1_method_17_code (2 : Nat) (Option.some Jvm.ClassFile.FieldType.int)) ∈ zW := zW_in (zTp5 (i := 12) rfl) rfl
set_option maxRecDepth 100000 in
theorem w_976 : (Jvm.Cond.methodLink "TaskgraphicLaw" (64 : Nat) ({ cls := "Taskgraphic", name := "setWorkers", desc := "(I)I" } : Jvm.MethodName)) ∈ zW := zW_in (zTp5 (i := 16) rfl) rfl
set_option maxRecDepth 100000 in
theorem w_977 : (Jvm.Cond.instanceMethod ({ cls := "Taskgraphic", name := "setWorkers", desc := "(I)I" } : Jvm.MethodName)) ∈ zW := zW_in (zTp5 (i := 17) rfl) rfl
set_option maxRecDepth 100000 in
theorem w_978 : (Jvm.Cond.selects "Taskgraphic" ({ cls := "Taskgraphic", name := "setWorkers", desc := "(I)I" } : Jvm.MethodName) ({ cls := "Taskgraphic", name := "setWorkers", desc := "(I)I" } : Jvm.MethodName)) ∈ zW := zW_in (zTp5 (i := 18) rfl) rfl
set_option maxRecDepth 100000 in
theorem w_979 : (Jvm.Cond.code ({ cls := "Taskgraphic", name := "setWorkers", desc := "(I)I" } : Jvm.MethodName) prog_1_method_18_code (3 : Nat) (Option.some Jvm.ClassFile.FieldType.int)) ∈ zW := zW_in (zTp5 (i := 19) rfl) rfl
set_option maxRecDepth 100000 in
theorem w_984 : (Jvm.Cond.methodLink "TaskgraphicLaw" (67 : Nat) ({ cls := "Taskgraphic", name := "setSlowness", desc := "(II)I" } : Jvm.MethodName)) ∈ zW := zW_in (zTp5 (i := 24) rfl) rfl
set_option maxRecDepth 100000 in
theorem w_985 : (Jvm.Cond.instanceMethod ({ cls := "Taskgraphic", name := "setSlowness", desc := "(II)I" } : Jvm.MethodName)) ∈ zW := zW_in (zTp5 (i := 25) rfl) rfl
set_option maxRecDepth 100000 in
theorem w_986 : (Jvm.Cond.selects "Taskgraphic" ({ cls := "Taskgraphic", name := "setSlowness", desc := "(II)I" } : Jvm.MethodName) ({ cls := "Taskgraphic", name := "setSlowness", desc := "(II)I" } : Jvm.MethodName)) ∈ zW := zW_in (zTp5 (i := 26) rfl) rfl
set_option maxRecDepth 100000 in
theorem w_987 : (Jvm.Cond.code ({ cls := "Taskgraphic", name := "setSlowness", desc := "(II)I" } : Jvm.MethodName) prog_1_method_19_code (4 : Nat) (Option.some Jvm.ClassFile.FieldType.int)) ∈ zW := zW_in (zTp5 (i := 27) rfl) rfl
set_option maxRecDepth 100000 in
theorem w_990 : (Jvm.Cond.methodLink "Taskgraphic" (239 : Nat) ({ cls := "Taskgraphic$Ints", name := "at", desc := "(I)I" } : Jvm.MethodName)) ∈ zW := zW_in (zTp5 (i := 30) rfl) rfl
set_option maxRecDepth 100000 in
theorem w_991 : (Jvm.Cond.methodLink "Taskgraphic" (243 : Nat) ({ cls := "Taskgraphic$Ints", name := "set", desc := "(II)V" } : Jvm.MethodName)) ∈ zW := zW_in (zTp5 (i := 31) rfl) rfl
set_option maxRecDepth 100000 in
theorem w_995 : (Jvm.Cond.methodLink "TaskgraphicLaw" (70 : Nat) ({ cls := "Taskgraphic", name := "setMemory", desc := "(I)I" } : Jvm.MethodName)) ∈ zW := zW_in (zTp5 (i := 35) rfl) rfl
set_option maxRecDepth 100000 in
theorem w_996 : (Jvm.Cond.instanceMethod ({ cls := "Taskgraphic", name := "setMemory", desc := "(I)I" } : Jvm.MethodName)) ∈ zW := zW_in (zTp5 (i := 36) rfl) rfl
set_option maxRecDepth 100000 in
theorem w_997 : (Jvm.Cond.selects "Taskgraphic" ({ cls := "Taskgraphic", name := "setMemory", desc := "(I)I" } : Jvm.MethodName) ({ cls := "Taskgraphic", name := "setMemory", desc := "(I)I" } : Jvm.MethodName)) ∈ zW := zW_in (zTp5 (i := 37) rfl) rfl
set_option maxRecDepth 100000 in
theorem w_998 : (Jvm.Cond.code ({ cls := "Taskgraphic", name := "setMemory", desc := "(I)I" } : Jvm.MethodName) prog_1_method_20_code (3 : Nat) (Option.some Jvm.ClassFile.FieldType.int)) ∈ zW := zW_in (zTp5 (i := 38) rfl) rfl
set_option maxRecDepth 100000 in
theorem w_999 : (Jvm.Cond.methodLink "Taskgraphic" (246 : Nat) ({ cls := "Taskgraphic", name := "checkSetting", desc := "(I)V" } : Jvm.MethodName)) ∈ zW := zW_in (zTp5 (i := 39) rfl) rfl
set_option maxRecDepth 100000 in
theorem w_1000 : (Jvm.Cond.static ({ cls := "Taskgraphic", name := "checkSetting", desc := "(I)V" } : Jvm.MethodName)) ∈ zW := zW_in (zTp5 (i := 40) rfl) rfl
set_option maxRecDepth 100000 in
theorem w_1001 : (Jvm.Cond.code ({ cls := "Taskgraphic", name := "checkSetting", desc := "(I)V" } : Jvm.MethodName) prog_1_method_42_code (1 : Nat) (Option.none : Option Jvm.ClassFile.FieldType)) ∈ zW := zW_in (zTp5 (i := 41) rfl) rfl
set_option maxRecDepth 100000 in
theorem w_1006 : (Jvm.Cond.methodLink "TaskgraphicLaw" (73 : Nat) ({ cls := "Taskgraphic", name := "setLimit", desc := "(I)I" } : Jvm.MethodName)) ∈ zW := zW_in (zTp5 (i := 46) rfl) rfl
set_option maxRecDepth 100000 in
theorem w_1007 : (Jvm.Cond.instanceMethod ({ cls := "Taskgraphic", name := "setLimit", desc := "(I)I" } : Jvm.MethodName)) ∈ zW := zW_in (zTp5 (i := 47) rfl) rfl
set_option maxRecDepth 100000 in
theorem w_1008 : (Jvm.Cond.selects "Taskgraphic" ({ cls := "Taskgraphic", name := "setLimit", desc := "(I)I" } : Jvm.MethodName) ({ cls := "Taskgraphic", name := "setLimit", desc := "(I)I" } : Jvm.MethodName)) ∈ zW := zW_in (zTp5 (i := 48) rfl) rfl
set_option maxRecDepth 100000 in
theorem w_1009 : (Jvm.Cond.code ({ cls := "Taskgraphic", name := "setLimit", desc := "(I)I" } : Jvm.MethodName) prog_1_method_21_code (3 : Nat) (Option.some Jvm.ClassFile.FieldType.int)) ∈ zW := zW_in (zTp5 (i := 49) rfl) rfl
set_option maxRecDepth 100000 in
theorem w_1010 : (Jvm.Cond.methodLink "Taskgraphic" (252 : Nat) ({ cls := "Taskgraphic$Holding", name := "forgetAll", desc := "()V" } : Jvm.MethodName)) ∈ zW := zW_in (zTp5 (i := 50) rfl) rfl
set_option maxRecDepth 100000 in
theorem w_1011 : (Jvm.Cond.instanceMethod ({ cls := "Taskgraphic$Holding", name := "forgetAll", desc := "()V" } : Jvm.MethodName)) ∈ zW := zW_in (zTp5 (i := 51) rfl) rfl
set_option maxRecDepth 100000 in
theorem w_1012 : (Jvm.Cond.selects "Taskgraphic$Holding" ({ cls := "Taskgraphic$Holding", name := "forgetAll", desc := "()V" } : Jvm.MethodName) ({ cls := "Taskgraphic$Holding", name := "forgetAll", desc := "()V" } : Jvm.MethodName)) ∈ zW := zW_in (zTp5 (i := 52) rfl) rfl
set_option maxRecDepth 100000 in
theorem w_1013 : (Jvm.Cond.code ({ cls := "Taskgraphic$Holding", name := "forgetAll", desc := "()V" } : Jvm.MethodName) prog_5_method_3_code (1 : Nat) (Option.none : Option Jvm.ClassFile.FieldType)) ∈ zW := zW_in (zTp5 (i := 53) rfl) rfl
set_option maxRecDepth 100000 in
theorem w_1017 : (Jvm.Cond.methodLink "TaskgraphicLaw" (76 : Nat) ({ cls := "Taskgraphic", name := "setRoom", desc := "(I)I" } : Jvm.MethodName)) ∈ zW := zW_in (zTp5 (i := 57) rfl) rfl
set_option maxRecDepth 100000 in
theorem w_1018 : (Jvm.Cond.instanceMethod ({ cls := "Taskgraphic", name := "setRoom", desc := "(I)I" } : Jvm.MethodName)) ∈ zW := zW_in (zTp5 (i := 58) rfl) rfl
set_option maxRecDepth 100000 in
theorem w_1019 : (Jvm.Cond.selects "Taskgraphic" ({ cls := "Taskgraphic", name := "setRoom", desc := "(I)I" } : Jvm.MethodName) ({ cls := "Taskgraphic", name := "setRoom", desc := "(I)I" } : Jvm.MethodName)) ∈ zW := zW_in (zTp5 (i := 59) rfl) rfl
set_option maxRecDepth 100000 in
theorem w_1020 : (Jvm.Cond.code ({ cls := "Taskgraphic", name := "setRoom", desc := "(I)I" } : Jvm.MethodName) prog_1_method_22_code (2 : Nat) (Option.some Jvm.ClassFile.FieldType.int)) ∈ zW := zW_in (zTp5 (i := 60) rfl) rfl
set_option maxRecDepth 100000 in
theorem w_1021 : (Jvm.Cond.methodLink "Taskgraphic" (258 : Nat) ({ cls := "Taskgraphic$Cache", name := "makeRoomFor", desc := "(I)I" } : Jvm.MethodName)) ∈ zW := zW_in (zTp5 (i := 61) rfl) rfl
set_option maxRecDepth 100000 in
theorem w_1022 : (Jvm.Cond.instanceMethod ({ cls := "Taskgraphic$Cache", name := "makeRoomFor", desc := "(I)I" } : Jvm.MethodName)) ∈ zW := zW_in (zTp5 (i := 62) rfl) rfl
set_option maxRecDepth 100000 in
theorem w_1023 : (Jvm.Cond.selects "Taskgraphic$Cache" ({ cls := "Taskgraphic$Cache", name := "makeRoomFor", desc := "(I)I" } : Jvm.MethodName) ({ cls := "Taskgraphic$Cache", name := "makeRoomFor", desc := "(I)I" } : Jvm.MethodName)) ∈ zW := zW_in (zTp5 (i := 63) rfl) rfl
set_option maxRecDepth 100000 in
theorem w_1024 : (Jvm.Cond.code ({ cls := "Taskgraphic$Cache", name := "makeRoomFor", desc := "(I)I" } : Jvm.MethodName) prog_2_method_6_code (4 : Nat) (Option.some Jvm.ClassFile.FieldType.int)) ∈ zW := zW_in (zTp5 (i := 64) rfl) rfl
set_option maxRecDepth 100000 in
theorem w_1025 : (Jvm.Cond.methodLink "Taskgraphic$Cache" (41 : Nat) ({ cls := "Taskgraphic$Cache", name := "remove", desc := "(I)V" } : Jvm.MethodName)) ∈ zW := zW_in (zTp5 (i := 65) rfl) rfl
set_option maxRecDepth 100000 in
theorem w_1027 : (Jvm.Cond.instanceMethod ({ cls := "Taskgraphic$Cache", name := "remove", desc := "(I)V" } : Jvm.MethodName)) ∈ zW := zW_in (zTp5 (i := 67) rfl) rfl
set_option maxRecDepth 100000 in
theorem w_1028 : (Jvm.Cond.code ({ cls := "Taskgraphic$Cache", name := "remove", desc := "(I)V" } : Jvm.MethodName) prog_2_method_8_code (3 : Nat) (Option.none : Option Jvm.ClassFile.FieldType)) ∈ zW := zW_in (zTp5 (i := 68) rfl) rfl
set_option maxRecDepth 100000 in
theorem w_1029 : (Jvm.Cond.methodLink "Taskgraphic$Cache" (37 : Nat) ({ cls := "Taskgraphic$Ints", name := "at", desc := "(I)I" } : Jvm.MethodName)) ∈ zW := zW_in (zTp5 (i := 69) rfl) rfl
set_option maxRecDepth 100000 in
theorem w_1030 : (Jvm.Cond.methodLinkNest "Taskgraphic$Cache" (57 : Nat) ({ cls := "Taskgraphic", name := "with", desc := "(II)I" } : Jvm.MethodName) "Taskgraphic") ∈ zN := List.mem_filter.mpr ⟨zTp5 (i := 70) rfl, rfl⟩
set_option maxRecDepth 100000 in
theorem w_1031 : (Jvm.Cond.methodLink "Taskgraphic$Cache" (54 : Nat) ({ cls := "Taskgraphic$Ints", name := "set", desc := "(II)V" } : Jvm.MethodName)) ∈ zW := zW_in (zTp5 (i := 71) rfl) rfl
set_option maxRecDepth 100000 in
theorem w_1035 : (Jvm.Cond.methodLink "TaskgraphicLaw" (79 : Nat) ({ cls := "Taskgraphic", name := "mark", desc := "(IZ)Z" } : Jvm.MethodName)) ∈ zW := zW_in (zTp5 (i := 75) rfl) rfl
set_option maxRecDepth 100000 in
theorem w_1036 : (Jvm.Cond.instanceMethod ({ cls := "Taskgraphic", name := "mark", desc := "(IZ)Z" } : Jvm.MethodName)) ∈ zW := zW_in (zTp5 (i := 76) rfl) rfl
set_option maxRecDepth 100000 in
theorem w_1037 : (Jvm.Cond.selects "Taskgraphic" ({ cls := "Taskgraphic", name := "mark", desc := "(IZ)Z" } : Jvm.MethodName) ({ cls := "Taskgraphic", name := "mark", desc := "(IZ)Z" } : Jvm.MethodName)) ∈ zW := zW_in (zTp5 (i := 77) rfl) rfl
set_option maxRecDepth 100000 in
theorem w_1038 : (Jvm.Cond.code ({ cls := "Taskgraphic", name := "mark", desc := "(IZ)Z" } : Jvm.MethodName) prog_1_method_23_code (4 : Nat) (Option.some Jvm.ClassFile.FieldType.boolean)) ∈ zW := zW_in (zTp5 (i := 78) rfl) rfl
set_option maxRecDepth 100000 in
theorem w_1042 : (Jvm.Cond.methodLink "TaskgraphicLaw" (83 : Nat) ({ cls := "Taskgraphic", name := "isCached", desc := "(I)Z" } : Jvm.MethodName)) ∈ zW := zW_in (zTp5 (i := 82) rfl) rfl
set_option maxRecDepth 100000 in
theorem w_1043 : (Jvm.Cond.instanceMethod ({ cls := "Taskgraphic", name := "isCached", desc := "(I)Z" } : Jvm.MethodName)) ∈ zW := zW_in (zTp5 (i := 83) rfl) rfl
set_option maxRecDepth 100000 in
theorem w_1044 : (Jvm.Cond.selects "Taskgraphic" ({ cls := "Taskgraphic", name := "isCached", desc := "(I)Z" } : Jvm.MethodName) ({ cls := "Taskgraphic", name := "isCached", desc := "(I)Z" } : Jvm.MethodName)) ∈ zW := zW_in (zTp5 (i := 84) rfl) rfl
set_option maxRecDepth 100000 in
theorem w_1045 : (Jvm.Cond.code ({ cls := "Taskgraphic", name := "isCached", desc := "(I)Z" } : Jvm.MethodName) prog_1_method_24_code (2 : Nat) (Option.some Jvm.ClassFile.FieldType.boolean)) ∈ zW := zW_in (zTp5 (i := 85) rfl) rfl
set_option maxRecDepth 100000 in
theorem w_1046 : (Jvm.Cond.methodLink "Taskgraphic" (265 : Nat) ({ cls := "Taskgraphic$Cache", name := "holds", desc := "(I)Z" } : Jvm.MethodName)) ∈ zW := zW_in (zTp5 (i := 86) rfl) rfl
set_option maxRecDepth 100000 in
theorem w_1047 : (Jvm.Cond.instanceMethod ({ cls := "Taskgraphic$Cache", name := "holds", desc := "(I)Z" } : Jvm.MethodName)) ∈ zW := zW_in (zTp5 (i := 87) rfl) rfl
set_option maxRecDepth 100000 in
theorem w_1048 : (Jvm.Cond.selects "Taskgraphic$Cache" ({ cls := "Taskgraphic$Cache", name := "holds", desc := "(I)Z" } : Jvm.MethodName) ({ cls := "Taskgraphic$Cache", name := "holds", desc := "(I)Z" } : Jvm.MethodName)) ∈ zW := zW_in (zTp5 (i := 88) rfl) rfl
set_option maxRecDepth 100000 in
theorem w_1049 : (Jvm.Cond.code ({ cls := "Taskgraphic$Cache", name := "holds", desc := "(I)Z" } : Jvm.MethodName) prog_2_method_2_code (2 : Nat) (Option.some Jvm.ClassFile.FieldType.boolean)) ∈ zW := zW_in (zTp5 (i := 89) rfl) rfl
set_option maxRecDepth 100000 in
theorem w_1050 : (Jvm.Cond.methodLinkNest "Taskgraphic$Cache" (27 : Nat) ({ cls := "Taskgraphic", name := "has", desc := "(II)Z" } : Jvm.MethodName) "Taskgraphic") ∈ zN := List.mem_filter.mpr ⟨zTp5 (i := 90) rfl, rfl⟩
set_option maxRecDepth 100000 in
theorem w_1054 : (Jvm.Cond.methodLink "TaskgraphicLaw" (86 : Nat) ({ cls := "Taskgraphic", name := "stages", desc := "(I)I" } : Jvm.MethodName)) ∈ zW := zW_in (zTp5 (i := 94) rfl) rfl
set_option maxRecDepth 100000 in
theorem w_1055 : (Jvm.Cond.instanceMethod ({ cls := "Taskgraphic", name := "stages", desc := "(I)I" } : Jvm.MethodName)) ∈ zW := zW_in (zTp5 (i := 95) rfl) rfl
set_option maxRecDepth 100000 in
theorem w_1056 : (Jvm.Cond.selects "Taskgraphic" ({ cls := "Taskgraphic", name := "stages", desc := "(I)I" } : Jvm.MethodName) ({ cls := "Taskgraphic", name := "stages", desc := "(I)I" } : Jvm.MethodName)) ∈ zW := zW_in (zTp5 (i := 96) rfl) rfl
set_option maxRecDepth 100000 in
theorem w_1057 : (Jvm.Cond.code ({ cls := "Taskgraphic", name := "stages", desc := "(I)I" } : Jvm.MethodName) prog_1_method_25_code (2 : Nat) (Option.some Jvm.ClassFile.FieldType.int)) ∈ zW := zW_in (zTp5 (i := 97) rfl) rfl
set_option maxRecDepth 100000 in
theorem w_1058 : (Jvm.Cond.methodLink "Taskgraphic" (268 : Nat) ({ cls := "Taskgraphic$Plan", name := "draw", desc := "(I)V" } : Jvm.MethodName)) ∈ zW := zW_in (zTp5 (i := 98) rfl) rfl
set_option maxRecDepth 100000 in
theorem w_1059 : (Jvm.Cond.instanceMethod ({ cls := "Taskgraphic$Plan", name := "draw", desc := "(I)V" } : Jvm.MethodName)) ∈ zW := zW_in (zTp5 (i := 99) rfl) rfl
set_option maxRecDepth 100000 in
theorem w_1060 : (Jvm.Cond.selects "Taskgraphic$Plan" ({ cls := "Taskgraphic$Plan", name := "draw", desc := "(I)V" } : Jvm.MethodName) ({ cls := "Taskgraphic$Plan", name := "draw", desc := "(I)V" } : Jvm.MethodName)) ∈ zW := zW_in (zTp5 (i := 100) rfl) rfl
set_option maxRecDepth 100000 in
theorem w_1061 : (Jvm.Cond.code ({ cls := "Taskgraphic$Plan", name := "draw", desc := "(I)V" } : Jvm.MethodName) prog_10_method_5_code (5 : Nat) (Option.none : Option Jvm.ClassFile.FieldType)) ∈ zW := zW_in (zTp5 (i := 101) rfl) rfl
set_option maxRecDepth 100000 in
theorem w_1062 : (Jvm.Cond.methodLink "Taskgraphic$Plan" (55 : Nat) ({ cls := "Taskgraphic$Plan", name := "needWhole", desc := "(I)V" } : Jvm.MethodName)) ∈ zW := zW_in (zTp5 (i := 102) rfl) rfl
set_option maxRecDepth 100000 in
theorem w_1064 : (Jvm.Cond.instanceMethod ({ cls := "Taskgraphic$Plan", name := "needWhole", desc := "(I)V" } : Jvm.MethodName)) ∈ zW := zW_in (zTp5 (i := 104) rfl) rfl
set_option maxRecDepth 100000 in
theorem w_1065 : (Jvm.Cond.code ({ cls := "Taskgraphic$Plan", name := "needWhole", desc := "(I)V" } : Jvm.MethodName) prog_10_method_6_code (2 : Nat) (Option.none : Option Jvm.ClassFile.FieldType)) ∈ zW := zW_in (zTp5 (i := 105) rfl) rfl
set_option maxRecDepth 100000 in
theorem w_1066 : (Jvm.Cond.methodLink "Taskgraphic$Plan" (78 : Nat) ({ cls := "Taskgraphic$Cache", name := "holds", desc := "(I)Z" } : Jvm.MethodName)) ∈ zW := zW_in (zTp5 (i := 106) rfl) rfl
set_option maxRecDepth 100000 in
theorem w_1067 : (Jvm.Cond.methodLinkNest "Taskgraphic$Plan" (84 : Nat) ({ cls := "Taskgraphic", name := "with", desc := "(II)I" } : Jvm.MethodName) "Taskgraphic") ∈ zN := List.mem_filter.mpr ⟨zTp5 (i := 107) rfl, rfl⟩
set_option maxRecDepth 100000 in
theorem w_1068 : (Jvm.Cond.methodLinkNest "Taskgraphic$Plan" (42 : Nat) ({ cls := "Taskgraphic", name := "has", desc := "(II)Z" } : Jvm.MethodName) "Taskgraphic") ∈ zN := List.mem_filter.mpr ⟨zTp5 (i := 108) rfl, rfl⟩
set_option maxRecDepth 100000 in
theorem w_1069 : (Jvm.Cond.methodLink "Taskgraphic$Plan" (58 : Nat) ({ cls := "Taskgraphic$Holding", name := "of", desc := "(I)LTaskgraphic$Rows;" } : Jvm.MethodName)) ∈ zW := zW_in (zTp5 (i := 109) rfl) rfl
set_option maxRecDepth 100000 in
theorem w_1070 : (Jvm.Cond.methodLink "Taskgraphic$Plan" (64 : Nat) ({ cls := "Taskgraphic$Rows", name := "parts", desc := "()I" } : Jvm.MethodName)) ∈ zW := zW_in (zTp5 (i := 110) rfl) rfl
set_option maxRecDepth 100000 in
theorem w_1071 : (Jvm.Cond.methodLink "Taskgraphic$Plan" (70 : Nat) ({ cls := "Taskgraphic$Plan", name := "readsOfTask", desc := "(II)I" } : Jvm.MethodName)) ∈ zW := zW_in (zTp5 (i := 111) rfl) rfl
set_option maxRecDepth 100000 in
theorem w_1073 : (Jvm.Cond.instanceMethod ({ cls := "Taskgraphic$Plan", name := "readsOfTask", desc := "(II)I" } : Jvm.MethodName)) ∈ zW := zW_in (zTp5 (i := 113) rfl) rfl
set_option maxRecDepth 100000 in
theorem w_1074 : (Jvm.Cond.code ({ cls := "Taskgraphic$Plan", name := "readsOfTask", desc := "(II)I" } : Jvm.MethodName) prog_10_method_7_code (11 : Nat) (Option.some Jvm.ClassFile.FieldType.int)) ∈ zW := zW_in (zTp5 (i := 114) rfl) rfl
set_option maxRecDepth 100000 in
theorem w_1075 : (Jvm.Cond.methodLink "Taskgraphic$Plan" (87 : Nat) ({ cls := "Taskgraphic$Graph", name := "at", desc := "(I)LTaskgraphic$Node;" } : Jvm.MethodName)) ∈ zW := zW_in (zTp5 (i := 115) rfl) rfl
set_option maxRecDepth 100000 in
theorem w_1076 : (Jvm.Cond.methodLink "Taskgraphic$Plan" (92 : Nat) ({ cls := "Taskgraphic$Rows", name := "sizeOf", desc := "(I)I" } : Jvm.MethodName)) ∈ zW := zW_in (zTp5 (i := 116) rfl) rfl
set_option maxRecDepth 100000 in
theorem w_1077 : (Jvm.Cond.fieldLink "Taskgraphic$Plan" (101 : Nat) "Taskgraphic$Kind" "SOURCE" "LTaskgraphic$Kind;") ∈ zW := zW_in (zTp5 (i := 117) rfl) rfl
set_option maxRecDepth 100000 in
theorem w_1078 : (Jvm.Cond.methodLink "Taskgraphic$Plan" (106 : Nat) ({ cls := "Taskgraphic$Holding", name := "joinsBroadly", desc := "(I)Z" } : Jvm.MethodName)) ∈ zW := zW_in (zTp5 (i := 118) rfl) rfl
set_option maxRecDepth 100000 in
theorem w_1079 : (Jvm.Cond.fieldLink "Taskgraphic$Plan" (109 : Nat) "Taskgraphic$Kind" "GROUP" "LTaskgraphic$Kind;") ∈ zW := zW_in (zTp5 (i := 119) rfl) rfl
set_option maxRecDepth 100000 in
theorem w_1080 : (Jvm.Cond.fieldLink "Taskgraphic$Plan" (112 : Nat) "Taskgraphic$Kind" "JOIN" "LTaskgraphic$Kind;") ∈ zW := zW_in (zTp5 (i := 120) rfl) rfl
set_option maxRecDepth 100000 in
theorem w_1081 : (Jvm.Cond.methodLink "Taskgraphic$Plan" (115 : Nat) ({ cls := "Taskgraphic$Plan", name := "readsOfShares", desc := "(LTaskgraphic$Node;I)I" } : Jvm.MethodName)) ∈ zW := zW_in (zTp5 (i := 121) rfl) rfl
set_option maxRecDepth 100000 in
theorem w_1083 : (Jvm.Cond.instanceMethod ({ cls := "Taskgraphic$Plan", name := "readsOfShares", desc := "(LTaskgraphic$Node;I)I" } : Jvm.MethodName)) ∈ zW := zW_in (zTp5 (i := 123) rfl) rfl
set_option maxRecDepth 100000 in
theorem w_1084 : (Jvm.Cond.code ({ cls := "Taskgraphic$Plan", name := "readsOfShares", desc := "(LTaskgraphic$Node;I)I" } : Jvm.MethodName) prog_10_method_8_code (4 : Nat) (Option.some Jvm.ClassFile.FieldType.int)) ∈ zW := zW_in (zTp5 (i := 124) rfl) rfl
set_option maxRecDepth 100000 in
theorem w_1085 : (Jvm.Cond.methodLink "Taskgraphic$Plan" (134 : Nat) ({ cls := "Taskgraphic$Plan", name := "sizeOfShare", desc := "(LTaskgraphic$Rows;II)I" } : Jvm.MethodName)) ∈ zW := zW_in (zTp5 (i := 125) rfl) rfl
set_option maxRecDepth 100000 in
theorem w_1086 : (Jvm.Cond.static ({ cls := "Taskgraphic$Plan", name := "sizeOfShare", desc := "(LTaskgraphic$Rows;II)I" } : Jvm.MethodName)) ∈ zW := zW_in (zTp5 (i := 126) rfl) rfl
set_option maxRecDepth 100000 in
theorem w_1087 : (Jvm.Cond.code ({ cls := "Taskgraphic$Plan", name := "sizeOfShare", desc := "(LTaskgraphic$Rows;II)I" } : Jvm.MethodName) prog_10_method_9_code (5 : Nat) (Option.some Jvm.ClassFile.FieldType.int)) ∈ zW := zW_in (zTp5 (i := 127) rfl) rfl
set_option maxRecDepth 100000 in
theorem w_1088 : (Jvm.Cond.methodLink "Taskgraphic$Plan" (122 : Nat) ({ cls := "Taskgraphic$Rows", name := "size", desc := "()I" } : Jvm.MethodName)) ∈ zW := zW_in (zTp5 (i := 128) rfl) rfl
set_option maxRecDepth 100000 in
theorem w_1089 : (Jvm.Cond.methodLink "Taskgraphic$Plan" (138 : Nat) ({ cls := "Taskgraphic$Rows", name := "key", desc := "(I)I" } : Jvm.MethodName)) ∈ zW := zW_in (zTp5 (i := 129) rfl) rfl
set_option maxRecDepth 100000 in
theorem w_1090 : (Jvm.Cond.methodLinkNest "Taskgraphic$Plan" (141 : Nat) ({ cls := "Taskgraphic", name := "modulo", desc := "(II)I" } : Jvm.MethodName) "Taskgraphic") ∈ zN := List.mem_filter.mpr ⟨zTp5 (i := 130) rfl, rfl⟩
set_option maxRecDepth 100000 in
theorem w_1091 : (Jvm.Cond.fieldLink "Taskgraphic$Plan" (128 : Nat) "Taskgraphic$Kind" "UNION" "LTaskgraphic$Kind;") ∈ zW := zW_in (zTp5 (i := 131) rfl) rfl
set_option maxRecDepth 100000 in
theorem w_1092 : (Jvm.Cond.methodLink "Taskgraphic$Plan" (74 : Nat) ({ cls := "Taskgraphic$Ints", name := "set", desc := "(II)V" } : Jvm.MethodName)) ∈ zW := zW_in (zTp5 (i := 132) rfl) rfl
set_option maxRecDepth 100000 in
theorem w_1093 : (Jvm.Cond.methodLink "Taskgraphic" (271 : Nat) ({ cls := "Taskgraphic$Plan", name := "countOfStages", desc := "()I" } : Jvm.MethodName)) ∈ zW := zW_in (zTp5 (i := 133) rfl) rfl
set_option maxRecDepth 100000 in
theorem w_1094 : (Jvm.Cond.instanceMethod ({ cls := "Taskgraphic$Plan", name := "countOfStages", desc := "()I" } : Jvm.MethodName)) ∈ zW := zW_in (zTp5 (i := 134) rfl) rfl
set_option maxRecDepth 100000 in
theorem w_1095 : (Jvm.Cond.selects "Taskgraphic$Plan" ({ cls := "Taskgraphic$Plan", name := "countOfStages", desc := "()I" } : Jvm.MethodName) ({ cls := "Taskgraphic$Plan", name := "countOfStages", desc := "()I" } : Jvm.MethodName)) ∈ zW := zW_in (zTp5 (i := 135) rfl) rfl
set_option maxRecDepth 100000 in
theorem w_1096 : (Jvm.Cond.code ({ cls := "Taskgraphic$Plan", name := "countOfStages", desc := "()I" } : Jvm.MethodName) prog_10_method_2_code (1 : Nat) (Option.some Jvm.ClassFile.FieldType.int)) ∈ zW := zW_in (zTp5 (i := 136) rfl) rfl
set_option maxRecDepth 100000 in
theorem w_1097 : (Jvm.Cond.methodLink "Taskgraphic$Plan" (36 : Nat) ({ cls := "java/lang/Integer", name := "bitCount", desc := "(I)I" } : Jvm.MethodName)) ∈ zW := zW_in (zTp5 (i := 137) rfl) rfl
set_option maxRecDepth 100000 in
theorem w_1098 : (Jvm.Cond.static ({ cls := "java/lang/Integer", name := "bitCount", desc := "(I)I" } : Jvm.MethodName)) ∈ zW := zW_in (zTp5 (i := 138) rfl) rfl
set_option maxRecDepth 100000 in
theorem w_1099 : (Jvm.Cond.code ({ cls := "java/lang/Integer", name := "bitCount", desc := "(I)I" } : Jvm.MethodName) prog_22_method_49_code (1 : Nat) (Option.some Jvm.ClassFile.FieldType.int)) ∈ zW := zW_in (zTp5 (i := 139) rfl) rfl
set_option maxRecDepth 100000 in
theorem w_1100 : (Jvm.Cond.constant "java/lang/Integer" (265 : Nat) (1431655765 : Int32)) ∈ zW := zW_in (zTp5 (i := 140) rfl) rfl
set_option maxRecDepth 100000 in
theorem w_1101 : (Jvm.Cond.constant "java/lang/Integer" (266 : Nat) (858993459 : Int32)) ∈ zW := zW_in (zTp5 (i := 141) rfl) rfl
set_option maxRecDepth 100000 in
theorem w_1102 : (Jvm.Cond.constant "java/lang/Integer" (267 : Nat) (252645135 : Int32)) ∈ zW := zW_in (zTp5 (i := 142) rfl) rfl
set_option maxRecDepth 100000 in
theorem w_1106 : (Jvm.Cond.methodLink "TaskgraphicLaw" (89 : Nat) ({ cls := "Taskgraphic", name := "outputOf", desc := "(II)I" } : Jvm.MethodName)) ∈ zW := zW_in (zTp5 (i := 146) rfl) rfl
set_option maxRecDepth 100000 in
theorem w_1107 : (Jvm.Cond.instanceMethod ({ cls := "Taskgraphic", name := "outputOf", desc := "(II)I" } : Jvm.MethodName)) ∈ zW := zW_in (zTp5 (i := 147) rfl) rfl
set_option maxRecDepth 100000 in
theorem w_1108 : (Jvm.Cond.selects "Taskgraphic" ({ cls := "Taskgraphic", name := "outputOf", desc := "(II)I" } : Jvm.MethodName) ({ cls := "Taskgraphic", name := "outputOf", desc := "(II)I" } : Jvm.MethodName)) ∈ zW := zW_in (zTp5 (i := 148) rfl) rfl
set_option maxRecDepth 100000 in
theorem w_1109 : (Jvm.Cond.code ({ cls := "Taskgraphic", name := "outputOf", desc := "(II)I" } : Jvm.MethodName) prog_1_method_26_code (3 : Nat) (Option.some Jvm.ClassFile.FieldType.int)) ∈ zW := zW_in (zTp5 (i := 149) rfl) rfl
set_option maxRecDepth 100000 in
theorem w_1111 : (Jvm.Cond.methodLink "Taskgraphic" (276 : Nat) ({ cls := "Taskgraphic$Plan", name := "outputOfStage", desc := "(I)I" } : Jvm.MethodName)) ∈ zW := zW_in (zTp5 (i := 151) rfl) rfl
set_option maxRecDepth 100000 in
theorem w_1112 : (Jvm.Cond.instanceMethod ({ cls := "Taskgraphic$Plan", name := "outputOfStage", desc := "(I)I" } : Jvm.MethodName)) ∈ zW := zW_in (zTp5 (i := 152) rfl) rfl
set_option maxRecDepth 100000 in
theorem w_1113 : (Jvm.Cond.selects "Taskgraphic$Plan" ({ cls := "Taskgraphic$Plan", name := "outputOfStage", desc := "(I)I" } : Jvm.MethodName) ({ cls := "Taskgraphic$Plan", name := "outputOfStage", desc := "(I)I" } : Jvm.MethodName)) ∈ zW := zW_in (zTp5 (i := 153) rfl) rfl
set_option maxRecDepth 100000 in
theorem w_1114 : (Jvm.Cond.code ({ cls := "Taskgraphic$Plan", name := "outputOfStage", desc := "(I)I" } : Jvm.MethodName) prog_10_method_3_code (4 : Nat) (Option.some Jvm.ClassFile.FieldType.int)) ∈ zW := zW_in (zTp5 (i := 154) rfl) rfl
set_option maxRecDepth 100000 in
theorem w_1118 : (Jvm.Cond.methodLink "TaskgraphicLaw" (92 : Nat) ({ cls := "Taskgraphic", name := "run", desc := "(I)I" } : Jvm.MethodName)) ∈ zW := zW_in (zTp5 (i := 158) rfl) rfl
set_option maxRecDepth 100000 in
theorem w_1119 : (Jvm.Cond.instanceMethod ({ cls := "Taskgraphic", name := "run", desc := "(I)I" } : Jvm.MethodName)) ∈ zW := zW_in (zTp5 (i := 159) rfl) rfl
set_option maxRecDepth 100000 in
theorem w_1120 : (Jvm.Cond.selects "Taskgraphic" ({ cls := "Taskgraphic", name := "run", desc := "(I)I" } : Jvm.MethodName) ({ cls := "Taskgraphic", name := "run", desc := "(I)I" } : Jvm.MethodName)) ∈ zW := zW_in (zTp5 (i := 160) rfl) rfl
set_option maxRecDepth 100000 in
theorem w_1121 : (Jvm.Cond.code ({ cls := "Taskgraphic", name := "run", desc := "(I)I" } : Jvm.MethodName) prog_1_method_27_code (4 : Nat) (Option.some Jvm.ClassFile.FieldType.int)) ∈ zW := zW_in (zTp5 (i := 161) rfl) rfl
set_option maxRecDepth 100000 in
theorem w_1122 : (Jvm.Cond.methodLink "Taskgraphic" (279 : Nat) ({ cls := "Taskgraphic$Log", name := "begin", desc := "(I)V" } : Jvm.MethodName)) ∈ zW := zW_in (zTp5 (i := 162) rfl) rfl
set_option maxRecDepth 100000 in
theorem w_1123 : (Jvm.Cond.instanceMethod ({ cls := "Taskgraphic$Log", name := "begin", desc := "(I)V" } : Jvm.MethodName)) ∈ zW := zW_in (zTp5 (i := 163) rfl) rfl
set_option maxRecDepth 100000 in
theorem w_1124 : (Jvm.Cond.selects "Taskgraphic$Log" ({ cls := "Taskgraphic$Log", name := "begin", desc := "(I)V" } : Jvm.MethodName) ({ cls := "Taskgraphic$Log", name := "begin", desc := "(I)V" } : Jvm.MethodName)) ∈ zW := zW_in (zTp5 (i := 164) rfl) rfl
set_option maxRecDepth 100000 in
theorem w_1125 : (Jvm.Cond.code ({ cls := "Taskgraphic$Log", name := "begin", desc := "(I)V" } : Jvm.MethodName) prog_8_method_2_code (2 : Nat) (Option.none : Option Jvm.ClassFile.FieldType)) ∈ zW := zW_in (zTp5 (i := 165) rfl) rfl
set_option maxRecDepth 100000 in
theorem w_1126 : (Jvm.Cond.methodLink "Taskgraphic" (284 : Nat) ({ cls := "Taskgraphic", name := "has", desc := "(II)Z" } : Jvm.MethodName)) ∈ zW := zW_in (zTp5 (i := 166) rfl) rfl
set_option maxRecDepth 100000 in
theorem w_1127 : (Jvm.Cond.methodLink "Taskgraphic" (288 : Nat) ({ cls := "Taskgraphic", name := "loadStage", desc := "(I)V" } : Jvm.MethodName)) ∈ zW := zW_in (zTp5 (i := 167) rfl) rfl
set_option maxRecDepth 100000 in
theorem w_1129 : (Jvm.Cond.instanceMethod ({ cls := "Taskgraphic", name := "loadStage", desc := "(I)V" } : Jvm.MethodName)) ∈ zW := zW_in (zTp5 (i := 169) rfl) rfl
set_option maxRecDepth 100000 in
theorem w_1130 : (Jvm.Cond.code ({ cls := "Taskgraphic", name := "loadStage", desc := "(I)V" } : Jvm.MethodName) prog_1_method_46_code (6 : Nat) (Option.none : Option Jvm.ClassFile.FieldType)) ∈ zW := zW_in (zTp5 (i := 170) rfl) rfl
set_option maxRecDepth 100000 in
theorem w_1131 : (Jvm.Cond.methodLink "Taskgraphic" (346 : Nat) ({ cls := "Taskgraphic$Holding", name := "of", desc := "(I)LTaskgraphic$Rows;" } : Jvm.MethodName)) ∈ zW := zW_in (zTp5 (i := 171) rfl) rfl
set_option maxRecDepth 100000 in
theorem w_1132 : (Jvm.Cond.methodLink "Taskgraphic" (349 : Nat) ({ cls := "Taskgraphic$Stage", name := "begin", desc := "(II)V" } : Jvm.MethodName)) ∈ zW := zW_in (zTp5 (i := 172) rfl) rfl
set_option maxRecDepth 100000 in
theorem w_1133 : (Jvm.Cond.instanceMethod ({ cls := "Taskgraphic$Stage", name := "begin", desc := "(II)V" } : Jvm.MethodName)) ∈ zW := zW_in (zTp5 (i := 173) rfl) rfl
set_option maxRecDepth 100000 in
theorem w_1134 : (Jvm.Cond.selects "Taskgraphic$Stage" ({ cls := "Taskgraphic$Stage", name := "begin", desc := "(II)V" } : Jvm.MethodName) ({ cls := "Taskgraphic$Stage", name := "begin", desc := "(II)V" } : Jvm.MethodName)) ∈ zW := zW_in (zTp5 (i := 174) rfl) rfl
set_option maxRecDepth 100000 in
theorem w_1135 : (Jvm.Cond.code ({ cls := "Taskgraphic$Stage", name := "begin", desc := "(II)V" } : Jvm.MethodName) prog_12_method_2_code (3 : Nat) (Option.none : Option Jvm.ClassFile.FieldType)) ∈ zW := zW_in (zTp5 (i := 175) rfl) rfl
set_option maxRecDepth 100000 in
theorem w_1136 : (Jvm.Cond.methodLink "Taskgraphic" (351 : Nat) ({ cls := "Taskgraphic$Plan", name := "readsOf", desc := "(II)I" } : Jvm.MethodName)) ∈ zW := zW_in (zTp5 (i := 176) rfl) rfl
set_option maxRecDepth 100000 in
theorem w_1137 : (Jvm.Cond.instanceMethod ({ cls := "Taskgraphic$Plan", name := "readsOf", desc := "(II)I" } : Jvm.MethodName)) ∈ zW := zW_in (zTp5 (i := 177) rfl) rfl
set_option maxRecDepth 100000 in
theorem w_1138 : (Jvm.Cond.selects "Taskgraphic$Plan" ({ cls := "Taskgraphic$Plan", name := "readsOf", desc := "(II)I" } : Jvm.MethodName) ({ cls := "Taskgraphic$Plan", name := "readsOf", desc := "(II)I" } : Jvm.MethodName)) ∈ zW := zW_in (zTp5 (i := 178) rfl) rfl
set_option maxRecDepth 100000 in
theorem w_1139 : (Jvm.Cond.code ({ cls := "Taskgraphic$Plan", name := "readsOf", desc := "(II)I" } : Jvm.MethodName) prog_10_method_4_code (3 : Nat) (Option.some Jvm.ClassFile.FieldType.int)) ∈ zW := zW_in (zTp5 (i := 179) rfl) rfl
set_option maxRecDepth 100000 in
theorem w_1140 : (Jvm.Cond.methodLink "Taskgraphic$Plan" (46 : Nat) ({ cls := "Taskgraphic$Ints", name := "at", desc := "(I)I" } : Jvm.MethodName)) ∈ zW := zW_in (zTp5 (i := 180) rfl) rfl
set_option maxRecDepth 100000 in
theorem w_1141 : (Jvm.Cond.methodLink "Taskgraphic" (291 : Nat) ({ cls := "Taskgraphic$Crew", name := "workOff", desc := "(LTaskgraphic$Stage;I)I" } : Jvm.MethodName)) ∈ zW := zW_in (zTp5 (i := 181) rfl) rfl
set_option maxRecDepth 100000 in
theorem w_1142 : (Jvm.Cond.instanceMethod ({ cls := "Taskgraphic$Crew", name := "workOff", desc := "(LTaskgraphic$Stage;I)I" } : Jvm.MethodName)) ∈ zW := zW_in (zTp5 (i := 182) rfl) rfl
set_option maxRecDepth 100000 in
theorem w_1143 : (Jvm.Cond.selects "Taskgraphic$Crew" ({ cls := "Taskgraphic$Crew", name := "workOff", desc := "(LTaskgraphic$Stage;I)I" } : Jvm.MethodName) ({ cls := "Taskgraphic$Crew", name := "workOff", desc := "(LTaskgraphic$Stage;I)I" } : Jvm.MethodName)) ∈ zW := zW_in (zTp5 (i := 183) rfl) rfl
set_option maxRecDepth 100000 in
theorem w_1144 : (Jvm.Cond.code ({ cls := "Taskgraphic$Crew", name := "workOff", desc := "(LTaskgraphic$Stage;I)I" } : Jvm.MethodName) prog_3_method_2_code (5 : Nat) (Option.some Jvm.ClassFile.FieldType.int)) ∈ zW := zW_in (zTp5 (i := 184) rfl) rfl
set_option maxRecDepth 100000 in
theorem w_1145 : (Jvm.Cond.methodLink "Taskgraphic$Crew" (35 : Nat) ({ cls := "Taskgraphic$Stage", name := "ended", desc := "(I)I" } : Jvm.MethodName)) ∈ zW := zW_in (zTp5 (i := 185) rfl) rfl
set_option maxRecDepth 100000 in
theorem w_1146 : (Jvm.Cond.instanceMethod ({ cls := "Taskgraphic$Stage", name := "ended", desc := "(I)I" } : Jvm.MethodName)) ∈ zW := zW_in (zTp5 (i := 186) rfl) rfl
set_option maxRecDepth 100000 in
theorem w_1147 : (Jvm.Cond.selects "Taskgraphic$Stage" ({ cls := "Taskgraphic$Stage", name := "ended", desc := "(I)I" } : Jvm.MethodName) ({ cls := "Taskgraphic$Stage", name := "ended", desc := "(I)I" } : Jvm.MethodName)) ∈ zW := zW_in (zTp5 (i := 187) rfl) rfl
set_option maxRecDepth 100000 in
theorem w_1148 : (Jvm.Cond.code ({ cls := "Taskgraphic$Stage", name := "ended", desc := "(I)I" } : Jvm.MethodName) prog_12_method_5_code (4 : Nat) (Option.some Jvm.ClassFile.FieldType.int)) ∈ zW := zW_in (zTp5 (i := 188) rfl) rfl
set_option maxRecDepth 100000 in
theorem w_1149 : (Jvm.Cond.methodLink "Taskgraphic$Stage" (47 : Nat) ({ cls := "Taskgraphic$Ints", name := "at", desc := "(I)I" } : Jvm.MethodName)) ∈ zW := zW_in (zTp5 (i := 189) rfl) rfl
set_option maxRecDepth 100000 in
theorem w_1150 : (Jvm.Cond.methodLink "Taskgraphic$Crew" (44 : Nat) ({ cls := "Taskgraphic$Crew", name := "look", desc := "(LTaskgraphic$Stage;I)Z" } : Jvm.MethodName)) ∈ zW := zW_in (zTp5 (i := 190) rfl) rfl
set_option maxRecDepth 100000 in
theorem w_1152 : (Jvm.Cond.instanceMethod ({ cls := "Taskgraphic$Crew", name := "look", desc := "(LTaskgraphic$Stage;I)Z" } : Jvm.MethodName)) ∈ zW := zW_in (zTp5 (i := 192) rfl) rfl
set_option maxRecDepth 100000 in
theorem w_1153 : (Jvm.Cond.code ({ cls := "Taskgraphic$Crew", name := "look", desc := "(LTaskgraphic$Stage;I)Z" } : Jvm.MethodName) prog_3_method_3_code (6 : Nat) (Option.some Jvm.ClassFile.FieldType.boolean)) ∈ zW := zW_in (zTp5 (i := 193) rfl) rfl
set_option maxRecDepth 100000 in
theorem w_1154 : (Jvm.Cond.methodLink "Taskgraphic$Crew" (51 : Nat) ({ cls := "Taskgraphic$Ints", name := "at", desc := "(I)I" } : Jvm.MethodName)) ∈ zW := zW_in (zTp5 (i := 194) rfl) rfl
set_option maxRecDepth 100000 in
theorem w_1155 : (Jvm.Cond.methodLink "Taskgraphic$Crew" (57 : Nat) ({ cls := "Taskgraphic$Crew", name := "takeNext", desc := "(LTaskgraphic$Stage;II)V" } : Jvm.MethodName)) ∈ zW := zW_in (zTp5 (i := 195) rfl) rfl
set_option maxRecDepth 100000 in
theorem w_1157 : (Jvm.Cond.instanceMethod ({ cls := "Taskgraphic$Crew", name := "takeNext", desc := "(LTaskgraphic$Stage;II)V" } : Jvm.MethodName)) ∈ zW := zW_in (zTp5 (i := 197) rfl) rfl
set_option maxRecDepth 100000 in
theorem w_1158 : (Jvm.Cond.code ({ cls := "Taskgraphic$Crew", name := "takeNext", desc := "(LTaskgraphic$Stage;II)V" } : Jvm.MethodName) prog_3_method_4_code (6 : Nat) (Option.none : Option Jvm.ClassFile.FieldType)) ∈ zW := zW_in (zTp5 (i := 198) rfl) rfl
set_option maxRecDepth 100000 in
theorem w_1159 : (Jvm.Cond.methodLink "Taskgraphic$Crew" (71 : Nat) ({ cls := "Taskgraphic$Log", name := "add", desc := "(IIIIIZ)I" } : Jvm.MethodName)) ∈ zW := zW_in (zTp5 (i := 199) rfl) rfl
set_option maxRecDepth 100000 in
theorem w_1160 : (Jvm.Cond.instanceMethod ({ cls := "Taskgraphic$Log", name := "add", desc := "(IIIIIZ)I" } : Jvm.MethodName)) ∈ zW := zW_in (zTp5 (i := 200) rfl) rfl
set_option maxRecDepth 100000 in
theorem w_1161 : (Jvm.Cond.selects "Taskgraphic$Log" ({ cls := "Taskgraphic$Log", name := "add", desc := "(IIIIIZ)I" } : Jvm.MethodName) ({ cls := "Taskgraphic$Log", name := "add", desc := "(IIIIIZ)I" } : Jvm.MethodName)) ∈ zW := zW_in (zTp5 (i := 201) rfl) rfl
set_option maxRecDepth 100000 in
theorem w_1162 : (Jvm.Cond.code ({ cls := "Taskgraphic$Log", name := "add", desc := "(IIIIIZ)I" } : Jvm.MethodName) prog_8_method_3_code (8 : Nat) (Option.some Jvm.ClassFile.FieldType.int)) ∈ zW := zW_in (zTp5 (i := 202) rfl) rfl
set_option maxRecDepth 100000 in
theorem w_1163 : (Jvm.Cond.methodLink "Taskgraphic$Log" (45 : Nat) ({ cls := "Taskgraphic$Ints", name := "set", desc := "(II)V" } : Jvm.MethodName)) ∈ zW := zW_in (zTp5 (i := 203) rfl) rfl
set_option maxRecDepth 100000 in
theorem w_1164 : (Jvm.Cond.methodLink "Taskgraphic$Crew" (77 : Nat) ({ cls := "Taskgraphic$Stage", name := "take", desc := "(II)V" } : Jvm.MethodName)) ∈ zW := zW_in (zTp5 (i := 204) rfl) rfl
set_option maxRecDepth 100000 in
theorem w_1165 : (Jvm.Cond.instanceMethod ({ cls := "Taskgraphic$Stage", name := "take", desc := "(II)V" } : Jvm.MethodName)) ∈ zW := zW_in (zTp5 (i := 205) rfl) rfl
set_option maxRecDepth 100000 in
theorem w_1166 : (Jvm.Cond.selects "Taskgraphic$Stage" ({ cls := "Taskgraphic$Stage", name := "take", desc := "(II)V" } : Jvm.MethodName) ({ cls := "Taskgraphic$Stage", name := "take", desc := "(II)V" } : Jvm.MethodName)) ∈ zW := zW_in (zTp5 (i := 206) rfl) rfl
set_option maxRecDepth 100000 in
theorem w_1167 : (Jvm.Cond.code ({ cls := "Taskgraphic$Stage", name := "take", desc := "(II)V" } : Jvm.MethodName) prog_12_method_3_code (3 : Nat) (Option.none : Option Jvm.ClassFile.FieldType)) ∈ zW := zW_in (zTp5 (i := 207) rfl) rfl
set_option maxRecDepth 100000 in
theorem w_1168 : (Jvm.Cond.methodLink "Taskgraphic$Stage" (39 : Nat) ({ cls := "Taskgraphic$Ints", name := "set", desc := "(II)V" } : Jvm.MethodName)) ∈ zW := zW_in (zTp5 (i := 208) rfl) rfl
set_option maxRecDepth 100000 in
theorem w_1169 : (Jvm.Cond.methodLink "Taskgraphic$Crew" (61 : Nat) ({ cls := "Taskgraphic$Crew", name := "takesCopy", desc := "(LTaskgraphic$Stage;II)Z" } : Jvm.MethodName)) ∈ zW := zW_in (zTp5 (i := 209) rfl) rfl
set_option maxRecDepth 100000 in
theorem w_1171 : (Jvm.Cond.instanceMethod ({ cls := "Taskgraphic$Crew", name := "takesCopy", desc := "(LTaskgraphic$Stage;II)Z" } : Jvm.MethodName)) ∈ zW := zW_in (zTp5 (i := 211) rfl) rfl
set_option maxRecDepth 100000 in
theorem w_1172 : (Jvm.Cond.code ({ cls := "Taskgraphic$Crew", name := "takesCopy", desc := "(LTaskgraphic$Stage;II)Z" } : Jvm.MethodName) prog_3_method_5_code (7 : Nat) (Option.some Jvm.ClassFile.FieldType.boolean)) ∈ zW := zW_in (zTp5 (i := 212) rfl) rfl
set_option maxRecDepth 100000 in
theorem w_1173 : (Jvm.Cond.methodLink "Taskgraphic$Crew" (80 : Nat) ({ cls := "Taskgraphic$Stage", name := "latestWithoutCopy", desc := "(I)I" } : Jvm.MethodName)) ∈ zW := zW_in (zTp5 (i := 213) rfl) rfl
set_option maxRecDepth 100000 in
theorem w_1174 : (Jvm.Cond.instanceMethod ({ cls := "Taskgraphic$Stage", name := "latestWithoutCopy", desc := "(I)I" } : Jvm.MethodName)) ∈ zW := zW_in (zTp5 (i := 214) rfl) rfl
set_option maxRecDepth 100000 in
theorem w_1175 : (Jvm.Cond.selects "Taskgraphic$Stage" ({ cls := "Taskgraphic$Stage", name := "latestWithoutCopy", desc := "(I)I" } : Jvm.MethodName) ({ cls := "Taskgraphic$Stage", name := "latestWithoutCopy", desc := "(I)I" } : Jvm.MethodName)) ∈ zW := zW_in (zTp5 (i := 215) rfl) rfl
set_option maxRecDepth 100000 in
theorem w_1176 : (Jvm.Cond.code ({ cls := "Taskgraphic$Stage", name := "latestWithoutCopy", desc := "(I)I" } : Jvm.MethodName) prog_12_method_7_code (5 : Nat) (Option.some Jvm.ClassFile.FieldType.int)) ∈ zW := zW_in (zTp5 (i := 216) rfl) rfl
set_option maxRecDepth 100000 in
theorem w_1177 : (Jvm.Cond.methodLinkNest "Taskgraphic$Stage" (51 : Nat) ({ cls := "Taskgraphic", name := "has", desc := "(II)Z" } : Jvm.MethodName) "Taskgraphic") ∈ zN := List.mem_filter.mpr ⟨zTp5 (i := 217) rfl, rfl⟩
set_option maxRecDepth 100000 in
theorem w_1178 : (Jvm.Cond.methodLink "Taskgraphic$Crew" (90 : Nat) ({ cls := "Taskgraphic$Stage", name := "copy", desc := "(II)V" } : Jvm.MethodName)) ∈ zW := zW_in (zTp5 (i := 218) rfl) rfl
set_option maxRecDepth 100000 in
theorem w_1179 : (Jvm.Cond.instanceMethod ({ cls := "Taskgraphic$Stage", name := "copy", desc := "(II)V" } : Jvm.MethodName)) ∈ zW := zW_in (zTp5 (i := 219) rfl) rfl
set_option maxRecDepth 100000 in
theorem w_1180 : (Jvm.Cond.selects "Taskgraphic$Stage" ({ cls := "Taskgraphic$Stage", name := "copy", desc := "(II)V" } : Jvm.MethodName) ({ cls := "Taskgraphic$Stage", name := "copy", desc := "(II)V" } : Jvm.MethodName)) ∈ zW := zW_in (zTp5 (i := 220) rfl) rfl
set_option maxRecDepth 100000 in
theorem w_1181 : (Jvm.Cond.code ({ cls := "Taskgraphic$Stage", name := "copy", desc := "(II)V" } : Jvm.MethodName) prog_12_method_4_code (3 : Nat) (Option.none : Option Jvm.ClassFile.FieldType)) ∈ zW := zW_in (zTp5 (i := 221) rfl) rfl
set_option maxRecDepth 100000 in
theorem w_1182 : (Jvm.Cond.methodLinkNest "Taskgraphic$Stage" (43 : Nat) ({ cls := "Taskgraphic", name := "with", desc := "(II)I" } : Jvm.MethodName) "Taskgraphic") ∈ zN := List.mem_filter.mpr ⟨zTp5 (i := 222) rfl, rfl⟩
set_option maxRecDepth 100000 in
theorem w_1183 : (Jvm.Cond.methodLink "Taskgraphic$Crew" (48 : Nat) ({ cls := "Taskgraphic$Stage", name := "earliestEnd", desc := "(I)I" } : Jvm.MethodName)) ∈ zW := zW_in (zTp5 (i := 223) rfl) rfl
set_option maxRecDepth 100000 in
theorem w_1184 : (Jvm.Cond.instanceMethod ({ cls := "Taskgraphic$Stage", name := "earliestEnd", desc := "(I)I" } : Jvm.MethodName)) ∈ zW := zW_in (zTp5 (i := 224) rfl) rfl
set_option maxRecDepth 100000 in
theorem w_1185 : (Jvm.Cond.selects "Taskgraphic$Stage" ({ cls := "Taskgraphic$Stage", name := "earliestEnd", desc := "(I)I" } : Jvm.MethodName) ({ cls := "Taskgraphic$Stage", name := "earliestEnd", desc := "(I)I" } : Jvm.MethodName)) ∈ zW := zW_in (zTp5 (i := 225) rfl) rfl
set_option maxRecDepth 100000 in
theorem w_1186 : (Jvm.Cond.code ({ cls := "Taskgraphic$Stage", name := "earliestEnd", desc := "(I)I" } : Jvm.MethodName) prog_12_method_6_code (5 : Nat) (Option.some Jvm.ClassFile.FieldType.int)) ∈ zW := zW_in (zTp5 (i := 226) rfl) rfl
set_option maxRecDepth 100000 in
theorem w_1187 : (Jvm.Cond.methodLink "Taskgraphic" (298 : Nat) ({ cls := "Taskgraphic", name := "renewCache", desc := "()V" } : Jvm.MethodName)) ∈ zW := zW_in (zTp5 (i := 227) rfl) rfl
set_option maxRecDepth 100000 in
theorem w_1189 : (Jvm.Cond.instanceMethod ({ cls := "Taskgraphic", name := "renewCache", desc := "()V" } : Jvm.MethodName)) ∈ zW := zW_in (zTp5 (i := 229) rfl) rfl
set_option maxRecDepth 100000 in
theorem w_1190 : (Jvm.Cond.code ({ cls := "Taskgraphic", name := "renewCache", desc := "()V" } : Jvm.MethodName) prog_1_method_47_code (2 : Nat) (Option.none : Option Jvm.ClassFile.FieldType)) ∈ zW := zW_in (zTp5 (i := 230) rfl) rfl
set_option maxRecDepth 100000 in
theorem w_1191 : (Jvm.Cond.methodLink "Taskgraphic" (360 : Nat) ({ cls := "Taskgraphic$Cache", name := "makeLatest", desc := "(I)V" } : Jvm.MethodName)) ∈ zW := zW_in (zTp5 (i := 231) rfl) rfl
set_option maxRecDepth 100000 in
theorem w_1192 : (Jvm.Cond.instanceMethod ({ cls := "Taskgraphic$Cache", name := "makeLatest", desc := "(I)V" } : Jvm.MethodName)) ∈ zW := zW_in (zTp5 (i := 232) rfl) rfl
set_option maxRecDepth 100000 in
theorem w_1193 : (Jvm.Cond.selects "Taskgraphic$Cache" ({ cls := "Taskgraphic$Cache", name := "makeLatest", desc := "(I)V" } : Jvm.MethodName) ({ cls := "Taskgraphic$Cache", name := "makeLatest", desc := "(I)V" } : Jvm.MethodName)) ∈ zW := zW_in (zTp5 (i := 233) rfl) rfl
set_option maxRecDepth 100000 in
theorem w_1194 : (Jvm.Cond.code ({ cls := "Taskgraphic$Cache", name := "makeLatest", desc := "(I)V" } : Jvm.MethodName) prog_2_method_4_code (4 : Nat) (Option.none : Option Jvm.ClassFile.FieldType)) ∈ zW := zW_in (zTp5 (i := 234) rfl) rfl
set_option maxRecDepth 100000 in
theorem w_1195 : (Jvm.Cond.methodLink "Taskgraphic$Cache" (44 : Nat) ({ cls := "Taskgraphic$Cache", name := "append", desc := "(II)V" } : Jvm.MethodName)) ∈ zW := zW_in (zTp5 (i := 235) rfl) rfl
set_option maxRecDepth 100000 in
theorem w_1197 : (Jvm.Cond.instanceMethod ({ cls := "Taskgraphic$Cache", name := "append", desc := "(II)V" } : Jvm.MethodName)) ∈ zW := zW_in (zTp5 (i := 237) rfl) rfl
set_option maxRecDepth 100000 in
theorem w_1198 : (Jvm.Cond.code ({ cls := "Taskgraphic$Cache", name := "append", desc := "(II)V" } : Jvm.MethodName) prog_2_method_7_code (3 : Nat) (Option.none : Option Jvm.ClassFile.FieldType)) ∈ zW := zW_in (zTp5 (i := 238) rfl) rfl
set_option maxRecDepth 100000 in
theorem w_1199 : (Jvm.Cond.methodLink "Taskgraphic" (366 : Nat) ({ cls := "Taskgraphic$Cache", name := "enter", desc := "(II)V" } : Jvm.MethodName)) ∈ zW := zW_in (zTp5 (i := 239) rfl) rfl
set_option maxRecDepth 100000 in
theorem w_1200 : (Jvm.Cond.instanceMethod ({ cls := "Taskgraphic$Cache", name := "enter", desc := "(II)V" } : Jvm.MethodName)) ∈ zW := zW_in (zTp6 (i := 0) rfl) rfl
set_option maxRecDepth 100000 in
theorem w_1201 : (Jvm.Cond.selects "Taskgraphic$Cache" ({ cls := "Taskgraphic$Cache", name := "enter", desc := "(II)V" } : Jvm.MethodName) ({ cls := "Taskgraphic$Cache", name := "enter", desc := "(II)V" } : Jvm.MethodName)) ∈ zW := zW_in (zTp6 (i := 1) rfl) rfl
set_option maxRecDepth 100000 in
theorem w_1202 : (Jvm.Cond.code ({ cls := "Taskgraphic$Cache", name := "enter", desc := "(II)V" } : Jvm.MethodName) prog_2_method_5_code (3 : Nat) (Option.none : Option Jvm.ClassFile.FieldType)) ∈ zW := zW_in (zTp6 (i := 2) rfl) rfl
set_option maxRecDepth 100000 in
theorem w_1203 : (Jvm.Cond.methodLink "Taskgraphic$Cache" (51 : Nat) ({ cls := "Taskgraphic$Cache", name := "makeRoomFor", desc := "(I)I" } : Jvm.MethodName)) ∈ zW := zW_in (zTp6 (i := 3) rfl) rfl
set_option maxRecDepth 100000 in
theorem w_1207 : (Jvm.Cond.methodLink "TaskgraphicLaw" (95 : Nat) ({ cls := "Taskgraphic", name := "nodeOf", desc := "(I)I" } : Jvm.MethodName)) ∈ zW := zW_in (zTp6 (i := 7) rfl) rfl
set_option maxRecDepth 100000 in
theorem w_1208 : (Jvm.Cond.instanceMethod ({ cls := "Taskgraphic", name := "nodeOf", desc := "(I)I" } : Jvm.MethodName)) ∈ zW := zW_in (zTp6 (i := 8) rfl) rfl
set_option maxRecDepth 100000 in
theorem w_1209 : (Jvm.Cond.selects "Taskgraphic" ({ cls := "Taskgraphic", name := "nodeOf", desc := "(I)I" } : Jvm.MethodName) ({ cls := "Taskgraphic", name := "nodeOf", desc := "(I)I" } : Jvm.MethodName)) ∈ zW := zW_in (zTp6 (i := 9) rfl) rfl
set_option maxRecDepth 100000 in
theorem w_1210 : (Jvm.Cond.code ({ cls := "Taskgraphic", name := "nodeOf", desc := "(I)I" } : Jvm.MethodName) prog_1_method_31_code (2 : Nat) (Option.some Jvm.ClassFile.FieldType.int)) ∈ zW := zW_in (zTp6 (i := 10) rfl) rfl
set_option maxRecDepth 100000 in
theorem w_1211 : (Jvm.Cond.methodLink "Taskgraphic" (307 : Nat) ({ cls := "Taskgraphic", name := "checkAttempt", desc := "(I)V" } : Jvm.MethodName)) ∈ zW := zW_in (zTp6 (i := 11) rfl) rfl
set_option maxRecDepth 100000 in
theorem w_1213 : (Jvm.Cond.instanceMethod ({ cls := "Taskgraphic", name := "checkAttempt", desc := "(I)V" } : Jvm.MethodName)) ∈ zW := zW_in (zTp6 (i := 13) rfl) rfl
set_option maxRecDepth 100000 in
theorem w_1214 : (Jvm.Cond.code ({ cls := "Taskgraphic", name := "checkAttempt", desc := "(I)V" } : Jvm.MethodName) prog_1_method_40_code (2 : Nat) (Option.none : Option Jvm.ClassFile.FieldType)) ∈ zW := zW_in (zTp6 (i := 14) rfl) rfl
set_option maxRecDepth 100000 in
theorem w_1219 : (Jvm.Cond.methodLink "TaskgraphicLaw" (98 : Nat) ({ cls := "Taskgraphic", name := "partitionOf", desc := "(I)I" } : Jvm.MethodName)) ∈ zW := zW_in (zTp6 (i := 19) rfl) rfl
set_option maxRecDepth 100000 in
theorem w_1220 : (Jvm.Cond.instanceMethod ({ cls := "Taskgraphic", name := "partitionOf", desc := "(I)I" } : Jvm.MethodName)) ∈ zW := zW_in (zTp6 (i := 20) rfl) rfl
set_option maxRecDepth 100000 in
theorem w_1221 : (Jvm.Cond.selects "Taskgraphic" ({ cls := "Taskgraphic", name := "partitionOf", desc := "(I)I" } : Jvm.MethodName) ({ cls := "Taskgraphic", name := "partitionOf", desc := "(I)I" } : Jvm.MethodName)) ∈ zW := zW_in (zTp6 (i := 21) rfl) rfl
set_option maxRecDepth 100000 in
theorem w_1222 : (Jvm.Cond.code ({ cls := "Taskgraphic", name := "partitionOf", desc := "(I)I" } : Jvm.MethodName) prog_1_method_32_code (2 : Nat) (Option.some Jvm.ClassFile.FieldType.int)) ∈ zW := zW_in (zTp6 (i := 22) rfl) rfl
set_option maxRecDepth 100000 in
theorem w_1226 : (Jvm.Cond.methodLink "TaskgraphicLaw" (101 : Nat) ({ cls := "Taskgraphic", name := "workerOf", desc := "(I)I" } : Jvm.MethodName)) ∈ zW := zW_in (zTp6 (i := 26) rfl) rfl
set_option maxRecDepth 100000 in
theorem w_1227 : (Jvm.Cond.instanceMethod ({ cls := "Taskgraphic", name := "workerOf", desc := "(I)I" } : Jvm.MethodName)) ∈ zW := zW_in (zTp6 (i := 27) rfl) rfl
set_option maxRecDepth 100000 in
theorem w_1228 : (Jvm.Cond.selects "Taskgraphic" ({ cls := "Taskgraphic", name := "workerOf", desc := "(I)I" } : Jvm.MethodName) ({ cls := "Taskgraphic", name := "workerOf", desc := "(I)I" } : Jvm.MethodName)) ∈ zW := zW_in (zTp6 (i := 28) rfl) rfl
set_option maxRecDepth 100000 in
theorem w_1229 : (Jvm.Cond.code ({ cls := "Taskgraphic", name := "workerOf", desc := "(I)I" } : Jvm.MethodName) prog_1_method_33_code (2 : Nat) (Option.some Jvm.ClassFile.FieldType.int)) ∈ zW := zW_in (zTp6 (i := 29) rfl) rfl
set_option maxRecDepth 100000 in
theorem w_1233 : (Jvm.Cond.methodLink "TaskgraphicLaw" (104 : Nat) ({ cls := "Taskgraphic", name := "startOf", desc := "(I)I" } : Jvm.MethodName)) ∈ zW := zW_in (zTp6 (i := 33) rfl) rfl
set_option maxRecDepth 100000 in
theorem w_1234 : (Jvm.Cond.instanceMethod ({ cls := "Taskgraphic", name := "startOf", desc := "(I)I" } : Jvm.MethodName)) ∈ zW := zW_in (zTp6 (i := 34) rfl) rfl
set_option maxRecDepth 100000 in
theorem w_1235 : (Jvm.Cond.selects "Taskgraphic" ({ cls := "Taskgraphic", name := "startOf", desc := "(I)I" } : Jvm.MethodName) ({ cls := "Taskgraphic", name := "startOf", desc := "(I)I" } : Jvm.MethodName)) ∈ zW := zW_in (zTp6 (i := 35) rfl) rfl
set_option maxRecDepth 100000 in
theorem w_1236 : (Jvm.Cond.code ({ cls := "Taskgraphic", name := "startOf", desc := "(I)I" } : Jvm.MethodName) prog_1_method_34_code (2 : Nat) (Option.some Jvm.ClassFile.FieldType.int)) ∈ zW := zW_in (zTp6 (i := 36) rfl) rfl
set_option maxRecDepth 100000 in
theorem w_1240 : (Jvm.Cond.methodLink "TaskgraphicLaw" (107 : Nat) ({ cls := "Taskgraphic", name := "endOf", desc := "(I)I" } : Jvm.MethodName)) ∈ zW := zW_in (zTp6 (i := 40) rfl) rfl
set_option maxRecDepth 100000 in
theorem w_1241 : (Jvm.Cond.instanceMethod ({ cls := "Taskgraphic", name := "endOf", desc := "(I)I" } : Jvm.MethodName)) ∈ zW := zW_in (zTp6 (i := 41) rfl) rfl
set_option maxRecDepth 100000 in
theorem w_1242 : (Jvm.Cond.selects "Taskgraphic" ({ cls := "Taskgraphic", name := "endOf", desc := "(I)I" } : Jvm.MethodName) ({ cls := "Taskgraphic", name := "endOf", desc := "(I)I" } : Jvm.MethodName)) ∈ zW := zW_in (zTp6 (i := 42) rfl) rfl
set_option maxRecDepth 100000 in
theorem w_1243 : (Jvm.Cond.code ({ cls := "Taskgraphic", name := "endOf", desc := "(I)I" } : Jvm.MethodName) prog_1_method_35_code (2 : Nat) (Option.some Jvm.ClassFile.FieldType.int)) ∈ zW := zW_in (zTp6 (i := 43) rfl) rfl
set_option maxRecDepth 100000 in
theorem w_1247 : (Jvm.Cond.methodLink "TaskgraphicLaw" (110 : Nat) ({ cls := "Taskgraphic", name := "isCopy", desc := "(I)Z" } : Jvm.MethodName)) ∈ zW := zW_in (zTp6 (i := 47) rfl) rfl
set_option maxRecDepth 100000 in
theorem w_1248 : (Jvm.Cond.instanceMethod ({ cls := "Taskgraphic", name := "isCopy", desc := "(I)Z" } : Jvm.MethodName)) ∈ zW := zW_in (zTp6 (i := 48) rfl) rfl
set_option maxRecDepth 100000 in
theorem w_1249 : (Jvm.Cond.selects "Taskgraphic" ({ cls := "Taskgraphic", name := "isCopy", desc := "(I)Z" } : Jvm.MethodName) ({ cls := "Taskgraphic", name := "isCopy", desc := "(I)Z" } : Jvm.MethodName)) ∈ zW := zW_in (zTp6 (i := 49) rfl) rfl
set_option maxRecDepth 100000 in
theorem w_1250 : (Jvm.Cond.code ({ cls := "Taskgraphic", name := "isCopy", desc := "(I)Z" } : Jvm.MethodName) prog_1_method_36_code (2 : Nat) (Option.some Jvm.ClassFile.FieldType.boolean)) ∈ zW := zW_in (zTp6 (i := 50) rfl) rfl
set_option maxRecDepth 100000 in
theorem w_1251 : (Jvm.Cond.classLink "TaskgraphicLaw" (114 : Nat) "TaskgraphicModel") ∈ zW := zW_in (zTp6 (i := 51) rfl) rfl
set_option maxRecDepth 100000 in
theorem w_1252 : (Jvm.Cond.instantiable "TaskgraphicModel" (45 : Nat)) ∈ zW := zW_in (zTp6 (i := 52) rfl) rfl
set_option maxRecDepth 100000 in
theorem w_1253 : (Jvm.Cond.methodLink "TaskgraphicLaw" (116 : Nat) ({ cls := "TaskgraphicModel", name := "<init>", desc := "()V" } : Jvm.MethodName)) ∈ zW := zW_in (zTp6 (i := 53) rfl) rfl
set_option maxRecDepth 100000 in
theorem w_1254 : (Jvm.Cond.instanceMethod ({ cls := "TaskgraphicModel", name := "<init>", desc := "()V" } : Jvm.MethodName)) ∈ zW := zW_in (zTp6 (i := 54) rfl) rfl
set_option maxRecDepth 100000 in
theorem w_1255 : (Jvm.Cond.code ({ cls := "TaskgraphicModel", name := "<init>", desc := "()V" } : Jvm.MethodName) prog_14_method_1_code (2 : Nat) (Option.none : Option Jvm.ClassFile.FieldType)) ∈ zW := zW_in (zTp6 (i := 55) rfl) rfl
set_option maxRecDepth 100000 in
theorem w_1256 : (Jvm.Cond.methodLink "TaskgraphicModel" (1 : Nat) ({ cls := "java/lang/Object", name := "<init>", desc := "()V" } : Jvm.MethodName)) ∈ zW := zW_in (zTp6 (i := 56) rfl) rfl
set_option maxRecDepth 100000 in
theorem w_1257 : (Jvm.Cond.fieldLink "TaskgraphicModel" (123 : Nat) "TaskgraphicModel" "nodes" "I") ∈ zW := zW_in (zTp6 (i := 57) rfl) rfl
set_option maxRecDepth 100000 in
theorem w_1258 : (Jvm.Cond.fieldLink "TaskgraphicModel" (7 : Nat) "TaskgraphicModel" "kind" "[I") ∈ zW := zW_in (zTp6 (i := 58) rfl) rfl
set_option maxRecDepth 100000 in
theorem w_1259 : (Jvm.Cond.fieldLink "TaskgraphicModel" (13 : Nat) "TaskgraphicModel" "one" "[I") ∈ zW := zW_in (zTp6 (i := 59) rfl) rfl
set_option maxRecDepth 100000 in
theorem w_1260 : (Jvm.Cond.fieldLink "TaskgraphicModel" (16 : Nat) "TaskgraphicModel" "two" "[I") ∈ zW := zW_in (zTp6 (i := 60) rfl) rfl
set_option maxRecDepth 100000 in
theorem w_1261 : (Jvm.Cond.fieldLink "TaskgraphicModel" (19 : Nat) "TaskgraphicModel" "how" "[I") ∈ zW := zW_in (zTp6 (i := 61) rfl) rfl
set_option maxRecDepth 100000 in
theorem w_1262 : (Jvm.Cond.fieldLink "TaskgraphicModel" (22 : Nat) "TaskgraphicModel" "low" "[I") ∈ zW := zW_in (zTp6 (i := 62) rfl) rfl
set_option maxRecDepth 100000 in
theorem w_1263 : (Jvm.Cond.fieldLink "TaskgraphicModel" (25 : Nat) "TaskgraphicModel" "high" "[I") ∈ zW := zW_in (zTp6 (i := 63) rfl) rfl
set_option maxRecDepth 100000 in
theorem w_1264 : (Jvm.Cond.fieldLink "TaskgraphicModel" (28 : Nat) "TaskgraphicModel" "told" "[I") ∈ zW := zW_in (zTp6 (i := 64) rfl) rfl
set_option maxRecDepth 100000 in
theorem w_1265 : (Jvm.Cond.fieldLink "TaskgraphicModel" (31 : Nat) "TaskgraphicModel" "bound" "[I") ∈ zW := zW_in (zTp6 (i := 65) rfl) rfl
set_option maxRecDepth 100000 in
theorem w_1266 : (Jvm.Cond.fieldLink "TaskgraphicModel" (34 : Nat) "TaskgraphicModel" "width" "[I") ∈ zW := zW_in (zTp6 (i := 66) rfl) rfl
set_option maxRecDepth 100000 in
theorem w_1267 : (Jvm.Cond.fieldLink "TaskgraphicModel" (37 : Nat) "TaskgraphicModel" "puts" "[I") ∈ zW := zW_in (zTp6 (i := 67) rfl) rfl
set_option maxRecDepth 100000 in
theorem w_1268 : (Jvm.Cond.fieldLink "TaskgraphicModel" (40 : Nat) "TaskgraphicModel" "sourceKey" "[I") ∈ zW := zW_in (zTp6 (i := 68) rfl) rfl
set_option maxRecDepth 100000 in
theorem w_1269 : (Jvm.Cond.fieldLink "TaskgraphicModel" (43 : Nat) "TaskgraphicModel" "sourceValue" "[I") ∈ zW := zW_in (zTp6 (i := 69) rfl) rfl
set_option maxRecDepth 100000 in
theorem w_1270 : (Jvm.Cond.fieldLink "TaskgraphicModel" (126 : Nat) "TaskgraphicModel" "isKnown" "Z") ∈ zW := zW_in (zTp6 (i := 70) rfl) rfl
set_option maxRecDepth 100000 in
theorem w_1271 : (Jvm.Cond.fieldLink "TaskgraphicModel" (46 : Nat) "TaskgraphicModel" "parts" "[I") ∈ zW := zW_in (zTp6 (i := 71) rfl) rfl
set_option maxRecDepth 100000 in
theorem w_1272 : (Jvm.Cond.fieldLink "TaskgraphicModel" (49 : Nat) "TaskgraphicModel" "begin" "[I") ∈ zW := zW_in (zTp6 (i := 72) rfl) rfl
set_option maxRecDepth 100000 in
theorem w_1273 : (Jvm.Cond.fieldLink "TaskgraphicModel" (52 : Nat) "TaskgraphicModel" "key" "[I") ∈ zW := zW_in (zTp6 (i := 73) rfl) rfl
set_option maxRecDepth 100000 in
theorem w_1274 : (Jvm.Cond.fieldLink "TaskgraphicModel" (55 : Nat) "TaskgraphicModel" "value" "[I") ∈ zW := zW_in (zTp6 (i := 74) rfl) rfl
set_option maxRecDepth 100000 in
theorem w_1275 : (Jvm.Cond.fieldLink "TaskgraphicModel" (58 : Nat) "TaskgraphicModel" "limit" "I") ∈ zW := zW_in (zTp6 (i := 75) rfl) rfl
set_option maxRecDepth 100000 in
theorem w_1276 : (Jvm.Cond.fieldLink "TaskgraphicModel" (62 : Nat) "TaskgraphicModel" "memory" "I") ∈ zW := zW_in (zTp6 (i := 76) rfl) rfl
set_option maxRecDepth 100000 in
theorem w_1277 : (Jvm.Cond.fieldLink "TaskgraphicModel" (65 : Nat) "TaskgraphicModel" "workers" "I") ∈ zW := zW_in (zTp6 (i := 77) rfl) rfl
set_option maxRecDepth 100000 in
theorem w_1278 : (Jvm.Cond.fieldLink "TaskgraphicModel" (68 : Nat) "TaskgraphicModel" "slowness" "[I") ∈ zW := zW_in (zTp6 (i := 78) rfl) rfl
set_option maxRecDepth 100000 in
theorem w_1279 : (Jvm.Cond.fieldLink "TaskgraphicModel" (220 : Nat) "TaskgraphicModel" "room" "I") ∈ zW := zW_in (zTp6 (i := 79) rfl) rfl
set_option maxRecDepth 100000 in
theorem w_1280 : (Jvm.Cond.fieldLink "TaskgraphicModel" (71 : Nat) "TaskgraphicModel" "isMarked" "[Z") ∈ zW := zW_in (zTp6 (i := 80) rfl) rfl
set_option maxRecDepth 100000 in
theorem w_1281 : (Jvm.Cond.fieldLink "TaskgraphicModel" (75 : Nat) "TaskgraphicModel" "isCached" "[Z") ∈ zW := zW_in (zTp6 (i := 81) rfl) rfl
set_option maxRecDepth 100000 in
theorem w_1282 : (Jvm.Cond.fieldLink "TaskgraphicModel" (78 : Nat) "TaskgraphicModel" "used" "[I") ∈ zW := zW_in (zTp6 (i := 82) rfl) rfl
set_option maxRecDepth 100000 in
theorem w_1283 : (Jvm.Cond.fieldLink "TaskgraphicModel" (255 : Nat) "TaskgraphicModel" "uses" "I") ∈ zW := zW_in (zTp6 (i := 83) rfl) rfl
set_option maxRecDepth 100000 in
theorem w_1284 : (Jvm.Cond.fieldLink "TaskgraphicModel" (81 : Nat) "TaskgraphicModel" "isNeeded" "[Z") ∈ zW := zW_in (zTp6 (i := 84) rfl) rfl
set_option maxRecDepth 100000 in
theorem w_1285 : (Jvm.Cond.fieldLink "TaskgraphicModel" (84 : Nat) "TaskgraphicModel" "isMet" "[Z") ∈ zW := zW_in (zTp6 (i := 85) rfl) rfl
set_option maxRecDepth 100000 in
theorem w_1286 : (Jvm.Cond.fieldLink "TaskgraphicModel" (87 : Nat) "TaskgraphicModel" "isUsed" "[Z") ∈ zW := zW_in (zTp6 (i := 86) rfl) rfl
set_option maxRecDepth 100000 in
theorem w_1287 : (Jvm.Cond.fieldLink "TaskgraphicModel" (258 : Nat) "TaskgraphicModel" "ticks" "I") ∈ zW := zW_in (zTp6 (i := 87) rfl) rfl
set_option maxRecDepth 100000 in
theorem w_1288 : (Jvm.Cond.fieldLink "TaskgraphicModel" (248 : Nat) "TaskgraphicModel" "spilled" "I") ∈ zW := zW_in (zTp6 (i := 88) rfl) rfl
set_option maxRecDepth 100000 in
theorem w_1289 : (Jvm.Cond.fieldLink "TaskgraphicModel" (261 : Nat) "TaskgraphicModel" "had" "I") ∈ zW := zW_in (zTp6 (i := 89) rfl) rfl
set_option maxRecDepth 100000 in
theorem w_1290 : (Jvm.Cond.fieldLink "TaskgraphicModel" (238 : Nat) "TaskgraphicModel" "attempts" "I") ∈ zW := zW_in (zTp6 (i := 90) rfl) rfl
set_option maxRecDepth 100000 in
theorem w_1291 : (Jvm.Cond.fieldLink "TaskgraphicModel" (90 : Nat) "TaskgraphicModel" "node" "[I") ∈ zW := zW_in (zTp6 (i := 91) rfl) rfl
set_option maxRecDepth 100000 in
theorem w_1292 : (Jvm.Cond.fieldLink "TaskgraphicModel" (93 : Nat) "TaskgraphicModel" "partition" "[I") ∈ zW := zW_in (zTp6 (i := 92) rfl) rfl
set_option maxRecDepth 100000 in
theorem w_1293 : (Jvm.Cond.fieldLink "TaskgraphicModel" (96 : Nat) "TaskgraphicModel" "worker" "[I") ∈ zW := zW_in (zTp6 (i := 93) rfl) rfl
set_option maxRecDepth 100000 in
theorem w_1294 : (Jvm.Cond.fieldLink "TaskgraphicModel" (99 : Nat) "TaskgraphicModel" "start" "[I") ∈ zW := zW_in (zTp6 (i := 94) rfl) rfl
set_option maxRecDepth 100000 in
theorem w_1295 : (Jvm.Cond.fieldLink "TaskgraphicModel" (102 : Nat) "TaskgraphicModel" "end" "[I") ∈ zW := zW_in (zTp6 (i := 95) rfl) rfl
set_option maxRecDepth 100000 in
theorem w_1296 : (Jvm.Cond.fieldLink "TaskgraphicModel" (105 : Nat) "TaskgraphicModel" "isCopy" "[Z") ∈ zW := zW_in (zTp6 (i := 96) rfl) rfl
set_option maxRecDepth 100000 in
theorem w_1297 : (Jvm.Cond.fieldLink "TaskgraphicModel" (108 : Nat) "TaskgraphicModel" "work" "[I") ∈ zW := zW_in (zTp6 (i := 97) rfl) rfl
set_option maxRecDepth 100000 in
theorem w_1298 : (Jvm.Cond.fieldLink "TaskgraphicModel" (111 : Nat) "TaskgraphicModel" "ends" "[I") ∈ zW := zW_in (zTp6 (i := 98) rfl) rfl
set_option maxRecDepth 100000 in
theorem w_1299 : (Jvm.Cond.fieldLink "TaskgraphicModel" (114 : Nat) "TaskgraphicModel" "hasCopy" "[Z") ∈ zW := zW_in (zTp6 (i := 99) rfl) rfl
set_option maxRecDepth 100000 in
theorem w_1300 : (Jvm.Cond.fieldLink "TaskgraphicModel" (117 : Nat) "TaskgraphicModel" "idle" "[I") ∈ zW := zW_in (zTp6 (i := 100) rfl) rfl
set_option maxRecDepth 100000 in
theorem w_1301 : (Jvm.Cond.fieldLink "TaskgraphicModel" (120 : Nat) "TaskgraphicModel" "thrown" "I") ∈ zW := zW_in (zTp6 (i := 101) rfl) rfl
set_option maxRecDepth 100000 in
theorem w_1394 : (Jvm.Cond.methodLink "TaskgraphicLaw" (123 : Nat) ({ cls := "TaskgraphicModel", name := "thrown", desc := "()I" } : Jvm.MethodName)) ∈ zW := zW_in (zTp6 (i := 194) rfl) rfl
set_option maxRecDepth 100000 in
theorem w_1395 : (Jvm.Cond.instanceMethod ({ cls := "TaskgraphicModel", name := "thrown", desc := "()I" } : Jvm.MethodName)) ∈ zW := zW_in (zTp6 (i := 195) rfl) rfl
set_option maxRecDepth 100000 in
theorem w_1396 : (Jvm.Cond.selects "TaskgraphicModel" ({ cls := "TaskgraphicModel", name := "thrown", desc := "()I" } : Jvm.MethodName) ({ cls := "TaskgraphicModel", name := "thrown", desc := "()I" } : Jvm.MethodName)) ∈ zW := zW_in (zTp6 (i := 196) rfl) rfl
set_option maxRecDepth 100000 in
theorem w_1397 : (Jvm.Cond.code ({ cls := "TaskgraphicModel", name := "thrown", desc := "()I" } : Jvm.MethodName) prog_14_method_2_code (1 : Nat) (Option.some Jvm.ClassFile.FieldType.int)) ∈ zW := zW_in (zTp6 (i := 197) rfl) rfl
set_option maxRecDepth 100000 in
theorem w_1398 : (Jvm.Cond.methodLink "TaskgraphicLaw" (122 : Nat) ({ cls := "TaskgraphicModel", name := "source", desc := "(I)I" } : Jvm.MethodName)) ∈ zW := zW_in (zTp6 (i := 198) rfl) rfl
set_option maxRecDepth 100000 in
theorem w_1399 : (Jvm.Cond.instanceMethod ({ cls := "TaskgraphicModel", name := "source", desc := "(I)I" } : Jvm.MethodName)) ∈ zW := zW_in (zTp6 (i := 199) rfl) rfl
set_option maxRecDepth 100000 in
theorem w_1400 : (Jvm.Cond.selects "TaskgraphicModel" ({ cls := "TaskgraphicModel", name := "source", desc := "(I)I" } : Jvm.MethodName) ({ cls := "TaskgraphicModel", name := "source", desc := "(I)I" } : Jvm.MethodName)) ∈ zW := zW_in (zTp6 (i := 200) rfl) rfl
set_option maxRecDepth 100000 in
theorem w_1401 : (Jvm.Cond.code ({ cls := "TaskgraphicModel", name := "source", desc := "(I)I" } : Jvm.MethodName) prog_14_method_7_code (2 : Nat) (Option.some Jvm.ClassFile.FieldType.int)) ∈ zW := zW_in (zTp6 (i := 201) rfl) rfl
set_option maxRecDepth 100000 in
theorem w_1402 : (Jvm.Cond.methodLink "TaskgraphicModel" (130 : Nat) ({ cls := "TaskgraphicModel", name := "fails", desc := "(I)Z" } : Jvm.MethodName)) ∈ zW := zW_in (zTp6 (i := 202) rfl) rfl
set_option maxRecDepth 100000 in
theorem w_1404 : (Jvm.Cond.instanceMethod ({ cls := "TaskgraphicModel", name := "fails", desc := "(I)Z" } : Jvm.MethodName)) ∈ zW := zW_in (zTp6 (i := 204) rfl) rfl
set_option maxRecDepth 100000 in
theorem w_1405 : (Jvm.Cond.code ({ cls := "TaskgraphicModel", name := "fails", desc := "(I)Z" } : Jvm.MethodName) prog_14_method_3_code (2 : Nat) (Option.some Jvm.ClassFile.FieldType.boolean)) ∈ zW := zW_in (zTp6 (i := 205) rfl) rfl
set_option maxRecDepth 100000 in
theorem w_1406 : (Jvm.Cond.methodLink "TaskgraphicModel" (134 : Nat) ({ cls := "TaskgraphicModel", name := "makes", desc := "(IIIII)I" } : Jvm.MethodName)) ∈ zW := zW_in (zTp6 (i := 206) rfl) rfl
set_option maxRecDepth 100000 in
theorem w_1408 : (Jvm.Cond.instanceMethod ({ cls := "TaskgraphicModel", name := "makes", desc := "(IIIII)I" } : Jvm.MethodName)) ∈ zW := zW_in (zTp6 (i := 208) rfl) rfl
set_option maxRecDepth 100000 in
theorem w_1409 : (Jvm.Cond.code ({ cls := "TaskgraphicModel", name := "makes", desc := "(IIIII)I" } : Jvm.MethodName) prog_14_method_6_code (6 : Nat) (Option.some Jvm.ClassFile.FieldType.int)) ∈ zW := zW_in (zTp6 (i := 209) rfl) rfl
set_option maxRecDepth 100000 in
theorem w_1410 : (Jvm.Cond.methodLink "TaskgraphicLaw" (130 : Nat) ({ cls := "TaskgraphicModel", name := "put", desc := "(III)I" } : Jvm.MethodName)) ∈ zW := zW_in (zTp6 (i := 210) rfl) rfl
set_option maxRecDepth 100000 in
theorem w_1411 : (Jvm.Cond.instanceMethod ({ cls := "TaskgraphicModel", name := "put", desc := "(III)I" } : Jvm.MethodName)) ∈ zW := zW_in (zTp6 (i := 211) rfl) rfl
set_option maxRecDepth 100000 in
theorem w_1412 : (Jvm.Cond.selects "TaskgraphicModel" ({ cls := "TaskgraphicModel", name := "put", desc := "(III)I" } : Jvm.MethodName) ({ cls := "TaskgraphicModel", name := "put", desc := "(III)I" } : Jvm.MethodName)) ∈ zW := zW_in (zTp6 (i := 212) rfl) rfl
set_option maxRecDepth 100000 in
theorem w_1413 : (Jvm.Cond.code ({ cls := "TaskgraphicModel", name := "put", desc := "(III)I" } : Jvm.MethodName) prog_14_method_9_code (4 : Nat) (Option.some Jvm.ClassFile.FieldType.int)) ∈ zW := zW_in (zTp6 (i := 213) rfl) rfl
set_option maxRecDepth 100000 in
theorem w_1414 : (Jvm.Cond.methodLink "TaskgraphicModel" (138 : Nat) ({ cls := "TaskgraphicModel", name := "is", desc := "(I)Z" } : Jvm.MethodName)) ∈ zW := zW_in (zTp6 (i := 214) rfl) rfl
set_option maxRecDepth 100000 in
theorem w_1416 : (Jvm.Cond.instanceMethod ({ cls := "TaskgraphicModel", name := "is", desc := "(I)Z" } : Jvm.MethodName)) ∈ zW := zW_in (zTp6 (i := 216) rfl) rfl
set_option maxRecDepth 100000 in
theorem w_1417 : (Jvm.Cond.code ({ cls := "TaskgraphicModel", name := "is", desc := "(I)Z" } : Jvm.MethodName) prog_14_method_5_code (2 : Nat) (Option.some Jvm.ClassFile.FieldType.boolean)) ∈ zW := zW_in (zTp6 (i := 217) rfl) rfl
set_option maxRecDepth 100000 in
theorem w_1418 : (Jvm.Cond.methodLink "TaskgraphicModel" (141 : Nat) ({ cls := "TaskgraphicModel", name := "empties", desc := "()V" } : Jvm.MethodName)) ∈ zW := zW_in (zTp6 (i := 218) rfl) rfl
set_option maxRecDepth 100000 in
theorem w_1420 : (Jvm.Cond.instanceMethod ({ cls := "TaskgraphicModel", name := "empties", desc := "()V" } : Jvm.MethodName)) ∈ zW := zW_in (zTp6 (i := 220) rfl) rfl
set_option maxRecDepth 100000 in
theorem w_1421 : (Jvm.Cond.code ({ cls := "TaskgraphicModel", name := "empties", desc := "()V" } : Jvm.MethodName) prog_14_method_8_code (2 : Nat) (Option.none : Option Jvm.ClassFile.FieldType)) ∈ zW := zW_in (zTp6 (i := 221) rfl) rfl
set_option maxRecDepth 100000 in
theorem w_1422 : (Jvm.Cond.methodLink "TaskgraphicLaw" (133 : Nat) ({ cls := "TaskgraphicModel", name := "map", desc := "(III)I" } : Jvm.MethodName)) ∈ zW := zW_in (zTp6 (i := 222) rfl) rfl
set_option maxRecDepth 100000 in
theorem w_1423 : (Jvm.Cond.instanceMethod ({ cls := "TaskgraphicModel", name := "map", desc := "(III)I" } : Jvm.MethodName)) ∈ zW := zW_in (zTp6 (i := 223) rfl) rfl
set_option maxRecDepth 100000 in
theorem w_1424 : (Jvm.Cond.selects "TaskgraphicModel" ({ cls := "TaskgraphicModel", name := "map", desc := "(III)I" } : Jvm.MethodName) ({ cls := "TaskgraphicModel", name := "map", desc := "(III)I" } : Jvm.MethodName)) ∈ zW := zW_in (zTp6 (i := 224) rfl) rfl
set_option maxRecDepth 100000 in
theorem w_1425 : (Jvm.Cond.code ({ cls := "TaskgraphicModel", name := "map", desc := "(III)I" } : Jvm.MethodName) prog_14_method_10_code (5 : Nat) (Option.some Jvm.ClassFile.FieldType.int)) ∈ zW := zW_in (zTp6 (i := 225) rfl) rfl
set_option maxRecDepth 100000 in
theorem w_1426 : (Jvm.Cond.methodLink "TaskgraphicLaw" (136 : Nat) ({ cls := "TaskgraphicModel", name := "filter", desc := "(III)I" } : Jvm.MethodName)) ∈ zW := zW_in (zTp6 (i := 226) rfl) rfl
set_option maxRecDepth 100000 in
theorem w_1427 : (Jvm.Cond.instanceMethod ({ cls := "TaskgraphicModel", name := "filter", desc := "(III)I" } : Jvm.MethodName)) ∈ zW := zW_in (zTp6 (i := 227) rfl) rfl
set_option maxRecDepth 100000 in
theorem w_1428 : (Jvm.Cond.selects "TaskgraphicModel" ({ cls := "TaskgraphicModel", name := "filter", desc := "(III)I" } : Jvm.MethodName) ({ cls := "TaskgraphicModel", name := "filter", desc := "(III)I" } : Jvm.MethodName)) ∈ zW := zW_in (zTp6 (i := 228) rfl) rfl
set_option maxRecDepth 100000 in
theorem w_1429 : (Jvm.Cond.code ({ cls := "TaskgraphicModel", name := "filter", desc := "(III)I" } : Jvm.MethodName) prog_14_method_11_code (4 : Nat) (Option.some Jvm.ClassFile.FieldType.int)) ∈ zW := zW_in (zTp6 (i := 229) rfl) rfl
set_option maxRecDepth 100000 in
theorem w_1430 : (Jvm.Cond.methodLink "TaskgraphicLaw" (140 : Nat) ({ cls := "TaskgraphicModel", name := "union", desc := "(II)I" } : Jvm.MethodName)) ∈ zW := zW_in (zTp6 (i := 230) rfl) rfl
set_option maxRecDepth 100000 in
theorem w_1431 : (Jvm.Cond.instanceMethod ({ cls := "TaskgraphicModel", name := "union", desc := "(II)I" } : Jvm.MethodName)) ∈ zW := zW_in (zTp6 (i := 231) rfl) rfl
set_option maxRecDepth 100000 in
theorem w_1432 : (Jvm.Cond.selects "TaskgraphicModel" ({ cls := "TaskgraphicModel", name := "union", desc := "(II)I" } : Jvm.MethodName) ({ cls := "TaskgraphicModel", name := "union", desc := "(II)I" } : Jvm.MethodName)) ∈ zW := zW_in (zTp6 (i := 232) rfl) rfl
set_option maxRecDepth 100000 in
theorem w_1433 : (Jvm.Cond.code ({ cls := "TaskgraphicModel", name := "union", desc := "(II)I" } : Jvm.MethodName) prog_14_method_12_code (6 : Nat) (Option.some Jvm.ClassFile.FieldType.int)) ∈ zW := zW_in (zTp6 (i := 233) rfl) rfl
set_option maxRecDepth 100000 in
theorem w_1434 : (Jvm.Cond.methodLink "TaskgraphicLaw" (143 : Nat) ({ cls := "TaskgraphicModel", name := "group", desc := "(III)I" } : Jvm.MethodName)) ∈ zW := zW_in (zTp6 (i := 234) rfl) rfl
set_option maxRecDepth 100000 in
theorem w_1435 : (Jvm.Cond.instanceMethod ({ cls := "TaskgraphicModel", name := "group", desc := "(III)I" } : Jvm.MethodName)) ∈ zW := zW_in (zTp6 (i := 235) rfl) rfl
set_option maxRecDepth 100000 in
theorem w_1436 : (Jvm.Cond.selects "TaskgraphicModel" ({ cls := "TaskgraphicModel", name := "group", desc := "(III)I" } : Jvm.MethodName) ({ cls := "TaskgraphicModel", name := "group", desc := "(III)I" } : Jvm.MethodName)) ∈ zW := zW_in (zTp6 (i := 236) rfl) rfl
set_option maxRecDepth 100000 in
theorem w_1437 : (Jvm.Cond.code ({ cls := "TaskgraphicModel", name := "group", desc := "(III)I" } : Jvm.MethodName) prog_14_method_13_code (5 : Nat) (Option.some Jvm.ClassFile.FieldType.int)) ∈ zW := zW_in (zTp6 (i := 237) rfl) rfl
set_option maxRecDepth 100000 in
theorem w_1438 : (Jvm.Cond.methodLink "TaskgraphicLaw" (146 : Nat) ({ cls := "TaskgraphicModel", name := "join", desc := "(III)I" } : Jvm.MethodName)) ∈ zW := zW_in (zTp6 (i := 238) rfl) rfl
set_option maxRecDepth 100000 in
theorem w_1439 : (Jvm.Cond.instanceMethod ({ cls := "TaskgraphicModel", name := "join", desc := "(III)I" } : Jvm.MethodName)) ∈ zW := zW_in (zTp6 (i := 239) rfl) rfl
set_option maxRecDepth 100000 in
theorem w_1440 : (Jvm.Cond.selects "TaskgraphicModel" ({ cls := "TaskgraphicModel", name := "join", desc := "(III)I" } : Jvm.MethodName) ({ cls := "TaskgraphicModel", name := "join", desc := "(III)I" } : Jvm.MethodName)) ∈ zW := zW_in (zTp7 (i := 0) rfl) rfl
set_option maxRecDepth 100000 in
theorem w_1441 : (Jvm.Cond.code ({ cls := "TaskgraphicModel", name := "join", desc := "(III)I" } : Jvm.MethodName) prog_14_method_14_code (6 : Nat) (Option.some Jvm.ClassFile.FieldType.int)) ∈ zW := zW_in (zTp7 (i := 1) rfl) rfl
set_option maxRecDepth 100000 in
theorem w_1442 : (Jvm.Cond.methodLink "TaskgraphicLaw" (150 : Nat) ({ cls := "TaskgraphicModel", name := "nodes", desc := "()I" } : Jvm.MethodName)) ∈ zW := zW_in (zTp7 (i := 2) rfl) rfl
set_option maxRecDepth 100000 in
theorem w_1443 : (Jvm.Cond.instanceMethod ({ cls := "TaskgraphicModel", name := "nodes", desc := "()I" } : Jvm.MethodName)) ∈ zW := zW_in (zTp7 (i := 3) rfl) rfl
set_option maxRecDepth 100000 in
theorem w_1444 : (Jvm.Cond.selects "TaskgraphicModel" ({ cls := "TaskgraphicModel", name := "nodes", desc := "()I" } : Jvm.MethodName) ({ cls := "TaskgraphicModel", name := "nodes", desc := "()I" } : Jvm.MethodName)) ∈ zW := zW_in (zTp7 (i := 4) rfl) rfl
set_option maxRecDepth 100000 in
theorem w_1445 : (Jvm.Cond.code ({ cls := "TaskgraphicModel", name := "nodes", desc := "()I" } : Jvm.MethodName) prog_14_method_15_code (1 : Nat) (Option.some Jvm.ClassFile.FieldType.int)) ∈ zW := zW_in (zTp7 (i := 5) rfl) rfl
set_option maxRecDepth 100000 in
theorem w_1446 : (Jvm.Cond.methodLink "TaskgraphicModel" (144 : Nat) ({ cls := "TaskgraphicModel", name := "tells", desc := "(I)I" } : Jvm.MethodName)) ∈ zW := zW_in (zTp7 (i := 6) rfl) rfl
set_option maxRecDepth 100000 in
theorem w_1448 : (Jvm.Cond.instanceMethod ({ cls := "TaskgraphicModel", name := "tells", desc := "(I)I" } : Jvm.MethodName)) ∈ zW := zW_in (zTp7 (i := 8) rfl) rfl
set_option maxRecDepth 100000 in
theorem w_1449 : (Jvm.Cond.code ({ cls := "TaskgraphicModel", name := "tells", desc := "(I)I" } : Jvm.MethodName) prog_14_method_4_code (2 : Nat) (Option.some Jvm.ClassFile.FieldType.int)) ∈ zW := zW_in (zTp7 (i := 9) rfl) rfl
set_option maxRecDepth 100000 in
theorem w_1450 : (Jvm.Cond.methodLink "TaskgraphicLaw" (153 : Nat) ({ cls := "TaskgraphicModel", name := "partitions", desc := "(I)I" } : Jvm.MethodName)) ∈ zW := zW_in (zTp7 (i := 10) rfl) rfl
set_option maxRecDepth 100000 in
theorem w_1451 : (Jvm.Cond.instanceMethod ({ cls := "TaskgraphicModel", name := "partitions", desc := "(I)I" } : Jvm.MethodName)) ∈ zW := zW_in (zTp7 (i := 11) rfl) rfl
set_option maxRecDepth 100000 in
theorem w_1452 : (Jvm.Cond.selects "TaskgraphicModel" ({ cls := "TaskgraphicModel", name := "partitions", desc := "(I)I" } : Jvm.MethodName) ({ cls := "TaskgraphicModel", name := "partitions", desc := "(I)I" } : Jvm.MethodName)) ∈ zW := zW_in (zTp7 (i := 12) rfl) rfl
set_option maxRecDepth 100000 in
theorem w_1453 : (Jvm.Cond.code ({ cls := "TaskgraphicModel", name := "partitions", desc := "(I)I" } : Jvm.MethodName) prog_14_method_31_code (2 : Nat) (Option.some Jvm.ClassFile.FieldType.int)) ∈ zW := zW_in (zTp7 (i := 13) rfl) rfl
set_option maxRecDepth 100000 in
theorem w_1454 : (Jvm.Cond.methodLink "TaskgraphicModel" (199 : Nat) ({ cls := "TaskgraphicModel", name := "isNoNode", desc := "(I)Z" } : Jvm.MethodName)) ∈ zW := zW_in (zTp7 (i := 14) rfl) rfl
set_option maxRecDepth 100000 in
theorem w_1456 : (Jvm.Cond.instanceMethod ({ cls := "TaskgraphicModel", name := "isNoNode", desc := "(I)Z" } : Jvm.MethodName)) ∈ zW := zW_in (zTp7 (i := 16) rfl) rfl
set_option maxRecDepth 100000 in
theorem w_1457 : (Jvm.Cond.code ({ cls := "TaskgraphicModel", name := "isNoNode", desc := "(I)Z" } : Jvm.MethodName) prog_14_method_30_code (2 : Nat) (Option.some Jvm.ClassFile.FieldType.boolean)) ∈ zW := zW_in (zTp7 (i := 17) rfl) rfl
set_option maxRecDepth 100000 in
theorem w_1458 : (Jvm.Cond.methodLink "TaskgraphicModel" (196 : Nat) ({ cls := "TaskgraphicModel", name := "knows", desc := "()V" } : Jvm.MethodName)) ∈ zW := zW_in (zTp7 (i := 18) rfl) rfl
set_option maxRecDepth 100000 in
theorem w_1460 : (Jvm.Cond.instanceMethod ({ cls := "TaskgraphicModel", name := "knows", desc := "()V" } : Jvm.MethodName)) ∈ zW := zW_in (zTp7 (i := 20) rfl) rfl
set_option maxRecDepth 100000 in
theorem w_1461 : (Jvm.Cond.code ({ cls := "TaskgraphicModel", name := "knows", desc := "()V" } : Jvm.MethodName) prog_14_method_29_code (2 : Nat) (Option.none : Option Jvm.ClassFile.FieldType)) ∈ zW := zW_in (zTp7 (i := 21) rfl) rfl
set_option maxRecDepth 100000 in
theorem w_1462 : (Jvm.Cond.methodLink "TaskgraphicModel" (177 : Nat) ({ cls := "TaskgraphicModel", name := "holdsSource", desc := "(I)V" } : Jvm.MethodName)) ∈ zW := zW_in (zTp7 (i := 22) rfl) rfl
set_option maxRecDepth 100000 in
theorem w_1464 : (Jvm.Cond.instanceMethod ({ cls := "TaskgraphicModel", name := "holdsSource", desc := "(I)V" } : Jvm.MethodName)) ∈ zW := zW_in (zTp7 (i := 24) rfl) rfl
set_option maxRecDepth 100000 in
theorem w_1465 : (Jvm.Cond.code ({ cls := "TaskgraphicModel", name := "holdsSource", desc := "(I)V" } : Jvm.MethodName) prog_14_method_21_code (5 : Nat) (Option.none : Option Jvm.ClassFile.FieldType)) ∈ zW := zW_in (zTp7 (i := 25) rfl) rfl
set_option maxRecDepth 100000 in
theorem w_1466 : (Jvm.Cond.methodLink "TaskgraphicModel" (155 : Nat) ({ cls := "TaskgraphicModel", name := "adds", desc := "(IIII)V" } : Jvm.MethodName)) ∈ zW := zW_in (zTp7 (i := 26) rfl) rfl
set_option maxRecDepth 100000 in
theorem w_1468 : (Jvm.Cond.instanceMethod ({ cls := "TaskgraphicModel", name := "adds", desc := "(IIII)V" } : Jvm.MethodName)) ∈ zW := zW_in (zTp7 (i := 28) rfl) rfl
set_option maxRecDepth 100000 in
theorem w_1469 : (Jvm.Cond.code ({ cls := "TaskgraphicModel", name := "adds", desc := "(IIII)V" } : Jvm.MethodName) prog_14_method_20_code (5 : Nat) (Option.none : Option Jvm.ClassFile.FieldType)) ∈ zW := zW_in (zTp7 (i := 29) rfl) rfl
set_option maxRecDepth 100000 in
theorem w_1470 : (Jvm.Cond.methodLink "TaskgraphicModel" (181 : Nat) ({ cls := "TaskgraphicModel", name := "holdsMapped", desc := "(I)V" } : Jvm.MethodName)) ∈ zW := zW_in (zTp7 (i := 30) rfl) rfl
set_option maxRecDepth 100000 in
theorem w_1472 : (Jvm.Cond.instanceMethod ({ cls := "TaskgraphicModel", name := "holdsMapped", desc := "(I)V" } : Jvm.MethodName)) ∈ zW := zW_in (zTp7 (i := 32) rfl) rfl
set_option maxRecDepth 100000 in
theorem w_1473 : (Jvm.Cond.code ({ cls := "TaskgraphicModel", name := "holdsMapped", desc := "(I)V" } : Jvm.MethodName) prog_14_method_22_code (10 : Nat) (Option.none : Option Jvm.ClassFile.FieldType)) ∈ zW := zW_in (zTp7 (i := 33) rfl) rfl
set_option maxRecDepth 100000 in
theorem w_1474 : (Jvm.Cond.methodLink "TaskgraphicModel" (148 : Nat) ({ cls := "TaskgraphicModel", name := "at", desc := "(II)I" } : Jvm.MethodName)) ∈ zW := zW_in (zTp7 (i := 34) rfl) rfl
set_option maxRecDepth 100000 in
theorem w_1476 : (Jvm.Cond.instanceMethod ({ cls := "TaskgraphicModel", name := "at", desc := "(II)I" } : Jvm.MethodName)) ∈ zW := zW_in (zTp7 (i := 36) rfl) rfl
set_option maxRecDepth 100000 in
theorem w_1477 : (Jvm.Cond.code ({ cls := "TaskgraphicModel", name := "at", desc := "(II)I" } : Jvm.MethodName) prog_14_method_17_code (3 : Nat) (Option.some Jvm.ClassFile.FieldType.int)) ∈ zW := zW_in (zTp7 (i := 37) rfl) rfl
set_option maxRecDepth 100000 in
theorem w_1478 : (Jvm.Cond.methodLink "TaskgraphicModel" (159 : Nat) ({ cls := "TaskgraphicModel", name := "share", desc := "(II)I" } : Jvm.MethodName)) ∈ zW := zW_in (zTp7 (i := 38) rfl) rfl
set_option maxRecDepth 100000 in
theorem w_1479 : (Jvm.Cond.static ({ cls := "TaskgraphicModel", name := "share", desc := "(II)I" } : Jvm.MethodName)) ∈ zW := zW_in (zTp7 (i := 39) rfl) rfl
set_option maxRecDepth 100000 in
theorem w_1480 : (Jvm.Cond.code ({ cls := "TaskgraphicModel", name := "share", desc := "(II)I" } : Jvm.MethodName) prog_14_method_16_code (3 : Nat) (Option.some Jvm.ClassFile.FieldType.int)) ∈ zW := zW_in (zTp7 (i := 40) rfl) rfl
set_option maxRecDepth 100000 in
theorem w_1481 : (Jvm.Cond.methodLink "TaskgraphicModel" (184 : Nat) ({ cls := "TaskgraphicModel", name := "holdsUnion", desc := "(I)V" } : Jvm.MethodName)) ∈ zW := zW_in (zTp7 (i := 41) rfl) rfl
set_option maxRecDepth 100000 in
theorem w_1483 : (Jvm.Cond.instanceMethod ({ cls := "TaskgraphicModel", name := "holdsUnion", desc := "(I)V" } : Jvm.MethodName)) ∈ zW := zW_in (zTp7 (i := 43) rfl) rfl
set_option maxRecDepth 100000 in
theorem w_1484 : (Jvm.Cond.code ({ cls := "TaskgraphicModel", name := "holdsUnion", desc := "(I)V" } : Jvm.MethodName) prog_14_method_23_code (6 : Nat) (Option.none : Option Jvm.ClassFile.FieldType)) ∈ zW := zW_in (zTp7 (i := 44) rfl) rfl
set_option maxRecDepth 100000 in
theorem w_1485 : (Jvm.Cond.methodLink "TaskgraphicModel" (152 : Nat) ({ cls := "TaskgraphicModel", name := "all", desc := "(I)I" } : Jvm.MethodName)) ∈ zW := zW_in (zTp7 (i := 45) rfl) rfl
set_option maxRecDepth 100000 in
theorem w_1487 : (Jvm.Cond.instanceMethod ({ cls := "TaskgraphicModel", name := "all", desc := "(I)I" } : Jvm.MethodName)) ∈ zW := zW_in (zTp7 (i := 47) rfl) rfl
set_option maxRecDepth 100000 in
theorem w_1488 : (Jvm.Cond.code ({ cls := "TaskgraphicModel", name := "all", desc := "(I)I" } : Jvm.MethodName) prog_14_method_18_code (2 : Nat) (Option.some Jvm.ClassFile.FieldType.int)) ∈ zW := zW_in (zTp7 (i := 48) rfl) rfl
set_option maxRecDepth 100000 in
theorem w_1489 : (Jvm.Cond.methodLink "TaskgraphicModel" (187 : Nat) ({ cls := "TaskgraphicModel", name := "isBroadly", desc := "(I)Z" } : Jvm.MethodName)) ∈ zW := zW_in (zTp7 (i := 49) rfl) rfl
set_option maxRecDepth 100000 in
theorem w_1491 : (Jvm.Cond.instanceMethod ({ cls := "TaskgraphicModel", name := "isBroadly", desc := "(I)Z" } : Jvm.MethodName)) ∈ zW := zW_in (zTp7 (i := 51) rfl) rfl
set_option maxRecDepth 100000 in
theorem w_1492 : (Jvm.Cond.code ({ cls := "TaskgraphicModel", name := "isBroadly", desc := "(I)Z" } : Jvm.MethodName) prog_14_method_19_code (2 : Nat) (Option.some Jvm.ClassFile.FieldType.boolean)) ∈ zW := zW_in (zTp7 (i := 52) rfl) rfl
set_option maxRecDepth 100000 in
theorem w_1493 : (Jvm.Cond.methodLink "TaskgraphicModel" (190 : Nat) ({ cls := "TaskgraphicModel", name := "holdsBroad", desc := "(I)V" } : Jvm.MethodName)) ∈ zW := zW_in (zTp7 (i := 53) rfl) rfl
set_option maxRecDepth 100000 in
theorem w_1495 : (Jvm.Cond.instanceMethod ({ cls := "TaskgraphicModel", name := "holdsBroad", desc := "(I)V" } : Jvm.MethodName)) ∈ zW := zW_in (zTp7 (i := 55) rfl) rfl
set_option maxRecDepth 100000 in
theorem w_1496 : (Jvm.Cond.code ({ cls := "TaskgraphicModel", name := "holdsBroad", desc := "(I)V" } : Jvm.MethodName) prog_14_method_28_code (6 : Nat) (Option.none : Option Jvm.ClassFile.FieldType)) ∈ zW := zW_in (zTp7 (i := 56) rfl) rfl
set_option maxRecDepth 100000 in
theorem w_1497 : (Jvm.Cond.methodLink "TaskgraphicModel" (173 : Nat) ({ cls := "TaskgraphicModel", name := "joins", desc := "(III)I" } : Jvm.MethodName)) ∈ zW := zW_in (zTp7 (i := 57) rfl) rfl
set_option maxRecDepth 100000 in
theorem w_1499 : (Jvm.Cond.instanceMethod ({ cls := "TaskgraphicModel", name := "joins", desc := "(III)I" } : Jvm.MethodName)) ∈ zW := zW_in (zTp7 (i := 59) rfl) rfl
set_option maxRecDepth 100000 in
theorem w_1500 : (Jvm.Cond.code ({ cls := "TaskgraphicModel", name := "joins", desc := "(III)I" } : Jvm.MethodName) prog_14_method_26_code (7 : Nat) (Option.some Jvm.ClassFile.FieldType.int)) ∈ zW := zW_in (zTp7 (i := 60) rfl) rfl
set_option maxRecDepth 100000 in
theorem w_1501 : (Jvm.Cond.methodLink "TaskgraphicModel" (193 : Nat) ({ cls := "TaskgraphicModel", name := "holdsShared", desc := "(I)V" } : Jvm.MethodName)) ∈ zW := zW_in (zTp7 (i := 61) rfl) rfl
set_option maxRecDepth 100000 in
theorem w_1503 : (Jvm.Cond.instanceMethod ({ cls := "TaskgraphicModel", name := "holdsShared", desc := "(I)V" } : Jvm.MethodName)) ∈ zW := zW_in (zTp7 (i := 63) rfl) rfl
set_option maxRecDepth 100000 in
theorem w_1504 : (Jvm.Cond.code ({ cls := "TaskgraphicModel", name := "holdsShared", desc := "(I)V" } : Jvm.MethodName) prog_14_method_27_code (8 : Nat) (Option.none : Option Jvm.ClassFile.FieldType)) ∈ zW := zW_in (zTp7 (i := 64) rfl) rfl
set_option maxRecDepth 100000 in
theorem w_1505 : (Jvm.Cond.constantLong "TaskgraphicModel" (164 : Nat) (-1099511627776 : Int64)) ∈ zW := zW_in (zTp7 (i := 65) rfl) rfl
set_option maxRecDepth 100000 in
theorem w_1506 : (Jvm.Cond.methodLink "TaskgraphicModel" (166 : Nat) ({ cls := "TaskgraphicModel", name := "next", desc := "(IJII)J" } : Jvm.MethodName)) ∈ zW := zW_in (zTp7 (i := 66) rfl) rfl
set_option maxRecDepth 100000 in
theorem w_1508 : (Jvm.Cond.instanceMethod ({ cls := "TaskgraphicModel", name := "next", desc := "(IJII)J" } : Jvm.MethodName)) ∈ zW := zW_in (zTp7 (i := 68) rfl) rfl
set_option maxRecDepth 100000 in
theorem w_1509 : (Jvm.Cond.code ({ cls := "TaskgraphicModel", name := "next", desc := "(IJII)J" } : Jvm.MethodName) prog_14_method_24_code (9 : Nat) (Option.some Jvm.ClassFile.FieldType.long)) ∈ zW := zW_in (zTp7 (i := 69) rfl) rfl
set_option maxRecDepth 100000 in
theorem w_1510 : (Jvm.Cond.constantLong "TaskgraphicModel" (162 : Nat) (1099511627776 : Int64)) ∈ zW := zW_in (zTp7 (i := 70) rfl) rfl
set_option maxRecDepth 100000 in
theorem w_1511 : (Jvm.Cond.methodLink "TaskgraphicModel" (170 : Nat) ({ cls := "TaskgraphicModel", name := "grouped", desc := "(II)I" } : Jvm.MethodName)) ∈ zW := zW_in (zTp7 (i := 71) rfl) rfl
set_option maxRecDepth 100000 in
theorem w_1513 : (Jvm.Cond.instanceMethod ({ cls := "TaskgraphicModel", name := "grouped", desc := "(II)I" } : Jvm.MethodName)) ∈ zW := zW_in (zTp7 (i := 73) rfl) rfl
set_option maxRecDepth 100000 in
theorem w_1514 : (Jvm.Cond.code ({ cls := "TaskgraphicModel", name := "grouped", desc := "(II)I" } : Jvm.MethodName) prog_14_method_25_code (9 : Nat) (Option.some Jvm.ClassFile.FieldType.int)) ∈ zW := zW_in (zTp7 (i := 74) rfl) rfl
set_option maxRecDepth 100000 in
theorem w_1515 : (Jvm.Cond.methodLink "TaskgraphicLaw" (156 : Nat) ({ cls := "TaskgraphicModel", name := "rowsIn", desc := "(II)I" } : Jvm.MethodName)) ∈ zW := zW_in (zTp7 (i := 75) rfl) rfl
set_option maxRecDepth 100000 in
theorem w_1516 : (Jvm.Cond.instanceMethod ({ cls := "TaskgraphicModel", name := "rowsIn", desc := "(II)I" } : Jvm.MethodName)) ∈ zW := zW_in (zTp7 (i := 76) rfl) rfl
set_option maxRecDepth 100000 in
theorem w_1517 : (Jvm.Cond.selects "TaskgraphicModel" ({ cls := "TaskgraphicModel", name := "rowsIn", desc := "(II)I" } : Jvm.MethodName) ({ cls := "TaskgraphicModel", name := "rowsIn", desc := "(II)I" } : Jvm.MethodName)) ∈ zW := zW_in (zTp7 (i := 77) rfl) rfl
set_option maxRecDepth 100000 in
theorem w_1518 : (Jvm.Cond.code ({ cls := "TaskgraphicModel", name := "rowsIn", desc := "(II)I" } : Jvm.MethodName) prog_14_method_34_code (3 : Nat) (Option.some Jvm.ClassFile.FieldType.int)) ∈ zW := zW_in (zTp7 (i := 78) rfl) rfl
set_option maxRecDepth 100000 in
theorem w_1519 : (Jvm.Cond.methodLink "TaskgraphicModel" (202 : Nat) ({ cls := "TaskgraphicModel", name := "isPart", desc := "(II)Z" } : Jvm.MethodName)) ∈ zW := zW_in (zTp7 (i := 79) rfl) rfl
set_option maxRecDepth 100000 in
theorem w_1521 : (Jvm.Cond.instanceMethod ({ cls := "TaskgraphicModel", name := "isPart", desc := "(II)Z" } : Jvm.MethodName)) ∈ zW := zW_in (zTp7 (i := 81) rfl) rfl
set_option maxRecDepth 100000 in
theorem w_1522 : (Jvm.Cond.code ({ cls := "TaskgraphicModel", name := "isPart", desc := "(II)Z" } : Jvm.MethodName) prog_14_method_33_code (3 : Nat) (Option.some Jvm.ClassFile.FieldType.boolean)) ∈ zW := zW_in (zTp7 (i := 82) rfl) rfl
set_option maxRecDepth 100000 in
theorem w_1523 : (Jvm.Cond.methodLink "TaskgraphicModel" (206 : Nat) ({ cls := "TaskgraphicModel", name := "rowsOf", desc := "(II)I" } : Jvm.MethodName)) ∈ zW := zW_in (zTp7 (i := 83) rfl) rfl
set_option maxRecDepth 100000 in
theorem w_1525 : (Jvm.Cond.instanceMethod ({ cls := "TaskgraphicModel", name := "rowsOf", desc := "(II)I" } : Jvm.MethodName)) ∈ zW := zW_in (zTp7 (i := 85) rfl) rfl
set_option maxRecDepth 100000 in
theorem w_1526 : (Jvm.Cond.code ({ cls := "TaskgraphicModel", name := "rowsOf", desc := "(II)I" } : Jvm.MethodName) prog_14_method_32_code (3 : Nat) (Option.some Jvm.ClassFile.FieldType.int)) ∈ zW := zW_in (zTp7 (i := 86) rfl) rfl
set_option maxRecDepth 100000 in
theorem w_1527 : (Jvm.Cond.methodLink "TaskgraphicLaw" (159 : Nat) ({ cls := "TaskgraphicModel", name := "rows", desc := "(I)I" } : Jvm.MethodName)) ∈ zW := zW_in (zTp7 (i := 87) rfl) rfl
set_option maxRecDepth 100000 in
theorem w_1528 : (Jvm.Cond.instanceMethod ({ cls := "TaskgraphicModel", name := "rows", desc := "(I)I" } : Jvm.MethodName)) ∈ zW := zW_in (zTp7 (i := 88) rfl) rfl
set_option maxRecDepth 100000 in
theorem w_1529 : (Jvm.Cond.selects "TaskgraphicModel" ({ cls := "TaskgraphicModel", name := "rows", desc := "(I)I" } : Jvm.MethodName) ({ cls := "TaskgraphicModel", name := "rows", desc := "(I)I" } : Jvm.MethodName)) ∈ zW := zW_in (zTp7 (i := 89) rfl) rfl
set_option maxRecDepth 100000 in
theorem w_1530 : (Jvm.Cond.code ({ cls := "TaskgraphicModel", name := "rows", desc := "(I)I" } : Jvm.MethodName) prog_14_method_35_code (2 : Nat) (Option.some Jvm.ClassFile.FieldType.int)) ∈ zW := zW_in (zTp7 (i := 90) rfl) rfl
set_option maxRecDepth 100000 in
theorem w_1531 : (Jvm.Cond.methodLink "TaskgraphicLaw" (162 : Nat) ({ cls := "TaskgraphicModel", name := "keyAt", desc := "(III)I" } : Jvm.MethodName)) ∈ zW := zW_in (zTp7 (i := 91) rfl) rfl
set_option maxRecDepth 100000 in
theorem w_1532 : (Jvm.Cond.instanceMethod ({ cls := "TaskgraphicModel", name := "keyAt", desc := "(III)I" } : Jvm.MethodName)) ∈ zW := zW_in (zTp7 (i := 92) rfl) rfl
set_option maxRecDepth 100000 in
theorem w_1533 : (Jvm.Cond.selects "TaskgraphicModel" ({ cls := "TaskgraphicModel", name := "keyAt", desc := "(III)I" } : Jvm.MethodName) ({ cls := "TaskgraphicModel", name := "keyAt", desc := "(III)I" } : Jvm.MethodName)) ∈ zW := zW_in (zTp7 (i := 93) rfl) rfl
set_option maxRecDepth 100000 in
theorem w_1534 : (Jvm.Cond.code ({ cls := "TaskgraphicModel", name := "keyAt", desc := "(III)I" } : Jvm.MethodName) prog_14_method_37_code (4 : Nat) (Option.some Jvm.ClassFile.FieldType.int)) ∈ zW := zW_in (zTp7 (i := 94) rfl) rfl
set_option maxRecDepth 100000 in
theorem w_1535 : (Jvm.Cond.methodLink "TaskgraphicModel" (209 : Nat) ({ cls := "TaskgraphicModel", name := "ofRow", desc := "([IIII)I" } : Jvm.MethodName)) ∈ zW := zW_in (zTp7 (i := 95) rfl) rfl
set_option maxRecDepth 100000 in
theorem w_1537 : (Jvm.Cond.instanceMethod ({ cls := "TaskgraphicModel", name := "ofRow", desc := "([IIII)I" } : Jvm.MethodName)) ∈ zW := zW_in (zTp7 (i := 97) rfl) rfl
set_option maxRecDepth 100000 in
theorem w_1538 : (Jvm.Cond.code ({ cls := "TaskgraphicModel", name := "ofRow", desc := "([IIII)I" } : Jvm.MethodName) prog_14_method_36_code (6 : Nat) (Option.some Jvm.ClassFile.FieldType.int)) ∈ zW := zW_in (zTp7 (i := 98) rfl) rfl
set_option maxRecDepth 100000 in
theorem w_1539 : (Jvm.Cond.methodLink "TaskgraphicLaw" (165 : Nat) ({ cls := "TaskgraphicModel", name := "valueAt", desc := "(III)I" } : Jvm.MethodName)) ∈ zW := zW_in (zTp7 (i := 99) rfl) rfl
set_option maxRecDepth 100000 in
theorem w_1540 : (Jvm.Cond.instanceMethod ({ cls := "TaskgraphicModel", name := "valueAt", desc := "(III)I" } : Jvm.MethodName)) ∈ zW := zW_in (zTp7 (i := 100) rfl) rfl
set_option maxRecDepth 100000 in
theorem w_1541 : (Jvm.Cond.selects "TaskgraphicModel" ({ cls := "TaskgraphicModel", name := "valueAt", desc := "(III)I" } : Jvm.MethodName) ({ cls := "TaskgraphicModel", name := "valueAt", desc := "(III)I" } : Jvm.MethodName)) ∈ zW := zW_in (zTp7 (i := 101) rfl) rfl
set_option maxRecDepth 100000 in
theorem w_1542 : (Jvm.Cond.code ({ cls := "TaskgraphicModel", name := "valueAt", desc := "(III)I" } : Jvm.MethodName) prog_14_method_38_code (4 : Nat) (Option.some Jvm.ClassFile.FieldType.int)) ∈ zW := zW_in (zTp7 (i := 102) rfl) rfl
set_option maxRecDepth 100000 in
theorem w_1543 : (Jvm.Cond.methodLink "TaskgraphicLaw" (168 : Nat) ({ cls := "TaskgraphicModel", name := "isBroad", desc := "(I)Z" } : Jvm.MethodName)) ∈ zW := zW_in (zTp7 (i := 103) rfl) rfl
set_option maxRecDepth 100000 in
theorem w_1544 : (Jvm.Cond.instanceMethod ({ cls := "TaskgraphicModel", name := "isBroad", desc := "(I)Z" } : Jvm.MethodName)) ∈ zW := zW_in (zTp7 (i := 104) rfl) rfl
set_option maxRecDepth 100000 in
theorem w_1545 : (Jvm.Cond.selects "TaskgraphicModel" ({ cls := "TaskgraphicModel", name := "isBroad", desc := "(I)Z" } : Jvm.MethodName) ({ cls := "TaskgraphicModel", name := "isBroad", desc := "(I)Z" } : Jvm.MethodName)) ∈ zW := zW_in (zTp7 (i := 105) rfl) rfl
set_option maxRecDepth 100000 in
theorem w_1546 : (Jvm.Cond.code ({ cls := "TaskgraphicModel", name := "isBroad", desc := "(I)Z" } : Jvm.MethodName) prog_14_method_39_code (2 : Nat) (Option.some Jvm.ClassFile.FieldType.boolean)) ∈ zW := zW_in (zTp7 (i := 106) rfl) rfl
set_option maxRecDepth 100000 in
theorem w_1547 : (Jvm.Cond.methodLink "TaskgraphicLaw" (171 : Nat) ({ cls := "TaskgraphicModel", name := "digest", desc := "(I)I" } : Jvm.MethodName)) ∈ zW := zW_in (zTp7 (i := 107) rfl) rfl
set_option maxRecDepth 100000 in
theorem w_1548 : (Jvm.Cond.instanceMethod ({ cls := "TaskgraphicModel", name := "digest", desc := "(I)I" } : Jvm.MethodName)) ∈ zW := zW_in (zTp7 (i := 108) rfl) rfl
set_option maxRecDepth 100000 in
theorem w_1549 : (Jvm.Cond.selects "TaskgraphicModel" ({ cls := "TaskgraphicModel", name := "digest", desc := "(I)I" } : Jvm.MethodName) ({ cls := "TaskgraphicModel", name := "digest", desc := "(I)I" } : Jvm.MethodName)) ∈ zW := zW_in (zTp7 (i := 109) rfl) rfl
set_option maxRecDepth 100000 in
theorem w_1550 : (Jvm.Cond.code ({ cls := "TaskgraphicModel", name := "digest", desc := "(I)I" } : Jvm.MethodName) prog_14_method_41_code (2 : Nat) (Option.some Jvm.ClassFile.FieldType.int)) ∈ zW := zW_in (zTp7 (i := 110) rfl) rfl
set_option maxRecDepth 100000 in
theorem w_1551 : (Jvm.Cond.methodLink "TaskgraphicModel" (213 : Nat) ({ cls := "TaskgraphicModel", name := "digests", desc := "(I)I" } : Jvm.MethodName)) ∈ zW := zW_in (zTp7 (i := 111) rfl) rfl
set_option maxRecDepth 100000 in
theorem w_1553 : (Jvm.Cond.instanceMethod ({ cls := "TaskgraphicModel", name := "digests", desc := "(I)I" } : Jvm.MethodName)) ∈ zW := zW_in (zTp7 (i := 113) rfl) rfl
set_option maxRecDepth 100000 in
theorem w_1554 : (Jvm.Cond.code ({ cls := "TaskgraphicModel", name := "digests", desc := "(I)I" } : Jvm.MethodName) prog_14_method_40_code (5 : Nat) (Option.some Jvm.ClassFile.FieldType.int)) ∈ zW := zW_in (zTp7 (i := 114) rfl) rfl
set_option maxRecDepth 100000 in
theorem w_1555 : (Jvm.Cond.methodLink "TaskgraphicLaw" (174 : Nat) ({ cls := "TaskgraphicModel", name := "digestInPlace", desc := "(I)I" } : Jvm.MethodName)) ∈ zW := zW_in (zTp7 (i := 115) rfl) rfl
set_option maxRecDepth 100000 in
theorem w_1556 : (Jvm.Cond.instanceMethod ({ cls := "TaskgraphicModel", name := "digestInPlace", desc := "(I)I" } : Jvm.MethodName)) ∈ zW := zW_in (zTp7 (i := 116) rfl) rfl
set_option maxRecDepth 100000 in
theorem w_1557 : (Jvm.Cond.selects "TaskgraphicModel" ({ cls := "TaskgraphicModel", name := "digestInPlace", desc := "(I)I" } : Jvm.MethodName) ({ cls := "TaskgraphicModel", name := "digestInPlace", desc := "(I)I" } : Jvm.MethodName)) ∈ zW := zW_in (zTp7 (i := 117) rfl) rfl
set_option maxRecDepth 100000 in
theorem w_1558 : (Jvm.Cond.code ({ cls := "TaskgraphicModel", name := "digestInPlace", desc := "(I)I" } : Jvm.MethodName) prog_14_method_42_code (2 : Nat) (Option.some Jvm.ClassFile.FieldType.int)) ∈ zW := zW_in (zTp7 (i := 118) rfl) rfl
set_option maxRecDepth 100000 in
theorem w_1559 : (Jvm.Cond.methodLink "TaskgraphicLaw" (177 : Nat) ({ cls := "TaskgraphicModel", name := "setWorkers", desc := "(I)I" } : Jvm.MethodName)) ∈ zW := zW_in (zTp7 (i := 119) rfl) rfl
set_option maxRecDepth 100000 in
theorem w_1560 : (Jvm.Cond.instanceMethod ({ cls := "TaskgraphicModel", name := "setWorkers", desc := "(I)I" } : Jvm.MethodName)) ∈ zW := zW_in (zTp7 (i := 120) rfl) rfl
set_option maxRecDepth 100000 in
theorem w_1561 : (Jvm.Cond.selects "TaskgraphicModel" ({ cls := "TaskgraphicModel", name := "setWorkers", desc := "(I)I" } : Jvm.MethodName) ({ cls := "TaskgraphicModel", name := "setWorkers", desc := "(I)I" } : Jvm.MethodName)) ∈ zW := zW_in (zTp7 (i := 121) rfl) rfl
set_option maxRecDepth 100000 in
theorem w_1562 : (Jvm.Cond.code ({ cls := "TaskgraphicModel", name := "setWorkers", desc := "(I)I" } : Jvm.MethodName) prog_14_method_43_code (3 : Nat) (Option.some Jvm.ClassFile.FieldType.int)) ∈ zW := zW_in (zTp7 (i := 122) rfl) rfl
set_option maxRecDepth 100000 in
theorem w_1563 : (Jvm.Cond.methodLink "TaskgraphicLaw" (180 : Nat) ({ cls := "TaskgraphicModel", name := "setSlowness", desc := "(II)I" } : Jvm.MethodName)) ∈ zW := zW_in (zTp7 (i := 123) rfl) rfl
set_option maxRecDepth 100000 in
theorem w_1564 : (Jvm.Cond.instanceMethod ({ cls := "TaskgraphicModel", name := "setSlowness", desc := "(II)I" } : Jvm.MethodName)) ∈ zW := zW_in (zTp7 (i := 124) rfl) rfl
set_option maxRecDepth 100000 in
theorem w_1565 : (Jvm.Cond.selects "TaskgraphicModel" ({ cls := "TaskgraphicModel", name := "setSlowness", desc := "(II)I" } : Jvm.MethodName) ({ cls := "TaskgraphicModel", name := "setSlowness", desc := "(II)I" } : Jvm.MethodName)) ∈ zW := zW_in (zTp7 (i := 125) rfl) rfl
set_option maxRecDepth 100000 in
theorem w_1566 : (Jvm.Cond.code ({ cls := "TaskgraphicModel", name := "setSlowness", desc := "(II)I" } : Jvm.MethodName) prog_14_method_44_code (4 : Nat) (Option.some Jvm.ClassFile.FieldType.int)) ∈ zW := zW_in (zTp7 (i := 126) rfl) rfl
set_option maxRecDepth 100000 in
theorem w_1567 : (Jvm.Cond.methodLink "TaskgraphicLaw" (183 : Nat) ({ cls := "TaskgraphicModel", name := "setMemory", desc := "(I)I" } : Jvm.MethodName)) ∈ zW := zW_in (zTp7 (i := 127) rfl) rfl
set_option maxRecDepth 100000 in
theorem w_1568 : (Jvm.Cond.instanceMethod ({ cls := "TaskgraphicModel", name := "setMemory", desc := "(I)I" } : Jvm.MethodName)) ∈ zW := zW_in (zTp7 (i := 128) rfl) rfl
set_option maxRecDepth 100000 in
theorem w_1569 : (Jvm.Cond.selects "TaskgraphicModel" ({ cls := "TaskgraphicModel", name := "setMemory", desc := "(I)I" } : Jvm.MethodName) ({ cls := "TaskgraphicModel", name := "setMemory", desc := "(I)I" } : Jvm.MethodName)) ∈ zW := zW_in (zTp7 (i := 129) rfl) rfl
set_option maxRecDepth 100000 in
theorem w_1570 : (Jvm.Cond.code ({ cls := "TaskgraphicModel", name := "setMemory", desc := "(I)I" } : Jvm.MethodName) prog_14_method_45_code (3 : Nat) (Option.some Jvm.ClassFile.FieldType.int)) ∈ zW := zW_in (zTp7 (i := 130) rfl) rfl
set_option maxRecDepth 100000 in
theorem w_1571 : (Jvm.Cond.methodLink "TaskgraphicLaw" (186 : Nat) ({ cls := "TaskgraphicModel", name := "setLimit", desc := "(I)I" } : Jvm.MethodName)) ∈ zW := zW_in (zTp7 (i := 131) rfl) rfl
set_option maxRecDepth 100000 in
theorem w_1572 : (Jvm.Cond.instanceMethod ({ cls := "TaskgraphicModel", name := "setLimit", desc := "(I)I" } : Jvm.MethodName)) ∈ zW := zW_in (zTp7 (i := 132) rfl) rfl
set_option maxRecDepth 100000 in
theorem w_1573 : (Jvm.Cond.selects "TaskgraphicModel" ({ cls := "TaskgraphicModel", name := "setLimit", desc := "(I)I" } : Jvm.MethodName) ({ cls := "TaskgraphicModel", name := "setLimit", desc := "(I)I" } : Jvm.MethodName)) ∈ zW := zW_in (zTp7 (i := 133) rfl) rfl
set_option maxRecDepth 100000 in
theorem w_1574 : (Jvm.Cond.code ({ cls := "TaskgraphicModel", name := "setLimit", desc := "(I)I" } : Jvm.MethodName) prog_14_method_46_code (3 : Nat) (Option.some Jvm.ClassFile.FieldType.int)) ∈ zW := zW_in (zTp7 (i := 134) rfl) rfl
set_option maxRecDepth 100000 in
theorem w_1575 : (Jvm.Cond.methodLink "TaskgraphicLaw" (189 : Nat) ({ cls := "TaskgraphicModel", name := "setRoom", desc := "(I)I" } : Jvm.MethodName)) ∈ zW := zW_in (zTp7 (i := 135) rfl) rfl
set_option maxRecDepth 100000 in
theorem w_1576 : (Jvm.Cond.instanceMethod ({ cls := "TaskgraphicModel", name := "setRoom", desc := "(I)I" } : Jvm.MethodName)) ∈ zW := zW_in (zTp7 (i := 136) rfl) rfl
set_option maxRecDepth 100000 in
theorem w_1577 : (Jvm.Cond.selects "TaskgraphicModel" ({ cls := "TaskgraphicModel", name := "setRoom", desc := "(I)I" } : Jvm.MethodName) ({ cls := "TaskgraphicModel", name := "setRoom", desc := "(I)I" } : Jvm.MethodName)) ∈ zW := zW_in (zTp7 (i := 137) rfl) rfl
set_option maxRecDepth 100000 in
theorem w_1578 : (Jvm.Cond.code ({ cls := "TaskgraphicModel", name := "setRoom", desc := "(I)I" } : Jvm.MethodName) prog_14_method_49_code (2 : Nat) (Option.some Jvm.ClassFile.FieldType.int)) ∈ zW := zW_in (zTp7 (i := 138) rfl) rfl
set_option maxRecDepth 100000 in
theorem w_1579 : (Jvm.Cond.methodLink "TaskgraphicModel" (223 : Nat) ({ cls := "TaskgraphicModel", name := "leaves", desc := "(I)I" } : Jvm.MethodName)) ∈ zW := zW_in (zTp7 (i := 139) rfl) rfl
set_option maxRecDepth 100000 in
theorem w_1581 : (Jvm.Cond.instanceMethod ({ cls := "TaskgraphicModel", name := "leaves", desc := "(I)I" } : Jvm.MethodName)) ∈ zW := zW_in (zTp7 (i := 141) rfl) rfl
set_option maxRecDepth 100000 in
theorem w_1582 : (Jvm.Cond.code ({ cls := "TaskgraphicModel", name := "leaves", desc := "(I)I" } : Jvm.MethodName) prog_14_method_48_code (5 : Nat) (Option.some Jvm.ClassFile.FieldType.int)) ∈ zW := zW_in (zTp7 (i := 142) rfl) rfl
set_option maxRecDepth 100000 in
theorem w_1583 : (Jvm.Cond.methodLink "TaskgraphicModel" (216 : Nat) ({ cls := "TaskgraphicModel", name := "cached", desc := "()I" } : Jvm.MethodName)) ∈ zW := zW_in (zTp7 (i := 143) rfl) rfl
set_option maxRecDepth 100000 in
theorem w_1585 : (Jvm.Cond.instanceMethod ({ cls := "TaskgraphicModel", name := "cached", desc := "()I" } : Jvm.MethodName)) ∈ zW := zW_in (zTp7 (i := 145) rfl) rfl
set_option maxRecDepth 100000 in
theorem w_1586 : (Jvm.Cond.code ({ cls := "TaskgraphicModel", name := "cached", desc := "()I" } : Jvm.MethodName) prog_14_method_47_code (3 : Nat) (Option.some Jvm.ClassFile.FieldType.int)) ∈ zW := zW_in (zTp7 (i := 146) rfl) rfl
set_option maxRecDepth 100000 in
theorem w_1587 : (Jvm.Cond.methodLink "TaskgraphicLaw" (193 : Nat) ({ cls := "TaskgraphicModel", name := "mark", desc := "(IZ)Z" } : Jvm.MethodName)) ∈ zW := zW_in (zTp7 (i := 147) rfl) rfl
set_option maxRecDepth 100000 in
theorem w_1588 : (Jvm.Cond.instanceMethod ({ cls := "TaskgraphicModel", name := "mark", desc := "(IZ)Z" } : Jvm.MethodName)) ∈ zW := zW_in (zTp7 (i := 148) rfl) rfl
set_option maxRecDepth 100000 in
theorem w_1589 : (Jvm.Cond.selects "TaskgraphicModel" ({ cls := "TaskgraphicModel", name := "mark", desc := "(IZ)Z" } : Jvm.MethodName) ({ cls := "TaskgraphicModel", name := "mark", desc := "(IZ)Z" } : Jvm.MethodName)) ∈ zW := zW_in (zTp7 (i := 149) rfl) rfl
set_option maxRecDepth 100000 in
theorem w_1590 : (Jvm.Cond.code ({ cls := "TaskgraphicModel", name := "mark", desc := "(IZ)Z" } : Jvm.MethodName) prog_14_method_50_code (4 : Nat) (Option.some Jvm.ClassFile.FieldType.boolean)) ∈ zW := zW_in (zTp7 (i := 150) rfl) rfl
set_option maxRecDepth 100000 in
theorem w_1591 : (Jvm.Cond.methodLink "TaskgraphicLaw" (196 : Nat) ({ cls := "TaskgraphicModel", name := "isCached", desc := "(I)Z" } : Jvm.MethodName)) ∈ zW := zW_in (zTp7 (i := 151) rfl) rfl
set_option maxRecDepth 100000 in
theorem w_1592 : (Jvm.Cond.instanceMethod ({ cls := "TaskgraphicModel", name := "isCached", desc := "(I)Z" } : Jvm.MethodName)) ∈ zW := zW_in (zTp7 (i := 152) rfl) rfl
set_option maxRecDepth 100000 in
theorem w_1593 : (Jvm.Cond.selects "TaskgraphicModel" ({ cls := "TaskgraphicModel", name := "isCached", desc := "(I)Z" } : Jvm.MethodName) ({ cls := "TaskgraphicModel", name := "isCached", desc := "(I)Z" } : Jvm.MethodName)) ∈ zW := zW_in (zTp7 (i := 153) rfl) rfl
set_option maxRecDepth 100000 in
theorem w_1594 : (Jvm.Cond.code ({ cls := "TaskgraphicModel", name := "isCached", desc := "(I)Z" } : Jvm.MethodName) prog_14_method_51_code (2 : Nat) (Option.some Jvm.ClassFile.FieldType.boolean)) ∈ zW := zW_in (zTp7 (i := 154) rfl) rfl
set_option maxRecDepth 100000 in
theorem w_1595 : (Jvm.Cond.methodLink "TaskgraphicLaw" (199 : Nat) ({ cls := "TaskgraphicModel", name := "stages", desc := "(I)I" } : Jvm.MethodName)) ∈ zW := zW_in (zTp7 (i := 155) rfl) rfl
set_option maxRecDepth 100000 in
theorem w_1596 : (Jvm.Cond.instanceMethod ({ cls := "TaskgraphicModel", name := "stages", desc := "(I)I" } : Jvm.MethodName)) ∈ zW := zW_in (zTp7 (i := 156) rfl) rfl
set_option maxRecDepth 100000 in
theorem w_1597 : (Jvm.Cond.selects "TaskgraphicModel" ({ cls := "TaskgraphicModel", name := "stages", desc := "(I)I" } : Jvm.MethodName) ({ cls := "TaskgraphicModel", name := "stages", desc := "(I)I" } : Jvm.MethodName)) ∈ zW := zW_in (zTp7 (i := 157) rfl) rfl
set_option maxRecDepth 100000 in
theorem w_1598 : (Jvm.Cond.code ({ cls := "TaskgraphicModel", name := "stages", desc := "(I)I" } : Jvm.MethodName) prog_14_method_56_code (2 : Nat) (Option.some Jvm.ClassFile.FieldType.int)) ∈ zW := zW_in (zTp7 (i := 158) rfl) rfl
set_option maxRecDepth 100000 in
theorem w_1599 : (Jvm.Cond.methodLink "TaskgraphicModel" (235 : Nat) ({ cls := "TaskgraphicModel", name := "finds", desc := "(I)I" } : Jvm.MethodName)) ∈ zW := zW_in (zTp7 (i := 159) rfl) rfl
set_option maxRecDepth 100000 in
theorem w_1601 : (Jvm.Cond.instanceMethod ({ cls := "TaskgraphicModel", name := "finds", desc := "(I)I" } : Jvm.MethodName)) ∈ zW := zW_in (zTp7 (i := 161) rfl) rfl
set_option maxRecDepth 100000 in
theorem w_1602 : (Jvm.Cond.code ({ cls := "TaskgraphicModel", name := "finds", desc := "(I)I" } : Jvm.MethodName) prog_14_method_55_code (5 : Nat) (Option.some Jvm.ClassFile.FieldType.int)) ∈ zW := zW_in (zTp7 (i := 162) rfl) rfl
set_option maxRecDepth 100000 in
theorem w_1603 : (Jvm.Cond.methodLink "TaskgraphicModel" (232 : Nat) ({ cls := "TaskgraphicModel", name := "reads", desc := "(II)I" } : Jvm.MethodName)) ∈ zW := zW_in (zTp7 (i := 163) rfl) rfl
set_option maxRecDepth 100000 in
theorem w_1605 : (Jvm.Cond.instanceMethod ({ cls := "TaskgraphicModel", name := "reads", desc := "(II)I" } : Jvm.MethodName)) ∈ zW := zW_in (zTp7 (i := 165) rfl) rfl
set_option maxRecDepth 100000 in
theorem w_1606 : (Jvm.Cond.code ({ cls := "TaskgraphicModel", name := "reads", desc := "(II)I" } : Jvm.MethodName) prog_14_method_54_code (8 : Nat) (Option.some Jvm.ClassFile.FieldType.int)) ∈ zW := zW_in (zTp7 (i := 166) rfl) rfl
set_option maxRecDepth 100000 in
theorem w_1607 : (Jvm.Cond.methodLink "TaskgraphicModel" (226 : Nat) ({ cls := "TaskgraphicModel", name := "needs", desc := "(I)V" } : Jvm.MethodName)) ∈ zW := zW_in (zTp7 (i := 167) rfl) rfl
set_option maxRecDepth 100000 in
theorem w_1609 : (Jvm.Cond.instanceMethod ({ cls := "TaskgraphicModel", name := "needs", desc := "(I)V" } : Jvm.MethodName)) ∈ zW := zW_in (zTp7 (i := 169) rfl) rfl
set_option maxRecDepth 100000 in
theorem w_1610 : (Jvm.Cond.code ({ cls := "TaskgraphicModel", name := "needs", desc := "(I)V" } : Jvm.MethodName) prog_14_method_53_code (2 : Nat) (Option.none : Option Jvm.ClassFile.FieldType)) ∈ zW := zW_in (zTp7 (i := 170) rfl) rfl
set_option maxRecDepth 100000 in
theorem w_1611 : (Jvm.Cond.methodLink "TaskgraphicModel" (229 : Nat) ({ cls := "TaskgraphicModel", name := "shared", desc := "(III)I" } : Jvm.MethodName)) ∈ zW := zW_in (zTp7 (i := 171) rfl) rfl
set_option maxRecDepth 100000 in
theorem w_1613 : (Jvm.Cond.instanceMethod ({ cls := "TaskgraphicModel", name := "shared", desc := "(III)I" } : Jvm.MethodName)) ∈ zW := zW_in (zTp7 (i := 173) rfl) rfl
set_option maxRecDepth 100000 in
theorem w_1614 : (Jvm.Cond.code ({ cls := "TaskgraphicModel", name := "shared", desc := "(III)I" } : Jvm.MethodName) prog_14_method_52_code (6 : Nat) (Option.some Jvm.ClassFile.FieldType.int)) ∈ zW := zW_in (zTp7 (i := 174) rfl) rfl
set_option maxRecDepth 100000 in
theorem w_1615 : (Jvm.Cond.methodLink "TaskgraphicLaw" (202 : Nat) ({ cls := "TaskgraphicModel", name := "outputOf", desc := "(II)I" } : Jvm.MethodName)) ∈ zW := zW_in (zTp7 (i := 175) rfl) rfl
set_option maxRecDepth 100000 in
theorem w_1616 : (Jvm.Cond.instanceMethod ({ cls := "TaskgraphicModel", name := "outputOf", desc := "(II)I" } : Jvm.MethodName)) ∈ zW := zW_in (zTp7 (i := 176) rfl) rfl
set_option maxRecDepth 100000 in
theorem w_1617 : (Jvm.Cond.selects "TaskgraphicModel" ({ cls := "TaskgraphicModel", name := "outputOf", desc := "(II)I" } : Jvm.MethodName) ({ cls := "TaskgraphicModel", name := "outputOf", desc := "(II)I" } : Jvm.MethodName)) ∈ zW := zW_in (zTp7 (i := 177) rfl) rfl
set_option maxRecDepth 100000 in
theorem w_1618 : (Jvm.Cond.code ({ cls := "TaskgraphicModel", name := "outputOf", desc := "(II)I" } : Jvm.MethodName) prog_14_method_57_code (6 : Nat) (Option.some Jvm.ClassFile.FieldType.int)) ∈ zW := zW_in (zTp7 (i := 178) rfl) rfl
set_option maxRecDepth 100000 in
theorem w_1619 : (Jvm.Cond.methodLink "TaskgraphicLaw" (205 : Nat) ({ cls := "TaskgraphicModel", name := "run", desc := "(I)I" } : Jvm.MethodName)) ∈ zW := zW_in (zTp7 (i := 179) rfl) rfl
set_option maxRecDepth 100000 in
theorem w_1620 : (Jvm.Cond.instanceMethod ({ cls := "TaskgraphicModel", name := "run", desc := "(I)I" } : Jvm.MethodName)) ∈ zW := zW_in (zTp7 (i := 180) rfl) rfl
set_option maxRecDepth 100000 in
theorem w_1621 : (Jvm.Cond.selects "TaskgraphicModel" ({ cls := "TaskgraphicModel", name := "run", desc := "(I)I" } : Jvm.MethodName) ({ cls := "TaskgraphicModel", name := "run", desc := "(I)I" } : Jvm.MethodName)) ∈ zW := zW_in (zTp7 (i := 181) rfl) rfl
set_option maxRecDepth 100000 in
theorem w_1622 : (Jvm.Cond.code ({ cls := "TaskgraphicModel", name := "run", desc := "(I)I" } : Jvm.MethodName) prog_14_method_63_code (3 : Nat) (Option.some Jvm.ClassFile.FieldType.int)) ∈ zW := zW_in (zTp7 (i := 182) rfl) rfl
set_option maxRecDepth 100000 in
theorem w_1623 : (Jvm.Cond.methodLink "TaskgraphicModel" (264 : Nat) ({ cls := "TaskgraphicModel", name := "stage", desc := "(II)I" } : Jvm.MethodName)) ∈ zW := zW_in (zTp7 (i := 183) rfl) rfl
set_option maxRecDepth 100000 in
theorem w_1625 : (Jvm.Cond.instanceMethod ({ cls := "TaskgraphicModel", name := "stage", desc := "(II)I" } : Jvm.MethodName)) ∈ zW := zW_in (zTp7 (i := 185) rfl) rfl
set_option maxRecDepth 100000 in
theorem w_1626 : (Jvm.Cond.code ({ cls := "TaskgraphicModel", name := "stage", desc := "(II)I" } : Jvm.MethodName) prog_14_method_61_code (12 : Nat) (Option.some Jvm.ClassFile.FieldType.int)) ∈ zW := zW_in (zTp7 (i := 186) rfl) rfl
set_option maxRecDepth 100000 in
theorem w_1627 : (Jvm.Cond.methodLink "TaskgraphicModel" (244 : Nat) ({ cls := "TaskgraphicModel", name := "takes", desc := "(IIIIZ)V" } : Jvm.MethodName)) ∈ zW := zW_in (zTp7 (i := 187) rfl) rfl
set_option maxRecDepth 100000 in
theorem w_1629 : (Jvm.Cond.instanceMethod ({ cls := "TaskgraphicModel", name := "takes", desc := "(IIIIZ)V" } : Jvm.MethodName)) ∈ zW := zW_in (zTp7 (i := 189) rfl) rfl
set_option maxRecDepth 100000 in
theorem w_1630 : (Jvm.Cond.code ({ cls := "TaskgraphicModel", name := "takes", desc := "(IIIIZ)V" } : Jvm.MethodName) prog_14_method_58_code (6 : Nat) (Option.none : Option Jvm.ClassFile.FieldType)) ∈ zW := zW_in (zTp7 (i := 190) rfl) rfl
set_option maxRecDepth 100000 in
theorem w_1631 : (Jvm.Cond.methodLink "TaskgraphicModel" (251 : Nat) ({ cls := "TaskgraphicModel", name := "copies", desc := "(IIII)Z" } : Jvm.MethodName)) ∈ zW := zW_in (zTp7 (i := 191) rfl) rfl
set_option maxRecDepth 100000 in
theorem w_1633 : (Jvm.Cond.instanceMethod ({ cls := "TaskgraphicModel", name := "copies", desc := "(IIII)Z" } : Jvm.MethodName)) ∈ zW := zW_in (zTp7 (i := 193) rfl) rfl
set_option maxRecDepth 100000 in
theorem w_1634 : (Jvm.Cond.code ({ cls := "TaskgraphicModel", name := "copies", desc := "(IIII)Z" } : Jvm.MethodName) prog_14_method_60_code (9 : Nat) (Option.some Jvm.ClassFile.FieldType.boolean)) ∈ zW := zW_in (zTp7 (i := 194) rfl) rfl
set_option maxRecDepth 100000 in
theorem w_1635 : (Jvm.Cond.methodLink "TaskgraphicModel" (241 : Nat) ({ cls := "TaskgraphicModel", name := "latest", desc := "(II)I" } : Jvm.MethodName)) ∈ zW := zW_in (zTp7 (i := 195) rfl) rfl
set_option maxRecDepth 100000 in
theorem w_1637 : (Jvm.Cond.instanceMethod ({ cls := "TaskgraphicModel", name := "latest", desc := "(II)I" } : Jvm.MethodName)) ∈ zW := zW_in (zTp7 (i := 197) rfl) rfl
set_option maxRecDepth 100000 in
theorem w_1638 : (Jvm.Cond.code ({ cls := "TaskgraphicModel", name := "latest", desc := "(II)I" } : Jvm.MethodName) prog_14_method_59_code (5 : Nat) (Option.some Jvm.ClassFile.FieldType.int)) ∈ zW := zW_in (zTp7 (i := 198) rfl) rfl
set_option maxRecDepth 100000 in
theorem w_1639 : (Jvm.Cond.methodLink "TaskgraphicModel" (267 : Nat) ({ cls := "TaskgraphicModel", name := "keeps", desc := "()V" } : Jvm.MethodName)) ∈ zW := zW_in (zTp7 (i := 199) rfl) rfl
set_option maxRecDepth 100000 in
theorem w_1641 : (Jvm.Cond.instanceMethod ({ cls := "TaskgraphicModel", name := "keeps", desc := "()V" } : Jvm.MethodName)) ∈ zW := zW_in (zTp7 (i := 201) rfl) rfl
set_option maxRecDepth 100000 in
theorem w_1642 : (Jvm.Cond.code ({ cls := "TaskgraphicModel", name := "keeps", desc := "()V" } : Jvm.MethodName) prog_14_method_62_code (2 : Nat) (Option.none : Option Jvm.ClassFile.FieldType)) ∈ zW := zW_in (zTp7 (i := 202) rfl) rfl
set_option maxRecDepth 100000 in
theorem w_1643 : (Jvm.Cond.methodLink "TaskgraphicLaw" (209 : Nat) ({ cls := "TaskgraphicModel", name := "ticks", desc := "()I" } : Jvm.MethodName)) ∈ zW := zW_in (zTp7 (i := 203) rfl) rfl
set_option maxRecDepth 100000 in
theorem w_1644 : (Jvm.Cond.instanceMethod ({ cls := "TaskgraphicModel", name := "ticks", desc := "()I" } : Jvm.MethodName)) ∈ zW := zW_in (zTp7 (i := 204) rfl) rfl
set_option maxRecDepth 100000 in
theorem w_1645 : (Jvm.Cond.selects "TaskgraphicModel" ({ cls := "TaskgraphicModel", name := "ticks", desc := "()I" } : Jvm.MethodName) ({ cls := "TaskgraphicModel", name := "ticks", desc := "()I" } : Jvm.MethodName)) ∈ zW := zW_in (zTp7 (i := 205) rfl) rfl
set_option maxRecDepth 100000 in
theorem w_1646 : (Jvm.Cond.code ({ cls := "TaskgraphicModel", name := "ticks", desc := "()I" } : Jvm.MethodName) prog_14_method_64_code (1 : Nat) (Option.some Jvm.ClassFile.FieldType.int)) ∈ zW := zW_in (zTp7 (i := 206) rfl) rfl
set_option maxRecDepth 100000 in
theorem w_1647 : (Jvm.Cond.methodLink "TaskgraphicLaw" (213 : Nat) ({ cls := "TaskgraphicModel", name := "spilled", desc := "()I" } : Jvm.MethodName)) ∈ zW := zW_in (zTp7 (i := 207) rfl) rfl
set_option maxRecDepth 100000 in
theorem w_1648 : (Jvm.Cond.instanceMethod ({ cls := "TaskgraphicModel", name := "spilled", desc := "()I" } : Jvm.MethodName)) ∈ zW := zW_in (zTp7 (i := 208) rfl) rfl
set_option maxRecDepth 100000 in
theorem w_1649 : (Jvm.Cond.selects "TaskgraphicModel" ({ cls := "TaskgraphicModel", name := "spilled", desc := "()I" } : Jvm.MethodName) ({ cls := "TaskgraphicModel", name := "spilled", desc := "()I" } : Jvm.MethodName)) ∈ zW := zW_in (zTp7 (i := 209) rfl) rfl
set_option maxRecDepth 100000 in
theorem w_1650 : (Jvm.Cond.code ({ cls := "TaskgraphicModel", name := "spilled", desc := "()I" } : Jvm.MethodName) prog_14_method_65_code (1 : Nat) (Option.some Jvm.ClassFile.FieldType.int)) ∈ zW := zW_in (zTp7 (i := 210) rfl) rfl
set_option maxRecDepth 100000 in
theorem w_1651 : (Jvm.Cond.methodLink "TaskgraphicLaw" (217 : Nat) ({ cls := "TaskgraphicModel", name := "attempts", desc := "()I" } : Jvm.MethodName)) ∈ zW := zW_in (zTp7 (i := 211) rfl) rfl
set_option maxRecDepth 100000 in
theorem w_1652 : (Jvm.Cond.instanceMethod ({ cls := "TaskgraphicModel", name := "attempts", desc := "()I" } : Jvm.MethodName)) ∈ zW := zW_in (zTp7 (i := 212) rfl) rfl
set_option maxRecDepth 100000 in
theorem w_1653 : (Jvm.Cond.selects "TaskgraphicModel" ({ cls := "TaskgraphicModel", name := "attempts", desc := "()I" } : Jvm.MethodName) ({ cls := "TaskgraphicModel", name := "attempts", desc := "()I" } : Jvm.MethodName)) ∈ zW := zW_in (zTp7 (i := 213) rfl) rfl
set_option maxRecDepth 100000 in
theorem w_1654 : (Jvm.Cond.code ({ cls := "TaskgraphicModel", name := "attempts", desc := "()I" } : Jvm.MethodName) prog_14_method_66_code (1 : Nat) (Option.some Jvm.ClassFile.FieldType.int)) ∈ zW := zW_in (zTp7 (i := 214) rfl) rfl
set_option maxRecDepth 100000 in
theorem w_1655 : (Jvm.Cond.methodLink "TaskgraphicLaw" (220 : Nat) ({ cls := "TaskgraphicModel", name := "nodeOf", desc := "(I)I" } : Jvm.MethodName)) ∈ zW := zW_in (zTp7 (i := 215) rfl) rfl
set_option maxRecDepth 100000 in
theorem w_1656 : (Jvm.Cond.instanceMethod ({ cls := "TaskgraphicModel", name := "nodeOf", desc := "(I)I" } : Jvm.MethodName)) ∈ zW := zW_in (zTp7 (i := 216) rfl) rfl
set_option maxRecDepth 100000 in
theorem w_1657 : (Jvm.Cond.selects "TaskgraphicModel" ({ cls := "TaskgraphicModel", name := "nodeOf", desc := "(I)I" } : Jvm.MethodName) ({ cls := "TaskgraphicModel", name := "nodeOf", desc := "(I)I" } : Jvm.MethodName)) ∈ zW := zW_in (zTp7 (i := 217) rfl) rfl
set_option maxRecDepth 100000 in
theorem w_1658 : (Jvm.Cond.code ({ cls := "TaskgraphicModel", name := "nodeOf", desc := "(I)I" } : Jvm.MethodName) prog_14_method_68_code (2 : Nat) (Option.some Jvm.ClassFile.FieldType.int)) ∈ zW := zW_in (zTp7 (i := 218) rfl) rfl
set_option maxRecDepth 100000 in
theorem w_1659 : (Jvm.Cond.methodLink "TaskgraphicModel" (270 : Nat) ({ cls := "TaskgraphicModel", name := "ofAttempt", desc := "([II)I" } : Jvm.MethodName)) ∈ zW := zW_in (zTp7 (i := 219) rfl) rfl
set_option maxRecDepth 100000 in
theorem w_1661 : (Jvm.Cond.instanceMethod ({ cls := "TaskgraphicModel", name := "ofAttempt", desc := "([II)I" } : Jvm.MethodName)) ∈ zW := zW_in (zTp7 (i := 221) rfl) rfl
set_option maxRecDepth 100000 in
theorem w_1662 : (Jvm.Cond.code ({ cls := "TaskgraphicModel", name := "ofAttempt", desc := "([II)I" } : Jvm.MethodName) prog_14_method_67_code (3 : Nat) (Option.some Jvm.ClassFile.FieldType.int)) ∈ zW := zW_in (zTp7 (i := 222) rfl) rfl
set_option maxRecDepth 100000 in
theorem w_1663 : (Jvm.Cond.methodLink "TaskgraphicLaw" (223 : Nat) ({ cls := "TaskgraphicModel", name := "partitionOf", desc := "(I)I" } : Jvm.MethodName)) ∈ zW := zW_in (zTp7 (i := 223) rfl) rfl
set_option maxRecDepth 100000 in
theorem w_1664 : (Jvm.Cond.instanceMethod ({ cls := "TaskgraphicModel", name := "partitionOf", desc := "(I)I" } : Jvm.MethodName)) ∈ zW := zW_in (zTp7 (i := 224) rfl) rfl
set_option maxRecDepth 100000 in
theorem w_1665 : (Jvm.Cond.selects "TaskgraphicModel" ({ cls := "TaskgraphicModel", name := "partitionOf", desc := "(I)I" } : Jvm.MethodName) ({ cls := "TaskgraphicModel", name := "partitionOf", desc := "(I)I" } : Jvm.MethodName)) ∈ zW := zW_in (zTp7 (i := 225) rfl) rfl
set_option maxRecDepth 100000 in
theorem w_1666 : (Jvm.Cond.code ({ cls := "TaskgraphicModel", name := "partitionOf", desc := "(I)I" } : Jvm.MethodName) prog_14_method_69_code (2 : Nat) (Option.some Jvm.ClassFile.FieldType.int)) ∈ zW := zW_in (zTp7 (i := 226) rfl) rfl
set_option maxRecDepth 100000 in
theorem w_1667 : (Jvm.Cond.methodLink "TaskgraphicLaw" (226 : Nat) ({ cls := "TaskgraphicModel", name := "workerOf", desc := "(I)I" } : Jvm.MethodName)) ∈ zW := zW_in (zTp7 (i := 227) rfl) rfl
set_option maxRecDepth 100000 in
theorem w_1668 : (Jvm.Cond.instanceMethod ({ cls := "TaskgraphicModel", name := "workerOf", desc := "(I)I" } : Jvm.MethodName)) ∈ zW := zW_in (zTp7 (i := 228) rfl) rfl
set_option maxRecDepth 100000 in
theorem w_1669 : (Jvm.Cond.selects "TaskgraphicModel" ({ cls := "TaskgraphicModel", name := "workerOf", desc := "(I)I" } : Jvm.MethodName) ({ cls := "TaskgraphicModel", name := "workerOf", desc := "(I)I" } : Jvm.MethodName)) ∈ zW := zW_in (zTp7 (i := 229) rfl) rfl
set_option maxRecDepth 100000 in
theorem w_1670 : (Jvm.Cond.code ({ cls := "TaskgraphicModel", name := "workerOf", desc := "(I)I" } : Jvm.MethodName) prog_14_method_70_code (2 : Nat) (Option.some Jvm.ClassFile.FieldType.int)) ∈ zW := zW_in (zTp7 (i := 230) rfl) rfl
set_option maxRecDepth 100000 in
theorem w_1671 : (Jvm.Cond.methodLink "TaskgraphicLaw" (229 : Nat) ({ cls := "TaskgraphicModel", name := "startOf", desc := "(I)I" } : Jvm.MethodName)) ∈ zW := zW_in (zTp7 (i := 231) rfl) rfl
set_option maxRecDepth 100000 in
theorem w_1672 : (Jvm.Cond.instanceMethod ({ cls := "TaskgraphicModel", name := "startOf", desc := "(I)I" } : Jvm.MethodName)) ∈ zW := zW_in (zTp7 (i := 232) rfl) rfl
set_option maxRecDepth 100000 in
theorem w_1673 : (Jvm.Cond.selects "TaskgraphicModel" ({ cls := "TaskgraphicModel", name := "startOf", desc := "(I)I" } : Jvm.MethodName) ({ cls := "TaskgraphicModel", name := "startOf", desc := "(I)I" } : Jvm.MethodName)) ∈ zW := zW_in (zTp7 (i := 233) rfl) rfl
set_option maxRecDepth 100000 in
theorem w_1674 : (Jvm.Cond.code ({ cls := "TaskgraphicModel", name := "startOf", desc := "(I)I" } : Jvm.MethodName) prog_14_method_71_code (2 : Nat) (Option.some Jvm.ClassFile.FieldType.int)) ∈ zW := zW_in (zTp7 (i := 234) rfl) rfl
set_option maxRecDepth 100000 in
theorem w_1675 : (Jvm.Cond.methodLink "TaskgraphicLaw" (232 : Nat) ({ cls := "TaskgraphicModel", name := "endOf", desc := "(I)I" } : Jvm.MethodName)) ∈ zW := zW_in (zTp7 (i := 235) rfl) rfl
set_option maxRecDepth 100000 in
theorem w_1676 : (Jvm.Cond.instanceMethod ({ cls := "TaskgraphicModel", name := "endOf", desc := "(I)I" } : Jvm.MethodName)) ∈ zW := zW_in (zTp7 (i := 236) rfl) rfl
set_option maxRecDepth 100000 in
theorem w_1677 : (Jvm.Cond.selects "TaskgraphicModel" ({ cls := "TaskgraphicModel", name := "endOf", desc := "(I)I" } : Jvm.MethodName) ({ cls := "TaskgraphicModel", name := "endOf", desc := "(I)I" } : Jvm.MethodName)) ∈ zW := zW_in (zTp7 (i := 237) rfl) rfl
set_option maxRecDepth 100000 in
theorem w_1678 : (Jvm.Cond.code ({ cls := "TaskgraphicModel", name := "endOf", desc := "(I)I" } : Jvm.MethodName) prog_14_method_72_code (2 : Nat) (Option.some Jvm.ClassFile.FieldType.int)) ∈ zW := zW_in (zTp7 (i := 238) rfl) rfl
set_option maxRecDepth 100000 in
theorem w_1679 : (Jvm.Cond.methodLink "TaskgraphicLaw" (235 : Nat) ({ cls := "TaskgraphicModel", name := "isCopy", desc := "(I)Z" } : Jvm.MethodName)) ∈ zW := zW_in (zTp7 (i := 239) rfl) rfl
set_option maxRecDepth 100000 in
theorem w_1680 : (Jvm.Cond.instanceMethod ({ cls := "TaskgraphicModel", name := "isCopy", desc := "(I)Z" } : Jvm.MethodName)) ∈ zW := zW_in (zTp8 (i := 0) rfl) rfl
set_option maxRecDepth 100000 in
theorem w_1681 : (Jvm.Cond.selects "TaskgraphicModel" ({ cls := "TaskgraphicModel", name := "isCopy", desc := "(I)Z" } : Jvm.MethodName) ({ cls := "TaskgraphicModel", name := "isCopy", desc := "(I)Z" } : Jvm.MethodName)) ∈ zW := zW_in (zTp8 (i := 1) rfl) rfl
set_option maxRecDepth 100000 in
theorem w_1682 : (Jvm.Cond.code ({ cls := "TaskgraphicModel", name := "isCopy", desc := "(I)Z" } : Jvm.MethodName) prog_14_method_73_code (2 : Nat) (Option.some Jvm.ClassFile.FieldType.boolean)) ∈ zW := zW_in (zTp8 (i := 2) rfl) rfl
set_option maxRecDepth 100000 in
theorem w_1683 : (Jvm.Cond.methodLink "TaskgraphicLaw" (240 : Nat) ({ cls := "TaskgraphicModel", name := "share", desc := "()F" } : Jvm.MethodName)) ∈ zW := zW_in (zTp8 (i := 3) rfl) rfl
set_option maxRecDepth 100000 in
theorem w_1684 : (Jvm.Cond.instanceMethod ({ cls := "TaskgraphicModel", name := "share", desc := "()F" } : Jvm.MethodName)) ∈ zW := zW_in (zTp8 (i := 4) rfl) rfl
set_option maxRecDepth 100000 in
theorem w_1685 : (Jvm.Cond.selects "TaskgraphicModel" ({ cls := "TaskgraphicModel", name := "share", desc := "()F" } : Jvm.MethodName) ({ cls := "TaskgraphicModel", name := "share", desc := "()F" } : Jvm.MethodName)) ∈ zW := zW_in (zTp8 (i := 5) rfl) rfl
set_option maxRecDepth 100000 in
theorem w_1686 : (Jvm.Cond.code ({ cls := "TaskgraphicModel", name := "share", desc := "()F" } : Jvm.MethodName) prog_14_method_74_code (3 : Nat) (Option.some Jvm.ClassFile.FieldType.float)) ∈ zW := zW_in (zTp8 (i := 6) rfl) rfl
set_option maxRecDepth 100000 in
theorem zws_Jx4a65c : ∀ w ∈ u_ws RJx4a65c TJx4a65c 3, w ∈ zW := zW_ws [68, 64, 66] (by decide +kernel) (by decide +kernel)
set_option maxRecDepth 100000 in
theorem zws_X0 : ∀ w ∈ u_ws RX0 TX0 6, w ∈ zW := zW_ws [235, 237, 239, 241, 243, 245] (by decide +kernel) (by decide +kernel)
set_option maxRecDepth 100000 in
theorem zws_X1 : ∀ w ∈ u_ws RX1 TX1 4, w ∈ zW := zW_ws [386, 388, 390, 392] (by decide +kernel) (by decide +kernel)
set_option maxRecDepth 100000 in
theorem zws_X2 : ∀ w ∈ u_ws RX2 TX2 3, w ∈ zW := zW_ws [192, 194, 196] (by decide +kernel) (by decide +kernel)
set_option maxRecDepth 100000 in
theorem zws_X3 : ∀ w ∈ u_ws RX3 TX3 4, w ∈ zW := zW_ws [211, 213, 215, 217] (by decide +kernel) (by decide +kernel)
set_option maxRecDepth 100000 in
theorem zws_X4 : ∀ w ∈ u_ws RX4 TX4 1, w ∈ zW := zW_ws [96] (by decide +kernel) (by decide +kernel)
set_option maxRecDepth 100000 in
theorem zws_X6 : ∀ w ∈ u_ws RX6 TX6 10, w ∈ zW := zW_ws [347, 349, 351, 353, 355, 357, 359, 361, 363, 365] (by decide +kernel) (by decide +kernel)
set_option maxRecDepth 100000 in
theorem zws_X7 : ∀ w ∈ u_ws RX7 TX7 15, w ∈ zW := zW_ws [156, 158, 160, 162, 164, 166, 168, 170, 172, 174, 176, 178, 180, 182, 184] (by decide +kernel) (by decide +kernel)
set_option maxRecDepth 100000 in
theorem zws_X8 : ∀ w ∈ u_ws RX8 TX8 7, w ∈ zW := zW_ws [266, 268, 270, 272, 274, 276, 278] (by decide +kernel) (by decide +kernel)
set_option maxRecDepth 100000 in
theorem zws_X9 : ∀ w ∈ u_ws RX9 TX9 6, w ∈ zW := zW_ws [106, 108, 110, 112, 114, 116] (by decide +kernel) (by decide +kernel)
set_option maxRecDepth 100000 in
theorem zws_X10 : ∀ w ∈ u_ws RX10 TX10 7, w ∈ zW := zW_ws [303, 305, 307, 309, 311, 313, 315] (by decide +kernel) (by decide +kernel)
set_option maxRecDepth 100000 in
theorem zws_X11 : ∀ w ∈ u_ws RX11 TX11 9, w ∈ zW := zW_ws [404, 406, 408, 410, 412, 414, 416, 418, 420] (by decide +kernel) (by decide +kernel)
set_option maxRecDepth 100000 in
theorem zws_X12 : ∀ w ∈ u_ws RX12 TX12 45, w ∈ zW := zW_ws [1302, 1304, 1306, 1308, 1310, 1312, 1314, 1316, 1318, 1320, 1322, 1324, 1326, 1328, 1330, 1332, 1334, 1336, 1338, 1340, 1342, 1344, 1346, 1348, 1350, 1352, 1354, 1356, 1358, 1360, 1362, 1364, 1366, 1368, 1370, 1372, 1374, 1376, 1378, 1380, 1382, 1384, 1386, 1388, 1390] (by decide +kernel) (by decide +kernel)
