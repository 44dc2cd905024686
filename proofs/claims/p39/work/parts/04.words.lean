theorem zW_l {w : Cond} {i : Nat} (h : lw_tbl[i]? = some w) (g : goodWord w = true) : w ∈ zW := zW_in (List.mem_of_getElem? h) g
theorem zW_ws {ws : List Cond} (ps : List Nat) (hp : ws = ps.filterMap (fun i => tables_1[i]?)) (h : ws.all goodWord = true) : ∀ w ∈ ws, w ∈ zW := by
  intro w hw
  have h1 := List.all_eq_true.mp h w hw
  rw [hp] at hw
  obtain ⟨i, -, hi⟩ := List.mem_filterMap.mp hw
  exact zW_t hi h1
theorem zTp1 {w : Cond} {i : Nat} (h : tables_1_1[i]? = some w) : w ∈ lw_tbl := List.mem_append_right _ (List.mem_append_left _ (List.mem_of_getElem? h))
theorem zTp2 {w : Cond} {i : Nat} (h : tables_1_2[i]? = some w) : w ∈ lw_tbl := List.mem_append_right _ (List.mem_append_right _ (List.mem_append_left _ (List.mem_of_getElem? h)))
theorem zTp3 {w : Cond} {i : Nat} (h : tables_1_3[i]? = some w) : w ∈ lw_tbl := List.mem_append_right _ (List.mem_append_right _ (List.mem_append_right _ (List.mem_append_left _ (List.mem_of_getElem? h))))
theorem zTp4 {w : Cond} {i : Nat} (h : tables_1_4[i]? = some w) : w ∈ lw_tbl := List.mem_append_right _ (List.mem_append_right _ (List.mem_append_right _ (List.mem_append_right _ (List.mem_append_left _ (List.mem_of_getElem? h)))))
theorem zTp5 {w : Cond} {i : Nat} (h : tables_1_5[i]? = some w) : w ∈ lw_tbl := List.mem_append_right _ (List.mem_append_right _ (List.mem_append_right _ (List.mem_append_right _ (List.mem_append_right _ (List.mem_append_left _ (List.mem_of_getElem? h))))))
theorem zTp6 {w : Cond} {i : Nat} (h : tables_1_6[i]? = some w) : w ∈ lw_tbl := List.mem_append_right _ (List.mem_append_right _ (List.mem_append_right _ (List.mem_append_right _ (List.mem_append_right _ (List.mem_append_right _ ((List.mem_of_getElem? h)))))))
set_option maxRecDepth 100000 in
theorem w_1 : (Jvm.Cond.initialized "Taskgraphic") ∈ zW := zW_in (zTp1 (i := 1) rfl) rfl
set_option maxRecDepth 100000 in
theorem w_2 : (Jvm.Cond.initialized "Taskgraphic$Graph") ∈ zW := zW_in (zTp1 (i := 2) rfl) rfl
set_option maxRecDepth 100000 in
theorem w_3 : (Jvm.Cond.initialized "java/util/AbstractCollection") ∈ zW := zW_in (zTp1 (i := 3) rfl) rfl
set_option maxRecDepth 100000 in
theorem w_4 : (Jvm.Cond.initialized "java/util/AbstractList") ∈ zW := zW_in (zTp1 (i := 4) rfl) rfl
set_option maxRecDepth 100000 in
theorem w_5 : (Jvm.Cond.initialized "java/util/ArrayList") ∈ zW := zW_in (zTp1 (i := 5) rfl) rfl
set_option maxRecDepth 100000 in
theorem w_6 : (Jvm.Cond.initialized "Taskgraphic$Node") ∈ zW := zW_in (zTp1 (i := 6) rfl) rfl
set_option maxRecDepth 100000 in
theorem w_9 : (Jvm.Cond.initialized "Taskgraphic$Rows") ∈ zW := zW_in (zTp1 (i := 9) rfl) rfl
set_option maxRecDepth 100000 in
theorem w_10 : (Jvm.Cond.initialized "Taskgraphic$Ints") ∈ zW := zW_in (zTp1 (i := 10) rfl) rfl
set_option maxRecDepth 100000 in
theorem w_11 : (Jvm.Cond.initialized "java/lang/Math") ∈ zW := zW_in (zTp1 (i := 11) rfl) rfl
set_option maxRecDepth 100000 in
theorem w_12 : (Jvm.Cond.initialized "Taskgraphic$Holding") ∈ zW := zW_in (zTp1 (i := 12) rfl) rfl
set_option maxRecDepth 100000 in
theorem w_13 : (Jvm.Cond.initialized "Taskgraphic$Cache") ∈ zW := zW_in (zTp1 (i := 13) rfl) rfl
set_option maxRecDepth 100000 in
theorem w_14 : (Jvm.Cond.initialized "Taskgraphic$Plan") ∈ zW := zW_in (zTp1 (i := 14) rfl) rfl
set_option maxRecDepth 100000 in
theorem w_15 : (Jvm.Cond.initialized "Taskgraphic$Stage") ∈ zW := zW_in (zTp1 (i := 15) rfl) rfl
set_option maxRecDepth 100000 in
theorem w_16 : (Jvm.Cond.initialized "Taskgraphic$Log") ∈ zW := zW_in (zTp1 (i := 16) rfl) rfl
set_option maxRecDepth 100000 in
theorem w_17 : (Jvm.Cond.initialized "Taskgraphic$Crew") ∈ zW := zW_in (zTp1 (i := 17) rfl) rfl
set_option maxRecDepth 100000 in
theorem w_23 : (Jvm.Cond.initialized "java/util/Objects") ∈ zW := zW_in (zTp1 (i := 23) rfl) rfl
set_option maxRecDepth 100000 in
theorem w_24 : (Jvm.Cond.initialized "jdk/internal/util/Preconditions") ∈ zW := zW_in (zTp1 (i := 24) rfl) rfl
set_option maxRecDepth 100000 in
theorem w_25 : (Jvm.Cond.initialized "jdk/internal/util/ArraysSupport") ∈ zW := zW_in (zTp1 (i := 25) rfl) rfl
set_option maxRecDepth 100000 in
theorem w_26 : (Jvm.Cond.initialized "java/util/Arrays") ∈ zW := zW_in (zTp1 (i := 26) rfl) rfl
set_option maxRecDepth 100000 in
theorem w_29 : (Jvm.Cond.initialized "java/lang/Integer") ∈ zW := zW_in (zTp1 (i := 29) rfl) rfl
set_option maxRecDepth 100000 in
theorem w_35 : (Jvm.Cond.methodLink "Taskgraphic" (3 : Nat) ({ cls := "java/lang/Object", name := "<init>", desc := "()V" } : Jvm.MethodName)) ∈ zW := zW_in (zTp1 (i := 35) rfl) rfl
set_option maxRecDepth 100000 in
theorem w_38 : (Jvm.Cond.classLink "Taskgraphic" (13 : Nat) "Taskgraphic$Graph") ∈ zW := zW_in (zTp1 (i := 38) rfl) rfl
set_option maxRecDepth 100000 in
theorem w_39 : (Jvm.Cond.instantiable "Taskgraphic$Graph" (3 : Nat)) ∈ zW := zW_in (zTp1 (i := 39) rfl) rfl
set_option maxRecDepth 100000 in
theorem w_40 : (Jvm.Cond.methodLinkNest "Taskgraphic" (15 : Nat) ({ cls := "Taskgraphic$Graph", name := "<init>", desc := "()V" } : Jvm.MethodName) "Taskgraphic") ∈ zN := List.mem_filter.mpr ⟨zTp1 (i := 40) rfl, rfl⟩
set_option maxRecDepth 100000 in
theorem w_41 : (Jvm.Cond.instanceMethod ({ cls := "Taskgraphic$Graph", name := "<init>", desc := "()V" } : Jvm.MethodName)) ∈ zW := zW_in (zTp1 (i := 41) rfl) rfl
set_option maxRecDepth 100000 in
theorem w_42 : (Jvm.Cond.code ({ cls := "Taskgraphic$Graph", name := "<init>", desc := "()V" } : Jvm.MethodName) prog_4_method_1_code (1 : Nat) (Option.none : Option Jvm.ClassFile.FieldType)) ∈ zW := zW_in (zTp1 (i := 42) rfl) rfl
set_option maxRecDepth 100000 in
theorem w_43 : (Jvm.Cond.methodLink "Taskgraphic$Graph" (3 : Nat) ({ cls := "java/lang/Object", name := "<init>", desc := "()V" } : Jvm.MethodName)) ∈ zW := zW_in (zTp1 (i := 43) rfl) rfl
set_option maxRecDepth 100000 in
theorem w_44 : (Jvm.Cond.classLink "Taskgraphic$Graph" (9 : Nat) "java/util/ArrayList") ∈ zW := zW_in (zTp1 (i := 44) rfl) rfl
set_option maxRecDepth 100000 in
theorem w_45 : (Jvm.Cond.instantiable "java/util/ArrayList" (3 : Nat)) ∈ zW := zW_in (zTp1 (i := 45) rfl) rfl
set_option maxRecDepth 100000 in
theorem w_46 : (Jvm.Cond.methodLink "Taskgraphic$Graph" (11 : Nat) ({ cls := "java/util/ArrayList", name := "<init>", desc := "()V" } : Jvm.MethodName)) ∈ zW := zW_in (zTp1 (i := 46) rfl) rfl
set_option maxRecDepth 100000 in
theorem w_47 : (Jvm.Cond.instanceMethod ({ cls := "java/util/ArrayList", name := "<init>", desc := "()V" } : Jvm.MethodName)) ∈ zW := zW_in (zTp1 (i := 47) rfl) rfl
set_option maxRecDepth 100000 in
theorem w_48 : (Jvm.Cond.code ({ cls := "java/util/ArrayList", name := "<init>", desc := "()V" } : Jvm.MethodName) prog_31_method_2_code (1 : Nat) (Option.none : Option Jvm.ClassFile.FieldType)) ∈ zW := zW_in (zTp1 (i := 48) rfl) rfl
set_option maxRecDepth 100000 in
theorem w_49 : (Jvm.Cond.methodLink "java/util/ArrayList" (1 : Nat) ({ cls := "java/util/AbstractList", name := "<init>", desc := "()V" } : Jvm.MethodName)) ∈ zW := zW_in (zTp1 (i := 49) rfl) rfl
set_option maxRecDepth 100000 in
theorem w_50 : (Jvm.Cond.instanceMethod ({ cls := "java/util/AbstractList", name := "<init>", desc := "()V" } : Jvm.MethodName)) ∈ zW := zW_in (zTp1 (i := 50) rfl) rfl
set_option maxRecDepth 100000 in
theorem w_51 : (Jvm.Cond.code ({ cls := "java/util/AbstractList", name := "<init>", desc := "()V" } : Jvm.MethodName) prog_30_method_1_code (1 : Nat) (Option.none : Option Jvm.ClassFile.FieldType)) ∈ zW := zW_in (zTp1 (i := 51) rfl) rfl
set_option maxRecDepth 100000 in
theorem w_52 : (Jvm.Cond.methodLink "java/util/AbstractList" (1 : Nat) ({ cls := "java/util/AbstractCollection", name := "<init>", desc := "()V" } : Jvm.MethodName)) ∈ zW := zW_in (zTp1 (i := 52) rfl) rfl
set_option maxRecDepth 100000 in
theorem w_53 : (Jvm.Cond.instanceMethod ({ cls := "java/util/AbstractCollection", name := "<init>", desc := "()V" } : Jvm.MethodName)) ∈ zW := zW_in (zTp1 (i := 53) rfl) rfl
set_option maxRecDepth 100000 in
theorem w_54 : (Jvm.Cond.code ({ cls := "java/util/AbstractCollection", name := "<init>", desc := "()V" } : Jvm.MethodName) prog_29_method_1_code (1 : Nat) (Option.none : Option Jvm.ClassFile.FieldType)) ∈ zW := zW_in (zTp1 (i := 54) rfl) rfl
set_option maxRecDepth 100000 in
theorem w_55 : (Jvm.Cond.methodLink "java/util/AbstractCollection" (1 : Nat) ({ cls := "java/lang/Object", name := "<init>", desc := "()V" } : Jvm.MethodName)) ∈ zW := zW_in (zTp1 (i := 55) rfl) rfl
set_option maxRecDepth 100000 in
theorem w_58 : (Jvm.Cond.fieldLink "java/util/ArrayList" (9 : Nat) "java/util/ArrayList" "elementData" "[Ljava/lang/Object;") ∈ zW := zW_in (zTp1 (i := 58) rfl) rfl
set_option maxRecDepth 100000 in
theorem w_59 : (Jvm.Cond.fieldLink "java/util/ArrayList" (48 : Nat) "java/util/ArrayList" "size" "I") ∈ zW := zW_in (zTp1 (i := 59) rfl) rfl
set_option maxRecDepth 100000 in
theorem w_70 : (Jvm.Cond.classLink "Taskgraphic$Graph" (18 : Nat) "Taskgraphic$Node") ∈ zW := zW_in (zTp1 (i := 70) rfl) rfl
set_option maxRecDepth 100000 in
theorem w_71 : (Jvm.Cond.instantiable "Taskgraphic$Node" (15 : Nat)) ∈ zW := zW_in (zTp1 (i := 71) rfl) rfl
set_option maxRecDepth 100000 in
theorem w_72 : (Jvm.Cond.fieldLink "Taskgraphic$Graph" (20 : Nat) "Taskgraphic$Kind" "SOURCE" "LTaskgraphic$Kind;") ∈ zW := zW_in (zTp1 (i := 72) rfl) rfl
set_option maxRecDepth 100000 in
theorem w_74 : (Jvm.Cond.methodLink "Taskgraphic$Graph" (26 : Nat) ({ cls := "Taskgraphic$Node", name := "<init>", desc := "(LTaskgraphic$Kind;IIII)V" } : Jvm.MethodName)) ∈ zW := zW_in (zTp1 (i := 74) rfl) rfl
set_option maxRecDepth 100000 in
theorem w_75 : (Jvm.Cond.instanceMethod ({ cls := "Taskgraphic$Node", name := "<init>", desc := "(LTaskgraphic$Kind;IIII)V" } : Jvm.MethodName)) ∈ zW := zW_in (zTp1 (i := 75) rfl) rfl
set_option maxRecDepth 100000 in
theorem w_76 : (Jvm.Cond.code ({ cls := "Taskgraphic$Node", name := "<init>", desc := "(LTaskgraphic$Kind;IIII)V" } : Jvm.MethodName) prog_9_method_1_code (6 : Nat) (Option.none : Option Jvm.ClassFile.FieldType)) ∈ zW := zW_in (zTp1 (i := 76) rfl) rfl
set_option maxRecDepth 100000 in
theorem w_77 : (Jvm.Cond.methodLink "Taskgraphic$Node" (3 : Nat) ({ cls := "java/lang/Object", name := "<init>", desc := "()V" } : Jvm.MethodName)) ∈ zW := zW_in (zTp1 (i := 77) rfl) rfl
set_option maxRecDepth 100000 in
theorem w_78 : (Jvm.Cond.classLink "Taskgraphic$Node" (28 : Nat) "Taskgraphic$Rows") ∈ zW := zW_in (zTp1 (i := 78) rfl) rfl
set_option maxRecDepth 100000 in
theorem w_79 : (Jvm.Cond.instantiable "Taskgraphic$Rows" (6 : Nat)) ∈ zW := zW_in (zTp1 (i := 79) rfl) rfl
set_option maxRecDepth 100000 in
theorem w_80 : (Jvm.Cond.fieldLink "Taskgraphic$Node" (30 : Nat) "Taskgraphic$Kind" "SOURCE" "LTaskgraphic$Kind;") ∈ zW := zW_in (zTp1 (i := 80) rfl) rfl
set_option maxRecDepth 100000 in
theorem w_81 : (Jvm.Cond.methodLink "Taskgraphic$Node" (35 : Nat) ({ cls := "Taskgraphic$Rows", name := "<init>", desc := "(I)V" } : Jvm.MethodName)) ∈ zW := zW_in (zTp1 (i := 81) rfl) rfl
set_option maxRecDepth 100000 in
theorem w_82 : (Jvm.Cond.instanceMethod ({ cls := "Taskgraphic$Rows", name := "<init>", desc := "(I)V" } : Jvm.MethodName)) ∈ zW := zW_in (zTp1 (i := 82) rfl) rfl
set_option maxRecDepth 100000 in
theorem w_83 : (Jvm.Cond.code ({ cls := "Taskgraphic$Rows", name := "<init>", desc := "(I)V" } : Jvm.MethodName) prog_11_method_1_code (2 : Nat) (Option.none : Option Jvm.ClassFile.FieldType)) ∈ zW := zW_in (zTp1 (i := 83) rfl) rfl
set_option maxRecDepth 100000 in
theorem w_84 : (Jvm.Cond.methodLink "Taskgraphic$Rows" (3 : Nat) ({ cls := "java/lang/Object", name := "<init>", desc := "()V" } : Jvm.MethodName)) ∈ zW := zW_in (zTp1 (i := 84) rfl) rfl
set_option maxRecDepth 100000 in
theorem w_85 : (Jvm.Cond.classLink "Taskgraphic$Rows" (15 : Nat) "Taskgraphic$Ints") ∈ zW := zW_in (zTp1 (i := 85) rfl) rfl
set_option maxRecDepth 100000 in
theorem w_86 : (Jvm.Cond.instantiable "Taskgraphic$Ints" (1 : Nat)) ∈ zW := zW_in (zTp1 (i := 86) rfl) rfl
set_option maxRecDepth 100000 in
theorem w_87 : (Jvm.Cond.methodLink "Taskgraphic$Rows" (17 : Nat) ({ cls := "Taskgraphic$Ints", name := "<init>", desc := "(I)V" } : Jvm.MethodName)) ∈ zW := zW_in (zTp1 (i := 87) rfl) rfl
set_option maxRecDepth 100000 in
theorem w_88 : (Jvm.Cond.instanceMethod ({ cls := "Taskgraphic$Ints", name := "<init>", desc := "(I)V" } : Jvm.MethodName)) ∈ zW := zW_in (zTp1 (i := 88) rfl) rfl
set_option maxRecDepth 100000 in
theorem w_89 : (Jvm.Cond.code ({ cls := "Taskgraphic$Ints", name := "<init>", desc := "(I)V" } : Jvm.MethodName) prog_6_method_1_code (2 : Nat) (Option.none : Option Jvm.ClassFile.FieldType)) ∈ zW := zW_in (zTp1 (i := 89) rfl) rfl
set_option maxRecDepth 100000 in
theorem w_90 : (Jvm.Cond.methodLink "Taskgraphic$Ints" (1 : Nat) ({ cls := "java/lang/Object", name := "<init>", desc := "()V" } : Jvm.MethodName)) ∈ zW := zW_in (zTp1 (i := 90) rfl) rfl
set_option maxRecDepth 100000 in
theorem w_91 : (Jvm.Cond.methodLink "Taskgraphic$Ints" (7 : Nat) ({ cls := "java/lang/Math", name := "max", desc := "(II)I" } : Jvm.MethodName)) ∈ zW := zW_in (zTp1 (i := 91) rfl) rfl
set_option maxRecDepth 100000 in
theorem w_92 : (Jvm.Cond.static ({ cls := "java/lang/Math", name := "max", desc := "(II)I" } : Jvm.MethodName)) ∈ zW := zW_in (zTp1 (i := 92) rfl) rfl
set_option maxRecDepth 100000 in
theorem w_93 : (Jvm.Cond.code ({ cls := "java/lang/Math", name := "max", desc := "(II)I" } : Jvm.MethodName) prog_24_method_65_code (2 : Nat) (Option.some Jvm.ClassFile.FieldType.int)) ∈ zW := zW_in (zTp1 (i := 93) rfl) rfl
set_option maxRecDepth 100000 in
theorem w_94 : (Jvm.Cond.fieldLink "Taskgraphic$Ints" (13 : Nat) "Taskgraphic$Ints" "cells" "[I") ∈ zW := zW_in (zTp1 (i := 94) rfl) rfl
set_option maxRecDepth 100000 in
theorem w_99 : (Jvm.Cond.fieldLink "Taskgraphic$Rows" (9 : Nat) "Taskgraphic$Rows" "most" "I") ∈ zW := zW_in (zTp1 (i := 99) rfl) rfl
set_option maxRecDepth 100000 in
theorem w_100 : (Jvm.Cond.fieldLink "Taskgraphic$Rows" (20 : Nat) "Taskgraphic$Rows" "keys" "LTaskgraphic$Ints;") ∈ zW := zW_in (zTp1 (i := 100) rfl) rfl
set_option maxRecDepth 100000 in
theorem w_101 : (Jvm.Cond.fieldLink "Taskgraphic$Rows" (24 : Nat) "Taskgraphic$Rows" "values" "LTaskgraphic$Ints;") ∈ zW := zW_in (zTp1 (i := 101) rfl) rfl
set_option maxRecDepth 100000 in
theorem w_102 : (Jvm.Cond.fieldLink "Taskgraphic$Rows" (27 : Nat) "Taskgraphic$Rows" "ends" "LTaskgraphic$Ints;") ∈ zW := zW_in (zTp1 (i := 102) rfl) rfl
set_option maxRecDepth 100000 in
theorem w_103 : (Jvm.Cond.fieldLink "Taskgraphic$Rows" (30 : Nat) "Taskgraphic$Rows" "count" "I") ∈ zW := zW_in (zTp1 (i := 103) rfl) rfl
set_option maxRecDepth 100000 in
theorem w_104 : (Jvm.Cond.fieldLink "Taskgraphic$Rows" (33 : Nat) "Taskgraphic$Rows" "parts" "I") ∈ zW := zW_in (zTp1 (i := 104) rfl) rfl
set_option maxRecDepth 100000 in
theorem w_118 : (Jvm.Cond.fieldLink "Taskgraphic$Node" (9 : Nat) "Taskgraphic$Node" "kind" "LTaskgraphic$Kind;") ∈ zW := zW_in (zTp1 (i := 118) rfl) rfl
set_option maxRecDepth 100000 in
theorem w_119 : (Jvm.Cond.fieldLink "Taskgraphic" (103 : Nat) "Taskgraphic$Node" "kind" "LTaskgraphic$Kind;") ∈ zW := zW_in (zTp1 (i := 119) rfl) rfl
set_option maxRecDepth 100000 in
theorem w_120 : (Jvm.Cond.fieldLink "Taskgraphic$Holding" (65 : Nat) "Taskgraphic$Node" "kind" "LTaskgraphic$Kind;") ∈ zW := zW_in (zTp1 (i := 120) rfl) rfl
set_option maxRecDepth 100000 in
theorem w_121 : (Jvm.Cond.fieldLink "Taskgraphic$Plan" (95 : Nat) "Taskgraphic$Node" "kind" "LTaskgraphic$Kind;") ∈ zW := zW_in (zTp1 (i := 121) rfl) rfl
set_option maxRecDepth 100000 in
theorem w_122 : (Jvm.Cond.fieldLink "Taskgraphic$Node" (15 : Nat) "Taskgraphic$Node" "first" "I") ∈ zW := zW_in (zTp1 (i := 122) rfl) rfl
set_option maxRecDepth 100000 in
theorem w_123 : (Jvm.Cond.fieldLink "Taskgraphic$Graph" (45 : Nat) "Taskgraphic$Node" "first" "I") ∈ zW := zW_in (zTp1 (i := 123) rfl) rfl
set_option maxRecDepth 100000 in
theorem w_124 : (Jvm.Cond.fieldLink "Taskgraphic$Holding" (84 : Nat) "Taskgraphic$Node" "first" "I") ∈ zW := zW_in (zTp1 (i := 124) rfl) rfl
set_option maxRecDepth 100000 in
theorem w_125 : (Jvm.Cond.fieldLink "Taskgraphic$Plan" (125 : Nat) "Taskgraphic$Node" "first" "I") ∈ zW := zW_in (zTp1 (i := 125) rfl) rfl
set_option maxRecDepth 100000 in
theorem w_126 : (Jvm.Cond.fieldLink "Taskgraphic$Node" (19 : Nat) "Taskgraphic$Node" "second" "I") ∈ zW := zW_in (zTp1 (i := 126) rfl) rfl
set_option maxRecDepth 100000 in
theorem w_127 : (Jvm.Cond.fieldLink "Taskgraphic$Graph" (55 : Nat) "Taskgraphic$Node" "second" "I") ∈ zW := zW_in (zTp1 (i := 127) rfl) rfl
set_option maxRecDepth 100000 in
theorem w_128 : (Jvm.Cond.fieldLink "Taskgraphic$Holding" (74 : Nat) "Taskgraphic$Node" "second" "I") ∈ zW := zW_in (zTp1 (i := 128) rfl) rfl
set_option maxRecDepth 100000 in
theorem w_129 : (Jvm.Cond.fieldLink "Taskgraphic$Plan" (119 : Nat) "Taskgraphic$Node" "second" "I") ∈ zW := zW_in (zTp1 (i := 129) rfl) rfl
set_option maxRecDepth 100000 in
theorem w_130 : (Jvm.Cond.fieldLink "Taskgraphic$Node" (22 : Nat) "Taskgraphic$Node" "bound" "I") ∈ zW := zW_in (zTp1 (i := 130) rfl) rfl
set_option maxRecDepth 100000 in
theorem w_131 : (Jvm.Cond.fieldLink "Taskgraphic" (159 : Nat) "Taskgraphic$Node" "bound" "I") ∈ zW := zW_in (zTp1 (i := 131) rfl) rfl
set_option maxRecDepth 100000 in
theorem w_132 : (Jvm.Cond.fieldLink "Taskgraphic$Node" (25 : Nat) "Taskgraphic$Node" "width" "I") ∈ zW := zW_in (zTp1 (i := 132) rfl) rfl
set_option maxRecDepth 100000 in
theorem w_133 : (Jvm.Cond.fieldLink "Taskgraphic" (162 : Nat) "Taskgraphic$Node" "width" "I") ∈ zW := zW_in (zTp1 (i := 133) rfl) rfl
set_option maxRecDepth 100000 in
theorem w_134 : (Jvm.Cond.fieldLink "Taskgraphic$Node" (38 : Nat) "Taskgraphic$Node" "told" "LTaskgraphic$Rows;") ∈ zW := zW_in (zTp1 (i := 134) rfl) rfl
set_option maxRecDepth 100000 in
theorem w_135 : (Jvm.Cond.fieldLink "Taskgraphic" (106 : Nat) "Taskgraphic$Node" "told" "LTaskgraphic$Rows;") ∈ zW := zW_in (zTp1 (i := 135) rfl) rfl
set_option maxRecDepth 100000 in
theorem w_136 : (Jvm.Cond.fieldLink "Taskgraphic$Holding" (96 : Nat) "Taskgraphic$Node" "told" "LTaskgraphic$Rows;") ∈ zW := zW_in (zTp1 (i := 136) rfl) rfl
set_option maxRecDepth 100000 in
theorem w_137 : (Jvm.Cond.fieldLink "Taskgraphic$Node" (42 : Nat) "Taskgraphic$Node" "spread" "LTaskgraphic$Rows;") ∈ zW := zW_in (zTp1 (i := 137) rfl) rfl
set_option maxRecDepth 100000 in
theorem w_138 : (Jvm.Cond.fieldLink "Taskgraphic$Holding" (39 : Nat) "Taskgraphic$Node" "spread" "LTaskgraphic$Rows;") ∈ zW := zW_in (zTp1 (i := 138) rfl) rfl
set_option maxRecDepth 100000 in
theorem w_139 : (Jvm.Cond.fieldLink "Taskgraphic$Node" (45 : Nat) "Taskgraphic$Node" "inOnePlace" "LTaskgraphic$Rows;") ∈ zW := zW_in (zTp1 (i := 139) rfl) rfl
set_option maxRecDepth 100000 in
theorem w_140 : (Jvm.Cond.fieldLink "Taskgraphic$Holding" (34 : Nat) "Taskgraphic$Node" "inOnePlace" "LTaskgraphic$Rows;") ∈ zW := zW_in (zTp1 (i := 140) rfl) rfl
set_option maxRecDepth 100000 in
theorem w_141 : (Jvm.Cond.fieldLink "Taskgraphic" (89 : Nat) "Taskgraphic$Node" "toldPartitions" "I") ∈ zW := zW_in (zTp1 (i := 141) rfl) rfl
set_option maxRecDepth 100000 in
theorem w_142 : (Jvm.Cond.fieldLink "Taskgraphic$Holding" (87 : Nat) "Taskgraphic$Node" "toldPartitions" "I") ∈ zW := zW_in (zTp1 (i := 142) rfl) rfl
set_option maxRecDepth 100000 in
theorem w_143 : (Jvm.Cond.fieldLink "Taskgraphic$Plan" (131 : Nat) "Taskgraphic$Node" "toldPartitions" "I") ∈ zW := zW_in (zTp1 (i := 143) rfl) rfl
set_option maxRecDepth 100000 in
theorem w_144 : (Jvm.Cond.fieldLink "Taskgraphic$Node" (48 : Nat) "Taskgraphic$Node" "how" "I") ∈ zW := zW_in (zTp1 (i := 144) rfl) rfl
set_option maxRecDepth 100000 in
theorem w_145 : (Jvm.Cond.fieldLink "Taskgraphic" (144 : Nat) "Taskgraphic$Node" "how" "I") ∈ zW := zW_in (zTp1 (i := 145) rfl) rfl
set_option maxRecDepth 100000 in
theorem w_146 : (Jvm.Cond.fieldLink "Taskgraphic$Node" (51 : Nat) "Taskgraphic$Node" "constant" "I") ∈ zW := zW_in (zTp1 (i := 146) rfl) rfl
set_option maxRecDepth 100000 in
theorem w_147 : (Jvm.Cond.fieldLink "Taskgraphic" (147 : Nat) "Taskgraphic$Node" "constant" "I") ∈ zW := zW_in (zTp1 (i := 147) rfl) rfl
set_option maxRecDepth 100000 in
theorem w_148 : (Jvm.Cond.fieldLink "Taskgraphic" (153 : Nat) "Taskgraphic$Node" "low" "I") ∈ zW := zW_in (zTp1 (i := 148) rfl) rfl
set_option maxRecDepth 100000 in
theorem w_149 : (Jvm.Cond.fieldLink "Taskgraphic$Holding" (176 : Nat) "Taskgraphic$Node" "low" "I") ∈ zW := zW_in (zTp1 (i := 149) rfl) rfl
set_option maxRecDepth 100000 in
theorem w_150 : (Jvm.Cond.fieldLink "Taskgraphic" (156 : Nat) "Taskgraphic$Node" "high" "I") ∈ zW := zW_in (zTp1 (i := 150) rfl) rfl
set_option maxRecDepth 100000 in
theorem w_151 : (Jvm.Cond.fieldLink "Taskgraphic$Holding" (179 : Nat) "Taskgraphic$Node" "high" "I") ∈ zW := zW_in (zTp1 (i := 151) rfl) rfl
set_option maxRecDepth 100000 in
theorem w_152 : (Jvm.Cond.fieldLink "Taskgraphic" (261 : Nat) "Taskgraphic$Node" "marked" "Z") ∈ zW := zW_in (zTp1 (i := 152) rfl) rfl
set_option maxRecDepth 100000 in
theorem w_153 : (Jvm.Cond.fieldLink "Taskgraphic$Graph" (52 : Nat) "Taskgraphic$Node" "lineage" "I") ∈ zW := zW_in (zTp1 (i := 153) rfl) rfl
set_option maxRecDepth 100000 in
theorem w_154 : (Jvm.Cond.fieldLink "Taskgraphic$Holding" (46 : Nat) "Taskgraphic$Node" "lineage" "I") ∈ zW := zW_in (zTp1 (i := 154) rfl) rfl
set_option maxRecDepth 100000 in
theorem w_186 : (Jvm.Cond.fieldLink "Taskgraphic$Graph" (12 : Nat) "Taskgraphic$Graph" "made" "Ljava/util/ArrayList;") ∈ zW := zW_in (zTp1 (i := 186) rfl) rfl
set_option maxRecDepth 100000 in
theorem w_187 : (Jvm.Cond.fieldLink "Taskgraphic$Graph" (29 : Nat) "Taskgraphic$Graph" "none" "LTaskgraphic$Node;") ∈ zW := zW_in (zTp1 (i := 187) rfl) rfl
set_option maxRecDepth 100000 in
theorem w_188 : (Jvm.Cond.fieldLink "Taskgraphic$Graph" (33 : Nat) "Taskgraphic$Graph" "limit" "I") ∈ zW := zW_in (zTp1 (i := 188) rfl) rfl
set_option maxRecDepth 100000 in
theorem w_189 : (Jvm.Cond.fieldLink "Taskgraphic$Holding" (81 : Nat) "Taskgraphic$Graph" "limit" "I") ∈ zW := zW_in (zTp1 (i := 189) rfl) rfl
set_option maxRecDepth 100000 in
theorem w_190 : (Jvm.Cond.fieldLink "Taskgraphic" (249 : Nat) "Taskgraphic$Graph" "limit" "I") ∈ zW := zW_in (zTp1 (i := 190) rfl) rfl
set_option maxRecDepth 100000 in
theorem w_198 : (Jvm.Cond.classLink "Taskgraphic" (20 : Nat) "Taskgraphic$Holding") ∈ zW := zW_in (zTp1 (i := 198) rfl) rfl
set_option maxRecDepth 100000 in
theorem w_199 : (Jvm.Cond.instantiable "Taskgraphic$Holding" (4 : Nat)) ∈ zW := zW_in (zTp1 (i := 199) rfl) rfl
set_option maxRecDepth 100000 in
theorem w_200 : (Jvm.Cond.methodLink "Taskgraphic" (22 : Nat) ({ cls := "Taskgraphic$Holding", name := "<init>", desc := "(LTaskgraphic$Graph;Z)V" } : Jvm.MethodName)) ∈ zW := zW_in (zTp1 (i := 200) rfl) rfl
set_option maxRecDepth 100000 in
theorem w_201 : (Jvm.Cond.instanceMethod ({ cls := "Taskgraphic$Holding", name := "<init>", desc := "(LTaskgraphic$Graph;Z)V" } : Jvm.MethodName)) ∈ zW := zW_in (zTp1 (i := 201) rfl) rfl
set_option maxRecDepth 100000 in
theorem w_202 : (Jvm.Cond.code ({ cls := "Taskgraphic$Holding", name := "<init>", desc := "(LTaskgraphic$Graph;Z)V" } : Jvm.MethodName) prog_5_method_1_code (3 : Nat) (Option.none : Option Jvm.ClassFile.FieldType)) ∈ zW := zW_in (zTp1 (i := 202) rfl) rfl
set_option maxRecDepth 100000 in
theorem w_203 : (Jvm.Cond.methodLink "Taskgraphic$Holding" (3 : Nat) ({ cls := "java/lang/Object", name := "<init>", desc := "()V" } : Jvm.MethodName)) ∈ zW := zW_in (zTp1 (i := 203) rfl) rfl
set_option maxRecDepth 100000 in
theorem w_204 : (Jvm.Cond.classLink "Taskgraphic$Holding" (9 : Nat) "Taskgraphic$Rows") ∈ zW := zW_in (zTp1 (i := 204) rfl) rfl
set_option maxRecDepth 100000 in
theorem w_205 : (Jvm.Cond.methodLink "Taskgraphic$Holding" (11 : Nat) ({ cls := "Taskgraphic$Rows", name := "<init>", desc := "(I)V" } : Jvm.MethodName)) ∈ zW := zW_in (zTp1 (i := 205) rfl) rfl
set_option maxRecDepth 100000 in
theorem w_206 : (Jvm.Cond.fieldLink "Taskgraphic$Holding" (20 : Nat) "Taskgraphic$Holding" "graph" "LTaskgraphic$Graph;") ∈ zW := zW_in (zTp1 (i := 206) rfl) rfl
set_option maxRecDepth 100000 in
theorem w_207 : (Jvm.Cond.fieldLink "Taskgraphic$Holding" (24 : Nat) "Taskgraphic$Holding" "inPlace" "Z") ∈ zW := zW_in (zTp1 (i := 207) rfl) rfl
set_option maxRecDepth 100000 in
theorem w_208 : (Jvm.Cond.fieldLink "Taskgraphic$Holding" (14 : Nat) "Taskgraphic$Holding" "byKey" "LTaskgraphic$Rows;") ∈ zW := zW_in (zTp1 (i := 208) rfl) rfl
set_option maxRecDepth 100000 in
theorem w_209 : (Jvm.Cond.fieldLink "Taskgraphic$Holding" (42 : Nat) "Taskgraphic$Holding" "fresh" "I") ∈ zW := zW_in (zTp1 (i := 209) rfl) rfl
set_option maxRecDepth 100000 in
theorem w_219 : (Jvm.Cond.classLink "Taskgraphic" (32 : Nat) "Taskgraphic$Cache") ∈ zW := zW_in (zTp1 (i := 219) rfl) rfl
set_option maxRecDepth 100000 in
theorem w_220 : (Jvm.Cond.instantiable "Taskgraphic$Cache" (6 : Nat)) ∈ zW := zW_in (zTp1 (i := 220) rfl) rfl
set_option maxRecDepth 100000 in
theorem w_221 : (Jvm.Cond.methodLinkNest "Taskgraphic" (34 : Nat) ({ cls := "Taskgraphic$Cache", name := "<init>", desc := "()V" } : Jvm.MethodName) "Taskgraphic") ∈ zN := List.mem_filter.mpr ⟨zTp1 (i := 221) rfl, rfl⟩
set_option maxRecDepth 100000 in
theorem w_222 : (Jvm.Cond.instanceMethod ({ cls := "Taskgraphic$Cache", name := "<init>", desc := "()V" } : Jvm.MethodName)) ∈ zW := zW_in (zTp1 (i := 222) rfl) rfl
set_option maxRecDepth 100000 in
theorem w_223 : (Jvm.Cond.code ({ cls := "Taskgraphic$Cache", name := "<init>", desc := "()V" } : Jvm.MethodName) prog_2_method_1_code (1 : Nat) (Option.none : Option Jvm.ClassFile.FieldType)) ∈ zW := zW_in (zTp1 (i := 223) rfl) rfl
set_option maxRecDepth 100000 in
theorem w_224 : (Jvm.Cond.methodLink "Taskgraphic$Cache" (3 : Nat) ({ cls := "java/lang/Object", name := "<init>", desc := "()V" } : Jvm.MethodName)) ∈ zW := zW_in (zTp1 (i := 224) rfl) rfl
set_option maxRecDepth 100000 in
theorem w_225 : (Jvm.Cond.classLink "Taskgraphic$Cache" (9 : Nat) "Taskgraphic$Ints") ∈ zW := zW_in (zTp1 (i := 225) rfl) rfl
set_option maxRecDepth 100000 in
theorem w_226 : (Jvm.Cond.methodLink "Taskgraphic$Cache" (11 : Nat) ({ cls := "Taskgraphic$Ints", name := "<init>", desc := "(I)V" } : Jvm.MethodName)) ∈ zW := zW_in (zTp1 (i := 226) rfl) rfl
set_option maxRecDepth 100000 in
theorem w_227 : (Jvm.Cond.fieldLink "Taskgraphic$Cache" (14 : Nat) "Taskgraphic$Cache" "inOrder" "LTaskgraphic$Ints;") ∈ zW := zW_in (zTp1 (i := 227) rfl) rfl
set_option maxRecDepth 100000 in
theorem w_228 : (Jvm.Cond.fieldLink "Taskgraphic$Cache" (20 : Nat) "Taskgraphic$Cache" "sizes" "LTaskgraphic$Ints;") ∈ zW := zW_in (zTp1 (i := 228) rfl) rfl
set_option maxRecDepth 100000 in
theorem w_229 : (Jvm.Cond.fieldLink "Taskgraphic$Cache" (31 : Nat) "Taskgraphic$Cache" "count" "I") ∈ zW := zW_in (zTp1 (i := 229) rfl) rfl
set_option maxRecDepth 100000 in
theorem w_230 : (Jvm.Cond.fieldLink "Taskgraphic$Cache" (23 : Nat) "Taskgraphic$Cache" "members" "I") ∈ zW := zW_in (zTp1 (i := 230) rfl) rfl
set_option maxRecDepth 100000 in
theorem w_231 : (Jvm.Cond.fieldLink "Taskgraphic$Cache" (34 : Nat) "Taskgraphic$Cache" "filled" "I") ∈ zW := zW_in (zTp1 (i := 231) rfl) rfl
set_option maxRecDepth 100000 in
theorem w_232 : (Jvm.Cond.fieldLink "Taskgraphic$Cache" (48 : Nat) "Taskgraphic$Cache" "room" "I") ∈ zW := zW_in (zTp1 (i := 232) rfl) rfl
set_option maxRecDepth 100000 in
theorem w_233 : (Jvm.Cond.fieldLink "Taskgraphic" (255 : Nat) "Taskgraphic$Cache" "room" "I") ∈ zW := zW_in (zTp1 (i := 233) rfl) rfl
set_option maxRecDepth 100000 in
theorem w_247 : (Jvm.Cond.classLink "Taskgraphic" (39 : Nat) "Taskgraphic$Plan") ∈ zW := zW_in (zTp2 (i := 7) rfl) rfl
set_option maxRecDepth 100000 in
theorem w_248 : (Jvm.Cond.instantiable "Taskgraphic$Plan" (7 : Nat)) ∈ zW := zW_in (zTp2 (i := 8) rfl) rfl
set_option maxRecDepth 100000 in
theorem w_249 : (Jvm.Cond.methodLink "Taskgraphic" (41 : Nat) ({ cls := "Taskgraphic$Plan", name := "<init>", desc := "(LTaskgraphic$Graph;LTaskgraphic$Holding;LTaskgraphic$Cache;)V" } : Jvm.MethodName)) ∈ zW := zW_in (zTp2 (i := 9) rfl) rfl
set_option maxRecDepth 100000 in
theorem w_250 : (Jvm.Cond.instanceMethod ({ cls := "Taskgraphic$Plan", name := "<init>", desc := "(LTaskgraphic$Graph;LTaskgraphic$Holding;LTaskgraphic$Cache;)V" } : Jvm.MethodName)) ∈ zW := zW_in (zTp2 (i := 10) rfl) rfl
set_option maxRecDepth 100000 in
theorem w_251 : (Jvm.Cond.code ({ cls := "Taskgraphic$Plan", name := "<init>", desc := "(LTaskgraphic$Graph;LTaskgraphic$Holding;LTaskgraphic$Cache;)V" } : Jvm.MethodName) prog_10_method_1_code (4 : Nat) (Option.none : Option Jvm.ClassFile.FieldType)) ∈ zW := zW_in (zTp2 (i := 11) rfl) rfl
set_option maxRecDepth 100000 in
theorem w_252 : (Jvm.Cond.methodLink "Taskgraphic$Plan" (3 : Nat) ({ cls := "java/lang/Object", name := "<init>", desc := "()V" } : Jvm.MethodName)) ∈ zW := zW_in (zTp2 (i := 12) rfl) rfl
set_option maxRecDepth 100000 in
theorem w_253 : (Jvm.Cond.classLink "Taskgraphic$Plan" (9 : Nat) "Taskgraphic$Ints") ∈ zW := zW_in (zTp2 (i := 13) rfl) rfl
set_option maxRecDepth 100000 in
theorem w_254 : (Jvm.Cond.methodLink "Taskgraphic$Plan" (11 : Nat) ({ cls := "Taskgraphic$Ints", name := "<init>", desc := "(I)V" } : Jvm.MethodName)) ∈ zW := zW_in (zTp2 (i := 14) rfl) rfl
set_option maxRecDepth 100000 in
theorem w_255 : (Jvm.Cond.fieldLink "Taskgraphic$Plan" (20 : Nat) "Taskgraphic$Plan" "graph" "LTaskgraphic$Graph;") ∈ zW := zW_in (zTp2 (i := 15) rfl) rfl
set_option maxRecDepth 100000 in
theorem w_256 : (Jvm.Cond.fieldLink "Taskgraphic$Plan" (24 : Nat) "Taskgraphic$Plan" "holding" "LTaskgraphic$Holding;") ∈ zW := zW_in (zTp2 (i := 16) rfl) rfl
set_option maxRecDepth 100000 in
theorem w_257 : (Jvm.Cond.fieldLink "Taskgraphic$Plan" (28 : Nat) "Taskgraphic$Plan" "cache" "LTaskgraphic$Cache;") ∈ zW := zW_in (zTp2 (i := 17) rfl) rfl
set_option maxRecDepth 100000 in
theorem w_258 : (Jvm.Cond.fieldLink "Taskgraphic$Plan" (14 : Nat) "Taskgraphic$Plan" "reads" "LTaskgraphic$Ints;") ∈ zW := zW_in (zTp2 (i := 18) rfl) rfl
set_option maxRecDepth 100000 in
theorem w_259 : (Jvm.Cond.fieldLink "Taskgraphic$Plan" (32 : Nat) "Taskgraphic$Plan" "outputs" "I") ∈ zW := zW_in (zTp2 (i := 19) rfl) rfl
set_option maxRecDepth 100000 in
theorem w_260 : (Jvm.Cond.fieldLink "Taskgraphic" (281 : Nat) "Taskgraphic$Plan" "outputs" "I") ∈ zW := zW_in (zTp2 (i := 20) rfl) rfl
set_option maxRecDepth 100000 in
theorem w_261 : (Jvm.Cond.fieldLink "Taskgraphic$Plan" (49 : Nat) "Taskgraphic$Plan" "workedOut" "I") ∈ zW := zW_in (zTp2 (i := 21) rfl) rfl
set_option maxRecDepth 100000 in
theorem w_262 : (Jvm.Cond.fieldLink "Taskgraphic" (363 : Nat) "Taskgraphic$Plan" "workedOut" "I") ∈ zW := zW_in (zTp2 (i := 22) rfl) rfl
set_option maxRecDepth 100000 in
theorem w_263 : (Jvm.Cond.fieldLink "Taskgraphic$Plan" (52 : Nat) "Taskgraphic$Plan" "used" "I") ∈ zW := zW_in (zTp2 (i := 23) rfl) rfl
set_option maxRecDepth 100000 in
theorem w_264 : (Jvm.Cond.fieldLink "Taskgraphic" (357 : Nat) "Taskgraphic$Plan" "used" "I") ∈ zW := zW_in (zTp2 (i := 24) rfl) rfl
set_option maxRecDepth 100000 in
theorem w_280 : (Jvm.Cond.classLink "Taskgraphic" (48 : Nat) "Taskgraphic$Stage") ∈ zW := zW_in (zTp2 (i := 40) rfl) rfl
set_option maxRecDepth 100000 in
theorem w_281 : (Jvm.Cond.instantiable "Taskgraphic$Stage" (7 : Nat)) ∈ zW := zW_in (zTp2 (i := 41) rfl) rfl
set_option maxRecDepth 100000 in
theorem w_282 : (Jvm.Cond.methodLinkNest "Taskgraphic" (50 : Nat) ({ cls := "Taskgraphic$Stage", name := "<init>", desc := "()V" } : Jvm.MethodName) "Taskgraphic") ∈ zN := List.mem_filter.mpr ⟨zTp2 (i := 42) rfl, rfl⟩
set_option maxRecDepth 100000 in
theorem w_283 : (Jvm.Cond.instanceMethod ({ cls := "Taskgraphic$Stage", name := "<init>", desc := "()V" } : Jvm.MethodName)) ∈ zW := zW_in (zTp2 (i := 43) rfl) rfl
set_option maxRecDepth 100000 in
theorem w_284 : (Jvm.Cond.code ({ cls := "Taskgraphic$Stage", name := "<init>", desc := "()V" } : Jvm.MethodName) prog_12_method_1_code (1 : Nat) (Option.none : Option Jvm.ClassFile.FieldType)) ∈ zW := zW_in (zTp2 (i := 44) rfl) rfl
set_option maxRecDepth 100000 in
theorem w_285 : (Jvm.Cond.methodLink "Taskgraphic$Stage" (3 : Nat) ({ cls := "java/lang/Object", name := "<init>", desc := "()V" } : Jvm.MethodName)) ∈ zW := zW_in (zTp2 (i := 45) rfl) rfl
set_option maxRecDepth 100000 in
theorem w_286 : (Jvm.Cond.classLink "Taskgraphic$Stage" (9 : Nat) "Taskgraphic$Ints") ∈ zW := zW_in (zTp2 (i := 46) rfl) rfl
set_option maxRecDepth 100000 in
theorem w_287 : (Jvm.Cond.methodLink "Taskgraphic$Stage" (11 : Nat) ({ cls := "Taskgraphic$Ints", name := "<init>", desc := "(I)V" } : Jvm.MethodName)) ∈ zW := zW_in (zTp2 (i := 47) rfl) rfl
set_option maxRecDepth 100000 in
theorem w_288 : (Jvm.Cond.fieldLink "Taskgraphic$Stage" (14 : Nat) "Taskgraphic$Stage" "work" "LTaskgraphic$Ints;") ∈ zW := zW_in (zTp2 (i := 48) rfl) rfl
set_option maxRecDepth 100000 in
theorem w_289 : (Jvm.Cond.fieldLinkNest "Taskgraphic$Crew" (65 : Nat) "Taskgraphic$Stage" "work" "LTaskgraphic$Ints;" "Taskgraphic") ∈ zN := List.mem_filter.mpr ⟨zTp2 (i := 49) rfl, rfl⟩
set_option maxRecDepth 100000 in
theorem w_290 : (Jvm.Cond.fieldLinkNest "Taskgraphic" (354 : Nat) "Taskgraphic$Stage" "work" "LTaskgraphic$Ints;" "Taskgraphic") ∈ zN := List.mem_filter.mpr ⟨zTp2 (i := 50) rfl, rfl⟩
set_option maxRecDepth 100000 in
theorem w_291 : (Jvm.Cond.fieldLink "Taskgraphic$Stage" (20 : Nat) "Taskgraphic$Stage" "ends" "LTaskgraphic$Ints;") ∈ zW := zW_in (zTp2 (i := 51) rfl) rfl
set_option maxRecDepth 100000 in
theorem w_292 : (Jvm.Cond.fieldLinkNest "Taskgraphic$Crew" (83 : Nat) "Taskgraphic$Stage" "ends" "LTaskgraphic$Ints;" "Taskgraphic") ∈ zN := List.mem_filter.mpr ⟨zTp2 (i := 52) rfl, rfl⟩
set_option maxRecDepth 100000 in
theorem w_293 : (Jvm.Cond.fieldLink "Taskgraphic$Stage" (23 : Nat) "Taskgraphic$Stage" "attempts" "LTaskgraphic$Ints;") ∈ zW := zW_in (zTp2 (i := 53) rfl) rfl
set_option maxRecDepth 100000 in
theorem w_294 : (Jvm.Cond.fieldLinkNest "Taskgraphic$Crew" (86 : Nat) "Taskgraphic$Stage" "attempts" "LTaskgraphic$Ints;" "Taskgraphic") ∈ zN := List.mem_filter.mpr ⟨zTp2 (i := 54) rfl, rfl⟩
set_option maxRecDepth 100000 in
theorem w_295 : (Jvm.Cond.fieldLink "Taskgraphic$Stage" (26 : Nat) "Taskgraphic$Stage" "output" "I") ∈ zW := zW_in (zTp2 (i := 55) rfl) rfl
set_option maxRecDepth 100000 in
theorem w_296 : (Jvm.Cond.fieldLink "Taskgraphic$Crew" (68 : Nat) "Taskgraphic$Stage" "output" "I") ∈ zW := zW_in (zTp2 (i := 56) rfl) rfl
set_option maxRecDepth 100000 in
theorem w_297 : (Jvm.Cond.fieldLink "Taskgraphic$Stage" (30 : Nat) "Taskgraphic$Stage" "tasks" "I") ∈ zW := zW_in (zTp2 (i := 57) rfl) rfl
set_option maxRecDepth 100000 in
theorem w_298 : (Jvm.Cond.fieldLink "Taskgraphic$Crew" (41 : Nat) "Taskgraphic$Stage" "tasks" "I") ∈ zW := zW_in (zTp2 (i := 58) rfl) rfl
set_option maxRecDepth 100000 in
theorem w_299 : (Jvm.Cond.fieldLink "Taskgraphic$Stage" (33 : Nat) "Taskgraphic$Stage" "taken" "I") ∈ zW := zW_in (zTp2 (i := 59) rfl) rfl
set_option maxRecDepth 100000 in
theorem w_300 : (Jvm.Cond.fieldLink "Taskgraphic$Crew" (54 : Nat) "Taskgraphic$Stage" "taken" "I") ∈ zW := zW_in (zTp2 (i := 60) rfl) rfl
set_option maxRecDepth 100000 in
theorem w_301 : (Jvm.Cond.fieldLink "Taskgraphic$Stage" (36 : Nat) "Taskgraphic$Stage" "copied" "I") ∈ zW := zW_in (zTp2 (i := 61) rfl) rfl
set_option maxRecDepth 100000 in
theorem w_317 : (Jvm.Cond.classLink "Taskgraphic" (55 : Nat) "Taskgraphic$Log") ∈ zW := zW_in (zTp2 (i := 77) rfl) rfl
set_option maxRecDepth 100000 in
theorem w_318 : (Jvm.Cond.instantiable "Taskgraphic$Log" (10 : Nat)) ∈ zW := zW_in (zTp2 (i := 78) rfl) rfl
set_option maxRecDepth 100000 in
theorem w_319 : (Jvm.Cond.methodLinkNest "Taskgraphic" (57 : Nat) ({ cls := "Taskgraphic$Log", name := "<init>", desc := "()V" } : Jvm.MethodName) "Taskgraphic") ∈ zN := List.mem_filter.mpr ⟨zTp2 (i := 79) rfl, rfl⟩
set_option maxRecDepth 100000 in
theorem w_320 : (Jvm.Cond.instanceMethod ({ cls := "Taskgraphic$Log", name := "<init>", desc := "()V" } : Jvm.MethodName)) ∈ zW := zW_in (zTp2 (i := 80) rfl) rfl
set_option maxRecDepth 100000 in
theorem w_321 : (Jvm.Cond.code ({ cls := "Taskgraphic$Log", name := "<init>", desc := "()V" } : Jvm.MethodName) prog_8_method_1_code (1 : Nat) (Option.none : Option Jvm.ClassFile.FieldType)) ∈ zW := zW_in (zTp2 (i := 81) rfl) rfl
set_option maxRecDepth 100000 in
theorem w_322 : (Jvm.Cond.methodLink "Taskgraphic$Log" (3 : Nat) ({ cls := "java/lang/Object", name := "<init>", desc := "()V" } : Jvm.MethodName)) ∈ zW := zW_in (zTp2 (i := 82) rfl) rfl
set_option maxRecDepth 100000 in
theorem w_323 : (Jvm.Cond.classLink "Taskgraphic$Log" (9 : Nat) "Taskgraphic$Ints") ∈ zW := zW_in (zTp2 (i := 83) rfl) rfl
set_option maxRecDepth 100000 in
theorem w_324 : (Jvm.Cond.methodLink "Taskgraphic$Log" (11 : Nat) ({ cls := "Taskgraphic$Ints", name := "<init>", desc := "(I)V" } : Jvm.MethodName)) ∈ zW := zW_in (zTp2 (i := 84) rfl) rfl
set_option maxRecDepth 100000 in
theorem w_325 : (Jvm.Cond.fieldLink "Taskgraphic$Log" (14 : Nat) "Taskgraphic$Log" "outputs" "LTaskgraphic$Ints;") ∈ zW := zW_in (zTp2 (i := 85) rfl) rfl
set_option maxRecDepth 100000 in
theorem w_326 : (Jvm.Cond.fieldLinkNest "Taskgraphic" (310 : Nat) "Taskgraphic$Log" "outputs" "LTaskgraphic$Ints;" "Taskgraphic") ∈ zN := List.mem_filter.mpr ⟨zTp2 (i := 86) rfl, rfl⟩
set_option maxRecDepth 100000 in
theorem w_327 : (Jvm.Cond.fieldLink "Taskgraphic$Log" (20 : Nat) "Taskgraphic$Log" "parts" "LTaskgraphic$Ints;") ∈ zW := zW_in (zTp2 (i := 87) rfl) rfl
set_option maxRecDepth 100000 in
theorem w_328 : (Jvm.Cond.fieldLinkNest "Taskgraphic" (312 : Nat) "Taskgraphic$Log" "parts" "LTaskgraphic$Ints;" "Taskgraphic") ∈ zN := List.mem_filter.mpr ⟨zTp2 (i := 88) rfl, rfl⟩
set_option maxRecDepth 100000 in
theorem w_329 : (Jvm.Cond.fieldLink "Taskgraphic$Log" (23 : Nat) "Taskgraphic$Log" "workers" "LTaskgraphic$Ints;") ∈ zW := zW_in (zTp2 (i := 89) rfl) rfl
set_option maxRecDepth 100000 in
theorem w_330 : (Jvm.Cond.fieldLinkNest "Taskgraphic$Crew" (93 : Nat) "Taskgraphic$Log" "workers" "LTaskgraphic$Ints;" "Taskgraphic") ∈ zN := List.mem_filter.mpr ⟨zTp2 (i := 90) rfl, rfl⟩
set_option maxRecDepth 100000 in
theorem w_331 : (Jvm.Cond.fieldLinkNest "Taskgraphic" (314 : Nat) "Taskgraphic$Log" "workers" "LTaskgraphic$Ints;" "Taskgraphic") ∈ zN := List.mem_filter.mpr ⟨zTp2 (i := 91) rfl, rfl⟩
set_option maxRecDepth 100000 in
theorem w_332 : (Jvm.Cond.fieldLink "Taskgraphic$Log" (26 : Nat) "Taskgraphic$Log" "starts" "LTaskgraphic$Ints;") ∈ zW := zW_in (zTp2 (i := 92) rfl) rfl
set_option maxRecDepth 100000 in
theorem w_333 : (Jvm.Cond.fieldLinkNest "Taskgraphic" (317 : Nat) "Taskgraphic$Log" "starts" "LTaskgraphic$Ints;" "Taskgraphic") ∈ zN := List.mem_filter.mpr ⟨zTp2 (i := 93) rfl, rfl⟩
set_option maxRecDepth 100000 in
theorem w_334 : (Jvm.Cond.fieldLink "Taskgraphic$Log" (29 : Nat) "Taskgraphic$Log" "ends" "LTaskgraphic$Ints;") ∈ zW := zW_in (zTp2 (i := 94) rfl) rfl
set_option maxRecDepth 100000 in
theorem w_335 : (Jvm.Cond.fieldLinkNest "Taskgraphic$Crew" (89 : Nat) "Taskgraphic$Log" "ends" "LTaskgraphic$Ints;" "Taskgraphic") ∈ zN := List.mem_filter.mpr ⟨zTp2 (i := 95) rfl, rfl⟩
set_option maxRecDepth 100000 in
theorem w_336 : (Jvm.Cond.fieldLinkNest "Taskgraphic" (320 : Nat) "Taskgraphic$Log" "ends" "LTaskgraphic$Ints;" "Taskgraphic") ∈ zN := List.mem_filter.mpr ⟨zTp2 (i := 96) rfl, rfl⟩
set_option maxRecDepth 100000 in
theorem w_337 : (Jvm.Cond.fieldLink "Taskgraphic$Log" (32 : Nat) "Taskgraphic$Log" "copies" "LTaskgraphic$Ints;") ∈ zW := zW_in (zTp2 (i := 97) rfl) rfl
set_option maxRecDepth 100000 in
theorem w_338 : (Jvm.Cond.fieldLinkNest "Taskgraphic" (323 : Nat) "Taskgraphic$Log" "copies" "LTaskgraphic$Ints;" "Taskgraphic") ∈ zN := List.mem_filter.mpr ⟨zTp2 (i := 98) rfl, rfl⟩
set_option maxRecDepth 100000 in
theorem w_339 : (Jvm.Cond.fieldLink "Taskgraphic$Log" (35 : Nat) "Taskgraphic$Log" "count" "I") ∈ zW := zW_in (zTp2 (i := 99) rfl) rfl
set_option maxRecDepth 100000 in
theorem w_340 : (Jvm.Cond.fieldLink "Taskgraphic" (304 : Nat) "Taskgraphic$Log" "count" "I") ∈ zW := zW_in (zTp2 (i := 100) rfl) rfl
set_option maxRecDepth 100000 in
theorem w_341 : (Jvm.Cond.fieldLink "Taskgraphic" (295 : Nat) "Taskgraphic$Log" "ticks" "I") ∈ zW := zW_in (zTp2 (i := 101) rfl) rfl
set_option maxRecDepth 100000 in
theorem w_342 : (Jvm.Cond.fieldLink "Taskgraphic$Log" (39 : Nat) "Taskgraphic$Log" "spilled" "I") ∈ zW := zW_in (zTp2 (i := 102) rfl) rfl
set_option maxRecDepth 100000 in
theorem w_343 : (Jvm.Cond.fieldLink "Taskgraphic" (301 : Nat) "Taskgraphic$Log" "spilled" "I") ∈ zW := zW_in (zTp2 (i := 103) rfl) rfl
set_option maxRecDepth 100000 in
theorem w_344 : (Jvm.Cond.fieldLink "Taskgraphic$Log" (42 : Nat) "Taskgraphic$Log" "crewSize" "I") ∈ zW := zW_in (zTp2 (i := 104) rfl) rfl
set_option maxRecDepth 100000 in
theorem w_345 : (Jvm.Cond.fieldLink "Taskgraphic" (326 : Nat) "Taskgraphic$Log" "crewSize" "I") ∈ zW := zW_in (zTp2 (i := 105) rfl) rfl
set_option maxRecDepth 100000 in
theorem w_367 : (Jvm.Cond.classLink "Taskgraphic" (62 : Nat) "Taskgraphic$Crew") ∈ zW := zW_in (zTp2 (i := 127) rfl) rfl
set_option maxRecDepth 100000 in
theorem w_368 : (Jvm.Cond.instantiable "Taskgraphic$Crew" (4 : Nat)) ∈ zW := zW_in (zTp2 (i := 128) rfl) rfl
set_option maxRecDepth 100000 in
theorem w_369 : (Jvm.Cond.methodLink "Taskgraphic" (64 : Nat) ({ cls := "Taskgraphic$Crew", name := "<init>", desc := "(LTaskgraphic$Log;)V" } : Jvm.MethodName)) ∈ zW := zW_in (zTp2 (i := 129) rfl) rfl
set_option maxRecDepth 100000 in
theorem w_370 : (Jvm.Cond.instanceMethod ({ cls := "Taskgraphic$Crew", name := "<init>", desc := "(LTaskgraphic$Log;)V" } : Jvm.MethodName)) ∈ zW := zW_in (zTp2 (i := 130) rfl) rfl
set_option maxRecDepth 100000 in
theorem w_371 : (Jvm.Cond.code ({ cls := "Taskgraphic$Crew", name := "<init>", desc := "(LTaskgraphic$Log;)V" } : Jvm.MethodName) prog_3_method_1_code (3 : Nat) (Option.none : Option Jvm.ClassFile.FieldType)) ∈ zW := zW_in (zTp2 (i := 131) rfl) rfl
set_option maxRecDepth 100000 in
theorem w_372 : (Jvm.Cond.methodLink "Taskgraphic$Crew" (3 : Nat) ({ cls := "java/lang/Object", name := "<init>", desc := "()V" } : Jvm.MethodName)) ∈ zW := zW_in (zTp2 (i := 132) rfl) rfl
set_option maxRecDepth 100000 in
theorem w_373 : (Jvm.Cond.classLink "Taskgraphic$Crew" (9 : Nat) "Taskgraphic$Ints") ∈ zW := zW_in (zTp2 (i := 133) rfl) rfl
set_option maxRecDepth 100000 in
theorem w_374 : (Jvm.Cond.methodLink "Taskgraphic$Crew" (11 : Nat) ({ cls := "Taskgraphic$Ints", name := "<init>", desc := "(I)V" } : Jvm.MethodName)) ∈ zW := zW_in (zTp2 (i := 134) rfl) rfl
set_option maxRecDepth 100000 in
theorem w_375 : (Jvm.Cond.methodLink "Taskgraphic$Crew" (31 : Nat) ({ cls := "Taskgraphic$Ints", name := "set", desc := "(II)V" } : Jvm.MethodName)) ∈ zW := zW_in (zTp2 (i := 135) rfl) rfl
set_option maxRecDepth 100000 in
theorem w_376 : (Jvm.Cond.instanceMethod ({ cls := "Taskgraphic$Ints", name := "set", desc := "(II)V" } : Jvm.MethodName)) ∈ zW := zW_in (zTp2 (i := 136) rfl) rfl
set_option maxRecDepth 100000 in
theorem w_377 : (Jvm.Cond.selects "Taskgraphic$Ints" ({ cls := "Taskgraphic$Ints", name := "set", desc := "(II)V" } : Jvm.MethodName) ({ cls := "Taskgraphic$Ints", name := "set", desc := "(II)V" } : Jvm.MethodName)) ∈ zW := zW_in (zTp2 (i := 137) rfl) rfl
set_option maxRecDepth 100000 in
theorem w_378 : (Jvm.Cond.code ({ cls := "Taskgraphic$Ints", name := "set", desc := "(II)V" } : Jvm.MethodName) prog_6_method_3_code (3 : Nat) (Option.none : Option Jvm.ClassFile.FieldType)) ∈ zW := zW_in (zTp2 (i := 138) rfl) rfl
set_option maxRecDepth 100000 in
theorem w_379 : (Jvm.Cond.fieldLink "Taskgraphic$Crew" (27 : Nat) "Taskgraphic$Crew" "log" "LTaskgraphic$Log;") ∈ zW := zW_in (zTp2 (i := 139) rfl) rfl
set_option maxRecDepth 100000 in
theorem w_380 : (Jvm.Cond.fieldLink "Taskgraphic$Crew" (14 : Nat) "Taskgraphic$Crew" "slowness" "LTaskgraphic$Ints;") ∈ zW := zW_in (zTp2 (i := 140) rfl) rfl
set_option maxRecDepth 100000 in
theorem w_381 : (Jvm.Cond.fieldLinkNest "Taskgraphic" (235 : Nat) "Taskgraphic$Crew" "slowness" "LTaskgraphic$Ints;" "Taskgraphic") ∈ zN := List.mem_filter.mpr ⟨zTp2 (i := 141) rfl, rfl⟩
set_option maxRecDepth 100000 in
theorem w_382 : (Jvm.Cond.fieldLink "Taskgraphic$Crew" (20 : Nat) "Taskgraphic$Crew" "idleFrom" "LTaskgraphic$Ints;") ∈ zW := zW_in (zTp2 (i := 142) rfl) rfl
set_option maxRecDepth 100000 in
theorem w_383 : (Jvm.Cond.fieldLink "Taskgraphic$Crew" (23 : Nat) "Taskgraphic$Crew" "size" "I") ∈ zW := zW_in (zTp2 (i := 143) rfl) rfl
set_option maxRecDepth 100000 in
theorem w_384 : (Jvm.Cond.fieldLink "Taskgraphic" (226 : Nat) "Taskgraphic$Crew" "size" "I") ∈ zW := zW_in (zTp2 (i := 144) rfl) rfl
set_option maxRecDepth 100000 in
theorem w_394 : (Jvm.Cond.fieldLink "Taskgraphic" (16 : Nat) "Taskgraphic" "graph" "LTaskgraphic$Graph;") ∈ zW := zW_in (zTp2 (i := 154) rfl) rfl
set_option maxRecDepth 100000 in
theorem w_395 : (Jvm.Cond.fieldLink "Taskgraphic" (25 : Nat) "Taskgraphic" "spread" "LTaskgraphic$Holding;") ∈ zW := zW_in (zTp2 (i := 155) rfl) rfl
set_option maxRecDepth 100000 in
theorem w_396 : (Jvm.Cond.fieldLink "Taskgraphic" (29 : Nat) "Taskgraphic" "inOnePlace" "LTaskgraphic$Holding;") ∈ zW := zW_in (zTp2 (i := 156) rfl) rfl
set_option maxRecDepth 100000 in
theorem w_397 : (Jvm.Cond.fieldLink "Taskgraphic" (35 : Nat) "Taskgraphic" "cache" "LTaskgraphic$Cache;") ∈ zW := zW_in (zTp2 (i := 157) rfl) rfl
set_option maxRecDepth 100000 in
theorem w_398 : (Jvm.Cond.fieldLink "Taskgraphic" (44 : Nat) "Taskgraphic" "plan" "LTaskgraphic$Plan;") ∈ zW := zW_in (zTp2 (i := 158) rfl) rfl
set_option maxRecDepth 100000 in
theorem w_399 : (Jvm.Cond.fieldLink "Taskgraphic" (51 : Nat) "Taskgraphic" "stage" "LTaskgraphic$Stage;") ∈ zW := zW_in (zTp2 (i := 159) rfl) rfl
set_option maxRecDepth 100000 in
theorem w_400 : (Jvm.Cond.fieldLink "Taskgraphic" (67 : Nat) "Taskgraphic" "crew" "LTaskgraphic$Crew;") ∈ zW := zW_in (zTp2 (i := 160) rfl) rfl
set_option maxRecDepth 100000 in
theorem w_401 : (Jvm.Cond.fieldLink "Taskgraphic" (58 : Nat) "Taskgraphic" "log" "LTaskgraphic$Log;") ∈ zW := zW_in (zTp2 (i := 161) rfl) rfl
set_option maxRecDepth 100000 in
theorem w_402 : (Jvm.Cond.fieldLink "Taskgraphic" (9 : Nat) "Taskgraphic" "memory" "I") ∈ zW := zW_in (zTp2 (i := 162) rfl) rfl
set_option maxRecDepth 100000 in
theorem w_426 : (Jvm.Cond.methodLink "Taskgraphic" (186 : Nat) ({ cls := "Taskgraphic$Graph", name := "size", desc := "()I" } : Jvm.MethodName)) ∈ zW := zW_in (zTp2 (i := 186) rfl) rfl
set_option maxRecDepth 100000 in
theorem w_427 : (Jvm.Cond.instanceMethod ({ cls := "Taskgraphic$Graph", name := "size", desc := "()I" } : Jvm.MethodName)) ∈ zW := zW_in (zTp2 (i := 187) rfl) rfl
set_option maxRecDepth 100000 in
theorem w_428 : (Jvm.Cond.selects "Taskgraphic$Graph" ({ cls := "Taskgraphic$Graph", name := "size", desc := "()I" } : Jvm.MethodName) ({ cls := "Taskgraphic$Graph", name := "size", desc := "()I" } : Jvm.MethodName)) ∈ zW := zW_in (zTp2 (i := 188) rfl) rfl
set_option maxRecDepth 100000 in
theorem w_429 : (Jvm.Cond.code ({ cls := "Taskgraphic$Graph", name := "size", desc := "()I" } : Jvm.MethodName) prog_4_method_2_code (1 : Nat) (Option.some Jvm.ClassFile.FieldType.int)) ∈ zW := zW_in (zTp2 (i := 189) rfl) rfl
set_option maxRecDepth 100000 in
theorem w_430 : (Jvm.Cond.methodLink "Taskgraphic$Graph" (37 : Nat) ({ cls := "java/util/ArrayList", name := "size", desc := "()I" } : Jvm.MethodName)) ∈ zW := zW_in (zTp2 (i := 190) rfl) rfl
set_option maxRecDepth 100000 in
theorem w_431 : (Jvm.Cond.instanceMethod ({ cls := "java/util/ArrayList", name := "size", desc := "()I" } : Jvm.MethodName)) ∈ zW := zW_in (zTp2 (i := 191) rfl) rfl
set_option maxRecDepth 100000 in
theorem w_432 : (Jvm.Cond.selects "java/util/ArrayList" ({ cls := "java/util/ArrayList", name := "size", desc := "()I" } : Jvm.MethodName) ({ cls := "java/util/ArrayList", name := "size", desc := "()I" } : Jvm.MethodName)) ∈ zW := zW_in (zTp2 (i := 192) rfl) rfl
set_option maxRecDepth 100000 in
theorem w_433 : (Jvm.Cond.code ({ cls := "java/util/ArrayList", name := "size", desc := "()I" } : Jvm.MethodName) prog_31_method_8_code (1 : Nat) (Option.some Jvm.ClassFile.FieldType.int)) ∈ zW := zW_in (zTp2 (i := 193) rfl) rfl
set_option maxRecDepth 100000 in
theorem w_446 : (Jvm.Cond.methodLink "Taskgraphic" (329 : Nat) ({ cls := "Taskgraphic$Log", name := "ticksOfAttempts", desc := "()I" } : Jvm.MethodName)) ∈ zW := zW_in (zTp2 (i := 206) rfl) rfl
set_option maxRecDepth 100000 in
theorem w_447 : (Jvm.Cond.instanceMethod ({ cls := "Taskgraphic$Log", name := "ticksOfAttempts", desc := "()I" } : Jvm.MethodName)) ∈ zW := zW_in (zTp2 (i := 207) rfl) rfl
set_option maxRecDepth 100000 in
theorem w_448 : (Jvm.Cond.selects "Taskgraphic$Log" ({ cls := "Taskgraphic$Log", name := "ticksOfAttempts", desc := "()I" } : Jvm.MethodName) ({ cls := "Taskgraphic$Log", name := "ticksOfAttempts", desc := "()I" } : Jvm.MethodName)) ∈ zW := zW_in (zTp2 (i := 208) rfl) rfl
set_option maxRecDepth 100000 in
theorem w_449 : (Jvm.Cond.code ({ cls := "Taskgraphic$Log", name := "ticksOfAttempts", desc := "()I" } : Jvm.MethodName) prog_8_method_4_code (3 : Nat) (Option.some Jvm.ClassFile.FieldType.int)) ∈ zW := zW_in (zTp2 (i := 209) rfl) rfl
set_option maxRecDepth 100000 in
theorem w_450 : (Jvm.Cond.methodLink "Taskgraphic$Log" (49 : Nat) ({ cls := "Taskgraphic$Ints", name := "at", desc := "(I)I" } : Jvm.MethodName)) ∈ zW := zW_in (zTp2 (i := 210) rfl) rfl
set_option maxRecDepth 100000 in
theorem w_451 : (Jvm.Cond.instanceMethod ({ cls := "Taskgraphic$Ints", name := "at", desc := "(I)I" } : Jvm.MethodName)) ∈ zW := zW_in (zTp2 (i := 211) rfl) rfl
set_option maxRecDepth 100000 in
theorem w_452 : (Jvm.Cond.selects "Taskgraphic$Ints" ({ cls := "Taskgraphic$Ints", name := "at", desc := "(I)I" } : Jvm.MethodName) ({ cls := "Taskgraphic$Ints", name := "at", desc := "(I)I" } : Jvm.MethodName)) ∈ zW := zW_in (zTp2 (i := 212) rfl) rfl
set_option maxRecDepth 100000 in
theorem w_453 : (Jvm.Cond.code ({ cls := "Taskgraphic$Ints", name := "at", desc := "(I)I" } : Jvm.MethodName) prog_6_method_2_code (2 : Nat) (Option.some Jvm.ClassFile.FieldType.int)) ∈ zW := zW_in (zTp2 (i := 213) rfl) rfl
set_option maxRecDepth 100000 in
theorem w_464 : (Jvm.Cond.methodLink "Taskgraphic" (71 : Nat) ({ cls := "Taskgraphic", name := "checkToldPartitions", desc := "(I)V" } : Jvm.MethodName)) ∈ zW := zW_in (zTp2 (i := 224) rfl) rfl
set_option maxRecDepth 100000 in
theorem w_465 : (Jvm.Cond.static ({ cls := "Taskgraphic", name := "checkToldPartitions", desc := "(I)V" } : Jvm.MethodName)) ∈ zW := zW_in (zTp2 (i := 225) rfl) rfl
set_option maxRecDepth 100000 in
theorem w_466 : (Jvm.Cond.code ({ cls := "Taskgraphic", name := "checkToldPartitions", desc := "(I)V" } : Jvm.MethodName) prog_1_method_41_code (1 : Nat) (Option.none : Option Jvm.ClassFile.FieldType)) ∈ zW := zW_in (zTp2 (i := 226) rfl) rfl
set_option maxRecDepth 100000 in
theorem w_535 : (Jvm.Cond.methodLink "Taskgraphic" (75 : Nat) ({ cls := "Taskgraphic", name := "checkAnotherNode", desc := "()V" } : Jvm.MethodName)) ∈ zW := zW_in (zTp3 (i := 55) rfl) rfl
set_option maxRecDepth 100000 in
theorem w_537 : (Jvm.Cond.instanceMethod ({ cls := "Taskgraphic", name := "checkAnotherNode", desc := "()V" } : Jvm.MethodName)) ∈ zW := zW_in (zTp3 (i := 57) rfl) rfl
set_option maxRecDepth 100000 in
theorem w_538 : (Jvm.Cond.code ({ cls := "Taskgraphic", name := "checkAnotherNode", desc := "()V" } : Jvm.MethodName) prog_1_method_39_code (1 : Nat) (Option.none : Option Jvm.ClassFile.FieldType)) ∈ zW := zW_in (zTp3 (i := 58) rfl) rfl
set_option maxRecDepth 100000 in
theorem w_555 : (Jvm.Cond.classLink "Taskgraphic" (78 : Nat) "Taskgraphic$Node") ∈ zW := zW_in (zTp3 (i := 75) rfl) rfl
set_option maxRecDepth 100000 in
theorem w_556 : (Jvm.Cond.fieldLink "Taskgraphic" (80 : Nat) "Taskgraphic$Kind" "SOURCE" "LTaskgraphic$Kind;") ∈ zW := zW_in (zTp3 (i := 76) rfl) rfl
set_option maxRecDepth 100000 in
theorem w_557 : (Jvm.Cond.methodLink "Taskgraphic" (86 : Nat) ({ cls := "Taskgraphic$Node", name := "<init>", desc := "(LTaskgraphic$Kind;IIII)V" } : Jvm.MethodName)) ∈ zW := zW_in (zTp3 (i := 77) rfl) rfl
set_option maxRecDepth 100000 in
theorem w_558 : (Jvm.Cond.methodLink "Taskgraphic" (92 : Nat) ({ cls := "Taskgraphic$Graph", name := "add", desc := "(LTaskgraphic$Node;)I" } : Jvm.MethodName)) ∈ zW := zW_in (zTp3 (i := 78) rfl) rfl
set_option maxRecDepth 100000 in
theorem w_559 : (Jvm.Cond.instanceMethod ({ cls := "Taskgraphic$Graph", name := "add", desc := "(LTaskgraphic$Node;)I" } : Jvm.MethodName)) ∈ zW := zW_in (zTp3 (i := 79) rfl) rfl
set_option maxRecDepth 100000 in
theorem w_560 : (Jvm.Cond.selects "Taskgraphic$Graph" ({ cls := "Taskgraphic$Graph", name := "add", desc := "(LTaskgraphic$Node;)I" } : Jvm.MethodName) ({ cls := "Taskgraphic$Graph", name := "add", desc := "(LTaskgraphic$Node;)I" } : Jvm.MethodName)) ∈ zW := zW_in (zTp3 (i := 80) rfl) rfl
set_option maxRecDepth 100000 in
theorem w_561 : (Jvm.Cond.code ({ cls := "Taskgraphic$Graph", name := "add", desc := "(LTaskgraphic$Node;)I" } : Jvm.MethodName) prog_4_method_4_code (4 : Nat) (Option.some Jvm.ClassFile.FieldType.int)) ∈ zW := zW_in (zTp3 (i := 81) rfl) rfl
set_option maxRecDepth 100000 in
theorem w_562 : (Jvm.Cond.methodLink "Taskgraphic$Graph" (48 : Nat) ({ cls := "Taskgraphic$Graph", name := "at", desc := "(I)LTaskgraphic$Node;" } : Jvm.MethodName)) ∈ zW := zW_in (zTp3 (i := 82) rfl) rfl
set_option maxRecDepth 100000 in
theorem w_563 : (Jvm.Cond.instanceMethod ({ cls := "Taskgraphic$Graph", name := "at", desc := "(I)LTaskgraphic$Node;" } : Jvm.MethodName)) ∈ zW := zW_in (zTp3 (i := 83) rfl) rfl
set_option maxRecDepth 100000 in
theorem w_564 : (Jvm.Cond.selects "Taskgraphic$Graph" ({ cls := "Taskgraphic$Graph", name := "at", desc := "(I)LTaskgraphic$Node;" } : Jvm.MethodName) ({ cls := "Taskgraphic$Graph", name := "at", desc := "(I)LTaskgraphic$Node;" } : Jvm.MethodName)) ∈ zW := zW_in (zTp3 (i := 84) rfl) rfl
set_option maxRecDepth 100000 in
theorem w_565 : (Jvm.Cond.code ({ cls := "Taskgraphic$Graph", name := "at", desc := "(I)LTaskgraphic$Node;" } : Jvm.MethodName) prog_4_method_3_code (2 : Nat) (Option.some (Jvm.ClassFile.FieldType.object "Taskgraphic$Node"))) ∈ zW := zW_in (zTp3 (i := 85) rfl) rfl
set_option maxRecDepth 100000 in
theorem w_566 : (Jvm.Cond.methodLink "Taskgraphic$Graph" (41 : Nat) ({ cls := "java/util/ArrayList", name := "get", desc := "(I)Ljava/lang/Object;" } : Jvm.MethodName)) ∈ zW := zW_in (zTp3 (i := 86) rfl) rfl
set_option maxRecDepth 100000 in
theorem w_567 : (Jvm.Cond.instanceMethod ({ cls := "java/util/ArrayList", name := "get", desc := "(I)Ljava/lang/Object;" } : Jvm.MethodName)) ∈ zW := zW_in (zTp3 (i := 87) rfl) rfl
set_option maxRecDepth 100000 in
theorem w_568 : (Jvm.Cond.selects "java/util/ArrayList" ({ cls := "java/util/ArrayList", name := "get", desc := "(I)Ljava/lang/Object;" } : Jvm.MethodName) ({ cls := "java/util/ArrayList", name := "get", desc := "(I)Ljava/lang/Object;" } : Jvm.MethodName)) ∈ zW := zW_in (zTp3 (i := 88) rfl) rfl
set_option maxRecDepth 100000 in
theorem w_569 : (Jvm.Cond.code ({ cls := "java/util/ArrayList", name := "get", desc := "(I)Ljava/lang/Object;" } : Jvm.MethodName) prog_31_method_20_code (2 : Nat) (Option.some (Jvm.ClassFile.FieldType.object "java/lang/Object"))) ∈ zW := zW_in (zTp3 (i := 89) rfl) rfl
set_option maxRecDepth 100000 in
theorem w_570 : (Jvm.Cond.methodLink "java/util/ArrayList" (118 : Nat) ({ cls := "java/util/Objects", name := "checkIndex", desc := "(II)I" } : Jvm.MethodName)) ∈ zW := zW_in (zTp3 (i := 90) rfl) rfl
set_option maxRecDepth 100000 in
theorem w_571 : (Jvm.Cond.static ({ cls := "java/util/Objects", name := "checkIndex", desc := "(II)I" } : Jvm.MethodName)) ∈ zW := zW_in (zTp3 (i := 91) rfl) rfl
set_option maxRecDepth 100000 in
theorem w_572 : (Jvm.Cond.code ({ cls := "java/util/Objects", name := "checkIndex", desc := "(II)I" } : Jvm.MethodName) prog_35_method_17_code (2 : Nat) (Option.some Jvm.ClassFile.FieldType.int)) ∈ zW := zW_in (zTp3 (i := 92) rfl) rfl
set_option maxRecDepth 100000 in
theorem w_573 : (Jvm.Cond.methodLink "java/util/Objects" (105 : Nat) ({ cls := "jdk/internal/util/Preconditions", name := "checkIndex", desc := "(IILjava/util/function/BiFunction;)I" } : Jvm.MethodName)) ∈ zW := zW_in (zTp3 (i := 93) rfl) rfl
set_option maxRecDepth 100000 in
theorem w_574 : (Jvm.Cond.static ({ cls := "jdk/internal/util/Preconditions", name := "checkIndex", desc := "(IILjava/util/function/BiFunction;)I" } : Jvm.MethodName)) ∈ zW := zW_in (zTp3 (i := 94) rfl) rfl
set_option maxRecDepth 100000 in
theorem w_575 : (Jvm.Cond.code ({ cls := "jdk/internal/util/Preconditions", name := "checkIndex", desc := "(IILjava/util/function/BiFunction;)I" } : Jvm.MethodName) prog_39_method_11_code (3 : Nat) (Option.some Jvm.ClassFile.FieldType.int)) ∈ zW := zW_in (zTp3 (i := 95) rfl) rfl
set_option maxRecDepth 100000 in
theorem w_576 : (Jvm.Cond.methodLink "java/util/ArrayList" (123 : Nat) ({ cls := "java/util/ArrayList", name := "elementData", desc := "(I)Ljava/lang/Object;" } : Jvm.MethodName)) ∈ zW := zW_in (zTp3 (i := 96) rfl) rfl
set_option maxRecDepth 100000 in
theorem w_577 : (Jvm.Cond.instanceMethod ({ cls := "java/util/ArrayList", name := "elementData", desc := "(I)Ljava/lang/Object;" } : Jvm.MethodName)) ∈ zW := zW_in (zTp3 (i := 97) rfl) rfl
set_option maxRecDepth 100000 in
theorem w_578 : (Jvm.Cond.selects "java/util/ArrayList" ({ cls := "java/util/ArrayList", name := "elementData", desc := "(I)Ljava/lang/Object;" } : Jvm.MethodName) ({ cls := "java/util/ArrayList", name := "elementData", desc := "(I)Ljava/lang/Object;" } : Jvm.MethodName)) ∈ zW := zW_in (zTp3 (i := 98) rfl) rfl
set_option maxRecDepth 100000 in
theorem w_579 : (Jvm.Cond.code ({ cls := "java/util/ArrayList", name := "elementData", desc := "(I)Ljava/lang/Object;" } : Jvm.MethodName) prog_31_method_18_code (2 : Nat) (Option.some (Jvm.ClassFile.FieldType.object "java/lang/Object"))) ∈ zW := zW_in (zTp3 (i := 99) rfl) rfl
set_option maxRecDepth 100000 in
theorem w_580 : (Jvm.Cond.methodLinkNest "Taskgraphic$Graph" (58 : Nat) ({ cls := "Taskgraphic", name := "with", desc := "(II)I" } : Jvm.MethodName) "Taskgraphic") ∈ zN := List.mem_filter.mpr ⟨zTp3 (i := 100) rfl, rfl⟩
set_option maxRecDepth 100000 in
theorem w_581 : (Jvm.Cond.static ({ cls := "Taskgraphic", name := "with", desc := "(II)I" } : Jvm.MethodName)) ∈ zW := zW_in (zTp3 (i := 101) rfl) rfl
set_option maxRecDepth 100000 in
theorem w_582 : (Jvm.Cond.code ({ cls := "Taskgraphic", name := "with", desc := "(II)I" } : Jvm.MethodName) prog_1_method_49_code (2 : Nat) (Option.some Jvm.ClassFile.FieldType.int)) ∈ zW := zW_in (zTp3 (i := 102) rfl) rfl
set_option maxRecDepth 100000 in
theorem w_583 : (Jvm.Cond.methodLink "Taskgraphic$Graph" (62 : Nat) ({ cls := "java/util/ArrayList", name := "add", desc := "(Ljava/lang/Object;)Z" } : Jvm.MethodName)) ∈ zW := zW_in (zTp3 (i := 103) rfl) rfl
set_option maxRecDepth 100000 in
theorem w_584 : (Jvm.Cond.instanceMethod ({ cls := "java/util/ArrayList", name := "add", desc := "(Ljava/lang/Object;)Z" } : Jvm.MethodName)) ∈ zW := zW_in (zTp3 (i := 104) rfl) rfl
set_option maxRecDepth 100000 in
theorem w_585 : (Jvm.Cond.selects "java/util/ArrayList" ({ cls := "java/util/ArrayList", name := "add", desc := "(Ljava/lang/Object;)Z" } : Jvm.MethodName) ({ cls := "java/util/ArrayList", name := "add", desc := "(Ljava/lang/Object;)Z" } : Jvm.MethodName)) ∈ zW := zW_in (zTp3 (i := 105) rfl) rfl
set_option maxRecDepth 100000 in
theorem w_586 : (Jvm.Cond.code ({ cls := "java/util/ArrayList", name := "add", desc := "(Ljava/lang/Object;)Z" } : Jvm.MethodName) prog_31_method_25_code (2 : Nat) (Option.some Jvm.ClassFile.FieldType.boolean)) ∈ zW := zW_in (zTp3 (i := 106) rfl) rfl
set_option maxRecDepth 100000 in
theorem w_587 : (Jvm.Cond.methodLink "java/util/ArrayList" (131 : Nat) ({ cls := "java/util/ArrayList", name := "add", desc := "(Ljava/lang/Object;[Ljava/lang/Object;I)V" } : Jvm.MethodName)) ∈ zW := zW_in (zTp3 (i := 107) rfl) rfl
set_option maxRecDepth 100000 in
theorem w_589 : (Jvm.Cond.instanceMethod ({ cls := "java/util/ArrayList", name := "add", desc := "(Ljava/lang/Object;[Ljava/lang/Object;I)V" } : Jvm.MethodName)) ∈ zW := zW_in (zTp3 (i := 109) rfl) rfl
set_option maxRecDepth 100000 in
theorem w_590 : (Jvm.Cond.code ({ cls := "java/util/ArrayList", name := "add", desc := "(Ljava/lang/Object;[Ljava/lang/Object;I)V" } : Jvm.MethodName) prog_31_method_24_code (4 : Nat) (Option.none : Option Jvm.ClassFile.FieldType)) ∈ zW := zW_in (zTp3 (i := 110) rfl) rfl
set_option maxRecDepth 100000 in
theorem w_591 : (Jvm.Cond.methodLink "java/util/ArrayList" (129 : Nat) ({ cls := "java/util/ArrayList", name := "grow", desc := "()[Ljava/lang/Object;" } : Jvm.MethodName)) ∈ zW := zW_in (zTp3 (i := 111) rfl) rfl
set_option maxRecDepth 100000 in
theorem w_593 : (Jvm.Cond.instanceMethod ({ cls := "java/util/ArrayList", name := "grow", desc := "()[Ljava/lang/Object;" } : Jvm.MethodName)) ∈ zW := zW_in (zTp3 (i := 113) rfl) rfl
set_option maxRecDepth 100000 in
theorem w_594 : (Jvm.Cond.code ({ cls := "java/util/ArrayList", name := "grow", desc := "()[Ljava/lang/Object;" } : Jvm.MethodName) prog_31_method_7_code (1 : Nat) (Option.some (Jvm.ClassFile.FieldType.array (Jvm.ClassFile.FieldType.object "java/lang/Object")))) ∈ zW := zW_in (zTp3 (i := 114) rfl) rfl
set_option maxRecDepth 100000 in
theorem w_595 : (Jvm.Cond.methodLink "java/util/ArrayList" (69 : Nat) ({ cls := "java/util/ArrayList", name := "grow", desc := "(I)[Ljava/lang/Object;" } : Jvm.MethodName)) ∈ zW := zW_in (zTp3 (i := 115) rfl) rfl
set_option maxRecDepth 100000 in
theorem w_597 : (Jvm.Cond.instanceMethod ({ cls := "java/util/ArrayList", name := "grow", desc := "(I)[Ljava/lang/Object;" } : Jvm.MethodName)) ∈ zW := zW_in (zTp3 (i := 117) rfl) rfl
set_option maxRecDepth 100000 in
theorem w_598 : (Jvm.Cond.code ({ cls := "java/util/ArrayList", name := "grow", desc := "(I)[Ljava/lang/Object;" } : Jvm.MethodName) prog_31_method_6_code (4 : Nat) (Option.some (Jvm.ClassFile.FieldType.array (Jvm.ClassFile.FieldType.object "java/lang/Object")))) ∈ zW := zW_in (zTp3 (i := 118) rfl) rfl
set_option maxRecDepth 100000 in
theorem w_599 : (Jvm.Cond.methodLink "java/util/ArrayList" (73 : Nat) ({ cls := "jdk/internal/util/ArraysSupport", name := "newLength", desc := "(III)I" } : Jvm.MethodName)) ∈ zW := zW_in (zTp3 (i := 119) rfl) rfl
set_option maxRecDepth 100000 in
theorem w_600 : (Jvm.Cond.static ({ cls := "jdk/internal/util/ArraysSupport", name := "newLength", desc := "(III)I" } : Jvm.MethodName)) ∈ zW := zW_in (zTp3 (i := 120) rfl) rfl
set_option maxRecDepth 100000 in
theorem w_601 : (Jvm.Cond.code ({ cls := "jdk/internal/util/ArraysSupport", name := "newLength", desc := "(III)I" } : Jvm.MethodName) prog_38_method_27_code (4 : Nat) (Option.some Jvm.ClassFile.FieldType.int)) ∈ zW := zW_in (zTp3 (i := 121) rfl) rfl
set_option maxRecDepth 100000 in
theorem w_602 : (Jvm.Cond.methodLink "jdk/internal/util/ArraysSupport" (194 : Nat) ({ cls := "java/lang/Math", name := "max", desc := "(II)I" } : Jvm.MethodName)) ∈ zW := zW_in (zTp3 (i := 122) rfl) rfl
set_option maxRecDepth 100000 in
theorem w_603 : (Jvm.Cond.constant "jdk/internal/util/ArraysSupport" (200 : Nat) (2147483639 : Int32)) ∈ zW := zW_in (zTp3 (i := 123) rfl) rfl
set_option maxRecDepth 100000 in
theorem w_604 : (Jvm.Cond.methodLink "jdk/internal/util/ArraysSupport" (201 : Nat) ({ cls := "jdk/internal/util/ArraysSupport", name := "hugeLength", desc := "(II)I" } : Jvm.MethodName)) ∈ zW := zW_in (zTp3 (i := 124) rfl) rfl
set_option maxRecDepth 100000 in
theorem w_605 : (Jvm.Cond.static ({ cls := "jdk/internal/util/ArraysSupport", name := "hugeLength", desc := "(II)I" } : Jvm.MethodName)) ∈ zW := zW_in (zTp3 (i := 125) rfl) rfl
set_option maxRecDepth 100000 in
theorem w_606 : (Jvm.Cond.code ({ cls := "jdk/internal/util/ArraysSupport", name := "hugeLength", desc := "(II)I" } : Jvm.MethodName) prog_38_method_28_code (3 : Nat) (Option.some Jvm.ClassFile.FieldType.int)) ∈ zW := zW_in (zTp3 (i := 126) rfl) rfl
set_option maxRecDepth 100000 in
theorem w_607 : (Jvm.Cond.methodLink "java/util/ArrayList" (66 : Nat) ({ cls := "java/util/Arrays", name := "copyOf", desc := "([Ljava/lang/Object;I)[Ljava/lang/Object;" } : Jvm.MethodName)) ∈ zW := zW_in (zTp3 (i := 127) rfl) rfl
set_option maxRecDepth 100000 in
theorem w_608 : (Jvm.Cond.static ({ cls := "java/util/Arrays", name := "copyOf", desc := "([Ljava/lang/Object;I)[Ljava/lang/Object;" } : Jvm.MethodName)) ∈ zW := zW_in (zTp3 (i := 128) rfl) rfl
set_option maxRecDepth 100000 in
theorem w_609 : (Jvm.Cond.code ({ cls := "java/util/Arrays", name := "copyOf", desc := "([Ljava/lang/Object;I)[Ljava/lang/Object;" } : Jvm.MethodName) prog_32_method_119_code (2 : Nat) (Option.some (Jvm.ClassFile.FieldType.array (Jvm.ClassFile.FieldType.object "java/lang/Object")))) ∈ zW := zW_in (zTp3 (i := 129) rfl) rfl
set_option maxRecDepth 100000 in
theorem w_630 : (Jvm.Cond.methodLink "java/util/Arrays" (300 : Nat) ({ cls := "java/util/Arrays", name := "copyOf", desc := "([Ljava/lang/Object;ILjava/lang/Class;)[Ljava/lang/Object;" } : Jvm.MethodName)) ∈ zW := zW_in (zTp3 (i := 150) rfl) rfl
set_option maxRecDepth 100000 in
theorem w_631 : (Jvm.Cond.static ({ cls := "java/util/Arrays", name := "copyOf", desc := "([Ljava/lang/Object;ILjava/lang/Class;)[Ljava/lang/Object;" } : Jvm.MethodName)) ∈ zW := zW_in (zTp3 (i := 151) rfl) rfl
set_option maxRecDepth 100000 in
theorem w_632 : (Jvm.Cond.code ({ cls := "java/util/Arrays", name := "copyOf", desc := "([Ljava/lang/Object;ILjava/lang/Class;)[Ljava/lang/Object;" } : Jvm.MethodName) prog_32_method_120_code (4 : Nat) (Option.some (Jvm.ClassFile.FieldType.array (Jvm.ClassFile.FieldType.object "java/lang/Object")))) ∈ zW := zW_in (zTp3 (i := 152) rfl) rfl
set_option maxRecDepth 100000 in
theorem w_636 : (Jvm.Cond.methodLink "java/util/Arrays" (304 : Nat) ({ cls := "java/lang/Math", name := "min", desc := "(II)I" } : Jvm.MethodName)) ∈ zW := zW_in (zTp3 (i := 156) rfl) rfl
set_option maxRecDepth 100000 in
theorem w_637 : (Jvm.Cond.static ({ cls := "java/lang/Math", name := "min", desc := "(II)I" } : Jvm.MethodName)) ∈ zW := zW_in (zTp3 (i := 157) rfl) rfl
set_option maxRecDepth 100000 in
theorem w_638 : (Jvm.Cond.code ({ cls := "java/lang/Math", name := "min", desc := "(II)I" } : Jvm.MethodName) prog_24_method_69_code (2 : Nat) (Option.some Jvm.ClassFile.FieldType.int)) ∈ zW := zW_in (zTp3 (i := 158) rfl) rfl
set_option maxRecDepth 100000 in
theorem w_642 : (Jvm.Cond.methodLink "java/util/ArrayList" (79 : Nat) ({ cls := "java/lang/Math", name := "max", desc := "(II)I" } : Jvm.MethodName)) ∈ zW := zW_in (zTp3 (i := 162) rfl) rfl
set_option maxRecDepth 100000 in
theorem w_648 : (Jvm.Cond.methodLink "Taskgraphic" (96 : Nat) ({ cls := "Taskgraphic", name := "checkNode", desc := "(I)V" } : Jvm.MethodName)) ∈ zW := zW_in (zTp3 (i := 168) rfl) rfl
set_option maxRecDepth 100000 in
theorem w_650 : (Jvm.Cond.instanceMethod ({ cls := "Taskgraphic", name := "checkNode", desc := "(I)V" } : Jvm.MethodName)) ∈ zW := zW_in (zTp3 (i := 170) rfl) rfl
set_option maxRecDepth 100000 in
theorem w_651 : (Jvm.Cond.code ({ cls := "Taskgraphic", name := "checkNode", desc := "(I)V" } : Jvm.MethodName) prog_1_method_38_code (2 : Nat) (Option.none : Option Jvm.ClassFile.FieldType)) ∈ zW := zW_in (zTp3 (i := 171) rfl) rfl
set_option maxRecDepth 100000 in
theorem w_669 : (Jvm.Cond.fieldLink "Taskgraphic" (137 : Nat) "Taskgraphic$Kind" "MAP" "LTaskgraphic$Kind;") ∈ zW := zW_in (zTp3 (i := 189) rfl) rfl
set_option maxRecDepth 100000 in
theorem w_671 : (Jvm.Cond.methodLink "Taskgraphic" (140 : Nat) ({ cls := "Taskgraphic", name := "changeOf", desc := "(LTaskgraphic$Kind;I)LTaskgraphic$Node;" } : Jvm.MethodName)) ∈ zW := zW_in (zTp3 (i := 191) rfl) rfl
set_option maxRecDepth 100000 in
theorem w_673 : (Jvm.Cond.instanceMethod ({ cls := "Taskgraphic", name := "changeOf", desc := "(LTaskgraphic$Kind;I)LTaskgraphic$Node;" } : Jvm.MethodName)) ∈ zW := zW_in (zTp3 (i := 193) rfl) rfl
set_option maxRecDepth 100000 in
theorem w_674 : (Jvm.Cond.code ({ cls := "Taskgraphic", name := "changeOf", desc := "(LTaskgraphic$Kind;I)LTaskgraphic$Node;" } : Jvm.MethodName) prog_1_method_45_code (4 : Nat) (Option.some (Jvm.ClassFile.FieldType.object "Taskgraphic$Node"))) ∈ zW := zW_in (zTp3 (i := 194) rfl) rfl
set_option maxRecDepth 100000 in
theorem w_675 : (Jvm.Cond.methodLink "Taskgraphic" (99 : Nat) ({ cls := "Taskgraphic$Graph", name := "at", desc := "(I)LTaskgraphic$Node;" } : Jvm.MethodName)) ∈ zW := zW_in (zTp3 (i := 195) rfl) rfl
set_option maxRecDepth 100000 in
theorem w_680 : (Jvm.Cond.fieldLink "Taskgraphic" (150 : Nat) "Taskgraphic$Kind" "FILTER" "LTaskgraphic$Kind;") ∈ zW := zW_in (zTp3 (i := 200) rfl) rfl
set_option maxRecDepth 100000 in
theorem w_687 : (Jvm.Cond.fieldLink "Taskgraphic" (167 : Nat) "Taskgraphic$Kind" "UNION" "LTaskgraphic$Kind;") ∈ zW := zW_in (zTp3 (i := 207) rfl) rfl
set_option maxRecDepth 100000 in
theorem w_694 : (Jvm.Cond.fieldLink "Taskgraphic" (172 : Nat) "Taskgraphic$Kind" "GROUP" "LTaskgraphic$Kind;") ∈ zW := zW_in (zTp3 (i := 214) rfl) rfl
set_option maxRecDepth 100000 in
theorem w_701 : (Jvm.Cond.methodLink "Taskgraphic" (177 : Nat) ({ cls := "java/lang/Math", name := "max", desc := "(II)I" } : Jvm.MethodName)) ∈ zW := zW_in (zTp3 (i := 221) rfl) rfl
set_option maxRecDepth 100000 in
theorem w_702 : (Jvm.Cond.fieldLink "Taskgraphic" (183 : Nat) "Taskgraphic$Kind" "JOIN" "LTaskgraphic$Kind;") ∈ zW := zW_in (zTp3 (i := 222) rfl) rfl
set_option maxRecDepth 100000 in
theorem w_708 : (Jvm.Cond.methodLink "Taskgraphic" (110 : Nat) ({ cls := "Taskgraphic$Rows", name := "size", desc := "()I" } : Jvm.MethodName)) ∈ zW := zW_in (zTp3 (i := 228) rfl) rfl
set_option maxRecDepth 100000 in
theorem w_709 : (Jvm.Cond.instanceMethod ({ cls := "Taskgraphic$Rows", name := "size", desc := "()I" } : Jvm.MethodName)) ∈ zW := zW_in (zTp3 (i := 229) rfl) rfl
set_option maxRecDepth 100000 in
theorem w_710 : (Jvm.Cond.selects "Taskgraphic$Rows" ({ cls := "Taskgraphic$Rows", name := "size", desc := "()I" } : Jvm.MethodName) ({ cls := "Taskgraphic$Rows", name := "size", desc := "()I" } : Jvm.MethodName)) ∈ zW := zW_in (zTp3 (i := 230) rfl) rfl
set_option maxRecDepth 100000 in
theorem w_711 : (Jvm.Cond.code ({ cls := "Taskgraphic$Rows", name := "size", desc := "()I" } : Jvm.MethodName) prog_11_method_3_code (1 : Nat) (Option.some Jvm.ClassFile.FieldType.int)) ∈ zW := zW_in (zTp3 (i := 231) rfl) rfl
set_option maxRecDepth 100000 in
theorem w_713 : (Jvm.Cond.methodLink "Taskgraphic" (123 : Nat) ({ cls := "Taskgraphic$Rows", name := "add", desc := "(II)V" } : Jvm.MethodName)) ∈ zW := zW_in (zTp3 (i := 233) rfl) rfl
set_option maxRecDepth 100000 in
theorem w_714 : (Jvm.Cond.instanceMethod ({ cls := "Taskgraphic$Rows", name := "add", desc := "(II)V" } : Jvm.MethodName)) ∈ zW := zW_in (zTp3 (i := 234) rfl) rfl
set_option maxRecDepth 100000 in
theorem w_715 : (Jvm.Cond.selects "Taskgraphic$Rows" ({ cls := "Taskgraphic$Rows", name := "add", desc := "(II)V" } : Jvm.MethodName) ({ cls := "Taskgraphic$Rows", name := "add", desc := "(II)V" } : Jvm.MethodName)) ∈ zW := zW_in (zTp3 (i := 235) rfl) rfl
set_option maxRecDepth 100000 in
theorem w_716 : (Jvm.Cond.code ({ cls := "Taskgraphic$Rows", name := "add", desc := "(II)V" } : Jvm.MethodName) prog_11_method_11_code (3 : Nat) (Option.none : Option Jvm.ClassFile.FieldType)) ∈ zW := zW_in (zTp3 (i := 236) rfl) rfl
set_option maxRecDepth 100000 in
theorem w_717 : (Jvm.Cond.methodLink "Taskgraphic$Rows" (46 : Nat) ({ cls := "Taskgraphic$Ints", name := "set", desc := "(II)V" } : Jvm.MethodName)) ∈ zW := zW_in (zTp3 (i := 237) rfl) rfl
set_option maxRecDepth 100000 in
theorem w_718 : (Jvm.Cond.methodLink "Taskgraphic" (126 : Nat) ({ cls := "Taskgraphic$Holding", name := "forgetAllOf", desc := "(I)V" } : Jvm.MethodName)) ∈ zW := zW_in (zTp3 (i := 238) rfl) rfl
set_option maxRecDepth 100000 in
theorem w_719 : (Jvm.Cond.instanceMethod ({ cls := "Taskgraphic$Holding", name := "forgetAllOf", desc := "(I)V" } : Jvm.MethodName)) ∈ zW := zW_in (zTp3 (i := 239) rfl) rfl
set_option maxRecDepth 100000 in
theorem w_720 : (Jvm.Cond.selects "Taskgraphic$Holding" ({ cls := "Taskgraphic$Holding", name := "forgetAllOf", desc := "(I)V" } : Jvm.MethodName) ({ cls := "Taskgraphic$Holding", name := "forgetAllOf", desc := "(I)V" } : Jvm.MethodName)) ∈ zW := zW_in (zTp4 (i := 0) rfl) rfl
set_option maxRecDepth 100000 in
theorem w_721 : (Jvm.Cond.code ({ cls := "Taskgraphic$Holding", name := "forgetAllOf", desc := "(I)V" } : Jvm.MethodName) prog_5_method_4_code (3 : Nat) (Option.none : Option Jvm.ClassFile.FieldType)) ∈ zW := zW_in (zTp4 (i := 1) rfl) rfl
set_option maxRecDepth 100000 in
theorem w_722 : (Jvm.Cond.methodLink "Taskgraphic$Holding" (28 : Nat) ({ cls := "Taskgraphic$Graph", name := "at", desc := "(I)LTaskgraphic$Node;" } : Jvm.MethodName)) ∈ zW := zW_in (zTp4 (i := 2) rfl) rfl
set_option maxRecDepth 100000 in
theorem w_723 : (Jvm.Cond.methodLinkNest "Taskgraphic$Holding" (49 : Nat) ({ cls := "Taskgraphic", name := "has", desc := "(II)Z" } : Jvm.MethodName) "Taskgraphic") ∈ zN := List.mem_filter.mpr ⟨zTp4 (i := 3) rfl, rfl⟩
set_option maxRecDepth 100000 in
theorem w_724 : (Jvm.Cond.static ({ cls := "Taskgraphic", name := "has", desc := "(II)Z" } : Jvm.MethodName)) ∈ zW := zW_in (zTp4 (i := 4) rfl) rfl
set_option maxRecDepth 100000 in
theorem w_725 : (Jvm.Cond.code ({ cls := "Taskgraphic", name := "has", desc := "(II)Z" } : Jvm.MethodName) prog_1_method_48_code (2 : Nat) (Option.some Jvm.ClassFile.FieldType.boolean)) ∈ zW := zW_in (zTp4 (i := 5) rfl) rfl
set_option maxRecDepth 100000 in
theorem w_726 : (Jvm.Cond.methodLinkNest "Taskgraphic$Holding" (53 : Nat) ({ cls := "Taskgraphic", name := "with", desc := "(II)I" } : Jvm.MethodName) "Taskgraphic") ∈ zN := List.mem_filter.mpr ⟨zTp4 (i := 6) rfl, rfl⟩
set_option maxRecDepth 100000 in
theorem w_727 : (Jvm.Cond.methodLink "Taskgraphic" (129 : Nat) ({ cls := "Taskgraphic$Cache", name := "empty", desc := "()V" } : Jvm.MethodName)) ∈ zW := zW_in (zTp4 (i := 7) rfl) rfl
set_option maxRecDepth 100000 in
theorem w_728 : (Jvm.Cond.instanceMethod ({ cls := "Taskgraphic$Cache", name := "empty", desc := "()V" } : Jvm.MethodName)) ∈ zW := zW_in (zTp4 (i := 8) rfl) rfl
set_option maxRecDepth 100000 in
theorem w_729 : (Jvm.Cond.selects "Taskgraphic$Cache" ({ cls := "Taskgraphic$Cache", name := "empty", desc := "()V" } : Jvm.MethodName) ({ cls := "Taskgraphic$Cache", name := "empty", desc := "()V" } : Jvm.MethodName)) ∈ zW := zW_in (zTp4 (i := 9) rfl) rfl
set_option maxRecDepth 100000 in
theorem w_730 : (Jvm.Cond.code ({ cls := "Taskgraphic$Cache", name := "empty", desc := "()V" } : Jvm.MethodName) prog_2_method_3_code (1 : Nat) (Option.none : Option Jvm.ClassFile.FieldType)) ∈ zW := zW_in (zTp4 (i := 10) rfl) rfl
set_option maxRecDepth 100000 in
theorem w_745 : (Jvm.Cond.methodLink "Taskgraphic" (239 : Nat) ({ cls := "Taskgraphic$Ints", name := "at", desc := "(I)I" } : Jvm.MethodName)) ∈ zW := zW_in (zTp4 (i := 25) rfl) rfl
set_option maxRecDepth 100000 in
theorem w_746 : (Jvm.Cond.methodLink "Taskgraphic" (243 : Nat) ({ cls := "Taskgraphic$Ints", name := "set", desc := "(II)V" } : Jvm.MethodName)) ∈ zW := zW_in (zTp4 (i := 26) rfl) rfl
set_option maxRecDepth 100000 in
theorem w_751 : (Jvm.Cond.methodLink "Taskgraphic" (246 : Nat) ({ cls := "Taskgraphic", name := "checkSetting", desc := "(I)V" } : Jvm.MethodName)) ∈ zW := zW_in (zTp4 (i := 31) rfl) rfl
set_option maxRecDepth 100000 in
theorem w_752 : (Jvm.Cond.static ({ cls := "Taskgraphic", name := "checkSetting", desc := "(I)V" } : Jvm.MethodName)) ∈ zW := zW_in (zTp4 (i := 32) rfl) rfl
set_option maxRecDepth 100000 in
theorem w_753 : (Jvm.Cond.code ({ cls := "Taskgraphic", name := "checkSetting", desc := "(I)V" } : Jvm.MethodName) prog_1_method_42_code (1 : Nat) (Option.none : Option Jvm.ClassFile.FieldType)) ∈ zW := zW_in (zTp4 (i := 33) rfl) rfl
set_option maxRecDepth 100000 in
theorem w_759 : (Jvm.Cond.methodLink "Taskgraphic" (252 : Nat) ({ cls := "Taskgraphic$Holding", name := "forgetAll", desc := "()V" } : Jvm.MethodName)) ∈ zW := zW_in (zTp4 (i := 39) rfl) rfl
set_option maxRecDepth 100000 in
theorem w_760 : (Jvm.Cond.instanceMethod ({ cls := "Taskgraphic$Holding", name := "forgetAll", desc := "()V" } : Jvm.MethodName)) ∈ zW := zW_in (zTp4 (i := 40) rfl) rfl
set_option maxRecDepth 100000 in
theorem w_761 : (Jvm.Cond.selects "Taskgraphic$Holding" ({ cls := "Taskgraphic$Holding", name := "forgetAll", desc := "()V" } : Jvm.MethodName) ({ cls := "Taskgraphic$Holding", name := "forgetAll", desc := "()V" } : Jvm.MethodName)) ∈ zW := zW_in (zTp4 (i := 41) rfl) rfl
set_option maxRecDepth 100000 in
theorem w_762 : (Jvm.Cond.code ({ cls := "Taskgraphic$Holding", name := "forgetAll", desc := "()V" } : Jvm.MethodName) prog_5_method_3_code (1 : Nat) (Option.none : Option Jvm.ClassFile.FieldType)) ∈ zW := zW_in (zTp4 (i := 42) rfl) rfl
set_option maxRecDepth 100000 in
theorem w_767 : (Jvm.Cond.methodLink "Taskgraphic" (258 : Nat) ({ cls := "Taskgraphic$Cache", name := "makeRoomFor", desc := "(I)I" } : Jvm.MethodName)) ∈ zW := zW_in (zTp4 (i := 47) rfl) rfl
set_option maxRecDepth 100000 in
theorem w_768 : (Jvm.Cond.instanceMethod ({ cls := "Taskgraphic$Cache", name := "makeRoomFor", desc := "(I)I" } : Jvm.MethodName)) ∈ zW := zW_in (zTp4 (i := 48) rfl) rfl
set_option maxRecDepth 100000 in
theorem w_769 : (Jvm.Cond.selects "Taskgraphic$Cache" ({ cls := "Taskgraphic$Cache", name := "makeRoomFor", desc := "(I)I" } : Jvm.MethodName) ({ cls := "Taskgraphic$Cache", name := "makeRoomFor", desc := "(I)I" } : Jvm.MethodName)) ∈ zW := zW_in (zTp4 (i := 49) rfl) rfl
set_option maxRecDepth 100000 in
theorem w_770 : (Jvm.Cond.code ({ cls := "Taskgraphic$Cache", name := "makeRoomFor", desc := "(I)I" } : Jvm.MethodName) prog_2_method_6_code (4 : Nat) (Option.some Jvm.ClassFile.FieldType.int)) ∈ zW := zW_in (zTp4 (i := 50) rfl) rfl
set_option maxRecDepth 100000 in
theorem w_771 : (Jvm.Cond.methodLink "Taskgraphic$Cache" (41 : Nat) ({ cls := "Taskgraphic$Cache", name := "remove", desc := "(I)V" } : Jvm.MethodName)) ∈ zW := zW_in (zTp4 (i := 51) rfl) rfl
set_option maxRecDepth 100000 in
theorem w_773 : (Jvm.Cond.instanceMethod ({ cls := "Taskgraphic$Cache", name := "remove", desc := "(I)V" } : Jvm.MethodName)) ∈ zW := zW_in (zTp4 (i := 53) rfl) rfl
set_option maxRecDepth 100000 in
theorem w_774 : (Jvm.Cond.code ({ cls := "Taskgraphic$Cache", name := "remove", desc := "(I)V" } : Jvm.MethodName) prog_2_method_8_code (3 : Nat) (Option.none : Option Jvm.ClassFile.FieldType)) ∈ zW := zW_in (zTp4 (i := 54) rfl) rfl
set_option maxRecDepth 100000 in
theorem w_775 : (Jvm.Cond.methodLink "Taskgraphic$Cache" (37 : Nat) ({ cls := "Taskgraphic$Ints", name := "at", desc := "(I)I" } : Jvm.MethodName)) ∈ zW := zW_in (zTp4 (i := 55) rfl) rfl
set_option maxRecDepth 100000 in
theorem w_776 : (Jvm.Cond.methodLinkNest "Taskgraphic$Cache" (57 : Nat) ({ cls := "Taskgraphic", name := "with", desc := "(II)I" } : Jvm.MethodName) "Taskgraphic") ∈ zN := List.mem_filter.mpr ⟨zTp4 (i := 56) rfl, rfl⟩
set_option maxRecDepth 100000 in
theorem w_777 : (Jvm.Cond.methodLink "Taskgraphic$Cache" (54 : Nat) ({ cls := "Taskgraphic$Ints", name := "set", desc := "(II)V" } : Jvm.MethodName)) ∈ zW := zW_in (zTp4 (i := 57) rfl) rfl
set_option maxRecDepth 100000 in
theorem w_782 : (Jvm.Cond.methodLink "Taskgraphic" (187 : Nat) ({ cls := "Taskgraphic$Holding", name := "freshRows", desc := "(I)LTaskgraphic$Rows;" } : Jvm.MethodName)) ∈ zW := zW_in (zTp4 (i := 62) rfl) rfl
set_option maxRecDepth 100000 in
theorem w_783 : (Jvm.Cond.instanceMethod ({ cls := "Taskgraphic$Holding", name := "freshRows", desc := "(I)LTaskgraphic$Rows;" } : Jvm.MethodName)) ∈ zW := zW_in (zTp4 (i := 63) rfl) rfl
set_option maxRecDepth 100000 in
theorem w_784 : (Jvm.Cond.selects "Taskgraphic$Holding" ({ cls := "Taskgraphic$Holding", name := "freshRows", desc := "(I)LTaskgraphic$Rows;" } : Jvm.MethodName) ({ cls := "Taskgraphic$Holding", name := "freshRows", desc := "(I)LTaskgraphic$Rows;" } : Jvm.MethodName)) ∈ zW := zW_in (zTp4 (i := 64) rfl) rfl
set_option maxRecDepth 100000 in
theorem w_785 : (Jvm.Cond.code ({ cls := "Taskgraphic$Holding", name := "freshRows", desc := "(I)LTaskgraphic$Rows;" } : Jvm.MethodName) prog_5_method_5_code (4 : Nat) (Option.some (Jvm.ClassFile.FieldType.object "Taskgraphic$Rows"))) ∈ zW := zW_in (zTp4 (i := 65) rfl) rfl
set_option maxRecDepth 100000 in
theorem w_786 : (Jvm.Cond.methodLink "Taskgraphic$Holding" (57 : Nat) ({ cls := "Taskgraphic$Holding", name := "of", desc := "(I)LTaskgraphic$Rows;" } : Jvm.MethodName)) ∈ zW := zW_in (zTp4 (i := 66) rfl) rfl
set_option maxRecDepth 100000 in
theorem w_787 : (Jvm.Cond.instanceMethod ({ cls := "Taskgraphic$Holding", name := "of", desc := "(I)LTaskgraphic$Rows;" } : Jvm.MethodName)) ∈ zW := zW_in (zTp4 (i := 67) rfl) rfl
set_option maxRecDepth 100000 in
theorem w_788 : (Jvm.Cond.selects "Taskgraphic$Holding" ({ cls := "Taskgraphic$Holding", name := "of", desc := "(I)LTaskgraphic$Rows;" } : Jvm.MethodName) ({ cls := "Taskgraphic$Holding", name := "of", desc := "(I)LTaskgraphic$Rows;" } : Jvm.MethodName)) ∈ zW := zW_in (zTp4 (i := 68) rfl) rfl
set_option maxRecDepth 100000 in
theorem w_789 : (Jvm.Cond.code ({ cls := "Taskgraphic$Holding", name := "of", desc := "(I)LTaskgraphic$Rows;" } : Jvm.MethodName) prog_5_method_2_code (3 : Nat) (Option.some (Jvm.ClassFile.FieldType.object "Taskgraphic$Rows"))) ∈ zW := zW_in (zTp4 (i := 69) rfl) rfl
set_option maxRecDepth 100000 in
theorem w_790 : (Jvm.Cond.methodLink "Taskgraphic$Holding" (61 : Nat) ({ cls := "Taskgraphic$Holding", name := "fill", desc := "(LTaskgraphic$Node;LTaskgraphic$Rows;)V" } : Jvm.MethodName)) ∈ zW := zW_in (zTp4 (i := 70) rfl) rfl
set_option maxRecDepth 100000 in
theorem w_792 : (Jvm.Cond.instanceMethod ({ cls := "Taskgraphic$Holding", name := "fill", desc := "(LTaskgraphic$Node;LTaskgraphic$Rows;)V" } : Jvm.MethodName)) ∈ zW := zW_in (zTp4 (i := 72) rfl) rfl
set_option maxRecDepth 100000 in
theorem w_793 : (Jvm.Cond.code ({ cls := "Taskgraphic$Holding", name := "fill", desc := "(LTaskgraphic$Node;LTaskgraphic$Rows;)V" } : Jvm.MethodName) prog_5_method_7_code (6 : Nat) (Option.none : Option Jvm.ClassFile.FieldType)) ∈ zW := zW_in (zTp4 (i := 73) rfl) rfl
set_option maxRecDepth 100000 in
theorem w_794 : (Jvm.Cond.methodLink "Taskgraphic$Holding" (90 : Nat) ({ cls := "Taskgraphic$Rows", name := "clear", desc := "()V" } : Jvm.MethodName)) ∈ zW := zW_in (zTp4 (i := 74) rfl) rfl
set_option maxRecDepth 100000 in
theorem w_795 : (Jvm.Cond.instanceMethod ({ cls := "Taskgraphic$Rows", name := "clear", desc := "()V" } : Jvm.MethodName)) ∈ zW := zW_in (zTp4 (i := 75) rfl) rfl
set_option maxRecDepth 100000 in
theorem w_796 : (Jvm.Cond.selects "Taskgraphic$Rows" ({ cls := "Taskgraphic$Rows", name := "clear", desc := "()V" } : Jvm.MethodName) ({ cls := "Taskgraphic$Rows", name := "clear", desc := "()V" } : Jvm.MethodName)) ∈ zW := zW_in (zTp4 (i := 76) rfl) rfl
set_option maxRecDepth 100000 in
theorem w_797 : (Jvm.Cond.code ({ cls := "Taskgraphic$Rows", name := "clear", desc := "()V" } : Jvm.MethodName) prog_11_method_2_code (1 : Nat) (Option.none : Option Jvm.ClassFile.FieldType)) ∈ zW := zW_in (zTp4 (i := 77) rfl) rfl
set_option maxRecDepth 100000 in
theorem w_798 : (Jvm.Cond.fieldLink "Taskgraphic$Holding" (93 : Nat) "Taskgraphic$Kind" "SOURCE" "LTaskgraphic$Kind;") ∈ zW := zW_in (zTp4 (i := 78) rfl) rfl
set_option maxRecDepth 100000 in
theorem w_799 : (Jvm.Cond.methodLink "Taskgraphic$Holding" (99 : Nat) ({ cls := "Taskgraphic$Holding", name := "deal", desc := "(LTaskgraphic$Rows;ILTaskgraphic$Rows;)V" } : Jvm.MethodName)) ∈ zW := zW_in (zTp4 (i := 79) rfl) rfl
set_option maxRecDepth 100000 in
theorem w_801 : (Jvm.Cond.instanceMethod ({ cls := "Taskgraphic$Holding", name := "deal", desc := "(LTaskgraphic$Rows;ILTaskgraphic$Rows;)V" } : Jvm.MethodName)) ∈ zW := zW_in (zTp4 (i := 81) rfl) rfl
set_option maxRecDepth 100000 in
theorem w_802 : (Jvm.Cond.code ({ cls := "Taskgraphic$Holding", name := "deal", desc := "(LTaskgraphic$Rows;ILTaskgraphic$Rows;)V" } : Jvm.MethodName) prog_5_method_8_code (6 : Nat) (Option.none : Option Jvm.ClassFile.FieldType)) ∈ zW := zW_in (zTp4 (i := 82) rfl) rfl
set_option maxRecDepth 100000 in
theorem w_803 : (Jvm.Cond.methodLink "Taskgraphic$Holding" (77 : Nat) ({ cls := "Taskgraphic$Rows", name := "size", desc := "()I" } : Jvm.MethodName)) ∈ zW := zW_in (zTp4 (i := 83) rfl) rfl
set_option maxRecDepth 100000 in
theorem w_804 : (Jvm.Cond.methodLinkNest "Taskgraphic$Holding" (144 : Nat) ({ cls := "Taskgraphic", name := "modulo", desc := "(II)I" } : Jvm.MethodName) "Taskgraphic") ∈ zN := List.mem_filter.mpr ⟨zTp4 (i := 84) rfl, rfl⟩
set_option maxRecDepth 100000 in
theorem w_805 : (Jvm.Cond.static ({ cls := "Taskgraphic", name := "modulo", desc := "(II)I" } : Jvm.MethodName)) ∈ zW := zW_in (zTp4 (i := 85) rfl) rfl
set_option maxRecDepth 100000 in
theorem w_806 : (Jvm.Cond.code ({ cls := "Taskgraphic", name := "modulo", desc := "(II)I" } : Jvm.MethodName) prog_1_method_50_code (2 : Nat) (Option.some Jvm.ClassFile.FieldType.int)) ∈ zW := zW_in (zTp4 (i := 86) rfl) rfl
set_option maxRecDepth 100000 in
theorem w_807 : (Jvm.Cond.methodLink "Taskgraphic" (369 : Nat) ({ cls := "java/lang/Math", name := "floorMod", desc := "(II)I" } : Jvm.MethodName)) ∈ zW := zW_in (zTp4 (i := 87) rfl) rfl
set_option maxRecDepth 100000 in
theorem w_808 : (Jvm.Cond.static ({ cls := "java/lang/Math", name := "floorMod", desc := "(II)I" } : Jvm.MethodName)) ∈ zW := zW_in (zTp4 (i := 88) rfl) rfl
set_option maxRecDepth 100000 in
theorem w_809 : (Jvm.Cond.code ({ cls := "java/lang/Math", name := "floorMod", desc := "(II)I" } : Jvm.MethodName) prog_24_method_50_code (3 : Nat) (Option.some Jvm.ClassFile.FieldType.int)) ∈ zW := zW_in (zTp4 (i := 89) rfl) rfl
set_option maxRecDepth 100000 in
theorem w_810 : (Jvm.Cond.methodLink "Taskgraphic$Holding" (147 : Nat) ({ cls := "Taskgraphic$Rows", name := "key", desc := "(I)I" } : Jvm.MethodName)) ∈ zW := zW_in (zTp4 (i := 90) rfl) rfl
set_option maxRecDepth 100000 in
theorem w_811 : (Jvm.Cond.instanceMethod ({ cls := "Taskgraphic$Rows", name := "key", desc := "(I)I" } : Jvm.MethodName)) ∈ zW := zW_in (zTp4 (i := 91) rfl) rfl
set_option maxRecDepth 100000 in
theorem w_812 : (Jvm.Cond.selects "Taskgraphic$Rows" ({ cls := "Taskgraphic$Rows", name := "key", desc := "(I)I" } : Jvm.MethodName) ({ cls := "Taskgraphic$Rows", name := "key", desc := "(I)I" } : Jvm.MethodName)) ∈ zW := zW_in (zTp4 (i := 92) rfl) rfl
set_option maxRecDepth 100000 in
theorem w_813 : (Jvm.Cond.code ({ cls := "Taskgraphic$Rows", name := "key", desc := "(I)I" } : Jvm.MethodName) prog_11_method_8_code (2 : Nat) (Option.some Jvm.ClassFile.FieldType.int)) ∈ zW := zW_in (zTp4 (i := 93) rfl) rfl
set_option maxRecDepth 100000 in
theorem w_814 : (Jvm.Cond.methodLink "Taskgraphic$Rows" (36 : Nat) ({ cls := "Taskgraphic$Ints", name := "at", desc := "(I)I" } : Jvm.MethodName)) ∈ zW := zW_in (zTp4 (i := 94) rfl) rfl
set_option maxRecDepth 100000 in
theorem w_815 : (Jvm.Cond.methodLink "Taskgraphic$Holding" (151 : Nat) ({ cls := "Taskgraphic$Rows", name := "value", desc := "(I)I" } : Jvm.MethodName)) ∈ zW := zW_in (zTp4 (i := 95) rfl) rfl
set_option maxRecDepth 100000 in
theorem w_816 : (Jvm.Cond.instanceMethod ({ cls := "Taskgraphic$Rows", name := "value", desc := "(I)I" } : Jvm.MethodName)) ∈ zW := zW_in (zTp4 (i := 96) rfl) rfl
set_option maxRecDepth 100000 in
theorem w_817 : (Jvm.Cond.selects "Taskgraphic$Rows" ({ cls := "Taskgraphic$Rows", name := "value", desc := "(I)I" } : Jvm.MethodName) ({ cls := "Taskgraphic$Rows", name := "value", desc := "(I)I" } : Jvm.MethodName)) ∈ zW := zW_in (zTp4 (i := 97) rfl) rfl
set_option maxRecDepth 100000 in
theorem w_818 : (Jvm.Cond.code ({ cls := "Taskgraphic$Rows", name := "value", desc := "(I)I" } : Jvm.MethodName) prog_11_method_9_code (2 : Nat) (Option.some Jvm.ClassFile.FieldType.int)) ∈ zW := zW_in (zTp4 (i := 98) rfl) rfl
set_option maxRecDepth 100000 in
theorem w_819 : (Jvm.Cond.methodLink "Taskgraphic$Holding" (154 : Nat) ({ cls := "Taskgraphic$Rows", name := "add", desc := "(II)V" } : Jvm.MethodName)) ∈ zW := zW_in (zTp4 (i := 99) rfl) rfl
set_option maxRecDepth 100000 in
theorem w_820 : (Jvm.Cond.methodLink "Taskgraphic$Holding" (158 : Nat) ({ cls := "Taskgraphic$Rows", name := "endPartition", desc := "()V" } : Jvm.MethodName)) ∈ zW := zW_in (zTp4 (i := 100) rfl) rfl
set_option maxRecDepth 100000 in
theorem w_821 : (Jvm.Cond.instanceMethod ({ cls := "Taskgraphic$Rows", name := "endPartition", desc := "()V" } : Jvm.MethodName)) ∈ zW := zW_in (zTp4 (i := 101) rfl) rfl
set_option maxRecDepth 100000 in
theorem w_822 : (Jvm.Cond.selects "Taskgraphic$Rows" ({ cls := "Taskgraphic$Rows", name := "endPartition", desc := "()V" } : Jvm.MethodName) ({ cls := "Taskgraphic$Rows", name := "endPartition", desc := "()V" } : Jvm.MethodName)) ∈ zW := zW_in (zTp4 (i := 102) rfl) rfl
set_option maxRecDepth 100000 in
theorem w_823 : (Jvm.Cond.code ({ cls := "Taskgraphic$Rows", name := "endPartition", desc := "()V" } : Jvm.MethodName) prog_11_method_13_code (1 : Nat) (Option.none : Option Jvm.ClassFile.FieldType)) ∈ zW := zW_in (zTp4 (i := 103) rfl) rfl
set_option maxRecDepth 100000 in
theorem w_824 : (Jvm.Cond.fieldLink "Taskgraphic$Holding" (103 : Nat) "Taskgraphic$Kind" "MAP" "LTaskgraphic$Kind;") ∈ zW := zW_in (zTp4 (i := 104) rfl) rfl
set_option maxRecDepth 100000 in
theorem w_825 : (Jvm.Cond.methodLink "Taskgraphic$Holding" (106 : Nat) ({ cls := "Taskgraphic$Holding", name := "change", desc := "(LTaskgraphic$Rows;LTaskgraphic$Node;LTaskgraphic$Rows;)V" } : Jvm.MethodName)) ∈ zW := zW_in (zTp4 (i := 105) rfl) rfl
set_option maxRecDepth 100000 in
theorem w_827 : (Jvm.Cond.instanceMethod ({ cls := "Taskgraphic$Holding", name := "change", desc := "(LTaskgraphic$Rows;LTaskgraphic$Node;LTaskgraphic$Rows;)V" } : Jvm.MethodName)) ∈ zW := zW_in (zTp4 (i := 107) rfl) rfl
set_option maxRecDepth 100000 in
theorem w_828 : (Jvm.Cond.code ({ cls := "Taskgraphic$Holding", name := "change", desc := "(LTaskgraphic$Rows;LTaskgraphic$Node;LTaskgraphic$Rows;)V" } : Jvm.MethodName) prog_5_method_9_code (8 : Nat) (Option.none : Option Jvm.ClassFile.FieldType)) ∈ zW := zW_in (zTp4 (i := 108) rfl) rfl
set_option maxRecDepth 100000 in
theorem w_829 : (Jvm.Cond.methodLink "Taskgraphic$Holding" (161 : Nat) ({ cls := "Taskgraphic$Rows", name := "parts", desc := "()I" } : Jvm.MethodName)) ∈ zW := zW_in (zTp4 (i := 109) rfl) rfl
set_option maxRecDepth 100000 in
theorem w_830 : (Jvm.Cond.instanceMethod ({ cls := "Taskgraphic$Rows", name := "parts", desc := "()I" } : Jvm.MethodName)) ∈ zW := zW_in (zTp4 (i := 110) rfl) rfl
set_option maxRecDepth 100000 in
theorem w_831 : (Jvm.Cond.selects "Taskgraphic$Rows" ({ cls := "Taskgraphic$Rows", name := "parts", desc := "()I" } : Jvm.MethodName) ({ cls := "Taskgraphic$Rows", name := "parts", desc := "()I" } : Jvm.MethodName)) ∈ zW := zW_in (zTp4 (i := 111) rfl) rfl
set_option maxRecDepth 100000 in
theorem w_832 : (Jvm.Cond.code ({ cls := "Taskgraphic$Rows", name := "parts", desc := "()I" } : Jvm.MethodName) prog_11_method_4_code (1 : Nat) (Option.some Jvm.ClassFile.FieldType.int)) ∈ zW := zW_in (zTp4 (i := 112) rfl) rfl
set_option maxRecDepth 100000 in
theorem w_833 : (Jvm.Cond.methodLink "Taskgraphic$Holding" (164 : Nat) ({ cls := "Taskgraphic$Rows", name := "begin", desc := "(I)I" } : Jvm.MethodName)) ∈ zW := zW_in (zTp4 (i := 113) rfl) rfl
set_option maxRecDepth 100000 in
theorem w_834 : (Jvm.Cond.instanceMethod ({ cls := "Taskgraphic$Rows", name := "begin", desc := "(I)I" } : Jvm.MethodName)) ∈ zW := zW_in (zTp4 (i := 114) rfl) rfl
set_option maxRecDepth 100000 in
theorem w_835 : (Jvm.Cond.selects "Taskgraphic$Rows" ({ cls := "Taskgraphic$Rows", name := "begin", desc := "(I)I" } : Jvm.MethodName) ({ cls := "Taskgraphic$Rows", name := "begin", desc := "(I)I" } : Jvm.MethodName)) ∈ zW := zW_in (zTp4 (i := 115) rfl) rfl
set_option maxRecDepth 100000 in
theorem w_836 : (Jvm.Cond.code ({ cls := "Taskgraphic$Rows", name := "begin", desc := "(I)I" } : Jvm.MethodName) prog_11_method_5_code (2 : Nat) (Option.some Jvm.ClassFile.FieldType.int)) ∈ zW := zW_in (zTp4 (i := 116) rfl) rfl
set_option maxRecDepth 100000 in
theorem w_837 : (Jvm.Cond.methodLink "Taskgraphic$Holding" (167 : Nat) ({ cls := "Taskgraphic$Rows", name := "end", desc := "(I)I" } : Jvm.MethodName)) ∈ zW := zW_in (zTp4 (i := 117) rfl) rfl
set_option maxRecDepth 100000 in
theorem w_838 : (Jvm.Cond.instanceMethod ({ cls := "Taskgraphic$Rows", name := "end", desc := "(I)I" } : Jvm.MethodName)) ∈ zW := zW_in (zTp4 (i := 118) rfl) rfl
set_option maxRecDepth 100000 in
theorem w_839 : (Jvm.Cond.selects "Taskgraphic$Rows" ({ cls := "Taskgraphic$Rows", name := "end", desc := "(I)I" } : Jvm.MethodName) ({ cls := "Taskgraphic$Rows", name := "end", desc := "(I)I" } : Jvm.MethodName)) ∈ zW := zW_in (zTp4 (i := 119) rfl) rfl
set_option maxRecDepth 100000 in
theorem w_840 : (Jvm.Cond.code ({ cls := "Taskgraphic$Rows", name := "end", desc := "(I)I" } : Jvm.MethodName) prog_11_method_6_code (2 : Nat) (Option.some Jvm.ClassFile.FieldType.int)) ∈ zW := zW_in (zTp4 (i := 120) rfl) rfl
set_option maxRecDepth 100000 in
theorem w_841 : (Jvm.Cond.methodLink "Taskgraphic$Holding" (170 : Nat) ({ cls := "Taskgraphic$Node", name := "newKey", desc := "(II)I" } : Jvm.MethodName)) ∈ zW := zW_in (zTp4 (i := 121) rfl) rfl
set_option maxRecDepth 100000 in
theorem w_842 : (Jvm.Cond.instanceMethod ({ cls := "Taskgraphic$Node", name := "newKey", desc := "(II)I" } : Jvm.MethodName)) ∈ zW := zW_in (zTp4 (i := 122) rfl) rfl
set_option maxRecDepth 100000 in
theorem w_843 : (Jvm.Cond.selects "Taskgraphic$Node" ({ cls := "Taskgraphic$Node", name := "newKey", desc := "(II)I" } : Jvm.MethodName) ({ cls := "Taskgraphic$Node", name := "newKey", desc := "(II)I" } : Jvm.MethodName)) ∈ zW := zW_in (zTp4 (i := 123) rfl) rfl
set_option maxRecDepth 100000 in
theorem w_844 : (Jvm.Cond.code ({ cls := "Taskgraphic$Node", name := "newKey", desc := "(II)I" } : Jvm.MethodName) prog_9_method_2_code (3 : Nat) (Option.some Jvm.ClassFile.FieldType.int)) ∈ zW := zW_in (zTp4 (i := 124) rfl) rfl
set_option maxRecDepth 100000 in
theorem w_845 : (Jvm.Cond.methodLinkNest "Taskgraphic$Node" (54 : Nat) ({ cls := "Taskgraphic", name := "modulo", desc := "(II)I" } : Jvm.MethodName) "Taskgraphic") ∈ zN := List.mem_filter.mpr ⟨zTp4 (i := 125) rfl, rfl⟩
set_option maxRecDepth 100000 in
theorem w_846 : (Jvm.Cond.methodLink "Taskgraphic$Holding" (173 : Nat) ({ cls := "Taskgraphic$Node", name := "newValue", desc := "(II)I" } : Jvm.MethodName)) ∈ zW := zW_in (zTp4 (i := 126) rfl) rfl
set_option maxRecDepth 100000 in
theorem w_847 : (Jvm.Cond.instanceMethod ({ cls := "Taskgraphic$Node", name := "newValue", desc := "(II)I" } : Jvm.MethodName)) ∈ zW := zW_in (zTp4 (i := 127) rfl) rfl
set_option maxRecDepth 100000 in
theorem w_848 : (Jvm.Cond.selects "Taskgraphic$Node" ({ cls := "Taskgraphic$Node", name := "newValue", desc := "(II)I" } : Jvm.MethodName) ({ cls := "Taskgraphic$Node", name := "newValue", desc := "(II)I" } : Jvm.MethodName)) ∈ zW := zW_in (zTp4 (i := 128) rfl) rfl
set_option maxRecDepth 100000 in
theorem w_849 : (Jvm.Cond.code ({ cls := "Taskgraphic$Node", name := "newValue", desc := "(II)I" } : Jvm.MethodName) prog_9_method_3_code (3 : Nat) (Option.some Jvm.ClassFile.FieldType.int)) ∈ zW := zW_in (zTp4 (i := 129) rfl) rfl
set_option maxRecDepth 100000 in
theorem w_850 : (Jvm.Cond.fieldLink "Taskgraphic$Holding" (110 : Nat) "Taskgraphic$Kind" "FILTER" "LTaskgraphic$Kind;") ∈ zW := zW_in (zTp4 (i := 130) rfl) rfl
set_option maxRecDepth 100000 in
theorem w_851 : (Jvm.Cond.methodLink "Taskgraphic$Holding" (113 : Nat) ({ cls := "Taskgraphic$Holding", name := "sift", desc := "(LTaskgraphic$Rows;LTaskgraphic$Node;LTaskgraphic$Rows;)V" } : Jvm.MethodName)) ∈ zW := zW_in (zTp4 (i := 131) rfl) rfl
set_option maxRecDepth 100000 in
theorem w_853 : (Jvm.Cond.instanceMethod ({ cls := "Taskgraphic$Holding", name := "sift", desc := "(LTaskgraphic$Rows;LTaskgraphic$Node;LTaskgraphic$Rows;)V" } : Jvm.MethodName)) ∈ zW := zW_in (zTp4 (i := 133) rfl) rfl
set_option maxRecDepth 100000 in
theorem w_854 : (Jvm.Cond.code ({ cls := "Taskgraphic$Holding", name := "sift", desc := "(LTaskgraphic$Rows;LTaskgraphic$Node;LTaskgraphic$Rows;)V" } : Jvm.MethodName) prog_5_method_10_code (7 : Nat) (Option.none : Option Jvm.ClassFile.FieldType)) ∈ zW := zW_in (zTp4 (i := 134) rfl) rfl
set_option maxRecDepth 100000 in
theorem w_855 : (Jvm.Cond.fieldLink "Taskgraphic$Holding" (116 : Nat) "Taskgraphic$Kind" "UNION" "LTaskgraphic$Kind;") ∈ zW := zW_in (zTp4 (i := 135) rfl) rfl
set_option maxRecDepth 100000 in
theorem w_856 : (Jvm.Cond.methodLink "Taskgraphic$Holding" (119 : Nat) ({ cls := "Taskgraphic$Holding", name := "unite", desc := "(LTaskgraphic$Rows;LTaskgraphic$Rows;LTaskgraphic$Rows;)V" } : Jvm.MethodName)) ∈ zW := zW_in (zTp4 (i := 136) rfl) rfl
set_option maxRecDepth 100000 in
theorem w_858 : (Jvm.Cond.instanceMethod ({ cls := "Taskgraphic$Holding", name := "unite", desc := "(LTaskgraphic$Rows;LTaskgraphic$Rows;LTaskgraphic$Rows;)V" } : Jvm.MethodName)) ∈ zW := zW_in (zTp4 (i := 138) rfl) rfl
set_option maxRecDepth 100000 in
theorem w_859 : (Jvm.Cond.code ({ cls := "Taskgraphic$Holding", name := "unite", desc := "(LTaskgraphic$Rows;LTaskgraphic$Rows;LTaskgraphic$Rows;)V" } : Jvm.MethodName) prog_5_method_11_code (4 : Nat) (Option.none : Option Jvm.ClassFile.FieldType)) ∈ zW := zW_in (zTp4 (i := 139) rfl) rfl
set_option maxRecDepth 100000 in
theorem w_860 : (Jvm.Cond.methodLink "Taskgraphic$Holding" (182 : Nat) ({ cls := "Taskgraphic$Holding", name := "append", desc := "(LTaskgraphic$Rows;LTaskgraphic$Rows;)V" } : Jvm.MethodName)) ∈ zW := zW_in (zTp4 (i := 140) rfl) rfl
set_option maxRecDepth 100000 in
theorem w_862 : (Jvm.Cond.instanceMethod ({ cls := "Taskgraphic$Holding", name := "append", desc := "(LTaskgraphic$Rows;LTaskgraphic$Rows;)V" } : Jvm.MethodName)) ∈ zW := zW_in (zTp4 (i := 142) rfl) rfl
set_option maxRecDepth 100000 in
theorem w_863 : (Jvm.Cond.code ({ cls := "Taskgraphic$Holding", name := "append", desc := "(LTaskgraphic$Rows;LTaskgraphic$Rows;)V" } : Jvm.MethodName) prog_5_method_12_code (5 : Nat) (Option.none : Option Jvm.ClassFile.FieldType)) ∈ zW := zW_in (zTp4 (i := 143) rfl) rfl
set_option maxRecDepth 100000 in
theorem w_864 : (Jvm.Cond.fieldLink "Taskgraphic$Holding" (123 : Nat) "Taskgraphic$Kind" "GROUP" "LTaskgraphic$Kind;") ∈ zW := zW_in (zTp4 (i := 144) rfl) rfl
set_option maxRecDepth 100000 in
theorem w_865 : (Jvm.Cond.methodLink "Taskgraphic$Holding" (126 : Nat) ({ cls := "Taskgraphic$Holding", name := "groupByKey", desc := "(LTaskgraphic$Rows;LTaskgraphic$Node;)V" } : Jvm.MethodName)) ∈ zW := zW_in (zTp4 (i := 145) rfl) rfl
set_option maxRecDepth 100000 in
theorem w_867 : (Jvm.Cond.instanceMethod ({ cls := "Taskgraphic$Holding", name := "groupByKey", desc := "(LTaskgraphic$Rows;LTaskgraphic$Node;)V" } : Jvm.MethodName)) ∈ zW := zW_in (zTp4 (i := 147) rfl) rfl
set_option maxRecDepth 100000 in
theorem w_868 : (Jvm.Cond.code ({ cls := "Taskgraphic$Holding", name := "groupByKey", desc := "(LTaskgraphic$Rows;LTaskgraphic$Node;)V" } : Jvm.MethodName) prog_5_method_13_code (8 : Nat) (Option.none : Option Jvm.ClassFile.FieldType)) ∈ zW := zW_in (zTp4 (i := 148) rfl) rfl
set_option maxRecDepth 100000 in
theorem w_869 : (Jvm.Cond.methodLink "Taskgraphic$Holding" (186 : Nat) ({ cls := "Taskgraphic$Rows", name := "placeBehind", desc := "(I)I" } : Jvm.MethodName)) ∈ zW := zW_in (zTp4 (i := 149) rfl) rfl
set_option maxRecDepth 100000 in
theorem w_870 : (Jvm.Cond.instanceMethod ({ cls := "Taskgraphic$Rows", name := "placeBehind", desc := "(I)I" } : Jvm.MethodName)) ∈ zW := zW_in (zTp4 (i := 150) rfl) rfl
set_option maxRecDepth 100000 in
theorem w_871 : (Jvm.Cond.selects "Taskgraphic$Rows" ({ cls := "Taskgraphic$Rows", name := "placeBehind", desc := "(I)I" } : Jvm.MethodName) ({ cls := "Taskgraphic$Rows", name := "placeBehind", desc := "(I)I" } : Jvm.MethodName)) ∈ zW := zW_in (zTp4 (i := 151) rfl) rfl
set_option maxRecDepth 100000 in
theorem w_872 : (Jvm.Cond.code ({ cls := "Taskgraphic$Rows", name := "placeBehind", desc := "(I)I" } : Jvm.MethodName) prog_11_method_15_code (6 : Nat) (Option.some Jvm.ClassFile.FieldType.int)) ∈ zW := zW_in (zTp4 (i := 152) rfl) rfl
set_option maxRecDepth 100000 in
theorem w_873 : (Jvm.Cond.methodLink "Taskgraphic$Holding" (189 : Nat) ({ cls := "Taskgraphic$Rows", name := "hasKey", desc := "(II)Z" } : Jvm.MethodName)) ∈ zW := zW_in (zTp4 (i := 153) rfl) rfl
set_option maxRecDepth 100000 in
theorem w_874 : (Jvm.Cond.instanceMethod ({ cls := "Taskgraphic$Rows", name := "hasKey", desc := "(II)Z" } : Jvm.MethodName)) ∈ zW := zW_in (zTp4 (i := 154) rfl) rfl
set_option maxRecDepth 100000 in
theorem w_875 : (Jvm.Cond.selects "Taskgraphic$Rows" ({ cls := "Taskgraphic$Rows", name := "hasKey", desc := "(II)Z" } : Jvm.MethodName) ({ cls := "Taskgraphic$Rows", name := "hasKey", desc := "(II)Z" } : Jvm.MethodName)) ∈ zW := zW_in (zTp4 (i := 155) rfl) rfl
set_option maxRecDepth 100000 in
theorem w_876 : (Jvm.Cond.code ({ cls := "Taskgraphic$Rows", name := "hasKey", desc := "(II)Z" } : Jvm.MethodName) prog_11_method_14_code (3 : Nat) (Option.some Jvm.ClassFile.FieldType.boolean)) ∈ zW := zW_in (zTp4 (i := 156) rfl) rfl
set_option maxRecDepth 100000 in
theorem w_877 : (Jvm.Cond.methodLink "Taskgraphic$Holding" (192 : Nat) ({ cls := "Taskgraphic$Node", name := "nextOfGroup", desc := "(II)I" } : Jvm.MethodName)) ∈ zW := zW_in (zTp4 (i := 157) rfl) rfl
set_option maxRecDepth 100000 in
theorem w_878 : (Jvm.Cond.instanceMethod ({ cls := "Taskgraphic$Node", name := "nextOfGroup", desc := "(II)I" } : Jvm.MethodName)) ∈ zW := zW_in (zTp4 (i := 158) rfl) rfl
set_option maxRecDepth 100000 in
theorem w_879 : (Jvm.Cond.selects "Taskgraphic$Node" ({ cls := "Taskgraphic$Node", name := "nextOfGroup", desc := "(II)I" } : Jvm.MethodName) ({ cls := "Taskgraphic$Node", name := "nextOfGroup", desc := "(II)I" } : Jvm.MethodName)) ∈ zW := zW_in (zTp4 (i := 159) rfl) rfl
set_option maxRecDepth 100000 in
theorem w_880 : (Jvm.Cond.code ({ cls := "Taskgraphic$Node", name := "nextOfGroup", desc := "(II)I" } : Jvm.MethodName) prog_9_method_5_code (3 : Nat) (Option.some Jvm.ClassFile.FieldType.int)) ∈ zW := zW_in (zTp4 (i := 160) rfl) rfl
set_option maxRecDepth 100000 in
theorem w_881 : (Jvm.Cond.methodLink "Taskgraphic$Node" (58 : Nat) ({ cls := "java/lang/Math", name := "min", desc := "(II)I" } : Jvm.MethodName)) ∈ zW := zW_in (zTp4 (i := 161) rfl) rfl
set_option maxRecDepth 100000 in
theorem w_882 : (Jvm.Cond.methodLink "Taskgraphic$Node" (63 : Nat) ({ cls := "java/lang/Math", name := "max", desc := "(II)I" } : Jvm.MethodName)) ∈ zW := zW_in (zTp4 (i := 162) rfl) rfl
set_option maxRecDepth 100000 in
theorem w_883 : (Jvm.Cond.methodLink "Taskgraphic$Node" (66 : Nat) ({ cls := "Taskgraphic$Node", name := "firstOfGroup", desc := "(I)I" } : Jvm.MethodName)) ∈ zW := zW_in (zTp4 (i := 163) rfl) rfl
set_option maxRecDepth 100000 in
theorem w_884 : (Jvm.Cond.instanceMethod ({ cls := "Taskgraphic$Node", name := "firstOfGroup", desc := "(I)I" } : Jvm.MethodName)) ∈ zW := zW_in (zTp4 (i := 164) rfl) rfl
set_option maxRecDepth 100000 in
theorem w_885 : (Jvm.Cond.selects "Taskgraphic$Node" ({ cls := "Taskgraphic$Node", name := "firstOfGroup", desc := "(I)I" } : Jvm.MethodName) ({ cls := "Taskgraphic$Node", name := "firstOfGroup", desc := "(I)I" } : Jvm.MethodName)) ∈ zW := zW_in (zTp4 (i := 165) rfl) rfl
set_option maxRecDepth 100000 in
theorem w_886 : (Jvm.Cond.code ({ cls := "Taskgraphic$Node", name := "firstOfGroup", desc := "(I)I" } : Jvm.MethodName) prog_9_method_4_code (2 : Nat) (Option.some Jvm.ClassFile.FieldType.int)) ∈ zW := zW_in (zTp4 (i := 166) rfl) rfl
set_option maxRecDepth 100000 in
theorem w_887 : (Jvm.Cond.methodLink "Taskgraphic$Holding" (195 : Nat) ({ cls := "Taskgraphic$Rows", name := "setValue", desc := "(II)V" } : Jvm.MethodName)) ∈ zW := zW_in (zTp4 (i := 167) rfl) rfl
set_option maxRecDepth 100000 in
theorem w_888 : (Jvm.Cond.instanceMethod ({ cls := "Taskgraphic$Rows", name := "setValue", desc := "(II)V" } : Jvm.MethodName)) ∈ zW := zW_in (zTp4 (i := 168) rfl) rfl
set_option maxRecDepth 100000 in
theorem w_889 : (Jvm.Cond.selects "Taskgraphic$Rows" ({ cls := "Taskgraphic$Rows", name := "setValue", desc := "(II)V" } : Jvm.MethodName) ({ cls := "Taskgraphic$Rows", name := "setValue", desc := "(II)V" } : Jvm.MethodName)) ∈ zW := zW_in (zTp4 (i := 169) rfl) rfl
set_option maxRecDepth 100000 in
theorem w_890 : (Jvm.Cond.code ({ cls := "Taskgraphic$Rows", name := "setValue", desc := "(II)V" } : Jvm.MethodName) prog_11_method_10_code (3 : Nat) (Option.none : Option Jvm.ClassFile.FieldType)) ∈ zW := zW_in (zTp4 (i := 170) rfl) rfl
set_option maxRecDepth 100000 in
theorem w_891 : (Jvm.Cond.methodLink "Taskgraphic$Holding" (198 : Nat) ({ cls := "Taskgraphic$Node", name := "firstOfGroup", desc := "(I)I" } : Jvm.MethodName)) ∈ zW := zW_in (zTp4 (i := 171) rfl) rfl
set_option maxRecDepth 100000 in
theorem w_892 : (Jvm.Cond.methodLink "Taskgraphic$Holding" (201 : Nat) ({ cls := "Taskgraphic$Rows", name := "insert", desc := "(III)V" } : Jvm.MethodName)) ∈ zW := zW_in (zTp4 (i := 172) rfl) rfl
set_option maxRecDepth 100000 in
theorem w_893 : (Jvm.Cond.instanceMethod ({ cls := "Taskgraphic$Rows", name := "insert", desc := "(III)V" } : Jvm.MethodName)) ∈ zW := zW_in (zTp4 (i := 173) rfl) rfl
set_option maxRecDepth 100000 in
theorem w_894 : (Jvm.Cond.selects "Taskgraphic$Rows" ({ cls := "Taskgraphic$Rows", name := "insert", desc := "(III)V" } : Jvm.MethodName) ({ cls := "Taskgraphic$Rows", name := "insert", desc := "(III)V" } : Jvm.MethodName)) ∈ zW := zW_in (zTp4 (i := 174) rfl) rfl
set_option maxRecDepth 100000 in
theorem w_895 : (Jvm.Cond.code ({ cls := "Taskgraphic$Rows", name := "insert", desc := "(III)V" } : Jvm.MethodName) prog_11_method_12_code (5 : Nat) (Option.none : Option Jvm.ClassFile.FieldType)) ∈ zW := zW_in (zTp4 (i := 175) rfl) rfl
set_option maxRecDepth 100000 in
theorem w_896 : (Jvm.Cond.methodLink "Taskgraphic$Holding" (130 : Nat) ({ cls := "Taskgraphic$Holding", name := "dealByKey", desc := "(ILTaskgraphic$Rows;)V" } : Jvm.MethodName)) ∈ zW := zW_in (zTp4 (i := 176) rfl) rfl
set_option maxRecDepth 100000 in
theorem w_898 : (Jvm.Cond.instanceMethod ({ cls := "Taskgraphic$Holding", name := "dealByKey", desc := "(ILTaskgraphic$Rows;)V" } : Jvm.MethodName)) ∈ zW := zW_in (zTp4 (i := 178) rfl) rfl
set_option maxRecDepth 100000 in
theorem w_899 : (Jvm.Cond.code ({ cls := "Taskgraphic$Holding", name := "dealByKey", desc := "(ILTaskgraphic$Rows;)V" } : Jvm.MethodName) prog_5_method_14_code (6 : Nat) (Option.none : Option Jvm.ClassFile.FieldType)) ∈ zW := zW_in (zTp4 (i := 179) rfl) rfl
set_option maxRecDepth 100000 in
theorem w_900 : (Jvm.Cond.methodLink "Taskgraphic$Holding" (134 : Nat) ({ cls := "Taskgraphic$Holding", name := "joinInOrder", desc := "(LTaskgraphic$Rows;LTaskgraphic$Rows;LTaskgraphic$Rows;)V" } : Jvm.MethodName)) ∈ zW := zW_in (zTp4 (i := 180) rfl) rfl
set_option maxRecDepth 100000 in
theorem w_902 : (Jvm.Cond.instanceMethod ({ cls := "Taskgraphic$Holding", name := "joinInOrder", desc := "(LTaskgraphic$Rows;LTaskgraphic$Rows;LTaskgraphic$Rows;)V" } : Jvm.MethodName)) ∈ zW := zW_in (zTp4 (i := 182) rfl) rfl
set_option maxRecDepth 100000 in
theorem w_903 : (Jvm.Cond.code ({ cls := "Taskgraphic$Holding", name := "joinInOrder", desc := "(LTaskgraphic$Rows;LTaskgraphic$Rows;LTaskgraphic$Rows;)V" } : Jvm.MethodName) prog_5_method_15_code (6 : Nat) (Option.none : Option Jvm.ClassFile.FieldType)) ∈ zW := zW_in (zTp4 (i := 183) rfl) rfl
set_option maxRecDepth 100000 in
theorem w_904 : (Jvm.Cond.methodLink "Taskgraphic$Holding" (205 : Nat) ({ cls := "Taskgraphic$Holding", name := "addMatches", desc := "(IILTaskgraphic$Rows;LTaskgraphic$Rows;)V" } : Jvm.MethodName)) ∈ zW := zW_in (zTp4 (i := 184) rfl) rfl
set_option maxRecDepth 100000 in
theorem w_906 : (Jvm.Cond.instanceMethod ({ cls := "Taskgraphic$Holding", name := "addMatches", desc := "(IILTaskgraphic$Rows;LTaskgraphic$Rows;)V" } : Jvm.MethodName)) ∈ zW := zW_in (zTp4 (i := 186) rfl) rfl
set_option maxRecDepth 100000 in
theorem w_907 : (Jvm.Cond.code ({ cls := "Taskgraphic$Holding", name := "addMatches", desc := "(IILTaskgraphic$Rows;LTaskgraphic$Rows;)V" } : Jvm.MethodName) prog_5_method_18_code (6 : Nat) (Option.none : Option Jvm.ClassFile.FieldType)) ∈ zW := zW_in (zTp4 (i := 187) rfl) rfl
set_option maxRecDepth 100000 in
theorem w_908 : (Jvm.Cond.methodLink "Taskgraphic$Holding" (137 : Nat) ({ cls := "Taskgraphic$Holding", name := "sortByKey", desc := "(LTaskgraphic$Rows;)V" } : Jvm.MethodName)) ∈ zW := zW_in (zTp4 (i := 188) rfl) rfl
set_option maxRecDepth 100000 in
theorem w_910 : (Jvm.Cond.instanceMethod ({ cls := "Taskgraphic$Holding", name := "sortByKey", desc := "(LTaskgraphic$Rows;)V" } : Jvm.MethodName)) ∈ zW := zW_in (zTp4 (i := 190) rfl) rfl
set_option maxRecDepth 100000 in
theorem w_911 : (Jvm.Cond.code ({ cls := "Taskgraphic$Holding", name := "sortByKey", desc := "(LTaskgraphic$Rows;)V" } : Jvm.MethodName) prog_5_method_16_code (4 : Nat) (Option.none : Option Jvm.ClassFile.FieldType)) ∈ zW := zW_in (zTp4 (i := 191) rfl) rfl
set_option maxRecDepth 100000 in
theorem w_912 : (Jvm.Cond.methodLink "Taskgraphic$Holding" (141 : Nat) ({ cls := "Taskgraphic$Holding", name := "joinByKey", desc := "(LTaskgraphic$Rows;ILTaskgraphic$Rows;)V" } : Jvm.MethodName)) ∈ zW := zW_in (zTp4 (i := 192) rfl) rfl
set_option maxRecDepth 100000 in
theorem w_914 : (Jvm.Cond.instanceMethod ({ cls := "Taskgraphic$Holding", name := "joinByKey", desc := "(LTaskgraphic$Rows;ILTaskgraphic$Rows;)V" } : Jvm.MethodName)) ∈ zW := zW_in (zTp4 (i := 194) rfl) rfl
set_option maxRecDepth 100000 in
theorem w_915 : (Jvm.Cond.code ({ cls := "Taskgraphic$Holding", name := "joinByKey", desc := "(LTaskgraphic$Rows;ILTaskgraphic$Rows;)V" } : Jvm.MethodName) prog_5_method_17_code (7 : Nat) (Option.none : Option Jvm.ClassFile.FieldType)) ∈ zW := zW_in (zTp4 (i := 195) rfl) rfl
set_option maxRecDepth 100000 in
theorem w_916 : (Jvm.Cond.methodLink "Taskgraphic" (268 : Nat) ({ cls := "Taskgraphic$Plan", name := "draw", desc := "(I)V" } : Jvm.MethodName)) ∈ zW := zW_in (zTp4 (i := 196) rfl) rfl
set_option maxRecDepth 100000 in
theorem w_917 : (Jvm.Cond.instanceMethod ({ cls := "Taskgraphic$Plan", name := "draw", desc := "(I)V" } : Jvm.MethodName)) ∈ zW := zW_in (zTp4 (i := 197) rfl) rfl
set_option maxRecDepth 100000 in
theorem w_918 : (Jvm.Cond.selects "Taskgraphic$Plan" ({ cls := "Taskgraphic$Plan", name := "draw", desc := "(I)V" } : Jvm.MethodName) ({ cls := "Taskgraphic$Plan", name := "draw", desc := "(I)V" } : Jvm.MethodName)) ∈ zW := zW_in (zTp4 (i := 198) rfl) rfl
set_option maxRecDepth 100000 in
theorem w_919 : (Jvm.Cond.code ({ cls := "Taskgraphic$Plan", name := "draw", desc := "(I)V" } : Jvm.MethodName) prog_10_method_5_code (5 : Nat) (Option.none : Option Jvm.ClassFile.FieldType)) ∈ zW := zW_in (zTp4 (i := 199) rfl) rfl
set_option maxRecDepth 100000 in
theorem w_920 : (Jvm.Cond.methodLink "Taskgraphic$Plan" (55 : Nat) ({ cls := "Taskgraphic$Plan", name := "needWhole", desc := "(I)V" } : Jvm.MethodName)) ∈ zW := zW_in (zTp4 (i := 200) rfl) rfl
set_option maxRecDepth 100000 in
theorem w_922 : (Jvm.Cond.instanceMethod ({ cls := "Taskgraphic$Plan", name := "needWhole", desc := "(I)V" } : Jvm.MethodName)) ∈ zW := zW_in (zTp4 (i := 202) rfl) rfl
set_option maxRecDepth 100000 in
theorem w_923 : (Jvm.Cond.code ({ cls := "Taskgraphic$Plan", name := "needWhole", desc := "(I)V" } : Jvm.MethodName) prog_10_method_6_code (2 : Nat) (Option.none : Option Jvm.ClassFile.FieldType)) ∈ zW := zW_in (zTp4 (i := 203) rfl) rfl
set_option maxRecDepth 100000 in
theorem w_924 : (Jvm.Cond.methodLink "Taskgraphic$Plan" (78 : Nat) ({ cls := "Taskgraphic$Cache", name := "holds", desc := "(I)Z" } : Jvm.MethodName)) ∈ zW := zW_in (zTp4 (i := 204) rfl) rfl
set_option maxRecDepth 100000 in
theorem w_925 : (Jvm.Cond.instanceMethod ({ cls := "Taskgraphic$Cache", name := "holds", desc := "(I)Z" } : Jvm.MethodName)) ∈ zW := zW_in (zTp4 (i := 205) rfl) rfl
set_option maxRecDepth 100000 in
theorem w_926 : (Jvm.Cond.selects "Taskgraphic$Cache" ({ cls := "Taskgraphic$Cache", name := "holds", desc := "(I)Z" } : Jvm.MethodName) ({ cls := "Taskgraphic$Cache", name := "holds", desc := "(I)Z" } : Jvm.MethodName)) ∈ zW := zW_in (zTp4 (i := 206) rfl) rfl
set_option maxRecDepth 100000 in
theorem w_927 : (Jvm.Cond.code ({ cls := "Taskgraphic$Cache", name := "holds", desc := "(I)Z" } : Jvm.MethodName) prog_2_method_2_code (2 : Nat) (Option.some Jvm.ClassFile.FieldType.boolean)) ∈ zW := zW_in (zTp4 (i := 207) rfl) rfl
set_option maxRecDepth 100000 in
theorem w_928 : (Jvm.Cond.methodLinkNest "Taskgraphic$Cache" (27 : Nat) ({ cls := "Taskgraphic", name := "has", desc := "(II)Z" } : Jvm.MethodName) "Taskgraphic") ∈ zN := List.mem_filter.mpr ⟨zTp4 (i := 208) rfl, rfl⟩
set_option maxRecDepth 100000 in
theorem w_929 : (Jvm.Cond.methodLinkNest "Taskgraphic$Plan" (84 : Nat) ({ cls := "Taskgraphic", name := "with", desc := "(II)I" } : Jvm.MethodName) "Taskgraphic") ∈ zN := List.mem_filter.mpr ⟨zTp4 (i := 209) rfl, rfl⟩
set_option maxRecDepth 100000 in
theorem w_930 : (Jvm.Cond.methodLinkNest "Taskgraphic$Plan" (42 : Nat) ({ cls := "Taskgraphic", name := "has", desc := "(II)Z" } : Jvm.MethodName) "Taskgraphic") ∈ zN := List.mem_filter.mpr ⟨zTp4 (i := 210) rfl, rfl⟩
set_option maxRecDepth 100000 in
theorem w_931 : (Jvm.Cond.methodLink "Taskgraphic$Plan" (58 : Nat) ({ cls := "Taskgraphic$Holding", name := "of", desc := "(I)LTaskgraphic$Rows;" } : Jvm.MethodName)) ∈ zW := zW_in (zTp4 (i := 211) rfl) rfl
set_option maxRecDepth 100000 in
theorem w_932 : (Jvm.Cond.methodLink "Taskgraphic$Plan" (64 : Nat) ({ cls := "Taskgraphic$Rows", name := "parts", desc := "()I" } : Jvm.MethodName)) ∈ zW := zW_in (zTp4 (i := 212) rfl) rfl
set_option maxRecDepth 100000 in
theorem w_933 : (Jvm.Cond.methodLink "Taskgraphic$Plan" (70 : Nat) ({ cls := "Taskgraphic$Plan", name := "readsOfTask", desc := "(II)I" } : Jvm.MethodName)) ∈ zW := zW_in (zTp4 (i := 213) rfl) rfl
set_option maxRecDepth 100000 in
theorem w_935 : (Jvm.Cond.instanceMethod ({ cls := "Taskgraphic$Plan", name := "readsOfTask", desc := "(II)I" } : Jvm.MethodName)) ∈ zW := zW_in (zTp4 (i := 215) rfl) rfl
set_option maxRecDepth 100000 in
theorem w_936 : (Jvm.Cond.code ({ cls := "Taskgraphic$Plan", name := "readsOfTask", desc := "(II)I" } : Jvm.MethodName) prog_10_method_7_code (11 : Nat) (Option.some Jvm.ClassFile.FieldType.int)) ∈ zW := zW_in (zTp4 (i := 216) rfl) rfl
set_option maxRecDepth 100000 in
theorem w_937 : (Jvm.Cond.methodLink "Taskgraphic$Plan" (87 : Nat) ({ cls := "Taskgraphic$Graph", name := "at", desc := "(I)LTaskgraphic$Node;" } : Jvm.MethodName)) ∈ zW := zW_in (zTp4 (i := 217) rfl) rfl
set_option maxRecDepth 100000 in
theorem w_938 : (Jvm.Cond.methodLink "Taskgraphic$Plan" (92 : Nat) ({ cls := "Taskgraphic$Rows", name := "sizeOf", desc := "(I)I" } : Jvm.MethodName)) ∈ zW := zW_in (zTp4 (i := 218) rfl) rfl
set_option maxRecDepth 100000 in
theorem w_939 : (Jvm.Cond.instanceMethod ({ cls := "Taskgraphic$Rows", name := "sizeOf", desc := "(I)I" } : Jvm.MethodName)) ∈ zW := zW_in (zTp4 (i := 219) rfl) rfl
set_option maxRecDepth 100000 in
theorem w_940 : (Jvm.Cond.selects "Taskgraphic$Rows" ({ cls := "Taskgraphic$Rows", name := "sizeOf", desc := "(I)I" } : Jvm.MethodName) ({ cls := "Taskgraphic$Rows", name := "sizeOf", desc := "(I)I" } : Jvm.MethodName)) ∈ zW := zW_in (zTp4 (i := 220) rfl) rfl
set_option maxRecDepth 100000 in
theorem w_941 : (Jvm.Cond.code ({ cls := "Taskgraphic$Rows", name := "sizeOf", desc := "(I)I" } : Jvm.MethodName) prog_11_method_7_code (2 : Nat) (Option.some Jvm.ClassFile.FieldType.int)) ∈ zW := zW_in (zTp4 (i := 221) rfl) rfl
set_option maxRecDepth 100000 in
theorem w_942 : (Jvm.Cond.methodLink "Taskgraphic$Rows" (40 : Nat) ({ cls := "Taskgraphic$Rows", name := "end", desc := "(I)I" } : Jvm.MethodName)) ∈ zW := zW_in (zTp4 (i := 222) rfl) rfl
set_option maxRecDepth 100000 in
theorem w_943 : (Jvm.Cond.methodLink "Taskgraphic$Rows" (43 : Nat) ({ cls := "Taskgraphic$Rows", name := "begin", desc := "(I)I" } : Jvm.MethodName)) ∈ zW := zW_in (zTp4 (i := 223) rfl) rfl
set_option maxRecDepth 100000 in
theorem w_944 : (Jvm.Cond.fieldLink "Taskgraphic$Plan" (101 : Nat) "Taskgraphic$Kind" "SOURCE" "LTaskgraphic$Kind;") ∈ zW := zW_in (zTp4 (i := 224) rfl) rfl
set_option maxRecDepth 100000 in
theorem w_945 : (Jvm.Cond.methodLink "Taskgraphic$Plan" (106 : Nat) ({ cls := "Taskgraphic$Holding", name := "joinsBroadly", desc := "(I)Z" } : Jvm.MethodName)) ∈ zW := zW_in (zTp4 (i := 225) rfl) rfl
set_option maxRecDepth 100000 in
theorem w_946 : (Jvm.Cond.instanceMethod ({ cls := "Taskgraphic$Holding", name := "joinsBroadly", desc := "(I)Z" } : Jvm.MethodName)) ∈ zW := zW_in (zTp4 (i := 226) rfl) rfl
set_option maxRecDepth 100000 in
theorem w_947 : (Jvm.Cond.selects "Taskgraphic$Holding" ({ cls := "Taskgraphic$Holding", name := "joinsBroadly", desc := "(I)Z" } : Jvm.MethodName) ({ cls := "Taskgraphic$Holding", name := "joinsBroadly", desc := "(I)Z" } : Jvm.MethodName)) ∈ zW := zW_in (zTp4 (i := 227) rfl) rfl
set_option maxRecDepth 100000 in
theorem w_948 : (Jvm.Cond.code ({ cls := "Taskgraphic$Holding", name := "joinsBroadly", desc := "(I)Z" } : Jvm.MethodName) prog_5_method_6_code (3 : Nat) (Option.some Jvm.ClassFile.FieldType.boolean)) ∈ zW := zW_in (zTp4 (i := 228) rfl) rfl
set_option maxRecDepth 100000 in
theorem w_949 : (Jvm.Cond.fieldLink "Taskgraphic$Holding" (69 : Nat) "Taskgraphic$Kind" "JOIN" "LTaskgraphic$Kind;") ∈ zW := zW_in (zTp4 (i := 229) rfl) rfl
set_option maxRecDepth 100000 in
theorem w_950 : (Jvm.Cond.fieldLink "Taskgraphic$Plan" (109 : Nat) "Taskgraphic$Kind" "GROUP" "LTaskgraphic$Kind;") ∈ zW := zW_in (zTp4 (i := 230) rfl) rfl
set_option maxRecDepth 100000 in
theorem w_951 : (Jvm.Cond.fieldLink "Taskgraphic$Plan" (112 : Nat) "Taskgraphic$Kind" "JOIN" "LTaskgraphic$Kind;") ∈ zW := zW_in (zTp4 (i := 231) rfl) rfl
set_option maxRecDepth 100000 in
theorem w_952 : (Jvm.Cond.methodLink "Taskgraphic$Plan" (115 : Nat) ({ cls := "Taskgraphic$Plan", name := "readsOfShares", desc := "(LTaskgraphic$Node;I)I" } : Jvm.MethodName)) ∈ zW := zW_in (zTp4 (i := 232) rfl) rfl
set_option maxRecDepth 100000 in
theorem w_954 : (Jvm.Cond.instanceMethod ({ cls := "Taskgraphic$Plan", name := "readsOfShares", desc := "(LTaskgraphic$Node;I)I" } : Jvm.MethodName)) ∈ zW := zW_in (zTp4 (i := 234) rfl) rfl
set_option maxRecDepth 100000 in
theorem w_955 : (Jvm.Cond.code ({ cls := "Taskgraphic$Plan", name := "readsOfShares", desc := "(LTaskgraphic$Node;I)I" } : Jvm.MethodName) prog_10_method_8_code (4 : Nat) (Option.some Jvm.ClassFile.FieldType.int)) ∈ zW := zW_in (zTp4 (i := 235) rfl) rfl
set_option maxRecDepth 100000 in
theorem w_956 : (Jvm.Cond.methodLink "Taskgraphic$Plan" (134 : Nat) ({ cls := "Taskgraphic$Plan", name := "sizeOfShare", desc := "(LTaskgraphic$Rows;II)I" } : Jvm.MethodName)) ∈ zW := zW_in (zTp4 (i := 236) rfl) rfl
set_option maxRecDepth 100000 in
theorem w_957 : (Jvm.Cond.static ({ cls := "Taskgraphic$Plan", name := "sizeOfShare", desc := "(LTaskgraphic$Rows;II)I" } : Jvm.MethodName)) ∈ zW := zW_in (zTp4 (i := 237) rfl) rfl
set_option maxRecDepth 100000 in
theorem w_958 : (Jvm.Cond.code ({ cls := "Taskgraphic$Plan", name := "sizeOfShare", desc := "(LTaskgraphic$Rows;II)I" } : Jvm.MethodName) prog_10_method_9_code (5 : Nat) (Option.some Jvm.ClassFile.FieldType.int)) ∈ zW := zW_in (zTp4 (i := 238) rfl) rfl
set_option maxRecDepth 100000 in
theorem w_959 : (Jvm.Cond.methodLink "Taskgraphic$Plan" (122 : Nat) ({ cls := "Taskgraphic$Rows", name := "size", desc := "()I" } : Jvm.MethodName)) ∈ zW := zW_in (zTp4 (i := 239) rfl) rfl
set_option maxRecDepth 100000 in
theorem w_960 : (Jvm.Cond.methodLink "Taskgraphic$Plan" (138 : Nat) ({ cls := "Taskgraphic$Rows", name := "key", desc := "(I)I" } : Jvm.MethodName)) ∈ zW := zW_in (zTp5 (i := 0) rfl) rfl
set_option maxRecDepth 100000 in
theorem w_961 : (Jvm.Cond.methodLinkNest "Taskgraphic$Plan" (141 : Nat) ({ cls := "Taskgraphic", name := "modulo", desc := "(II)I" } : Jvm.MethodName) "Taskgraphic") ∈ zN := List.mem_filter.mpr ⟨zTp5 (i := 1) rfl, rfl⟩
set_option maxRecDepth 100000 in
theorem w_962 : (Jvm.Cond.fieldLink "Taskgraphic$Plan" (128 : Nat) "Taskgraphic$Kind" "UNION" "LTaskgraphic$Kind;") ∈ zW := zW_in (zTp5 (i := 2) rfl) rfl
set_option maxRecDepth 100000 in
theorem w_963 : (Jvm.Cond.methodLink "Taskgraphic$Plan" (74 : Nat) ({ cls := "Taskgraphic$Ints", name := "set", desc := "(II)V" } : Jvm.MethodName)) ∈ zW := zW_in (zTp5 (i := 3) rfl) rfl
set_option maxRecDepth 100000 in
theorem w_964 : (Jvm.Cond.methodLink "Taskgraphic" (279 : Nat) ({ cls := "Taskgraphic$Log", name := "begin", desc := "(I)V" } : Jvm.MethodName)) ∈ zW := zW_in (zTp5 (i := 4) rfl) rfl
set_option maxRecDepth 100000 in
theorem w_965 : (Jvm.Cond.instanceMethod ({ cls := "Taskgraphic$Log", name := "begin", desc := "(I)V" } : Jvm.MethodName)) ∈ zW := zW_in (zTp5 (i := 5) rfl) rfl
set_option maxRecDepth 100000 in
theorem w_966 : (Jvm.Cond.selects "Taskgraphic$Log" ({ cls := "Taskgraphic$Log", name := "begin", desc := "(I)V" } : Jvm.MethodName) ({ cls := "Taskgraphic$Log", name := "begin", desc := "(I)V" } : Jvm.MethodName)) ∈ zW := zW_in (zTp5 (i := 6) rfl) rfl
set_option maxRecDepth 100000 in
theorem w_967 : (Jvm.Cond.code ({ cls := "Taskgraphic$Log", name := "begin", desc := "(I)V" } : Jvm.MethodName) prog_8_method_2_code (2 : Nat) (Option.none : Option Jvm.ClassFile.FieldType)) ∈ zW := zW_in (zTp5 (i := 7) rfl) rfl
set_option maxRecDepth 100000 in
theorem w_968 : (Jvm.Cond.methodLink "Taskgraphic" (284 : Nat) ({ cls := "Taskgraphic", name := "has", desc := "(II)Z" } : Jvm.MethodName)) ∈ zW := zW_in (zTp5 (i := 8) rfl) rfl
set_option maxRecDepth 100000 in
theorem w_969 : (Jvm.Cond.methodLink "Taskgraphic" (288 : Nat) ({ cls := "Taskgraphic", name := "loadStage", desc := "(I)V" } : Jvm.MethodName)) ∈ zW := zW_in (zTp5 (i := 9) rfl) rfl
set_option maxRecDepth 100000 in
theorem w_971 : (Jvm.Cond.instanceMethod ({ cls := "Taskgraphic", name := "loadStage", desc := "(I)V" } : Jvm.MethodName)) ∈ zW := zW_in (zTp5 (i := 11) rfl) rfl
set_option maxRecDepth 100000 in
theorem w_972 : (Jvm.Cond.code ({ cls := "Taskgraphic", name := "loadStage", desc := "(I)V" } : Jvm.MethodName) prog_1_method_46_code (6 : Nat) (Option.none : Option Jvm.ClassFile.FieldType)) ∈ zW := zW_in (zTp5 (i := 12) rfl) rfl
set_option maxRecDepth 100000 in
theorem w_973 : (Jvm.Cond.methodLink "Taskgraphic" (346 : Nat) ({ cls := "Taskgraphic$Holding", name := "of", desc := "(I)LTaskgraphic$Rows;" } : Jvm.MethodName)) ∈ zW := zW_in (zTp5 (i := 13) rfl) rfl
set_option maxRecDepth 100000 in
theorem w_974 : (Jvm.Cond.methodLink "Taskgraphic" (191 : Nat) ({ cls := "Taskgraphic$Rows", name := "parts", desc := "()I" } : Jvm.MethodName)) ∈ zW := zW_in (zTp5 (i := 14) rfl) rfl
set_option maxRecDepth 100000 in
theorem w_975 : (Jvm.Cond.methodLink "Taskgraphic" (349 : Nat) ({ cls := "Taskgraphic$Stage", name := "begin", desc := "(II)V" } : Jvm.MethodName)) ∈ zW := zW_in (zTp5 (i := 15) rfl) rfl
set_option maxRecDepth 100000 in
theorem w_976 : (Jvm.Cond.instanceMethod ({ cls := "Taskgraphic$Stage", name := "begin", desc := "(II)V" } : Jvm.MethodName)) ∈ zW := zW_in (zTp5 (i := 16) rfl) rfl
set_option maxRecDepth 100000 in
theorem w_977 : (Jvm.Cond.selects "Taskgraphic$Stage" ({ cls := "Taskgraphic$Stage", name := "begin", desc := "(II)V" } : Jvm.MethodName) ({ cls := "Taskgraphic$Stage", name := "begin", desc := "(II)V" } : Jvm.MethodName)) ∈ zW := zW_in (zTp5 (i := 17) rfl) rfl
set_option maxRecDepth 100000 in
theorem w_978 : (Jvm.Cond.code ({ cls := "Taskgraphic$Stage", name := "begin", desc := "(II)V" } : Jvm.MethodName) prog_12_method_2_code (3 : Nat) (Option.none : Option Jvm.ClassFile.FieldType)) ∈ zW := zW_in (zTp5 (i := 18) rfl) rfl
set_option maxRecDepth 100000 in
theorem w_979 : (Jvm.Cond.methodLink "Taskgraphic" (351 : Nat) ({ cls := "Taskgraphic$Plan", name := "readsOf", desc := "(II)I" } : Jvm.MethodName)) ∈ zW := zW_in (zTp5 (i := 19) rfl) rfl
set_option maxRecDepth 100000 in
theorem w_980 : (Jvm.Cond.instanceMethod ({ cls := "Taskgraphic$Plan", name := "readsOf", desc := "(II)I" } : Jvm.MethodName)) ∈ zW := zW_in (zTp5 (i := 20) rfl) rfl
set_option maxRecDepth 100000 in
theorem w_981 : (Jvm.Cond.selects "Taskgraphic$Plan" ({ cls := "Taskgraphic$Plan", name := "readsOf", desc := "(II)I" } : Jvm.MethodName) ({ cls := "Taskgraphic$Plan", name := "readsOf", desc := "(II)I" } : Jvm.MethodName)) ∈ zW := zW_in (zTp5 (i := 21) rfl) rfl
set_option maxRecDepth 100000 in
theorem w_982 : (Jvm.Cond.code ({ cls := "Taskgraphic$Plan", name := "readsOf", desc := "(II)I" } : Jvm.MethodName) prog_10_method_4_code (3 : Nat) (Option.some Jvm.ClassFile.FieldType.int)) ∈ zW := zW_in (zTp5 (i := 22) rfl) rfl
set_option maxRecDepth 100000 in
theorem w_983 : (Jvm.Cond.methodLink "Taskgraphic$Plan" (46 : Nat) ({ cls := "Taskgraphic$Ints", name := "at", desc := "(I)I" } : Jvm.MethodName)) ∈ zW := zW_in (zTp5 (i := 23) rfl) rfl
set_option maxRecDepth 100000 in
theorem w_984 : (Jvm.Cond.methodLink "Taskgraphic" (291 : Nat) ({ cls := "Taskgraphic$Crew", name := "workOff", desc := "(LTaskgraphic$Stage;I)I" } : Jvm.MethodName)) ∈ zW := zW_in (zTp5 (i := 24) rfl) rfl
set_option maxRecDepth 100000 in
theorem w_985 : (Jvm.Cond.instanceMethod ({ cls := "Taskgraphic$Crew", name := "workOff", desc := "(LTaskgraphic$Stage;I)I" } : Jvm.MethodName)) ∈ zW := zW_in (zTp5 (i := 25) rfl) rfl
set_option maxRecDepth 100000 in
theorem w_986 : (Jvm.Cond.selects "Taskgraphic$Crew" ({ cls := "Taskgraphic$Crew", name := "workOff", desc := "(LTaskgraphic$Stage;I)I" } : Jvm.MethodName) ({ cls := "Taskgraphic$Crew", name := "workOff", desc := "(LTaskgraphic$Stage;I)I" } : Jvm.MethodName)) ∈ zW := zW_in (zTp5 (i := 26) rfl) rfl
set_option maxRecDepth 100000 in
theorem w_987 : (Jvm.Cond.code ({ cls := "Taskgraphic$Crew", name := "workOff", desc := "(LTaskgraphic$Stage;I)I" } : Jvm.MethodName) prog_3_method_2_code (5 : Nat) (Option.some Jvm.ClassFile.FieldType.int)) ∈ zW := zW_in (zTp5 (i := 27) rfl) rfl
set_option maxRecDepth 100000 in
theorem w_988 : (Jvm.Cond.methodLink "Taskgraphic$Crew" (35 : Nat) ({ cls := "Taskgraphic$Stage", name := "ended", desc := "(I)I" } : Jvm.MethodName)) ∈ zW := zW_in (zTp5 (i := 28) rfl) rfl
set_option maxRecDepth 100000 in
theorem w_989 : (Jvm.Cond.instanceMethod ({ cls := "Taskgraphic$Stage", name := "ended", desc := "(I)I" } : Jvm.MethodName)) ∈ zW := zW_in (zTp5 (i := 29) rfl) rfl
set_option maxRecDepth 100000 in
theorem w_990 : (Jvm.Cond.selects "Taskgraphic$Stage" ({ cls := "Taskgraphic$Stage", name := "ended", desc := "(I)I" } : Jvm.MethodName) ({ cls := "Taskgraphic$Stage", name := "ended", desc := "(I)I" } : Jvm.MethodName)) ∈ zW := zW_in (zTp5 (i := 30) rfl) rfl
set_option maxRecDepth 100000 in
theorem w_991 : (Jvm.Cond.code ({ cls := "Taskgraphic$Stage", name := "ended", desc := "(I)I" } : Jvm.MethodName) prog_12_method_5_code (4 : Nat) (Option.some Jvm.ClassFile.FieldType.int)) ∈ zW := zW_in (zTp5 (i := 31) rfl) rfl
set_option maxRecDepth 100000 in
theorem w_992 : (Jvm.Cond.methodLink "Taskgraphic$Stage" (47 : Nat) ({ cls := "Taskgraphic$Ints", name := "at", desc := "(I)I" } : Jvm.MethodName)) ∈ zW := zW_in (zTp5 (i := 32) rfl) rfl
set_option maxRecDepth 100000 in
theorem w_993 : (Jvm.Cond.methodLink "Taskgraphic$Crew" (44 : Nat) ({ cls := "Taskgraphic$Crew", name := "look", desc := "(LTaskgraphic$Stage;I)Z" } : Jvm.MethodName)) ∈ zW := zW_in (zTp5 (i := 33) rfl) rfl
set_option maxRecDepth 100000 in
theorem w_995 : (Jvm.Cond.instanceMethod ({ cls := "Taskgraphic$Crew", name := "look", desc := "(LTaskgraphic$Stage;I)Z" } : Jvm.MethodName)) ∈ zW := zW_in (zTp5 (i := 35) rfl) rfl
set_option maxRecDepth 100000 in
theorem w_996 : (Jvm.Cond.code ({ cls := "Taskgraphic$Crew", name := "look", desc := "(LTaskgraphic$Stage;I)Z" } : Jvm.MethodName) prog_3_method_3_code (6 : Nat) (Option.some Jvm.ClassFile.FieldType.boolean)) ∈ zW := zW_in (zTp5 (i := 36) rfl) rfl
set_option maxRecDepth 100000 in
theorem w_997 : (Jvm.Cond.methodLink "Taskgraphic$Crew" (51 : Nat) ({ cls := "Taskgraphic$Ints", name := "at", desc := "(I)I" } : Jvm.MethodName)) ∈ zW := zW_in (zTp5 (i := 37) rfl) rfl
set_option maxRecDepth 100000 in
theorem w_998 : (Jvm.Cond.methodLink "Taskgraphic$Crew" (57 : Nat) ({ cls := "Taskgraphic$Crew", name := "takeNext", desc := "(LTaskgraphic$Stage;II)V" } : Jvm.MethodName)) ∈ zW := zW_in (zTp5 (i := 38) rfl) rfl
set_option maxRecDepth 100000 in
theorem w_1000 : (Jvm.Cond.instanceMethod ({ cls := "Taskgraphic$Crew", name := "takeNext", desc := "(LTaskgraphic$Stage;II)V" } : Jvm.MethodName)) ∈ zW := zW_in (zTp5 (i := 40) rfl) rfl
set_option maxRecDepth 100000 in
theorem w_1001 : (Jvm.Cond.code ({ cls := "Taskgraphic$Crew", name := "takeNext", desc := "(LTaskgraphic$Stage;II)V" } : Jvm.MethodName) prog_3_method_4_code (6 : Nat) (Option.none : Option Jvm.ClassFile.FieldType)) ∈ zW := zW_in (zTp5 (i := 41) rfl) rfl
set_option maxRecDepth 100000 in
theorem w_1002 : (Jvm.Cond.methodLink "Taskgraphic$Crew" (71 : Nat) ({ cls := "Taskgraphic$Log", name := "add", desc := "(IIIIIZ)I" } : Jvm.MethodName)) ∈ zW := zW_in (zTp5 (i := 42) rfl) rfl
set_option maxRecDepth 100000 in
theorem w_1003 : (Jvm.Cond.instanceMethod ({ cls := "Taskgraphic$Log", name := "add", desc := "(IIIIIZ)I" } : Jvm.MethodName)) ∈ zW := zW_in (zTp5 (i := 43) rfl) rfl
set_option maxRecDepth 100000 in
theorem w_1004 : (Jvm.Cond.selects "Taskgraphic$Log" ({ cls := "Taskgraphic$Log", name := "add", desc := "(IIIIIZ)I" } : Jvm.MethodName) ({ cls := "Taskgraphic$Log", name := "add", desc := "(IIIIIZ)I" } : Jvm.MethodName)) ∈ zW := zW_in (zTp5 (i := 44) rfl) rfl
set_option maxRecDepth 100000 in
theorem w_1005 : (Jvm.Cond.code ({ cls := "Taskgraphic$Log", name := "add", desc := "(IIIIIZ)I" } : Jvm.MethodName) prog_8_method_3_code (8 : Nat) (Option.some Jvm.ClassFile.FieldType.int)) ∈ zW := zW_in (zTp5 (i := 45) rfl) rfl
set_option maxRecDepth 100000 in
theorem w_1006 : (Jvm.Cond.methodLink "Taskgraphic$Log" (45 : Nat) ({ cls := "Taskgraphic$Ints", name := "set", desc := "(II)V" } : Jvm.MethodName)) ∈ zW := zW_in (zTp5 (i := 46) rfl) rfl
set_option maxRecDepth 100000 in
theorem w_1007 : (Jvm.Cond.methodLink "Taskgraphic$Crew" (77 : Nat) ({ cls := "Taskgraphic$Stage", name := "take", desc := "(II)V" } : Jvm.MethodName)) ∈ zW := zW_in (zTp5 (i := 47) rfl) rfl
set_option maxRecDepth 100000 in
theorem w_1008 : (Jvm.Cond.instanceMethod ({ cls := "Taskgraphic$Stage", name := "take", desc := "(II)V" } : Jvm.MethodName)) ∈ zW := zW_in (zTp5 (i := 48) rfl) rfl
set_option maxRecDepth 100000 in
theorem w_1009 : (Jvm.Cond.selects "Taskgraphic$Stage" ({ cls := "Taskgraphic$Stage", name := "take", desc := "(II)V" } : Jvm.MethodName) ({ cls := "Taskgraphic$Stage", name := "take", desc := "(II)V" } : Jvm.MethodName)) ∈ zW := zW_in (zTp5 (i := 49) rfl) rfl
set_option maxRecDepth 100000 in
theorem w_1010 : (Jvm.Cond.code ({ cls := "Taskgraphic$Stage", name := "take", desc := "(II)V" } : Jvm.MethodName) prog_12_method_3_code (3 : Nat) (Option.none : Option Jvm.ClassFile.FieldType)) ∈ zW := zW_in (zTp5 (i := 50) rfl) rfl
set_option maxRecDepth 100000 in
theorem w_1011 : (Jvm.Cond.methodLink "Taskgraphic$Stage" (39 : Nat) ({ cls := "Taskgraphic$Ints", name := "set", desc := "(II)V" } : Jvm.MethodName)) ∈ zW := zW_in (zTp5 (i := 51) rfl) rfl
set_option maxRecDepth 100000 in
theorem w_1012 : (Jvm.Cond.methodLink "Taskgraphic$Crew" (61 : Nat) ({ cls := "Taskgraphic$Crew", name := "takesCopy", desc := "(LTaskgraphic$Stage;II)Z" } : Jvm.MethodName)) ∈ zW := zW_in (zTp5 (i := 52) rfl) rfl
set_option maxRecDepth 100000 in
theorem w_1014 : (Jvm.Cond.instanceMethod ({ cls := "Taskgraphic$Crew", name := "takesCopy", desc := "(LTaskgraphic$Stage;II)Z" } : Jvm.MethodName)) ∈ zW := zW_in (zTp5 (i := 54) rfl) rfl
set_option maxRecDepth 100000 in
theorem w_1015 : (Jvm.Cond.code ({ cls := "Taskgraphic$Crew", name := "takesCopy", desc := "(LTaskgraphic$Stage;II)Z" } : Jvm.MethodName) prog_3_method_5_code (7 : Nat) (Option.some Jvm.ClassFile.FieldType.boolean)) ∈ zW := zW_in (zTp5 (i := 55) rfl) rfl
set_option maxRecDepth 100000 in
theorem w_1016 : (Jvm.Cond.methodLink "Taskgraphic$Crew" (80 : Nat) ({ cls := "Taskgraphic$Stage", name := "latestWithoutCopy", desc := "(I)I" } : Jvm.MethodName)) ∈ zW := zW_in (zTp5 (i := 56) rfl) rfl
set_option maxRecDepth 100000 in
theorem w_1017 : (Jvm.Cond.instanceMethod ({ cls := "Taskgraphic$Stage", name := "latestWithoutCopy", desc := "(I)I" } : Jvm.MethodName)) ∈ zW := zW_in (zTp5 (i := 57) rfl) rfl
set_option maxRecDepth 100000 in
theorem w_1018 : (Jvm.Cond.selects "Taskgraphic$Stage" ({ cls := "Taskgraphic$Stage", name := "latestWithoutCopy", desc := "(I)I" } : Jvm.MethodName) ({ cls := "Taskgraphic$Stage", name := "latestWithoutCopy", desc := "(I)I" } : Jvm.MethodName)) ∈ zW := zW_in (zTp5 (i := 58) rfl) rfl
set_option maxRecDepth 100000 in
theorem w_1019 : (Jvm.Cond.code ({ cls := "Taskgraphic$Stage", name := "latestWithoutCopy", desc := "(I)I" } : Jvm.MethodName) prog_12_method_7_code (5 : Nat) (Option.some Jvm.ClassFile.FieldType.int)) ∈ zW := zW_in (zTp5 (i := 59) rfl) rfl
set_option maxRecDepth 100000 in
theorem w_1020 : (Jvm.Cond.methodLinkNest "Taskgraphic$Stage" (51 : Nat) ({ cls := "Taskgraphic", name := "has", desc := "(II)Z" } : Jvm.MethodName) "Taskgraphic") ∈ zN := List.mem_filter.mpr ⟨zTp5 (i := 60) rfl, rfl⟩
set_option maxRecDepth 100000 in
theorem w_1021 : (Jvm.Cond.methodLink "Taskgraphic$Crew" (90 : Nat) ({ cls := "Taskgraphic$Stage", name := "copy", desc := "(II)V" } : Jvm.MethodName)) ∈ zW := zW_in (zTp5 (i := 61) rfl) rfl
set_option maxRecDepth 100000 in
theorem w_1022 : (Jvm.Cond.instanceMethod ({ cls := "Taskgraphic$Stage", name := "copy", desc := "(II)V" } : Jvm.MethodName)) ∈ zW := zW_in (zTp5 (i := 62) rfl) rfl
set_option maxRecDepth 100000 in
theorem w_1023 : (Jvm.Cond.selects "Taskgraphic$Stage" ({ cls := "Taskgraphic$Stage", name := "copy", desc := "(II)V" } : Jvm.MethodName) ({ cls := "Taskgraphic$Stage", name := "copy", desc := "(II)V" } : Jvm.MethodName)) ∈ zW := zW_in (zTp5 (i := 63) rfl) rfl
set_option maxRecDepth 100000 in
theorem w_1024 : (Jvm.Cond.code ({ cls := "Taskgraphic$Stage", name := "copy", desc := "(II)V" } : Jvm.MethodName) prog_12_method_4_code (3 : Nat) (Option.none : Option Jvm.ClassFile.FieldType)) ∈ zW := zW_in (zTp5 (i := 64) rfl) rfl
set_option maxRecDepth 100000 in
theorem w_1025 : (Jvm.Cond.methodLinkNest "Taskgraphic$Stage" (43 : Nat) ({ cls := "Taskgraphic", name := "with", desc := "(II)I" } : Jvm.MethodName) "Taskgraphic") ∈ zN := List.mem_filter.mpr ⟨zTp5 (i := 65) rfl, rfl⟩
set_option maxRecDepth 100000 in
theorem w_1026 : (Jvm.Cond.methodLink "Taskgraphic$Crew" (48 : Nat) ({ cls := "Taskgraphic$Stage", name := "earliestEnd", desc := "(I)I" } : Jvm.MethodName)) ∈ zW := zW_in (zTp5 (i := 66) rfl) rfl
set_option maxRecDepth 100000 in
theorem w_1027 : (Jvm.Cond.instanceMethod ({ cls := "Taskgraphic$Stage", name := "earliestEnd", desc := "(I)I" } : Jvm.MethodName)) ∈ zW := zW_in (zTp5 (i := 67) rfl) rfl
set_option maxRecDepth 100000 in
theorem w_1028 : (Jvm.Cond.selects "Taskgraphic$Stage" ({ cls := "Taskgraphic$Stage", name := "earliestEnd", desc := "(I)I" } : Jvm.MethodName) ({ cls := "Taskgraphic$Stage", name := "earliestEnd", desc := "(I)I" } : Jvm.MethodName)) ∈ zW := zW_in (zTp5 (i := 68) rfl) rfl
set_option maxRecDepth 100000 in
theorem w_1029 : (Jvm.Cond.code ({ cls := "Taskgraphic$Stage", name := "earliestEnd", desc := "(I)I" } : Jvm.MethodName) prog_12_method_6_code (5 : Nat) (Option.some Jvm.ClassFile.FieldType.int)) ∈ zW := zW_in (zTp5 (i := 69) rfl) rfl
set_option maxRecDepth 100000 in
theorem w_1030 : (Jvm.Cond.methodLink "Taskgraphic" (298 : Nat) ({ cls := "Taskgraphic", name := "renewCache", desc := "()V" } : Jvm.MethodName)) ∈ zW := zW_in (zTp5 (i := 70) rfl) rfl
set_option maxRecDepth 100000 in
theorem w_1032 : (Jvm.Cond.instanceMethod ({ cls := "Taskgraphic", name := "renewCache", desc := "()V" } : Jvm.MethodName)) ∈ zW := zW_in (zTp5 (i := 72) rfl) rfl
set_option maxRecDepth 100000 in
theorem w_1033 : (Jvm.Cond.code ({ cls := "Taskgraphic", name := "renewCache", desc := "()V" } : Jvm.MethodName) prog_1_method_47_code (2 : Nat) (Option.none : Option Jvm.ClassFile.FieldType)) ∈ zW := zW_in (zTp5 (i := 73) rfl) rfl
set_option maxRecDepth 100000 in
theorem w_1034 : (Jvm.Cond.methodLink "Taskgraphic" (360 : Nat) ({ cls := "Taskgraphic$Cache", name := "makeLatest", desc := "(I)V" } : Jvm.MethodName)) ∈ zW := zW_in (zTp5 (i := 74) rfl) rfl
set_option maxRecDepth 100000 in
theorem w_1035 : (Jvm.Cond.instanceMethod ({ cls := "Taskgraphic$Cache", name := "makeLatest", desc := "(I)V" } : Jvm.MethodName)) ∈ zW := zW_in (zTp5 (i := 75) rfl) rfl
set_option maxRecDepth 100000 in
theorem w_1036 : (Jvm.Cond.selects "Taskgraphic$Cache" ({ cls := "Taskgraphic$Cache", name := "makeLatest", desc := "(I)V" } : Jvm.MethodName) ({ cls := "Taskgraphic$Cache", name := "makeLatest", desc := "(I)V" } : Jvm.MethodName)) ∈ zW := zW_in (zTp5 (i := 76) rfl) rfl
set_option maxRecDepth 100000 in
theorem w_1037 : (Jvm.Cond.code ({ cls := "Taskgraphic$Cache", name := "makeLatest", desc := "(I)V" } : Jvm.MethodName) prog_2_method_4_code (4 : Nat) (Option.none : Option Jvm.ClassFile.FieldType)) ∈ zW := zW_in (zTp5 (i := 77) rfl) rfl
set_option maxRecDepth 100000 in
theorem w_1038 : (Jvm.Cond.methodLink "Taskgraphic$Cache" (44 : Nat) ({ cls := "Taskgraphic$Cache", name := "append", desc := "(II)V" } : Jvm.MethodName)) ∈ zW := zW_in (zTp5 (i := 78) rfl) rfl
set_option maxRecDepth 100000 in
theorem w_1040 : (Jvm.Cond.instanceMethod ({ cls := "Taskgraphic$Cache", name := "append", desc := "(II)V" } : Jvm.MethodName)) ∈ zW := zW_in (zTp5 (i := 80) rfl) rfl
set_option maxRecDepth 100000 in
theorem w_1041 : (Jvm.Cond.code ({ cls := "Taskgraphic$Cache", name := "append", desc := "(II)V" } : Jvm.MethodName) prog_2_method_7_code (3 : Nat) (Option.none : Option Jvm.ClassFile.FieldType)) ∈ zW := zW_in (zTp5 (i := 81) rfl) rfl
set_option maxRecDepth 100000 in
theorem w_1042 : (Jvm.Cond.methodLink "Taskgraphic" (265 : Nat) ({ cls := "Taskgraphic$Cache", name := "holds", desc := "(I)Z" } : Jvm.MethodName)) ∈ zW := zW_in (zTp5 (i := 82) rfl) rfl
set_option maxRecDepth 100000 in
theorem w_1043 : (Jvm.Cond.methodLink "Taskgraphic" (366 : Nat) ({ cls := "Taskgraphic$Cache", name := "enter", desc := "(II)V" } : Jvm.MethodName)) ∈ zW := zW_in (zTp5 (i := 83) rfl) rfl
set_option maxRecDepth 100000 in
theorem w_1044 : (Jvm.Cond.instanceMethod ({ cls := "Taskgraphic$Cache", name := "enter", desc := "(II)V" } : Jvm.MethodName)) ∈ zW := zW_in (zTp5 (i := 84) rfl) rfl
set_option maxRecDepth 100000 in
theorem w_1045 : (Jvm.Cond.selects "Taskgraphic$Cache" ({ cls := "Taskgraphic$Cache", name := "enter", desc := "(II)V" } : Jvm.MethodName) ({ cls := "Taskgraphic$Cache", name := "enter", desc := "(II)V" } : Jvm.MethodName)) ∈ zW := zW_in (zTp5 (i := 85) rfl) rfl
set_option maxRecDepth 100000 in
theorem w_1046 : (Jvm.Cond.code ({ cls := "Taskgraphic$Cache", name := "enter", desc := "(II)V" } : Jvm.MethodName) prog_2_method_5_code (3 : Nat) (Option.none : Option Jvm.ClassFile.FieldType)) ∈ zW := zW_in (zTp5 (i := 86) rfl) rfl
set_option maxRecDepth 100000 in
theorem w_1047 : (Jvm.Cond.methodLink "Taskgraphic$Cache" (51 : Nat) ({ cls := "Taskgraphic$Cache", name := "makeRoomFor", desc := "(I)I" } : Jvm.MethodName)) ∈ zW := zW_in (zTp5 (i := 87) rfl) rfl
set_option maxRecDepth 100000 in
theorem w_1059 : (Jvm.Cond.methodLink "Taskgraphic" (194 : Nat) ({ cls := "Taskgraphic", name := "checkPartition", desc := "(LTaskgraphic$Rows;I)V" } : Jvm.MethodName)) ∈ zW := zW_in (zTp5 (i := 99) rfl) rfl
set_option maxRecDepth 100000 in
theorem w_1060 : (Jvm.Cond.static ({ cls := "Taskgraphic", name := "checkPartition", desc := "(LTaskgraphic$Rows;I)V" } : Jvm.MethodName)) ∈ zW := zW_in (zTp5 (i := 100) rfl) rfl
set_option maxRecDepth 100000 in
theorem w_1061 : (Jvm.Cond.code ({ cls := "Taskgraphic", name := "checkPartition", desc := "(LTaskgraphic$Rows;I)V" } : Jvm.MethodName) prog_1_method_43_code (2 : Nat) (Option.none : Option Jvm.ClassFile.FieldType)) ∈ zW := zW_in (zTp5 (i := 101) rfl) rfl
set_option maxRecDepth 100000 in
theorem w_1063 : (Jvm.Cond.methodLink "Taskgraphic" (198 : Nat) ({ cls := "Taskgraphic$Rows", name := "sizeOf", desc := "(I)I" } : Jvm.MethodName)) ∈ zW := zW_in (zTp5 (i := 103) rfl) rfl
set_option maxRecDepth 100000 in
theorem w_1072 : (Jvm.Cond.methodLink "Taskgraphic" (202 : Nat) ({ cls := "Taskgraphic", name := "checkPlace", desc := "(LTaskgraphic$Rows;II)V" } : Jvm.MethodName)) ∈ zW := zW_in (zTp5 (i := 112) rfl) rfl
set_option maxRecDepth 100000 in
theorem w_1073 : (Jvm.Cond.static ({ cls := "Taskgraphic", name := "checkPlace", desc := "(LTaskgraphic$Rows;II)V" } : Jvm.MethodName)) ∈ zW := zW_in (zTp5 (i := 113) rfl) rfl
set_option maxRecDepth 100000 in
theorem w_1074 : (Jvm.Cond.code ({ cls := "Taskgraphic", name := "checkPlace", desc := "(LTaskgraphic$Rows;II)V" } : Jvm.MethodName) prog_1_method_44_code (3 : Nat) (Option.none : Option Jvm.ClassFile.FieldType)) ∈ zW := zW_in (zTp5 (i := 114) rfl) rfl
set_option maxRecDepth 100000 in
theorem w_1076 : (Jvm.Cond.methodLink "Taskgraphic" (206 : Nat) ({ cls := "Taskgraphic$Rows", name := "begin", desc := "(I)I" } : Jvm.MethodName)) ∈ zW := zW_in (zTp5 (i := 116) rfl) rfl
set_option maxRecDepth 100000 in
theorem w_1077 : (Jvm.Cond.methodLink "Taskgraphic" (209 : Nat) ({ cls := "Taskgraphic$Rows", name := "key", desc := "(I)I" } : Jvm.MethodName)) ∈ zW := zW_in (zTp5 (i := 117) rfl) rfl
set_option maxRecDepth 100000 in
theorem w_1082 : (Jvm.Cond.methodLink "Taskgraphic" (212 : Nat) ({ cls := "Taskgraphic$Rows", name := "value", desc := "(I)I" } : Jvm.MethodName)) ∈ zW := zW_in (zTp5 (i := 122) rfl) rfl
set_option maxRecDepth 100000 in
theorem w_1087 : (Jvm.Cond.methodLink "Taskgraphic" (221 : Nat) ({ cls := "Taskgraphic$Rows", name := "squares", desc := "()I" } : Jvm.MethodName)) ∈ zW := zW_in (zTp5 (i := 127) rfl) rfl
set_option maxRecDepth 100000 in
theorem w_1088 : (Jvm.Cond.instanceMethod ({ cls := "Taskgraphic$Rows", name := "squares", desc := "()I" } : Jvm.MethodName)) ∈ zW := zW_in (zTp5 (i := 128) rfl) rfl
set_option maxRecDepth 100000 in
theorem w_1089 : (Jvm.Cond.selects "Taskgraphic$Rows" ({ cls := "Taskgraphic$Rows", name := "squares", desc := "()I" } : Jvm.MethodName) ({ cls := "Taskgraphic$Rows", name := "squares", desc := "()I" } : Jvm.MethodName)) ∈ zW := zW_in (zTp5 (i := 129) rfl) rfl
set_option maxRecDepth 100000 in
theorem w_1090 : (Jvm.Cond.code ({ cls := "Taskgraphic$Rows", name := "squares", desc := "()I" } : Jvm.MethodName) prog_11_method_16_code (4 : Nat) (Option.some Jvm.ClassFile.FieldType.int)) ∈ zW := zW_in (zTp5 (i := 130) rfl) rfl
set_option maxRecDepth 100000 in
theorem w_1095 : (Jvm.Cond.methodLink "Taskgraphic" (271 : Nat) ({ cls := "Taskgraphic$Plan", name := "countOfStages", desc := "()I" } : Jvm.MethodName)) ∈ zW := zW_in (zTp5 (i := 135) rfl) rfl
set_option maxRecDepth 100000 in
theorem w_1096 : (Jvm.Cond.instanceMethod ({ cls := "Taskgraphic$Plan", name := "countOfStages", desc := "()I" } : Jvm.MethodName)) ∈ zW := zW_in (zTp5 (i := 136) rfl) rfl
set_option maxRecDepth 100000 in
theorem w_1097 : (Jvm.Cond.selects "Taskgraphic$Plan" ({ cls := "Taskgraphic$Plan", name := "countOfStages", desc := "()I" } : Jvm.MethodName) ({ cls := "Taskgraphic$Plan", name := "countOfStages", desc := "()I" } : Jvm.MethodName)) ∈ zW := zW_in (zTp5 (i := 137) rfl) rfl
set_option maxRecDepth 100000 in
theorem w_1098 : (Jvm.Cond.code ({ cls := "Taskgraphic$Plan", name := "countOfStages", desc := "()I" } : Jvm.MethodName) prog_10_method_2_code (1 : Nat) (Option.some Jvm.ClassFile.FieldType.int)) ∈ zW := zW_in (zTp5 (i := 138) rfl) rfl
set_option maxRecDepth 100000 in
theorem w_1099 : (Jvm.Cond.methodLink "Taskgraphic$Plan" (36 : Nat) ({ cls := "java/lang/Integer", name := "bitCount", desc := "(I)I" } : Jvm.MethodName)) ∈ zW := zW_in (zTp5 (i := 139) rfl) rfl
set_option maxRecDepth 100000 in
theorem w_1100 : (Jvm.Cond.static ({ cls := "java/lang/Integer", name := "bitCount", desc := "(I)I" } : Jvm.MethodName)) ∈ zW := zW_in (zTp5 (i := 140) rfl) rfl
set_option maxRecDepth 100000 in
theorem w_1101 : (Jvm.Cond.code ({ cls := "java/lang/Integer", name := "bitCount", desc := "(I)I" } : Jvm.MethodName) prog_22_method_49_code (1 : Nat) (Option.some Jvm.ClassFile.FieldType.int)) ∈ zW := zW_in (zTp5 (i := 141) rfl) rfl
set_option maxRecDepth 100000 in
theorem w_1102 : (Jvm.Cond.constant "java/lang/Integer" (265 : Nat) (1431655765 : Int32)) ∈ zW := zW_in (zTp5 (i := 142) rfl) rfl
set_option maxRecDepth 100000 in
theorem w_1103 : (Jvm.Cond.constant "java/lang/Integer" (266 : Nat) (858993459 : Int32)) ∈ zW := zW_in (zTp5 (i := 143) rfl) rfl
set_option maxRecDepth 100000 in
theorem w_1104 : (Jvm.Cond.constant "java/lang/Integer" (267 : Nat) (252645135 : Int32)) ∈ zW := zW_in (zTp5 (i := 144) rfl) rfl
set_option maxRecDepth 100000 in
theorem w_1110 : (Jvm.Cond.methodLink "Taskgraphic" (276 : Nat) ({ cls := "Taskgraphic$Plan", name := "outputOfStage", desc := "(I)I" } : Jvm.MethodName)) ∈ zW := zW_in (zTp5 (i := 150) rfl) rfl
set_option maxRecDepth 100000 in
theorem w_1111 : (Jvm.Cond.instanceMethod ({ cls := "Taskgraphic$Plan", name := "outputOfStage", desc := "(I)I" } : Jvm.MethodName)) ∈ zW := zW_in (zTp5 (i := 151) rfl) rfl
set_option maxRecDepth 100000 in
theorem w_1112 : (Jvm.Cond.selects "Taskgraphic$Plan" ({ cls := "Taskgraphic$Plan", name := "outputOfStage", desc := "(I)I" } : Jvm.MethodName) ({ cls := "Taskgraphic$Plan", name := "outputOfStage", desc := "(I)I" } : Jvm.MethodName)) ∈ zW := zW_in (zTp5 (i := 152) rfl) rfl
set_option maxRecDepth 100000 in
theorem w_1113 : (Jvm.Cond.code ({ cls := "Taskgraphic$Plan", name := "outputOfStage", desc := "(I)I" } : Jvm.MethodName) prog_10_method_3_code (4 : Nat) (Option.some Jvm.ClassFile.FieldType.int)) ∈ zW := zW_in (zTp5 (i := 153) rfl) rfl
set_option maxRecDepth 100000 in
theorem w_1118 : (Jvm.Cond.methodLink "Taskgraphic" (307 : Nat) ({ cls := "Taskgraphic", name := "checkAttempt", desc := "(I)V" } : Jvm.MethodName)) ∈ zW := zW_in (zTp5 (i := 158) rfl) rfl
set_option maxRecDepth 100000 in
theorem w_1120 : (Jvm.Cond.instanceMethod ({ cls := "Taskgraphic", name := "checkAttempt", desc := "(I)V" } : Jvm.MethodName)) ∈ zW := zW_in (zTp5 (i := 160) rfl) rfl
set_option maxRecDepth 100000 in
theorem w_1121 : (Jvm.Cond.code ({ cls := "Taskgraphic", name := "checkAttempt", desc := "(I)V" } : Jvm.MethodName) prog_1_method_40_code (2 : Nat) (Option.none : Option Jvm.ClassFile.FieldType)) ∈ zW := zW_in (zTp5 (i := 161) rfl) rfl
set_option maxRecDepth 100000 in
theorem w_1146 : (Jvm.Cond.methodLink "Taskgraphic" (217 : Nat) ({ cls := "Taskgraphic$Holding", name := "joinsBroadly", desc := "(I)Z" } : Jvm.MethodName)) ∈ zW := zW_in (zTp5 (i := 186) rfl) rfl
set_option maxRecDepth 100000 in
theorem zws_Jx4a65c : ∀ w ∈ u_ws RJx4a65c TJx4a65c 3, w ∈ zW := zW_ws [67, 63, 65] (by decide +kernel) (by decide +kernel)
set_option maxRecDepth 100000 in
theorem zws_X0 : ∀ w ∈ u_ws RX0 TX0 6, w ∈ zW := zW_ws [234, 236, 238, 240, 242, 244] (by decide +kernel) (by decide +kernel)
set_option maxRecDepth 100000 in
theorem zws_X1 : ∀ w ∈ u_ws RX1 TX1 4, w ∈ zW := zW_ws [385, 387, 389, 391] (by decide +kernel) (by decide +kernel)
set_option maxRecDepth 100000 in
theorem zws_X2 : ∀ w ∈ u_ws RX2 TX2 3, w ∈ zW := zW_ws [191, 193, 195] (by decide +kernel) (by decide +kernel)
set_option maxRecDepth 100000 in
theorem zws_X3 : ∀ w ∈ u_ws RX3 TX3 4, w ∈ zW := zW_ws [210, 212, 214, 216] (by decide +kernel) (by decide +kernel)
set_option maxRecDepth 100000 in
theorem zws_X4 : ∀ w ∈ u_ws RX4 TX4 1, w ∈ zW := zW_ws [95] (by decide +kernel) (by decide +kernel)
set_option maxRecDepth 100000 in
theorem zws_X6 : ∀ w ∈ u_ws RX6 TX6 10, w ∈ zW := zW_ws [346, 348, 350, 352, 354, 356, 358, 360, 362, 364] (by decide +kernel) (by decide +kernel)
set_option maxRecDepth 100000 in
theorem zws_X7 : ∀ w ∈ u_ws RX7 TX7 15, w ∈ zW := zW_ws [155, 157, 159, 161, 163, 165, 167, 169, 171, 173, 175, 177, 179, 181, 183] (by decide +kernel) (by decide +kernel)
set_option maxRecDepth 100000 in
theorem zws_X8 : ∀ w ∈ u_ws RX8 TX8 7, w ∈ zW := zW_ws [265, 267, 269, 271, 273, 275, 277] (by decide +kernel) (by decide +kernel)
set_option maxRecDepth 100000 in
theorem zws_X9 : ∀ w ∈ u_ws RX9 TX9 6, w ∈ zW := zW_ws [105, 107, 109, 111, 113, 115] (by decide +kernel) (by decide +kernel)
set_option maxRecDepth 100000 in
theorem zws_X10 : ∀ w ∈ u_ws RX10 TX10 7, w ∈ zW := zW_ws [302, 304, 306, 308, 310, 312, 314] (by decide +kernel) (by decide +kernel)
set_option maxRecDepth 100000 in
theorem zws_X11 : ∀ w ∈ u_ws RX11 TX11 9, w ∈ zW := zW_ws [403, 405, 407, 409, 411, 413, 415, 417, 419] (by decide +kernel) (by decide +kernel)
