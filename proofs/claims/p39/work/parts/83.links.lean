set_option maxRecDepth 100000 in
theorem w_0 : (Jvm.Cond.initialized "TaskgraphicLaw") ∈ zW := zW_in (zTp1 (i := 0) rfl) rfl
set_option maxRecDepth 100000 in
theorem w_30 : (Jvm.Cond.classLink "TaskgraphicLaw" (9 : Nat) "Taskgraphic") ∈ zW := zW_in (zTp1 (i := 30) rfl) rfl
set_option maxRecDepth 100000 in
theorem w_31 : (Jvm.Cond.instantiable "Taskgraphic" (9 : Nat)) ∈ zW := zW_in (zTp1 (i := 31) rfl) rfl
set_option maxRecDepth 100000 in
theorem w_32 : (Jvm.Cond.methodLink "TaskgraphicLaw" (200 : Nat) ({ cls := "Taskgraphic", name := "<init>", desc := "()V" } : Jvm.MethodName)) ∈ zW := zW_in (zTp1 (i := 32) rfl) rfl
set_option maxRecDepth 100000 in
theorem w_33 : (Jvm.Cond.instanceMethod ({ cls := "Taskgraphic", name := "<init>", desc := "()V" } : Jvm.MethodName)) ∈ zW := zW_in (zTp1 (i := 33) rfl) rfl
set_option maxRecDepth 100000 in
theorem w_34 : (Jvm.Cond.code ({ cls := "Taskgraphic", name := "<init>", desc := "()V" } : Jvm.MethodName) prog_1_method_1_code (1 : Nat) (Option.none : Option Jvm.ClassFile.FieldType)) ∈ zW := zW_in (zTp1 (i := 34) rfl) rfl
set_option maxRecDepth 100000 in
theorem w_422 : (Jvm.Cond.methodLink "TaskgraphicLaw" (139 : Nat) ({ cls := "Taskgraphic", name := "nodes", desc := "()I" } : Jvm.MethodName)) ∈ zW := zW_in (zTp2 (i := 182) rfl) rfl
set_option maxRecDepth 100000 in
theorem w_423 : (Jvm.Cond.instanceMethod ({ cls := "Taskgraphic", name := "nodes", desc := "()I" } : Jvm.MethodName)) ∈ zW := zW_in (zTp2 (i := 183) rfl) rfl
set_option maxRecDepth 100000 in
theorem w_424 : (Jvm.Cond.selects "Taskgraphic" ({ cls := "Taskgraphic", name := "nodes", desc := "()I" } : Jvm.MethodName) ({ cls := "Taskgraphic", name := "nodes", desc := "()I" } : Jvm.MethodName)) ∈ zW := zW_in (zTp2 (i := 184) rfl) rfl
set_option maxRecDepth 100000 in
theorem w_425 : (Jvm.Cond.code ({ cls := "Taskgraphic", name := "nodes", desc := "()I" } : Jvm.MethodName) prog_1_method_9_code (1 : Nat) (Option.some Jvm.ClassFile.FieldType.int)) ∈ zW := zW_in (zTp2 (i := 185) rfl) rfl
set_option maxRecDepth 100000 in
theorem w_434 : (Jvm.Cond.methodLink "TaskgraphicLaw" (150 : Nat) ({ cls := "Taskgraphic", name := "ticks", desc := "()I" } : Jvm.MethodName)) ∈ zW := zW_in (zTp2 (i := 194) rfl) rfl
set_option maxRecDepth 100000 in
theorem w_435 : (Jvm.Cond.instanceMethod ({ cls := "Taskgraphic", name := "ticks", desc := "()I" } : Jvm.MethodName)) ∈ zW := zW_in (zTp2 (i := 195) rfl) rfl
set_option maxRecDepth 100000 in
theorem w_436 : (Jvm.Cond.selects "Taskgraphic" ({ cls := "Taskgraphic", name := "ticks", desc := "()I" } : Jvm.MethodName) ({ cls := "Taskgraphic", name := "ticks", desc := "()I" } : Jvm.MethodName)) ∈ zW := zW_in (zTp2 (i := 196) rfl) rfl
set_option maxRecDepth 100000 in
theorem w_437 : (Jvm.Cond.code ({ cls := "Taskgraphic", name := "ticks", desc := "()I" } : Jvm.MethodName) prog_1_method_28_code (1 : Nat) (Option.some Jvm.ClassFile.FieldType.int)) ∈ zW := zW_in (zTp2 (i := 197) rfl) rfl
set_option maxRecDepth 100000 in
theorem w_438 : (Jvm.Cond.methodLink "TaskgraphicLaw" (147 : Nat) ({ cls := "Taskgraphic", name := "attempts", desc := "()I" } : Jvm.MethodName)) ∈ zW := zW_in (zTp2 (i := 198) rfl) rfl
set_option maxRecDepth 100000 in
theorem w_439 : (Jvm.Cond.instanceMethod ({ cls := "Taskgraphic", name := "attempts", desc := "()I" } : Jvm.MethodName)) ∈ zW := zW_in (zTp2 (i := 199) rfl) rfl
set_option maxRecDepth 100000 in
theorem w_440 : (Jvm.Cond.selects "Taskgraphic" ({ cls := "Taskgraphic", name := "attempts", desc := "()I" } : Jvm.MethodName) ({ cls := "Taskgraphic", name := "attempts", desc := "()I" } : Jvm.MethodName)) ∈ zW := zW_in (zTp2 (i := 200) rfl) rfl
set_option maxRecDepth 100000 in
theorem w_441 : (Jvm.Cond.code ({ cls := "Taskgraphic", name := "attempts", desc := "()I" } : Jvm.MethodName) prog_1_method_30_code (1 : Nat) (Option.some Jvm.ClassFile.FieldType.int)) ∈ zW := zW_in (zTp2 (i := 201) rfl) rfl
set_option maxRecDepth 100000 in
theorem w_442 : (Jvm.Cond.methodLink "TaskgraphicLaw" (168 : Nat) ({ cls := "Taskgraphic", name := "share", desc := "()F" } : Jvm.MethodName)) ∈ zW := zW_in (zTp2 (i := 202) rfl) rfl
set_option maxRecDepth 100000 in
theorem w_443 : (Jvm.Cond.instanceMethod ({ cls := "Taskgraphic", name := "share", desc := "()F" } : Jvm.MethodName)) ∈ zW := zW_in (zTp2 (i := 203) rfl) rfl
set_option maxRecDepth 100000 in
theorem w_444 : (Jvm.Cond.selects "Taskgraphic" ({ cls := "Taskgraphic", name := "share", desc := "()F" } : Jvm.MethodName) ({ cls := "Taskgraphic", name := "share", desc := "()F" } : Jvm.MethodName)) ∈ zW := zW_in (zTp2 (i := 204) rfl) rfl
set_option maxRecDepth 100000 in
theorem w_445 : (Jvm.Cond.code ({ cls := "Taskgraphic", name := "share", desc := "()F" } : Jvm.MethodName) prog_1_method_37_code (2 : Nat) (Option.some Jvm.ClassFile.FieldType.float)) ∈ zW := zW_in (zTp2 (i := 205) rfl) rfl
set_option maxRecDepth 100000 in
theorem w_454 : (Jvm.Cond.methodLink "TaskgraphicLaw" (171 : Nat) ({ cls := "TaskgraphicLaw", name := "makes", desc := "(LTaskgraphic;IIII)I" } : Jvm.MethodName)) ∈ zW := zW_in (zTp2 (i := 214) rfl) rfl
set_option maxRecDepth 100000 in
theorem w_455 : (Jvm.Cond.static ({ cls := "TaskgraphicLaw", name := "makes", desc := "(LTaskgraphic;IIII)I" } : Jvm.MethodName)) ∈ zW := zW_in (zTp2 (i := 215) rfl) rfl
set_option maxRecDepth 100000 in
theorem w_456 : (Jvm.Cond.codeWith ({ cls := "TaskgraphicLaw", name := "makes", desc := "(LTaskgraphic;IIII)I" } : Jvm.MethodName) method_3_code (6 : Nat) (Option.some Jvm.ClassFile.FieldType.int) [((0 : Nat), (98 : Nat), (99 : Nat), (34 : Nat)), ((0 : Nat), (98 : Nat), (104 : Nat), (36 : Nat)), ((0 : Nat), (98 : Nat), (109 : Nat), (38 : Nat))]) ∈ zW := zW_in (zTp2 (i := 216) rfl) rfl
set_option maxRecDepth 100000 in
theorem w_457 : (Jvm.Cond.classLink "TaskgraphicLaw" (34 : Nat) "java/lang/IndexOutOfBoundsException") ∈ zW := zW_in (zTp2 (i := 217) rfl) rfl
set_option maxRecDepth 100000 in
theorem w_458 : (Jvm.Cond.classLink "TaskgraphicLaw" (36 : Nat) "java/lang/IllegalArgumentException") ∈ zW := zW_in (zTp2 (i := 218) rfl) rfl
set_option maxRecDepth 100000 in
theorem w_459 : (Jvm.Cond.classLink "TaskgraphicLaw" (38 : Nat) "java/lang/IllegalStateException") ∈ zW := zW_in (zTp2 (i := 219) rfl) rfl
set_option maxRecDepth 100000 in
theorem w_460 : (Jvm.Cond.methodLink "TaskgraphicLaw" (8 : Nat) ({ cls := "Taskgraphic", name := "source", desc := "(I)I" } : Jvm.MethodName)) ∈ zW := zW_in (zTp2 (i := 220) rfl) rfl
set_option maxRecDepth 100000 in
theorem w_461 : (Jvm.Cond.instanceMethod ({ cls := "Taskgraphic", name := "source", desc := "(I)I" } : Jvm.MethodName)) ∈ zW := zW_in (zTp2 (i := 221) rfl) rfl
set_option maxRecDepth 100000 in
theorem w_462 : (Jvm.Cond.selects "Taskgraphic" ({ cls := "Taskgraphic", name := "source", desc := "(I)I" } : Jvm.MethodName) ({ cls := "Taskgraphic", name := "source", desc := "(I)I" } : Jvm.MethodName)) ∈ zW := zW_in (zTp2 (i := 222) rfl) rfl
set_option maxRecDepth 100000 in
theorem w_463 : (Jvm.Cond.code ({ cls := "Taskgraphic", name := "source", desc := "(I)I" } : Jvm.MethodName) prog_1_method_2_code (3 : Nat) (Option.some Jvm.ClassFile.FieldType.int)) ∈ zW := zW_in (zTp2 (i := 223) rfl) rfl
set_option maxRecDepth 100000 in
theorem w_469 : (Jvm.Cond.castable "java/lang/IllegalArgumentException" "java/lang/IllegalArgumentException") ∈ zN := List.mem_filter.mpr ⟨zTp2 (i := 229) rfl, rfl⟩
set_option maxRecDepth 100000 in
theorem w_541 : (Jvm.Cond.castable "java/lang/IllegalStateException" "java/lang/IllegalStateException") ∈ zN := List.mem_filter.mpr ⟨zTp3 (i := 61) rfl, rfl⟩
set_option maxRecDepth 100000 in
theorem w_644 : (Jvm.Cond.methodLink "TaskgraphicLaw" (14 : Nat) ({ cls := "Taskgraphic", name := "map", desc := "(III)I" } : Jvm.MethodName)) ∈ zW := zW_in (zTp3 (i := 164) rfl) rfl
set_option maxRecDepth 100000 in
theorem w_645 : (Jvm.Cond.instanceMethod ({ cls := "Taskgraphic", name := "map", desc := "(III)I" } : Jvm.MethodName)) ∈ zW := zW_in (zTp3 (i := 165) rfl) rfl
set_option maxRecDepth 100000 in
theorem w_646 : (Jvm.Cond.selects "Taskgraphic" ({ cls := "Taskgraphic", name := "map", desc := "(III)I" } : Jvm.MethodName) ({ cls := "Taskgraphic", name := "map", desc := "(III)I" } : Jvm.MethodName)) ∈ zW := zW_in (zTp3 (i := 166) rfl) rfl
set_option maxRecDepth 100000 in
theorem w_647 : (Jvm.Cond.code ({ cls := "Taskgraphic", name := "map", desc := "(III)I" } : Jvm.MethodName) prog_1_method_4_code (5 : Nat) (Option.some Jvm.ClassFile.FieldType.int)) ∈ zW := zW_in (zTp3 (i := 167) rfl) rfl
set_option maxRecDepth 100000 in
theorem w_654 : (Jvm.Cond.castable "java/lang/IndexOutOfBoundsException" "java/lang/IndexOutOfBoundsException") ∈ zN := List.mem_filter.mpr ⟨zTp3 (i := 174) rfl, rfl⟩
set_option maxRecDepth 100000 in
theorem w_676 : (Jvm.Cond.methodLink "TaskgraphicLaw" (18 : Nat) ({ cls := "Taskgraphic", name := "filter", desc := "(III)I" } : Jvm.MethodName)) ∈ zW := zW_in (zTp3 (i := 196) rfl) rfl
set_option maxRecDepth 100000 in
theorem w_677 : (Jvm.Cond.instanceMethod ({ cls := "Taskgraphic", name := "filter", desc := "(III)I" } : Jvm.MethodName)) ∈ zW := zW_in (zTp3 (i := 197) rfl) rfl
set_option maxRecDepth 100000 in
theorem w_678 : (Jvm.Cond.selects "Taskgraphic" ({ cls := "Taskgraphic", name := "filter", desc := "(III)I" } : Jvm.MethodName) ({ cls := "Taskgraphic", name := "filter", desc := "(III)I" } : Jvm.MethodName)) ∈ zW := zW_in (zTp3 (i := 198) rfl) rfl
set_option maxRecDepth 100000 in
theorem w_679 : (Jvm.Cond.code ({ cls := "Taskgraphic", name := "filter", desc := "(III)I" } : Jvm.MethodName) prog_1_method_5_code (5 : Nat) (Option.some Jvm.ClassFile.FieldType.int)) ∈ zW := zW_in (zTp3 (i := 199) rfl) rfl
set_option maxRecDepth 100000 in
theorem w_682 : (Jvm.Cond.methodLink "TaskgraphicLaw" (21 : Nat) ({ cls := "Taskgraphic", name := "union", desc := "(II)I" } : Jvm.MethodName)) ∈ zW := zW_in (zTp3 (i := 202) rfl) rfl
set_option maxRecDepth 100000 in
theorem w_683 : (Jvm.Cond.instanceMethod ({ cls := "Taskgraphic", name := "union", desc := "(II)I" } : Jvm.MethodName)) ∈ zW := zW_in (zTp3 (i := 203) rfl) rfl
set_option maxRecDepth 100000 in
theorem w_684 : (Jvm.Cond.selects "Taskgraphic" ({ cls := "Taskgraphic", name := "union", desc := "(II)I" } : Jvm.MethodName) ({ cls := "Taskgraphic", name := "union", desc := "(II)I" } : Jvm.MethodName)) ∈ zW := zW_in (zTp3 (i := 204) rfl) rfl
set_option maxRecDepth 100000 in
theorem w_685 : (Jvm.Cond.code ({ cls := "Taskgraphic", name := "union", desc := "(II)I" } : Jvm.MethodName) prog_1_method_6_code (7 : Nat) (Option.some Jvm.ClassFile.FieldType.int)) ∈ zW := zW_in (zTp3 (i := 205) rfl) rfl
set_option maxRecDepth 100000 in
theorem w_689 : (Jvm.Cond.methodLink "TaskgraphicLaw" (25 : Nat) ({ cls := "Taskgraphic", name := "group", desc := "(III)I" } : Jvm.MethodName)) ∈ zW := zW_in (zTp3 (i := 209) rfl) rfl
set_option maxRecDepth 100000 in
theorem w_690 : (Jvm.Cond.instanceMethod ({ cls := "Taskgraphic", name := "group", desc := "(III)I" } : Jvm.MethodName)) ∈ zW := zW_in (zTp3 (i := 210) rfl) rfl
set_option maxRecDepth 100000 in
theorem w_691 : (Jvm.Cond.selects "Taskgraphic" ({ cls := "Taskgraphic", name := "group", desc := "(III)I" } : Jvm.MethodName) ({ cls := "Taskgraphic", name := "group", desc := "(III)I" } : Jvm.MethodName)) ∈ zW := zW_in (zTp3 (i := 211) rfl) rfl
set_option maxRecDepth 100000 in
theorem w_692 : (Jvm.Cond.code ({ cls := "Taskgraphic", name := "group", desc := "(III)I" } : Jvm.MethodName) prog_1_method_7_code (5 : Nat) (Option.some Jvm.ClassFile.FieldType.int)) ∈ zW := zW_in (zTp3 (i := 212) rfl) rfl
set_option maxRecDepth 100000 in
theorem w_696 : (Jvm.Cond.methodLink "TaskgraphicLaw" (28 : Nat) ({ cls := "Taskgraphic", name := "join", desc := "(III)I" } : Jvm.MethodName)) ∈ zW := zW_in (zTp3 (i := 216) rfl) rfl
set_option maxRecDepth 100000 in
theorem w_697 : (Jvm.Cond.instanceMethod ({ cls := "Taskgraphic", name := "join", desc := "(III)I" } : Jvm.MethodName)) ∈ zW := zW_in (zTp3 (i := 217) rfl) rfl
set_option maxRecDepth 100000 in
theorem w_698 : (Jvm.Cond.selects "Taskgraphic" ({ cls := "Taskgraphic", name := "join", desc := "(III)I" } : Jvm.MethodName) ({ cls := "Taskgraphic", name := "join", desc := "(III)I" } : Jvm.MethodName)) ∈ zW := zW_in (zTp3 (i := 218) rfl) rfl
set_option maxRecDepth 100000 in
theorem w_699 : (Jvm.Cond.code ({ cls := "Taskgraphic", name := "join", desc := "(III)I" } : Jvm.MethodName) prog_1_method_8_code (7 : Nat) (Option.some Jvm.ClassFile.FieldType.int)) ∈ zW := zW_in (zTp3 (i := 219) rfl) rfl
set_option maxRecDepth 100000 in
theorem w_704 : (Jvm.Cond.methodLink "TaskgraphicLaw" (31 : Nat) ({ cls := "Taskgraphic", name := "put", desc := "(III)I" } : Jvm.MethodName)) ∈ zW := zW_in (zTp3 (i := 224) rfl) rfl
set_option maxRecDepth 100000 in
theorem w_705 : (Jvm.Cond.instanceMethod ({ cls := "Taskgraphic", name := "put", desc := "(III)I" } : Jvm.MethodName)) ∈ zW := zW_in (zTp3 (i := 225) rfl) rfl
set_option maxRecDepth 100000 in
theorem w_706 : (Jvm.Cond.selects "Taskgraphic" ({ cls := "Taskgraphic", name := "put", desc := "(III)I" } : Jvm.MethodName) ({ cls := "Taskgraphic", name := "put", desc := "(III)I" } : Jvm.MethodName)) ∈ zW := zW_in (zTp3 (i := 226) rfl) rfl
set_option maxRecDepth 100000 in
theorem w_707 : (Jvm.Cond.code ({ cls := "Taskgraphic", name := "put", desc := "(III)I" } : Jvm.MethodName) prog_1_method_3_code (5 : Nat) (Option.some Jvm.ClassFile.FieldType.int)) ∈ zW := zW_in (zTp3 (i := 227) rfl) rfl
set_option maxRecDepth 100000 in
theorem w_731 : (Jvm.Cond.methodLink "TaskgraphicLaw" (174 : Nat) ({ cls := "TaskgraphicLaw", name := "sets", desc := "(LTaskgraphic;III)I" } : Jvm.MethodName)) ∈ zW := zW_in (zTp4 (i := 11) rfl) rfl
set_option maxRecDepth 100000 in
theorem w_732 : (Jvm.Cond.static ({ cls := "TaskgraphicLaw", name := "sets", desc := "(LTaskgraphic;III)I" } : Jvm.MethodName)) ∈ zW := zW_in (zTp4 (i := 12) rfl) rfl
set_option maxRecDepth 100000 in
theorem w_733 : (Jvm.Cond.codeWith ({ cls := "TaskgraphicLaw", name := "sets", desc := "(LTaskgraphic;III)I" } : Jvm.MethodName) method_4_code (5 : Nat) (Option.some Jvm.ClassFile.FieldType.int) [((0 : Nat), (70 : Nat), (71 : Nat), (34 : Nat)), ((0 : Nat), (70 : Nat), (76 : Nat), (36 : Nat))]) ∈ zW := zW_in (zTp4 (i := 13) rfl) rfl
set_option maxRecDepth 100000 in
theorem w_734 : (Jvm.Cond.methodLink "TaskgraphicLaw" (40 : Nat) ({ cls := "Taskgraphic", name := "setWorkers", desc := "(I)I" } : Jvm.MethodName)) ∈ zW := zW_in (zTp4 (i := 14) rfl) rfl
set_option maxRecDepth 100000 in
theorem w_735 : (Jvm.Cond.instanceMethod ({ cls := "Taskgraphic", name := "setWorkers", desc := "(I)I" } : Jvm.MethodName)) ∈ zW := zW_in (zTp4 (i := 15) rfl) rfl
set_option maxRecDepth 100000 in
theorem w_736 : (Jvm.Cond.selects "Taskgraphic" ({ cls := "Taskgraphic", name := "setWorkers", desc := "(I)I" } : Jvm.MethodName) ({ cls := "Taskgraphic", name := "setWorkers", desc := "(I)I" } : Jvm.MethodName)) ∈ zW := zW_in (zTp4 (i := 16) rfl) rfl
set_option maxRecDepth 100000 in
theorem w_737 : (Jvm.Cond.code ({ cls := "Taskgraphic", name := "setWorkers", desc := "(I)I" } : Jvm.MethodName) prog_1_method_18_code (3 : Nat) (Option.some Jvm.ClassFile.FieldType.int)) ∈ zW := zW_in (zTp4 (i := 17) rfl) rfl
set_option maxRecDepth 100000 in
theorem w_739 : (Jvm.Cond.methodLink "TaskgraphicLaw" (43 : Nat) ({ cls := "Taskgraphic", name := "setSlowness", desc := "(II)I" } : Jvm.MethodName)) ∈ zW := zW_in (zTp4 (i := 19) rfl) rfl
set_option maxRecDepth 100000 in
theorem w_740 : (Jvm.Cond.instanceMethod ({ cls := "Taskgraphic", name := "setSlowness", desc := "(II)I" } : Jvm.MethodName)) ∈ zW := zW_in (zTp4 (i := 20) rfl) rfl
set_option maxRecDepth 100000 in
theorem w_741 : (Jvm.Cond.selects "Taskgraphic" ({ cls := "Taskgraphic", name := "setSlowness", desc := "(II)I" } : Jvm.MethodName) ({ cls := "Taskgraphic", name := "setSlowness", desc := "(II)I" } : Jvm.MethodName)) ∈ zW := zW_in (zTp4 (i := 21) rfl) rfl
set_option maxRecDepth 100000 in
theorem w_742 : (Jvm.Cond.code ({ cls := "Taskgraphic", name := "setSlowness", desc := "(II)I" } : Jvm.MethodName) prog_1_method_19_code (4 : Nat) (Option.some Jvm.ClassFile.FieldType.int)) ∈ zW := zW_in (zTp4 (i := 22) rfl) rfl
set_option maxRecDepth 100000 in
theorem w_747 : (Jvm.Cond.methodLink "TaskgraphicLaw" (46 : Nat) ({ cls := "Taskgraphic", name := "setMemory", desc := "(I)I" } : Jvm.MethodName)) ∈ zW := zW_in (zTp4 (i := 27) rfl) rfl
set_option maxRecDepth 100000 in
theorem w_748 : (Jvm.Cond.instanceMethod ({ cls := "Taskgraphic", name := "setMemory", desc := "(I)I" } : Jvm.MethodName)) ∈ zW := zW_in (zTp4 (i := 28) rfl) rfl
set_option maxRecDepth 100000 in
theorem w_749 : (Jvm.Cond.selects "Taskgraphic" ({ cls := "Taskgraphic", name := "setMemory", desc := "(I)I" } : Jvm.MethodName) ({ cls := "Taskgraphic", name := "setMemory", desc := "(I)I" } : Jvm.MethodName)) ∈ zW := zW_in (zTp4 (i := 29) rfl) rfl
set_option maxRecDepth 100000 in
theorem w_750 : (Jvm.Cond.code ({ cls := "Taskgraphic", name := "setMemory", desc := "(I)I" } : Jvm.MethodName) prog_1_method_20_code (3 : Nat) (Option.some Jvm.ClassFile.FieldType.int)) ∈ zW := zW_in (zTp4 (i := 30) rfl) rfl
set_option maxRecDepth 100000 in
theorem w_755 : (Jvm.Cond.methodLink "TaskgraphicLaw" (49 : Nat) ({ cls := "Taskgraphic", name := "setLimit", desc := "(I)I" } : Jvm.MethodName)) ∈ zW := zW_in (zTp4 (i := 35) rfl) rfl
set_option maxRecDepth 100000 in
theorem w_756 : (Jvm.Cond.instanceMethod ({ cls := "Taskgraphic", name := "setLimit", desc := "(I)I" } : Jvm.MethodName)) ∈ zW := zW_in (zTp4 (i := 36) rfl) rfl
set_option maxRecDepth 100000 in
theorem w_757 : (Jvm.Cond.selects "Taskgraphic" ({ cls := "Taskgraphic", name := "setLimit", desc := "(I)I" } : Jvm.MethodName) ({ cls := "Taskgraphic", name := "setLimit", desc := "(I)I" } : Jvm.MethodName)) ∈ zW := zW_in (zTp4 (i := 37) rfl) rfl
set_option maxRecDepth 100000 in
theorem w_758 : (Jvm.Cond.code ({ cls := "Taskgraphic", name := "setLimit", desc := "(I)I" } : Jvm.MethodName) prog_1_method_21_code (3 : Nat) (Option.some Jvm.ClassFile.FieldType.int)) ∈ zW := zW_in (zTp4 (i := 38) rfl) rfl
set_option maxRecDepth 100000 in
theorem w_763 : (Jvm.Cond.methodLink "TaskgraphicLaw" (52 : Nat) ({ cls := "Taskgraphic", name := "setRoom", desc := "(I)I" } : Jvm.MethodName)) ∈ zW := zW_in (zTp4 (i := 43) rfl) rfl
set_option maxRecDepth 100000 in
theorem w_764 : (Jvm.Cond.instanceMethod ({ cls := "Taskgraphic", name := "setRoom", desc := "(I)I" } : Jvm.MethodName)) ∈ zW := zW_in (zTp4 (i := 44) rfl) rfl
set_option maxRecDepth 100000 in
theorem w_765 : (Jvm.Cond.selects "Taskgraphic" ({ cls := "Taskgraphic", name := "setRoom", desc := "(I)I" } : Jvm.MethodName) ({ cls := "Taskgraphic", name := "setRoom", desc := "(I)I" } : Jvm.MethodName)) ∈ zW := zW_in (zTp4 (i := 45) rfl) rfl
set_option maxRecDepth 100000 in
theorem w_766 : (Jvm.Cond.code ({ cls := "Taskgraphic", name := "setRoom", desc := "(I)I" } : Jvm.MethodName) prog_1_method_22_code (2 : Nat) (Option.some Jvm.ClassFile.FieldType.int)) ∈ zW := zW_in (zTp4 (i := 46) rfl) rfl
set_option maxRecDepth 100000 in
theorem w_778 : (Jvm.Cond.methodLink "TaskgraphicLaw" (55 : Nat) ({ cls := "Taskgraphic", name := "run", desc := "(I)I" } : Jvm.MethodName)) ∈ zW := zW_in (zTp4 (i := 58) rfl) rfl
set_option maxRecDepth 100000 in
theorem w_779 : (Jvm.Cond.instanceMethod ({ cls := "Taskgraphic", name := "run", desc := "(I)I" } : Jvm.MethodName)) ∈ zW := zW_in (zTp4 (i := 59) rfl) rfl
set_option maxRecDepth 100000 in
theorem w_780 : (Jvm.Cond.selects "Taskgraphic" ({ cls := "Taskgraphic", name := "run", desc := "(I)I" } : Jvm.MethodName) ({ cls := "Taskgraphic", name := "run", desc := "(I)I" } : Jvm.MethodName)) ∈ zW := zW_in (zTp4 (i := 60) rfl) rfl
set_option maxRecDepth 100000 in
theorem w_781 : (Jvm.Cond.code ({ cls := "Taskgraphic", name := "run", desc := "(I)I" } : Jvm.MethodName) prog_1_method_27_code (4 : Nat) (Option.some Jvm.ClassFile.FieldType.int)) ∈ zW := zW_in (zTp4 (i := 61) rfl) rfl
set_option maxRecDepth 100000 in
theorem w_1048 : (Jvm.Cond.methodLink "TaskgraphicLaw" (102 : Nat) ({ cls := "TaskgraphicLaw", name := "asks", desc := "(LTaskgraphic;IIII)I" } : Jvm.MethodName)) ∈ zW := zW_in (zTp5 (i := 88) rfl) rfl
set_option maxRecDepth 100000 in
theorem w_1049 : (Jvm.Cond.static ({ cls := "TaskgraphicLaw", name := "asks", desc := "(LTaskgraphic;IIII)I" } : Jvm.MethodName)) ∈ zW := zW_in (zTp5 (i := 89) rfl) rfl
set_option maxRecDepth 100000 in
theorem w_1050 : (Jvm.Cond.codeWith ({ cls := "TaskgraphicLaw", name := "asks", desc := "(LTaskgraphic;IIII)I" } : Jvm.MethodName) method_5_code (6 : Nat) (Option.some Jvm.ClassFile.FieldType.int) [((0 : Nat), (168 : Nat), (169 : Nat), (34 : Nat))]) ∈ zW := zW_in (zTp5 (i := 90) rfl) rfl
set_option maxRecDepth 100000 in
theorem w_1051 : (Jvm.Cond.methodLink "TaskgraphicLaw" (58 : Nat) ({ cls := "Taskgraphic", name := "partitions", desc := "(I)I" } : Jvm.MethodName)) ∈ zW := zW_in (zTp5 (i := 91) rfl) rfl
set_option maxRecDepth 100000 in
theorem w_1052 : (Jvm.Cond.instanceMethod ({ cls := "Taskgraphic", name := "partitions", desc := "(I)I" } : Jvm.MethodName)) ∈ zW := zW_in (zTp5 (i := 92) rfl) rfl
set_option maxRecDepth 100000 in
theorem w_1053 : (Jvm.Cond.selects "Taskgraphic" ({ cls := "Taskgraphic", name := "partitions", desc := "(I)I" } : Jvm.MethodName) ({ cls := "Taskgraphic", name := "partitions", desc := "(I)I" } : Jvm.MethodName)) ∈ zW := zW_in (zTp5 (i := 93) rfl) rfl
set_option maxRecDepth 100000 in
theorem w_1054 : (Jvm.Cond.code ({ cls := "Taskgraphic", name := "partitions", desc := "(I)I" } : Jvm.MethodName) prog_1_method_10_code (2 : Nat) (Option.some Jvm.ClassFile.FieldType.int)) ∈ zW := zW_in (zTp5 (i := 94) rfl) rfl
set_option maxRecDepth 100000 in
theorem w_1055 : (Jvm.Cond.methodLink "TaskgraphicLaw" (61 : Nat) ({ cls := "Taskgraphic", name := "rowsIn", desc := "(II)I" } : Jvm.MethodName)) ∈ zW := zW_in (zTp5 (i := 95) rfl) rfl
set_option maxRecDepth 100000 in
theorem w_1056 : (Jvm.Cond.instanceMethod ({ cls := "Taskgraphic", name := "rowsIn", desc := "(II)I" } : Jvm.MethodName)) ∈ zW := zW_in (zTp5 (i := 96) rfl) rfl
set_option maxRecDepth 100000 in
theorem w_1057 : (Jvm.Cond.selects "Taskgraphic" ({ cls := "Taskgraphic", name := "rowsIn", desc := "(II)I" } : Jvm.MethodName) ({ cls := "Taskgraphic", name := "rowsIn", desc := "(II)I" } : Jvm.MethodName)) ∈ zW := zW_in (zTp5 (i := 97) rfl) rfl
set_option maxRecDepth 100000 in
theorem w_1058 : (Jvm.Cond.code ({ cls := "Taskgraphic", name := "rowsIn", desc := "(II)I" } : Jvm.MethodName) prog_1_method_11_code (4 : Nat) (Option.some Jvm.ClassFile.FieldType.int)) ∈ zW := zW_in (zTp5 (i := 98) rfl) rfl
set_option maxRecDepth 100000 in
theorem w_1064 : (Jvm.Cond.methodLink "TaskgraphicLaw" (64 : Nat) ({ cls := "Taskgraphic", name := "rows", desc := "(I)I" } : Jvm.MethodName)) ∈ zW := zW_in (zTp5 (i := 104) rfl) rfl
set_option maxRecDepth 100000 in
theorem w_1065 : (Jvm.Cond.instanceMethod ({ cls := "Taskgraphic", name := "rows", desc := "(I)I" } : Jvm.MethodName)) ∈ zW := zW_in (zTp5 (i := 105) rfl) rfl
set_option maxRecDepth 100000 in
theorem w_1066 : (Jvm.Cond.selects "Taskgraphic" ({ cls := "Taskgraphic", name := "rows", desc := "(I)I" } : Jvm.MethodName) ({ cls := "Taskgraphic", name := "rows", desc := "(I)I" } : Jvm.MethodName)) ∈ zW := zW_in (zTp5 (i := 106) rfl) rfl
set_option maxRecDepth 100000 in
theorem w_1067 : (Jvm.Cond.code ({ cls := "Taskgraphic", name := "rows", desc := "(I)I" } : Jvm.MethodName) prog_1_method_12_code (2 : Nat) (Option.some Jvm.ClassFile.FieldType.int)) ∈ zW := zW_in (zTp5 (i := 107) rfl) rfl
set_option maxRecDepth 100000 in
theorem w_1068 : (Jvm.Cond.methodLink "TaskgraphicLaw" (67 : Nat) ({ cls := "Taskgraphic", name := "keyAt", desc := "(III)I" } : Jvm.MethodName)) ∈ zW := zW_in (zTp5 (i := 108) rfl) rfl
set_option maxRecDepth 100000 in
theorem w_1069 : (Jvm.Cond.instanceMethod ({ cls := "Taskgraphic", name := "keyAt", desc := "(III)I" } : Jvm.MethodName)) ∈ zW := zW_in (zTp5 (i := 109) rfl) rfl
set_option maxRecDepth 100000 in
theorem w_1070 : (Jvm.Cond.selects "Taskgraphic" ({ cls := "Taskgraphic", name := "keyAt", desc := "(III)I" } : Jvm.MethodName) ({ cls := "Taskgraphic", name := "keyAt", desc := "(III)I" } : Jvm.MethodName)) ∈ zW := zW_in (zTp5 (i := 110) rfl) rfl
set_option maxRecDepth 100000 in
theorem w_1071 : (Jvm.Cond.code ({ cls := "Taskgraphic", name := "keyAt", desc := "(III)I" } : Jvm.MethodName) prog_1_method_13_code (5 : Nat) (Option.some Jvm.ClassFile.FieldType.int)) ∈ zW := zW_in (zTp5 (i := 111) rfl) rfl
set_option maxRecDepth 100000 in
theorem w_1078 : (Jvm.Cond.methodLink "TaskgraphicLaw" (70 : Nat) ({ cls := "Taskgraphic", name := "valueAt", desc := "(III)I" } : Jvm.MethodName)) ∈ zW := zW_in (zTp5 (i := 118) rfl) rfl
set_option maxRecDepth 100000 in
theorem w_1079 : (Jvm.Cond.instanceMethod ({ cls := "Taskgraphic", name := "valueAt", desc := "(III)I" } : Jvm.MethodName)) ∈ zW := zW_in (zTp5 (i := 119) rfl) rfl
set_option maxRecDepth 100000 in
theorem w_1080 : (Jvm.Cond.selects "Taskgraphic" ({ cls := "Taskgraphic", name := "valueAt", desc := "(III)I" } : Jvm.MethodName) ({ cls := "Taskgraphic", name := "valueAt", desc := "(III)I" } : Jvm.MethodName)) ∈ zW := zW_in (zTp5 (i := 120) rfl) rfl
set_option maxRecDepth 100000 in
theorem w_1081 : (Jvm.Cond.code ({ cls := "Taskgraphic", name := "valueAt", desc := "(III)I" } : Jvm.MethodName) prog_1_method_14_code (5 : Nat) (Option.some Jvm.ClassFile.FieldType.int)) ∈ zW := zW_in (zTp5 (i := 121) rfl) rfl
set_option maxRecDepth 100000 in
theorem w_1083 : (Jvm.Cond.methodLink "TaskgraphicLaw" (73 : Nat) ({ cls := "Taskgraphic", name := "digest", desc := "(I)I" } : Jvm.MethodName)) ∈ zW := zW_in (zTp5 (i := 123) rfl) rfl
set_option maxRecDepth 100000 in
theorem w_1084 : (Jvm.Cond.instanceMethod ({ cls := "Taskgraphic", name := "digest", desc := "(I)I" } : Jvm.MethodName)) ∈ zW := zW_in (zTp5 (i := 124) rfl) rfl
set_option maxRecDepth 100000 in
theorem w_1085 : (Jvm.Cond.selects "Taskgraphic" ({ cls := "Taskgraphic", name := "digest", desc := "(I)I" } : Jvm.MethodName) ({ cls := "Taskgraphic", name := "digest", desc := "(I)I" } : Jvm.MethodName)) ∈ zW := zW_in (zTp5 (i := 125) rfl) rfl
set_option maxRecDepth 100000 in
theorem w_1086 : (Jvm.Cond.code ({ cls := "Taskgraphic", name := "digest", desc := "(I)I" } : Jvm.MethodName) prog_1_method_16_code (2 : Nat) (Option.some Jvm.ClassFile.FieldType.int)) ∈ zW := zW_in (zTp5 (i := 126) rfl) rfl
set_option maxRecDepth 100000 in
theorem w_1091 : (Jvm.Cond.methodLink "TaskgraphicLaw" (76 : Nat) ({ cls := "Taskgraphic", name := "stages", desc := "(I)I" } : Jvm.MethodName)) ∈ zW := zW_in (zTp5 (i := 131) rfl) rfl
set_option maxRecDepth 100000 in
theorem w_1092 : (Jvm.Cond.instanceMethod ({ cls := "Taskgraphic", name := "stages", desc := "(I)I" } : Jvm.MethodName)) ∈ zW := zW_in (zTp5 (i := 132) rfl) rfl
set_option maxRecDepth 100000 in
theorem w_1093 : (Jvm.Cond.selects "Taskgraphic" ({ cls := "Taskgraphic", name := "stages", desc := "(I)I" } : Jvm.MethodName) ({ cls := "Taskgraphic", name := "stages", desc := "(I)I" } : Jvm.MethodName)) ∈ zW := zW_in (zTp5 (i := 133) rfl) rfl
set_option maxRecDepth 100000 in
theorem w_1094 : (Jvm.Cond.code ({ cls := "Taskgraphic", name := "stages", desc := "(I)I" } : Jvm.MethodName) prog_1_method_25_code (2 : Nat) (Option.some Jvm.ClassFile.FieldType.int)) ∈ zW := zW_in (zTp5 (i := 134) rfl) rfl
set_option maxRecDepth 100000 in
theorem w_1105 : (Jvm.Cond.methodLink "TaskgraphicLaw" (79 : Nat) ({ cls := "Taskgraphic", name := "outputOf", desc := "(II)I" } : Jvm.MethodName)) ∈ zW := zW_in (zTp5 (i := 145) rfl) rfl
set_option maxRecDepth 100000 in
theorem w_1106 : (Jvm.Cond.instanceMethod ({ cls := "Taskgraphic", name := "outputOf", desc := "(II)I" } : Jvm.MethodName)) ∈ zW := zW_in (zTp5 (i := 146) rfl) rfl
set_option maxRecDepth 100000 in
theorem w_1107 : (Jvm.Cond.selects "Taskgraphic" ({ cls := "Taskgraphic", name := "outputOf", desc := "(II)I" } : Jvm.MethodName) ({ cls := "Taskgraphic", name := "outputOf", desc := "(II)I" } : Jvm.MethodName)) ∈ zW := zW_in (zTp5 (i := 147) rfl) rfl
set_option maxRecDepth 100000 in
theorem w_1108 : (Jvm.Cond.code ({ cls := "Taskgraphic", name := "outputOf", desc := "(II)I" } : Jvm.MethodName) prog_1_method_26_code (3 : Nat) (Option.some Jvm.ClassFile.FieldType.int)) ∈ zW := zW_in (zTp5 (i := 148) rfl) rfl
set_option maxRecDepth 100000 in
theorem w_1114 : (Jvm.Cond.methodLink "TaskgraphicLaw" (82 : Nat) ({ cls := "Taskgraphic", name := "nodeOf", desc := "(I)I" } : Jvm.MethodName)) ∈ zW := zW_in (zTp5 (i := 154) rfl) rfl
set_option maxRecDepth 100000 in
theorem w_1115 : (Jvm.Cond.instanceMethod ({ cls := "Taskgraphic", name := "nodeOf", desc := "(I)I" } : Jvm.MethodName)) ∈ zW := zW_in (zTp5 (i := 155) rfl) rfl
set_option maxRecDepth 100000 in
theorem w_1116 : (Jvm.Cond.selects "Taskgraphic" ({ cls := "Taskgraphic", name := "nodeOf", desc := "(I)I" } : Jvm.MethodName) ({ cls := "Taskgraphic", name := "nodeOf", desc := "(I)I" } : Jvm.MethodName)) ∈ zW := zW_in (zTp5 (i := 156) rfl) rfl
set_option maxRecDepth 100000 in
theorem w_1117 : (Jvm.Cond.code ({ cls := "Taskgraphic", name := "nodeOf", desc := "(I)I" } : Jvm.MethodName) prog_1_method_31_code (2 : Nat) (Option.some Jvm.ClassFile.FieldType.int)) ∈ zW := zW_in (zTp5 (i := 157) rfl) rfl
set_option maxRecDepth 100000 in
theorem w_1123 : (Jvm.Cond.methodLink "TaskgraphicLaw" (85 : Nat) ({ cls := "Taskgraphic", name := "startOf", desc := "(I)I" } : Jvm.MethodName)) ∈ zW := zW_in (zTp5 (i := 163) rfl) rfl
set_option maxRecDepth 100000 in
theorem w_1124 : (Jvm.Cond.instanceMethod ({ cls := "Taskgraphic", name := "startOf", desc := "(I)I" } : Jvm.MethodName)) ∈ zW := zW_in (zTp5 (i := 164) rfl) rfl
set_option maxRecDepth 100000 in
theorem w_1125 : (Jvm.Cond.selects "Taskgraphic" ({ cls := "Taskgraphic", name := "startOf", desc := "(I)I" } : Jvm.MethodName) ({ cls := "Taskgraphic", name := "startOf", desc := "(I)I" } : Jvm.MethodName)) ∈ zW := zW_in (zTp5 (i := 165) rfl) rfl
set_option maxRecDepth 100000 in
theorem w_1126 : (Jvm.Cond.code ({ cls := "Taskgraphic", name := "startOf", desc := "(I)I" } : Jvm.MethodName) prog_1_method_34_code (2 : Nat) (Option.some Jvm.ClassFile.FieldType.int)) ∈ zW := zW_in (zTp5 (i := 166) rfl) rfl
set_option maxRecDepth 100000 in
theorem w_1127 : (Jvm.Cond.methodLink "TaskgraphicLaw" (88 : Nat) ({ cls := "Taskgraphic", name := "isCached", desc := "(I)Z" } : Jvm.MethodName)) ∈ zW := zW_in (zTp5 (i := 167) rfl) rfl
set_option maxRecDepth 100000 in
theorem w_1128 : (Jvm.Cond.instanceMethod ({ cls := "Taskgraphic", name := "isCached", desc := "(I)Z" } : Jvm.MethodName)) ∈ zW := zW_in (zTp5 (i := 168) rfl) rfl
set_option maxRecDepth 100000 in
theorem w_1129 : (Jvm.Cond.selects "Taskgraphic" ({ cls := "Taskgraphic", name := "isCached", desc := "(I)Z" } : Jvm.MethodName) ({ cls := "Taskgraphic", name := "isCached", desc := "(I)Z" } : Jvm.MethodName)) ∈ zW := zW_in (zTp5 (i := 169) rfl) rfl
set_option maxRecDepth 100000 in
theorem w_1130 : (Jvm.Cond.code ({ cls := "Taskgraphic", name := "isCached", desc := "(I)Z" } : Jvm.MethodName) prog_1_method_24_code (2 : Nat) (Option.some Jvm.ClassFile.FieldType.boolean)) ∈ zW := zW_in (zTp5 (i := 170) rfl) rfl
set_option maxRecDepth 100000 in
theorem w_1131 : (Jvm.Cond.methodLink "TaskgraphicLaw" (92 : Nat) ({ cls := "Taskgraphic", name := "digestInPlace", desc := "(I)I" } : Jvm.MethodName)) ∈ zW := zW_in (zTp5 (i := 171) rfl) rfl
set_option maxRecDepth 100000 in
theorem w_1132 : (Jvm.Cond.instanceMethod ({ cls := "Taskgraphic", name := "digestInPlace", desc := "(I)I" } : Jvm.MethodName)) ∈ zW := zW_in (zTp5 (i := 172) rfl) rfl
set_option maxRecDepth 100000 in
theorem w_1133 : (Jvm.Cond.selects "Taskgraphic" ({ cls := "Taskgraphic", name := "digestInPlace", desc := "(I)I" } : Jvm.MethodName) ({ cls := "Taskgraphic", name := "digestInPlace", desc := "(I)I" } : Jvm.MethodName)) ∈ zW := zW_in (zTp5 (i := 173) rfl) rfl
set_option maxRecDepth 100000 in
theorem w_1134 : (Jvm.Cond.code ({ cls := "Taskgraphic", name := "digestInPlace", desc := "(I)I" } : Jvm.MethodName) prog_1_method_17_code (2 : Nat) (Option.some Jvm.ClassFile.FieldType.int)) ∈ zW := zW_in (zTp5 (i := 174) rfl) rfl
set_option maxRecDepth 100000 in
theorem w_1135 : (Jvm.Cond.methodLink "TaskgraphicLaw" (205 : Nat) ({ cls := "TaskgraphicLaw", name := "areNodes", desc := "(LTaskgraphic;[I[I[I[I[I[I[I)Z" } : Jvm.MethodName)) ∈ zW := zW_in (zTp5 (i := 175) rfl) rfl
set_option maxRecDepth 100000 in
theorem w_1136 : (Jvm.Cond.static ({ cls := "TaskgraphicLaw", name := "areNodes", desc := "(LTaskgraphic;[I[I[I[I[I[I[I)Z" } : Jvm.MethodName)) ∈ zW := zW_in (zTp5 (i := 176) rfl) rfl
set_option maxRecDepth 100000 in
theorem w_1137 : (Jvm.Cond.code ({ cls := "TaskgraphicLaw", name := "areNodes", desc := "(LTaskgraphic;[I[I[I[I[I[I[I)Z" } : Jvm.MethodName) method_16_code (13 : Nat) (Option.some Jvm.ClassFile.FieldType.boolean)) ∈ zW := zW_in (zTp5 (i := 177) rfl) rfl
set_option maxRecDepth 100000 in
theorem w_1138 : (Jvm.Cond.methodLink "TaskgraphicLaw" (119 : Nat) ({ cls := "TaskgraphicLaw", name := "broad", desc := "(LTaskgraphic;I)I" } : Jvm.MethodName)) ∈ zW := zW_in (zTp5 (i := 178) rfl) rfl
set_option maxRecDepth 100000 in
theorem w_1139 : (Jvm.Cond.static ({ cls := "TaskgraphicLaw", name := "broad", desc := "(LTaskgraphic;I)I" } : Jvm.MethodName)) ∈ zW := zW_in (zTp5 (i := 179) rfl) rfl
set_option maxRecDepth 100000 in
theorem w_1140 : (Jvm.Cond.codeWith ({ cls := "TaskgraphicLaw", name := "broad", desc := "(LTaskgraphic;I)I" } : Jvm.MethodName) method_6_code (3 : Nat) (Option.some Jvm.ClassFile.FieldType.int) [((0 : Nat), (13 : Nat), (14 : Nat), (34 : Nat)), ((0 : Nat), (13 : Nat), (18 : Nat), (38 : Nat))]) ∈ zW := zW_in (zTp5 (i := 180) rfl) rfl
set_option maxRecDepth 100000 in
theorem w_1141 : (Jvm.Cond.methodLink "TaskgraphicLaw" (95 : Nat) ({ cls := "Taskgraphic", name := "isBroad", desc := "(I)Z" } : Jvm.MethodName)) ∈ zW := zW_in (zTp5 (i := 181) rfl) rfl
set_option maxRecDepth 100000 in
theorem w_1142 : (Jvm.Cond.instanceMethod ({ cls := "Taskgraphic", name := "isBroad", desc := "(I)Z" } : Jvm.MethodName)) ∈ zW := zW_in (zTp5 (i := 182) rfl) rfl
set_option maxRecDepth 100000 in
theorem w_1143 : (Jvm.Cond.selects "Taskgraphic" ({ cls := "Taskgraphic", name := "isBroad", desc := "(I)Z" } : Jvm.MethodName) ({ cls := "Taskgraphic", name := "isBroad", desc := "(I)Z" } : Jvm.MethodName)) ∈ zW := zW_in (zTp5 (i := 183) rfl) rfl
set_option maxRecDepth 100000 in
theorem w_1144 : (Jvm.Cond.code ({ cls := "Taskgraphic", name := "isBroad", desc := "(I)Z" } : Jvm.MethodName) prog_1_method_15_code (2 : Nat) (Option.some Jvm.ClassFile.FieldType.boolean)) ∈ zW := zW_in (zTp5 (i := 184) rfl) rfl
set_option maxRecDepth 100000 in
theorem w_1147 : (Jvm.Cond.methodLink "TaskgraphicLaw" (143 : Nat) ({ cls := "TaskgraphicLaw", name := "isNode", desc := "(LTaskgraphic;[I[I[I[I[I[I[II)Z" } : Jvm.MethodName)) ∈ zW := zW_in (zTp5 (i := 187) rfl) rfl
set_option maxRecDepth 100000 in
theorem w_1148 : (Jvm.Cond.static ({ cls := "TaskgraphicLaw", name := "isNode", desc := "(LTaskgraphic;[I[I[I[I[I[I[II)Z" } : Jvm.MethodName)) ∈ zW := zW_in (zTp5 (i := 188) rfl) rfl
set_option maxRecDepth 100000 in
theorem w_1149 : (Jvm.Cond.code ({ cls := "TaskgraphicLaw", name := "isNode", desc := "(LTaskgraphic;[I[I[I[I[I[I[II)Z" } : Jvm.MethodName) method_15_code (17 : Nat) (Option.some Jvm.ClassFile.FieldType.boolean)) ∈ zW := zW_in (zTp5 (i := 189) rfl) rfl
set_option maxRecDepth 100000 in
theorem w_1150 : (Jvm.Cond.methodLink "TaskgraphicLaw" (123 : Nat) ({ cls := "TaskgraphicLaw", name := "isMapped", desc := "(LTaskgraphic;[I[I[I[I[II)Z" } : Jvm.MethodName)) ∈ zW := zW_in (zTp5 (i := 190) rfl) rfl
set_option maxRecDepth 100000 in
theorem w_1151 : (Jvm.Cond.static ({ cls := "TaskgraphicLaw", name := "isMapped", desc := "(LTaskgraphic;[I[I[I[I[II)Z" } : Jvm.MethodName)) ∈ zW := zW_in (zTp5 (i := 191) rfl) rfl
set_option maxRecDepth 100000 in
theorem w_1152 : (Jvm.Cond.code ({ cls := "TaskgraphicLaw", name := "isMapped", desc := "(LTaskgraphic;[I[I[I[I[II)Z" } : Jvm.MethodName) method_10_code (16 : Nat) (Option.some Jvm.ClassFile.FieldType.boolean)) ∈ zW := zW_in (zTp5 (i := 192) rfl) rfl
set_option maxRecDepth 100000 in
theorem w_1153 : (Jvm.Cond.methodLink "TaskgraphicLaw" (108 : Nat) ({ cls := "TaskgraphicLaw", name := "isRow", desc := "(LTaskgraphic;IIIII)Z" } : Jvm.MethodName)) ∈ zW := zW_in (zTp5 (i := 193) rfl) rfl
set_option maxRecDepth 100000 in
theorem w_1154 : (Jvm.Cond.static ({ cls := "TaskgraphicLaw", name := "isRow", desc := "(LTaskgraphic;IIIII)Z" } : Jvm.MethodName)) ∈ zW := zW_in (zTp5 (i := 194) rfl) rfl
set_option maxRecDepth 100000 in
theorem w_1155 : (Jvm.Cond.code ({ cls := "TaskgraphicLaw", name := "isRow", desc := "(LTaskgraphic;IIIII)Z" } : Jvm.MethodName) method_9_code (6 : Nat) (Option.some Jvm.ClassFile.FieldType.boolean)) ∈ zW := zW_in (zTp5 (i := 195) rfl) rfl
set_option maxRecDepth 100000 in
theorem w_1156 : (Jvm.Cond.methodLink "TaskgraphicLaw" (112 : Nat) ({ cls := "TaskgraphicLaw", name := "share", desc := "(II)I" } : Jvm.MethodName)) ∈ zW := zW_in (zTp5 (i := 196) rfl) rfl
set_option maxRecDepth 100000 in
theorem w_1157 : (Jvm.Cond.static ({ cls := "TaskgraphicLaw", name := "share", desc := "(II)I" } : Jvm.MethodName)) ∈ zW := zW_in (zTp5 (i := 197) rfl) rfl
set_option maxRecDepth 100000 in
theorem w_1158 : (Jvm.Cond.code ({ cls := "TaskgraphicLaw", name := "share", desc := "(II)I" } : Jvm.MethodName) method_8_code (2 : Nat) (Option.some Jvm.ClassFile.FieldType.int)) ∈ zW := zW_in (zTp5 (i := 198) rfl) rfl
set_option maxRecDepth 100000 in
theorem w_1159 : (Jvm.Cond.methodLink "TaskgraphicLaw" (127 : Nat) ({ cls := "TaskgraphicLaw", name := "isUnion", desc := "(LTaskgraphic;[I[II)Z" } : Jvm.MethodName)) ∈ zW := zW_in (zTp5 (i := 199) rfl) rfl
set_option maxRecDepth 100000 in
theorem w_1160 : (Jvm.Cond.static ({ cls := "TaskgraphicLaw", name := "isUnion", desc := "(LTaskgraphic;[I[II)Z" } : Jvm.MethodName)) ∈ zW := zW_in (zTp5 (i := 200) rfl) rfl
set_option maxRecDepth 100000 in
theorem w_1161 : (Jvm.Cond.code ({ cls := "TaskgraphicLaw", name := "isUnion", desc := "(LTaskgraphic;[I[II)Z" } : Jvm.MethodName) method_11_code (10 : Nat) (Option.some Jvm.ClassFile.FieldType.boolean)) ∈ zW := zW_in (zTp5 (i := 201) rfl) rfl
set_option maxRecDepth 100000 in
theorem w_1162 : (Jvm.Cond.methodLink "TaskgraphicLaw" (131 : Nat) ({ cls := "TaskgraphicLaw", name := "isGroup", desc := "(LTaskgraphic;[I[I[II)Z" } : Jvm.MethodName)) ∈ zW := zW_in (zTp5 (i := 202) rfl) rfl
set_option maxRecDepth 100000 in
theorem w_1163 : (Jvm.Cond.static ({ cls := "TaskgraphicLaw", name := "isGroup", desc := "(LTaskgraphic;[I[I[II)Z" } : Jvm.MethodName)) ∈ zW := zW_in (zTp5 (i := 203) rfl) rfl
set_option maxRecDepth 100000 in
theorem w_1164 : (Jvm.Cond.code ({ cls := "TaskgraphicLaw", name := "isGroup", desc := "(LTaskgraphic;[I[I[II)Z" } : Jvm.MethodName) method_13_code (11 : Nat) (Option.some Jvm.ClassFile.FieldType.boolean)) ∈ zW := zW_in (zTp5 (i := 204) rfl) rfl
set_option maxRecDepth 100000 in
theorem w_1165 : (Jvm.Cond.methodLink "TaskgraphicLaw" (115 : Nat) ({ cls := "TaskgraphicLaw", name := "grouped", desc := "(LTaskgraphic;III)I" } : Jvm.MethodName)) ∈ zW := zW_in (zTp5 (i := 205) rfl) rfl
set_option maxRecDepth 100000 in
theorem w_1166 : (Jvm.Cond.static ({ cls := "TaskgraphicLaw", name := "grouped", desc := "(LTaskgraphic;III)I" } : Jvm.MethodName)) ∈ zW := zW_in (zTp5 (i := 206) rfl) rfl
set_option maxRecDepth 100000 in
theorem w_1167 : (Jvm.Cond.code ({ cls := "TaskgraphicLaw", name := "grouped", desc := "(LTaskgraphic;III)I" } : Jvm.MethodName) method_12_code (9 : Nat) (Option.some Jvm.ClassFile.FieldType.int)) ∈ zW := zW_in (zTp5 (i := 207) rfl) rfl
set_option maxRecDepth 100000 in
theorem w_1168 : (Jvm.Cond.methodLink "TaskgraphicLaw" (135 : Nat) ({ cls := "TaskgraphicLaw", name := "isJoin", desc := "(LTaskgraphic;[I[I[I[II)Z" } : Jvm.MethodName)) ∈ zW := zW_in (zTp5 (i := 208) rfl) rfl
set_option maxRecDepth 100000 in
theorem w_1169 : (Jvm.Cond.static ({ cls := "TaskgraphicLaw", name := "isJoin", desc := "(LTaskgraphic;[I[I[I[II)Z" } : Jvm.MethodName)) ∈ zW := zW_in (zTp5 (i := 209) rfl) rfl
set_option maxRecDepth 100000 in
theorem w_1170 : (Jvm.Cond.code ({ cls := "TaskgraphicLaw", name := "isJoin", desc := "(LTaskgraphic;[I[I[I[II)Z" } : Jvm.MethodName) method_14_code (14 : Nat) (Option.some Jvm.ClassFile.FieldType.boolean)) ∈ zW := zW_in (zTp5 (i := 210) rfl) rfl
set_option maxRecDepth 100000 in
theorem w_1171 : (Jvm.Cond.methodLink "TaskgraphicLaw" (201 : Nat) ({ cls := "TaskgraphicLaw", name := "isDone", desc := "(LTaskgraphic;[II[I[I[I[I[I[I[I[I)Z" } : Jvm.MethodName)) ∈ zW := zW_in (zTp5 (i := 211) rfl) rfl
set_option maxRecDepth 100000 in
theorem w_1172 : (Jvm.Cond.static ({ cls := "TaskgraphicLaw", name := "isDone", desc := "(LTaskgraphic;[II[I[I[I[I[I[I[I[I)Z" } : Jvm.MethodName)) ∈ zW := zW_in (zTp5 (i := 212) rfl) rfl
set_option maxRecDepth 100000 in
theorem w_1173 : (Jvm.Cond.code ({ cls := "TaskgraphicLaw", name := "isDone", desc := "(LTaskgraphic;[II[I[I[I[I[I[I[I[I)Z" } : Jvm.MethodName) method_21_code (18 : Nat) (Option.some Jvm.ClassFile.FieldType.boolean)) ∈ zW := zW_in (zTp5 (i := 213) rfl) rfl
set_option maxRecDepth 100000 in
theorem w_1174 : (Jvm.Cond.methodLink "TaskgraphicLaw" (181 : Nat) ({ cls := "TaskgraphicLaw", name := "part", desc := "([III)I" } : Jvm.MethodName)) ∈ zW := zW_in (zTp5 (i := 214) rfl) rfl
set_option maxRecDepth 100000 in
theorem w_1175 : (Jvm.Cond.static ({ cls := "TaskgraphicLaw", name := "part", desc := "([III)I" } : Jvm.MethodName)) ∈ zW := zW_in (zTp5 (i := 215) rfl) rfl
set_option maxRecDepth 100000 in
theorem w_1176 : (Jvm.Cond.code ({ cls := "TaskgraphicLaw", name := "part", desc := "([III)I" } : Jvm.MethodName) method_2_code (4 : Nat) (Option.some Jvm.ClassFile.FieldType.int)) ∈ zW := zW_in (zTp5 (i := 216) rfl) rfl
set_option maxRecDepth 100000 in
theorem w_1177 : (Jvm.Cond.constant "TaskgraphicLaw" (7 : Nat) (2147483647 : Int32)) ∈ zW := zW_in (zTp5 (i := 217) rfl) rfl
set_option maxRecDepth 100000 in
theorem w_1178 : (Jvm.Cond.methodLink "TaskgraphicLaw" (185 : Nat) ({ cls := "TaskgraphicLaw", name := "isMade", desc := "(LTaskgraphic;[I[I[I[I[I[I[IIII)Z" } : Jvm.MethodName)) ∈ zW := zW_in (zTp5 (i := 218) rfl) rfl
set_option maxRecDepth 100000 in
theorem w_1179 : (Jvm.Cond.static ({ cls := "TaskgraphicLaw", name := "isMade", desc := "(LTaskgraphic;[I[I[I[I[I[I[IIII)Z" } : Jvm.MethodName)) ∈ zW := zW_in (zTp5 (i := 219) rfl) rfl
set_option maxRecDepth 100000 in
theorem w_1180 : (Jvm.Cond.code ({ cls := "TaskgraphicLaw", name := "isMade", desc := "(LTaskgraphic;[I[I[I[I[I[I[IIII)Z" } : Jvm.MethodName) method_18_code (22 : Nat) (Option.some Jvm.ClassFile.FieldType.boolean)) ∈ zW := zW_in (zTp5 (i := 220) rfl) rfl
set_option maxRecDepth 100000 in
theorem w_1181 : (Jvm.Cond.methodLink "TaskgraphicLaw" (189 : Nat) ({ cls := "TaskgraphicLaw", name := "isPut", desc := "(LTaskgraphic;[I[IIII)Z" } : Jvm.MethodName)) ∈ zW := zW_in (zTp5 (i := 221) rfl) rfl
set_option maxRecDepth 100000 in
theorem w_1182 : (Jvm.Cond.static ({ cls := "TaskgraphicLaw", name := "isPut", desc := "(LTaskgraphic;[I[IIII)Z" } : Jvm.MethodName)) ∈ zW := zW_in (zTp5 (i := 222) rfl) rfl
set_option maxRecDepth 100000 in
theorem w_1183 : (Jvm.Cond.code ({ cls := "TaskgraphicLaw", name := "isPut", desc := "(LTaskgraphic;[I[IIII)Z" } : Jvm.MethodName) method_19_code (12 : Nat) (Option.some Jvm.ClassFile.FieldType.boolean)) ∈ zW := zW_in (zTp5 (i := 223) rfl) rfl
set_option maxRecDepth 100000 in
theorem w_1184 : (Jvm.Cond.methodLink "TaskgraphicLaw" (193 : Nat) ({ cls := "TaskgraphicLaw", name := "isRun", desc := "(LTaskgraphic;[I[II)Z" } : Jvm.MethodName)) ∈ zW := zW_in (zTp5 (i := 224) rfl) rfl
set_option maxRecDepth 100000 in
theorem w_1185 : (Jvm.Cond.static ({ cls := "TaskgraphicLaw", name := "isRun", desc := "(LTaskgraphic;[I[II)Z" } : Jvm.MethodName)) ∈ zW := zW_in (zTp5 (i := 225) rfl) rfl
set_option maxRecDepth 100000 in
theorem w_1186 : (Jvm.Cond.code ({ cls := "TaskgraphicLaw", name := "isRun", desc := "(LTaskgraphic;[I[II)Z" } : Jvm.MethodName) method_20_code (9 : Nat) (Option.some Jvm.ClassFile.FieldType.boolean)) ∈ zW := zW_in (zTp5 (i := 226) rfl) rfl
set_option maxRecDepth 100000 in
theorem w_1187 : (Jvm.Cond.methodLink "TaskgraphicLaw" (177 : Nat) ({ cls := "TaskgraphicLaw", name := "areAttempts", desc := "(LTaskgraphic;[II)Z" } : Jvm.MethodName)) ∈ zW := zW_in (zTp5 (i := 227) rfl) rfl
set_option maxRecDepth 100000 in
theorem w_1188 : (Jvm.Cond.static ({ cls := "TaskgraphicLaw", name := "areAttempts", desc := "(LTaskgraphic;[II)Z" } : Jvm.MethodName)) ∈ zW := zW_in (zTp5 (i := 228) rfl) rfl
set_option maxRecDepth 100000 in
theorem w_1189 : (Jvm.Cond.code ({ cls := "TaskgraphicLaw", name := "areAttempts", desc := "(LTaskgraphic;[II)Z" } : Jvm.MethodName) method_17_code (14 : Nat) (Option.some Jvm.ClassFile.FieldType.boolean)) ∈ zW := zW_in (zTp5 (i := 229) rfl) rfl
set_option maxRecDepth 100000 in
theorem w_1190 : (Jvm.Cond.methodLink "TaskgraphicLaw" (153 : Nat) ({ cls := "Taskgraphic", name := "spilled", desc := "()I" } : Jvm.MethodName)) ∈ zW := zW_in (zTp5 (i := 230) rfl) rfl
set_option maxRecDepth 100000 in
theorem w_1191 : (Jvm.Cond.instanceMethod ({ cls := "Taskgraphic", name := "spilled", desc := "()I" } : Jvm.MethodName)) ∈ zW := zW_in (zTp5 (i := 231) rfl) rfl
set_option maxRecDepth 100000 in
theorem w_1192 : (Jvm.Cond.selects "Taskgraphic" ({ cls := "Taskgraphic", name := "spilled", desc := "()I" } : Jvm.MethodName) ({ cls := "Taskgraphic", name := "spilled", desc := "()I" } : Jvm.MethodName)) ∈ zW := zW_in (zTp5 (i := 232) rfl) rfl
set_option maxRecDepth 100000 in
theorem w_1193 : (Jvm.Cond.code ({ cls := "Taskgraphic", name := "spilled", desc := "()I" } : Jvm.MethodName) prog_1_method_29_code (1 : Nat) (Option.some Jvm.ClassFile.FieldType.int)) ∈ zW := zW_in (zTp5 (i := 233) rfl) rfl
set_option maxRecDepth 100000 in
theorem w_1194 : (Jvm.Cond.methodLink "TaskgraphicLaw" (156 : Nat) ({ cls := "Taskgraphic", name := "endOf", desc := "(I)I" } : Jvm.MethodName)) ∈ zW := zW_in (zTp5 (i := 234) rfl) rfl
set_option maxRecDepth 100000 in
theorem w_1195 : (Jvm.Cond.instanceMethod ({ cls := "Taskgraphic", name := "endOf", desc := "(I)I" } : Jvm.MethodName)) ∈ zW := zW_in (zTp5 (i := 235) rfl) rfl
set_option maxRecDepth 100000 in
theorem w_1196 : (Jvm.Cond.selects "Taskgraphic" ({ cls := "Taskgraphic", name := "endOf", desc := "(I)I" } : Jvm.MethodName) ({ cls := "Taskgraphic", name := "endOf", desc := "(I)I" } : Jvm.MethodName)) ∈ zW := zW_in (zTp5 (i := 236) rfl) rfl
set_option maxRecDepth 100000 in
theorem w_1197 : (Jvm.Cond.code ({ cls := "Taskgraphic", name := "endOf", desc := "(I)I" } : Jvm.MethodName) prog_1_method_35_code (2 : Nat) (Option.some Jvm.ClassFile.FieldType.int)) ∈ zW := zW_in (zTp5 (i := 237) rfl) rfl
set_option maxRecDepth 100000 in
theorem w_1198 : (Jvm.Cond.methodLink "TaskgraphicLaw" (159 : Nat) ({ cls := "Taskgraphic", name := "workerOf", desc := "(I)I" } : Jvm.MethodName)) ∈ zW := zW_in (zTp5 (i := 238) rfl) rfl
set_option maxRecDepth 100000 in
theorem w_1199 : (Jvm.Cond.instanceMethod ({ cls := "Taskgraphic", name := "workerOf", desc := "(I)I" } : Jvm.MethodName)) ∈ zW := zW_in (zTp5 (i := 239) rfl) rfl
set_option maxRecDepth 100000 in
theorem w_1200 : (Jvm.Cond.selects "Taskgraphic" ({ cls := "Taskgraphic", name := "workerOf", desc := "(I)I" } : Jvm.MethodName) ({ cls := "Taskgraphic", name := "workerOf", desc := "(I)I" } : Jvm.MethodName)) ∈ zW := zW_in (zTp6 (i := 0) rfl) rfl
set_option maxRecDepth 100000 in
theorem w_1201 : (Jvm.Cond.code ({ cls := "Taskgraphic", name := "workerOf", desc := "(I)I" } : Jvm.MethodName) prog_1_method_33_code (2 : Nat) (Option.some Jvm.ClassFile.FieldType.int)) ∈ zW := zW_in (zTp6 (i := 1) rfl) rfl
set_option maxRecDepth 100000 in
theorem w_1202 : (Jvm.Cond.methodLink "TaskgraphicLaw" (162 : Nat) ({ cls := "Taskgraphic", name := "partitionOf", desc := "(I)I" } : Jvm.MethodName)) ∈ zW := zW_in (zTp6 (i := 2) rfl) rfl
set_option maxRecDepth 100000 in
theorem w_1203 : (Jvm.Cond.instanceMethod ({ cls := "Taskgraphic", name := "partitionOf", desc := "(I)I" } : Jvm.MethodName)) ∈ zW := zW_in (zTp6 (i := 3) rfl) rfl
set_option maxRecDepth 100000 in
theorem w_1204 : (Jvm.Cond.selects "Taskgraphic" ({ cls := "Taskgraphic", name := "partitionOf", desc := "(I)I" } : Jvm.MethodName) ({ cls := "Taskgraphic", name := "partitionOf", desc := "(I)I" } : Jvm.MethodName)) ∈ zW := zW_in (zTp6 (i := 4) rfl) rfl
set_option maxRecDepth 100000 in
theorem w_1205 : (Jvm.Cond.code ({ cls := "Taskgraphic", name := "partitionOf", desc := "(I)I" } : Jvm.MethodName) prog_1_method_32_code (2 : Nat) (Option.some Jvm.ClassFile.FieldType.int)) ∈ zW := zW_in (zTp6 (i := 5) rfl) rfl
set_option maxRecDepth 100000 in
theorem w_1206 : (Jvm.Cond.methodLink "TaskgraphicLaw" (165 : Nat) ({ cls := "Taskgraphic", name := "isCopy", desc := "(I)Z" } : Jvm.MethodName)) ∈ zW := zW_in (zTp6 (i := 6) rfl) rfl
set_option maxRecDepth 100000 in
theorem w_1207 : (Jvm.Cond.instanceMethod ({ cls := "Taskgraphic", name := "isCopy", desc := "(I)Z" } : Jvm.MethodName)) ∈ zW := zW_in (zTp6 (i := 7) rfl) rfl
set_option maxRecDepth 100000 in
theorem w_1208 : (Jvm.Cond.selects "Taskgraphic" ({ cls := "Taskgraphic", name := "isCopy", desc := "(I)Z" } : Jvm.MethodName) ({ cls := "Taskgraphic", name := "isCopy", desc := "(I)Z" } : Jvm.MethodName)) ∈ zW := zW_in (zTp6 (i := 8) rfl) rfl
set_option maxRecDepth 100000 in
theorem w_1209 : (Jvm.Cond.code ({ cls := "Taskgraphic", name := "isCopy", desc := "(I)Z" } : Jvm.MethodName) prog_1_method_36_code (2 : Nat) (Option.some Jvm.ClassFile.FieldType.boolean)) ∈ zW := zW_in (zTp6 (i := 9) rfl) rfl
set_option maxRecDepth 100000 in
theorem w_1210 : (Jvm.Cond.methodLink "TaskgraphicLaw" (196 : Nat) ({ cls := "TaskgraphicLaw", name := "marked", desc := "(LTaskgraphic;IZ)I" } : Jvm.MethodName)) ∈ zW := zW_in (zTp6 (i := 10) rfl) rfl
set_option maxRecDepth 100000 in
theorem w_1211 : (Jvm.Cond.static ({ cls := "TaskgraphicLaw", name := "marked", desc := "(LTaskgraphic;IZ)I" } : Jvm.MethodName)) ∈ zW := zW_in (zTp6 (i := 11) rfl) rfl
set_option maxRecDepth 100000 in
theorem w_1212 : (Jvm.Cond.codeWith ({ cls := "TaskgraphicLaw", name := "marked", desc := "(LTaskgraphic;IZ)I" } : Jvm.MethodName) method_7_code (4 : Nat) (Option.some Jvm.ClassFile.FieldType.int) [((0 : Nat), (14 : Nat), (15 : Nat), (34 : Nat))]) ∈ zW := zW_in (zTp6 (i := 12) rfl) rfl
set_option maxRecDepth 100000 in
theorem w_1213 : (Jvm.Cond.methodLink "TaskgraphicLaw" (98 : Nat) ({ cls := "Taskgraphic", name := "mark", desc := "(IZ)Z" } : Jvm.MethodName)) ∈ zW := zW_in (zTp6 (i := 13) rfl) rfl
set_option maxRecDepth 100000 in
theorem w_1214 : (Jvm.Cond.instanceMethod ({ cls := "Taskgraphic", name := "mark", desc := "(IZ)Z" } : Jvm.MethodName)) ∈ zW := zW_in (zTp6 (i := 14) rfl) rfl
set_option maxRecDepth 100000 in
theorem w_1215 : (Jvm.Cond.selects "Taskgraphic" ({ cls := "Taskgraphic", name := "mark", desc := "(IZ)Z" } : Jvm.MethodName) ({ cls := "Taskgraphic", name := "mark", desc := "(IZ)Z" } : Jvm.MethodName)) ∈ zW := zW_in (zTp6 (i := 15) rfl) rfl
set_option maxRecDepth 100000 in
theorem w_1216 : (Jvm.Cond.code ({ cls := "Taskgraphic", name := "mark", desc := "(IZ)Z" } : Jvm.MethodName) prog_1_method_23_code (4 : Nat) (Option.some Jvm.ClassFile.FieldType.boolean)) ∈ zW := zW_in (zTp6 (i := 16) rfl) rfl
abbrev kL_areAttempts : zK := (RL, cL_areAttempts, 14, ⟨10, 6, 36, 231⟩, (some .boolean), "areAttempts", [])
abbrev kL_areNodes : zK := (RL, cL_areNodes, 13, ⟨13, 1000, 6000, 327⟩, (some .boolean), "areNodes", [])
abbrev kL_asks : zK := (RL, cL_asks, 6, ⟨9, 3, 18, 206⟩, (some .int), "asks", [(0, 168, 169, 34)])
abbrev kL_broad : zK := (RL, cL_broad, 3, ⟨8, 2, 12, 176⟩, (some .int), "broad", [(0, 13, 14, 34), (0, 13, 18, 38)])
abbrev kL_grouped : zK := (RL, cL_grouped, 9, ⟨9, 0, 0, 179⟩, (some .int), "grouped", [])
abbrev kL_isDone : zK := (RL, cL_isDone, 18, ⟨12, 40, 3000, 292⟩, (some .boolean), "isDone", [])
abbrev kL_isGroup : zK := (RL, cL_isGroup, 11, ⟨10, 0, 0, 207⟩, (some .boolean), "isGroup", [])
abbrev kL_isJoin : zK := (RL, cL_isJoin, 14, ⟨10, 0, 0, 207⟩, (some .boolean), "isJoin", [])
abbrev kL_isMade : zK := (RL, cL_isMade, 22, ⟨10, 30, 2830, 226⟩, (some .boolean), "isMade", [])
abbrev kL_isMapped : zK := (RL, cL_isMapped, 16, ⟨11, 0, 0, 256⟩, (some .boolean), "isMapped", [])
abbrev kL_isNode : zK := (RL, cL_isNode, 17, ⟨12, 60, 360, 291⟩, (some .boolean), "isNode", [])
abbrev kL_isPut : zK := (RL, cL_isPut, 12, ⟨11, 30, 2830, 256⟩, (some .boolean), "isPut", [])
abbrev kL_isRow : zK := (RL, cL_isRow, 6, ⟨10, 0, 0, 231⟩, (some .boolean), "isRow", [])
abbrev kL_isRun : zK := (RL, cL_isRun, 9, ⟨11, 10, 60, 264⟩, (some .boolean), "isRun", [])
abbrev kL_isUnion : zK := (RL, cL_isUnion, 10, ⟨11, 0, 0, 256⟩, (some .boolean), "isUnion", [])
abbrev kL_makes : zK := (RL, cL_makes, 6, ⟨9, 27, 2790, 201⟩, (some .int), "makes", [(0, 98, 99, 34), (0, 98, 104, 36), (0, 98, 109, 38)])
abbrev kL_marked : zK := (RL, cL_marked, 4, ⟨8, 1, 6, 134⟩, (some .int), "marked", [(0, 14, 15, 34)])
abbrev kL_part : zK := (RL, cL_part, 4, ⟨0, 0, 0, 0⟩, (some .int), "part", [])
abbrev kL_sets : zK := (RL, cL_sets, 5, ⟨9, 2, 12, 207⟩, (some .int), "sets", [(0, 70, 71, 34), (0, 70, 76, 36)])
abbrev kL_share : zK := (RL, cL_share, 2, ⟨0, 0, 0, 0⟩, (some .int), "share", [])
theorem cv_L_147 : zLv RL 147 yX11_attempts kX11_attempts 0 := ⟨w_438, w_439, w_440, w_1, w_441, by decide, by decide, by decide +kernel⟩
theorem cv_L_150 : zLv RL 150 yX11_ticks kX11_ticks 0 := ⟨w_434, w_435, w_436, w_1, w_437, by decide, by decide, by decide +kernel⟩
theorem cv_L_153 : zLv RL 153 yX11_spilled kX11_spilled 0 := ⟨w_1190, w_1191, w_1192, w_1, w_1193, by decide, by decide, by decide +kernel⟩
theorem ch_L_102 : zLh RL 102 yL_asks kL_asks 5 := ⟨w_1048, w_1049, w_0, w_1050, by decide, by decide, by decide +kernel⟩
theorem cv_L_85 : zLv RL 85 yX11_startOf kX11_startOf 1 := ⟨w_1123, w_1124, w_1125, w_1, w_1126, by decide, by decide, by decide +kernel⟩
theorem cv_L_156 : zLv RL 156 yX11_endOf kX11_endOf 1 := ⟨w_1194, w_1195, w_1196, w_1, w_1197, by decide, by decide, by decide +kernel⟩
theorem cv_L_159 : zLv RL 159 yX11_workerOf kX11_workerOf 1 := ⟨w_1198, w_1199, w_1200, w_1, w_1201, by decide, by decide, by decide +kernel⟩
theorem cv_L_162 : zLv RL 162 yX11_partitionOf kX11_partitionOf 1 := ⟨w_1202, w_1203, w_1204, w_1, w_1205, by decide, by decide, by decide +kernel⟩
theorem cv_L_82 : zLv RL 82 yX11_nodeOf kX11_nodeOf 1 := ⟨w_1114, w_1115, w_1116, w_1, w_1117, by decide, by decide, by decide +kernel⟩
theorem cv_L_58 : zLv RL 58 yX11_partitions kX11_partitions 1 := ⟨w_1051, w_1052, w_1053, w_1, w_1054, by decide, by decide, by decide +kernel⟩
theorem cv_L_165 : zLv RL 165 yX11_isCopy kX11_isCopy 1 := ⟨w_1206, w_1207, w_1208, w_1, w_1209, by decide, by decide, by decide +kernel⟩
theorem cv_L_168 : zLv RL 168 yX11_share kX11_share 0 := ⟨w_442, w_443, w_444, w_1, w_445, by decide, by decide, by decide +kernel⟩
theorem cv_L_139 : zLv RL 139 yX11_nodes kX11_nodes 0 := ⟨w_422, w_423, w_424, w_1, w_425, by decide, by decide, by decide +kernel⟩
theorem ch_L_119 : zLh RL 119 yL_broad kL_broad 2 := ⟨w_1138, w_1139, w_0, w_1140, by decide, by decide, by decide +kernel⟩
theorem cv_L_143 : zLs RL 143 yL_isNode kL_isNode 9 := ⟨(Or.inl w_1147), w_1148, w_0, w_1149, by decide, by decide, by decide +kernel⟩
theorem cv_L_76 : zLv RL 76 yX11_stages kX11_stages 1 := ⟨w_1091, w_1092, w_1093, w_1, w_1094, by decide, by decide, by decide +kernel⟩
theorem cv_L_88 : zLv RL 88 yX11_isCached kX11_isCached 1 := ⟨w_1127, w_1128, w_1129, w_1, w_1130, by decide, by decide, by decide +kernel⟩
theorem cv_L_64 : zLv RL 64 yX11_rows kX11_rows 1 := ⟨w_1064, w_1065, w_1066, w_1, w_1067, by decide, by decide, by decide +kernel⟩
theorem cv_L_79 : zLv RL 79 yX11_outputOf kX11_outputOf 2 := ⟨w_1105, w_1106, w_1107, w_1, w_1108, by decide, by decide, by decide +kernel⟩
theorem cv_L_61 : zLv RL 61 yX11_rowsIn kX11_rowsIn 2 := ⟨w_1055, w_1056, w_1057, w_1, w_1058, by decide, by decide, by decide +kernel⟩
theorem cv_L_67 : zLv RL 67 yX11_keyAt kX11_keyAt 3 := ⟨w_1068, w_1069, w_1070, w_1, w_1071, by decide, by decide, by decide +kernel⟩
theorem cv_L_70 : zLv RL 70 yX11_valueAt kX11_valueAt 3 := ⟨w_1078, w_1079, w_1080, w_1, w_1081, by decide, by decide, by decide +kernel⟩
theorem cv_L_73 : zLv RL 73 yX11_digest kX11_digest 1 := ⟨w_1083, w_1084, w_1085, w_1, w_1086, by decide, by decide, by decide +kernel⟩
theorem cv_L_92 : zLv RL 92 yX11_digestInPlace kX11_digestInPlace 1 := ⟨w_1131, w_1132, w_1133, w_1, w_1134, by decide, by decide, by decide +kernel⟩
theorem cv_L_95 : zLv RL 95 yX11_isBroad kX11_isBroad 1 := ⟨w_1141, w_1142, w_1143, w_1, w_1144, by decide, by decide, by decide +kernel⟩
theorem cv_L_181 : zLs RL 181 yL_part kL_part 3 := ⟨(Or.inl w_1174), w_1175, w_0, w_1176, by decide, by decide, by decide +kernel⟩
theorem cv_L_185 : zLs RL 185 yL_isMade kL_isMade 11 := ⟨(Or.inl w_1178), w_1179, w_0, w_1180, by decide, by decide, by decide +kernel⟩
theorem cv_L_189 : zLs RL 189 yL_isPut kL_isPut 6 := ⟨(Or.inl w_1181), w_1182, w_0, w_1183, by decide, by decide, by decide +kernel⟩
theorem cv_L_193 : zLs RL 193 yL_isRun kL_isRun 4 := ⟨(Or.inl w_1184), w_1185, w_0, w_1186, by decide, by decide, by decide +kernel⟩
theorem ch_L_174 : zLh RL 174 yL_sets kL_sets 4 := ⟨w_731, w_732, w_0, w_733, by decide, by decide, by decide +kernel⟩
theorem ch_L_196 : zLh RL 196 yL_marked kL_marked 3 := ⟨w_1210, w_1211, w_0, w_1212, by decide, by decide, by decide +kernel⟩
theorem cv_L_115 : zLs RL 115 yL_grouped kL_grouped 4 := ⟨(Or.inl w_1165), w_1166, w_0, w_1167, by decide, by decide, by decide +kernel⟩
theorem cv_L_112 : zLs RL 112 yL_share kL_share 2 := ⟨(Or.inl w_1156), w_1157, w_0, w_1158, by decide, by decide, by decide +kernel⟩
theorem ch_L_171 : zLh RL 171 yL_makes kL_makes 5 := ⟨w_454, w_455, w_0, w_456, by decide, by decide, by decide +kernel⟩
theorem cv_L_108 : zLs RL 108 yL_isRow kL_isRow 6 := ⟨(Or.inl w_1153), w_1154, w_0, w_1155, by decide, by decide, by decide +kernel⟩
theorem cv_L_123 : zLs RL 123 yL_isMapped kL_isMapped 7 := ⟨(Or.inl w_1150), w_1151, w_0, w_1152, by decide, by decide, by decide +kernel⟩
theorem cv_L_127 : zLs RL 127 yL_isUnion kL_isUnion 4 := ⟨(Or.inl w_1159), w_1160, w_0, w_1161, by decide, by decide, by decide +kernel⟩
theorem cv_L_131 : zLs RL 131 yL_isGroup kL_isGroup 5 := ⟨(Or.inl w_1162), w_1163, w_0, w_1164, by decide, by decide, by decide +kernel⟩
theorem cv_L_135 : zLs RL 135 yL_isJoin kL_isJoin 6 := ⟨(Or.inl w_1168), w_1169, w_0, w_1170, by decide, by decide, by decide +kernel⟩
theorem cv_L_177 : zLs RL 177 yL_areAttempts kL_areAttempts 3 := ⟨(Or.inl w_1187), w_1188, w_0, w_1189, by decide, by decide, by decide +kernel⟩
theorem nw_L_9 : zNw RL 9 11 [.null, .null, .null, .null, .null, .null, .null, .null, .int 0] := ⟨RX11, TX11, 9, tyX11, rfl, w_30, w_31, w_1, zws_X11, tyX11_ok, (by decide +kernel), rfl⟩
theorem cv_L_200 : zLi RL 200 yX11_init kX11_init 0 := ⟨(Or.inl w_32), w_33, w_1, w_34, rfl, rfl, by decide, by decide, by decide +kernel⟩
theorem cv_L_201 : zLs RL 201 yL_isDone kL_isDone 11 := ⟨(Or.inl w_1171), w_1172, w_0, w_1173, by decide, by decide, by decide +kernel⟩
theorem cv_L_205 : zLs RL 205 yL_areNodes kL_areNodes 8 := ⟨(Or.inl w_1135), w_1136, w_0, w_1137, by decide, by decide, by decide +kernel⟩
theorem cv_L_8 : zLv RL 8 yX11_source kX11_source 1 := ⟨w_460, w_461, w_462, w_1, w_463, by decide, by decide, by decide +kernel⟩
theorem cv_L_14 : zLv RL 14 yX11_map kX11_map 3 := ⟨w_644, w_645, w_646, w_1, w_647, by decide, by decide, by decide +kernel⟩
theorem cv_L_18 : zLv RL 18 yX11_filter kX11_filter 3 := ⟨w_676, w_677, w_678, w_1, w_679, by decide, by decide, by decide +kernel⟩
theorem cv_L_21 : zLv RL 21 yX11_union kX11_union 2 := ⟨w_682, w_683, w_684, w_1, w_685, by decide, by decide, by decide +kernel⟩
theorem cv_L_25 : zLv RL 25 yX11_group kX11_group 3 := ⟨w_689, w_690, w_691, w_1, w_692, by decide, by decide, by decide +kernel⟩
theorem cv_L_28 : zLv RL 28 yX11_join kX11_join 3 := ⟨w_696, w_697, w_698, w_1, w_699, by decide, by decide, by decide +kernel⟩
theorem cv_L_31 : zLv RL 31 yX11_put kX11_put 3 := ⟨w_704, w_705, w_706, w_1, w_707, by decide, by decide, by decide +kernel⟩
theorem cv_L_98 : zLv RL 98 yX11_mark kX11_mark 2 := ⟨w_1213, w_1214, w_1215, w_1, w_1216, by decide, by decide, by decide +kernel⟩
theorem lc_L_7 : Cond.constant RL 7 (2147483647) ∈ zW := w_1177
theorem cv_L_40 : zLv RL 40 yX11_setWorkers kX11_setWorkers 1 := ⟨w_734, w_735, w_736, w_1, w_737, by decide, by decide, by decide +kernel⟩
theorem cv_L_43 : zLv RL 43 yX11_setSlowness kX11_setSlowness 2 := ⟨w_739, w_740, w_741, w_1, w_742, by decide, by decide, by decide +kernel⟩
theorem cv_L_46 : zLv RL 46 yX11_setMemory kX11_setMemory 1 := ⟨w_747, w_748, w_749, w_1, w_750, by decide, by decide, by decide +kernel⟩
theorem cv_L_49 : zLv RL 49 yX11_setLimit kX11_setLimit 1 := ⟨w_755, w_756, w_757, w_1, w_758, by decide, by decide, by decide +kernel⟩
theorem cv_L_52 : zLv RL 52 yX11_setRoom kX11_setRoom 1 := ⟨w_763, w_764, w_765, w_1, w_766, by decide, by decide, by decide +kernel⟩
theorem cv_L_55 : zLv RL 55 yX11_run kX11_run 1 := ⟨w_778, w_779, w_780, w_1, w_781, by decide, by decide, by decide +kernel⟩
theorem hL_asks_6_1 : zCatch kL_asks 6 zEI 169 := ⟨[], ⟨0, 168, 169, 34⟩, [], rfl, (fun _ h => nomatch h), by decide, by decide, rfl, _, w_457, w_654⟩
theorem hL_asks_20_1 : zCatch kL_asks 20 zEI 169 := ⟨[], ⟨0, 168, 169, 34⟩, [], rfl, (fun _ h => nomatch h), by decide, by decide, rfl, _, w_457, w_654⟩
theorem hL_asks_33_1 : zCatch kL_asks 33 zEI 169 := ⟨[], ⟨0, 168, 169, 34⟩, [], rfl, (fun _ h => nomatch h), by decide, by decide, rfl, _, w_457, w_654⟩
theorem hL_asks_49_1 : zCatch kL_asks 49 zEI 169 := ⟨[], ⟨0, 168, 169, 34⟩, [], rfl, (fun _ h => nomatch h), by decide, by decide, rfl, _, w_457, w_654⟩
theorem hL_asks_65_1 : zCatch kL_asks 65 zEI 169 := ⟨[], ⟨0, 168, 169, 34⟩, [], rfl, (fun _ h => nomatch h), by decide, by decide, rfl, _, w_457, w_654⟩
theorem hL_asks_78_1 : zCatch kL_asks 78 zEI 169 := ⟨[], ⟨0, 168, 169, 34⟩, [], rfl, (fun _ h => nomatch h), by decide, by decide, rfl, _, w_457, w_654⟩
theorem hL_asks_92_1 : zCatch kL_asks 92 zEI 169 := ⟨[], ⟨0, 168, 169, 34⟩, [], rfl, (fun _ h => nomatch h), by decide, by decide, rfl, _, w_457, w_654⟩
theorem hL_asks_107_1 : zCatch kL_asks 107 zEI 169 := ⟨[], ⟨0, 168, 169, 34⟩, [], rfl, (fun _ h => nomatch h), by decide, by decide, rfl, _, w_457, w_654⟩
theorem hL_asks_121_1 : zCatch kL_asks 121 zEI 169 := ⟨[], ⟨0, 168, 169, 34⟩, [], rfl, (fun _ h => nomatch h), by decide, by decide, rfl, _, w_457, w_654⟩
theorem hL_asks_135_1 : zCatch kL_asks 135 zEI 169 := ⟨[], ⟨0, 168, 169, 34⟩, [], rfl, (fun _ h => nomatch h), by decide, by decide, rfl, _, w_457, w_654⟩
theorem hL_asks_149_1 : zCatch kL_asks 149 zEI 169 := ⟨[], ⟨0, 168, 169, 34⟩, [], rfl, (fun _ h => nomatch h), by decide, by decide, rfl, _, w_457, w_654⟩
theorem hL_asks_165_1 : zCatch kL_asks 165 zEI 169 := ⟨[], ⟨0, 168, 169, 34⟩, [], rfl, (fun _ h => nomatch h), by decide, by decide, rfl, _, w_457, w_654⟩
theorem hL_broad_2_1 : zCatch kL_broad 2 zEI 14 := ⟨[], ⟨0, 13, 14, 34⟩, [⟨0, 13, 18, 38⟩], rfl, (fun _ h => nomatch h), by decide, by decide, rfl, _, w_457, w_654⟩
theorem hL_broad_2_2 : zCatch kL_broad 2 zES 18 := ⟨[⟨0, 13, 14, 34⟩], ⟨0, 13, 18, 38⟩, [], rfl, (fun z hz => Or.inr (by rw [List.mem_singleton.mp hz]; exact ⟨by decide, _, w_457, by decide +kernel⟩)), by decide, by decide, rfl, _, w_459, w_541⟩
theorem hL_makes_6_1 : zCatch kL_makes 6 zEI 99 := ⟨[], ⟨0, 98, 99, 34⟩, [⟨0, 98, 104, 36⟩, ⟨0, 98, 109, 38⟩], rfl, (fun _ h => nomatch h), by decide, by decide, rfl, _, w_457, w_654⟩
theorem hL_makes_6_2 : zCatch kL_makes 6 zEA 104 := ⟨[⟨0, 98, 99, 34⟩], ⟨0, 98, 104, 36⟩, [⟨0, 98, 109, 38⟩], rfl, (fun z hz => Or.inr (by rw [List.mem_singleton.mp hz]; exact ⟨by decide, _, w_457, by decide +kernel⟩)), by decide, by decide, rfl, _, w_458, w_469⟩
theorem hL_makes_6_3 : zCatch kL_makes 6 zES 109 := ⟨[⟨0, 98, 99, 34⟩, ⟨0, 98, 104, 36⟩], ⟨0, 98, 109, 38⟩, [], rfl, (fun z hz => Or.inr (by rcases List.mem_cons.mp hz with h | h; rw [h]; exact ⟨by decide, _, w_457, by decide +kernel⟩; rw [List.mem_singleton.mp h]; exact ⟨by decide, _, w_458, by decide +kernel⟩)), by decide, by decide, rfl, _, w_459, w_541⟩
theorem hL_makes_22_1 : zCatch kL_makes 22 zEI 99 := ⟨[], ⟨0, 98, 99, 34⟩, [⟨0, 98, 104, 36⟩, ⟨0, 98, 109, 38⟩], rfl, (fun _ h => nomatch h), by decide, by decide, rfl, _, w_457, w_654⟩
theorem hL_makes_22_2 : zCatch kL_makes 22 zEA 104 := ⟨[⟨0, 98, 99, 34⟩], ⟨0, 98, 104, 36⟩, [⟨0, 98, 109, 38⟩], rfl, (fun z hz => Or.inr (by rw [List.mem_singleton.mp hz]; exact ⟨by decide, _, w_457, by decide +kernel⟩)), by decide, by decide, rfl, _, w_458, w_469⟩
theorem hL_makes_22_3 : zCatch kL_makes 22 zES 109 := ⟨[⟨0, 98, 99, 34⟩, ⟨0, 98, 104, 36⟩], ⟨0, 98, 109, 38⟩, [], rfl, (fun z hz => Or.inr (by rcases List.mem_cons.mp hz with h | h; rw [h]; exact ⟨by decide, _, w_457, by decide +kernel⟩; rw [List.mem_singleton.mp h]; exact ⟨by decide, _, w_458, by decide +kernel⟩)), by decide, by decide, rfl, _, w_459, w_541⟩
theorem hL_makes_38_1 : zCatch kL_makes 38 zEI 99 := ⟨[], ⟨0, 98, 99, 34⟩, [⟨0, 98, 104, 36⟩, ⟨0, 98, 109, 38⟩], rfl, (fun _ h => nomatch h), by decide, by decide, rfl, _, w_457, w_654⟩
theorem hL_makes_38_2 : zCatch kL_makes 38 zEA 104 := ⟨[⟨0, 98, 99, 34⟩], ⟨0, 98, 104, 36⟩, [⟨0, 98, 109, 38⟩], rfl, (fun z hz => Or.inr (by rw [List.mem_singleton.mp hz]; exact ⟨by decide, _, w_457, by decide +kernel⟩)), by decide, by decide, rfl, _, w_458, w_469⟩
theorem hL_makes_38_3 : zCatch kL_makes 38 zES 109 := ⟨[⟨0, 98, 99, 34⟩, ⟨0, 98, 104, 36⟩], ⟨0, 98, 109, 38⟩, [], rfl, (fun z hz => Or.inr (by rcases List.mem_cons.mp hz with h | h; rw [h]; exact ⟨by decide, _, w_457, by decide +kernel⟩; rw [List.mem_singleton.mp h]; exact ⟨by decide, _, w_458, by decide +kernel⟩)), by decide, by decide, rfl, _, w_459, w_541⟩
theorem hL_makes_52_1 : zCatch kL_makes 52 zEI 99 := ⟨[], ⟨0, 98, 99, 34⟩, [⟨0, 98, 104, 36⟩, ⟨0, 98, 109, 38⟩], rfl, (fun _ h => nomatch h), by decide, by decide, rfl, _, w_457, w_654⟩
theorem hL_makes_52_2 : zCatch kL_makes 52 zEA 104 := ⟨[⟨0, 98, 99, 34⟩], ⟨0, 98, 104, 36⟩, [⟨0, 98, 109, 38⟩], rfl, (fun z hz => Or.inr (by rw [List.mem_singleton.mp hz]; exact ⟨by decide, _, w_457, by decide +kernel⟩)), by decide, by decide, rfl, _, w_458, w_469⟩
theorem hL_makes_52_3 : zCatch kL_makes 52 zES 109 := ⟨[⟨0, 98, 99, 34⟩, ⟨0, 98, 104, 36⟩], ⟨0, 98, 109, 38⟩, [], rfl, (fun z hz => Or.inr (by rcases List.mem_cons.mp hz with h | h; rw [h]; exact ⟨by decide, _, w_457, by decide +kernel⟩; rw [List.mem_singleton.mp h]; exact ⟨by decide, _, w_458, by decide +kernel⟩)), by decide, by decide, rfl, _, w_459, w_541⟩
theorem hL_makes_68_1 : zCatch kL_makes 68 zEI 99 := ⟨[], ⟨0, 98, 99, 34⟩, [⟨0, 98, 104, 36⟩, ⟨0, 98, 109, 38⟩], rfl, (fun _ h => nomatch h), by decide, by decide, rfl, _, w_457, w_654⟩
theorem hL_makes_68_2 : zCatch kL_makes 68 zEA 104 := ⟨[⟨0, 98, 99, 34⟩], ⟨0, 98, 104, 36⟩, [⟨0, 98, 109, 38⟩], rfl, (fun z hz => Or.inr (by rw [List.mem_singleton.mp hz]; exact ⟨by decide, _, w_457, by decide +kernel⟩)), by decide, by decide, rfl, _, w_458, w_469⟩
theorem hL_makes_68_3 : zCatch kL_makes 68 zES 109 := ⟨[⟨0, 98, 99, 34⟩, ⟨0, 98, 104, 36⟩], ⟨0, 98, 109, 38⟩, [], rfl, (fun z hz => Or.inr (by rcases List.mem_cons.mp hz with h | h; rw [h]; exact ⟨by decide, _, w_457, by decide +kernel⟩; rw [List.mem_singleton.mp h]; exact ⟨by decide, _, w_458, by decide +kernel⟩)), by decide, by decide, rfl, _, w_459, w_541⟩
theorem hL_makes_84_1 : zCatch kL_makes 84 zEI 99 := ⟨[], ⟨0, 98, 99, 34⟩, [⟨0, 98, 104, 36⟩, ⟨0, 98, 109, 38⟩], rfl, (fun _ h => nomatch h), by decide, by decide, rfl, _, w_457, w_654⟩
theorem hL_makes_84_2 : zCatch kL_makes 84 zEA 104 := ⟨[⟨0, 98, 99, 34⟩], ⟨0, 98, 104, 36⟩, [⟨0, 98, 109, 38⟩], rfl, (fun z hz => Or.inr (by rw [List.mem_singleton.mp hz]; exact ⟨by decide, _, w_457, by decide +kernel⟩)), by decide, by decide, rfl, _, w_458, w_469⟩
theorem hL_makes_84_3 : zCatch kL_makes 84 zES 109 := ⟨[⟨0, 98, 99, 34⟩, ⟨0, 98, 104, 36⟩], ⟨0, 98, 109, 38⟩, [], rfl, (fun z hz => Or.inr (by rcases List.mem_cons.mp hz with h | h; rw [h]; exact ⟨by decide, _, w_457, by decide +kernel⟩; rw [List.mem_singleton.mp h]; exact ⟨by decide, _, w_458, by decide +kernel⟩)), by decide, by decide, rfl, _, w_459, w_541⟩
theorem hL_makes_95_1 : zCatch kL_makes 95 zEI 99 := ⟨[], ⟨0, 98, 99, 34⟩, [⟨0, 98, 104, 36⟩, ⟨0, 98, 109, 38⟩], rfl, (fun _ h => nomatch h), by decide, by decide, rfl, _, w_457, w_654⟩
theorem hL_makes_95_2 : zCatch kL_makes 95 zEA 104 := ⟨[⟨0, 98, 99, 34⟩], ⟨0, 98, 104, 36⟩, [⟨0, 98, 109, 38⟩], rfl, (fun z hz => Or.inr (by rw [List.mem_singleton.mp hz]; exact ⟨by decide, _, w_457, by decide +kernel⟩)), by decide, by decide, rfl, _, w_458, w_469⟩
theorem hL_makes_95_3 : zCatch kL_makes 95 zES 109 := ⟨[⟨0, 98, 99, 34⟩, ⟨0, 98, 104, 36⟩], ⟨0, 98, 109, 38⟩, [], rfl, (fun z hz => Or.inr (by rcases List.mem_cons.mp hz with h | h; rw [h]; exact ⟨by decide, _, w_457, by decide +kernel⟩; rw [List.mem_singleton.mp h]; exact ⟨by decide, _, w_458, by decide +kernel⟩)), by decide, by decide, rfl, _, w_459, w_541⟩
theorem hL_marked_3_1 : zCatch kL_marked 3 zEI 15 := ⟨[], ⟨0, 14, 15, 34⟩, [], rfl, (fun _ h => nomatch h), by decide, by decide, rfl, _, w_457, w_654⟩
theorem hL_sets_6_1 : zCatch kL_sets 6 zEI 71 := ⟨[], ⟨0, 70, 71, 34⟩, [⟨0, 70, 76, 36⟩], rfl, (fun _ h => nomatch h), by decide, by decide, rfl, _, w_457, w_654⟩
theorem hL_sets_6_2 : zCatch kL_sets 6 zEA 76 := ⟨[⟨0, 70, 71, 34⟩], ⟨0, 70, 76, 36⟩, [], rfl, (fun z hz => Or.inr (by rw [List.mem_singleton.mp hz]; exact ⟨by decide, _, w_457, by decide +kernel⟩)), by decide, by decide, rfl, _, w_458, w_469⟩
theorem hL_sets_20_1 : zCatch kL_sets 20 zEI 71 := ⟨[], ⟨0, 70, 71, 34⟩, [⟨0, 70, 76, 36⟩], rfl, (fun _ h => nomatch h), by decide, by decide, rfl, _, w_457, w_654⟩
theorem hL_sets_20_2 : zCatch kL_sets 20 zEA 76 := ⟨[⟨0, 70, 71, 34⟩], ⟨0, 70, 76, 36⟩, [], rfl, (fun z hz => Or.inr (by rw [List.mem_singleton.mp hz]; exact ⟨by decide, _, w_457, by decide +kernel⟩)), by decide, by decide, rfl, _, w_458, w_469⟩
theorem hL_sets_33_1 : zCatch kL_sets 33 zEI 71 := ⟨[], ⟨0, 70, 71, 34⟩, [⟨0, 70, 76, 36⟩], rfl, (fun _ h => nomatch h), by decide, by decide, rfl, _, w_457, w_654⟩
theorem hL_sets_33_2 : zCatch kL_sets 33 zEA 76 := ⟨[⟨0, 70, 71, 34⟩], ⟨0, 70, 76, 36⟩, [], rfl, (fun z hz => Or.inr (by rw [List.mem_singleton.mp hz]; exact ⟨by decide, _, w_457, by decide +kernel⟩)), by decide, by decide, rfl, _, w_458, w_469⟩
theorem hL_sets_46_1 : zCatch kL_sets 46 zEI 71 := ⟨[], ⟨0, 70, 71, 34⟩, [⟨0, 70, 76, 36⟩], rfl, (fun _ h => nomatch h), by decide, by decide, rfl, _, w_457, w_654⟩
theorem hL_sets_46_2 : zCatch kL_sets 46 zEA 76 := ⟨[⟨0, 70, 71, 34⟩], ⟨0, 70, 76, 36⟩, [], rfl, (fun z hz => Or.inr (by rw [List.mem_singleton.mp hz]; exact ⟨by decide, _, w_457, by decide +kernel⟩)), by decide, by decide, rfl, _, w_458, w_469⟩
theorem hL_sets_59_1 : zCatch kL_sets 59 zEI 71 := ⟨[], ⟨0, 70, 71, 34⟩, [⟨0, 70, 76, 36⟩], rfl, (fun _ h => nomatch h), by decide, by decide, rfl, _, w_457, w_654⟩
theorem hL_sets_59_2 : zCatch kL_sets 59 zEA 76 := ⟨[⟨0, 70, 71, 34⟩], ⟨0, 70, 76, 36⟩, [], rfl, (fun z hz => Or.inr (by rw [List.mem_singleton.mp hz]; exact ⟨by decide, _, w_457, by decide +kernel⟩)), by decide, by decide, rfl, _, w_458, w_469⟩
theorem hL_sets_67_1 : zCatch kL_sets 67 zEI 71 := ⟨[], ⟨0, 70, 71, 34⟩, [⟨0, 70, 76, 36⟩], rfl, (fun _ h => nomatch h), by decide, by decide, rfl, _, w_457, w_654⟩
theorem hL_sets_67_2 : zCatch kL_sets 67 zEA 76 := ⟨[⟨0, 70, 71, 34⟩], ⟨0, 70, 76, 36⟩, [], rfl, (fun z hz => Or.inr (by rw [List.mem_singleton.mp hz]; exact ⟨by decide, _, w_457, by decide +kernel⟩)), by decide, by decide, rfl, _, w_458, w_469⟩
