section
-- ===== PART A: goes FIRST, ahead of the names: the tables' words, and 'selects' of the private methods out of them =====
/-- a private method of a class that the tables say can be made, by its rows of tables_1 -/
def lw_okq (q : MethodName × Nat) : Prop := (q.1.cls ≠ "java/lang/invoke/MethodHandle" ∧ q.1.cls ≠ "java/lang/invoke/VarHandle") ∧ Cond.instantiable q.1.cls q.2 ∈ tables_1 ∧ Cond.privateMethod q.1 ∈ tables_1 ∧ Cond.instanceMethod q.1 ∈ tables_1
theorem lw_p0 : lw_okq (⟨"java/lang/Throwable", "fillInStackTrace", "(I)Ljava/lang/Throwable;"⟩, 6) := ⟨⟨by decide +kernel, by decide +kernel⟩, List.mem_of_getElem? (i := 509) (by decide +kernel), List.mem_of_getElem? (i := 507) (by decide +kernel), List.mem_of_getElem? (i := 508) (by decide +kernel)⟩
theorem lw_p1 : lw_okq (⟨"Taskgraphic", "checkAnotherNode", "()V"⟩, 9) := ⟨⟨by decide +kernel, by decide +kernel⟩, List.mem_of_getElem? (i := 32) (by decide +kernel), List.mem_of_getElem? (i := 539) (by decide +kernel), List.mem_of_getElem? (i := 540) (by decide +kernel)⟩
theorem lw_p2 : lw_okq (⟨"java/util/ArrayList", "add", "(Ljava/lang/Object;[Ljava/lang/Object;I)V"⟩, 3) := ⟨⟨by decide +kernel, by decide +kernel⟩, List.mem_of_getElem? (i := 46) (by decide +kernel), List.mem_of_getElem? (i := 591) (by decide +kernel), List.mem_of_getElem? (i := 592) (by decide +kernel)⟩
theorem lw_p3 : lw_okq (⟨"java/util/ArrayList", "grow", "()[Ljava/lang/Object;"⟩, 3) := ⟨⟨by decide +kernel, by decide +kernel⟩, List.mem_of_getElem? (i := 46) (by decide +kernel), List.mem_of_getElem? (i := 595) (by decide +kernel), List.mem_of_getElem? (i := 596) (by decide +kernel)⟩
theorem lw_p4 : lw_okq (⟨"java/util/ArrayList", "grow", "(I)[Ljava/lang/Object;"⟩, 3) := ⟨⟨by decide +kernel, by decide +kernel⟩, List.mem_of_getElem? (i := 46) (by decide +kernel), List.mem_of_getElem? (i := 599) (by decide +kernel), List.mem_of_getElem? (i := 600) (by decide +kernel)⟩
theorem lw_p5 : lw_okq (⟨"Taskgraphic", "checkNode", "(I)V"⟩, 9) := ⟨⟨by decide +kernel, by decide +kernel⟩, List.mem_of_getElem? (i := 32) (by decide +kernel), List.mem_of_getElem? (i := 657) (by decide +kernel), List.mem_of_getElem? (i := 658) (by decide +kernel)⟩
theorem lw_p6 : lw_okq (⟨"Taskgraphic", "changeOf", "(LTaskgraphic$Kind;I)LTaskgraphic$Node;"⟩, 9) := ⟨⟨by decide +kernel, by decide +kernel⟩, List.mem_of_getElem? (i := 32) (by decide +kernel), List.mem_of_getElem? (i := 711) (by decide +kernel), List.mem_of_getElem? (i := 712) (by decide +kernel)⟩
theorem lw_p7 : lw_okq (⟨"Taskgraphic$Holding", "fill", "(LTaskgraphic$Node;LTaskgraphic$Rows;)V"⟩, 6) := ⟨⟨by decide +kernel, by decide +kernel⟩, List.mem_of_getElem? (i := 192) (by decide +kernel), List.mem_of_getElem? (i := 770) (by decide +kernel), List.mem_of_getElem? (i := 771) (by decide +kernel)⟩
theorem lw_p8 : lw_okq (⟨"Taskgraphic$Holding", "deal", "(LTaskgraphic$Rows;ILTaskgraphic$Rows;)V"⟩, 6) := ⟨⟨by decide +kernel, by decide +kernel⟩, List.mem_of_getElem? (i := 192) (by decide +kernel), List.mem_of_getElem? (i := 779) (by decide +kernel), List.mem_of_getElem? (i := 780) (by decide +kernel)⟩
theorem lw_p9 : lw_okq (⟨"Taskgraphic$Holding", "change", "(LTaskgraphic$Rows;LTaskgraphic$Node;LTaskgraphic$Rows;)V"⟩, 6) := ⟨⟨by decide +kernel, by decide +kernel⟩, List.mem_of_getElem? (i := 192) (by decide +kernel), List.mem_of_getElem? (i := 805) (by decide +kernel), List.mem_of_getElem? (i := 806) (by decide +kernel)⟩
theorem lw_p10 : lw_okq (⟨"Taskgraphic$Holding", "sift", "(LTaskgraphic$Rows;LTaskgraphic$Node;LTaskgraphic$Rows;)V"⟩, 6) := ⟨⟨by decide +kernel, by decide +kernel⟩, List.mem_of_getElem? (i := 192) (by decide +kernel), List.mem_of_getElem? (i := 831) (by decide +kernel), List.mem_of_getElem? (i := 832) (by decide +kernel)⟩
theorem lw_p11 : lw_okq (⟨"Taskgraphic$Holding", "unite", "(LTaskgraphic$Rows;LTaskgraphic$Rows;LTaskgraphic$Rows;)V"⟩, 6) := ⟨⟨by decide +kernel, by decide +kernel⟩, List.mem_of_getElem? (i := 192) (by decide +kernel), List.mem_of_getElem? (i := 836) (by decide +kernel), List.mem_of_getElem? (i := 837) (by decide +kernel)⟩
theorem lw_p12 : lw_okq (⟨"Taskgraphic$Holding", "append", "(LTaskgraphic$Rows;LTaskgraphic$Rows;)V"⟩, 6) := ⟨⟨by decide +kernel, by decide +kernel⟩, List.mem_of_getElem? (i := 192) (by decide +kernel), List.mem_of_getElem? (i := 840) (by decide +kernel), List.mem_of_getElem? (i := 841) (by decide +kernel)⟩
theorem lw_p13 : lw_okq (⟨"Taskgraphic$Holding", "groupByKey", "(LTaskgraphic$Rows;LTaskgraphic$Node;)V"⟩, 6) := ⟨⟨by decide +kernel, by decide +kernel⟩, List.mem_of_getElem? (i := 192) (by decide +kernel), List.mem_of_getElem? (i := 845) (by decide +kernel), List.mem_of_getElem? (i := 846) (by decide +kernel)⟩
theorem lw_p14 : lw_okq (⟨"Taskgraphic$Holding", "dealByKey", "(ILTaskgraphic$Rows;)V"⟩, 6) := ⟨⟨by decide +kernel, by decide +kernel⟩, List.mem_of_getElem? (i := 192) (by decide +kernel), List.mem_of_getElem? (i := 876) (by decide +kernel), List.mem_of_getElem? (i := 877) (by decide +kernel)⟩
theorem lw_p15 : lw_okq (⟨"Taskgraphic$Holding", "joinInOrder", "(LTaskgraphic$Rows;LTaskgraphic$Rows;LTaskgraphic$Rows;)V"⟩, 6) := ⟨⟨by decide +kernel, by decide +kernel⟩, List.mem_of_getElem? (i := 192) (by decide +kernel), List.mem_of_getElem? (i := 880) (by decide +kernel), List.mem_of_getElem? (i := 881) (by decide +kernel)⟩
def lw_privs_1 : List (MethodName × Nat) := [(⟨"java/lang/Throwable", "fillInStackTrace", "(I)Ljava/lang/Throwable;"⟩, 6), (⟨"Taskgraphic", "checkAnotherNode", "()V"⟩, 9), (⟨"java/util/ArrayList", "add", "(Ljava/lang/Object;[Ljava/lang/Object;I)V"⟩, 3), (⟨"java/util/ArrayList", "grow", "()[Ljava/lang/Object;"⟩, 3), (⟨"java/util/ArrayList", "grow", "(I)[Ljava/lang/Object;"⟩, 3), (⟨"Taskgraphic", "checkNode", "(I)V"⟩, 9), (⟨"Taskgraphic", "changeOf", "(LTaskgraphic$Kind;I)LTaskgraphic$Node;"⟩, 9), (⟨"Taskgraphic$Holding", "fill", "(LTaskgraphic$Node;LTaskgraphic$Rows;)V"⟩, 6), (⟨"Taskgraphic$Holding", "deal", "(LTaskgraphic$Rows;ILTaskgraphic$Rows;)V"⟩, 6), (⟨"Taskgraphic$Holding", "change", "(LTaskgraphic$Rows;LTaskgraphic$Node;LTaskgraphic$Rows;)V"⟩, 6), (⟨"Taskgraphic$Holding", "sift", "(LTaskgraphic$Rows;LTaskgraphic$Node;LTaskgraphic$Rows;)V"⟩, 6), (⟨"Taskgraphic$Holding", "unite", "(LTaskgraphic$Rows;LTaskgraphic$Rows;LTaskgraphic$Rows;)V"⟩, 6), (⟨"Taskgraphic$Holding", "append", "(LTaskgraphic$Rows;LTaskgraphic$Rows;)V"⟩, 6), (⟨"Taskgraphic$Holding", "groupByKey", "(LTaskgraphic$Rows;LTaskgraphic$Node;)V"⟩, 6), (⟨"Taskgraphic$Holding", "dealByKey", "(ILTaskgraphic$Rows;)V"⟩, 6), (⟨"Taskgraphic$Holding", "joinInOrder", "(LTaskgraphic$Rows;LTaskgraphic$Rows;LTaskgraphic$Rows;)V"⟩, 6)]
theorem lw_r1 : ∀ q ∈ lw_privs_1, lw_okq q := List.forall_mem_cons.mpr ⟨lw_p0, List.forall_mem_cons.mpr ⟨lw_p1, List.forall_mem_cons.mpr ⟨lw_p2, List.forall_mem_cons.mpr ⟨lw_p3, List.forall_mem_cons.mpr ⟨lw_p4, List.forall_mem_cons.mpr ⟨lw_p5, List.forall_mem_cons.mpr ⟨lw_p6, List.forall_mem_cons.mpr ⟨lw_p7, List.forall_mem_cons.mpr ⟨lw_p8, List.forall_mem_cons.mpr ⟨lw_p9, List.forall_mem_cons.mpr ⟨lw_p10, List.forall_mem_cons.mpr ⟨lw_p11, List.forall_mem_cons.mpr ⟨lw_p12, List.forall_mem_cons.mpr ⟨lw_p13, List.forall_mem_cons.mpr ⟨lw_p14, List.forall_mem_cons.mpr ⟨lw_p15, fun _ h => absurd h List.not_mem_nil⟩⟩⟩⟩⟩⟩⟩⟩⟩⟩⟩⟩⟩⟩⟩⟩
theorem lw_p16 : lw_okq (⟨"Taskgraphic$Holding", "addMatches", "(IILTaskgraphic$Rows;LTaskgraphic$Rows;)V"⟩, 6) := ⟨⟨by decide +kernel, by decide +kernel⟩, List.mem_of_getElem? (i := 192) (by decide +kernel), List.mem_of_getElem? (i := 884) (by decide +kernel), List.mem_of_getElem? (i := 885) (by decide +kernel)⟩
theorem lw_p17 : lw_okq (⟨"Taskgraphic$Holding", "sortByKey", "(LTaskgraphic$Rows;)V"⟩, 6) := ⟨⟨by decide +kernel, by decide +kernel⟩, List.mem_of_getElem? (i := 192) (by decide +kernel), List.mem_of_getElem? (i := 888) (by decide +kernel), List.mem_of_getElem? (i := 889) (by decide +kernel)⟩
theorem lw_p18 : lw_okq (⟨"Taskgraphic$Holding", "joinByKey", "(LTaskgraphic$Rows;ILTaskgraphic$Rows;)V"⟩, 6) := ⟨⟨by decide +kernel, by decide +kernel⟩, List.mem_of_getElem? (i := 192) (by decide +kernel), List.mem_of_getElem? (i := 892) (by decide +kernel), List.mem_of_getElem? (i := 893) (by decide +kernel)⟩
theorem lw_p19 : lw_okq (⟨"Taskgraphic$Cache", "remove", "(I)V"⟩, 6) := ⟨⟨by decide +kernel, by decide +kernel⟩, List.mem_of_getElem? (i := 220) (by decide +kernel), List.mem_of_getElem? (i := 1025) (by decide +kernel), List.mem_of_getElem? (i := 1026) (by decide +kernel)⟩
theorem lw_p20 : lw_okq (⟨"Taskgraphic$Plan", "needWhole", "(I)V"⟩, 7) := ⟨⟨by decide +kernel, by decide +kernel⟩, List.mem_of_getElem? (i := 248) (by decide +kernel), List.mem_of_getElem? (i := 1062) (by decide +kernel), List.mem_of_getElem? (i := 1063) (by decide +kernel)⟩
theorem lw_p21 : lw_okq (⟨"Taskgraphic$Plan", "readsOfTask", "(II)I"⟩, 7) := ⟨⟨by decide +kernel, by decide +kernel⟩, List.mem_of_getElem? (i := 248) (by decide +kernel), List.mem_of_getElem? (i := 1071) (by decide +kernel), List.mem_of_getElem? (i := 1072) (by decide +kernel)⟩
theorem lw_p22 : lw_okq (⟨"Taskgraphic$Plan", "readsOfShares", "(LTaskgraphic$Node;I)I"⟩, 7) := ⟨⟨by decide +kernel, by decide +kernel⟩, List.mem_of_getElem? (i := 248) (by decide +kernel), List.mem_of_getElem? (i := 1081) (by decide +kernel), List.mem_of_getElem? (i := 1082) (by decide +kernel)⟩
theorem lw_p23 : lw_okq (⟨"Taskgraphic", "loadStage", "(I)V"⟩, 9) := ⟨⟨by decide +kernel, by decide +kernel⟩, List.mem_of_getElem? (i := 32) (by decide +kernel), List.mem_of_getElem? (i := 1127) (by decide +kernel), List.mem_of_getElem? (i := 1128) (by decide +kernel)⟩
theorem lw_p24 : lw_okq (⟨"Taskgraphic$Crew", "look", "(LTaskgraphic$Stage;I)Z"⟩, 4) := ⟨⟨by decide +kernel, by decide +kernel⟩, List.mem_of_getElem? (i := 368) (by decide +kernel), List.mem_of_getElem? (i := 1150) (by decide +kernel), List.mem_of_getElem? (i := 1151) (by decide +kernel)⟩
theorem lw_p25 : lw_okq (⟨"Taskgraphic$Crew", "takeNext", "(LTaskgraphic$Stage;II)V"⟩, 4) := ⟨⟨by decide +kernel, by decide +kernel⟩, List.mem_of_getElem? (i := 368) (by decide +kernel), List.mem_of_getElem? (i := 1155) (by decide +kernel), List.mem_of_getElem? (i := 1156) (by decide +kernel)⟩
theorem lw_p26 : lw_okq (⟨"Taskgraphic$Crew", "takesCopy", "(LTaskgraphic$Stage;II)Z"⟩, 4) := ⟨⟨by decide +kernel, by decide +kernel⟩, List.mem_of_getElem? (i := 368) (by decide +kernel), List.mem_of_getElem? (i := 1169) (by decide +kernel), List.mem_of_getElem? (i := 1170) (by decide +kernel)⟩
theorem lw_p27 : lw_okq (⟨"Taskgraphic", "renewCache", "()V"⟩, 9) := ⟨⟨by decide +kernel, by decide +kernel⟩, List.mem_of_getElem? (i := 32) (by decide +kernel), List.mem_of_getElem? (i := 1187) (by decide +kernel), List.mem_of_getElem? (i := 1188) (by decide +kernel)⟩
theorem lw_p28 : lw_okq (⟨"Taskgraphic$Cache", "append", "(II)V"⟩, 6) := ⟨⟨by decide +kernel, by decide +kernel⟩, List.mem_of_getElem? (i := 220) (by decide +kernel), List.mem_of_getElem? (i := 1195) (by decide +kernel), List.mem_of_getElem? (i := 1196) (by decide +kernel)⟩
theorem lw_p29 : lw_okq (⟨"Taskgraphic", "checkAttempt", "(I)V"⟩, 9) := ⟨⟨by decide +kernel, by decide +kernel⟩, List.mem_of_getElem? (i := 32) (by decide +kernel), List.mem_of_getElem? (i := 1211) (by decide +kernel), List.mem_of_getElem? (i := 1212) (by decide +kernel)⟩
theorem lw_p30 : lw_okq (⟨"TaskgraphicModel", "fails", "(I)Z"⟩, 45) := ⟨⟨by decide +kernel, by decide +kernel⟩, List.mem_of_getElem? (i := 1251) (by decide +kernel), List.mem_of_getElem? (i := 1402) (by decide +kernel), List.mem_of_getElem? (i := 1403) (by decide +kernel)⟩
theorem lw_p31 : lw_okq (⟨"TaskgraphicModel", "makes", "(IIIII)I"⟩, 45) := ⟨⟨by decide +kernel, by decide +kernel⟩, List.mem_of_getElem? (i := 1251) (by decide +kernel), List.mem_of_getElem? (i := 1406) (by decide +kernel), List.mem_of_getElem? (i := 1407) (by decide +kernel)⟩
def lw_privs_2 : List (MethodName × Nat) := [(⟨"Taskgraphic$Holding", "addMatches", "(IILTaskgraphic$Rows;LTaskgraphic$Rows;)V"⟩, 6), (⟨"Taskgraphic$Holding", "sortByKey", "(LTaskgraphic$Rows;)V"⟩, 6), (⟨"Taskgraphic$Holding", "joinByKey", "(LTaskgraphic$Rows;ILTaskgraphic$Rows;)V"⟩, 6), (⟨"Taskgraphic$Cache", "remove", "(I)V"⟩, 6), (⟨"Taskgraphic$Plan", "needWhole", "(I)V"⟩, 7), (⟨"Taskgraphic$Plan", "readsOfTask", "(II)I"⟩, 7), (⟨"Taskgraphic$Plan", "readsOfShares", "(LTaskgraphic$Node;I)I"⟩, 7), (⟨"Taskgraphic", "loadStage", "(I)V"⟩, 9), (⟨"Taskgraphic$Crew", "look", "(LTaskgraphic$Stage;I)Z"⟩, 4), (⟨"Taskgraphic$Crew", "takeNext", "(LTaskgraphic$Stage;II)V"⟩, 4), (⟨"Taskgraphic$Crew", "takesCopy", "(LTaskgraphic$Stage;II)Z"⟩, 4), (⟨"Taskgraphic", "renewCache", "()V"⟩, 9), (⟨"Taskgraphic$Cache", "append", "(II)V"⟩, 6), (⟨"Taskgraphic", "checkAttempt", "(I)V"⟩, 9), (⟨"TaskgraphicModel", "fails", "(I)Z"⟩, 45), (⟨"TaskgraphicModel", "makes", "(IIIII)I"⟩, 45)]
theorem lw_r2 : ∀ q ∈ lw_privs_2, lw_okq q := List.forall_mem_cons.mpr ⟨lw_p16, List.forall_mem_cons.mpr ⟨lw_p17, List.forall_mem_cons.mpr ⟨lw_p18, List.forall_mem_cons.mpr ⟨lw_p19, List.forall_mem_cons.mpr ⟨lw_p20, List.forall_mem_cons.mpr ⟨lw_p21, List.forall_mem_cons.mpr ⟨lw_p22, List.forall_mem_cons.mpr ⟨lw_p23, List.forall_mem_cons.mpr ⟨lw_p24, List.forall_mem_cons.mpr ⟨lw_p25, List.forall_mem_cons.mpr ⟨lw_p26, List.forall_mem_cons.mpr ⟨lw_p27, List.forall_mem_cons.mpr ⟨lw_p28, List.forall_mem_cons.mpr ⟨lw_p29, List.forall_mem_cons.mpr ⟨lw_p30, List.forall_mem_cons.mpr ⟨lw_p31, fun _ h => absurd h List.not_mem_nil⟩⟩⟩⟩⟩⟩⟩⟩⟩⟩⟩⟩⟩⟩⟩⟩
theorem lw_p32 : lw_okq (⟨"TaskgraphicModel", "is", "(I)Z"⟩, 45) := ⟨⟨by decide +kernel, by decide +kernel⟩, List.mem_of_getElem? (i := 1251) (by decide +kernel), List.mem_of_getElem? (i := 1414) (by decide +kernel), List.mem_of_getElem? (i := 1415) (by decide +kernel)⟩
theorem lw_p33 : lw_okq (⟨"TaskgraphicModel", "empties", "()V"⟩, 45) := ⟨⟨by decide +kernel, by decide +kernel⟩, List.mem_of_getElem? (i := 1251) (by decide +kernel), List.mem_of_getElem? (i := 1418) (by decide +kernel), List.mem_of_getElem? (i := 1419) (by decide +kernel)⟩
theorem lw_p34 : lw_okq (⟨"TaskgraphicModel", "tells", "(I)I"⟩, 45) := ⟨⟨by decide +kernel, by decide +kernel⟩, List.mem_of_getElem? (i := 1251) (by decide +kernel), List.mem_of_getElem? (i := 1446) (by decide +kernel), List.mem_of_getElem? (i := 1447) (by decide +kernel)⟩
theorem lw_p35 : lw_okq (⟨"TaskgraphicModel", "isNoNode", "(I)Z"⟩, 45) := ⟨⟨by decide +kernel, by decide +kernel⟩, List.mem_of_getElem? (i := 1251) (by decide +kernel), List.mem_of_getElem? (i := 1454) (by decide +kernel), List.mem_of_getElem? (i := 1455) (by decide +kernel)⟩
theorem lw_p36 : lw_okq (⟨"TaskgraphicModel", "knows", "()V"⟩, 45) := ⟨⟨by decide +kernel, by decide +kernel⟩, List.mem_of_getElem? (i := 1251) (by decide +kernel), List.mem_of_getElem? (i := 1458) (by decide +kernel), List.mem_of_getElem? (i := 1459) (by decide +kernel)⟩
theorem lw_p37 : lw_okq (⟨"TaskgraphicModel", "holdsSource", "(I)V"⟩, 45) := ⟨⟨by decide +kernel, by decide +kernel⟩, List.mem_of_getElem? (i := 1251) (by decide +kernel), List.mem_of_getElem? (i := 1462) (by decide +kernel), List.mem_of_getElem? (i := 1463) (by decide +kernel)⟩
theorem lw_p38 : lw_okq (⟨"TaskgraphicModel", "adds", "(IIII)V"⟩, 45) := ⟨⟨by decide +kernel, by decide +kernel⟩, List.mem_of_getElem? (i := 1251) (by decide +kernel), List.mem_of_getElem? (i := 1466) (by decide +kernel), List.mem_of_getElem? (i := 1467) (by decide +kernel)⟩
theorem lw_p39 : lw_okq (⟨"TaskgraphicModel", "holdsMapped", "(I)V"⟩, 45) := ⟨⟨by decide +kernel, by decide +kernel⟩, List.mem_of_getElem? (i := 1251) (by decide +kernel), List.mem_of_getElem? (i := 1470) (by decide +kernel), List.mem_of_getElem? (i := 1471) (by decide +kernel)⟩
theorem lw_p40 : lw_okq (⟨"TaskgraphicModel", "at", "(II)I"⟩, 45) := ⟨⟨by decide +kernel, by decide +kernel⟩, List.mem_of_getElem? (i := 1251) (by decide +kernel), List.mem_of_getElem? (i := 1474) (by decide +kernel), List.mem_of_getElem? (i := 1475) (by decide +kernel)⟩
theorem lw_p41 : lw_okq (⟨"TaskgraphicModel", "holdsUnion", "(I)V"⟩, 45) := ⟨⟨by decide +kernel, by decide +kernel⟩, List.mem_of_getElem? (i := 1251) (by decide +kernel), List.mem_of_getElem? (i := 1481) (by decide +kernel), List.mem_of_getElem? (i := 1482) (by decide +kernel)⟩
theorem lw_p42 : lw_okq (⟨"TaskgraphicModel", "all", "(I)I"⟩, 45) := ⟨⟨by decide +kernel, by decide +kernel⟩, List.mem_of_getElem? (i := 1251) (by decide +kernel), List.mem_of_getElem? (i := 1485) (by decide +kernel), List.mem_of_getElem? (i := 1486) (by decide +kernel)⟩
theorem lw_p43 : lw_okq (⟨"TaskgraphicModel", "isBroadly", "(I)Z"⟩, 45) := ⟨⟨by decide +kernel, by decide +kernel⟩, List.mem_of_getElem? (i := 1251) (by decide +kernel), List.mem_of_getElem? (i := 1489) (by decide +kernel), List.mem_of_getElem? (i := 1490) (by decide +kernel)⟩
theorem lw_p44 : lw_okq (⟨"TaskgraphicModel", "holdsBroad", "(I)V"⟩, 45) := ⟨⟨by decide +kernel, by decide +kernel⟩, List.mem_of_getElem? (i := 1251) (by decide +kernel), List.mem_of_getElem? (i := 1493) (by decide +kernel), List.mem_of_getElem? (i := 1494) (by decide +kernel)⟩
theorem lw_p45 : lw_okq (⟨"TaskgraphicModel", "joins", "(III)I"⟩, 45) := ⟨⟨by decide +kernel, by decide +kernel⟩, List.mem_of_getElem? (i := 1251) (by decide +kernel), List.mem_of_getElem? (i := 1497) (by decide +kernel), List.mem_of_getElem? (i := 1498) (by decide +kernel)⟩
theorem lw_p46 : lw_okq (⟨"TaskgraphicModel", "holdsShared", "(I)V"⟩, 45) := ⟨⟨by decide +kernel, by decide +kernel⟩, List.mem_of_getElem? (i := 1251) (by decide +kernel), List.mem_of_getElem? (i := 1501) (by decide +kernel), List.mem_of_getElem? (i := 1502) (by decide +kernel)⟩
theorem lw_p47 : lw_okq (⟨"TaskgraphicModel", "next", "(IJII)J"⟩, 45) := ⟨⟨by decide +kernel, by decide +kernel⟩, List.mem_of_getElem? (i := 1251) (by decide +kernel), List.mem_of_getElem? (i := 1506) (by decide +kernel), List.mem_of_getElem? (i := 1507) (by decide +kernel)⟩
def lw_privs_3 : List (MethodName × Nat) := [(⟨"TaskgraphicModel", "is", "(I)Z"⟩, 45), (⟨"TaskgraphicModel", "empties", "()V"⟩, 45), (⟨"TaskgraphicModel", "tells", "(I)I"⟩, 45), (⟨"TaskgraphicModel", "isNoNode", "(I)Z"⟩, 45), (⟨"TaskgraphicModel", "knows", "()V"⟩, 45), (⟨"TaskgraphicModel", "holdsSource", "(I)V"⟩, 45), (⟨"TaskgraphicModel", "adds", "(IIII)V"⟩, 45), (⟨"TaskgraphicModel", "holdsMapped", "(I)V"⟩, 45), (⟨"TaskgraphicModel", "at", "(II)I"⟩, 45), (⟨"TaskgraphicModel", "holdsUnion", "(I)V"⟩, 45), (⟨"TaskgraphicModel", "all", "(I)I"⟩, 45), (⟨"TaskgraphicModel", "isBroadly", "(I)Z"⟩, 45), (⟨"TaskgraphicModel", "holdsBroad", "(I)V"⟩, 45), (⟨"TaskgraphicModel", "joins", "(III)I"⟩, 45), (⟨"TaskgraphicModel", "holdsShared", "(I)V"⟩, 45), (⟨"TaskgraphicModel", "next", "(IJII)J"⟩, 45)]
theorem lw_r3 : ∀ q ∈ lw_privs_3, lw_okq q := List.forall_mem_cons.mpr ⟨lw_p32, List.forall_mem_cons.mpr ⟨lw_p33, List.forall_mem_cons.mpr ⟨lw_p34, List.forall_mem_cons.mpr ⟨lw_p35, List.forall_mem_cons.mpr ⟨lw_p36, List.forall_mem_cons.mpr ⟨lw_p37, List.forall_mem_cons.mpr ⟨lw_p38, List.forall_mem_cons.mpr ⟨lw_p39, List.forall_mem_cons.mpr ⟨lw_p40, List.forall_mem_cons.mpr ⟨lw_p41, List.forall_mem_cons.mpr ⟨lw_p42, List.forall_mem_cons.mpr ⟨lw_p43, List.forall_mem_cons.mpr ⟨lw_p44, List.forall_mem_cons.mpr ⟨lw_p45, List.forall_mem_cons.mpr ⟨lw_p46, List.forall_mem_cons.mpr ⟨lw_p47, fun _ h => absurd h List.not_mem_nil⟩⟩⟩⟩⟩⟩⟩⟩⟩⟩⟩⟩⟩⟩⟩⟩
theorem lw_p48 : lw_okq (⟨"TaskgraphicModel", "grouped", "(II)I"⟩, 45) := ⟨⟨by decide +kernel, by decide +kernel⟩, List.mem_of_getElem? (i := 1251) (by decide +kernel), List.mem_of_getElem? (i := 1511) (by decide +kernel), List.mem_of_getElem? (i := 1512) (by decide +kernel)⟩
theorem lw_p49 : lw_okq (⟨"TaskgraphicModel", "isPart", "(II)Z"⟩, 45) := ⟨⟨by decide +kernel, by decide +kernel⟩, List.mem_of_getElem? (i := 1251) (by decide +kernel), List.mem_of_getElem? (i := 1519) (by decide +kernel), List.mem_of_getElem? (i := 1520) (by decide +kernel)⟩
theorem lw_p50 : lw_okq (⟨"TaskgraphicModel", "rowsOf", "(II)I"⟩, 45) := ⟨⟨by decide +kernel, by decide +kernel⟩, List.mem_of_getElem? (i := 1251) (by decide +kernel), List.mem_of_getElem? (i := 1523) (by decide +kernel), List.mem_of_getElem? (i := 1524) (by decide +kernel)⟩
theorem lw_p51 : lw_okq (⟨"TaskgraphicModel", "ofRow", "([IIII)I"⟩, 45) := ⟨⟨by decide +kernel, by decide +kernel⟩, List.mem_of_getElem? (i := 1251) (by decide +kernel), List.mem_of_getElem? (i := 1535) (by decide +kernel), List.mem_of_getElem? (i := 1536) (by decide +kernel)⟩
theorem lw_p52 : lw_okq (⟨"TaskgraphicModel", "digests", "(I)I"⟩, 45) := ⟨⟨by decide +kernel, by decide +kernel⟩, List.mem_of_getElem? (i := 1251) (by decide +kernel), List.mem_of_getElem? (i := 1551) (by decide +kernel), List.mem_of_getElem? (i := 1552) (by decide +kernel)⟩
theorem lw_p53 : lw_okq (⟨"TaskgraphicModel", "leaves", "(I)I"⟩, 45) := ⟨⟨by decide +kernel, by decide +kernel⟩, List.mem_of_getElem? (i := 1251) (by decide +kernel), List.mem_of_getElem? (i := 1579) (by decide +kernel), List.mem_of_getElem? (i := 1580) (by decide +kernel)⟩
theorem lw_p54 : lw_okq (⟨"TaskgraphicModel", "cached", "()I"⟩, 45) := ⟨⟨by decide +kernel, by decide +kernel⟩, List.mem_of_getElem? (i := 1251) (by decide +kernel), List.mem_of_getElem? (i := 1583) (by decide +kernel), List.mem_of_getElem? (i := 1584) (by decide +kernel)⟩
theorem lw_p55 : lw_okq (⟨"TaskgraphicModel", "finds", "(I)I"⟩, 45) := ⟨⟨by decide +kernel, by decide +kernel⟩, List.mem_of_getElem? (i := 1251) (by decide +kernel), List.mem_of_getElem? (i := 1599) (by decide +kernel), List.mem_of_getElem? (i := 1600) (by decide +kernel)⟩
theorem lw_p56 : lw_okq (⟨"TaskgraphicModel", "reads", "(II)I"⟩, 45) := ⟨⟨by decide +kernel, by decide +kernel⟩, List.mem_of_getElem? (i := 1251) (by decide +kernel), List.mem_of_getElem? (i := 1603) (by decide +kernel), List.mem_of_getElem? (i := 1604) (by decide +kernel)⟩
theorem lw_p57 : lw_okq (⟨"TaskgraphicModel", "needs", "(I)V"⟩, 45) := ⟨⟨by decide +kernel, by decide +kernel⟩, List.mem_of_getElem? (i := 1251) (by decide +kernel), List.mem_of_getElem? (i := 1607) (by decide +kernel), List.mem_of_getElem? (i := 1608) (by decide +kernel)⟩
theorem lw_p58 : lw_okq (⟨"TaskgraphicModel", "shared", "(III)I"⟩, 45) := ⟨⟨by decide +kernel, by decide +kernel⟩, List.mem_of_getElem? (i := 1251) (by decide +kernel), List.mem_of_getElem? (i := 1611) (by decide +kernel), List.mem_of_getElem? (i := 1612) (by decide +kernel)⟩
theorem lw_p59 : lw_okq (⟨"TaskgraphicModel", "stage", "(II)I"⟩, 45) := ⟨⟨by decide +kernel, by decide +kernel⟩, List.mem_of_getElem? (i := 1251) (by decide +kernel), List.mem_of_getElem? (i := 1623) (by decide +kernel), List.mem_of_getElem? (i := 1624) (by decide +kernel)⟩
theorem lw_p60 : lw_okq (⟨"TaskgraphicModel", "takes", "(IIIIZ)V"⟩, 45) := ⟨⟨by decide +kernel, by decide +kernel⟩, List.mem_of_getElem? (i := 1251) (by decide +kernel), List.mem_of_getElem? (i := 1627) (by decide +kernel), List.mem_of_getElem? (i := 1628) (by decide +kernel)⟩
theorem lw_p61 : lw_okq (⟨"TaskgraphicModel", "copies", "(IIII)Z"⟩, 45) := ⟨⟨by decide +kernel, by decide +kernel⟩, List.mem_of_getElem? (i := 1251) (by decide +kernel), List.mem_of_getElem? (i := 1631) (by decide +kernel), List.mem_of_getElem? (i := 1632) (by decide +kernel)⟩
theorem lw_p62 : lw_okq (⟨"TaskgraphicModel", "latest", "(II)I"⟩, 45) := ⟨⟨by decide +kernel, by decide +kernel⟩, List.mem_of_getElem? (i := 1251) (by decide +kernel), List.mem_of_getElem? (i := 1635) (by decide +kernel), List.mem_of_getElem? (i := 1636) (by decide +kernel)⟩
theorem lw_p63 : lw_okq (⟨"TaskgraphicModel", "keeps", "()V"⟩, 45) := ⟨⟨by decide +kernel, by decide +kernel⟩, List.mem_of_getElem? (i := 1251) (by decide +kernel), List.mem_of_getElem? (i := 1639) (by decide +kernel), List.mem_of_getElem? (i := 1640) (by decide +kernel)⟩
def lw_privs_4 : List (MethodName × Nat) := [(⟨"TaskgraphicModel", "grouped", "(II)I"⟩, 45), (⟨"TaskgraphicModel", "isPart", "(II)Z"⟩, 45), (⟨"TaskgraphicModel", "rowsOf", "(II)I"⟩, 45), (⟨"TaskgraphicModel", "ofRow", "([IIII)I"⟩, 45), (⟨"TaskgraphicModel", "digests", "(I)I"⟩, 45), (⟨"TaskgraphicModel", "leaves", "(I)I"⟩, 45), (⟨"TaskgraphicModel", "cached", "()I"⟩, 45), (⟨"TaskgraphicModel", "finds", "(I)I"⟩, 45), (⟨"TaskgraphicModel", "reads", "(II)I"⟩, 45), (⟨"TaskgraphicModel", "needs", "(I)V"⟩, 45), (⟨"TaskgraphicModel", "shared", "(III)I"⟩, 45), (⟨"TaskgraphicModel", "stage", "(II)I"⟩, 45), (⟨"TaskgraphicModel", "takes", "(IIIIZ)V"⟩, 45), (⟨"TaskgraphicModel", "copies", "(IIII)Z"⟩, 45), (⟨"TaskgraphicModel", "latest", "(II)I"⟩, 45), (⟨"TaskgraphicModel", "keeps", "()V"⟩, 45)]
theorem lw_r4 : ∀ q ∈ lw_privs_4, lw_okq q := List.forall_mem_cons.mpr ⟨lw_p48, List.forall_mem_cons.mpr ⟨lw_p49, List.forall_mem_cons.mpr ⟨lw_p50, List.forall_mem_cons.mpr ⟨lw_p51, List.forall_mem_cons.mpr ⟨lw_p52, List.forall_mem_cons.mpr ⟨lw_p53, List.forall_mem_cons.mpr ⟨lw_p54, List.forall_mem_cons.mpr ⟨lw_p55, List.forall_mem_cons.mpr ⟨lw_p56, List.forall_mem_cons.mpr ⟨lw_p57, List.forall_mem_cons.mpr ⟨lw_p58, List.forall_mem_cons.mpr ⟨lw_p59, List.forall_mem_cons.mpr ⟨lw_p60, List.forall_mem_cons.mpr ⟨lw_p61, List.forall_mem_cons.mpr ⟨lw_p62, List.forall_mem_cons.mpr ⟨lw_p63, fun _ h => absurd h List.not_mem_nil⟩⟩⟩⟩⟩⟩⟩⟩⟩⟩⟩⟩⟩⟩⟩⟩
theorem lw_p64 : lw_okq (⟨"TaskgraphicModel", "ofAttempt", "([II)I"⟩, 45) := ⟨⟨by decide +kernel, by decide +kernel⟩, List.mem_of_getElem? (i := 1251) (by decide +kernel), List.mem_of_getElem? (i := 1659) (by decide +kernel), List.mem_of_getElem? (i := 1660) (by decide +kernel)⟩
def lw_privs_5 : List (MethodName × Nat) := [(⟨"TaskgraphicModel", "ofAttempt", "([II)I"⟩, 45)]
theorem lw_r5 : ∀ q ∈ lw_privs_5, lw_okq q := List.forall_mem_cons.mpr ⟨lw_p64, fun _ h => absurd h List.not_mem_nil⟩
def lw_privs : List (MethodName × Nat) := lw_privs_1 ++ (lw_privs_2 ++ (lw_privs_3 ++ (lw_privs_4 ++ (lw_privs_5))))
def lw_tbl : List Cond := k2_sels lw_privs ++ tables_1
theorem lw_privs_ok : ∀ q ∈ lw_privs, lw_okq q := by
  show ∀ q ∈ lw_privs_1 ++ (lw_privs_2 ++ (lw_privs_3 ++ (lw_privs_4 ++ (lw_privs_5)))), lw_okq q
  exact List.forall_mem_append.mpr ⟨lw_r1, List.forall_mem_append.mpr ⟨lw_r2, List.forall_mem_append.mpr ⟨lw_r3, List.forall_mem_append.mpr ⟨lw_r4, lw_r5⟩⟩⟩⟩
/-- the streams that the claim lets the run draw from -/
abbrev lw_cs : List Choice := [Jvm.Choice.named "NaN.bits"]
theorem lw_bits : nanBits ∈ lw_cs := by first | decide | exact List.mem_cons_self | simp [lw_cs, nanBits]
-- names (printed)
/-! ===== BEGIN words of one list among another's, by their places ===== -/
theorem goodIn_r {big : List Cond} (ws : List Cond) (ps : List Nat) (hp : ws = ps.filterMap (fun i => big[i]?)) (h : ws.all goodWord = true) : GoodIn big ws := by
  intro w hw
  have h1 := List.all_eq_true.mp h w hw
  rw [hp] at hw
  obtain ⟨i, -, hi⟩ := List.mem_filterMap.mp hw
  have hm : w ∈ big := by first | exact List.mem_of_getElem? hi | exact List.getElem?_mem hi
  exact ⟨hm, good_of_word h1⟩
theorem goodIn_app {big a b : List Cond} (ha : GoodIn big a) (hb : GoodIn big b) : GoodIn big (a ++ b) := fun w h => (List.mem_append.mp h).elim (ha w) (hb w)
theorem goodIn_ca {big a b : List Cond} {c : Cond} (ha : GoodIn big (c :: a)) (hb : GoodIn big b) : GoodIn big (c :: (a ++ b)) := fun w h => (List.mem_cons.mp h).elim (fun e => ha w (List.mem_cons.mpr (Or.inl e))) (fun h => (List.mem_append.mp h).elim (fun h => ha w (List.mem_cons.mpr (Or.inr h))) (hb w))
theorem goodIn_sub {big ws : List Cond} (hm : ∀ w ∈ ws, w ∈ big) (h : ws.all goodWord = true) : GoodIn big ws := fun w hw => ⟨hm w hw, good_of_word (List.all_eq_true.mp h w hw)⟩
/-! ===== END ===== -/

/-! ===== BEGIN exceptions that leave a method, and their catching by the caller (launches without stack traces) ===== -/
section VXA
/-! The laws vx_back, vx_callV, vx_callS, vx_callSW, vx_throw0, vx_throwS follow proofs of the library, with one case more: JvmDerived/Free/Laws.lean (Back.of_free), Shelf42/LK1.lean (callV, callS), Shelf/KitTraced.lean (throwNew0V, throwNewS). -/
/-- where a method has thrown q: the class by its name, the cell, what was written, the world -/
def vx_T (XC : String → State → State → Prop) (st : State) (q : Addr) (t : State) (mc ms : Nat) (free : Addr → Prop) : Prop :=
  ∃ (E : String) (ce : Cell) (L : List Loc), XC E st t ∧ t.heap[q]? = some ce ∧ ce.vm = .none ∧ st.vm.findClass E = some ce.cls ∧ st.WarmedH t.vm ∧ st.sameButNew ({ t with vm := st.vm } : State) L mc ms ∧ ∀ z ∈ L, free z.base
def vx_Q (Qc : Array Value → State → Outcome → State → Prop) (XC : String → State → State → Prop) (mc ms : Nat) (free : Addr → Prop) : Array Value → State → Outcome → State → Prop := fun a st o t =>
  (Qc a st o t ∧ ∃ L, FrameEnd st o t L mc ms ∧ ∀ q ∈ L, free q.base) ∨ ∃ q, o = .threw q ∧ vx_T XC st q t mc ms free
/-- a callee that returns or throws -/
def vx_Met (l : Launch) (y : MethodName) (ws : List Cond) (rm : Room) (Pc : Array Value → State → Prop) (Qc : Array Value → State → Outcome → State → Prop) (XC : String → State → State → Prop) (mc ms : Nat) (free : Addr → Prop) : Prop :=
  MetFree l y (headSpec ws rm) Pc (fun _ _ _ _ _ => True) (vx_Q Qc XC mc ms free)
def vx_Post (XC : String → State → State → Prop) (mc ms : Nat) (free : Addr → Prop) : Pt → Array Value → Addr → Pt → Prop := fun A a q B =>
  ∃ (g : JFrame) (mk : MethodId) (t : State) (L : List Loc) (E : String) (ce : Cell), B.U.heap = t.heap ∧ B.U.vm = t.vm ∧ XC E (A.U.calling g mk a) t ∧ t.heap[q]? = some ce ∧ ce.vm = .none ∧ A.U.vm.findClass E = some ce.cls ∧ B.locs = A.locs ++ L ∧ (∀ z ∈ L, free z.base) ∧ B.cells = A.cells + mc ∧ B.slots = A.slots + ms
def vx_Back (l : Launch) (R : Room) (p : Program) (e : Env) (below : List Frame) (s : State) (sargs : Array Value) (y : MethodName) (len W9 : Nat)
    (Pre : Pt → Array Value → Prop) (Post : Pt → Array Value → Option Value → Pt → Prop) (PostX : Pt → Array Value → Addr → Pt → Prop) : Prop :=
  ∀ (m : MethodId) (meth : Method) (c : Code) (A : Pt) (g : JFrame) (ig : Instr) (mk : MethodId) (a : Array Value),
    Stand p l e R s m sargs below meth c A.U A.locs A.cells A.slots → g.method = m → g.locals.size = c.maxLocals → decode c.code g.pc = .ok (ig, len) →
    2 * g.monitorRoom + (g.stack.map fun v => v.category).sum ≤ W9 → A.U.methodNamed? y = some mk → Pre A a →
    (∃ (v : Option Value) (B : Pt), Stand p l e R s m sargs below meth c B.U B.locs B.cells B.slots ∧ Post A a v B ∧
      Steps p.tables e below (doInvoke e (A.U.setTop g) [] mk a).1 (B.U.setTop { g with pc := g.pc + len, stack := v.toList ++ g.stack })) ∨
    (∃ (q : Addr) (B : Pt), Stand p l e R s m sargs below meth c B.U B.locs B.cells B.slots ∧ PostX A a q B ∧
      Steps p.tables e below (doInvoke e (A.U.setTop g) [] mk a).1 ((B.U.setTop g).pushFrame (.throwing q)))
section Payer
variable {l : Launch} {R : Room} {p : Program} {e : Env} {below : List Frame} {s : State} {sargs : Array Value} {y : MethodName} {len W9 : Nat}
theorem vx_back {ws : List Cond} {rm : Room} {Pc : Array Value → State → Prop} {Qc : Array Value → State → Outcome → State → Prop} {XC : String → State → State → Prop} {mc ms : Nat} {free : Addr → Prop} {bytes : ByteArray} {maxL : Nat} {ret : Option FieldType}
    (hM : vx_Met l y ws rm Pc Qc XC mc ms free) (hblind : FrameBlind Pc) (hrc : rm.cells = mc) (hrs : rm.slots = ms)
    (hframes : rm.frames + 1 ≤ R.frames) (hlocals : W9 + (maxL + 11) + rm.locals ≤ R.locals)
    (hws : ∀ w ∈ ws, ∀ a' U, s.WarmedH U.vm → w.before a' U = true) (hcode : Cond.code y bytes maxL ret ∈ ws) (hinit : ∀ a' U, s.WarmedH U.vm → (Cond.initialized y.cls).before a' U = true) :
    vx_Back l R p e below s sargs y len W9 (PreOf R mc ms Pc) (PostOf Qc mc ms free) (vx_Post XC mc ms free) := by
  intro m meth c A g ig mk a X hg hsize hdg hW hn hp
  have h1 : (headSpec ws rm).pre.before a A.U = true := atoms_intro fun w hw => hws w hw _ _ X.warmed
  have h2 : (Cond.code y bytes maxL ret).before a A.U = true := hws _ hcode _ _ X.warmed
  have h3 : (Cond.initialized y.cls).before a A.U = true := hinit _ _ X.warmed
  have h4 : A.cells + (headSpec ws rm).room.cells ≤ R.cells := by rw [show (headSpec ws rm).room.cells = mc from hrc]; exact hp.1
  have h5 : A.slots + (headSpec ws rm).room.slots ≤ R.slots := by rw [show (headSpec ws rm).room.slots = ms from hrs]; exact hp.2.1
  have hPc : Pc a (A.U.calling g mk a) := hblind _ _ _ _ hp.2.2
  obtain ⟨U, Ls, c0, s0⟩ := A
  dsimp only [Pt.U, Pt.locs, Pt.cells, Pt.slots] at h1 h2 h3 h4 h5 X hn hPc ⊢
  obtain ⟨methY, cY, hmY, hcY, -, hlY, -, -, -, -⟩ := Cond.code_spec hn h2
  obtain ⟨kY, hkY, -⟩ := className_of_methodNamed hn
  have hinitY : kY.init = .initialized := Cond.initialized_spec (findClass_of_methodNamed hn) hkY h3
  have h : At U g.method c below := by rw [hg]; exact X.here
  have hlocals9 : W9 + (maxL + 11) + (headSpec ws rm).room.locals ≤ R.locals := hlocals
  have happ : (headSpec ws rm).appliesLoose y e.platform (U.calling g mk a) = true :=
    Spec.appliesLoose_calling (g := g) h hdg hn hkY hinitY
      (X.room_calling (g := g) (R' := (headSpec ws rm).room) hsize hmY hcY hframes (by rw [hlY]; omega) h4 h5) h1
  obtain ⟨mid, hmid⟩ := h.above
  have hfr : (U.setTop g).frames = (.java g :: mid) ++ below := by rw [State.frames_setTop' g h.top, hmid]; rfl
  obtain ⟨o, s₂, hsteps, -, hend, hq⟩ := Steps.callFree hM p X.admits X.cas X.clock (acts := []) hfr happ hPc trivial
  have hq' : vx_Q Qc XC mc ms free a (U.calling g mk a) o s₂ := hq
  rw [State.frames_setTop' g h.top] at hend
  obtain ⟨g₀, hg0⟩ := Option.isSome_iff_exists.mp h.top
  obtain ⟨r, hr⟩ := State.topJava?_eq_some.mp hg0
  have hr' : (({ U with heap := s₂.heap, slotsUsed := s₂.slotsUsed } : State).setVm s₂.vm).frames = .java g₀ :: r := hr
  rcases hq' with ⟨hqc, L, hfe, hL⟩ | ⟨q, rfl, E, ce, L, hx, hce, hcv, hcl, hW₂, hsm, hL⟩
  · obtain ⟨⟨v, rfl⟩, hW₂, e2, q2, q3, q4, q5, q6⟩ := id hfe
    have e3 : s₂ = ({ (U.calling g mk a).setFrames s₂.frames with heap := s₂.heap, slotsUsed := s₂.slotsUsed } : State).setVm s₂.vm := by
      have : s₂ = ({ s₂ with vm := (U.calling g mk a).vm } : State).setVm s₂.vm := rfl
      rw [e2] at this
      exact this
    obtain ⟨c₂, i₂, len₂, hc₂, hd₂, hf₂⟩ := hend
    have hW' : U.WarmedH s₂.vm := hW₂
    have hcc : c₂ = c := by
      have h1 : s₂.code? g.method = U.code? g.method := by
        rw [State.code?_eq, State.code?_eq, hW'.alike.method?]
      exact Option.some.inj (hc₂.symm.trans (h1.trans h.code))
    subst hcc
    have hlen : len₂ = len := by rw [hdg] at hd₂; cases hd₂; rfl
    subst hlen
    have hs₂ : s₂ = (({ U with heap := s₂.heap, slotsUsed := s₂.slotsUsed } : State).setVm s₂.vm).setTop { g with pc := g.pc + len₂, stack := v.toList ++ g.stack } := by
      refine e3.trans ?_
      rw [hf₂, State.calling_eq h.top, State.setFrames_setFrames, State.setTop_of_frames _ hr', hr]
      rfl
    have hsame : U.sameButNew ({ U with heap := s₂.heap, slotsUsed := s₂.slotsUsed } : State) L mc ms := by
      refine ⟨?_, q2, q3, q4, q5, q6⟩
      obtain ⟨t, ht, -⟩ := State.frames_cons hr
      show ({ U with heap := s₂.heap, slotsUsed := s₂.slotsUsed } : State) = { U.setFrames U.frames with heap := s₂.heap, slotsUsed := s₂.slotsUsed }
      rw [State.setFrames_self ht]
    subst hg
    refine Or.inl ⟨v, ⟨(({ U with heap := s₂.heap, slotsUsed := s₂.slotsUsed } : State).setVm s₂.vm), Ls ++ L, c0 + mc, s0 + ms⟩,
      ⟨X.admits, X.cas, X.clock, X.frames, X.room, X.hears, X.method, X.code, (X.here.setHeapUsed s₂.heap s₂.slotsUsed).setVm hW'.alike, X.tail, State.WarmedH.trans X.warmed hW', X.limits, X.bytes, X.same.trans (hsame.setVm s.vm)⟩,
      ⟨g, mk, s₂, L, rfl, rfl, hqc, rfl, hL, rfl, rfl⟩, ?_⟩
    show Steps p.tables e below _ ((({ U with heap := s₂.heap, slotsUsed := s₂.slotsUsed } : State).setVm s₂.vm).setTop { g with pc := g.pc + len₂, stack := v.toList ++ g.stack })
    rw [← hs₂]
    exact hsteps
  · obtain ⟨e2, q2, q3, q4, q5, q6⟩ := id hsm
    have e3 : s₂ = ({ (U.calling g mk a).setFrames s₂.frames with heap := s₂.heap, slotsUsed := s₂.slotsUsed } : State).setVm s₂.vm := by
      have : s₂ = ({ s₂ with vm := (U.calling g mk a).vm } : State).setVm s₂.vm := rfl
      rw [e2] at this
      exact this
    have hf₂ : s₂.frames = .throwing q :: .java g :: U.frames.tail := hend
    have hW' : U.WarmedH s₂.vm := hW₂
    have hs₂ : s₂ = ((({ U with heap := s₂.heap, slotsUsed := s₂.slotsUsed } : State).setVm s₂.vm).setTop g).pushFrame (.throwing q) := by
      refine e3.trans ?_
      rw [hf₂, State.calling_eq h.top, State.setFrames_setFrames, State.pushFrame, State.frames_setTop _ hr', State.setTop_of_frames _ hr', State.setFrames_setFrames, hr]
      rfl
    have hsame : U.sameButNew ({ U with heap := s₂.heap, slotsUsed := s₂.slotsUsed } : State) L mc ms := by
      refine ⟨?_, q2, q3, q4, q5, q6⟩
      obtain ⟨t, ht, -⟩ := State.frames_cons hr
      show ({ U with heap := s₂.heap, slotsUsed := s₂.slotsUsed } : State) = { U.setFrames U.frames with heap := s₂.heap, slotsUsed := s₂.slotsUsed }
      rw [State.setFrames_self ht]
    subst hg
    refine Or.inr ⟨q, ⟨(({ U with heap := s₂.heap, slotsUsed := s₂.slotsUsed } : State).setVm s₂.vm), Ls ++ L, c0 + mc, s0 + ms⟩,
      ⟨X.admits, X.cas, X.clock, X.frames, X.room, X.hears, X.method, X.code, (X.here.setHeapUsed s₂.heap s₂.slotsUsed).setVm hW'.alike, X.tail, State.WarmedH.trans X.warmed hW', X.limits, X.bytes, X.same.trans (hsame.setVm s.vm)⟩,
      ⟨g, mk, s₂, L, E, ce, rfl, rfl, hx, hce, hcv, hcl, rfl, hL, rfl, rfl⟩, ?_⟩
    show Steps p.tables e below _ (((({ U with heap := s₂.heap, slotsUsed := s₂.slotsUsed } : State).setVm s₂.vm).setTop g).pushFrame (.throwing q))
    rw [← hs₂]
    exact hsteps
end Payer
section Calls
variable {p : Program} {l : Launch} {e : Env} {R : Room} {s : State} {m : MethodId} {args : Array Value} {below : List Frame} {meth : Method} {c : Code} {T : State} {locs : List Loc} {cells slots : Nat}
theorem vx_callV (X : Stand p l e R s m args below meth c T locs cells slots) (hexec : p.tables.exec = Jvm.exec) {own C : String} {index : Nat} {y : MethodName} {bytes : ByteArray} {maxL : Nat} {ret : Option FieldType}
    (hown : s.vm.findClass own = some m.cls) (hlink : (Cond.methodLink own index y).before args s = true) (hinst : (Cond.instanceMethod y).before args s = true) (hsel : (Cond.selects C y y).before args s = true)
    (hcode : (Cond.code y bytes maxL ret).before args s = true) (hy : y.cls ≠ "java/lang/invoke/MethodHandle" ∧ y.cls ≠ "java/lang/invoke/VarHandle")
    {W9 : Nat} {Pre : Pt → Array Value → Prop} {Post : Pt → Array Value → Option Value → Pt → Prop} {PostX : Pt → Array Value → Addr → Pt → Prop} (hK : vx_Back l R p e below s args y 3 W9 Pre Post PostX)
    {b : Addr} {cellB : Cell} (hcell : T.heap[b]? = some cellB) (hobj : cellB.vm.isStatics = false) (hcls : s.vm.findClass C = some cellB.cls)
    {g : JFrame} (hg : g.method = m) (hsize : g.locals.size = c.maxLocals) {argsL rest : List Value} (hlen : ∀ sig, parseMethodDescriptor y.desc = some sig → argsL.length = sig.parameters.length)
    (hstack : g.stack = argsL.reverse ++ .ref b :: rest) (hW : 2 * g.monitorRoom + (rest.map fun v => v.category).sum ≤ W9) (hdg : decode c.code g.pc = .ok (.invokevirtual index, 3))
    (hpre : ∀ vm₁, s.WarmedH vm₁ → Pre ⟨T.setVm vm₁, locs, cells, slots⟩ (Value.ref b :: argsL).toArray) :
    (∃ (v : Option Value) (vm₁ : Vm) (B : Pt), s.WarmedH vm₁ ∧ Stand p l e R s m args below meth c B.U B.locs B.cells B.slots ∧ Post ⟨T.setVm vm₁, locs, cells, slots⟩ (Value.ref b :: argsL).toArray v B ∧
      ∀ target, Steps p.tables e below (B.U.setTop { g with pc := g.pc + 3, stack := v.toList ++ rest }) target → Steps p.tables e below (T.setTop g) target) ∨
    (∃ (q : Addr) (vm₁ : Vm) (B : Pt), s.WarmedH vm₁ ∧ Stand p l e R s m args below meth c B.U B.locs B.cells B.slots ∧ PostX ⟨T.setVm vm₁, locs, cells, slots⟩ (Value.ref b :: argsL).toArray q B ∧
      Steps p.tables e below (T.setTop g) ((B.U.setTop { g with stack := rest }).pushFrame (.throwing q))) := by
  obtain ⟨mk, methM, hnamed, hmethM, hstM, habM⟩ := Cond.instanceMethod_spec hinst
  obtain ⟨methM', cM, hmethM', -, -, -, -, -, -, hsigM⟩ := Cond.code_spec hnamed hcode
  cases hmethM.symm.trans hmethM'
  obtain ⟨c2, r2, m2, q1, q2, q3, q4, kP, hkP, hkPi⟩ := Cond.selects_spec hsel
  cases hcls.symm.trans q1
  cases (State.methodFound?_of_named hnamed hy).symm.trans q2
  cases hnamed.symm.trans q3
  have hselP : selectMethod e.platform s.vm cellB.cls mk = .method mk := by rw [Launch.admits_selectMethod X.admits]; exact q4
  obtain ⟨vm₁, X₁, hstep₁⟩ := X.invokevirtual hexec hown hlink hnamed hmethM hstM hkP hkPi hy (a := b) (cell := cellB) hcell
    (fun z h => by rw [h] at hobj; cases hobj) hselP hmethM habM hkP hkPi (g := g) hg (argsL := argsL) (rest := rest) (hlen _ hsigM) hstack hdg
  rcases hK m meth c ⟨T.setVm vm₁, locs, cells, slots⟩ { g with stack := rest } (.invokevirtual index) mk (Value.ref b :: argsL).toArray X₁ hg hsize hdg hW (X₁.named hnamed) (hpre vm₁ X₁.warmed) with ⟨v, B, X', hpost, hsteps⟩ | ⟨q, B, X', hpost, hsteps⟩
  · exact Or.inl ⟨v, vm₁, B, X₁.warmed, X', hpost, fun target h => hstep₁ _ fun acts => by rw [doInvoke_state]; exact hsteps.trans h⟩
  · exact Or.inr ⟨q, vm₁, B, X₁.warmed, X', hpost, hstep₁ _ fun acts => by rw [doInvoke_state]; exact hsteps⟩
theorem vx_callS (X : Stand p l e R s m args below meth c T locs cells slots) (hexec : p.tables.exec = Jvm.exec) {own : String} {index : Nat} {y : MethodName} {bytes : ByteArray} {maxL : Nat} {ret : Option FieldType}
    (hown : s.vm.findClass own = some m.cls) (hlink : (Cond.methodLink own index y).before args s = true) (hstat : (Cond.static y).before args s = true) (hinit : (Cond.initialized y.cls).before args s = true)
    (hcode : (Cond.code y bytes maxL ret).before args s = true) (hy : y.cls ≠ "java/lang/invoke/MethodHandle" ∧ y.cls ≠ "java/lang/invoke/VarHandle")
    {W9 : Nat} {Pre : Pt → Array Value → Prop} {Post : Pt → Array Value → Option Value → Pt → Prop} {PostX : Pt → Array Value → Addr → Pt → Prop} (hK : vx_Back l R p e below s args y 3 W9 Pre Post PostX)
    {g : JFrame} (hg : g.method = m) (hsize : g.locals.size = c.maxLocals) {argsL rest : List Value} (hlen : ∀ sig, parseMethodDescriptor y.desc = some sig → argsL.length = sig.parameters.length)
    (hstack : g.stack = argsL.reverse ++ rest) (hW : 2 * g.monitorRoom + (rest.map fun v => v.category).sum ≤ W9) (hdg : decode c.code g.pc = .ok (.invokestatic index, 3))
    (hpre : ∀ vm₁, s.WarmedH vm₁ → Pre ⟨T.setVm vm₁, locs, cells, slots⟩ argsL.toArray) :
    (∃ (v : Option Value) (vm₁ : Vm) (B : Pt), s.WarmedH vm₁ ∧ Stand p l e R s m args below meth c B.U B.locs B.cells B.slots ∧ Post ⟨T.setVm vm₁, locs, cells, slots⟩ argsL.toArray v B ∧
      ∀ target, Steps p.tables e below (B.U.setTop { g with pc := g.pc + 3, stack := v.toList ++ rest }) target → Steps p.tables e below (T.setTop g) target) ∨
    (∃ (q : Addr) (vm₁ : Vm) (B : Pt), s.WarmedH vm₁ ∧ Stand p l e R s m args below meth c B.U B.locs B.cells B.slots ∧ PostX ⟨T.setVm vm₁, locs, cells, slots⟩ argsL.toArray q B ∧
      Steps p.tables e below (T.setTop g) ((B.U.setTop { g with stack := rest }).pushFrame (.throwing q))) := by
  obtain ⟨mk, hnamed⟩ := Cond.code_named hcode
  obtain ⟨methM, cM, hmethM, -, -, -, -, -, -, hsigM⟩ := Cond.code_spec hnamed hcode
  have hstatic : methM.isStatic = true := Cond.static_spec hnamed hmethM hstat
  obtain ⟨kP, hkP, -⟩ := className_of_methodNamed hnamed
  have hinitP : kP.init = .initialized := Cond.initialized_spec (findClass_of_methodNamed hnamed) hkP hinit
  obtain ⟨vm₁, X₁, hstep₁⟩ := X.invokestatic hexec hown hlink hnamed hmethM hstatic hkP hinitP hy (g := g) hg (argsL := argsL) (rest := rest) (hlen _ hsigM) hstack hdg
  rcases hK m meth c ⟨T.setVm vm₁, locs, cells, slots⟩ { g with stack := rest } (.invokestatic index) mk argsL.toArray X₁ hg hsize hdg hW (X₁.named hnamed) (hpre vm₁ X₁.warmed) with ⟨v, B, X', hpost, hsteps⟩ | ⟨q, B, X', hpost, hsteps⟩
  · exact Or.inl ⟨v, vm₁, B, X₁.warmed, X', hpost, fun target h => hstep₁ _ fun acts => by rw [doInvoke_state]; exact hsteps.trans h⟩
  · exact Or.inr ⟨q, vm₁, B, X₁.warmed, X', hpost, hstep₁ _ fun acts => by rw [doInvoke_state]; exact hsteps⟩
end Calls
theorem vx_cls {s : State} {T : State} {vm₁ : Vm} {E : String} {k : ClassId} (hW : s.WarmedH vm₁) (h : (T.setVm vm₁).vm.findClass E = some k) : s.vm.findClass E = some k := by
  have h1 : vm₁.findClass E = some k := h
  rw [hW.alike.findClass] at h1
  exact h1
/-- the method's frame g, with q thrown over it -/
def vx_W (p : Program) (l : Launch) (e : Env) (R : Room) (s : State) (m : MethodId) (args : Array Value) (below : List Frame) (meth : Method) (c : Code) (H : Heap) (locs : List Loc) (cells slots : Nat) (Q : State → Prop) (g : JFrame) (q : Addr) : Prop :=
  ∀ T : State, T.heap = H → Stand p l e R s m args below meth c T locs cells slots → ∃ t, Steps p.tables e below ((T.setTop g).pushFrame (.throwing q)) t ∧ Q t
def vx_Run (p : Program) (l : Launch) (e : Env) (R : Room) (s : State) (m : MethodId) (args : Array Value) (below : List Frame) (meth : Method) (c : Code) (H : Heap) (locs : List Loc) (cells slots mc ms : Nat) (g : JFrame) (rest : List Value) (Qa : State → Outcome → State → Prop) (XC : String → State → State → Prop) (free : Addr → Prop) : Prop :=
  ∀ T : State, T.heap = H → Stand p l e R s m args below meth c T locs cells slots →
    (∃ (v : Option Value) (st₀ t T' : State) (L : List Loc), st₀.heap = H ∧ Stand p l e R s m args below meth c T' (locs ++ L) (cells + mc) (slots + ms) ∧ (∀ q ∈ L, free q.base) ∧ T'.heap = t.heap ∧ T'.vm = t.vm ∧ Qa st₀ (.returned v) t ∧
      Goes p e below T g T' { g with pc := g.pc + 3, stack := v.toList ++ rest }) ∨
    (∃ (q : Addr) (st₀ t T' : State) (L : List Loc) (E : String) (ce : Cell), st₀.heap = H ∧ Stand p l e R s m args below meth c T' (locs ++ L) (cells + mc) (slots + ms) ∧ (∀ z ∈ L, free z.base) ∧ T'.heap = t.heap ∧ T'.vm = t.vm ∧ XC E st₀ t ∧ t.heap[q]? = some ce ∧ ce.vm = .none ∧ s.vm.findClass E = some ce.cls ∧
      Steps p.tables e below (T.setTop g) ((T'.setTop { g with stack := rest }).pushFrame (.throwing q)))
def vx_X {S : Type} (px : S → Prop) (B : String → S → State → Prop) (A : Nat → Prop) : String → State → State → Prop := fun E st t => ∃ u : S, px u ∧ B E u t ∧ va_F A st t
section Runs
variable {p : Program} {l : Launch} {e : Env} {R : Room} {s : State} {m : MethodId} {args : Array Value} {below : List Frame} {meth : Method} {c : Code} {H : Heap} {locs : List Loc} {cells slots : Nat}
variable {y : MethodName} {bytes cc : ByteArray} {maxL nL mc ms n index : Nat} {ret : Option FieldType} {ws : List Cond} {rm : Room} {Pc : Array Value → State → Prop} {Qc : Array Value → State → Outcome → State → Prop} {XC : String → State → State → Prop} {free : Addr → Prop} {Ts : List Cond} {own C : String} {b : Addr} {As rest : List Value} {g : JFrame}
theorem vx_callBack (cb : CallB R s args own index y bytes maxL ret ws rm mc ms n) (hM : vx_Met l y ws rm Pc Qc XC mc ms free) (hbl : FrameBlind Pc) : vx_Back l R p e below s args y 3 8 (PreOf R mc ms Pc) (PostOf Qc mc ms free) (vx_Post XC mc ms free) := by
  obtain ⟨hrc, hrs, hfr, hlo, hws, hcw, -, hini, -⟩ := cb
  exact vx_back (bytes := bytes) (maxL := maxL) (ret := ret) hM hbl hrc hrs hfr hlo hws hcw (fun a' U hW => word_at hW (Or.inl (by first | rfl | simp [Cond.onTables, Cond.keeps, Cond.steady])) hini)
theorem vx_runV (S : CallFix p m c cc nL s args Ts own) (hM : vx_Met l y ws rm Pc Qc XC mc ms free) (cw : CallW R s args own C index y bytes maxL ret ws rm mc ms n) (hp : PreV s H C b Pc As)
    (hg : g.method = m) (hn : As.length = n) (hsize : g.locals.size = nL) (hstack : g.stack = As.reverse ++ .ref b :: rest) (hW : 2 * g.monitorRoom + (rest.map fun v => v.category).sum ≤ 8) (hdg : decode cc g.pc = .ok (.invokevirtual index, 3)) (hf : cells + mc ≤ R.cells ∧ slots + ms ≤ R.slots) :
    vx_Run p l e R s m args below meth c H locs cells slots mc ms g rest (Qc (Value.ref b :: As).toArray) XC free := by
  have hK : vx_Back l R p e below s args y 3 8 (PreOf R mc ms Pc) (PostOf Qc mc ms free) (vx_Post XC mc ms free) := vx_callBack cw.1 hM hp.1
  obtain ⟨⟨-, -, -, -, -, -, hcode, -, hy, hlen, hl⟩, hin, hse⟩ := cw
  obtain ⟨hx, hb, hml, ho, -⟩ := S
  obtain ⟨-, ⟨cellB, hcB, hoB, hclB⟩, hPc⟩ := hp
  intro T hT X
  rcases vx_callV X hx (C := C) (bytes := bytes) (maxL := maxL) (ret := ret) ho hl hin hse hcode hy hK (by rw [hT]; exact hcB) hoB hclB hg (hsize.trans hml.symm) (argsL := As) (rest := rest) (fun sig h => hn.trans (hlen sig h)) hstack hW (by rw [hb]; exact hdg)
    (fun vm₁ hW₁ => ⟨hf.1, hf.2, hPc (T.setVm vm₁) hT hW₁⟩) with ⟨v, vm₁, ⟨U', l2, c2, s2⟩, hW₁, X', ⟨g', mk, t, L, e1, e2, hq, h1, hL, h2, h3⟩, st⟩ | ⟨q, vm₁, ⟨U', l2, c2, s2⟩, hW₁, X', ⟨g', mk, t, L, E, ce, e1, e2, hq, hce, hcv, hcl, h1, hL, h2, h3⟩, st⟩
  · dsimp only [Pt.U, Pt.locs, Pt.cells, Pt.slots] at X' e1 e2 h1 h2 h3 st
    subst h1; subst h2; subst h3
    exact Or.inl ⟨v, (T.setVm vm₁).calling g' mk (Value.ref b :: As).toArray, t, U', L, hT, X', hL, e1, e2, hq, st⟩
  · dsimp only [Pt.U, Pt.locs, Pt.cells, Pt.slots] at X' e1 e2 h1 h2 h3 st hcl
    subst h1; subst h2; subst h3
    exact Or.inr ⟨q, (T.setVm vm₁).calling g' mk (Value.ref b :: As).toArray, t, U', L, E, ce, hT, X', hL, e1, e2, hq, hce, hcv, vx_cls hW₁ hcl, st⟩
theorem vx_runS (S : CallFix p m c cc nL s args Ts own) (hM : vx_Met l y ws rm Pc Qc XC mc ms free) (cw : CallB R s args own index y bytes maxL ret ws rm mc ms n ∧ (Cond.static y).before args s = true) (hp : PreS s H Pc As)
    (hg : g.method = m) (hn : As.length = n) (hsize : g.locals.size = nL) (hstack : g.stack = As.reverse ++ rest) (hW : 2 * g.monitorRoom + (rest.map fun v => v.category).sum ≤ 8) (hdg : decode cc g.pc = .ok (.invokestatic index, 3)) (hf : cells + mc ≤ R.cells ∧ slots + ms ≤ R.slots) :
    vx_Run p l e R s m args below meth c H locs cells slots mc ms g rest (Qc As.toArray) XC free := by
  have hK : vx_Back l R p e below s args y 3 8 (PreOf R mc ms Pc) (PostOf Qc mc ms free) (vx_Post XC mc ms free) := vx_callBack cw.1 hM hp.1
  obtain ⟨⟨-, -, -, -, -, -, hcode, hini, hy, hlen, hl⟩, hstt⟩ := cw
  obtain ⟨hx, hb, hml, ho, -⟩ := S
  intro T hT X
  rcases vx_callS X hx (bytes := bytes) (maxL := maxL) (ret := ret) ho hl hstt hini hcode hy hK hg (hsize.trans hml.symm) (argsL := As) (rest := rest) (fun sig h => hn.trans (hlen sig h)) hstack hW (by rw [hb]; exact hdg)
    (fun vm₁ hW₁ => ⟨hf.1, hf.2, hp.2 (T.setVm vm₁) hT hW₁⟩) with ⟨v, vm₁, ⟨U', l2, c2, s2⟩, hW₁, X', ⟨g', mk, t, L, e1, e2, hq, h1, hL, h2, h3⟩, st⟩ | ⟨q, vm₁, ⟨U', l2, c2, s2⟩, hW₁, X', ⟨g', mk, t, L, E, ce, e1, e2, hq, hce, hcv, hcl, h1, hL, h2, h3⟩, st⟩
  · dsimp only [Pt.U, Pt.locs, Pt.cells, Pt.slots] at X' e1 e2 h1 h2 h3 st
    subst h1; subst h2; subst h3
    exact Or.inl ⟨v, (T.setVm vm₁).calling g' mk As.toArray, t, U', L, hT, X', hL, e1, e2, hq, st⟩
  · dsimp only [Pt.U, Pt.locs, Pt.cells, Pt.slots] at X' e1 e2 h1 h2 h3 st hcl
    subst h1; subst h2; subst h3
    exact Or.inr ⟨q, (T.setVm vm₁).calling g' mk As.toArray, t, U', L, E, ce, hT, X', hL, e1, e2, hq, hce, hcv, vx_cls hW₁ hcl, st⟩
end Runs
section Rows
variable {p : Program} {l : Launch} {e : Env} {R : Room} {s : State} {m : MethodId} {args : Array Value} {below : List Frame} {meth : Method} {c : Code} {H : Heap} {locs : List Loc} {cells slots : Nat} {Q : State → Prop}
variable {mc ms : Nat} {free : Addr → Prop} {A0 A1 : Nat → Prop} {H0 : Heap} {a : Array Value} {pc : Nat} {ls : Array Slot} {st0 rest : List Value}
theorem vx_keep {st₀ t T' : State} {L : List Loc} (h0 : st₀.heap = H) (e1 : T'.heap = t.heap) (hS : va_S A0 H0 H locs) (hA : ∀ q, q < H.size → A1 q → A0 q) (hf : ∀ q, free q → A0 q) (hL : ∀ q ∈ L, free q.base) (hF : va_F A1 st₀ t) :
    H.size ≤ T'.heap.size ∧ (∀ q : Nat, q < H.size → ¬ A1 q → T'.heap[q]? = H[q]?) ∧ va_S A0 H0 T'.heap (locs ++ L) := by
  obtain ⟨hz, hk⟩ := hF
  rw [h0] at hz hk
  exact ⟨by rw [e1]; exact hz, fun q h1 h2 => by rw [e1]; exact hk q h1 h2,
    ⟨Nat.le_trans hS.1 (by rw [e1]; exact hz), fun q h1 h2 => by rw [e1, hk q (Nat.lt_of_lt_of_le h1 hS.1) (fun z => h2 (hA q (Nat.lt_of_lt_of_le h1 hS.1) z))]; exact hS.2.1 q h1 h2, fun q hq => by
      rcases List.mem_append.mp hq with h | h
      · exact hS.2.2 q h
      · exact hf _ (hL q h)⟩⟩
theorem vx_calli {S SX : Type} {post : Int32 → S → Prop} {px : SX → Prop} {B : S → State → Prop} {BX : String → SX → State → Prop} {AX : Nat → Prop} (hr : vx_Run p l e R s m args below meth c H locs cells slots mc ms (F0 m pc ls st0) rest (va_Qi post B A1 a) (vx_X px BX AX) free) (hS : va_S A0 H0 H locs) (hA : ∀ q, q < H.size → A1 q → A0 q) (hf : ∀ q, free q → A0 q) (hAX : ∀ q, q < H.size → AX q → A0 q)
    (kx : ∀ (E : String) (ce : Cell) (q9 : Addr) (u : SX) (t : State) (H1 : Heap) (locs1 : List Loc), t.heap = H1 → s.vm.Alike t.vm → px u → BX E u t → H.size ≤ H1.size → (∀ q : Nat, q < H.size → ¬ AX q → H1[q]? = H[q]?) → va_S A0 H0 H1 locs1 → H1[q9]? = some ce → ce.vm = .none → s.vm.findClass E = some ce.cls → vx_W p l e R s m args below meth c H1 locs1 (cells + mc) (slots + ms) Q (F0 m pc ls rest) q9)
    (kk : ∀ (r : Int32) (u : S) (t : State) (H1 : Heap) (locs1 : List Loc), t.heap = H1 → s.vm.Alike t.vm → post r u → B u t → H.size ≤ H1.size → (∀ q : Nat, q < H.size → ¬ A1 q → H1[q]? = H[q]?) → va_S A0 H0 H1 locs1 → W p l e R s m args below meth c H1 locs1 (cells + mc) (slots + ms) Q (F0 m (pc + 3) ls (.int r :: rest))) : W p l e R s m args below meth c H locs cells slots Q (F0 m pc ls st0) := by
  intro T hT X
  rcases hr T hT X with ⟨v, st₀, t, T', L, h0, X', hL, e1, e2, ⟨⟨r, u, hv, hp, hb⟩, hF⟩, st⟩ | ⟨q, st₀, t, T', L, E, ce, h0, X', hL, e1, e2, ⟨u, hp, hb, hF⟩, hce, hcv, hcl, st⟩
  · cases hv
    obtain ⟨k1, k2, k3⟩ := vx_keep h0 e1 hS hA hf hL hF
    obtain ⟨t2, a1, b1⟩ := kk r u t T'.heap (locs ++ L) e1.symm (by rw [← e2]; exact X'.warmed.alike) hp hb k1 k2 k3 T' rfl X'
    exact ⟨t2, st t2 a1, b1⟩
  · obtain ⟨k1, k2, k3⟩ := vx_keep h0 e1 hS hAX hf hL hF
    obtain ⟨t2, a1, b1⟩ := kx E ce q u t T'.heap (locs ++ L) e1.symm (by rw [← e2]; exact X'.warmed.alike) hp hb k1 k2 k3 (by rw [e1]; exact hce) hcv hcl T' rfl X'
    exact ⟨t2, st.trans a1, b1⟩
theorem vx_calll {S SX : Type} {post : Int64 → S → Prop} {px : SX → Prop} {B : S → State → Prop} {BX : String → SX → State → Prop} {AX : Nat → Prop} (hr : vx_Run p l e R s m args below meth c H locs cells slots mc ms (F0 m pc ls st0) rest (va_Ql post B A1 a) (vx_X px BX AX) free) (hS : va_S A0 H0 H locs) (hA : ∀ q, q < H.size → A1 q → A0 q) (hf : ∀ q, free q → A0 q) (hAX : ∀ q, q < H.size → AX q → A0 q)
    (kx : ∀ (E : String) (ce : Cell) (q9 : Addr) (u : SX) (t : State) (H1 : Heap) (locs1 : List Loc), t.heap = H1 → s.vm.Alike t.vm → px u → BX E u t → H.size ≤ H1.size → (∀ q : Nat, q < H.size → ¬ AX q → H1[q]? = H[q]?) → va_S A0 H0 H1 locs1 → H1[q9]? = some ce → ce.vm = .none → s.vm.findClass E = some ce.cls → vx_W p l e R s m args below meth c H1 locs1 (cells + mc) (slots + ms) Q (F0 m pc ls rest) q9)
    (kk : ∀ (r : Int64) (u : S) (t : State) (H1 : Heap) (locs1 : List Loc), t.heap = H1 → s.vm.Alike t.vm → post r u → B u t → H.size ≤ H1.size → (∀ q : Nat, q < H.size → ¬ A1 q → H1[q]? = H[q]?) → va_S A0 H0 H1 locs1 → W p l e R s m args below meth c H1 locs1 (cells + mc) (slots + ms) Q (F0 m (pc + 3) ls (.long r :: rest))) : W p l e R s m args below meth c H locs cells slots Q (F0 m pc ls st0) := by
  intro T hT X
  rcases hr T hT X with ⟨v, st₀, t, T', L, h0, X', hL, e1, e2, ⟨⟨r, u, hv, hp, hb⟩, hF⟩, st⟩ | ⟨q, st₀, t, T', L, E, ce, h0, X', hL, e1, e2, ⟨u, hp, hb, hF⟩, hce, hcv, hcl, st⟩
  · cases hv
    obtain ⟨k1, k2, k3⟩ := vx_keep h0 e1 hS hA hf hL hF
    obtain ⟨t2, a1, b1⟩ := kk r u t T'.heap (locs ++ L) e1.symm (by rw [← e2]; exact X'.warmed.alike) hp hb k1 k2 k3 T' rfl X'
    exact ⟨t2, st t2 a1, b1⟩
  · obtain ⟨k1, k2, k3⟩ := vx_keep h0 e1 hS hAX hf hL hF
    obtain ⟨t2, a1, b1⟩ := kx E ce q u t T'.heap (locs ++ L) e1.symm (by rw [← e2]; exact X'.warmed.alike) hp hb k1 k2 k3 (by rw [e1]; exact hce) hcv hcl T' rfl X'
    exact ⟨t2, st.trans a1, b1⟩
theorem vx_callf {S SX : Type} {post : UInt32 → S → Prop} {px : SX → Prop} {B : S → State → Prop} {BX : String → SX → State → Prop} {AX : Nat → Prop} (hr : vx_Run p l e R s m args below meth c H locs cells slots mc ms (F0 m pc ls st0) rest (va_Qf post B A1 a) (vx_X px BX AX) free) (hS : va_S A0 H0 H locs) (hA : ∀ q, q < H.size → A1 q → A0 q) (hf : ∀ q, free q → A0 q) (hAX : ∀ q, q < H.size → AX q → A0 q)
    (kx : ∀ (E : String) (ce : Cell) (q9 : Addr) (u : SX) (t : State) (H1 : Heap) (locs1 : List Loc), t.heap = H1 → s.vm.Alike t.vm → px u → BX E u t → H.size ≤ H1.size → (∀ q : Nat, q < H.size → ¬ AX q → H1[q]? = H[q]?) → va_S A0 H0 H1 locs1 → H1[q9]? = some ce → ce.vm = .none → s.vm.findClass E = some ce.cls → vx_W p l e R s m args below meth c H1 locs1 (cells + mc) (slots + ms) Q (F0 m pc ls rest) q9)
    (kk : ∀ (r : UInt32) (u : S) (t : State) (H1 : Heap) (locs1 : List Loc), t.heap = H1 → s.vm.Alike t.vm → post r u → B u t → H.size ≤ H1.size → (∀ q : Nat, q < H.size → ¬ A1 q → H1[q]? = H[q]?) → va_S A0 H0 H1 locs1 → W p l e R s m args below meth c H1 locs1 (cells + mc) (slots + ms) Q (F0 m (pc + 3) ls (.float r :: rest))) : W p l e R s m args below meth c H locs cells slots Q (F0 m pc ls st0) := by
  intro T hT X
  rcases hr T hT X with ⟨v, st₀, t, T', L, h0, X', hL, e1, e2, ⟨⟨r, u, hv, hp, hb⟩, hF⟩, st⟩ | ⟨q, st₀, t, T', L, E, ce, h0, X', hL, e1, e2, ⟨u, hp, hb, hF⟩, hce, hcv, hcl, st⟩
  · cases hv
    obtain ⟨k1, k2, k3⟩ := vx_keep h0 e1 hS hA hf hL hF
    obtain ⟨t2, a1, b1⟩ := kk r u t T'.heap (locs ++ L) e1.symm (by rw [← e2]; exact X'.warmed.alike) hp hb k1 k2 k3 T' rfl X'
    exact ⟨t2, st t2 a1, b1⟩
  · obtain ⟨k1, k2, k3⟩ := vx_keep h0 e1 hS hAX hf hL hF
    obtain ⟨t2, a1, b1⟩ := kx E ce q u t T'.heap (locs ++ L) e1.symm (by rw [← e2]; exact X'.warmed.alike) hp hb k1 k2 k3 (by rw [e1]; exact hce) hcv hcl T' rfl X'
    exact ⟨t2, st.trans a1, b1⟩
theorem vx_calld {S SX : Type} {post : UInt64 → S → Prop} {px : SX → Prop} {B : S → State → Prop} {BX : String → SX → State → Prop} {AX : Nat → Prop} (hr : vx_Run p l e R s m args below meth c H locs cells slots mc ms (F0 m pc ls st0) rest (va_Qd post B A1 a) (vx_X px BX AX) free) (hS : va_S A0 H0 H locs) (hA : ∀ q, q < H.size → A1 q → A0 q) (hf : ∀ q, free q → A0 q) (hAX : ∀ q, q < H.size → AX q → A0 q)
    (kx : ∀ (E : String) (ce : Cell) (q9 : Addr) (u : SX) (t : State) (H1 : Heap) (locs1 : List Loc), t.heap = H1 → s.vm.Alike t.vm → px u → BX E u t → H.size ≤ H1.size → (∀ q : Nat, q < H.size → ¬ AX q → H1[q]? = H[q]?) → va_S A0 H0 H1 locs1 → H1[q9]? = some ce → ce.vm = .none → s.vm.findClass E = some ce.cls → vx_W p l e R s m args below meth c H1 locs1 (cells + mc) (slots + ms) Q (F0 m pc ls rest) q9)
    (kk : ∀ (r : UInt64) (u : S) (t : State) (H1 : Heap) (locs1 : List Loc), t.heap = H1 → s.vm.Alike t.vm → post r u → B u t → H.size ≤ H1.size → (∀ q : Nat, q < H.size → ¬ A1 q → H1[q]? = H[q]?) → va_S A0 H0 H1 locs1 → W p l e R s m args below meth c H1 locs1 (cells + mc) (slots + ms) Q (F0 m (pc + 3) ls (.double r :: rest))) : W p l e R s m args below meth c H locs cells slots Q (F0 m pc ls st0) := by
  intro T hT X
  rcases hr T hT X with ⟨v, st₀, t, T', L, h0, X', hL, e1, e2, ⟨⟨r, u, hv, hp, hb⟩, hF⟩, st⟩ | ⟨q, st₀, t, T', L, E, ce, h0, X', hL, e1, e2, ⟨u, hp, hb, hF⟩, hce, hcv, hcl, st⟩
  · cases hv
    obtain ⟨k1, k2, k3⟩ := vx_keep h0 e1 hS hA hf hL hF
    obtain ⟨t2, a1, b1⟩ := kk r u t T'.heap (locs ++ L) e1.symm (by rw [← e2]; exact X'.warmed.alike) hp hb k1 k2 k3 T' rfl X'
    exact ⟨t2, st t2 a1, b1⟩
  · obtain ⟨k1, k2, k3⟩ := vx_keep h0 e1 hS hAX hf hL hF
    obtain ⟨t2, a1, b1⟩ := kx E ce q u t T'.heap (locs ++ L) e1.symm (by rw [← e2]; exact X'.warmed.alike) hp hb k1 k2 k3 (by rw [e1]; exact hce) hcv hcl T' rfl X'
    exact ⟨t2, st.trans a1, b1⟩
theorem vx_callv {S SX : Type} {post : S → Prop} {px : SX → Prop} {B : S → State → Prop} {BX : String → SX → State → Prop} {AX : Nat → Prop} (hr : vx_Run p l e R s m args below meth c H locs cells slots mc ms (F0 m pc ls st0) rest (va_Qv post B A1 a) (vx_X px BX AX) free) (hS : va_S A0 H0 H locs) (hA : ∀ q, q < H.size → A1 q → A0 q) (hf : ∀ q, free q → A0 q) (hAX : ∀ q, q < H.size → AX q → A0 q)
    (kx : ∀ (E : String) (ce : Cell) (q9 : Addr) (u : SX) (t : State) (H1 : Heap) (locs1 : List Loc), t.heap = H1 → s.vm.Alike t.vm → px u → BX E u t → H.size ≤ H1.size → (∀ q : Nat, q < H.size → ¬ AX q → H1[q]? = H[q]?) → va_S A0 H0 H1 locs1 → H1[q9]? = some ce → ce.vm = .none → s.vm.findClass E = some ce.cls → vx_W p l e R s m args below meth c H1 locs1 (cells + mc) (slots + ms) Q (F0 m pc ls rest) q9)
    (kk : ∀ (u : S) (t : State) (H1 : Heap) (locs1 : List Loc), t.heap = H1 → s.vm.Alike t.vm → post u → B u t → H.size ≤ H1.size → (∀ q : Nat, q < H.size → ¬ A1 q → H1[q]? = H[q]?) → va_S A0 H0 H1 locs1 → W p l e R s m args below meth c H1 locs1 (cells + mc) (slots + ms) Q (F0 m (pc + 3) ls (rest))) : W p l e R s m args below meth c H locs cells slots Q (F0 m pc ls st0) := by
  intro T hT X
  rcases hr T hT X with ⟨v, st₀, t, T', L, h0, X', hL, e1, e2, ⟨⟨u, hv, hp, hb⟩, hF⟩, st⟩ | ⟨q, st₀, t, T', L, E, ce, h0, X', hL, e1, e2, ⟨u, hp, hb, hF⟩, hce, hcv, hcl, st⟩
  · cases hv
    obtain ⟨k1, k2, k3⟩ := vx_keep h0 e1 hS hA hf hL hF
    obtain ⟨t2, a1, b1⟩ := kk u t T'.heap (locs ++ L) e1.symm (by rw [← e2]; exact X'.warmed.alike) hp hb k1 k2 k3 T' rfl X'
    exact ⟨t2, st t2 a1, b1⟩
  · obtain ⟨k1, k2, k3⟩ := vx_keep h0 e1 hS hAX hf hL hF
    obtain ⟨t2, a1, b1⟩ := kx E ce q u t T'.heap (locs ++ L) e1.symm (by rw [← e2]; exact X'.warmed.alike) hp hb k1 k2 k3 (by rw [e1]; exact hce) hcv hcl T' rfl X'
    exact ⟨t2, st.trans a1, b1⟩
/-- caught by the row x of this method's table; the rows ahead don't take it -/
theorem vx_catch {own name : String} {E : String} {ce : Cell} {q : Addr} (hown : s.vm.findClass own = some m.cls) (pre : List ExceptionTableEntry) (x : ExceptionTableEntry) (suf : List ExceptionTableEntry) (hsplit : c.exceptionTable.toList = pre ++ x :: suf)
    (hpass : ∀ z ∈ pre, covers z pc = false ∨ (z.catchType ≠ 0 ∧ ∃ nm : String, (Cond.classLink own z.catchType nm).before args s = true ∧ va_Nc E nm s)) (hx : covers x pc = true) (h0 : x.catchType ≠ 0)
    (hlink : (Cond.classLink own x.catchType name).before args s = true) (hcast : (Cond.castable E name).before args s = true) (hcell : H[q]? = some ce) (hv : ce.vm = .none) (hcl : s.vm.findClass E = some ce.cls)
    (kk : W p l e R s m args below meth c H locs cells slots Q (F0 m x.handlerPc ls [.ref q])) : vx_W p l e R s m args below meth c H locs cells slots Q (F0 m pc ls rest) q := by
  intro T hT X
  have hpl : e.platform.magicAccessors = ({} : Platform).magicAccessors := by rw [X.admits.platform]
  obtain ⟨c3, c4, hc3, hc4, hasg⟩ := Cond.castable_spec hcast
  cases Option.some.inj (hc3.symm.trans hcl)
  obtain ⟨c5, hc5, hcl5⟩ := Cond.classLink_spec hown hlink e.platform hpl
  cases Option.some.inj (hc4.symm.trans hc5)
  obtain ⟨vm', X', st⟩ := X.thenCaughtThrough q (g := F0 m pc ls rest) rfl (Steps.refl _) (by rw [hT]; exact hcell) (by rw [hv]; rfl) (by obtain ⟨k9, h9, -⟩ := Vm.findClass_spec hcl; exact ⟨k9, h9⟩) pre x suf hsplit
    (fun z hz => by
      rcases hpass z hz with h | ⟨hz0, nm, hl1, hn1⟩
      · exact Or.inl h
      · obtain ⟨c6, hc6, hcl6⟩ := Cond.classLink_spec hown hl1 e.platform hpl
        obtain ⟨a8, b8, h1, h2, h3⟩ := hn1
        cases Option.some.inj (h1.symm.trans hcl)
        cases Option.some.inj (h2.symm.trans hc6)
        exact Or.inr ⟨hz0, _, hcl6, h3⟩) hx (Or.inr ⟨h0, c4, hcl5, hasg⟩)
  obtain ⟨t, a1, b1⟩ := kk (T.setVm vm') hT X'
  exact ⟨t, st.trans a1, b1⟩
end Rows
section Ends
variable {p : Program} {l : Launch} {e : Env} {R : Room} {s : State} {m : MethodId} {args : Array Value} {below : List Frame} {meth : Method} {c : Code} {H : Heap} {locs : List Loc} {cells slots : Nat} {Q : State → Prop}
variable {mc ms : Nat} {free : Addr → Prop} {A0 A1 : Nat → Prop} {H0 : Heap} {a : Array Value} {ls : Array Slot} {st0 rest : List Value}
variable {Qc : Array Value → State → Outcome → State → Prop} {XC : String → State → State → Prop}
/-- what a body that may throw owes at its end -/
def vx_MQ (below : List Frame) (Qc : Array Value → State → Outcome → State → Prop) (XC : String → State → State → Prop) (a : Array Value) (s : State) (mc ms : Nat) (free : Addr → Prop) : State → Prop := fun t =>
  ∃ o, t.status = .running ∧ Ended t below o ∧ vx_Q Qc XC mc ms free a s o t
theorem vx_ret {g : JFrame} {mc ms : Nat} (k : W p l e R s m args below meth c H locs cells slots (MQ below Qc args s mc ms free) g) : W p l e R s m args below meth c H locs cells slots (vx_MQ below Qc XC args s mc ms free) g := by
  intro T hT X
  obtain ⟨t, a1, o, b1, b2, b3, b4⟩ := k T hT X
  exact ⟨t, a1, o, b1, b2, Or.inl ⟨b3, b4⟩⟩
/-- not caught here: it goes on to the caller -/
theorem vx_widen {g : JFrame} {q : Addr} {k n : Nat} (h1 : cells ≤ k) (h2 : slots ≤ n) (kk : vx_W p l e R s m args below meth c H locs k n Q g q) : vx_W p l e R s m args below meth c H locs cells slots Q g q := fun T hT X => kk T hT (stand_widen X h1 h2)
theorem vx_out {pc : Nat} {E : String} {ce : Cell} {q : Addr} {mc ms : Nat} (hout : ∀ x ∈ c.exceptionTable.toList, covers x pc = false) (hlocks : meth.locks = false) (hcell : H[q]? = some ce) (hv : ce.vm = .none) (hcl : s.vm.findClass E = some ce.cls)
    (hx : ∀ t : State, t.heap = H → s.vm.Alike t.vm → XC E s t) (hf : ∀ z ∈ locs, free z.base) (hc : cells ≤ mc) (hs : slots ≤ ms) :
    vx_W p l e R s m args below meth c H locs cells slots (vx_MQ below Qc XC args s mc ms free) (F0 m pc ls rest) q := by
  intro T hT X
  obtain ⟨st1, hrun, hend, hW, hsm⟩ := X.leaveThrown q (g := F0 m pc ls rest) rfl rfl rfl hout hlocks
  have hcell9 : (T.setFrames (.throwing q :: below)).heap[q]? = some ce := by
    show T.heap[q]? = some ce
    rw [hT]; exact hcell
  exact ⟨_, st1, .threw q, hrun, hend, Or.inr ⟨q, rfl, E, ce, locs, hx _ hT hW.alike, hcell9, hv, hcl, hW, hsm.mono hc hs, hf⟩⟩
theorem vx_frame {U : State} {k n : Nat} (h : s.sameButNew ({ U with vm := s.vm } : State) locs k n) : s.heap.size ≤ U.heap.size ∧ ∀ q : Nat, q < s.heap.size → (∀ z ∈ locs, z.base ≠ q) → U.heap[q]? = s.heap[q]? := by
  obtain ⟨-, h2, -, -, -, h6⟩ := h
  refine ⟨h2, fun q hq hz => ?_⟩
  obtain ⟨c9, e1, e2, e3, e4⟩ := h6 q _ (Array.getElem?_eq_getElem hq)
  have hs : c9.slots = (s.heap[q]).slots := Array.ext_getElem? fun i => e4 i fun hm => hz _ hm rfl
  have h9 : c9 = s.heap[q] := by
    rw [hs] at e2
    exact e2
  have e5 : U.heap[q]? = some c9 := e1
  rw [e5, h9, Array.getElem?_eq_getElem hq]
/-- the words of a throw but the four that speak of the heap -/
def vx_no (w : Cond) : Bool := decide (w ≠ .isRef (.static Bundle.tN "UNASSIGNED_STACK" Bundle.steD)) && decide (w ≠ .isRef (.static Bundle.tN "SUPPRESSED_SENTINEL" Bundle.listD)) && decide (w ≠ .laysStatic Bundle.tN "UNASSIGNED_STACK" Bundle.steD) && decide (w ≠ .laysStatic Bundle.tN "SUPPRESSED_SENTINEL" Bundle.listD)
def vx_at0 (own : String) (ic : Nat) (X : String) (names : List String) : List Cond := (Bundle.ownAtoms0 own ic X names).filter vx_no
def vx_atS (own : String) (ic : Nat) (X : String) (names : List String) : List Cond := (Bundle.ownAtoms own ic X names).filter vx_no
/-- a word that the tables alone decide, or a good one -/
def vx_ot (w : Cond) : Bool := w.onTables || goodWord w
theorem vx_ot_at {args a' : Array Value} {s U : State} {w : Cond} (hW : s.WarmedH U.vm) (hvm : s.vm = U.vm) (hg : vx_ot w = true) (h : w.before args s = true) : w.before a' U = true := by
  simp only [vx_ot, Bool.or_eq_true] at hg
  rcases hg with hg | hg
  · exact va_tabs hg hvm h
  · exact word_at hW (good_of_word hg) h
/-- a list's words: the good ones out of the method's own list, the others by premises of their own -/
theorem vx_hat {args : Array Value} {s : State} {L B : List Cond} (h1 : ∀ w ∈ L.filter goodWord, w.before args s = true) (h2 : ∀ w ∈ L.filter (fun w => !goodWord w), w ∈ B) (h3 : ∀ w ∈ B, w.before args s = true) : ∀ w ∈ L, w.before args s = true := by
  intro w hw
  by_cases g : goodWord w = true
  · exact h1 w (List.mem_filter.mpr ⟨hw, g⟩)
  · refine h3 w (h2 w (List.mem_filter.mpr ⟨hw, ?_⟩))
    show (!goodWord w) = true
    cases hgw : goodWord w
    · rfl
    · exact absurd hgw g
theorem vx_c {args : Array Value} {s : State} {w : Cond} {B : List Cond} (h : w.before args s = true) (t : ∀ w ∈ B, w.before args s = true) : ∀ w' ∈ w :: B, w'.before args s = true := fun w' h' => (List.mem_cons.mp h').elim (fun e => by rw [e]; exact h) (t w')
theorem vx_n {args : Array Value} {s : State} : ∀ w ∈ ([] : List Cond), w.before args s = true := fun _ h => nomatch h
theorem vx_own {args : Array Value} {s : State} {L : List Cond} (h1 : ∀ w ∈ L.filter vx_no, w.before args s = true)
    (hU : (Cond.isRef (.static Bundle.tN "UNASSIGNED_STACK" Bundle.steD)).before args s = true) (hN : (Cond.isRef (.static Bundle.tN "SUPPRESSED_SENTINEL" Bundle.listD)).before args s = true)
    (lU : (Cond.laysStatic Bundle.tN "UNASSIGNED_STACK" Bundle.steD).before args s = true) (lN : (Cond.laysStatic Bundle.tN "SUPPRESSED_SENTINEL" Bundle.listD).before args s = true) : ∀ w ∈ L, w.before args s = true := by
  intro w hw
  by_cases e1 : w = .isRef (.static Bundle.tN "UNASSIGNED_STACK" Bundle.steD)
  · rw [e1]; exact hU
  · by_cases e2 : w = .isRef (.static Bundle.tN "SUPPRESSED_SENTINEL" Bundle.listD)
    · rw [e2]; exact hN
    · by_cases e3 : w = .laysStatic Bundle.tN "UNASSIGNED_STACK" Bundle.steD
      · rw [e3]; exact lU
      · by_cases e4 : w = .laysStatic Bundle.tN "SUPPRESSED_SENTINEL" Bundle.listD
        · rw [e4]; exact lN
        · exact h1 w (List.mem_filter.mpr ⟨hw, by unfold vx_no; rw [decide_eq_true e1, decide_eq_true e2, decide_eq_true e3, decide_eq_true e4]; rfl⟩)
/-- where a static field lies, its class's statics cell in H -/
def vx_L (C n d : String) (A : Nat → Prop) (U : State) (H : Heap) : Prop := ∃ (c : ClassId) (k : Class) (i : Nat) (f : Field) (a : Nat) (cell : Cell), U.vm.findClass C = some c ∧ U.fieldFound? C n d = some (c, k, i, f) ∧ f.isStatic = true ∧ k.statics = some a ∧ H[a]? = some cell ∧ cell.vm.isStatics = true ∧ cell.cls = c ∧ f.slot < cell.slots.size ∧ k.staticTypes[f.slot]? = some f.type ∧ ¬ A a
theorem vx_L.moved {C n d : String} {A : Nat → Prop} {u U : State} {H : Heap} (hvm : u.vm.Alike U.vm) (h : vx_L C n d A u H) : vx_L C n d A U H := by
  obtain ⟨c, k, i, f, a, cell, h1, h2, h3, h4, h5, h6, h7, h8, h9, h10⟩ := h
  obtain ⟨k', hi', he⟩ := State.fieldFound?_setVm hvm h2
  exact ⟨c, k', i, f, a, cell, by rw [hvm.findClass]; exact h1, hi', h3, by rw [he]; exact h4, h5, h6, h7, h8, by rw [he]; exact h9, h10⟩
theorem vx_L.kept {C n d : String} {A : Nat → Prop} {U : State} {H H1 : Heap} (h : vx_L C n d A U H) (hq : ∀ a : Nat, a < H.size → ¬ A a → H1[a]? = H[a]?) : vx_L C n d A U H1 := by
  obtain ⟨c, k, i, f, a, cell, h1, h2, h3, h4, h5, h6, h7, h8, h9, h10⟩ := h
  exact ⟨c, k, i, f, a, cell, h1, h2, h3, h4, by rw [hq a (Array.getElem?_eq_some_iff.mp h5).1 h10]; exact h5, h6, h7, h8, h9, h10⟩
theorem vx_L.narrow {C n d : String} {A B : Nat → Prop} {U : State} {H : Heap} (h : vx_L C n d A U H) (hAB : ∀ q, B q → A q) : vx_L C n d B U H := by
  obtain ⟨c, k, i, f, a, cell, h1, h2, h3, h4, h5, h6, h7, h8, h9, h10⟩ := h
  exact ⟨c, k, i, f, a, cell, h1, h2, h3, h4, h5, h6, h7, h8, h9, fun z => h10 (hAB _ z)⟩
theorem vx_L.word {C n d : String} {A : Nat → Prop} {s : State} {args : Array Value} (h : vx_L C n d A s s.heap) : (Cond.laysStatic C n d).before args s = true := by
  obtain ⟨c, k, i, f, a, cell, h1, h2, h3, h4, h5, h6, h7, h8, h9, -⟩ := h
  show (Cond.laysStatic C n d).holds args s none s [] = true
  exact Cond.laysStatic_of h1 h2 h3 h4 h5 h6 h7 h8 h9
/-- .. and what it holds: null or some reference -/
def vx_Zq (C n d : String) (A : Nat → Prop) (U : State) (H : Heap) : Prop := va_Zq C n d A U H ∧ vx_L C n d A U H
theorem vx_Zq.moved {C n d : String} {A : Nat → Prop} {u U : State} {H : Heap} (hvm : u.vm.Alike U.vm) (h : vx_Zq C n d A u H) : vx_Zq C n d A U H := ⟨va_Zq.moved hvm h.1, vx_L.moved hvm h.2⟩
theorem vx_Zq.kept {C n d : String} {A : Nat → Prop} {U : State} {H H1 : Heap} (h : vx_Zq C n d A U H) (hq : ∀ a : Nat, a < H.size → ¬ A a → H1[a]? = H[a]?) : vx_Zq C n d A U H1 := ⟨va_Zq.kept h.1 hq, vx_L.kept h.2 hq⟩
theorem vx_Zq.narrow {C n d : String} {A B : Nat → Prop} {U : State} {H : Heap} (h : vx_Zq C n d A U H) (hAB : ∀ q, B q → A q) : vx_Zq C n d B U H := ⟨va_Zq.narrow h.1 hAB, vx_L.narrow h.2 hAB⟩
theorem vx_Zqof {args : Array Value} {s : State} {C n d : String} {A : Nat → Prop} (hl : (Cond.laysStatic C n d).before args s = true) (hini : (Cond.initialized C).before args s = true) (h : (Cond.isRef (.static C n d)).before args s = true) (hA : ∀ a : Nat, a < s.heap.size → ¬ A a) : vx_Zq C n d A s s.heap := by
  refine ⟨va_Zqof hl hini h hA, ?_⟩
  obtain ⟨c, k, i, f, a, cell, h1, h2, h3, h4, h5, h6, h7, h8, h9⟩ := Cond.laysStatic_spec hl
  exact ⟨c, k, i, f, a, cell, h1, h2, h3, h4, h5, h6, h7, h8, h9, hA a (Array.getElem?_eq_some_iff.mp h5).1⟩
theorem vx_isRef {C n d : String} {v : Value} {A : Nat → Prop} {s : State} {args : Array Value} (h : va_Z C n d v A s s.heap) (hv : v.isRef = true) : (Cond.isRef (.static C n d)).before args s = true := by
  obtain ⟨cf, kf, fi, f, a, cell, h1, h2, h3, h4, h5, h6, h7, -⟩ := h
  have he : (Term.static C n d).eval args s none [] s = some v := by
    simp [Term.eval, State.fieldNamed?, h1, h2, h4, h5, h6, h7]
  simp only [Cond.before, Cond.holds, Cond.value, he]
  cases v <;> simp_all [Value.isRef]
theorem vx_isRefq {C n d : String} {A : Nat → Prop} {s : State} {args : Array Value} (h : va_Zq C n d A s s.heap) : (Cond.isRef (.static C n d)).before args s = true := by
  rcases h with h | ⟨t, h⟩
  · exact vx_isRef h rfl
  · exact vx_isRef h rfl
/-- the same frame, seen from here: as if the method were called anew in this heap -/
theorem vx_rebase {T : State} (X : Stand p l e R s m args below meth c T locs cells slots) {R' : Room} (hf : R'.frames ≤ R.frames) (hl : R'.locals ≤ R.locals) (hc : cells + R'.cells ≤ R.cells) (hs : slots + R'.slots ≤ R.slots) :
    Stand p l e R' ((T.setVm s.vm).setFrames (.invoking m args :: below)) m args below meth c T [] 0 0 := by
  have htop : (T.setVm s.vm).topJava?.isSome := X.here.top
  have hF : ((T.setVm s.vm).setFrames (.invoking m args :: below)).frames = .invoking m args :: below := State.frames_setFrames _ (State.cur_lt_of_top htop)
  obtain ⟨g₀, hg0⟩ := Option.isSome_iff_exists.mp htop
  obtain ⟨r, hr⟩ := State.topJava?_eq_some.mp hg0
  have hl9 : e.platform.stackLimits (T.setVm s.vm).me = e.platform.stackLimits s.me := X.limits
  have hb9 : (T.setVm s.vm).me.stackBytes = s.me.stackBytes := X.bytes
  refine ⟨X.admits, X.cas, X.clock, hF, ?_, X.hears, X.method, X.code, X.here, X.tail, X.warmed, ?_, ?_, ?_⟩
  · have h := X.room
    have hU : ((T.setVm s.vm).setFrames (.invoking m args :: below)).localsInUse = s.localsInUse := by
      rw [State.localsInUse_invoking hF (meth := meth) (c := c) X.method X.code, State.localsInUse_invoking X.frames X.method X.code]
    simp only [State.hasRoom, Bool.and_eq_true, decide_eq_true_eq] at h ⊢
    obtain ⟨⟨⟨⟨h1, h2, h3, h4, h5, h6⟩, h7⟩, h8⟩, h9⟩ := h
    rw [X.frames, List.length_cons] at h2 h3
    have q1 := X.heapSize
    have q2 := X.used
    simp only [hF, hU, List.length_cons, State.stackLimits_setFrames, State.stackBytes_setFrames, hl9, hb9]
    refine ⟨⟨⟨⟨by omega, by omega, by omega, by omega, by omega, h6⟩, ?_⟩, ?_⟩, X.book⟩
    · show T.heap.size + R'.cells ≤ e.platform.maxCells
      omega
    · show T.slotsUsed + R'.slots ≤ e.platform.maxSlots
      omega
  · rw [State.stackLimits_setFrames]; rfl
  · rw [State.stackBytes_setFrames]; rfl
  · refine ⟨?_, Nat.le_refl _, Nat.le_refl _, ?_, ?_, fun a c9 h9 => ⟨c9, h9, rfl, rfl, fun _ _ => rfl⟩⟩
    · obtain ⟨t, ht, -⟩ := State.frames_cons hr
      show T.setVm s.vm = { ((T.setVm s.vm).setFrames (.invoking m args :: below)).setFrames (T.setVm s.vm).frames with heap := T.heap, slotsUsed := T.slotsUsed }
      rw [State.setFrames_setFrames, State.setFrames_self ht]
      rfl
    · show T.slotsUsed = T.slotsUsed + ((T.heap.toList.drop T.heap.size).map (·.slots.size)).sum
      rw [List.drop_eq_nil_of_le (Nat.le_of_eq Array.length_toList)]
      rfl
    · show ((T.heap.toList.drop T.heap.size).map (·.slots.size)).sum ≤ 0
      rw [List.drop_eq_nil_of_le (Nat.le_of_eq Array.length_toList)]
      exact Nat.le_refl _
/-- 'throw new E()': new; dup; invokespecial; athrow -/
theorem vx_throw0 {cc : ByteArray} {pc : Nat} (hexec : p.tables.exec = Jvm.exec) (hb : c.code = cc) (hl : l.stackTraces = false) {own cls : String} {names : List String} {ik ic mc ms : Nat} {A : Nat → Prop}
    (hown : s.vm.findClass own = some m.cls) (hcls : Bundle.fit cls = true) (hnames : ∀ n ∈ names, Bundle.fit n = true)
    (hk : (Cond.classLink own ik cls).before args s = true) (hini : (Cond.initialized cls).before args s = true) (hat : ∀ w ∈ vx_at0 own ic cls names, w.before args s = true)
    (hgood : ∀ w ∈ Cond.classLink own ik cls :: Cond.initialized cls :: vx_at0 own ic cls names, vx_ot w = true)
    (hU : vx_Zq Bundle.tN "UNASSIGNED_STACK" Bundle.steD A s s.heap) (hN : vx_Zq Bundle.tN "SUPPRESSED_SENTINEL" Bundle.listD A s s.heap) (hS : va_S A s.heap H locs) (hsize : ls.size = c.maxLocals)
    (d0 : decode cc pc = .ok (.new ik, 3)) (d3 : decode cc (pc + 3) = .ok (.dup, 1)) (d4 : decode cc (pc + 4) = .ok (.invokespecial ic, 3)) (d7 : decode cc (pc + 7) = .ok (.athrow, 1))
    (hout : ∀ x ∈ c.exceptionTable.toList, covers x (pc + 7) = false)
    (hRframes : names.length + 3 < R.frames) (hRlocals : (rest.map fun v => v.category).sum + (13 * (names.length + 1) + 42) ≤ R.locals) (hRcells : cells + 1 ≤ R.cells) (hRslots : slots + 6 ≤ R.slots) (hlocks : meth.locks = false)
    (hx : ∀ t : State, s.vm.Alike t.vm → H.size ≤ t.heap.size → (∀ q : Nat, q < H.size → t.heap[q]? = H[q]?) → XC cls s t)
    (hf : ∀ z ∈ locs, free z.base) (hc : cells + 1 ≤ mc) (hs : slots + 6 ≤ ms) :
    W p l e R s m args below meth c H locs cells slots (vx_MQ below Qc XC args s mc ms free) (F0 m pc ls rest) := by
  intro T hT X
  have htr : e.platform.stackTraces = false := (show e.platform.stackTraces = l.stackTraces by rw [X.admits.platform]).trans hl
  have Y := vx_rebase X (R' := { frames := R.frames, locals := R.locals, cells := 1, slots := 6 }) (Nat.le_refl _) (Nat.le_refl _) hRcells hRslots
  obtain ⟨s', hA⟩ : ∃ z, z = (T.setVm s.vm).setFrames (.invoking m args :: below) := ⟨_, rfl⟩
  rw [← hA] at Y
  have hvm : s'.vm = s.vm := by rw [hA]; rfl
  have hhp : s'.heap = H := by rw [hA]; exact hT
  have hW0 : s.WarmedH s'.vm := by rw [hvm]; exact State.WarmedH.refl s
  have hat' : ∀ w ∈ vx_at0 own ic cls names, w.before args s' = true := fun w hw => vx_ot_at hW0 hvm.symm (hgood w (List.mem_cons_of_mem _ (List.mem_cons_of_mem _ hw))) (hat w hw)
  have hk' : (Cond.classLink own ik cls).before args s' = true := vx_ot_at hW0 hvm.symm (hgood _ List.mem_cons_self) hk
  have hini' : (Cond.initialized cls).before args s' = true := vx_ot_at hW0 hvm.symm (hgood _ (List.mem_cons_of_mem _ List.mem_cons_self)) hini
  have hU' : vx_Zq Bundle.tN "UNASSIGNED_STACK" Bundle.steD A s' s'.heap := by rw [hhp]; exact vx_Zq.moved hW0.alike (hU.kept hS.2.1)
  have hN' : vx_Zq Bundle.tN "SUPPRESSED_SENTINEL" Bundle.listD A s' s'.heap := by rw [hhp]; exact vx_Zq.moved hW0.alike (hN.kept hS.2.1)
  have h : ∀ w ∈ Bundle.ownAtoms0 own ic cls names, w.before args s' = true := vx_own hat' (vx_isRefq hU'.1) (vx_isRefq hN'.1) hU'.2.word hN'.2.word
  have hown' : s'.vm.findClass own = some m.cls := by rw [hvm]; exact hown
  have hins : (Cond.instantiable cls 6).before args s' = true := h _ (by simp [Bundle.ownAtoms0])
  obtain ⟨vm₁, cX, kX, hfX, hkX, -, -, X₁, st1⟩ := Y.newCold hexec (own := own) (C := cls) (index := ik) (n := 6) hown' hk' hins hini'
    (g := F0 m pc ls rest) rfl (by rw [hb]; exact d0) (Nat.le_refl _) (Nat.le_refl _)
  generalize hT1 : (T.setVm vm₁).pushCell { cls := cX, slots := kX.instanceTypes.map defaultValue, vm := .none } = T1 at X₁ st1
  have hcat : (Value.ref T.heap.size).category = 1 := rfl
  have hcellA : T1.heap[T.heap.size]? = some (freshCell cX kX) := by rw [← hT1]; exact State.heap_pushCell_size _ _
  have d3' : decode c.code (pc + 3) = .ok (.dup, 1) := by rw [hb]; exact d3
  obtain ⟨U, hsteps, hrun, hend, hW, hsame, ce, hce, hO⟩ := X₁.ctorThrow0 hexec htr (own := own) (cls := cls) (names := names) (ic := ic) hown' hcls hnames h (fun x hx => nomatch hx) hfX hkX hcellA (by rw [hhp, hT]; exact Nat.le_refl _)
    (g := { method := m, pc := pc + 4, locals := ls, stack := .ref T.heap.size :: .ref T.heap.size :: rest, locked := none }) rfl hsize rfl rfl (rest := rest) rfl
    (by rw [hb]; exact d4) (by rw [hb]; exact d7) hout hRframes (by simp only [List.map_cons, List.sum_cons, hcat]; omega) hlocks
  obtain ⟨f1, f2⟩ := vx_frame hsame
  rw [hhp] at f1 f2
  have hWs : s.WarmedH U.vm := State.WarmedH.trans hW0 hW
  have hcl : s.vm.findClass cls = some ce.cls := by
    have h9 := hO.cls
    rw [hvm] at h9
    exact h9
  have hall : s.sameButNew ({ U with vm := s.vm } : State) locs mc ms := by
    subst hA
    obtain ⟨e1, e2⟩ := hsame
    rw [State.setFrames_setFrames] at e1
    have h2 : (T.setVm s.vm).sameButNew ({ U with vm := s.vm } : State) [] (0 + 1) (0 + 6) := ⟨e1, e2⟩
    have h3 := X.same.trans h2
    rw [List.append_nil] at h3
    exact h3.mono hc hs
  refine ⟨U, ?_, .threw T.heap.size, hrun, hend, Or.inr ⟨T.heap.size, rfl, cls, ce, locs, hx U hWs.alike f1 (fun q hq => f2 q hq (fun z hz => nomatch hz)), hce, hO.vm, hcl, hWs, hall, hf⟩⟩
  refine st1 _ ?_
  show Steps p.tables e below (T1.setTop { method := m, pc := pc + 3, locals := ls, stack := .ref T.heap.size :: rest, locked := none }) _
  jvm_step X₁.here [X₁.here.top, hexec, d3', Value.category]
  exact hsteps
/-- 'throw new E("text")': new; dup; ldc; invokespecial; athrow -/
theorem vx_throwS {cc : ByteArray} {pc : Nat} (hexec : p.tables.exec = Jvm.exec) (hb : c.code = cc) (hl : l.stackTraces = false) {own cls text : String} {names : List String} {ik is ic mc ms sa : Nat} {A : Nat → Prop}
    (hown : s.vm.findClass own = some m.cls) (hcls : Bundle.fit cls = true) (hnames : ∀ n ∈ names, Bundle.fit n = true)
    (hk : (Cond.classLink own ik cls).before args s = true) (hini : (Cond.initialized cls).before args s = true) (hstr : vk_R own is text sa s) (hat : ∀ w ∈ vx_atS own ic cls names, w.before args s = true)
    (hgood : ∀ w ∈ Cond.classLink own ik cls :: Cond.initialized cls :: vx_atS own ic cls names, vx_ot w = true)
    (hU : vx_Zq Bundle.tN "UNASSIGNED_STACK" Bundle.steD A s s.heap) (hN : vx_Zq Bundle.tN "SUPPRESSED_SENTINEL" Bundle.listD A s s.heap) (hS : va_S A s.heap H locs) (hsize : ls.size = c.maxLocals)
    (d0 : decode cc pc = .ok (.new ik, 3)) (d3 : decode cc (pc + 3) = .ok (.dup, 1)) (d4 : decode cc (pc + 4) = .ok (.ldc is, 2)) (d6 : decode cc (pc + 6) = .ok (.invokespecial ic, 3)) (d9 : decode cc (pc + 9) = .ok (.athrow, 1))
    (hout : ∀ x ∈ c.exceptionTable.toList, covers x (pc + 9) = false)
    (hRframes : names.length + 3 < R.frames) (hRlocals : (rest.map fun v => v.category).sum + (13 * (names.length + 1) + 43) ≤ R.locals) (hRcells : cells + 1 ≤ R.cells) (hRslots : slots + 6 ≤ R.slots) (hlocks : meth.locks = false)
    (hx : ∀ t : State, s.vm.Alike t.vm → H.size ≤ t.heap.size → (∀ q : Nat, q < H.size → t.heap[q]? = H[q]?) → XC cls s t)
    (hf : ∀ z ∈ locs, free z.base) (hc : cells + 1 ≤ mc) (hs : slots + 6 ≤ ms) :
    W p l e R s m args below meth c H locs cells slots (vx_MQ below Qc XC args s mc ms free) (F0 m pc ls rest) := by
  intro T hT X
  have htr : e.platform.stackTraces = false := (show e.platform.stackTraces = l.stackTraces by rw [X.admits.platform]).trans hl
  have Y := vx_rebase X (R' := { frames := R.frames, locals := R.locals, cells := 1, slots := 6 }) (Nat.le_refl _) (Nat.le_refl _) hRcells hRslots
  obtain ⟨s', hA⟩ : ∃ z, z = (T.setVm s.vm).setFrames (.invoking m args :: below) := ⟨_, rfl⟩
  rw [← hA] at Y
  have hvm : s'.vm = s.vm := by rw [hA]; rfl
  have hhp : s'.heap = H := by rw [hA]; exact hT
  have hW0 : s.WarmedH s'.vm := by rw [hvm]; exact State.WarmedH.refl s
  have hat' : ∀ w ∈ vx_atS own ic cls names, w.before args s' = true := fun w hw => vx_ot_at hW0 hvm.symm (hgood w (List.mem_cons_of_mem _ (List.mem_cons_of_mem _ hw))) (hat w hw)
  have hk' : (Cond.classLink own ik cls).before args s' = true := vx_ot_at hW0 hvm.symm (hgood _ List.mem_cons_self) hk
  have hini' : (Cond.initialized cls).before args s' = true := vx_ot_at hW0 hvm.symm (hgood _ (List.mem_cons_of_mem _ List.mem_cons_self)) hini
  have hU' : vx_Zq Bundle.tN "UNASSIGNED_STACK" Bundle.steD A s' s'.heap := by rw [hhp]; exact vx_Zq.moved hW0.alike (hU.kept hS.2.1)
  have hN' : vx_Zq Bundle.tN "SUPPRESSED_SENTINEL" Bundle.listD A s' s'.heap := by rw [hhp]; exact vx_Zq.moved hW0.alike (hN.kept hS.2.1)
  have h : ∀ w ∈ Bundle.ownAtoms own ic cls names, w.before args s' = true := vx_own hat' (vx_isRefq hU'.1) (vx_isRefq hN'.1) hU'.2.word hN'.2.word
  have hown' : s'.vm.findClass own = some m.cls := by rw [hvm]; exact hown
  have hins : (Cond.instantiable cls 6).before args s' = true := h _ (by simp [Bundle.ownAtoms])
  obtain ⟨vm₁, cX, kX, hfX, hkX, -, -, X₁, st1⟩ := Y.newCold hexec (own := own) (C := cls) (index := ik) (n := 6) hown' hk' hins hini'
    (g := F0 m pc ls rest) rfl (by rw [hb]; exact d0) (Nat.le_refl _) (Nat.le_refl _)
  generalize hT1 : (T.setVm vm₁).pushCell { cls := cX, slots := kX.instanceTypes.map defaultValue, vm := .none } = T1 at X₁ st1
  have hcat : (Value.ref T.heap.size).category = 1 := rfl
  have hcellA : T1.heap[T.heap.size]? = some (freshCell cX kX) := by rw [← hT1]; exact State.heap_pushCell_size _ _
  have d3' : decode c.code (pc + 3) = .ok (.dup, 1) := by rw [hb]; exact d3
  have d4' : decode c.code (pc + 4) = .ok (.ldc is, 2) := by rw [hb]; exact d4
  have hstr' : vk_R own is text sa s' := vk_R.warm hW0 hstr
  obtain ⟨U, hsteps, hrun, hend, hW, hsame, ce, hce, hO⟩ := X₁.ctorThrowS hexec htr (own := own) (cls := cls) (names := names) (ic := ic) hown' hcls hnames h (fun x hx => nomatch hx) hfX hkX hcellA (by rw [hhp, hT]; exact Nat.le_refl _) (msg := .ref sa) rfl
    (g := { method := m, pc := pc + 6, locals := ls, stack := .ref sa :: .ref T.heap.size :: .ref T.heap.size :: rest, locked := none }) rfl hsize rfl rfl (rest := rest) rfl
    (by rw [hb]; exact d6) (by rw [hb]; exact d9) hout hRframes (by simp only [List.map_cons, List.sum_cons, hcat]; omega) hlocks
  obtain ⟨f1, f2⟩ := vx_frame hsame
  rw [hhp] at f1 f2
  have hWs : s.WarmedH U.vm := State.WarmedH.trans hW0 hW
  have hcl : s.vm.findClass cls = some ce.cls := by
    have h9 := hO.cls
    rw [hvm] at h9
    exact h9
  have hall : s.sameButNew ({ U with vm := s.vm } : State) locs mc ms := by
    subst hA
    obtain ⟨e1, e2⟩ := hsame
    rw [State.setFrames_setFrames] at e1
    have h2 : (T.setVm s.vm).sameButNew ({ U with vm := s.vm } : State) [] (0 + 1) (0 + 6) := ⟨e1, e2⟩
    have h3 := X.same.trans h2
    rw [List.append_nil] at h3
    exact h3.mono hc hs
  refine ⟨U, ?_, .threw T.heap.size, hrun, hend, Or.inr ⟨T.heap.size, rfl, cls, ce, locs, hx U hWs.alike f1 (fun q hq => f2 q hq (fun z hz => nomatch hz)), hce, hO.vm, hcl, hWs, hall, hf⟩⟩
  refine st1 _ ?_
  show Steps p.tables e below (T1.setTop { method := m, pc := pc + 3, locals := ls, stack := .ref T.heap.size :: rest, locked := none }) _
  jvm_step X₁.here [X₁.here.top, hexec, d3', Value.category]
  exact X₁.ldcString hexec (own := own) (text := text) (index := is) (a := sa) hown' hstr'.1 hstr'.2
    (g := { method := m, pc := pc + 4, locals := ls, stack := .ref T.heap.size :: .ref T.heap.size :: rest, locked := none }) rfl d4' _ hsteps
/-- 'throw new E("text")', the text by a wide index -/
theorem vx_throwSW {cc : ByteArray} {pc : Nat} (hexec : p.tables.exec = Jvm.exec) (hb : c.code = cc) (hl : l.stackTraces = false) {own cls text : String} {names : List String} {ik is ic mc ms sa : Nat} {A : Nat → Prop}
    (hown : s.vm.findClass own = some m.cls) (hcls : Bundle.fit cls = true) (hnames : ∀ n ∈ names, Bundle.fit n = true)
    (hk : (Cond.classLink own ik cls).before args s = true) (hini : (Cond.initialized cls).before args s = true) (hstr : vk_R own is text sa s) (hat : ∀ w ∈ vx_atS own ic cls names, w.before args s = true)
    (hgood : ∀ w ∈ Cond.classLink own ik cls :: Cond.initialized cls :: vx_atS own ic cls names, vx_ot w = true)
    (hU : vx_Zq Bundle.tN "UNASSIGNED_STACK" Bundle.steD A s s.heap) (hN : vx_Zq Bundle.tN "SUPPRESSED_SENTINEL" Bundle.listD A s s.heap) (hS : va_S A s.heap H locs) (hsize : ls.size = c.maxLocals)
    (d0 : decode cc pc = .ok (.new ik, 3)) (d3 : decode cc (pc + 3) = .ok (.dup, 1)) (d4 : decode cc (pc + 4) = .ok (.ldc_w is, 3)) (d7 : decode cc (pc + 7) = .ok (.invokespecial ic, 3)) (d10 : decode cc (pc + 10) = .ok (.athrow, 1))
    (hout : ∀ x ∈ c.exceptionTable.toList, covers x (pc + 10) = false)
    (hRframes : names.length + 3 < R.frames) (hRlocals : (rest.map fun v => v.category).sum + (13 * (names.length + 1) + 43) ≤ R.locals) (hRcells : cells + 1 ≤ R.cells) (hRslots : slots + 6 ≤ R.slots) (hlocks : meth.locks = false)
    (hx : ∀ t : State, s.vm.Alike t.vm → H.size ≤ t.heap.size → (∀ q : Nat, q < H.size → t.heap[q]? = H[q]?) → XC cls s t)
    (hf : ∀ z ∈ locs, free z.base) (hc : cells + 1 ≤ mc) (hs : slots + 6 ≤ ms) :
    W p l e R s m args below meth c H locs cells slots (vx_MQ below Qc XC args s mc ms free) (F0 m pc ls rest) := by
  intro T hT X
  have htr : e.platform.stackTraces = false := (show e.platform.stackTraces = l.stackTraces by rw [X.admits.platform]).trans hl
  have Y := vx_rebase X (R' := { frames := R.frames, locals := R.locals, cells := 1, slots := 6 }) (Nat.le_refl _) (Nat.le_refl _) hRcells hRslots
  obtain ⟨s', hA⟩ : ∃ z, z = (T.setVm s.vm).setFrames (.invoking m args :: below) := ⟨_, rfl⟩
  rw [← hA] at Y
  have hvm : s'.vm = s.vm := by rw [hA]; rfl
  have hhp : s'.heap = H := by rw [hA]; exact hT
  have hW0 : s.WarmedH s'.vm := by rw [hvm]; exact State.WarmedH.refl s
  have hat' : ∀ w ∈ vx_atS own ic cls names, w.before args s' = true := fun w hw => vx_ot_at hW0 hvm.symm (hgood w (List.mem_cons_of_mem _ (List.mem_cons_of_mem _ hw))) (hat w hw)
  have hk' : (Cond.classLink own ik cls).before args s' = true := vx_ot_at hW0 hvm.symm (hgood _ List.mem_cons_self) hk
  have hini' : (Cond.initialized cls).before args s' = true := vx_ot_at hW0 hvm.symm (hgood _ (List.mem_cons_of_mem _ List.mem_cons_self)) hini
  have hU' : vx_Zq Bundle.tN "UNASSIGNED_STACK" Bundle.steD A s' s'.heap := by rw [hhp]; exact vx_Zq.moved hW0.alike (hU.kept hS.2.1)
  have hN' : vx_Zq Bundle.tN "SUPPRESSED_SENTINEL" Bundle.listD A s' s'.heap := by rw [hhp]; exact vx_Zq.moved hW0.alike (hN.kept hS.2.1)
  have h : ∀ w ∈ Bundle.ownAtoms own ic cls names, w.before args s' = true := vx_own hat' (vx_isRefq hU'.1) (vx_isRefq hN'.1) hU'.2.word hN'.2.word
  have hown' : s'.vm.findClass own = some m.cls := by rw [hvm]; exact hown
  have hins : (Cond.instantiable cls 6).before args s' = true := h _ (by simp [Bundle.ownAtoms])
  obtain ⟨vm₁, cX, kX, hfX, hkX, -, -, X₁, st1⟩ := Y.newCold hexec (own := own) (C := cls) (index := ik) (n := 6) hown' hk' hins hini'
    (g := F0 m pc ls rest) rfl (by rw [hb]; exact d0) (Nat.le_refl _) (Nat.le_refl _)
  generalize hT1 : (T.setVm vm₁).pushCell { cls := cX, slots := kX.instanceTypes.map defaultValue, vm := .none } = T1 at X₁ st1
  have hcat : (Value.ref T.heap.size).category = 1 := rfl
  have hcellA : T1.heap[T.heap.size]? = some (freshCell cX kX) := by rw [← hT1]; exact State.heap_pushCell_size _ _
  have d3' : decode c.code (pc + 3) = .ok (.dup, 1) := by rw [hb]; exact d3
  have d4' : decode c.code (pc + 4) = .ok (.ldc_w is, 3) := by rw [hb]; exact d4
  have hstr' : vk_R own is text sa s' := vk_R.warm hW0 hstr
  obtain ⟨U, hsteps, hrun, hend, hW, hsame, ce, hce, hO⟩ := X₁.ctorThrowS hexec htr (own := own) (cls := cls) (names := names) (ic := ic) hown' hcls hnames h (fun x hx => nomatch hx) hfX hkX hcellA (by rw [hhp, hT]; exact Nat.le_refl _) (msg := .ref sa) rfl
    (g := { method := m, pc := pc + 7, locals := ls, stack := .ref sa :: .ref T.heap.size :: .ref T.heap.size :: rest, locked := none }) rfl hsize rfl rfl (rest := rest) rfl
    (by rw [hb]; exact d7) (by rw [hb]; exact d10) hout hRframes (by simp only [List.map_cons, List.sum_cons, hcat]; omega) hlocks
  obtain ⟨f1, f2⟩ := vx_frame hsame
  rw [hhp] at f1 f2
  have hWs : s.WarmedH U.vm := State.WarmedH.trans hW0 hW
  have hcl : s.vm.findClass cls = some ce.cls := by
    have h9 := hO.cls
    rw [hvm] at h9
    exact h9
  have hall : s.sameButNew ({ U with vm := s.vm } : State) locs mc ms := by
    subst hA
    obtain ⟨e1, e2⟩ := hsame
    rw [State.setFrames_setFrames] at e1
    have h2 : (T.setVm s.vm).sameButNew ({ U with vm := s.vm } : State) [] (0 + 1) (0 + 6) := ⟨e1, e2⟩
    have h3 := X.same.trans h2
    rw [List.append_nil] at h3
    exact h3.mono hc hs
  refine ⟨U, ?_, .threw T.heap.size, hrun, hend, Or.inr ⟨T.heap.size, rfl, cls, ce, locs, hx U hWs.alike f1 (fun q hq => f2 q hq (fun z hz => nomatch hz)), hce, hO.vm, hcl, hWs, hall, hf⟩⟩
  refine st1 _ ?_
  show Steps p.tables e below (T1.setTop { method := m, pc := pc + 3, locals := ls, stack := .ref T.heap.size :: rest, locked := none }) _
  jvm_step X₁.here [X₁.here.top, hexec, d3', Value.category]
  exact X₁.ldcStringW hexec (own := own) (text := text) (index := is) (a := sa) hown' hstr'.1 hstr'.2
    (g := { method := m, pc := pc + 4, locals := ls, stack := .ref T.heap.size :: .ref T.heap.size :: rest, locked := none }) rfl d4' _ hsteps
end Ends
section Bodies
variable {l : Launch}
theorem vx_ofW {y : MethodName} {ws ws' : List Cond} {rm : Room} {Pc : Array Value → State → Prop} {Qc : Array Value → State → Outcome → State → Prop} {XC : String → State → State → Prop} {mc ms : Nat} {free : Addr → Prop} {cc : ByteArray} {maxL : Nat} {ret : Option FieldType}
    (hy : plainName y.cls = true) (hw : ws = Cond.code y cc maxL ret :: ws')
    (body : ∀ p e s m args below meth c s₁, BodyLoose p l y (headSpec ws rm) cc maxL ret e s m args below meth c s₁ → c.maxLocals = maxL → (∀ x ∈ c.exceptionTable.toList, False) → Pc args s →
      W p l e (headSpec ws rm).room s m args below meth c s.heap [] 0 0 (vx_MQ below Qc XC args s mc ms free) (entryFrame m args maxL)) : vx_Met l y ws rm Pc Qc XC mc ms free := by
  refine MetFree.of_bodyS (code := cc) (maxLocals := maxL) (ret := ret) hy ?_ ?_
  · intro args s m h hn
    obtain ⟨meth, c, h1, h2, h3, h4, h5, h6, -, -⟩ := Cond.code_spec hn (atoms_spec (ws := ws) h _ (by rw [hw]; exact List.mem_cons_self))
    exact ⟨meth, c, h1, h2, h3, h4, h5, h6⟩
  · intro p e s m args below meth c s₁ B hml hP _
    have hh0 : s₁.heap = s.heap := by rw [B.state]; rfl
    have ht : ∀ x ∈ c.exceptionTable.toList, False := by
      obtain ⟨meth9, c9, h1, h2, -, -, -, -, h7, -⟩ := Cond.code_spec B.named (atoms_spec (ws := ws) B.pre _ (by rw [hw]; exact List.mem_cons_self))
      cases Option.some.inj (h1.symm.trans B.method)
      cases Option.some.inj (h2.symm.trans (Stand.of_body B).code)
      intro x hx
      rw [Array.isEmpty_iff.mp h7] at hx
      cases hx
    obtain ⟨t, a1, o, b1, b2, b3⟩ := body p e s m args below meth c s₁ B hml ht hP s₁ hh0 (Stand.of_body B)
    exact ⟨t, o, a1, b1, b2, b3⟩
/-- the table of a body with handlers -/
theorem vx_table {p : Program} {x y : MethodName} {S : Spec} {cc bytes : ByteArray} {maxL maxL' : Nat} {ret ret' : Option FieldType} {e : Env} {s s₁ : State} {m : MethodId} {args : Array Value} {below : List Frame} {meth : Method} {c : Code} {hh : List (Nat × Nat × Nat × Nat)}
    (B : BodyLoose p l y S cc maxL ret e s m args below meth c s₁) (h : (Cond.codeWith y bytes maxL' ret' hh).before args s = true) : c.exceptionTable.toList = tableOf hh := by
  obtain ⟨m9, meth9, c9, hn9, h1, h2, -, -, h6, -⟩ := Cond.codeWith_spec h
  cases Option.some.inj (hn9.symm.trans B.named)
  cases Option.some.inj (h1.symm.trans B.method)
  cases Option.some.inj (h2.symm.trans (Stand.of_body B).code)
  rw [← h6, table_eq]
end Bodies
end VXA
/-! ===== END ===== -/
/-! ===== BEGIN a static call of a method with an exception table ===== -/
section VXS
variable {p : Program} {l : Launch} {e : Env} {R : Room} {s : State} {m : MethodId} {args : Array Value} {below : List Frame} {meth : Method} {c : Code} {T : State} {H : Heap} {locs : List Loc} {cells slots : Nat}
abbrev vx_CSW (R : Room) (s : State) (args : Array Value) (own : String) (index : Nat) (y : MethodName) (bytes : ByteArray) (maxL : Nat) (ret : Option FieldType) (hh : List (Nat × Nat × Nat × Nat)) (ws : List Cond) (rm : Room) (mc ms n : Nat) : Prop :=
  (rm.cells = mc ∧ rm.slots = ms ∧ rm.frames + 1 ≤ R.frames ∧ 8 + (maxL + 11) + rm.locals ≤ R.locals ∧ (∀ w ∈ ws, ∀ (a' : Array Value) (U : State), s.WarmedH U.vm → w.before a' U = true) ∧ Cond.codeWith y bytes maxL ret hh ∈ ws) ∧
  (Cond.codeWith y bytes maxL ret hh).before args s = true ∧ (Cond.initialized y.cls).before args s = true ∧ (y.cls ≠ "java/lang/invoke/MethodHandle" ∧ y.cls ≠ "java/lang/invoke/VarHandle") ∧
  (∀ sig, parseMethodDescriptor y.desc = some sig → n = sig.parameters.length) ∧ (Cond.methodLink own index y).before args s = true ∧ (Cond.static y).before args s = true
theorem vx_cwSW {own : String} {index maxL mc ms : Nat} {y : MethodName} {bytes : ByteArray} {ret : Option FieldType} {hh : List (Nat × Nat × Nat × Nat)} {Ts ws ws' : List Cond} {rm : Room} (n : Nat) (ht : ∀ w ∈ Ts, w.before args s = true) (hT : GoodIn Ts (va_wsS own index y ws)) (hw : ws = Cond.codeWith y bytes maxL ret hh :: ws') (hrc : rm.cells = mc) (hrs : rm.slots = ms)
    (hd : y.cls ≠ "java/lang/invoke/MethodHandle" ∧ y.cls ≠ "java/lang/invoke/VarHandle" ∧ (parseMethodDescriptor y.desc).map (fun d => d.parameters.length) = some n) (hR : rm.frames + 1 ≤ R.frames ∧ 8 + (maxL + 11) + rm.locals ≤ R.locals) :
    vx_CSW R s args own index y bytes maxL ret hh ws rm mc ms n := by
  have ok : ∀ w ∈ va_wsS own index y ws, w.before args s = true := fun w h => ht w (hT w h).1
  have hG : GoodIn Ts ws := fun w h => hT w (by unfold va_wsS; exact List.mem_append_right _ h)
  have hc : Cond.codeWith y bytes maxL ret hh ∈ ws := by rw [hw]; exact List.mem_cons_self
  refine ⟨⟨hrc, hrs, hR.1, hR.2, pay_in ht hG, hc⟩, ht _ (hG _ hc).1, ok _ (by simp [va_wsS]), ⟨hd.1, hd.2.1⟩, fun sig h => ?_, ok _ (by simp [va_wsS]), ok _ (by simp [va_wsS])⟩
  have h2 := hd.2.2
  rw [h] at h2
  exact (Option.some.inj h2).symm
theorem vx_callSW (X : Stand p l e R s m args below meth c T locs cells slots) (hexec : p.tables.exec = Jvm.exec) {own : String} {index : Nat} {y : MethodName} {bytes : ByteArray} {maxL : Nat} {ret : Option FieldType} {hh : List (Nat × Nat × Nat × Nat)}
    (hown : s.vm.findClass own = some m.cls) (hlink : (Cond.methodLink own index y).before args s = true) (hstat : (Cond.static y).before args s = true) (hinit : (Cond.initialized y.cls).before args s = true)
    (hcode : (Cond.codeWith y bytes maxL ret hh).before args s = true) (hy : y.cls ≠ "java/lang/invoke/MethodHandle" ∧ y.cls ≠ "java/lang/invoke/VarHandle")
    {W9 : Nat} {Pre : Pt → Array Value → Prop} {Post : Pt → Array Value → Option Value → Pt → Prop} (hK : Back l R p e below s args y 3 W9 Pre Post)
    {g : JFrame} (hg : g.method = m) (hsize : g.locals.size = c.maxLocals) {argsL rest : List Value} (hlen : ∀ sig, parseMethodDescriptor y.desc = some sig → argsL.length = sig.parameters.length)
    (hstack : g.stack = argsL.reverse ++ rest) (hW : 2 * g.monitorRoom + (rest.map fun v => v.category).sum ≤ W9) (hdg : decode c.code g.pc = .ok (.invokestatic index, 3))
    (hpre : ∀ vm₁, s.WarmedH vm₁ → Pre ⟨T.setVm vm₁, locs, cells, slots⟩ argsL.toArray) :
    ∃ (v : Option Value) (vm₁ : Vm) (B : Pt), s.WarmedH vm₁ ∧ Stand p l e R s m args below meth c B.U B.locs B.cells B.slots ∧ Post ⟨T.setVm vm₁, locs, cells, slots⟩ argsL.toArray v B ∧
      ∀ target, Steps p.tables e below (B.U.setTop { g with pc := g.pc + 3, stack := v.toList ++ rest }) target → Steps p.tables e below (T.setTop g) target := by
  obtain ⟨mk, methM, cM, hnamed, hmethM, -, -, -, -, -, -, hsigM⟩ := Cond.codeWith_spec hcode
  have hstatic : methM.isStatic = true := Cond.static_spec hnamed hmethM hstat
  obtain ⟨kP, hkP, -⟩ := className_of_methodNamed hnamed
  have hinitP : kP.init = .initialized := Cond.initialized_spec (findClass_of_methodNamed hnamed) hkP hinit
  obtain ⟨vm₁, X₁, hstep₁⟩ := X.invokestatic hexec hown hlink hnamed hmethM hstatic hkP hinitP hy (g := g) hg (argsL := argsL) (rest := rest) (hlen _ hsigM) hstack hdg
  obtain ⟨v, B, X', hpost, hsteps⟩ := hK m meth c ⟨T.setVm vm₁, locs, cells, slots⟩ { g with stack := rest } (.invokestatic index) mk argsL.toArray X₁ hg hsize hdg hW (X₁.named hnamed) (hpre vm₁ X₁.warmed)
  exact ⟨v, vm₁, B, X₁.warmed, X', hpost, fun target h => hstep₁ _ fun acts => by rw [doInvoke_state]; exact hsteps.trans h⟩
theorem vx_runSW {y : MethodName} {bytes cc : ByteArray} {maxL nL mc ms n index : Nat} {ret : Option FieldType} {hh : List (Nat × Nat × Nat × Nat)} {ws : List Cond} {rm : Room} {Pc : Array Value → State → Prop} {Qc : Array Value → State → Outcome → State → Prop} {free : Addr → Prop} {Ts : List Cond} {own : String} {As rest : List Value} {g : JFrame}
    (S : CallFix p m c cc nL s args Ts own) (hM : Met l y ws rm Pc Qc mc ms free) (cw : vx_CSW R s args own index y bytes maxL ret hh ws rm mc ms n) (hp : PreS s H Pc As)
    (hg : g.method = m) (hn : As.length = n) (hsize : g.locals.size = nL) (hstack : g.stack = As.reverse ++ rest) (hW : 2 * g.monitorRoom + (rest.map fun v => v.category).sum ≤ 8) (hdg : decode cc g.pc = .ok (.invokestatic index, 3)) (hf : cells + mc ≤ R.cells ∧ slots + ms ≤ R.slots) :
    va_Run p l e R s m args below meth c H locs cells slots mc ms g rest (Qc As.toArray) (free) := by
  obtain ⟨⟨hrc, hrs, hfr, hlo, hws, hcw⟩, hcode, hini, hy, hlen, hl, hstt⟩ := cw
  have hK : Back l R p e below s args y 3 8 (PreOf R mc ms Pc) (PostOf Qc mc ms free) := va_backW (hh := hh) (bytes := bytes) (maxL := maxL) (ret := ret) hM hp.1 hrc hrs hfr hlo hws hcw (fun a' U hW => word_at hW (Or.inl (by first | rfl | simp [Cond.onTables, Cond.keeps, Cond.steady])) hini)
  obtain ⟨hx, hb, hml, ho, -⟩ := S
  intro T hT X
  obtain ⟨v, vm₁, ⟨U', l2, c2, s2⟩, hW₁, X', ⟨g', mk, t, L, e1, e2, hq, h1, hL, h2, h3⟩, st⟩ := vx_callSW X hx (hh := hh) (bytes := bytes) (maxL := maxL) (ret := ret) ho hl hstt hini hcode hy hK hg (hsize.trans hml.symm) (argsL := As) (rest := rest) (fun sig h => hn.trans (hlen sig h)) hstack hW (by rw [hb]; exact hdg)
    (fun vm₁ hW₁ => ⟨hf.1, hf.2, hp.2 (T.setVm vm₁) hT hW₁⟩)
  dsimp only [Pt.U, Pt.locs, Pt.cells, Pt.slots] at X' e1 e2 h1 h2 h3 st
  subst h1; subst h2; subst h3
  exact ⟨v, (T.setVm vm₁).calling g' mk As.toArray, t, U', L, hT, X', hL, e1, e2, hq, st⟩
/-- not caught here, past rows that name other classes: it goes on to the caller -/
theorem vx_outP {p : Program} {l : Launch} {e : Env} {R : Room} {s : State} {m : MethodId} {args : Array Value} {below : List Frame} {meth : Method} {c : Code} {H : Heap} {locs : List Loc} {cells slots : Nat} {free : Addr → Prop} {ls : Array Slot} {rest : List Value} {Qc : Array Value → State → Outcome → State → Prop} {XC : String → State → State → Prop}
    {pc : Nat} {own E : String} {ce : Cell} {q : Addr} {mc ms : Nat} (hown : s.vm.findClass own = some m.cls) (hlocks : meth.locks = false)
    (hpass : ∀ z ∈ c.exceptionTable.toList, covers z pc = false ∨ (z.catchType ≠ 0 ∧ ∃ nm : String, (Cond.classLink own z.catchType nm).before args s = true ∧ va_Nc E nm s)) (hcell : H[q]? = some ce) (hv : ce.vm = .none) (hcl : s.vm.findClass E = some ce.cls)
    (hx : ∀ t : State, t.heap = H → s.vm.Alike t.vm → XC E s t) (hf : ∀ z ∈ locs, free z.base) (hc : cells ≤ mc) (hs : slots ≤ ms) :
    vx_W p l e R s m args below meth c H locs cells slots (vx_MQ below Qc XC args s mc ms free) (F0 m pc ls rest) q := by
  intro T hT X
  have hpl : e.platform.magicAccessors = ({} : Platform).magicAccessors := by rw [X.admits.platform]
  obtain ⟨vm', hW', X', st⟩ := X.outThrough hlocks q (g := F0 m pc ls rest) rfl rfl rfl (cell := ce) (by rw [hT]; exact hcell) (by rw [hv]; rfl)
    (by obtain ⟨k9, h9, -⟩ := Vm.findClass_spec hcl; exact ⟨k9, h9⟩) (fun z hz => by
      rcases hpass z hz with h | ⟨hz0, nm, hl1, hn1⟩
      · exact Or.inl h
      · obtain ⟨c6, hc6, hcl6⟩ := Cond.classLink_spec hown hl1 e.platform hpl
        obtain ⟨a8, b8, h1, h2, h3⟩ := hn1
        cases Option.some.inj (h1.symm.trans hcl)
        cases Option.some.inj (h2.symm.trans hc6)
        exact Or.inr ⟨hz0, _, hcl6, h3⟩)
  obtain ⟨g₀, hfr⟩ := X'.frames_eq
  have hcell9 : ((T.setVm vm').setFrames (.throwing q :: below)).heap[q]? = some ce := by
    show T.heap[q]? = some ce
    rw [hT]; exact hcell
  have hend : Ended ((T.setVm vm').setFrames (.throwing q :: below)) below (.threw q) := State.frames_setFrames _ (State.cur_lt_of_frames hfr)
  refine ⟨(T.setVm vm').setFrames (.throwing q :: below), ?_, .threw q, X'.here.running, hend, Or.inr ⟨q, rfl, E, ce, locs, hx _ hT (X'.ends _).1.alike, hcell9, hv, hcl, (X'.ends _).1, (X'.ends _).2.mono hc hs, hf⟩⟩
  rw [X.pushThrowing_eq]
  exact st
/-- a thing of a world lies in the heap -/
theorem vx_lt {D : va_G} {cl : List vw_C} {ws : va_W} {H1 : Heap} (h : va_P D cl ws H1) {k : Nat} {q : Nat × va_E} (hk : ws[k]? = some q) : q.1 < H1.size := (h k q hk).lt
end VXS
/-! ===== END ===== -/
/-! ===== BEGIN methods with a table of their own: called by a name, returning or throwing ===== -/
section VXH
/-! vx_backW, vx_callVX, vx_callSX, vx_callVW, vx_runVW, vx_runVX, vx_runSX, vx_ofWH follow the same proofs as their sisters above (Free/Laws.lean, Shelf42/LK1.lean); vx_outP calls Shelf42/NT130.lean (outThrough). -/
section
variable {l : Launch} {R : Room} {p : Program} {e : Env} {below : List Frame} {s : State} {sargs : Array Value} {y : MethodName} {len W9 : Nat}
theorem vx_backW {ws : List Cond} {rm : Room} {Pc : Array Value → State → Prop} {Qc : Array Value → State → Outcome → State → Prop} {XC : String → State → State → Prop} {mc ms : Nat} {free : Addr → Prop} {bytes : ByteArray} {maxL : Nat} {ret : Option FieldType} {hh : List (Nat × Nat × Nat × Nat)}
    (hM : vx_Met l y ws rm Pc Qc XC mc ms free) (hblind : FrameBlind Pc) (hrc : rm.cells = mc) (hrs : rm.slots = ms)
    (hframes : rm.frames + 1 ≤ R.frames) (hlocals : W9 + (maxL + 11) + rm.locals ≤ R.locals)
    (hws : ∀ w ∈ ws, ∀ a' U, s.WarmedH U.vm → w.before a' U = true) (hcode : Cond.codeWith y bytes maxL ret hh ∈ ws) (hinit : ∀ a' U, s.WarmedH U.vm → (Cond.initialized y.cls).before a' U = true) :
    vx_Back l R p e below s sargs y len W9 (PreOf R mc ms Pc) (PostOf Qc mc ms free) (vx_Post XC mc ms free) := by
  intro m meth c A g ig mk a X hg hsize hdg hW hn hp
  have h1 : (headSpec ws rm).pre.before a A.U = true := atoms_intro fun w hw => hws w hw _ _ X.warmed
  have h2 : (Cond.codeWith y bytes maxL ret hh).before a A.U = true := hws _ hcode _ _ X.warmed
  have h3 : (Cond.initialized y.cls).before a A.U = true := hinit _ _ X.warmed
  have h4 : A.cells + (headSpec ws rm).room.cells ≤ R.cells := by rw [show (headSpec ws rm).room.cells = mc from hrc]; exact hp.1
  have h5 : A.slots + (headSpec ws rm).room.slots ≤ R.slots := by rw [show (headSpec ws rm).room.slots = ms from hrs]; exact hp.2.1
  have hPc : Pc a (A.U.calling g mk a) := hblind _ _ _ _ hp.2.2
  obtain ⟨U, Ls, c0, s0⟩ := A
  dsimp only [Pt.U, Pt.locs, Pt.cells, Pt.slots] at h1 h2 h3 h4 h5 X hn hPc ⊢
  obtain ⟨m9, methY, cY, hn9, hmY, hcY, -, hlY, -⟩ := Cond.codeWith_spec h2
  cases Option.some.inj (hn9.symm.trans hn)
  obtain ⟨kY, hkY, -⟩ := className_of_methodNamed hn
  have hinitY : kY.init = .initialized := Cond.initialized_spec (findClass_of_methodNamed hn) hkY h3
  have h : At U g.method c below := by rw [hg]; exact X.here
  have hlocals9 : W9 + (maxL + 11) + (headSpec ws rm).room.locals ≤ R.locals := hlocals
  have happ : (headSpec ws rm).appliesLoose y e.platform (U.calling g mk a) = true :=
    Spec.appliesLoose_calling (g := g) h hdg hn hkY hinitY
      (X.room_calling (g := g) (R' := (headSpec ws rm).room) hsize hmY hcY hframes (by rw [hlY]; omega) h4 h5) h1
  obtain ⟨mid, hmid⟩ := h.above
  have hfr : (U.setTop g).frames = (.java g :: mid) ++ below := by rw [State.frames_setTop' g h.top, hmid]; rfl
  obtain ⟨o, s₂, hsteps, -, hend, hq⟩ := Steps.callFree hM p X.admits X.cas X.clock (acts := []) hfr happ hPc trivial
  have hq' : vx_Q Qc XC mc ms free a (U.calling g mk a) o s₂ := hq
  rw [State.frames_setTop' g h.top] at hend
  obtain ⟨g₀, hg0⟩ := Option.isSome_iff_exists.mp h.top
  obtain ⟨r, hr⟩ := State.topJava?_eq_some.mp hg0
  have hr' : (({ U with heap := s₂.heap, slotsUsed := s₂.slotsUsed } : State).setVm s₂.vm).frames = .java g₀ :: r := hr
  rcases hq' with ⟨hqc, L, hfe, hL⟩ | ⟨q, rfl, E, ce, L, hx, hce, hcv, hcl, hW₂, hsm, hL⟩
  · obtain ⟨⟨v, rfl⟩, hW₂, e2, q2, q3, q4, q5, q6⟩ := id hfe
    have e3 : s₂ = ({ (U.calling g mk a).setFrames s₂.frames with heap := s₂.heap, slotsUsed := s₂.slotsUsed } : State).setVm s₂.vm := by
      have : s₂ = ({ s₂ with vm := (U.calling g mk a).vm } : State).setVm s₂.vm := rfl
      rw [e2] at this
      exact this
    obtain ⟨c₂, i₂, len₂, hc₂, hd₂, hf₂⟩ := hend
    have hW' : U.WarmedH s₂.vm := hW₂
    have hcc : c₂ = c := by
      have h1 : s₂.code? g.method = U.code? g.method := by
        rw [State.code?_eq, State.code?_eq, hW'.alike.method?]
      exact Option.some.inj (hc₂.symm.trans (h1.trans h.code))
    subst hcc
    have hlen : len₂ = len := by rw [hdg] at hd₂; cases hd₂; rfl
    subst hlen
    have hs₂ : s₂ = (({ U with heap := s₂.heap, slotsUsed := s₂.slotsUsed } : State).setVm s₂.vm).setTop { g with pc := g.pc + len₂, stack := v.toList ++ g.stack } := by
      refine e3.trans ?_
      rw [hf₂, State.calling_eq h.top, State.setFrames_setFrames, State.setTop_of_frames _ hr', hr]
      rfl
    have hsame : U.sameButNew ({ U with heap := s₂.heap, slotsUsed := s₂.slotsUsed } : State) L mc ms := by
      refine ⟨?_, q2, q3, q4, q5, q6⟩
      obtain ⟨t, ht, -⟩ := State.frames_cons hr
      show ({ U with heap := s₂.heap, slotsUsed := s₂.slotsUsed } : State) = { U.setFrames U.frames with heap := s₂.heap, slotsUsed := s₂.slotsUsed }
      rw [State.setFrames_self ht]
    subst hg
    refine Or.inl ⟨v, ⟨(({ U with heap := s₂.heap, slotsUsed := s₂.slotsUsed } : State).setVm s₂.vm), Ls ++ L, c0 + mc, s0 + ms⟩,
      ⟨X.admits, X.cas, X.clock, X.frames, X.room, X.hears, X.method, X.code, (X.here.setHeapUsed s₂.heap s₂.slotsUsed).setVm hW'.alike, X.tail, State.WarmedH.trans X.warmed hW', X.limits, X.bytes, X.same.trans (hsame.setVm s.vm)⟩,
      ⟨g, mk, s₂, L, rfl, rfl, hqc, rfl, hL, rfl, rfl⟩, ?_⟩
    show Steps p.tables e below _ ((({ U with heap := s₂.heap, slotsUsed := s₂.slotsUsed } : State).setVm s₂.vm).setTop { g with pc := g.pc + len₂, stack := v.toList ++ g.stack })
    rw [← hs₂]
    exact hsteps
  · obtain ⟨e2, q2, q3, q4, q5, q6⟩ := id hsm
    have e3 : s₂ = ({ (U.calling g mk a).setFrames s₂.frames with heap := s₂.heap, slotsUsed := s₂.slotsUsed } : State).setVm s₂.vm := by
      have : s₂ = ({ s₂ with vm := (U.calling g mk a).vm } : State).setVm s₂.vm := rfl
      rw [e2] at this
      exact this
    have hf₂ : s₂.frames = .throwing q :: .java g :: U.frames.tail := hend
    have hW' : U.WarmedH s₂.vm := hW₂
    have hs₂ : s₂ = ((({ U with heap := s₂.heap, slotsUsed := s₂.slotsUsed } : State).setVm s₂.vm).setTop g).pushFrame (.throwing q) := by
      refine e3.trans ?_
      rw [hf₂, State.calling_eq h.top, State.setFrames_setFrames, State.pushFrame, State.frames_setTop _ hr', State.setTop_of_frames _ hr', State.setFrames_setFrames, hr]
      rfl
    have hsame : U.sameButNew ({ U with heap := s₂.heap, slotsUsed := s₂.slotsUsed } : State) L mc ms := by
      refine ⟨?_, q2, q3, q4, q5, q6⟩
      obtain ⟨t, ht, -⟩ := State.frames_cons hr
      show ({ U with heap := s₂.heap, slotsUsed := s₂.slotsUsed } : State) = { U.setFrames U.frames with heap := s₂.heap, slotsUsed := s₂.slotsUsed }
      rw [State.setFrames_self ht]
    subst hg
    refine Or.inr ⟨q, ⟨(({ U with heap := s₂.heap, slotsUsed := s₂.slotsUsed } : State).setVm s₂.vm), Ls ++ L, c0 + mc, s0 + ms⟩,
      ⟨X.admits, X.cas, X.clock, X.frames, X.room, X.hears, X.method, X.code, (X.here.setHeapUsed s₂.heap s₂.slotsUsed).setVm hW'.alike, X.tail, State.WarmedH.trans X.warmed hW', X.limits, X.bytes, X.same.trans (hsame.setVm s.vm)⟩,
      ⟨g, mk, s₂, L, E, ce, rfl, rfl, hx, hce, hcv, hcl, rfl, hL, rfl, rfl⟩, ?_⟩
    show Steps p.tables e below _ (((({ U with heap := s₂.heap, slotsUsed := s₂.slotsUsed } : State).setVm s₂.vm).setTop g).pushFrame (.throwing q))
    rw [← hs₂]
    exact hsteps
end
variable {p : Program} {l : Launch} {e : Env} {R : Room} {s : State} {m : MethodId} {args : Array Value} {below : List Frame} {meth : Method} {c : Code} {T : State} {H : Heap} {locs : List Loc} {cells slots : Nat}
theorem vx_callVX (X : Stand p l e R s m args below meth c T locs cells slots) (hexec : p.tables.exec = Jvm.exec) {own C : String} {index : Nat} {y : MethodName} {bytes : ByteArray} {maxL : Nat} {ret : Option FieldType} {hh : List (Nat × Nat × Nat × Nat)}
    (hown : s.vm.findClass own = some m.cls) (hlink : (Cond.methodLink own index y).before args s = true) (hinst : (Cond.instanceMethod y).before args s = true) (hsel : (Cond.selects C y y).before args s = true)
    (hcode : (Cond.codeWith y bytes maxL ret hh).before args s = true) (hy : y.cls ≠ "java/lang/invoke/MethodHandle" ∧ y.cls ≠ "java/lang/invoke/VarHandle")
    {W9 : Nat} {Pre : Pt → Array Value → Prop} {Post : Pt → Array Value → Option Value → Pt → Prop} {PostX : Pt → Array Value → Addr → Pt → Prop} (hK : vx_Back l R p e below s args y 3 W9 Pre Post PostX)
    {b : Addr} {cellB : Cell} (hcell : T.heap[b]? = some cellB) (hobj : cellB.vm.isStatics = false) (hcls : s.vm.findClass C = some cellB.cls)
    {g : JFrame} (hg : g.method = m) (hsize : g.locals.size = c.maxLocals) {argsL rest : List Value} (hlen : ∀ sig, parseMethodDescriptor y.desc = some sig → argsL.length = sig.parameters.length)
    (hstack : g.stack = argsL.reverse ++ .ref b :: rest) (hW : 2 * g.monitorRoom + (rest.map fun v => v.category).sum ≤ W9) (hdg : decode c.code g.pc = .ok (.invokevirtual index, 3))
    (hpre : ∀ vm₁, s.WarmedH vm₁ → Pre ⟨T.setVm vm₁, locs, cells, slots⟩ (Value.ref b :: argsL).toArray) :
    (∃ (v : Option Value) (vm₁ : Vm) (B : Pt), s.WarmedH vm₁ ∧ Stand p l e R s m args below meth c B.U B.locs B.cells B.slots ∧ Post ⟨T.setVm vm₁, locs, cells, slots⟩ (Value.ref b :: argsL).toArray v B ∧
      ∀ target, Steps p.tables e below (B.U.setTop { g with pc := g.pc + 3, stack := v.toList ++ rest }) target → Steps p.tables e below (T.setTop g) target) ∨
    (∃ (q : Addr) (vm₁ : Vm) (B : Pt), s.WarmedH vm₁ ∧ Stand p l e R s m args below meth c B.U B.locs B.cells B.slots ∧ PostX ⟨T.setVm vm₁, locs, cells, slots⟩ (Value.ref b :: argsL).toArray q B ∧
      Steps p.tables e below (T.setTop g) ((B.U.setTop { g with stack := rest }).pushFrame (.throwing q))) := by
  obtain ⟨mk, methM, hnamed, hmethM, hstM, habM⟩ := Cond.instanceMethod_spec hinst
  obtain ⟨m8, methM', cM, hn8, hmethM', -, -, -, -, -, -, hsigM⟩ := Cond.codeWith_spec hcode
  cases Option.some.inj (hn8.symm.trans hnamed)
  cases hmethM.symm.trans hmethM'
  obtain ⟨c2, r2, m2, q1, q2, q3, q4, kP, hkP, hkPi⟩ := Cond.selects_spec hsel
  cases hcls.symm.trans q1
  cases (State.methodFound?_of_named hnamed hy).symm.trans q2
  cases hnamed.symm.trans q3
  have hselP : selectMethod e.platform s.vm cellB.cls mk = .method mk := by rw [Launch.admits_selectMethod X.admits]; exact q4
  obtain ⟨vm₁, X₁, hstep₁⟩ := X.invokevirtual hexec hown hlink hnamed hmethM hstM hkP hkPi hy (a := b) (cell := cellB) hcell
    (fun z h => by rw [h] at hobj; cases hobj) hselP hmethM habM hkP hkPi (g := g) hg (argsL := argsL) (rest := rest) (hlen _ hsigM) hstack hdg
  rcases hK m meth c ⟨T.setVm vm₁, locs, cells, slots⟩ { g with stack := rest } (.invokevirtual index) mk (Value.ref b :: argsL).toArray X₁ hg hsize hdg hW (X₁.named hnamed) (hpre vm₁ X₁.warmed) with ⟨v, B, X', hpost, hsteps⟩ | ⟨q, B, X', hpost, hsteps⟩
  · exact Or.inl ⟨v, vm₁, B, X₁.warmed, X', hpost, fun target h => hstep₁ _ fun acts => by rw [doInvoke_state]; exact hsteps.trans h⟩
  · exact Or.inr ⟨q, vm₁, B, X₁.warmed, X', hpost, hstep₁ _ fun acts => by rw [doInvoke_state]; exact hsteps⟩
theorem vx_callSX (X : Stand p l e R s m args below meth c T locs cells slots) (hexec : p.tables.exec = Jvm.exec) {own : String} {index : Nat} {y : MethodName} {bytes : ByteArray} {maxL : Nat} {ret : Option FieldType} {hh : List (Nat × Nat × Nat × Nat)}
    (hown : s.vm.findClass own = some m.cls) (hlink : (Cond.methodLink own index y).before args s = true) (hstat : (Cond.static y).before args s = true) (hinit : (Cond.initialized y.cls).before args s = true)
    (hcode : (Cond.codeWith y bytes maxL ret hh).before args s = true) (hy : y.cls ≠ "java/lang/invoke/MethodHandle" ∧ y.cls ≠ "java/lang/invoke/VarHandle")
    {W9 : Nat} {Pre : Pt → Array Value → Prop} {Post : Pt → Array Value → Option Value → Pt → Prop} {PostX : Pt → Array Value → Addr → Pt → Prop} (hK : vx_Back l R p e below s args y 3 W9 Pre Post PostX)
    {g : JFrame} (hg : g.method = m) (hsize : g.locals.size = c.maxLocals) {argsL rest : List Value} (hlen : ∀ sig, parseMethodDescriptor y.desc = some sig → argsL.length = sig.parameters.length)
    (hstack : g.stack = argsL.reverse ++ rest) (hW : 2 * g.monitorRoom + (rest.map fun v => v.category).sum ≤ W9) (hdg : decode c.code g.pc = .ok (.invokestatic index, 3))
    (hpre : ∀ vm₁, s.WarmedH vm₁ → Pre ⟨T.setVm vm₁, locs, cells, slots⟩ argsL.toArray) :
    (∃ (v : Option Value) (vm₁ : Vm) (B : Pt), s.WarmedH vm₁ ∧ Stand p l e R s m args below meth c B.U B.locs B.cells B.slots ∧ Post ⟨T.setVm vm₁, locs, cells, slots⟩ argsL.toArray v B ∧
      ∀ target, Steps p.tables e below (B.U.setTop { g with pc := g.pc + 3, stack := v.toList ++ rest }) target → Steps p.tables e below (T.setTop g) target) ∨
    (∃ (q : Addr) (vm₁ : Vm) (B : Pt), s.WarmedH vm₁ ∧ Stand p l e R s m args below meth c B.U B.locs B.cells B.slots ∧ PostX ⟨T.setVm vm₁, locs, cells, slots⟩ argsL.toArray q B ∧
      Steps p.tables e below (T.setTop g) ((B.U.setTop { g with stack := rest }).pushFrame (.throwing q))) := by
  obtain ⟨mk, methM, cM, hnamed, hmethM, -, -, -, -, -, -, hsigM⟩ := Cond.codeWith_spec hcode
  have hstatic : methM.isStatic = true := Cond.static_spec hnamed hmethM hstat
  obtain ⟨kP, hkP, -⟩ := className_of_methodNamed hnamed
  have hinitP : kP.init = .initialized := Cond.initialized_spec (findClass_of_methodNamed hnamed) hkP hinit
  obtain ⟨vm₁, X₁, hstep₁⟩ := X.invokestatic hexec hown hlink hnamed hmethM hstatic hkP hinitP hy (g := g) hg (argsL := argsL) (rest := rest) (hlen _ hsigM) hstack hdg
  rcases hK m meth c ⟨T.setVm vm₁, locs, cells, slots⟩ { g with stack := rest } (.invokestatic index) mk argsL.toArray X₁ hg hsize hdg hW (X₁.named hnamed) (hpre vm₁ X₁.warmed) with ⟨v, B, X', hpost, hsteps⟩ | ⟨q, B, X', hpost, hsteps⟩
  · exact Or.inl ⟨v, vm₁, B, X₁.warmed, X', hpost, fun target h => hstep₁ _ fun acts => by rw [doInvoke_state]; exact hsteps.trans h⟩
  · exact Or.inr ⟨q, vm₁, B, X₁.warmed, X', hpost, hstep₁ _ fun acts => by rw [doInvoke_state]; exact hsteps⟩
theorem vx_callVW (X : Stand p l e R s m args below meth c T locs cells slots) (hexec : p.tables.exec = Jvm.exec) {own C : String} {index : Nat} {y : MethodName} {bytes : ByteArray} {maxL : Nat} {ret : Option FieldType} {hh : List (Nat × Nat × Nat × Nat)}
    (hown : s.vm.findClass own = some m.cls) (hlink : (Cond.methodLink own index y).before args s = true) (hinst : (Cond.instanceMethod y).before args s = true) (hsel : (Cond.selects C y y).before args s = true)
    (hcode : (Cond.codeWith y bytes maxL ret hh).before args s = true) (hy : y.cls ≠ "java/lang/invoke/MethodHandle" ∧ y.cls ≠ "java/lang/invoke/VarHandle")
    {W9 : Nat} {Pre : Pt → Array Value → Prop} {Post : Pt → Array Value → Option Value → Pt → Prop} (hK : Back l R p e below s args y 3 W9 Pre Post)
    {b : Addr} {cellB : Cell} (hcell : T.heap[b]? = some cellB) (hobj : cellB.vm.isStatics = false) (hcls : s.vm.findClass C = some cellB.cls)
    {g : JFrame} (hg : g.method = m) (hsize : g.locals.size = c.maxLocals) {argsL rest : List Value} (hlen : ∀ sig, parseMethodDescriptor y.desc = some sig → argsL.length = sig.parameters.length)
    (hstack : g.stack = argsL.reverse ++ .ref b :: rest) (hW : 2 * g.monitorRoom + (rest.map fun v => v.category).sum ≤ W9) (hdg : decode c.code g.pc = .ok (.invokevirtual index, 3))
    (hpre : ∀ vm₁, s.WarmedH vm₁ → Pre ⟨T.setVm vm₁, locs, cells, slots⟩ (Value.ref b :: argsL).toArray) :
    ∃ (v : Option Value) (vm₁ : Vm) (B : Pt), s.WarmedH vm₁ ∧ Stand p l e R s m args below meth c B.U B.locs B.cells B.slots ∧ Post ⟨T.setVm vm₁, locs, cells, slots⟩ (Value.ref b :: argsL).toArray v B ∧
      ∀ target, Steps p.tables e below (B.U.setTop { g with pc := g.pc + 3, stack := v.toList ++ rest }) target → Steps p.tables e below (T.setTop g) target := by
  obtain ⟨mk, methM, hnamed, hmethM, hstM, habM⟩ := Cond.instanceMethod_spec hinst
  obtain ⟨m8, methM', cM, hn8, hmethM', -, -, -, -, -, -, hsigM⟩ := Cond.codeWith_spec hcode
  cases Option.some.inj (hn8.symm.trans hnamed)
  cases hmethM.symm.trans hmethM'
  obtain ⟨c2, r2, m2, q1, q2, q3, q4, kP, hkP, hkPi⟩ := Cond.selects_spec hsel
  cases hcls.symm.trans q1
  cases (State.methodFound?_of_named hnamed hy).symm.trans q2
  cases hnamed.symm.trans q3
  have hselP : selectMethod e.platform s.vm cellB.cls mk = .method mk := by rw [Launch.admits_selectMethod X.admits]; exact q4
  obtain ⟨vm₁, X₁, hstep₁⟩ := X.invokevirtual hexec hown hlink hnamed hmethM hstM hkP hkPi hy (a := b) (cell := cellB) hcell
    (fun z h => by rw [h] at hobj; cases hobj) hselP hmethM habM hkP hkPi (g := g) hg (argsL := argsL) (rest := rest) (hlen _ hsigM) hstack hdg
  obtain ⟨v, B, X', hpost, hsteps⟩ := hK m meth c ⟨T.setVm vm₁, locs, cells, slots⟩ { g with stack := rest } (.invokevirtual index) mk (Value.ref b :: argsL).toArray X₁ hg hsize hdg hW (X₁.named hnamed) (hpre vm₁ X₁.warmed)
  exact ⟨v, vm₁, B, X₁.warmed, X', hpost, fun target h => hstep₁ _ fun acts => by rw [doInvoke_state]; exact hsteps.trans h⟩
abbrev vx_CVW (R : Room) (s : State) (args : Array Value) (own C : String) (index : Nat) (y : MethodName) (bytes : ByteArray) (maxL : Nat) (ret : Option FieldType) (hh : List (Nat × Nat × Nat × Nat)) (ws : List Cond) (rm : Room) (mc ms n : Nat) : Prop :=
  (rm.cells = mc ∧ rm.slots = ms ∧ rm.frames + 1 ≤ R.frames ∧ 8 + (maxL + 11) + rm.locals ≤ R.locals ∧ (∀ w ∈ ws, ∀ (a' : Array Value) (U : State), s.WarmedH U.vm → w.before a' U = true) ∧ Cond.codeWith y bytes maxL ret hh ∈ ws) ∧
  (Cond.codeWith y bytes maxL ret hh).before args s = true ∧ (Cond.initialized y.cls).before args s = true ∧ (y.cls ≠ "java/lang/invoke/MethodHandle" ∧ y.cls ≠ "java/lang/invoke/VarHandle") ∧
  (∀ sig, parseMethodDescriptor y.desc = some sig → n = sig.parameters.length) ∧ (Cond.methodLink own index y).before args s = true ∧ (Cond.instanceMethod y).before args s = true ∧ (Cond.selects C y y).before args s = true
theorem vx_cwVW {own C : String} {index maxL mc ms : Nat} {y : MethodName} {bytes : ByteArray} {ret : Option FieldType} {hh : List (Nat × Nat × Nat × Nat)} {Ts ws ws' : List Cond} {rm : Room} (n : Nat) (ht : ∀ w ∈ Ts, w.before args s = true) (hT : GoodIn Ts (wsV own index C y ws)) (hw : ws = Cond.codeWith y bytes maxL ret hh :: ws') (hrc : rm.cells = mc) (hrs : rm.slots = ms)
    (hd : y.cls = C ∧ y.cls ≠ "java/lang/invoke/MethodHandle" ∧ y.cls ≠ "java/lang/invoke/VarHandle" ∧ (parseMethodDescriptor y.desc).map (fun d => d.parameters.length) = some n) (hR : rm.frames + 1 ≤ R.frames ∧ 8 + (maxL + 11) + rm.locals ≤ R.locals) :
    vx_CVW R s args own C index y bytes maxL ret hh ws rm mc ms n := by
  obtain ⟨hC, hd⟩ := hd
  subst hC
  have ok : ∀ w ∈ wsV own index y.cls y ws, w.before args s = true := fun w h => ht w (hT w h).1
  have hG : GoodIn Ts ws := fun w h => hT w (by unfold wsV; exact List.mem_append_right _ h)
  have hc : Cond.codeWith y bytes maxL ret hh ∈ ws := by rw [hw]; exact List.mem_cons_self
  refine ⟨⟨hrc, hrs, hR.1, hR.2, pay_in ht hG, hc⟩, ht _ (hG _ hc).1, ok _ (by simp [wsV]), ⟨hd.1, hd.2.1⟩, fun sig h => ?_, ok _ (by simp [wsV]), ok _ (by simp [wsV]), ok _ (by simp [wsV])⟩
  have h2 := hd.2.2
  rw [h] at h2
  exact (Option.some.inj h2).symm
theorem vx_runVW {y : MethodName} {bytes cc : ByteArray} {maxL nL mc ms n index : Nat} {ret : Option FieldType} {hh : List (Nat × Nat × Nat × Nat)} {ws : List Cond} {rm : Room} {Pc : Array Value → State → Prop} {Qc : Array Value → State → Outcome → State → Prop} {free : Addr → Prop} {Ts : List Cond} {own C : String} {b : Addr} {As rest : List Value} {g : JFrame}
    (S : CallFix p m c cc nL s args Ts own) (hM : Met l y ws rm Pc Qc mc ms free) (cw : vx_CVW R s args own C index y bytes maxL ret hh ws rm mc ms n) (hp : PreV s H C b Pc As)
    (hg : g.method = m) (hn : As.length = n) (hsize : g.locals.size = nL) (hstack : g.stack = As.reverse ++ .ref b :: rest) (hW : 2 * g.monitorRoom + (rest.map fun v => v.category).sum ≤ 8) (hdg : decode cc g.pc = .ok (.invokevirtual index, 3)) (hf : cells + mc ≤ R.cells ∧ slots + ms ≤ R.slots) :
    va_Run p l e R s m args below meth c H locs cells slots mc ms g rest (Qc (Value.ref b :: As).toArray) free := by
  obtain ⟨⟨hrc, hrs, hfr, hlo, hws, hcw⟩, hcode, hini, hy, hlen, hl, hin, hse⟩ := cw
  have hK : Back l R p e below s args y 3 8 (PreOf R mc ms Pc) (PostOf Qc mc ms free) := va_backW (hh := hh) (bytes := bytes) (maxL := maxL) (ret := ret) hM hp.1 hrc hrs hfr hlo hws hcw (fun a' U hW => word_at hW (Or.inl (by first | rfl | simp [Cond.onTables, Cond.keeps, Cond.steady])) hini)
  obtain ⟨hx, hb, hml, ho, -⟩ := S
  obtain ⟨-, ⟨cellB, hcB, hoB, hclB⟩, hPc⟩ := hp
  intro T hT X
  obtain ⟨v, vm₁, ⟨U', l2, c2, s2⟩, hW₁, X', ⟨g', mk, t, L, e1, e2, hq, h1, hL, h2, h3⟩, st⟩ := vx_callVW X hx (C := C) (hh := hh) (bytes := bytes) (maxL := maxL) (ret := ret) ho hl hin hse hcode hy hK (by rw [hT]; exact hcB) hoB hclB hg (hsize.trans hml.symm) (argsL := As) (rest := rest) (fun sig h => hn.trans (hlen sig h)) hstack hW (by rw [hb]; exact hdg)
    (fun vm₁ hW₁ => ⟨hf.1, hf.2, hPc (T.setVm vm₁) hT hW₁⟩)
  dsimp only [Pt.U, Pt.locs, Pt.cells, Pt.slots] at X' e1 e2 h1 h2 h3 st
  subst h1; subst h2; subst h3
  exact ⟨v, (T.setVm vm₁).calling g' mk (Value.ref b :: As).toArray, t, U', L, hT, X', hL, e1, e2, hq, st⟩
section
variable {y : MethodName} {bytes cc : ByteArray} {maxL nL mc ms n index : Nat} {ret : Option FieldType} {ws : List Cond} {rm : Room} {Pc : Array Value → State → Prop} {Qc : Array Value → State → Outcome → State → Prop} {XC : String → State → State → Prop} {free : Addr → Prop} {Ts : List Cond} {own C : String} {b : Addr} {As rest : List Value} {g : JFrame}
theorem vx_runVX {hh : List (Nat × Nat × Nat × Nat)} (S : CallFix p m c cc nL s args Ts own) (hM : vx_Met l y ws rm Pc Qc XC mc ms free) (cw : vx_CVW R s args own C index y bytes maxL ret hh ws rm mc ms n) (hp : PreV s H C b Pc As)
    (hg : g.method = m) (hn : As.length = n) (hsize : g.locals.size = nL) (hstack : g.stack = As.reverse ++ .ref b :: rest) (hW : 2 * g.monitorRoom + (rest.map fun v => v.category).sum ≤ 8) (hdg : decode cc g.pc = .ok (.invokevirtual index, 3)) (hf : cells + mc ≤ R.cells ∧ slots + ms ≤ R.slots) :
    vx_Run p l e R s m args below meth c H locs cells slots mc ms g rest (Qc (Value.ref b :: As).toArray) XC free := by
  obtain ⟨⟨hrc, hrs, hfr, hlo, hws, hcw⟩, hcode, hini, hy, hlen, hl, hin, hse⟩ := cw
  have hK : vx_Back l R p e below s args y 3 8 (PreOf R mc ms Pc) (PostOf Qc mc ms free) (vx_Post XC mc ms free) := vx_backW (hh := hh) (bytes := bytes) (maxL := maxL) (ret := ret) hM hp.1 hrc hrs hfr hlo hws hcw (fun a' U hW => word_at hW (Or.inl (by first | rfl | simp [Cond.onTables, Cond.keeps, Cond.steady])) hini)
  obtain ⟨hx, hb, hml, ho, -⟩ := S
  obtain ⟨-, ⟨cellB, hcB, hoB, hclB⟩, hPc⟩ := hp
  intro T hT X
  rcases vx_callVX X hx (C := C) (hh := hh) (bytes := bytes) (maxL := maxL) (ret := ret) ho hl hin hse hcode hy hK (by rw [hT]; exact hcB) hoB hclB hg (hsize.trans hml.symm) (argsL := As) (rest := rest) (fun sig h => hn.trans (hlen sig h)) hstack hW (by rw [hb]; exact hdg)
    (fun vm₁ hW₁ => ⟨hf.1, hf.2, hPc (T.setVm vm₁) hT hW₁⟩) with ⟨v, vm₁, ⟨U', l2, c2, s2⟩, hW₁, X', ⟨g', mk, t, L, e1, e2, hq, h1, hL, h2, h3⟩, st⟩ | ⟨q, vm₁, ⟨U', l2, c2, s2⟩, hW₁, X', ⟨g', mk, t, L, E, ce, e1, e2, hq, hce, hcv, hcl, h1, hL, h2, h3⟩, st⟩
  · dsimp only [Pt.U, Pt.locs, Pt.cells, Pt.slots] at X' e1 e2 h1 h2 h3 st
    subst h1; subst h2; subst h3
    exact Or.inl ⟨v, (T.setVm vm₁).calling g' mk (Value.ref b :: As).toArray, t, U', L, hT, X', hL, e1, e2, hq, st⟩
  · dsimp only [Pt.U, Pt.locs, Pt.cells, Pt.slots] at X' e1 e2 h1 h2 h3 st hcl
    subst h1; subst h2; subst h3
    exact Or.inr ⟨q, (T.setVm vm₁).calling g' mk (Value.ref b :: As).toArray, t, U', L, E, ce, hT, X', hL, e1, e2, hq, hce, hcv, vx_cls hW₁ hcl, st⟩
theorem vx_runSX {hh : List (Nat × Nat × Nat × Nat)} (S : CallFix p m c cc nL s args Ts own) (hM : vx_Met l y ws rm Pc Qc XC mc ms free) (cw : vx_CSW R s args own index y bytes maxL ret hh ws rm mc ms n) (hp : PreS s H Pc As)
    (hg : g.method = m) (hn : As.length = n) (hsize : g.locals.size = nL) (hstack : g.stack = As.reverse ++ rest) (hW : 2 * g.monitorRoom + (rest.map fun v => v.category).sum ≤ 8) (hdg : decode cc g.pc = .ok (.invokestatic index, 3)) (hf : cells + mc ≤ R.cells ∧ slots + ms ≤ R.slots) :
    vx_Run p l e R s m args below meth c H locs cells slots mc ms g rest (Qc As.toArray) XC free := by
  obtain ⟨⟨hrc, hrs, hfr, hlo, hws, hcw⟩, hcode, hini, hy, hlen, hl, hstt⟩ := cw
  have hK : vx_Back l R p e below s args y 3 8 (PreOf R mc ms Pc) (PostOf Qc mc ms free) (vx_Post XC mc ms free) := vx_backW (hh := hh) (bytes := bytes) (maxL := maxL) (ret := ret) hM hp.1 hrc hrs hfr hlo hws hcw (fun a' U hW => word_at hW (Or.inl (by first | rfl | simp [Cond.onTables, Cond.keeps, Cond.steady])) hini)
  obtain ⟨hx, hb, hml, ho, -⟩ := S
  intro T hT X
  rcases vx_callSX X hx (hh := hh) (bytes := bytes) (maxL := maxL) (ret := ret) ho hl hstt hini hcode hy hK hg (hsize.trans hml.symm) (argsL := As) (rest := rest) (fun sig h => hn.trans (hlen sig h)) hstack hW (by rw [hb]; exact hdg)
    (fun vm₁ hW₁ => ⟨hf.1, hf.2, hp.2 (T.setVm vm₁) hT hW₁⟩) with ⟨v, vm₁, ⟨U', l2, c2, s2⟩, hW₁, X', ⟨g', mk, t, L, e1, e2, hq, h1, hL, h2, h3⟩, st⟩ | ⟨q, vm₁, ⟨U', l2, c2, s2⟩, hW₁, X', ⟨g', mk, t, L, E, ce, e1, e2, hq, hce, hcv, hcl, h1, hL, h2, h3⟩, st⟩
  · dsimp only [Pt.U, Pt.locs, Pt.cells, Pt.slots] at X' e1 e2 h1 h2 h3 st
    subst h1; subst h2; subst h3
    exact Or.inl ⟨v, (T.setVm vm₁).calling g' mk As.toArray, t, U', L, hT, X', hL, e1, e2, hq, st⟩
  · dsimp only [Pt.U, Pt.locs, Pt.cells, Pt.slots] at X' e1 e2 h1 h2 h3 st hcl
    subst h1; subst h2; subst h3
    exact Or.inr ⟨q, (T.setVm vm₁).calling g' mk As.toArray, t, U', L, E, ce, hT, X', hL, e1, e2, hq, hce, hcv, vx_cls hW₁ hcl, st⟩
end
end VXH
theorem vx_ofWH {l : Launch} {y : MethodName} {ws ws' : List Cond} {rm : Room} {Pc : Array Value → State → Prop} {Qc : Array Value → State → Outcome → State → Prop} {XC : String → State → State → Prop} {mc ms : Nat} {free : Addr → Prop} {cc : ByteArray} {maxL : Nat} {ret : Option FieldType} {hh : List (Nat × Nat × Nat × Nat)}
    (hy : plainName y.cls = true) (hw : ws = Cond.codeWith y cc maxL ret hh :: ws')
    (body : ∀ p e s m args below meth c s₁, BodyLoose p l y (headSpec ws rm) cc maxL ret e s m args below meth c s₁ → c.maxLocals = maxL → Pc args s →
      W p l e (headSpec ws rm).room s m args below meth c s.heap [] 0 0 (vx_MQ below Qc XC args s mc ms free) (entryFrame m args maxL)) : vx_Met l y ws rm Pc Qc XC mc ms free := by
  refine MetFree.of_bodyS (code := cc) (maxLocals := maxL) (ret := ret) hy ?_ ?_
  · intro args s m h hn
    obtain ⟨m9, meth, c, hn9, h1, h2, h3, h4, -, h5, h6, -⟩ := Cond.codeWith_spec (atoms_spec (ws := ws) h _ (by rw [hw]; exact List.mem_cons_self))
    cases hn.symm.trans hn9
    exact ⟨meth, c, h1, h2, h3, h4, h5, h6⟩
  · intro p e s m args below meth c s₁ B hml hP _
    have hh0 : s₁.heap = s.heap := by rw [B.state]; rfl
    obtain ⟨t, a1, o, b1, b2, b3⟩ := body p e s m args below meth c s₁ B hml hP s₁ hh0 (Stand.of_body B)
    exact ⟨t, o, a1, b1, b2, b3⟩
/-! ===== END ===== -/

def RX0 : String := "Taskgraphic$Cache"
def TX0 : u_T := fun k => match k with
  | 0 => ("Taskgraphic$Cache", "inOrder", "LTaskgraphic$Ints;", true)
  | 1 => ("Taskgraphic$Cache", "sizes", "LTaskgraphic$Ints;", true)
  | 2 => ("Taskgraphic$Cache", "count", "I", false)
  | 3 => ("Taskgraphic$Cache", "members", "I", false)
  | 4 => ("Taskgraphic$Cache", "filled", "I", false)
  | _ => ("Taskgraphic$Cache", "room", "I", false)
def tyX0 : Nat → FieldType := fun k => match k with
  | 0 => .object "Taskgraphic$Ints"
  | 1 => .object "Taskgraphic$Ints"
  | 2 => .int
  | 3 => .int
  | 4 => .int
  | _ => .int
abbrev wsX00 : List Cond := u_ws RX0 TX0 6
theorem nmX0 : ∀ a, a < 6 → ∀ b, b < 6 → a ≠ b → (TX0 a).2.1 ≠ (TX0 b).2.1 := by decide +kernel
theorem tyX0_ok : ∀ k, k < 6 → parseFieldDescriptor (TX0 k).2.2.1 = some (tyX0 k) := by decide +kernel
abbrev cX0_init : ByteArray := prog_2_method_1_code
def yX0_init : MethodName := ⟨RX0, "<init>", "()V"⟩
abbrev cX0_holds : ByteArray := prog_2_method_2_code
def yX0_holds : MethodName := ⟨RX0, "holds", "(I)Z"⟩
abbrev cX0_empty : ByteArray := prog_2_method_3_code
def yX0_empty : MethodName := ⟨RX0, "empty", "()V"⟩
abbrev cX0_makeLatest : ByteArray := prog_2_method_4_code
def yX0_makeLatest : MethodName := ⟨RX0, "makeLatest", "(I)V"⟩
abbrev cX0_enter : ByteArray := prog_2_method_5_code
def yX0_enter : MethodName := ⟨RX0, "enter", "(II)V"⟩
abbrev cX0_makeRoomFor : ByteArray := prog_2_method_6_code
def yX0_makeRoomFor : MethodName := ⟨RX0, "makeRoomFor", "(I)I"⟩
abbrev cX0_append : ByteArray := prog_2_method_7_code
def yX0_append : MethodName := ⟨RX0, "append", "(II)V"⟩
abbrev cX0_remove : ByteArray := prog_2_method_8_code
def yX0_remove : MethodName := ⟨RX0, "remove", "(I)V"⟩
def RX1 : String := "Taskgraphic$Crew"
def TX1 : u_T := fun k => match k with
  | 0 => ("Taskgraphic$Crew", "log", "LTaskgraphic$Log;", true)
  | 1 => ("Taskgraphic$Crew", "slowness", "LTaskgraphic$Ints;", true)
  | 2 => ("Taskgraphic$Crew", "idleFrom", "LTaskgraphic$Ints;", true)
  | _ => ("Taskgraphic$Crew", "size", "I", false)
def tyX1 : Nat → FieldType := fun k => match k with
  | 0 => .object "Taskgraphic$Log"
  | 1 => .object "Taskgraphic$Ints"
  | 2 => .object "Taskgraphic$Ints"
  | _ => .int
abbrev wsX10 : List Cond := u_ws RX1 TX1 4
theorem nmX1 : ∀ a, a < 4 → ∀ b, b < 4 → a ≠ b → (TX1 a).2.1 ≠ (TX1 b).2.1 := by decide +kernel
theorem tyX1_ok : ∀ k, k < 4 → parseFieldDescriptor (TX1 k).2.2.1 = some (tyX1 k) := by decide +kernel
abbrev cX1_init : ByteArray := prog_3_method_1_code
def yX1_init : MethodName := ⟨RX1, "<init>", "(LTaskgraphic$Log;)V"⟩
abbrev cX1_workOff : ByteArray := prog_3_method_2_code
def yX1_workOff : MethodName := ⟨RX1, "workOff", "(LTaskgraphic$Stage;I)I"⟩
abbrev cX1_look : ByteArray := prog_3_method_3_code
def yX1_look : MethodName := ⟨RX1, "look", "(LTaskgraphic$Stage;I)Z"⟩
abbrev cX1_takeNext : ByteArray := prog_3_method_4_code
def yX1_takeNext : MethodName := ⟨RX1, "takeNext", "(LTaskgraphic$Stage;II)V"⟩
abbrev cX1_takesCopy : ByteArray := prog_3_method_5_code
def yX1_takesCopy : MethodName := ⟨RX1, "takesCopy", "(LTaskgraphic$Stage;II)Z"⟩
def RX2 : String := "Taskgraphic$Graph"
def TX2 : u_T := fun k => match k with
  | 0 => ("Taskgraphic$Graph", "made", "Ljava/util/ArrayList;", true)
  | 1 => ("Taskgraphic$Graph", "none", "LTaskgraphic$Node;", true)
  | _ => ("Taskgraphic$Graph", "limit", "I", false)
def tyX2 : Nat → FieldType := fun k => match k with
  | 0 => .object "java/util/ArrayList"
  | 1 => .object "Taskgraphic$Node"
  | _ => .int
abbrev wsX20 : List Cond := u_ws RX2 TX2 3
theorem nmX2 : ∀ a, a < 3 → ∀ b, b < 3 → a ≠ b → (TX2 a).2.1 ≠ (TX2 b).2.1 := by decide +kernel
theorem tyX2_ok : ∀ k, k < 3 → parseFieldDescriptor (TX2 k).2.2.1 = some (tyX2 k) := by decide +kernel
abbrev cX2_init : ByteArray := prog_4_method_1_code
def yX2_init : MethodName := ⟨RX2, "<init>", "()V"⟩
abbrev cX2_size : ByteArray := prog_4_method_2_code
def yX2_size : MethodName := ⟨RX2, "size", "()I"⟩
abbrev cX2_at : ByteArray := prog_4_method_3_code
def yX2_at : MethodName := ⟨RX2, "at", "(I)LTaskgraphic$Node;"⟩
abbrev cX2_add : ByteArray := prog_4_method_4_code
def yX2_add : MethodName := ⟨RX2, "add", "(LTaskgraphic$Node;)I"⟩
def RX3 : String := "Taskgraphic$Holding"
def TX3 : u_T := fun k => match k with
  | 0 => ("Taskgraphic$Holding", "graph", "LTaskgraphic$Graph;", true)
  | 1 => ("Taskgraphic$Holding", "inPlace", "Z", true)
  | 2 => ("Taskgraphic$Holding", "held", "[LTaskgraphic$Rows;", true)
  | 3 => ("Taskgraphic$Holding", "nothing", "LTaskgraphic$Rows;", true)
  | 4 => ("Taskgraphic$Holding", "byKey", "LTaskgraphic$Rows;", true)
  | _ => ("Taskgraphic$Holding", "fresh", "I", false)
def tyX3 : Nat → FieldType := fun k => match k with
  | 0 => .object "Taskgraphic$Graph"
  | 1 => .boolean
  | 2 => .array (.object "Taskgraphic$Rows")
  | 3 => .object "Taskgraphic$Rows"
  | 4 => .object "Taskgraphic$Rows"
  | _ => .int
abbrev wsX30 : List Cond := u_ws RX3 TX3 6
theorem nmX3 : ∀ a, a < 6 → ∀ b, b < 6 → a ≠ b → (TX3 a).2.1 ≠ (TX3 b).2.1 := by decide +kernel
theorem tyX3_ok : ∀ k, k < 6 → parseFieldDescriptor (TX3 k).2.2.1 = some (tyX3 k) := by decide +kernel
abbrev cX3_init : ByteArray := prog_5_method_1_code
def yX3_init : MethodName := ⟨RX3, "<init>", "(LTaskgraphic$Graph;Z)V"⟩
abbrev cX3_of : ByteArray := prog_5_method_2_code
def yX3_of : MethodName := ⟨RX3, "of", "(I)LTaskgraphic$Rows;"⟩
abbrev cX3_forgetAll : ByteArray := prog_5_method_3_code
def yX3_forgetAll : MethodName := ⟨RX3, "forgetAll", "()V"⟩
abbrev cX3_forgetAllOf : ByteArray := prog_5_method_4_code
def yX3_forgetAllOf : MethodName := ⟨RX3, "forgetAllOf", "(I)V"⟩
abbrev cX3_freshRows : ByteArray := prog_5_method_5_code
def yX3_freshRows : MethodName := ⟨RX3, "freshRows", "(I)LTaskgraphic$Rows;"⟩
abbrev cX3_joinsBroadly : ByteArray := prog_5_method_6_code
def yX3_joinsBroadly : MethodName := ⟨RX3, "joinsBroadly", "(I)Z"⟩
abbrev cX3_fill : ByteArray := prog_5_method_7_code
def yX3_fill : MethodName := ⟨RX3, "fill", "(LTaskgraphic$Node;LTaskgraphic$Rows;)V"⟩
abbrev cX3_deal : ByteArray := prog_5_method_8_code
def yX3_deal : MethodName := ⟨RX3, "deal", "(LTaskgraphic$Rows;ILTaskgraphic$Rows;)V"⟩
abbrev cX3_change : ByteArray := prog_5_method_9_code
def yX3_change : MethodName := ⟨RX3, "change", "(LTaskgraphic$Rows;LTaskgraphic$Node;LTaskgraphic$Rows;)V"⟩
abbrev cX3_sift : ByteArray := prog_5_method_10_code
def yX3_sift : MethodName := ⟨RX3, "sift", "(LTaskgraphic$Rows;LTaskgraphic$Node;LTaskgraphic$Rows;)V"⟩
abbrev cX3_unite : ByteArray := prog_5_method_11_code
def yX3_unite : MethodName := ⟨RX3, "unite", "(LTaskgraphic$Rows;LTaskgraphic$Rows;LTaskgraphic$Rows;)V"⟩
abbrev cX3_append : ByteArray := prog_5_method_12_code
def yX3_append : MethodName := ⟨RX3, "append", "(LTaskgraphic$Rows;LTaskgraphic$Rows;)V"⟩
abbrev cX3_groupByKey : ByteArray := prog_5_method_13_code
def yX3_groupByKey : MethodName := ⟨RX3, "groupByKey", "(LTaskgraphic$Rows;LTaskgraphic$Node;)V"⟩
abbrev cX3_dealByKey : ByteArray := prog_5_method_14_code
def yX3_dealByKey : MethodName := ⟨RX3, "dealByKey", "(ILTaskgraphic$Rows;)V"⟩
abbrev cX3_joinInOrder : ByteArray := prog_5_method_15_code
def yX3_joinInOrder : MethodName := ⟨RX3, "joinInOrder", "(LTaskgraphic$Rows;LTaskgraphic$Rows;LTaskgraphic$Rows;)V"⟩
abbrev cX3_sortByKey : ByteArray := prog_5_method_16_code
def yX3_sortByKey : MethodName := ⟨RX3, "sortByKey", "(LTaskgraphic$Rows;)V"⟩
abbrev cX3_joinByKey : ByteArray := prog_5_method_17_code
def yX3_joinByKey : MethodName := ⟨RX3, "joinByKey", "(LTaskgraphic$Rows;ILTaskgraphic$Rows;)V"⟩
abbrev cX3_addMatches : ByteArray := prog_5_method_18_code
def yX3_addMatches : MethodName := ⟨RX3, "addMatches", "(IILTaskgraphic$Rows;LTaskgraphic$Rows;)V"⟩
def RX4 : String := "Taskgraphic$Ints"
def TX4 : u_T := fun k => match k with
  | _ => ("Taskgraphic$Ints", "cells", "[I", true)
def tyX4 : Nat → FieldType := fun k => match k with
  | _ => .array .int
abbrev wsX40 : List Cond := u_ws RX4 TX4 1
theorem nmX4 : ∀ a, a < 1 → ∀ b, b < 1 → a ≠ b → (TX4 a).2.1 ≠ (TX4 b).2.1 := by decide +kernel
theorem tyX4_ok : ∀ k, k < 1 → parseFieldDescriptor (TX4 k).2.2.1 = some (tyX4 k) := by decide +kernel
abbrev cX4_init : ByteArray := prog_6_method_1_code
def yX4_init : MethodName := ⟨RX4, "<init>", "(I)V"⟩
abbrev cX4_at : ByteArray := prog_6_method_2_code
def yX4_at : MethodName := ⟨RX4, "at", "(I)I"⟩
abbrev cX4_set : ByteArray := prog_6_method_3_code
def yX4_set : MethodName := ⟨RX4, "set", "(II)V"⟩
def RX5 : String := "Taskgraphic$Kind"
def TX5 : u_T := fun k => match k with
  | _ => ("", "", "", false)
def tyX5 : Nat → FieldType := fun k => match k with
  | _ => .int
abbrev wsX50 : List Cond := u_ws RX5 TX5 0
theorem nmX5 : ∀ a, a < 0 → ∀ b, b < 0 → a ≠ b → (TX5 a).2.1 ≠ (TX5 b).2.1 := by decide +kernel
theorem tyX5_ok : ∀ k, k < 0 → parseFieldDescriptor (TX5 k).2.2.1 = some (tyX5 k) := by decide +kernel
def RX6 : String := "Taskgraphic$Log"
def TX6 : u_T := fun k => match k with
  | 0 => ("Taskgraphic$Log", "outputs", "LTaskgraphic$Ints;", true)
  | 1 => ("Taskgraphic$Log", "parts", "LTaskgraphic$Ints;", true)
  | 2 => ("Taskgraphic$Log", "workers", "LTaskgraphic$Ints;", true)
  | 3 => ("Taskgraphic$Log", "starts", "LTaskgraphic$Ints;", true)
  | 4 => ("Taskgraphic$Log", "ends", "LTaskgraphic$Ints;", true)
  | 5 => ("Taskgraphic$Log", "copies", "LTaskgraphic$Ints;", true)
  | 6 => ("Taskgraphic$Log", "count", "I", false)
  | 7 => ("Taskgraphic$Log", "ticks", "I", false)
  | 8 => ("Taskgraphic$Log", "spilled", "I", false)
  | _ => ("Taskgraphic$Log", "crewSize", "I", false)
def tyX6 : Nat → FieldType := fun k => match k with
  | 0 => .object "Taskgraphic$Ints"
  | 1 => .object "Taskgraphic$Ints"
  | 2 => .object "Taskgraphic$Ints"
  | 3 => .object "Taskgraphic$Ints"
  | 4 => .object "Taskgraphic$Ints"
  | 5 => .object "Taskgraphic$Ints"
  | 6 => .int
  | 7 => .int
  | 8 => .int
  | _ => .int
abbrev wsX60 : List Cond := u_ws RX6 TX6 10
theorem nmX6 : ∀ a, a < 10 → ∀ b, b < 10 → a ≠ b → (TX6 a).2.1 ≠ (TX6 b).2.1 := by decide +kernel
theorem tyX6_ok : ∀ k, k < 10 → parseFieldDescriptor (TX6 k).2.2.1 = some (tyX6 k) := by decide +kernel
abbrev cX6_init : ByteArray := prog_8_method_1_code
def yX6_init : MethodName := ⟨RX6, "<init>", "()V"⟩
abbrev cX6_begin : ByteArray := prog_8_method_2_code
def yX6_begin : MethodName := ⟨RX6, "begin", "(I)V"⟩
abbrev cX6_add : ByteArray := prog_8_method_3_code
def yX6_add : MethodName := ⟨RX6, "add", "(IIIIIZ)I"⟩
abbrev cX6_ticksOfAttempts : ByteArray := prog_8_method_4_code
def yX6_ticksOfAttempts : MethodName := ⟨RX6, "ticksOfAttempts", "()I"⟩
def RX7 : String := "Taskgraphic$Node"
def TX7 : u_T := fun k => match k with
  | 0 => ("Taskgraphic$Node", "kind", "LTaskgraphic$Kind;", true)
  | 1 => ("Taskgraphic$Node", "first", "I", true)
  | 2 => ("Taskgraphic$Node", "second", "I", true)
  | 3 => ("Taskgraphic$Node", "bound", "I", true)
  | 4 => ("Taskgraphic$Node", "width", "I", true)
  | 5 => ("Taskgraphic$Node", "told", "LTaskgraphic$Rows;", true)
  | 6 => ("Taskgraphic$Node", "toldPartitions", "I", false)
  | 7 => ("Taskgraphic$Node", "how", "I", false)
  | 8 => ("Taskgraphic$Node", "constant", "I", false)
  | 9 => ("Taskgraphic$Node", "low", "I", false)
  | 10 => ("Taskgraphic$Node", "high", "I", false)
  | 11 => ("Taskgraphic$Node", "marked", "Z", false)
  | _ => ("Taskgraphic$Node", "lineage", "I", false)
def tyX7 : Nat → FieldType := fun k => match k with
  | 0 => .object "Taskgraphic$Kind"
  | 1 => .int
  | 2 => .int
  | 3 => .int
  | 4 => .int
  | 5 => .object "Taskgraphic$Rows"
  | 6 => .int
  | 7 => .int
  | 8 => .int
  | 9 => .int
  | 10 => .int
  | 11 => .boolean
  | _ => .int
abbrev wsX70 : List Cond := u_ws RX7 TX7 13
theorem nmX7 : ∀ a, a < 13 → ∀ b, b < 13 → a ≠ b → (TX7 a).2.1 ≠ (TX7 b).2.1 := by decide +kernel
theorem tyX7_ok : ∀ k, k < 13 → parseFieldDescriptor (TX7 k).2.2.1 = some (tyX7 k) := by decide +kernel
abbrev cX7_init : ByteArray := prog_9_method_1_code
def yX7_init : MethodName := ⟨RX7, "<init>", "(LTaskgraphic$Kind;IIII)V"⟩
abbrev cX7_newKey : ByteArray := prog_9_method_2_code
def yX7_newKey : MethodName := ⟨RX7, "newKey", "(II)I"⟩
abbrev cX7_newValue : ByteArray := prog_9_method_3_code
def yX7_newValue : MethodName := ⟨RX7, "newValue", "(II)I"⟩
abbrev cX7_firstOfGroup : ByteArray := prog_9_method_4_code
def yX7_firstOfGroup : MethodName := ⟨RX7, "firstOfGroup", "(I)I"⟩
abbrev cX7_nextOfGroup : ByteArray := prog_9_method_5_code
def yX7_nextOfGroup : MethodName := ⟨RX7, "nextOfGroup", "(II)I"⟩
def RX8 : String := "Taskgraphic$Plan"
def TX8 : u_T := fun k => match k with
  | 0 => ("Taskgraphic$Plan", "graph", "LTaskgraphic$Graph;", true)
  | 1 => ("Taskgraphic$Plan", "holding", "LTaskgraphic$Holding;", true)
  | 2 => ("Taskgraphic$Plan", "cache", "LTaskgraphic$Cache;", true)
  | 3 => ("Taskgraphic$Plan", "reads", "LTaskgraphic$Ints;", true)
  | 4 => ("Taskgraphic$Plan", "outputs", "I", false)
  | 5 => ("Taskgraphic$Plan", "workedOut", "I", false)
  | _ => ("Taskgraphic$Plan", "used", "I", false)
def tyX8 : Nat → FieldType := fun k => match k with
  | 0 => .object "Taskgraphic$Graph"
  | 1 => .object "Taskgraphic$Holding"
  | 2 => .object "Taskgraphic$Cache"
  | 3 => .object "Taskgraphic$Ints"
  | 4 => .int
  | 5 => .int
  | _ => .int
abbrev wsX80 : List Cond := u_ws RX8 TX8 7
theorem nmX8 : ∀ a, a < 7 → ∀ b, b < 7 → a ≠ b → (TX8 a).2.1 ≠ (TX8 b).2.1 := by decide +kernel
theorem tyX8_ok : ∀ k, k < 7 → parseFieldDescriptor (TX8 k).2.2.1 = some (tyX8 k) := by decide +kernel
abbrev cX8_init : ByteArray := prog_10_method_1_code
def yX8_init : MethodName := ⟨RX8, "<init>", "(LTaskgraphic$Graph;LTaskgraphic$Holding;LTaskgraphic$Cache;)V"⟩
abbrev cX8_countOfStages : ByteArray := prog_10_method_2_code
def yX8_countOfStages : MethodName := ⟨RX8, "countOfStages", "()I"⟩
abbrev cX8_outputOfStage : ByteArray := prog_10_method_3_code
def yX8_outputOfStage : MethodName := ⟨RX8, "outputOfStage", "(I)I"⟩
abbrev cX8_readsOf : ByteArray := prog_10_method_4_code
def yX8_readsOf : MethodName := ⟨RX8, "readsOf", "(II)I"⟩
abbrev cX8_draw : ByteArray := prog_10_method_5_code
def yX8_draw : MethodName := ⟨RX8, "draw", "(I)V"⟩
abbrev cX8_needWhole : ByteArray := prog_10_method_6_code
def yX8_needWhole : MethodName := ⟨RX8, "needWhole", "(I)V"⟩
abbrev cX8_readsOfTask : ByteArray := prog_10_method_7_code
def yX8_readsOfTask : MethodName := ⟨RX8, "readsOfTask", "(II)I"⟩
abbrev cX8_readsOfShares : ByteArray := prog_10_method_8_code
def yX8_readsOfShares : MethodName := ⟨RX8, "readsOfShares", "(LTaskgraphic$Node;I)I"⟩
abbrev cX8_sizeOfShare : ByteArray := prog_10_method_9_code
def yX8_sizeOfShare : MethodName := ⟨RX8, "sizeOfShare", "(LTaskgraphic$Rows;II)I"⟩
def RX9 : String := "Taskgraphic$Rows"
def TX9 : u_T := fun k => match k with
  | 0 => ("Taskgraphic$Rows", "most", "I", true)
  | 1 => ("Taskgraphic$Rows", "keys", "LTaskgraphic$Ints;", true)
  | 2 => ("Taskgraphic$Rows", "values", "LTaskgraphic$Ints;", true)
  | 3 => ("Taskgraphic$Rows", "ends", "LTaskgraphic$Ints;", true)
  | 4 => ("Taskgraphic$Rows", "count", "I", false)
  | _ => ("Taskgraphic$Rows", "parts", "I", false)
def tyX9 : Nat → FieldType := fun k => match k with
  | 0 => .int
  | 1 => .object "Taskgraphic$Ints"
  | 2 => .object "Taskgraphic$Ints"
  | 3 => .object "Taskgraphic$Ints"
  | 4 => .int
  | _ => .int
abbrev wsX90 : List Cond := u_ws RX9 TX9 6
theorem nmX9 : ∀ a, a < 6 → ∀ b, b < 6 → a ≠ b → (TX9 a).2.1 ≠ (TX9 b).2.1 := by decide +kernel
theorem tyX9_ok : ∀ k, k < 6 → parseFieldDescriptor (TX9 k).2.2.1 = some (tyX9 k) := by decide +kernel
abbrev cX9_init : ByteArray := prog_11_method_1_code
def yX9_init : MethodName := ⟨RX9, "<init>", "(I)V"⟩
abbrev cX9_clear : ByteArray := prog_11_method_2_code
def yX9_clear : MethodName := ⟨RX9, "clear", "()V"⟩
abbrev cX9_size : ByteArray := prog_11_method_3_code
def yX9_size : MethodName := ⟨RX9, "size", "()I"⟩
abbrev cX9_parts : ByteArray := prog_11_method_4_code
def yX9_parts : MethodName := ⟨RX9, "parts", "()I"⟩
abbrev cX9_begin : ByteArray := prog_11_method_5_code
def yX9_begin : MethodName := ⟨RX9, "begin", "(I)I"⟩
abbrev cX9_end : ByteArray := prog_11_method_6_code
def yX9_end : MethodName := ⟨RX9, "end", "(I)I"⟩
abbrev cX9_sizeOf : ByteArray := prog_11_method_7_code
def yX9_sizeOf : MethodName := ⟨RX9, "sizeOf", "(I)I"⟩
abbrev cX9_key : ByteArray := prog_11_method_8_code
def yX9_key : MethodName := ⟨RX9, "key", "(I)I"⟩
abbrev cX9_value : ByteArray := prog_11_method_9_code
def yX9_value : MethodName := ⟨RX9, "value", "(I)I"⟩
abbrev cX9_setValue : ByteArray := prog_11_method_10_code
def yX9_setValue : MethodName := ⟨RX9, "setValue", "(II)V"⟩
abbrev cX9_add : ByteArray := prog_11_method_11_code
def yX9_add : MethodName := ⟨RX9, "add", "(II)V"⟩
abbrev cX9_insert : ByteArray := prog_11_method_12_code
def yX9_insert : MethodName := ⟨RX9, "insert", "(III)V"⟩
abbrev cX9_endPartition : ByteArray := prog_11_method_13_code
def yX9_endPartition : MethodName := ⟨RX9, "endPartition", "()V"⟩
abbrev cX9_hasKey : ByteArray := prog_11_method_14_code
def yX9_hasKey : MethodName := ⟨RX9, "hasKey", "(II)Z"⟩
abbrev cX9_placeBehind : ByteArray := prog_11_method_15_code
def yX9_placeBehind : MethodName := ⟨RX9, "placeBehind", "(I)I"⟩
abbrev cX9_squares : ByteArray := prog_11_method_16_code
def yX9_squares : MethodName := ⟨RX9, "squares", "()I"⟩
def RX10 : String := "Taskgraphic$Stage"
def TX10 : u_T := fun k => match k with
  | 0 => ("Taskgraphic$Stage", "work", "LTaskgraphic$Ints;", true)
  | 1 => ("Taskgraphic$Stage", "ends", "LTaskgraphic$Ints;", true)
  | 2 => ("Taskgraphic$Stage", "attempts", "LTaskgraphic$Ints;", true)
  | 3 => ("Taskgraphic$Stage", "output", "I", false)
  | 4 => ("Taskgraphic$Stage", "tasks", "I", false)
  | 5 => ("Taskgraphic$Stage", "taken", "I", false)
  | _ => ("Taskgraphic$Stage", "copied", "I", false)
def tyX10 : Nat → FieldType := fun k => match k with
  | 0 => .object "Taskgraphic$Ints"
  | 1 => .object "Taskgraphic$Ints"
  | 2 => .object "Taskgraphic$Ints"
  | 3 => .int
  | 4 => .int
  | 5 => .int
  | _ => .int
abbrev wsX100 : List Cond := u_ws RX10 TX10 7
theorem nmX10 : ∀ a, a < 7 → ∀ b, b < 7 → a ≠ b → (TX10 a).2.1 ≠ (TX10 b).2.1 := by decide +kernel
theorem tyX10_ok : ∀ k, k < 7 → parseFieldDescriptor (TX10 k).2.2.1 = some (tyX10 k) := by decide +kernel
abbrev cX10_init : ByteArray := prog_12_method_1_code
def yX10_init : MethodName := ⟨RX10, "<init>", "()V"⟩
abbrev cX10_begin : ByteArray := prog_12_method_2_code
def yX10_begin : MethodName := ⟨RX10, "begin", "(II)V"⟩
abbrev cX10_take : ByteArray := prog_12_method_3_code
def yX10_take : MethodName := ⟨RX10, "take", "(II)V"⟩
abbrev cX10_copy : ByteArray := prog_12_method_4_code
def yX10_copy : MethodName := ⟨RX10, "copy", "(II)V"⟩
abbrev cX10_ended : ByteArray := prog_12_method_5_code
def yX10_ended : MethodName := ⟨RX10, "ended", "(I)I"⟩
abbrev cX10_earliestEnd : ByteArray := prog_12_method_6_code
def yX10_earliestEnd : MethodName := ⟨RX10, "earliestEnd", "(I)I"⟩
abbrev cX10_latestWithoutCopy : ByteArray := prog_12_method_7_code
def yX10_latestWithoutCopy : MethodName := ⟨RX10, "latestWithoutCopy", "(I)I"⟩
def RX11 : String := "Taskgraphic"
def TX11 : u_T := fun k => match k with
  | 0 => ("Taskgraphic", "graph", "LTaskgraphic$Graph;", true)
  | 1 => ("Taskgraphic", "spread", "LTaskgraphic$Holding;", true)
  | 2 => ("Taskgraphic", "inOnePlace", "LTaskgraphic$Holding;", true)
  | 3 => ("Taskgraphic", "cache", "LTaskgraphic$Cache;", true)
  | 4 => ("Taskgraphic", "plan", "LTaskgraphic$Plan;", true)
  | 5 => ("Taskgraphic", "stage", "LTaskgraphic$Stage;", true)
  | 6 => ("Taskgraphic", "crew", "LTaskgraphic$Crew;", true)
  | 7 => ("Taskgraphic", "log", "LTaskgraphic$Log;", true)
  | _ => ("Taskgraphic", "memory", "I", false)
def tyX11 : Nat → FieldType := fun k => match k with
  | 0 => .object "Taskgraphic$Graph"
  | 1 => .object "Taskgraphic$Holding"
  | 2 => .object "Taskgraphic$Holding"
  | 3 => .object "Taskgraphic$Cache"
  | 4 => .object "Taskgraphic$Plan"
  | 5 => .object "Taskgraphic$Stage"
  | 6 => .object "Taskgraphic$Crew"
  | 7 => .object "Taskgraphic$Log"
  | _ => .int
abbrev wsX110 : List Cond := u_ws RX11 TX11 9
theorem nmX11 : ∀ a, a < 9 → ∀ b, b < 9 → a ≠ b → (TX11 a).2.1 ≠ (TX11 b).2.1 := by decide +kernel
theorem tyX11_ok : ∀ k, k < 9 → parseFieldDescriptor (TX11 k).2.2.1 = some (tyX11 k) := by decide +kernel
abbrev cX11_init : ByteArray := prog_1_method_1_code
def yX11_init : MethodName := ⟨RX11, "<init>", "()V"⟩
abbrev cX11_source : ByteArray := prog_1_method_2_code
def yX11_source : MethodName := ⟨RX11, "source", "(I)I"⟩
abbrev cX11_put : ByteArray := prog_1_method_3_code
def yX11_put : MethodName := ⟨RX11, "put", "(III)I"⟩
abbrev cX11_map : ByteArray := prog_1_method_4_code
def yX11_map : MethodName := ⟨RX11, "map", "(III)I"⟩
abbrev cX11_filter : ByteArray := prog_1_method_5_code
def yX11_filter : MethodName := ⟨RX11, "filter", "(III)I"⟩
abbrev cX11_union : ByteArray := prog_1_method_6_code
def yX11_union : MethodName := ⟨RX11, "union", "(II)I"⟩
abbrev cX11_group : ByteArray := prog_1_method_7_code
def yX11_group : MethodName := ⟨RX11, "group", "(III)I"⟩
abbrev cX11_join : ByteArray := prog_1_method_8_code
def yX11_join : MethodName := ⟨RX11, "join", "(III)I"⟩
abbrev cX11_nodes : ByteArray := prog_1_method_9_code
def yX11_nodes : MethodName := ⟨RX11, "nodes", "()I"⟩
abbrev cX11_partitions : ByteArray := prog_1_method_10_code
def yX11_partitions : MethodName := ⟨RX11, "partitions", "(I)I"⟩
abbrev cX11_rowsIn : ByteArray := prog_1_method_11_code
def yX11_rowsIn : MethodName := ⟨RX11, "rowsIn", "(II)I"⟩
abbrev cX11_rows : ByteArray := prog_1_method_12_code
def yX11_rows : MethodName := ⟨RX11, "rows", "(I)I"⟩
abbrev cX11_keyAt : ByteArray := prog_1_method_13_code
def yX11_keyAt : MethodName := ⟨RX11, "keyAt", "(III)I"⟩
abbrev cX11_valueAt : ByteArray := prog_1_method_14_code
def yX11_valueAt : MethodName := ⟨RX11, "valueAt", "(III)I"⟩
abbrev cX11_isBroad : ByteArray := prog_1_method_15_code
def yX11_isBroad : MethodName := ⟨RX11, "isBroad", "(I)Z"⟩
abbrev cX11_digest : ByteArray := prog_1_method_16_code
def yX11_digest : MethodName := ⟨RX11, "digest", "(I)I"⟩
abbrev cX11_digestInPlace : ByteArray := prog_1_method_17_code
def yX11_digestInPlace : MethodName := ⟨RX11, "digestInPlace", "(I)I"⟩
abbrev cX11_setWorkers : ByteArray := prog_1_method_18_code
def yX11_setWorkers : MethodName := ⟨RX11, "setWorkers", "(I)I"⟩
abbrev cX11_setSlowness : ByteArray := prog_1_method_19_code
def yX11_setSlowness : MethodName := ⟨RX11, "setSlowness", "(II)I"⟩
abbrev cX11_setMemory : ByteArray := prog_1_method_20_code
def yX11_setMemory : MethodName := ⟨RX11, "setMemory", "(I)I"⟩
abbrev cX11_setLimit : ByteArray := prog_1_method_21_code
def yX11_setLimit : MethodName := ⟨RX11, "setLimit", "(I)I"⟩
abbrev cX11_setRoom : ByteArray := prog_1_method_22_code
def yX11_setRoom : MethodName := ⟨RX11, "setRoom", "(I)I"⟩
abbrev cX11_mark : ByteArray := prog_1_method_23_code
def yX11_mark : MethodName := ⟨RX11, "mark", "(IZ)Z"⟩
abbrev cX11_isCached : ByteArray := prog_1_method_24_code
def yX11_isCached : MethodName := ⟨RX11, "isCached", "(I)Z"⟩
abbrev cX11_stages : ByteArray := prog_1_method_25_code
def yX11_stages : MethodName := ⟨RX11, "stages", "(I)I"⟩
abbrev cX11_outputOf : ByteArray := prog_1_method_26_code
def yX11_outputOf : MethodName := ⟨RX11, "outputOf", "(II)I"⟩
abbrev cX11_run : ByteArray := prog_1_method_27_code
def yX11_run : MethodName := ⟨RX11, "run", "(I)I"⟩
abbrev cX11_ticks : ByteArray := prog_1_method_28_code
def yX11_ticks : MethodName := ⟨RX11, "ticks", "()I"⟩
abbrev cX11_spilled : ByteArray := prog_1_method_29_code
def yX11_spilled : MethodName := ⟨RX11, "spilled", "()I"⟩
abbrev cX11_attempts : ByteArray := prog_1_method_30_code
def yX11_attempts : MethodName := ⟨RX11, "attempts", "()I"⟩
abbrev cX11_nodeOf : ByteArray := prog_1_method_31_code
def yX11_nodeOf : MethodName := ⟨RX11, "nodeOf", "(I)I"⟩
abbrev cX11_partitionOf : ByteArray := prog_1_method_32_code
def yX11_partitionOf : MethodName := ⟨RX11, "partitionOf", "(I)I"⟩
abbrev cX11_workerOf : ByteArray := prog_1_method_33_code
def yX11_workerOf : MethodName := ⟨RX11, "workerOf", "(I)I"⟩
abbrev cX11_startOf : ByteArray := prog_1_method_34_code
def yX11_startOf : MethodName := ⟨RX11, "startOf", "(I)I"⟩
abbrev cX11_endOf : ByteArray := prog_1_method_35_code
def yX11_endOf : MethodName := ⟨RX11, "endOf", "(I)I"⟩
abbrev cX11_isCopy : ByteArray := prog_1_method_36_code
def yX11_isCopy : MethodName := ⟨RX11, "isCopy", "(I)Z"⟩
abbrev cX11_share : ByteArray := prog_1_method_37_code
def yX11_share : MethodName := ⟨RX11, "share", "()F"⟩
abbrev cX11_checkNode : ByteArray := prog_1_method_38_code
def yX11_checkNode : MethodName := ⟨RX11, "checkNode", "(I)V"⟩
abbrev cX11_checkAnotherNode : ByteArray := prog_1_method_39_code
def yX11_checkAnotherNode : MethodName := ⟨RX11, "checkAnotherNode", "()V"⟩
abbrev cX11_checkAttempt : ByteArray := prog_1_method_40_code
def yX11_checkAttempt : MethodName := ⟨RX11, "checkAttempt", "(I)V"⟩
abbrev cX11_checkToldPartitions : ByteArray := prog_1_method_41_code
def yX11_checkToldPartitions : MethodName := ⟨RX11, "checkToldPartitions", "(I)V"⟩
abbrev cX11_checkSetting : ByteArray := prog_1_method_42_code
def yX11_checkSetting : MethodName := ⟨RX11, "checkSetting", "(I)V"⟩
abbrev cX11_checkPartition : ByteArray := prog_1_method_43_code
def yX11_checkPartition : MethodName := ⟨RX11, "checkPartition", "(LTaskgraphic$Rows;I)V"⟩
abbrev cX11_checkPlace : ByteArray := prog_1_method_44_code
def yX11_checkPlace : MethodName := ⟨RX11, "checkPlace", "(LTaskgraphic$Rows;II)V"⟩
abbrev cX11_changeOf : ByteArray := prog_1_method_45_code
def yX11_changeOf : MethodName := ⟨RX11, "changeOf", "(LTaskgraphic$Kind;I)LTaskgraphic$Node;"⟩
abbrev cX11_loadStage : ByteArray := prog_1_method_46_code
def yX11_loadStage : MethodName := ⟨RX11, "loadStage", "(I)V"⟩
abbrev cX11_renewCache : ByteArray := prog_1_method_47_code
def yX11_renewCache : MethodName := ⟨RX11, "renewCache", "()V"⟩
abbrev cX11_has : ByteArray := prog_1_method_48_code
def yX11_has : MethodName := ⟨RX11, "has", "(II)Z"⟩
abbrev cX11_with : ByteArray := prog_1_method_49_code
def yX11_with : MethodName := ⟨RX11, "with", "(II)I"⟩
abbrev cX11_modulo : ByteArray := prog_1_method_50_code
def yX11_modulo : MethodName := ⟨RX11, "modulo", "(II)I"⟩
def RX12 : String := "TaskgraphicModel"
def TX12 : u_T := fun k => match k with
  | 0 => ("TaskgraphicModel", "nodes", "I", false)
  | 1 => ("TaskgraphicModel", "kind", "[I", true)
  | 2 => ("TaskgraphicModel", "one", "[I", true)
  | 3 => ("TaskgraphicModel", "two", "[I", true)
  | 4 => ("TaskgraphicModel", "how", "[I", true)
  | 5 => ("TaskgraphicModel", "low", "[I", true)
  | 6 => ("TaskgraphicModel", "high", "[I", true)
  | 7 => ("TaskgraphicModel", "told", "[I", true)
  | 8 => ("TaskgraphicModel", "bound", "[I", true)
  | 9 => ("TaskgraphicModel", "width", "[I", true)
  | 10 => ("TaskgraphicModel", "puts", "[I", true)
  | 11 => ("TaskgraphicModel", "sourceKey", "[I", true)
  | 12 => ("TaskgraphicModel", "sourceValue", "[I", true)
  | 13 => ("TaskgraphicModel", "isKnown", "Z", false)
  | 14 => ("TaskgraphicModel", "parts", "[I", true)
  | 15 => ("TaskgraphicModel", "begin", "[I", true)
  | 16 => ("TaskgraphicModel", "key", "[I", true)
  | 17 => ("TaskgraphicModel", "value", "[I", true)
  | 18 => ("TaskgraphicModel", "limit", "I", false)
  | 19 => ("TaskgraphicModel", "memory", "I", false)
  | 20 => ("TaskgraphicModel", "workers", "I", false)
  | 21 => ("TaskgraphicModel", "slowness", "[I", true)
  | 22 => ("TaskgraphicModel", "room", "I", false)
  | 23 => ("TaskgraphicModel", "isMarked", "[Z", true)
  | 24 => ("TaskgraphicModel", "isCached", "[Z", true)
  | 25 => ("TaskgraphicModel", "used", "[I", true)
  | 26 => ("TaskgraphicModel", "uses", "I", false)
  | 27 => ("TaskgraphicModel", "isNeeded", "[Z", true)
  | 28 => ("TaskgraphicModel", "isMet", "[Z", true)
  | 29 => ("TaskgraphicModel", "isUsed", "[Z", true)
  | 30 => ("TaskgraphicModel", "ticks", "I", false)
  | 31 => ("TaskgraphicModel", "spilled", "I", false)
  | 32 => ("TaskgraphicModel", "had", "I", false)
  | 33 => ("TaskgraphicModel", "attempts", "I", false)
  | 34 => ("TaskgraphicModel", "node", "[I", true)
  | 35 => ("TaskgraphicModel", "partition", "[I", true)
  | 36 => ("TaskgraphicModel", "worker", "[I", true)
  | 37 => ("TaskgraphicModel", "start", "[I", true)
  | 38 => ("TaskgraphicModel", "end", "[I", true)
  | 39 => ("TaskgraphicModel", "isCopy", "[Z", true)
  | 40 => ("TaskgraphicModel", "work", "[I", true)
  | 41 => ("TaskgraphicModel", "ends", "[I", true)
  | 42 => ("TaskgraphicModel", "hasCopy", "[Z", true)
  | 43 => ("TaskgraphicModel", "idle", "[I", true)
  | _ => ("TaskgraphicModel", "thrown", "I", false)
def tyX12 : Nat → FieldType := fun k => match k with
  | 0 => .int
  | 1 => .array .int
  | 2 => .array .int
  | 3 => .array .int
  | 4 => .array .int
  | 5 => .array .int
  | 6 => .array .int
  | 7 => .array .int
  | 8 => .array .int
  | 9 => .array .int
  | 10 => .array .int
  | 11 => .array .int
  | 12 => .array .int
  | 13 => .boolean
  | 14 => .array .int
  | 15 => .array .int
  | 16 => .array .int
  | 17 => .array .int
  | 18 => .int
  | 19 => .int
  | 20 => .int
  | 21 => .array .int
  | 22 => .int
  | 23 => .array .boolean
  | 24 => .array .boolean
  | 25 => .array .int
  | 26 => .int
  | 27 => .array .boolean
  | 28 => .array .boolean
  | 29 => .array .boolean
  | 30 => .int
  | 31 => .int
  | 32 => .int
  | 33 => .int
  | 34 => .array .int
  | 35 => .array .int
  | 36 => .array .int
  | 37 => .array .int
  | 38 => .array .int
  | 39 => .array .boolean
  | 40 => .array .int
  | 41 => .array .int
  | 42 => .array .boolean
  | 43 => .array .int
  | _ => .int
abbrev wsX120 : List Cond := u_ws RX12 TX12 45
theorem nmX12 : ∀ a, a < 45 → ∀ b, b < 45 → a ≠ b → (TX12 a).2.1 ≠ (TX12 b).2.1 := by decide +kernel
theorem tyX12_ok : ∀ k, k < 45 → parseFieldDescriptor (TX12 k).2.2.1 = some (tyX12 k) := by decide +kernel
abbrev cX12_init : ByteArray := prog_14_method_1_code
def yX12_init : MethodName := ⟨RX12, "<init>", "()V"⟩
abbrev cX12_thrown : ByteArray := prog_14_method_2_code
def yX12_thrown : MethodName := ⟨RX12, "thrown", "()I"⟩
abbrev cX12_fails : ByteArray := prog_14_method_3_code
def yX12_fails : MethodName := ⟨RX12, "fails", "(I)Z"⟩
abbrev cX12_tells : ByteArray := prog_14_method_4_code
def yX12_tells : MethodName := ⟨RX12, "tells", "(I)I"⟩
abbrev cX12_is : ByteArray := prog_14_method_5_code
def yX12_is : MethodName := ⟨RX12, "is", "(I)Z"⟩
abbrev cX12_makes : ByteArray := prog_14_method_6_code
def yX12_makes : MethodName := ⟨RX12, "makes", "(IIIII)I"⟩
abbrev cX12_source : ByteArray := prog_14_method_7_code
def yX12_source : MethodName := ⟨RX12, "source", "(I)I"⟩
abbrev cX12_empties : ByteArray := prog_14_method_8_code
def yX12_empties : MethodName := ⟨RX12, "empties", "()V"⟩
abbrev cX12_put : ByteArray := prog_14_method_9_code
def yX12_put : MethodName := ⟨RX12, "put", "(III)I"⟩
abbrev cX12_map : ByteArray := prog_14_method_10_code
def yX12_map : MethodName := ⟨RX12, "map", "(III)I"⟩
abbrev cX12_filter : ByteArray := prog_14_method_11_code
def yX12_filter : MethodName := ⟨RX12, "filter", "(III)I"⟩
abbrev cX12_union : ByteArray := prog_14_method_12_code
def yX12_union : MethodName := ⟨RX12, "union", "(II)I"⟩
abbrev cX12_group : ByteArray := prog_14_method_13_code
def yX12_group : MethodName := ⟨RX12, "group", "(III)I"⟩
abbrev cX12_join : ByteArray := prog_14_method_14_code
def yX12_join : MethodName := ⟨RX12, "join", "(III)I"⟩
abbrev cX12_nodes : ByteArray := prog_14_method_15_code
def yX12_nodes : MethodName := ⟨RX12, "nodes", "()I"⟩
abbrev cX12_share : ByteArray := prog_14_method_16_code
def yX12_share : MethodName := ⟨RX12, "share", "(II)I"⟩
abbrev cX12_at : ByteArray := prog_14_method_17_code
def yX12_at : MethodName := ⟨RX12, "at", "(II)I"⟩
abbrev cX12_all : ByteArray := prog_14_method_18_code
def yX12_all : MethodName := ⟨RX12, "all", "(I)I"⟩
abbrev cX12_isBroadly : ByteArray := prog_14_method_19_code
def yX12_isBroadly : MethodName := ⟨RX12, "isBroadly", "(I)Z"⟩
abbrev cX12_adds : ByteArray := prog_14_method_20_code
def yX12_adds : MethodName := ⟨RX12, "adds", "(IIII)V"⟩
abbrev cX12_holdsSource : ByteArray := prog_14_method_21_code
def yX12_holdsSource : MethodName := ⟨RX12, "holdsSource", "(I)V"⟩
abbrev cX12_holdsMapped : ByteArray := prog_14_method_22_code
def yX12_holdsMapped : MethodName := ⟨RX12, "holdsMapped", "(I)V"⟩
abbrev cX12_holdsUnion : ByteArray := prog_14_method_23_code
def yX12_holdsUnion : MethodName := ⟨RX12, "holdsUnion", "(I)V"⟩
abbrev cX12_next : ByteArray := prog_14_method_24_code
def yX12_next : MethodName := ⟨RX12, "next", "(IJII)J"⟩
abbrev cX12_grouped : ByteArray := prog_14_method_25_code
def yX12_grouped : MethodName := ⟨RX12, "grouped", "(II)I"⟩
abbrev cX12_joins : ByteArray := prog_14_method_26_code
def yX12_joins : MethodName := ⟨RX12, "joins", "(III)I"⟩
abbrev cX12_holdsShared : ByteArray := prog_14_method_27_code
def yX12_holdsShared : MethodName := ⟨RX12, "holdsShared", "(I)V"⟩
abbrev cX12_holdsBroad : ByteArray := prog_14_method_28_code
def yX12_holdsBroad : MethodName := ⟨RX12, "holdsBroad", "(I)V"⟩
abbrev cX12_knows : ByteArray := prog_14_method_29_code
def yX12_knows : MethodName := ⟨RX12, "knows", "()V"⟩
abbrev cX12_isNoNode : ByteArray := prog_14_method_30_code
def yX12_isNoNode : MethodName := ⟨RX12, "isNoNode", "(I)Z"⟩
abbrev cX12_partitions : ByteArray := prog_14_method_31_code
def yX12_partitions : MethodName := ⟨RX12, "partitions", "(I)I"⟩
abbrev cX12_rowsOf : ByteArray := prog_14_method_32_code
def yX12_rowsOf : MethodName := ⟨RX12, "rowsOf", "(II)I"⟩
abbrev cX12_isPart : ByteArray := prog_14_method_33_code
def yX12_isPart : MethodName := ⟨RX12, "isPart", "(II)Z"⟩
abbrev cX12_rowsIn : ByteArray := prog_14_method_34_code
def yX12_rowsIn : MethodName := ⟨RX12, "rowsIn", "(II)I"⟩
abbrev cX12_rows : ByteArray := prog_14_method_35_code
def yX12_rows : MethodName := ⟨RX12, "rows", "(I)I"⟩
abbrev cX12_ofRow : ByteArray := prog_14_method_36_code
def yX12_ofRow : MethodName := ⟨RX12, "ofRow", "([IIII)I"⟩
abbrev cX12_keyAt : ByteArray := prog_14_method_37_code
def yX12_keyAt : MethodName := ⟨RX12, "keyAt", "(III)I"⟩
abbrev cX12_valueAt : ByteArray := prog_14_method_38_code
def yX12_valueAt : MethodName := ⟨RX12, "valueAt", "(III)I"⟩
abbrev cX12_isBroad : ByteArray := prog_14_method_39_code
def yX12_isBroad : MethodName := ⟨RX12, "isBroad", "(I)Z"⟩
abbrev cX12_digests : ByteArray := prog_14_method_40_code
def yX12_digests : MethodName := ⟨RX12, "digests", "(I)I"⟩
abbrev cX12_digest : ByteArray := prog_14_method_41_code
def yX12_digest : MethodName := ⟨RX12, "digest", "(I)I"⟩
abbrev cX12_digestInPlace : ByteArray := prog_14_method_42_code
def yX12_digestInPlace : MethodName := ⟨RX12, "digestInPlace", "(I)I"⟩
abbrev cX12_setWorkers : ByteArray := prog_14_method_43_code
def yX12_setWorkers : MethodName := ⟨RX12, "setWorkers", "(I)I"⟩
abbrev cX12_setSlowness : ByteArray := prog_14_method_44_code
def yX12_setSlowness : MethodName := ⟨RX12, "setSlowness", "(II)I"⟩
abbrev cX12_setMemory : ByteArray := prog_14_method_45_code
def yX12_setMemory : MethodName := ⟨RX12, "setMemory", "(I)I"⟩
abbrev cX12_setLimit : ByteArray := prog_14_method_46_code
def yX12_setLimit : MethodName := ⟨RX12, "setLimit", "(I)I"⟩
abbrev cX12_cached : ByteArray := prog_14_method_47_code
def yX12_cached : MethodName := ⟨RX12, "cached", "()I"⟩
abbrev cX12_leaves : ByteArray := prog_14_method_48_code
def yX12_leaves : MethodName := ⟨RX12, "leaves", "(I)I"⟩
abbrev cX12_setRoom : ByteArray := prog_14_method_49_code
def yX12_setRoom : MethodName := ⟨RX12, "setRoom", "(I)I"⟩
abbrev cX12_mark : ByteArray := prog_14_method_50_code
def yX12_mark : MethodName := ⟨RX12, "mark", "(IZ)Z"⟩
abbrev cX12_isCached : ByteArray := prog_14_method_51_code
def yX12_isCached : MethodName := ⟨RX12, "isCached", "(I)Z"⟩
abbrev cX12_shared : ByteArray := prog_14_method_52_code
def yX12_shared : MethodName := ⟨RX12, "shared", "(III)I"⟩
abbrev cX12_needs : ByteArray := prog_14_method_53_code
def yX12_needs : MethodName := ⟨RX12, "needs", "(I)V"⟩
abbrev cX12_reads : ByteArray := prog_14_method_54_code
def yX12_reads : MethodName := ⟨RX12, "reads", "(II)I"⟩
abbrev cX12_finds : ByteArray := prog_14_method_55_code
def yX12_finds : MethodName := ⟨RX12, "finds", "(I)I"⟩
abbrev cX12_stages : ByteArray := prog_14_method_56_code
def yX12_stages : MethodName := ⟨RX12, "stages", "(I)I"⟩
abbrev cX12_outputOf : ByteArray := prog_14_method_57_code
def yX12_outputOf : MethodName := ⟨RX12, "outputOf", "(II)I"⟩
abbrev cX12_takes : ByteArray := prog_14_method_58_code
def yX12_takes : MethodName := ⟨RX12, "takes", "(IIIIZ)V"⟩
abbrev cX12_latest : ByteArray := prog_14_method_59_code
def yX12_latest : MethodName := ⟨RX12, "latest", "(II)I"⟩
abbrev cX12_copies : ByteArray := prog_14_method_60_code
def yX12_copies : MethodName := ⟨RX12, "copies", "(IIII)Z"⟩
abbrev cX12_stage : ByteArray := prog_14_method_61_code
def yX12_stage : MethodName := ⟨RX12, "stage", "(II)I"⟩
abbrev cX12_keeps : ByteArray := prog_14_method_62_code
def yX12_keeps : MethodName := ⟨RX12, "keeps", "()V"⟩
abbrev cX12_run : ByteArray := prog_14_method_63_code
def yX12_run : MethodName := ⟨RX12, "run", "(I)I"⟩
abbrev cX12_ticks : ByteArray := prog_14_method_64_code
def yX12_ticks : MethodName := ⟨RX12, "ticks", "()I"⟩
abbrev cX12_spilled : ByteArray := prog_14_method_65_code
def yX12_spilled : MethodName := ⟨RX12, "spilled", "()I"⟩
abbrev cX12_attempts : ByteArray := prog_14_method_66_code
def yX12_attempts : MethodName := ⟨RX12, "attempts", "()I"⟩
abbrev cX12_ofAttempt : ByteArray := prog_14_method_67_code
def yX12_ofAttempt : MethodName := ⟨RX12, "ofAttempt", "([II)I"⟩
abbrev cX12_nodeOf : ByteArray := prog_14_method_68_code
def yX12_nodeOf : MethodName := ⟨RX12, "nodeOf", "(I)I"⟩
abbrev cX12_partitionOf : ByteArray := prog_14_method_69_code
def yX12_partitionOf : MethodName := ⟨RX12, "partitionOf", "(I)I"⟩
abbrev cX12_workerOf : ByteArray := prog_14_method_70_code
def yX12_workerOf : MethodName := ⟨RX12, "workerOf", "(I)I"⟩
abbrev cX12_startOf : ByteArray := prog_14_method_71_code
def yX12_startOf : MethodName := ⟨RX12, "startOf", "(I)I"⟩
abbrev cX12_endOf : ByteArray := prog_14_method_72_code
def yX12_endOf : MethodName := ⟨RX12, "endOf", "(I)I"⟩
abbrev cX12_isCopy : ByteArray := prog_14_method_73_code
def yX12_isCopy : MethodName := ⟨RX12, "isCopy", "(I)Z"⟩
abbrev cX12_share_ : ByteArray := prog_14_method_74_code
def yX12_share_ : MethodName := ⟨RX12, "share", "()F"⟩
def RJx145de : String := "java/io/Serializable"
def TJx145de : u_T := fun k => match k with
  | _ => ("", "", "", false)
def tyJx145de : Nat → FieldType := fun k => match k with
  | _ => .int
abbrev wsJx145de0 : List Cond := u_ws RJx145de TJx145de 0
theorem nmJx145de : ∀ a, a < 0 → ∀ b, b < 0 → a ≠ b → (TJx145de a).2.1 ≠ (TJx145de b).2.1 := by decide +kernel
theorem tyJx145de_ok : ∀ k, k < 0 → parseFieldDescriptor (TJx145de k).2.2.1 = some (tyJx145de k) := by decide +kernel
def RJx8e188 : String := "java/lang/Cloneable"
def TJx8e188 : u_T := fun k => match k with
  | _ => ("", "", "", false)
def tyJx8e188 : Nat → FieldType := fun k => match k with
  | _ => .int
abbrev wsJx8e1880 : List Cond := u_ws RJx8e188 TJx8e188 0
theorem nmJx8e188 : ∀ a, a < 0 → ∀ b, b < 0 → a ≠ b → (TJx8e188 a).2.1 ≠ (TJx8e188 b).2.1 := by decide +kernel
theorem tyJx8e188_ok : ∀ k, k < 0 → parseFieldDescriptor (TJx8e188 k).2.2.1 = some (tyJx8e188 k) := by decide +kernel
def RJx29ce0 : String := "java/lang/Enum"
def TJx29ce0 : u_T := fun k => match k with
  | _ => ("", "", "", false)
def tyJx29ce0 : Nat → FieldType := fun k => match k with
  | _ => .int
abbrev wsJx29ce00 : List Cond := u_ws RJx29ce0 TJx29ce0 0
theorem nmJx29ce0 : ∀ a, a < 0 → ∀ b, b < 0 → a ≠ b → (TJx29ce0 a).2.1 ≠ (TJx29ce0 b).2.1 := by decide +kernel
theorem tyJx29ce0_ok : ∀ k, k < 0 → parseFieldDescriptor (TJx29ce0 k).2.2.1 = some (tyJx29ce0 k) := by decide +kernel
def RJ6 : String := "java/lang/Integer"
def TJ6 : u_T := fun k => match k with
  | _ => ("", "", "", false)
def tyJ6 : Nat → FieldType := fun k => match k with
  | _ => .int
abbrev wsJ60 : List Cond := u_ws RJ6 TJ6 0
theorem nmJ6 : ∀ a, a < 0 → ∀ b, b < 0 → a ≠ b → (TJ6 a).2.1 ≠ (TJ6 b).2.1 := by decide +kernel
theorem tyJ6_ok : ∀ k, k < 0 → parseFieldDescriptor (TJ6 k).2.2.1 = some (tyJ6 k) := by decide +kernel
abbrev cJ6_bitCount_0f7a4 : ByteArray := prog_22_method_49_code
def yJ6_bitCount_0f7a4 : MethodName := ⟨RJ6, "bitCount", "(I)I"⟩
def RJxab1ab : String := "java/lang/Iterable"
def TJxab1ab : u_T := fun k => match k with
  | _ => ("", "", "", false)
def tyJxab1ab : Nat → FieldType := fun k => match k with
  | _ => .int
abbrev wsJxab1ab0 : List Cond := u_ws RJxab1ab TJxab1ab 0
theorem nmJxab1ab : ∀ a, a < 0 → ∀ b, b < 0 → a ≠ b → (TJxab1ab a).2.1 ≠ (TJxab1ab b).2.1 := by decide +kernel
theorem tyJxab1ab_ok : ∀ k, k < 0 → parseFieldDescriptor (TJxab1ab k).2.2.1 = some (tyJxab1ab k) := by decide +kernel
def RJ9 : String := "java/lang/Math"
def TJ9 : u_T := fun k => match k with
  | _ => ("", "", "", false)
def tyJ9 : Nat → FieldType := fun k => match k with
  | _ => .int
abbrev wsJ90 : List Cond := u_ws RJ9 TJ9 0
theorem nmJ9 : ∀ a, a < 0 → ∀ b, b < 0 → a ≠ b → (TJ9 a).2.1 ≠ (TJ9 b).2.1 := by decide +kernel
theorem tyJ9_ok : ∀ k, k < 0 → parseFieldDescriptor (TJ9 k).2.2.1 = some (tyJ9 k) := by decide +kernel
abbrev cJ9_floorMod_7cf53 : ByteArray := prog_24_method_50_code
def yJ9_floorMod_7cf53 : MethodName := ⟨RJ9, "floorMod", "(II)I"⟩
abbrev cJ9_max_7cf53 : ByteArray := prog_24_method_65_code
def yJ9_max_7cf53 : MethodName := ⟨RJ9, "max", "(II)I"⟩
abbrev cJ9_min_7cf53 : ByteArray := prog_24_method_69_code
def yJ9_min_7cf53 : MethodName := ⟨RJ9, "min", "(II)I"⟩
def RJ0 : String := "java/lang/String"
def TJ0 : u_T := fun k => match k with
  | _ => ("", "", "", false)
def tyJ0 : Nat → FieldType := fun k => match k with
  | _ => .int
abbrev wsJ00 : List Cond := u_ws RJ0 TJ0 0
theorem nmJ0 : ∀ a, a < 0 → ∀ b, b < 0 → a ≠ b → (TJ0 a).2.1 ≠ (TJ0 b).2.1 := by decide +kernel
theorem tyJ0_ok : ∀ k, k < 0 → parseFieldDescriptor (TJ0 k).2.2.1 = some (tyJ0 k) := by decide +kernel
def RJ10 : String := "java/lang/System"
def TJ10 : u_T := fun k => match k with
  | _ => ("", "", "", false)
def tyJ10 : Nat → FieldType := fun k => match k with
  | _ => .int
abbrev wsJ100 : List Cond := u_ws RJ10 TJ10 0
theorem nmJ10 : ∀ a, a < 0 → ∀ b, b < 0 → a ≠ b → (TJ10 a).2.1 ≠ (TJ10 b).2.1 := by decide +kernel
theorem tyJ10_ok : ∀ k, k < 0 → parseFieldDescriptor (TJ10 k).2.2.1 = some (tyJ10 k) := by decide +kernel
def RJxa1e45 : String := "java/util/AbstractCollection"
def TJxa1e45 : u_T := fun k => match k with
  | _ => ("", "", "", false)
def tyJxa1e45 : Nat → FieldType := fun k => match k with
  | _ => .int
abbrev wsJxa1e450 : List Cond := u_ws RJxa1e45 TJxa1e45 0
theorem nmJxa1e45 : ∀ a, a < 0 → ∀ b, b < 0 → a ≠ b → (TJxa1e45 a).2.1 ≠ (TJxa1e45 b).2.1 := by decide +kernel
theorem tyJxa1e45_ok : ∀ k, k < 0 → parseFieldDescriptor (TJxa1e45 k).2.2.1 = some (tyJxa1e45 k) := by decide +kernel
abbrev cJxa1e45_init_da8c8 : ByteArray := prog_29_method_1_code
def yJxa1e45_init_da8c8 : MethodName := ⟨RJxa1e45, "<init>", "()V"⟩
def RJxc12de : String := "java/util/AbstractList"
def TJxc12de : u_T := fun k => match k with
  | _ => ("", "", "", false)
def tyJxc12de : Nat → FieldType := fun k => match k with
  | _ => .int
abbrev wsJxc12de0 : List Cond := u_ws RJxc12de TJxc12de 0
theorem nmJxc12de : ∀ a, a < 0 → ∀ b, b < 0 → a ≠ b → (TJxc12de a).2.1 ≠ (TJxc12de b).2.1 := by decide +kernel
theorem tyJxc12de_ok : ∀ k, k < 0 → parseFieldDescriptor (TJxc12de k).2.2.1 = some (tyJxc12de k) := by decide +kernel
abbrev cJxc12de_init_da8c8 : ByteArray := prog_30_method_1_code
def yJxc12de_init_da8c8 : MethodName := ⟨RJxc12de, "<init>", "()V"⟩
def RJx4a65c : String := "java/util/ArrayList"
def TJx4a65c : u_T := fun k => match k with
  | 0 => ("java/util/AbstractList", "modCount", "I", false)
  | 1 => ("java/util/ArrayList", "elementData", "[Ljava/lang/Object;", false)
  | _ => ("java/util/ArrayList", "size", "I", false)
def tyJx4a65c : Nat → FieldType := fun k => match k with
  | 0 => .int
  | 1 => .array (.object "java/lang/Object")
  | _ => .int
abbrev wsJx4a65c0 : List Cond := u_ws RJx4a65c TJx4a65c 3
theorem nmJx4a65c : ∀ a, a < 3 → ∀ b, b < 3 → a ≠ b → (TJx4a65c a).2.1 ≠ (TJx4a65c b).2.1 := by decide +kernel
theorem tyJx4a65c_ok : ∀ k, k < 3 → parseFieldDescriptor (TJx4a65c k).2.2.1 = some (tyJx4a65c k) := by decide +kernel
abbrev cJx4a65c_init_da8c8 : ByteArray := prog_31_method_2_code
def yJx4a65c_init_da8c8 : MethodName := ⟨RJx4a65c, "<init>", "()V"⟩
abbrev cJx4a65c_grow_92f84 : ByteArray := prog_31_method_6_code
def yJx4a65c_grow_92f84 : MethodName := ⟨RJx4a65c, "grow", "(I)[Ljava/lang/Object;"⟩
abbrev cJx4a65c_grow_d5877 : ByteArray := prog_31_method_7_code
def yJx4a65c_grow_d5877 : MethodName := ⟨RJx4a65c, "grow", "()[Ljava/lang/Object;"⟩
abbrev cJx4a65c_size_8abf5 : ByteArray := prog_31_method_8_code
def yJx4a65c_size_8abf5 : MethodName := ⟨RJx4a65c, "size", "()I"⟩
abbrev cJx4a65c_elementData_915e3 : ByteArray := prog_31_method_18_code
def yJx4a65c_elementData_915e3 : MethodName := ⟨RJx4a65c, "elementData", "(I)Ljava/lang/Object;"⟩
abbrev cJx4a65c_get_915e3 : ByteArray := prog_31_method_20_code
def yJx4a65c_get_915e3 : MethodName := ⟨RJx4a65c, "get", "(I)Ljava/lang/Object;"⟩
abbrev cJx4a65c_add_72be8 : ByteArray := prog_31_method_24_code
def yJx4a65c_add_72be8 : MethodName := ⟨RJx4a65c, "add", "(Ljava/lang/Object;[Ljava/lang/Object;I)V"⟩
abbrev cJx4a65c_add_9ea2d : ByteArray := prog_31_method_25_code
def yJx4a65c_add_9ea2d : MethodName := ⟨RJx4a65c, "add", "(Ljava/lang/Object;)Z"⟩
def RJ7 : String := "java/util/Arrays"
def TJ7 : u_T := fun k => match k with
  | _ => ("", "", "", false)
def tyJ7 : Nat → FieldType := fun k => match k with
  | _ => .int
abbrev wsJ70 : List Cond := u_ws RJ7 TJ7 0
theorem nmJ7 : ∀ a, a < 0 → ∀ b, b < 0 → a ≠ b → (TJ7 a).2.1 ≠ (TJ7 b).2.1 := by decide +kernel
theorem tyJ7_ok : ∀ k, k < 0 → parseFieldDescriptor (TJ7 k).2.2.1 = some (tyJ7 k) := by decide +kernel
abbrev cJ7_copyOf_1904c : ByteArray := prog_32_method_119_code
def yJ7_copyOf_1904c : MethodName := ⟨RJ7, "copyOf", "([Ljava/lang/Object;I)[Ljava/lang/Object;"⟩
abbrev cJ7_copyOf_6403c : ByteArray := prog_32_method_120_code
def yJ7_copyOf_6403c : MethodName := ⟨RJ7, "copyOf", "([Ljava/lang/Object;ILjava/lang/Class;)[Ljava/lang/Object;"⟩
def RJx5ef63 : String := "java/util/Collection"
def TJx5ef63 : u_T := fun k => match k with
  | _ => ("", "", "", false)
def tyJx5ef63 : Nat → FieldType := fun k => match k with
  | _ => .int
abbrev wsJx5ef630 : List Cond := u_ws RJx5ef63 TJx5ef63 0
theorem nmJx5ef63 : ∀ a, a < 0 → ∀ b, b < 0 → a ≠ b → (TJx5ef63 a).2.1 ≠ (TJx5ef63 b).2.1 := by decide +kernel
theorem tyJx5ef63_ok : ∀ k, k < 0 → parseFieldDescriptor (TJx5ef63 k).2.2.1 = some (tyJx5ef63 k) := by decide +kernel
def RJxbd725 : String := "java/util/List"
def TJxbd725 : u_T := fun k => match k with
  | _ => ("", "", "", false)
def tyJxbd725 : Nat → FieldType := fun k => match k with
  | _ => .int
abbrev wsJxbd7250 : List Cond := u_ws RJxbd725 TJxbd725 0
theorem nmJxbd725 : ∀ a, a < 0 → ∀ b, b < 0 → a ≠ b → (TJxbd725 a).2.1 ≠ (TJxbd725 b).2.1 := by decide +kernel
theorem tyJxbd725_ok : ∀ k, k < 0 → parseFieldDescriptor (TJxbd725 k).2.2.1 = some (tyJxbd725 k) := by decide +kernel
def RJ15 : String := "java/util/Objects"
def TJ15 : u_T := fun k => match k with
  | _ => ("", "", "", false)
def tyJ15 : Nat → FieldType := fun k => match k with
  | _ => .int
abbrev wsJ150 : List Cond := u_ws RJ15 TJ15 0
theorem nmJ15 : ∀ a, a < 0 → ∀ b, b < 0 → a ≠ b → (TJ15 a).2.1 ≠ (TJ15 b).2.1 := by decide +kernel
theorem tyJ15_ok : ∀ k, k < 0 → parseFieldDescriptor (TJ15 k).2.2.1 = some (tyJ15 k) := by decide +kernel
abbrev cJ15_checkIndex_7cf53 : ByteArray := prog_35_method_17_code
def yJ15_checkIndex_7cf53 : MethodName := ⟨RJ15, "checkIndex", "(II)I"⟩
def RJxf0a74 : String := "java/util/RandomAccess"
def TJxf0a74 : u_T := fun k => match k with
  | _ => ("", "", "", false)
def tyJxf0a74 : Nat → FieldType := fun k => match k with
  | _ => .int
abbrev wsJxf0a740 : List Cond := u_ws RJxf0a74 TJxf0a74 0
theorem nmJxf0a74 : ∀ a, a < 0 → ∀ b, b < 0 → a ≠ b → (TJxf0a74 a).2.1 ≠ (TJxf0a74 b).2.1 := by decide +kernel
theorem tyJxf0a74_ok : ∀ k, k < 0 → parseFieldDescriptor (TJxf0a74 k).2.2.1 = some (tyJxf0a74 k) := by decide +kernel
def RJxa66e6 : String := "java/util/SequencedCollection"
def TJxa66e6 : u_T := fun k => match k with
  | _ => ("", "", "", false)
def tyJxa66e6 : Nat → FieldType := fun k => match k with
  | _ => .int
abbrev wsJxa66e60 : List Cond := u_ws RJxa66e6 TJxa66e6 0
theorem nmJxa66e6 : ∀ a, a < 0 → ∀ b, b < 0 → a ≠ b → (TJxa66e6 a).2.1 ≠ (TJxa66e6 b).2.1 := by decide +kernel
theorem tyJxa66e6_ok : ∀ k, k < 0 → parseFieldDescriptor (TJxa66e6 k).2.2.1 = some (tyJxa66e6 k) := by decide +kernel
def RJ8 : String := "jdk/internal/util/ArraysSupport"
def TJ8 : u_T := fun k => match k with
  | _ => ("", "", "", false)
def tyJ8 : Nat → FieldType := fun k => match k with
  | _ => .int
abbrev wsJ80 : List Cond := u_ws RJ8 TJ8 0
theorem nmJ8 : ∀ a, a < 0 → ∀ b, b < 0 → a ≠ b → (TJ8 a).2.1 ≠ (TJ8 b).2.1 := by decide +kernel
theorem tyJ8_ok : ∀ k, k < 0 → parseFieldDescriptor (TJ8 k).2.2.1 = some (tyJ8 k) := by decide +kernel
abbrev cJ8_newLength_cabcc : ByteArray := prog_38_method_27_code
def yJ8_newLength_cabcc : MethodName := ⟨RJ8, "newLength", "(III)I"⟩
abbrev cJ8_hugeLength_7cf53 : ByteArray := prog_38_method_28_code
def yJ8_hugeLength_7cf53 : MethodName := ⟨RJ8, "hugeLength", "(II)I"⟩
def RJ3 : String := "jdk/internal/util/Preconditions"
def TJ3 : u_T := fun k => match k with
  | _ => ("", "", "", false)
def tyJ3 : Nat → FieldType := fun k => match k with
  | _ => .int
abbrev wsJ30 : List Cond := u_ws RJ3 TJ3 0
theorem nmJ3 : ∀ a, a < 0 → ∀ b, b < 0 → a ≠ b → (TJ3 a).2.1 ≠ (TJ3 b).2.1 := by decide +kernel
theorem tyJ3_ok : ∀ k, k < 0 → parseFieldDescriptor (TJ3 k).2.2.1 = some (tyJ3 k) := by decide +kernel
abbrev cJ3_checkIndex_8e157 : ByteArray := prog_39_method_11_code
def yJ3_checkIndex_8e157 : MethodName := ⟨RJ3, "checkIndex", "(IILjava/util/function/BiFunction;)I"⟩
def RL : String := "TaskgraphicLaw"
abbrev cL_source : ByteArray := method_3_code
def yL_source : MethodName := ⟨RL, "source", "(LTaskgraphic;I[J)I"⟩
abbrev cL_put : ByteArray := method_4_code
def yL_put : MethodName := ⟨RL, "put", "(LTaskgraphic;III[J)I"⟩
abbrev cL_map : ByteArray := method_5_code
def yL_map : MethodName := ⟨RL, "map", "(LTaskgraphic;III[J)I"⟩
abbrev cL_filter : ByteArray := method_6_code
def yL_filter : MethodName := ⟨RL, "filter", "(LTaskgraphic;III[J)I"⟩
abbrev cL_union : ByteArray := method_7_code
def yL_union : MethodName := ⟨RL, "union", "(LTaskgraphic;II[J)I"⟩
abbrev cL_group : ByteArray := method_8_code
def yL_group : MethodName := ⟨RL, "group", "(LTaskgraphic;III[J)I"⟩
abbrev cL_join : ByteArray := method_9_code
def yL_join : MethodName := ⟨RL, "join", "(LTaskgraphic;III[J)I"⟩
abbrev cL_partitions : ByteArray := method_10_code
def yL_partitions : MethodName := ⟨RL, "partitions", "(LTaskgraphic;I[J)I"⟩
abbrev cL_rowsIn : ByteArray := method_11_code
def yL_rowsIn : MethodName := ⟨RL, "rowsIn", "(LTaskgraphic;II[J)I"⟩
abbrev cL_rows : ByteArray := method_12_code
def yL_rows : MethodName := ⟨RL, "rows", "(LTaskgraphic;I[J)I"⟩
abbrev cL_keyAt : ByteArray := method_13_code
def yL_keyAt : MethodName := ⟨RL, "keyAt", "(LTaskgraphic;III[J)I"⟩
abbrev cL_valueAt : ByteArray := method_14_code
def yL_valueAt : MethodName := ⟨RL, "valueAt", "(LTaskgraphic;III[J)I"⟩
abbrev cL_isBroad : ByteArray := method_15_code
def yL_isBroad : MethodName := ⟨RL, "isBroad", "(LTaskgraphic;I[J)I"⟩
abbrev cL_digest : ByteArray := method_16_code
def yL_digest : MethodName := ⟨RL, "digest", "(LTaskgraphic;I[J)I"⟩
abbrev cL_digestInPlace : ByteArray := method_17_code
def yL_digestInPlace : MethodName := ⟨RL, "digestInPlace", "(LTaskgraphic;I[J)I"⟩
abbrev cL_setWorkers : ByteArray := method_18_code
def yL_setWorkers : MethodName := ⟨RL, "setWorkers", "(LTaskgraphic;I[J)I"⟩
abbrev cL_setSlowness : ByteArray := method_19_code
def yL_setSlowness : MethodName := ⟨RL, "setSlowness", "(LTaskgraphic;II[J)I"⟩
abbrev cL_setMemory : ByteArray := method_20_code
def yL_setMemory : MethodName := ⟨RL, "setMemory", "(LTaskgraphic;I[J)I"⟩
abbrev cL_setLimit : ByteArray := method_21_code
def yL_setLimit : MethodName := ⟨RL, "setLimit", "(LTaskgraphic;I[J)I"⟩
abbrev cL_setRoom : ByteArray := method_22_code
def yL_setRoom : MethodName := ⟨RL, "setRoom", "(LTaskgraphic;I[J)I"⟩
abbrev cL_mark : ByteArray := method_23_code
def yL_mark : MethodName := ⟨RL, "mark", "(LTaskgraphic;IZ[J)I"⟩
abbrev cL_isCached : ByteArray := method_24_code
def yL_isCached : MethodName := ⟨RL, "isCached", "(LTaskgraphic;I[J)I"⟩
abbrev cL_stages : ByteArray := method_25_code
def yL_stages : MethodName := ⟨RL, "stages", "(LTaskgraphic;I[J)I"⟩
abbrev cL_outputOf : ByteArray := method_26_code
def yL_outputOf : MethodName := ⟨RL, "outputOf", "(LTaskgraphic;II[J)I"⟩
abbrev cL_run : ByteArray := method_27_code
def yL_run : MethodName := ⟨RL, "run", "(LTaskgraphic;I[J)I"⟩
abbrev cL_nodeOf : ByteArray := method_28_code
def yL_nodeOf : MethodName := ⟨RL, "nodeOf", "(LTaskgraphic;I[J)I"⟩
abbrev cL_partitionOf : ByteArray := method_29_code
def yL_partitionOf : MethodName := ⟨RL, "partitionOf", "(LTaskgraphic;I[J)I"⟩
abbrev cL_workerOf : ByteArray := method_30_code
def yL_workerOf : MethodName := ⟨RL, "workerOf", "(LTaskgraphic;I[J)I"⟩
abbrev cL_startOf : ByteArray := method_31_code
def yL_startOf : MethodName := ⟨RL, "startOf", "(LTaskgraphic;I[J)I"⟩
abbrev cL_endOf : ByteArray := method_32_code
def yL_endOf : MethodName := ⟨RL, "endOf", "(LTaskgraphic;I[J)I"⟩
abbrev cL_isCopy : ByteArray := method_33_code
def yL_isCopy : MethodName := ⟨RL, "isCopy", "(LTaskgraphic;I[J)I"⟩
abbrev cL_law : ByteArray := code
def yL_law : MethodName := ⟨RL, "law", "([I)Z"⟩
abbrev vwCl : List vw_C := [(RJx4a65c, TJx4a65c, 3), (RX0, TX0, 6), (RX1, TX1, 4), (RX2, TX2, 3), (RX3, TX3, 6), (RX4, TX4, 1), (RX6, TX6, 10), (RX7, TX7, 13), (RX8, TX8, 7), (RX9, TX9, 6), (RX10, TX10, 7), (RX11, TX11, 9), (RX12, TX12, 45)]
end
section
theorem dX0_init_0 : decode cX0_init 0 = .ok (.aload_n 0, 1) := by decide +kernel
theorem dX0_init_1 : decode cX0_init 1 = .ok (.invokespecial 3, 3) := by decide +kernel
theorem dX0_init_4 : decode cX0_init 4 = .ok (.aload_n 0, 1) := by decide +kernel
theorem dX0_init_5 : decode cX0_init 5 = .ok (.new 9, 3) := by decide +kernel
theorem dX0_init_8 : decode cX0_init 8 = .ok (.dup, 1) := by decide +kernel
theorem dX0_init_9 : decode cX0_init 9 = .ok (.bipush 14, 2) := by decide +kernel
theorem dX0_init_11 : decode cX0_init 11 = .ok (.invokespecial 11, 3) := by decide +kernel
theorem dX0_init_14 : decode cX0_init 14 = .ok (.putfield 14, 3) := by decide +kernel
theorem dX0_init_17 : decode cX0_init 17 = .ok (.aload_n 0, 1) := by decide +kernel
theorem dX0_init_18 : decode cX0_init 18 = .ok (.new 9, 3) := by decide +kernel
theorem dX0_init_21 : decode cX0_init 21 = .ok (.dup, 1) := by decide +kernel
theorem dX0_init_22 : decode cX0_init 22 = .ok (.bipush 14, 2) := by decide +kernel
theorem dX0_init_24 : decode cX0_init 24 = .ok (.invokespecial 11, 3) := by decide +kernel
theorem dX0_init_27 : decode cX0_init 27 = .ok (.putfield 20, 3) := by decide +kernel
theorem dX0_init_30 : decode cX0_init 30 = .ok (.return_, 1) := by decide +kernel
theorem dX0_holds_0 : decode cX0_holds 0 = .ok (.aload_n 0, 1) := by decide +kernel
theorem dX0_holds_1 : decode cX0_holds 1 = .ok (.getfield 23, 3) := by decide +kernel
theorem dX0_holds_4 : decode cX0_holds 4 = .ok (.iload_n 1, 1) := by decide +kernel
theorem dX0_holds_5 : decode cX0_holds 5 = .ok (.invokestatic 27, 3) := by decide +kernel
theorem dX0_holds_8 : decode cX0_holds 8 = .ok (.ireturn, 1) := by decide +kernel
theorem dX0_empty_0 : decode cX0_empty 0 = .ok (.aload_n 0, 1) := by decide +kernel
theorem dX0_empty_1 : decode cX0_empty 1 = .ok (.iconst 0, 1) := by decide +kernel
theorem dX0_empty_2 : decode cX0_empty 2 = .ok (.putfield 31, 3) := by decide +kernel
theorem dX0_empty_5 : decode cX0_empty 5 = .ok (.aload_n 0, 1) := by decide +kernel
theorem dX0_empty_6 : decode cX0_empty 6 = .ok (.iconst 0, 1) := by decide +kernel
theorem dX0_empty_7 : decode cX0_empty 7 = .ok (.putfield 23, 3) := by decide +kernel
theorem dX0_empty_10 : decode cX0_empty 10 = .ok (.aload_n 0, 1) := by decide +kernel
theorem dX0_empty_11 : decode cX0_empty 11 = .ok (.iconst 0, 1) := by decide +kernel
theorem dX0_empty_12 : decode cX0_empty 12 = .ok (.putfield 34, 3) := by decide +kernel
theorem dX0_empty_15 : decode cX0_empty 15 = .ok (.return_, 1) := by decide +kernel
theorem dX0_makeLatest_0 : decode cX0_makeLatest 0 = .ok (.iconst 0, 1) := by decide +kernel
theorem dX0_makeLatest_1 : decode cX0_makeLatest 1 = .ok (.istore_n 2, 1) := by decide +kernel
theorem dX0_makeLatest_2 : decode cX0_makeLatest 2 = .ok (.iload_n 2, 1) := by decide +kernel
theorem dX0_makeLatest_3 : decode cX0_makeLatest 3 = .ok (.aload_n 0, 1) := by decide +kernel
theorem dX0_makeLatest_4 : decode cX0_makeLatest 4 = .ok (.getfield 31, 3) := by decide +kernel
theorem dX0_makeLatest_7 : decode cX0_makeLatest 7 = .ok (.if_icmp .ge 42, 3) := by decide +kernel
theorem dX0_makeLatest_10 : decode cX0_makeLatest 10 = .ok (.aload_n 0, 1) := by decide +kernel
theorem dX0_makeLatest_11 : decode cX0_makeLatest 11 = .ok (.getfield 14, 3) := by decide +kernel
theorem dX0_makeLatest_14 : decode cX0_makeLatest 14 = .ok (.iload_n 2, 1) := by decide +kernel
theorem dX0_makeLatest_15 : decode cX0_makeLatest 15 = .ok (.invokevirtual 37, 3) := by decide +kernel
theorem dX0_makeLatest_18 : decode cX0_makeLatest 18 = .ok (.iload_n 1, 1) := by decide +kernel
theorem dX0_makeLatest_19 : decode cX0_makeLatest 19 = .ok (.if_icmp .ne 24, 3) := by decide +kernel
theorem dX0_makeLatest_22 : decode cX0_makeLatest 22 = .ok (.aload_n 0, 1) := by decide +kernel
theorem dX0_makeLatest_23 : decode cX0_makeLatest 23 = .ok (.getfield 20, 3) := by decide +kernel
theorem dX0_makeLatest_26 : decode cX0_makeLatest 26 = .ok (.iload_n 2, 1) := by decide +kernel
theorem dX0_makeLatest_27 : decode cX0_makeLatest 27 = .ok (.invokevirtual 37, 3) := by decide +kernel
theorem dX0_makeLatest_30 : decode cX0_makeLatest 30 = .ok (.istore_n 3, 1) := by decide +kernel
theorem dX0_makeLatest_31 : decode cX0_makeLatest 31 = .ok (.aload_n 0, 1) := by decide +kernel
theorem dX0_makeLatest_32 : decode cX0_makeLatest 32 = .ok (.iload_n 2, 1) := by decide +kernel
theorem dX0_makeLatest_33 : decode cX0_makeLatest 33 = .ok (.invokevirtual 41, 3) := by decide +kernel
theorem dX0_makeLatest_36 : decode cX0_makeLatest 36 = .ok (.aload_n 0, 1) := by decide +kernel
theorem dX0_makeLatest_37 : decode cX0_makeLatest 37 = .ok (.iload_n 1, 1) := by decide +kernel
theorem dX0_makeLatest_38 : decode cX0_makeLatest 38 = .ok (.iload_n 3, 1) := by decide +kernel
theorem dX0_makeLatest_39 : decode cX0_makeLatest 39 = .ok (.invokevirtual 44, 3) := by decide +kernel
theorem dX0_makeLatest_42 : decode cX0_makeLatest 42 = .ok (.return_, 1) := by decide +kernel
theorem dX0_makeLatest_43 : decode cX0_makeLatest 43 = .ok (.iinc 2 1, 3) := by decide +kernel
theorem dX0_makeLatest_46 : decode cX0_makeLatest 46 = .ok (.goto (-44), 3) := by decide +kernel
theorem dX0_makeLatest_49 : decode cX0_makeLatest 49 = .ok (.return_, 1) := by decide +kernel
theorem dX0_enter_0 : decode cX0_enter 0 = .ok (.iload_n 2, 1) := by decide +kernel
theorem dX0_enter_1 : decode cX0_enter 1 = .ok (.aload_n 0, 1) := by decide +kernel
theorem dX0_enter_2 : decode cX0_enter 2 = .ok (.getfield 48, 3) := by decide +kernel
theorem dX0_enter_5 : decode cX0_enter 5 = .ok (.if_icmp .gt 15, 3) := by decide +kernel
theorem dX0_enter_8 : decode cX0_enter 8 = .ok (.aload_n 0, 1) := by decide +kernel
theorem dX0_enter_9 : decode cX0_enter 9 = .ok (.iload_n 2, 1) := by decide +kernel
theorem dX0_enter_10 : decode cX0_enter 10 = .ok (.invokevirtual 51, 3) := by decide +kernel
theorem dX0_enter_13 : decode cX0_enter 13 = .ok (.pop, 1) := by decide +kernel
theorem dX0_enter_14 : decode cX0_enter 14 = .ok (.aload_n 0, 1) := by decide +kernel
theorem dX0_enter_15 : decode cX0_enter 15 = .ok (.iload_n 1, 1) := by decide +kernel
theorem dX0_enter_16 : decode cX0_enter 16 = .ok (.iload_n 2, 1) := by decide +kernel
theorem dX0_enter_17 : decode cX0_enter 17 = .ok (.invokevirtual 44, 3) := by decide +kernel
theorem dX0_enter_20 : decode cX0_enter 20 = .ok (.return_, 1) := by decide +kernel
theorem dX0_makeRoomFor_0 : decode cX0_makeRoomFor 0 = .ok (.iconst 0, 1) := by decide +kernel
theorem dX0_makeRoomFor_1 : decode cX0_makeRoomFor 1 = .ok (.istore_n 2, 1) := by decide +kernel
theorem dX0_makeRoomFor_2 : decode cX0_makeRoomFor 2 = .ok (.iconst 0, 1) := by decide +kernel
theorem dX0_makeRoomFor_3 : decode cX0_makeRoomFor 3 = .ok (.istore_n 3, 1) := by decide +kernel
theorem dX0_makeRoomFor_4 : decode cX0_makeRoomFor 4 = .ok (.iload_n 3, 1) := by decide +kernel
theorem dX0_makeRoomFor_5 : decode cX0_makeRoomFor 5 = .ok (.bipush 14, 2) := by decide +kernel
theorem dX0_makeRoomFor_7 : decode cX0_makeRoomFor 7 = .ok (.if_icmp .ge 37, 3) := by decide +kernel
theorem dX0_makeRoomFor_10 : decode cX0_makeRoomFor 10 = .ok (.aload_n 0, 1) := by decide +kernel
theorem dX0_makeRoomFor_11 : decode cX0_makeRoomFor 11 = .ok (.getfield 31, 3) := by decide +kernel
theorem dX0_makeRoomFor_14 : decode cX0_makeRoomFor 14 = .ok (.ifCond .le 30, 3) := by decide +kernel
theorem dX0_makeRoomFor_17 : decode cX0_makeRoomFor 17 = .ok (.aload_n 0, 1) := by decide +kernel
theorem dX0_makeRoomFor_18 : decode cX0_makeRoomFor 18 = .ok (.getfield 34, 3) := by decide +kernel
theorem dX0_makeRoomFor_21 : decode cX0_makeRoomFor 21 = .ok (.iload_n 1, 1) := by decide +kernel
theorem dX0_makeRoomFor_22 : decode cX0_makeRoomFor 22 = .ok (.iadd, 1) := by decide +kernel
theorem dX0_makeRoomFor_23 : decode cX0_makeRoomFor 23 = .ok (.aload_n 0, 1) := by decide +kernel
theorem dX0_makeRoomFor_24 : decode cX0_makeRoomFor 24 = .ok (.getfield 48, 3) := by decide +kernel
theorem dX0_makeRoomFor_27 : decode cX0_makeRoomFor 27 = .ok (.if_icmp .le 17, 3) := by decide +kernel
theorem dX0_makeRoomFor_30 : decode cX0_makeRoomFor 30 = .ok (.aload_n 0, 1) := by decide +kernel
theorem dX0_makeRoomFor_31 : decode cX0_makeRoomFor 31 = .ok (.iconst 0, 1) := by decide +kernel
theorem dX0_makeRoomFor_32 : decode cX0_makeRoomFor 32 = .ok (.invokevirtual 41, 3) := by decide +kernel
theorem dX0_makeRoomFor_35 : decode cX0_makeRoomFor 35 = .ok (.iinc 2 1, 3) := by decide +kernel
theorem dX0_makeRoomFor_38 : decode cX0_makeRoomFor 38 = .ok (.iinc 3 1, 3) := by decide +kernel
theorem dX0_makeRoomFor_41 : decode cX0_makeRoomFor 41 = .ok (.goto (-37), 3) := by decide +kernel
theorem dX0_makeRoomFor_44 : decode cX0_makeRoomFor 44 = .ok (.iload_n 2, 1) := by decide +kernel
theorem dX0_makeRoomFor_45 : decode cX0_makeRoomFor 45 = .ok (.ireturn, 1) := by decide +kernel
theorem dX0_append_0 : decode cX0_append 0 = .ok (.aload_n 0, 1) := by decide +kernel
theorem dX0_append_1 : decode cX0_append 1 = .ok (.getfield 14, 3) := by decide +kernel
theorem dX0_append_4 : decode cX0_append 4 = .ok (.aload_n 0, 1) := by decide +kernel
theorem dX0_append_5 : decode cX0_append 5 = .ok (.getfield 31, 3) := by decide +kernel
theorem dX0_append_8 : decode cX0_append 8 = .ok (.iload_n 1, 1) := by decide +kernel
theorem dX0_append_9 : decode cX0_append 9 = .ok (.invokevirtual 54, 3) := by decide +kernel
theorem dX0_append_12 : decode cX0_append 12 = .ok (.aload_n 0, 1) := by decide +kernel
theorem dX0_append_13 : decode cX0_append 13 = .ok (.getfield 20, 3) := by decide +kernel
theorem dX0_append_16 : decode cX0_append 16 = .ok (.aload_n 0, 1) := by decide +kernel
theorem dX0_append_17 : decode cX0_append 17 = .ok (.getfield 31, 3) := by decide +kernel
theorem dX0_append_20 : decode cX0_append 20 = .ok (.iload_n 2, 1) := by decide +kernel
theorem dX0_append_21 : decode cX0_append 21 = .ok (.invokevirtual 54, 3) := by decide +kernel
theorem dX0_append_24 : decode cX0_append 24 = .ok (.aload_n 0, 1) := by decide +kernel
theorem dX0_append_25 : decode cX0_append 25 = .ok (.aload_n 0, 1) := by decide +kernel
theorem dX0_append_26 : decode cX0_append 26 = .ok (.getfield 23, 3) := by decide +kernel
theorem dX0_append_29 : decode cX0_append 29 = .ok (.iload_n 1, 1) := by decide +kernel
theorem dX0_append_30 : decode cX0_append 30 = .ok (.invokestatic 57, 3) := by decide +kernel
theorem dX0_append_33 : decode cX0_append 33 = .ok (.putfield 23, 3) := by decide +kernel
theorem dX0_append_36 : decode cX0_append 36 = .ok (.aload_n 0, 1) := by decide +kernel
theorem dX0_append_37 : decode cX0_append 37 = .ok (.dup, 1) := by decide +kernel
theorem dX0_append_38 : decode cX0_append 38 = .ok (.getfield 34, 3) := by decide +kernel
theorem dX0_append_41 : decode cX0_append 41 = .ok (.iload_n 2, 1) := by decide +kernel
theorem dX0_append_42 : decode cX0_append 42 = .ok (.iadd, 1) := by decide +kernel
theorem dX0_append_43 : decode cX0_append 43 = .ok (.putfield 34, 3) := by decide +kernel
theorem dX0_append_46 : decode cX0_append 46 = .ok (.aload_n 0, 1) := by decide +kernel
theorem dX0_append_47 : decode cX0_append 47 = .ok (.dup, 1) := by decide +kernel
theorem dX0_append_48 : decode cX0_append 48 = .ok (.getfield 31, 3) := by decide +kernel
theorem dX0_append_51 : decode cX0_append 51 = .ok (.iconst 1, 1) := by decide +kernel
theorem dX0_append_52 : decode cX0_append 52 = .ok (.iadd, 1) := by decide +kernel
theorem dX0_append_53 : decode cX0_append 53 = .ok (.putfield 31, 3) := by decide +kernel
theorem dX0_append_56 : decode cX0_append 56 = .ok (.return_, 1) := by decide +kernel
theorem dX0_remove_0 : decode cX0_remove 0 = .ok (.aload_n 0, 1) := by decide +kernel
theorem dX0_remove_1 : decode cX0_remove 1 = .ok (.dup, 1) := by decide +kernel
theorem dX0_remove_2 : decode cX0_remove 2 = .ok (.getfield 23, 3) := by decide +kernel
theorem dX0_remove_5 : decode cX0_remove 5 = .ok (.iconst 0, 1) := by decide +kernel
theorem dX0_remove_6 : decode cX0_remove 6 = .ok (.aload_n 0, 1) := by decide +kernel
theorem dX0_remove_7 : decode cX0_remove 7 = .ok (.getfield 14, 3) := by decide +kernel
theorem dX0_remove_10 : decode cX0_remove 10 = .ok (.iload_n 1, 1) := by decide +kernel
theorem dX0_remove_11 : decode cX0_remove 11 = .ok (.invokevirtual 37, 3) := by decide +kernel
theorem dX0_remove_14 : decode cX0_remove 14 = .ok (.invokestatic 57, 3) := by decide +kernel
theorem dX0_remove_17 : decode cX0_remove 17 = .ok (.iconst (-1), 1) := by decide +kernel
theorem dX0_remove_18 : decode cX0_remove 18 = .ok (.ixor, 1) := by decide +kernel
theorem dX0_remove_19 : decode cX0_remove 19 = .ok (.iand, 1) := by decide +kernel
theorem dX0_remove_20 : decode cX0_remove 20 = .ok (.putfield 23, 3) := by decide +kernel
theorem dX0_remove_23 : decode cX0_remove 23 = .ok (.aload_n 0, 1) := by decide +kernel
theorem dX0_remove_24 : decode cX0_remove 24 = .ok (.dup, 1) := by decide +kernel
theorem dX0_remove_25 : decode cX0_remove 25 = .ok (.getfield 34, 3) := by decide +kernel
theorem dX0_remove_28 : decode cX0_remove 28 = .ok (.aload_n 0, 1) := by decide +kernel
theorem dX0_remove_29 : decode cX0_remove 29 = .ok (.getfield 20, 3) := by decide +kernel
theorem dX0_remove_32 : decode cX0_remove 32 = .ok (.iload_n 1, 1) := by decide +kernel
theorem dX0_remove_33 : decode cX0_remove 33 = .ok (.invokevirtual 37, 3) := by decide +kernel
theorem dX0_remove_36 : decode cX0_remove 36 = .ok (.isub, 1) := by decide +kernel
theorem dX0_remove_37 : decode cX0_remove 37 = .ok (.putfield 34, 3) := by decide +kernel
theorem dX0_remove_40 : decode cX0_remove 40 = .ok (.aload_n 0, 1) := by decide +kernel
theorem dX0_remove_41 : decode cX0_remove 41 = .ok (.dup, 1) := by decide +kernel
theorem dX0_remove_42 : decode cX0_remove 42 = .ok (.getfield 31, 3) := by decide +kernel
theorem dX0_remove_45 : decode cX0_remove 45 = .ok (.iconst 1, 1) := by decide +kernel
theorem dX0_remove_46 : decode cX0_remove 46 = .ok (.isub, 1) := by decide +kernel
theorem dX0_remove_47 : decode cX0_remove 47 = .ok (.putfield 31, 3) := by decide +kernel
theorem dX0_remove_50 : decode cX0_remove 50 = .ok (.iload_n 1, 1) := by decide +kernel
theorem dX0_remove_51 : decode cX0_remove 51 = .ok (.istore_n 2, 1) := by decide +kernel
theorem dX0_remove_52 : decode cX0_remove 52 = .ok (.iload_n 2, 1) := by decide +kernel
theorem dX0_remove_53 : decode cX0_remove 53 = .ok (.aload_n 0, 1) := by decide +kernel
theorem dX0_remove_54 : decode cX0_remove 54 = .ok (.getfield 31, 3) := by decide +kernel
theorem dX0_remove_57 : decode cX0_remove 57 = .ok (.if_icmp .ge 45, 3) := by decide +kernel
theorem dX0_remove_60 : decode cX0_remove 60 = .ok (.aload_n 0, 1) := by decide +kernel
theorem dX0_remove_61 : decode cX0_remove 61 = .ok (.getfield 14, 3) := by decide +kernel
theorem dX0_remove_64 : decode cX0_remove 64 = .ok (.iload_n 2, 1) := by decide +kernel
theorem dX0_remove_65 : decode cX0_remove 65 = .ok (.aload_n 0, 1) := by decide +kernel
theorem dX0_remove_66 : decode cX0_remove 66 = .ok (.getfield 14, 3) := by decide +kernel
theorem dX0_remove_69 : decode cX0_remove 69 = .ok (.iload_n 2, 1) := by decide +kernel
theorem dX0_remove_70 : decode cX0_remove 70 = .ok (.iconst 1, 1) := by decide +kernel
theorem dX0_remove_71 : decode cX0_remove 71 = .ok (.iadd, 1) := by decide +kernel
theorem dX0_remove_72 : decode cX0_remove 72 = .ok (.invokevirtual 37, 3) := by decide +kernel
theorem dX0_remove_75 : decode cX0_remove 75 = .ok (.invokevirtual 54, 3) := by decide +kernel
theorem dX0_remove_78 : decode cX0_remove 78 = .ok (.aload_n 0, 1) := by decide +kernel
theorem dX0_remove_79 : decode cX0_remove 79 = .ok (.getfield 20, 3) := by decide +kernel
theorem dX0_remove_82 : decode cX0_remove 82 = .ok (.iload_n 2, 1) := by decide +kernel
theorem dX0_remove_83 : decode cX0_remove 83 = .ok (.aload_n 0, 1) := by decide +kernel
theorem dX0_remove_84 : decode cX0_remove 84 = .ok (.getfield 20, 3) := by decide +kernel
theorem dX0_remove_87 : decode cX0_remove 87 = .ok (.iload_n 2, 1) := by decide +kernel
theorem dX0_remove_88 : decode cX0_remove 88 = .ok (.iconst 1, 1) := by decide +kernel
theorem dX0_remove_89 : decode cX0_remove 89 = .ok (.iadd, 1) := by decide +kernel
theorem dX0_remove_90 : decode cX0_remove 90 = .ok (.invokevirtual 37, 3) := by decide +kernel
theorem dX0_remove_93 : decode cX0_remove 93 = .ok (.invokevirtual 54, 3) := by decide +kernel
theorem dX0_remove_96 : decode cX0_remove 96 = .ok (.iinc 2 1, 3) := by decide +kernel
theorem dX0_remove_99 : decode cX0_remove 99 = .ok (.goto (-47), 3) := by decide +kernel
theorem dX0_remove_102 : decode cX0_remove 102 = .ok (.return_, 1) := by decide +kernel
theorem dX1_init_0 : decode cX1_init 0 = .ok (.aload_n 0, 1) := by decide +kernel
theorem dX1_init_1 : decode cX1_init 1 = .ok (.invokespecial 3, 3) := by decide +kernel
theorem dX1_init_4 : decode cX1_init 4 = .ok (.aload_n 0, 1) := by decide +kernel
theorem dX1_init_5 : decode cX1_init 5 = .ok (.new 9, 3) := by decide +kernel
theorem dX1_init_8 : decode cX1_init 8 = .ok (.dup, 1) := by decide +kernel
theorem dX1_init_9 : decode cX1_init 9 = .ok (.iconst 4, 1) := by decide +kernel
theorem dX1_init_10 : decode cX1_init 10 = .ok (.invokespecial 11, 3) := by decide +kernel
theorem dX1_init_13 : decode cX1_init 13 = .ok (.putfield 14, 3) := by decide +kernel
theorem dX1_init_16 : decode cX1_init 16 = .ok (.aload_n 0, 1) := by decide +kernel
theorem dX1_init_17 : decode cX1_init 17 = .ok (.new 9, 3) := by decide +kernel
theorem dX1_init_20 : decode cX1_init 20 = .ok (.dup, 1) := by decide +kernel
theorem dX1_init_21 : decode cX1_init 21 = .ok (.iconst 4, 1) := by decide +kernel
theorem dX1_init_22 : decode cX1_init 22 = .ok (.invokespecial 11, 3) := by decide +kernel
theorem dX1_init_25 : decode cX1_init 25 = .ok (.putfield 20, 3) := by decide +kernel
theorem dX1_init_28 : decode cX1_init 28 = .ok (.aload_n 0, 1) := by decide +kernel
theorem dX1_init_29 : decode cX1_init 29 = .ok (.iconst 2, 1) := by decide +kernel
theorem dX1_init_30 : decode cX1_init 30 = .ok (.putfield 23, 3) := by decide +kernel
theorem dX1_init_33 : decode cX1_init 33 = .ok (.aload_n 0, 1) := by decide +kernel
theorem dX1_init_34 : decode cX1_init 34 = .ok (.aload_n 1, 1) := by decide +kernel
theorem dX1_init_35 : decode cX1_init 35 = .ok (.putfield 27, 3) := by decide +kernel
theorem dX1_init_38 : decode cX1_init 38 = .ok (.iconst 0, 1) := by decide +kernel
theorem dX1_init_39 : decode cX1_init 39 = .ok (.istore_n 2, 1) := by decide +kernel
theorem dX1_init_40 : decode cX1_init 40 = .ok (.iload_n 2, 1) := by decide +kernel
theorem dX1_init_41 : decode cX1_init 41 = .ok (.iconst 4, 1) := by decide +kernel
theorem dX1_init_42 : decode cX1_init 42 = .ok (.if_icmp .ge 18, 3) := by decide +kernel
theorem dX1_init_45 : decode cX1_init 45 = .ok (.aload_n 0, 1) := by decide +kernel
theorem dX1_init_46 : decode cX1_init 46 = .ok (.getfield 14, 3) := by decide +kernel
theorem dX1_init_49 : decode cX1_init 49 = .ok (.iload_n 2, 1) := by decide +kernel
theorem dX1_init_50 : decode cX1_init 50 = .ok (.iconst 1, 1) := by decide +kernel
theorem dX1_init_51 : decode cX1_init 51 = .ok (.invokevirtual 31, 3) := by decide +kernel
theorem dX1_init_54 : decode cX1_init 54 = .ok (.iinc 2 1, 3) := by decide +kernel
theorem dX1_init_57 : decode cX1_init 57 = .ok (.goto (-17), 3) := by decide +kernel
theorem dX1_init_60 : decode cX1_init 60 = .ok (.return_, 1) := by decide +kernel
theorem dX1_workOff_0 : decode cX1_workOff 0 = .ok (.iconst 0, 1) := by decide +kernel
theorem dX1_workOff_1 : decode cX1_workOff 1 = .ok (.istore_n 3, 1) := by decide +kernel
theorem dX1_workOff_2 : decode cX1_workOff 2 = .ok (.iload_n 3, 1) := by decide +kernel
theorem dX1_workOff_3 : decode cX1_workOff 3 = .ok (.iconst 4, 1) := by decide +kernel
theorem dX1_workOff_4 : decode cX1_workOff 4 = .ok (.if_icmp .ge 18, 3) := by decide +kernel
theorem dX1_workOff_7 : decode cX1_workOff 7 = .ok (.aload_n 0, 1) := by decide +kernel
theorem dX1_workOff_8 : decode cX1_workOff 8 = .ok (.getfield 20, 3) := by decide +kernel
theorem dX1_workOff_11 : decode cX1_workOff 11 = .ok (.iload_n 3, 1) := by decide +kernel
theorem dX1_workOff_12 : decode cX1_workOff 12 = .ok (.iload_n 2, 1) := by decide +kernel
theorem dX1_workOff_13 : decode cX1_workOff 13 = .ok (.invokevirtual 31, 3) := by decide +kernel
theorem dX1_workOff_16 : decode cX1_workOff 16 = .ok (.iinc 3 1, 3) := by decide +kernel
theorem dX1_workOff_19 : decode cX1_workOff 19 = .ok (.goto (-17), 3) := by decide +kernel
theorem dX1_workOff_22 : decode cX1_workOff 22 = .ok (.iload_n 2, 1) := by decide +kernel
theorem dX1_workOff_23 : decode cX1_workOff 23 = .ok (.istore_n 3, 1) := by decide +kernel
theorem dX1_workOff_24 : decode cX1_workOff 24 = .ok (.iconst 0, 1) := by decide +kernel
theorem dX1_workOff_25 : decode cX1_workOff 25 = .ok (.istore 4, 2) := by decide +kernel
theorem dX1_workOff_27 : decode cX1_workOff 27 = .ok (.iload 4, 2) := by decide +kernel
theorem dX1_workOff_29 : decode cX1_workOff 29 = .ok (.bipush 17, 2) := by decide +kernel
theorem dX1_workOff_31 : decode cX1_workOff 31 = .ok (.if_icmp .ge 42, 3) := by decide +kernel
theorem dX1_workOff_34 : decode cX1_workOff 34 = .ok (.aload_n 1, 1) := by decide +kernel
theorem dX1_workOff_35 : decode cX1_workOff 35 = .ok (.iload_n 3, 1) := by decide +kernel
theorem dX1_workOff_36 : decode cX1_workOff 36 = .ok (.invokevirtual 35, 3) := by decide +kernel
theorem dX1_workOff_39 : decode cX1_workOff 39 = .ok (.aload_n 1, 1) := by decide +kernel
theorem dX1_workOff_40 : decode cX1_workOff 40 = .ok (.getfield 41, 3) := by decide +kernel
theorem dX1_workOff_43 : decode cX1_workOff 43 = .ok (.if_icmp .ge 30, 3) := by decide +kernel
theorem dX1_workOff_46 : decode cX1_workOff 46 = .ok (.aload_n 0, 1) := by decide +kernel
theorem dX1_workOff_47 : decode cX1_workOff 47 = .ok (.aload_n 1, 1) := by decide +kernel
theorem dX1_workOff_48 : decode cX1_workOff 48 = .ok (.iload_n 3, 1) := by decide +kernel
theorem dX1_workOff_49 : decode cX1_workOff 49 = .ok (.invokevirtual 44, 3) := by decide +kernel
theorem dX1_workOff_52 : decode cX1_workOff 52 = .ok (.ifCond .eq 9, 3) := by decide +kernel
theorem dX1_workOff_55 : decode cX1_workOff 55 = .ok (.iload_n 3, 1) := by decide +kernel
theorem dX1_workOff_56 : decode cX1_workOff 56 = .ok (.iconst 1, 1) := by decide +kernel
theorem dX1_workOff_57 : decode cX1_workOff 57 = .ok (.iadd, 1) := by decide +kernel
theorem dX1_workOff_58 : decode cX1_workOff 58 = .ok (.goto 8, 3) := by decide +kernel
theorem dX1_workOff_61 : decode cX1_workOff 61 = .ok (.aload_n 1, 1) := by decide +kernel
theorem dX1_workOff_62 : decode cX1_workOff 62 = .ok (.iload_n 3, 1) := by decide +kernel
theorem dX1_workOff_63 : decode cX1_workOff 63 = .ok (.invokevirtual 48, 3) := by decide +kernel
theorem dX1_workOff_66 : decode cX1_workOff 66 = .ok (.istore_n 3, 1) := by decide +kernel
theorem dX1_workOff_67 : decode cX1_workOff 67 = .ok (.iinc 4 1, 3) := by decide +kernel
theorem dX1_workOff_70 : decode cX1_workOff 70 = .ok (.goto (-43), 3) := by decide +kernel
theorem dX1_workOff_73 : decode cX1_workOff 73 = .ok (.iload_n 3, 1) := by decide +kernel
theorem dX1_workOff_74 : decode cX1_workOff 74 = .ok (.ireturn, 1) := by decide +kernel
theorem dX1_look_0 : decode cX1_look 0 = .ok (.iconst 0, 1) := by decide +kernel
theorem dX1_look_1 : decode cX1_look 1 = .ok (.istore_n 3, 1) := by decide +kernel
theorem dX1_look_2 : decode cX1_look 2 = .ok (.iconst 2, 1) := by decide +kernel
theorem dX1_look_3 : decode cX1_look 3 = .ok (.aload_n 1, 1) := by decide +kernel
theorem dX1_look_4 : decode cX1_look 4 = .ok (.iload_n 2, 1) := by decide +kernel
theorem dX1_look_5 : decode cX1_look 5 = .ok (.invokevirtual 35, 3) := by decide +kernel
theorem dX1_look_8 : decode cX1_look 8 = .ok (.imul, 1) := by decide +kernel
theorem dX1_look_9 : decode cX1_look 9 = .ok (.aload_n 1, 1) := by decide +kernel
theorem dX1_look_10 : decode cX1_look 10 = .ok (.getfield 41, 3) := by decide +kernel
theorem dX1_look_13 : decode cX1_look 13 = .ok (.if_icmp .lt 7, 3) := by decide +kernel
theorem dX1_look_16 : decode cX1_look 16 = .ok (.iconst 1, 1) := by decide +kernel
theorem dX1_look_17 : decode cX1_look 17 = .ok (.goto 4, 3) := by decide +kernel
theorem dX1_look_20 : decode cX1_look 20 = .ok (.iconst 0, 1) := by decide +kernel
theorem dX1_look_21 : decode cX1_look 21 = .ok (.istore 4, 2) := by decide +kernel
theorem dX1_look_23 : decode cX1_look 23 = .ok (.iconst 0, 1) := by decide +kernel
theorem dX1_look_24 : decode cX1_look 24 = .ok (.istore 5, 2) := by decide +kernel
theorem dX1_look_26 : decode cX1_look 26 = .ok (.iload 5, 2) := by decide +kernel
theorem dX1_look_28 : decode cX1_look 28 = .ok (.aload_n 0, 1) := by decide +kernel
theorem dX1_look_29 : decode cX1_look 29 = .ok (.getfield 23, 3) := by decide +kernel
theorem dX1_look_32 : decode cX1_look 32 = .ok (.if_icmp .ge 62, 3) := by decide +kernel
theorem dX1_look_35 : decode cX1_look 35 = .ok (.aload_n 0, 1) := by decide +kernel
theorem dX1_look_36 : decode cX1_look 36 = .ok (.getfield 20, 3) := by decide +kernel
theorem dX1_look_39 : decode cX1_look 39 = .ok (.iload 5, 2) := by decide +kernel
theorem dX1_look_41 : decode cX1_look 41 = .ok (.invokevirtual 51, 3) := by decide +kernel
theorem dX1_look_44 : decode cX1_look 44 = .ok (.iload_n 2, 1) := by decide +kernel
theorem dX1_look_45 : decode cX1_look 45 = .ok (.if_icmp .gt 43, 3) := by decide +kernel
theorem dX1_look_48 : decode cX1_look 48 = .ok (.aload_n 1, 1) := by decide +kernel
theorem dX1_look_49 : decode cX1_look 49 = .ok (.getfield 54, 3) := by decide +kernel
theorem dX1_look_52 : decode cX1_look 52 = .ok (.aload_n 1, 1) := by decide +kernel
theorem dX1_look_53 : decode cX1_look 53 = .ok (.getfield 41, 3) := by decide +kernel
theorem dX1_look_56 : decode cX1_look 56 = .ok (.if_icmp .ge 14, 3) := by decide +kernel
theorem dX1_look_59 : decode cX1_look 59 = .ok (.aload_n 0, 1) := by decide +kernel
theorem dX1_look_60 : decode cX1_look 60 = .ok (.aload_n 1, 1) := by decide +kernel
theorem dX1_look_61 : decode cX1_look 61 = .ok (.iload 5, 2) := by decide +kernel
theorem dX1_look_63 : decode cX1_look 63 = .ok (.iload_n 2, 1) := by decide +kernel
theorem dX1_look_64 : decode cX1_look 64 = .ok (.invokevirtual 57, 3) := by decide +kernel
theorem dX1_look_67 : decode cX1_look 67 = .ok (.goto 21, 3) := by decide +kernel
theorem dX1_look_70 : decode cX1_look 70 = .ok (.iload 4, 2) := by decide +kernel
theorem dX1_look_72 : decode cX1_look 72 = .ok (.ifCond .eq 16, 3) := by decide +kernel
theorem dX1_look_75 : decode cX1_look 75 = .ok (.aload_n 0, 1) := by decide +kernel
theorem dX1_look_76 : decode cX1_look 76 = .ok (.aload_n 1, 1) := by decide +kernel
theorem dX1_look_77 : decode cX1_look 77 = .ok (.iload 5, 2) := by decide +kernel
theorem dX1_look_79 : decode cX1_look 79 = .ok (.iload_n 2, 1) := by decide +kernel
theorem dX1_look_80 : decode cX1_look 80 = .ok (.invokevirtual 61, 3) := by decide +kernel
theorem dX1_look_83 : decode cX1_look 83 = .ok (.ifCond .eq 5, 3) := by decide +kernel
theorem dX1_look_86 : decode cX1_look 86 = .ok (.iconst 1, 1) := by decide +kernel
theorem dX1_look_87 : decode cX1_look 87 = .ok (.istore_n 3, 1) := by decide +kernel
theorem dX1_look_88 : decode cX1_look 88 = .ok (.iinc 5 1, 3) := by decide +kernel
theorem dX1_look_91 : decode cX1_look 91 = .ok (.goto (-65), 3) := by decide +kernel
theorem dX1_look_94 : decode cX1_look 94 = .ok (.iload_n 3, 1) := by decide +kernel
theorem dX1_look_95 : decode cX1_look 95 = .ok (.ireturn, 1) := by decide +kernel
theorem dX1_takeNext_0 : decode cX1_takeNext 0 = .ok (.aload_n 1, 1) := by decide +kernel
theorem dX1_takeNext_1 : decode cX1_takeNext 1 = .ok (.getfield 54, 3) := by decide +kernel
theorem dX1_takeNext_4 : decode cX1_takeNext 4 = .ok (.istore 4, 2) := by decide +kernel
theorem dX1_takeNext_6 : decode cX1_takeNext 6 = .ok (.iload_n 3, 1) := by decide +kernel
theorem dX1_takeNext_7 : decode cX1_takeNext 7 = .ok (.aload_n 1, 1) := by decide +kernel
theorem dX1_takeNext_8 : decode cX1_takeNext 8 = .ok (.getfield 65, 3) := by decide +kernel
theorem dX1_takeNext_11 : decode cX1_takeNext 11 = .ok (.iload 4, 2) := by decide +kernel
theorem dX1_takeNext_13 : decode cX1_takeNext 13 = .ok (.invokevirtual 51, 3) := by decide +kernel
theorem dX1_takeNext_16 : decode cX1_takeNext 16 = .ok (.aload_n 0, 1) := by decide +kernel
theorem dX1_takeNext_17 : decode cX1_takeNext 17 = .ok (.getfield 14, 3) := by decide +kernel
theorem dX1_takeNext_20 : decode cX1_takeNext 20 = .ok (.iload_n 2, 1) := by decide +kernel
theorem dX1_takeNext_21 : decode cX1_takeNext 21 = .ok (.invokevirtual 51, 3) := by decide +kernel
theorem dX1_takeNext_24 : decode cX1_takeNext 24 = .ok (.imul, 1) := by decide +kernel
theorem dX1_takeNext_25 : decode cX1_takeNext 25 = .ok (.iadd, 1) := by decide +kernel
theorem dX1_takeNext_26 : decode cX1_takeNext 26 = .ok (.istore 5, 2) := by decide +kernel
theorem dX1_takeNext_28 : decode cX1_takeNext 28 = .ok (.aload_n 1, 1) := by decide +kernel
theorem dX1_takeNext_29 : decode cX1_takeNext 29 = .ok (.aload_n 0, 1) := by decide +kernel
theorem dX1_takeNext_30 : decode cX1_takeNext 30 = .ok (.getfield 27, 3) := by decide +kernel
theorem dX1_takeNext_33 : decode cX1_takeNext 33 = .ok (.aload_n 1, 1) := by decide +kernel
theorem dX1_takeNext_34 : decode cX1_takeNext 34 = .ok (.getfield 68, 3) := by decide +kernel
theorem dX1_takeNext_37 : decode cX1_takeNext 37 = .ok (.iload 4, 2) := by decide +kernel
theorem dX1_takeNext_39 : decode cX1_takeNext 39 = .ok (.iload_n 2, 1) := by decide +kernel
theorem dX1_takeNext_40 : decode cX1_takeNext 40 = .ok (.iload_n 3, 1) := by decide +kernel
theorem dX1_takeNext_41 : decode cX1_takeNext 41 = .ok (.iload 5, 2) := by decide +kernel
theorem dX1_takeNext_43 : decode cX1_takeNext 43 = .ok (.iconst 0, 1) := by decide +kernel
theorem dX1_takeNext_44 : decode cX1_takeNext 44 = .ok (.invokevirtual 71, 3) := by decide +kernel
theorem dX1_takeNext_47 : decode cX1_takeNext 47 = .ok (.iload 5, 2) := by decide +kernel
theorem dX1_takeNext_49 : decode cX1_takeNext 49 = .ok (.invokevirtual 77, 3) := by decide +kernel
theorem dX1_takeNext_52 : decode cX1_takeNext 52 = .ok (.aload_n 0, 1) := by decide +kernel
theorem dX1_takeNext_53 : decode cX1_takeNext 53 = .ok (.getfield 20, 3) := by decide +kernel
theorem dX1_takeNext_56 : decode cX1_takeNext 56 = .ok (.iload_n 2, 1) := by decide +kernel
theorem dX1_takeNext_57 : decode cX1_takeNext 57 = .ok (.iload 5, 2) := by decide +kernel
theorem dX1_takeNext_59 : decode cX1_takeNext 59 = .ok (.invokevirtual 31, 3) := by decide +kernel
theorem dX1_takeNext_62 : decode cX1_takeNext 62 = .ok (.return_, 1) := by decide +kernel
theorem dX1_takesCopy_0 : decode cX1_takesCopy 0 = .ok (.aload_n 1, 1) := by decide +kernel
theorem dX1_takesCopy_1 : decode cX1_takesCopy 1 = .ok (.iload_n 3, 1) := by decide +kernel
theorem dX1_takesCopy_2 : decode cX1_takesCopy 2 = .ok (.invokevirtual 80, 3) := by decide +kernel
theorem dX1_takesCopy_5 : decode cX1_takesCopy 5 = .ok (.istore 4, 2) := by decide +kernel
theorem dX1_takesCopy_7 : decode cX1_takesCopy 7 = .ok (.iload 4, 2) := by decide +kernel
theorem dX1_takesCopy_9 : decode cX1_takesCopy 9 = .ok (.aload_n 1, 1) := by decide +kernel
theorem dX1_takesCopy_10 : decode cX1_takesCopy 10 = .ok (.getfield 41, 3) := by decide +kernel
theorem dX1_takesCopy_13 : decode cX1_takesCopy 13 = .ok (.if_icmp .lt 5, 3) := by decide +kernel
theorem dX1_takesCopy_16 : decode cX1_takesCopy 16 = .ok (.iconst 0, 1) := by decide +kernel
theorem dX1_takesCopy_17 : decode cX1_takesCopy 17 = .ok (.ireturn, 1) := by decide +kernel
theorem dX1_takesCopy_18 : decode cX1_takesCopy 18 = .ok (.iload_n 3, 1) := by decide +kernel
theorem dX1_takesCopy_19 : decode cX1_takesCopy 19 = .ok (.aload_n 1, 1) := by decide +kernel
theorem dX1_takesCopy_20 : decode cX1_takesCopy 20 = .ok (.getfield 65, 3) := by decide +kernel
theorem dX1_takesCopy_23 : decode cX1_takesCopy 23 = .ok (.iload 4, 2) := by decide +kernel
theorem dX1_takesCopy_25 : decode cX1_takesCopy 25 = .ok (.invokevirtual 51, 3) := by decide +kernel
theorem dX1_takesCopy_28 : decode cX1_takesCopy 28 = .ok (.aload_n 0, 1) := by decide +kernel
theorem dX1_takesCopy_29 : decode cX1_takesCopy 29 = .ok (.getfield 14, 3) := by decide +kernel
theorem dX1_takesCopy_32 : decode cX1_takesCopy 32 = .ok (.iload_n 2, 1) := by decide +kernel
theorem dX1_takesCopy_33 : decode cX1_takesCopy 33 = .ok (.invokevirtual 51, 3) := by decide +kernel
theorem dX1_takesCopy_36 : decode cX1_takesCopy 36 = .ok (.imul, 1) := by decide +kernel
theorem dX1_takesCopy_37 : decode cX1_takesCopy 37 = .ok (.iadd, 1) := by decide +kernel
theorem dX1_takesCopy_38 : decode cX1_takesCopy 38 = .ok (.istore 5, 2) := by decide +kernel
theorem dX1_takesCopy_40 : decode cX1_takesCopy 40 = .ok (.iload 5, 2) := by decide +kernel
theorem dX1_takesCopy_42 : decode cX1_takesCopy 42 = .ok (.aload_n 1, 1) := by decide +kernel
theorem dX1_takesCopy_43 : decode cX1_takesCopy 43 = .ok (.getfield 83, 3) := by decide +kernel
theorem dX1_takesCopy_46 : decode cX1_takesCopy 46 = .ok (.iload 4, 2) := by decide +kernel
theorem dX1_takesCopy_48 : decode cX1_takesCopy 48 = .ok (.invokevirtual 51, 3) := by decide +kernel
theorem dX1_takesCopy_51 : decode cX1_takesCopy 51 = .ok (.if_icmp .lt 5, 3) := by decide +kernel
theorem dX1_takesCopy_54 : decode cX1_takesCopy 54 = .ok (.iconst 0, 1) := by decide +kernel
theorem dX1_takesCopy_55 : decode cX1_takesCopy 55 = .ok (.ireturn, 1) := by decide +kernel
theorem dX1_takesCopy_56 : decode cX1_takesCopy 56 = .ok (.aload_n 1, 1) := by decide +kernel
theorem dX1_takesCopy_57 : decode cX1_takesCopy 57 = .ok (.getfield 86, 3) := by decide +kernel
theorem dX1_takesCopy_60 : decode cX1_takesCopy 60 = .ok (.iload 4, 2) := by decide +kernel
theorem dX1_takesCopy_62 : decode cX1_takesCopy 62 = .ok (.invokevirtual 51, 3) := by decide +kernel
theorem dX1_takesCopy_65 : decode cX1_takesCopy 65 = .ok (.istore 6, 2) := by decide +kernel
theorem dX1_takesCopy_67 : decode cX1_takesCopy 67 = .ok (.aload_n 0, 1) := by decide +kernel
theorem dX1_takesCopy_68 : decode cX1_takesCopy 68 = .ok (.getfield 27, 3) := by decide +kernel
theorem dX1_takesCopy_71 : decode cX1_takesCopy 71 = .ok (.aload_n 1, 1) := by decide +kernel
theorem dX1_takesCopy_72 : decode cX1_takesCopy 72 = .ok (.getfield 68, 3) := by decide +kernel
theorem dX1_takesCopy_75 : decode cX1_takesCopy 75 = .ok (.iload 4, 2) := by decide +kernel
theorem dX1_takesCopy_77 : decode cX1_takesCopy 77 = .ok (.iload_n 2, 1) := by decide +kernel
theorem dX1_takesCopy_78 : decode cX1_takesCopy 78 = .ok (.iload_n 3, 1) := by decide +kernel
theorem dX1_takesCopy_79 : decode cX1_takesCopy 79 = .ok (.iload 5, 2) := by decide +kernel
theorem dX1_takesCopy_81 : decode cX1_takesCopy 81 = .ok (.iconst 1, 1) := by decide +kernel
theorem dX1_takesCopy_82 : decode cX1_takesCopy 82 = .ok (.invokevirtual 71, 3) := by decide +kernel
theorem dX1_takesCopy_85 : decode cX1_takesCopy 85 = .ok (.pop, 1) := by decide +kernel
theorem dX1_takesCopy_86 : decode cX1_takesCopy 86 = .ok (.aload_n 0, 1) := by decide +kernel
theorem dX1_takesCopy_87 : decode cX1_takesCopy 87 = .ok (.getfield 27, 3) := by decide +kernel
theorem dX1_takesCopy_90 : decode cX1_takesCopy 90 = .ok (.getfield 89, 3) := by decide +kernel
theorem dX1_takesCopy_93 : decode cX1_takesCopy 93 = .ok (.iload 6, 2) := by decide +kernel
theorem dX1_takesCopy_95 : decode cX1_takesCopy 95 = .ok (.iload 5, 2) := by decide +kernel
theorem dX1_takesCopy_97 : decode cX1_takesCopy 97 = .ok (.invokevirtual 31, 3) := by decide +kernel
theorem dX1_takesCopy_100 : decode cX1_takesCopy 100 = .ok (.aload_n 1, 1) := by decide +kernel
theorem dX1_takesCopy_101 : decode cX1_takesCopy 101 = .ok (.iload 4, 2) := by decide +kernel
theorem dX1_takesCopy_103 : decode cX1_takesCopy 103 = .ok (.iload 5, 2) := by decide +kernel
theorem dX1_takesCopy_105 : decode cX1_takesCopy 105 = .ok (.invokevirtual 90, 3) := by decide +kernel
theorem dX1_takesCopy_108 : decode cX1_takesCopy 108 = .ok (.aload_n 0, 1) := by decide +kernel
theorem dX1_takesCopy_109 : decode cX1_takesCopy 109 = .ok (.getfield 20, 3) := by decide +kernel
theorem dX1_takesCopy_112 : decode cX1_takesCopy 112 = .ok (.iload_n 2, 1) := by decide +kernel
theorem dX1_takesCopy_113 : decode cX1_takesCopy 113 = .ok (.iload 5, 2) := by decide +kernel
theorem dX1_takesCopy_115 : decode cX1_takesCopy 115 = .ok (.invokevirtual 31, 3) := by decide +kernel
theorem dX1_takesCopy_118 : decode cX1_takesCopy 118 = .ok (.aload_n 0, 1) := by decide +kernel
theorem dX1_takesCopy_119 : decode cX1_takesCopy 119 = .ok (.getfield 20, 3) := by decide +kernel
theorem dX1_takesCopy_122 : decode cX1_takesCopy 122 = .ok (.aload_n 0, 1) := by decide +kernel
theorem dX1_takesCopy_123 : decode cX1_takesCopy 123 = .ok (.getfield 27, 3) := by decide +kernel
theorem dX1_takesCopy_126 : decode cX1_takesCopy 126 = .ok (.getfield 93, 3) := by decide +kernel
theorem dX1_takesCopy_129 : decode cX1_takesCopy 129 = .ok (.iload 6, 2) := by decide +kernel
theorem dX1_takesCopy_131 : decode cX1_takesCopy 131 = .ok (.invokevirtual 51, 3) := by decide +kernel
theorem dX1_takesCopy_134 : decode cX1_takesCopy 134 = .ok (.iload 5, 2) := by decide +kernel
theorem dX1_takesCopy_136 : decode cX1_takesCopy 136 = .ok (.invokevirtual 31, 3) := by decide +kernel
theorem dX1_takesCopy_139 : decode cX1_takesCopy 139 = .ok (.iconst 1, 1) := by decide +kernel
theorem dX1_takesCopy_140 : decode cX1_takesCopy 140 = .ok (.ireturn, 1) := by decide +kernel
theorem dX2_init_0 : decode cX2_init 0 = .ok (.aload_n 0, 1) := by decide +kernel
theorem dX2_init_1 : decode cX2_init 1 = .ok (.invokespecial 3, 3) := by decide +kernel
theorem dX2_init_4 : decode cX2_init 4 = .ok (.aload_n 0, 1) := by decide +kernel
theorem dX2_init_5 : decode cX2_init 5 = .ok (.new 9, 3) := by decide +kernel
theorem dX2_init_8 : decode cX2_init 8 = .ok (.dup, 1) := by decide +kernel
theorem dX2_init_9 : decode cX2_init 9 = .ok (.invokespecial 11, 3) := by decide +kernel
theorem dX2_init_12 : decode cX2_init 12 = .ok (.putfield 12, 3) := by decide +kernel
theorem dX2_init_15 : decode cX2_init 15 = .ok (.aload_n 0, 1) := by decide +kernel
theorem dX2_init_16 : decode cX2_init 16 = .ok (.new 18, 3) := by decide +kernel
theorem dX2_init_19 : decode cX2_init 19 = .ok (.dup, 1) := by decide +kernel
theorem dX2_init_20 : decode cX2_init 20 = .ok (.getstatic 20, 3) := by decide +kernel
theorem dX2_init_23 : decode cX2_init 23 = .ok (.iconst (-1), 1) := by decide +kernel
theorem dX2_init_24 : decode cX2_init 24 = .ok (.iconst (-1), 1) := by decide +kernel
theorem dX2_init_25 : decode cX2_init 25 = .ok (.iconst 0, 1) := by decide +kernel
theorem dX2_init_26 : decode cX2_init 26 = .ok (.iconst 0, 1) := by decide +kernel
theorem dX2_init_27 : decode cX2_init 27 = .ok (.invokespecial 26, 3) := by decide +kernel
theorem dX2_init_30 : decode cX2_init 30 = .ok (.putfield 29, 3) := by decide +kernel
theorem dX2_init_33 : decode cX2_init 33 = .ok (.aload_n 0, 1) := by decide +kernel
theorem dX2_init_34 : decode cX2_init 34 = .ok (.iconst 4, 1) := by decide +kernel
theorem dX2_init_35 : decode cX2_init 35 = .ok (.putfield 33, 3) := by decide +kernel
theorem dX2_init_38 : decode cX2_init 38 = .ok (.return_, 1) := by decide +kernel
theorem dX2_size_0 : decode cX2_size 0 = .ok (.aload_n 0, 1) := by decide +kernel
theorem dX2_size_1 : decode cX2_size 1 = .ok (.getfield 12, 3) := by decide +kernel
theorem dX2_size_4 : decode cX2_size 4 = .ok (.invokevirtual 37, 3) := by decide +kernel
theorem dX2_size_7 : decode cX2_size 7 = .ok (.ireturn, 1) := by decide +kernel
theorem dX2_at_0 : decode cX2_at 0 = .ok (.iload_n 1, 1) := by decide +kernel
theorem dX2_at_1 : decode cX2_at 1 = .ok (.ifCond .lt 28, 3) := by decide +kernel
theorem dX2_at_4 : decode cX2_at 4 = .ok (.iload_n 1, 1) := by decide +kernel
theorem dX2_at_5 : decode cX2_at 5 = .ok (.aload_n 0, 1) := by decide +kernel
theorem dX2_at_6 : decode cX2_at 6 = .ok (.getfield 12, 3) := by decide +kernel
theorem dX2_at_9 : decode cX2_at 9 = .ok (.invokevirtual 37, 3) := by decide +kernel
theorem dX2_at_12 : decode cX2_at 12 = .ok (.if_icmp .ge 17, 3) := by decide +kernel
theorem dX2_at_15 : decode cX2_at 15 = .ok (.aload_n 0, 1) := by decide +kernel
theorem dX2_at_16 : decode cX2_at 16 = .ok (.getfield 12, 3) := by decide +kernel
theorem dX2_at_19 : decode cX2_at 19 = .ok (.iload_n 1, 1) := by decide +kernel
theorem dX2_at_20 : decode cX2_at 20 = .ok (.invokevirtual 41, 3) := by decide +kernel
theorem dX2_at_23 : decode cX2_at 23 = .ok (.checkcast 18, 3) := by decide +kernel
theorem dX2_at_26 : decode cX2_at 26 = .ok (.goto 7, 3) := by decide +kernel
theorem dX2_at_29 : decode cX2_at 29 = .ok (.aload_n 0, 1) := by decide +kernel
theorem dX2_at_30 : decode cX2_at 30 = .ok (.getfield 29, 3) := by decide +kernel
theorem dX2_at_33 : decode cX2_at 33 = .ok (.areturn, 1) := by decide +kernel
theorem dX2_add_0 : decode cX2_add 0 = .ok (.aload_n 0, 1) := by decide +kernel
theorem dX2_add_1 : decode cX2_add 1 = .ok (.getfield 12, 3) := by decide +kernel
theorem dX2_add_4 : decode cX2_add 4 = .ok (.invokevirtual 37, 3) := by decide +kernel
theorem dX2_add_7 : decode cX2_add 7 = .ok (.istore_n 2, 1) := by decide +kernel
theorem dX2_add_8 : decode cX2_add 8 = .ok (.aload_n 0, 1) := by decide +kernel
theorem dX2_add_9 : decode cX2_add 9 = .ok (.aload_n 1, 1) := by decide +kernel
theorem dX2_add_10 : decode cX2_add 10 = .ok (.getfield 45, 3) := by decide +kernel
theorem dX2_add_13 : decode cX2_add 13 = .ok (.invokevirtual 48, 3) := by decide +kernel
theorem dX2_add_16 : decode cX2_add 16 = .ok (.getfield 52, 3) := by decide +kernel
theorem dX2_add_19 : decode cX2_add 19 = .ok (.aload_n 0, 1) := by decide +kernel
theorem dX2_add_20 : decode cX2_add 20 = .ok (.aload_n 1, 1) := by decide +kernel
theorem dX2_add_21 : decode cX2_add 21 = .ok (.getfield 55, 3) := by decide +kernel
theorem dX2_add_24 : decode cX2_add 24 = .ok (.invokevirtual 48, 3) := by decide +kernel
theorem dX2_add_27 : decode cX2_add 27 = .ok (.getfield 52, 3) := by decide +kernel
theorem dX2_add_30 : decode cX2_add 30 = .ok (.ior, 1) := by decide +kernel
theorem dX2_add_31 : decode cX2_add 31 = .ok (.istore_n 3, 1) := by decide +kernel
theorem dX2_add_32 : decode cX2_add 32 = .ok (.aload_n 1, 1) := by decide +kernel
theorem dX2_add_33 : decode cX2_add 33 = .ok (.iload_n 3, 1) := by decide +kernel
theorem dX2_add_34 : decode cX2_add 34 = .ok (.iload_n 2, 1) := by decide +kernel
theorem dX2_add_35 : decode cX2_add 35 = .ok (.invokestatic 58, 3) := by decide +kernel
theorem dX2_add_38 : decode cX2_add 38 = .ok (.putfield 52, 3) := by decide +kernel
theorem dX2_add_41 : decode cX2_add 41 = .ok (.aload_n 0, 1) := by decide +kernel
theorem dX2_add_42 : decode cX2_add 42 = .ok (.getfield 12, 3) := by decide +kernel
theorem dX2_add_45 : decode cX2_add 45 = .ok (.aload_n 1, 1) := by decide +kernel
theorem dX2_add_46 : decode cX2_add 46 = .ok (.invokevirtual 62, 3) := by decide +kernel
theorem dX2_add_49 : decode cX2_add 49 = .ok (.pop, 1) := by decide +kernel
theorem dX2_add_50 : decode cX2_add 50 = .ok (.iload_n 2, 1) := by decide +kernel
theorem dX2_add_51 : decode cX2_add 51 = .ok (.ireturn, 1) := by decide +kernel
theorem dX3_init_0 : decode cX3_init 0 = .ok (.aload_n 0, 1) := by decide +kernel
theorem dX3_init_1 : decode cX3_init 1 = .ok (.invokespecial 3, 3) := by decide +kernel
theorem dX3_init_4 : decode cX3_init 4 = .ok (.aload_n 0, 1) := by decide +kernel
theorem dX3_init_5 : decode cX3_init 5 = .ok (.bipush 14, 2) := by decide +kernel
theorem dX3_init_7 : decode cX3_init 7 = .ok (.anewarray 9, 3) := by decide +kernel
theorem dX3_init_10 : decode cX3_init 10 = .ok (.putfield 11, 3) := by decide +kernel
theorem dX3_init_13 : decode cX3_init 13 = .ok (.aload_n 0, 1) := by decide +kernel
theorem dX3_init_14 : decode cX3_init 14 = .ok (.new 9, 3) := by decide +kernel
theorem dX3_init_17 : decode cX3_init 17 = .ok (.dup, 1) := by decide +kernel
theorem dX3_init_18 : decode cX3_init 18 = .ok (.iconst 0, 1) := by decide +kernel
theorem dX3_init_19 : decode cX3_init 19 = .ok (.invokespecial 17, 3) := by decide +kernel
theorem dX3_init_22 : decode cX3_init 22 = .ok (.putfield 20, 3) := by decide +kernel
theorem dX3_init_25 : decode cX3_init 25 = .ok (.aload_n 0, 1) := by decide +kernel
theorem dX3_init_26 : decode cX3_init 26 = .ok (.new 9, 3) := by decide +kernel
theorem dX3_init_29 : decode cX3_init 29 = .ok (.dup, 1) := by decide +kernel
theorem dX3_init_30 : decode cX3_init 30 = .ok (.sipush 300, 3) := by decide +kernel
theorem dX3_init_33 : decode cX3_init 33 = .ok (.invokespecial 17, 3) := by decide +kernel
theorem dX3_init_36 : decode cX3_init 36 = .ok (.putfield 24, 3) := by decide +kernel
theorem dX3_init_39 : decode cX3_init 39 = .ok (.aload_n 0, 1) := by decide +kernel
theorem dX3_init_40 : decode cX3_init 40 = .ok (.aload_n 1, 1) := by decide +kernel
theorem dX3_init_41 : decode cX3_init 41 = .ok (.putfield 27, 3) := by decide +kernel
theorem dX3_init_44 : decode cX3_init 44 = .ok (.aload_n 0, 1) := by decide +kernel
theorem dX3_init_45 : decode cX3_init 45 = .ok (.iload_n 2, 1) := by decide +kernel
theorem dX3_init_46 : decode cX3_init 46 = .ok (.putfield 31, 3) := by decide +kernel
theorem dX3_init_49 : decode cX3_init 49 = .ok (.iconst 0, 1) := by decide +kernel
theorem dX3_init_50 : decode cX3_init 50 = .ok (.istore_n 3, 1) := by decide +kernel
theorem dX3_init_51 : decode cX3_init 51 = .ok (.iload_n 3, 1) := by decide +kernel
theorem dX3_init_52 : decode cX3_init 52 = .ok (.aload_n 0, 1) := by decide +kernel
theorem dX3_init_53 : decode cX3_init 53 = .ok (.getfield 11, 3) := by decide +kernel
theorem dX3_init_56 : decode cX3_init 56 = .ok (.arraylength, 1) := by decide +kernel
theorem dX3_init_57 : decode cX3_init 57 = .ok (.if_icmp .ge 25, 3) := by decide +kernel
theorem dX3_init_60 : decode cX3_init 60 = .ok (.aload_n 0, 1) := by decide +kernel
theorem dX3_init_61 : decode cX3_init 61 = .ok (.getfield 11, 3) := by decide +kernel
theorem dX3_init_64 : decode cX3_init 64 = .ok (.iload_n 3, 1) := by decide +kernel
theorem dX3_init_65 : decode cX3_init 65 = .ok (.new 9, 3) := by decide +kernel
theorem dX3_init_68 : decode cX3_init 68 = .ok (.dup, 1) := by decide +kernel
theorem dX3_init_69 : decode cX3_init 69 = .ok (.sipush 300, 3) := by decide +kernel
theorem dX3_init_72 : decode cX3_init 72 = .ok (.invokespecial 17, 3) := by decide +kernel
theorem dX3_init_75 : decode cX3_init 75 = .ok (.aastore, 1) := by decide +kernel
theorem dX3_init_76 : decode cX3_init 76 = .ok (.iinc 3 1, 3) := by decide +kernel
theorem dX3_init_79 : decode cX3_init 79 = .ok (.goto (-28), 3) := by decide +kernel
theorem dX3_init_82 : decode cX3_init 82 = .ok (.return_, 1) := by decide +kernel
theorem dX3_of_0 : decode cX3_of 0 = .ok (.iload_n 1, 1) := by decide +kernel
theorem dX3_of_1 : decode cX3_of 1 = .ok (.ifCond .lt 21, 3) := by decide +kernel
theorem dX3_of_4 : decode cX3_of 4 = .ok (.iload_n 1, 1) := by decide +kernel
theorem dX3_of_5 : decode cX3_of 5 = .ok (.aload_n 0, 1) := by decide +kernel
theorem dX3_of_6 : decode cX3_of 6 = .ok (.getfield 11, 3) := by decide +kernel
theorem dX3_of_9 : decode cX3_of 9 = .ok (.arraylength, 1) := by decide +kernel
theorem dX3_of_10 : decode cX3_of 10 = .ok (.if_icmp .ge 12, 3) := by decide +kernel
theorem dX3_of_13 : decode cX3_of 13 = .ok (.aload_n 0, 1) := by decide +kernel
theorem dX3_of_14 : decode cX3_of 14 = .ok (.getfield 11, 3) := by decide +kernel
theorem dX3_of_17 : decode cX3_of 17 = .ok (.iload_n 1, 1) := by decide +kernel
theorem dX3_of_18 : decode cX3_of 18 = .ok (.aaload, 1) := by decide +kernel
theorem dX3_of_19 : decode cX3_of 19 = .ok (.goto 7, 3) := by decide +kernel
theorem dX3_of_22 : decode cX3_of 22 = .ok (.aload_n 0, 1) := by decide +kernel
theorem dX3_of_23 : decode cX3_of 23 = .ok (.getfield 20, 3) := by decide +kernel
theorem dX3_of_26 : decode cX3_of 26 = .ok (.areturn, 1) := by decide +kernel
theorem dX3_forgetAll_0 : decode cX3_forgetAll 0 = .ok (.aload_n 0, 1) := by decide +kernel
theorem dX3_forgetAll_1 : decode cX3_forgetAll 1 = .ok (.iconst 0, 1) := by decide +kernel
theorem dX3_forgetAll_2 : decode cX3_forgetAll 2 = .ok (.putfield 35, 3) := by decide +kernel
theorem dX3_forgetAll_5 : decode cX3_forgetAll 5 = .ok (.return_, 1) := by decide +kernel
theorem dX3_forgetAllOf_0 : decode cX3_forgetAllOf 0 = .ok (.iload_n 1, 1) := by decide +kernel
theorem dX3_forgetAllOf_1 : decode cX3_forgetAllOf 1 = .ok (.istore_n 2, 1) := by decide +kernel
theorem dX3_forgetAllOf_2 : decode cX3_forgetAllOf 2 = .ok (.iload_n 2, 1) := by decide +kernel
theorem dX3_forgetAllOf_3 : decode cX3_forgetAllOf 3 = .ok (.bipush 14, 2) := by decide +kernel
theorem dX3_forgetAllOf_5 : decode cX3_forgetAllOf 5 = .ok (.if_icmp .ge 43, 3) := by decide +kernel
theorem dX3_forgetAllOf_8 : decode cX3_forgetAllOf 8 = .ok (.aload_n 0, 1) := by decide +kernel
theorem dX3_forgetAllOf_9 : decode cX3_forgetAllOf 9 = .ok (.getfield 27, 3) := by decide +kernel
theorem dX3_forgetAllOf_12 : decode cX3_forgetAllOf 12 = .ok (.iload_n 2, 1) := by decide +kernel
theorem dX3_forgetAllOf_13 : decode cX3_forgetAllOf 13 = .ok (.invokevirtual 39, 3) := by decide +kernel
theorem dX3_forgetAllOf_16 : decode cX3_forgetAllOf 16 = .ok (.getfield 45, 3) := by decide +kernel
theorem dX3_forgetAllOf_19 : decode cX3_forgetAllOf 19 = .ok (.iload_n 1, 1) := by decide +kernel
theorem dX3_forgetAllOf_20 : decode cX3_forgetAllOf 20 = .ok (.invokestatic 50, 3) := by decide +kernel
theorem dX3_forgetAllOf_23 : decode cX3_forgetAllOf 23 = .ok (.ifCond .eq 19, 3) := by decide +kernel
theorem dX3_forgetAllOf_26 : decode cX3_forgetAllOf 26 = .ok (.aload_n 0, 1) := by decide +kernel
theorem dX3_forgetAllOf_27 : decode cX3_forgetAllOf 27 = .ok (.dup, 1) := by decide +kernel
theorem dX3_forgetAllOf_28 : decode cX3_forgetAllOf 28 = .ok (.getfield 35, 3) := by decide +kernel
theorem dX3_forgetAllOf_31 : decode cX3_forgetAllOf 31 = .ok (.iconst 0, 1) := by decide +kernel
theorem dX3_forgetAllOf_32 : decode cX3_forgetAllOf 32 = .ok (.iload_n 2, 1) := by decide +kernel
theorem dX3_forgetAllOf_33 : decode cX3_forgetAllOf 33 = .ok (.invokestatic 54, 3) := by decide +kernel
theorem dX3_forgetAllOf_36 : decode cX3_forgetAllOf 36 = .ok (.iconst (-1), 1) := by decide +kernel
theorem dX3_forgetAllOf_37 : decode cX3_forgetAllOf 37 = .ok (.ixor, 1) := by decide +kernel
theorem dX3_forgetAllOf_38 : decode cX3_forgetAllOf 38 = .ok (.iand, 1) := by decide +kernel
theorem dX3_forgetAllOf_39 : decode cX3_forgetAllOf 39 = .ok (.putfield 35, 3) := by decide +kernel
theorem dX3_forgetAllOf_42 : decode cX3_forgetAllOf 42 = .ok (.iinc 2 1, 3) := by decide +kernel
theorem dX3_forgetAllOf_45 : decode cX3_forgetAllOf 45 = .ok (.goto (-43), 3) := by decide +kernel
theorem dX3_forgetAllOf_48 : decode cX3_forgetAllOf 48 = .ok (.return_, 1) := by decide +kernel
theorem dX3_freshRows_0 : decode cX3_freshRows 0 = .ok (.aload_n 0, 1) := by decide +kernel
theorem dX3_freshRows_1 : decode cX3_freshRows 1 = .ok (.getfield 27, 3) := by decide +kernel
theorem dX3_freshRows_4 : decode cX3_freshRows 4 = .ok (.iload_n 1, 1) := by decide +kernel
theorem dX3_freshRows_5 : decode cX3_freshRows 5 = .ok (.invokevirtual 39, 3) := by decide +kernel
theorem dX3_freshRows_8 : decode cX3_freshRows 8 = .ok (.getfield 45, 3) := by decide +kernel
theorem dX3_freshRows_11 : decode cX3_freshRows 11 = .ok (.aload_n 0, 1) := by decide +kernel
theorem dX3_freshRows_12 : decode cX3_freshRows 12 = .ok (.getfield 35, 3) := by decide +kernel
theorem dX3_freshRows_15 : decode cX3_freshRows 15 = .ok (.iconst (-1), 1) := by decide +kernel
theorem dX3_freshRows_16 : decode cX3_freshRows 16 = .ok (.ixor, 1) := by decide +kernel
theorem dX3_freshRows_17 : decode cX3_freshRows 17 = .ok (.iand, 1) := by decide +kernel
theorem dX3_freshRows_18 : decode cX3_freshRows 18 = .ok (.istore_n 2, 1) := by decide +kernel
theorem dX3_freshRows_19 : decode cX3_freshRows 19 = .ok (.iconst 0, 1) := by decide +kernel
theorem dX3_freshRows_20 : decode cX3_freshRows 20 = .ok (.istore_n 3, 1) := by decide +kernel
theorem dX3_freshRows_21 : decode cX3_freshRows 21 = .ok (.iload_n 3, 1) := by decide +kernel
theorem dX3_freshRows_22 : decode cX3_freshRows 22 = .ok (.bipush 14, 2) := by decide +kernel
theorem dX3_freshRows_24 : decode cX3_freshRows 24 = .ok (.if_icmp .ge 46, 3) := by decide +kernel
theorem dX3_freshRows_27 : decode cX3_freshRows 27 = .ok (.iload_n 2, 1) := by decide +kernel
theorem dX3_freshRows_28 : decode cX3_freshRows 28 = .ok (.iload_n 3, 1) := by decide +kernel
theorem dX3_freshRows_29 : decode cX3_freshRows 29 = .ok (.invokestatic 50, 3) := by decide +kernel
theorem dX3_freshRows_32 : decode cX3_freshRows 32 = .ok (.ifCond .eq 32, 3) := by decide +kernel
theorem dX3_freshRows_35 : decode cX3_freshRows 35 = .ok (.aload_n 0, 1) := by decide +kernel
theorem dX3_freshRows_36 : decode cX3_freshRows 36 = .ok (.aload_n 0, 1) := by decide +kernel
theorem dX3_freshRows_37 : decode cX3_freshRows 37 = .ok (.getfield 27, 3) := by decide +kernel
theorem dX3_freshRows_40 : decode cX3_freshRows 40 = .ok (.iload_n 3, 1) := by decide +kernel
theorem dX3_freshRows_41 : decode cX3_freshRows 41 = .ok (.invokevirtual 39, 3) := by decide +kernel
theorem dX3_freshRows_44 : decode cX3_freshRows 44 = .ok (.aload_n 0, 1) := by decide +kernel
theorem dX3_freshRows_45 : decode cX3_freshRows 45 = .ok (.iload_n 3, 1) := by decide +kernel
theorem dX3_freshRows_46 : decode cX3_freshRows 46 = .ok (.invokevirtual 58, 3) := by decide +kernel
theorem dX3_freshRows_49 : decode cX3_freshRows 49 = .ok (.invokevirtual 62, 3) := by decide +kernel
theorem dX3_freshRows_52 : decode cX3_freshRows 52 = .ok (.aload_n 0, 1) := by decide +kernel
theorem dX3_freshRows_53 : decode cX3_freshRows 53 = .ok (.aload_n 0, 1) := by decide +kernel
theorem dX3_freshRows_54 : decode cX3_freshRows 54 = .ok (.getfield 35, 3) := by decide +kernel
theorem dX3_freshRows_57 : decode cX3_freshRows 57 = .ok (.iload_n 3, 1) := by decide +kernel
theorem dX3_freshRows_58 : decode cX3_freshRows 58 = .ok (.invokestatic 54, 3) := by decide +kernel
theorem dX3_freshRows_61 : decode cX3_freshRows 61 = .ok (.putfield 35, 3) := by decide +kernel
theorem dX3_freshRows_64 : decode cX3_freshRows 64 = .ok (.iinc 3 1, 3) := by decide +kernel
theorem dX3_freshRows_67 : decode cX3_freshRows 67 = .ok (.goto (-46), 3) := by decide +kernel
theorem dX3_freshRows_70 : decode cX3_freshRows 70 = .ok (.aload_n 0, 1) := by decide +kernel
theorem dX3_freshRows_71 : decode cX3_freshRows 71 = .ok (.iload_n 1, 1) := by decide +kernel
theorem dX3_freshRows_72 : decode cX3_freshRows 72 = .ok (.invokevirtual 58, 3) := by decide +kernel
theorem dX3_freshRows_75 : decode cX3_freshRows 75 = .ok (.areturn, 1) := by decide +kernel
theorem dX3_joinsBroadly_0 : decode cX3_joinsBroadly 0 = .ok (.aload_n 0, 1) := by decide +kernel
theorem dX3_joinsBroadly_1 : decode cX3_joinsBroadly 1 = .ok (.getfield 27, 3) := by decide +kernel
theorem dX3_joinsBroadly_4 : decode cX3_joinsBroadly 4 = .ok (.iload_n 1, 1) := by decide +kernel
theorem dX3_joinsBroadly_5 : decode cX3_joinsBroadly 5 = .ok (.invokevirtual 39, 3) := by decide +kernel
theorem dX3_joinsBroadly_8 : decode cX3_joinsBroadly 8 = .ok (.astore_n 2, 1) := by decide +kernel
theorem dX3_joinsBroadly_9 : decode cX3_joinsBroadly 9 = .ok (.aload_n 2, 1) := by decide +kernel
theorem dX3_joinsBroadly_10 : decode cX3_joinsBroadly 10 = .ok (.getfield 66, 3) := by decide +kernel
theorem dX3_joinsBroadly_13 : decode cX3_joinsBroadly 13 = .ok (.getstatic 70, 3) := by decide +kernel
theorem dX3_joinsBroadly_16 : decode cX3_joinsBroadly 16 = .ok (.if_acmp .ne 28, 3) := by decide +kernel
theorem dX3_joinsBroadly_19 : decode cX3_joinsBroadly 19 = .ok (.aload_n 0, 1) := by decide +kernel
theorem dX3_joinsBroadly_20 : decode cX3_joinsBroadly 20 = .ok (.aload_n 2, 1) := by decide +kernel
theorem dX3_joinsBroadly_21 : decode cX3_joinsBroadly 21 = .ok (.getfield 75, 3) := by decide +kernel
theorem dX3_joinsBroadly_24 : decode cX3_joinsBroadly 24 = .ok (.invokevirtual 58, 3) := by decide +kernel
theorem dX3_joinsBroadly_27 : decode cX3_joinsBroadly 27 = .ok (.invokevirtual 78, 3) := by decide +kernel
theorem dX3_joinsBroadly_30 : decode cX3_joinsBroadly 30 = .ok (.aload_n 0, 1) := by decide +kernel
theorem dX3_joinsBroadly_31 : decode cX3_joinsBroadly 31 = .ok (.getfield 27, 3) := by decide +kernel
theorem dX3_joinsBroadly_34 : decode cX3_joinsBroadly 34 = .ok (.getfield 82, 3) := by decide +kernel
theorem dX3_joinsBroadly_37 : decode cX3_joinsBroadly 37 = .ok (.if_icmp .gt 7, 3) := by decide +kernel
theorem dX3_joinsBroadly_40 : decode cX3_joinsBroadly 40 = .ok (.iconst 1, 1) := by decide +kernel
theorem dX3_joinsBroadly_41 : decode cX3_joinsBroadly 41 = .ok (.goto 4, 3) := by decide +kernel
theorem dX3_joinsBroadly_44 : decode cX3_joinsBroadly 44 = .ok (.iconst 0, 1) := by decide +kernel
theorem dX3_joinsBroadly_45 : decode cX3_joinsBroadly 45 = .ok (.ireturn, 1) := by decide +kernel
theorem dX3_fill_0 : decode cX3_fill 0 = .ok (.aload_n 0, 1) := by decide +kernel
theorem dX3_fill_1 : decode cX3_fill 1 = .ok (.aload_n 1, 1) := by decide +kernel
theorem dX3_fill_2 : decode cX3_fill 2 = .ok (.getfield 85, 3) := by decide +kernel
theorem dX3_fill_5 : decode cX3_fill 5 = .ok (.invokevirtual 58, 3) := by decide +kernel
theorem dX3_fill_8 : decode cX3_fill 8 = .ok (.astore_n 3, 1) := by decide +kernel
theorem dX3_fill_9 : decode cX3_fill 9 = .ok (.aload_n 0, 1) := by decide +kernel
theorem dX3_fill_10 : decode cX3_fill 10 = .ok (.aload_n 1, 1) := by decide +kernel
theorem dX3_fill_11 : decode cX3_fill 11 = .ok (.getfield 75, 3) := by decide +kernel
theorem dX3_fill_14 : decode cX3_fill 14 = .ok (.invokevirtual 58, 3) := by decide +kernel
theorem dX3_fill_17 : decode cX3_fill 17 = .ok (.astore 4, 2) := by decide +kernel
theorem dX3_fill_19 : decode cX3_fill 19 = .ok (.aload_n 0, 1) := by decide +kernel
theorem dX3_fill_20 : decode cX3_fill 20 = .ok (.getfield 31, 3) := by decide +kernel
theorem dX3_fill_23 : decode cX3_fill 23 = .ok (.ifCond .eq 7, 3) := by decide +kernel
theorem dX3_fill_26 : decode cX3_fill 26 = .ok (.iconst 1, 1) := by decide +kernel
theorem dX3_fill_27 : decode cX3_fill 27 = .ok (.goto 7, 3) := by decide +kernel
theorem dX3_fill_30 : decode cX3_fill 30 = .ok (.aload_n 1, 1) := by decide +kernel
theorem dX3_fill_31 : decode cX3_fill 31 = .ok (.getfield 88, 3) := by decide +kernel
theorem dX3_fill_34 : decode cX3_fill 34 = .ok (.istore 5, 2) := by decide +kernel
theorem dX3_fill_36 : decode cX3_fill 36 = .ok (.aload_n 2, 1) := by decide +kernel
theorem dX3_fill_37 : decode cX3_fill 37 = .ok (.invokevirtual 91, 3) := by decide +kernel
theorem dX3_fill_40 : decode cX3_fill 40 = .ok (.aload_n 1, 1) := by decide +kernel
theorem dX3_fill_41 : decode cX3_fill 41 = .ok (.getfield 66, 3) := by decide +kernel
theorem dX3_fill_44 : decode cX3_fill 44 = .ok (.getstatic 94, 3) := by decide +kernel
theorem dX3_fill_47 : decode cX3_fill 47 = .ok (.if_acmp .ne 17, 3) := by decide +kernel
theorem dX3_fill_50 : decode cX3_fill 50 = .ok (.aload_n 0, 1) := by decide +kernel
theorem dX3_fill_51 : decode cX3_fill 51 = .ok (.aload_n 1, 1) := by decide +kernel
theorem dX3_fill_52 : decode cX3_fill 52 = .ok (.getfield 97, 3) := by decide +kernel
theorem dX3_fill_55 : decode cX3_fill 55 = .ok (.iload 5, 2) := by decide +kernel
theorem dX3_fill_57 : decode cX3_fill 57 = .ok (.aload_n 2, 1) := by decide +kernel
theorem dX3_fill_58 : decode cX3_fill 58 = .ok (.invokevirtual 100, 3) := by decide +kernel
theorem dX3_fill_61 : decode cX3_fill 61 = .ok (.goto 137, 3) := by decide +kernel
theorem dX3_fill_64 : decode cX3_fill 64 = .ok (.aload_n 1, 1) := by decide +kernel
theorem dX3_fill_65 : decode cX3_fill 65 = .ok (.getfield 66, 3) := by decide +kernel
theorem dX3_fill_68 : decode cX3_fill 68 = .ok (.getstatic 104, 3) := by decide +kernel
theorem dX3_fill_71 : decode cX3_fill 71 = .ok (.if_acmp .ne 13, 3) := by decide +kernel
theorem dX3_fill_74 : decode cX3_fill 74 = .ok (.aload_n 0, 1) := by decide +kernel
theorem dX3_fill_75 : decode cX3_fill 75 = .ok (.aload_n 3, 1) := by decide +kernel
theorem dX3_fill_76 : decode cX3_fill 76 = .ok (.aload_n 1, 1) := by decide +kernel
theorem dX3_fill_77 : decode cX3_fill 77 = .ok (.aload_n 2, 1) := by decide +kernel
theorem dX3_fill_78 : decode cX3_fill 78 = .ok (.invokevirtual 107, 3) := by decide +kernel
theorem dX3_fill_81 : decode cX3_fill 81 = .ok (.goto 117, 3) := by decide +kernel
theorem dX3_fill_84 : decode cX3_fill 84 = .ok (.aload_n 1, 1) := by decide +kernel
theorem dX3_fill_85 : decode cX3_fill 85 = .ok (.getfield 66, 3) := by decide +kernel
theorem dX3_fill_88 : decode cX3_fill 88 = .ok (.getstatic 111, 3) := by decide +kernel
theorem dX3_fill_91 : decode cX3_fill 91 = .ok (.if_acmp .ne 13, 3) := by decide +kernel
theorem dX3_fill_94 : decode cX3_fill 94 = .ok (.aload_n 0, 1) := by decide +kernel
theorem dX3_fill_95 : decode cX3_fill 95 = .ok (.aload_n 3, 1) := by decide +kernel
theorem dX3_fill_96 : decode cX3_fill 96 = .ok (.aload_n 1, 1) := by decide +kernel
theorem dX3_fill_97 : decode cX3_fill 97 = .ok (.aload_n 2, 1) := by decide +kernel
theorem dX3_fill_98 : decode cX3_fill 98 = .ok (.invokevirtual 114, 3) := by decide +kernel
theorem dX3_fill_101 : decode cX3_fill 101 = .ok (.goto 97, 3) := by decide +kernel
theorem dX3_fill_104 : decode cX3_fill 104 = .ok (.aload_n 1, 1) := by decide +kernel
theorem dX3_fill_105 : decode cX3_fill 105 = .ok (.getfield 66, 3) := by decide +kernel
theorem dX3_fill_108 : decode cX3_fill 108 = .ok (.getstatic 117, 3) := by decide +kernel
theorem dX3_fill_111 : decode cX3_fill 111 = .ok (.if_acmp .ne 14, 3) := by decide +kernel
theorem dX3_fill_114 : decode cX3_fill 114 = .ok (.aload_n 0, 1) := by decide +kernel
theorem dX3_fill_115 : decode cX3_fill 115 = .ok (.aload_n 3, 1) := by decide +kernel
theorem dX3_fill_116 : decode cX3_fill 116 = .ok (.aload 4, 2) := by decide +kernel
theorem dX3_fill_118 : decode cX3_fill 118 = .ok (.aload_n 2, 1) := by decide +kernel
theorem dX3_fill_119 : decode cX3_fill 119 = .ok (.invokevirtual 120, 3) := by decide +kernel
theorem dX3_fill_122 : decode cX3_fill 122 = .ok (.goto 76, 3) := by decide +kernel
theorem dX3_fill_125 : decode cX3_fill 125 = .ok (.aload_n 1, 1) := by decide +kernel
theorem dX3_fill_126 : decode cX3_fill 126 = .ok (.getfield 66, 3) := by decide +kernel
theorem dX3_fill_129 : decode cX3_fill 129 = .ok (.getstatic 124, 3) := by decide +kernel
theorem dX3_fill_132 : decode cX3_fill 132 = .ok (.if_acmp .ne 19, 3) := by decide +kernel
theorem dX3_fill_135 : decode cX3_fill 135 = .ok (.aload_n 0, 1) := by decide +kernel
theorem dX3_fill_136 : decode cX3_fill 136 = .ok (.aload_n 3, 1) := by decide +kernel
theorem dX3_fill_137 : decode cX3_fill 137 = .ok (.aload_n 1, 1) := by decide +kernel
theorem dX3_fill_138 : decode cX3_fill 138 = .ok (.invokevirtual 127, 3) := by decide +kernel
theorem dX3_fill_141 : decode cX3_fill 141 = .ok (.aload_n 0, 1) := by decide +kernel
theorem dX3_fill_142 : decode cX3_fill 142 = .ok (.iload 5, 2) := by decide +kernel
theorem dX3_fill_144 : decode cX3_fill 144 = .ok (.aload_n 2, 1) := by decide +kernel
theorem dX3_fill_145 : decode cX3_fill 145 = .ok (.invokevirtual 131, 3) := by decide +kernel
theorem dX3_fill_148 : decode cX3_fill 148 = .ok (.goto 50, 3) := by decide +kernel
theorem dX3_fill_151 : decode cX3_fill 151 = .ok (.aload_n 0, 1) := by decide +kernel
theorem dX3_fill_152 : decode cX3_fill 152 = .ok (.getfield 31, 3) := by decide +kernel
theorem dX3_fill_155 : decode cX3_fill 155 = .ok (.ifCond .ne 29, 3) := by decide +kernel
theorem dX3_fill_158 : decode cX3_fill 158 = .ok (.aload 4, 2) := by decide +kernel
theorem dX3_fill_160 : decode cX3_fill 160 = .ok (.invokevirtual 78, 3) := by decide +kernel
theorem dX3_fill_163 : decode cX3_fill 163 = .ok (.aload_n 0, 1) := by decide +kernel
theorem dX3_fill_164 : decode cX3_fill 164 = .ok (.getfield 27, 3) := by decide +kernel
theorem dX3_fill_167 : decode cX3_fill 167 = .ok (.getfield 82, 3) := by decide +kernel
theorem dX3_fill_170 : decode cX3_fill 170 = .ok (.if_icmp .gt 14, 3) := by decide +kernel
theorem dX3_fill_173 : decode cX3_fill 173 = .ok (.aload_n 0, 1) := by decide +kernel
theorem dX3_fill_174 : decode cX3_fill 174 = .ok (.aload_n 3, 1) := by decide +kernel
theorem dX3_fill_175 : decode cX3_fill 175 = .ok (.aload 4, 2) := by decide +kernel
theorem dX3_fill_177 : decode cX3_fill 177 = .ok (.aload_n 2, 1) := by decide +kernel
theorem dX3_fill_178 : decode cX3_fill 178 = .ok (.invokevirtual 135, 3) := by decide +kernel
theorem dX3_fill_181 : decode cX3_fill 181 = .ok (.goto 17, 3) := by decide +kernel
theorem dX3_fill_184 : decode cX3_fill 184 = .ok (.aload_n 0, 1) := by decide +kernel
theorem dX3_fill_185 : decode cX3_fill 185 = .ok (.aload_n 3, 1) := by decide +kernel
theorem dX3_fill_186 : decode cX3_fill 186 = .ok (.invokevirtual 138, 3) := by decide +kernel
theorem dX3_fill_189 : decode cX3_fill 189 = .ok (.aload_n 0, 1) := by decide +kernel
theorem dX3_fill_190 : decode cX3_fill 190 = .ok (.aload 4, 2) := by decide +kernel
theorem dX3_fill_192 : decode cX3_fill 192 = .ok (.iload 5, 2) := by decide +kernel
theorem dX3_fill_194 : decode cX3_fill 194 = .ok (.aload_n 2, 1) := by decide +kernel
theorem dX3_fill_195 : decode cX3_fill 195 = .ok (.invokevirtual 142, 3) := by decide +kernel
theorem dX3_fill_198 : decode cX3_fill 198 = .ok (.return_, 1) := by decide +kernel
theorem dX3_deal_0 : decode cX3_deal 0 = .ok (.iconst 0, 1) := by decide +kernel
theorem dX3_deal_1 : decode cX3_deal 1 = .ok (.istore 4, 2) := by decide +kernel
theorem dX3_deal_3 : decode cX3_deal 3 = .ok (.iload 4, 2) := by decide +kernel
theorem dX3_deal_5 : decode cX3_deal 5 = .ok (.iload_n 2, 1) := by decide +kernel
theorem dX3_deal_6 : decode cX3_deal 6 = .ok (.if_icmp .ge 58, 3) := by decide +kernel
theorem dX3_deal_9 : decode cX3_deal 9 = .ok (.iconst 0, 1) := by decide +kernel
theorem dX3_deal_10 : decode cX3_deal 10 = .ok (.istore 5, 2) := by decide +kernel
theorem dX3_deal_12 : decode cX3_deal 12 = .ok (.iload 5, 2) := by decide +kernel
theorem dX3_deal_14 : decode cX3_deal 14 = .ok (.aload_n 1, 1) := by decide +kernel
theorem dX3_deal_15 : decode cX3_deal 15 = .ok (.invokevirtual 78, 3) := by decide +kernel
theorem dX3_deal_18 : decode cX3_deal 18 = .ok (.if_icmp .ge 36, 3) := by decide +kernel
theorem dX3_deal_21 : decode cX3_deal 21 = .ok (.iload 5, 2) := by decide +kernel
theorem dX3_deal_23 : decode cX3_deal 23 = .ok (.iload_n 2, 1) := by decide +kernel
theorem dX3_deal_24 : decode cX3_deal 24 = .ok (.invokestatic 145, 3) := by decide +kernel
theorem dX3_deal_27 : decode cX3_deal 27 = .ok (.iload 4, 2) := by decide +kernel
theorem dX3_deal_29 : decode cX3_deal 29 = .ok (.if_icmp .ne 19, 3) := by decide +kernel
theorem dX3_deal_32 : decode cX3_deal 32 = .ok (.aload_n 3, 1) := by decide +kernel
theorem dX3_deal_33 : decode cX3_deal 33 = .ok (.aload_n 1, 1) := by decide +kernel
theorem dX3_deal_34 : decode cX3_deal 34 = .ok (.iload 5, 2) := by decide +kernel
theorem dX3_deal_36 : decode cX3_deal 36 = .ok (.invokevirtual 148, 3) := by decide +kernel
theorem dX3_deal_39 : decode cX3_deal 39 = .ok (.aload_n 1, 1) := by decide +kernel
theorem dX3_deal_40 : decode cX3_deal 40 = .ok (.iload 5, 2) := by decide +kernel
theorem dX3_deal_42 : decode cX3_deal 42 = .ok (.invokevirtual 152, 3) := by decide +kernel
theorem dX3_deal_45 : decode cX3_deal 45 = .ok (.invokevirtual 155, 3) := by decide +kernel
theorem dX3_deal_48 : decode cX3_deal 48 = .ok (.iinc 5 1, 3) := by decide +kernel
theorem dX3_deal_51 : decode cX3_deal 51 = .ok (.goto (-39), 3) := by decide +kernel
theorem dX3_deal_54 : decode cX3_deal 54 = .ok (.aload_n 3, 1) := by decide +kernel
theorem dX3_deal_55 : decode cX3_deal 55 = .ok (.invokevirtual 159, 3) := by decide +kernel
theorem dX3_deal_58 : decode cX3_deal 58 = .ok (.iinc 4 1, 3) := by decide +kernel
theorem dX3_deal_61 : decode cX3_deal 61 = .ok (.goto (-58), 3) := by decide +kernel
theorem dX3_deal_64 : decode cX3_deal 64 = .ok (.return_, 1) := by decide +kernel
theorem dX3_change_0 : decode cX3_change 0 = .ok (.iconst 0, 1) := by decide +kernel
theorem dX3_change_1 : decode cX3_change 1 = .ok (.istore 4, 2) := by decide +kernel
theorem dX3_change_3 : decode cX3_change 3 = .ok (.iload 4, 2) := by decide +kernel
theorem dX3_change_5 : decode cX3_change 5 = .ok (.aload_n 1, 1) := by decide +kernel
theorem dX3_change_6 : decode cX3_change 6 = .ok (.invokevirtual 162, 3) := by decide +kernel
theorem dX3_change_9 : decode cX3_change 9 = .ok (.if_icmp .ge 74, 3) := by decide +kernel
theorem dX3_change_12 : decode cX3_change 12 = .ok (.aload_n 1, 1) := by decide +kernel
theorem dX3_change_13 : decode cX3_change 13 = .ok (.iload 4, 2) := by decide +kernel
theorem dX3_change_15 : decode cX3_change 15 = .ok (.invokevirtual 165, 3) := by decide +kernel
theorem dX3_change_18 : decode cX3_change 18 = .ok (.istore 5, 2) := by decide +kernel
theorem dX3_change_20 : decode cX3_change 20 = .ok (.iload 5, 2) := by decide +kernel
theorem dX3_change_22 : decode cX3_change 22 = .ok (.aload_n 1, 1) := by decide +kernel
theorem dX3_change_23 : decode cX3_change 23 = .ok (.iload 4, 2) := by decide +kernel
theorem dX3_change_25 : decode cX3_change 25 = .ok (.invokevirtual 168, 3) := by decide +kernel
theorem dX3_change_28 : decode cX3_change 28 = .ok (.if_icmp .ge 45, 3) := by decide +kernel
theorem dX3_change_31 : decode cX3_change 31 = .ok (.aload_n 1, 1) := by decide +kernel
theorem dX3_change_32 : decode cX3_change 32 = .ok (.iload 5, 2) := by decide +kernel
theorem dX3_change_34 : decode cX3_change 34 = .ok (.invokevirtual 148, 3) := by decide +kernel
theorem dX3_change_37 : decode cX3_change 37 = .ok (.istore 6, 2) := by decide +kernel
theorem dX3_change_39 : decode cX3_change 39 = .ok (.aload_n 1, 1) := by decide +kernel
theorem dX3_change_40 : decode cX3_change 40 = .ok (.iload 5, 2) := by decide +kernel
theorem dX3_change_42 : decode cX3_change 42 = .ok (.invokevirtual 152, 3) := by decide +kernel
theorem dX3_change_45 : decode cX3_change 45 = .ok (.istore 7, 2) := by decide +kernel
theorem dX3_change_47 : decode cX3_change 47 = .ok (.aload_n 3, 1) := by decide +kernel
theorem dX3_change_48 : decode cX3_change 48 = .ok (.aload_n 2, 1) := by decide +kernel
theorem dX3_change_49 : decode cX3_change 49 = .ok (.iload 6, 2) := by decide +kernel
theorem dX3_change_51 : decode cX3_change 51 = .ok (.iload 7, 2) := by decide +kernel
theorem dX3_change_53 : decode cX3_change 53 = .ok (.invokevirtual 171, 3) := by decide +kernel
theorem dX3_change_56 : decode cX3_change 56 = .ok (.aload_n 2, 1) := by decide +kernel
theorem dX3_change_57 : decode cX3_change 57 = .ok (.iload 6, 2) := by decide +kernel
theorem dX3_change_59 : decode cX3_change 59 = .ok (.iload 7, 2) := by decide +kernel
theorem dX3_change_61 : decode cX3_change 61 = .ok (.invokevirtual 174, 3) := by decide +kernel
theorem dX3_change_64 : decode cX3_change 64 = .ok (.invokevirtual 155, 3) := by decide +kernel
theorem dX3_change_67 : decode cX3_change 67 = .ok (.iinc 5 1, 3) := by decide +kernel
theorem dX3_change_70 : decode cX3_change 70 = .ok (.goto (-50), 3) := by decide +kernel
theorem dX3_change_73 : decode cX3_change 73 = .ok (.aload_n 3, 1) := by decide +kernel
theorem dX3_change_74 : decode cX3_change 74 = .ok (.invokevirtual 159, 3) := by decide +kernel
theorem dX3_change_77 : decode cX3_change 77 = .ok (.iinc 4 1, 3) := by decide +kernel
theorem dX3_change_80 : decode cX3_change 80 = .ok (.goto (-77), 3) := by decide +kernel
theorem dX3_change_83 : decode cX3_change 83 = .ok (.return_, 1) := by decide +kernel
theorem dX3_sift_0 : decode cX3_sift 0 = .ok (.iconst 0, 1) := by decide +kernel
theorem dX3_sift_1 : decode cX3_sift 1 = .ok (.istore 4, 2) := by decide +kernel
theorem dX3_sift_3 : decode cX3_sift 3 = .ok (.iload 4, 2) := by decide +kernel
theorem dX3_sift_5 : decode cX3_sift 5 = .ok (.aload_n 1, 1) := by decide +kernel
theorem dX3_sift_6 : decode cX3_sift 6 = .ok (.invokevirtual 162, 3) := by decide +kernel
theorem dX3_sift_9 : decode cX3_sift 9 = .ok (.if_icmp .ge 76, 3) := by decide +kernel
theorem dX3_sift_12 : decode cX3_sift 12 = .ok (.aload_n 1, 1) := by decide +kernel
theorem dX3_sift_13 : decode cX3_sift 13 = .ok (.iload 4, 2) := by decide +kernel
theorem dX3_sift_15 : decode cX3_sift 15 = .ok (.invokevirtual 165, 3) := by decide +kernel
theorem dX3_sift_18 : decode cX3_sift 18 = .ok (.istore 5, 2) := by decide +kernel
theorem dX3_sift_20 : decode cX3_sift 20 = .ok (.iload 5, 2) := by decide +kernel
theorem dX3_sift_22 : decode cX3_sift 22 = .ok (.aload_n 1, 1) := by decide +kernel
theorem dX3_sift_23 : decode cX3_sift 23 = .ok (.iload 4, 2) := by decide +kernel
theorem dX3_sift_25 : decode cX3_sift 25 = .ok (.invokevirtual 168, 3) := by decide +kernel
theorem dX3_sift_28 : decode cX3_sift 28 = .ok (.if_icmp .ge 47, 3) := by decide +kernel
theorem dX3_sift_31 : decode cX3_sift 31 = .ok (.aload_n 1, 1) := by decide +kernel
theorem dX3_sift_32 : decode cX3_sift 32 = .ok (.iload 5, 2) := by decide +kernel
theorem dX3_sift_34 : decode cX3_sift 34 = .ok (.invokevirtual 152, 3) := by decide +kernel
theorem dX3_sift_37 : decode cX3_sift 37 = .ok (.istore 6, 2) := by decide +kernel
theorem dX3_sift_39 : decode cX3_sift 39 = .ok (.iload 6, 2) := by decide +kernel
theorem dX3_sift_41 : decode cX3_sift 41 = .ok (.aload_n 2, 1) := by decide +kernel
theorem dX3_sift_42 : decode cX3_sift 42 = .ok (.getfield 177, 3) := by decide +kernel
theorem dX3_sift_45 : decode cX3_sift 45 = .ok (.if_icmp .lt 24, 3) := by decide +kernel
theorem dX3_sift_48 : decode cX3_sift 48 = .ok (.iload 6, 2) := by decide +kernel
theorem dX3_sift_50 : decode cX3_sift 50 = .ok (.aload_n 2, 1) := by decide +kernel
theorem dX3_sift_51 : decode cX3_sift 51 = .ok (.getfield 180, 3) := by decide +kernel
theorem dX3_sift_54 : decode cX3_sift 54 = .ok (.if_icmp .gt 15, 3) := by decide +kernel
theorem dX3_sift_57 : decode cX3_sift 57 = .ok (.aload_n 3, 1) := by decide +kernel
theorem dX3_sift_58 : decode cX3_sift 58 = .ok (.aload_n 1, 1) := by decide +kernel
theorem dX3_sift_59 : decode cX3_sift 59 = .ok (.iload 5, 2) := by decide +kernel
theorem dX3_sift_61 : decode cX3_sift 61 = .ok (.invokevirtual 148, 3) := by decide +kernel
theorem dX3_sift_64 : decode cX3_sift 64 = .ok (.iload 6, 2) := by decide +kernel
theorem dX3_sift_66 : decode cX3_sift 66 = .ok (.invokevirtual 155, 3) := by decide +kernel
theorem dX3_sift_69 : decode cX3_sift 69 = .ok (.iinc 5 1, 3) := by decide +kernel
theorem dX3_sift_72 : decode cX3_sift 72 = .ok (.goto (-52), 3) := by decide +kernel
theorem dX3_sift_75 : decode cX3_sift 75 = .ok (.aload_n 3, 1) := by decide +kernel
theorem dX3_sift_76 : decode cX3_sift 76 = .ok (.invokevirtual 159, 3) := by decide +kernel
theorem dX3_sift_79 : decode cX3_sift 79 = .ok (.iinc 4 1, 3) := by decide +kernel
theorem dX3_sift_82 : decode cX3_sift 82 = .ok (.goto (-79), 3) := by decide +kernel
theorem dX3_sift_85 : decode cX3_sift 85 = .ok (.return_, 1) := by decide +kernel
theorem dX3_unite_0 : decode cX3_unite 0 = .ok (.aload_n 0, 1) := by decide +kernel
theorem dX3_unite_1 : decode cX3_unite 1 = .ok (.aload_n 1, 1) := by decide +kernel
theorem dX3_unite_2 : decode cX3_unite 2 = .ok (.aload_n 3, 1) := by decide +kernel
theorem dX3_unite_3 : decode cX3_unite 3 = .ok (.invokevirtual 183, 3) := by decide +kernel
theorem dX3_unite_6 : decode cX3_unite 6 = .ok (.aload_n 0, 1) := by decide +kernel
theorem dX3_unite_7 : decode cX3_unite 7 = .ok (.aload_n 2, 1) := by decide +kernel
theorem dX3_unite_8 : decode cX3_unite 8 = .ok (.aload_n 3, 1) := by decide +kernel
theorem dX3_unite_9 : decode cX3_unite 9 = .ok (.invokevirtual 183, 3) := by decide +kernel
theorem dX3_unite_12 : decode cX3_unite 12 = .ok (.aload_n 0, 1) := by decide +kernel
theorem dX3_unite_13 : decode cX3_unite 13 = .ok (.getfield 31, 3) := by decide +kernel
theorem dX3_unite_16 : decode cX3_unite 16 = .ok (.ifCond .eq 7, 3) := by decide +kernel
theorem dX3_unite_19 : decode cX3_unite 19 = .ok (.aload_n 3, 1) := by decide +kernel
theorem dX3_unite_20 : decode cX3_unite 20 = .ok (.invokevirtual 159, 3) := by decide +kernel
theorem dX3_unite_23 : decode cX3_unite 23 = .ok (.return_, 1) := by decide +kernel
theorem dX3_append_0 : decode cX3_append 0 = .ok (.iconst 0, 1) := by decide +kernel
theorem dX3_append_1 : decode cX3_append 1 = .ok (.istore_n 3, 1) := by decide +kernel
theorem dX3_append_2 : decode cX3_append 2 = .ok (.iload_n 3, 1) := by decide +kernel
theorem dX3_append_3 : decode cX3_append 3 = .ok (.aload_n 1, 1) := by decide +kernel
theorem dX3_append_4 : decode cX3_append 4 = .ok (.invokevirtual 162, 3) := by decide +kernel
theorem dX3_append_7 : decode cX3_append 7 = .ok (.if_icmp .ge 59, 3) := by decide +kernel
theorem dX3_append_10 : decode cX3_append 10 = .ok (.aload_n 1, 1) := by decide +kernel
theorem dX3_append_11 : decode cX3_append 11 = .ok (.iload_n 3, 1) := by decide +kernel
theorem dX3_append_12 : decode cX3_append 12 = .ok (.invokevirtual 165, 3) := by decide +kernel
theorem dX3_append_15 : decode cX3_append 15 = .ok (.istore 4, 2) := by decide +kernel
theorem dX3_append_17 : decode cX3_append 17 = .ok (.iload 4, 2) := by decide +kernel
theorem dX3_append_19 : decode cX3_append 19 = .ok (.aload_n 1, 1) := by decide +kernel
theorem dX3_append_20 : decode cX3_append 20 = .ok (.iload_n 3, 1) := by decide +kernel
theorem dX3_append_21 : decode cX3_append 21 = .ok (.invokevirtual 168, 3) := by decide +kernel
theorem dX3_append_24 : decode cX3_append 24 = .ok (.if_icmp .ge 25, 3) := by decide +kernel
theorem dX3_append_27 : decode cX3_append 27 = .ok (.aload_n 2, 1) := by decide +kernel
theorem dX3_append_28 : decode cX3_append 28 = .ok (.aload_n 1, 1) := by decide +kernel
theorem dX3_append_29 : decode cX3_append 29 = .ok (.iload 4, 2) := by decide +kernel
theorem dX3_append_31 : decode cX3_append 31 = .ok (.invokevirtual 148, 3) := by decide +kernel
theorem dX3_append_34 : decode cX3_append 34 = .ok (.aload_n 1, 1) := by decide +kernel
theorem dX3_append_35 : decode cX3_append 35 = .ok (.iload 4, 2) := by decide +kernel
theorem dX3_append_37 : decode cX3_append 37 = .ok (.invokevirtual 152, 3) := by decide +kernel
theorem dX3_append_40 : decode cX3_append 40 = .ok (.invokevirtual 155, 3) := by decide +kernel
theorem dX3_append_43 : decode cX3_append 43 = .ok (.iinc 4 1, 3) := by decide +kernel
theorem dX3_append_46 : decode cX3_append 46 = .ok (.goto (-29), 3) := by decide +kernel
theorem dX3_append_49 : decode cX3_append 49 = .ok (.aload_n 0, 1) := by decide +kernel
theorem dX3_append_50 : decode cX3_append 50 = .ok (.getfield 31, 3) := by decide +kernel
theorem dX3_append_53 : decode cX3_append 53 = .ok (.ifCond .ne 7, 3) := by decide +kernel
theorem dX3_append_56 : decode cX3_append 56 = .ok (.aload_n 2, 1) := by decide +kernel
theorem dX3_append_57 : decode cX3_append 57 = .ok (.invokevirtual 159, 3) := by decide +kernel
theorem dX3_append_60 : decode cX3_append 60 = .ok (.iinc 3 1, 3) := by decide +kernel
theorem dX3_append_63 : decode cX3_append 63 = .ok (.goto (-61), 3) := by decide +kernel
theorem dX3_append_66 : decode cX3_append 66 = .ok (.return_, 1) := by decide +kernel
theorem dX3_groupByKey_0 : decode cX3_groupByKey 0 = .ok (.aload_n 0, 1) := by decide +kernel
theorem dX3_groupByKey_1 : decode cX3_groupByKey 1 = .ok (.getfield 24, 3) := by decide +kernel
theorem dX3_groupByKey_4 : decode cX3_groupByKey 4 = .ok (.invokevirtual 91, 3) := by decide +kernel
theorem dX3_groupByKey_7 : decode cX3_groupByKey 7 = .ok (.iconst 0, 1) := by decide +kernel
theorem dX3_groupByKey_8 : decode cX3_groupByKey 8 = .ok (.istore_n 3, 1) := by decide +kernel
theorem dX3_groupByKey_9 : decode cX3_groupByKey 9 = .ok (.iload_n 3, 1) := by decide +kernel
theorem dX3_groupByKey_10 : decode cX3_groupByKey 10 = .ok (.aload_n 1, 1) := by decide +kernel
theorem dX3_groupByKey_11 : decode cX3_groupByKey 11 = .ok (.invokevirtual 78, 3) := by decide +kernel
theorem dX3_groupByKey_14 : decode cX3_groupByKey 14 = .ok (.if_icmp .ge 102, 3) := by decide +kernel
theorem dX3_groupByKey_17 : decode cX3_groupByKey 17 = .ok (.aload_n 1, 1) := by decide +kernel
theorem dX3_groupByKey_18 : decode cX3_groupByKey 18 = .ok (.iload_n 3, 1) := by decide +kernel
theorem dX3_groupByKey_19 : decode cX3_groupByKey 19 = .ok (.invokevirtual 148, 3) := by decide +kernel
theorem dX3_groupByKey_22 : decode cX3_groupByKey 22 = .ok (.istore 4, 2) := by decide +kernel
theorem dX3_groupByKey_24 : decode cX3_groupByKey 24 = .ok (.aload_n 1, 1) := by decide +kernel
theorem dX3_groupByKey_25 : decode cX3_groupByKey 25 = .ok (.iload_n 3, 1) := by decide +kernel
theorem dX3_groupByKey_26 : decode cX3_groupByKey 26 = .ok (.invokevirtual 152, 3) := by decide +kernel
theorem dX3_groupByKey_29 : decode cX3_groupByKey 29 = .ok (.istore 5, 2) := by decide +kernel
theorem dX3_groupByKey_31 : decode cX3_groupByKey 31 = .ok (.aload_n 0, 1) := by decide +kernel
theorem dX3_groupByKey_32 : decode cX3_groupByKey 32 = .ok (.getfield 24, 3) := by decide +kernel
theorem dX3_groupByKey_35 : decode cX3_groupByKey 35 = .ok (.iload 4, 2) := by decide +kernel
theorem dX3_groupByKey_37 : decode cX3_groupByKey 37 = .ok (.invokevirtual 187, 3) := by decide +kernel
theorem dX3_groupByKey_40 : decode cX3_groupByKey 40 = .ok (.istore 6, 2) := by decide +kernel
theorem dX3_groupByKey_42 : decode cX3_groupByKey 42 = .ok (.aload_n 0, 1) := by decide +kernel
theorem dX3_groupByKey_43 : decode cX3_groupByKey 43 = .ok (.getfield 24, 3) := by decide +kernel
theorem dX3_groupByKey_46 : decode cX3_groupByKey 46 = .ok (.iload 6, 2) := by decide +kernel
theorem dX3_groupByKey_48 : decode cX3_groupByKey 48 = .ok (.iconst 1, 1) := by decide +kernel
theorem dX3_groupByKey_49 : decode cX3_groupByKey 49 = .ok (.isub, 1) := by decide +kernel
theorem dX3_groupByKey_50 : decode cX3_groupByKey 50 = .ok (.iload 4, 2) := by decide +kernel
theorem dX3_groupByKey_52 : decode cX3_groupByKey 52 = .ok (.invokevirtual 190, 3) := by decide +kernel
theorem dX3_groupByKey_55 : decode cX3_groupByKey 55 = .ok (.ifCond .eq 38, 3) := by decide +kernel
theorem dX3_groupByKey_58 : decode cX3_groupByKey 58 = .ok (.aload_n 0, 1) := by decide +kernel
theorem dX3_groupByKey_59 : decode cX3_groupByKey 59 = .ok (.getfield 24, 3) := by decide +kernel
theorem dX3_groupByKey_62 : decode cX3_groupByKey 62 = .ok (.iload 6, 2) := by decide +kernel
theorem dX3_groupByKey_64 : decode cX3_groupByKey 64 = .ok (.iconst 1, 1) := by decide +kernel
theorem dX3_groupByKey_65 : decode cX3_groupByKey 65 = .ok (.isub, 1) := by decide +kernel
theorem dX3_groupByKey_66 : decode cX3_groupByKey 66 = .ok (.invokevirtual 152, 3) := by decide +kernel
theorem dX3_groupByKey_69 : decode cX3_groupByKey 69 = .ok (.istore 7, 2) := by decide +kernel
theorem dX3_groupByKey_71 : decode cX3_groupByKey 71 = .ok (.aload_n 0, 1) := by decide +kernel
theorem dX3_groupByKey_72 : decode cX3_groupByKey 72 = .ok (.getfield 24, 3) := by decide +kernel
theorem dX3_groupByKey_75 : decode cX3_groupByKey 75 = .ok (.iload 6, 2) := by decide +kernel
theorem dX3_groupByKey_77 : decode cX3_groupByKey 77 = .ok (.iconst 1, 1) := by decide +kernel
theorem dX3_groupByKey_78 : decode cX3_groupByKey 78 = .ok (.isub, 1) := by decide +kernel
theorem dX3_groupByKey_79 : decode cX3_groupByKey 79 = .ok (.aload_n 2, 1) := by decide +kernel
theorem dX3_groupByKey_80 : decode cX3_groupByKey 80 = .ok (.iload 7, 2) := by decide +kernel
theorem dX3_groupByKey_82 : decode cX3_groupByKey 82 = .ok (.iload 5, 2) := by decide +kernel
theorem dX3_groupByKey_84 : decode cX3_groupByKey 84 = .ok (.invokevirtual 193, 3) := by decide +kernel
theorem dX3_groupByKey_87 : decode cX3_groupByKey 87 = .ok (.invokevirtual 196, 3) := by decide +kernel
theorem dX3_groupByKey_90 : decode cX3_groupByKey 90 = .ok (.goto 20, 3) := by decide +kernel
theorem dX3_groupByKey_93 : decode cX3_groupByKey 93 = .ok (.aload_n 0, 1) := by decide +kernel
theorem dX3_groupByKey_94 : decode cX3_groupByKey 94 = .ok (.getfield 24, 3) := by decide +kernel
theorem dX3_groupByKey_97 : decode cX3_groupByKey 97 = .ok (.iload 6, 2) := by decide +kernel
theorem dX3_groupByKey_99 : decode cX3_groupByKey 99 = .ok (.iload 4, 2) := by decide +kernel
theorem dX3_groupByKey_101 : decode cX3_groupByKey 101 = .ok (.aload_n 2, 1) := by decide +kernel
theorem dX3_groupByKey_102 : decode cX3_groupByKey 102 = .ok (.iload 5, 2) := by decide +kernel
theorem dX3_groupByKey_104 : decode cX3_groupByKey 104 = .ok (.invokevirtual 199, 3) := by decide +kernel
theorem dX3_groupByKey_107 : decode cX3_groupByKey 107 = .ok (.invokevirtual 202, 3) := by decide +kernel
theorem dX3_groupByKey_110 : decode cX3_groupByKey 110 = .ok (.iinc 3 1, 3) := by decide +kernel
theorem dX3_groupByKey_113 : decode cX3_groupByKey 113 = .ok (.goto (-104), 3) := by decide +kernel
theorem dX3_groupByKey_116 : decode cX3_groupByKey 116 = .ok (.return_, 1) := by decide +kernel
theorem dX3_dealByKey_0 : decode cX3_dealByKey 0 = .ok (.iconst 0, 1) := by decide +kernel
theorem dX3_dealByKey_1 : decode cX3_dealByKey 1 = .ok (.istore_n 3, 1) := by decide +kernel
theorem dX3_dealByKey_2 : decode cX3_dealByKey 2 = .ok (.iload_n 3, 1) := by decide +kernel
theorem dX3_dealByKey_3 : decode cX3_dealByKey 3 = .ok (.iload_n 1, 1) := by decide +kernel
theorem dX3_dealByKey_4 : decode cX3_dealByKey 4 = .ok (.if_icmp .ge 70, 3) := by decide +kernel
theorem dX3_dealByKey_7 : decode cX3_dealByKey 7 = .ok (.iconst 0, 1) := by decide +kernel
theorem dX3_dealByKey_8 : decode cX3_dealByKey 8 = .ok (.istore 4, 2) := by decide +kernel
theorem dX3_dealByKey_10 : decode cX3_dealByKey 10 = .ok (.iload 4, 2) := by decide +kernel
theorem dX3_dealByKey_12 : decode cX3_dealByKey 12 = .ok (.aload_n 0, 1) := by decide +kernel
theorem dX3_dealByKey_13 : decode cX3_dealByKey 13 = .ok (.getfield 24, 3) := by decide +kernel
theorem dX3_dealByKey_16 : decode cX3_dealByKey 16 = .ok (.invokevirtual 78, 3) := by decide +kernel
theorem dX3_dealByKey_19 : decode cX3_dealByKey 19 = .ok (.if_icmp .ge 45, 3) := by decide +kernel
theorem dX3_dealByKey_22 : decode cX3_dealByKey 22 = .ok (.aload_n 0, 1) := by decide +kernel
theorem dX3_dealByKey_23 : decode cX3_dealByKey 23 = .ok (.getfield 24, 3) := by decide +kernel
theorem dX3_dealByKey_26 : decode cX3_dealByKey 26 = .ok (.iload 4, 2) := by decide +kernel
theorem dX3_dealByKey_28 : decode cX3_dealByKey 28 = .ok (.invokevirtual 148, 3) := by decide +kernel
theorem dX3_dealByKey_31 : decode cX3_dealByKey 31 = .ok (.istore 5, 2) := by decide +kernel
theorem dX3_dealByKey_33 : decode cX3_dealByKey 33 = .ok (.iload 5, 2) := by decide +kernel
theorem dX3_dealByKey_35 : decode cX3_dealByKey 35 = .ok (.iload_n 1, 1) := by decide +kernel
theorem dX3_dealByKey_36 : decode cX3_dealByKey 36 = .ok (.invokestatic 145, 3) := by decide +kernel
theorem dX3_dealByKey_39 : decode cX3_dealByKey 39 = .ok (.iload_n 3, 1) := by decide +kernel
theorem dX3_dealByKey_40 : decode cX3_dealByKey 40 = .ok (.if_icmp .ne 18, 3) := by decide +kernel
theorem dX3_dealByKey_43 : decode cX3_dealByKey 43 = .ok (.aload_n 2, 1) := by decide +kernel
theorem dX3_dealByKey_44 : decode cX3_dealByKey 44 = .ok (.iload 5, 2) := by decide +kernel
theorem dX3_dealByKey_46 : decode cX3_dealByKey 46 = .ok (.aload_n 0, 1) := by decide +kernel
theorem dX3_dealByKey_47 : decode cX3_dealByKey 47 = .ok (.getfield 24, 3) := by decide +kernel
theorem dX3_dealByKey_50 : decode cX3_dealByKey 50 = .ok (.iload 4, 2) := by decide +kernel
theorem dX3_dealByKey_52 : decode cX3_dealByKey 52 = .ok (.invokevirtual 152, 3) := by decide +kernel
theorem dX3_dealByKey_55 : decode cX3_dealByKey 55 = .ok (.invokevirtual 155, 3) := by decide +kernel
theorem dX3_dealByKey_58 : decode cX3_dealByKey 58 = .ok (.iinc 4 1, 3) := by decide +kernel
theorem dX3_dealByKey_61 : decode cX3_dealByKey 61 = .ok (.goto (-51), 3) := by decide +kernel
theorem dX3_dealByKey_64 : decode cX3_dealByKey 64 = .ok (.aload_n 2, 1) := by decide +kernel
theorem dX3_dealByKey_65 : decode cX3_dealByKey 65 = .ok (.invokevirtual 159, 3) := by decide +kernel
theorem dX3_dealByKey_68 : decode cX3_dealByKey 68 = .ok (.iinc 3 1, 3) := by decide +kernel
theorem dX3_dealByKey_71 : decode cX3_dealByKey 71 = .ok (.goto (-69), 3) := by decide +kernel
theorem dX3_dealByKey_74 : decode cX3_dealByKey 74 = .ok (.return_, 1) := by decide +kernel
theorem dX3_joinInOrder_0 : decode cX3_joinInOrder 0 = .ok (.iconst 0, 1) := by decide +kernel
theorem dX3_joinInOrder_1 : decode cX3_joinInOrder 1 = .ok (.istore 4, 2) := by decide +kernel
theorem dX3_joinInOrder_3 : decode cX3_joinInOrder 3 = .ok (.iload 4, 2) := by decide +kernel
theorem dX3_joinInOrder_5 : decode cX3_joinInOrder 5 = .ok (.aload_n 1, 1) := by decide +kernel
theorem dX3_joinInOrder_6 : decode cX3_joinInOrder 6 = .ok (.invokevirtual 162, 3) := by decide +kernel
theorem dX3_joinInOrder_9 : decode cX3_joinInOrder 9 = .ok (.if_icmp .ge 56, 3) := by decide +kernel
theorem dX3_joinInOrder_12 : decode cX3_joinInOrder 12 = .ok (.aload_n 1, 1) := by decide +kernel
theorem dX3_joinInOrder_13 : decode cX3_joinInOrder 13 = .ok (.iload 4, 2) := by decide +kernel
theorem dX3_joinInOrder_15 : decode cX3_joinInOrder 15 = .ok (.invokevirtual 165, 3) := by decide +kernel
theorem dX3_joinInOrder_18 : decode cX3_joinInOrder 18 = .ok (.istore 5, 2) := by decide +kernel
theorem dX3_joinInOrder_20 : decode cX3_joinInOrder 20 = .ok (.iload 5, 2) := by decide +kernel
theorem dX3_joinInOrder_22 : decode cX3_joinInOrder 22 = .ok (.aload_n 1, 1) := by decide +kernel
theorem dX3_joinInOrder_23 : decode cX3_joinInOrder 23 = .ok (.iload 4, 2) := by decide +kernel
theorem dX3_joinInOrder_25 : decode cX3_joinInOrder 25 = .ok (.invokevirtual 168, 3) := by decide +kernel
theorem dX3_joinInOrder_28 : decode cX3_joinInOrder 28 = .ok (.if_icmp .ge 27, 3) := by decide +kernel
theorem dX3_joinInOrder_31 : decode cX3_joinInOrder 31 = .ok (.aload_n 0, 1) := by decide +kernel
theorem dX3_joinInOrder_32 : decode cX3_joinInOrder 32 = .ok (.aload_n 1, 1) := by decide +kernel
theorem dX3_joinInOrder_33 : decode cX3_joinInOrder 33 = .ok (.iload 5, 2) := by decide +kernel
theorem dX3_joinInOrder_35 : decode cX3_joinInOrder 35 = .ok (.invokevirtual 148, 3) := by decide +kernel
theorem dX3_joinInOrder_38 : decode cX3_joinInOrder 38 = .ok (.aload_n 1, 1) := by decide +kernel
theorem dX3_joinInOrder_39 : decode cX3_joinInOrder 39 = .ok (.iload 5, 2) := by decide +kernel
theorem dX3_joinInOrder_41 : decode cX3_joinInOrder 41 = .ok (.invokevirtual 152, 3) := by decide +kernel
theorem dX3_joinInOrder_44 : decode cX3_joinInOrder 44 = .ok (.aload_n 2, 1) := by decide +kernel
theorem dX3_joinInOrder_45 : decode cX3_joinInOrder 45 = .ok (.aload_n 3, 1) := by decide +kernel
theorem dX3_joinInOrder_46 : decode cX3_joinInOrder 46 = .ok (.invokevirtual 206, 3) := by decide +kernel
theorem dX3_joinInOrder_49 : decode cX3_joinInOrder 49 = .ok (.iinc 5 1, 3) := by decide +kernel
theorem dX3_joinInOrder_52 : decode cX3_joinInOrder 52 = .ok (.goto (-32), 3) := by decide +kernel
theorem dX3_joinInOrder_55 : decode cX3_joinInOrder 55 = .ok (.aload_n 3, 1) := by decide +kernel
theorem dX3_joinInOrder_56 : decode cX3_joinInOrder 56 = .ok (.invokevirtual 159, 3) := by decide +kernel
theorem dX3_joinInOrder_59 : decode cX3_joinInOrder 59 = .ok (.iinc 4 1, 3) := by decide +kernel
theorem dX3_joinInOrder_62 : decode cX3_joinInOrder 62 = .ok (.goto (-59), 3) := by decide +kernel
theorem dX3_joinInOrder_65 : decode cX3_joinInOrder 65 = .ok (.return_, 1) := by decide +kernel
theorem dX3_sortByKey_0 : decode cX3_sortByKey 0 = .ok (.aload_n 0, 1) := by decide +kernel
theorem dX3_sortByKey_1 : decode cX3_sortByKey 1 = .ok (.getfield 24, 3) := by decide +kernel
theorem dX3_sortByKey_4 : decode cX3_sortByKey 4 = .ok (.invokevirtual 91, 3) := by decide +kernel
theorem dX3_sortByKey_7 : decode cX3_sortByKey 7 = .ok (.iconst 0, 1) := by decide +kernel
theorem dX3_sortByKey_8 : decode cX3_sortByKey 8 = .ok (.istore_n 2, 1) := by decide +kernel
theorem dX3_sortByKey_9 : decode cX3_sortByKey 9 = .ok (.iload_n 2, 1) := by decide +kernel
theorem dX3_sortByKey_10 : decode cX3_sortByKey 10 = .ok (.aload_n 1, 1) := by decide +kernel
theorem dX3_sortByKey_11 : decode cX3_sortByKey 11 = .ok (.invokevirtual 78, 3) := by decide +kernel
theorem dX3_sortByKey_14 : decode cX3_sortByKey 14 = .ok (.if_icmp .ge 36, 3) := by decide +kernel
theorem dX3_sortByKey_17 : decode cX3_sortByKey 17 = .ok (.aload_n 1, 1) := by decide +kernel
theorem dX3_sortByKey_18 : decode cX3_sortByKey 18 = .ok (.iload_n 2, 1) := by decide +kernel
theorem dX3_sortByKey_19 : decode cX3_sortByKey 19 = .ok (.invokevirtual 148, 3) := by decide +kernel
theorem dX3_sortByKey_22 : decode cX3_sortByKey 22 = .ok (.istore_n 3, 1) := by decide +kernel
theorem dX3_sortByKey_23 : decode cX3_sortByKey 23 = .ok (.aload_n 0, 1) := by decide +kernel
theorem dX3_sortByKey_24 : decode cX3_sortByKey 24 = .ok (.getfield 24, 3) := by decide +kernel
theorem dX3_sortByKey_27 : decode cX3_sortByKey 27 = .ok (.aload_n 0, 1) := by decide +kernel
theorem dX3_sortByKey_28 : decode cX3_sortByKey 28 = .ok (.getfield 24, 3) := by decide +kernel
theorem dX3_sortByKey_31 : decode cX3_sortByKey 31 = .ok (.iload_n 3, 1) := by decide +kernel
theorem dX3_sortByKey_32 : decode cX3_sortByKey 32 = .ok (.invokevirtual 187, 3) := by decide +kernel
theorem dX3_sortByKey_35 : decode cX3_sortByKey 35 = .ok (.iload_n 3, 1) := by decide +kernel
theorem dX3_sortByKey_36 : decode cX3_sortByKey 36 = .ok (.aload_n 1, 1) := by decide +kernel
theorem dX3_sortByKey_37 : decode cX3_sortByKey 37 = .ok (.iload_n 2, 1) := by decide +kernel
theorem dX3_sortByKey_38 : decode cX3_sortByKey 38 = .ok (.invokevirtual 152, 3) := by decide +kernel
theorem dX3_sortByKey_41 : decode cX3_sortByKey 41 = .ok (.invokevirtual 202, 3) := by decide +kernel
theorem dX3_sortByKey_44 : decode cX3_sortByKey 44 = .ok (.iinc 2 1, 3) := by decide +kernel
theorem dX3_sortByKey_47 : decode cX3_sortByKey 47 = .ok (.goto (-38), 3) := by decide +kernel
theorem dX3_sortByKey_50 : decode cX3_sortByKey 50 = .ok (.return_, 1) := by decide +kernel
theorem dX3_joinByKey_0 : decode cX3_joinByKey 0 = .ok (.iconst 0, 1) := by decide +kernel
theorem dX3_joinByKey_1 : decode cX3_joinByKey 1 = .ok (.istore 4, 2) := by decide +kernel
theorem dX3_joinByKey_3 : decode cX3_joinByKey 3 = .ok (.iload 4, 2) := by decide +kernel
theorem dX3_joinByKey_5 : decode cX3_joinByKey 5 = .ok (.iload_n 2, 1) := by decide +kernel
theorem dX3_joinByKey_6 : decode cX3_joinByKey 6 = .ok (.if_icmp .ge 73, 3) := by decide +kernel
theorem dX3_joinByKey_9 : decode cX3_joinByKey 9 = .ok (.iconst 0, 1) := by decide +kernel
theorem dX3_joinByKey_10 : decode cX3_joinByKey 10 = .ok (.istore 5, 2) := by decide +kernel
theorem dX3_joinByKey_12 : decode cX3_joinByKey 12 = .ok (.iload 5, 2) := by decide +kernel
theorem dX3_joinByKey_14 : decode cX3_joinByKey 14 = .ok (.aload_n 0, 1) := by decide +kernel
theorem dX3_joinByKey_15 : decode cX3_joinByKey 15 = .ok (.getfield 24, 3) := by decide +kernel
theorem dX3_joinByKey_18 : decode cX3_joinByKey 18 = .ok (.invokevirtual 78, 3) := by decide +kernel
theorem dX3_joinByKey_21 : decode cX3_joinByKey 21 = .ok (.if_icmp .ge 48, 3) := by decide +kernel
theorem dX3_joinByKey_24 : decode cX3_joinByKey 24 = .ok (.aload_n 0, 1) := by decide +kernel
theorem dX3_joinByKey_25 : decode cX3_joinByKey 25 = .ok (.getfield 24, 3) := by decide +kernel
theorem dX3_joinByKey_28 : decode cX3_joinByKey 28 = .ok (.iload 5, 2) := by decide +kernel
theorem dX3_joinByKey_30 : decode cX3_joinByKey 30 = .ok (.invokevirtual 148, 3) := by decide +kernel
theorem dX3_joinByKey_33 : decode cX3_joinByKey 33 = .ok (.istore 6, 2) := by decide +kernel
theorem dX3_joinByKey_35 : decode cX3_joinByKey 35 = .ok (.iload 6, 2) := by decide +kernel
theorem dX3_joinByKey_37 : decode cX3_joinByKey 37 = .ok (.iload_n 2, 1) := by decide +kernel
theorem dX3_joinByKey_38 : decode cX3_joinByKey 38 = .ok (.invokestatic 145, 3) := by decide +kernel
theorem dX3_joinByKey_41 : decode cX3_joinByKey 41 = .ok (.iload 4, 2) := by decide +kernel
theorem dX3_joinByKey_43 : decode cX3_joinByKey 43 = .ok (.if_icmp .ne 20, 3) := by decide +kernel
theorem dX3_joinByKey_46 : decode cX3_joinByKey 46 = .ok (.aload_n 0, 1) := by decide +kernel
theorem dX3_joinByKey_47 : decode cX3_joinByKey 47 = .ok (.iload 6, 2) := by decide +kernel
theorem dX3_joinByKey_49 : decode cX3_joinByKey 49 = .ok (.aload_n 0, 1) := by decide +kernel
theorem dX3_joinByKey_50 : decode cX3_joinByKey 50 = .ok (.getfield 24, 3) := by decide +kernel
theorem dX3_joinByKey_53 : decode cX3_joinByKey 53 = .ok (.iload 5, 2) := by decide +kernel
theorem dX3_joinByKey_55 : decode cX3_joinByKey 55 = .ok (.invokevirtual 152, 3) := by decide +kernel
theorem dX3_joinByKey_58 : decode cX3_joinByKey 58 = .ok (.aload_n 1, 1) := by decide +kernel
theorem dX3_joinByKey_59 : decode cX3_joinByKey 59 = .ok (.aload_n 3, 1) := by decide +kernel
theorem dX3_joinByKey_60 : decode cX3_joinByKey 60 = .ok (.invokevirtual 206, 3) := by decide +kernel
theorem dX3_joinByKey_63 : decode cX3_joinByKey 63 = .ok (.iinc 5 1, 3) := by decide +kernel
theorem dX3_joinByKey_66 : decode cX3_joinByKey 66 = .ok (.goto (-54), 3) := by decide +kernel
theorem dX3_joinByKey_69 : decode cX3_joinByKey 69 = .ok (.aload_n 3, 1) := by decide +kernel
theorem dX3_joinByKey_70 : decode cX3_joinByKey 70 = .ok (.invokevirtual 159, 3) := by decide +kernel
theorem dX3_joinByKey_73 : decode cX3_joinByKey 73 = .ok (.iinc 4 1, 3) := by decide +kernel
theorem dX3_joinByKey_76 : decode cX3_joinByKey 76 = .ok (.goto (-73), 3) := by decide +kernel
theorem dX3_joinByKey_79 : decode cX3_joinByKey 79 = .ok (.return_, 1) := by decide +kernel
theorem dX3_addMatches_0 : decode cX3_addMatches 0 = .ok (.iconst 0, 1) := by decide +kernel
theorem dX3_addMatches_1 : decode cX3_addMatches 1 = .ok (.istore 5, 2) := by decide +kernel
theorem dX3_addMatches_3 : decode cX3_addMatches 3 = .ok (.iload 5, 2) := by decide +kernel
theorem dX3_addMatches_5 : decode cX3_addMatches 5 = .ok (.aload_n 3, 1) := by decide +kernel
theorem dX3_addMatches_6 : decode cX3_addMatches 6 = .ok (.invokevirtual 78, 3) := by decide +kernel
theorem dX3_addMatches_9 : decode cX3_addMatches 9 = .ok (.if_icmp .ge 33, 3) := by decide +kernel
theorem dX3_addMatches_12 : decode cX3_addMatches 12 = .ok (.aload_n 3, 1) := by decide +kernel
theorem dX3_addMatches_13 : decode cX3_addMatches 13 = .ok (.iload 5, 2) := by decide +kernel
theorem dX3_addMatches_15 : decode cX3_addMatches 15 = .ok (.invokevirtual 148, 3) := by decide +kernel
theorem dX3_addMatches_18 : decode cX3_addMatches 18 = .ok (.iload_n 1, 1) := by decide +kernel
theorem dX3_addMatches_19 : decode cX3_addMatches 19 = .ok (.if_icmp .ne 17, 3) := by decide +kernel
theorem dX3_addMatches_22 : decode cX3_addMatches 22 = .ok (.aload 4, 2) := by decide +kernel
theorem dX3_addMatches_24 : decode cX3_addMatches 24 = .ok (.iload_n 1, 1) := by decide +kernel
theorem dX3_addMatches_25 : decode cX3_addMatches 25 = .ok (.iload_n 2, 1) := by decide +kernel
theorem dX3_addMatches_26 : decode cX3_addMatches 26 = .ok (.aload_n 3, 1) := by decide +kernel
theorem dX3_addMatches_27 : decode cX3_addMatches 27 = .ok (.iload 5, 2) := by decide +kernel
theorem dX3_addMatches_29 : decode cX3_addMatches 29 = .ok (.invokevirtual 152, 3) := by decide +kernel
theorem dX3_addMatches_32 : decode cX3_addMatches 32 = .ok (.iadd, 1) := by decide +kernel
theorem dX3_addMatches_33 : decode cX3_addMatches 33 = .ok (.invokevirtual 155, 3) := by decide +kernel
theorem dX3_addMatches_36 : decode cX3_addMatches 36 = .ok (.iinc 5 1, 3) := by decide +kernel
theorem dX3_addMatches_39 : decode cX3_addMatches 39 = .ok (.goto (-36), 3) := by decide +kernel
theorem dX3_addMatches_42 : decode cX3_addMatches 42 = .ok (.return_, 1) := by decide +kernel
theorem dX4_init_0 : decode cX4_init 0 = .ok (.aload_n 0, 1) := by decide +kernel
theorem dX4_init_1 : decode cX4_init 1 = .ok (.invokespecial 1, 3) := by decide +kernel
theorem dX4_init_4 : decode cX4_init 4 = .ok (.aload_n 0, 1) := by decide +kernel
theorem dX4_init_5 : decode cX4_init 5 = .ok (.iconst 0, 1) := by decide +kernel
theorem dX4_init_6 : decode cX4_init 6 = .ok (.iload_n 1, 1) := by decide +kernel
theorem dX4_init_7 : decode cX4_init 7 = .ok (.invokestatic 7, 3) := by decide +kernel
theorem dX4_init_10 : decode cX4_init 10 = .ok (.newarray .int, 2) := by decide +kernel
theorem dX4_init_12 : decode cX4_init 12 = .ok (.putfield 13, 3) := by decide +kernel
theorem dX4_init_15 : decode cX4_init 15 = .ok (.return_, 1) := by decide +kernel
theorem dX4_at_0 : decode cX4_at 0 = .ok (.iload_n 1, 1) := by decide +kernel
theorem dX4_at_1 : decode cX4_at 1 = .ok (.ifCond .lt 21, 3) := by decide +kernel
theorem dX4_at_4 : decode cX4_at 4 = .ok (.iload_n 1, 1) := by decide +kernel
theorem dX4_at_5 : decode cX4_at 5 = .ok (.aload_n 0, 1) := by decide +kernel
theorem dX4_at_6 : decode cX4_at 6 = .ok (.getfield 13, 3) := by decide +kernel
theorem dX4_at_9 : decode cX4_at 9 = .ok (.arraylength, 1) := by decide +kernel
theorem dX4_at_10 : decode cX4_at 10 = .ok (.if_icmp .ge 12, 3) := by decide +kernel
theorem dX4_at_13 : decode cX4_at 13 = .ok (.aload_n 0, 1) := by decide +kernel
theorem dX4_at_14 : decode cX4_at 14 = .ok (.getfield 13, 3) := by decide +kernel
theorem dX4_at_17 : decode cX4_at 17 = .ok (.iload_n 1, 1) := by decide +kernel
theorem dX4_at_18 : decode cX4_at 18 = .ok (.iaload, 1) := by decide +kernel
theorem dX4_at_19 : decode cX4_at 19 = .ok (.goto 4, 3) := by decide +kernel
theorem dX4_at_22 : decode cX4_at 22 = .ok (.iconst 0, 1) := by decide +kernel
theorem dX4_at_23 : decode cX4_at 23 = .ok (.ireturn, 1) := by decide +kernel
theorem dX4_set_0 : decode cX4_set 0 = .ok (.iload_n 1, 1) := by decide +kernel
theorem dX4_set_1 : decode cX4_set 1 = .ok (.ifCond .lt 19, 3) := by decide +kernel
theorem dX4_set_4 : decode cX4_set 4 = .ok (.iload_n 1, 1) := by decide +kernel
theorem dX4_set_5 : decode cX4_set 5 = .ok (.aload_n 0, 1) := by decide +kernel
theorem dX4_set_6 : decode cX4_set 6 = .ok (.getfield 13, 3) := by decide +kernel
theorem dX4_set_9 : decode cX4_set 9 = .ok (.arraylength, 1) := by decide +kernel
theorem dX4_set_10 : decode cX4_set 10 = .ok (.if_icmp .ge 10, 3) := by decide +kernel
theorem dX4_set_13 : decode cX4_set 13 = .ok (.aload_n 0, 1) := by decide +kernel
theorem dX4_set_14 : decode cX4_set 14 = .ok (.getfield 13, 3) := by decide +kernel
theorem dX4_set_17 : decode cX4_set 17 = .ok (.iload_n 1, 1) := by decide +kernel
theorem dX4_set_18 : decode cX4_set 18 = .ok (.iload_n 2, 1) := by decide +kernel
theorem dX4_set_19 : decode cX4_set 19 = .ok (.iastore, 1) := by decide +kernel
theorem dX4_set_20 : decode cX4_set 20 = .ok (.return_, 1) := by decide +kernel
theorem dX6_init_0 : decode cX6_init 0 = .ok (.aload_n 0, 1) := by decide +kernel
theorem dX6_init_1 : decode cX6_init 1 = .ok (.invokespecial 3, 3) := by decide +kernel
theorem dX6_init_4 : decode cX6_init 4 = .ok (.aload_n 0, 1) := by decide +kernel
theorem dX6_init_5 : decode cX6_init 5 = .ok (.new 9, 3) := by decide +kernel
theorem dX6_init_8 : decode cX6_init 8 = .ok (.dup, 1) := by decide +kernel
theorem dX6_init_9 : decode cX6_init 9 = .ok (.sipush 224, 3) := by decide +kernel
theorem dX6_init_12 : decode cX6_init 12 = .ok (.invokespecial 11, 3) := by decide +kernel
theorem dX6_init_15 : decode cX6_init 15 = .ok (.putfield 14, 3) := by decide +kernel
theorem dX6_init_18 : decode cX6_init 18 = .ok (.aload_n 0, 1) := by decide +kernel
theorem dX6_init_19 : decode cX6_init 19 = .ok (.new 9, 3) := by decide +kernel
theorem dX6_init_22 : decode cX6_init 22 = .ok (.dup, 1) := by decide +kernel
theorem dX6_init_23 : decode cX6_init 23 = .ok (.sipush 224, 3) := by decide +kernel
theorem dX6_init_26 : decode cX6_init 26 = .ok (.invokespecial 11, 3) := by decide +kernel
theorem dX6_init_29 : decode cX6_init 29 = .ok (.putfield 20, 3) := by decide +kernel
theorem dX6_init_32 : decode cX6_init 32 = .ok (.aload_n 0, 1) := by decide +kernel
theorem dX6_init_33 : decode cX6_init 33 = .ok (.new 9, 3) := by decide +kernel
theorem dX6_init_36 : decode cX6_init 36 = .ok (.dup, 1) := by decide +kernel
theorem dX6_init_37 : decode cX6_init 37 = .ok (.sipush 224, 3) := by decide +kernel
theorem dX6_init_40 : decode cX6_init 40 = .ok (.invokespecial 11, 3) := by decide +kernel
theorem dX6_init_43 : decode cX6_init 43 = .ok (.putfield 23, 3) := by decide +kernel
theorem dX6_init_46 : decode cX6_init 46 = .ok (.aload_n 0, 1) := by decide +kernel
theorem dX6_init_47 : decode cX6_init 47 = .ok (.new 9, 3) := by decide +kernel
theorem dX6_init_50 : decode cX6_init 50 = .ok (.dup, 1) := by decide +kernel
theorem dX6_init_51 : decode cX6_init 51 = .ok (.sipush 224, 3) := by decide +kernel
theorem dX6_init_54 : decode cX6_init 54 = .ok (.invokespecial 11, 3) := by decide +kernel
theorem dX6_init_57 : decode cX6_init 57 = .ok (.putfield 26, 3) := by decide +kernel
theorem dX6_init_60 : decode cX6_init 60 = .ok (.aload_n 0, 1) := by decide +kernel
theorem dX6_init_61 : decode cX6_init 61 = .ok (.new 9, 3) := by decide +kernel
theorem dX6_init_64 : decode cX6_init 64 = .ok (.dup, 1) := by decide +kernel
theorem dX6_init_65 : decode cX6_init 65 = .ok (.sipush 224, 3) := by decide +kernel
theorem dX6_init_68 : decode cX6_init 68 = .ok (.invokespecial 11, 3) := by decide +kernel
theorem dX6_init_71 : decode cX6_init 71 = .ok (.putfield 29, 3) := by decide +kernel
theorem dX6_init_74 : decode cX6_init 74 = .ok (.aload_n 0, 1) := by decide +kernel
theorem dX6_init_75 : decode cX6_init 75 = .ok (.new 9, 3) := by decide +kernel
theorem dX6_init_78 : decode cX6_init 78 = .ok (.dup, 1) := by decide +kernel
theorem dX6_init_79 : decode cX6_init 79 = .ok (.sipush 224, 3) := by decide +kernel
theorem dX6_init_82 : decode cX6_init 82 = .ok (.invokespecial 11, 3) := by decide +kernel
theorem dX6_init_85 : decode cX6_init 85 = .ok (.putfield 32, 3) := by decide +kernel
theorem dX6_init_88 : decode cX6_init 88 = .ok (.return_, 1) := by decide +kernel
theorem dX6_begin_0 : decode cX6_begin 0 = .ok (.aload_n 0, 1) := by decide +kernel
theorem dX6_begin_1 : decode cX6_begin 1 = .ok (.iconst 0, 1) := by decide +kernel
theorem dX6_begin_2 : decode cX6_begin 2 = .ok (.putfield 35, 3) := by decide +kernel
theorem dX6_begin_5 : decode cX6_begin 5 = .ok (.aload_n 0, 1) := by decide +kernel
theorem dX6_begin_6 : decode cX6_begin 6 = .ok (.iconst 0, 1) := by decide +kernel
theorem dX6_begin_7 : decode cX6_begin 7 = .ok (.putfield 39, 3) := by decide +kernel
theorem dX6_begin_10 : decode cX6_begin 10 = .ok (.aload_n 0, 1) := by decide +kernel
theorem dX6_begin_11 : decode cX6_begin 11 = .ok (.iload_n 1, 1) := by decide +kernel
theorem dX6_begin_12 : decode cX6_begin 12 = .ok (.putfield 42, 3) := by decide +kernel
theorem dX6_begin_15 : decode cX6_begin 15 = .ok (.return_, 1) := by decide +kernel
theorem dX6_add_0 : decode cX6_add 0 = .ok (.aload_n 0, 1) := by decide +kernel
theorem dX6_add_1 : decode cX6_add 1 = .ok (.getfield 35, 3) := by decide +kernel
theorem dX6_add_4 : decode cX6_add 4 = .ok (.istore 7, 2) := by decide +kernel
theorem dX6_add_6 : decode cX6_add 6 = .ok (.aload_n 0, 1) := by decide +kernel
theorem dX6_add_7 : decode cX6_add 7 = .ok (.getfield 14, 3) := by decide +kernel
theorem dX6_add_10 : decode cX6_add 10 = .ok (.iload 7, 2) := by decide +kernel
theorem dX6_add_12 : decode cX6_add 12 = .ok (.iload_n 1, 1) := by decide +kernel
theorem dX6_add_13 : decode cX6_add 13 = .ok (.invokevirtual 45, 3) := by decide +kernel
theorem dX6_add_16 : decode cX6_add 16 = .ok (.aload_n 0, 1) := by decide +kernel
theorem dX6_add_17 : decode cX6_add 17 = .ok (.getfield 20, 3) := by decide +kernel
theorem dX6_add_20 : decode cX6_add 20 = .ok (.iload 7, 2) := by decide +kernel
theorem dX6_add_22 : decode cX6_add 22 = .ok (.iload_n 2, 1) := by decide +kernel
theorem dX6_add_23 : decode cX6_add 23 = .ok (.invokevirtual 45, 3) := by decide +kernel
theorem dX6_add_26 : decode cX6_add 26 = .ok (.aload_n 0, 1) := by decide +kernel
theorem dX6_add_27 : decode cX6_add 27 = .ok (.getfield 23, 3) := by decide +kernel
theorem dX6_add_30 : decode cX6_add 30 = .ok (.iload 7, 2) := by decide +kernel
theorem dX6_add_32 : decode cX6_add 32 = .ok (.iload_n 3, 1) := by decide +kernel
theorem dX6_add_33 : decode cX6_add 33 = .ok (.invokevirtual 45, 3) := by decide +kernel
theorem dX6_add_36 : decode cX6_add 36 = .ok (.aload_n 0, 1) := by decide +kernel
theorem dX6_add_37 : decode cX6_add 37 = .ok (.getfield 26, 3) := by decide +kernel
theorem dX6_add_40 : decode cX6_add 40 = .ok (.iload 7, 2) := by decide +kernel
theorem dX6_add_42 : decode cX6_add 42 = .ok (.iload 4, 2) := by decide +kernel
theorem dX6_add_44 : decode cX6_add 44 = .ok (.invokevirtual 45, 3) := by decide +kernel
theorem dX6_add_47 : decode cX6_add 47 = .ok (.aload_n 0, 1) := by decide +kernel
theorem dX6_add_48 : decode cX6_add 48 = .ok (.getfield 29, 3) := by decide +kernel
theorem dX6_add_51 : decode cX6_add 51 = .ok (.iload 7, 2) := by decide +kernel
theorem dX6_add_53 : decode cX6_add 53 = .ok (.iload 5, 2) := by decide +kernel
theorem dX6_add_55 : decode cX6_add 55 = .ok (.invokevirtual 45, 3) := by decide +kernel
theorem dX6_add_58 : decode cX6_add 58 = .ok (.aload_n 0, 1) := by decide +kernel
theorem dX6_add_59 : decode cX6_add 59 = .ok (.getfield 32, 3) := by decide +kernel
theorem dX6_add_62 : decode cX6_add 62 = .ok (.iload 7, 2) := by decide +kernel
theorem dX6_add_64 : decode cX6_add 64 = .ok (.iload 6, 2) := by decide +kernel
theorem dX6_add_66 : decode cX6_add 66 = .ok (.ifCond .eq 7, 3) := by decide +kernel
theorem dX6_add_69 : decode cX6_add 69 = .ok (.iconst 1, 1) := by decide +kernel
theorem dX6_add_70 : decode cX6_add 70 = .ok (.goto 4, 3) := by decide +kernel
theorem dX6_add_73 : decode cX6_add 73 = .ok (.iconst 0, 1) := by decide +kernel
theorem dX6_add_74 : decode cX6_add 74 = .ok (.invokevirtual 45, 3) := by decide +kernel
theorem dX6_add_77 : decode cX6_add 77 = .ok (.aload_n 0, 1) := by decide +kernel
theorem dX6_add_78 : decode cX6_add 78 = .ok (.dup, 1) := by decide +kernel
theorem dX6_add_79 : decode cX6_add 79 = .ok (.getfield 35, 3) := by decide +kernel
theorem dX6_add_82 : decode cX6_add 82 = .ok (.iconst 1, 1) := by decide +kernel
theorem dX6_add_83 : decode cX6_add 83 = .ok (.iadd, 1) := by decide +kernel
theorem dX6_add_84 : decode cX6_add 84 = .ok (.putfield 35, 3) := by decide +kernel
theorem dX6_add_87 : decode cX6_add 87 = .ok (.iload 7, 2) := by decide +kernel
theorem dX6_add_89 : decode cX6_add 89 = .ok (.ireturn, 1) := by decide +kernel
theorem dX6_ticksOfAttempts_0 : decode cX6_ticksOfAttempts 0 = .ok (.iconst 0, 1) := by decide +kernel
theorem dX6_ticksOfAttempts_1 : decode cX6_ticksOfAttempts 1 = .ok (.istore_n 1, 1) := by decide +kernel
theorem dX6_ticksOfAttempts_2 : decode cX6_ticksOfAttempts 2 = .ok (.iconst 0, 1) := by decide +kernel
theorem dX6_ticksOfAttempts_3 : decode cX6_ticksOfAttempts 3 = .ok (.istore_n 2, 1) := by decide +kernel
theorem dX6_ticksOfAttempts_4 : decode cX6_ticksOfAttempts 4 = .ok (.iload_n 2, 1) := by decide +kernel
theorem dX6_ticksOfAttempts_5 : decode cX6_ticksOfAttempts 5 = .ok (.aload_n 0, 1) := by decide +kernel
theorem dX6_ticksOfAttempts_6 : decode cX6_ticksOfAttempts 6 = .ok (.getfield 35, 3) := by decide +kernel
theorem dX6_ticksOfAttempts_9 : decode cX6_ticksOfAttempts 9 = .ok (.if_icmp .ge 29, 3) := by decide +kernel
theorem dX6_ticksOfAttempts_12 : decode cX6_ticksOfAttempts 12 = .ok (.iload_n 1, 1) := by decide +kernel
theorem dX6_ticksOfAttempts_13 : decode cX6_ticksOfAttempts 13 = .ok (.aload_n 0, 1) := by decide +kernel
theorem dX6_ticksOfAttempts_14 : decode cX6_ticksOfAttempts 14 = .ok (.getfield 29, 3) := by decide +kernel
theorem dX6_ticksOfAttempts_17 : decode cX6_ticksOfAttempts 17 = .ok (.iload_n 2, 1) := by decide +kernel
theorem dX6_ticksOfAttempts_18 : decode cX6_ticksOfAttempts 18 = .ok (.invokevirtual 49, 3) := by decide +kernel
theorem dX6_ticksOfAttempts_21 : decode cX6_ticksOfAttempts 21 = .ok (.aload_n 0, 1) := by decide +kernel
theorem dX6_ticksOfAttempts_22 : decode cX6_ticksOfAttempts 22 = .ok (.getfield 26, 3) := by decide +kernel
theorem dX6_ticksOfAttempts_25 : decode cX6_ticksOfAttempts 25 = .ok (.iload_n 2, 1) := by decide +kernel
theorem dX6_ticksOfAttempts_26 : decode cX6_ticksOfAttempts 26 = .ok (.invokevirtual 49, 3) := by decide +kernel
theorem dX6_ticksOfAttempts_29 : decode cX6_ticksOfAttempts 29 = .ok (.isub, 1) := by decide +kernel
theorem dX6_ticksOfAttempts_30 : decode cX6_ticksOfAttempts 30 = .ok (.iadd, 1) := by decide +kernel
theorem dX6_ticksOfAttempts_31 : decode cX6_ticksOfAttempts 31 = .ok (.istore_n 1, 1) := by decide +kernel
theorem dX6_ticksOfAttempts_32 : decode cX6_ticksOfAttempts 32 = .ok (.iinc 2 1, 3) := by decide +kernel
theorem dX6_ticksOfAttempts_35 : decode cX6_ticksOfAttempts 35 = .ok (.goto (-31), 3) := by decide +kernel
theorem dX6_ticksOfAttempts_38 : decode cX6_ticksOfAttempts 38 = .ok (.iload_n 1, 1) := by decide +kernel
theorem dX6_ticksOfAttempts_39 : decode cX6_ticksOfAttempts 39 = .ok (.ireturn, 1) := by decide +kernel
theorem dX7_init_0 : decode cX7_init 0 = .ok (.aload_n 0, 1) := by decide +kernel
theorem dX7_init_1 : decode cX7_init 1 = .ok (.invokespecial 3, 3) := by decide +kernel
theorem dX7_init_4 : decode cX7_init 4 = .ok (.aload_n 0, 1) := by decide +kernel
theorem dX7_init_5 : decode cX7_init 5 = .ok (.aload_n 1, 1) := by decide +kernel
theorem dX7_init_6 : decode cX7_init 6 = .ok (.putfield 9, 3) := by decide +kernel
theorem dX7_init_9 : decode cX7_init 9 = .ok (.aload_n 0, 1) := by decide +kernel
theorem dX7_init_10 : decode cX7_init 10 = .ok (.iload_n 2, 1) := by decide +kernel
theorem dX7_init_11 : decode cX7_init 11 = .ok (.putfield 15, 3) := by decide +kernel
theorem dX7_init_14 : decode cX7_init 14 = .ok (.aload_n 0, 1) := by decide +kernel
theorem dX7_init_15 : decode cX7_init 15 = .ok (.iload_n 3, 1) := by decide +kernel
theorem dX7_init_16 : decode cX7_init 16 = .ok (.putfield 19, 3) := by decide +kernel
theorem dX7_init_19 : decode cX7_init 19 = .ok (.aload_n 0, 1) := by decide +kernel
theorem dX7_init_20 : decode cX7_init 20 = .ok (.iload 4, 2) := by decide +kernel
theorem dX7_init_22 : decode cX7_init 22 = .ok (.putfield 22, 3) := by decide +kernel
theorem dX7_init_25 : decode cX7_init 25 = .ok (.aload_n 0, 1) := by decide +kernel
theorem dX7_init_26 : decode cX7_init 26 = .ok (.iload 5, 2) := by decide +kernel
theorem dX7_init_28 : decode cX7_init 28 = .ok (.putfield 25, 3) := by decide +kernel
theorem dX7_init_31 : decode cX7_init 31 = .ok (.aload_n 0, 1) := by decide +kernel
theorem dX7_init_32 : decode cX7_init 32 = .ok (.new 28, 3) := by decide +kernel
theorem dX7_init_35 : decode cX7_init 35 = .ok (.dup, 1) := by decide +kernel
theorem dX7_init_36 : decode cX7_init 36 = .ok (.aload_n 1, 1) := by decide +kernel
theorem dX7_init_37 : decode cX7_init 37 = .ok (.getstatic 30, 3) := by decide +kernel
theorem dX7_init_40 : decode cX7_init 40 = .ok (.if_acmp .ne 8, 3) := by decide +kernel
theorem dX7_init_43 : decode cX7_init 43 = .ok (.bipush 12, 2) := by decide +kernel
theorem dX7_init_45 : decode cX7_init 45 = .ok (.goto 4, 3) := by decide +kernel
theorem dX7_init_48 : decode cX7_init 48 = .ok (.iconst 0, 1) := by decide +kernel
theorem dX7_init_49 : decode cX7_init 49 = .ok (.invokespecial 35, 3) := by decide +kernel
theorem dX7_init_52 : decode cX7_init 52 = .ok (.putfield 38, 3) := by decide +kernel
theorem dX7_init_55 : decode cX7_init 55 = .ok (.return_, 1) := by decide +kernel
theorem dX7_newKey_0 : decode cX7_newKey 0 = .ok (.aload_n 0, 1) := by decide +kernel
theorem dX7_newKey_1 : decode cX7_newKey 1 = .ok (.getfield 42, 3) := by decide +kernel
theorem dX7_newKey_4 : decode cX7_newKey 4 = .ok (.iconst 2, 1) := by decide +kernel
theorem dX7_newKey_5 : decode cX7_newKey 5 = .ok (.if_icmp .ne 10, 3) := by decide +kernel
theorem dX7_newKey_8 : decode cX7_newKey 8 = .ok (.iload_n 1, 1) := by decide +kernel
theorem dX7_newKey_9 : decode cX7_newKey 9 = .ok (.aload_n 0, 1) := by decide +kernel
theorem dX7_newKey_10 : decode cX7_newKey 10 = .ok (.getfield 45, 3) := by decide +kernel
theorem dX7_newKey_13 : decode cX7_newKey 13 = .ok (.iadd, 1) := by decide +kernel
theorem dX7_newKey_14 : decode cX7_newKey 14 = .ok (.ireturn, 1) := by decide +kernel
theorem dX7_newKey_15 : decode cX7_newKey 15 = .ok (.aload_n 0, 1) := by decide +kernel
theorem dX7_newKey_16 : decode cX7_newKey 16 = .ok (.getfield 42, 3) := by decide +kernel
theorem dX7_newKey_19 : decode cX7_newKey 19 = .ok (.iconst 3, 1) := by decide +kernel
theorem dX7_newKey_20 : decode cX7_newKey 20 = .ok (.if_icmp .ne 12, 3) := by decide +kernel
theorem dX7_newKey_23 : decode cX7_newKey 23 = .ok (.iload_n 1, 1) := by decide +kernel
theorem dX7_newKey_24 : decode cX7_newKey 24 = .ok (.aload_n 0, 1) := by decide +kernel
theorem dX7_newKey_25 : decode cX7_newKey 25 = .ok (.getfield 45, 3) := by decide +kernel
theorem dX7_newKey_28 : decode cX7_newKey 28 = .ok (.invokestatic 48, 3) := by decide +kernel
theorem dX7_newKey_31 : decode cX7_newKey 31 = .ok (.ireturn, 1) := by decide +kernel
theorem dX7_newKey_32 : decode cX7_newKey 32 = .ok (.aload_n 0, 1) := by decide +kernel
theorem dX7_newKey_33 : decode cX7_newKey 33 = .ok (.getfield 42, 3) := by decide +kernel
theorem dX7_newKey_36 : decode cX7_newKey 36 = .ok (.iconst 4, 1) := by decide +kernel
theorem dX7_newKey_37 : decode cX7_newKey 37 = .ok (.if_icmp .ne 7, 3) := by decide +kernel
theorem dX7_newKey_40 : decode cX7_newKey 40 = .ok (.iload_n 2, 1) := by decide +kernel
theorem dX7_newKey_41 : decode cX7_newKey 41 = .ok (.goto 4, 3) := by decide +kernel
theorem dX7_newKey_44 : decode cX7_newKey 44 = .ok (.iload_n 1, 1) := by decide +kernel
theorem dX7_newKey_45 : decode cX7_newKey 45 = .ok (.ireturn, 1) := by decide +kernel
theorem dX7_newValue_0 : decode cX7_newValue 0 = .ok (.aload_n 0, 1) := by decide +kernel
theorem dX7_newValue_1 : decode cX7_newValue 1 = .ok (.getfield 42, 3) := by decide +kernel
theorem dX7_newValue_4 : decode cX7_newValue 4 = .ok (.iconst 1, 1) := by decide +kernel
theorem dX7_newValue_5 : decode cX7_newValue 5 = .ok (.if_icmp .ne 10, 3) := by decide +kernel
theorem dX7_newValue_8 : decode cX7_newValue 8 = .ok (.iload_n 2, 1) := by decide +kernel
theorem dX7_newValue_9 : decode cX7_newValue 9 = .ok (.aload_n 0, 1) := by decide +kernel
theorem dX7_newValue_10 : decode cX7_newValue 10 = .ok (.getfield 45, 3) := by decide +kernel
theorem dX7_newValue_13 : decode cX7_newValue 13 = .ok (.imul, 1) := by decide +kernel
theorem dX7_newValue_14 : decode cX7_newValue 14 = .ok (.ireturn, 1) := by decide +kernel
theorem dX7_newValue_15 : decode cX7_newValue 15 = .ok (.aload_n 0, 1) := by decide +kernel
theorem dX7_newValue_16 : decode cX7_newValue 16 = .ok (.getfield 42, 3) := by decide +kernel
theorem dX7_newValue_19 : decode cX7_newValue 19 = .ok (.iconst 4, 1) := by decide +kernel
theorem dX7_newValue_20 : decode cX7_newValue 20 = .ok (.if_icmp .ne 5, 3) := by decide +kernel
theorem dX7_newValue_23 : decode cX7_newValue 23 = .ok (.iload_n 1, 1) := by decide +kernel
theorem dX7_newValue_24 : decode cX7_newValue 24 = .ok (.ireturn, 1) := by decide +kernel
theorem dX7_newValue_25 : decode cX7_newValue 25 = .ok (.aload_n 0, 1) := by decide +kernel
theorem dX7_newValue_26 : decode cX7_newValue 26 = .ok (.getfield 42, 3) := by decide +kernel
theorem dX7_newValue_29 : decode cX7_newValue 29 = .ok (.iconst 2, 1) := by decide +kernel
theorem dX7_newValue_30 : decode cX7_newValue 30 = .ok (.if_icmp .eq 11, 3) := by decide +kernel
theorem dX7_newValue_33 : decode cX7_newValue 33 = .ok (.aload_n 0, 1) := by decide +kernel
theorem dX7_newValue_34 : decode cX7_newValue 34 = .ok (.getfield 42, 3) := by decide +kernel
theorem dX7_newValue_37 : decode cX7_newValue 37 = .ok (.iconst 3, 1) := by decide +kernel
theorem dX7_newValue_38 : decode cX7_newValue 38 = .ok (.if_icmp .ne 7, 3) := by decide +kernel
theorem dX7_newValue_41 : decode cX7_newValue 41 = .ok (.iload_n 2, 1) := by decide +kernel
theorem dX7_newValue_42 : decode cX7_newValue 42 = .ok (.goto 9, 3) := by decide +kernel
theorem dX7_newValue_45 : decode cX7_newValue 45 = .ok (.iload_n 2, 1) := by decide +kernel
theorem dX7_newValue_46 : decode cX7_newValue 46 = .ok (.aload_n 0, 1) := by decide +kernel
theorem dX7_newValue_47 : decode cX7_newValue 47 = .ok (.getfield 45, 3) := by decide +kernel
theorem dX7_newValue_50 : decode cX7_newValue 50 = .ok (.iadd, 1) := by decide +kernel
theorem dX7_newValue_51 : decode cX7_newValue 51 = .ok (.ireturn, 1) := by decide +kernel
theorem dX7_firstOfGroup_0 : decode cX7_firstOfGroup 0 = .ok (.aload_n 0, 1) := by decide +kernel
theorem dX7_firstOfGroup_1 : decode cX7_firstOfGroup 1 = .ok (.getfield 42, 3) := by decide +kernel
theorem dX7_firstOfGroup_4 : decode cX7_firstOfGroup 4 = .ok (.iconst 3, 1) := by decide +kernel
theorem dX7_firstOfGroup_5 : decode cX7_firstOfGroup 5 = .ok (.if_icmp .ne 7, 3) := by decide +kernel
theorem dX7_firstOfGroup_8 : decode cX7_firstOfGroup 8 = .ok (.iconst 1, 1) := by decide +kernel
theorem dX7_firstOfGroup_9 : decode cX7_firstOfGroup 9 = .ok (.goto 4, 3) := by decide +kernel
theorem dX7_firstOfGroup_12 : decode cX7_firstOfGroup 12 = .ok (.iload_n 1, 1) := by decide +kernel
theorem dX7_firstOfGroup_13 : decode cX7_firstOfGroup 13 = .ok (.ireturn, 1) := by decide +kernel
theorem dX7_nextOfGroup_0 : decode cX7_nextOfGroup 0 = .ok (.aload_n 0, 1) := by decide +kernel
theorem dX7_nextOfGroup_1 : decode cX7_nextOfGroup 1 = .ok (.getfield 42, 3) := by decide +kernel
theorem dX7_nextOfGroup_4 : decode cX7_nextOfGroup 4 = .ok (.iconst 1, 1) := by decide +kernel
theorem dX7_nextOfGroup_5 : decode cX7_nextOfGroup 5 = .ok (.if_icmp .ne 9, 3) := by decide +kernel
theorem dX7_nextOfGroup_8 : decode cX7_nextOfGroup 8 = .ok (.iload_n 1, 1) := by decide +kernel
theorem dX7_nextOfGroup_9 : decode cX7_nextOfGroup 9 = .ok (.iload_n 2, 1) := by decide +kernel
theorem dX7_nextOfGroup_10 : decode cX7_nextOfGroup 10 = .ok (.invokestatic 52, 3) := by decide +kernel
theorem dX7_nextOfGroup_13 : decode cX7_nextOfGroup 13 = .ok (.ireturn, 1) := by decide +kernel
theorem dX7_nextOfGroup_14 : decode cX7_nextOfGroup 14 = .ok (.aload_n 0, 1) := by decide +kernel
theorem dX7_nextOfGroup_15 : decode cX7_nextOfGroup 15 = .ok (.getfield 42, 3) := by decide +kernel
theorem dX7_nextOfGroup_18 : decode cX7_nextOfGroup 18 = .ok (.iconst 2, 1) := by decide +kernel
theorem dX7_nextOfGroup_19 : decode cX7_nextOfGroup 19 = .ok (.if_icmp .ne 9, 3) := by decide +kernel
theorem dX7_nextOfGroup_22 : decode cX7_nextOfGroup 22 = .ok (.iload_n 1, 1) := by decide +kernel
theorem dX7_nextOfGroup_23 : decode cX7_nextOfGroup 23 = .ok (.iload_n 2, 1) := by decide +kernel
theorem dX7_nextOfGroup_24 : decode cX7_nextOfGroup 24 = .ok (.invokestatic 57, 3) := by decide +kernel
theorem dX7_nextOfGroup_27 : decode cX7_nextOfGroup 27 = .ok (.ireturn, 1) := by decide +kernel
theorem dX7_nextOfGroup_28 : decode cX7_nextOfGroup 28 = .ok (.iload_n 1, 1) := by decide +kernel
theorem dX7_nextOfGroup_29 : decode cX7_nextOfGroup 29 = .ok (.aload_n 0, 1) := by decide +kernel
theorem dX7_nextOfGroup_30 : decode cX7_nextOfGroup 30 = .ok (.iload_n 2, 1) := by decide +kernel
theorem dX7_nextOfGroup_31 : decode cX7_nextOfGroup 31 = .ok (.invokevirtual 60, 3) := by decide +kernel
theorem dX7_nextOfGroup_34 : decode cX7_nextOfGroup 34 = .ok (.iadd, 1) := by decide +kernel
theorem dX7_nextOfGroup_35 : decode cX7_nextOfGroup 35 = .ok (.ireturn, 1) := by decide +kernel
theorem dX8_init_0 : decode cX8_init 0 = .ok (.aload_n 0, 1) := by decide +kernel
theorem dX8_init_1 : decode cX8_init 1 = .ok (.invokespecial 3, 3) := by decide +kernel
theorem dX8_init_4 : decode cX8_init 4 = .ok (.aload_n 0, 1) := by decide +kernel
theorem dX8_init_5 : decode cX8_init 5 = .ok (.new 9, 3) := by decide +kernel
theorem dX8_init_8 : decode cX8_init 8 = .ok (.dup, 1) := by decide +kernel
theorem dX8_init_9 : decode cX8_init 9 = .ok (.bipush 112, 2) := by decide +kernel
theorem dX8_init_11 : decode cX8_init 11 = .ok (.invokespecial 11, 3) := by decide +kernel
theorem dX8_init_14 : decode cX8_init 14 = .ok (.putfield 14, 3) := by decide +kernel
theorem dX8_init_17 : decode cX8_init 17 = .ok (.aload_n 0, 1) := by decide +kernel
theorem dX8_init_18 : decode cX8_init 18 = .ok (.aload_n 1, 1) := by decide +kernel
theorem dX8_init_19 : decode cX8_init 19 = .ok (.putfield 20, 3) := by decide +kernel
theorem dX8_init_22 : decode cX8_init 22 = .ok (.aload_n 0, 1) := by decide +kernel
theorem dX8_init_23 : decode cX8_init 23 = .ok (.aload_n 2, 1) := by decide +kernel
theorem dX8_init_24 : decode cX8_init 24 = .ok (.putfield 24, 3) := by decide +kernel
theorem dX8_init_27 : decode cX8_init 27 = .ok (.aload_n 0, 1) := by decide +kernel
theorem dX8_init_28 : decode cX8_init 28 = .ok (.aload_n 3, 1) := by decide +kernel
theorem dX8_init_29 : decode cX8_init 29 = .ok (.putfield 28, 3) := by decide +kernel
theorem dX8_init_32 : decode cX8_init 32 = .ok (.return_, 1) := by decide +kernel
theorem dX8_countOfStages_0 : decode cX8_countOfStages 0 = .ok (.aload_n 0, 1) := by decide +kernel
theorem dX8_countOfStages_1 : decode cX8_countOfStages 1 = .ok (.getfield 32, 3) := by decide +kernel
theorem dX8_countOfStages_4 : decode cX8_countOfStages 4 = .ok (.invokestatic 36, 3) := by decide +kernel
theorem dX8_countOfStages_7 : decode cX8_countOfStages 7 = .ok (.ireturn, 1) := by decide +kernel
theorem dX8_outputOfStage_0 : decode cX8_outputOfStage 0 = .ok (.iconst 0, 1) := by decide +kernel
theorem dX8_outputOfStage_1 : decode cX8_outputOfStage 1 = .ok (.istore_n 2, 1) := by decide +kernel
theorem dX8_outputOfStage_2 : decode cX8_outputOfStage 2 = .ok (.iconst 0, 1) := by decide +kernel
theorem dX8_outputOfStage_3 : decode cX8_outputOfStage 3 = .ok (.istore_n 3, 1) := by decide +kernel
theorem dX8_outputOfStage_4 : decode cX8_outputOfStage 4 = .ok (.iload_n 3, 1) := by decide +kernel
theorem dX8_outputOfStage_5 : decode cX8_outputOfStage 5 = .ok (.bipush 14, 2) := by decide +kernel
theorem dX8_outputOfStage_7 : decode cX8_outputOfStage 7 = .ok (.if_icmp .ge 30, 3) := by decide +kernel
theorem dX8_outputOfStage_10 : decode cX8_outputOfStage 10 = .ok (.aload_n 0, 1) := by decide +kernel
theorem dX8_outputOfStage_11 : decode cX8_outputOfStage 11 = .ok (.getfield 32, 3) := by decide +kernel
theorem dX8_outputOfStage_14 : decode cX8_outputOfStage 14 = .ok (.iload_n 3, 1) := by decide +kernel
theorem dX8_outputOfStage_15 : decode cX8_outputOfStage 15 = .ok (.invokestatic 42, 3) := by decide +kernel
theorem dX8_outputOfStage_18 : decode cX8_outputOfStage 18 = .ok (.ifCond .eq 13, 3) := by decide +kernel
theorem dX8_outputOfStage_21 : decode cX8_outputOfStage 21 = .ok (.iload_n 2, 1) := by decide +kernel
theorem dX8_outputOfStage_22 : decode cX8_outputOfStage 22 = .ok (.iload_n 1, 1) := by decide +kernel
theorem dX8_outputOfStage_23 : decode cX8_outputOfStage 23 = .ok (.if_icmp .ne 5, 3) := by decide +kernel
theorem dX8_outputOfStage_26 : decode cX8_outputOfStage 26 = .ok (.iload_n 3, 1) := by decide +kernel
theorem dX8_outputOfStage_27 : decode cX8_outputOfStage 27 = .ok (.ireturn, 1) := by decide +kernel
theorem dX8_outputOfStage_28 : decode cX8_outputOfStage 28 = .ok (.iinc 2 1, 3) := by decide +kernel
theorem dX8_outputOfStage_31 : decode cX8_outputOfStage 31 = .ok (.iinc 3 1, 3) := by decide +kernel
theorem dX8_outputOfStage_34 : decode cX8_outputOfStage 34 = .ok (.goto (-30), 3) := by decide +kernel
theorem dX8_outputOfStage_37 : decode cX8_outputOfStage 37 = .ok (.iconst (-1), 1) := by decide +kernel
theorem dX8_outputOfStage_38 : decode cX8_outputOfStage 38 = .ok (.ireturn, 1) := by decide +kernel
theorem dX8_readsOf_0 : decode cX8_readsOf 0 = .ok (.aload_n 0, 1) := by decide +kernel
theorem dX8_readsOf_1 : decode cX8_readsOf 1 = .ok (.getfield 14, 3) := by decide +kernel
theorem dX8_readsOf_4 : decode cX8_readsOf 4 = .ok (.iload_n 1, 1) := by decide +kernel
theorem dX8_readsOf_5 : decode cX8_readsOf 5 = .ok (.bipush 8, 2) := by decide +kernel
theorem dX8_readsOf_7 : decode cX8_readsOf 7 = .ok (.imul, 1) := by decide +kernel
theorem dX8_readsOf_8 : decode cX8_readsOf 8 = .ok (.iload_n 2, 1) := by decide +kernel
theorem dX8_readsOf_9 : decode cX8_readsOf 9 = .ok (.iadd, 1) := by decide +kernel
theorem dX8_readsOf_10 : decode cX8_readsOf 10 = .ok (.invokevirtual 46, 3) := by decide +kernel
theorem dX8_readsOf_13 : decode cX8_readsOf 13 = .ok (.ireturn, 1) := by decide +kernel
theorem dX8_draw_0 : decode cX8_draw 0 = .ok (.aload_n 0, 1) := by decide +kernel
theorem dX8_draw_1 : decode cX8_draw 1 = .ok (.iconst 0, 1) := by decide +kernel
theorem dX8_draw_2 : decode cX8_draw 2 = .ok (.putfield 32, 3) := by decide +kernel
theorem dX8_draw_5 : decode cX8_draw 5 = .ok (.aload_n 0, 1) := by decide +kernel
theorem dX8_draw_6 : decode cX8_draw 6 = .ok (.iconst 0, 1) := by decide +kernel
theorem dX8_draw_7 : decode cX8_draw 7 = .ok (.putfield 49, 3) := by decide +kernel
theorem dX8_draw_10 : decode cX8_draw 10 = .ok (.aload_n 0, 1) := by decide +kernel
theorem dX8_draw_11 : decode cX8_draw 11 = .ok (.iconst 0, 1) := by decide +kernel
theorem dX8_draw_12 : decode cX8_draw 12 = .ok (.putfield 52, 3) := by decide +kernel
theorem dX8_draw_15 : decode cX8_draw 15 = .ok (.aload_n 0, 1) := by decide +kernel
theorem dX8_draw_16 : decode cX8_draw 16 = .ok (.iload_n 1, 1) := by decide +kernel
theorem dX8_draw_17 : decode cX8_draw 17 = .ok (.invokevirtual 55, 3) := by decide +kernel
theorem dX8_draw_20 : decode cX8_draw 20 = .ok (.bipush 13, 2) := by decide +kernel
theorem dX8_draw_22 : decode cX8_draw 22 = .ok (.istore_n 2, 1) := by decide +kernel
theorem dX8_draw_23 : decode cX8_draw 23 = .ok (.iload_n 2, 1) := by decide +kernel
theorem dX8_draw_24 : decode cX8_draw 24 = .ok (.ifCond .lt 68, 3) := by decide +kernel
theorem dX8_draw_27 : decode cX8_draw 27 = .ok (.aload_n 0, 1) := by decide +kernel
theorem dX8_draw_28 : decode cX8_draw 28 = .ok (.getfield 32, 3) := by decide +kernel
theorem dX8_draw_31 : decode cX8_draw 31 = .ok (.iload_n 2, 1) := by decide +kernel
theorem dX8_draw_32 : decode cX8_draw 32 = .ok (.invokestatic 42, 3) := by decide +kernel
theorem dX8_draw_35 : decode cX8_draw 35 = .ok (.ifCond .eq 51, 3) := by decide +kernel
theorem dX8_draw_38 : decode cX8_draw 38 = .ok (.aload_n 0, 1) := by decide +kernel
theorem dX8_draw_39 : decode cX8_draw 39 = .ok (.getfield 24, 3) := by decide +kernel
theorem dX8_draw_42 : decode cX8_draw 42 = .ok (.iload_n 2, 1) := by decide +kernel
theorem dX8_draw_43 : decode cX8_draw 43 = .ok (.invokevirtual 58, 3) := by decide +kernel
theorem dX8_draw_46 : decode cX8_draw 46 = .ok (.invokevirtual 64, 3) := by decide +kernel
theorem dX8_draw_49 : decode cX8_draw 49 = .ok (.istore_n 3, 1) := by decide +kernel
theorem dX8_draw_50 : decode cX8_draw 50 = .ok (.iconst 0, 1) := by decide +kernel
theorem dX8_draw_51 : decode cX8_draw 51 = .ok (.istore 4, 2) := by decide +kernel
theorem dX8_draw_53 : decode cX8_draw 53 = .ok (.iload 4, 2) := by decide +kernel
theorem dX8_draw_55 : decode cX8_draw 55 = .ok (.iload_n 3, 1) := by decide +kernel
theorem dX8_draw_56 : decode cX8_draw 56 = .ok (.if_icmp .ge 30, 3) := by decide +kernel
theorem dX8_draw_59 : decode cX8_draw 59 = .ok (.aload_n 0, 1) := by decide +kernel
theorem dX8_draw_60 : decode cX8_draw 60 = .ok (.getfield 14, 3) := by decide +kernel
theorem dX8_draw_63 : decode cX8_draw 63 = .ok (.iload_n 2, 1) := by decide +kernel
theorem dX8_draw_64 : decode cX8_draw 64 = .ok (.bipush 8, 2) := by decide +kernel
theorem dX8_draw_66 : decode cX8_draw 66 = .ok (.imul, 1) := by decide +kernel
theorem dX8_draw_67 : decode cX8_draw 67 = .ok (.iload 4, 2) := by decide +kernel
theorem dX8_draw_69 : decode cX8_draw 69 = .ok (.iadd, 1) := by decide +kernel
theorem dX8_draw_70 : decode cX8_draw 70 = .ok (.aload_n 0, 1) := by decide +kernel
theorem dX8_draw_71 : decode cX8_draw 71 = .ok (.iload_n 2, 1) := by decide +kernel
theorem dX8_draw_72 : decode cX8_draw 72 = .ok (.iload 4, 2) := by decide +kernel
theorem dX8_draw_74 : decode cX8_draw 74 = .ok (.invokevirtual 70, 3) := by decide +kernel
theorem dX8_draw_77 : decode cX8_draw 77 = .ok (.invokevirtual 74, 3) := by decide +kernel
theorem dX8_draw_80 : decode cX8_draw 80 = .ok (.iinc 4 1, 3) := by decide +kernel
theorem dX8_draw_83 : decode cX8_draw 83 = .ok (.goto (-30), 3) := by decide +kernel
theorem dX8_draw_86 : decode cX8_draw 86 = .ok (.iinc 2 (-1), 3) := by decide +kernel
theorem dX8_draw_89 : decode cX8_draw 89 = .ok (.goto (-66), 3) := by decide +kernel
theorem dX8_draw_92 : decode cX8_draw 92 = .ok (.return_, 1) := by decide +kernel
theorem dX8_needWhole_0 : decode cX8_needWhole 0 = .ok (.aload_n 0, 1) := by decide +kernel
theorem dX8_needWhole_1 : decode cX8_needWhole 1 = .ok (.getfield 28, 3) := by decide +kernel
theorem dX8_needWhole_4 : decode cX8_needWhole 4 = .ok (.iload_n 1, 1) := by decide +kernel
theorem dX8_needWhole_5 : decode cX8_needWhole 5 = .ok (.invokevirtual 78, 3) := by decide +kernel
theorem dX8_needWhole_8 : decode cX8_needWhole 8 = .ok (.ifCond .eq 18, 3) := by decide +kernel
theorem dX8_needWhole_11 : decode cX8_needWhole 11 = .ok (.aload_n 0, 1) := by decide +kernel
theorem dX8_needWhole_12 : decode cX8_needWhole 12 = .ok (.aload_n 0, 1) := by decide +kernel
theorem dX8_needWhole_13 : decode cX8_needWhole 13 = .ok (.getfield 52, 3) := by decide +kernel
theorem dX8_needWhole_16 : decode cX8_needWhole 16 = .ok (.iload_n 1, 1) := by decide +kernel
theorem dX8_needWhole_17 : decode cX8_needWhole 17 = .ok (.invokestatic 84, 3) := by decide +kernel
theorem dX8_needWhole_20 : decode cX8_needWhole 20 = .ok (.putfield 52, 3) := by decide +kernel
theorem dX8_needWhole_23 : decode cX8_needWhole 23 = .ok (.goto 15, 3) := by decide +kernel
theorem dX8_needWhole_26 : decode cX8_needWhole 26 = .ok (.aload_n 0, 1) := by decide +kernel
theorem dX8_needWhole_27 : decode cX8_needWhole 27 = .ok (.aload_n 0, 1) := by decide +kernel
theorem dX8_needWhole_28 : decode cX8_needWhole 28 = .ok (.getfield 32, 3) := by decide +kernel
theorem dX8_needWhole_31 : decode cX8_needWhole 31 = .ok (.iload_n 1, 1) := by decide +kernel
theorem dX8_needWhole_32 : decode cX8_needWhole 32 = .ok (.invokestatic 84, 3) := by decide +kernel
theorem dX8_needWhole_35 : decode cX8_needWhole 35 = .ok (.putfield 32, 3) := by decide +kernel
theorem dX8_needWhole_38 : decode cX8_needWhole 38 = .ok (.return_, 1) := by decide +kernel
theorem dX8_readsOfTask_0 : decode cX8_readsOfTask 0 = .ok (.iconst 0, 1) := by decide +kernel
theorem dX8_readsOfTask_1 : decode cX8_readsOfTask 1 = .ok (.istore_n 3, 1) := by decide +kernel
theorem dX8_readsOfTask_2 : decode cX8_readsOfTask 2 = .ok (.iload_n 1, 1) := by decide +kernel
theorem dX8_readsOfTask_3 : decode cX8_readsOfTask 3 = .ok (.istore 4, 2) := by decide +kernel
theorem dX8_readsOfTask_5 : decode cX8_readsOfTask 5 = .ok (.iload_n 2, 1) := by decide +kernel
theorem dX8_readsOfTask_6 : decode cX8_readsOfTask 6 = .ok (.istore 5, 2) := by decide +kernel
theorem dX8_readsOfTask_8 : decode cX8_readsOfTask 8 = .ok (.iconst 0, 1) := by decide +kernel
theorem dX8_readsOfTask_9 : decode cX8_readsOfTask 9 = .ok (.istore 6, 2) := by decide +kernel
theorem dX8_readsOfTask_11 : decode cX8_readsOfTask 11 = .ok (.iload 6, 2) := by decide +kernel
theorem dX8_readsOfTask_13 : decode cX8_readsOfTask 13 = .ok (.bipush 14, 2) := by decide +kernel
theorem dX8_readsOfTask_15 : decode cX8_readsOfTask 15 = .ok (.if_icmp .ge 263, 3) := by decide +kernel
theorem dX8_readsOfTask_18 : decode cX8_readsOfTask 18 = .ok (.aload_n 0, 1) := by decide +kernel
theorem dX8_readsOfTask_19 : decode cX8_readsOfTask 19 = .ok (.getfield 20, 3) := by decide +kernel
theorem dX8_readsOfTask_22 : decode cX8_readsOfTask 22 = .ok (.iload 4, 2) := by decide +kernel
theorem dX8_readsOfTask_24 : decode cX8_readsOfTask 24 = .ok (.invokevirtual 87, 3) := by decide +kernel
theorem dX8_readsOfTask_27 : decode cX8_readsOfTask 27 = .ok (.astore 7, 2) := by decide +kernel
theorem dX8_readsOfTask_29 : decode cX8_readsOfTask 29 = .ok (.aload_n 0, 1) := by decide +kernel
theorem dX8_readsOfTask_30 : decode cX8_readsOfTask 30 = .ok (.getfield 28, 3) := by decide +kernel
theorem dX8_readsOfTask_33 : decode cX8_readsOfTask 33 = .ok (.iload 4, 2) := by decide +kernel
theorem dX8_readsOfTask_35 : decode cX8_readsOfTask 35 = .ok (.invokevirtual 78, 3) := by decide +kernel
theorem dX8_readsOfTask_38 : decode cX8_readsOfTask 38 = .ok (.ifCond .eq 33, 3) := by decide +kernel
theorem dX8_readsOfTask_41 : decode cX8_readsOfTask 41 = .ok (.aload_n 0, 1) := by decide +kernel
theorem dX8_readsOfTask_42 : decode cX8_readsOfTask 42 = .ok (.aload_n 0, 1) := by decide +kernel
theorem dX8_readsOfTask_43 : decode cX8_readsOfTask 43 = .ok (.getfield 52, 3) := by decide +kernel
theorem dX8_readsOfTask_46 : decode cX8_readsOfTask 46 = .ok (.iload 4, 2) := by decide +kernel
theorem dX8_readsOfTask_48 : decode cX8_readsOfTask 48 = .ok (.invokestatic 84, 3) := by decide +kernel
theorem dX8_readsOfTask_51 : decode cX8_readsOfTask 51 = .ok (.putfield 52, 3) := by decide +kernel
theorem dX8_readsOfTask_54 : decode cX8_readsOfTask 54 = .ok (.iload_n 3, 1) := by decide +kernel
theorem dX8_readsOfTask_55 : decode cX8_readsOfTask 55 = .ok (.aload_n 0, 1) := by decide +kernel
theorem dX8_readsOfTask_56 : decode cX8_readsOfTask 56 = .ok (.getfield 24, 3) := by decide +kernel
theorem dX8_readsOfTask_59 : decode cX8_readsOfTask 59 = .ok (.iload 4, 2) := by decide +kernel
theorem dX8_readsOfTask_61 : decode cX8_readsOfTask 61 = .ok (.invokevirtual 58, 3) := by decide +kernel
theorem dX8_readsOfTask_64 : decode cX8_readsOfTask 64 = .ok (.iload 5, 2) := by decide +kernel
theorem dX8_readsOfTask_66 : decode cX8_readsOfTask 66 = .ok (.invokevirtual 92, 3) := by decide +kernel
theorem dX8_readsOfTask_69 : decode cX8_readsOfTask 69 = .ok (.iadd, 1) := by decide +kernel
theorem dX8_readsOfTask_70 : decode cX8_readsOfTask 70 = .ok (.ireturn, 1) := by decide +kernel
theorem dX8_readsOfTask_71 : decode cX8_readsOfTask 71 = .ok (.aload_n 0, 1) := by decide +kernel
theorem dX8_readsOfTask_72 : decode cX8_readsOfTask 72 = .ok (.aload_n 0, 1) := by decide +kernel
theorem dX8_readsOfTask_73 : decode cX8_readsOfTask 73 = .ok (.getfield 49, 3) := by decide +kernel
theorem dX8_readsOfTask_76 : decode cX8_readsOfTask 76 = .ok (.iload 4, 2) := by decide +kernel
theorem dX8_readsOfTask_78 : decode cX8_readsOfTask 78 = .ok (.invokestatic 84, 3) := by decide +kernel
theorem dX8_readsOfTask_81 : decode cX8_readsOfTask 81 = .ok (.putfield 49, 3) := by decide +kernel
theorem dX8_readsOfTask_84 : decode cX8_readsOfTask 84 = .ok (.aload 7, 2) := by decide +kernel
theorem dX8_readsOfTask_86 : decode cX8_readsOfTask 86 = .ok (.getfield 95, 3) := by decide +kernel
theorem dX8_readsOfTask_89 : decode cX8_readsOfTask 89 = .ok (.getstatic 101, 3) := by decide +kernel
theorem dX8_readsOfTask_92 : decode cX8_readsOfTask 92 = .ok (.if_acmp .ne 20, 3) := by decide +kernel
theorem dX8_readsOfTask_95 : decode cX8_readsOfTask 95 = .ok (.iload_n 3, 1) := by decide +kernel
theorem dX8_readsOfTask_96 : decode cX8_readsOfTask 96 = .ok (.aload_n 0, 1) := by decide +kernel
theorem dX8_readsOfTask_97 : decode cX8_readsOfTask 97 = .ok (.getfield 24, 3) := by decide +kernel
theorem dX8_readsOfTask_100 : decode cX8_readsOfTask 100 = .ok (.iload 4, 2) := by decide +kernel
theorem dX8_readsOfTask_102 : decode cX8_readsOfTask 102 = .ok (.invokevirtual 58, 3) := by decide +kernel
theorem dX8_readsOfTask_105 : decode cX8_readsOfTask 105 = .ok (.iload 5, 2) := by decide +kernel
theorem dX8_readsOfTask_107 : decode cX8_readsOfTask 107 = .ok (.invokevirtual 92, 3) := by decide +kernel
theorem dX8_readsOfTask_110 : decode cX8_readsOfTask 110 = .ok (.iadd, 1) := by decide +kernel
theorem dX8_readsOfTask_111 : decode cX8_readsOfTask 111 = .ok (.ireturn, 1) := by decide +kernel
theorem dX8_readsOfTask_112 : decode cX8_readsOfTask 112 = .ok (.aload_n 0, 1) := by decide +kernel
theorem dX8_readsOfTask_113 : decode cX8_readsOfTask 113 = .ok (.getfield 24, 3) := by decide +kernel
theorem dX8_readsOfTask_116 : decode cX8_readsOfTask 116 = .ok (.iload 4, 2) := by decide +kernel
theorem dX8_readsOfTask_118 : decode cX8_readsOfTask 118 = .ok (.invokevirtual 106, 3) := by decide +kernel
theorem dX8_readsOfTask_121 : decode cX8_readsOfTask 121 = .ok (.istore 8, 2) := by decide +kernel
theorem dX8_readsOfTask_123 : decode cX8_readsOfTask 123 = .ok (.aload 7, 2) := by decide +kernel
theorem dX8_readsOfTask_125 : decode cX8_readsOfTask 125 = .ok (.getfield 95, 3) := by decide +kernel
theorem dX8_readsOfTask_128 : decode cX8_readsOfTask 128 = .ok (.getstatic 109, 3) := by decide +kernel
theorem dX8_readsOfTask_131 : decode cX8_readsOfTask 131 = .ok (.if_acmp .eq 19, 3) := by decide +kernel
theorem dX8_readsOfTask_134 : decode cX8_readsOfTask 134 = .ok (.aload 7, 2) := by decide +kernel
theorem dX8_readsOfTask_136 : decode cX8_readsOfTask 136 = .ok (.getfield 95, 3) := by decide +kernel
theorem dX8_readsOfTask_139 : decode cX8_readsOfTask 139 = .ok (.getstatic 112, 3) := by decide +kernel
theorem dX8_readsOfTask_142 : decode cX8_readsOfTask 142 = .ok (.if_acmp .ne 19, 3) := by decide +kernel
theorem dX8_readsOfTask_145 : decode cX8_readsOfTask 145 = .ok (.iload 8, 2) := by decide +kernel
theorem dX8_readsOfTask_147 : decode cX8_readsOfTask 147 = .ok (.ifCond .ne 14, 3) := by decide +kernel
theorem dX8_readsOfTask_150 : decode cX8_readsOfTask 150 = .ok (.iload_n 3, 1) := by decide +kernel
theorem dX8_readsOfTask_151 : decode cX8_readsOfTask 151 = .ok (.aload_n 0, 1) := by decide +kernel
theorem dX8_readsOfTask_152 : decode cX8_readsOfTask 152 = .ok (.aload 7, 2) := by decide +kernel
theorem dX8_readsOfTask_154 : decode cX8_readsOfTask 154 = .ok (.iload 5, 2) := by decide +kernel
theorem dX8_readsOfTask_156 : decode cX8_readsOfTask 156 = .ok (.invokevirtual 115, 3) := by decide +kernel
theorem dX8_readsOfTask_159 : decode cX8_readsOfTask 159 = .ok (.iadd, 1) := by decide +kernel
theorem dX8_readsOfTask_160 : decode cX8_readsOfTask 160 = .ok (.ireturn, 1) := by decide +kernel
theorem dX8_readsOfTask_161 : decode cX8_readsOfTask 161 = .ok (.iload 8, 2) := by decide +kernel
theorem dX8_readsOfTask_163 : decode cX8_readsOfTask 163 = .ok (.ifCond .eq 30, 3) := by decide +kernel
theorem dX8_readsOfTask_166 : decode cX8_readsOfTask 166 = .ok (.aload_n 0, 1) := by decide +kernel
theorem dX8_readsOfTask_167 : decode cX8_readsOfTask 167 = .ok (.aload 7, 2) := by decide +kernel
theorem dX8_readsOfTask_169 : decode cX8_readsOfTask 169 = .ok (.getfield 119, 3) := by decide +kernel
theorem dX8_readsOfTask_172 : decode cX8_readsOfTask 172 = .ok (.invokevirtual 55, 3) := by decide +kernel
theorem dX8_readsOfTask_175 : decode cX8_readsOfTask 175 = .ok (.iload_n 3, 1) := by decide +kernel
theorem dX8_readsOfTask_176 : decode cX8_readsOfTask 176 = .ok (.aload_n 0, 1) := by decide +kernel
theorem dX8_readsOfTask_177 : decode cX8_readsOfTask 177 = .ok (.getfield 24, 3) := by decide +kernel
theorem dX8_readsOfTask_180 : decode cX8_readsOfTask 180 = .ok (.aload 7, 2) := by decide +kernel
theorem dX8_readsOfTask_182 : decode cX8_readsOfTask 182 = .ok (.getfield 119, 3) := by decide +kernel
theorem dX8_readsOfTask_185 : decode cX8_readsOfTask 185 = .ok (.invokevirtual 58, 3) := by decide +kernel
theorem dX8_readsOfTask_188 : decode cX8_readsOfTask 188 = .ok (.invokevirtual 122, 3) := by decide +kernel
theorem dX8_readsOfTask_191 : decode cX8_readsOfTask 191 = .ok (.iadd, 1) := by decide +kernel
theorem dX8_readsOfTask_192 : decode cX8_readsOfTask 192 = .ok (.istore_n 3, 1) := by decide +kernel
theorem dX8_readsOfTask_193 : decode cX8_readsOfTask 193 = .ok (.aload_n 0, 1) := by decide +kernel
theorem dX8_readsOfTask_194 : decode cX8_readsOfTask 194 = .ok (.getfield 24, 3) := by decide +kernel
theorem dX8_readsOfTask_197 : decode cX8_readsOfTask 197 = .ok (.aload 7, 2) := by decide +kernel
theorem dX8_readsOfTask_199 : decode cX8_readsOfTask 199 = .ok (.getfield 125, 3) := by decide +kernel
theorem dX8_readsOfTask_202 : decode cX8_readsOfTask 202 = .ok (.invokevirtual 58, 3) := by decide +kernel
theorem dX8_readsOfTask_205 : decode cX8_readsOfTask 205 = .ok (.invokevirtual 64, 3) := by decide +kernel
theorem dX8_readsOfTask_208 : decode cX8_readsOfTask 208 = .ok (.istore 9, 2) := by decide +kernel
theorem dX8_readsOfTask_210 : decode cX8_readsOfTask 210 = .ok (.aload 7, 2) := by decide +kernel
theorem dX8_readsOfTask_212 : decode cX8_readsOfTask 212 = .ok (.getfield 95, 3) := by decide +kernel
theorem dX8_readsOfTask_215 : decode cX8_readsOfTask 215 = .ok (.getstatic 128, 3) := by decide +kernel
theorem dX8_readsOfTask_218 : decode cX8_readsOfTask 218 = .ok (.if_acmp .ne 14, 3) := by decide +kernel
theorem dX8_readsOfTask_221 : decode cX8_readsOfTask 221 = .ok (.iload 5, 2) := by decide +kernel
theorem dX8_readsOfTask_223 : decode cX8_readsOfTask 223 = .ok (.iload 9, 2) := by decide +kernel
theorem dX8_readsOfTask_225 : decode cX8_readsOfTask 225 = .ok (.if_icmp .lt 7, 3) := by decide +kernel
theorem dX8_readsOfTask_228 : decode cX8_readsOfTask 228 = .ok (.iconst 1, 1) := by decide +kernel
theorem dX8_readsOfTask_229 : decode cX8_readsOfTask 229 = .ok (.goto 4, 3) := by decide +kernel
theorem dX8_readsOfTask_232 : decode cX8_readsOfTask 232 = .ok (.iconst 0, 1) := by decide +kernel
theorem dX8_readsOfTask_233 : decode cX8_readsOfTask 233 = .ok (.istore 10, 2) := by decide +kernel
theorem dX8_readsOfTask_235 : decode cX8_readsOfTask 235 = .ok (.iload 10, 2) := by decide +kernel
theorem dX8_readsOfTask_237 : decode cX8_readsOfTask 237 = .ok (.ifCond .eq 11, 3) := by decide +kernel
theorem dX8_readsOfTask_240 : decode cX8_readsOfTask 240 = .ok (.iload 5, 2) := by decide +kernel
theorem dX8_readsOfTask_242 : decode cX8_readsOfTask 242 = .ok (.iload 9, 2) := by decide +kernel
theorem dX8_readsOfTask_244 : decode cX8_readsOfTask 244 = .ok (.isub, 1) := by decide +kernel
theorem dX8_readsOfTask_245 : decode cX8_readsOfTask 245 = .ok (.goto 5, 3) := by decide +kernel
theorem dX8_readsOfTask_248 : decode cX8_readsOfTask 248 = .ok (.iload 5, 2) := by decide +kernel
theorem dX8_readsOfTask_250 : decode cX8_readsOfTask 250 = .ok (.istore 5, 2) := by decide +kernel
theorem dX8_readsOfTask_252 : decode cX8_readsOfTask 252 = .ok (.iload 10, 2) := by decide +kernel
theorem dX8_readsOfTask_254 : decode cX8_readsOfTask 254 = .ok (.ifCond .eq 11, 3) := by decide +kernel
theorem dX8_readsOfTask_257 : decode cX8_readsOfTask 257 = .ok (.aload 7, 2) := by decide +kernel
theorem dX8_readsOfTask_259 : decode cX8_readsOfTask 259 = .ok (.getfield 119, 3) := by decide +kernel
theorem dX8_readsOfTask_262 : decode cX8_readsOfTask 262 = .ok (.goto 8, 3) := by decide +kernel
theorem dX8_readsOfTask_265 : decode cX8_readsOfTask 265 = .ok (.aload 7, 2) := by decide +kernel
theorem dX8_readsOfTask_267 : decode cX8_readsOfTask 267 = .ok (.getfield 125, 3) := by decide +kernel
theorem dX8_readsOfTask_270 : decode cX8_readsOfTask 270 = .ok (.istore 4, 2) := by decide +kernel
theorem dX8_readsOfTask_272 : decode cX8_readsOfTask 272 = .ok (.iinc 6 1, 3) := by decide +kernel
theorem dX8_readsOfTask_275 : decode cX8_readsOfTask 275 = .ok (.goto (-264), 3) := by decide +kernel
theorem dX8_readsOfTask_278 : decode cX8_readsOfTask 278 = .ok (.iload_n 3, 1) := by decide +kernel
theorem dX8_readsOfTask_279 : decode cX8_readsOfTask 279 = .ok (.ireturn, 1) := by decide +kernel
theorem dX8_readsOfShares_0 : decode cX8_readsOfShares 0 = .ok (.aload_n 0, 1) := by decide +kernel
theorem dX8_readsOfShares_1 : decode cX8_readsOfShares 1 = .ok (.aload_n 1, 1) := by decide +kernel
theorem dX8_readsOfShares_2 : decode cX8_readsOfShares 2 = .ok (.getfield 125, 3) := by decide +kernel
theorem dX8_readsOfShares_5 : decode cX8_readsOfShares 5 = .ok (.invokevirtual 55, 3) := by decide +kernel
theorem dX8_readsOfShares_8 : decode cX8_readsOfShares 8 = .ok (.aload_n 0, 1) := by decide +kernel
theorem dX8_readsOfShares_9 : decode cX8_readsOfShares 9 = .ok (.getfield 24, 3) := by decide +kernel
theorem dX8_readsOfShares_12 : decode cX8_readsOfShares 12 = .ok (.aload_n 1, 1) := by decide +kernel
theorem dX8_readsOfShares_13 : decode cX8_readsOfShares 13 = .ok (.getfield 125, 3) := by decide +kernel
theorem dX8_readsOfShares_16 : decode cX8_readsOfShares 16 = .ok (.invokevirtual 58, 3) := by decide +kernel
theorem dX8_readsOfShares_19 : decode cX8_readsOfShares 19 = .ok (.aload_n 1, 1) := by decide +kernel
theorem dX8_readsOfShares_20 : decode cX8_readsOfShares 20 = .ok (.getfield 131, 3) := by decide +kernel
theorem dX8_readsOfShares_23 : decode cX8_readsOfShares 23 = .ok (.iload_n 2, 1) := by decide +kernel
theorem dX8_readsOfShares_24 : decode cX8_readsOfShares 24 = .ok (.invokestatic 134, 3) := by decide +kernel
theorem dX8_readsOfShares_27 : decode cX8_readsOfShares 27 = .ok (.istore_n 3, 1) := by decide +kernel
theorem dX8_readsOfShares_28 : decode cX8_readsOfShares 28 = .ok (.aload_n 1, 1) := by decide +kernel
theorem dX8_readsOfShares_29 : decode cX8_readsOfShares 29 = .ok (.getfield 95, 3) := by decide +kernel
theorem dX8_readsOfShares_32 : decode cX8_readsOfShares 32 = .ok (.getstatic 112, 3) := by decide +kernel
theorem dX8_readsOfShares_35 : decode cX8_readsOfShares 35 = .ok (.if_acmp .ne 33, 3) := by decide +kernel
theorem dX8_readsOfShares_38 : decode cX8_readsOfShares 38 = .ok (.aload_n 0, 1) := by decide +kernel
theorem dX8_readsOfShares_39 : decode cX8_readsOfShares 39 = .ok (.aload_n 1, 1) := by decide +kernel
theorem dX8_readsOfShares_40 : decode cX8_readsOfShares 40 = .ok (.getfield 119, 3) := by decide +kernel
theorem dX8_readsOfShares_43 : decode cX8_readsOfShares 43 = .ok (.invokevirtual 55, 3) := by decide +kernel
theorem dX8_readsOfShares_46 : decode cX8_readsOfShares 46 = .ok (.iload_n 3, 1) := by decide +kernel
theorem dX8_readsOfShares_47 : decode cX8_readsOfShares 47 = .ok (.aload_n 0, 1) := by decide +kernel
theorem dX8_readsOfShares_48 : decode cX8_readsOfShares 48 = .ok (.getfield 24, 3) := by decide +kernel
theorem dX8_readsOfShares_51 : decode cX8_readsOfShares 51 = .ok (.aload_n 1, 1) := by decide +kernel
theorem dX8_readsOfShares_52 : decode cX8_readsOfShares 52 = .ok (.getfield 119, 3) := by decide +kernel
theorem dX8_readsOfShares_55 : decode cX8_readsOfShares 55 = .ok (.invokevirtual 58, 3) := by decide +kernel
theorem dX8_readsOfShares_58 : decode cX8_readsOfShares 58 = .ok (.aload_n 1, 1) := by decide +kernel
theorem dX8_readsOfShares_59 : decode cX8_readsOfShares 59 = .ok (.getfield 131, 3) := by decide +kernel
theorem dX8_readsOfShares_62 : decode cX8_readsOfShares 62 = .ok (.iload_n 2, 1) := by decide +kernel
theorem dX8_readsOfShares_63 : decode cX8_readsOfShares 63 = .ok (.invokestatic 134, 3) := by decide +kernel
theorem dX8_readsOfShares_66 : decode cX8_readsOfShares 66 = .ok (.iadd, 1) := by decide +kernel
theorem dX8_readsOfShares_67 : decode cX8_readsOfShares 67 = .ok (.istore_n 3, 1) := by decide +kernel
theorem dX8_readsOfShares_68 : decode cX8_readsOfShares 68 = .ok (.iload_n 3, 1) := by decide +kernel
theorem dX8_readsOfShares_69 : decode cX8_readsOfShares 69 = .ok (.ireturn, 1) := by decide +kernel
theorem dX8_sizeOfShare_0 : decode cX8_sizeOfShare 0 = .ok (.iconst 0, 1) := by decide +kernel
theorem dX8_sizeOfShare_1 : decode cX8_sizeOfShare 1 = .ok (.istore_n 3, 1) := by decide +kernel
theorem dX8_sizeOfShare_2 : decode cX8_sizeOfShare 2 = .ok (.iconst 0, 1) := by decide +kernel
theorem dX8_sizeOfShare_3 : decode cX8_sizeOfShare 3 = .ok (.istore 4, 2) := by decide +kernel
theorem dX8_sizeOfShare_5 : decode cX8_sizeOfShare 5 = .ok (.iload 4, 2) := by decide +kernel
theorem dX8_sizeOfShare_7 : decode cX8_sizeOfShare 7 = .ok (.aload_n 0, 1) := by decide +kernel
theorem dX8_sizeOfShare_8 : decode cX8_sizeOfShare 8 = .ok (.invokevirtual 122, 3) := by decide +kernel
theorem dX8_sizeOfShare_11 : decode cX8_sizeOfShare 11 = .ok (.if_icmp .ge 26, 3) := by decide +kernel
theorem dX8_sizeOfShare_14 : decode cX8_sizeOfShare 14 = .ok (.aload_n 0, 1) := by decide +kernel
theorem dX8_sizeOfShare_15 : decode cX8_sizeOfShare 15 = .ok (.iload 4, 2) := by decide +kernel
theorem dX8_sizeOfShare_17 : decode cX8_sizeOfShare 17 = .ok (.invokevirtual 138, 3) := by decide +kernel
theorem dX8_sizeOfShare_20 : decode cX8_sizeOfShare 20 = .ok (.iload_n 1, 1) := by decide +kernel
theorem dX8_sizeOfShare_21 : decode cX8_sizeOfShare 21 = .ok (.invokestatic 141, 3) := by decide +kernel
theorem dX8_sizeOfShare_24 : decode cX8_sizeOfShare 24 = .ok (.iload_n 2, 1) := by decide +kernel
theorem dX8_sizeOfShare_25 : decode cX8_sizeOfShare 25 = .ok (.if_icmp .ne 6, 3) := by decide +kernel
theorem dX8_sizeOfShare_28 : decode cX8_sizeOfShare 28 = .ok (.iinc 3 1, 3) := by decide +kernel
theorem dX8_sizeOfShare_31 : decode cX8_sizeOfShare 31 = .ok (.iinc 4 1, 3) := by decide +kernel
theorem dX8_sizeOfShare_34 : decode cX8_sizeOfShare 34 = .ok (.goto (-29), 3) := by decide +kernel
theorem dX8_sizeOfShare_37 : decode cX8_sizeOfShare 37 = .ok (.iload_n 3, 1) := by decide +kernel
theorem dX8_sizeOfShare_38 : decode cX8_sizeOfShare 38 = .ok (.ireturn, 1) := by decide +kernel
theorem dX9_init_0 : decode cX9_init 0 = .ok (.aload_n 0, 1) := by decide +kernel
theorem dX9_init_1 : decode cX9_init 1 = .ok (.invokespecial 3, 3) := by decide +kernel
theorem dX9_init_4 : decode cX9_init 4 = .ok (.aload_n 0, 1) := by decide +kernel
theorem dX9_init_5 : decode cX9_init 5 = .ok (.iload_n 1, 1) := by decide +kernel
theorem dX9_init_6 : decode cX9_init 6 = .ok (.putfield 9, 3) := by decide +kernel
theorem dX9_init_9 : decode cX9_init 9 = .ok (.aload_n 0, 1) := by decide +kernel
theorem dX9_init_10 : decode cX9_init 10 = .ok (.new 15, 3) := by decide +kernel
theorem dX9_init_13 : decode cX9_init 13 = .ok (.dup, 1) := by decide +kernel
theorem dX9_init_14 : decode cX9_init 14 = .ok (.iload_n 1, 1) := by decide +kernel
theorem dX9_init_15 : decode cX9_init 15 = .ok (.invokespecial 17, 3) := by decide +kernel
theorem dX9_init_18 : decode cX9_init 18 = .ok (.putfield 20, 3) := by decide +kernel
theorem dX9_init_21 : decode cX9_init 21 = .ok (.aload_n 0, 1) := by decide +kernel
theorem dX9_init_22 : decode cX9_init 22 = .ok (.new 15, 3) := by decide +kernel
theorem dX9_init_25 : decode cX9_init 25 = .ok (.dup, 1) := by decide +kernel
theorem dX9_init_26 : decode cX9_init 26 = .ok (.iload_n 1, 1) := by decide +kernel
theorem dX9_init_27 : decode cX9_init 27 = .ok (.invokespecial 17, 3) := by decide +kernel
theorem dX9_init_30 : decode cX9_init 30 = .ok (.putfield 24, 3) := by decide +kernel
theorem dX9_init_33 : decode cX9_init 33 = .ok (.aload_n 0, 1) := by decide +kernel
theorem dX9_init_34 : decode cX9_init 34 = .ok (.new 15, 3) := by decide +kernel
theorem dX9_init_37 : decode cX9_init 37 = .ok (.dup, 1) := by decide +kernel
theorem dX9_init_38 : decode cX9_init 38 = .ok (.bipush 8, 2) := by decide +kernel
theorem dX9_init_40 : decode cX9_init 40 = .ok (.invokespecial 17, 3) := by decide +kernel
theorem dX9_init_43 : decode cX9_init 43 = .ok (.putfield 27, 3) := by decide +kernel
theorem dX9_init_46 : decode cX9_init 46 = .ok (.return_, 1) := by decide +kernel
theorem dX9_clear_0 : decode cX9_clear 0 = .ok (.aload_n 0, 1) := by decide +kernel
theorem dX9_clear_1 : decode cX9_clear 1 = .ok (.iconst 0, 1) := by decide +kernel
theorem dX9_clear_2 : decode cX9_clear 2 = .ok (.putfield 30, 3) := by decide +kernel
theorem dX9_clear_5 : decode cX9_clear 5 = .ok (.aload_n 0, 1) := by decide +kernel
theorem dX9_clear_6 : decode cX9_clear 6 = .ok (.iconst 0, 1) := by decide +kernel
theorem dX9_clear_7 : decode cX9_clear 7 = .ok (.putfield 33, 3) := by decide +kernel
theorem dX9_clear_10 : decode cX9_clear 10 = .ok (.return_, 1) := by decide +kernel
theorem dX9_size_0 : decode cX9_size 0 = .ok (.aload_n 0, 1) := by decide +kernel
theorem dX9_size_1 : decode cX9_size 1 = .ok (.getfield 30, 3) := by decide +kernel
theorem dX9_size_4 : decode cX9_size 4 = .ok (.ireturn, 1) := by decide +kernel
theorem dX9_parts_0 : decode cX9_parts 0 = .ok (.aload_n 0, 1) := by decide +kernel
theorem dX9_parts_1 : decode cX9_parts 1 = .ok (.getfield 33, 3) := by decide +kernel
theorem dX9_parts_4 : decode cX9_parts 4 = .ok (.ireturn, 1) := by decide +kernel
theorem dX9_begin_0 : decode cX9_begin 0 = .ok (.aload_n 0, 1) := by decide +kernel
theorem dX9_begin_1 : decode cX9_begin 1 = .ok (.getfield 27, 3) := by decide +kernel
theorem dX9_begin_4 : decode cX9_begin 4 = .ok (.iload_n 1, 1) := by decide +kernel
theorem dX9_begin_5 : decode cX9_begin 5 = .ok (.iconst 1, 1) := by decide +kernel
theorem dX9_begin_6 : decode cX9_begin 6 = .ok (.isub, 1) := by decide +kernel
theorem dX9_begin_7 : decode cX9_begin 7 = .ok (.invokevirtual 36, 3) := by decide +kernel
theorem dX9_begin_10 : decode cX9_begin 10 = .ok (.ireturn, 1) := by decide +kernel
theorem dX9_end_0 : decode cX9_end 0 = .ok (.aload_n 0, 1) := by decide +kernel
theorem dX9_end_1 : decode cX9_end 1 = .ok (.getfield 27, 3) := by decide +kernel
theorem dX9_end_4 : decode cX9_end 4 = .ok (.iload_n 1, 1) := by decide +kernel
theorem dX9_end_5 : decode cX9_end 5 = .ok (.invokevirtual 36, 3) := by decide +kernel
theorem dX9_end_8 : decode cX9_end 8 = .ok (.ireturn, 1) := by decide +kernel
theorem dX9_sizeOf_0 : decode cX9_sizeOf 0 = .ok (.aload_n 0, 1) := by decide +kernel
theorem dX9_sizeOf_1 : decode cX9_sizeOf 1 = .ok (.iload_n 1, 1) := by decide +kernel
theorem dX9_sizeOf_2 : decode cX9_sizeOf 2 = .ok (.invokevirtual 40, 3) := by decide +kernel
theorem dX9_sizeOf_5 : decode cX9_sizeOf 5 = .ok (.aload_n 0, 1) := by decide +kernel
theorem dX9_sizeOf_6 : decode cX9_sizeOf 6 = .ok (.iload_n 1, 1) := by decide +kernel
theorem dX9_sizeOf_7 : decode cX9_sizeOf 7 = .ok (.invokevirtual 43, 3) := by decide +kernel
theorem dX9_sizeOf_10 : decode cX9_sizeOf 10 = .ok (.isub, 1) := by decide +kernel
theorem dX9_sizeOf_11 : decode cX9_sizeOf 11 = .ok (.ireturn, 1) := by decide +kernel
theorem dX9_key_0 : decode cX9_key 0 = .ok (.aload_n 0, 1) := by decide +kernel
theorem dX9_key_1 : decode cX9_key 1 = .ok (.getfield 20, 3) := by decide +kernel
theorem dX9_key_4 : decode cX9_key 4 = .ok (.iload_n 1, 1) := by decide +kernel
theorem dX9_key_5 : decode cX9_key 5 = .ok (.invokevirtual 36, 3) := by decide +kernel
theorem dX9_key_8 : decode cX9_key 8 = .ok (.ireturn, 1) := by decide +kernel
theorem dX9_value_0 : decode cX9_value 0 = .ok (.aload_n 0, 1) := by decide +kernel
theorem dX9_value_1 : decode cX9_value 1 = .ok (.getfield 24, 3) := by decide +kernel
theorem dX9_value_4 : decode cX9_value 4 = .ok (.iload_n 1, 1) := by decide +kernel
theorem dX9_value_5 : decode cX9_value 5 = .ok (.invokevirtual 36, 3) := by decide +kernel
theorem dX9_value_8 : decode cX9_value 8 = .ok (.ireturn, 1) := by decide +kernel
theorem dX9_setValue_0 : decode cX9_setValue 0 = .ok (.aload_n 0, 1) := by decide +kernel
theorem dX9_setValue_1 : decode cX9_setValue 1 = .ok (.getfield 24, 3) := by decide +kernel
theorem dX9_setValue_4 : decode cX9_setValue 4 = .ok (.iload_n 1, 1) := by decide +kernel
theorem dX9_setValue_5 : decode cX9_setValue 5 = .ok (.iload_n 2, 1) := by decide +kernel
theorem dX9_setValue_6 : decode cX9_setValue 6 = .ok (.invokevirtual 46, 3) := by decide +kernel
theorem dX9_setValue_9 : decode cX9_setValue 9 = .ok (.return_, 1) := by decide +kernel
theorem dX9_add_0 : decode cX9_add 0 = .ok (.aload_n 0, 1) := by decide +kernel
theorem dX9_add_1 : decode cX9_add 1 = .ok (.getfield 30, 3) := by decide +kernel
theorem dX9_add_4 : decode cX9_add 4 = .ok (.aload_n 0, 1) := by decide +kernel
theorem dX9_add_5 : decode cX9_add 5 = .ok (.getfield 9, 3) := by decide +kernel
theorem dX9_add_8 : decode cX9_add 8 = .ok (.if_icmp .ge 37, 3) := by decide +kernel
theorem dX9_add_11 : decode cX9_add 11 = .ok (.aload_n 0, 1) := by decide +kernel
theorem dX9_add_12 : decode cX9_add 12 = .ok (.getfield 20, 3) := by decide +kernel
theorem dX9_add_15 : decode cX9_add 15 = .ok (.aload_n 0, 1) := by decide +kernel
theorem dX9_add_16 : decode cX9_add 16 = .ok (.getfield 30, 3) := by decide +kernel
theorem dX9_add_19 : decode cX9_add 19 = .ok (.iload_n 1, 1) := by decide +kernel
theorem dX9_add_20 : decode cX9_add 20 = .ok (.invokevirtual 46, 3) := by decide +kernel
theorem dX9_add_23 : decode cX9_add 23 = .ok (.aload_n 0, 1) := by decide +kernel
theorem dX9_add_24 : decode cX9_add 24 = .ok (.getfield 24, 3) := by decide +kernel
theorem dX9_add_27 : decode cX9_add 27 = .ok (.aload_n 0, 1) := by decide +kernel
theorem dX9_add_28 : decode cX9_add 28 = .ok (.getfield 30, 3) := by decide +kernel
theorem dX9_add_31 : decode cX9_add 31 = .ok (.iload_n 2, 1) := by decide +kernel
theorem dX9_add_32 : decode cX9_add 32 = .ok (.invokevirtual 46, 3) := by decide +kernel
theorem dX9_add_35 : decode cX9_add 35 = .ok (.aload_n 0, 1) := by decide +kernel
theorem dX9_add_36 : decode cX9_add 36 = .ok (.dup, 1) := by decide +kernel
theorem dX9_add_37 : decode cX9_add 37 = .ok (.getfield 30, 3) := by decide +kernel
theorem dX9_add_40 : decode cX9_add 40 = .ok (.iconst 1, 1) := by decide +kernel
theorem dX9_add_41 : decode cX9_add 41 = .ok (.iadd, 1) := by decide +kernel
theorem dX9_add_42 : decode cX9_add 42 = .ok (.putfield 30, 3) := by decide +kernel
theorem dX9_add_45 : decode cX9_add 45 = .ok (.return_, 1) := by decide +kernel
theorem dX9_insert_0 : decode cX9_insert 0 = .ok (.aload_n 0, 1) := by decide +kernel
theorem dX9_insert_1 : decode cX9_insert 1 = .ok (.getfield 30, 3) := by decide +kernel
theorem dX9_insert_4 : decode cX9_insert 4 = .ok (.aload_n 0, 1) := by decide +kernel
theorem dX9_insert_5 : decode cX9_insert 5 = .ok (.getfield 9, 3) := by decide +kernel
theorem dX9_insert_8 : decode cX9_insert 8 = .ok (.if_icmp .lt 4, 3) := by decide +kernel
theorem dX9_insert_11 : decode cX9_insert 11 = .ok (.return_, 1) := by decide +kernel
theorem dX9_insert_12 : decode cX9_insert 12 = .ok (.aload_n 0, 1) := by decide +kernel
theorem dX9_insert_13 : decode cX9_insert 13 = .ok (.getfield 30, 3) := by decide +kernel
theorem dX9_insert_16 : decode cX9_insert 16 = .ok (.istore 4, 2) := by decide +kernel
theorem dX9_insert_18 : decode cX9_insert 18 = .ok (.iload 4, 2) := by decide +kernel
theorem dX9_insert_20 : decode cX9_insert 20 = .ok (.iload_n 1, 1) := by decide +kernel
theorem dX9_insert_21 : decode cX9_insert 21 = .ok (.if_icmp .le 49, 3) := by decide +kernel
theorem dX9_insert_24 : decode cX9_insert 24 = .ok (.aload_n 0, 1) := by decide +kernel
theorem dX9_insert_25 : decode cX9_insert 25 = .ok (.getfield 20, 3) := by decide +kernel
theorem dX9_insert_28 : decode cX9_insert 28 = .ok (.iload 4, 2) := by decide +kernel
theorem dX9_insert_30 : decode cX9_insert 30 = .ok (.aload_n 0, 1) := by decide +kernel
theorem dX9_insert_31 : decode cX9_insert 31 = .ok (.getfield 20, 3) := by decide +kernel
theorem dX9_insert_34 : decode cX9_insert 34 = .ok (.iload 4, 2) := by decide +kernel
theorem dX9_insert_36 : decode cX9_insert 36 = .ok (.iconst 1, 1) := by decide +kernel
theorem dX9_insert_37 : decode cX9_insert 37 = .ok (.isub, 1) := by decide +kernel
theorem dX9_insert_38 : decode cX9_insert 38 = .ok (.invokevirtual 36, 3) := by decide +kernel
theorem dX9_insert_41 : decode cX9_insert 41 = .ok (.invokevirtual 46, 3) := by decide +kernel
theorem dX9_insert_44 : decode cX9_insert 44 = .ok (.aload_n 0, 1) := by decide +kernel
theorem dX9_insert_45 : decode cX9_insert 45 = .ok (.getfield 24, 3) := by decide +kernel
theorem dX9_insert_48 : decode cX9_insert 48 = .ok (.iload 4, 2) := by decide +kernel
theorem dX9_insert_50 : decode cX9_insert 50 = .ok (.aload_n 0, 1) := by decide +kernel
theorem dX9_insert_51 : decode cX9_insert 51 = .ok (.getfield 24, 3) := by decide +kernel
theorem dX9_insert_54 : decode cX9_insert 54 = .ok (.iload 4, 2) := by decide +kernel
theorem dX9_insert_56 : decode cX9_insert 56 = .ok (.iconst 1, 1) := by decide +kernel
theorem dX9_insert_57 : decode cX9_insert 57 = .ok (.isub, 1) := by decide +kernel
theorem dX9_insert_58 : decode cX9_insert 58 = .ok (.invokevirtual 36, 3) := by decide +kernel
theorem dX9_insert_61 : decode cX9_insert 61 = .ok (.invokevirtual 46, 3) := by decide +kernel
theorem dX9_insert_64 : decode cX9_insert 64 = .ok (.iinc 4 (-1), 3) := by decide +kernel
theorem dX9_insert_67 : decode cX9_insert 67 = .ok (.goto (-49), 3) := by decide +kernel
theorem dX9_insert_70 : decode cX9_insert 70 = .ok (.aload_n 0, 1) := by decide +kernel
theorem dX9_insert_71 : decode cX9_insert 71 = .ok (.getfield 20, 3) := by decide +kernel
theorem dX9_insert_74 : decode cX9_insert 74 = .ok (.iload_n 1, 1) := by decide +kernel
theorem dX9_insert_75 : decode cX9_insert 75 = .ok (.iload_n 2, 1) := by decide +kernel
theorem dX9_insert_76 : decode cX9_insert 76 = .ok (.invokevirtual 46, 3) := by decide +kernel
theorem dX9_insert_79 : decode cX9_insert 79 = .ok (.aload_n 0, 1) := by decide +kernel
theorem dX9_insert_80 : decode cX9_insert 80 = .ok (.getfield 24, 3) := by decide +kernel
theorem dX9_insert_83 : decode cX9_insert 83 = .ok (.iload_n 1, 1) := by decide +kernel
theorem dX9_insert_84 : decode cX9_insert 84 = .ok (.iload_n 3, 1) := by decide +kernel
theorem dX9_insert_85 : decode cX9_insert 85 = .ok (.invokevirtual 46, 3) := by decide +kernel
theorem dX9_insert_88 : decode cX9_insert 88 = .ok (.aload_n 0, 1) := by decide +kernel
theorem dX9_insert_89 : decode cX9_insert 89 = .ok (.dup, 1) := by decide +kernel
theorem dX9_insert_90 : decode cX9_insert 90 = .ok (.getfield 30, 3) := by decide +kernel
theorem dX9_insert_93 : decode cX9_insert 93 = .ok (.iconst 1, 1) := by decide +kernel
theorem dX9_insert_94 : decode cX9_insert 94 = .ok (.iadd, 1) := by decide +kernel
theorem dX9_insert_95 : decode cX9_insert 95 = .ok (.putfield 30, 3) := by decide +kernel
theorem dX9_insert_98 : decode cX9_insert 98 = .ok (.return_, 1) := by decide +kernel
theorem dX9_endPartition_0 : decode cX9_endPartition 0 = .ok (.aload_n 0, 1) := by decide +kernel
theorem dX9_endPartition_1 : decode cX9_endPartition 1 = .ok (.getfield 27, 3) := by decide +kernel
theorem dX9_endPartition_4 : decode cX9_endPartition 4 = .ok (.aload_n 0, 1) := by decide +kernel
theorem dX9_endPartition_5 : decode cX9_endPartition 5 = .ok (.getfield 33, 3) := by decide +kernel
theorem dX9_endPartition_8 : decode cX9_endPartition 8 = .ok (.aload_n 0, 1) := by decide +kernel
theorem dX9_endPartition_9 : decode cX9_endPartition 9 = .ok (.getfield 30, 3) := by decide +kernel
theorem dX9_endPartition_12 : decode cX9_endPartition 12 = .ok (.invokevirtual 46, 3) := by decide +kernel
theorem dX9_endPartition_15 : decode cX9_endPartition 15 = .ok (.aload_n 0, 1) := by decide +kernel
theorem dX9_endPartition_16 : decode cX9_endPartition 16 = .ok (.dup, 1) := by decide +kernel
theorem dX9_endPartition_17 : decode cX9_endPartition 17 = .ok (.getfield 33, 3) := by decide +kernel
theorem dX9_endPartition_20 : decode cX9_endPartition 20 = .ok (.iconst 1, 1) := by decide +kernel
theorem dX9_endPartition_21 : decode cX9_endPartition 21 = .ok (.iadd, 1) := by decide +kernel
theorem dX9_endPartition_22 : decode cX9_endPartition 22 = .ok (.putfield 33, 3) := by decide +kernel
theorem dX9_endPartition_25 : decode cX9_endPartition 25 = .ok (.return_, 1) := by decide +kernel
theorem dX9_hasKey_0 : decode cX9_hasKey 0 = .ok (.iload_n 1, 1) := by decide +kernel
theorem dX9_hasKey_1 : decode cX9_hasKey 1 = .ok (.ifCond .lt 27, 3) := by decide +kernel
theorem dX9_hasKey_4 : decode cX9_hasKey 4 = .ok (.iload_n 1, 1) := by decide +kernel
theorem dX9_hasKey_5 : decode cX9_hasKey 5 = .ok (.aload_n 0, 1) := by decide +kernel
theorem dX9_hasKey_6 : decode cX9_hasKey 6 = .ok (.getfield 30, 3) := by decide +kernel
theorem dX9_hasKey_9 : decode cX9_hasKey 9 = .ok (.if_icmp .ge 19, 3) := by decide +kernel
theorem dX9_hasKey_12 : decode cX9_hasKey 12 = .ok (.aload_n 0, 1) := by decide +kernel
theorem dX9_hasKey_13 : decode cX9_hasKey 13 = .ok (.getfield 20, 3) := by decide +kernel
theorem dX9_hasKey_16 : decode cX9_hasKey 16 = .ok (.iload_n 1, 1) := by decide +kernel
theorem dX9_hasKey_17 : decode cX9_hasKey 17 = .ok (.invokevirtual 36, 3) := by decide +kernel
theorem dX9_hasKey_20 : decode cX9_hasKey 20 = .ok (.iload_n 2, 1) := by decide +kernel
theorem dX9_hasKey_21 : decode cX9_hasKey 21 = .ok (.if_icmp .ne 7, 3) := by decide +kernel
theorem dX9_hasKey_24 : decode cX9_hasKey 24 = .ok (.iconst 1, 1) := by decide +kernel
theorem dX9_hasKey_25 : decode cX9_hasKey 25 = .ok (.goto 4, 3) := by decide +kernel
theorem dX9_hasKey_28 : decode cX9_hasKey 28 = .ok (.iconst 0, 1) := by decide +kernel
theorem dX9_hasKey_29 : decode cX9_hasKey 29 = .ok (.ireturn, 1) := by decide +kernel
theorem dX9_placeBehind_0 : decode cX9_placeBehind 0 = .ok (.iconst 0, 1) := by decide +kernel
theorem dX9_placeBehind_1 : decode cX9_placeBehind 1 = .ok (.istore_n 2, 1) := by decide +kernel
theorem dX9_placeBehind_2 : decode cX9_placeBehind 2 = .ok (.aload_n 0, 1) := by decide +kernel
theorem dX9_placeBehind_3 : decode cX9_placeBehind 3 = .ok (.getfield 30, 3) := by decide +kernel
theorem dX9_placeBehind_6 : decode cX9_placeBehind 6 = .ok (.istore_n 3, 1) := by decide +kernel
theorem dX9_placeBehind_7 : decode cX9_placeBehind 7 = .ok (.iconst 0, 1) := by decide +kernel
theorem dX9_placeBehind_8 : decode cX9_placeBehind 8 = .ok (.istore 4, 2) := by decide +kernel
theorem dX9_placeBehind_10 : decode cX9_placeBehind 10 = .ok (.iload 4, 2) := by decide +kernel
theorem dX9_placeBehind_12 : decode cX9_placeBehind 12 = .ok (.sipush 300, 3) := by decide +kernel
theorem dX9_placeBehind_15 : decode cX9_placeBehind 15 = .ok (.if_icmp .ge 45, 3) := by decide +kernel
theorem dX9_placeBehind_18 : decode cX9_placeBehind 18 = .ok (.iload_n 2, 1) := by decide +kernel
theorem dX9_placeBehind_19 : decode cX9_placeBehind 19 = .ok (.iload_n 3, 1) := by decide +kernel
theorem dX9_placeBehind_20 : decode cX9_placeBehind 20 = .ok (.if_icmp .ge 40, 3) := by decide +kernel
theorem dX9_placeBehind_23 : decode cX9_placeBehind 23 = .ok (.iload_n 2, 1) := by decide +kernel
theorem dX9_placeBehind_24 : decode cX9_placeBehind 24 = .ok (.iload_n 3, 1) := by decide +kernel
theorem dX9_placeBehind_25 : decode cX9_placeBehind 25 = .ok (.iadd, 1) := by decide +kernel
theorem dX9_placeBehind_26 : decode cX9_placeBehind 26 = .ok (.iconst 2, 1) := by decide +kernel
theorem dX9_placeBehind_27 : decode cX9_placeBehind 27 = .ok (.idiv, 1) := by decide +kernel
theorem dX9_placeBehind_28 : decode cX9_placeBehind 28 = .ok (.istore 5, 2) := by decide +kernel
theorem dX9_placeBehind_30 : decode cX9_placeBehind 30 = .ok (.aload_n 0, 1) := by decide +kernel
theorem dX9_placeBehind_31 : decode cX9_placeBehind 31 = .ok (.getfield 20, 3) := by decide +kernel
theorem dX9_placeBehind_34 : decode cX9_placeBehind 34 = .ok (.iload 5, 2) := by decide +kernel
theorem dX9_placeBehind_36 : decode cX9_placeBehind 36 = .ok (.invokevirtual 36, 3) := by decide +kernel
theorem dX9_placeBehind_39 : decode cX9_placeBehind 39 = .ok (.iload_n 1, 1) := by decide +kernel
theorem dX9_placeBehind_40 : decode cX9_placeBehind 40 = .ok (.if_icmp .gt 11, 3) := by decide +kernel
theorem dX9_placeBehind_43 : decode cX9_placeBehind 43 = .ok (.iload 5, 2) := by decide +kernel
theorem dX9_placeBehind_45 : decode cX9_placeBehind 45 = .ok (.iconst 1, 1) := by decide +kernel
theorem dX9_placeBehind_46 : decode cX9_placeBehind 46 = .ok (.iadd, 1) := by decide +kernel
theorem dX9_placeBehind_47 : decode cX9_placeBehind 47 = .ok (.istore_n 2, 1) := by decide +kernel
theorem dX9_placeBehind_48 : decode cX9_placeBehind 48 = .ok (.goto 6, 3) := by decide +kernel
theorem dX9_placeBehind_51 : decode cX9_placeBehind 51 = .ok (.iload 5, 2) := by decide +kernel
theorem dX9_placeBehind_53 : decode cX9_placeBehind 53 = .ok (.istore_n 3, 1) := by decide +kernel
theorem dX9_placeBehind_54 : decode cX9_placeBehind 54 = .ok (.iinc 4 1, 3) := by decide +kernel
theorem dX9_placeBehind_57 : decode cX9_placeBehind 57 = .ok (.goto (-47), 3) := by decide +kernel
theorem dX9_placeBehind_60 : decode cX9_placeBehind 60 = .ok (.iload_n 2, 1) := by decide +kernel
theorem dX9_placeBehind_61 : decode cX9_placeBehind 61 = .ok (.ireturn, 1) := by decide +kernel
theorem dX9_squares_0 : decode cX9_squares 0 = .ok (.iconst 0, 1) := by decide +kernel
theorem dX9_squares_1 : decode cX9_squares 1 = .ok (.istore_n 1, 1) := by decide +kernel
theorem dX9_squares_2 : decode cX9_squares 2 = .ok (.iconst 0, 1) := by decide +kernel
theorem dX9_squares_3 : decode cX9_squares 3 = .ok (.istore_n 2, 1) := by decide +kernel
theorem dX9_squares_4 : decode cX9_squares 4 = .ok (.iload_n 2, 1) := by decide +kernel
theorem dX9_squares_5 : decode cX9_squares 5 = .ok (.aload_n 0, 1) := by decide +kernel
theorem dX9_squares_6 : decode cX9_squares 6 = .ok (.getfield 30, 3) := by decide +kernel
theorem dX9_squares_9 : decode cX9_squares 9 = .ok (.if_icmp .ge 36, 3) := by decide +kernel
theorem dX9_squares_12 : decode cX9_squares 12 = .ok (.bipush 31, 2) := by decide +kernel
theorem dX9_squares_14 : decode cX9_squares 14 = .ok (.aload_n 0, 1) := by decide +kernel
theorem dX9_squares_15 : decode cX9_squares 15 = .ok (.getfield 20, 3) := by decide +kernel
theorem dX9_squares_18 : decode cX9_squares 18 = .ok (.iload_n 2, 1) := by decide +kernel
theorem dX9_squares_19 : decode cX9_squares 19 = .ok (.invokevirtual 36, 3) := by decide +kernel
theorem dX9_squares_22 : decode cX9_squares 22 = .ok (.imul, 1) := by decide +kernel
theorem dX9_squares_23 : decode cX9_squares 23 = .ok (.aload_n 0, 1) := by decide +kernel
theorem dX9_squares_24 : decode cX9_squares 24 = .ok (.getfield 24, 3) := by decide +kernel
theorem dX9_squares_27 : decode cX9_squares 27 = .ok (.iload_n 2, 1) := by decide +kernel
theorem dX9_squares_28 : decode cX9_squares 28 = .ok (.invokevirtual 36, 3) := by decide +kernel
theorem dX9_squares_31 : decode cX9_squares 31 = .ok (.iadd, 1) := by decide +kernel
theorem dX9_squares_32 : decode cX9_squares 32 = .ok (.istore_n 3, 1) := by decide +kernel
theorem dX9_squares_33 : decode cX9_squares 33 = .ok (.iload_n 1, 1) := by decide +kernel
theorem dX9_squares_34 : decode cX9_squares 34 = .ok (.iload_n 3, 1) := by decide +kernel
theorem dX9_squares_35 : decode cX9_squares 35 = .ok (.iload_n 3, 1) := by decide +kernel
theorem dX9_squares_36 : decode cX9_squares 36 = .ok (.imul, 1) := by decide +kernel
theorem dX9_squares_37 : decode cX9_squares 37 = .ok (.iadd, 1) := by decide +kernel
theorem dX9_squares_38 : decode cX9_squares 38 = .ok (.istore_n 1, 1) := by decide +kernel
theorem dX9_squares_39 : decode cX9_squares 39 = .ok (.iinc 2 1, 3) := by decide +kernel
theorem dX9_squares_42 : decode cX9_squares 42 = .ok (.goto (-38), 3) := by decide +kernel
theorem dX9_squares_45 : decode cX9_squares 45 = .ok (.iload_n 1, 1) := by decide +kernel
theorem dX9_squares_46 : decode cX9_squares 46 = .ok (.ireturn, 1) := by decide +kernel
theorem dX10_init_0 : decode cX10_init 0 = .ok (.aload_n 0, 1) := by decide +kernel
theorem dX10_init_1 : decode cX10_init 1 = .ok (.invokespecial 3, 3) := by decide +kernel
theorem dX10_init_4 : decode cX10_init 4 = .ok (.aload_n 0, 1) := by decide +kernel
theorem dX10_init_5 : decode cX10_init 5 = .ok (.new 9, 3) := by decide +kernel
theorem dX10_init_8 : decode cX10_init 8 = .ok (.dup, 1) := by decide +kernel
theorem dX10_init_9 : decode cX10_init 9 = .ok (.bipush 8, 2) := by decide +kernel
theorem dX10_init_11 : decode cX10_init 11 = .ok (.invokespecial 11, 3) := by decide +kernel
theorem dX10_init_14 : decode cX10_init 14 = .ok (.putfield 14, 3) := by decide +kernel
theorem dX10_init_17 : decode cX10_init 17 = .ok (.aload_n 0, 1) := by decide +kernel
theorem dX10_init_18 : decode cX10_init 18 = .ok (.new 9, 3) := by decide +kernel
theorem dX10_init_21 : decode cX10_init 21 = .ok (.dup, 1) := by decide +kernel
theorem dX10_init_22 : decode cX10_init 22 = .ok (.bipush 8, 2) := by decide +kernel
theorem dX10_init_24 : decode cX10_init 24 = .ok (.invokespecial 11, 3) := by decide +kernel
theorem dX10_init_27 : decode cX10_init 27 = .ok (.putfield 20, 3) := by decide +kernel
theorem dX10_init_30 : decode cX10_init 30 = .ok (.aload_n 0, 1) := by decide +kernel
theorem dX10_init_31 : decode cX10_init 31 = .ok (.new 9, 3) := by decide +kernel
theorem dX10_init_34 : decode cX10_init 34 = .ok (.dup, 1) := by decide +kernel
theorem dX10_init_35 : decode cX10_init 35 = .ok (.bipush 8, 2) := by decide +kernel
theorem dX10_init_37 : decode cX10_init 37 = .ok (.invokespecial 11, 3) := by decide +kernel
theorem dX10_init_40 : decode cX10_init 40 = .ok (.putfield 23, 3) := by decide +kernel
theorem dX10_init_43 : decode cX10_init 43 = .ok (.return_, 1) := by decide +kernel
theorem dX10_begin_0 : decode cX10_begin 0 = .ok (.aload_n 0, 1) := by decide +kernel
theorem dX10_begin_1 : decode cX10_begin 1 = .ok (.iload_n 1, 1) := by decide +kernel
theorem dX10_begin_2 : decode cX10_begin 2 = .ok (.putfield 26, 3) := by decide +kernel
theorem dX10_begin_5 : decode cX10_begin 5 = .ok (.aload_n 0, 1) := by decide +kernel
theorem dX10_begin_6 : decode cX10_begin 6 = .ok (.iload_n 2, 1) := by decide +kernel
theorem dX10_begin_7 : decode cX10_begin 7 = .ok (.putfield 30, 3) := by decide +kernel
theorem dX10_begin_10 : decode cX10_begin 10 = .ok (.aload_n 0, 1) := by decide +kernel
theorem dX10_begin_11 : decode cX10_begin 11 = .ok (.iconst 0, 1) := by decide +kernel
theorem dX10_begin_12 : decode cX10_begin 12 = .ok (.putfield 33, 3) := by decide +kernel
theorem dX10_begin_15 : decode cX10_begin 15 = .ok (.aload_n 0, 1) := by decide +kernel
theorem dX10_begin_16 : decode cX10_begin 16 = .ok (.iconst 0, 1) := by decide +kernel
theorem dX10_begin_17 : decode cX10_begin 17 = .ok (.putfield 36, 3) := by decide +kernel
theorem dX10_begin_20 : decode cX10_begin 20 = .ok (.return_, 1) := by decide +kernel
theorem dX10_take_0 : decode cX10_take 0 = .ok (.aload_n 0, 1) := by decide +kernel
theorem dX10_take_1 : decode cX10_take 1 = .ok (.getfield 23, 3) := by decide +kernel
theorem dX10_take_4 : decode cX10_take 4 = .ok (.aload_n 0, 1) := by decide +kernel
theorem dX10_take_5 : decode cX10_take 5 = .ok (.getfield 33, 3) := by decide +kernel
theorem dX10_take_8 : decode cX10_take 8 = .ok (.iload_n 1, 1) := by decide +kernel
theorem dX10_take_9 : decode cX10_take 9 = .ok (.invokevirtual 39, 3) := by decide +kernel
theorem dX10_take_12 : decode cX10_take 12 = .ok (.aload_n 0, 1) := by decide +kernel
theorem dX10_take_13 : decode cX10_take 13 = .ok (.getfield 20, 3) := by decide +kernel
theorem dX10_take_16 : decode cX10_take 16 = .ok (.aload_n 0, 1) := by decide +kernel
theorem dX10_take_17 : decode cX10_take 17 = .ok (.getfield 33, 3) := by decide +kernel
theorem dX10_take_20 : decode cX10_take 20 = .ok (.iload_n 2, 1) := by decide +kernel
theorem dX10_take_21 : decode cX10_take 21 = .ok (.invokevirtual 39, 3) := by decide +kernel
theorem dX10_take_24 : decode cX10_take 24 = .ok (.aload_n 0, 1) := by decide +kernel
theorem dX10_take_25 : decode cX10_take 25 = .ok (.dup, 1) := by decide +kernel
theorem dX10_take_26 : decode cX10_take 26 = .ok (.getfield 33, 3) := by decide +kernel
theorem dX10_take_29 : decode cX10_take 29 = .ok (.iconst 1, 1) := by decide +kernel
theorem dX10_take_30 : decode cX10_take 30 = .ok (.iadd, 1) := by decide +kernel
theorem dX10_take_31 : decode cX10_take 31 = .ok (.putfield 33, 3) := by decide +kernel
theorem dX10_take_34 : decode cX10_take 34 = .ok (.return_, 1) := by decide +kernel
theorem dX10_copy_0 : decode cX10_copy 0 = .ok (.aload_n 0, 1) := by decide +kernel
theorem dX10_copy_1 : decode cX10_copy 1 = .ok (.aload_n 0, 1) := by decide +kernel
theorem dX10_copy_2 : decode cX10_copy 2 = .ok (.getfield 36, 3) := by decide +kernel
theorem dX10_copy_5 : decode cX10_copy 5 = .ok (.iload_n 1, 1) := by decide +kernel
theorem dX10_copy_6 : decode cX10_copy 6 = .ok (.invokestatic 43, 3) := by decide +kernel
theorem dX10_copy_9 : decode cX10_copy 9 = .ok (.putfield 36, 3) := by decide +kernel
theorem dX10_copy_12 : decode cX10_copy 12 = .ok (.aload_n 0, 1) := by decide +kernel
theorem dX10_copy_13 : decode cX10_copy 13 = .ok (.getfield 20, 3) := by decide +kernel
theorem dX10_copy_16 : decode cX10_copy 16 = .ok (.iload_n 1, 1) := by decide +kernel
theorem dX10_copy_17 : decode cX10_copy 17 = .ok (.iload_n 2, 1) := by decide +kernel
theorem dX10_copy_18 : decode cX10_copy 18 = .ok (.invokevirtual 39, 3) := by decide +kernel
theorem dX10_copy_21 : decode cX10_copy 21 = .ok (.return_, 1) := by decide +kernel
theorem dX10_ended_0 : decode cX10_ended 0 = .ok (.iconst 0, 1) := by decide +kernel
theorem dX10_ended_1 : decode cX10_ended 1 = .ok (.istore_n 2, 1) := by decide +kernel
theorem dX10_ended_2 : decode cX10_ended 2 = .ok (.iconst 0, 1) := by decide +kernel
theorem dX10_ended_3 : decode cX10_ended 3 = .ok (.istore_n 3, 1) := by decide +kernel
theorem dX10_ended_4 : decode cX10_ended 4 = .ok (.iload_n 3, 1) := by decide +kernel
theorem dX10_ended_5 : decode cX10_ended 5 = .ok (.aload_n 0, 1) := by decide +kernel
theorem dX10_ended_6 : decode cX10_ended 6 = .ok (.getfield 33, 3) := by decide +kernel
theorem dX10_ended_9 : decode cX10_ended 9 = .ok (.if_icmp .ge 24, 3) := by decide +kernel
theorem dX10_ended_12 : decode cX10_ended 12 = .ok (.aload_n 0, 1) := by decide +kernel
theorem dX10_ended_13 : decode cX10_ended 13 = .ok (.getfield 20, 3) := by decide +kernel
theorem dX10_ended_16 : decode cX10_ended 16 = .ok (.iload_n 3, 1) := by decide +kernel
theorem dX10_ended_17 : decode cX10_ended 17 = .ok (.invokevirtual 47, 3) := by decide +kernel
theorem dX10_ended_20 : decode cX10_ended 20 = .ok (.iload_n 1, 1) := by decide +kernel
theorem dX10_ended_21 : decode cX10_ended 21 = .ok (.if_icmp .gt 6, 3) := by decide +kernel
theorem dX10_ended_24 : decode cX10_ended 24 = .ok (.iinc 2 1, 3) := by decide +kernel
theorem dX10_ended_27 : decode cX10_ended 27 = .ok (.iinc 3 1, 3) := by decide +kernel
theorem dX10_ended_30 : decode cX10_ended 30 = .ok (.goto (-26), 3) := by decide +kernel
theorem dX10_ended_33 : decode cX10_ended 33 = .ok (.iload_n 2, 1) := by decide +kernel
theorem dX10_ended_34 : decode cX10_ended 34 = .ok (.ireturn, 1) := by decide +kernel
theorem dX10_earliestEnd_0 : decode cX10_earliestEnd 0 = .ok (.iload_n 1, 1) := by decide +kernel
theorem dX10_earliestEnd_1 : decode cX10_earliestEnd 1 = .ok (.istore_n 2, 1) := by decide +kernel
theorem dX10_earliestEnd_2 : decode cX10_earliestEnd 2 = .ok (.iconst 0, 1) := by decide +kernel
theorem dX10_earliestEnd_3 : decode cX10_earliestEnd 3 = .ok (.istore_n 3, 1) := by decide +kernel
theorem dX10_earliestEnd_4 : decode cX10_earliestEnd 4 = .ok (.iload_n 3, 1) := by decide +kernel
theorem dX10_earliestEnd_5 : decode cX10_earliestEnd 5 = .ok (.aload_n 0, 1) := by decide +kernel
theorem dX10_earliestEnd_6 : decode cX10_earliestEnd 6 = .ok (.getfield 33, 3) := by decide +kernel
theorem dX10_earliestEnd_9 : decode cX10_earliestEnd 9 = .ok (.if_icmp .ge 39, 3) := by decide +kernel
theorem dX10_earliestEnd_12 : decode cX10_earliestEnd 12 = .ok (.aload_n 0, 1) := by decide +kernel
theorem dX10_earliestEnd_13 : decode cX10_earliestEnd 13 = .ok (.getfield 20, 3) := by decide +kernel
theorem dX10_earliestEnd_16 : decode cX10_earliestEnd 16 = .ok (.iload_n 3, 1) := by decide +kernel
theorem dX10_earliestEnd_17 : decode cX10_earliestEnd 17 = .ok (.invokevirtual 47, 3) := by decide +kernel
theorem dX10_earliestEnd_20 : decode cX10_earliestEnd 20 = .ok (.istore 4, 2) := by decide +kernel
theorem dX10_earliestEnd_22 : decode cX10_earliestEnd 22 = .ok (.iload 4, 2) := by decide +kernel
theorem dX10_earliestEnd_24 : decode cX10_earliestEnd 24 = .ok (.iload_n 1, 1) := by decide +kernel
theorem dX10_earliestEnd_25 : decode cX10_earliestEnd 25 = .ok (.if_icmp .le 17, 3) := by decide +kernel
theorem dX10_earliestEnd_28 : decode cX10_earliestEnd 28 = .ok (.iload_n 2, 1) := by decide +kernel
theorem dX10_earliestEnd_29 : decode cX10_earliestEnd 29 = .ok (.iload_n 1, 1) := by decide +kernel
theorem dX10_earliestEnd_30 : decode cX10_earliestEnd 30 = .ok (.if_icmp .eq 9, 3) := by decide +kernel
theorem dX10_earliestEnd_33 : decode cX10_earliestEnd 33 = .ok (.iload 4, 2) := by decide +kernel
theorem dX10_earliestEnd_35 : decode cX10_earliestEnd 35 = .ok (.iload_n 2, 1) := by decide +kernel
theorem dX10_earliestEnd_36 : decode cX10_earliestEnd 36 = .ok (.if_icmp .ge 6, 3) := by decide +kernel
theorem dX10_earliestEnd_39 : decode cX10_earliestEnd 39 = .ok (.iload 4, 2) := by decide +kernel
theorem dX10_earliestEnd_41 : decode cX10_earliestEnd 41 = .ok (.istore_n 2, 1) := by decide +kernel
theorem dX10_earliestEnd_42 : decode cX10_earliestEnd 42 = .ok (.iinc 3 1, 3) := by decide +kernel
theorem dX10_earliestEnd_45 : decode cX10_earliestEnd 45 = .ok (.goto (-41), 3) := by decide +kernel
theorem dX10_earliestEnd_48 : decode cX10_earliestEnd 48 = .ok (.iload_n 2, 1) := by decide +kernel
theorem dX10_earliestEnd_49 : decode cX10_earliestEnd 49 = .ok (.ireturn, 1) := by decide +kernel
theorem dX10_latestWithoutCopy_0 : decode cX10_latestWithoutCopy 0 = .ok (.aload_n 0, 1) := by decide +kernel
theorem dX10_latestWithoutCopy_1 : decode cX10_latestWithoutCopy 1 = .ok (.getfield 30, 3) := by decide +kernel
theorem dX10_latestWithoutCopy_4 : decode cX10_latestWithoutCopy 4 = .ok (.istore_n 2, 1) := by decide +kernel
theorem dX10_latestWithoutCopy_5 : decode cX10_latestWithoutCopy 5 = .ok (.iload_n 1, 1) := by decide +kernel
theorem dX10_latestWithoutCopy_6 : decode cX10_latestWithoutCopy 6 = .ok (.istore_n 3, 1) := by decide +kernel
theorem dX10_latestWithoutCopy_7 : decode cX10_latestWithoutCopy 7 = .ok (.iconst 0, 1) := by decide +kernel
theorem dX10_latestWithoutCopy_8 : decode cX10_latestWithoutCopy 8 = .ok (.istore 4, 2) := by decide +kernel
theorem dX10_latestWithoutCopy_10 : decode cX10_latestWithoutCopy 10 = .ok (.iload 4, 2) := by decide +kernel
theorem dX10_latestWithoutCopy_12 : decode cX10_latestWithoutCopy 12 = .ok (.aload_n 0, 1) := by decide +kernel
theorem dX10_latestWithoutCopy_13 : decode cX10_latestWithoutCopy 13 = .ok (.getfield 33, 3) := by decide +kernel
theorem dX10_latestWithoutCopy_16 : decode cX10_latestWithoutCopy 16 = .ok (.if_icmp .ge 47, 3) := by decide +kernel
theorem dX10_latestWithoutCopy_19 : decode cX10_latestWithoutCopy 19 = .ok (.aload_n 0, 1) := by decide +kernel
theorem dX10_latestWithoutCopy_20 : decode cX10_latestWithoutCopy 20 = .ok (.getfield 36, 3) := by decide +kernel
theorem dX10_latestWithoutCopy_23 : decode cX10_latestWithoutCopy 23 = .ok (.iload 4, 2) := by decide +kernel
theorem dX10_latestWithoutCopy_25 : decode cX10_latestWithoutCopy 25 = .ok (.invokestatic 51, 3) := by decide +kernel
theorem dX10_latestWithoutCopy_28 : decode cX10_latestWithoutCopy 28 = .ok (.ifCond .ne 29, 3) := by decide +kernel
theorem dX10_latestWithoutCopy_31 : decode cX10_latestWithoutCopy 31 = .ok (.aload_n 0, 1) := by decide +kernel
theorem dX10_latestWithoutCopy_32 : decode cX10_latestWithoutCopy 32 = .ok (.getfield 20, 3) := by decide +kernel
theorem dX10_latestWithoutCopy_35 : decode cX10_latestWithoutCopy 35 = .ok (.iload 4, 2) := by decide +kernel
theorem dX10_latestWithoutCopy_37 : decode cX10_latestWithoutCopy 37 = .ok (.invokevirtual 47, 3) := by decide +kernel
theorem dX10_latestWithoutCopy_40 : decode cX10_latestWithoutCopy 40 = .ok (.iload_n 3, 1) := by decide +kernel
theorem dX10_latestWithoutCopy_41 : decode cX10_latestWithoutCopy 41 = .ok (.if_icmp .le 16, 3) := by decide +kernel
theorem dX10_latestWithoutCopy_44 : decode cX10_latestWithoutCopy 44 = .ok (.iload 4, 2) := by decide +kernel
theorem dX10_latestWithoutCopy_46 : decode cX10_latestWithoutCopy 46 = .ok (.istore_n 2, 1) := by decide +kernel
theorem dX10_latestWithoutCopy_47 : decode cX10_latestWithoutCopy 47 = .ok (.aload_n 0, 1) := by decide +kernel
theorem dX10_latestWithoutCopy_48 : decode cX10_latestWithoutCopy 48 = .ok (.getfield 20, 3) := by decide +kernel
theorem dX10_latestWithoutCopy_51 : decode cX10_latestWithoutCopy 51 = .ok (.iload 4, 2) := by decide +kernel
theorem dX10_latestWithoutCopy_53 : decode cX10_latestWithoutCopy 53 = .ok (.invokevirtual 47, 3) := by decide +kernel
theorem dX10_latestWithoutCopy_56 : decode cX10_latestWithoutCopy 56 = .ok (.istore_n 3, 1) := by decide +kernel
theorem dX10_latestWithoutCopy_57 : decode cX10_latestWithoutCopy 57 = .ok (.iinc 4 1, 3) := by decide +kernel
theorem dX10_latestWithoutCopy_60 : decode cX10_latestWithoutCopy 60 = .ok (.goto (-50), 3) := by decide +kernel
theorem dX10_latestWithoutCopy_63 : decode cX10_latestWithoutCopy 63 = .ok (.iload_n 2, 1) := by decide +kernel
theorem dX10_latestWithoutCopy_64 : decode cX10_latestWithoutCopy 64 = .ok (.ireturn, 1) := by decide +kernel
theorem dX11_init_0 : decode cX11_init 0 = .ok (.aload_n 0, 1) := by decide +kernel
theorem dX11_init_1 : decode cX11_init 1 = .ok (.invokespecial 3, 3) := by decide +kernel
theorem dX11_init_4 : decode cX11_init 4 = .ok (.aload_n 0, 1) := by decide +kernel
theorem dX11_init_5 : decode cX11_init 5 = .ok (.bipush 20, 2) := by decide +kernel
theorem dX11_init_7 : decode cX11_init 7 = .ok (.putfield 9, 3) := by decide +kernel
theorem dX11_init_10 : decode cX11_init 10 = .ok (.aload_n 0, 1) := by decide +kernel
theorem dX11_init_11 : decode cX11_init 11 = .ok (.new 13, 3) := by decide +kernel
theorem dX11_init_14 : decode cX11_init 14 = .ok (.dup, 1) := by decide +kernel
theorem dX11_init_15 : decode cX11_init 15 = .ok (.invokespecial 15, 3) := by decide +kernel
theorem dX11_init_18 : decode cX11_init 18 = .ok (.putfield 16, 3) := by decide +kernel
theorem dX11_init_21 : decode cX11_init 21 = .ok (.aload_n 0, 1) := by decide +kernel
theorem dX11_init_22 : decode cX11_init 22 = .ok (.new 20, 3) := by decide +kernel
theorem dX11_init_25 : decode cX11_init 25 = .ok (.dup, 1) := by decide +kernel
theorem dX11_init_26 : decode cX11_init 26 = .ok (.aload_n 0, 1) := by decide +kernel
theorem dX11_init_27 : decode cX11_init 27 = .ok (.getfield 16, 3) := by decide +kernel
theorem dX11_init_30 : decode cX11_init 30 = .ok (.iconst 0, 1) := by decide +kernel
theorem dX11_init_31 : decode cX11_init 31 = .ok (.invokespecial 22, 3) := by decide +kernel
theorem dX11_init_34 : decode cX11_init 34 = .ok (.putfield 25, 3) := by decide +kernel
theorem dX11_init_37 : decode cX11_init 37 = .ok (.aload_n 0, 1) := by decide +kernel
theorem dX11_init_38 : decode cX11_init 38 = .ok (.new 20, 3) := by decide +kernel
theorem dX11_init_41 : decode cX11_init 41 = .ok (.dup, 1) := by decide +kernel
theorem dX11_init_42 : decode cX11_init 42 = .ok (.aload_n 0, 1) := by decide +kernel
theorem dX11_init_43 : decode cX11_init 43 = .ok (.getfield 16, 3) := by decide +kernel
theorem dX11_init_46 : decode cX11_init 46 = .ok (.iconst 1, 1) := by decide +kernel
theorem dX11_init_47 : decode cX11_init 47 = .ok (.invokespecial 22, 3) := by decide +kernel
theorem dX11_init_50 : decode cX11_init 50 = .ok (.putfield 29, 3) := by decide +kernel
theorem dX11_init_53 : decode cX11_init 53 = .ok (.aload_n 0, 1) := by decide +kernel
theorem dX11_init_54 : decode cX11_init 54 = .ok (.new 32, 3) := by decide +kernel
theorem dX11_init_57 : decode cX11_init 57 = .ok (.dup, 1) := by decide +kernel
theorem dX11_init_58 : decode cX11_init 58 = .ok (.invokespecial 34, 3) := by decide +kernel
theorem dX11_init_61 : decode cX11_init 61 = .ok (.putfield 35, 3) := by decide +kernel
theorem dX11_init_64 : decode cX11_init 64 = .ok (.aload_n 0, 1) := by decide +kernel
theorem dX11_init_65 : decode cX11_init 65 = .ok (.new 39, 3) := by decide +kernel
theorem dX11_init_68 : decode cX11_init 68 = .ok (.dup, 1) := by decide +kernel
theorem dX11_init_69 : decode cX11_init 69 = .ok (.aload_n 0, 1) := by decide +kernel
theorem dX11_init_70 : decode cX11_init 70 = .ok (.getfield 16, 3) := by decide +kernel
theorem dX11_init_73 : decode cX11_init 73 = .ok (.aload_n 0, 1) := by decide +kernel
theorem dX11_init_74 : decode cX11_init 74 = .ok (.getfield 25, 3) := by decide +kernel
theorem dX11_init_77 : decode cX11_init 77 = .ok (.aload_n 0, 1) := by decide +kernel
theorem dX11_init_78 : decode cX11_init 78 = .ok (.getfield 35, 3) := by decide +kernel
theorem dX11_init_81 : decode cX11_init 81 = .ok (.invokespecial 41, 3) := by decide +kernel
theorem dX11_init_84 : decode cX11_init 84 = .ok (.putfield 44, 3) := by decide +kernel
theorem dX11_init_87 : decode cX11_init 87 = .ok (.aload_n 0, 1) := by decide +kernel
theorem dX11_init_88 : decode cX11_init 88 = .ok (.new 48, 3) := by decide +kernel
theorem dX11_init_91 : decode cX11_init 91 = .ok (.dup, 1) := by decide +kernel
theorem dX11_init_92 : decode cX11_init 92 = .ok (.invokespecial 50, 3) := by decide +kernel
theorem dX11_init_95 : decode cX11_init 95 = .ok (.putfield 51, 3) := by decide +kernel
theorem dX11_init_98 : decode cX11_init 98 = .ok (.aload_n 0, 1) := by decide +kernel
theorem dX11_init_99 : decode cX11_init 99 = .ok (.new 55, 3) := by decide +kernel
theorem dX11_init_102 : decode cX11_init 102 = .ok (.dup, 1) := by decide +kernel
theorem dX11_init_103 : decode cX11_init 103 = .ok (.invokespecial 57, 3) := by decide +kernel
theorem dX11_init_106 : decode cX11_init 106 = .ok (.putfield 58, 3) := by decide +kernel
theorem dX11_init_109 : decode cX11_init 109 = .ok (.aload_n 0, 1) := by decide +kernel
theorem dX11_init_110 : decode cX11_init 110 = .ok (.new 62, 3) := by decide +kernel
theorem dX11_init_113 : decode cX11_init 113 = .ok (.dup, 1) := by decide +kernel
theorem dX11_init_114 : decode cX11_init 114 = .ok (.aload_n 0, 1) := by decide +kernel
theorem dX11_init_115 : decode cX11_init 115 = .ok (.getfield 58, 3) := by decide +kernel
theorem dX11_init_118 : decode cX11_init 118 = .ok (.invokespecial 64, 3) := by decide +kernel
theorem dX11_init_121 : decode cX11_init 121 = .ok (.putfield 67, 3) := by decide +kernel
theorem dX11_init_124 : decode cX11_init 124 = .ok (.return_, 1) := by decide +kernel
theorem dX11_source_0 : decode cX11_source 0 = .ok (.iload_n 1, 1) := by decide +kernel
theorem dX11_source_1 : decode cX11_source 1 = .ok (.invokestatic 71, 3) := by decide +kernel
theorem dX11_source_4 : decode cX11_source 4 = .ok (.aload_n 0, 1) := by decide +kernel
theorem dX11_source_5 : decode cX11_source 5 = .ok (.invokevirtual 75, 3) := by decide +kernel
theorem dX11_source_8 : decode cX11_source 8 = .ok (.new 78, 3) := by decide +kernel
theorem dX11_source_11 : decode cX11_source 11 = .ok (.dup, 1) := by decide +kernel
theorem dX11_source_12 : decode cX11_source 12 = .ok (.getstatic 80, 3) := by decide +kernel
theorem dX11_source_15 : decode cX11_source 15 = .ok (.iconst (-1), 1) := by decide +kernel
theorem dX11_source_16 : decode cX11_source 16 = .ok (.iconst (-1), 1) := by decide +kernel
theorem dX11_source_17 : decode cX11_source 17 = .ok (.bipush 12, 2) := by decide +kernel
theorem dX11_source_19 : decode cX11_source 19 = .ok (.iload_n 1, 1) := by decide +kernel
theorem dX11_source_20 : decode cX11_source 20 = .ok (.invokespecial 86, 3) := by decide +kernel
theorem dX11_source_23 : decode cX11_source 23 = .ok (.astore_n 2, 1) := by decide +kernel
theorem dX11_source_24 : decode cX11_source 24 = .ok (.aload_n 2, 1) := by decide +kernel
theorem dX11_source_25 : decode cX11_source 25 = .ok (.iload_n 1, 1) := by decide +kernel
theorem dX11_source_26 : decode cX11_source 26 = .ok (.putfield 89, 3) := by decide +kernel
theorem dX11_source_29 : decode cX11_source 29 = .ok (.aload_n 0, 1) := by decide +kernel
theorem dX11_source_30 : decode cX11_source 30 = .ok (.getfield 16, 3) := by decide +kernel
theorem dX11_source_33 : decode cX11_source 33 = .ok (.aload_n 2, 1) := by decide +kernel
theorem dX11_source_34 : decode cX11_source 34 = .ok (.invokevirtual 92, 3) := by decide +kernel
theorem dX11_source_37 : decode cX11_source 37 = .ok (.ireturn, 1) := by decide +kernel
theorem dX11_put_0 : decode cX11_put 0 = .ok (.aload_n 0, 1) := by decide +kernel
theorem dX11_put_1 : decode cX11_put 1 = .ok (.iload_n 1, 1) := by decide +kernel
theorem dX11_put_2 : decode cX11_put 2 = .ok (.invokevirtual 96, 3) := by decide +kernel
theorem dX11_put_5 : decode cX11_put 5 = .ok (.aload_n 0, 1) := by decide +kernel
theorem dX11_put_6 : decode cX11_put 6 = .ok (.getfield 16, 3) := by decide +kernel
theorem dX11_put_9 : decode cX11_put 9 = .ok (.iload_n 1, 1) := by decide +kernel
theorem dX11_put_10 : decode cX11_put 10 = .ok (.invokevirtual 99, 3) := by decide +kernel
theorem dX11_put_13 : decode cX11_put 13 = .ok (.astore 4, 2) := by decide +kernel
theorem dX11_put_15 : decode cX11_put 15 = .ok (.aload 4, 2) := by decide +kernel
theorem dX11_put_17 : decode cX11_put 17 = .ok (.getfield 103, 3) := by decide +kernel
theorem dX11_put_20 : decode cX11_put 20 = .ok (.getstatic 80, 3) := by decide +kernel
theorem dX11_put_23 : decode cX11_put 23 = .ok (.if_acmp .ne 16, 3) := by decide +kernel
theorem dX11_put_26 : decode cX11_put 26 = .ok (.aload 4, 2) := by decide +kernel
theorem dX11_put_28 : decode cX11_put 28 = .ok (.getfield 106, 3) := by decide +kernel
theorem dX11_put_31 : decode cX11_put 31 = .ok (.invokevirtual 110, 3) := by decide +kernel
theorem dX11_put_34 : decode cX11_put 34 = .ok (.bipush 12, 2) := by decide +kernel
theorem dX11_put_36 : decode cX11_put 36 = .ok (.if_icmp .lt 13, 3) := by decide +kernel
theorem dX11_put_39 : decode cX11_put 39 = .ok (.new 116, 3) := by decide +kernel
theorem dX11_put_42 : decode cX11_put 42 = .ok (.dup, 1) := by decide +kernel
theorem dX11_put_43 : decode cX11_put 43 = .ok (.ldc 118, 2) := by decide +kernel
theorem dX11_put_45 : decode cX11_put 45 = .ok (.invokespecial 120, 3) := by decide +kernel
theorem dX11_put_48 : decode cX11_put 48 = .ok (.athrow, 1) := by decide +kernel
theorem dX11_put_49 : decode cX11_put 49 = .ok (.aload 4, 2) := by decide +kernel
theorem dX11_put_51 : decode cX11_put 51 = .ok (.getfield 106, 3) := by decide +kernel
theorem dX11_put_54 : decode cX11_put 54 = .ok (.iload_n 2, 1) := by decide +kernel
theorem dX11_put_55 : decode cX11_put 55 = .ok (.iload_n 3, 1) := by decide +kernel
theorem dX11_put_56 : decode cX11_put 56 = .ok (.invokevirtual 123, 3) := by decide +kernel
theorem dX11_put_59 : decode cX11_put 59 = .ok (.aload_n 0, 1) := by decide +kernel
theorem dX11_put_60 : decode cX11_put 60 = .ok (.getfield 25, 3) := by decide +kernel
theorem dX11_put_63 : decode cX11_put 63 = .ok (.iload_n 1, 1) := by decide +kernel
theorem dX11_put_64 : decode cX11_put 64 = .ok (.invokevirtual 126, 3) := by decide +kernel
theorem dX11_put_67 : decode cX11_put 67 = .ok (.aload_n 0, 1) := by decide +kernel
theorem dX11_put_68 : decode cX11_put 68 = .ok (.getfield 29, 3) := by decide +kernel
theorem dX11_put_71 : decode cX11_put 71 = .ok (.iload_n 1, 1) := by decide +kernel
theorem dX11_put_72 : decode cX11_put 72 = .ok (.invokevirtual 126, 3) := by decide +kernel
theorem dX11_put_75 : decode cX11_put 75 = .ok (.aload_n 0, 1) := by decide +kernel
theorem dX11_put_76 : decode cX11_put 76 = .ok (.getfield 35, 3) := by decide +kernel
theorem dX11_put_79 : decode cX11_put 79 = .ok (.invokevirtual 129, 3) := by decide +kernel
theorem dX11_put_82 : decode cX11_put 82 = .ok (.aload 4, 2) := by decide +kernel
theorem dX11_put_84 : decode cX11_put 84 = .ok (.getfield 106, 3) := by decide +kernel
theorem dX11_put_87 : decode cX11_put 87 = .ok (.invokevirtual 110, 3) := by decide +kernel
theorem dX11_put_90 : decode cX11_put 90 = .ok (.ireturn, 1) := by decide +kernel
theorem dX11_map_0 : decode cX11_map 0 = .ok (.aload_n 0, 1) := by decide +kernel
theorem dX11_map_1 : decode cX11_map 1 = .ok (.iload_n 1, 1) := by decide +kernel
theorem dX11_map_2 : decode cX11_map 2 = .ok (.invokevirtual 96, 3) := by decide +kernel
theorem dX11_map_5 : decode cX11_map 5 = .ok (.iload_n 2, 1) := by decide +kernel
theorem dX11_map_6 : decode cX11_map 6 = .ok (.ifCond .lt 18, 3) := by decide +kernel
theorem dX11_map_9 : decode cX11_map 9 = .ok (.iload_n 2, 1) := by decide +kernel
theorem dX11_map_10 : decode cX11_map 10 = .ok (.iconst 4, 1) := by decide +kernel
theorem dX11_map_11 : decode cX11_map 11 = .ok (.if_icmp .gt 13, 3) := by decide +kernel
theorem dX11_map_14 : decode cX11_map 14 = .ok (.iload_n 2, 1) := by decide +kernel
theorem dX11_map_15 : decode cX11_map 15 = .ok (.iconst 3, 1) := by decide +kernel
theorem dX11_map_16 : decode cX11_map 16 = .ok (.if_icmp .ne 18, 3) := by decide +kernel
theorem dX11_map_19 : decode cX11_map 19 = .ok (.iload_n 3, 1) := by decide +kernel
theorem dX11_map_20 : decode cX11_map 20 = .ok (.iconst 1, 1) := by decide +kernel
theorem dX11_map_21 : decode cX11_map 21 = .ok (.if_icmp .ge 13, 3) := by decide +kernel
theorem dX11_map_24 : decode cX11_map 24 = .ok (.new 132, 3) := by decide +kernel
theorem dX11_map_27 : decode cX11_map 27 = .ok (.dup, 1) := by decide +kernel
theorem dX11_map_28 : decode cX11_map 28 = .ok (.ldc 134, 2) := by decide +kernel
theorem dX11_map_30 : decode cX11_map 30 = .ok (.invokespecial 136, 3) := by decide +kernel
theorem dX11_map_33 : decode cX11_map 33 = .ok (.athrow, 1) := by decide +kernel
theorem dX11_map_34 : decode cX11_map 34 = .ok (.aload_n 0, 1) := by decide +kernel
theorem dX11_map_35 : decode cX11_map 35 = .ok (.invokevirtual 75, 3) := by decide +kernel
theorem dX11_map_38 : decode cX11_map 38 = .ok (.aload_n 0, 1) := by decide +kernel
theorem dX11_map_39 : decode cX11_map 39 = .ok (.getstatic 137, 3) := by decide +kernel
theorem dX11_map_42 : decode cX11_map 42 = .ok (.iload_n 1, 1) := by decide +kernel
theorem dX11_map_43 : decode cX11_map 43 = .ok (.invokevirtual 140, 3) := by decide +kernel
theorem dX11_map_46 : decode cX11_map 46 = .ok (.astore 4, 2) := by decide +kernel
theorem dX11_map_48 : decode cX11_map 48 = .ok (.aload 4, 2) := by decide +kernel
theorem dX11_map_50 : decode cX11_map 50 = .ok (.iload_n 2, 1) := by decide +kernel
theorem dX11_map_51 : decode cX11_map 51 = .ok (.putfield 144, 3) := by decide +kernel
theorem dX11_map_54 : decode cX11_map 54 = .ok (.aload 4, 2) := by decide +kernel
theorem dX11_map_56 : decode cX11_map 56 = .ok (.iload_n 3, 1) := by decide +kernel
theorem dX11_map_57 : decode cX11_map 57 = .ok (.putfield 147, 3) := by decide +kernel
theorem dX11_map_60 : decode cX11_map 60 = .ok (.aload_n 0, 1) := by decide +kernel
theorem dX11_map_61 : decode cX11_map 61 = .ok (.getfield 16, 3) := by decide +kernel
theorem dX11_map_64 : decode cX11_map 64 = .ok (.aload 4, 2) := by decide +kernel
theorem dX11_map_66 : decode cX11_map 66 = .ok (.invokevirtual 92, 3) := by decide +kernel
theorem dX11_map_69 : decode cX11_map 69 = .ok (.ireturn, 1) := by decide +kernel
theorem dX11_filter_0 : decode cX11_filter 0 = .ok (.aload_n 0, 1) := by decide +kernel
theorem dX11_filter_1 : decode cX11_filter 1 = .ok (.iload_n 1, 1) := by decide +kernel
theorem dX11_filter_2 : decode cX11_filter 2 = .ok (.invokevirtual 96, 3) := by decide +kernel
theorem dX11_filter_5 : decode cX11_filter 5 = .ok (.aload_n 0, 1) := by decide +kernel
theorem dX11_filter_6 : decode cX11_filter 6 = .ok (.invokevirtual 75, 3) := by decide +kernel
theorem dX11_filter_9 : decode cX11_filter 9 = .ok (.aload_n 0, 1) := by decide +kernel
theorem dX11_filter_10 : decode cX11_filter 10 = .ok (.getstatic 150, 3) := by decide +kernel
theorem dX11_filter_13 : decode cX11_filter 13 = .ok (.iload_n 1, 1) := by decide +kernel
theorem dX11_filter_14 : decode cX11_filter 14 = .ok (.invokevirtual 140, 3) := by decide +kernel
theorem dX11_filter_17 : decode cX11_filter 17 = .ok (.astore 4, 2) := by decide +kernel
theorem dX11_filter_19 : decode cX11_filter 19 = .ok (.aload 4, 2) := by decide +kernel
theorem dX11_filter_21 : decode cX11_filter 21 = .ok (.iload_n 2, 1) := by decide +kernel
theorem dX11_filter_22 : decode cX11_filter 22 = .ok (.putfield 153, 3) := by decide +kernel
theorem dX11_filter_25 : decode cX11_filter 25 = .ok (.aload 4, 2) := by decide +kernel
theorem dX11_filter_27 : decode cX11_filter 27 = .ok (.iload_n 3, 1) := by decide +kernel
theorem dX11_filter_28 : decode cX11_filter 28 = .ok (.putfield 156, 3) := by decide +kernel
theorem dX11_filter_31 : decode cX11_filter 31 = .ok (.aload_n 0, 1) := by decide +kernel
theorem dX11_filter_32 : decode cX11_filter 32 = .ok (.getfield 16, 3) := by decide +kernel
theorem dX11_filter_35 : decode cX11_filter 35 = .ok (.aload 4, 2) := by decide +kernel
theorem dX11_filter_37 : decode cX11_filter 37 = .ok (.invokevirtual 92, 3) := by decide +kernel
theorem dX11_filter_40 : decode cX11_filter 40 = .ok (.ireturn, 1) := by decide +kernel
theorem dX11_union_0 : decode cX11_union 0 = .ok (.aload_n 0, 1) := by decide +kernel
theorem dX11_union_1 : decode cX11_union 1 = .ok (.iload_n 1, 1) := by decide +kernel
theorem dX11_union_2 : decode cX11_union 2 = .ok (.invokevirtual 96, 3) := by decide +kernel
theorem dX11_union_5 : decode cX11_union 5 = .ok (.aload_n 0, 1) := by decide +kernel
theorem dX11_union_6 : decode cX11_union 6 = .ok (.iload_n 2, 1) := by decide +kernel
theorem dX11_union_7 : decode cX11_union 7 = .ok (.invokevirtual 96, 3) := by decide +kernel
theorem dX11_union_10 : decode cX11_union 10 = .ok (.aload_n 0, 1) := by decide +kernel
theorem dX11_union_11 : decode cX11_union 11 = .ok (.invokevirtual 75, 3) := by decide +kernel
theorem dX11_union_14 : decode cX11_union 14 = .ok (.aload_n 0, 1) := by decide +kernel
theorem dX11_union_15 : decode cX11_union 15 = .ok (.getfield 16, 3) := by decide +kernel
theorem dX11_union_18 : decode cX11_union 18 = .ok (.iload_n 1, 1) := by decide +kernel
theorem dX11_union_19 : decode cX11_union 19 = .ok (.invokevirtual 99, 3) := by decide +kernel
theorem dX11_union_22 : decode cX11_union 22 = .ok (.astore_n 3, 1) := by decide +kernel
theorem dX11_union_23 : decode cX11_union 23 = .ok (.aload_n 0, 1) := by decide +kernel
theorem dX11_union_24 : decode cX11_union 24 = .ok (.getfield 16, 3) := by decide +kernel
theorem dX11_union_27 : decode cX11_union 27 = .ok (.iload_n 2, 1) := by decide +kernel
theorem dX11_union_28 : decode cX11_union 28 = .ok (.invokevirtual 99, 3) := by decide +kernel
theorem dX11_union_31 : decode cX11_union 31 = .ok (.astore 4, 2) := by decide +kernel
theorem dX11_union_33 : decode cX11_union 33 = .ok (.aload_n 3, 1) := by decide +kernel
theorem dX11_union_34 : decode cX11_union 34 = .ok (.getfield 159, 3) := by decide +kernel
theorem dX11_union_37 : decode cX11_union 37 = .ok (.aload 4, 2) := by decide +kernel
theorem dX11_union_39 : decode cX11_union 39 = .ok (.getfield 159, 3) := by decide +kernel
theorem dX11_union_42 : decode cX11_union 42 = .ok (.iadd, 1) := by decide +kernel
theorem dX11_union_43 : decode cX11_union 43 = .ok (.istore 5, 2) := by decide +kernel
theorem dX11_union_45 : decode cX11_union 45 = .ok (.aload_n 3, 1) := by decide +kernel
theorem dX11_union_46 : decode cX11_union 46 = .ok (.getfield 162, 3) := by decide +kernel
theorem dX11_union_49 : decode cX11_union 49 = .ok (.aload 4, 2) := by decide +kernel
theorem dX11_union_51 : decode cX11_union 51 = .ok (.getfield 162, 3) := by decide +kernel
theorem dX11_union_54 : decode cX11_union 54 = .ok (.iadd, 1) := by decide +kernel
theorem dX11_union_55 : decode cX11_union 55 = .ok (.istore 6, 2) := by decide +kernel
theorem dX11_union_57 : decode cX11_union 57 = .ok (.iload 5, 2) := by decide +kernel
theorem dX11_union_59 : decode cX11_union 59 = .ok (.sipush 300, 3) := by decide +kernel
theorem dX11_union_62 : decode cX11_union 62 = .ok (.if_icmp .gt 10, 3) := by decide +kernel
theorem dX11_union_65 : decode cX11_union 65 = .ok (.iload 6, 2) := by decide +kernel
theorem dX11_union_67 : decode cX11_union 67 = .ok (.bipush 8, 2) := by decide +kernel
theorem dX11_union_69 : decode cX11_union 69 = .ok (.if_icmp .le 13, 3) := by decide +kernel
theorem dX11_union_72 : decode cX11_union 72 = .ok (.new 116, 3) := by decide +kernel
theorem dX11_union_75 : decode cX11_union 75 = .ok (.dup, 1) := by decide +kernel
theorem dX11_union_76 : decode cX11_union 76 = .ok (.ldc 165, 2) := by decide +kernel
theorem dX11_union_78 : decode cX11_union 78 = .ok (.invokespecial 120, 3) := by decide +kernel
theorem dX11_union_81 : decode cX11_union 81 = .ok (.athrow, 1) := by decide +kernel
theorem dX11_union_82 : decode cX11_union 82 = .ok (.aload_n 0, 1) := by decide +kernel
theorem dX11_union_83 : decode cX11_union 83 = .ok (.getfield 16, 3) := by decide +kernel
theorem dX11_union_86 : decode cX11_union 86 = .ok (.new 78, 3) := by decide +kernel
theorem dX11_union_89 : decode cX11_union 89 = .ok (.dup, 1) := by decide +kernel
theorem dX11_union_90 : decode cX11_union 90 = .ok (.getstatic 167, 3) := by decide +kernel
theorem dX11_union_93 : decode cX11_union 93 = .ok (.iload_n 1, 1) := by decide +kernel
theorem dX11_union_94 : decode cX11_union 94 = .ok (.iload_n 2, 1) := by decide +kernel
theorem dX11_union_95 : decode cX11_union 95 = .ok (.iload 5, 2) := by decide +kernel
theorem dX11_union_97 : decode cX11_union 97 = .ok (.iload 6, 2) := by decide +kernel
theorem dX11_union_99 : decode cX11_union 99 = .ok (.invokespecial 86, 3) := by decide +kernel
theorem dX11_union_102 : decode cX11_union 102 = .ok (.invokevirtual 92, 3) := by decide +kernel
theorem dX11_union_105 : decode cX11_union 105 = .ok (.ireturn, 1) := by decide +kernel
theorem dX11_group_0 : decode cX11_group 0 = .ok (.aload_n 0, 1) := by decide +kernel
theorem dX11_group_1 : decode cX11_group 1 = .ok (.iload_n 1, 1) := by decide +kernel
theorem dX11_group_2 : decode cX11_group 2 = .ok (.invokevirtual 96, 3) := by decide +kernel
theorem dX11_group_5 : decode cX11_group 5 = .ok (.iload_n 2, 1) := by decide +kernel
theorem dX11_group_6 : decode cX11_group 6 = .ok (.ifCond .lt 8, 3) := by decide +kernel
theorem dX11_group_9 : decode cX11_group 9 = .ok (.iload_n 2, 1) := by decide +kernel
theorem dX11_group_10 : decode cX11_group 10 = .ok (.iconst 3, 1) := by decide +kernel
theorem dX11_group_11 : decode cX11_group 11 = .ok (.if_icmp .le 13, 3) := by decide +kernel
theorem dX11_group_14 : decode cX11_group 14 = .ok (.new 132, 3) := by decide +kernel
theorem dX11_group_17 : decode cX11_group 17 = .ok (.dup, 1) := by decide +kernel
theorem dX11_group_18 : decode cX11_group 18 = .ok (.ldc 170, 2) := by decide +kernel
theorem dX11_group_20 : decode cX11_group 20 = .ok (.invokespecial 136, 3) := by decide +kernel
theorem dX11_group_23 : decode cX11_group 23 = .ok (.athrow, 1) := by decide +kernel
theorem dX11_group_24 : decode cX11_group 24 = .ok (.iload_n 3, 1) := by decide +kernel
theorem dX11_group_25 : decode cX11_group 25 = .ok (.invokestatic 71, 3) := by decide +kernel
theorem dX11_group_28 : decode cX11_group 28 = .ok (.aload_n 0, 1) := by decide +kernel
theorem dX11_group_29 : decode cX11_group 29 = .ok (.invokevirtual 75, 3) := by decide +kernel
theorem dX11_group_32 : decode cX11_group 32 = .ok (.new 78, 3) := by decide +kernel
theorem dX11_group_35 : decode cX11_group 35 = .ok (.dup, 1) := by decide +kernel
theorem dX11_group_36 : decode cX11_group 36 = .ok (.getstatic 172, 3) := by decide +kernel
theorem dX11_group_39 : decode cX11_group 39 = .ok (.iload_n 1, 1) := by decide +kernel
theorem dX11_group_40 : decode cX11_group 40 = .ok (.iconst (-1), 1) := by decide +kernel
theorem dX11_group_41 : decode cX11_group 41 = .ok (.aload_n 0, 1) := by decide +kernel
theorem dX11_group_42 : decode cX11_group 42 = .ok (.getfield 16, 3) := by decide +kernel
theorem dX11_group_45 : decode cX11_group 45 = .ok (.iload_n 1, 1) := by decide +kernel
theorem dX11_group_46 : decode cX11_group 46 = .ok (.invokevirtual 99, 3) := by decide +kernel
theorem dX11_group_49 : decode cX11_group 49 = .ok (.getfield 159, 3) := by decide +kernel
theorem dX11_group_52 : decode cX11_group 52 = .ok (.iload_n 3, 1) := by decide +kernel
theorem dX11_group_53 : decode cX11_group 53 = .ok (.invokespecial 86, 3) := by decide +kernel
theorem dX11_group_56 : decode cX11_group 56 = .ok (.astore 4, 2) := by decide +kernel
theorem dX11_group_58 : decode cX11_group 58 = .ok (.aload 4, 2) := by decide +kernel
theorem dX11_group_60 : decode cX11_group 60 = .ok (.iload_n 2, 1) := by decide +kernel
theorem dX11_group_61 : decode cX11_group 61 = .ok (.putfield 144, 3) := by decide +kernel
theorem dX11_group_64 : decode cX11_group 64 = .ok (.aload 4, 2) := by decide +kernel
theorem dX11_group_66 : decode cX11_group 66 = .ok (.iload_n 3, 1) := by decide +kernel
theorem dX11_group_67 : decode cX11_group 67 = .ok (.putfield 89, 3) := by decide +kernel
theorem dX11_group_70 : decode cX11_group 70 = .ok (.aload_n 0, 1) := by decide +kernel
theorem dX11_group_71 : decode cX11_group 71 = .ok (.getfield 16, 3) := by decide +kernel
theorem dX11_group_74 : decode cX11_group 74 = .ok (.aload 4, 2) := by decide +kernel
theorem dX11_group_76 : decode cX11_group 76 = .ok (.invokevirtual 92, 3) := by decide +kernel
theorem dX11_group_79 : decode cX11_group 79 = .ok (.ireturn, 1) := by decide +kernel
theorem dX11_join_0 : decode cX11_join 0 = .ok (.aload_n 0, 1) := by decide +kernel
theorem dX11_join_1 : decode cX11_join 1 = .ok (.iload_n 1, 1) := by decide +kernel
theorem dX11_join_2 : decode cX11_join 2 = .ok (.invokevirtual 96, 3) := by decide +kernel
theorem dX11_join_5 : decode cX11_join 5 = .ok (.aload_n 0, 1) := by decide +kernel
theorem dX11_join_6 : decode cX11_join 6 = .ok (.iload_n 2, 1) := by decide +kernel
theorem dX11_join_7 : decode cX11_join 7 = .ok (.invokevirtual 96, 3) := by decide +kernel
theorem dX11_join_10 : decode cX11_join 10 = .ok (.iload_n 3, 1) := by decide +kernel
theorem dX11_join_11 : decode cX11_join 11 = .ok (.invokestatic 71, 3) := by decide +kernel
theorem dX11_join_14 : decode cX11_join 14 = .ok (.aload_n 0, 1) := by decide +kernel
theorem dX11_join_15 : decode cX11_join 15 = .ok (.invokevirtual 75, 3) := by decide +kernel
theorem dX11_join_18 : decode cX11_join 18 = .ok (.aload_n 0, 1) := by decide +kernel
theorem dX11_join_19 : decode cX11_join 19 = .ok (.getfield 16, 3) := by decide +kernel
theorem dX11_join_22 : decode cX11_join 22 = .ok (.iload_n 1, 1) := by decide +kernel
theorem dX11_join_23 : decode cX11_join 23 = .ok (.invokevirtual 99, 3) := by decide +kernel
theorem dX11_join_26 : decode cX11_join 26 = .ok (.getfield 159, 3) := by decide +kernel
theorem dX11_join_29 : decode cX11_join 29 = .ok (.aload_n 0, 1) := by decide +kernel
theorem dX11_join_30 : decode cX11_join 30 = .ok (.getfield 16, 3) := by decide +kernel
theorem dX11_join_33 : decode cX11_join 33 = .ok (.iload_n 2, 1) := by decide +kernel
theorem dX11_join_34 : decode cX11_join 34 = .ok (.invokevirtual 99, 3) := by decide +kernel
theorem dX11_join_37 : decode cX11_join 37 = .ok (.getfield 159, 3) := by decide +kernel
theorem dX11_join_40 : decode cX11_join 40 = .ok (.imul, 1) := by decide +kernel
theorem dX11_join_41 : decode cX11_join 41 = .ok (.istore 4, 2) := by decide +kernel
theorem dX11_join_43 : decode cX11_join 43 = .ok (.iload 4, 2) := by decide +kernel
theorem dX11_join_45 : decode cX11_join 45 = .ok (.sipush 300, 3) := by decide +kernel
theorem dX11_join_48 : decode cX11_join 48 = .ok (.if_icmp .le 13, 3) := by decide +kernel
theorem dX11_join_51 : decode cX11_join 51 = .ok (.new 116, 3) := by decide +kernel
theorem dX11_join_54 : decode cX11_join 54 = .ok (.dup, 1) := by decide +kernel
theorem dX11_join_55 : decode cX11_join 55 = .ok (.ldc 175, 2) := by decide +kernel
theorem dX11_join_57 : decode cX11_join 57 = .ok (.invokespecial 120, 3) := by decide +kernel
theorem dX11_join_60 : decode cX11_join 60 = .ok (.athrow, 1) := by decide +kernel
theorem dX11_join_61 : decode cX11_join 61 = .ok (.iload_n 3, 1) := by decide +kernel
theorem dX11_join_62 : decode cX11_join 62 = .ok (.aload_n 0, 1) := by decide +kernel
theorem dX11_join_63 : decode cX11_join 63 = .ok (.getfield 16, 3) := by decide +kernel
theorem dX11_join_66 : decode cX11_join 66 = .ok (.iload_n 1, 1) := by decide +kernel
theorem dX11_join_67 : decode cX11_join 67 = .ok (.invokevirtual 99, 3) := by decide +kernel
theorem dX11_join_70 : decode cX11_join 70 = .ok (.getfield 162, 3) := by decide +kernel
theorem dX11_join_73 : decode cX11_join 73 = .ok (.invokestatic 177, 3) := by decide +kernel
theorem dX11_join_76 : decode cX11_join 76 = .ok (.istore 5, 2) := by decide +kernel
theorem dX11_join_78 : decode cX11_join 78 = .ok (.new 78, 3) := by decide +kernel
theorem dX11_join_81 : decode cX11_join 81 = .ok (.dup, 1) := by decide +kernel
theorem dX11_join_82 : decode cX11_join 82 = .ok (.getstatic 183, 3) := by decide +kernel
theorem dX11_join_85 : decode cX11_join 85 = .ok (.iload_n 1, 1) := by decide +kernel
theorem dX11_join_86 : decode cX11_join 86 = .ok (.iload_n 2, 1) := by decide +kernel
theorem dX11_join_87 : decode cX11_join 87 = .ok (.iload 4, 2) := by decide +kernel
theorem dX11_join_89 : decode cX11_join 89 = .ok (.iload 5, 2) := by decide +kernel
theorem dX11_join_91 : decode cX11_join 91 = .ok (.invokespecial 86, 3) := by decide +kernel
theorem dX11_join_94 : decode cX11_join 94 = .ok (.astore 6, 2) := by decide +kernel
theorem dX11_join_96 : decode cX11_join 96 = .ok (.aload 6, 2) := by decide +kernel
theorem dX11_join_98 : decode cX11_join 98 = .ok (.iload_n 3, 1) := by decide +kernel
theorem dX11_join_99 : decode cX11_join 99 = .ok (.putfield 89, 3) := by decide +kernel
theorem dX11_join_102 : decode cX11_join 102 = .ok (.aload_n 0, 1) := by decide +kernel
theorem dX11_join_103 : decode cX11_join 103 = .ok (.getfield 16, 3) := by decide +kernel
theorem dX11_join_106 : decode cX11_join 106 = .ok (.aload 6, 2) := by decide +kernel
theorem dX11_join_108 : decode cX11_join 108 = .ok (.invokevirtual 92, 3) := by decide +kernel
theorem dX11_join_111 : decode cX11_join 111 = .ok (.ireturn, 1) := by decide +kernel
theorem dX11_nodes_0 : decode cX11_nodes 0 = .ok (.aload_n 0, 1) := by decide +kernel
theorem dX11_nodes_1 : decode cX11_nodes 1 = .ok (.getfield 16, 3) := by decide +kernel
theorem dX11_nodes_4 : decode cX11_nodes 4 = .ok (.invokevirtual 186, 3) := by decide +kernel
theorem dX11_nodes_7 : decode cX11_nodes 7 = .ok (.ireturn, 1) := by decide +kernel
theorem dX11_partitions_0 : decode cX11_partitions 0 = .ok (.aload_n 0, 1) := by decide +kernel
theorem dX11_partitions_1 : decode cX11_partitions 1 = .ok (.iload_n 1, 1) := by decide +kernel
theorem dX11_partitions_2 : decode cX11_partitions 2 = .ok (.invokevirtual 96, 3) := by decide +kernel
theorem dX11_partitions_5 : decode cX11_partitions 5 = .ok (.aload_n 0, 1) := by decide +kernel
theorem dX11_partitions_6 : decode cX11_partitions 6 = .ok (.getfield 25, 3) := by decide +kernel
theorem dX11_partitions_9 : decode cX11_partitions 9 = .ok (.iload_n 1, 1) := by decide +kernel
theorem dX11_partitions_10 : decode cX11_partitions 10 = .ok (.invokevirtual 187, 3) := by decide +kernel
theorem dX11_partitions_13 : decode cX11_partitions 13 = .ok (.invokevirtual 191, 3) := by decide +kernel
theorem dX11_partitions_16 : decode cX11_partitions 16 = .ok (.ireturn, 1) := by decide +kernel
theorem dX11_rowsIn_0 : decode cX11_rowsIn 0 = .ok (.aload_n 0, 1) := by decide +kernel
theorem dX11_rowsIn_1 : decode cX11_rowsIn 1 = .ok (.iload_n 1, 1) := by decide +kernel
theorem dX11_rowsIn_2 : decode cX11_rowsIn 2 = .ok (.invokevirtual 96, 3) := by decide +kernel
theorem dX11_rowsIn_5 : decode cX11_rowsIn 5 = .ok (.aload_n 0, 1) := by decide +kernel
theorem dX11_rowsIn_6 : decode cX11_rowsIn 6 = .ok (.getfield 25, 3) := by decide +kernel
theorem dX11_rowsIn_9 : decode cX11_rowsIn 9 = .ok (.iload_n 1, 1) := by decide +kernel
theorem dX11_rowsIn_10 : decode cX11_rowsIn 10 = .ok (.invokevirtual 187, 3) := by decide +kernel
theorem dX11_rowsIn_13 : decode cX11_rowsIn 13 = .ok (.astore_n 3, 1) := by decide +kernel
theorem dX11_rowsIn_14 : decode cX11_rowsIn 14 = .ok (.aload_n 3, 1) := by decide +kernel
theorem dX11_rowsIn_15 : decode cX11_rowsIn 15 = .ok (.iload_n 2, 1) := by decide +kernel
theorem dX11_rowsIn_16 : decode cX11_rowsIn 16 = .ok (.invokestatic 194, 3) := by decide +kernel
theorem dX11_rowsIn_19 : decode cX11_rowsIn 19 = .ok (.aload_n 3, 1) := by decide +kernel
theorem dX11_rowsIn_20 : decode cX11_rowsIn 20 = .ok (.iload_n 2, 1) := by decide +kernel
theorem dX11_rowsIn_21 : decode cX11_rowsIn 21 = .ok (.invokevirtual 198, 3) := by decide +kernel
theorem dX11_rowsIn_24 : decode cX11_rowsIn 24 = .ok (.ireturn, 1) := by decide +kernel
theorem dX11_rows_0 : decode cX11_rows 0 = .ok (.aload_n 0, 1) := by decide +kernel
theorem dX11_rows_1 : decode cX11_rows 1 = .ok (.iload_n 1, 1) := by decide +kernel
theorem dX11_rows_2 : decode cX11_rows 2 = .ok (.invokevirtual 96, 3) := by decide +kernel
theorem dX11_rows_5 : decode cX11_rows 5 = .ok (.aload_n 0, 1) := by decide +kernel
theorem dX11_rows_6 : decode cX11_rows 6 = .ok (.getfield 25, 3) := by decide +kernel
theorem dX11_rows_9 : decode cX11_rows 9 = .ok (.iload_n 1, 1) := by decide +kernel
theorem dX11_rows_10 : decode cX11_rows 10 = .ok (.invokevirtual 187, 3) := by decide +kernel
theorem dX11_rows_13 : decode cX11_rows 13 = .ok (.invokevirtual 110, 3) := by decide +kernel
theorem dX11_rows_16 : decode cX11_rows 16 = .ok (.ireturn, 1) := by decide +kernel
theorem dX11_keyAt_0 : decode cX11_keyAt 0 = .ok (.aload_n 0, 1) := by decide +kernel
theorem dX11_keyAt_1 : decode cX11_keyAt 1 = .ok (.iload_n 1, 1) := by decide +kernel
theorem dX11_keyAt_2 : decode cX11_keyAt 2 = .ok (.invokevirtual 96, 3) := by decide +kernel
theorem dX11_keyAt_5 : decode cX11_keyAt 5 = .ok (.aload_n 0, 1) := by decide +kernel
theorem dX11_keyAt_6 : decode cX11_keyAt 6 = .ok (.getfield 25, 3) := by decide +kernel
theorem dX11_keyAt_9 : decode cX11_keyAt 9 = .ok (.iload_n 1, 1) := by decide +kernel
theorem dX11_keyAt_10 : decode cX11_keyAt 10 = .ok (.invokevirtual 187, 3) := by decide +kernel
theorem dX11_keyAt_13 : decode cX11_keyAt 13 = .ok (.astore 4, 2) := by decide +kernel
theorem dX11_keyAt_15 : decode cX11_keyAt 15 = .ok (.aload 4, 2) := by decide +kernel
theorem dX11_keyAt_17 : decode cX11_keyAt 17 = .ok (.iload_n 2, 1) := by decide +kernel
theorem dX11_keyAt_18 : decode cX11_keyAt 18 = .ok (.iload_n 3, 1) := by decide +kernel
theorem dX11_keyAt_19 : decode cX11_keyAt 19 = .ok (.invokestatic 202, 3) := by decide +kernel
theorem dX11_keyAt_22 : decode cX11_keyAt 22 = .ok (.aload 4, 2) := by decide +kernel
theorem dX11_keyAt_24 : decode cX11_keyAt 24 = .ok (.aload 4, 2) := by decide +kernel
theorem dX11_keyAt_26 : decode cX11_keyAt 26 = .ok (.iload_n 2, 1) := by decide +kernel
theorem dX11_keyAt_27 : decode cX11_keyAt 27 = .ok (.invokevirtual 206, 3) := by decide +kernel
theorem dX11_keyAt_30 : decode cX11_keyAt 30 = .ok (.iload_n 3, 1) := by decide +kernel
theorem dX11_keyAt_31 : decode cX11_keyAt 31 = .ok (.iadd, 1) := by decide +kernel
theorem dX11_keyAt_32 : decode cX11_keyAt 32 = .ok (.invokevirtual 209, 3) := by decide +kernel
theorem dX11_keyAt_35 : decode cX11_keyAt 35 = .ok (.ireturn, 1) := by decide +kernel
theorem dX11_valueAt_0 : decode cX11_valueAt 0 = .ok (.aload_n 0, 1) := by decide +kernel
theorem dX11_valueAt_1 : decode cX11_valueAt 1 = .ok (.iload_n 1, 1) := by decide +kernel
theorem dX11_valueAt_2 : decode cX11_valueAt 2 = .ok (.invokevirtual 96, 3) := by decide +kernel
theorem dX11_valueAt_5 : decode cX11_valueAt 5 = .ok (.aload_n 0, 1) := by decide +kernel
theorem dX11_valueAt_6 : decode cX11_valueAt 6 = .ok (.getfield 25, 3) := by decide +kernel
theorem dX11_valueAt_9 : decode cX11_valueAt 9 = .ok (.iload_n 1, 1) := by decide +kernel
theorem dX11_valueAt_10 : decode cX11_valueAt 10 = .ok (.invokevirtual 187, 3) := by decide +kernel
theorem dX11_valueAt_13 : decode cX11_valueAt 13 = .ok (.astore 4, 2) := by decide +kernel
theorem dX11_valueAt_15 : decode cX11_valueAt 15 = .ok (.aload 4, 2) := by decide +kernel
theorem dX11_valueAt_17 : decode cX11_valueAt 17 = .ok (.iload_n 2, 1) := by decide +kernel
theorem dX11_valueAt_18 : decode cX11_valueAt 18 = .ok (.iload_n 3, 1) := by decide +kernel
theorem dX11_valueAt_19 : decode cX11_valueAt 19 = .ok (.invokestatic 202, 3) := by decide +kernel
theorem dX11_valueAt_22 : decode cX11_valueAt 22 = .ok (.aload 4, 2) := by decide +kernel
theorem dX11_valueAt_24 : decode cX11_valueAt 24 = .ok (.aload 4, 2) := by decide +kernel
theorem dX11_valueAt_26 : decode cX11_valueAt 26 = .ok (.iload_n 2, 1) := by decide +kernel
theorem dX11_valueAt_27 : decode cX11_valueAt 27 = .ok (.invokevirtual 206, 3) := by decide +kernel
theorem dX11_valueAt_30 : decode cX11_valueAt 30 = .ok (.iload_n 3, 1) := by decide +kernel
theorem dX11_valueAt_31 : decode cX11_valueAt 31 = .ok (.iadd, 1) := by decide +kernel
theorem dX11_valueAt_32 : decode cX11_valueAt 32 = .ok (.invokevirtual 212, 3) := by decide +kernel
theorem dX11_valueAt_35 : decode cX11_valueAt 35 = .ok (.ireturn, 1) := by decide +kernel
theorem dX11_isBroad_0 : decode cX11_isBroad 0 = .ok (.aload_n 0, 1) := by decide +kernel
theorem dX11_isBroad_1 : decode cX11_isBroad 1 = .ok (.iload_n 1, 1) := by decide +kernel
theorem dX11_isBroad_2 : decode cX11_isBroad 2 = .ok (.invokevirtual 96, 3) := by decide +kernel
theorem dX11_isBroad_5 : decode cX11_isBroad 5 = .ok (.aload_n 0, 1) := by decide +kernel
theorem dX11_isBroad_6 : decode cX11_isBroad 6 = .ok (.getfield 16, 3) := by decide +kernel
theorem dX11_isBroad_9 : decode cX11_isBroad 9 = .ok (.iload_n 1, 1) := by decide +kernel
theorem dX11_isBroad_10 : decode cX11_isBroad 10 = .ok (.invokevirtual 99, 3) := by decide +kernel
theorem dX11_isBroad_13 : decode cX11_isBroad 13 = .ok (.getfield 103, 3) := by decide +kernel
theorem dX11_isBroad_16 : decode cX11_isBroad 16 = .ok (.getstatic 183, 3) := by decide +kernel
theorem dX11_isBroad_19 : decode cX11_isBroad 19 = .ok (.if_acmp .eq 13, 3) := by decide +kernel
theorem dX11_isBroad_22 : decode cX11_isBroad 22 = .ok (.new 116, 3) := by decide +kernel
theorem dX11_isBroad_25 : decode cX11_isBroad 25 = .ok (.dup, 1) := by decide +kernel
theorem dX11_isBroad_26 : decode cX11_isBroad 26 = .ok (.ldc 215, 2) := by decide +kernel
theorem dX11_isBroad_28 : decode cX11_isBroad 28 = .ok (.invokespecial 120, 3) := by decide +kernel
theorem dX11_isBroad_31 : decode cX11_isBroad 31 = .ok (.athrow, 1) := by decide +kernel
theorem dX11_isBroad_32 : decode cX11_isBroad 32 = .ok (.aload_n 0, 1) := by decide +kernel
theorem dX11_isBroad_33 : decode cX11_isBroad 33 = .ok (.getfield 25, 3) := by decide +kernel
theorem dX11_isBroad_36 : decode cX11_isBroad 36 = .ok (.iload_n 1, 1) := by decide +kernel
theorem dX11_isBroad_37 : decode cX11_isBroad 37 = .ok (.invokevirtual 187, 3) := by decide +kernel
theorem dX11_isBroad_40 : decode cX11_isBroad 40 = .ok (.pop, 1) := by decide +kernel
theorem dX11_isBroad_41 : decode cX11_isBroad 41 = .ok (.aload_n 0, 1) := by decide +kernel
theorem dX11_isBroad_42 : decode cX11_isBroad 42 = .ok (.getfield 25, 3) := by decide +kernel
theorem dX11_isBroad_45 : decode cX11_isBroad 45 = .ok (.iload_n 1, 1) := by decide +kernel
theorem dX11_isBroad_46 : decode cX11_isBroad 46 = .ok (.invokevirtual 217, 3) := by decide +kernel
theorem dX11_isBroad_49 : decode cX11_isBroad 49 = .ok (.ireturn, 1) := by decide +kernel
theorem dX11_digest_0 : decode cX11_digest 0 = .ok (.aload_n 0, 1) := by decide +kernel
theorem dX11_digest_1 : decode cX11_digest 1 = .ok (.iload_n 1, 1) := by decide +kernel
theorem dX11_digest_2 : decode cX11_digest 2 = .ok (.invokevirtual 96, 3) := by decide +kernel
theorem dX11_digest_5 : decode cX11_digest 5 = .ok (.aload_n 0, 1) := by decide +kernel
theorem dX11_digest_6 : decode cX11_digest 6 = .ok (.getfield 25, 3) := by decide +kernel
theorem dX11_digest_9 : decode cX11_digest 9 = .ok (.iload_n 1, 1) := by decide +kernel
theorem dX11_digest_10 : decode cX11_digest 10 = .ok (.invokevirtual 187, 3) := by decide +kernel
theorem dX11_digest_13 : decode cX11_digest 13 = .ok (.invokevirtual 221, 3) := by decide +kernel
theorem dX11_digest_16 : decode cX11_digest 16 = .ok (.ireturn, 1) := by decide +kernel
theorem dX11_digestInPlace_0 : decode cX11_digestInPlace 0 = .ok (.aload_n 0, 1) := by decide +kernel
theorem dX11_digestInPlace_1 : decode cX11_digestInPlace 1 = .ok (.iload_n 1, 1) := by decide +kernel
theorem dX11_digestInPlace_2 : decode cX11_digestInPlace 2 = .ok (.invokevirtual 96, 3) := by decide +kernel
theorem dX11_digestInPlace_5 : decode cX11_digestInPlace 5 = .ok (.aload_n 0, 1) := by decide +kernel
theorem dX11_digestInPlace_6 : decode cX11_digestInPlace 6 = .ok (.getfield 29, 3) := by decide +kernel
theorem dX11_digestInPlace_9 : decode cX11_digestInPlace 9 = .ok (.iload_n 1, 1) := by decide +kernel
theorem dX11_digestInPlace_10 : decode cX11_digestInPlace 10 = .ok (.invokevirtual 187, 3) := by decide +kernel
theorem dX11_digestInPlace_13 : decode cX11_digestInPlace 13 = .ok (.invokevirtual 221, 3) := by decide +kernel
theorem dX11_digestInPlace_16 : decode cX11_digestInPlace 16 = .ok (.ireturn, 1) := by decide +kernel
theorem dX11_setWorkers_0 : decode cX11_setWorkers 0 = .ok (.iload_n 1, 1) := by decide +kernel
theorem dX11_setWorkers_1 : decode cX11_setWorkers 1 = .ok (.iconst 1, 1) := by decide +kernel
theorem dX11_setWorkers_2 : decode cX11_setWorkers 2 = .ok (.if_icmp .lt 8, 3) := by decide +kernel
theorem dX11_setWorkers_5 : decode cX11_setWorkers 5 = .ok (.iload_n 1, 1) := by decide +kernel
theorem dX11_setWorkers_6 : decode cX11_setWorkers 6 = .ok (.iconst 4, 1) := by decide +kernel
theorem dX11_setWorkers_7 : decode cX11_setWorkers 7 = .ok (.if_icmp .le 13, 3) := by decide +kernel
theorem dX11_setWorkers_10 : decode cX11_setWorkers 10 = .ok (.new 132, 3) := by decide +kernel
theorem dX11_setWorkers_13 : decode cX11_setWorkers 13 = .ok (.dup, 1) := by decide +kernel
theorem dX11_setWorkers_14 : decode cX11_setWorkers 14 = .ok (.ldc 224, 2) := by decide +kernel
theorem dX11_setWorkers_16 : decode cX11_setWorkers 16 = .ok (.invokespecial 136, 3) := by decide +kernel
theorem dX11_setWorkers_19 : decode cX11_setWorkers 19 = .ok (.athrow, 1) := by decide +kernel
theorem dX11_setWorkers_20 : decode cX11_setWorkers 20 = .ok (.aload_n 0, 1) := by decide +kernel
theorem dX11_setWorkers_21 : decode cX11_setWorkers 21 = .ok (.getfield 67, 3) := by decide +kernel
theorem dX11_setWorkers_24 : decode cX11_setWorkers 24 = .ok (.getfield 226, 3) := by decide +kernel
theorem dX11_setWorkers_27 : decode cX11_setWorkers 27 = .ok (.istore_n 2, 1) := by decide +kernel
theorem dX11_setWorkers_28 : decode cX11_setWorkers 28 = .ok (.aload_n 0, 1) := by decide +kernel
theorem dX11_setWorkers_29 : decode cX11_setWorkers 29 = .ok (.getfield 67, 3) := by decide +kernel
theorem dX11_setWorkers_32 : decode cX11_setWorkers 32 = .ok (.iload_n 1, 1) := by decide +kernel
theorem dX11_setWorkers_33 : decode cX11_setWorkers 33 = .ok (.putfield 226, 3) := by decide +kernel
theorem dX11_setWorkers_36 : decode cX11_setWorkers 36 = .ok (.iload_n 2, 1) := by decide +kernel
theorem dX11_setWorkers_37 : decode cX11_setWorkers 37 = .ok (.ireturn, 1) := by decide +kernel
theorem dX11_setSlowness_0 : decode cX11_setSlowness 0 = .ok (.iload_n 1, 1) := by decide +kernel
theorem dX11_setSlowness_1 : decode cX11_setSlowness 1 = .ok (.ifCond .lt 8, 3) := by decide +kernel
theorem dX11_setSlowness_4 : decode cX11_setSlowness 4 = .ok (.iload_n 1, 1) := by decide +kernel
theorem dX11_setSlowness_5 : decode cX11_setSlowness 5 = .ok (.iconst 4, 1) := by decide +kernel
theorem dX11_setSlowness_6 : decode cX11_setSlowness 6 = .ok (.if_icmp .lt 13, 3) := by decide +kernel
theorem dX11_setSlowness_9 : decode cX11_setSlowness 9 = .ok (.new 228, 3) := by decide +kernel
theorem dX11_setSlowness_12 : decode cX11_setSlowness 12 = .ok (.dup, 1) := by decide +kernel
theorem dX11_setSlowness_13 : decode cX11_setSlowness 13 = .ok (.ldc 230, 2) := by decide +kernel
theorem dX11_setSlowness_15 : decode cX11_setSlowness 15 = .ok (.invokespecial 232, 3) := by decide +kernel
theorem dX11_setSlowness_18 : decode cX11_setSlowness 18 = .ok (.athrow, 1) := by decide +kernel
theorem dX11_setSlowness_19 : decode cX11_setSlowness 19 = .ok (.iload_n 2, 1) := by decide +kernel
theorem dX11_setSlowness_20 : decode cX11_setSlowness 20 = .ok (.iconst 1, 1) := by decide +kernel
theorem dX11_setSlowness_21 : decode cX11_setSlowness 21 = .ok (.if_icmp .lt 9, 3) := by decide +kernel
theorem dX11_setSlowness_24 : decode cX11_setSlowness 24 = .ok (.iload_n 2, 1) := by decide +kernel
theorem dX11_setSlowness_25 : decode cX11_setSlowness 25 = .ok (.bipush 9, 2) := by decide +kernel
theorem dX11_setSlowness_27 : decode cX11_setSlowness 27 = .ok (.if_icmp .le 13, 3) := by decide +kernel
theorem dX11_setSlowness_30 : decode cX11_setSlowness 30 = .ok (.new 132, 3) := by decide +kernel
theorem dX11_setSlowness_33 : decode cX11_setSlowness 33 = .ok (.dup, 1) := by decide +kernel
theorem dX11_setSlowness_34 : decode cX11_setSlowness 34 = .ok (.ldc 233, 2) := by decide +kernel
theorem dX11_setSlowness_36 : decode cX11_setSlowness 36 = .ok (.invokespecial 136, 3) := by decide +kernel
theorem dX11_setSlowness_39 : decode cX11_setSlowness 39 = .ok (.athrow, 1) := by decide +kernel
theorem dX11_setSlowness_40 : decode cX11_setSlowness 40 = .ok (.aload_n 0, 1) := by decide +kernel
theorem dX11_setSlowness_41 : decode cX11_setSlowness 41 = .ok (.getfield 67, 3) := by decide +kernel
theorem dX11_setSlowness_44 : decode cX11_setSlowness 44 = .ok (.getfield 235, 3) := by decide +kernel
theorem dX11_setSlowness_47 : decode cX11_setSlowness 47 = .ok (.iload_n 1, 1) := by decide +kernel
theorem dX11_setSlowness_48 : decode cX11_setSlowness 48 = .ok (.invokevirtual 239, 3) := by decide +kernel
theorem dX11_setSlowness_51 : decode cX11_setSlowness 51 = .ok (.istore_n 3, 1) := by decide +kernel
theorem dX11_setSlowness_52 : decode cX11_setSlowness 52 = .ok (.aload_n 0, 1) := by decide +kernel
theorem dX11_setSlowness_53 : decode cX11_setSlowness 53 = .ok (.getfield 67, 3) := by decide +kernel
theorem dX11_setSlowness_56 : decode cX11_setSlowness 56 = .ok (.getfield 235, 3) := by decide +kernel
theorem dX11_setSlowness_59 : decode cX11_setSlowness 59 = .ok (.iload_n 1, 1) := by decide +kernel
theorem dX11_setSlowness_60 : decode cX11_setSlowness 60 = .ok (.iload_n 2, 1) := by decide +kernel
theorem dX11_setSlowness_61 : decode cX11_setSlowness 61 = .ok (.invokevirtual 243, 3) := by decide +kernel
theorem dX11_setSlowness_64 : decode cX11_setSlowness 64 = .ok (.iload_n 3, 1) := by decide +kernel
theorem dX11_setSlowness_65 : decode cX11_setSlowness 65 = .ok (.ireturn, 1) := by decide +kernel
theorem dX11_setMemory_0 : decode cX11_setMemory 0 = .ok (.iload_n 1, 1) := by decide +kernel
theorem dX11_setMemory_1 : decode cX11_setMemory 1 = .ok (.invokestatic 246, 3) := by decide +kernel
theorem dX11_setMemory_4 : decode cX11_setMemory 4 = .ok (.aload_n 0, 1) := by decide +kernel
theorem dX11_setMemory_5 : decode cX11_setMemory 5 = .ok (.getfield 9, 3) := by decide +kernel
theorem dX11_setMemory_8 : decode cX11_setMemory 8 = .ok (.istore_n 2, 1) := by decide +kernel
theorem dX11_setMemory_9 : decode cX11_setMemory 9 = .ok (.aload_n 0, 1) := by decide +kernel
theorem dX11_setMemory_10 : decode cX11_setMemory 10 = .ok (.iload_n 1, 1) := by decide +kernel
theorem dX11_setMemory_11 : decode cX11_setMemory 11 = .ok (.putfield 9, 3) := by decide +kernel
theorem dX11_setMemory_14 : decode cX11_setMemory 14 = .ok (.iload_n 2, 1) := by decide +kernel
theorem dX11_setMemory_15 : decode cX11_setMemory 15 = .ok (.ireturn, 1) := by decide +kernel
theorem dX11_setLimit_0 : decode cX11_setLimit 0 = .ok (.iload_n 1, 1) := by decide +kernel
theorem dX11_setLimit_1 : decode cX11_setLimit 1 = .ok (.invokestatic 246, 3) := by decide +kernel
theorem dX11_setLimit_4 : decode cX11_setLimit 4 = .ok (.aload_n 0, 1) := by decide +kernel
theorem dX11_setLimit_5 : decode cX11_setLimit 5 = .ok (.getfield 16, 3) := by decide +kernel
theorem dX11_setLimit_8 : decode cX11_setLimit 8 = .ok (.getfield 249, 3) := by decide +kernel
theorem dX11_setLimit_11 : decode cX11_setLimit 11 = .ok (.istore_n 2, 1) := by decide +kernel
theorem dX11_setLimit_12 : decode cX11_setLimit 12 = .ok (.aload_n 0, 1) := by decide +kernel
theorem dX11_setLimit_13 : decode cX11_setLimit 13 = .ok (.getfield 16, 3) := by decide +kernel
theorem dX11_setLimit_16 : decode cX11_setLimit 16 = .ok (.iload_n 1, 1) := by decide +kernel
theorem dX11_setLimit_17 : decode cX11_setLimit 17 = .ok (.putfield 249, 3) := by decide +kernel
theorem dX11_setLimit_20 : decode cX11_setLimit 20 = .ok (.aload_n 0, 1) := by decide +kernel
theorem dX11_setLimit_21 : decode cX11_setLimit 21 = .ok (.getfield 25, 3) := by decide +kernel
theorem dX11_setLimit_24 : decode cX11_setLimit 24 = .ok (.invokevirtual 252, 3) := by decide +kernel
theorem dX11_setLimit_27 : decode cX11_setLimit 27 = .ok (.aload_n 0, 1) := by decide +kernel
theorem dX11_setLimit_28 : decode cX11_setLimit 28 = .ok (.getfield 35, 3) := by decide +kernel
theorem dX11_setLimit_31 : decode cX11_setLimit 31 = .ok (.invokevirtual 129, 3) := by decide +kernel
theorem dX11_setLimit_34 : decode cX11_setLimit 34 = .ok (.iload_n 2, 1) := by decide +kernel
theorem dX11_setLimit_35 : decode cX11_setLimit 35 = .ok (.ireturn, 1) := by decide +kernel
theorem dX11_setRoom_0 : decode cX11_setRoom 0 = .ok (.iload_n 1, 1) := by decide +kernel
theorem dX11_setRoom_1 : decode cX11_setRoom 1 = .ok (.invokestatic 246, 3) := by decide +kernel
theorem dX11_setRoom_4 : decode cX11_setRoom 4 = .ok (.aload_n 0, 1) := by decide +kernel
theorem dX11_setRoom_5 : decode cX11_setRoom 5 = .ok (.getfield 35, 3) := by decide +kernel
theorem dX11_setRoom_8 : decode cX11_setRoom 8 = .ok (.iload_n 1, 1) := by decide +kernel
theorem dX11_setRoom_9 : decode cX11_setRoom 9 = .ok (.putfield 255, 3) := by decide +kernel
theorem dX11_setRoom_12 : decode cX11_setRoom 12 = .ok (.aload_n 0, 1) := by decide +kernel
theorem dX11_setRoom_13 : decode cX11_setRoom 13 = .ok (.getfield 35, 3) := by decide +kernel
theorem dX11_setRoom_16 : decode cX11_setRoom 16 = .ok (.iconst 0, 1) := by decide +kernel
theorem dX11_setRoom_17 : decode cX11_setRoom 17 = .ok (.invokevirtual 258, 3) := by decide +kernel
theorem dX11_setRoom_20 : decode cX11_setRoom 20 = .ok (.ireturn, 1) := by decide +kernel
theorem dX11_mark_0 : decode cX11_mark 0 = .ok (.aload_n 0, 1) := by decide +kernel
theorem dX11_mark_1 : decode cX11_mark 1 = .ok (.iload_n 1, 1) := by decide +kernel
theorem dX11_mark_2 : decode cX11_mark 2 = .ok (.invokevirtual 96, 3) := by decide +kernel
theorem dX11_mark_5 : decode cX11_mark 5 = .ok (.aload_n 0, 1) := by decide +kernel
theorem dX11_mark_6 : decode cX11_mark 6 = .ok (.getfield 16, 3) := by decide +kernel
theorem dX11_mark_9 : decode cX11_mark 9 = .ok (.iload_n 1, 1) := by decide +kernel
theorem dX11_mark_10 : decode cX11_mark 10 = .ok (.invokevirtual 99, 3) := by decide +kernel
theorem dX11_mark_13 : decode cX11_mark 13 = .ok (.getfield 261, 3) := by decide +kernel
theorem dX11_mark_16 : decode cX11_mark 16 = .ok (.istore_n 3, 1) := by decide +kernel
theorem dX11_mark_17 : decode cX11_mark 17 = .ok (.aload_n 0, 1) := by decide +kernel
theorem dX11_mark_18 : decode cX11_mark 18 = .ok (.getfield 16, 3) := by decide +kernel
theorem dX11_mark_21 : decode cX11_mark 21 = .ok (.iload_n 1, 1) := by decide +kernel
theorem dX11_mark_22 : decode cX11_mark 22 = .ok (.invokevirtual 99, 3) := by decide +kernel
theorem dX11_mark_25 : decode cX11_mark 25 = .ok (.iload_n 2, 1) := by decide +kernel
theorem dX11_mark_26 : decode cX11_mark 26 = .ok (.putfield 261, 3) := by decide +kernel
theorem dX11_mark_29 : decode cX11_mark 29 = .ok (.iload_n 3, 1) := by decide +kernel
theorem dX11_mark_30 : decode cX11_mark 30 = .ok (.ireturn, 1) := by decide +kernel
theorem dX11_isCached_0 : decode cX11_isCached 0 = .ok (.aload_n 0, 1) := by decide +kernel
theorem dX11_isCached_1 : decode cX11_isCached 1 = .ok (.iload_n 1, 1) := by decide +kernel
theorem dX11_isCached_2 : decode cX11_isCached 2 = .ok (.invokevirtual 96, 3) := by decide +kernel
theorem dX11_isCached_5 : decode cX11_isCached 5 = .ok (.aload_n 0, 1) := by decide +kernel
theorem dX11_isCached_6 : decode cX11_isCached 6 = .ok (.getfield 35, 3) := by decide +kernel
theorem dX11_isCached_9 : decode cX11_isCached 9 = .ok (.iload_n 1, 1) := by decide +kernel
theorem dX11_isCached_10 : decode cX11_isCached 10 = .ok (.invokevirtual 265, 3) := by decide +kernel
theorem dX11_isCached_13 : decode cX11_isCached 13 = .ok (.ireturn, 1) := by decide +kernel
theorem dX11_stages_0 : decode cX11_stages 0 = .ok (.aload_n 0, 1) := by decide +kernel
theorem dX11_stages_1 : decode cX11_stages 1 = .ok (.iload_n 1, 1) := by decide +kernel
theorem dX11_stages_2 : decode cX11_stages 2 = .ok (.invokevirtual 96, 3) := by decide +kernel
theorem dX11_stages_5 : decode cX11_stages 5 = .ok (.aload_n 0, 1) := by decide +kernel
theorem dX11_stages_6 : decode cX11_stages 6 = .ok (.getfield 25, 3) := by decide +kernel
theorem dX11_stages_9 : decode cX11_stages 9 = .ok (.iload_n 1, 1) := by decide +kernel
theorem dX11_stages_10 : decode cX11_stages 10 = .ok (.invokevirtual 187, 3) := by decide +kernel
theorem dX11_stages_13 : decode cX11_stages 13 = .ok (.pop, 1) := by decide +kernel
theorem dX11_stages_14 : decode cX11_stages 14 = .ok (.aload_n 0, 1) := by decide +kernel
theorem dX11_stages_15 : decode cX11_stages 15 = .ok (.getfield 44, 3) := by decide +kernel
theorem dX11_stages_18 : decode cX11_stages 18 = .ok (.iload_n 1, 1) := by decide +kernel
theorem dX11_stages_19 : decode cX11_stages 19 = .ok (.invokevirtual 268, 3) := by decide +kernel
theorem dX11_stages_22 : decode cX11_stages 22 = .ok (.aload_n 0, 1) := by decide +kernel
theorem dX11_stages_23 : decode cX11_stages 23 = .ok (.getfield 44, 3) := by decide +kernel
theorem dX11_stages_26 : decode cX11_stages 26 = .ok (.invokevirtual 271, 3) := by decide +kernel
theorem dX11_stages_29 : decode cX11_stages 29 = .ok (.ireturn, 1) := by decide +kernel
theorem dX11_outputOf_0 : decode cX11_outputOf 0 = .ok (.aload_n 0, 1) := by decide +kernel
theorem dX11_outputOf_1 : decode cX11_outputOf 1 = .ok (.iload_n 1, 1) := by decide +kernel
theorem dX11_outputOf_2 : decode cX11_outputOf 2 = .ok (.invokevirtual 96, 3) := by decide +kernel
theorem dX11_outputOf_5 : decode cX11_outputOf 5 = .ok (.aload_n 0, 1) := by decide +kernel
theorem dX11_outputOf_6 : decode cX11_outputOf 6 = .ok (.getfield 25, 3) := by decide +kernel
theorem dX11_outputOf_9 : decode cX11_outputOf 9 = .ok (.iload_n 1, 1) := by decide +kernel
theorem dX11_outputOf_10 : decode cX11_outputOf 10 = .ok (.invokevirtual 187, 3) := by decide +kernel
theorem dX11_outputOf_13 : decode cX11_outputOf 13 = .ok (.pop, 1) := by decide +kernel
theorem dX11_outputOf_14 : decode cX11_outputOf 14 = .ok (.aload_n 0, 1) := by decide +kernel
theorem dX11_outputOf_15 : decode cX11_outputOf 15 = .ok (.getfield 44, 3) := by decide +kernel
theorem dX11_outputOf_18 : decode cX11_outputOf 18 = .ok (.iload_n 1, 1) := by decide +kernel
theorem dX11_outputOf_19 : decode cX11_outputOf 19 = .ok (.invokevirtual 268, 3) := by decide +kernel
theorem dX11_outputOf_22 : decode cX11_outputOf 22 = .ok (.iload_n 2, 1) := by decide +kernel
theorem dX11_outputOf_23 : decode cX11_outputOf 23 = .ok (.ifCond .lt 14, 3) := by decide +kernel
theorem dX11_outputOf_26 : decode cX11_outputOf 26 = .ok (.iload_n 2, 1) := by decide +kernel
theorem dX11_outputOf_27 : decode cX11_outputOf 27 = .ok (.aload_n 0, 1) := by decide +kernel
theorem dX11_outputOf_28 : decode cX11_outputOf 28 = .ok (.getfield 44, 3) := by decide +kernel
theorem dX11_outputOf_31 : decode cX11_outputOf 31 = .ok (.invokevirtual 271, 3) := by decide +kernel
theorem dX11_outputOf_34 : decode cX11_outputOf 34 = .ok (.if_icmp .lt 14, 3) := by decide +kernel
theorem dX11_outputOf_37 : decode cX11_outputOf 37 = .ok (.new 228, 3) := by decide +kernel
theorem dX11_outputOf_40 : decode cX11_outputOf 40 = .ok (.dup, 1) := by decide +kernel
theorem dX11_outputOf_41 : decode cX11_outputOf 41 = .ok (.ldc_w 274, 3) := by decide +kernel
theorem dX11_outputOf_44 : decode cX11_outputOf 44 = .ok (.invokespecial 232, 3) := by decide +kernel
theorem dX11_outputOf_47 : decode cX11_outputOf 47 = .ok (.athrow, 1) := by decide +kernel
theorem dX11_outputOf_48 : decode cX11_outputOf 48 = .ok (.aload_n 0, 1) := by decide +kernel
theorem dX11_outputOf_49 : decode cX11_outputOf 49 = .ok (.getfield 44, 3) := by decide +kernel
theorem dX11_outputOf_52 : decode cX11_outputOf 52 = .ok (.iload_n 2, 1) := by decide +kernel
theorem dX11_outputOf_53 : decode cX11_outputOf 53 = .ok (.invokevirtual 276, 3) := by decide +kernel
theorem dX11_outputOf_56 : decode cX11_outputOf 56 = .ok (.ireturn, 1) := by decide +kernel
theorem dX11_run_0 : decode cX11_run 0 = .ok (.aload_n 0, 1) := by decide +kernel
theorem dX11_run_1 : decode cX11_run 1 = .ok (.iload_n 1, 1) := by decide +kernel
theorem dX11_run_2 : decode cX11_run 2 = .ok (.invokevirtual 96, 3) := by decide +kernel
theorem dX11_run_5 : decode cX11_run 5 = .ok (.aload_n 0, 1) := by decide +kernel
theorem dX11_run_6 : decode cX11_run 6 = .ok (.getfield 25, 3) := by decide +kernel
theorem dX11_run_9 : decode cX11_run 9 = .ok (.iload_n 1, 1) := by decide +kernel
theorem dX11_run_10 : decode cX11_run 10 = .ok (.invokevirtual 187, 3) := by decide +kernel
theorem dX11_run_13 : decode cX11_run 13 = .ok (.pop, 1) := by decide +kernel
theorem dX11_run_14 : decode cX11_run 14 = .ok (.aload_n 0, 1) := by decide +kernel
theorem dX11_run_15 : decode cX11_run 15 = .ok (.getfield 44, 3) := by decide +kernel
theorem dX11_run_18 : decode cX11_run 18 = .ok (.iload_n 1, 1) := by decide +kernel
theorem dX11_run_19 : decode cX11_run 19 = .ok (.invokevirtual 268, 3) := by decide +kernel
theorem dX11_run_22 : decode cX11_run 22 = .ok (.aload_n 0, 1) := by decide +kernel
theorem dX11_run_23 : decode cX11_run 23 = .ok (.getfield 58, 3) := by decide +kernel
theorem dX11_run_26 : decode cX11_run 26 = .ok (.aload_n 0, 1) := by decide +kernel
theorem dX11_run_27 : decode cX11_run 27 = .ok (.getfield 67, 3) := by decide +kernel
theorem dX11_run_30 : decode cX11_run 30 = .ok (.getfield 226, 3) := by decide +kernel
theorem dX11_run_33 : decode cX11_run 33 = .ok (.invokevirtual 279, 3) := by decide +kernel
theorem dX11_run_36 : decode cX11_run 36 = .ok (.iconst 0, 1) := by decide +kernel
theorem dX11_run_37 : decode cX11_run 37 = .ok (.istore_n 2, 1) := by decide +kernel
theorem dX11_run_38 : decode cX11_run 38 = .ok (.iconst 0, 1) := by decide +kernel
theorem dX11_run_39 : decode cX11_run 39 = .ok (.istore_n 3, 1) := by decide +kernel
theorem dX11_run_40 : decode cX11_run 40 = .ok (.iload_n 3, 1) := by decide +kernel
theorem dX11_run_41 : decode cX11_run 41 = .ok (.bipush 14, 2) := by decide +kernel
theorem dX11_run_43 : decode cX11_run 43 = .ok (.if_icmp .ge 41, 3) := by decide +kernel
theorem dX11_run_46 : decode cX11_run 46 = .ok (.aload_n 0, 1) := by decide +kernel
theorem dX11_run_47 : decode cX11_run 47 = .ok (.getfield 44, 3) := by decide +kernel
theorem dX11_run_50 : decode cX11_run 50 = .ok (.getfield 281, 3) := by decide +kernel
theorem dX11_run_53 : decode cX11_run 53 = .ok (.iload_n 3, 1) := by decide +kernel
theorem dX11_run_54 : decode cX11_run 54 = .ok (.invokestatic 284, 3) := by decide +kernel
theorem dX11_run_57 : decode cX11_run 57 = .ok (.ifCond .eq 21, 3) := by decide +kernel
theorem dX11_run_60 : decode cX11_run 60 = .ok (.aload_n 0, 1) := by decide +kernel
theorem dX11_run_61 : decode cX11_run 61 = .ok (.iload_n 3, 1) := by decide +kernel
theorem dX11_run_62 : decode cX11_run 62 = .ok (.invokevirtual 288, 3) := by decide +kernel
theorem dX11_run_65 : decode cX11_run 65 = .ok (.aload_n 0, 1) := by decide +kernel
theorem dX11_run_66 : decode cX11_run 66 = .ok (.getfield 67, 3) := by decide +kernel
theorem dX11_run_69 : decode cX11_run 69 = .ok (.aload_n 0, 1) := by decide +kernel
theorem dX11_run_70 : decode cX11_run 70 = .ok (.getfield 51, 3) := by decide +kernel
theorem dX11_run_73 : decode cX11_run 73 = .ok (.iload_n 2, 1) := by decide +kernel
theorem dX11_run_74 : decode cX11_run 74 = .ok (.invokevirtual 291, 3) := by decide +kernel
theorem dX11_run_77 : decode cX11_run 77 = .ok (.istore_n 2, 1) := by decide +kernel
theorem dX11_run_78 : decode cX11_run 78 = .ok (.iinc 3 1, 3) := by decide +kernel
theorem dX11_run_81 : decode cX11_run 81 = .ok (.goto (-41), 3) := by decide +kernel
theorem dX11_run_84 : decode cX11_run 84 = .ok (.aload_n 0, 1) := by decide +kernel
theorem dX11_run_85 : decode cX11_run 85 = .ok (.getfield 58, 3) := by decide +kernel
theorem dX11_run_88 : decode cX11_run 88 = .ok (.iload_n 2, 1) := by decide +kernel
theorem dX11_run_89 : decode cX11_run 89 = .ok (.putfield 295, 3) := by decide +kernel
theorem dX11_run_92 : decode cX11_run 92 = .ok (.aload_n 0, 1) := by decide +kernel
theorem dX11_run_93 : decode cX11_run 93 = .ok (.invokevirtual 298, 3) := by decide +kernel
theorem dX11_run_96 : decode cX11_run 96 = .ok (.iload_n 2, 1) := by decide +kernel
theorem dX11_run_97 : decode cX11_run 97 = .ok (.ireturn, 1) := by decide +kernel
theorem dX11_ticks_0 : decode cX11_ticks 0 = .ok (.aload_n 0, 1) := by decide +kernel
theorem dX11_ticks_1 : decode cX11_ticks 1 = .ok (.getfield 58, 3) := by decide +kernel
theorem dX11_ticks_4 : decode cX11_ticks 4 = .ok (.getfield 295, 3) := by decide +kernel
theorem dX11_ticks_7 : decode cX11_ticks 7 = .ok (.ireturn, 1) := by decide +kernel
theorem dX11_spilled_0 : decode cX11_spilled 0 = .ok (.aload_n 0, 1) := by decide +kernel
theorem dX11_spilled_1 : decode cX11_spilled 1 = .ok (.getfield 58, 3) := by decide +kernel
theorem dX11_spilled_4 : decode cX11_spilled 4 = .ok (.getfield 301, 3) := by decide +kernel
theorem dX11_spilled_7 : decode cX11_spilled 7 = .ok (.ireturn, 1) := by decide +kernel
theorem dX11_attempts_0 : decode cX11_attempts 0 = .ok (.aload_n 0, 1) := by decide +kernel
theorem dX11_attempts_1 : decode cX11_attempts 1 = .ok (.getfield 58, 3) := by decide +kernel
theorem dX11_attempts_4 : decode cX11_attempts 4 = .ok (.getfield 304, 3) := by decide +kernel
theorem dX11_attempts_7 : decode cX11_attempts 7 = .ok (.ireturn, 1) := by decide +kernel
theorem dX11_nodeOf_0 : decode cX11_nodeOf 0 = .ok (.aload_n 0, 1) := by decide +kernel
theorem dX11_nodeOf_1 : decode cX11_nodeOf 1 = .ok (.iload_n 1, 1) := by decide +kernel
theorem dX11_nodeOf_2 : decode cX11_nodeOf 2 = .ok (.invokevirtual 307, 3) := by decide +kernel
theorem dX11_nodeOf_5 : decode cX11_nodeOf 5 = .ok (.aload_n 0, 1) := by decide +kernel
theorem dX11_nodeOf_6 : decode cX11_nodeOf 6 = .ok (.getfield 58, 3) := by decide +kernel
theorem dX11_nodeOf_9 : decode cX11_nodeOf 9 = .ok (.getfield 310, 3) := by decide +kernel
theorem dX11_nodeOf_12 : decode cX11_nodeOf 12 = .ok (.iload_n 1, 1) := by decide +kernel
theorem dX11_nodeOf_13 : decode cX11_nodeOf 13 = .ok (.invokevirtual 239, 3) := by decide +kernel
theorem dX11_nodeOf_16 : decode cX11_nodeOf 16 = .ok (.ireturn, 1) := by decide +kernel
theorem dX11_partitionOf_0 : decode cX11_partitionOf 0 = .ok (.aload_n 0, 1) := by decide +kernel
theorem dX11_partitionOf_1 : decode cX11_partitionOf 1 = .ok (.iload_n 1, 1) := by decide +kernel
theorem dX11_partitionOf_2 : decode cX11_partitionOf 2 = .ok (.invokevirtual 307, 3) := by decide +kernel
theorem dX11_partitionOf_5 : decode cX11_partitionOf 5 = .ok (.aload_n 0, 1) := by decide +kernel
theorem dX11_partitionOf_6 : decode cX11_partitionOf 6 = .ok (.getfield 58, 3) := by decide +kernel
theorem dX11_partitionOf_9 : decode cX11_partitionOf 9 = .ok (.getfield 312, 3) := by decide +kernel
theorem dX11_partitionOf_12 : decode cX11_partitionOf 12 = .ok (.iload_n 1, 1) := by decide +kernel
theorem dX11_partitionOf_13 : decode cX11_partitionOf 13 = .ok (.invokevirtual 239, 3) := by decide +kernel
theorem dX11_partitionOf_16 : decode cX11_partitionOf 16 = .ok (.ireturn, 1) := by decide +kernel
theorem dX11_workerOf_0 : decode cX11_workerOf 0 = .ok (.aload_n 0, 1) := by decide +kernel
theorem dX11_workerOf_1 : decode cX11_workerOf 1 = .ok (.iload_n 1, 1) := by decide +kernel
theorem dX11_workerOf_2 : decode cX11_workerOf 2 = .ok (.invokevirtual 307, 3) := by decide +kernel
theorem dX11_workerOf_5 : decode cX11_workerOf 5 = .ok (.aload_n 0, 1) := by decide +kernel
theorem dX11_workerOf_6 : decode cX11_workerOf 6 = .ok (.getfield 58, 3) := by decide +kernel
theorem dX11_workerOf_9 : decode cX11_workerOf 9 = .ok (.getfield 314, 3) := by decide +kernel
theorem dX11_workerOf_12 : decode cX11_workerOf 12 = .ok (.iload_n 1, 1) := by decide +kernel
theorem dX11_workerOf_13 : decode cX11_workerOf 13 = .ok (.invokevirtual 239, 3) := by decide +kernel
theorem dX11_workerOf_16 : decode cX11_workerOf 16 = .ok (.ireturn, 1) := by decide +kernel
theorem dX11_startOf_0 : decode cX11_startOf 0 = .ok (.aload_n 0, 1) := by decide +kernel
theorem dX11_startOf_1 : decode cX11_startOf 1 = .ok (.iload_n 1, 1) := by decide +kernel
theorem dX11_startOf_2 : decode cX11_startOf 2 = .ok (.invokevirtual 307, 3) := by decide +kernel
theorem dX11_startOf_5 : decode cX11_startOf 5 = .ok (.aload_n 0, 1) := by decide +kernel
theorem dX11_startOf_6 : decode cX11_startOf 6 = .ok (.getfield 58, 3) := by decide +kernel
theorem dX11_startOf_9 : decode cX11_startOf 9 = .ok (.getfield 317, 3) := by decide +kernel
theorem dX11_startOf_12 : decode cX11_startOf 12 = .ok (.iload_n 1, 1) := by decide +kernel
theorem dX11_startOf_13 : decode cX11_startOf 13 = .ok (.invokevirtual 239, 3) := by decide +kernel
theorem dX11_startOf_16 : decode cX11_startOf 16 = .ok (.ireturn, 1) := by decide +kernel
theorem dX11_endOf_0 : decode cX11_endOf 0 = .ok (.aload_n 0, 1) := by decide +kernel
theorem dX11_endOf_1 : decode cX11_endOf 1 = .ok (.iload_n 1, 1) := by decide +kernel
theorem dX11_endOf_2 : decode cX11_endOf 2 = .ok (.invokevirtual 307, 3) := by decide +kernel
theorem dX11_endOf_5 : decode cX11_endOf 5 = .ok (.aload_n 0, 1) := by decide +kernel
theorem dX11_endOf_6 : decode cX11_endOf 6 = .ok (.getfield 58, 3) := by decide +kernel
theorem dX11_endOf_9 : decode cX11_endOf 9 = .ok (.getfield 320, 3) := by decide +kernel
theorem dX11_endOf_12 : decode cX11_endOf 12 = .ok (.iload_n 1, 1) := by decide +kernel
theorem dX11_endOf_13 : decode cX11_endOf 13 = .ok (.invokevirtual 239, 3) := by decide +kernel
theorem dX11_endOf_16 : decode cX11_endOf 16 = .ok (.ireturn, 1) := by decide +kernel
theorem dX11_isCopy_0 : decode cX11_isCopy 0 = .ok (.aload_n 0, 1) := by decide +kernel
theorem dX11_isCopy_1 : decode cX11_isCopy 1 = .ok (.iload_n 1, 1) := by decide +kernel
theorem dX11_isCopy_2 : decode cX11_isCopy 2 = .ok (.invokevirtual 307, 3) := by decide +kernel
theorem dX11_isCopy_5 : decode cX11_isCopy 5 = .ok (.aload_n 0, 1) := by decide +kernel
theorem dX11_isCopy_6 : decode cX11_isCopy 6 = .ok (.getfield 58, 3) := by decide +kernel
theorem dX11_isCopy_9 : decode cX11_isCopy 9 = .ok (.getfield 323, 3) := by decide +kernel
theorem dX11_isCopy_12 : decode cX11_isCopy 12 = .ok (.iload_n 1, 1) := by decide +kernel
theorem dX11_isCopy_13 : decode cX11_isCopy 13 = .ok (.invokevirtual 239, 3) := by decide +kernel
theorem dX11_isCopy_16 : decode cX11_isCopy 16 = .ok (.ifCond .eq 7, 3) := by decide +kernel
theorem dX11_isCopy_19 : decode cX11_isCopy 19 = .ok (.iconst 1, 1) := by decide +kernel
theorem dX11_isCopy_20 : decode cX11_isCopy 20 = .ok (.goto 4, 3) := by decide +kernel
theorem dX11_isCopy_23 : decode cX11_isCopy 23 = .ok (.iconst 0, 1) := by decide +kernel
theorem dX11_isCopy_24 : decode cX11_isCopy 24 = .ok (.ireturn, 1) := by decide +kernel
theorem dX11_share_0 : decode cX11_share 0 = .ok (.aload_n 0, 1) := by decide +kernel
theorem dX11_share_1 : decode cX11_share 1 = .ok (.getfield 58, 3) := by decide +kernel
theorem dX11_share_4 : decode cX11_share 4 = .ok (.getfield 295, 3) := by decide +kernel
theorem dX11_share_7 : decode cX11_share 7 = .ok (.aload_n 0, 1) := by decide +kernel
theorem dX11_share_8 : decode cX11_share 8 = .ok (.getfield 58, 3) := by decide +kernel
theorem dX11_share_11 : decode cX11_share 11 = .ok (.getfield 326, 3) := by decide +kernel
theorem dX11_share_14 : decode cX11_share 14 = .ok (.imul, 1) := by decide +kernel
theorem dX11_share_15 : decode cX11_share 15 = .ok (.istore_n 1, 1) := by decide +kernel
theorem dX11_share_16 : decode cX11_share 16 = .ok (.iload_n 1, 1) := by decide +kernel
theorem dX11_share_17 : decode cX11_share 17 = .ok (.ifCond .gt 7, 3) := by decide +kernel
theorem dX11_share_20 : decode cX11_share 20 = .ok (.fconst 0, 1) := by decide +kernel
theorem dX11_share_21 : decode cX11_share 21 = .ok (.goto 14, 3) := by decide +kernel
theorem dX11_share_24 : decode cX11_share 24 = .ok (.aload_n 0, 1) := by decide +kernel
theorem dX11_share_25 : decode cX11_share 25 = .ok (.getfield 58, 3) := by decide +kernel
theorem dX11_share_28 : decode cX11_share 28 = .ok (.invokevirtual 329, 3) := by decide +kernel
theorem dX11_share_31 : decode cX11_share 31 = .ok (.i2f, 1) := by decide +kernel
theorem dX11_share_32 : decode cX11_share 32 = .ok (.iload_n 1, 1) := by decide +kernel
theorem dX11_share_33 : decode cX11_share 33 = .ok (.i2f, 1) := by decide +kernel
theorem dX11_share_34 : decode cX11_share 34 = .ok (.fdiv, 1) := by decide +kernel
theorem dX11_share_35 : decode cX11_share 35 = .ok (.freturn, 1) := by decide +kernel
theorem dX11_checkNode_0 : decode cX11_checkNode 0 = .ok (.iload_n 1, 1) := by decide +kernel
theorem dX11_checkNode_1 : decode cX11_checkNode 1 = .ok (.ifCond .lt 14, 3) := by decide +kernel
theorem dX11_checkNode_4 : decode cX11_checkNode 4 = .ok (.iload_n 1, 1) := by decide +kernel
theorem dX11_checkNode_5 : decode cX11_checkNode 5 = .ok (.aload_n 0, 1) := by decide +kernel
theorem dX11_checkNode_6 : decode cX11_checkNode 6 = .ok (.getfield 16, 3) := by decide +kernel
theorem dX11_checkNode_9 : decode cX11_checkNode 9 = .ok (.invokevirtual 186, 3) := by decide +kernel
theorem dX11_checkNode_12 : decode cX11_checkNode 12 = .ok (.if_icmp .lt 14, 3) := by decide +kernel
theorem dX11_checkNode_15 : decode cX11_checkNode 15 = .ok (.new 228, 3) := by decide +kernel
theorem dX11_checkNode_18 : decode cX11_checkNode 18 = .ok (.dup, 1) := by decide +kernel
theorem dX11_checkNode_19 : decode cX11_checkNode 19 = .ok (.ldc_w 332, 3) := by decide +kernel
theorem dX11_checkNode_22 : decode cX11_checkNode 22 = .ok (.invokespecial 232, 3) := by decide +kernel
theorem dX11_checkNode_25 : decode cX11_checkNode 25 = .ok (.athrow, 1) := by decide +kernel
theorem dX11_checkNode_26 : decode cX11_checkNode 26 = .ok (.return_, 1) := by decide +kernel
theorem dX11_checkAnotherNode_0 : decode cX11_checkAnotherNode 0 = .ok (.aload_n 0, 1) := by decide +kernel
theorem dX11_checkAnotherNode_1 : decode cX11_checkAnotherNode 1 = .ok (.getfield 16, 3) := by decide +kernel
theorem dX11_checkAnotherNode_4 : decode cX11_checkAnotherNode 4 = .ok (.invokevirtual 186, 3) := by decide +kernel
theorem dX11_checkAnotherNode_7 : decode cX11_checkAnotherNode 7 = .ok (.bipush 14, 2) := by decide +kernel
theorem dX11_checkAnotherNode_9 : decode cX11_checkAnotherNode 9 = .ok (.if_icmp .lt 14, 3) := by decide +kernel
theorem dX11_checkAnotherNode_12 : decode cX11_checkAnotherNode 12 = .ok (.new 116, 3) := by decide +kernel
theorem dX11_checkAnotherNode_15 : decode cX11_checkAnotherNode 15 = .ok (.dup, 1) := by decide +kernel
theorem dX11_checkAnotherNode_16 : decode cX11_checkAnotherNode 16 = .ok (.ldc_w 334, 3) := by decide +kernel
theorem dX11_checkAnotherNode_19 : decode cX11_checkAnotherNode 19 = .ok (.invokespecial 120, 3) := by decide +kernel
theorem dX11_checkAnotherNode_22 : decode cX11_checkAnotherNode 22 = .ok (.athrow, 1) := by decide +kernel
theorem dX11_checkAnotherNode_23 : decode cX11_checkAnotherNode 23 = .ok (.return_, 1) := by decide +kernel
theorem dX11_checkAttempt_0 : decode cX11_checkAttempt 0 = .ok (.iload_n 1, 1) := by decide +kernel
theorem dX11_checkAttempt_1 : decode cX11_checkAttempt 1 = .ok (.ifCond .lt 14, 3) := by decide +kernel
theorem dX11_checkAttempt_4 : decode cX11_checkAttempt 4 = .ok (.iload_n 1, 1) := by decide +kernel
theorem dX11_checkAttempt_5 : decode cX11_checkAttempt 5 = .ok (.aload_n 0, 1) := by decide +kernel
theorem dX11_checkAttempt_6 : decode cX11_checkAttempt 6 = .ok (.getfield 58, 3) := by decide +kernel
theorem dX11_checkAttempt_9 : decode cX11_checkAttempt 9 = .ok (.getfield 304, 3) := by decide +kernel
theorem dX11_checkAttempt_12 : decode cX11_checkAttempt 12 = .ok (.if_icmp .lt 14, 3) := by decide +kernel
theorem dX11_checkAttempt_15 : decode cX11_checkAttempt 15 = .ok (.new 228, 3) := by decide +kernel
theorem dX11_checkAttempt_18 : decode cX11_checkAttempt 18 = .ok (.dup, 1) := by decide +kernel
theorem dX11_checkAttempt_19 : decode cX11_checkAttempt 19 = .ok (.ldc_w 336, 3) := by decide +kernel
theorem dX11_checkAttempt_22 : decode cX11_checkAttempt 22 = .ok (.invokespecial 232, 3) := by decide +kernel
theorem dX11_checkAttempt_25 : decode cX11_checkAttempt 25 = .ok (.athrow, 1) := by decide +kernel
theorem dX11_checkAttempt_26 : decode cX11_checkAttempt 26 = .ok (.return_, 1) := by decide +kernel
theorem dX11_checkToldPartitions_0 : decode cX11_checkToldPartitions 0 = .ok (.iload_n 0, 1) := by decide +kernel
theorem dX11_checkToldPartitions_1 : decode cX11_checkToldPartitions 1 = .ok (.iconst 1, 1) := by decide +kernel
theorem dX11_checkToldPartitions_2 : decode cX11_checkToldPartitions 2 = .ok (.if_icmp .lt 8, 3) := by decide +kernel
theorem dX11_checkToldPartitions_5 : decode cX11_checkToldPartitions 5 = .ok (.iload_n 0, 1) := by decide +kernel
theorem dX11_checkToldPartitions_6 : decode cX11_checkToldPartitions 6 = .ok (.iconst 4, 1) := by decide +kernel
theorem dX11_checkToldPartitions_7 : decode cX11_checkToldPartitions 7 = .ok (.if_icmp .le 14, 3) := by decide +kernel
theorem dX11_checkToldPartitions_10 : decode cX11_checkToldPartitions 10 = .ok (.new 132, 3) := by decide +kernel
theorem dX11_checkToldPartitions_13 : decode cX11_checkToldPartitions 13 = .ok (.dup, 1) := by decide +kernel
theorem dX11_checkToldPartitions_14 : decode cX11_checkToldPartitions 14 = .ok (.ldc_w 338, 3) := by decide +kernel
theorem dX11_checkToldPartitions_17 : decode cX11_checkToldPartitions 17 = .ok (.invokespecial 136, 3) := by decide +kernel
theorem dX11_checkToldPartitions_20 : decode cX11_checkToldPartitions 20 = .ok (.athrow, 1) := by decide +kernel
theorem dX11_checkToldPartitions_21 : decode cX11_checkToldPartitions 21 = .ok (.return_, 1) := by decide +kernel
theorem dX11_checkSetting_0 : decode cX11_checkSetting 0 = .ok (.iload_n 0, 1) := by decide +kernel
theorem dX11_checkSetting_1 : decode cX11_checkSetting 1 = .ok (.ifCond .lt 10, 3) := by decide +kernel
theorem dX11_checkSetting_4 : decode cX11_checkSetting 4 = .ok (.iload_n 0, 1) := by decide +kernel
theorem dX11_checkSetting_5 : decode cX11_checkSetting 5 = .ok (.sipush 1000, 3) := by decide +kernel
theorem dX11_checkSetting_8 : decode cX11_checkSetting 8 = .ok (.if_icmp .le 14, 3) := by decide +kernel
theorem dX11_checkSetting_11 : decode cX11_checkSetting 11 = .ok (.new 132, 3) := by decide +kernel
theorem dX11_checkSetting_14 : decode cX11_checkSetting 14 = .ok (.dup, 1) := by decide +kernel
theorem dX11_checkSetting_15 : decode cX11_checkSetting 15 = .ok (.ldc_w 340, 3) := by decide +kernel
theorem dX11_checkSetting_18 : decode cX11_checkSetting 18 = .ok (.invokespecial 136, 3) := by decide +kernel
theorem dX11_checkSetting_21 : decode cX11_checkSetting 21 = .ok (.athrow, 1) := by decide +kernel
theorem dX11_checkSetting_22 : decode cX11_checkSetting 22 = .ok (.return_, 1) := by decide +kernel
theorem dX11_checkPartition_0 : decode cX11_checkPartition 0 = .ok (.iload_n 1, 1) := by decide +kernel
theorem dX11_checkPartition_1 : decode cX11_checkPartition 1 = .ok (.ifCond .lt 11, 3) := by decide +kernel
theorem dX11_checkPartition_4 : decode cX11_checkPartition 4 = .ok (.iload_n 1, 1) := by decide +kernel
theorem dX11_checkPartition_5 : decode cX11_checkPartition 5 = .ok (.aload_n 0, 1) := by decide +kernel
theorem dX11_checkPartition_6 : decode cX11_checkPartition 6 = .ok (.invokevirtual 191, 3) := by decide +kernel
theorem dX11_checkPartition_9 : decode cX11_checkPartition 9 = .ok (.if_icmp .lt 14, 3) := by decide +kernel
theorem dX11_checkPartition_12 : decode cX11_checkPartition 12 = .ok (.new 228, 3) := by decide +kernel
theorem dX11_checkPartition_15 : decode cX11_checkPartition 15 = .ok (.dup, 1) := by decide +kernel
theorem dX11_checkPartition_16 : decode cX11_checkPartition 16 = .ok (.ldc_w 342, 3) := by decide +kernel
theorem dX11_checkPartition_19 : decode cX11_checkPartition 19 = .ok (.invokespecial 232, 3) := by decide +kernel
theorem dX11_checkPartition_22 : decode cX11_checkPartition 22 = .ok (.athrow, 1) := by decide +kernel
theorem dX11_checkPartition_23 : decode cX11_checkPartition 23 = .ok (.return_, 1) := by decide +kernel
theorem dX11_checkPlace_0 : decode cX11_checkPlace 0 = .ok (.aload_n 0, 1) := by decide +kernel
theorem dX11_checkPlace_1 : decode cX11_checkPlace 1 = .ok (.iload_n 1, 1) := by decide +kernel
theorem dX11_checkPlace_2 : decode cX11_checkPlace 2 = .ok (.invokestatic 194, 3) := by decide +kernel
theorem dX11_checkPlace_5 : decode cX11_checkPlace 5 = .ok (.iload_n 2, 1) := by decide +kernel
theorem dX11_checkPlace_6 : decode cX11_checkPlace 6 = .ok (.ifCond .lt 12, 3) := by decide +kernel
theorem dX11_checkPlace_9 : decode cX11_checkPlace 9 = .ok (.iload_n 2, 1) := by decide +kernel
theorem dX11_checkPlace_10 : decode cX11_checkPlace 10 = .ok (.aload_n 0, 1) := by decide +kernel
theorem dX11_checkPlace_11 : decode cX11_checkPlace 11 = .ok (.iload_n 1, 1) := by decide +kernel
theorem dX11_checkPlace_12 : decode cX11_checkPlace 12 = .ok (.invokevirtual 198, 3) := by decide +kernel
theorem dX11_checkPlace_15 : decode cX11_checkPlace 15 = .ok (.if_icmp .lt 14, 3) := by decide +kernel
theorem dX11_checkPlace_18 : decode cX11_checkPlace 18 = .ok (.new 228, 3) := by decide +kernel
theorem dX11_checkPlace_21 : decode cX11_checkPlace 21 = .ok (.dup, 1) := by decide +kernel
theorem dX11_checkPlace_22 : decode cX11_checkPlace 22 = .ok (.ldc_w 344, 3) := by decide +kernel
theorem dX11_checkPlace_25 : decode cX11_checkPlace 25 = .ok (.invokespecial 232, 3) := by decide +kernel
theorem dX11_checkPlace_28 : decode cX11_checkPlace 28 = .ok (.athrow, 1) := by decide +kernel
theorem dX11_checkPlace_29 : decode cX11_checkPlace 29 = .ok (.return_, 1) := by decide +kernel
theorem dX11_changeOf_0 : decode cX11_changeOf 0 = .ok (.aload_n 0, 1) := by decide +kernel
theorem dX11_changeOf_1 : decode cX11_changeOf 1 = .ok (.getfield 16, 3) := by decide +kernel
theorem dX11_changeOf_4 : decode cX11_changeOf 4 = .ok (.iload_n 2, 1) := by decide +kernel
theorem dX11_changeOf_5 : decode cX11_changeOf 5 = .ok (.invokevirtual 99, 3) := by decide +kernel
theorem dX11_changeOf_8 : decode cX11_changeOf 8 = .ok (.astore_n 3, 1) := by decide +kernel
theorem dX11_changeOf_9 : decode cX11_changeOf 9 = .ok (.new 78, 3) := by decide +kernel
theorem dX11_changeOf_12 : decode cX11_changeOf 12 = .ok (.dup, 1) := by decide +kernel
theorem dX11_changeOf_13 : decode cX11_changeOf 13 = .ok (.aload_n 1, 1) := by decide +kernel
theorem dX11_changeOf_14 : decode cX11_changeOf 14 = .ok (.iload_n 2, 1) := by decide +kernel
theorem dX11_changeOf_15 : decode cX11_changeOf 15 = .ok (.iconst (-1), 1) := by decide +kernel
theorem dX11_changeOf_16 : decode cX11_changeOf 16 = .ok (.aload_n 3, 1) := by decide +kernel
theorem dX11_changeOf_17 : decode cX11_changeOf 17 = .ok (.getfield 159, 3) := by decide +kernel
theorem dX11_changeOf_20 : decode cX11_changeOf 20 = .ok (.aload_n 3, 1) := by decide +kernel
theorem dX11_changeOf_21 : decode cX11_changeOf 21 = .ok (.getfield 162, 3) := by decide +kernel
theorem dX11_changeOf_24 : decode cX11_changeOf 24 = .ok (.invokespecial 86, 3) := by decide +kernel
theorem dX11_changeOf_27 : decode cX11_changeOf 27 = .ok (.areturn, 1) := by decide +kernel
theorem dX11_loadStage_0 : decode cX11_loadStage 0 = .ok (.aload_n 0, 1) := by decide +kernel
theorem dX11_loadStage_1 : decode cX11_loadStage 1 = .ok (.getfield 25, 3) := by decide +kernel
theorem dX11_loadStage_4 : decode cX11_loadStage 4 = .ok (.iload_n 1, 1) := by decide +kernel
theorem dX11_loadStage_5 : decode cX11_loadStage 5 = .ok (.invokevirtual 346, 3) := by decide +kernel
theorem dX11_loadStage_8 : decode cX11_loadStage 8 = .ok (.invokevirtual 191, 3) := by decide +kernel
theorem dX11_loadStage_11 : decode cX11_loadStage 11 = .ok (.istore_n 2, 1) := by decide +kernel
theorem dX11_loadStage_12 : decode cX11_loadStage 12 = .ok (.aload_n 0, 1) := by decide +kernel
theorem dX11_loadStage_13 : decode cX11_loadStage 13 = .ok (.getfield 51, 3) := by decide +kernel
theorem dX11_loadStage_16 : decode cX11_loadStage 16 = .ok (.iload_n 1, 1) := by decide +kernel
theorem dX11_loadStage_17 : decode cX11_loadStage 17 = .ok (.iload_n 2, 1) := by decide +kernel
theorem dX11_loadStage_18 : decode cX11_loadStage 18 = .ok (.invokevirtual 349, 3) := by decide +kernel
theorem dX11_loadStage_21 : decode cX11_loadStage 21 = .ok (.iconst 0, 1) := by decide +kernel
theorem dX11_loadStage_22 : decode cX11_loadStage 22 = .ok (.istore_n 3, 1) := by decide +kernel
theorem dX11_loadStage_23 : decode cX11_loadStage 23 = .ok (.iload_n 3, 1) := by decide +kernel
theorem dX11_loadStage_24 : decode cX11_loadStage 24 = .ok (.iload_n 2, 1) := by decide +kernel
theorem dX11_loadStage_25 : decode cX11_loadStage 25 = .ok (.if_icmp .ge 65, 3) := by decide +kernel
theorem dX11_loadStage_28 : decode cX11_loadStage 28 = .ok (.aload_n 0, 1) := by decide +kernel
theorem dX11_loadStage_29 : decode cX11_loadStage 29 = .ok (.getfield 44, 3) := by decide +kernel
theorem dX11_loadStage_32 : decode cX11_loadStage 32 = .ok (.iload_n 1, 1) := by decide +kernel
theorem dX11_loadStage_33 : decode cX11_loadStage 33 = .ok (.iload_n 3, 1) := by decide +kernel
theorem dX11_loadStage_34 : decode cX11_loadStage 34 = .ok (.invokevirtual 351, 3) := by decide +kernel
theorem dX11_loadStage_37 : decode cX11_loadStage 37 = .ok (.istore 4, 2) := by decide +kernel
theorem dX11_loadStage_39 : decode cX11_loadStage 39 = .ok (.iconst 0, 1) := by decide +kernel
theorem dX11_loadStage_40 : decode cX11_loadStage 40 = .ok (.iload 4, 2) := by decide +kernel
theorem dX11_loadStage_42 : decode cX11_loadStage 42 = .ok (.aload_n 0, 1) := by decide +kernel
theorem dX11_loadStage_43 : decode cX11_loadStage 43 = .ok (.getfield 9, 3) := by decide +kernel
theorem dX11_loadStage_46 : decode cX11_loadStage 46 = .ok (.isub, 1) := by decide +kernel
theorem dX11_loadStage_47 : decode cX11_loadStage 47 = .ok (.invokestatic 177, 3) := by decide +kernel
theorem dX11_loadStage_50 : decode cX11_loadStage 50 = .ok (.istore 5, 2) := by decide +kernel
theorem dX11_loadStage_52 : decode cX11_loadStage 52 = .ok (.aload_n 0, 1) := by decide +kernel
theorem dX11_loadStage_53 : decode cX11_loadStage 53 = .ok (.getfield 51, 3) := by decide +kernel
theorem dX11_loadStage_56 : decode cX11_loadStage 56 = .ok (.getfield 354, 3) := by decide +kernel
theorem dX11_loadStage_59 : decode cX11_loadStage 59 = .ok (.iload_n 3, 1) := by decide +kernel
theorem dX11_loadStage_60 : decode cX11_loadStage 60 = .ok (.iconst 1, 1) := by decide +kernel
theorem dX11_loadStage_61 : decode cX11_loadStage 61 = .ok (.iload 4, 2) := by decide +kernel
theorem dX11_loadStage_63 : decode cX11_loadStage 63 = .ok (.iadd, 1) := by decide +kernel
theorem dX11_loadStage_64 : decode cX11_loadStage 64 = .ok (.iload 5, 2) := by decide +kernel
theorem dX11_loadStage_66 : decode cX11_loadStage 66 = .ok (.iadd, 1) := by decide +kernel
theorem dX11_loadStage_67 : decode cX11_loadStage 67 = .ok (.invokevirtual 243, 3) := by decide +kernel
theorem dX11_loadStage_70 : decode cX11_loadStage 70 = .ok (.aload_n 0, 1) := by decide +kernel
theorem dX11_loadStage_71 : decode cX11_loadStage 71 = .ok (.getfield 58, 3) := by decide +kernel
theorem dX11_loadStage_74 : decode cX11_loadStage 74 = .ok (.dup, 1) := by decide +kernel
theorem dX11_loadStage_75 : decode cX11_loadStage 75 = .ok (.getfield 301, 3) := by decide +kernel
theorem dX11_loadStage_78 : decode cX11_loadStage 78 = .ok (.iload 5, 2) := by decide +kernel
theorem dX11_loadStage_80 : decode cX11_loadStage 80 = .ok (.iadd, 1) := by decide +kernel
theorem dX11_loadStage_81 : decode cX11_loadStage 81 = .ok (.putfield 301, 3) := by decide +kernel
theorem dX11_loadStage_84 : decode cX11_loadStage 84 = .ok (.iinc 3 1, 3) := by decide +kernel
theorem dX11_loadStage_87 : decode cX11_loadStage 87 = .ok (.goto (-64), 3) := by decide +kernel
theorem dX11_loadStage_90 : decode cX11_loadStage 90 = .ok (.return_, 1) := by decide +kernel
theorem dX11_renewCache_0 : decode cX11_renewCache 0 = .ok (.iconst 0, 1) := by decide +kernel
theorem dX11_renewCache_1 : decode cX11_renewCache 1 = .ok (.istore_n 1, 1) := by decide +kernel
theorem dX11_renewCache_2 : decode cX11_renewCache 2 = .ok (.iload_n 1, 1) := by decide +kernel
theorem dX11_renewCache_3 : decode cX11_renewCache 3 = .ok (.bipush 14, 2) := by decide +kernel
theorem dX11_renewCache_5 : decode cX11_renewCache 5 = .ok (.if_icmp .ge 31, 3) := by decide +kernel
theorem dX11_renewCache_8 : decode cX11_renewCache 8 = .ok (.aload_n 0, 1) := by decide +kernel
theorem dX11_renewCache_9 : decode cX11_renewCache 9 = .ok (.getfield 44, 3) := by decide +kernel
theorem dX11_renewCache_12 : decode cX11_renewCache 12 = .ok (.getfield 357, 3) := by decide +kernel
theorem dX11_renewCache_15 : decode cX11_renewCache 15 = .ok (.iload_n 1, 1) := by decide +kernel
theorem dX11_renewCache_16 : decode cX11_renewCache 16 = .ok (.invokestatic 284, 3) := by decide +kernel
theorem dX11_renewCache_19 : decode cX11_renewCache 19 = .ok (.ifCond .eq 11, 3) := by decide +kernel
theorem dX11_renewCache_22 : decode cX11_renewCache 22 = .ok (.aload_n 0, 1) := by decide +kernel
theorem dX11_renewCache_23 : decode cX11_renewCache 23 = .ok (.getfield 35, 3) := by decide +kernel
theorem dX11_renewCache_26 : decode cX11_renewCache 26 = .ok (.iload_n 1, 1) := by decide +kernel
theorem dX11_renewCache_27 : decode cX11_renewCache 27 = .ok (.invokevirtual 360, 3) := by decide +kernel
theorem dX11_renewCache_30 : decode cX11_renewCache 30 = .ok (.iinc 1 1, 3) := by decide +kernel
theorem dX11_renewCache_33 : decode cX11_renewCache 33 = .ok (.goto (-31), 3) := by decide +kernel
theorem dX11_renewCache_36 : decode cX11_renewCache 36 = .ok (.iconst 0, 1) := by decide +kernel
theorem dX11_renewCache_37 : decode cX11_renewCache 37 = .ok (.istore_n 1, 1) := by decide +kernel
theorem dX11_renewCache_38 : decode cX11_renewCache 38 = .ok (.iload_n 1, 1) := by decide +kernel
theorem dX11_renewCache_39 : decode cX11_renewCache 39 = .ok (.bipush 14, 2) := by decide +kernel
theorem dX11_renewCache_41 : decode cX11_renewCache 41 = .ok (.if_icmp .ge 67, 3) := by decide +kernel
theorem dX11_renewCache_44 : decode cX11_renewCache 44 = .ok (.aload_n 0, 1) := by decide +kernel
theorem dX11_renewCache_45 : decode cX11_renewCache 45 = .ok (.getfield 44, 3) := by decide +kernel
theorem dX11_renewCache_48 : decode cX11_renewCache 48 = .ok (.getfield 363, 3) := by decide +kernel
theorem dX11_renewCache_51 : decode cX11_renewCache 51 = .ok (.iload_n 1, 1) := by decide +kernel
theorem dX11_renewCache_52 : decode cX11_renewCache 52 = .ok (.invokestatic 284, 3) := by decide +kernel
theorem dX11_renewCache_55 : decode cX11_renewCache 55 = .ok (.ifCond .eq 47, 3) := by decide +kernel
theorem dX11_renewCache_58 : decode cX11_renewCache 58 = .ok (.aload_n 0, 1) := by decide +kernel
theorem dX11_renewCache_59 : decode cX11_renewCache 59 = .ok (.getfield 16, 3) := by decide +kernel
theorem dX11_renewCache_62 : decode cX11_renewCache 62 = .ok (.iload_n 1, 1) := by decide +kernel
theorem dX11_renewCache_63 : decode cX11_renewCache 63 = .ok (.invokevirtual 99, 3) := by decide +kernel
theorem dX11_renewCache_66 : decode cX11_renewCache 66 = .ok (.getfield 261, 3) := by decide +kernel
theorem dX11_renewCache_69 : decode cX11_renewCache 69 = .ok (.ifCond .eq 33, 3) := by decide +kernel
theorem dX11_renewCache_72 : decode cX11_renewCache 72 = .ok (.aload_n 0, 1) := by decide +kernel
theorem dX11_renewCache_73 : decode cX11_renewCache 73 = .ok (.getfield 35, 3) := by decide +kernel
theorem dX11_renewCache_76 : decode cX11_renewCache 76 = .ok (.iload_n 1, 1) := by decide +kernel
theorem dX11_renewCache_77 : decode cX11_renewCache 77 = .ok (.invokevirtual 265, 3) := by decide +kernel
theorem dX11_renewCache_80 : decode cX11_renewCache 80 = .ok (.ifCond .ne 22, 3) := by decide +kernel
theorem dX11_renewCache_83 : decode cX11_renewCache 83 = .ok (.aload_n 0, 1) := by decide +kernel
theorem dX11_renewCache_84 : decode cX11_renewCache 84 = .ok (.getfield 35, 3) := by decide +kernel
theorem dX11_renewCache_87 : decode cX11_renewCache 87 = .ok (.iload_n 1, 1) := by decide +kernel
theorem dX11_renewCache_88 : decode cX11_renewCache 88 = .ok (.aload_n 0, 1) := by decide +kernel
theorem dX11_renewCache_89 : decode cX11_renewCache 89 = .ok (.getfield 25, 3) := by decide +kernel
theorem dX11_renewCache_92 : decode cX11_renewCache 92 = .ok (.iload_n 1, 1) := by decide +kernel
theorem dX11_renewCache_93 : decode cX11_renewCache 93 = .ok (.invokevirtual 346, 3) := by decide +kernel
theorem dX11_renewCache_96 : decode cX11_renewCache 96 = .ok (.invokevirtual 110, 3) := by decide +kernel
theorem dX11_renewCache_99 : decode cX11_renewCache 99 = .ok (.invokevirtual 366, 3) := by decide +kernel
theorem dX11_renewCache_102 : decode cX11_renewCache 102 = .ok (.iinc 1 1, 3) := by decide +kernel
theorem dX11_renewCache_105 : decode cX11_renewCache 105 = .ok (.goto (-67), 3) := by decide +kernel
theorem dX11_renewCache_108 : decode cX11_renewCache 108 = .ok (.return_, 1) := by decide +kernel
theorem dX11_has_0 : decode cX11_has 0 = .ok (.iload_n 1, 1) := by decide +kernel
theorem dX11_has_1 : decode cX11_has 1 = .ok (.ifCond .lt 21, 3) := by decide +kernel
theorem dX11_has_4 : decode cX11_has 4 = .ok (.iload_n 1, 1) := by decide +kernel
theorem dX11_has_5 : decode cX11_has 5 = .ok (.bipush 14, 2) := by decide +kernel
theorem dX11_has_7 : decode cX11_has 7 = .ok (.if_icmp .ge 15, 3) := by decide +kernel
theorem dX11_has_10 : decode cX11_has 10 = .ok (.iload_n 0, 1) := by decide +kernel
theorem dX11_has_11 : decode cX11_has 11 = .ok (.iload_n 1, 1) := by decide +kernel
theorem dX11_has_12 : decode cX11_has 12 = .ok (.ishr, 1) := by decide +kernel
theorem dX11_has_13 : decode cX11_has 13 = .ok (.iconst 1, 1) := by decide +kernel
theorem dX11_has_14 : decode cX11_has 14 = .ok (.iand, 1) := by decide +kernel
theorem dX11_has_15 : decode cX11_has 15 = .ok (.ifCond .eq 7, 3) := by decide +kernel
theorem dX11_has_18 : decode cX11_has 18 = .ok (.iconst 1, 1) := by decide +kernel
theorem dX11_has_19 : decode cX11_has 19 = .ok (.goto 4, 3) := by decide +kernel
theorem dX11_has_22 : decode cX11_has 22 = .ok (.iconst 0, 1) := by decide +kernel
theorem dX11_has_23 : decode cX11_has 23 = .ok (.ireturn, 1) := by decide +kernel
theorem dX11_with_0 : decode cX11_with 0 = .ok (.iload_n 1, 1) := by decide +kernel
theorem dX11_with_1 : decode cX11_with 1 = .ok (.ifCond .lt 17, 3) := by decide +kernel
theorem dX11_with_4 : decode cX11_with 4 = .ok (.iload_n 1, 1) := by decide +kernel
theorem dX11_with_5 : decode cX11_with 5 = .ok (.bipush 14, 2) := by decide +kernel
theorem dX11_with_7 : decode cX11_with 7 = .ok (.if_icmp .ge 11, 3) := by decide +kernel
theorem dX11_with_10 : decode cX11_with 10 = .ok (.iload_n 0, 1) := by decide +kernel
theorem dX11_with_11 : decode cX11_with 11 = .ok (.iconst 1, 1) := by decide +kernel
theorem dX11_with_12 : decode cX11_with 12 = .ok (.iload_n 1, 1) := by decide +kernel
theorem dX11_with_13 : decode cX11_with 13 = .ok (.ishl, 1) := by decide +kernel
theorem dX11_with_14 : decode cX11_with 14 = .ok (.ior, 1) := by decide +kernel
theorem dX11_with_15 : decode cX11_with 15 = .ok (.goto 4, 3) := by decide +kernel
theorem dX11_with_18 : decode cX11_with 18 = .ok (.iload_n 0, 1) := by decide +kernel
theorem dX11_with_19 : decode cX11_with 19 = .ok (.ireturn, 1) := by decide +kernel
theorem dX11_modulo_0 : decode cX11_modulo 0 = .ok (.iload_n 1, 1) := by decide +kernel
theorem dX11_modulo_1 : decode cX11_modulo 1 = .ok (.iconst 1, 1) := by decide +kernel
theorem dX11_modulo_2 : decode cX11_modulo 2 = .ok (.if_icmp .ge 7, 3) := by decide +kernel
theorem dX11_modulo_5 : decode cX11_modulo 5 = .ok (.iconst 0, 1) := by decide +kernel
theorem dX11_modulo_6 : decode cX11_modulo 6 = .ok (.goto 8, 3) := by decide +kernel
theorem dX11_modulo_9 : decode cX11_modulo 9 = .ok (.iload_n 0, 1) := by decide +kernel
theorem dX11_modulo_10 : decode cX11_modulo 10 = .ok (.iload_n 1, 1) := by decide +kernel
theorem dX11_modulo_11 : decode cX11_modulo 11 = .ok (.invokestatic 369, 3) := by decide +kernel
theorem dX11_modulo_14 : decode cX11_modulo 14 = .ok (.ireturn, 1) := by decide +kernel
end
section
theorem dX12_init_0 : decode cX12_init 0 = .ok (.aload_n 0, 1) := by decide +kernel
theorem dX12_init_1 : decode cX12_init 1 = .ok (.invokespecial 1, 3) := by decide +kernel
theorem dX12_init_4 : decode cX12_init 4 = .ok (.aload_n 0, 1) := by decide +kernel
theorem dX12_init_5 : decode cX12_init 5 = .ok (.bipush 14, 2) := by decide +kernel
theorem dX12_init_7 : decode cX12_init 7 = .ok (.newarray .int, 2) := by decide +kernel
theorem dX12_init_9 : decode cX12_init 9 = .ok (.putfield 7, 3) := by decide +kernel
theorem dX12_init_12 : decode cX12_init 12 = .ok (.aload_n 0, 1) := by decide +kernel
theorem dX12_init_13 : decode cX12_init 13 = .ok (.bipush 14, 2) := by decide +kernel
theorem dX12_init_15 : decode cX12_init 15 = .ok (.newarray .int, 2) := by decide +kernel
theorem dX12_init_17 : decode cX12_init 17 = .ok (.putfield 13, 3) := by decide +kernel
theorem dX12_init_20 : decode cX12_init 20 = .ok (.aload_n 0, 1) := by decide +kernel
theorem dX12_init_21 : decode cX12_init 21 = .ok (.bipush 14, 2) := by decide +kernel
theorem dX12_init_23 : decode cX12_init 23 = .ok (.newarray .int, 2) := by decide +kernel
theorem dX12_init_25 : decode cX12_init 25 = .ok (.putfield 16, 3) := by decide +kernel
theorem dX12_init_28 : decode cX12_init 28 = .ok (.aload_n 0, 1) := by decide +kernel
theorem dX12_init_29 : decode cX12_init 29 = .ok (.bipush 14, 2) := by decide +kernel
theorem dX12_init_31 : decode cX12_init 31 = .ok (.newarray .int, 2) := by decide +kernel
theorem dX12_init_33 : decode cX12_init 33 = .ok (.putfield 19, 3) := by decide +kernel
theorem dX12_init_36 : decode cX12_init 36 = .ok (.aload_n 0, 1) := by decide +kernel
theorem dX12_init_37 : decode cX12_init 37 = .ok (.bipush 14, 2) := by decide +kernel
theorem dX12_init_39 : decode cX12_init 39 = .ok (.newarray .int, 2) := by decide +kernel
theorem dX12_init_41 : decode cX12_init 41 = .ok (.putfield 22, 3) := by decide +kernel
theorem dX12_init_44 : decode cX12_init 44 = .ok (.aload_n 0, 1) := by decide +kernel
theorem dX12_init_45 : decode cX12_init 45 = .ok (.bipush 14, 2) := by decide +kernel
theorem dX12_init_47 : decode cX12_init 47 = .ok (.newarray .int, 2) := by decide +kernel
theorem dX12_init_49 : decode cX12_init 49 = .ok (.putfield 25, 3) := by decide +kernel
theorem dX12_init_52 : decode cX12_init 52 = .ok (.aload_n 0, 1) := by decide +kernel
theorem dX12_init_53 : decode cX12_init 53 = .ok (.bipush 14, 2) := by decide +kernel
theorem dX12_init_55 : decode cX12_init 55 = .ok (.newarray .int, 2) := by decide +kernel
theorem dX12_init_57 : decode cX12_init 57 = .ok (.putfield 28, 3) := by decide +kernel
theorem dX12_init_60 : decode cX12_init 60 = .ok (.aload_n 0, 1) := by decide +kernel
theorem dX12_init_61 : decode cX12_init 61 = .ok (.bipush 14, 2) := by decide +kernel
theorem dX12_init_63 : decode cX12_init 63 = .ok (.newarray .int, 2) := by decide +kernel
theorem dX12_init_65 : decode cX12_init 65 = .ok (.putfield 31, 3) := by decide +kernel
theorem dX12_init_68 : decode cX12_init 68 = .ok (.aload_n 0, 1) := by decide +kernel
theorem dX12_init_69 : decode cX12_init 69 = .ok (.bipush 14, 2) := by decide +kernel
theorem dX12_init_71 : decode cX12_init 71 = .ok (.newarray .int, 2) := by decide +kernel
theorem dX12_init_73 : decode cX12_init 73 = .ok (.putfield 34, 3) := by decide +kernel
theorem dX12_init_76 : decode cX12_init 76 = .ok (.aload_n 0, 1) := by decide +kernel
theorem dX12_init_77 : decode cX12_init 77 = .ok (.bipush 14, 2) := by decide +kernel
theorem dX12_init_79 : decode cX12_init 79 = .ok (.newarray .int, 2) := by decide +kernel
theorem dX12_init_81 : decode cX12_init 81 = .ok (.putfield 37, 3) := by decide +kernel
theorem dX12_init_84 : decode cX12_init 84 = .ok (.aload_n 0, 1) := by decide +kernel
theorem dX12_init_85 : decode cX12_init 85 = .ok (.sipush 168, 3) := by decide +kernel
theorem dX12_init_88 : decode cX12_init 88 = .ok (.newarray .int, 2) := by decide +kernel
theorem dX12_init_90 : decode cX12_init 90 = .ok (.putfield 40, 3) := by decide +kernel
theorem dX12_init_93 : decode cX12_init 93 = .ok (.aload_n 0, 1) := by decide +kernel
theorem dX12_init_94 : decode cX12_init 94 = .ok (.sipush 168, 3) := by decide +kernel
theorem dX12_init_97 : decode cX12_init 97 = .ok (.newarray .int, 2) := by decide +kernel
theorem dX12_init_99 : decode cX12_init 99 = .ok (.putfield 43, 3) := by decide +kernel
theorem dX12_init_102 : decode cX12_init 102 = .ok (.aload_n 0, 1) := by decide +kernel
theorem dX12_init_103 : decode cX12_init 103 = .ok (.bipush 14, 2) := by decide +kernel
theorem dX12_init_105 : decode cX12_init 105 = .ok (.newarray .int, 2) := by decide +kernel
theorem dX12_init_107 : decode cX12_init 107 = .ok (.putfield 46, 3) := by decide +kernel
theorem dX12_init_110 : decode cX12_init 110 = .ok (.aload_n 0, 1) := by decide +kernel
theorem dX12_init_111 : decode cX12_init 111 = .ok (.bipush 126, 2) := by decide +kernel
theorem dX12_init_113 : decode cX12_init 113 = .ok (.newarray .int, 2) := by decide +kernel
theorem dX12_init_115 : decode cX12_init 115 = .ok (.putfield 49, 3) := by decide +kernel
theorem dX12_init_118 : decode cX12_init 118 = .ok (.aload_n 0, 1) := by decide +kernel
theorem dX12_init_119 : decode cX12_init 119 = .ok (.sipush 4200, 3) := by decide +kernel
theorem dX12_init_122 : decode cX12_init 122 = .ok (.newarray .int, 2) := by decide +kernel
theorem dX12_init_124 : decode cX12_init 124 = .ok (.putfield 52, 3) := by decide +kernel
theorem dX12_init_127 : decode cX12_init 127 = .ok (.aload_n 0, 1) := by decide +kernel
theorem dX12_init_128 : decode cX12_init 128 = .ok (.sipush 4200, 3) := by decide +kernel
theorem dX12_init_131 : decode cX12_init 131 = .ok (.newarray .int, 2) := by decide +kernel
theorem dX12_init_133 : decode cX12_init 133 = .ok (.putfield 55, 3) := by decide +kernel
theorem dX12_init_136 : decode cX12_init 136 = .ok (.aload_n 0, 1) := by decide +kernel
theorem dX12_init_137 : decode cX12_init 137 = .ok (.iconst 4, 1) := by decide +kernel
theorem dX12_init_138 : decode cX12_init 138 = .ok (.putfield 58, 3) := by decide +kernel
theorem dX12_init_141 : decode cX12_init 141 = .ok (.aload_n 0, 1) := by decide +kernel
theorem dX12_init_142 : decode cX12_init 142 = .ok (.bipush 20, 2) := by decide +kernel
theorem dX12_init_144 : decode cX12_init 144 = .ok (.putfield 62, 3) := by decide +kernel
theorem dX12_init_147 : decode cX12_init 147 = .ok (.aload_n 0, 1) := by decide +kernel
theorem dX12_init_148 : decode cX12_init 148 = .ok (.iconst 2, 1) := by decide +kernel
theorem dX12_init_149 : decode cX12_init 149 = .ok (.putfield 65, 3) := by decide +kernel
theorem dX12_init_152 : decode cX12_init 152 = .ok (.aload_n 0, 1) := by decide +kernel
theorem dX12_init_153 : decode cX12_init 153 = .ok (.iconst 4, 1) := by decide +kernel
theorem dX12_init_154 : decode cX12_init 154 = .ok (.newarray .int, 2) := by decide +kernel
theorem dX12_init_156 : decode cX12_init 156 = .ok (.putfield 68, 3) := by decide +kernel
theorem dX12_init_159 : decode cX12_init 159 = .ok (.aload_n 0, 1) := by decide +kernel
theorem dX12_init_160 : decode cX12_init 160 = .ok (.bipush 14, 2) := by decide +kernel
theorem dX12_init_162 : decode cX12_init 162 = .ok (.newarray .boolean, 2) := by decide +kernel
theorem dX12_init_164 : decode cX12_init 164 = .ok (.putfield 71, 3) := by decide +kernel
theorem dX12_init_167 : decode cX12_init 167 = .ok (.aload_n 0, 1) := by decide +kernel
theorem dX12_init_168 : decode cX12_init 168 = .ok (.bipush 14, 2) := by decide +kernel
theorem dX12_init_170 : decode cX12_init 170 = .ok (.newarray .boolean, 2) := by decide +kernel
theorem dX12_init_172 : decode cX12_init 172 = .ok (.putfield 75, 3) := by decide +kernel
theorem dX12_init_175 : decode cX12_init 175 = .ok (.aload_n 0, 1) := by decide +kernel
theorem dX12_init_176 : decode cX12_init 176 = .ok (.bipush 14, 2) := by decide +kernel
theorem dX12_init_178 : decode cX12_init 178 = .ok (.newarray .int, 2) := by decide +kernel
theorem dX12_init_180 : decode cX12_init 180 = .ok (.putfield 78, 3) := by decide +kernel
theorem dX12_init_183 : decode cX12_init 183 = .ok (.aload_n 0, 1) := by decide +kernel
theorem dX12_init_184 : decode cX12_init 184 = .ok (.bipush 14, 2) := by decide +kernel
theorem dX12_init_186 : decode cX12_init 186 = .ok (.newarray .boolean, 2) := by decide +kernel
theorem dX12_init_188 : decode cX12_init 188 = .ok (.putfield 81, 3) := by decide +kernel
theorem dX12_init_191 : decode cX12_init 191 = .ok (.aload_n 0, 1) := by decide +kernel
theorem dX12_init_192 : decode cX12_init 192 = .ok (.bipush 14, 2) := by decide +kernel
theorem dX12_init_194 : decode cX12_init 194 = .ok (.newarray .boolean, 2) := by decide +kernel
theorem dX12_init_196 : decode cX12_init 196 = .ok (.putfield 84, 3) := by decide +kernel
theorem dX12_init_199 : decode cX12_init 199 = .ok (.aload_n 0, 1) := by decide +kernel
theorem dX12_init_200 : decode cX12_init 200 = .ok (.bipush 14, 2) := by decide +kernel
theorem dX12_init_202 : decode cX12_init 202 = .ok (.newarray .boolean, 2) := by decide +kernel
theorem dX12_init_204 : decode cX12_init 204 = .ok (.putfield 87, 3) := by decide +kernel
theorem dX12_init_207 : decode cX12_init 207 = .ok (.aload_n 0, 1) := by decide +kernel
theorem dX12_init_208 : decode cX12_init 208 = .ok (.sipush 256, 3) := by decide +kernel
theorem dX12_init_211 : decode cX12_init 211 = .ok (.newarray .int, 2) := by decide +kernel
theorem dX12_init_213 : decode cX12_init 213 = .ok (.putfield 90, 3) := by decide +kernel
theorem dX12_init_216 : decode cX12_init 216 = .ok (.aload_n 0, 1) := by decide +kernel
theorem dX12_init_217 : decode cX12_init 217 = .ok (.sipush 256, 3) := by decide +kernel
theorem dX12_init_220 : decode cX12_init 220 = .ok (.newarray .int, 2) := by decide +kernel
theorem dX12_init_222 : decode cX12_init 222 = .ok (.putfield 93, 3) := by decide +kernel
theorem dX12_init_225 : decode cX12_init 225 = .ok (.aload_n 0, 1) := by decide +kernel
theorem dX12_init_226 : decode cX12_init 226 = .ok (.sipush 256, 3) := by decide +kernel
theorem dX12_init_229 : decode cX12_init 229 = .ok (.newarray .int, 2) := by decide +kernel
theorem dX12_init_231 : decode cX12_init 231 = .ok (.putfield 96, 3) := by decide +kernel
theorem dX12_init_234 : decode cX12_init 234 = .ok (.aload_n 0, 1) := by decide +kernel
theorem dX12_init_235 : decode cX12_init 235 = .ok (.sipush 256, 3) := by decide +kernel
theorem dX12_init_238 : decode cX12_init 238 = .ok (.newarray .int, 2) := by decide +kernel
theorem dX12_init_240 : decode cX12_init 240 = .ok (.putfield 99, 3) := by decide +kernel
theorem dX12_init_243 : decode cX12_init 243 = .ok (.aload_n 0, 1) := by decide +kernel
theorem dX12_init_244 : decode cX12_init 244 = .ok (.sipush 256, 3) := by decide +kernel
theorem dX12_init_247 : decode cX12_init 247 = .ok (.newarray .int, 2) := by decide +kernel
theorem dX12_init_249 : decode cX12_init 249 = .ok (.putfield 102, 3) := by decide +kernel
theorem dX12_init_252 : decode cX12_init 252 = .ok (.aload_n 0, 1) := by decide +kernel
theorem dX12_init_253 : decode cX12_init 253 = .ok (.sipush 256, 3) := by decide +kernel
theorem dX12_init_256 : decode cX12_init 256 = .ok (.newarray .boolean, 2) := by decide +kernel
theorem dX12_init_258 : decode cX12_init 258 = .ok (.putfield 105, 3) := by decide +kernel
theorem dX12_init_261 : decode cX12_init 261 = .ok (.aload_n 0, 1) := by decide +kernel
theorem dX12_init_262 : decode cX12_init 262 = .ok (.bipush 8, 2) := by decide +kernel
theorem dX12_init_264 : decode cX12_init 264 = .ok (.newarray .int, 2) := by decide +kernel
theorem dX12_init_266 : decode cX12_init 266 = .ok (.putfield 108, 3) := by decide +kernel
theorem dX12_init_269 : decode cX12_init 269 = .ok (.aload_n 0, 1) := by decide +kernel
theorem dX12_init_270 : decode cX12_init 270 = .ok (.bipush 8, 2) := by decide +kernel
theorem dX12_init_272 : decode cX12_init 272 = .ok (.newarray .int, 2) := by decide +kernel
theorem dX12_init_274 : decode cX12_init 274 = .ok (.putfield 111, 3) := by decide +kernel
theorem dX12_init_277 : decode cX12_init 277 = .ok (.aload_n 0, 1) := by decide +kernel
theorem dX12_init_278 : decode cX12_init 278 = .ok (.bipush 8, 2) := by decide +kernel
theorem dX12_init_280 : decode cX12_init 280 = .ok (.newarray .boolean, 2) := by decide +kernel
theorem dX12_init_282 : decode cX12_init 282 = .ok (.putfield 114, 3) := by decide +kernel
theorem dX12_init_285 : decode cX12_init 285 = .ok (.aload_n 0, 1) := by decide +kernel
theorem dX12_init_286 : decode cX12_init 286 = .ok (.iconst 4, 1) := by decide +kernel
theorem dX12_init_287 : decode cX12_init 287 = .ok (.newarray .int, 2) := by decide +kernel
theorem dX12_init_289 : decode cX12_init 289 = .ok (.putfield 117, 3) := by decide +kernel
theorem dX12_init_292 : decode cX12_init 292 = .ok (.iconst 0, 1) := by decide +kernel
theorem dX12_init_293 : decode cX12_init 293 = .ok (.istore_n 1, 1) := by decide +kernel
theorem dX12_init_294 : decode cX12_init 294 = .ok (.iload_n 1, 1) := by decide +kernel
theorem dX12_init_295 : decode cX12_init 295 = .ok (.iconst 4, 1) := by decide +kernel
theorem dX12_init_296 : decode cX12_init 296 = .ok (.if_icmp .ge 16, 3) := by decide +kernel
theorem dX12_init_299 : decode cX12_init 299 = .ok (.aload_n 0, 1) := by decide +kernel
theorem dX12_init_300 : decode cX12_init 300 = .ok (.getfield 68, 3) := by decide +kernel
theorem dX12_init_303 : decode cX12_init 303 = .ok (.iload_n 1, 1) := by decide +kernel
theorem dX12_init_304 : decode cX12_init 304 = .ok (.iconst 1, 1) := by decide +kernel
theorem dX12_init_305 : decode cX12_init 305 = .ok (.iastore, 1) := by decide +kernel
theorem dX12_init_306 : decode cX12_init 306 = .ok (.iinc 1 1, 3) := by decide +kernel
theorem dX12_init_309 : decode cX12_init 309 = .ok (.goto (-15), 3) := by decide +kernel
theorem dX12_init_312 : decode cX12_init 312 = .ok (.return_, 1) := by decide +kernel
theorem dX12_thrown_0 : decode cX12_thrown 0 = .ok (.aload_n 0, 1) := by decide +kernel
theorem dX12_thrown_1 : decode cX12_thrown 1 = .ok (.getfield 120, 3) := by decide +kernel
theorem dX12_thrown_4 : decode cX12_thrown 4 = .ok (.ireturn, 1) := by decide +kernel
theorem dX12_fails_0 : decode cX12_fails 0 = .ok (.aload_n 0, 1) := by decide +kernel
theorem dX12_fails_1 : decode cX12_fails 1 = .ok (.iload_n 1, 1) := by decide +kernel
theorem dX12_fails_2 : decode cX12_fails 2 = .ok (.putfield 120, 3) := by decide +kernel
theorem dX12_fails_5 : decode cX12_fails 5 = .ok (.iload_n 1, 1) := by decide +kernel
theorem dX12_fails_6 : decode cX12_fails 6 = .ok (.ifCond .le 7, 3) := by decide +kernel
theorem dX12_fails_9 : decode cX12_fails 9 = .ok (.iconst 1, 1) := by decide +kernel
theorem dX12_fails_10 : decode cX12_fails 10 = .ok (.goto 4, 3) := by decide +kernel
theorem dX12_fails_13 : decode cX12_fails 13 = .ok (.iconst 0, 1) := by decide +kernel
theorem dX12_fails_14 : decode cX12_fails 14 = .ok (.ireturn, 1) := by decide +kernel
theorem dX12_tells_0 : decode cX12_tells 0 = .ok (.aload_n 0, 1) := by decide +kernel
theorem dX12_tells_1 : decode cX12_tells 1 = .ok (.iconst 0, 1) := by decide +kernel
theorem dX12_tells_2 : decode cX12_tells 2 = .ok (.putfield 120, 3) := by decide +kernel
theorem dX12_tells_5 : decode cX12_tells 5 = .ok (.iload_n 1, 1) := by decide +kernel
theorem dX12_tells_6 : decode cX12_tells 6 = .ok (.ireturn, 1) := by decide +kernel
theorem dX12_is_0 : decode cX12_is 0 = .ok (.iload_n 1, 1) := by decide +kernel
theorem dX12_is_1 : decode cX12_is 1 = .ok (.ifCond .lt 15, 3) := by decide +kernel
theorem dX12_is_4 : decode cX12_is 4 = .ok (.iload_n 1, 1) := by decide +kernel
theorem dX12_is_5 : decode cX12_is 5 = .ok (.aload_n 0, 1) := by decide +kernel
theorem dX12_is_6 : decode cX12_is 6 = .ok (.getfield 123, 3) := by decide +kernel
theorem dX12_is_9 : decode cX12_is 9 = .ok (.if_icmp .ge 7, 3) := by decide +kernel
theorem dX12_is_12 : decode cX12_is 12 = .ok (.iconst 1, 1) := by decide +kernel
theorem dX12_is_13 : decode cX12_is 13 = .ok (.goto 4, 3) := by decide +kernel
theorem dX12_is_16 : decode cX12_is 16 = .ok (.iconst 0, 1) := by decide +kernel
theorem dX12_is_17 : decode cX12_is 17 = .ok (.ireturn, 1) := by decide +kernel
theorem dX12_makes_0 : decode cX12_makes 0 = .ok (.aload_n 0, 1) := by decide +kernel
theorem dX12_makes_1 : decode cX12_makes 1 = .ok (.getfield 7, 3) := by decide +kernel
theorem dX12_makes_4 : decode cX12_makes 4 = .ok (.aload_n 0, 1) := by decide +kernel
theorem dX12_makes_5 : decode cX12_makes 5 = .ok (.getfield 123, 3) := by decide +kernel
theorem dX12_makes_8 : decode cX12_makes 8 = .ok (.iload_n 1, 1) := by decide +kernel
theorem dX12_makes_9 : decode cX12_makes 9 = .ok (.iastore, 1) := by decide +kernel
theorem dX12_makes_10 : decode cX12_makes 10 = .ok (.aload_n 0, 1) := by decide +kernel
theorem dX12_makes_11 : decode cX12_makes 11 = .ok (.getfield 13, 3) := by decide +kernel
theorem dX12_makes_14 : decode cX12_makes 14 = .ok (.aload_n 0, 1) := by decide +kernel
theorem dX12_makes_15 : decode cX12_makes 15 = .ok (.getfield 123, 3) := by decide +kernel
theorem dX12_makes_18 : decode cX12_makes 18 = .ok (.iload_n 2, 1) := by decide +kernel
theorem dX12_makes_19 : decode cX12_makes 19 = .ok (.iastore, 1) := by decide +kernel
theorem dX12_makes_20 : decode cX12_makes 20 = .ok (.aload_n 0, 1) := by decide +kernel
theorem dX12_makes_21 : decode cX12_makes 21 = .ok (.getfield 16, 3) := by decide +kernel
theorem dX12_makes_24 : decode cX12_makes 24 = .ok (.aload_n 0, 1) := by decide +kernel
theorem dX12_makes_25 : decode cX12_makes 25 = .ok (.getfield 123, 3) := by decide +kernel
theorem dX12_makes_28 : decode cX12_makes 28 = .ok (.iload_n 3, 1) := by decide +kernel
theorem dX12_makes_29 : decode cX12_makes 29 = .ok (.iastore, 1) := by decide +kernel
theorem dX12_makes_30 : decode cX12_makes 30 = .ok (.aload_n 0, 1) := by decide +kernel
theorem dX12_makes_31 : decode cX12_makes 31 = .ok (.getfield 31, 3) := by decide +kernel
theorem dX12_makes_34 : decode cX12_makes 34 = .ok (.aload_n 0, 1) := by decide +kernel
theorem dX12_makes_35 : decode cX12_makes 35 = .ok (.getfield 123, 3) := by decide +kernel
theorem dX12_makes_38 : decode cX12_makes 38 = .ok (.iload 4, 2) := by decide +kernel
theorem dX12_makes_40 : decode cX12_makes 40 = .ok (.iastore, 1) := by decide +kernel
theorem dX12_makes_41 : decode cX12_makes 41 = .ok (.aload_n 0, 1) := by decide +kernel
theorem dX12_makes_42 : decode cX12_makes 42 = .ok (.getfield 34, 3) := by decide +kernel
theorem dX12_makes_45 : decode cX12_makes 45 = .ok (.aload_n 0, 1) := by decide +kernel
theorem dX12_makes_46 : decode cX12_makes 46 = .ok (.getfield 123, 3) := by decide +kernel
theorem dX12_makes_49 : decode cX12_makes 49 = .ok (.iload 5, 2) := by decide +kernel
theorem dX12_makes_51 : decode cX12_makes 51 = .ok (.iastore, 1) := by decide +kernel
theorem dX12_makes_52 : decode cX12_makes 52 = .ok (.aload_n 0, 1) := by decide +kernel
theorem dX12_makes_53 : decode cX12_makes 53 = .ok (.iconst 0, 1) := by decide +kernel
theorem dX12_makes_54 : decode cX12_makes 54 = .ok (.putfield 126, 3) := by decide +kernel
theorem dX12_makes_57 : decode cX12_makes 57 = .ok (.aload_n 0, 1) := by decide +kernel
theorem dX12_makes_58 : decode cX12_makes 58 = .ok (.dup, 1) := by decide +kernel
theorem dX12_makes_59 : decode cX12_makes 59 = .ok (.getfield 123, 3) := by decide +kernel
theorem dX12_makes_62 : decode cX12_makes 62 = .ok (.iconst 1, 1) := by decide +kernel
theorem dX12_makes_63 : decode cX12_makes 63 = .ok (.iadd, 1) := by decide +kernel
theorem dX12_makes_64 : decode cX12_makes 64 = .ok (.putfield 123, 3) := by decide +kernel
theorem dX12_makes_67 : decode cX12_makes 67 = .ok (.aload_n 0, 1) := by decide +kernel
theorem dX12_makes_68 : decode cX12_makes 68 = .ok (.getfield 123, 3) := by decide +kernel
theorem dX12_makes_71 : decode cX12_makes 71 = .ok (.iconst 1, 1) := by decide +kernel
theorem dX12_makes_72 : decode cX12_makes 72 = .ok (.isub, 1) := by decide +kernel
theorem dX12_makes_73 : decode cX12_makes 73 = .ok (.ireturn, 1) := by decide +kernel
theorem dX12_source_0 : decode cX12_source 0 = .ok (.aload_n 0, 1) := by decide +kernel
theorem dX12_source_1 : decode cX12_source 1 = .ok (.iload_n 1, 1) := by decide +kernel
theorem dX12_source_2 : decode cX12_source 2 = .ok (.iconst 1, 1) := by decide +kernel
theorem dX12_source_3 : decode cX12_source 3 = .ok (.if_icmp .lt 8, 3) := by decide +kernel
theorem dX12_source_6 : decode cX12_source 6 = .ok (.iload_n 1, 1) := by decide +kernel
theorem dX12_source_7 : decode cX12_source 7 = .ok (.iconst 4, 1) := by decide +kernel
theorem dX12_source_8 : decode cX12_source 8 = .ok (.if_icmp .le 7, 3) := by decide +kernel
theorem dX12_source_11 : decode cX12_source 11 = .ok (.iconst 1, 1) := by decide +kernel
theorem dX12_source_12 : decode cX12_source 12 = .ok (.goto 17, 3) := by decide +kernel
theorem dX12_source_15 : decode cX12_source 15 = .ok (.aload_n 0, 1) := by decide +kernel
theorem dX12_source_16 : decode cX12_source 16 = .ok (.getfield 123, 3) := by decide +kernel
theorem dX12_source_19 : decode cX12_source 19 = .ok (.bipush 14, 2) := by decide +kernel
theorem dX12_source_21 : decode cX12_source 21 = .ok (.if_icmp .ne 7, 3) := by decide +kernel
theorem dX12_source_24 : decode cX12_source 24 = .ok (.iconst 2, 1) := by decide +kernel
theorem dX12_source_25 : decode cX12_source 25 = .ok (.goto 4, 3) := by decide +kernel
theorem dX12_source_28 : decode cX12_source 28 = .ok (.iconst 0, 1) := by decide +kernel
theorem dX12_source_29 : decode cX12_source 29 = .ok (.invokevirtual 130, 3) := by decide +kernel
theorem dX12_source_32 : decode cX12_source 32 = .ok (.ifCond .eq 5, 3) := by decide +kernel
theorem dX12_source_35 : decode cX12_source 35 = .ok (.iconst 0, 1) := by decide +kernel
theorem dX12_source_36 : decode cX12_source 36 = .ok (.ireturn, 1) := by decide +kernel
theorem dX12_source_37 : decode cX12_source 37 = .ok (.aload_n 0, 1) := by decide +kernel
theorem dX12_source_38 : decode cX12_source 38 = .ok (.getfield 28, 3) := by decide +kernel
theorem dX12_source_41 : decode cX12_source 41 = .ok (.aload_n 0, 1) := by decide +kernel
theorem dX12_source_42 : decode cX12_source 42 = .ok (.getfield 123, 3) := by decide +kernel
theorem dX12_source_45 : decode cX12_source 45 = .ok (.iload_n 1, 1) := by decide +kernel
theorem dX12_source_46 : decode cX12_source 46 = .ok (.iastore, 1) := by decide +kernel
theorem dX12_source_47 : decode cX12_source 47 = .ok (.aload_n 0, 1) := by decide +kernel
theorem dX12_source_48 : decode cX12_source 48 = .ok (.iconst 0, 1) := by decide +kernel
theorem dX12_source_49 : decode cX12_source 49 = .ok (.iconst 0, 1) := by decide +kernel
theorem dX12_source_50 : decode cX12_source 50 = .ok (.iconst 0, 1) := by decide +kernel
theorem dX12_source_51 : decode cX12_source 51 = .ok (.bipush 12, 2) := by decide +kernel
theorem dX12_source_53 : decode cX12_source 53 = .ok (.iload_n 1, 1) := by decide +kernel
theorem dX12_source_54 : decode cX12_source 54 = .ok (.invokevirtual 134, 3) := by decide +kernel
theorem dX12_source_57 : decode cX12_source 57 = .ok (.ireturn, 1) := by decide +kernel
theorem dX12_empties_0 : decode cX12_empties 0 = .ok (.aload_n 0, 1) := by decide +kernel
theorem dX12_empties_1 : decode cX12_empties 1 = .ok (.iconst 0, 1) := by decide +kernel
theorem dX12_empties_2 : decode cX12_empties 2 = .ok (.putfield 126, 3) := by decide +kernel
theorem dX12_empties_5 : decode cX12_empties 5 = .ok (.iconst 0, 1) := by decide +kernel
theorem dX12_empties_6 : decode cX12_empties 6 = .ok (.istore_n 1, 1) := by decide +kernel
theorem dX12_empties_7 : decode cX12_empties 7 = .ok (.iload_n 1, 1) := by decide +kernel
theorem dX12_empties_8 : decode cX12_empties 8 = .ok (.bipush 14, 2) := by decide +kernel
theorem dX12_empties_10 : decode cX12_empties 10 = .ok (.if_icmp .ge 16, 3) := by decide +kernel
theorem dX12_empties_13 : decode cX12_empties 13 = .ok (.aload_n 0, 1) := by decide +kernel
theorem dX12_empties_14 : decode cX12_empties 14 = .ok (.getfield 75, 3) := by decide +kernel
theorem dX12_empties_17 : decode cX12_empties 17 = .ok (.iload_n 1, 1) := by decide +kernel
theorem dX12_empties_18 : decode cX12_empties 18 = .ok (.iconst 0, 1) := by decide +kernel
theorem dX12_empties_19 : decode cX12_empties 19 = .ok (.bastore, 1) := by decide +kernel
theorem dX12_empties_20 : decode cX12_empties 20 = .ok (.iinc 1 1, 3) := by decide +kernel
theorem dX12_empties_23 : decode cX12_empties 23 = .ok (.goto (-16), 3) := by decide +kernel
theorem dX12_empties_26 : decode cX12_empties 26 = .ok (.return_, 1) := by decide +kernel
theorem dX12_put_0 : decode cX12_put 0 = .ok (.aload_n 0, 1) := by decide +kernel
theorem dX12_put_1 : decode cX12_put 1 = .ok (.aload_n 0, 1) := by decide +kernel
theorem dX12_put_2 : decode cX12_put 2 = .ok (.iload_n 1, 1) := by decide +kernel
theorem dX12_put_3 : decode cX12_put 3 = .ok (.invokevirtual 138, 3) := by decide +kernel
theorem dX12_put_6 : decode cX12_put 6 = .ok (.ifCond .ne 7, 3) := by decide +kernel
theorem dX12_put_9 : decode cX12_put 9 = .ok (.iconst 1, 1) := by decide +kernel
theorem dX12_put_10 : decode cX12_put 10 = .ok (.goto 28, 3) := by decide +kernel
theorem dX12_put_13 : decode cX12_put 13 = .ok (.aload_n 0, 1) := by decide +kernel
theorem dX12_put_14 : decode cX12_put 14 = .ok (.getfield 7, 3) := by decide +kernel
theorem dX12_put_17 : decode cX12_put 17 = .ok (.iload_n 1, 1) := by decide +kernel
theorem dX12_put_18 : decode cX12_put 18 = .ok (.iaload, 1) := by decide +kernel
theorem dX12_put_19 : decode cX12_put 19 = .ok (.ifCond .ne 14, 3) := by decide +kernel
theorem dX12_put_22 : decode cX12_put 22 = .ok (.aload_n 0, 1) := by decide +kernel
theorem dX12_put_23 : decode cX12_put 23 = .ok (.getfield 37, 3) := by decide +kernel
theorem dX12_put_26 : decode cX12_put 26 = .ok (.iload_n 1, 1) := by decide +kernel
theorem dX12_put_27 : decode cX12_put 27 = .ok (.iaload, 1) := by decide +kernel
theorem dX12_put_28 : decode cX12_put 28 = .ok (.bipush 12, 2) := by decide +kernel
theorem dX12_put_30 : decode cX12_put 30 = .ok (.if_icmp .ne 7, 3) := by decide +kernel
theorem dX12_put_33 : decode cX12_put 33 = .ok (.iconst 2, 1) := by decide +kernel
theorem dX12_put_34 : decode cX12_put 34 = .ok (.goto 4, 3) := by decide +kernel
theorem dX12_put_37 : decode cX12_put 37 = .ok (.iconst 0, 1) := by decide +kernel
theorem dX12_put_38 : decode cX12_put 38 = .ok (.invokevirtual 130, 3) := by decide +kernel
theorem dX12_put_41 : decode cX12_put 41 = .ok (.ifCond .eq 5, 3) := by decide +kernel
theorem dX12_put_44 : decode cX12_put 44 = .ok (.iconst 0, 1) := by decide +kernel
theorem dX12_put_45 : decode cX12_put 45 = .ok (.ireturn, 1) := by decide +kernel
theorem dX12_put_46 : decode cX12_put 46 = .ok (.aload_n 0, 1) := by decide +kernel
theorem dX12_put_47 : decode cX12_put 47 = .ok (.getfield 40, 3) := by decide +kernel
theorem dX12_put_50 : decode cX12_put 50 = .ok (.bipush 12, 2) := by decide +kernel
theorem dX12_put_52 : decode cX12_put 52 = .ok (.iload_n 1, 1) := by decide +kernel
theorem dX12_put_53 : decode cX12_put 53 = .ok (.imul, 1) := by decide +kernel
theorem dX12_put_54 : decode cX12_put 54 = .ok (.aload_n 0, 1) := by decide +kernel
theorem dX12_put_55 : decode cX12_put 55 = .ok (.getfield 37, 3) := by decide +kernel
theorem dX12_put_58 : decode cX12_put 58 = .ok (.iload_n 1, 1) := by decide +kernel
theorem dX12_put_59 : decode cX12_put 59 = .ok (.iaload, 1) := by decide +kernel
theorem dX12_put_60 : decode cX12_put 60 = .ok (.iadd, 1) := by decide +kernel
theorem dX12_put_61 : decode cX12_put 61 = .ok (.iload_n 2, 1) := by decide +kernel
theorem dX12_put_62 : decode cX12_put 62 = .ok (.iastore, 1) := by decide +kernel
theorem dX12_put_63 : decode cX12_put 63 = .ok (.aload_n 0, 1) := by decide +kernel
theorem dX12_put_64 : decode cX12_put 64 = .ok (.getfield 43, 3) := by decide +kernel
theorem dX12_put_67 : decode cX12_put 67 = .ok (.bipush 12, 2) := by decide +kernel
theorem dX12_put_69 : decode cX12_put 69 = .ok (.iload_n 1, 1) := by decide +kernel
theorem dX12_put_70 : decode cX12_put 70 = .ok (.imul, 1) := by decide +kernel
theorem dX12_put_71 : decode cX12_put 71 = .ok (.aload_n 0, 1) := by decide +kernel
theorem dX12_put_72 : decode cX12_put 72 = .ok (.getfield 37, 3) := by decide +kernel
theorem dX12_put_75 : decode cX12_put 75 = .ok (.iload_n 1, 1) := by decide +kernel
theorem dX12_put_76 : decode cX12_put 76 = .ok (.iaload, 1) := by decide +kernel
theorem dX12_put_77 : decode cX12_put 77 = .ok (.iadd, 1) := by decide +kernel
theorem dX12_put_78 : decode cX12_put 78 = .ok (.iload_n 3, 1) := by decide +kernel
theorem dX12_put_79 : decode cX12_put 79 = .ok (.iastore, 1) := by decide +kernel
theorem dX12_put_80 : decode cX12_put 80 = .ok (.aload_n 0, 1) := by decide +kernel
theorem dX12_put_81 : decode cX12_put 81 = .ok (.getfield 37, 3) := by decide +kernel
theorem dX12_put_84 : decode cX12_put 84 = .ok (.iload_n 1, 1) := by decide +kernel
theorem dX12_put_85 : decode cX12_put 85 = .ok (.dup2, 1) := by decide +kernel
theorem dX12_put_86 : decode cX12_put 86 = .ok (.iaload, 1) := by decide +kernel
theorem dX12_put_87 : decode cX12_put 87 = .ok (.iconst 1, 1) := by decide +kernel
theorem dX12_put_88 : decode cX12_put 88 = .ok (.iadd, 1) := by decide +kernel
theorem dX12_put_89 : decode cX12_put 89 = .ok (.iastore, 1) := by decide +kernel
theorem dX12_put_90 : decode cX12_put 90 = .ok (.aload_n 0, 1) := by decide +kernel
theorem dX12_put_91 : decode cX12_put 91 = .ok (.invokevirtual 141, 3) := by decide +kernel
theorem dX12_put_94 : decode cX12_put 94 = .ok (.aload_n 0, 1) := by decide +kernel
theorem dX12_put_95 : decode cX12_put 95 = .ok (.getfield 37, 3) := by decide +kernel
theorem dX12_put_98 : decode cX12_put 98 = .ok (.iload_n 1, 1) := by decide +kernel
theorem dX12_put_99 : decode cX12_put 99 = .ok (.iaload, 1) := by decide +kernel
theorem dX12_put_100 : decode cX12_put 100 = .ok (.ireturn, 1) := by decide +kernel
theorem dX12_map_0 : decode cX12_map 0 = .ok (.iload_n 2, 1) := by decide +kernel
theorem dX12_map_1 : decode cX12_map 1 = .ok (.ifCond .lt 21, 3) := by decide +kernel
theorem dX12_map_4 : decode cX12_map 4 = .ok (.iload_n 2, 1) := by decide +kernel
theorem dX12_map_5 : decode cX12_map 5 = .ok (.iconst 5, 1) := by decide +kernel
theorem dX12_map_6 : decode cX12_map 6 = .ok (.if_icmp .ge 16, 3) := by decide +kernel
theorem dX12_map_9 : decode cX12_map 9 = .ok (.iload_n 2, 1) := by decide +kernel
theorem dX12_map_10 : decode cX12_map 10 = .ok (.iconst 3, 1) := by decide +kernel
theorem dX12_map_11 : decode cX12_map 11 = .ok (.if_icmp .ne 7, 3) := by decide +kernel
theorem dX12_map_14 : decode cX12_map 14 = .ok (.iload_n 3, 1) := by decide +kernel
theorem dX12_map_15 : decode cX12_map 15 = .ok (.ifCond .le 7, 3) := by decide +kernel
theorem dX12_map_18 : decode cX12_map 18 = .ok (.iconst 1, 1) := by decide +kernel
theorem dX12_map_19 : decode cX12_map 19 = .ok (.goto 4, 3) := by decide +kernel
theorem dX12_map_22 : decode cX12_map 22 = .ok (.iconst 0, 1) := by decide +kernel
theorem dX12_map_23 : decode cX12_map 23 = .ok (.istore 4, 2) := by decide +kernel
theorem dX12_map_25 : decode cX12_map 25 = .ok (.aload_n 0, 1) := by decide +kernel
theorem dX12_map_26 : decode cX12_map 26 = .ok (.aload_n 0, 1) := by decide +kernel
theorem dX12_map_27 : decode cX12_map 27 = .ok (.iload_n 1, 1) := by decide +kernel
theorem dX12_map_28 : decode cX12_map 28 = .ok (.invokevirtual 138, 3) := by decide +kernel
theorem dX12_map_31 : decode cX12_map 31 = .ok (.ifCond .ne 7, 3) := by decide +kernel
theorem dX12_map_34 : decode cX12_map 34 = .ok (.iconst 1, 1) := by decide +kernel
theorem dX12_map_35 : decode cX12_map 35 = .ok (.goto 26, 3) := by decide +kernel
theorem dX12_map_38 : decode cX12_map 38 = .ok (.iload 4, 2) := by decide +kernel
theorem dX12_map_40 : decode cX12_map 40 = .ok (.ifCond .ne 7, 3) := by decide +kernel
theorem dX12_map_43 : decode cX12_map 43 = .ok (.iconst 2, 1) := by decide +kernel
theorem dX12_map_44 : decode cX12_map 44 = .ok (.goto 17, 3) := by decide +kernel
theorem dX12_map_47 : decode cX12_map 47 = .ok (.aload_n 0, 1) := by decide +kernel
theorem dX12_map_48 : decode cX12_map 48 = .ok (.getfield 123, 3) := by decide +kernel
theorem dX12_map_51 : decode cX12_map 51 = .ok (.bipush 14, 2) := by decide +kernel
theorem dX12_map_53 : decode cX12_map 53 = .ok (.if_icmp .ne 7, 3) := by decide +kernel
theorem dX12_map_56 : decode cX12_map 56 = .ok (.iconst 3, 1) := by decide +kernel
theorem dX12_map_57 : decode cX12_map 57 = .ok (.goto 4, 3) := by decide +kernel
theorem dX12_map_60 : decode cX12_map 60 = .ok (.iconst 0, 1) := by decide +kernel
theorem dX12_map_61 : decode cX12_map 61 = .ok (.invokevirtual 130, 3) := by decide +kernel
theorem dX12_map_64 : decode cX12_map 64 = .ok (.ifCond .eq 5, 3) := by decide +kernel
theorem dX12_map_67 : decode cX12_map 67 = .ok (.iconst 0, 1) := by decide +kernel
theorem dX12_map_68 : decode cX12_map 68 = .ok (.ireturn, 1) := by decide +kernel
theorem dX12_map_69 : decode cX12_map 69 = .ok (.aload_n 0, 1) := by decide +kernel
theorem dX12_map_70 : decode cX12_map 70 = .ok (.getfield 19, 3) := by decide +kernel
theorem dX12_map_73 : decode cX12_map 73 = .ok (.aload_n 0, 1) := by decide +kernel
theorem dX12_map_74 : decode cX12_map 74 = .ok (.getfield 123, 3) := by decide +kernel
theorem dX12_map_77 : decode cX12_map 77 = .ok (.iload_n 2, 1) := by decide +kernel
theorem dX12_map_78 : decode cX12_map 78 = .ok (.iastore, 1) := by decide +kernel
theorem dX12_map_79 : decode cX12_map 79 = .ok (.aload_n 0, 1) := by decide +kernel
theorem dX12_map_80 : decode cX12_map 80 = .ok (.getfield 22, 3) := by decide +kernel
theorem dX12_map_83 : decode cX12_map 83 = .ok (.aload_n 0, 1) := by decide +kernel
theorem dX12_map_84 : decode cX12_map 84 = .ok (.getfield 123, 3) := by decide +kernel
theorem dX12_map_87 : decode cX12_map 87 = .ok (.iload_n 3, 1) := by decide +kernel
theorem dX12_map_88 : decode cX12_map 88 = .ok (.iastore, 1) := by decide +kernel
theorem dX12_map_89 : decode cX12_map 89 = .ok (.aload_n 0, 1) := by decide +kernel
theorem dX12_map_90 : decode cX12_map 90 = .ok (.iconst 1, 1) := by decide +kernel
theorem dX12_map_91 : decode cX12_map 91 = .ok (.iload_n 1, 1) := by decide +kernel
theorem dX12_map_92 : decode cX12_map 92 = .ok (.iconst 0, 1) := by decide +kernel
theorem dX12_map_93 : decode cX12_map 93 = .ok (.aload_n 0, 1) := by decide +kernel
theorem dX12_map_94 : decode cX12_map 94 = .ok (.getfield 31, 3) := by decide +kernel
theorem dX12_map_97 : decode cX12_map 97 = .ok (.iload_n 1, 1) := by decide +kernel
theorem dX12_map_98 : decode cX12_map 98 = .ok (.iaload, 1) := by decide +kernel
theorem dX12_map_99 : decode cX12_map 99 = .ok (.aload_n 0, 1) := by decide +kernel
theorem dX12_map_100 : decode cX12_map 100 = .ok (.getfield 34, 3) := by decide +kernel
theorem dX12_map_103 : decode cX12_map 103 = .ok (.iload_n 1, 1) := by decide +kernel
theorem dX12_map_104 : decode cX12_map 104 = .ok (.iaload, 1) := by decide +kernel
theorem dX12_map_105 : decode cX12_map 105 = .ok (.invokevirtual 134, 3) := by decide +kernel
theorem dX12_map_108 : decode cX12_map 108 = .ok (.ireturn, 1) := by decide +kernel
theorem dX12_filter_0 : decode cX12_filter 0 = .ok (.aload_n 0, 1) := by decide +kernel
theorem dX12_filter_1 : decode cX12_filter 1 = .ok (.aload_n 0, 1) := by decide +kernel
theorem dX12_filter_2 : decode cX12_filter 2 = .ok (.iload_n 1, 1) := by decide +kernel
theorem dX12_filter_3 : decode cX12_filter 3 = .ok (.invokevirtual 138, 3) := by decide +kernel
theorem dX12_filter_6 : decode cX12_filter 6 = .ok (.ifCond .ne 7, 3) := by decide +kernel
theorem dX12_filter_9 : decode cX12_filter 9 = .ok (.iconst 1, 1) := by decide +kernel
theorem dX12_filter_10 : decode cX12_filter 10 = .ok (.goto 17, 3) := by decide +kernel
theorem dX12_filter_13 : decode cX12_filter 13 = .ok (.aload_n 0, 1) := by decide +kernel
theorem dX12_filter_14 : decode cX12_filter 14 = .ok (.getfield 123, 3) := by decide +kernel
theorem dX12_filter_17 : decode cX12_filter 17 = .ok (.bipush 14, 2) := by decide +kernel
theorem dX12_filter_19 : decode cX12_filter 19 = .ok (.if_icmp .ne 7, 3) := by decide +kernel
theorem dX12_filter_22 : decode cX12_filter 22 = .ok (.iconst 2, 1) := by decide +kernel
theorem dX12_filter_23 : decode cX12_filter 23 = .ok (.goto 4, 3) := by decide +kernel
theorem dX12_filter_26 : decode cX12_filter 26 = .ok (.iconst 0, 1) := by decide +kernel
theorem dX12_filter_27 : decode cX12_filter 27 = .ok (.invokevirtual 130, 3) := by decide +kernel
theorem dX12_filter_30 : decode cX12_filter 30 = .ok (.ifCond .eq 5, 3) := by decide +kernel
theorem dX12_filter_33 : decode cX12_filter 33 = .ok (.iconst 0, 1) := by decide +kernel
theorem dX12_filter_34 : decode cX12_filter 34 = .ok (.ireturn, 1) := by decide +kernel
theorem dX12_filter_35 : decode cX12_filter 35 = .ok (.aload_n 0, 1) := by decide +kernel
theorem dX12_filter_36 : decode cX12_filter 36 = .ok (.getfield 22, 3) := by decide +kernel
theorem dX12_filter_39 : decode cX12_filter 39 = .ok (.aload_n 0, 1) := by decide +kernel
theorem dX12_filter_40 : decode cX12_filter 40 = .ok (.getfield 123, 3) := by decide +kernel
theorem dX12_filter_43 : decode cX12_filter 43 = .ok (.iload_n 2, 1) := by decide +kernel
theorem dX12_filter_44 : decode cX12_filter 44 = .ok (.iastore, 1) := by decide +kernel
theorem dX12_filter_45 : decode cX12_filter 45 = .ok (.aload_n 0, 1) := by decide +kernel
theorem dX12_filter_46 : decode cX12_filter 46 = .ok (.getfield 25, 3) := by decide +kernel
theorem dX12_filter_49 : decode cX12_filter 49 = .ok (.aload_n 0, 1) := by decide +kernel
theorem dX12_filter_50 : decode cX12_filter 50 = .ok (.getfield 123, 3) := by decide +kernel
theorem dX12_filter_53 : decode cX12_filter 53 = .ok (.iload_n 3, 1) := by decide +kernel
theorem dX12_filter_54 : decode cX12_filter 54 = .ok (.iastore, 1) := by decide +kernel
theorem dX12_filter_55 : decode cX12_filter 55 = .ok (.aload_n 0, 1) := by decide +kernel
theorem dX12_filter_56 : decode cX12_filter 56 = .ok (.iconst 2, 1) := by decide +kernel
theorem dX12_filter_57 : decode cX12_filter 57 = .ok (.iload_n 1, 1) := by decide +kernel
theorem dX12_filter_58 : decode cX12_filter 58 = .ok (.iconst 0, 1) := by decide +kernel
theorem dX12_filter_59 : decode cX12_filter 59 = .ok (.aload_n 0, 1) := by decide +kernel
theorem dX12_filter_60 : decode cX12_filter 60 = .ok (.getfield 31, 3) := by decide +kernel
theorem dX12_filter_63 : decode cX12_filter 63 = .ok (.iload_n 1, 1) := by decide +kernel
theorem dX12_filter_64 : decode cX12_filter 64 = .ok (.iaload, 1) := by decide +kernel
theorem dX12_filter_65 : decode cX12_filter 65 = .ok (.aload_n 0, 1) := by decide +kernel
theorem dX12_filter_66 : decode cX12_filter 66 = .ok (.getfield 34, 3) := by decide +kernel
theorem dX12_filter_69 : decode cX12_filter 69 = .ok (.iload_n 1, 1) := by decide +kernel
theorem dX12_filter_70 : decode cX12_filter 70 = .ok (.iaload, 1) := by decide +kernel
theorem dX12_filter_71 : decode cX12_filter 71 = .ok (.invokevirtual 134, 3) := by decide +kernel
theorem dX12_filter_74 : decode cX12_filter 74 = .ok (.ireturn, 1) := by decide +kernel
theorem dX12_union_0 : decode cX12_union 0 = .ok (.aload_n 0, 1) := by decide +kernel
theorem dX12_union_1 : decode cX12_union 1 = .ok (.iload_n 1, 1) := by decide +kernel
theorem dX12_union_2 : decode cX12_union 2 = .ok (.invokevirtual 138, 3) := by decide +kernel
theorem dX12_union_5 : decode cX12_union 5 = .ok (.ifCond .eq 15, 3) := by decide +kernel
theorem dX12_union_8 : decode cX12_union 8 = .ok (.aload_n 0, 1) := by decide +kernel
theorem dX12_union_9 : decode cX12_union 9 = .ok (.iload_n 2, 1) := by decide +kernel
theorem dX12_union_10 : decode cX12_union 10 = .ok (.invokevirtual 138, 3) := by decide +kernel
theorem dX12_union_13 : decode cX12_union 13 = .ok (.ifCond .eq 7, 3) := by decide +kernel
theorem dX12_union_16 : decode cX12_union 16 = .ok (.iconst 1, 1) := by decide +kernel
theorem dX12_union_17 : decode cX12_union 17 = .ok (.goto 4, 3) := by decide +kernel
theorem dX12_union_20 : decode cX12_union 20 = .ok (.iconst 0, 1) := by decide +kernel
theorem dX12_union_21 : decode cX12_union 21 = .ok (.istore_n 3, 1) := by decide +kernel
theorem dX12_union_22 : decode cX12_union 22 = .ok (.iload_n 3, 1) := by decide +kernel
theorem dX12_union_23 : decode cX12_union 23 = .ok (.ifCond .eq 19, 3) := by decide +kernel
theorem dX12_union_26 : decode cX12_union 26 = .ok (.aload_n 0, 1) := by decide +kernel
theorem dX12_union_27 : decode cX12_union 27 = .ok (.getfield 31, 3) := by decide +kernel
theorem dX12_union_30 : decode cX12_union 30 = .ok (.iload_n 1, 1) := by decide +kernel
theorem dX12_union_31 : decode cX12_union 31 = .ok (.iaload, 1) := by decide +kernel
theorem dX12_union_32 : decode cX12_union 32 = .ok (.aload_n 0, 1) := by decide +kernel
theorem dX12_union_33 : decode cX12_union 33 = .ok (.getfield 31, 3) := by decide +kernel
theorem dX12_union_36 : decode cX12_union 36 = .ok (.iload_n 2, 1) := by decide +kernel
theorem dX12_union_37 : decode cX12_union 37 = .ok (.iaload, 1) := by decide +kernel
theorem dX12_union_38 : decode cX12_union 38 = .ok (.iadd, 1) := by decide +kernel
theorem dX12_union_39 : decode cX12_union 39 = .ok (.goto 4, 3) := by decide +kernel
theorem dX12_union_42 : decode cX12_union 42 = .ok (.iconst 0, 1) := by decide +kernel
theorem dX12_union_43 : decode cX12_union 43 = .ok (.istore 4, 2) := by decide +kernel
theorem dX12_union_45 : decode cX12_union 45 = .ok (.iload_n 3, 1) := by decide +kernel
theorem dX12_union_46 : decode cX12_union 46 = .ok (.ifCond .eq 19, 3) := by decide +kernel
theorem dX12_union_49 : decode cX12_union 49 = .ok (.aload_n 0, 1) := by decide +kernel
theorem dX12_union_50 : decode cX12_union 50 = .ok (.getfield 34, 3) := by decide +kernel
theorem dX12_union_53 : decode cX12_union 53 = .ok (.iload_n 1, 1) := by decide +kernel
theorem dX12_union_54 : decode cX12_union 54 = .ok (.iaload, 1) := by decide +kernel
theorem dX12_union_55 : decode cX12_union 55 = .ok (.aload_n 0, 1) := by decide +kernel
theorem dX12_union_56 : decode cX12_union 56 = .ok (.getfield 34, 3) := by decide +kernel
theorem dX12_union_59 : decode cX12_union 59 = .ok (.iload_n 2, 1) := by decide +kernel
theorem dX12_union_60 : decode cX12_union 60 = .ok (.iaload, 1) := by decide +kernel
theorem dX12_union_61 : decode cX12_union 61 = .ok (.iadd, 1) := by decide +kernel
theorem dX12_union_62 : decode cX12_union 62 = .ok (.goto 4, 3) := by decide +kernel
theorem dX12_union_65 : decode cX12_union 65 = .ok (.iconst 0, 1) := by decide +kernel
theorem dX12_union_66 : decode cX12_union 66 = .ok (.istore 5, 2) := by decide +kernel
theorem dX12_union_68 : decode cX12_union 68 = .ok (.aload_n 0, 1) := by decide +kernel
theorem dX12_union_69 : decode cX12_union 69 = .ok (.iload_n 3, 1) := by decide +kernel
theorem dX12_union_70 : decode cX12_union 70 = .ok (.ifCond .ne 7, 3) := by decide +kernel
theorem dX12_union_73 : decode cX12_union 73 = .ok (.iconst 1, 1) := by decide +kernel
theorem dX12_union_74 : decode cX12_union 74 = .ok (.goto 32, 3) := by decide +kernel
theorem dX12_union_77 : decode cX12_union 77 = .ok (.aload_n 0, 1) := by decide +kernel
theorem dX12_union_78 : decode cX12_union 78 = .ok (.getfield 123, 3) := by decide +kernel
theorem dX12_union_81 : decode cX12_union 81 = .ok (.bipush 14, 2) := by decide +kernel
theorem dX12_union_83 : decode cX12_union 83 = .ok (.if_icmp .eq 18, 3) := by decide +kernel
theorem dX12_union_86 : decode cX12_union 86 = .ok (.iload 4, 2) := by decide +kernel
theorem dX12_union_88 : decode cX12_union 88 = .ok (.sipush 300, 3) := by decide +kernel
theorem dX12_union_91 : decode cX12_union 91 = .ok (.if_icmp .gt 10, 3) := by decide +kernel
theorem dX12_union_94 : decode cX12_union 94 = .ok (.iload 5, 2) := by decide +kernel
theorem dX12_union_96 : decode cX12_union 96 = .ok (.bipush 8, 2) := by decide +kernel
theorem dX12_union_98 : decode cX12_union 98 = .ok (.if_icmp .le 7, 3) := by decide +kernel
theorem dX12_union_101 : decode cX12_union 101 = .ok (.iconst 2, 1) := by decide +kernel
theorem dX12_union_102 : decode cX12_union 102 = .ok (.goto 4, 3) := by decide +kernel
theorem dX12_union_105 : decode cX12_union 105 = .ok (.iconst 0, 1) := by decide +kernel
theorem dX12_union_106 : decode cX12_union 106 = .ok (.invokevirtual 130, 3) := by decide +kernel
theorem dX12_union_109 : decode cX12_union 109 = .ok (.ifCond .eq 5, 3) := by decide +kernel
theorem dX12_union_112 : decode cX12_union 112 = .ok (.iconst 0, 1) := by decide +kernel
theorem dX12_union_113 : decode cX12_union 113 = .ok (.ireturn, 1) := by decide +kernel
theorem dX12_union_114 : decode cX12_union 114 = .ok (.aload_n 0, 1) := by decide +kernel
theorem dX12_union_115 : decode cX12_union 115 = .ok (.iconst 3, 1) := by decide +kernel
theorem dX12_union_116 : decode cX12_union 116 = .ok (.iload_n 1, 1) := by decide +kernel
theorem dX12_union_117 : decode cX12_union 117 = .ok (.iload_n 2, 1) := by decide +kernel
theorem dX12_union_118 : decode cX12_union 118 = .ok (.iload 4, 2) := by decide +kernel
theorem dX12_union_120 : decode cX12_union 120 = .ok (.iload 5, 2) := by decide +kernel
theorem dX12_union_122 : decode cX12_union 122 = .ok (.invokevirtual 134, 3) := by decide +kernel
theorem dX12_union_125 : decode cX12_union 125 = .ok (.ireturn, 1) := by decide +kernel
theorem dX12_group_0 : decode cX12_group 0 = .ok (.iload_n 2, 1) := by decide +kernel
theorem dX12_group_1 : decode cX12_group 1 = .ok (.ifCond .lt 21, 3) := by decide +kernel
theorem dX12_group_4 : decode cX12_group 4 = .ok (.iload_n 2, 1) := by decide +kernel
theorem dX12_group_5 : decode cX12_group 5 = .ok (.iconst 4, 1) := by decide +kernel
theorem dX12_group_6 : decode cX12_group 6 = .ok (.if_icmp .ge 16, 3) := by decide +kernel
theorem dX12_group_9 : decode cX12_group 9 = .ok (.iload_n 3, 1) := by decide +kernel
theorem dX12_group_10 : decode cX12_group 10 = .ok (.ifCond .le 12, 3) := by decide +kernel
theorem dX12_group_13 : decode cX12_group 13 = .ok (.iload_n 3, 1) := by decide +kernel
theorem dX12_group_14 : decode cX12_group 14 = .ok (.iconst 5, 1) := by decide +kernel
theorem dX12_group_15 : decode cX12_group 15 = .ok (.if_icmp .ge 7, 3) := by decide +kernel
theorem dX12_group_18 : decode cX12_group 18 = .ok (.iconst 1, 1) := by decide +kernel
theorem dX12_group_19 : decode cX12_group 19 = .ok (.goto 4, 3) := by decide +kernel
theorem dX12_group_22 : decode cX12_group 22 = .ok (.iconst 0, 1) := by decide +kernel
theorem dX12_group_23 : decode cX12_group 23 = .ok (.istore 4, 2) := by decide +kernel
theorem dX12_group_25 : decode cX12_group 25 = .ok (.aload_n 0, 1) := by decide +kernel
theorem dX12_group_26 : decode cX12_group 26 = .ok (.aload_n 0, 1) := by decide +kernel
theorem dX12_group_27 : decode cX12_group 27 = .ok (.iload_n 1, 1) := by decide +kernel
theorem dX12_group_28 : decode cX12_group 28 = .ok (.invokevirtual 138, 3) := by decide +kernel
theorem dX12_group_31 : decode cX12_group 31 = .ok (.ifCond .ne 7, 3) := by decide +kernel
theorem dX12_group_34 : decode cX12_group 34 = .ok (.iconst 1, 1) := by decide +kernel
theorem dX12_group_35 : decode cX12_group 35 = .ok (.goto 26, 3) := by decide +kernel
theorem dX12_group_38 : decode cX12_group 38 = .ok (.iload 4, 2) := by decide +kernel
theorem dX12_group_40 : decode cX12_group 40 = .ok (.ifCond .ne 7, 3) := by decide +kernel
theorem dX12_group_43 : decode cX12_group 43 = .ok (.iconst 2, 1) := by decide +kernel
theorem dX12_group_44 : decode cX12_group 44 = .ok (.goto 17, 3) := by decide +kernel
theorem dX12_group_47 : decode cX12_group 47 = .ok (.aload_n 0, 1) := by decide +kernel
theorem dX12_group_48 : decode cX12_group 48 = .ok (.getfield 123, 3) := by decide +kernel
theorem dX12_group_51 : decode cX12_group 51 = .ok (.bipush 14, 2) := by decide +kernel
theorem dX12_group_53 : decode cX12_group 53 = .ok (.if_icmp .ne 7, 3) := by decide +kernel
theorem dX12_group_56 : decode cX12_group 56 = .ok (.iconst 3, 1) := by decide +kernel
theorem dX12_group_57 : decode cX12_group 57 = .ok (.goto 4, 3) := by decide +kernel
theorem dX12_group_60 : decode cX12_group 60 = .ok (.iconst 0, 1) := by decide +kernel
theorem dX12_group_61 : decode cX12_group 61 = .ok (.invokevirtual 130, 3) := by decide +kernel
theorem dX12_group_64 : decode cX12_group 64 = .ok (.ifCond .eq 5, 3) := by decide +kernel
theorem dX12_group_67 : decode cX12_group 67 = .ok (.iconst 0, 1) := by decide +kernel
theorem dX12_group_68 : decode cX12_group 68 = .ok (.ireturn, 1) := by decide +kernel
theorem dX12_group_69 : decode cX12_group 69 = .ok (.aload_n 0, 1) := by decide +kernel
theorem dX12_group_70 : decode cX12_group 70 = .ok (.getfield 19, 3) := by decide +kernel
theorem dX12_group_73 : decode cX12_group 73 = .ok (.aload_n 0, 1) := by decide +kernel
theorem dX12_group_74 : decode cX12_group 74 = .ok (.getfield 123, 3) := by decide +kernel
theorem dX12_group_77 : decode cX12_group 77 = .ok (.iload_n 2, 1) := by decide +kernel
theorem dX12_group_78 : decode cX12_group 78 = .ok (.iastore, 1) := by decide +kernel
theorem dX12_group_79 : decode cX12_group 79 = .ok (.aload_n 0, 1) := by decide +kernel
theorem dX12_group_80 : decode cX12_group 80 = .ok (.getfield 28, 3) := by decide +kernel
theorem dX12_group_83 : decode cX12_group 83 = .ok (.aload_n 0, 1) := by decide +kernel
theorem dX12_group_84 : decode cX12_group 84 = .ok (.getfield 123, 3) := by decide +kernel
theorem dX12_group_87 : decode cX12_group 87 = .ok (.iload_n 3, 1) := by decide +kernel
theorem dX12_group_88 : decode cX12_group 88 = .ok (.iastore, 1) := by decide +kernel
theorem dX12_group_89 : decode cX12_group 89 = .ok (.aload_n 0, 1) := by decide +kernel
theorem dX12_group_90 : decode cX12_group 90 = .ok (.iconst 4, 1) := by decide +kernel
theorem dX12_group_91 : decode cX12_group 91 = .ok (.iload_n 1, 1) := by decide +kernel
theorem dX12_group_92 : decode cX12_group 92 = .ok (.iconst 0, 1) := by decide +kernel
theorem dX12_group_93 : decode cX12_group 93 = .ok (.aload_n 0, 1) := by decide +kernel
theorem dX12_group_94 : decode cX12_group 94 = .ok (.getfield 31, 3) := by decide +kernel
theorem dX12_group_97 : decode cX12_group 97 = .ok (.iload_n 1, 1) := by decide +kernel
theorem dX12_group_98 : decode cX12_group 98 = .ok (.iaload, 1) := by decide +kernel
theorem dX12_group_99 : decode cX12_group 99 = .ok (.iload_n 3, 1) := by decide +kernel
theorem dX12_group_100 : decode cX12_group 100 = .ok (.invokevirtual 134, 3) := by decide +kernel
theorem dX12_group_103 : decode cX12_group 103 = .ok (.ireturn, 1) := by decide +kernel
theorem dX12_join_0 : decode cX12_join 0 = .ok (.aload_n 0, 1) := by decide +kernel
theorem dX12_join_1 : decode cX12_join 1 = .ok (.iload_n 1, 1) := by decide +kernel
theorem dX12_join_2 : decode cX12_join 2 = .ok (.invokevirtual 138, 3) := by decide +kernel
theorem dX12_join_5 : decode cX12_join 5 = .ok (.ifCond .eq 15, 3) := by decide +kernel
theorem dX12_join_8 : decode cX12_join 8 = .ok (.aload_n 0, 1) := by decide +kernel
theorem dX12_join_9 : decode cX12_join 9 = .ok (.iload_n 2, 1) := by decide +kernel
theorem dX12_join_10 : decode cX12_join 10 = .ok (.invokevirtual 138, 3) := by decide +kernel
theorem dX12_join_13 : decode cX12_join 13 = .ok (.ifCond .eq 7, 3) := by decide +kernel
theorem dX12_join_16 : decode cX12_join 16 = .ok (.iconst 1, 1) := by decide +kernel
theorem dX12_join_17 : decode cX12_join 17 = .ok (.goto 4, 3) := by decide +kernel
theorem dX12_join_20 : decode cX12_join 20 = .ok (.iconst 0, 1) := by decide +kernel
theorem dX12_join_21 : decode cX12_join 21 = .ok (.istore 4, 2) := by decide +kernel
theorem dX12_join_23 : decode cX12_join 23 = .ok (.iload 4, 2) := by decide +kernel
theorem dX12_join_25 : decode cX12_join 25 = .ok (.ifCond .eq 19, 3) := by decide +kernel
theorem dX12_join_28 : decode cX12_join 28 = .ok (.aload_n 0, 1) := by decide +kernel
theorem dX12_join_29 : decode cX12_join 29 = .ok (.getfield 31, 3) := by decide +kernel
theorem dX12_join_32 : decode cX12_join 32 = .ok (.iload_n 1, 1) := by decide +kernel
theorem dX12_join_33 : decode cX12_join 33 = .ok (.iaload, 1) := by decide +kernel
theorem dX12_join_34 : decode cX12_join 34 = .ok (.aload_n 0, 1) := by decide +kernel
theorem dX12_join_35 : decode cX12_join 35 = .ok (.getfield 31, 3) := by decide +kernel
theorem dX12_join_38 : decode cX12_join 38 = .ok (.iload_n 2, 1) := by decide +kernel
theorem dX12_join_39 : decode cX12_join 39 = .ok (.iaload, 1) := by decide +kernel
theorem dX12_join_40 : decode cX12_join 40 = .ok (.imul, 1) := by decide +kernel
theorem dX12_join_41 : decode cX12_join 41 = .ok (.goto 4, 3) := by decide +kernel
theorem dX12_join_44 : decode cX12_join 44 = .ok (.iconst 0, 1) := by decide +kernel
theorem dX12_join_45 : decode cX12_join 45 = .ok (.istore 5, 2) := by decide +kernel
theorem dX12_join_47 : decode cX12_join 47 = .ok (.aload_n 0, 1) := by decide +kernel
theorem dX12_join_48 : decode cX12_join 48 = .ok (.iload 4, 2) := by decide +kernel
theorem dX12_join_50 : decode cX12_join 50 = .ok (.ifCond .ne 7, 3) := by decide +kernel
theorem dX12_join_53 : decode cX12_join 53 = .ok (.iconst 1, 1) := by decide +kernel
theorem dX12_join_54 : decode cX12_join 54 = .ok (.goto 39, 3) := by decide +kernel
theorem dX12_join_57 : decode cX12_join 57 = .ok (.iload_n 3, 1) := by decide +kernel
theorem dX12_join_58 : decode cX12_join 58 = .ok (.iconst 1, 1) := by decide +kernel
theorem dX12_join_59 : decode cX12_join 59 = .ok (.if_icmp .lt 8, 3) := by decide +kernel
theorem dX12_join_62 : decode cX12_join 62 = .ok (.iload_n 3, 1) := by decide +kernel
theorem dX12_join_63 : decode cX12_join 63 = .ok (.iconst 4, 1) := by decide +kernel
theorem dX12_join_64 : decode cX12_join 64 = .ok (.if_icmp .le 7, 3) := by decide +kernel
theorem dX12_join_67 : decode cX12_join 67 = .ok (.iconst 2, 1) := by decide +kernel
theorem dX12_join_68 : decode cX12_join 68 = .ok (.goto 25, 3) := by decide +kernel
theorem dX12_join_71 : decode cX12_join 71 = .ok (.aload_n 0, 1) := by decide +kernel
theorem dX12_join_72 : decode cX12_join 72 = .ok (.getfield 123, 3) := by decide +kernel
theorem dX12_join_75 : decode cX12_join 75 = .ok (.bipush 14, 2) := by decide +kernel
theorem dX12_join_77 : decode cX12_join 77 = .ok (.if_icmp .eq 11, 3) := by decide +kernel
theorem dX12_join_80 : decode cX12_join 80 = .ok (.iload 5, 2) := by decide +kernel
theorem dX12_join_82 : decode cX12_join 82 = .ok (.sipush 300, 3) := by decide +kernel
theorem dX12_join_85 : decode cX12_join 85 = .ok (.if_icmp .le 7, 3) := by decide +kernel
theorem dX12_join_88 : decode cX12_join 88 = .ok (.iconst 3, 1) := by decide +kernel
theorem dX12_join_89 : decode cX12_join 89 = .ok (.goto 4, 3) := by decide +kernel
theorem dX12_join_92 : decode cX12_join 92 = .ok (.iconst 0, 1) := by decide +kernel
theorem dX12_join_93 : decode cX12_join 93 = .ok (.invokevirtual 130, 3) := by decide +kernel
theorem dX12_join_96 : decode cX12_join 96 = .ok (.ifCond .eq 5, 3) := by decide +kernel
theorem dX12_join_99 : decode cX12_join 99 = .ok (.iconst 0, 1) := by decide +kernel
theorem dX12_join_100 : decode cX12_join 100 = .ok (.ireturn, 1) := by decide +kernel
theorem dX12_join_101 : decode cX12_join 101 = .ok (.aload_n 0, 1) := by decide +kernel
theorem dX12_join_102 : decode cX12_join 102 = .ok (.getfield 28, 3) := by decide +kernel
theorem dX12_join_105 : decode cX12_join 105 = .ok (.aload_n 0, 1) := by decide +kernel
theorem dX12_join_106 : decode cX12_join 106 = .ok (.getfield 123, 3) := by decide +kernel
theorem dX12_join_109 : decode cX12_join 109 = .ok (.iload_n 3, 1) := by decide +kernel
theorem dX12_join_110 : decode cX12_join 110 = .ok (.iastore, 1) := by decide +kernel
theorem dX12_join_111 : decode cX12_join 111 = .ok (.aload_n 0, 1) := by decide +kernel
theorem dX12_join_112 : decode cX12_join 112 = .ok (.iconst 5, 1) := by decide +kernel
theorem dX12_join_113 : decode cX12_join 113 = .ok (.iload_n 1, 1) := by decide +kernel
theorem dX12_join_114 : decode cX12_join 114 = .ok (.iload_n 2, 1) := by decide +kernel
theorem dX12_join_115 : decode cX12_join 115 = .ok (.iload 5, 2) := by decide +kernel
theorem dX12_join_117 : decode cX12_join 117 = .ok (.iload_n 3, 1) := by decide +kernel
theorem dX12_join_118 : decode cX12_join 118 = .ok (.aload_n 0, 1) := by decide +kernel
theorem dX12_join_119 : decode cX12_join 119 = .ok (.getfield 34, 3) := by decide +kernel
theorem dX12_join_122 : decode cX12_join 122 = .ok (.iload_n 1, 1) := by decide +kernel
theorem dX12_join_123 : decode cX12_join 123 = .ok (.iaload, 1) := by decide +kernel
theorem dX12_join_124 : decode cX12_join 124 = .ok (.if_icmp .le 7, 3) := by decide +kernel
theorem dX12_join_127 : decode cX12_join 127 = .ok (.iload_n 3, 1) := by decide +kernel
theorem dX12_join_128 : decode cX12_join 128 = .ok (.goto 9, 3) := by decide +kernel
theorem dX12_join_131 : decode cX12_join 131 = .ok (.aload_n 0, 1) := by decide +kernel
theorem dX12_join_132 : decode cX12_join 132 = .ok (.getfield 34, 3) := by decide +kernel
theorem dX12_join_135 : decode cX12_join 135 = .ok (.iload_n 1, 1) := by decide +kernel
theorem dX12_join_136 : decode cX12_join 136 = .ok (.iaload, 1) := by decide +kernel
theorem dX12_join_137 : decode cX12_join 137 = .ok (.invokevirtual 134, 3) := by decide +kernel
theorem dX12_join_140 : decode cX12_join 140 = .ok (.ireturn, 1) := by decide +kernel
theorem dX12_nodes_0 : decode cX12_nodes 0 = .ok (.aload_n 0, 1) := by decide +kernel
theorem dX12_nodes_1 : decode cX12_nodes 1 = .ok (.aload_n 0, 1) := by decide +kernel
theorem dX12_nodes_2 : decode cX12_nodes 2 = .ok (.getfield 123, 3) := by decide +kernel
theorem dX12_nodes_5 : decode cX12_nodes 5 = .ok (.invokevirtual 144, 3) := by decide +kernel
theorem dX12_nodes_8 : decode cX12_nodes 8 = .ok (.ireturn, 1) := by decide +kernel
theorem dX12_share_0 : decode cX12_share 0 = .ok (.iload_n 0, 1) := by decide +kernel
theorem dX12_share_1 : decode cX12_share 1 = .ok (.iload_n 1, 1) := by decide +kernel
theorem dX12_share_2 : decode cX12_share 2 = .ok (.irem, 1) := by decide +kernel
theorem dX12_share_3 : decode cX12_share 3 = .ok (.istore_n 2, 1) := by decide +kernel
theorem dX12_share_4 : decode cX12_share 4 = .ok (.iload_n 2, 1) := by decide +kernel
theorem dX12_share_5 : decode cX12_share 5 = .ok (.ifCond .ge 9, 3) := by decide +kernel
theorem dX12_share_8 : decode cX12_share 8 = .ok (.iload_n 2, 1) := by decide +kernel
theorem dX12_share_9 : decode cX12_share 9 = .ok (.iload_n 1, 1) := by decide +kernel
theorem dX12_share_10 : decode cX12_share 10 = .ok (.iadd, 1) := by decide +kernel
theorem dX12_share_11 : decode cX12_share 11 = .ok (.goto 4, 3) := by decide +kernel
theorem dX12_share_14 : decode cX12_share 14 = .ok (.iload_n 2, 1) := by decide +kernel
theorem dX12_share_15 : decode cX12_share 15 = .ok (.ireturn, 1) := by decide +kernel
theorem dX12_at_0 : decode cX12_at 0 = .ok (.aload_n 0, 1) := by decide +kernel
theorem dX12_at_1 : decode cX12_at 1 = .ok (.getfield 49, 3) := by decide +kernel
theorem dX12_at_4 : decode cX12_at 4 = .ok (.bipush 9, 2) := by decide +kernel
theorem dX12_at_6 : decode cX12_at 6 = .ok (.iload_n 1, 1) := by decide +kernel
theorem dX12_at_7 : decode cX12_at 7 = .ok (.imul, 1) := by decide +kernel
theorem dX12_at_8 : decode cX12_at 8 = .ok (.iload_n 2, 1) := by decide +kernel
theorem dX12_at_9 : decode cX12_at 9 = .ok (.iadd, 1) := by decide +kernel
theorem dX12_at_10 : decode cX12_at 10 = .ok (.iaload, 1) := by decide +kernel
theorem dX12_at_11 : decode cX12_at 11 = .ok (.ireturn, 1) := by decide +kernel
theorem dX12_all_0 : decode cX12_all 0 = .ok (.aload_n 0, 1) := by decide +kernel
theorem dX12_all_1 : decode cX12_all 1 = .ok (.iload_n 1, 1) := by decide +kernel
theorem dX12_all_2 : decode cX12_all 2 = .ok (.aload_n 0, 1) := by decide +kernel
theorem dX12_all_3 : decode cX12_all 3 = .ok (.getfield 46, 3) := by decide +kernel
theorem dX12_all_6 : decode cX12_all 6 = .ok (.iload_n 1, 1) := by decide +kernel
theorem dX12_all_7 : decode cX12_all 7 = .ok (.iaload, 1) := by decide +kernel
theorem dX12_all_8 : decode cX12_all 8 = .ok (.invokevirtual 148, 3) := by decide +kernel
theorem dX12_all_11 : decode cX12_all 11 = .ok (.ireturn, 1) := by decide +kernel
theorem dX12_isBroadly_0 : decode cX12_isBroadly 0 = .ok (.aload_n 0, 1) := by decide +kernel
theorem dX12_isBroadly_1 : decode cX12_isBroadly 1 = .ok (.aload_n 0, 1) := by decide +kernel
theorem dX12_isBroadly_2 : decode cX12_isBroadly 2 = .ok (.getfield 16, 3) := by decide +kernel
theorem dX12_isBroadly_5 : decode cX12_isBroadly 5 = .ok (.iload_n 1, 1) := by decide +kernel
theorem dX12_isBroadly_6 : decode cX12_isBroadly 6 = .ok (.iaload, 1) := by decide +kernel
theorem dX12_isBroadly_7 : decode cX12_isBroadly 7 = .ok (.invokevirtual 152, 3) := by decide +kernel
theorem dX12_isBroadly_10 : decode cX12_isBroadly 10 = .ok (.aload_n 0, 1) := by decide +kernel
theorem dX12_isBroadly_11 : decode cX12_isBroadly 11 = .ok (.getfield 58, 3) := by decide +kernel
theorem dX12_isBroadly_14 : decode cX12_isBroadly 14 = .ok (.if_icmp .gt 7, 3) := by decide +kernel
theorem dX12_isBroadly_17 : decode cX12_isBroadly 17 = .ok (.iconst 1, 1) := by decide +kernel
theorem dX12_isBroadly_18 : decode cX12_isBroadly 18 = .ok (.goto 4, 3) := by decide +kernel
theorem dX12_isBroadly_21 : decode cX12_isBroadly 21 = .ok (.iconst 0, 1) := by decide +kernel
theorem dX12_isBroadly_22 : decode cX12_isBroadly 22 = .ok (.ireturn, 1) := by decide +kernel
theorem dX12_adds_0 : decode cX12_adds 0 = .ok (.aload_n 0, 1) := by decide +kernel
theorem dX12_adds_1 : decode cX12_adds 1 = .ok (.getfield 52, 3) := by decide +kernel
theorem dX12_adds_4 : decode cX12_adds 4 = .ok (.sipush 300, 3) := by decide +kernel
theorem dX12_adds_7 : decode cX12_adds 7 = .ok (.iload_n 1, 1) := by decide +kernel
theorem dX12_adds_8 : decode cX12_adds 8 = .ok (.imul, 1) := by decide +kernel
theorem dX12_adds_9 : decode cX12_adds 9 = .ok (.iload_n 2, 1) := by decide +kernel
theorem dX12_adds_10 : decode cX12_adds 10 = .ok (.iadd, 1) := by decide +kernel
theorem dX12_adds_11 : decode cX12_adds 11 = .ok (.iload_n 3, 1) := by decide +kernel
theorem dX12_adds_12 : decode cX12_adds 12 = .ok (.iastore, 1) := by decide +kernel
theorem dX12_adds_13 : decode cX12_adds 13 = .ok (.aload_n 0, 1) := by decide +kernel
theorem dX12_adds_14 : decode cX12_adds 14 = .ok (.getfield 55, 3) := by decide +kernel
theorem dX12_adds_17 : decode cX12_adds 17 = .ok (.sipush 300, 3) := by decide +kernel
theorem dX12_adds_20 : decode cX12_adds 20 = .ok (.iload_n 1, 1) := by decide +kernel
theorem dX12_adds_21 : decode cX12_adds 21 = .ok (.imul, 1) := by decide +kernel
theorem dX12_adds_22 : decode cX12_adds 22 = .ok (.iload_n 2, 1) := by decide +kernel
theorem dX12_adds_23 : decode cX12_adds 23 = .ok (.iadd, 1) := by decide +kernel
theorem dX12_adds_24 : decode cX12_adds 24 = .ok (.iload 4, 2) := by decide +kernel
theorem dX12_adds_26 : decode cX12_adds 26 = .ok (.iastore, 1) := by decide +kernel
theorem dX12_adds_27 : decode cX12_adds 27 = .ok (.return_, 1) := by decide +kernel
theorem dX12_holdsSource_0 : decode cX12_holdsSource 0 = .ok (.aload_n 0, 1) := by decide +kernel
theorem dX12_holdsSource_1 : decode cX12_holdsSource 1 = .ok (.getfield 46, 3) := by decide +kernel
theorem dX12_holdsSource_4 : decode cX12_holdsSource 4 = .ok (.iload_n 1, 1) := by decide +kernel
theorem dX12_holdsSource_5 : decode cX12_holdsSource 5 = .ok (.aload_n 0, 1) := by decide +kernel
theorem dX12_holdsSource_6 : decode cX12_holdsSource 6 = .ok (.getfield 28, 3) := by decide +kernel
theorem dX12_holdsSource_9 : decode cX12_holdsSource 9 = .ok (.iload_n 1, 1) := by decide +kernel
theorem dX12_holdsSource_10 : decode cX12_holdsSource 10 = .ok (.iaload, 1) := by decide +kernel
theorem dX12_holdsSource_11 : decode cX12_holdsSource 11 = .ok (.iastore, 1) := by decide +kernel
theorem dX12_holdsSource_12 : decode cX12_holdsSource 12 = .ok (.iconst 0, 1) := by decide +kernel
theorem dX12_holdsSource_13 : decode cX12_holdsSource 13 = .ok (.istore_n 2, 1) := by decide +kernel
theorem dX12_holdsSource_14 : decode cX12_holdsSource 14 = .ok (.iconst 0, 1) := by decide +kernel
theorem dX12_holdsSource_15 : decode cX12_holdsSource 15 = .ok (.istore_n 3, 1) := by decide +kernel
theorem dX12_holdsSource_16 : decode cX12_holdsSource 16 = .ok (.iload_n 3, 1) := by decide +kernel
theorem dX12_holdsSource_17 : decode cX12_holdsSource 17 = .ok (.aload_n 0, 1) := by decide +kernel
theorem dX12_holdsSource_18 : decode cX12_holdsSource 18 = .ok (.getfield 28, 3) := by decide +kernel
theorem dX12_holdsSource_21 : decode cX12_holdsSource 21 = .ok (.iload_n 1, 1) := by decide +kernel
theorem dX12_holdsSource_22 : decode cX12_holdsSource 22 = .ok (.iaload, 1) := by decide +kernel
theorem dX12_holdsSource_23 : decode cX12_holdsSource 23 = .ok (.if_icmp .ge 82, 3) := by decide +kernel
theorem dX12_holdsSource_26 : decode cX12_holdsSource 26 = .ok (.aload_n 0, 1) := by decide +kernel
theorem dX12_holdsSource_27 : decode cX12_holdsSource 27 = .ok (.getfield 49, 3) := by decide +kernel
theorem dX12_holdsSource_30 : decode cX12_holdsSource 30 = .ok (.bipush 9, 2) := by decide +kernel
theorem dX12_holdsSource_32 : decode cX12_holdsSource 32 = .ok (.iload_n 1, 1) := by decide +kernel
theorem dX12_holdsSource_33 : decode cX12_holdsSource 33 = .ok (.imul, 1) := by decide +kernel
theorem dX12_holdsSource_34 : decode cX12_holdsSource 34 = .ok (.iload_n 3, 1) := by decide +kernel
theorem dX12_holdsSource_35 : decode cX12_holdsSource 35 = .ok (.iadd, 1) := by decide +kernel
theorem dX12_holdsSource_36 : decode cX12_holdsSource 36 = .ok (.iload_n 2, 1) := by decide +kernel
theorem dX12_holdsSource_37 : decode cX12_holdsSource 37 = .ok (.iastore, 1) := by decide +kernel
theorem dX12_holdsSource_38 : decode cX12_holdsSource 38 = .ok (.iload_n 3, 1) := by decide +kernel
theorem dX12_holdsSource_39 : decode cX12_holdsSource 39 = .ok (.istore 4, 2) := by decide +kernel
theorem dX12_holdsSource_41 : decode cX12_holdsSource 41 = .ok (.iload 4, 2) := by decide +kernel
theorem dX12_holdsSource_43 : decode cX12_holdsSource 43 = .ok (.aload_n 0, 1) := by decide +kernel
theorem dX12_holdsSource_44 : decode cX12_holdsSource 44 = .ok (.getfield 37, 3) := by decide +kernel
theorem dX12_holdsSource_47 : decode cX12_holdsSource 47 = .ok (.iload_n 1, 1) := by decide +kernel
theorem dX12_holdsSource_48 : decode cX12_holdsSource 48 = .ok (.iaload, 1) := by decide +kernel
theorem dX12_holdsSource_49 : decode cX12_holdsSource 49 = .ok (.if_icmp .ge 50, 3) := by decide +kernel
theorem dX12_holdsSource_52 : decode cX12_holdsSource 52 = .ok (.aload_n 0, 1) := by decide +kernel
theorem dX12_holdsSource_53 : decode cX12_holdsSource 53 = .ok (.iload_n 1, 1) := by decide +kernel
theorem dX12_holdsSource_54 : decode cX12_holdsSource 54 = .ok (.iload_n 2, 1) := by decide +kernel
theorem dX12_holdsSource_55 : decode cX12_holdsSource 55 = .ok (.aload_n 0, 1) := by decide +kernel
theorem dX12_holdsSource_56 : decode cX12_holdsSource 56 = .ok (.getfield 40, 3) := by decide +kernel
theorem dX12_holdsSource_59 : decode cX12_holdsSource 59 = .ok (.bipush 12, 2) := by decide +kernel
theorem dX12_holdsSource_61 : decode cX12_holdsSource 61 = .ok (.iload_n 1, 1) := by decide +kernel
theorem dX12_holdsSource_62 : decode cX12_holdsSource 62 = .ok (.imul, 1) := by decide +kernel
theorem dX12_holdsSource_63 : decode cX12_holdsSource 63 = .ok (.iload 4, 2) := by decide +kernel
theorem dX12_holdsSource_65 : decode cX12_holdsSource 65 = .ok (.iadd, 1) := by decide +kernel
theorem dX12_holdsSource_66 : decode cX12_holdsSource 66 = .ok (.iaload, 1) := by decide +kernel
theorem dX12_holdsSource_67 : decode cX12_holdsSource 67 = .ok (.aload_n 0, 1) := by decide +kernel
theorem dX12_holdsSource_68 : decode cX12_holdsSource 68 = .ok (.getfield 43, 3) := by decide +kernel
theorem dX12_holdsSource_71 : decode cX12_holdsSource 71 = .ok (.bipush 12, 2) := by decide +kernel
theorem dX12_holdsSource_73 : decode cX12_holdsSource 73 = .ok (.iload_n 1, 1) := by decide +kernel
theorem dX12_holdsSource_74 : decode cX12_holdsSource 74 = .ok (.imul, 1) := by decide +kernel
theorem dX12_holdsSource_75 : decode cX12_holdsSource 75 = .ok (.iload 4, 2) := by decide +kernel
theorem dX12_holdsSource_77 : decode cX12_holdsSource 77 = .ok (.iadd, 1) := by decide +kernel
theorem dX12_holdsSource_78 : decode cX12_holdsSource 78 = .ok (.iaload, 1) := by decide +kernel
theorem dX12_holdsSource_79 : decode cX12_holdsSource 79 = .ok (.invokevirtual 155, 3) := by decide +kernel
theorem dX12_holdsSource_82 : decode cX12_holdsSource 82 = .ok (.iinc 2 1, 3) := by decide +kernel
theorem dX12_holdsSource_85 : decode cX12_holdsSource 85 = .ok (.iload 4, 2) := by decide +kernel
theorem dX12_holdsSource_87 : decode cX12_holdsSource 87 = .ok (.aload_n 0, 1) := by decide +kernel
theorem dX12_holdsSource_88 : decode cX12_holdsSource 88 = .ok (.getfield 28, 3) := by decide +kernel
theorem dX12_holdsSource_91 : decode cX12_holdsSource 91 = .ok (.iload_n 1, 1) := by decide +kernel
theorem dX12_holdsSource_92 : decode cX12_holdsSource 92 = .ok (.iaload, 1) := by decide +kernel
theorem dX12_holdsSource_93 : decode cX12_holdsSource 93 = .ok (.iadd, 1) := by decide +kernel
theorem dX12_holdsSource_94 : decode cX12_holdsSource 94 = .ok (.istore 4, 2) := by decide +kernel
theorem dX12_holdsSource_96 : decode cX12_holdsSource 96 = .ok (.goto (-55), 3) := by decide +kernel
theorem dX12_holdsSource_99 : decode cX12_holdsSource 99 = .ok (.iinc 3 1, 3) := by decide +kernel
theorem dX12_holdsSource_102 : decode cX12_holdsSource 102 = .ok (.goto (-86), 3) := by decide +kernel
theorem dX12_holdsSource_105 : decode cX12_holdsSource 105 = .ok (.aload_n 0, 1) := by decide +kernel
theorem dX12_holdsSource_106 : decode cX12_holdsSource 106 = .ok (.getfield 49, 3) := by decide +kernel
theorem dX12_holdsSource_109 : decode cX12_holdsSource 109 = .ok (.bipush 9, 2) := by decide +kernel
theorem dX12_holdsSource_111 : decode cX12_holdsSource 111 = .ok (.iload_n 1, 1) := by decide +kernel
theorem dX12_holdsSource_112 : decode cX12_holdsSource 112 = .ok (.imul, 1) := by decide +kernel
theorem dX12_holdsSource_113 : decode cX12_holdsSource 113 = .ok (.aload_n 0, 1) := by decide +kernel
theorem dX12_holdsSource_114 : decode cX12_holdsSource 114 = .ok (.getfield 28, 3) := by decide +kernel
theorem dX12_holdsSource_117 : decode cX12_holdsSource 117 = .ok (.iload_n 1, 1) := by decide +kernel
theorem dX12_holdsSource_118 : decode cX12_holdsSource 118 = .ok (.iaload, 1) := by decide +kernel
theorem dX12_holdsSource_119 : decode cX12_holdsSource 119 = .ok (.iadd, 1) := by decide +kernel
theorem dX12_holdsSource_120 : decode cX12_holdsSource 120 = .ok (.iload_n 2, 1) := by decide +kernel
theorem dX12_holdsSource_121 : decode cX12_holdsSource 121 = .ok (.iastore, 1) := by decide +kernel
theorem dX12_holdsSource_122 : decode cX12_holdsSource 122 = .ok (.return_, 1) := by decide +kernel
theorem dX12_holdsMapped_0 : decode cX12_holdsMapped 0 = .ok (.aload_n 0, 1) := by decide +kernel
theorem dX12_holdsMapped_1 : decode cX12_holdsMapped 1 = .ok (.getfield 13, 3) := by decide +kernel
theorem dX12_holdsMapped_4 : decode cX12_holdsMapped 4 = .ok (.iload_n 1, 1) := by decide +kernel
theorem dX12_holdsMapped_5 : decode cX12_holdsMapped 5 = .ok (.iaload, 1) := by decide +kernel
theorem dX12_holdsMapped_6 : decode cX12_holdsMapped 6 = .ok (.istore_n 2, 1) := by decide +kernel
theorem dX12_holdsMapped_7 : decode cX12_holdsMapped 7 = .ok (.aload_n 0, 1) := by decide +kernel
theorem dX12_holdsMapped_8 : decode cX12_holdsMapped 8 = .ok (.getfield 22, 3) := by decide +kernel
theorem dX12_holdsMapped_11 : decode cX12_holdsMapped 11 = .ok (.iload_n 1, 1) := by decide +kernel
theorem dX12_holdsMapped_12 : decode cX12_holdsMapped 12 = .ok (.iaload, 1) := by decide +kernel
theorem dX12_holdsMapped_13 : decode cX12_holdsMapped 13 = .ok (.istore_n 3, 1) := by decide +kernel
theorem dX12_holdsMapped_14 : decode cX12_holdsMapped 14 = .ok (.aload_n 0, 1) := by decide +kernel
theorem dX12_holdsMapped_15 : decode cX12_holdsMapped 15 = .ok (.getfield 46, 3) := by decide +kernel
theorem dX12_holdsMapped_18 : decode cX12_holdsMapped 18 = .ok (.iload_n 1, 1) := by decide +kernel
theorem dX12_holdsMapped_19 : decode cX12_holdsMapped 19 = .ok (.aload_n 0, 1) := by decide +kernel
theorem dX12_holdsMapped_20 : decode cX12_holdsMapped 20 = .ok (.getfield 46, 3) := by decide +kernel
theorem dX12_holdsMapped_23 : decode cX12_holdsMapped 23 = .ok (.iload_n 2, 1) := by decide +kernel
theorem dX12_holdsMapped_24 : decode cX12_holdsMapped 24 = .ok (.iaload, 1) := by decide +kernel
theorem dX12_holdsMapped_25 : decode cX12_holdsMapped 25 = .ok (.iastore, 1) := by decide +kernel
theorem dX12_holdsMapped_26 : decode cX12_holdsMapped 26 = .ok (.iconst 0, 1) := by decide +kernel
theorem dX12_holdsMapped_27 : decode cX12_holdsMapped 27 = .ok (.istore 4, 2) := by decide +kernel
theorem dX12_holdsMapped_29 : decode cX12_holdsMapped 29 = .ok (.iconst 0, 1) := by decide +kernel
theorem dX12_holdsMapped_30 : decode cX12_holdsMapped 30 = .ok (.istore 5, 2) := by decide +kernel
theorem dX12_holdsMapped_32 : decode cX12_holdsMapped 32 = .ok (.iload 5, 2) := by decide +kernel
theorem dX12_holdsMapped_34 : decode cX12_holdsMapped 34 = .ok (.aload_n 0, 1) := by decide +kernel
theorem dX12_holdsMapped_35 : decode cX12_holdsMapped 35 = .ok (.getfield 46, 3) := by decide +kernel
theorem dX12_holdsMapped_38 : decode cX12_holdsMapped 38 = .ok (.iload_n 1, 1) := by decide +kernel
theorem dX12_holdsMapped_39 : decode cX12_holdsMapped 39 = .ok (.iaload, 1) := by decide +kernel
theorem dX12_holdsMapped_40 : decode cX12_holdsMapped 40 = .ok (.if_icmp .ge 230, 3) := by decide +kernel
theorem dX12_holdsMapped_43 : decode cX12_holdsMapped 43 = .ok (.aload_n 0, 1) := by decide +kernel
theorem dX12_holdsMapped_44 : decode cX12_holdsMapped 44 = .ok (.getfield 49, 3) := by decide +kernel
theorem dX12_holdsMapped_47 : decode cX12_holdsMapped 47 = .ok (.bipush 9, 2) := by decide +kernel
theorem dX12_holdsMapped_49 : decode cX12_holdsMapped 49 = .ok (.iload_n 1, 1) := by decide +kernel
theorem dX12_holdsMapped_50 : decode cX12_holdsMapped 50 = .ok (.imul, 1) := by decide +kernel
theorem dX12_holdsMapped_51 : decode cX12_holdsMapped 51 = .ok (.iload 5, 2) := by decide +kernel
theorem dX12_holdsMapped_53 : decode cX12_holdsMapped 53 = .ok (.iadd, 1) := by decide +kernel
theorem dX12_holdsMapped_54 : decode cX12_holdsMapped 54 = .ok (.iload 4, 2) := by decide +kernel
theorem dX12_holdsMapped_56 : decode cX12_holdsMapped 56 = .ok (.iastore, 1) := by decide +kernel
theorem dX12_holdsMapped_57 : decode cX12_holdsMapped 57 = .ok (.sipush 300, 3) := by decide +kernel
theorem dX12_holdsMapped_60 : decode cX12_holdsMapped 60 = .ok (.iload_n 2, 1) := by decide +kernel
theorem dX12_holdsMapped_61 : decode cX12_holdsMapped 61 = .ok (.imul, 1) := by decide +kernel
theorem dX12_holdsMapped_62 : decode cX12_holdsMapped 62 = .ok (.aload_n 0, 1) := by decide +kernel
theorem dX12_holdsMapped_63 : decode cX12_holdsMapped 63 = .ok (.iload_n 2, 1) := by decide +kernel
theorem dX12_holdsMapped_64 : decode cX12_holdsMapped 64 = .ok (.iload 5, 2) := by decide +kernel
theorem dX12_holdsMapped_66 : decode cX12_holdsMapped 66 = .ok (.invokevirtual 148, 3) := by decide +kernel
theorem dX12_holdsMapped_69 : decode cX12_holdsMapped 69 = .ok (.iadd, 1) := by decide +kernel
theorem dX12_holdsMapped_70 : decode cX12_holdsMapped 70 = .ok (.istore 6, 2) := by decide +kernel
theorem dX12_holdsMapped_72 : decode cX12_holdsMapped 72 = .ok (.iload 6, 2) := by decide +kernel
theorem dX12_holdsMapped_74 : decode cX12_holdsMapped 74 = .ok (.sipush 300, 3) := by decide +kernel
theorem dX12_holdsMapped_77 : decode cX12_holdsMapped 77 = .ok (.iload_n 2, 1) := by decide +kernel
theorem dX12_holdsMapped_78 : decode cX12_holdsMapped 78 = .ok (.imul, 1) := by decide +kernel
theorem dX12_holdsMapped_79 : decode cX12_holdsMapped 79 = .ok (.aload_n 0, 1) := by decide +kernel
theorem dX12_holdsMapped_80 : decode cX12_holdsMapped 80 = .ok (.iload_n 2, 1) := by decide +kernel
theorem dX12_holdsMapped_81 : decode cX12_holdsMapped 81 = .ok (.iload 5, 2) := by decide +kernel
theorem dX12_holdsMapped_83 : decode cX12_holdsMapped 83 = .ok (.iconst 1, 1) := by decide +kernel
theorem dX12_holdsMapped_84 : decode cX12_holdsMapped 84 = .ok (.iadd, 1) := by decide +kernel
theorem dX12_holdsMapped_85 : decode cX12_holdsMapped 85 = .ok (.invokevirtual 148, 3) := by decide +kernel
theorem dX12_holdsMapped_88 : decode cX12_holdsMapped 88 = .ok (.iadd, 1) := by decide +kernel
theorem dX12_holdsMapped_89 : decode cX12_holdsMapped 89 = .ok (.if_icmp .ge 175, 3) := by decide +kernel
theorem dX12_holdsMapped_92 : decode cX12_holdsMapped 92 = .ok (.aload_n 0, 1) := by decide +kernel
theorem dX12_holdsMapped_93 : decode cX12_holdsMapped 93 = .ok (.getfield 52, 3) := by decide +kernel
theorem dX12_holdsMapped_96 : decode cX12_holdsMapped 96 = .ok (.iload 6, 2) := by decide +kernel
theorem dX12_holdsMapped_98 : decode cX12_holdsMapped 98 = .ok (.iaload, 1) := by decide +kernel
theorem dX12_holdsMapped_99 : decode cX12_holdsMapped 99 = .ok (.istore 7, 2) := by decide +kernel
theorem dX12_holdsMapped_101 : decode cX12_holdsMapped 101 = .ok (.aload_n 0, 1) := by decide +kernel
theorem dX12_holdsMapped_102 : decode cX12_holdsMapped 102 = .ok (.getfield 55, 3) := by decide +kernel
theorem dX12_holdsMapped_105 : decode cX12_holdsMapped 105 = .ok (.iload 6, 2) := by decide +kernel
theorem dX12_holdsMapped_107 : decode cX12_holdsMapped 107 = .ok (.iaload, 1) := by decide +kernel
theorem dX12_holdsMapped_108 : decode cX12_holdsMapped 108 = .ok (.istore 8, 2) := by decide +kernel
theorem dX12_holdsMapped_110 : decode cX12_holdsMapped 110 = .ok (.aload_n 0, 1) := by decide +kernel
theorem dX12_holdsMapped_111 : decode cX12_holdsMapped 111 = .ok (.getfield 7, 3) := by decide +kernel
theorem dX12_holdsMapped_114 : decode cX12_holdsMapped 114 = .ok (.iload_n 1, 1) := by decide +kernel
theorem dX12_holdsMapped_115 : decode cX12_holdsMapped 115 = .ok (.iaload, 1) := by decide +kernel
theorem dX12_holdsMapped_116 : decode cX12_holdsMapped 116 = .ok (.iconst 2, 1) := by decide +kernel
theorem dX12_holdsMapped_117 : decode cX12_holdsMapped 117 = .ok (.if_icmp .ne 44, 3) := by decide +kernel
theorem dX12_holdsMapped_120 : decode cX12_holdsMapped 120 = .ok (.aload_n 0, 1) := by decide +kernel
theorem dX12_holdsMapped_121 : decode cX12_holdsMapped 121 = .ok (.iload_n 1, 1) := by decide +kernel
theorem dX12_holdsMapped_122 : decode cX12_holdsMapped 122 = .ok (.iload 4, 2) := by decide +kernel
theorem dX12_holdsMapped_124 : decode cX12_holdsMapped 124 = .ok (.iload 7, 2) := by decide +kernel
theorem dX12_holdsMapped_126 : decode cX12_holdsMapped 126 = .ok (.iload 8, 2) := by decide +kernel
theorem dX12_holdsMapped_128 : decode cX12_holdsMapped 128 = .ok (.invokevirtual 155, 3) := by decide +kernel
theorem dX12_holdsMapped_131 : decode cX12_holdsMapped 131 = .ok (.iload 4, 2) := by decide +kernel
theorem dX12_holdsMapped_133 : decode cX12_holdsMapped 133 = .ok (.iload 8, 2) := by decide +kernel
theorem dX12_holdsMapped_135 : decode cX12_holdsMapped 135 = .ok (.iload_n 3, 1) := by decide +kernel
theorem dX12_holdsMapped_136 : decode cX12_holdsMapped 136 = .ok (.if_icmp .lt 18, 3) := by decide +kernel
theorem dX12_holdsMapped_139 : decode cX12_holdsMapped 139 = .ok (.iload 8, 2) := by decide +kernel
theorem dX12_holdsMapped_141 : decode cX12_holdsMapped 141 = .ok (.aload_n 0, 1) := by decide +kernel
theorem dX12_holdsMapped_142 : decode cX12_holdsMapped 142 = .ok (.getfield 25, 3) := by decide +kernel
theorem dX12_holdsMapped_145 : decode cX12_holdsMapped 145 = .ok (.iload_n 1, 1) := by decide +kernel
theorem dX12_holdsMapped_146 : decode cX12_holdsMapped 146 = .ok (.iaload, 1) := by decide +kernel
theorem dX12_holdsMapped_147 : decode cX12_holdsMapped 147 = .ok (.if_icmp .gt 7, 3) := by decide +kernel
theorem dX12_holdsMapped_150 : decode cX12_holdsMapped 150 = .ok (.iconst 1, 1) := by decide +kernel
theorem dX12_holdsMapped_151 : decode cX12_holdsMapped 151 = .ok (.goto 4, 3) := by decide +kernel
theorem dX12_holdsMapped_154 : decode cX12_holdsMapped 154 = .ok (.iconst 0, 1) := by decide +kernel
theorem dX12_holdsMapped_155 : decode cX12_holdsMapped 155 = .ok (.iadd, 1) := by decide +kernel
theorem dX12_holdsMapped_156 : decode cX12_holdsMapped 156 = .ok (.istore 4, 2) := by decide +kernel
theorem dX12_holdsMapped_158 : decode cX12_holdsMapped 158 = .ok (.goto 100, 3) := by decide +kernel
theorem dX12_holdsMapped_161 : decode cX12_holdsMapped 161 = .ok (.aload_n 0, 1) := by decide +kernel
theorem dX12_holdsMapped_162 : decode cX12_holdsMapped 162 = .ok (.getfield 19, 3) := by decide +kernel
theorem dX12_holdsMapped_165 : decode cX12_holdsMapped 165 = .ok (.iload_n 1, 1) := by decide +kernel
theorem dX12_holdsMapped_166 : decode cX12_holdsMapped 166 = .ok (.iaload, 1) := by decide +kernel
theorem dX12_holdsMapped_167 : decode cX12_holdsMapped 167 = .ok (.istore 9, 2) := by decide +kernel
theorem dX12_holdsMapped_169 : decode cX12_holdsMapped 169 = .ok (.aload_n 0, 1) := by decide +kernel
theorem dX12_holdsMapped_170 : decode cX12_holdsMapped 170 = .ok (.iload_n 1, 1) := by decide +kernel
theorem dX12_holdsMapped_171 : decode cX12_holdsMapped 171 = .ok (.iload 4, 2) := by decide +kernel
theorem dX12_holdsMapped_173 : decode cX12_holdsMapped 173 = .ok (.iload 9, 2) := by decide +kernel
theorem dX12_holdsMapped_175 : decode cX12_holdsMapped 175 = .ok (.iconst 2, 1) := by decide +kernel
theorem dX12_holdsMapped_176 : decode cX12_holdsMapped 176 = .ok (.if_icmp .ne 10, 3) := by decide +kernel
theorem dX12_holdsMapped_179 : decode cX12_holdsMapped 179 = .ok (.iload 7, 2) := by decide +kernel
theorem dX12_holdsMapped_181 : decode cX12_holdsMapped 181 = .ok (.iload_n 3, 1) := by decide +kernel
theorem dX12_holdsMapped_182 : decode cX12_holdsMapped 182 = .ok (.iadd, 1) := by decide +kernel
theorem dX12_holdsMapped_183 : decode cX12_holdsMapped 183 = .ok (.goto 31, 3) := by decide +kernel
theorem dX12_holdsMapped_186 : decode cX12_holdsMapped 186 = .ok (.iload 9, 2) := by decide +kernel
theorem dX12_holdsMapped_188 : decode cX12_holdsMapped 188 = .ok (.iconst 3, 1) := by decide +kernel
theorem dX12_holdsMapped_189 : decode cX12_holdsMapped 189 = .ok (.if_icmp .ne 12, 3) := by decide +kernel
theorem dX12_holdsMapped_192 : decode cX12_holdsMapped 192 = .ok (.iload 7, 2) := by decide +kernel
theorem dX12_holdsMapped_194 : decode cX12_holdsMapped 194 = .ok (.iload_n 3, 1) := by decide +kernel
theorem dX12_holdsMapped_195 : decode cX12_holdsMapped 195 = .ok (.invokestatic 159, 3) := by decide +kernel
theorem dX12_holdsMapped_198 : decode cX12_holdsMapped 198 = .ok (.goto 16, 3) := by decide +kernel
theorem dX12_holdsMapped_201 : decode cX12_holdsMapped 201 = .ok (.iload 9, 2) := by decide +kernel
theorem dX12_holdsMapped_203 : decode cX12_holdsMapped 203 = .ok (.iconst 4, 1) := by decide +kernel
theorem dX12_holdsMapped_204 : decode cX12_holdsMapped 204 = .ok (.if_icmp .ne 8, 3) := by decide +kernel
theorem dX12_holdsMapped_207 : decode cX12_holdsMapped 207 = .ok (.iload 8, 2) := by decide +kernel
theorem dX12_holdsMapped_209 : decode cX12_holdsMapped 209 = .ok (.goto 5, 3) := by decide +kernel
theorem dX12_holdsMapped_212 : decode cX12_holdsMapped 212 = .ok (.iload 7, 2) := by decide +kernel
theorem dX12_holdsMapped_214 : decode cX12_holdsMapped 214 = .ok (.iload 9, 2) := by decide +kernel
theorem dX12_holdsMapped_216 : decode cX12_holdsMapped 216 = .ok (.ifCond .ne 10, 3) := by decide +kernel
theorem dX12_holdsMapped_219 : decode cX12_holdsMapped 219 = .ok (.iload 8, 2) := by decide +kernel
theorem dX12_holdsMapped_221 : decode cX12_holdsMapped 221 = .ok (.iload_n 3, 1) := by decide +kernel
theorem dX12_holdsMapped_222 : decode cX12_holdsMapped 222 = .ok (.iadd, 1) := by decide +kernel
theorem dX12_holdsMapped_223 : decode cX12_holdsMapped 223 = .ok (.goto 29, 3) := by decide +kernel
theorem dX12_holdsMapped_226 : decode cX12_holdsMapped 226 = .ok (.iload 9, 2) := by decide +kernel
theorem dX12_holdsMapped_228 : decode cX12_holdsMapped 228 = .ok (.iconst 1, 1) := by decide +kernel
theorem dX12_holdsMapped_229 : decode cX12_holdsMapped 229 = .ok (.if_icmp .ne 10, 3) := by decide +kernel
theorem dX12_holdsMapped_232 : decode cX12_holdsMapped 232 = .ok (.iload 8, 2) := by decide +kernel
theorem dX12_holdsMapped_234 : decode cX12_holdsMapped 234 = .ok (.iload_n 3, 1) := by decide +kernel
theorem dX12_holdsMapped_235 : decode cX12_holdsMapped 235 = .ok (.imul, 1) := by decide +kernel
theorem dX12_holdsMapped_236 : decode cX12_holdsMapped 236 = .ok (.goto 16, 3) := by decide +kernel
theorem dX12_holdsMapped_239 : decode cX12_holdsMapped 239 = .ok (.iload 9, 2) := by decide +kernel
theorem dX12_holdsMapped_241 : decode cX12_holdsMapped 241 = .ok (.iconst 4, 1) := by decide +kernel
theorem dX12_holdsMapped_242 : decode cX12_holdsMapped 242 = .ok (.if_icmp .ne 8, 3) := by decide +kernel
theorem dX12_holdsMapped_245 : decode cX12_holdsMapped 245 = .ok (.iload 7, 2) := by decide +kernel
theorem dX12_holdsMapped_247 : decode cX12_holdsMapped 247 = .ok (.goto 5, 3) := by decide +kernel
theorem dX12_holdsMapped_250 : decode cX12_holdsMapped 250 = .ok (.iload 8, 2) := by decide +kernel
theorem dX12_holdsMapped_252 : decode cX12_holdsMapped 252 = .ok (.invokevirtual 155, 3) := by decide +kernel
theorem dX12_holdsMapped_255 : decode cX12_holdsMapped 255 = .ok (.iinc 4 1, 3) := by decide +kernel
theorem dX12_holdsMapped_258 : decode cX12_holdsMapped 258 = .ok (.iinc 6 1, 3) := by decide +kernel
theorem dX12_holdsMapped_261 : decode cX12_holdsMapped 261 = .ok (.goto (-189), 3) := by decide +kernel
theorem dX12_holdsMapped_264 : decode cX12_holdsMapped 264 = .ok (.iinc 5 1, 3) := by decide +kernel
theorem dX12_holdsMapped_267 : decode cX12_holdsMapped 267 = .ok (.goto (-235), 3) := by decide +kernel
theorem dX12_holdsMapped_270 : decode cX12_holdsMapped 270 = .ok (.aload_n 0, 1) := by decide +kernel
theorem dX12_holdsMapped_271 : decode cX12_holdsMapped 271 = .ok (.getfield 49, 3) := by decide +kernel
theorem dX12_holdsMapped_274 : decode cX12_holdsMapped 274 = .ok (.bipush 9, 2) := by decide +kernel
theorem dX12_holdsMapped_276 : decode cX12_holdsMapped 276 = .ok (.iload_n 1, 1) := by decide +kernel
theorem dX12_holdsMapped_277 : decode cX12_holdsMapped 277 = .ok (.imul, 1) := by decide +kernel
theorem dX12_holdsMapped_278 : decode cX12_holdsMapped 278 = .ok (.aload_n 0, 1) := by decide +kernel
theorem dX12_holdsMapped_279 : decode cX12_holdsMapped 279 = .ok (.getfield 46, 3) := by decide +kernel
theorem dX12_holdsMapped_282 : decode cX12_holdsMapped 282 = .ok (.iload_n 1, 1) := by decide +kernel
theorem dX12_holdsMapped_283 : decode cX12_holdsMapped 283 = .ok (.iaload, 1) := by decide +kernel
theorem dX12_holdsMapped_284 : decode cX12_holdsMapped 284 = .ok (.iadd, 1) := by decide +kernel
theorem dX12_holdsMapped_285 : decode cX12_holdsMapped 285 = .ok (.iload 4, 2) := by decide +kernel
theorem dX12_holdsMapped_287 : decode cX12_holdsMapped 287 = .ok (.iastore, 1) := by decide +kernel
theorem dX12_holdsMapped_288 : decode cX12_holdsMapped 288 = .ok (.return_, 1) := by decide +kernel
theorem dX12_holdsUnion_0 : decode cX12_holdsUnion 0 = .ok (.iconst 0, 1) := by decide +kernel
theorem dX12_holdsUnion_1 : decode cX12_holdsUnion 1 = .ok (.istore_n 2, 1) := by decide +kernel
theorem dX12_holdsUnion_2 : decode cX12_holdsUnion 2 = .ok (.aload_n 0, 1) := by decide +kernel
theorem dX12_holdsUnion_3 : decode cX12_holdsUnion 3 = .ok (.getfield 46, 3) := by decide +kernel
theorem dX12_holdsUnion_6 : decode cX12_holdsUnion 6 = .ok (.iload_n 1, 1) := by decide +kernel
theorem dX12_holdsUnion_7 : decode cX12_holdsUnion 7 = .ok (.iconst 0, 1) := by decide +kernel
theorem dX12_holdsUnion_8 : decode cX12_holdsUnion 8 = .ok (.iastore, 1) := by decide +kernel
theorem dX12_holdsUnion_9 : decode cX12_holdsUnion 9 = .ok (.iconst 0, 1) := by decide +kernel
theorem dX12_holdsUnion_10 : decode cX12_holdsUnion 10 = .ok (.istore_n 3, 1) := by decide +kernel
theorem dX12_holdsUnion_11 : decode cX12_holdsUnion 11 = .ok (.iload_n 3, 1) := by decide +kernel
theorem dX12_holdsUnion_12 : decode cX12_holdsUnion 12 = .ok (.iconst 2, 1) := by decide +kernel
theorem dX12_holdsUnion_13 : decode cX12_holdsUnion 13 = .ok (.if_icmp .ge 153, 3) := by decide +kernel
theorem dX12_holdsUnion_16 : decode cX12_holdsUnion 16 = .ok (.iload_n 3, 1) := by decide +kernel
theorem dX12_holdsUnion_17 : decode cX12_holdsUnion 17 = .ok (.ifCond .ne 12, 3) := by decide +kernel
theorem dX12_holdsUnion_20 : decode cX12_holdsUnion 20 = .ok (.aload_n 0, 1) := by decide +kernel
theorem dX12_holdsUnion_21 : decode cX12_holdsUnion 21 = .ok (.getfield 13, 3) := by decide +kernel
theorem dX12_holdsUnion_24 : decode cX12_holdsUnion 24 = .ok (.iload_n 1, 1) := by decide +kernel
theorem dX12_holdsUnion_25 : decode cX12_holdsUnion 25 = .ok (.iaload, 1) := by decide +kernel
theorem dX12_holdsUnion_26 : decode cX12_holdsUnion 26 = .ok (.goto 9, 3) := by decide +kernel
theorem dX12_holdsUnion_29 : decode cX12_holdsUnion 29 = .ok (.aload_n 0, 1) := by decide +kernel
theorem dX12_holdsUnion_30 : decode cX12_holdsUnion 30 = .ok (.getfield 16, 3) := by decide +kernel
theorem dX12_holdsUnion_33 : decode cX12_holdsUnion 33 = .ok (.iload_n 1, 1) := by decide +kernel
theorem dX12_holdsUnion_34 : decode cX12_holdsUnion 34 = .ok (.iaload, 1) := by decide +kernel
theorem dX12_holdsUnion_35 : decode cX12_holdsUnion 35 = .ok (.istore 4, 2) := by decide +kernel
theorem dX12_holdsUnion_37 : decode cX12_holdsUnion 37 = .ok (.iconst 0, 1) := by decide +kernel
theorem dX12_holdsUnion_38 : decode cX12_holdsUnion 38 = .ok (.istore 5, 2) := by decide +kernel
theorem dX12_holdsUnion_40 : decode cX12_holdsUnion 40 = .ok (.iload 5, 2) := by decide +kernel
theorem dX12_holdsUnion_42 : decode cX12_holdsUnion 42 = .ok (.aload_n 0, 1) := by decide +kernel
theorem dX12_holdsUnion_43 : decode cX12_holdsUnion 43 = .ok (.getfield 46, 3) := by decide +kernel
theorem dX12_holdsUnion_46 : decode cX12_holdsUnion 46 = .ok (.iload 4, 2) := by decide +kernel
theorem dX12_holdsUnion_48 : decode cX12_holdsUnion 48 = .ok (.iaload, 1) := by decide +kernel
theorem dX12_holdsUnion_49 : decode cX12_holdsUnion 49 = .ok (.if_icmp .ge 45, 3) := by decide +kernel
theorem dX12_holdsUnion_52 : decode cX12_holdsUnion 52 = .ok (.aload_n 0, 1) := by decide +kernel
theorem dX12_holdsUnion_53 : decode cX12_holdsUnion 53 = .ok (.getfield 49, 3) := by decide +kernel
theorem dX12_holdsUnion_56 : decode cX12_holdsUnion 56 = .ok (.bipush 9, 2) := by decide +kernel
theorem dX12_holdsUnion_58 : decode cX12_holdsUnion 58 = .ok (.iload_n 1, 1) := by decide +kernel
theorem dX12_holdsUnion_59 : decode cX12_holdsUnion 59 = .ok (.imul, 1) := by decide +kernel
theorem dX12_holdsUnion_60 : decode cX12_holdsUnion 60 = .ok (.aload_n 0, 1) := by decide +kernel
theorem dX12_holdsUnion_61 : decode cX12_holdsUnion 61 = .ok (.getfield 46, 3) := by decide +kernel
theorem dX12_holdsUnion_64 : decode cX12_holdsUnion 64 = .ok (.iload_n 1, 1) := by decide +kernel
theorem dX12_holdsUnion_65 : decode cX12_holdsUnion 65 = .ok (.iaload, 1) := by decide +kernel
theorem dX12_holdsUnion_66 : decode cX12_holdsUnion 66 = .ok (.iadd, 1) := by decide +kernel
theorem dX12_holdsUnion_67 : decode cX12_holdsUnion 67 = .ok (.iload_n 2, 1) := by decide +kernel
theorem dX12_holdsUnion_68 : decode cX12_holdsUnion 68 = .ok (.aload_n 0, 1) := by decide +kernel
theorem dX12_holdsUnion_69 : decode cX12_holdsUnion 69 = .ok (.iload 4, 2) := by decide +kernel
theorem dX12_holdsUnion_71 : decode cX12_holdsUnion 71 = .ok (.iload 5, 2) := by decide +kernel
theorem dX12_holdsUnion_73 : decode cX12_holdsUnion 73 = .ok (.invokevirtual 148, 3) := by decide +kernel
theorem dX12_holdsUnion_76 : decode cX12_holdsUnion 76 = .ok (.iadd, 1) := by decide +kernel
theorem dX12_holdsUnion_77 : decode cX12_holdsUnion 77 = .ok (.iastore, 1) := by decide +kernel
theorem dX12_holdsUnion_78 : decode cX12_holdsUnion 78 = .ok (.aload_n 0, 1) := by decide +kernel
theorem dX12_holdsUnion_79 : decode cX12_holdsUnion 79 = .ok (.getfield 46, 3) := by decide +kernel
theorem dX12_holdsUnion_82 : decode cX12_holdsUnion 82 = .ok (.iload_n 1, 1) := by decide +kernel
theorem dX12_holdsUnion_83 : decode cX12_holdsUnion 83 = .ok (.dup2, 1) := by decide +kernel
theorem dX12_holdsUnion_84 : decode cX12_holdsUnion 84 = .ok (.iaload, 1) := by decide +kernel
theorem dX12_holdsUnion_85 : decode cX12_holdsUnion 85 = .ok (.iconst 1, 1) := by decide +kernel
theorem dX12_holdsUnion_86 : decode cX12_holdsUnion 86 = .ok (.iadd, 1) := by decide +kernel
theorem dX12_holdsUnion_87 : decode cX12_holdsUnion 87 = .ok (.iastore, 1) := by decide +kernel
theorem dX12_holdsUnion_88 : decode cX12_holdsUnion 88 = .ok (.iinc 5 1, 3) := by decide +kernel
theorem dX12_holdsUnion_91 : decode cX12_holdsUnion 91 = .ok (.goto (-51), 3) := by decide +kernel
theorem dX12_holdsUnion_94 : decode cX12_holdsUnion 94 = .ok (.iconst 0, 1) := by decide +kernel
theorem dX12_holdsUnion_95 : decode cX12_holdsUnion 95 = .ok (.istore 5, 2) := by decide +kernel
theorem dX12_holdsUnion_97 : decode cX12_holdsUnion 97 = .ok (.iload 5, 2) := by decide +kernel
theorem dX12_holdsUnion_99 : decode cX12_holdsUnion 99 = .ok (.aload_n 0, 1) := by decide +kernel
theorem dX12_holdsUnion_100 : decode cX12_holdsUnion 100 = .ok (.iload 4, 2) := by decide +kernel
theorem dX12_holdsUnion_102 : decode cX12_holdsUnion 102 = .ok (.invokevirtual 152, 3) := by decide +kernel
theorem dX12_holdsUnion_105 : decode cX12_holdsUnion 105 = .ok (.if_icmp .ge 46, 3) := by decide +kernel
theorem dX12_holdsUnion_108 : decode cX12_holdsUnion 108 = .ok (.aload_n 0, 1) := by decide +kernel
theorem dX12_holdsUnion_109 : decode cX12_holdsUnion 109 = .ok (.iload_n 1, 1) := by decide +kernel
theorem dX12_holdsUnion_110 : decode cX12_holdsUnion 110 = .ok (.iload_n 2, 1) := by decide +kernel
theorem dX12_holdsUnion_111 : decode cX12_holdsUnion 111 = .ok (.iload 5, 2) := by decide +kernel
theorem dX12_holdsUnion_113 : decode cX12_holdsUnion 113 = .ok (.iadd, 1) := by decide +kernel
theorem dX12_holdsUnion_114 : decode cX12_holdsUnion 114 = .ok (.aload_n 0, 1) := by decide +kernel
theorem dX12_holdsUnion_115 : decode cX12_holdsUnion 115 = .ok (.getfield 52, 3) := by decide +kernel
theorem dX12_holdsUnion_118 : decode cX12_holdsUnion 118 = .ok (.sipush 300, 3) := by decide +kernel
theorem dX12_holdsUnion_121 : decode cX12_holdsUnion 121 = .ok (.iload 4, 2) := by decide +kernel
theorem dX12_holdsUnion_123 : decode cX12_holdsUnion 123 = .ok (.imul, 1) := by decide +kernel
theorem dX12_holdsUnion_124 : decode cX12_holdsUnion 124 = .ok (.iload 5, 2) := by decide +kernel
theorem dX12_holdsUnion_126 : decode cX12_holdsUnion 126 = .ok (.iadd, 1) := by decide +kernel
theorem dX12_holdsUnion_127 : decode cX12_holdsUnion 127 = .ok (.iaload, 1) := by decide +kernel
theorem dX12_holdsUnion_128 : decode cX12_holdsUnion 128 = .ok (.aload_n 0, 1) := by decide +kernel
theorem dX12_holdsUnion_129 : decode cX12_holdsUnion 129 = .ok (.getfield 55, 3) := by decide +kernel
theorem dX12_holdsUnion_132 : decode cX12_holdsUnion 132 = .ok (.sipush 300, 3) := by decide +kernel
theorem dX12_holdsUnion_135 : decode cX12_holdsUnion 135 = .ok (.iload 4, 2) := by decide +kernel
theorem dX12_holdsUnion_137 : decode cX12_holdsUnion 137 = .ok (.imul, 1) := by decide +kernel
theorem dX12_holdsUnion_138 : decode cX12_holdsUnion 138 = .ok (.iload 5, 2) := by decide +kernel
theorem dX12_holdsUnion_140 : decode cX12_holdsUnion 140 = .ok (.iadd, 1) := by decide +kernel
theorem dX12_holdsUnion_141 : decode cX12_holdsUnion 141 = .ok (.iaload, 1) := by decide +kernel
theorem dX12_holdsUnion_142 : decode cX12_holdsUnion 142 = .ok (.invokevirtual 155, 3) := by decide +kernel
theorem dX12_holdsUnion_145 : decode cX12_holdsUnion 145 = .ok (.iinc 5 1, 3) := by decide +kernel
theorem dX12_holdsUnion_148 : decode cX12_holdsUnion 148 = .ok (.goto (-51), 3) := by decide +kernel
theorem dX12_holdsUnion_151 : decode cX12_holdsUnion 151 = .ok (.iload_n 2, 1) := by decide +kernel
theorem dX12_holdsUnion_152 : decode cX12_holdsUnion 152 = .ok (.aload_n 0, 1) := by decide +kernel
theorem dX12_holdsUnion_153 : decode cX12_holdsUnion 153 = .ok (.iload 4, 2) := by decide +kernel
theorem dX12_holdsUnion_155 : decode cX12_holdsUnion 155 = .ok (.invokevirtual 152, 3) := by decide +kernel
theorem dX12_holdsUnion_158 : decode cX12_holdsUnion 158 = .ok (.iadd, 1) := by decide +kernel
theorem dX12_holdsUnion_159 : decode cX12_holdsUnion 159 = .ok (.istore_n 2, 1) := by decide +kernel
theorem dX12_holdsUnion_160 : decode cX12_holdsUnion 160 = .ok (.iinc 3 1, 3) := by decide +kernel
theorem dX12_holdsUnion_163 : decode cX12_holdsUnion 163 = .ok (.goto (-152), 3) := by decide +kernel
theorem dX12_holdsUnion_166 : decode cX12_holdsUnion 166 = .ok (.aload_n 0, 1) := by decide +kernel
theorem dX12_holdsUnion_167 : decode cX12_holdsUnion 167 = .ok (.getfield 49, 3) := by decide +kernel
theorem dX12_holdsUnion_170 : decode cX12_holdsUnion 170 = .ok (.bipush 9, 2) := by decide +kernel
theorem dX12_holdsUnion_172 : decode cX12_holdsUnion 172 = .ok (.iload_n 1, 1) := by decide +kernel
theorem dX12_holdsUnion_173 : decode cX12_holdsUnion 173 = .ok (.imul, 1) := by decide +kernel
theorem dX12_holdsUnion_174 : decode cX12_holdsUnion 174 = .ok (.aload_n 0, 1) := by decide +kernel
theorem dX12_holdsUnion_175 : decode cX12_holdsUnion 175 = .ok (.getfield 46, 3) := by decide +kernel
theorem dX12_holdsUnion_178 : decode cX12_holdsUnion 178 = .ok (.iload_n 1, 1) := by decide +kernel
theorem dX12_holdsUnion_179 : decode cX12_holdsUnion 179 = .ok (.iaload, 1) := by decide +kernel
theorem dX12_holdsUnion_180 : decode cX12_holdsUnion 180 = .ok (.iadd, 1) := by decide +kernel
theorem dX12_holdsUnion_181 : decode cX12_holdsUnion 181 = .ok (.iload_n 2, 1) := by decide +kernel
theorem dX12_holdsUnion_182 : decode cX12_holdsUnion 182 = .ok (.iastore, 1) := by decide +kernel
theorem dX12_holdsUnion_183 : decode cX12_holdsUnion 183 = .ok (.return_, 1) := by decide +kernel
theorem dX12_next_0 : decode cX12_next 0 = .ok (.ldc2_w 162, 3) := by decide +kernel
theorem dX12_next_3 : decode cX12_next 3 = .ok (.lstore 6, 2) := by decide +kernel
theorem dX12_next_5 : decode cX12_next 5 = .ok (.sipush 300, 3) := by decide +kernel
theorem dX12_next_8 : decode cX12_next 8 = .ok (.iload_n 1, 1) := by decide +kernel
theorem dX12_next_9 : decode cX12_next 9 = .ok (.imul, 1) := by decide +kernel
theorem dX12_next_10 : decode cX12_next 10 = .ok (.istore 8, 2) := by decide +kernel
theorem dX12_next_12 : decode cX12_next 12 = .ok (.iload 8, 2) := by decide +kernel
theorem dX12_next_14 : decode cX12_next 14 = .ok (.sipush 300, 3) := by decide +kernel
theorem dX12_next_17 : decode cX12_next 17 = .ok (.iload_n 1, 1) := by decide +kernel
theorem dX12_next_18 : decode cX12_next 18 = .ok (.imul, 1) := by decide +kernel
theorem dX12_next_19 : decode cX12_next 19 = .ok (.aload_n 0, 1) := by decide +kernel
theorem dX12_next_20 : decode cX12_next 20 = .ok (.iload_n 1, 1) := by decide +kernel
theorem dX12_next_21 : decode cX12_next 21 = .ok (.invokevirtual 152, 3) := by decide +kernel
theorem dX12_next_24 : decode cX12_next 24 = .ok (.iadd, 1) := by decide +kernel
theorem dX12_next_25 : decode cX12_next 25 = .ok (.if_icmp .ge 68, 3) := by decide +kernel
theorem dX12_next_28 : decode cX12_next 28 = .ok (.aload_n 0, 1) := by decide +kernel
theorem dX12_next_29 : decode cX12_next 29 = .ok (.getfield 52, 3) := by decide +kernel
theorem dX12_next_32 : decode cX12_next 32 = .ok (.iload 8, 2) := by decide +kernel
theorem dX12_next_34 : decode cX12_next 34 = .ok (.iaload, 1) := by decide +kernel
theorem dX12_next_35 : decode cX12_next 35 = .ok (.i2l, 1) := by decide +kernel
theorem dX12_next_36 : decode cX12_next 36 = .ok (.lload_n 2, 1) := by decide +kernel
theorem dX12_next_37 : decode cX12_next 37 = .ok (.lcmp, 1) := by decide +kernel
theorem dX12_next_38 : decode cX12_next 38 = .ok (.ifCond .le 45, 3) := by decide +kernel
theorem dX12_next_41 : decode cX12_next 41 = .ok (.aload_n 0, 1) := by decide +kernel
theorem dX12_next_42 : decode cX12_next 42 = .ok (.getfield 52, 3) := by decide +kernel
theorem dX12_next_45 : decode cX12_next 45 = .ok (.iload 8, 2) := by decide +kernel
theorem dX12_next_47 : decode cX12_next 47 = .ok (.iaload, 1) := by decide +kernel
theorem dX12_next_48 : decode cX12_next 48 = .ok (.i2l, 1) := by decide +kernel
theorem dX12_next_49 : decode cX12_next 49 = .ok (.lload 6, 2) := by decide +kernel
theorem dX12_next_51 : decode cX12_next 51 = .ok (.lcmp, 1) := by decide +kernel
theorem dX12_next_52 : decode cX12_next 52 = .ok (.ifCond .ge 31, 3) := by decide +kernel
theorem dX12_next_55 : decode cX12_next 55 = .ok (.aload_n 0, 1) := by decide +kernel
theorem dX12_next_56 : decode cX12_next 56 = .ok (.getfield 52, 3) := by decide +kernel
theorem dX12_next_59 : decode cX12_next 59 = .ok (.iload 8, 2) := by decide +kernel
theorem dX12_next_61 : decode cX12_next 61 = .ok (.iaload, 1) := by decide +kernel
theorem dX12_next_62 : decode cX12_next 62 = .ok (.iload 5, 2) := by decide +kernel
theorem dX12_next_64 : decode cX12_next 64 = .ok (.invokestatic 159, 3) := by decide +kernel
theorem dX12_next_67 : decode cX12_next 67 = .ok (.iload 4, 2) := by decide +kernel
theorem dX12_next_69 : decode cX12_next 69 = .ok (.if_icmp .ne 14, 3) := by decide +kernel
theorem dX12_next_72 : decode cX12_next 72 = .ok (.aload_n 0, 1) := by decide +kernel
theorem dX12_next_73 : decode cX12_next 73 = .ok (.getfield 52, 3) := by decide +kernel
theorem dX12_next_76 : decode cX12_next 76 = .ok (.iload 8, 2) := by decide +kernel
theorem dX12_next_78 : decode cX12_next 78 = .ok (.iaload, 1) := by decide +kernel
theorem dX12_next_79 : decode cX12_next 79 = .ok (.i2l, 1) := by decide +kernel
theorem dX12_next_80 : decode cX12_next 80 = .ok (.goto 5, 3) := by decide +kernel
theorem dX12_next_83 : decode cX12_next 83 = .ok (.lload 6, 2) := by decide +kernel
theorem dX12_next_85 : decode cX12_next 85 = .ok (.lstore 6, 2) := by decide +kernel
theorem dX12_next_87 : decode cX12_next 87 = .ok (.iinc 8 1, 3) := by decide +kernel
theorem dX12_next_90 : decode cX12_next 90 = .ok (.goto (-78), 3) := by decide +kernel
theorem dX12_next_93 : decode cX12_next 93 = .ok (.lload 6, 2) := by decide +kernel
theorem dX12_next_95 : decode cX12_next 95 = .ok (.lreturn, 1) := by decide +kernel
theorem dX12_grouped_0 : decode cX12_grouped 0 = .ok (.aload_n 0, 1) := by decide +kernel
theorem dX12_grouped_1 : decode cX12_grouped 1 = .ok (.getfield 13, 3) := by decide +kernel
theorem dX12_grouped_4 : decode cX12_grouped 4 = .ok (.iload_n 1, 1) := by decide +kernel
theorem dX12_grouped_5 : decode cX12_grouped 5 = .ok (.iaload, 1) := by decide +kernel
theorem dX12_grouped_6 : decode cX12_grouped 6 = .ok (.istore_n 3, 1) := by decide +kernel
theorem dX12_grouped_7 : decode cX12_grouped 7 = .ok (.iconst 0, 1) := by decide +kernel
theorem dX12_grouped_8 : decode cX12_grouped 8 = .ok (.istore 4, 2) := by decide +kernel
theorem dX12_grouped_10 : decode cX12_grouped 10 = .ok (.iconst 0, 1) := by decide +kernel
theorem dX12_grouped_11 : decode cX12_grouped 11 = .ok (.istore 5, 2) := by decide +kernel
theorem dX12_grouped_13 : decode cX12_grouped 13 = .ok (.sipush 300, 3) := by decide +kernel
theorem dX12_grouped_16 : decode cX12_grouped 16 = .ok (.iload_n 3, 1) := by decide +kernel
theorem dX12_grouped_17 : decode cX12_grouped 17 = .ok (.imul, 1) := by decide +kernel
theorem dX12_grouped_18 : decode cX12_grouped 18 = .ok (.istore 6, 2) := by decide +kernel
theorem dX12_grouped_20 : decode cX12_grouped 20 = .ok (.iload 6, 2) := by decide +kernel
theorem dX12_grouped_22 : decode cX12_grouped 22 = .ok (.sipush 300, 3) := by decide +kernel
theorem dX12_grouped_25 : decode cX12_grouped 25 = .ok (.iload_n 3, 1) := by decide +kernel
theorem dX12_grouped_26 : decode cX12_grouped 26 = .ok (.imul, 1) := by decide +kernel
theorem dX12_grouped_27 : decode cX12_grouped 27 = .ok (.aload_n 0, 1) := by decide +kernel
theorem dX12_grouped_28 : decode cX12_grouped 28 = .ok (.iload_n 3, 1) := by decide +kernel
theorem dX12_grouped_29 : decode cX12_grouped 29 = .ok (.invokevirtual 152, 3) := by decide +kernel
theorem dX12_grouped_32 : decode cX12_grouped 32 = .ok (.iadd, 1) := by decide +kernel
theorem dX12_grouped_33 : decode cX12_grouped 33 = .ok (.if_icmp .ge 124, 3) := by decide +kernel
theorem dX12_grouped_36 : decode cX12_grouped 36 = .ok (.aload_n 0, 1) := by decide +kernel
theorem dX12_grouped_37 : decode cX12_grouped 37 = .ok (.getfield 52, 3) := by decide +kernel
theorem dX12_grouped_40 : decode cX12_grouped 40 = .ok (.iload 6, 2) := by decide +kernel
theorem dX12_grouped_42 : decode cX12_grouped 42 = .ok (.iaload, 1) := by decide +kernel
theorem dX12_grouped_43 : decode cX12_grouped 43 = .ok (.iload_n 2, 1) := by decide +kernel
theorem dX12_grouped_44 : decode cX12_grouped 44 = .ok (.if_icmp .ne 107, 3) := by decide +kernel
theorem dX12_grouped_47 : decode cX12_grouped 47 = .ok (.aload_n 0, 1) := by decide +kernel
theorem dX12_grouped_48 : decode cX12_grouped 48 = .ok (.getfield 55, 3) := by decide +kernel
theorem dX12_grouped_51 : decode cX12_grouped 51 = .ok (.iload 6, 2) := by decide +kernel
theorem dX12_grouped_53 : decode cX12_grouped 53 = .ok (.iaload, 1) := by decide +kernel
theorem dX12_grouped_54 : decode cX12_grouped 54 = .ok (.istore 7, 2) := by decide +kernel
theorem dX12_grouped_56 : decode cX12_grouped 56 = .ok (.aload_n 0, 1) := by decide +kernel
theorem dX12_grouped_57 : decode cX12_grouped 57 = .ok (.getfield 19, 3) := by decide +kernel
theorem dX12_grouped_60 : decode cX12_grouped 60 = .ok (.iload_n 1, 1) := by decide +kernel
theorem dX12_grouped_61 : decode cX12_grouped 61 = .ok (.iaload, 1) := by decide +kernel
theorem dX12_grouped_62 : decode cX12_grouped 62 = .ok (.iconst 1, 1) := by decide +kernel
theorem dX12_grouped_63 : decode cX12_grouped 63 = .ok (.if_icmp .ne 18, 3) := by decide +kernel
theorem dX12_grouped_66 : decode cX12_grouped 66 = .ok (.iload 7, 2) := by decide +kernel
theorem dX12_grouped_68 : decode cX12_grouped 68 = .ok (.iload 5, 2) := by decide +kernel
theorem dX12_grouped_70 : decode cX12_grouped 70 = .ok (.if_icmp .ge 7, 3) := by decide +kernel
theorem dX12_grouped_73 : decode cX12_grouped 73 = .ok (.iconst 1, 1) := by decide +kernel
theorem dX12_grouped_74 : decode cX12_grouped 74 = .ok (.goto 19, 3) := by decide +kernel
theorem dX12_grouped_77 : decode cX12_grouped 77 = .ok (.iconst 0, 1) := by decide +kernel
theorem dX12_grouped_78 : decode cX12_grouped 78 = .ok (.goto 15, 3) := by decide +kernel
theorem dX12_grouped_81 : decode cX12_grouped 81 = .ok (.iload 7, 2) := by decide +kernel
theorem dX12_grouped_83 : decode cX12_grouped 83 = .ok (.iload 5, 2) := by decide +kernel
theorem dX12_grouped_85 : decode cX12_grouped 85 = .ok (.if_icmp .le 7, 3) := by decide +kernel
theorem dX12_grouped_88 : decode cX12_grouped 88 = .ok (.iconst 1, 1) := by decide +kernel
theorem dX12_grouped_89 : decode cX12_grouped 89 = .ok (.goto 4, 3) := by decide +kernel
theorem dX12_grouped_92 : decode cX12_grouped 92 = .ok (.iconst 0, 1) := by decide +kernel
theorem dX12_grouped_93 : decode cX12_grouped 93 = .ok (.istore 8, 2) := by decide +kernel
theorem dX12_grouped_95 : decode cX12_grouped 95 = .ok (.aload_n 0, 1) := by decide +kernel
theorem dX12_grouped_96 : decode cX12_grouped 96 = .ok (.getfield 19, 3) := by decide +kernel
theorem dX12_grouped_99 : decode cX12_grouped 99 = .ok (.iload_n 1, 1) := by decide +kernel
theorem dX12_grouped_100 : decode cX12_grouped 100 = .ok (.iaload, 1) := by decide +kernel
theorem dX12_grouped_101 : decode cX12_grouped 101 = .ok (.iconst 3, 1) := by decide +kernel
theorem dX12_grouped_102 : decode cX12_grouped 102 = .ok (.if_icmp .ne 10, 3) := by decide +kernel
theorem dX12_grouped_105 : decode cX12_grouped 105 = .ok (.iload 5, 2) := by decide +kernel
theorem dX12_grouped_107 : decode cX12_grouped 107 = .ok (.iconst 1, 1) := by decide +kernel
theorem dX12_grouped_108 : decode cX12_grouped 108 = .ok (.iadd, 1) := by decide +kernel
theorem dX12_grouped_109 : decode cX12_grouped 109 = .ok (.goto 37, 3) := by decide +kernel
theorem dX12_grouped_112 : decode cX12_grouped 112 = .ok (.aload_n 0, 1) := by decide +kernel
theorem dX12_grouped_113 : decode cX12_grouped 113 = .ok (.getfield 19, 3) := by decide +kernel
theorem dX12_grouped_116 : decode cX12_grouped 116 = .ok (.iload_n 1, 1) := by decide +kernel
theorem dX12_grouped_117 : decode cX12_grouped 117 = .ok (.iaload, 1) := by decide +kernel
theorem dX12_grouped_118 : decode cX12_grouped 118 = .ok (.ifCond .ne 11, 3) := by decide +kernel
theorem dX12_grouped_121 : decode cX12_grouped 121 = .ok (.iload 5, 2) := by decide +kernel
theorem dX12_grouped_123 : decode cX12_grouped 123 = .ok (.iload 7, 2) := by decide +kernel
theorem dX12_grouped_125 : decode cX12_grouped 125 = .ok (.iadd, 1) := by decide +kernel
theorem dX12_grouped_126 : decode cX12_grouped 126 = .ok (.goto 20, 3) := by decide +kernel
theorem dX12_grouped_129 : decode cX12_grouped 129 = .ok (.iload 4, 2) := by decide +kernel
theorem dX12_grouped_131 : decode cX12_grouped 131 = .ok (.ifCond .eq 8, 3) := by decide +kernel
theorem dX12_grouped_134 : decode cX12_grouped 134 = .ok (.iload 8, 2) := by decide +kernel
theorem dX12_grouped_136 : decode cX12_grouped 136 = .ok (.ifCond .eq 8, 3) := by decide +kernel
theorem dX12_grouped_139 : decode cX12_grouped 139 = .ok (.iload 7, 2) := by decide +kernel
theorem dX12_grouped_141 : decode cX12_grouped 141 = .ok (.goto 5, 3) := by decide +kernel
theorem dX12_grouped_144 : decode cX12_grouped 144 = .ok (.iload 5, 2) := by decide +kernel
theorem dX12_grouped_146 : decode cX12_grouped 146 = .ok (.istore 5, 2) := by decide +kernel
theorem dX12_grouped_148 : decode cX12_grouped 148 = .ok (.iinc 4 1, 3) := by decide +kernel
theorem dX12_grouped_151 : decode cX12_grouped 151 = .ok (.iinc 6 1, 3) := by decide +kernel
theorem dX12_grouped_154 : decode cX12_grouped 154 = .ok (.goto (-134), 3) := by decide +kernel
theorem dX12_grouped_157 : decode cX12_grouped 157 = .ok (.iload 5, 2) := by decide +kernel
theorem dX12_grouped_159 : decode cX12_grouped 159 = .ok (.ireturn, 1) := by decide +kernel
theorem dX12_joins_0 : decode cX12_joins 0 = .ok (.aload_n 0, 1) := by decide +kernel
theorem dX12_joins_1 : decode cX12_joins 1 = .ok (.getfield 16, 3) := by decide +kernel
theorem dX12_joins_4 : decode cX12_joins 4 = .ok (.iload_n 1, 1) := by decide +kernel
theorem dX12_joins_5 : decode cX12_joins 5 = .ok (.iaload, 1) := by decide +kernel
theorem dX12_joins_6 : decode cX12_joins 6 = .ok (.istore 4, 2) := by decide +kernel
theorem dX12_joins_8 : decode cX12_joins 8 = .ok (.iload_n 3, 1) := by decide +kernel
theorem dX12_joins_9 : decode cX12_joins 9 = .ok (.istore 5, 2) := by decide +kernel
theorem dX12_joins_11 : decode cX12_joins 11 = .ok (.sipush 300, 3) := by decide +kernel
theorem dX12_joins_14 : decode cX12_joins 14 = .ok (.iload 4, 2) := by decide +kernel
theorem dX12_joins_16 : decode cX12_joins 16 = .ok (.imul, 1) := by decide +kernel
theorem dX12_joins_17 : decode cX12_joins 17 = .ok (.istore 6, 2) := by decide +kernel
theorem dX12_joins_19 : decode cX12_joins 19 = .ok (.iload 6, 2) := by decide +kernel
theorem dX12_joins_21 : decode cX12_joins 21 = .ok (.sipush 300, 3) := by decide +kernel
theorem dX12_joins_24 : decode cX12_joins 24 = .ok (.iload 4, 2) := by decide +kernel
theorem dX12_joins_26 : decode cX12_joins 26 = .ok (.imul, 1) := by decide +kernel
theorem dX12_joins_27 : decode cX12_joins 27 = .ok (.aload_n 0, 1) := by decide +kernel
theorem dX12_joins_28 : decode cX12_joins 28 = .ok (.iload 4, 2) := by decide +kernel
theorem dX12_joins_30 : decode cX12_joins 30 = .ok (.invokevirtual 152, 3) := by decide +kernel
theorem dX12_joins_33 : decode cX12_joins 33 = .ok (.iadd, 1) := by decide +kernel
theorem dX12_joins_34 : decode cX12_joins 34 = .ok (.if_icmp .ge 55, 3) := by decide +kernel
theorem dX12_joins_37 : decode cX12_joins 37 = .ok (.aload_n 0, 1) := by decide +kernel
theorem dX12_joins_38 : decode cX12_joins 38 = .ok (.getfield 52, 3) := by decide +kernel
theorem dX12_joins_41 : decode cX12_joins 41 = .ok (.iload 6, 2) := by decide +kernel
theorem dX12_joins_43 : decode cX12_joins 43 = .ok (.iaload, 1) := by decide +kernel
theorem dX12_joins_44 : decode cX12_joins 44 = .ok (.aload_n 0, 1) := by decide +kernel
theorem dX12_joins_45 : decode cX12_joins 45 = .ok (.getfield 52, 3) := by decide +kernel
theorem dX12_joins_48 : decode cX12_joins 48 = .ok (.iload_n 2, 1) := by decide +kernel
theorem dX12_joins_49 : decode cX12_joins 49 = .ok (.iaload, 1) := by decide +kernel
theorem dX12_joins_50 : decode cX12_joins 50 = .ok (.if_icmp .ne 33, 3) := by decide +kernel
theorem dX12_joins_53 : decode cX12_joins 53 = .ok (.aload_n 0, 1) := by decide +kernel
theorem dX12_joins_54 : decode cX12_joins 54 = .ok (.iload_n 1, 1) := by decide +kernel
theorem dX12_joins_55 : decode cX12_joins 55 = .ok (.iload 5, 2) := by decide +kernel
theorem dX12_joins_57 : decode cX12_joins 57 = .ok (.aload_n 0, 1) := by decide +kernel
theorem dX12_joins_58 : decode cX12_joins 58 = .ok (.getfield 52, 3) := by decide +kernel
theorem dX12_joins_61 : decode cX12_joins 61 = .ok (.iload_n 2, 1) := by decide +kernel
theorem dX12_joins_62 : decode cX12_joins 62 = .ok (.iaload, 1) := by decide +kernel
theorem dX12_joins_63 : decode cX12_joins 63 = .ok (.aload_n 0, 1) := by decide +kernel
theorem dX12_joins_64 : decode cX12_joins 64 = .ok (.getfield 55, 3) := by decide +kernel
theorem dX12_joins_67 : decode cX12_joins 67 = .ok (.iload_n 2, 1) := by decide +kernel
theorem dX12_joins_68 : decode cX12_joins 68 = .ok (.iaload, 1) := by decide +kernel
theorem dX12_joins_69 : decode cX12_joins 69 = .ok (.aload_n 0, 1) := by decide +kernel
theorem dX12_joins_70 : decode cX12_joins 70 = .ok (.getfield 55, 3) := by decide +kernel
theorem dX12_joins_73 : decode cX12_joins 73 = .ok (.iload 6, 2) := by decide +kernel
theorem dX12_joins_75 : decode cX12_joins 75 = .ok (.iaload, 1) := by decide +kernel
theorem dX12_joins_76 : decode cX12_joins 76 = .ok (.iadd, 1) := by decide +kernel
theorem dX12_joins_77 : decode cX12_joins 77 = .ok (.invokevirtual 155, 3) := by decide +kernel
theorem dX12_joins_80 : decode cX12_joins 80 = .ok (.iinc 5 1, 3) := by decide +kernel
theorem dX12_joins_83 : decode cX12_joins 83 = .ok (.iinc 6 1, 3) := by decide +kernel
theorem dX12_joins_86 : decode cX12_joins 86 = .ok (.goto (-67), 3) := by decide +kernel
theorem dX12_joins_89 : decode cX12_joins 89 = .ok (.iload 5, 2) := by decide +kernel
theorem dX12_joins_91 : decode cX12_joins 91 = .ok (.ireturn, 1) := by decide +kernel
theorem dX12_holdsShared_0 : decode cX12_holdsShared 0 = .ok (.aload_n 0, 1) := by decide +kernel
theorem dX12_holdsShared_1 : decode cX12_holdsShared 1 = .ok (.getfield 13, 3) := by decide +kernel
theorem dX12_holdsShared_4 : decode cX12_holdsShared 4 = .ok (.iload_n 1, 1) := by decide +kernel
theorem dX12_holdsShared_5 : decode cX12_holdsShared 5 = .ok (.iaload, 1) := by decide +kernel
theorem dX12_holdsShared_6 : decode cX12_holdsShared 6 = .ok (.istore_n 2, 1) := by decide +kernel
theorem dX12_holdsShared_7 : decode cX12_holdsShared 7 = .ok (.aload_n 0, 1) := by decide +kernel
theorem dX12_holdsShared_8 : decode cX12_holdsShared 8 = .ok (.getfield 46, 3) := by decide +kernel
theorem dX12_holdsShared_11 : decode cX12_holdsShared 11 = .ok (.iload_n 1, 1) := by decide +kernel
theorem dX12_holdsShared_12 : decode cX12_holdsShared 12 = .ok (.aload_n 0, 1) := by decide +kernel
theorem dX12_holdsShared_13 : decode cX12_holdsShared 13 = .ok (.getfield 28, 3) := by decide +kernel
theorem dX12_holdsShared_16 : decode cX12_holdsShared 16 = .ok (.iload_n 1, 1) := by decide +kernel
theorem dX12_holdsShared_17 : decode cX12_holdsShared 17 = .ok (.iaload, 1) := by decide +kernel
theorem dX12_holdsShared_18 : decode cX12_holdsShared 18 = .ok (.iastore, 1) := by decide +kernel
theorem dX12_holdsShared_19 : decode cX12_holdsShared 19 = .ok (.iconst 0, 1) := by decide +kernel
theorem dX12_holdsShared_20 : decode cX12_holdsShared 20 = .ok (.istore_n 3, 1) := by decide +kernel
theorem dX12_holdsShared_21 : decode cX12_holdsShared 21 = .ok (.iconst 0, 1) := by decide +kernel
theorem dX12_holdsShared_22 : decode cX12_holdsShared 22 = .ok (.istore 4, 2) := by decide +kernel
theorem dX12_holdsShared_24 : decode cX12_holdsShared 24 = .ok (.iload 4, 2) := by decide +kernel
theorem dX12_holdsShared_26 : decode cX12_holdsShared 26 = .ok (.aload_n 0, 1) := by decide +kernel
theorem dX12_holdsShared_27 : decode cX12_holdsShared 27 = .ok (.getfield 46, 3) := by decide +kernel
theorem dX12_holdsShared_30 : decode cX12_holdsShared 30 = .ok (.iload_n 1, 1) := by decide +kernel
theorem dX12_holdsShared_31 : decode cX12_holdsShared 31 = .ok (.iaload, 1) := by decide +kernel
theorem dX12_holdsShared_32 : decode cX12_holdsShared 32 = .ok (.if_icmp .ge 158, 3) := by decide +kernel
theorem dX12_holdsShared_35 : decode cX12_holdsShared 35 = .ok (.aload_n 0, 1) := by decide +kernel
theorem dX12_holdsShared_36 : decode cX12_holdsShared 36 = .ok (.getfield 49, 3) := by decide +kernel
theorem dX12_holdsShared_39 : decode cX12_holdsShared 39 = .ok (.bipush 9, 2) := by decide +kernel
theorem dX12_holdsShared_41 : decode cX12_holdsShared 41 = .ok (.iload_n 1, 1) := by decide +kernel
theorem dX12_holdsShared_42 : decode cX12_holdsShared 42 = .ok (.imul, 1) := by decide +kernel
theorem dX12_holdsShared_43 : decode cX12_holdsShared 43 = .ok (.iload 4, 2) := by decide +kernel
theorem dX12_holdsShared_45 : decode cX12_holdsShared 45 = .ok (.iadd, 1) := by decide +kernel
theorem dX12_holdsShared_46 : decode cX12_holdsShared 46 = .ok (.iload_n 3, 1) := by decide +kernel
theorem dX12_holdsShared_47 : decode cX12_holdsShared 47 = .ok (.iastore, 1) := by decide +kernel
theorem dX12_holdsShared_48 : decode cX12_holdsShared 48 = .ok (.aload_n 0, 1) := by decide +kernel
theorem dX12_holdsShared_49 : decode cX12_holdsShared 49 = .ok (.iload_n 2, 1) := by decide +kernel
theorem dX12_holdsShared_50 : decode cX12_holdsShared 50 = .ok (.ldc2_w 164, 3) := by decide +kernel
theorem dX12_holdsShared_53 : decode cX12_holdsShared 53 = .ok (.iload 4, 2) := by decide +kernel
theorem dX12_holdsShared_55 : decode cX12_holdsShared 55 = .ok (.aload_n 0, 1) := by decide +kernel
theorem dX12_holdsShared_56 : decode cX12_holdsShared 56 = .ok (.getfield 46, 3) := by decide +kernel
theorem dX12_holdsShared_59 : decode cX12_holdsShared 59 = .ok (.iload_n 1, 1) := by decide +kernel
theorem dX12_holdsShared_60 : decode cX12_holdsShared 60 = .ok (.iaload, 1) := by decide +kernel
theorem dX12_holdsShared_61 : decode cX12_holdsShared 61 = .ok (.invokevirtual 166, 3) := by decide +kernel
theorem dX12_holdsShared_64 : decode cX12_holdsShared 64 = .ok (.lstore 5, 2) := by decide +kernel
theorem dX12_holdsShared_66 : decode cX12_holdsShared 66 = .ok (.lload 5, 2) := by decide +kernel
theorem dX12_holdsShared_68 : decode cX12_holdsShared 68 = .ok (.ldc2_w 162, 3) := by decide +kernel
theorem dX12_holdsShared_71 : decode cX12_holdsShared 71 = .ok (.lcmp, 1) := by decide +kernel
theorem dX12_holdsShared_72 : decode cX12_holdsShared 72 = .ok (.ifCond .ge 112, 3) := by decide +kernel
theorem dX12_holdsShared_75 : decode cX12_holdsShared 75 = .ok (.aload_n 0, 1) := by decide +kernel
theorem dX12_holdsShared_76 : decode cX12_holdsShared 76 = .ok (.getfield 7, 3) := by decide +kernel
theorem dX12_holdsShared_79 : decode cX12_holdsShared 79 = .ok (.iload_n 1, 1) := by decide +kernel
theorem dX12_holdsShared_80 : decode cX12_holdsShared 80 = .ok (.iaload, 1) := by decide +kernel
theorem dX12_holdsShared_81 : decode cX12_holdsShared 81 = .ok (.iconst 4, 1) := by decide +kernel
theorem dX12_holdsShared_82 : decode cX12_holdsShared 82 = .ok (.if_icmp .ne 26, 3) := by decide +kernel
theorem dX12_holdsShared_85 : decode cX12_holdsShared 85 = .ok (.aload_n 0, 1) := by decide +kernel
theorem dX12_holdsShared_86 : decode cX12_holdsShared 86 = .ok (.iload_n 1, 1) := by decide +kernel
theorem dX12_holdsShared_87 : decode cX12_holdsShared 87 = .ok (.iload_n 3, 1) := by decide +kernel
theorem dX12_holdsShared_88 : decode cX12_holdsShared 88 = .ok (.lload 5, 2) := by decide +kernel
theorem dX12_holdsShared_90 : decode cX12_holdsShared 90 = .ok (.l2i, 1) := by decide +kernel
theorem dX12_holdsShared_91 : decode cX12_holdsShared 91 = .ok (.aload_n 0, 1) := by decide +kernel
theorem dX12_holdsShared_92 : decode cX12_holdsShared 92 = .ok (.iload_n 1, 1) := by decide +kernel
theorem dX12_holdsShared_93 : decode cX12_holdsShared 93 = .ok (.lload 5, 2) := by decide +kernel
theorem dX12_holdsShared_95 : decode cX12_holdsShared 95 = .ok (.l2i, 1) := by decide +kernel
theorem dX12_holdsShared_96 : decode cX12_holdsShared 96 = .ok (.invokevirtual 170, 3) := by decide +kernel
theorem dX12_holdsShared_99 : decode cX12_holdsShared 99 = .ok (.invokevirtual 155, 3) := by decide +kernel
theorem dX12_holdsShared_102 : decode cX12_holdsShared 102 = .ok (.iinc 3 1, 3) := by decide +kernel
theorem dX12_holdsShared_105 : decode cX12_holdsShared 105 = .ok (.goto 59, 3) := by decide +kernel
theorem dX12_holdsShared_108 : decode cX12_holdsShared 108 = .ok (.sipush 300, 3) := by decide +kernel
theorem dX12_holdsShared_111 : decode cX12_holdsShared 111 = .ok (.iload_n 2, 1) := by decide +kernel
theorem dX12_holdsShared_112 : decode cX12_holdsShared 112 = .ok (.imul, 1) := by decide +kernel
theorem dX12_holdsShared_113 : decode cX12_holdsShared 113 = .ok (.istore 7, 2) := by decide +kernel
theorem dX12_holdsShared_115 : decode cX12_holdsShared 115 = .ok (.iload 7, 2) := by decide +kernel
theorem dX12_holdsShared_117 : decode cX12_holdsShared 117 = .ok (.sipush 300, 3) := by decide +kernel
theorem dX12_holdsShared_120 : decode cX12_holdsShared 120 = .ok (.iload_n 2, 1) := by decide +kernel
theorem dX12_holdsShared_121 : decode cX12_holdsShared 121 = .ok (.imul, 1) := by decide +kernel
theorem dX12_holdsShared_122 : decode cX12_holdsShared 122 = .ok (.aload_n 0, 1) := by decide +kernel
theorem dX12_holdsShared_123 : decode cX12_holdsShared 123 = .ok (.iload_n 2, 1) := by decide +kernel
theorem dX12_holdsShared_124 : decode cX12_holdsShared 124 = .ok (.invokevirtual 152, 3) := by decide +kernel
theorem dX12_holdsShared_127 : decode cX12_holdsShared 127 = .ok (.iadd, 1) := by decide +kernel
theorem dX12_holdsShared_128 : decode cX12_holdsShared 128 = .ok (.if_icmp .ge 36, 3) := by decide +kernel
theorem dX12_holdsShared_131 : decode cX12_holdsShared 131 = .ok (.aload_n 0, 1) := by decide +kernel
theorem dX12_holdsShared_132 : decode cX12_holdsShared 132 = .ok (.getfield 52, 3) := by decide +kernel
theorem dX12_holdsShared_135 : decode cX12_holdsShared 135 = .ok (.iload 7, 2) := by decide +kernel
theorem dX12_holdsShared_137 : decode cX12_holdsShared 137 = .ok (.iaload, 1) := by decide +kernel
theorem dX12_holdsShared_138 : decode cX12_holdsShared 138 = .ok (.i2l, 1) := by decide +kernel
theorem dX12_holdsShared_139 : decode cX12_holdsShared 139 = .ok (.lload 5, 2) := by decide +kernel
theorem dX12_holdsShared_141 : decode cX12_holdsShared 141 = .ok (.lcmp, 1) := by decide +kernel
theorem dX12_holdsShared_142 : decode cX12_holdsShared 142 = .ok (.ifCond .ne 14, 3) := by decide +kernel
theorem dX12_holdsShared_145 : decode cX12_holdsShared 145 = .ok (.aload_n 0, 1) := by decide +kernel
theorem dX12_holdsShared_146 : decode cX12_holdsShared 146 = .ok (.iload_n 1, 1) := by decide +kernel
theorem dX12_holdsShared_147 : decode cX12_holdsShared 147 = .ok (.iload 7, 2) := by decide +kernel
theorem dX12_holdsShared_149 : decode cX12_holdsShared 149 = .ok (.iload_n 3, 1) := by decide +kernel
theorem dX12_holdsShared_150 : decode cX12_holdsShared 150 = .ok (.invokevirtual 173, 3) := by decide +kernel
theorem dX12_holdsShared_153 : decode cX12_holdsShared 153 = .ok (.goto 4, 3) := by decide +kernel
theorem dX12_holdsShared_156 : decode cX12_holdsShared 156 = .ok (.iload_n 3, 1) := by decide +kernel
theorem dX12_holdsShared_157 : decode cX12_holdsShared 157 = .ok (.istore_n 3, 1) := by decide +kernel
theorem dX12_holdsShared_158 : decode cX12_holdsShared 158 = .ok (.iinc 7 1, 3) := by decide +kernel
theorem dX12_holdsShared_161 : decode cX12_holdsShared 161 = .ok (.goto (-46), 3) := by decide +kernel
theorem dX12_holdsShared_164 : decode cX12_holdsShared 164 = .ok (.aload_n 0, 1) := by decide +kernel
theorem dX12_holdsShared_165 : decode cX12_holdsShared 165 = .ok (.iload_n 2, 1) := by decide +kernel
theorem dX12_holdsShared_166 : decode cX12_holdsShared 166 = .ok (.lload 5, 2) := by decide +kernel
theorem dX12_holdsShared_168 : decode cX12_holdsShared 168 = .ok (.iload 4, 2) := by decide +kernel
theorem dX12_holdsShared_170 : decode cX12_holdsShared 170 = .ok (.aload_n 0, 1) := by decide +kernel
theorem dX12_holdsShared_171 : decode cX12_holdsShared 171 = .ok (.getfield 46, 3) := by decide +kernel
theorem dX12_holdsShared_174 : decode cX12_holdsShared 174 = .ok (.iload_n 1, 1) := by decide +kernel
theorem dX12_holdsShared_175 : decode cX12_holdsShared 175 = .ok (.iaload, 1) := by decide +kernel
theorem dX12_holdsShared_176 : decode cX12_holdsShared 176 = .ok (.invokevirtual 166, 3) := by decide +kernel
theorem dX12_holdsShared_179 : decode cX12_holdsShared 179 = .ok (.lstore 5, 2) := by decide +kernel
theorem dX12_holdsShared_181 : decode cX12_holdsShared 181 = .ok (.goto (-115), 3) := by decide +kernel
theorem dX12_holdsShared_184 : decode cX12_holdsShared 184 = .ok (.iinc 4 1, 3) := by decide +kernel
theorem dX12_holdsShared_187 : decode cX12_holdsShared 187 = .ok (.goto (-163), 3) := by decide +kernel
theorem dX12_holdsShared_190 : decode cX12_holdsShared 190 = .ok (.aload_n 0, 1) := by decide +kernel
theorem dX12_holdsShared_191 : decode cX12_holdsShared 191 = .ok (.getfield 49, 3) := by decide +kernel
theorem dX12_holdsShared_194 : decode cX12_holdsShared 194 = .ok (.bipush 9, 2) := by decide +kernel
theorem dX12_holdsShared_196 : decode cX12_holdsShared 196 = .ok (.iload_n 1, 1) := by decide +kernel
theorem dX12_holdsShared_197 : decode cX12_holdsShared 197 = .ok (.imul, 1) := by decide +kernel
theorem dX12_holdsShared_198 : decode cX12_holdsShared 198 = .ok (.aload_n 0, 1) := by decide +kernel
theorem dX12_holdsShared_199 : decode cX12_holdsShared 199 = .ok (.getfield 46, 3) := by decide +kernel
theorem dX12_holdsShared_202 : decode cX12_holdsShared 202 = .ok (.iload_n 1, 1) := by decide +kernel
theorem dX12_holdsShared_203 : decode cX12_holdsShared 203 = .ok (.iaload, 1) := by decide +kernel
theorem dX12_holdsShared_204 : decode cX12_holdsShared 204 = .ok (.iadd, 1) := by decide +kernel
theorem dX12_holdsShared_205 : decode cX12_holdsShared 205 = .ok (.iload_n 3, 1) := by decide +kernel
theorem dX12_holdsShared_206 : decode cX12_holdsShared 206 = .ok (.iastore, 1) := by decide +kernel
theorem dX12_holdsShared_207 : decode cX12_holdsShared 207 = .ok (.return_, 1) := by decide +kernel
theorem dX12_holdsBroad_0 : decode cX12_holdsBroad 0 = .ok (.aload_n 0, 1) := by decide +kernel
theorem dX12_holdsBroad_1 : decode cX12_holdsBroad 1 = .ok (.getfield 13, 3) := by decide +kernel
theorem dX12_holdsBroad_4 : decode cX12_holdsBroad 4 = .ok (.iload_n 1, 1) := by decide +kernel
theorem dX12_holdsBroad_5 : decode cX12_holdsBroad 5 = .ok (.iaload, 1) := by decide +kernel
theorem dX12_holdsBroad_6 : decode cX12_holdsBroad 6 = .ok (.istore_n 2, 1) := by decide +kernel
theorem dX12_holdsBroad_7 : decode cX12_holdsBroad 7 = .ok (.aload_n 0, 1) := by decide +kernel
theorem dX12_holdsBroad_8 : decode cX12_holdsBroad 8 = .ok (.getfield 46, 3) := by decide +kernel
theorem dX12_holdsBroad_11 : decode cX12_holdsBroad 11 = .ok (.iload_n 1, 1) := by decide +kernel
theorem dX12_holdsBroad_12 : decode cX12_holdsBroad 12 = .ok (.aload_n 0, 1) := by decide +kernel
theorem dX12_holdsBroad_13 : decode cX12_holdsBroad 13 = .ok (.getfield 46, 3) := by decide +kernel
theorem dX12_holdsBroad_16 : decode cX12_holdsBroad 16 = .ok (.iload_n 2, 1) := by decide +kernel
theorem dX12_holdsBroad_17 : decode cX12_holdsBroad 17 = .ok (.iaload, 1) := by decide +kernel
theorem dX12_holdsBroad_18 : decode cX12_holdsBroad 18 = .ok (.iastore, 1) := by decide +kernel
theorem dX12_holdsBroad_19 : decode cX12_holdsBroad 19 = .ok (.iconst 0, 1) := by decide +kernel
theorem dX12_holdsBroad_20 : decode cX12_holdsBroad 20 = .ok (.istore_n 3, 1) := by decide +kernel
theorem dX12_holdsBroad_21 : decode cX12_holdsBroad 21 = .ok (.iconst 0, 1) := by decide +kernel
theorem dX12_holdsBroad_22 : decode cX12_holdsBroad 22 = .ok (.istore 4, 2) := by decide +kernel
theorem dX12_holdsBroad_24 : decode cX12_holdsBroad 24 = .ok (.iload 4, 2) := by decide +kernel
theorem dX12_holdsBroad_26 : decode cX12_holdsBroad 26 = .ok (.aload_n 0, 1) := by decide +kernel
theorem dX12_holdsBroad_27 : decode cX12_holdsBroad 27 = .ok (.getfield 46, 3) := by decide +kernel
theorem dX12_holdsBroad_30 : decode cX12_holdsBroad 30 = .ok (.iload_n 1, 1) := by decide +kernel
theorem dX12_holdsBroad_31 : decode cX12_holdsBroad 31 = .ok (.iaload, 1) := by decide +kernel
theorem dX12_holdsBroad_32 : decode cX12_holdsBroad 32 = .ok (.if_icmp .ge 72, 3) := by decide +kernel
theorem dX12_holdsBroad_35 : decode cX12_holdsBroad 35 = .ok (.aload_n 0, 1) := by decide +kernel
theorem dX12_holdsBroad_36 : decode cX12_holdsBroad 36 = .ok (.getfield 49, 3) := by decide +kernel
theorem dX12_holdsBroad_39 : decode cX12_holdsBroad 39 = .ok (.bipush 9, 2) := by decide +kernel
theorem dX12_holdsBroad_41 : decode cX12_holdsBroad 41 = .ok (.iload_n 1, 1) := by decide +kernel
theorem dX12_holdsBroad_42 : decode cX12_holdsBroad 42 = .ok (.imul, 1) := by decide +kernel
theorem dX12_holdsBroad_43 : decode cX12_holdsBroad 43 = .ok (.iload 4, 2) := by decide +kernel
theorem dX12_holdsBroad_45 : decode cX12_holdsBroad 45 = .ok (.iadd, 1) := by decide +kernel
theorem dX12_holdsBroad_46 : decode cX12_holdsBroad 46 = .ok (.iload_n 3, 1) := by decide +kernel
theorem dX12_holdsBroad_47 : decode cX12_holdsBroad 47 = .ok (.iastore, 1) := by decide +kernel
theorem dX12_holdsBroad_48 : decode cX12_holdsBroad 48 = .ok (.sipush 300, 3) := by decide +kernel
theorem dX12_holdsBroad_51 : decode cX12_holdsBroad 51 = .ok (.iload_n 2, 1) := by decide +kernel
theorem dX12_holdsBroad_52 : decode cX12_holdsBroad 52 = .ok (.imul, 1) := by decide +kernel
theorem dX12_holdsBroad_53 : decode cX12_holdsBroad 53 = .ok (.aload_n 0, 1) := by decide +kernel
theorem dX12_holdsBroad_54 : decode cX12_holdsBroad 54 = .ok (.iload_n 2, 1) := by decide +kernel
theorem dX12_holdsBroad_55 : decode cX12_holdsBroad 55 = .ok (.iload 4, 2) := by decide +kernel
theorem dX12_holdsBroad_57 : decode cX12_holdsBroad 57 = .ok (.invokevirtual 148, 3) := by decide +kernel
theorem dX12_holdsBroad_60 : decode cX12_holdsBroad 60 = .ok (.iadd, 1) := by decide +kernel
theorem dX12_holdsBroad_61 : decode cX12_holdsBroad 61 = .ok (.istore 5, 2) := by decide +kernel
theorem dX12_holdsBroad_63 : decode cX12_holdsBroad 63 = .ok (.iload 5, 2) := by decide +kernel
theorem dX12_holdsBroad_65 : decode cX12_holdsBroad 65 = .ok (.sipush 300, 3) := by decide +kernel
theorem dX12_holdsBroad_68 : decode cX12_holdsBroad 68 = .ok (.iload_n 2, 1) := by decide +kernel
theorem dX12_holdsBroad_69 : decode cX12_holdsBroad 69 = .ok (.imul, 1) := by decide +kernel
theorem dX12_holdsBroad_70 : decode cX12_holdsBroad 70 = .ok (.aload_n 0, 1) := by decide +kernel
theorem dX12_holdsBroad_71 : decode cX12_holdsBroad 71 = .ok (.iload_n 2, 1) := by decide +kernel
theorem dX12_holdsBroad_72 : decode cX12_holdsBroad 72 = .ok (.iload 4, 2) := by decide +kernel
theorem dX12_holdsBroad_74 : decode cX12_holdsBroad 74 = .ok (.iconst 1, 1) := by decide +kernel
theorem dX12_holdsBroad_75 : decode cX12_holdsBroad 75 = .ok (.iadd, 1) := by decide +kernel
theorem dX12_holdsBroad_76 : decode cX12_holdsBroad 76 = .ok (.invokevirtual 148, 3) := by decide +kernel
theorem dX12_holdsBroad_79 : decode cX12_holdsBroad 79 = .ok (.iadd, 1) := by decide +kernel
theorem dX12_holdsBroad_80 : decode cX12_holdsBroad 80 = .ok (.if_icmp .ge 18, 3) := by decide +kernel
theorem dX12_holdsBroad_83 : decode cX12_holdsBroad 83 = .ok (.aload_n 0, 1) := by decide +kernel
theorem dX12_holdsBroad_84 : decode cX12_holdsBroad 84 = .ok (.iload_n 1, 1) := by decide +kernel
theorem dX12_holdsBroad_85 : decode cX12_holdsBroad 85 = .ok (.iload 5, 2) := by decide +kernel
theorem dX12_holdsBroad_87 : decode cX12_holdsBroad 87 = .ok (.iload_n 3, 1) := by decide +kernel
theorem dX12_holdsBroad_88 : decode cX12_holdsBroad 88 = .ok (.invokevirtual 173, 3) := by decide +kernel
theorem dX12_holdsBroad_91 : decode cX12_holdsBroad 91 = .ok (.istore_n 3, 1) := by decide +kernel
theorem dX12_holdsBroad_92 : decode cX12_holdsBroad 92 = .ok (.iinc 5 1, 3) := by decide +kernel
theorem dX12_holdsBroad_95 : decode cX12_holdsBroad 95 = .ok (.goto (-32), 3) := by decide +kernel
theorem dX12_holdsBroad_98 : decode cX12_holdsBroad 98 = .ok (.iinc 4 1, 3) := by decide +kernel
theorem dX12_holdsBroad_101 : decode cX12_holdsBroad 101 = .ok (.goto (-77), 3) := by decide +kernel
theorem dX12_holdsBroad_104 : decode cX12_holdsBroad 104 = .ok (.aload_n 0, 1) := by decide +kernel
theorem dX12_holdsBroad_105 : decode cX12_holdsBroad 105 = .ok (.getfield 49, 3) := by decide +kernel
theorem dX12_holdsBroad_108 : decode cX12_holdsBroad 108 = .ok (.bipush 9, 2) := by decide +kernel
theorem dX12_holdsBroad_110 : decode cX12_holdsBroad 110 = .ok (.iload_n 1, 1) := by decide +kernel
theorem dX12_holdsBroad_111 : decode cX12_holdsBroad 111 = .ok (.imul, 1) := by decide +kernel
theorem dX12_holdsBroad_112 : decode cX12_holdsBroad 112 = .ok (.aload_n 0, 1) := by decide +kernel
theorem dX12_holdsBroad_113 : decode cX12_holdsBroad 113 = .ok (.getfield 46, 3) := by decide +kernel
theorem dX12_holdsBroad_116 : decode cX12_holdsBroad 116 = .ok (.iload_n 1, 1) := by decide +kernel
theorem dX12_holdsBroad_117 : decode cX12_holdsBroad 117 = .ok (.iaload, 1) := by decide +kernel
theorem dX12_holdsBroad_118 : decode cX12_holdsBroad 118 = .ok (.iadd, 1) := by decide +kernel
theorem dX12_holdsBroad_119 : decode cX12_holdsBroad 119 = .ok (.iload_n 3, 1) := by decide +kernel
theorem dX12_holdsBroad_120 : decode cX12_holdsBroad 120 = .ok (.iastore, 1) := by decide +kernel
theorem dX12_holdsBroad_121 : decode cX12_holdsBroad 121 = .ok (.return_, 1) := by decide +kernel
theorem dX12_knows_0 : decode cX12_knows 0 = .ok (.iconst 0, 1) := by decide +kernel
theorem dX12_knows_1 : decode cX12_knows 1 = .ok (.istore_n 1, 1) := by decide +kernel
theorem dX12_knows_2 : decode cX12_knows 2 = .ok (.iload_n 1, 1) := by decide +kernel
theorem dX12_knows_3 : decode cX12_knows 3 = .ok (.aload_n 0, 1) := by decide +kernel
theorem dX12_knows_4 : decode cX12_knows 4 = .ok (.getfield 123, 3) := by decide +kernel
theorem dX12_knows_7 : decode cX12_knows 7 = .ok (.if_icmp .ge 100, 3) := by decide +kernel
theorem dX12_knows_10 : decode cX12_knows 10 = .ok (.aload_n 0, 1) := by decide +kernel
theorem dX12_knows_11 : decode cX12_knows 11 = .ok (.getfield 126, 3) := by decide +kernel
theorem dX12_knows_14 : decode cX12_knows 14 = .ok (.ifCond .ne 93, 3) := by decide +kernel
theorem dX12_knows_17 : decode cX12_knows 17 = .ok (.aload_n 0, 1) := by decide +kernel
theorem dX12_knows_18 : decode cX12_knows 18 = .ok (.getfield 7, 3) := by decide +kernel
theorem dX12_knows_21 : decode cX12_knows 21 = .ok (.iload_n 1, 1) := by decide +kernel
theorem dX12_knows_22 : decode cX12_knows 22 = .ok (.iaload, 1) := by decide +kernel
theorem dX12_knows_23 : decode cX12_knows 23 = .ok (.ifCond .ne 11, 3) := by decide +kernel
theorem dX12_knows_26 : decode cX12_knows 26 = .ok (.aload_n 0, 1) := by decide +kernel
theorem dX12_knows_27 : decode cX12_knows 27 = .ok (.iload_n 1, 1) := by decide +kernel
theorem dX12_knows_28 : decode cX12_knows 28 = .ok (.invokevirtual 177, 3) := by decide +kernel
theorem dX12_knows_31 : decode cX12_knows 31 = .ok (.goto 70, 3) := by decide +kernel
theorem dX12_knows_34 : decode cX12_knows 34 = .ok (.aload_n 0, 1) := by decide +kernel
theorem dX12_knows_35 : decode cX12_knows 35 = .ok (.getfield 7, 3) := by decide +kernel
theorem dX12_knows_38 : decode cX12_knows 38 = .ok (.iload_n 1, 1) := by decide +kernel
theorem dX12_knows_39 : decode cX12_knows 39 = .ok (.iaload, 1) := by decide +kernel
theorem dX12_knows_40 : decode cX12_knows 40 = .ok (.iconst 3, 1) := by decide +kernel
theorem dX12_knows_41 : decode cX12_knows 41 = .ok (.if_icmp .ge 11, 3) := by decide +kernel
theorem dX12_knows_44 : decode cX12_knows 44 = .ok (.aload_n 0, 1) := by decide +kernel
theorem dX12_knows_45 : decode cX12_knows 45 = .ok (.iload_n 1, 1) := by decide +kernel
theorem dX12_knows_46 : decode cX12_knows 46 = .ok (.invokevirtual 181, 3) := by decide +kernel
theorem dX12_knows_49 : decode cX12_knows 49 = .ok (.goto 52, 3) := by decide +kernel
theorem dX12_knows_52 : decode cX12_knows 52 = .ok (.aload_n 0, 1) := by decide +kernel
theorem dX12_knows_53 : decode cX12_knows 53 = .ok (.getfield 7, 3) := by decide +kernel
theorem dX12_knows_56 : decode cX12_knows 56 = .ok (.iload_n 1, 1) := by decide +kernel
theorem dX12_knows_57 : decode cX12_knows 57 = .ok (.iaload, 1) := by decide +kernel
theorem dX12_knows_58 : decode cX12_knows 58 = .ok (.iconst 3, 1) := by decide +kernel
theorem dX12_knows_59 : decode cX12_knows 59 = .ok (.if_icmp .ne 11, 3) := by decide +kernel
theorem dX12_knows_62 : decode cX12_knows 62 = .ok (.aload_n 0, 1) := by decide +kernel
theorem dX12_knows_63 : decode cX12_knows 63 = .ok (.iload_n 1, 1) := by decide +kernel
theorem dX12_knows_64 : decode cX12_knows 64 = .ok (.invokevirtual 184, 3) := by decide +kernel
theorem dX12_knows_67 : decode cX12_knows 67 = .ok (.goto 34, 3) := by decide +kernel
theorem dX12_knows_70 : decode cX12_knows 70 = .ok (.aload_n 0, 1) := by decide +kernel
theorem dX12_knows_71 : decode cX12_knows 71 = .ok (.getfield 7, 3) := by decide +kernel
theorem dX12_knows_74 : decode cX12_knows 74 = .ok (.iload_n 1, 1) := by decide +kernel
theorem dX12_knows_75 : decode cX12_knows 75 = .ok (.iaload, 1) := by decide +kernel
theorem dX12_knows_76 : decode cX12_knows 76 = .ok (.iconst 5, 1) := by decide +kernel
theorem dX12_knows_77 : decode cX12_knows 77 = .ok (.if_icmp .ne 19, 3) := by decide +kernel
theorem dX12_knows_80 : decode cX12_knows 80 = .ok (.aload_n 0, 1) := by decide +kernel
theorem dX12_knows_81 : decode cX12_knows 81 = .ok (.iload_n 1, 1) := by decide +kernel
theorem dX12_knows_82 : decode cX12_knows 82 = .ok (.invokevirtual 187, 3) := by decide +kernel
theorem dX12_knows_85 : decode cX12_knows 85 = .ok (.ifCond .eq 11, 3) := by decide +kernel
theorem dX12_knows_88 : decode cX12_knows 88 = .ok (.aload_n 0, 1) := by decide +kernel
theorem dX12_knows_89 : decode cX12_knows 89 = .ok (.iload_n 1, 1) := by decide +kernel
theorem dX12_knows_90 : decode cX12_knows 90 = .ok (.invokevirtual 190, 3) := by decide +kernel
theorem dX12_knows_93 : decode cX12_knows 93 = .ok (.goto 8, 3) := by decide +kernel
theorem dX12_knows_96 : decode cX12_knows 96 = .ok (.aload_n 0, 1) := by decide +kernel
theorem dX12_knows_97 : decode cX12_knows 97 = .ok (.iload_n 1, 1) := by decide +kernel
theorem dX12_knows_98 : decode cX12_knows 98 = .ok (.invokevirtual 193, 3) := by decide +kernel
theorem dX12_knows_101 : decode cX12_knows 101 = .ok (.iinc 1 1, 3) := by decide +kernel
theorem dX12_knows_104 : decode cX12_knows 104 = .ok (.goto (-102), 3) := by decide +kernel
theorem dX12_knows_107 : decode cX12_knows 107 = .ok (.aload_n 0, 1) := by decide +kernel
theorem dX12_knows_108 : decode cX12_knows 108 = .ok (.iconst 1, 1) := by decide +kernel
theorem dX12_knows_109 : decode cX12_knows 109 = .ok (.putfield 126, 3) := by decide +kernel
theorem dX12_knows_112 : decode cX12_knows 112 = .ok (.return_, 1) := by decide +kernel
theorem dX12_isNoNode_0 : decode cX12_isNoNode 0 = .ok (.aload_n 0, 1) := by decide +kernel
theorem dX12_isNoNode_1 : decode cX12_isNoNode 1 = .ok (.invokevirtual 196, 3) := by decide +kernel
theorem dX12_isNoNode_4 : decode cX12_isNoNode 4 = .ok (.aload_n 0, 1) := by decide +kernel
theorem dX12_isNoNode_5 : decode cX12_isNoNode 5 = .ok (.aload_n 0, 1) := by decide +kernel
theorem dX12_isNoNode_6 : decode cX12_isNoNode 6 = .ok (.iload_n 1, 1) := by decide +kernel
theorem dX12_isNoNode_7 : decode cX12_isNoNode 7 = .ok (.invokevirtual 138, 3) := by decide +kernel
theorem dX12_isNoNode_10 : decode cX12_isNoNode 10 = .ok (.ifCond .eq 7, 3) := by decide +kernel
theorem dX12_isNoNode_13 : decode cX12_isNoNode 13 = .ok (.iconst 0, 1) := by decide +kernel
theorem dX12_isNoNode_14 : decode cX12_isNoNode 14 = .ok (.goto 4, 3) := by decide +kernel
theorem dX12_isNoNode_17 : decode cX12_isNoNode 17 = .ok (.iconst 1, 1) := by decide +kernel
theorem dX12_isNoNode_18 : decode cX12_isNoNode 18 = .ok (.invokevirtual 130, 3) := by decide +kernel
theorem dX12_isNoNode_21 : decode cX12_isNoNode 21 = .ok (.ireturn, 1) := by decide +kernel
theorem dX12_partitions_0 : decode cX12_partitions 0 = .ok (.aload_n 0, 1) := by decide +kernel
theorem dX12_partitions_1 : decode cX12_partitions 1 = .ok (.iload_n 1, 1) := by decide +kernel
theorem dX12_partitions_2 : decode cX12_partitions 2 = .ok (.invokevirtual 199, 3) := by decide +kernel
theorem dX12_partitions_5 : decode cX12_partitions 5 = .ok (.ifCond .eq 7, 3) := by decide +kernel
theorem dX12_partitions_8 : decode cX12_partitions 8 = .ok (.iconst 0, 1) := by decide +kernel
theorem dX12_partitions_9 : decode cX12_partitions 9 = .ok (.goto 9, 3) := by decide +kernel
theorem dX12_partitions_12 : decode cX12_partitions 12 = .ok (.aload_n 0, 1) := by decide +kernel
theorem dX12_partitions_13 : decode cX12_partitions 13 = .ok (.getfield 46, 3) := by decide +kernel
theorem dX12_partitions_16 : decode cX12_partitions 16 = .ok (.iload_n 1, 1) := by decide +kernel
theorem dX12_partitions_17 : decode cX12_partitions 17 = .ok (.iaload, 1) := by decide +kernel
theorem dX12_partitions_18 : decode cX12_partitions 18 = .ok (.ireturn, 1) := by decide +kernel
theorem dX12_rowsOf_0 : decode cX12_rowsOf 0 = .ok (.aload_n 0, 1) := by decide +kernel
theorem dX12_rowsOf_1 : decode cX12_rowsOf 1 = .ok (.iload_n 1, 1) := by decide +kernel
theorem dX12_rowsOf_2 : decode cX12_rowsOf 2 = .ok (.iload_n 2, 1) := by decide +kernel
theorem dX12_rowsOf_3 : decode cX12_rowsOf 3 = .ok (.iconst 1, 1) := by decide +kernel
theorem dX12_rowsOf_4 : decode cX12_rowsOf 4 = .ok (.iadd, 1) := by decide +kernel
theorem dX12_rowsOf_5 : decode cX12_rowsOf 5 = .ok (.invokevirtual 148, 3) := by decide +kernel
theorem dX12_rowsOf_8 : decode cX12_rowsOf 8 = .ok (.aload_n 0, 1) := by decide +kernel
theorem dX12_rowsOf_9 : decode cX12_rowsOf 9 = .ok (.iload_n 1, 1) := by decide +kernel
theorem dX12_rowsOf_10 : decode cX12_rowsOf 10 = .ok (.iload_n 2, 1) := by decide +kernel
theorem dX12_rowsOf_11 : decode cX12_rowsOf 11 = .ok (.invokevirtual 148, 3) := by decide +kernel
theorem dX12_rowsOf_14 : decode cX12_rowsOf 14 = .ok (.isub, 1) := by decide +kernel
theorem dX12_rowsOf_15 : decode cX12_rowsOf 15 = .ok (.ireturn, 1) := by decide +kernel
theorem dX12_isPart_0 : decode cX12_isPart 0 = .ok (.aload_n 0, 1) := by decide +kernel
theorem dX12_isPart_1 : decode cX12_isPart 1 = .ok (.invokevirtual 196, 3) := by decide +kernel
theorem dX12_isPart_4 : decode cX12_isPart 4 = .ok (.aload_n 0, 1) := by decide +kernel
theorem dX12_isPart_5 : decode cX12_isPart 5 = .ok (.iload_n 1, 1) := by decide +kernel
theorem dX12_isPart_6 : decode cX12_isPart 6 = .ok (.invokevirtual 138, 3) := by decide +kernel
theorem dX12_isPart_9 : decode cX12_isPart 9 = .ok (.ifCond .eq 21, 3) := by decide +kernel
theorem dX12_isPart_12 : decode cX12_isPart 12 = .ok (.iload_n 2, 1) := by decide +kernel
theorem dX12_isPart_13 : decode cX12_isPart 13 = .ok (.ifCond .lt 17, 3) := by decide +kernel
theorem dX12_isPart_16 : decode cX12_isPart 16 = .ok (.iload_n 2, 1) := by decide +kernel
theorem dX12_isPart_17 : decode cX12_isPart 17 = .ok (.aload_n 0, 1) := by decide +kernel
theorem dX12_isPart_18 : decode cX12_isPart 18 = .ok (.getfield 46, 3) := by decide +kernel
theorem dX12_isPart_21 : decode cX12_isPart 21 = .ok (.iload_n 1, 1) := by decide +kernel
theorem dX12_isPart_22 : decode cX12_isPart 22 = .ok (.iaload, 1) := by decide +kernel
theorem dX12_isPart_23 : decode cX12_isPart 23 = .ok (.if_icmp .ge 7, 3) := by decide +kernel
theorem dX12_isPart_26 : decode cX12_isPart 26 = .ok (.iconst 1, 1) := by decide +kernel
theorem dX12_isPart_27 : decode cX12_isPart 27 = .ok (.goto 4, 3) := by decide +kernel
theorem dX12_isPart_30 : decode cX12_isPart 30 = .ok (.iconst 0, 1) := by decide +kernel
theorem dX12_isPart_31 : decode cX12_isPart 31 = .ok (.ireturn, 1) := by decide +kernel
theorem dX12_rowsIn_0 : decode cX12_rowsIn 0 = .ok (.aload_n 0, 1) := by decide +kernel
theorem dX12_rowsIn_1 : decode cX12_rowsIn 1 = .ok (.aload_n 0, 1) := by decide +kernel
theorem dX12_rowsIn_2 : decode cX12_rowsIn 2 = .ok (.iload_n 1, 1) := by decide +kernel
theorem dX12_rowsIn_3 : decode cX12_rowsIn 3 = .ok (.iload_n 2, 1) := by decide +kernel
theorem dX12_rowsIn_4 : decode cX12_rowsIn 4 = .ok (.invokevirtual 202, 3) := by decide +kernel
theorem dX12_rowsIn_7 : decode cX12_rowsIn 7 = .ok (.ifCond .eq 7, 3) := by decide +kernel
theorem dX12_rowsIn_10 : decode cX12_rowsIn 10 = .ok (.iconst 0, 1) := by decide +kernel
theorem dX12_rowsIn_11 : decode cX12_rowsIn 11 = .ok (.goto 4, 3) := by decide +kernel
theorem dX12_rowsIn_14 : decode cX12_rowsIn 14 = .ok (.iconst 1, 1) := by decide +kernel
theorem dX12_rowsIn_15 : decode cX12_rowsIn 15 = .ok (.invokevirtual 130, 3) := by decide +kernel
theorem dX12_rowsIn_18 : decode cX12_rowsIn 18 = .ok (.ifCond .eq 7, 3) := by decide +kernel
theorem dX12_rowsIn_21 : decode cX12_rowsIn 21 = .ok (.iconst 0, 1) := by decide +kernel
theorem dX12_rowsIn_22 : decode cX12_rowsIn 22 = .ok (.goto 9, 3) := by decide +kernel
theorem dX12_rowsIn_25 : decode cX12_rowsIn 25 = .ok (.aload_n 0, 1) := by decide +kernel
theorem dX12_rowsIn_26 : decode cX12_rowsIn 26 = .ok (.iload_n 1, 1) := by decide +kernel
theorem dX12_rowsIn_27 : decode cX12_rowsIn 27 = .ok (.iload_n 2, 1) := by decide +kernel
theorem dX12_rowsIn_28 : decode cX12_rowsIn 28 = .ok (.invokevirtual 206, 3) := by decide +kernel
theorem dX12_rowsIn_31 : decode cX12_rowsIn 31 = .ok (.ireturn, 1) := by decide +kernel
theorem dX12_rows_0 : decode cX12_rows 0 = .ok (.aload_n 0, 1) := by decide +kernel
theorem dX12_rows_1 : decode cX12_rows 1 = .ok (.iload_n 1, 1) := by decide +kernel
theorem dX12_rows_2 : decode cX12_rows 2 = .ok (.invokevirtual 199, 3) := by decide +kernel
theorem dX12_rows_5 : decode cX12_rows 5 = .ok (.ifCond .eq 7, 3) := by decide +kernel
theorem dX12_rows_8 : decode cX12_rows 8 = .ok (.iconst 0, 1) := by decide +kernel
theorem dX12_rows_9 : decode cX12_rows 9 = .ok (.goto 8, 3) := by decide +kernel
theorem dX12_rows_12 : decode cX12_rows 12 = .ok (.aload_n 0, 1) := by decide +kernel
theorem dX12_rows_13 : decode cX12_rows 13 = .ok (.iload_n 1, 1) := by decide +kernel
theorem dX12_rows_14 : decode cX12_rows 14 = .ok (.invokevirtual 152, 3) := by decide +kernel
theorem dX12_rows_17 : decode cX12_rows 17 = .ok (.ireturn, 1) := by decide +kernel
theorem dX12_ofRow_0 : decode cX12_ofRow 0 = .ok (.aload_n 0, 1) := by decide +kernel
theorem dX12_ofRow_1 : decode cX12_ofRow 1 = .ok (.iload_n 2, 1) := by decide +kernel
theorem dX12_ofRow_2 : decode cX12_ofRow 2 = .ok (.iload_n 3, 1) := by decide +kernel
theorem dX12_ofRow_3 : decode cX12_ofRow 3 = .ok (.invokevirtual 202, 3) := by decide +kernel
theorem dX12_ofRow_6 : decode cX12_ofRow 6 = .ok (.ifCond .eq 23, 3) := by decide +kernel
theorem dX12_ofRow_9 : decode cX12_ofRow 9 = .ok (.iload 4, 2) := by decide +kernel
theorem dX12_ofRow_11 : decode cX12_ofRow 11 = .ok (.ifCond .lt 18, 3) := by decide +kernel
theorem dX12_ofRow_14 : decode cX12_ofRow 14 = .ok (.iload 4, 2) := by decide +kernel
theorem dX12_ofRow_16 : decode cX12_ofRow 16 = .ok (.aload_n 0, 1) := by decide +kernel
theorem dX12_ofRow_17 : decode cX12_ofRow 17 = .ok (.iload_n 2, 1) := by decide +kernel
theorem dX12_ofRow_18 : decode cX12_ofRow 18 = .ok (.iload_n 3, 1) := by decide +kernel
theorem dX12_ofRow_19 : decode cX12_ofRow 19 = .ok (.invokevirtual 206, 3) := by decide +kernel
theorem dX12_ofRow_22 : decode cX12_ofRow 22 = .ok (.if_icmp .ge 7, 3) := by decide +kernel
theorem dX12_ofRow_25 : decode cX12_ofRow 25 = .ok (.iconst 1, 1) := by decide +kernel
theorem dX12_ofRow_26 : decode cX12_ofRow 26 = .ok (.goto 4, 3) := by decide +kernel
theorem dX12_ofRow_29 : decode cX12_ofRow 29 = .ok (.iconst 0, 1) := by decide +kernel
theorem dX12_ofRow_30 : decode cX12_ofRow 30 = .ok (.istore 5, 2) := by decide +kernel
theorem dX12_ofRow_32 : decode cX12_ofRow 32 = .ok (.aload_n 0, 1) := by decide +kernel
theorem dX12_ofRow_33 : decode cX12_ofRow 33 = .ok (.iload 5, 2) := by decide +kernel
theorem dX12_ofRow_35 : decode cX12_ofRow 35 = .ok (.ifCond .eq 7, 3) := by decide +kernel
theorem dX12_ofRow_38 : decode cX12_ofRow 38 = .ok (.iconst 0, 1) := by decide +kernel
theorem dX12_ofRow_39 : decode cX12_ofRow 39 = .ok (.goto 4, 3) := by decide +kernel
theorem dX12_ofRow_42 : decode cX12_ofRow 42 = .ok (.iconst 1, 1) := by decide +kernel
theorem dX12_ofRow_43 : decode cX12_ofRow 43 = .ok (.invokevirtual 130, 3) := by decide +kernel
theorem dX12_ofRow_46 : decode cX12_ofRow 46 = .ok (.ifCond .eq 7, 3) := by decide +kernel
theorem dX12_ofRow_49 : decode cX12_ofRow 49 = .ok (.iconst 0, 1) := by decide +kernel
theorem dX12_ofRow_50 : decode cX12_ofRow 50 = .ok (.goto 20, 3) := by decide +kernel
theorem dX12_ofRow_53 : decode cX12_ofRow 53 = .ok (.aload_n 1, 1) := by decide +kernel
theorem dX12_ofRow_54 : decode cX12_ofRow 54 = .ok (.sipush 300, 3) := by decide +kernel
theorem dX12_ofRow_57 : decode cX12_ofRow 57 = .ok (.iload_n 2, 1) := by decide +kernel
theorem dX12_ofRow_58 : decode cX12_ofRow 58 = .ok (.imul, 1) := by decide +kernel
theorem dX12_ofRow_59 : decode cX12_ofRow 59 = .ok (.aload_n 0, 1) := by decide +kernel
theorem dX12_ofRow_60 : decode cX12_ofRow 60 = .ok (.iload_n 2, 1) := by decide +kernel
theorem dX12_ofRow_61 : decode cX12_ofRow 61 = .ok (.iload_n 3, 1) := by decide +kernel
theorem dX12_ofRow_62 : decode cX12_ofRow 62 = .ok (.invokevirtual 148, 3) := by decide +kernel
theorem dX12_ofRow_65 : decode cX12_ofRow 65 = .ok (.iadd, 1) := by decide +kernel
theorem dX12_ofRow_66 : decode cX12_ofRow 66 = .ok (.iload 4, 2) := by decide +kernel
theorem dX12_ofRow_68 : decode cX12_ofRow 68 = .ok (.iadd, 1) := by decide +kernel
theorem dX12_ofRow_69 : decode cX12_ofRow 69 = .ok (.iaload, 1) := by decide +kernel
theorem dX12_ofRow_70 : decode cX12_ofRow 70 = .ok (.ireturn, 1) := by decide +kernel
theorem dX12_keyAt_0 : decode cX12_keyAt 0 = .ok (.aload_n 0, 1) := by decide +kernel
theorem dX12_keyAt_1 : decode cX12_keyAt 1 = .ok (.aload_n 0, 1) := by decide +kernel
theorem dX12_keyAt_2 : decode cX12_keyAt 2 = .ok (.getfield 52, 3) := by decide +kernel
theorem dX12_keyAt_5 : decode cX12_keyAt 5 = .ok (.iload_n 1, 1) := by decide +kernel
theorem dX12_keyAt_6 : decode cX12_keyAt 6 = .ok (.iload_n 2, 1) := by decide +kernel
theorem dX12_keyAt_7 : decode cX12_keyAt 7 = .ok (.iload_n 3, 1) := by decide +kernel
theorem dX12_keyAt_8 : decode cX12_keyAt 8 = .ok (.invokevirtual 209, 3) := by decide +kernel
theorem dX12_keyAt_11 : decode cX12_keyAt 11 = .ok (.ireturn, 1) := by decide +kernel
theorem dX12_valueAt_0 : decode cX12_valueAt 0 = .ok (.aload_n 0, 1) := by decide +kernel
theorem dX12_valueAt_1 : decode cX12_valueAt 1 = .ok (.aload_n 0, 1) := by decide +kernel
theorem dX12_valueAt_2 : decode cX12_valueAt 2 = .ok (.getfield 55, 3) := by decide +kernel
theorem dX12_valueAt_5 : decode cX12_valueAt 5 = .ok (.iload_n 1, 1) := by decide +kernel
theorem dX12_valueAt_6 : decode cX12_valueAt 6 = .ok (.iload_n 2, 1) := by decide +kernel
theorem dX12_valueAt_7 : decode cX12_valueAt 7 = .ok (.iload_n 3, 1) := by decide +kernel
theorem dX12_valueAt_8 : decode cX12_valueAt 8 = .ok (.invokevirtual 209, 3) := by decide +kernel
theorem dX12_valueAt_11 : decode cX12_valueAt 11 = .ok (.ireturn, 1) := by decide +kernel
theorem dX12_isBroad_0 : decode cX12_isBroad 0 = .ok (.aload_n 0, 1) := by decide +kernel
theorem dX12_isBroad_1 : decode cX12_isBroad 1 = .ok (.invokevirtual 196, 3) := by decide +kernel
theorem dX12_isBroad_4 : decode cX12_isBroad 4 = .ok (.aload_n 0, 1) := by decide +kernel
theorem dX12_isBroad_5 : decode cX12_isBroad 5 = .ok (.aload_n 0, 1) := by decide +kernel
theorem dX12_isBroad_6 : decode cX12_isBroad 6 = .ok (.iload_n 1, 1) := by decide +kernel
theorem dX12_isBroad_7 : decode cX12_isBroad 7 = .ok (.invokevirtual 138, 3) := by decide +kernel
theorem dX12_isBroad_10 : decode cX12_isBroad 10 = .ok (.ifCond .ne 7, 3) := by decide +kernel
theorem dX12_isBroad_13 : decode cX12_isBroad 13 = .ok (.iconst 1, 1) := by decide +kernel
theorem dX12_isBroad_14 : decode cX12_isBroad 14 = .ok (.goto 18, 3) := by decide +kernel
theorem dX12_isBroad_17 : decode cX12_isBroad 17 = .ok (.aload_n 0, 1) := by decide +kernel
theorem dX12_isBroad_18 : decode cX12_isBroad 18 = .ok (.getfield 7, 3) := by decide +kernel
theorem dX12_isBroad_21 : decode cX12_isBroad 21 = .ok (.iload_n 1, 1) := by decide +kernel
theorem dX12_isBroad_22 : decode cX12_isBroad 22 = .ok (.iaload, 1) := by decide +kernel
theorem dX12_isBroad_23 : decode cX12_isBroad 23 = .ok (.iconst 5, 1) := by decide +kernel
theorem dX12_isBroad_24 : decode cX12_isBroad 24 = .ok (.if_icmp .ne 7, 3) := by decide +kernel
theorem dX12_isBroad_27 : decode cX12_isBroad 27 = .ok (.iconst 0, 1) := by decide +kernel
theorem dX12_isBroad_28 : decode cX12_isBroad 28 = .ok (.goto 4, 3) := by decide +kernel
theorem dX12_isBroad_31 : decode cX12_isBroad 31 = .ok (.iconst 2, 1) := by decide +kernel
theorem dX12_isBroad_32 : decode cX12_isBroad 32 = .ok (.invokevirtual 130, 3) := by decide +kernel
theorem dX12_isBroad_35 : decode cX12_isBroad 35 = .ok (.ifCond .ne 15, 3) := by decide +kernel
theorem dX12_isBroad_38 : decode cX12_isBroad 38 = .ok (.aload_n 0, 1) := by decide +kernel
theorem dX12_isBroad_39 : decode cX12_isBroad 39 = .ok (.iload_n 1, 1) := by decide +kernel
theorem dX12_isBroad_40 : decode cX12_isBroad 40 = .ok (.invokevirtual 187, 3) := by decide +kernel
theorem dX12_isBroad_43 : decode cX12_isBroad 43 = .ok (.ifCond .eq 7, 3) := by decide +kernel
theorem dX12_isBroad_46 : decode cX12_isBroad 46 = .ok (.iconst 1, 1) := by decide +kernel
theorem dX12_isBroad_47 : decode cX12_isBroad 47 = .ok (.goto 4, 3) := by decide +kernel
theorem dX12_isBroad_50 : decode cX12_isBroad 50 = .ok (.iconst 0, 1) := by decide +kernel
theorem dX12_isBroad_51 : decode cX12_isBroad 51 = .ok (.ireturn, 1) := by decide +kernel
theorem dX12_digests_0 : decode cX12_digests 0 = .ok (.iconst 0, 1) := by decide +kernel
theorem dX12_digests_1 : decode cX12_digests 1 = .ok (.istore_n 2, 1) := by decide +kernel
theorem dX12_digests_2 : decode cX12_digests 2 = .ok (.sipush 300, 3) := by decide +kernel
theorem dX12_digests_5 : decode cX12_digests 5 = .ok (.iload_n 1, 1) := by decide +kernel
theorem dX12_digests_6 : decode cX12_digests 6 = .ok (.imul, 1) := by decide +kernel
theorem dX12_digests_7 : decode cX12_digests 7 = .ok (.istore_n 3, 1) := by decide +kernel
theorem dX12_digests_8 : decode cX12_digests 8 = .ok (.iload_n 3, 1) := by decide +kernel
theorem dX12_digests_9 : decode cX12_digests 9 = .ok (.sipush 300, 3) := by decide +kernel
theorem dX12_digests_12 : decode cX12_digests 12 = .ok (.iload_n 1, 1) := by decide +kernel
theorem dX12_digests_13 : decode cX12_digests 13 = .ok (.imul, 1) := by decide +kernel
theorem dX12_digests_14 : decode cX12_digests 14 = .ok (.aload_n 0, 1) := by decide +kernel
theorem dX12_digests_15 : decode cX12_digests 15 = .ok (.iload_n 1, 1) := by decide +kernel
theorem dX12_digests_16 : decode cX12_digests 16 = .ok (.invokevirtual 152, 3) := by decide +kernel
theorem dX12_digests_19 : decode cX12_digests 19 = .ok (.iadd, 1) := by decide +kernel
theorem dX12_digests_20 : decode cX12_digests 20 = .ok (.if_icmp .ge 35, 3) := by decide +kernel
theorem dX12_digests_23 : decode cX12_digests 23 = .ok (.bipush 31, 2) := by decide +kernel
theorem dX12_digests_25 : decode cX12_digests 25 = .ok (.aload_n 0, 1) := by decide +kernel
theorem dX12_digests_26 : decode cX12_digests 26 = .ok (.getfield 52, 3) := by decide +kernel
theorem dX12_digests_29 : decode cX12_digests 29 = .ok (.iload_n 3, 1) := by decide +kernel
theorem dX12_digests_30 : decode cX12_digests 30 = .ok (.iaload, 1) := by decide +kernel
theorem dX12_digests_31 : decode cX12_digests 31 = .ok (.imul, 1) := by decide +kernel
theorem dX12_digests_32 : decode cX12_digests 32 = .ok (.aload_n 0, 1) := by decide +kernel
theorem dX12_digests_33 : decode cX12_digests 33 = .ok (.getfield 55, 3) := by decide +kernel
theorem dX12_digests_36 : decode cX12_digests 36 = .ok (.iload_n 3, 1) := by decide +kernel
theorem dX12_digests_37 : decode cX12_digests 37 = .ok (.iaload, 1) := by decide +kernel
theorem dX12_digests_38 : decode cX12_digests 38 = .ok (.iadd, 1) := by decide +kernel
theorem dX12_digests_39 : decode cX12_digests 39 = .ok (.istore 4, 2) := by decide +kernel
theorem dX12_digests_41 : decode cX12_digests 41 = .ok (.iload_n 2, 1) := by decide +kernel
theorem dX12_digests_42 : decode cX12_digests 42 = .ok (.iload 4, 2) := by decide +kernel
theorem dX12_digests_44 : decode cX12_digests 44 = .ok (.iload 4, 2) := by decide +kernel
theorem dX12_digests_46 : decode cX12_digests 46 = .ok (.imul, 1) := by decide +kernel
theorem dX12_digests_47 : decode cX12_digests 47 = .ok (.iadd, 1) := by decide +kernel
theorem dX12_digests_48 : decode cX12_digests 48 = .ok (.istore_n 2, 1) := by decide +kernel
theorem dX12_digests_49 : decode cX12_digests 49 = .ok (.iinc 3 1, 3) := by decide +kernel
theorem dX12_digests_52 : decode cX12_digests 52 = .ok (.goto (-44), 3) := by decide +kernel
theorem dX12_digests_55 : decode cX12_digests 55 = .ok (.iload_n 2, 1) := by decide +kernel
theorem dX12_digests_56 : decode cX12_digests 56 = .ok (.ireturn, 1) := by decide +kernel
theorem dX12_digest_0 : decode cX12_digest 0 = .ok (.aload_n 0, 1) := by decide +kernel
theorem dX12_digest_1 : decode cX12_digest 1 = .ok (.iload_n 1, 1) := by decide +kernel
theorem dX12_digest_2 : decode cX12_digest 2 = .ok (.invokevirtual 199, 3) := by decide +kernel
theorem dX12_digest_5 : decode cX12_digest 5 = .ok (.ifCond .eq 7, 3) := by decide +kernel
theorem dX12_digest_8 : decode cX12_digest 8 = .ok (.iconst 0, 1) := by decide +kernel
theorem dX12_digest_9 : decode cX12_digest 9 = .ok (.goto 8, 3) := by decide +kernel
theorem dX12_digest_12 : decode cX12_digest 12 = .ok (.aload_n 0, 1) := by decide +kernel
theorem dX12_digest_13 : decode cX12_digest 13 = .ok (.iload_n 1, 1) := by decide +kernel
theorem dX12_digest_14 : decode cX12_digest 14 = .ok (.invokevirtual 213, 3) := by decide +kernel
theorem dX12_digest_17 : decode cX12_digest 17 = .ok (.ireturn, 1) := by decide +kernel
theorem dX12_digestInPlace_0 : decode cX12_digestInPlace 0 = .ok (.aload_n 0, 1) := by decide +kernel
theorem dX12_digestInPlace_1 : decode cX12_digestInPlace 1 = .ok (.iload_n 1, 1) := by decide +kernel
theorem dX12_digestInPlace_2 : decode cX12_digestInPlace 2 = .ok (.invokevirtual 199, 3) := by decide +kernel
theorem dX12_digestInPlace_5 : decode cX12_digestInPlace 5 = .ok (.ifCond .eq 7, 3) := by decide +kernel
theorem dX12_digestInPlace_8 : decode cX12_digestInPlace 8 = .ok (.iconst 0, 1) := by decide +kernel
theorem dX12_digestInPlace_9 : decode cX12_digestInPlace 9 = .ok (.goto 8, 3) := by decide +kernel
theorem dX12_digestInPlace_12 : decode cX12_digestInPlace 12 = .ok (.aload_n 0, 1) := by decide +kernel
theorem dX12_digestInPlace_13 : decode cX12_digestInPlace 13 = .ok (.iload_n 1, 1) := by decide +kernel
theorem dX12_digestInPlace_14 : decode cX12_digestInPlace 14 = .ok (.invokevirtual 213, 3) := by decide +kernel
theorem dX12_digestInPlace_17 : decode cX12_digestInPlace 17 = .ok (.ireturn, 1) := by decide +kernel
theorem dX12_setWorkers_0 : decode cX12_setWorkers 0 = .ok (.aload_n 0, 1) := by decide +kernel
theorem dX12_setWorkers_1 : decode cX12_setWorkers 1 = .ok (.iload_n 1, 1) := by decide +kernel
theorem dX12_setWorkers_2 : decode cX12_setWorkers 2 = .ok (.iconst 1, 1) := by decide +kernel
theorem dX12_setWorkers_3 : decode cX12_setWorkers 3 = .ok (.if_icmp .lt 8, 3) := by decide +kernel
theorem dX12_setWorkers_6 : decode cX12_setWorkers 6 = .ok (.iload_n 1, 1) := by decide +kernel
theorem dX12_setWorkers_7 : decode cX12_setWorkers 7 = .ok (.iconst 4, 1) := by decide +kernel
theorem dX12_setWorkers_8 : decode cX12_setWorkers 8 = .ok (.if_icmp .le 7, 3) := by decide +kernel
theorem dX12_setWorkers_11 : decode cX12_setWorkers 11 = .ok (.iconst 1, 1) := by decide +kernel
theorem dX12_setWorkers_12 : decode cX12_setWorkers 12 = .ok (.goto 4, 3) := by decide +kernel
theorem dX12_setWorkers_15 : decode cX12_setWorkers 15 = .ok (.iconst 0, 1) := by decide +kernel
theorem dX12_setWorkers_16 : decode cX12_setWorkers 16 = .ok (.invokevirtual 130, 3) := by decide +kernel
theorem dX12_setWorkers_19 : decode cX12_setWorkers 19 = .ok (.ifCond .eq 5, 3) := by decide +kernel
theorem dX12_setWorkers_22 : decode cX12_setWorkers 22 = .ok (.iconst 0, 1) := by decide +kernel
theorem dX12_setWorkers_23 : decode cX12_setWorkers 23 = .ok (.ireturn, 1) := by decide +kernel
theorem dX12_setWorkers_24 : decode cX12_setWorkers 24 = .ok (.aload_n 0, 1) := by decide +kernel
theorem dX12_setWorkers_25 : decode cX12_setWorkers 25 = .ok (.getfield 65, 3) := by decide +kernel
theorem dX12_setWorkers_28 : decode cX12_setWorkers 28 = .ok (.istore_n 2, 1) := by decide +kernel
theorem dX12_setWorkers_29 : decode cX12_setWorkers 29 = .ok (.aload_n 0, 1) := by decide +kernel
theorem dX12_setWorkers_30 : decode cX12_setWorkers 30 = .ok (.iload_n 1, 1) := by decide +kernel
theorem dX12_setWorkers_31 : decode cX12_setWorkers 31 = .ok (.putfield 65, 3) := by decide +kernel
theorem dX12_setWorkers_34 : decode cX12_setWorkers 34 = .ok (.iload_n 2, 1) := by decide +kernel
theorem dX12_setWorkers_35 : decode cX12_setWorkers 35 = .ok (.ireturn, 1) := by decide +kernel
theorem dX12_setSlowness_0 : decode cX12_setSlowness 0 = .ok (.aload_n 0, 1) := by decide +kernel
theorem dX12_setSlowness_1 : decode cX12_setSlowness 1 = .ok (.iload_n 1, 1) := by decide +kernel
theorem dX12_setSlowness_2 : decode cX12_setSlowness 2 = .ok (.ifCond .lt 8, 3) := by decide +kernel
theorem dX12_setSlowness_5 : decode cX12_setSlowness 5 = .ok (.iload_n 1, 1) := by decide +kernel
theorem dX12_setSlowness_6 : decode cX12_setSlowness 6 = .ok (.iconst 4, 1) := by decide +kernel
theorem dX12_setSlowness_7 : decode cX12_setSlowness 7 = .ok (.if_icmp .lt 7, 3) := by decide +kernel
theorem dX12_setSlowness_10 : decode cX12_setSlowness 10 = .ok (.iconst 1, 1) := by decide +kernel
theorem dX12_setSlowness_11 : decode cX12_setSlowness 11 = .ok (.goto 19, 3) := by decide +kernel
theorem dX12_setSlowness_14 : decode cX12_setSlowness 14 = .ok (.iload_n 2, 1) := by decide +kernel
theorem dX12_setSlowness_15 : decode cX12_setSlowness 15 = .ok (.iconst 1, 1) := by decide +kernel
theorem dX12_setSlowness_16 : decode cX12_setSlowness 16 = .ok (.if_icmp .lt 9, 3) := by decide +kernel
theorem dX12_setSlowness_19 : decode cX12_setSlowness 19 = .ok (.iload_n 2, 1) := by decide +kernel
theorem dX12_setSlowness_20 : decode cX12_setSlowness 20 = .ok (.bipush 9, 2) := by decide +kernel
theorem dX12_setSlowness_22 : decode cX12_setSlowness 22 = .ok (.if_icmp .le 7, 3) := by decide +kernel
theorem dX12_setSlowness_25 : decode cX12_setSlowness 25 = .ok (.iconst 2, 1) := by decide +kernel
theorem dX12_setSlowness_26 : decode cX12_setSlowness 26 = .ok (.goto 4, 3) := by decide +kernel
theorem dX12_setSlowness_29 : decode cX12_setSlowness 29 = .ok (.iconst 0, 1) := by decide +kernel
theorem dX12_setSlowness_30 : decode cX12_setSlowness 30 = .ok (.invokevirtual 130, 3) := by decide +kernel
theorem dX12_setSlowness_33 : decode cX12_setSlowness 33 = .ok (.ifCond .eq 5, 3) := by decide +kernel
theorem dX12_setSlowness_36 : decode cX12_setSlowness 36 = .ok (.iconst 0, 1) := by decide +kernel
theorem dX12_setSlowness_37 : decode cX12_setSlowness 37 = .ok (.ireturn, 1) := by decide +kernel
theorem dX12_setSlowness_38 : decode cX12_setSlowness 38 = .ok (.aload_n 0, 1) := by decide +kernel
theorem dX12_setSlowness_39 : decode cX12_setSlowness 39 = .ok (.getfield 68, 3) := by decide +kernel
theorem dX12_setSlowness_42 : decode cX12_setSlowness 42 = .ok (.iload_n 1, 1) := by decide +kernel
theorem dX12_setSlowness_43 : decode cX12_setSlowness 43 = .ok (.iaload, 1) := by decide +kernel
theorem dX12_setSlowness_44 : decode cX12_setSlowness 44 = .ok (.istore_n 3, 1) := by decide +kernel
theorem dX12_setSlowness_45 : decode cX12_setSlowness 45 = .ok (.aload_n 0, 1) := by decide +kernel
theorem dX12_setSlowness_46 : decode cX12_setSlowness 46 = .ok (.getfield 68, 3) := by decide +kernel
theorem dX12_setSlowness_49 : decode cX12_setSlowness 49 = .ok (.iload_n 1, 1) := by decide +kernel
theorem dX12_setSlowness_50 : decode cX12_setSlowness 50 = .ok (.iload_n 2, 1) := by decide +kernel
theorem dX12_setSlowness_51 : decode cX12_setSlowness 51 = .ok (.iastore, 1) := by decide +kernel
theorem dX12_setSlowness_52 : decode cX12_setSlowness 52 = .ok (.iload_n 3, 1) := by decide +kernel
theorem dX12_setSlowness_53 : decode cX12_setSlowness 53 = .ok (.ireturn, 1) := by decide +kernel
theorem dX12_setMemory_0 : decode cX12_setMemory 0 = .ok (.aload_n 0, 1) := by decide +kernel
theorem dX12_setMemory_1 : decode cX12_setMemory 1 = .ok (.iload_n 1, 1) := by decide +kernel
theorem dX12_setMemory_2 : decode cX12_setMemory 2 = .ok (.ifCond .lt 10, 3) := by decide +kernel
theorem dX12_setMemory_5 : decode cX12_setMemory 5 = .ok (.iload_n 1, 1) := by decide +kernel
theorem dX12_setMemory_6 : decode cX12_setMemory 6 = .ok (.sipush 1000, 3) := by decide +kernel
theorem dX12_setMemory_9 : decode cX12_setMemory 9 = .ok (.if_icmp .le 7, 3) := by decide +kernel
theorem dX12_setMemory_12 : decode cX12_setMemory 12 = .ok (.iconst 1, 1) := by decide +kernel
theorem dX12_setMemory_13 : decode cX12_setMemory 13 = .ok (.goto 4, 3) := by decide +kernel
theorem dX12_setMemory_16 : decode cX12_setMemory 16 = .ok (.iconst 0, 1) := by decide +kernel
theorem dX12_setMemory_17 : decode cX12_setMemory 17 = .ok (.invokevirtual 130, 3) := by decide +kernel
theorem dX12_setMemory_20 : decode cX12_setMemory 20 = .ok (.ifCond .eq 5, 3) := by decide +kernel
theorem dX12_setMemory_23 : decode cX12_setMemory 23 = .ok (.iconst 0, 1) := by decide +kernel
theorem dX12_setMemory_24 : decode cX12_setMemory 24 = .ok (.ireturn, 1) := by decide +kernel
theorem dX12_setMemory_25 : decode cX12_setMemory 25 = .ok (.aload_n 0, 1) := by decide +kernel
theorem dX12_setMemory_26 : decode cX12_setMemory 26 = .ok (.getfield 62, 3) := by decide +kernel
theorem dX12_setMemory_29 : decode cX12_setMemory 29 = .ok (.istore_n 2, 1) := by decide +kernel
theorem dX12_setMemory_30 : decode cX12_setMemory 30 = .ok (.aload_n 0, 1) := by decide +kernel
theorem dX12_setMemory_31 : decode cX12_setMemory 31 = .ok (.iload_n 1, 1) := by decide +kernel
theorem dX12_setMemory_32 : decode cX12_setMemory 32 = .ok (.putfield 62, 3) := by decide +kernel
theorem dX12_setMemory_35 : decode cX12_setMemory 35 = .ok (.iload_n 2, 1) := by decide +kernel
theorem dX12_setMemory_36 : decode cX12_setMemory 36 = .ok (.ireturn, 1) := by decide +kernel
theorem dX12_setLimit_0 : decode cX12_setLimit 0 = .ok (.aload_n 0, 1) := by decide +kernel
theorem dX12_setLimit_1 : decode cX12_setLimit 1 = .ok (.iload_n 1, 1) := by decide +kernel
theorem dX12_setLimit_2 : decode cX12_setLimit 2 = .ok (.ifCond .lt 10, 3) := by decide +kernel
theorem dX12_setLimit_5 : decode cX12_setLimit 5 = .ok (.iload_n 1, 1) := by decide +kernel
theorem dX12_setLimit_6 : decode cX12_setLimit 6 = .ok (.sipush 1000, 3) := by decide +kernel
theorem dX12_setLimit_9 : decode cX12_setLimit 9 = .ok (.if_icmp .le 7, 3) := by decide +kernel
theorem dX12_setLimit_12 : decode cX12_setLimit 12 = .ok (.iconst 1, 1) := by decide +kernel
theorem dX12_setLimit_13 : decode cX12_setLimit 13 = .ok (.goto 4, 3) := by decide +kernel
theorem dX12_setLimit_16 : decode cX12_setLimit 16 = .ok (.iconst 0, 1) := by decide +kernel
theorem dX12_setLimit_17 : decode cX12_setLimit 17 = .ok (.invokevirtual 130, 3) := by decide +kernel
theorem dX12_setLimit_20 : decode cX12_setLimit 20 = .ok (.ifCond .eq 5, 3) := by decide +kernel
theorem dX12_setLimit_23 : decode cX12_setLimit 23 = .ok (.iconst 0, 1) := by decide +kernel
theorem dX12_setLimit_24 : decode cX12_setLimit 24 = .ok (.ireturn, 1) := by decide +kernel
theorem dX12_setLimit_25 : decode cX12_setLimit 25 = .ok (.aload_n 0, 1) := by decide +kernel
theorem dX12_setLimit_26 : decode cX12_setLimit 26 = .ok (.getfield 58, 3) := by decide +kernel
theorem dX12_setLimit_29 : decode cX12_setLimit 29 = .ok (.istore_n 2, 1) := by decide +kernel
theorem dX12_setLimit_30 : decode cX12_setLimit 30 = .ok (.aload_n 0, 1) := by decide +kernel
theorem dX12_setLimit_31 : decode cX12_setLimit 31 = .ok (.iload_n 1, 1) := by decide +kernel
theorem dX12_setLimit_32 : decode cX12_setLimit 32 = .ok (.putfield 58, 3) := by decide +kernel
theorem dX12_setLimit_35 : decode cX12_setLimit 35 = .ok (.aload_n 0, 1) := by decide +kernel
theorem dX12_setLimit_36 : decode cX12_setLimit 36 = .ok (.invokevirtual 141, 3) := by decide +kernel
theorem dX12_setLimit_39 : decode cX12_setLimit 39 = .ok (.iload_n 2, 1) := by decide +kernel
theorem dX12_setLimit_40 : decode cX12_setLimit 40 = .ok (.ireturn, 1) := by decide +kernel
theorem dX12_cached_0 : decode cX12_cached 0 = .ok (.iconst 0, 1) := by decide +kernel
theorem dX12_cached_1 : decode cX12_cached 1 = .ok (.istore_n 1, 1) := by decide +kernel
theorem dX12_cached_2 : decode cX12_cached 2 = .ok (.iconst 0, 1) := by decide +kernel
theorem dX12_cached_3 : decode cX12_cached 3 = .ok (.istore_n 2, 1) := by decide +kernel
theorem dX12_cached_4 : decode cX12_cached 4 = .ok (.iload_n 2, 1) := by decide +kernel
theorem dX12_cached_5 : decode cX12_cached 5 = .ok (.aload_n 0, 1) := by decide +kernel
theorem dX12_cached_6 : decode cX12_cached 6 = .ok (.getfield 123, 3) := by decide +kernel
theorem dX12_cached_9 : decode cX12_cached 9 = .ok (.if_icmp .ge 30, 3) := by decide +kernel
theorem dX12_cached_12 : decode cX12_cached 12 = .ok (.iload_n 1, 1) := by decide +kernel
theorem dX12_cached_13 : decode cX12_cached 13 = .ok (.aload_n 0, 1) := by decide +kernel
theorem dX12_cached_14 : decode cX12_cached 14 = .ok (.getfield 75, 3) := by decide +kernel
theorem dX12_cached_17 : decode cX12_cached 17 = .ok (.iload_n 2, 1) := by decide +kernel
theorem dX12_cached_18 : decode cX12_cached 18 = .ok (.baload, 1) := by decide +kernel
theorem dX12_cached_19 : decode cX12_cached 19 = .ok (.ifCond .eq 11, 3) := by decide +kernel
theorem dX12_cached_22 : decode cX12_cached 22 = .ok (.aload_n 0, 1) := by decide +kernel
theorem dX12_cached_23 : decode cX12_cached 23 = .ok (.iload_n 2, 1) := by decide +kernel
theorem dX12_cached_24 : decode cX12_cached 24 = .ok (.invokevirtual 152, 3) := by decide +kernel
theorem dX12_cached_27 : decode cX12_cached 27 = .ok (.goto 4, 3) := by decide +kernel
theorem dX12_cached_30 : decode cX12_cached 30 = .ok (.iconst 0, 1) := by decide +kernel
theorem dX12_cached_31 : decode cX12_cached 31 = .ok (.iadd, 1) := by decide +kernel
theorem dX12_cached_32 : decode cX12_cached 32 = .ok (.istore_n 1, 1) := by decide +kernel
theorem dX12_cached_33 : decode cX12_cached 33 = .ok (.iinc 2 1, 3) := by decide +kernel
theorem dX12_cached_36 : decode cX12_cached 36 = .ok (.goto (-32), 3) := by decide +kernel
theorem dX12_cached_39 : decode cX12_cached 39 = .ok (.iload_n 1, 1) := by decide +kernel
theorem dX12_cached_40 : decode cX12_cached 40 = .ok (.ireturn, 1) := by decide +kernel
theorem dX12_leaves_0 : decode cX12_leaves 0 = .ok (.iconst 0, 1) := by decide +kernel
theorem dX12_leaves_1 : decode cX12_leaves 1 = .ok (.istore_n 2, 1) := by decide +kernel
theorem dX12_leaves_2 : decode cX12_leaves 2 = .ok (.aload_n 0, 1) := by decide +kernel
theorem dX12_leaves_3 : decode cX12_leaves 3 = .ok (.invokevirtual 216, 3) := by decide +kernel
theorem dX12_leaves_6 : decode cX12_leaves 6 = .ok (.iload_n 1, 1) := by decide +kernel
theorem dX12_leaves_7 : decode cX12_leaves 7 = .ok (.iadd, 1) := by decide +kernel
theorem dX12_leaves_8 : decode cX12_leaves 8 = .ok (.aload_n 0, 1) := by decide +kernel
theorem dX12_leaves_9 : decode cX12_leaves 9 = .ok (.getfield 220, 3) := by decide +kernel
theorem dX12_leaves_12 : decode cX12_leaves 12 = .ok (.if_icmp .le 74, 3) := by decide +kernel
theorem dX12_leaves_15 : decode cX12_leaves 15 = .ok (.iconst (-1), 1) := by decide +kernel
theorem dX12_leaves_16 : decode cX12_leaves 16 = .ok (.istore_n 3, 1) := by decide +kernel
theorem dX12_leaves_17 : decode cX12_leaves 17 = .ok (.iconst 0, 1) := by decide +kernel
theorem dX12_leaves_18 : decode cX12_leaves 18 = .ok (.istore 4, 2) := by decide +kernel
theorem dX12_leaves_20 : decode cX12_leaves 20 = .ok (.iload 4, 2) := by decide +kernel
theorem dX12_leaves_22 : decode cX12_leaves 22 = .ok (.aload_n 0, 1) := by decide +kernel
theorem dX12_leaves_23 : decode cX12_leaves 23 = .ok (.getfield 123, 3) := by decide +kernel
theorem dX12_leaves_26 : decode cX12_leaves 26 = .ok (.if_icmp .ge 47, 3) := by decide +kernel
theorem dX12_leaves_29 : decode cX12_leaves 29 = .ok (.aload_n 0, 1) := by decide +kernel
theorem dX12_leaves_30 : decode cX12_leaves 30 = .ok (.getfield 75, 3) := by decide +kernel
theorem dX12_leaves_33 : decode cX12_leaves 33 = .ok (.iload 4, 2) := by decide +kernel
theorem dX12_leaves_35 : decode cX12_leaves 35 = .ok (.baload, 1) := by decide +kernel
theorem dX12_leaves_36 : decode cX12_leaves 36 = .ok (.ifCond .eq 29, 3) := by decide +kernel
theorem dX12_leaves_39 : decode cX12_leaves 39 = .ok (.iload_n 3, 1) := by decide +kernel
theorem dX12_leaves_40 : decode cX12_leaves 40 = .ok (.iconst (-1), 1) := by decide +kernel
theorem dX12_leaves_41 : decode cX12_leaves 41 = .ok (.if_icmp .eq 19, 3) := by decide +kernel
theorem dX12_leaves_44 : decode cX12_leaves 44 = .ok (.aload_n 0, 1) := by decide +kernel
theorem dX12_leaves_45 : decode cX12_leaves 45 = .ok (.getfield 78, 3) := by decide +kernel
theorem dX12_leaves_48 : decode cX12_leaves 48 = .ok (.iload 4, 2) := by decide +kernel
theorem dX12_leaves_50 : decode cX12_leaves 50 = .ok (.iaload, 1) := by decide +kernel
theorem dX12_leaves_51 : decode cX12_leaves 51 = .ok (.aload_n 0, 1) := by decide +kernel
theorem dX12_leaves_52 : decode cX12_leaves 52 = .ok (.getfield 78, 3) := by decide +kernel
theorem dX12_leaves_55 : decode cX12_leaves 55 = .ok (.iload_n 3, 1) := by decide +kernel
theorem dX12_leaves_56 : decode cX12_leaves 56 = .ok (.iaload, 1) := by decide +kernel
theorem dX12_leaves_57 : decode cX12_leaves 57 = .ok (.if_icmp .ge 8, 3) := by decide +kernel
theorem dX12_leaves_60 : decode cX12_leaves 60 = .ok (.iload 4, 2) := by decide +kernel
theorem dX12_leaves_62 : decode cX12_leaves 62 = .ok (.goto 4, 3) := by decide +kernel
theorem dX12_leaves_65 : decode cX12_leaves 65 = .ok (.iload_n 3, 1) := by decide +kernel
theorem dX12_leaves_66 : decode cX12_leaves 66 = .ok (.istore_n 3, 1) := by decide +kernel
theorem dX12_leaves_67 : decode cX12_leaves 67 = .ok (.iinc 4 1, 3) := by decide +kernel
theorem dX12_leaves_70 : decode cX12_leaves 70 = .ok (.goto (-50), 3) := by decide +kernel
theorem dX12_leaves_73 : decode cX12_leaves 73 = .ok (.aload_n 0, 1) := by decide +kernel
theorem dX12_leaves_74 : decode cX12_leaves 74 = .ok (.getfield 75, 3) := by decide +kernel
theorem dX12_leaves_77 : decode cX12_leaves 77 = .ok (.iload_n 3, 1) := by decide +kernel
theorem dX12_leaves_78 : decode cX12_leaves 78 = .ok (.iconst 0, 1) := by decide +kernel
theorem dX12_leaves_79 : decode cX12_leaves 79 = .ok (.bastore, 1) := by decide +kernel
theorem dX12_leaves_80 : decode cX12_leaves 80 = .ok (.iinc 2 1, 3) := by decide +kernel
theorem dX12_leaves_83 : decode cX12_leaves 83 = .ok (.goto (-81), 3) := by decide +kernel
theorem dX12_leaves_86 : decode cX12_leaves 86 = .ok (.iload_n 2, 1) := by decide +kernel
theorem dX12_leaves_87 : decode cX12_leaves 87 = .ok (.ireturn, 1) := by decide +kernel
theorem dX12_setRoom_0 : decode cX12_setRoom 0 = .ok (.aload_n 0, 1) := by decide +kernel
theorem dX12_setRoom_1 : decode cX12_setRoom 1 = .ok (.invokevirtual 196, 3) := by decide +kernel
theorem dX12_setRoom_4 : decode cX12_setRoom 4 = .ok (.aload_n 0, 1) := by decide +kernel
theorem dX12_setRoom_5 : decode cX12_setRoom 5 = .ok (.iload_n 1, 1) := by decide +kernel
theorem dX12_setRoom_6 : decode cX12_setRoom 6 = .ok (.ifCond .lt 10, 3) := by decide +kernel
theorem dX12_setRoom_9 : decode cX12_setRoom 9 = .ok (.iload_n 1, 1) := by decide +kernel
theorem dX12_setRoom_10 : decode cX12_setRoom 10 = .ok (.sipush 1000, 3) := by decide +kernel
theorem dX12_setRoom_13 : decode cX12_setRoom 13 = .ok (.if_icmp .le 7, 3) := by decide +kernel
theorem dX12_setRoom_16 : decode cX12_setRoom 16 = .ok (.iconst 1, 1) := by decide +kernel
theorem dX12_setRoom_17 : decode cX12_setRoom 17 = .ok (.goto 4, 3) := by decide +kernel
theorem dX12_setRoom_20 : decode cX12_setRoom 20 = .ok (.iconst 0, 1) := by decide +kernel
theorem dX12_setRoom_21 : decode cX12_setRoom 21 = .ok (.invokevirtual 130, 3) := by decide +kernel
theorem dX12_setRoom_24 : decode cX12_setRoom 24 = .ok (.ifCond .eq 5, 3) := by decide +kernel
theorem dX12_setRoom_27 : decode cX12_setRoom 27 = .ok (.iconst 0, 1) := by decide +kernel
theorem dX12_setRoom_28 : decode cX12_setRoom 28 = .ok (.ireturn, 1) := by decide +kernel
theorem dX12_setRoom_29 : decode cX12_setRoom 29 = .ok (.aload_n 0, 1) := by decide +kernel
theorem dX12_setRoom_30 : decode cX12_setRoom 30 = .ok (.iload_n 1, 1) := by decide +kernel
theorem dX12_setRoom_31 : decode cX12_setRoom 31 = .ok (.putfield 220, 3) := by decide +kernel
theorem dX12_setRoom_34 : decode cX12_setRoom 34 = .ok (.aload_n 0, 1) := by decide +kernel
theorem dX12_setRoom_35 : decode cX12_setRoom 35 = .ok (.iconst 0, 1) := by decide +kernel
theorem dX12_setRoom_36 : decode cX12_setRoom 36 = .ok (.invokevirtual 223, 3) := by decide +kernel
theorem dX12_setRoom_39 : decode cX12_setRoom 39 = .ok (.ireturn, 1) := by decide +kernel
theorem dX12_mark_0 : decode cX12_mark 0 = .ok (.aload_n 0, 1) := by decide +kernel
theorem dX12_mark_1 : decode cX12_mark 1 = .ok (.aload_n 0, 1) := by decide +kernel
theorem dX12_mark_2 : decode cX12_mark 2 = .ok (.iload_n 1, 1) := by decide +kernel
theorem dX12_mark_3 : decode cX12_mark 3 = .ok (.invokevirtual 138, 3) := by decide +kernel
theorem dX12_mark_6 : decode cX12_mark 6 = .ok (.ifCond .eq 7, 3) := by decide +kernel
theorem dX12_mark_9 : decode cX12_mark 9 = .ok (.iconst 0, 1) := by decide +kernel
theorem dX12_mark_10 : decode cX12_mark 10 = .ok (.goto 4, 3) := by decide +kernel
theorem dX12_mark_13 : decode cX12_mark 13 = .ok (.iconst 1, 1) := by decide +kernel
theorem dX12_mark_14 : decode cX12_mark 14 = .ok (.invokevirtual 130, 3) := by decide +kernel
theorem dX12_mark_17 : decode cX12_mark 17 = .ok (.ifCond .eq 5, 3) := by decide +kernel
theorem dX12_mark_20 : decode cX12_mark 20 = .ok (.iconst 0, 1) := by decide +kernel
theorem dX12_mark_21 : decode cX12_mark 21 = .ok (.ireturn, 1) := by decide +kernel
theorem dX12_mark_22 : decode cX12_mark 22 = .ok (.aload_n 0, 1) := by decide +kernel
theorem dX12_mark_23 : decode cX12_mark 23 = .ok (.getfield 71, 3) := by decide +kernel
theorem dX12_mark_26 : decode cX12_mark 26 = .ok (.iload_n 1, 1) := by decide +kernel
theorem dX12_mark_27 : decode cX12_mark 27 = .ok (.baload, 1) := by decide +kernel
theorem dX12_mark_28 : decode cX12_mark 28 = .ok (.istore_n 3, 1) := by decide +kernel
theorem dX12_mark_29 : decode cX12_mark 29 = .ok (.aload_n 0, 1) := by decide +kernel
theorem dX12_mark_30 : decode cX12_mark 30 = .ok (.getfield 71, 3) := by decide +kernel
theorem dX12_mark_33 : decode cX12_mark 33 = .ok (.iload_n 1, 1) := by decide +kernel
theorem dX12_mark_34 : decode cX12_mark 34 = .ok (.iload_n 2, 1) := by decide +kernel
theorem dX12_mark_35 : decode cX12_mark 35 = .ok (.bastore, 1) := by decide +kernel
theorem dX12_mark_36 : decode cX12_mark 36 = .ok (.iload_n 3, 1) := by decide +kernel
theorem dX12_mark_37 : decode cX12_mark 37 = .ok (.ireturn, 1) := by decide +kernel
theorem dX12_isCached_0 : decode cX12_isCached 0 = .ok (.aload_n 0, 1) := by decide +kernel
theorem dX12_isCached_1 : decode cX12_isCached 1 = .ok (.aload_n 0, 1) := by decide +kernel
theorem dX12_isCached_2 : decode cX12_isCached 2 = .ok (.iload_n 1, 1) := by decide +kernel
theorem dX12_isCached_3 : decode cX12_isCached 3 = .ok (.invokevirtual 138, 3) := by decide +kernel
theorem dX12_isCached_6 : decode cX12_isCached 6 = .ok (.ifCond .eq 7, 3) := by decide +kernel
theorem dX12_isCached_9 : decode cX12_isCached 9 = .ok (.iconst 0, 1) := by decide +kernel
theorem dX12_isCached_10 : decode cX12_isCached 10 = .ok (.goto 4, 3) := by decide +kernel
theorem dX12_isCached_13 : decode cX12_isCached 13 = .ok (.iconst 1, 1) := by decide +kernel
theorem dX12_isCached_14 : decode cX12_isCached 14 = .ok (.invokevirtual 130, 3) := by decide +kernel
theorem dX12_isCached_17 : decode cX12_isCached 17 = .ok (.ifCond .ne 16, 3) := by decide +kernel
theorem dX12_isCached_20 : decode cX12_isCached 20 = .ok (.aload_n 0, 1) := by decide +kernel
theorem dX12_isCached_21 : decode cX12_isCached 21 = .ok (.getfield 75, 3) := by decide +kernel
theorem dX12_isCached_24 : decode cX12_isCached 24 = .ok (.iload_n 1, 1) := by decide +kernel
theorem dX12_isCached_25 : decode cX12_isCached 25 = .ok (.baload, 1) := by decide +kernel
theorem dX12_isCached_26 : decode cX12_isCached 26 = .ok (.ifCond .eq 7, 3) := by decide +kernel
theorem dX12_isCached_29 : decode cX12_isCached 29 = .ok (.iconst 1, 1) := by decide +kernel
theorem dX12_isCached_30 : decode cX12_isCached 30 = .ok (.goto 4, 3) := by decide +kernel
theorem dX12_isCached_33 : decode cX12_isCached 33 = .ok (.iconst 0, 1) := by decide +kernel
theorem dX12_isCached_34 : decode cX12_isCached 34 = .ok (.ireturn, 1) := by decide +kernel
theorem dX12_shared_0 : decode cX12_shared 0 = .ok (.iconst 0, 1) := by decide +kernel
theorem dX12_shared_1 : decode cX12_shared 1 = .ok (.istore 4, 2) := by decide +kernel
theorem dX12_shared_3 : decode cX12_shared 3 = .ok (.sipush 300, 3) := by decide +kernel
theorem dX12_shared_6 : decode cX12_shared 6 = .ok (.iload_n 1, 1) := by decide +kernel
theorem dX12_shared_7 : decode cX12_shared 7 = .ok (.imul, 1) := by decide +kernel
theorem dX12_shared_8 : decode cX12_shared 8 = .ok (.istore 5, 2) := by decide +kernel
theorem dX12_shared_10 : decode cX12_shared 10 = .ok (.iload 5, 2) := by decide +kernel
theorem dX12_shared_12 : decode cX12_shared 12 = .ok (.sipush 300, 3) := by decide +kernel
theorem dX12_shared_15 : decode cX12_shared 15 = .ok (.iload_n 1, 1) := by decide +kernel
theorem dX12_shared_16 : decode cX12_shared 16 = .ok (.imul, 1) := by decide +kernel
theorem dX12_shared_17 : decode cX12_shared 17 = .ok (.aload_n 0, 1) := by decide +kernel
theorem dX12_shared_18 : decode cX12_shared 18 = .ok (.iload_n 1, 1) := by decide +kernel
theorem dX12_shared_19 : decode cX12_shared 19 = .ok (.invokevirtual 152, 3) := by decide +kernel
theorem dX12_shared_22 : decode cX12_shared 22 = .ok (.iadd, 1) := by decide +kernel
theorem dX12_shared_23 : decode cX12_shared 23 = .ok (.if_icmp .ge 34, 3) := by decide +kernel
theorem dX12_shared_26 : decode cX12_shared 26 = .ok (.iload 4, 2) := by decide +kernel
theorem dX12_shared_28 : decode cX12_shared 28 = .ok (.aload_n 0, 1) := by decide +kernel
theorem dX12_shared_29 : decode cX12_shared 29 = .ok (.getfield 52, 3) := by decide +kernel
theorem dX12_shared_32 : decode cX12_shared 32 = .ok (.iload 5, 2) := by decide +kernel
theorem dX12_shared_34 : decode cX12_shared 34 = .ok (.iaload, 1) := by decide +kernel
theorem dX12_shared_35 : decode cX12_shared 35 = .ok (.iload_n 3, 1) := by decide +kernel
theorem dX12_shared_36 : decode cX12_shared 36 = .ok (.invokestatic 159, 3) := by decide +kernel
theorem dX12_shared_39 : decode cX12_shared 39 = .ok (.iload_n 2, 1) := by decide +kernel
theorem dX12_shared_40 : decode cX12_shared 40 = .ok (.if_icmp .ne 7, 3) := by decide +kernel
theorem dX12_shared_43 : decode cX12_shared 43 = .ok (.iconst 1, 1) := by decide +kernel
theorem dX12_shared_44 : decode cX12_shared 44 = .ok (.goto 4, 3) := by decide +kernel
theorem dX12_shared_47 : decode cX12_shared 47 = .ok (.iconst 0, 1) := by decide +kernel
theorem dX12_shared_48 : decode cX12_shared 48 = .ok (.iadd, 1) := by decide +kernel
theorem dX12_shared_49 : decode cX12_shared 49 = .ok (.istore 4, 2) := by decide +kernel
theorem dX12_shared_51 : decode cX12_shared 51 = .ok (.iinc 5 1, 3) := by decide +kernel
theorem dX12_shared_54 : decode cX12_shared 54 = .ok (.goto (-44), 3) := by decide +kernel
theorem dX12_shared_57 : decode cX12_shared 57 = .ok (.iload 4, 2) := by decide +kernel
theorem dX12_shared_59 : decode cX12_shared 59 = .ok (.ireturn, 1) := by decide +kernel
theorem dX12_needs_0 : decode cX12_needs 0 = .ok (.aload_n 0, 1) := by decide +kernel
theorem dX12_needs_1 : decode cX12_needs 1 = .ok (.getfield 87, 3) := by decide +kernel
theorem dX12_needs_4 : decode cX12_needs 4 = .ok (.iload_n 1, 1) := by decide +kernel
theorem dX12_needs_5 : decode cX12_needs 5 = .ok (.aload_n 0, 1) := by decide +kernel
theorem dX12_needs_6 : decode cX12_needs 6 = .ok (.getfield 87, 3) := by decide +kernel
theorem dX12_needs_9 : decode cX12_needs 9 = .ok (.iload_n 1, 1) := by decide +kernel
theorem dX12_needs_10 : decode cX12_needs 10 = .ok (.baload, 1) := by decide +kernel
theorem dX12_needs_11 : decode cX12_needs 11 = .ok (.ifCond .ne 12, 3) := by decide +kernel
theorem dX12_needs_14 : decode cX12_needs 14 = .ok (.aload_n 0, 1) := by decide +kernel
theorem dX12_needs_15 : decode cX12_needs 15 = .ok (.getfield 75, 3) := by decide +kernel
theorem dX12_needs_18 : decode cX12_needs 18 = .ok (.iload_n 1, 1) := by decide +kernel
theorem dX12_needs_19 : decode cX12_needs 19 = .ok (.baload, 1) := by decide +kernel
theorem dX12_needs_20 : decode cX12_needs 20 = .ok (.ifCond .eq 7, 3) := by decide +kernel
theorem dX12_needs_23 : decode cX12_needs 23 = .ok (.iconst 1, 1) := by decide +kernel
theorem dX12_needs_24 : decode cX12_needs 24 = .ok (.goto 4, 3) := by decide +kernel
theorem dX12_needs_27 : decode cX12_needs 27 = .ok (.iconst 0, 1) := by decide +kernel
theorem dX12_needs_28 : decode cX12_needs 28 = .ok (.bastore, 1) := by decide +kernel
theorem dX12_needs_29 : decode cX12_needs 29 = .ok (.aload_n 0, 1) := by decide +kernel
theorem dX12_needs_30 : decode cX12_needs 30 = .ok (.getfield 81, 3) := by decide +kernel
theorem dX12_needs_33 : decode cX12_needs 33 = .ok (.iload_n 1, 1) := by decide +kernel
theorem dX12_needs_34 : decode cX12_needs 34 = .ok (.aload_n 0, 1) := by decide +kernel
theorem dX12_needs_35 : decode cX12_needs 35 = .ok (.getfield 81, 3) := by decide +kernel
theorem dX12_needs_38 : decode cX12_needs 38 = .ok (.iload_n 1, 1) := by decide +kernel
theorem dX12_needs_39 : decode cX12_needs 39 = .ok (.baload, 1) := by decide +kernel
theorem dX12_needs_40 : decode cX12_needs 40 = .ok (.ifCond .ne 12, 3) := by decide +kernel
theorem dX12_needs_43 : decode cX12_needs 43 = .ok (.aload_n 0, 1) := by decide +kernel
theorem dX12_needs_44 : decode cX12_needs 44 = .ok (.getfield 75, 3) := by decide +kernel
theorem dX12_needs_47 : decode cX12_needs 47 = .ok (.iload_n 1, 1) := by decide +kernel
theorem dX12_needs_48 : decode cX12_needs 48 = .ok (.baload, 1) := by decide +kernel
theorem dX12_needs_49 : decode cX12_needs 49 = .ok (.ifCond .ne 7, 3) := by decide +kernel
theorem dX12_needs_52 : decode cX12_needs 52 = .ok (.iconst 1, 1) := by decide +kernel
theorem dX12_needs_53 : decode cX12_needs 53 = .ok (.goto 4, 3) := by decide +kernel
theorem dX12_needs_56 : decode cX12_needs 56 = .ok (.iconst 0, 1) := by decide +kernel
theorem dX12_needs_57 : decode cX12_needs 57 = .ok (.bastore, 1) := by decide +kernel
theorem dX12_needs_58 : decode cX12_needs 58 = .ok (.return_, 1) := by decide +kernel
theorem dX12_reads_0 : decode cX12_reads 0 = .ok (.iload_n 1, 1) := by decide +kernel
theorem dX12_reads_1 : decode cX12_reads 1 = .ok (.istore_n 3, 1) := by decide +kernel
theorem dX12_reads_2 : decode cX12_reads 2 = .ok (.iload_n 2, 1) := by decide +kernel
theorem dX12_reads_3 : decode cX12_reads 3 = .ok (.istore 4, 2) := by decide +kernel
theorem dX12_reads_5 : decode cX12_reads 5 = .ok (.iconst 0, 1) := by decide +kernel
theorem dX12_reads_6 : decode cX12_reads 6 = .ok (.istore 5, 2) := by decide +kernel
theorem dX12_reads_8 : decode cX12_reads 8 = .ok (.iload_n 3, 1) := by decide +kernel
theorem dX12_reads_9 : decode cX12_reads 9 = .ok (.iconst (-1), 1) := by decide +kernel
theorem dX12_reads_10 : decode cX12_reads 10 = .ok (.if_icmp .eq 331, 3) := by decide +kernel
theorem dX12_reads_13 : decode cX12_reads 13 = .ok (.iload_n 3, 1) := by decide +kernel
theorem dX12_reads_14 : decode cX12_reads 14 = .ok (.istore 6, 2) := by decide +kernel
theorem dX12_reads_16 : decode cX12_reads 16 = .ok (.iconst (-1), 1) := by decide +kernel
theorem dX12_reads_17 : decode cX12_reads 17 = .ok (.istore_n 3, 1) := by decide +kernel
theorem dX12_reads_18 : decode cX12_reads 18 = .ok (.aload_n 0, 1) := by decide +kernel
theorem dX12_reads_19 : decode cX12_reads 19 = .ok (.getfield 75, 3) := by decide +kernel
theorem dX12_reads_22 : decode cX12_reads 22 = .ok (.iload 6, 2) := by decide +kernel
theorem dX12_reads_24 : decode cX12_reads 24 = .ok (.baload, 1) := by decide +kernel
theorem dX12_reads_25 : decode cX12_reads 25 = .ok (.ifCond .eq 29, 3) := by decide +kernel
theorem dX12_reads_28 : decode cX12_reads 28 = .ok (.iload 6, 2) := by decide +kernel
theorem dX12_reads_30 : decode cX12_reads 30 = .ok (.iload_n 1, 1) := by decide +kernel
theorem dX12_reads_31 : decode cX12_reads 31 = .ok (.if_icmp .eq 23, 3) := by decide +kernel
theorem dX12_reads_34 : decode cX12_reads 34 = .ok (.aload_n 0, 1) := by decide +kernel
theorem dX12_reads_35 : decode cX12_reads 35 = .ok (.getfield 87, 3) := by decide +kernel
theorem dX12_reads_38 : decode cX12_reads 38 = .ok (.iload 6, 2) := by decide +kernel
theorem dX12_reads_40 : decode cX12_reads 40 = .ok (.iconst 1, 1) := by decide +kernel
theorem dX12_reads_41 : decode cX12_reads 41 = .ok (.bastore, 1) := by decide +kernel
theorem dX12_reads_42 : decode cX12_reads 42 = .ok (.iload 5, 2) := by decide +kernel
theorem dX12_reads_44 : decode cX12_reads 44 = .ok (.aload_n 0, 1) := by decide +kernel
theorem dX12_reads_45 : decode cX12_reads 45 = .ok (.iload 6, 2) := by decide +kernel
theorem dX12_reads_47 : decode cX12_reads 47 = .ok (.iload 4, 2) := by decide +kernel
theorem dX12_reads_49 : decode cX12_reads 49 = .ok (.invokevirtual 206, 3) := by decide +kernel
theorem dX12_reads_52 : decode cX12_reads 52 = .ok (.iadd, 1) := by decide +kernel
theorem dX12_reads_53 : decode cX12_reads 53 = .ok (.ireturn, 1) := by decide +kernel
theorem dX12_reads_54 : decode cX12_reads 54 = .ok (.aload_n 0, 1) := by decide +kernel
theorem dX12_reads_55 : decode cX12_reads 55 = .ok (.getfield 84, 3) := by decide +kernel
theorem dX12_reads_58 : decode cX12_reads 58 = .ok (.iload 6, 2) := by decide +kernel
theorem dX12_reads_60 : decode cX12_reads 60 = .ok (.iconst 1, 1) := by decide +kernel
theorem dX12_reads_61 : decode cX12_reads 61 = .ok (.bastore, 1) := by decide +kernel
theorem dX12_reads_62 : decode cX12_reads 62 = .ok (.aload_n 0, 1) := by decide +kernel
theorem dX12_reads_63 : decode cX12_reads 63 = .ok (.getfield 7, 3) := by decide +kernel
theorem dX12_reads_66 : decode cX12_reads 66 = .ok (.iload 6, 2) := by decide +kernel
theorem dX12_reads_68 : decode cX12_reads 68 = .ok (.iaload, 1) := by decide +kernel
theorem dX12_reads_69 : decode cX12_reads 69 = .ok (.ifCond .ne 19, 3) := by decide +kernel
theorem dX12_reads_72 : decode cX12_reads 72 = .ok (.iload 5, 2) := by decide +kernel
theorem dX12_reads_74 : decode cX12_reads 74 = .ok (.aload_n 0, 1) := by decide +kernel
theorem dX12_reads_75 : decode cX12_reads 75 = .ok (.iload 6, 2) := by decide +kernel
theorem dX12_reads_77 : decode cX12_reads 77 = .ok (.iload 4, 2) := by decide +kernel
theorem dX12_reads_79 : decode cX12_reads 79 = .ok (.invokevirtual 206, 3) := by decide +kernel
theorem dX12_reads_82 : decode cX12_reads 82 = .ok (.iadd, 1) := by decide +kernel
theorem dX12_reads_83 : decode cX12_reads 83 = .ok (.istore 5, 2) := by decide +kernel
theorem dX12_reads_85 : decode cX12_reads 85 = .ok (.goto 253, 3) := by decide +kernel
theorem dX12_reads_88 : decode cX12_reads 88 = .ok (.aload_n 0, 1) := by decide +kernel
theorem dX12_reads_89 : decode cX12_reads 89 = .ok (.getfield 7, 3) := by decide +kernel
theorem dX12_reads_92 : decode cX12_reads 92 = .ok (.iload 6, 2) := by decide +kernel
theorem dX12_reads_94 : decode cX12_reads 94 = .ok (.iaload, 1) := by decide +kernel
theorem dX12_reads_95 : decode cX12_reads 95 = .ok (.iconst 3, 1) := by decide +kernel
theorem dX12_reads_96 : decode cX12_reads 96 = .ok (.if_icmp .ge 14, 3) := by decide +kernel
theorem dX12_reads_99 : decode cX12_reads 99 = .ok (.aload_n 0, 1) := by decide +kernel
theorem dX12_reads_100 : decode cX12_reads 100 = .ok (.getfield 13, 3) := by decide +kernel
theorem dX12_reads_103 : decode cX12_reads 103 = .ok (.iload 6, 2) := by decide +kernel
theorem dX12_reads_105 : decode cX12_reads 105 = .ok (.iaload, 1) := by decide +kernel
theorem dX12_reads_106 : decode cX12_reads 106 = .ok (.istore_n 3, 1) := by decide +kernel
theorem dX12_reads_107 : decode cX12_reads 107 = .ok (.goto 231, 3) := by decide +kernel
theorem dX12_reads_110 : decode cX12_reads 110 = .ok (.aload_n 0, 1) := by decide +kernel
theorem dX12_reads_111 : decode cX12_reads 111 = .ok (.getfield 7, 3) := by decide +kernel
theorem dX12_reads_114 : decode cX12_reads 114 = .ok (.iload 6, 2) := by decide +kernel
theorem dX12_reads_116 : decode cX12_reads 116 = .ok (.iaload, 1) := by decide +kernel
theorem dX12_reads_117 : decode cX12_reads 117 = .ok (.iconst 3, 1) := by decide +kernel
theorem dX12_reads_118 : decode cX12_reads 118 = .ok (.if_icmp .ne 79, 3) := by decide +kernel
theorem dX12_reads_121 : decode cX12_reads 121 = .ok (.iload 4, 2) := by decide +kernel
theorem dX12_reads_123 : decode cX12_reads 123 = .ok (.aload_n 0, 1) := by decide +kernel
theorem dX12_reads_124 : decode cX12_reads 124 = .ok (.getfield 46, 3) := by decide +kernel
theorem dX12_reads_127 : decode cX12_reads 127 = .ok (.aload_n 0, 1) := by decide +kernel
theorem dX12_reads_128 : decode cX12_reads 128 = .ok (.getfield 13, 3) := by decide +kernel
theorem dX12_reads_131 : decode cX12_reads 131 = .ok (.iload 6, 2) := by decide +kernel
theorem dX12_reads_133 : decode cX12_reads 133 = .ok (.iaload, 1) := by decide +kernel
theorem dX12_reads_134 : decode cX12_reads 134 = .ok (.iaload, 1) := by decide +kernel
theorem dX12_reads_135 : decode cX12_reads 135 = .ok (.if_icmp .ge 7, 3) := by decide +kernel
theorem dX12_reads_138 : decode cX12_reads 138 = .ok (.iconst 1, 1) := by decide +kernel
theorem dX12_reads_139 : decode cX12_reads 139 = .ok (.goto 4, 3) := by decide +kernel
theorem dX12_reads_142 : decode cX12_reads 142 = .ok (.iconst 0, 1) := by decide +kernel
theorem dX12_reads_143 : decode cX12_reads 143 = .ok (.istore 7, 2) := by decide +kernel
theorem dX12_reads_145 : decode cX12_reads 145 = .ok (.iload 7, 2) := by decide +kernel
theorem dX12_reads_147 : decode cX12_reads 147 = .ok (.ifCond .eq 13, 3) := by decide +kernel
theorem dX12_reads_150 : decode cX12_reads 150 = .ok (.aload_n 0, 1) := by decide +kernel
theorem dX12_reads_151 : decode cX12_reads 151 = .ok (.getfield 13, 3) := by decide +kernel
theorem dX12_reads_154 : decode cX12_reads 154 = .ok (.iload 6, 2) := by decide +kernel
theorem dX12_reads_156 : decode cX12_reads 156 = .ok (.iaload, 1) := by decide +kernel
theorem dX12_reads_157 : decode cX12_reads 157 = .ok (.goto 10, 3) := by decide +kernel
theorem dX12_reads_160 : decode cX12_reads 160 = .ok (.aload_n 0, 1) := by decide +kernel
theorem dX12_reads_161 : decode cX12_reads 161 = .ok (.getfield 16, 3) := by decide +kernel
theorem dX12_reads_164 : decode cX12_reads 164 = .ok (.iload 6, 2) := by decide +kernel
theorem dX12_reads_166 : decode cX12_reads 166 = .ok (.iaload, 1) := by decide +kernel
theorem dX12_reads_167 : decode cX12_reads 167 = .ok (.istore_n 3, 1) := by decide +kernel
theorem dX12_reads_168 : decode cX12_reads 168 = .ok (.iload 4, 2) := by decide +kernel
theorem dX12_reads_170 : decode cX12_reads 170 = .ok (.iload 7, 2) := by decide +kernel
theorem dX12_reads_172 : decode cX12_reads 172 = .ok (.ifCond .eq 7, 3) := by decide +kernel
theorem dX12_reads_175 : decode cX12_reads 175 = .ok (.iconst 0, 1) := by decide +kernel
theorem dX12_reads_176 : decode cX12_reads 176 = .ok (.goto 15, 3) := by decide +kernel
theorem dX12_reads_179 : decode cX12_reads 179 = .ok (.aload_n 0, 1) := by decide +kernel
theorem dX12_reads_180 : decode cX12_reads 180 = .ok (.getfield 46, 3) := by decide +kernel
theorem dX12_reads_183 : decode cX12_reads 183 = .ok (.aload_n 0, 1) := by decide +kernel
theorem dX12_reads_184 : decode cX12_reads 184 = .ok (.getfield 13, 3) := by decide +kernel
theorem dX12_reads_187 : decode cX12_reads 187 = .ok (.iload 6, 2) := by decide +kernel
theorem dX12_reads_189 : decode cX12_reads 189 = .ok (.iaload, 1) := by decide +kernel
theorem dX12_reads_190 : decode cX12_reads 190 = .ok (.iaload, 1) := by decide +kernel
theorem dX12_reads_191 : decode cX12_reads 191 = .ok (.isub, 1) := by decide +kernel
theorem dX12_reads_192 : decode cX12_reads 192 = .ok (.istore 4, 2) := by decide +kernel
theorem dX12_reads_194 : decode cX12_reads 194 = .ok (.goto 144, 3) := by decide +kernel
theorem dX12_reads_197 : decode cX12_reads 197 = .ok (.aload_n 0, 1) := by decide +kernel
theorem dX12_reads_198 : decode cX12_reads 198 = .ok (.getfield 7, 3) := by decide +kernel
theorem dX12_reads_201 : decode cX12_reads 201 = .ok (.iload 6, 2) := by decide +kernel
theorem dX12_reads_203 : decode cX12_reads 203 = .ok (.iaload, 1) := by decide +kernel
theorem dX12_reads_204 : decode cX12_reads 204 = .ok (.iconst 5, 1) := by decide +kernel
theorem dX12_reads_205 : decode cX12_reads 205 = .ok (.if_icmp .ne 50, 3) := by decide +kernel
theorem dX12_reads_208 : decode cX12_reads 208 = .ok (.aload_n 0, 1) := by decide +kernel
theorem dX12_reads_209 : decode cX12_reads 209 = .ok (.iload 6, 2) := by decide +kernel
theorem dX12_reads_211 : decode cX12_reads 211 = .ok (.invokevirtual 187, 3) := by decide +kernel
theorem dX12_reads_214 : decode cX12_reads 214 = .ok (.ifCond .eq 41, 3) := by decide +kernel
theorem dX12_reads_217 : decode cX12_reads 217 = .ok (.iload 5, 2) := by decide +kernel
theorem dX12_reads_219 : decode cX12_reads 219 = .ok (.aload_n 0, 1) := by decide +kernel
theorem dX12_reads_220 : decode cX12_reads 220 = .ok (.aload_n 0, 1) := by decide +kernel
theorem dX12_reads_221 : decode cX12_reads 221 = .ok (.getfield 16, 3) := by decide +kernel
theorem dX12_reads_224 : decode cX12_reads 224 = .ok (.iload 6, 2) := by decide +kernel
theorem dX12_reads_226 : decode cX12_reads 226 = .ok (.iaload, 1) := by decide +kernel
theorem dX12_reads_227 : decode cX12_reads 227 = .ok (.invokevirtual 152, 3) := by decide +kernel
theorem dX12_reads_230 : decode cX12_reads 230 = .ok (.iadd, 1) := by decide +kernel
theorem dX12_reads_231 : decode cX12_reads 231 = .ok (.istore 5, 2) := by decide +kernel
theorem dX12_reads_233 : decode cX12_reads 233 = .ok (.aload_n 0, 1) := by decide +kernel
theorem dX12_reads_234 : decode cX12_reads 234 = .ok (.aload_n 0, 1) := by decide +kernel
theorem dX12_reads_235 : decode cX12_reads 235 = .ok (.getfield 16, 3) := by decide +kernel
theorem dX12_reads_238 : decode cX12_reads 238 = .ok (.iload 6, 2) := by decide +kernel
theorem dX12_reads_240 : decode cX12_reads 240 = .ok (.iaload, 1) := by decide +kernel
theorem dX12_reads_241 : decode cX12_reads 241 = .ok (.invokevirtual 226, 3) := by decide +kernel
theorem dX12_reads_244 : decode cX12_reads 244 = .ok (.aload_n 0, 1) := by decide +kernel
theorem dX12_reads_245 : decode cX12_reads 245 = .ok (.getfield 13, 3) := by decide +kernel
theorem dX12_reads_248 : decode cX12_reads 248 = .ok (.iload 6, 2) := by decide +kernel
theorem dX12_reads_250 : decode cX12_reads 250 = .ok (.iaload, 1) := by decide +kernel
theorem dX12_reads_251 : decode cX12_reads 251 = .ok (.istore_n 3, 1) := by decide +kernel
theorem dX12_reads_252 : decode cX12_reads 252 = .ok (.goto 86, 3) := by decide +kernel
theorem dX12_reads_255 : decode cX12_reads 255 = .ok (.iload 5, 2) := by decide +kernel
theorem dX12_reads_257 : decode cX12_reads 257 = .ok (.aload_n 0, 1) := by decide +kernel
theorem dX12_reads_258 : decode cX12_reads 258 = .ok (.aload_n 0, 1) := by decide +kernel
theorem dX12_reads_259 : decode cX12_reads 259 = .ok (.getfield 13, 3) := by decide +kernel
theorem dX12_reads_262 : decode cX12_reads 262 = .ok (.iload 6, 2) := by decide +kernel
theorem dX12_reads_264 : decode cX12_reads 264 = .ok (.iaload, 1) := by decide +kernel
theorem dX12_reads_265 : decode cX12_reads 265 = .ok (.iload 4, 2) := by decide +kernel
theorem dX12_reads_267 : decode cX12_reads 267 = .ok (.aload_n 0, 1) := by decide +kernel
theorem dX12_reads_268 : decode cX12_reads 268 = .ok (.getfield 28, 3) := by decide +kernel
theorem dX12_reads_271 : decode cX12_reads 271 = .ok (.iload 6, 2) := by decide +kernel
theorem dX12_reads_273 : decode cX12_reads 273 = .ok (.iaload, 1) := by decide +kernel
theorem dX12_reads_274 : decode cX12_reads 274 = .ok (.invokevirtual 229, 3) := by decide +kernel
theorem dX12_reads_277 : decode cX12_reads 277 = .ok (.iadd, 1) := by decide +kernel
theorem dX12_reads_278 : decode cX12_reads 278 = .ok (.istore 5, 2) := by decide +kernel
theorem dX12_reads_280 : decode cX12_reads 280 = .ok (.aload_n 0, 1) := by decide +kernel
theorem dX12_reads_281 : decode cX12_reads 281 = .ok (.aload_n 0, 1) := by decide +kernel
theorem dX12_reads_282 : decode cX12_reads 282 = .ok (.getfield 13, 3) := by decide +kernel
theorem dX12_reads_285 : decode cX12_reads 285 = .ok (.iload 6, 2) := by decide +kernel
theorem dX12_reads_287 : decode cX12_reads 287 = .ok (.iaload, 1) := by decide +kernel
theorem dX12_reads_288 : decode cX12_reads 288 = .ok (.invokevirtual 226, 3) := by decide +kernel
theorem dX12_reads_291 : decode cX12_reads 291 = .ok (.aload_n 0, 1) := by decide +kernel
theorem dX12_reads_292 : decode cX12_reads 292 = .ok (.getfield 7, 3) := by decide +kernel
theorem dX12_reads_295 : decode cX12_reads 295 = .ok (.iload 6, 2) := by decide +kernel
theorem dX12_reads_297 : decode cX12_reads 297 = .ok (.iaload, 1) := by decide +kernel
theorem dX12_reads_298 : decode cX12_reads 298 = .ok (.iconst 5, 1) := by decide +kernel
theorem dX12_reads_299 : decode cX12_reads 299 = .ok (.if_icmp .ne 39, 3) := by decide +kernel
theorem dX12_reads_302 : decode cX12_reads 302 = .ok (.iload 5, 2) := by decide +kernel
theorem dX12_reads_304 : decode cX12_reads 304 = .ok (.aload_n 0, 1) := by decide +kernel
theorem dX12_reads_305 : decode cX12_reads 305 = .ok (.aload_n 0, 1) := by decide +kernel
theorem dX12_reads_306 : decode cX12_reads 306 = .ok (.getfield 16, 3) := by decide +kernel
theorem dX12_reads_309 : decode cX12_reads 309 = .ok (.iload 6, 2) := by decide +kernel
theorem dX12_reads_311 : decode cX12_reads 311 = .ok (.iaload, 1) := by decide +kernel
theorem dX12_reads_312 : decode cX12_reads 312 = .ok (.iload 4, 2) := by decide +kernel
theorem dX12_reads_314 : decode cX12_reads 314 = .ok (.aload_n 0, 1) := by decide +kernel
theorem dX12_reads_315 : decode cX12_reads 315 = .ok (.getfield 28, 3) := by decide +kernel
theorem dX12_reads_318 : decode cX12_reads 318 = .ok (.iload 6, 2) := by decide +kernel
theorem dX12_reads_320 : decode cX12_reads 320 = .ok (.iaload, 1) := by decide +kernel
theorem dX12_reads_321 : decode cX12_reads 321 = .ok (.invokevirtual 229, 3) := by decide +kernel
theorem dX12_reads_324 : decode cX12_reads 324 = .ok (.iadd, 1) := by decide +kernel
theorem dX12_reads_325 : decode cX12_reads 325 = .ok (.istore 5, 2) := by decide +kernel
theorem dX12_reads_327 : decode cX12_reads 327 = .ok (.aload_n 0, 1) := by decide +kernel
theorem dX12_reads_328 : decode cX12_reads 328 = .ok (.aload_n 0, 1) := by decide +kernel
theorem dX12_reads_329 : decode cX12_reads 329 = .ok (.getfield 16, 3) := by decide +kernel
theorem dX12_reads_332 : decode cX12_reads 332 = .ok (.iload 6, 2) := by decide +kernel
theorem dX12_reads_334 : decode cX12_reads 334 = .ok (.iaload, 1) := by decide +kernel
theorem dX12_reads_335 : decode cX12_reads 335 = .ok (.invokevirtual 226, 3) := by decide +kernel
theorem dX12_reads_338 : decode cX12_reads 338 = .ok (.goto (-330), 3) := by decide +kernel
theorem dX12_reads_341 : decode cX12_reads 341 = .ok (.iload 5, 2) := by decide +kernel
theorem dX12_reads_343 : decode cX12_reads 343 = .ok (.ireturn, 1) := by decide +kernel
theorem dX12_finds_0 : decode cX12_finds 0 = .ok (.aload_n 0, 1) := by decide +kernel
theorem dX12_finds_1 : decode cX12_finds 1 = .ok (.invokevirtual 196, 3) := by decide +kernel
theorem dX12_finds_4 : decode cX12_finds 4 = .ok (.iconst 0, 1) := by decide +kernel
theorem dX12_finds_5 : decode cX12_finds 5 = .ok (.istore_n 2, 1) := by decide +kernel
theorem dX12_finds_6 : decode cX12_finds 6 = .ok (.iload_n 2, 1) := by decide +kernel
theorem dX12_finds_7 : decode cX12_finds 7 = .ok (.bipush 14, 2) := by decide +kernel
theorem dX12_finds_9 : decode cX12_finds 9 = .ok (.if_icmp .ge 66, 3) := by decide +kernel
theorem dX12_finds_12 : decode cX12_finds 12 = .ok (.aload_n 0, 1) := by decide +kernel
theorem dX12_finds_13 : decode cX12_finds 13 = .ok (.getfield 81, 3) := by decide +kernel
theorem dX12_finds_16 : decode cX12_finds 16 = .ok (.iload_n 2, 1) := by decide +kernel
theorem dX12_finds_17 : decode cX12_finds 17 = .ok (.iload_n 2, 1) := by decide +kernel
theorem dX12_finds_18 : decode cX12_finds 18 = .ok (.iload_n 1, 1) := by decide +kernel
theorem dX12_finds_19 : decode cX12_finds 19 = .ok (.if_icmp .ne 16, 3) := by decide +kernel
theorem dX12_finds_22 : decode cX12_finds 22 = .ok (.aload_n 0, 1) := by decide +kernel
theorem dX12_finds_23 : decode cX12_finds 23 = .ok (.getfield 75, 3) := by decide +kernel
theorem dX12_finds_26 : decode cX12_finds 26 = .ok (.iload_n 2, 1) := by decide +kernel
theorem dX12_finds_27 : decode cX12_finds 27 = .ok (.baload, 1) := by decide +kernel
theorem dX12_finds_28 : decode cX12_finds 28 = .ok (.ifCond .ne 7, 3) := by decide +kernel
theorem dX12_finds_31 : decode cX12_finds 31 = .ok (.iconst 1, 1) := by decide +kernel
theorem dX12_finds_32 : decode cX12_finds 32 = .ok (.goto 4, 3) := by decide +kernel
theorem dX12_finds_35 : decode cX12_finds 35 = .ok (.iconst 0, 1) := by decide +kernel
theorem dX12_finds_36 : decode cX12_finds 36 = .ok (.bastore, 1) := by decide +kernel
theorem dX12_finds_37 : decode cX12_finds 37 = .ok (.aload_n 0, 1) := by decide +kernel
theorem dX12_finds_38 : decode cX12_finds 38 = .ok (.getfield 84, 3) := by decide +kernel
theorem dX12_finds_41 : decode cX12_finds 41 = .ok (.iload_n 2, 1) := by decide +kernel
theorem dX12_finds_42 : decode cX12_finds 42 = .ok (.iconst 0, 1) := by decide +kernel
theorem dX12_finds_43 : decode cX12_finds 43 = .ok (.bastore, 1) := by decide +kernel
theorem dX12_finds_44 : decode cX12_finds 44 = .ok (.aload_n 0, 1) := by decide +kernel
theorem dX12_finds_45 : decode cX12_finds 45 = .ok (.getfield 87, 3) := by decide +kernel
theorem dX12_finds_48 : decode cX12_finds 48 = .ok (.iload_n 2, 1) := by decide +kernel
theorem dX12_finds_49 : decode cX12_finds 49 = .ok (.iload_n 2, 1) := by decide +kernel
theorem dX12_finds_50 : decode cX12_finds 50 = .ok (.iload_n 1, 1) := by decide +kernel
theorem dX12_finds_51 : decode cX12_finds 51 = .ok (.if_icmp .ne 16, 3) := by decide +kernel
theorem dX12_finds_54 : decode cX12_finds 54 = .ok (.aload_n 0, 1) := by decide +kernel
theorem dX12_finds_55 : decode cX12_finds 55 = .ok (.getfield 75, 3) := by decide +kernel
theorem dX12_finds_58 : decode cX12_finds 58 = .ok (.iload_n 2, 1) := by decide +kernel
theorem dX12_finds_59 : decode cX12_finds 59 = .ok (.baload, 1) := by decide +kernel
theorem dX12_finds_60 : decode cX12_finds 60 = .ok (.ifCond .eq 7, 3) := by decide +kernel
theorem dX12_finds_63 : decode cX12_finds 63 = .ok (.iconst 1, 1) := by decide +kernel
theorem dX12_finds_64 : decode cX12_finds 64 = .ok (.goto 4, 3) := by decide +kernel
theorem dX12_finds_67 : decode cX12_finds 67 = .ok (.iconst 0, 1) := by decide +kernel
theorem dX12_finds_68 : decode cX12_finds 68 = .ok (.bastore, 1) := by decide +kernel
theorem dX12_finds_69 : decode cX12_finds 69 = .ok (.iinc 2 1, 3) := by decide +kernel
theorem dX12_finds_72 : decode cX12_finds 72 = .ok (.goto (-66), 3) := by decide +kernel
theorem dX12_finds_75 : decode cX12_finds 75 = .ok (.iconst 0, 1) := by decide +kernel
theorem dX12_finds_76 : decode cX12_finds 76 = .ok (.istore_n 2, 1) := by decide +kernel
theorem dX12_finds_77 : decode cX12_finds 77 = .ok (.iload_n 1, 1) := by decide +kernel
theorem dX12_finds_78 : decode cX12_finds 78 = .ok (.istore_n 3, 1) := by decide +kernel
theorem dX12_finds_79 : decode cX12_finds 79 = .ok (.iload_n 3, 1) := by decide +kernel
theorem dX12_finds_80 : decode cX12_finds 80 = .ok (.ifCond .lt 63, 3) := by decide +kernel
theorem dX12_finds_83 : decode cX12_finds 83 = .ok (.iconst 0, 1) := by decide +kernel
theorem dX12_finds_84 : decode cX12_finds 84 = .ok (.istore 4, 2) := by decide +kernel
theorem dX12_finds_86 : decode cX12_finds 86 = .ok (.iload 4, 2) := by decide +kernel
theorem dX12_finds_88 : decode cX12_finds 88 = .ok (.aload_n 0, 1) := by decide +kernel
theorem dX12_finds_89 : decode cX12_finds 89 = .ok (.getfield 46, 3) := by decide +kernel
theorem dX12_finds_92 : decode cX12_finds 92 = .ok (.iload_n 3, 1) := by decide +kernel
theorem dX12_finds_93 : decode cX12_finds 93 = .ok (.iaload, 1) := by decide +kernel
theorem dX12_finds_94 : decode cX12_finds 94 = .ok (.if_icmp .ge 26, 3) := by decide +kernel
theorem dX12_finds_97 : decode cX12_finds 97 = .ok (.aload_n 0, 1) := by decide +kernel
theorem dX12_finds_98 : decode cX12_finds 98 = .ok (.getfield 81, 3) := by decide +kernel
theorem dX12_finds_101 : decode cX12_finds 101 = .ok (.iload_n 3, 1) := by decide +kernel
theorem dX12_finds_102 : decode cX12_finds 102 = .ok (.baload, 1) := by decide +kernel
theorem dX12_finds_103 : decode cX12_finds 103 = .ok (.ifCond .eq 17, 3) := by decide +kernel
theorem dX12_finds_106 : decode cX12_finds 106 = .ok (.aload_n 0, 1) := by decide +kernel
theorem dX12_finds_107 : decode cX12_finds 107 = .ok (.iload_n 3, 1) := by decide +kernel
theorem dX12_finds_108 : decode cX12_finds 108 = .ok (.iload 4, 2) := by decide +kernel
theorem dX12_finds_110 : decode cX12_finds 110 = .ok (.invokevirtual 232, 3) := by decide +kernel
theorem dX12_finds_113 : decode cX12_finds 113 = .ok (.pop, 1) := by decide +kernel
theorem dX12_finds_114 : decode cX12_finds 114 = .ok (.iinc 4 1, 3) := by decide +kernel
theorem dX12_finds_117 : decode cX12_finds 117 = .ok (.goto (-31), 3) := by decide +kernel
theorem dX12_finds_120 : decode cX12_finds 120 = .ok (.iload_n 2, 1) := by decide +kernel
theorem dX12_finds_121 : decode cX12_finds 121 = .ok (.aload_n 0, 1) := by decide +kernel
theorem dX12_finds_122 : decode cX12_finds 122 = .ok (.getfield 81, 3) := by decide +kernel
theorem dX12_finds_125 : decode cX12_finds 125 = .ok (.iload_n 3, 1) := by decide +kernel
theorem dX12_finds_126 : decode cX12_finds 126 = .ok (.baload, 1) := by decide +kernel
theorem dX12_finds_127 : decode cX12_finds 127 = .ok (.ifCond .eq 7, 3) := by decide +kernel
theorem dX12_finds_130 : decode cX12_finds 130 = .ok (.iconst 1, 1) := by decide +kernel
theorem dX12_finds_131 : decode cX12_finds 131 = .ok (.goto 4, 3) := by decide +kernel
theorem dX12_finds_134 : decode cX12_finds 134 = .ok (.iconst 0, 1) := by decide +kernel
theorem dX12_finds_135 : decode cX12_finds 135 = .ok (.iadd, 1) := by decide +kernel
theorem dX12_finds_136 : decode cX12_finds 136 = .ok (.istore_n 2, 1) := by decide +kernel
theorem dX12_finds_137 : decode cX12_finds 137 = .ok (.iinc 3 (-1), 3) := by decide +kernel
theorem dX12_finds_140 : decode cX12_finds 140 = .ok (.goto (-61), 3) := by decide +kernel
theorem dX12_finds_143 : decode cX12_finds 143 = .ok (.iload_n 2, 1) := by decide +kernel
theorem dX12_finds_144 : decode cX12_finds 144 = .ok (.ireturn, 1) := by decide +kernel
theorem dX12_stages_0 : decode cX12_stages 0 = .ok (.aload_n 0, 1) := by decide +kernel
theorem dX12_stages_1 : decode cX12_stages 1 = .ok (.aload_n 0, 1) := by decide +kernel
theorem dX12_stages_2 : decode cX12_stages 2 = .ok (.iload_n 1, 1) := by decide +kernel
theorem dX12_stages_3 : decode cX12_stages 3 = .ok (.invokevirtual 138, 3) := by decide +kernel
theorem dX12_stages_6 : decode cX12_stages 6 = .ok (.ifCond .eq 7, 3) := by decide +kernel
theorem dX12_stages_9 : decode cX12_stages 9 = .ok (.iconst 0, 1) := by decide +kernel
theorem dX12_stages_10 : decode cX12_stages 10 = .ok (.goto 4, 3) := by decide +kernel
theorem dX12_stages_13 : decode cX12_stages 13 = .ok (.iconst 1, 1) := by decide +kernel
theorem dX12_stages_14 : decode cX12_stages 14 = .ok (.invokevirtual 130, 3) := by decide +kernel
theorem dX12_stages_17 : decode cX12_stages 17 = .ok (.ifCond .eq 7, 3) := by decide +kernel
theorem dX12_stages_20 : decode cX12_stages 20 = .ok (.iconst 0, 1) := by decide +kernel
theorem dX12_stages_21 : decode cX12_stages 21 = .ok (.goto 8, 3) := by decide +kernel
theorem dX12_stages_24 : decode cX12_stages 24 = .ok (.aload_n 0, 1) := by decide +kernel
theorem dX12_stages_25 : decode cX12_stages 25 = .ok (.iload_n 1, 1) := by decide +kernel
theorem dX12_stages_26 : decode cX12_stages 26 = .ok (.invokevirtual 235, 3) := by decide +kernel
theorem dX12_stages_29 : decode cX12_stages 29 = .ok (.ireturn, 1) := by decide +kernel
theorem dX12_outputOf_0 : decode cX12_outputOf 0 = .ok (.aload_n 0, 1) := by decide +kernel
theorem dX12_outputOf_1 : decode cX12_outputOf 1 = .ok (.iload_n 1, 1) := by decide +kernel
theorem dX12_outputOf_2 : decode cX12_outputOf 2 = .ok (.invokevirtual 138, 3) := by decide +kernel
theorem dX12_outputOf_5 : decode cX12_outputOf 5 = .ok (.ifCond .eq 11, 3) := by decide +kernel
theorem dX12_outputOf_8 : decode cX12_outputOf 8 = .ok (.aload_n 0, 1) := by decide +kernel
theorem dX12_outputOf_9 : decode cX12_outputOf 9 = .ok (.iload_n 1, 1) := by decide +kernel
theorem dX12_outputOf_10 : decode cX12_outputOf 10 = .ok (.invokevirtual 235, 3) := by decide +kernel
theorem dX12_outputOf_13 : decode cX12_outputOf 13 = .ok (.goto 4, 3) := by decide +kernel
theorem dX12_outputOf_16 : decode cX12_outputOf 16 = .ok (.iconst 0, 1) := by decide +kernel
theorem dX12_outputOf_17 : decode cX12_outputOf 17 = .ok (.istore_n 3, 1) := by decide +kernel
theorem dX12_outputOf_18 : decode cX12_outputOf 18 = .ok (.aload_n 0, 1) := by decide +kernel
theorem dX12_outputOf_19 : decode cX12_outputOf 19 = .ok (.iload_n 2, 1) := by decide +kernel
theorem dX12_outputOf_20 : decode cX12_outputOf 20 = .ok (.ifCond .lt 12, 3) := by decide +kernel
theorem dX12_outputOf_23 : decode cX12_outputOf 23 = .ok (.iload_n 2, 1) := by decide +kernel
theorem dX12_outputOf_24 : decode cX12_outputOf 24 = .ok (.iload_n 3, 1) := by decide +kernel
theorem dX12_outputOf_25 : decode cX12_outputOf 25 = .ok (.if_icmp .ge 7, 3) := by decide +kernel
theorem dX12_outputOf_28 : decode cX12_outputOf 28 = .ok (.iconst 0, 1) := by decide +kernel
theorem dX12_outputOf_29 : decode cX12_outputOf 29 = .ok (.goto 4, 3) := by decide +kernel
theorem dX12_outputOf_32 : decode cX12_outputOf 32 = .ok (.iconst 1, 1) := by decide +kernel
theorem dX12_outputOf_33 : decode cX12_outputOf 33 = .ok (.invokevirtual 130, 3) := by decide +kernel
theorem dX12_outputOf_36 : decode cX12_outputOf 36 = .ok (.ifCond .eq 5, 3) := by decide +kernel
theorem dX12_outputOf_39 : decode cX12_outputOf 39 = .ok (.iconst 0, 1) := by decide +kernel
theorem dX12_outputOf_40 : decode cX12_outputOf 40 = .ok (.ireturn, 1) := by decide +kernel
theorem dX12_outputOf_41 : decode cX12_outputOf 41 = .ok (.iload_n 2, 1) := by decide +kernel
theorem dX12_outputOf_42 : decode cX12_outputOf 42 = .ok (.istore 4, 2) := by decide +kernel
theorem dX12_outputOf_44 : decode cX12_outputOf 44 = .ok (.iconst 0, 1) := by decide +kernel
theorem dX12_outputOf_45 : decode cX12_outputOf 45 = .ok (.istore 5, 2) := by decide +kernel
theorem dX12_outputOf_47 : decode cX12_outputOf 47 = .ok (.iload 4, 2) := by decide +kernel
theorem dX12_outputOf_49 : decode cX12_outputOf 49 = .ok (.ifCond .gt 13, 3) := by decide +kernel
theorem dX12_outputOf_52 : decode cX12_outputOf 52 = .ok (.aload_n 0, 1) := by decide +kernel
theorem dX12_outputOf_53 : decode cX12_outputOf 53 = .ok (.getfield 81, 3) := by decide +kernel
theorem dX12_outputOf_56 : decode cX12_outputOf 56 = .ok (.iload 5, 2) := by decide +kernel
theorem dX12_outputOf_58 : decode cX12_outputOf 58 = .ok (.baload, 1) := by decide +kernel
theorem dX12_outputOf_59 : decode cX12_outputOf 59 = .ok (.ifCond .ne 29, 3) := by decide +kernel
theorem dX12_outputOf_62 : decode cX12_outputOf 62 = .ok (.iload 4, 2) := by decide +kernel
theorem dX12_outputOf_64 : decode cX12_outputOf 64 = .ok (.aload_n 0, 1) := by decide +kernel
theorem dX12_outputOf_65 : decode cX12_outputOf 65 = .ok (.getfield 81, 3) := by decide +kernel
theorem dX12_outputOf_68 : decode cX12_outputOf 68 = .ok (.iload 5, 2) := by decide +kernel
theorem dX12_outputOf_70 : decode cX12_outputOf 70 = .ok (.baload, 1) := by decide +kernel
theorem dX12_outputOf_71 : decode cX12_outputOf 71 = .ok (.ifCond .eq 7, 3) := by decide +kernel
theorem dX12_outputOf_74 : decode cX12_outputOf 74 = .ok (.iconst 1, 1) := by decide +kernel
theorem dX12_outputOf_75 : decode cX12_outputOf 75 = .ok (.goto 4, 3) := by decide +kernel
theorem dX12_outputOf_78 : decode cX12_outputOf 78 = .ok (.iconst 0, 1) := by decide +kernel
theorem dX12_outputOf_79 : decode cX12_outputOf 79 = .ok (.isub, 1) := by decide +kernel
theorem dX12_outputOf_80 : decode cX12_outputOf 80 = .ok (.istore 4, 2) := by decide +kernel
theorem dX12_outputOf_82 : decode cX12_outputOf 82 = .ok (.iinc 5 1, 3) := by decide +kernel
theorem dX12_outputOf_85 : decode cX12_outputOf 85 = .ok (.goto (-38), 3) := by decide +kernel
theorem dX12_outputOf_88 : decode cX12_outputOf 88 = .ok (.iload 5, 2) := by decide +kernel
theorem dX12_outputOf_90 : decode cX12_outputOf 90 = .ok (.ireturn, 1) := by decide +kernel
theorem dX12_takes_0 : decode cX12_takes 0 = .ok (.aload_n 0, 1) := by decide +kernel
theorem dX12_takes_1 : decode cX12_takes 1 = .ok (.getfield 90, 3) := by decide +kernel
theorem dX12_takes_4 : decode cX12_takes 4 = .ok (.aload_n 0, 1) := by decide +kernel
theorem dX12_takes_5 : decode cX12_takes 5 = .ok (.getfield 238, 3) := by decide +kernel
theorem dX12_takes_8 : decode cX12_takes 8 = .ok (.iload_n 1, 1) := by decide +kernel
theorem dX12_takes_9 : decode cX12_takes 9 = .ok (.iastore, 1) := by decide +kernel
theorem dX12_takes_10 : decode cX12_takes 10 = .ok (.aload_n 0, 1) := by decide +kernel
theorem dX12_takes_11 : decode cX12_takes 11 = .ok (.getfield 93, 3) := by decide +kernel
theorem dX12_takes_14 : decode cX12_takes 14 = .ok (.aload_n 0, 1) := by decide +kernel
theorem dX12_takes_15 : decode cX12_takes 15 = .ok (.getfield 238, 3) := by decide +kernel
theorem dX12_takes_18 : decode cX12_takes 18 = .ok (.iload_n 2, 1) := by decide +kernel
theorem dX12_takes_19 : decode cX12_takes 19 = .ok (.iastore, 1) := by decide +kernel
theorem dX12_takes_20 : decode cX12_takes 20 = .ok (.aload_n 0, 1) := by decide +kernel
theorem dX12_takes_21 : decode cX12_takes 21 = .ok (.getfield 96, 3) := by decide +kernel
theorem dX12_takes_24 : decode cX12_takes 24 = .ok (.aload_n 0, 1) := by decide +kernel
theorem dX12_takes_25 : decode cX12_takes 25 = .ok (.getfield 238, 3) := by decide +kernel
theorem dX12_takes_28 : decode cX12_takes 28 = .ok (.iload_n 3, 1) := by decide +kernel
theorem dX12_takes_29 : decode cX12_takes 29 = .ok (.iastore, 1) := by decide +kernel
theorem dX12_takes_30 : decode cX12_takes 30 = .ok (.aload_n 0, 1) := by decide +kernel
theorem dX12_takes_31 : decode cX12_takes 31 = .ok (.getfield 99, 3) := by decide +kernel
theorem dX12_takes_34 : decode cX12_takes 34 = .ok (.aload_n 0, 1) := by decide +kernel
theorem dX12_takes_35 : decode cX12_takes 35 = .ok (.getfield 238, 3) := by decide +kernel
theorem dX12_takes_38 : decode cX12_takes 38 = .ok (.iload 4, 2) := by decide +kernel
theorem dX12_takes_40 : decode cX12_takes 40 = .ok (.iastore, 1) := by decide +kernel
theorem dX12_takes_41 : decode cX12_takes 41 = .ok (.aload_n 0, 1) := by decide +kernel
theorem dX12_takes_42 : decode cX12_takes 42 = .ok (.getfield 105, 3) := by decide +kernel
theorem dX12_takes_45 : decode cX12_takes 45 = .ok (.aload_n 0, 1) := by decide +kernel
theorem dX12_takes_46 : decode cX12_takes 46 = .ok (.getfield 238, 3) := by decide +kernel
theorem dX12_takes_49 : decode cX12_takes 49 = .ok (.iload 5, 2) := by decide +kernel
theorem dX12_takes_51 : decode cX12_takes 51 = .ok (.bastore, 1) := by decide +kernel
theorem dX12_takes_52 : decode cX12_takes 52 = .ok (.aload_n 0, 1) := by decide +kernel
theorem dX12_takes_53 : decode cX12_takes 53 = .ok (.dup, 1) := by decide +kernel
theorem dX12_takes_54 : decode cX12_takes 54 = .ok (.getfield 238, 3) := by decide +kernel
theorem dX12_takes_57 : decode cX12_takes 57 = .ok (.iconst 1, 1) := by decide +kernel
theorem dX12_takes_58 : decode cX12_takes 58 = .ok (.iadd, 1) := by decide +kernel
theorem dX12_takes_59 : decode cX12_takes 59 = .ok (.putfield 238, 3) := by decide +kernel
theorem dX12_takes_62 : decode cX12_takes 62 = .ok (.aload_n 0, 1) := by decide +kernel
theorem dX12_takes_63 : decode cX12_takes 63 = .ok (.getfield 111, 3) := by decide +kernel
theorem dX12_takes_66 : decode cX12_takes 66 = .ok (.iload_n 2, 1) := by decide +kernel
theorem dX12_takes_67 : decode cX12_takes 67 = .ok (.iload 4, 2) := by decide +kernel
theorem dX12_takes_69 : decode cX12_takes 69 = .ok (.aload_n 0, 1) := by decide +kernel
theorem dX12_takes_70 : decode cX12_takes 70 = .ok (.getfield 108, 3) := by decide +kernel
theorem dX12_takes_73 : decode cX12_takes 73 = .ok (.iload_n 2, 1) := by decide +kernel
theorem dX12_takes_74 : decode cX12_takes 74 = .ok (.iaload, 1) := by decide +kernel
theorem dX12_takes_75 : decode cX12_takes 75 = .ok (.aload_n 0, 1) := by decide +kernel
theorem dX12_takes_76 : decode cX12_takes 76 = .ok (.getfield 68, 3) := by decide +kernel
theorem dX12_takes_79 : decode cX12_takes 79 = .ok (.iload_n 3, 1) := by decide +kernel
theorem dX12_takes_80 : decode cX12_takes 80 = .ok (.iaload, 1) := by decide +kernel
theorem dX12_takes_81 : decode cX12_takes 81 = .ok (.imul, 1) := by decide +kernel
theorem dX12_takes_82 : decode cX12_takes 82 = .ok (.iadd, 1) := by decide +kernel
theorem dX12_takes_83 : decode cX12_takes 83 = .ok (.iastore, 1) := by decide +kernel
theorem dX12_takes_84 : decode cX12_takes 84 = .ok (.aload_n 0, 1) := by decide +kernel
theorem dX12_takes_85 : decode cX12_takes 85 = .ok (.getfield 114, 3) := by decide +kernel
theorem dX12_takes_88 : decode cX12_takes 88 = .ok (.iload_n 2, 1) := by decide +kernel
theorem dX12_takes_89 : decode cX12_takes 89 = .ok (.iload 5, 2) := by decide +kernel
theorem dX12_takes_91 : decode cX12_takes 91 = .ok (.bastore, 1) := by decide +kernel
theorem dX12_takes_92 : decode cX12_takes 92 = .ok (.aload_n 0, 1) := by decide +kernel
theorem dX12_takes_93 : decode cX12_takes 93 = .ok (.getfield 117, 3) := by decide +kernel
theorem dX12_takes_96 : decode cX12_takes 96 = .ok (.iload_n 3, 1) := by decide +kernel
theorem dX12_takes_97 : decode cX12_takes 97 = .ok (.aload_n 0, 1) := by decide +kernel
theorem dX12_takes_98 : decode cX12_takes 98 = .ok (.getfield 111, 3) := by decide +kernel
theorem dX12_takes_101 : decode cX12_takes 101 = .ok (.iload_n 2, 1) := by decide +kernel
theorem dX12_takes_102 : decode cX12_takes 102 = .ok (.iaload, 1) := by decide +kernel
theorem dX12_takes_103 : decode cX12_takes 103 = .ok (.iastore, 1) := by decide +kernel
theorem dX12_takes_104 : decode cX12_takes 104 = .ok (.return_, 1) := by decide +kernel
theorem dX12_latest_0 : decode cX12_latest 0 = .ok (.iconst (-1), 1) := by decide +kernel
theorem dX12_latest_1 : decode cX12_latest 1 = .ok (.istore_n 3, 1) := by decide +kernel
theorem dX12_latest_2 : decode cX12_latest 2 = .ok (.iconst 0, 1) := by decide +kernel
theorem dX12_latest_3 : decode cX12_latest 3 = .ok (.istore 4, 2) := by decide +kernel
theorem dX12_latest_5 : decode cX12_latest 5 = .ok (.iload 4, 2) := by decide +kernel
theorem dX12_latest_7 : decode cX12_latest 7 = .ok (.iload_n 1, 1) := by decide +kernel
theorem dX12_latest_8 : decode cX12_latest 8 = .ok (.if_icmp .ge 58, 3) := by decide +kernel
theorem dX12_latest_11 : decode cX12_latest 11 = .ok (.aload_n 0, 1) := by decide +kernel
theorem dX12_latest_12 : decode cX12_latest 12 = .ok (.getfield 111, 3) := by decide +kernel
theorem dX12_latest_15 : decode cX12_latest 15 = .ok (.iload 4, 2) := by decide +kernel
theorem dX12_latest_17 : decode cX12_latest 17 = .ok (.iaload, 1) := by decide +kernel
theorem dX12_latest_18 : decode cX12_latest 18 = .ok (.iload_n 2, 1) := by decide +kernel
theorem dX12_latest_19 : decode cX12_latest 19 = .ok (.if_icmp .le 39, 3) := by decide +kernel
theorem dX12_latest_22 : decode cX12_latest 22 = .ok (.aload_n 0, 1) := by decide +kernel
theorem dX12_latest_23 : decode cX12_latest 23 = .ok (.getfield 114, 3) := by decide +kernel
theorem dX12_latest_26 : decode cX12_latest 26 = .ok (.iload 4, 2) := by decide +kernel
theorem dX12_latest_28 : decode cX12_latest 28 = .ok (.baload, 1) := by decide +kernel
theorem dX12_latest_29 : decode cX12_latest 29 = .ok (.ifCond .ne 29, 3) := by decide +kernel
theorem dX12_latest_32 : decode cX12_latest 32 = .ok (.iload_n 3, 1) := by decide +kernel
theorem dX12_latest_33 : decode cX12_latest 33 = .ok (.iconst (-1), 1) := by decide +kernel
theorem dX12_latest_34 : decode cX12_latest 34 = .ok (.if_icmp .eq 19, 3) := by decide +kernel
theorem dX12_latest_37 : decode cX12_latest 37 = .ok (.aload_n 0, 1) := by decide +kernel
theorem dX12_latest_38 : decode cX12_latest 38 = .ok (.getfield 111, 3) := by decide +kernel
theorem dX12_latest_41 : decode cX12_latest 41 = .ok (.iload 4, 2) := by decide +kernel
theorem dX12_latest_43 : decode cX12_latest 43 = .ok (.iaload, 1) := by decide +kernel
theorem dX12_latest_44 : decode cX12_latest 44 = .ok (.aload_n 0, 1) := by decide +kernel
theorem dX12_latest_45 : decode cX12_latest 45 = .ok (.getfield 111, 3) := by decide +kernel
theorem dX12_latest_48 : decode cX12_latest 48 = .ok (.iload_n 3, 1) := by decide +kernel
theorem dX12_latest_49 : decode cX12_latest 49 = .ok (.iaload, 1) := by decide +kernel
theorem dX12_latest_50 : decode cX12_latest 50 = .ok (.if_icmp .le 8, 3) := by decide +kernel
theorem dX12_latest_53 : decode cX12_latest 53 = .ok (.iload 4, 2) := by decide +kernel
theorem dX12_latest_55 : decode cX12_latest 55 = .ok (.goto 4, 3) := by decide +kernel
theorem dX12_latest_58 : decode cX12_latest 58 = .ok (.iload_n 3, 1) := by decide +kernel
theorem dX12_latest_59 : decode cX12_latest 59 = .ok (.istore_n 3, 1) := by decide +kernel
theorem dX12_latest_60 : decode cX12_latest 60 = .ok (.iinc 4 1, 3) := by decide +kernel
theorem dX12_latest_63 : decode cX12_latest 63 = .ok (.goto (-58), 3) := by decide +kernel
theorem dX12_latest_66 : decode cX12_latest 66 = .ok (.iload_n 3, 1) := by decide +kernel
theorem dX12_latest_67 : decode cX12_latest 67 = .ok (.ireturn, 1) := by decide +kernel
theorem dX12_copies_0 : decode cX12_copies 0 = .ok (.iconst 0, 1) := by decide +kernel
theorem dX12_copies_1 : decode cX12_copies 1 = .ok (.istore 5, 2) := by decide +kernel
theorem dX12_copies_3 : decode cX12_copies 3 = .ok (.iconst 0, 1) := by decide +kernel
theorem dX12_copies_4 : decode cX12_copies 4 = .ok (.istore 6, 2) := by decide +kernel
theorem dX12_copies_6 : decode cX12_copies 6 = .ok (.iload 6, 2) := by decide +kernel
theorem dX12_copies_8 : decode cX12_copies 8 = .ok (.iload_n 2, 1) := by decide +kernel
theorem dX12_copies_9 : decode cX12_copies 9 = .ok (.if_icmp .ge 31, 3) := by decide +kernel
theorem dX12_copies_12 : decode cX12_copies 12 = .ok (.iload 5, 2) := by decide +kernel
theorem dX12_copies_14 : decode cX12_copies 14 = .ok (.aload_n 0, 1) := by decide +kernel
theorem dX12_copies_15 : decode cX12_copies 15 = .ok (.getfield 111, 3) := by decide +kernel
theorem dX12_copies_18 : decode cX12_copies 18 = .ok (.iload 6, 2) := by decide +kernel
theorem dX12_copies_20 : decode cX12_copies 20 = .ok (.iaload, 1) := by decide +kernel
theorem dX12_copies_21 : decode cX12_copies 21 = .ok (.iload 4, 2) := by decide +kernel
theorem dX12_copies_23 : decode cX12_copies 23 = .ok (.if_icmp .gt 7, 3) := by decide +kernel
theorem dX12_copies_26 : decode cX12_copies 26 = .ok (.iconst 1, 1) := by decide +kernel
theorem dX12_copies_27 : decode cX12_copies 27 = .ok (.goto 4, 3) := by decide +kernel
theorem dX12_copies_30 : decode cX12_copies 30 = .ok (.iconst 0, 1) := by decide +kernel
theorem dX12_copies_31 : decode cX12_copies 31 = .ok (.iadd, 1) := by decide +kernel
theorem dX12_copies_32 : decode cX12_copies 32 = .ok (.istore 5, 2) := by decide +kernel
theorem dX12_copies_34 : decode cX12_copies 34 = .ok (.iinc 6 1, 3) := by decide +kernel
theorem dX12_copies_37 : decode cX12_copies 37 = .ok (.goto (-31), 3) := by decide +kernel
theorem dX12_copies_40 : decode cX12_copies 40 = .ok (.aload_n 0, 1) := by decide +kernel
theorem dX12_copies_41 : decode cX12_copies 41 = .ok (.iload_n 2, 1) := by decide +kernel
theorem dX12_copies_42 : decode cX12_copies 42 = .ok (.iload 4, 2) := by decide +kernel
theorem dX12_copies_44 : decode cX12_copies 44 = .ok (.invokevirtual 241, 3) := by decide +kernel
theorem dX12_copies_47 : decode cX12_copies 47 = .ok (.istore 6, 2) := by decide +kernel
theorem dX12_copies_49 : decode cX12_copies 49 = .ok (.iconst 2, 1) := by decide +kernel
theorem dX12_copies_50 : decode cX12_copies 50 = .ok (.iload 5, 2) := by decide +kernel
theorem dX12_copies_52 : decode cX12_copies 52 = .ok (.imul, 1) := by decide +kernel
theorem dX12_copies_53 : decode cX12_copies 53 = .ok (.iload_n 2, 1) := by decide +kernel
theorem dX12_copies_54 : decode cX12_copies 54 = .ok (.if_icmp .lt 36, 3) := by decide +kernel
theorem dX12_copies_57 : decode cX12_copies 57 = .ok (.iload 6, 2) := by decide +kernel
theorem dX12_copies_59 : decode cX12_copies 59 = .ok (.iconst (-1), 1) := by decide +kernel
theorem dX12_copies_60 : decode cX12_copies 60 = .ok (.if_icmp .eq 30, 3) := by decide +kernel
theorem dX12_copies_63 : decode cX12_copies 63 = .ok (.iload 4, 2) := by decide +kernel
theorem dX12_copies_65 : decode cX12_copies 65 = .ok (.aload_n 0, 1) := by decide +kernel
theorem dX12_copies_66 : decode cX12_copies 66 = .ok (.getfield 108, 3) := by decide +kernel
theorem dX12_copies_69 : decode cX12_copies 69 = .ok (.iload 6, 2) := by decide +kernel
theorem dX12_copies_71 : decode cX12_copies 71 = .ok (.iaload, 1) := by decide +kernel
theorem dX12_copies_72 : decode cX12_copies 72 = .ok (.aload_n 0, 1) := by decide +kernel
theorem dX12_copies_73 : decode cX12_copies 73 = .ok (.getfield 68, 3) := by decide +kernel
theorem dX12_copies_76 : decode cX12_copies 76 = .ok (.iload_n 3, 1) := by decide +kernel
theorem dX12_copies_77 : decode cX12_copies 77 = .ok (.iaload, 1) := by decide +kernel
theorem dX12_copies_78 : decode cX12_copies 78 = .ok (.imul, 1) := by decide +kernel
theorem dX12_copies_79 : decode cX12_copies 79 = .ok (.iadd, 1) := by decide +kernel
theorem dX12_copies_80 : decode cX12_copies 80 = .ok (.aload_n 0, 1) := by decide +kernel
theorem dX12_copies_81 : decode cX12_copies 81 = .ok (.getfield 111, 3) := by decide +kernel
theorem dX12_copies_84 : decode cX12_copies 84 = .ok (.iload 6, 2) := by decide +kernel
theorem dX12_copies_86 : decode cX12_copies 86 = .ok (.iaload, 1) := by decide +kernel
theorem dX12_copies_87 : decode cX12_copies 87 = .ok (.if_icmp .lt 5, 3) := by decide +kernel
theorem dX12_copies_90 : decode cX12_copies 90 = .ok (.iconst 0, 1) := by decide +kernel
theorem dX12_copies_91 : decode cX12_copies 91 = .ok (.ireturn, 1) := by decide +kernel
theorem dX12_copies_92 : decode cX12_copies 92 = .ok (.iconst (-1), 1) := by decide +kernel
theorem dX12_copies_93 : decode cX12_copies 93 = .ok (.istore 7, 2) := by decide +kernel
theorem dX12_copies_95 : decode cX12_copies 95 = .ok (.iconst 0, 1) := by decide +kernel
theorem dX12_copies_96 : decode cX12_copies 96 = .ok (.istore 8, 2) := by decide +kernel
theorem dX12_copies_98 : decode cX12_copies 98 = .ok (.iload 8, 2) := by decide +kernel
theorem dX12_copies_100 : decode cX12_copies 100 = .ok (.aload_n 0, 1) := by decide +kernel
theorem dX12_copies_101 : decode cX12_copies 101 = .ok (.getfield 238, 3) := by decide +kernel
theorem dX12_copies_104 : decode cX12_copies 104 = .ok (.if_icmp .ge 46, 3) := by decide +kernel
theorem dX12_copies_107 : decode cX12_copies 107 = .ok (.aload_n 0, 1) := by decide +kernel
theorem dX12_copies_108 : decode cX12_copies 108 = .ok (.getfield 90, 3) := by decide +kernel
theorem dX12_copies_111 : decode cX12_copies 111 = .ok (.iload 8, 2) := by decide +kernel
theorem dX12_copies_113 : decode cX12_copies 113 = .ok (.iaload, 1) := by decide +kernel
theorem dX12_copies_114 : decode cX12_copies 114 = .ok (.iload_n 1, 1) := by decide +kernel
theorem dX12_copies_115 : decode cX12_copies 115 = .ok (.if_icmp .ne 25, 3) := by decide +kernel
theorem dX12_copies_118 : decode cX12_copies 118 = .ok (.aload_n 0, 1) := by decide +kernel
theorem dX12_copies_119 : decode cX12_copies 119 = .ok (.getfield 93, 3) := by decide +kernel
theorem dX12_copies_122 : decode cX12_copies 122 = .ok (.iload 8, 2) := by decide +kernel
theorem dX12_copies_124 : decode cX12_copies 124 = .ok (.iaload, 1) := by decide +kernel
theorem dX12_copies_125 : decode cX12_copies 125 = .ok (.iload 6, 2) := by decide +kernel
theorem dX12_copies_127 : decode cX12_copies 127 = .ok (.if_icmp .ne 13, 3) := by decide +kernel
theorem dX12_copies_130 : decode cX12_copies 130 = .ok (.aload_n 0, 1) := by decide +kernel
theorem dX12_copies_131 : decode cX12_copies 131 = .ok (.getfield 96, 3) := by decide +kernel
theorem dX12_copies_134 : decode cX12_copies 134 = .ok (.iload 8, 2) := by decide +kernel
theorem dX12_copies_136 : decode cX12_copies 136 = .ok (.iaload, 1) := by decide +kernel
theorem dX12_copies_137 : decode cX12_copies 137 = .ok (.goto 5, 3) := by decide +kernel
theorem dX12_copies_140 : decode cX12_copies 140 = .ok (.iload 7, 2) := by decide +kernel
theorem dX12_copies_142 : decode cX12_copies 142 = .ok (.istore 7, 2) := by decide +kernel
theorem dX12_copies_144 : decode cX12_copies 144 = .ok (.iinc 8 1, 3) := by decide +kernel
theorem dX12_copies_147 : decode cX12_copies 147 = .ok (.goto (-49), 3) := by decide +kernel
theorem dX12_copies_150 : decode cX12_copies 150 = .ok (.aload_n 0, 1) := by decide +kernel
theorem dX12_copies_151 : decode cX12_copies 151 = .ok (.iload_n 1, 1) := by decide +kernel
theorem dX12_copies_152 : decode cX12_copies 152 = .ok (.iload 6, 2) := by decide +kernel
theorem dX12_copies_154 : decode cX12_copies 154 = .ok (.iload_n 3, 1) := by decide +kernel
theorem dX12_copies_155 : decode cX12_copies 155 = .ok (.iload 4, 2) := by decide +kernel
theorem dX12_copies_157 : decode cX12_copies 157 = .ok (.iconst 1, 1) := by decide +kernel
theorem dX12_copies_158 : decode cX12_copies 158 = .ok (.invokevirtual 244, 3) := by decide +kernel
theorem dX12_copies_161 : decode cX12_copies 161 = .ok (.aload_n 0, 1) := by decide +kernel
theorem dX12_copies_162 : decode cX12_copies 162 = .ok (.getfield 117, 3) := by decide +kernel
theorem dX12_copies_165 : decode cX12_copies 165 = .ok (.iload 7, 2) := by decide +kernel
theorem dX12_copies_167 : decode cX12_copies 167 = .ok (.aload_n 0, 1) := by decide +kernel
theorem dX12_copies_168 : decode cX12_copies 168 = .ok (.getfield 111, 3) := by decide +kernel
theorem dX12_copies_171 : decode cX12_copies 171 = .ok (.iload 6, 2) := by decide +kernel
theorem dX12_copies_173 : decode cX12_copies 173 = .ok (.iaload, 1) := by decide +kernel
theorem dX12_copies_174 : decode cX12_copies 174 = .ok (.iastore, 1) := by decide +kernel
theorem dX12_copies_175 : decode cX12_copies 175 = .ok (.iconst 1, 1) := by decide +kernel
theorem dX12_copies_176 : decode cX12_copies 176 = .ok (.ireturn, 1) := by decide +kernel
theorem dX12_stage_0 : decode cX12_stage 0 = .ok (.aload_n 0, 1) := by decide +kernel
theorem dX12_stage_1 : decode cX12_stage 1 = .ok (.getfield 46, 3) := by decide +kernel
theorem dX12_stage_4 : decode cX12_stage 4 = .ok (.iload_n 1, 1) := by decide +kernel
theorem dX12_stage_5 : decode cX12_stage 5 = .ok (.iaload, 1) := by decide +kernel
theorem dX12_stage_6 : decode cX12_stage 6 = .ok (.istore_n 3, 1) := by decide +kernel
theorem dX12_stage_7 : decode cX12_stage 7 = .ok (.aload_n 0, 1) := by decide +kernel
theorem dX12_stage_8 : decode cX12_stage 8 = .ok (.getfield 238, 3) := by decide +kernel
theorem dX12_stage_11 : decode cX12_stage 11 = .ok (.istore 4, 2) := by decide +kernel
theorem dX12_stage_13 : decode cX12_stage 13 = .ok (.iconst 0, 1) := by decide +kernel
theorem dX12_stage_14 : decode cX12_stage 14 = .ok (.istore 5, 2) := by decide +kernel
theorem dX12_stage_16 : decode cX12_stage 16 = .ok (.iload 5, 2) := by decide +kernel
theorem dX12_stage_18 : decode cX12_stage 18 = .ok (.iload_n 3, 1) := by decide +kernel
theorem dX12_stage_19 : decode cX12_stage 19 = .ok (.if_icmp .ge 81, 3) := by decide +kernel
theorem dX12_stage_22 : decode cX12_stage 22 = .ok (.aload_n 0, 1) := by decide +kernel
theorem dX12_stage_23 : decode cX12_stage 23 = .ok (.iload_n 1, 1) := by decide +kernel
theorem dX12_stage_24 : decode cX12_stage 24 = .ok (.iload 5, 2) := by decide +kernel
theorem dX12_stage_26 : decode cX12_stage 26 = .ok (.invokevirtual 232, 3) := by decide +kernel
theorem dX12_stage_29 : decode cX12_stage 29 = .ok (.istore 6, 2) := by decide +kernel
theorem dX12_stage_31 : decode cX12_stage 31 = .ok (.iload 6, 2) := by decide +kernel
theorem dX12_stage_33 : decode cX12_stage 33 = .ok (.aload_n 0, 1) := by decide +kernel
theorem dX12_stage_34 : decode cX12_stage 34 = .ok (.getfield 62, 3) := by decide +kernel
theorem dX12_stage_37 : decode cX12_stage 37 = .ok (.if_icmp .le 13, 3) := by decide +kernel
theorem dX12_stage_40 : decode cX12_stage 40 = .ok (.iload 6, 2) := by decide +kernel
theorem dX12_stage_42 : decode cX12_stage 42 = .ok (.aload_n 0, 1) := by decide +kernel
theorem dX12_stage_43 : decode cX12_stage 43 = .ok (.getfield 62, 3) := by decide +kernel
theorem dX12_stage_46 : decode cX12_stage 46 = .ok (.isub, 1) := by decide +kernel
theorem dX12_stage_47 : decode cX12_stage 47 = .ok (.goto 4, 3) := by decide +kernel
theorem dX12_stage_50 : decode cX12_stage 50 = .ok (.iconst 0, 1) := by decide +kernel
theorem dX12_stage_51 : decode cX12_stage 51 = .ok (.istore 7, 2) := by decide +kernel
theorem dX12_stage_53 : decode cX12_stage 53 = .ok (.aload_n 0, 1) := by decide +kernel
theorem dX12_stage_54 : decode cX12_stage 54 = .ok (.getfield 108, 3) := by decide +kernel
theorem dX12_stage_57 : decode cX12_stage 57 = .ok (.iload 5, 2) := by decide +kernel
theorem dX12_stage_59 : decode cX12_stage 59 = .ok (.iconst 1, 1) := by decide +kernel
theorem dX12_stage_60 : decode cX12_stage 60 = .ok (.iload 6, 2) := by decide +kernel
theorem dX12_stage_62 : decode cX12_stage 62 = .ok (.iadd, 1) := by decide +kernel
theorem dX12_stage_63 : decode cX12_stage 63 = .ok (.iload 7, 2) := by decide +kernel
theorem dX12_stage_65 : decode cX12_stage 65 = .ok (.iadd, 1) := by decide +kernel
theorem dX12_stage_66 : decode cX12_stage 66 = .ok (.iastore, 1) := by decide +kernel
theorem dX12_stage_67 : decode cX12_stage 67 = .ok (.aload_n 0, 1) := by decide +kernel
theorem dX12_stage_68 : decode cX12_stage 68 = .ok (.dup, 1) := by decide +kernel
theorem dX12_stage_69 : decode cX12_stage 69 = .ok (.getfield 248, 3) := by decide +kernel
theorem dX12_stage_72 : decode cX12_stage 72 = .ok (.iload 7, 2) := by decide +kernel
theorem dX12_stage_74 : decode cX12_stage 74 = .ok (.iadd, 1) := by decide +kernel
theorem dX12_stage_75 : decode cX12_stage 75 = .ok (.putfield 248, 3) := by decide +kernel
theorem dX12_stage_78 : decode cX12_stage 78 = .ok (.aload_n 0, 1) := by decide +kernel
theorem dX12_stage_79 : decode cX12_stage 79 = .ok (.getfield 114, 3) := by decide +kernel
theorem dX12_stage_82 : decode cX12_stage 82 = .ok (.iload 5, 2) := by decide +kernel
theorem dX12_stage_84 : decode cX12_stage 84 = .ok (.iconst 0, 1) := by decide +kernel
theorem dX12_stage_85 : decode cX12_stage 85 = .ok (.bastore, 1) := by decide +kernel
theorem dX12_stage_86 : decode cX12_stage 86 = .ok (.aload_n 0, 1) := by decide +kernel
theorem dX12_stage_87 : decode cX12_stage 87 = .ok (.getfield 111, 3) := by decide +kernel
theorem dX12_stage_90 : decode cX12_stage 90 = .ok (.iload 5, 2) := by decide +kernel
theorem dX12_stage_92 : decode cX12_stage 92 = .ok (.iconst 0, 1) := by decide +kernel
theorem dX12_stage_93 : decode cX12_stage 93 = .ok (.iastore, 1) := by decide +kernel
theorem dX12_stage_94 : decode cX12_stage 94 = .ok (.iinc 5 1, 3) := by decide +kernel
theorem dX12_stage_97 : decode cX12_stage 97 = .ok (.goto (-81), 3) := by decide +kernel
theorem dX12_stage_100 : decode cX12_stage 100 = .ok (.iconst 0, 1) := by decide +kernel
theorem dX12_stage_101 : decode cX12_stage 101 = .ok (.istore 5, 2) := by decide +kernel
theorem dX12_stage_103 : decode cX12_stage 103 = .ok (.iload 5, 2) := by decide +kernel
theorem dX12_stage_105 : decode cX12_stage 105 = .ok (.aload_n 0, 1) := by decide +kernel
theorem dX12_stage_106 : decode cX12_stage 106 = .ok (.getfield 65, 3) := by decide +kernel
theorem dX12_stage_109 : decode cX12_stage 109 = .ok (.if_icmp .ge 17, 3) := by decide +kernel
theorem dX12_stage_112 : decode cX12_stage 112 = .ok (.aload_n 0, 1) := by decide +kernel
theorem dX12_stage_113 : decode cX12_stage 113 = .ok (.getfield 117, 3) := by decide +kernel
theorem dX12_stage_116 : decode cX12_stage 116 = .ok (.iload 5, 2) := by decide +kernel
theorem dX12_stage_118 : decode cX12_stage 118 = .ok (.iload_n 2, 1) := by decide +kernel
theorem dX12_stage_119 : decode cX12_stage 119 = .ok (.iastore, 1) := by decide +kernel
theorem dX12_stage_120 : decode cX12_stage 120 = .ok (.iinc 5 1, 3) := by decide +kernel
theorem dX12_stage_123 : decode cX12_stage 123 = .ok (.goto (-20), 3) := by decide +kernel
theorem dX12_stage_126 : decode cX12_stage 126 = .ok (.iconst 0, 1) := by decide +kernel
theorem dX12_stage_127 : decode cX12_stage 127 = .ok (.istore 5, 2) := by decide +kernel
theorem dX12_stage_129 : decode cX12_stage 129 = .ok (.iload_n 2, 1) := by decide +kernel
theorem dX12_stage_130 : decode cX12_stage 130 = .ok (.istore 6, 2) := by decide +kernel
theorem dX12_stage_132 : decode cX12_stage 132 = .ok (.iload_n 2, 1) := by decide +kernel
theorem dX12_stage_133 : decode cX12_stage 133 = .ok (.istore 7, 2) := by decide +kernel
theorem dX12_stage_135 : decode cX12_stage 135 = .ok (.iconst 1, 1) := by decide +kernel
theorem dX12_stage_136 : decode cX12_stage 136 = .ok (.istore 8, 2) := by decide +kernel
theorem dX12_stage_138 : decode cX12_stage 138 = .ok (.iload 8, 2) := by decide +kernel
theorem dX12_stage_140 : decode cX12_stage 140 = .ok (.ifCond .eq 224, 3) := by decide +kernel
theorem dX12_stage_143 : decode cX12_stage 143 = .ok (.iconst 0, 1) := by decide +kernel
theorem dX12_stage_144 : decode cX12_stage 144 = .ok (.istore 9, 2) := by decide +kernel
theorem dX12_stage_146 : decode cX12_stage 146 = .ok (.iconst 0, 1) := by decide +kernel
theorem dX12_stage_147 : decode cX12_stage 147 = .ok (.istore 10, 2) := by decide +kernel
theorem dX12_stage_149 : decode cX12_stage 149 = .ok (.iload 10, 2) := by decide +kernel
theorem dX12_stage_151 : decode cX12_stage 151 = .ok (.aload_n 0, 1) := by decide +kernel
theorem dX12_stage_152 : decode cX12_stage 152 = .ok (.getfield 65, 3) := by decide +kernel
theorem dX12_stage_155 : decode cX12_stage 155 = .ok (.if_icmp .ge 85, 3) := by decide +kernel
theorem dX12_stage_158 : decode cX12_stage 158 = .ok (.aload_n 0, 1) := by decide +kernel
theorem dX12_stage_159 : decode cX12_stage 159 = .ok (.getfield 117, 3) := by decide +kernel
theorem dX12_stage_162 : decode cX12_stage 162 = .ok (.iload 10, 2) := by decide +kernel
theorem dX12_stage_164 : decode cX12_stage 164 = .ok (.iaload, 1) := by decide +kernel
theorem dX12_stage_165 : decode cX12_stage 165 = .ok (.iload 6, 2) := by decide +kernel
theorem dX12_stage_167 : decode cX12_stage 167 = .ok (.if_icmp .gt 30, 3) := by decide +kernel
theorem dX12_stage_170 : decode cX12_stage 170 = .ok (.iload 5, 2) := by decide +kernel
theorem dX12_stage_172 : decode cX12_stage 172 = .ok (.iload_n 3, 1) := by decide +kernel
theorem dX12_stage_173 : decode cX12_stage 173 = .ok (.if_icmp .ge 24, 3) := by decide +kernel
theorem dX12_stage_176 : decode cX12_stage 176 = .ok (.aload_n 0, 1) := by decide +kernel
theorem dX12_stage_177 : decode cX12_stage 177 = .ok (.iload_n 1, 1) := by decide +kernel
theorem dX12_stage_178 : decode cX12_stage 178 = .ok (.iload 5, 2) := by decide +kernel
theorem dX12_stage_180 : decode cX12_stage 180 = .ok (.iload 10, 2) := by decide +kernel
theorem dX12_stage_182 : decode cX12_stage 182 = .ok (.iload 6, 2) := by decide +kernel
theorem dX12_stage_184 : decode cX12_stage 184 = .ok (.iconst 0, 1) := by decide +kernel
theorem dX12_stage_185 : decode cX12_stage 185 = .ok (.invokevirtual 244, 3) := by decide +kernel
theorem dX12_stage_188 : decode cX12_stage 188 = .ok (.iinc 5 1, 3) := by decide +kernel
theorem dX12_stage_191 : decode cX12_stage 191 = .ok (.iconst 1, 1) := by decide +kernel
theorem dX12_stage_192 : decode cX12_stage 192 = .ok (.istore 9, 2) := by decide +kernel
theorem dX12_stage_194 : decode cX12_stage 194 = .ok (.goto 40, 3) := by decide +kernel
theorem dX12_stage_197 : decode cX12_stage 197 = .ok (.aload_n 0, 1) := by decide +kernel
theorem dX12_stage_198 : decode cX12_stage 198 = .ok (.getfield 117, 3) := by decide +kernel
theorem dX12_stage_201 : decode cX12_stage 201 = .ok (.iload 10, 2) := by decide +kernel
theorem dX12_stage_203 : decode cX12_stage 203 = .ok (.iaload, 1) := by decide +kernel
theorem dX12_stage_204 : decode cX12_stage 204 = .ok (.iload 6, 2) := by decide +kernel
theorem dX12_stage_206 : decode cX12_stage 206 = .ok (.if_icmp .gt 28, 3) := by decide +kernel
theorem dX12_stage_209 : decode cX12_stage 209 = .ok (.aload_n 0, 1) := by decide +kernel
theorem dX12_stage_210 : decode cX12_stage 210 = .ok (.iload_n 1, 1) := by decide +kernel
theorem dX12_stage_211 : decode cX12_stage 211 = .ok (.iload_n 3, 1) := by decide +kernel
theorem dX12_stage_212 : decode cX12_stage 212 = .ok (.iload 10, 2) := by decide +kernel
theorem dX12_stage_214 : decode cX12_stage 214 = .ok (.iload 6, 2) := by decide +kernel
theorem dX12_stage_216 : decode cX12_stage 216 = .ok (.invokevirtual 251, 3) := by decide +kernel
theorem dX12_stage_219 : decode cX12_stage 219 = .ok (.ifCond .ne 8, 3) := by decide +kernel
theorem dX12_stage_222 : decode cX12_stage 222 = .ok (.iload 9, 2) := by decide +kernel
theorem dX12_stage_224 : decode cX12_stage 224 = .ok (.ifCond .eq 7, 3) := by decide +kernel
theorem dX12_stage_227 : decode cX12_stage 227 = .ok (.iconst 1, 1) := by decide +kernel
theorem dX12_stage_228 : decode cX12_stage 228 = .ok (.goto 4, 3) := by decide +kernel
theorem dX12_stage_231 : decode cX12_stage 231 = .ok (.iconst 0, 1) := by decide +kernel
theorem dX12_stage_232 : decode cX12_stage 232 = .ok (.istore 9, 2) := by decide +kernel
theorem dX12_stage_234 : decode cX12_stage 234 = .ok (.iinc 10 1, 3) := by decide +kernel
theorem dX12_stage_237 : decode cX12_stage 237 = .ok (.goto (-88), 3) := by decide +kernel
theorem dX12_stage_240 : decode cX12_stage 240 = .ok (.iconst (-1), 1) := by decide +kernel
theorem dX12_stage_241 : decode cX12_stage 241 = .ok (.istore 10, 2) := by decide +kernel
theorem dX12_stage_243 : decode cX12_stage 243 = .ok (.iload_n 2, 1) := by decide +kernel
theorem dX12_stage_244 : decode cX12_stage 244 = .ok (.istore 7, 2) := by decide +kernel
theorem dX12_stage_246 : decode cX12_stage 246 = .ok (.iconst 0, 1) := by decide +kernel
theorem dX12_stage_247 : decode cX12_stage 247 = .ok (.istore 11, 2) := by decide +kernel
theorem dX12_stage_249 : decode cX12_stage 249 = .ok (.iload 11, 2) := by decide +kernel
theorem dX12_stage_251 : decode cX12_stage 251 = .ok (.iload 5, 2) := by decide +kernel
theorem dX12_stage_253 : decode cX12_stage 253 = .ok (.if_icmp .ge 79, 3) := by decide +kernel
theorem dX12_stage_256 : decode cX12_stage 256 = .ok (.aload_n 0, 1) := by decide +kernel
theorem dX12_stage_257 : decode cX12_stage 257 = .ok (.getfield 111, 3) := by decide +kernel
theorem dX12_stage_260 : decode cX12_stage 260 = .ok (.iload 11, 2) := by decide +kernel
theorem dX12_stage_262 : decode cX12_stage 262 = .ok (.iaload, 1) := by decide +kernel
theorem dX12_stage_263 : decode cX12_stage 263 = .ok (.iload 6, 2) := by decide +kernel
theorem dX12_stage_265 : decode cX12_stage 265 = .ok (.if_icmp .le 31, 3) := by decide +kernel
theorem dX12_stage_268 : decode cX12_stage 268 = .ok (.iload 10, 2) := by decide +kernel
theorem dX12_stage_270 : decode cX12_stage 270 = .ok (.iconst (-1), 1) := by decide +kernel
theorem dX12_stage_271 : decode cX12_stage 271 = .ok (.if_icmp .eq 15, 3) := by decide +kernel
theorem dX12_stage_274 : decode cX12_stage 274 = .ok (.aload_n 0, 1) := by decide +kernel
theorem dX12_stage_275 : decode cX12_stage 275 = .ok (.getfield 111, 3) := by decide +kernel
theorem dX12_stage_278 : decode cX12_stage 278 = .ok (.iload 11, 2) := by decide +kernel
theorem dX12_stage_280 : decode cX12_stage 280 = .ok (.iaload, 1) := by decide +kernel
theorem dX12_stage_281 : decode cX12_stage 281 = .ok (.iload 10, 2) := by decide +kernel
theorem dX12_stage_283 : decode cX12_stage 283 = .ok (.if_icmp .ge 13, 3) := by decide +kernel
theorem dX12_stage_286 : decode cX12_stage 286 = .ok (.aload_n 0, 1) := by decide +kernel
theorem dX12_stage_287 : decode cX12_stage 287 = .ok (.getfield 111, 3) := by decide +kernel
theorem dX12_stage_290 : decode cX12_stage 290 = .ok (.iload 11, 2) := by decide +kernel
theorem dX12_stage_292 : decode cX12_stage 292 = .ok (.iaload, 1) := by decide +kernel
theorem dX12_stage_293 : decode cX12_stage 293 = .ok (.goto 5, 3) := by decide +kernel
theorem dX12_stage_296 : decode cX12_stage 296 = .ok (.iload 10, 2) := by decide +kernel
theorem dX12_stage_298 : decode cX12_stage 298 = .ok (.istore 10, 2) := by decide +kernel
theorem dX12_stage_300 : decode cX12_stage 300 = .ok (.aload_n 0, 1) := by decide +kernel
theorem dX12_stage_301 : decode cX12_stage 301 = .ok (.getfield 111, 3) := by decide +kernel
theorem dX12_stage_304 : decode cX12_stage 304 = .ok (.iload 11, 2) := by decide +kernel
theorem dX12_stage_306 : decode cX12_stage 306 = .ok (.iaload, 1) := by decide +kernel
theorem dX12_stage_307 : decode cX12_stage 307 = .ok (.iload 7, 2) := by decide +kernel
theorem dX12_stage_309 : decode cX12_stage 309 = .ok (.if_icmp .le 13, 3) := by decide +kernel
theorem dX12_stage_312 : decode cX12_stage 312 = .ok (.aload_n 0, 1) := by decide +kernel
theorem dX12_stage_313 : decode cX12_stage 313 = .ok (.getfield 111, 3) := by decide +kernel
theorem dX12_stage_316 : decode cX12_stage 316 = .ok (.iload 11, 2) := by decide +kernel
theorem dX12_stage_318 : decode cX12_stage 318 = .ok (.iaload, 1) := by decide +kernel
theorem dX12_stage_319 : decode cX12_stage 319 = .ok (.goto 5, 3) := by decide +kernel
theorem dX12_stage_322 : decode cX12_stage 322 = .ok (.iload 7, 2) := by decide +kernel
theorem dX12_stage_324 : decode cX12_stage 324 = .ok (.istore 7, 2) := by decide +kernel
theorem dX12_stage_326 : decode cX12_stage 326 = .ok (.iinc 11 1, 3) := by decide +kernel
theorem dX12_stage_329 : decode cX12_stage 329 = .ok (.goto (-80), 3) := by decide +kernel
theorem dX12_stage_332 : decode cX12_stage 332 = .ok (.iload 10, 2) := by decide +kernel
theorem dX12_stage_334 : decode cX12_stage 334 = .ok (.iconst (-1), 1) := by decide +kernel
theorem dX12_stage_335 : decode cX12_stage 335 = .ok (.if_icmp .eq 7, 3) := by decide +kernel
theorem dX12_stage_338 : decode cX12_stage 338 = .ok (.iconst 1, 1) := by decide +kernel
theorem dX12_stage_339 : decode cX12_stage 339 = .ok (.goto 4, 3) := by decide +kernel
theorem dX12_stage_342 : decode cX12_stage 342 = .ok (.iconst 0, 1) := by decide +kernel
theorem dX12_stage_343 : decode cX12_stage 343 = .ok (.istore 8, 2) := by decide +kernel
theorem dX12_stage_345 : decode cX12_stage 345 = .ok (.iload 9, 2) := by decide +kernel
theorem dX12_stage_347 : decode cX12_stage 347 = .ok (.ifCond .eq 10, 3) := by decide +kernel
theorem dX12_stage_350 : decode cX12_stage 350 = .ok (.iload 6, 2) := by decide +kernel
theorem dX12_stage_352 : decode cX12_stage 352 = .ok (.iconst 1, 1) := by decide +kernel
theorem dX12_stage_353 : decode cX12_stage 353 = .ok (.iadd, 1) := by decide +kernel
theorem dX12_stage_354 : decode cX12_stage 354 = .ok (.goto 5, 3) := by decide +kernel
theorem dX12_stage_357 : decode cX12_stage 357 = .ok (.iload 10, 2) := by decide +kernel
theorem dX12_stage_359 : decode cX12_stage 359 = .ok (.istore 6, 2) := by decide +kernel
theorem dX12_stage_361 : decode cX12_stage 361 = .ok (.goto (-223), 3) := by decide +kernel
theorem dX12_stage_364 : decode cX12_stage 364 = .ok (.iload 4, 2) := by decide +kernel
theorem dX12_stage_366 : decode cX12_stage 366 = .ok (.istore 9, 2) := by decide +kernel
theorem dX12_stage_368 : decode cX12_stage 368 = .ok (.iload 9, 2) := by decide +kernel
theorem dX12_stage_370 : decode cX12_stage 370 = .ok (.aload_n 0, 1) := by decide +kernel
theorem dX12_stage_371 : decode cX12_stage 371 = .ok (.getfield 238, 3) := by decide +kernel
theorem dX12_stage_374 : decode cX12_stage 374 = .ok (.if_icmp .ge 28, 3) := by decide +kernel
theorem dX12_stage_377 : decode cX12_stage 377 = .ok (.aload_n 0, 1) := by decide +kernel
theorem dX12_stage_378 : decode cX12_stage 378 = .ok (.getfield 102, 3) := by decide +kernel
theorem dX12_stage_381 : decode cX12_stage 381 = .ok (.iload 9, 2) := by decide +kernel
theorem dX12_stage_383 : decode cX12_stage 383 = .ok (.aload_n 0, 1) := by decide +kernel
theorem dX12_stage_384 : decode cX12_stage 384 = .ok (.getfield 111, 3) := by decide +kernel
theorem dX12_stage_387 : decode cX12_stage 387 = .ok (.aload_n 0, 1) := by decide +kernel
theorem dX12_stage_388 : decode cX12_stage 388 = .ok (.getfield 93, 3) := by decide +kernel
theorem dX12_stage_391 : decode cX12_stage 391 = .ok (.iload 9, 2) := by decide +kernel
theorem dX12_stage_393 : decode cX12_stage 393 = .ok (.iaload, 1) := by decide +kernel
theorem dX12_stage_394 : decode cX12_stage 394 = .ok (.iaload, 1) := by decide +kernel
theorem dX12_stage_395 : decode cX12_stage 395 = .ok (.iastore, 1) := by decide +kernel
theorem dX12_stage_396 : decode cX12_stage 396 = .ok (.iinc 9 1, 3) := by decide +kernel
theorem dX12_stage_399 : decode cX12_stage 399 = .ok (.goto (-31), 3) := by decide +kernel
theorem dX12_stage_402 : decode cX12_stage 402 = .ok (.iload 7, 2) := by decide +kernel
theorem dX12_stage_404 : decode cX12_stage 404 = .ok (.ireturn, 1) := by decide +kernel
theorem dX12_keeps_0 : decode cX12_keeps 0 = .ok (.iconst 0, 1) := by decide +kernel
theorem dX12_keeps_1 : decode cX12_keeps 1 = .ok (.istore_n 1, 1) := by decide +kernel
theorem dX12_keeps_2 : decode cX12_keeps 2 = .ok (.iload_n 1, 1) := by decide +kernel
theorem dX12_keeps_3 : decode cX12_keeps 3 = .ok (.aload_n 0, 1) := by decide +kernel
theorem dX12_keeps_4 : decode cX12_keeps 4 = .ok (.getfield 123, 3) := by decide +kernel
theorem dX12_keeps_7 : decode cX12_keeps 7 = .ok (.if_icmp .ge 38, 3) := by decide +kernel
theorem dX12_keeps_10 : decode cX12_keeps 10 = .ok (.aload_n 0, 1) := by decide +kernel
theorem dX12_keeps_11 : decode cX12_keeps 11 = .ok (.getfield 87, 3) := by decide +kernel
theorem dX12_keeps_14 : decode cX12_keeps 14 = .ok (.iload_n 1, 1) := by decide +kernel
theorem dX12_keeps_15 : decode cX12_keeps 15 = .ok (.baload, 1) := by decide +kernel
theorem dX12_keeps_16 : decode cX12_keeps 16 = .ok (.ifCond .eq 23, 3) := by decide +kernel
theorem dX12_keeps_19 : decode cX12_keeps 19 = .ok (.aload_n 0, 1) := by decide +kernel
theorem dX12_keeps_20 : decode cX12_keeps 20 = .ok (.dup, 1) := by decide +kernel
theorem dX12_keeps_21 : decode cX12_keeps 21 = .ok (.getfield 255, 3) := by decide +kernel
theorem dX12_keeps_24 : decode cX12_keeps 24 = .ok (.iconst 1, 1) := by decide +kernel
theorem dX12_keeps_25 : decode cX12_keeps 25 = .ok (.iadd, 1) := by decide +kernel
theorem dX12_keeps_26 : decode cX12_keeps 26 = .ok (.putfield 255, 3) := by decide +kernel
theorem dX12_keeps_29 : decode cX12_keeps 29 = .ok (.aload_n 0, 1) := by decide +kernel
theorem dX12_keeps_30 : decode cX12_keeps 30 = .ok (.getfield 78, 3) := by decide +kernel
theorem dX12_keeps_33 : decode cX12_keeps 33 = .ok (.iload_n 1, 1) := by decide +kernel
theorem dX12_keeps_34 : decode cX12_keeps 34 = .ok (.aload_n 0, 1) := by decide +kernel
theorem dX12_keeps_35 : decode cX12_keeps 35 = .ok (.getfield 255, 3) := by decide +kernel
theorem dX12_keeps_38 : decode cX12_keeps 38 = .ok (.iastore, 1) := by decide +kernel
theorem dX12_keeps_39 : decode cX12_keeps 39 = .ok (.iinc 1 1, 3) := by decide +kernel
theorem dX12_keeps_42 : decode cX12_keeps 42 = .ok (.goto (-40), 3) := by decide +kernel
theorem dX12_keeps_45 : decode cX12_keeps 45 = .ok (.iconst 0, 1) := by decide +kernel
theorem dX12_keeps_46 : decode cX12_keeps 46 = .ok (.istore_n 1, 1) := by decide +kernel
theorem dX12_keeps_47 : decode cX12_keeps 47 = .ok (.iload_n 1, 1) := by decide +kernel
theorem dX12_keeps_48 : decode cX12_keeps 48 = .ok (.aload_n 0, 1) := by decide +kernel
theorem dX12_keeps_49 : decode cX12_keeps 49 = .ok (.getfield 123, 3) := by decide +kernel
theorem dX12_keeps_52 : decode cX12_keeps 52 = .ok (.if_icmp .ge 85, 3) := by decide +kernel
theorem dX12_keeps_55 : decode cX12_keeps 55 = .ok (.aload_n 0, 1) := by decide +kernel
theorem dX12_keeps_56 : decode cX12_keeps 56 = .ok (.getfield 71, 3) := by decide +kernel
theorem dX12_keeps_59 : decode cX12_keeps 59 = .ok (.iload_n 1, 1) := by decide +kernel
theorem dX12_keeps_60 : decode cX12_keeps 60 = .ok (.baload, 1) := by decide +kernel
theorem dX12_keeps_61 : decode cX12_keeps 61 = .ok (.ifCond .eq 70, 3) := by decide +kernel
theorem dX12_keeps_64 : decode cX12_keeps 64 = .ok (.aload_n 0, 1) := by decide +kernel
theorem dX12_keeps_65 : decode cX12_keeps 65 = .ok (.getfield 84, 3) := by decide +kernel
theorem dX12_keeps_68 : decode cX12_keeps 68 = .ok (.iload_n 1, 1) := by decide +kernel
theorem dX12_keeps_69 : decode cX12_keeps 69 = .ok (.baload, 1) := by decide +kernel
theorem dX12_keeps_70 : decode cX12_keeps 70 = .ok (.ifCond .eq 61, 3) := by decide +kernel
theorem dX12_keeps_73 : decode cX12_keeps 73 = .ok (.aload_n 0, 1) := by decide +kernel
theorem dX12_keeps_74 : decode cX12_keeps 74 = .ok (.getfield 75, 3) := by decide +kernel
theorem dX12_keeps_77 : decode cX12_keeps 77 = .ok (.iload_n 1, 1) := by decide +kernel
theorem dX12_keeps_78 : decode cX12_keeps 78 = .ok (.baload, 1) := by decide +kernel
theorem dX12_keeps_79 : decode cX12_keeps 79 = .ok (.ifCond .ne 52, 3) := by decide +kernel
theorem dX12_keeps_82 : decode cX12_keeps 82 = .ok (.aload_n 0, 1) := by decide +kernel
theorem dX12_keeps_83 : decode cX12_keeps 83 = .ok (.iload_n 1, 1) := by decide +kernel
theorem dX12_keeps_84 : decode cX12_keeps 84 = .ok (.invokevirtual 152, 3) := by decide +kernel
theorem dX12_keeps_87 : decode cX12_keeps 87 = .ok (.aload_n 0, 1) := by decide +kernel
theorem dX12_keeps_88 : decode cX12_keeps 88 = .ok (.getfield 220, 3) := by decide +kernel
theorem dX12_keeps_91 : decode cX12_keeps 91 = .ok (.if_icmp .gt 40, 3) := by decide +kernel
theorem dX12_keeps_94 : decode cX12_keeps 94 = .ok (.aload_n 0, 1) := by decide +kernel
theorem dX12_keeps_95 : decode cX12_keeps 95 = .ok (.aload_n 0, 1) := by decide +kernel
theorem dX12_keeps_96 : decode cX12_keeps 96 = .ok (.iload_n 1, 1) := by decide +kernel
theorem dX12_keeps_97 : decode cX12_keeps 97 = .ok (.invokevirtual 152, 3) := by decide +kernel
theorem dX12_keeps_100 : decode cX12_keeps 100 = .ok (.invokevirtual 223, 3) := by decide +kernel
theorem dX12_keeps_103 : decode cX12_keeps 103 = .ok (.pop, 1) := by decide +kernel
theorem dX12_keeps_104 : decode cX12_keeps 104 = .ok (.aload_n 0, 1) := by decide +kernel
theorem dX12_keeps_105 : decode cX12_keeps 105 = .ok (.getfield 75, 3) := by decide +kernel
theorem dX12_keeps_108 : decode cX12_keeps 108 = .ok (.iload_n 1, 1) := by decide +kernel
theorem dX12_keeps_109 : decode cX12_keeps 109 = .ok (.iconst 1, 1) := by decide +kernel
theorem dX12_keeps_110 : decode cX12_keeps 110 = .ok (.bastore, 1) := by decide +kernel
theorem dX12_keeps_111 : decode cX12_keeps 111 = .ok (.aload_n 0, 1) := by decide +kernel
theorem dX12_keeps_112 : decode cX12_keeps 112 = .ok (.dup, 1) := by decide +kernel
theorem dX12_keeps_113 : decode cX12_keeps 113 = .ok (.getfield 255, 3) := by decide +kernel
theorem dX12_keeps_116 : decode cX12_keeps 116 = .ok (.iconst 1, 1) := by decide +kernel
theorem dX12_keeps_117 : decode cX12_keeps 117 = .ok (.iadd, 1) := by decide +kernel
theorem dX12_keeps_118 : decode cX12_keeps 118 = .ok (.putfield 255, 3) := by decide +kernel
theorem dX12_keeps_121 : decode cX12_keeps 121 = .ok (.aload_n 0, 1) := by decide +kernel
theorem dX12_keeps_122 : decode cX12_keeps 122 = .ok (.getfield 78, 3) := by decide +kernel
theorem dX12_keeps_125 : decode cX12_keeps 125 = .ok (.iload_n 1, 1) := by decide +kernel
theorem dX12_keeps_126 : decode cX12_keeps 126 = .ok (.aload_n 0, 1) := by decide +kernel
theorem dX12_keeps_127 : decode cX12_keeps 127 = .ok (.getfield 255, 3) := by decide +kernel
theorem dX12_keeps_130 : decode cX12_keeps 130 = .ok (.iastore, 1) := by decide +kernel
theorem dX12_keeps_131 : decode cX12_keeps 131 = .ok (.iinc 1 1, 3) := by decide +kernel
theorem dX12_keeps_134 : decode cX12_keeps 134 = .ok (.goto (-87), 3) := by decide +kernel
theorem dX12_keeps_137 : decode cX12_keeps 137 = .ok (.return_, 1) := by decide +kernel
theorem dX12_run_0 : decode cX12_run 0 = .ok (.aload_n 0, 1) := by decide +kernel
theorem dX12_run_1 : decode cX12_run 1 = .ok (.aload_n 0, 1) := by decide +kernel
theorem dX12_run_2 : decode cX12_run 2 = .ok (.iload_n 1, 1) := by decide +kernel
theorem dX12_run_3 : decode cX12_run 3 = .ok (.invokevirtual 138, 3) := by decide +kernel
theorem dX12_run_6 : decode cX12_run 6 = .ok (.ifCond .eq 7, 3) := by decide +kernel
theorem dX12_run_9 : decode cX12_run 9 = .ok (.iconst 0, 1) := by decide +kernel
theorem dX12_run_10 : decode cX12_run 10 = .ok (.goto 4, 3) := by decide +kernel
theorem dX12_run_13 : decode cX12_run 13 = .ok (.iconst 1, 1) := by decide +kernel
theorem dX12_run_14 : decode cX12_run 14 = .ok (.invokevirtual 130, 3) := by decide +kernel
theorem dX12_run_17 : decode cX12_run 17 = .ok (.ifCond .eq 5, 3) := by decide +kernel
theorem dX12_run_20 : decode cX12_run 20 = .ok (.iconst 0, 1) := by decide +kernel
theorem dX12_run_21 : decode cX12_run 21 = .ok (.ireturn, 1) := by decide +kernel
theorem dX12_run_22 : decode cX12_run 22 = .ok (.aload_n 0, 1) := by decide +kernel
theorem dX12_run_23 : decode cX12_run 23 = .ok (.iload_n 1, 1) := by decide +kernel
theorem dX12_run_24 : decode cX12_run 24 = .ok (.invokevirtual 235, 3) := by decide +kernel
theorem dX12_run_27 : decode cX12_run 27 = .ok (.pop, 1) := by decide +kernel
theorem dX12_run_28 : decode cX12_run 28 = .ok (.aload_n 0, 1) := by decide +kernel
theorem dX12_run_29 : decode cX12_run 29 = .ok (.iconst 0, 1) := by decide +kernel
theorem dX12_run_30 : decode cX12_run 30 = .ok (.putfield 258, 3) := by decide +kernel
theorem dX12_run_33 : decode cX12_run 33 = .ok (.aload_n 0, 1) := by decide +kernel
theorem dX12_run_34 : decode cX12_run 34 = .ok (.iconst 0, 1) := by decide +kernel
theorem dX12_run_35 : decode cX12_run 35 = .ok (.putfield 248, 3) := by decide +kernel
theorem dX12_run_38 : decode cX12_run 38 = .ok (.aload_n 0, 1) := by decide +kernel
theorem dX12_run_39 : decode cX12_run 39 = .ok (.iconst 0, 1) := by decide +kernel
theorem dX12_run_40 : decode cX12_run 40 = .ok (.putfield 238, 3) := by decide +kernel
theorem dX12_run_43 : decode cX12_run 43 = .ok (.aload_n 0, 1) := by decide +kernel
theorem dX12_run_44 : decode cX12_run 44 = .ok (.aload_n 0, 1) := by decide +kernel
theorem dX12_run_45 : decode cX12_run 45 = .ok (.getfield 65, 3) := by decide +kernel
theorem dX12_run_48 : decode cX12_run 48 = .ok (.putfield 261, 3) := by decide +kernel
theorem dX12_run_51 : decode cX12_run 51 = .ok (.iconst 0, 1) := by decide +kernel
theorem dX12_run_52 : decode cX12_run 52 = .ok (.istore_n 2, 1) := by decide +kernel
theorem dX12_run_53 : decode cX12_run 53 = .ok (.iload_n 2, 1) := by decide +kernel
theorem dX12_run_54 : decode cX12_run 54 = .ok (.iload_n 1, 1) := by decide +kernel
theorem dX12_run_55 : decode cX12_run 55 = .ok (.if_icmp .gt 38, 3) := by decide +kernel
theorem dX12_run_58 : decode cX12_run 58 = .ok (.aload_n 0, 1) := by decide +kernel
theorem dX12_run_59 : decode cX12_run 59 = .ok (.aload_n 0, 1) := by decide +kernel
theorem dX12_run_60 : decode cX12_run 60 = .ok (.getfield 81, 3) := by decide +kernel
theorem dX12_run_63 : decode cX12_run 63 = .ok (.iload_n 2, 1) := by decide +kernel
theorem dX12_run_64 : decode cX12_run 64 = .ok (.baload, 1) := by decide +kernel
theorem dX12_run_65 : decode cX12_run 65 = .ok (.ifCond .eq 15, 3) := by decide +kernel
theorem dX12_run_68 : decode cX12_run 68 = .ok (.aload_n 0, 1) := by decide +kernel
theorem dX12_run_69 : decode cX12_run 69 = .ok (.iload_n 2, 1) := by decide +kernel
theorem dX12_run_70 : decode cX12_run 70 = .ok (.aload_n 0, 1) := by decide +kernel
theorem dX12_run_71 : decode cX12_run 71 = .ok (.getfield 258, 3) := by decide +kernel
theorem dX12_run_74 : decode cX12_run 74 = .ok (.invokevirtual 264, 3) := by decide +kernel
theorem dX12_run_77 : decode cX12_run 77 = .ok (.goto 7, 3) := by decide +kernel
theorem dX12_run_80 : decode cX12_run 80 = .ok (.aload_n 0, 1) := by decide +kernel
theorem dX12_run_81 : decode cX12_run 81 = .ok (.getfield 258, 3) := by decide +kernel
theorem dX12_run_84 : decode cX12_run 84 = .ok (.putfield 258, 3) := by decide +kernel
theorem dX12_run_87 : decode cX12_run 87 = .ok (.iinc 2 1, 3) := by decide +kernel
theorem dX12_run_90 : decode cX12_run 90 = .ok (.goto (-37), 3) := by decide +kernel
theorem dX12_run_93 : decode cX12_run 93 = .ok (.aload_n 0, 1) := by decide +kernel
theorem dX12_run_94 : decode cX12_run 94 = .ok (.invokevirtual 267, 3) := by decide +kernel
theorem dX12_run_97 : decode cX12_run 97 = .ok (.aload_n 0, 1) := by decide +kernel
theorem dX12_run_98 : decode cX12_run 98 = .ok (.getfield 258, 3) := by decide +kernel
theorem dX12_run_101 : decode cX12_run 101 = .ok (.ireturn, 1) := by decide +kernel
theorem dX12_ticks_0 : decode cX12_ticks 0 = .ok (.aload_n 0, 1) := by decide +kernel
theorem dX12_ticks_1 : decode cX12_ticks 1 = .ok (.aload_n 0, 1) := by decide +kernel
theorem dX12_ticks_2 : decode cX12_ticks 2 = .ok (.getfield 258, 3) := by decide +kernel
theorem dX12_ticks_5 : decode cX12_ticks 5 = .ok (.invokevirtual 144, 3) := by decide +kernel
theorem dX12_ticks_8 : decode cX12_ticks 8 = .ok (.ireturn, 1) := by decide +kernel
theorem dX12_spilled_0 : decode cX12_spilled 0 = .ok (.aload_n 0, 1) := by decide +kernel
theorem dX12_spilled_1 : decode cX12_spilled 1 = .ok (.aload_n 0, 1) := by decide +kernel
theorem dX12_spilled_2 : decode cX12_spilled 2 = .ok (.getfield 248, 3) := by decide +kernel
theorem dX12_spilled_5 : decode cX12_spilled 5 = .ok (.invokevirtual 144, 3) := by decide +kernel
theorem dX12_spilled_8 : decode cX12_spilled 8 = .ok (.ireturn, 1) := by decide +kernel
theorem dX12_attempts_0 : decode cX12_attempts 0 = .ok (.aload_n 0, 1) := by decide +kernel
theorem dX12_attempts_1 : decode cX12_attempts 1 = .ok (.aload_n 0, 1) := by decide +kernel
theorem dX12_attempts_2 : decode cX12_attempts 2 = .ok (.getfield 238, 3) := by decide +kernel
theorem dX12_attempts_5 : decode cX12_attempts 5 = .ok (.invokevirtual 144, 3) := by decide +kernel
theorem dX12_attempts_8 : decode cX12_attempts 8 = .ok (.ireturn, 1) := by decide +kernel
theorem dX12_ofAttempt_0 : decode cX12_ofAttempt 0 = .ok (.aload_n 0, 1) := by decide +kernel
theorem dX12_ofAttempt_1 : decode cX12_ofAttempt 1 = .ok (.iload_n 2, 1) := by decide +kernel
theorem dX12_ofAttempt_2 : decode cX12_ofAttempt 2 = .ok (.ifCond .lt 15, 3) := by decide +kernel
theorem dX12_ofAttempt_5 : decode cX12_ofAttempt 5 = .ok (.iload_n 2, 1) := by decide +kernel
theorem dX12_ofAttempt_6 : decode cX12_ofAttempt 6 = .ok (.aload_n 0, 1) := by decide +kernel
theorem dX12_ofAttempt_7 : decode cX12_ofAttempt 7 = .ok (.getfield 238, 3) := by decide +kernel
theorem dX12_ofAttempt_10 : decode cX12_ofAttempt 10 = .ok (.if_icmp .ge 7, 3) := by decide +kernel
theorem dX12_ofAttempt_13 : decode cX12_ofAttempt 13 = .ok (.iconst 0, 1) := by decide +kernel
theorem dX12_ofAttempt_14 : decode cX12_ofAttempt 14 = .ok (.goto 4, 3) := by decide +kernel
theorem dX12_ofAttempt_17 : decode cX12_ofAttempt 17 = .ok (.iconst 1, 1) := by decide +kernel
theorem dX12_ofAttempt_18 : decode cX12_ofAttempt 18 = .ok (.invokevirtual 130, 3) := by decide +kernel
theorem dX12_ofAttempt_21 : decode cX12_ofAttempt 21 = .ok (.ifCond .eq 7, 3) := by decide +kernel
theorem dX12_ofAttempt_24 : decode cX12_ofAttempt 24 = .ok (.iconst 0, 1) := by decide +kernel
theorem dX12_ofAttempt_25 : decode cX12_ofAttempt 25 = .ok (.goto 6, 3) := by decide +kernel
theorem dX12_ofAttempt_28 : decode cX12_ofAttempt 28 = .ok (.aload_n 1, 1) := by decide +kernel
theorem dX12_ofAttempt_29 : decode cX12_ofAttempt 29 = .ok (.iload_n 2, 1) := by decide +kernel
theorem dX12_ofAttempt_30 : decode cX12_ofAttempt 30 = .ok (.iaload, 1) := by decide +kernel
theorem dX12_ofAttempt_31 : decode cX12_ofAttempt 31 = .ok (.ireturn, 1) := by decide +kernel
theorem dX12_nodeOf_0 : decode cX12_nodeOf 0 = .ok (.aload_n 0, 1) := by decide +kernel
theorem dX12_nodeOf_1 : decode cX12_nodeOf 1 = .ok (.aload_n 0, 1) := by decide +kernel
theorem dX12_nodeOf_2 : decode cX12_nodeOf 2 = .ok (.getfield 90, 3) := by decide +kernel
theorem dX12_nodeOf_5 : decode cX12_nodeOf 5 = .ok (.iload_n 1, 1) := by decide +kernel
theorem dX12_nodeOf_6 : decode cX12_nodeOf 6 = .ok (.invokevirtual 270, 3) := by decide +kernel
theorem dX12_nodeOf_9 : decode cX12_nodeOf 9 = .ok (.ireturn, 1) := by decide +kernel
theorem dX12_partitionOf_0 : decode cX12_partitionOf 0 = .ok (.aload_n 0, 1) := by decide +kernel
theorem dX12_partitionOf_1 : decode cX12_partitionOf 1 = .ok (.aload_n 0, 1) := by decide +kernel
theorem dX12_partitionOf_2 : decode cX12_partitionOf 2 = .ok (.getfield 93, 3) := by decide +kernel
theorem dX12_partitionOf_5 : decode cX12_partitionOf 5 = .ok (.iload_n 1, 1) := by decide +kernel
theorem dX12_partitionOf_6 : decode cX12_partitionOf 6 = .ok (.invokevirtual 270, 3) := by decide +kernel
theorem dX12_partitionOf_9 : decode cX12_partitionOf 9 = .ok (.ireturn, 1) := by decide +kernel
theorem dX12_workerOf_0 : decode cX12_workerOf 0 = .ok (.aload_n 0, 1) := by decide +kernel
theorem dX12_workerOf_1 : decode cX12_workerOf 1 = .ok (.aload_n 0, 1) := by decide +kernel
theorem dX12_workerOf_2 : decode cX12_workerOf 2 = .ok (.getfield 96, 3) := by decide +kernel
theorem dX12_workerOf_5 : decode cX12_workerOf 5 = .ok (.iload_n 1, 1) := by decide +kernel
theorem dX12_workerOf_6 : decode cX12_workerOf 6 = .ok (.invokevirtual 270, 3) := by decide +kernel
theorem dX12_workerOf_9 : decode cX12_workerOf 9 = .ok (.ireturn, 1) := by decide +kernel
theorem dX12_startOf_0 : decode cX12_startOf 0 = .ok (.aload_n 0, 1) := by decide +kernel
theorem dX12_startOf_1 : decode cX12_startOf 1 = .ok (.aload_n 0, 1) := by decide +kernel
theorem dX12_startOf_2 : decode cX12_startOf 2 = .ok (.getfield 99, 3) := by decide +kernel
theorem dX12_startOf_5 : decode cX12_startOf 5 = .ok (.iload_n 1, 1) := by decide +kernel
theorem dX12_startOf_6 : decode cX12_startOf 6 = .ok (.invokevirtual 270, 3) := by decide +kernel
theorem dX12_startOf_9 : decode cX12_startOf 9 = .ok (.ireturn, 1) := by decide +kernel
theorem dX12_endOf_0 : decode cX12_endOf 0 = .ok (.aload_n 0, 1) := by decide +kernel
theorem dX12_endOf_1 : decode cX12_endOf 1 = .ok (.aload_n 0, 1) := by decide +kernel
theorem dX12_endOf_2 : decode cX12_endOf 2 = .ok (.getfield 102, 3) := by decide +kernel
theorem dX12_endOf_5 : decode cX12_endOf 5 = .ok (.iload_n 1, 1) := by decide +kernel
theorem dX12_endOf_6 : decode cX12_endOf 6 = .ok (.invokevirtual 270, 3) := by decide +kernel
theorem dX12_endOf_9 : decode cX12_endOf 9 = .ok (.ireturn, 1) := by decide +kernel
theorem dX12_isCopy_0 : decode cX12_isCopy 0 = .ok (.aload_n 0, 1) := by decide +kernel
theorem dX12_isCopy_1 : decode cX12_isCopy 1 = .ok (.iload_n 1, 1) := by decide +kernel
theorem dX12_isCopy_2 : decode cX12_isCopy 2 = .ok (.ifCond .lt 15, 3) := by decide +kernel
theorem dX12_isCopy_5 : decode cX12_isCopy 5 = .ok (.iload_n 1, 1) := by decide +kernel
theorem dX12_isCopy_6 : decode cX12_isCopy 6 = .ok (.aload_n 0, 1) := by decide +kernel
theorem dX12_isCopy_7 : decode cX12_isCopy 7 = .ok (.getfield 238, 3) := by decide +kernel
theorem dX12_isCopy_10 : decode cX12_isCopy 10 = .ok (.if_icmp .ge 7, 3) := by decide +kernel
theorem dX12_isCopy_13 : decode cX12_isCopy 13 = .ok (.iconst 0, 1) := by decide +kernel
theorem dX12_isCopy_14 : decode cX12_isCopy 14 = .ok (.goto 4, 3) := by decide +kernel
theorem dX12_isCopy_17 : decode cX12_isCopy 17 = .ok (.iconst 1, 1) := by decide +kernel
theorem dX12_isCopy_18 : decode cX12_isCopy 18 = .ok (.invokevirtual 130, 3) := by decide +kernel
theorem dX12_isCopy_21 : decode cX12_isCopy 21 = .ok (.ifCond .ne 16, 3) := by decide +kernel
theorem dX12_isCopy_24 : decode cX12_isCopy 24 = .ok (.aload_n 0, 1) := by decide +kernel
theorem dX12_isCopy_25 : decode cX12_isCopy 25 = .ok (.getfield 105, 3) := by decide +kernel
theorem dX12_isCopy_28 : decode cX12_isCopy 28 = .ok (.iload_n 1, 1) := by decide +kernel
theorem dX12_isCopy_29 : decode cX12_isCopy 29 = .ok (.baload, 1) := by decide +kernel
theorem dX12_isCopy_30 : decode cX12_isCopy 30 = .ok (.ifCond .eq 7, 3) := by decide +kernel
theorem dX12_isCopy_33 : decode cX12_isCopy 33 = .ok (.iconst 1, 1) := by decide +kernel
theorem dX12_isCopy_34 : decode cX12_isCopy 34 = .ok (.goto 4, 3) := by decide +kernel
theorem dX12_isCopy_37 : decode cX12_isCopy 37 = .ok (.iconst 0, 1) := by decide +kernel
theorem dX12_isCopy_38 : decode cX12_isCopy 38 = .ok (.ireturn, 1) := by decide +kernel
theorem dX12_share__0 : decode cX12_share_ 0 = .ok (.aload_n 0, 1) := by decide +kernel
theorem dX12_share__1 : decode cX12_share_ 1 = .ok (.iconst 0, 1) := by decide +kernel
theorem dX12_share__2 : decode cX12_share_ 2 = .ok (.putfield 120, 3) := by decide +kernel
theorem dX12_share__5 : decode cX12_share_ 5 = .ok (.iconst 0, 1) := by decide +kernel
theorem dX12_share__6 : decode cX12_share_ 6 = .ok (.istore_n 1, 1) := by decide +kernel
theorem dX12_share__7 : decode cX12_share_ 7 = .ok (.iconst 0, 1) := by decide +kernel
theorem dX12_share__8 : decode cX12_share_ 8 = .ok (.istore_n 2, 1) := by decide +kernel
theorem dX12_share__9 : decode cX12_share_ 9 = .ok (.iload_n 2, 1) := by decide +kernel
theorem dX12_share__10 : decode cX12_share_ 10 = .ok (.aload_n 0, 1) := by decide +kernel
theorem dX12_share__11 : decode cX12_share_ 11 = .ok (.getfield 238, 3) := by decide +kernel
theorem dX12_share__14 : decode cX12_share_ 14 = .ok (.if_icmp .ge 25, 3) := by decide +kernel
theorem dX12_share__17 : decode cX12_share_ 17 = .ok (.iload_n 1, 1) := by decide +kernel
theorem dX12_share__18 : decode cX12_share_ 18 = .ok (.aload_n 0, 1) := by decide +kernel
theorem dX12_share__19 : decode cX12_share_ 19 = .ok (.getfield 102, 3) := by decide +kernel
theorem dX12_share__22 : decode cX12_share_ 22 = .ok (.iload_n 2, 1) := by decide +kernel
theorem dX12_share__23 : decode cX12_share_ 23 = .ok (.iaload, 1) := by decide +kernel
theorem dX12_share__24 : decode cX12_share_ 24 = .ok (.aload_n 0, 1) := by decide +kernel
theorem dX12_share__25 : decode cX12_share_ 25 = .ok (.getfield 99, 3) := by decide +kernel
theorem dX12_share__28 : decode cX12_share_ 28 = .ok (.iload_n 2, 1) := by decide +kernel
theorem dX12_share__29 : decode cX12_share_ 29 = .ok (.iaload, 1) := by decide +kernel
theorem dX12_share__30 : decode cX12_share_ 30 = .ok (.isub, 1) := by decide +kernel
theorem dX12_share__31 : decode cX12_share_ 31 = .ok (.iadd, 1) := by decide +kernel
theorem dX12_share__32 : decode cX12_share_ 32 = .ok (.istore_n 1, 1) := by decide +kernel
theorem dX12_share__33 : decode cX12_share_ 33 = .ok (.iinc 2 1, 3) := by decide +kernel
theorem dX12_share__36 : decode cX12_share_ 36 = .ok (.goto (-27), 3) := by decide +kernel
theorem dX12_share__39 : decode cX12_share_ 39 = .ok (.aload_n 0, 1) := by decide +kernel
theorem dX12_share__40 : decode cX12_share_ 40 = .ok (.getfield 258, 3) := by decide +kernel
theorem dX12_share__43 : decode cX12_share_ 43 = .ok (.ifCond .ne 7, 3) := by decide +kernel
theorem dX12_share__46 : decode cX12_share_ 46 = .ok (.fconst 0, 1) := by decide +kernel
theorem dX12_share__47 : decode cX12_share_ 47 = .ok (.goto 16, 3) := by decide +kernel
theorem dX12_share__50 : decode cX12_share_ 50 = .ok (.iload_n 1, 1) := by decide +kernel
theorem dX12_share__51 : decode cX12_share_ 51 = .ok (.i2f, 1) := by decide +kernel
theorem dX12_share__52 : decode cX12_share_ 52 = .ok (.aload_n 0, 1) := by decide +kernel
theorem dX12_share__53 : decode cX12_share_ 53 = .ok (.getfield 258, 3) := by decide +kernel
theorem dX12_share__56 : decode cX12_share_ 56 = .ok (.aload_n 0, 1) := by decide +kernel
theorem dX12_share__57 : decode cX12_share_ 57 = .ok (.getfield 261, 3) := by decide +kernel
theorem dX12_share__60 : decode cX12_share_ 60 = .ok (.imul, 1) := by decide +kernel
theorem dX12_share__61 : decode cX12_share_ 61 = .ok (.i2f, 1) := by decide +kernel
theorem dX12_share__62 : decode cX12_share_ 62 = .ok (.fdiv, 1) := by decide +kernel
theorem dX12_share__63 : decode cX12_share_ 63 = .ok (.freturn, 1) := by decide +kernel
end
section
theorem dJ6_bitCount_0f7a4_0 : decode cJ6_bitCount_0f7a4 0 = .ok (.iload_n 0, 1) := by decide +kernel
theorem dJ6_bitCount_0f7a4_1 : decode cJ6_bitCount_0f7a4 1 = .ok (.iload_n 0, 1) := by decide +kernel
theorem dJ6_bitCount_0f7a4_2 : decode cJ6_bitCount_0f7a4 2 = .ok (.iconst 1, 1) := by decide +kernel
theorem dJ6_bitCount_0f7a4_3 : decode cJ6_bitCount_0f7a4 3 = .ok (.iushr, 1) := by decide +kernel
theorem dJ6_bitCount_0f7a4_4 : decode cJ6_bitCount_0f7a4 4 = .ok (.ldc_w 265, 3) := by decide +kernel
theorem dJ6_bitCount_0f7a4_7 : decode cJ6_bitCount_0f7a4 7 = .ok (.iand, 1) := by decide +kernel
theorem dJ6_bitCount_0f7a4_8 : decode cJ6_bitCount_0f7a4 8 = .ok (.isub, 1) := by decide +kernel
theorem dJ6_bitCount_0f7a4_9 : decode cJ6_bitCount_0f7a4 9 = .ok (.istore_n 0, 1) := by decide +kernel
theorem dJ6_bitCount_0f7a4_10 : decode cJ6_bitCount_0f7a4 10 = .ok (.iload_n 0, 1) := by decide +kernel
theorem dJ6_bitCount_0f7a4_11 : decode cJ6_bitCount_0f7a4 11 = .ok (.ldc_w 266, 3) := by decide +kernel
theorem dJ6_bitCount_0f7a4_14 : decode cJ6_bitCount_0f7a4 14 = .ok (.iand, 1) := by decide +kernel
theorem dJ6_bitCount_0f7a4_15 : decode cJ6_bitCount_0f7a4 15 = .ok (.iload_n 0, 1) := by decide +kernel
theorem dJ6_bitCount_0f7a4_16 : decode cJ6_bitCount_0f7a4 16 = .ok (.iconst 2, 1) := by decide +kernel
theorem dJ6_bitCount_0f7a4_17 : decode cJ6_bitCount_0f7a4 17 = .ok (.iushr, 1) := by decide +kernel
theorem dJ6_bitCount_0f7a4_18 : decode cJ6_bitCount_0f7a4 18 = .ok (.ldc_w 266, 3) := by decide +kernel
theorem dJ6_bitCount_0f7a4_21 : decode cJ6_bitCount_0f7a4 21 = .ok (.iand, 1) := by decide +kernel
theorem dJ6_bitCount_0f7a4_22 : decode cJ6_bitCount_0f7a4 22 = .ok (.iadd, 1) := by decide +kernel
theorem dJ6_bitCount_0f7a4_23 : decode cJ6_bitCount_0f7a4 23 = .ok (.istore_n 0, 1) := by decide +kernel
theorem dJ6_bitCount_0f7a4_24 : decode cJ6_bitCount_0f7a4 24 = .ok (.iload_n 0, 1) := by decide +kernel
theorem dJ6_bitCount_0f7a4_25 : decode cJ6_bitCount_0f7a4 25 = .ok (.iload_n 0, 1) := by decide +kernel
theorem dJ6_bitCount_0f7a4_26 : decode cJ6_bitCount_0f7a4 26 = .ok (.iconst 4, 1) := by decide +kernel
theorem dJ6_bitCount_0f7a4_27 : decode cJ6_bitCount_0f7a4 27 = .ok (.iushr, 1) := by decide +kernel
theorem dJ6_bitCount_0f7a4_28 : decode cJ6_bitCount_0f7a4 28 = .ok (.iadd, 1) := by decide +kernel
theorem dJ6_bitCount_0f7a4_29 : decode cJ6_bitCount_0f7a4 29 = .ok (.ldc_w 267, 3) := by decide +kernel
theorem dJ6_bitCount_0f7a4_32 : decode cJ6_bitCount_0f7a4 32 = .ok (.iand, 1) := by decide +kernel
theorem dJ6_bitCount_0f7a4_33 : decode cJ6_bitCount_0f7a4 33 = .ok (.istore_n 0, 1) := by decide +kernel
theorem dJ6_bitCount_0f7a4_34 : decode cJ6_bitCount_0f7a4 34 = .ok (.iload_n 0, 1) := by decide +kernel
theorem dJ6_bitCount_0f7a4_35 : decode cJ6_bitCount_0f7a4 35 = .ok (.iload_n 0, 1) := by decide +kernel
theorem dJ6_bitCount_0f7a4_36 : decode cJ6_bitCount_0f7a4 36 = .ok (.bipush 8, 2) := by decide +kernel
theorem dJ6_bitCount_0f7a4_38 : decode cJ6_bitCount_0f7a4 38 = .ok (.iushr, 1) := by decide +kernel
theorem dJ6_bitCount_0f7a4_39 : decode cJ6_bitCount_0f7a4 39 = .ok (.iadd, 1) := by decide +kernel
theorem dJ6_bitCount_0f7a4_40 : decode cJ6_bitCount_0f7a4 40 = .ok (.istore_n 0, 1) := by decide +kernel
theorem dJ6_bitCount_0f7a4_41 : decode cJ6_bitCount_0f7a4 41 = .ok (.iload_n 0, 1) := by decide +kernel
theorem dJ6_bitCount_0f7a4_42 : decode cJ6_bitCount_0f7a4 42 = .ok (.iload_n 0, 1) := by decide +kernel
theorem dJ6_bitCount_0f7a4_43 : decode cJ6_bitCount_0f7a4 43 = .ok (.bipush 16, 2) := by decide +kernel
theorem dJ6_bitCount_0f7a4_45 : decode cJ6_bitCount_0f7a4 45 = .ok (.iushr, 1) := by decide +kernel
theorem dJ6_bitCount_0f7a4_46 : decode cJ6_bitCount_0f7a4 46 = .ok (.iadd, 1) := by decide +kernel
theorem dJ6_bitCount_0f7a4_47 : decode cJ6_bitCount_0f7a4 47 = .ok (.istore_n 0, 1) := by decide +kernel
theorem dJ6_bitCount_0f7a4_48 : decode cJ6_bitCount_0f7a4 48 = .ok (.iload_n 0, 1) := by decide +kernel
theorem dJ6_bitCount_0f7a4_49 : decode cJ6_bitCount_0f7a4 49 = .ok (.bipush 63, 2) := by decide +kernel
theorem dJ6_bitCount_0f7a4_51 : decode cJ6_bitCount_0f7a4 51 = .ok (.iand, 1) := by decide +kernel
theorem dJ6_bitCount_0f7a4_52 : decode cJ6_bitCount_0f7a4 52 = .ok (.ireturn, 1) := by decide +kernel
theorem dJ9_floorMod_7cf53_0 : decode cJ9_floorMod_7cf53 0 = .ok (.iload_n 0, 1) := by decide +kernel
theorem dJ9_floorMod_7cf53_1 : decode cJ9_floorMod_7cf53 1 = .ok (.iload_n 1, 1) := by decide +kernel
theorem dJ9_floorMod_7cf53_2 : decode cJ9_floorMod_7cf53 2 = .ok (.irem, 1) := by decide +kernel
theorem dJ9_floorMod_7cf53_3 : decode cJ9_floorMod_7cf53 3 = .ok (.istore_n 2, 1) := by decide +kernel
theorem dJ9_floorMod_7cf53_4 : decode cJ9_floorMod_7cf53 4 = .ok (.iload_n 0, 1) := by decide +kernel
theorem dJ9_floorMod_7cf53_5 : decode cJ9_floorMod_7cf53 5 = .ok (.iload_n 1, 1) := by decide +kernel
theorem dJ9_floorMod_7cf53_6 : decode cJ9_floorMod_7cf53 6 = .ok (.ixor, 1) := by decide +kernel
theorem dJ9_floorMod_7cf53_7 : decode cJ9_floorMod_7cf53 7 = .ok (.ifCond .ge 11, 3) := by decide +kernel
theorem dJ9_floorMod_7cf53_10 : decode cJ9_floorMod_7cf53 10 = .ok (.iload_n 2, 1) := by decide +kernel
theorem dJ9_floorMod_7cf53_11 : decode cJ9_floorMod_7cf53 11 = .ok (.ifCond .eq 7, 3) := by decide +kernel
theorem dJ9_floorMod_7cf53_14 : decode cJ9_floorMod_7cf53 14 = .ok (.iload_n 2, 1) := by decide +kernel
theorem dJ9_floorMod_7cf53_15 : decode cJ9_floorMod_7cf53 15 = .ok (.iload_n 1, 1) := by decide +kernel
theorem dJ9_floorMod_7cf53_16 : decode cJ9_floorMod_7cf53 16 = .ok (.iadd, 1) := by decide +kernel
theorem dJ9_floorMod_7cf53_17 : decode cJ9_floorMod_7cf53 17 = .ok (.ireturn, 1) := by decide +kernel
theorem dJ9_floorMod_7cf53_18 : decode cJ9_floorMod_7cf53 18 = .ok (.iload_n 2, 1) := by decide +kernel
theorem dJ9_floorMod_7cf53_19 : decode cJ9_floorMod_7cf53 19 = .ok (.ireturn, 1) := by decide +kernel
theorem dJ9_max_7cf53_0 : decode cJ9_max_7cf53 0 = .ok (.iload_n 0, 1) := by decide +kernel
theorem dJ9_max_7cf53_1 : decode cJ9_max_7cf53 1 = .ok (.iload_n 1, 1) := by decide +kernel
theorem dJ9_max_7cf53_2 : decode cJ9_max_7cf53 2 = .ok (.if_icmp .lt 7, 3) := by decide +kernel
theorem dJ9_max_7cf53_5 : decode cJ9_max_7cf53 5 = .ok (.iload_n 0, 1) := by decide +kernel
theorem dJ9_max_7cf53_6 : decode cJ9_max_7cf53 6 = .ok (.goto 4, 3) := by decide +kernel
theorem dJ9_max_7cf53_9 : decode cJ9_max_7cf53 9 = .ok (.iload_n 1, 1) := by decide +kernel
theorem dJ9_max_7cf53_10 : decode cJ9_max_7cf53 10 = .ok (.ireturn, 1) := by decide +kernel
theorem dJ9_min_7cf53_0 : decode cJ9_min_7cf53 0 = .ok (.iload_n 0, 1) := by decide +kernel
theorem dJ9_min_7cf53_1 : decode cJ9_min_7cf53 1 = .ok (.iload_n 1, 1) := by decide +kernel
theorem dJ9_min_7cf53_2 : decode cJ9_min_7cf53 2 = .ok (.if_icmp .gt 7, 3) := by decide +kernel
theorem dJ9_min_7cf53_5 : decode cJ9_min_7cf53 5 = .ok (.iload_n 0, 1) := by decide +kernel
theorem dJ9_min_7cf53_6 : decode cJ9_min_7cf53 6 = .ok (.goto 4, 3) := by decide +kernel
theorem dJ9_min_7cf53_9 : decode cJ9_min_7cf53 9 = .ok (.iload_n 1, 1) := by decide +kernel
theorem dJ9_min_7cf53_10 : decode cJ9_min_7cf53 10 = .ok (.ireturn, 1) := by decide +kernel
theorem dJxa1e45_init_da8c8_0 : decode cJxa1e45_init_da8c8 0 = .ok (.aload_n 0, 1) := by decide +kernel
theorem dJxa1e45_init_da8c8_1 : decode cJxa1e45_init_da8c8 1 = .ok (.invokespecial 1, 3) := by decide +kernel
theorem dJxa1e45_init_da8c8_4 : decode cJxa1e45_init_da8c8 4 = .ok (.return_, 1) := by decide +kernel
theorem dJxc12de_init_da8c8_0 : decode cJxc12de_init_da8c8 0 = .ok (.aload_n 0, 1) := by decide +kernel
theorem dJxc12de_init_da8c8_1 : decode cJxc12de_init_da8c8 1 = .ok (.invokespecial 1, 3) := by decide +kernel
theorem dJxc12de_init_da8c8_4 : decode cJxc12de_init_da8c8 4 = .ok (.aload_n 0, 1) := by decide +kernel
theorem dJxc12de_init_da8c8_5 : decode cJxc12de_init_da8c8 5 = .ok (.iconst 0, 1) := by decide +kernel
theorem dJxc12de_init_da8c8_6 : decode cJxc12de_init_da8c8 6 = .ok (.putfield 7, 3) := by decide +kernel
theorem dJxc12de_init_da8c8_9 : decode cJxc12de_init_da8c8 9 = .ok (.return_, 1) := by decide +kernel
theorem dJx4a65c_init_da8c8_0 : decode cJx4a65c_init_da8c8 0 = .ok (.aload_n 0, 1) := by decide +kernel
theorem dJx4a65c_init_da8c8_1 : decode cJx4a65c_init_da8c8 1 = .ok (.invokespecial 1, 3) := by decide +kernel
theorem dJx4a65c_init_da8c8_4 : decode cJx4a65c_init_da8c8 4 = .ok (.aload_n 0, 1) := by decide +kernel
theorem dJx4a65c_init_da8c8_5 : decode cJx4a65c_init_da8c8 5 = .ok (.getstatic 39, 3) := by decide +kernel
theorem dJx4a65c_init_da8c8_8 : decode cJx4a65c_init_da8c8 8 = .ok (.putfield 9, 3) := by decide +kernel
theorem dJx4a65c_init_da8c8_11 : decode cJx4a65c_init_da8c8 11 = .ok (.return_, 1) := by decide +kernel
theorem dJx4a65c_grow_92f84_0 : decode cJx4a65c_grow_92f84 0 = .ok (.aload_n 0, 1) := by decide +kernel
theorem dJx4a65c_grow_92f84_1 : decode cJx4a65c_grow_92f84 1 = .ok (.getfield 9, 3) := by decide +kernel
theorem dJx4a65c_grow_92f84_4 : decode cJx4a65c_grow_92f84 4 = .ok (.arraylength, 1) := by decide +kernel
theorem dJx4a65c_grow_92f84_5 : decode cJx4a65c_grow_92f84 5 = .ok (.istore_n 2, 1) := by decide +kernel
theorem dJx4a65c_grow_92f84_6 : decode cJx4a65c_grow_92f84 6 = .ok (.iload_n 2, 1) := by decide +kernel
theorem dJx4a65c_grow_92f84_7 : decode cJx4a65c_grow_92f84 7 = .ok (.ifCond .gt 13, 3) := by decide +kernel
theorem dJx4a65c_grow_92f84_10 : decode cJx4a65c_grow_92f84 10 = .ok (.aload_n 0, 1) := by decide +kernel
theorem dJx4a65c_grow_92f84_11 : decode cJx4a65c_grow_92f84 11 = .ok (.getfield 9, 3) := by decide +kernel
theorem dJx4a65c_grow_92f84_14 : decode cJx4a65c_grow_92f84 14 = .ok (.getstatic 39, 3) := by decide +kernel
theorem dJx4a65c_grow_92f84_17 : decode cJx4a65c_grow_92f84 17 = .ok (.if_acmp .eq 28, 3) := by decide +kernel
theorem dJx4a65c_grow_92f84_20 : decode cJx4a65c_grow_92f84 20 = .ok (.iload_n 2, 1) := by decide +kernel
theorem dJx4a65c_grow_92f84_21 : decode cJx4a65c_grow_92f84 21 = .ok (.iload_n 1, 1) := by decide +kernel
theorem dJx4a65c_grow_92f84_22 : decode cJx4a65c_grow_92f84 22 = .ok (.iload_n 2, 1) := by decide +kernel
theorem dJx4a65c_grow_92f84_23 : decode cJx4a65c_grow_92f84 23 = .ok (.isub, 1) := by decide +kernel
theorem dJx4a65c_grow_92f84_24 : decode cJx4a65c_grow_92f84 24 = .ok (.iload_n 2, 1) := by decide +kernel
theorem dJx4a65c_grow_92f84_25 : decode cJx4a65c_grow_92f84 25 = .ok (.iconst 1, 1) := by decide +kernel
theorem dJx4a65c_grow_92f84_26 : decode cJx4a65c_grow_92f84 26 = .ok (.ishr, 1) := by decide +kernel
theorem dJx4a65c_grow_92f84_27 : decode cJx4a65c_grow_92f84 27 = .ok (.invokestatic 73, 3) := by decide +kernel
theorem dJx4a65c_grow_92f84_30 : decode cJx4a65c_grow_92f84 30 = .ok (.istore_n 3, 1) := by decide +kernel
theorem dJx4a65c_grow_92f84_31 : decode cJx4a65c_grow_92f84 31 = .ok (.aload_n 0, 1) := by decide +kernel
theorem dJx4a65c_grow_92f84_32 : decode cJx4a65c_grow_92f84 32 = .ok (.aload_n 0, 1) := by decide +kernel
theorem dJx4a65c_grow_92f84_33 : decode cJx4a65c_grow_92f84 33 = .ok (.getfield 9, 3) := by decide +kernel
theorem dJx4a65c_grow_92f84_36 : decode cJx4a65c_grow_92f84 36 = .ok (.iload_n 3, 1) := by decide +kernel
theorem dJx4a65c_grow_92f84_37 : decode cJx4a65c_grow_92f84 37 = .ok (.invokestatic 66, 3) := by decide +kernel
theorem dJx4a65c_grow_92f84_40 : decode cJx4a65c_grow_92f84 40 = .ok (.dup_x1, 1) := by decide +kernel
theorem dJx4a65c_grow_92f84_41 : decode cJx4a65c_grow_92f84 41 = .ok (.putfield 9, 3) := by decide +kernel
theorem dJx4a65c_grow_92f84_44 : decode cJx4a65c_grow_92f84 44 = .ok (.areturn, 1) := by decide +kernel
theorem dJx4a65c_grow_92f84_45 : decode cJx4a65c_grow_92f84 45 = .ok (.aload_n 0, 1) := by decide +kernel
theorem dJx4a65c_grow_92f84_46 : decode cJx4a65c_grow_92f84 46 = .ok (.bipush 10, 2) := by decide +kernel
theorem dJx4a65c_grow_92f84_48 : decode cJx4a65c_grow_92f84 48 = .ok (.iload_n 1, 1) := by decide +kernel
theorem dJx4a65c_grow_92f84_49 : decode cJx4a65c_grow_92f84 49 = .ok (.invokestatic 79, 3) := by decide +kernel
theorem dJx4a65c_grow_92f84_52 : decode cJx4a65c_grow_92f84 52 = .ok (.anewarray 7, 3) := by decide +kernel
theorem dJx4a65c_grow_92f84_55 : decode cJx4a65c_grow_92f84 55 = .ok (.dup_x1, 1) := by decide +kernel
theorem dJx4a65c_grow_92f84_56 : decode cJx4a65c_grow_92f84 56 = .ok (.putfield 9, 3) := by decide +kernel
theorem dJx4a65c_grow_92f84_59 : decode cJx4a65c_grow_92f84 59 = .ok (.areturn, 1) := by decide +kernel
theorem dJx4a65c_grow_d5877_0 : decode cJx4a65c_grow_d5877 0 = .ok (.aload_n 0, 1) := by decide +kernel
theorem dJx4a65c_grow_d5877_1 : decode cJx4a65c_grow_d5877 1 = .ok (.aload_n 0, 1) := by decide +kernel
theorem dJx4a65c_grow_d5877_2 : decode cJx4a65c_grow_d5877 2 = .ok (.getfield 48, 3) := by decide +kernel
theorem dJx4a65c_grow_d5877_5 : decode cJx4a65c_grow_d5877 5 = .ok (.iconst 1, 1) := by decide +kernel
theorem dJx4a65c_grow_d5877_6 : decode cJx4a65c_grow_d5877 6 = .ok (.iadd, 1) := by decide +kernel
theorem dJx4a65c_grow_d5877_7 : decode cJx4a65c_grow_d5877 7 = .ok (.invokevirtual 69, 3) := by decide +kernel
theorem dJx4a65c_grow_d5877_10 : decode cJx4a65c_grow_d5877 10 = .ok (.areturn, 1) := by decide +kernel
theorem dJx4a65c_size_8abf5_0 : decode cJx4a65c_size_8abf5 0 = .ok (.aload_n 0, 1) := by decide +kernel
theorem dJx4a65c_size_8abf5_1 : decode cJx4a65c_size_8abf5 1 = .ok (.getfield 48, 3) := by decide +kernel
theorem dJx4a65c_size_8abf5_4 : decode cJx4a65c_size_8abf5 4 = .ok (.ireturn, 1) := by decide +kernel
theorem dJx4a65c_elementData_915e3_0 : decode cJx4a65c_elementData_915e3 0 = .ok (.aload_n 0, 1) := by decide +kernel
theorem dJx4a65c_elementData_915e3_1 : decode cJx4a65c_elementData_915e3 1 = .ok (.getfield 9, 3) := by decide +kernel
theorem dJx4a65c_elementData_915e3_4 : decode cJx4a65c_elementData_915e3 4 = .ok (.iload_n 1, 1) := by decide +kernel
theorem dJx4a65c_elementData_915e3_5 : decode cJx4a65c_elementData_915e3 5 = .ok (.aaload, 1) := by decide +kernel
theorem dJx4a65c_elementData_915e3_6 : decode cJx4a65c_elementData_915e3 6 = .ok (.areturn, 1) := by decide +kernel
theorem dJx4a65c_get_915e3_0 : decode cJx4a65c_get_915e3 0 = .ok (.iload_n 1, 1) := by decide +kernel
theorem dJx4a65c_get_915e3_1 : decode cJx4a65c_get_915e3 1 = .ok (.aload_n 0, 1) := by decide +kernel
theorem dJx4a65c_get_915e3_2 : decode cJx4a65c_get_915e3 2 = .ok (.getfield 48, 3) := by decide +kernel
theorem dJx4a65c_get_915e3_5 : decode cJx4a65c_get_915e3 5 = .ok (.invokestatic 118, 3) := by decide +kernel
theorem dJx4a65c_get_915e3_8 : decode cJx4a65c_get_915e3 8 = .ok (.pop, 1) := by decide +kernel
theorem dJx4a65c_get_915e3_9 : decode cJx4a65c_get_915e3 9 = .ok (.aload_n 0, 1) := by decide +kernel
theorem dJx4a65c_get_915e3_10 : decode cJx4a65c_get_915e3 10 = .ok (.iload_n 1, 1) := by decide +kernel
theorem dJx4a65c_get_915e3_11 : decode cJx4a65c_get_915e3 11 = .ok (.invokevirtual 123, 3) := by decide +kernel
theorem dJx4a65c_get_915e3_14 : decode cJx4a65c_get_915e3 14 = .ok (.areturn, 1) := by decide +kernel
theorem dJx4a65c_add_72be8_0 : decode cJx4a65c_add_72be8 0 = .ok (.iload_n 3, 1) := by decide +kernel
theorem dJx4a65c_add_72be8_1 : decode cJx4a65c_add_72be8 1 = .ok (.aload_n 2, 1) := by decide +kernel
theorem dJx4a65c_add_72be8_2 : decode cJx4a65c_add_72be8 2 = .ok (.arraylength, 1) := by decide +kernel
theorem dJx4a65c_add_72be8_3 : decode cJx4a65c_add_72be8 3 = .ok (.if_icmp .ne 8, 3) := by decide +kernel
theorem dJx4a65c_add_72be8_6 : decode cJx4a65c_add_72be8 6 = .ok (.aload_n 0, 1) := by decide +kernel
theorem dJx4a65c_add_72be8_7 : decode cJx4a65c_add_72be8 7 = .ok (.invokevirtual 129, 3) := by decide +kernel
theorem dJx4a65c_add_72be8_10 : decode cJx4a65c_add_72be8 10 = .ok (.astore_n 2, 1) := by decide +kernel
theorem dJx4a65c_add_72be8_11 : decode cJx4a65c_add_72be8 11 = .ok (.aload_n 2, 1) := by decide +kernel
theorem dJx4a65c_add_72be8_12 : decode cJx4a65c_add_72be8 12 = .ok (.iload_n 3, 1) := by decide +kernel
theorem dJx4a65c_add_72be8_13 : decode cJx4a65c_add_72be8 13 = .ok (.aload_n 1, 1) := by decide +kernel
theorem dJx4a65c_add_72be8_14 : decode cJx4a65c_add_72be8 14 = .ok (.aastore, 1) := by decide +kernel
theorem dJx4a65c_add_72be8_15 : decode cJx4a65c_add_72be8 15 = .ok (.aload_n 0, 1) := by decide +kernel
theorem dJx4a65c_add_72be8_16 : decode cJx4a65c_add_72be8 16 = .ok (.iload_n 3, 1) := by decide +kernel
theorem dJx4a65c_add_72be8_17 : decode cJx4a65c_add_72be8 17 = .ok (.iconst 1, 1) := by decide +kernel
theorem dJx4a65c_add_72be8_18 : decode cJx4a65c_add_72be8 18 = .ok (.iadd, 1) := by decide +kernel
theorem dJx4a65c_add_72be8_19 : decode cJx4a65c_add_72be8 19 = .ok (.putfield 48, 3) := by decide +kernel
theorem dJx4a65c_add_72be8_22 : decode cJx4a65c_add_72be8 22 = .ok (.return_, 1) := by decide +kernel
theorem dJx4a65c_add_9ea2d_0 : decode cJx4a65c_add_9ea2d 0 = .ok (.aload_n 0, 1) := by decide +kernel
theorem dJx4a65c_add_9ea2d_1 : decode cJx4a65c_add_9ea2d 1 = .ok (.dup, 1) := by decide +kernel
theorem dJx4a65c_add_9ea2d_2 : decode cJx4a65c_add_9ea2d 2 = .ok (.getfield 63, 3) := by decide +kernel
theorem dJx4a65c_add_9ea2d_5 : decode cJx4a65c_add_9ea2d 5 = .ok (.iconst 1, 1) := by decide +kernel
theorem dJx4a65c_add_9ea2d_6 : decode cJx4a65c_add_9ea2d 6 = .ok (.iadd, 1) := by decide +kernel
theorem dJx4a65c_add_9ea2d_7 : decode cJx4a65c_add_9ea2d 7 = .ok (.putfield 63, 3) := by decide +kernel
theorem dJx4a65c_add_9ea2d_10 : decode cJx4a65c_add_9ea2d 10 = .ok (.aload_n 0, 1) := by decide +kernel
theorem dJx4a65c_add_9ea2d_11 : decode cJx4a65c_add_9ea2d 11 = .ok (.aload_n 1, 1) := by decide +kernel
theorem dJx4a65c_add_9ea2d_12 : decode cJx4a65c_add_9ea2d 12 = .ok (.aload_n 0, 1) := by decide +kernel
theorem dJx4a65c_add_9ea2d_13 : decode cJx4a65c_add_9ea2d 13 = .ok (.getfield 9, 3) := by decide +kernel
theorem dJx4a65c_add_9ea2d_16 : decode cJx4a65c_add_9ea2d 16 = .ok (.aload_n 0, 1) := by decide +kernel
theorem dJx4a65c_add_9ea2d_17 : decode cJx4a65c_add_9ea2d 17 = .ok (.getfield 48, 3) := by decide +kernel
theorem dJx4a65c_add_9ea2d_20 : decode cJx4a65c_add_9ea2d 20 = .ok (.invokevirtual 131, 3) := by decide +kernel
theorem dJx4a65c_add_9ea2d_23 : decode cJx4a65c_add_9ea2d 23 = .ok (.iconst 1, 1) := by decide +kernel
theorem dJx4a65c_add_9ea2d_24 : decode cJx4a65c_add_9ea2d 24 = .ok (.ireturn, 1) := by decide +kernel
theorem dJ7_copyOf_1904c_0 : decode cJ7_copyOf_1904c 0 = .ok (.aload_n 0, 1) := by decide +kernel
theorem dJ7_copyOf_1904c_1 : decode cJ7_copyOf_1904c 1 = .ok (.iload_n 1, 1) := by decide +kernel
theorem dJ7_copyOf_1904c_2 : decode cJ7_copyOf_1904c 2 = .ok (.aload_n 0, 1) := by decide +kernel
theorem dJ7_copyOf_1904c_3 : decode cJ7_copyOf_1904c 3 = .ok (.invokevirtual 86, 3) := by decide +kernel
theorem dJ7_copyOf_1904c_6 : decode cJ7_copyOf_1904c 6 = .ok (.invokestatic 300, 3) := by decide +kernel
theorem dJ7_copyOf_1904c_9 : decode cJ7_copyOf_1904c 9 = .ok (.areturn, 1) := by decide +kernel
theorem dJ7_copyOf_6403c_0 : decode cJ7_copyOf_6403c 0 = .ok (.aload_n 2, 1) := by decide +kernel
theorem dJ7_copyOf_6403c_1 : decode cJ7_copyOf_6403c 1 = .ok (.ldc 110, 2) := by decide +kernel
theorem dJ7_copyOf_6403c_3 : decode cJ7_copyOf_6403c 3 = .ok (.if_acmp .ne 10, 3) := by decide +kernel
theorem dJ7_copyOf_6403c_6 : decode cJ7_copyOf_6403c 6 = .ok (.iload_n 1, 1) := by decide +kernel
theorem dJ7_copyOf_6403c_7 : decode cJ7_copyOf_6403c 7 = .ok (.anewarray 2, 3) := by decide +kernel
theorem dJ7_copyOf_6403c_10 : decode cJ7_copyOf_6403c 10 = .ok (.goto 14, 3) := by decide +kernel
theorem dJ7_copyOf_6403c_13 : decode cJ7_copyOf_6403c 13 = .ok (.aload_n 2, 1) := by decide +kernel
theorem dJ7_copyOf_6403c_14 : decode cJ7_copyOf_6403c 14 = .ok (.invokevirtual 90, 3) := by decide +kernel
theorem dJ7_copyOf_6403c_17 : decode cJ7_copyOf_6403c 17 = .ok (.iload_n 1, 1) := by decide +kernel
theorem dJ7_copyOf_6403c_18 : decode cJ7_copyOf_6403c 18 = .ok (.invokestatic 95, 3) := by decide +kernel
theorem dJ7_copyOf_6403c_21 : decode cJ7_copyOf_6403c 21 = .ok (.checkcast 110, 3) := by decide +kernel
theorem dJ7_copyOf_6403c_24 : decode cJ7_copyOf_6403c 24 = .ok (.astore_n 3, 1) := by decide +kernel
theorem dJ7_copyOf_6403c_25 : decode cJ7_copyOf_6403c 25 = .ok (.aload_n 0, 1) := by decide +kernel
theorem dJ7_copyOf_6403c_26 : decode cJ7_copyOf_6403c 26 = .ok (.iconst 0, 1) := by decide +kernel
theorem dJ7_copyOf_6403c_27 : decode cJ7_copyOf_6403c 27 = .ok (.aload_n 3, 1) := by decide +kernel
theorem dJ7_copyOf_6403c_28 : decode cJ7_copyOf_6403c 28 = .ok (.iconst 0, 1) := by decide +kernel
theorem dJ7_copyOf_6403c_29 : decode cJ7_copyOf_6403c 29 = .ok (.aload_n 0, 1) := by decide +kernel
theorem dJ7_copyOf_6403c_30 : decode cJ7_copyOf_6403c 30 = .ok (.arraylength, 1) := by decide +kernel
theorem dJ7_copyOf_6403c_31 : decode cJ7_copyOf_6403c 31 = .ok (.iload_n 1, 1) := by decide +kernel
theorem dJ7_copyOf_6403c_32 : decode cJ7_copyOf_6403c 32 = .ok (.invokestatic 304, 3) := by decide +kernel
theorem dJ7_copyOf_6403c_35 : decode cJ7_copyOf_6403c 35 = .ok (.invokestatic 150, 3) := by decide +kernel
theorem dJ7_copyOf_6403c_38 : decode cJ7_copyOf_6403c 38 = .ok (.aload_n 3, 1) := by decide +kernel
theorem dJ7_copyOf_6403c_39 : decode cJ7_copyOf_6403c 39 = .ok (.areturn, 1) := by decide +kernel
theorem dJ15_checkIndex_7cf53_0 : decode cJ15_checkIndex_7cf53 0 = .ok (.iload_n 0, 1) := by decide +kernel
theorem dJ15_checkIndex_7cf53_1 : decode cJ15_checkIndex_7cf53 1 = .ok (.iload_n 1, 1) := by decide +kernel
theorem dJ15_checkIndex_7cf53_2 : decode cJ15_checkIndex_7cf53 2 = .ok (.aconst_null, 1) := by decide +kernel
theorem dJ15_checkIndex_7cf53_3 : decode cJ15_checkIndex_7cf53 3 = .ok (.invokestatic 105, 3) := by decide +kernel
theorem dJ15_checkIndex_7cf53_6 : decode cJ15_checkIndex_7cf53 6 = .ok (.ireturn, 1) := by decide +kernel
theorem dJ8_newLength_cabcc_0 : decode cJ8_newLength_cabcc 0 = .ok (.iload_n 0, 1) := by decide +kernel
theorem dJ8_newLength_cabcc_1 : decode cJ8_newLength_cabcc 1 = .ok (.iload_n 1, 1) := by decide +kernel
theorem dJ8_newLength_cabcc_2 : decode cJ8_newLength_cabcc 2 = .ok (.iload_n 2, 1) := by decide +kernel
theorem dJ8_newLength_cabcc_3 : decode cJ8_newLength_cabcc 3 = .ok (.invokestatic 194, 3) := by decide +kernel
theorem dJ8_newLength_cabcc_6 : decode cJ8_newLength_cabcc 6 = .ok (.iadd, 1) := by decide +kernel
theorem dJ8_newLength_cabcc_7 : decode cJ8_newLength_cabcc 7 = .ok (.istore_n 3, 1) := by decide +kernel
theorem dJ8_newLength_cabcc_8 : decode cJ8_newLength_cabcc 8 = .ok (.iconst 0, 1) := by decide +kernel
theorem dJ8_newLength_cabcc_9 : decode cJ8_newLength_cabcc 9 = .ok (.iload_n 3, 1) := by decide +kernel
theorem dJ8_newLength_cabcc_10 : decode cJ8_newLength_cabcc 10 = .ok (.if_icmp .ge 11, 3) := by decide +kernel
theorem dJ8_newLength_cabcc_13 : decode cJ8_newLength_cabcc 13 = .ok (.iload_n 3, 1) := by decide +kernel
theorem dJ8_newLength_cabcc_14 : decode cJ8_newLength_cabcc 14 = .ok (.ldc 200, 2) := by decide +kernel
theorem dJ8_newLength_cabcc_16 : decode cJ8_newLength_cabcc 16 = .ok (.if_icmp .gt 5, 3) := by decide +kernel
theorem dJ8_newLength_cabcc_19 : decode cJ8_newLength_cabcc 19 = .ok (.iload_n 3, 1) := by decide +kernel
theorem dJ8_newLength_cabcc_20 : decode cJ8_newLength_cabcc 20 = .ok (.ireturn, 1) := by decide +kernel
theorem dJ8_newLength_cabcc_21 : decode cJ8_newLength_cabcc 21 = .ok (.iload_n 0, 1) := by decide +kernel
theorem dJ8_newLength_cabcc_22 : decode cJ8_newLength_cabcc 22 = .ok (.iload_n 1, 1) := by decide +kernel
theorem dJ8_newLength_cabcc_23 : decode cJ8_newLength_cabcc 23 = .ok (.invokestatic 201, 3) := by decide +kernel
theorem dJ8_newLength_cabcc_26 : decode cJ8_newLength_cabcc 26 = .ok (.ireturn, 1) := by decide +kernel
theorem dJ8_hugeLength_7cf53_0 : decode cJ8_hugeLength_7cf53 0 = .ok (.iload_n 0, 1) := by decide +kernel
theorem dJ8_hugeLength_7cf53_1 : decode cJ8_hugeLength_7cf53 1 = .ok (.iload_n 1, 1) := by decide +kernel
theorem dJ8_hugeLength_7cf53_2 : decode cJ8_hugeLength_7cf53 2 = .ok (.iadd, 1) := by decide +kernel
theorem dJ8_hugeLength_7cf53_3 : decode cJ8_hugeLength_7cf53 3 = .ok (.istore_n 2, 1) := by decide +kernel
theorem dJ8_hugeLength_7cf53_4 : decode cJ8_hugeLength_7cf53 4 = .ok (.iload_n 2, 1) := by decide +kernel
theorem dJ8_hugeLength_7cf53_5 : decode cJ8_hugeLength_7cf53 5 = .ok (.ifCond .ge 44, 3) := by decide +kernel
theorem dJ8_hugeLength_7cf53_8 : decode cJ8_hugeLength_7cf53 8 = .ok (.new 204, 3) := by decide +kernel
theorem dJ8_hugeLength_7cf53_11 : decode cJ8_hugeLength_7cf53 11 = .ok (.dup, 1) := by decide +kernel
theorem dJ8_hugeLength_7cf53_12 : decode cJ8_hugeLength_7cf53 12 = .ok (.new 89, 3) := by decide +kernel
theorem dJ8_hugeLength_7cf53_15 : decode cJ8_hugeLength_7cf53 15 = .ok (.dup, 1) := by decide +kernel
theorem dJ8_hugeLength_7cf53_16 : decode cJ8_hugeLength_7cf53 16 = .ok (.invokespecial 91, 3) := by decide +kernel
theorem dJ8_hugeLength_7cf53_19 : decode cJ8_hugeLength_7cf53 19 = .ok (.ldc 206, 2) := by decide +kernel
theorem dJ8_hugeLength_7cf53_21 : decode cJ8_hugeLength_7cf53 21 = .ok (.invokevirtual 94, 3) := by decide +kernel
theorem dJ8_hugeLength_7cf53_24 : decode cJ8_hugeLength_7cf53 24 = .ok (.iload_n 0, 1) := by decide +kernel
theorem dJ8_hugeLength_7cf53_25 : decode cJ8_hugeLength_7cf53 25 = .ok (.invokevirtual 98, 3) := by decide +kernel
theorem dJ8_hugeLength_7cf53_28 : decode cJ8_hugeLength_7cf53 28 = .ok (.ldc 208, 2) := by decide +kernel
theorem dJ8_hugeLength_7cf53_30 : decode cJ8_hugeLength_7cf53 30 = .ok (.invokevirtual 94, 3) := by decide +kernel
theorem dJ8_hugeLength_7cf53_33 : decode cJ8_hugeLength_7cf53 33 = .ok (.iload_n 1, 1) := by decide +kernel
theorem dJ8_hugeLength_7cf53_34 : decode cJ8_hugeLength_7cf53 34 = .ok (.invokevirtual 98, 3) := by decide +kernel
theorem dJ8_hugeLength_7cf53_37 : decode cJ8_hugeLength_7cf53 37 = .ok (.ldc 210, 2) := by decide +kernel
theorem dJ8_hugeLength_7cf53_39 : decode cJ8_hugeLength_7cf53 39 = .ok (.invokevirtual 94, 3) := by decide +kernel
theorem dJ8_hugeLength_7cf53_42 : decode cJ8_hugeLength_7cf53 42 = .ok (.invokevirtual 101, 3) := by decide +kernel
theorem dJ8_hugeLength_7cf53_45 : decode cJ8_hugeLength_7cf53 45 = .ok (.invokespecial 212, 3) := by decide +kernel
theorem dJ8_hugeLength_7cf53_48 : decode cJ8_hugeLength_7cf53 48 = .ok (.athrow, 1) := by decide +kernel
theorem dJ8_hugeLength_7cf53_49 : decode cJ8_hugeLength_7cf53 49 = .ok (.iload_n 2, 1) := by decide +kernel
theorem dJ8_hugeLength_7cf53_50 : decode cJ8_hugeLength_7cf53 50 = .ok (.ldc 200, 2) := by decide +kernel
theorem dJ8_hugeLength_7cf53_52 : decode cJ8_hugeLength_7cf53 52 = .ok (.if_icmp .gt 6, 3) := by decide +kernel
theorem dJ8_hugeLength_7cf53_55 : decode cJ8_hugeLength_7cf53 55 = .ok (.ldc 200, 2) := by decide +kernel
theorem dJ8_hugeLength_7cf53_57 : decode cJ8_hugeLength_7cf53 57 = .ok (.ireturn, 1) := by decide +kernel
theorem dJ8_hugeLength_7cf53_58 : decode cJ8_hugeLength_7cf53 58 = .ok (.iload_n 2, 1) := by decide +kernel
theorem dJ8_hugeLength_7cf53_59 : decode cJ8_hugeLength_7cf53 59 = .ok (.ireturn, 1) := by decide +kernel
theorem dJ3_checkIndex_8e157_0 : decode cJ3_checkIndex_8e157 0 = .ok (.iload_n 0, 1) := by decide +kernel
theorem dJ3_checkIndex_8e157_1 : decode cJ3_checkIndex_8e157 1 = .ok (.ifCond .lt 8, 3) := by decide +kernel
theorem dJ3_checkIndex_8e157_4 : decode cJ3_checkIndex_8e157 4 = .ok (.iload_n 0, 1) := by decide +kernel
theorem dJ3_checkIndex_8e157_5 : decode cJ3_checkIndex_8e157 5 = .ok (.iload_n 1, 1) := by decide +kernel
theorem dJ3_checkIndex_8e157_6 : decode cJ3_checkIndex_8e157 6 = .ok (.if_icmp .lt 10, 3) := by decide +kernel
theorem dJ3_checkIndex_8e157_9 : decode cJ3_checkIndex_8e157 9 = .ok (.aload_n 2, 1) := by decide +kernel
theorem dJ3_checkIndex_8e157_10 : decode cJ3_checkIndex_8e157 10 = .ok (.iload_n 0, 1) := by decide +kernel
theorem dJ3_checkIndex_8e157_11 : decode cJ3_checkIndex_8e157 11 = .ok (.iload_n 1, 1) := by decide +kernel
theorem dJ3_checkIndex_8e157_12 : decode cJ3_checkIndex_8e157 12 = .ok (.invokestatic 95, 3) := by decide +kernel
theorem dJ3_checkIndex_8e157_15 : decode cJ3_checkIndex_8e157 15 = .ok (.athrow, 1) := by decide +kernel
theorem dJ3_checkIndex_8e157_16 : decode cJ3_checkIndex_8e157 16 = .ok (.iload_n 0, 1) := by decide +kernel
theorem dJ3_checkIndex_8e157_17 : decode cJ3_checkIndex_8e157 17 = .ok (.ireturn, 1) := by decide +kernel
theorem dL_source_0 : decode cL_source 0 = .ok (.aload_n 2, 1) := by decide +kernel
theorem dL_source_1 : decode cL_source 1 = .ok (.iconst 0, 1) := by decide +kernel
theorem dL_source_2 : decode cL_source 2 = .ok (.aload_n 0, 1) := by decide +kernel
theorem dL_source_3 : decode cL_source 3 = .ok (.iload_n 1, 1) := by decide +kernel
theorem dL_source_4 : decode cL_source 4 = .ok (.invokevirtual 7, 3) := by decide +kernel
theorem dL_source_7 : decode cL_source 7 = .ok (.i2l, 1) := by decide +kernel
theorem dL_source_8 : decode cL_source 8 = .ok (.lastore, 1) := by decide +kernel
theorem dL_source_9 : decode cL_source 9 = .ok (.goto 9, 3) := by decide +kernel
theorem dL_source_12 : decode cL_source 12 = .ok (.astore_n 3, 1) := by decide +kernel
theorem dL_source_13 : decode cL_source 13 = .ok (.iconst 1, 1) := by decide +kernel
theorem dL_source_14 : decode cL_source 14 = .ok (.ireturn, 1) := by decide +kernel
theorem dL_source_15 : decode cL_source 15 = .ok (.astore_n 3, 1) := by decide +kernel
theorem dL_source_16 : decode cL_source 16 = .ok (.iconst 2, 1) := by decide +kernel
theorem dL_source_17 : decode cL_source 17 = .ok (.ireturn, 1) := by decide +kernel
theorem dL_source_18 : decode cL_source 18 = .ok (.iconst 0, 1) := by decide +kernel
theorem dL_source_19 : decode cL_source 19 = .ok (.ireturn, 1) := by decide +kernel
theorem dL_put_0 : decode cL_put 0 = .ok (.aload 4, 2) := by decide +kernel
theorem dL_put_2 : decode cL_put 2 = .ok (.iconst 0, 1) := by decide +kernel
theorem dL_put_3 : decode cL_put 3 = .ok (.aload_n 0, 1) := by decide +kernel
theorem dL_put_4 : decode cL_put 4 = .ok (.iload_n 1, 1) := by decide +kernel
theorem dL_put_5 : decode cL_put 5 = .ok (.iload_n 2, 1) := by decide +kernel
theorem dL_put_6 : decode cL_put 6 = .ok (.iload_n 3, 1) := by decide +kernel
theorem dL_put_7 : decode cL_put 7 = .ok (.invokevirtual 17, 3) := by decide +kernel
theorem dL_put_10 : decode cL_put 10 = .ok (.i2l, 1) := by decide +kernel
theorem dL_put_11 : decode cL_put 11 = .ok (.lastore, 1) := by decide +kernel
theorem dL_put_12 : decode cL_put 12 = .ok (.goto 11, 3) := by decide +kernel
theorem dL_put_15 : decode cL_put 15 = .ok (.astore 5, 2) := by decide +kernel
theorem dL_put_17 : decode cL_put 17 = .ok (.iconst 1, 1) := by decide +kernel
theorem dL_put_18 : decode cL_put 18 = .ok (.ireturn, 1) := by decide +kernel
theorem dL_put_19 : decode cL_put 19 = .ok (.astore 5, 2) := by decide +kernel
theorem dL_put_21 : decode cL_put 21 = .ok (.iconst 2, 1) := by decide +kernel
theorem dL_put_22 : decode cL_put 22 = .ok (.ireturn, 1) := by decide +kernel
theorem dL_put_23 : decode cL_put 23 = .ok (.iconst 0, 1) := by decide +kernel
theorem dL_put_24 : decode cL_put 24 = .ok (.ireturn, 1) := by decide +kernel
theorem dL_map_0 : decode cL_map 0 = .ok (.aload 4, 2) := by decide +kernel
theorem dL_map_2 : decode cL_map 2 = .ok (.iconst 0, 1) := by decide +kernel
theorem dL_map_3 : decode cL_map 3 = .ok (.aload_n 0, 1) := by decide +kernel
theorem dL_map_4 : decode cL_map 4 = .ok (.iload_n 1, 1) := by decide +kernel
theorem dL_map_5 : decode cL_map 5 = .ok (.iload_n 2, 1) := by decide +kernel
theorem dL_map_6 : decode cL_map 6 = .ok (.iload_n 3, 1) := by decide +kernel
theorem dL_map_7 : decode cL_map 7 = .ok (.invokevirtual 23, 3) := by decide +kernel
theorem dL_map_10 : decode cL_map 10 = .ok (.i2l, 1) := by decide +kernel
theorem dL_map_11 : decode cL_map 11 = .ok (.lastore, 1) := by decide +kernel
theorem dL_map_12 : decode cL_map 12 = .ok (.goto 15, 3) := by decide +kernel
theorem dL_map_15 : decode cL_map 15 = .ok (.astore 5, 2) := by decide +kernel
theorem dL_map_17 : decode cL_map 17 = .ok (.iconst 1, 1) := by decide +kernel
theorem dL_map_18 : decode cL_map 18 = .ok (.ireturn, 1) := by decide +kernel
theorem dL_map_19 : decode cL_map 19 = .ok (.astore 5, 2) := by decide +kernel
theorem dL_map_21 : decode cL_map 21 = .ok (.iconst 2, 1) := by decide +kernel
theorem dL_map_22 : decode cL_map 22 = .ok (.ireturn, 1) := by decide +kernel
theorem dL_map_23 : decode cL_map 23 = .ok (.astore 5, 2) := by decide +kernel
theorem dL_map_25 : decode cL_map 25 = .ok (.iconst 3, 1) := by decide +kernel
theorem dL_map_26 : decode cL_map 26 = .ok (.ireturn, 1) := by decide +kernel
theorem dL_map_27 : decode cL_map 27 = .ok (.iconst 0, 1) := by decide +kernel
theorem dL_map_28 : decode cL_map 28 = .ok (.ireturn, 1) := by decide +kernel
theorem dL_filter_0 : decode cL_filter 0 = .ok (.aload 4, 2) := by decide +kernel
theorem dL_filter_2 : decode cL_filter 2 = .ok (.iconst 0, 1) := by decide +kernel
theorem dL_filter_3 : decode cL_filter 3 = .ok (.aload_n 0, 1) := by decide +kernel
theorem dL_filter_4 : decode cL_filter 4 = .ok (.iload_n 1, 1) := by decide +kernel
theorem dL_filter_5 : decode cL_filter 5 = .ok (.iload_n 2, 1) := by decide +kernel
theorem dL_filter_6 : decode cL_filter 6 = .ok (.iload_n 3, 1) := by decide +kernel
theorem dL_filter_7 : decode cL_filter 7 = .ok (.invokevirtual 26, 3) := by decide +kernel
theorem dL_filter_10 : decode cL_filter 10 = .ok (.i2l, 1) := by decide +kernel
theorem dL_filter_11 : decode cL_filter 11 = .ok (.lastore, 1) := by decide +kernel
theorem dL_filter_12 : decode cL_filter 12 = .ok (.goto 11, 3) := by decide +kernel
theorem dL_filter_15 : decode cL_filter 15 = .ok (.astore 5, 2) := by decide +kernel
theorem dL_filter_17 : decode cL_filter 17 = .ok (.iconst 1, 1) := by decide +kernel
theorem dL_filter_18 : decode cL_filter 18 = .ok (.ireturn, 1) := by decide +kernel
theorem dL_filter_19 : decode cL_filter 19 = .ok (.astore 5, 2) := by decide +kernel
theorem dL_filter_21 : decode cL_filter 21 = .ok (.iconst 2, 1) := by decide +kernel
theorem dL_filter_22 : decode cL_filter 22 = .ok (.ireturn, 1) := by decide +kernel
theorem dL_filter_23 : decode cL_filter 23 = .ok (.iconst 0, 1) := by decide +kernel
theorem dL_filter_24 : decode cL_filter 24 = .ok (.ireturn, 1) := by decide +kernel
theorem dL_union_0 : decode cL_union 0 = .ok (.aload_n 3, 1) := by decide +kernel
theorem dL_union_1 : decode cL_union 1 = .ok (.iconst 0, 1) := by decide +kernel
theorem dL_union_2 : decode cL_union 2 = .ok (.aload_n 0, 1) := by decide +kernel
theorem dL_union_3 : decode cL_union 3 = .ok (.iload_n 1, 1) := by decide +kernel
theorem dL_union_4 : decode cL_union 4 = .ok (.iload_n 2, 1) := by decide +kernel
theorem dL_union_5 : decode cL_union 5 = .ok (.invokevirtual 29, 3) := by decide +kernel
theorem dL_union_8 : decode cL_union 8 = .ok (.i2l, 1) := by decide +kernel
theorem dL_union_9 : decode cL_union 9 = .ok (.lastore, 1) := by decide +kernel
theorem dL_union_10 : decode cL_union 10 = .ok (.goto 11, 3) := by decide +kernel
theorem dL_union_13 : decode cL_union 13 = .ok (.astore 4, 2) := by decide +kernel
theorem dL_union_15 : decode cL_union 15 = .ok (.iconst 1, 1) := by decide +kernel
theorem dL_union_16 : decode cL_union 16 = .ok (.ireturn, 1) := by decide +kernel
theorem dL_union_17 : decode cL_union 17 = .ok (.astore 4, 2) := by decide +kernel
theorem dL_union_19 : decode cL_union 19 = .ok (.iconst 2, 1) := by decide +kernel
theorem dL_union_20 : decode cL_union 20 = .ok (.ireturn, 1) := by decide +kernel
theorem dL_union_21 : decode cL_union 21 = .ok (.iconst 0, 1) := by decide +kernel
theorem dL_union_22 : decode cL_union 22 = .ok (.ireturn, 1) := by decide +kernel
theorem dL_group_0 : decode cL_group 0 = .ok (.aload 4, 2) := by decide +kernel
theorem dL_group_2 : decode cL_group 2 = .ok (.iconst 0, 1) := by decide +kernel
theorem dL_group_3 : decode cL_group 3 = .ok (.aload_n 0, 1) := by decide +kernel
theorem dL_group_4 : decode cL_group 4 = .ok (.iload_n 1, 1) := by decide +kernel
theorem dL_group_5 : decode cL_group 5 = .ok (.iload_n 2, 1) := by decide +kernel
theorem dL_group_6 : decode cL_group 6 = .ok (.iload_n 3, 1) := by decide +kernel
theorem dL_group_7 : decode cL_group 7 = .ok (.invokevirtual 33, 3) := by decide +kernel
theorem dL_group_10 : decode cL_group 10 = .ok (.i2l, 1) := by decide +kernel
theorem dL_group_11 : decode cL_group 11 = .ok (.lastore, 1) := by decide +kernel
theorem dL_group_12 : decode cL_group 12 = .ok (.goto 15, 3) := by decide +kernel
theorem dL_group_15 : decode cL_group 15 = .ok (.astore 5, 2) := by decide +kernel
theorem dL_group_17 : decode cL_group 17 = .ok (.iconst 1, 1) := by decide +kernel
theorem dL_group_18 : decode cL_group 18 = .ok (.ireturn, 1) := by decide +kernel
theorem dL_group_19 : decode cL_group 19 = .ok (.astore 5, 2) := by decide +kernel
theorem dL_group_21 : decode cL_group 21 = .ok (.iconst 2, 1) := by decide +kernel
theorem dL_group_22 : decode cL_group 22 = .ok (.ireturn, 1) := by decide +kernel
theorem dL_group_23 : decode cL_group 23 = .ok (.astore 5, 2) := by decide +kernel
theorem dL_group_25 : decode cL_group 25 = .ok (.iconst 3, 1) := by decide +kernel
theorem dL_group_26 : decode cL_group 26 = .ok (.ireturn, 1) := by decide +kernel
theorem dL_group_27 : decode cL_group 27 = .ok (.iconst 0, 1) := by decide +kernel
theorem dL_group_28 : decode cL_group 28 = .ok (.ireturn, 1) := by decide +kernel
theorem dL_join_0 : decode cL_join 0 = .ok (.aload 4, 2) := by decide +kernel
theorem dL_join_2 : decode cL_join 2 = .ok (.iconst 0, 1) := by decide +kernel
theorem dL_join_3 : decode cL_join 3 = .ok (.aload_n 0, 1) := by decide +kernel
theorem dL_join_4 : decode cL_join 4 = .ok (.iload_n 1, 1) := by decide +kernel
theorem dL_join_5 : decode cL_join 5 = .ok (.iload_n 2, 1) := by decide +kernel
theorem dL_join_6 : decode cL_join 6 = .ok (.iload_n 3, 1) := by decide +kernel
theorem dL_join_7 : decode cL_join 7 = .ok (.invokevirtual 36, 3) := by decide +kernel
theorem dL_join_10 : decode cL_join 10 = .ok (.i2l, 1) := by decide +kernel
theorem dL_join_11 : decode cL_join 11 = .ok (.lastore, 1) := by decide +kernel
theorem dL_join_12 : decode cL_join 12 = .ok (.goto 15, 3) := by decide +kernel
theorem dL_join_15 : decode cL_join 15 = .ok (.astore 5, 2) := by decide +kernel
theorem dL_join_17 : decode cL_join 17 = .ok (.iconst 1, 1) := by decide +kernel
theorem dL_join_18 : decode cL_join 18 = .ok (.ireturn, 1) := by decide +kernel
theorem dL_join_19 : decode cL_join 19 = .ok (.astore 5, 2) := by decide +kernel
theorem dL_join_21 : decode cL_join 21 = .ok (.iconst 2, 1) := by decide +kernel
theorem dL_join_22 : decode cL_join 22 = .ok (.ireturn, 1) := by decide +kernel
theorem dL_join_23 : decode cL_join 23 = .ok (.astore 5, 2) := by decide +kernel
theorem dL_join_25 : decode cL_join 25 = .ok (.iconst 3, 1) := by decide +kernel
theorem dL_join_26 : decode cL_join 26 = .ok (.ireturn, 1) := by decide +kernel
theorem dL_join_27 : decode cL_join 27 = .ok (.iconst 0, 1) := by decide +kernel
theorem dL_join_28 : decode cL_join 28 = .ok (.ireturn, 1) := by decide +kernel
theorem dL_partitions_0 : decode cL_partitions 0 = .ok (.aload_n 2, 1) := by decide +kernel
theorem dL_partitions_1 : decode cL_partitions 1 = .ok (.iconst 0, 1) := by decide +kernel
theorem dL_partitions_2 : decode cL_partitions 2 = .ok (.aload_n 0, 1) := by decide +kernel
theorem dL_partitions_3 : decode cL_partitions 3 = .ok (.iload_n 1, 1) := by decide +kernel
theorem dL_partitions_4 : decode cL_partitions 4 = .ok (.invokevirtual 39, 3) := by decide +kernel
theorem dL_partitions_7 : decode cL_partitions 7 = .ok (.i2l, 1) := by decide +kernel
theorem dL_partitions_8 : decode cL_partitions 8 = .ok (.lastore, 1) := by decide +kernel
theorem dL_partitions_9 : decode cL_partitions 9 = .ok (.goto 6, 3) := by decide +kernel
theorem dL_partitions_12 : decode cL_partitions 12 = .ok (.astore_n 3, 1) := by decide +kernel
theorem dL_partitions_13 : decode cL_partitions 13 = .ok (.iconst 1, 1) := by decide +kernel
theorem dL_partitions_14 : decode cL_partitions 14 = .ok (.ireturn, 1) := by decide +kernel
theorem dL_partitions_15 : decode cL_partitions 15 = .ok (.iconst 0, 1) := by decide +kernel
theorem dL_partitions_16 : decode cL_partitions 16 = .ok (.ireturn, 1) := by decide +kernel
theorem dL_rowsIn_0 : decode cL_rowsIn 0 = .ok (.aload_n 3, 1) := by decide +kernel
theorem dL_rowsIn_1 : decode cL_rowsIn 1 = .ok (.iconst 0, 1) := by decide +kernel
theorem dL_rowsIn_2 : decode cL_rowsIn 2 = .ok (.aload_n 0, 1) := by decide +kernel
theorem dL_rowsIn_3 : decode cL_rowsIn 3 = .ok (.iload_n 1, 1) := by decide +kernel
theorem dL_rowsIn_4 : decode cL_rowsIn 4 = .ok (.iload_n 2, 1) := by decide +kernel
theorem dL_rowsIn_5 : decode cL_rowsIn 5 = .ok (.invokevirtual 42, 3) := by decide +kernel
theorem dL_rowsIn_8 : decode cL_rowsIn 8 = .ok (.i2l, 1) := by decide +kernel
theorem dL_rowsIn_9 : decode cL_rowsIn 9 = .ok (.lastore, 1) := by decide +kernel
theorem dL_rowsIn_10 : decode cL_rowsIn 10 = .ok (.goto 7, 3) := by decide +kernel
theorem dL_rowsIn_13 : decode cL_rowsIn 13 = .ok (.astore 4, 2) := by decide +kernel
theorem dL_rowsIn_15 : decode cL_rowsIn 15 = .ok (.iconst 1, 1) := by decide +kernel
theorem dL_rowsIn_16 : decode cL_rowsIn 16 = .ok (.ireturn, 1) := by decide +kernel
theorem dL_rowsIn_17 : decode cL_rowsIn 17 = .ok (.iconst 0, 1) := by decide +kernel
theorem dL_rowsIn_18 : decode cL_rowsIn 18 = .ok (.ireturn, 1) := by decide +kernel
theorem dL_rows_0 : decode cL_rows 0 = .ok (.aload_n 2, 1) := by decide +kernel
theorem dL_rows_1 : decode cL_rows 1 = .ok (.iconst 0, 1) := by decide +kernel
theorem dL_rows_2 : decode cL_rows 2 = .ok (.aload_n 0, 1) := by decide +kernel
theorem dL_rows_3 : decode cL_rows 3 = .ok (.iload_n 1, 1) := by decide +kernel
theorem dL_rows_4 : decode cL_rows 4 = .ok (.invokevirtual 45, 3) := by decide +kernel
theorem dL_rows_7 : decode cL_rows 7 = .ok (.i2l, 1) := by decide +kernel
theorem dL_rows_8 : decode cL_rows 8 = .ok (.lastore, 1) := by decide +kernel
theorem dL_rows_9 : decode cL_rows 9 = .ok (.goto 6, 3) := by decide +kernel
theorem dL_rows_12 : decode cL_rows 12 = .ok (.astore_n 3, 1) := by decide +kernel
theorem dL_rows_13 : decode cL_rows 13 = .ok (.iconst 1, 1) := by decide +kernel
theorem dL_rows_14 : decode cL_rows 14 = .ok (.ireturn, 1) := by decide +kernel
theorem dL_rows_15 : decode cL_rows 15 = .ok (.iconst 0, 1) := by decide +kernel
theorem dL_rows_16 : decode cL_rows 16 = .ok (.ireturn, 1) := by decide +kernel
theorem dL_keyAt_0 : decode cL_keyAt 0 = .ok (.aload 4, 2) := by decide +kernel
theorem dL_keyAt_2 : decode cL_keyAt 2 = .ok (.iconst 0, 1) := by decide +kernel
theorem dL_keyAt_3 : decode cL_keyAt 3 = .ok (.aload_n 0, 1) := by decide +kernel
theorem dL_keyAt_4 : decode cL_keyAt 4 = .ok (.iload_n 1, 1) := by decide +kernel
theorem dL_keyAt_5 : decode cL_keyAt 5 = .ok (.iload_n 2, 1) := by decide +kernel
theorem dL_keyAt_6 : decode cL_keyAt 6 = .ok (.iload_n 3, 1) := by decide +kernel
theorem dL_keyAt_7 : decode cL_keyAt 7 = .ok (.invokevirtual 48, 3) := by decide +kernel
theorem dL_keyAt_10 : decode cL_keyAt 10 = .ok (.i2l, 1) := by decide +kernel
theorem dL_keyAt_11 : decode cL_keyAt 11 = .ok (.lastore, 1) := by decide +kernel
theorem dL_keyAt_12 : decode cL_keyAt 12 = .ok (.goto 7, 3) := by decide +kernel
theorem dL_keyAt_15 : decode cL_keyAt 15 = .ok (.astore 5, 2) := by decide +kernel
theorem dL_keyAt_17 : decode cL_keyAt 17 = .ok (.iconst 1, 1) := by decide +kernel
theorem dL_keyAt_18 : decode cL_keyAt 18 = .ok (.ireturn, 1) := by decide +kernel
theorem dL_keyAt_19 : decode cL_keyAt 19 = .ok (.iconst 0, 1) := by decide +kernel
theorem dL_keyAt_20 : decode cL_keyAt 20 = .ok (.ireturn, 1) := by decide +kernel
theorem dL_valueAt_0 : decode cL_valueAt 0 = .ok (.aload 4, 2) := by decide +kernel
theorem dL_valueAt_2 : decode cL_valueAt 2 = .ok (.iconst 0, 1) := by decide +kernel
theorem dL_valueAt_3 : decode cL_valueAt 3 = .ok (.aload_n 0, 1) := by decide +kernel
theorem dL_valueAt_4 : decode cL_valueAt 4 = .ok (.iload_n 1, 1) := by decide +kernel
theorem dL_valueAt_5 : decode cL_valueAt 5 = .ok (.iload_n 2, 1) := by decide +kernel
theorem dL_valueAt_6 : decode cL_valueAt 6 = .ok (.iload_n 3, 1) := by decide +kernel
theorem dL_valueAt_7 : decode cL_valueAt 7 = .ok (.invokevirtual 51, 3) := by decide +kernel
theorem dL_valueAt_10 : decode cL_valueAt 10 = .ok (.i2l, 1) := by decide +kernel
theorem dL_valueAt_11 : decode cL_valueAt 11 = .ok (.lastore, 1) := by decide +kernel
theorem dL_valueAt_12 : decode cL_valueAt 12 = .ok (.goto 7, 3) := by decide +kernel
theorem dL_valueAt_15 : decode cL_valueAt 15 = .ok (.astore 5, 2) := by decide +kernel
theorem dL_valueAt_17 : decode cL_valueAt 17 = .ok (.iconst 1, 1) := by decide +kernel
theorem dL_valueAt_18 : decode cL_valueAt 18 = .ok (.ireturn, 1) := by decide +kernel
theorem dL_valueAt_19 : decode cL_valueAt 19 = .ok (.iconst 0, 1) := by decide +kernel
theorem dL_valueAt_20 : decode cL_valueAt 20 = .ok (.ireturn, 1) := by decide +kernel
theorem dL_isBroad_0 : decode cL_isBroad 0 = .ok (.aload_n 2, 1) := by decide +kernel
theorem dL_isBroad_1 : decode cL_isBroad 1 = .ok (.iconst 0, 1) := by decide +kernel
theorem dL_isBroad_2 : decode cL_isBroad 2 = .ok (.aload_n 0, 1) := by decide +kernel
theorem dL_isBroad_3 : decode cL_isBroad 3 = .ok (.iload_n 1, 1) := by decide +kernel
theorem dL_isBroad_4 : decode cL_isBroad 4 = .ok (.invokevirtual 54, 3) := by decide +kernel
theorem dL_isBroad_7 : decode cL_isBroad 7 = .ok (.ifCond .eq 7, 3) := by decide +kernel
theorem dL_isBroad_10 : decode cL_isBroad 10 = .ok (.lconst 1, 1) := by decide +kernel
theorem dL_isBroad_11 : decode cL_isBroad 11 = .ok (.goto 4, 3) := by decide +kernel
theorem dL_isBroad_14 : decode cL_isBroad 14 = .ok (.lconst 0, 1) := by decide +kernel
theorem dL_isBroad_15 : decode cL_isBroad 15 = .ok (.lastore, 1) := by decide +kernel
theorem dL_isBroad_16 : decode cL_isBroad 16 = .ok (.goto 9, 3) := by decide +kernel
theorem dL_isBroad_19 : decode cL_isBroad 19 = .ok (.astore_n 3, 1) := by decide +kernel
theorem dL_isBroad_20 : decode cL_isBroad 20 = .ok (.iconst 1, 1) := by decide +kernel
theorem dL_isBroad_21 : decode cL_isBroad 21 = .ok (.ireturn, 1) := by decide +kernel
theorem dL_isBroad_22 : decode cL_isBroad 22 = .ok (.astore_n 3, 1) := by decide +kernel
theorem dL_isBroad_23 : decode cL_isBroad 23 = .ok (.iconst 2, 1) := by decide +kernel
theorem dL_isBroad_24 : decode cL_isBroad 24 = .ok (.ireturn, 1) := by decide +kernel
theorem dL_isBroad_25 : decode cL_isBroad 25 = .ok (.iconst 0, 1) := by decide +kernel
theorem dL_isBroad_26 : decode cL_isBroad 26 = .ok (.ireturn, 1) := by decide +kernel
theorem dL_digest_0 : decode cL_digest 0 = .ok (.aload_n 2, 1) := by decide +kernel
theorem dL_digest_1 : decode cL_digest 1 = .ok (.iconst 0, 1) := by decide +kernel
theorem dL_digest_2 : decode cL_digest 2 = .ok (.aload_n 0, 1) := by decide +kernel
theorem dL_digest_3 : decode cL_digest 3 = .ok (.iload_n 1, 1) := by decide +kernel
theorem dL_digest_4 : decode cL_digest 4 = .ok (.invokevirtual 58, 3) := by decide +kernel
theorem dL_digest_7 : decode cL_digest 7 = .ok (.i2l, 1) := by decide +kernel
theorem dL_digest_8 : decode cL_digest 8 = .ok (.lastore, 1) := by decide +kernel
theorem dL_digest_9 : decode cL_digest 9 = .ok (.goto 6, 3) := by decide +kernel
theorem dL_digest_12 : decode cL_digest 12 = .ok (.astore_n 3, 1) := by decide +kernel
theorem dL_digest_13 : decode cL_digest 13 = .ok (.iconst 1, 1) := by decide +kernel
theorem dL_digest_14 : decode cL_digest 14 = .ok (.ireturn, 1) := by decide +kernel
theorem dL_digest_15 : decode cL_digest 15 = .ok (.iconst 0, 1) := by decide +kernel
theorem dL_digest_16 : decode cL_digest 16 = .ok (.ireturn, 1) := by decide +kernel
theorem dL_digestInPlace_0 : decode cL_digestInPlace 0 = .ok (.aload_n 2, 1) := by decide +kernel
theorem dL_digestInPlace_1 : decode cL_digestInPlace 1 = .ok (.iconst 0, 1) := by decide +kernel
theorem dL_digestInPlace_2 : decode cL_digestInPlace 2 = .ok (.aload_n 0, 1) := by decide +kernel
theorem dL_digestInPlace_3 : decode cL_digestInPlace 3 = .ok (.iload_n 1, 1) := by decide +kernel
theorem dL_digestInPlace_4 : decode cL_digestInPlace 4 = .ok (.invokevirtual 61, 3) := by decide +kernel
theorem dL_digestInPlace_7 : decode cL_digestInPlace 7 = .ok (.i2l, 1) := by decide +kernel
theorem dL_digestInPlace_8 : decode cL_digestInPlace 8 = .ok (.lastore, 1) := by decide +kernel
theorem dL_digestInPlace_9 : decode cL_digestInPlace 9 = .ok (.goto 6, 3) := by decide +kernel
theorem dL_digestInPlace_12 : decode cL_digestInPlace 12 = .ok (.astore_n 3, 1) := by decide +kernel
theorem dL_digestInPlace_13 : decode cL_digestInPlace 13 = .ok (.iconst 1, 1) := by decide +kernel
theorem dL_digestInPlace_14 : decode cL_digestInPlace 14 = .ok (.ireturn, 1) := by decide +kernel
theorem dL_digestInPlace_15 : decode cL_digestInPlace 15 = .ok (.iconst 0, 1) := by decide +kernel
theorem dL_digestInPlace_16 : decode cL_digestInPlace 16 = .ok (.ireturn, 1) := by decide +kernel
theorem dL_setWorkers_0 : decode cL_setWorkers 0 = .ok (.aload_n 2, 1) := by decide +kernel
theorem dL_setWorkers_1 : decode cL_setWorkers 1 = .ok (.iconst 0, 1) := by decide +kernel
theorem dL_setWorkers_2 : decode cL_setWorkers 2 = .ok (.aload_n 0, 1) := by decide +kernel
theorem dL_setWorkers_3 : decode cL_setWorkers 3 = .ok (.iload_n 1, 1) := by decide +kernel
theorem dL_setWorkers_4 : decode cL_setWorkers 4 = .ok (.invokevirtual 64, 3) := by decide +kernel
theorem dL_setWorkers_7 : decode cL_setWorkers 7 = .ok (.i2l, 1) := by decide +kernel
theorem dL_setWorkers_8 : decode cL_setWorkers 8 = .ok (.lastore, 1) := by decide +kernel
theorem dL_setWorkers_9 : decode cL_setWorkers 9 = .ok (.goto 6, 3) := by decide +kernel
theorem dL_setWorkers_12 : decode cL_setWorkers 12 = .ok (.astore_n 3, 1) := by decide +kernel
theorem dL_setWorkers_13 : decode cL_setWorkers 13 = .ok (.iconst 1, 1) := by decide +kernel
theorem dL_setWorkers_14 : decode cL_setWorkers 14 = .ok (.ireturn, 1) := by decide +kernel
theorem dL_setWorkers_15 : decode cL_setWorkers 15 = .ok (.iconst 0, 1) := by decide +kernel
theorem dL_setWorkers_16 : decode cL_setWorkers 16 = .ok (.ireturn, 1) := by decide +kernel
theorem dL_setSlowness_0 : decode cL_setSlowness 0 = .ok (.aload_n 3, 1) := by decide +kernel
theorem dL_setSlowness_1 : decode cL_setSlowness 1 = .ok (.iconst 0, 1) := by decide +kernel
theorem dL_setSlowness_2 : decode cL_setSlowness 2 = .ok (.aload_n 0, 1) := by decide +kernel
theorem dL_setSlowness_3 : decode cL_setSlowness 3 = .ok (.iload_n 1, 1) := by decide +kernel
theorem dL_setSlowness_4 : decode cL_setSlowness 4 = .ok (.iload_n 2, 1) := by decide +kernel
theorem dL_setSlowness_5 : decode cL_setSlowness 5 = .ok (.invokevirtual 67, 3) := by decide +kernel
theorem dL_setSlowness_8 : decode cL_setSlowness 8 = .ok (.i2l, 1) := by decide +kernel
theorem dL_setSlowness_9 : decode cL_setSlowness 9 = .ok (.lastore, 1) := by decide +kernel
theorem dL_setSlowness_10 : decode cL_setSlowness 10 = .ok (.goto 11, 3) := by decide +kernel
theorem dL_setSlowness_13 : decode cL_setSlowness 13 = .ok (.astore 4, 2) := by decide +kernel
theorem dL_setSlowness_15 : decode cL_setSlowness 15 = .ok (.iconst 1, 1) := by decide +kernel
theorem dL_setSlowness_16 : decode cL_setSlowness 16 = .ok (.ireturn, 1) := by decide +kernel
theorem dL_setSlowness_17 : decode cL_setSlowness 17 = .ok (.astore 4, 2) := by decide +kernel
theorem dL_setSlowness_19 : decode cL_setSlowness 19 = .ok (.iconst 2, 1) := by decide +kernel
theorem dL_setSlowness_20 : decode cL_setSlowness 20 = .ok (.ireturn, 1) := by decide +kernel
theorem dL_setSlowness_21 : decode cL_setSlowness 21 = .ok (.iconst 0, 1) := by decide +kernel
theorem dL_setSlowness_22 : decode cL_setSlowness 22 = .ok (.ireturn, 1) := by decide +kernel
theorem dL_setMemory_0 : decode cL_setMemory 0 = .ok (.aload_n 2, 1) := by decide +kernel
theorem dL_setMemory_1 : decode cL_setMemory 1 = .ok (.iconst 0, 1) := by decide +kernel
theorem dL_setMemory_2 : decode cL_setMemory 2 = .ok (.aload_n 0, 1) := by decide +kernel
theorem dL_setMemory_3 : decode cL_setMemory 3 = .ok (.iload_n 1, 1) := by decide +kernel
theorem dL_setMemory_4 : decode cL_setMemory 4 = .ok (.invokevirtual 70, 3) := by decide +kernel
theorem dL_setMemory_7 : decode cL_setMemory 7 = .ok (.i2l, 1) := by decide +kernel
theorem dL_setMemory_8 : decode cL_setMemory 8 = .ok (.lastore, 1) := by decide +kernel
theorem dL_setMemory_9 : decode cL_setMemory 9 = .ok (.goto 6, 3) := by decide +kernel
theorem dL_setMemory_12 : decode cL_setMemory 12 = .ok (.astore_n 3, 1) := by decide +kernel
theorem dL_setMemory_13 : decode cL_setMemory 13 = .ok (.iconst 1, 1) := by decide +kernel
theorem dL_setMemory_14 : decode cL_setMemory 14 = .ok (.ireturn, 1) := by decide +kernel
theorem dL_setMemory_15 : decode cL_setMemory 15 = .ok (.iconst 0, 1) := by decide +kernel
theorem dL_setMemory_16 : decode cL_setMemory 16 = .ok (.ireturn, 1) := by decide +kernel
theorem dL_setLimit_0 : decode cL_setLimit 0 = .ok (.aload_n 2, 1) := by decide +kernel
theorem dL_setLimit_1 : decode cL_setLimit 1 = .ok (.iconst 0, 1) := by decide +kernel
theorem dL_setLimit_2 : decode cL_setLimit 2 = .ok (.aload_n 0, 1) := by decide +kernel
theorem dL_setLimit_3 : decode cL_setLimit 3 = .ok (.iload_n 1, 1) := by decide +kernel
theorem dL_setLimit_4 : decode cL_setLimit 4 = .ok (.invokevirtual 73, 3) := by decide +kernel
theorem dL_setLimit_7 : decode cL_setLimit 7 = .ok (.i2l, 1) := by decide +kernel
theorem dL_setLimit_8 : decode cL_setLimit 8 = .ok (.lastore, 1) := by decide +kernel
theorem dL_setLimit_9 : decode cL_setLimit 9 = .ok (.goto 6, 3) := by decide +kernel
theorem dL_setLimit_12 : decode cL_setLimit 12 = .ok (.astore_n 3, 1) := by decide +kernel
theorem dL_setLimit_13 : decode cL_setLimit 13 = .ok (.iconst 1, 1) := by decide +kernel
theorem dL_setLimit_14 : decode cL_setLimit 14 = .ok (.ireturn, 1) := by decide +kernel
theorem dL_setLimit_15 : decode cL_setLimit 15 = .ok (.iconst 0, 1) := by decide +kernel
theorem dL_setLimit_16 : decode cL_setLimit 16 = .ok (.ireturn, 1) := by decide +kernel
theorem dL_setRoom_0 : decode cL_setRoom 0 = .ok (.aload_n 2, 1) := by decide +kernel
theorem dL_setRoom_1 : decode cL_setRoom 1 = .ok (.iconst 0, 1) := by decide +kernel
theorem dL_setRoom_2 : decode cL_setRoom 2 = .ok (.aload_n 0, 1) := by decide +kernel
theorem dL_setRoom_3 : decode cL_setRoom 3 = .ok (.iload_n 1, 1) := by decide +kernel
theorem dL_setRoom_4 : decode cL_setRoom 4 = .ok (.invokevirtual 76, 3) := by decide +kernel
theorem dL_setRoom_7 : decode cL_setRoom 7 = .ok (.i2l, 1) := by decide +kernel
theorem dL_setRoom_8 : decode cL_setRoom 8 = .ok (.lastore, 1) := by decide +kernel
theorem dL_setRoom_9 : decode cL_setRoom 9 = .ok (.goto 6, 3) := by decide +kernel
theorem dL_setRoom_12 : decode cL_setRoom 12 = .ok (.astore_n 3, 1) := by decide +kernel
theorem dL_setRoom_13 : decode cL_setRoom 13 = .ok (.iconst 1, 1) := by decide +kernel
theorem dL_setRoom_14 : decode cL_setRoom 14 = .ok (.ireturn, 1) := by decide +kernel
theorem dL_setRoom_15 : decode cL_setRoom 15 = .ok (.iconst 0, 1) := by decide +kernel
theorem dL_setRoom_16 : decode cL_setRoom 16 = .ok (.ireturn, 1) := by decide +kernel
theorem dL_mark_0 : decode cL_mark 0 = .ok (.aload_n 3, 1) := by decide +kernel
theorem dL_mark_1 : decode cL_mark 1 = .ok (.iconst 0, 1) := by decide +kernel
theorem dL_mark_2 : decode cL_mark 2 = .ok (.aload_n 0, 1) := by decide +kernel
theorem dL_mark_3 : decode cL_mark 3 = .ok (.iload_n 1, 1) := by decide +kernel
theorem dL_mark_4 : decode cL_mark 4 = .ok (.iload_n 2, 1) := by decide +kernel
theorem dL_mark_5 : decode cL_mark 5 = .ok (.invokevirtual 79, 3) := by decide +kernel
theorem dL_mark_8 : decode cL_mark 8 = .ok (.ifCond .eq 7, 3) := by decide +kernel
theorem dL_mark_11 : decode cL_mark 11 = .ok (.lconst 1, 1) := by decide +kernel
theorem dL_mark_12 : decode cL_mark 12 = .ok (.goto 4, 3) := by decide +kernel
theorem dL_mark_15 : decode cL_mark 15 = .ok (.lconst 0, 1) := by decide +kernel
theorem dL_mark_16 : decode cL_mark 16 = .ok (.lastore, 1) := by decide +kernel
theorem dL_mark_17 : decode cL_mark 17 = .ok (.goto 7, 3) := by decide +kernel
theorem dL_mark_20 : decode cL_mark 20 = .ok (.astore 4, 2) := by decide +kernel
theorem dL_mark_22 : decode cL_mark 22 = .ok (.iconst 1, 1) := by decide +kernel
theorem dL_mark_23 : decode cL_mark 23 = .ok (.ireturn, 1) := by decide +kernel
theorem dL_mark_24 : decode cL_mark 24 = .ok (.iconst 0, 1) := by decide +kernel
theorem dL_mark_25 : decode cL_mark 25 = .ok (.ireturn, 1) := by decide +kernel
theorem dL_isCached_0 : decode cL_isCached 0 = .ok (.aload_n 2, 1) := by decide +kernel
theorem dL_isCached_1 : decode cL_isCached 1 = .ok (.iconst 0, 1) := by decide +kernel
theorem dL_isCached_2 : decode cL_isCached 2 = .ok (.aload_n 0, 1) := by decide +kernel
theorem dL_isCached_3 : decode cL_isCached 3 = .ok (.iload_n 1, 1) := by decide +kernel
theorem dL_isCached_4 : decode cL_isCached 4 = .ok (.invokevirtual 83, 3) := by decide +kernel
theorem dL_isCached_7 : decode cL_isCached 7 = .ok (.ifCond .eq 7, 3) := by decide +kernel
theorem dL_isCached_10 : decode cL_isCached 10 = .ok (.lconst 1, 1) := by decide +kernel
theorem dL_isCached_11 : decode cL_isCached 11 = .ok (.goto 4, 3) := by decide +kernel
theorem dL_isCached_14 : decode cL_isCached 14 = .ok (.lconst 0, 1) := by decide +kernel
theorem dL_isCached_15 : decode cL_isCached 15 = .ok (.lastore, 1) := by decide +kernel
theorem dL_isCached_16 : decode cL_isCached 16 = .ok (.goto 6, 3) := by decide +kernel
theorem dL_isCached_19 : decode cL_isCached 19 = .ok (.astore_n 3, 1) := by decide +kernel
theorem dL_isCached_20 : decode cL_isCached 20 = .ok (.iconst 1, 1) := by decide +kernel
theorem dL_isCached_21 : decode cL_isCached 21 = .ok (.ireturn, 1) := by decide +kernel
theorem dL_isCached_22 : decode cL_isCached 22 = .ok (.iconst 0, 1) := by decide +kernel
theorem dL_isCached_23 : decode cL_isCached 23 = .ok (.ireturn, 1) := by decide +kernel
theorem dL_stages_0 : decode cL_stages 0 = .ok (.aload_n 2, 1) := by decide +kernel
theorem dL_stages_1 : decode cL_stages 1 = .ok (.iconst 0, 1) := by decide +kernel
theorem dL_stages_2 : decode cL_stages 2 = .ok (.aload_n 0, 1) := by decide +kernel
theorem dL_stages_3 : decode cL_stages 3 = .ok (.iload_n 1, 1) := by decide +kernel
theorem dL_stages_4 : decode cL_stages 4 = .ok (.invokevirtual 86, 3) := by decide +kernel
theorem dL_stages_7 : decode cL_stages 7 = .ok (.i2l, 1) := by decide +kernel
theorem dL_stages_8 : decode cL_stages 8 = .ok (.lastore, 1) := by decide +kernel
theorem dL_stages_9 : decode cL_stages 9 = .ok (.goto 6, 3) := by decide +kernel
theorem dL_stages_12 : decode cL_stages 12 = .ok (.astore_n 3, 1) := by decide +kernel
theorem dL_stages_13 : decode cL_stages 13 = .ok (.iconst 1, 1) := by decide +kernel
theorem dL_stages_14 : decode cL_stages 14 = .ok (.ireturn, 1) := by decide +kernel
theorem dL_stages_15 : decode cL_stages 15 = .ok (.iconst 0, 1) := by decide +kernel
theorem dL_stages_16 : decode cL_stages 16 = .ok (.ireturn, 1) := by decide +kernel
theorem dL_outputOf_0 : decode cL_outputOf 0 = .ok (.aload_n 3, 1) := by decide +kernel
theorem dL_outputOf_1 : decode cL_outputOf 1 = .ok (.iconst 0, 1) := by decide +kernel
theorem dL_outputOf_2 : decode cL_outputOf 2 = .ok (.aload_n 0, 1) := by decide +kernel
theorem dL_outputOf_3 : decode cL_outputOf 3 = .ok (.iload_n 1, 1) := by decide +kernel
theorem dL_outputOf_4 : decode cL_outputOf 4 = .ok (.iload_n 2, 1) := by decide +kernel
theorem dL_outputOf_5 : decode cL_outputOf 5 = .ok (.invokevirtual 89, 3) := by decide +kernel
theorem dL_outputOf_8 : decode cL_outputOf 8 = .ok (.i2l, 1) := by decide +kernel
theorem dL_outputOf_9 : decode cL_outputOf 9 = .ok (.lastore, 1) := by decide +kernel
theorem dL_outputOf_10 : decode cL_outputOf 10 = .ok (.goto 7, 3) := by decide +kernel
theorem dL_outputOf_13 : decode cL_outputOf 13 = .ok (.astore 4, 2) := by decide +kernel
theorem dL_outputOf_15 : decode cL_outputOf 15 = .ok (.iconst 1, 1) := by decide +kernel
theorem dL_outputOf_16 : decode cL_outputOf 16 = .ok (.ireturn, 1) := by decide +kernel
theorem dL_outputOf_17 : decode cL_outputOf 17 = .ok (.iconst 0, 1) := by decide +kernel
theorem dL_outputOf_18 : decode cL_outputOf 18 = .ok (.ireturn, 1) := by decide +kernel
theorem dL_run_0 : decode cL_run 0 = .ok (.aload_n 2, 1) := by decide +kernel
theorem dL_run_1 : decode cL_run 1 = .ok (.iconst 0, 1) := by decide +kernel
theorem dL_run_2 : decode cL_run 2 = .ok (.aload_n 0, 1) := by decide +kernel
theorem dL_run_3 : decode cL_run 3 = .ok (.iload_n 1, 1) := by decide +kernel
theorem dL_run_4 : decode cL_run 4 = .ok (.invokevirtual 92, 3) := by decide +kernel
theorem dL_run_7 : decode cL_run 7 = .ok (.i2l, 1) := by decide +kernel
theorem dL_run_8 : decode cL_run 8 = .ok (.lastore, 1) := by decide +kernel
theorem dL_run_9 : decode cL_run 9 = .ok (.goto 6, 3) := by decide +kernel
theorem dL_run_12 : decode cL_run 12 = .ok (.astore_n 3, 1) := by decide +kernel
theorem dL_run_13 : decode cL_run 13 = .ok (.iconst 1, 1) := by decide +kernel
theorem dL_run_14 : decode cL_run 14 = .ok (.ireturn, 1) := by decide +kernel
theorem dL_run_15 : decode cL_run 15 = .ok (.iconst 0, 1) := by decide +kernel
theorem dL_run_16 : decode cL_run 16 = .ok (.ireturn, 1) := by decide +kernel
theorem dL_nodeOf_0 : decode cL_nodeOf 0 = .ok (.aload_n 2, 1) := by decide +kernel
theorem dL_nodeOf_1 : decode cL_nodeOf 1 = .ok (.iconst 0, 1) := by decide +kernel
theorem dL_nodeOf_2 : decode cL_nodeOf 2 = .ok (.aload_n 0, 1) := by decide +kernel
theorem dL_nodeOf_3 : decode cL_nodeOf 3 = .ok (.iload_n 1, 1) := by decide +kernel
theorem dL_nodeOf_4 : decode cL_nodeOf 4 = .ok (.invokevirtual 95, 3) := by decide +kernel
theorem dL_nodeOf_7 : decode cL_nodeOf 7 = .ok (.i2l, 1) := by decide +kernel
theorem dL_nodeOf_8 : decode cL_nodeOf 8 = .ok (.lastore, 1) := by decide +kernel
theorem dL_nodeOf_9 : decode cL_nodeOf 9 = .ok (.goto 6, 3) := by decide +kernel
theorem dL_nodeOf_12 : decode cL_nodeOf 12 = .ok (.astore_n 3, 1) := by decide +kernel
theorem dL_nodeOf_13 : decode cL_nodeOf 13 = .ok (.iconst 1, 1) := by decide +kernel
theorem dL_nodeOf_14 : decode cL_nodeOf 14 = .ok (.ireturn, 1) := by decide +kernel
theorem dL_nodeOf_15 : decode cL_nodeOf 15 = .ok (.iconst 0, 1) := by decide +kernel
theorem dL_nodeOf_16 : decode cL_nodeOf 16 = .ok (.ireturn, 1) := by decide +kernel
theorem dL_partitionOf_0 : decode cL_partitionOf 0 = .ok (.aload_n 2, 1) := by decide +kernel
theorem dL_partitionOf_1 : decode cL_partitionOf 1 = .ok (.iconst 0, 1) := by decide +kernel
theorem dL_partitionOf_2 : decode cL_partitionOf 2 = .ok (.aload_n 0, 1) := by decide +kernel
theorem dL_partitionOf_3 : decode cL_partitionOf 3 = .ok (.iload_n 1, 1) := by decide +kernel
theorem dL_partitionOf_4 : decode cL_partitionOf 4 = .ok (.invokevirtual 98, 3) := by decide +kernel
theorem dL_partitionOf_7 : decode cL_partitionOf 7 = .ok (.i2l, 1) := by decide +kernel
theorem dL_partitionOf_8 : decode cL_partitionOf 8 = .ok (.lastore, 1) := by decide +kernel
theorem dL_partitionOf_9 : decode cL_partitionOf 9 = .ok (.goto 6, 3) := by decide +kernel
theorem dL_partitionOf_12 : decode cL_partitionOf 12 = .ok (.astore_n 3, 1) := by decide +kernel
theorem dL_partitionOf_13 : decode cL_partitionOf 13 = .ok (.iconst 1, 1) := by decide +kernel
theorem dL_partitionOf_14 : decode cL_partitionOf 14 = .ok (.ireturn, 1) := by decide +kernel
theorem dL_partitionOf_15 : decode cL_partitionOf 15 = .ok (.iconst 0, 1) := by decide +kernel
theorem dL_partitionOf_16 : decode cL_partitionOf 16 = .ok (.ireturn, 1) := by decide +kernel
theorem dL_workerOf_0 : decode cL_workerOf 0 = .ok (.aload_n 2, 1) := by decide +kernel
theorem dL_workerOf_1 : decode cL_workerOf 1 = .ok (.iconst 0, 1) := by decide +kernel
theorem dL_workerOf_2 : decode cL_workerOf 2 = .ok (.aload_n 0, 1) := by decide +kernel
theorem dL_workerOf_3 : decode cL_workerOf 3 = .ok (.iload_n 1, 1) := by decide +kernel
theorem dL_workerOf_4 : decode cL_workerOf 4 = .ok (.invokevirtual 101, 3) := by decide +kernel
theorem dL_workerOf_7 : decode cL_workerOf 7 = .ok (.i2l, 1) := by decide +kernel
theorem dL_workerOf_8 : decode cL_workerOf 8 = .ok (.lastore, 1) := by decide +kernel
theorem dL_workerOf_9 : decode cL_workerOf 9 = .ok (.goto 6, 3) := by decide +kernel
theorem dL_workerOf_12 : decode cL_workerOf 12 = .ok (.astore_n 3, 1) := by decide +kernel
theorem dL_workerOf_13 : decode cL_workerOf 13 = .ok (.iconst 1, 1) := by decide +kernel
theorem dL_workerOf_14 : decode cL_workerOf 14 = .ok (.ireturn, 1) := by decide +kernel
theorem dL_workerOf_15 : decode cL_workerOf 15 = .ok (.iconst 0, 1) := by decide +kernel
theorem dL_workerOf_16 : decode cL_workerOf 16 = .ok (.ireturn, 1) := by decide +kernel
theorem dL_startOf_0 : decode cL_startOf 0 = .ok (.aload_n 2, 1) := by decide +kernel
theorem dL_startOf_1 : decode cL_startOf 1 = .ok (.iconst 0, 1) := by decide +kernel
theorem dL_startOf_2 : decode cL_startOf 2 = .ok (.aload_n 0, 1) := by decide +kernel
theorem dL_startOf_3 : decode cL_startOf 3 = .ok (.iload_n 1, 1) := by decide +kernel
theorem dL_startOf_4 : decode cL_startOf 4 = .ok (.invokevirtual 104, 3) := by decide +kernel
theorem dL_startOf_7 : decode cL_startOf 7 = .ok (.i2l, 1) := by decide +kernel
theorem dL_startOf_8 : decode cL_startOf 8 = .ok (.lastore, 1) := by decide +kernel
theorem dL_startOf_9 : decode cL_startOf 9 = .ok (.goto 6, 3) := by decide +kernel
theorem dL_startOf_12 : decode cL_startOf 12 = .ok (.astore_n 3, 1) := by decide +kernel
theorem dL_startOf_13 : decode cL_startOf 13 = .ok (.iconst 1, 1) := by decide +kernel
theorem dL_startOf_14 : decode cL_startOf 14 = .ok (.ireturn, 1) := by decide +kernel
theorem dL_startOf_15 : decode cL_startOf 15 = .ok (.iconst 0, 1) := by decide +kernel
theorem dL_startOf_16 : decode cL_startOf 16 = .ok (.ireturn, 1) := by decide +kernel
theorem dL_endOf_0 : decode cL_endOf 0 = .ok (.aload_n 2, 1) := by decide +kernel
theorem dL_endOf_1 : decode cL_endOf 1 = .ok (.iconst 0, 1) := by decide +kernel
theorem dL_endOf_2 : decode cL_endOf 2 = .ok (.aload_n 0, 1) := by decide +kernel
theorem dL_endOf_3 : decode cL_endOf 3 = .ok (.iload_n 1, 1) := by decide +kernel
theorem dL_endOf_4 : decode cL_endOf 4 = .ok (.invokevirtual 107, 3) := by decide +kernel
theorem dL_endOf_7 : decode cL_endOf 7 = .ok (.i2l, 1) := by decide +kernel
theorem dL_endOf_8 : decode cL_endOf 8 = .ok (.lastore, 1) := by decide +kernel
theorem dL_endOf_9 : decode cL_endOf 9 = .ok (.goto 6, 3) := by decide +kernel
theorem dL_endOf_12 : decode cL_endOf 12 = .ok (.astore_n 3, 1) := by decide +kernel
theorem dL_endOf_13 : decode cL_endOf 13 = .ok (.iconst 1, 1) := by decide +kernel
theorem dL_endOf_14 : decode cL_endOf 14 = .ok (.ireturn, 1) := by decide +kernel
theorem dL_endOf_15 : decode cL_endOf 15 = .ok (.iconst 0, 1) := by decide +kernel
theorem dL_endOf_16 : decode cL_endOf 16 = .ok (.ireturn, 1) := by decide +kernel
theorem dL_isCopy_0 : decode cL_isCopy 0 = .ok (.aload_n 2, 1) := by decide +kernel
theorem dL_isCopy_1 : decode cL_isCopy 1 = .ok (.iconst 0, 1) := by decide +kernel
theorem dL_isCopy_2 : decode cL_isCopy 2 = .ok (.aload_n 0, 1) := by decide +kernel
theorem dL_isCopy_3 : decode cL_isCopy 3 = .ok (.iload_n 1, 1) := by decide +kernel
theorem dL_isCopy_4 : decode cL_isCopy 4 = .ok (.invokevirtual 110, 3) := by decide +kernel
theorem dL_isCopy_7 : decode cL_isCopy 7 = .ok (.ifCond .eq 7, 3) := by decide +kernel
theorem dL_isCopy_10 : decode cL_isCopy 10 = .ok (.lconst 1, 1) := by decide +kernel
theorem dL_isCopy_11 : decode cL_isCopy 11 = .ok (.goto 4, 3) := by decide +kernel
theorem dL_isCopy_14 : decode cL_isCopy 14 = .ok (.lconst 0, 1) := by decide +kernel
theorem dL_isCopy_15 : decode cL_isCopy 15 = .ok (.lastore, 1) := by decide +kernel
theorem dL_isCopy_16 : decode cL_isCopy 16 = .ok (.goto 6, 3) := by decide +kernel
theorem dL_isCopy_19 : decode cL_isCopy 19 = .ok (.astore_n 3, 1) := by decide +kernel
theorem dL_isCopy_20 : decode cL_isCopy 20 = .ok (.iconst 1, 1) := by decide +kernel
theorem dL_isCopy_21 : decode cL_isCopy 21 = .ok (.ireturn, 1) := by decide +kernel
theorem dL_isCopy_22 : decode cL_isCopy 22 = .ok (.iconst 0, 1) := by decide +kernel
theorem dL_isCopy_23 : decode cL_isCopy 23 = .ok (.ireturn, 1) := by decide +kernel
end
section
/-! THE PURE LAYER: a heap is a function from addresses to contents; a walk speaks of it, of the next address and of the cells and slots made so far; the rows of the machine stand behind it once for each kind of instruction -/
abbrev zG : Type := va_G × (Nat → ClassId) × (Nat → Nat)
abbrev zH : Type := Nat → Option va_E
/-- own class, code, locals, room, answer, name, handlers -/
abbrev zK : Type := String × ByteArray × Nat × Room × Option FieldType × String × List (Nat × Nat × Nat × Nat)
abbrev zF : Type := List Frame → Array Value → State → (Nat → Prop) → State → Prop
abbrev zL : Type := List (Option Value)
def zu (σ : zH) (a : Nat) (e : va_E) : zH := fun x => if x = a then some e else σ x
theorem zu_eq (σ : zH) (a : Nat) (e : va_E) : zu σ a e a = some e := if_pos rfl
theorem zu_ne {σ : zH} {a x : Nat} {e : va_E} (h : x ≠ a) : zu σ a e x = σ x := if_neg h
theorem zu_at {σ : zH} {a x : Nat} {e : va_E} (h : x = a) : zu σ a e x = some e := if_pos h
-- locals, by their places
def zTL : Nat → zL → List (Nat × Value)
  | _, [] => []
  | i, none :: t => zTL (i + 1) t
  | i, some v :: t => (i, v) :: zTL (i + 1) t
def zkill : Option Value → Option Value
  | some (.long _) => none
  | some (.double _) => none
  | o => o
def zset : zL → Nat → Value → zL
  | [], _, _ => []
  | _ :: t, 0, v => some v :: t
  | a :: t, 1, v => zkill a :: zset t 0 v
  | a :: t, i + 2, v => a :: zset t (i + 1) v
def zset2 : zL → Nat → Value → zL
  | [], _, _ => []
  | [_], 0, v => [some v]
  | _ :: _ :: t, 0, v => some v :: none :: t
  | a :: t, 1, v => zkill a :: zset2 t 0 v
  | a :: t, i + 2, v => a :: zset2 t (i + 1) v
theorem zTL_mem : ∀ (ls : zL) (i j : Nat) (v : Value), (j, v) ∈ zTL i ls ↔ i ≤ j ∧ ls[j - i]? = some (some v)
  | [], i, j, v => by simp [zTL]
  | none :: t, i, j, v => by
    rw [zTL, zTL_mem t (i + 1) j v]
    constructor
    · rintro ⟨h1, h2⟩
      refine ⟨by omega, ?_⟩
      rw [show j - i = (j - (i + 1)) + 1 by omega, List.getElem?_cons_succ]
      exact h2
    · rintro ⟨h1, h2⟩
      rcases Nat.eq_or_lt_of_le h1 with h | h
      · subst h
        simp at h2
      · refine ⟨h, ?_⟩
        rw [show j - i = (j - (i + 1)) + 1 by omega, List.getElem?_cons_succ] at h2
        exact h2
  | some w :: t, i, j, v => by
    rw [zTL, List.mem_cons, zTL_mem t (i + 1) j v]
    constructor
    · rintro (h | ⟨h1, h2⟩)
      · cases h
        exact ⟨Nat.le_refl _, by simp⟩
      · refine ⟨by omega, ?_⟩
        rw [show j - i = (j - (i + 1)) + 1 by omega, List.getElem?_cons_succ]
        exact h2
    · rintro ⟨h1, h2⟩
      rcases Nat.eq_or_lt_of_le h1 with h | h
      · subst h
        rw [Nat.sub_self, List.getElem?_cons_zero] at h2
        cases h2
        exact Or.inl rfl
      · refine Or.inr ⟨h, ?_⟩
        rw [show j - i = (j - (i + 1)) + 1 by omega, List.getElem?_cons_succ] at h2
        exact h2
theorem zkill_some {o : Option Value} {w : Value} (h : zkill o = some w) : o = some w ∧ w.category ≠ 2 := by
  cases o with
  | none => cases h
  | some x => cases x <;> first | (cases h; done) | (cases h; exact ⟨rfl, by decide⟩) | (cases h; exact ⟨rfl, by simp [Value.category]⟩)
theorem zset_at : ∀ (ls : zL) (i j : Nat) (v w : Value), (zset ls i v)[j]? = some (some w) → (j = i ∧ w = v) ∨ (j ≠ i ∧ ls[j]? = some (some w) ∧ ¬ (j + 1 = i ∧ w.category = 2))
  | [], i, j, v, w, h => by simp [zset] at h
  | a :: t, 0, j, v, w, h => by
    cases j with
    | zero => rw [zset, List.getElem?_cons_zero] at h; cases h; exact Or.inl ⟨rfl, rfl⟩
    | succ j => rw [zset, List.getElem?_cons_succ] at h; exact Or.inr ⟨by omega, by rw [List.getElem?_cons_succ]; exact h, by omega⟩
  | a :: t, 1, j, v, w, h => by
    cases j with
    | zero =>
      rw [zset, List.getElem?_cons_zero] at h
      obtain ⟨h1, h2⟩ := zkill_some (Option.some.inj h)
      exact Or.inr ⟨by omega, by rw [List.getElem?_cons_zero, h1], fun q => h2 q.2⟩
    | succ j =>
      rw [zset, List.getElem?_cons_succ] at h
      rcases zset_at t 0 j v w h with ⟨h1, h2⟩ | ⟨h1, h2, h3⟩
      · exact Or.inl ⟨by omega, h2⟩
      · exact Or.inr ⟨by omega, by rw [List.getElem?_cons_succ]; exact h2, by omega⟩
  | a :: t, i + 2, j, v, w, h => by
    cases j with
    | zero => rw [zset, List.getElem?_cons_zero] at h; exact Or.inr ⟨by omega, by rw [List.getElem?_cons_zero]; exact h, by omega⟩
    | succ j =>
      rw [zset, List.getElem?_cons_succ] at h
      rcases zset_at t (i + 1) j v w h with ⟨h1, h2⟩ | ⟨h1, h2, h3⟩
      · exact Or.inl ⟨by omega, h2⟩
      · exact Or.inr ⟨by omega, by rw [List.getElem?_cons_succ]; exact h2, fun q => h3 ⟨by omega, q.2⟩⟩
theorem zset2_at : ∀ (ls : zL) (i j : Nat) (v w : Value), (zset2 ls i v)[j]? = some (some w) → (j = i ∧ w = v) ∨ (j ≠ i ∧ (j ≠ i + 1 ∧ ls[j]? = some (some w) ∧ ¬ (j + 1 = i ∧ w.category = 2)))
  | [], i, j, v, w, h => by simp [zset2] at h
  | [a], 0, j, v, w, h => by
    cases j with
    | zero => rw [zset2, List.getElem?_cons_zero] at h; cases h; exact Or.inl ⟨rfl, rfl⟩
    | succ j => simp [zset2] at h
  | a :: b :: t, 0, j, v, w, h => by
    match j, h with
    | 0, h => rw [zset2, List.getElem?_cons_zero] at h; cases h; exact Or.inl ⟨rfl, rfl⟩
    | 1, h => simp [zset2] at h
    | j + 2, h => rw [zset2, List.getElem?_cons_succ, List.getElem?_cons_succ] at h; exact Or.inr ⟨by omega, by omega, by rw [List.getElem?_cons_succ, List.getElem?_cons_succ]; exact h, by omega⟩
  | a :: t, 1, j, v, w, h => by
    cases j with
    | zero =>
      rw [zset2, List.getElem?_cons_zero] at h
      obtain ⟨h1, h2⟩ := zkill_some (Option.some.inj h)
      exact Or.inr ⟨by omega, by omega, by rw [List.getElem?_cons_zero, h1], fun q => h2 q.2⟩
    | succ j =>
      rw [zset2, List.getElem?_cons_succ] at h
      rcases zset2_at t 0 j v w h with ⟨h1, h2⟩ | ⟨h1, h2, h3, h4⟩
      · exact Or.inl ⟨by omega, h2⟩
      · exact Or.inr ⟨by omega, by omega, by rw [List.getElem?_cons_succ]; exact h3, by omega⟩
  | a :: t, i + 2, j, v, w, h => by
    cases j with
    | zero => rw [zset2, List.getElem?_cons_zero] at h; exact Or.inr ⟨by omega, by omega, by rw [List.getElem?_cons_zero]; exact h, by omega⟩
    | succ j =>
      rw [zset2, List.getElem?_cons_succ] at h
      rcases zset2_at t (i + 1) j v w h with ⟨h1, h2⟩ | ⟨h1, h2, h3, h4⟩
      · exact Or.inl ⟨by omega, h2⟩
      · exact Or.inr ⟨by omega, by omega, by rw [List.getElem?_cons_succ]; exact h3, fun q => h4 ⟨by omega, q.2⟩⟩
theorem zhas_at {la : Array Slot} {nL : Nat} {ls : zL} (h : lv_has la nL (zTL 0 ls)) {i : Nat} {v : Value} (hl : ls[i]? = some (some v)) : la[i]? = some (.val v) :=
  h.2.2 (i, v) ((zTL_mem ls 0 i v).mpr ⟨Nat.zero_le _, hl⟩)
theorem zhas_set {la : Array Slot} {nL i : Nat} {ls : zL} {v : Value} (h : lv_has la nL ((i, v) :: (zTL 0 ls).filter (fun q => !(q.1 == i) && !(q.1 + 1 == i && q.2.category == 2)))) : lv_has la nL (zTL 0 (zset ls i v)) := by
  refine ⟨h.1, h.2.1, fun q hq => h.2.2 q ?_⟩
  obtain ⟨j, w⟩ := q
  have h1 := ((zTL_mem _ 0 j w).mp hq).2
  rcases zset_at ls i j v w h1 with ⟨rfl, rfl⟩ | ⟨a, b, c⟩
  · exact List.mem_cons_self
  · refine List.mem_cons_of_mem _ (List.mem_filter.mpr ⟨(zTL_mem ls 0 j w).mpr ⟨Nat.zero_le _, b⟩, ?_⟩)
    simp only [Bool.and_eq_true, Bool.not_eq_true', beq_eq_false_iff_ne, Bool.and_eq_false_iff]
    refine ⟨a, ?_⟩
    by_cases q : j + 1 = i
    · exact Or.inr fun z => c ⟨q, z⟩
    · exact Or.inl q
theorem zhas_set2 {la : Array Slot} {nL i : Nat} {ls : zL} {v : Value} (h : lv_has la nL ((i, v) :: (zTL 0 ls).filter (fun q => !(q.1 == i) && (!(q.1 == i + 1) && !(q.1 + 1 == i && q.2.category == 2))))) : lv_has la nL (zTL 0 (zset2 ls i v)) := by
  refine ⟨h.1, h.2.1, fun q hq => h.2.2 q ?_⟩
  obtain ⟨j, w⟩ := q
  have h1 := ((zTL_mem _ 0 j w).mp hq).2
  rcases zset2_at ls i j v w h1 with ⟨rfl, rfl⟩ | ⟨a, b, b2, c⟩
  · exact List.mem_cons_self
  · refine List.mem_cons_of_mem _ (List.mem_filter.mpr ⟨(zTL_mem ls 0 j w).mpr ⟨Nat.zero_le _, b2⟩, ?_⟩)
    simp only [Bool.and_eq_true, Bool.not_eq_true', beq_eq_false_iff_ne, Bool.and_eq_false_iff]
    refine ⟨a, b, ?_⟩
    by_cases q : j + 1 = i
    · exact Or.inr fun z => c ⟨q, z⟩
    · exact Or.inl q
-- words: one list for all methods
def zW : List Cond := lw_tbl.filter goodWord
theorem zW_in {w : Cond} (h : w ∈ lw_tbl) (g : goodWord w = true) : w ∈ zW := List.mem_filter.mpr ⟨h, g⟩
theorem zW_t {w : Cond} {i : Nat} (h : tables_1[i]? = some w) (g : goodWord w = true) : w ∈ zW := zW_in (List.mem_append_right _ (List.mem_of_getElem? h)) g
theorem zW_good {a : List Cond} (h : ∀ w ∈ a, w ∈ zW) : GoodIn zW a := fun w hw => ⟨h w hw, good_of_word (List.mem_filter.mp (h w hw)).2⟩
theorem zW_all : GoodIn zW zW := zW_good fun _ h => h
-- contexts
def zTys (G : zG) : List (ClassId × FieldType) := [(G.2.1 0, .int), (G.2.1 1, .boolean), (G.2.1 2, .long), (G.2.1 3, .object RX9), (G.2.1 4, .object "java/lang/Object")]
def zKn (k : Nat) : String := match k with
  | 0 => "SOURCE"
  | 1 => "MAP"
  | 2 => "FILTER"
  | 3 => "UNION"
  | 4 => "GROUP"
  | _ => "JOIN"
def zStr : List (Nat × String) := [(118, "the node is no source, or has 12 rows"), (134, "how or constant is out of range"), (165, "its bound or width would be too great"), (170, "how is out of range"), (175, "its bound would be too great"), (215, "the node is no join"), (224, "workers is out of range"), (230, "there is no such worker"), (233, "slowness is out of range"), (274, "there are not so many stages"), (332, "there is no such node"), (334, "there are 14 nodes"), (336, "there is no such attempt"), (338, "partitions is out of range"), (340, "rows is out of range"), (342, "there is no such partition"), (344, "there is no such row")]
def zIsN : Cond → Bool
  | .fieldLinkNest .. => true
  | .methodLinkNest .. => true
  | .castable .. => true
  | _ => false
def zN : List Cond := lw_tbl.filter zIsN
theorem zN_in {w : Cond} {i : Nat} (h : tables_1[i]? = some w) (g : zIsN w = true) : w ∈ zN := List.mem_filter.mpr ⟨List.mem_append_right _ (List.mem_of_getElem? h), g⟩
abbrev zI (G : zG) (n : Nat) (f : Nat → Int32) : va_E := .inl (G.2.1 0, n, .inl f)
abbrev zZ (G : zG) (n : Nat) (f : Nat → Int32) : va_E := .inl (G.2.1 1, n, .inl f)
abbrev zJ (G : zG) (n : Nat) (f : Nat → Int64) : va_E := .inl (G.2.1 2, n, .inr (.inl f))
abbrev zR (G : zG) (n : Nat) (f : Nat → Option Nat) : va_E := .inl (G.2.1 3, n, .inr (.inr (.inr (.inr f))))
abbrev zE (G : zG) (n : Nat) (f : Nat → Option Nat) : va_E := .inl (G.2.1 4, n, .inr (.inr (.inr (.inr f))))
def zHR (G : zG) (A : Nat → Prop) (σ : zH) (nx : Nat) (H : Heap) : Prop := H.size = nx ∧ ∃ ws : va_W, va_P G.1 vwCl ws H ∧ va_D A ws ∧ ∀ a e, σ a = some e ↔ (a, e) ∈ ws
def zA (σ : zH) (nx : Nat) : Nat → Prop := fun q => (∃ e, σ q = some e) ∨ nx ≤ q
def zO (G : zG) (A : Nat → Prop) (U : State) (H : Heap) : Prop :=
  (∀ k, k < 6 → va_Z RX5 (zKn k) "LTaskgraphic$Kind;" (.ref (G.2.2 k)) A U H) ∧ vx_Zq Bundle.tN "UNASSIGNED_STACK" Bundle.steD A U H ∧ vx_Zq Bundle.tN "SUPPRESSED_SENTINEL" Bundle.listD A U H ∧
  va_Z RJx4a65c "DEFAULTCAPACITY_EMPTY_ELEMENTDATA" "[Ljava/lang/Object;" (.ref (G.2.2 6)) A U H ∧ (∃ cell : Cell, H[G.2.2 6]? = some cell ∧ U.isArrayOf cell (.object "java/lang/Object") ∧ cell.slots.size = 0 ∧ ¬ A (G.2.2 6)) ∧
  (∀ q ∈ zStr, ∃ sa, vk_R RX11 q.1 q.2 sa U) ∧ (∀ w ∈ zN, va_Nw w U) ∧ va_AO RX9 U ∧ va_AO "java/lang/Object" U
theorem zN_warm {s U : State} (hW : s.WarmedH U.vm) (h : ∀ w ∈ zN, va_Nw w s) : ∀ w ∈ zN, va_Nw w U := by
  intro w hw
  have h1 := h w hw
  have h2 := (List.mem_filter.mp hw).2
  cases w <;> first | (cases h2; done) | exact va_Nw.warmF hW h1 | exact va_Nw.warmM hW h1 | exact va_Nw.warmC hW h1
theorem zN_same {s U : State} (hv : s.vm = U.vm) (h : ∀ w ∈ zN, va_Nw w s) : ∀ w ∈ zN, va_Nw w U := by
  intro w hw
  have h1 := h w hw
  have h2 := (List.mem_filter.mp hw).2
  cases w <;> first | (cases h2; done) | exact va_Nw.same rfl hv h1
theorem zAO_warm {C : String} {s U : State} (hW : s.WarmedH U.vm) (h : va_AO C s) : va_AO C U := by first | exact va_AO.warm hW h | exact va_AO.moved hW.alike h | exact va_AO.moved hW h
theorem zAO_same {C : String} {s U : State} (hv : U.vm = s.vm) (h : va_AO C s) : va_AO C U := va_AO.moved (u := s) (U := U) (by rw [hv]; exact Vm.Alike.refl _) h
theorem zO.step {G : zG} {A B : Nat → Prop} {s U : State} {H : Heap} {locs : List Loc} (h : zO G A s s.heap) (hW : s.WarmedH U.vm) (hU : U.heap = H) (hS : va_S A s.heap H locs) (hB : ∀ q, B q → A q) : zO G B U U.heap := by
  subst hU
  have hk : ∀ a : Nat, a < s.heap.size → ¬ A a → U.heap[a]? = s.heap[a]? := hS.2.1
  obtain ⟨h1, h2, h3, h4, ⟨cell, c1, c2, c3, c4⟩, h5, h6, h7, h8⟩ := h
  refine ⟨fun k hk6 => (((h1 k hk6).moved hW.alike).kept hk).narrow hB, ((h2.moved hW.alike).kept hk).narrow hB, ((h3.moved hW.alike).kept hk).narrow hB, ((h4.moved hW.alike).kept hk).narrow hB,
    ⟨cell, by rw [hk _ (Array.getElem?_eq_some_iff.mp c1).1 c4]; exact c1, State.isArrayOf_alike hW.alike c2, c3, fun z => c4 (hB _ z)⟩, fun q hq => ?_, zN_warm hW h6, zAO_warm hW h7, zAO_warm hW h8⟩
  obtain ⟨sa, h9⟩ := h5 q hq
  exact ⟨sa, h9.warm hW⟩
theorem zO.calling {G : zG} {A : Nat → Prop} {U V : State} (hv : V.vm = U.vm) (hh : V.heap = U.heap) (h : zO G A U U.heap) : zO G A V V.heap := by
  have ha : U.vm.Alike V.vm := by rw [hv]; exact Vm.Alike.refl _
  obtain ⟨h1, h2, h3, h4, ⟨cell, c1, c2, c3, c4⟩, h5, h6, h7, h8⟩ := h
  rw [hh]
  refine ⟨fun k hk6 => (h1 k hk6).moved ha, h2.moved ha, h3.moved ha, h4.moved ha, ⟨cell, c1, State.isArrayOf_alike ha c2, c3, c4⟩, fun q hq => ?_, zN_same hv.symm h6, zAO_same hv h7, zAO_same hv h8⟩
  obtain ⟨sa, h9⟩ := h5 q hq
  exact ⟨sa, h9.same hv⟩
/-- what stays the same while a body is walked -/
def zC (G : zG) (k : zK) (p : Program) (l : Launch) (s : State) (m : MethodId) (args : Array Value) (meth : Method) (c : Code) (A : Nat → Prop) : Prop :=
  p.tables.exec = Jvm.exec ∧ c.code = k.2.1 ∧ c.maxLocals = k.2.2.1 ∧ s.vm.findClass k.1 = some m.cls ∧ (∀ w ∈ zW, w.before args s = true) ∧ va_K G.1 vwCl (zTys G) s ∧ (∀ q, s.heap.size ≤ q → A q) ∧
  meth.locks = false ∧ meth.sig.returnType = k.2.2.2.2.1 ∧ meth.name = k.2.2.2.2.2.1 ∧ c.exceptionTable.toList = tableOf k.2.2.2.2.2.2 ∧ zO G A s s.heap ∧ l.stackTraces = false
/-- THE WALK: at pc, with these locals, this stack, this heap, so many cells and slots made: it comes to what F says -/
def zWP (G : zG) (k : zK) (F : zF) (pc : Nat) (ls : zL) (st : List Value) (σ : zH) (nx ca sl : Nat) : Prop :=
  ∀ (p : Program) (l : Launch) (e : Env) (s : State) (m : MethodId) (args : Array Value) (below : List Frame) (meth : Method) (c : Code) (A : Nat → Prop) (H : Heap) (locs : List Loc) (la : Array Slot),
    zC G k p l s m args meth c A → zHR G A σ nx H → va_S A s.heap H locs → lv_has la k.2.2.1 (zTL 0 ls) → W p l e k.2.2.2.1 s m args below meth c H locs ca sl (F below args s A) (F0 m pc la st)
def zQc (G : zG) (A : Nat → Prop) (Q : Option Value → zH → Nat → Prop) : Array Value → State → Outcome → State → Prop := fun _ st o t => (∃ (v : Option Value) (σ : zH) (nx : Nat), o = .returned v ∧ Q v σ nx ∧ zHR G A σ nx t.heap) ∧ va_F A st t
def zXC (G : zG) (A : Nat → Prop) (X : String → zH → Nat → Prop) : String → State → State → Prop := fun E st t => (∃ (σ : zH) (nx : Nat), X E σ nx ∧ zHR G A σ nx t.heap) ∧ va_F A st t
def zFM (G : zG) (R : Room) (Q : Option Value → zH → Nat → Prop) : zF := fun below args s A => MQ below (zQc G A Q) args s R.cells R.slots A
def zFX (G : zG) (R : Room) (Q : Option Value → zH → Nat → Prop) (X : String → zH → Nat → Prop) : zF := fun below args s A => vx_MQ below (zQc G A Q) (zXC G A X) args s R.cells R.slots A
def zPre (G : zG) (σ : zH) (nx : Nat) (U : State) : Prop := zHR G (fun _ => True) σ nx U.heap ∧ va_K G.1 vwCl (zTys G) U ∧ zO G (zA σ nx) U U.heap
/-- a method's contract -/
def zM (G : zG) (y : MethodName) (k : zK) (as : List Value) (σ : zH) (nx : Nat) (Q : Option Value → zH → Nat → Prop) : Prop :=
  ∀ l : Launch, l.stackTraces = false → Met l y (.code y k.2.1 k.2.2.1 k.2.2.2.2.1 :: zW) k.2.2.2.1 (va_Pc as (zPre G σ nx)) (zQc G (zA σ nx) Q) k.2.2.2.1.cells k.2.2.2.1.slots (zA σ nx)
/-- .. of one that may throw -/
def zMX (G : zG) (y : MethodName) (k : zK) (as : List Value) (σ : zH) (nx : Nat) (Q : Option Value → zH → Nat → Prop) (X : String → zH → Nat → Prop) : Prop :=
  ∀ l : Launch, l.stackTraces = false → vx_Met l y (.code y k.2.1 k.2.2.1 k.2.2.2.2.1 :: zW) k.2.2.2.1 (va_Pc as (zPre G σ nx)) (zQc G (zA σ nx) Q) (zXC G (zA σ nx) X) k.2.2.2.1.cells k.2.2.2.1.slots (zA σ nx)
-- heaps
theorem zHR.at {G : zG} {A : Nat → Prop} {σ : zH} {nx : Nat} {H : Heap} (h : zHR G A σ nx H) {a : Nat} {e : va_E} (he : σ a = some e) : ∃ (ws : va_W) (q0 : Nat), va_P G.1 vwCl ws H ∧ va_D A ws ∧ ws[q0]? = some (a, e) ∧ ∀ a e, σ a = some e ↔ (a, e) ∈ ws := by
  obtain ⟨-, ws, h1, h2, h3⟩ := h
  obtain ⟨i, hi⟩ := List.getElem?_of_mem ((h3 a e).mp he)
  exact ⟨ws, i, h1, h2, hi, h3⟩
theorem zHR.lt {G : zG} {A : Nat → Prop} {σ : zH} {nx : Nat} {H : Heap} (h : zHR G A σ nx H) {a : Nat} {e : va_E} (he : σ a = some e) : a < nx := by
  obtain ⟨ws, q0, h1, -, h3, -⟩ := h.at he
  rw [← h.1]
  exact (h1 q0 _ h3).lt
theorem zHR.weaken {G : zG} {A B : Nat → Prop} {σ : zH} {nx : Nat} {H : Heap} (h : zHR G A σ nx H) (hB : ∀ a e, σ a = some e → A a → B a) : zHR G B σ nx H := by
  obtain ⟨h0, ws, h1, h2, h3⟩ := h
  exact ⟨h0, ws, h1, h2.weaken fun k q hk hA => hB q.1 q.2 ((h3 q.1 q.2).mpr (List.mem_of_getElem? hk)) hA, h3⟩
theorem zHR.isA {G : zG} {A : Nat → Prop} {σ : zH} {nx : Nat} {H : Heap} (h : zHR G A σ nx H) {a : Nat} {e : va_E} (he : σ a = some e) : A a := by
  obtain ⟨ws, q0, -, h2, h3, -⟩ := h.at he
  exact h2.2 q0 _ h3
theorem zHR.sub {G : zG} {A : Nat → Prop} {σ : zH} {nx : Nat} {H : Heap} (h : zHR G A σ nx H) (hA : ∀ q, nx ≤ q → A q) : ∀ q, zA σ nx q → A q := by
  rintro q (⟨e, he⟩ | hq)
  · exact h.isA he
  · exact hA q hq
theorem zu_ws {A : Nat → Prop} {σ : zH} {ws : va_W} {q0 a : Nat} {e0 e : va_E} (hD : va_D A ws) (h3 : ∀ a e, σ a = some e ↔ (a, e) ∈ ws) (hq : ws[q0]? = some (a, e0)) : ∀ b x, zu σ a e b = some x ↔ (b, x) ∈ ws.set q0 (a, e) := by
  have hl := (List.getElem?_eq_some_iff.mp hq).1
  intro b x
  by_cases hb : b = a
  · subst hb
    rw [zu_eq]
    constructor
    · intro h
      cases h
      exact List.mem_of_getElem? (List.getElem?_set_self hl)
    · intro h
      obtain ⟨j, hj⟩ := List.getElem?_of_mem h
      by_cases hjq : j = q0
      · subst hjq
        rw [List.getElem?_set_self hl] at hj
        cases hj
        rfl
      · rw [List.getElem?_set_ne (Ne.symm hjq)] at hj
        exact absurd (hD.1 j q0 _ _ hj hq rfl) hjq
  · rw [zu_ne hb, h3]
    constructor
    · intro h
      obtain ⟨j, hj⟩ := List.getElem?_of_mem h
      have hjq : j ≠ q0 := by
        intro z
        subst z
        rw [hq] at hj
        cases hj
        exact hb rfl
      exact List.mem_of_getElem? (i := j) (by rw [List.getElem?_set_ne (Ne.symm hjq)]; exact hj)
    · intro h
      obtain ⟨j, hj⟩ := List.getElem?_of_mem h
      have hjq : j ≠ q0 := by
        intro z
        subst z
        rw [List.getElem?_set_self hl] at hj
        cases hj
        exact hb rfl
      rw [List.getElem?_set_ne (Ne.symm hjq)] at hj
      exact List.mem_of_getElem? hj
theorem zHR.put {G : zG} {A : Nat → Prop} {σ : zH} {nx a : Nat} {H H1 : Heap} {e0 e : va_E} (h : zHR G A σ nx H) (he : σ a = some e0) (hz : H1.size = H.size) (ha : va_at G.1 vwCl (a, e) H1) (ho : ∀ q : Nat, q ≠ a → H1[q]? = H[q]?) : zHR G A (zu σ a e) nx H1 := by
  obtain ⟨ws, q0, h1, h2, h3, h4⟩ := h.at he
  exact ⟨hz.trans h.1, ws.set q0 (a, e), h1.set h2 h3 ha ho, h2.set h3, zu_ws h2 h4 h3⟩
theorem zHR.push {G : zG} {A : Nat → Prop} {σ : zH} {nx : Nat} {H H1 : Heap} {e : va_E} (h : zHR G A σ nx H) (hz : H1.size = nx + 1) (ha : va_at G.1 vwCl (nx, e) H1) (ho : ∀ q : Nat, q < nx → H1[q]? = H[q]?) (hA : A nx) : zHR G A (zu σ nx e) (nx + 1) H1 := by
  have hlt : ∀ a e, σ a = some e → a < nx := fun a e he => h.lt he
  obtain ⟨h0, ws, h1, h2, h3⟩ := h
  refine ⟨hz, ws ++ [(nx, e)], va_P.app (h1.kept fun k q hk => ho q.1 ?_) (fun k q hk => ?_), h2.push h1 h0.symm hA, fun b x => ?_⟩
  · exact hlt q.1 q.2 ((h3 _ _).mpr (List.mem_of_getElem? hk))
  · have hk0 : k < 1 := (List.getElem?_eq_some_iff.mp hk).1
    rw [show k = 0 by omega] at hk
    cases hk
    exact ha
  · rw [List.mem_append, List.mem_singleton]
    by_cases hb : b = nx
    · subst hb
      rw [zu_eq]
      constructor
      · intro z
        cases z
        exact Or.inr rfl
      · rintro (z | z)
        · exact absurd (hlt _ _ ((h3 _ _).mpr z)) (by omega)
        · cases z
          rfl
    · rw [zu_ne hb, h3]
      constructor
      · exact Or.inl
      · rintro (z | z)
        · exact z
        · cases z
          exact absurd rfl hb
theorem zObj1 : Cond.instanceMethod objectInit ∈ zW := zW_t (i := 37) (by decide +kernel) (by decide +kernel)
theorem zObj2 : Cond.code objectInit ⟨#[0xb1]⟩ 1 none ∈ zW := zW_t (i := 38) (by decide +kernel) (by decide +kernel)
section ZROWS
variable {G : zG} {k : zK} {F : zF} {pc nx ca sl : Nat} {ls : zL} {st : List Value} {σ : zH}
theorem z_iconst {n : Int} {v : Int32} (d : decode k.2.1 pc = .ok (.iconst n, 1)) (hv : Int32.ofInt n = v)
    (kk : zWP G k F (pc + 1) ls (.int v :: st) σ nx ca sl) : zWP G k F (pc) ls (st) σ nx ca sl := by
  intro p l e s m args below meth c A H locs la C hH hS hl
  exact lv_iconst C.1 C.2.1 d hv (kk p l e s m args below meth c A H locs la C hH hS hl)

theorem z_bipush {n : Int} {v : Int32} (d : decode k.2.1 pc = .ok (.bipush n, 2)) (hv : (Int8.ofInt n).toInt32 = v)
    (kk : zWP G k F (pc + 2) ls (.int v :: st) σ nx ca sl) : zWP G k F (pc) ls (st) σ nx ca sl := by
  intro p l e s m args below meth c A H locs la C hH hS hl
  exact lv_bipush C.1 C.2.1 d hv (kk p l e s m args below meth c A H locs la C hH hS hl)

theorem z_sipush {n : Int} {v : Int32} (d : decode k.2.1 pc = .ok (.sipush n, 3)) (hv : (Int16.ofInt n).toInt32 = v)
    (kk : zWP G k F (pc + 3) ls (.int v :: st) σ nx ca sl) : zWP G k F (pc) ls (st) σ nx ca sl := by
  intro p l e s m args below meth c A H locs la C hH hS hl
  exact lv_sipush C.1 C.2.1 d hv (kk p l e s m args below meth c A H locs la C hH hS hl)

theorem z_lconst {n : Fin 2} {v : Int64} (d : decode k.2.1 pc = .ok (.lconst n, 1)) (hv : Int64.ofNat (n : Nat) = v)
    (kk : zWP G k F (pc + 1) ls (.long v :: st) σ nx ca sl) : zWP G k F (pc) ls (st) σ nx ca sl := by
  intro p l e s m args below meth c A H locs la C hH hS hl
  exact lv_lconst C.1 C.2.1 d hv (kk p l e s m args below meth c A H locs la C hH hS hl)

theorem z_iload_n {j : Fin 4} {x : Int32} (d : decode k.2.1 pc = .ok (.iload_n j, 1)) (hi : ls[(j : Nat)]? = some (some (.int x)))
    (kk : zWP G k F (pc + 1) ls (.int x :: st) σ nx ca sl) : zWP G k F (pc) ls (st) σ nx ca sl := by
  intro p l e s m args below meth c A H locs la C hH hS hl
  exact lv_iload_n C.1 C.2.1 d rfl (zhas_at hl hi) (kk p l e s m args below meth c A H locs la C hH hS hl)

theorem z_iload {i : Nat} {x : Int32} (d : decode k.2.1 pc = .ok (.iload i, 2)) (hi : ls[i]? = some (some (.int x)))
    (kk : zWP G k F (pc + 2) ls (.int x :: st) σ nx ca sl) : zWP G k F (pc) ls (st) σ nx ca sl := by
  intro p l e s m args below meth c A H locs la C hH hS hl
  exact lv_iload C.1 C.2.1 d (zhas_at hl hi) (kk p l e s m args below meth c A H locs la C hH hS hl)

theorem z_istore_n {j : Fin 4} {x : Int32} (d : decode k.2.1 pc = .ok (.istore_n j, 1)) (hn : (j : Nat) < k.2.2.1)
    (kk : zWP G k F (pc + 1) (zset ls j (.int x)) (st) σ nx ca sl) : zWP G k F (pc) ls (.int x :: st) σ nx ca sl := by
  intro p l e s m args below meth c A H locs la C hH hS hl
  exact lv_istore_n C.1 C.2.1 d rfl hl hn rfl (fun la hl => kk p l e s m args below meth c A H locs la C hH hS (zhas_set hl))

theorem z_istore {i : Nat} {x : Int32} (d : decode k.2.1 pc = .ok (.istore i, 2)) (hn : i < k.2.2.1)
    (kk : zWP G k F (pc + 2) (zset ls i (.int x)) (st) σ nx ca sl) : zWP G k F (pc) ls (.int x :: st) σ nx ca sl := by
  intro p l e s m args below meth c A H locs la C hH hS hl
  exact lv_istore C.1 C.2.1 d hl hn rfl (fun la hl => kk p l e s m args below meth c A H locs la C hH hS (zhas_set hl))

theorem z_lload_n {j : Fin 4} {x : Int64} (d : decode k.2.1 pc = .ok (.lload_n j, 1)) (hi : ls[(j : Nat)]? = some (some (.long x)))
    (kk : zWP G k F (pc + 1) ls (.long x :: st) σ nx ca sl) : zWP G k F (pc) ls (st) σ nx ca sl := by
  intro p l e s m args below meth c A H locs la C hH hS hl
  exact lv_lload_n C.1 C.2.1 d rfl (zhas_at hl hi) (kk p l e s m args below meth c A H locs la C hH hS hl)

theorem z_lload {i : Nat} {x : Int64} (d : decode k.2.1 pc = .ok (.lload i, 2)) (hi : ls[i]? = some (some (.long x)))
    (kk : zWP G k F (pc + 2) ls (.long x :: st) σ nx ca sl) : zWP G k F (pc) ls (st) σ nx ca sl := by
  intro p l e s m args below meth c A H locs la C hH hS hl
  exact lv_lload C.1 C.2.1 d (zhas_at hl hi) (kk p l e s m args below meth c A H locs la C hH hS hl)

theorem z_lstore_n {j : Fin 4} {x : Int64} (d : decode k.2.1 pc = .ok (.lstore_n j, 1)) (hn : (j : Nat) + 1 < k.2.2.1)
    (kk : zWP G k F (pc + 1) (zset2 ls j (.long x)) (st) σ nx ca sl) : zWP G k F (pc) ls (.long x :: st) σ nx ca sl := by
  intro p l e s m args below meth c A H locs la C hH hS hl
  exact lv_lstore_n C.1 C.2.1 d rfl hl hn rfl (fun la hl => kk p l e s m args below meth c A H locs la C hH hS (zhas_set2 hl))

theorem z_lstore {i : Nat} {x : Int64} (d : decode k.2.1 pc = .ok (.lstore i, 2)) (hn : i + 1 < k.2.2.1)
    (kk : zWP G k F (pc + 2) (zset2 ls i (.long x)) (st) σ nx ca sl) : zWP G k F (pc) ls (.long x :: st) σ nx ca sl := by
  intro p l e s m args below meth c A H locs la C hH hS hl
  exact lv_lstore C.1 C.2.1 d hl hn rfl (fun la hl => kk p l e s m args below meth c A H locs la C hH hS (zhas_set2 hl))

theorem z_aload_n {j : Fin 4} {x : Nat} (d : decode k.2.1 pc = .ok (.aload_n j, 1)) (hi : ls[(j : Nat)]? = some (some (.ref x)))
    (kk : zWP G k F (pc + 1) ls (.ref x :: st) σ nx ca sl) : zWP G k F (pc) ls (st) σ nx ca sl := by
  intro p l e s m args below meth c A H locs la C hH hS hl
  exact lv_aload_n C.1 C.2.1 d rfl (zhas_at hl hi) (kk p l e s m args below meth c A H locs la C hH hS hl)

theorem z_aload {i : Nat} {x : Nat} (d : decode k.2.1 pc = .ok (.aload i, 2)) (hi : ls[i]? = some (some (.ref x)))
    (kk : zWP G k F (pc + 2) ls (.ref x :: st) σ nx ca sl) : zWP G k F (pc) ls (st) σ nx ca sl := by
  intro p l e s m args below meth c A H locs la C hH hS hl
  exact lv_aload C.1 C.2.1 d (zhas_at hl hi) (kk p l e s m args below meth c A H locs la C hH hS hl)

theorem z_astore_n {j : Fin 4} {x : Nat} (d : decode k.2.1 pc = .ok (.astore_n j, 1)) (hn : (j : Nat) < k.2.2.1)
    (kk : zWP G k F (pc + 1) (zset ls j (.ref x)) (st) σ nx ca sl) : zWP G k F (pc) ls (.ref x :: st) σ nx ca sl := by
  intro p l e s m args below meth c A H locs la C hH hS hl
  exact lv_astore_n C.1 C.2.1 d rfl hl hn rfl (fun la hl => kk p l e s m args below meth c A H locs la C hH hS (zhas_set hl))

theorem z_astore {i : Nat} {x : Nat} (d : decode k.2.1 pc = .ok (.astore i, 2)) (hn : i < k.2.2.1)
    (kk : zWP G k F (pc + 2) (zset ls i (.ref x)) (st) σ nx ca sl) : zWP G k F (pc) ls (.ref x :: st) σ nx ca sl := by
  intro p l e s m args below meth c A H locs la C hH hS hl
  exact lv_astore C.1 C.2.1 d hl hn rfl (fun la hl => kk p l e s m args below meth c A H locs la C hH hS (zhas_set hl))

theorem z_fload_n {j : Fin 4} {x : UInt32} (d : decode k.2.1 pc = .ok (.fload_n j, 1)) (hi : ls[(j : Nat)]? = some (some (.float x)))
    (kk : zWP G k F (pc + 1) ls (.float x :: st) σ nx ca sl) : zWP G k F (pc) ls (st) σ nx ca sl := by
  intro p l e s m args below meth c A H locs la C hH hS hl
  exact lv_fload_n C.1 C.2.1 d rfl (zhas_at hl hi) (kk p l e s m args below meth c A H locs la C hH hS hl)

theorem z_fload {i : Nat} {x : UInt32} (d : decode k.2.1 pc = .ok (.fload i, 2)) (hi : ls[i]? = some (some (.float x)))
    (kk : zWP G k F (pc + 2) ls (.float x :: st) σ nx ca sl) : zWP G k F (pc) ls (st) σ nx ca sl := by
  intro p l e s m args below meth c A H locs la C hH hS hl
  exact lv_fload C.1 C.2.1 d (zhas_at hl hi) (kk p l e s m args below meth c A H locs la C hH hS hl)

theorem z_fstore_n {j : Fin 4} {x : UInt32} (d : decode k.2.1 pc = .ok (.fstore_n j, 1)) (hn : (j : Nat) < k.2.2.1)
    (kk : zWP G k F (pc + 1) (zset ls j (.float x)) (st) σ nx ca sl) : zWP G k F (pc) ls (.float x :: st) σ nx ca sl := by
  intro p l e s m args below meth c A H locs la C hH hS hl
  exact lv_fstore_n C.1 C.2.1 d rfl hl hn rfl (fun la hl => kk p l e s m args below meth c A H locs la C hH hS (zhas_set hl))

theorem z_fstore {i : Nat} {x : UInt32} (d : decode k.2.1 pc = .ok (.fstore i, 2)) (hn : i < k.2.2.1)
    (kk : zWP G k F (pc + 2) (zset ls i (.float x)) (st) σ nx ca sl) : zWP G k F (pc) ls (.float x :: st) σ nx ca sl := by
  intro p l e s m args below meth c A H locs la C hH hS hl
  exact lv_fstore C.1 C.2.1 d hl hn rfl (fun la hl => kk p l e s m args below meth c A H locs la C hH hS (zhas_set hl))

theorem z_dload_n {j : Fin 4} {x : UInt64} (d : decode k.2.1 pc = .ok (.dload_n j, 1)) (hi : ls[(j : Nat)]? = some (some (.double x)))
    (kk : zWP G k F (pc + 1) ls (.double x :: st) σ nx ca sl) : zWP G k F (pc) ls (st) σ nx ca sl := by
  intro p l e s m args below meth c A H locs la C hH hS hl
  exact lv_dload_n C.1 C.2.1 d rfl (zhas_at hl hi) (kk p l e s m args below meth c A H locs la C hH hS hl)

theorem z_dload {i : Nat} {x : UInt64} (d : decode k.2.1 pc = .ok (.dload i, 2)) (hi : ls[i]? = some (some (.double x)))
    (kk : zWP G k F (pc + 2) ls (.double x :: st) σ nx ca sl) : zWP G k F (pc) ls (st) σ nx ca sl := by
  intro p l e s m args below meth c A H locs la C hH hS hl
  exact lv_dload C.1 C.2.1 d (zhas_at hl hi) (kk p l e s m args below meth c A H locs la C hH hS hl)

theorem z_dstore_n {j : Fin 4} {x : UInt64} (d : decode k.2.1 pc = .ok (.dstore_n j, 1)) (hn : (j : Nat) + 1 < k.2.2.1)
    (kk : zWP G k F (pc + 1) (zset2 ls j (.double x)) (st) σ nx ca sl) : zWP G k F (pc) ls (.double x :: st) σ nx ca sl := by
  intro p l e s m args below meth c A H locs la C hH hS hl
  exact lv_dstore_n C.1 C.2.1 d rfl hl hn rfl (fun la hl => kk p l e s m args below meth c A H locs la C hH hS (zhas_set2 hl))

theorem z_dstore {i : Nat} {x : UInt64} (d : decode k.2.1 pc = .ok (.dstore i, 2)) (hn : i + 1 < k.2.2.1)
    (kk : zWP G k F (pc + 2) (zset2 ls i (.double x)) (st) σ nx ca sl) : zWP G k F (pc) ls (.double x :: st) σ nx ca sl := by
  intro p l e s m args below meth c A H locs la C hH hS hl
  exact lv_dstore C.1 C.2.1 d hl hn rfl (fun la hl => kk p l e s m args below meth c A H locs la C hH hS (zhas_set2 hl))

theorem z_iinc {i : Nat} {n : Int} {x v : Int32} (d : decode k.2.1 pc = .ok (.iinc i n, 3)) (hi : ls[i]? = some (some (.int x))) (hv : x + Int32.ofInt n = v) (hn : i < k.2.2.1)
    (kk : zWP G k F (pc + 3) (zset ls i (.int v)) (st) σ nx ca sl) : zWP G k F (pc) ls (st) σ nx ca sl := by
  intro p l e s m args below meth c A H locs la C hH hS hl
  obtain ⟨q, hq⟩ := List.getElem?_of_mem ((zTL_mem ls 0 i (.int x)).mpr ⟨Nat.zero_le _, hi⟩)
  exact lv_iinc C.1 C.2.1 d hl hq hv hn rfl (fun la hl => kk p l e s m args below meth c A H locs la C hH hS (zhas_set hl))

theorem z_iadd {x y : Int32} (d : decode k.2.1 pc = .ok (.iadd, 1))
    (kk : zWP G k F (pc + 1) ls (.int (x + y) :: st) σ nx ca sl) : zWP G k F (pc) ls (.int y :: .int x :: st) σ nx ca sl := by
  intro p l e s m args below meth c A H locs la C hH hS hl
  exact lv_iadd C.1 C.2.1 d (kk p l e s m args below meth c A H locs la C hH hS hl)

theorem z_isub {x y : Int32} (d : decode k.2.1 pc = .ok (.isub, 1))
    (kk : zWP G k F (pc + 1) ls (.int (x - y) :: st) σ nx ca sl) : zWP G k F (pc) ls (.int y :: .int x :: st) σ nx ca sl := by
  intro p l e s m args below meth c A H locs la C hH hS hl
  exact lv_isub C.1 C.2.1 d (kk p l e s m args below meth c A H locs la C hH hS hl)

theorem z_imul {x y : Int32} (d : decode k.2.1 pc = .ok (.imul, 1))
    (kk : zWP G k F (pc + 1) ls (.int (x * y) :: st) σ nx ca sl) : zWP G k F (pc) ls (.int y :: .int x :: st) σ nx ca sl := by
  intro p l e s m args below meth c A H locs la C hH hS hl
  exact lv_imul C.1 C.2.1 d (kk p l e s m args below meth c A H locs la C hH hS hl)

theorem z_iand {x y : Int32} (d : decode k.2.1 pc = .ok (.iand, 1))
    (kk : zWP G k F (pc + 1) ls (.int (x &&& y) :: st) σ nx ca sl) : zWP G k F (pc) ls (.int y :: .int x :: st) σ nx ca sl := by
  intro p l e s m args below meth c A H locs la C hH hS hl
  exact lv_iand C.1 C.2.1 d (kk p l e s m args below meth c A H locs la C hH hS hl)

theorem z_ior {x y : Int32} (d : decode k.2.1 pc = .ok (.ior, 1))
    (kk : zWP G k F (pc + 1) ls (.int (x ||| y) :: st) σ nx ca sl) : zWP G k F (pc) ls (.int y :: .int x :: st) σ nx ca sl := by
  intro p l e s m args below meth c A H locs la C hH hS hl
  exact lv_ior C.1 C.2.1 d (kk p l e s m args below meth c A H locs la C hH hS hl)

theorem z_ixor {x y : Int32} (d : decode k.2.1 pc = .ok (.ixor, 1))
    (kk : zWP G k F (pc + 1) ls (.int (x ^^^ y) :: st) σ nx ca sl) : zWP G k F (pc) ls (.int y :: .int x :: st) σ nx ca sl := by
  intro p l e s m args below meth c A H locs la C hH hS hl
  exact lv_ixor C.1 C.2.1 d (kk p l e s m args below meth c A H locs la C hH hS hl)

theorem z_ineg {x : Int32} (d : decode k.2.1 pc = .ok (.ineg, 1))
    (kk : zWP G k F (pc + 1) ls (.int (-x) :: st) σ nx ca sl) : zWP G k F (pc) ls (.int x :: st) σ nx ca sl := by
  intro p l e s m args below meth c A H locs la C hH hS hl
  exact lv_ineg C.1 C.2.1 d (kk p l e s m args below meth c A H locs la C hH hS hl)

theorem z_idiv {x y : Int32} (d : decode k.2.1 pc = .ok (.idiv, 1)) (hne : ¬ y = 0)
    (kk : zWP G k F (pc + 1) ls (.int (x / y) :: st) σ nx ca sl) : zWP G k F (pc) ls (.int y :: .int x :: st) σ nx ca sl := by
  intro p l e s m args below meth c A H locs la C hH hS hl
  exact lv_idiv C.1 C.2.1 d hne (kk p l e s m args below meth c A H locs la C hH hS hl)

theorem z_irem {x y : Int32} (d : decode k.2.1 pc = .ok (.irem, 1)) (hne : ¬ y = 0)
    (kk : zWP G k F (pc + 1) ls (.int (x - x / y * y) :: st) σ nx ca sl) : zWP G k F (pc) ls (.int y :: .int x :: st) σ nx ca sl := by
  intro p l e s m args below meth c A H locs la C hH hS hl
  exact lv_irem C.1 C.2.1 d hne (kk p l e s m args below meth c A H locs la C hH hS hl)

theorem z_ishl {x y : Int32} (d : decode k.2.1 pc = .ok (.ishl, 1))
    (kk : zWP G k F (pc + 1) ls (.int (x <<< (y &&& 31)) :: st) σ nx ca sl) : zWP G k F (pc) ls (.int y :: .int x :: st) σ nx ca sl := by
  intro p l e s m args below meth c A H locs la C hH hS hl
  exact lv_ishl C.1 C.2.1 d (kk p l e s m args below meth c A H locs la C hH hS hl)

theorem z_ishr {x y : Int32} (d : decode k.2.1 pc = .ok (.ishr, 1))
    (kk : zWP G k F (pc + 1) ls (.int (x >>> (y &&& 31)) :: st) σ nx ca sl) : zWP G k F (pc) ls (.int y :: .int x :: st) σ nx ca sl := by
  intro p l e s m args below meth c A H locs la C hH hS hl
  exact lv_ishr C.1 C.2.1 d (kk p l e s m args below meth c A H locs la C hH hS hl)

theorem z_iushr {x y v : Int32} (d : decode k.2.1 pc = .ok (.iushr, 1)) (hv : (x.toUInt32 >>> (y.toUInt32 &&& Int32.toUInt32 31)).toInt32 = v)
    (kk : zWP G k F (pc + 1) ls (.int v :: st) σ nx ca sl) : zWP G k F (pc) ls (.int y :: .int x :: st) σ nx ca sl := by
  intro p l e s m args below meth c A H locs la C hH hS hl
  exact lv_iushr C.1 C.2.1 d hv (kk p l e s m args below meth c A H locs la C hH hS hl)

theorem z_i2l {x : Int32} (d : decode k.2.1 pc = .ok (.i2l, 1))
    (kk : zWP G k F (pc + 1) ls (.long x.toInt64 :: st) σ nx ca sl) : zWP G k F (pc) ls (.int x :: st) σ nx ca sl := by
  intro p l e s m args below meth c A H locs la C hH hS hl
  exact lv_i2l C.1 C.2.1 d rfl (kk p l e s m args below meth c A H locs la C hH hS hl)

theorem z_l2i {x : Int64} (d : decode k.2.1 pc = .ok (.l2i, 1))
    (kk : zWP G k F (pc + 1) ls (.int x.toInt32 :: st) σ nx ca sl) : zWP G k F (pc) ls (.long x :: st) σ nx ca sl := by
  intro p l e s m args below meth c A H locs la C hH hS hl
  exact lv_l2i C.1 C.2.1 d rfl (kk p l e s m args below meth c A H locs la C hH hS hl)

theorem z_dup {a : Value} (d : decode k.2.1 pc = .ok (.dup, 1)) (ha : a.category = 1)
    (kk : zWP G k F (pc + 1) ls (a :: a :: st) σ nx ca sl) : zWP G k F (pc) ls (a :: st) σ nx ca sl := by
  intro p l e s m args below meth c A H locs la C hH hS hl
  exact lv_dup C.1 C.2.1 d ha (kk p l e s m args below meth c A H locs la C hH hS hl)

theorem z_pop {a : Value} (d : decode k.2.1 pc = .ok (.pop, 1)) (ha : a.category = 1)
    (kk : zWP G k F (pc + 1) ls (st) σ nx ca sl) : zWP G k F (pc) ls (a :: st) σ nx ca sl := by
  intro p l e s m args below meth c A H locs la C hH hS hl
  exact lv_pop C.1 C.2.1 d ha (kk p l e s m args below meth c A H locs la C hH hS hl)

theorem z_dup_x1 {a b : Value} (d : decode k.2.1 pc = .ok (.dup_x1, 1)) (ha : a.category = 1) (hb : b.category = 1)
    (kk : zWP G k F (pc + 1) ls (a :: b :: a :: st) σ nx ca sl) : zWP G k F (pc) ls (a :: b :: st) σ nx ca sl := by
  intro p l e s m args below meth c A H locs la C hH hS hl
  exact lv_dup_x1 C.1 C.2.1 d ha hb (kk p l e s m args below meth c A H locs la C hH hS hl)

theorem z_dup2 {a b : Value} (d : decode k.2.1 pc = .ok (.dup2, 1)) (ha : a.category = 1) (hb : b.category = 1)
    (kk : zWP G k F (pc + 1) ls (a :: b :: a :: b :: st) σ nx ca sl) : zWP G k F (pc) ls (a :: b :: st) σ nx ca sl := by
  intro p l e s m args below meth c A H locs la C hH hS hl
  exact lv_dup2_11 C.1 C.2.1 d ha hb (kk p l e s m args below meth c A H locs la C hH hS hl)

theorem z_dup2l {a : Value} (d : decode k.2.1 pc = .ok (.dup2, 1)) (ha : a.category = 2)
    (kk : zWP G k F (pc + 1) ls (a :: a :: st) σ nx ca sl) : zWP G k F (pc) ls (a :: st) σ nx ca sl := by
  intro p l e s m args below meth c A H locs la C hH hS hl
  exact lv_dup2_2 C.1 C.2.1 d ha (kk p l e s m args below meth c A H locs la C hH hS hl)

theorem z_goto {off : Int} {tgt : Nat} (d : decode k.2.1 pc = .ok (.goto off, 3)) (ht : (pc : Int) + off = (tgt : Int))
    (kk : zWP G k F (tgt) ls (st) σ nx ca sl) : zWP G k F (pc) ls (st) σ nx ca sl := by
  intro p l e s m args below meth c A H locs la C hH hS hl
  exact lv_goto C.1 C.2.1 d ht (kk p l e s m args below meth c A H locs la C hH hS hl)

theorem z_if_eq {x : Int32} {off : Int} {tgt : Nat} (d : decode k.2.1 pc = .ok (.ifCond .eq off, 3)) (ht : (pc : Int) + off = (tgt : Int))
    (kt : x = 0 → zWP G k F (tgt) ls (st) σ nx ca sl) (kf : ¬ x = 0 → zWP G k F (pc + 3) ls (st) σ nx ca sl) : zWP G k F (pc) ls (.int x :: st) σ nx ca sl := by
  intro p l e s m args below meth c A H locs la C hH hS hl
  exact lv_if_eq C.1 C.2.1 d ht (fun h => kt h p l e s m args below meth c A H locs la C hH hS hl) (fun h => kf h p l e s m args below meth c A H locs la C hH hS hl)

theorem z_if_ne {x : Int32} {off : Int} {tgt : Nat} (d : decode k.2.1 pc = .ok (.ifCond .ne off, 3)) (ht : (pc : Int) + off = (tgt : Int))
    (kt : ¬ x = 0 → zWP G k F (tgt) ls (st) σ nx ca sl) (kf : x = 0 → zWP G k F (pc + 3) ls (st) σ nx ca sl) : zWP G k F (pc) ls (.int x :: st) σ nx ca sl := by
  intro p l e s m args below meth c A H locs la C hH hS hl
  exact lv_if_ne C.1 C.2.1 d ht (fun h => kt h p l e s m args below meth c A H locs la C hH hS hl) (fun h => kf h p l e s m args below meth c A H locs la C hH hS hl)

theorem z_if_lt {x : Int32} {off : Int} {tgt : Nat} (d : decode k.2.1 pc = .ok (.ifCond .lt off, 3)) (ht : (pc : Int) + off = (tgt : Int))
    (kt : x < 0 → zWP G k F (tgt) ls (st) σ nx ca sl) (kf : ¬ x < 0 → zWP G k F (pc + 3) ls (st) σ nx ca sl) : zWP G k F (pc) ls (.int x :: st) σ nx ca sl := by
  intro p l e s m args below meth c A H locs la C hH hS hl
  exact lv_if_lt C.1 C.2.1 d ht (fun h => kt h p l e s m args below meth c A H locs la C hH hS hl) (fun h => kf h p l e s m args below meth c A H locs la C hH hS hl)

theorem z_if_ge {x : Int32} {off : Int} {tgt : Nat} (d : decode k.2.1 pc = .ok (.ifCond .ge off, 3)) (ht : (pc : Int) + off = (tgt : Int))
    (kt : 0 ≤ x → zWP G k F (tgt) ls (st) σ nx ca sl) (kf : ¬ 0 ≤ x → zWP G k F (pc + 3) ls (st) σ nx ca sl) : zWP G k F (pc) ls (.int x :: st) σ nx ca sl := by
  intro p l e s m args below meth c A H locs la C hH hS hl
  exact lv_if_ge C.1 C.2.1 d ht (fun h => kt h p l e s m args below meth c A H locs la C hH hS hl) (fun h => kf h p l e s m args below meth c A H locs la C hH hS hl)

theorem z_if_gt {x : Int32} {off : Int} {tgt : Nat} (d : decode k.2.1 pc = .ok (.ifCond .gt off, 3)) (ht : (pc : Int) + off = (tgt : Int))
    (kt : 0 < x → zWP G k F (tgt) ls (st) σ nx ca sl) (kf : ¬ 0 < x → zWP G k F (pc + 3) ls (st) σ nx ca sl) : zWP G k F (pc) ls (.int x :: st) σ nx ca sl := by
  intro p l e s m args below meth c A H locs la C hH hS hl
  exact lv_if_gt C.1 C.2.1 d ht (fun h => kt h p l e s m args below meth c A H locs la C hH hS hl) (fun h => kf h p l e s m args below meth c A H locs la C hH hS hl)

theorem z_if_le {x : Int32} {off : Int} {tgt : Nat} (d : decode k.2.1 pc = .ok (.ifCond .le off, 3)) (ht : (pc : Int) + off = (tgt : Int))
    (kt : x ≤ 0 → zWP G k F (tgt) ls (st) σ nx ca sl) (kf : ¬ x ≤ 0 → zWP G k F (pc + 3) ls (st) σ nx ca sl) : zWP G k F (pc) ls (.int x :: st) σ nx ca sl := by
  intro p l e s m args below meth c A H locs la C hH hS hl
  exact lv_if_le C.1 C.2.1 d ht (fun h => kt h p l e s m args below meth c A H locs la C hH hS hl) (fun h => kf h p l e s m args below meth c A H locs la C hH hS hl)

theorem z_icmp_eq {x y : Int32} {off : Int} {tgt : Nat} (d : decode k.2.1 pc = .ok (.if_icmp .eq off, 3)) (ht : (pc : Int) + off = (tgt : Int))
    (kt : x = y → zWP G k F (tgt) ls (st) σ nx ca sl) (kf : ¬ x = y → zWP G k F (pc + 3) ls (st) σ nx ca sl) : zWP G k F (pc) ls (.int y :: .int x :: st) σ nx ca sl := by
  intro p l e s m args below meth c A H locs la C hH hS hl
  exact lv_icmp_eq C.1 C.2.1 d ht (fun h => kt h p l e s m args below meth c A H locs la C hH hS hl) (fun h => kf h p l e s m args below meth c A H locs la C hH hS hl)

theorem z_icmp_ne {x y : Int32} {off : Int} {tgt : Nat} (d : decode k.2.1 pc = .ok (.if_icmp .ne off, 3)) (ht : (pc : Int) + off = (tgt : Int))
    (kt : ¬ x = y → zWP G k F (tgt) ls (st) σ nx ca sl) (kf : x = y → zWP G k F (pc + 3) ls (st) σ nx ca sl) : zWP G k F (pc) ls (.int y :: .int x :: st) σ nx ca sl := by
  intro p l e s m args below meth c A H locs la C hH hS hl
  exact lv_icmp_ne C.1 C.2.1 d ht (fun h => kt h p l e s m args below meth c A H locs la C hH hS hl) (fun h => kf h p l e s m args below meth c A H locs la C hH hS hl)

theorem z_icmp_lt {x y : Int32} {off : Int} {tgt : Nat} (d : decode k.2.1 pc = .ok (.if_icmp .lt off, 3)) (ht : (pc : Int) + off = (tgt : Int))
    (kt : x < y → zWP G k F (tgt) ls (st) σ nx ca sl) (kf : ¬ x < y → zWP G k F (pc + 3) ls (st) σ nx ca sl) : zWP G k F (pc) ls (.int y :: .int x :: st) σ nx ca sl := by
  intro p l e s m args below meth c A H locs la C hH hS hl
  exact lv_icmp_lt C.1 C.2.1 d ht (fun h => kt h p l e s m args below meth c A H locs la C hH hS hl) (fun h => kf h p l e s m args below meth c A H locs la C hH hS hl)

theorem z_icmp_ge {x y : Int32} {off : Int} {tgt : Nat} (d : decode k.2.1 pc = .ok (.if_icmp .ge off, 3)) (ht : (pc : Int) + off = (tgt : Int))
    (kt : y ≤ x → zWP G k F (tgt) ls (st) σ nx ca sl) (kf : ¬ y ≤ x → zWP G k F (pc + 3) ls (st) σ nx ca sl) : zWP G k F (pc) ls (.int y :: .int x :: st) σ nx ca sl := by
  intro p l e s m args below meth c A H locs la C hH hS hl
  exact lv_icmp_ge C.1 C.2.1 d ht (fun h => kt h p l e s m args below meth c A H locs la C hH hS hl) (fun h => kf h p l e s m args below meth c A H locs la C hH hS hl)

theorem z_icmp_gt {x y : Int32} {off : Int} {tgt : Nat} (d : decode k.2.1 pc = .ok (.if_icmp .gt off, 3)) (ht : (pc : Int) + off = (tgt : Int))
    (kt : y < x → zWP G k F (tgt) ls (st) σ nx ca sl) (kf : ¬ y < x → zWP G k F (pc + 3) ls (st) σ nx ca sl) : zWP G k F (pc) ls (.int y :: .int x :: st) σ nx ca sl := by
  intro p l e s m args below meth c A H locs la C hH hS hl
  exact lv_icmp_gt C.1 C.2.1 d ht (fun h => kt h p l e s m args below meth c A H locs la C hH hS hl) (fun h => kf h p l e s m args below meth c A H locs la C hH hS hl)

theorem z_icmp_le {x y : Int32} {off : Int} {tgt : Nat} (d : decode k.2.1 pc = .ok (.if_icmp .le off, 3)) (ht : (pc : Int) + off = (tgt : Int))
    (kt : x ≤ y → zWP G k F (tgt) ls (st) σ nx ca sl) (kf : ¬ x ≤ y → zWP G k F (pc + 3) ls (st) σ nx ca sl) : zWP G k F (pc) ls (.int y :: .int x :: st) σ nx ca sl := by
  intro p l e s m args below meth c A H locs la C hH hS hl
  exact lv_icmp_le C.1 C.2.1 d ht (fun h => kt h p l e s m args below meth c A H locs la C hH hS hl) (fun h => kf h p l e s m args below meth c A H locs la C hH hS hl)

theorem z_acmp_eq {rx ry : Option Nat} {off : Int} {tgt : Nat} (d : decode k.2.1 pc = .ok (.if_acmp .eq off, 3)) (ht : (pc : Int) + off = (tgt : Int))
    (kt : rx = ry → zWP G k F (tgt) ls (st) σ nx ca sl) (kf : ¬ rx = ry → zWP G k F (pc + 3) ls (st) σ nx ca sl) : zWP G k F (pc) ls (va_rf ry :: va_rf rx :: st) σ nx ca sl := by
  intro p l e s m args below meth c A H locs la C hH hS hl
  exact lv_acmp_eq C.1 C.2.1 d ht (fun h => kt h p l e s m args below meth c A H locs la C hH hS hl) (fun h => kf h p l e s m args below meth c A H locs la C hH hS hl)

theorem z_acmp_ne {rx ry : Option Nat} {off : Int} {tgt : Nat} (d : decode k.2.1 pc = .ok (.if_acmp .ne off, 3)) (ht : (pc : Int) + off = (tgt : Int))
    (kt : ¬ rx = ry → zWP G k F (tgt) ls (st) σ nx ca sl) (kf : rx = ry → zWP G k F (pc + 3) ls (st) σ nx ca sl) : zWP G k F (pc) ls (va_rf ry :: va_rf rx :: st) σ nx ca sl := by
  intro p l e s m args below meth c A H locs la C hH hS hl
  exact lv_acmp_ne C.1 C.2.1 d ht (fun h => kt h p l e s m args below meth c A H locs la C hH hS hl) (fun h => kf h p l e s m args below meth c A H locs la C hH hS hl)

theorem z_lcmp {x y : Int64} {v : Int32} (d : decode k.2.1 pc = .ok (.lcmp, 1)) (hv : lg_cmp x y = v)
    (kk : zWP G k F (pc + 1) ls (.int v :: st) σ nx ca sl) : zWP G k F (pc) ls (.long y :: .long x :: st) σ nx ca sl := by
  intro p l e s m args below meth c A H locs la C hH hS hl
  subst hv
  exact W.lcmp C.1 C.2.1 d (kk p l e s m args below meth c A H locs la C hH hS hl)

theorem z_fdiv {x y : UInt32} (d : decode k.2.1 pc = .ok (.fdiv, 1)) (hne : vf_n32 (FP.fdiv x y))
    (kk : zWP G k F (pc + 1) ls (.float (FP.fdiv x y) :: st) σ nx ca sl) : zWP G k F (pc) ls (.float y :: .float x :: st) σ nx ca sl := by
  intro p l e s m args below meth c A H locs la C hH hS hl
  exact lv_fdiv C.1 C.2.1 d hne (kk p l e s m args below meth c A H locs la C hH hS hl)

theorem z_i2f {x : Int32} (d : decode k.2.1 pc = .ok (.i2f, 1))
    (kk : zWP G k F (pc + 1) ls (.float (FP.i2f x) :: st) σ nx ca sl) : zWP G k F (pc) ls (.int x :: st) σ nx ca sl := by
  intro p l e s m args below meth c A H locs la C hH hS hl
  exact lv_i2f C.1 C.2.1 d (kk p l e s m args below meth c A H locs la C hH hS hl)

theorem z_f2d {x : UInt32} (d : decode k.2.1 pc = .ok (.f2d, 1)) (hne : vf_n64 (FP.f2d x))
    (kk : zWP G k F (pc + 1) ls (.double (FP.f2d x) :: st) σ nx ca sl) : zWP G k F (pc) ls (.float x :: st) σ nx ca sl := by
  intro p l e s m args below meth c A H locs la C hH hS hl
  exact lv_f2d C.1 C.2.1 d hne (kk p l e s m args below meth c A H locs la C hH hS hl)

theorem z_dcmp {x y : UInt64} {op : CmpOp} (d : decode k.2.1 pc = .ok (.dcmp op, 1))
    (kk : zWP G k F (pc + 1) ls (.int (Op.cmpValue (FP.dcmp x y) op) :: st) σ nx ca sl) : zWP G k F (pc) ls (.double y :: .double x :: st) σ nx ca sl := by
  intro p l e s m args below meth c A H locs la C hH hS hl
  exact lv_dcmp C.1 C.2.1 d (kk p l e s m args below meth c A H locs la C hH hS hl)

theorem z_ldc {i : Nat} {v : Int32} (d : decode k.2.1 pc = .ok (.ldc i, 2)) (hw : Cond.constant k.1 i v ∈ zW)
    (kk : zWP G k F (pc + 2) ls (.int v :: st) σ nx ca sl) : zWP G k F (pc) ls (st) σ nx ca sl := by
  intro p l e s m args below meth c A H locs la C hH hS hl
  exact lv_ldc C.1 C.2.1 C.2.2.2.1 (C.2.2.2.2.1 _ hw) d (kk p l e s m args below meth c A H locs la C hH hS hl)

theorem z_ldc_w {i : Nat} {v : Int32} (d : decode k.2.1 pc = .ok (.ldc_w i, 3)) (hw : Cond.constant k.1 i v ∈ zW)
    (kk : zWP G k F (pc + 3) ls (.int v :: st) σ nx ca sl) : zWP G k F (pc) ls (st) σ nx ca sl := by
  intro p l e s m args below meth c A H locs la C hH hS hl
  exact lv_ldcw C.1 C.2.1 C.2.2.2.1 (C.2.2.2.2.1 _ hw) d (kk p l e s m args below meth c A H locs la C hH hS hl)

theorem z_ldc2 {i : Nat} {v : Int64} (d : decode k.2.1 pc = .ok (.ldc2_w i, 3)) (hw : Cond.constantLong k.1 i v ∈ zW)
    (kk : zWP G k F (pc + 3) ls (.long v :: st) σ nx ca sl) : zWP G k F (pc) ls (st) σ nx ca sl := by
  intro p l e s m args below meth c A H locs la C hH hS hl
  exact lv_ldc2 C.1 C.2.1 C.2.2.2.1 (C.2.2.2.2.1 _ hw) d (kk p l e s m args below meth c A H locs la C hH hS hl)

end ZROWS
section ZHEAP
variable {G : zG} {k : zK} {F : zF} {pc nx ca sl : Nat} {ls : zL} {st : List Value} {σ : zH}
/-- a field's facts: read; written; written in a constructor, final -/
def zFl (own : String) (idx ci j : Nat) : Prop := ∃ (C : String) (T : u_T) (N : Nat), vwCl[ci]? = some (C, T, N) ∧ j < N ∧ (Cond.fieldLink own idx (T j).1 (T j).2.1 (T j).2.2.1 ∈ zW ∨ ∃ host, Cond.fieldLinkNest own idx (T j).1 (T j).2.1 (T j).2.2.1 host ∈ zN) ∧ (∀ w ∈ u_ws C T N, w ∈ zW)
def zFp (own : String) (idx ci j : Nat) (ty : FieldType) : Prop := ∃ (C : String) (T : u_T) (N : Nat) (ty0 : Nat → FieldType), vwCl[ci]? = some (C, T, N) ∧ j < N ∧ (Cond.fieldLink own idx (T j).1 (T j).2.1 (T j).2.2.1 ∈ zW ∨ ∃ host, Cond.fieldLinkNest own idx (T j).1 (T j).2.1 (T j).2.2.1 host ∈ zN) ∧ (∀ w ∈ u_ws C T N, w ∈ zW) ∧
  (∀ i, i < N → parseFieldDescriptor (T i).2.2.1 = some (ty0 i)) ∧ (∀ a, a < N → ∀ b, b < N → a ≠ b → (T a).2.1 ≠ (T b).2.1) ∧ ty0 j = ty ∧ (T j).2.2.2 = false
def zFf (own : String) (idx ci j : Nat) (ty : FieldType) : Prop := ∃ (C : String) (T : u_T) (N : Nat) (ty0 : Nat → FieldType), vwCl[ci]? = some (C, T, N) ∧ j < N ∧ Cond.fieldLink own idx (T j).1 (T j).2.1 (T j).2.2.1 ∈ zW ∧ (∀ w ∈ u_ws C T N, w ∈ zW) ∧
  (∀ i, i < N → parseFieldDescriptor (T i).2.2.1 = some (ty0 i)) ∧ (∀ a, a < N → ∀ b, b < N → a ≠ b → (T a).2.1 ≠ (T b).2.1) ∧ ty0 j = ty ∧ (T j).2.2.2 = true ∧ (T j).1 = own
theorem z_getf {idx ci j a : Nat} {fs : List Value} {v : Value} (d : decode k.2.1 pc = .ok (.getfield idx, 3)) (hf : zFl k.1 idx ci j) (hσ : σ a = some (.inr (ci, fs))) (hv : fs[j]? = some v)
    (kk : zWP G k F (pc + 3) ls (v :: st) σ nx ca sl) : zWP G k F pc ls (.ref a :: st) σ nx ca sl := by
  intro p l e s m args below meth c A H locs la C hH hS hl
  have K := kk p l e s m args below meth c A H locs la C hH hS hl
  obtain ⟨hx, hb, -, hown, hts, hK, -, -, -, -, -, ho, -⟩ := C
  obtain ⟨ws, q0, hP, -, hq, -⟩ := hH.at hσ
  obtain ⟨C, T, N, hc, hj, hk, hin⟩ := hf
  rcases hk with hk | ⟨host, hk⟩
  · exact va_get hx hb hts hin hown hK hP q0 hq hc j hj (hts _ hk) (fun _ h => h) hv d K
  · exact va_getN hx hb hts hin hown hK hP q0 hq hc j hj (va_Nw.use rfl (ho.2.2.2.2.2.2.1 _ hk)) (fun _ h => h) hv d K
theorem z_putf {idx ci j a : Nat} {fs : List Value} {v : Value} {ty : FieldType} (d : decode k.2.1 pc = .ok (.putfield idx, 3)) (hf : zFp k.1 idx ci j ty) (hσ : σ a = some (.inr (ci, fs))) (hn : narrow ty v = v) (hfit : fits ty v = true) (hl0 : j < fs.length)
    (kk : zWP G k F (pc + 3) ls st (zu σ a (.inr (ci, fs.set j v))) nx ca sl) : zWP G k F pc ls (v :: .ref a :: st) σ nx ca sl := by
  intro p l e s m args below meth c A H locs la CC hH hS hl
  obtain ⟨hx, hb, -, hown, hts, hK, -, -, -, -, -, ho, -⟩ := id CC
  obtain ⟨ws, q0, hP, hD, hq, -⟩ := hH.at hσ
  obtain ⟨C, T, N, ty0, hc, hj, hlk, hin, hty, hnm, rfl, hfin⟩ := hf
  have hap := va_apart (own := k.1) hts hin ty0 hty hnm hK hc
  obtain ⟨r, h1, cell, q1, q2, q3, q4⟩ := hP q0 _ hq
  have hr : r = (C, T, N) := Option.some.inj (h1.symm.trans hc)
  subst hr
  obtain ⟨hSl, hfc, kC, hkC, hkind⟩ := hK.1 ci _ hc
  obtain ⟨cf, kf, fi, f, hi, hsl⟩ := hSl j hj
  have hlay := hts _ (hin _ (u_in_lay hj))
  unfold u_lay at hlay
  rw [if_neg (by rw [hfin]; decide)] at hlay
  have hst := (u_facts hfc hkC (u_lays hts hin hj) hi).1
  have h6 := u_store hfc hkC hkind hlay hi (hty j hj) hn hfit
  have fin : ∀ (H' : Heap), H'[a]? = some (cell.setSlot f.slot v) → H'.size = H.size → (∀ q, q ≠ a → H'[q]? = H[q]?) → W p l e k.2.2.2.1 s m args below meth c H' (locs ++ [⟨a, f.slot⟩]) ca sl (F below args s A) (F0 m (pc + 3) la st) := by
    intro H' e1 e2 e3
    rw [hsl] at e1 ⊢
    exact kk p l e s m args below meth c A H' _ la CC (hH.put hσ e2 ⟨_, hc, t_OB.to (V := updV (vp_V fs) j v) ⟨_, e1, q2, q3, t_set q4 hap hj v⟩ (fun i _ => vp_updV_set hl0 v i)⟩ e3) (hS.put e2 e3 (hH.isA hσ)) hl
  rcases hlk with hlk | ⟨host, hlk⟩
  · exact W.putK hx hb (f := f) ⟨hown, hts _ hlk, ⟨_, _, _, hi⟩, hst⟩ (by rw [q2]; exact h6) q1 q3 (by rw [hsl]; exact k2_hasslot (q4 j hj)) rfl rfl d fin
  · exact va_WputK hx hb (f := f) hown (va_Nw.use rfl (ho.2.2.2.2.2.2.1 _ hlk)) hi hst (by rw [q2]; exact h6) q1 q3 (by rw [hsl]; exact k2_hasslot (q4 j hj)) rfl rfl d fin
theorem z_putF {idx ci j a : Nat} {fs : List Value} {v : Value} {ty : FieldType} (d : decode k.2.1 pc = .ok (.putfield idx, 3)) (hf : zFf k.1 idx ci j ty) (hnam : k.2.2.2.2.2.1 = "<init>") (hσ : σ a = some (.inr (ci, fs))) (hn : narrow ty v = v) (hfit : fits ty v = true) (hl0 : j < fs.length)
    (kk : zWP G k F (pc + 3) ls st (zu σ a (.inr (ci, fs.set j v))) nx ca sl) : zWP G k F pc ls (v :: .ref a :: st) σ nx ca sl := by
  intro p l e s m args below meth c A H locs la CC hH hS hl
  obtain ⟨hx, hb, -, hown, hts, hK, -, -, -, hname, -, ho, -⟩ := id CC
  obtain ⟨ws, q0, hP, hD, hq, -⟩ := hH.at hσ
  obtain ⟨C, T, N, ty0, hc, hj, hlk, hin, hty, hnm, rfl, hfin, hdecl⟩ := hf
  have hap := va_apart (own := k.1) hts hin ty0 hty hnm hK hc
  obtain ⟨r, h1, cell, q1, q2, q3, q4⟩ := hP q0 _ hq
  have hr : r = (C, T, N) := Option.some.inj (h1.symm.trans hc)
  subst hr
  obtain ⟨hSl, hfc, kC, hkC, hkind⟩ := hK.1 ci _ hc
  obtain ⟨cf, kf, fi, f, hi, hsl⟩ := hSl j hj
  have hlay := hts _ (hin _ (u_in_lay hj))
  unfold u_lay at hlay
  rw [if_pos hfin] at hlay
  have hst := (u_facts hfc hkC (u_lays hts hin hj) hi).1
  have hcf : m.cls = cf := by
    obtain ⟨_, _, c', _, _, _, -, -, hf', -, -, -, hown2, -⟩ := Cond.laysFinal_spec hlay
    have e1 : c' = cf := by have := hi.symm.trans hf'; simp at this; exact this.1.symm
    rw [hdecl] at hown2
    rw [← e1]; exact Option.some.inj (hown.symm.trans hown2)
  have h6 := u_fits hfc hkC hkind (Or.inr hlay) hi (hty j hj) hn hfit
  refine W.putFinK hx hb hown (hts _ hlk) hi hst hcf (hname.trans hnam) (by rw [q2]; exact h6) q1 q3 (by rw [hsl]; exact k2_hasslot (q4 j hj)) rfl rfl d fun H' e1 e2 e3 => ?_
  rw [hsl] at e1 ⊢
  exact kk p l e s m args below meth c A H' _ la CC (hH.put hσ e2 ⟨_, hc, t_OB.to (V := updV (vp_V fs) j v) ⟨_, e1, q2, q3, t_set q4 hap hj v⟩ (fun i _ => vp_updV_set hl0 v i)⟩ e3) (hS.put e2 e3 (hH.isA hσ)) hl
theorem z_objInit {idx a : Nat} (d : decode k.2.1 pc = .ok (.invokespecial idx, 3)) (hw : Cond.methodLink k.1 idx objectInit ∈ zW) (hfr : 1 ≤ k.2.2.2.1.frames) (hlo : (st.map fun v => v.category).sum + 12 ≤ k.2.2.2.1.locals)
    (kk : zWP G k F (pc + 3) ls st σ nx ca sl) : zWP G k F pc ls (.ref a :: st) σ nx ca sl := by
  intro p l e s m args below meth c A H locs la CC hH hS hl
  obtain ⟨hx, hb, hml, hown, hts, -⟩ := id CC
  exact W.objInit hx hb hown (hts _ hw) (hts _ zObj1) (hts _ zObj2) rfl (hl.1.trans hml.symm) rfl d hfr (by simpa [JFrame.monitorRoom] using hlo) (kk p l e s m args below meth c A H locs la CC hH hS hl)
/-- a new object -/
def zNw (own : String) (idx ci : Nat) (fs : List Value) : Prop := ∃ (C : String) (T : u_T) (N : Nat) (ty : Nat → FieldType), vwCl[ci]? = some (C, T, N) ∧ Cond.classLink own idx C ∈ zW ∧ Cond.instantiable C N ∈ zW ∧ Cond.initialized C ∈ zW ∧ (∀ w ∈ u_ws C T N, w ∈ zW) ∧ (∀ i, i < N → parseFieldDescriptor (T i).2.2.1 = some (ty i)) ∧ (∀ j, j < N → defaultValue (ty j) = vp_V fs j) ∧ fs.length = N
theorem z_new {idx ci : Nat} {fs : List Value} (d : decode k.2.1 pc = .ok (.new idx, 3)) (hn : zNw k.1 idx ci fs) (hca : ca + 1 ≤ k.2.2.2.1.cells) (hsl : sl + fs.length ≤ k.2.2.2.1.slots)
    (kk : zWP G k F (pc + 3) ls (.ref nx :: st) (zu σ nx (.inr (ci, fs))) (nx + 1) (ca + 1) (sl + fs.length)) : zWP G k F pc ls st σ nx ca sl := by
  intro p l e s m args below meth c A H locs la CC hH hS hl
  obtain ⟨hx, hb, -, hown, hts, hK, hA, -⟩ := id CC
  obtain ⟨C, T, N, ty, hc, hlk, hins, hini, hin, hty, hfs, rfl⟩ := hn
  have hKn := hK.1 ci _ hc
  have hle : s.heap.size ≤ nx := by rw [← hH.1]; exact hS.1
  refine W.newcK hx hb hown (hts _ hlk) (hts _ hins) (hts _ hini) rfl d hca hsl hKn.2.1 hH.1 fun H1 kC hkC e1 z1 o1 => ?_
  exact kk p l e s m args below meth c A H1 locs la CC (hH.push z1 ⟨_, hc, (u_born ty hts hin hKn hkC e1 hty).to hfs⟩ o1 (hA _ hle)) ⟨by omega, fun x h1 h2 => (o1 x (by omega)).trans (hS.2.1 x h1 h2), hS.2.2⟩ hl
theorem zcy {G : zG} {s : State} {t0 : Nat} {cA cB : ClassId} {ty : FieldType} (hK : va_K G.1 vwCl (zTys G) s) (ht : (zTys G)[t0]? = some (cB, ty)) (hp : s.vm.findClass ("[" ++ ty.toString) = some cA) : cA = cB := by
  have h := (hK.2 t0 _ ht).2
  cases ty <;> first | exact Option.some.inj (hp.symm.trans h) | (obtain ⟨kA, comp, -, -, -, h4⟩ := h; exact Option.some.inj (hp.symm.trans h4))
theorem z_newa {at_ : ArrayType} {t0 N : Nat} {n : Int32} {cB : ClassId} {x : vp_A} (d : decode k.2.1 pc = .ok (.newarray at_, 2)) (hw : Cond.arrayClass (newarray.typeOf at_) ∈ zW) (ht : (zTys G)[t0]? = some (cB, newarray.typeOf at_)) (hx0 : vp_cell cB x = arrV cB N (fun _ => defaultValue (newarray.typeOf at_)))
    (hn : ¬ n < 0) (hN : n.toNatClampNeg = N) (hby : N * componentBytes (newarray.typeOf at_) ≤ 536870912) (hca : ca + 1 ≤ k.2.2.2.1.cells) (hsl : sl + N ≤ k.2.2.2.1.slots)
    (kk : zWP G k F (pc + 2) ls (.ref nx :: st) (zu σ nx (.inl (cB, x))) (nx + 1) (ca + 1) (sl + N)) : zWP G k F pc ls (.int n :: st) σ nx ca sl := by
  intro p l e s m args below meth c A H locs la CC hH hS hl
  obtain ⟨hx, hb, -, hown, hts, hK, hA, -⟩ := id CC
  have hle : s.heap.size ≤ nx := by rw [← hH.1]; exact hS.1
  refine va_newaK hx hb (hts _ hw) rfl d rfl hn hN hby hca hsl hH.1 fun H1 cA e1 z1 o1 hAr hNm => ?_
  cases zcy hK ht hNm
  exact kk p l e s m args below meth c A H1 locs la CC (hH.push z1 (by show H1[nx]? = some (vp_cell _ _); rw [hx0]; exact e1) o1 (hA _ hle)) ⟨by omega, fun x h1 h2 => (o1 x (by omega)).trans (hS.2.1 x h1 h2), hS.2.2⟩ hl
theorem z_alen {a t0 : Nat} {cB : ClassId} {ty : FieldType} {x : vp_A} {v : Int32} (d : decode k.2.1 pc = .ok (.arraylength, 1)) (hσ : σ a = some (.inl (cB, x))) (ht : (zTys G)[t0]? = some (cB, ty)) (hv : Int32.ofNat x.1 = v)
    (kk : zWP G k F (pc + 1) ls (.int v :: st) σ nx ca sl) : zWP G k F pc ls (.ref a :: st) σ nx ca sl := by
  intro p l e s m args below meth c A H locs la CC hH hS hl
  obtain ⟨hx, hb, -, hown, hts, hK, hA, -⟩ := id CC
  obtain ⟨ws, q0, hP, -, hq, -⟩ := hH.at hσ
  exact va_alen hx hb hK hP q0 t0 hq ht hv d (kk p l e s m args below meth c A H locs la CC hH hS hl)
theorem z_iald {a n : Nat} {f : Nat → Int32} {i : Int32} (d : decode k.2.1 pc = .ok (.iaload, 1)) (hσ : σ a = some (zI G n f)) (hi : vp_in i n)
    (kk : zWP G k F (pc + 1) ls (.int (f i.toNatClampNeg) :: st) σ nx ca sl) : zWP G k F pc ls (.int i :: .ref a :: st) σ nx ca sl := by
  intro p l e s m args below meth c A H locs la CC hH hS hl
  obtain ⟨hx, hb, -, hown, hts, hK, hA, -⟩ := id CC
  obtain ⟨ws, q0, hP, -, hq, -⟩ := hH.at hσ
  exact va_iald hx hb hK hP q0 0 hq rfl hi d (kk p l e s m args below meth c A H locs la CC hH hS hl)
theorem z_zald {a n : Nat} {f : Nat → Int32} {i : Int32} (d : decode k.2.1 pc = .ok (.baload, 1)) (hσ : σ a = some (zZ G n f)) (hi : vp_in i n)
    (kk : zWP G k F (pc + 1) ls (.int (f i.toNatClampNeg) :: st) σ nx ca sl) : zWP G k F pc ls (.int i :: .ref a :: st) σ nx ca sl := by
  intro p l e s m args below meth c A H locs la CC hH hS hl
  obtain ⟨hx, hb, -, hown, hts, hK, hA, -⟩ := id CC
  obtain ⟨ws, q0, hP, -, hq, -⟩ := hH.at hσ
  exact va_zald hx hb hK hP q0 1 hq rfl hi d (kk p l e s m args below meth c A H locs la CC hH hS hl)
theorem z_lald {a n : Nat} {f : Nat → Int64} {i : Int32} (d : decode k.2.1 pc = .ok (.laload, 1)) (hσ : σ a = some (zJ G n f)) (hi : vp_in i n)
    (kk : zWP G k F (pc + 1) ls (.long (f i.toNatClampNeg) :: st) σ nx ca sl) : zWP G k F pc ls (.int i :: .ref a :: st) σ nx ca sl := by
  intro p l e s m args below meth c A H locs la CC hH hS hl
  obtain ⟨hx, hb, -, hown, hts, hK, hA, -⟩ := id CC
  obtain ⟨ws, q0, hP, -, hq, -⟩ := hH.at hσ
  exact va_lald hx hb hK hP q0 2 hq rfl hi d (kk p l e s m args below meth c A H locs la CC hH hS hl)
theorem z_rald {a n : Nat} {f : Nat → Option Nat} {i : Int32} (d : decode k.2.1 pc = .ok (.aaload, 1)) (hσ : σ a = some (zR G n f)) (hi : vp_in i n)
    (kk : zWP G k F (pc + 1) ls (va_rf (f i.toNatClampNeg) :: st) σ nx ca sl) : zWP G k F pc ls (.int i :: .ref a :: st) σ nx ca sl := by
  intro p l e s m args below meth c A H locs la CC hH hS hl
  obtain ⟨hx, hb, -, hown, hts, hK, hA, -⟩ := id CC
  obtain ⟨ws, q0, hP, -, hq, -⟩ := hH.at hσ
  exact va_aldq hx hb hK hP q0 3 hq rfl hi d (kk p l e s m args below meth c A H locs la CC hH hS hl)
theorem z_eald {a n : Nat} {f : Nat → Option Nat} {i : Int32} (d : decode k.2.1 pc = .ok (.aaload, 1)) (hσ : σ a = some (zE G n f)) (hi : vp_in i n)
    (kk : zWP G k F (pc + 1) ls (va_rf (f i.toNatClampNeg) :: st) σ nx ca sl) : zWP G k F pc ls (.int i :: .ref a :: st) σ nx ca sl := by
  intro p l e s m args below meth c A H locs la CC hH hS hl
  obtain ⟨hx, hb, -, hown, hts, hK, hA, -⟩ := id CC
  obtain ⟨ws, q0, hP, -, hq, -⟩ := hH.at hσ
  exact va_aldq hx hb hK hP q0 4 hq rfl hi d (kk p l e s m args below meth c A H locs la CC hH hS hl)
theorem zst_i {G : zG} {A : Nat → Prop} {a n j : Nat} {cA : ClassId} {f : Nat → Int32} {x : Int32} {H1 : Heap} (e : H1[a]? = some ((vp_cell cA (n, .inl f)).setSlot j (.int x))) : va_at G.1 vwCl (a, .inl (cA, n, .inl (upd f j x))) H1 := by
  show H1[a]? = some (vp_cell _ _)
  rw [e, vp_cell_i, vp_cell_i, arrV_store]
  congr 2
  funext q
  by_cases hq : q = j
  · subst hq
    simp [updV, upd]
  · simp [updV, upd, hq]
theorem z_iast {a n : Nat} {f : Nat → Int32} {i x : Int32} (d : decode k.2.1 pc = .ok (.iastore, 1)) (hσ : σ a = some (zI G n f)) (hi : vp_in i n)
    (kk : zWP G k F (pc + 1) ls st (zu σ a (zI G n (upd f i.toNatClampNeg x))) nx ca sl) : zWP G k F pc ls (.int x :: .int i :: .ref a :: st) σ nx ca sl := by
  intro p l e s m args below meth c A H locs la CC hH hS hl
  obtain ⟨hx, hb, -, hown, hts, hK, hA, -⟩ := id CC
  obtain ⟨ws, q0, hP, -, hq, -⟩ := hH.at hσ
  exact W.iast hx hb (hP q0 _ hq) ((hK.2 0 _ rfl).1 n (fun j => .int (f j))) (fun q => by cases q) (by show ¬ (i < 0 ∨ (arrV _ _ _).slots.size ≤ _); rw [arrV_size]; exact hi) rfl rfl d fun H1 e1 z oq =>
    kk p l e s m args below meth c A H1 _ la CC (hH.put hσ z (zst_i (A := A) e1) oq) (hS.put z oq (hH.isA hσ)) hl
theorem z_zast {a n : Nat} {f : Nat → Int32} {i x : Int32} (d : decode k.2.1 pc = .ok (.bastore, 1)) (hσ : σ a = some (zZ G n f)) (hi : vp_in i n) (hn : narrow .boolean (.int x) = .int x)
    (kk : zWP G k F (pc + 1) ls st (zu σ a (zZ G n (upd f i.toNatClampNeg x))) nx ca sl) : zWP G k F pc ls (.int x :: .int i :: .ref a :: st) σ nx ca sl := by
  intro p l e s m args below meth c A H locs la CC hH hS hl
  obtain ⟨hx, hb, -, hown, hts, hK, hA, -⟩ := id CC
  obtain ⟨ws, q0, hP, -, hq, -⟩ := hH.at hσ
  exact W.zast hx hb (hP q0 _ hq) ((hK.2 1 _ rfl).1 n (fun j => .int (f j))) (fun q => by cases q) (by show ¬ (i < 0 ∨ (arrV _ _ _).slots.size ≤ _); rw [arrV_size]; exact hi) rfl rfl d fun H1 e1 z oq =>
    kk p l e s m args below meth c A H1 _ la CC (hH.put hσ z (zst_i (A := A) (by rw [hn] at e1; exact e1)) oq) (hS.put z oq (hH.isA hσ)) hl
theorem zst_l {G : zG} {A : Nat → Prop} {a n j : Nat} {cA : ClassId} {f : Nat → Int64} {x : Int64} {H1 : Heap} (e : H1[a]? = some ((vp_cell cA (n, .inr (.inl f))).setSlot j (.long x))) : va_at G.1 vwCl (a, .inl (cA, n, .inr (.inl (vp_updL f j x)))) H1 := by
  show H1[a]? = some (vp_cell _ _)
  rw [e, vp_cell_l, vp_cell_l, arrV_store]
  congr 2
  funext q
  by_cases hq : q = j
  · subst hq
    simp [updV, vp_updL]
  · simp [updV, vp_updL, hq]
theorem z_last {a n : Nat} {f : Nat → Int64} {i : Int32} {x : Int64} (d : decode k.2.1 pc = .ok (.lastore, 1)) (hσ : σ a = some (zJ G n f)) (hi : vp_in i n)
    (kk : zWP G k F (pc + 1) ls st (zu σ a (zJ G n (vp_updL f i.toNatClampNeg x))) nx ca sl) : zWP G k F pc ls (.long x :: .int i :: .ref a :: st) σ nx ca sl := by
  intro p l e s m args below meth c A H locs la CC hH hS hl
  obtain ⟨hx, hb, -, hown, hts, hK, hA, -⟩ := id CC
  obtain ⟨ws, q0, hP, -, hq, -⟩ := hH.at hσ
  exact W.last hx hb (hP q0 _ hq) ((hK.2 2 _ rfl).1 n (fun j => .long (f j))) (fun q => by cases q) (by show ¬ (i < 0 ∨ (arrV _ _ _).slots.size ≤ _); rw [arrV_size]; exact hi) rfl rfl d fun H1 e1 z oq =>
    kk p l e s m args below meth c A H1 _ la CC (hH.put hσ z (zst_l (A := A) e1) oq) (hS.put z oq (hH.isA hσ)) hl
/-- a place of the cache of constants: an enum's constant -/
theorem z_kind {idx j : Nat} (d : decode k.2.1 pc = .ok (.getstatic idx, 3)) (hj : j < 6) (hw : Cond.fieldLink k.1 idx RX5 (zKn j) "LTaskgraphic$Kind;" ∈ zW ∨ ∃ host, Cond.fieldLinkNest k.1 idx RX5 (zKn j) "LTaskgraphic$Kind;" host ∈ zN)
    (kk : zWP G k F (pc + 3) ls (.ref (G.2.2 j) :: st) σ nx ca sl) : zWP G k F pc ls st σ nx ca sl := by
  intro p l e s m args below meth c A H locs la CC hH hS hl
  have K := kk p l e s m args below meth c A H locs la CC hH hS hl
  obtain ⟨hx, hb, -, hown, hts, hK, hA, -, -, -, -, ho, -⟩ := id CC
  rcases hw with hw | ⟨host, hw⟩
  · exact va_gets hx hb (ho.1 j hj) hS hown (hts _ hw) (fun _ h => h) d K
  · exact va_getsN hx hb (ho.1 j hj) hS hown (va_Nw.use rfl (ho.2.2.2.2.2.2.1 _ hw)) (fun _ h => h) d K
end ZHEAP
section ZCALL
variable {G : zG} {k : zK} {F : zF} {pc nx ca sl : Nat} {ls : zL} {st rest : List Value} {σ : zH} {Q : Option Value → zH → Nat → Prop} {X : String → zH → Nat → Prop}
-- ends
theorem zX (h : zWP G k (zFM G k.2.2.2.1 Q) pc ls st σ nx ca sl) : zWP G k (zFX G k.2.2.2.1 Q X) pc ls st σ nx ca sl := by
  intro p l e s m args below meth c A H locs la CC hH hS hl
  exact vx_ret (h p l e s m args below meth c A H locs la CC hH hS hl)
theorem z_iret {v : Int32} (d : decode k.2.1 pc = .ok (.ireturn, 1)) (hr : k.2.2.2.2.1 = some .int) (hca : ca ≤ k.2.2.2.1.cells) (hsl : sl ≤ k.2.2.2.1.slots) (hq : Q (some (.int v)) σ nx) : zWP G k (zFM G k.2.2.2.1 Q) pc ls [.int v] σ nx ca sl := by
  intro p l e s m args below meth c A H locs la CC hH hS hl
  obtain ⟨hx, hb, -, hown, hts, hK, hA, hlo, hret, -⟩ := id CC
  refine W.widen hca hsl ?_
  exact W.iret hx hb (hret.trans hr) (fun t ht hW => ⟨⟨_, σ, nx, rfl, hq, by rw [ht]; exact hH⟩, hS.F ht⟩) hS.2.2 d hlo
theorem z_zret {v : Int32} (d : decode k.2.1 pc = .ok (.ireturn, 1)) (hr : k.2.2.2.2.1 = some .boolean) (hn : narrow .boolean (.int v) = .int v) (hca : ca ≤ k.2.2.2.1.cells) (hsl : sl ≤ k.2.2.2.1.slots) (hq : Q (some (.int v)) σ nx) : zWP G k (zFM G k.2.2.2.1 Q) pc ls [.int v] σ nx ca sl := by
  intro p l e s m args below meth c A H locs la CC hH hS hl
  obtain ⟨hx, hb, -, hown, hts, hK, hA, hlo, hret, -⟩ := id CC
  refine W.widen hca hsl ?_
  exact W.zret hx hb (hret.trans hr) hn (fun t ht hW => ⟨⟨_, σ, nx, rfl, hq, by rw [ht]; exact hH⟩, hS.F ht⟩) hS.2.2 d hlo
theorem z_vret (d : decode k.2.1 pc = .ok (.return_, 1)) (hr : k.2.2.2.2.1 = none) (hca : ca ≤ k.2.2.2.1.cells) (hsl : sl ≤ k.2.2.2.1.slots) (hq : Q none σ nx) : zWP G k (zFM G k.2.2.2.1 Q) pc ls [] σ nx ca sl := by
  intro p l e s m args below meth c A H locs la CC hH hS hl
  obtain ⟨hx, hb, -, hown, hts, hK, hA, hlo, hret, -⟩ := id CC
  refine W.widen hca hsl ?_
  exact W.vret hx hb (hret.trans hr) (fun t ht hW => ⟨⟨_, σ, nx, rfl, hq, by rw [ht]; exact hH⟩, hS.F ht⟩) hS.2.2 d hlo
theorem z_aret {a : Nat} {rt : FieldType} (d : decode k.2.1 pc = .ok (.areturn, 1)) (hr : k.2.2.2.2.1 = some rt) (hrt : (∃ n, rt = .object n) ∨ ∃ t, rt = .array t) (hca : ca ≤ k.2.2.2.1.cells) (hsl : sl ≤ k.2.2.2.1.slots) (hq : Q (some (.ref a)) σ nx) : zWP G k (zFM G k.2.2.2.1 Q) pc ls [.ref a] σ nx ca sl := by
  intro p l e s m args below meth c A H locs la CC hH hS hl
  obtain ⟨hx, hb, -, hown, hts, hK, hA, hlo, hret, -⟩ := id CC
  refine W.widen hca hsl ?_
  exact W.aret hx hb (hret.trans hr) hrt (Or.inr ⟨_, rfl⟩) (fun t ht hW => ⟨⟨_, σ, nx, rfl, hq, by rw [ht]; exact hH⟩, hS.F ht⟩) hS.2.2 d hlo
theorem z_lret {v : Int64} (d : decode k.2.1 pc = .ok (.lreturn, 1)) (hr : k.2.2.2.2.1 = some .long) (hca : ca ≤ k.2.2.2.1.cells) (hsl : sl ≤ k.2.2.2.1.slots) (hq : Q (some (.long v)) σ nx) : zWP G k (zFM G k.2.2.2.1 Q) pc ls [.long v] σ nx ca sl := by
  intro p l e s m args below meth c A H locs la CC hH hS hl
  obtain ⟨hx, hb, -, hown, hts, hK, hA, hlo, hret, -⟩ := id CC
  refine W.widen hca hsl ?_
  exact W.lret hx hb (hret.trans hr) (fun t ht hW => ⟨⟨_, σ, nx, rfl, hq, by rw [ht]; exact hH⟩, hS.F ht⟩) hS.2.2 d hlo
theorem z_fret {v : UInt32} (d : decode k.2.1 pc = .ok (.freturn, 1)) (hr : k.2.2.2.2.1 = some .float) (hca : ca ≤ k.2.2.2.1.cells) (hsl : sl ≤ k.2.2.2.1.slots) (hq : Q (some (.float v)) σ nx) : zWP G k (zFM G k.2.2.2.1 Q) pc ls [.float v] σ nx ca sl := by
  intro p l e s m args below meth c A H locs la CC hH hS hl
  obtain ⟨hx, hb, -, hown, hts, hK, hA, hlo, hret, -⟩ := id CC
  refine W.widen hca hsl ?_
  exact W.fret hx hb (hret.trans hr) (fun t ht hW => ⟨⟨_, σ, nx, rfl, hq, by rw [ht]; exact hH⟩, hS.F ht⟩) hS.2.2 d hlo
-- a body's begin
theorem zC_of {y : MethodName} {p : Program} {l : Launch} {e : Env} {s s₁ : State} {m : MethodId} {args : Array Value} {below : List Frame} {meth : Method} {c : Code} (hk : k.1 = y.cls ∧ k.2.2.2.2.2.1 = y.name ∧ k.2.2.2.2.2.2 = []) (hl : l.stackTraces = false)
    (B : BodyLoose p l y (headSpec (.code y k.2.1 k.2.2.1 k.2.2.2.2.1 :: zW) k.2.2.2.1) k.2.1 k.2.2.1 k.2.2.2.2.1 e s m args below meth c s₁) (hml : c.maxLocals = k.2.2.1) (hP : zPre G σ nx s) : zC G k p l s m args meth c (zA σ nx) := by
  obtain ⟨hH, hK, ho⟩ := hP
  have hts := atoms_spec (ws := Cond.code y k.2.1 k.2.2.1 k.2.2.2.2.1 :: zW) B.pre
  have ht : c.exceptionTable.toList = [] := by
    obtain ⟨meth9, c9, h1, h2, -, -, -, -, h7, -⟩ := Cond.code_spec B.named (hts _ List.mem_cons_self)
    cases Option.some.inj (h1.symm.trans B.method)
    cases Option.some.inj (h2.symm.trans (Stand.of_body B).code)
    rw [Array.isEmpty_iff.mp h7]
  have hown : s.vm.findClass y.cls = some m.cls := findClass_of_methodNamed B.named
  refine ⟨B.exec, B.bytes, hml, by rw [hk.1]; exact hown, fun w hw => hts w (List.mem_cons_of_mem _ hw), hK, fun q hq => Or.inr (by rw [← hH.1]; exact hq), B.notSynchronized, B.returns, by rw [hk.2.1]; exact (name_of_methodNamed B.named B.method).1, by rw [ht, hk.2.2]; rfl, ho, hl⟩
theorem zM.of {y : MethodName} {as : List Value} (hy : plainName y.cls = true) (hk : k.1 = y.cls ∧ k.2.2.2.2.2.1 = y.name ∧ k.2.2.2.2.2.2 = []) (hn : (lg_sl as).length ≤ k.2.2.1) (hls : ∀ q ∈ zTL 0 ls, q ∈ lv_args 0 as)
    (body : zWP G k (zFM G k.2.2.2.1 Q) 0 ls [] σ nx 0 0) : zM G y k as σ nx Q := by
  intro l hl
  refine Met.ofW (cc := k.2.1) (maxL := k.2.2.1) (ret := k.2.2.2.2.1) hy rfl ?_
  intro p e s m args below meth c s₁ B hml hv
  obtain ⟨rfl, hP⟩ := hv
  have CC := zC_of hk hl B hml hP
  have hh := lv_entry as (n := k.2.2.1) hn
  rw [lg_entry_eq]
  generalize (lg_sl as ++ List.replicate (k.2.2.1 - (lg_sl as).length) Slot.unset).toArray = la at hh ⊢
  exact body p l e s m as.toArray below meth c (zA σ nx) s.heap [] la CC (hP.1.weaken fun a x hx _ => Or.inl ⟨x, hx⟩) va_S.rf ⟨hh.1, hh.2.1, fun q h => hh.2.2 q (hls q h)⟩
theorem zMX.of {y : MethodName} {as : List Value} (hy : plainName y.cls = true) (hk : k.1 = y.cls ∧ k.2.2.2.2.2.1 = y.name ∧ k.2.2.2.2.2.2 = []) (hn : (lg_sl as).length ≤ k.2.2.1) (hls : ∀ q ∈ zTL 0 ls, q ∈ lv_args 0 as)
    (body : zWP G k (zFX G k.2.2.2.1 Q X) 0 ls [] σ nx 0 0) : zMX G y k as σ nx Q X := by
  intro l hl
  refine vx_ofW (cc := k.2.1) (maxL := k.2.2.1) (ret := k.2.2.2.2.1) hy rfl ?_
  intro p e s m args below meth c s₁ B hml _ hv
  obtain ⟨rfl, hP⟩ := hv
  have CC := zC_of hk hl B hml hP
  have hh := lv_entry as (n := k.2.2.1) hn
  rw [lg_entry_eq]
  generalize (lg_sl as ++ List.replicate (k.2.2.1 - (lg_sl as).length) Slot.unset).toArray = la at hh ⊢
  exact body p l e s m as.toArray below meth c (zA σ nx) s.heap [] la CC (hP.1.weaken fun a x hx _ => Or.inl ⟨x, hx⟩) va_S.rf ⟨hh.1, hh.2.1, fun q h => hh.2.2 q (hls q h)⟩
-- calls
theorem zPre_blind {as : List Value} : FrameBlind (va_Pc as (zPre G σ nx)) := by
  rintro a U g mk ⟨h1, hH, hK, ho⟩
  exact ⟨h1, hH, va_K.moved (u := U) (U := U.calling g mk a) (Vm.Alike.refl U.vm) hK, zO.calling (U := U) (V := U.calling g mk a) rfl rfl ho⟩
theorem zPre_in {p : Program} {l : Launch} {s U : State} {m : MethodId} {args : Array Value} {meth : Method} {c : Code} {A : Nat → Prop} {H : Heap} {locs : List Loc} (CC : zC G k p l s m args meth c A) (hH : zHR G A σ nx H) (hS : va_S A s.heap H locs) (hU : U.heap = H) (hW : s.WarmedH U.vm) : zPre G σ nx U := by
  obtain ⟨-, -, -, -, -, hK, hA, -, -, -, -, ho, -⟩ := CC
  exact ⟨by rw [hU]; exact hH.weaken fun _ _ _ _ => trivial, va_K.moved hW.alike hK, zO.step ho hW hU hS (hH.sub fun q hq => hA q (Nat.le_trans hS.1 (by rw [hH.1]; exact hq)))⟩
theorem z_run {p : Program} {l : Launch} {e : Env} {s : State} {m : MethodId} {args a9 : Array Value} {below : List Frame} {meth : Method} {c : Code} {A : Nat → Prop} {H : Heap} {locs : List Loc} {la : Array Slot} {mc ms : Nat} {Q' : Option Value → zH → Nat → Prop}
    (CC : zC G k p l s m args meth c A) (hH : zHR G A σ nx H) (hS : va_S A s.heap H locs) (hl : lv_has la k.2.2.1 (zTL 0 ls)) (hr : va_Run p l e k.2.2.2.1 s m args below meth c H locs ca sl mc ms (F0 m pc la st) rest (zQc G (zA σ nx) Q' a9) (zA σ nx))
    (kk : ∀ (v : Option Value) (σ' : zH) (nx' : Nat), nx ≤ nx' → Q' v σ' nx' → zWP G k F (pc + 3) ls (v.toList ++ rest) σ' nx' (ca + mc) (sl + ms)) : W p l e k.2.2.2.1 s m args below meth c H locs ca sl (F below args s A) (F0 m pc la st) := by
  intro T hT X
  obtain ⟨v, st₀, t, T', L, h0, X', hL, e1, e2, ⟨⟨v', σ', nx', hv, hq, hH'⟩, hz, hk⟩, st⟩ := hr T hT X
  cases hv
  rw [h0] at hz hk
  rw [← e1] at hz hk hH'
  have hA : ∀ q, nx ≤ q → A q := fun q hq => CC.2.2.2.2.2.2.1 q (Nat.le_trans hS.1 (by rw [hH.1]; exact hq))
  have hsub := hH.sub hA
  have hn : nx ≤ nx' := by rw [← hH.1, ← hH'.1]; exact hz
  obtain ⟨t2, a1, b1⟩ := kk v σ' nx' hn hq p l e s m args below meth c A T'.heap (locs ++ L) la CC (hH'.weaken fun a _ _ h => hsub a h)
    ⟨Nat.le_trans hS.1 hz, fun q h1 h2 => by rw [hk q (Nat.lt_of_lt_of_le h1 hS.1) (fun z => h2 (hsub q z))]; exact hS.2.1 q h1 h2, fun q hq => by
      rcases List.mem_append.mp hq with h | h
      · exact hS.2.2 q h
      · exact hsub _ (hL q h)⟩ hl T' rfl X'
  exact ⟨t2, st t2 a1, b1⟩
def zLv (own : String) (idx : Nat) (y : MethodName) (k2 : zK) (n : Nat) : Prop := Cond.methodLink own idx y ∈ zW ∧ Cond.instanceMethod y ∈ zW ∧ Cond.selects y.cls y y ∈ zW ∧ Cond.initialized y.cls ∈ zW ∧ Cond.code y k2.2.1 k2.2.2.1 k2.2.2.2.2.1 ∈ zW ∧ (y.cls ≠ "java/lang/invoke/MethodHandle" ∧ y.cls ≠ "java/lang/invoke/VarHandle" ∧ (parseMethodDescriptor y.desc).map (fun d => d.parameters.length) = some n)
def zLs (own : String) (idx : Nat) (y : MethodName) (k2 : zK) (n : Nat) : Prop := (Cond.methodLink own idx y ∈ zW ∨ ∃ host, Cond.methodLinkNest own idx y host ∈ zN) ∧ Cond.static y ∈ zW ∧ Cond.initialized y.cls ∈ zW ∧ Cond.code y k2.2.1 k2.2.2.1 k2.2.2.2.2.1 ∈ zW ∧ (y.cls ≠ "java/lang/invoke/MethodHandle" ∧ y.cls ≠ "java/lang/invoke/VarHandle" ∧ (parseMethodDescriptor y.desc).map (fun d => d.parameters.length) = some n)
def zLi (own : String) (idx : Nat) (y : MethodName) (k2 : zK) (n : Nat) : Prop := (Cond.methodLink own idx y ∈ zW ∨ ∃ host, Cond.methodLinkNest own idx y host ∈ zN) ∧ Cond.instanceMethod y ∈ zW ∧ Cond.initialized y.cls ∈ zW ∧ Cond.code y k2.2.1 k2.2.2.1 none ∈ zW ∧ y.name = "<init>" ∧ k2.2.2.2.2.1 = none ∧ (y.cls ≠ "java/lang/invoke/MethodHandle" ∧ y.cls ≠ "java/lang/invoke/VarHandle" ∧ (parseMethodDescriptor y.desc).map (fun d => d.parameters.length) = some n)
def zRoom (k k2 : zK) : Prop := k2.2.2.2.1.frames + 1 ≤ k.2.2.2.1.frames ∧ 8 + (k2.2.2.1 + 11) + k2.2.2.2.1.locals ≤ k.2.2.2.1.locals
theorem zws {y : MethodName} {k2 : zK} {a : List Cond} (ha : ∀ w ∈ a, w ∈ zW) (hc : Cond.code y k2.2.1 k2.2.2.1 k2.2.2.2.2.1 ∈ zW) : GoodIn zW (a ++ (Cond.code y k2.2.1 k2.2.2.1 k2.2.2.2.2.1 :: zW)) := zW_good fun w hw => by
  rcases List.mem_append.mp hw with h | h
  · exact ha w h
  · rcases List.mem_cons.mp h with h | h
    · rw [h]; exact hc
    · exact h
theorem z_callV {idx n b ci : Nat} {y : MethodName} {k2 : zK} {As fs : List Value} {Q' : Option Value → zH → Nat → Prop} (d : decode k.2.1 pc = .ok (.invokevirtual idx, 3)) (hlk : zLv k.1 idx y k2 n) (hM : zM G y k2 (.ref b :: As) σ nx Q') (hst : st = As.reverse ++ .ref b :: rest) (hσ : σ b = some (.inr (ci, fs))) (hci : (vwCl[ci]?).map (fun q => q.1) = some y.cls) (hn : As.length = n) (hR : zRoom k k2)
    (hca : ca + k2.2.2.2.1.cells ≤ k.2.2.2.1.cells) (hsl : sl + k2.2.2.2.1.slots ≤ k.2.2.2.1.slots) (hW : (rest.map fun v => v.category).sum ≤ 8)
    (kk : ∀ (v : Option Value) (σ' : zH) (nx' : Nat), nx ≤ nx' → Q' v σ' nx' → zWP G k F (pc + 3) ls (v.toList ++ rest) σ' nx' (ca + k2.2.2.2.1.cells) (sl + k2.2.2.2.1.slots)) : zWP G k F pc ls st σ nx ca sl := by
  intro p l e s m args below meth c A H locs la CC hH hS hl
  obtain ⟨hx, hb, hml, hown, hts, hK, hA, -, -, -, -, ho, htr⟩ := id CC
  obtain ⟨h1, h2, h3, h4, h5, h6⟩ := hlk
  obtain ⟨ws, q0, hP, -, hq, -⟩ := hH.at hσ
  obtain ⟨r, hr1, hr2⟩ := Option.map_eq_some_iff.mp hci
  have hrv := va_recv hK hP hr1 hq
  rw [hr2] at hrv
  refine z_run CC hH hS hl (va_runV (As := As) (rest := rest) ⟨hx, hb, hml, hown, hts⟩ (hM l htr) (cwV n hts (zws (a := [.methodLink k.1 idx y, .instanceMethod y, .selects y.cls y y, .initialized y.cls]) (by simp only [List.mem_cons, List.mem_nil_iff, or_false, forall_eq_or_imp, forall_eq]; exact ⟨h1, h2, h3, h4⟩) h5) rfl rfl rfl ⟨rfl, h6⟩ hR) ⟨zPre_blind, hrv, fun U hU hW => ⟨rfl, zPre_in CC hH hS hU hW⟩⟩ rfl hn hl.1 hst (lv_room hW) d ⟨hca, hsl⟩) kk
theorem z_callS {idx n : Nat} {y : MethodName} {k2 : zK} {As : List Value} {Q' : Option Value → zH → Nat → Prop} (d : decode k.2.1 pc = .ok (.invokestatic idx, 3)) (hlk : zLs k.1 idx y k2 n) (hM : zM G y k2 As σ nx Q') (hst : st = As.reverse ++ rest) (hn : As.length = n) (hR : zRoom k k2)
    (hca : ca + k2.2.2.2.1.cells ≤ k.2.2.2.1.cells) (hsl : sl + k2.2.2.2.1.slots ≤ k.2.2.2.1.slots) (hW : (rest.map fun v => v.category).sum ≤ 8)
    (kk : ∀ (v : Option Value) (σ' : zH) (nx' : Nat), nx ≤ nx' → Q' v σ' nx' → zWP G k F (pc + 3) ls (v.toList ++ rest) σ' nx' (ca + k2.2.2.2.1.cells) (sl + k2.2.2.2.1.slots)) : zWP G k F pc ls st σ nx ca sl := by
  intro p l e s m args below meth c A H locs la CC hH hS hl
  obtain ⟨hx, hb, hml, hown, hts, hK, hA, -, -, -, -, ho, htr⟩ := id CC
  obtain ⟨h1, h2, h3, h4, h5⟩ := hlk
  rcases h1 with h1 | ⟨host, h1⟩
  · exact z_run CC hH hS hl (va_runS (As := As) (rest := rest) ⟨hx, hb, hml, hown, hts⟩ (hM l htr) (va_cwS n hts (zws (a := [.methodLink k.1 idx y, .static y, .initialized y.cls]) (by simp only [List.mem_cons, List.mem_nil_iff, or_false, forall_eq_or_imp, forall_eq]; exact ⟨h1, h2, h3⟩) h4) rfl rfl rfl h5 hR) ⟨zPre_blind, fun U hU hW => ⟨rfl, zPre_in CC hH hS hU hW⟩⟩ rfl hn hl.1 hst (lv_room hW) d ⟨hca, hsl⟩) kk
  · exact z_run CC hH hS hl (va_runSN (As := As) (rest := rest) ⟨hx, hb, hml, hown, hts⟩ (hM l htr) ⟨va_cnB n hts (zws (a := []) (fun w h => nomatch h) h4) rfl rfl rfl (ho.2.2.2.2.2.2.1 _ h1) (hts _ h3) h5 hR, hts _ h2, trivial⟩ ⟨zPre_blind, fun U hU hW => ⟨rfl, zPre_in CC hH hS hU hW⟩⟩ rfl hn hl.1 hst (lv_room hW) d ⟨hca, hsl⟩) kk
theorem z_callI {idx n b : Nat} {y : MethodName} {k2 : zK} {As : List Value} {Q' : Option Value → zH → Nat → Prop} (d : decode k.2.1 pc = .ok (.invokespecial idx, 3)) (hlk : zLi k.1 idx y k2 n) (hM : zM G y k2 (.ref b :: As) σ nx Q') (hst : st = As.reverse ++ .ref b :: rest) (hn : As.length = n) (hR : zRoom k k2)
    (hca : ca + k2.2.2.2.1.cells ≤ k.2.2.2.1.cells) (hsl : sl + k2.2.2.2.1.slots ≤ k.2.2.2.1.slots) (hW : (rest.map fun v => v.category).sum ≤ 8)
    (kk : ∀ (v : Option Value) (σ' : zH) (nx' : Nat), nx ≤ nx' → Q' v σ' nx' → zWP G k F (pc + 3) ls (v.toList ++ rest) σ' nx' (ca + k2.2.2.2.1.cells) (sl + k2.2.2.2.1.slots)) : zWP G k F pc ls st σ nx ca sl := by
  intro p l e s m args below meth c A H locs la CC hH hS hl
  obtain ⟨hx, hb, hml, hown, hts, hK, hA, -, -, -, -, ho, htr⟩ := id CC
  obtain ⟨h1, h2, h3, h4, hnm, hrt, h5⟩ := hlk
  have hM1 := hM l htr
  rw [hrt] at hM1
  have hG : GoodIn zW (Cond.code y k2.2.1 k2.2.2.1 none :: zW) := zW_good fun w hw => by
    rcases List.mem_cons.mp hw with h | h
    · rw [h]; exact h4
    · exact h
  rcases h1 with h1 | ⟨host, h1⟩
  · exact z_run CC hH hS hl (va_runI (As := As) (rest := rest) ⟨hx, hb, hml, hown, hts⟩ hM1 (cwI n hts hG rfl rfl rfl (hts _ h3) (hts _ h1) (hts _ h2) hnm h5 hR) ⟨zPre_blind, fun U hU hW => ⟨rfl, zPre_in CC hH hS hU hW⟩⟩ rfl hn hl.1 hst (lv_room hW) d ⟨hca, hsl⟩) kk
  · exact z_run CC hH hS hl (va_runIN (As := As) (rest := rest) ⟨hx, hb, hml, hown, hts⟩ hM1 ⟨va_cnB n hts hG rfl rfl rfl (ho.2.2.2.2.2.2.1 _ h1) (hts _ h3) h5 hR, hnm, hts _ h2⟩ ⟨zPre_blind, fun U hU hW => ⟨rfl, zPre_in CC hH hS hU hW⟩⟩ rfl hn hl.1 hst (lv_room hW) d ⟨hca, hsl⟩) kk
end ZCALL
end
